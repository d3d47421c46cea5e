/-! Wstat, hanging up. -/
def xu_ren (C : Nat → Nat → Int32) (i : Nat) : Prop := ¬ C 203 0 = -1 ∧ ¬ C 203 0 = C (bk i) 4
def xu_2 (C : Nat → Nat → Int32) (i : Nat) : Nat → Nat → Int32 := match so_abi (cg_C C i) 0 (ob_i C i) with
  | some d => cs_C (cs_C (cg_C C i) (bk (ob_i C i)) 4 (C 203 0)) (bk d) 7 (cg_C C i (bk d) 7 + 1)
  | none => cg_C C i
noncomputable def xu_C (C : Nat → Nat → Int32) (i : Nat) : Nat → Nat → Int32 := wa_C (it_P (xu_ren C i) (xu_2 C i) (cg_C C i)) (ob_i C i) (ln_ (cg_C C i) (bk (ob_i C i))) (C 203 2).toNatClampNeg
noncomputable def xu_R (C : Nat → Nat → Int32) (i : Nat) : Int32 × (Nat → Nat → Int32) := it_P (xu_ren C i ∧ ∃ a, so_abi C 0 i = some a ∧ ¬ so_chi C 0 (C (bk a) 2) (C 203 0) = none) (-6, C) (it_P (¬ xu_ren C i ∧ (C 203 1 = -1 ∧ C 203 2 = -1 ∧ C 203 3 = -1)) (0, C) (if so_nb C + (0 + hr_n C 20 (some i)) ≤ 64 then (0, xu_C C i) else (-11, C)))
theorem d_X_fulfilFor_0 : decode b_X_fulfilFor 0 = .ok (.aload_n 0, 1) := by decide +kernel
theorem d_X_fulfilFor_1 : decode b_X_fulfilFor 1 = .ok (.getfield 45, 3) := by decide +kernel
theorem d_X_fulfilFor_4 : decode b_X_fulfilFor 4 = .ok (.getfield 387, 3) := by decide +kernel
theorem d_X_fulfilFor_7 : decode b_X_fulfilFor 7 = .ok (.iconst (-1), 1) := by decide +kernel
theorem d_X_fulfilFor_8 : decode b_X_fulfilFor 8 = .ok (.if_icmp .eq 21, 3) := by decide +kernel
theorem d_X_fulfilFor_11 : decode b_X_fulfilFor 11 = .ok (.aload_n 0, 1) := by decide +kernel
theorem d_X_fulfilFor_12 : decode b_X_fulfilFor 12 = .ok (.getfield 45, 3) := by decide +kernel
theorem d_X_fulfilFor_15 : decode b_X_fulfilFor 15 = .ok (.getfield 387, 3) := by decide +kernel
theorem d_X_fulfilFor_18 : decode b_X_fulfilFor 18 = .ok (.aload_n 1, 1) := by decide +kernel
theorem d_X_fulfilFor_19 : decode b_X_fulfilFor 19 = .ok (.getfield 340, 3) := by decide +kernel
theorem d_X_fulfilFor_22 : decode b_X_fulfilFor 22 = .ok (.if_icmp .eq 7, 3) := by decide +kernel
theorem d_X_fulfilFor_25 : decode b_X_fulfilFor 25 = .ok (.iconst 1, 1) := by decide +kernel
theorem d_X_fulfilFor_26 : decode b_X_fulfilFor 26 = .ok (.goto 4, 3) := by decide +kernel
theorem d_X_fulfilFor_29 : decode b_X_fulfilFor 29 = .ok (.iconst 0, 1) := by decide +kernel
theorem d_X_fulfilFor_30 : decode b_X_fulfilFor 30 = .ok (.istore_n 2, 1) := by decide +kernel
theorem d_X_fulfilFor_31 : decode b_X_fulfilFor 31 = .ok (.aload_n 0, 1) := by decide +kernel
theorem d_X_fulfilFor_32 : decode b_X_fulfilFor 32 = .ok (.getfield 12, 3) := by decide +kernel
theorem d_X_fulfilFor_35 : decode b_X_fulfilFor 35 = .ok (.iconst 0, 1) := by decide +kernel
theorem d_X_fulfilFor_36 : decode b_X_fulfilFor 36 = .ok (.aload_n 1, 1) := by decide +kernel
theorem d_X_fulfilFor_37 : decode b_X_fulfilFor 37 = .ok (.invokevirtual 297, 3) := by decide +kernel
theorem d_X_fulfilFor_40 : decode b_X_fulfilFor 40 = .ok (.astore_n 3, 1) := by decide +kernel
theorem d_X_fulfilFor_41 : decode b_X_fulfilFor 41 = .ok (.iload_n 2, 1) := by decide +kernel
theorem d_X_fulfilFor_42 : decode b_X_fulfilFor 42 = .ok (.ifCond .eq 29, 3) := by decide +kernel
theorem d_X_fulfilFor_45 : decode b_X_fulfilFor 45 = .ok (.aload_n 3, 1) := by decide +kernel
theorem d_X_fulfilFor_46 : decode b_X_fulfilFor 46 = .ok (.ifnull 25, 3) := by decide +kernel
theorem d_X_fulfilFor_49 : decode b_X_fulfilFor 49 = .ok (.aload_n 0, 1) := by decide +kernel
theorem d_X_fulfilFor_50 : decode b_X_fulfilFor 50 = .ok (.getfield 12, 3) := by decide +kernel
theorem d_X_fulfilFor_53 : decode b_X_fulfilFor 53 = .ok (.iconst 0, 1) := by decide +kernel
theorem d_X_fulfilFor_54 : decode b_X_fulfilFor 54 = .ok (.aload_n 3, 1) := by decide +kernel
theorem d_X_fulfilFor_55 : decode b_X_fulfilFor 55 = .ok (.aload_n 0, 1) := by decide +kernel
theorem d_X_fulfilFor_56 : decode b_X_fulfilFor 56 = .ok (.getfield 45, 3) := by decide +kernel
theorem d_X_fulfilFor_59 : decode b_X_fulfilFor 59 = .ok (.getfield 387, 3) := by decide +kernel
theorem d_X_fulfilFor_62 : decode b_X_fulfilFor 62 = .ok (.invokevirtual 233, 3) := by decide +kernel
theorem d_X_fulfilFor_65 : decode b_X_fulfilFor 65 = .ok (.ifnull 6, 3) := by decide +kernel
theorem d_X_fulfilFor_68 : decode b_X_fulfilFor 68 = .ok (.bipush (-6), 2) := by decide +kernel
theorem d_X_fulfilFor_70 : decode b_X_fulfilFor 70 = .ok (.ireturn, 1) := by decide +kernel
theorem d_X_fulfilFor_71 : decode b_X_fulfilFor 71 = .ok (.iload_n 2, 1) := by decide +kernel
theorem d_X_fulfilFor_72 : decode b_X_fulfilFor 72 = .ok (.ifCond .ne 15, 3) := by decide +kernel
theorem d_X_fulfilFor_75 : decode b_X_fulfilFor 75 = .ok (.aload_n 0, 1) := by decide +kernel
theorem d_X_fulfilFor_76 : decode b_X_fulfilFor 76 = .ok (.getfield 45, 3) := by decide +kernel
theorem d_X_fulfilFor_79 : decode b_X_fulfilFor 79 = .ok (.invokevirtual 393, 3) := by decide +kernel
theorem d_X_fulfilFor_82 : decode b_X_fulfilFor 82 = .ok (.ifCond .eq 5, 3) := by decide +kernel
theorem d_X_fulfilFor_85 : decode b_X_fulfilFor 85 = .ok (.iconst 0, 1) := by decide +kernel
theorem d_X_fulfilFor_86 : decode b_X_fulfilFor 86 = .ok (.ireturn, 1) := by decide +kernel
theorem d_X_fulfilFor_87 : decode b_X_fulfilFor 87 = .ok (.aload_n 0, 1) := by decide +kernel
theorem d_X_fulfilFor_88 : decode b_X_fulfilFor 88 = .ok (.getfield 12, 3) := by decide +kernel
theorem d_X_fulfilFor_91 : decode b_X_fulfilFor 91 = .ok (.aload_n 1, 1) := by decide +kernel
theorem d_X_fulfilFor_92 : decode b_X_fulfilFor 92 = .ok (.iconst 0, 1) := by decide +kernel
theorem d_X_fulfilFor_93 : decode b_X_fulfilFor 93 = .ok (.invokevirtual 261, 3) := by decide +kernel
theorem d_X_fulfilFor_96 : decode b_X_fulfilFor 96 = .ok (.ifCond .ne 6, 3) := by decide +kernel
theorem d_X_fulfilFor_99 : decode b_X_fulfilFor 99 = .ok (.bipush (-11), 2) := by decide +kernel
theorem d_X_fulfilFor_101 : decode b_X_fulfilFor 101 = .ok (.ireturn, 1) := by decide +kernel
theorem d_X_fulfilFor_102 : decode b_X_fulfilFor 102 = .ok (.aload_n 0, 1) := by decide +kernel
theorem d_X_fulfilFor_103 : decode b_X_fulfilFor 103 = .ok (.getfield 12, 3) := by decide +kernel
theorem d_X_fulfilFor_106 : decode b_X_fulfilFor 106 = .ok (.aload_n 1, 1) := by decide +kernel
theorem d_X_fulfilFor_107 : decode b_X_fulfilFor 107 = .ok (.invokevirtual 265, 3) := by decide +kernel
theorem d_X_fulfilFor_110 : decode b_X_fulfilFor 110 = .ok (.astore 4, 2) := by decide +kernel
theorem d_X_fulfilFor_112 : decode b_X_fulfilFor 112 = .ok (.aload_n 0, 1) := by decide +kernel
theorem d_X_fulfilFor_113 : decode b_X_fulfilFor 113 = .ok (.getfield 12, 3) := by decide +kernel
theorem d_X_fulfilFor_116 : decode b_X_fulfilFor 116 = .ok (.iconst 0, 1) := by decide +kernel
theorem d_X_fulfilFor_117 : decode b_X_fulfilFor 117 = .ok (.aload 4, 2) := by decide +kernel
theorem d_X_fulfilFor_119 : decode b_X_fulfilFor 119 = .ok (.invokevirtual 297, 3) := by decide +kernel
theorem d_X_fulfilFor_122 : decode b_X_fulfilFor 122 = .ok (.astore 5, 2) := by decide +kernel
theorem d_X_fulfilFor_124 : decode b_X_fulfilFor 124 = .ok (.iload_n 2, 1) := by decide +kernel
theorem d_X_fulfilFor_125 : decode b_X_fulfilFor 125 = .ok (.ifCond .eq 31, 3) := by decide +kernel
theorem d_X_fulfilFor_128 : decode b_X_fulfilFor 128 = .ok (.aload 5, 2) := by decide +kernel
theorem d_X_fulfilFor_130 : decode b_X_fulfilFor 130 = .ok (.ifnull 26, 3) := by decide +kernel
theorem d_X_fulfilFor_133 : decode b_X_fulfilFor 133 = .ok (.aload 4, 2) := by decide +kernel
theorem d_X_fulfilFor_135 : decode b_X_fulfilFor 135 = .ok (.aload_n 0, 1) := by decide +kernel
theorem d_X_fulfilFor_136 : decode b_X_fulfilFor 136 = .ok (.getfield 45, 3) := by decide +kernel
theorem d_X_fulfilFor_139 : decode b_X_fulfilFor 139 = .ok (.getfield 387, 3) := by decide +kernel
theorem d_X_fulfilFor_142 : decode b_X_fulfilFor 142 = .ok (.putfield 340, 3) := by decide +kernel
theorem d_X_fulfilFor_145 : decode b_X_fulfilFor 145 = .ok (.aload 5, 2) := by decide +kernel
theorem d_X_fulfilFor_147 : decode b_X_fulfilFor 147 = .ok (.dup, 1) := by decide +kernel
theorem d_X_fulfilFor_148 : decode b_X_fulfilFor 148 = .ok (.getfield 272, 3) := by decide +kernel
theorem d_X_fulfilFor_151 : decode b_X_fulfilFor 151 = .ok (.iconst 1, 1) := by decide +kernel
theorem d_X_fulfilFor_152 : decode b_X_fulfilFor 152 = .ok (.iadd, 1) := by decide +kernel
theorem d_X_fulfilFor_153 : decode b_X_fulfilFor 153 = .ok (.putfield 272, 3) := by decide +kernel
theorem d_X_fulfilFor_156 : decode b_X_fulfilFor 156 = .ok (.aload_n 0, 1) := by decide +kernel
theorem d_X_fulfilFor_157 : decode b_X_fulfilFor 157 = .ok (.getfield 45, 3) := by decide +kernel
theorem d_X_fulfilFor_160 : decode b_X_fulfilFor 160 = .ok (.aload 4, 2) := by decide +kernel
theorem d_X_fulfilFor_162 : decode b_X_fulfilFor 162 = .ok (.invokevirtual 396, 3) := by decide +kernel
theorem d_X_fulfilFor_165 : decode b_X_fulfilFor 165 = .ok (.iconst 0, 1) := by decide +kernel
theorem d_X_fulfilFor_166 : decode b_X_fulfilFor 166 = .ok (.ireturn, 1) := by decide +kernel
set_option maxHeartbeats 4000000 in
set_option maxRecDepth 20000 in
theorem ct_X_fulfilFor (E : mm_En) (C : Nat → Nat → Int32) {i : Nat} (hi : i < 64) (hln : ln_ok C) (hw : C 203 2 = -1 ∨ ∃ k, k ≤ 16 ∧ C 203 2 = nI k) : mm_MT E K_X_fulfilFor [.ref 0, .ref (bk i)] (hp_H C) (mm_D (some (.int (xu_R C i).1)) (xu_R C i).2) := by
  have s1 := bk_s hi
  have ho := ob_i_lt (C := C) hi
  have s5 := bk_s ho
  have ko : bk (ob_i C i) = 3 + 2 * ob_i C i := rfl
  obtain ⟨l1, l2⟩ := ln_at (ln_cg hln hi) ho
  have hk16 : (C 203 2).toNatClampNeg ≤ 16 ∧ (C 203 2 = -1 ∨ C 203 2 = nI (C 203 2).toNatClampNeg) := by
    rcases hw with h | ⟨k, h1, h2⟩
    · exact ⟨by rw [h]; decide, Or.inl h⟩
    · have : (C 203 2).toNatClampNeg = k := by rw [h2, nI_clamp (by omega)]
      rw [this]
      exact ⟨h1, Or.inr h2⟩
  have t156 : ∀ (z : Int32) (C2 : Nat → Nat → Int32) (v3 v5 : Value), C2 (bk (ob_i C i)) 9 = nI (ln_ (cg_C C i) (bk (ob_i C i))) → C2 203 2 = C 203 2 → ev_At E K_X_fulfilFor 156 [some (.ref 0), some (.ref (bk i)), some (.int z), some v3, some (.ref (bk (ob_i C i))), some v5] [] (hp_H C2) 0 0 (mm_D (some (.int 0)) (wa_C C2 (ob_i C i) (ln_ (cg_C C i) (bk (ob_i C i))) (C 203 2).toNatClampNeg)) := by
    intro z C2 v3 v5 q1 q2
    refine ev_aload_n (pc := 156) d_X_fulfilFor_156 rfl rfl (by first | rfl | exact mm_rk_rf _) ?_
    refine ev_gR (pc := 157) sh_X (by rfl) fl_X_45 d_X_fulfilFor_157 ?_
    refine ev_aload (pc := 160) d_X_fulfilFor_160 rfl (by first | rfl | exact mm_rk_rf _) ?_
    refine ev_cVv (pc := 162) (ct_W_applyTo E C2 ho q1 l2 (by rw [q2]; exact hk16.2) hk16.1) cl_X_396 jv_W_applyTo ⟨(Nat.le_of_ble_eq_true rfl), (Nat.le_of_ble_eq_true rfl)⟩ rfl sh_W rfl (Nat.le_of_ble_eq_true rfl) d_X_fulfilFor_162 ⟨Nat.zero_le _, Nat.zero_le _⟩ ?_
    refine ev_iconst (pc := 165) (v := 0) d_X_fulfilFor_165 rfl ?_
    exact ev_iret (pc := 166) d_X_fulfilFor_166 rfl (Nat.zero_le _) (Nat.zero_le _) ⟨rfl, rfl⟩
  have t87 : ∀ (z : Int32) (o3 : Option Nat), (z = 0 ↔ ¬ xu_ren C i) → ¬ (xu_ren C i ∧ ∃ a, so_abi C 0 i = some a ∧ ¬ so_chi C 0 (C (bk a) 2) (C 203 0) = none) → ¬ (¬ xu_ren C i ∧ (C 203 1 = -1 ∧ C 203 2 = -1 ∧ C 203 3 = -1)) → ev_At E K_X_fulfilFor 87 [some (.ref 0), some (.ref (bk i)), some (.int z), some (va_rf (o3.map bk)), none, none] [] (hp_H C) 0 0 (mm_D (some (.int (xu_R C i).1)) (xu_R C i).2) := by
    intro z o3 hz n1 n2
    have e1 : xu_R C i = (if so_nb C + (0 + hr_n C 20 (some i)) ≤ 64 then (0, xu_C C i) else (-11, C)) := by
      rw [xu_R, it_f n1, it_f n2]
    rw [e1]
    refine ev_aload_n (pc := 87) d_X_fulfilFor_87 rfl rfl (by first | rfl | exact mm_rk_rf _) ?_
    refine ev_gR (pc := 88) sh_X (by rfl) fl_X_12 d_X_fulfilFor_88 ?_
    refine ev_aload_n (pc := 91) d_X_fulfilFor_91 rfl rfl (by first | rfl | exact mm_rk_rf _) ?_
    refine ev_iconst (pc := 92) (v := 0) d_X_fulfilFor_92 rfl ?_
    refine ev_cV (pc := 93) (ct_S_hasRoom E C (w := 0) hi (by decide)) cl_X_261 jv_S_hasRoom ⟨(Nat.le_of_ble_eq_true rfl), (Nat.le_of_ble_eq_true rfl)⟩ rfl sh_S rfl (Nat.le_of_ble_eq_true rfl) d_X_fulfilFor_93 ⟨Nat.zero_le _, Nat.zero_le _⟩ ?_
    refine ev_if_ne (pc := 96) (tgt := 102) d_X_fulfilFor_96 (by decide) (fun ha => ?_) (fun ha => ?_)
    rotate_left
    · rw [b2_0] at ha
      refine ev_bipush (pc := 99) (v := -11) d_X_fulfilFor_99 (by decide) ?_
      exact ev_iret (pc := 101) d_X_fulfilFor_101 rfl (Nat.zero_le _) (Nat.zero_le _) ⟨by rw [if_neg ha], by rw [if_neg ha]⟩
    rw [b2_0, Classical.not_not] at ha
    rw [if_pos ha]
    clear ha e1
    show ev_At E K_X_fulfilFor 102 _ _ _ _ _ (mm_D (some (.int 0)) (xu_C C i))
    refine ev_aload_n (pc := 102) d_X_fulfilFor_102 rfl rfl (by first | rfl | exact mm_rk_rf _) ?_
    refine ev_gR (pc := 103) sh_X (by rfl) fl_X_12 d_X_fulfilFor_103 ?_
    refine ev_aload_n (pc := 106) d_X_fulfilFor_106 rfl rfl (by first | rfl | exact mm_rk_rf _) ?_
    refine ev_cV (pc := 107) (ct_S_change E C hi) cl_X_265 jv_S_change ⟨(Nat.le_of_ble_eq_true rfl), (Nat.le_of_ble_eq_true rfl)⟩ rfl sh_S rfl (Nat.le_of_ble_eq_true rfl) d_X_fulfilFor_107 ⟨Nat.zero_le _, Nat.zero_le _⟩ ?_
    refine ev_astore (pc := 110) d_X_fulfilFor_110 (by first | rfl | exact mm_rk_rf _) (Nat.le_of_ble_eq_true rfl) rfl ?_
    try dsimp only [List.set]
    refine ev_aload_n (pc := 112) d_X_fulfilFor_112 rfl rfl (by first | rfl | exact mm_rk_rf _) ?_
    refine ev_gR (pc := 113) sh_X (by rfl) fl_X_12 d_X_fulfilFor_113 ?_
    refine ev_iconst (pc := 116) (v := 0) d_X_fulfilFor_116 rfl ?_
    refine ev_aload (pc := 117) d_X_fulfilFor_117 rfl (by first | rfl | exact mm_rk_rf _) ?_
    refine ev_cV (pc := 119) (ct_S_aboveI E (cg_C C i) (t := 0) (by decide) ho) cl_X_297 jv_S_above ⟨(Nat.le_of_ble_eq_true rfl), (Nat.le_of_ble_eq_true rfl)⟩ rfl sh_S rfl (Nat.le_of_ble_eq_true rfl) d_X_fulfilFor_119 ⟨Nat.zero_le _, Nat.zero_le _⟩ ?_
    refine ev_astore (pc := 122) d_X_fulfilFor_122 (by first | rfl | exact mm_rk_rf _) (Nat.le_of_ble_eq_true rfl) rfl ?_
    try dsimp only [List.set]
    refine ev_iload_n (pc := 124) d_X_fulfilFor_124 rfl rfl ?_
    have w0 : cg_C C i 203 0 = C 203 0 := cg_out hi (by omega)
    have w2 : cg_C C i 203 2 = C 203 2 := cg_out hi (by omega)
    refine ev_if_eq (pc := 125) (tgt := 156) d_X_fulfilFor_125 (by decide) (fun hb => ?_) (fun hb => ?_)
    · rw [xu_C, it_f (hz.mp hb)]
      exact t156 z _ _ _ l1 w2
    have hren : xu_ren C i := Classical.not_not.mp (fun y => hb (hz.mpr y))
    rw [xu_C, it_t hren, xu_2]
    refine ev_aload (pc := 128) d_X_fulfilFor_128 rfl (by first | rfl | exact mm_rk_rf _) ?_
    cases hd : so_abi (cg_C C i) 0 (ob_i C i) with
    | none =>
      refine ev_ifnullN (pc := 130) (tgt := 156) d_X_fulfilFor_130 (by decide) ?_
      exact t156 z _ _ .null l1 w2
    | some d =>
      have hdl := so_abi_lt hd
      have s6 := bk_s hdl
      have kd : bk d = 3 + 2 * d := rfl
      refine ev_ifnullR (pc := 130) d_X_fulfilFor_130 ?_
      refine ev_aload (pc := 133) d_X_fulfilFor_133 rfl (by first | rfl | exact mm_rk_rf _) ?_
      refine ev_aload_n (pc := 135) d_X_fulfilFor_135 rfl rfl (by first | rfl | exact mm_rk_rf _) ?_
      refine ev_gR (pc := 136) sh_X (by rfl) fl_X_45 d_X_fulfilFor_136 ?_
      refine ev_gI (pc := 139) sh_W (by rfl) fl_X_387 d_X_fulfilFor_139 ?_
      rw [w0]
      refine ev_pI (pc := 142) (by first | with_reducible assumption | assumption) (by rfl) fl_X_340 fw_0_4 (by rfl) d_X_fulfilFor_142 ?_
      refine ev_aload (pc := 145) (v := .ref (bk d)) d_X_fulfilFor_145 rfl rfl ?_
      refine ev_dup (pc := 147) d_X_fulfilFor_147 (by rfl) ?_
      refine ev_gI (pc := 148) (by first | with_reducible assumption | assumption) (by rfl) fl_X_272 d_X_fulfilFor_148 ?_
      refine ev_iconst (pc := 151) (v := 1) d_X_fulfilFor_151 rfl ?_
      rw [cs_ne _ _ (by omega)]
      refine ev_iadd (pc := 152) d_X_fulfilFor_152 ?_
      refine ev_pI (pc := 153) (by first | with_reducible assumption | assumption) (by rfl) fl_X_272 fw_0_7 (by rfl) d_X_fulfilFor_153 ?_
      exact t156 z _ _ (.ref (bk d)) (by rw [cs_ne _ _ (by omega), cs_ne _ _ (by omega)]; exact l1) (by rw [cs_ne _ _ (by omega), cs_ne _ _ (by omega)]; exact w2)
  have t71 : ∀ (z : Int32) (o3 : Option Nat), (z = 0 ∨ z = 1) → (z = 0 ↔ ¬ xu_ren C i) → ¬ (xu_ren C i ∧ ∃ a, so_abi C 0 i = some a ∧ ¬ so_chi C 0 (C (bk a) 2) (C 203 0) = none) → ev_At E K_X_fulfilFor 71 [some (.ref 0), some (.ref (bk i)), some (.int z), some (va_rf (o3.map bk)), none, none] [] (hp_H C) 0 0 (mm_D (some (.int (xu_R C i).1)) (xu_R C i).2) := by
    intro z o3 h01 hz n1
    refine ev_iload_n (pc := 71) d_X_fulfilFor_71 rfl rfl ?_
    refine ev_if_ne (pc := 72) (tgt := 87) d_X_fulfilFor_72 (by decide) (fun ha => ?_) (fun ha => ?_)
    · exact t87 z o3 hz n1 (fun y => ha (hz.mpr y.1))
    refine ev_aload_n (pc := 75) d_X_fulfilFor_75 rfl rfl (by first | rfl | exact mm_rk_rf _) ?_
    refine ev_gR (pc := 76) sh_X (by rfl) fl_X_45 d_X_fulfilFor_76 ?_
    refine ev_cV (pc := 79) (ct_W_changesNoMoreThanTitle E C) cl_X_393 jv_W_changesNoMoreThanTitle ⟨(Nat.le_of_ble_eq_true rfl), (Nat.le_of_ble_eq_true rfl)⟩ rfl sh_W rfl (Nat.le_of_ble_eq_true rfl) d_X_fulfilFor_79 ⟨Nat.zero_le _, Nat.zero_le _⟩ ?_
    refine ev_if_eq (pc := 82) (tgt := 87) d_X_fulfilFor_82 (by decide) (fun hb => ?_) (fun hb => ?_)
    · rw [b2_0] at hb
      exact t87 z o3 hz n1 (fun y => hb y.2)
    · rw [b2_0, Classical.not_not] at hb
      have n2 := And.intro (hz.mp ha) hb
      refine ev_iconst (pc := 85) (v := 0) d_X_fulfilFor_85 rfl ?_
      exact ev_iret (pc := 86) d_X_fulfilFor_86 rfl (Nat.zero_le _) (Nat.zero_le _) ⟨by rw [xu_R, it_f n1, it_t n2], by rw [xu_R, it_f n1, it_t n2]⟩
  have t30 : ∀ z : Int32, (z = 0 ∨ z = 1) → (z = 0 ↔ ¬ xu_ren C i) → ev_At E K_X_fulfilFor 30 [some (.ref 0), some (.ref (bk i)), none, none, none, none] [.int z] (hp_H C) 0 0 (mm_D (some (.int (xu_R C i).1)) (xu_R C i).2) := by
    intro z h01 hz
    refine ev_istore_n (pc := 30) d_X_fulfilFor_30 rfl (Nat.le_of_ble_eq_true rfl) rfl ?_
    try dsimp only [List.set]
    refine ev_aload_n (pc := 31) d_X_fulfilFor_31 rfl rfl (by first | rfl | exact mm_rk_rf _) ?_
    refine ev_gR (pc := 32) sh_X (by rfl) fl_X_12 d_X_fulfilFor_32 ?_
    refine ev_iconst (pc := 35) (v := 0) d_X_fulfilFor_35 rfl ?_
    refine ev_aload_n (pc := 36) d_X_fulfilFor_36 rfl rfl (by first | rfl | exact mm_rk_rf _) ?_
    refine ev_cV (pc := 37) (ct_S_aboveI E C (t := 0) (by decide) hi) cl_X_297 jv_S_above ⟨(Nat.le_of_ble_eq_true rfl), (Nat.le_of_ble_eq_true rfl)⟩ rfl sh_S rfl (Nat.le_of_ble_eq_true rfl) d_X_fulfilFor_37 ⟨Nat.zero_le _, Nat.zero_le _⟩ ?_
    refine ev_astore_n (pc := 40) d_X_fulfilFor_40 rfl (by first | rfl | exact mm_rk_rf _) (Nat.le_of_ble_eq_true rfl) rfl ?_
    try dsimp only [List.set]
    refine ev_iload_n (pc := 41) d_X_fulfilFor_41 rfl rfl ?_
    refine ev_if_eq (pc := 42) (tgt := 71) d_X_fulfilFor_42 (by decide) (fun ha => ?_) (fun ha => ?_)
    · exact t71 z _ h01 hz (fun y => hz.mp ha y.1)
    have hren : xu_ren C i := Classical.not_not.mp (fun y => ha (hz.mpr y))
    refine ev_aload_n (pc := 45) d_X_fulfilFor_45 rfl rfl (by first | rfl | exact mm_rk_rf _) ?_
    cases hb : so_abi C 0 i with
    | none =>
      refine ev_ifnullN (pc := 46) (tgt := 71) d_X_fulfilFor_46 (by decide) ?_
      exact t71 z none h01 hz (fun ⟨_, a, h1, _⟩ => by rw [hb] at h1; cases h1)
    | some a =>
      have hal := so_abi_lt hb
      have s6 := bk_s hal
      refine ev_ifnullR (pc := 46) d_X_fulfilFor_46 ?_
      refine ev_aload_n (pc := 49) d_X_fulfilFor_49 rfl rfl (by first | rfl | exact mm_rk_rf _) ?_
      refine ev_gR (pc := 50) sh_X (by rfl) fl_X_12 d_X_fulfilFor_50 ?_
      refine ev_iconst (pc := 53) (v := 0) d_X_fulfilFor_53 rfl ?_
      refine ev_aload_n (pc := 54) (v := .ref (bk a)) d_X_fulfilFor_54 rfl rfl rfl ?_
      refine ev_aload_n (pc := 55) d_X_fulfilFor_55 rfl rfl (by first | rfl | exact mm_rk_rf _) ?_
      refine ev_gR (pc := 56) sh_X (by rfl) fl_X_45 d_X_fulfilFor_56 ?_
      refine ev_gI (pc := 59) sh_W (by rfl) fl_X_387 d_X_fulfilFor_59 ?_
      refine ev_cV (pc := 62) (ct_S_child E C (t := 0) (by decide) s6 _) cl_X_233 jv_S_child ⟨(Nat.le_of_ble_eq_true rfl), (Nat.le_of_ble_eq_true rfl)⟩ rfl sh_S rfl (Nat.le_of_ble_eq_true rfl) d_X_fulfilFor_62 ⟨Nat.zero_le _, Nat.zero_le _⟩ ?_
      cases hc : so_chi C 0 (C (bk a) 2) (C 203 0) with
      | none =>
        refine ev_ifnullN (pc := 65) (tgt := 71) d_X_fulfilFor_65 (by decide) ?_
        exact t71 z (some a) h01 hz (fun ⟨_, a', h1, h2⟩ => by
          rw [hb] at h1
          cases h1
          exact h2 hc)
      | some j =>
        refine ev_ifnullR (pc := 65) d_X_fulfilFor_65 ?_
        have n1 : xu_ren C i ∧ ∃ a, so_abi C 0 i = some a ∧ ¬ so_chi C 0 (C (bk a) 2) (C 203 0) = none := ⟨hren, a, hb, by rw [hc]; exact fun z => by cases z⟩
        refine ev_bipush (pc := 68) (v := -6) d_X_fulfilFor_68 (by decide) ?_
        exact ev_iret (pc := 70) d_X_fulfilFor_70 rfl (Nat.zero_le _) (Nat.zero_le _) ⟨by rw [xu_R, it_t n1], by rw [xu_R, it_t n1]⟩
  refine mm_mtL (by decide) (by rfl) (Nat.le_of_ble_eq_true rfl) rfl ?_
  refine ev_aload_n (pc := 0) d_X_fulfilFor_0 rfl rfl (by first | rfl | exact mm_rk_rf _) ?_
  refine ev_gR (pc := 1) sh_X (by rfl) fl_X_45 d_X_fulfilFor_1 ?_
  refine ev_gI (pc := 4) sh_W (by rfl) fl_X_387 d_X_fulfilFor_4 ?_
  refine ev_iconst (pc := 7) (v := -1) d_X_fulfilFor_7 rfl ?_
  refine ev_icmp_eq (pc := 8) (tgt := 29) d_X_fulfilFor_8 (by decide) (fun ha => ?_) (fun ha => ?_)
  · refine ev_iconst (pc := 29) (v := 0) d_X_fulfilFor_29 rfl ?_
    exact t30 0 (Or.inl rfl) ⟨fun _ y => y.1 ha, fun _ => rfl⟩
  refine ev_aload_n (pc := 11) d_X_fulfilFor_11 rfl rfl (by first | rfl | exact mm_rk_rf _) ?_
  refine ev_gR (pc := 12) sh_X (by rfl) fl_X_45 d_X_fulfilFor_12 ?_
  refine ev_gI (pc := 15) sh_W (by rfl) fl_X_387 d_X_fulfilFor_15 ?_
  refine ev_aload_n (pc := 18) d_X_fulfilFor_18 rfl rfl (by first | rfl | exact mm_rk_rf _) ?_
  refine ev_gI (pc := 19) (by first | with_reducible assumption | assumption) (by rfl) fl_X_340 d_X_fulfilFor_19 ?_
  refine ev_icmp_eq (pc := 22) (tgt := 29) d_X_fulfilFor_22 (by decide) (fun hb => ?_) (fun hb => ?_)
  · refine ev_iconst (pc := 29) (v := 0) d_X_fulfilFor_29 rfl ?_
    exact t30 0 (Or.inl rfl) ⟨fun _ y => y.2 hb, fun _ => rfl⟩
  · refine ev_iconst (pc := 25) (v := 1) d_X_fulfilFor_25 rfl ?_
    refine ev_goto (pc := 26) (tgt := 30) d_X_fulfilFor_26 (by decide) ?_
    exact t30 1 (Or.inr rfl) ⟨fun y => absurd y (by decide), fun y => absurd ⟨ha, hb⟩ y⟩
def xw_can (C : Nat → Nat → Int32) (i : Nat) : Prop := (C 203 0 = -1 ∨ (¬ C 203 0 < 1 ∧ ¬ 99 < C 203 0 ∧ ¬ C (bk i) 2 = 0)) ∧ (C 203 2 = -1 ∨ (¬ C 203 2 < 0 ∧ ¬ 16 < C 203 2 ∧ (C (bk i) 8 &&& 2048) = 0)) ∧ ¬ C 203 1 < -1 ∧ ¬ 2048 ≤ C 203 1 ∧ (C 203 3 = -1 ∨ (¬ C 203 3 < 0 ∧ ¬ 4 ≤ C 203 3))
noncomputable def xy_R (C : Nat → Nat → Int32) (f t r : Nat) : Int32 × (Nat → Nat → Int32) := if C f 0 = 0 then (-1, C) else (match so_i C t (C f 4) with
  | none => (-13, C)
  | some i => if ¬ C f 3 = 0 then (-9, C) else it_P (xw_can (wi_bec C r 4) i) (it_P (xw_may (wi_bec C r 4) (C f 2) i) (xu_R (wi_bec C r 4) i) (-5, wi_bec C r 4)) (-7, wi_bec C r 4))
theorem wb_ne {C : Nat → Nat → Int32} {r n a j : Nat} (h : a ≠ 203) : wi_bec C r n a j = C a j := by
  unfold wi_bec
  rw [cs_ne _ _ (by omega), cs_ne _ _ (by omega), cs_ne _ _ (by omega), cs_ne _ _ (by omega)]
theorem d_X_wstat_0 : decode b_X_wstat 0 = .ok (.aload_n 1, 1) := by decide +kernel
theorem d_X_wstat_1 : decode b_X_wstat 1 = .ok (.getfield 116, 3) := by decide +kernel
theorem d_X_wstat_4 : decode b_X_wstat 4 = .ok (.ifCond .ne 5, 3) := by decide +kernel
theorem d_X_wstat_7 : decode b_X_wstat 7 = .ok (.iconst (-1), 1) := by decide +kernel
theorem d_X_wstat_8 : decode b_X_wstat 8 = .ok (.ireturn, 1) := by decide +kernel
theorem d_X_wstat_9 : decode b_X_wstat 9 = .ok (.aload_n 0, 1) := by decide +kernel
theorem d_X_wstat_10 : decode b_X_wstat 10 = .ok (.aload_n 1, 1) := by decide +kernel
theorem d_X_wstat_11 : decode b_X_wstat 11 = .ok (.invokevirtual 217, 3) := by decide +kernel
theorem d_X_wstat_14 : decode b_X_wstat 14 = .ok (.astore_n 3, 1) := by decide +kernel
theorem d_X_wstat_15 : decode b_X_wstat 15 = .ok (.aload_n 3, 1) := by decide +kernel
theorem d_X_wstat_16 : decode b_X_wstat 16 = .ok (.ifnonnull 6, 3) := by decide +kernel
theorem d_X_wstat_19 : decode b_X_wstat 19 = .ok (.bipush (-13), 2) := by decide +kernel
theorem d_X_wstat_21 : decode b_X_wstat 21 = .ok (.ireturn, 1) := by decide +kernel
theorem d_X_wstat_22 : decode b_X_wstat 22 = .ok (.aload_n 1, 1) := by decide +kernel
theorem d_X_wstat_23 : decode b_X_wstat 23 = .ok (.invokevirtual 124, 3) := by decide +kernel
theorem d_X_wstat_26 : decode b_X_wstat 26 = .ok (.ifCond .eq 6, 3) := by decide +kernel
theorem d_X_wstat_29 : decode b_X_wstat 29 = .ok (.bipush (-9), 2) := by decide +kernel
theorem d_X_wstat_31 : decode b_X_wstat 31 = .ok (.ireturn, 1) := by decide +kernel
theorem d_X_wstat_32 : decode b_X_wstat 32 = .ok (.aload_n 0, 1) := by decide +kernel
theorem d_X_wstat_33 : decode b_X_wstat 33 = .ok (.getfield 45, 3) := by decide +kernel
theorem d_X_wstat_36 : decode b_X_wstat 36 = .ok (.aload_n 2, 1) := by decide +kernel
theorem d_X_wstat_37 : decode b_X_wstat 37 = .ok (.invokevirtual 372, 3) := by decide +kernel
theorem d_X_wstat_40 : decode b_X_wstat 40 = .ok (.aload_n 0, 1) := by decide +kernel
theorem d_X_wstat_41 : decode b_X_wstat 41 = .ok (.getfield 45, 3) := by decide +kernel
theorem d_X_wstat_44 : decode b_X_wstat 44 = .ok (.aload_n 3, 1) := by decide +kernel
theorem d_X_wstat_45 : decode b_X_wstat 45 = .ok (.invokevirtual 376, 3) := by decide +kernel
theorem d_X_wstat_48 : decode b_X_wstat 48 = .ok (.ifCond .ne 6, 3) := by decide +kernel
theorem d_X_wstat_51 : decode b_X_wstat 51 = .ok (.bipush (-7), 2) := by decide +kernel
theorem d_X_wstat_53 : decode b_X_wstat 53 = .ok (.ireturn, 1) := by decide +kernel
theorem d_X_wstat_54 : decode b_X_wstat 54 = .ok (.aload_n 0, 1) := by decide +kernel
theorem d_X_wstat_55 : decode b_X_wstat 55 = .ok (.aload_n 1, 1) := by decide +kernel
theorem d_X_wstat_56 : decode b_X_wstat 56 = .ok (.getfield 237, 3) := by decide +kernel
theorem d_X_wstat_59 : decode b_X_wstat 59 = .ok (.aload_n 3, 1) := by decide +kernel
theorem d_X_wstat_60 : decode b_X_wstat 60 = .ok (.invokevirtual 379, 3) := by decide +kernel
theorem d_X_wstat_63 : decode b_X_wstat 63 = .ok (.ifCond .eq 11, 3) := by decide +kernel
theorem d_X_wstat_66 : decode b_X_wstat 66 = .ok (.aload_n 0, 1) := by decide +kernel
theorem d_X_wstat_67 : decode b_X_wstat 67 = .ok (.aload_n 3, 1) := by decide +kernel
theorem d_X_wstat_68 : decode b_X_wstat 68 = .ok (.invokevirtual 383, 3) := by decide +kernel
theorem d_X_wstat_71 : decode b_X_wstat 71 = .ok (.goto 5, 3) := by decide +kernel
theorem d_X_wstat_74 : decode b_X_wstat 74 = .ok (.bipush (-5), 2) := by decide +kernel
theorem d_X_wstat_76 : decode b_X_wstat 76 = .ok (.ireturn, 1) := by decide +kernel
set_option maxHeartbeats 4000000 in
set_option maxRecDepth 20000 in
theorem ct_X_wstat (E : mm_En) (C : Nat → Nat → Int32) {f t r : Nat} (hf : fi_n f) (ht : t ≤ 4) (he : C f 3 = nI t) (hr : rw_s r 4) (hr1 : r ≠ 203 ∧ r + 1 ≠ 203) (hln : ln_ok C) : mm_MT E K_X_wstat [.ref 0, .ref f, .ref r] (hp_H C) (mm_D (some (.int (xy_R C f t r).1)) (xy_R C f t r).2) := by
  obtain ⟨s1, f1, f2⟩ := hf
  refine mm_mtL (by decide) (by rfl) (Nat.le_of_ble_eq_true rfl) rfl ?_
  refine ev_aload_n (pc := 0) d_X_wstat_0 rfl rfl (by first | rfl | exact mm_rk_rf _) ?_
  refine ev_gI (pc := 1) (by first | with_reducible assumption | assumption) (by rfl) fl_X_116 d_X_wstat_1 ?_
  refine ev_if_ne (pc := 4) (tgt := 9) d_X_wstat_4 (by decide) (fun ha => ?_) (fun ha => ?_)
  rotate_left
  · refine ev_iconst (pc := 7) (v := -1) d_X_wstat_7 rfl ?_
    exact ev_iret (pc := 8) d_X_wstat_8 rfl (Nat.zero_le _) (Nat.zero_le _) ⟨by rw [xy_R, if_pos ha], by rw [xy_R, if_pos ha]⟩
  refine ev_aload_n (pc := 9) d_X_wstat_9 rfl rfl (by first | rfl | exact mm_rk_rf _) ?_
  refine ev_aload_n (pc := 10) d_X_wstat_10 rfl rfl (by first | rfl | exact mm_rk_rf _) ?_
  refine ev_cV (pc := 11) (ct_X_nodeOf E C s1 (by omega) he) cl_X_217 jv_X_nodeOf ⟨(Nat.le_of_ble_eq_true rfl), (Nat.le_of_ble_eq_true rfl)⟩ rfl sh_X rfl (Nat.le_of_ble_eq_true rfl) d_X_wstat_11 ⟨Nat.zero_le _, Nat.zero_le _⟩ ?_
  refine ev_astore_n (pc := 14) d_X_wstat_14 rfl (by first | rfl | exact mm_rk_rf _) (Nat.le_of_ble_eq_true rfl) rfl ?_
  try dsimp only [List.set]
  refine ev_aload_n (pc := 15) d_X_wstat_15 rfl rfl (by first | rfl | exact mm_rk_rf _) ?_
  cases hq : so_i C t (C f 4) with
  | none =>
    refine ev_ifnonnullN (pc := 16) d_X_wstat_16 ?_
    refine ev_bipush (pc := 19) (v := -13) d_X_wstat_19 (by decide) ?_
    exact ev_iret (pc := 21) d_X_wstat_21 rfl (Nat.zero_le _) (Nat.zero_le _) ⟨by rw [xy_R, if_neg ha, hq], by rw [xy_R, if_neg ha, hq]⟩
  | some i =>
    have hi := so_i_lt hq
    have s3 := bk_s hi
    have nb := bk_ne hi
    refine ev_ifnonnullR (pc := 16) (tgt := 22) d_X_wstat_16 (by decide) ?_
    refine ev_eq rfl (show _ = [some (.ref 0), some (.ref f), some (.ref r), some (.ref (bk i))] from rfl) rfl rfl rfl rfl ?_
    refine ev_aload_n (pc := 22) d_X_wstat_22 rfl rfl (by first | rfl | exact mm_rk_rf _) ?_
    refine ev_cV (pc := 23) (ct_F_isInSnapshot E C s1) cl_X_124 jv_F_isInSnapshot ⟨(Nat.le_of_ble_eq_true rfl), (Nat.le_of_ble_eq_true rfl)⟩ rfl (by first | with_reducible assumption | assumption) rfl (Nat.le_of_ble_eq_true rfl) d_X_wstat_23 ⟨Nat.zero_le _, Nat.zero_le _⟩ ?_
    refine ev_if_eq (pc := 26) (tgt := 32) d_X_wstat_26 (by decide) (fun hb => ?_) (fun hb => ?_)
    rotate_left
    · rw [b2_0, Classical.not_not] at hb
      refine ev_bipush (pc := 29) (v := -9) d_X_wstat_29 (by decide) ?_
      exact ev_iret (pc := 31) d_X_wstat_31 rfl (Nat.zero_le _) (Nat.zero_le _) ⟨by rw [xy_R, if_neg ha, hq]; simp only []; rw [if_pos hb], by rw [xy_R, if_neg ha, hq]; simp only []; rw [if_pos hb]⟩
    rw [b2_0] at hb
    have e1 : xy_R C f t r = it_P (xw_can (wi_bec C r 4) i) (it_P (xw_may (wi_bec C r 4) (C f 2) i) (xu_R (wi_bec C r 4) i) (-5, wi_bec C r 4)) (-7, wi_bec C r 4) := by
      rw [xy_R, if_neg ha, hq]
      simp only []
      rw [if_neg hb]
    rw [e1]
    refine ev_aload_n (pc := 32) d_X_wstat_32 rfl rfl (by first | rfl | exact mm_rk_rf _) ?_
    refine ev_gR (pc := 33) sh_X (by rfl) fl_X_45 d_X_wstat_33 ?_
    refine ev_aload_n (pc := 36) d_X_wstat_36 rfl rfl (by first | rfl | exact mm_rk_rf _) ?_
    refine ev_cVv (pc := 37) (ct_W_become E C hr (by decide) hr1.1 hr1.2) cl_X_372 jv_W_become ⟨(Nat.le_of_ble_eq_true rfl), (Nat.le_of_ble_eq_true rfl)⟩ rfl sh_W rfl (Nat.le_of_ble_eq_true rfl) d_X_wstat_37 ⟨Nat.zero_le _, Nat.zero_le _⟩ ?_
    refine ev_aload_n (pc := 40) d_X_wstat_40 rfl rfl (by first | rfl | exact mm_rk_rf _) ?_
    refine ev_gR (pc := 41) sh_X (by rfl) fl_X_45 d_X_wstat_41 ?_
    refine ev_aload_n (pc := 44) d_X_wstat_44 rfl rfl (by first | rfl | exact mm_rk_rf _) ?_
    refine ev_cV (pc := 45) (ct_W_canBe E (wi_bec C r 4) s3) cl_X_376 jv_W_canBe ⟨(Nat.le_of_ble_eq_true rfl), (Nat.le_of_ble_eq_true rfl)⟩ rfl sh_W rfl (Nat.le_of_ble_eq_true rfl) d_X_wstat_45 ⟨Nat.zero_le _, Nat.zero_le _⟩ ?_
    refine ev_if_ne (pc := 48) (tgt := 54) d_X_wstat_48 (by decide) (fun hc => ?_) (fun hc => ?_)
    rotate_left
    · rw [b2_0] at hc
      refine ev_bipush (pc := 51) (v := -7) d_X_wstat_51 (by decide) ?_
      exact ev_iret (pc := 53) d_X_wstat_53 rfl (Nat.zero_le _) (Nat.zero_le _) ⟨by rw [it_f (show ¬ xw_can (wi_bec C r 4) i from hc)], by rw [it_f (show ¬ xw_can (wi_bec C r 4) i from hc)]⟩
    rw [b2_0, Classical.not_not] at hc
    rw [it_t (show xw_can (wi_bec C r 4) i from hc)]
    refine ev_aload_n (pc := 54) d_X_wstat_54 rfl rfl (by first | rfl | exact mm_rk_rf _) ?_
    refine ev_aload_n (pc := 55) d_X_wstat_55 rfl rfl (by first | rfl | exact mm_rk_rf _) ?_
    refine ev_gI (pc := 56) (by first | with_reducible assumption | assumption) (by rfl) fl_X_237 d_X_wstat_56 ?_
    refine ev_aload_n (pc := 59) d_X_wstat_59 rfl rfl (by first | rfl | exact mm_rk_rf _) ?_
    rw [wb_ne (by omega)]
    refine ev_cV (pc := 60) (ct_X_mayWish E (wi_bec C r 4) hi _) cl_X_379 jv_X_mayWish ⟨(Nat.le_of_ble_eq_true rfl), (Nat.le_of_ble_eq_true rfl)⟩ rfl sh_X rfl (Nat.le_of_ble_eq_true rfl) d_X_wstat_60 ⟨Nat.zero_le _, Nat.zero_le _⟩ ?_
    refine ev_if_eq (pc := 63) (tgt := 74) d_X_wstat_63 (by decide) (fun hd => ?_) (fun hd => ?_)
    · rw [b3_0] at hd
      refine ev_bipush (pc := 74) (v := -5) d_X_wstat_74 (by decide) ?_
      exact ev_iret (pc := 76) d_X_wstat_76 rfl (Nat.zero_le _) (Nat.zero_le _) ⟨by rw [it_f hd], by rw [it_f hd]⟩
    rw [b3_0, Classical.not_not] at hd
    rw [it_t hd]
    refine ev_aload_n (pc := 66) d_X_wstat_66 rfl rfl (by first | rfl | exact mm_rk_rf _) ?_
    refine ev_aload_n (pc := 67) d_X_wstat_67 rfl rfl (by first | rfl | exact mm_rk_rf _) ?_
    have hM := ct_X_fulfilFor E (wi_bec C r 4) hi (fun j hj => by
      obtain ⟨l, h1, h2⟩ := hln j hj
      have nj := bk_ne hj
      exact ⟨l, h1, by rw [wb_ne nj.2.2.1]; exact h2⟩) (by
      rcases hc.2.1 with h | ⟨h1, h2, -⟩
      · exact Or.inl h
      · obtain ⟨k, h3, h4⟩ := nI_of2 (M := 16) (n := 16) (by decide) h1 (Int32.not_lt.mp h2)
        exact Or.inr ⟨k, h3, h4⟩)
    refine ev_cV (pc := 68) hM cl_X_383 jv_X_fulfilFor ⟨(Nat.le_of_ble_eq_true rfl), (Nat.le_of_ble_eq_true rfl)⟩ rfl sh_X rfl (Nat.le_of_ble_eq_true rfl) d_X_wstat_68 ⟨Nat.zero_le _, Nat.zero_le _⟩ ?_
    refine ev_goto (pc := 71) (tgt := 76) d_X_wstat_71 (by decide) ?_
    exact ev_iret (pc := 76) d_X_wstat_76 rfl (Nat.zero_le _) (Nat.zero_le _) ⟨rfl, rfl⟩
/-! what clunk leaves as it was -/
theorem xr_out {C : Nat → Nat → Int32} {u p : Int32} {t a j : Nat} (h : 131 ≤ a) : (xr_R C u t p).2 a j = C a j := by
  unfold xr_R
  cases hq : so_i C t p with
  | none => rfl
  | some i =>
    have hi := so_i_lt hq
    simp only []
    split
    · rfl
    · cases hb : so_abi C 0 i with
      | none => rfl
      | some b =>
        have hbl := so_abi_lt hb
        simp only []
        by_cases hm : my_P C u b 2
        · rw [it_t hm]
          split
          · rfl
          · split
            · have k1 : bk i = 3 + 2 * i := rfl
              have k2 : bk (ob_i C b) = 3 + 2 * ob_i C b := rfl
              have := ob_i_lt (C := C) hbl
              show xr_fin C i b a j = C a j
              unfold xr_fin bl_lv
              rw [cs_ne _ _ (by omega), cs_ne _ _ (by omega), cg_out hbl (by omega)]
            · rfl
        · rw [it_f hm]
theorem xk_out {C : Nat → Nat → Int32} {f t a j : Nat} (h : 131 ≤ a) (h2 : ¬ (a = f ∧ j < 2)) : (xk_R C f t).2 a j = C a j := by
  unfold xk_R
  split
  · rfl
  · split
    · show (xr_R (fi_free C f) (C f 2) t (C f 4)).2 a j = C a j
      rw [xr_out h, ff_ne h2]
    · exact ff_ne h2
/-- the fids below n of connection c are clunked -/
noncomputable def hu_f (C : Nat → Nat → Int32) (c : Nat) : Nat → Nat → Nat → Int32
  | 0 => cn_dq C c 8
  | n + 1 => (xk_R (hu_f C c n) (cn_f c n) (C (cn_f c n) 3).toNatClampNeg).2
theorem hu_tree {C : Nat → Nat → Int32} {c f : Nat} (hc : c < 2) (hf : f < 6) : ∀ n, hu_f C c n (cn_f c f) 3 = C (cn_f c f) 3 := by
  intro n
  induction n with
  | zero =>
    show cn_dq C c 8 (cn_f c f) 3 = _
    unfold cn_dq
    rw [if_neg (by omega)]
  | succ n ih =>
    show (xk_R (hu_f C c n) (cn_f c n) _).2 (cn_f c f) 3 = _
    rw [xk_out (by simp only [cn_f]; omega) (by omega), ih]
theorem d_X_hangUp_0 : decode b_X_hangUp 0 = .ok (.aload_n 0, 1) := by decide +kernel
theorem d_X_hangUp_1 : decode b_X_hangUp 1 = .ok (.iload_n 1, 1) := by decide +kernel
theorem d_X_hangUp_2 : decode b_X_hangUp 2 = .ok (.invokevirtual 85, 3) := by decide +kernel
theorem d_X_hangUp_5 : decode b_X_hangUp 5 = .ok (.astore_n 2, 1) := by decide +kernel
theorem d_X_hangUp_6 : decode b_X_hangUp 6 = .ok (.aload_n 2, 1) := by decide +kernel
theorem d_X_hangUp_7 : decode b_X_hangUp 7 = .ok (.ifnonnull 5, 3) := by decide +kernel
theorem d_X_hangUp_10 : decode b_X_hangUp 10 = .ok (.iconst 0, 1) := by decide +kernel
theorem d_X_hangUp_11 : decode b_X_hangUp 11 = .ok (.ireturn, 1) := by decide +kernel
theorem d_X_hangUp_12 : decode b_X_hangUp 12 = .ok (.aload_n 2, 1) := by decide +kernel
theorem d_X_hangUp_13 : decode b_X_hangUp 13 = .ok (.invokevirtual 93, 3) := by decide +kernel
theorem d_X_hangUp_16 : decode b_X_hangUp 16 = .ok (.iconst 0, 1) := by decide +kernel
theorem d_X_hangUp_17 : decode b_X_hangUp 17 = .ok (.istore_n 3, 1) := by decide +kernel
theorem d_X_hangUp_18 : decode b_X_hangUp 18 = .ok (.iload_n 3, 1) := by decide +kernel
theorem d_X_hangUp_19 : decode b_X_hangUp 19 = .ok (.bipush 6, 2) := by decide +kernel
theorem d_X_hangUp_21 : decode b_X_hangUp 21 = .ok (.if_icmp .ge 20, 3) := by decide +kernel
theorem d_X_hangUp_24 : decode b_X_hangUp 24 = .ok (.aload_n 0, 1) := by decide +kernel
theorem d_X_hangUp_25 : decode b_X_hangUp 25 = .ok (.aload_n 2, 1) := by decide +kernel
theorem d_X_hangUp_26 : decode b_X_hangUp 26 = .ok (.getfield 96, 3) := by decide +kernel
theorem d_X_hangUp_29 : decode b_X_hangUp 29 = .ok (.iload_n 3, 1) := by decide +kernel
theorem d_X_hangUp_30 : decode b_X_hangUp 30 = .ok (.aaload, 1) := by decide +kernel
theorem d_X_hangUp_31 : decode b_X_hangUp 31 = .ok (.invokevirtual 100, 3) := by decide +kernel
theorem d_X_hangUp_34 : decode b_X_hangUp 34 = .ok (.pop, 1) := by decide +kernel
theorem d_X_hangUp_35 : decode b_X_hangUp 35 = .ok (.iinc 3 1, 3) := by decide +kernel
theorem d_X_hangUp_38 : decode b_X_hangUp 38 = .ok (.goto (-20), 3) := by decide +kernel
theorem d_X_hangUp_41 : decode b_X_hangUp 41 = .ok (.iconst 1, 1) := by decide +kernel
theorem d_X_hangUp_42 : decode b_X_hangUp 42 = .ok (.ireturn, 1) := by decide +kernel
set_option maxHeartbeats 4000000 in
set_option maxRecDepth 20000 in
theorem ct_X_hangUp (E : mm_En) (C : Nat → Nat → Int32) {c : Nat} (hc : c < 2) (hft : ∀ f, f < 6 → ∃ t, t ≤ 4 ∧ C (cn_f c f) 3 = nI t) : mm_MT E K_X_hangUp [.ref 0, .int (nI c)] (hp_H C) (mm_D (some (.int 1)) (hu_f C c 6)) := by
  have s2 := sh_con c hc
  have s3 := sh_fids c hc
  have loop : ∀ d i : Nat, i + d = 6 → ev_At E K_X_hangUp 18 [some (.ref 0), some (.int (nI c)), some (.ref (133 + 33 * c)), some (.int (nI i))] [] (hp_H (hu_f C c i)) 0 0 (mm_D (some (.int 1)) (hu_f C c 6)) := by
    intro d
    induction d with
    | zero =>
      intro i hi
      have hi6 : i = 6 := by omega
      subst hi6
      refine ev_iload_n (pc := 18) d_X_hangUp_18 rfl rfl ?_
      refine ev_bipush (pc := 19) (v := 6) d_X_hangUp_19 (by decide) ?_
      refine ev_icmp_ge (pc := 21) (tgt := 41) d_X_hangUp_21 (by decide) (fun ha => ?_) (fun ha => ?_)
      · refine ev_iconst (pc := 41) (v := 1) d_X_hangUp_41 rfl ?_
        exact ev_zret (pc := 42) d_X_hangUp_42 rfl (by first | exact Or.inl rfl | exact Or.inr rfl | assumption) (Nat.zero_le _) (Nat.zero_le _) ⟨rfl, rfl⟩
      · exact absurd (show nI 6 ≤ nI 6 from Int32.le_refl _) ha
    | succ d ih =>
      intro i hi
      have hin : vp_in (nI i) 6 := vp_in_nI (by omega) (by decide)
      have hpl : ([133 + 33 * c + 2, 133 + 33 * c + 3, 133 + 33 * c + 4, 133 + 33 * c + 5, 133 + 33 * c + 6, 133 + 33 * c + 7] : List Nat)[(nI i).toNatClampNeg]? = some (cn_f c i) := by
        rw [nI_clamp (by omega)]
        exact cn_fl i (by omega) _
      have s4 : fi_s (cn_f c i) := sh_fid c hc i (by omega)
      obtain ⟨t, ht, et⟩ := hft i (by omega)
      have ecl : (C (cn_f c i) 3).toNatClampNeg = t := by rw [et, nI_clamp (by omega)]
      have kf : cn_f c i = 133 + 33 * c + 2 + i := rfl
      have hM := ct_X_clunk E (hu_f C c i) (f := cn_f c i) (t := t) ⟨s4, by omega, by omega⟩ ht (by rw [hu_tree hc (by omega), et])
      rw [show (xk_R (hu_f C c i) (cn_f c i) t).2 = hu_f C c (i + 1) by rw [hu_f, ecl]] at hM
      refine ev_iload_n (pc := 18) d_X_hangUp_18 rfl rfl ?_
      refine ev_bipush (pc := 19) (v := 6) d_X_hangUp_19 (by decide) ?_
      refine ev_icmp_ge (pc := 21) (tgt := 41) d_X_hangUp_21 (by decide) (fun ha => ?_) (fun ha => ?_)
      · exact absurd ha (nI_ge (show i < 6 by omega) (by decide))
      refine ev_aload_n (pc := 24) d_X_hangUp_24 rfl rfl (by first | rfl | exact mm_rk_rf _) ?_
      refine ev_aload_n (pc := 25) d_X_hangUp_25 rfl rfl (by first | rfl | exact mm_rk_rf _) ?_
      refine ev_gR (pc := 26) (by first | with_reducible assumption | assumption) (by rfl) fl_X_96 d_X_hangUp_26 ?_
      refine ev_iload_n (pc := 29) d_X_hangUp_29 rfl rfl ?_
      refine ev_rR (pc := 30) (by first | with_reducible assumption | assumption) rfl (by first | with_reducible assumption | assumption) (by first | with_reducible assumption | assumption) d_X_hangUp_30 ?_
      refine ev_cV (pc := 31) hM cl_X_100 jv_X_clunk ⟨(Nat.le_of_ble_eq_true rfl), (Nat.le_of_ble_eq_true rfl)⟩ rfl sh_X rfl (Nat.le_of_ble_eq_true rfl) d_X_hangUp_31 ⟨Nat.zero_le _, Nat.zero_le _⟩ ?_
      refine ev_pop (pc := 34) d_X_hangUp_34 (by rfl) ?_
      refine ev_iinc (pc := 35) d_X_hangUp_35 (Nat.le_of_ble_eq_true rfl) rfl (nx_inc _) rfl ?_
      try dsimp only [List.set]
      refine ev_goto (pc := 38) (tgt := 18) d_X_hangUp_38 (by decide) ?_
      exact ih (i + 1) (by omega)
  refine mm_mtL (by decide) (by rfl) (Nat.le_of_ble_eq_true rfl) rfl ?_
  refine ev_aload_n (pc := 0) d_X_hangUp_0 rfl rfl (by first | rfl | exact mm_rk_rf _) ?_
  refine ev_iload_n (pc := 1) d_X_hangUp_1 rfl rfl ?_
  refine ev_cV (pc := 2) (ct_X_connectionAt E C hc) cl_X_85 jv_X_connectionAt ⟨(Nat.le_of_ble_eq_true rfl), (Nat.le_of_ble_eq_true rfl)⟩ rfl sh_X rfl (Nat.le_of_ble_eq_true rfl) d_X_hangUp_2 ⟨Nat.zero_le _, Nat.zero_le _⟩ ?_
  refine ev_astore_n (pc := 5) d_X_hangUp_5 rfl (by first | rfl | exact mm_rk_rf _) (Nat.le_of_ble_eq_true rfl) rfl ?_
  try dsimp only [List.set]
  refine ev_aload_n (pc := 6) d_X_hangUp_6 rfl rfl (by first | rfl | exact mm_rk_rf _) ?_
  refine ev_ifnonnullR (pc := 7) (tgt := 12) d_X_hangUp_7 (by decide) ?_
  refine ev_aload_n (pc := 12) d_X_hangUp_12 rfl rfl (by first | rfl | exact mm_rk_rf _) ?_
  refine ev_cVv (pc := 13) (ct_C_dropRequests E C hc) cl_X_93 jv_C_dropRequests ⟨(Nat.le_of_ble_eq_true rfl), (Nat.le_of_ble_eq_true rfl)⟩ rfl (by first | with_reducible assumption | assumption) rfl (Nat.le_of_ble_eq_true rfl) d_X_hangUp_13 ⟨Nat.zero_le _, Nat.zero_le _⟩ ?_
  refine ev_iconst (pc := 16) (v := 0) d_X_hangUp_16 rfl ?_
  refine ev_istore_n (pc := 17) d_X_hangUp_17 rfl (Nat.le_of_ble_eq_true rfl) rfl ?_
  try dsimp only [List.set]
  exact loop 6 0 (by omega)
set_option maxRecDepth 20000 in
theorem ct_X_hangUpN (E : mm_En) (C : Nat → Nat → Int32) {x : Int32} (hx : x < 0 ∨ 2 ≤ x) : mm_MT E K_X_hangUp [.ref 0, .int x] (hp_H C) (mm_D (some (.int 0)) C) := by
  refine mm_mtL (by decide) (by rfl) (Nat.le_of_ble_eq_true rfl) rfl ?_
  refine ev_aload_n (pc := 0) d_X_hangUp_0 rfl rfl (by first | rfl | exact mm_rk_rf _) ?_
  refine ev_iload_n (pc := 1) d_X_hangUp_1 rfl rfl ?_
  refine ev_cV (pc := 2) (ct_X_connectionAtN E C hx) cl_X_85 jv_X_connectionAt ⟨(Nat.le_of_ble_eq_true rfl), (Nat.le_of_ble_eq_true rfl)⟩ rfl sh_X rfl (Nat.le_of_ble_eq_true rfl) d_X_hangUp_2 ⟨Nat.zero_le _, Nat.zero_le _⟩ ?_
  refine ev_astore_n (pc := 5) d_X_hangUp_5 rfl (by first | rfl | exact mm_rk_rf _) (Nat.le_of_ble_eq_true rfl) rfl ?_
  try dsimp only [List.set]
  refine ev_aload_n (pc := 6) d_X_hangUp_6 rfl rfl (by first | rfl | exact mm_rk_rf _) ?_
  refine ev_ifnonnullN (pc := 7) d_X_hangUp_7 ?_
  refine ev_iconst (pc := 10) (v := 0) d_X_hangUp_10 rfl ?_
  exact ev_zret (pc := 11) d_X_hangUp_11 rfl (by first | exact Or.inl rfl | exact Or.inr rfl | assumption) (Nat.zero_le _) (Nat.zero_le _) ⟨rfl, rfl⟩
