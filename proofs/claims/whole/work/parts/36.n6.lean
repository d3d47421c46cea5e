/-! The reference: removing, clunk, remove. -/
theorem nw_c {C D : Nat → Nat → Int32} {s : Nat} (h6 : D 206 = C 206) (h7 : D 207 = C 207) (h8 : D 208 = C 208) (h11 : D 211 = C 211) (h14 : D 214 = C 214) (h4 : D 204 14 = C 204 14) (hw : nw_P C s) : nw_P D s := by
  obtain ⟨hm, hp, hg, hl, es, s4, hroot⟩ := hw
  refine ⟨nm_c h6 hm, pa_c h6 h7 h8 hp, ?_, ?_, h4.trans es, s4, ?_⟩
  · intro k hk
    rw [h11]
    exact hg k hk
  · intro k hk
    rw [h14]
    exact hl k hk
  · intro t ht
    rw [nc_c h6 h7]
    exact hroot t ht
/-- the nodes behind k, up to n of them, move one place down -/
def sh_n (C : Nat → Nat → Int32) (k n : Nat) : Nat → Nat → Int32 := fun a j => if 207 ≤ a ∧ a ≤ 215 ∧ k ≤ j ∧ j < k + n then C a (j + 1) else if a = 216 ∧ 16 * k ≤ j ∧ j < 16 * k + 16 * n then C 216 (j + 16) else C a j
theorem sh_n0 (C : Nat → Nat → Int32) (k : Nat) : sh_n C k 0 = C := by
  funext a j
  simp only [sh_n]
  rw [if_neg (by omega), if_neg (by omega)]
theorem sh_ns (C : Nat → Nat → Int32) (k n : Nat) : cp_n (sh_n C k n) (k + n + 1) (k + n) 16 = sh_n C k (n + 1) := by
  have r1 : ∀ a, 207 ≤ a → a ≤ 215 → sh_n C k n a (k + n + 1) = C a (k + n + 1) := by
    intro a h1 h2
    simp only [sh_n]
    rw [if_neg (by omega), if_neg (by omega)]
  have r2 : ∀ j, 16 * (k + n + 1) ≤ j → sh_n C k n 216 j = C 216 j := by
    intro j h1
    simp only [sh_n]
    rw [if_neg (by omega), if_neg (by omega)]
  funext a j
  rw [cp_n]
  by_cases h1 : 207 ≤ a ∧ a ≤ 215
  · by_cases h2 : j = k + n
    · rw [if_pos ⟨h1.1, h1.2, h2⟩, r1 a h1.1 h1.2]
      simp only [sh_n]
      rw [if_pos (by omega), h2]
    · rw [if_neg (fun z => h2 z.2.2), if_neg (by omega)]
      simp only [sh_n]
      by_cases h3 : k ≤ j ∧ j < k + n
      · rw [if_pos (by omega), if_pos (by omega)]
      · rw [if_neg (by omega), if_neg (by omega), if_neg (by omega), if_neg (by omega)]
  · rw [if_neg (by omega)]
    by_cases h2 : a = 216 ∧ 16 * (k + n) ≤ j ∧ j < 16 * (k + n) + 16
    · rw [if_pos h2, r2 _ (by omega)]
      simp only [sh_n]
      rw [if_neg (by omega), if_pos (by omega)]
      congr 1
      omega
    · rw [if_neg h2]
      simp only [sh_n]
      by_cases h3 : a = 216 ∧ 16 * k ≤ j ∧ j < 16 * k + 16 * n
      · rw [if_neg (by omega), if_pos h3, if_neg (by omega), if_pos (by omega)]
      · rw [if_neg (by omega), if_neg h3, if_neg (by omega), if_neg (by omega)]
theorem sh_n6 (C : Nat → Nat → Int32) (k n : Nat) : sh_n C k n 206 = C 206 := by
  funext j
  simp only [sh_n]
  rw [if_neg (by omega), if_neg (by omega)]
noncomputable def nR_D (C : Nat → Nat → Int32) (s d : Nat) : Nat → Nat → Int32 := cs_C (cs_C (nx_C C s d) 212 d (C 212 d + 1)) 206 0 (nI (nm C 0 - 1))
noncomputable def nR_C (C : Nat → Nat → Int32) (s k : Nat) : Nat → Nat → Int32 := sh_n (nR_D C s (np C k)) k (nm C 0 - 1 - k)
noncomputable def nR_R (C : Nat → Nat → Int32) (u t : Nat) (p : Int32) (s : Nat) : Int32 × (Nat → Nat → Int32) := match nc_i C t p with
  | none => (-13, C)
  | some k => if ¬ t = 0 then (-9, C) else if C 208 k < 0 then (-5, C) else if nY C u (np C k) 2 then (if 0 < nk_n C k then (-12, C) else if nb_n C s + nn_n C s (np C k) ≤ 64 then (0, nR_C C s k) else (-11, C)) else (-5, C)
theorem d_N_removed_0 : decode b_N_removed 0 = .ok (.aload_n 0, 1) := by decide +kernel
theorem d_N_removed_1 : decode b_N_removed 1 = .ok (.iload_n 2, 1) := by decide +kernel
theorem d_N_removed_2 : decode b_N_removed 2 = .ok (.iload_n 3, 1) := by decide +kernel
theorem d_N_removed_3 : decode b_N_removed 3 = .ok (.invokevirtual 151, 3) := by decide +kernel
theorem d_N_removed_6 : decode b_N_removed 6 = .ok (.istore 4, 2) := by decide +kernel
theorem d_N_removed_8 : decode b_N_removed 8 = .ok (.iload 4, 2) := by decide +kernel
theorem d_N_removed_10 : decode b_N_removed 10 = .ok (.ifCond .ge 6, 3) := by decide +kernel
theorem d_N_removed_13 : decode b_N_removed 13 = .ok (.bipush (-13), 2) := by decide +kernel
theorem d_N_removed_15 : decode b_N_removed 15 = .ok (.ireturn, 1) := by decide +kernel
theorem d_N_removed_16 : decode b_N_removed 16 = .ok (.iload_n 2, 1) := by decide +kernel
theorem d_N_removed_17 : decode b_N_removed 17 = .ok (.ifCond .eq 6, 3) := by decide +kernel
theorem d_N_removed_20 : decode b_N_removed 20 = .ok (.bipush (-9), 2) := by decide +kernel
theorem d_N_removed_22 : decode b_N_removed 22 = .ok (.ireturn, 1) := by decide +kernel
theorem d_N_removed_23 : decode b_N_removed 23 = .ok (.aload_n 0, 1) := by decide +kernel
theorem d_N_removed_24 : decode b_N_removed 24 = .ok (.getfield 20, 3) := by decide +kernel
theorem d_N_removed_27 : decode b_N_removed 27 = .ok (.iload 4, 2) := by decide +kernel
theorem d_N_removed_29 : decode b_N_removed 29 = .ok (.iaload, 1) := by decide +kernel
theorem d_N_removed_30 : decode b_N_removed 30 = .ok (.ifCond .lt 18, 3) := by decide +kernel
theorem d_N_removed_33 : decode b_N_removed 33 = .ok (.aload_n 0, 1) := by decide +kernel
theorem d_N_removed_34 : decode b_N_removed 34 = .ok (.iload_n 1, 1) := by decide +kernel
theorem d_N_removed_35 : decode b_N_removed 35 = .ok (.aload_n 0, 1) := by decide +kernel
theorem d_N_removed_36 : decode b_N_removed 36 = .ok (.iload 4, 2) := by decide +kernel
theorem d_N_removed_38 : decode b_N_removed 38 = .ok (.invokevirtual 154, 3) := by decide +kernel
theorem d_N_removed_41 : decode b_N_removed 41 = .ok (.iconst 2, 1) := by decide +kernel
theorem d_N_removed_42 : decode b_N_removed 42 = .ok (.invokevirtual 177, 3) := by decide +kernel
theorem d_N_removed_45 : decode b_N_removed 45 = .ok (.ifCond .ne 6, 3) := by decide +kernel
theorem d_N_removed_48 : decode b_N_removed 48 = .ok (.bipush (-5), 2) := by decide +kernel
theorem d_N_removed_50 : decode b_N_removed 50 = .ok (.ireturn, 1) := by decide +kernel
theorem d_N_removed_51 : decode b_N_removed 51 = .ok (.aload_n 0, 1) := by decide +kernel
theorem d_N_removed_52 : decode b_N_removed 52 = .ok (.iload 4, 2) := by decide +kernel
theorem d_N_removed_54 : decode b_N_removed 54 = .ok (.invokevirtual 205, 3) := by decide +kernel
theorem d_N_removed_57 : decode b_N_removed 57 = .ok (.ifCond .le 6, 3) := by decide +kernel
theorem d_N_removed_60 : decode b_N_removed 60 = .ok (.bipush (-12), 2) := by decide +kernel
theorem d_N_removed_62 : decode b_N_removed 62 = .ok (.ireturn, 1) := by decide +kernel
theorem d_N_removed_63 : decode b_N_removed 63 = .ok (.aload_n 0, 1) := by decide +kernel
theorem d_N_removed_64 : decode b_N_removed 64 = .ok (.iload 4, 2) := by decide +kernel
theorem d_N_removed_66 : decode b_N_removed 66 = .ok (.invokevirtual 154, 3) := by decide +kernel
theorem d_N_removed_69 : decode b_N_removed 69 = .ok (.istore 5, 2) := by decide +kernel
theorem d_N_removed_71 : decode b_N_removed 71 = .ok (.aload_n 0, 1) := by decide +kernel
theorem d_N_removed_72 : decode b_N_removed 72 = .ok (.aload_n 0, 1) := by decide +kernel
theorem d_N_removed_73 : decode b_N_removed 73 = .ok (.iload 5, 2) := by decide +kernel
theorem d_N_removed_75 : decode b_N_removed 75 = .ok (.invokevirtual 196, 3) := by decide +kernel
theorem d_N_removed_78 : decode b_N_removed 78 = .ok (.invokevirtual 199, 3) := by decide +kernel
theorem d_N_removed_81 : decode b_N_removed 81 = .ok (.ifCond .ne 6, 3) := by decide +kernel
theorem d_N_removed_84 : decode b_N_removed 84 = .ok (.bipush (-11), 2) := by decide +kernel
theorem d_N_removed_86 : decode b_N_removed 86 = .ok (.ireturn, 1) := by decide +kernel
theorem d_N_removed_87 : decode b_N_removed 87 = .ok (.aload_n 0, 1) := by decide +kernel
theorem d_N_removed_88 : decode b_N_removed 88 = .ok (.iload 5, 2) := by decide +kernel
theorem d_N_removed_90 : decode b_N_removed 90 = .ok (.invokevirtual 202, 3) := by decide +kernel
theorem d_N_removed_93 : decode b_N_removed 93 = .ok (.aload_n 0, 1) := by decide +kernel
theorem d_N_removed_94 : decode b_N_removed 94 = .ok (.getfield 32, 3) := by decide +kernel
theorem d_N_removed_97 : decode b_N_removed 97 = .ok (.iload 5, 2) := by decide +kernel
theorem d_N_removed_99 : decode b_N_removed 99 = .ok (.dup2, 1) := by decide +kernel
theorem d_N_removed_100 : decode b_N_removed 100 = .ok (.iaload, 1) := by decide +kernel
theorem d_N_removed_101 : decode b_N_removed 101 = .ok (.iconst 1, 1) := by decide +kernel
theorem d_N_removed_102 : decode b_N_removed 102 = .ok (.iadd, 1) := by decide +kernel
theorem d_N_removed_103 : decode b_N_removed 103 = .ok (.iastore, 1) := by decide +kernel
theorem d_N_removed_104 : decode b_N_removed 104 = .ok (.aload_n 0, 1) := by decide +kernel
theorem d_N_removed_105 : decode b_N_removed 105 = .ok (.getfield 13, 3) := by decide +kernel
theorem d_N_removed_108 : decode b_N_removed 108 = .ok (.iconst 0, 1) := by decide +kernel
theorem d_N_removed_109 : decode b_N_removed 109 = .ok (.dup2, 1) := by decide +kernel
theorem d_N_removed_110 : decode b_N_removed 110 = .ok (.iaload, 1) := by decide +kernel
theorem d_N_removed_111 : decode b_N_removed 111 = .ok (.iconst 1, 1) := by decide +kernel
theorem d_N_removed_112 : decode b_N_removed 112 = .ok (.isub, 1) := by decide +kernel
theorem d_N_removed_113 : decode b_N_removed 113 = .ok (.iastore, 1) := by decide +kernel
theorem d_N_removed_114 : decode b_N_removed 114 = .ok (.iload 4, 2) := by decide +kernel
theorem d_N_removed_116 : decode b_N_removed 116 = .ok (.istore 6, 2) := by decide +kernel
theorem d_N_removed_118 : decode b_N_removed 118 = .ok (.iload 6, 2) := by decide +kernel
theorem d_N_removed_120 : decode b_N_removed 120 = .ok (.aload_n 0, 1) := by decide +kernel
theorem d_N_removed_121 : decode b_N_removed 121 = .ok (.getfield 13, 3) := by decide +kernel
theorem d_N_removed_124 : decode b_N_removed 124 = .ok (.iconst 0, 1) := by decide +kernel
theorem d_N_removed_125 : decode b_N_removed 125 = .ok (.iaload, 1) := by decide +kernel
theorem d_N_removed_126 : decode b_N_removed 126 = .ok (.if_icmp .ge 19, 3) := by decide +kernel
theorem d_N_removed_129 : decode b_N_removed 129 = .ok (.aload_n 0, 1) := by decide +kernel
theorem d_N_removed_130 : decode b_N_removed 130 = .ok (.iload 6, 2) := by decide +kernel
theorem d_N_removed_132 : decode b_N_removed 132 = .ok (.iconst 1, 1) := by decide +kernel
theorem d_N_removed_133 : decode b_N_removed 133 = .ok (.iadd, 1) := by decide +kernel
theorem d_N_removed_134 : decode b_N_removed 134 = .ok (.iload 6, 2) := by decide +kernel
theorem d_N_removed_136 : decode b_N_removed 136 = .ok (.invokevirtual 215, 3) := by decide +kernel
theorem d_N_removed_139 : decode b_N_removed 139 = .ok (.iinc 6 1, 3) := by decide +kernel
theorem d_N_removed_142 : decode b_N_removed 142 = .ok (.goto (-24), 3) := by decide +kernel
theorem d_N_removed_145 : decode b_N_removed 145 = .ok (.iconst 0, 1) := by decide +kernel
theorem d_N_removed_146 : decode b_N_removed 146 = .ok (.ireturn, 1) := by decide +kernel
set_option maxRecDepth 20000 in
set_option maxHeartbeats 1000000 in
theorem ct_N_removed (E : mm_En) (C : Nat → Nat → Int32) {u t s : Nat} (hw : nw_P C s) (hu : u < 4) (ht : t < 6) (p : Int32) : mm_MT E K_N_removed [.ref 204, .int (nI u), .int (nI t), .int p] (hp_H C) (mm_D (some (.int (nR_R C u t p s).1)) (nR_R C u t p s).2) := by
  obtain ⟨hm, hp, hg, hl, es, s4, hroot⟩ := hw
  refine mm_mtL (by decide) (by rfl) (Nat.le_of_ble_eq_true rfl) rfl ?_
  refine ev_aload_n (pc := 0) d_N_removed_0 rfl rfl (by first | rfl | exact mm_rk_rf _) ?_
  refine ev_iload_n (pc := 1) d_N_removed_1 rfl rfl ?_
  refine ev_iload_n (pc := 2) d_N_removed_2 rfl rfl ?_
  refine ev_cV (pc := 3) (ct_N_cell E C hm ht p) cl_N_151 jv_N_cell ⟨(Nat.le_of_ble_eq_true rfl), (Nat.le_of_ble_eq_true rfl)⟩ rfl sh_N rfl (Nat.le_of_ble_eq_true rfl) d_N_removed_3 ⟨Nat.zero_le _, Nat.zero_le _⟩ ?_
  rw [nR_R]
  cases hn : nc_i C t p with
  | none =>
    rw [show oI none = -1 from rfl]
    refine ev_istore (pc := 6) d_N_removed_6 (Nat.le_of_ble_eq_true rfl) rfl ?_
    try dsimp only [List.set]
    refine ev_iload (pc := 8) d_N_removed_8 rfl ?_
    refine ev_if_ge (pc := 10) (tgt := 16) d_N_removed_10 (by decide) (fun hb => ?_) (fun hb => ?_)
    · exact absurd hb (by decide)
    refine ev_bipush (pc := 13) (v := -13) d_N_removed_13 (by decide) ?_
    exact ev_iret (pc := 15) d_N_removed_15 rfl (Nat.zero_le _) (Nat.zero_le _) ⟨rfl, rfl⟩
  | some k =>
    rw [show oI (some k) = nI k from rfl]
    obtain ⟨v1, v2, v3, v4⟩ := nc_v ht hm hn
    simp only []
    refine ev_istore (pc := 6) d_N_removed_6 (Nat.le_of_ble_eq_true rfl) rfl ?_
    try dsimp only [List.set]
    refine ev_iload (pc := 8) d_N_removed_8 rfl ?_
    refine ev_if_ge (pc := 10) (tgt := 16) d_N_removed_10 (by decide) (fun hb => ?_) (fun hb => ?_)
    rotate_left
    · exact absurd (nI_pos' (by omega)) hb
    refine ev_iload_n (pc := 16) d_N_removed_16 rfl rfl ?_
    refine ev_if_eq (pc := 17) (tgt := 23) d_N_removed_17 (by decide) (fun hc => ?_) (fun hc => ?_)
    rotate_left
    · have hc' : ¬ t = 0 := fun z => hc (by rw [z]; rfl)
      rw [if_pos hc']
      refine ev_bipush (pc := 20) (v := -9) d_N_removed_20 (by decide) ?_
      exact ev_iret (pc := 22) d_N_removed_22 rfl (Nat.zero_le _) (Nat.zero_le _) ⟨rfl, rfl⟩
    have hc' : t = 0 := by
      have z' : nI t = nI 0 := hc
      rwa [nI_eq (by omega) (by decide)] at z'
    rw [if_neg (fun z => z hc')]
    refine ev_aload_n (pc := 23) d_N_removed_23 rfl rfl (by first | rfl | exact mm_rk_rf _) ?_
    refine ev_gR (pc := 24) sh_N (by rfl) fl_N_20 d_N_removed_24 ?_
    refine ev_iload (pc := 27) d_N_removed_27 rfl ?_
    refine ev_rIN (pc := 29) sh_N_above (by omega) (by decide) d_N_removed_29 ?_
    refine ev_if_lt (pc := 30) (tgt := 48) d_N_removed_30 (by decide) (fun hd => ?_) (fun hd => ?_)
    · rw [if_pos hd]
      refine ev_bipush (pc := 48) (v := -5) d_N_removed_48 (by decide) ?_
      exact ev_iret (pc := 50) d_N_removed_50 rfl (Nat.zero_le _) (Nat.zero_le _) ⟨rfl, rfl⟩
    rw [if_neg hd]
    obtain ⟨p1, p2, p3, p4⟩ := pa_np hm hp v3 hd
    have p5 := p2.1
    refine ev_aload_n (pc := 33) d_N_removed_33 rfl rfl (by first | rfl | exact mm_rk_rf _) ?_
    refine ev_iload_n (pc := 34) d_N_removed_34 rfl rfl ?_
    refine ev_aload_n (pc := 35) d_N_removed_35 rfl rfl (by first | rfl | exact mm_rk_rf _) ?_
    refine ev_iload (pc := 36) d_N_removed_36 rfl ?_
    refine ev_cV (pc := 38) (ct_N_parent E C hm v1) cl_N_154 jv_N_parent ⟨(Nat.le_of_ble_eq_true rfl), (Nat.le_of_ble_eq_true rfl)⟩ rfl sh_N rfl (Nat.le_of_ble_eq_true rfl) d_N_removed_38 ⟨Nat.zero_le _, Nat.zero_le _⟩ ?_
    rw [p1, show oI (some (np C k)) = nI (np C k) from rfl]
    refine ev_iconst (pc := 41) (v := 2) d_N_removed_41 rfl ?_
    refine ev_cV (pc := 42) (ct_N_has E C hg hu p5 2) cl_N_177 jv_N_has ⟨(Nat.le_of_ble_eq_true rfl), (Nat.le_of_ble_eq_true rfl)⟩ rfl sh_N rfl (Nat.le_of_ble_eq_true rfl) d_N_removed_42 ⟨Nat.zero_le _, Nat.zero_le _⟩ ?_
    refine ev_if_ne (pc := 45) (tgt := 51) d_N_removed_45 (by decide) (fun he => ?_) (fun he => ?_)
    rotate_left
    · rw [b2_0] at he
      rw [if_neg he]
      refine ev_bipush (pc := 48) (v := -5) d_N_removed_48 (by decide) ?_
      exact ev_iret (pc := 50) d_N_removed_50 rfl (Nat.zero_le _) (Nat.zero_le _) ⟨rfl, rfl⟩
    rw [b2_0, Classical.not_not] at he
    rw [if_pos he]
    have hkc : nk_n C k ≤ 20 := Nat.le_trans (fx_c_le _ _ _) (by have := (hm (k / 20) (by omega)).1; omega)
    refine ev_aload_n (pc := 51) d_N_removed_51 rfl rfl (by first | rfl | exact mm_rk_rf _) ?_
    refine ev_iload (pc := 52) d_N_removed_52 rfl ?_
    refine ev_cV (pc := 54) (ct_N_children E C hm v1) cl_N_205 jv_N_children ⟨(Nat.le_of_ble_eq_true rfl), (Nat.le_of_ble_eq_true rfl)⟩ rfl sh_N rfl (Nat.le_of_ble_eq_true rfl) d_N_removed_54 ⟨Nat.zero_le _, Nat.zero_le _⟩ ?_
    refine ev_if_le (pc := 57) (tgt := 63) d_N_removed_57 (by decide) (fun hf => ?_) (fun hf => ?_)
    rotate_left
    · have hf' : 0 < nk_n C k := Nat.pos_of_ne_zero (fun z => hf (by rw [z]; decide))
      rw [if_pos hf']
      refine ev_bipush (pc := 60) (v := -12) d_N_removed_60 (by decide) ?_
      exact ev_iret (pc := 62) d_N_removed_62 rfl (Nat.zero_le _) (Nat.zero_le _) ⟨rfl, rfl⟩
    have hf' : ¬ 0 < nk_n C k := fun z => nI_nle z (by omega) hf
    rw [if_neg hf']
    refine ev_aload_n (pc := 63) d_N_removed_63 rfl rfl (by first | rfl | exact mm_rk_rf _) ?_
    refine ev_iload (pc := 64) d_N_removed_64 rfl ?_
    refine ev_cV (pc := 66) (ct_N_parent E C hm v1) cl_N_154 jv_N_parent ⟨(Nat.le_of_ble_eq_true rfl), (Nat.le_of_ble_eq_true rfl)⟩ rfl sh_N rfl (Nat.le_of_ble_eq_true rfl) d_N_removed_66 ⟨Nat.zero_le _, Nat.zero_le _⟩ ?_
    rw [p1, show oI (some (np C k)) = nI (np C k) from rfl]
    have hnn : nn_n C s (np C k) ≤ 21 := by
      have h1 := n1_le (no_P C s (C 215 (np C k)))
      have h2 := nn_le C s 20 (np C k)
      unfold nn_n
      omega
    refine ev_istore (pc := 69) d_N_removed_69 (Nat.le_of_ble_eq_true rfl) rfl ?_
    try dsimp only [List.set]
    refine ev_aload_n (pc := 71) d_N_removed_71 rfl rfl (by first | rfl | exact mm_rk_rf _) ?_
    refine ev_aload_n (pc := 72) d_N_removed_72 rfl rfl (by first | rfl | exact mm_rk_rf _) ?_
    refine ev_iload (pc := 73) d_N_removed_73 rfl ?_
    refine ev_cV (pc := 75) (ct_N_needed E C hm hp es s4 p2) cl_N_196 jv_N_needed ⟨(Nat.le_of_ble_eq_true rfl), (Nat.le_of_ble_eq_true rfl)⟩ rfl sh_N rfl (Nat.le_of_ble_eq_true rfl) d_N_removed_75 ⟨Nat.zero_le _, Nat.zero_le _⟩ ?_
    refine ev_cV (pc := 78) (ct_N_fits E C hm es s4 (by omega)) cl_N_199 jv_N_fits ⟨(Nat.le_of_ble_eq_true rfl), (Nat.le_of_ble_eq_true rfl)⟩ rfl sh_N rfl (Nat.le_of_ble_eq_true rfl) d_N_removed_78 ⟨Nat.zero_le _, Nat.zero_le _⟩ ?_
    refine ev_if_ne (pc := 81) (tgt := 87) d_N_removed_81 (by decide) (fun hj => ?_) (fun hj => ?_)
    rotate_left
    · rw [b2_0] at hj
      rw [if_neg hj]
      refine ev_bipush (pc := 84) (v := -11) d_N_removed_84 (by decide) ?_
      exact ev_iret (pc := 86) d_N_removed_86 rfl (Nat.zero_le _) (Nat.zero_le _) ⟨rfl, rfl⟩
    rw [b2_0, Classical.not_not] at hj
    rw [if_pos hj]
    refine ev_aload_n (pc := 87) d_N_removed_87 rfl rfl (by first | rfl | exact mm_rk_rf _) ?_
    refine ev_iload (pc := 88) d_N_removed_88 rfl ?_
    refine ev_cVv (pc := 90) (ct_N_change E C hm hp es s4 p2) cl_N_202 jv_N_change ⟨(Nat.le_of_ble_eq_true rfl), (Nat.le_of_ble_eq_true rfl)⟩ rfl sh_N rfl (Nat.le_of_ble_eq_true rfl) d_N_removed_90 ⟨Nat.zero_le _, Nat.zero_le _⟩ ?_
    refine ev_aload_n (pc := 93) d_N_removed_93 rfl rfl (by first | rfl | exact mm_rk_rf _) ?_
    refine ev_gR (pc := 94) sh_N (by rfl) fl_N_32 d_N_removed_94 ?_
    refine ev_iload (pc := 97) d_N_removed_97 rfl ?_
    refine ev_dup2 (pc := 99) d_N_removed_99 (by rfl) (by rfl) ?_
    refine ev_rIN (pc := 100) sh_N_version (by omega) (by decide) d_N_removed_100 ?_
    rw [nx_Cc C s (np C k) (by decide) (by decide)]
    refine ev_iconst (pc := 101) (v := 1) d_N_removed_101 rfl ?_
    first | refine ev_iaddN (pc := 102) d_N_removed_102 ?_ | refine ev_iadd (pc := 102) d_N_removed_102 ?_
    refine ev_wIN (pc := 103) sh_N_version (by omega) (by decide) d_N_removed_103 ?_
    refine ev_aload_n (pc := 104) d_N_removed_104 rfl rfl (by first | rfl | exact mm_rk_rf _) ?_
    refine ev_gR (pc := 105) sh_N (by rfl) fl_N_13 d_N_removed_105 ?_
    refine ev_iconst (pc := 108) (v := nI 0) d_N_removed_108 rfl ?_
    refine ev_dup2 (pc := 109) d_N_removed_109 (by rfl) (by rfl) ?_
    refine ev_rIN (pc := 110) sh_N_many (by omega) (by decide) d_N_removed_110 ?_
    subst hc'
    obtain ⟨m20, em⟩ := hm 0 (by decide)
    have hv2 : k < nm C 0 := by
      have := v3.2
      rw [v2] at this
      omega
    rw [cs_ne _ _ (by omega), nx_Cc C s (np C k) (by decide) (by decide), em]
    refine ev_iconst (pc := 111) (v := 1) d_N_removed_111 rfl ?_
    refine ev_isub (pc := 112) d_N_removed_112 ?_
    rw [show nI (nm C 0) - 1 = nI (nm C 0 - 1) by rw [show nm C 0 = (nm C 0 - 1) + 1 by omega, nI_pred]; rfl]
    refine ev_wIN (pc := 113) sh_N_many (by omega) (by decide) d_N_removed_113 ?_
    refine ev_eq rfl rfl rfl (show _ = hp_H (nR_D C s (np C k)) from rfl) rfl rfl ?_
    have loop : ∀ d i : Nat, k + i + d = nm C 0 - 1 → ev_At E K_N_removed 118 [some (.ref 204), some (.int (nI u)), some (.int (nI 0)), some (.int p), some (.int (nI k)), some (.int (nI (np C k))), some (.int (nI (k + i)))] [] (hp_H (sh_n (nR_D C s (np C k)) k i)) 0 0 (mm_D (some (.int (0, nR_C C s k).1)) (0, nR_C C s k).2) := by
      have e6 : ∀ i, sh_n (nR_D C s (np C k)) k i 206 0 = nI (nm C 0 - 1) := by
        intro i
        rw [sh_n6]
        exact cs_at _ _ _ _
      intro d
      induction d with
      | zero =>
        intro i hi
        refine ev_iload (pc := 118) d_N_removed_118 rfl ?_
        refine ev_aload_n (pc := 120) d_N_removed_120 rfl rfl (by first | rfl | exact mm_rk_rf _) ?_
        refine ev_gR (pc := 121) sh_N (by rfl) fl_N_13 d_N_removed_121 ?_
        refine ev_iconst (pc := 124) (v := nI 0) d_N_removed_124 rfl ?_
        refine ev_rIN (pc := 125) sh_N_many (by omega) (by decide) d_N_removed_125 ?_
        rw [e6]
        refine ev_icmp_ge (pc := 126) (tgt := 145) d_N_removed_126 (by decide) (fun hx => ?_) (fun hx => ?_)
        rotate_left
        · exact absurd (nI_le (by omega) (by omega)) hx
        have ei : i = nm C 0 - 1 - k := by omega
        rw [nR_C, ← ei]
        refine ev_iconst (pc := 145) (v := 0) d_N_removed_145 rfl ?_
        exact ev_iret (pc := 146) d_N_removed_146 rfl (Nat.zero_le _) (Nat.zero_le _) ⟨rfl, rfl⟩
      | succ d ih =>
        intro i hi
        refine ev_iload (pc := 118) d_N_removed_118 rfl ?_
        refine ev_aload_n (pc := 120) d_N_removed_120 rfl rfl (by first | rfl | exact mm_rk_rf _) ?_
        refine ev_gR (pc := 121) sh_N (by rfl) fl_N_13 d_N_removed_121 ?_
        refine ev_iconst (pc := 124) (v := nI 0) d_N_removed_124 rfl ?_
        refine ev_rIN (pc := 125) sh_N_many (by omega) (by decide) d_N_removed_125 ?_
        rw [e6]
        refine ev_icmp_ge (pc := 126) (tgt := 145) d_N_removed_126 (by decide) (fun hx => ?_) (fun hx => ?_)
        · exact absurd hx (nI_ge (by omega) (by omega))
        refine ev_aload_n (pc := 129) d_N_removed_129 rfl rfl (by first | rfl | exact mm_rk_rf _) ?_
        refine ev_iload (pc := 130) d_N_removed_130 rfl ?_
        refine ev_iconst (pc := 132) (v := nI 1) d_N_removed_132 rfl ?_
        first | refine ev_iaddN (pc := 133) d_N_removed_133 ?_ | refine ev_iadd (pc := 133) d_N_removed_133 ?_
        refine ev_iload (pc := 134) d_N_removed_134 rfl ?_
        refine ev_cVv (pc := 136) (ct_N_copy E _ (f := k + i + 1) (k := k + i) (by omega) (by omega) (by omega)) cl_N_215 jv_N_copy ⟨(Nat.le_of_ble_eq_true rfl), (Nat.le_of_ble_eq_true rfl)⟩ rfl sh_N rfl (Nat.le_of_ble_eq_true rfl) d_N_removed_136 ⟨Nat.zero_le _, Nat.zero_le _⟩ ?_
        rw [sh_ns]
        refine ev_iinc (pc := 139) d_N_removed_139 (Nat.le_of_ble_eq_true rfl) rfl (nx_inc _) rfl ?_
        try dsimp only [List.set]
        refine ev_goto (pc := 142) (tgt := 118) d_N_removed_142 (by decide) ?_
        exact ih (i + 1) (by omega)
    refine ev_iload (pc := 114) d_N_removed_114 rfl ?_
    refine ev_istore (pc := 116) d_N_removed_116 (Nat.le_of_ble_eq_true rfl) rfl ?_
    try dsimp only [List.set]
    have h2 := loop (nm C 0 - 1 - k) 0 (by omega)
    rw [sh_n0] at h2
    exact h2
noncomputable def nK_R (C : Nat → Nat → Int32) (f t s : Nat) : Int32 × (Nat → Nat → Int32) := if C 217 f < 0 then (-1, C) else if ¬ C 220 f < 0 ∧ ¬ (C 220 f &&& 64) = 0 then (0, (nR_R (cs_C C 217 f (-1)) (nus C f) t (C 219 f) s).2) else (0, cs_C C 217 f (-1))
noncomputable def nM_R (C : Nat → Nat → Int32) (f t s : Nat) : Int32 × (Nat → Nat → Int32) := if C 217 f < 0 then (-1, C) else nR_R (cs_C C 217 f (-1)) (nus C f) t (C 219 f) s
theorem d_N_clunk_0 : decode b_N_clunk 0 = .ok (.aload_n 0, 1) := by decide +kernel
theorem d_N_clunk_1 : decode b_N_clunk 1 = .ok (.getfield 54, 3) := by decide +kernel
theorem d_N_clunk_4 : decode b_N_clunk 4 = .ok (.iload_n 1, 1) := by decide +kernel
theorem d_N_clunk_5 : decode b_N_clunk 5 = .ok (.iaload, 1) := by decide +kernel
theorem d_N_clunk_6 : decode b_N_clunk 6 = .ok (.ifCond .ge 5, 3) := by decide +kernel
theorem d_N_clunk_9 : decode b_N_clunk 9 = .ok (.iconst (-1), 1) := by decide +kernel
theorem d_N_clunk_10 : decode b_N_clunk 10 = .ok (.ireturn, 1) := by decide +kernel
theorem d_N_clunk_11 : decode b_N_clunk 11 = .ok (.aload_n 0, 1) := by decide +kernel
theorem d_N_clunk_12 : decode b_N_clunk 12 = .ok (.getfield 54, 3) := by decide +kernel
theorem d_N_clunk_15 : decode b_N_clunk 15 = .ok (.iload_n 1, 1) := by decide +kernel
theorem d_N_clunk_16 : decode b_N_clunk 16 = .ok (.iaload, 1) := by decide +kernel
theorem d_N_clunk_17 : decode b_N_clunk 17 = .ok (.istore_n 2, 1) := by decide +kernel
theorem d_N_clunk_18 : decode b_N_clunk 18 = .ok (.aload_n 0, 1) := by decide +kernel
theorem d_N_clunk_19 : decode b_N_clunk 19 = .ok (.getfield 54, 3) := by decide +kernel
theorem d_N_clunk_22 : decode b_N_clunk 22 = .ok (.iload_n 1, 1) := by decide +kernel
theorem d_N_clunk_23 : decode b_N_clunk 23 = .ok (.iconst (-1), 1) := by decide +kernel
theorem d_N_clunk_24 : decode b_N_clunk 24 = .ok (.iastore, 1) := by decide +kernel
theorem d_N_clunk_25 : decode b_N_clunk 25 = .ok (.aload_n 0, 1) := by decide +kernel
theorem d_N_clunk_26 : decode b_N_clunk 26 = .ok (.getfield 63, 3) := by decide +kernel
theorem d_N_clunk_29 : decode b_N_clunk 29 = .ok (.iload_n 1, 1) := by decide +kernel
theorem d_N_clunk_30 : decode b_N_clunk 30 = .ok (.iaload, 1) := by decide +kernel
theorem d_N_clunk_31 : decode b_N_clunk 31 = .ok (.ifCond .lt 33, 3) := by decide +kernel
theorem d_N_clunk_34 : decode b_N_clunk 34 = .ok (.aload_n 0, 1) := by decide +kernel
theorem d_N_clunk_35 : decode b_N_clunk 35 = .ok (.getfield 63, 3) := by decide +kernel
theorem d_N_clunk_38 : decode b_N_clunk 38 = .ok (.iload_n 1, 1) := by decide +kernel
theorem d_N_clunk_39 : decode b_N_clunk 39 = .ok (.iaload, 1) := by decide +kernel
theorem d_N_clunk_40 : decode b_N_clunk 40 = .ok (.bipush 64, 2) := by decide +kernel
theorem d_N_clunk_42 : decode b_N_clunk 42 = .ok (.iand, 1) := by decide +kernel
theorem d_N_clunk_43 : decode b_N_clunk 43 = .ok (.ifCond .eq 21, 3) := by decide +kernel
theorem d_N_clunk_46 : decode b_N_clunk 46 = .ok (.aload_n 0, 1) := by decide +kernel
theorem d_N_clunk_47 : decode b_N_clunk 47 = .ok (.iload_n 2, 1) := by decide +kernel
theorem d_N_clunk_48 : decode b_N_clunk 48 = .ok (.aload_n 0, 1) := by decide +kernel
theorem d_N_clunk_49 : decode b_N_clunk 49 = .ok (.getfield 57, 3) := by decide +kernel
theorem d_N_clunk_52 : decode b_N_clunk 52 = .ok (.iload_n 1, 1) := by decide +kernel
theorem d_N_clunk_53 : decode b_N_clunk 53 = .ok (.iaload, 1) := by decide +kernel
theorem d_N_clunk_54 : decode b_N_clunk 54 = .ok (.aload_n 0, 1) := by decide +kernel
theorem d_N_clunk_55 : decode b_N_clunk 55 = .ok (.getfield 60, 3) := by decide +kernel
theorem d_N_clunk_58 : decode b_N_clunk 58 = .ok (.iload_n 1, 1) := by decide +kernel
theorem d_N_clunk_59 : decode b_N_clunk 59 = .ok (.iaload, 1) := by decide +kernel
theorem d_N_clunk_60 : decode b_N_clunk 60 = .ok (.invokevirtual 218, 3) := by decide +kernel
theorem d_N_clunk_63 : decode b_N_clunk 63 = .ok (.pop, 1) := by decide +kernel
theorem d_N_clunk_64 : decode b_N_clunk 64 = .ok (.iconst 0, 1) := by decide +kernel
theorem d_N_clunk_65 : decode b_N_clunk 65 = .ok (.ireturn, 1) := by decide +kernel
set_option maxRecDepth 20000 in
theorem ct_N_clunk (E : mm_En) (C : Nat → Nat → Int32) {f t s : Nat} (hw : nw_P C s) (hu : nu_P C f t) : mm_MT E K_N_clunk [.ref 204, .int (nI f)] (hp_H C) (mm_D (some (.int (nK_R C f t s).1)) (nK_R C f t s).2) := by
  obtain ⟨hf, ht, et, hus⟩ := hu
  refine mm_mtL (by decide) (by rfl) (Nat.le_of_ble_eq_true rfl) rfl ?_
  refine ev_aload_n (pc := 0) d_N_clunk_0 rfl rfl (by first | rfl | exact mm_rk_rf _) ?_
  refine ev_gR (pc := 1) sh_N (by rfl) fl_N_54 d_N_clunk_1 ?_
  refine ev_iload_n (pc := 4) d_N_clunk_4 rfl rfl ?_
  refine ev_rIN (pc := 5) sh_N_user (by omega) (by decide) d_N_clunk_5 ?_
  refine ev_if_ge (pc := 6) (tgt := 11) d_N_clunk_6 (by decide) (fun ha => ?_) (fun ha => ?_)
  rotate_left
  · have ha' : C 217 f < 0 := Int32.not_le.mp ha
    rw [nK_R, if_pos ha']
    refine ev_iconst (pc := 9) (v := -1) d_N_clunk_9 rfl ?_
    exact ev_iret (pc := 10) d_N_clunk_10 rfl (Nat.zero_le _) (Nat.zero_le _) ⟨rfl, rfl⟩
  have ha' : ¬ C 217 f < 0 := Int32.not_lt.mpr ha
  obtain ⟨u4, eu⟩ := hus ha'
  rw [nK_R, if_neg ha']
  have hw' : nw_P (cs_C C 217 f (-1)) s := nw_c rfl rfl rfl rfl rfl rfl hw
  refine ev_aload_n (pc := 11) d_N_clunk_11 rfl rfl (by first | rfl | exact mm_rk_rf _) ?_
  refine ev_gR (pc := 12) sh_N (by rfl) fl_N_54 d_N_clunk_12 ?_
  refine ev_iload_n (pc := 15) d_N_clunk_15 rfl rfl ?_
  refine ev_rIN (pc := 16) sh_N_user (by omega) (by decide) d_N_clunk_16 ?_
  rw [eu]
  refine ev_istore_n (pc := 17) d_N_clunk_17 rfl (Nat.le_of_ble_eq_true rfl) rfl ?_
  try dsimp only [List.set]
  refine ev_aload_n (pc := 18) d_N_clunk_18 rfl rfl (by first | rfl | exact mm_rk_rf _) ?_
  refine ev_gR (pc := 19) sh_N (by rfl) fl_N_54 d_N_clunk_19 ?_
  refine ev_iload_n (pc := 22) d_N_clunk_22 rfl rfl ?_
  refine ev_iconst (pc := 23) (v := -1) d_N_clunk_23 rfl ?_
  refine ev_wIN (pc := 24) sh_N_user (by omega) (by decide) d_N_clunk_24 ?_
  refine ev_aload_n (pc := 25) d_N_clunk_25 rfl rfl (by first | rfl | exact mm_rk_rf _) ?_
  refine ev_gR (pc := 26) sh_N (by rfl) fl_N_63 d_N_clunk_26 ?_
  refine ev_iload_n (pc := 29) d_N_clunk_29 rfl rfl ?_
  refine ev_rIN (pc := 30) sh_N_openMode (by omega) (by decide) d_N_clunk_30 ?_
  rw [cs_ne _ _ (by omega)]
  refine ev_if_lt (pc := 31) (tgt := 64) d_N_clunk_31 (by decide) (fun hb => ?_) (fun hb => ?_)
  · rw [if_neg (fun z => z.1 hb)]
    refine ev_iconst (pc := 64) (v := 0) d_N_clunk_64 rfl ?_
    exact ev_iret (pc := 65) d_N_clunk_65 rfl (Nat.zero_le _) (Nat.zero_le _) ⟨rfl, rfl⟩
  refine ev_aload_n (pc := 34) d_N_clunk_34 rfl rfl (by first | rfl | exact mm_rk_rf _) ?_
  refine ev_gR (pc := 35) sh_N (by rfl) fl_N_63 d_N_clunk_35 ?_
  refine ev_iload_n (pc := 38) d_N_clunk_38 rfl rfl ?_
  refine ev_rIN (pc := 39) sh_N_openMode (by omega) (by decide) d_N_clunk_39 ?_
  rw [cs_ne _ _ (by omega)]
  refine ev_bipush (pc := 40) (v := 64) d_N_clunk_40 (by decide) ?_
  refine ev_iand (pc := 42) d_N_clunk_42 ?_
  refine ev_if_eq (pc := 43) (tgt := 64) d_N_clunk_43 (by decide) (fun hc => ?_) (fun hc => ?_)
  · rw [if_neg (fun z => z.2 hc)]
    refine ev_iconst (pc := 64) (v := 0) d_N_clunk_64 rfl ?_
    exact ev_iret (pc := 65) d_N_clunk_65 rfl (Nat.zero_le _) (Nat.zero_le _) ⟨rfl, rfl⟩
  rw [if_pos ⟨hb, hc⟩]
  refine ev_aload_n (pc := 46) d_N_clunk_46 rfl rfl (by first | rfl | exact mm_rk_rf _) ?_
  refine ev_iload_n (pc := 47) d_N_clunk_47 rfl rfl ?_
  refine ev_aload_n (pc := 48) d_N_clunk_48 rfl rfl (by first | rfl | exact mm_rk_rf _) ?_
  refine ev_gR (pc := 49) sh_N (by rfl) fl_N_57 d_N_clunk_49 ?_
  refine ev_iload_n (pc := 52) d_N_clunk_52 rfl rfl ?_
  refine ev_rIN (pc := 53) sh_N_tree (by omega) (by decide) d_N_clunk_53 ?_
  rw [cs_ne _ _ (by omega), et]
  refine ev_aload_n (pc := 54) d_N_clunk_54 rfl rfl (by first | rfl | exact mm_rk_rf _) ?_
  refine ev_gR (pc := 55) sh_N (by rfl) fl_N_60 d_N_clunk_55 ?_
  refine ev_iload_n (pc := 58) d_N_clunk_58 rfl rfl ?_
  refine ev_rIN (pc := 59) sh_N_at (by omega) (by decide) d_N_clunk_59 ?_
  rw [cs_ne _ _ (by omega)]
  refine ev_cV (pc := 60) (ct_N_removed E _ hw' u4 ht _) cl_N_218 jv_N_removed ⟨(Nat.le_of_ble_eq_true rfl), (Nat.le_of_ble_eq_true rfl)⟩ rfl sh_N rfl (Nat.le_of_ble_eq_true rfl) d_N_clunk_60 ⟨Nat.zero_le _, Nat.zero_le _⟩ ?_
  refine ev_pop (pc := 63) d_N_clunk_63 (by rfl) ?_
  refine ev_iconst (pc := 64) (v := 0) d_N_clunk_64 rfl ?_
  exact ev_iret (pc := 65) d_N_clunk_65 rfl (Nat.zero_le _) (Nat.zero_le _) ⟨rfl, rfl⟩
theorem d_N_remove_0 : decode b_N_remove 0 = .ok (.aload_n 0, 1) := by decide +kernel
theorem d_N_remove_1 : decode b_N_remove 1 = .ok (.getfield 54, 3) := by decide +kernel
theorem d_N_remove_4 : decode b_N_remove 4 = .ok (.iload_n 1, 1) := by decide +kernel
theorem d_N_remove_5 : decode b_N_remove 5 = .ok (.iaload, 1) := by decide +kernel
theorem d_N_remove_6 : decode b_N_remove 6 = .ok (.ifCond .ge 5, 3) := by decide +kernel
theorem d_N_remove_9 : decode b_N_remove 9 = .ok (.iconst (-1), 1) := by decide +kernel
theorem d_N_remove_10 : decode b_N_remove 10 = .ok (.ireturn, 1) := by decide +kernel
theorem d_N_remove_11 : decode b_N_remove 11 = .ok (.aload_n 0, 1) := by decide +kernel
theorem d_N_remove_12 : decode b_N_remove 12 = .ok (.getfield 54, 3) := by decide +kernel
theorem d_N_remove_15 : decode b_N_remove 15 = .ok (.iload_n 1, 1) := by decide +kernel
theorem d_N_remove_16 : decode b_N_remove 16 = .ok (.iaload, 1) := by decide +kernel
theorem d_N_remove_17 : decode b_N_remove 17 = .ok (.istore_n 2, 1) := by decide +kernel
theorem d_N_remove_18 : decode b_N_remove 18 = .ok (.aload_n 0, 1) := by decide +kernel
theorem d_N_remove_19 : decode b_N_remove 19 = .ok (.getfield 54, 3) := by decide +kernel
theorem d_N_remove_22 : decode b_N_remove 22 = .ok (.iload_n 1, 1) := by decide +kernel
theorem d_N_remove_23 : decode b_N_remove 23 = .ok (.iconst (-1), 1) := by decide +kernel
theorem d_N_remove_24 : decode b_N_remove 24 = .ok (.iastore, 1) := by decide +kernel
theorem d_N_remove_25 : decode b_N_remove 25 = .ok (.aload_n 0, 1) := by decide +kernel
theorem d_N_remove_26 : decode b_N_remove 26 = .ok (.iload_n 2, 1) := by decide +kernel
theorem d_N_remove_27 : decode b_N_remove 27 = .ok (.aload_n 0, 1) := by decide +kernel
theorem d_N_remove_28 : decode b_N_remove 28 = .ok (.getfield 57, 3) := by decide +kernel
theorem d_N_remove_31 : decode b_N_remove 31 = .ok (.iload_n 1, 1) := by decide +kernel
theorem d_N_remove_32 : decode b_N_remove 32 = .ok (.iaload, 1) := by decide +kernel
theorem d_N_remove_33 : decode b_N_remove 33 = .ok (.aload_n 0, 1) := by decide +kernel
theorem d_N_remove_34 : decode b_N_remove 34 = .ok (.getfield 60, 3) := by decide +kernel
theorem d_N_remove_37 : decode b_N_remove 37 = .ok (.iload_n 1, 1) := by decide +kernel
theorem d_N_remove_38 : decode b_N_remove 38 = .ok (.iaload, 1) := by decide +kernel
theorem d_N_remove_39 : decode b_N_remove 39 = .ok (.invokevirtual 218, 3) := by decide +kernel
theorem d_N_remove_42 : decode b_N_remove 42 = .ok (.ireturn, 1) := by decide +kernel
set_option maxRecDepth 20000 in
theorem ct_N_remove (E : mm_En) (C : Nat → Nat → Int32) {f t s : Nat} (hw : nw_P C s) (hu : nu_P C f t) : mm_MT E K_N_remove [.ref 204, .int (nI f)] (hp_H C) (mm_D (some (.int (nM_R C f t s).1)) (nM_R C f t s).2) := by
  obtain ⟨hf, ht, et, hus⟩ := hu
  refine mm_mtL (by decide) (by rfl) (Nat.le_of_ble_eq_true rfl) rfl ?_
  refine ev_aload_n (pc := 0) d_N_remove_0 rfl rfl (by first | rfl | exact mm_rk_rf _) ?_
  refine ev_gR (pc := 1) sh_N (by rfl) fl_N_54 d_N_remove_1 ?_
  refine ev_iload_n (pc := 4) d_N_remove_4 rfl rfl ?_
  refine ev_rIN (pc := 5) sh_N_user (by omega) (by decide) d_N_remove_5 ?_
  refine ev_if_ge (pc := 6) (tgt := 11) d_N_remove_6 (by decide) (fun ha => ?_) (fun ha => ?_)
  rotate_left
  · have ha' : C 217 f < 0 := Int32.not_le.mp ha
    rw [nM_R, if_pos ha']
    refine ev_iconst (pc := 9) (v := -1) d_N_remove_9 rfl ?_
    exact ev_iret (pc := 10) d_N_remove_10 rfl (Nat.zero_le _) (Nat.zero_le _) ⟨rfl, rfl⟩
  have ha' : ¬ C 217 f < 0 := Int32.not_lt.mpr ha
  obtain ⟨u4, eu⟩ := hus ha'
  rw [nM_R, if_neg ha']
  have hw' : nw_P (cs_C C 217 f (-1)) s := nw_c rfl rfl rfl rfl rfl rfl hw
  refine ev_aload_n (pc := 11) d_N_remove_11 rfl rfl (by first | rfl | exact mm_rk_rf _) ?_
  refine ev_gR (pc := 12) sh_N (by rfl) fl_N_54 d_N_remove_12 ?_
  refine ev_iload_n (pc := 15) d_N_remove_15 rfl rfl ?_
  refine ev_rIN (pc := 16) sh_N_user (by omega) (by decide) d_N_remove_16 ?_
  rw [eu]
  refine ev_istore_n (pc := 17) d_N_remove_17 rfl (Nat.le_of_ble_eq_true rfl) rfl ?_
  try dsimp only [List.set]
  refine ev_aload_n (pc := 18) d_N_remove_18 rfl rfl (by first | rfl | exact mm_rk_rf _) ?_
  refine ev_gR (pc := 19) sh_N (by rfl) fl_N_54 d_N_remove_19 ?_
  refine ev_iload_n (pc := 22) d_N_remove_22 rfl rfl ?_
  refine ev_iconst (pc := 23) (v := -1) d_N_remove_23 rfl ?_
  refine ev_wIN (pc := 24) sh_N_user (by omega) (by decide) d_N_remove_24 ?_
  refine ev_aload_n (pc := 25) d_N_remove_25 rfl rfl (by first | rfl | exact mm_rk_rf _) ?_
  refine ev_iload_n (pc := 26) d_N_remove_26 rfl rfl ?_
  refine ev_aload_n (pc := 27) d_N_remove_27 rfl rfl (by first | rfl | exact mm_rk_rf _) ?_
  refine ev_gR (pc := 28) sh_N (by rfl) fl_N_57 d_N_remove_28 ?_
  refine ev_iload_n (pc := 31) d_N_remove_31 rfl rfl ?_
  refine ev_rIN (pc := 32) sh_N_tree (by omega) (by decide) d_N_remove_32 ?_
  rw [cs_ne _ _ (by omega), et]
  refine ev_aload_n (pc := 33) d_N_remove_33 rfl rfl (by first | rfl | exact mm_rk_rf _) ?_
  refine ev_gR (pc := 34) sh_N (by rfl) fl_N_60 d_N_remove_34 ?_
  refine ev_iload_n (pc := 37) d_N_remove_37 rfl rfl ?_
  refine ev_rIN (pc := 38) sh_N_at (by omega) (by decide) d_N_remove_38 ?_
  rw [cs_ne _ _ (by omega)]
  refine ev_cV (pc := 39) (ct_N_removed E _ hw' u4 ht _) cl_N_218 jv_N_removed ⟨(Nat.le_of_ble_eq_true rfl), (Nat.le_of_ble_eq_true rfl)⟩ rfl sh_N rfl (Nat.le_of_ble_eq_true rfl) d_N_remove_39 ⟨Nat.zero_le _, Nat.zero_le _⟩ ?_
  exact ev_iret (pc := 42) d_N_remove_42 rfl (Nat.zero_le _) (Nat.zero_le _) ⟨rfl, rfl⟩
