/-! The reference: old blocks, counting, changing. -/
noncomputable def b4 (P : Prop) : Bool := @decide P (Classical.propDecidable P)
theorem b4_t {P : Prop} (h : P) : b4 P = true := by simp [b4, h]
theorem b4_f {P : Prop} (h : ¬ P) : b4 P = false := by simp [b4, h]
theorem b4_i {P : Prop} : b4 P = true ↔ P := by simp [b4]
noncomputable def n1 (P : Prop) : Nat := @ite Nat P (Classical.propDecidable P) 1 0
theorem n1_t {P : Prop} (h : P) : n1 P = 1 := by simp [n1, h]
theorem n1_f {P : Prop} (h : ¬ P) : n1 P = 0 := by simp [n1, h]
theorem n1_le (P : Prop) : n1 P ≤ 1 := by
  by_cases h : P
  · rw [n1_t h]; exact Nat.le_refl _
  · rw [n1_f h]; exact Nat.zero_le _
/-- a tree but the present one has the block -/
def no_P (C : Nat → Nat → Int32) (s : Nat) (b : Int32) : Prop := ∃ t, 1 ≤ t ∧ t < 2 + s ∧ ∃ k, 20 * t ≤ k ∧ k < 20 * t + nm C t ∧ C 215 k = b
theorem d_N_inOld_0 : decode b_N_inOld 0 = .ok (.iconst 1, 1) := by decide +kernel
theorem d_N_inOld_1 : decode b_N_inOld 1 = .ok (.istore_n 2, 1) := by decide +kernel
theorem d_N_inOld_2 : decode b_N_inOld 2 = .ok (.iload_n 2, 1) := by decide +kernel
theorem d_N_inOld_3 : decode b_N_inOld 3 = .ok (.iconst 2, 1) := by decide +kernel
theorem d_N_inOld_4 : decode b_N_inOld 4 = .ok (.aload_n 0, 1) := by decide +kernel
theorem d_N_inOld_5 : decode b_N_inOld 5 = .ok (.getfield 157, 3) := by decide +kernel
theorem d_N_inOld_8 : decode b_N_inOld 8 = .ok (.iadd, 1) := by decide +kernel
theorem d_N_inOld_9 : decode b_N_inOld 9 = .ok (.if_icmp .ge 47, 3) := by decide +kernel
theorem d_N_inOld_12 : decode b_N_inOld 12 = .ok (.bipush 20, 2) := by decide +kernel
theorem d_N_inOld_14 : decode b_N_inOld 14 = .ok (.iload_n 2, 1) := by decide +kernel
theorem d_N_inOld_15 : decode b_N_inOld 15 = .ok (.imul, 1) := by decide +kernel
theorem d_N_inOld_16 : decode b_N_inOld 16 = .ok (.istore_n 3, 1) := by decide +kernel
theorem d_N_inOld_17 : decode b_N_inOld 17 = .ok (.iload_n 3, 1) := by decide +kernel
theorem d_N_inOld_18 : decode b_N_inOld 18 = .ok (.bipush 20, 2) := by decide +kernel
theorem d_N_inOld_20 : decode b_N_inOld 20 = .ok (.iload_n 2, 1) := by decide +kernel
theorem d_N_inOld_21 : decode b_N_inOld 21 = .ok (.imul, 1) := by decide +kernel
theorem d_N_inOld_22 : decode b_N_inOld 22 = .ok (.aload_n 0, 1) := by decide +kernel
theorem d_N_inOld_23 : decode b_N_inOld 23 = .ok (.getfield 13, 3) := by decide +kernel
theorem d_N_inOld_26 : decode b_N_inOld 26 = .ok (.iload_n 2, 1) := by decide +kernel
theorem d_N_inOld_27 : decode b_N_inOld 27 = .ok (.iaload, 1) := by decide +kernel
theorem d_N_inOld_28 : decode b_N_inOld 28 = .ok (.iadd, 1) := by decide +kernel
theorem d_N_inOld_29 : decode b_N_inOld 29 = .ok (.if_icmp .ge 21, 3) := by decide +kernel
theorem d_N_inOld_32 : decode b_N_inOld 32 = .ok (.aload_n 0, 1) := by decide +kernel
theorem d_N_inOld_33 : decode b_N_inOld 33 = .ok (.getfield 41, 3) := by decide +kernel
theorem d_N_inOld_36 : decode b_N_inOld 36 = .ok (.iload_n 3, 1) := by decide +kernel
theorem d_N_inOld_37 : decode b_N_inOld 37 = .ok (.iaload, 1) := by decide +kernel
theorem d_N_inOld_38 : decode b_N_inOld 38 = .ok (.iload_n 1, 1) := by decide +kernel
theorem d_N_inOld_39 : decode b_N_inOld 39 = .ok (.if_icmp .ne 5, 3) := by decide +kernel
theorem d_N_inOld_42 : decode b_N_inOld 42 = .ok (.iconst 1, 1) := by decide +kernel
theorem d_N_inOld_43 : decode b_N_inOld 43 = .ok (.ireturn, 1) := by decide +kernel
theorem d_N_inOld_44 : decode b_N_inOld 44 = .ok (.iinc 3 1, 3) := by decide +kernel
theorem d_N_inOld_47 : decode b_N_inOld 47 = .ok (.goto (-30), 3) := by decide +kernel
theorem d_N_inOld_50 : decode b_N_inOld 50 = .ok (.iinc 2 1, 3) := by decide +kernel
theorem d_N_inOld_53 : decode b_N_inOld 53 = .ok (.goto (-51), 3) := by decide +kernel
theorem d_N_inOld_56 : decode b_N_inOld 56 = .ok (.iconst 0, 1) := by decide +kernel
theorem d_N_inOld_57 : decode b_N_inOld 57 = .ok (.ireturn, 1) := by decide +kernel
set_option maxRecDepth 20000 in
theorem ct_N_inOld (E : mm_En) (C : Nat → Nat → Int32) (hm : nm_ok C) {s : Nat} (es : C 204 14 = nI s) (s4 : s ≤ 4) (b : Int32) : mm_MT E K_N_inOld [.ref 204, .int b] (hp_H C) (mm_D (some (.int (b3_P (no_P C s b)))) C) := by
  have loop : ∀ d t : Nat, t + d = 2 + s → 1 ≤ t → ∀ L3 : Option Value, (∀ t', 1 ≤ t' → t' < t → ∀ k, 20 * t' ≤ k → k < 20 * t' + nm C t' → ¬ C 215 k = b) → ev_At E K_N_inOld 2 [some (.ref 204), some (.int b), some (.int (nI t)), L3] [] (hp_H C) 0 0 (mm_D (some (.int (b3_P (no_P C s b)))) C) := by
    intro d
    induction d with
    | zero =>
      intro t hi h1 L3 hno
      refine ev_iload_n (pc := 2) d_N_inOld_2 rfl rfl ?_
      refine ev_iconst (pc := 3) (v := nI 2) d_N_inOld_3 rfl ?_
      refine ev_aload_n (pc := 4) d_N_inOld_4 rfl rfl (by first | rfl | exact mm_rk_rf _) ?_
      refine ev_gI (pc := 5) sh_N (by rfl) fl_N_157 d_N_inOld_5 ?_
      rw [es]
      first | refine ev_iaddN (pc := 8) d_N_inOld_8 ?_ | refine ev_iadd (pc := 8) d_N_inOld_8 ?_
      refine ev_icmp_ge (pc := 9) (tgt := 56) d_N_inOld_9 (by decide) (fun ha => ?_) (fun ha => ?_)
      · refine ev_iconst (pc := 56) (v := 0) d_N_inOld_56 rfl ?_
        exact ev_zret (pc := 57) d_N_inOld_57 rfl (by first | exact Or.inl rfl | exact Or.inr rfl | assumption) (Nat.zero_le _) (Nat.zero_le _) ⟨by rw [b3_f (fun ⟨t', q1, q2, k, q3, q4, q5⟩ => hno t' q1 (by omega) k q3 q4 q5)], rfl⟩
      · exact absurd (nI_le (by omega) (by omega)) ha
    | succ d ih =>
      intro t hi h1 L3 hno
      have ht : t < 6 := by omega
      obtain ⟨m20, em⟩ := hm t ht
      have loop2 : ∀ d2 i : Nat, i + d2 = 20 * t + nm C t → 20 * t ≤ i → (∀ k, 20 * t ≤ k → k < i → ¬ C 215 k = b) → ev_At E K_N_inOld 17 [some (.ref 204), some (.int b), some (.int (nI t)), some (.int (nI i))] [] (hp_H C) 0 0 (mm_D (some (.int (b3_P (no_P C s b)))) C) := by
        intro d2
        induction d2 with
        | zero =>
          intro i hi2 h3 hno2
          refine ev_iload_n (pc := 17) d_N_inOld_17 rfl rfl ?_
          refine ev_bipush (pc := 18) (v := nI 20) d_N_inOld_18 (by decide) ?_
          refine ev_iload_n (pc := 20) d_N_inOld_20 rfl rfl ?_
          first | refine ev_imulN (pc := 21) d_N_inOld_21 ?_ | refine ev_imul (pc := 21) d_N_inOld_21 ?_
          refine ev_aload_n (pc := 22) d_N_inOld_22 rfl rfl (by first | rfl | exact mm_rk_rf _) ?_
          refine ev_gR (pc := 23) sh_N (by rfl) fl_N_13 d_N_inOld_23 ?_
          refine ev_iload_n (pc := 26) d_N_inOld_26 rfl rfl ?_
          refine ev_rIN (pc := 27) sh_N_many (by omega) (by decide) d_N_inOld_27 ?_
          rw [em]
          first | refine ev_iaddN (pc := 28) d_N_inOld_28 ?_ | refine ev_iadd (pc := 28) d_N_inOld_28 ?_
          refine ev_icmp_ge (pc := 29) (tgt := 50) d_N_inOld_29 (by decide) (fun ha => ?_) (fun ha => ?_)
          · refine ev_iinc (pc := 50) d_N_inOld_50 (Nat.le_of_ble_eq_true rfl) rfl (nx_inc _) rfl ?_
            try dsimp only [List.set]
            refine ev_goto (pc := 53) (tgt := 2) d_N_inOld_53 (by decide) ?_
            refine ih (t + 1) (by omega) (by omega) _ (fun t' q1 q2 k q3 q4 => ?_)
            by_cases hq : t' = t
            · subst hq
              exact hno2 k q3 (by omega)
            · exact hno t' q1 (by omega) k q3 q4
          · exact absurd (nI_le (by omega) (by omega)) ha
        | succ d2 ih2 =>
          intro i hi2 h3 hno2
          refine ev_iload_n (pc := 17) d_N_inOld_17 rfl rfl ?_
          refine ev_bipush (pc := 18) (v := nI 20) d_N_inOld_18 (by decide) ?_
          refine ev_iload_n (pc := 20) d_N_inOld_20 rfl rfl ?_
          first | refine ev_imulN (pc := 21) d_N_inOld_21 ?_ | refine ev_imul (pc := 21) d_N_inOld_21 ?_
          refine ev_aload_n (pc := 22) d_N_inOld_22 rfl rfl (by first | rfl | exact mm_rk_rf _) ?_
          refine ev_gR (pc := 23) sh_N (by rfl) fl_N_13 d_N_inOld_23 ?_
          refine ev_iload_n (pc := 26) d_N_inOld_26 rfl rfl ?_
          refine ev_rIN (pc := 27) sh_N_many (by omega) (by decide) d_N_inOld_27 ?_
          rw [em]
          first | refine ev_iaddN (pc := 28) d_N_inOld_28 ?_ | refine ev_iadd (pc := 28) d_N_inOld_28 ?_
          refine ev_icmp_ge (pc := 29) (tgt := 50) d_N_inOld_29 (by decide) (fun ha => ?_) (fun ha => ?_)
          · exact absurd ha (nI_ge (by omega) (by omega))
          refine ev_aload_n (pc := 32) d_N_inOld_32 rfl rfl (by first | rfl | exact mm_rk_rf _) ?_
          refine ev_gR (pc := 33) sh_N (by rfl) fl_N_41 d_N_inOld_33 ?_
          refine ev_iload_n (pc := 36) d_N_inOld_36 rfl rfl ?_
          refine ev_rIN (pc := 37) sh_N_block (by omega) (by decide) d_N_inOld_37 ?_
          refine ev_iload_n (pc := 38) d_N_inOld_38 rfl rfl ?_
          refine ev_icmp_ne (pc := 39) (tgt := 44) d_N_inOld_39 (by decide) (fun hb => ?_) (fun hb => ?_)
          · refine ev_iinc (pc := 44) d_N_inOld_44 (Nat.le_of_ble_eq_true rfl) rfl (nx_inc _) rfl ?_
            try dsimp only [List.set]
            refine ev_goto (pc := 47) (tgt := 17) d_N_inOld_47 (by decide) ?_
            refine ih2 (i + 1) (by omega) (by omega) (fun k q1 q2 => ?_)
            by_cases hq : k = i
            · subst hq
              exact hb
            · exact hno2 k q1 (by omega)
          · refine ev_iconst (pc := 42) (v := 1) d_N_inOld_42 rfl ?_
            exact ev_zret (pc := 43) d_N_inOld_43 rfl (by first | exact Or.inl rfl | exact Or.inr rfl | assumption) (Nat.zero_le _) (Nat.zero_le _) ⟨by rw [b3_t ⟨t, h1, by omega, i, h3, by omega, hb⟩], rfl⟩
      refine ev_iload_n (pc := 2) d_N_inOld_2 rfl rfl ?_
      refine ev_iconst (pc := 3) (v := nI 2) d_N_inOld_3 rfl ?_
      refine ev_aload_n (pc := 4) d_N_inOld_4 rfl rfl (by first | rfl | exact mm_rk_rf _) ?_
      refine ev_gI (pc := 5) sh_N (by rfl) fl_N_157 d_N_inOld_5 ?_
      rw [es]
      first | refine ev_iaddN (pc := 8) d_N_inOld_8 ?_ | refine ev_iadd (pc := 8) d_N_inOld_8 ?_
      refine ev_icmp_ge (pc := 9) (tgt := 56) d_N_inOld_9 (by decide) (fun ha => ?_) (fun ha => ?_)
      · exact absurd ha (nI_ge (by omega) (by omega))
      refine ev_bipush (pc := 12) (v := nI 20) d_N_inOld_12 (by decide) ?_
      refine ev_iload_n (pc := 14) d_N_inOld_14 rfl rfl ?_
      first | refine ev_imulN (pc := 15) d_N_inOld_15 ?_ | refine ev_imul (pc := 15) d_N_inOld_15 ?_
      refine ev_istore_n (pc := 16) d_N_inOld_16 rfl (Nat.le_of_ble_eq_true rfl) rfl ?_
      try dsimp only [List.set]
      exact loop2 (nm C t) (20 * t) (by omega) (by omega) (fun k q1 q2 => by omega)
  refine mm_mtL (by decide) (by rfl) (Nat.le_of_ble_eq_true rfl) rfl ?_
  refine ev_iconst (pc := 0) (v := 1) d_N_inOld_0 rfl ?_
  refine ev_istore_n (pc := 1) d_N_inOld_1 rfl (Nat.le_of_ble_eq_true rfl) rfl ?_
  try dsimp only [List.set]
  exact loop (1 + s) 1 (by omega) (by omega) _ (fun t' q1 q2 => by omega)
/-- the first place of a block -/
def nb_P (C : Nat → Nat → Int32) (k : Nat) : Prop := nv C k ∧ ¬ ∃ j, j < k ∧ nv C j ∧ C 215 j = C 215 k
noncomputable def nb_n (C : Nat → Nat → Int32) (s : Nat) : Nat := fx_c (fun k => b4 (nb_P C k)) (20 * (2 + s)) 0
theorem d_N_blocks_0 : decode b_N_blocks 0 = .ok (.iconst 0, 1) := by decide +kernel
theorem d_N_blocks_1 : decode b_N_blocks 1 = .ok (.istore_n 1, 1) := by decide +kernel
theorem d_N_blocks_2 : decode b_N_blocks 2 = .ok (.iconst 0, 1) := by decide +kernel
theorem d_N_blocks_3 : decode b_N_blocks 3 = .ok (.istore_n 2, 1) := by decide +kernel
theorem d_N_blocks_4 : decode b_N_blocks 4 = .ok (.iload_n 2, 1) := by decide +kernel
theorem d_N_blocks_5 : decode b_N_blocks 5 = .ok (.bipush 20, 2) := by decide +kernel
theorem d_N_blocks_7 : decode b_N_blocks 7 = .ok (.iconst 2, 1) := by decide +kernel
theorem d_N_blocks_8 : decode b_N_blocks 8 = .ok (.aload_n 0, 1) := by decide +kernel
theorem d_N_blocks_9 : decode b_N_blocks 9 = .ok (.getfield 157, 3) := by decide +kernel
theorem d_N_blocks_12 : decode b_N_blocks 12 = .ok (.iadd, 1) := by decide +kernel
theorem d_N_blocks_13 : decode b_N_blocks 13 = .ok (.imul, 1) := by decide +kernel
theorem d_N_blocks_14 : decode b_N_blocks 14 = .ok (.if_icmp .ge 101, 3) := by decide +kernel
theorem d_N_blocks_17 : decode b_N_blocks 17 = .ok (.iload_n 2, 1) := by decide +kernel
theorem d_N_blocks_18 : decode b_N_blocks 18 = .ok (.bipush 20, 2) := by decide +kernel
theorem d_N_blocks_20 : decode b_N_blocks 20 = .ok (.irem, 1) := by decide +kernel
theorem d_N_blocks_21 : decode b_N_blocks 21 = .ok (.aload_n 0, 1) := by decide +kernel
theorem d_N_blocks_22 : decode b_N_blocks 22 = .ok (.getfield 13, 3) := by decide +kernel
theorem d_N_blocks_25 : decode b_N_blocks 25 = .ok (.iload_n 2, 1) := by decide +kernel
theorem d_N_blocks_26 : decode b_N_blocks 26 = .ok (.bipush 20, 2) := by decide +kernel
theorem d_N_blocks_28 : decode b_N_blocks 28 = .ok (.idiv, 1) := by decide +kernel
theorem d_N_blocks_29 : decode b_N_blocks 29 = .ok (.iaload, 1) := by decide +kernel
theorem d_N_blocks_30 : decode b_N_blocks 30 = .ok (.if_icmp .lt 6, 3) := by decide +kernel
theorem d_N_blocks_33 : decode b_N_blocks 33 = .ok (.goto 76, 3) := by decide +kernel
theorem d_N_blocks_36 : decode b_N_blocks 36 = .ok (.iconst 0, 1) := by decide +kernel
theorem d_N_blocks_37 : decode b_N_blocks 37 = .ok (.istore_n 3, 1) := by decide +kernel
theorem d_N_blocks_38 : decode b_N_blocks 38 = .ok (.iconst 0, 1) := by decide +kernel
theorem d_N_blocks_39 : decode b_N_blocks 39 = .ok (.istore 4, 2) := by decide +kernel
theorem d_N_blocks_41 : decode b_N_blocks 41 = .ok (.iload 4, 2) := by decide +kernel
theorem d_N_blocks_43 : decode b_N_blocks 43 = .ok (.iload_n 2, 1) := by decide +kernel
theorem d_N_blocks_44 : decode b_N_blocks 44 = .ok (.if_icmp .ge 53, 3) := by decide +kernel
theorem d_N_blocks_47 : decode b_N_blocks 47 = .ok (.iload_n 3, 1) := by decide +kernel
theorem d_N_blocks_48 : decode b_N_blocks 48 = .ok (.ifCond .ne 37, 3) := by decide +kernel
theorem d_N_blocks_51 : decode b_N_blocks 51 = .ok (.iload 4, 2) := by decide +kernel
theorem d_N_blocks_53 : decode b_N_blocks 53 = .ok (.bipush 20, 2) := by decide +kernel
theorem d_N_blocks_55 : decode b_N_blocks 55 = .ok (.irem, 1) := by decide +kernel
theorem d_N_blocks_56 : decode b_N_blocks 56 = .ok (.aload_n 0, 1) := by decide +kernel
theorem d_N_blocks_57 : decode b_N_blocks 57 = .ok (.getfield 13, 3) := by decide +kernel
theorem d_N_blocks_60 : decode b_N_blocks 60 = .ok (.iload 4, 2) := by decide +kernel
theorem d_N_blocks_62 : decode b_N_blocks 62 = .ok (.bipush 20, 2) := by decide +kernel
theorem d_N_blocks_64 : decode b_N_blocks 64 = .ok (.idiv, 1) := by decide +kernel
theorem d_N_blocks_65 : decode b_N_blocks 65 = .ok (.iaload, 1) := by decide +kernel
theorem d_N_blocks_66 : decode b_N_blocks 66 = .ok (.if_icmp .ge 23, 3) := by decide +kernel
theorem d_N_blocks_69 : decode b_N_blocks 69 = .ok (.aload_n 0, 1) := by decide +kernel
theorem d_N_blocks_70 : decode b_N_blocks 70 = .ok (.getfield 41, 3) := by decide +kernel
theorem d_N_blocks_73 : decode b_N_blocks 73 = .ok (.iload 4, 2) := by decide +kernel
theorem d_N_blocks_75 : decode b_N_blocks 75 = .ok (.iaload, 1) := by decide +kernel
theorem d_N_blocks_76 : decode b_N_blocks 76 = .ok (.aload_n 0, 1) := by decide +kernel
theorem d_N_blocks_77 : decode b_N_blocks 77 = .ok (.getfield 41, 3) := by decide +kernel
theorem d_N_blocks_80 : decode b_N_blocks 80 = .ok (.iload_n 2, 1) := by decide +kernel
theorem d_N_blocks_81 : decode b_N_blocks 81 = .ok (.iaload, 1) := by decide +kernel
theorem d_N_blocks_82 : decode b_N_blocks 82 = .ok (.if_icmp .ne 7, 3) := by decide +kernel
theorem d_N_blocks_85 : decode b_N_blocks 85 = .ok (.iconst 1, 1) := by decide +kernel
theorem d_N_blocks_86 : decode b_N_blocks 86 = .ok (.goto 4, 3) := by decide +kernel
theorem d_N_blocks_89 : decode b_N_blocks 89 = .ok (.iconst 0, 1) := by decide +kernel
theorem d_N_blocks_90 : decode b_N_blocks 90 = .ok (.istore_n 3, 1) := by decide +kernel
theorem d_N_blocks_91 : decode b_N_blocks 91 = .ok (.iinc 4 1, 3) := by decide +kernel
theorem d_N_blocks_94 : decode b_N_blocks 94 = .ok (.goto (-53), 3) := by decide +kernel
theorem d_N_blocks_97 : decode b_N_blocks 97 = .ok (.iload_n 1, 1) := by decide +kernel
theorem d_N_blocks_98 : decode b_N_blocks 98 = .ok (.iload_n 3, 1) := by decide +kernel
theorem d_N_blocks_99 : decode b_N_blocks 99 = .ok (.ifCond .eq 7, 3) := by decide +kernel
theorem d_N_blocks_102 : decode b_N_blocks 102 = .ok (.iconst 0, 1) := by decide +kernel
theorem d_N_blocks_103 : decode b_N_blocks 103 = .ok (.goto 4, 3) := by decide +kernel
theorem d_N_blocks_106 : decode b_N_blocks 106 = .ok (.iconst 1, 1) := by decide +kernel
theorem d_N_blocks_107 : decode b_N_blocks 107 = .ok (.iadd, 1) := by decide +kernel
theorem d_N_blocks_108 : decode b_N_blocks 108 = .ok (.istore_n 1, 1) := by decide +kernel
theorem d_N_blocks_109 : decode b_N_blocks 109 = .ok (.iinc 2 1, 3) := by decide +kernel
theorem d_N_blocks_112 : decode b_N_blocks 112 = .ok (.goto (-108), 3) := by decide +kernel
theorem d_N_blocks_115 : decode b_N_blocks 115 = .ok (.iload_n 1, 1) := by decide +kernel
theorem d_N_blocks_116 : decode b_N_blocks 116 = .ok (.ireturn, 1) := by decide +kernel
set_option maxRecDepth 20000 in
set_option maxHeartbeats 1000000 in
theorem ct_N_blocks (E : mm_En) (C : Nat → Nat → Int32) (hm : nm_ok C) {s : Nat} (es : C 204 14 = nI s) (s4 : s ≤ 4) : mm_MT E K_N_blocks [.ref 204] (hp_H C) (mm_D (some (.int (nI (nb_n C s)))) C) := by
  have loop : ∀ d k n : Nat, k + d = 20 * (2 + s) → ∀ L3 L4 : Option Value, ev_At E K_N_blocks 4 [some (.ref 204), some (.int (nI n)), some (.int (nI k)), L3, L4] [] (hp_H C) 0 0 (mm_D (some (.int (nI (n + fx_c (fun k => b4 (nb_P C k)) d k)))) C) := by
    intro d
    induction d with
    | zero =>
      intro k n hi L3 L4
      refine ev_iload_n (pc := 4) d_N_blocks_4 rfl rfl ?_
      refine ev_bipush (pc := 5) (v := nI 20) d_N_blocks_5 (by decide) ?_
      refine ev_iconst (pc := 7) (v := nI 2) d_N_blocks_7 rfl ?_
      refine ev_aload_n (pc := 8) d_N_blocks_8 rfl rfl (by first | rfl | exact mm_rk_rf _) ?_
      refine ev_gI (pc := 9) sh_N (by rfl) fl_N_157 d_N_blocks_9 ?_
      rw [es]
      first | refine ev_iaddN (pc := 12) d_N_blocks_12 ?_ | refine ev_iadd (pc := 12) d_N_blocks_12 ?_
      first | refine ev_imulN (pc := 13) d_N_blocks_13 ?_ | refine ev_imul (pc := 13) d_N_blocks_13 ?_
      refine ev_icmp_ge (pc := 14) (tgt := 115) d_N_blocks_14 (by decide) (fun ha => ?_) (fun ha => ?_)
      · refine ev_iload_n (pc := 115) d_N_blocks_115 rfl rfl ?_
        exact ev_iret (pc := 116) d_N_blocks_116 rfl (Nat.zero_le _) (Nat.zero_le _) ⟨rfl, rfl⟩
      · exact absurd (nI_le (by omega) (by omega)) ha
    | succ d ih =>
      intro k n hi L3 L4
      obtain ⟨m20, em⟩ := hm (k / 20) (by omega)
      refine ev_iload_n (pc := 4) d_N_blocks_4 rfl rfl ?_
      refine ev_bipush (pc := 5) (v := nI 20) d_N_blocks_5 (by decide) ?_
      refine ev_iconst (pc := 7) (v := nI 2) d_N_blocks_7 rfl ?_
      refine ev_aload_n (pc := 8) d_N_blocks_8 rfl rfl (by first | rfl | exact mm_rk_rf _) ?_
      refine ev_gI (pc := 9) sh_N (by rfl) fl_N_157 d_N_blocks_9 ?_
      rw [es]
      first | refine ev_iaddN (pc := 12) d_N_blocks_12 ?_ | refine ev_iadd (pc := 12) d_N_blocks_12 ?_
      first | refine ev_imulN (pc := 13) d_N_blocks_13 ?_ | refine ev_imul (pc := 13) d_N_blocks_13 ?_
      refine ev_icmp_ge (pc := 14) (tgt := 115) d_N_blocks_14 (by decide) (fun ha => ?_) (fun ha => ?_)
      · exact absurd ha (nI_ge (by omega) (by omega))
      refine ev_iload_n (pc := 17) d_N_blocks_17 rfl rfl ?_
      refine ev_bipush (pc := 18) (v := nI 20) d_N_blocks_18 (by decide) ?_
      refine ev_iremN (pc := 20) d_N_blocks_20 (by omega) (by decide) ?_
      refine ev_aload_n (pc := 21) d_N_blocks_21 rfl rfl (by first | rfl | exact mm_rk_rf _) ?_
      refine ev_gR (pc := 22) sh_N (by rfl) fl_N_13 d_N_blocks_22 ?_
      refine ev_iload_n (pc := 25) d_N_blocks_25 rfl rfl ?_
      refine ev_bipush (pc := 26) (v := nI 20) d_N_blocks_26 (by decide) ?_
      refine ev_idivN (pc := 28) d_N_blocks_28 (by omega) (by decide) ?_
      refine ev_rIN (pc := 29) sh_N_many (by omega) (by decide) d_N_blocks_29 ?_
      rw [em]
      refine ev_icmp_lt (pc := 30) (tgt := 36) d_N_blocks_30 (by decide) (fun hb => ?_) (fun hb => ?_)
      rotate_left
      · have hnv : ¬ nv C k := fun z => hb (nI_lt z.2 (by omega))
        refine ev_goto (pc := 33) (tgt := 109) d_N_blocks_33 (by decide) ?_
        refine ev_iinc (pc := 109) d_N_blocks_109 (Nat.le_of_ble_eq_true rfl) rfl (nx_inc _) rfl ?_
        try dsimp only [List.set]
        refine ev_goto (pc := 112) (tgt := 4) d_N_blocks_112 (by decide) ?_
        have h2 := ih (k + 1) n (by omega) L3 L4
        simp only [fx_c, b4_f (fun z : nb_P C k => hnv z.1)]
        simpa using h2
      have hv : nv C k := ⟨by omega, Nat.not_le.mp (fun z => nI_nlt z (by omega) hb)⟩
      have loop2 : ∀ d2 j : Nat, j + d2 = k → ∀ P : Prop, (P ↔ ∃ i, i < j ∧ nv C i ∧ C 215 i = C 215 k) → ev_At E K_N_blocks 41 [some (.ref 204), some (.int (nI n)), some (.int (nI k)), some (.int (b3_P P)), some (.int (nI j))] [] (hp_H C) 0 0 (mm_D (some (.int (nI (n + fx_c (fun k => b4 (nb_P C k)) (d + 1) k)))) C) := by
        intro d2
        induction d2 with
        | zero =>
          intro j hj P hP
          have hjk : j = k := by omega
          subst hjk
          refine ev_iload (pc := 41) d_N_blocks_41 rfl ?_
          refine ev_iload_n (pc := 43) d_N_blocks_43 rfl rfl ?_
          refine ev_icmp_ge (pc := 44) (tgt := 97) d_N_blocks_44 (by decide) (fun hd => ?_) (fun hd => ?_)
          rotate_left
          · exact absurd (Int32.le_refl _) hd
          refine ev_iload_n (pc := 97) d_N_blocks_97 rfl rfl ?_
          refine ev_iload_n (pc := 98) d_N_blocks_98 rfl rfl ?_
          refine ev_if_eq (pc := 99) (tgt := 106) d_N_blocks_99 (by decide) (fun he => ?_) (fun he => ?_)
          · rw [b3_0] at he
            refine ev_iconst (pc := 106) (v := 1) d_N_blocks_106 rfl ?_
            first | refine ev_iaddN (pc := 107) d_N_blocks_107 ?_ | refine ev_iadd (pc := 107) d_N_blocks_107 ?_
            refine ev_istore_n (pc := 108) d_N_blocks_108 rfl (Nat.le_of_ble_eq_true rfl) rfl ?_
            try dsimp only [List.set]
            refine ev_iinc (pc := 109) d_N_blocks_109 (Nat.le_of_ble_eq_true rfl) rfl (nx_inc _) rfl ?_
            try dsimp only [List.set]
            refine ev_goto (pc := 112) (tgt := 4) d_N_blocks_112 (by decide) ?_
            have h2 := ih (j + 1) (n + 1) (by omega) (some (.int (b3_P P))) (some (.int (nI j)))
            simp only [fx_c, b4_t (show nb_P C j from ⟨hv, fun z => he (hP.mpr z)⟩)]
            rw [Nat.add_assoc] at h2
            simpa using h2
          · rw [b3_0, Classical.not_not] at he
            refine ev_iconst (pc := 102) (v := nI 0) d_N_blocks_102 rfl ?_
            refine ev_goto (pc := 103) (tgt := 107) d_N_blocks_103 (by decide) ?_
            first | refine ev_iaddN (pc := 107) d_N_blocks_107 ?_ | refine ev_iadd (pc := 107) d_N_blocks_107 ?_
            refine ev_istore_n (pc := 108) d_N_blocks_108 rfl (Nat.le_of_ble_eq_true rfl) rfl ?_
            try dsimp only [List.set]
            refine ev_iinc (pc := 109) d_N_blocks_109 (Nat.le_of_ble_eq_true rfl) rfl (nx_inc _) rfl ?_
            try dsimp only [List.set]
            refine ev_goto (pc := 112) (tgt := 4) d_N_blocks_112 (by decide) ?_
            have h2 := ih (j + 1) (n + 0) (by omega) (some (.int (b3_P P))) (some (.int (nI j)))
            simp only [fx_c, b4_f (show ¬ nb_P C j from fun z => z.2 (hP.mp he))]
            simpa using h2
        | succ d2 ih2 =>
          intro j hj P hP
          obtain ⟨m20', em'⟩ := hm (j / 20) (by omega)
          have hv' : nv C j ↔ nI (j % 20) < nI (nm C (j / 20)) := by
            rw [nI_ltI (by omega) (by omega)]
            exact ⟨fun z => z.2, fun z => ⟨by omega, z⟩⟩
          have fin : ∀ Q : Prop, (Q ↔ P ∨ (nv C j ∧ C 215 j = C 215 k)) → ev_At E K_N_blocks 90 [some (.ref 204), some (.int (nI n)), some (.int (nI k)), some (.int (b3_P P)), some (.int (nI j))] [.int (b3_P Q)] (hp_H C) 0 0 (mm_D (some (.int (nI (n + fx_c (fun k => b4 (nb_P C k)) (d + 1) k)))) C) := by
            intro Q hQ
            refine ev_istore_n (pc := 90) d_N_blocks_90 rfl (Nat.le_of_ble_eq_true rfl) rfl ?_
            try dsimp only [List.set]
            refine ev_iinc (pc := 91) d_N_blocks_91 (Nat.le_of_ble_eq_true rfl) rfl (nx_inc _) rfl ?_
            try dsimp only [List.set]
            refine ev_goto (pc := 94) (tgt := 41) d_N_blocks_94 (by decide) ?_
            refine ih2 (j + 1) (by omega) Q (hQ.trans ⟨fun z => ?_, fun z => ?_⟩)
            · rcases z with z | z
              · obtain ⟨i, q1, q2⟩ := hP.mp z
                exact ⟨i, by omega, q2⟩
              · exact ⟨j, by omega, z⟩
            · obtain ⟨i, q1, q2⟩ := z
              by_cases hij : i = j
              · subst hij
                exact Or.inr q2
              · exact Or.inl (hP.mpr ⟨i, by omega, q2⟩)
          have fin1 : (P ∨ (nv C j ∧ C 215 j = C 215 k)) → ev_At E K_N_blocks 85 [some (.ref 204), some (.int (nI n)), some (.int (nI k)), some (.int (b3_P P)), some (.int (nI j))] [] (hp_H C) 0 0 (mm_D (some (.int (nI (n + fx_c (fun k => b4 (nb_P C k)) (d + 1) k)))) C) := by
            intro hh
            refine ev_iconst (pc := 85) (v := 1) d_N_blocks_85 rfl ?_
            refine ev_goto (pc := 86) (tgt := 90) d_N_blocks_86 (by decide) ?_
            have h2 := fin True ⟨fun _ => hh, fun _ => trivial⟩
            rw [b3_t trivial] at h2
            exact h2
          have fin0 : ¬ (P ∨ (nv C j ∧ C 215 j = C 215 k)) → ev_At E K_N_blocks 89 [some (.ref 204), some (.int (nI n)), some (.int (nI k)), some (.int (b3_P P)), some (.int (nI j))] [] (hp_H C) 0 0 (mm_D (some (.int (nI (n + fx_c (fun k => b4 (nb_P C k)) (d + 1) k)))) C) := by
            intro hh
            refine ev_iconst (pc := 89) (v := 0) d_N_blocks_89 rfl ?_
            have h2 := fin False ⟨fun z => z.elim, hh⟩
            rw [b3_f (fun z => z)] at h2
            exact h2
          refine ev_iload (pc := 41) d_N_blocks_41 rfl ?_
          refine ev_iload_n (pc := 43) d_N_blocks_43 rfl rfl ?_
          refine ev_icmp_ge (pc := 44) (tgt := 97) d_N_blocks_44 (by decide) (fun hd => ?_) (fun hd => ?_)
          · exact absurd hd (nI_ge (by omega) (by omega))
          refine ev_iload_n (pc := 47) d_N_blocks_47 rfl rfl ?_
          refine ev_if_ne (pc := 48) (tgt := 85) d_N_blocks_48 (by decide) (fun he => ?_) (fun he => ?_)
          · rw [b3_0, Classical.not_not] at he
            exact fin1 (Or.inl he)
          rw [b3_0] at he
          refine ev_iload (pc := 51) d_N_blocks_51 rfl ?_
          refine ev_bipush (pc := 53) (v := nI 20) d_N_blocks_53 (by decide) ?_
          refine ev_iremN (pc := 55) d_N_blocks_55 (by omega) (by decide) ?_
          refine ev_aload_n (pc := 56) d_N_blocks_56 rfl rfl (by first | rfl | exact mm_rk_rf _) ?_
          refine ev_gR (pc := 57) sh_N (by rfl) fl_N_13 d_N_blocks_57 ?_
          refine ev_iload (pc := 60) d_N_blocks_60 rfl ?_
          refine ev_bipush (pc := 62) (v := nI 20) d_N_blocks_62 (by decide) ?_
          refine ev_idivN (pc := 64) d_N_blocks_64 (by omega) (by decide) ?_
          refine ev_rIN (pc := 65) sh_N_many (by omega) (by decide) d_N_blocks_65 ?_
          rw [em']
          refine ev_icmp_ge (pc := 66) (tgt := 89) d_N_blocks_66 (by decide) (fun hf => ?_) (fun hf => ?_)
          · exact fin0 (fun z => z.elim he (fun y => Int32.not_lt.mpr hf (hv'.mp y.1)))
          have hf' := hv'.mpr (Int32.not_le.mp hf)
          refine ev_aload_n (pc := 69) d_N_blocks_69 rfl rfl (by first | rfl | exact mm_rk_rf _) ?_
          refine ev_gR (pc := 70) sh_N (by rfl) fl_N_41 d_N_blocks_70 ?_
          refine ev_iload (pc := 73) d_N_blocks_73 rfl ?_
          refine ev_rIN (pc := 75) sh_N_block (by omega) (by decide) d_N_blocks_75 ?_
          refine ev_aload_n (pc := 76) d_N_blocks_76 rfl rfl (by first | rfl | exact mm_rk_rf _) ?_
          refine ev_gR (pc := 77) sh_N (by rfl) fl_N_41 d_N_blocks_77 ?_
          refine ev_iload_n (pc := 80) d_N_blocks_80 rfl rfl ?_
          refine ev_rIN (pc := 81) sh_N_block (by omega) (by decide) d_N_blocks_81 ?_
          refine ev_icmp_ne (pc := 82) (tgt := 89) d_N_blocks_82 (by decide) (fun hg => ?_) (fun hg => ?_)
          · exact fin0 (fun z => z.elim he (fun y => hg y.2))
          · exact fin1 (Or.inr ⟨hf', hg⟩)
      refine ev_iconst (pc := 36) (v := 0) d_N_blocks_36 rfl ?_
      refine ev_istore_n (pc := 37) d_N_blocks_37 rfl (Nat.le_of_ble_eq_true rfl) rfl ?_
      try dsimp only [List.set]
      refine ev_iconst (pc := 38) (v := 0) d_N_blocks_38 rfl ?_
      refine ev_istore (pc := 39) d_N_blocks_39 (Nat.le_of_ble_eq_true rfl) rfl ?_
      try dsimp only [List.set]
      have h2 := loop2 k 0 (by omega) False ⟨fun z => z.elim, fun ⟨i, q1, _⟩ => absurd q1 (Nat.not_lt_zero i)⟩
      rw [b3_f (fun z => z)] at h2
      exact h2
  refine mm_mtL (by decide) (by rfl) (Nat.le_of_ble_eq_true rfl) rfl ?_
  refine ev_iconst (pc := 0) (v := 0) d_N_blocks_0 rfl ?_
  refine ev_istore_n (pc := 1) d_N_blocks_1 rfl (Nat.le_of_ble_eq_true rfl) rfl ?_
  try dsimp only [List.set]
  refine ev_iconst (pc := 2) (v := 0) d_N_blocks_2 rfl ?_
  refine ev_istore_n (pc := 3) d_N_blocks_3 rfl (Nat.le_of_ble_eq_true rfl) rfl ?_
  try dsimp only [List.set]
  have h2 := loop (20 * (2 + s)) 0 0 (by omega) none none
  rw [Nat.zero_add] at h2
  exact h2
theorem d_N_fits_0 : decode b_N_fits 0 = .ok (.aload_n 0, 1) := by decide +kernel
theorem d_N_fits_1 : decode b_N_fits 1 = .ok (.invokevirtual 163, 3) := by decide +kernel
theorem d_N_fits_4 : decode b_N_fits 4 = .ok (.iload_n 1, 1) := by decide +kernel
theorem d_N_fits_5 : decode b_N_fits 5 = .ok (.iadd, 1) := by decide +kernel
theorem d_N_fits_6 : decode b_N_fits 6 = .ok (.bipush 64, 2) := by decide +kernel
theorem d_N_fits_8 : decode b_N_fits 8 = .ok (.if_icmp .gt 7, 3) := by decide +kernel
theorem d_N_fits_11 : decode b_N_fits 11 = .ok (.iconst 1, 1) := by decide +kernel
theorem d_N_fits_12 : decode b_N_fits 12 = .ok (.goto 4, 3) := by decide +kernel
theorem d_N_fits_15 : decode b_N_fits 15 = .ok (.iconst 0, 1) := by decide +kernel
theorem d_N_fits_16 : decode b_N_fits 16 = .ok (.ireturn, 1) := by decide +kernel
theorem ct_N_fits (E : mm_En) (C : Nat → Nat → Int32) (hm : nm_ok C) {s : Nat} (es : C 204 14 = nI s) (s4 : s ≤ 4) {m : Nat} (m9 : m < 1000) : mm_MT E K_N_fits [.ref 204, .int (nI m)] (hp_H C) (mm_D (some (.int (b2_P (nb_n C s + m ≤ 64)))) C) := by
  have hb : nb_n C s ≤ 20 * (2 + s) := fx_c_le _ _ _
  refine mm_mtL (by decide) (by rfl) (Nat.le_of_ble_eq_true rfl) rfl ?_
  refine ev_aload_n (pc := 0) d_N_fits_0 rfl rfl (by first | rfl | exact mm_rk_rf _) ?_
  refine ev_cV (pc := 1) (ct_N_blocks E C hm es s4) cl_N_163 jv_N_blocks ⟨(Nat.le_of_ble_eq_true rfl), (Nat.le_of_ble_eq_true rfl)⟩ rfl sh_N rfl (Nat.le_of_ble_eq_true rfl) d_N_fits_1 ⟨Nat.zero_le _, Nat.zero_le _⟩ ?_
  refine ev_iload_n (pc := 4) d_N_fits_4 rfl rfl ?_
  first | refine ev_iaddN (pc := 5) d_N_fits_5 ?_ | refine ev_iadd (pc := 5) d_N_fits_5 ?_
  refine ev_bipush (pc := 6) (v := 64) d_N_fits_6 (by decide) ?_
  refine ev_icmp_gt (pc := 8) (tgt := 15) d_N_fits_8 (by decide) (fun ha => ?_) (fun ha => ?_)
  · refine ev_iconst (pc := 15) (v := 0) d_N_fits_15 rfl ?_
    exact ev_zret (pc := 16) d_N_fits_16 rfl (by first | exact Or.inl rfl | exact Or.inr rfl | assumption) (Nat.zero_le _) (Nat.zero_le _) ⟨by rw [b2_f (fun z => nI_nlt (a := 64) (b := nb_n C s + m) z (by omega) ha)], rfl⟩
  · refine ev_iconst (pc := 11) (v := 1) d_N_fits_11 rfl ?_
    refine ev_goto (pc := 12) (tgt := 16) d_N_fits_12 (by decide) ?_
    exact ev_zret (pc := 16) d_N_fits_16 rfl (by first | exact Or.inl rfl | exact Or.inr rfl | assumption) (Nat.zero_le _) (Nat.zero_le _) ⟨by rw [b2_t (Nat.not_lt.mp (fun z => ha (nI_lt (a := 64) z (by omega))))], rfl⟩
noncomputable def nn_f (C : Nat → Nat → Int32) (s : Nat) : Nat → Nat → Nat
  | 0, _ => 0
  | n + 1, k => if C 208 k < 0 then 0 else n1 (no_P C s (C 215 (np C k))) + nn_f C s n (np C k)
theorem nn_le (C : Nat → Nat → Int32) (s : Nat) : ∀ n k, nn_f C s n k ≤ n := by
  intro n
  induction n with
  | zero => intro k; exact Nat.le_refl _
  | succ n ih =>
    intro k
    have h1 := ih (np C k)
    have h2 := n1_le (no_P C s (C 215 (np C k)))
    simp only [nn_f]
    split <;> omega
noncomputable def nn_n (C : Nat → Nat → Int32) (s k : Nat) : Nat := n1 (no_P C s (C 215 k)) + nn_f C s 20 k
theorem d_N_needed_0 : decode b_N_needed 0 = .ok (.aload_n 0, 1) := by decide +kernel
theorem d_N_needed_1 : decode b_N_needed 1 = .ok (.aload_n 0, 1) := by decide +kernel
theorem d_N_needed_2 : decode b_N_needed 2 = .ok (.getfield 41, 3) := by decide +kernel
theorem d_N_needed_5 : decode b_N_needed 5 = .ok (.iload_n 1, 1) := by decide +kernel
theorem d_N_needed_6 : decode b_N_needed 6 = .ok (.iaload, 1) := by decide +kernel
theorem d_N_needed_7 : decode b_N_needed 7 = .ok (.invokevirtual 160, 3) := by decide +kernel
theorem d_N_needed_10 : decode b_N_needed 10 = .ok (.ifCond .eq 7, 3) := by decide +kernel
theorem d_N_needed_13 : decode b_N_needed 13 = .ok (.iconst 1, 1) := by decide +kernel
theorem d_N_needed_14 : decode b_N_needed 14 = .ok (.goto 4, 3) := by decide +kernel
theorem d_N_needed_17 : decode b_N_needed 17 = .ok (.iconst 0, 1) := by decide +kernel
theorem d_N_needed_18 : decode b_N_needed 18 = .ok (.istore_n 2, 1) := by decide +kernel
theorem d_N_needed_19 : decode b_N_needed 19 = .ok (.iload_n 1, 1) := by decide +kernel
theorem d_N_needed_20 : decode b_N_needed 20 = .ok (.istore_n 3, 1) := by decide +kernel
theorem d_N_needed_21 : decode b_N_needed 21 = .ok (.iconst 0, 1) := by decide +kernel
theorem d_N_needed_22 : decode b_N_needed 22 = .ok (.istore 4, 2) := by decide +kernel
theorem d_N_needed_24 : decode b_N_needed 24 = .ok (.iload 4, 2) := by decide +kernel
theorem d_N_needed_26 : decode b_N_needed 26 = .ok (.bipush 20, 2) := by decide +kernel
theorem d_N_needed_28 : decode b_N_needed 28 = .ok (.if_icmp .ge 45, 3) := by decide +kernel
theorem d_N_needed_31 : decode b_N_needed 31 = .ok (.aload_n 0, 1) := by decide +kernel
theorem d_N_needed_32 : decode b_N_needed 32 = .ok (.getfield 20, 3) := by decide +kernel
theorem d_N_needed_35 : decode b_N_needed 35 = .ok (.iload_n 3, 1) := by decide +kernel
theorem d_N_needed_36 : decode b_N_needed 36 = .ok (.iaload, 1) := by decide +kernel
theorem d_N_needed_37 : decode b_N_needed 37 = .ok (.ifCond .lt 36, 3) := by decide +kernel
theorem d_N_needed_40 : decode b_N_needed 40 = .ok (.aload_n 0, 1) := by decide +kernel
theorem d_N_needed_41 : decode b_N_needed 41 = .ok (.iload_n 3, 1) := by decide +kernel
theorem d_N_needed_42 : decode b_N_needed 42 = .ok (.invokevirtual 154, 3) := by decide +kernel
theorem d_N_needed_45 : decode b_N_needed 45 = .ok (.istore_n 3, 1) := by decide +kernel
theorem d_N_needed_46 : decode b_N_needed 46 = .ok (.iload_n 2, 1) := by decide +kernel
theorem d_N_needed_47 : decode b_N_needed 47 = .ok (.aload_n 0, 1) := by decide +kernel
theorem d_N_needed_48 : decode b_N_needed 48 = .ok (.aload_n 0, 1) := by decide +kernel
theorem d_N_needed_49 : decode b_N_needed 49 = .ok (.getfield 41, 3) := by decide +kernel
theorem d_N_needed_52 : decode b_N_needed 52 = .ok (.iload_n 3, 1) := by decide +kernel
theorem d_N_needed_53 : decode b_N_needed 53 = .ok (.iaload, 1) := by decide +kernel
theorem d_N_needed_54 : decode b_N_needed 54 = .ok (.invokevirtual 160, 3) := by decide +kernel
theorem d_N_needed_57 : decode b_N_needed 57 = .ok (.ifCond .eq 7, 3) := by decide +kernel
theorem d_N_needed_60 : decode b_N_needed 60 = .ok (.iconst 1, 1) := by decide +kernel
theorem d_N_needed_61 : decode b_N_needed 61 = .ok (.goto 4, 3) := by decide +kernel
theorem d_N_needed_64 : decode b_N_needed 64 = .ok (.iconst 0, 1) := by decide +kernel
theorem d_N_needed_65 : decode b_N_needed 65 = .ok (.iadd, 1) := by decide +kernel
theorem d_N_needed_66 : decode b_N_needed 66 = .ok (.istore_n 2, 1) := by decide +kernel
theorem d_N_needed_67 : decode b_N_needed 67 = .ok (.iinc 4 1, 3) := by decide +kernel
theorem d_N_needed_70 : decode b_N_needed 70 = .ok (.goto (-46), 3) := by decide +kernel
theorem d_N_needed_73 : decode b_N_needed 73 = .ok (.iload_n 2, 1) := by decide +kernel
theorem d_N_needed_74 : decode b_N_needed 74 = .ok (.ireturn, 1) := by decide +kernel
set_option maxRecDepth 20000 in
theorem ct_N_needed (E : mm_En) (C : Nat → Nat → Int32) (hm : nm_ok C) (hp : pa_ok C) {s : Nat} (es : C 204 14 = nI s) (s4 : s ≤ 4) {k : Nat} (hk : nv C k) : mm_MT E K_N_needed [.ref 204, .int (nI k)] (hp_H C) (mm_D (some (.int (nI (nn_n C s k)))) C) := by
  have hk1 := hk.1
  have loop : ∀ d i j n : Nat, i + d = 20 → nv C j → ev_At E K_N_needed 24 [some (.ref 204), some (.int (nI k)), some (.int (nI n)), some (.int (nI j)), some (.int (nI i))] [] (hp_H C) 0 0 (mm_D (some (.int (nI (n + nn_f C s d j)))) C) := by
    intro d
    induction d with
    | zero =>
      intro i j n hi hj
      refine ev_iload (pc := 24) d_N_needed_24 rfl ?_
      refine ev_bipush (pc := 26) (v := 20) d_N_needed_26 (by decide) ?_
      refine ev_icmp_ge (pc := 28) (tgt := 73) d_N_needed_28 (by decide) (fun ha => ?_) (fun ha => ?_)
      · refine ev_iload_n (pc := 73) d_N_needed_73 rfl rfl ?_
        exact ev_iret (pc := 74) d_N_needed_74 rfl (Nat.zero_le _) (Nat.zero_le _) ⟨rfl, rfl⟩
      · exact absurd (nI_le (a := 20) (by omega) (by omega)) ha
    | succ d ih =>
      intro i j n hi hj
      have hj1 := hj.1
      refine ev_iload (pc := 24) d_N_needed_24 rfl ?_
      refine ev_bipush (pc := 26) (v := 20) d_N_needed_26 (by decide) ?_
      refine ev_icmp_ge (pc := 28) (tgt := 73) d_N_needed_28 (by decide) (fun ha => ?_) (fun ha => ?_)
      · exact absurd ha (nI_ge (b := 20) (by omega) (by omega))
      refine ev_aload_n (pc := 31) d_N_needed_31 rfl rfl (by first | rfl | exact mm_rk_rf _) ?_
      refine ev_gR (pc := 32) sh_N (by rfl) fl_N_20 d_N_needed_32 ?_
      refine ev_iload_n (pc := 35) d_N_needed_35 rfl rfl ?_
      refine ev_rIN (pc := 36) sh_N_above (by omega) (by decide) d_N_needed_36 ?_
      refine ev_if_lt (pc := 37) (tgt := 73) d_N_needed_37 (by decide) (fun hb => ?_) (fun hb => ?_)
      · refine ev_iload_n (pc := 73) d_N_needed_73 rfl rfl ?_
        simp only [nn_f, hb]
        exact ev_iret (pc := 74) d_N_needed_74 rfl (Nat.zero_le _) (Nat.zero_le _) ⟨rfl, rfl⟩
      obtain ⟨p1, p2, p3, p4⟩ := pa_np hm hp hj hb
      have p5 := p2.1
      refine ev_aload_n (pc := 40) d_N_needed_40 rfl rfl (by first | rfl | exact mm_rk_rf _) ?_
      refine ev_iload_n (pc := 41) d_N_needed_41 rfl rfl ?_
      refine ev_cV (pc := 42) (ct_N_parent E C hm hj1) cl_N_154 jv_N_parent ⟨(Nat.le_of_ble_eq_true rfl), (Nat.le_of_ble_eq_true rfl)⟩ rfl sh_N rfl (Nat.le_of_ble_eq_true rfl) d_N_needed_42 ⟨Nat.zero_le _, Nat.zero_le _⟩ ?_
      rw [p1, show oI (some (np C j)) = nI (np C j) from rfl]
      refine ev_istore_n (pc := 45) d_N_needed_45 rfl (Nat.le_of_ble_eq_true rfl) rfl ?_
      try dsimp only [List.set]
      refine ev_iload_n (pc := 46) d_N_needed_46 rfl rfl ?_
      refine ev_aload_n (pc := 47) d_N_needed_47 rfl rfl (by first | rfl | exact mm_rk_rf _) ?_
      refine ev_aload_n (pc := 48) d_N_needed_48 rfl rfl (by first | rfl | exact mm_rk_rf _) ?_
      refine ev_gR (pc := 49) sh_N (by rfl) fl_N_41 d_N_needed_49 ?_
      refine ev_iload_n (pc := 52) d_N_needed_52 rfl rfl ?_
      refine ev_rIN (pc := 53) sh_N_block (by omega) (by decide) d_N_needed_53 ?_
      refine ev_cV (pc := 54) (ct_N_inOld E C hm es s4 _) cl_N_160 jv_N_inOld ⟨(Nat.le_of_ble_eq_true rfl), (Nat.le_of_ble_eq_true rfl)⟩ rfl sh_N rfl (Nat.le_of_ble_eq_true rfl) d_N_needed_54 ⟨Nat.zero_le _, Nat.zero_le _⟩ ?_
      refine ev_if_eq (pc := 57) (tgt := 64) d_N_needed_57 (by decide) (fun hd => ?_) (fun hd => ?_)
      · rw [b3_0] at hd
        refine ev_iconst (pc := 64) (v := 0) d_N_needed_64 rfl ?_
        first | refine ev_iaddN (pc := 65) d_N_needed_65 ?_ | refine ev_iadd (pc := 65) d_N_needed_65 ?_
        refine ev_istore_n (pc := 66) d_N_needed_66 rfl (Nat.le_of_ble_eq_true rfl) rfl ?_
        try dsimp only [List.set]
        refine ev_iinc (pc := 67) d_N_needed_67 (Nat.le_of_ble_eq_true rfl) rfl (nx_inc _) rfl ?_
        try dsimp only [List.set]
        refine ev_goto (pc := 70) (tgt := 24) d_N_needed_70 (by decide) ?_
        have h2 := ih (i + 1) (np C j) (n + 0) (by omega) p2
        simp only [nn_f, hb]
        rw [n1_f hd]
        simpa using h2
      · rw [b3_0, Classical.not_not] at hd
        refine ev_iconst (pc := 60) (v := nI 1) d_N_needed_60 rfl ?_
        refine ev_goto (pc := 61) (tgt := 65) d_N_needed_61 (by decide) ?_
        first | refine ev_iaddN (pc := 65) d_N_needed_65 ?_ | refine ev_iadd (pc := 65) d_N_needed_65 ?_
        refine ev_istore_n (pc := 66) d_N_needed_66 rfl (Nat.le_of_ble_eq_true rfl) rfl ?_
        try dsimp only [List.set]
        refine ev_iinc (pc := 67) d_N_needed_67 (Nat.le_of_ble_eq_true rfl) rfl (nx_inc _) rfl ?_
        try dsimp only [List.set]
        refine ev_goto (pc := 70) (tgt := 24) d_N_needed_70 (by decide) ?_
        have h2 := ih (i + 1) (np C j) (n + 1) (by omega) p2
        simp only [nn_f, hb]
        rw [n1_t hd]
        rw [Nat.add_assoc] at h2
        simpa using h2
  refine mm_mtL (by decide) (by rfl) (Nat.le_of_ble_eq_true rfl) rfl ?_
  refine ev_aload_n (pc := 0) d_N_needed_0 rfl rfl (by first | rfl | exact mm_rk_rf _) ?_
  refine ev_aload_n (pc := 1) d_N_needed_1 rfl rfl (by first | rfl | exact mm_rk_rf _) ?_
  refine ev_gR (pc := 2) sh_N (by rfl) fl_N_41 d_N_needed_2 ?_
  refine ev_iload_n (pc := 5) d_N_needed_5 rfl rfl ?_
  refine ev_rIN (pc := 6) sh_N_block (by omega) (by decide) d_N_needed_6 ?_
  refine ev_cV (pc := 7) (ct_N_inOld E C hm es s4 _) cl_N_160 jv_N_inOld ⟨(Nat.le_of_ble_eq_true rfl), (Nat.le_of_ble_eq_true rfl)⟩ rfl sh_N rfl (Nat.le_of_ble_eq_true rfl) d_N_needed_7 ⟨Nat.zero_le _, Nat.zero_le _⟩ ?_
  refine ev_if_eq (pc := 10) (tgt := 17) d_N_needed_10 (by decide) (fun hd => ?_) (fun hd => ?_)
  · rw [b3_0] at hd
    refine ev_iconst (pc := 17) (v := 0) d_N_needed_17 rfl ?_
    refine ev_istore_n (pc := 18) d_N_needed_18 rfl (Nat.le_of_ble_eq_true rfl) rfl ?_
    try dsimp only [List.set]
    refine ev_iload_n (pc := 19) d_N_needed_19 rfl rfl ?_
    refine ev_istore_n (pc := 20) d_N_needed_20 rfl (Nat.le_of_ble_eq_true rfl) rfl ?_
    try dsimp only [List.set]
    refine ev_iconst (pc := 21) (v := 0) d_N_needed_21 rfl ?_
    refine ev_istore (pc := 22) d_N_needed_22 (Nat.le_of_ble_eq_true rfl) rfl ?_
    try dsimp only [List.set]
    have h2 := loop 20 0 k 0 (by omega) hk
    rw [nn_n, n1_f hd]
    exact h2
  · rw [b3_0, Classical.not_not] at hd
    refine ev_iconst (pc := 13) (v := 1) d_N_needed_13 rfl ?_
    refine ev_goto (pc := 14) (tgt := 18) d_N_needed_14 (by decide) ?_
    refine ev_istore_n (pc := 18) d_N_needed_18 rfl (Nat.le_of_ble_eq_true rfl) rfl ?_
    try dsimp only [List.set]
    refine ev_iload_n (pc := 19) d_N_needed_19 rfl rfl ?_
    refine ev_istore_n (pc := 20) d_N_needed_20 rfl (Nat.le_of_ble_eq_true rfl) rfl ?_
    try dsimp only [List.set]
    refine ev_iconst (pc := 21) (v := 0) d_N_needed_21 rfl ?_
    refine ev_istore (pc := 22) d_N_needed_22 (Nat.le_of_ble_eq_true rfl) rfl ?_
    try dsimp only [List.set]
    have h2 := loop 20 0 k 1 (by omega) hk
    rw [nn_n, n1_t hd]
    exact h2
/-- one node gets a block of its own, if its is old -/
noncomputable def nx_1 (C : Nat → Nat → Int32) (s k : Nat) : Nat → Nat → Int32 := it_P (no_P C s (C 215 k)) (cs_C (cs_C C 215 k (C 204 13)) 204 13 (C 204 13 + 1)) C
theorem nx_1c (C : Nat → Nat → Int32) (s k : Nat) : (∀ a, a ≠ 215 → a ≠ 204 → nx_1 C s k a = C a) ∧ ∀ l, l ≠ 13 → nx_1 C s k 204 l = C 204 l := by
  by_cases h : no_P C s (C 215 k)
  · rw [nx_1, it_t h]
    refine ⟨fun a h1 h2 => ?_, fun l hl => ?_⟩
    · funext l
      rw [cs_ne _ _ (by omega), cs_ne _ _ (by omega)]
    · rw [cs_ne _ _ (by omega), cs_ne _ _ (by omega)]
  · rw [nx_1, it_f h]
    exact ⟨fun _ _ _ => rfl, fun _ _ => rfl⟩
noncomputable def nx_f (s : Nat) : Nat → (Nat → Nat → Int32) → Nat → Nat → Nat → Int32
  | 0, C, _ => C
  | n + 1, C, k => if C 208 k < 0 then nx_1 C s k else nx_f s n (nx_1 C s k) (np C k)
noncomputable def nx_C (C : Nat → Nat → Int32) (s k : Nat) : Nat → Nat → Int32 := nx_f s 21 C k
theorem nm_c {C D : Nat → Nat → Int32} (h : D 206 = C 206) (hm : nm_ok C) : nm_ok D := by
  intro t ht
  simp only [nm, h]
  exact hm t ht
theorem nv_c {C D : Nat → Nat → Int32} (h : D 206 = C 206) (k : Nat) : nv D k ↔ nv C k := by
  simp only [nv, nm, h]
theorem pa_c {C D : Nat → Nat → Int32} (h6 : D 206 = C 206) (h7 : D 207 = C 207) (h8 : D 208 = C 208) (hp : pa_ok C) : pa_ok D := by
  intro k hk h0
  rw [nv_c h6] at hk
  rw [nc_c h6 h7, h8]
  rw [h8] at h0
  exact hp k hk h0
theorem np_c {C D : Nat → Nat → Int32} (h6 : D 206 = C 206) (h7 : D 207 = C 207) (h8 : D 208 = C 208) (k : Nat) : np D k = np C k := by
  rw [np, np, nc_c h6 h7, h8]
theorem d_N_change_0 : decode b_N_change 0 = .ok (.iload_n 1, 1) := by decide +kernel
theorem d_N_change_1 : decode b_N_change 1 = .ok (.istore_n 2, 1) := by decide +kernel
theorem d_N_change_2 : decode b_N_change 2 = .ok (.iconst 0, 1) := by decide +kernel
theorem d_N_change_3 : decode b_N_change 3 = .ok (.istore_n 3, 1) := by decide +kernel
theorem d_N_change_4 : decode b_N_change 4 = .ok (.iload_n 3, 1) := by decide +kernel
theorem d_N_change_5 : decode b_N_change 5 = .ok (.bipush 20, 2) := by decide +kernel
theorem d_N_change_7 : decode b_N_change 7 = .ok (.if_icmp .gt 58, 3) := by decide +kernel
theorem d_N_change_10 : decode b_N_change 10 = .ok (.aload_n 0, 1) := by decide +kernel
theorem d_N_change_11 : decode b_N_change 11 = .ok (.aload_n 0, 1) := by decide +kernel
theorem d_N_change_12 : decode b_N_change 12 = .ok (.getfield 41, 3) := by decide +kernel
theorem d_N_change_15 : decode b_N_change 15 = .ok (.iload_n 2, 1) := by decide +kernel
theorem d_N_change_16 : decode b_N_change 16 = .ok (.iaload, 1) := by decide +kernel
theorem d_N_change_17 : decode b_N_change 17 = .ok (.invokevirtual 160, 3) := by decide +kernel
theorem d_N_change_20 : decode b_N_change 20 = .ok (.ifCond .eq 23, 3) := by decide +kernel
theorem d_N_change_23 : decode b_N_change 23 = .ok (.aload_n 0, 1) := by decide +kernel
theorem d_N_change_24 : decode b_N_change 24 = .ok (.getfield 41, 3) := by decide +kernel
theorem d_N_change_27 : decode b_N_change 27 = .ok (.iload_n 2, 1) := by decide +kernel
theorem d_N_change_28 : decode b_N_change 28 = .ok (.aload_n 0, 1) := by decide +kernel
theorem d_N_change_29 : decode b_N_change 29 = .ok (.getfield 51, 3) := by decide +kernel
theorem d_N_change_32 : decode b_N_change 32 = .ok (.iastore, 1) := by decide +kernel
theorem d_N_change_33 : decode b_N_change 33 = .ok (.aload_n 0, 1) := by decide +kernel
theorem d_N_change_34 : decode b_N_change 34 = .ok (.dup, 1) := by decide +kernel
theorem d_N_change_35 : decode b_N_change 35 = .ok (.getfield 51, 3) := by decide +kernel
theorem d_N_change_38 : decode b_N_change 38 = .ok (.iconst 1, 1) := by decide +kernel
theorem d_N_change_39 : decode b_N_change 39 = .ok (.iadd, 1) := by decide +kernel
theorem d_N_change_40 : decode b_N_change 40 = .ok (.putfield 51, 3) := by decide +kernel
theorem d_N_change_43 : decode b_N_change 43 = .ok (.aload_n 0, 1) := by decide +kernel
theorem d_N_change_44 : decode b_N_change 44 = .ok (.getfield 20, 3) := by decide +kernel
theorem d_N_change_47 : decode b_N_change 47 = .ok (.iload_n 2, 1) := by decide +kernel
theorem d_N_change_48 : decode b_N_change 48 = .ok (.iaload, 1) := by decide +kernel
theorem d_N_change_49 : decode b_N_change 49 = .ok (.ifCond .ge 4, 3) := by decide +kernel
theorem d_N_change_52 : decode b_N_change 52 = .ok (.return_, 1) := by decide +kernel
theorem d_N_change_53 : decode b_N_change 53 = .ok (.aload_n 0, 1) := by decide +kernel
theorem d_N_change_54 : decode b_N_change 54 = .ok (.iload_n 2, 1) := by decide +kernel
theorem d_N_change_55 : decode b_N_change 55 = .ok (.invokevirtual 154, 3) := by decide +kernel
theorem d_N_change_58 : decode b_N_change 58 = .ok (.istore_n 2, 1) := by decide +kernel
theorem d_N_change_59 : decode b_N_change 59 = .ok (.iinc 3 1, 3) := by decide +kernel
theorem d_N_change_62 : decode b_N_change 62 = .ok (.goto (-58), 3) := by decide +kernel
theorem d_N_change_65 : decode b_N_change 65 = .ok (.return_, 1) := by decide +kernel
set_option maxRecDepth 20000 in
theorem ct_N_change (E : mm_En) (C : Nat → Nat → Int32) (hm : nm_ok C) (hp : pa_ok C) {s : Nat} (es : C 204 14 = nI s) (s4 : s ≤ 4) {k : Nat} (hk : nv C k) : mm_MT E K_N_change [.ref 204, .int (nI k)] (hp_H C) (mm_D none (nx_C C s k)) := by
  have loop : ∀ d i j : Nat, i + d = 21 → ∀ D : Nat → Nat → Int32, nm_ok D → pa_ok D → D 204 14 = nI s → nv D j → ev_At E K_N_change 4 [some (.ref 204), some (.int (nI k)), some (.int (nI j)), some (.int (nI i))] [] (hp_H D) 0 0 (mm_D none (nx_f s d D j)) := by
    intro d
    induction d with
    | zero =>
      intro i j hi D hm hp es hj
      refine ev_iload_n (pc := 4) d_N_change_4 rfl rfl ?_
      refine ev_bipush (pc := 5) (v := 20) d_N_change_5 (by decide) ?_
      refine ev_icmp_gt (pc := 7) (tgt := 65) d_N_change_7 (by decide) (fun ha => ?_) (fun ha => ?_)
      · exact ev_vret (pc := 65) d_N_change_65 rfl (Nat.zero_le _) (Nat.zero_le _) ⟨rfl, rfl⟩
      · exact absurd (nI_lt (a := 20) (by omega) (by omega)) ha
    | succ d ih =>
      intro i j hi D hm hp es hj
      have hj1 := hj.1
      obtain ⟨c1, c2⟩ := nx_1c D s j
      have rest : ev_At E K_N_change 43 [some (.ref 204), some (.int (nI k)), some (.int (nI j)), some (.int (nI i))] [] (hp_H (nx_1 D s j)) 0 0 (mm_D none (nx_f s (d + 1) D j)) := by
        refine ev_aload_n (pc := 43) d_N_change_43 rfl rfl (by first | rfl | exact mm_rk_rf _) ?_
        refine ev_gR (pc := 44) sh_N (by rfl) fl_N_20 d_N_change_44 ?_
        refine ev_iload_n (pc := 47) d_N_change_47 rfl rfl ?_
        refine ev_rIN (pc := 48) sh_N_above (by omega) (by decide) d_N_change_48 ?_
        rw [c1 208 (by decide) (by decide)]
        refine ev_if_ge (pc := 49) (tgt := 53) d_N_change_49 (by decide) (fun hb => ?_) (fun hb => ?_)
        · have hb' : ¬ D 208 j < 0 := Int32.not_lt.mpr hb
          obtain ⟨p1, p2, p3, p4⟩ := pa_np hm hp hj hb'
          have hm' := nm_c (c1 206 (by decide) (by decide)) hm
          have hp' := pa_c (c1 206 (by decide) (by decide)) (c1 207 (by decide) (by decide)) (c1 208 (by decide) (by decide)) hp
          have e1 : np_i (nx_1 D s j) j = some (np D j) := by
            rw [← p1, np_i, np_i, nc_c (c1 206 (by decide) (by decide)) (c1 207 (by decide) (by decide)), c1 208 (by decide) (by decide)]
          refine ev_aload_n (pc := 53) d_N_change_53 rfl rfl (by first | rfl | exact mm_rk_rf _) ?_
          refine ev_iload_n (pc := 54) d_N_change_54 rfl rfl ?_
          refine ev_cV (pc := 55) (ct_N_parent E _ hm' hj1) cl_N_154 jv_N_parent ⟨(Nat.le_of_ble_eq_true rfl), (Nat.le_of_ble_eq_true rfl)⟩ rfl sh_N rfl (Nat.le_of_ble_eq_true rfl) d_N_change_55 ⟨Nat.zero_le _, Nat.zero_le _⟩ ?_
          rw [e1, show oI (some (np D j)) = nI (np D j) from rfl]
          refine ev_istore_n (pc := 58) d_N_change_58 rfl (Nat.le_of_ble_eq_true rfl) rfl ?_
          try dsimp only [List.set]
          refine ev_iinc (pc := 59) d_N_change_59 (Nat.le_of_ble_eq_true rfl) rfl (nx_inc _) rfl ?_
          try dsimp only [List.set]
          refine ev_goto (pc := 62) (tgt := 4) d_N_change_62 (by decide) ?_
          simp only [nx_f, hb']
          exact ih (i + 1) (np D j) (by omega) _ hm' hp' (by rw [c2 14 (by decide)]; exact es) ((nv_c (c1 206 (by decide) (by decide)) _).mpr p2)
        · have hb' : D 208 j < 0 := Int32.not_le.mp hb
          simp only [nx_f, hb']
          exact ev_vret (pc := 52) d_N_change_52 rfl (Nat.zero_le _) (Nat.zero_le _) ⟨rfl, rfl⟩
      refine ev_iload_n (pc := 4) d_N_change_4 rfl rfl ?_
      refine ev_bipush (pc := 5) (v := 20) d_N_change_5 (by decide) ?_
      refine ev_icmp_gt (pc := 7) (tgt := 65) d_N_change_7 (by decide) (fun ha => ?_) (fun ha => ?_)
      · exact absurd ha (nI_nlt (a := 20) (b := i) (by omega) (by omega))
      refine ev_aload_n (pc := 10) d_N_change_10 rfl rfl (by first | rfl | exact mm_rk_rf _) ?_
      refine ev_aload_n (pc := 11) d_N_change_11 rfl rfl (by first | rfl | exact mm_rk_rf _) ?_
      refine ev_gR (pc := 12) sh_N (by rfl) fl_N_41 d_N_change_12 ?_
      refine ev_iload_n (pc := 15) d_N_change_15 rfl rfl ?_
      refine ev_rIN (pc := 16) sh_N_block (by omega) (by decide) d_N_change_16 ?_
      refine ev_cV (pc := 17) (ct_N_inOld E D hm es s4 _) cl_N_160 jv_N_inOld ⟨(Nat.le_of_ble_eq_true rfl), (Nat.le_of_ble_eq_true rfl)⟩ rfl sh_N rfl (Nat.le_of_ble_eq_true rfl) d_N_change_17 ⟨Nat.zero_le _, Nat.zero_le _⟩ ?_
      refine ev_if_eq (pc := 20) (tgt := 43) d_N_change_20 (by decide) (fun hd => ?_) (fun hd => ?_)
      · rw [b3_0] at hd
        have e2 : nx_1 D s j = D := by rw [nx_1, it_f hd]
        rw [e2] at rest
        exact rest
      · rw [b3_0, Classical.not_not] at hd
        have e2 : nx_1 D s j = cs_C (cs_C D 215 j (D 204 13)) 204 13 (D 204 13 + 1) := by rw [nx_1, it_t hd]
        refine ev_aload_n (pc := 23) d_N_change_23 rfl rfl (by first | rfl | exact mm_rk_rf _) ?_
        refine ev_gR (pc := 24) sh_N (by rfl) fl_N_41 d_N_change_24 ?_
        refine ev_iload_n (pc := 27) d_N_change_27 rfl rfl ?_
        refine ev_aload_n (pc := 28) d_N_change_28 rfl rfl (by first | rfl | exact mm_rk_rf _) ?_
        refine ev_gI (pc := 29) sh_N (by rfl) fl_N_51 d_N_change_29 ?_
        refine ev_wIN (pc := 32) sh_N_block (by omega) (by decide) d_N_change_32 ?_
        refine ev_aload_n (pc := 33) d_N_change_33 rfl rfl (by first | rfl | exact mm_rk_rf _) ?_
        refine ev_dup (pc := 34) d_N_change_34 (by rfl) ?_
        refine ev_gI (pc := 35) sh_N (by rfl) fl_N_51 d_N_change_35 ?_
        rw [cs_ne _ _ (show ¬ (204 = 215 ∧ 13 = j) by omega)]
        refine ev_iconst (pc := 38) (v := 1) d_N_change_38 rfl ?_
        first | refine ev_iaddN (pc := 39) d_N_change_39 ?_ | refine ev_iadd (pc := 39) d_N_change_39 ?_
        refine ev_pI (pc := 40) sh_N (by rfl) fl_N_51 fw_9_13 (by rfl) d_N_change_40 ?_
        rw [e2] at rest
        exact rest
  refine mm_mtL (by decide) (by rfl) (Nat.le_of_ble_eq_true rfl) rfl ?_
  refine ev_iload_n (pc := 0) d_N_change_0 rfl rfl ?_
  refine ev_istore_n (pc := 1) d_N_change_1 rfl (Nat.le_of_ble_eq_true rfl) rfl ?_
  try dsimp only [List.set]
  refine ev_iconst (pc := 2) (v := 0) d_N_change_2 rfl ?_
  refine ev_istore_n (pc := 3) d_N_change_3 rfl (Nat.le_of_ble_eq_true rfl) rfl ?_
  try dsimp only [List.set]
  exact loop 21 0 k (by omega) C hm hp es hk
