/-! The reference: its short methods. -/
theorem nx_gt {x : Int32} {n : Nat} (h : x < 0 ∨ nI (n + 1) ≤ x) (hn : n + 1 < 2 ^ 31) (h0 : ¬ x < 0) (h1 : ¬ nI n < x) : False := by
  rcases h with z | z
  · exact h0 z
  · exact h1 (Int32.lt_of_lt_of_le (nI_lt (Nat.lt_succ_self n) hn) z)
theorem d_N_waits_0 : decode b_N_waits 0 = .ok (.iload_n 1, 1) := by decide +kernel
theorem d_N_waits_1 : decode b_N_waits 1 = .ok (.invokestatic 99, 3) := by decide +kernel
theorem d_N_waits_4 : decode b_N_waits 4 = .ok (.ifCond .eq 31, 3) := by decide +kernel
theorem d_N_waits_7 : decode b_N_waits 7 = .ok (.iload_n 2, 1) := by decide +kernel
theorem d_N_waits_8 : decode b_N_waits 8 = .ok (.ifCond .lt 27, 3) := by decide +kernel
theorem d_N_waits_11 : decode b_N_waits 11 = .ok (.iload_n 2, 1) := by decide +kernel
theorem d_N_waits_12 : decode b_N_waits 12 = .ok (.bipush 7, 2) := by decide +kernel
theorem d_N_waits_14 : decode b_N_waits 14 = .ok (.if_icmp .gt 21, 3) := by decide +kernel
theorem d_N_waits_17 : decode b_N_waits 17 = .ok (.aload_n 0, 1) := by decide +kernel
theorem d_N_waits_18 : decode b_N_waits 18 = .ok (.getfield 69, 3) := by decide +kernel
theorem d_N_waits_21 : decode b_N_waits 21 = .ok (.bipush 8, 2) := by decide +kernel
theorem d_N_waits_23 : decode b_N_waits 23 = .ok (.iload_n 1, 1) := by decide +kernel
theorem d_N_waits_24 : decode b_N_waits 24 = .ok (.imul, 1) := by decide +kernel
theorem d_N_waits_25 : decode b_N_waits 25 = .ok (.iload_n 2, 1) := by decide +kernel
theorem d_N_waits_26 : decode b_N_waits 26 = .ok (.iadd, 1) := by decide +kernel
theorem d_N_waits_27 : decode b_N_waits 27 = .ok (.iaload, 1) := by decide +kernel
theorem d_N_waits_28 : decode b_N_waits 28 = .ok (.ifCond .lt 7, 3) := by decide +kernel
theorem d_N_waits_31 : decode b_N_waits 31 = .ok (.iconst 1, 1) := by decide +kernel
theorem d_N_waits_32 : decode b_N_waits 32 = .ok (.goto 4, 3) := by decide +kernel
theorem d_N_waits_35 : decode b_N_waits 35 = .ok (.iconst 0, 1) := by decide +kernel
theorem d_N_waits_36 : decode b_N_waits 36 = .ok (.ireturn, 1) := by decide +kernel
theorem ct_N_waits (E : mm_En) (C : Nat → Nat → Int32) {c t : Nat} (hc : c < 2) (ht : t < 8) : mm_MT E K_N_waits [.ref 204, .int (nI c), .int (nI t)] (hp_H C) (mm_D (some (.int (b2_P (¬ C 222 (8 * c + t) < 0)))) C) := by
  refine mm_mtL (by decide) (by rfl) (Nat.le_of_ble_eq_true rfl) rfl ?_
  refine ev_iload_n (pc := 0) d_N_waits_0 rfl rfl ?_
  refine ev_cS (pc := 1) (ct_N_isOneT E C hc) cl_N_99 js_N_isOne ⟨(Nat.le_of_ble_eq_true rfl), (Nat.le_of_ble_eq_true rfl)⟩ rfl rfl (Nat.le_of_ble_eq_true rfl) d_N_waits_1 ⟨Nat.zero_le _, Nat.zero_le _⟩ ?_
  refine ev_if_eq (pc := 4) (tgt := 35) d_N_waits_4 (by decide) (fun ha => ?_) (fun ha => ?_)
  · exact absurd ha (by decide)
  refine ev_iload_n (pc := 7) d_N_waits_7 rfl rfl ?_
  refine ev_if_lt (pc := 8) (tgt := 35) d_N_waits_8 (by decide) (fun ha => ?_) (fun ha => ?_)
  · exact absurd ha (nI_pos (by omega))
  refine ev_iload_n (pc := 11) d_N_waits_11 rfl rfl ?_
  refine ev_bipush (pc := 12) (v := 7) d_N_waits_12 (by decide) ?_
  refine ev_icmp_gt (pc := 14) (tgt := 35) d_N_waits_14 (by decide) (fun ha => ?_) (fun ha => ?_)
  · exact absurd ha (nI_nlt (show t ≤ 7 by omega) (by decide))
  refine ev_aload_n (pc := 17) d_N_waits_17 rfl rfl (by first | rfl | exact mm_rk_rf _) ?_
  refine ev_gR (pc := 18) sh_N (by rfl) fl_N_69 d_N_waits_18 ?_
  refine ev_bipush (pc := 21) (v := nI 8) d_N_waits_21 (by decide) ?_
  refine ev_iload_n (pc := 23) d_N_waits_23 rfl rfl ?_
  first | refine ev_imulN (pc := 24) d_N_waits_24 ?_ | refine ev_imul (pc := 24) d_N_waits_24 ?_
  refine ev_iload_n (pc := 25) d_N_waits_25 rfl rfl ?_
  first | refine ev_iaddN (pc := 26) d_N_waits_26 ?_ | refine ev_iadd (pc := 26) d_N_waits_26 ?_
  refine ev_rIN (pc := 27) sh_N_kind (by omega) (by decide) d_N_waits_27 ?_
  refine ev_if_lt (pc := 28) (tgt := 35) d_N_waits_28 (by decide) (fun hb => ?_) (fun hb => ?_)
  · refine ev_iconst (pc := 35) (v := 0) d_N_waits_35 rfl ?_
    exact ev_zret (pc := 36) d_N_waits_36 rfl (by first | exact Or.inl rfl | exact Or.inr rfl | assumption) (Nat.zero_le _) (Nat.zero_le _) ⟨by rw [b2_f (fun z => z hb)], rfl⟩
  · refine ev_iconst (pc := 31) (v := 1) d_N_waits_31 rfl ?_
    refine ev_goto (pc := 32) (tgt := 36) d_N_waits_32 (by decide) ?_
    exact ev_zret (pc := 36) d_N_waits_36 rfl (by first | exact Or.inl rfl | exact Or.inr rfl | assumption) (Nat.zero_le _) (Nat.zero_le _) ⟨by rw [b2_t hb], rfl⟩
theorem ct_N_waitsF (E : mm_En) (C : Nat → Nat → Int32) {x y : Int32} (hx : (x < 0 ∨ 2 ≤ x) ∨ (y < 0 ∨ 8 ≤ y)) : mm_MT E K_N_waits [.ref 204, .int x, .int y] (hp_H C) (mm_D (some (.int 0)) C) := by
  rcases ix_or x (n := 2) (by decide) with ⟨c, hc, rfl⟩ | hn
  · refine mm_mtL (by decide) (by rfl) (Nat.le_of_ble_eq_true rfl) rfl ?_
    refine ev_iload_n (pc := 0) d_N_waits_0 rfl rfl ?_
    refine ev_cS (pc := 1) (ct_N_isOneT E C hc) cl_N_99 js_N_isOne ⟨(Nat.le_of_ble_eq_true rfl), (Nat.le_of_ble_eq_true rfl)⟩ rfl rfl (Nat.le_of_ble_eq_true rfl) d_N_waits_1 ⟨Nat.zero_le _, Nat.zero_le _⟩ ?_
    refine ev_if_eq (pc := 4) (tgt := 35) d_N_waits_4 (by decide) (fun ha => ?_) (fun ha => ?_)
    · exact absurd ha (by decide)
    refine ev_iload_n (pc := 7) d_N_waits_7 rfl rfl ?_
    refine ev_if_lt (pc := 8) (tgt := 35) d_N_waits_8 (by decide) (fun hb => ?_) (fun hb => ?_)
    · refine ev_iconst (pc := 35) (v := 0) d_N_waits_35 rfl ?_
      exact ev_zret (pc := 36) d_N_waits_36 rfl (by first | exact Or.inl rfl | exact Or.inr rfl | assumption) (Nat.zero_le _) (Nat.zero_le _) ⟨rfl, rfl⟩
    refine ev_iload_n (pc := 11) d_N_waits_11 rfl rfl ?_
    refine ev_bipush (pc := 12) (v := 7) d_N_waits_12 (by decide) ?_
    refine ev_icmp_gt (pc := 14) (tgt := 35) d_N_waits_14 (by decide) (fun hd => ?_) (fun hd => ?_)
    · refine ev_iconst (pc := 35) (v := 0) d_N_waits_35 rfl ?_
      exact ev_zret (pc := 36) d_N_waits_36 rfl (by first | exact Or.inl rfl | exact Or.inr rfl | assumption) (Nat.zero_le _) (Nat.zero_le _) ⟨rfl, rfl⟩
    rcases hx with (z | z) | z
    · exact absurd z (nI_pos (by omega))
    · exact absurd z (nI_ge hc (by decide))
    · exact (nx_gt (n := 7) z (by decide) hb hd).elim
  · refine mm_mtL (by decide) (by rfl) (Nat.le_of_ble_eq_true rfl) rfl ?_
    refine ev_iload_n (pc := 0) d_N_waits_0 rfl rfl ?_
    refine ev_cS (pc := 1) (ct_N_isOneF E C hn) cl_N_99 js_N_isOne ⟨(Nat.le_of_ble_eq_true rfl), (Nat.le_of_ble_eq_true rfl)⟩ rfl rfl (Nat.le_of_ble_eq_true rfl) d_N_waits_1 ⟨Nat.zero_le _, Nat.zero_le _⟩ ?_
    refine ev_if_eq (pc := 4) (tgt := 35) d_N_waits_4 (by decide) (fun ha => ?_) (fun ha => ?_)
    · refine ev_iconst (pc := 35) (v := 0) d_N_waits_35 rfl ?_
      exact ev_zret (pc := 36) d_N_waits_36 rfl (by first | exact Or.inl rfl | exact Or.inr rfl | assumption) (Nat.zero_le _) (Nat.zero_le _) ⟨rfl, rfl⟩
    · exact absurd rfl ha
theorem d_N_flush_0 : decode b_N_flush 0 = .ok (.aload_n 0, 1) := by decide +kernel
theorem d_N_flush_1 : decode b_N_flush 1 = .ok (.iload_n 1, 1) := by decide +kernel
theorem d_N_flush_2 : decode b_N_flush 2 = .ok (.iload_n 2, 1) := by decide +kernel
theorem d_N_flush_3 : decode b_N_flush 3 = .ok (.invokevirtual 103, 3) := by decide +kernel
theorem d_N_flush_6 : decode b_N_flush 6 = .ok (.ifCond .ne 5, 3) := by decide +kernel
theorem d_N_flush_9 : decode b_N_flush 9 = .ok (.iconst 0, 1) := by decide +kernel
theorem d_N_flush_10 : decode b_N_flush 10 = .ok (.ireturn, 1) := by decide +kernel
theorem d_N_flush_11 : decode b_N_flush 11 = .ok (.aload_n 0, 1) := by decide +kernel
theorem d_N_flush_12 : decode b_N_flush 12 = .ok (.getfield 69, 3) := by decide +kernel
theorem d_N_flush_15 : decode b_N_flush 15 = .ok (.bipush 8, 2) := by decide +kernel
theorem d_N_flush_17 : decode b_N_flush 17 = .ok (.iload_n 1, 1) := by decide +kernel
theorem d_N_flush_18 : decode b_N_flush 18 = .ok (.imul, 1) := by decide +kernel
theorem d_N_flush_19 : decode b_N_flush 19 = .ok (.iload_n 2, 1) := by decide +kernel
theorem d_N_flush_20 : decode b_N_flush 20 = .ok (.iadd, 1) := by decide +kernel
theorem d_N_flush_21 : decode b_N_flush 21 = .ok (.iconst (-1), 1) := by decide +kernel
theorem d_N_flush_22 : decode b_N_flush 22 = .ok (.iastore, 1) := by decide +kernel
theorem d_N_flush_23 : decode b_N_flush 23 = .ok (.iconst 1, 1) := by decide +kernel
theorem d_N_flush_24 : decode b_N_flush 24 = .ok (.ireturn, 1) := by decide +kernel
theorem ct_N_flush (E : mm_En) (C : Nat → Nat → Int32) {c t : Nat} (hc : c < 2) (ht : t < 8) : mm_MT E K_N_flush [.ref 204, .int (nI c), .int (nI t)] (hp_H C) (mm_D (some (.int (b2_P (¬ C 222 (8 * c + t) < 0)))) (if C 222 (8 * c + t) < 0 then C else cs_C C 222 (8 * c + t) (-1))) := by
  refine mm_mtL (by decide) (by rfl) (Nat.le_of_ble_eq_true rfl) rfl ?_
  refine ev_aload_n (pc := 0) d_N_flush_0 rfl rfl (by first | rfl | exact mm_rk_rf _) ?_
  refine ev_iload_n (pc := 1) d_N_flush_1 rfl rfl ?_
  refine ev_iload_n (pc := 2) d_N_flush_2 rfl rfl ?_
  refine ev_cV (pc := 3) (ct_N_waits E C hc ht) cl_N_103 jv_N_waits ⟨(Nat.le_of_ble_eq_true rfl), (Nat.le_of_ble_eq_true rfl)⟩ rfl sh_N rfl (Nat.le_of_ble_eq_true rfl) d_N_flush_3 ⟨Nat.zero_le _, Nat.zero_le _⟩ ?_
  refine ev_if_ne (pc := 6) (tgt := 11) d_N_flush_6 (by decide) (fun ha => ?_) (fun ha => ?_)
  · rw [b2_0, Classical.not_not] at ha
    rw [b2_t ha, if_neg ha]
    refine ev_aload_n (pc := 11) d_N_flush_11 rfl rfl (by first | rfl | exact mm_rk_rf _) ?_
    refine ev_gR (pc := 12) sh_N (by rfl) fl_N_69 d_N_flush_12 ?_
    refine ev_bipush (pc := 15) (v := nI 8) d_N_flush_15 (by decide) ?_
    refine ev_iload_n (pc := 17) d_N_flush_17 rfl rfl ?_
    first | refine ev_imulN (pc := 18) d_N_flush_18 ?_ | refine ev_imul (pc := 18) d_N_flush_18 ?_
    refine ev_iload_n (pc := 19) d_N_flush_19 rfl rfl ?_
    first | refine ev_iaddN (pc := 20) d_N_flush_20 ?_ | refine ev_iadd (pc := 20) d_N_flush_20 ?_
    refine ev_iconst (pc := 21) (v := -1) d_N_flush_21 rfl ?_
    refine ev_wIN (pc := 22) sh_N_kind (by omega) (by decide) d_N_flush_22 ?_
    refine ev_iconst (pc := 23) (v := 1) d_N_flush_23 rfl ?_
    exact ev_zret (pc := 24) d_N_flush_24 rfl (by first | exact Or.inl rfl | exact Or.inr rfl | assumption) (Nat.zero_le _) (Nat.zero_le _) ⟨rfl, rfl⟩
  · rw [b2_0, Classical.not_not] at ha
    rw [b2_f (fun z => z ha), if_pos ha]
    refine ev_iconst (pc := 9) (v := 0) d_N_flush_9 rfl ?_
    exact ev_zret (pc := 10) d_N_flush_10 rfl (by first | exact Or.inl rfl | exact Or.inr rfl | assumption) (Nat.zero_le _) (Nat.zero_le _) ⟨rfl, rfl⟩
theorem ct_N_flushN (E : mm_En) (C : Nat → Nat → Int32) {x y : Int32} (hx : (x < 0 ∨ 2 ≤ x) ∨ (y < 0 ∨ 8 ≤ y)) : mm_MT E K_N_flush [.ref 204, .int x, .int y] (hp_H C) (mm_D (some (.int 0)) C) := by
  refine mm_mtL (by decide) (by rfl) (Nat.le_of_ble_eq_true rfl) rfl ?_
  refine ev_aload_n (pc := 0) d_N_flush_0 rfl rfl (by first | rfl | exact mm_rk_rf _) ?_
  refine ev_iload_n (pc := 1) d_N_flush_1 rfl rfl ?_
  refine ev_iload_n (pc := 2) d_N_flush_2 rfl rfl ?_
  refine ev_cV (pc := 3) (ct_N_waitsF E C hx) cl_N_103 jv_N_waits ⟨(Nat.le_of_ble_eq_true rfl), (Nat.le_of_ble_eq_true rfl)⟩ rfl sh_N rfl (Nat.le_of_ble_eq_true rfl) d_N_flush_3 ⟨Nat.zero_le _, Nat.zero_le _⟩ ?_
  refine ev_if_ne (pc := 6) (tgt := 11) d_N_flush_6 (by decide) (fun ha => ?_) (fun ha => ?_)
  · exact absurd rfl ha
  · refine ev_iconst (pc := 9) (v := 0) d_N_flush_9 rfl ?_
    exact ev_zret (pc := 10) d_N_flush_10 rfl (by first | exact Or.inl rfl | exact Or.inr rfl | assumption) (Nat.zero_le _) (Nat.zero_le _) ⟨rfl, rfl⟩
theorem d_N_waiting_0 : decode b_N_waiting 0 = .ok (.iload_n 1, 1) := by decide +kernel
theorem d_N_waiting_1 : decode b_N_waiting 1 = .ok (.invokestatic 99, 3) := by decide +kernel
theorem d_N_waiting_4 : decode b_N_waiting 4 = .ok (.ifCond .ne 5, 3) := by decide +kernel
theorem d_N_waiting_7 : decode b_N_waiting 7 = .ok (.iconst (-1), 1) := by decide +kernel
theorem d_N_waiting_8 : decode b_N_waiting 8 = .ok (.ireturn, 1) := by decide +kernel
theorem d_N_waiting_9 : decode b_N_waiting 9 = .ok (.iconst 0, 1) := by decide +kernel
theorem d_N_waiting_10 : decode b_N_waiting 10 = .ok (.istore_n 2, 1) := by decide +kernel
theorem d_N_waiting_11 : decode b_N_waiting 11 = .ok (.bipush 8, 2) := by decide +kernel
theorem d_N_waiting_13 : decode b_N_waiting 13 = .ok (.iload_n 1, 1) := by decide +kernel
theorem d_N_waiting_14 : decode b_N_waiting 14 = .ok (.imul, 1) := by decide +kernel
theorem d_N_waiting_15 : decode b_N_waiting 15 = .ok (.istore_n 3, 1) := by decide +kernel
theorem d_N_waiting_16 : decode b_N_waiting 16 = .ok (.iload_n 3, 1) := by decide +kernel
theorem d_N_waiting_17 : decode b_N_waiting 17 = .ok (.bipush 8, 2) := by decide +kernel
theorem d_N_waiting_19 : decode b_N_waiting 19 = .ok (.iload_n 1, 1) := by decide +kernel
theorem d_N_waiting_20 : decode b_N_waiting 20 = .ok (.imul, 1) := by decide +kernel
theorem d_N_waiting_21 : decode b_N_waiting 21 = .ok (.bipush 8, 2) := by decide +kernel
theorem d_N_waiting_23 : decode b_N_waiting 23 = .ok (.iadd, 1) := by decide +kernel
theorem d_N_waiting_24 : decode b_N_waiting 24 = .ok (.if_icmp .ge 26, 3) := by decide +kernel
theorem d_N_waiting_27 : decode b_N_waiting 27 = .ok (.iload_n 2, 1) := by decide +kernel
theorem d_N_waiting_28 : decode b_N_waiting 28 = .ok (.aload_n 0, 1) := by decide +kernel
theorem d_N_waiting_29 : decode b_N_waiting 29 = .ok (.getfield 69, 3) := by decide +kernel
theorem d_N_waiting_32 : decode b_N_waiting 32 = .ok (.iload_n 3, 1) := by decide +kernel
theorem d_N_waiting_33 : decode b_N_waiting 33 = .ok (.iaload, 1) := by decide +kernel
theorem d_N_waiting_34 : decode b_N_waiting 34 = .ok (.ifCond .lt 7, 3) := by decide +kernel
theorem d_N_waiting_37 : decode b_N_waiting 37 = .ok (.iconst 1, 1) := by decide +kernel
theorem d_N_waiting_38 : decode b_N_waiting 38 = .ok (.goto 4, 3) := by decide +kernel
theorem d_N_waiting_41 : decode b_N_waiting 41 = .ok (.iconst 0, 1) := by decide +kernel
theorem d_N_waiting_42 : decode b_N_waiting 42 = .ok (.iadd, 1) := by decide +kernel
theorem d_N_waiting_43 : decode b_N_waiting 43 = .ok (.istore_n 2, 1) := by decide +kernel
theorem d_N_waiting_44 : decode b_N_waiting 44 = .ok (.iinc 3 1, 3) := by decide +kernel
theorem d_N_waiting_47 : decode b_N_waiting 47 = .ok (.goto (-31), 3) := by decide +kernel
theorem d_N_waiting_50 : decode b_N_waiting 50 = .ok (.iload_n 2, 1) := by decide +kernel
theorem d_N_waiting_51 : decode b_N_waiting 51 = .ok (.ireturn, 1) := by decide +kernel
set_option maxRecDepth 20000 in
theorem ct_N_waiting (E : mm_En) (C : Nat → Nat → Int32) {c : Nat} (hc : c < 2) : mm_MT E K_N_waiting [.ref 204, .int (nI c)] (hp_H C) (mm_D (some (.int (nI (fx_c (fun r => decide (¬ C 222 r < 0)) 8 (8 * c))))) C) := by
  have loop : ∀ d i k : Nat, i + d = 8 * c + 8 → k ≤ i → ev_At E K_N_waiting 16 [some (.ref 204), some (.int (nI c)), some (.int (nI k)), some (.int (nI i))] [] (hp_H C) 0 0 (mm_D (some (.int (nI (k + fx_c (fun r => decide (¬ C 222 r < 0)) d i)))) C) := by
    intro d
    induction d with
    | zero =>
      intro i k hi hk
      have hi8 : i = 8 * c + 8 := by omega
      subst hi8
      refine ev_iload_n (pc := 16) d_N_waiting_16 rfl rfl ?_
      refine ev_bipush (pc := 17) (v := nI 8) d_N_waiting_17 (by decide) ?_
      refine ev_iload_n (pc := 19) d_N_waiting_19 rfl rfl ?_
      first | refine ev_imulN (pc := 20) d_N_waiting_20 ?_ | refine ev_imul (pc := 20) d_N_waiting_20 ?_
      refine ev_bipush (pc := 21) (v := nI 8) d_N_waiting_21 (by decide) ?_
      first | refine ev_iaddN (pc := 23) d_N_waiting_23 ?_ | refine ev_iadd (pc := 23) d_N_waiting_23 ?_
      refine ev_icmp_ge (pc := 24) (tgt := 50) d_N_waiting_24 (by decide) (fun ha => ?_) (fun ha => ?_)
      · refine ev_iload_n (pc := 50) d_N_waiting_50 rfl rfl ?_
        exact ev_iret (pc := 51) d_N_waiting_51 rfl (Nat.zero_le _) (Nat.zero_le _) ⟨rfl, rfl⟩
      · exact absurd (Int32.le_refl _) ha
    | succ d ih =>
      intro i k hi hk
      refine ev_iload_n (pc := 16) d_N_waiting_16 rfl rfl ?_
      refine ev_bipush (pc := 17) (v := nI 8) d_N_waiting_17 (by decide) ?_
      refine ev_iload_n (pc := 19) d_N_waiting_19 rfl rfl ?_
      first | refine ev_imulN (pc := 20) d_N_waiting_20 ?_ | refine ev_imul (pc := 20) d_N_waiting_20 ?_
      refine ev_bipush (pc := 21) (v := nI 8) d_N_waiting_21 (by decide) ?_
      first | refine ev_iaddN (pc := 23) d_N_waiting_23 ?_ | refine ev_iadd (pc := 23) d_N_waiting_23 ?_
      refine ev_icmp_ge (pc := 24) (tgt := 50) d_N_waiting_24 (by decide) (fun ha => ?_) (fun ha => ?_)
      · exact absurd ha (nI_ge (by omega) (by omega))
      refine ev_iload_n (pc := 27) d_N_waiting_27 rfl rfl ?_
      refine ev_aload_n (pc := 28) d_N_waiting_28 rfl rfl (by first | rfl | exact mm_rk_rf _) ?_
      refine ev_gR (pc := 29) sh_N (by rfl) fl_N_69 d_N_waiting_29 ?_
      refine ev_iload_n (pc := 32) d_N_waiting_32 rfl rfl ?_
      refine ev_rIN (pc := 33) sh_N_kind (by omega) (by decide) d_N_waiting_33 ?_
      refine ev_if_lt (pc := 34) (tgt := 41) d_N_waiting_34 (by decide) (fun hb => ?_) (fun hb => ?_)
      · refine ev_iconst (pc := 41) (v := 0) d_N_waiting_41 rfl ?_
        first | refine ev_iaddN (pc := 42) d_N_waiting_42 ?_ | refine ev_iadd (pc := 42) d_N_waiting_42 ?_
        refine ev_istore_n (pc := 43) d_N_waiting_43 rfl (Nat.le_of_ble_eq_true rfl) rfl ?_
        try dsimp only [List.set]
        refine ev_iinc (pc := 44) d_N_waiting_44 (Nat.le_of_ble_eq_true rfl) rfl (nx_inc _) rfl ?_
        try dsimp only [List.set]
        refine ev_goto (pc := 47) (tgt := 16) d_N_waiting_47 (by decide) ?_
        have h1 := ih (i + 1) (k + 0) (by omega) (by omega)
        simp only [fx_c, hb]
        simpa using h1
      · refine ev_iconst (pc := 37) (v := nI 1) d_N_waiting_37 rfl ?_
        refine ev_goto (pc := 38) (tgt := 42) d_N_waiting_38 (by decide) ?_
        first | refine ev_iaddN (pc := 42) d_N_waiting_42 ?_ | refine ev_iadd (pc := 42) d_N_waiting_42 ?_
        refine ev_istore_n (pc := 43) d_N_waiting_43 rfl (Nat.le_of_ble_eq_true rfl) rfl ?_
        try dsimp only [List.set]
        refine ev_iinc (pc := 44) d_N_waiting_44 (Nat.le_of_ble_eq_true rfl) rfl (nx_inc _) rfl ?_
        try dsimp only [List.set]
        refine ev_goto (pc := 47) (tgt := 16) d_N_waiting_47 (by decide) ?_
        have h1 := ih (i + 1) (k + 1) (by omega) (by omega)
        simp only [fx_c, hb]
        rw [Nat.add_assoc] at h1
        simpa using h1
  refine mm_mtL (by decide) (by rfl) (Nat.le_of_ble_eq_true rfl) rfl ?_
  refine ev_iload_n (pc := 0) d_N_waiting_0 rfl rfl ?_
  refine ev_cS (pc := 1) (ct_N_isOneT E C hc) cl_N_99 js_N_isOne ⟨(Nat.le_of_ble_eq_true rfl), (Nat.le_of_ble_eq_true rfl)⟩ rfl rfl (Nat.le_of_ble_eq_true rfl) d_N_waiting_1 ⟨Nat.zero_le _, Nat.zero_le _⟩ ?_
  refine ev_if_ne (pc := 4) (tgt := 9) d_N_waiting_4 (by decide) (fun ha => ?_) (fun ha => ?_)
  rotate_left
  · exact absurd ha (by decide)
  refine ev_iconst (pc := 9) (v := 0) d_N_waiting_9 rfl ?_
  refine ev_istore_n (pc := 10) d_N_waiting_10 rfl (Nat.le_of_ble_eq_true rfl) rfl ?_
  try dsimp only [List.set]
  refine ev_bipush (pc := 11) (v := nI 8) d_N_waiting_11 (by decide) ?_
  refine ev_iload_n (pc := 13) d_N_waiting_13 rfl rfl ?_
  first | refine ev_imulN (pc := 14) d_N_waiting_14 ?_ | refine ev_imul (pc := 14) d_N_waiting_14 ?_
  refine ev_istore_n (pc := 15) d_N_waiting_15 rfl (Nat.le_of_ble_eq_true rfl) rfl ?_
  try dsimp only [List.set]
  have h1 := loop 8 (8 * c) 0 (by omega) (by omega)
  rw [Nat.zero_add] at h1
  exact h1
theorem ct_N_waitingN (E : mm_En) (C : Nat → Nat → Int32) {x : Int32} (hx : x < 0 ∨ 2 ≤ x) : mm_MT E K_N_waiting [.ref 204, .int x] (hp_H C) (mm_D (some (.int (-1))) C) := by
  refine mm_mtL (by decide) (by rfl) (Nat.le_of_ble_eq_true rfl) rfl ?_
  refine ev_iload_n (pc := 0) d_N_waiting_0 rfl rfl ?_
  refine ev_cS (pc := 1) (ct_N_isOneF E C hx) cl_N_99 js_N_isOne ⟨(Nat.le_of_ble_eq_true rfl), (Nat.le_of_ble_eq_true rfl)⟩ rfl rfl (Nat.le_of_ble_eq_true rfl) d_N_waiting_1 ⟨Nat.zero_le _, Nat.zero_le _⟩ ?_
  refine ev_if_ne (pc := 4) (tgt := 9) d_N_waiting_4 (by decide) (fun ha => ?_) (fun ha => ?_)
  · exact absurd rfl ha
  · refine ev_iconst (pc := 7) (v := -1) d_N_waiting_7 rfl ?_
    exact ev_iret (pc := 8) d_N_waiting_8 rfl (Nat.zero_le _) (Nat.zero_le _) ⟨rfl, rfl⟩
theorem d_N_reply_0 : decode b_N_reply 0 = .ok (.iload_n 1, 1) := by decide +kernel
theorem d_N_reply_1 : decode b_N_reply 1 = .ok (.iconst (-1), 1) := by decide +kernel
theorem d_N_reply_2 : decode b_N_reply 2 = .ok (.if_icmp .ne 8, 3) := by decide +kernel
theorem d_N_reply_5 : decode b_N_reply 5 = .ok (.aload_n 0, 1) := by decide +kernel
theorem d_N_reply_6 : decode b_N_reply 6 = .ok (.getfield 96, 3) := by decide +kernel
theorem d_N_reply_9 : decode b_N_reply 9 = .ok (.ireturn, 1) := by decide +kernel
theorem d_N_reply_10 : decode b_N_reply 10 = .ok (.iload_n 1, 1) := by decide +kernel
theorem d_N_reply_11 : decode b_N_reply 11 = .ok (.ifCond .lt 20, 3) := by decide +kernel
theorem d_N_reply_14 : decode b_N_reply 14 = .ok (.iload_n 1, 1) := by decide +kernel
theorem d_N_reply_15 : decode b_N_reply 15 = .ok (.aload_n 0, 1) := by decide +kernel
theorem d_N_reply_16 : decode b_N_reply 16 = .ok (.getfield 96, 3) := by decide +kernel
theorem d_N_reply_19 : decode b_N_reply 19 = .ok (.if_icmp .ge 12, 3) := by decide +kernel
theorem d_N_reply_22 : decode b_N_reply 22 = .ok (.aload_n 0, 1) := by decide +kernel
theorem d_N_reply_23 : decode b_N_reply 23 = .ok (.getfield 84, 3) := by decide +kernel
theorem d_N_reply_26 : decode b_N_reply 26 = .ok (.iload_n 1, 1) := by decide +kernel
theorem d_N_reply_27 : decode b_N_reply 27 = .ok (.iaload, 1) := by decide +kernel
theorem d_N_reply_28 : decode b_N_reply 28 = .ok (.goto 4, 3) := by decide +kernel
theorem d_N_reply_31 : decode b_N_reply 31 = .ok (.iconst 0, 1) := by decide +kernel
theorem d_N_reply_32 : decode b_N_reply 32 = .ok (.ireturn, 1) := by decide +kernel
theorem ct_N_reply (E : mm_En) (C : Nat → Nat → Int32) {r : Nat} (hr : C 204 26 = nI r) (h16 : r ≤ 16) (x : Int32) : mm_MT E K_N_reply [.ref 204, .int x] (hp_H C) (mm_D (some (.int (if x = -1 then nI r else if ¬ x < 0 ∧ x < nI r then C 227 x.toNatClampNeg else 0))) C) := by
  refine mm_mtL (by decide) (by rfl) (Nat.le_of_ble_eq_true rfl) rfl ?_
  refine ev_iload_n (pc := 0) d_N_reply_0 rfl rfl ?_
  refine ev_iconst (pc := 1) (v := -1) d_N_reply_1 rfl ?_
  refine ev_icmp_ne (pc := 2) (tgt := 10) d_N_reply_2 (by decide) (fun ha => ?_) (fun ha => ?_)
  rotate_left
  · have ha' : x = -1 := ha
    refine ev_aload_n (pc := 5) d_N_reply_5 rfl rfl (by first | rfl | exact mm_rk_rf _) ?_
    refine ev_gI (pc := 6) sh_N (by rfl) fl_N_96 d_N_reply_6 ?_
    rw [hr]
    exact ev_iret (pc := 9) d_N_reply_9 rfl (Nat.zero_le _) (Nat.zero_le _) ⟨by rw [if_pos ha'], rfl⟩
  rw [if_neg ha]
  refine ev_iload_n (pc := 10) d_N_reply_10 rfl rfl ?_
  refine ev_if_lt (pc := 11) (tgt := 31) d_N_reply_11 (by decide) (fun hb => ?_) (fun hb => ?_)
  · refine ev_iconst (pc := 31) (v := 0) d_N_reply_31 rfl ?_
    exact ev_iret (pc := 32) d_N_reply_32 rfl (Nat.zero_le _) (Nat.zero_le _) ⟨by rw [if_neg (fun z => z.1 hb)], rfl⟩
  refine ev_iload_n (pc := 14) d_N_reply_14 rfl rfl ?_
  refine ev_aload_n (pc := 15) d_N_reply_15 rfl rfl (by first | rfl | exact mm_rk_rf _) ?_
  refine ev_gI (pc := 16) sh_N (by rfl) fl_N_96 d_N_reply_16 ?_
  rw [hr]
  refine ev_icmp_ge (pc := 19) (tgt := 31) d_N_reply_19 (by decide) (fun hd => ?_) (fun hd => ?_)
  · refine ev_iconst (pc := 31) (v := 0) d_N_reply_31 rfl ?_
    exact ev_iret (pc := 32) d_N_reply_32 rfl (Nat.zero_le _) (Nat.zero_le _) ⟨by rw [if_neg (fun z => Int32.not_lt.mpr hd z.2)], rfl⟩
  obtain ⟨j, hj, rfl⟩ := vp_in_of (nx_nlt hb hd (by omega)) (by omega)
  refine ev_aload_n (pc := 22) d_N_reply_22 rfl rfl (by first | rfl | exact mm_rk_rf _) ?_
  refine ev_gR (pc := 23) sh_N (by rfl) fl_N_84 d_N_reply_23 ?_
  refine ev_iload_n (pc := 26) d_N_reply_26 rfl rfl ?_
  refine ev_rIN (pc := 27) sh_N_answer (by omega) (by decide) d_N_reply_27 ?_
  refine ev_goto (pc := 28) (tgt := 32) d_N_reply_28 (by decide) ?_
  exact ev_iret (pc := 32) d_N_reply_32 rfl (Nat.zero_le _) (Nat.zero_le _) ⟨by rw [if_pos ⟨hb, Int32.not_le.mp hd⟩, nI_clamp (by omega)], rfl⟩
def nt_C (C : Nat → Nat → Int32) (r : Nat) (v : Int32) : Nat → Nat → Int32 := cs_C (cs_C C 227 r v) 204 26 (nI (r + 1))
theorem d_N_tell_0 : decode b_N_tell 0 = .ok (.aload_n 0, 1) := by decide +kernel
theorem d_N_tell_1 : decode b_N_tell 1 = .ok (.getfield 84, 3) := by decide +kernel
theorem d_N_tell_4 : decode b_N_tell 4 = .ok (.aload_n 0, 1) := by decide +kernel
theorem d_N_tell_5 : decode b_N_tell 5 = .ok (.getfield 96, 3) := by decide +kernel
theorem d_N_tell_8 : decode b_N_tell 8 = .ok (.iload_n 1, 1) := by decide +kernel
theorem d_N_tell_9 : decode b_N_tell 9 = .ok (.iastore, 1) := by decide +kernel
theorem d_N_tell_10 : decode b_N_tell 10 = .ok (.aload_n 0, 1) := by decide +kernel
theorem d_N_tell_11 : decode b_N_tell 11 = .ok (.dup, 1) := by decide +kernel
theorem d_N_tell_12 : decode b_N_tell 12 = .ok (.getfield 96, 3) := by decide +kernel
theorem d_N_tell_15 : decode b_N_tell 15 = .ok (.iconst 1, 1) := by decide +kernel
theorem d_N_tell_16 : decode b_N_tell 16 = .ok (.iadd, 1) := by decide +kernel
theorem d_N_tell_17 : decode b_N_tell 17 = .ok (.putfield 96, 3) := by decide +kernel
theorem d_N_tell_20 : decode b_N_tell 20 = .ok (.return_, 1) := by decide +kernel
theorem ct_N_tell (E : mm_En) (C : Nat → Nat → Int32) {r : Nat} (hr : C 204 26 = nI r) (h16 : r < 16) (x : Int32) : mm_MT E K_N_tell [.ref 204, .int x] (hp_H C) (mm_D none (nt_C C r x)) := by
  refine mm_mtL (by decide) (by rfl) (Nat.le_of_ble_eq_true rfl) rfl ?_
  refine ev_aload_n (pc := 0) d_N_tell_0 rfl rfl (by first | rfl | exact mm_rk_rf _) ?_
  refine ev_gR (pc := 1) sh_N (by rfl) fl_N_84 d_N_tell_1 ?_
  refine ev_aload_n (pc := 4) d_N_tell_4 rfl rfl (by first | rfl | exact mm_rk_rf _) ?_
  refine ev_gI (pc := 5) sh_N (by rfl) fl_N_96 d_N_tell_5 ?_
  rw [hr]
  refine ev_iload_n (pc := 8) d_N_tell_8 rfl rfl ?_
  refine ev_wIN (pc := 9) sh_N_answer (by omega) (by decide) d_N_tell_9 ?_
  refine ev_aload_n (pc := 10) d_N_tell_10 rfl rfl (by first | rfl | exact mm_rk_rf _) ?_
  refine ev_dup (pc := 11) d_N_tell_11 (by rfl) ?_
  refine ev_gI (pc := 12) sh_N (by rfl) fl_N_96 d_N_tell_12 ?_
  rw [cs_ne _ _ (by omega), hr]
  refine ev_iconst (pc := 15) (v := nI 1) d_N_tell_15 rfl ?_
  first | refine ev_iaddN (pc := 16) d_N_tell_16 ?_ | refine ev_iadd (pc := 16) d_N_tell_16 ?_
  refine ev_pI (pc := 17) sh_N (by rfl) fl_N_96 fw_9_26 (by rfl) d_N_tell_17 ?_
  exact ev_vret (pc := 20) d_N_tell_20 rfl (Nat.zero_le _) (Nat.zero_le _) ⟨rfl, rfl⟩
theorem d_N_isDirectory_0 : decode b_N_isDirectory 0 = .ok (.aload_n 0, 1) := by decide +kernel
theorem d_N_isDirectory_1 : decode b_N_isDirectory 1 = .ok (.getfield 35, 3) := by decide +kernel
theorem d_N_isDirectory_4 : decode b_N_isDirectory 4 = .ok (.iload_n 1, 1) := by decide +kernel
theorem d_N_isDirectory_5 : decode b_N_isDirectory 5 = .ok (.iaload, 1) := by decide +kernel
theorem d_N_isDirectory_6 : decode b_N_isDirectory 6 = .ok (.sipush 2048, 3) := by decide +kernel
theorem d_N_isDirectory_9 : decode b_N_isDirectory 9 = .ok (.iand, 1) := by decide +kernel
theorem d_N_isDirectory_10 : decode b_N_isDirectory 10 = .ok (.ifCond .eq 7, 3) := by decide +kernel
theorem d_N_isDirectory_13 : decode b_N_isDirectory 13 = .ok (.iconst 1, 1) := by decide +kernel
theorem d_N_isDirectory_14 : decode b_N_isDirectory 14 = .ok (.goto 4, 3) := by decide +kernel
theorem d_N_isDirectory_17 : decode b_N_isDirectory 17 = .ok (.iconst 0, 1) := by decide +kernel
theorem d_N_isDirectory_18 : decode b_N_isDirectory 18 = .ok (.ireturn, 1) := by decide +kernel
theorem ct_N_isDirectory (E : mm_En) (C : Nat → Nat → Int32) {k : Nat} (hk : k < 120) : mm_MT E K_N_isDirectory [.ref 204, .int (nI k)] (hp_H C) (mm_D (some (.int (b2_P (¬ (C 213 k &&& 2048) = 0)))) C) := by
  refine mm_mtL (by decide) (by rfl) (Nat.le_of_ble_eq_true rfl) rfl ?_
  refine ev_aload_n (pc := 0) d_N_isDirectory_0 rfl rfl (by first | rfl | exact mm_rk_rf _) ?_
  refine ev_gR (pc := 1) sh_N (by rfl) fl_N_35 d_N_isDirectory_1 ?_
  refine ev_iload_n (pc := 4) d_N_isDirectory_4 rfl rfl ?_
  refine ev_rIN (pc := 5) sh_N_mode (by omega) (by decide) d_N_isDirectory_5 ?_
  refine ev_sipush (pc := 6) (v := 2048) d_N_isDirectory_6 (by decide) ?_
  refine ev_iand (pc := 9) d_N_isDirectory_9 ?_
  refine ev_if_eq (pc := 10) (tgt := 17) d_N_isDirectory_10 (by decide) (fun hc10 => ?_) (fun hc10 => ?_)
  · refine ev_iconst (pc := 17) (v := 0) d_N_isDirectory_17 rfl ?_
    exact ev_zret (pc := 18) d_N_isDirectory_18 rfl (by first | exact Or.inl rfl | exact Or.inr rfl | assumption) (Nat.zero_le _) (Nat.zero_le _) ⟨by first | rw [b2_t (by grind)] | rw [b2_f (by grind)], rfl⟩
  · refine ev_iconst (pc := 13) (v := 1) d_N_isDirectory_13 rfl ?_
    refine ev_goto (pc := 14) (tgt := 18) d_N_isDirectory_14 (by decide) ?_
    exact ev_zret (pc := 18) d_N_isDirectory_18 rfl (by first | exact Or.inl rfl | exact Or.inr rfl | assumption) (Nat.zero_le _) (Nat.zero_le _) ⟨by first | rw [b2_t (by grind)] | rw [b2_f (by grind)], rfl⟩
theorem d_N_isOpenMode_0 : decode b_N_isOpenMode 0 = .ok (.iload_n 0, 1) := by decide +kernel
theorem d_N_isOpenMode_1 : decode b_N_isOpenMode 1 = .ok (.bipush (-84), 2) := by decide +kernel
theorem d_N_isOpenMode_3 : decode b_N_isOpenMode 3 = .ok (.iand, 1) := by decide +kernel
theorem d_N_isOpenMode_4 : decode b_N_isOpenMode 4 = .ok (.ifCond .ne 14, 3) := by decide +kernel
theorem d_N_isOpenMode_7 : decode b_N_isOpenMode 7 = .ok (.iload_n 0, 1) := by decide +kernel
theorem d_N_isOpenMode_8 : decode b_N_isOpenMode 8 = .ok (.iconst 3, 1) := by decide +kernel
theorem d_N_isOpenMode_9 : decode b_N_isOpenMode 9 = .ok (.iand, 1) := by decide +kernel
theorem d_N_isOpenMode_10 : decode b_N_isOpenMode 10 = .ok (.iconst 3, 1) := by decide +kernel
theorem d_N_isOpenMode_11 : decode b_N_isOpenMode 11 = .ok (.if_icmp .ge 7, 3) := by decide +kernel
theorem d_N_isOpenMode_14 : decode b_N_isOpenMode 14 = .ok (.iconst 1, 1) := by decide +kernel
theorem d_N_isOpenMode_15 : decode b_N_isOpenMode 15 = .ok (.goto 4, 3) := by decide +kernel
theorem d_N_isOpenMode_18 : decode b_N_isOpenMode 18 = .ok (.iconst 0, 1) := by decide +kernel
theorem d_N_isOpenMode_19 : decode b_N_isOpenMode 19 = .ok (.ireturn, 1) := by decide +kernel
theorem ct_N_isOpenMode (E : mm_En) (C : Nat → Nat → Int32) (x : Int32) : mm_MT E K_N_isOpenMode [.int x] (hp_H C) (mm_D (some (.int (b2_P ((x &&& -84) = 0 ∧ ¬ 3 ≤ (x &&& 3))))) C) := by
  refine mm_mtL (by decide) (by rfl) (Nat.le_of_ble_eq_true rfl) rfl ?_
  refine ev_iload_n (pc := 0) d_N_isOpenMode_0 rfl rfl ?_
  refine ev_bipush (pc := 1) (v := -84) d_N_isOpenMode_1 (by decide) ?_
  refine ev_iand (pc := 3) d_N_isOpenMode_3 ?_
  refine ev_if_ne (pc := 4) (tgt := 18) d_N_isOpenMode_4 (by decide) (fun hc4 => ?_) (fun hc4 => ?_)
  · refine ev_iconst (pc := 18) (v := 0) d_N_isOpenMode_18 rfl ?_
    exact ev_zret (pc := 19) d_N_isOpenMode_19 rfl (by first | exact Or.inl rfl | exact Or.inr rfl | assumption) (Nat.zero_le _) (Nat.zero_le _) ⟨by first | rw [b2_t (by grind)] | rw [b2_f (by grind)], rfl⟩
  · refine ev_iload_n (pc := 7) d_N_isOpenMode_7 rfl rfl ?_
    refine ev_iconst (pc := 8) (v := 3) d_N_isOpenMode_8 rfl ?_
    refine ev_iand (pc := 9) d_N_isOpenMode_9 ?_
    refine ev_iconst (pc := 10) (v := 3) d_N_isOpenMode_10 rfl ?_
    refine ev_icmp_ge (pc := 11) (tgt := 18) d_N_isOpenMode_11 (by decide) (fun hc11 => ?_) (fun hc11 => ?_)
    · refine ev_iconst (pc := 18) (v := 0) d_N_isOpenMode_18 rfl ?_
      exact ev_zret (pc := 19) d_N_isOpenMode_19 rfl (by first | exact Or.inl rfl | exact Or.inr rfl | assumption) (Nat.zero_le _) (Nat.zero_le _) ⟨by first | rw [b2_t (by grind)] | rw [b2_f (by grind)], rfl⟩
    · refine ev_iconst (pc := 14) (v := 1) d_N_isOpenMode_14 rfl ?_
      refine ev_goto (pc := 15) (tgt := 19) d_N_isOpenMode_15 (by decide) ?_
      exact ev_zret (pc := 19) d_N_isOpenMode_19 rfl (by first | exact Or.inl rfl | exact Or.inr rfl | assumption) (Nat.zero_le _) (Nat.zero_le _) ⟨by first | rw [b2_t (by grind)] | rw [b2_f (by grind)], rfl⟩
theorem d_N_reads_0 : decode b_N_reads 0 = .ok (.iload_n 1, 1) := by decide +kernel
theorem d_N_reads_1 : decode b_N_reads 1 = .ok (.iconst 3, 1) := by decide +kernel
theorem d_N_reads_2 : decode b_N_reads 2 = .ok (.iand, 1) := by decide +kernel
theorem d_N_reads_3 : decode b_N_reads 3 = .ok (.iconst 1, 1) := by decide +kernel
theorem d_N_reads_4 : decode b_N_reads 4 = .ok (.if_icmp .eq 7, 3) := by decide +kernel
theorem d_N_reads_7 : decode b_N_reads 7 = .ok (.iconst 1, 1) := by decide +kernel
theorem d_N_reads_8 : decode b_N_reads 8 = .ok (.goto 4, 3) := by decide +kernel
theorem d_N_reads_11 : decode b_N_reads 11 = .ok (.iconst 0, 1) := by decide +kernel
theorem d_N_reads_12 : decode b_N_reads 12 = .ok (.ireturn, 1) := by decide +kernel
theorem ct_N_reads (E : mm_En) (C : Nat → Nat → Int32) (x : Int32) : mm_MT E K_N_reads [.ref 204, .int x] (hp_H C) (mm_D (some (.int (b2_P (¬ (x &&& 3) = 1)))) C) := by
  refine mm_mtL (by decide) (by rfl) (Nat.le_of_ble_eq_true rfl) rfl ?_
  refine ev_iload_n (pc := 0) d_N_reads_0 rfl rfl ?_
  refine ev_iconst (pc := 1) (v := 3) d_N_reads_1 rfl ?_
  refine ev_iand (pc := 2) d_N_reads_2 ?_
  refine ev_iconst (pc := 3) (v := 1) d_N_reads_3 rfl ?_
  refine ev_icmp_eq (pc := 4) (tgt := 11) d_N_reads_4 (by decide) (fun hc4 => ?_) (fun hc4 => ?_)
  · refine ev_iconst (pc := 11) (v := 0) d_N_reads_11 rfl ?_
    exact ev_zret (pc := 12) d_N_reads_12 rfl (by first | exact Or.inl rfl | exact Or.inr rfl | assumption) (Nat.zero_le _) (Nat.zero_le _) ⟨by first | rw [b2_t (by grind)] | rw [b2_f (by grind)], rfl⟩
  · refine ev_iconst (pc := 7) (v := 1) d_N_reads_7 rfl ?_
    refine ev_goto (pc := 8) (tgt := 12) d_N_reads_8 (by decide) ?_
    exact ev_zret (pc := 12) d_N_reads_12 rfl (by first | exact Or.inl rfl | exact Or.inr rfl | assumption) (Nat.zero_le _) (Nat.zero_le _) ⟨by first | rw [b2_t (by grind)] | rw [b2_f (by grind)], rfl⟩
theorem d_N_writes_0 : decode b_N_writes 0 = .ok (.iload_n 1, 1) := by decide +kernel
theorem d_N_writes_1 : decode b_N_writes 1 = .ok (.iconst 3, 1) := by decide +kernel
theorem d_N_writes_2 : decode b_N_writes 2 = .ok (.iand, 1) := by decide +kernel
theorem d_N_writes_3 : decode b_N_writes 3 = .ok (.ifCond .le 7, 3) := by decide +kernel
theorem d_N_writes_6 : decode b_N_writes 6 = .ok (.iconst 1, 1) := by decide +kernel
theorem d_N_writes_7 : decode b_N_writes 7 = .ok (.goto 4, 3) := by decide +kernel
theorem d_N_writes_10 : decode b_N_writes 10 = .ok (.iconst 0, 1) := by decide +kernel
theorem d_N_writes_11 : decode b_N_writes 11 = .ok (.ireturn, 1) := by decide +kernel
theorem ct_N_writes (E : mm_En) (C : Nat → Nat → Int32) (x : Int32) : mm_MT E K_N_writes [.ref 204, .int x] (hp_H C) (mm_D (some (.int (b2_P (¬ (x &&& 3) ≤ 0)))) C) := by
  refine mm_mtL (by decide) (by rfl) (Nat.le_of_ble_eq_true rfl) rfl ?_
  refine ev_iload_n (pc := 0) d_N_writes_0 rfl rfl ?_
  refine ev_iconst (pc := 1) (v := 3) d_N_writes_1 rfl ?_
  refine ev_iand (pc := 2) d_N_writes_2 ?_
  refine ev_if_le (pc := 3) (tgt := 10) d_N_writes_3 (by decide) (fun hc3 => ?_) (fun hc3 => ?_)
  · refine ev_iconst (pc := 10) (v := 0) d_N_writes_10 rfl ?_
    exact ev_zret (pc := 11) d_N_writes_11 rfl (by first | exact Or.inl rfl | exact Or.inr rfl | assumption) (Nat.zero_le _) (Nat.zero_le _) ⟨by first | rw [b2_t (by grind)] | rw [b2_f (by grind)], rfl⟩
  · refine ev_iconst (pc := 6) (v := 1) d_N_writes_6 rfl ?_
    refine ev_goto (pc := 7) (tgt := 11) d_N_writes_7 (by decide) ?_
    exact ev_zret (pc := 11) d_N_writes_11 rfl (by first | exact Or.inl rfl | exact Or.inr rfl | assumption) (Nat.zero_le _) (Nat.zero_le _) ⟨by first | rw [b2_t (by grind)] | rw [b2_f (by grind)], rfl⟩
theorem d_N_within_0 : decode b_N_within 0 = .ok (.iload_n 0, 1) := by decide +kernel
theorem d_N_within_1 : decode b_N_within 1 = .ok (.iconst (-1), 1) := by decide +kernel
theorem d_N_within_2 : decode b_N_within 2 = .ok (.if_icmp .eq 13, 3) := by decide +kernel
theorem d_N_within_5 : decode b_N_within 5 = .ok (.iload_n 0, 1) := by decide +kernel
theorem d_N_within_6 : decode b_N_within 6 = .ok (.iload_n 1, 1) := by decide +kernel
theorem d_N_within_7 : decode b_N_within 7 = .ok (.if_icmp .lt 12, 3) := by decide +kernel
theorem d_N_within_10 : decode b_N_within 10 = .ok (.iload_n 0, 1) := by decide +kernel
theorem d_N_within_11 : decode b_N_within 11 = .ok (.iload_n 2, 1) := by decide +kernel
theorem d_N_within_12 : decode b_N_within 12 = .ok (.if_icmp .gt 7, 3) := by decide +kernel
theorem d_N_within_15 : decode b_N_within 15 = .ok (.iconst 1, 1) := by decide +kernel
theorem d_N_within_16 : decode b_N_within 16 = .ok (.goto 4, 3) := by decide +kernel
theorem d_N_within_19 : decode b_N_within 19 = .ok (.iconst 0, 1) := by decide +kernel
theorem d_N_within_20 : decode b_N_within 20 = .ok (.ireturn, 1) := by decide +kernel
theorem ct_N_within (E : mm_En) (C : Nat → Nat → Int32) (x y z : Int32) : mm_MT E K_N_within [.int x, .int y, .int z] (hp_H C) (mm_D (some (.int (b2_P (x = -1 ∨ (¬ x < y ∧ ¬ z < x))))) C) := by
  refine mm_mtL (by decide) (by rfl) (Nat.le_of_ble_eq_true rfl) rfl ?_
  refine ev_iload_n (pc := 0) d_N_within_0 rfl rfl ?_
  refine ev_iconst (pc := 1) (v := -1) d_N_within_1 rfl ?_
  refine ev_icmp_eq (pc := 2) (tgt := 15) d_N_within_2 (by decide) (fun hc2 => ?_) (fun hc2 => ?_)
  · refine ev_iconst (pc := 15) (v := 1) d_N_within_15 rfl ?_
    refine ev_goto (pc := 16) (tgt := 20) d_N_within_16 (by decide) ?_
    exact ev_zret (pc := 20) d_N_within_20 rfl (by first | exact Or.inl rfl | exact Or.inr rfl | assumption) (Nat.zero_le _) (Nat.zero_le _) ⟨by first | rw [b2_t (by grind)] | rw [b2_f (by grind)], rfl⟩
  · refine ev_iload_n (pc := 5) d_N_within_5 rfl rfl ?_
    refine ev_iload_n (pc := 6) d_N_within_6 rfl rfl ?_
    refine ev_icmp_lt (pc := 7) (tgt := 19) d_N_within_7 (by decide) (fun hc7 => ?_) (fun hc7 => ?_)
    · refine ev_iconst (pc := 19) (v := 0) d_N_within_19 rfl ?_
      exact ev_zret (pc := 20) d_N_within_20 rfl (by first | exact Or.inl rfl | exact Or.inr rfl | assumption) (Nat.zero_le _) (Nat.zero_le _) ⟨by first | rw [b2_t (by grind)] | rw [b2_f (by grind)], rfl⟩
    · refine ev_iload_n (pc := 10) d_N_within_10 rfl rfl ?_
      refine ev_iload_n (pc := 11) d_N_within_11 rfl rfl ?_
      refine ev_icmp_gt (pc := 12) (tgt := 19) d_N_within_12 (by decide) (fun hc12 => ?_) (fun hc12 => ?_)
      · refine ev_iconst (pc := 19) (v := 0) d_N_within_19 rfl ?_
        exact ev_zret (pc := 20) d_N_within_20 rfl (by first | exact Or.inl rfl | exact Or.inr rfl | assumption) (Nat.zero_le _) (Nat.zero_le _) ⟨by first | rw [b2_t (by grind)] | rw [b2_f (by grind)], rfl⟩
      · refine ev_iconst (pc := 15) (v := 1) d_N_within_15 rfl ?_
        refine ev_goto (pc := 16) (tgt := 20) d_N_within_16 (by decide) ?_
        exact ev_zret (pc := 20) d_N_within_20 rfl (by first | exact Or.inl rfl | exact Or.inr rfl | assumption) (Nat.zero_le _) (Nat.zero_le _) ⟨by first | rw [b2_t (by grind)] | rw [b2_f (by grind)], rfl⟩
theorem d_N_nodes_0 : decode b_N_nodes 0 = .ok (.aload_n 0, 1) := by decide +kernel
theorem d_N_nodes_1 : decode b_N_nodes 1 = .ok (.getfield 13, 3) := by decide +kernel
theorem d_N_nodes_4 : decode b_N_nodes 4 = .ok (.iconst 0, 1) := by decide +kernel
theorem d_N_nodes_5 : decode b_N_nodes 5 = .ok (.iaload, 1) := by decide +kernel
theorem d_N_nodes_6 : decode b_N_nodes 6 = .ok (.ireturn, 1) := by decide +kernel
theorem ct_N_nodes (E : mm_En) (C : Nat → Nat → Int32) : mm_MT E K_N_nodes [.ref 204] (hp_H C) (mm_D (some (.int (C 206 0))) C) := by
  refine mm_mtL (by decide) (by rfl) (Nat.le_of_ble_eq_true rfl) rfl ?_
  refine ev_aload_n (pc := 0) d_N_nodes_0 rfl rfl (by first | rfl | exact mm_rk_rf _) ?_
  refine ev_gR (pc := 1) sh_N (by rfl) fl_N_13 d_N_nodes_1 ?_
  refine ev_iconst (pc := 4) (v := nI 0) d_N_nodes_4 rfl ?_
  refine ev_rIN (pc := 5) sh_N_many (by omega) (by decide) d_N_nodes_5 ?_
  exact ev_iret (pc := 6) d_N_nodes_6 rfl (Nat.zero_le _) (Nat.zero_le _) ⟨rfl, rfl⟩
def nl_v (x : Int32) : Int32 := if x = 0 ∨ x = 4 then 2 else if x = 1 ∨ x = 2 ∨ x = 5 then 1 else if x = 3 then 3 else if x = 9 then 4 else 0
def nl_m (x : Int32) : Int32 := if x = 1 ∨ x = 5 then 4 else nl_v x
theorem nl_f : ∀ kd, kd < 10 → nl_v (nI kd) = st_f kd ∧ nl_m (nI kd) = st_g kd := by decide +kernel
theorem d_N_least_0 : decode b_N_least 0 = .ok (.iload_n 0, 1) := by decide +kernel
theorem d_N_least_1 : decode b_N_least 1 = .ok (.ifCond .eq 8, 3) := by decide +kernel
theorem d_N_least_4 : decode b_N_least 4 = .ok (.iload_n 0, 1) := by decide +kernel
theorem d_N_least_5 : decode b_N_least 5 = .ok (.iconst 4, 1) := by decide +kernel
theorem d_N_least_6 : decode b_N_least 6 = .ok (.if_icmp .ne 7, 3) := by decide +kernel
theorem d_N_least_9 : decode b_N_least 9 = .ok (.iconst 2, 1) := by decide +kernel
theorem d_N_least_10 : decode b_N_least 10 = .ok (.goto 42, 3) := by decide +kernel
theorem d_N_least_13 : decode b_N_least 13 = .ok (.iload_n 0, 1) := by decide +kernel
theorem d_N_least_14 : decode b_N_least 14 = .ok (.iconst 1, 1) := by decide +kernel
theorem d_N_least_15 : decode b_N_least 15 = .ok (.if_icmp .eq 13, 3) := by decide +kernel
theorem d_N_least_18 : decode b_N_least 18 = .ok (.iload_n 0, 1) := by decide +kernel
theorem d_N_least_19 : decode b_N_least 19 = .ok (.iconst 2, 1) := by decide +kernel
theorem d_N_least_20 : decode b_N_least 20 = .ok (.if_icmp .eq 8, 3) := by decide +kernel
theorem d_N_least_23 : decode b_N_least 23 = .ok (.iload_n 0, 1) := by decide +kernel
theorem d_N_least_24 : decode b_N_least 24 = .ok (.iconst 5, 1) := by decide +kernel
theorem d_N_least_25 : decode b_N_least 25 = .ok (.if_icmp .ne 7, 3) := by decide +kernel
theorem d_N_least_28 : decode b_N_least 28 = .ok (.iconst 1, 1) := by decide +kernel
theorem d_N_least_29 : decode b_N_least 29 = .ok (.goto 23, 3) := by decide +kernel
theorem d_N_least_32 : decode b_N_least 32 = .ok (.iload_n 0, 1) := by decide +kernel
theorem d_N_least_33 : decode b_N_least 33 = .ok (.iconst 3, 1) := by decide +kernel
theorem d_N_least_34 : decode b_N_least 34 = .ok (.if_icmp .ne 7, 3) := by decide +kernel
theorem d_N_least_37 : decode b_N_least 37 = .ok (.iconst 3, 1) := by decide +kernel
theorem d_N_least_38 : decode b_N_least 38 = .ok (.goto 14, 3) := by decide +kernel
theorem d_N_least_41 : decode b_N_least 41 = .ok (.iload_n 0, 1) := by decide +kernel
theorem d_N_least_42 : decode b_N_least 42 = .ok (.bipush 9, 2) := by decide +kernel
theorem d_N_least_44 : decode b_N_least 44 = .ok (.if_icmp .ne 7, 3) := by decide +kernel
theorem d_N_least_47 : decode b_N_least 47 = .ok (.iconst 4, 1) := by decide +kernel
theorem d_N_least_48 : decode b_N_least 48 = .ok (.goto 4, 3) := by decide +kernel
theorem d_N_least_51 : decode b_N_least 51 = .ok (.iconst 0, 1) := by decide +kernel
theorem d_N_least_52 : decode b_N_least 52 = .ok (.ireturn, 1) := by decide +kernel
theorem ct_N_least (E : mm_En) (C : Nat → Nat → Int32) (x : Int32) : mm_MT E K_N_least [.int x] (hp_H C) (mm_D (some (.int (nl_v x))) C) := by
  refine mm_mtL (by decide) (by rfl) (Nat.le_of_ble_eq_true rfl) rfl ?_
  refine ev_iload_n (pc := 0) d_N_least_0 rfl rfl ?_
  refine ev_if_eq (pc := 1) (tgt := 9) d_N_least_1 (by decide) (fun hc1 => ?_) (fun hc1 => ?_)
  · refine ev_iconst (pc := 9) (v := 2) d_N_least_9 rfl ?_
    refine ev_goto (pc := 10) (tgt := 52) d_N_least_10 (by decide) ?_
    exact ev_iret (pc := 52) d_N_least_52 rfl (Nat.zero_le _) (Nat.zero_le _) ⟨by unfold nl_v; grind, rfl⟩
  · refine ev_iload_n (pc := 4) d_N_least_4 rfl rfl ?_
    refine ev_iconst (pc := 5) (v := 4) d_N_least_5 rfl ?_
    refine ev_icmp_ne (pc := 6) (tgt := 13) d_N_least_6 (by decide) (fun hc6 => ?_) (fun hc6 => ?_)
    · refine ev_iload_n (pc := 13) d_N_least_13 rfl rfl ?_
      refine ev_iconst (pc := 14) (v := 1) d_N_least_14 rfl ?_
      refine ev_icmp_eq (pc := 15) (tgt := 28) d_N_least_15 (by decide) (fun hc15 => ?_) (fun hc15 => ?_)
      · refine ev_iconst (pc := 28) (v := 1) d_N_least_28 rfl ?_
        refine ev_goto (pc := 29) (tgt := 52) d_N_least_29 (by decide) ?_
        exact ev_iret (pc := 52) d_N_least_52 rfl (Nat.zero_le _) (Nat.zero_le _) ⟨by unfold nl_v; grind, rfl⟩
      · refine ev_iload_n (pc := 18) d_N_least_18 rfl rfl ?_
        refine ev_iconst (pc := 19) (v := 2) d_N_least_19 rfl ?_
        refine ev_icmp_eq (pc := 20) (tgt := 28) d_N_least_20 (by decide) (fun hc20 => ?_) (fun hc20 => ?_)
        · refine ev_iconst (pc := 28) (v := 1) d_N_least_28 rfl ?_
          refine ev_goto (pc := 29) (tgt := 52) d_N_least_29 (by decide) ?_
          exact ev_iret (pc := 52) d_N_least_52 rfl (Nat.zero_le _) (Nat.zero_le _) ⟨by unfold nl_v; grind, rfl⟩
        · refine ev_iload_n (pc := 23) d_N_least_23 rfl rfl ?_
          refine ev_iconst (pc := 24) (v := 5) d_N_least_24 rfl ?_
          refine ev_icmp_ne (pc := 25) (tgt := 32) d_N_least_25 (by decide) (fun hc25 => ?_) (fun hc25 => ?_)
          · refine ev_iload_n (pc := 32) d_N_least_32 rfl rfl ?_
            refine ev_iconst (pc := 33) (v := 3) d_N_least_33 rfl ?_
            refine ev_icmp_ne (pc := 34) (tgt := 41) d_N_least_34 (by decide) (fun hc34 => ?_) (fun hc34 => ?_)
            · refine ev_iload_n (pc := 41) d_N_least_41 rfl rfl ?_
              refine ev_bipush (pc := 42) (v := 9) d_N_least_42 (by decide) ?_
              refine ev_icmp_ne (pc := 44) (tgt := 51) d_N_least_44 (by decide) (fun hc44 => ?_) (fun hc44 => ?_)
              · refine ev_iconst (pc := 51) (v := 0) d_N_least_51 rfl ?_
                exact ev_iret (pc := 52) d_N_least_52 rfl (Nat.zero_le _) (Nat.zero_le _) ⟨by unfold nl_v; grind, rfl⟩
              · refine ev_iconst (pc := 47) (v := 4) d_N_least_47 rfl ?_
                refine ev_goto (pc := 48) (tgt := 52) d_N_least_48 (by decide) ?_
                exact ev_iret (pc := 52) d_N_least_52 rfl (Nat.zero_le _) (Nat.zero_le _) ⟨by unfold nl_v; grind, rfl⟩
            · refine ev_iconst (pc := 37) (v := 3) d_N_least_37 rfl ?_
              refine ev_goto (pc := 38) (tgt := 52) d_N_least_38 (by decide) ?_
              exact ev_iret (pc := 52) d_N_least_52 rfl (Nat.zero_le _) (Nat.zero_le _) ⟨by unfold nl_v; grind, rfl⟩
          · refine ev_iconst (pc := 28) (v := 1) d_N_least_28 rfl ?_
            refine ev_goto (pc := 29) (tgt := 52) d_N_least_29 (by decide) ?_
            exact ev_iret (pc := 52) d_N_least_52 rfl (Nat.zero_le _) (Nat.zero_le _) ⟨by unfold nl_v; grind, rfl⟩
    · refine ev_iconst (pc := 9) (v := 2) d_N_least_9 rfl ?_
      refine ev_goto (pc := 10) (tgt := 52) d_N_least_10 (by decide) ?_
      exact ev_iret (pc := 52) d_N_least_52 rfl (Nat.zero_le _) (Nat.zero_le _) ⟨by unfold nl_v; grind, rfl⟩
theorem d_N_most_0 : decode b_N_most 0 = .ok (.iload_n 0, 1) := by decide +kernel
theorem d_N_most_1 : decode b_N_most 1 = .ok (.iconst 1, 1) := by decide +kernel
theorem d_N_most_2 : decode b_N_most 2 = .ok (.if_icmp .eq 8, 3) := by decide +kernel
theorem d_N_most_5 : decode b_N_most 5 = .ok (.iload_n 0, 1) := by decide +kernel
theorem d_N_most_6 : decode b_N_most 6 = .ok (.iconst 5, 1) := by decide +kernel
theorem d_N_most_7 : decode b_N_most 7 = .ok (.if_icmp .ne 7, 3) := by decide +kernel
theorem d_N_most_10 : decode b_N_most 10 = .ok (.iconst 4, 1) := by decide +kernel
theorem d_N_most_11 : decode b_N_most 11 = .ok (.goto 7, 3) := by decide +kernel
theorem d_N_most_14 : decode b_N_most 14 = .ok (.iload_n 0, 1) := by decide +kernel
theorem d_N_most_15 : decode b_N_most 15 = .ok (.invokestatic 110, 3) := by decide +kernel
theorem d_N_most_18 : decode b_N_most 18 = .ok (.ireturn, 1) := by decide +kernel
theorem ct_N_most (E : mm_En) (C : Nat → Nat → Int32) (x : Int32) : mm_MT E K_N_most [.int x] (hp_H C) (mm_D (some (.int (nl_m x))) C) := by
  refine mm_mtL (by decide) (by rfl) (Nat.le_of_ble_eq_true rfl) rfl ?_
  refine ev_iload_n (pc := 0) d_N_most_0 rfl rfl ?_
  refine ev_iconst (pc := 1) (v := 1) d_N_most_1 rfl ?_
  refine ev_icmp_eq (pc := 2) (tgt := 10) d_N_most_2 (by decide) (fun hc2 => ?_) (fun hc2 => ?_)
  · refine ev_iconst (pc := 10) (v := 4) d_N_most_10 rfl ?_
    refine ev_goto (pc := 11) (tgt := 18) d_N_most_11 (by decide) ?_
    exact ev_iret (pc := 18) d_N_most_18 rfl (Nat.zero_le _) (Nat.zero_le _) ⟨by unfold nl_m; grind, rfl⟩
  · refine ev_iload_n (pc := 5) d_N_most_5 rfl rfl ?_
    refine ev_iconst (pc := 6) (v := 5) d_N_most_6 rfl ?_
    refine ev_icmp_ne (pc := 7) (tgt := 14) d_N_most_7 (by decide) (fun hc7 => ?_) (fun hc7 => ?_)
    · refine ev_iload_n (pc := 14) d_N_most_14 rfl rfl ?_
      refine ev_cS (pc := 15) (ct_N_least E C x) cl_N_110 js_N_least ⟨(Nat.le_of_ble_eq_true rfl), (Nat.le_of_ble_eq_true rfl)⟩ rfl rfl (Nat.le_of_ble_eq_true rfl) d_N_most_15 ⟨Nat.zero_le _, Nat.zero_le _⟩ ?_
      exact ev_iret (pc := 18) d_N_most_18 rfl (Nat.zero_le _) (Nat.zero_le _) ⟨by unfold nl_m; grind, rfl⟩
    · refine ev_iconst (pc := 10) (v := 4) d_N_most_10 rfl ?_
      refine ev_goto (pc := 11) (tgt := 18) d_N_most_11 (by decide) ?_
      exact ev_iret (pc := 18) d_N_most_18 rfl (Nat.zero_le _) (Nat.zero_le _) ⟨by unfold nl_m; grind, rfl⟩
def nf_v (C : Nat → Nat → Int32) (k : Nat) : Int32 := if C 217 k < 0 then 0 else (if C 220 k < 0 then 1 else 2) + (if C 218 k = 0 then 0 else 4)
theorem d_N_fid_0 : decode b_N_fid 0 = .ok (.iload_n 1, 1) := by decide +kernel
theorem d_N_fid_1 : decode b_N_fid 1 = .ok (.invokestatic 99, 3) := by decide +kernel
theorem d_N_fid_4 : decode b_N_fid 4 = .ok (.ifCond .eq 12, 3) := by decide +kernel
theorem d_N_fid_7 : decode b_N_fid 7 = .ok (.iload_n 2, 1) := by decide +kernel
theorem d_N_fid_8 : decode b_N_fid 8 = .ok (.ifCond .lt 8, 3) := by decide +kernel
theorem d_N_fid_11 : decode b_N_fid 11 = .ok (.iload_n 2, 1) := by decide +kernel
theorem d_N_fid_12 : decode b_N_fid 12 = .ok (.iconst 5, 1) := by decide +kernel
theorem d_N_fid_13 : decode b_N_fid 13 = .ok (.if_icmp .le 5, 3) := by decide +kernel
theorem d_N_fid_16 : decode b_N_fid 16 = .ok (.iconst (-1), 1) := by decide +kernel
theorem d_N_fid_17 : decode b_N_fid 17 = .ok (.ireturn, 1) := by decide +kernel
theorem d_N_fid_18 : decode b_N_fid 18 = .ok (.bipush 6, 2) := by decide +kernel
theorem d_N_fid_20 : decode b_N_fid 20 = .ok (.iload_n 1, 1) := by decide +kernel
theorem d_N_fid_21 : decode b_N_fid 21 = .ok (.imul, 1) := by decide +kernel
theorem d_N_fid_22 : decode b_N_fid 22 = .ok (.iload_n 2, 1) := by decide +kernel
theorem d_N_fid_23 : decode b_N_fid 23 = .ok (.iadd, 1) := by decide +kernel
theorem d_N_fid_24 : decode b_N_fid 24 = .ok (.istore_n 3, 1) := by decide +kernel
theorem d_N_fid_25 : decode b_N_fid 25 = .ok (.aload_n 0, 1) := by decide +kernel
theorem d_N_fid_26 : decode b_N_fid 26 = .ok (.getfield 54, 3) := by decide +kernel
theorem d_N_fid_29 : decode b_N_fid 29 = .ok (.iload_n 3, 1) := by decide +kernel
theorem d_N_fid_30 : decode b_N_fid 30 = .ok (.iaload, 1) := by decide +kernel
theorem d_N_fid_31 : decode b_N_fid 31 = .ok (.ifCond .ge 5, 3) := by decide +kernel
theorem d_N_fid_34 : decode b_N_fid 34 = .ok (.iconst 0, 1) := by decide +kernel
theorem d_N_fid_35 : decode b_N_fid 35 = .ok (.ireturn, 1) := by decide +kernel
theorem d_N_fid_36 : decode b_N_fid 36 = .ok (.aload_n 0, 1) := by decide +kernel
theorem d_N_fid_37 : decode b_N_fid 37 = .ok (.getfield 63, 3) := by decide +kernel
theorem d_N_fid_40 : decode b_N_fid 40 = .ok (.iload_n 3, 1) := by decide +kernel
theorem d_N_fid_41 : decode b_N_fid 41 = .ok (.iaload, 1) := by decide +kernel
theorem d_N_fid_42 : decode b_N_fid 42 = .ok (.ifCond .lt 7, 3) := by decide +kernel
theorem d_N_fid_45 : decode b_N_fid 45 = .ok (.iconst 2, 1) := by decide +kernel
theorem d_N_fid_46 : decode b_N_fid 46 = .ok (.goto 4, 3) := by decide +kernel
theorem d_N_fid_49 : decode b_N_fid 49 = .ok (.iconst 1, 1) := by decide +kernel
theorem d_N_fid_50 : decode b_N_fid 50 = .ok (.aload_n 0, 1) := by decide +kernel
theorem d_N_fid_51 : decode b_N_fid 51 = .ok (.getfield 57, 3) := by decide +kernel
theorem d_N_fid_54 : decode b_N_fid 54 = .ok (.iload_n 3, 1) := by decide +kernel
theorem d_N_fid_55 : decode b_N_fid 55 = .ok (.iaload, 1) := by decide +kernel
theorem d_N_fid_56 : decode b_N_fid 56 = .ok (.ifCond .eq 7, 3) := by decide +kernel
theorem d_N_fid_59 : decode b_N_fid 59 = .ok (.iconst 4, 1) := by decide +kernel
theorem d_N_fid_60 : decode b_N_fid 60 = .ok (.goto 4, 3) := by decide +kernel
theorem d_N_fid_63 : decode b_N_fid 63 = .ok (.iconst 0, 1) := by decide +kernel
theorem d_N_fid_64 : decode b_N_fid 64 = .ok (.iadd, 1) := by decide +kernel
theorem d_N_fid_65 : decode b_N_fid 65 = .ok (.ireturn, 1) := by decide +kernel
theorem ct_N_fid (E : mm_En) (C : Nat → Nat → Int32) {c f : Nat} (hc : c < 2) (hf : f < 6) : mm_MT E K_N_fid [.ref 204, .int (nI c), .int (nI f)] (hp_H C) (mm_D (some (.int (nf_v C (6 * c + f)))) C) := by
  refine mm_mtL (by decide) (by rfl) (Nat.le_of_ble_eq_true rfl) rfl ?_
  refine ev_iload_n (pc := 0) d_N_fid_0 rfl rfl ?_
  refine ev_cS (pc := 1) (ct_N_isOneT E C hc) cl_N_99 js_N_isOne ⟨(Nat.le_of_ble_eq_true rfl), (Nat.le_of_ble_eq_true rfl)⟩ rfl rfl (Nat.le_of_ble_eq_true rfl) d_N_fid_1 ⟨Nat.zero_le _, Nat.zero_le _⟩ ?_
  refine ev_if_eq (pc := 4) (tgt := 16) d_N_fid_4 (by decide) (fun ha => ?_) (fun ha => ?_)
  · exact absurd ha (by decide)
  refine ev_iload_n (pc := 7) d_N_fid_7 rfl rfl ?_
  refine ev_if_lt (pc := 8) (tgt := 16) d_N_fid_8 (by decide) (fun ha => ?_) (fun ha => ?_)
  · exact absurd ha (nI_pos (by omega))
  refine ev_iload_n (pc := 11) d_N_fid_11 rfl rfl ?_
  refine ev_iconst (pc := 12) (v := 5) d_N_fid_12 rfl ?_
  refine ev_icmp_le (pc := 13) (tgt := 18) d_N_fid_13 (by decide) (fun ha => ?_) (fun ha => ?_)
  rotate_left
  · exact absurd (show nI f ≤ nI 5 from nI_le (by omega) (by decide)) ha
  refine ev_bipush (pc := 18) (v := nI 6) d_N_fid_18 (by decide) ?_
  refine ev_iload_n (pc := 20) d_N_fid_20 rfl rfl ?_
  first | refine ev_imulN (pc := 21) d_N_fid_21 ?_ | refine ev_imul (pc := 21) d_N_fid_21 ?_
  refine ev_iload_n (pc := 22) d_N_fid_22 rfl rfl ?_
  first | refine ev_iaddN (pc := 23) d_N_fid_23 ?_ | refine ev_iadd (pc := 23) d_N_fid_23 ?_
  refine ev_istore_n (pc := 24) d_N_fid_24 rfl (Nat.le_of_ble_eq_true rfl) rfl ?_
  try dsimp only [List.set]
  refine ev_aload_n (pc := 25) d_N_fid_25 rfl rfl (by first | rfl | exact mm_rk_rf _) ?_
  refine ev_gR (pc := 26) sh_N (by rfl) fl_N_54 d_N_fid_26 ?_
  refine ev_iload_n (pc := 29) d_N_fid_29 rfl rfl ?_
  refine ev_rIN (pc := 30) sh_N_user (by omega) (by decide) d_N_fid_30 ?_
  refine ev_if_ge (pc := 31) (tgt := 36) d_N_fid_31 (by decide) (fun hb => ?_) (fun hb => ?_)
  rotate_left
  · have hb' : C 217 (6 * c + f) < 0 := Int32.not_le.mp hb
    refine ev_iconst (pc := 34) (v := 0) d_N_fid_34 rfl ?_
    exact ev_iret (pc := 35) d_N_fid_35 rfl (Nat.zero_le _) (Nat.zero_le _) ⟨by rw [nf_v, if_pos hb'], rfl⟩
  have hb' : ¬ C 217 (6 * c + f) < 0 := Int32.not_lt.mpr hb
  refine ev_aload_n (pc := 36) d_N_fid_36 rfl rfl (by first | rfl | exact mm_rk_rf _) ?_
  refine ev_gR (pc := 37) sh_N (by rfl) fl_N_63 d_N_fid_37 ?_
  refine ev_iload_n (pc := 40) d_N_fid_40 rfl rfl ?_
  refine ev_rIN (pc := 41) sh_N_openMode (by omega) (by decide) d_N_fid_41 ?_
  refine ev_if_lt (pc := 42) (tgt := 49) d_N_fid_42 (by decide) (fun hc42 => ?_) (fun hc42 => ?_)
  · refine ev_iconst (pc := 49) (v := 1) d_N_fid_49 rfl ?_
    refine ev_aload_n (pc := 50) d_N_fid_50 rfl rfl (by first | rfl | exact mm_rk_rf _) ?_
    refine ev_gR (pc := 51) sh_N (by rfl) fl_N_57 d_N_fid_51 ?_
    refine ev_iload_n (pc := 54) d_N_fid_54 rfl rfl ?_
    refine ev_rIN (pc := 55) sh_N_tree (by omega) (by decide) d_N_fid_55 ?_
    refine ev_if_eq (pc := 56) (tgt := 63) d_N_fid_56 (by decide) (fun hc56 => ?_) (fun hc56 => ?_)
    · refine ev_iconst (pc := 63) (v := 0) d_N_fid_63 rfl ?_
      first | refine ev_iaddN (pc := 64) d_N_fid_64 ?_ | refine ev_iadd (pc := 64) d_N_fid_64 ?_
      exact ev_iret (pc := 65) d_N_fid_65 rfl (Nat.zero_le _) (Nat.zero_le _) ⟨by rw [nf_v, if_neg hb']; first | rw [if_pos hc42, if_pos hc56]; rfl | rw [if_neg hc42, if_pos hc56]; rfl | rw [if_pos hc42, if_neg hc56]; rfl | rw [if_neg hc42, if_neg hc56]; rfl, rfl⟩
    · refine ev_iconst (pc := 59) (v := nI 4) d_N_fid_59 rfl ?_
      refine ev_goto (pc := 60) (tgt := 64) d_N_fid_60 (by decide) ?_
      first | refine ev_iaddN (pc := 64) d_N_fid_64 ?_ | refine ev_iadd (pc := 64) d_N_fid_64 ?_
      exact ev_iret (pc := 65) d_N_fid_65 rfl (Nat.zero_le _) (Nat.zero_le _) ⟨by rw [nf_v, if_neg hb']; first | rw [if_pos hc42, if_pos hc56]; rfl | rw [if_neg hc42, if_pos hc56]; rfl | rw [if_pos hc42, if_neg hc56]; rfl | rw [if_neg hc42, if_neg hc56]; rfl, rfl⟩
  · refine ev_iconst (pc := 45) (v := nI 2) d_N_fid_45 rfl ?_
    refine ev_goto (pc := 46) (tgt := 50) d_N_fid_46 (by decide) ?_
    refine ev_aload_n (pc := 50) d_N_fid_50 rfl rfl (by first | rfl | exact mm_rk_rf _) ?_
    refine ev_gR (pc := 51) sh_N (by rfl) fl_N_57 d_N_fid_51 ?_
    refine ev_iload_n (pc := 54) d_N_fid_54 rfl rfl ?_
    refine ev_rIN (pc := 55) sh_N_tree (by omega) (by decide) d_N_fid_55 ?_
    refine ev_if_eq (pc := 56) (tgt := 63) d_N_fid_56 (by decide) (fun hc56 => ?_) (fun hc56 => ?_)
    · refine ev_iconst (pc := 63) (v := 0) d_N_fid_63 rfl ?_
      first | refine ev_iaddN (pc := 64) d_N_fid_64 ?_ | refine ev_iadd (pc := 64) d_N_fid_64 ?_
      exact ev_iret (pc := 65) d_N_fid_65 rfl (Nat.zero_le _) (Nat.zero_le _) ⟨by rw [nf_v, if_neg hb']; first | rw [if_pos hc42, if_pos hc56]; rfl | rw [if_neg hc42, if_pos hc56]; rfl | rw [if_pos hc42, if_neg hc56]; rfl | rw [if_neg hc42, if_neg hc56]; rfl, rfl⟩
    · refine ev_iconst (pc := 59) (v := nI 4) d_N_fid_59 rfl ?_
      refine ev_goto (pc := 60) (tgt := 64) d_N_fid_60 (by decide) ?_
      first | refine ev_iaddN (pc := 64) d_N_fid_64 ?_ | refine ev_iadd (pc := 64) d_N_fid_64 ?_
      exact ev_iret (pc := 65) d_N_fid_65 rfl (Nat.zero_le _) (Nat.zero_le _) ⟨by rw [nf_v, if_neg hb']; first | rw [if_pos hc42, if_pos hc56]; rfl | rw [if_neg hc42, if_pos hc56]; rfl | rw [if_pos hc42, if_neg hc56]; rfl | rw [if_neg hc42, if_neg hc56]; rfl, rfl⟩
theorem ct_N_fidN (E : mm_En) (C : Nat → Nat → Int32) {x y : Int32} (hx : (x < 0 ∨ 2 ≤ x) ∨ (y < 0 ∨ 6 ≤ y)) : mm_MT E K_N_fid [.ref 204, .int x, .int y] (hp_H C) (mm_D (some (.int (-1))) C) := by
  rcases ix_or x (n := 2) (by decide) with ⟨c, hc, rfl⟩ | hn
  · refine mm_mtL (by decide) (by rfl) (Nat.le_of_ble_eq_true rfl) rfl ?_
    refine ev_iload_n (pc := 0) d_N_fid_0 rfl rfl ?_
    refine ev_cS (pc := 1) (ct_N_isOneT E C hc) cl_N_99 js_N_isOne ⟨(Nat.le_of_ble_eq_true rfl), (Nat.le_of_ble_eq_true rfl)⟩ rfl rfl (Nat.le_of_ble_eq_true rfl) d_N_fid_1 ⟨Nat.zero_le _, Nat.zero_le _⟩ ?_
    refine ev_if_eq (pc := 4) (tgt := 16) d_N_fid_4 (by decide) (fun ha => ?_) (fun ha => ?_)
    · exact absurd ha (by decide)
    refine ev_iload_n (pc := 7) d_N_fid_7 rfl rfl ?_
    refine ev_if_lt (pc := 8) (tgt := 16) d_N_fid_8 (by decide) (fun hb => ?_) (fun hb => ?_)
    · refine ev_iconst (pc := 16) (v := -1) d_N_fid_16 rfl ?_
      exact ev_iret (pc := 17) d_N_fid_17 rfl (Nat.zero_le _) (Nat.zero_le _) ⟨rfl, rfl⟩
    refine ev_iload_n (pc := 11) d_N_fid_11 rfl rfl ?_
    refine ev_iconst (pc := 12) (v := 5) d_N_fid_12 rfl ?_
    refine ev_icmp_le (pc := 13) (tgt := 18) d_N_fid_13 (by decide) (fun hd => ?_) (fun hd => ?_)
    rotate_left
    · refine ev_iconst (pc := 16) (v := -1) d_N_fid_16 rfl ?_
      exact ev_iret (pc := 17) d_N_fid_17 rfl (Nat.zero_le _) (Nat.zero_le _) ⟨rfl, rfl⟩
    rcases hx with (z | z) | z
    · exact absurd z (nI_pos (by omega))
    · exact absurd z (nI_ge hc (by decide))
    · exact (nx_gt (n := 5) z (by decide) hb (Int32.not_lt.mpr hd)).elim
  · refine mm_mtL (by decide) (by rfl) (Nat.le_of_ble_eq_true rfl) rfl ?_
    refine ev_iload_n (pc := 0) d_N_fid_0 rfl rfl ?_
    refine ev_cS (pc := 1) (ct_N_isOneF E C hn) cl_N_99 js_N_isOne ⟨(Nat.le_of_ble_eq_true rfl), (Nat.le_of_ble_eq_true rfl)⟩ rfl rfl (Nat.le_of_ble_eq_true rfl) d_N_fid_1 ⟨Nat.zero_le _, Nat.zero_le _⟩ ?_
    refine ev_if_eq (pc := 4) (tgt := 16) d_N_fid_4 (by decide) (fun ha => ?_) (fun ha => ?_)
    · refine ev_iconst (pc := 16) (v := -1) d_N_fid_16 rfl ?_
      exact ev_iret (pc := 17) d_N_fid_17 rfl (Nat.zero_le _) (Nat.zero_le _) ⟨rfl, rfl⟩
    · exact absurd rfl ha
def nf_2 (C : Nat → Nat → Int32) (a0 b0 n : Nat) : Nat → Nat → Int32 := fun a j => if a = a0 ∧ b0 ≤ j ∧ j < n then -1 else C a j
theorem nf_2s (C : Nat → Nat → Int32) {a0 b0 n : Nat} (h : b0 ≤ n) : cs_C (nf_2 C a0 b0 n) a0 n (-1) = nf_2 C a0 b0 (n + 1) := by
  funext a j
  simp only [cs_app, nf_2]
  grind
theorem nf_20 (C : Nat → Nat → Int32) (a0 b0 : Nat) : nf_2 C a0 b0 b0 = C := by
  funext a j
  simp only [nf_2]
  grind
/-- free: no fid is in use, no request waits, nothing is said or replied -/
def nf_C (C : Nat → Nat → Int32) : Nat → Nat → Int32 := cs_C (cs_C (nf_2 (nf_2 C 217 0 12) 222 0 16) 204 24 0) 204 26 0
theorem d_N_free_0 : decode b_N_free 0 = .ok (.iconst 0, 1) := by decide +kernel
theorem d_N_free_1 : decode b_N_free 1 = .ok (.istore_n 1, 1) := by decide +kernel
theorem d_N_free_2 : decode b_N_free 2 = .ok (.iload_n 1, 1) := by decide +kernel
theorem d_N_free_3 : decode b_N_free 3 = .ok (.bipush 12, 2) := by decide +kernel
theorem d_N_free_5 : decode b_N_free 5 = .ok (.if_icmp .ge 16, 3) := by decide +kernel
theorem d_N_free_8 : decode b_N_free 8 = .ok (.aload_n 0, 1) := by decide +kernel
theorem d_N_free_9 : decode b_N_free 9 = .ok (.getfield 54, 3) := by decide +kernel
theorem d_N_free_12 : decode b_N_free 12 = .ok (.iload_n 1, 1) := by decide +kernel
theorem d_N_free_13 : decode b_N_free 13 = .ok (.iconst (-1), 1) := by decide +kernel
theorem d_N_free_14 : decode b_N_free 14 = .ok (.iastore, 1) := by decide +kernel
theorem d_N_free_15 : decode b_N_free 15 = .ok (.iinc 1 1, 3) := by decide +kernel
theorem d_N_free_18 : decode b_N_free 18 = .ok (.goto (-16), 3) := by decide +kernel
theorem d_N_free_21 : decode b_N_free 21 = .ok (.iconst 0, 1) := by decide +kernel
theorem d_N_free_22 : decode b_N_free 22 = .ok (.istore_n 1, 1) := by decide +kernel
theorem d_N_free_23 : decode b_N_free 23 = .ok (.iload_n 1, 1) := by decide +kernel
theorem d_N_free_24 : decode b_N_free 24 = .ok (.bipush 16, 2) := by decide +kernel
theorem d_N_free_26 : decode b_N_free 26 = .ok (.if_icmp .ge 16, 3) := by decide +kernel
theorem d_N_free_29 : decode b_N_free 29 = .ok (.aload_n 0, 1) := by decide +kernel
theorem d_N_free_30 : decode b_N_free 30 = .ok (.getfield 69, 3) := by decide +kernel
theorem d_N_free_33 : decode b_N_free 33 = .ok (.iload_n 1, 1) := by decide +kernel
theorem d_N_free_34 : decode b_N_free 34 = .ok (.iconst (-1), 1) := by decide +kernel
theorem d_N_free_35 : decode b_N_free 35 = .ok (.iastore, 1) := by decide +kernel
theorem d_N_free_36 : decode b_N_free 36 = .ok (.iinc 1 1, 3) := by decide +kernel
theorem d_N_free_39 : decode b_N_free 39 = .ok (.goto (-16), 3) := by decide +kernel
theorem d_N_free_42 : decode b_N_free 42 = .ok (.aload_n 0, 1) := by decide +kernel
theorem d_N_free_43 : decode b_N_free 43 = .ok (.iconst 0, 1) := by decide +kernel
theorem d_N_free_44 : decode b_N_free 44 = .ok (.putfield 93, 3) := by decide +kernel
theorem d_N_free_47 : decode b_N_free 47 = .ok (.aload_n 0, 1) := by decide +kernel
theorem d_N_free_48 : decode b_N_free 48 = .ok (.iconst 0, 1) := by decide +kernel
theorem d_N_free_49 : decode b_N_free 49 = .ok (.putfield 96, 3) := by decide +kernel
theorem d_N_free_52 : decode b_N_free 52 = .ok (.return_, 1) := by decide +kernel
set_option maxRecDepth 20000 in
theorem ct_N_free (E : mm_En) (C : Nat → Nat → Int32) : mm_MT E K_N_free [.ref 204] (hp_H C) (mm_D none (nf_C C)) := by
  have loop2 : ∀ d i : Nat, i + d = 16 → ev_At E K_N_free 23 [some (.ref 204), some (.int (nI i))] [] (hp_H (nf_2 (nf_2 C 217 0 12) 222 0 i)) 0 0 (mm_D none (nf_C C)) := by
    intro d
    induction d with
    | zero =>
      intro i hi
      have hi8 : i = 16 := by omega
      subst hi8
      refine ev_iload_n (pc := 23) d_N_free_23 rfl rfl ?_
      refine ev_bipush (pc := 24) (v := 16) d_N_free_24 (by decide) ?_
      refine ev_icmp_ge (pc := 26) (tgt := 42) d_N_free_26 (by decide) (fun ha => ?_) (fun ha => ?_)
      · refine ev_aload_n (pc := 42) d_N_free_42 rfl rfl (by first | rfl | exact mm_rk_rf _) ?_
        refine ev_iconst (pc := 43) (v := 0) d_N_free_43 rfl ?_
        refine ev_pI (pc := 44) sh_N (by rfl) fl_N_93 fw_9_24 (by rfl) d_N_free_44 ?_
        refine ev_aload_n (pc := 47) d_N_free_47 rfl rfl (by first | rfl | exact mm_rk_rf _) ?_
        refine ev_iconst (pc := 48) (v := 0) d_N_free_48 rfl ?_
        refine ev_pI (pc := 49) sh_N (by rfl) fl_N_96 fw_9_26 (by rfl) d_N_free_49 ?_
        exact ev_vret (pc := 52) d_N_free_52 rfl (Nat.zero_le _) (Nat.zero_le _) ⟨rfl, rfl⟩
      · exact absurd (Int32.le_refl _) ha
    | succ d ih =>
      intro i hi
      refine ev_iload_n (pc := 23) d_N_free_23 rfl rfl ?_
      refine ev_bipush (pc := 24) (v := 16) d_N_free_24 (by decide) ?_
      refine ev_icmp_ge (pc := 26) (tgt := 42) d_N_free_26 (by decide) (fun ha => ?_) (fun ha => ?_)
      · exact absurd ha (nI_ge (b := 16) (by omega) (by omega))
      refine ev_aload_n (pc := 29) d_N_free_29 rfl rfl (by first | rfl | exact mm_rk_rf _) ?_
      refine ev_gR (pc := 30) sh_N (by rfl) fl_N_69 d_N_free_30 ?_
      refine ev_iload_n (pc := 33) d_N_free_33 rfl rfl ?_
      refine ev_iconst (pc := 34) (v := -1) d_N_free_34 rfl ?_
      refine ev_wIN (pc := 35) sh_N_kind (by omega) (by decide) d_N_free_35 ?_
      refine ev_iinc (pc := 36) d_N_free_36 (Nat.le_of_ble_eq_true rfl) rfl (nx_inc _) rfl ?_
      try dsimp only [List.set]
      refine ev_goto (pc := 39) (tgt := 23) d_N_free_39 (by decide) ?_
      rw [nf_2s _ (Nat.zero_le _)]
      exact ih (i + 1) (by omega)
  have loop1 : ∀ d i : Nat, i + d = 12 → ev_At E K_N_free 2 [some (.ref 204), some (.int (nI i))] [] (hp_H (nf_2 C 217 0 i)) 0 0 (mm_D none (nf_C C)) := by
    intro d
    induction d with
    | zero =>
      intro i hi
      have hi8 : i = 12 := by omega
      subst hi8
      refine ev_iload_n (pc := 2) d_N_free_2 rfl rfl ?_
      refine ev_bipush (pc := 3) (v := 12) d_N_free_3 (by decide) ?_
      refine ev_icmp_ge (pc := 5) (tgt := 21) d_N_free_5 (by decide) (fun ha => ?_) (fun ha => ?_)
      · refine ev_iconst (pc := 21) (v := 0) d_N_free_21 rfl ?_
        refine ev_istore_n (pc := 22) d_N_free_22 rfl (Nat.le_of_ble_eq_true rfl) rfl ?_
        try dsimp only [List.set]
        have h1 := loop2 16 0 (by omega)
        rw [nf_20] at h1
        exact h1
      · exact absurd (Int32.le_refl _) ha
    | succ d ih =>
      intro i hi
      refine ev_iload_n (pc := 2) d_N_free_2 rfl rfl ?_
      refine ev_bipush (pc := 3) (v := 12) d_N_free_3 (by decide) ?_
      refine ev_icmp_ge (pc := 5) (tgt := 21) d_N_free_5 (by decide) (fun ha => ?_) (fun ha => ?_)
      · exact absurd ha (nI_ge (b := 12) (by omega) (by omega))
      refine ev_aload_n (pc := 8) d_N_free_8 rfl rfl (by first | rfl | exact mm_rk_rf _) ?_
      refine ev_gR (pc := 9) sh_N (by rfl) fl_N_54 d_N_free_9 ?_
      refine ev_iload_n (pc := 12) d_N_free_12 rfl rfl ?_
      refine ev_iconst (pc := 13) (v := -1) d_N_free_13 rfl ?_
      refine ev_wIN (pc := 14) sh_N_user (by omega) (by decide) d_N_free_14 ?_
      refine ev_iinc (pc := 15) d_N_free_15 (Nat.le_of_ble_eq_true rfl) rfl (nx_inc _) rfl ?_
      try dsimp only [List.set]
      refine ev_goto (pc := 18) (tgt := 2) d_N_free_18 (by decide) ?_
      rw [nf_2s _ (Nat.zero_le _)]
      exact ih (i + 1) (by omega)
  refine mm_mtL (by decide) (by rfl) (Nat.le_of_ble_eq_true rfl) rfl ?_
  refine ev_iconst (pc := 0) (v := 0) d_N_free_0 rfl ?_
  refine ev_istore_n (pc := 1) d_N_free_1 rfl (Nat.le_of_ble_eq_true rfl) rfl ?_
  try dsimp only [List.set]
  have h1 := loop1 12 0 (by omega)
  rw [nf_20] at h1
  exact h1
