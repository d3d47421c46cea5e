/-! The reference, at the cell 204: rows for its arrays, and indices as naturals. -/
theorem nI_mul (a b : Nat) : nI a * nI b = nI (a * b) := (Int32.ofNat_mul a b).symm
theorem nI_div {a b : Nat} (ha : a < 2 ^ 31) (hb : 0 < b ∧ b < 2 ^ 31) : nI a / nI b = nI (a / b) := by
  have h1 : a / b ≤ a := Nat.div_le_self a b
  apply Int32.toInt_inj.mp
  rw [Int32.toInt_div, nI_toInt ha, nI_toInt hb.2, nI_toInt (by omega), ← Int.ofNat_tdiv]
  have h2 : 0 ≤ ((a / b : Nat) : Int) := Int.natCast_nonneg _
  generalize a / b = q at *
  rw [Int.bmod_eq_of_le_mul_two (by omega) (by omega)]
theorem nI_sub {a b : Nat} (h : b ≤ a) : nI a - nI b = nI (a - b) := by
  have h1 : nI (a - b) + nI b = nI a := by rw [nI_add, Nat.sub_add_cancel h]
  rw [← h1, Int32.add_sub_cancel]
theorem nI_rem {a b : Nat} (ha : a < 2 ^ 31) (hb : 0 < b ∧ b < 2 ^ 31) : nI a - nI a / nI b * nI b = nI (a % b) := by
  have h2 : a / b * b ≤ a := Nat.div_mul_le_self a b
  rw [nI_div ha hb, nI_mul, nI_sub h2]
  congr 1
  have h3 := Nat.div_add_mod a b
  rw [Nat.mul_comm] at h3
  omega
section EVN
variable {E : mm_En} {K : mm_KI} {pc : Nat} {L : List (Option Value)} {rest : List Value} {C : Nat → Nat → Int32} {h : mm_H} {uc us : Nat} {Q : Option Value → mm_H → Prop}
theorem ev_iaddN {a b : Nat} (hdg : decode K.2.1 pc = .ok (.iadd, 1)) (k : ev_At E K (pc + 1) L (.int (nI (a + b)) :: rest) h uc us Q) : ev_At E K pc L (.int (nI b) :: .int (nI a) :: rest) h uc us Q := ev_iadd hdg (by rw [nI_add]; exact k)
theorem ev_imulN {a b : Nat} (hdg : decode K.2.1 pc = .ok (.imul, 1)) (k : ev_At E K (pc + 1) L (.int (nI (a * b)) :: rest) h uc us Q) : ev_At E K pc L (.int (nI b) :: .int (nI a) :: rest) h uc us Q := ev_imul hdg (by rw [nI_mul]; exact k)
theorem ev_idivN {a b : Nat} (hdg : decode K.2.1 pc = .ok (.idiv, 1)) (ha : a < 2 ^ 31) (hb : 0 < b ∧ b < 2 ^ 31) (k : ev_At E K (pc + 1) L (.int (nI (a / b)) :: rest) h uc us Q) : ev_At E K pc L (.int (nI b) :: .int (nI a) :: rest) h uc us Q := ev_idiv hdg (nI_ne0 hb.1 hb.2) (by rw [nI_div ha hb]; exact k)
theorem ev_iremN {a b : Nat} (hdg : decode K.2.1 pc = .ok (.irem, 1)) (ha : a < 2 ^ 31) (hb : 0 < b ∧ b < 2 ^ 31) (k : ev_At E K (pc + 1) L (.int (nI (a % b)) :: rest) h uc us Q) : ev_At E K pc L (.int (nI b) :: .int (nI a) :: rest) h uc us Q := ev_irem hdg (nI_ne0 hb.1 hb.2) (by rw [nI_rem ha hb]; exact k)
theorem ev_rIN {i n j : Nat} {rs : List Nat} (hs : hp_S[i]? = some (.inl (0, n, rs))) (hin : j < n) (hn : n < 2 ^ 31) (hdg : decode K.2.1 pc = .ok (.iaload, 1)) (kk : ev_At E K (pc + 1) L (.int (C i j) :: rest) (hp_H C) uc us Q) : ev_At E K pc L (.int (nI j) :: .ref i :: rest) (hp_H C) uc us Q :=
  ev_rI hs (vp_in_nI hin hn) hdg (by rw [nI_clamp (Nat.lt_trans hin hn)]; exact kk)
theorem ev_rZN {i n j : Nat} {rs : List Nat} (hs : hp_S[i]? = some (.inl (1, n, rs))) (hin : j < n) (hn : n < 2 ^ 31) (hdg : decode K.2.1 pc = .ok (.baload, 1)) (kk : ev_At E K (pc + 1) L (.int (C i j) :: rest) (hp_H C) uc us Q) : ev_At E K pc L (.int (nI j) :: .ref i :: rest) (hp_H C) uc us Q :=
  ev_rZ hs (vp_in_nI hin hn) hdg (by rw [nI_clamp (Nat.lt_trans hin hn)]; exact kk)
theorem ev_wIN {i n j : Nat} {y : Int32} {rs : List Nat} (hs : hp_S[i]? = some (.inl (0, n, rs))) (hin : j < n) (hn : n < 2 ^ 31) (hdg : decode K.2.1 pc = .ok (.iastore, 1)) (kk : ev_At E K (pc + 1) L rest (hp_H (cs_C C i j y)) uc us Q) : ev_At E K pc L (.int y :: .int (nI j) :: .ref i :: rest) (hp_H C) uc us Q :=
  ev_wI hs (vp_in_nI hin hn) hdg (by rw [nI_clamp (Nat.lt_trans hin hn)]; exact kk)
theorem ev_wZN {i n j : Nat} {y w : Int32} {rs : List Nat} (hs : hp_S[i]? = some (.inl (1, n, rs))) (hin : j < n) (hn : n < 2 ^ 31) (hw : vp_nar .boolean y = w) (hdg : decode K.2.1 pc = .ok (.bastore, 1)) (kk : ev_At E K (pc + 1) L rest (hp_H (cs_C C i j w)) uc us Q) : ev_At E K pc L (.int y :: .int (nI j) :: .ref i :: rest) (hp_H C) uc us Q :=
  ev_wZ hs (vp_in_nI hin hn) hw hdg (by rw [nI_clamp (Nat.lt_trans hin hn)]; exact kk)
end EVN
/-- a number, or -1 -/
def oI : Option Nat → Int32
  | none => -1
  | some k => nI k
theorem d_N_isOne_0 : decode b_N_isOne 0 = .ok (.iload_n 0, 1) := by decide +kernel
theorem d_N_isOne_1 : decode b_N_isOne 1 = .ok (.ifCond .eq 8, 3) := by decide +kernel
theorem d_N_isOne_4 : decode b_N_isOne 4 = .ok (.iload_n 0, 1) := by decide +kernel
theorem d_N_isOne_5 : decode b_N_isOne 5 = .ok (.iconst 1, 1) := by decide +kernel
theorem d_N_isOne_6 : decode b_N_isOne 6 = .ok (.if_icmp .ne 7, 3) := by decide +kernel
theorem d_N_isOne_9 : decode b_N_isOne 9 = .ok (.iconst 1, 1) := by decide +kernel
theorem d_N_isOne_10 : decode b_N_isOne 10 = .ok (.goto 4, 3) := by decide +kernel
theorem d_N_isOne_13 : decode b_N_isOne 13 = .ok (.iconst 0, 1) := by decide +kernel
theorem d_N_isOne_14 : decode b_N_isOne 14 = .ok (.ireturn, 1) := by decide +kernel
theorem ct_N_isOne (E : mm_En) (C : Nat → Nat → Int32) (x : Int32) : mm_MT E K_N_isOne [.int x] (hp_H C) (mm_D (some (.int (b2_P (x = 0 ∨ x = 1)))) C) := by
  refine mm_mtL (by decide) (by rfl) (Nat.le_of_ble_eq_true rfl) rfl ?_
  refine ev_iload_n (pc := 0) d_N_isOne_0 rfl rfl ?_
  refine ev_if_eq (pc := 1) (tgt := 9) d_N_isOne_1 (by decide) (fun hc1 => ?_) (fun hc1 => ?_)
  · refine ev_iconst (pc := 9) (v := 1) d_N_isOne_9 rfl ?_
    refine ev_goto (pc := 10) (tgt := 14) d_N_isOne_10 (by decide) ?_
    exact ev_zret (pc := 14) d_N_isOne_14 rfl (by first | exact Or.inl rfl | exact Or.inr rfl | assumption) (Nat.zero_le _) (Nat.zero_le _) ⟨by first | rw [b2_t (by grind)] | rw [b2_f (by grind)], rfl⟩
  · refine ev_iload_n (pc := 4) d_N_isOne_4 rfl rfl ?_
    refine ev_iconst (pc := 5) (v := 1) d_N_isOne_5 rfl ?_
    refine ev_icmp_ne (pc := 6) (tgt := 13) d_N_isOne_6 (by decide) (fun hc6 => ?_) (fun hc6 => ?_)
    · refine ev_iconst (pc := 13) (v := 0) d_N_isOne_13 rfl ?_
      exact ev_zret (pc := 14) d_N_isOne_14 rfl (by first | exact Or.inl rfl | exact Or.inr rfl | assumption) (Nat.zero_le _) (Nat.zero_le _) ⟨by first | rw [b2_t (by grind)] | rw [b2_f (by grind)], rfl⟩
    · refine ev_iconst (pc := 9) (v := 1) d_N_isOne_9 rfl ?_
      refine ev_goto (pc := 10) (tgt := 14) d_N_isOne_10 (by decide) ?_
      exact ev_zret (pc := 14) d_N_isOne_14 rfl (by first | exact Or.inl rfl | exact Or.inr rfl | assumption) (Nat.zero_le _) (Nat.zero_le _) ⟨by first | rw [b2_t (by grind)] | rw [b2_f (by grind)], rfl⟩
theorem ct_N_isOneT (E : mm_En) (C : Nat → Nat → Int32) {c : Nat} (hc : c < 2) : mm_MT E K_N_isOne [.int (nI c)] (hp_H C) (mm_D (some (.int 1)) C) := by
  have h1 := ct_N_isOne E C (nI c)
  rw [b2_t (show nI c = 0 ∨ nI c = 1 by rcases (show c = 0 ∨ c = 1 by omega) with rfl | rfl <;> decide)] at h1
  exact h1
theorem ct_N_isOneF (E : mm_En) (C : Nat → Nat → Int32) {x : Int32} (hx : x < 0 ∨ 2 ≤ x) : mm_MT E K_N_isOne [.int x] (hp_H C) (mm_D (some (.int 0)) C) := by
  have h1 := ct_N_isOne E C x
  rw [b2_f (show ¬ (x = 0 ∨ x = 1) from fun z => by
    rcases z with rfl | rfl <;> revert hx <;> decide)] at h1
  exact h1
theorem d_N_member_0 : decode b_N_member 0 = .ok (.iload_n 1, 1) := by decide +kernel
theorem d_N_member_1 : decode b_N_member 1 = .ok (.ifCond .lt 30, 3) := by decide +kernel
theorem d_N_member_4 : decode b_N_member 4 = .ok (.iload_n 1, 1) := by decide +kernel
theorem d_N_member_5 : decode b_N_member 5 = .ok (.iconst 3, 1) := by decide +kernel
theorem d_N_member_6 : decode b_N_member 6 = .ok (.if_icmp .gt 25, 3) := by decide +kernel
theorem d_N_member_9 : decode b_N_member 9 = .ok (.iload_n 2, 1) := by decide +kernel
theorem d_N_member_10 : decode b_N_member 10 = .ok (.ifCond .lt 21, 3) := by decide +kernel
theorem d_N_member_13 : decode b_N_member 13 = .ok (.iload_n 2, 1) := by decide +kernel
theorem d_N_member_14 : decode b_N_member 14 = .ok (.iconst 3, 1) := by decide +kernel
theorem d_N_member_15 : decode b_N_member 15 = .ok (.if_icmp .gt 16, 3) := by decide +kernel
theorem d_N_member_18 : decode b_N_member 18 = .ok (.aload_n 0, 1) := by decide +kernel
theorem d_N_member_19 : decode b_N_member 19 = .ok (.getfield 7, 3) := by decide +kernel
theorem d_N_member_22 : decode b_N_member 22 = .ok (.iconst 4, 1) := by decide +kernel
theorem d_N_member_23 : decode b_N_member 23 = .ok (.iload_n 1, 1) := by decide +kernel
theorem d_N_member_24 : decode b_N_member 24 = .ok (.imul, 1) := by decide +kernel
theorem d_N_member_25 : decode b_N_member 25 = .ok (.iload_n 2, 1) := by decide +kernel
theorem d_N_member_26 : decode b_N_member 26 = .ok (.iadd, 1) := by decide +kernel
theorem d_N_member_27 : decode b_N_member 27 = .ok (.baload, 1) := by decide +kernel
theorem d_N_member_28 : decode b_N_member 28 = .ok (.ifCond .eq 5, 3) := by decide +kernel
theorem d_N_member_31 : decode b_N_member 31 = .ok (.iconst 0, 1) := by decide +kernel
theorem d_N_member_32 : decode b_N_member 32 = .ok (.ireturn, 1) := by decide +kernel
theorem d_N_member_33 : decode b_N_member 33 = .ok (.aload_n 0, 1) := by decide +kernel
theorem d_N_member_34 : decode b_N_member 34 = .ok (.getfield 7, 3) := by decide +kernel
theorem d_N_member_37 : decode b_N_member 37 = .ok (.iconst 4, 1) := by decide +kernel
theorem d_N_member_38 : decode b_N_member 38 = .ok (.iload_n 1, 1) := by decide +kernel
theorem d_N_member_39 : decode b_N_member 39 = .ok (.imul, 1) := by decide +kernel
theorem d_N_member_40 : decode b_N_member 40 = .ok (.iload_n 2, 1) := by decide +kernel
theorem d_N_member_41 : decode b_N_member 41 = .ok (.iadd, 1) := by decide +kernel
theorem d_N_member_42 : decode b_N_member 42 = .ok (.iconst 1, 1) := by decide +kernel
theorem d_N_member_43 : decode b_N_member 43 = .ok (.bastore, 1) := by decide +kernel
theorem d_N_member_44 : decode b_N_member 44 = .ok (.iconst 1, 1) := by decide +kernel
theorem d_N_member_45 : decode b_N_member 45 = .ok (.ireturn, 1) := by decide +kernel
theorem ct_N_member (E : mm_En) (C : Nat → Nat → Int32) {u g : Nat} (hu : u < 4) (hg : g < 4) (h01 : C 205 (4 * u + g) = 0 ∨ C 205 (4 * u + g) = 1) : mm_MT E K_N_member [.ref 204, .int (nI u), .int (nI g)] (hp_H C) (if C 205 (4 * u + g) = 0 then mm_D (some (.int 1)) (cs_C C 205 (4 * u + g) 1) else mm_D (some (.int 0)) C) := by
  have e1 : ¬ nI u < 0 := nI_pos (by omega)
  have e2 : ¬ nI g < 0 := nI_pos (by omega)
  have e3 : ¬ (3 : Int32) < nI u := nI_nlt (show u ≤ 3 by omega) (by decide)
  have e4 : ¬ (3 : Int32) < nI g := nI_nlt (show g ≤ 3 by omega) (by decide)
  refine mm_mtL (by decide) (by rfl) (Nat.le_of_ble_eq_true rfl) rfl ?_
  refine ev_iload_n (pc := 0) d_N_member_0 rfl rfl ?_
  refine ev_if_lt (pc := 1) (tgt := 31) d_N_member_1 (by decide) (fun ha => ?_) (fun ha => ?_)
  · exact absurd ha e1
  refine ev_iload_n (pc := 4) d_N_member_4 rfl rfl ?_
  refine ev_iconst (pc := 5) (v := 3) d_N_member_5 rfl ?_
  refine ev_icmp_gt (pc := 6) (tgt := 31) d_N_member_6 (by decide) (fun ha => ?_) (fun ha => ?_)
  · exact absurd ha e3
  refine ev_iload_n (pc := 9) d_N_member_9 rfl rfl ?_
  refine ev_if_lt (pc := 10) (tgt := 31) d_N_member_10 (by decide) (fun ha => ?_) (fun ha => ?_)
  · exact absurd ha e2
  refine ev_iload_n (pc := 13) d_N_member_13 rfl rfl ?_
  refine ev_iconst (pc := 14) (v := 3) d_N_member_14 rfl ?_
  refine ev_icmp_gt (pc := 15) (tgt := 31) d_N_member_15 (by decide) (fun ha => ?_) (fun ha => ?_)
  · exact absurd ha e4
  refine ev_aload_n (pc := 18) d_N_member_18 rfl rfl (by first | rfl | exact mm_rk_rf _) ?_
  refine ev_gR (pc := 19) sh_N (by rfl) fl_N_7 d_N_member_19 ?_
  refine ev_iconst (pc := 22) (v := nI 4) d_N_member_22 rfl ?_
  refine ev_iload_n (pc := 23) d_N_member_23 rfl rfl ?_
  first | refine ev_imulN (pc := 24) d_N_member_24 ?_ | refine ev_imul (pc := 24) d_N_member_24 ?_
  refine ev_iload_n (pc := 25) d_N_member_25 rfl rfl ?_
  first | refine ev_iaddN (pc := 26) d_N_member_26 ?_ | refine ev_iadd (pc := 26) d_N_member_26 ?_
  refine ev_rZN (pc := 27) sh_N_members (by omega) (by decide) d_N_member_27 ?_
  refine ev_if_eq (pc := 28) (tgt := 33) d_N_member_28 (by decide) (fun ha => ?_) (fun ha => ?_)
  · rw [if_pos ha]
    refine ev_aload_n (pc := 33) d_N_member_33 rfl rfl (by first | rfl | exact mm_rk_rf _) ?_
    refine ev_gR (pc := 34) sh_N (by rfl) fl_N_7 d_N_member_34 ?_
    refine ev_iconst (pc := 37) (v := nI 4) d_N_member_37 rfl ?_
    refine ev_iload_n (pc := 38) d_N_member_38 rfl rfl ?_
    first | refine ev_imulN (pc := 39) d_N_member_39 ?_ | refine ev_imul (pc := 39) d_N_member_39 ?_
    refine ev_iload_n (pc := 40) d_N_member_40 rfl rfl ?_
    first | refine ev_iaddN (pc := 41) d_N_member_41 ?_ | refine ev_iadd (pc := 41) d_N_member_41 ?_
    refine ev_iconst (pc := 42) (v := 1) d_N_member_42 rfl ?_
    refine ev_wZN (pc := 43) sh_N_members (by omega) (by decide) (by rfl) d_N_member_43 ?_
    refine ev_iconst (pc := 44) (v := 1) d_N_member_44 rfl ?_
    exact ev_zret (pc := 45) d_N_member_45 rfl (by first | exact Or.inl rfl | exact Or.inr rfl | assumption) (Nat.zero_le _) (Nat.zero_le _) ⟨rfl, rfl⟩
  · rw [if_neg ha]
    refine ev_iconst (pc := 31) (v := 0) d_N_member_31 rfl ?_
    exact ev_zret (pc := 32) d_N_member_32 rfl (by first | exact Or.inl rfl | exact Or.inr rfl | assumption) (Nat.zero_le _) (Nat.zero_le _) ⟨rfl, rfl⟩
theorem ct_N_memberF (E : mm_En) (C : Nat → Nat → Int32) {x y : Int32} (hx : (x < 0 ∨ 4 ≤ x) ∨ (y < 0 ∨ 4 ≤ y)) : mm_MT E K_N_member [.ref 204, .int x, .int y] (hp_H C) (mm_D (some (.int 0)) C) := by
  refine mm_mtL (by decide) (by rfl) (Nat.le_of_ble_eq_true rfl) rfl ?_
  refine ev_iload_n (pc := 0) d_N_member_0 rfl rfl ?_
  refine ev_if_lt (pc := 1) (tgt := 31) d_N_member_1 (by decide) (fun h1 => ?_) (fun h1 => ?_)
  · refine ev_iconst (pc := 31) (v := 0) d_N_member_31 rfl ?_
    exact ev_zret (pc := 32) d_N_member_32 rfl (by first | exact Or.inl rfl | exact Or.inr rfl | assumption) (Nat.zero_le _) (Nat.zero_le _) ⟨rfl, rfl⟩
  refine ev_iload_n (pc := 4) d_N_member_4 rfl rfl ?_
  refine ev_iconst (pc := 5) (v := 3) d_N_member_5 rfl ?_
  refine ev_icmp_gt (pc := 6) (tgt := 31) d_N_member_6 (by decide) (fun h2 => ?_) (fun h2 => ?_)
  · refine ev_iconst (pc := 31) (v := 0) d_N_member_31 rfl ?_
    exact ev_zret (pc := 32) d_N_member_32 rfl (by first | exact Or.inl rfl | exact Or.inr rfl | assumption) (Nat.zero_le _) (Nat.zero_le _) ⟨rfl, rfl⟩
  refine ev_iload_n (pc := 9) d_N_member_9 rfl rfl ?_
  refine ev_if_lt (pc := 10) (tgt := 31) d_N_member_10 (by decide) (fun h3 => ?_) (fun h3 => ?_)
  · refine ev_iconst (pc := 31) (v := 0) d_N_member_31 rfl ?_
    exact ev_zret (pc := 32) d_N_member_32 rfl (by first | exact Or.inl rfl | exact Or.inr rfl | assumption) (Nat.zero_le _) (Nat.zero_le _) ⟨rfl, rfl⟩
  refine ev_iload_n (pc := 13) d_N_member_13 rfl rfl ?_
  refine ev_iconst (pc := 14) (v := 3) d_N_member_14 rfl ?_
  refine ev_icmp_gt (pc := 15) (tgt := 31) d_N_member_15 (by decide) (fun h4 => ?_) (fun h4 => ?_)
  · refine ev_iconst (pc := 31) (v := 0) d_N_member_31 rfl ?_
    exact ev_zret (pc := 32) d_N_member_32 rfl (by first | exact Or.inl rfl | exact Or.inr rfl | assumption) (Nat.zero_le _) (Nat.zero_le _) ⟨rfl, rfl⟩
  exact absurd hx (by
    rintro ((z | z) | (z | z))
    · exact h1 z
    · exact h2 (Int32.lt_of_lt_of_le (by decide) z)
    · exact h3 z
    · exact h4 (Int32.lt_of_lt_of_le (by decide) z))
theorem d_N_say_0 : decode b_N_say 0 = .ok (.aload_n 0, 1) := by decide +kernel
theorem d_N_say_1 : decode b_N_say 1 = .ok (.getfield 93, 3) := by decide +kernel
theorem d_N_say_4 : decode b_N_say 4 = .ok (.iconst 4, 1) := by decide +kernel
theorem d_N_say_5 : decode b_N_say 5 = .ok (.if_icmp .ne 5, 3) := by decide +kernel
theorem d_N_say_8 : decode b_N_say 8 = .ok (.iconst 0, 1) := by decide +kernel
theorem d_N_say_9 : decode b_N_say 9 = .ok (.ireturn, 1) := by decide +kernel
theorem d_N_say_10 : decode b_N_say 10 = .ok (.aload_n 0, 1) := by decide +kernel
theorem d_N_say_11 : decode b_N_say 11 = .ok (.getfield 81, 3) := by decide +kernel
theorem d_N_say_14 : decode b_N_say 14 = .ok (.aload_n 0, 1) := by decide +kernel
theorem d_N_say_15 : decode b_N_say 15 = .ok (.getfield 93, 3) := by decide +kernel
theorem d_N_say_18 : decode b_N_say 18 = .ok (.iload_n 1, 1) := by decide +kernel
theorem d_N_say_19 : decode b_N_say 19 = .ok (.iastore, 1) := by decide +kernel
theorem d_N_say_20 : decode b_N_say 20 = .ok (.aload_n 0, 1) := by decide +kernel
theorem d_N_say_21 : decode b_N_say 21 = .ok (.dup, 1) := by decide +kernel
theorem d_N_say_22 : decode b_N_say 22 = .ok (.getfield 93, 3) := by decide +kernel
theorem d_N_say_25 : decode b_N_say 25 = .ok (.iconst 1, 1) := by decide +kernel
theorem d_N_say_26 : decode b_N_say 26 = .ok (.iadd, 1) := by decide +kernel
theorem d_N_say_27 : decode b_N_say 27 = .ok (.putfield 93, 3) := by decide +kernel
theorem d_N_say_30 : decode b_N_say 30 = .ok (.iconst 1, 1) := by decide +kernel
theorem d_N_say_31 : decode b_N_say 31 = .ok (.ireturn, 1) := by decide +kernel
theorem ct_N_say (E : mm_En) (C : Nat → Nat → Int32) {s : Nat} (hs : C 204 24 = nI s) (h4 : s < 4) (x : Int32) : mm_MT E K_N_say [.ref 204, .int x] (hp_H C) (mm_D (some (.int 1)) (cs_C (cs_C C 226 s x) 204 24 (nI (s + 1)))) := by
  refine mm_mtL (by decide) (by rfl) (Nat.le_of_ble_eq_true rfl) rfl ?_
  refine ev_aload_n (pc := 0) d_N_say_0 rfl rfl (by first | rfl | exact mm_rk_rf _) ?_
  refine ev_gI (pc := 1) sh_N (by rfl) fl_N_93 d_N_say_1 ?_
  rw [hs]
  refine ev_iconst (pc := 4) (v := 4) d_N_say_4 rfl ?_
  refine ev_icmp_ne (pc := 5) (tgt := 10) d_N_say_5 (by decide) (fun ha => ?_) (fun ha => ?_)
  rotate_left
  · exact absurd ha (fun z => by
      have z' : nI s = nI 4 := z
      rw [nI_eq (by omega) (by decide)] at z'
      omega)
  refine ev_aload_n (pc := 10) d_N_say_10 rfl rfl (by first | rfl | exact mm_rk_rf _) ?_
  refine ev_gR (pc := 11) sh_N (by rfl) fl_N_81 d_N_say_11 ?_
  refine ev_aload_n (pc := 14) d_N_say_14 rfl rfl (by first | rfl | exact mm_rk_rf _) ?_
  refine ev_gI (pc := 15) sh_N (by rfl) fl_N_93 d_N_say_15 ?_
  rw [hs]
  refine ev_iload_n (pc := 18) d_N_say_18 rfl rfl ?_
  refine ev_wIN (pc := 19) sh_N_saying (by omega) (by decide) d_N_say_19 ?_
  refine ev_aload_n (pc := 20) d_N_say_20 rfl rfl (by first | rfl | exact mm_rk_rf _) ?_
  refine ev_dup (pc := 21) d_N_say_21 (by rfl) ?_
  refine ev_gI (pc := 22) sh_N (by rfl) fl_N_93 d_N_say_22 ?_
  rw [cs_ne _ _ (by omega), hs]
  refine ev_iconst (pc := 25) (v := nI 1) d_N_say_25 rfl ?_
  first | refine ev_iaddN (pc := 26) d_N_say_26 ?_ | refine ev_iadd (pc := 26) d_N_say_26 ?_
  refine ev_pI (pc := 27) sh_N (by rfl) fl_N_93 fw_9_24 (by rfl) d_N_say_27 ?_
  refine ev_iconst (pc := 30) (v := 1) d_N_say_30 rfl ?_
  exact ev_zret (pc := 31) d_N_say_31 rfl (by first | exact Or.inl rfl | exact Or.inr rfl | assumption) (Nat.zero_le _) (Nat.zero_le _) ⟨rfl, rfl⟩
theorem ct_N_sayF (E : mm_En) (C : Nat → Nat → Int32) (hs : C 204 24 = nI 4) (x : Int32) : mm_MT E K_N_say [.ref 204, .int x] (hp_H C) (mm_D (some (.int 0)) C) := by
  refine mm_mtL (by decide) (by rfl) (Nat.le_of_ble_eq_true rfl) rfl ?_
  refine ev_aload_n (pc := 0) d_N_say_0 rfl rfl (by first | rfl | exact mm_rk_rf _) ?_
  refine ev_gI (pc := 1) sh_N (by rfl) fl_N_93 d_N_say_1 ?_
  rw [hs]
  refine ev_iconst (pc := 4) (v := 4) d_N_say_4 rfl ?_
  refine ev_icmp_ne (pc := 5) (tgt := 10) d_N_say_5 (by decide) (fun ha => ?_) (fun ha => ?_)
  · exact absurd (show nI 4 = nI 4 from rfl) ha
  refine ev_iconst (pc := 8) (v := 0) d_N_say_8 rfl ?_
  exact ev_zret (pc := 9) d_N_say_9 rfl (by first | exact Or.inl rfl | exact Or.inr rfl | assumption) (Nat.zero_le _) (Nat.zero_le _) ⟨rfl, rfl⟩
