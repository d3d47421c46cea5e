/-! Small methods: of numbers, of a fid, of the members, of a block. -/
def b2_P (P : Prop) [Decidable P] : Int32 := if P then 1 else 0
theorem b2_t {P : Prop} [Decidable P] (h : P) : b2_P P = 1 := if_pos h
theorem b2_f {P : Prop} [Decidable P] (h : ¬ P) : b2_P P = 0 := if_neg h
theorem b2_0 {P : Prop} [Decidable P] : b2_P P = 0 ↔ ¬ P := by
  unfold b2_P
  by_cases h : P <;> simp [h]
theorem b2_01 (P : Prop) [Decidable P] : b2_P P = 0 ∨ b2_P P = 1 := by
  by_cases h : P
  · exact Or.inr (b2_t h)
  · exact Or.inl (b2_f h)
theorem b2_c {P Q : Prop} [Decidable P] [Decidable Q] (h : P ↔ Q) : b2_P P = b2_P Q := by
  unfold b2_P
  by_cases hq : Q
  · rw [if_pos (h.mpr hq), if_pos hq]
  · rw [if_neg (fun z => hq (h.mp z)), if_neg hq]
def is_user (x : Int32) : Prop := ¬ x < 0 ∧ ¬ 4 ≤ x
def is_title (x : Int32) : Prop := ¬ x < 1 ∧ ¬ 99 < x
def is_omode (x : Int32) : Prop := (x &&& -84) = 0 ∧ ¬ (x &&& 3) = 3
theorem d_X_isUser_0 : decode b_X_isUser 0 = .ok (.iload_n 0, 1) := by decide +kernel
theorem d_X_isUser_1 : decode b_X_isUser 1 = .ok (.ifCond .lt 12, 3) := by decide +kernel
theorem d_X_isUser_4 : decode b_X_isUser 4 = .ok (.iload_n 0, 1) := by decide +kernel
theorem d_X_isUser_5 : decode b_X_isUser 5 = .ok (.iconst 4, 1) := by decide +kernel
theorem d_X_isUser_6 : decode b_X_isUser 6 = .ok (.if_icmp .ge 7, 3) := by decide +kernel
theorem d_X_isUser_9 : decode b_X_isUser 9 = .ok (.iconst 1, 1) := by decide +kernel
theorem d_X_isUser_10 : decode b_X_isUser 10 = .ok (.goto 4, 3) := by decide +kernel
theorem d_X_isUser_13 : decode b_X_isUser 13 = .ok (.iconst 0, 1) := by decide +kernel
theorem d_X_isUser_14 : decode b_X_isUser 14 = .ok (.ireturn, 1) := by decide +kernel
set_option maxRecDepth 20000 in
theorem ct_X_isUser (E : mm_En) (C : Nat → Nat → Int32) (x : Int32) : mm_MT E K_X_isUser [.int x] (hp_H C) (mm_D (some (.int (b2_P (¬ x < 0 ∧ ¬ 4 ≤ x)))) C) := by
  refine mm_mtL (by decide) (by rfl) (Nat.le_of_ble_eq_true rfl) rfl ?_
  refine ev_iload_n (pc := 0) d_X_isUser_0 rfl rfl ?_
  refine ev_if_lt (pc := 1) (tgt := 13) d_X_isUser_1 (by decide) (fun hc1 => ?_) (fun hc1 => ?_)
  · refine ev_iconst (pc := 13) (v := 0) d_X_isUser_13 rfl ?_
    exact ev_zret (pc := 14) d_X_isUser_14 rfl (by first | exact Or.inl rfl | exact Or.inr rfl | assumption) (Nat.zero_le _) (Nat.zero_le _) ⟨by first | rw [b2_t (by grind)] | rw [b2_f (by grind)], rfl⟩
  · refine ev_iload_n (pc := 4) d_X_isUser_4 rfl rfl ?_
    refine ev_iconst (pc := 5) (v := 4) d_X_isUser_5 rfl ?_
    refine ev_icmp_ge (pc := 6) (tgt := 13) d_X_isUser_6 (by decide) (fun hc6 => ?_) (fun hc6 => ?_)
    · refine ev_iconst (pc := 13) (v := 0) d_X_isUser_13 rfl ?_
      exact ev_zret (pc := 14) d_X_isUser_14 rfl (by first | exact Or.inl rfl | exact Or.inr rfl | assumption) (Nat.zero_le _) (Nat.zero_le _) ⟨by first | rw [b2_t (by grind)] | rw [b2_f (by grind)], rfl⟩
    · refine ev_iconst (pc := 9) (v := 1) d_X_isUser_9 rfl ?_
      refine ev_goto (pc := 10) (tgt := 14) d_X_isUser_10 (by decide) ?_
      exact ev_zret (pc := 14) d_X_isUser_14 rfl (by first | exact Or.inl rfl | exact Or.inr rfl | assumption) (Nat.zero_le _) (Nat.zero_le _) ⟨by first | rw [b2_t (by grind)] | rw [b2_f (by grind)], rfl⟩
theorem d_X_isTitle_0 : decode b_X_isTitle 0 = .ok (.iload_n 0, 1) := by decide +kernel
theorem d_X_isTitle_1 : decode b_X_isTitle 1 = .ok (.iconst 1, 1) := by decide +kernel
theorem d_X_isTitle_2 : decode b_X_isTitle 2 = .ok (.if_icmp .lt 13, 3) := by decide +kernel
theorem d_X_isTitle_5 : decode b_X_isTitle 5 = .ok (.iload_n 0, 1) := by decide +kernel
theorem d_X_isTitle_6 : decode b_X_isTitle 6 = .ok (.bipush 99, 2) := by decide +kernel
theorem d_X_isTitle_8 : decode b_X_isTitle 8 = .ok (.if_icmp .gt 7, 3) := by decide +kernel
theorem d_X_isTitle_11 : decode b_X_isTitle 11 = .ok (.iconst 1, 1) := by decide +kernel
theorem d_X_isTitle_12 : decode b_X_isTitle 12 = .ok (.goto 4, 3) := by decide +kernel
theorem d_X_isTitle_15 : decode b_X_isTitle 15 = .ok (.iconst 0, 1) := by decide +kernel
theorem d_X_isTitle_16 : decode b_X_isTitle 16 = .ok (.ireturn, 1) := by decide +kernel
set_option maxRecDepth 20000 in
theorem ct_X_isTitle (E : mm_En) (C : Nat → Nat → Int32) (x : Int32) : mm_MT E K_X_isTitle [.int x] (hp_H C) (mm_D (some (.int (b2_P (¬ x < 1 ∧ ¬ 99 < x)))) C) := by
  refine mm_mtL (by decide) (by rfl) (Nat.le_of_ble_eq_true rfl) rfl ?_
  refine ev_iload_n (pc := 0) d_X_isTitle_0 rfl rfl ?_
  refine ev_iconst (pc := 1) (v := 1) d_X_isTitle_1 rfl ?_
  refine ev_icmp_lt (pc := 2) (tgt := 15) d_X_isTitle_2 (by decide) (fun hc2 => ?_) (fun hc2 => ?_)
  · refine ev_iconst (pc := 15) (v := 0) d_X_isTitle_15 rfl ?_
    exact ev_zret (pc := 16) d_X_isTitle_16 rfl (by first | exact Or.inl rfl | exact Or.inr rfl | assumption) (Nat.zero_le _) (Nat.zero_le _) ⟨by first | rw [b2_t (by grind)] | rw [b2_f (by grind)], rfl⟩
  · refine ev_iload_n (pc := 5) d_X_isTitle_5 rfl rfl ?_
    refine ev_bipush (pc := 6) (v := 99) d_X_isTitle_6 (by decide) ?_
    refine ev_icmp_gt (pc := 8) (tgt := 15) d_X_isTitle_8 (by decide) (fun hc8 => ?_) (fun hc8 => ?_)
    · refine ev_iconst (pc := 15) (v := 0) d_X_isTitle_15 rfl ?_
      exact ev_zret (pc := 16) d_X_isTitle_16 rfl (by first | exact Or.inl rfl | exact Or.inr rfl | assumption) (Nat.zero_le _) (Nat.zero_le _) ⟨by first | rw [b2_t (by grind)] | rw [b2_f (by grind)], rfl⟩
    · refine ev_iconst (pc := 11) (v := 1) d_X_isTitle_11 rfl ?_
      refine ev_goto (pc := 12) (tgt := 16) d_X_isTitle_12 (by decide) ?_
      exact ev_zret (pc := 16) d_X_isTitle_16 rfl (by first | exact Or.inl rfl | exact Or.inr rfl | assumption) (Nat.zero_le _) (Nat.zero_le _) ⟨by first | rw [b2_t (by grind)] | rw [b2_f (by grind)], rfl⟩
theorem d_X_isOpenMode_0 : decode b_X_isOpenMode 0 = .ok (.iload_n 0, 1) := by decide +kernel
theorem d_X_isOpenMode_1 : decode b_X_isOpenMode 1 = .ok (.bipush (-84), 2) := by decide +kernel
theorem d_X_isOpenMode_3 : decode b_X_isOpenMode 3 = .ok (.iand, 1) := by decide +kernel
theorem d_X_isOpenMode_4 : decode b_X_isOpenMode 4 = .ok (.ifCond .ne 14, 3) := by decide +kernel
theorem d_X_isOpenMode_7 : decode b_X_isOpenMode 7 = .ok (.iload_n 0, 1) := by decide +kernel
theorem d_X_isOpenMode_8 : decode b_X_isOpenMode 8 = .ok (.iconst 3, 1) := by decide +kernel
theorem d_X_isOpenMode_9 : decode b_X_isOpenMode 9 = .ok (.iand, 1) := by decide +kernel
theorem d_X_isOpenMode_10 : decode b_X_isOpenMode 10 = .ok (.iconst 3, 1) := by decide +kernel
theorem d_X_isOpenMode_11 : decode b_X_isOpenMode 11 = .ok (.if_icmp .eq 7, 3) := by decide +kernel
theorem d_X_isOpenMode_14 : decode b_X_isOpenMode 14 = .ok (.iconst 1, 1) := by decide +kernel
theorem d_X_isOpenMode_15 : decode b_X_isOpenMode 15 = .ok (.goto 4, 3) := by decide +kernel
theorem d_X_isOpenMode_18 : decode b_X_isOpenMode 18 = .ok (.iconst 0, 1) := by decide +kernel
theorem d_X_isOpenMode_19 : decode b_X_isOpenMode 19 = .ok (.ireturn, 1) := by decide +kernel
set_option maxRecDepth 20000 in
theorem ct_X_isOpenMode (E : mm_En) (C : Nat → Nat → Int32) (x : Int32) : mm_MT E K_X_isOpenMode [.int x] (hp_H C) (mm_D (some (.int (b2_P ((x &&& -84) = 0 ∧ ¬ (x &&& 3) = 3)))) C) := by
  refine mm_mtL (by decide) (by rfl) (Nat.le_of_ble_eq_true rfl) rfl ?_
  refine ev_iload_n (pc := 0) d_X_isOpenMode_0 rfl rfl ?_
  refine ev_bipush (pc := 1) (v := -84) d_X_isOpenMode_1 (by decide) ?_
  refine ev_iand (pc := 3) d_X_isOpenMode_3 ?_
  refine ev_if_ne (pc := 4) (tgt := 18) d_X_isOpenMode_4 (by decide) (fun hc4 => ?_) (fun hc4 => ?_)
  · refine ev_iconst (pc := 18) (v := 0) d_X_isOpenMode_18 rfl ?_
    exact ev_zret (pc := 19) d_X_isOpenMode_19 rfl (by first | exact Or.inl rfl | exact Or.inr rfl | assumption) (Nat.zero_le _) (Nat.zero_le _) ⟨by first | rw [b2_t (by grind)] | rw [b2_f (by grind)], rfl⟩
  · refine ev_iload_n (pc := 7) d_X_isOpenMode_7 rfl rfl ?_
    refine ev_iconst (pc := 8) (v := 3) d_X_isOpenMode_8 rfl ?_
    refine ev_iand (pc := 9) d_X_isOpenMode_9 ?_
    refine ev_iconst (pc := 10) (v := 3) d_X_isOpenMode_10 rfl ?_
    refine ev_icmp_eq (pc := 11) (tgt := 18) d_X_isOpenMode_11 (by decide) (fun hc11 => ?_) (fun hc11 => ?_)
    · refine ev_iconst (pc := 18) (v := 0) d_X_isOpenMode_18 rfl ?_
      exact ev_zret (pc := 19) d_X_isOpenMode_19 rfl (by first | exact Or.inl rfl | exact Or.inr rfl | assumption) (Nat.zero_le _) (Nat.zero_le _) ⟨by first | rw [b2_t (by grind)] | rw [b2_f (by grind)], rfl⟩
    · refine ev_iconst (pc := 14) (v := 1) d_X_isOpenMode_14 rfl ?_
      refine ev_goto (pc := 15) (tgt := 19) d_X_isOpenMode_15 (by decide) ?_
      exact ev_zret (pc := 19) d_X_isOpenMode_19 rfl (by first | exact Or.inl rfl | exact Or.inr rfl | assumption) (Nat.zero_le _) (Nat.zero_le _) ⟨by first | rw [b2_t (by grind)] | rw [b2_f (by grind)], rfl⟩
theorem d_X_isForReading_0 : decode b_X_isForReading 0 = .ok (.iload_n 0, 1) := by decide +kernel
theorem d_X_isForReading_1 : decode b_X_isForReading 1 = .ok (.iconst 3, 1) := by decide +kernel
theorem d_X_isForReading_2 : decode b_X_isForReading 2 = .ok (.iand, 1) := by decide +kernel
theorem d_X_isForReading_3 : decode b_X_isForReading 3 = .ok (.iconst 1, 1) := by decide +kernel
theorem d_X_isForReading_4 : decode b_X_isForReading 4 = .ok (.if_icmp .eq 7, 3) := by decide +kernel
theorem d_X_isForReading_7 : decode b_X_isForReading 7 = .ok (.iconst 1, 1) := by decide +kernel
theorem d_X_isForReading_8 : decode b_X_isForReading 8 = .ok (.goto 4, 3) := by decide +kernel
theorem d_X_isForReading_11 : decode b_X_isForReading 11 = .ok (.iconst 0, 1) := by decide +kernel
theorem d_X_isForReading_12 : decode b_X_isForReading 12 = .ok (.ireturn, 1) := by decide +kernel
set_option maxRecDepth 20000 in
theorem ct_X_isForReading (E : mm_En) (C : Nat → Nat → Int32) (x : Int32) : mm_MT E K_X_isForReading [.int x] (hp_H C) (mm_D (some (.int (b2_P (¬ (x &&& 3) = 1)))) C) := by
  refine mm_mtL (by decide) (by rfl) (Nat.le_of_ble_eq_true rfl) rfl ?_
  refine ev_iload_n (pc := 0) d_X_isForReading_0 rfl rfl ?_
  refine ev_iconst (pc := 1) (v := 3) d_X_isForReading_1 rfl ?_
  refine ev_iand (pc := 2) d_X_isForReading_2 ?_
  refine ev_iconst (pc := 3) (v := 1) d_X_isForReading_3 rfl ?_
  refine ev_icmp_eq (pc := 4) (tgt := 11) d_X_isForReading_4 (by decide) (fun hc4 => ?_) (fun hc4 => ?_)
  · refine ev_iconst (pc := 11) (v := 0) d_X_isForReading_11 rfl ?_
    exact ev_zret (pc := 12) d_X_isForReading_12 rfl (by first | exact Or.inl rfl | exact Or.inr rfl | assumption) (Nat.zero_le _) (Nat.zero_le _) ⟨by first | rw [b2_t (by grind)] | rw [b2_f (by grind)], rfl⟩
  · refine ev_iconst (pc := 7) (v := 1) d_X_isForReading_7 rfl ?_
    refine ev_goto (pc := 8) (tgt := 12) d_X_isForReading_8 (by decide) ?_
    exact ev_zret (pc := 12) d_X_isForReading_12 rfl (by first | exact Or.inl rfl | exact Or.inr rfl | assumption) (Nat.zero_le _) (Nat.zero_le _) ⟨by first | rw [b2_t (by grind)] | rw [b2_f (by grind)], rfl⟩
theorem d_X_isForWriting_0 : decode b_X_isForWriting 0 = .ok (.iload_n 0, 1) := by decide +kernel
theorem d_X_isForWriting_1 : decode b_X_isForWriting 1 = .ok (.iconst 3, 1) := by decide +kernel
theorem d_X_isForWriting_2 : decode b_X_isForWriting 2 = .ok (.iand, 1) := by decide +kernel
theorem d_X_isForWriting_3 : decode b_X_isForWriting 3 = .ok (.ifCond .eq 7, 3) := by decide +kernel
theorem d_X_isForWriting_6 : decode b_X_isForWriting 6 = .ok (.iconst 1, 1) := by decide +kernel
theorem d_X_isForWriting_7 : decode b_X_isForWriting 7 = .ok (.goto 4, 3) := by decide +kernel
theorem d_X_isForWriting_10 : decode b_X_isForWriting 10 = .ok (.iconst 0, 1) := by decide +kernel
theorem d_X_isForWriting_11 : decode b_X_isForWriting 11 = .ok (.ireturn, 1) := by decide +kernel
set_option maxRecDepth 20000 in
theorem ct_X_isForWriting (E : mm_En) (C : Nat → Nat → Int32) (x : Int32) : mm_MT E K_X_isForWriting [.int x] (hp_H C) (mm_D (some (.int (b2_P (¬ (x &&& 3) = 0)))) C) := by
  refine mm_mtL (by decide) (by rfl) (Nat.le_of_ble_eq_true rfl) rfl ?_
  refine ev_iload_n (pc := 0) d_X_isForWriting_0 rfl rfl ?_
  refine ev_iconst (pc := 1) (v := 3) d_X_isForWriting_1 rfl ?_
  refine ev_iand (pc := 2) d_X_isForWriting_2 ?_
  refine ev_if_eq (pc := 3) (tgt := 10) d_X_isForWriting_3 (by decide) (fun hc3 => ?_) (fun hc3 => ?_)
  · refine ev_iconst (pc := 10) (v := 0) d_X_isForWriting_10 rfl ?_
    exact ev_zret (pc := 11) d_X_isForWriting_11 rfl (by first | exact Or.inl rfl | exact Or.inr rfl | assumption) (Nat.zero_le _) (Nat.zero_le _) ⟨by first | rw [b2_t (by grind)] | rw [b2_f (by grind)], rfl⟩
  · refine ev_iconst (pc := 6) (v := 1) d_X_isForWriting_6 rfl ?_
    refine ev_goto (pc := 7) (tgt := 11) d_X_isForWriting_7 (by decide) ?_
    exact ev_zret (pc := 11) d_X_isForWriting_11 rfl (by first | exact Or.inl rfl | exact Or.inr rfl | assumption) (Nat.zero_le _) (Nat.zero_le _) ⟨by first | rw [b2_t (by grind)] | rw [b2_f (by grind)], rfl⟩
theorem d_F_take_0 : decode b_F_take 0 = .ok (.aload_n 0, 1) := by decide +kernel
theorem d_F_take_1 : decode b_F_take 1 = .ok (.iconst 1, 1) := by decide +kernel
theorem d_F_take_2 : decode b_F_take 2 = .ok (.putfield 9, 3) := by decide +kernel
theorem d_F_take_5 : decode b_F_take 5 = .ok (.aload_n 0, 1) := by decide +kernel
theorem d_F_take_6 : decode b_F_take 6 = .ok (.iconst 0, 1) := by decide +kernel
theorem d_F_take_7 : decode b_F_take 7 = .ok (.putfield 15, 3) := by decide +kernel
theorem d_F_take_10 : decode b_F_take 10 = .ok (.aload_n 0, 1) := by decide +kernel
theorem d_F_take_11 : decode b_F_take 11 = .ok (.iload_n 1, 1) := by decide +kernel
theorem d_F_take_12 : decode b_F_take 12 = .ok (.putfield 18, 3) := by decide +kernel
theorem d_F_take_15 : decode b_F_take 15 = .ok (.aload_n 0, 1) := by decide +kernel
theorem d_F_take_16 : decode b_F_take 16 = .ok (.iload_n 2, 1) := by decide +kernel
theorem d_F_take_17 : decode b_F_take 17 = .ok (.putfield 22, 3) := by decide +kernel
theorem d_F_take_20 : decode b_F_take 20 = .ok (.aload_n 0, 1) := by decide +kernel
theorem d_F_take_21 : decode b_F_take 21 = .ok (.iload_n 3, 1) := by decide +kernel
theorem d_F_take_22 : decode b_F_take 22 = .ok (.putfield 25, 3) := by decide +kernel
theorem d_F_take_25 : decode b_F_take 25 = .ok (.return_, 1) := by decide +kernel
abbrev fi_s (f : Nat) : Prop := hp_S[f]? = some (.inr (2, [none, none, none, none, none, none, none]))
def fi_take (C : Nat → Nat → Int32) (f : Nat) (u t p : Int32) : Nat → Nat → Int32 := cs_C (cs_C (cs_C (cs_C (cs_C C f 0 1) f 1 0) f 2 u) f 3 t) f 4 p
def fi_open (C : Nat → Nat → Int32) (f : Nat) (m : Int32) : Nat → Nat → Int32 := cs_C (cs_C (cs_C C f 1 1) f 5 m) f 6 0
def fi_free (C : Nat → Nat → Int32) (f : Nat) : Nat → Nat → Int32 := cs_C (cs_C C f 0 0) f 1 0
set_option maxRecDepth 20000 in
theorem ct_F_take (E : mm_En) (C : Nat → Nat → Int32) {f : Nat} (hs : fi_s f) (u t p : Int32) : mm_MT E K_F_take [.ref f, .int u, .int t, .int p] (hp_H C) (mm_D none (fi_take C f u t p)) := by
  refine mm_mtL (by decide) (by rfl) (Nat.le_of_ble_eq_true rfl) rfl ?_
  refine ev_aload_n (pc := 0) d_F_take_0 rfl rfl (by first | rfl | exact mm_rk_rf _) ?_
  refine ev_iconst (pc := 1) (v := 1) d_F_take_1 rfl ?_
  refine ev_pI (pc := 2) (by assumption) (by rfl) fl_F_9 fw_2_0 (by rfl) d_F_take_2 ?_
  refine ev_aload_n (pc := 5) d_F_take_5 rfl rfl (by first | rfl | exact mm_rk_rf _) ?_
  refine ev_iconst (pc := 6) (v := 0) d_F_take_6 rfl ?_
  refine ev_pI (pc := 7) (by assumption) (by rfl) fl_F_15 fw_2_1 (by rfl) d_F_take_7 ?_
  refine ev_aload_n (pc := 10) d_F_take_10 rfl rfl (by first | rfl | exact mm_rk_rf _) ?_
  refine ev_iload_n (pc := 11) d_F_take_11 rfl rfl ?_
  refine ev_pI (pc := 12) (by assumption) (by rfl) fl_F_18 fw_2_2 (by rfl) d_F_take_12 ?_
  refine ev_aload_n (pc := 15) d_F_take_15 rfl rfl (by first | rfl | exact mm_rk_rf _) ?_
  refine ev_iload_n (pc := 16) d_F_take_16 rfl rfl ?_
  refine ev_pI (pc := 17) (by assumption) (by rfl) fl_F_22 fw_2_3 (by rfl) d_F_take_17 ?_
  refine ev_aload_n (pc := 20) d_F_take_20 rfl rfl (by first | rfl | exact mm_rk_rf _) ?_
  refine ev_iload_n (pc := 21) d_F_take_21 rfl rfl ?_
  refine ev_pI (pc := 22) (by assumption) (by rfl) fl_F_25 fw_2_4 (by rfl) d_F_take_22 ?_
  exact ev_vret (pc := 25) d_F_take_25 rfl (Nat.zero_le _) (Nat.zero_le _) ⟨rfl, rfl⟩
theorem d_F_openAs_0 : decode b_F_openAs 0 = .ok (.aload_n 0, 1) := by decide +kernel
theorem d_F_openAs_1 : decode b_F_openAs 1 = .ok (.iconst 1, 1) := by decide +kernel
theorem d_F_openAs_2 : decode b_F_openAs 2 = .ok (.putfield 15, 3) := by decide +kernel
theorem d_F_openAs_5 : decode b_F_openAs 5 = .ok (.aload_n 0, 1) := by decide +kernel
theorem d_F_openAs_6 : decode b_F_openAs 6 = .ok (.iload_n 1, 1) := by decide +kernel
theorem d_F_openAs_7 : decode b_F_openAs 7 = .ok (.putfield 28, 3) := by decide +kernel
theorem d_F_openAs_10 : decode b_F_openAs 10 = .ok (.aload_n 0, 1) := by decide +kernel
theorem d_F_openAs_11 : decode b_F_openAs 11 = .ok (.iconst 0, 1) := by decide +kernel
theorem d_F_openAs_12 : decode b_F_openAs 12 = .ok (.putfield 31, 3) := by decide +kernel
theorem d_F_openAs_15 : decode b_F_openAs 15 = .ok (.return_, 1) := by decide +kernel
set_option maxRecDepth 20000 in
theorem ct_F_openAs (E : mm_En) (C : Nat → Nat → Int32) {f : Nat} (hs : fi_s f) (u : Int32) : mm_MT E K_F_openAs [.ref f, .int u] (hp_H C) (mm_D none (fi_open C f u)) := by
  refine mm_mtL (by decide) (by rfl) (Nat.le_of_ble_eq_true rfl) rfl ?_
  refine ev_aload_n (pc := 0) d_F_openAs_0 rfl rfl (by first | rfl | exact mm_rk_rf _) ?_
  refine ev_iconst (pc := 1) (v := 1) d_F_openAs_1 rfl ?_
  refine ev_pI (pc := 2) (by assumption) (by rfl) fl_F_15 fw_2_1 (by rfl) d_F_openAs_2 ?_
  refine ev_aload_n (pc := 5) d_F_openAs_5 rfl rfl (by first | rfl | exact mm_rk_rf _) ?_
  refine ev_iload_n (pc := 6) d_F_openAs_6 rfl rfl ?_
  refine ev_pI (pc := 7) (by assumption) (by rfl) fl_F_28 fw_2_5 (by rfl) d_F_openAs_7 ?_
  refine ev_aload_n (pc := 10) d_F_openAs_10 rfl rfl (by first | rfl | exact mm_rk_rf _) ?_
  refine ev_iconst (pc := 11) (v := 0) d_F_openAs_11 rfl ?_
  refine ev_pI (pc := 12) (by assumption) (by rfl) fl_F_31 fw_2_6 (by rfl) d_F_openAs_12 ?_
  exact ev_vret (pc := 15) d_F_openAs_15 rfl (Nat.zero_le _) (Nat.zero_le _) ⟨rfl, rfl⟩
theorem d_F_free_0 : decode b_F_free 0 = .ok (.aload_n 0, 1) := by decide +kernel
theorem d_F_free_1 : decode b_F_free 1 = .ok (.iconst 0, 1) := by decide +kernel
theorem d_F_free_2 : decode b_F_free 2 = .ok (.putfield 9, 3) := by decide +kernel
theorem d_F_free_5 : decode b_F_free 5 = .ok (.aload_n 0, 1) := by decide +kernel
theorem d_F_free_6 : decode b_F_free 6 = .ok (.iconst 0, 1) := by decide +kernel
theorem d_F_free_7 : decode b_F_free 7 = .ok (.putfield 15, 3) := by decide +kernel
theorem d_F_free_10 : decode b_F_free 10 = .ok (.return_, 1) := by decide +kernel
set_option maxRecDepth 20000 in
theorem ct_F_free (E : mm_En) (C : Nat → Nat → Int32) {f : Nat} (hs : fi_s f) : mm_MT E K_F_free [.ref f] (hp_H C) (mm_D none (fi_free C f)) := by
  refine mm_mtL (by decide) (by rfl) (Nat.le_of_ble_eq_true rfl) rfl ?_
  refine ev_aload_n (pc := 0) d_F_free_0 rfl rfl (by first | rfl | exact mm_rk_rf _) ?_
  refine ev_iconst (pc := 1) (v := 0) d_F_free_1 rfl ?_
  refine ev_pI (pc := 2) (by assumption) (by rfl) fl_F_9 fw_2_0 (by rfl) d_F_free_2 ?_
  refine ev_aload_n (pc := 5) d_F_free_5 rfl rfl (by first | rfl | exact mm_rk_rf _) ?_
  refine ev_iconst (pc := 6) (v := 0) d_F_free_6 rfl ?_
  refine ev_pI (pc := 7) (by assumption) (by rfl) fl_F_15 fw_2_1 (by rfl) d_F_free_7 ?_
  exact ev_vret (pc := 10) d_F_free_10 rfl (Nat.zero_le _) (Nat.zero_le _) ⟨rfl, rfl⟩
theorem d_F_isInSnapshot_0 : decode b_F_isInSnapshot 0 = .ok (.aload_n 0, 1) := by decide +kernel
theorem d_F_isInSnapshot_1 : decode b_F_isInSnapshot 1 = .ok (.getfield 22, 3) := by decide +kernel
theorem d_F_isInSnapshot_4 : decode b_F_isInSnapshot 4 = .ok (.ifCond .eq 7, 3) := by decide +kernel
theorem d_F_isInSnapshot_7 : decode b_F_isInSnapshot 7 = .ok (.iconst 1, 1) := by decide +kernel
theorem d_F_isInSnapshot_8 : decode b_F_isInSnapshot 8 = .ok (.goto 4, 3) := by decide +kernel
theorem d_F_isInSnapshot_11 : decode b_F_isInSnapshot 11 = .ok (.iconst 0, 1) := by decide +kernel
theorem d_F_isInSnapshot_12 : decode b_F_isInSnapshot 12 = .ok (.ireturn, 1) := by decide +kernel
set_option maxRecDepth 20000 in
theorem ct_F_isInSnapshot (E : mm_En) (C : Nat → Nat → Int32) {f : Nat} (hs : fi_s f) : mm_MT E K_F_isInSnapshot [.ref f] (hp_H C) (mm_D (some (.int (b2_P (¬ C f 3 = 0)))) C) := by
  refine mm_mtL (by decide) (by rfl) (Nat.le_of_ble_eq_true rfl) rfl ?_
  refine ev_aload_n (pc := 0) d_F_isInSnapshot_0 rfl rfl (by first | rfl | exact mm_rk_rf _) ?_
  refine ev_gI (pc := 1) (by assumption) (by rfl) fl_F_22 d_F_isInSnapshot_1 ?_
  refine ev_if_eq (pc := 4) (tgt := 11) d_F_isInSnapshot_4 (by decide) (fun hc4 => ?_) (fun hc4 => ?_)
  · refine ev_iconst (pc := 11) (v := 0) d_F_isInSnapshot_11 rfl ?_
    exact ev_zret (pc := 12) d_F_isInSnapshot_12 rfl (by first | exact Or.inl rfl | exact Or.inr rfl | assumption) (Nat.zero_le _) (Nat.zero_le _) ⟨by first | rw [b2_t (by grind)] | rw [b2_f (by grind)], rfl⟩
  · refine ev_iconst (pc := 7) (v := 1) d_F_isInSnapshot_7 rfl ?_
    refine ev_goto (pc := 8) (tgt := 12) d_F_isInSnapshot_8 (by decide) ?_
    exact ev_zret (pc := 12) d_F_isInSnapshot_12 rfl (by first | exact Or.inl rfl | exact Or.inr rfl | assumption) (Nat.zero_le _) (Nat.zero_le _) ⟨by first | rw [b2_t (by grind)] | rw [b2_f (by grind)], rfl⟩
/-! the members, at the cell 131 -/
def me_in (C : Nat → Nat → Int32) (u g : Int32) : Prop := u = g ∨ ¬ (C 131 0 &&& ((1 : Int32) <<< ((u * 4 + g) &&& 31))) = 0
theorem me_dec (C : Nat → Nat → Int32) (u g : Int32) : me_in C u g ∨ ¬ me_in C u g := Classical.em _
noncomputable def me_b (C : Nat → Nat → Int32) (u g : Int32) : Int32 := if u = g then 1 else if (C 131 0 &&& ((1 : Int32) <<< ((u * 4 + g) &&& 31))) = 0 then 0 else 1
theorem d_M_isIn_0 : decode b_M_isIn 0 = .ok (.iload_n 1, 1) := by decide +kernel
theorem d_M_isIn_1 : decode b_M_isIn 1 = .ok (.iload_n 2, 1) := by decide +kernel
theorem d_M_isIn_2 : decode b_M_isIn 2 = .ok (.if_icmp .eq 18, 3) := by decide +kernel
theorem d_M_isIn_5 : decode b_M_isIn 5 = .ok (.aload_n 0, 1) := by decide +kernel
theorem d_M_isIn_6 : decode b_M_isIn 6 = .ok (.getfield 9, 3) := by decide +kernel
theorem d_M_isIn_9 : decode b_M_isIn 9 = .ok (.iconst 1, 1) := by decide +kernel
theorem d_M_isIn_10 : decode b_M_isIn 10 = .ok (.iload_n 1, 1) := by decide +kernel
theorem d_M_isIn_11 : decode b_M_isIn 11 = .ok (.iconst 4, 1) := by decide +kernel
theorem d_M_isIn_12 : decode b_M_isIn 12 = .ok (.imul, 1) := by decide +kernel
theorem d_M_isIn_13 : decode b_M_isIn 13 = .ok (.iload_n 2, 1) := by decide +kernel
theorem d_M_isIn_14 : decode b_M_isIn 14 = .ok (.iadd, 1) := by decide +kernel
theorem d_M_isIn_15 : decode b_M_isIn 15 = .ok (.ishl, 1) := by decide +kernel
theorem d_M_isIn_16 : decode b_M_isIn 16 = .ok (.iand, 1) := by decide +kernel
theorem d_M_isIn_17 : decode b_M_isIn 17 = .ok (.ifCond .eq 7, 3) := by decide +kernel
theorem d_M_isIn_20 : decode b_M_isIn 20 = .ok (.iconst 1, 1) := by decide +kernel
theorem d_M_isIn_21 : decode b_M_isIn 21 = .ok (.goto 4, 3) := by decide +kernel
theorem d_M_isIn_24 : decode b_M_isIn 24 = .ok (.iconst 0, 1) := by decide +kernel
theorem d_M_isIn_25 : decode b_M_isIn 25 = .ok (.ireturn, 1) := by decide +kernel
set_option maxRecDepth 20000 in
theorem ct_M_isIn (E : mm_En) (C : Nat → Nat → Int32) (u g : Int32) : mm_MT E K_M_isIn [.ref 131, .int u, .int g] (hp_H C) (mm_D (some (.int (me_b C u g))) C) := by
  have s1 := sh_M
  refine mm_mtL (by decide) (by rfl) (Nat.le_of_ble_eq_true rfl) rfl ?_
  refine ev_iload_n (pc := 0) d_M_isIn_0 rfl rfl ?_
  refine ev_iload_n (pc := 1) d_M_isIn_1 rfl rfl ?_
  refine ev_icmp_eq (pc := 2) (tgt := 20) d_M_isIn_2 (by decide) (fun hc2 => ?_) (fun hc2 => ?_)
  · refine ev_iconst (pc := 20) (v := 1) d_M_isIn_20 rfl ?_
    refine ev_goto (pc := 21) (tgt := 25) d_M_isIn_21 (by decide) ?_
    exact ev_zret (pc := 25) d_M_isIn_25 rfl (by first | exact Or.inl rfl | exact Or.inr rfl | assumption) (Nat.zero_le _) (Nat.zero_le _) ⟨by unfold me_b; grind, rfl⟩
  · refine ev_aload_n (pc := 5) d_M_isIn_5 rfl rfl (by first | rfl | exact mm_rk_rf _) ?_
    refine ev_gI (pc := 6) (by assumption) (by rfl) fl_M_9 d_M_isIn_6 ?_
    refine ev_iconst (pc := 9) (v := 1) d_M_isIn_9 rfl ?_
    refine ev_iload_n (pc := 10) d_M_isIn_10 rfl rfl ?_
    refine ev_iconst (pc := 11) (v := 4) d_M_isIn_11 rfl ?_
    refine ev_imul (pc := 12) d_M_isIn_12 ?_
    refine ev_iload_n (pc := 13) d_M_isIn_13 rfl rfl ?_
    refine ev_iadd (pc := 14) d_M_isIn_14 ?_
    refine ev_ishl (pc := 15) d_M_isIn_15 ?_
    refine ev_iand (pc := 16) d_M_isIn_16 ?_
    refine ev_if_eq (pc := 17) (tgt := 24) d_M_isIn_17 (by decide) (fun hc17 => ?_) (fun hc17 => ?_)
    · refine ev_iconst (pc := 24) (v := 0) d_M_isIn_24 rfl ?_
      exact ev_zret (pc := 25) d_M_isIn_25 rfl (by first | exact Or.inl rfl | exact Or.inr rfl | assumption) (Nat.zero_le _) (Nat.zero_le _) ⟨by unfold me_b; grind, rfl⟩
    · refine ev_iconst (pc := 20) (v := 1) d_M_isIn_20 rfl ?_
      refine ev_goto (pc := 21) (tgt := 25) d_M_isIn_21 (by decide) ?_
      exact ev_zret (pc := 25) d_M_isIn_25 rfl (by first | exact Or.inl rfl | exact Or.inr rfl | assumption) (Nat.zero_le _) (Nat.zero_le _) ⟨by unfold me_b; grind, rfl⟩
theorem d_M_join_0 : decode b_M_join 0 = .ok (.aload_n 0, 1) := by decide +kernel
theorem d_M_join_1 : decode b_M_join 1 = .ok (.dup, 1) := by decide +kernel
theorem d_M_join_2 : decode b_M_join 2 = .ok (.getfield 9, 3) := by decide +kernel
theorem d_M_join_5 : decode b_M_join 5 = .ok (.iconst 1, 1) := by decide +kernel
theorem d_M_join_6 : decode b_M_join 6 = .ok (.iload_n 1, 1) := by decide +kernel
theorem d_M_join_7 : decode b_M_join 7 = .ok (.iconst 4, 1) := by decide +kernel
theorem d_M_join_8 : decode b_M_join 8 = .ok (.imul, 1) := by decide +kernel
theorem d_M_join_9 : decode b_M_join 9 = .ok (.iload_n 2, 1) := by decide +kernel
theorem d_M_join_10 : decode b_M_join 10 = .ok (.iadd, 1) := by decide +kernel
theorem d_M_join_11 : decode b_M_join 11 = .ok (.ishl, 1) := by decide +kernel
theorem d_M_join_12 : decode b_M_join 12 = .ok (.ior, 1) := by decide +kernel
theorem d_M_join_13 : decode b_M_join 13 = .ok (.putfield 9, 3) := by decide +kernel
theorem d_M_join_16 : decode b_M_join 16 = .ok (.return_, 1) := by decide +kernel
set_option maxRecDepth 20000 in
theorem ct_M_join (E : mm_En) (C : Nat → Nat → Int32) (u g : Int32) : mm_MT E K_M_join [.ref 131, .int u, .int g] (hp_H C) (mm_D none (cs_C C 131 0 (C 131 0 ||| ((1 : Int32) <<< ((u * 4 + g) &&& 31))))) := by
  have s1 := sh_M
  refine mm_mtL (by decide) (by rfl) (Nat.le_of_ble_eq_true rfl) rfl ?_
  refine ev_aload_n (pc := 0) d_M_join_0 rfl rfl (by first | rfl | exact mm_rk_rf _) ?_
  refine ev_dup (pc := 1) d_M_join_1 (by rfl) ?_
  refine ev_gI (pc := 2) (by assumption) (by rfl) fl_M_9 d_M_join_2 ?_
  refine ev_iconst (pc := 5) (v := 1) d_M_join_5 rfl ?_
  refine ev_iload_n (pc := 6) d_M_join_6 rfl rfl ?_
  refine ev_iconst (pc := 7) (v := 4) d_M_join_7 rfl ?_
  refine ev_imul (pc := 8) d_M_join_8 ?_
  refine ev_iload_n (pc := 9) d_M_join_9 rfl rfl ?_
  refine ev_iadd (pc := 10) d_M_join_10 ?_
  refine ev_ishl (pc := 11) d_M_join_11 ?_
  refine ev_ior (pc := 12) d_M_join_12 ?_
  refine ev_pI (pc := 13) (by assumption) (by rfl) fl_M_9 fw_3_0 (by rfl) d_M_join_13 ?_
  exact ev_vret (pc := 16) d_M_join_16 rfl (Nat.zero_le _) (Nat.zero_le _) ⟨rfl, rfl⟩
/-! a block, at the cell b, its bytes at b + 1 -/
abbrev bl_s (b : Nat) : Prop := hp_S[b]? = some (.inr (0, [some (b + 1), none, none, none, none, none, none, none, none, none]))
abbrev bl_a (b : Nat) : Prop := hp_S[b + 1]? = some (.inl (0, 16, []))
theorem d_B_isIn_0 : decode b_B_isIn 0 = .ok (.aload_n 0, 1) := by decide +kernel
theorem d_B_isIn_1 : decode b_B_isIn 1 = .ok (.getfield 15, 3) := by decide +kernel
theorem d_B_isIn_4 : decode b_B_isIn 4 = .ok (.iconst 1, 1) := by decide +kernel
theorem d_B_isIn_5 : decode b_B_isIn 5 = .ok (.iload_n 1, 1) := by decide +kernel
theorem d_B_isIn_6 : decode b_B_isIn 6 = .ok (.ishl, 1) := by decide +kernel
theorem d_B_isIn_7 : decode b_B_isIn 7 = .ok (.iand, 1) := by decide +kernel
theorem d_B_isIn_8 : decode b_B_isIn 8 = .ok (.ifCond .eq 7, 3) := by decide +kernel
theorem d_B_isIn_11 : decode b_B_isIn 11 = .ok (.iconst 1, 1) := by decide +kernel
theorem d_B_isIn_12 : decode b_B_isIn 12 = .ok (.goto 4, 3) := by decide +kernel
theorem d_B_isIn_15 : decode b_B_isIn 15 = .ok (.iconst 0, 1) := by decide +kernel
theorem d_B_isIn_16 : decode b_B_isIn 16 = .ok (.ireturn, 1) := by decide +kernel
set_option maxRecDepth 20000 in
theorem ct_B_isIn (E : mm_En) (C : Nat → Nat → Int32) {b : Nat} (hs : bl_s b) {t : Nat} (ht : t < 32) : mm_MT E K_B_isIn [.ref b, .int (nI t)] (hp_H C) (mm_D (some (.int (b2_P (bt (C b 1) t = true)))) C) := by
  refine mm_mtL (by decide) (by rfl) (Nat.le_of_ble_eq_true rfl) rfl ?_
  refine ev_aload_n (pc := 0) d_B_isIn_0 rfl rfl (by first | rfl | exact mm_rk_rf _) ?_
  refine ev_gI (pc := 1) (by assumption) (by rfl) fl_B_15 d_B_isIn_1 ?_
  refine ev_iconst (pc := 4) (v := 1) d_B_isIn_4 rfl ?_
  refine ev_iload_n (pc := 5) d_B_isIn_5 rfl rfl ?_
  refine ev_ishl (pc := 6) d_B_isIn_6 ?_
  refine ev_iand (pc := 7) d_B_isIn_7 ?_
  refine ev_if_eq (pc := 8) (tgt := 15) d_B_isIn_8 (by decide) (fun hc => ?_) (fun hc => ?_)
  · refine ev_iconst (pc := 15) (v := 0) d_B_isIn_15 rfl ?_
    exact ev_zret (pc := 16) d_B_isIn_16 rfl (by first | exact Or.inl rfl | exact Or.inr rfl | assumption) (Nat.zero_le _) (Nat.zero_le _) ⟨by rw [b2_f (by rw [tb_and ht] at hc; rw [hc]; decide)], rfl⟩
  · refine ev_iconst (pc := 11) (v := 1) d_B_isIn_11 rfl ?_
    refine ev_goto (pc := 12) (tgt := 16) d_B_isIn_12 (by decide) ?_
    exact ev_zret (pc := 16) d_B_isIn_16 rfl (by first | exact Or.inl rfl | exact Or.inr rfl | assumption) (Nat.zero_le _) (Nat.zero_le _) ⟨by rw [b2_t (by rw [tb_and ht] at hc; simpa using hc)], rfl⟩
def bl_oth (x : Int32) (t : Nat) : Prop := ¬ (x &&& (((1 : Int32) <<< (nI t &&& 31)) ^^^ (-1))) = 0
theorem d_B_isInOthersThan_0 : decode b_B_isInOthersThan 0 = .ok (.aload_n 0, 1) := by decide +kernel
theorem d_B_isInOthersThan_1 : decode b_B_isInOthersThan 1 = .ok (.getfield 15, 3) := by decide +kernel
theorem d_B_isInOthersThan_4 : decode b_B_isInOthersThan 4 = .ok (.iconst 1, 1) := by decide +kernel
theorem d_B_isInOthersThan_5 : decode b_B_isInOthersThan 5 = .ok (.iload_n 1, 1) := by decide +kernel
theorem d_B_isInOthersThan_6 : decode b_B_isInOthersThan 6 = .ok (.ishl, 1) := by decide +kernel
theorem d_B_isInOthersThan_7 : decode b_B_isInOthersThan 7 = .ok (.iconst (-1), 1) := by decide +kernel
theorem d_B_isInOthersThan_8 : decode b_B_isInOthersThan 8 = .ok (.ixor, 1) := by decide +kernel
theorem d_B_isInOthersThan_9 : decode b_B_isInOthersThan 9 = .ok (.iand, 1) := by decide +kernel
theorem d_B_isInOthersThan_10 : decode b_B_isInOthersThan 10 = .ok (.ifCond .eq 7, 3) := by decide +kernel
theorem d_B_isInOthersThan_13 : decode b_B_isInOthersThan 13 = .ok (.iconst 1, 1) := by decide +kernel
theorem d_B_isInOthersThan_14 : decode b_B_isInOthersThan 14 = .ok (.goto 4, 3) := by decide +kernel
theorem d_B_isInOthersThan_17 : decode b_B_isInOthersThan 17 = .ok (.iconst 0, 1) := by decide +kernel
theorem d_B_isInOthersThan_18 : decode b_B_isInOthersThan 18 = .ok (.ireturn, 1) := by decide +kernel
set_option maxRecDepth 20000 in
theorem ct_B_isInOthersThan (E : mm_En) (C : Nat → Nat → Int32) {b : Nat} (hs : bl_s b) (t : Nat) : mm_MT E K_B_isInOthersThan [.ref b, .int (nI t)] (hp_H C) (mm_D (some (.int (b2_P (¬ (C b 1 &&& (((1 : Int32) <<< (nI t &&& 31)) ^^^ (-1))) = 0)))) C) := by
  refine mm_mtL (by decide) (by rfl) (Nat.le_of_ble_eq_true rfl) rfl ?_
  refine ev_aload_n (pc := 0) d_B_isInOthersThan_0 rfl rfl (by first | rfl | exact mm_rk_rf _) ?_
  refine ev_gI (pc := 1) (by assumption) (by rfl) fl_B_15 d_B_isInOthersThan_1 ?_
  refine ev_iconst (pc := 4) (v := 1) d_B_isInOthersThan_4 rfl ?_
  refine ev_iload_n (pc := 5) d_B_isInOthersThan_5 rfl rfl ?_
  refine ev_ishl (pc := 6) d_B_isInOthersThan_6 ?_
  refine ev_iconst (pc := 7) (v := -1) d_B_isInOthersThan_7 rfl ?_
  refine ev_ixor (pc := 8) d_B_isInOthersThan_8 ?_
  refine ev_iand (pc := 9) d_B_isInOthersThan_9 ?_
  refine ev_if_eq (pc := 10) (tgt := 17) d_B_isInOthersThan_10 (by decide) (fun hc10 => ?_) (fun hc10 => ?_)
  · refine ev_iconst (pc := 17) (v := 0) d_B_isInOthersThan_17 rfl ?_
    exact ev_zret (pc := 18) d_B_isInOthersThan_18 rfl (by first | exact Or.inl rfl | exact Or.inr rfl | assumption) (Nat.zero_le _) (Nat.zero_le _) ⟨by first | rw [b2_t (by grind)] | rw [b2_f (by grind)], rfl⟩
  · refine ev_iconst (pc := 13) (v := 1) d_B_isInOthersThan_13 rfl ?_
    refine ev_goto (pc := 14) (tgt := 18) d_B_isInOthersThan_14 (by decide) ?_
    exact ev_zret (pc := 18) d_B_isInOthersThan_18 rfl (by first | exact Or.inl rfl | exact Or.inr rfl | assumption) (Nat.zero_le _) (Nat.zero_le _) ⟨by first | rw [b2_t (by grind)] | rw [b2_f (by grind)], rfl⟩
def bl_ent (C : Nat → Nat → Int32) (b t : Nat) : Nat → Nat → Int32 := cs_C C b 1 (C b 1 ||| ((1 : Int32) <<< (nI t &&& 31)))
def bl_lv (C : Nat → Nat → Int32) (b t : Nat) : Nat → Nat → Int32 := cs_C C b 1 (C b 1 &&& (((1 : Int32) <<< (nI t &&& 31)) ^^^ (-1)))
theorem d_B_enter_0 : decode b_B_enter 0 = .ok (.aload_n 0, 1) := by decide +kernel
theorem d_B_enter_1 : decode b_B_enter 1 = .ok (.dup, 1) := by decide +kernel
theorem d_B_enter_2 : decode b_B_enter 2 = .ok (.getfield 15, 3) := by decide +kernel
theorem d_B_enter_5 : decode b_B_enter 5 = .ok (.iconst 1, 1) := by decide +kernel
theorem d_B_enter_6 : decode b_B_enter 6 = .ok (.iload_n 1, 1) := by decide +kernel
theorem d_B_enter_7 : decode b_B_enter 7 = .ok (.ishl, 1) := by decide +kernel
theorem d_B_enter_8 : decode b_B_enter 8 = .ok (.ior, 1) := by decide +kernel
theorem d_B_enter_9 : decode b_B_enter 9 = .ok (.putfield 15, 3) := by decide +kernel
theorem d_B_enter_12 : decode b_B_enter 12 = .ok (.return_, 1) := by decide +kernel
set_option maxRecDepth 20000 in
theorem ct_B_enter (E : mm_En) (C : Nat → Nat → Int32) {b : Nat} (hs : bl_s b) (t : Nat) : mm_MT E K_B_enter [.ref b, .int (nI t)] (hp_H C) (mm_D none (bl_ent C b t)) := by
  refine mm_mtL (by decide) (by rfl) (Nat.le_of_ble_eq_true rfl) rfl ?_
  refine ev_aload_n (pc := 0) d_B_enter_0 rfl rfl (by first | rfl | exact mm_rk_rf _) ?_
  refine ev_dup (pc := 1) d_B_enter_1 (by rfl) ?_
  refine ev_gI (pc := 2) (by assumption) (by rfl) fl_B_15 d_B_enter_2 ?_
  refine ev_iconst (pc := 5) (v := 1) d_B_enter_5 rfl ?_
  refine ev_iload_n (pc := 6) d_B_enter_6 rfl rfl ?_
  refine ev_ishl (pc := 7) d_B_enter_7 ?_
  refine ev_ior (pc := 8) d_B_enter_8 ?_
  refine ev_pI (pc := 9) (by assumption) (by rfl) fl_B_15 fw_0_1 (by rfl) d_B_enter_9 ?_
  exact ev_vret (pc := 12) d_B_enter_12 rfl (Nat.zero_le _) (Nat.zero_le _) ⟨rfl, rfl⟩
theorem d_B_leave_0 : decode b_B_leave 0 = .ok (.aload_n 0, 1) := by decide +kernel
theorem d_B_leave_1 : decode b_B_leave 1 = .ok (.dup, 1) := by decide +kernel
theorem d_B_leave_2 : decode b_B_leave 2 = .ok (.getfield 15, 3) := by decide +kernel
theorem d_B_leave_5 : decode b_B_leave 5 = .ok (.iconst 1, 1) := by decide +kernel
theorem d_B_leave_6 : decode b_B_leave 6 = .ok (.iload_n 1, 1) := by decide +kernel
theorem d_B_leave_7 : decode b_B_leave 7 = .ok (.ishl, 1) := by decide +kernel
theorem d_B_leave_8 : decode b_B_leave 8 = .ok (.iconst (-1), 1) := by decide +kernel
theorem d_B_leave_9 : decode b_B_leave 9 = .ok (.ixor, 1) := by decide +kernel
theorem d_B_leave_10 : decode b_B_leave 10 = .ok (.iand, 1) := by decide +kernel
theorem d_B_leave_11 : decode b_B_leave 11 = .ok (.putfield 15, 3) := by decide +kernel
theorem d_B_leave_14 : decode b_B_leave 14 = .ok (.return_, 1) := by decide +kernel
set_option maxRecDepth 20000 in
theorem ct_B_leave (E : mm_En) (C : Nat → Nat → Int32) {b : Nat} (hs : bl_s b) (t : Nat) : mm_MT E K_B_leave [.ref b, .int (nI t)] (hp_H C) (mm_D none (bl_lv C b t)) := by
  refine mm_mtL (by decide) (by rfl) (Nat.le_of_ble_eq_true rfl) rfl ?_
  refine ev_aload_n (pc := 0) d_B_leave_0 rfl rfl (by first | rfl | exact mm_rk_rf _) ?_
  refine ev_dup (pc := 1) d_B_leave_1 (by rfl) ?_
  refine ev_gI (pc := 2) (by assumption) (by rfl) fl_B_15 d_B_leave_2 ?_
  refine ev_iconst (pc := 5) (v := 1) d_B_leave_5 rfl ?_
  refine ev_iload_n (pc := 6) d_B_leave_6 rfl rfl ?_
  refine ev_ishl (pc := 7) d_B_leave_7 ?_
  refine ev_iconst (pc := 8) (v := -1) d_B_leave_8 rfl ?_
  refine ev_ixor (pc := 9) d_B_leave_9 ?_
  refine ev_iand (pc := 10) d_B_leave_10 ?_
  refine ev_pI (pc := 11) (by assumption) (by rfl) fl_B_15 fw_0_1 (by rfl) d_B_leave_11 ?_
  exact ev_vret (pc := 14) d_B_leave_14 rfl (Nat.zero_le _) (Nat.zero_le _) ⟨rfl, rfl⟩
theorem d_B_is_0 : decode b_B_is 0 = .ok (.aload_n 0, 1) := by decide +kernel
theorem d_B_is_1 : decode b_B_is 1 = .ok (.getfield 19, 3) := by decide +kernel
theorem d_B_is_4 : decode b_B_is 4 = .ok (.iload_n 1, 1) := by decide +kernel
theorem d_B_is_5 : decode b_B_is 5 = .ok (.iand, 1) := by decide +kernel
theorem d_B_is_6 : decode b_B_is 6 = .ok (.ifCond .eq 7, 3) := by decide +kernel
theorem d_B_is_9 : decode b_B_is 9 = .ok (.iconst 1, 1) := by decide +kernel
theorem d_B_is_10 : decode b_B_is 10 = .ok (.goto 4, 3) := by decide +kernel
theorem d_B_is_13 : decode b_B_is 13 = .ok (.iconst 0, 1) := by decide +kernel
theorem d_B_is_14 : decode b_B_is 14 = .ok (.ireturn, 1) := by decide +kernel
set_option maxRecDepth 20000 in
theorem ct_B_is (E : mm_En) (C : Nat → Nat → Int32) {b : Nat} (hs : bl_s b) (x : Int32) : mm_MT E K_B_is [.ref b, .int x] (hp_H C) (mm_D (some (.int (b2_P (¬ (C b 8 &&& x) = 0)))) C) := by
  refine mm_mtL (by decide) (by rfl) (Nat.le_of_ble_eq_true rfl) rfl ?_
  refine ev_aload_n (pc := 0) d_B_is_0 rfl rfl (by first | rfl | exact mm_rk_rf _) ?_
  refine ev_gI (pc := 1) (by assumption) (by rfl) fl_B_19 d_B_is_1 ?_
  refine ev_iload_n (pc := 4) d_B_is_4 rfl rfl ?_
  refine ev_iand (pc := 5) d_B_is_5 ?_
  refine ev_if_eq (pc := 6) (tgt := 13) d_B_is_6 (by decide) (fun hc6 => ?_) (fun hc6 => ?_)
  · refine ev_iconst (pc := 13) (v := 0) d_B_is_13 rfl ?_
    exact ev_zret (pc := 14) d_B_is_14 rfl (by first | exact Or.inl rfl | exact Or.inr rfl | assumption) (Nat.zero_le _) (Nat.zero_le _) ⟨by first | rw [b2_t (by grind)] | rw [b2_f (by grind)], rfl⟩
  · refine ev_iconst (pc := 9) (v := 1) d_B_is_9 rfl ?_
    refine ev_goto (pc := 10) (tgt := 14) d_B_is_10 (by decide) ?_
    exact ev_zret (pc := 14) d_B_is_14 rfl (by first | exact Or.inl rfl | exact Or.inr rfl | assumption) (Nat.zero_le _) (Nat.zero_le _) ⟨by first | rw [b2_t (by grind)] | rw [b2_f (by grind)], rfl⟩
theorem d_B_isDirectory_0 : decode b_B_isDirectory 0 = .ok (.aload_n 0, 1) := by decide +kernel
theorem d_B_isDirectory_1 : decode b_B_isDirectory 1 = .ok (.sipush 2048, 3) := by decide +kernel
theorem d_B_isDirectory_4 : decode b_B_isDirectory 4 = .ok (.invokevirtual 22, 3) := by decide +kernel
theorem d_B_isDirectory_7 : decode b_B_isDirectory 7 = .ok (.ireturn, 1) := by decide +kernel
set_option maxRecDepth 20000 in
theorem ct_B_isDirectory (E : mm_En) (C : Nat → Nat → Int32) {b : Nat} (hs : bl_s b) : mm_MT E K_B_isDirectory [.ref b] (hp_H C) (mm_D (some (.int (b2_P (¬ (C b 8 &&& 2048) = 0)))) C) := by
  have h9 := b2_01 (¬ (C b 8 &&& 2048) = 0)
  refine mm_mtL (by decide) (by rfl) (Nat.le_of_ble_eq_true rfl) rfl ?_
  refine ev_aload_n (pc := 0) d_B_isDirectory_0 rfl rfl (by first | rfl | exact mm_rk_rf _) ?_
  refine ev_sipush (pc := 1) (v := 2048) d_B_isDirectory_1 (by decide) ?_
  refine ev_cV (pc := 4) (ct_B_is E C hs 2048) cl_B_22 jv_B_is ⟨(Nat.le_of_ble_eq_true rfl), (Nat.le_of_ble_eq_true rfl)⟩ rfl (by assumption) rfl (Nat.le_of_ble_eq_true rfl) d_B_isDirectory_4 ⟨Nat.zero_le _, Nat.zero_le _⟩ ?_
  exact ev_zret (pc := 7) d_B_isDirectory_7 rfl (by first | exact Or.inl rfl | exact Or.inr rfl | assumption) (Nat.zero_le _) (Nat.zero_le _) ⟨rfl, rfl⟩
theorem d_B_isNodeOf_0 : decode b_B_isNodeOf 0 = .ok (.aload_n 0, 1) := by decide +kernel
theorem d_B_isNodeOf_1 : decode b_B_isNodeOf 1 = .ok (.getfield 15, 3) := by decide +kernel
theorem d_B_isNodeOf_4 : decode b_B_isNodeOf 4 = .ok (.iconst 1, 1) := by decide +kernel
theorem d_B_isNodeOf_5 : decode b_B_isNodeOf 5 = .ok (.iload_n 1, 1) := by decide +kernel
theorem d_B_isNodeOf_6 : decode b_B_isNodeOf 6 = .ok (.ishl, 1) := by decide +kernel
theorem d_B_isNodeOf_7 : decode b_B_isNodeOf 7 = .ok (.iand, 1) := by decide +kernel
theorem d_B_isNodeOf_8 : decode b_B_isNodeOf 8 = .ok (.ifCond .eq 25, 3) := by decide +kernel
theorem d_B_isNodeOf_11 : decode b_B_isNodeOf 11 = .ok (.aload_n 0, 1) := by decide +kernel
theorem d_B_isNodeOf_12 : decode b_B_isNodeOf 12 = .ok (.getfield 26, 3) := by decide +kernel
theorem d_B_isNodeOf_15 : decode b_B_isNodeOf 15 = .ok (.aload_n 2, 1) := by decide +kernel
theorem d_B_isNodeOf_16 : decode b_B_isNodeOf 16 = .ok (.getfield 29, 3) := by decide +kernel
theorem d_B_isNodeOf_19 : decode b_B_isNodeOf 19 = .ok (.if_icmp .ne 14, 3) := by decide +kernel
theorem d_B_isNodeOf_22 : decode b_B_isNodeOf 22 = .ok (.aload_n 0, 1) := by decide +kernel
theorem d_B_isNodeOf_23 : decode b_B_isNodeOf 23 = .ok (.getfield 29, 3) := by decide +kernel
theorem d_B_isNodeOf_26 : decode b_B_isNodeOf 26 = .ok (.ifCond .eq 7, 3) := by decide +kernel
theorem d_B_isNodeOf_29 : decode b_B_isNodeOf 29 = .ok (.iconst 1, 1) := by decide +kernel
theorem d_B_isNodeOf_30 : decode b_B_isNodeOf 30 = .ok (.goto 4, 3) := by decide +kernel
theorem d_B_isNodeOf_33 : decode b_B_isNodeOf 33 = .ok (.iconst 0, 1) := by decide +kernel
theorem d_B_isNodeOf_34 : decode b_B_isNodeOf 34 = .ok (.ireturn, 1) := by decide +kernel
set_option maxRecDepth 20000 in
theorem ct_B_isNodeOf (E : mm_En) (C : Nat → Nat → Int32) {b d : Nat} (hs : bl_s b) (hd : bl_s d) {t : Nat} (ht : t < 32) : mm_MT E K_B_isNodeOf [.ref b, .int (nI t), .ref d] (hp_H C) (mm_D (some (.int (b2_P (bt (C b 1) t = true ∧ C b 3 = C d 2 ∧ ¬ C b 2 = 0)))) C) := by
  refine mm_mtL (by decide) (by rfl) (Nat.le_of_ble_eq_true rfl) rfl ?_
  refine ev_aload_n (pc := 0) d_B_isNodeOf_0 rfl rfl (by first | rfl | exact mm_rk_rf _) ?_
  refine ev_gI (pc := 1) (by assumption) (by rfl) fl_B_15 d_B_isNodeOf_1 ?_
  refine ev_iconst (pc := 4) (v := 1) d_B_isNodeOf_4 rfl ?_
  refine ev_iload_n (pc := 5) d_B_isNodeOf_5 rfl rfl ?_
  refine ev_ishl (pc := 6) d_B_isNodeOf_6 ?_
  refine ev_iand (pc := 7) d_B_isNodeOf_7 ?_
  refine ev_if_eq (pc := 8) (tgt := 33) d_B_isNodeOf_8 (by decide) (fun hc => ?_) (fun hc => ?_)
  · rw [tb_and ht] at hc
    refine ev_iconst (pc := 33) (v := 0) d_B_isNodeOf_33 rfl ?_
    exact ev_zret (pc := 34) d_B_isNodeOf_34 rfl (by first | exact Or.inl rfl | exact Or.inr rfl | assumption) (Nat.zero_le _) (Nat.zero_le _) ⟨by rw [b2_f (by grind)], rfl⟩
  · rw [tb_and ht] at hc
    refine ev_aload_n (pc := 11) d_B_isNodeOf_11 rfl rfl (by first | rfl | exact mm_rk_rf _) ?_
    refine ev_gI (pc := 12) (by assumption) (by rfl) fl_B_26 d_B_isNodeOf_12 ?_
    refine ev_aload_n (pc := 15) d_B_isNodeOf_15 rfl rfl (by first | rfl | exact mm_rk_rf _) ?_
    refine ev_gI (pc := 16) (by assumption) (by rfl) fl_B_29 d_B_isNodeOf_16 ?_
    refine ev_icmp_ne (pc := 19) (tgt := 33) d_B_isNodeOf_19 (by decide) (fun hc19 => ?_) (fun hc19 => ?_)
    · refine ev_iconst (pc := 33) (v := 0) d_B_isNodeOf_33 rfl ?_
      exact ev_zret (pc := 34) d_B_isNodeOf_34 rfl (by first | exact Or.inl rfl | exact Or.inr rfl | assumption) (Nat.zero_le _) (Nat.zero_le _) ⟨by first | rw [b2_t (by grind)] | rw [b2_f (by grind)], rfl⟩
    · refine ev_aload_n (pc := 22) d_B_isNodeOf_22 rfl rfl (by first | rfl | exact mm_rk_rf _) ?_
      refine ev_gI (pc := 23) (by assumption) (by rfl) fl_B_29 d_B_isNodeOf_23 ?_
      refine ev_if_eq (pc := 26) (tgt := 33) d_B_isNodeOf_26 (by decide) (fun hc26 => ?_) (fun hc26 => ?_)
      · refine ev_iconst (pc := 33) (v := 0) d_B_isNodeOf_33 rfl ?_
        exact ev_zret (pc := 34) d_B_isNodeOf_34 rfl (by first | exact Or.inl rfl | exact Or.inr rfl | assumption) (Nat.zero_le _) (Nat.zero_le _) ⟨by first | rw [b2_t (by grind)] | rw [b2_f (by grind)], rfl⟩
      · refine ev_iconst (pc := 29) (v := 1) d_B_isNodeOf_29 rfl ?_
        refine ev_goto (pc := 30) (tgt := 34) d_B_isNodeOf_30 (by decide) ?_
        exact ev_zret (pc := 34) d_B_isNodeOf_34 rfl (by first | exact Or.inl rfl | exact Or.inr rfl | assumption) (Nat.zero_le _) (Nat.zero_le _) ⟨by first | rw [b2_t (by grind)] | rw [b2_f (by grind)], rfl⟩
theorem d_B_begin_0 : decode b_B_begin 0 = .ok (.aload_n 0, 1) := by decide +kernel
theorem d_B_begin_1 : decode b_B_begin 1 = .ok (.iload_n 1, 1) := by decide +kernel
theorem d_B_begin_2 : decode b_B_begin 2 = .ok (.putfield 29, 3) := by decide +kernel
theorem d_B_begin_5 : decode b_B_begin 5 = .ok (.aload_n 0, 1) := by decide +kernel
theorem d_B_begin_6 : decode b_B_begin 6 = .ok (.iload_n 2, 1) := by decide +kernel
theorem d_B_begin_7 : decode b_B_begin 7 = .ok (.putfield 26, 3) := by decide +kernel
theorem d_B_begin_10 : decode b_B_begin 10 = .ok (.aload_n 0, 1) := by decide +kernel
theorem d_B_begin_11 : decode b_B_begin 11 = .ok (.iload_n 3, 1) := by decide +kernel
theorem d_B_begin_12 : decode b_B_begin 12 = .ok (.putfield 32, 3) := by decide +kernel
theorem d_B_begin_15 : decode b_B_begin 15 = .ok (.aload_n 0, 1) := by decide +kernel
theorem d_B_begin_16 : decode b_B_begin 16 = .ok (.iload 4, 2) := by decide +kernel
theorem d_B_begin_18 : decode b_B_begin 18 = .ok (.putfield 35, 3) := by decide +kernel
theorem d_B_begin_21 : decode b_B_begin 21 = .ok (.aload_n 0, 1) := by decide +kernel
theorem d_B_begin_22 : decode b_B_begin 22 = .ok (.iload 5, 2) := by decide +kernel
theorem d_B_begin_24 : decode b_B_begin 24 = .ok (.putfield 38, 3) := by decide +kernel
theorem d_B_begin_27 : decode b_B_begin 27 = .ok (.aload_n 0, 1) := by decide +kernel
theorem d_B_begin_28 : decode b_B_begin 28 = .ok (.iload 6, 2) := by decide +kernel
theorem d_B_begin_30 : decode b_B_begin 30 = .ok (.putfield 19, 3) := by decide +kernel
theorem d_B_begin_33 : decode b_B_begin 33 = .ok (.aload_n 0, 1) := by decide +kernel
theorem d_B_begin_34 : decode b_B_begin 34 = .ok (.iconst 0, 1) := by decide +kernel
theorem d_B_begin_35 : decode b_B_begin 35 = .ok (.putfield 41, 3) := by decide +kernel
theorem d_B_begin_38 : decode b_B_begin 38 = .ok (.aload_n 0, 1) := by decide +kernel
theorem d_B_begin_39 : decode b_B_begin 39 = .ok (.iconst 0, 1) := by decide +kernel
theorem d_B_begin_40 : decode b_B_begin 40 = .ok (.putfield 44, 3) := by decide +kernel
theorem d_B_begin_43 : decode b_B_begin 43 = .ok (.return_, 1) := by decide +kernel
def bl_beg (C : Nat → Nat → Int32) (b : Nat) (p a t o g m : Int32) : Nat → Nat → Int32 := cs_C (cs_C (cs_C (cs_C (cs_C (cs_C (cs_C (cs_C C b 2 p) b 3 a) b 4 t) b 5 o) b 6 g) b 8 m) b 7 0) b 9 0
set_option maxRecDepth 20000 in
theorem ct_B_begin (E : mm_En) (C : Nat → Nat → Int32) {b : Nat} (hs : bl_s b) (p a t o g m : Int32) : mm_MT E K_B_begin [.ref b, .int p, .int a, .int t, .int o, .int g, .int m] (hp_H C) (mm_D none (bl_beg C b p a t o g m)) := by
  refine mm_mtL (by decide) (by rfl) (Nat.le_of_ble_eq_true rfl) rfl ?_
  refine ev_aload_n (pc := 0) d_B_begin_0 rfl rfl (by first | rfl | exact mm_rk_rf _) ?_
  refine ev_iload_n (pc := 1) d_B_begin_1 rfl rfl ?_
  refine ev_pI (pc := 2) (by assumption) (by rfl) fl_B_29 fw_0_2 (by rfl) d_B_begin_2 ?_
  refine ev_aload_n (pc := 5) d_B_begin_5 rfl rfl (by first | rfl | exact mm_rk_rf _) ?_
  refine ev_iload_n (pc := 6) d_B_begin_6 rfl rfl ?_
  refine ev_pI (pc := 7) (by assumption) (by rfl) fl_B_26 fw_0_3 (by rfl) d_B_begin_7 ?_
  refine ev_aload_n (pc := 10) d_B_begin_10 rfl rfl (by first | rfl | exact mm_rk_rf _) ?_
  refine ev_iload_n (pc := 11) d_B_begin_11 rfl rfl ?_
  refine ev_pI (pc := 12) (by assumption) (by rfl) fl_B_32 fw_0_4 (by rfl) d_B_begin_12 ?_
  refine ev_aload_n (pc := 15) d_B_begin_15 rfl rfl (by first | rfl | exact mm_rk_rf _) ?_
  refine ev_iload (pc := 16) d_B_begin_16 rfl ?_
  refine ev_pI (pc := 18) (by assumption) (by rfl) fl_B_35 fw_0_5 (by rfl) d_B_begin_18 ?_
  refine ev_aload_n (pc := 21) d_B_begin_21 rfl rfl (by first | rfl | exact mm_rk_rf _) ?_
  refine ev_iload (pc := 22) d_B_begin_22 rfl ?_
  refine ev_pI (pc := 24) (by assumption) (by rfl) fl_B_38 fw_0_6 (by rfl) d_B_begin_24 ?_
  refine ev_aload_n (pc := 27) d_B_begin_27 rfl rfl (by first | rfl | exact mm_rk_rf _) ?_
  refine ev_iload (pc := 28) d_B_begin_28 rfl ?_
  refine ev_pI (pc := 30) (by assumption) (by rfl) fl_B_19 fw_0_8 (by rfl) d_B_begin_30 ?_
  refine ev_aload_n (pc := 33) d_B_begin_33 rfl rfl (by first | rfl | exact mm_rk_rf _) ?_
  refine ev_iconst (pc := 34) (v := 0) d_B_begin_34 rfl ?_
  refine ev_pI (pc := 35) (by assumption) (by rfl) fl_B_41 fw_0_7 (by rfl) d_B_begin_35 ?_
  refine ev_aload_n (pc := 38) d_B_begin_38 rfl rfl (by first | rfl | exact mm_rk_rf _) ?_
  refine ev_iconst (pc := 39) (v := 0) d_B_begin_39 rfl ?_
  refine ev_pI (pc := 40) (by assumption) (by rfl) fl_B_44 fw_0_9 (by rfl) d_B_begin_40 ?_
  exact ev_vret (pc := 43) d_B_begin_43 rfl (Nat.zero_le _) (Nat.zero_le _) ⟨rfl, rfl⟩
theorem d_B_byteAt_0 : decode b_B_byteAt 0 = .ok (.iload_n 1, 1) := by decide +kernel
theorem d_B_byteAt_1 : decode b_B_byteAt 1 = .ok (.ifCond .lt 18, 3) := by decide +kernel
theorem d_B_byteAt_4 : decode b_B_byteAt 4 = .ok (.iload_n 1, 1) := by decide +kernel
theorem d_B_byteAt_5 : decode b_B_byteAt 5 = .ok (.bipush 16, 2) := by decide +kernel
theorem d_B_byteAt_7 : decode b_B_byteAt 7 = .ok (.if_icmp .ge 12, 3) := by decide +kernel
theorem d_B_byteAt_10 : decode b_B_byteAt 10 = .ok (.aload_n 0, 1) := by decide +kernel
theorem d_B_byteAt_11 : decode b_B_byteAt 11 = .ok (.getfield 9, 3) := by decide +kernel
theorem d_B_byteAt_14 : decode b_B_byteAt 14 = .ok (.iload_n 1, 1) := by decide +kernel
theorem d_B_byteAt_15 : decode b_B_byteAt 15 = .ok (.iaload, 1) := by decide +kernel
theorem d_B_byteAt_16 : decode b_B_byteAt 16 = .ok (.goto 4, 3) := by decide +kernel
theorem d_B_byteAt_19 : decode b_B_byteAt 19 = .ok (.iconst 0, 1) := by decide +kernel
theorem d_B_byteAt_20 : decode b_B_byteAt 20 = .ok (.ireturn, 1) := by decide +kernel
set_option maxRecDepth 20000 in
theorem ct_B_byteAt (E : mm_En) (C : Nat → Nat → Int32) {b : Nat} (hs : bl_s b) (ha : bl_a b) (i : Nat) (hi : i < 16) : mm_MT E K_B_byteAt [.ref b, .int (nI i)] (hp_H C) (mm_D (some (.int (C (b + 1) i))) C) := by
  have hin : vp_in (nI i) 16 := vp_in_nI hi (by decide)
  have hcl : (nI i).toNatClampNeg = i := nI_clamp (by omega)
  refine mm_mtL (by decide) (by rfl) (Nat.le_of_ble_eq_true rfl) rfl ?_
  refine ev_iload_n (pc := 0) d_B_byteAt_0 rfl rfl ?_
  refine ev_if_lt (pc := 1) (tgt := 19) d_B_byteAt_1 (by decide) (fun hc => ?_) (fun hc => ?_)
  · exact absurd hc (nI_pos (by omega))
  refine ev_iload_n (pc := 4) d_B_byteAt_4 rfl rfl ?_
  refine ev_bipush (pc := 5) (v := 16) d_B_byteAt_5 (by decide) ?_
  refine ev_icmp_ge (pc := 7) (tgt := 19) d_B_byteAt_7 (by decide) (fun hd => ?_) (fun hd => ?_)
  · exact absurd hd (nI_ge hi (by decide))
  refine ev_aload_n (pc := 10) d_B_byteAt_10 rfl rfl (by first | rfl | exact mm_rk_rf _) ?_
  refine ev_gR (pc := 11) (by assumption) (by rfl) fl_B_9 d_B_byteAt_11 ?_
  refine ev_iload_n (pc := 14) d_B_byteAt_14 rfl rfl ?_
  refine ev_rI (pc := 15) (by assumption) (by assumption) d_B_byteAt_15 ?_
  refine ev_goto (pc := 16) (tgt := 20) d_B_byteAt_16 (by decide) ?_
  rw [hcl]
  exact ev_iret (pc := 20) d_B_byteAt_20 rfl (Nat.zero_le _) (Nat.zero_le _) ⟨rfl, rfl⟩
