/-! The members' rights; requests; the wish; how many numbers a kind wants; a connection. -/
noncomputable def ma_r (C : Nat → Nat → Int32) (u : Int32) (b : Nat) : Int32 := if me_b C u (C b 6) = 0 then (if u = C b 5 then (C b 8 &&& 7) ||| ((C b 8 >>> ((6 : Int32) &&& 31)) &&& 7) else (C b 8 &&& 7)) else (if u = C b 5 then (C b 8 &&& 7) ||| ((C b 8 >>> ((6 : Int32) &&& 31)) &&& 7) else (C b 8 &&& 7)) ||| ((C b 8 >>> ((3 : Int32) &&& 31)) &&& 7)
theorem d_M_may_0 : decode b_M_may 0 = .ok (.aload_n 2, 1) := by decide +kernel
theorem d_M_may_1 : decode b_M_may 1 = .ok (.ifnonnull 5, 3) := by decide +kernel
theorem d_M_may_4 : decode b_M_may 4 = .ok (.iconst 0, 1) := by decide +kernel
theorem d_M_may_5 : decode b_M_may 5 = .ok (.ireturn, 1) := by decide +kernel
theorem d_M_may_6 : decode b_M_may 6 = .ok (.aload_n 2, 1) := by decide +kernel
theorem d_M_may_7 : decode b_M_may 7 = .ok (.getfield 15, 3) := by decide +kernel
theorem d_M_may_10 : decode b_M_may 10 = .ok (.bipush 7, 2) := by decide +kernel
theorem d_M_may_12 : decode b_M_may 12 = .ok (.iand, 1) := by decide +kernel
theorem d_M_may_13 : decode b_M_may 13 = .ok (.istore 4, 2) := by decide +kernel
theorem d_M_may_15 : decode b_M_may 15 = .ok (.iload_n 1, 1) := by decide +kernel
theorem d_M_may_16 : decode b_M_may 16 = .ok (.aload_n 2, 1) := by decide +kernel
theorem d_M_may_17 : decode b_M_may 17 = .ok (.getfield 20, 3) := by decide +kernel
theorem d_M_may_20 : decode b_M_may 20 = .ok (.if_icmp .ne 18, 3) := by decide +kernel
theorem d_M_may_23 : decode b_M_may 23 = .ok (.iload 4, 2) := by decide +kernel
theorem d_M_may_25 : decode b_M_may 25 = .ok (.aload_n 2, 1) := by decide +kernel
theorem d_M_may_26 : decode b_M_may 26 = .ok (.getfield 15, 3) := by decide +kernel
theorem d_M_may_29 : decode b_M_may 29 = .ok (.bipush 6, 2) := by decide +kernel
theorem d_M_may_31 : decode b_M_may 31 = .ok (.ishr, 1) := by decide +kernel
theorem d_M_may_32 : decode b_M_may 32 = .ok (.bipush 7, 2) := by decide +kernel
theorem d_M_may_34 : decode b_M_may 34 = .ok (.iand, 1) := by decide +kernel
theorem d_M_may_35 : decode b_M_may 35 = .ok (.ior, 1) := by decide +kernel
theorem d_M_may_36 : decode b_M_may 36 = .ok (.istore 4, 2) := by decide +kernel
theorem d_M_may_38 : decode b_M_may 38 = .ok (.aload_n 0, 1) := by decide +kernel
theorem d_M_may_39 : decode b_M_may 39 = .ok (.iload_n 1, 1) := by decide +kernel
theorem d_M_may_40 : decode b_M_may 40 = .ok (.aload_n 2, 1) := by decide +kernel
theorem d_M_may_41 : decode b_M_may 41 = .ok (.getfield 23, 3) := by decide +kernel
theorem d_M_may_44 : decode b_M_may 44 = .ok (.invokevirtual 26, 3) := by decide +kernel
theorem d_M_may_47 : decode b_M_may 47 = .ok (.ifCond .eq 17, 3) := by decide +kernel
theorem d_M_may_50 : decode b_M_may 50 = .ok (.iload 4, 2) := by decide +kernel
theorem d_M_may_52 : decode b_M_may 52 = .ok (.aload_n 2, 1) := by decide +kernel
theorem d_M_may_53 : decode b_M_may 53 = .ok (.getfield 15, 3) := by decide +kernel
theorem d_M_may_56 : decode b_M_may 56 = .ok (.iconst 3, 1) := by decide +kernel
theorem d_M_may_57 : decode b_M_may 57 = .ok (.ishr, 1) := by decide +kernel
theorem d_M_may_58 : decode b_M_may 58 = .ok (.bipush 7, 2) := by decide +kernel
theorem d_M_may_60 : decode b_M_may 60 = .ok (.iand, 1) := by decide +kernel
theorem d_M_may_61 : decode b_M_may 61 = .ok (.ior, 1) := by decide +kernel
theorem d_M_may_62 : decode b_M_may 62 = .ok (.istore 4, 2) := by decide +kernel
theorem d_M_may_64 : decode b_M_may 64 = .ok (.iload 4, 2) := by decide +kernel
theorem d_M_may_66 : decode b_M_may 66 = .ok (.iload_n 3, 1) := by decide +kernel
theorem d_M_may_67 : decode b_M_may 67 = .ok (.iand, 1) := by decide +kernel
theorem d_M_may_68 : decode b_M_may 68 = .ok (.ifCond .eq 7, 3) := by decide +kernel
theorem d_M_may_71 : decode b_M_may 71 = .ok (.iconst 1, 1) := by decide +kernel
theorem d_M_may_72 : decode b_M_may 72 = .ok (.goto 4, 3) := by decide +kernel
theorem d_M_may_75 : decode b_M_may 75 = .ok (.iconst 0, 1) := by decide +kernel
theorem d_M_may_76 : decode b_M_may 76 = .ok (.ireturn, 1) := by decide +kernel
set_option maxRecDepth 20000 in
theorem ct_M_may (E : mm_En) (C : Nat → Nat → Int32) {b : Nat} (hb : bl_s b) (u x : Int32) : mm_MT E K_M_may [.ref 131, .int u, .ref b, .int x] (hp_H C) (mm_D (some (.int (b2_P (¬ (ma_r C u b &&& x) = 0)))) C) := by
  have s1 := sh_M
  refine mm_mtL (by decide) (by rfl) (Nat.le_of_ble_eq_true rfl) rfl ?_
  refine ev_aload_n (pc := 0) d_M_may_0 rfl rfl (by first | rfl | exact mm_rk_rf _) ?_
  refine ev_ifnonnullR (pc := 1) (tgt := 6) d_M_may_1 (by decide) ?_
  refine ev_aload_n (pc := 6) d_M_may_6 rfl rfl (by first | rfl | exact mm_rk_rf _) ?_
  refine ev_gI (pc := 7) (by assumption) (by rfl) fl_M_15 d_M_may_7 ?_
  refine ev_bipush (pc := 10) (v := 7) d_M_may_10 (by decide) ?_
  refine ev_iand (pc := 12) d_M_may_12 ?_
  refine ev_istore (pc := 13) d_M_may_13 (Nat.le_of_ble_eq_true rfl) rfl ?_
  try dsimp only [List.set]
  refine ev_iload_n (pc := 15) d_M_may_15 rfl rfl ?_
  refine ev_aload_n (pc := 16) d_M_may_16 rfl rfl (by first | rfl | exact mm_rk_rf _) ?_
  refine ev_gI (pc := 17) (by assumption) (by rfl) fl_M_20 d_M_may_17 ?_
  refine ev_icmp_ne (pc := 20) (tgt := 38) d_M_may_20 (by decide) (fun hc20 => ?_) (fun hc20 => ?_)
  · refine ev_aload_n (pc := 38) d_M_may_38 rfl rfl (by first | rfl | exact mm_rk_rf _) ?_
    refine ev_iload_n (pc := 39) d_M_may_39 rfl rfl ?_
    refine ev_aload_n (pc := 40) d_M_may_40 rfl rfl (by first | rfl | exact mm_rk_rf _) ?_
    refine ev_gI (pc := 41) (by assumption) (by rfl) fl_M_23 d_M_may_41 ?_
    refine ev_cV (pc := 44) (ct_M_isIn E C _ _) cl_M_26 jv_M_isIn ⟨(Nat.le_of_ble_eq_true rfl), (Nat.le_of_ble_eq_true rfl)⟩ rfl (by assumption) rfl (Nat.le_of_ble_eq_true rfl) d_M_may_44 ⟨Nat.zero_le _, Nat.zero_le _⟩ ?_
    refine ev_if_eq (pc := 47) (tgt := 64) d_M_may_47 (by decide) (fun hc47 => ?_) (fun hc47 => ?_)
    · refine ev_iload (pc := 64) d_M_may_64 rfl ?_
      refine ev_iload_n (pc := 66) d_M_may_66 rfl rfl ?_
      refine ev_iand (pc := 67) d_M_may_67 ?_
      refine ev_if_eq (pc := 68) (tgt := 75) d_M_may_68 (by decide) (fun hc68 => ?_) (fun hc68 => ?_)
      · refine ev_iconst (pc := 75) (v := 0) d_M_may_75 rfl ?_
        exact ev_zret (pc := 76) d_M_may_76 rfl (by first | exact Or.inl rfl | exact Or.inr rfl | assumption) (Nat.zero_le _) (Nat.zero_le _) ⟨by first | rw [b2_t (by unfold ma_r; grind)] | rw [b2_f (by unfold ma_r; grind)], rfl⟩
      · refine ev_iconst (pc := 71) (v := 1) d_M_may_71 rfl ?_
        refine ev_goto (pc := 72) (tgt := 76) d_M_may_72 (by decide) ?_
        exact ev_zret (pc := 76) d_M_may_76 rfl (by first | exact Or.inl rfl | exact Or.inr rfl | assumption) (Nat.zero_le _) (Nat.zero_le _) ⟨by first | rw [b2_t (by unfold ma_r; grind)] | rw [b2_f (by unfold ma_r; grind)], rfl⟩
    · refine ev_iload (pc := 50) d_M_may_50 rfl ?_
      refine ev_aload_n (pc := 52) d_M_may_52 rfl rfl (by first | rfl | exact mm_rk_rf _) ?_
      refine ev_gI (pc := 53) (by assumption) (by rfl) fl_M_15 d_M_may_53 ?_
      refine ev_iconst (pc := 56) (v := 3) d_M_may_56 rfl ?_
      refine ev_ishr (pc := 57) d_M_may_57 ?_
      refine ev_bipush (pc := 58) (v := 7) d_M_may_58 (by decide) ?_
      refine ev_iand (pc := 60) d_M_may_60 ?_
      refine ev_ior (pc := 61) d_M_may_61 ?_
      refine ev_istore (pc := 62) d_M_may_62 (Nat.le_of_ble_eq_true rfl) rfl ?_
      try dsimp only [List.set]
      refine ev_iload (pc := 64) d_M_may_64 rfl ?_
      refine ev_iload_n (pc := 66) d_M_may_66 rfl rfl ?_
      refine ev_iand (pc := 67) d_M_may_67 ?_
      refine ev_if_eq (pc := 68) (tgt := 75) d_M_may_68 (by decide) (fun hc68 => ?_) (fun hc68 => ?_)
      · refine ev_iconst (pc := 75) (v := 0) d_M_may_75 rfl ?_
        exact ev_zret (pc := 76) d_M_may_76 rfl (by first | exact Or.inl rfl | exact Or.inr rfl | assumption) (Nat.zero_le _) (Nat.zero_le _) ⟨by first | rw [b2_t (by unfold ma_r; grind)] | rw [b2_f (by unfold ma_r; grind)], rfl⟩
      · refine ev_iconst (pc := 71) (v := 1) d_M_may_71 rfl ?_
        refine ev_goto (pc := 72) (tgt := 76) d_M_may_72 (by decide) ?_
        exact ev_zret (pc := 76) d_M_may_76 rfl (by first | exact Or.inl rfl | exact Or.inr rfl | assumption) (Nat.zero_le _) (Nat.zero_le _) ⟨by first | rw [b2_t (by unfold ma_r; grind)] | rw [b2_f (by unfold ma_r; grind)], rfl⟩
  · refine ev_iload (pc := 23) d_M_may_23 rfl ?_
    refine ev_aload_n (pc := 25) d_M_may_25 rfl rfl (by first | rfl | exact mm_rk_rf _) ?_
    refine ev_gI (pc := 26) (by assumption) (by rfl) fl_M_15 d_M_may_26 ?_
    refine ev_bipush (pc := 29) (v := 6) d_M_may_29 (by decide) ?_
    refine ev_ishr (pc := 31) d_M_may_31 ?_
    refine ev_bipush (pc := 32) (v := 7) d_M_may_32 (by decide) ?_
    refine ev_iand (pc := 34) d_M_may_34 ?_
    refine ev_ior (pc := 35) d_M_may_35 ?_
    refine ev_istore (pc := 36) d_M_may_36 (Nat.le_of_ble_eq_true rfl) rfl ?_
    try dsimp only [List.set]
    refine ev_aload_n (pc := 38) d_M_may_38 rfl rfl (by first | rfl | exact mm_rk_rf _) ?_
    refine ev_iload_n (pc := 39) d_M_may_39 rfl rfl ?_
    refine ev_aload_n (pc := 40) d_M_may_40 rfl rfl (by first | rfl | exact mm_rk_rf _) ?_
    refine ev_gI (pc := 41) (by assumption) (by rfl) fl_M_23 d_M_may_41 ?_
    refine ev_cV (pc := 44) (ct_M_isIn E C _ _) cl_M_26 jv_M_isIn ⟨(Nat.le_of_ble_eq_true rfl), (Nat.le_of_ble_eq_true rfl)⟩ rfl (by assumption) rfl (Nat.le_of_ble_eq_true rfl) d_M_may_44 ⟨Nat.zero_le _, Nat.zero_le _⟩ ?_
    refine ev_if_eq (pc := 47) (tgt := 64) d_M_may_47 (by decide) (fun hc47 => ?_) (fun hc47 => ?_)
    · refine ev_iload (pc := 64) d_M_may_64 rfl ?_
      refine ev_iload_n (pc := 66) d_M_may_66 rfl rfl ?_
      refine ev_iand (pc := 67) d_M_may_67 ?_
      refine ev_if_eq (pc := 68) (tgt := 75) d_M_may_68 (by decide) (fun hc68 => ?_) (fun hc68 => ?_)
      · refine ev_iconst (pc := 75) (v := 0) d_M_may_75 rfl ?_
        exact ev_zret (pc := 76) d_M_may_76 rfl (by first | exact Or.inl rfl | exact Or.inr rfl | assumption) (Nat.zero_le _) (Nat.zero_le _) ⟨by first | rw [b2_t (by unfold ma_r; grind)] | rw [b2_f (by unfold ma_r; grind)], rfl⟩
      · refine ev_iconst (pc := 71) (v := 1) d_M_may_71 rfl ?_
        refine ev_goto (pc := 72) (tgt := 76) d_M_may_72 (by decide) ?_
        exact ev_zret (pc := 76) d_M_may_76 rfl (by first | exact Or.inl rfl | exact Or.inr rfl | assumption) (Nat.zero_le _) (Nat.zero_le _) ⟨by first | rw [b2_t (by unfold ma_r; grind)] | rw [b2_f (by unfold ma_r; grind)], rfl⟩
    · refine ev_iload (pc := 50) d_M_may_50 rfl ?_
      refine ev_aload_n (pc := 52) d_M_may_52 rfl rfl (by first | rfl | exact mm_rk_rf _) ?_
      refine ev_gI (pc := 53) (by assumption) (by rfl) fl_M_15 d_M_may_53 ?_
      refine ev_iconst (pc := 56) (v := 3) d_M_may_56 rfl ?_
      refine ev_ishr (pc := 57) d_M_may_57 ?_
      refine ev_bipush (pc := 58) (v := 7) d_M_may_58 (by decide) ?_
      refine ev_iand (pc := 60) d_M_may_60 ?_
      refine ev_ior (pc := 61) d_M_may_61 ?_
      refine ev_istore (pc := 62) d_M_may_62 (Nat.le_of_ble_eq_true rfl) rfl ?_
      try dsimp only [List.set]
      refine ev_iload (pc := 64) d_M_may_64 rfl ?_
      refine ev_iload_n (pc := 66) d_M_may_66 rfl rfl ?_
      refine ev_iand (pc := 67) d_M_may_67 ?_
      refine ev_if_eq (pc := 68) (tgt := 75) d_M_may_68 (by decide) (fun hc68 => ?_) (fun hc68 => ?_)
      · refine ev_iconst (pc := 75) (v := 0) d_M_may_75 rfl ?_
        exact ev_zret (pc := 76) d_M_may_76 rfl (by first | exact Or.inl rfl | exact Or.inr rfl | assumption) (Nat.zero_le _) (Nat.zero_le _) ⟨by first | rw [b2_t (by unfold ma_r; grind)] | rw [b2_f (by unfold ma_r; grind)], rfl⟩
      · refine ev_iconst (pc := 71) (v := 1) d_M_may_71 rfl ?_
        refine ev_goto (pc := 72) (tgt := 76) d_M_may_72 (by decide) ?_
        exact ev_zret (pc := 76) d_M_may_76 rfl (by first | exact Or.inl rfl | exact Or.inr rfl | assumption) (Nat.zero_le _) (Nat.zero_le _) ⟨by first | rw [b2_t (by unfold ma_r; grind)] | rw [b2_f (by unfold ma_r; grind)], rfl⟩
set_option maxRecDepth 20000 in
theorem ct_M_mayN (E : mm_En) (C : Nat → Nat → Int32) (u x : Int32) : mm_MT E K_M_may [.ref 131, .int u, .null, .int x] (hp_H C) (mm_D (some (.int 0)) C) := by
  have s1 := sh_M
  refine mm_mtL (by decide) (by rfl) (Nat.le_of_ble_eq_true rfl) rfl ?_
  refine ev_aload_n (pc := 0) d_M_may_0 rfl rfl (by first | rfl | exact mm_rk_rf _) ?_
  refine ev_ifnonnullN (pc := 1) d_M_may_1 ?_
  refine ev_iconst (pc := 4) (v := 0) d_M_may_4 rfl ?_
  exact ev_zret (pc := 5) d_M_may_5 rfl (by first | exact Or.inl rfl | exact Or.inr rfl | assumption) (Nat.zero_le _) (Nat.zero_le _) ⟨rfl, rfl⟩
/-- a request at the cell q, its row at q + 1, that row's array at q + 2 -/
abbrev rq_s (q : Nat) : Prop := hp_S[q]? = some (.inr (4, [some (q + 1), none, none, none]))
def rq_beg (C : Nat → Nat → Int32) (q o k : Nat) (kd f : Int32) : Nat → Nat → Int32 := cs_C (rw_cp (cs_C (cs_C C q 2 kd) q 3 f) (q + 1) o k) q 1 1
theorem d_Q_begin_0 : decode b_Q_begin 0 = .ok (.aload_n 0, 1) := by decide +kernel
theorem d_Q_begin_1 : decode b_Q_begin 1 = .ok (.iload_n 1, 1) := by decide +kernel
theorem d_Q_begin_2 : decode b_Q_begin 2 = .ok (.putfield 20, 3) := by decide +kernel
theorem d_Q_begin_5 : decode b_Q_begin 5 = .ok (.aload_n 0, 1) := by decide +kernel
theorem d_Q_begin_6 : decode b_Q_begin 6 = .ok (.iload_n 2, 1) := by decide +kernel
theorem d_Q_begin_7 : decode b_Q_begin 7 = .ok (.putfield 24, 3) := by decide +kernel
theorem d_Q_begin_10 : decode b_Q_begin 10 = .ok (.aload_n 0, 1) := by decide +kernel
theorem d_Q_begin_11 : decode b_Q_begin 11 = .ok (.getfield 14, 3) := by decide +kernel
theorem d_Q_begin_14 : decode b_Q_begin 14 = .ok (.aload_n 3, 1) := by decide +kernel
theorem d_Q_begin_15 : decode b_Q_begin 15 = .ok (.invokevirtual 27, 3) := by decide +kernel
theorem d_Q_begin_18 : decode b_Q_begin 18 = .ok (.aload_n 0, 1) := by decide +kernel
theorem d_Q_begin_19 : decode b_Q_begin 19 = .ok (.iconst 1, 1) := by decide +kernel
theorem d_Q_begin_20 : decode b_Q_begin 20 = .ok (.putfield 31, 3) := by decide +kernel
theorem d_Q_begin_23 : decode b_Q_begin 23 = .ok (.return_, 1) := by decide +kernel
set_option maxRecDepth 20000 in
theorem ct_Q_begin (E : mm_En) (C : Nat → Nat → Int32) {q o n n' k : Nat} (hq : rq_s q) (hs : rw_s (q + 1) n) (ho : rw_s o n') (hn : n < 2 ^ 31) (hn' : n' < 2 ^ 31) (hk : C o 1 = nI k) (h1 : k ≤ n) (h2 : k ≤ n') (hne : o ≠ q ∧ o ≠ q + 1 ∧ o ≠ q + 2 ∧ o + 1 ≠ q + 1) (kd f : Int32) : mm_MT E K_Q_begin [.ref q, .int kd, .int f, .ref o] (hp_H C) (mm_D none (rq_beg C q o k kd f)) := by
  obtain ⟨n1, n2, n3, n4⟩ := hne
  have hM := ct_R_copyFrom E (cs_C (cs_C C q 2 kd) q 3 f) hs ho hn hn' (by rw [cs_ne _ _ (by omega), cs_ne _ _ (by omega)]; exact hk) h1 h2 ⟨n2, n3, n4⟩
  obtain ⟨g1, g2⟩ := hs
  refine mm_mtL (by decide) (by rfl) (Nat.le_of_ble_eq_true rfl) rfl ?_
  refine ev_aload_n (pc := 0) d_Q_begin_0 rfl rfl (by first | rfl | exact mm_rk_rf _) ?_
  refine ev_iload_n (pc := 1) d_Q_begin_1 rfl rfl ?_
  refine ev_pI (pc := 2) (by assumption) (by rfl) fl_Q_20 fw_4_2 (by rfl) d_Q_begin_2 ?_
  refine ev_aload_n (pc := 5) d_Q_begin_5 rfl rfl (by first | rfl | exact mm_rk_rf _) ?_
  refine ev_iload_n (pc := 6) d_Q_begin_6 rfl rfl ?_
  refine ev_pI (pc := 7) (by assumption) (by rfl) fl_Q_24 fw_4_3 (by rfl) d_Q_begin_7 ?_
  refine ev_aload_n (pc := 10) d_Q_begin_10 rfl rfl (by first | rfl | exact mm_rk_rf _) ?_
  refine ev_gR (pc := 11) (by assumption) (by rfl) fl_Q_14 d_Q_begin_11 ?_
  refine ev_aload_n (pc := 14) d_Q_begin_14 rfl rfl (by first | rfl | exact mm_rk_rf _) ?_
  refine ev_cVv (pc := 15) hM cl_Q_27 jv_R_copyFrom ⟨(Nat.le_of_ble_eq_true rfl), (Nat.le_of_ble_eq_true rfl)⟩ rfl (by assumption) rfl (Nat.le_of_ble_eq_true rfl) d_Q_begin_15 ⟨Nat.zero_le _, Nat.zero_le _⟩ ?_
  refine ev_aload_n (pc := 18) d_Q_begin_18 rfl rfl (by first | rfl | exact mm_rk_rf _) ?_
  refine ev_iconst (pc := 19) (v := 1) d_Q_begin_19 rfl ?_
  refine ev_pI (pc := 20) (by assumption) (by rfl) fl_Q_31 fw_4_1 (by rfl) d_Q_begin_20 ?_
  exact ev_vret (pc := 23) d_Q_begin_23 rfl (Nat.zero_le _) (Nat.zero_le _) ⟨rfl, rfl⟩
theorem rw_at_cs {C : Nat → Nat → Int32} {r n i k : Nat} {v x : Int32} (h1 : r ≠ i) (h2 : r + 1 ≠ i) : rw_at (cs_C C i k v) r n x = rw_at C r n x := by
  unfold rw_at
  rw [cs_ne C v (by omega)]
  by_cases h : 0 ≤ x ∧ x < C r 1 ∧ x < nI n
  · rw [if_pos h, if_pos h, cs_ne C v (by omega)]
  · rw [if_neg h, if_neg h]
def wi_bec (C : Nat → Nat → Int32) (o n : Nat) : Nat → Nat → Int32 := cs_C (cs_C (cs_C (cs_C C 203 0 (rw_at C o n 0)) 203 1 (rw_at C o n 1)) 203 2 (rw_at C o n 2)) 203 3 (rw_at C o n 3)
theorem d_W_become_0 : decode b_W_become 0 = .ok (.aload_n 0, 1) := by decide +kernel
theorem d_W_become_1 : decode b_W_become 1 = .ok (.aload_n 1, 1) := by decide +kernel
theorem d_W_become_2 : decode b_W_become 2 = .ok (.iconst 0, 1) := by decide +kernel
theorem d_W_become_3 : decode b_W_become 3 = .ok (.invokevirtual 9, 3) := by decide +kernel
theorem d_W_become_6 : decode b_W_become 6 = .ok (.putfield 15, 3) := by decide +kernel
theorem d_W_become_9 : decode b_W_become 9 = .ok (.aload_n 0, 1) := by decide +kernel
theorem d_W_become_10 : decode b_W_become 10 = .ok (.aload_n 1, 1) := by decide +kernel
theorem d_W_become_11 : decode b_W_become 11 = .ok (.iconst 1, 1) := by decide +kernel
theorem d_W_become_12 : decode b_W_become 12 = .ok (.invokevirtual 9, 3) := by decide +kernel
theorem d_W_become_15 : decode b_W_become 15 = .ok (.putfield 21, 3) := by decide +kernel
theorem d_W_become_18 : decode b_W_become 18 = .ok (.aload_n 0, 1) := by decide +kernel
theorem d_W_become_19 : decode b_W_become 19 = .ok (.aload_n 1, 1) := by decide +kernel
theorem d_W_become_20 : decode b_W_become 20 = .ok (.iconst 2, 1) := by decide +kernel
theorem d_W_become_21 : decode b_W_become 21 = .ok (.invokevirtual 9, 3) := by decide +kernel
theorem d_W_become_24 : decode b_W_become 24 = .ok (.putfield 24, 3) := by decide +kernel
theorem d_W_become_27 : decode b_W_become 27 = .ok (.aload_n 0, 1) := by decide +kernel
theorem d_W_become_28 : decode b_W_become 28 = .ok (.aload_n 1, 1) := by decide +kernel
theorem d_W_become_29 : decode b_W_become 29 = .ok (.iconst 3, 1) := by decide +kernel
theorem d_W_become_30 : decode b_W_become 30 = .ok (.invokevirtual 9, 3) := by decide +kernel
theorem d_W_become_33 : decode b_W_become 33 = .ok (.putfield 27, 3) := by decide +kernel
theorem d_W_become_36 : decode b_W_become 36 = .ok (.return_, 1) := by decide +kernel
set_option maxRecDepth 20000 in
theorem ct_W_become (E : mm_En) (C : Nat → Nat → Int32) {o n : Nat} (ho : rw_s o n) (hn : n < 2 ^ 31) (h1 : o ≠ 203) (h2 : o + 1 ≠ 203) : mm_MT E K_W_become [.ref 203, .ref o] (hp_H C) (mm_D none (wi_bec C o n)) := by
  have s1 := sh_W
  have ho2 := ho
  obtain ⟨g1, g2⟩ := ho
  refine mm_mtL (by decide) (by rfl) (Nat.le_of_ble_eq_true rfl) rfl ?_
  refine ev_aload_n (pc := 0) d_W_become_0 rfl rfl (by first | rfl | exact mm_rk_rf _) ?_
  refine ev_aload_n (pc := 1) d_W_become_1 rfl rfl (by first | rfl | exact mm_rk_rf _) ?_
  refine ev_iconst (pc := 2) (v := 0) d_W_become_2 rfl ?_
  refine ev_cV (pc := 3) (ct_R_at E _ ho2 hn _) cl_W_9 jv_R_at ⟨(Nat.le_of_ble_eq_true rfl), (Nat.le_of_ble_eq_true rfl)⟩ rfl (by assumption) rfl (Nat.le_of_ble_eq_true rfl) d_W_become_3 ⟨Nat.zero_le _, Nat.zero_le _⟩ ?_
  refine ev_pI (pc := 6) (by assumption) (by rfl) fl_W_15 fw_7_0 (by rfl) d_W_become_6 ?_
  refine ev_aload_n (pc := 9) d_W_become_9 rfl rfl (by first | rfl | exact mm_rk_rf _) ?_
  refine ev_aload_n (pc := 10) d_W_become_10 rfl rfl (by first | rfl | exact mm_rk_rf _) ?_
  refine ev_iconst (pc := 11) (v := 1) d_W_become_11 rfl ?_
  refine ev_cV (pc := 12) (ct_R_at E _ ho2 hn _) cl_W_9 jv_R_at ⟨(Nat.le_of_ble_eq_true rfl), (Nat.le_of_ble_eq_true rfl)⟩ rfl (by assumption) rfl (Nat.le_of_ble_eq_true rfl) d_W_become_12 ⟨Nat.zero_le _, Nat.zero_le _⟩ ?_
  rw [rw_at_cs h1 h2]
  refine ev_pI (pc := 15) (by assumption) (by rfl) fl_W_21 fw_7_1 (by rfl) d_W_become_15 ?_
  refine ev_aload_n (pc := 18) d_W_become_18 rfl rfl (by first | rfl | exact mm_rk_rf _) ?_
  refine ev_aload_n (pc := 19) d_W_become_19 rfl rfl (by first | rfl | exact mm_rk_rf _) ?_
  refine ev_iconst (pc := 20) (v := 2) d_W_become_20 rfl ?_
  refine ev_cV (pc := 21) (ct_R_at E _ ho2 hn _) cl_W_9 jv_R_at ⟨(Nat.le_of_ble_eq_true rfl), (Nat.le_of_ble_eq_true rfl)⟩ rfl (by assumption) rfl (Nat.le_of_ble_eq_true rfl) d_W_become_21 ⟨Nat.zero_le _, Nat.zero_le _⟩ ?_
  rw [rw_at_cs h1 h2, rw_at_cs h1 h2]
  refine ev_pI (pc := 24) (by assumption) (by rfl) fl_W_24 fw_7_2 (by rfl) d_W_become_24 ?_
  refine ev_aload_n (pc := 27) d_W_become_27 rfl rfl (by first | rfl | exact mm_rk_rf _) ?_
  refine ev_aload_n (pc := 28) d_W_become_28 rfl rfl (by first | rfl | exact mm_rk_rf _) ?_
  refine ev_iconst (pc := 29) (v := 3) d_W_become_29 rfl ?_
  refine ev_cV (pc := 30) (ct_R_at E _ ho2 hn _) cl_W_9 jv_R_at ⟨(Nat.le_of_ble_eq_true rfl), (Nat.le_of_ble_eq_true rfl)⟩ rfl (by assumption) rfl (Nat.le_of_ble_eq_true rfl) d_W_become_30 ⟨Nat.zero_le _, Nat.zero_le _⟩ ?_
  rw [rw_at_cs h1 h2, rw_at_cs h1 h2, rw_at_cs h1 h2]
  refine ev_pI (pc := 33) (by assumption) (by rfl) fl_W_27 fw_7_3 (by rfl) d_W_become_33 ?_
  exact ev_vret (pc := 36) d_W_become_36 rfl (Nat.zero_le _) (Nat.zero_le _) ⟨rfl, rfl⟩
theorem d_W_canBe_0 : decode b_W_canBe 0 = .ok (.aload_n 0, 1) := by decide +kernel
theorem d_W_canBe_1 : decode b_W_canBe 1 = .ok (.getfield 15, 3) := by decide +kernel
theorem d_W_canBe_4 : decode b_W_canBe 4 = .ok (.iconst (-1), 1) := by decide +kernel
theorem d_W_canBe_5 : decode b_W_canBe 5 = .ok (.if_icmp .eq 22, 3) := by decide +kernel
theorem d_W_canBe_8 : decode b_W_canBe 8 = .ok (.aload_n 0, 1) := by decide +kernel
theorem d_W_canBe_9 : decode b_W_canBe 9 = .ok (.getfield 15, 3) := by decide +kernel
theorem d_W_canBe_12 : decode b_W_canBe 12 = .ok (.invokestatic 30, 3) := by decide +kernel
theorem d_W_canBe_15 : decode b_W_canBe 15 = .ok (.ifCond .eq 10, 3) := by decide +kernel
theorem d_W_canBe_18 : decode b_W_canBe 18 = .ok (.aload_n 1, 1) := by decide +kernel
theorem d_W_canBe_19 : decode b_W_canBe 19 = .ok (.getfield 34, 3) := by decide +kernel
theorem d_W_canBe_22 : decode b_W_canBe 22 = .ok (.ifCond .ne 5, 3) := by decide +kernel
theorem d_W_canBe_25 : decode b_W_canBe 25 = .ok (.iconst 0, 1) := by decide +kernel
theorem d_W_canBe_26 : decode b_W_canBe 26 = .ok (.ireturn, 1) := by decide +kernel
theorem d_W_canBe_27 : decode b_W_canBe 27 = .ok (.aload_n 0, 1) := by decide +kernel
theorem d_W_canBe_28 : decode b_W_canBe 28 = .ok (.getfield 24, 3) := by decide +kernel
theorem d_W_canBe_31 : decode b_W_canBe 31 = .ok (.iconst (-1), 1) := by decide +kernel
theorem d_W_canBe_32 : decode b_W_canBe 32 = .ok (.if_icmp .eq 28, 3) := by decide +kernel
theorem d_W_canBe_35 : decode b_W_canBe 35 = .ok (.aload_n 0, 1) := by decide +kernel
theorem d_W_canBe_36 : decode b_W_canBe 36 = .ok (.getfield 24, 3) := by decide +kernel
theorem d_W_canBe_39 : decode b_W_canBe 39 = .ok (.ifCond .lt 19, 3) := by decide +kernel
theorem d_W_canBe_42 : decode b_W_canBe 42 = .ok (.aload_n 0, 1) := by decide +kernel
theorem d_W_canBe_43 : decode b_W_canBe 43 = .ok (.getfield 24, 3) := by decide +kernel
theorem d_W_canBe_46 : decode b_W_canBe 46 = .ok (.bipush 16, 2) := by decide +kernel
theorem d_W_canBe_48 : decode b_W_canBe 48 = .ok (.if_icmp .gt 10, 3) := by decide +kernel
theorem d_W_canBe_51 : decode b_W_canBe 51 = .ok (.aload_n 1, 1) := by decide +kernel
theorem d_W_canBe_52 : decode b_W_canBe 52 = .ok (.invokevirtual 39, 3) := by decide +kernel
theorem d_W_canBe_55 : decode b_W_canBe 55 = .ok (.ifCond .eq 5, 3) := by decide +kernel
theorem d_W_canBe_58 : decode b_W_canBe 58 = .ok (.iconst 0, 1) := by decide +kernel
theorem d_W_canBe_59 : decode b_W_canBe 59 = .ok (.ireturn, 1) := by decide +kernel
theorem d_W_canBe_60 : decode b_W_canBe 60 = .ok (.aload_n 0, 1) := by decide +kernel
theorem d_W_canBe_61 : decode b_W_canBe 61 = .ok (.getfield 21, 3) := by decide +kernel
theorem d_W_canBe_64 : decode b_W_canBe 64 = .ok (.iconst (-1), 1) := by decide +kernel
theorem d_W_canBe_65 : decode b_W_canBe 65 = .ok (.if_icmp .lt 35, 3) := by decide +kernel
theorem d_W_canBe_68 : decode b_W_canBe 68 = .ok (.aload_n 0, 1) := by decide +kernel
theorem d_W_canBe_69 : decode b_W_canBe 69 = .ok (.getfield 21, 3) := by decide +kernel
theorem d_W_canBe_72 : decode b_W_canBe 72 = .ok (.sipush 2048, 3) := by decide +kernel
theorem d_W_canBe_75 : decode b_W_canBe 75 = .ok (.if_icmp .ge 25, 3) := by decide +kernel
theorem d_W_canBe_78 : decode b_W_canBe 78 = .ok (.aload_n 0, 1) := by decide +kernel
theorem d_W_canBe_79 : decode b_W_canBe 79 = .ok (.getfield 27, 3) := by decide +kernel
theorem d_W_canBe_82 : decode b_W_canBe 82 = .ok (.iconst (-1), 1) := by decide +kernel
theorem d_W_canBe_83 : decode b_W_canBe 83 = .ok (.if_icmp .eq 13, 3) := by decide +kernel
theorem d_W_canBe_86 : decode b_W_canBe 86 = .ok (.aload_n 0, 1) := by decide +kernel
theorem d_W_canBe_87 : decode b_W_canBe 87 = .ok (.getfield 27, 3) := by decide +kernel
theorem d_W_canBe_90 : decode b_W_canBe 90 = .ok (.invokestatic 43, 3) := by decide +kernel
theorem d_W_canBe_93 : decode b_W_canBe 93 = .ok (.ifCond .eq 7, 3) := by decide +kernel
theorem d_W_canBe_96 : decode b_W_canBe 96 = .ok (.iconst 1, 1) := by decide +kernel
theorem d_W_canBe_97 : decode b_W_canBe 97 = .ok (.goto 4, 3) := by decide +kernel
theorem d_W_canBe_100 : decode b_W_canBe 100 = .ok (.iconst 0, 1) := by decide +kernel
theorem d_W_canBe_101 : decode b_W_canBe 101 = .ok (.ireturn, 1) := by decide +kernel
set_option maxHeartbeats 2000000 in
set_option maxRecDepth 20000 in
theorem ct_W_canBe (E : mm_En) (C : Nat → Nat → Int32) {b : Nat} (hb : bl_s b) : mm_MT E K_W_canBe [.ref 203, .ref b] (hp_H C) (mm_D (some (.int (b2_P ((C 203 0 = -1 ∨ (¬ C 203 0 < 1 ∧ ¬ 99 < C 203 0 ∧ ¬ C b 2 = 0)) ∧ (C 203 2 = -1 ∨ (¬ C 203 2 < 0 ∧ ¬ 16 < C 203 2 ∧ (C b 8 &&& 2048) = 0)) ∧ ¬ C 203 1 < -1 ∧ ¬ 2048 ≤ C 203 1 ∧ (C 203 3 = -1 ∨ (¬ C 203 3 < 0 ∧ ¬ 4 ≤ C 203 3)))))) C) := by
  have s1 := sh_W
  refine mm_mtL (by decide) (by rfl) (Nat.le_of_ble_eq_true rfl) rfl ?_
  refine ev_aload_n (pc := 0) d_W_canBe_0 rfl rfl (by first | rfl | exact mm_rk_rf _) ?_
  refine ev_gI (pc := 1) (by assumption) (by rfl) fl_W_15 d_W_canBe_1 ?_
  refine ev_iconst (pc := 4) (v := -1) d_W_canBe_4 rfl ?_
  refine ev_icmp_eq (pc := 5) (tgt := 27) d_W_canBe_5 (by decide) (fun hc5 => ?_) (fun hc5 => ?_)
  · refine ev_aload_n (pc := 27) d_W_canBe_27 rfl rfl (by first | rfl | exact mm_rk_rf _) ?_
    refine ev_gI (pc := 28) (by assumption) (by rfl) fl_W_24 d_W_canBe_28 ?_
    refine ev_iconst (pc := 31) (v := -1) d_W_canBe_31 rfl ?_
    refine ev_icmp_eq (pc := 32) (tgt := 60) d_W_canBe_32 (by decide) (fun hc32 => ?_) (fun hc32 => ?_)
    · refine ev_aload_n (pc := 60) d_W_canBe_60 rfl rfl (by first | rfl | exact mm_rk_rf _) ?_
      refine ev_gI (pc := 61) (by assumption) (by rfl) fl_W_21 d_W_canBe_61 ?_
      refine ev_iconst (pc := 64) (v := -1) d_W_canBe_64 rfl ?_
      refine ev_icmp_lt (pc := 65) (tgt := 100) d_W_canBe_65 (by decide) (fun hc65 => ?_) (fun hc65 => ?_)
      · refine ev_iconst (pc := 100) (v := 0) d_W_canBe_100 rfl ?_
        exact ev_zret (pc := 101) d_W_canBe_101 rfl (by first | exact Or.inl rfl | exact Or.inr rfl | assumption) (Nat.zero_le _) (Nat.zero_le _) ⟨by (try simp only [b2_0] at *); first | rw [b2_t (by grind)] | rw [b2_f (by grind)], rfl⟩
      · refine ev_aload_n (pc := 68) d_W_canBe_68 rfl rfl (by first | rfl | exact mm_rk_rf _) ?_
        refine ev_gI (pc := 69) (by assumption) (by rfl) fl_W_21 d_W_canBe_69 ?_
        refine ev_sipush (pc := 72) (v := 2048) d_W_canBe_72 (by decide) ?_
        refine ev_icmp_ge (pc := 75) (tgt := 100) d_W_canBe_75 (by decide) (fun hc75 => ?_) (fun hc75 => ?_)
        · refine ev_iconst (pc := 100) (v := 0) d_W_canBe_100 rfl ?_
          exact ev_zret (pc := 101) d_W_canBe_101 rfl (by first | exact Or.inl rfl | exact Or.inr rfl | assumption) (Nat.zero_le _) (Nat.zero_le _) ⟨by (try simp only [b2_0] at *); first | rw [b2_t (by grind)] | rw [b2_f (by grind)], rfl⟩
        · refine ev_aload_n (pc := 78) d_W_canBe_78 rfl rfl (by first | rfl | exact mm_rk_rf _) ?_
          refine ev_gI (pc := 79) (by assumption) (by rfl) fl_W_27 d_W_canBe_79 ?_
          refine ev_iconst (pc := 82) (v := -1) d_W_canBe_82 rfl ?_
          refine ev_icmp_eq (pc := 83) (tgt := 96) d_W_canBe_83 (by decide) (fun hc83 => ?_) (fun hc83 => ?_)
          · refine ev_iconst (pc := 96) (v := 1) d_W_canBe_96 rfl ?_
            refine ev_goto (pc := 97) (tgt := 101) d_W_canBe_97 (by decide) ?_
            exact ev_zret (pc := 101) d_W_canBe_101 rfl (by first | exact Or.inl rfl | exact Or.inr rfl | assumption) (Nat.zero_le _) (Nat.zero_le _) ⟨by (try simp only [b2_0] at *); first | rw [b2_t (by grind)] | rw [b2_f (by grind)], rfl⟩
          · refine ev_aload_n (pc := 86) d_W_canBe_86 rfl rfl (by first | rfl | exact mm_rk_rf _) ?_
            refine ev_gI (pc := 87) (by assumption) (by rfl) fl_W_27 d_W_canBe_87 ?_
            refine ev_cS (pc := 90) (ct_X_isUser E C _) cl_W_43 js_X_isUser ⟨(Nat.le_of_ble_eq_true rfl), (Nat.le_of_ble_eq_true rfl)⟩ rfl rfl (Nat.le_of_ble_eq_true rfl) d_W_canBe_90 ⟨Nat.zero_le _, Nat.zero_le _⟩ ?_
            refine ev_if_eq (pc := 93) (tgt := 100) d_W_canBe_93 (by decide) (fun hc93 => ?_) (fun hc93 => ?_)
            · refine ev_iconst (pc := 100) (v := 0) d_W_canBe_100 rfl ?_
              exact ev_zret (pc := 101) d_W_canBe_101 rfl (by first | exact Or.inl rfl | exact Or.inr rfl | assumption) (Nat.zero_le _) (Nat.zero_le _) ⟨by (try simp only [b2_0] at *); first | rw [b2_t (by grind)] | rw [b2_f (by grind)], rfl⟩
            · refine ev_iconst (pc := 96) (v := 1) d_W_canBe_96 rfl ?_
              refine ev_goto (pc := 97) (tgt := 101) d_W_canBe_97 (by decide) ?_
              exact ev_zret (pc := 101) d_W_canBe_101 rfl (by first | exact Or.inl rfl | exact Or.inr rfl | assumption) (Nat.zero_le _) (Nat.zero_le _) ⟨by (try simp only [b2_0] at *); first | rw [b2_t (by grind)] | rw [b2_f (by grind)], rfl⟩
    · refine ev_aload_n (pc := 35) d_W_canBe_35 rfl rfl (by first | rfl | exact mm_rk_rf _) ?_
      refine ev_gI (pc := 36) (by assumption) (by rfl) fl_W_24 d_W_canBe_36 ?_
      refine ev_if_lt (pc := 39) (tgt := 58) d_W_canBe_39 (by decide) (fun hc39 => ?_) (fun hc39 => ?_)
      · refine ev_iconst (pc := 58) (v := 0) d_W_canBe_58 rfl ?_
        exact ev_zret (pc := 59) d_W_canBe_59 rfl (by first | exact Or.inl rfl | exact Or.inr rfl | assumption) (Nat.zero_le _) (Nat.zero_le _) ⟨by (try simp only [b2_0] at *); first | rw [b2_t (by grind)] | rw [b2_f (by grind)], rfl⟩
      · refine ev_aload_n (pc := 42) d_W_canBe_42 rfl rfl (by first | rfl | exact mm_rk_rf _) ?_
        refine ev_gI (pc := 43) (by assumption) (by rfl) fl_W_24 d_W_canBe_43 ?_
        refine ev_bipush (pc := 46) (v := 16) d_W_canBe_46 (by decide) ?_
        refine ev_icmp_gt (pc := 48) (tgt := 58) d_W_canBe_48 (by decide) (fun hc48 => ?_) (fun hc48 => ?_)
        · refine ev_iconst (pc := 58) (v := 0) d_W_canBe_58 rfl ?_
          exact ev_zret (pc := 59) d_W_canBe_59 rfl (by first | exact Or.inl rfl | exact Or.inr rfl | assumption) (Nat.zero_le _) (Nat.zero_le _) ⟨by (try simp only [b2_0] at *); first | rw [b2_t (by grind)] | rw [b2_f (by grind)], rfl⟩
        · refine ev_aload_n (pc := 51) d_W_canBe_51 rfl rfl (by first | rfl | exact mm_rk_rf _) ?_
          refine ev_cV (pc := 52) (ct_B_isDirectory E C hb) cl_W_39 jv_B_isDirectory ⟨(Nat.le_of_ble_eq_true rfl), (Nat.le_of_ble_eq_true rfl)⟩ rfl (by assumption) rfl (Nat.le_of_ble_eq_true rfl) d_W_canBe_52 ⟨Nat.zero_le _, Nat.zero_le _⟩ ?_
          refine ev_if_eq (pc := 55) (tgt := 60) d_W_canBe_55 (by decide) (fun hc55 => ?_) (fun hc55 => ?_)
          · refine ev_aload_n (pc := 60) d_W_canBe_60 rfl rfl (by first | rfl | exact mm_rk_rf _) ?_
            refine ev_gI (pc := 61) (by assumption) (by rfl) fl_W_21 d_W_canBe_61 ?_
            refine ev_iconst (pc := 64) (v := -1) d_W_canBe_64 rfl ?_
            refine ev_icmp_lt (pc := 65) (tgt := 100) d_W_canBe_65 (by decide) (fun hc65 => ?_) (fun hc65 => ?_)
            · refine ev_iconst (pc := 100) (v := 0) d_W_canBe_100 rfl ?_
              exact ev_zret (pc := 101) d_W_canBe_101 rfl (by first | exact Or.inl rfl | exact Or.inr rfl | assumption) (Nat.zero_le _) (Nat.zero_le _) ⟨by (try simp only [b2_0] at *); first | rw [b2_t (by grind)] | rw [b2_f (by grind)], rfl⟩
            · refine ev_aload_n (pc := 68) d_W_canBe_68 rfl rfl (by first | rfl | exact mm_rk_rf _) ?_
              refine ev_gI (pc := 69) (by assumption) (by rfl) fl_W_21 d_W_canBe_69 ?_
              refine ev_sipush (pc := 72) (v := 2048) d_W_canBe_72 (by decide) ?_
              refine ev_icmp_ge (pc := 75) (tgt := 100) d_W_canBe_75 (by decide) (fun hc75 => ?_) (fun hc75 => ?_)
              · refine ev_iconst (pc := 100) (v := 0) d_W_canBe_100 rfl ?_
                exact ev_zret (pc := 101) d_W_canBe_101 rfl (by first | exact Or.inl rfl | exact Or.inr rfl | assumption) (Nat.zero_le _) (Nat.zero_le _) ⟨by (try simp only [b2_0] at *); first | rw [b2_t (by grind)] | rw [b2_f (by grind)], rfl⟩
              · refine ev_aload_n (pc := 78) d_W_canBe_78 rfl rfl (by first | rfl | exact mm_rk_rf _) ?_
                refine ev_gI (pc := 79) (by assumption) (by rfl) fl_W_27 d_W_canBe_79 ?_
                refine ev_iconst (pc := 82) (v := -1) d_W_canBe_82 rfl ?_
                refine ev_icmp_eq (pc := 83) (tgt := 96) d_W_canBe_83 (by decide) (fun hc83 => ?_) (fun hc83 => ?_)
                · refine ev_iconst (pc := 96) (v := 1) d_W_canBe_96 rfl ?_
                  refine ev_goto (pc := 97) (tgt := 101) d_W_canBe_97 (by decide) ?_
                  exact ev_zret (pc := 101) d_W_canBe_101 rfl (by first | exact Or.inl rfl | exact Or.inr rfl | assumption) (Nat.zero_le _) (Nat.zero_le _) ⟨by (try simp only [b2_0] at *); first | rw [b2_t (by grind)] | rw [b2_f (by grind)], rfl⟩
                · refine ev_aload_n (pc := 86) d_W_canBe_86 rfl rfl (by first | rfl | exact mm_rk_rf _) ?_
                  refine ev_gI (pc := 87) (by assumption) (by rfl) fl_W_27 d_W_canBe_87 ?_
                  refine ev_cS (pc := 90) (ct_X_isUser E C _) cl_W_43 js_X_isUser ⟨(Nat.le_of_ble_eq_true rfl), (Nat.le_of_ble_eq_true rfl)⟩ rfl rfl (Nat.le_of_ble_eq_true rfl) d_W_canBe_90 ⟨Nat.zero_le _, Nat.zero_le _⟩ ?_
                  refine ev_if_eq (pc := 93) (tgt := 100) d_W_canBe_93 (by decide) (fun hc93 => ?_) (fun hc93 => ?_)
                  · refine ev_iconst (pc := 100) (v := 0) d_W_canBe_100 rfl ?_
                    exact ev_zret (pc := 101) d_W_canBe_101 rfl (by first | exact Or.inl rfl | exact Or.inr rfl | assumption) (Nat.zero_le _) (Nat.zero_le _) ⟨by (try simp only [b2_0] at *); first | rw [b2_t (by grind)] | rw [b2_f (by grind)], rfl⟩
                  · refine ev_iconst (pc := 96) (v := 1) d_W_canBe_96 rfl ?_
                    refine ev_goto (pc := 97) (tgt := 101) d_W_canBe_97 (by decide) ?_
                    exact ev_zret (pc := 101) d_W_canBe_101 rfl (by first | exact Or.inl rfl | exact Or.inr rfl | assumption) (Nat.zero_le _) (Nat.zero_le _) ⟨by (try simp only [b2_0] at *); first | rw [b2_t (by grind)] | rw [b2_f (by grind)], rfl⟩
          · refine ev_iconst (pc := 58) (v := 0) d_W_canBe_58 rfl ?_
            exact ev_zret (pc := 59) d_W_canBe_59 rfl (by first | exact Or.inl rfl | exact Or.inr rfl | assumption) (Nat.zero_le _) (Nat.zero_le _) ⟨by (try simp only [b2_0] at *); first | rw [b2_t (by grind)] | rw [b2_f (by grind)], rfl⟩
  · refine ev_aload_n (pc := 8) d_W_canBe_8 rfl rfl (by first | rfl | exact mm_rk_rf _) ?_
    refine ev_gI (pc := 9) (by assumption) (by rfl) fl_W_15 d_W_canBe_9 ?_
    refine ev_cS (pc := 12) (ct_X_isTitle E C _) cl_W_30 js_X_isTitle ⟨(Nat.le_of_ble_eq_true rfl), (Nat.le_of_ble_eq_true rfl)⟩ rfl rfl (Nat.le_of_ble_eq_true rfl) d_W_canBe_12 ⟨Nat.zero_le _, Nat.zero_le _⟩ ?_
    refine ev_if_eq (pc := 15) (tgt := 25) d_W_canBe_15 (by decide) (fun hc15 => ?_) (fun hc15 => ?_)
    · refine ev_iconst (pc := 25) (v := 0) d_W_canBe_25 rfl ?_
      exact ev_zret (pc := 26) d_W_canBe_26 rfl (by first | exact Or.inl rfl | exact Or.inr rfl | assumption) (Nat.zero_le _) (Nat.zero_le _) ⟨by (try simp only [b2_0] at *); first | rw [b2_t (by grind)] | rw [b2_f (by grind)], rfl⟩
    · refine ev_aload_n (pc := 18) d_W_canBe_18 rfl rfl (by first | rfl | exact mm_rk_rf _) ?_
      refine ev_gI (pc := 19) (by assumption) (by rfl) fl_W_34 d_W_canBe_19 ?_
      refine ev_if_ne (pc := 22) (tgt := 27) d_W_canBe_22 (by decide) (fun hc22 => ?_) (fun hc22 => ?_)
      · refine ev_aload_n (pc := 27) d_W_canBe_27 rfl rfl (by first | rfl | exact mm_rk_rf _) ?_
        refine ev_gI (pc := 28) (by assumption) (by rfl) fl_W_24 d_W_canBe_28 ?_
        refine ev_iconst (pc := 31) (v := -1) d_W_canBe_31 rfl ?_
        refine ev_icmp_eq (pc := 32) (tgt := 60) d_W_canBe_32 (by decide) (fun hc32 => ?_) (fun hc32 => ?_)
        · refine ev_aload_n (pc := 60) d_W_canBe_60 rfl rfl (by first | rfl | exact mm_rk_rf _) ?_
          refine ev_gI (pc := 61) (by assumption) (by rfl) fl_W_21 d_W_canBe_61 ?_
          refine ev_iconst (pc := 64) (v := -1) d_W_canBe_64 rfl ?_
          refine ev_icmp_lt (pc := 65) (tgt := 100) d_W_canBe_65 (by decide) (fun hc65 => ?_) (fun hc65 => ?_)
          · refine ev_iconst (pc := 100) (v := 0) d_W_canBe_100 rfl ?_
            exact ev_zret (pc := 101) d_W_canBe_101 rfl (by first | exact Or.inl rfl | exact Or.inr rfl | assumption) (Nat.zero_le _) (Nat.zero_le _) ⟨by (try simp only [b2_0] at *); first | rw [b2_t (by grind)] | rw [b2_f (by grind)], rfl⟩
          · refine ev_aload_n (pc := 68) d_W_canBe_68 rfl rfl (by first | rfl | exact mm_rk_rf _) ?_
            refine ev_gI (pc := 69) (by assumption) (by rfl) fl_W_21 d_W_canBe_69 ?_
            refine ev_sipush (pc := 72) (v := 2048) d_W_canBe_72 (by decide) ?_
            refine ev_icmp_ge (pc := 75) (tgt := 100) d_W_canBe_75 (by decide) (fun hc75 => ?_) (fun hc75 => ?_)
            · refine ev_iconst (pc := 100) (v := 0) d_W_canBe_100 rfl ?_
              exact ev_zret (pc := 101) d_W_canBe_101 rfl (by first | exact Or.inl rfl | exact Or.inr rfl | assumption) (Nat.zero_le _) (Nat.zero_le _) ⟨by (try simp only [b2_0] at *); first | rw [b2_t (by grind)] | rw [b2_f (by grind)], rfl⟩
            · refine ev_aload_n (pc := 78) d_W_canBe_78 rfl rfl (by first | rfl | exact mm_rk_rf _) ?_
              refine ev_gI (pc := 79) (by assumption) (by rfl) fl_W_27 d_W_canBe_79 ?_
              refine ev_iconst (pc := 82) (v := -1) d_W_canBe_82 rfl ?_
              refine ev_icmp_eq (pc := 83) (tgt := 96) d_W_canBe_83 (by decide) (fun hc83 => ?_) (fun hc83 => ?_)
              · refine ev_iconst (pc := 96) (v := 1) d_W_canBe_96 rfl ?_
                refine ev_goto (pc := 97) (tgt := 101) d_W_canBe_97 (by decide) ?_
                exact ev_zret (pc := 101) d_W_canBe_101 rfl (by first | exact Or.inl rfl | exact Or.inr rfl | assumption) (Nat.zero_le _) (Nat.zero_le _) ⟨by (try simp only [b2_0] at *); first | rw [b2_t (by grind)] | rw [b2_f (by grind)], rfl⟩
              · refine ev_aload_n (pc := 86) d_W_canBe_86 rfl rfl (by first | rfl | exact mm_rk_rf _) ?_
                refine ev_gI (pc := 87) (by assumption) (by rfl) fl_W_27 d_W_canBe_87 ?_
                refine ev_cS (pc := 90) (ct_X_isUser E C _) cl_W_43 js_X_isUser ⟨(Nat.le_of_ble_eq_true rfl), (Nat.le_of_ble_eq_true rfl)⟩ rfl rfl (Nat.le_of_ble_eq_true rfl) d_W_canBe_90 ⟨Nat.zero_le _, Nat.zero_le _⟩ ?_
                refine ev_if_eq (pc := 93) (tgt := 100) d_W_canBe_93 (by decide) (fun hc93 => ?_) (fun hc93 => ?_)
                · refine ev_iconst (pc := 100) (v := 0) d_W_canBe_100 rfl ?_
                  exact ev_zret (pc := 101) d_W_canBe_101 rfl (by first | exact Or.inl rfl | exact Or.inr rfl | assumption) (Nat.zero_le _) (Nat.zero_le _) ⟨by (try simp only [b2_0] at *); first | rw [b2_t (by grind)] | rw [b2_f (by grind)], rfl⟩
                · refine ev_iconst (pc := 96) (v := 1) d_W_canBe_96 rfl ?_
                  refine ev_goto (pc := 97) (tgt := 101) d_W_canBe_97 (by decide) ?_
                  exact ev_zret (pc := 101) d_W_canBe_101 rfl (by first | exact Or.inl rfl | exact Or.inr rfl | assumption) (Nat.zero_le _) (Nat.zero_le _) ⟨by (try simp only [b2_0] at *); first | rw [b2_t (by grind)] | rw [b2_f (by grind)], rfl⟩
        · refine ev_aload_n (pc := 35) d_W_canBe_35 rfl rfl (by first | rfl | exact mm_rk_rf _) ?_
          refine ev_gI (pc := 36) (by assumption) (by rfl) fl_W_24 d_W_canBe_36 ?_
          refine ev_if_lt (pc := 39) (tgt := 58) d_W_canBe_39 (by decide) (fun hc39 => ?_) (fun hc39 => ?_)
          · refine ev_iconst (pc := 58) (v := 0) d_W_canBe_58 rfl ?_
            exact ev_zret (pc := 59) d_W_canBe_59 rfl (by first | exact Or.inl rfl | exact Or.inr rfl | assumption) (Nat.zero_le _) (Nat.zero_le _) ⟨by (try simp only [b2_0] at *); first | rw [b2_t (by grind)] | rw [b2_f (by grind)], rfl⟩
          · refine ev_aload_n (pc := 42) d_W_canBe_42 rfl rfl (by first | rfl | exact mm_rk_rf _) ?_
            refine ev_gI (pc := 43) (by assumption) (by rfl) fl_W_24 d_W_canBe_43 ?_
            refine ev_bipush (pc := 46) (v := 16) d_W_canBe_46 (by decide) ?_
            refine ev_icmp_gt (pc := 48) (tgt := 58) d_W_canBe_48 (by decide) (fun hc48 => ?_) (fun hc48 => ?_)
            · refine ev_iconst (pc := 58) (v := 0) d_W_canBe_58 rfl ?_
              exact ev_zret (pc := 59) d_W_canBe_59 rfl (by first | exact Or.inl rfl | exact Or.inr rfl | assumption) (Nat.zero_le _) (Nat.zero_le _) ⟨by (try simp only [b2_0] at *); first | rw [b2_t (by grind)] | rw [b2_f (by grind)], rfl⟩
            · refine ev_aload_n (pc := 51) d_W_canBe_51 rfl rfl (by first | rfl | exact mm_rk_rf _) ?_
              refine ev_cV (pc := 52) (ct_B_isDirectory E C hb) cl_W_39 jv_B_isDirectory ⟨(Nat.le_of_ble_eq_true rfl), (Nat.le_of_ble_eq_true rfl)⟩ rfl (by assumption) rfl (Nat.le_of_ble_eq_true rfl) d_W_canBe_52 ⟨Nat.zero_le _, Nat.zero_le _⟩ ?_
              refine ev_if_eq (pc := 55) (tgt := 60) d_W_canBe_55 (by decide) (fun hc55 => ?_) (fun hc55 => ?_)
              · refine ev_aload_n (pc := 60) d_W_canBe_60 rfl rfl (by first | rfl | exact mm_rk_rf _) ?_
                refine ev_gI (pc := 61) (by assumption) (by rfl) fl_W_21 d_W_canBe_61 ?_
                refine ev_iconst (pc := 64) (v := -1) d_W_canBe_64 rfl ?_
                refine ev_icmp_lt (pc := 65) (tgt := 100) d_W_canBe_65 (by decide) (fun hc65 => ?_) (fun hc65 => ?_)
                · refine ev_iconst (pc := 100) (v := 0) d_W_canBe_100 rfl ?_
                  exact ev_zret (pc := 101) d_W_canBe_101 rfl (by first | exact Or.inl rfl | exact Or.inr rfl | assumption) (Nat.zero_le _) (Nat.zero_le _) ⟨by (try simp only [b2_0] at *); first | rw [b2_t (by grind)] | rw [b2_f (by grind)], rfl⟩
                · refine ev_aload_n (pc := 68) d_W_canBe_68 rfl rfl (by first | rfl | exact mm_rk_rf _) ?_
                  refine ev_gI (pc := 69) (by assumption) (by rfl) fl_W_21 d_W_canBe_69 ?_
                  refine ev_sipush (pc := 72) (v := 2048) d_W_canBe_72 (by decide) ?_
                  refine ev_icmp_ge (pc := 75) (tgt := 100) d_W_canBe_75 (by decide) (fun hc75 => ?_) (fun hc75 => ?_)
                  · refine ev_iconst (pc := 100) (v := 0) d_W_canBe_100 rfl ?_
                    exact ev_zret (pc := 101) d_W_canBe_101 rfl (by first | exact Or.inl rfl | exact Or.inr rfl | assumption) (Nat.zero_le _) (Nat.zero_le _) ⟨by (try simp only [b2_0] at *); first | rw [b2_t (by grind)] | rw [b2_f (by grind)], rfl⟩
                  · refine ev_aload_n (pc := 78) d_W_canBe_78 rfl rfl (by first | rfl | exact mm_rk_rf _) ?_
                    refine ev_gI (pc := 79) (by assumption) (by rfl) fl_W_27 d_W_canBe_79 ?_
                    refine ev_iconst (pc := 82) (v := -1) d_W_canBe_82 rfl ?_
                    refine ev_icmp_eq (pc := 83) (tgt := 96) d_W_canBe_83 (by decide) (fun hc83 => ?_) (fun hc83 => ?_)
                    · refine ev_iconst (pc := 96) (v := 1) d_W_canBe_96 rfl ?_
                      refine ev_goto (pc := 97) (tgt := 101) d_W_canBe_97 (by decide) ?_
                      exact ev_zret (pc := 101) d_W_canBe_101 rfl (by first | exact Or.inl rfl | exact Or.inr rfl | assumption) (Nat.zero_le _) (Nat.zero_le _) ⟨by (try simp only [b2_0] at *); first | rw [b2_t (by grind)] | rw [b2_f (by grind)], rfl⟩
                    · refine ev_aload_n (pc := 86) d_W_canBe_86 rfl rfl (by first | rfl | exact mm_rk_rf _) ?_
                      refine ev_gI (pc := 87) (by assumption) (by rfl) fl_W_27 d_W_canBe_87 ?_
                      refine ev_cS (pc := 90) (ct_X_isUser E C _) cl_W_43 js_X_isUser ⟨(Nat.le_of_ble_eq_true rfl), (Nat.le_of_ble_eq_true rfl)⟩ rfl rfl (Nat.le_of_ble_eq_true rfl) d_W_canBe_90 ⟨Nat.zero_le _, Nat.zero_le _⟩ ?_
                      refine ev_if_eq (pc := 93) (tgt := 100) d_W_canBe_93 (by decide) (fun hc93 => ?_) (fun hc93 => ?_)
                      · refine ev_iconst (pc := 100) (v := 0) d_W_canBe_100 rfl ?_
                        exact ev_zret (pc := 101) d_W_canBe_101 rfl (by first | exact Or.inl rfl | exact Or.inr rfl | assumption) (Nat.zero_le _) (Nat.zero_le _) ⟨by (try simp only [b2_0] at *); first | rw [b2_t (by grind)] | rw [b2_f (by grind)], rfl⟩
                      · refine ev_iconst (pc := 96) (v := 1) d_W_canBe_96 rfl ?_
                        refine ev_goto (pc := 97) (tgt := 101) d_W_canBe_97 (by decide) ?_
                        exact ev_zret (pc := 101) d_W_canBe_101 rfl (by first | exact Or.inl rfl | exact Or.inr rfl | assumption) (Nat.zero_le _) (Nat.zero_le _) ⟨by (try simp only [b2_0] at *); first | rw [b2_t (by grind)] | rw [b2_f (by grind)], rfl⟩
              · refine ev_iconst (pc := 58) (v := 0) d_W_canBe_58 rfl ?_
                exact ev_zret (pc := 59) d_W_canBe_59 rfl (by first | exact Or.inl rfl | exact Or.inr rfl | assumption) (Nat.zero_le _) (Nat.zero_le _) ⟨by (try simp only [b2_0] at *); first | rw [b2_t (by grind)] | rw [b2_f (by grind)], rfl⟩
      · refine ev_iconst (pc := 25) (v := 0) d_W_canBe_25 rfl ?_
        exact ev_zret (pc := 26) d_W_canBe_26 rfl (by first | exact Or.inl rfl | exact Or.inr rfl | assumption) (Nat.zero_le _) (Nat.zero_le _) ⟨by (try simp only [b2_0] at *); first | rw [b2_t (by grind)] | rw [b2_f (by grind)], rfl⟩
theorem d_W_changesNoMoreThanTitle_0 : decode b_W_changesNoMoreThanTitle 0 = .ok (.aload_n 0, 1) := by decide +kernel
theorem d_W_changesNoMoreThanTitle_1 : decode b_W_changesNoMoreThanTitle 1 = .ok (.getfield 21, 3) := by decide +kernel
theorem d_W_changesNoMoreThanTitle_4 : decode b_W_changesNoMoreThanTitle 4 = .ok (.iconst (-1), 1) := by decide +kernel
theorem d_W_changesNoMoreThanTitle_5 : decode b_W_changesNoMoreThanTitle 5 = .ok (.if_icmp .ne 23, 3) := by decide +kernel
theorem d_W_changesNoMoreThanTitle_8 : decode b_W_changesNoMoreThanTitle 8 = .ok (.aload_n 0, 1) := by decide +kernel
theorem d_W_changesNoMoreThanTitle_9 : decode b_W_changesNoMoreThanTitle 9 = .ok (.getfield 24, 3) := by decide +kernel
theorem d_W_changesNoMoreThanTitle_12 : decode b_W_changesNoMoreThanTitle 12 = .ok (.iconst (-1), 1) := by decide +kernel
theorem d_W_changesNoMoreThanTitle_13 : decode b_W_changesNoMoreThanTitle 13 = .ok (.if_icmp .ne 15, 3) := by decide +kernel
theorem d_W_changesNoMoreThanTitle_16 : decode b_W_changesNoMoreThanTitle 16 = .ok (.aload_n 0, 1) := by decide +kernel
theorem d_W_changesNoMoreThanTitle_17 : decode b_W_changesNoMoreThanTitle 17 = .ok (.getfield 27, 3) := by decide +kernel
theorem d_W_changesNoMoreThanTitle_20 : decode b_W_changesNoMoreThanTitle 20 = .ok (.iconst (-1), 1) := by decide +kernel
theorem d_W_changesNoMoreThanTitle_21 : decode b_W_changesNoMoreThanTitle 21 = .ok (.if_icmp .ne 7, 3) := by decide +kernel
theorem d_W_changesNoMoreThanTitle_24 : decode b_W_changesNoMoreThanTitle 24 = .ok (.iconst 1, 1) := by decide +kernel
theorem d_W_changesNoMoreThanTitle_25 : decode b_W_changesNoMoreThanTitle 25 = .ok (.goto 4, 3) := by decide +kernel
theorem d_W_changesNoMoreThanTitle_28 : decode b_W_changesNoMoreThanTitle 28 = .ok (.iconst 0, 1) := by decide +kernel
theorem d_W_changesNoMoreThanTitle_29 : decode b_W_changesNoMoreThanTitle 29 = .ok (.ireturn, 1) := by decide +kernel
set_option maxRecDepth 20000 in
theorem ct_W_changesNoMoreThanTitle (E : mm_En) (C : Nat → Nat → Int32) : mm_MT E K_W_changesNoMoreThanTitle [.ref 203] (hp_H C) (mm_D (some (.int (b2_P (C 203 1 = -1 ∧ C 203 2 = -1 ∧ C 203 3 = -1)))) C) := by
  have s1 := sh_W
  refine mm_mtL (by decide) (by rfl) (Nat.le_of_ble_eq_true rfl) rfl ?_
  refine ev_aload_n (pc := 0) d_W_changesNoMoreThanTitle_0 rfl rfl (by first | rfl | exact mm_rk_rf _) ?_
  refine ev_gI (pc := 1) (by assumption) (by rfl) fl_W_21 d_W_changesNoMoreThanTitle_1 ?_
  refine ev_iconst (pc := 4) (v := -1) d_W_changesNoMoreThanTitle_4 rfl ?_
  refine ev_icmp_ne (pc := 5) (tgt := 28) d_W_changesNoMoreThanTitle_5 (by decide) (fun hc5 => ?_) (fun hc5 => ?_)
  · refine ev_iconst (pc := 28) (v := 0) d_W_changesNoMoreThanTitle_28 rfl ?_
    exact ev_zret (pc := 29) d_W_changesNoMoreThanTitle_29 rfl (by first | exact Or.inl rfl | exact Or.inr rfl | assumption) (Nat.zero_le _) (Nat.zero_le _) ⟨by first | rw [b2_t (by grind)] | rw [b2_f (by grind)], rfl⟩
  · refine ev_aload_n (pc := 8) d_W_changesNoMoreThanTitle_8 rfl rfl (by first | rfl | exact mm_rk_rf _) ?_
    refine ev_gI (pc := 9) (by assumption) (by rfl) fl_W_24 d_W_changesNoMoreThanTitle_9 ?_
    refine ev_iconst (pc := 12) (v := -1) d_W_changesNoMoreThanTitle_12 rfl ?_
    refine ev_icmp_ne (pc := 13) (tgt := 28) d_W_changesNoMoreThanTitle_13 (by decide) (fun hc13 => ?_) (fun hc13 => ?_)
    · refine ev_iconst (pc := 28) (v := 0) d_W_changesNoMoreThanTitle_28 rfl ?_
      exact ev_zret (pc := 29) d_W_changesNoMoreThanTitle_29 rfl (by first | exact Or.inl rfl | exact Or.inr rfl | assumption) (Nat.zero_le _) (Nat.zero_le _) ⟨by first | rw [b2_t (by grind)] | rw [b2_f (by grind)], rfl⟩
    · refine ev_aload_n (pc := 16) d_W_changesNoMoreThanTitle_16 rfl rfl (by first | rfl | exact mm_rk_rf _) ?_
      refine ev_gI (pc := 17) (by assumption) (by rfl) fl_W_27 d_W_changesNoMoreThanTitle_17 ?_
      refine ev_iconst (pc := 20) (v := -1) d_W_changesNoMoreThanTitle_20 rfl ?_
      refine ev_icmp_ne (pc := 21) (tgt := 28) d_W_changesNoMoreThanTitle_21 (by decide) (fun hc21 => ?_) (fun hc21 => ?_)
      · refine ev_iconst (pc := 28) (v := 0) d_W_changesNoMoreThanTitle_28 rfl ?_
        exact ev_zret (pc := 29) d_W_changesNoMoreThanTitle_29 rfl (by first | exact Or.inl rfl | exact Or.inr rfl | assumption) (Nat.zero_le _) (Nat.zero_le _) ⟨by first | rw [b2_t (by grind)] | rw [b2_f (by grind)], rfl⟩
      · refine ev_iconst (pc := 24) (v := 1) d_W_changesNoMoreThanTitle_24 rfl ?_
        refine ev_goto (pc := 25) (tgt := 29) d_W_changesNoMoreThanTitle_25 (by decide) ?_
        exact ev_zret (pc := 29) d_W_changesNoMoreThanTitle_29 rfl (by first | exact Or.inl rfl | exact Or.inr rfl | assumption) (Nat.zero_le _) (Nat.zero_le _) ⟨by first | rw [b2_t (by grind)] | rw [b2_f (by grind)], rfl⟩
def st_f (j : Nat) : Int32 := match j with
  | 0 => 2
  | 1 => 1
  | 2 => 1
  | 3 => 3
  | 4 => 2
  | 5 => 1
  | 6 => 0
  | 7 => 0
  | 8 => 0
  | _ => 4
def st_g (j : Nat) : Int32 := match j with
  | 0 => 2
  | 1 => 4
  | 2 => 1
  | 3 => 3
  | 4 => 2
  | 5 => 4
  | 6 => 0
  | 7 => 0
  | 8 => 0
  | _ => 4
/-- what the law's walk may know: the script's length, and the two tables -/
def st_ok (E : mm_En) : Prop := E.2.2.2.2.2.1 0 ≤ 2560 ∧ E.2.2.2.2.2.1 1 = 10 ∧ E.2.2.2.2.2.1 2 = 10 ∧ E.2.2.2.2.2.2 1 = st_f ∧ E.2.2.2.2.2.2 2 = st_g
theorem d_X_hasItsNumbers_0 : decode b_X_hasItsNumbers 0 = .ok (.iload_n 0, 1) := by decide +kernel
theorem d_X_hasItsNumbers_1 : decode b_X_hasItsNumbers 1 = .ok (.ifCond .lt 31, 3) := by decide +kernel
theorem d_X_hasItsNumbers_4 : decode b_X_hasItsNumbers 4 = .ok (.iload_n 0, 1) := by decide +kernel
theorem d_X_hasItsNumbers_5 : decode b_X_hasItsNumbers 5 = .ok (.bipush 9, 2) := by decide +kernel
theorem d_X_hasItsNumbers_7 : decode b_X_hasItsNumbers 7 = .ok (.if_icmp .gt 25, 3) := by decide +kernel
theorem d_X_hasItsNumbers_10 : decode b_X_hasItsNumbers 10 = .ok (.iload_n 1, 1) := by decide +kernel
theorem d_X_hasItsNumbers_11 : decode b_X_hasItsNumbers 11 = .ok (.getstatic 198, 3) := by decide +kernel
theorem d_X_hasItsNumbers_14 : decode b_X_hasItsNumbers 14 = .ok (.iload_n 0, 1) := by decide +kernel
theorem d_X_hasItsNumbers_15 : decode b_X_hasItsNumbers 15 = .ok (.iaload, 1) := by decide +kernel
theorem d_X_hasItsNumbers_16 : decode b_X_hasItsNumbers 16 = .ok (.if_icmp .lt 16, 3) := by decide +kernel
theorem d_X_hasItsNumbers_19 : decode b_X_hasItsNumbers 19 = .ok (.iload_n 1, 1) := by decide +kernel
theorem d_X_hasItsNumbers_20 : decode b_X_hasItsNumbers 20 = .ok (.getstatic 202, 3) := by decide +kernel
theorem d_X_hasItsNumbers_23 : decode b_X_hasItsNumbers 23 = .ok (.iload_n 0, 1) := by decide +kernel
theorem d_X_hasItsNumbers_24 : decode b_X_hasItsNumbers 24 = .ok (.iaload, 1) := by decide +kernel
theorem d_X_hasItsNumbers_25 : decode b_X_hasItsNumbers 25 = .ok (.if_icmp .gt 7, 3) := by decide +kernel
theorem d_X_hasItsNumbers_28 : decode b_X_hasItsNumbers 28 = .ok (.iconst 1, 1) := by decide +kernel
theorem d_X_hasItsNumbers_29 : decode b_X_hasItsNumbers 29 = .ok (.goto 4, 3) := by decide +kernel
theorem d_X_hasItsNumbers_32 : decode b_X_hasItsNumbers 32 = .ok (.iconst 0, 1) := by decide +kernel
theorem d_X_hasItsNumbers_33 : decode b_X_hasItsNumbers 33 = .ok (.ireturn, 1) := by decide +kernel
set_option maxRecDepth 20000 in
theorem ct_X_hasItsNumbers (E : mm_En) (hE : st_ok E) (C : Nat → Nat → Int32) {k : Nat} (hk : k < 10) (x : Int32) : mm_MT E K_X_hasItsNumbers [.int (nI k), .int x] (hp_H C) (mm_D (some (.int (b2_P (¬ x < st_f k ∧ ¬ st_g k < x)))) C) := by
  obtain ⟨-, e1, e2, e3, e4⟩ := hE
  have hcl : (nI k).toNatClampNeg = k := nI_clamp (by omega)
  have hin : vp_in (nI k) 10 := vp_in_nI hk (by decide)
  refine mm_mtL (by decide) (by rfl) (Nat.le_of_ble_eq_true rfl) rfl ?_
  refine ev_iload_n (pc := 0) d_X_hasItsNumbers_0 rfl rfl ?_
  refine ev_if_lt (pc := 1) (tgt := 32) d_X_hasItsNumbers_1 (by decide) (fun ha => ?_) (fun ha => ?_)
  · exact absurd ha (nI_pos (by omega))
  refine ev_iload_n (pc := 4) d_X_hasItsNumbers_4 rfl rfl ?_
  refine ev_bipush (pc := 5) (v := 9) d_X_hasItsNumbers_5 (by decide) ?_
  refine ev_icmp_gt (pc := 7) (tgt := 32) d_X_hasItsNumbers_7 (by decide) (fun hb => ?_) (fun hb => ?_)
  · exact absurd hb (nI_nlt (show k ≤ 9 by omega) (by decide))
  refine ev_iload_n (pc := 10) d_X_hasItsNumbers_10 rfl rfl ?_
  refine ev_gets1 (pc := 11) (List.mem_of_getElem? (i := 388) (by decide +kernel)) d_X_hasItsNumbers_11 ?_
  refine ev_iload_n (pc := 14) d_X_hasItsNumbers_14 rfl rfl ?_
  refine ev_ialdX (pc := 15) (by decide) (by rw [e1]; exact hin) d_X_hasItsNumbers_15 ?_
  rw [hcl, e3]
  refine ev_icmp_lt (pc := 16) (tgt := 32) d_X_hasItsNumbers_16 (by decide) (fun hc => ?_) (fun hc => ?_)
  · refine ev_iconst (pc := 32) (v := 0) d_X_hasItsNumbers_32 rfl ?_
    exact ev_zret (pc := 33) d_X_hasItsNumbers_33 rfl (by first | exact Or.inl rfl | exact Or.inr rfl | assumption) (Nat.zero_le _) (Nat.zero_le _) ⟨by first | rw [b2_t (by grind)] | rw [b2_f (by grind)], rfl⟩
  refine ev_iload_n (pc := 19) d_X_hasItsNumbers_19 rfl rfl ?_
  refine ev_gets2 (pc := 20) (List.mem_of_getElem? (i := 390) (by decide +kernel)) d_X_hasItsNumbers_20 ?_
  refine ev_iload_n (pc := 23) d_X_hasItsNumbers_23 rfl rfl ?_
  refine ev_ialdX (pc := 24) (by decide) (by rw [e2]; exact hin) d_X_hasItsNumbers_24 ?_
  rw [hcl, e4]
  refine ev_icmp_gt (pc := 25) (tgt := 32) d_X_hasItsNumbers_25 (by decide) (fun hc25 => ?_) (fun hc25 => ?_)
  · refine ev_iconst (pc := 32) (v := 0) d_X_hasItsNumbers_32 rfl ?_
    exact ev_zret (pc := 33) d_X_hasItsNumbers_33 rfl (by first | exact Or.inl rfl | exact Or.inr rfl | assumption) (Nat.zero_le _) (Nat.zero_le _) ⟨by first | rw [b2_t (by grind)] | rw [b2_f (by grind)], rfl⟩
  · refine ev_iconst (pc := 28) (v := 1) d_X_hasItsNumbers_28 rfl ?_
    refine ev_goto (pc := 29) (tgt := 33) d_X_hasItsNumbers_29 (by decide) ?_
    exact ev_zret (pc := 33) d_X_hasItsNumbers_33 rfl (by first | exact Or.inl rfl | exact Or.inr rfl | assumption) (Nat.zero_le _) (Nat.zero_le _) ⟨by first | rw [b2_t (by grind)] | rw [b2_f (by grind)], rfl⟩
