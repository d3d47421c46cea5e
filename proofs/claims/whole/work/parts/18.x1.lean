/-! The server, at the cell 0: its small methods. -/
theorem ix_or (x : Int32) {n : Nat} (hn : n < 2 ^ 31) : (∃ j : Nat, j < n ∧ x = nI j) ∨ (x < 0 ∨ nI n ≤ x) := by
  rcases pk_ix x hn with h | h | h
  · exact Or.inr (Or.inl h)
  · exact Or.inr (Or.inr h)
  · exact Or.inl h
theorem cn_at {c : Nat} (hc : c < 2) : ([133, 166] : List Nat)[(nI c).toNatClampNeg]? = some (133 + 33 * c) := by
  rw [nI_clamp (by omega)]
  rcases (show c = 0 ∨ c = 1 by omega) with rfl | rfl <;> rfl
theorem d_X_connectionAt_0 : decode b_X_connectionAt 0 = .ok (.iload_n 1, 1) := by decide +kernel
theorem d_X_connectionAt_1 : decode b_X_connectionAt 1 = .ok (.ifCond .lt 17, 3) := by decide +kernel
theorem d_X_connectionAt_4 : decode b_X_connectionAt 4 = .ok (.iload_n 1, 1) := by decide +kernel
theorem d_X_connectionAt_5 : decode b_X_connectionAt 5 = .ok (.iconst 2, 1) := by decide +kernel
theorem d_X_connectionAt_6 : decode b_X_connectionAt 6 = .ok (.if_icmp .ge 12, 3) := by decide +kernel
theorem d_X_connectionAt_9 : decode b_X_connectionAt 9 = .ok (.aload_n 0, 1) := by decide +kernel
theorem d_X_connectionAt_10 : decode b_X_connectionAt 10 = .ok (.getfield 25, 3) := by decide +kernel
theorem d_X_connectionAt_13 : decode b_X_connectionAt 13 = .ok (.iload_n 1, 1) := by decide +kernel
theorem d_X_connectionAt_14 : decode b_X_connectionAt 14 = .ok (.aaload, 1) := by decide +kernel
theorem d_X_connectionAt_15 : decode b_X_connectionAt 15 = .ok (.goto 4, 3) := by decide +kernel
theorem d_X_connectionAt_18 : decode b_X_connectionAt 18 = .ok (.aconst_null, 1) := by decide +kernel
theorem d_X_connectionAt_19 : decode b_X_connectionAt 19 = .ok (.areturn, 1) := by decide +kernel
set_option maxRecDepth 20000 in
theorem ct_X_connectionAt (E : mm_En) (C : Nat → Nat → Int32) {c : Nat} (hc : c < 2) : mm_MT E K_X_connectionAt [.ref 0, .int (nI c)] (hp_H C) (mm_D (some (.ref (133 + 33 * c))) C) := by
  have s1 := sh_X
  have s2 := sh_cons
  have hin : vp_in (nI c) 2 := vp_in_nI hc (by decide)
  have hpl := cn_at hc
  refine mm_mtL (by decide) (by rfl) (Nat.le_of_ble_eq_true rfl) rfl ?_
  refine ev_iload_n (pc := 0) d_X_connectionAt_0 rfl rfl ?_
  refine ev_if_lt (pc := 1) (tgt := 18) d_X_connectionAt_1 (by decide) (fun ha => ?_) (fun ha => ?_)
  · exact absurd ha (nI_pos (by omega))
  refine ev_iload_n (pc := 4) d_X_connectionAt_4 rfl rfl ?_
  refine ev_iconst (pc := 5) (v := 2) d_X_connectionAt_5 rfl ?_
  refine ev_icmp_ge (pc := 6) (tgt := 18) d_X_connectionAt_6 (by decide) (fun hb => ?_) (fun hb => ?_)
  · exact absurd hb (nI_ge hc (by decide))
  refine ev_aload_n (pc := 9) d_X_connectionAt_9 rfl rfl (by first | rfl | exact mm_rk_rf _) ?_
  refine ev_gR (pc := 10) (by assumption) (by rfl) fl_X_25 d_X_connectionAt_10 ?_
  refine ev_iload_n (pc := 13) d_X_connectionAt_13 rfl rfl ?_
  refine ev_rR (pc := 14) (by assumption) rfl (by assumption) (by assumption) d_X_connectionAt_14 ?_
  refine ev_goto (pc := 15) (tgt := 19) d_X_connectionAt_15 (by decide) ?_
  exact ev_aret (pc := 19) d_X_connectionAt_19 ⟨_, rfl⟩ (by first | rfl | exact mm_rk_rf _) (Nat.zero_le _) (Nat.zero_le _) ⟨rfl, rfl⟩
set_option maxRecDepth 20000 in
theorem ct_X_connectionAtN (E : mm_En) (C : Nat → Nat → Int32) {x : Int32} (hx : x < 0 ∨ 2 ≤ x) : mm_MT E K_X_connectionAt [.ref 0, .int x] (hp_H C) (mm_D (some .null) C) := by
  refine mm_mtL (by decide) (by rfl) (Nat.le_of_ble_eq_true rfl) rfl ?_
  refine ev_iload_n (pc := 0) d_X_connectionAt_0 rfl rfl ?_
  refine ev_if_lt (pc := 1) (tgt := 18) d_X_connectionAt_1 (by decide) (fun ha => ?_) (fun ha => ?_)
  · refine ev_null (pc := 18) d_X_connectionAt_18 ?_
    exact ev_aret (pc := 19) d_X_connectionAt_19 ⟨_, rfl⟩ (by first | rfl | exact mm_rk_rf _) (Nat.zero_le _) (Nat.zero_le _) ⟨rfl, rfl⟩
  refine ev_iload_n (pc := 4) d_X_connectionAt_4 rfl rfl ?_
  refine ev_iconst (pc := 5) (v := 2) d_X_connectionAt_5 rfl ?_
  refine ev_icmp_ge (pc := 6) (tgt := 18) d_X_connectionAt_6 (by decide) (fun hb => ?_) (fun hb => ?_)
  · refine ev_null (pc := 18) d_X_connectionAt_18 ?_
    exact ev_aret (pc := 19) d_X_connectionAt_19 ⟨_, rfl⟩ (by first | rfl | exact mm_rk_rf _) (Nat.zero_le _) (Nat.zero_le _) ⟨rfl, rfl⟩
  · exact absurd (hx.resolve_left ha) hb
theorem d_X_requestAt_0 : decode b_X_requestAt 0 = .ok (.aload_n 0, 1) := by decide +kernel
theorem d_X_requestAt_1 : decode b_X_requestAt 1 = .ok (.iload_n 1, 1) := by decide +kernel
theorem d_X_requestAt_2 : decode b_X_requestAt 2 = .ok (.invokevirtual 85, 3) := by decide +kernel
theorem d_X_requestAt_5 : decode b_X_requestAt 5 = .ok (.astore_n 3, 1) := by decide +kernel
theorem d_X_requestAt_6 : decode b_X_requestAt 6 = .ok (.aload_n 3, 1) := by decide +kernel
theorem d_X_requestAt_7 : decode b_X_requestAt 7 = .ok (.ifnonnull 7, 3) := by decide +kernel
theorem d_X_requestAt_10 : decode b_X_requestAt 10 = .ok (.aconst_null, 1) := by decide +kernel
theorem d_X_requestAt_11 : decode b_X_requestAt 11 = .ok (.goto 8, 3) := by decide +kernel
theorem d_X_requestAt_14 : decode b_X_requestAt 14 = .ok (.aload_n 3, 1) := by decide +kernel
theorem d_X_requestAt_15 : decode b_X_requestAt 15 = .ok (.iload_n 2, 1) := by decide +kernel
theorem d_X_requestAt_16 : decode b_X_requestAt 16 = .ok (.invokevirtual 152, 3) := by decide +kernel
theorem d_X_requestAt_19 : decode b_X_requestAt 19 = .ok (.areturn, 1) := by decide +kernel
set_option maxRecDepth 20000 in
theorem ct_X_requestAt (E : mm_En) (C : Nat → Nat → Int32) {c t : Nat} (hc : c < 2) (ht : t < 8) : mm_MT E K_X_requestAt [.ref 0, .int (nI c), .int (nI t)] (hp_H C) (mm_D (some (.ref (cn_q c t))) C) := by
  have s1 := sh_X
  have s2 := sh_con c hc
  refine mm_mtL (by decide) (by rfl) (Nat.le_of_ble_eq_true rfl) rfl ?_
  refine ev_aload_n (pc := 0) d_X_requestAt_0 rfl rfl (by first | rfl | exact mm_rk_rf _) ?_
  refine ev_iload_n (pc := 1) d_X_requestAt_1 rfl rfl ?_
  refine ev_cV (pc := 2) (ct_X_connectionAt E C hc) cl_X_85 jv_X_connectionAt ⟨(Nat.le_of_ble_eq_true rfl), (Nat.le_of_ble_eq_true rfl)⟩ rfl (by assumption) rfl (Nat.le_of_ble_eq_true rfl) d_X_requestAt_2 ⟨Nat.zero_le _, Nat.zero_le _⟩ ?_
  refine ev_astore_n (pc := 5) d_X_requestAt_5 rfl (by first | rfl | exact mm_rk_rf _) (Nat.le_of_ble_eq_true rfl) rfl ?_
  try dsimp only [List.set]
  refine ev_aload_n (pc := 6) d_X_requestAt_6 rfl rfl (by first | rfl | exact mm_rk_rf _) ?_
  refine ev_ifnonnullR (pc := 7) (tgt := 14) d_X_requestAt_7 (by decide) ?_
  refine ev_aload_n (pc := 14) d_X_requestAt_14 rfl rfl (by first | rfl | exact mm_rk_rf _) ?_
  refine ev_iload_n (pc := 15) d_X_requestAt_15 rfl rfl ?_
  refine ev_cV (pc := 16) (ct_C_requestAt E C hc ht) cl_X_152 jv_C_requestAt ⟨(Nat.le_of_ble_eq_true rfl), (Nat.le_of_ble_eq_true rfl)⟩ rfl (by assumption) rfl (Nat.le_of_ble_eq_true rfl) d_X_requestAt_16 ⟨Nat.zero_le _, Nat.zero_le _⟩ ?_
  exact ev_aret (pc := 19) d_X_requestAt_19 ⟨_, rfl⟩ (by first | rfl | exact mm_rk_rf _) (Nat.zero_le _) (Nat.zero_le _) ⟨rfl, rfl⟩
set_option maxRecDepth 20000 in
theorem ct_X_requestAtN (E : mm_En) (C : Nat → Nat → Int32) {x y : Int32} (hx : (x < 0 ∨ 2 ≤ x) ∨ (y < 0 ∨ 8 ≤ y)) : mm_MT E K_X_requestAt [.ref 0, .int x, .int y] (hp_H C) (mm_D (some .null) C) := by
  have s1 := sh_X
  rcases ix_or x (n := 2) (by decide) with ⟨c, hc, rfl⟩ | hn
  · have hy : y < 0 ∨ 8 ≤ y := by
      rcases hx with h | h
      · rcases h with h | h
        · exact absurd h (nI_pos (by omega))
        · exact absurd h (nI_ge hc (by decide))
      · exact h
    have s2 := sh_con c hc
    refine mm_mtL (by decide) (by rfl) (Nat.le_of_ble_eq_true rfl) rfl ?_
    refine ev_aload_n (pc := 0) d_X_requestAt_0 rfl rfl (by first | rfl | exact mm_rk_rf _) ?_
    refine ev_iload_n (pc := 1) d_X_requestAt_1 rfl rfl ?_
    refine ev_cV (pc := 2) (ct_X_connectionAt E C hc) cl_X_85 jv_X_connectionAt ⟨(Nat.le_of_ble_eq_true rfl), (Nat.le_of_ble_eq_true rfl)⟩ rfl (by assumption) rfl (Nat.le_of_ble_eq_true rfl) d_X_requestAt_2 ⟨Nat.zero_le _, Nat.zero_le _⟩ ?_
    refine ev_astore_n (pc := 5) d_X_requestAt_5 rfl (by first | rfl | exact mm_rk_rf _) (Nat.le_of_ble_eq_true rfl) rfl ?_
    try dsimp only [List.set]
    refine ev_aload_n (pc := 6) d_X_requestAt_6 rfl rfl (by first | rfl | exact mm_rk_rf _) ?_
    refine ev_ifnonnullR (pc := 7) (tgt := 14) d_X_requestAt_7 (by decide) ?_
    refine ev_aload_n (pc := 14) d_X_requestAt_14 rfl rfl (by first | rfl | exact mm_rk_rf _) ?_
    refine ev_iload_n (pc := 15) d_X_requestAt_15 rfl rfl ?_
    refine ev_cV (pc := 16) (ct_C_requestAtN E C hc hy) cl_X_152 jv_C_requestAt ⟨(Nat.le_of_ble_eq_true rfl), (Nat.le_of_ble_eq_true rfl)⟩ rfl (by assumption) rfl (Nat.le_of_ble_eq_true rfl) d_X_requestAt_16 ⟨Nat.zero_le _, Nat.zero_le _⟩ ?_
    exact ev_aret (pc := 19) d_X_requestAt_19 ⟨_, rfl⟩ (by first | rfl | exact mm_rk_rf _) (Nat.zero_le _) (Nat.zero_le _) ⟨rfl, rfl⟩
  · refine mm_mtL (by decide) (by rfl) (Nat.le_of_ble_eq_true rfl) rfl ?_
    refine ev_aload_n (pc := 0) d_X_requestAt_0 rfl rfl (by first | rfl | exact mm_rk_rf _) ?_
    refine ev_iload_n (pc := 1) d_X_requestAt_1 rfl rfl ?_
    refine ev_cV (pc := 2) (ct_X_connectionAtN E C hn) cl_X_85 jv_X_connectionAt ⟨(Nat.le_of_ble_eq_true rfl), (Nat.le_of_ble_eq_true rfl)⟩ rfl (by assumption) rfl (Nat.le_of_ble_eq_true rfl) d_X_requestAt_2 ⟨Nat.zero_le _, Nat.zero_le _⟩ ?_
    refine ev_astore_n (pc := 5) d_X_requestAt_5 rfl (by first | rfl | exact mm_rk_rf _) (Nat.le_of_ble_eq_true rfl) rfl ?_
    try dsimp only [List.set]
    refine ev_aload_n (pc := 6) d_X_requestAt_6 rfl rfl (by first | rfl | exact mm_rk_rf _) ?_
    refine ev_ifnonnullN (pc := 7) d_X_requestAt_7 ?_
    refine ev_null (pc := 10) d_X_requestAt_10 ?_
    refine ev_goto (pc := 11) (tgt := 19) d_X_requestAt_11 (by decide) ?_
    exact ev_aret (pc := 19) d_X_requestAt_19 ⟨_, rfl⟩ (by first | rfl | exact mm_rk_rf _) (Nat.zero_le _) (Nat.zero_le _) ⟨rfl, rfl⟩
theorem d_X_nodeOf_0 : decode b_X_nodeOf 0 = .ok (.aload_n 0, 1) := by decide +kernel
theorem d_X_nodeOf_1 : decode b_X_nodeOf 1 = .ok (.getfield 12, 3) := by decide +kernel
theorem d_X_nodeOf_4 : decode b_X_nodeOf 4 = .ok (.aload_n 1, 1) := by decide +kernel
theorem d_X_nodeOf_5 : decode b_X_nodeOf 5 = .ok (.getfield 225, 3) := by decide +kernel
theorem d_X_nodeOf_8 : decode b_X_nodeOf 8 = .ok (.aload_n 1, 1) := by decide +kernel
theorem d_X_nodeOf_9 : decode b_X_nodeOf 9 = .ok (.getfield 354, 3) := by decide +kernel
theorem d_X_nodeOf_12 : decode b_X_nodeOf 12 = .ok (.invokevirtual 205, 3) := by decide +kernel
theorem d_X_nodeOf_15 : decode b_X_nodeOf 15 = .ok (.areturn, 1) := by decide +kernel
set_option maxRecDepth 20000 in
theorem ct_X_nodeOf (E : mm_En) (C : Nat → Nat → Int32) {f t : Nat} (hf : fi_s f) (ht : t < 32) (he : C f 3 = nI t) : mm_MT E K_X_nodeOf [.ref 0, .ref f] (hp_H C) (mm_D (some (va_rf ((so_i C t (C f 4)).map bk))) C) := by
  have s1 := sh_X
  have s2 := sh_S
  refine mm_mtL (by decide) (by rfl) (Nat.le_of_ble_eq_true rfl) rfl ?_
  refine ev_aload_n (pc := 0) d_X_nodeOf_0 rfl rfl (by first | rfl | exact mm_rk_rf _) ?_
  refine ev_gR (pc := 1) (by assumption) (by rfl) fl_X_12 d_X_nodeOf_1 ?_
  refine ev_aload_n (pc := 4) d_X_nodeOf_4 rfl rfl (by first | rfl | exact mm_rk_rf _) ?_
  refine ev_gI (pc := 5) (by assumption) (by rfl) fl_X_225 d_X_nodeOf_5 ?_
  rw [he]
  refine ev_aload_n (pc := 8) d_X_nodeOf_8 rfl rfl (by first | rfl | exact mm_rk_rf _) ?_
  refine ev_gI (pc := 9) (by assumption) (by rfl) fl_X_354 d_X_nodeOf_9 ?_
  refine ev_cV (pc := 12) (ct_S_find E C ht _) cl_X_205 jv_S_find ⟨(Nat.le_of_ble_eq_true rfl), (Nat.le_of_ble_eq_true rfl)⟩ rfl (by assumption) rfl (Nat.le_of_ble_eq_true rfl) d_X_nodeOf_12 ⟨Nat.zero_le _, Nat.zero_le _⟩ ?_
  exact ev_aret (pc := 15) d_X_nodeOf_15 ⟨_, rfl⟩ (by first | rfl | exact mm_rk_rf _) (Nat.zero_le _) (Nat.zero_le _) ⟨rfl, rfl⟩
theorem d_X_member_0 : decode b_X_member 0 = .ok (.iload_n 1, 1) := by decide +kernel
theorem d_X_member_1 : decode b_X_member 1 = .ok (.invokestatic 49, 3) := by decide +kernel
theorem d_X_member_4 : decode b_X_member 4 = .ok (.ifCond .eq 22, 3) := by decide +kernel
theorem d_X_member_7 : decode b_X_member 7 = .ok (.iload_n 2, 1) := by decide +kernel
theorem d_X_member_8 : decode b_X_member 8 = .ok (.invokestatic 49, 3) := by decide +kernel
theorem d_X_member_11 : decode b_X_member 11 = .ok (.ifCond .eq 15, 3) := by decide +kernel
theorem d_X_member_14 : decode b_X_member 14 = .ok (.aload_n 0, 1) := by decide +kernel
theorem d_X_member_15 : decode b_X_member 15 = .ok (.getfield 19, 3) := by decide +kernel
theorem d_X_member_18 : decode b_X_member 18 = .ok (.iload_n 1, 1) := by decide +kernel
theorem d_X_member_19 : decode b_X_member 19 = .ok (.iload_n 2, 1) := by decide +kernel
theorem d_X_member_20 : decode b_X_member 20 = .ok (.invokevirtual 53, 3) := by decide +kernel
theorem d_X_member_23 : decode b_X_member 23 = .ok (.ifCond .eq 5, 3) := by decide +kernel
theorem d_X_member_26 : decode b_X_member 26 = .ok (.iconst 0, 1) := by decide +kernel
theorem d_X_member_27 : decode b_X_member 27 = .ok (.ireturn, 1) := by decide +kernel
theorem d_X_member_28 : decode b_X_member 28 = .ok (.aload_n 0, 1) := by decide +kernel
theorem d_X_member_29 : decode b_X_member 29 = .ok (.getfield 19, 3) := by decide +kernel
theorem d_X_member_32 : decode b_X_member 32 = .ok (.iload_n 1, 1) := by decide +kernel
theorem d_X_member_33 : decode b_X_member 33 = .ok (.iload_n 2, 1) := by decide +kernel
theorem d_X_member_34 : decode b_X_member 34 = .ok (.invokevirtual 57, 3) := by decide +kernel
theorem d_X_member_37 : decode b_X_member 37 = .ok (.iconst 1, 1) := by decide +kernel
theorem d_X_member_38 : decode b_X_member 38 = .ok (.ireturn, 1) := by decide +kernel
def xm_C (C : Nat → Nat → Int32) (u g : Int32) : Nat → Nat → Int32 := cs_C C 131 0 (C 131 0 ||| ((1 : Int32) <<< ((u * 4 + g) &&& 31)))
def xm_ok (C : Nat → Nat → Int32) (u g : Int32) : Prop := (¬ u < 0 ∧ ¬ 4 ≤ u) ∧ (¬ g < 0 ∧ ¬ 4 ≤ g) ∧ me_b C u g = 0
set_option maxRecDepth 20000 in
theorem ct_X_memberT (E : mm_En) (C : Nat → Nat → Int32) (u g : Int32) (h : xm_ok C u g) : mm_MT E K_X_member [.ref 0, .int u, .int g] (hp_H C) (mm_D (some (.int 1)) (xm_C C u g)) := by
  have s1 := sh_X
  have s2 := sh_M
  obtain ⟨h1, h2, h3⟩ := h
  refine mm_mtL (by decide) (by rfl) (Nat.le_of_ble_eq_true rfl) rfl ?_
  refine ev_iload_n (pc := 0) d_X_member_0 rfl rfl ?_
  refine ev_cS (pc := 1) (ct_X_isUser E C _) cl_X_49 js_X_isUser ⟨(Nat.le_of_ble_eq_true rfl), (Nat.le_of_ble_eq_true rfl)⟩ rfl rfl (Nat.le_of_ble_eq_true rfl) d_X_member_1 ⟨Nat.zero_le _, Nat.zero_le _⟩ ?_
  refine ev_if_eq (pc := 4) (tgt := 26) d_X_member_4 (by decide) (fun ha => ?_) (fun ha => ?_)
  · exact absurd h1 (b2_0.mp ha)
  refine ev_iload_n (pc := 7) d_X_member_7 rfl rfl ?_
  refine ev_cS (pc := 8) (ct_X_isUser E C _) cl_X_49 js_X_isUser ⟨(Nat.le_of_ble_eq_true rfl), (Nat.le_of_ble_eq_true rfl)⟩ rfl rfl (Nat.le_of_ble_eq_true rfl) d_X_member_8 ⟨Nat.zero_le _, Nat.zero_le _⟩ ?_
  refine ev_if_eq (pc := 11) (tgt := 26) d_X_member_11 (by decide) (fun hb => ?_) (fun hb => ?_)
  · exact absurd h2 (b2_0.mp hb)
  refine ev_aload_n (pc := 14) d_X_member_14 rfl rfl (by first | rfl | exact mm_rk_rf _) ?_
  refine ev_gR (pc := 15) (by assumption) (by rfl) fl_X_19 d_X_member_15 ?_
  refine ev_iload_n (pc := 18) d_X_member_18 rfl rfl ?_
  refine ev_iload_n (pc := 19) d_X_member_19 rfl rfl ?_
  refine ev_cV (pc := 20) (ct_M_isIn E C _ _) cl_X_53 jv_M_isIn ⟨(Nat.le_of_ble_eq_true rfl), (Nat.le_of_ble_eq_true rfl)⟩ rfl (by assumption) rfl (Nat.le_of_ble_eq_true rfl) d_X_member_20 ⟨Nat.zero_le _, Nat.zero_le _⟩ ?_
  refine ev_if_eq (pc := 23) (tgt := 28) d_X_member_23 (by decide) (fun hc => ?_) (fun hc => ?_)
  rotate_left
  · exact absurd h3 hc
  refine ev_aload_n (pc := 28) d_X_member_28 rfl rfl (by first | rfl | exact mm_rk_rf _) ?_
  refine ev_gR (pc := 29) (by assumption) (by rfl) fl_X_19 d_X_member_29 ?_
  refine ev_iload_n (pc := 32) d_X_member_32 rfl rfl ?_
  refine ev_iload_n (pc := 33) d_X_member_33 rfl rfl ?_
  refine ev_cVv (pc := 34) (ct_M_join E C _ _) cl_X_57 jv_M_join ⟨(Nat.le_of_ble_eq_true rfl), (Nat.le_of_ble_eq_true rfl)⟩ rfl (by assumption) rfl (Nat.le_of_ble_eq_true rfl) d_X_member_34 ⟨Nat.zero_le _, Nat.zero_le _⟩ ?_
  refine ev_iconst (pc := 37) (v := 1) d_X_member_37 rfl ?_
  exact ev_zret (pc := 38) d_X_member_38 rfl (by first | exact Or.inl rfl | exact Or.inr rfl | assumption) (Nat.zero_le _) (Nat.zero_le _) ⟨rfl, rfl⟩
set_option maxRecDepth 20000 in
theorem ct_X_memberF (E : mm_En) (C : Nat → Nat → Int32) (u g : Int32) (h : ¬ xm_ok C u g) : mm_MT E K_X_member [.ref 0, .int u, .int g] (hp_H C) (mm_D (some (.int 0)) C) := by
  have s1 := sh_X
  have s2 := sh_M
  refine mm_mtL (by decide) (by rfl) (Nat.le_of_ble_eq_true rfl) rfl ?_
  refine ev_iload_n (pc := 0) d_X_member_0 rfl rfl ?_
  refine ev_cS (pc := 1) (ct_X_isUser E C _) cl_X_49 js_X_isUser ⟨(Nat.le_of_ble_eq_true rfl), (Nat.le_of_ble_eq_true rfl)⟩ rfl rfl (Nat.le_of_ble_eq_true rfl) d_X_member_1 ⟨Nat.zero_le _, Nat.zero_le _⟩ ?_
  refine ev_if_eq (pc := 4) (tgt := 26) d_X_member_4 (by decide) (fun ha => ?_) (fun ha => ?_)
  · refine ev_iconst (pc := 26) (v := 0) d_X_member_26 rfl ?_
    exact ev_zret (pc := 27) d_X_member_27 rfl (by first | exact Or.inl rfl | exact Or.inr rfl | assumption) (Nat.zero_le _) (Nat.zero_le _) ⟨rfl, rfl⟩
  refine ev_iload_n (pc := 7) d_X_member_7 rfl rfl ?_
  refine ev_cS (pc := 8) (ct_X_isUser E C _) cl_X_49 js_X_isUser ⟨(Nat.le_of_ble_eq_true rfl), (Nat.le_of_ble_eq_true rfl)⟩ rfl rfl (Nat.le_of_ble_eq_true rfl) d_X_member_8 ⟨Nat.zero_le _, Nat.zero_le _⟩ ?_
  refine ev_if_eq (pc := 11) (tgt := 26) d_X_member_11 (by decide) (fun hb => ?_) (fun hb => ?_)
  · refine ev_iconst (pc := 26) (v := 0) d_X_member_26 rfl ?_
    exact ev_zret (pc := 27) d_X_member_27 rfl (by first | exact Or.inl rfl | exact Or.inr rfl | assumption) (Nat.zero_le _) (Nat.zero_le _) ⟨rfl, rfl⟩
  refine ev_aload_n (pc := 14) d_X_member_14 rfl rfl (by first | rfl | exact mm_rk_rf _) ?_
  refine ev_gR (pc := 15) (by assumption) (by rfl) fl_X_19 d_X_member_15 ?_
  refine ev_iload_n (pc := 18) d_X_member_18 rfl rfl ?_
  refine ev_iload_n (pc := 19) d_X_member_19 rfl rfl ?_
  refine ev_cV (pc := 20) (ct_M_isIn E C _ _) cl_X_53 jv_M_isIn ⟨(Nat.le_of_ble_eq_true rfl), (Nat.le_of_ble_eq_true rfl)⟩ rfl (by assumption) rfl (Nat.le_of_ble_eq_true rfl) d_X_member_20 ⟨Nat.zero_le _, Nat.zero_le _⟩ ?_
  refine ev_if_eq (pc := 23) (tgt := 28) d_X_member_23 (by decide) (fun hc => ?_) (fun hc => ?_)
  · rw [b2_0, Classical.not_not] at ha hb
    exact absurd ⟨ha, hb, hc⟩ h
  · refine ev_iconst (pc := 26) (v := 0) d_X_member_26 rfl ?_
    exact ev_zret (pc := 27) d_X_member_27 rfl (by first | exact Or.inl rfl | exact Or.inr rfl | assumption) (Nat.zero_le _) (Nat.zero_le _) ⟨rfl, rfl⟩
theorem d_X_say_0 : decode b_X_say 0 = .ok (.aload_n 0, 1) := by decide +kernel
theorem d_X_say_1 : decode b_X_say 1 = .ok (.getfield 35, 3) := by decide +kernel
theorem d_X_say_4 : decode b_X_say 4 = .ok (.getfield 61, 3) := by decide +kernel
theorem d_X_say_7 : decode b_X_say 7 = .ok (.iconst 4, 1) := by decide +kernel
theorem d_X_say_8 : decode b_X_say 8 = .ok (.if_icmp .lt 5, 3) := by decide +kernel
theorem d_X_say_11 : decode b_X_say 11 = .ok (.iconst 0, 1) := by decide +kernel
theorem d_X_say_12 : decode b_X_say 12 = .ok (.ireturn, 1) := by decide +kernel
theorem d_X_say_13 : decode b_X_say 13 = .ok (.aload_n 0, 1) := by decide +kernel
theorem d_X_say_14 : decode b_X_say 14 = .ok (.getfield 35, 3) := by decide +kernel
theorem d_X_say_17 : decode b_X_say 17 = .ok (.iload_n 1, 1) := by decide +kernel
theorem d_X_say_18 : decode b_X_say 18 = .ok (.invokevirtual 65, 3) := by decide +kernel
theorem d_X_say_21 : decode b_X_say 21 = .ok (.iconst 1, 1) := by decide +kernel
theorem d_X_say_22 : decode b_X_say 22 = .ok (.ireturn, 1) := by decide +kernel
set_option maxRecDepth 20000 in
theorem ct_X_say (E : mm_En) (C : Nat → Nat → Int32) {k : Nat} (hk : C 199 1 = nI k) (h4 : k ≤ 4) (x : Int32) : mm_MT E K_X_say [.ref 0, .int x] (hp_H C) (mm_D (some (.int (b2_P (k < 4)))) (if k < 4 then cs_C (cs_C C 200 k x) 199 1 (nI (k + 1)) else C)) := by
  have s1 := sh_X
  have s2 : rw_s 199 4 := ⟨sh_said, sh_saidA⟩
  have s3 := sh_said
  refine mm_mtL (by decide) (by rfl) (Nat.le_of_ble_eq_true rfl) rfl ?_
  refine ev_aload_n (pc := 0) d_X_say_0 rfl rfl (by first | rfl | exact mm_rk_rf _) ?_
  refine ev_gR (pc := 1) (by assumption) (by rfl) fl_X_35 d_X_say_1 ?_
  refine ev_gI (pc := 4) (by assumption) (by rfl) fl_X_61 d_X_say_4 ?_
  rw [hk]
  refine ev_iconst (pc := 7) (v := 4) d_X_say_7 rfl ?_
  refine ev_icmp_lt (pc := 8) (tgt := 13) d_X_say_8 (by decide) (fun ha => ?_) (fun ha => ?_)
  · have hk4 : k < 4 := Nat.not_le.mp (fun z => absurd ha (nI_nlt (b := 4) z (by omega)))
    have e : rw_add C 199 4 x = cs_C (cs_C C 200 k x) 199 1 (nI (k + 1)) := by
      rw [rw_add, hk, if_pos (nI_lt hk4 (by decide)), nI_clamp (by omega), nI_1]
    have hM := ct_R_add E C s2 (by decide) (by rw [hk]; exact nI_pos (by omega)) x
    rw [e] at hM
    refine ev_aload_n (pc := 13) d_X_say_13 rfl rfl (by first | rfl | exact mm_rk_rf _) ?_
    refine ev_gR (pc := 14) (by assumption) (by rfl) fl_X_35 d_X_say_14 ?_
    refine ev_iload_n (pc := 17) d_X_say_17 rfl rfl ?_
    refine ev_cVv (pc := 18) hM cl_X_65 jv_R_add ⟨(Nat.le_of_ble_eq_true rfl), (Nat.le_of_ble_eq_true rfl)⟩ rfl (by assumption) rfl (Nat.le_of_ble_eq_true rfl) d_X_say_18 ⟨Nat.zero_le _, Nat.zero_le _⟩ ?_
    refine ev_iconst (pc := 21) (v := 1) d_X_say_21 rfl ?_
    exact ev_zret (pc := 22) d_X_say_22 rfl (by first | exact Or.inl rfl | exact Or.inr rfl | assumption) (Nat.zero_le _) (Nat.zero_le _) ⟨by rw [b2_t hk4], by rw [if_pos hk4]⟩
  · have hk4 : ¬ k < 4 := fun z => ha (nI_lt z (by decide))
    refine ev_iconst (pc := 11) (v := 0) d_X_say_11 rfl ?_
    exact ev_zret (pc := 12) d_X_say_12 rfl (by first | exact Or.inl rfl | exact Or.inr rfl | assumption) (Nat.zero_le _) (Nat.zero_le _) ⟨by rw [b2_f hk4], by rw [if_neg hk4]⟩
theorem d_X_flush_0 : decode b_X_flush 0 = .ok (.aload_n 0, 1) := by decide +kernel
theorem d_X_flush_1 : decode b_X_flush 1 = .ok (.iload_n 1, 1) := by decide +kernel
theorem d_X_flush_2 : decode b_X_flush 2 = .ok (.iload_n 2, 1) := by decide +kernel
theorem d_X_flush_3 : decode b_X_flush 3 = .ok (.invokevirtual 68, 3) := by decide +kernel
theorem d_X_flush_6 : decode b_X_flush 6 = .ok (.astore_n 3, 1) := by decide +kernel
theorem d_X_flush_7 : decode b_X_flush 7 = .ok (.aload_n 3, 1) := by decide +kernel
theorem d_X_flush_8 : decode b_X_flush 8 = .ok (.ifnull 10, 3) := by decide +kernel
theorem d_X_flush_11 : decode b_X_flush 11 = .ok (.aload_n 3, 1) := by decide +kernel
theorem d_X_flush_12 : decode b_X_flush 12 = .ok (.getfield 72, 3) := by decide +kernel
theorem d_X_flush_15 : decode b_X_flush 15 = .ok (.ifCond .ne 5, 3) := by decide +kernel
theorem d_X_flush_18 : decode b_X_flush 18 = .ok (.iconst 0, 1) := by decide +kernel
theorem d_X_flush_19 : decode b_X_flush 19 = .ok (.ireturn, 1) := by decide +kernel
theorem d_X_flush_20 : decode b_X_flush 20 = .ok (.aload_n 3, 1) := by decide +kernel
theorem d_X_flush_21 : decode b_X_flush 21 = .ok (.iconst 0, 1) := by decide +kernel
theorem d_X_flush_22 : decode b_X_flush 22 = .ok (.putfield 72, 3) := by decide +kernel
theorem d_X_flush_25 : decode b_X_flush 25 = .ok (.iconst 1, 1) := by decide +kernel
theorem d_X_flush_26 : decode b_X_flush 26 = .ok (.ireturn, 1) := by decide +kernel
set_option maxRecDepth 20000 in
theorem ct_X_flush (E : mm_En) (C : Nat → Nat → Int32) {c t : Nat} (hc : c < 2) (ht : t < 8) : mm_MT E K_X_flush [.ref 0, .int (nI c), .int (nI t)] (hp_H C) (mm_D (some (.int (b2_P (¬ C (cn_q c t) 1 = 0)))) (if C (cn_q c t) 1 = 0 then C else cs_C C (cn_q c t) 1 0)) := by
  have s1 := sh_X
  have s2 : rq_s (cn_q c t) := sh_req c hc t ht
  refine mm_mtL (by decide) (by rfl) (Nat.le_of_ble_eq_true rfl) rfl ?_
  refine ev_aload_n (pc := 0) d_X_flush_0 rfl rfl (by first | rfl | exact mm_rk_rf _) ?_
  refine ev_iload_n (pc := 1) d_X_flush_1 rfl rfl ?_
  refine ev_iload_n (pc := 2) d_X_flush_2 rfl rfl ?_
  refine ev_cV (pc := 3) (ct_X_requestAt E C hc ht) cl_X_68 jv_X_requestAt ⟨(Nat.le_of_ble_eq_true rfl), (Nat.le_of_ble_eq_true rfl)⟩ rfl (by assumption) rfl (Nat.le_of_ble_eq_true rfl) d_X_flush_3 ⟨Nat.zero_le _, Nat.zero_le _⟩ ?_
  refine ev_astore_n (pc := 6) d_X_flush_6 rfl (by first | rfl | exact mm_rk_rf _) (Nat.le_of_ble_eq_true rfl) rfl ?_
  try dsimp only [List.set]
  refine ev_aload_n (pc := 7) d_X_flush_7 rfl rfl (by first | rfl | exact mm_rk_rf _) ?_
  refine ev_ifnullR (pc := 8) d_X_flush_8 ?_
  refine ev_aload_n (pc := 11) d_X_flush_11 rfl rfl (by first | rfl | exact mm_rk_rf _) ?_
  refine ev_gI (pc := 12) (by assumption) (by rfl) fl_X_72 d_X_flush_12 ?_
  refine ev_if_ne (pc := 15) (tgt := 20) d_X_flush_15 (by decide) (fun ha => ?_) (fun ha => ?_)
  · refine ev_aload_n (pc := 20) d_X_flush_20 rfl rfl (by first | rfl | exact mm_rk_rf _) ?_
    refine ev_iconst (pc := 21) (v := 0) d_X_flush_21 rfl ?_
    refine ev_pI (pc := 22) (by assumption) (by rfl) fl_X_72 fw_4_1 (by rfl) d_X_flush_22 ?_
    refine ev_iconst (pc := 25) (v := 1) d_X_flush_25 rfl ?_
    exact ev_zret (pc := 26) d_X_flush_26 rfl (by first | exact Or.inl rfl | exact Or.inr rfl | assumption) (Nat.zero_le _) (Nat.zero_le _) ⟨by rw [b2_t ha], by rw [if_neg ha]⟩
  · refine ev_iconst (pc := 18) (v := 0) d_X_flush_18 rfl ?_
    exact ev_zret (pc := 19) d_X_flush_19 rfl (by first | exact Or.inl rfl | exact Or.inr rfl | assumption) (Nat.zero_le _) (Nat.zero_le _) ⟨by rw [b2_f (fun z => z ha)], by rw [if_pos ha]⟩
set_option maxRecDepth 20000 in
theorem ct_X_flushN (E : mm_En) (C : Nat → Nat → Int32) {x y : Int32} (hx : (x < 0 ∨ 2 ≤ x) ∨ (y < 0 ∨ 8 ≤ y)) : mm_MT E K_X_flush [.ref 0, .int x, .int y] (hp_H C) (mm_D (some (.int 0)) C) := by
  have s1 := sh_X
  refine mm_mtL (by decide) (by rfl) (Nat.le_of_ble_eq_true rfl) rfl ?_
  refine ev_aload_n (pc := 0) d_X_flush_0 rfl rfl (by first | rfl | exact mm_rk_rf _) ?_
  refine ev_iload_n (pc := 1) d_X_flush_1 rfl rfl ?_
  refine ev_iload_n (pc := 2) d_X_flush_2 rfl rfl ?_
  refine ev_cV (pc := 3) (ct_X_requestAtN E C hx) cl_X_68 jv_X_requestAt ⟨(Nat.le_of_ble_eq_true rfl), (Nat.le_of_ble_eq_true rfl)⟩ rfl (by assumption) rfl (Nat.le_of_ble_eq_true rfl) d_X_flush_3 ⟨Nat.zero_le _, Nat.zero_le _⟩ ?_
  refine ev_astore_n (pc := 6) d_X_flush_6 rfl (by first | rfl | exact mm_rk_rf _) (Nat.le_of_ble_eq_true rfl) rfl ?_
  try dsimp only [List.set]
  refine ev_aload_n (pc := 7) d_X_flush_7 rfl rfl (by first | rfl | exact mm_rk_rf _) ?_
  refine ev_ifnullN (pc := 8) (tgt := 18) d_X_flush_8 (by decide) ?_
  refine ev_iconst (pc := 18) (v := 0) d_X_flush_18 rfl ?_
  exact ev_zret (pc := 19) d_X_flush_19 rfl (by first | exact Or.inl rfl | exact Or.inr rfl | assumption) (Nat.zero_le _) (Nat.zero_le _) ⟨rfl, rfl⟩
theorem d_X_reply_0 : decode b_X_reply 0 = .ok (.iload_n 1, 1) := by decide +kernel
theorem d_X_reply_1 : decode b_X_reply 1 = .ok (.iconst (-1), 1) := by decide +kernel
theorem d_X_reply_2 : decode b_X_reply 2 = .ok (.if_icmp .ne 13, 3) := by decide +kernel
theorem d_X_reply_5 : decode b_X_reply 5 = .ok (.aload_n 0, 1) := by decide +kernel
theorem d_X_reply_6 : decode b_X_reply 6 = .ok (.getfield 39, 3) := by decide +kernel
theorem d_X_reply_9 : decode b_X_reply 9 = .ok (.getfield 61, 3) := by decide +kernel
theorem d_X_reply_12 : decode b_X_reply 12 = .ok (.goto 11, 3) := by decide +kernel
theorem d_X_reply_15 : decode b_X_reply 15 = .ok (.aload_n 0, 1) := by decide +kernel
theorem d_X_reply_16 : decode b_X_reply 16 = .ok (.getfield 39, 3) := by decide +kernel
theorem d_X_reply_19 : decode b_X_reply 19 = .ok (.iload_n 1, 1) := by decide +kernel
theorem d_X_reply_20 : decode b_X_reply 20 = .ok (.invokevirtual 104, 3) := by decide +kernel
theorem d_X_reply_23 : decode b_X_reply 23 = .ok (.ireturn, 1) := by decide +kernel
set_option maxRecDepth 20000 in
theorem ct_X_reply (E : mm_En) (C : Nat → Nat → Int32) (x : Int32) : mm_MT E K_X_reply [.ref 0, .int x] (hp_H C) (mm_D (some (.int (if x = -1 then C 201 1 else rw_at C 201 8 x))) C) := by
  have s1 := sh_X
  have s2 : rw_s 201 8 := ⟨sh_rep, sh_repA⟩
  have s3 := sh_rep
  refine mm_mtL (by decide) (by rfl) (Nat.le_of_ble_eq_true rfl) rfl ?_
  refine ev_iload_n (pc := 0) d_X_reply_0 rfl rfl ?_
  refine ev_iconst (pc := 1) (v := -1) d_X_reply_1 rfl ?_
  refine ev_icmp_ne (pc := 2) (tgt := 15) d_X_reply_2 (by decide) (fun ha => ?_) (fun ha => ?_)
  · refine ev_aload_n (pc := 15) d_X_reply_15 rfl rfl (by first | rfl | exact mm_rk_rf _) ?_
    refine ev_gR (pc := 16) (by assumption) (by rfl) fl_X_39 d_X_reply_16 ?_
    refine ev_iload_n (pc := 19) d_X_reply_19 rfl rfl ?_
    refine ev_cV (pc := 20) (ct_R_at E C s2 (by decide) _) cl_X_104 jv_R_at ⟨(Nat.le_of_ble_eq_true rfl), (Nat.le_of_ble_eq_true rfl)⟩ rfl (by assumption) rfl (Nat.le_of_ble_eq_true rfl) d_X_reply_20 ⟨Nat.zero_le _, Nat.zero_le _⟩ ?_
    exact ev_iret (pc := 23) d_X_reply_23 rfl (Nat.zero_le _) (Nat.zero_le _) ⟨by rw [if_neg ha], rfl⟩
  · refine ev_aload_n (pc := 5) d_X_reply_5 rfl rfl (by first | rfl | exact mm_rk_rf _) ?_
    refine ev_gR (pc := 6) (by assumption) (by rfl) fl_X_39 d_X_reply_6 ?_
    refine ev_gI (pc := 9) (by assumption) (by rfl) fl_X_61 d_X_reply_9 ?_
    refine ev_goto (pc := 12) (tgt := 23) d_X_reply_12 (by decide) ?_
    exact ev_iret (pc := 23) d_X_reply_23 rfl (Nat.zero_le _) (Nat.zero_le _) ⟨by rw [if_pos ha], rfl⟩
theorem d_X_waiting_0 : decode b_X_waiting 0 = .ok (.aload_n 0, 1) := by decide +kernel
theorem d_X_waiting_1 : decode b_X_waiting 1 = .ok (.iload_n 1, 1) := by decide +kernel
theorem d_X_waiting_2 : decode b_X_waiting 2 = .ok (.invokevirtual 85, 3) := by decide +kernel
theorem d_X_waiting_5 : decode b_X_waiting 5 = .ok (.astore_n 2, 1) := by decide +kernel
theorem d_X_waiting_6 : decode b_X_waiting 6 = .ok (.aload_n 2, 1) := by decide +kernel
theorem d_X_waiting_7 : decode b_X_waiting 7 = .ok (.ifnonnull 7, 3) := by decide +kernel
theorem d_X_waiting_10 : decode b_X_waiting 10 = .ok (.iconst (-1), 1) := by decide +kernel
theorem d_X_waiting_11 : decode b_X_waiting 11 = .ok (.goto 7, 3) := by decide +kernel
theorem d_X_waiting_14 : decode b_X_waiting 14 = .ok (.aload_n 2, 1) := by decide +kernel
theorem d_X_waiting_15 : decode b_X_waiting 15 = .ok (.invokevirtual 108, 3) := by decide +kernel
theorem d_X_waiting_18 : decode b_X_waiting 18 = .ok (.ireturn, 1) := by decide +kernel
set_option maxRecDepth 20000 in
theorem ct_X_waiting (E : mm_En) (C : Nat → Nat → Int32) {c : Nat} (hc : c < 2) : mm_MT E K_X_waiting [.ref 0, .int (nI c)] (hp_H C) (mm_D (some (.int (nI (fx_c (fun t => decide (¬ C (cn_q c t) 1 = 0)) 8 0)))) C) := by
  have s1 := sh_X
  have s2 := sh_con c hc
  refine mm_mtL (by decide) (by rfl) (Nat.le_of_ble_eq_true rfl) rfl ?_
  refine ev_aload_n (pc := 0) d_X_waiting_0 rfl rfl (by first | rfl | exact mm_rk_rf _) ?_
  refine ev_iload_n (pc := 1) d_X_waiting_1 rfl rfl ?_
  refine ev_cV (pc := 2) (ct_X_connectionAt E C hc) cl_X_85 jv_X_connectionAt ⟨(Nat.le_of_ble_eq_true rfl), (Nat.le_of_ble_eq_true rfl)⟩ rfl (by assumption) rfl (Nat.le_of_ble_eq_true rfl) d_X_waiting_2 ⟨Nat.zero_le _, Nat.zero_le _⟩ ?_
  refine ev_astore_n (pc := 5) d_X_waiting_5 rfl (by first | rfl | exact mm_rk_rf _) (Nat.le_of_ble_eq_true rfl) rfl ?_
  try dsimp only [List.set]
  refine ev_aload_n (pc := 6) d_X_waiting_6 rfl rfl (by first | rfl | exact mm_rk_rf _) ?_
  refine ev_ifnonnullR (pc := 7) (tgt := 14) d_X_waiting_7 (by decide) ?_
  refine ev_aload_n (pc := 14) d_X_waiting_14 rfl rfl (by first | rfl | exact mm_rk_rf _) ?_
  refine ev_cV (pc := 15) (ct_C_countRequests E C hc) cl_X_108 jv_C_countRequests ⟨(Nat.le_of_ble_eq_true rfl), (Nat.le_of_ble_eq_true rfl)⟩ rfl (by assumption) rfl (Nat.le_of_ble_eq_true rfl) d_X_waiting_15 ⟨Nat.zero_le _, Nat.zero_le _⟩ ?_
  exact ev_iret (pc := 18) d_X_waiting_18 rfl (Nat.zero_le _) (Nat.zero_le _) ⟨rfl, rfl⟩
set_option maxRecDepth 20000 in
theorem ct_X_waitingN (E : mm_En) (C : Nat → Nat → Int32) {x : Int32} (hx : x < 0 ∨ 2 ≤ x) : mm_MT E K_X_waiting [.ref 0, .int x] (hp_H C) (mm_D (some (.int (-1))) C) := by
  have s1 := sh_X
  refine mm_mtL (by decide) (by rfl) (Nat.le_of_ble_eq_true rfl) rfl ?_
  refine ev_aload_n (pc := 0) d_X_waiting_0 rfl rfl (by first | rfl | exact mm_rk_rf _) ?_
  refine ev_iload_n (pc := 1) d_X_waiting_1 rfl rfl ?_
  refine ev_cV (pc := 2) (ct_X_connectionAtN E C hx) cl_X_85 jv_X_connectionAt ⟨(Nat.le_of_ble_eq_true rfl), (Nat.le_of_ble_eq_true rfl)⟩ rfl (by assumption) rfl (Nat.le_of_ble_eq_true rfl) d_X_waiting_2 ⟨Nat.zero_le _, Nat.zero_le _⟩ ?_
  refine ev_astore_n (pc := 5) d_X_waiting_5 rfl (by first | rfl | exact mm_rk_rf _) (Nat.le_of_ble_eq_true rfl) rfl ?_
  try dsimp only [List.set]
  refine ev_aload_n (pc := 6) d_X_waiting_6 rfl rfl (by first | rfl | exact mm_rk_rf _) ?_
  refine ev_ifnonnullN (pc := 7) d_X_waiting_7 ?_
  refine ev_iconst (pc := 10) (v := -1) d_X_waiting_10 rfl ?_
  refine ev_goto (pc := 11) (tgt := 18) d_X_waiting_11 (by decide) ?_
  exact ev_iret (pc := 18) d_X_waiting_18 rfl (Nat.zero_le _) (Nat.zero_le _) ⟨rfl, rfl⟩
theorem d_X_blocks_0 : decode b_X_blocks 0 = .ok (.aload_n 0, 1) := by decide +kernel
theorem d_X_blocks_1 : decode b_X_blocks 1 = .ok (.getfield 12, 3) := by decide +kernel
theorem d_X_blocks_4 : decode b_X_blocks 4 = .ok (.invokevirtual 146, 3) := by decide +kernel
theorem d_X_blocks_7 : decode b_X_blocks 7 = .ok (.ireturn, 1) := by decide +kernel
set_option maxRecDepth 20000 in
theorem ct_X_blocks (E : mm_En) (C : Nat → Nat → Int32) : mm_MT E K_X_blocks [.ref 0] (hp_H C) (mm_D (some (.int (nI (so_nb C)))) C) := by
  have s1 := sh_X
  have s2 := sh_S
  refine mm_mtL (by decide) (by rfl) (Nat.le_of_ble_eq_true rfl) rfl ?_
  refine ev_aload_n (pc := 0) d_X_blocks_0 rfl rfl (by first | rfl | exact mm_rk_rf _) ?_
  refine ev_gR (pc := 1) (by assumption) (by rfl) fl_X_12 d_X_blocks_1 ?_
  refine ev_cV (pc := 4) (ct_S_countBlocks E C) cl_X_146 jv_S_countBlocks ⟨(Nat.le_of_ble_eq_true rfl), (Nat.le_of_ble_eq_true rfl)⟩ rfl (by assumption) rfl (Nat.le_of_ble_eq_true rfl) d_X_blocks_4 ⟨Nat.zero_le _, Nat.zero_le _⟩ ?_
  exact ev_iret (pc := 7) d_X_blocks_7 rfl (Nat.zero_le _) (Nat.zero_le _) ⟨rfl, rfl⟩
theorem d_X_nodes_0 : decode b_X_nodes 0 = .ok (.aload_n 0, 1) := by decide +kernel
theorem d_X_nodes_1 : decode b_X_nodes 1 = .ok (.getfield 12, 3) := by decide +kernel
theorem d_X_nodes_4 : decode b_X_nodes 4 = .ok (.invokevirtual 149, 3) := by decide +kernel
theorem d_X_nodes_7 : decode b_X_nodes 7 = .ok (.ireturn, 1) := by decide +kernel
set_option maxRecDepth 20000 in
theorem ct_X_nodes (E : mm_En) (C : Nat → Nat → Int32) : mm_MT E K_X_nodes [.ref 0] (hp_H C) (mm_D (some (.int (nI (so_nn C)))) C) := by
  have s1 := sh_X
  have s2 := sh_S
  refine mm_mtL (by decide) (by rfl) (Nat.le_of_ble_eq_true rfl) rfl ?_
  refine ev_aload_n (pc := 0) d_X_nodes_0 rfl rfl (by first | rfl | exact mm_rk_rf _) ?_
  refine ev_gR (pc := 1) (by assumption) (by rfl) fl_X_12 d_X_nodes_1 ?_
  refine ev_cV (pc := 4) (ct_S_countNodes E C) cl_X_149 jv_S_countNodes ⟨(Nat.le_of_ble_eq_true rfl), (Nat.le_of_ble_eq_true rfl)⟩ rfl (by assumption) rfl (Nat.le_of_ble_eq_true rfl) d_X_nodes_4 ⟨Nat.zero_le _, Nat.zero_le _⟩ ?_
  exact ev_iret (pc := 7) d_X_nodes_7 rfl (Nat.zero_le _) (Nat.zero_le _) ⟨rfl, rfl⟩
/-- what fid answers of a fid's cell -/
def xf_v (C : Nat → Nat → Int32) (f : Nat) : Int32 := if C f 0 = 0 then 0 else (if C f 1 = 0 then 1 else 2) + (if C f 3 = 0 then 0 else 4)
theorem d_X_fid_0 : decode b_X_fid 0 = .ok (.aload_n 0, 1) := by decide +kernel
theorem d_X_fid_1 : decode b_X_fid 1 = .ok (.iload_n 1, 1) := by decide +kernel
theorem d_X_fid_2 : decode b_X_fid 2 = .ok (.invokevirtual 85, 3) := by decide +kernel
theorem d_X_fid_5 : decode b_X_fid 5 = .ok (.astore_n 3, 1) := by decide +kernel
theorem d_X_fid_6 : decode b_X_fid 6 = .ok (.aload_n 3, 1) := by decide +kernel
theorem d_X_fid_7 : decode b_X_fid 7 = .ok (.ifnonnull 7, 3) := by decide +kernel
theorem d_X_fid_10 : decode b_X_fid 10 = .ok (.aconst_null, 1) := by decide +kernel
theorem d_X_fid_11 : decode b_X_fid 11 = .ok (.goto 8, 3) := by decide +kernel
theorem d_X_fid_14 : decode b_X_fid 14 = .ok (.aload_n 3, 1) := by decide +kernel
theorem d_X_fid_15 : decode b_X_fid 15 = .ok (.iload_n 2, 1) := by decide +kernel
theorem d_X_fid_16 : decode b_X_fid 16 = .ok (.invokevirtual 112, 3) := by decide +kernel
theorem d_X_fid_19 : decode b_X_fid 19 = .ok (.astore 4, 2) := by decide +kernel
theorem d_X_fid_21 : decode b_X_fid 21 = .ok (.aload 4, 2) := by decide +kernel
theorem d_X_fid_23 : decode b_X_fid 23 = .ok (.ifnonnull 5, 3) := by decide +kernel
theorem d_X_fid_26 : decode b_X_fid 26 = .ok (.iconst (-1), 1) := by decide +kernel
theorem d_X_fid_27 : decode b_X_fid 27 = .ok (.ireturn, 1) := by decide +kernel
theorem d_X_fid_28 : decode b_X_fid 28 = .ok (.aload 4, 2) := by decide +kernel
theorem d_X_fid_30 : decode b_X_fid 30 = .ok (.getfield 116, 3) := by decide +kernel
theorem d_X_fid_33 : decode b_X_fid 33 = .ok (.ifCond .ne 5, 3) := by decide +kernel
theorem d_X_fid_36 : decode b_X_fid 36 = .ok (.iconst 0, 1) := by decide +kernel
theorem d_X_fid_37 : decode b_X_fid 37 = .ok (.ireturn, 1) := by decide +kernel
theorem d_X_fid_38 : decode b_X_fid 38 = .ok (.aload 4, 2) := by decide +kernel
theorem d_X_fid_40 : decode b_X_fid 40 = .ok (.getfield 121, 3) := by decide +kernel
theorem d_X_fid_43 : decode b_X_fid 43 = .ok (.ifCond .eq 7, 3) := by decide +kernel
theorem d_X_fid_46 : decode b_X_fid 46 = .ok (.iconst 2, 1) := by decide +kernel
theorem d_X_fid_47 : decode b_X_fid 47 = .ok (.goto 4, 3) := by decide +kernel
theorem d_X_fid_50 : decode b_X_fid 50 = .ok (.iconst 1, 1) := by decide +kernel
theorem d_X_fid_51 : decode b_X_fid 51 = .ok (.aload 4, 2) := by decide +kernel
theorem d_X_fid_53 : decode b_X_fid 53 = .ok (.invokevirtual 124, 3) := by decide +kernel
theorem d_X_fid_56 : decode b_X_fid 56 = .ok (.ifCond .eq 7, 3) := by decide +kernel
theorem d_X_fid_59 : decode b_X_fid 59 = .ok (.iconst 4, 1) := by decide +kernel
theorem d_X_fid_60 : decode b_X_fid 60 = .ok (.goto 4, 3) := by decide +kernel
theorem d_X_fid_63 : decode b_X_fid 63 = .ok (.iconst 0, 1) := by decide +kernel
theorem d_X_fid_64 : decode b_X_fid 64 = .ok (.iadd, 1) := by decide +kernel
theorem d_X_fid_65 : decode b_X_fid 65 = .ok (.ireturn, 1) := by decide +kernel
set_option maxRecDepth 20000 in
theorem ct_X_fid (E : mm_En) (C : Nat → Nat → Int32) {c f : Nat} (hc : c < 2) (hf : f < 6) : mm_MT E K_X_fid [.ref 0, .int (nI c), .int (nI f)] (hp_H C) (mm_D (some (.int (xf_v C (cn_f c f)))) C) := by
  have s1 := sh_X
  have s2 := sh_con c hc
  have s3 : fi_s (cn_f c f) := sh_fid c hc f hf
  refine mm_mtL (by decide) (by rfl) (Nat.le_of_ble_eq_true rfl) rfl ?_
  refine ev_aload_n (pc := 0) d_X_fid_0 rfl rfl (by first | rfl | exact mm_rk_rf _) ?_
  refine ev_iload_n (pc := 1) d_X_fid_1 rfl rfl ?_
  refine ev_cV (pc := 2) (ct_X_connectionAt E C hc) cl_X_85 jv_X_connectionAt ⟨(Nat.le_of_ble_eq_true rfl), (Nat.le_of_ble_eq_true rfl)⟩ rfl (by assumption) rfl (Nat.le_of_ble_eq_true rfl) d_X_fid_2 ⟨Nat.zero_le _, Nat.zero_le _⟩ ?_
  refine ev_astore_n (pc := 5) d_X_fid_5 rfl (by first | rfl | exact mm_rk_rf _) (Nat.le_of_ble_eq_true rfl) rfl ?_
  try dsimp only [List.set]
  refine ev_aload_n (pc := 6) d_X_fid_6 rfl rfl (by first | rfl | exact mm_rk_rf _) ?_
  refine ev_ifnonnullR (pc := 7) (tgt := 14) d_X_fid_7 (by decide) ?_
  refine ev_aload_n (pc := 14) d_X_fid_14 rfl rfl (by first | rfl | exact mm_rk_rf _) ?_
  refine ev_iload_n (pc := 15) d_X_fid_15 rfl rfl ?_
  refine ev_cV (pc := 16) (ct_C_fidAt E C hc hf) cl_X_112 jv_C_fidAt ⟨(Nat.le_of_ble_eq_true rfl), (Nat.le_of_ble_eq_true rfl)⟩ rfl (by assumption) rfl (Nat.le_of_ble_eq_true rfl) d_X_fid_16 ⟨Nat.zero_le _, Nat.zero_le _⟩ ?_
  refine ev_astore (pc := 19) d_X_fid_19 (by first | rfl | exact mm_rk_rf _) (Nat.le_of_ble_eq_true rfl) rfl ?_
  try dsimp only [List.set]
  refine ev_aload (pc := 21) d_X_fid_21 rfl (by first | rfl | exact mm_rk_rf _) ?_
  refine ev_ifnonnullR (pc := 23) (tgt := 28) d_X_fid_23 (by decide) ?_
  refine ev_aload (pc := 28) d_X_fid_28 rfl (by first | rfl | exact mm_rk_rf _) ?_
  refine ev_gI (pc := 30) (by assumption) (by rfl) fl_X_116 d_X_fid_30 ?_
  refine ev_if_ne (pc := 33) (tgt := 38) d_X_fid_33 (by decide) (fun ha => ?_) (fun ha => ?_)
  rotate_left
  · refine ev_iconst (pc := 36) (v := 0) d_X_fid_36 rfl ?_
    exact ev_iret (pc := 37) d_X_fid_37 rfl (Nat.zero_le _) (Nat.zero_le _) ⟨by simp [xf_v, ha], rfl⟩
  refine ev_aload (pc := 38) d_X_fid_38 rfl (by first | rfl | exact mm_rk_rf _) ?_
  refine ev_gI (pc := 40) (by assumption) (by rfl) fl_X_121 d_X_fid_40 ?_
  refine ev_if_eq (pc := 43) (tgt := 50) d_X_fid_43 (by decide) (fun hb => ?_) (fun hb => ?_)
  · refine ev_iconst (pc := 50) (v := 1) d_X_fid_50 rfl ?_
    refine ev_aload (pc := 51) d_X_fid_51 rfl (by first | rfl | exact mm_rk_rf _) ?_
    refine ev_cV (pc := 53) (ct_F_isInSnapshot E C s3) cl_X_124 jv_F_isInSnapshot ⟨(Nat.le_of_ble_eq_true rfl), (Nat.le_of_ble_eq_true rfl)⟩ rfl (by assumption) rfl (Nat.le_of_ble_eq_true rfl) d_X_fid_53 ⟨Nat.zero_le _, Nat.zero_le _⟩ ?_
    refine ev_if_eq (pc := 56) (tgt := 63) d_X_fid_56 (by decide) (fun hd => ?_) (fun hd => ?_)
    · rw [b2_0, Classical.not_not] at hd
      refine ev_iconst (pc := 63) (v := 0) d_X_fid_63 rfl ?_
      refine ev_iadd (pc := 64) d_X_fid_64 ?_
      exact ev_iret (pc := 65) d_X_fid_65 rfl (Nat.zero_le _) (Nat.zero_le _) ⟨by simp [xf_v, ha, hb, hd], rfl⟩
    · rw [b2_0, Classical.not_not] at hd
      refine ev_iconst (pc := 59) (v := 4) d_X_fid_59 rfl ?_
      refine ev_goto (pc := 60) (tgt := 64) d_X_fid_60 (by decide) ?_
      refine ev_iadd (pc := 64) d_X_fid_64 ?_
      exact ev_iret (pc := 65) d_X_fid_65 rfl (Nat.zero_le _) (Nat.zero_le _) ⟨by simp [xf_v, ha, hb, hd], rfl⟩
  · refine ev_iconst (pc := 46) (v := 2) d_X_fid_46 rfl ?_
    refine ev_goto (pc := 47) (tgt := 51) d_X_fid_47 (by decide) ?_
    refine ev_aload (pc := 51) d_X_fid_51 rfl (by first | rfl | exact mm_rk_rf _) ?_
    refine ev_cV (pc := 53) (ct_F_isInSnapshot E C s3) cl_X_124 jv_F_isInSnapshot ⟨(Nat.le_of_ble_eq_true rfl), (Nat.le_of_ble_eq_true rfl)⟩ rfl (by assumption) rfl (Nat.le_of_ble_eq_true rfl) d_X_fid_53 ⟨Nat.zero_le _, Nat.zero_le _⟩ ?_
    refine ev_if_eq (pc := 56) (tgt := 63) d_X_fid_56 (by decide) (fun hd => ?_) (fun hd => ?_)
    · rw [b2_0, Classical.not_not] at hd
      refine ev_iconst (pc := 63) (v := 0) d_X_fid_63 rfl ?_
      refine ev_iadd (pc := 64) d_X_fid_64 ?_
      exact ev_iret (pc := 65) d_X_fid_65 rfl (Nat.zero_le _) (Nat.zero_le _) ⟨by simp [xf_v, ha, hb, hd], rfl⟩
    · rw [b2_0, Classical.not_not] at hd
      refine ev_iconst (pc := 59) (v := 4) d_X_fid_59 rfl ?_
      refine ev_goto (pc := 60) (tgt := 64) d_X_fid_60 (by decide) ?_
      refine ev_iadd (pc := 64) d_X_fid_64 ?_
      exact ev_iret (pc := 65) d_X_fid_65 rfl (Nat.zero_le _) (Nat.zero_le _) ⟨by simp [xf_v, ha, hb, hd], rfl⟩
set_option maxRecDepth 20000 in
theorem ct_X_fidN (E : mm_En) (C : Nat → Nat → Int32) {x y : Int32} (hx : (x < 0 ∨ 2 ≤ x) ∨ (y < 0 ∨ 6 ≤ y)) : mm_MT E K_X_fid [.ref 0, .int x, .int y] (hp_H C) (mm_D (some (.int (-1))) C) := by
  have s1 := sh_X
  rcases ix_or x (n := 2) (by decide) with ⟨c, hc, rfl⟩ | hn
  · have hy : y < 0 ∨ 6 ≤ y := by
      rcases hx with h | h
      · rcases h with h | h
        · exact absurd h (nI_pos (by omega))
        · exact absurd h (nI_ge hc (by decide))
      · exact h
    have s2 := sh_con c hc
    refine mm_mtL (by decide) (by rfl) (Nat.le_of_ble_eq_true rfl) rfl ?_
    refine ev_aload_n (pc := 0) d_X_fid_0 rfl rfl (by first | rfl | exact mm_rk_rf _) ?_
    refine ev_iload_n (pc := 1) d_X_fid_1 rfl rfl ?_
    refine ev_cV (pc := 2) (ct_X_connectionAt E C hc) cl_X_85 jv_X_connectionAt ⟨(Nat.le_of_ble_eq_true rfl), (Nat.le_of_ble_eq_true rfl)⟩ rfl (by assumption) rfl (Nat.le_of_ble_eq_true rfl) d_X_fid_2 ⟨Nat.zero_le _, Nat.zero_le _⟩ ?_
    refine ev_astore_n (pc := 5) d_X_fid_5 rfl (by first | rfl | exact mm_rk_rf _) (Nat.le_of_ble_eq_true rfl) rfl ?_
    try dsimp only [List.set]
    refine ev_aload_n (pc := 6) d_X_fid_6 rfl rfl (by first | rfl | exact mm_rk_rf _) ?_
    refine ev_ifnonnullR (pc := 7) (tgt := 14) d_X_fid_7 (by decide) ?_
    refine ev_aload_n (pc := 14) d_X_fid_14 rfl rfl (by first | rfl | exact mm_rk_rf _) ?_
    refine ev_iload_n (pc := 15) d_X_fid_15 rfl rfl ?_
    refine ev_cV (pc := 16) (ct_C_fidAtN E C hc hy) cl_X_112 jv_C_fidAt ⟨(Nat.le_of_ble_eq_true rfl), (Nat.le_of_ble_eq_true rfl)⟩ rfl (by assumption) rfl (Nat.le_of_ble_eq_true rfl) d_X_fid_16 ⟨Nat.zero_le _, Nat.zero_le _⟩ ?_
    refine ev_astore (pc := 19) d_X_fid_19 (by first | rfl | exact mm_rk_rf _) (Nat.le_of_ble_eq_true rfl) rfl ?_
    try dsimp only [List.set]
    refine ev_aload (pc := 21) d_X_fid_21 rfl (by first | rfl | exact mm_rk_rf _) ?_
    refine ev_ifnonnullN (pc := 23) d_X_fid_23 ?_
    refine ev_iconst (pc := 26) (v := -1) d_X_fid_26 rfl ?_
    exact ev_iret (pc := 27) d_X_fid_27 rfl (Nat.zero_le _) (Nat.zero_le _) ⟨rfl, rfl⟩
  · refine mm_mtL (by decide) (by rfl) (Nat.le_of_ble_eq_true rfl) rfl ?_
    refine ev_aload_n (pc := 0) d_X_fid_0 rfl rfl (by first | rfl | exact mm_rk_rf _) ?_
    refine ev_iload_n (pc := 1) d_X_fid_1 rfl rfl ?_
    refine ev_cV (pc := 2) (ct_X_connectionAtN E C hn) cl_X_85 jv_X_connectionAt ⟨(Nat.le_of_ble_eq_true rfl), (Nat.le_of_ble_eq_true rfl)⟩ rfl (by assumption) rfl (Nat.le_of_ble_eq_true rfl) d_X_fid_2 ⟨Nat.zero_le _, Nat.zero_le _⟩ ?_
    refine ev_astore_n (pc := 5) d_X_fid_5 rfl (by first | rfl | exact mm_rk_rf _) (Nat.le_of_ble_eq_true rfl) rfl ?_
    try dsimp only [List.set]
    refine ev_aload_n (pc := 6) d_X_fid_6 rfl rfl (by first | rfl | exact mm_rk_rf _) ?_
    refine ev_ifnonnullN (pc := 7) d_X_fid_7 ?_
    refine ev_null (pc := 10) d_X_fid_10 ?_
    refine ev_goto (pc := 11) (tgt := 19) d_X_fid_11 (by decide) ?_
    refine ev_astore (pc := 19) d_X_fid_19 (by first | rfl | exact mm_rk_rf _) (Nat.le_of_ble_eq_true rfl) rfl ?_
    try dsimp only [List.set]
    refine ev_aload (pc := 21) d_X_fid_21 rfl (by first | rfl | exact mm_rk_rf _) ?_
    refine ev_ifnonnullN (pc := 23) d_X_fid_23 ?_
    refine ev_iconst (pc := 26) (v := -1) d_X_fid_26 rfl ?_
    exact ev_iret (pc := 27) d_X_fid_27 rfl (Nat.zero_le _) (Nat.zero_le _) ⟨rfl, rfl⟩
