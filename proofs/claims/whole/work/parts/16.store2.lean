/-! The store: the children in the order of their titles; how much room there is; changing by copying. -/
/-- the lowest title above x among the nodes of the directory with path p: from block i on, n blocks, lo so far -/
def cb_l (C : Nat → Nat → Int32) (y : Int32) (lo : Option Nat) : Bool := match lo with
  | none => true
  | some l => decide (y < C (bk l) 4)
def cb_n (C : Nat → Nat → Int32) (t : Nat) (p x : Int32) (i : Nat) (lo : Option Nat) : Option Nat := if so_kid C t p i = true ∧ x < C (bk i) 4 ∧ cb_l C (C (bk i) 4) lo = true then some i else lo
def cb_f (C : Nat → Nat → Int32) (t : Nat) (p x : Int32) : Nat → Nat → Option Nat → Option Nat
  | 0, _, lo => lo
  | n + 1, i, lo => cb_f C t p x n (i + 1) (cb_n C t p x i lo)
theorem cb_lt {C : Nat → Nat → Int32} {t : Nat} {p x : Int32} {i : Nat} {lo : Option Nat} (hi : i < 64) (h : ∀ l, lo = some l → l < 64) : ∀ l, cb_n C t p x i lo = some l → l < 64 := by
  intro l hl
  unfold cb_n at hl
  split at hl
  · cases hl
    exact hi
  · exact h l hl
def so_cb (C : Nat → Nat → Int32) (t : Nat) (p x : Int32) : Option Nat := (cb_f C t p x 64 0 none).map bk
theorem d_S_childBehind_0 : decode b_S_childBehind 0 = .ok (.aconst_null, 1) := by decide +kernel
theorem d_S_childBehind_1 : decode b_S_childBehind 1 = .ok (.astore 4, 2) := by decide +kernel
theorem d_S_childBehind_3 : decode b_S_childBehind 3 = .ok (.iconst 0, 1) := by decide +kernel
theorem d_S_childBehind_4 : decode b_S_childBehind 4 = .ok (.istore 5, 2) := by decide +kernel
theorem d_S_childBehind_6 : decode b_S_childBehind 6 = .ok (.iload 5, 2) := by decide +kernel
theorem d_S_childBehind_8 : decode b_S_childBehind 8 = .ok (.bipush 64, 2) := by decide +kernel
theorem d_S_childBehind_10 : decode b_S_childBehind 10 = .ok (.if_icmp .ge 71, 3) := by decide +kernel
theorem d_S_childBehind_13 : decode b_S_childBehind 13 = .ok (.aload_n 0, 1) := by decide +kernel
theorem d_S_childBehind_14 : decode b_S_childBehind 14 = .ok (.getfield 11, 3) := by decide +kernel
theorem d_S_childBehind_17 : decode b_S_childBehind 17 = .ok (.iload 5, 2) := by decide +kernel
theorem d_S_childBehind_19 : decode b_S_childBehind 19 = .ok (.aaload, 1) := by decide +kernel
theorem d_S_childBehind_20 : decode b_S_childBehind 20 = .ok (.astore 6, 2) := by decide +kernel
theorem d_S_childBehind_22 : decode b_S_childBehind 22 = .ok (.aload 6, 2) := by decide +kernel
theorem d_S_childBehind_24 : decode b_S_childBehind 24 = .ok (.iload_n 1, 1) := by decide +kernel
theorem d_S_childBehind_25 : decode b_S_childBehind 25 = .ok (.aload_n 2, 1) := by decide +kernel
theorem d_S_childBehind_26 : decode b_S_childBehind 26 = .ok (.invokevirtual 47, 3) := by decide +kernel
theorem d_S_childBehind_29 : decode b_S_childBehind 29 = .ok (.ifCond .eq 16, 3) := by decide +kernel
theorem d_S_childBehind_32 : decode b_S_childBehind 32 = .ok (.aload 6, 2) := by decide +kernel
theorem d_S_childBehind_34 : decode b_S_childBehind 34 = .ok (.getfield 44, 3) := by decide +kernel
theorem d_S_childBehind_37 : decode b_S_childBehind 37 = .ok (.iload_n 3, 1) := by decide +kernel
theorem d_S_childBehind_38 : decode b_S_childBehind 38 = .ok (.if_icmp .le 7, 3) := by decide +kernel
theorem d_S_childBehind_41 : decode b_S_childBehind 41 = .ok (.iconst 1, 1) := by decide +kernel
theorem d_S_childBehind_42 : decode b_S_childBehind 42 = .ok (.goto 4, 3) := by decide +kernel
theorem d_S_childBehind_45 : decode b_S_childBehind 45 = .ok (.iconst 0, 1) := by decide +kernel
theorem d_S_childBehind_46 : decode b_S_childBehind 46 = .ok (.istore 7, 2) := by decide +kernel
theorem d_S_childBehind_48 : decode b_S_childBehind 48 = .ok (.iload 7, 2) := by decide +kernel
theorem d_S_childBehind_50 : decode b_S_childBehind 50 = .ok (.ifCond .eq 25, 3) := by decide +kernel
theorem d_S_childBehind_53 : decode b_S_childBehind 53 = .ok (.aload 4, 2) := by decide +kernel
theorem d_S_childBehind_55 : decode b_S_childBehind 55 = .ok (.ifnull 16, 3) := by decide +kernel
theorem d_S_childBehind_58 : decode b_S_childBehind 58 = .ok (.aload 6, 2) := by decide +kernel
theorem d_S_childBehind_60 : decode b_S_childBehind 60 = .ok (.getfield 44, 3) := by decide +kernel
theorem d_S_childBehind_63 : decode b_S_childBehind 63 = .ok (.aload 4, 2) := by decide +kernel
theorem d_S_childBehind_65 : decode b_S_childBehind 65 = .ok (.getfield 44, 3) := by decide +kernel
theorem d_S_childBehind_68 : decode b_S_childBehind 68 = .ok (.if_icmp .ge 7, 3) := by decide +kernel
theorem d_S_childBehind_71 : decode b_S_childBehind 71 = .ok (.aload 6, 2) := by decide +kernel
theorem d_S_childBehind_73 : decode b_S_childBehind 73 = .ok (.astore 4, 2) := by decide +kernel
theorem d_S_childBehind_75 : decode b_S_childBehind 75 = .ok (.iinc 5 1, 3) := by decide +kernel
theorem d_S_childBehind_78 : decode b_S_childBehind 78 = .ok (.goto (-72), 3) := by decide +kernel
theorem d_S_childBehind_81 : decode b_S_childBehind 81 = .ok (.aload 4, 2) := by decide +kernel
theorem d_S_childBehind_83 : decode b_S_childBehind 83 = .ok (.areturn, 1) := by decide +kernel
set_option maxHeartbeats 2000000 in
set_option maxRecDepth 20000 in
theorem ct_S_childBehind (E : mm_En) (C : Nat → Nat → Int32) {t : Nat} (ht : t < 32) {b : Nat} (hb9 : bl_s b) (x : Int32) : mm_MT E K_S_childBehind [.ref 1, .int (nI t), .ref b, .int x] (hp_H C) (mm_D (some (va_rf (so_cb C t (C b 2) x))) C) := by
  have s1 := sh_S
  have s2 := sh_pool
  have loop : ∀ (d i : Nat) (lo : Option Nat), i + d = 64 → (∀ l, lo = some l → l < 64) → ev_At E K_S_childBehind 6 [some (.ref 1), some (.int (nI t)), some (.ref b), some (.int x), some (va_rf (lo.map bk)), some (.int (nI i)), none, none] [] (hp_H C) 0 0 (mm_D (some (va_rf ((cb_f C t (C b 2) x d i lo).map bk))) C) := by
    intro d
    induction d with
    | zero =>
      intro i lo hi hlo
      have hi8 : i = 64 := by omega
      subst hi8
      refine ev_iload (pc := 6) d_S_childBehind_6 rfl ?_
      refine ev_bipush (pc := 8) (v := 64) d_S_childBehind_8 (by decide) ?_
      refine ev_icmp_ge (pc := 10) (tgt := 81) d_S_childBehind_10 (by decide) (fun ha => ?_) (fun ha => ?_)
      · refine ev_aload (pc := 81) d_S_childBehind_81 rfl (by first | rfl | exact mm_rk_rf _) ?_
        exact ev_aret (pc := 83) d_S_childBehind_83 ⟨_, rfl⟩ (by first | rfl | exact mm_rk_rf _) (Nat.zero_le _) (Nat.zero_le _) ⟨rfl, rfl⟩
      · exact absurd (show nI 64 ≤ nI 64 from Int32.le_refl _) ha
    | succ d ih =>
      intro i lo hi hlo
      have hin : vp_in (nI i) 64 := vp_in_nI (by omega) (by decide)
      have hpl := bk_p (i := i) (by omega)
      have s3 := bk_s (i := i) (by omega)
      have next : ∀ (lo' : Option Nat) (z : Int32), cb_n C t (C b 2) x i lo = lo' → ev_At E K_S_childBehind 75 [some (.ref 1), some (.int (nI t)), some (.ref b), some (.int x), some (va_rf (lo'.map bk)), some (.int (nI i)), some (.ref (bk i)), some (.int z)] [] (hp_H C) 0 0 (mm_D (some (va_rf ((cb_f C t (C b 2) x (d + 1) i lo).map bk))) C) := by
        intro lo' z hz
        subst hz
        refine ev_iinc (pc := 75) d_S_childBehind_75 (Nat.le_of_ble_eq_true rfl) rfl (nx_inc _) rfl ?_
        try dsimp only [List.set]
        refine ev_goto (pc := 78) (tgt := 6) d_S_childBehind_78 (by decide) ?_
        refine ev_forget (L' := [some (.ref 1), some (.int (nI t)), some (.ref b), some (.int x), some (va_rf ((cb_n C t (C b 2) x i lo).map bk)), some (.int (nI (i + 1))), none, none]) (by simp [mm_le]) ?_
        exact ih (i + 1) _ (by omega) (cb_lt (by omega) hlo)
      refine ev_iload (pc := 6) d_S_childBehind_6 rfl ?_
      refine ev_bipush (pc := 8) (v := 64) d_S_childBehind_8 (by decide) ?_
      refine ev_icmp_ge (pc := 10) (tgt := 81) d_S_childBehind_10 (by decide) (fun ha => ?_) (fun ha => ?_)
      · exact absurd ha (nI_ge (show i < 64 by omega) (by decide))
      refine ev_aload_n (pc := 13) d_S_childBehind_13 rfl rfl (by first | rfl | exact mm_rk_rf _) ?_
      refine ev_gR (pc := 14) (by assumption) (by rfl) fl_S_11 d_S_childBehind_14 ?_
      refine ev_iload (pc := 17) d_S_childBehind_17 rfl ?_
      refine ev_rR (pc := 19) (by assumption) rfl (by assumption) (by assumption) d_S_childBehind_19 ?_
      refine ev_astore (pc := 20) d_S_childBehind_20 (by first | rfl | exact mm_rk_rf _) (Nat.le_of_ble_eq_true rfl) rfl ?_
      try dsimp only [List.set]
      refine ev_aload (pc := 22) d_S_childBehind_22 rfl (by first | rfl | exact mm_rk_rf _) ?_
      refine ev_iload_n (pc := 24) d_S_childBehind_24 rfl rfl ?_
      refine ev_aload_n (pc := 25) d_S_childBehind_25 rfl rfl (by first | rfl | exact mm_rk_rf _) ?_
      refine ev_cV (pc := 26) (ct_B_isNodeOf E C s3 hb9 ht) cl_S_47 jv_B_isNodeOf ⟨(Nat.le_of_ble_eq_true rfl), (Nat.le_of_ble_eq_true rfl)⟩ rfl (by assumption) rfl (Nat.le_of_ble_eq_true rfl) d_S_childBehind_26 ⟨Nat.zero_le _, Nat.zero_le _⟩ ?_
      refine ev_if_eq (pc := 29) (tgt := 45) d_S_childBehind_29 (by decide) (fun hb => ?_) (fun hb => ?_)
      · rw [b2_0] at hb
        have h9 : so_kid C t (C b 2) i = false := by simpa [so_kid] using hb
        refine ev_iconst (pc := 45) (v := 0) d_S_childBehind_45 rfl ?_
        refine ev_istore (pc := 46) d_S_childBehind_46 (Nat.le_of_ble_eq_true rfl) rfl ?_
        try dsimp only [List.set]
        refine ev_iload (pc := 48) d_S_childBehind_48 rfl ?_
        refine ev_if_eq (pc := 50) (tgt := 75) d_S_childBehind_50 (by decide) (fun hq => ?_) (fun hq => ?_)
        · exact next lo 0 (by simp [cb_n, h9])
        · exact absurd rfl hq
      rw [b2_0, Classical.not_not] at hb
      have h9 : so_kid C t (C b 2) i = true := by simpa [so_kid] using hb
      refine ev_aload (pc := 32) d_S_childBehind_32 rfl (by first | rfl | exact mm_rk_rf _) ?_
      refine ev_gI (pc := 34) (by assumption) (by rfl) fl_S_44 d_S_childBehind_34 ?_
      refine ev_iload_n (pc := 37) d_S_childBehind_37 rfl rfl ?_
      refine ev_icmp_le (pc := 38) (tgt := 45) d_S_childBehind_38 (by decide) (fun hd => ?_) (fun hd => ?_)
      · refine ev_iconst (pc := 45) (v := 0) d_S_childBehind_45 rfl ?_
        refine ev_istore (pc := 46) d_S_childBehind_46 (Nat.le_of_ble_eq_true rfl) rfl ?_
        try dsimp only [List.set]
        refine ev_iload (pc := 48) d_S_childBehind_48 rfl ?_
        refine ev_if_eq (pc := 50) (tgt := 75) d_S_childBehind_50 (by decide) (fun hq => ?_) (fun hq => ?_)
        · exact next lo 0 (by simp [cb_n, Int32.not_lt.mpr hd])
        · exact absurd rfl hq
      have hd' : x < C (bk i) 4 := Int32.not_le.mp hd
      refine ev_iconst (pc := 41) (v := 1) d_S_childBehind_41 rfl ?_
      refine ev_goto (pc := 42) (tgt := 46) d_S_childBehind_42 (by decide) ?_
      refine ev_istore (pc := 46) d_S_childBehind_46 (Nat.le_of_ble_eq_true rfl) rfl ?_
      try dsimp only [List.set]
      refine ev_iload (pc := 48) d_S_childBehind_48 rfl ?_
      refine ev_if_eq (pc := 50) (tgt := 75) d_S_childBehind_50 (by decide) (fun hq => ?_) (fun hq => ?_)
      · exact absurd hq (by decide)
      refine ev_aload (pc := 53) d_S_childBehind_53 rfl (by first | rfl | exact mm_rk_rf _) ?_
      refine ev_ifnull (pc := 55) (tgt := 71) d_S_childBehind_55 (by decide) (fun he => ?_) (fun he_i he => ?_)
      · have hlo0 : lo = none := by
          cases lo with
          | none => rfl
          | some l => simp at he
        refine ev_aload (pc := 71) d_S_childBehind_71 rfl (by first | rfl | exact mm_rk_rf _) ?_
        refine ev_astore (pc := 73) d_S_childBehind_73 (by first | rfl | exact mm_rk_rf _) (Nat.le_of_ble_eq_true rfl) rfl ?_
        try dsimp only [List.set]
        exact next (some i) 1 (by simp [cb_n, h9, hd', hlo0, cb_l])
      · obtain ⟨l, rfl⟩ : ∃ l, lo = some l := by
          cases lo with
          | none => simp at he
          | some l => exact ⟨l, rfl⟩
        have s4 := bk_s (hlo l rfl)
        refine ev_aload (pc := 58) d_S_childBehind_58 rfl (by first | rfl | exact mm_rk_rf _) ?_
        refine ev_gI (pc := 60) (by assumption) (by rfl) fl_S_44 d_S_childBehind_60 ?_
        refine ev_aload (pc := 63) d_S_childBehind_63 rfl (by first | rfl | exact mm_rk_rf _) ?_
        refine ev_gI (pc := 65) (by assumption) (by rfl) fl_S_44 d_S_childBehind_65 ?_
        refine ev_icmp_ge (pc := 68) (tgt := 75) d_S_childBehind_68 (by decide) (fun hg => ?_) (fun hg => ?_)
        · exact next (some l) 1 (by simp [cb_n, cb_l, Int32.not_lt.mpr hg])
        · refine ev_aload (pc := 71) d_S_childBehind_71 rfl (by first | rfl | exact mm_rk_rf _) ?_
          refine ev_astore (pc := 73) d_S_childBehind_73 (by first | rfl | exact mm_rk_rf _) (Nat.le_of_ble_eq_true rfl) rfl ?_
          try dsimp only [List.set]
          exact next (some i) 1 (by simp [cb_n, h9, hd', cb_l, Int32.not_le.mp hg])
  refine mm_mtL (by decide) (by rfl) (Nat.le_of_ble_eq_true rfl) rfl ?_
  refine ev_null (pc := 0) d_S_childBehind_0 ?_
  refine ev_astore (pc := 1) d_S_childBehind_1 (by first | rfl | exact mm_rk_rf _) (Nat.le_of_ble_eq_true rfl) rfl ?_
  try dsimp only [List.set]
  refine ev_iconst (pc := 3) (v := 0) d_S_childBehind_3 rfl ?_
  refine ev_istore (pc := 4) d_S_childBehind_4 (Nat.le_of_ble_eq_true rfl) rfl ?_
  try dsimp only [List.set]
  exact loop 64 0 none (by omega) (fun l h => by cases h)
