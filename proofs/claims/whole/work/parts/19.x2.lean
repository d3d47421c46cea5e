/-! Replies, crash, sync, snapshot, send. -/
noncomputable def it_P {α : Type} (P : Prop) (a b : α) : α := @ite α P (Classical.propDecidable P) a b
theorem it_t {α : Type} {P : Prop} {a b : α} (h : P) : it_P P a b = a := @if_pos P (Classical.propDecidable P) h α a b
theorem it_f {α : Type} {P : Prop} {a b : α} (h : ¬ P) : it_P P a b = b := @if_neg P (Classical.propDecidable P) h α a b
/-- one more reply: k were there -/
def rp_add (C : Nat → Nat → Int32) (k : Nat) (x : Int32) : Nat → Nat → Int32 := cs_C (cs_C C 202 k x) 201 1 (nI (k + 1))
theorem rp_k (C : Nat → Nat → Int32) (k : Nat) (x : Int32) : rp_add C k x 201 1 = nI (k + 1) := cs_at _ _ _ _
theorem rp_ne {C : Nat → Nat → Int32} {k : Nat} {x : Int32} {a j : Nat} (h1 : a ≠ 201) (h2 : a ≠ 202) : rp_add C k x a j = C a j := by
  unfold rp_add
  rw [cs_ne _ _ (by omega), cs_ne _ _ (by omega)]
theorem ct_rp (E : mm_En) (C : Nat → Nat → Int32) {k : Nat} (hk : C 201 1 = nI k) (h8 : k < 8) (x : Int32) : mm_MT E K_R_add [.ref 201, .int x] (hp_H C) (mm_D none (rp_add C k x)) := by
  have e : rw_add C 201 8 x = rp_add C k x := by
    rw [rw_add, hk, if_pos (nI_lt h8 (by decide)), nI_clamp (by omega), nI_1]
    rfl
  rw [← e]
  exact ct_R_add E C ⟨sh_rep, sh_repA⟩ (by decide) (by rw [hk]; exact nI_pos (by omega)) x
theorem bk_ne {i : Nat} (h : i < 64) : bk i ≠ 201 ∧ bk i ≠ 202 ∧ bk i ≠ 203 ∧ bk i ≠ 199 ∧ bk i ≠ 200 ∧ bk i ≠ 131 ∧ bk i ≠ 1 ∧ bk i < 131 ∧ 3 ≤ bk i := by
  have : bk i = 3 + 2 * i := rfl
  omega
def rp_v (C : Nat → Nat → Int32) (b k : Nat) : Nat → Nat → Int32 := rp_add (rp_add C k (C b 2)) (k + 1) (C b 7)
def rp_m (C : Nat → Nat → Int32) (b k : Nat) : Nat → Nat → Int32 := rp_add (rp_v C b k) (k + 2) (C b 8)
theorem rp_vne {C : Nat → Nat → Int32} {b k a j : Nat} (h1 : a ≠ 201) (h2 : a ≠ 202) : rp_v C b k a j = C a j := by
  unfold rp_v
  rw [rp_ne h1 h2, rp_ne h1 h2]
theorem rp_mne {C : Nat → Nat → Int32} {b k a j : Nat} (h1 : a ≠ 201) (h2 : a ≠ 202) : rp_m C b k a j = C a j := by
  unfold rp_m
  rw [rp_ne h1 h2, rp_vne h1 h2]
theorem rp_vk (C : Nat → Nat → Int32) (b k : Nat) : rp_v C b k 201 1 = nI (k + 2) := rp_k _ _ _
theorem rp_mk (C : Nat → Nat → Int32) (b k : Nat) : rp_m C b k 201 1 = nI (k + 3) := rp_k _ _ _
theorem d_X_replyWithVersion_0 : decode b_X_replyWithVersion 0 = .ok (.aload_n 0, 1) := by decide +kernel
theorem d_X_replyWithVersion_1 : decode b_X_replyWithVersion 1 = .ok (.getfield 39, 3) := by decide +kernel
theorem d_X_replyWithVersion_4 : decode b_X_replyWithVersion 4 = .ok (.aload_n 1, 1) := by decide +kernel
theorem d_X_replyWithVersion_5 : decode b_X_replyWithVersion 5 = .ok (.getfield 244, 3) := by decide +kernel
theorem d_X_replyWithVersion_8 : decode b_X_replyWithVersion 8 = .ok (.invokevirtual 65, 3) := by decide +kernel
theorem d_X_replyWithVersion_11 : decode b_X_replyWithVersion 11 = .ok (.aload_n 0, 1) := by decide +kernel
theorem d_X_replyWithVersion_12 : decode b_X_replyWithVersion 12 = .ok (.getfield 39, 3) := by decide +kernel
theorem d_X_replyWithVersion_15 : decode b_X_replyWithVersion 15 = .ok (.aload_n 1, 1) := by decide +kernel
theorem d_X_replyWithVersion_16 : decode b_X_replyWithVersion 16 = .ok (.getfield 272, 3) := by decide +kernel
theorem d_X_replyWithVersion_19 : decode b_X_replyWithVersion 19 = .ok (.invokevirtual 65, 3) := by decide +kernel
theorem d_X_replyWithVersion_22 : decode b_X_replyWithVersion 22 = .ok (.return_, 1) := by decide +kernel
set_option maxRecDepth 20000 in
theorem ct_X_replyWithVersion (E : mm_En) (C : Nat → Nat → Int32) {i k : Nat} (hi : i < 64) (hk : C 201 1 = nI k) (h8 : k + 1 < 8) : mm_MT E K_X_replyWithVersion [.ref 0, .ref (bk i)] (hp_H C) (mm_D none (rp_v C (bk i) k)) := by
  have s1 := sh_X
  have s2 := bk_s hi
  have s3 := sh_rep
  obtain ⟨n1, n2, -⟩ := bk_ne hi
  refine mm_mtL (by decide) (by rfl) (Nat.le_of_ble_eq_true rfl) rfl ?_
  refine ev_aload_n (pc := 0) d_X_replyWithVersion_0 rfl rfl (by first | rfl | exact mm_rk_rf _) ?_
  refine ev_gR (pc := 1) sh_X (by rfl) fl_X_39 d_X_replyWithVersion_1 ?_
  refine ev_aload_n (pc := 4) d_X_replyWithVersion_4 rfl rfl (by first | rfl | exact mm_rk_rf _) ?_
  refine ev_gI (pc := 5) (by assumption) (by rfl) fl_X_244 d_X_replyWithVersion_5 ?_
  refine ev_cVv (pc := 8) (ct_rp E C hk (by omega) _) cl_X_65 jv_R_add ⟨(Nat.le_of_ble_eq_true rfl), (Nat.le_of_ble_eq_true rfl)⟩ rfl (by first | exact sh_said | exact sh_rep | assumption) rfl (Nat.le_of_ble_eq_true rfl) d_X_replyWithVersion_8 ⟨Nat.zero_le _, Nat.zero_le _⟩ ?_
  refine ev_aload_n (pc := 11) d_X_replyWithVersion_11 rfl rfl (by first | rfl | exact mm_rk_rf _) ?_
  refine ev_gR (pc := 12) sh_X (by rfl) fl_X_39 d_X_replyWithVersion_12 ?_
  refine ev_aload_n (pc := 15) d_X_replyWithVersion_15 rfl rfl (by first | rfl | exact mm_rk_rf _) ?_
  refine ev_gI (pc := 16) (by assumption) (by rfl) fl_X_272 d_X_replyWithVersion_16 ?_
  rw [rp_ne n1 n2]
  refine ev_cVv (pc := 19) (ct_rp E _ (rp_k C k _) (by omega) _) cl_X_65 jv_R_add ⟨(Nat.le_of_ble_eq_true rfl), (Nat.le_of_ble_eq_true rfl)⟩ rfl (by first | exact sh_said | exact sh_rep | assumption) rfl (Nat.le_of_ble_eq_true rfl) d_X_replyWithVersion_19 ⟨Nat.zero_le _, Nat.zero_le _⟩ ?_
  exact ev_vret (pc := 22) d_X_replyWithVersion_22 rfl (Nat.zero_le _) (Nat.zero_le _) ⟨rfl, rfl⟩
theorem d_X_replyWithMode_0 : decode b_X_replyWithMode 0 = .ok (.aload_n 0, 1) := by decide +kernel
theorem d_X_replyWithMode_1 : decode b_X_replyWithMode 1 = .ok (.aload_n 1, 1) := by decide +kernel
theorem d_X_replyWithMode_2 : decode b_X_replyWithMode 2 = .ok (.invokevirtual 278, 3) := by decide +kernel
theorem d_X_replyWithMode_5 : decode b_X_replyWithMode 5 = .ok (.aload_n 0, 1) := by decide +kernel
theorem d_X_replyWithMode_6 : decode b_X_replyWithMode 6 = .ok (.getfield 39, 3) := by decide +kernel
theorem d_X_replyWithMode_9 : decode b_X_replyWithMode 9 = .ok (.aload_n 1, 1) := by decide +kernel
theorem d_X_replyWithMode_10 : decode b_X_replyWithMode 10 = .ok (.getfield 399, 3) := by decide +kernel
theorem d_X_replyWithMode_13 : decode b_X_replyWithMode 13 = .ok (.invokevirtual 65, 3) := by decide +kernel
theorem d_X_replyWithMode_16 : decode b_X_replyWithMode 16 = .ok (.return_, 1) := by decide +kernel
set_option maxRecDepth 20000 in
theorem ct_X_replyWithMode (E : mm_En) (C : Nat → Nat → Int32) {i k : Nat} (hi : i < 64) (hk : C 201 1 = nI k) (h8 : k + 2 < 8) : mm_MT E K_X_replyWithMode [.ref 0, .ref (bk i)] (hp_H C) (mm_D none (rp_m C (bk i) k)) := by
  have s1 := sh_X
  have s2 := bk_s hi
  have s3 := sh_rep
  obtain ⟨n1, n2, -⟩ := bk_ne hi
  refine mm_mtL (by decide) (by rfl) (Nat.le_of_ble_eq_true rfl) rfl ?_
  refine ev_aload_n (pc := 0) d_X_replyWithMode_0 rfl rfl (by first | rfl | exact mm_rk_rf _) ?_
  refine ev_aload_n (pc := 1) d_X_replyWithMode_1 rfl rfl (by first | rfl | exact mm_rk_rf _) ?_
  refine ev_cVv (pc := 2) (ct_X_replyWithVersion E C hi hk (by omega)) cl_X_278 jv_X_replyWithVersion ⟨(Nat.le_of_ble_eq_true rfl), (Nat.le_of_ble_eq_true rfl)⟩ rfl sh_X rfl (Nat.le_of_ble_eq_true rfl) d_X_replyWithMode_2 ⟨Nat.zero_le _, Nat.zero_le _⟩ ?_
  refine ev_aload_n (pc := 5) d_X_replyWithMode_5 rfl rfl (by first | rfl | exact mm_rk_rf _) ?_
  refine ev_gR (pc := 6) sh_X (by rfl) fl_X_39 d_X_replyWithMode_6 ?_
  refine ev_aload_n (pc := 9) d_X_replyWithMode_9 rfl rfl (by first | rfl | exact mm_rk_rf _) ?_
  refine ev_gI (pc := 10) (by assumption) (by rfl) fl_X_399 d_X_replyWithMode_10 ?_
  rw [rp_vne n1 n2]
  refine ev_cVv (pc := 13) (ct_rp E _ (rp_vk C (bk i) k) (by omega) _) cl_X_65 jv_R_add ⟨(Nat.le_of_ble_eq_true rfl), (Nat.le_of_ble_eq_true rfl)⟩ rfl (by first | exact sh_said | exact sh_rep | assumption) rfl (Nat.le_of_ble_eq_true rfl) d_X_replyWithMode_13 ⟨Nat.zero_le _, Nat.zero_le _⟩ ?_
  exact ev_vret (pc := 16) d_X_replyWithMode_16 rfl (Nat.zero_le _) (Nat.zero_le _) ⟨rfl, rfl⟩
def xc_l (C : Nat → Nat → Int32) : Nat → Nat → Nat → Int32
  | 0 => so_ct C 5 0 64
  | n + 1 => cn_df (cn_dq (xc_l C n) n 8) n 6
def xc_C (C : Nat → Nat → Int32) : Nat → Nat → Int32 := cs_C (cs_C (xc_l C 2) 199 1 0) 201 1 0
theorem d_X_crash_0 : decode b_X_crash 0 = .ok (.aload_n 0, 1) := by decide +kernel
theorem d_X_crash_1 : decode b_X_crash 1 = .ok (.getfield 12, 3) := by decide +kernel
theorem d_X_crash_4 : decode b_X_crash 4 = .ok (.iconst 5, 1) := by decide +kernel
theorem d_X_crash_5 : decode b_X_crash 5 = .ok (.iconst 0, 1) := by decide +kernel
theorem d_X_crash_6 : decode b_X_crash 6 = .ok (.invokevirtual 131, 3) := by decide +kernel
theorem d_X_crash_9 : decode b_X_crash 9 = .ok (.iconst 0, 1) := by decide +kernel
theorem d_X_crash_10 : decode b_X_crash 10 = .ok (.istore_n 1, 1) := by decide +kernel
theorem d_X_crash_11 : decode b_X_crash 11 = .ok (.iload_n 1, 1) := by decide +kernel
theorem d_X_crash_12 : decode b_X_crash 12 = .ok (.iconst 2, 1) := by decide +kernel
theorem d_X_crash_13 : decode b_X_crash 13 = .ok (.if_icmp .ge 27, 3) := by decide +kernel
theorem d_X_crash_16 : decode b_X_crash 16 = .ok (.aload_n 0, 1) := by decide +kernel
theorem d_X_crash_17 : decode b_X_crash 17 = .ok (.getfield 25, 3) := by decide +kernel
theorem d_X_crash_20 : decode b_X_crash 20 = .ok (.iload_n 1, 1) := by decide +kernel
theorem d_X_crash_21 : decode b_X_crash 21 = .ok (.aaload, 1) := by decide +kernel
theorem d_X_crash_22 : decode b_X_crash 22 = .ok (.invokevirtual 93, 3) := by decide +kernel
theorem d_X_crash_25 : decode b_X_crash 25 = .ok (.aload_n 0, 1) := by decide +kernel
theorem d_X_crash_26 : decode b_X_crash 26 = .ok (.getfield 25, 3) := by decide +kernel
theorem d_X_crash_29 : decode b_X_crash 29 = .ok (.iload_n 1, 1) := by decide +kernel
theorem d_X_crash_30 : decode b_X_crash 30 = .ok (.aaload, 1) := by decide +kernel
theorem d_X_crash_31 : decode b_X_crash 31 = .ok (.invokevirtual 143, 3) := by decide +kernel
theorem d_X_crash_34 : decode b_X_crash 34 = .ok (.iinc 1 1, 3) := by decide +kernel
theorem d_X_crash_37 : decode b_X_crash 37 = .ok (.goto (-26), 3) := by decide +kernel
theorem d_X_crash_40 : decode b_X_crash 40 = .ok (.aload_n 0, 1) := by decide +kernel
theorem d_X_crash_41 : decode b_X_crash 41 = .ok (.getfield 35, 3) := by decide +kernel
theorem d_X_crash_44 : decode b_X_crash 44 = .ok (.invokevirtual 82, 3) := by decide +kernel
theorem d_X_crash_47 : decode b_X_crash 47 = .ok (.aload_n 0, 1) := by decide +kernel
theorem d_X_crash_48 : decode b_X_crash 48 = .ok (.getfield 39, 3) := by decide +kernel
theorem d_X_crash_51 : decode b_X_crash 51 = .ok (.invokevirtual 82, 3) := by decide +kernel
theorem d_X_crash_54 : decode b_X_crash 54 = .ok (.return_, 1) := by decide +kernel
set_option maxRecDepth 20000 in
theorem ct_X_crash (E : mm_En) (C : Nat → Nat → Int32) : mm_MT E K_X_crash [.ref 0] (hp_H C) (mm_D none (xc_C C)) := by
  have s1 := sh_X
  have s2 := sh_S
  have s3 := sh_cons
  have s4 := sh_said
  have s5 := sh_rep
  have loop : ∀ d i : Nat, i + d = 2 → ev_At E K_X_crash 11 [some (.ref 0), some (.int (nI i))] [] (hp_H (xc_l C i)) 0 0 (mm_D none (xc_C C)) := by
    intro d
    induction d with
    | zero =>
      intro i hi
      have hi2 : i = 2 := by omega
      subst hi2
      refine ev_iload_n (pc := 11) d_X_crash_11 rfl rfl ?_
      refine ev_iconst (pc := 12) (v := 2) d_X_crash_12 rfl ?_
      refine ev_icmp_ge (pc := 13) (tgt := 40) d_X_crash_13 (by decide) (fun ha => ?_) (fun ha => ?_)
      · refine ev_aload_n (pc := 40) d_X_crash_40 rfl rfl (by first | rfl | exact mm_rk_rf _) ?_
        refine ev_gR (pc := 41) sh_X (by rfl) fl_X_35 d_X_crash_41 ?_
        refine ev_cVv (pc := 44) (ct_R_clear E _ (r := 199) (n := 4) ⟨sh_said, sh_saidA⟩) cl_X_82 jv_R_clear ⟨(Nat.le_of_ble_eq_true rfl), (Nat.le_of_ble_eq_true rfl)⟩ rfl (by first | exact sh_said | exact sh_rep | assumption) rfl (Nat.le_of_ble_eq_true rfl) d_X_crash_44 ⟨Nat.zero_le _, Nat.zero_le _⟩ ?_
        refine ev_aload_n (pc := 47) d_X_crash_47 rfl rfl (by first | rfl | exact mm_rk_rf _) ?_
        refine ev_gR (pc := 48) sh_X (by rfl) fl_X_39 d_X_crash_48 ?_
        refine ev_cVv (pc := 51) (ct_R_clear E _ (r := 201) (n := 8) ⟨sh_rep, sh_repA⟩) cl_X_82 jv_R_clear ⟨(Nat.le_of_ble_eq_true rfl), (Nat.le_of_ble_eq_true rfl)⟩ rfl (by first | exact sh_said | exact sh_rep | assumption) rfl (Nat.le_of_ble_eq_true rfl) d_X_crash_51 ⟨Nat.zero_le _, Nat.zero_le _⟩ ?_
        exact ev_vret (pc := 54) d_X_crash_54 rfl (Nat.zero_le _) (Nat.zero_le _) ⟨rfl, rfl⟩
      · exact absurd (show nI 2 ≤ nI 2 from Int32.le_refl _) ha
    | succ d ih =>
      intro i hi
      have hin : vp_in (nI i) 2 := vp_in_nI (by omega) (by decide)
      have hpl := cn_at (c := i) (by omega)
      have s6 := sh_con i (by omega)
      refine ev_iload_n (pc := 11) d_X_crash_11 rfl rfl ?_
      refine ev_iconst (pc := 12) (v := 2) d_X_crash_12 rfl ?_
      refine ev_icmp_ge (pc := 13) (tgt := 40) d_X_crash_13 (by decide) (fun ha => ?_) (fun ha => ?_)
      · exact absurd ha (nI_ge (show i < 2 by omega) (by decide))
      refine ev_aload_n (pc := 16) d_X_crash_16 rfl rfl (by first | rfl | exact mm_rk_rf _) ?_
      refine ev_gR (pc := 17) sh_X (by rfl) fl_X_25 d_X_crash_17 ?_
      refine ev_iload_n (pc := 20) d_X_crash_20 rfl rfl ?_
      refine ev_rR (pc := 21) (by assumption) rfl (by assumption) (by assumption) d_X_crash_21 ?_
      refine ev_cVv (pc := 22) (ct_C_dropRequests E _ (by omega)) cl_X_93 jv_C_dropRequests ⟨(Nat.le_of_ble_eq_true rfl), (Nat.le_of_ble_eq_true rfl)⟩ rfl (by assumption) rfl (Nat.le_of_ble_eq_true rfl) d_X_crash_22 ⟨Nat.zero_le _, Nat.zero_le _⟩ ?_
      refine ev_aload_n (pc := 25) d_X_crash_25 rfl rfl (by first | rfl | exact mm_rk_rf _) ?_
      refine ev_gR (pc := 26) sh_X (by rfl) fl_X_25 d_X_crash_26 ?_
      refine ev_iload_n (pc := 29) d_X_crash_29 rfl rfl ?_
      refine ev_rR (pc := 30) (by assumption) rfl (by assumption) (by assumption) d_X_crash_30 ?_
      refine ev_cVv (pc := 31) (ct_C_dropFids E _ (by omega)) cl_X_143 jv_C_dropFids ⟨(Nat.le_of_ble_eq_true rfl), (Nat.le_of_ble_eq_true rfl)⟩ rfl (by assumption) rfl (Nat.le_of_ble_eq_true rfl) d_X_crash_31 ⟨Nat.zero_le _, Nat.zero_le _⟩ ?_
      refine ev_iinc (pc := 34) d_X_crash_34 (Nat.le_of_ble_eq_true rfl) rfl (nx_inc _) rfl ?_
      try dsimp only [List.set]
      refine ev_goto (pc := 37) (tgt := 11) d_X_crash_37 (by decide) ?_
      exact ih (i + 1) (by omega)
  refine mm_mtL (by decide) (by rfl) (Nat.le_of_ble_eq_true rfl) rfl ?_
  refine ev_aload_n (pc := 0) d_X_crash_0 rfl rfl (by first | rfl | exact mm_rk_rf _) ?_
  refine ev_gR (pc := 1) sh_X (by rfl) fl_X_12 d_X_crash_1 ?_
  refine ev_iconst (pc := 4) (v := 5) d_X_crash_4 rfl ?_
  refine ev_iconst (pc := 5) (v := 0) d_X_crash_5 rfl ?_
  refine ev_cVv (pc := 6) (ct_S_copyTree E C (f := 5) (t := 0) (by decide)) cl_X_131 jv_S_copyTree ⟨(Nat.le_of_ble_eq_true rfl), (Nat.le_of_ble_eq_true rfl)⟩ rfl sh_S rfl (Nat.le_of_ble_eq_true rfl) d_X_crash_6 ⟨Nat.zero_le _, Nat.zero_le _⟩ ?_
  refine ev_iconst (pc := 9) (v := 0) d_X_crash_9 rfl ?_
  refine ev_istore_n (pc := 10) d_X_crash_10 rfl (Nat.le_of_ble_eq_true rfl) rfl ?_
  try dsimp only [List.set]
  exact loop 2 0 (by omega)
theorem d_X_sync_0 : decode b_X_sync 0 = .ok (.aload_n 0, 1) := by decide +kernel
theorem d_X_sync_1 : decode b_X_sync 1 = .ok (.getfield 12, 3) := by decide +kernel
theorem d_X_sync_4 : decode b_X_sync 4 = .ok (.invokevirtual 128, 3) := by decide +kernel
theorem d_X_sync_7 : decode b_X_sync 7 = .ok (.iconst 1, 1) := by decide +kernel
theorem d_X_sync_8 : decode b_X_sync 8 = .ok (.iadd, 1) := by decide +kernel
theorem d_X_sync_9 : decode b_X_sync 9 = .ok (.istore_n 2, 1) := by decide +kernel
theorem d_X_sync_10 : decode b_X_sync 10 = .ok (.iload_n 1, 1) := by decide +kernel
theorem d_X_sync_11 : decode b_X_sync 11 = .ok (.ifCond .lt 8, 3) := by decide +kernel
theorem d_X_sync_14 : decode b_X_sync 14 = .ok (.iload_n 1, 1) := by decide +kernel
theorem d_X_sync_15 : decode b_X_sync 15 = .ok (.iload_n 2, 1) := by decide +kernel
theorem d_X_sync_16 : decode b_X_sync 16 = .ok (.if_icmp .le 14, 3) := by decide +kernel
theorem d_X_sync_19 : decode b_X_sync 19 = .ok (.aload_n 0, 1) := by decide +kernel
theorem d_X_sync_20 : decode b_X_sync 20 = .ok (.getfield 12, 3) := by decide +kernel
theorem d_X_sync_23 : decode b_X_sync 23 = .ok (.iconst 0, 1) := by decide +kernel
theorem d_X_sync_24 : decode b_X_sync 24 = .ok (.iconst 5, 1) := by decide +kernel
theorem d_X_sync_25 : decode b_X_sync 25 = .ok (.invokevirtual 131, 3) := by decide +kernel
theorem d_X_sync_28 : decode b_X_sync 28 = .ok (.iload_n 2, 1) := by decide +kernel
theorem d_X_sync_29 : decode b_X_sync 29 = .ok (.ireturn, 1) := by decide +kernel
theorem d_X_sync_30 : decode b_X_sync 30 = .ok (.iload_n 1, 1) := by decide +kernel
theorem d_X_sync_31 : decode b_X_sync 31 = .ok (.iload_n 2, 1) := by decide +kernel
theorem d_X_sync_32 : decode b_X_sync 32 = .ok (.if_icmp .ne 12, 3) := by decide +kernel
theorem d_X_sync_35 : decode b_X_sync 35 = .ok (.aload_n 0, 1) := by decide +kernel
theorem d_X_sync_36 : decode b_X_sync 36 = .ok (.getfield 12, 3) := by decide +kernel
theorem d_X_sync_39 : decode b_X_sync 39 = .ok (.iconst 0, 1) := by decide +kernel
theorem d_X_sync_40 : decode b_X_sync 40 = .ok (.iconst 5, 1) := by decide +kernel
theorem d_X_sync_41 : decode b_X_sync 41 = .ok (.invokevirtual 131, 3) := by decide +kernel
theorem d_X_sync_44 : decode b_X_sync 44 = .ok (.aload_n 0, 1) := by decide +kernel
theorem d_X_sync_45 : decode b_X_sync 45 = .ok (.invokevirtual 134, 3) := by decide +kernel
theorem d_X_sync_48 : decode b_X_sync 48 = .ok (.iload_n 1, 1) := by decide +kernel
theorem d_X_sync_49 : decode b_X_sync 49 = .ok (.ireturn, 1) := by decide +kernel
noncomputable def xs_r (C : Nat → Nat → Int32) (x : Int32) : Int32 := if x < 0 ∨ nI (so_nu C + 1) < x then nI (so_nu C + 1) else x
noncomputable def xs_C (C : Nat → Nat → Int32) (x : Int32) : Nat → Nat → Int32 := if x < 0 ∨ nI (so_nu C + 1) < x then so_ct C 0 5 64 else if x = nI (so_nu C + 1) then xc_C (so_ct C 0 5 64) else xc_C C
set_option maxRecDepth 20000 in
theorem ct_X_sync (E : mm_En) (C : Nat → Nat → Int32) (x : Int32) : mm_MT E K_X_sync [.ref 0, .int x] (hp_H C) (mm_D (some (.int (xs_r C x))) (xs_C C x)) := by
  have s1 := sh_X
  have s2 := sh_S
  refine mm_mtL (by decide) (by rfl) (Nat.le_of_ble_eq_true rfl) rfl ?_
  refine ev_aload_n (pc := 0) d_X_sync_0 rfl rfl (by first | rfl | exact mm_rk_rf _) ?_
  refine ev_gR (pc := 1) sh_X (by rfl) fl_X_12 d_X_sync_1 ?_
  refine ev_cV (pc := 4) (ct_S_countUnsaved E C) cl_X_128 jv_S_countUnsaved ⟨(Nat.le_of_ble_eq_true rfl), (Nat.le_of_ble_eq_true rfl)⟩ rfl sh_S rfl (Nat.le_of_ble_eq_true rfl) d_X_sync_4 ⟨Nat.zero_le _, Nat.zero_le _⟩ ?_
  refine ev_iconst (pc := 7) (v := 1) d_X_sync_7 rfl ?_
  refine ev_iadd (pc := 8) d_X_sync_8 ?_
  rw [nI_1]
  refine ev_istore_n (pc := 9) d_X_sync_9 rfl (Nat.le_of_ble_eq_true rfl) rfl ?_
  try dsimp only [List.set]
  refine ev_iload_n (pc := 10) d_X_sync_10 rfl rfl ?_
  refine ev_if_lt (pc := 11) (tgt := 19) d_X_sync_11 (by decide) (fun ha => ?_) (fun ha => ?_)
  · refine ev_aload_n (pc := 19) d_X_sync_19 rfl rfl (by first | rfl | exact mm_rk_rf _) ?_
    refine ev_gR (pc := 20) sh_X (by rfl) fl_X_12 d_X_sync_20 ?_
    refine ev_iconst (pc := 23) (v := 0) d_X_sync_23 rfl ?_
    refine ev_iconst (pc := 24) (v := 5) d_X_sync_24 rfl ?_
    refine ev_cVv (pc := 25) (ct_S_copyTree E C (f := 0) (t := 5) (by decide)) cl_X_131 jv_S_copyTree ⟨(Nat.le_of_ble_eq_true rfl), (Nat.le_of_ble_eq_true rfl)⟩ rfl sh_S rfl (Nat.le_of_ble_eq_true rfl) d_X_sync_25 ⟨Nat.zero_le _, Nat.zero_le _⟩ ?_
    refine ev_iload_n (pc := 28) d_X_sync_28 rfl rfl ?_
    exact ev_iret (pc := 29) d_X_sync_29 rfl (Nat.zero_le _) (Nat.zero_le _) ⟨by rw [xs_r, if_pos (Or.inl ha)], by rw [xs_C, if_pos (Or.inl ha)]⟩
  refine ev_iload_n (pc := 14) d_X_sync_14 rfl rfl ?_
  refine ev_iload_n (pc := 15) d_X_sync_15 rfl rfl ?_
  refine ev_icmp_le (pc := 16) (tgt := 30) d_X_sync_16 (by decide) (fun hb => ?_) (fun hb => ?_)
  rotate_left
  · refine ev_aload_n (pc := 19) d_X_sync_19 rfl rfl (by first | rfl | exact mm_rk_rf _) ?_
    refine ev_gR (pc := 20) sh_X (by rfl) fl_X_12 d_X_sync_20 ?_
    refine ev_iconst (pc := 23) (v := 0) d_X_sync_23 rfl ?_
    refine ev_iconst (pc := 24) (v := 5) d_X_sync_24 rfl ?_
    refine ev_cVv (pc := 25) (ct_S_copyTree E C (f := 0) (t := 5) (by decide)) cl_X_131 jv_S_copyTree ⟨(Nat.le_of_ble_eq_true rfl), (Nat.le_of_ble_eq_true rfl)⟩ rfl sh_S rfl (Nat.le_of_ble_eq_true rfl) d_X_sync_25 ⟨Nat.zero_le _, Nat.zero_le _⟩ ?_
    refine ev_iload_n (pc := 28) d_X_sync_28 rfl rfl ?_
    exact ev_iret (pc := 29) d_X_sync_29 rfl (Nat.zero_le _) (Nat.zero_le _) ⟨by rw [xs_r, if_pos (Or.inr (Int32.not_le.mp hb))], by rw [xs_C, if_pos (Or.inr (Int32.not_le.mp hb))]⟩
  have hno : ¬ (x < 0 ∨ nI (so_nu C + 1) < x) := fun z => z.elim ha (fun q => absurd hb (Int32.not_le.mpr q))
  refine ev_iload_n (pc := 30) d_X_sync_30 rfl rfl ?_
  refine ev_iload_n (pc := 31) d_X_sync_31 rfl rfl ?_
  refine ev_icmp_ne (pc := 32) (tgt := 44) d_X_sync_32 (by decide) (fun hc => ?_) (fun hc => ?_)
  · refine ev_aload_n (pc := 44) d_X_sync_44 rfl rfl (by first | rfl | exact mm_rk_rf _) ?_
    refine ev_cVv (pc := 45) (ct_X_crash E C) cl_X_134 jv_X_crash ⟨(Nat.le_of_ble_eq_true rfl), (Nat.le_of_ble_eq_true rfl)⟩ rfl sh_X rfl (Nat.le_of_ble_eq_true rfl) d_X_sync_45 ⟨Nat.zero_le _, Nat.zero_le _⟩ ?_
    refine ev_iload_n (pc := 48) d_X_sync_48 rfl rfl ?_
    exact ev_iret (pc := 49) d_X_sync_49 rfl (Nat.zero_le _) (Nat.zero_le _) ⟨by rw [xs_r, if_neg hno], by rw [xs_C, if_neg hno, if_neg hc]⟩
  · refine ev_aload_n (pc := 35) d_X_sync_35 rfl rfl (by first | rfl | exact mm_rk_rf _) ?_
    refine ev_gR (pc := 36) sh_X (by rfl) fl_X_12 d_X_sync_36 ?_
    refine ev_iconst (pc := 39) (v := 0) d_X_sync_39 rfl ?_
    refine ev_iconst (pc := 40) (v := 5) d_X_sync_40 rfl ?_
    refine ev_cVv (pc := 41) (ct_S_copyTree E C (f := 0) (t := 5) (by decide)) cl_X_131 jv_S_copyTree ⟨(Nat.le_of_ble_eq_true rfl), (Nat.le_of_ble_eq_true rfl)⟩ rfl sh_S rfl (Nat.le_of_ble_eq_true rfl) d_X_sync_41 ⟨Nat.zero_le _, Nat.zero_le _⟩ ?_
    refine ev_aload_n (pc := 44) d_X_sync_44 rfl rfl (by first | rfl | exact mm_rk_rf _) ?_
    refine ev_cVv (pc := 45) (ct_X_crash E _) cl_X_134 jv_X_crash ⟨(Nat.le_of_ble_eq_true rfl), (Nat.le_of_ble_eq_true rfl)⟩ rfl sh_X rfl (Nat.le_of_ble_eq_true rfl) d_X_sync_45 ⟨Nat.zero_le _, Nat.zero_le _⟩ ?_
    refine ev_iload_n (pc := 48) d_X_sync_48 rfl rfl ?_
    exact ev_iret (pc := 49) d_X_sync_49 rfl (Nat.zero_le _) (Nat.zero_le _) ⟨by rw [xs_r, if_neg hno], by rw [xs_C, if_neg hno, if_pos hc]⟩
theorem d_S_addSnapshot_0 : decode b_S_addSnapshot 0 = .ok (.aload_n 0, 1) := by decide +kernel
theorem d_S_addSnapshot_1 : decode b_S_addSnapshot 1 = .ok (.dup, 1) := by decide +kernel
theorem d_S_addSnapshot_2 : decode b_S_addSnapshot 2 = .ok (.getfield 107, 3) := by decide +kernel
theorem d_S_addSnapshot_5 : decode b_S_addSnapshot 5 = .ok (.iconst 1, 1) := by decide +kernel
theorem d_S_addSnapshot_6 : decode b_S_addSnapshot 6 = .ok (.iadd, 1) := by decide +kernel
theorem d_S_addSnapshot_7 : decode b_S_addSnapshot 7 = .ok (.putfield 107, 3) := by decide +kernel
theorem d_S_addSnapshot_10 : decode b_S_addSnapshot 10 = .ok (.aload_n 0, 1) := by decide +kernel
theorem d_S_addSnapshot_11 : decode b_S_addSnapshot 11 = .ok (.iconst 0, 1) := by decide +kernel
theorem d_S_addSnapshot_12 : decode b_S_addSnapshot 12 = .ok (.aload_n 0, 1) := by decide +kernel
theorem d_S_addSnapshot_13 : decode b_S_addSnapshot 13 = .ok (.getfield 107, 3) := by decide +kernel
theorem d_S_addSnapshot_16 : decode b_S_addSnapshot 16 = .ok (.invokevirtual 110, 3) := by decide +kernel
theorem d_S_addSnapshot_19 : decode b_S_addSnapshot 19 = .ok (.aload_n 0, 1) := by decide +kernel
theorem d_S_addSnapshot_20 : decode b_S_addSnapshot 20 = .ok (.getfield 107, 3) := by decide +kernel
theorem d_S_addSnapshot_23 : decode b_S_addSnapshot 23 = .ok (.ireturn, 1) := by decide +kernel
def sa_C (C : Nat → Nat → Int32) (s : Nat) : Nat → Nat → Int32 := so_ct (cs_C C 1 1 (nI (s + 1))) 0 (s + 1) 64
set_option maxRecDepth 20000 in
theorem ct_S_addSnapshot (E : mm_En) (C : Nat → Nat → Int32) {s : Nat} (hs : C 1 1 = nI s) : mm_MT E K_S_addSnapshot [.ref 1] (hp_H C) (mm_D (some (.int (nI (s + 1)))) (sa_C C s)) := by
  have s1 := sh_S
  have e1 : sa_C C s 1 1 = nI (s + 1) := by
    simp [sa_C, so_ct, cs_at]
  refine mm_mtL (by decide) (by rfl) (Nat.le_of_ble_eq_true rfl) rfl ?_
  refine ev_aload_n (pc := 0) d_S_addSnapshot_0 rfl rfl (by first | rfl | exact mm_rk_rf _) ?_
  refine ev_dup (pc := 1) d_S_addSnapshot_1 (by rfl) ?_
  refine ev_gI (pc := 2) sh_S (by rfl) fl_S_107 d_S_addSnapshot_2 ?_
  refine ev_iconst (pc := 5) (v := 1) d_S_addSnapshot_5 rfl ?_
  refine ev_iadd (pc := 6) d_S_addSnapshot_6 ?_
  rw [hs, nI_1]
  refine ev_pI (pc := 7) sh_S (by rfl) fl_S_107 fw_6_1 (by rfl) d_S_addSnapshot_7 ?_
  refine ev_aload_n (pc := 10) d_S_addSnapshot_10 rfl rfl (by first | rfl | exact mm_rk_rf _) ?_
  refine ev_iconst (pc := 11) (v := 0) d_S_addSnapshot_11 rfl ?_
  refine ev_aload_n (pc := 12) d_S_addSnapshot_12 rfl rfl (by first | rfl | exact mm_rk_rf _) ?_
  refine ev_gI (pc := 13) sh_S (by rfl) fl_S_107 d_S_addSnapshot_13 ?_
  rw [cs_at]
  refine ev_cVv (pc := 16) (ct_S_copyTree E _ (f := 0) (t := s + 1) (by decide)) cl_S_110 jv_S_copyTree ⟨(Nat.le_of_ble_eq_true rfl), (Nat.le_of_ble_eq_true rfl)⟩ rfl sh_S rfl (Nat.le_of_ble_eq_true rfl) d_S_addSnapshot_16 ⟨Nat.zero_le _, Nat.zero_le _⟩ ?_
  refine ev_aload_n (pc := 19) d_S_addSnapshot_19 rfl rfl (by first | rfl | exact mm_rk_rf _) ?_
  refine ev_gI (pc := 20) sh_S (by rfl) fl_S_107 d_S_addSnapshot_20 ?_
  rw [show so_ct (cs_C C 1 1 (nI (s + 1))) 0 (s + 1) 64 = sa_C C s from rfl, e1]
  exact ev_iret (pc := 23) d_S_addSnapshot_23 rfl (Nat.zero_le _) (Nat.zero_le _) ⟨rfl, rfl⟩
theorem d_X_snapshot_0 : decode b_X_snapshot 0 = .ok (.aload_n 0, 1) := by decide +kernel
theorem d_X_snapshot_1 : decode b_X_snapshot 1 = .ok (.getfield 12, 3) := by decide +kernel
theorem d_X_snapshot_4 : decode b_X_snapshot 4 = .ok (.getfield 137, 3) := by decide +kernel
theorem d_X_snapshot_7 : decode b_X_snapshot 7 = .ok (.iconst 4, 1) := by decide +kernel
theorem d_X_snapshot_8 : decode b_X_snapshot 8 = .ok (.if_icmp .lt 5, 3) := by decide +kernel
theorem d_X_snapshot_11 : decode b_X_snapshot 11 = .ok (.iconst (-1), 1) := by decide +kernel
theorem d_X_snapshot_12 : decode b_X_snapshot 12 = .ok (.ireturn, 1) := by decide +kernel
theorem d_X_snapshot_13 : decode b_X_snapshot 13 = .ok (.aload_n 0, 1) := by decide +kernel
theorem d_X_snapshot_14 : decode b_X_snapshot 14 = .ok (.getfield 12, 3) := by decide +kernel
theorem d_X_snapshot_17 : decode b_X_snapshot 17 = .ok (.iconst 0, 1) := by decide +kernel
theorem d_X_snapshot_18 : decode b_X_snapshot 18 = .ok (.iconst 5, 1) := by decide +kernel
theorem d_X_snapshot_19 : decode b_X_snapshot 19 = .ok (.invokevirtual 131, 3) := by decide +kernel
theorem d_X_snapshot_22 : decode b_X_snapshot 22 = .ok (.aload_n 0, 1) := by decide +kernel
theorem d_X_snapshot_23 : decode b_X_snapshot 23 = .ok (.getfield 12, 3) := by decide +kernel
theorem d_X_snapshot_26 : decode b_X_snapshot 26 = .ok (.invokevirtual 140, 3) := by decide +kernel
theorem d_X_snapshot_29 : decode b_X_snapshot 29 = .ok (.ireturn, 1) := by decide +kernel
set_option maxRecDepth 20000 in
theorem ct_X_snapshot (E : mm_En) (C : Nat → Nat → Int32) {s : Nat} (hs : C 1 1 = nI s) (h4 : s ≤ 4) : mm_MT E K_X_snapshot [.ref 0] (hp_H C) (mm_D (some (.int (if s < 4 then nI (s + 1) else -1))) (if s < 4 then sa_C (so_ct C 0 5 64) s else C)) := by
  have s1 := sh_X
  have s2 := sh_S
  have e1 : so_ct C 0 5 64 1 1 = nI s := by simp [so_ct, hs]
  refine mm_mtL (by decide) (by rfl) (Nat.le_of_ble_eq_true rfl) rfl ?_
  refine ev_aload_n (pc := 0) d_X_snapshot_0 rfl rfl (by first | rfl | exact mm_rk_rf _) ?_
  refine ev_gR (pc := 1) sh_X (by rfl) fl_X_12 d_X_snapshot_1 ?_
  refine ev_gI (pc := 4) sh_S (by rfl) fl_X_137 d_X_snapshot_4 ?_
  rw [hs]
  refine ev_iconst (pc := 7) (v := 4) d_X_snapshot_7 rfl ?_
  refine ev_icmp_lt (pc := 8) (tgt := 13) d_X_snapshot_8 (by decide) (fun ha => ?_) (fun ha => ?_)
  · have hk4 : s < 4 := Nat.not_le.mp (fun z => absurd ha (nI_nlt (b := 4) z (by omega)))
    refine ev_aload_n (pc := 13) d_X_snapshot_13 rfl rfl (by first | rfl | exact mm_rk_rf _) ?_
    refine ev_gR (pc := 14) sh_X (by rfl) fl_X_12 d_X_snapshot_14 ?_
    refine ev_iconst (pc := 17) (v := 0) d_X_snapshot_17 rfl ?_
    refine ev_iconst (pc := 18) (v := 5) d_X_snapshot_18 rfl ?_
    refine ev_cVv (pc := 19) (ct_S_copyTree E C (f := 0) (t := 5) (by decide)) cl_X_131 jv_S_copyTree ⟨(Nat.le_of_ble_eq_true rfl), (Nat.le_of_ble_eq_true rfl)⟩ rfl sh_S rfl (Nat.le_of_ble_eq_true rfl) d_X_snapshot_19 ⟨Nat.zero_le _, Nat.zero_le _⟩ ?_
    refine ev_aload_n (pc := 22) d_X_snapshot_22 rfl rfl (by first | rfl | exact mm_rk_rf _) ?_
    refine ev_gR (pc := 23) sh_X (by rfl) fl_X_12 d_X_snapshot_23 ?_
    refine ev_cV (pc := 26) (ct_S_addSnapshot E _ e1) cl_X_140 jv_S_addSnapshot ⟨(Nat.le_of_ble_eq_true rfl), (Nat.le_of_ble_eq_true rfl)⟩ rfl sh_S rfl (Nat.le_of_ble_eq_true rfl) d_X_snapshot_26 ⟨Nat.zero_le _, Nat.zero_le _⟩ ?_
    exact ev_iret (pc := 29) d_X_snapshot_29 rfl (Nat.zero_le _) (Nat.zero_le _) ⟨by rw [if_pos hk4], by rw [if_pos hk4]⟩
  · have hk4 : ¬ s < 4 := fun z => ha (nI_lt z (by decide))
    refine ev_iconst (pc := 11) (v := -1) d_X_snapshot_11 rfl ?_
    exact ev_iret (pc := 12) d_X_snapshot_12 rfl (Nat.zero_le _) (Nat.zero_le _) ⟨by rw [if_neg hk4], by rw [if_neg hk4]⟩
theorem d_X_send_0 : decode b_X_send 0 = .ok (.aload_n 0, 1) := by decide +kernel
theorem d_X_send_1 : decode b_X_send 1 = .ok (.iload_n 1, 1) := by decide +kernel
theorem d_X_send_2 : decode b_X_send 2 = .ok (.iload_n 2, 1) := by decide +kernel
theorem d_X_send_3 : decode b_X_send 3 = .ok (.invokevirtual 68, 3) := by decide +kernel
theorem d_X_send_6 : decode b_X_send 6 = .ok (.astore 5, 2) := by decide +kernel
theorem d_X_send_8 : decode b_X_send 8 = .ok (.aload 5, 2) := by decide +kernel
theorem d_X_send_10 : decode b_X_send 10 = .ok (.ifnull 11, 3) := by decide +kernel
theorem d_X_send_13 : decode b_X_send 13 = .ok (.aload 5, 2) := by decide +kernel
theorem d_X_send_15 : decode b_X_send 15 = .ok (.getfield 72, 3) := by decide +kernel
theorem d_X_send_18 : decode b_X_send 18 = .ok (.ifCond .eq 5, 3) := by decide +kernel
theorem d_X_send_21 : decode b_X_send 21 = .ok (.iconst 0, 1) := by decide +kernel
theorem d_X_send_22 : decode b_X_send 22 = .ok (.ireturn, 1) := by decide +kernel
theorem d_X_send_23 : decode b_X_send 23 = .ok (.iload_n 3, 1) := by decide +kernel
theorem d_X_send_24 : decode b_X_send 24 = .ok (.ifCond .lt 21, 3) := by decide +kernel
theorem d_X_send_27 : decode b_X_send 27 = .ok (.iload_n 3, 1) := by decide +kernel
theorem d_X_send_28 : decode b_X_send 28 = .ok (.bipush 9, 2) := by decide +kernel
theorem d_X_send_30 : decode b_X_send 30 = .ok (.if_icmp .gt 15, 3) := by decide +kernel
theorem d_X_send_33 : decode b_X_send 33 = .ok (.iload 4, 2) := by decide +kernel
theorem d_X_send_35 : decode b_X_send 35 = .ok (.ifCond .lt 10, 3) := by decide +kernel
theorem d_X_send_38 : decode b_X_send 38 = .ok (.iload 4, 2) := by decide +kernel
theorem d_X_send_40 : decode b_X_send 40 = .ok (.bipush 6, 2) := by decide +kernel
theorem d_X_send_42 : decode b_X_send 42 = .ok (.if_icmp .lt 5, 3) := by decide +kernel
theorem d_X_send_45 : decode b_X_send 45 = .ok (.iconst 0, 1) := by decide +kernel
theorem d_X_send_46 : decode b_X_send 46 = .ok (.ireturn, 1) := by decide +kernel
theorem d_X_send_47 : decode b_X_send 47 = .ok (.aload 5, 2) := by decide +kernel
theorem d_X_send_49 : decode b_X_send 49 = .ok (.iload_n 3, 1) := by decide +kernel
theorem d_X_send_50 : decode b_X_send 50 = .ok (.iload 4, 2) := by decide +kernel
theorem d_X_send_52 : decode b_X_send 52 = .ok (.aload_n 0, 1) := by decide +kernel
theorem d_X_send_53 : decode b_X_send 53 = .ok (.getfield 35, 3) := by decide +kernel
theorem d_X_send_56 : decode b_X_send 56 = .ok (.invokevirtual 78, 3) := by decide +kernel
theorem d_X_send_59 : decode b_X_send 59 = .ok (.aload_n 0, 1) := by decide +kernel
theorem d_X_send_60 : decode b_X_send 60 = .ok (.getfield 35, 3) := by decide +kernel
theorem d_X_send_63 : decode b_X_send 63 = .ok (.invokevirtual 82, 3) := by decide +kernel
theorem d_X_send_66 : decode b_X_send 66 = .ok (.iconst 1, 1) := by decide +kernel
theorem d_X_send_67 : decode b_X_send 67 = .ok (.ireturn, 1) := by decide +kernel
def xd_ok (C : Nat → Nat → Int32) (q : Nat) (kd f : Int32) : Prop := C q 1 = 0 ∧ ¬ kd < 0 ∧ ¬ 9 < kd ∧ ¬ f < 0 ∧ f < 6
noncomputable def xd_C (C : Nat → Nat → Int32) (q k : Nat) (kd f : Int32) : Nat → Nat → Int32 := it_P (xd_ok C q kd f) (cs_C (rq_beg C q 199 k kd f) 199 1 0) C
set_option maxRecDepth 20000 in
theorem ct_X_send (E : mm_En) (C : Nat → Nat → Int32) {c t k : Nat} (hc : c < 2) (ht : t < 8) (hk : C 199 1 = nI k) (h4 : k ≤ 4) (kd f : Int32) : mm_MT E K_X_send [.ref 0, .int (nI c), .int (nI t), .int kd, .int f] (hp_H C) (mm_D (some (.int (b3_P (xd_ok C (cn_q c t) kd f)))) (xd_C C (cn_q c t) k kd f)) := by
  have s1 := sh_X
  have s2 : rq_s (cn_q c t) := sh_req c hc t ht
  have s3 := sh_said
  have e9 : cn_q c t = 133 + 33 * c + 9 + 3 * t := rfl
  have hM := ct_Q_begin E C (q := cn_q c t) (o := 199) (n := 4) (n' := 4) s2 ⟨sh_rrow c hc t ht, sh_rar c hc t ht⟩ ⟨sh_said, sh_saidA⟩ (by decide) (by decide) hk h4 h4 ⟨by omega, by omega, by omega, by omega⟩ kd f
  have no : ¬ xd_ok C (cn_q c t) kd f → mm_D (some (.int (b3_P (xd_ok C (cn_q c t) kd f)))) (xd_C C (cn_q c t) k kd f) (some (.int 0)) (hp_H C) := fun h => ⟨by rw [b3_f h], by rw [xd_C, it_f h]⟩
  refine mm_mtL (by decide) (by rfl) (Nat.le_of_ble_eq_true rfl) rfl ?_
  refine ev_aload_n (pc := 0) d_X_send_0 rfl rfl (by first | rfl | exact mm_rk_rf _) ?_
  refine ev_iload_n (pc := 1) d_X_send_1 rfl rfl ?_
  refine ev_iload_n (pc := 2) d_X_send_2 rfl rfl ?_
  refine ev_cV (pc := 3) (ct_X_requestAt E C hc ht) cl_X_68 jv_X_requestAt ⟨(Nat.le_of_ble_eq_true rfl), (Nat.le_of_ble_eq_true rfl)⟩ rfl sh_X rfl (Nat.le_of_ble_eq_true rfl) d_X_send_3 ⟨Nat.zero_le _, Nat.zero_le _⟩ ?_
  refine ev_astore (pc := 6) d_X_send_6 (by first | rfl | exact mm_rk_rf _) (Nat.le_of_ble_eq_true rfl) rfl ?_
  try dsimp only [List.set]
  refine ev_aload (pc := 8) d_X_send_8 rfl (by first | rfl | exact mm_rk_rf _) ?_
  refine ev_ifnullR (pc := 10) d_X_send_10 ?_
  refine ev_aload (pc := 13) d_X_send_13 rfl (by first | rfl | exact mm_rk_rf _) ?_
  refine ev_gI (pc := 15) (by assumption) (by rfl) fl_X_72 d_X_send_15 ?_
  refine ev_if_eq (pc := 18) (tgt := 23) d_X_send_18 (by decide) (fun ha => ?_) (fun ha => ?_)
  rotate_left
  · refine ev_iconst (pc := 21) (v := 0) d_X_send_21 rfl ?_
    exact ev_zret (pc := 22) d_X_send_22 rfl (by first | exact Or.inl rfl | exact Or.inr rfl | assumption) (Nat.zero_le _) (Nat.zero_le _) (no (fun z => ha z.1))
  refine ev_iload_n (pc := 23) d_X_send_23 rfl rfl ?_
  refine ev_if_lt (pc := 24) (tgt := 45) d_X_send_24 (by decide) (fun hb => ?_) (fun hb => ?_)
  · refine ev_iconst (pc := 45) (v := 0) d_X_send_45 rfl ?_
    exact ev_zret (pc := 46) d_X_send_46 rfl (by first | exact Or.inl rfl | exact Or.inr rfl | assumption) (Nat.zero_le _) (Nat.zero_le _) (no (fun z => z.2.1 hb))
  refine ev_iload_n (pc := 27) d_X_send_27 rfl rfl ?_
  refine ev_bipush (pc := 28) (v := 9) d_X_send_28 (by decide) ?_
  refine ev_icmp_gt (pc := 30) (tgt := 45) d_X_send_30 (by decide) (fun hd => ?_) (fun hd => ?_)
  · refine ev_iconst (pc := 45) (v := 0) d_X_send_45 rfl ?_
    exact ev_zret (pc := 46) d_X_send_46 rfl (by first | exact Or.inl rfl | exact Or.inr rfl | assumption) (Nat.zero_le _) (Nat.zero_le _) (no (fun z => z.2.2.1 hd))
  refine ev_iload (pc := 33) d_X_send_33 rfl ?_
  refine ev_if_lt (pc := 35) (tgt := 45) d_X_send_35 (by decide) (fun he => ?_) (fun he => ?_)
  · refine ev_iconst (pc := 45) (v := 0) d_X_send_45 rfl ?_
    exact ev_zret (pc := 46) d_X_send_46 rfl (by first | exact Or.inl rfl | exact Or.inr rfl | assumption) (Nat.zero_le _) (Nat.zero_le _) (no (fun z => z.2.2.2.1 he))
  refine ev_iload (pc := 38) d_X_send_38 rfl ?_
  refine ev_bipush (pc := 40) (v := 6) d_X_send_40 (by decide) ?_
  refine ev_icmp_lt (pc := 42) (tgt := 47) d_X_send_42 (by decide) (fun hf => ?_) (fun hf => ?_)
  rotate_left
  · refine ev_iconst (pc := 45) (v := 0) d_X_send_45 rfl ?_
    exact ev_zret (pc := 46) d_X_send_46 rfl (by first | exact Or.inl rfl | exact Or.inr rfl | assumption) (Nat.zero_le _) (Nat.zero_le _) (no (fun z => hf z.2.2.2.2))
  refine ev_aload (pc := 47) d_X_send_47 rfl (by first | rfl | exact mm_rk_rf _) ?_
  refine ev_iload_n (pc := 49) d_X_send_49 rfl rfl ?_
  refine ev_iload (pc := 50) d_X_send_50 rfl ?_
  refine ev_aload_n (pc := 52) d_X_send_52 rfl rfl (by first | rfl | exact mm_rk_rf _) ?_
  refine ev_gR (pc := 53) sh_X (by rfl) fl_X_35 d_X_send_53 ?_
  refine ev_cVv (pc := 56) hM cl_X_78 jv_Q_begin ⟨(Nat.le_of_ble_eq_true rfl), (Nat.le_of_ble_eq_true rfl)⟩ rfl (by assumption) rfl (Nat.le_of_ble_eq_true rfl) d_X_send_56 ⟨Nat.zero_le _, Nat.zero_le _⟩ ?_
  refine ev_aload_n (pc := 59) d_X_send_59 rfl rfl (by first | rfl | exact mm_rk_rf _) ?_
  refine ev_gR (pc := 60) sh_X (by rfl) fl_X_35 d_X_send_60 ?_
  refine ev_cVv (pc := 63) (ct_R_clear E _ (r := 199) (n := 4) ⟨sh_said, sh_saidA⟩) cl_X_82 jv_R_clear ⟨(Nat.le_of_ble_eq_true rfl), (Nat.le_of_ble_eq_true rfl)⟩ rfl (by first | exact sh_said | exact sh_rep | assumption) rfl (Nat.le_of_ble_eq_true rfl) d_X_send_63 ⟨Nat.zero_le _, Nat.zero_le _⟩ ?_
  refine ev_iconst (pc := 66) (v := 1) d_X_send_66 rfl ?_
  exact ev_zret (pc := 67) d_X_send_67 rfl (by first | exact Or.inl rfl | exact Or.inr rfl | assumption) (Nat.zero_le _) (Nat.zero_le _) ⟨by rw [b3_t ⟨ha, hb, hd, he, hf⟩], by rw [xd_C, it_t ⟨ha, hb, hd, he, hf⟩]⟩
set_option maxRecDepth 20000 in
theorem ct_X_sendN (E : mm_En) (C : Nat → Nat → Int32) {x y : Int32} (hx : (x < 0 ∨ 2 ≤ x) ∨ (y < 0 ∨ 8 ≤ y)) (kd f : Int32) : mm_MT E K_X_send [.ref 0, .int x, .int y, .int kd, .int f] (hp_H C) (mm_D (some (.int 0)) C) := by
  have s1 := sh_X
  refine mm_mtL (by decide) (by rfl) (Nat.le_of_ble_eq_true rfl) rfl ?_
  refine ev_aload_n (pc := 0) d_X_send_0 rfl rfl (by first | rfl | exact mm_rk_rf _) ?_
  refine ev_iload_n (pc := 1) d_X_send_1 rfl rfl ?_
  refine ev_iload_n (pc := 2) d_X_send_2 rfl rfl ?_
  refine ev_cV (pc := 3) (ct_X_requestAtN E C hx) cl_X_68 jv_X_requestAt ⟨(Nat.le_of_ble_eq_true rfl), (Nat.le_of_ble_eq_true rfl)⟩ rfl sh_X rfl (Nat.le_of_ble_eq_true rfl) d_X_send_3 ⟨Nat.zero_le _, Nat.zero_le _⟩ ?_
  refine ev_astore (pc := 6) d_X_send_6 (by first | rfl | exact mm_rk_rf _) (Nat.le_of_ble_eq_true rfl) rfl ?_
  try dsimp only [List.set]
  refine ev_aload (pc := 8) d_X_send_8 rfl (by first | rfl | exact mm_rk_rf _) ?_
  refine ev_ifnullN (pc := 10) (tgt := 21) d_X_send_10 (by decide) ?_
  refine ev_iconst (pc := 21) (v := 0) d_X_send_21 rfl ?_
  exact ev_zret (pc := 22) d_X_send_22 rfl (by first | exact Or.inl rfl | exact Or.inr rfl | assumption) (Nat.zero_le _) (Nat.zero_le _) ⟨rfl, rfl⟩
