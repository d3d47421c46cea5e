/-! Constructors: the store, the server. -/
theorem cg_B_begin (E : mm_En) (p q : mm_H) (x : Nat) (t0 p0 a0 n0 o0 g0 v0 m0 l0 p1 a1 n1 o1 g1 m1 : Int32) : mm_MT E K_B_begin [.ref p.length, .int p1, .int a1, .int n1, .int o1, .int g1, .int m1] (p ++ .inr (0, [.ref x, .int t0, .int p0, .int a0, .int n0, .int o0, .int g0, .int v0, .int m0, .int l0]) :: q) (mk_D (p ++ .inr (0, [.ref x, .int t0, .int p1, .int a1, .int n1, .int o1, .int g1, .int 0, .int m1, .int 0]) :: q)) := by
  refine mm_mtL (by decide) (by rfl) (Nat.le_of_ble_eq_true rfl) rfl ?_
  refine ev_aload_n (pc := 0) d_B_begin_0 rfl rfl (by first | rfl | exact mm_rk_rf _) ?_
  refine ev_iload_n (pc := 1) d_B_begin_1 rfl rfl ?_
  refine ev_putf (pc := 2) (fs := [.ref x, .int t0, .int p0, .int a0, .int n0, .int o0, .int g0, .int v0, .int m0, .int l0]) mm_cfs fl_B_29 fw_0_2 (by rw [gx0]; rfl) (show 2 < 10 by decide) (by rfl) d_B_begin_2 (by rw [sx0]) ?_
  refine ev_aload_n (pc := 5) d_B_begin_5 rfl rfl (by first | rfl | exact mm_rk_rf _) ?_
  refine ev_iload_n (pc := 6) d_B_begin_6 rfl rfl ?_
  refine ev_putf (pc := 7) (fs := [.ref x, .int t0, .int p1, .int a0, .int n0, .int o0, .int g0, .int v0, .int m0, .int l0]) mm_cfs fl_B_26 fw_0_3 (by rw [gx0]; rfl) (show 3 < 10 by decide) (by rfl) d_B_begin_7 (by rw [sx0]) ?_
  refine ev_aload_n (pc := 10) d_B_begin_10 rfl rfl (by first | rfl | exact mm_rk_rf _) ?_
  refine ev_iload_n (pc := 11) d_B_begin_11 rfl rfl ?_
  refine ev_putf (pc := 12) (fs := [.ref x, .int t0, .int p1, .int a1, .int n0, .int o0, .int g0, .int v0, .int m0, .int l0]) mm_cfs fl_B_32 fw_0_4 (by rw [gx0]; rfl) (show 4 < 10 by decide) (by rfl) d_B_begin_12 (by rw [sx0]) ?_
  refine ev_aload_n (pc := 15) d_B_begin_15 rfl rfl (by first | rfl | exact mm_rk_rf _) ?_
  refine ev_iload (pc := 16) d_B_begin_16 rfl ?_
  refine ev_putf (pc := 18) (fs := [.ref x, .int t0, .int p1, .int a1, .int n1, .int o0, .int g0, .int v0, .int m0, .int l0]) mm_cfs fl_B_35 fw_0_5 (by rw [gx0]; rfl) (show 5 < 10 by decide) (by rfl) d_B_begin_18 (by rw [sx0]) ?_
  refine ev_aload_n (pc := 21) d_B_begin_21 rfl rfl (by first | rfl | exact mm_rk_rf _) ?_
  refine ev_iload (pc := 22) d_B_begin_22 rfl ?_
  refine ev_putf (pc := 24) (fs := [.ref x, .int t0, .int p1, .int a1, .int n1, .int o1, .int g0, .int v0, .int m0, .int l0]) mm_cfs fl_B_38 fw_0_6 (by rw [gx0]; rfl) (show 6 < 10 by decide) (by rfl) d_B_begin_24 (by rw [sx0]) ?_
  refine ev_aload_n (pc := 27) d_B_begin_27 rfl rfl (by first | rfl | exact mm_rk_rf _) ?_
  refine ev_iload (pc := 28) d_B_begin_28 rfl ?_
  refine ev_putf (pc := 30) (fs := [.ref x, .int t0, .int p1, .int a1, .int n1, .int o1, .int g1, .int v0, .int m0, .int l0]) mm_cfs fl_B_19 fw_0_8 (by rw [gx0]; rfl) (show 8 < 10 by decide) (by rfl) d_B_begin_30 (by rw [sx0]) ?_
  refine ev_aload_n (pc := 33) d_B_begin_33 rfl rfl (by first | rfl | exact mm_rk_rf _) ?_
  refine ev_iconst (pc := 34) (v := 0) d_B_begin_34 rfl ?_
  refine ev_putf (pc := 35) (fs := [.ref x, .int t0, .int p1, .int a1, .int n1, .int o1, .int g1, .int v0, .int m1, .int l0]) mm_cfs fl_B_41 fw_0_7 (by rw [gx0]; rfl) (show 7 < 10 by decide) (by rfl) d_B_begin_35 (by rw [sx0]) ?_
  refine ev_aload_n (pc := 38) d_B_begin_38 rfl rfl (by first | rfl | exact mm_rk_rf _) ?_
  refine ev_iconst (pc := 39) (v := 0) d_B_begin_39 rfl ?_
  refine ev_putf (pc := 40) (fs := [.ref x, .int t0, .int p1, .int a1, .int n1, .int o1, .int g1, .int 0, .int m1, .int l0]) mm_cfs fl_B_44 fw_0_9 (by rw [gx0]; rfl) (show 9 < 10 by decide) (by rfl) d_B_begin_40 (by rw [sx0]) ?_
  exact ev_vret (pc := 43) d_B_begin_43 rfl (by decide) (by decide) ⟨rfl, rfl⟩
theorem cg_B_enter (E : mm_En) (p q : mm_H) (x n : Nat) (t0 p0 a0 n0 o0 g0 v0 m0 l0 : Int32) : mm_MT E K_B_enter [.ref p.length, .int (nI n)] (p ++ .inr (0, [.ref x, .int t0, .int p0, .int a0, .int n0, .int o0, .int g0, .int v0, .int m0, .int l0]) :: q) (mk_D (p ++ .inr (0, [.ref x, .int (t0 ||| ((1 : Int32) <<< (nI n &&& 31))), .int p0, .int a0, .int n0, .int o0, .int g0, .int v0, .int m0, .int l0]) :: q)) := by
  refine mm_mtL (by decide) (by rfl) (Nat.le_of_ble_eq_true rfl) rfl ?_
  refine ev_aload_n (pc := 0) d_B_enter_0 rfl rfl (by first | rfl | exact mm_rk_rf _) ?_
  refine ev_dup (pc := 1) d_B_enter_1 (by rfl) ?_
  refine ev_getf (pc := 2) mm_cfs fl_B_15 (gx0 _ _) rfl d_B_enter_2 ?_
  refine ev_iconst (pc := 5) (v := 1) d_B_enter_5 rfl ?_
  refine ev_iload_n (pc := 6) d_B_enter_6 rfl rfl ?_
  refine ev_ishl (pc := 7) d_B_enter_7 ?_
  refine ev_ior (pc := 8) d_B_enter_8 ?_
  refine ev_putf (pc := 9) (fs := [.ref x, .int t0, .int p0, .int a0, .int n0, .int o0, .int g0, .int v0, .int m0, .int l0]) mm_cfs fl_B_15 fw_0_1 (by rw [gx0]; rfl) (show 1 < 10 by decide) (by rfl) d_B_enter_9 (by rw [sx0]) ?_
  exact ev_vret (pc := 12) d_B_enter_12 rfl (by decide) (by decide) ⟨rfl, rfl⟩
/-- the root's block as it is made -/
def zb (k : Nat) : Int32 := if k = 1 then 33 else if k = 8 then 2559 else 0
def mk_p (b i : Nat) : List Nat := (List.range i).map (fun j => b + 2 * j)
theorem mk_pl (b i : Nat) : (mk_p b i).length = i := by simp [mk_p]
theorem mk_ps (b i : Nat) : mk_p b (i + 1) = mk_p b i ++ [b + 2 * i] := by simp [mk_p, List.range_succ]
def mk_s (b i : Nat) : mm_H := [zc (.inr (6, [some (b + 1), none, none])), zc (.inl (2, 64, mk_p (b + 2) i))] ++ (List.range i).flatMap (fun j => [zc (hp_blk (b + 2 + 2 * j)), zc (hp_ar 16)])
theorem mk_sl (b i : Nat) : (mk_s b i).length = 2 + 2 * i := by
  simp only [mk_s, List.length_append, List.length_flatMap, List.length_cons, List.length_nil]
  induction i with
  | zero => rfl
  | succ i ih =>
    simp only [List.range_succ, List.map_append, List.sum_append, List.map_cons, List.map_nil, List.sum_cons, List.sum_nil] at ih ⊢
    omega
/-- the blocks but the first -/
def mk_r (b : Nat) : List hp_T := (List.range 63).flatMap (fun j => [hp_blk (b + 2 + 2 * (j + 1)), hp_ar 16])
theorem mk_se (b : Nat) : mk_s b 64 = zc (.inr (6, [some (b + 1), none, none])) :: zc (.inl (2, 64, mk_p (b + 2) 64)) :: .inr (0, [.ref (b + 3), .int 0, .int 0, .int 0, .int 0, .int 0, .int 0, .int 0, .int 0, .int 0]) :: zc (hp_ar 16) :: (mk_r b).map zc := by rfl
def mk_S (b : Nat) : mm_H := zc (.inr (6, [some (b + 1), none, none])) :: zc (.inl (2, 64, mk_p (b + 2) 64)) :: hp_c (hp_blk (b + 2)) zb :: zc (hp_ar 16) :: (mk_r b).map zc
theorem d_S_init_0 : decode b_S_init 0 = .ok (.aload_n 0, 1) := by decide +kernel
theorem d_S_init_1 : decode b_S_init 1 = .ok (.invokespecial 3, 3) := by decide +kernel
theorem d_S_init_4 : decode b_S_init 4 = .ok (.aload_n 0, 1) := by decide +kernel
theorem d_S_init_5 : decode b_S_init 5 = .ok (.bipush 64, 2) := by decide +kernel
theorem d_S_init_7 : decode b_S_init 7 = .ok (.anewarray 9, 3) := by decide +kernel
theorem d_S_init_10 : decode b_S_init 10 = .ok (.putfield 11, 3) := by decide +kernel
theorem d_S_init_13 : decode b_S_init 13 = .ok (.iconst 0, 1) := by decide +kernel
theorem d_S_init_14 : decode b_S_init 14 = .ok (.istore_n 1, 1) := by decide +kernel
theorem d_S_init_15 : decode b_S_init 15 = .ok (.iload_n 1, 1) := by decide +kernel
theorem d_S_init_16 : decode b_S_init 16 = .ok (.bipush 64, 2) := by decide +kernel
theorem d_S_init_18 : decode b_S_init 18 = .ok (.if_icmp .ge 22, 3) := by decide +kernel
theorem d_S_init_21 : decode b_S_init 21 = .ok (.aload_n 0, 1) := by decide +kernel
theorem d_S_init_22 : decode b_S_init 22 = .ok (.getfield 11, 3) := by decide +kernel
theorem d_S_init_25 : decode b_S_init 25 = .ok (.iload_n 1, 1) := by decide +kernel
theorem d_S_init_26 : decode b_S_init 26 = .ok (.new 9, 3) := by decide +kernel
theorem d_S_init_29 : decode b_S_init 29 = .ok (.dup, 1) := by decide +kernel
theorem d_S_init_30 : decode b_S_init 30 = .ok (.invokespecial 17, 3) := by decide +kernel
theorem d_S_init_33 : decode b_S_init 33 = .ok (.aastore, 1) := by decide +kernel
theorem d_S_init_34 : decode b_S_init 34 = .ok (.iinc 1 1, 3) := by decide +kernel
theorem d_S_init_37 : decode b_S_init 37 = .ok (.goto (-22), 3) := by decide +kernel
theorem d_S_init_40 : decode b_S_init 40 = .ok (.aload_n 0, 1) := by decide +kernel
theorem d_S_init_41 : decode b_S_init 41 = .ok (.getfield 11, 3) := by decide +kernel
theorem d_S_init_44 : decode b_S_init 44 = .ok (.iconst 0, 1) := by decide +kernel
theorem d_S_init_45 : decode b_S_init 45 = .ok (.aaload, 1) := by decide +kernel
theorem d_S_init_46 : decode b_S_init 46 = .ok (.iconst 0, 1) := by decide +kernel
theorem d_S_init_47 : decode b_S_init 47 = .ok (.iconst 0, 1) := by decide +kernel
theorem d_S_init_48 : decode b_S_init 48 = .ok (.iconst 0, 1) := by decide +kernel
theorem d_S_init_49 : decode b_S_init 49 = .ok (.iconst 0, 1) := by decide +kernel
theorem d_S_init_50 : decode b_S_init 50 = .ok (.iconst 0, 1) := by decide +kernel
theorem d_S_init_51 : decode b_S_init 51 = .ok (.sipush 2559, 3) := by decide +kernel
theorem d_S_init_54 : decode b_S_init 54 = .ok (.invokevirtual 18, 3) := by decide +kernel
theorem d_S_init_57 : decode b_S_init 57 = .ok (.aload_n 0, 1) := by decide +kernel
theorem d_S_init_58 : decode b_S_init 58 = .ok (.getfield 11, 3) := by decide +kernel
theorem d_S_init_61 : decode b_S_init 61 = .ok (.iconst 0, 1) := by decide +kernel
theorem d_S_init_62 : decode b_S_init 62 = .ok (.aaload, 1) := by decide +kernel
theorem d_S_init_63 : decode b_S_init 63 = .ok (.iconst 0, 1) := by decide +kernel
theorem d_S_init_64 : decode b_S_init 64 = .ok (.invokevirtual 22, 3) := by decide +kernel
theorem d_S_init_67 : decode b_S_init 67 = .ok (.aload_n 0, 1) := by decide +kernel
theorem d_S_init_68 : decode b_S_init 68 = .ok (.getfield 11, 3) := by decide +kernel
theorem d_S_init_71 : decode b_S_init 71 = .ok (.iconst 0, 1) := by decide +kernel
theorem d_S_init_72 : decode b_S_init 72 = .ok (.aaload, 1) := by decide +kernel
theorem d_S_init_73 : decode b_S_init 73 = .ok (.iconst 5, 1) := by decide +kernel
theorem d_S_init_74 : decode b_S_init 74 = .ok (.invokevirtual 22, 3) := by decide +kernel
theorem d_S_init_77 : decode b_S_init 77 = .ok (.return_, 1) := by decide +kernel
set_option maxRecDepth 20000 in
theorem ct_S_init (E : mm_En) (p : mm_H) : mm_MT E K_S_init [.ref p.length] (p ++ [.inr (6, [.null, .int 0, .int 0])]) (mk_D (p ++ mk_S p.length)) := by
  have loop : ∀ d i : Nat, i + d = 64 → ev_At E K_S_init 15 [some (.ref p.length), some (.int (nI i))] [] (p ++ mk_s p.length i) (1 + 2 * i) (64 + 26 * i) (mk_D (p ++ mk_S p.length)) := by
    intro d
    induction d with
    | zero =>
      intro i hi
      have ei : i = 64 := by omega
      subst ei
      refine ev_iload_n (pc := 15) d_S_init_15 rfl rfl ?_
      refine ev_bipush (pc := 16) (v := 64) d_S_init_16 (by decide) ?_
      refine ev_icmp_ge (pc := 18) (tgt := 40) d_S_init_18 (by decide) (fun ha => ?_) (fun ha => ?_)
      rotate_left
      · exact absurd (Int32.le_refl _) ha
      rw [mk_se]
      obtain ⟨P, eP⟩ : ∃ P : mm_H, P = p ++ [zc (.inr (6, [some (p.length + 1), none, none])), zc (.inl (2, 64, mk_p (p.length + 2) 64))] := ⟨_, rfl⟩
      obtain ⟨Q, eQ⟩ : ∃ Q : mm_H, Q = zc (hp_ar 16) :: (mk_r p.length).map zc := ⟨_, rfl⟩
      have hPl : P.length = p.length + 2 := by rw [eP]; simp
      have hA : ∀ (c : mm_E), p ++ zc (.inr (6, [some (p.length + 1), none, none])) :: zc (.inl (2, 64, mk_p (p.length + 2) 64)) :: c :: zc (hp_ar 16) :: (mk_r p.length).map zc = P ++ c :: Q := by
        intro c
        rw [eP, eQ]
        simp
      have g0 : ∀ c : mm_E, (P ++ c :: Q)[p.length]? = some (zc (.inr (6, [some (p.length + 1), none, none]))) := by
        intro c
        rw [← hA, gx0]
        rfl
      have g1 : ∀ c : mm_E, (P ++ c :: Q)[p.length + 1]? = some (zc (.inl (2, 64, mk_p (p.length + 2) 64))) := by
        intro c
        rw [← hA, gx]
        rfl
      have hp0 : (mk_p (p.length + 2) 64)[(nI 0).toNatClampNeg]? = some P.length := by
        rw [hPl]
        rfl
      have b1 := cg_B_begin E P Q (p.length + 3) 0 0 0 0 0 0 0 0 0 0 0 0 0 0 2559
      have b2 := cg_B_enter E P Q (p.length + 3) 0 0 0 0 0 0 0 0 2559 0
      have b3 := cg_B_enter E P Q (p.length + 3) 5 ((0 : Int32) ||| ((1 : Int32) <<< (nI 0 &&& 31))) 0 0 0 0 0 0 2559 0
      rw [hA]
      refine ev_aload_n (pc := 40) d_S_init_40 rfl rfl (by first | rfl | exact mm_rk_rf _) ?_
      refine ev_getf (pc := 41) mm_cfs fl_S_11 (g0 _) rfl d_S_init_41 ?_
      refine ev_iconst (pc := 44) (v := nI 0) d_S_init_44 rfl ?_
      refine ev_aald (pc := 45) (t := 2) (n := 64) rfl (g1 _) (vp_in_nI (by decide) (by decide)) hp0 d_S_init_45 ?_
      refine ev_iconst (pc := 46) (v := 0) d_S_init_46 rfl ?_
      refine ev_iconst (pc := 47) (v := 0) d_S_init_47 rfl ?_
      refine ev_iconst (pc := 48) (v := 0) d_S_init_48 rfl ?_
      refine ev_iconst (pc := 49) (v := 0) d_S_init_49 rfl ?_
      refine ev_iconst (pc := 50) (v := 0) d_S_init_50 rfl ?_
      refine ev_sipush (pc := 51) (v := 2559) d_S_init_51 (by decide) ?_
      refine ev_callV (pc := 54) b1 cl_S_18 jf_B_begin jv_B_begin.2.1 ⟨rfl, rfl⟩ ⟨(Nat.le_of_ble_eq_true rfl), (Nat.le_of_ble_eq_true rfl)⟩ rfl (gx0 _ _) rfl (Nat.le_of_ble_eq_true rfl) d_S_init_54 (by decide) (fun r h' hd => ?_)
      obtain ⟨rfl, rfl⟩ := hd
      refine ev_aload_n (pc := 57) d_S_init_57 rfl rfl (by first | rfl | exact mm_rk_rf _) ?_
      refine ev_getf (pc := 58) mm_cfs fl_S_11 (g0 _) rfl d_S_init_58 ?_
      refine ev_iconst (pc := 61) (v := nI 0) d_S_init_61 rfl ?_
      refine ev_aald (pc := 62) (t := 2) (n := 64) rfl (g1 _) (vp_in_nI (by decide) (by decide)) hp0 d_S_init_62 ?_
      refine ev_iconst (pc := 63) (v := nI 0) d_S_init_63 rfl ?_
      refine ev_callV (pc := 64) b2 cl_S_22 jf_B_enter jv_B_enter.2.1 ⟨rfl, rfl⟩ ⟨(Nat.le_of_ble_eq_true rfl), (Nat.le_of_ble_eq_true rfl)⟩ rfl (gx0 _ _) rfl (Nat.le_of_ble_eq_true rfl) d_S_init_64 (by decide) (fun r h' hd => ?_)
      obtain ⟨rfl, rfl⟩ := hd
      refine ev_aload_n (pc := 67) d_S_init_67 rfl rfl (by first | rfl | exact mm_rk_rf _) ?_
      refine ev_getf (pc := 68) mm_cfs fl_S_11 (g0 _) rfl d_S_init_68 ?_
      refine ev_iconst (pc := 71) (v := nI 0) d_S_init_71 rfl ?_
      refine ev_aald (pc := 72) (t := 2) (n := 64) rfl (g1 _) (vp_in_nI (by decide) (by decide)) hp0 d_S_init_72 ?_
      refine ev_iconst (pc := 73) (v := nI 5) d_S_init_73 rfl ?_
      refine ev_callV (pc := 74) b3 cl_S_22 jf_B_enter jv_B_enter.2.1 ⟨rfl, rfl⟩ ⟨(Nat.le_of_ble_eq_true rfl), (Nat.le_of_ble_eq_true rfl)⟩ rfl (gx0 _ _) rfl (Nat.le_of_ble_eq_true rfl) d_S_init_74 (by decide) (fun r h' hd => ?_)
      obtain ⟨rfl, rfl⟩ := hd
      refine ev_vret (pc := 77) d_S_init_77 rfl (by decide) (by decide) ⟨rfl, ?_⟩
      rw [mk_S, hA]
      rfl
    | succ d ih =>
      intro i hi
      have hlen : (p ++ mk_s p.length i).length = p.length + 2 + 2 * i := by rw [List.length_append, mk_sl]; omega
      have hB := ct_B_init E (p ++ mk_s p.length i)
      rw [hlen] at hB
      refine ev_iload_n (pc := 15) d_S_init_15 rfl rfl ?_
      refine ev_bipush (pc := 16) (v := 64) d_S_init_16 (by decide) ?_
      refine ev_icmp_ge (pc := 18) (tgt := 40) d_S_init_18 (by decide) (fun ha => ?_) (fun ha => ?_)
      · exact absurd ha (nI_ge (b := 64) (by omega) (by omega))
      refine ev_aload_n (pc := 21) d_S_init_21 rfl rfl (by first | rfl | exact mm_rk_rf _) ?_
      refine ev_getf (pc := 22) mm_cfs fl_S_11 (gx0 _ _) rfl d_S_init_22 ?_
      refine ev_iload_n (pc := 25) d_S_init_25 rfl rfl ?_
      refine ev_new (pc := 26) mm_cfs nc_S_9 d_S_init_26 (show 1 + 2 * i + 1 ≤ 129 by omega) (show 64 + 26 * i + 10 ≤ 1728 by omega) ?_
      rw [hlen]
      refine ev_dup (pc := 29) d_S_init_29 (by rfl) ?_
      refine ev_callI (pc := 30) hB rfl cl_S_17 jf_B_init ji_B_init ⟨(Nat.le_of_ble_eq_true rfl), (Nat.le_of_ble_eq_true rfl)⟩ rfl rfl (Nat.le_of_ble_eq_true rfl) d_S_init_30 (show 1 + 2 * i + 1 + 1 ≤ 129 ∧ 64 + 26 * i + 10 + 16 ≤ 1728 by omega) (fun r h' hd => ?_)
      obtain ⟨rfl, rfl⟩ := hd
      have hj : ((p ++ mk_s p.length i) ++ [zc (hp_blk (p.length + 2 + 2 * i)), zc (hp_ar 16)])[p.length + 2 + 2 * i]? = some (zc (hp_blk (p.length + 2 + 2 * i))) := by
        rw [← hlen, gx0]
        rfl
      refine ev_aast (pc := 33) (t := 2) (n := 64) (f := fun j => (mk_p (p.length + 2) i)[j]?) (i := p.length + 1) rfl rfl (by rw [List.append_assoc, gx]; rfl) hj (vp_in_nI (by omega) (by decide)) d_S_init_33 (h' := p ++ mk_s p.length (i + 1)) ?_ ?_
      · rw [nI_clamp (by omega), up_rs _ _ (mk_pl _ _), ← mk_ps, List.append_assoc, sx]
        congr 1
        simp only [mk_s, List.range_succ, List.flatMap_append, List.flatMap_cons, List.flatMap_nil, List.append_nil, List.append_assoc]
        rfl
      · refine ev_iinc (pc := 34) d_S_init_34 (Nat.le_of_ble_eq_true rfl) rfl (nx_inc _) rfl ?_
        try dsimp only [List.set]
        refine ev_goto (pc := 37) (tgt := 15) d_S_init_37 (by decide) ?_
        refine ev_eq rfl rfl rfl rfl ?_ ?_ (ih (i + 1) (by omega))
        · show 1 + 2 * i + 1 + 1 = 1 + 2 * (i + 1)
          omega
        · show 64 + 26 * i + 10 + 16 = 64 + 26 * (i + 1)
          omega
  refine mm_mtL (by decide) (by rfl) (Nat.le_of_ble_eq_true rfl) rfl ?_
  refine ev_aload_n (pc := 0) d_S_init_0 rfl rfl (by first | rfl | exact mm_rk_rf _) ?_
  refine ev_objI (pc := 1) cl_S_3 ob_1 ob_2 d_S_init_1 (by decide) (by decide) ?_
  refine ev_aload_n (pc := 4) d_S_init_4 rfl rfl (by first | rfl | exact mm_rk_rf _) ?_
  refine ev_bipush (pc := 5) (v := 64) d_S_init_5 (by decide) ?_
  refine ev_newq (pc := 7) (t := 2) (N := 64) rfl na_S_9.1 na_S_9.2 d_S_init_7 (by decide) (by decide) (by decide) (by decide) (by decide) ?_
  rw [lx]
  refine ev_putF (pc := 10) (fs := [.null, .int 0, .int 0]) mm_cfs rfl ff_S_11 (by rw [List.append_assoc, gx0]; rfl) (by decide) (by rfl) d_S_init_10 (h' := p ++ mk_s p.length 0) (by rw [List.append_assoc, sx0]; rfl) ?_
  refine ev_iconst (pc := 13) (v := 0) d_S_init_13 rfl ?_
  refine ev_istore_n (pc := 14) d_S_init_14 rfl (Nat.le_of_ble_eq_true rfl) rfl ?_
  try dsimp only [List.set]
  exact loop 64 0 (by omega)
