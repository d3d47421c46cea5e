/-! Constructors: the server. -/
def mk_P (xo : mm_E) : mm_H := xo :: mk_S 1
theorem mk_Pl (xo : mm_E) : (mk_P xo).length = 131 := by rfl
theorem hp_conl (b : Nat) : ((hp_con b).map zc).length = 33 := rfl
def mk_X : mm_H := mk_P (.inr (8, [.ref 1, .ref 131, .ref 132, .ref 199, .ref 201, .ref 203])) ++ ([zc (.inr (3, [none])), zc (.inl (3, 2, [133, 166]))] ++ ((hp_con 133).map zc ++ ((hp_con 166).map zc ++ [zc (hp_row 199), zc (hp_ar 4), zc (hp_row 201), zc (hp_ar 8), zc (.inr (7, [none, none, none, none]))])))
theorem d_X_init_0 : decode b_X_init 0 = .ok (.aload_n 0, 1) := by decide +kernel
theorem d_X_init_1 : decode b_X_init 1 = .ok (.invokespecial 3, 3) := by decide +kernel
theorem d_X_init_4 : decode b_X_init 4 = .ok (.aload_n 0, 1) := by decide +kernel
theorem d_X_init_5 : decode b_X_init 5 = .ok (.new 9, 3) := by decide +kernel
theorem d_X_init_8 : decode b_X_init 8 = .ok (.dup, 1) := by decide +kernel
theorem d_X_init_9 : decode b_X_init 9 = .ok (.invokespecial 11, 3) := by decide +kernel
theorem d_X_init_12 : decode b_X_init 12 = .ok (.putfield 12, 3) := by decide +kernel
theorem d_X_init_15 : decode b_X_init 15 = .ok (.aload_n 0, 1) := by decide +kernel
theorem d_X_init_16 : decode b_X_init 16 = .ok (.new 16, 3) := by decide +kernel
theorem d_X_init_19 : decode b_X_init 19 = .ok (.dup, 1) := by decide +kernel
theorem d_X_init_20 : decode b_X_init 20 = .ok (.invokespecial 18, 3) := by decide +kernel
theorem d_X_init_23 : decode b_X_init 23 = .ok (.putfield 19, 3) := by decide +kernel
theorem d_X_init_26 : decode b_X_init 26 = .ok (.aload_n 0, 1) := by decide +kernel
theorem d_X_init_27 : decode b_X_init 27 = .ok (.iconst 2, 1) := by decide +kernel
theorem d_X_init_28 : decode b_X_init 28 = .ok (.anewarray 23, 3) := by decide +kernel
theorem d_X_init_31 : decode b_X_init 31 = .ok (.putfield 25, 3) := by decide +kernel
theorem d_X_init_34 : decode b_X_init 34 = .ok (.iconst 0, 1) := by decide +kernel
theorem d_X_init_35 : decode b_X_init 35 = .ok (.istore_n 1, 1) := by decide +kernel
theorem d_X_init_36 : decode b_X_init 36 = .ok (.iload_n 1, 1) := by decide +kernel
theorem d_X_init_37 : decode b_X_init 37 = .ok (.iconst 2, 1) := by decide +kernel
theorem d_X_init_38 : decode b_X_init 38 = .ok (.if_icmp .ge 22, 3) := by decide +kernel
theorem d_X_init_41 : decode b_X_init 41 = .ok (.aload_n 0, 1) := by decide +kernel
theorem d_X_init_42 : decode b_X_init 42 = .ok (.getfield 25, 3) := by decide +kernel
theorem d_X_init_45 : decode b_X_init 45 = .ok (.iload_n 1, 1) := by decide +kernel
theorem d_X_init_46 : decode b_X_init 46 = .ok (.new 23, 3) := by decide +kernel
theorem d_X_init_49 : decode b_X_init 49 = .ok (.dup, 1) := by decide +kernel
theorem d_X_init_50 : decode b_X_init 50 = .ok (.invokespecial 29, 3) := by decide +kernel
theorem d_X_init_53 : decode b_X_init 53 = .ok (.aastore, 1) := by decide +kernel
theorem d_X_init_54 : decode b_X_init 54 = .ok (.iinc 1 1, 3) := by decide +kernel
theorem d_X_init_57 : decode b_X_init 57 = .ok (.goto (-21), 3) := by decide +kernel
theorem d_X_init_60 : decode b_X_init 60 = .ok (.aload_n 0, 1) := by decide +kernel
theorem d_X_init_61 : decode b_X_init 61 = .ok (.new 30, 3) := by decide +kernel
theorem d_X_init_64 : decode b_X_init 64 = .ok (.dup, 1) := by decide +kernel
theorem d_X_init_65 : decode b_X_init 65 = .ok (.iconst 4, 1) := by decide +kernel
theorem d_X_init_66 : decode b_X_init 66 = .ok (.invokespecial 32, 3) := by decide +kernel
theorem d_X_init_69 : decode b_X_init 69 = .ok (.putfield 35, 3) := by decide +kernel
theorem d_X_init_72 : decode b_X_init 72 = .ok (.aload_n 0, 1) := by decide +kernel
theorem d_X_init_73 : decode b_X_init 73 = .ok (.new 30, 3) := by decide +kernel
theorem d_X_init_76 : decode b_X_init 76 = .ok (.dup, 1) := by decide +kernel
theorem d_X_init_77 : decode b_X_init 77 = .ok (.bipush 8, 2) := by decide +kernel
theorem d_X_init_79 : decode b_X_init 79 = .ok (.invokespecial 32, 3) := by decide +kernel
theorem d_X_init_82 : decode b_X_init 82 = .ok (.putfield 39, 3) := by decide +kernel
theorem d_X_init_85 : decode b_X_init 85 = .ok (.aload_n 0, 1) := by decide +kernel
theorem d_X_init_86 : decode b_X_init 86 = .ok (.new 42, 3) := by decide +kernel
theorem d_X_init_89 : decode b_X_init 89 = .ok (.dup, 1) := by decide +kernel
theorem d_X_init_90 : decode b_X_init 90 = .ok (.invokespecial 44, 3) := by decide +kernel
theorem d_X_init_93 : decode b_X_init 93 = .ok (.putfield 45, 3) := by decide +kernel
theorem d_X_init_96 : decode b_X_init 96 = .ok (.return_, 1) := by decide +kernel
set_option maxRecDepth 20000 in
theorem ct_X_init (E : mm_En) : mm_MT E K_X_init [.ref 0] [.inr (8, [.null, .null, .null, .null, .null, .null])] (mk_D mk_X) := by
  have len : ∀ (xo : mm_E) (l : mm_H), (mk_P xo ++ l).length = 131 + l.length := by
    intro xo l
    rw [List.length_append, mk_Pl]
  have gxx : ∀ (xo : mm_E) (l : mm_H) (k : Nat), (mk_P xo ++ l)[131 + k]? = l[k]? := by
    intro xo l k
    have h1 := gx (mk_P xo) l k
    rw [mk_Pl] at h1
    exact h1
  have sxx : ∀ (xo : mm_E) (l : mm_H) (k : Nat) (v : mm_E), (mk_P xo ++ l).set (131 + k) v = mk_P xo ++ l.set k v := by
    intro xo l k v
    have h1 := sx (mk_P xo) l k v
    rw [mk_Pl] at h1
    exact h1
  have hS := ct_S_init E [.inr (8, [.null, .null, .null, .null, .null, .null])]
  refine mm_mtL (by decide) (by rfl) (Nat.le_of_ble_eq_true rfl) rfl ?_
  refine ev_aload_n (pc := 0) d_X_init_0 rfl rfl (by first | rfl | exact mm_rk_rf _) ?_
  refine ev_objI (pc := 1) cl_X_3 ob_1 ob_2 d_X_init_1 (by decide) (by decide) ?_
  refine ev_aload_n (pc := 4) d_X_init_4 rfl rfl (by first | rfl | exact mm_rk_rf _) ?_
  refine ev_new (pc := 5) mm_cfs nc_X_9 d_X_init_5 (by decide) (by decide) ?_
  refine ev_dup (pc := 8) d_X_init_8 (by rfl) ?_
  refine ev_callI (pc := 9) hS rfl cl_X_11 jf_S_init ji_S_init ⟨(Nat.le_of_ble_eq_true rfl), (Nat.le_of_ble_eq_true rfl)⟩ rfl rfl (Nat.le_of_ble_eq_true rfl) d_X_init_9 (by decide) (fun r h' hd => ?_)
  obtain ⟨rfl, rfl⟩ := hd
  refine ev_putF (pc := 12) (fs := [.null, .null, .null, .null, .null, .null]) mm_cfs rfl ff_X_12 rfl (by decide) (by rfl) d_X_init_12 (h' := mk_P (.inr (8, [.ref 1, .null, .null, .null, .null, .null])) ++ []) (by rw [List.append_nil]; rfl) ?_
  refine ev_aload_n (pc := 15) d_X_init_15 rfl rfl (by first | rfl | exact mm_rk_rf _) ?_
  refine ev_new (pc := 16) mm_cfs nc_X_16 d_X_init_16 (by decide) (by decide) ?_
  rw [len]
  refine ev_dup (pc := 19) d_X_init_19 (by rfl) ?_
  refine ev_callI (pc := 20) (ct_M_init E _ _) rfl cl_X_18 jf_M_init ji_M_init ⟨(Nat.le_of_ble_eq_true rfl), (Nat.le_of_ble_eq_true rfl)⟩ rfl rfl (Nat.le_of_ble_eq_true rfl) d_X_init_20 (by decide) (fun r h' hd => ?_)
  obtain ⟨rfl, rfl⟩ := hd
  refine ev_putF (pc := 23) (fs := [.ref 1, .null, .null, .null, .null, .null]) mm_cfs rfl ff_X_19 rfl (by decide) (by rfl) d_X_init_23 (h' := mk_P (.inr (8, [.ref 1, .ref 131, .null, .null, .null, .null])) ++ [zc (.inr (3, [none]))]) rfl ?_
  refine ev_aload_n (pc := 26) d_X_init_26 rfl rfl (by first | rfl | exact mm_rk_rf _) ?_
  refine ev_iconst (pc := 27) (v := 2) d_X_init_27 rfl ?_
  refine ev_newq (pc := 28) (t := 3) (N := 2) rfl na_X_23.1 na_X_23.2 d_X_init_28 (by decide) (by decide) (by decide) (by decide) (by decide) ?_
  rw [len]
  refine ev_putF (pc := 31) (fs := [.ref 1, .ref 131, .null, .null, .null, .null]) mm_cfs rfl ff_X_25 rfl (by decide) (by rfl) d_X_init_31 (h' := mk_P (.inr (8, [.ref 1, .ref 131, .ref 132, .null, .null, .null])) ++ [zc (.inr (3, [none])), zc (.inl (3, 2, []))]) rfl ?_
  refine ev_iconst (pc := 34) (v := nI 0) d_X_init_34 rfl ?_
  refine ev_istore_n (pc := 35) d_X_init_35 rfl (Nat.le_of_ble_eq_true rfl) rfl ?_
  try dsimp only [List.set]
  refine ev_iload_n (pc := 36) d_X_init_36 rfl rfl ?_
  refine ev_iconst (pc := 37) (v := 2) d_X_init_37 rfl ?_
  refine ev_icmp_ge (pc := 38) (tgt := 60) d_X_init_38 (by decide) (fun ha => ?_) (fun ha => ?_)
  · exact absurd ha (by decide)
  refine ev_aload_n (pc := 41) d_X_init_41 rfl rfl (by first | rfl | exact mm_rk_rf _) ?_
  refine ev_getf (pc := 42) (fs := [.ref 1, .ref 131, .ref 132, .null, .null, .null]) mm_cfs fl_X_25 rfl rfl d_X_init_42 ?_
  refine ev_iload_n (pc := 45) d_X_init_45 rfl rfl ?_
  refine ev_new (pc := 46) mm_cfs nc_X_23 d_X_init_46 (by decide) (by decide) ?_
  have hC := ct_C_init E (mk_P (.inr (8, [.ref 1, .ref 131, .ref 132, .null, .null, .null])) ++ [zc (.inr (3, [none])), zc (.inl (3, 2, []))])
  rw [len] at hC ⊢
  refine ev_dup (pc := 49) d_X_init_49 (by rfl) ?_
  refine ev_callI (pc := 50) hC rfl cl_X_29 jf_C_init ji_C_init ⟨(Nat.le_of_ble_eq_true rfl), (Nat.le_of_ble_eq_true rfl)⟩ rfl rfl (Nat.le_of_ble_eq_true rfl) d_X_init_50 (by decide) (fun r h' hd => ?_)
  obtain ⟨rfl, rfl⟩ := hd
  refine ev_aast (pc := 53) (t := 3) (n := 2) (f := fun j => ([] : List Nat)[j]?) (i := 132) (j := 133) rfl rfl (by rw [List.append_assoc]; exact gxx _ _ 1) (by rw [List.append_assoc]; exact gxx _ _ 2) (vp_in_nI (by decide) (by decide)) d_X_init_53 (h' := mk_P (.inr (8, [.ref 1, .ref 131, .ref 132, .null, .null, .null])) ++ ([zc (.inr (3, [none])), zc (.inl (3, 2, [133]))] ++ (hp_con 133).map zc)) ?_ ?_
  · rw [show (nI 0).toNatClampNeg = 0 from rfl, up_rs [] (i := 0) 133 rfl, List.append_assoc]
    exact sxx _ _ 1 _
  refine ev_iinc (pc := 54) d_X_init_54 (Nat.le_of_ble_eq_true rfl) rfl (nx_inc _) rfl ?_
  try dsimp only [List.set]
  refine ev_goto (pc := 57) (tgt := 36) d_X_init_57 (by decide) ?_
  refine ev_iload_n (pc := 36) d_X_init_36 rfl rfl ?_
  refine ev_iconst (pc := 37) (v := 2) d_X_init_37 rfl ?_
  refine ev_icmp_ge (pc := 38) (tgt := 60) d_X_init_38 (by decide) (fun ha => ?_) (fun ha => ?_)
  · exact absurd ha (by decide)
  refine ev_aload_n (pc := 41) d_X_init_41 rfl rfl (by first | rfl | exact mm_rk_rf _) ?_
  refine ev_getf (pc := 42) (fs := [.ref 1, .ref 131, .ref 132, .null, .null, .null]) mm_cfs fl_X_25 rfl rfl d_X_init_42 ?_
  refine ev_iload_n (pc := 45) d_X_init_45 rfl rfl ?_
  refine ev_new (pc := 46) mm_cfs nc_X_23 d_X_init_46 (by decide) (by decide) ?_
  have hC2 := ct_C_init E (mk_P (.inr (8, [.ref 1, .ref 131, .ref 132, .null, .null, .null])) ++ ([zc (.inr (3, [none])), zc (.inl (3, 2, [133]))] ++ (hp_con 133).map zc))
  rw [len] at hC2 ⊢
  refine ev_dup (pc := 49) d_X_init_49 (by rfl) ?_
  refine ev_callI (pc := 50) hC2 rfl cl_X_29 jf_C_init ji_C_init ⟨(Nat.le_of_ble_eq_true rfl), (Nat.le_of_ble_eq_true rfl)⟩ rfl rfl (Nat.le_of_ble_eq_true rfl) d_X_init_50 (by decide) (fun r h' hd => ?_)
  obtain ⟨rfl, rfl⟩ := hd
  refine ev_aast (pc := 53) (t := 3) (n := 2) (f := fun j => ([133] : List Nat)[j]?) (i := 132) (j := 166) rfl rfl (by rw [List.append_assoc]; exact gxx _ _ 1) (by rw [List.append_assoc]; exact gxx _ _ 35) (vp_in_nI (by decide) (by decide)) d_X_init_53 (h' := mk_P (.inr (8, [.ref 1, .ref 131, .ref 132, .null, .null, .null])) ++ ([zc (.inr (3, [none])), zc (.inl (3, 2, [133, 166]))] ++ ((hp_con 133).map zc ++ (hp_con 166).map zc))) ?_ ?_
  · rw [show (nI (0 + 1)).toNatClampNeg = 1 from rfl, up_rs [133] (i := 1) 166 rfl, List.append_assoc]
    exact sxx _ _ 1 _
  refine ev_iinc (pc := 54) d_X_init_54 (Nat.le_of_ble_eq_true rfl) rfl (nx_inc _) rfl ?_
  try dsimp only [List.set]
  refine ev_goto (pc := 57) (tgt := 36) d_X_init_57 (by decide) ?_
  refine ev_iload_n (pc := 36) d_X_init_36 rfl rfl ?_
  refine ev_iconst (pc := 37) (v := 2) d_X_init_37 rfl ?_
  refine ev_icmp_ge (pc := 38) (tgt := 60) d_X_init_38 (by decide) (fun ha => ?_) (fun ha => ?_)
  rotate_left
  · exact absurd (by decide) ha
  refine ev_aload_n (pc := 60) d_X_init_60 rfl rfl (by first | rfl | exact mm_rk_rf _) ?_
  refine ev_new (pc := 61) mm_cfs nc_X_30 d_X_init_61 (by decide) (by decide) ?_
  have hR := ct_R_init E (mk_P (.inr (8, [.ref 1, .ref 131, .ref 132, .null, .null, .null])) ++ ([zc (.inr (3, [none])), zc (.inl (3, 2, [133, 166]))] ++ ((hp_con 133).map zc ++ (hp_con 166).map zc))) (n := 4) (by decide)
  rw [len] at hR ⊢
  refine ev_dup (pc := 64) d_X_init_64 (by rfl) ?_
  refine ev_iconst (pc := 65) (v := nI 4) d_X_init_65 rfl ?_
  refine ev_callI (pc := 66) hR rfl cl_X_32 jf_R_init ji_R_init ⟨(Nat.le_of_ble_eq_true rfl), (Nat.le_of_ble_eq_true rfl)⟩ rfl rfl (Nat.le_of_ble_eq_true rfl) d_X_init_66 (by decide) (fun r h' hd => ?_)
  obtain ⟨rfl, rfl⟩ := hd
  refine ev_putF (pc := 69) (fs := [.ref 1, .ref 131, .ref 132, .null, .null, .null]) mm_cfs rfl ff_X_35 rfl (by decide) (by rfl) d_X_init_69 (h' := mk_P (.inr (8, [.ref 1, .ref 131, .ref 132, .ref 199, .null, .null])) ++ ([zc (.inr (3, [none])), zc (.inl (3, 2, [133, 166]))] ++ ((hp_con 133).map zc ++ ((hp_con 166).map zc ++ [zc (hp_row 199), zc (hp_ar 4)])))) (by rw [List.append_assoc, List.append_assoc, List.append_assoc]; rfl) ?_
  refine ev_aload_n (pc := 72) d_X_init_72 rfl rfl (by first | rfl | exact mm_rk_rf _) ?_
  refine ev_new (pc := 73) mm_cfs nc_X_30 d_X_init_73 (by decide) (by decide) ?_
  have hR2 := ct_R_init E (mk_P (.inr (8, [.ref 1, .ref 131, .ref 132, .ref 199, .null, .null])) ++ ([zc (.inr (3, [none])), zc (.inl (3, 2, [133, 166]))] ++ ((hp_con 133).map zc ++ ((hp_con 166).map zc ++ [zc (hp_row 199), zc (hp_ar 4)])))) (n := 8) (by decide)
  rw [len] at hR2 ⊢
  refine ev_dup (pc := 76) d_X_init_76 (by rfl) ?_
  refine ev_bipush (pc := 77) (v := nI 8) d_X_init_77 (by decide) ?_
  refine ev_callI (pc := 79) hR2 rfl cl_X_32 jf_R_init ji_R_init ⟨(Nat.le_of_ble_eq_true rfl), (Nat.le_of_ble_eq_true rfl)⟩ rfl rfl (Nat.le_of_ble_eq_true rfl) d_X_init_79 (by decide) (fun r h' hd => ?_)
  obtain ⟨rfl, rfl⟩ := hd
  refine ev_putF (pc := 82) (fs := [.ref 1, .ref 131, .ref 132, .ref 199, .null, .null]) mm_cfs rfl ff_X_39 rfl (by decide) (by rfl) d_X_init_82 (h' := mk_P (.inr (8, [.ref 1, .ref 131, .ref 132, .ref 199, .ref 201, .null])) ++ ([zc (.inr (3, [none])), zc (.inl (3, 2, [133, 166]))] ++ ((hp_con 133).map zc ++ ((hp_con 166).map zc ++ [zc (hp_row 199), zc (hp_ar 4), zc (hp_row 201), zc (hp_ar 8)])))) (by rw [List.append_assoc, List.append_assoc, List.append_assoc, List.append_assoc]; rfl) ?_
  refine ev_aload_n (pc := 85) d_X_init_85 rfl rfl (by first | rfl | exact mm_rk_rf _) ?_
  refine ev_new (pc := 86) mm_cfs nc_X_42 d_X_init_86 (by decide) (by decide) ?_
  rw [len]
  refine ev_dup (pc := 89) d_X_init_89 (by rfl) ?_
  refine ev_callI (pc := 90) (ct_W_init E _ _) rfl cl_X_44 jf_W_init ji_W_init ⟨(Nat.le_of_ble_eq_true rfl), (Nat.le_of_ble_eq_true rfl)⟩ rfl rfl (Nat.le_of_ble_eq_true rfl) d_X_init_90 (by decide) (fun r h' hd => ?_)
  obtain ⟨rfl, rfl⟩ := hd
  refine ev_putF (pc := 93) (fs := [.ref 1, .ref 131, .ref 132, .ref 199, .ref 201, .null]) mm_cfs rfl ff_X_45 rfl (by decide) (by rfl) d_X_init_93 (h' := mk_X) (by unfold mk_X; rw [List.append_assoc, List.append_assoc, List.append_assoc, List.append_assoc]; rfl) ?_
  exact ev_vret (pc := 96) d_X_init_96 rfl (by decide) (by decide) ⟨rfl, rfl⟩
