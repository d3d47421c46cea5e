/-! Constructors: a connection. -/
theorem up_rs (rs : List Nat) {i : Nat} (r : Nat) (h : rs.length = i) : va_up (fun j => rs[j]?) i (some r) = fun j => (rs ++ [r])[j]? := by
  subst h
  funext j
  unfold va_up
  by_cases hj : j = rs.length
  · subst hj
    simp
  · by_cases hl : j < rs.length
    · simp [hj, List.getElem?_append_left hl]
    · have h1 : rs[j]? = none := List.getElem?_eq_none (by omega)
      have h2 : (rs ++ [r])[j]? = none := List.getElem?_eq_none (by simp; omega)
      simp [hj, h1, h2]
def mk_f (b i : Nat) : List Nat := (List.range i).map (fun j => b + j)
theorem mk_fl (b i : Nat) : (mk_f b i).length = i := by simp [mk_f]
theorem mk_fs (b i : Nat) : mk_f b (i + 1) = mk_f b i ++ [b + i] := by simp [mk_f, List.range_succ]
def mk_c1 (b i : Nat) : mm_H := .inr (1, [.ref (b + 1), .null]) :: zc (.inl (4, 6, mk_f (b + 2) i)) :: List.replicate i (zc hp_fid)
theorem mk_c1l (b i : Nat) : (mk_c1 b i).length = 2 + i := by simp [mk_c1]; omega
def mk_q (b i : Nat) : List Nat := (List.range i).map (fun j => b + 3 * j)
theorem mk_ql (b i : Nat) : (mk_q b i).length = i := by simp [mk_q]
theorem mk_qs (b i : Nat) : mk_q b (i + 1) = mk_q b i ++ [b + 3 * i] := by simp [mk_q, List.range_succ]
def mk_c2 (b i : Nat) : mm_H := [.inr (1, [.ref (b + 1), .ref (b + 8)]), zc (.inl (4, 6, mk_f (b + 2) 6)), zc hp_fid, zc hp_fid, zc hp_fid, zc hp_fid, zc hp_fid, zc hp_fid, zc (.inl (5, 8, mk_q (b + 9) i))] ++ (List.range i).flatMap (fun t => [zc (hp_req (b + 9 + 3 * t)), zc (hp_row (b + 9 + 3 * t + 1)), zc (hp_ar 4)])
theorem mk_c2l (b i : Nat) : (mk_c2 b i).length = 9 + 3 * i := by
  simp only [mk_c2, List.length_append, List.length_flatMap, List.length_cons, List.length_nil]
  induction i with
  | zero => rfl
  | succ i ih =>
    simp only [List.range_succ, List.map_append, List.sum_append, List.map_cons, List.map_nil, List.sum_cons, List.sum_nil] at ih ⊢
    omega
theorem mk_c2e (b : Nat) : mk_c2 b 8 = (hp_con b).map zc := by rfl
theorem d_C_init_0 : decode b_C_init 0 = .ok (.aload_n 0, 1) := by decide +kernel
theorem d_C_init_1 : decode b_C_init 1 = .ok (.invokespecial 3, 3) := by decide +kernel
theorem d_C_init_4 : decode b_C_init 4 = .ok (.aload_n 0, 1) := by decide +kernel
theorem d_C_init_5 : decode b_C_init 5 = .ok (.bipush 6, 2) := by decide +kernel
theorem d_C_init_7 : decode b_C_init 7 = .ok (.anewarray 9, 3) := by decide +kernel
theorem d_C_init_10 : decode b_C_init 10 = .ok (.putfield 11, 3) := by decide +kernel
theorem d_C_init_13 : decode b_C_init 13 = .ok (.iconst 0, 1) := by decide +kernel
theorem d_C_init_14 : decode b_C_init 14 = .ok (.istore_n 1, 1) := by decide +kernel
theorem d_C_init_15 : decode b_C_init 15 = .ok (.iload_n 1, 1) := by decide +kernel
theorem d_C_init_16 : decode b_C_init 16 = .ok (.bipush 6, 2) := by decide +kernel
theorem d_C_init_18 : decode b_C_init 18 = .ok (.if_icmp .ge 22, 3) := by decide +kernel
theorem d_C_init_21 : decode b_C_init 21 = .ok (.aload_n 0, 1) := by decide +kernel
theorem d_C_init_22 : decode b_C_init 22 = .ok (.getfield 11, 3) := by decide +kernel
theorem d_C_init_25 : decode b_C_init 25 = .ok (.iload_n 1, 1) := by decide +kernel
theorem d_C_init_26 : decode b_C_init 26 = .ok (.new 9, 3) := by decide +kernel
theorem d_C_init_29 : decode b_C_init 29 = .ok (.dup, 1) := by decide +kernel
theorem d_C_init_30 : decode b_C_init 30 = .ok (.invokespecial 17, 3) := by decide +kernel
theorem d_C_init_33 : decode b_C_init 33 = .ok (.aastore, 1) := by decide +kernel
theorem d_C_init_34 : decode b_C_init 34 = .ok (.iinc 1 1, 3) := by decide +kernel
theorem d_C_init_37 : decode b_C_init 37 = .ok (.goto (-22), 3) := by decide +kernel
theorem d_C_init_40 : decode b_C_init 40 = .ok (.aload_n 0, 1) := by decide +kernel
theorem d_C_init_41 : decode b_C_init 41 = .ok (.bipush 8, 2) := by decide +kernel
theorem d_C_init_43 : decode b_C_init 43 = .ok (.anewarray 18, 3) := by decide +kernel
theorem d_C_init_46 : decode b_C_init 46 = .ok (.putfield 20, 3) := by decide +kernel
theorem d_C_init_49 : decode b_C_init 49 = .ok (.iconst 0, 1) := by decide +kernel
theorem d_C_init_50 : decode b_C_init 50 = .ok (.istore_n 1, 1) := by decide +kernel
theorem d_C_init_51 : decode b_C_init 51 = .ok (.iload_n 1, 1) := by decide +kernel
theorem d_C_init_52 : decode b_C_init 52 = .ok (.bipush 8, 2) := by decide +kernel
theorem d_C_init_54 : decode b_C_init 54 = .ok (.if_icmp .ge 22, 3) := by decide +kernel
theorem d_C_init_57 : decode b_C_init 57 = .ok (.aload_n 0, 1) := by decide +kernel
theorem d_C_init_58 : decode b_C_init 58 = .ok (.getfield 20, 3) := by decide +kernel
theorem d_C_init_61 : decode b_C_init 61 = .ok (.iload_n 1, 1) := by decide +kernel
theorem d_C_init_62 : decode b_C_init 62 = .ok (.new 18, 3) := by decide +kernel
theorem d_C_init_65 : decode b_C_init 65 = .ok (.dup, 1) := by decide +kernel
theorem d_C_init_66 : decode b_C_init 66 = .ok (.invokespecial 24, 3) := by decide +kernel
theorem d_C_init_69 : decode b_C_init 69 = .ok (.aastore, 1) := by decide +kernel
theorem d_C_init_70 : decode b_C_init 70 = .ok (.iinc 1 1, 3) := by decide +kernel
theorem d_C_init_73 : decode b_C_init 73 = .ok (.goto (-22), 3) := by decide +kernel
theorem d_C_init_76 : decode b_C_init 76 = .ok (.return_, 1) := by decide +kernel
set_option maxRecDepth 20000 in
theorem ct_C_init (E : mm_En) (p : mm_H) : mm_MT E K_C_init [.ref p.length] (p ++ [.inr (1, [.null, .null])]) (mk_D (p ++ (hp_con p.length).map zc)) := by
  have loop2 : ∀ d i : Nat, i + d = 8 → ev_At E K_C_init 51 [some (.ref p.length), some (.int (nI i))] [] (p ++ mk_c2 p.length i) (8 + 3 * i) (56 + 14 * i) (mk_D (p ++ (hp_con p.length).map zc)) := by
    intro d
    induction d with
    | zero =>
      intro i hi
      have ei : i = 8 := by omega
      subst ei
      refine ev_iload_n (pc := 51) d_C_init_51 rfl rfl ?_
      refine ev_bipush (pc := 52) (v := 8) d_C_init_52 (by decide) ?_
      refine ev_icmp_ge (pc := 54) (tgt := 76) d_C_init_54 (by decide) (fun ha => ?_) (fun ha => ?_)
      rotate_left
      · exact absurd (Int32.le_refl _) ha
      rw [mk_c2e]
      exact ev_vret (pc := 76) d_C_init_76 rfl (by decide) (by decide) ⟨rfl, rfl⟩
    | succ d ih =>
      intro i hi
      have hlen : (p ++ mk_c2 p.length i).length = p.length + 9 + 3 * i := by rw [List.length_append, mk_c2l]; omega
      have hQ := ct_Q_init E (p ++ mk_c2 p.length i)
      rw [hlen] at hQ
      refine ev_iload_n (pc := 51) d_C_init_51 rfl rfl ?_
      refine ev_bipush (pc := 52) (v := 8) d_C_init_52 (by decide) ?_
      refine ev_icmp_ge (pc := 54) (tgt := 76) d_C_init_54 (by decide) (fun ha => ?_) (fun ha => ?_)
      · exact absurd ha (nI_ge (b := 8) (by omega) (by omega))
      refine ev_aload_n (pc := 57) d_C_init_57 rfl rfl (by first | rfl | exact mm_rk_rf _) ?_
      refine ev_getf (pc := 58) mm_cfs fl_C_20 (gx0 _ _) rfl d_C_init_58 ?_
      refine ev_iload_n (pc := 61) d_C_init_61 rfl rfl ?_
      refine ev_new (pc := 62) mm_cfs nc_C_18 d_C_init_62 (show 8 + 3 * i + 1 ≤ 32 by omega) (show 56 + 14 * i + 4 ≤ 168 by omega) ?_
      rw [hlen]
      refine ev_dup (pc := 65) d_C_init_65 (by rfl) ?_
      refine ev_callI (pc := 66) hQ rfl cl_C_24 jf_Q_init ji_Q_init ⟨(Nat.le_of_ble_eq_true rfl), (Nat.le_of_ble_eq_true rfl)⟩ rfl rfl (Nat.le_of_ble_eq_true rfl) d_C_init_66 (show 8 + 3 * i + 1 + 2 ≤ 32 ∧ 56 + 14 * i + 4 + 10 ≤ 168 by omega) (fun r h' hd => ?_)
      obtain ⟨rfl, rfl⟩ := hd
      have hj : ((p ++ mk_c2 p.length i) ++ [zc (hp_req (p.length + 9 + 3 * i)), zc (hp_row (p.length + 9 + 3 * i + 1)), zc (hp_ar 4)])[p.length + 9 + 3 * i]? = some (zc (hp_req (p.length + 9 + 3 * i))) := by
        rw [← hlen, gx0]
        rfl
      refine ev_aast (pc := 69) (t := 5) (n := 8) (f := fun j => (mk_q (p.length + 9) i)[j]?) (i := p.length + 8) rfl rfl (by rw [List.append_assoc, gx]; rfl) hj (vp_in_nI (by omega) (by decide)) d_C_init_69 (h' := p ++ mk_c2 p.length (i + 1)) ?_ ?_
      · rw [nI_clamp (by omega), up_rs _ _ (mk_ql _ _), ← mk_qs, List.append_assoc, sx]
        congr 1
        simp only [mk_c2, List.range_succ, List.flatMap_append, List.flatMap_cons, List.flatMap_nil, List.append_nil, List.append_assoc]
        rfl
      · refine ev_iinc (pc := 70) d_C_init_70 (Nat.le_of_ble_eq_true rfl) rfl (nx_inc _) rfl ?_
        try dsimp only [List.set]
        refine ev_goto (pc := 73) (tgt := 51) d_C_init_73 (by decide) ?_
        refine ev_eq rfl rfl rfl rfl ?_ ?_ (ih (i + 1) (by omega))
        · show 8 + 3 * i + 1 + 2 = 8 + 3 * (i + 1)
          omega
        · show 56 + 14 * i + 4 + 10 = 56 + 14 * (i + 1)
          omega
  have loop1 : ∀ d i : Nat, i + d = 6 → ev_At E K_C_init 15 [some (.ref p.length), some (.int (nI i))] [] (p ++ mk_c1 p.length i) (1 + i) (6 + 7 * i) (mk_D (p ++ (hp_con p.length).map zc)) := by
    intro d
    induction d with
    | zero =>
      intro i hi
      have ei : i = 6 := by omega
      subst ei
      refine ev_iload_n (pc := 15) d_C_init_15 rfl rfl ?_
      refine ev_bipush (pc := 16) (v := 6) d_C_init_16 (by decide) ?_
      refine ev_icmp_ge (pc := 18) (tgt := 40) d_C_init_18 (by decide) (fun ha => ?_) (fun ha => ?_)
      rotate_left
      · exact absurd (Int32.le_refl _) ha
      refine ev_aload_n (pc := 40) d_C_init_40 rfl rfl (by first | rfl | exact mm_rk_rf _) ?_
      refine ev_bipush (pc := 41) (v := 8) d_C_init_41 (by decide) ?_
      refine ev_newq (pc := 43) (t := 5) (N := 8) rfl na_C_18.1 na_C_18.2 d_C_init_43 (by decide) (by decide) (by decide) (by decide) (by decide) ?_
      have hlen : (p ++ mk_c1 p.length 6).length = p.length + 8 := by rw [List.length_append, mk_c1l]
      rw [hlen]
      refine ev_putF (pc := 46) (fs := [.ref (p.length + 1), .null]) mm_cfs rfl ff_C_20 (by rw [List.append_assoc, gx0]; rfl) (show 1 < 2 by decide) (by rfl) d_C_init_46 (h' := p ++ mk_c2 p.length 0) (by rw [List.append_assoc, sx0]; rfl) ?_
      refine ev_iconst (pc := 49) (v := 0) d_C_init_49 rfl ?_
      refine ev_istore_n (pc := 50) d_C_init_50 rfl (Nat.le_of_ble_eq_true rfl) rfl ?_
      try dsimp only [List.set]
      exact loop2 8 0 (by omega)
    | succ d ih =>
      intro i hi
      have hlen : (p ++ mk_c1 p.length i).length = p.length + 2 + i := by rw [List.length_append, mk_c1l]; omega
      refine ev_iload_n (pc := 15) d_C_init_15 rfl rfl ?_
      refine ev_bipush (pc := 16) (v := 6) d_C_init_16 (by decide) ?_
      refine ev_icmp_ge (pc := 18) (tgt := 40) d_C_init_18 (by decide) (fun ha => ?_) (fun ha => ?_)
      · exact absurd ha (nI_ge (b := 6) (by omega) (by omega))
      refine ev_aload_n (pc := 21) d_C_init_21 rfl rfl (by first | rfl | exact mm_rk_rf _) ?_
      refine ev_getf (pc := 22) mm_cfs fl_C_11 (gx0 _ _) rfl d_C_init_22 ?_
      refine ev_iload_n (pc := 25) d_C_init_25 rfl rfl ?_
      refine ev_new (pc := 26) mm_cfs nc_C_9 d_C_init_26 (show 1 + i + 1 ≤ 32 by omega) (show 6 + 7 * i + 7 ≤ 168 by omega) ?_
      rw [hlen]
      refine ev_dup (pc := 29) d_C_init_29 (by rfl) ?_
      refine ev_callI (pc := 30) (ct_F_init E _ _) rfl cl_C_17 jf_F_init ji_F_init ⟨(Nat.le_of_ble_eq_true rfl), (Nat.le_of_ble_eq_true rfl)⟩ rfl rfl (Nat.le_of_ble_eq_true rfl) d_C_init_30 (show 1 + i + 1 + 0 ≤ 32 ∧ 6 + 7 * i + 7 + 0 ≤ 168 by omega) (fun r h' hd => ?_)
      obtain ⟨rfl, rfl⟩ := hd
      have hj : ((p ++ mk_c1 p.length i) ++ [.inr (2, [.int 0, .int 0, .int 0, .int 0, .int 0, .int 0, .int 0])])[p.length + 2 + i]? = some (.inr (2, [.int 0, .int 0, .int 0, .int 0, .int 0, .int 0, .int 0])) := by
        rw [← hlen, gx0]
        rfl
      refine ev_aast (pc := 33) (t := 4) (n := 6) (f := fun j => (mk_f (p.length + 2) i)[j]?) (i := p.length + 1) rfl rfl (by rw [List.append_assoc, gx]; rfl) hj (vp_in_nI (by omega) (by decide)) d_C_init_33 (h' := p ++ mk_c1 p.length (i + 1)) ?_ ?_
      · rw [nI_clamp (by omega), up_rs _ _ (mk_fl _ _), ← mk_fs, List.append_assoc, sx]
        congr 1
        simp only [mk_c1, List.replicate_succ', List.cons_append]
        rfl
      · refine ev_iinc (pc := 34) d_C_init_34 (Nat.le_of_ble_eq_true rfl) rfl (nx_inc _) rfl ?_
        try dsimp only [List.set]
        refine ev_goto (pc := 37) (tgt := 15) d_C_init_37 (by decide) ?_
        refine ev_eq rfl rfl rfl rfl ?_ ?_ (ih (i + 1) (by omega))
        · show 1 + i + 1 + 0 = 1 + (i + 1)
          omega
        · show 6 + 7 * i + 7 + 0 = 6 + 7 * (i + 1)
          omega
  refine mm_mtL (by decide) (by rfl) (Nat.le_of_ble_eq_true rfl) rfl ?_
  refine ev_aload_n (pc := 0) d_C_init_0 rfl rfl (by first | rfl | exact mm_rk_rf _) ?_
  refine ev_objI (pc := 1) cl_C_3 ob_1 ob_2 d_C_init_1 (by decide) (by decide) ?_
  refine ev_aload_n (pc := 4) d_C_init_4 rfl rfl (by first | rfl | exact mm_rk_rf _) ?_
  refine ev_bipush (pc := 5) (v := 6) d_C_init_5 (by decide) ?_
  refine ev_newq (pc := 7) (t := 4) (N := 6) rfl na_C_9.1 na_C_9.2 d_C_init_7 (by decide) (by decide) (by decide) (by decide) (by decide) ?_
  rw [lx]
  refine ev_putF (pc := 10) (fs := [.null, .null]) mm_cfs rfl ff_C_11 (by rw [List.append_assoc, gx0]; rfl) (by decide) (by rfl) d_C_init_10 (h' := p ++ mk_c1 p.length 0) (by rw [List.append_assoc, sx0]; rfl) ?_
  refine ev_iconst (pc := 13) (v := 0) d_C_init_13 rfl ?_
  refine ev_istore_n (pc := 14) d_C_init_14 rfl (Nat.le_of_ble_eq_true rfl) rfl ?_
  try dsimp only [List.set]
  exact loop1 6 0 (by omega)
