/-! Constructors: the heap as a list that grows. p: the cells before; a fresh object is the last cell. -/
def zc (s : hp_T) : mm_E := hp_c s (fun _ => 0)
theorem gx (p l : mm_H) (k : Nat) : (p ++ l)[p.length + k]? = l[k]? := by
  rw [List.getElem?_append_right (Nat.le_add_right _ _), Nat.add_sub_cancel_left]
theorem gx0 (p l : mm_H) : (p ++ l)[p.length]? = l[0]? := gx p l 0
theorem sx (p l : mm_H) (k : Nat) (v : mm_E) : (p ++ l).set (p.length + k) v = p ++ l.set k v := by
  rw [List.set_append_right _ _ (Nat.le_add_right _ _), Nat.add_sub_cancel_left]
theorem sx0 (p l : mm_H) (v : mm_E) : (p ++ l).set p.length v = p ++ l.set 0 v := sx p l 0 v
theorem lx (p : mm_H) (a : mm_E) : (p ++ [a]).length = p.length + 1 := by simp
def mk_D (h' : mm_H) : Option Value → mm_H → Prop := fun r h => r = none ∧ h = h'
theorem d_R_init_0 : decode b_R_init 0 = .ok (.aload_n 0, 1) := by decide +kernel
theorem d_R_init_1 : decode b_R_init 1 = .ok (.invokespecial 1, 3) := by decide +kernel
theorem d_R_init_4 : decode b_R_init 4 = .ok (.aload_n 0, 1) := by decide +kernel
theorem d_R_init_5 : decode b_R_init 5 = .ok (.iload_n 1, 1) := by decide +kernel
theorem d_R_init_6 : decode b_R_init 6 = .ok (.newarray .int, 2) := by decide +kernel
theorem d_R_init_8 : decode b_R_init 8 = .ok (.putfield 7, 3) := by decide +kernel
theorem d_R_init_11 : decode b_R_init 11 = .ok (.return_, 1) := by decide +kernel
theorem ct_R_init (E : mm_En) (p : mm_H) {n : Nat} (hn : n ≤ 8) : mm_MT E K_R_init [.ref p.length, .int (nI n)] (p ++ [.inr (5, [.null, .int 0])]) (mk_D (p ++ [zc (hp_row p.length), zc (hp_ar n)])) := by
  refine mm_mtL (by decide) (by rfl) (Nat.le_of_ble_eq_true rfl) rfl ?_
  refine ev_aload_n (pc := 0) d_R_init_0 rfl rfl (by first | rfl | exact mm_rk_rf _) ?_
  refine ev_objI (pc := 1) cl_R_1 ob_1 ob_2 d_R_init_1 (by decide) (by decide) ?_
  refine ev_aload_n (pc := 4) d_R_init_4 rfl rfl (by first | rfl | exact mm_rk_rf _) ?_
  refine ev_iload_n (pc := 5) d_R_init_5 rfl rfl ?_
  refine ev_newa (pc := 6) (t := 0) rfl (Or.inl ⟨rfl, rfl⟩) ac_I d_R_init_6 (nI_pos (by omega)) (nI_clamp (by omega)) (show n * 4 ≤ 536870912 by omega) (by decide) (show 0 + n ≤ 8 by omega) ?_
  rw [lx]
  refine ev_putF (pc := 8) (fs := [.null, .int 0]) mm_cfs rfl ff_R_7 (by rw [List.append_assoc, gx0]; rfl) (by decide) (by rfl) d_R_init_8 (by rw [List.append_assoc, sx0]) ?_
  exact ev_vret (pc := 11) d_R_init_11 rfl (by decide) (show 0 + n ≤ 8 by omega) ⟨rfl, rfl⟩
theorem d_B_init_0 : decode b_B_init 0 = .ok (.aload_n 0, 1) := by decide +kernel
theorem d_B_init_1 : decode b_B_init 1 = .ok (.invokespecial 3, 3) := by decide +kernel
theorem d_B_init_4 : decode b_B_init 4 = .ok (.aload_n 0, 1) := by decide +kernel
theorem d_B_init_5 : decode b_B_init 5 = .ok (.bipush 16, 2) := by decide +kernel
theorem d_B_init_7 : decode b_B_init 7 = .ok (.newarray .int, 2) := by decide +kernel
theorem d_B_init_9 : decode b_B_init 9 = .ok (.putfield 9, 3) := by decide +kernel
theorem d_B_init_12 : decode b_B_init 12 = .ok (.return_, 1) := by decide +kernel
theorem ct_B_init (E : mm_En) (p : mm_H) : mm_MT E K_B_init [.ref p.length] (p ++ [.inr (0, [.null, .int 0, .int 0, .int 0, .int 0, .int 0, .int 0, .int 0, .int 0, .int 0])]) (mk_D (p ++ [zc (hp_blk p.length), zc (hp_ar 16)])) := by
  refine mm_mtL (by decide) (by rfl) (Nat.le_of_ble_eq_true rfl) rfl ?_
  refine ev_aload_n (pc := 0) d_B_init_0 rfl rfl (by first | rfl | exact mm_rk_rf _) ?_
  refine ev_objI (pc := 1) cl_B_3 ob_1 ob_2 d_B_init_1 (by decide) (by decide) ?_
  refine ev_aload_n (pc := 4) d_B_init_4 rfl rfl (by first | rfl | exact mm_rk_rf _) ?_
  refine ev_bipush (pc := 5) (v := 16) d_B_init_5 (by decide) ?_
  refine ev_newa (pc := 7) (t := 0) (N := 16) rfl (Or.inl ⟨rfl, rfl⟩) ac_I d_B_init_7 (by decide) (by decide) (by decide) (by decide) (by decide) ?_
  rw [lx]
  refine ev_putF (pc := 9) (fs := [.null, .int 0, .int 0, .int 0, .int 0, .int 0, .int 0, .int 0, .int 0, .int 0]) mm_cfs rfl ff_B_9 (by rw [List.append_assoc, gx0]; rfl) (by decide) (by rfl) d_B_init_9 (by rw [List.append_assoc, sx0]) ?_
  exact ev_vret (pc := 12) d_B_init_12 rfl (by decide) (by decide) ⟨rfl, rfl⟩
theorem d_M_init_0 : decode b_M_init 0 = .ok (.aload_n 0, 1) := by decide +kernel
theorem d_M_init_1 : decode b_M_init 1 = .ok (.invokespecial 3, 3) := by decide +kernel
theorem d_M_init_4 : decode b_M_init 4 = .ok (.return_, 1) := by decide +kernel
theorem ct_M_init (E : mm_En) (i : Nat) (h : mm_H) : mm_MT E K_M_init [.ref i] h (mk_D h) := by
  refine mm_mtL (by decide) (by rfl) (Nat.le_of_ble_eq_true rfl) rfl ?_
  refine ev_aload_n (pc := 0) d_M_init_0 rfl rfl (by first | rfl | exact mm_rk_rf _) ?_
  refine ev_objI (pc := 1) cl_M_3 ob_1 ob_2 d_M_init_1 (by decide) (by decide) ?_
  exact ev_vret (pc := 4) d_M_init_4 rfl (by decide) (by decide) ⟨rfl, rfl⟩
theorem d_F_init_0 : decode b_F_init 0 = .ok (.aload_n 0, 1) := by decide +kernel
theorem d_F_init_1 : decode b_F_init 1 = .ok (.invokespecial 3, 3) := by decide +kernel
theorem d_F_init_4 : decode b_F_init 4 = .ok (.return_, 1) := by decide +kernel
theorem ct_F_init (E : mm_En) (i : Nat) (h : mm_H) : mm_MT E K_F_init [.ref i] h (mk_D h) := by
  refine mm_mtL (by decide) (by rfl) (Nat.le_of_ble_eq_true rfl) rfl ?_
  refine ev_aload_n (pc := 0) d_F_init_0 rfl rfl (by first | rfl | exact mm_rk_rf _) ?_
  refine ev_objI (pc := 1) cl_F_3 ob_1 ob_2 d_F_init_1 (by decide) (by decide) ?_
  exact ev_vret (pc := 4) d_F_init_4 rfl (by decide) (by decide) ⟨rfl, rfl⟩
theorem d_W_init_0 : decode b_W_init 0 = .ok (.aload_n 0, 1) := by decide +kernel
theorem d_W_init_1 : decode b_W_init 1 = .ok (.invokespecial 3, 3) := by decide +kernel
theorem d_W_init_4 : decode b_W_init 4 = .ok (.return_, 1) := by decide +kernel
theorem ct_W_init (E : mm_En) (i : Nat) (h : mm_H) : mm_MT E K_W_init [.ref i] h (mk_D h) := by
  refine mm_mtL (by decide) (by rfl) (Nat.le_of_ble_eq_true rfl) rfl ?_
  refine ev_aload_n (pc := 0) d_W_init_0 rfl rfl (by first | rfl | exact mm_rk_rf _) ?_
  refine ev_objI (pc := 1) cl_W_3 ob_1 ob_2 d_W_init_1 (by decide) (by decide) ?_
  exact ev_vret (pc := 4) d_W_init_4 rfl (by decide) (by decide) ⟨rfl, rfl⟩
theorem d_Q_init_0 : decode b_Q_init 0 = .ok (.aload_n 0, 1) := by decide +kernel
theorem d_Q_init_1 : decode b_Q_init 1 = .ok (.invokespecial 3, 3) := by decide +kernel
theorem d_Q_init_4 : decode b_Q_init 4 = .ok (.aload_n 0, 1) := by decide +kernel
theorem d_Q_init_5 : decode b_Q_init 5 = .ok (.new 9, 3) := by decide +kernel
theorem d_Q_init_8 : decode b_Q_init 8 = .ok (.dup, 1) := by decide +kernel
theorem d_Q_init_9 : decode b_Q_init 9 = .ok (.iconst 4, 1) := by decide +kernel
theorem d_Q_init_10 : decode b_Q_init 10 = .ok (.invokespecial 11, 3) := by decide +kernel
theorem d_Q_init_13 : decode b_Q_init 13 = .ok (.putfield 14, 3) := by decide +kernel
theorem d_Q_init_16 : decode b_Q_init 16 = .ok (.return_, 1) := by decide +kernel
theorem ct_Q_init (E : mm_En) (p : mm_H) : mm_MT E K_Q_init [.ref p.length] (p ++ [.inr (4, [.null, .int 0, .int 0, .int 0])]) (mk_D (p ++ [zc (hp_req p.length), zc (hp_row (p.length + 1)), zc (hp_ar 4)])) := by
  have hR := ct_R_init E (p ++ [.inr (4, [.null, .int 0, .int 0, .int 0])]) (n := 4) (by decide)
  rw [lx] at hR
  refine mm_mtL (by decide) (by rfl) (Nat.le_of_ble_eq_true rfl) rfl ?_
  refine ev_aload_n (pc := 0) d_Q_init_0 rfl rfl (by first | rfl | exact mm_rk_rf _) ?_
  refine ev_objI (pc := 1) cl_Q_3 ob_1 ob_2 d_Q_init_1 (by decide) (by decide) ?_
  refine ev_aload_n (pc := 4) d_Q_init_4 rfl rfl (by first | rfl | exact mm_rk_rf _) ?_
  refine ev_new (pc := 5) mm_cfs nc_Q_9 d_Q_init_5 (by decide) (by decide) ?_
  rw [lx]
  refine ev_dup (pc := 8) d_Q_init_8 (by rfl) ?_
  refine ev_iconst (pc := 9) (v := nI 4) d_Q_init_9 rfl ?_
  refine ev_callI (pc := 10) hR rfl cl_Q_11 jf_R_init ji_R_init ⟨(Nat.le_of_ble_eq_true rfl), (Nat.le_of_ble_eq_true rfl)⟩ rfl rfl (Nat.le_of_ble_eq_true rfl) d_Q_init_10 (by decide) (fun r h' hd => ?_)
  obtain ⟨rfl, rfl⟩ := hd
  refine ev_putF (pc := 13) (fs := [.null, .int 0, .int 0, .int 0]) mm_cfs rfl ff_Q_14 (by rw [List.append_assoc, gx0]; rfl) (by decide) (by rfl) d_Q_init_13 (by rw [List.append_assoc, sx0]) ?_
  exact ev_vret (pc := 16) d_Q_init_16 rfl (by decide) (by decide) ⟨rfl, rfl⟩
