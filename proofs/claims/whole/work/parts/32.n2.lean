/-! The reference's trees: tree t's nodes are the places k of its arrays with 20 t ≤ k < 20 t + many[t]. -/
def nm (C : Nat → Nat → Int32) (t : Nat) : Nat := (C 206 t).toNatClampNeg
def nm_ok (C : Nat → Nat → Int32) : Prop := ∀ t, t < 6 → nm C t ≤ 20 ∧ C 206 t = nI (nm C t)
def nv (C : Nat → Nat → Int32) (k : Nat) : Prop := k < 120 ∧ k % 20 < nm C (k / 20)
def nc_i (C : Nat → Nat → Int32) (t : Nat) (p : Int32) : Option Nat := fx_f (fun k => decide (C 207 k = p)) (nm C t) (20 * t)
theorem nc_c {C D : Nat → Nat → Int32} (h1 : D 206 = C 206) (h2 : D 207 = C 207) : nc_i D = nc_i C := by
  funext t p
  simp only [nc_i, nm, h1, h2]
theorem nc_v {C : Nat → Nat → Int32} {t j : Nat} {p : Int32} (ht : t < 6) (hm : nm_ok C) (h : nc_i C t p = some j) : j < 120 ∧ j / 20 = t ∧ nv C j ∧ C 207 j = p := by
  obtain ⟨h1, h2, h3⟩ := fx_f_some _ _ _ _ h
  have h4 := (hm t ht).1
  have h5 : j / 20 = t := by omega
  refine ⟨by omega, h5, ⟨by omega, ?_⟩, by simpa using h3⟩
  rw [h5]
  omega
theorem d_N_cell_0 : decode b_N_cell 0 = .ok (.bipush 20, 2) := by decide +kernel
theorem d_N_cell_2 : decode b_N_cell 2 = .ok (.iload_n 1, 1) := by decide +kernel
theorem d_N_cell_3 : decode b_N_cell 3 = .ok (.imul, 1) := by decide +kernel
theorem d_N_cell_4 : decode b_N_cell 4 = .ok (.istore_n 3, 1) := by decide +kernel
theorem d_N_cell_5 : decode b_N_cell 5 = .ok (.iload_n 3, 1) := by decide +kernel
theorem d_N_cell_6 : decode b_N_cell 6 = .ok (.bipush 20, 2) := by decide +kernel
theorem d_N_cell_8 : decode b_N_cell 8 = .ok (.iload_n 1, 1) := by decide +kernel
theorem d_N_cell_9 : decode b_N_cell 9 = .ok (.imul, 1) := by decide +kernel
theorem d_N_cell_10 : decode b_N_cell 10 = .ok (.aload_n 0, 1) := by decide +kernel
theorem d_N_cell_11 : decode b_N_cell 11 = .ok (.getfield 13, 3) := by decide +kernel
theorem d_N_cell_14 : decode b_N_cell 14 = .ok (.iload_n 1, 1) := by decide +kernel
theorem d_N_cell_15 : decode b_N_cell 15 = .ok (.iaload, 1) := by decide +kernel
theorem d_N_cell_16 : decode b_N_cell 16 = .ok (.iadd, 1) := by decide +kernel
theorem d_N_cell_17 : decode b_N_cell 17 = .ok (.if_icmp .ge 21, 3) := by decide +kernel
theorem d_N_cell_20 : decode b_N_cell 20 = .ok (.aload_n 0, 1) := by decide +kernel
theorem d_N_cell_21 : decode b_N_cell 21 = .ok (.getfield 17, 3) := by decide +kernel
theorem d_N_cell_24 : decode b_N_cell 24 = .ok (.iload_n 3, 1) := by decide +kernel
theorem d_N_cell_25 : decode b_N_cell 25 = .ok (.iaload, 1) := by decide +kernel
theorem d_N_cell_26 : decode b_N_cell 26 = .ok (.iload_n 2, 1) := by decide +kernel
theorem d_N_cell_27 : decode b_N_cell 27 = .ok (.if_icmp .ne 5, 3) := by decide +kernel
theorem d_N_cell_30 : decode b_N_cell 30 = .ok (.iload_n 3, 1) := by decide +kernel
theorem d_N_cell_31 : decode b_N_cell 31 = .ok (.ireturn, 1) := by decide +kernel
theorem d_N_cell_32 : decode b_N_cell 32 = .ok (.iinc 3 1, 3) := by decide +kernel
theorem d_N_cell_35 : decode b_N_cell 35 = .ok (.goto (-30), 3) := by decide +kernel
theorem d_N_cell_38 : decode b_N_cell 38 = .ok (.iconst (-1), 1) := by decide +kernel
theorem d_N_cell_39 : decode b_N_cell 39 = .ok (.ireturn, 1) := by decide +kernel
set_option maxRecDepth 20000 in
theorem ct_N_cell (E : mm_En) (C : Nat → Nat → Int32) (hm : nm_ok C) {t : Nat} (ht : t < 6) (p : Int32) : mm_MT E K_N_cell [.ref 204, .int (nI t), .int p] (hp_H C) (mm_D (some (.int (oI (nc_i C t p)))) C) := by
  obtain ⟨m20, em⟩ := hm t ht
  have loop : ∀ d i : Nat, 20 * t + nm C t - i = d → i ≤ 120 → ev_At E K_N_cell 5 [some (.ref 204), some (.int (nI t)), some (.int p), some (.int (nI i))] [] (hp_H C) 0 0 (mm_D (some (.int (oI (fx_f (fun k => decide (C 207 k = p)) d i)))) C) := by
    intro d
    induction d with
    | zero =>
      intro i hi h1
      refine ev_iload_n (pc := 5) d_N_cell_5 rfl rfl ?_
      refine ev_bipush (pc := 6) (v := nI 20) d_N_cell_6 (by decide) ?_
      refine ev_iload_n (pc := 8) d_N_cell_8 rfl rfl ?_
      first | refine ev_imulN (pc := 9) d_N_cell_9 ?_ | refine ev_imul (pc := 9) d_N_cell_9 ?_
      refine ev_aload_n (pc := 10) d_N_cell_10 rfl rfl (by first | rfl | exact mm_rk_rf _) ?_
      refine ev_gR (pc := 11) sh_N (by rfl) fl_N_13 d_N_cell_11 ?_
      refine ev_iload_n (pc := 14) d_N_cell_14 rfl rfl ?_
      refine ev_rIN (pc := 15) sh_N_many (by omega) (by decide) d_N_cell_15 ?_
      rw [em]
      first | refine ev_iaddN (pc := 16) d_N_cell_16 ?_ | refine ev_iadd (pc := 16) d_N_cell_16 ?_
      refine ev_icmp_ge (pc := 17) (tgt := 38) d_N_cell_17 (by decide) (fun ha => ?_) (fun ha => ?_)
      · refine ev_iconst (pc := 38) (v := -1) d_N_cell_38 rfl ?_
        exact ev_iret (pc := 39) d_N_cell_39 rfl (Nat.zero_le _) (Nat.zero_le _) ⟨rfl, rfl⟩
      · exact absurd (nI_le (by omega) (by omega)) ha
    | succ d ih =>
      intro i hi h1
      refine ev_iload_n (pc := 5) d_N_cell_5 rfl rfl ?_
      refine ev_bipush (pc := 6) (v := nI 20) d_N_cell_6 (by decide) ?_
      refine ev_iload_n (pc := 8) d_N_cell_8 rfl rfl ?_
      first | refine ev_imulN (pc := 9) d_N_cell_9 ?_ | refine ev_imul (pc := 9) d_N_cell_9 ?_
      refine ev_aload_n (pc := 10) d_N_cell_10 rfl rfl (by first | rfl | exact mm_rk_rf _) ?_
      refine ev_gR (pc := 11) sh_N (by rfl) fl_N_13 d_N_cell_11 ?_
      refine ev_iload_n (pc := 14) d_N_cell_14 rfl rfl ?_
      refine ev_rIN (pc := 15) sh_N_many (by omega) (by decide) d_N_cell_15 ?_
      rw [em]
      first | refine ev_iaddN (pc := 16) d_N_cell_16 ?_ | refine ev_iadd (pc := 16) d_N_cell_16 ?_
      refine ev_icmp_ge (pc := 17) (tgt := 38) d_N_cell_17 (by decide) (fun ha => ?_) (fun ha => ?_)
      · exact absurd ha (nI_ge (by omega) (by omega))
      refine ev_aload_n (pc := 20) d_N_cell_20 rfl rfl (by first | rfl | exact mm_rk_rf _) ?_
      refine ev_gR (pc := 21) sh_N (by rfl) fl_N_17 d_N_cell_21 ?_
      refine ev_iload_n (pc := 24) d_N_cell_24 rfl rfl ?_
      refine ev_rIN (pc := 25) sh_N_path (by omega) (by decide) d_N_cell_25 ?_
      refine ev_iload_n (pc := 26) d_N_cell_26 rfl rfl ?_
      refine ev_icmp_ne (pc := 27) (tgt := 32) d_N_cell_27 (by decide) (fun hb => ?_) (fun hb => ?_)
      · refine ev_iinc (pc := 32) d_N_cell_32 (Nat.le_of_ble_eq_true rfl) rfl (nx_inc _) rfl ?_
        try dsimp only [List.set]
        refine ev_goto (pc := 35) (tgt := 5) d_N_cell_35 (by decide) ?_
        have h2 := ih (i + 1) (by omega) (by omega)
        simp only [fx_f, hb]
        simpa using h2
      · refine ev_iload_n (pc := 30) d_N_cell_30 rfl rfl ?_
        exact ev_iret (pc := 31) d_N_cell_31 rfl (Nat.zero_le _) (Nat.zero_le _) ⟨by simp [fx_f, hb, oI], rfl⟩
  refine mm_mtL (by decide) (by rfl) (Nat.le_of_ble_eq_true rfl) rfl ?_
  refine ev_bipush (pc := 0) (v := nI 20) d_N_cell_0 (by decide) ?_
  refine ev_iload_n (pc := 2) d_N_cell_2 rfl rfl ?_
  first | refine ev_imulN (pc := 3) d_N_cell_3 ?_ | refine ev_imul (pc := 3) d_N_cell_3 ?_
  refine ev_istore_n (pc := 4) d_N_cell_4 rfl (Nat.le_of_ble_eq_true rfl) rfl ?_
  try dsimp only [List.set]
  have h2 := loop (nm C t) (20 * t) (by omega) (by omega)
  exact h2
theorem d_N_nodeOf_0 : decode b_N_nodeOf 0 = .ok (.aload_n 0, 1) := by decide +kernel
theorem d_N_nodeOf_1 : decode b_N_nodeOf 1 = .ok (.aload_n 0, 1) := by decide +kernel
theorem d_N_nodeOf_2 : decode b_N_nodeOf 2 = .ok (.getfield 57, 3) := by decide +kernel
theorem d_N_nodeOf_5 : decode b_N_nodeOf 5 = .ok (.iload_n 1, 1) := by decide +kernel
theorem d_N_nodeOf_6 : decode b_N_nodeOf 6 = .ok (.iaload, 1) := by decide +kernel
theorem d_N_nodeOf_7 : decode b_N_nodeOf 7 = .ok (.aload_n 0, 1) := by decide +kernel
theorem d_N_nodeOf_8 : decode b_N_nodeOf 8 = .ok (.getfield 60, 3) := by decide +kernel
theorem d_N_nodeOf_11 : decode b_N_nodeOf 11 = .ok (.iload_n 1, 1) := by decide +kernel
theorem d_N_nodeOf_12 : decode b_N_nodeOf 12 = .ok (.iaload, 1) := by decide +kernel
theorem d_N_nodeOf_13 : decode b_N_nodeOf 13 = .ok (.invokevirtual 151, 3) := by decide +kernel
theorem d_N_nodeOf_16 : decode b_N_nodeOf 16 = .ok (.ireturn, 1) := by decide +kernel
theorem ct_N_nodeOf (E : mm_En) (C : Nat → Nat → Int32) (hm : nm_ok C) {f t : Nat} (hf : f < 12) (ht : t < 6) (et : C 218 f = nI t) : mm_MT E K_N_nodeOf [.ref 204, .int (nI f)] (hp_H C) (mm_D (some (.int (oI (nc_i C t (C 219 f))))) C) := by
  refine mm_mtL (by decide) (by rfl) (Nat.le_of_ble_eq_true rfl) rfl ?_
  refine ev_aload_n (pc := 0) d_N_nodeOf_0 rfl rfl (by first | rfl | exact mm_rk_rf _) ?_
  refine ev_aload_n (pc := 1) d_N_nodeOf_1 rfl rfl (by first | rfl | exact mm_rk_rf _) ?_
  refine ev_gR (pc := 2) sh_N (by rfl) fl_N_57 d_N_nodeOf_2 ?_
  refine ev_iload_n (pc := 5) d_N_nodeOf_5 rfl rfl ?_
  refine ev_rIN (pc := 6) sh_N_tree (by omega) (by decide) d_N_nodeOf_6 ?_
  rw [et]
  refine ev_aload_n (pc := 7) d_N_nodeOf_7 rfl rfl (by first | rfl | exact mm_rk_rf _) ?_
  refine ev_gR (pc := 8) sh_N (by rfl) fl_N_60 d_N_nodeOf_8 ?_
  refine ev_iload_n (pc := 11) d_N_nodeOf_11 rfl rfl ?_
  refine ev_rIN (pc := 12) sh_N_at (by omega) (by decide) d_N_nodeOf_12 ?_
  refine ev_cV (pc := 13) (ct_N_cell E C hm ht _) cl_N_151 jv_N_cell ⟨(Nat.le_of_ble_eq_true rfl), (Nat.le_of_ble_eq_true rfl)⟩ rfl sh_N rfl (Nat.le_of_ble_eq_true rfl) d_N_nodeOf_13 ⟨Nat.zero_le _, Nat.zero_le _⟩ ?_
  exact ev_iret (pc := 16) d_N_nodeOf_16 rfl (Nat.zero_le _) (Nat.zero_le _) ⟨rfl, rfl⟩
def np_i (C : Nat → Nat → Int32) (k : Nat) : Option Nat := if C 208 k < 0 then some k else nc_i C (k / 20) (C 208 k)
theorem d_N_parent_0 : decode b_N_parent 0 = .ok (.aload_n 0, 1) := by decide +kernel
theorem d_N_parent_1 : decode b_N_parent 1 = .ok (.getfield 20, 3) := by decide +kernel
theorem d_N_parent_4 : decode b_N_parent 4 = .ok (.iload_n 1, 1) := by decide +kernel
theorem d_N_parent_5 : decode b_N_parent 5 = .ok (.iaload, 1) := by decide +kernel
theorem d_N_parent_6 : decode b_N_parent 6 = .ok (.ifCond .ge 7, 3) := by decide +kernel
theorem d_N_parent_9 : decode b_N_parent 9 = .ok (.iload_n 1, 1) := by decide +kernel
theorem d_N_parent_10 : decode b_N_parent 10 = .ok (.goto 17, 3) := by decide +kernel
theorem d_N_parent_13 : decode b_N_parent 13 = .ok (.aload_n 0, 1) := by decide +kernel
theorem d_N_parent_14 : decode b_N_parent 14 = .ok (.iload_n 1, 1) := by decide +kernel
theorem d_N_parent_15 : decode b_N_parent 15 = .ok (.bipush 20, 2) := by decide +kernel
theorem d_N_parent_17 : decode b_N_parent 17 = .ok (.idiv, 1) := by decide +kernel
theorem d_N_parent_18 : decode b_N_parent 18 = .ok (.aload_n 0, 1) := by decide +kernel
theorem d_N_parent_19 : decode b_N_parent 19 = .ok (.getfield 20, 3) := by decide +kernel
theorem d_N_parent_22 : decode b_N_parent 22 = .ok (.iload_n 1, 1) := by decide +kernel
theorem d_N_parent_23 : decode b_N_parent 23 = .ok (.iaload, 1) := by decide +kernel
theorem d_N_parent_24 : decode b_N_parent 24 = .ok (.invokevirtual 151, 3) := by decide +kernel
theorem d_N_parent_27 : decode b_N_parent 27 = .ok (.ireturn, 1) := by decide +kernel
theorem ct_N_parent (E : mm_En) (C : Nat → Nat → Int32) (hm : nm_ok C) {k : Nat} (hk : k < 120) : mm_MT E K_N_parent [.ref 204, .int (nI k)] (hp_H C) (mm_D (some (.int (oI (np_i C k)))) C) := by
  refine mm_mtL (by decide) (by rfl) (Nat.le_of_ble_eq_true rfl) rfl ?_
  refine ev_aload_n (pc := 0) d_N_parent_0 rfl rfl (by first | rfl | exact mm_rk_rf _) ?_
  refine ev_gR (pc := 1) sh_N (by rfl) fl_N_20 d_N_parent_1 ?_
  refine ev_iload_n (pc := 4) d_N_parent_4 rfl rfl ?_
  refine ev_rIN (pc := 5) sh_N_above (by omega) (by decide) d_N_parent_5 ?_
  refine ev_if_ge (pc := 6) (tgt := 13) d_N_parent_6 (by decide) (fun ha => ?_) (fun ha => ?_)
  · have ha' : ¬ C 208 k < 0 := Int32.not_lt.mpr ha
    refine ev_aload_n (pc := 13) d_N_parent_13 rfl rfl (by first | rfl | exact mm_rk_rf _) ?_
    refine ev_iload_n (pc := 14) d_N_parent_14 rfl rfl ?_
    refine ev_bipush (pc := 15) (v := nI 20) d_N_parent_15 (by decide) ?_
    refine ev_idivN (pc := 17) d_N_parent_17 (by omega) (by decide) ?_
    refine ev_aload_n (pc := 18) d_N_parent_18 rfl rfl (by first | rfl | exact mm_rk_rf _) ?_
    refine ev_gR (pc := 19) sh_N (by rfl) fl_N_20 d_N_parent_19 ?_
    refine ev_iload_n (pc := 22) d_N_parent_22 rfl rfl ?_
    refine ev_rIN (pc := 23) sh_N_above (by omega) (by decide) d_N_parent_23 ?_
    refine ev_cV (pc := 24) (ct_N_cell E C hm (t := k / 20) (by omega) _) cl_N_151 jv_N_cell ⟨(Nat.le_of_ble_eq_true rfl), (Nat.le_of_ble_eq_true rfl)⟩ rfl sh_N rfl (Nat.le_of_ble_eq_true rfl) d_N_parent_24 ⟨Nat.zero_le _, Nat.zero_le _⟩ ?_
    exact ev_iret (pc := 27) d_N_parent_27 rfl (Nat.zero_le _) (Nat.zero_le _) ⟨by rw [np_i, if_neg ha'], rfl⟩
  · have ha' : C 208 k < 0 := Int32.not_le.mp ha
    refine ev_iload_n (pc := 9) d_N_parent_9 rfl rfl ?_
    refine ev_goto (pc := 10) (tgt := 27) d_N_parent_10 (by decide) ?_
    exact ev_iret (pc := 27) d_N_parent_27 rfl (Nat.zero_le _) (Nat.zero_le _) ⟨by rw [np_i, if_pos ha']; rfl, rfl⟩
def nh_i (C : Nat → Nat → Int32) (k : Nat) (x : Int32) : Option Nat := fx_f (fun c => decide (C 208 c = C 207 k ∧ C 209 c = x)) (nm C (k / 20) - 1) (20 * (k / 20) + 1)
theorem d_N_child_0 : decode b_N_child 0 = .ok (.iload_n 1, 1) := by decide +kernel
theorem d_N_child_1 : decode b_N_child 1 = .ok (.bipush 20, 2) := by decide +kernel
theorem d_N_child_3 : decode b_N_child 3 = .ok (.idiv, 1) := by decide +kernel
theorem d_N_child_4 : decode b_N_child 4 = .ok (.istore_n 3, 1) := by decide +kernel
theorem d_N_child_5 : decode b_N_child 5 = .ok (.bipush 20, 2) := by decide +kernel
theorem d_N_child_7 : decode b_N_child 7 = .ok (.iload_n 3, 1) := by decide +kernel
theorem d_N_child_8 : decode b_N_child 8 = .ok (.imul, 1) := by decide +kernel
theorem d_N_child_9 : decode b_N_child 9 = .ok (.iconst 1, 1) := by decide +kernel
theorem d_N_child_10 : decode b_N_child 10 = .ok (.iadd, 1) := by decide +kernel
theorem d_N_child_11 : decode b_N_child 11 = .ok (.istore 4, 2) := by decide +kernel
theorem d_N_child_13 : decode b_N_child 13 = .ok (.iload 4, 2) := by decide +kernel
theorem d_N_child_15 : decode b_N_child 15 = .ok (.bipush 20, 2) := by decide +kernel
theorem d_N_child_17 : decode b_N_child 17 = .ok (.iload_n 3, 1) := by decide +kernel
theorem d_N_child_18 : decode b_N_child 18 = .ok (.imul, 1) := by decide +kernel
theorem d_N_child_19 : decode b_N_child 19 = .ok (.aload_n 0, 1) := by decide +kernel
theorem d_N_child_20 : decode b_N_child 20 = .ok (.getfield 13, 3) := by decide +kernel
theorem d_N_child_23 : decode b_N_child 23 = .ok (.iload_n 3, 1) := by decide +kernel
theorem d_N_child_24 : decode b_N_child 24 = .ok (.iaload, 1) := by decide +kernel
theorem d_N_child_25 : decode b_N_child 25 = .ok (.iadd, 1) := by decide +kernel
theorem d_N_child_26 : decode b_N_child 26 = .ok (.if_icmp .ge 39, 3) := by decide +kernel
theorem d_N_child_29 : decode b_N_child 29 = .ok (.aload_n 0, 1) := by decide +kernel
theorem d_N_child_30 : decode b_N_child 30 = .ok (.getfield 20, 3) := by decide +kernel
theorem d_N_child_33 : decode b_N_child 33 = .ok (.iload 4, 2) := by decide +kernel
theorem d_N_child_35 : decode b_N_child 35 = .ok (.iaload, 1) := by decide +kernel
theorem d_N_child_36 : decode b_N_child 36 = .ok (.aload_n 0, 1) := by decide +kernel
theorem d_N_child_37 : decode b_N_child 37 = .ok (.getfield 17, 3) := by decide +kernel
theorem d_N_child_40 : decode b_N_child 40 = .ok (.iload_n 1, 1) := by decide +kernel
theorem d_N_child_41 : decode b_N_child 41 = .ok (.iaload, 1) := by decide +kernel
theorem d_N_child_42 : decode b_N_child 42 = .ok (.if_icmp .ne 17, 3) := by decide +kernel
theorem d_N_child_45 : decode b_N_child 45 = .ok (.aload_n 0, 1) := by decide +kernel
theorem d_N_child_46 : decode b_N_child 46 = .ok (.getfield 23, 3) := by decide +kernel
theorem d_N_child_49 : decode b_N_child 49 = .ok (.iload 4, 2) := by decide +kernel
theorem d_N_child_51 : decode b_N_child 51 = .ok (.iaload, 1) := by decide +kernel
theorem d_N_child_52 : decode b_N_child 52 = .ok (.iload_n 2, 1) := by decide +kernel
theorem d_N_child_53 : decode b_N_child 53 = .ok (.if_icmp .ne 6, 3) := by decide +kernel
theorem d_N_child_56 : decode b_N_child 56 = .ok (.iload 4, 2) := by decide +kernel
theorem d_N_child_58 : decode b_N_child 58 = .ok (.ireturn, 1) := by decide +kernel
theorem d_N_child_59 : decode b_N_child 59 = .ok (.iinc 4 1, 3) := by decide +kernel
theorem d_N_child_62 : decode b_N_child 62 = .ok (.goto (-49), 3) := by decide +kernel
theorem d_N_child_65 : decode b_N_child 65 = .ok (.iconst (-1), 1) := by decide +kernel
theorem d_N_child_66 : decode b_N_child 66 = .ok (.ireturn, 1) := by decide +kernel
set_option maxRecDepth 20000 in
theorem ct_N_child (E : mm_En) (C : Nat → Nat → Int32) (hm : nm_ok C) {k : Nat} (hk : k < 120) (x : Int32) : mm_MT E K_N_child [.ref 204, .int (nI k), .int x] (hp_H C) (mm_D (some (.int (oI (nh_i C k x)))) C) := by
  obtain ⟨t, et⟩ : ∃ t, t = k / 20 := ⟨_, rfl⟩
  have ht : t < 6 := by omega
  obtain ⟨m20, em⟩ := hm t ht
  have loop : ∀ d i : Nat, 20 * t + nm C t - i = d → i ≤ 120 → ev_At E K_N_child 13 [some (.ref 204), some (.int (nI k)), some (.int x), some (.int (nI t)), some (.int (nI i))] [] (hp_H C) 0 0 (mm_D (some (.int (oI (fx_f (fun c => decide (C 208 c = C 207 k ∧ C 209 c = x)) d i)))) C) := by
    intro d
    induction d with
    | zero =>
      intro i hi h1
      refine ev_iload (pc := 13) d_N_child_13 rfl ?_
      refine ev_bipush (pc := 15) (v := nI 20) d_N_child_15 (by decide) ?_
      refine ev_iload_n (pc := 17) d_N_child_17 rfl rfl ?_
      first | refine ev_imulN (pc := 18) d_N_child_18 ?_ | refine ev_imul (pc := 18) d_N_child_18 ?_
      refine ev_aload_n (pc := 19) d_N_child_19 rfl rfl (by first | rfl | exact mm_rk_rf _) ?_
      refine ev_gR (pc := 20) sh_N (by rfl) fl_N_13 d_N_child_20 ?_
      refine ev_iload_n (pc := 23) d_N_child_23 rfl rfl ?_
      refine ev_rIN (pc := 24) sh_N_many (by omega) (by decide) d_N_child_24 ?_
      rw [em]
      first | refine ev_iaddN (pc := 25) d_N_child_25 ?_ | refine ev_iadd (pc := 25) d_N_child_25 ?_
      refine ev_icmp_ge (pc := 26) (tgt := 65) d_N_child_26 (by decide) (fun ha => ?_) (fun ha => ?_)
      · refine ev_iconst (pc := 65) (v := -1) d_N_child_65 rfl ?_
        exact ev_iret (pc := 66) d_N_child_66 rfl (Nat.zero_le _) (Nat.zero_le _) ⟨rfl, rfl⟩
      · exact absurd (nI_le (by omega) (by omega)) ha
    | succ d ih =>
      intro i hi h1
      refine ev_iload (pc := 13) d_N_child_13 rfl ?_
      refine ev_bipush (pc := 15) (v := nI 20) d_N_child_15 (by decide) ?_
      refine ev_iload_n (pc := 17) d_N_child_17 rfl rfl ?_
      first | refine ev_imulN (pc := 18) d_N_child_18 ?_ | refine ev_imul (pc := 18) d_N_child_18 ?_
      refine ev_aload_n (pc := 19) d_N_child_19 rfl rfl (by first | rfl | exact mm_rk_rf _) ?_
      refine ev_gR (pc := 20) sh_N (by rfl) fl_N_13 d_N_child_20 ?_
      refine ev_iload_n (pc := 23) d_N_child_23 rfl rfl ?_
      refine ev_rIN (pc := 24) sh_N_many (by omega) (by decide) d_N_child_24 ?_
      rw [em]
      first | refine ev_iaddN (pc := 25) d_N_child_25 ?_ | refine ev_iadd (pc := 25) d_N_child_25 ?_
      refine ev_icmp_ge (pc := 26) (tgt := 65) d_N_child_26 (by decide) (fun ha => ?_) (fun ha => ?_)
      · exact absurd ha (nI_ge (by omega) (by omega))
      refine ev_aload_n (pc := 29) d_N_child_29 rfl rfl (by first | rfl | exact mm_rk_rf _) ?_
      refine ev_gR (pc := 30) sh_N (by rfl) fl_N_20 d_N_child_30 ?_
      refine ev_iload (pc := 33) d_N_child_33 rfl ?_
      refine ev_rIN (pc := 35) sh_N_above (by omega) (by decide) d_N_child_35 ?_
      refine ev_aload_n (pc := 36) d_N_child_36 rfl rfl (by first | rfl | exact mm_rk_rf _) ?_
      refine ev_gR (pc := 37) sh_N (by rfl) fl_N_17 d_N_child_37 ?_
      refine ev_iload_n (pc := 40) d_N_child_40 rfl rfl ?_
      refine ev_rIN (pc := 41) sh_N_path (by omega) (by decide) d_N_child_41 ?_
      refine ev_icmp_ne (pc := 42) (tgt := 59) d_N_child_42 (by decide) (fun hb => ?_) (fun hb => ?_)
      · refine ev_iinc (pc := 59) d_N_child_59 (Nat.le_of_ble_eq_true rfl) rfl (nx_inc _) rfl ?_
        try dsimp only [List.set]
        refine ev_goto (pc := 62) (tgt := 13) d_N_child_62 (by decide) ?_
        have h2 := ih (i + 1) (by omega) (by omega)
        simp only [fx_f, hb]
        simpa using h2
      refine ev_aload_n (pc := 45) d_N_child_45 rfl rfl (by first | rfl | exact mm_rk_rf _) ?_
      refine ev_gR (pc := 46) sh_N (by rfl) fl_N_23 d_N_child_46 ?_
      refine ev_iload (pc := 49) d_N_child_49 rfl ?_
      refine ev_rIN (pc := 51) sh_N_title (by omega) (by decide) d_N_child_51 ?_
      refine ev_iload_n (pc := 52) d_N_child_52 rfl rfl ?_
      refine ev_icmp_ne (pc := 53) (tgt := 59) d_N_child_53 (by decide) (fun hd => ?_) (fun hd => ?_)
      · refine ev_iinc (pc := 59) d_N_child_59 (Nat.le_of_ble_eq_true rfl) rfl (nx_inc _) rfl ?_
        try dsimp only [List.set]
        refine ev_goto (pc := 62) (tgt := 13) d_N_child_62 (by decide) ?_
        have h2 := ih (i + 1) (by omega) (by omega)
        simp only [fx_f, hd]
        simpa using h2
      · refine ev_iload (pc := 56) d_N_child_56 rfl ?_
        exact ev_iret (pc := 58) d_N_child_58 rfl (Nat.zero_le _) (Nat.zero_le _) ⟨by simp [fx_f, hb, hd, oI], rfl⟩
  refine mm_mtL (by decide) (by rfl) (Nat.le_of_ble_eq_true rfl) rfl ?_
  refine ev_iload_n (pc := 0) d_N_child_0 rfl rfl ?_
  refine ev_bipush (pc := 1) (v := nI 20) d_N_child_1 (by decide) ?_
  refine ev_idivN (pc := 3) d_N_child_3 (by omega) (by decide) ?_
  rw [← et]
  refine ev_istore_n (pc := 4) d_N_child_4 rfl (Nat.le_of_ble_eq_true rfl) rfl ?_
  try dsimp only [List.set]
  refine ev_bipush (pc := 5) (v := nI 20) d_N_child_5 (by decide) ?_
  refine ev_iload_n (pc := 7) d_N_child_7 rfl rfl ?_
  first | refine ev_imulN (pc := 8) d_N_child_8 ?_ | refine ev_imul (pc := 8) d_N_child_8 ?_
  refine ev_iconst (pc := 9) (v := nI 1) d_N_child_9 rfl ?_
  first | refine ev_iaddN (pc := 10) d_N_child_10 ?_ | refine ev_iadd (pc := 10) d_N_child_10 ?_
  refine ev_istore (pc := 11) d_N_child_11 (Nat.le_of_ble_eq_true rfl) rfl ?_
  try dsimp only [List.set]
  have h2 := loop (nm C t - 1) (20 * t + 1) (by omega) (by omega)
  rw [nh_i, ← et]
  exact h2
def nk_n (C : Nat → Nat → Int32) (k : Nat) : Nat := fx_c (fun c => decide (C 208 c = C 207 k)) (nm C (k / 20) - 1) (20 * (k / 20) + 1)
theorem d_N_children_0 : decode b_N_children 0 = .ok (.iload_n 1, 1) := by decide +kernel
theorem d_N_children_1 : decode b_N_children 1 = .ok (.bipush 20, 2) := by decide +kernel
theorem d_N_children_3 : decode b_N_children 3 = .ok (.idiv, 1) := by decide +kernel
theorem d_N_children_4 : decode b_N_children 4 = .ok (.istore_n 2, 1) := by decide +kernel
theorem d_N_children_5 : decode b_N_children 5 = .ok (.iconst 0, 1) := by decide +kernel
theorem d_N_children_6 : decode b_N_children 6 = .ok (.istore_n 3, 1) := by decide +kernel
theorem d_N_children_7 : decode b_N_children 7 = .ok (.bipush 20, 2) := by decide +kernel
theorem d_N_children_9 : decode b_N_children 9 = .ok (.iload_n 2, 1) := by decide +kernel
theorem d_N_children_10 : decode b_N_children 10 = .ok (.imul, 1) := by decide +kernel
theorem d_N_children_11 : decode b_N_children 11 = .ok (.iconst 1, 1) := by decide +kernel
theorem d_N_children_12 : decode b_N_children 12 = .ok (.iadd, 1) := by decide +kernel
theorem d_N_children_13 : decode b_N_children 13 = .ok (.istore 4, 2) := by decide +kernel
theorem d_N_children_15 : decode b_N_children 15 = .ok (.iload 4, 2) := by decide +kernel
theorem d_N_children_17 : decode b_N_children 17 = .ok (.bipush 20, 2) := by decide +kernel
theorem d_N_children_19 : decode b_N_children 19 = .ok (.iload_n 2, 1) := by decide +kernel
theorem d_N_children_20 : decode b_N_children 20 = .ok (.imul, 1) := by decide +kernel
theorem d_N_children_21 : decode b_N_children 21 = .ok (.aload_n 0, 1) := by decide +kernel
theorem d_N_children_22 : decode b_N_children 22 = .ok (.getfield 13, 3) := by decide +kernel
theorem d_N_children_25 : decode b_N_children 25 = .ok (.iload_n 2, 1) := by decide +kernel
theorem d_N_children_26 : decode b_N_children 26 = .ok (.iaload, 1) := by decide +kernel
theorem d_N_children_27 : decode b_N_children 27 = .ok (.iadd, 1) := by decide +kernel
theorem d_N_children_28 : decode b_N_children 28 = .ok (.if_icmp .ge 33, 3) := by decide +kernel
theorem d_N_children_31 : decode b_N_children 31 = .ok (.iload_n 3, 1) := by decide +kernel
theorem d_N_children_32 : decode b_N_children 32 = .ok (.aload_n 0, 1) := by decide +kernel
theorem d_N_children_33 : decode b_N_children 33 = .ok (.getfield 20, 3) := by decide +kernel
theorem d_N_children_36 : decode b_N_children 36 = .ok (.iload 4, 2) := by decide +kernel
theorem d_N_children_38 : decode b_N_children 38 = .ok (.iaload, 1) := by decide +kernel
theorem d_N_children_39 : decode b_N_children 39 = .ok (.aload_n 0, 1) := by decide +kernel
theorem d_N_children_40 : decode b_N_children 40 = .ok (.getfield 17, 3) := by decide +kernel
theorem d_N_children_43 : decode b_N_children 43 = .ok (.iload_n 1, 1) := by decide +kernel
theorem d_N_children_44 : decode b_N_children 44 = .ok (.iaload, 1) := by decide +kernel
theorem d_N_children_45 : decode b_N_children 45 = .ok (.if_icmp .ne 7, 3) := by decide +kernel
theorem d_N_children_48 : decode b_N_children 48 = .ok (.iconst 1, 1) := by decide +kernel
theorem d_N_children_49 : decode b_N_children 49 = .ok (.goto 4, 3) := by decide +kernel
theorem d_N_children_52 : decode b_N_children 52 = .ok (.iconst 0, 1) := by decide +kernel
theorem d_N_children_53 : decode b_N_children 53 = .ok (.iadd, 1) := by decide +kernel
theorem d_N_children_54 : decode b_N_children 54 = .ok (.istore_n 3, 1) := by decide +kernel
theorem d_N_children_55 : decode b_N_children 55 = .ok (.iinc 4 1, 3) := by decide +kernel
theorem d_N_children_58 : decode b_N_children 58 = .ok (.goto (-43), 3) := by decide +kernel
theorem d_N_children_61 : decode b_N_children 61 = .ok (.iload_n 3, 1) := by decide +kernel
theorem d_N_children_62 : decode b_N_children 62 = .ok (.ireturn, 1) := by decide +kernel
set_option maxRecDepth 20000 in
theorem ct_N_children (E : mm_En) (C : Nat → Nat → Int32) (hm : nm_ok C) {k : Nat} (hk : k < 120) : mm_MT E K_N_children [.ref 204, .int (nI k)] (hp_H C) (mm_D (some (.int (nI (nk_n C k)))) C) := by
  obtain ⟨t, et⟩ : ∃ t, t = k / 20 := ⟨_, rfl⟩
  have ht : t < 6 := by omega
  obtain ⟨m20, em⟩ := hm t ht
  have loop : ∀ d i n : Nat, 20 * t + nm C t - i = d → i ≤ 120 → ev_At E K_N_children 15 [some (.ref 204), some (.int (nI k)), some (.int (nI t)), some (.int (nI n)), some (.int (nI i))] [] (hp_H C) 0 0 (mm_D (some (.int (nI (n + fx_c (fun c => decide (C 208 c = C 207 k)) d i)))) C) := by
    intro d
    induction d with
    | zero =>
      intro i n hi h1
      refine ev_iload (pc := 15) d_N_children_15 rfl ?_
      refine ev_bipush (pc := 17) (v := nI 20) d_N_children_17 (by decide) ?_
      refine ev_iload_n (pc := 19) d_N_children_19 rfl rfl ?_
      first | refine ev_imulN (pc := 20) d_N_children_20 ?_ | refine ev_imul (pc := 20) d_N_children_20 ?_
      refine ev_aload_n (pc := 21) d_N_children_21 rfl rfl (by first | rfl | exact mm_rk_rf _) ?_
      refine ev_gR (pc := 22) sh_N (by rfl) fl_N_13 d_N_children_22 ?_
      refine ev_iload_n (pc := 25) d_N_children_25 rfl rfl ?_
      refine ev_rIN (pc := 26) sh_N_many (by omega) (by decide) d_N_children_26 ?_
      rw [em]
      first | refine ev_iaddN (pc := 27) d_N_children_27 ?_ | refine ev_iadd (pc := 27) d_N_children_27 ?_
      refine ev_icmp_ge (pc := 28) (tgt := 61) d_N_children_28 (by decide) (fun ha => ?_) (fun ha => ?_)
      · refine ev_iload_n (pc := 61) d_N_children_61 rfl rfl ?_
        exact ev_iret (pc := 62) d_N_children_62 rfl (Nat.zero_le _) (Nat.zero_le _) ⟨rfl, rfl⟩
      · exact absurd (nI_le (by omega) (by omega)) ha
    | succ d ih =>
      intro i n hi h1
      refine ev_iload (pc := 15) d_N_children_15 rfl ?_
      refine ev_bipush (pc := 17) (v := nI 20) d_N_children_17 (by decide) ?_
      refine ev_iload_n (pc := 19) d_N_children_19 rfl rfl ?_
      first | refine ev_imulN (pc := 20) d_N_children_20 ?_ | refine ev_imul (pc := 20) d_N_children_20 ?_
      refine ev_aload_n (pc := 21) d_N_children_21 rfl rfl (by first | rfl | exact mm_rk_rf _) ?_
      refine ev_gR (pc := 22) sh_N (by rfl) fl_N_13 d_N_children_22 ?_
      refine ev_iload_n (pc := 25) d_N_children_25 rfl rfl ?_
      refine ev_rIN (pc := 26) sh_N_many (by omega) (by decide) d_N_children_26 ?_
      rw [em]
      first | refine ev_iaddN (pc := 27) d_N_children_27 ?_ | refine ev_iadd (pc := 27) d_N_children_27 ?_
      refine ev_icmp_ge (pc := 28) (tgt := 61) d_N_children_28 (by decide) (fun ha => ?_) (fun ha => ?_)
      · exact absurd ha (nI_ge (by omega) (by omega))
      refine ev_iload_n (pc := 31) d_N_children_31 rfl rfl ?_
      refine ev_aload_n (pc := 32) d_N_children_32 rfl rfl (by first | rfl | exact mm_rk_rf _) ?_
      refine ev_gR (pc := 33) sh_N (by rfl) fl_N_20 d_N_children_33 ?_
      refine ev_iload (pc := 36) d_N_children_36 rfl ?_
      refine ev_rIN (pc := 38) sh_N_above (by omega) (by decide) d_N_children_38 ?_
      refine ev_aload_n (pc := 39) d_N_children_39 rfl rfl (by first | rfl | exact mm_rk_rf _) ?_
      refine ev_gR (pc := 40) sh_N (by rfl) fl_N_17 d_N_children_40 ?_
      refine ev_iload_n (pc := 43) d_N_children_43 rfl rfl ?_
      refine ev_rIN (pc := 44) sh_N_path (by omega) (by decide) d_N_children_44 ?_
      refine ev_icmp_ne (pc := 45) (tgt := 52) d_N_children_45 (by decide) (fun hb => ?_) (fun hb => ?_)
      · refine ev_iconst (pc := 52) (v := 0) d_N_children_52 rfl ?_
        first | refine ev_iaddN (pc := 53) d_N_children_53 ?_ | refine ev_iadd (pc := 53) d_N_children_53 ?_
        refine ev_istore_n (pc := 54) d_N_children_54 rfl (Nat.le_of_ble_eq_true rfl) rfl ?_
        try dsimp only [List.set]
        refine ev_iinc (pc := 55) d_N_children_55 (Nat.le_of_ble_eq_true rfl) rfl (nx_inc _) rfl ?_
        try dsimp only [List.set]
        refine ev_goto (pc := 58) (tgt := 15) d_N_children_58 (by decide) ?_
        have h2 := ih (i + 1) (n + 0) (by omega) (by omega)
        simp only [fx_c, hb]
        simpa using h2
      · refine ev_iconst (pc := 48) (v := nI 1) d_N_children_48 rfl ?_
        refine ev_goto (pc := 49) (tgt := 53) d_N_children_49 (by decide) ?_
        first | refine ev_iaddN (pc := 53) d_N_children_53 ?_ | refine ev_iadd (pc := 53) d_N_children_53 ?_
        refine ev_istore_n (pc := 54) d_N_children_54 rfl (Nat.le_of_ble_eq_true rfl) rfl ?_
        try dsimp only [List.set]
        refine ev_iinc (pc := 55) d_N_children_55 (Nat.le_of_ble_eq_true rfl) rfl (nx_inc _) rfl ?_
        try dsimp only [List.set]
        refine ev_goto (pc := 58) (tgt := 15) d_N_children_58 (by decide) ?_
        have h2 := ih (i + 1) (n + 1) (by omega) (by omega)
        simp only [fx_c, hb]
        rw [Nat.add_assoc] at h2
        simpa using h2
  refine mm_mtL (by decide) (by rfl) (Nat.le_of_ble_eq_true rfl) rfl ?_
  refine ev_iload_n (pc := 0) d_N_children_0 rfl rfl ?_
  refine ev_bipush (pc := 1) (v := nI 20) d_N_children_1 (by decide) ?_
  refine ev_idivN (pc := 3) d_N_children_3 (by omega) (by decide) ?_
  rw [← et]
  refine ev_istore_n (pc := 4) d_N_children_4 rfl (Nat.le_of_ble_eq_true rfl) rfl ?_
  try dsimp only [List.set]
  refine ev_iconst (pc := 5) (v := 0) d_N_children_5 rfl ?_
  refine ev_istore_n (pc := 6) d_N_children_6 rfl (Nat.le_of_ble_eq_true rfl) rfl ?_
  try dsimp only [List.set]
  refine ev_bipush (pc := 7) (v := nI 20) d_N_children_7 (by decide) ?_
  refine ev_iload_n (pc := 9) d_N_children_9 rfl rfl ?_
  first | refine ev_imulN (pc := 10) d_N_children_10 ?_ | refine ev_imul (pc := 10) d_N_children_10 ?_
  refine ev_iconst (pc := 11) (v := nI 1) d_N_children_11 rfl ?_
  first | refine ev_iaddN (pc := 12) d_N_children_12 ?_ | refine ev_iadd (pc := 12) d_N_children_12 ?_
  refine ev_istore (pc := 13) d_N_children_13 (Nat.le_of_ble_eq_true rfl) rfl ?_
  try dsimp only [List.set]
  have h2 := loop (nm C t - 1) (20 * t + 1) 0 (by omega) (by omega)
  rw [nk_n, ← et]
  rw [Nat.zero_add] at h2
  exact h2
/-- the place of a node's parent -/
def np (C : Nat → Nat → Int32) (k : Nat) : Nat := (nc_i C (k / 20) (C 208 k)).getD 0
/-- every node but a root has its parent -/
def pa_ok (C : Nat → Nat → Int32) : Prop := ∀ k, nv C k → ¬ C 208 k < 0 → ∃ j, nc_i C (k / 20) (C 208 k) = some j
theorem pa_np {C : Nat → Nat → Int32} (hm : nm_ok C) (hp : pa_ok C) {k : Nat} (hk : nv C k) (h0 : ¬ C 208 k < 0) : np_i C k = some (np C k) ∧ nv C (np C k) ∧ np C k / 20 = k / 20 ∧ C 207 (np C k) = C 208 k := by
  obtain ⟨j, hj⟩ := hp k hk h0
  have hk1 := hk.1
  obtain ⟨h1, h2, h3, h4⟩ := nc_v (by omega) hm hj
  have e : np C k = j := by rw [np, hj]; rfl
  rw [np_i, if_neg h0, e]
  exact ⟨hj, h3, h2, h4⟩
def nd_n (C : Nat → Nat → Int32) : Nat → Nat → Nat
  | 0, _ => 0
  | n + 1, k => if C 208 k < 0 then 0 else 1 + nd_n C n (np C k)
theorem d_N_depth_0 : decode b_N_depth 0 = .ok (.iconst 0, 1) := by decide +kernel
theorem d_N_depth_1 : decode b_N_depth 1 = .ok (.istore_n 2, 1) := by decide +kernel
theorem d_N_depth_2 : decode b_N_depth 2 = .ok (.iload_n 1, 1) := by decide +kernel
theorem d_N_depth_3 : decode b_N_depth 3 = .ok (.istore_n 3, 1) := by decide +kernel
theorem d_N_depth_4 : decode b_N_depth 4 = .ok (.iconst 0, 1) := by decide +kernel
theorem d_N_depth_5 : decode b_N_depth 5 = .ok (.istore 4, 2) := by decide +kernel
theorem d_N_depth_7 : decode b_N_depth 7 = .ok (.iload 4, 2) := by decide +kernel
theorem d_N_depth_9 : decode b_N_depth 9 = .ok (.bipush 20, 2) := by decide +kernel
theorem d_N_depth_11 : decode b_N_depth 11 = .ok (.if_icmp .ge 27, 3) := by decide +kernel
theorem d_N_depth_14 : decode b_N_depth 14 = .ok (.aload_n 0, 1) := by decide +kernel
theorem d_N_depth_15 : decode b_N_depth 15 = .ok (.getfield 20, 3) := by decide +kernel
theorem d_N_depth_18 : decode b_N_depth 18 = .ok (.iload_n 3, 1) := by decide +kernel
theorem d_N_depth_19 : decode b_N_depth 19 = .ok (.iaload, 1) := by decide +kernel
theorem d_N_depth_20 : decode b_N_depth 20 = .ok (.ifCond .lt 18, 3) := by decide +kernel
theorem d_N_depth_23 : decode b_N_depth 23 = .ok (.aload_n 0, 1) := by decide +kernel
theorem d_N_depth_24 : decode b_N_depth 24 = .ok (.iload_n 3, 1) := by decide +kernel
theorem d_N_depth_25 : decode b_N_depth 25 = .ok (.invokevirtual 154, 3) := by decide +kernel
theorem d_N_depth_28 : decode b_N_depth 28 = .ok (.istore_n 3, 1) := by decide +kernel
theorem d_N_depth_29 : decode b_N_depth 29 = .ok (.iinc 2 1, 3) := by decide +kernel
theorem d_N_depth_32 : decode b_N_depth 32 = .ok (.iinc 4 1, 3) := by decide +kernel
theorem d_N_depth_35 : decode b_N_depth 35 = .ok (.goto (-28), 3) := by decide +kernel
theorem d_N_depth_38 : decode b_N_depth 38 = .ok (.iload_n 2, 1) := by decide +kernel
theorem d_N_depth_39 : decode b_N_depth 39 = .ok (.ireturn, 1) := by decide +kernel
set_option maxRecDepth 20000 in
theorem ct_N_depth (E : mm_En) (C : Nat → Nat → Int32) (hm : nm_ok C) (hp : pa_ok C) {k : Nat} (hk : nv C k) : mm_MT E K_N_depth [.ref 204, .int (nI k)] (hp_H C) (mm_D (some (.int (nI (nd_n C 20 k)))) C) := by
  have loop : ∀ d i j n : Nat, i + d = 20 → nv C j → ev_At E K_N_depth 7 [some (.ref 204), some (.int (nI k)), some (.int (nI n)), some (.int (nI j)), some (.int (nI i))] [] (hp_H C) 0 0 (mm_D (some (.int (nI (n + nd_n C d j)))) C) := by
    intro d
    induction d with
    | zero =>
      intro i j n hi hj
      refine ev_iload (pc := 7) d_N_depth_7 rfl ?_
      refine ev_bipush (pc := 9) (v := 20) d_N_depth_9 (by decide) ?_
      refine ev_icmp_ge (pc := 11) (tgt := 38) d_N_depth_11 (by decide) (fun ha => ?_) (fun ha => ?_)
      · refine ev_iload_n (pc := 38) d_N_depth_38 rfl rfl ?_
        exact ev_iret (pc := 39) d_N_depth_39 rfl (Nat.zero_le _) (Nat.zero_le _) ⟨rfl, rfl⟩
      · exact absurd (nI_le (a := 20) (by omega) (by omega)) ha
    | succ d ih =>
      intro i j n hi hj
      have hj1 := hj.1
      refine ev_iload (pc := 7) d_N_depth_7 rfl ?_
      refine ev_bipush (pc := 9) (v := 20) d_N_depth_9 (by decide) ?_
      refine ev_icmp_ge (pc := 11) (tgt := 38) d_N_depth_11 (by decide) (fun ha => ?_) (fun ha => ?_)
      · exact absurd ha (nI_ge (b := 20) (by omega) (by omega))
      refine ev_aload_n (pc := 14) d_N_depth_14 rfl rfl (by first | rfl | exact mm_rk_rf _) ?_
      refine ev_gR (pc := 15) sh_N (by rfl) fl_N_20 d_N_depth_15 ?_
      refine ev_iload_n (pc := 18) d_N_depth_18 rfl rfl ?_
      refine ev_rIN (pc := 19) sh_N_above (by omega) (by decide) d_N_depth_19 ?_
      refine ev_if_lt (pc := 20) (tgt := 38) d_N_depth_20 (by decide) (fun hb => ?_) (fun hb => ?_)
      · refine ev_iload_n (pc := 38) d_N_depth_38 rfl rfl ?_
        simp only [nd_n, hb]
        exact ev_iret (pc := 39) d_N_depth_39 rfl (Nat.zero_le _) (Nat.zero_le _) ⟨rfl, rfl⟩
      obtain ⟨p1, p2, p3, p4⟩ := pa_np hm hp hj hb
      refine ev_aload_n (pc := 23) d_N_depth_23 rfl rfl (by first | rfl | exact mm_rk_rf _) ?_
      refine ev_iload_n (pc := 24) d_N_depth_24 rfl rfl ?_
      refine ev_cV (pc := 25) (ct_N_parent E C hm hj1) cl_N_154 jv_N_parent ⟨(Nat.le_of_ble_eq_true rfl), (Nat.le_of_ble_eq_true rfl)⟩ rfl sh_N rfl (Nat.le_of_ble_eq_true rfl) d_N_depth_25 ⟨Nat.zero_le _, Nat.zero_le _⟩ ?_
      rw [p1, show oI (some (np C j)) = nI (np C j) from rfl]
      refine ev_istore_n (pc := 28) d_N_depth_28 rfl (Nat.le_of_ble_eq_true rfl) rfl ?_
      try dsimp only [List.set]
      refine ev_iinc (pc := 29) d_N_depth_29 (Nat.le_of_ble_eq_true rfl) rfl (nx_inc _) rfl ?_
      try dsimp only [List.set]
      refine ev_iinc (pc := 32) d_N_depth_32 (Nat.le_of_ble_eq_true rfl) rfl (nx_inc _) rfl ?_
      try dsimp only [List.set]
      refine ev_goto (pc := 35) (tgt := 7) d_N_depth_35 (by decide) ?_
      have h2 := ih (i + 1) (np C j) (n + 1) (by omega) p2
      simp only [nd_n, hb]
      rw [Nat.add_assoc] at h2
      exact h2
  refine mm_mtL (by decide) (by rfl) (Nat.le_of_ble_eq_true rfl) rfl ?_
  refine ev_iconst (pc := 0) (v := 0) d_N_depth_0 rfl ?_
  refine ev_istore_n (pc := 1) d_N_depth_1 rfl (Nat.le_of_ble_eq_true rfl) rfl ?_
  try dsimp only [List.set]
  refine ev_iload_n (pc := 2) d_N_depth_2 rfl rfl ?_
  refine ev_istore_n (pc := 3) d_N_depth_3 rfl (Nat.le_of_ble_eq_true rfl) rfl ?_
  try dsimp only [List.set]
  refine ev_iconst (pc := 4) (v := 0) d_N_depth_4 rfl ?_
  refine ev_istore (pc := 5) d_N_depth_5 (Nat.le_of_ble_eq_true rfl) rfl ?_
  try dsimp only [List.set]
  have h2 := loop 20 0 k 0 (by omega) hk
  rw [Nat.zero_add] at h2
  exact h2
def na_r (C : Nat → Nat → Int32) (u k : Nat) : Int32 :=
  let r0 := C 213 k &&& 7
  let r1 := if C 205 (4 * u + (C 211 k).toNatClampNeg) = 0 then r0 else r0 ||| ((C 213 k >>> ((3 : Int32) &&& 31)) &&& 7)
  if C 210 k = nI u then r1 ||| ((C 213 k >>> ((6 : Int32) &&& 31)) &&& 7) else r1
def gn_ok (C : Nat → Nat → Int32) : Prop := ∀ k, k < 120 → (C 211 k).toNatClampNeg < 4 ∧ C 211 k = nI (C 211 k).toNatClampNeg
theorem d_N_has_0 : decode b_N_has 0 = .ok (.aload_n 0, 1) := by decide +kernel
theorem d_N_has_1 : decode b_N_has 1 = .ok (.getfield 35, 3) := by decide +kernel
theorem d_N_has_4 : decode b_N_has 4 = .ok (.iload_n 2, 1) := by decide +kernel
theorem d_N_has_5 : decode b_N_has 5 = .ok (.iaload, 1) := by decide +kernel
theorem d_N_has_6 : decode b_N_has 6 = .ok (.bipush 7, 2) := by decide +kernel
theorem d_N_has_8 : decode b_N_has 8 = .ok (.iand, 1) := by decide +kernel
theorem d_N_has_9 : decode b_N_has 9 = .ok (.istore 4, 2) := by decide +kernel
theorem d_N_has_11 : decode b_N_has 11 = .ok (.aload_n 0, 1) := by decide +kernel
theorem d_N_has_12 : decode b_N_has 12 = .ok (.getfield 7, 3) := by decide +kernel
theorem d_N_has_15 : decode b_N_has 15 = .ok (.iconst 4, 1) := by decide +kernel
theorem d_N_has_16 : decode b_N_has 16 = .ok (.iload_n 1, 1) := by decide +kernel
theorem d_N_has_17 : decode b_N_has 17 = .ok (.imul, 1) := by decide +kernel
theorem d_N_has_18 : decode b_N_has 18 = .ok (.aload_n 0, 1) := by decide +kernel
theorem d_N_has_19 : decode b_N_has 19 = .ok (.getfield 29, 3) := by decide +kernel
theorem d_N_has_22 : decode b_N_has 22 = .ok (.iload_n 2, 1) := by decide +kernel
theorem d_N_has_23 : decode b_N_has 23 = .ok (.iaload, 1) := by decide +kernel
theorem d_N_has_24 : decode b_N_has 24 = .ok (.iadd, 1) := by decide +kernel
theorem d_N_has_25 : decode b_N_has 25 = .ok (.baload, 1) := by decide +kernel
theorem d_N_has_26 : decode b_N_has 26 = .ok (.ifCond .eq 19, 3) := by decide +kernel
theorem d_N_has_29 : decode b_N_has 29 = .ok (.iload 4, 2) := by decide +kernel
theorem d_N_has_31 : decode b_N_has 31 = .ok (.aload_n 0, 1) := by decide +kernel
theorem d_N_has_32 : decode b_N_has 32 = .ok (.getfield 35, 3) := by decide +kernel
theorem d_N_has_35 : decode b_N_has 35 = .ok (.iload_n 2, 1) := by decide +kernel
theorem d_N_has_36 : decode b_N_has 36 = .ok (.iaload, 1) := by decide +kernel
theorem d_N_has_37 : decode b_N_has 37 = .ok (.iconst 3, 1) := by decide +kernel
theorem d_N_has_38 : decode b_N_has 38 = .ok (.ishr, 1) := by decide +kernel
theorem d_N_has_39 : decode b_N_has 39 = .ok (.bipush 7, 2) := by decide +kernel
theorem d_N_has_41 : decode b_N_has 41 = .ok (.iand, 1) := by decide +kernel
theorem d_N_has_42 : decode b_N_has 42 = .ok (.ior, 1) := by decide +kernel
theorem d_N_has_43 : decode b_N_has 43 = .ok (.istore 4, 2) := by decide +kernel
theorem d_N_has_45 : decode b_N_has 45 = .ok (.aload_n 0, 1) := by decide +kernel
theorem d_N_has_46 : decode b_N_has 46 = .ok (.getfield 26, 3) := by decide +kernel
theorem d_N_has_49 : decode b_N_has 49 = .ok (.iload_n 2, 1) := by decide +kernel
theorem d_N_has_50 : decode b_N_has 50 = .ok (.iaload, 1) := by decide +kernel
theorem d_N_has_51 : decode b_N_has 51 = .ok (.iload_n 1, 1) := by decide +kernel
theorem d_N_has_52 : decode b_N_has 52 = .ok (.if_icmp .ne 20, 3) := by decide +kernel
theorem d_N_has_55 : decode b_N_has 55 = .ok (.iload 4, 2) := by decide +kernel
theorem d_N_has_57 : decode b_N_has 57 = .ok (.aload_n 0, 1) := by decide +kernel
theorem d_N_has_58 : decode b_N_has 58 = .ok (.getfield 35, 3) := by decide +kernel
theorem d_N_has_61 : decode b_N_has 61 = .ok (.iload_n 2, 1) := by decide +kernel
theorem d_N_has_62 : decode b_N_has 62 = .ok (.iaload, 1) := by decide +kernel
theorem d_N_has_63 : decode b_N_has 63 = .ok (.bipush 6, 2) := by decide +kernel
theorem d_N_has_65 : decode b_N_has 65 = .ok (.ishr, 1) := by decide +kernel
theorem d_N_has_66 : decode b_N_has 66 = .ok (.bipush 7, 2) := by decide +kernel
theorem d_N_has_68 : decode b_N_has 68 = .ok (.iand, 1) := by decide +kernel
theorem d_N_has_69 : decode b_N_has 69 = .ok (.ior, 1) := by decide +kernel
theorem d_N_has_70 : decode b_N_has 70 = .ok (.istore 4, 2) := by decide +kernel
theorem d_N_has_72 : decode b_N_has 72 = .ok (.iload 4, 2) := by decide +kernel
theorem d_N_has_74 : decode b_N_has 74 = .ok (.iload_n 3, 1) := by decide +kernel
theorem d_N_has_75 : decode b_N_has 75 = .ok (.iand, 1) := by decide +kernel
theorem d_N_has_76 : decode b_N_has 76 = .ok (.ifCond .eq 7, 3) := by decide +kernel
theorem d_N_has_79 : decode b_N_has 79 = .ok (.iconst 1, 1) := by decide +kernel
theorem d_N_has_80 : decode b_N_has 80 = .ok (.goto 4, 3) := by decide +kernel
theorem d_N_has_83 : decode b_N_has 83 = .ok (.iconst 0, 1) := by decide +kernel
theorem d_N_has_84 : decode b_N_has 84 = .ok (.ireturn, 1) := by decide +kernel
set_option maxRecDepth 20000 in
theorem ct_N_has (E : mm_En) (C : Nat → Nat → Int32) (hg : gn_ok C) {u k : Nat} (hu : u < 4) (hk : k < 120) (x : Int32) : mm_MT E K_N_has [.ref 204, .int (nI u), .int (nI k), .int x] (hp_H C) (mm_D (some (.int (b2_P (¬ (na_r C u k &&& x) = 0)))) C) := by
  obtain ⟨g4, eg⟩ := hg k hk
  refine mm_mtL (by decide) (by rfl) (Nat.le_of_ble_eq_true rfl) rfl ?_
  refine ev_aload_n (pc := 0) d_N_has_0 rfl rfl (by first | rfl | exact mm_rk_rf _) ?_
  refine ev_gR (pc := 1) sh_N (by rfl) fl_N_35 d_N_has_1 ?_
  refine ev_iload_n (pc := 4) d_N_has_4 rfl rfl ?_
  refine ev_rIN (pc := 5) sh_N_mode (by omega) (by decide) d_N_has_5 ?_
  refine ev_bipush (pc := 6) (v := 7) d_N_has_6 (by decide) ?_
  refine ev_iand (pc := 8) d_N_has_8 ?_
  refine ev_istore (pc := 9) d_N_has_9 (Nat.le_of_ble_eq_true rfl) rfl ?_
  try dsimp only [List.set]
  refine ev_aload_n (pc := 11) d_N_has_11 rfl rfl (by first | rfl | exact mm_rk_rf _) ?_
  refine ev_gR (pc := 12) sh_N (by rfl) fl_N_7 d_N_has_12 ?_
  refine ev_iconst (pc := 15) (v := nI 4) d_N_has_15 rfl ?_
  refine ev_iload_n (pc := 16) d_N_has_16 rfl rfl ?_
  first | refine ev_imulN (pc := 17) d_N_has_17 ?_ | refine ev_imul (pc := 17) d_N_has_17 ?_
  refine ev_aload_n (pc := 18) d_N_has_18 rfl rfl (by first | rfl | exact mm_rk_rf _) ?_
  refine ev_gR (pc := 19) sh_N (by rfl) fl_N_29 d_N_has_19 ?_
  refine ev_iload_n (pc := 22) d_N_has_22 rfl rfl ?_
  refine ev_rIN (pc := 23) sh_N_group (by omega) (by decide) d_N_has_23 ?_
  rw [eg]
  first | refine ev_iaddN (pc := 24) d_N_has_24 ?_ | refine ev_iadd (pc := 24) d_N_has_24 ?_
  refine ev_rZN (pc := 25) sh_N_members (by omega) (by decide) d_N_has_25 ?_
  refine ev_if_eq (pc := 26) (tgt := 45) d_N_has_26 (by decide) (fun hc26 => ?_) (fun hc26 => ?_)
  · refine ev_aload_n (pc := 45) d_N_has_45 rfl rfl (by first | rfl | exact mm_rk_rf _) ?_
    refine ev_gR (pc := 46) sh_N (by rfl) fl_N_26 d_N_has_46 ?_
    refine ev_iload_n (pc := 49) d_N_has_49 rfl rfl ?_
    refine ev_rIN (pc := 50) sh_N_owner (by omega) (by decide) d_N_has_50 ?_
    refine ev_iload_n (pc := 51) d_N_has_51 rfl rfl ?_
    refine ev_icmp_ne (pc := 52) (tgt := 72) d_N_has_52 (by decide) (fun hc52 => ?_) (fun hc52 => ?_)
    · refine ev_iload (pc := 72) d_N_has_72 rfl ?_
      refine ev_iload_n (pc := 74) d_N_has_74 rfl rfl ?_
      refine ev_iand (pc := 75) d_N_has_75 ?_
      refine ev_if_eq (pc := 76) (tgt := 83) d_N_has_76 (by decide) (fun hc76 => ?_) (fun hc76 => ?_)
      · refine ev_iconst (pc := 83) (v := 0) d_N_has_83 rfl ?_
        exact ev_zret (pc := 84) d_N_has_84 rfl (by first | exact Or.inl rfl | exact Or.inr rfl | assumption) (Nat.zero_le _) (Nat.zero_le _) ⟨by first | rw [b2_t (by unfold na_r; grind)] | rw [b2_f (by unfold na_r; grind)], rfl⟩
      · refine ev_iconst (pc := 79) (v := 1) d_N_has_79 rfl ?_
        refine ev_goto (pc := 80) (tgt := 84) d_N_has_80 (by decide) ?_
        exact ev_zret (pc := 84) d_N_has_84 rfl (by first | exact Or.inl rfl | exact Or.inr rfl | assumption) (Nat.zero_le _) (Nat.zero_le _) ⟨by first | rw [b2_t (by unfold na_r; grind)] | rw [b2_f (by unfold na_r; grind)], rfl⟩
    · refine ev_iload (pc := 55) d_N_has_55 rfl ?_
      refine ev_aload_n (pc := 57) d_N_has_57 rfl rfl (by first | rfl | exact mm_rk_rf _) ?_
      refine ev_gR (pc := 58) sh_N (by rfl) fl_N_35 d_N_has_58 ?_
      refine ev_iload_n (pc := 61) d_N_has_61 rfl rfl ?_
      refine ev_rIN (pc := 62) sh_N_mode (by omega) (by decide) d_N_has_62 ?_
      refine ev_bipush (pc := 63) (v := 6) d_N_has_63 (by decide) ?_
      refine ev_ishr (pc := 65) d_N_has_65 ?_
      refine ev_bipush (pc := 66) (v := 7) d_N_has_66 (by decide) ?_
      refine ev_iand (pc := 68) d_N_has_68 ?_
      refine ev_ior (pc := 69) d_N_has_69 ?_
      refine ev_istore (pc := 70) d_N_has_70 (Nat.le_of_ble_eq_true rfl) rfl ?_
      try dsimp only [List.set]
      refine ev_iload (pc := 72) d_N_has_72 rfl ?_
      refine ev_iload_n (pc := 74) d_N_has_74 rfl rfl ?_
      refine ev_iand (pc := 75) d_N_has_75 ?_
      refine ev_if_eq (pc := 76) (tgt := 83) d_N_has_76 (by decide) (fun hc76 => ?_) (fun hc76 => ?_)
      · refine ev_iconst (pc := 83) (v := 0) d_N_has_83 rfl ?_
        exact ev_zret (pc := 84) d_N_has_84 rfl (by first | exact Or.inl rfl | exact Or.inr rfl | assumption) (Nat.zero_le _) (Nat.zero_le _) ⟨by first | rw [b2_t (by unfold na_r; grind)] | rw [b2_f (by unfold na_r; grind)], rfl⟩
      · refine ev_iconst (pc := 79) (v := 1) d_N_has_79 rfl ?_
        refine ev_goto (pc := 80) (tgt := 84) d_N_has_80 (by decide) ?_
        exact ev_zret (pc := 84) d_N_has_84 rfl (by first | exact Or.inl rfl | exact Or.inr rfl | assumption) (Nat.zero_le _) (Nat.zero_le _) ⟨by first | rw [b2_t (by unfold na_r; grind)] | rw [b2_f (by unfold na_r; grind)], rfl⟩
  · refine ev_iload (pc := 29) d_N_has_29 rfl ?_
    refine ev_aload_n (pc := 31) d_N_has_31 rfl rfl (by first | rfl | exact mm_rk_rf _) ?_
    refine ev_gR (pc := 32) sh_N (by rfl) fl_N_35 d_N_has_32 ?_
    refine ev_iload_n (pc := 35) d_N_has_35 rfl rfl ?_
    refine ev_rIN (pc := 36) sh_N_mode (by omega) (by decide) d_N_has_36 ?_
    refine ev_iconst (pc := 37) (v := 3) d_N_has_37 rfl ?_
    refine ev_ishr (pc := 38) d_N_has_38 ?_
    refine ev_bipush (pc := 39) (v := 7) d_N_has_39 (by decide) ?_
    refine ev_iand (pc := 41) d_N_has_41 ?_
    refine ev_ior (pc := 42) d_N_has_42 ?_
    refine ev_istore (pc := 43) d_N_has_43 (Nat.le_of_ble_eq_true rfl) rfl ?_
    try dsimp only [List.set]
    refine ev_aload_n (pc := 45) d_N_has_45 rfl rfl (by first | rfl | exact mm_rk_rf _) ?_
    refine ev_gR (pc := 46) sh_N (by rfl) fl_N_26 d_N_has_46 ?_
    refine ev_iload_n (pc := 49) d_N_has_49 rfl rfl ?_
    refine ev_rIN (pc := 50) sh_N_owner (by omega) (by decide) d_N_has_50 ?_
    refine ev_iload_n (pc := 51) d_N_has_51 rfl rfl ?_
    refine ev_icmp_ne (pc := 52) (tgt := 72) d_N_has_52 (by decide) (fun hc52 => ?_) (fun hc52 => ?_)
    · refine ev_iload (pc := 72) d_N_has_72 rfl ?_
      refine ev_iload_n (pc := 74) d_N_has_74 rfl rfl ?_
      refine ev_iand (pc := 75) d_N_has_75 ?_
      refine ev_if_eq (pc := 76) (tgt := 83) d_N_has_76 (by decide) (fun hc76 => ?_) (fun hc76 => ?_)
      · refine ev_iconst (pc := 83) (v := 0) d_N_has_83 rfl ?_
        exact ev_zret (pc := 84) d_N_has_84 rfl (by first | exact Or.inl rfl | exact Or.inr rfl | assumption) (Nat.zero_le _) (Nat.zero_le _) ⟨by first | rw [b2_t (by unfold na_r; grind)] | rw [b2_f (by unfold na_r; grind)], rfl⟩
      · refine ev_iconst (pc := 79) (v := 1) d_N_has_79 rfl ?_
        refine ev_goto (pc := 80) (tgt := 84) d_N_has_80 (by decide) ?_
        exact ev_zret (pc := 84) d_N_has_84 rfl (by first | exact Or.inl rfl | exact Or.inr rfl | assumption) (Nat.zero_le _) (Nat.zero_le _) ⟨by first | rw [b2_t (by unfold na_r; grind)] | rw [b2_f (by unfold na_r; grind)], rfl⟩
    · refine ev_iload (pc := 55) d_N_has_55 rfl ?_
      refine ev_aload_n (pc := 57) d_N_has_57 rfl rfl (by first | rfl | exact mm_rk_rf _) ?_
      refine ev_gR (pc := 58) sh_N (by rfl) fl_N_35 d_N_has_58 ?_
      refine ev_iload_n (pc := 61) d_N_has_61 rfl rfl ?_
      refine ev_rIN (pc := 62) sh_N_mode (by omega) (by decide) d_N_has_62 ?_
      refine ev_bipush (pc := 63) (v := 6) d_N_has_63 (by decide) ?_
      refine ev_ishr (pc := 65) d_N_has_65 ?_
      refine ev_bipush (pc := 66) (v := 7) d_N_has_66 (by decide) ?_
      refine ev_iand (pc := 68) d_N_has_68 ?_
      refine ev_ior (pc := 69) d_N_has_69 ?_
      refine ev_istore (pc := 70) d_N_has_70 (Nat.le_of_ble_eq_true rfl) rfl ?_
      try dsimp only [List.set]
      refine ev_iload (pc := 72) d_N_has_72 rfl ?_
      refine ev_iload_n (pc := 74) d_N_has_74 rfl rfl ?_
      refine ev_iand (pc := 75) d_N_has_75 ?_
      refine ev_if_eq (pc := 76) (tgt := 83) d_N_has_76 (by decide) (fun hc76 => ?_) (fun hc76 => ?_)
      · refine ev_iconst (pc := 83) (v := 0) d_N_has_83 rfl ?_
        exact ev_zret (pc := 84) d_N_has_84 rfl (by first | exact Or.inl rfl | exact Or.inr rfl | assumption) (Nat.zero_le _) (Nat.zero_le _) ⟨by first | rw [b2_t (by unfold na_r; grind)] | rw [b2_f (by unfold na_r; grind)], rfl⟩
      · refine ev_iconst (pc := 79) (v := 1) d_N_has_79 rfl ?_
        refine ev_goto (pc := 80) (tgt := 84) d_N_has_80 (by decide) ?_
        exact ev_zret (pc := 84) d_N_has_84 rfl (by first | exact Or.inl rfl | exact Or.inr rfl | assumption) (Nat.zero_le _) (Nat.zero_le _) ⟨by first | rw [b2_t (by unfold na_r; grind)] | rw [b2_f (by unfold na_r; grind)], rfl⟩
