/-! The reference: answering, hanging up. -/
noncomputable def nZ_K (C : Nat → Nat → Int32) (kd f t s g : Nat) : Int32 × (Nat → Nat → Int32) := match kd with
  | 0 => nA_R C f s
  | 1 => it_P (vp_in (C 228 0) 6) (nG_R C f t (f / 6 * 6 + (C 228 0).toNatClampNeg) g) (-7, C)
  | 2 => nO_R C f t s
  | 3 => nE_R C f t s
  | 4 => nQ_R C f t
  | 5 => nW_R C f t s g
  | 6 => nK_R C f t s
  | 7 => nM_R C f t s
  | 8 => nT_R C f t
  | _ => nU_R C f t s
theorem d_N_done_0 : decode b_N_done 0 = .ok (.iload_n 1, 1) := by decide +kernel
theorem d_N_done_1 : decode b_N_done 1 = .ok (.tableswitch 105 0 8 #[51, 57, 63, 69, 75, 81, 87, 93, 99], 51) := by decide +kernel
theorem d_N_done_52 : decode b_N_done 52 = .ok (.aload_n 0, 1) := by decide +kernel
theorem d_N_done_53 : decode b_N_done 53 = .ok (.iload_n 2, 1) := by decide +kernel
theorem d_N_done_54 : decode b_N_done 54 = .ok (.invokevirtual 121, 3) := by decide +kernel
theorem d_N_done_57 : decode b_N_done 57 = .ok (.ireturn, 1) := by decide +kernel
theorem d_N_done_58 : decode b_N_done 58 = .ok (.aload_n 0, 1) := by decide +kernel
theorem d_N_done_59 : decode b_N_done 59 = .ok (.iload_n 2, 1) := by decide +kernel
theorem d_N_done_60 : decode b_N_done 60 = .ok (.invokevirtual 124, 3) := by decide +kernel
theorem d_N_done_63 : decode b_N_done 63 = .ok (.ireturn, 1) := by decide +kernel
theorem d_N_done_64 : decode b_N_done 64 = .ok (.aload_n 0, 1) := by decide +kernel
theorem d_N_done_65 : decode b_N_done 65 = .ok (.iload_n 2, 1) := by decide +kernel
theorem d_N_done_66 : decode b_N_done 66 = .ok (.invokevirtual 127, 3) := by decide +kernel
theorem d_N_done_69 : decode b_N_done 69 = .ok (.ireturn, 1) := by decide +kernel
theorem d_N_done_70 : decode b_N_done 70 = .ok (.aload_n 0, 1) := by decide +kernel
theorem d_N_done_71 : decode b_N_done 71 = .ok (.iload_n 2, 1) := by decide +kernel
theorem d_N_done_72 : decode b_N_done 72 = .ok (.invokevirtual 130, 3) := by decide +kernel
theorem d_N_done_75 : decode b_N_done 75 = .ok (.ireturn, 1) := by decide +kernel
theorem d_N_done_76 : decode b_N_done 76 = .ok (.aload_n 0, 1) := by decide +kernel
theorem d_N_done_77 : decode b_N_done 77 = .ok (.iload_n 2, 1) := by decide +kernel
theorem d_N_done_78 : decode b_N_done 78 = .ok (.invokevirtual 133, 3) := by decide +kernel
theorem d_N_done_81 : decode b_N_done 81 = .ok (.ireturn, 1) := by decide +kernel
theorem d_N_done_82 : decode b_N_done 82 = .ok (.aload_n 0, 1) := by decide +kernel
theorem d_N_done_83 : decode b_N_done 83 = .ok (.iload_n 2, 1) := by decide +kernel
theorem d_N_done_84 : decode b_N_done 84 = .ok (.invokevirtual 136, 3) := by decide +kernel
theorem d_N_done_87 : decode b_N_done 87 = .ok (.ireturn, 1) := by decide +kernel
theorem d_N_done_88 : decode b_N_done 88 = .ok (.aload_n 0, 1) := by decide +kernel
theorem d_N_done_89 : decode b_N_done 89 = .ok (.iload_n 2, 1) := by decide +kernel
theorem d_N_done_90 : decode b_N_done 90 = .ok (.invokevirtual 139, 3) := by decide +kernel
theorem d_N_done_93 : decode b_N_done 93 = .ok (.ireturn, 1) := by decide +kernel
theorem d_N_done_94 : decode b_N_done 94 = .ok (.aload_n 0, 1) := by decide +kernel
theorem d_N_done_95 : decode b_N_done 95 = .ok (.iload_n 2, 1) := by decide +kernel
theorem d_N_done_96 : decode b_N_done 96 = .ok (.invokevirtual 142, 3) := by decide +kernel
theorem d_N_done_99 : decode b_N_done 99 = .ok (.ireturn, 1) := by decide +kernel
theorem d_N_done_100 : decode b_N_done 100 = .ok (.aload_n 0, 1) := by decide +kernel
theorem d_N_done_101 : decode b_N_done 101 = .ok (.iload_n 2, 1) := by decide +kernel
theorem d_N_done_102 : decode b_N_done 102 = .ok (.invokevirtual 145, 3) := by decide +kernel
theorem d_N_done_105 : decode b_N_done 105 = .ok (.ireturn, 1) := by decide +kernel
theorem d_N_done_106 : decode b_N_done 106 = .ok (.aload_n 0, 1) := by decide +kernel
theorem d_N_done_107 : decode b_N_done 107 = .ok (.iload_n 2, 1) := by decide +kernel
theorem d_N_done_108 : decode b_N_done 108 = .ok (.invokevirtual 148, 3) := by decide +kernel
theorem d_N_done_111 : decode b_N_done 111 = .ok (.ireturn, 1) := by decide +kernel
set_option maxRecDepth 20000 in
theorem ct_N_done (E : mm_En) (C : Nat → Nat → Int32) {kd f t s g : Nat} (hw : nw_P C s) (hu : nu_P C f t) (hr : C 204 26 = nI 0) (hg : C 204 29 = nI g) (hgk : ¬ nI g < st_f kd ∧ ¬ st_g kd < nI g) (g4 : g ≤ 4) (hkd : kd < 10) : mm_MT E K_N_done [.ref 204, .int (nI kd), .int (nI f)] (hp_H C) (mm_D (some (.int (nZ_K C kd f t s g).1)) (nZ_K C kd f t s g).2) := by
  have hf := hu.1
  refine mm_mtL (by decide) (by rfl) (Nat.le_of_ble_eq_true rfl) rfl ?_
  refine ev_iload_n (pc := 0) d_N_done_0 rfl rfl ?_
  rcases (show kd = 0 ∨ kd = 1 ∨ kd = 2 ∨ kd = 3 ∨ kd = 4 ∨ kd = 5 ∨ kd = 6 ∨ kd = 7 ∨ kd = 8 ∨ kd = 9 by omega) with rfl | rfl | rfl | rfl | rfl | rfl | rfl | rfl | rfl | rfl
  · refine ev_tableIn (pc := 1) (off := 51) (tgt := 52) d_N_done_1 (by decide) (by decide) (by decide) (by decide) ?_
    simp only [nZ_K]
    refine ev_aload_n (pc := 52) d_N_done_52 rfl rfl (by first | rfl | exact mm_rk_rf _) ?_
    refine ev_iload_n (pc := 53) d_N_done_53 rfl rfl ?_
    refine ev_cV (pc := 54) (ct_N_attach E C hw hf hr) cl_N_121 jv_N_attach ⟨(Nat.le_of_ble_eq_true rfl), (Nat.le_of_ble_eq_true rfl)⟩ rfl sh_N rfl (Nat.le_of_ble_eq_true rfl) d_N_done_54 ⟨Nat.zero_le _, Nat.zero_le _⟩ ?_
    exact ev_iret (pc := 57) d_N_done_57 rfl (Nat.zero_le _) (Nat.zero_le _) ⟨rfl, rfl⟩
  · obtain ⟨r1, r2⟩ := kd_rng (a := 1) (b := 4) g4 (by decide) (by decide) hgk
    refine ev_tableIn (pc := 1) (off := 57) (tgt := 58) d_N_done_1 (by decide) (by decide) (by decide) (by decide) ?_
    simp only [nZ_K]
    refine ev_aload_n (pc := 58) d_N_done_58 rfl rfl (by first | rfl | exact mm_rk_rf _) ?_
    refine ev_iload_n (pc := 59) d_N_done_59 rfl rfl ?_
    rcases ix_or (C 228 0) (n := 6) (by decide) with ⟨j, hj, ej⟩ | hno
    · rw [it_t (show vp_in (C 228 0) 6 by rw [ej]; exact vp_in_nI hj (by decide)), show (C 228 0).toNatClampNeg = j by rw [ej, nI_clamp (by omega)]]
      refine ev_cV (pc := 60) (ct_N_walk E C hw hu hr hj ej hg r1 r2) cl_N_124 jv_N_walk ⟨(Nat.le_of_ble_eq_true rfl), (Nat.le_of_ble_eq_true rfl)⟩ rfl sh_N rfl (Nat.le_of_ble_eq_true rfl) d_N_done_60 ⟨Nat.zero_le _, Nat.zero_le _⟩ ?_
      exact ev_iret (pc := 63) d_N_done_63 rfl (Nat.zero_le _) (Nat.zero_le _) ⟨rfl, rfl⟩
    · have hnv : ¬ vp_in (C 228 0) 6 := fun z => by
        obtain ⟨j, hj, ej⟩ := vp_in_of z (by decide)
        rw [ej] at hno
        rcases hno with h | h
        · exact absurd h (nI_pos (by omega))
        · exact absurd h (nI_ge hj (by decide))
      rw [it_f hnv]
      refine ev_cV (pc := 60) (ct_N_walkN E C hf hno) cl_N_124 jv_N_walk ⟨(Nat.le_of_ble_eq_true rfl), (Nat.le_of_ble_eq_true rfl)⟩ rfl sh_N rfl (Nat.le_of_ble_eq_true rfl) d_N_done_60 ⟨Nat.zero_le _, Nat.zero_le _⟩ ?_
      exact ev_iret (pc := 63) d_N_done_63 rfl (Nat.zero_le _) (Nat.zero_le _) ⟨rfl, rfl⟩
  · refine ev_tableIn (pc := 1) (off := 63) (tgt := 64) d_N_done_1 (by decide) (by decide) (by decide) (by decide) ?_
    simp only [nZ_K]
    refine ev_aload_n (pc := 64) d_N_done_64 rfl rfl (by first | rfl | exact mm_rk_rf _) ?_
    refine ev_iload_n (pc := 65) d_N_done_65 rfl rfl ?_
    refine ev_cV (pc := 66) (ct_N_opening E C hw hu hr) cl_N_127 jv_N_opening ⟨(Nat.le_of_ble_eq_true rfl), (Nat.le_of_ble_eq_true rfl)⟩ rfl sh_N rfl (Nat.le_of_ble_eq_true rfl) d_N_done_66 ⟨Nat.zero_le _, Nat.zero_le _⟩ ?_
    exact ev_iret (pc := 69) d_N_done_69 rfl (Nat.zero_le _) (Nat.zero_le _) ⟨rfl, rfl⟩
  · refine ev_tableIn (pc := 1) (off := 69) (tgt := 70) d_N_done_1 (by decide) (by decide) (by decide) (by decide) ?_
    simp only [nZ_K]
    refine ev_aload_n (pc := 70) d_N_done_70 rfl rfl (by first | rfl | exact mm_rk_rf _) ?_
    refine ev_iload_n (pc := 71) d_N_done_71 rfl rfl ?_
    refine ev_cV (pc := 72) (ct_N_create E C hw hu hr) cl_N_130 jv_N_create ⟨(Nat.le_of_ble_eq_true rfl), (Nat.le_of_ble_eq_true rfl)⟩ rfl sh_N rfl (Nat.le_of_ble_eq_true rfl) d_N_done_72 ⟨Nat.zero_le _, Nat.zero_le _⟩ ?_
    exact ev_iret (pc := 75) d_N_done_75 rfl (Nat.zero_le _) (Nat.zero_le _) ⟨rfl, rfl⟩
  · refine ev_tableIn (pc := 1) (off := 75) (tgt := 76) d_N_done_1 (by decide) (by decide) (by decide) (by decide) ?_
    simp only [nZ_K]
    refine ev_aload_n (pc := 76) d_N_done_76 rfl rfl (by first | rfl | exact mm_rk_rf _) ?_
    refine ev_iload_n (pc := 77) d_N_done_77 rfl rfl ?_
    refine ev_cV (pc := 78) (ct_N_readFrom E C hw hu hr) cl_N_133 jv_N_readFrom ⟨(Nat.le_of_ble_eq_true rfl), (Nat.le_of_ble_eq_true rfl)⟩ rfl sh_N rfl (Nat.le_of_ble_eq_true rfl) d_N_done_78 ⟨Nat.zero_le _, Nat.zero_le _⟩ ?_
    exact ev_iret (pc := 81) d_N_done_81 rfl (Nat.zero_le _) (Nat.zero_le _) ⟨rfl, rfl⟩
  · obtain ⟨r1, r2⟩ := kd_rng (a := 1) (b := 4) g4 (by decide) (by decide) hgk
    refine ev_tableIn (pc := 1) (off := 81) (tgt := 82) d_N_done_1 (by decide) (by decide) (by decide) (by decide) ?_
    simp only [nZ_K]
    refine ev_aload_n (pc := 82) d_N_done_82 rfl rfl (by first | rfl | exact mm_rk_rf _) ?_
    refine ev_iload_n (pc := 83) d_N_done_83 rfl rfl ?_
    refine ev_cV (pc := 84) (ct_N_writeTo E C hw hu hg r1 r2) cl_N_136 jv_N_writeTo ⟨(Nat.le_of_ble_eq_true rfl), (Nat.le_of_ble_eq_true rfl)⟩ rfl sh_N rfl (Nat.le_of_ble_eq_true rfl) d_N_done_84 ⟨Nat.zero_le _, Nat.zero_le _⟩ ?_
    exact ev_iret (pc := 87) d_N_done_87 rfl (Nat.zero_le _) (Nat.zero_le _) ⟨rfl, rfl⟩
  · refine ev_tableIn (pc := 1) (off := 87) (tgt := 88) d_N_done_1 (by decide) (by decide) (by decide) (by decide) ?_
    simp only [nZ_K]
    refine ev_aload_n (pc := 88) d_N_done_88 rfl rfl (by first | rfl | exact mm_rk_rf _) ?_
    refine ev_iload_n (pc := 89) d_N_done_89 rfl rfl ?_
    refine ev_cV (pc := 90) (ct_N_clunk E C hw hu) cl_N_139 jv_N_clunk ⟨(Nat.le_of_ble_eq_true rfl), (Nat.le_of_ble_eq_true rfl)⟩ rfl sh_N rfl (Nat.le_of_ble_eq_true rfl) d_N_done_90 ⟨Nat.zero_le _, Nat.zero_le _⟩ ?_
    exact ev_iret (pc := 93) d_N_done_93 rfl (Nat.zero_le _) (Nat.zero_le _) ⟨rfl, rfl⟩
  · refine ev_tableIn (pc := 1) (off := 93) (tgt := 94) d_N_done_1 (by decide) (by decide) (by decide) (by decide) ?_
    simp only [nZ_K]
    refine ev_aload_n (pc := 94) d_N_done_94 rfl rfl (by first | rfl | exact mm_rk_rf _) ?_
    refine ev_iload_n (pc := 95) d_N_done_95 rfl rfl ?_
    refine ev_cV (pc := 96) (ct_N_remove E C hw hu) cl_N_142 jv_N_remove ⟨(Nat.le_of_ble_eq_true rfl), (Nat.le_of_ble_eq_true rfl)⟩ rfl sh_N rfl (Nat.le_of_ble_eq_true rfl) d_N_done_96 ⟨Nat.zero_le _, Nat.zero_le _⟩ ?_
    exact ev_iret (pc := 99) d_N_done_99 rfl (Nat.zero_le _) (Nat.zero_le _) ⟨rfl, rfl⟩
  · refine ev_tableIn (pc := 1) (off := 99) (tgt := 100) d_N_done_1 (by decide) (by decide) (by decide) (by decide) ?_
    simp only [nZ_K]
    refine ev_aload_n (pc := 100) d_N_done_100 rfl rfl (by first | rfl | exact mm_rk_rf _) ?_
    refine ev_iload_n (pc := 101) d_N_done_101 rfl rfl ?_
    refine ev_cV (pc := 102) (ct_N_stat E C hw hu hr) cl_N_145 jv_N_stat ⟨(Nat.le_of_ble_eq_true rfl), (Nat.le_of_ble_eq_true rfl)⟩ rfl sh_N rfl (Nat.le_of_ble_eq_true rfl) d_N_done_102 ⟨Nat.zero_le _, Nat.zero_le _⟩ ?_
    exact ev_iret (pc := 105) d_N_done_105 rfl (Nat.zero_le _) (Nat.zero_le _) ⟨rfl, rfl⟩
  · refine ev_tableOut (pc := 1) (tgt := 106) d_N_done_1 (by decide) (by decide) ?_
    simp only [nZ_K]
    refine ev_aload_n (pc := 106) d_N_done_106 rfl rfl (by first | rfl | exact mm_rk_rf _) ?_
    refine ev_iload_n (pc := 107) d_N_done_107 rfl rfl ?_
    refine ev_cV (pc := 108) (ct_N_wstat E C hw hu) cl_N_148 jv_N_wstat ⟨(Nat.le_of_ble_eq_true rfl), (Nat.le_of_ble_eq_true rfl)⟩ rfl sh_N rfl (Nat.le_of_ble_eq_true rfl) d_N_done_108 ⟨Nat.zero_le _, Nat.zero_le _⟩ ?_
    exact ev_iret (pc := 111) d_N_done_111 rfl (Nat.zero_le _) (Nat.zero_le _) ⟨rfl, rfl⟩
def nz_n (C : Nat → Nat → Int32) (r k : Nat) : Nat → Nat → Int32 := fun a j => if a = 228 ∧ j < k then C 225 (4 * r + j) else C a j
/-- a request is taken up: k numbers -/
def nz_B (C : Nat → Nat → Int32) (r k : Nat) : Nat → Nat → Int32 := cs_C (cs_C (nz_n (cs_C C 204 29 (nI k)) r k) 222 r (-1)) 204 26 0
noncomputable def nz_Q (p : Int32 × (Nat → Nat → Int32)) : Int32 × (Nat → Nat → Int32) := (p.1, if p.1 < 0 then cs_C p.2 204 26 0 else p.2)
noncomputable def nZ_R (C : Nat → Nat → Int32) (r kd f t s k : Nat) : Int32 × (Nat → Nat → Int32) := if C 222 r < 0 then (-20, C) else if ¬ (¬ nI k < st_f kd ∧ ¬ st_g kd < nI k) then (-7, nz_B C r k) else nz_Q (nZ_K (nz_B C r k) kd f t s k)
theorem nz_out {C : Nat → Nat → Int32} {r k a j : Nat} (h1 : a ≠ 204) (h2 : a ≠ 222) (h3 : a ≠ 228) : nz_B C r k a j = C a j := by
  unfold nz_B nz_n
  rw [cs_ne _ _ (by omega), cs_ne _ _ (by omega), if_neg (by omega), cs_ne _ _ (by omega)]
theorem nz_o4 {C : Nat → Nat → Int32} {r k j : Nat} (h1 : j ≠ 26) (h2 : j ≠ 29) : nz_B C r k 204 j = C 204 j := by
  unfold nz_B nz_n
  rw [cs_ne _ _ (by omega), cs_ne _ _ (by omega), if_neg (by omega), cs_ne _ _ (by omega)]
theorem nz_nw {C : Nat → Nat → Int32} {r k s : Nat} (hw : nw_P C s) : nw_P (nz_B C r k) s :=
  nw_c (funext fun _ => nz_out (by decide) (by decide) (by decide)) (funext fun _ => nz_out (by decide) (by decide) (by decide)) (funext fun _ => nz_out (by decide) (by decide) (by decide)) (funext fun _ => nz_out (by decide) (by decide) (by decide)) (funext fun _ => nz_out (by decide) (by decide) (by decide)) (nz_o4 (by decide) (by decide)) hw
theorem nz_nu {C : Nat → Nat → Int32} {r k f t : Nat} (hu : nu_P C f t) : nu_P (nz_B C r k) f t := by
  unfold nu_P
  rw [nz_out (by decide) (by decide) (by decide), nz_out (by decide) (by decide) (by decide)]
  exact hu
theorem d_N_serve_0 : decode b_N_serve 0 = .ok (.aload_n 0, 1) := by decide +kernel
theorem d_N_serve_1 : decode b_N_serve 1 = .ok (.iload_n 1, 1) := by decide +kernel
theorem d_N_serve_2 : decode b_N_serve 2 = .ok (.iload_n 2, 1) := by decide +kernel
theorem d_N_serve_3 : decode b_N_serve 3 = .ok (.invokevirtual 103, 3) := by decide +kernel
theorem d_N_serve_6 : decode b_N_serve 6 = .ok (.ifCond .ne 6, 3) := by decide +kernel
theorem d_N_serve_9 : decode b_N_serve 9 = .ok (.bipush (-20), 2) := by decide +kernel
theorem d_N_serve_11 : decode b_N_serve 11 = .ok (.ireturn, 1) := by decide +kernel
theorem d_N_serve_12 : decode b_N_serve 12 = .ok (.bipush 8, 2) := by decide +kernel
theorem d_N_serve_14 : decode b_N_serve 14 = .ok (.iload_n 1, 1) := by decide +kernel
theorem d_N_serve_15 : decode b_N_serve 15 = .ok (.imul, 1) := by decide +kernel
theorem d_N_serve_16 : decode b_N_serve 16 = .ok (.iload_n 2, 1) := by decide +kernel
theorem d_N_serve_17 : decode b_N_serve 17 = .ok (.iadd, 1) := by decide +kernel
theorem d_N_serve_18 : decode b_N_serve 18 = .ok (.istore_n 3, 1) := by decide +kernel
theorem d_N_serve_19 : decode b_N_serve 19 = .ok (.aload_n 0, 1) := by decide +kernel
theorem d_N_serve_20 : decode b_N_serve 20 = .ok (.getfield 69, 3) := by decide +kernel
theorem d_N_serve_23 : decode b_N_serve 23 = .ok (.iload_n 3, 1) := by decide +kernel
theorem d_N_serve_24 : decode b_N_serve 24 = .ok (.iaload, 1) := by decide +kernel
theorem d_N_serve_25 : decode b_N_serve 25 = .ok (.istore 4, 2) := by decide +kernel
theorem d_N_serve_27 : decode b_N_serve 27 = .ok (.aload_n 0, 1) := by decide +kernel
theorem d_N_serve_28 : decode b_N_serve 28 = .ok (.getfield 72, 3) := by decide +kernel
theorem d_N_serve_31 : decode b_N_serve 31 = .ok (.iload_n 3, 1) := by decide +kernel
theorem d_N_serve_32 : decode b_N_serve 32 = .ok (.iaload, 1) := by decide +kernel
theorem d_N_serve_33 : decode b_N_serve 33 = .ok (.istore 5, 2) := by decide +kernel
theorem d_N_serve_35 : decode b_N_serve 35 = .ok (.aload_n 0, 1) := by decide +kernel
theorem d_N_serve_36 : decode b_N_serve 36 = .ok (.aload_n 0, 1) := by decide +kernel
theorem d_N_serve_37 : decode b_N_serve 37 = .ok (.getfield 75, 3) := by decide +kernel
theorem d_N_serve_40 : decode b_N_serve 40 = .ok (.iload_n 3, 1) := by decide +kernel
theorem d_N_serve_41 : decode b_N_serve 41 = .ok (.iaload, 1) := by decide +kernel
theorem d_N_serve_42 : decode b_N_serve 42 = .ok (.putfield 107, 3) := by decide +kernel
theorem d_N_serve_45 : decode b_N_serve 45 = .ok (.iconst 0, 1) := by decide +kernel
theorem d_N_serve_46 : decode b_N_serve 46 = .ok (.istore 6, 2) := by decide +kernel
theorem d_N_serve_48 : decode b_N_serve 48 = .ok (.iload 6, 2) := by decide +kernel
theorem d_N_serve_50 : decode b_N_serve 50 = .ok (.aload_n 0, 1) := by decide +kernel
theorem d_N_serve_51 : decode b_N_serve 51 = .ok (.getfield 107, 3) := by decide +kernel
theorem d_N_serve_54 : decode b_N_serve 54 = .ok (.if_icmp .ge 27, 3) := by decide +kernel
theorem d_N_serve_57 : decode b_N_serve 57 = .ok (.aload_n 0, 1) := by decide +kernel
theorem d_N_serve_58 : decode b_N_serve 58 = .ok (.getfield 87, 3) := by decide +kernel
theorem d_N_serve_61 : decode b_N_serve 61 = .ok (.iload 6, 2) := by decide +kernel
theorem d_N_serve_63 : decode b_N_serve 63 = .ok (.aload_n 0, 1) := by decide +kernel
theorem d_N_serve_64 : decode b_N_serve 64 = .ok (.getfield 78, 3) := by decide +kernel
theorem d_N_serve_67 : decode b_N_serve 67 = .ok (.iconst 4, 1) := by decide +kernel
theorem d_N_serve_68 : decode b_N_serve 68 = .ok (.iload_n 3, 1) := by decide +kernel
theorem d_N_serve_69 : decode b_N_serve 69 = .ok (.imul, 1) := by decide +kernel
theorem d_N_serve_70 : decode b_N_serve 70 = .ok (.iload 6, 2) := by decide +kernel
theorem d_N_serve_72 : decode b_N_serve 72 = .ok (.iadd, 1) := by decide +kernel
theorem d_N_serve_73 : decode b_N_serve 73 = .ok (.iaload, 1) := by decide +kernel
theorem d_N_serve_74 : decode b_N_serve 74 = .ok (.iastore, 1) := by decide +kernel
theorem d_N_serve_75 : decode b_N_serve 75 = .ok (.iinc 6 1, 3) := by decide +kernel
theorem d_N_serve_78 : decode b_N_serve 78 = .ok (.goto (-30), 3) := by decide +kernel
theorem d_N_serve_81 : decode b_N_serve 81 = .ok (.aload_n 0, 1) := by decide +kernel
theorem d_N_serve_82 : decode b_N_serve 82 = .ok (.getfield 69, 3) := by decide +kernel
theorem d_N_serve_85 : decode b_N_serve 85 = .ok (.iload_n 3, 1) := by decide +kernel
theorem d_N_serve_86 : decode b_N_serve 86 = .ok (.iconst (-1), 1) := by decide +kernel
theorem d_N_serve_87 : decode b_N_serve 87 = .ok (.iastore, 1) := by decide +kernel
theorem d_N_serve_88 : decode b_N_serve 88 = .ok (.aload_n 0, 1) := by decide +kernel
theorem d_N_serve_89 : decode b_N_serve 89 = .ok (.iconst 0, 1) := by decide +kernel
theorem d_N_serve_90 : decode b_N_serve 90 = .ok (.putfield 96, 3) := by decide +kernel
theorem d_N_serve_93 : decode b_N_serve 93 = .ok (.aload_n 0, 1) := by decide +kernel
theorem d_N_serve_94 : decode b_N_serve 94 = .ok (.getfield 107, 3) := by decide +kernel
theorem d_N_serve_97 : decode b_N_serve 97 = .ok (.iload 4, 2) := by decide +kernel
theorem d_N_serve_99 : decode b_N_serve 99 = .ok (.invokestatic 110, 3) := by decide +kernel
theorem d_N_serve_102 : decode b_N_serve 102 = .ok (.if_icmp .lt 15, 3) := by decide +kernel
theorem d_N_serve_105 : decode b_N_serve 105 = .ok (.aload_n 0, 1) := by decide +kernel
theorem d_N_serve_106 : decode b_N_serve 106 = .ok (.getfield 107, 3) := by decide +kernel
theorem d_N_serve_109 : decode b_N_serve 109 = .ok (.iload 4, 2) := by decide +kernel
theorem d_N_serve_111 : decode b_N_serve 111 = .ok (.invokestatic 114, 3) := by decide +kernel
theorem d_N_serve_114 : decode b_N_serve 114 = .ok (.if_icmp .le 6, 3) := by decide +kernel
theorem d_N_serve_117 : decode b_N_serve 117 = .ok (.bipush (-7), 2) := by decide +kernel
theorem d_N_serve_119 : decode b_N_serve 119 = .ok (.ireturn, 1) := by decide +kernel
theorem d_N_serve_120 : decode b_N_serve 120 = .ok (.aload_n 0, 1) := by decide +kernel
theorem d_N_serve_121 : decode b_N_serve 121 = .ok (.iload 4, 2) := by decide +kernel
theorem d_N_serve_123 : decode b_N_serve 123 = .ok (.iload 5, 2) := by decide +kernel
theorem d_N_serve_125 : decode b_N_serve 125 = .ok (.invokevirtual 117, 3) := by decide +kernel
theorem d_N_serve_128 : decode b_N_serve 128 = .ok (.istore 6, 2) := by decide +kernel
theorem d_N_serve_130 : decode b_N_serve 130 = .ok (.iload 6, 2) := by decide +kernel
theorem d_N_serve_132 : decode b_N_serve 132 = .ok (.ifCond .ge 8, 3) := by decide +kernel
theorem d_N_serve_135 : decode b_N_serve 135 = .ok (.aload_n 0, 1) := by decide +kernel
theorem d_N_serve_136 : decode b_N_serve 136 = .ok (.iconst 0, 1) := by decide +kernel
theorem d_N_serve_137 : decode b_N_serve 137 = .ok (.putfield 96, 3) := by decide +kernel
theorem d_N_serve_140 : decode b_N_serve 140 = .ok (.iload 6, 2) := by decide +kernel
theorem d_N_serve_142 : decode b_N_serve 142 = .ok (.ireturn, 1) := by decide +kernel
set_option maxRecDepth 20000 in
set_option maxHeartbeats 1000000 in
theorem ct_N_serve (E : mm_En) (C : Nat → Nat → Int32) {c t0 kd f t s k : Nat} (hc : c < 2) (ht0 : t0 < 8) (hw : nw_P C s) (hq : ¬ C 222 (8 * c + t0) < 0 → kd < 10 ∧ C 222 (8 * c + t0) = nI kd ∧ C 223 (8 * c + t0) = nI f ∧ C 224 (8 * c + t0) = nI k ∧ k ≤ 4 ∧ nu_P C f t) : mm_MT E K_N_serve [.ref 204, .int (nI c), .int (nI t0)] (hp_H C) (mm_D (some (.int (nZ_R C (8 * c + t0) kd f t s k).1)) (nZ_R C (8 * c + t0) kd f t s k).2) := by
  obtain ⟨r, er⟩ : ∃ r, r = 8 * c + t0 := ⟨_, rfl⟩
  have hr16 : r < 16 := by omega
  rw [← er] at hq ⊢
  refine mm_mtL (by decide) (by rfl) (Nat.le_of_ble_eq_true rfl) rfl ?_
  refine ev_aload_n (pc := 0) d_N_serve_0 rfl rfl (by first | rfl | exact mm_rk_rf _) ?_
  refine ev_iload_n (pc := 1) d_N_serve_1 rfl rfl ?_
  refine ev_iload_n (pc := 2) d_N_serve_2 rfl rfl ?_
  refine ev_cV (pc := 3) (ct_N_waits E C hc ht0) cl_N_103 jv_N_waits ⟨(Nat.le_of_ble_eq_true rfl), (Nat.le_of_ble_eq_true rfl)⟩ rfl sh_N rfl (Nat.le_of_ble_eq_true rfl) d_N_serve_3 ⟨Nat.zero_le _, Nat.zero_le _⟩ ?_
  rw [← er]
  refine ev_if_ne (pc := 6) (tgt := 12) d_N_serve_6 (by decide) (fun ha => ?_) (fun ha => ?_)
  rotate_left
  · rw [b2_0, Classical.not_not] at ha
    rw [nZ_R, if_pos ha]
    refine ev_bipush (pc := 9) (v := -20) d_N_serve_9 (by decide) ?_
    exact ev_iret (pc := 11) d_N_serve_11 rfl (Nat.zero_le _) (Nat.zero_le _) ⟨rfl, rfl⟩
  rw [b2_0, Classical.not_not] at ha
  obtain ⟨q1, q2, q3, q4, q5, q6⟩ := hq ha
  rw [nZ_R, if_neg ha]
  refine ev_bipush (pc := 12) (v := nI 8) d_N_serve_12 (by decide) ?_
  refine ev_iload_n (pc := 14) d_N_serve_14 rfl rfl ?_
  first | refine ev_imulN (pc := 15) d_N_serve_15 ?_ | refine ev_imul (pc := 15) d_N_serve_15 ?_
  refine ev_iload_n (pc := 16) d_N_serve_16 rfl rfl ?_
  first | refine ev_iaddN (pc := 17) d_N_serve_17 ?_ | refine ev_iadd (pc := 17) d_N_serve_17 ?_
  rw [← er]
  refine ev_istore_n (pc := 18) d_N_serve_18 rfl (Nat.le_of_ble_eq_true rfl) rfl ?_
  try dsimp only [List.set]
  refine ev_aload_n (pc := 19) d_N_serve_19 rfl rfl (by first | rfl | exact mm_rk_rf _) ?_
  refine ev_gR (pc := 20) sh_N (by rfl) fl_N_69 d_N_serve_20 ?_
  refine ev_iload_n (pc := 23) d_N_serve_23 rfl rfl ?_
  refine ev_rIN (pc := 24) sh_N_kind (by omega) (by decide) d_N_serve_24 ?_
  rw [q2]
  refine ev_istore (pc := 25) d_N_serve_25 (Nat.le_of_ble_eq_true rfl) rfl ?_
  try dsimp only [List.set]
  refine ev_aload_n (pc := 27) d_N_serve_27 rfl rfl (by first | rfl | exact mm_rk_rf _) ?_
  refine ev_gR (pc := 28) sh_N (by rfl) fl_N_72 d_N_serve_28 ?_
  refine ev_iload_n (pc := 31) d_N_serve_31 rfl rfl ?_
  refine ev_rIN (pc := 32) sh_N_about (by omega) (by decide) d_N_serve_32 ?_
  rw [q3]
  refine ev_istore (pc := 33) d_N_serve_33 (Nat.le_of_ble_eq_true rfl) rfl ?_
  try dsimp only [List.set]
  refine ev_aload_n (pc := 35) d_N_serve_35 rfl rfl (by first | rfl | exact mm_rk_rf _) ?_
  refine ev_aload_n (pc := 36) d_N_serve_36 rfl rfl (by first | rfl | exact mm_rk_rf _) ?_
  refine ev_gR (pc := 37) sh_N (by rfl) fl_N_75 d_N_serve_37 ?_
  refine ev_iload_n (pc := 40) d_N_serve_40 rfl rfl ?_
  refine ev_rIN (pc := 41) sh_N_count (by omega) (by decide) d_N_serve_41 ?_
  rw [q4]
  refine ev_pI (pc := 42) sh_N (by rfl) fl_N_107 fw_9_29 (by rfl) d_N_serve_42 ?_
  have e29 : ∀ i, nz_n (cs_C C 204 29 (nI k)) r i 204 29 = nI k := by
    intro i
    simp only [nz_n]
    rw [if_neg (by omega), cs_at]
  obtain ⟨R, eR⟩ : ∃ R, R = (if ¬ (¬ nI k < st_f kd ∧ ¬ st_g kd < nI k) then (-7, nz_B C r k) else nz_Q (nZ_K (nz_B C r k) kd f t s k)) := ⟨_, rfl⟩
  rw [← eR]
  have loop : ∀ d i : Nat, i + d = k → ev_At E K_N_serve 48 [some (.ref 204), some (.int (nI c)), some (.int (nI t0)), some (.int (nI r)), some (.int (nI kd)), some (.int (nI f)), some (.int (nI i))] [] (hp_H (nz_n (cs_C C 204 29 (nI k)) r i)) 0 0 (mm_D (some (.int R.1)) R.2) := by
    intro d
    induction d with
    | zero =>
      intro i hi
      have ei : i = k := by omega
      subst ei
      refine ev_iload (pc := 48) d_N_serve_48 rfl ?_
      refine ev_aload_n (pc := 50) d_N_serve_50 rfl rfl (by first | rfl | exact mm_rk_rf _) ?_
      refine ev_gI (pc := 51) sh_N (by rfl) fl_N_107 d_N_serve_51 ?_
      rw [e29]
      refine ev_icmp_ge (pc := 54) (tgt := 81) d_N_serve_54 (by decide) (fun hx => ?_) (fun hx => ?_)
      rotate_left
      · exact absurd (Int32.le_refl _) hx
      refine ev_aload_n (pc := 81) d_N_serve_81 rfl rfl (by first | rfl | exact mm_rk_rf _) ?_
      refine ev_gR (pc := 82) sh_N (by rfl) fl_N_69 d_N_serve_82 ?_
      refine ev_iload_n (pc := 85) d_N_serve_85 rfl rfl ?_
      refine ev_iconst (pc := 86) (v := -1) d_N_serve_86 rfl ?_
      refine ev_wIN (pc := 87) sh_N_kind (by omega) (by decide) d_N_serve_87 ?_
      refine ev_aload_n (pc := 88) d_N_serve_88 rfl rfl (by first | rfl | exact mm_rk_rf _) ?_
      refine ev_iconst (pc := 89) (v := 0) d_N_serve_89 rfl ?_
      refine ev_pI (pc := 90) sh_N (by rfl) fl_N_96 fw_9_26 (by rfl) d_N_serve_90 ?_
      refine ev_eq rfl rfl rfl (show _ = hp_H (nz_B C r i) from rfl) rfl rfl ?_
      have g29 : nz_B C r i 204 29 = nI i := by
        unfold nz_B
        rw [cs_ne _ _ (by omega), cs_ne _ _ (by omega)]
        exact e29 i
      have g26 : nz_B C r i 204 26 = nI 0 := cs_at _ _ _ _
      have hb1 := nz_nw (r := r) (k := i) hw
      have hb2 := nz_nu (r := r) (k := i) q6
      generalize nz_B C r i = B at g29 g26 hb1 hb2 eR ⊢
      obtain ⟨l1, l2⟩ := nl_f kd q1
      refine ev_aload_n (pc := 93) d_N_serve_93 rfl rfl (by first | rfl | exact mm_rk_rf _) ?_
      refine ev_gI (pc := 94) sh_N (by rfl) fl_N_107 d_N_serve_94 ?_
      rw [g29]
      refine ev_iload (pc := 97) d_N_serve_97 rfl ?_
      refine ev_cS (pc := 99) (ct_N_least E B _) cl_N_110 js_N_least ⟨(Nat.le_of_ble_eq_true rfl), (Nat.le_of_ble_eq_true rfl)⟩ rfl rfl (Nat.le_of_ble_eq_true rfl) d_N_serve_99 ⟨Nat.zero_le _, Nat.zero_le _⟩ ?_
      rw [l1]
      refine ev_icmp_lt (pc := 102) (tgt := 117) d_N_serve_102 (by decide) (fun h1 => ?_) (fun h1 => ?_)
      · rw [eR, if_pos (fun z => z.1 h1)]
        refine ev_bipush (pc := 117) (v := -7) d_N_serve_117 (by decide) ?_
        exact ev_iret (pc := 119) d_N_serve_119 rfl (Nat.zero_le _) (Nat.zero_le _) ⟨rfl, rfl⟩
      refine ev_aload_n (pc := 105) d_N_serve_105 rfl rfl (by first | rfl | exact mm_rk_rf _) ?_
      refine ev_gI (pc := 106) sh_N (by rfl) fl_N_107 d_N_serve_106 ?_
      rw [g29]
      refine ev_iload (pc := 109) d_N_serve_109 rfl ?_
      refine ev_cS (pc := 111) (ct_N_most E B _) cl_N_114 js_N_most ⟨(Nat.le_of_ble_eq_true rfl), (Nat.le_of_ble_eq_true rfl)⟩ rfl rfl (Nat.le_of_ble_eq_true rfl) d_N_serve_111 ⟨Nat.zero_le _, Nat.zero_le _⟩ ?_
      rw [l2]
      refine ev_icmp_le (pc := 114) (tgt := 120) d_N_serve_114 (by decide) (fun h2 => ?_) (fun h2 => ?_)
      rotate_left
      · rw [eR, if_pos (fun z => z.2 (Int32.not_le.mp h2))]
        refine ev_bipush (pc := 117) (v := -7) d_N_serve_117 (by decide) ?_
        exact ev_iret (pc := 119) d_N_serve_119 rfl (Nat.zero_le _) (Nat.zero_le _) ⟨rfl, rfl⟩
      have h12 : ¬ nI i < st_f kd ∧ ¬ st_g kd < nI i := ⟨h1, Int32.not_lt.mpr h2⟩
      rw [eR, if_neg (fun z => z h12)]
      refine ev_aload_n (pc := 120) d_N_serve_120 rfl rfl (by first | rfl | exact mm_rk_rf _) ?_
      refine ev_iload (pc := 121) d_N_serve_121 rfl ?_
      refine ev_iload (pc := 123) d_N_serve_123 rfl ?_
      refine ev_cV (pc := 125) (ct_N_done E B hb1 hb2 g26 g29 h12 q5 q1) cl_N_117 jv_N_done ⟨(Nat.le_of_ble_eq_true rfl), (Nat.le_of_ble_eq_true rfl)⟩ rfl sh_N rfl (Nat.le_of_ble_eq_true rfl) d_N_serve_125 ⟨Nat.zero_le _, Nat.zero_le _⟩ ?_
      refine ev_istore (pc := 128) d_N_serve_128 (Nat.le_of_ble_eq_true rfl) rfl ?_
      try dsimp only [List.set]
      refine ev_iload (pc := 130) d_N_serve_130 rfl ?_
      refine ev_if_ge (pc := 132) (tgt := 140) d_N_serve_132 (by decide) (fun h3 => ?_) (fun h3 => ?_)
      · rw [nz_Q, if_neg (Int32.not_lt.mpr h3)]
        refine ev_iload (pc := 140) d_N_serve_140 rfl ?_
        exact ev_iret (pc := 142) d_N_serve_142 rfl (Nat.zero_le _) (Nat.zero_le _) ⟨rfl, rfl⟩
      · rw [nz_Q, if_pos (Int32.not_le.mp h3)]
        refine ev_aload_n (pc := 135) d_N_serve_135 rfl rfl (by first | rfl | exact mm_rk_rf _) ?_
        refine ev_iconst (pc := 136) (v := 0) d_N_serve_136 rfl ?_
        refine ev_pI (pc := 137) sh_N (by rfl) fl_N_96 fw_9_26 (by rfl) d_N_serve_137 ?_
        refine ev_iload (pc := 140) d_N_serve_140 rfl ?_
        exact ev_iret (pc := 142) d_N_serve_142 rfl (Nat.zero_le _) (Nat.zero_le _) ⟨rfl, rfl⟩
    | succ d ih =>
      intro i hi
      refine ev_iload (pc := 48) d_N_serve_48 rfl ?_
      refine ev_aload_n (pc := 50) d_N_serve_50 rfl rfl (by first | rfl | exact mm_rk_rf _) ?_
      refine ev_gI (pc := 51) sh_N (by rfl) fl_N_107 d_N_serve_51 ?_
      rw [e29]
      refine ev_icmp_ge (pc := 54) (tgt := 81) d_N_serve_54 (by decide) (fun hx => ?_) (fun hx => ?_)
      · exact absurd hx (nI_ge (by omega) (by omega))
      refine ev_aload_n (pc := 57) d_N_serve_57 rfl rfl (by first | rfl | exact mm_rk_rf _) ?_
      refine ev_gR (pc := 58) sh_N (by rfl) fl_N_87 d_N_serve_58 ?_
      refine ev_iload (pc := 61) d_N_serve_61 rfl ?_
      refine ev_aload_n (pc := 63) d_N_serve_63 rfl rfl (by first | rfl | exact mm_rk_rf _) ?_
      refine ev_gR (pc := 64) sh_N (by rfl) fl_N_78 d_N_serve_64 ?_
      refine ev_iconst (pc := 67) (v := nI 4) d_N_serve_67 rfl ?_
      refine ev_iload_n (pc := 68) d_N_serve_68 rfl rfl ?_
      first | refine ev_imulN (pc := 69) d_N_serve_69 ?_ | refine ev_imul (pc := 69) d_N_serve_69 ?_
      refine ev_iload (pc := 70) d_N_serve_70 rfl ?_
      first | refine ev_iaddN (pc := 72) d_N_serve_72 ?_ | refine ev_iadd (pc := 72) d_N_serve_72 ?_
      refine ev_rIN (pc := 73) sh_N_numbers (by omega) (by decide) d_N_serve_73 ?_
      refine ev_wIN (pc := 74) sh_N_n (by omega) (by decide) d_N_serve_74 ?_
      have e : cs_C (nz_n (cs_C C 204 29 (nI k)) r i) 228 i (nz_n (cs_C C 204 29 (nI k)) r i 225 (4 * r + i)) = nz_n (cs_C C 204 29 (nI k)) r (i + 1) := by
        funext a j
        rw [cs_app]
        simp only [nz_n]
        rw [if_neg (show ¬ (225 = 228 ∧ 4 * r + i < i) by omega)]
        by_cases q1 : a = 228 ∧ j = i
        · rw [if_pos q1, if_pos (by omega), q1.2]
        · rw [if_neg q1]
          by_cases q2 : a = 228 ∧ j < i
          · rw [if_pos q2, if_pos (by omega)]
          · rw [if_neg q2, if_neg (by omega)]
      rw [e]
      refine ev_iinc (pc := 75) d_N_serve_75 (Nat.le_of_ble_eq_true rfl) rfl (nx_inc _) rfl ?_
      try dsimp only [List.set]
      refine ev_goto (pc := 78) (tgt := 48) d_N_serve_78 (by decide) ?_
      exact ih (i + 1) (by omega)
  refine ev_iconst (pc := 45) (v := 0) d_N_serve_45 rfl ?_
  refine ev_istore (pc := 46) d_N_serve_46 (Nat.le_of_ble_eq_true rfl) rfl ?_
  try dsimp only [List.set]
  have h7 := loop k 0 (by omega)
  have e0 : nz_n (cs_C C 204 29 (nI k)) r 0 = cs_C C 204 29 (nI k) := by
    funext a j
    simp only [nz_n]
    rw [if_neg (by omega)]
  rw [e0] at h7
  exact h7
theorem ct_N_serveN (E : mm_En) (C : Nat → Nat → Int32) {x y : Int32} (hx : (x < 0 ∨ 2 ≤ x) ∨ (y < 0 ∨ 8 ≤ y)) : mm_MT E K_N_serve [.ref 204, .int x, .int y] (hp_H C) (mm_D (some (.int (-20))) C) := by
  refine mm_mtL (by decide) (by rfl) (Nat.le_of_ble_eq_true rfl) rfl ?_
  refine ev_aload_n (pc := 0) d_N_serve_0 rfl rfl (by first | rfl | exact mm_rk_rf _) ?_
  refine ev_iload_n (pc := 1) d_N_serve_1 rfl rfl ?_
  refine ev_iload_n (pc := 2) d_N_serve_2 rfl rfl ?_
  refine ev_cV (pc := 3) (ct_N_waitsF E C hx) cl_N_103 jv_N_waits ⟨(Nat.le_of_ble_eq_true rfl), (Nat.le_of_ble_eq_true rfl)⟩ rfl sh_N rfl (Nat.le_of_ble_eq_true rfl) d_N_serve_3 ⟨Nat.zero_le _, Nat.zero_le _⟩ ?_
  refine ev_if_ne (pc := 6) (tgt := 12) d_N_serve_6 (by decide) (fun ha => ?_) (fun ha => ?_)
  · exact absurd rfl ha
  · refine ev_bipush (pc := 9) (v := -20) d_N_serve_9 (by decide) ?_
    exact ev_iret (pc := 11) d_N_serve_11 rfl (Nat.zero_le _) (Nat.zero_le _) ⟨rfl, rfl⟩
noncomputable def nH_f (C : Nat → Nat → Int32) (c s : Nat) : Nat → Nat → Nat → Int32
  | 0 => nf_2 C 222 (8 * c) (8 * c + 8)
  | n + 1 => (nK_R (nH_f C c s n) (6 * c + n) (C 218 (6 * c + n)).toNatClampNeg s).2
theorem d_N_hangUp_0 : decode b_N_hangUp 0 = .ok (.iload_n 1, 1) := by decide +kernel
theorem d_N_hangUp_1 : decode b_N_hangUp 1 = .ok (.invokestatic 99, 3) := by decide +kernel
theorem d_N_hangUp_4 : decode b_N_hangUp 4 = .ok (.ifCond .ne 5, 3) := by decide +kernel
theorem d_N_hangUp_7 : decode b_N_hangUp 7 = .ok (.iconst 0, 1) := by decide +kernel
theorem d_N_hangUp_8 : decode b_N_hangUp 8 = .ok (.ireturn, 1) := by decide +kernel
theorem d_N_hangUp_9 : decode b_N_hangUp 9 = .ok (.bipush 8, 2) := by decide +kernel
theorem d_N_hangUp_11 : decode b_N_hangUp 11 = .ok (.iload_n 1, 1) := by decide +kernel
theorem d_N_hangUp_12 : decode b_N_hangUp 12 = .ok (.imul, 1) := by decide +kernel
theorem d_N_hangUp_13 : decode b_N_hangUp 13 = .ok (.istore_n 2, 1) := by decide +kernel
theorem d_N_hangUp_14 : decode b_N_hangUp 14 = .ok (.iload_n 2, 1) := by decide +kernel
theorem d_N_hangUp_15 : decode b_N_hangUp 15 = .ok (.bipush 8, 2) := by decide +kernel
theorem d_N_hangUp_17 : decode b_N_hangUp 17 = .ok (.iload_n 1, 1) := by decide +kernel
theorem d_N_hangUp_18 : decode b_N_hangUp 18 = .ok (.imul, 1) := by decide +kernel
theorem d_N_hangUp_19 : decode b_N_hangUp 19 = .ok (.bipush 8, 2) := by decide +kernel
theorem d_N_hangUp_21 : decode b_N_hangUp 21 = .ok (.iadd, 1) := by decide +kernel
theorem d_N_hangUp_22 : decode b_N_hangUp 22 = .ok (.if_icmp .ge 16, 3) := by decide +kernel
theorem d_N_hangUp_25 : decode b_N_hangUp 25 = .ok (.aload_n 0, 1) := by decide +kernel
theorem d_N_hangUp_26 : decode b_N_hangUp 26 = .ok (.getfield 69, 3) := by decide +kernel
theorem d_N_hangUp_29 : decode b_N_hangUp 29 = .ok (.iload_n 2, 1) := by decide +kernel
theorem d_N_hangUp_30 : decode b_N_hangUp 30 = .ok (.iconst (-1), 1) := by decide +kernel
theorem d_N_hangUp_31 : decode b_N_hangUp 31 = .ok (.iastore, 1) := by decide +kernel
theorem d_N_hangUp_32 : decode b_N_hangUp 32 = .ok (.iinc 2 1, 3) := by decide +kernel
theorem d_N_hangUp_35 : decode b_N_hangUp 35 = .ok (.goto (-21), 3) := by decide +kernel
theorem d_N_hangUp_38 : decode b_N_hangUp 38 = .ok (.bipush 6, 2) := by decide +kernel
theorem d_N_hangUp_40 : decode b_N_hangUp 40 = .ok (.iload_n 1, 1) := by decide +kernel
theorem d_N_hangUp_41 : decode b_N_hangUp 41 = .ok (.imul, 1) := by decide +kernel
theorem d_N_hangUp_42 : decode b_N_hangUp 42 = .ok (.istore_n 2, 1) := by decide +kernel
theorem d_N_hangUp_43 : decode b_N_hangUp 43 = .ok (.iload_n 2, 1) := by decide +kernel
theorem d_N_hangUp_44 : decode b_N_hangUp 44 = .ok (.bipush 6, 2) := by decide +kernel
theorem d_N_hangUp_46 : decode b_N_hangUp 46 = .ok (.iload_n 1, 1) := by decide +kernel
theorem d_N_hangUp_47 : decode b_N_hangUp 47 = .ok (.imul, 1) := by decide +kernel
theorem d_N_hangUp_48 : decode b_N_hangUp 48 = .ok (.bipush 6, 2) := by decide +kernel
theorem d_N_hangUp_50 : decode b_N_hangUp 50 = .ok (.iadd, 1) := by decide +kernel
theorem d_N_hangUp_51 : decode b_N_hangUp 51 = .ok (.if_icmp .ge 15, 3) := by decide +kernel
theorem d_N_hangUp_54 : decode b_N_hangUp 54 = .ok (.aload_n 0, 1) := by decide +kernel
theorem d_N_hangUp_55 : decode b_N_hangUp 55 = .ok (.iload_n 2, 1) := by decide +kernel
theorem d_N_hangUp_56 : decode b_N_hangUp 56 = .ok (.invokevirtual 139, 3) := by decide +kernel
theorem d_N_hangUp_59 : decode b_N_hangUp 59 = .ok (.pop, 1) := by decide +kernel
theorem d_N_hangUp_60 : decode b_N_hangUp 60 = .ok (.iinc 2 1, 3) := by decide +kernel
theorem d_N_hangUp_63 : decode b_N_hangUp 63 = .ok (.goto (-20), 3) := by decide +kernel
theorem d_N_hangUp_66 : decode b_N_hangUp 66 = .ok (.iconst 1, 1) := by decide +kernel
theorem d_N_hangUp_67 : decode b_N_hangUp 67 = .ok (.ireturn, 1) := by decide +kernel
set_option maxRecDepth 20000 in
theorem ct_N_hangUp (E : mm_En) (C : Nat → Nat → Int32) {c s : Nat} (hc : c < 2) (hH : ∀ n, n < 6 → nw_P (nH_f C c s n) s ∧ nu_P (nH_f C c s n) (6 * c + n) (C 218 (6 * c + n)).toNatClampNeg) : mm_MT E K_N_hangUp [.ref 204, .int (nI c)] (hp_H C) (mm_D (some (.int 1)) (nH_f C c s 6)) := by
  have loop2 : ∀ d n : Nat, n + d = 6 → ev_At E K_N_hangUp 43 [some (.ref 204), some (.int (nI c)), some (.int (nI (6 * c + n)))] [] (hp_H (nH_f C c s n)) 0 0 (mm_D (some (.int 1)) (nH_f C c s 6)) := by
    intro d
    induction d with
    | zero =>
      intro n hn
      have en : n = 6 := by omega
      subst en
      refine ev_iload_n (pc := 43) d_N_hangUp_43 rfl rfl ?_
      refine ev_bipush (pc := 44) (v := nI 6) d_N_hangUp_44 (by decide) ?_
      refine ev_iload_n (pc := 46) d_N_hangUp_46 rfl rfl ?_
      first | refine ev_imulN (pc := 47) d_N_hangUp_47 ?_ | refine ev_imul (pc := 47) d_N_hangUp_47 ?_
      refine ev_bipush (pc := 48) (v := nI 6) d_N_hangUp_48 (by decide) ?_
      first | refine ev_iaddN (pc := 50) d_N_hangUp_50 ?_ | refine ev_iadd (pc := 50) d_N_hangUp_50 ?_
      refine ev_icmp_ge (pc := 51) (tgt := 66) d_N_hangUp_51 (by decide) (fun hx => ?_) (fun hx => ?_)
      rotate_left
      · exact absurd (Int32.le_refl _) hx
      refine ev_iconst (pc := 66) (v := 1) d_N_hangUp_66 rfl ?_
      exact ev_zret (pc := 67) d_N_hangUp_67 rfl (by first | exact Or.inl rfl | exact Or.inr rfl | assumption) (Nat.zero_le _) (Nat.zero_le _) ⟨rfl, rfl⟩
    | succ d ih =>
      intro n hn
      obtain ⟨w1, w2⟩ := hH n (by omega)
      refine ev_iload_n (pc := 43) d_N_hangUp_43 rfl rfl ?_
      refine ev_bipush (pc := 44) (v := nI 6) d_N_hangUp_44 (by decide) ?_
      refine ev_iload_n (pc := 46) d_N_hangUp_46 rfl rfl ?_
      first | refine ev_imulN (pc := 47) d_N_hangUp_47 ?_ | refine ev_imul (pc := 47) d_N_hangUp_47 ?_
      refine ev_bipush (pc := 48) (v := nI 6) d_N_hangUp_48 (by decide) ?_
      first | refine ev_iaddN (pc := 50) d_N_hangUp_50 ?_ | refine ev_iadd (pc := 50) d_N_hangUp_50 ?_
      refine ev_icmp_ge (pc := 51) (tgt := 66) d_N_hangUp_51 (by decide) (fun hx => ?_) (fun hx => ?_)
      · exact absurd hx (nI_ge (by omega) (by omega))
      refine ev_aload_n (pc := 54) d_N_hangUp_54 rfl rfl (by first | rfl | exact mm_rk_rf _) ?_
      refine ev_iload_n (pc := 55) d_N_hangUp_55 rfl rfl ?_
      refine ev_cV (pc := 56) (ct_N_clunk E _ w1 w2) cl_N_139 jv_N_clunk ⟨(Nat.le_of_ble_eq_true rfl), (Nat.le_of_ble_eq_true rfl)⟩ rfl sh_N rfl (Nat.le_of_ble_eq_true rfl) d_N_hangUp_56 ⟨Nat.zero_le _, Nat.zero_le _⟩ ?_
      refine ev_pop (pc := 59) d_N_hangUp_59 (by rfl) ?_
      refine ev_iinc (pc := 60) d_N_hangUp_60 (Nat.le_of_ble_eq_true rfl) rfl (nx_inc _) rfl ?_
      try dsimp only [List.set]
      refine ev_goto (pc := 63) (tgt := 43) d_N_hangUp_63 (by decide) ?_
      exact ih (n + 1) (by omega)
  have loop1 : ∀ d i : Nat, i + d = 8 * c + 8 → 8 * c ≤ i → ev_At E K_N_hangUp 14 [some (.ref 204), some (.int (nI c)), some (.int (nI i))] [] (hp_H (nf_2 C 222 (8 * c) i)) 0 0 (mm_D (some (.int 1)) (nH_f C c s 6)) := by
    intro d
    induction d with
    | zero =>
      intro i hi h8
      have hi8 : i = 8 * c + 8 := by omega
      subst hi8
      refine ev_iload_n (pc := 14) d_N_hangUp_14 rfl rfl ?_
      refine ev_bipush (pc := 15) (v := nI 8) d_N_hangUp_15 (by decide) ?_
      refine ev_iload_n (pc := 17) d_N_hangUp_17 rfl rfl ?_
      first | refine ev_imulN (pc := 18) d_N_hangUp_18 ?_ | refine ev_imul (pc := 18) d_N_hangUp_18 ?_
      refine ev_bipush (pc := 19) (v := nI 8) d_N_hangUp_19 (by decide) ?_
      first | refine ev_iaddN (pc := 21) d_N_hangUp_21 ?_ | refine ev_iadd (pc := 21) d_N_hangUp_21 ?_
      refine ev_icmp_ge (pc := 22) (tgt := 38) d_N_hangUp_22 (by decide) (fun ha => ?_) (fun ha => ?_)
      rotate_left
      · exact absurd (Int32.le_refl _) ha
      refine ev_bipush (pc := 38) (v := nI 6) d_N_hangUp_38 (by decide) ?_
      refine ev_iload_n (pc := 40) d_N_hangUp_40 rfl rfl ?_
      first | refine ev_imulN (pc := 41) d_N_hangUp_41 ?_ | refine ev_imul (pc := 41) d_N_hangUp_41 ?_
      refine ev_istore_n (pc := 42) d_N_hangUp_42 rfl (Nat.le_of_ble_eq_true rfl) rfl ?_
      try dsimp only [List.set]
      exact loop2 6 0 (by omega)
    | succ d ih =>
      intro i hi h8
      refine ev_iload_n (pc := 14) d_N_hangUp_14 rfl rfl ?_
      refine ev_bipush (pc := 15) (v := nI 8) d_N_hangUp_15 (by decide) ?_
      refine ev_iload_n (pc := 17) d_N_hangUp_17 rfl rfl ?_
      first | refine ev_imulN (pc := 18) d_N_hangUp_18 ?_ | refine ev_imul (pc := 18) d_N_hangUp_18 ?_
      refine ev_bipush (pc := 19) (v := nI 8) d_N_hangUp_19 (by decide) ?_
      first | refine ev_iaddN (pc := 21) d_N_hangUp_21 ?_ | refine ev_iadd (pc := 21) d_N_hangUp_21 ?_
      refine ev_icmp_ge (pc := 22) (tgt := 38) d_N_hangUp_22 (by decide) (fun ha => ?_) (fun ha => ?_)
      · exact absurd ha (nI_ge (by omega) (by omega))
      refine ev_aload_n (pc := 25) d_N_hangUp_25 rfl rfl (by first | rfl | exact mm_rk_rf _) ?_
      refine ev_gR (pc := 26) sh_N (by rfl) fl_N_69 d_N_hangUp_26 ?_
      refine ev_iload_n (pc := 29) d_N_hangUp_29 rfl rfl ?_
      refine ev_iconst (pc := 30) (v := -1) d_N_hangUp_30 rfl ?_
      refine ev_wIN (pc := 31) sh_N_kind (by omega) (by decide) d_N_hangUp_31 ?_
      rw [nf_2s _ h8]
      refine ev_iinc (pc := 32) d_N_hangUp_32 (Nat.le_of_ble_eq_true rfl) rfl (nx_inc _) rfl ?_
      try dsimp only [List.set]
      refine ev_goto (pc := 35) (tgt := 14) d_N_hangUp_35 (by decide) ?_
      exact ih (i + 1) (by omega) (by omega)
  refine mm_mtL (by decide) (by rfl) (Nat.le_of_ble_eq_true rfl) rfl ?_
  refine ev_iload_n (pc := 0) d_N_hangUp_0 rfl rfl ?_
  refine ev_cS (pc := 1) (ct_N_isOneT E C hc) cl_N_99 js_N_isOne ⟨(Nat.le_of_ble_eq_true rfl), (Nat.le_of_ble_eq_true rfl)⟩ rfl rfl (Nat.le_of_ble_eq_true rfl) d_N_hangUp_1 ⟨Nat.zero_le _, Nat.zero_le _⟩ ?_
  refine ev_if_ne (pc := 4) (tgt := 9) d_N_hangUp_4 (by decide) (fun ha => ?_) (fun ha => ?_)
  rotate_left
  · exact absurd ha (by decide)
  refine ev_bipush (pc := 9) (v := nI 8) d_N_hangUp_9 (by decide) ?_
  refine ev_iload_n (pc := 11) d_N_hangUp_11 rfl rfl ?_
  first | refine ev_imulN (pc := 12) d_N_hangUp_12 ?_ | refine ev_imul (pc := 12) d_N_hangUp_12 ?_
  refine ev_istore_n (pc := 13) d_N_hangUp_13 rfl (Nat.le_of_ble_eq_true rfl) rfl ?_
  try dsimp only [List.set]
  have h1 := loop1 8 (8 * c) (by omega) (by omega)
  rw [nf_20] at h1
  exact h1
theorem ct_N_hangUpN (E : mm_En) (C : Nat → Nat → Int32) {x : Int32} (hx : x < 0 ∨ 2 ≤ x) : mm_MT E K_N_hangUp [.ref 204, .int x] (hp_H C) (mm_D (some (.int 0)) C) := by
  refine mm_mtL (by decide) (by rfl) (Nat.le_of_ble_eq_true rfl) rfl ?_
  refine ev_iload_n (pc := 0) d_N_hangUp_0 rfl rfl ?_
  refine ev_cS (pc := 1) (ct_N_isOneF E C hx) cl_N_99 js_N_isOne ⟨(Nat.le_of_ble_eq_true rfl), (Nat.le_of_ble_eq_true rfl)⟩ rfl rfl (Nat.le_of_ble_eq_true rfl) d_N_hangUp_1 ⟨Nat.zero_le _, Nat.zero_le _⟩ ?_
  refine ev_if_ne (pc := 4) (tgt := 9) d_N_hangUp_4 (by decide) (fun ha => ?_) (fun ha => ?_)
  · exact absurd rfl ha
  · refine ev_iconst (pc := 7) (v := 0) d_N_hangUp_7 rfl ?_
    exact ev_zret (pc := 8) d_N_hangUp_8 rfl (by first | exact Or.inl rfl | exact Or.inr rfl | assumption) (Nat.zero_le _) (Nat.zero_le _) ⟨rfl, rfl⟩
