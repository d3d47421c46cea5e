/-! The reference: attach, stat, removing, clunk. Answers and heaps as pairs. -/
def lk_ok (C : Nat → Nat → Int32) : Prop := ∀ k, k < 120 → (C 214 k).toNatClampNeg ≤ 16 ∧ C 214 k = nI (C 214 k).toNatClampNeg
/-- what the reference's ints always are; s: how many snapshots -/
def nw_P (C : Nat → Nat → Int32) (s : Nat) : Prop := nm_ok C ∧ pa_ok C ∧ gn_ok C ∧ lk_ok C ∧ C 204 14 = nI s ∧ s ≤ 4 ∧ ∀ t, t < 2 + s → ∃ k, nc_i C t 0 = some k
/-- the fid f: its user, its tree -/
def nu_P (C : Nat → Nat → Int32) (f t : Nat) : Prop := f < 12 ∧ t < 6 ∧ C 218 f = nI t ∧ (¬ C 217 f < 0 → (C 217 f).toNatClampNeg < 4 ∧ C 217 f = nI (C 217 f).toNatClampNeg)
abbrev nus (C : Nat → Nat → Int32) (f : Nat) : Nat := (C 217 f).toNatClampNeg
abbrev nY (C : Nat → Nat → Int32) (u k : Nat) (x : Int32) : Prop := ¬ (na_r C u k &&& x) = 0
theorem nx_fc (s : Nat) : ∀ n C k, (∀ a, a ≠ 215 → a ≠ 204 → nx_f s n C k a = C a) ∧ ∀ l, l ≠ 13 → nx_f s n C k 204 l = C 204 l := by
  intro n
  induction n with
  | zero => intro C k; exact ⟨fun _ _ _ => rfl, fun _ _ => rfl⟩
  | succ n ih =>
    intro C k
    obtain ⟨c1, c2⟩ := nx_1c C s k
    simp only [nx_f]
    by_cases h : C 208 k < 0
    · rw [if_pos h]
      exact ⟨c1, c2⟩
    · rw [if_neg h]
      obtain ⟨d1, d2⟩ := ih (nx_1 C s k) (np C k)
      exact ⟨fun a h1 h2 => (d1 a h1 h2).trans (c1 a h1 h2), fun l hl => (d2 l hl).trans (c2 l hl)⟩
theorem nx_Cc (C : Nat → Nat → Int32) (s k : Nat) {a : Nat} (h1 : a ≠ 215) (h2 : a ≠ 204) : nx_C C s k a = C a := (nx_fc s 21 C k).1 a h1 h2
theorem nx_C4 (C : Nat → Nat → Int32) (s k : Nat) {l : Nat} (h1 : l ≠ 13) : nx_C C s k 204 l = C 204 l := (nx_fc s 21 C k).2 l h1
theorem nt_ne {C : Nat → Nat → Int32} {r a j : Nat} {v : Int32} (h1 : a ≠ 227) (h2 : a ≠ 204) : nt_C C r v a j = C a j := by
  unfold nt_C
  rw [cs_ne _ _ (by omega), cs_ne _ _ (by omega)]
theorem nt_k (C : Nat → Nat → Int32) (r : Nat) (v : Int32) : nt_C C r v 204 26 = nI (r + 1) := cs_at _ _ _ _
def nt_v (C : Nat → Nat → Int32) (k r : Nat) : Nat → Nat → Int32 := nt_C (nt_C C r (C 207 k)) (r + 1) (C 212 k)
def nt_m (C : Nat → Nat → Int32) (k r : Nat) : Nat → Nat → Int32 := nt_C (nt_v C k r) (r + 2) (C 213 k)
theorem ntv_ne {C : Nat → Nat → Int32} {k r a j : Nat} (h1 : a ≠ 227) (h2 : a ≠ 204) : nt_v C k r a j = C a j := by
  unfold nt_v
  rw [nt_ne h1 h2, nt_ne h1 h2]
theorem ntm_ne {C : Nat → Nat → Int32} {k r a j : Nat} (h1 : a ≠ 227) (h2 : a ≠ 204) : nt_m C k r a j = C a j := by
  unfold nt_m
  rw [nt_ne h1 h2, ntv_ne h1 h2]
/-- a fid is open at a node -/
def nb_o (C : Nat → Nat → Int32) (t p : Int32) (f : Nat) : Prop := ¬ C 217 f < 0 ∧ ¬ C 220 f < 0 ∧ C 218 f = t ∧ C 219 f = p
def nb_a (C : Nat → Nat → Int32) (t p : Int32) : Prop := ∃ f, f < 12 ∧ nb_o C t p f
theorem d_N_isBusy_0 : decode b_N_isBusy 0 = .ok (.iconst 0, 1) := by decide +kernel
theorem d_N_isBusy_1 : decode b_N_isBusy 1 = .ok (.istore_n 3, 1) := by decide +kernel
theorem d_N_isBusy_2 : decode b_N_isBusy 2 = .ok (.iconst 0, 1) := by decide +kernel
theorem d_N_isBusy_3 : decode b_N_isBusy 3 = .ok (.istore 4, 2) := by decide +kernel
theorem d_N_isBusy_5 : decode b_N_isBusy 5 = .ok (.iload 4, 2) := by decide +kernel
theorem d_N_isBusy_7 : decode b_N_isBusy 7 = .ok (.bipush 12, 2) := by decide +kernel
theorem d_N_isBusy_9 : decode b_N_isBusy 9 = .ok (.if_icmp .ge 61, 3) := by decide +kernel
theorem d_N_isBusy_12 : decode b_N_isBusy 12 = .ok (.iload_n 3, 1) := by decide +kernel
theorem d_N_isBusy_13 : decode b_N_isBusy 13 = .ok (.ifCond .ne 45, 3) := by decide +kernel
theorem d_N_isBusy_16 : decode b_N_isBusy 16 = .ok (.aload_n 0, 1) := by decide +kernel
theorem d_N_isBusy_17 : decode b_N_isBusy 17 = .ok (.getfield 54, 3) := by decide +kernel
theorem d_N_isBusy_20 : decode b_N_isBusy 20 = .ok (.iload 4, 2) := by decide +kernel
theorem d_N_isBusy_22 : decode b_N_isBusy 22 = .ok (.iaload, 1) := by decide +kernel
theorem d_N_isBusy_23 : decode b_N_isBusy 23 = .ok (.ifCond .lt 39, 3) := by decide +kernel
theorem d_N_isBusy_26 : decode b_N_isBusy 26 = .ok (.aload_n 0, 1) := by decide +kernel
theorem d_N_isBusy_27 : decode b_N_isBusy 27 = .ok (.getfield 63, 3) := by decide +kernel
theorem d_N_isBusy_30 : decode b_N_isBusy 30 = .ok (.iload 4, 2) := by decide +kernel
theorem d_N_isBusy_32 : decode b_N_isBusy 32 = .ok (.iaload, 1) := by decide +kernel
theorem d_N_isBusy_33 : decode b_N_isBusy 33 = .ok (.ifCond .lt 29, 3) := by decide +kernel
theorem d_N_isBusy_36 : decode b_N_isBusy 36 = .ok (.aload_n 0, 1) := by decide +kernel
theorem d_N_isBusy_37 : decode b_N_isBusy 37 = .ok (.getfield 57, 3) := by decide +kernel
theorem d_N_isBusy_40 : decode b_N_isBusy 40 = .ok (.iload 4, 2) := by decide +kernel
theorem d_N_isBusy_42 : decode b_N_isBusy 42 = .ok (.iaload, 1) := by decide +kernel
theorem d_N_isBusy_43 : decode b_N_isBusy 43 = .ok (.iload_n 1, 1) := by decide +kernel
theorem d_N_isBusy_44 : decode b_N_isBusy 44 = .ok (.if_icmp .ne 18, 3) := by decide +kernel
theorem d_N_isBusy_47 : decode b_N_isBusy 47 = .ok (.aload_n 0, 1) := by decide +kernel
theorem d_N_isBusy_48 : decode b_N_isBusy 48 = .ok (.getfield 60, 3) := by decide +kernel
theorem d_N_isBusy_51 : decode b_N_isBusy 51 = .ok (.iload 4, 2) := by decide +kernel
theorem d_N_isBusy_53 : decode b_N_isBusy 53 = .ok (.iaload, 1) := by decide +kernel
theorem d_N_isBusy_54 : decode b_N_isBusy 54 = .ok (.iload_n 2, 1) := by decide +kernel
theorem d_N_isBusy_55 : decode b_N_isBusy 55 = .ok (.if_icmp .ne 7, 3) := by decide +kernel
theorem d_N_isBusy_58 : decode b_N_isBusy 58 = .ok (.iconst 1, 1) := by decide +kernel
theorem d_N_isBusy_59 : decode b_N_isBusy 59 = .ok (.goto 4, 3) := by decide +kernel
theorem d_N_isBusy_62 : decode b_N_isBusy 62 = .ok (.iconst 0, 1) := by decide +kernel
theorem d_N_isBusy_63 : decode b_N_isBusy 63 = .ok (.istore_n 3, 1) := by decide +kernel
theorem d_N_isBusy_64 : decode b_N_isBusy 64 = .ok (.iinc 4 1, 3) := by decide +kernel
theorem d_N_isBusy_67 : decode b_N_isBusy 67 = .ok (.goto (-62), 3) := by decide +kernel
theorem d_N_isBusy_70 : decode b_N_isBusy 70 = .ok (.iload_n 3, 1) := by decide +kernel
theorem d_N_isBusy_71 : decode b_N_isBusy 71 = .ok (.ireturn, 1) := by decide +kernel
set_option maxRecDepth 20000 in
theorem ct_N_isBusy (E : mm_En) (C : Nat → Nat → Int32) (t p : Int32) : mm_MT E K_N_isBusy [.ref 204, .int t, .int p] (hp_H C) (mm_D (some (.int (b3_P (nb_a C t p)))) C) := by
  have loop : ∀ d j : Nat, j + d = 12 → ∀ P : Prop, (P ↔ ∃ f, f < j ∧ nb_o C t p f) → ev_At E K_N_isBusy 5 [some (.ref 204), some (.int t), some (.int p), some (.int (b3_P P)), some (.int (nI j))] [] (hp_H C) 0 0 (mm_D (some (.int (b3_P (nb_a C t p)))) C) := by
    intro d
    induction d with
    | zero =>
      intro j hj P hP
      have hjk : j = 12 := by omega
      subst hjk
      refine ev_iload (pc := 5) d_N_isBusy_5 rfl ?_
      refine ev_bipush (pc := 7) (v := 12) d_N_isBusy_7 (by decide) ?_
      refine ev_icmp_ge (pc := 9) (tgt := 70) d_N_isBusy_9 (by decide) (fun hd => ?_) (fun hd => ?_)
      rotate_left
      · exact absurd (Int32.le_refl _) hd
      rw [← show b3_P P = b3_P (nb_a C t p) from b3_c hP]
      refine ev_iload_n (pc := 70) d_N_isBusy_70 rfl rfl ?_
      have h01 := b3_01 P
      exact ev_zret (pc := 71) d_N_isBusy_71 rfl (by first | exact Or.inl rfl | exact Or.inr rfl | assumption) (Nat.zero_le _) (Nat.zero_le _) ⟨rfl, rfl⟩
    | succ d ih =>
      intro j hj P hP
      have fin : ∀ Q : Prop, (Q ↔ P ∨ nb_o C t p j) → ev_At E K_N_isBusy 63 [some (.ref 204), some (.int t), some (.int p), some (.int (b3_P P)), some (.int (nI j))] [.int (b3_P Q)] (hp_H C) 0 0 (mm_D (some (.int (b3_P (nb_a C t p)))) C) := by
        intro Q hQ
        refine ev_istore_n (pc := 63) d_N_isBusy_63 rfl (Nat.le_of_ble_eq_true rfl) rfl ?_
        try dsimp only [List.set]
        refine ev_iinc (pc := 64) d_N_isBusy_64 (Nat.le_of_ble_eq_true rfl) rfl (nx_inc _) rfl ?_
        try dsimp only [List.set]
        refine ev_goto (pc := 67) (tgt := 5) d_N_isBusy_67 (by decide) ?_
        refine ih (j + 1) (by omega) Q (hQ.trans ⟨fun z => ?_, fun z => ?_⟩)
        · rcases z with z | z
          · obtain ⟨i, q1, q2⟩ := hP.mp z
            exact ⟨i, by omega, q2⟩
          · exact ⟨j, by omega, z⟩
        · obtain ⟨i, q1, q2⟩ := z
          by_cases hij : i = j
          · subst hij
            exact Or.inr q2
          · exact Or.inl (hP.mpr ⟨i, by omega, q2⟩)
      have fin1 : (P ∨ nb_o C t p j) → ev_At E K_N_isBusy 58 [some (.ref 204), some (.int t), some (.int p), some (.int (b3_P P)), some (.int (nI j))] [] (hp_H C) 0 0 (mm_D (some (.int (b3_P (nb_a C t p)))) C) := by
        intro hh
        refine ev_iconst (pc := 58) (v := 1) d_N_isBusy_58 rfl ?_
        refine ev_goto (pc := 59) (tgt := 63) d_N_isBusy_59 (by decide) ?_
        have h2 := fin True ⟨fun _ => hh, fun _ => trivial⟩
        rw [b3_t trivial] at h2
        exact h2
      have fin0 : ¬ (P ∨ nb_o C t p j) → ev_At E K_N_isBusy 62 [some (.ref 204), some (.int t), some (.int p), some (.int (b3_P P)), some (.int (nI j))] [] (hp_H C) 0 0 (mm_D (some (.int (b3_P (nb_a C t p)))) C) := by
        intro hh
        refine ev_iconst (pc := 62) (v := 0) d_N_isBusy_62 rfl ?_
        have h2 := fin False ⟨fun z => z.elim, hh⟩
        rw [b3_f (fun z => z)] at h2
        exact h2
      refine ev_iload (pc := 5) d_N_isBusy_5 rfl ?_
      refine ev_bipush (pc := 7) (v := 12) d_N_isBusy_7 (by decide) ?_
      refine ev_icmp_ge (pc := 9) (tgt := 70) d_N_isBusy_9 (by decide) (fun hd => ?_) (fun hd => ?_)
      · exact absurd hd (nI_ge (b := 12) (by omega) (by omega))
      refine ev_iload_n (pc := 12) d_N_isBusy_12 rfl rfl ?_
      refine ev_if_ne (pc := 13) (tgt := 58) d_N_isBusy_13 (by decide) (fun he => ?_) (fun he => ?_)
      · rw [b3_0, Classical.not_not] at he
        exact fin1 (Or.inl he)
      rw [b3_0] at he
      refine ev_aload_n (pc := 16) d_N_isBusy_16 rfl rfl (by first | rfl | exact mm_rk_rf _) ?_
      refine ev_gR (pc := 17) sh_N (by rfl) fl_N_54 d_N_isBusy_17 ?_
      refine ev_iload (pc := 20) d_N_isBusy_20 rfl ?_
      refine ev_rIN (pc := 22) sh_N_user (by omega) (by decide) d_N_isBusy_22 ?_
      refine ev_if_lt (pc := 23) (tgt := 62) d_N_isBusy_23 (by decide) (fun h1 => ?_) (fun h1 => ?_)
      · exact fin0 (fun z => z.elim he (fun y => y.1 h1))
      refine ev_aload_n (pc := 26) d_N_isBusy_26 rfl rfl (by first | rfl | exact mm_rk_rf _) ?_
      refine ev_gR (pc := 27) sh_N (by rfl) fl_N_63 d_N_isBusy_27 ?_
      refine ev_iload (pc := 30) d_N_isBusy_30 rfl ?_
      refine ev_rIN (pc := 32) sh_N_openMode (by omega) (by decide) d_N_isBusy_32 ?_
      refine ev_if_lt (pc := 33) (tgt := 62) d_N_isBusy_33 (by decide) (fun h2 => ?_) (fun h2 => ?_)
      · exact fin0 (fun z => z.elim he (fun y => y.2.1 h2))
      refine ev_aload_n (pc := 36) d_N_isBusy_36 rfl rfl (by first | rfl | exact mm_rk_rf _) ?_
      refine ev_gR (pc := 37) sh_N (by rfl) fl_N_57 d_N_isBusy_37 ?_
      refine ev_iload (pc := 40) d_N_isBusy_40 rfl ?_
      refine ev_rIN (pc := 42) sh_N_tree (by omega) (by decide) d_N_isBusy_42 ?_
      refine ev_iload_n (pc := 43) d_N_isBusy_43 rfl rfl ?_
      refine ev_icmp_ne (pc := 44) (tgt := 62) d_N_isBusy_44 (by decide) (fun h3 => ?_) (fun h3 => ?_)
      · exact fin0 (fun z => z.elim he (fun y => h3 y.2.2.1))
      refine ev_aload_n (pc := 47) d_N_isBusy_47 rfl rfl (by first | rfl | exact mm_rk_rf _) ?_
      refine ev_gR (pc := 48) sh_N (by rfl) fl_N_60 d_N_isBusy_48 ?_
      refine ev_iload (pc := 51) d_N_isBusy_51 rfl ?_
      refine ev_rIN (pc := 53) sh_N_at (by omega) (by decide) d_N_isBusy_53 ?_
      refine ev_iload_n (pc := 54) d_N_isBusy_54 rfl rfl ?_
      refine ev_icmp_ne (pc := 55) (tgt := 62) d_N_isBusy_55 (by decide) (fun h4 => ?_) (fun h4 => ?_)
      · exact fin0 (fun z => z.elim he (fun y => h4 y.2.2.2))
      · exact fin1 (Or.inr ⟨h1, h2, h3, h4⟩)
  refine mm_mtL (by decide) (by rfl) (Nat.le_of_ble_eq_true rfl) rfl ?_
  refine ev_iconst (pc := 0) (v := 0) d_N_isBusy_0 rfl ?_
  refine ev_istore_n (pc := 1) d_N_isBusy_1 rfl (Nat.le_of_ble_eq_true rfl) rfl ?_
  try dsimp only [List.set]
  refine ev_iconst (pc := 2) (v := 0) d_N_isBusy_2 rfl ?_
  refine ev_istore (pc := 3) d_N_isBusy_3 (Nat.le_of_ble_eq_true rfl) rfl ?_
  try dsimp only [List.set]
  have h2 := loop 12 0 (by omega) False ⟨fun z => z.elim, fun ⟨i, q1, _⟩ => absurd q1 (Nat.not_lt_zero i)⟩
  rw [b3_f (fun z => z)] at h2
  exact h2
/-- zeros of the bytes from lo up to hi -/
def nz_C (C : Nat → Nat → Int32) (lo hi : Nat) : Nat → Nat → Int32 := fun a j => if a = 216 ∧ lo ≤ j ∧ j < hi then 0 else C a j
def ng_C (C : Nat → Nat → Int32) (k l n : Nat) : Nat → Nat → Int32 := cs_C (nz_C C (16 * k + l) (16 * k + n)) 214 k (nI (max l n))
theorem d_N_grow_0 : decode b_N_grow 0 = .ok (.aload_n 0, 1) := by decide +kernel
theorem d_N_grow_1 : decode b_N_grow 1 = .ok (.getfield 38, 3) := by decide +kernel
theorem d_N_grow_4 : decode b_N_grow 4 = .ok (.iload_n 1, 1) := by decide +kernel
theorem d_N_grow_5 : decode b_N_grow 5 = .ok (.iaload, 1) := by decide +kernel
theorem d_N_grow_6 : decode b_N_grow 6 = .ok (.istore_n 3, 1) := by decide +kernel
theorem d_N_grow_7 : decode b_N_grow 7 = .ok (.iload_n 3, 1) := by decide +kernel
theorem d_N_grow_8 : decode b_N_grow 8 = .ok (.iload_n 2, 1) := by decide +kernel
theorem d_N_grow_9 : decode b_N_grow 9 = .ok (.if_icmp .ge 21, 3) := by decide +kernel
theorem d_N_grow_12 : decode b_N_grow 12 = .ok (.aload_n 0, 1) := by decide +kernel
theorem d_N_grow_13 : decode b_N_grow 13 = .ok (.getfield 44, 3) := by decide +kernel
theorem d_N_grow_16 : decode b_N_grow 16 = .ok (.bipush 16, 2) := by decide +kernel
theorem d_N_grow_18 : decode b_N_grow 18 = .ok (.iload_n 1, 1) := by decide +kernel
theorem d_N_grow_19 : decode b_N_grow 19 = .ok (.imul, 1) := by decide +kernel
theorem d_N_grow_20 : decode b_N_grow 20 = .ok (.iload_n 3, 1) := by decide +kernel
theorem d_N_grow_21 : decode b_N_grow 21 = .ok (.iadd, 1) := by decide +kernel
theorem d_N_grow_22 : decode b_N_grow 22 = .ok (.iconst 0, 1) := by decide +kernel
theorem d_N_grow_23 : decode b_N_grow 23 = .ok (.iastore, 1) := by decide +kernel
theorem d_N_grow_24 : decode b_N_grow 24 = .ok (.iinc 3 1, 3) := by decide +kernel
theorem d_N_grow_27 : decode b_N_grow 27 = .ok (.goto (-20), 3) := by decide +kernel
theorem d_N_grow_30 : decode b_N_grow 30 = .ok (.aload_n 0, 1) := by decide +kernel
theorem d_N_grow_31 : decode b_N_grow 31 = .ok (.getfield 38, 3) := by decide +kernel
theorem d_N_grow_34 : decode b_N_grow 34 = .ok (.iload_n 1, 1) := by decide +kernel
theorem d_N_grow_35 : decode b_N_grow 35 = .ok (.iload_n 2, 1) := by decide +kernel
theorem d_N_grow_36 : decode b_N_grow 36 = .ok (.aload_n 0, 1) := by decide +kernel
theorem d_N_grow_37 : decode b_N_grow 37 = .ok (.getfield 38, 3) := by decide +kernel
theorem d_N_grow_40 : decode b_N_grow 40 = .ok (.iload_n 1, 1) := by decide +kernel
theorem d_N_grow_41 : decode b_N_grow 41 = .ok (.iaload, 1) := by decide +kernel
theorem d_N_grow_42 : decode b_N_grow 42 = .ok (.if_icmp .le 7, 3) := by decide +kernel
theorem d_N_grow_45 : decode b_N_grow 45 = .ok (.iload_n 2, 1) := by decide +kernel
theorem d_N_grow_46 : decode b_N_grow 46 = .ok (.goto 9, 3) := by decide +kernel
theorem d_N_grow_49 : decode b_N_grow 49 = .ok (.aload_n 0, 1) := by decide +kernel
theorem d_N_grow_50 : decode b_N_grow 50 = .ok (.getfield 38, 3) := by decide +kernel
theorem d_N_grow_53 : decode b_N_grow 53 = .ok (.iload_n 1, 1) := by decide +kernel
theorem d_N_grow_54 : decode b_N_grow 54 = .ok (.iaload, 1) := by decide +kernel
theorem d_N_grow_55 : decode b_N_grow 55 = .ok (.iastore, 1) := by decide +kernel
theorem d_N_grow_56 : decode b_N_grow 56 = .ok (.return_, 1) := by decide +kernel
set_option maxRecDepth 20000 in
theorem ct_N_grow (E : mm_En) (C : Nat → Nat → Int32) {k l n : Nat} (hk : k < 120) (hl : C 214 k = nI l) (l16 : l ≤ 16) (n16 : n ≤ 16) : mm_MT E K_N_grow [.ref 204, .int (nI k), .int (nI n)] (hp_H C) (mm_D none (ng_C C k l n)) := by
  have hl' : ∀ hi, nz_C C (16 * k + l) hi 214 k = nI l := by
    intro hi
    simp only [nz_C]
    rw [if_neg (by omega)]
    exact hl
  have loop : ∀ d i : Nat, n - i = d → l ≤ i → (i ≤ n ∨ i = l) → ev_At E K_N_grow 7 [some (.ref 204), some (.int (nI k)), some (.int (nI n)), some (.int (nI i))] [] (hp_H (nz_C C (16 * k + l) (16 * k + i))) 0 0 (mm_D none (ng_C C k l n)) := by
    intro d
    induction d with
    | zero =>
      intro i hi hli hor
      have e0 : nz_C C (16 * k + l) (16 * k + i) = nz_C C (16 * k + l) (16 * k + n) := by
        funext a j
        simp only [nz_C]
        by_cases h1 : a = 216 ∧ 16 * k + l ≤ j ∧ j < 16 * k + i
        · rw [if_pos h1, if_pos (by omega)]
        · rw [if_neg h1, if_neg (by omega)]
      rw [e0]
      refine ev_iload_n (pc := 7) d_N_grow_7 rfl rfl ?_
      refine ev_iload_n (pc := 8) d_N_grow_8 rfl rfl ?_
      refine ev_icmp_ge (pc := 9) (tgt := 30) d_N_grow_9 (by decide) (fun hc => ?_) (fun hc => ?_)
      rotate_left
      · exact absurd (nI_le (show n ≤ i by omega) (by omega)) hc
      refine ev_aload_n (pc := 30) d_N_grow_30 rfl rfl (by first | rfl | exact mm_rk_rf _) ?_
      refine ev_gR (pc := 31) sh_N (by rfl) fl_N_38 d_N_grow_31 ?_
      refine ev_iload_n (pc := 34) d_N_grow_34 rfl rfl ?_
      refine ev_iload_n (pc := 35) d_N_grow_35 rfl rfl ?_
      refine ev_aload_n (pc := 36) d_N_grow_36 rfl rfl (by first | rfl | exact mm_rk_rf _) ?_
      refine ev_gR (pc := 37) sh_N (by rfl) fl_N_38 d_N_grow_37 ?_
      refine ev_iload_n (pc := 40) d_N_grow_40 rfl rfl ?_
      refine ev_rIN (pc := 41) sh_N_length (by omega) (by decide) d_N_grow_41 ?_
      rw [hl']
      refine ev_icmp_le (pc := 42) (tgt := 49) d_N_grow_42 (by decide) (fun hd => ?_) (fun hd => ?_)
      · have h1 : n ≤ l := (nI_leI (by omega) (by omega)).mp hd
        refine ev_aload_n (pc := 49) d_N_grow_49 rfl rfl (by first | rfl | exact mm_rk_rf _) ?_
        refine ev_gR (pc := 50) sh_N (by rfl) fl_N_38 d_N_grow_50 ?_
        refine ev_iload_n (pc := 53) d_N_grow_53 rfl rfl ?_
        refine ev_rIN (pc := 54) sh_N_length (by omega) (by decide) d_N_grow_54 ?_
        rw [hl']
        refine ev_wIN (pc := 55) sh_N_length (by omega) (by decide) d_N_grow_55 ?_
        have e1 : max l n = l := by omega
        rw [ng_C, e1]
        exact ev_vret (pc := 56) d_N_grow_56 rfl (Nat.zero_le _) (Nat.zero_le _) ⟨rfl, rfl⟩
      · have h1 : l < n := Nat.not_le.mp (fun z => hd (nI_le z (by omega)))
        refine ev_iload_n (pc := 45) d_N_grow_45 rfl rfl ?_
        refine ev_goto (pc := 46) (tgt := 55) d_N_grow_46 (by decide) ?_
        refine ev_wIN (pc := 55) sh_N_length (by omega) (by decide) d_N_grow_55 ?_
        have e1 : max l n = n := by omega
        rw [ng_C, e1]
        exact ev_vret (pc := 56) d_N_grow_56 rfl (Nat.zero_le _) (Nat.zero_le _) ⟨rfl, rfl⟩
    | succ d ih =>
      intro i hi hli hor
      refine ev_iload_n (pc := 7) d_N_grow_7 rfl rfl ?_
      refine ev_iload_n (pc := 8) d_N_grow_8 rfl rfl ?_
      refine ev_icmp_ge (pc := 9) (tgt := 30) d_N_grow_9 (by decide) (fun hc => ?_) (fun hc => ?_)
      · exact absurd hc (nI_ge (by omega) (by omega))
      refine ev_aload_n (pc := 12) d_N_grow_12 rfl rfl (by first | rfl | exact mm_rk_rf _) ?_
      refine ev_gR (pc := 13) sh_N (by rfl) fl_N_44 d_N_grow_13 ?_
      refine ev_bipush (pc := 16) (v := nI 16) d_N_grow_16 (by decide) ?_
      refine ev_iload_n (pc := 18) d_N_grow_18 rfl rfl ?_
      first | refine ev_imulN (pc := 19) d_N_grow_19 ?_ | refine ev_imul (pc := 19) d_N_grow_19 ?_
      refine ev_iload_n (pc := 20) d_N_grow_20 rfl rfl ?_
      first | refine ev_iaddN (pc := 21) d_N_grow_21 ?_ | refine ev_iadd (pc := 21) d_N_grow_21 ?_
      refine ev_iconst (pc := 22) (v := 0) d_N_grow_22 rfl ?_
      refine ev_wIN (pc := 23) sh_N_bytes (by omega) (by decide) d_N_grow_23 ?_
      have e : cs_C (nz_C C (16 * k + l) (16 * k + i)) 216 (16 * k + i) 0 = nz_C C (16 * k + l) (16 * k + (i + 1)) := by
        funext a j
        rw [cs_app]
        simp only [nz_C]
        by_cases h1 : a = 216 ∧ j = 16 * k + i
        · rw [if_pos h1, if_pos (by omega)]
        · rw [if_neg h1]
          by_cases h2 : a = 216 ∧ 16 * k + l ≤ j ∧ j < 16 * k + i
          · rw [if_pos h2, if_pos (by omega)]
          · rw [if_neg h2, if_neg (by omega)]
      rw [e]
      refine ev_iinc (pc := 24) d_N_grow_24 (Nat.le_of_ble_eq_true rfl) rfl (nx_inc _) rfl ?_
      try dsimp only [List.set]
      refine ev_goto (pc := 27) (tgt := 7) d_N_grow_27 (by decide) ?_
      exact ih (i + 1) (by omega) (by omega) (by omega)
  refine mm_mtL (by decide) (by rfl) (Nat.le_of_ble_eq_true rfl) rfl ?_
  refine ev_aload_n (pc := 0) d_N_grow_0 rfl rfl (by first | rfl | exact mm_rk_rf _) ?_
  refine ev_gR (pc := 1) sh_N (by rfl) fl_N_38 d_N_grow_1 ?_
  refine ev_iload_n (pc := 4) d_N_grow_4 rfl rfl ?_
  refine ev_rIN (pc := 5) sh_N_length (by omega) (by decide) d_N_grow_5 ?_
  rw [hl]
  refine ev_istore_n (pc := 6) d_N_grow_6 rfl (Nat.le_of_ble_eq_true rfl) rfl ?_
  try dsimp only [List.set]
  have h2 := loop (n - l) l rfl (Nat.le_refl _) (Or.inr rfl)
  have e0 : nz_C C (16 * k + l) (16 * k + l) = C := by
    funext a j
    simp only [nz_C]
    rw [if_neg (by omega)]
  rw [e0] at h2
  exact h2
def nA_D (C : Nat → Nat → Int32) (f t : Nat) : Nat → Nat → Int32 := cs_C (cs_C (cs_C (cs_C C 217 f (C 228 0)) 218 f (nI t)) 219 f 0) 220 f (-1)
/-- attach: t is the tree asked for -/
noncomputable def nA_R (C : Nat → Nat → Int32) (f s : Nat) : Int32 × (Nat → Nat → Int32) := if ¬ C 217 f < 0 then (-2, C) else if (¬ C 228 0 < 0 ∧ ¬ 3 < C 228 0) ∧ ¬ C 228 1 < 0 ∧ C 228 1 ≤ C 204 14 then (0, nt_m (nA_D C f (if C 228 1 = 0 then 0 else (C 228 1).toNatClampNeg + 1)) ((nc_i C (if C 228 1 = 0 then 0 else (C 228 1).toNatClampNeg + 1) 0).getD 0) 0) else (-7, C)
theorem d_N_attach_0 : decode b_N_attach 0 = .ok (.aload_n 0, 1) := by decide +kernel
theorem d_N_attach_1 : decode b_N_attach 1 = .ok (.getfield 54, 3) := by decide +kernel
theorem d_N_attach_4 : decode b_N_attach 4 = .ok (.iload_n 1, 1) := by decide +kernel
theorem d_N_attach_5 : decode b_N_attach 5 = .ok (.iaload, 1) := by decide +kernel
theorem d_N_attach_6 : decode b_N_attach 6 = .ok (.ifCond .lt 6, 3) := by decide +kernel
theorem d_N_attach_9 : decode b_N_attach 9 = .ok (.bipush (-2), 2) := by decide +kernel
theorem d_N_attach_11 : decode b_N_attach 11 = .ok (.ireturn, 1) := by decide +kernel
theorem d_N_attach_12 : decode b_N_attach 12 = .ok (.aload_n 0, 1) := by decide +kernel
theorem d_N_attach_13 : decode b_N_attach 13 = .ok (.getfield 87, 3) := by decide +kernel
theorem d_N_attach_16 : decode b_N_attach 16 = .ok (.iconst 0, 1) := by decide +kernel
theorem d_N_attach_17 : decode b_N_attach 17 = .ok (.iaload, 1) := by decide +kernel
theorem d_N_attach_18 : decode b_N_attach 18 = .ok (.ifCond .lt 35, 3) := by decide +kernel
theorem d_N_attach_21 : decode b_N_attach 21 = .ok (.aload_n 0, 1) := by decide +kernel
theorem d_N_attach_22 : decode b_N_attach 22 = .ok (.getfield 87, 3) := by decide +kernel
theorem d_N_attach_25 : decode b_N_attach 25 = .ok (.iconst 0, 1) := by decide +kernel
theorem d_N_attach_26 : decode b_N_attach 26 = .ok (.iaload, 1) := by decide +kernel
theorem d_N_attach_27 : decode b_N_attach 27 = .ok (.iconst 3, 1) := by decide +kernel
theorem d_N_attach_28 : decode b_N_attach 28 = .ok (.if_icmp .gt 25, 3) := by decide +kernel
theorem d_N_attach_31 : decode b_N_attach 31 = .ok (.aload_n 0, 1) := by decide +kernel
theorem d_N_attach_32 : decode b_N_attach 32 = .ok (.getfield 87, 3) := by decide +kernel
theorem d_N_attach_35 : decode b_N_attach 35 = .ok (.iconst 1, 1) := by decide +kernel
theorem d_N_attach_36 : decode b_N_attach 36 = .ok (.iaload, 1) := by decide +kernel
theorem d_N_attach_37 : decode b_N_attach 37 = .ok (.ifCond .lt 16, 3) := by decide +kernel
theorem d_N_attach_40 : decode b_N_attach 40 = .ok (.aload_n 0, 1) := by decide +kernel
theorem d_N_attach_41 : decode b_N_attach 41 = .ok (.getfield 87, 3) := by decide +kernel
theorem d_N_attach_44 : decode b_N_attach 44 = .ok (.iconst 1, 1) := by decide +kernel
theorem d_N_attach_45 : decode b_N_attach 45 = .ok (.iaload, 1) := by decide +kernel
theorem d_N_attach_46 : decode b_N_attach 46 = .ok (.aload_n 0, 1) := by decide +kernel
theorem d_N_attach_47 : decode b_N_attach 47 = .ok (.getfield 157, 3) := by decide +kernel
theorem d_N_attach_50 : decode b_N_attach 50 = .ok (.if_icmp .le 6, 3) := by decide +kernel
theorem d_N_attach_53 : decode b_N_attach 53 = .ok (.bipush (-7), 2) := by decide +kernel
theorem d_N_attach_55 : decode b_N_attach 55 = .ok (.ireturn, 1) := by decide +kernel
theorem d_N_attach_56 : decode b_N_attach 56 = .ok (.aload_n 0, 1) := by decide +kernel
theorem d_N_attach_57 : decode b_N_attach 57 = .ok (.getfield 54, 3) := by decide +kernel
theorem d_N_attach_60 : decode b_N_attach 60 = .ok (.iload_n 1, 1) := by decide +kernel
theorem d_N_attach_61 : decode b_N_attach 61 = .ok (.aload_n 0, 1) := by decide +kernel
theorem d_N_attach_62 : decode b_N_attach 62 = .ok (.getfield 87, 3) := by decide +kernel
theorem d_N_attach_65 : decode b_N_attach 65 = .ok (.iconst 0, 1) := by decide +kernel
theorem d_N_attach_66 : decode b_N_attach 66 = .ok (.iaload, 1) := by decide +kernel
theorem d_N_attach_67 : decode b_N_attach 67 = .ok (.iastore, 1) := by decide +kernel
theorem d_N_attach_68 : decode b_N_attach 68 = .ok (.aload_n 0, 1) := by decide +kernel
theorem d_N_attach_69 : decode b_N_attach 69 = .ok (.getfield 57, 3) := by decide +kernel
theorem d_N_attach_72 : decode b_N_attach 72 = .ok (.iload_n 1, 1) := by decide +kernel
theorem d_N_attach_73 : decode b_N_attach 73 = .ok (.aload_n 0, 1) := by decide +kernel
theorem d_N_attach_74 : decode b_N_attach 74 = .ok (.getfield 87, 3) := by decide +kernel
theorem d_N_attach_77 : decode b_N_attach 77 = .ok (.iconst 1, 1) := by decide +kernel
theorem d_N_attach_78 : decode b_N_attach 78 = .ok (.iaload, 1) := by decide +kernel
theorem d_N_attach_79 : decode b_N_attach 79 = .ok (.ifCond .ne 7, 3) := by decide +kernel
theorem d_N_attach_82 : decode b_N_attach 82 = .ok (.iconst 0, 1) := by decide +kernel
theorem d_N_attach_83 : decode b_N_attach 83 = .ok (.goto 13, 3) := by decide +kernel
theorem d_N_attach_86 : decode b_N_attach 86 = .ok (.iconst 2, 1) := by decide +kernel
theorem d_N_attach_87 : decode b_N_attach 87 = .ok (.aload_n 0, 1) := by decide +kernel
theorem d_N_attach_88 : decode b_N_attach 88 = .ok (.getfield 87, 3) := by decide +kernel
theorem d_N_attach_91 : decode b_N_attach 91 = .ok (.iconst 1, 1) := by decide +kernel
theorem d_N_attach_92 : decode b_N_attach 92 = .ok (.iaload, 1) := by decide +kernel
theorem d_N_attach_93 : decode b_N_attach 93 = .ok (.iadd, 1) := by decide +kernel
theorem d_N_attach_94 : decode b_N_attach 94 = .ok (.iconst 1, 1) := by decide +kernel
theorem d_N_attach_95 : decode b_N_attach 95 = .ok (.isub, 1) := by decide +kernel
theorem d_N_attach_96 : decode b_N_attach 96 = .ok (.iastore, 1) := by decide +kernel
theorem d_N_attach_97 : decode b_N_attach 97 = .ok (.aload_n 0, 1) := by decide +kernel
theorem d_N_attach_98 : decode b_N_attach 98 = .ok (.getfield 60, 3) := by decide +kernel
theorem d_N_attach_101 : decode b_N_attach 101 = .ok (.iload_n 1, 1) := by decide +kernel
theorem d_N_attach_102 : decode b_N_attach 102 = .ok (.iconst 0, 1) := by decide +kernel
theorem d_N_attach_103 : decode b_N_attach 103 = .ok (.iastore, 1) := by decide +kernel
theorem d_N_attach_104 : decode b_N_attach 104 = .ok (.aload_n 0, 1) := by decide +kernel
theorem d_N_attach_105 : decode b_N_attach 105 = .ok (.getfield 63, 3) := by decide +kernel
theorem d_N_attach_108 : decode b_N_attach 108 = .ok (.iload_n 1, 1) := by decide +kernel
theorem d_N_attach_109 : decode b_N_attach 109 = .ok (.iconst (-1), 1) := by decide +kernel
theorem d_N_attach_110 : decode b_N_attach 110 = .ok (.iastore, 1) := by decide +kernel
theorem d_N_attach_111 : decode b_N_attach 111 = .ok (.aload_n 0, 1) := by decide +kernel
theorem d_N_attach_112 : decode b_N_attach 112 = .ok (.iload_n 1, 1) := by decide +kernel
theorem d_N_attach_113 : decode b_N_attach 113 = .ok (.invokevirtual 167, 3) := by decide +kernel
theorem d_N_attach_116 : decode b_N_attach 116 = .ok (.istore_n 2, 1) := by decide +kernel
theorem d_N_attach_117 : decode b_N_attach 117 = .ok (.aload_n 0, 1) := by decide +kernel
theorem d_N_attach_118 : decode b_N_attach 118 = .ok (.iconst 0, 1) := by decide +kernel
theorem d_N_attach_119 : decode b_N_attach 119 = .ok (.invokevirtual 170, 3) := by decide +kernel
theorem d_N_attach_122 : decode b_N_attach 122 = .ok (.aload_n 0, 1) := by decide +kernel
theorem d_N_attach_123 : decode b_N_attach 123 = .ok (.aload_n 0, 1) := by decide +kernel
theorem d_N_attach_124 : decode b_N_attach 124 = .ok (.getfield 32, 3) := by decide +kernel
theorem d_N_attach_127 : decode b_N_attach 127 = .ok (.iload_n 2, 1) := by decide +kernel
theorem d_N_attach_128 : decode b_N_attach 128 = .ok (.iaload, 1) := by decide +kernel
theorem d_N_attach_129 : decode b_N_attach 129 = .ok (.invokevirtual 170, 3) := by decide +kernel
theorem d_N_attach_132 : decode b_N_attach 132 = .ok (.aload_n 0, 1) := by decide +kernel
theorem d_N_attach_133 : decode b_N_attach 133 = .ok (.aload_n 0, 1) := by decide +kernel
theorem d_N_attach_134 : decode b_N_attach 134 = .ok (.getfield 35, 3) := by decide +kernel
theorem d_N_attach_137 : decode b_N_attach 137 = .ok (.iload_n 2, 1) := by decide +kernel
theorem d_N_attach_138 : decode b_N_attach 138 = .ok (.iaload, 1) := by decide +kernel
theorem d_N_attach_139 : decode b_N_attach 139 = .ok (.invokevirtual 170, 3) := by decide +kernel
theorem d_N_attach_142 : decode b_N_attach 142 = .ok (.iconst 0, 1) := by decide +kernel
theorem d_N_attach_143 : decode b_N_attach 143 = .ok (.ireturn, 1) := by decide +kernel
set_option maxRecDepth 20000 in
theorem ct_N_attach (E : mm_En) (C : Nat → Nat → Int32) {f s : Nat} (hw : nw_P C s) (hf : f < 12) (hr : C 204 26 = nI 0) : mm_MT E K_N_attach [.ref 204, .int (nI f)] (hp_H C) (mm_D (some (.int (nA_R C f s).1)) (nA_R C f s).2) := by
  obtain ⟨hm, hp, hg, hl, es, s4, hroot⟩ := hw
  have bad : ∀ _ : ¬ ((¬ C 228 0 < 0 ∧ ¬ 3 < C 228 0) ∧ ¬ C 228 1 < 0 ∧ C 228 1 ≤ C 204 14), C 217 f < 0 → ev_At E K_N_attach 53 (mm_L0 [.ref 204, .int (nI f)] 3) [] (hp_H C) 0 0 (mm_D (some (.int (nA_R C f s).1)) (nA_R C f s).2) := by
    intro h h1
    rw [nA_R, if_neg (fun z => z h1), if_neg h]
    refine ev_bipush (pc := 53) (v := -7) d_N_attach_53 (by decide) ?_
    exact ev_iret (pc := 55) d_N_attach_55 rfl (Nat.zero_le _) (Nat.zero_le _) ⟨rfl, rfl⟩
  refine mm_mtL (by decide) (by rfl) (Nat.le_of_ble_eq_true rfl) rfl ?_
  refine ev_aload_n (pc := 0) d_N_attach_0 rfl rfl (by first | rfl | exact mm_rk_rf _) ?_
  refine ev_gR (pc := 1) sh_N (by rfl) fl_N_54 d_N_attach_1 ?_
  refine ev_iload_n (pc := 4) d_N_attach_4 rfl rfl ?_
  refine ev_rIN (pc := 5) sh_N_user (by omega) (by decide) d_N_attach_5 ?_
  refine ev_if_lt (pc := 6) (tgt := 12) d_N_attach_6 (by decide) (fun ha => ?_) (fun ha => ?_)
  rotate_left
  · rw [nA_R, if_pos ha]
    refine ev_bipush (pc := 9) (v := -2) d_N_attach_9 (by decide) ?_
    exact ev_iret (pc := 11) d_N_attach_11 rfl (Nat.zero_le _) (Nat.zero_le _) ⟨rfl, rfl⟩
  refine ev_aload_n (pc := 12) d_N_attach_12 rfl rfl (by first | rfl | exact mm_rk_rf _) ?_
  refine ev_gR (pc := 13) sh_N (by rfl) fl_N_87 d_N_attach_13 ?_
  refine ev_iconst (pc := 16) (v := nI 0) d_N_attach_16 rfl ?_
  refine ev_rIN (pc := 17) sh_N_n (by omega) (by decide) d_N_attach_17 ?_
  refine ev_if_lt (pc := 18) (tgt := 53) d_N_attach_18 (by decide) (fun h1 => ?_) (fun h1 => ?_)
  · exact bad (fun z => z.1.1 h1) ha
  refine ev_aload_n (pc := 21) d_N_attach_21 rfl rfl (by first | rfl | exact mm_rk_rf _) ?_
  refine ev_gR (pc := 22) sh_N (by rfl) fl_N_87 d_N_attach_22 ?_
  refine ev_iconst (pc := 25) (v := nI 0) d_N_attach_25 rfl ?_
  refine ev_rIN (pc := 26) sh_N_n (by omega) (by decide) d_N_attach_26 ?_
  refine ev_iconst (pc := 27) (v := 3) d_N_attach_27 rfl ?_
  refine ev_icmp_gt (pc := 28) (tgt := 53) d_N_attach_28 (by decide) (fun h2 => ?_) (fun h2 => ?_)
  · exact bad (fun z => z.1.2 h2) ha
  refine ev_aload_n (pc := 31) d_N_attach_31 rfl rfl (by first | rfl | exact mm_rk_rf _) ?_
  refine ev_gR (pc := 32) sh_N (by rfl) fl_N_87 d_N_attach_32 ?_
  refine ev_iconst (pc := 35) (v := nI 1) d_N_attach_35 rfl ?_
  refine ev_rIN (pc := 36) sh_N_n (by omega) (by decide) d_N_attach_36 ?_
  refine ev_if_lt (pc := 37) (tgt := 53) d_N_attach_37 (by decide) (fun h3 => ?_) (fun h3 => ?_)
  · exact bad (fun z => z.2.1 h3) ha
  refine ev_aload_n (pc := 40) d_N_attach_40 rfl rfl (by first | rfl | exact mm_rk_rf _) ?_
  refine ev_gR (pc := 41) sh_N (by rfl) fl_N_87 d_N_attach_41 ?_
  refine ev_iconst (pc := 44) (v := nI 1) d_N_attach_44 rfl ?_
  refine ev_rIN (pc := 45) sh_N_n (by omega) (by decide) d_N_attach_45 ?_
  refine ev_aload_n (pc := 46) d_N_attach_46 rfl rfl (by first | rfl | exact mm_rk_rf _) ?_
  refine ev_gI (pc := 47) sh_N (by rfl) fl_N_157 d_N_attach_47 ?_
  refine ev_icmp_le (pc := 50) (tgt := 56) d_N_attach_50 (by decide) (fun h4 => ?_) (fun h4 => ?_)
  rotate_left
  · exact bad (fun z => h4 z.2.2) ha
  rw [nA_R, if_neg (fun z => z ha), if_pos ⟨⟨h1, h2⟩, h3, h4⟩]
  obtain ⟨j, hj, ej⟩ : ∃ j : Nat, j ≤ s ∧ C 228 1 = nI j := by
    rw [es] at h4
    exact nI_of2 (nI_toInt (by omega)) h3 h4
  obtain ⟨t, et⟩ : ∃ t, t = (if C 228 1 = 0 then 0 else (C 228 1).toNatClampNeg + 1) := ⟨_, rfl⟩
  rw [← et]
  have ht : t < 2 + s := by
    rw [et, ej]
    split
    · omega
    · rw [nI_clamp (by omega)]
      omega
  obtain ⟨k, hk⟩ := hroot t ht
  obtain ⟨v1, v2, v3, v4⟩ := nc_v (by omega) hm hk
  rw [hk, show (some k : Option Nat).getD 0 = k from rfl]
  have rest : ev_At E K_N_attach 97 [some (.ref 204), some (.int (nI f)), none] [] (hp_H (cs_C (cs_C C 217 f (C 228 0)) 218 f (nI t))) 0 0 (mm_D (some (.int 0)) (nt_m (nA_D C f t) k 0)) := by
    have q1 : ∀ a j, a ≠ 217 → a ≠ 218 → a ≠ 219 → a ≠ 220 → nA_D C f t a j = C a j := by
      intro a j a1 a2 a3 a4
      unfold nA_D
      rw [cs_ne _ _ (by omega), cs_ne _ _ (by omega), cs_ne _ _ (by omega), cs_ne _ _ (by omega)]
    have q2 : nA_D C f t 218 f = nI t := by
      unfold nA_D
      rw [cs_ne _ _ (by omega), cs_ne _ _ (by omega), cs_at]
    have q3 : nA_D C f t 219 f = 0 := by
      unfold nA_D
      rw [cs_ne _ _ (by omega), cs_at]
    have q6 : nA_D C f t 206 = C 206 := funext (fun j => q1 206 j (by decide) (by decide) (by decide) (by decide))
    have q7 : nA_D C f t 207 = C 207 := funext (fun j => q1 207 j (by decide) (by decide) (by decide) (by decide))
    have hno := ct_N_nodeOf E (nA_D C f t) (nm_c q6 hm) hf (show t < 6 by omega) q2
    rw [q3, nc_c q6 q7, hk, show oI (some k) = nI k from rfl] at hno
    refine ev_aload_n (pc := 97) d_N_attach_97 rfl rfl (by first | rfl | exact mm_rk_rf _) ?_
    refine ev_gR (pc := 98) sh_N (by rfl) fl_N_60 d_N_attach_98 ?_
    refine ev_iload_n (pc := 101) d_N_attach_101 rfl rfl ?_
    refine ev_iconst (pc := 102) (v := 0) d_N_attach_102 rfl ?_
    refine ev_wIN (pc := 103) sh_N_at (by omega) (by decide) d_N_attach_103 ?_
    refine ev_aload_n (pc := 104) d_N_attach_104 rfl rfl (by first | rfl | exact mm_rk_rf _) ?_
    refine ev_gR (pc := 105) sh_N (by rfl) fl_N_63 d_N_attach_105 ?_
    refine ev_iload_n (pc := 108) d_N_attach_108 rfl rfl ?_
    refine ev_iconst (pc := 109) (v := -1) d_N_attach_109 rfl ?_
    refine ev_wIN (pc := 110) sh_N_openMode (by omega) (by decide) d_N_attach_110 ?_
    refine ev_eq rfl rfl rfl (show _ = hp_H (nA_D C f t) from rfl) rfl rfl ?_
    refine ev_aload_n (pc := 111) d_N_attach_111 rfl rfl (by first | rfl | exact mm_rk_rf _) ?_
    refine ev_iload_n (pc := 112) d_N_attach_112 rfl rfl ?_
    refine ev_cV (pc := 113) hno cl_N_167 jv_N_nodeOf ⟨(Nat.le_of_ble_eq_true rfl), (Nat.le_of_ble_eq_true rfl)⟩ rfl sh_N rfl (Nat.le_of_ble_eq_true rfl) d_N_attach_113 ⟨Nat.zero_le _, Nat.zero_le _⟩ ?_
    have e7 : nA_D C f t 207 k = 0 := by rw [q7]; exact v4
    have r0 : nA_D C f t 204 26 = nI 0 := by rw [q1 204 26 (by decide) (by decide) (by decide) (by decide)]; exact hr
    refine ev_istore_n (pc := 116) d_N_attach_116 rfl (Nat.le_of_ble_eq_true rfl) rfl ?_
    try dsimp only [List.set]
    refine ev_aload_n (pc := 117) d_N_attach_117 rfl rfl (by first | rfl | exact mm_rk_rf _) ?_
    refine ev_iconst (pc := 118) (v := 0) d_N_attach_118 rfl ?_
    refine ev_cVv (pc := 119) (ct_N_tell E _ r0 (by decide) 0) cl_N_170 jv_N_tell ⟨(Nat.le_of_ble_eq_true rfl), (Nat.le_of_ble_eq_true rfl)⟩ rfl sh_N rfl (Nat.le_of_ble_eq_true rfl) d_N_attach_119 ⟨Nat.zero_le _, Nat.zero_le _⟩ ?_
    refine ev_aload_n (pc := 122) d_N_attach_122 rfl rfl (by first | rfl | exact mm_rk_rf _) ?_
    refine ev_aload_n (pc := 123) d_N_attach_123 rfl rfl (by first | rfl | exact mm_rk_rf _) ?_
    refine ev_gR (pc := 124) sh_N (by rfl) fl_N_32 d_N_attach_124 ?_
    refine ev_iload_n (pc := 127) d_N_attach_127 rfl rfl ?_
    refine ev_rIN (pc := 128) sh_N_version (by omega) (by decide) d_N_attach_128 ?_
    refine ev_cVv (pc := 129) (ct_N_tell E _ (nt_k _ _ _) (by decide) _) cl_N_170 jv_N_tell ⟨(Nat.le_of_ble_eq_true rfl), (Nat.le_of_ble_eq_true rfl)⟩ rfl sh_N rfl (Nat.le_of_ble_eq_true rfl) d_N_attach_129 ⟨Nat.zero_le _, Nat.zero_le _⟩ ?_
    refine ev_aload_n (pc := 132) d_N_attach_132 rfl rfl (by first | rfl | exact mm_rk_rf _) ?_
    refine ev_aload_n (pc := 133) d_N_attach_133 rfl rfl (by first | rfl | exact mm_rk_rf _) ?_
    refine ev_gR (pc := 134) sh_N (by rfl) fl_N_35 d_N_attach_134 ?_
    refine ev_iload_n (pc := 137) d_N_attach_137 rfl rfl ?_
    refine ev_rIN (pc := 138) sh_N_mode (by omega) (by decide) d_N_attach_138 ?_
    refine ev_cVv (pc := 139) (ct_N_tell E _ (nt_k _ _ _) (by decide) _) cl_N_170 jv_N_tell ⟨(Nat.le_of_ble_eq_true rfl), (Nat.le_of_ble_eq_true rfl)⟩ rfl sh_N rfl (Nat.le_of_ble_eq_true rfl) d_N_attach_139 ⟨Nat.zero_le _, Nat.zero_le _⟩ ?_
    refine ev_iconst (pc := 142) (v := 0) d_N_attach_142 rfl ?_
    exact ev_iret (pc := 143) d_N_attach_143 rfl (Nat.zero_le _) (Nat.zero_le _) ⟨rfl, by unfold nt_m nt_v; rw [e7]; rfl⟩
  refine ev_aload_n (pc := 56) d_N_attach_56 rfl rfl (by first | rfl | exact mm_rk_rf _) ?_
  refine ev_gR (pc := 57) sh_N (by rfl) fl_N_54 d_N_attach_57 ?_
  refine ev_iload_n (pc := 60) d_N_attach_60 rfl rfl ?_
  refine ev_aload_n (pc := 61) d_N_attach_61 rfl rfl (by first | rfl | exact mm_rk_rf _) ?_
  refine ev_gR (pc := 62) sh_N (by rfl) fl_N_87 d_N_attach_62 ?_
  refine ev_iconst (pc := 65) (v := nI 0) d_N_attach_65 rfl ?_
  refine ev_rIN (pc := 66) sh_N_n (by omega) (by decide) d_N_attach_66 ?_
  refine ev_wIN (pc := 67) sh_N_user (by omega) (by decide) d_N_attach_67 ?_
  refine ev_aload_n (pc := 68) d_N_attach_68 rfl rfl (by first | rfl | exact mm_rk_rf _) ?_
  refine ev_gR (pc := 69) sh_N (by rfl) fl_N_57 d_N_attach_69 ?_
  refine ev_iload_n (pc := 72) d_N_attach_72 rfl rfl ?_
  refine ev_aload_n (pc := 73) d_N_attach_73 rfl rfl (by first | rfl | exact mm_rk_rf _) ?_
  refine ev_gR (pc := 74) sh_N (by rfl) fl_N_87 d_N_attach_74 ?_
  refine ev_iconst (pc := 77) (v := nI 1) d_N_attach_77 rfl ?_
  refine ev_rIN (pc := 78) sh_N_n (by omega) (by decide) d_N_attach_78 ?_
  rw [cs_ne _ _ (by omega)]
  refine ev_if_ne (pc := 79) (tgt := 86) d_N_attach_79 (by decide) (fun h5 => ?_) (fun h5 => ?_)
  · have et2 : t = j + 1 := by
      rw [et, if_neg (by rw [ej] at h5; rw [ej]; exact h5), ej, nI_clamp (by omega)]
    have e9 : nI (2 + j) - 1 = nI t := by
      rw [et2, show 2 + j = (j + 1) + 1 by omega, nI_pred]
    refine ev_iconst (pc := 86) (v := nI 2) d_N_attach_86 rfl ?_
    refine ev_aload_n (pc := 87) d_N_attach_87 rfl rfl (by first | rfl | exact mm_rk_rf _) ?_
    refine ev_gR (pc := 88) sh_N (by rfl) fl_N_87 d_N_attach_88 ?_
    refine ev_iconst (pc := 91) (v := nI 1) d_N_attach_91 rfl ?_
    refine ev_rIN (pc := 92) sh_N_n (by omega) (by decide) d_N_attach_92 ?_
    rw [cs_ne _ _ (by omega), ej]
    first | refine ev_iaddN (pc := 93) d_N_attach_93 ?_ | refine ev_iadd (pc := 93) d_N_attach_93 ?_
    refine ev_iconst (pc := 94) (v := 1) d_N_attach_94 rfl ?_
    refine ev_isub (pc := 95) d_N_attach_95 ?_
    rw [e9]
    refine ev_wIN (pc := 96) sh_N_tree (by omega) (by decide) d_N_attach_96 ?_
    exact rest
  · have et2 : t = 0 := by
      rw [et, if_pos h5]
    refine ev_iconst (pc := 82) (v := 0) d_N_attach_82 rfl ?_
    refine ev_goto (pc := 83) (tgt := 96) d_N_attach_83 (by decide) ?_
    refine ev_wIN (pc := 96) sh_N_tree (by omega) (by decide) d_N_attach_96 ?_
    have h9 := rest
    rw [et2] at h9 ⊢
    exact h9
def nT_C (C : Nat → Nat → Int32) (k : Nat) : Nat → Nat → Int32 := nt_C (nt_C (nt_C (nt_C (nt_m C k 0) 3 (if (C 213 k &&& 2048) = 0 then C 214 k else 0)) 4 (C 210 k)) 5 (C 211 k)) 6 (C 209 k)
def nT_R (C : Nat → Nat → Int32) (f t : Nat) : Int32 × (Nat → Nat → Int32) := if C 217 f < 0 then (-1, C) else (match nc_i C t (C 219 f) with
  | none => (-13, C)
  | some k => (0, nT_C C k))
theorem d_N_stat_0 : decode b_N_stat 0 = .ok (.aload_n 0, 1) := by decide +kernel
theorem d_N_stat_1 : decode b_N_stat 1 = .ok (.getfield 54, 3) := by decide +kernel
theorem d_N_stat_4 : decode b_N_stat 4 = .ok (.iload_n 1, 1) := by decide +kernel
theorem d_N_stat_5 : decode b_N_stat 5 = .ok (.iaload, 1) := by decide +kernel
theorem d_N_stat_6 : decode b_N_stat 6 = .ok (.ifCond .ge 5, 3) := by decide +kernel
theorem d_N_stat_9 : decode b_N_stat 9 = .ok (.iconst (-1), 1) := by decide +kernel
theorem d_N_stat_10 : decode b_N_stat 10 = .ok (.ireturn, 1) := by decide +kernel
theorem d_N_stat_11 : decode b_N_stat 11 = .ok (.aload_n 0, 1) := by decide +kernel
theorem d_N_stat_12 : decode b_N_stat 12 = .ok (.iload_n 1, 1) := by decide +kernel
theorem d_N_stat_13 : decode b_N_stat 13 = .ok (.invokevirtual 167, 3) := by decide +kernel
theorem d_N_stat_16 : decode b_N_stat 16 = .ok (.istore_n 2, 1) := by decide +kernel
theorem d_N_stat_17 : decode b_N_stat 17 = .ok (.iload_n 2, 1) := by decide +kernel
theorem d_N_stat_18 : decode b_N_stat 18 = .ok (.ifCond .ge 6, 3) := by decide +kernel
theorem d_N_stat_21 : decode b_N_stat 21 = .ok (.bipush (-13), 2) := by decide +kernel
theorem d_N_stat_23 : decode b_N_stat 23 = .ok (.ireturn, 1) := by decide +kernel
theorem d_N_stat_24 : decode b_N_stat 24 = .ok (.aload_n 0, 1) := by decide +kernel
theorem d_N_stat_25 : decode b_N_stat 25 = .ok (.aload_n 0, 1) := by decide +kernel
theorem d_N_stat_26 : decode b_N_stat 26 = .ok (.getfield 17, 3) := by decide +kernel
theorem d_N_stat_29 : decode b_N_stat 29 = .ok (.iload_n 2, 1) := by decide +kernel
theorem d_N_stat_30 : decode b_N_stat 30 = .ok (.iaload, 1) := by decide +kernel
theorem d_N_stat_31 : decode b_N_stat 31 = .ok (.invokevirtual 170, 3) := by decide +kernel
theorem d_N_stat_34 : decode b_N_stat 34 = .ok (.aload_n 0, 1) := by decide +kernel
theorem d_N_stat_35 : decode b_N_stat 35 = .ok (.aload_n 0, 1) := by decide +kernel
theorem d_N_stat_36 : decode b_N_stat 36 = .ok (.getfield 32, 3) := by decide +kernel
theorem d_N_stat_39 : decode b_N_stat 39 = .ok (.iload_n 2, 1) := by decide +kernel
theorem d_N_stat_40 : decode b_N_stat 40 = .ok (.iaload, 1) := by decide +kernel
theorem d_N_stat_41 : decode b_N_stat 41 = .ok (.invokevirtual 170, 3) := by decide +kernel
theorem d_N_stat_44 : decode b_N_stat 44 = .ok (.aload_n 0, 1) := by decide +kernel
theorem d_N_stat_45 : decode b_N_stat 45 = .ok (.aload_n 0, 1) := by decide +kernel
theorem d_N_stat_46 : decode b_N_stat 46 = .ok (.getfield 35, 3) := by decide +kernel
theorem d_N_stat_49 : decode b_N_stat 49 = .ok (.iload_n 2, 1) := by decide +kernel
theorem d_N_stat_50 : decode b_N_stat 50 = .ok (.iaload, 1) := by decide +kernel
theorem d_N_stat_51 : decode b_N_stat 51 = .ok (.invokevirtual 170, 3) := by decide +kernel
theorem d_N_stat_54 : decode b_N_stat 54 = .ok (.aload_n 0, 1) := by decide +kernel
theorem d_N_stat_55 : decode b_N_stat 55 = .ok (.aload_n 0, 1) := by decide +kernel
theorem d_N_stat_56 : decode b_N_stat 56 = .ok (.iload_n 2, 1) := by decide +kernel
theorem d_N_stat_57 : decode b_N_stat 57 = .ok (.invokevirtual 174, 3) := by decide +kernel
theorem d_N_stat_60 : decode b_N_stat 60 = .ok (.ifCond .eq 7, 3) := by decide +kernel
theorem d_N_stat_63 : decode b_N_stat 63 = .ok (.iconst 0, 1) := by decide +kernel
theorem d_N_stat_64 : decode b_N_stat 64 = .ok (.goto 9, 3) := by decide +kernel
theorem d_N_stat_67 : decode b_N_stat 67 = .ok (.aload_n 0, 1) := by decide +kernel
theorem d_N_stat_68 : decode b_N_stat 68 = .ok (.getfield 38, 3) := by decide +kernel
theorem d_N_stat_71 : decode b_N_stat 71 = .ok (.iload_n 2, 1) := by decide +kernel
theorem d_N_stat_72 : decode b_N_stat 72 = .ok (.iaload, 1) := by decide +kernel
theorem d_N_stat_73 : decode b_N_stat 73 = .ok (.invokevirtual 170, 3) := by decide +kernel
theorem d_N_stat_76 : decode b_N_stat 76 = .ok (.aload_n 0, 1) := by decide +kernel
theorem d_N_stat_77 : decode b_N_stat 77 = .ok (.aload_n 0, 1) := by decide +kernel
theorem d_N_stat_78 : decode b_N_stat 78 = .ok (.getfield 26, 3) := by decide +kernel
theorem d_N_stat_81 : decode b_N_stat 81 = .ok (.iload_n 2, 1) := by decide +kernel
theorem d_N_stat_82 : decode b_N_stat 82 = .ok (.iaload, 1) := by decide +kernel
theorem d_N_stat_83 : decode b_N_stat 83 = .ok (.invokevirtual 170, 3) := by decide +kernel
theorem d_N_stat_86 : decode b_N_stat 86 = .ok (.aload_n 0, 1) := by decide +kernel
theorem d_N_stat_87 : decode b_N_stat 87 = .ok (.aload_n 0, 1) := by decide +kernel
theorem d_N_stat_88 : decode b_N_stat 88 = .ok (.getfield 29, 3) := by decide +kernel
theorem d_N_stat_91 : decode b_N_stat 91 = .ok (.iload_n 2, 1) := by decide +kernel
theorem d_N_stat_92 : decode b_N_stat 92 = .ok (.iaload, 1) := by decide +kernel
theorem d_N_stat_93 : decode b_N_stat 93 = .ok (.invokevirtual 170, 3) := by decide +kernel
theorem d_N_stat_96 : decode b_N_stat 96 = .ok (.aload_n 0, 1) := by decide +kernel
theorem d_N_stat_97 : decode b_N_stat 97 = .ok (.aload_n 0, 1) := by decide +kernel
theorem d_N_stat_98 : decode b_N_stat 98 = .ok (.getfield 23, 3) := by decide +kernel
theorem d_N_stat_101 : decode b_N_stat 101 = .ok (.iload_n 2, 1) := by decide +kernel
theorem d_N_stat_102 : decode b_N_stat 102 = .ok (.iaload, 1) := by decide +kernel
theorem d_N_stat_103 : decode b_N_stat 103 = .ok (.invokevirtual 170, 3) := by decide +kernel
theorem d_N_stat_106 : decode b_N_stat 106 = .ok (.iconst 0, 1) := by decide +kernel
theorem d_N_stat_107 : decode b_N_stat 107 = .ok (.ireturn, 1) := by decide +kernel
set_option maxRecDepth 20000 in
theorem ct_N_stat (E : mm_En) (C : Nat → Nat → Int32) {f t s : Nat} (hw : nw_P C s) (hu : nu_P C f t) (hr : C 204 26 = nI 0) : mm_MT E K_N_stat [.ref 204, .int (nI f)] (hp_H C) (mm_D (some (.int (nT_R C f t).1)) (nT_R C f t).2) := by
  obtain ⟨hm, hp, hg, hl, es, s4, hroot⟩ := hw
  obtain ⟨hf, ht, et, hus⟩ := hu
  refine mm_mtL (by decide) (by rfl) (Nat.le_of_ble_eq_true rfl) rfl ?_
  refine ev_aload_n (pc := 0) d_N_stat_0 rfl rfl (by first | rfl | exact mm_rk_rf _) ?_
  refine ev_gR (pc := 1) sh_N (by rfl) fl_N_54 d_N_stat_1 ?_
  refine ev_iload_n (pc := 4) d_N_stat_4 rfl rfl ?_
  refine ev_rIN (pc := 5) sh_N_user (by omega) (by decide) d_N_stat_5 ?_
  refine ev_if_ge (pc := 6) (tgt := 11) d_N_stat_6 (by decide) (fun ha => ?_) (fun ha => ?_)
  rotate_left
  · have ha' : C 217 f < 0 := Int32.not_le.mp ha
    rw [nT_R, if_pos ha']
    refine ev_iconst (pc := 9) (v := -1) d_N_stat_9 rfl ?_
    exact ev_iret (pc := 10) d_N_stat_10 rfl (Nat.zero_le _) (Nat.zero_le _) ⟨rfl, rfl⟩
  have ha' : ¬ C 217 f < 0 := Int32.not_lt.mpr ha
  rw [nT_R, if_neg ha']
  refine ev_aload_n (pc := 11) d_N_stat_11 rfl rfl (by first | rfl | exact mm_rk_rf _) ?_
  refine ev_iload_n (pc := 12) d_N_stat_12 rfl rfl ?_
  refine ev_cV (pc := 13) (ct_N_nodeOf E C hm hf ht et) cl_N_167 jv_N_nodeOf ⟨(Nat.le_of_ble_eq_true rfl), (Nat.le_of_ble_eq_true rfl)⟩ rfl sh_N rfl (Nat.le_of_ble_eq_true rfl) d_N_stat_13 ⟨Nat.zero_le _, Nat.zero_le _⟩ ?_
  cases hn : nc_i C t (C 219 f) with
  | none =>
    rw [show oI none = -1 from rfl]
    refine ev_istore_n (pc := 16) d_N_stat_16 rfl (Nat.le_of_ble_eq_true rfl) rfl ?_
    try dsimp only [List.set]
    refine ev_iload_n (pc := 17) d_N_stat_17 rfl rfl ?_
    refine ev_if_ge (pc := 18) (tgt := 24) d_N_stat_18 (by decide) (fun hb => ?_) (fun hb => ?_)
    · exact absurd hb (by decide)
    refine ev_bipush (pc := 21) (v := -13) d_N_stat_21 (by decide) ?_
    exact ev_iret (pc := 23) d_N_stat_23 rfl (Nat.zero_le _) (Nat.zero_le _) ⟨rfl, rfl⟩
  | some k =>
    rw [show oI (some k) = nI k from rfl]
    obtain ⟨v1, v2, v3, v4⟩ := nc_v ht hm hn
    refine ev_istore_n (pc := 16) d_N_stat_16 rfl (Nat.le_of_ble_eq_true rfl) rfl ?_
    try dsimp only [List.set]
    refine ev_iload_n (pc := 17) d_N_stat_17 rfl rfl ?_
    refine ev_if_ge (pc := 18) (tgt := 24) d_N_stat_18 (by decide) (fun hb => ?_) (fun hb => ?_)
    rotate_left
    · exact absurd (nI_pos' (by omega)) hb
    refine ev_aload_n (pc := 24) d_N_stat_24 rfl rfl (by first | rfl | exact mm_rk_rf _) ?_
    refine ev_aload_n (pc := 25) d_N_stat_25 rfl rfl (by first | rfl | exact mm_rk_rf _) ?_
    refine ev_gR (pc := 26) sh_N (by rfl) fl_N_17 d_N_stat_26 ?_
    refine ev_iload_n (pc := 29) d_N_stat_29 rfl rfl ?_
    refine ev_rIN (pc := 30) sh_N_path (by omega) (by decide) d_N_stat_30 ?_
    refine ev_cVv (pc := 31) (ct_N_tell E _ hr (by decide) _) cl_N_170 jv_N_tell ⟨(Nat.le_of_ble_eq_true rfl), (Nat.le_of_ble_eq_true rfl)⟩ rfl sh_N rfl (Nat.le_of_ble_eq_true rfl) d_N_stat_31 ⟨Nat.zero_le _, Nat.zero_le _⟩ ?_
    refine ev_aload_n (pc := 34) d_N_stat_34 rfl rfl (by first | rfl | exact mm_rk_rf _) ?_
    refine ev_aload_n (pc := 35) d_N_stat_35 rfl rfl (by first | rfl | exact mm_rk_rf _) ?_
    refine ev_gR (pc := 36) sh_N (by rfl) fl_N_32 d_N_stat_36 ?_
    refine ev_iload_n (pc := 39) d_N_stat_39 rfl rfl ?_
    refine ev_rIN (pc := 40) sh_N_version (by omega) (by decide) d_N_stat_40 ?_
    refine ev_cVv (pc := 41) (ct_N_tell E _ (nt_k _ _ _) (by decide) _) cl_N_170 jv_N_tell ⟨(Nat.le_of_ble_eq_true rfl), (Nat.le_of_ble_eq_true rfl)⟩ rfl sh_N rfl (Nat.le_of_ble_eq_true rfl) d_N_stat_41 ⟨Nat.zero_le _, Nat.zero_le _⟩ ?_
    refine ev_aload_n (pc := 44) d_N_stat_44 rfl rfl (by first | rfl | exact mm_rk_rf _) ?_
    refine ev_aload_n (pc := 45) d_N_stat_45 rfl rfl (by first | rfl | exact mm_rk_rf _) ?_
    refine ev_gR (pc := 46) sh_N (by rfl) fl_N_35 d_N_stat_46 ?_
    refine ev_iload_n (pc := 49) d_N_stat_49 rfl rfl ?_
    refine ev_rIN (pc := 50) sh_N_mode (by omega) (by decide) d_N_stat_50 ?_
    refine ev_cVv (pc := 51) (ct_N_tell E _ (nt_k _ _ _) (by decide) _) cl_N_170 jv_N_tell ⟨(Nat.le_of_ble_eq_true rfl), (Nat.le_of_ble_eq_true rfl)⟩ rfl sh_N rfl (Nat.le_of_ble_eq_true rfl) d_N_stat_51 ⟨Nat.zero_le _, Nat.zero_le _⟩ ?_
    refine ev_eq rfl rfl rfl (show _ = hp_H (nt_m C k 0) from rfl) rfl rfl ?_
    have tail : ∀ v : Int32, v = (if (C 213 k &&& 2048) = 0 then C 214 k else 0) → ev_At E K_N_stat 73 [some (.ref 204), some (.int (nI f)), some (.int (nI k))] [.int v, .ref 204] (hp_H (nt_m C k 0)) 0 0 (mm_D (some (.int (0, nT_C C k).1)) (0, nT_C C k).2) := by
      intro v hv
      refine ev_cVv (pc := 73) (ct_N_tell E _ (nt_k _ _ _) (by decide) _) cl_N_170 jv_N_tell ⟨(Nat.le_of_ble_eq_true rfl), (Nat.le_of_ble_eq_true rfl)⟩ rfl sh_N rfl (Nat.le_of_ble_eq_true rfl) d_N_stat_73 ⟨Nat.zero_le _, Nat.zero_le _⟩ ?_
      refine ev_aload_n (pc := 76) d_N_stat_76 rfl rfl (by first | rfl | exact mm_rk_rf _) ?_
      refine ev_aload_n (pc := 77) d_N_stat_77 rfl rfl (by first | rfl | exact mm_rk_rf _) ?_
      refine ev_gR (pc := 78) sh_N (by rfl) fl_N_26 d_N_stat_78 ?_
      refine ev_iload_n (pc := 81) d_N_stat_81 rfl rfl ?_
      refine ev_rIN (pc := 82) sh_N_owner (by omega) (by decide) d_N_stat_82 ?_
      refine ev_cVv (pc := 83) (ct_N_tell E _ (nt_k _ _ _) (by decide) _) cl_N_170 jv_N_tell ⟨(Nat.le_of_ble_eq_true rfl), (Nat.le_of_ble_eq_true rfl)⟩ rfl sh_N rfl (Nat.le_of_ble_eq_true rfl) d_N_stat_83 ⟨Nat.zero_le _, Nat.zero_le _⟩ ?_
      refine ev_aload_n (pc := 86) d_N_stat_86 rfl rfl (by first | rfl | exact mm_rk_rf _) ?_
      refine ev_aload_n (pc := 87) d_N_stat_87 rfl rfl (by first | rfl | exact mm_rk_rf _) ?_
      refine ev_gR (pc := 88) sh_N (by rfl) fl_N_29 d_N_stat_88 ?_
      refine ev_iload_n (pc := 91) d_N_stat_91 rfl rfl ?_
      refine ev_rIN (pc := 92) sh_N_group (by omega) (by decide) d_N_stat_92 ?_
      refine ev_cVv (pc := 93) (ct_N_tell E _ (nt_k _ _ _) (by decide) _) cl_N_170 jv_N_tell ⟨(Nat.le_of_ble_eq_true rfl), (Nat.le_of_ble_eq_true rfl)⟩ rfl sh_N rfl (Nat.le_of_ble_eq_true rfl) d_N_stat_93 ⟨Nat.zero_le _, Nat.zero_le _⟩ ?_
      refine ev_aload_n (pc := 96) d_N_stat_96 rfl rfl (by first | rfl | exact mm_rk_rf _) ?_
      refine ev_aload_n (pc := 97) d_N_stat_97 rfl rfl (by first | rfl | exact mm_rk_rf _) ?_
      refine ev_gR (pc := 98) sh_N (by rfl) fl_N_23 d_N_stat_98 ?_
      refine ev_iload_n (pc := 101) d_N_stat_101 rfl rfl ?_
      refine ev_rIN (pc := 102) sh_N_title (by omega) (by decide) d_N_stat_102 ?_
      refine ev_cVv (pc := 103) (ct_N_tell E _ (nt_k _ _ _) (by decide) _) cl_N_170 jv_N_tell ⟨(Nat.le_of_ble_eq_true rfl), (Nat.le_of_ble_eq_true rfl)⟩ rfl sh_N rfl (Nat.le_of_ble_eq_true rfl) d_N_stat_103 ⟨Nat.zero_le _, Nat.zero_le _⟩ ?_
      refine ev_iconst (pc := 106) (v := 0) d_N_stat_106 rfl ?_
      rw [hv]
      exact ev_iret (pc := 107) d_N_stat_107 rfl (Nat.zero_le _) (Nat.zero_le _) ⟨rfl, rfl⟩
    refine ev_aload_n (pc := 54) d_N_stat_54 rfl rfl (by first | rfl | exact mm_rk_rf _) ?_
    refine ev_aload_n (pc := 55) d_N_stat_55 rfl rfl (by first | rfl | exact mm_rk_rf _) ?_
    refine ev_iload_n (pc := 56) d_N_stat_56 rfl rfl ?_
    refine ev_cV (pc := 57) (ct_N_isDirectory E _ v1) cl_N_174 jv_N_isDirectory ⟨(Nat.le_of_ble_eq_true rfl), (Nat.le_of_ble_eq_true rfl)⟩ rfl sh_N rfl (Nat.le_of_ble_eq_true rfl) d_N_stat_57 ⟨Nat.zero_le _, Nat.zero_le _⟩ ?_
    have e3 : nt_m C k 0 213 k = C 213 k := ntm_ne (by decide) (by decide)
    have e4 : nt_m C k 0 214 k = C 214 k := ntm_ne (by decide) (by decide)
    rw [e3]
    refine ev_if_eq (pc := 60) (tgt := 67) d_N_stat_60 (by decide) (fun hb => ?_) (fun hb => ?_)
    · rw [b2_0, Classical.not_not] at hb
      refine ev_aload_n (pc := 67) d_N_stat_67 rfl rfl (by first | rfl | exact mm_rk_rf _) ?_
      refine ev_gR (pc := 68) sh_N (by rfl) fl_N_38 d_N_stat_68 ?_
      refine ev_iload_n (pc := 71) d_N_stat_71 rfl rfl ?_
      refine ev_rIN (pc := 72) sh_N_length (by omega) (by decide) d_N_stat_72 ?_
      rw [e4]
      exact tail _ (by rw [if_pos hb])
    · rw [b2_0, Classical.not_not] at hb
      refine ev_iconst (pc := 63) (v := 0) d_N_stat_63 rfl ?_
      refine ev_goto (pc := 64) (tgt := 73) d_N_stat_64 (by decide) ?_
      exact tail _ (by rw [if_neg hb])
