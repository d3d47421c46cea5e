/-! A connection: the cell 133 + 33c. Searching and counting. -/
def fx_f (P : Nat → Bool) : Nat → Nat → Option Nat
  | 0, _ => none
  | n + 1, i => if P i = true then some i else fx_f P n (i + 1)
def fx_c (P : Nat → Bool) : Nat → Nat → Nat
  | 0, _ => 0
  | n + 1, i => (if P i = true then 1 else 0) + fx_c P n (i + 1)
theorem fx_c_le (P : Nat → Bool) : ∀ n i, fx_c P n i ≤ n := by
  intro n
  induction n with
  | zero => intro i; exact Nat.le_refl _
  | succ n ih =>
    intro i
    have := ih (i + 1)
    simp only [fx_c]
    split <;> omega
theorem fx_f_some (P : Nat → Bool) : ∀ n i j, fx_f P n i = some j → i ≤ j ∧ j < i + n ∧ P j = true := by
  intro n
  induction n with
  | zero => intro i j h; cases h
  | succ n ih =>
    intro i j h
    simp only [fx_f] at h
    split at h
    · cases h
      exact ⟨Nat.le_refl _, by omega, by assumption⟩
    · obtain ⟨h1, h2, h3⟩ := ih (i + 1) j h
      exact ⟨by omega, by omega, h3⟩
theorem fx_f_none (P : Nat → Bool) : ∀ n i, fx_f P n i = none → ∀ j, i ≤ j → j < i + n → P j = false := by
  intro n
  induction n with
  | zero => intro i h j h1 h2; omega
  | succ n ih =>
    intro i h j h1 h2
    simp only [fx_f] at h
    split at h
    · cases h
    · rename_i hp
      by_cases hj : j = i
      · subst hj
        simpa using hp
      · exact ih (i + 1) h j (by omega) (by omega)
noncomputable def b3_P (P : Prop) : Int32 := @b2_P P (Classical.propDecidable P)
theorem b3_t {P : Prop} (h : P) : b3_P P = 1 := @b2_t P (Classical.propDecidable P) h
theorem b3_f {P : Prop} (h : ¬ P) : b3_P P = 0 := @b2_f P (Classical.propDecidable P) h
theorem b3_0 {P : Prop} : b3_P P = 0 ↔ ¬ P := @b2_0 P (Classical.propDecidable P)
theorem b3_01 (P : Prop) : b3_P P = 0 ∨ b3_P P = 1 := @b2_01 P (Classical.propDecidable P)
theorem b3_c {P Q : Prop} (h : P ↔ Q) : b3_P P = b3_P Q := by rw [propext h]
theorem b3_b2 {P : Prop} [Decidable P] : b3_P P = b2_P P := by
  by_cases h : P
  · rw [b3_t h, b2_t h]
  · rw [b3_f h, b2_f h]
/-! fewer known locals -/
def mm_le : List (Option Value) → List (Option Value) → Prop
  | [], [] => True
  | a :: l, b :: l' => (a = none ∨ a = b) ∧ mm_le l l'
  | _, _ => False
theorem mm_le_ok : ∀ (l l' : List (Option Value)), mm_le l l' → l.length = l'.length ∧ ∀ (i : Nat) (v : Value), l[i]? = some (some v) → l'[i]? = some (some v)
  | [], [], _ => ⟨rfl, fun i v h => h⟩
  | a :: l, b :: l', h => by
    obtain ⟨h1, h2⟩ := mm_le_ok l l' h.2
    refine ⟨by simp [h1], fun i v hv => ?_⟩
    cases i with
    | zero =>
      simp at hv
      rcases h.1 with h3 | h3
      · rw [h3] at hv; cases hv
      · simp [← h3, hv]
    | succ i =>
      simp at hv ⊢
      exact h2 i v hv
  | [], _ :: _, h => h.elim
  | _ :: _, [], h => h.elim
theorem ev_forget {E : mm_En} {K : mm_KI} {pc : Nat} {L L' : List (Option Value)} {st : List Value} {h : mm_H} {uc us : Nat} {Q : Option Value → mm_H → Prop} (hL : mm_le L' L) (k : ev_At E K pc L' st h uc us Q) : ev_At E K pc L st h uc us Q := by
  intro p e s m args below meth c Z H locs ls F R hH hS hl
  obtain ⟨h1, h2⟩ := mm_le_ok L' L hL
  exact k p e s m args below meth c Z H locs ls F R hH hS ⟨hl.1, hl.2.1, by rw [h1]; exact hl.2.2.1, fun i v hv => hl.2.2.2 i v (h2 i v hv)⟩
/-- a fid's cell, a request's cell -/
abbrev cn_f (c f : Nat) : Nat := 133 + 33 * c + 2 + f
abbrev cn_q (c t : Nat) : Nat := 133 + 33 * c + 9 + 3 * t
theorem cn_fl : ∀ f, f < 6 → ∀ b : Nat, ([b + 2, b + 3, b + 4, b + 5, b + 6, b + 7] : List Nat)[f]? = some (b + 2 + f) := by
  intro f hf b
  rcases (show f = 0 ∨ f = 1 ∨ f = 2 ∨ f = 3 ∨ f = 4 ∨ f = 5 by omega) with rfl | rfl | rfl | rfl | rfl | rfl <;> rfl
theorem cn_ql : ∀ t, t < 8 → ∀ b : Nat, ([b + 9, b + 12, b + 15, b + 18, b + 21, b + 24, b + 27, b + 30] : List Nat)[t]? = some (b + 9 + 3 * t) := by
  intro t ht b
  rcases (show t = 0 ∨ t = 1 ∨ t = 2 ∨ t = 3 ∨ t = 4 ∨ t = 5 ∨ t = 6 ∨ t = 7 by omega) with rfl | rfl | rfl | rfl | rfl | rfl | rfl | rfl <;> rfl
theorem d_C_fidAt_0 : decode b_C_fidAt 0 = .ok (.iload_n 1, 1) := by decide +kernel
theorem d_C_fidAt_1 : decode b_C_fidAt 1 = .ok (.ifCond .lt 18, 3) := by decide +kernel
theorem d_C_fidAt_4 : decode b_C_fidAt 4 = .ok (.iload_n 1, 1) := by decide +kernel
theorem d_C_fidAt_5 : decode b_C_fidAt 5 = .ok (.bipush 6, 2) := by decide +kernel
theorem d_C_fidAt_7 : decode b_C_fidAt 7 = .ok (.if_icmp .ge 12, 3) := by decide +kernel
theorem d_C_fidAt_10 : decode b_C_fidAt 10 = .ok (.aload_n 0, 1) := by decide +kernel
theorem d_C_fidAt_11 : decode b_C_fidAt 11 = .ok (.getfield 11, 3) := by decide +kernel
theorem d_C_fidAt_14 : decode b_C_fidAt 14 = .ok (.iload_n 1, 1) := by decide +kernel
theorem d_C_fidAt_15 : decode b_C_fidAt 15 = .ok (.aaload, 1) := by decide +kernel
theorem d_C_fidAt_16 : decode b_C_fidAt 16 = .ok (.goto 4, 3) := by decide +kernel
theorem d_C_fidAt_19 : decode b_C_fidAt 19 = .ok (.aconst_null, 1) := by decide +kernel
theorem d_C_fidAt_20 : decode b_C_fidAt 20 = .ok (.areturn, 1) := by decide +kernel
set_option maxRecDepth 20000 in
theorem ct_C_fidAt (E : mm_En) (C : Nat → Nat → Int32) {c : Nat} (hc : c < 2) {f : Nat} (hf : f < 6) : mm_MT E K_C_fidAt [.ref (133 + 33 * c), .int (nI f)] (hp_H C) (mm_D (some (.ref (cn_f c f))) C) := by
  have s1 := sh_con c hc
  have s2 := sh_fids c hc
  have hin : vp_in (nI f) 6 := vp_in_nI hf (by decide)
  have hpl : ([133 + 33 * c + 2, 133 + 33 * c + 3, 133 + 33 * c + 4, 133 + 33 * c + 5, 133 + 33 * c + 6, 133 + 33 * c + 7] : List Nat)[(nI f).toNatClampNeg]? = some (cn_f c f) := by
    rw [nI_clamp (by omega)]
    exact cn_fl f hf _
  refine mm_mtL (by decide) (by rfl) (Nat.le_of_ble_eq_true rfl) rfl ?_
  refine ev_iload_n (pc := 0) d_C_fidAt_0 rfl rfl ?_
  refine ev_if_lt (pc := 1) (tgt := 19) d_C_fidAt_1 (by decide) (fun ha => ?_) (fun ha => ?_)
  · exact absurd ha (nI_pos (by omega))
  refine ev_iload_n (pc := 4) d_C_fidAt_4 rfl rfl ?_
  refine ev_bipush (pc := 5) (v := 6) d_C_fidAt_5 (by decide) ?_
  refine ev_icmp_ge (pc := 7) (tgt := 19) d_C_fidAt_7 (by decide) (fun hb => ?_) (fun hb => ?_)
  · exact absurd hb (nI_ge hf (by decide))
  refine ev_aload_n (pc := 10) d_C_fidAt_10 rfl rfl (by first | rfl | exact mm_rk_rf _) ?_
  refine ev_gR (pc := 11) (by assumption) (by rfl) fl_C_11 d_C_fidAt_11 ?_
  refine ev_iload_n (pc := 14) d_C_fidAt_14 rfl rfl ?_
  refine ev_rR (pc := 15) (by assumption) rfl (by assumption) (by assumption) d_C_fidAt_15 ?_
  refine ev_goto (pc := 16) (tgt := 20) d_C_fidAt_16 (by decide) ?_
  exact ev_aret (pc := 20) d_C_fidAt_20 ⟨_, rfl⟩ (by first | rfl | exact mm_rk_rf _) (Nat.zero_le _) (Nat.zero_le _) ⟨rfl, rfl⟩
set_option maxRecDepth 20000 in
theorem ct_C_fidAtN (E : mm_En) (C : Nat → Nat → Int32) {c : Nat} (hc : c < 2) {x : Int32} (hx : x < 0 ∨ 6 ≤ x) : mm_MT E K_C_fidAt [.ref (133 + 33 * c), .int x] (hp_H C) (mm_D (some .null) C) := by
  refine mm_mtL (by decide) (by rfl) (Nat.le_of_ble_eq_true rfl) rfl ?_
  refine ev_iload_n (pc := 0) d_C_fidAt_0 rfl rfl ?_
  refine ev_if_lt (pc := 1) (tgt := 19) d_C_fidAt_1 (by decide) (fun ha => ?_) (fun ha => ?_)
  · refine ev_null (pc := 19) d_C_fidAt_19 ?_
    exact ev_aret (pc := 20) d_C_fidAt_20 ⟨_, rfl⟩ (by first | rfl | exact mm_rk_rf _) (Nat.zero_le _) (Nat.zero_le _) ⟨rfl, rfl⟩
  refine ev_iload_n (pc := 4) d_C_fidAt_4 rfl rfl ?_
  refine ev_bipush (pc := 5) (v := 6) d_C_fidAt_5 (by decide) ?_
  refine ev_icmp_ge (pc := 7) (tgt := 19) d_C_fidAt_7 (by decide) (fun hb => ?_) (fun hb => ?_)
  · refine ev_null (pc := 19) d_C_fidAt_19 ?_
    exact ev_aret (pc := 20) d_C_fidAt_20 ⟨_, rfl⟩ (by first | rfl | exact mm_rk_rf _) (Nat.zero_le _) (Nat.zero_le _) ⟨rfl, rfl⟩
  · exact absurd (hx.resolve_left ha) hb
theorem d_C_requestAt_0 : decode b_C_requestAt 0 = .ok (.iload_n 1, 1) := by decide +kernel
theorem d_C_requestAt_1 : decode b_C_requestAt 1 = .ok (.ifCond .lt 18, 3) := by decide +kernel
theorem d_C_requestAt_4 : decode b_C_requestAt 4 = .ok (.iload_n 1, 1) := by decide +kernel
theorem d_C_requestAt_5 : decode b_C_requestAt 5 = .ok (.bipush 8, 2) := by decide +kernel
theorem d_C_requestAt_7 : decode b_C_requestAt 7 = .ok (.if_icmp .ge 12, 3) := by decide +kernel
theorem d_C_requestAt_10 : decode b_C_requestAt 10 = .ok (.aload_n 0, 1) := by decide +kernel
theorem d_C_requestAt_11 : decode b_C_requestAt 11 = .ok (.getfield 20, 3) := by decide +kernel
theorem d_C_requestAt_14 : decode b_C_requestAt 14 = .ok (.iload_n 1, 1) := by decide +kernel
theorem d_C_requestAt_15 : decode b_C_requestAt 15 = .ok (.aaload, 1) := by decide +kernel
theorem d_C_requestAt_16 : decode b_C_requestAt 16 = .ok (.goto 4, 3) := by decide +kernel
theorem d_C_requestAt_19 : decode b_C_requestAt 19 = .ok (.aconst_null, 1) := by decide +kernel
theorem d_C_requestAt_20 : decode b_C_requestAt 20 = .ok (.areturn, 1) := by decide +kernel
set_option maxRecDepth 20000 in
theorem ct_C_requestAt (E : mm_En) (C : Nat → Nat → Int32) {c : Nat} (hc : c < 2) {t : Nat} (ht : t < 8) : mm_MT E K_C_requestAt [.ref (133 + 33 * c), .int (nI t)] (hp_H C) (mm_D (some (.ref (cn_q c t))) C) := by
  have s1 := sh_con c hc
  have s2 := sh_reqs c hc
  have hin : vp_in (nI t) 8 := vp_in_nI ht (by decide)
  have hpl : ([133 + 33 * c + 9, 133 + 33 * c + 12, 133 + 33 * c + 15, 133 + 33 * c + 18, 133 + 33 * c + 21, 133 + 33 * c + 24, 133 + 33 * c + 27, 133 + 33 * c + 30] : List Nat)[(nI t).toNatClampNeg]? = some (cn_q c t) := by
    rw [nI_clamp (by omega)]
    exact cn_ql t ht _
  refine mm_mtL (by decide) (by rfl) (Nat.le_of_ble_eq_true rfl) rfl ?_
  refine ev_iload_n (pc := 0) d_C_requestAt_0 rfl rfl ?_
  refine ev_if_lt (pc := 1) (tgt := 19) d_C_requestAt_1 (by decide) (fun ha => ?_) (fun ha => ?_)
  · exact absurd ha (nI_pos (by omega))
  refine ev_iload_n (pc := 4) d_C_requestAt_4 rfl rfl ?_
  refine ev_bipush (pc := 5) (v := 8) d_C_requestAt_5 (by decide) ?_
  refine ev_icmp_ge (pc := 7) (tgt := 19) d_C_requestAt_7 (by decide) (fun hb => ?_) (fun hb => ?_)
  · exact absurd hb (nI_ge ht (by decide))
  refine ev_aload_n (pc := 10) d_C_requestAt_10 rfl rfl (by first | rfl | exact mm_rk_rf _) ?_
  refine ev_gR (pc := 11) (by assumption) (by rfl) fl_C_20 d_C_requestAt_11 ?_
  refine ev_iload_n (pc := 14) d_C_requestAt_14 rfl rfl ?_
  refine ev_rR (pc := 15) (by assumption) rfl (by assumption) (by assumption) d_C_requestAt_15 ?_
  refine ev_goto (pc := 16) (tgt := 20) d_C_requestAt_16 (by decide) ?_
  exact ev_aret (pc := 20) d_C_requestAt_20 ⟨_, rfl⟩ (by first | rfl | exact mm_rk_rf _) (Nat.zero_le _) (Nat.zero_le _) ⟨rfl, rfl⟩
set_option maxRecDepth 20000 in
theorem ct_C_requestAtN (E : mm_En) (C : Nat → Nat → Int32) {c : Nat} (hc : c < 2) {x : Int32} (hx : x < 0 ∨ 8 ≤ x) : mm_MT E K_C_requestAt [.ref (133 + 33 * c), .int x] (hp_H C) (mm_D (some .null) C) := by
  refine mm_mtL (by decide) (by rfl) (Nat.le_of_ble_eq_true rfl) rfl ?_
  refine ev_iload_n (pc := 0) d_C_requestAt_0 rfl rfl ?_
  refine ev_if_lt (pc := 1) (tgt := 19) d_C_requestAt_1 (by decide) (fun ha => ?_) (fun ha => ?_)
  · refine ev_null (pc := 19) d_C_requestAt_19 ?_
    exact ev_aret (pc := 20) d_C_requestAt_20 ⟨_, rfl⟩ (by first | rfl | exact mm_rk_rf _) (Nat.zero_le _) (Nat.zero_le _) ⟨rfl, rfl⟩
  refine ev_iload_n (pc := 4) d_C_requestAt_4 rfl rfl ?_
  refine ev_bipush (pc := 5) (v := 8) d_C_requestAt_5 (by decide) ?_
  refine ev_icmp_ge (pc := 7) (tgt := 19) d_C_requestAt_7 (by decide) (fun hb => ?_) (fun hb => ?_)
  · refine ev_null (pc := 19) d_C_requestAt_19 ?_
    exact ev_aret (pc := 20) d_C_requestAt_20 ⟨_, rfl⟩ (by first | rfl | exact mm_rk_rf _) (Nat.zero_le _) (Nat.zero_le _) ⟨rfl, rfl⟩
  · exact absurd (hx.resolve_left ha) hb
theorem d_C_countRequests_0 : decode b_C_countRequests 0 = .ok (.iconst 0, 1) := by decide +kernel
theorem d_C_countRequests_1 : decode b_C_countRequests 1 = .ok (.istore_n 1, 1) := by decide +kernel
theorem d_C_countRequests_2 : decode b_C_countRequests 2 = .ok (.iconst 0, 1) := by decide +kernel
theorem d_C_countRequests_3 : decode b_C_countRequests 3 = .ok (.istore_n 2, 1) := by decide +kernel
theorem d_C_countRequests_4 : decode b_C_countRequests 4 = .ok (.iload_n 2, 1) := by decide +kernel
theorem d_C_countRequests_5 : decode b_C_countRequests 5 = .ok (.bipush 8, 2) := by decide +kernel
theorem d_C_countRequests_7 : decode b_C_countRequests 7 = .ok (.if_icmp .ge 24, 3) := by decide +kernel
theorem d_C_countRequests_10 : decode b_C_countRequests 10 = .ok (.aload_n 0, 1) := by decide +kernel
theorem d_C_countRequests_11 : decode b_C_countRequests 11 = .ok (.getfield 20, 3) := by decide +kernel
theorem d_C_countRequests_14 : decode b_C_countRequests 14 = .ok (.iload_n 2, 1) := by decide +kernel
theorem d_C_countRequests_15 : decode b_C_countRequests 15 = .ok (.aaload, 1) := by decide +kernel
theorem d_C_countRequests_16 : decode b_C_countRequests 16 = .ok (.getfield 25, 3) := by decide +kernel
theorem d_C_countRequests_19 : decode b_C_countRequests 19 = .ok (.ifCond .eq 6, 3) := by decide +kernel
theorem d_C_countRequests_22 : decode b_C_countRequests 22 = .ok (.iinc 1 1, 3) := by decide +kernel
theorem d_C_countRequests_25 : decode b_C_countRequests 25 = .ok (.iinc 2 1, 3) := by decide +kernel
theorem d_C_countRequests_28 : decode b_C_countRequests 28 = .ok (.goto (-24), 3) := by decide +kernel
theorem d_C_countRequests_31 : decode b_C_countRequests 31 = .ok (.iload_n 1, 1) := by decide +kernel
theorem d_C_countRequests_32 : decode b_C_countRequests 32 = .ok (.ireturn, 1) := by decide +kernel
set_option maxRecDepth 20000 in
theorem ct_C_countRequests (E : mm_En) (C : Nat → Nat → Int32) {c : Nat} (hc : c < 2) : mm_MT E K_C_countRequests [.ref (133 + 33 * c)] (hp_H C) (mm_D (some (.int (nI (fx_c (fun t => decide (¬ C (cn_q c t) 1 = 0)) 8 0)))) C) := by
  have s1 := sh_con c hc
  have s2 := sh_reqs c hc
  have loop : ∀ d i k : Nat, i + d = 8 → k ≤ i → ev_At E K_C_countRequests 4 [some (.ref (133 + 33 * c)), some (.int (nI k)), some (.int (nI i))] [] (hp_H C) 0 0 (mm_D (some (.int (nI (k + fx_c (fun t => decide (¬ C (cn_q c t) 1 = 0)) d i)))) C) := by
    intro d
    induction d with
    | zero =>
      intro i k hi hk
      have hi8 : i = 8 := by omega
      subst hi8
      refine ev_iload_n (pc := 4) d_C_countRequests_4 rfl rfl ?_
      refine ev_bipush (pc := 5) (v := 8) d_C_countRequests_5 (by decide) ?_
      refine ev_icmp_ge (pc := 7) (tgt := 31) d_C_countRequests_7 (by decide) (fun ha => ?_) (fun ha => ?_)
      · refine ev_iload_n (pc := 31) d_C_countRequests_31 rfl rfl ?_
        exact ev_iret (pc := 32) d_C_countRequests_32 rfl (Nat.zero_le _) (Nat.zero_le _) ⟨rfl, rfl⟩
      · exact absurd (show nI 8 ≤ nI 8 from Int32.le_refl _) ha
    | succ d ih =>
      intro i k hi hk
      have hin : vp_in (nI i) 8 := vp_in_nI (by omega) (by decide)
      have hpl : ([133 + 33 * c + 9, 133 + 33 * c + 12, 133 + 33 * c + 15, 133 + 33 * c + 18, 133 + 33 * c + 21, 133 + 33 * c + 24, 133 + 33 * c + 27, 133 + 33 * c + 30] : List Nat)[(nI i).toNatClampNeg]? = some (cn_q c i) := by
        rw [nI_clamp (by omega)]
        exact cn_ql i (by omega) _
      have s3 : rq_s (cn_q c i) := sh_req c hc i (by omega)
      refine ev_iload_n (pc := 4) d_C_countRequests_4 rfl rfl ?_
      refine ev_bipush (pc := 5) (v := 8) d_C_countRequests_5 (by decide) ?_
      refine ev_icmp_ge (pc := 7) (tgt := 31) d_C_countRequests_7 (by decide) (fun ha => ?_) (fun ha => ?_)
      · exact absurd ha (nI_ge (show i < 8 by omega) (by decide))
      refine ev_aload_n (pc := 10) d_C_countRequests_10 rfl rfl (by first | rfl | exact mm_rk_rf _) ?_
      refine ev_gR (pc := 11) (by assumption) (by rfl) fl_C_20 d_C_countRequests_11 ?_
      refine ev_iload_n (pc := 14) d_C_countRequests_14 rfl rfl ?_
      refine ev_rR (pc := 15) (by assumption) rfl (by assumption) (by assumption) d_C_countRequests_15 ?_
      refine ev_gI (pc := 16) (by assumption) (by rfl) fl_C_25 d_C_countRequests_16 ?_
      refine ev_if_eq (pc := 19) (tgt := 25) d_C_countRequests_19 (by decide) (fun hb => ?_) (fun hb => ?_)
      · refine ev_iinc (pc := 25) d_C_countRequests_25 (Nat.le_of_ble_eq_true rfl) rfl (nx_inc _) rfl ?_
        try dsimp only [List.set]
        refine ev_goto (pc := 28) (tgt := 4) d_C_countRequests_28 (by decide) ?_
        have h1 := ih (i + 1) k (by omega) (by omega)
        simp only [fx_c, hb]
        simpa using h1
      · refine ev_iinc (pc := 22) d_C_countRequests_22 (Nat.le_of_ble_eq_true rfl) rfl (nx_inc _) rfl ?_
        try dsimp only [List.set]
        refine ev_iinc (pc := 25) d_C_countRequests_25 (Nat.le_of_ble_eq_true rfl) rfl (nx_inc _) rfl ?_
        try dsimp only [List.set]
        refine ev_goto (pc := 28) (tgt := 4) d_C_countRequests_28 (by decide) ?_
        have h1 := ih (i + 1) (k + 1) (by omega) (by omega)
        simp only [fx_c, hb]
        rw [Nat.add_assoc] at h1
        simpa using h1
  refine mm_mtL (by decide) (by rfl) (Nat.le_of_ble_eq_true rfl) rfl ?_
  refine ev_iconst (pc := 0) (v := 0) d_C_countRequests_0 rfl ?_
  refine ev_istore_n (pc := 1) d_C_countRequests_1 rfl (Nat.le_of_ble_eq_true rfl) rfl ?_
  try dsimp only [List.set]
  refine ev_iconst (pc := 2) (v := 0) d_C_countRequests_2 rfl ?_
  refine ev_istore_n (pc := 3) d_C_countRequests_3 rfl (Nat.le_of_ble_eq_true rfl) rfl ?_
  try dsimp only [List.set]
  have h1 := loop 8 0 0 (by omega) (by omega)
  rw [Nat.zero_add] at h1
  exact h1
/-- requests below n of connection c do not wait -/
def cn_dq (C : Nat → Nat → Int32) (c n : Nat) : Nat → Nat → Int32 := fun a j => if j = 1 ∧ 133 + 33 * c + 9 ≤ a ∧ a < 133 + 33 * c + 9 + 3 * n ∧ (a - (133 + 33 * c + 9)) % 3 = 0 then 0 else C a j
theorem d_C_dropRequests_0 : decode b_C_dropRequests 0 = .ok (.iconst 0, 1) := by decide +kernel
theorem d_C_dropRequests_1 : decode b_C_dropRequests 1 = .ok (.istore_n 1, 1) := by decide +kernel
theorem d_C_dropRequests_2 : decode b_C_dropRequests 2 = .ok (.iload_n 1, 1) := by decide +kernel
theorem d_C_dropRequests_3 : decode b_C_dropRequests 3 = .ok (.bipush 8, 2) := by decide +kernel
theorem d_C_dropRequests_5 : decode b_C_dropRequests 5 = .ok (.if_icmp .ge 19, 3) := by decide +kernel
theorem d_C_dropRequests_8 : decode b_C_dropRequests 8 = .ok (.aload_n 0, 1) := by decide +kernel
theorem d_C_dropRequests_9 : decode b_C_dropRequests 9 = .ok (.getfield 20, 3) := by decide +kernel
theorem d_C_dropRequests_12 : decode b_C_dropRequests 12 = .ok (.iload_n 1, 1) := by decide +kernel
theorem d_C_dropRequests_13 : decode b_C_dropRequests 13 = .ok (.aaload, 1) := by decide +kernel
theorem d_C_dropRequests_14 : decode b_C_dropRequests 14 = .ok (.iconst 0, 1) := by decide +kernel
theorem d_C_dropRequests_15 : decode b_C_dropRequests 15 = .ok (.putfield 25, 3) := by decide +kernel
theorem d_C_dropRequests_18 : decode b_C_dropRequests 18 = .ok (.iinc 1 1, 3) := by decide +kernel
theorem d_C_dropRequests_21 : decode b_C_dropRequests 21 = .ok (.goto (-19), 3) := by decide +kernel
theorem d_C_dropRequests_24 : decode b_C_dropRequests 24 = .ok (.return_, 1) := by decide +kernel
set_option maxRecDepth 20000 in
theorem ct_C_dropRequests (E : mm_En) (C : Nat → Nat → Int32) {c : Nat} (hc : c < 2) : mm_MT E K_C_dropRequests [.ref (133 + 33 * c)] (hp_H C) (mm_D none (cn_dq C c 8)) := by
  have s1 := sh_con c hc
  have s2 := sh_reqs c hc
  have loop : ∀ d i : Nat, i + d = 8 → ev_At E K_C_dropRequests 2 [some (.ref (133 + 33 * c)), some (.int (nI i))] [] (hp_H (cn_dq C c i)) 0 0 (mm_D none (cn_dq C c 8)) := by
    intro d
    induction d with
    | zero =>
      intro i hi
      have hi8 : i = 8 := by omega
      subst hi8
      refine ev_iload_n (pc := 2) d_C_dropRequests_2 rfl rfl ?_
      refine ev_bipush (pc := 3) (v := 8) d_C_dropRequests_3 (by decide) ?_
      refine ev_icmp_ge (pc := 5) (tgt := 24) d_C_dropRequests_5 (by decide) (fun ha => ?_) (fun ha => ?_)
      · exact ev_vret (pc := 24) d_C_dropRequests_24 rfl (Nat.zero_le _) (Nat.zero_le _) ⟨rfl, rfl⟩
      · exact absurd (show nI 8 ≤ nI 8 from Int32.le_refl _) ha
    | succ d ih =>
      intro i hi
      have hin : vp_in (nI i) 8 := vp_in_nI (by omega) (by decide)
      have hpl : ([133 + 33 * c + 9, 133 + 33 * c + 12, 133 + 33 * c + 15, 133 + 33 * c + 18, 133 + 33 * c + 21, 133 + 33 * c + 24, 133 + 33 * c + 27, 133 + 33 * c + 30] : List Nat)[(nI i).toNatClampNeg]? = some (cn_q c i) := by
        rw [nI_clamp (by omega)]
        exact cn_ql i (by omega) _
      have s3 : rq_s (cn_q c i) := sh_req c hc i (by omega)
      refine ev_iload_n (pc := 2) d_C_dropRequests_2 rfl rfl ?_
      refine ev_bipush (pc := 3) (v := 8) d_C_dropRequests_3 (by decide) ?_
      refine ev_icmp_ge (pc := 5) (tgt := 24) d_C_dropRequests_5 (by decide) (fun ha => ?_) (fun ha => ?_)
      · exact absurd ha (nI_ge (show i < 8 by omega) (by decide))
      refine ev_aload_n (pc := 8) d_C_dropRequests_8 rfl rfl (by first | rfl | exact mm_rk_rf _) ?_
      refine ev_gR (pc := 9) (by assumption) (by rfl) fl_C_20 d_C_dropRequests_9 ?_
      refine ev_iload_n (pc := 12) d_C_dropRequests_12 rfl rfl ?_
      refine ev_rR (pc := 13) (by assumption) rfl (by assumption) (by assumption) d_C_dropRequests_13 ?_
      refine ev_iconst (pc := 14) (v := 0) d_C_dropRequests_14 rfl ?_
      refine ev_pI (pc := 15) (by assumption) (by rfl) fl_C_25 fw_4_1 (by rfl) d_C_dropRequests_15 ?_
      have e : cs_C (cn_dq C c i) (cn_q c i) 1 0 = cn_dq C c (i + 1) := by
        funext a j
        simp only [cs_app, cn_dq, cn_q]
        grind
      rw [e]
      refine ev_iinc (pc := 18) d_C_dropRequests_18 (Nat.le_of_ble_eq_true rfl) rfl (nx_inc _) rfl ?_
      try dsimp only [List.set]
      refine ev_goto (pc := 21) (tgt := 2) d_C_dropRequests_21 (by decide) ?_
      exact ih (i + 1) (by omega)
  have e0 : C = cn_dq C c 0 := by
    funext a j
    simp only [cn_dq]
    grind
  refine mm_mtL (by decide) (by rfl) (Nat.le_of_ble_eq_true rfl) rfl ?_
  refine ev_iconst (pc := 0) (v := 0) d_C_dropRequests_0 rfl ?_
  refine ev_istore_n (pc := 1) d_C_dropRequests_1 rfl (Nat.le_of_ble_eq_true rfl) rfl ?_
  try dsimp only [List.set]
  have h1 := loop 8 0 (by omega)
  rw [← e0] at h1
  exact h1
/-- fids below n of connection c are free -/
def cn_df (C : Nat → Nat → Int32) (c n : Nat) : Nat → Nat → Int32 := fun a j => if j < 2 ∧ cn_f c 0 ≤ a ∧ a < cn_f c n then 0 else C a j
theorem d_C_dropFids_0 : decode b_C_dropFids 0 = .ok (.iconst 0, 1) := by decide +kernel
theorem d_C_dropFids_1 : decode b_C_dropFids 1 = .ok (.istore_n 1, 1) := by decide +kernel
theorem d_C_dropFids_2 : decode b_C_dropFids 2 = .ok (.iload_n 1, 1) := by decide +kernel
theorem d_C_dropFids_3 : decode b_C_dropFids 3 = .ok (.bipush 6, 2) := by decide +kernel
theorem d_C_dropFids_5 : decode b_C_dropFids 5 = .ok (.if_icmp .ge 18, 3) := by decide +kernel
theorem d_C_dropFids_8 : decode b_C_dropFids 8 = .ok (.aload_n 0, 1) := by decide +kernel
theorem d_C_dropFids_9 : decode b_C_dropFids 9 = .ok (.getfield 11, 3) := by decide +kernel
theorem d_C_dropFids_12 : decode b_C_dropFids 12 = .ok (.iload_n 1, 1) := by decide +kernel
theorem d_C_dropFids_13 : decode b_C_dropFids 13 = .ok (.aaload, 1) := by decide +kernel
theorem d_C_dropFids_14 : decode b_C_dropFids 14 = .ok (.invokevirtual 29, 3) := by decide +kernel
theorem d_C_dropFids_17 : decode b_C_dropFids 17 = .ok (.iinc 1 1, 3) := by decide +kernel
theorem d_C_dropFids_20 : decode b_C_dropFids 20 = .ok (.goto (-18), 3) := by decide +kernel
theorem d_C_dropFids_23 : decode b_C_dropFids 23 = .ok (.return_, 1) := by decide +kernel
set_option maxRecDepth 20000 in
theorem ct_C_dropFids (E : mm_En) (C : Nat → Nat → Int32) {c : Nat} (hc : c < 2) : mm_MT E K_C_dropFids [.ref (133 + 33 * c)] (hp_H C) (mm_D none (cn_df C c 6)) := by
  have s1 := sh_con c hc
  have s2 := sh_fids c hc
  have loop : ∀ d i : Nat, i + d = 6 → ev_At E K_C_dropFids 2 [some (.ref (133 + 33 * c)), some (.int (nI i))] [] (hp_H (cn_df C c i)) 0 0 (mm_D none (cn_df C c 6)) := by
    intro d
    induction d with
    | zero =>
      intro i hi
      have hi8 : i = 6 := by omega
      subst hi8
      refine ev_iload_n (pc := 2) d_C_dropFids_2 rfl rfl ?_
      refine ev_bipush (pc := 3) (v := 6) d_C_dropFids_3 (by decide) ?_
      refine ev_icmp_ge (pc := 5) (tgt := 23) d_C_dropFids_5 (by decide) (fun ha => ?_) (fun ha => ?_)
      · exact ev_vret (pc := 23) d_C_dropFids_23 rfl (Nat.zero_le _) (Nat.zero_le _) ⟨rfl, rfl⟩
      · exact absurd (show nI 6 ≤ nI 6 from Int32.le_refl _) ha
    | succ d ih =>
      intro i hi
      have hin : vp_in (nI i) 6 := vp_in_nI (by omega) (by decide)
      have hpl : ([133 + 33 * c + 2, 133 + 33 * c + 3, 133 + 33 * c + 4, 133 + 33 * c + 5, 133 + 33 * c + 6, 133 + 33 * c + 7] : List Nat)[(nI i).toNatClampNeg]? = some (cn_f c i) := by
        rw [nI_clamp (by omega)]
        exact cn_fl i (by omega) _
      have s3 : fi_s (cn_f c i) := sh_fid c hc i (by omega)
      have e : fi_free (cn_df C c i) (cn_f c i) = cn_df C c (i + 1) := by
        funext a j
        simp only [fi_free, cs_app, cn_df, cn_f]
        grind
      have hM := ct_F_free E (cn_df C c i) s3
      rw [e] at hM
      refine ev_iload_n (pc := 2) d_C_dropFids_2 rfl rfl ?_
      refine ev_bipush (pc := 3) (v := 6) d_C_dropFids_3 (by decide) ?_
      refine ev_icmp_ge (pc := 5) (tgt := 23) d_C_dropFids_5 (by decide) (fun ha => ?_) (fun ha => ?_)
      · exact absurd ha (nI_ge (show i < 6 by omega) (by decide))
      refine ev_aload_n (pc := 8) d_C_dropFids_8 rfl rfl (by first | rfl | exact mm_rk_rf _) ?_
      refine ev_gR (pc := 9) (by assumption) (by rfl) fl_C_11 d_C_dropFids_9 ?_
      refine ev_iload_n (pc := 12) d_C_dropFids_12 rfl rfl ?_
      refine ev_rR (pc := 13) (by assumption) rfl (by assumption) (by assumption) d_C_dropFids_13 ?_
      refine ev_cVv (pc := 14) hM cl_C_29 jv_F_free ⟨(Nat.le_of_ble_eq_true rfl), (Nat.le_of_ble_eq_true rfl)⟩ rfl (by assumption) rfl (Nat.le_of_ble_eq_true rfl) d_C_dropFids_14 ⟨Nat.zero_le _, Nat.zero_le _⟩ ?_
      refine ev_iinc (pc := 17) d_C_dropFids_17 (Nat.le_of_ble_eq_true rfl) rfl (nx_inc _) rfl ?_
      try dsimp only [List.set]
      refine ev_goto (pc := 20) (tgt := 2) d_C_dropFids_20 (by decide) ?_
      exact ih (i + 1) (by omega)
  have e0 : C = cn_df C c 0 := by
    funext a j
    simp only [cn_df, cn_f]
    grind
  refine mm_mtL (by decide) (by rfl) (Nat.le_of_ble_eq_true rfl) rfl ?_
  refine ev_iconst (pc := 0) (v := 0) d_C_dropFids_0 rfl ?_
  refine ev_istore_n (pc := 1) d_C_dropFids_1 rfl (Nat.le_of_ble_eq_true rfl) rfl ?_
  try dsimp only [List.set]
  have h1 := loop 6 0 (by omega)
  rw [← e0] at h1
  exact h1
theorem d_C_hasOpen_0 : decode b_C_hasOpen 0 = .ok (.iconst 0, 1) := by decide +kernel
theorem d_C_hasOpen_1 : decode b_C_hasOpen 1 = .ok (.istore_n 3, 1) := by decide +kernel
theorem d_C_hasOpen_2 : decode b_C_hasOpen 2 = .ok (.iload_n 3, 1) := by decide +kernel
theorem d_C_hasOpen_3 : decode b_C_hasOpen 3 = .ok (.bipush 6, 2) := by decide +kernel
theorem d_C_hasOpen_5 : decode b_C_hasOpen 5 = .ok (.if_icmp .ge 49, 3) := by decide +kernel
theorem d_C_hasOpen_8 : decode b_C_hasOpen 8 = .ok (.aload_n 0, 1) := by decide +kernel
theorem d_C_hasOpen_9 : decode b_C_hasOpen 9 = .ok (.getfield 11, 3) := by decide +kernel
theorem d_C_hasOpen_12 : decode b_C_hasOpen 12 = .ok (.iload_n 3, 1) := by decide +kernel
theorem d_C_hasOpen_13 : decode b_C_hasOpen 13 = .ok (.aaload, 1) := by decide +kernel
theorem d_C_hasOpen_14 : decode b_C_hasOpen 14 = .ok (.getfield 32, 3) := by decide +kernel
theorem d_C_hasOpen_17 : decode b_C_hasOpen 17 = .ok (.ifCond .eq 31, 3) := by decide +kernel
theorem d_C_hasOpen_20 : decode b_C_hasOpen 20 = .ok (.aload_n 0, 1) := by decide +kernel
theorem d_C_hasOpen_21 : decode b_C_hasOpen 21 = .ok (.getfield 11, 3) := by decide +kernel
theorem d_C_hasOpen_24 : decode b_C_hasOpen 24 = .ok (.iload_n 3, 1) := by decide +kernel
theorem d_C_hasOpen_25 : decode b_C_hasOpen 25 = .ok (.aaload, 1) := by decide +kernel
theorem d_C_hasOpen_26 : decode b_C_hasOpen 26 = .ok (.getfield 35, 3) := by decide +kernel
theorem d_C_hasOpen_29 : decode b_C_hasOpen 29 = .ok (.iload_n 1, 1) := by decide +kernel
theorem d_C_hasOpen_30 : decode b_C_hasOpen 30 = .ok (.if_icmp .ne 18, 3) := by decide +kernel
theorem d_C_hasOpen_33 : decode b_C_hasOpen 33 = .ok (.aload_n 0, 1) := by decide +kernel
theorem d_C_hasOpen_34 : decode b_C_hasOpen 34 = .ok (.getfield 11, 3) := by decide +kernel
theorem d_C_hasOpen_37 : decode b_C_hasOpen 37 = .ok (.iload_n 3, 1) := by decide +kernel
theorem d_C_hasOpen_38 : decode b_C_hasOpen 38 = .ok (.aaload, 1) := by decide +kernel
theorem d_C_hasOpen_39 : decode b_C_hasOpen 39 = .ok (.getfield 39, 3) := by decide +kernel
theorem d_C_hasOpen_42 : decode b_C_hasOpen 42 = .ok (.iload_n 2, 1) := by decide +kernel
theorem d_C_hasOpen_43 : decode b_C_hasOpen 43 = .ok (.if_icmp .ne 5, 3) := by decide +kernel
theorem d_C_hasOpen_46 : decode b_C_hasOpen 46 = .ok (.iconst 1, 1) := by decide +kernel
theorem d_C_hasOpen_47 : decode b_C_hasOpen 47 = .ok (.ireturn, 1) := by decide +kernel
theorem d_C_hasOpen_48 : decode b_C_hasOpen 48 = .ok (.iinc 3 1, 3) := by decide +kernel
theorem d_C_hasOpen_51 : decode b_C_hasOpen 51 = .ok (.goto (-49), 3) := by decide +kernel
theorem d_C_hasOpen_54 : decode b_C_hasOpen 54 = .ok (.iconst 0, 1) := by decide +kernel
theorem d_C_hasOpen_55 : decode b_C_hasOpen 55 = .ok (.ireturn, 1) := by decide +kernel
set_option maxRecDepth 20000 in
theorem ct_C_hasOpen (E : mm_En) (C : Nat → Nat → Int32) {c : Nat} (hc : c < 2) (t p : Int32) : mm_MT E K_C_hasOpen [.ref (133 + 33 * c), .int t, .int p] (hp_H C) (mm_D (some (.int (b3_P (∃ f, f < 6 ∧ ¬ C (cn_f c f) 1 = 0 ∧ C (cn_f c f) 3 = t ∧ C (cn_f c f) 4 = p)))) C) := by
  have s1 := sh_con c hc
  have s2 := sh_fids c hc
  have loop : ∀ d i : Nat, i + d = 6 → (∀ f, f < i → ¬ (¬ C (cn_f c f) 1 = 0 ∧ C (cn_f c f) 3 = t ∧ C (cn_f c f) 4 = p)) → ev_At E K_C_hasOpen 2 [some (.ref (133 + 33 * c)), some (.int t), some (.int p), some (.int (nI i))] [] (hp_H C) 0 0 (mm_D (some (.int (b3_P (∃ f, f < 6 ∧ ¬ C (cn_f c f) 1 = 0 ∧ C (cn_f c f) 3 = t ∧ C (cn_f c f) 4 = p)))) C) := by
    intro d
    induction d with
    | zero =>
      intro i hi hno
      have hi8 : i = 6 := by omega
      subst hi8
      refine ev_iload_n (pc := 2) d_C_hasOpen_2 rfl rfl ?_
      refine ev_bipush (pc := 3) (v := 6) d_C_hasOpen_3 (by decide) ?_
      refine ev_icmp_ge (pc := 5) (tgt := 54) d_C_hasOpen_5 (by decide) (fun ha => ?_) (fun ha => ?_)
      · refine ev_iconst (pc := 54) (v := 0) d_C_hasOpen_54 rfl ?_
        exact ev_zret (pc := 55) d_C_hasOpen_55 rfl (by first | exact Or.inl rfl | exact Or.inr rfl | assumption) (Nat.zero_le _) (Nat.zero_le _) ⟨by rw [b3_f (fun ⟨f, h1, h2⟩ => hno f h1 h2)], rfl⟩
      · exact absurd (show nI 6 ≤ nI 6 from Int32.le_refl _) ha
    | succ d ih =>
      intro i hi hno
      have hin : vp_in (nI i) 6 := vp_in_nI (by omega) (by decide)
      have hpl : ([133 + 33 * c + 2, 133 + 33 * c + 3, 133 + 33 * c + 4, 133 + 33 * c + 5, 133 + 33 * c + 6, 133 + 33 * c + 7] : List Nat)[(nI i).toNatClampNeg]? = some (cn_f c i) := by
        rw [nI_clamp (by omega)]
        exact cn_fl i (by omega) _
      have s3 : fi_s (cn_f c i) := sh_fid c hc i (by omega)
      have next : ¬ (¬ C (cn_f c i) 1 = 0 ∧ C (cn_f c i) 3 = t ∧ C (cn_f c i) 4 = p) → ev_At E K_C_hasOpen 48 [some (.ref (133 + 33 * c)), some (.int t), some (.int p), some (.int (nI i))] [] (hp_H C) 0 0 (mm_D (some (.int (b3_P (∃ f, f < 6 ∧ ¬ C (cn_f c f) 1 = 0 ∧ C (cn_f c f) 3 = t ∧ C (cn_f c f) 4 = p)))) C) := by
        intro hnot
        refine ev_iinc (pc := 48) d_C_hasOpen_48 (Nat.le_of_ble_eq_true rfl) rfl (nx_inc _) rfl ?_
        try dsimp only [List.set]
        refine ev_goto (pc := 51) (tgt := 2) d_C_hasOpen_51 (by decide) ?_
        refine ih (i + 1) (by omega) (fun f hf => ?_)
        by_cases hfi : f = i
        · subst hfi
          exact hnot
        · exact hno f (by omega)
      refine ev_iload_n (pc := 2) d_C_hasOpen_2 rfl rfl ?_
      refine ev_bipush (pc := 3) (v := 6) d_C_hasOpen_3 (by decide) ?_
      refine ev_icmp_ge (pc := 5) (tgt := 54) d_C_hasOpen_5 (by decide) (fun ha => ?_) (fun ha => ?_)
      · exact absurd ha (nI_ge (show i < 6 by omega) (by decide))
      refine ev_aload_n (pc := 8) d_C_hasOpen_8 rfl rfl (by first | rfl | exact mm_rk_rf _) ?_
      refine ev_gR (pc := 9) (by assumption) (by rfl) fl_C_11 d_C_hasOpen_9 ?_
      refine ev_iload_n (pc := 12) d_C_hasOpen_12 rfl rfl ?_
      refine ev_rR (pc := 13) (by assumption) rfl (by assumption) (by assumption) d_C_hasOpen_13 ?_
      refine ev_gI (pc := 14) (by assumption) (by rfl) fl_C_32 d_C_hasOpen_14 ?_
      refine ev_if_eq (pc := 17) (tgt := 48) d_C_hasOpen_17 (by decide) (fun hb => ?_) (fun hb => ?_)
      · exact next (fun z => z.1 hb)
      refine ev_aload_n (pc := 20) d_C_hasOpen_20 rfl rfl (by first | rfl | exact mm_rk_rf _) ?_
      refine ev_gR (pc := 21) (by assumption) (by rfl) fl_C_11 d_C_hasOpen_21 ?_
      refine ev_iload_n (pc := 24) d_C_hasOpen_24 rfl rfl ?_
      refine ev_rR (pc := 25) (by assumption) rfl (by assumption) (by assumption) d_C_hasOpen_25 ?_
      refine ev_gI (pc := 26) (by assumption) (by rfl) fl_C_35 d_C_hasOpen_26 ?_
      refine ev_iload_n (pc := 29) d_C_hasOpen_29 rfl rfl ?_
      refine ev_icmp_ne (pc := 30) (tgt := 48) d_C_hasOpen_30 (by decide) (fun hd => ?_) (fun hd => ?_)
      · exact next (fun z => hd z.2.1)
      refine ev_aload_n (pc := 33) d_C_hasOpen_33 rfl rfl (by first | rfl | exact mm_rk_rf _) ?_
      refine ev_gR (pc := 34) (by assumption) (by rfl) fl_C_11 d_C_hasOpen_34 ?_
      refine ev_iload_n (pc := 37) d_C_hasOpen_37 rfl rfl ?_
      refine ev_rR (pc := 38) (by assumption) rfl (by assumption) (by assumption) d_C_hasOpen_38 ?_
      refine ev_gI (pc := 39) (by assumption) (by rfl) fl_C_39 d_C_hasOpen_39 ?_
      refine ev_iload_n (pc := 42) d_C_hasOpen_42 rfl rfl ?_
      refine ev_icmp_ne (pc := 43) (tgt := 48) d_C_hasOpen_43 (by decide) (fun he => ?_) (fun he => ?_)
      · exact next (fun z => he z.2.2)
      refine ev_iconst (pc := 46) (v := 1) d_C_hasOpen_46 rfl ?_
      exact ev_zret (pc := 47) d_C_hasOpen_47 rfl (by first | exact Or.inl rfl | exact Or.inr rfl | assumption) (Nat.zero_le _) (Nat.zero_le _) ⟨by rw [b3_t ⟨i, by omega, hb, hd, he⟩], rfl⟩
  refine mm_mtL (by decide) (by rfl) (Nat.le_of_ble_eq_true rfl) rfl ?_
  refine ev_iconst (pc := 0) (v := 0) d_C_hasOpen_0 rfl ?_
  refine ev_istore_n (pc := 1) d_C_hasOpen_1 rfl (Nat.le_of_ble_eq_true rfl) rfl ?_
  try dsimp only [List.set]
  exact loop 6 0 (by omega) (fun f hf => absurd hf (Nat.not_lt_zero f))
