/-! Writing. -/
section
variable {X N X' N' : Nat → Nat → Int32} {β : Nat → Nat} {s p d c f : Nat}
/-- bytes are put -/
theorem rT_wr (h : rT X N β s p d) {k r b n : Nat} {v : Int32} (hk : nv N k) (hu : ∀ l, nv N l → β l = β k → l = k) (hr : 131 ≤ r) (hb : b + n ≤ 16) (ha : ∀ i, 1 ≤ i → i ≤ n → X (r + 1) i = N 228 i) (hd : (N 213 k &&& 2048) = 0) :
    rT (cs_C (bl_pb X (bk (β k)) r (N 214 k).toNatClampNeg b n) (bk (β k)) 7 v) (cs_C (nw_n (ng_C (cs_C N 212 k v) k (N 214 k).toNatClampNeg b) (16 * k + b) n) 214 k (nI (max (max (N 214 k).toNatClampNeg b) (b + n)))) β s p d := by
  obtain ⟨b1, b2, b3⟩ := rT_2 h k hk
  obtain ⟨l1, l2⟩ := (rT_12 h).2.1 k hk.1
  generalize hl : (N 214 k).toNatClampNeg = l at *
  have mx : max (max l b) (b + n) = max l (b + n) := by omega
  rw [mx]
  -- the class
  have xo : ∀ a j, a ≠ bk (β k) → a ≠ bk (β k) + 1 → cs_C (bl_pb X (bk (β k)) r l b n) (bk (β k)) 7 v a j = X a j := by
    intro a j h1 h2
    rw [cs_ne _ _ (by omega)]
    unfold bl_pb bl_w
    rw [if_neg (by omega)]
    unfold bl_sl
    rw [cs_ne _ _ (by omega)]
    unfold bl_z
    rw [if_neg (by omega)]
  have xf : ∀ j, j ≠ 7 → j ≠ 9 → cs_C (bl_pb X (bk (β k)) r l b n) (bk (β k)) 7 v (bk (β k)) j = X (bk (β k)) j := by
    intro j h1 h2
    rw [cs_ne _ _ (by omega)]
    unfold bl_pb bl_w
    rw [if_neg (by omega)]
    unfold bl_sl
    rw [cs_ne _ _ (by omega)]
    unfold bl_z
    rw [if_neg (by omega)]
  have x9 : cs_C (bl_pb X (bk (β k)) r l b n) (bk (β k)) 7 v (bk (β k)) 9 = nI (max l (b + n)) := by
    rw [cs_ne _ _ (by omega)]
    unfold bl_pb bl_w
    rw [if_neg (by omega)]
    unfold bl_sl
    rw [cs_at]
  have xb : ∀ j, cs_C (bl_pb X (bk (β k)) r l b n) (bk (β k)) 7 v (bk (β k) + 1) j = if b ≤ j ∧ j < b + n then X (r + 1) (j - b + 1) else if l ≤ j ∧ j < max l (b + n) then 0 else X (bk (β k) + 1) j := by
    intro j
    have hs : ∀ a i, a ≠ bk (β k) → bl_sl X (bk (β k)) l (max l (b + n)) a i = if a = bk (β k) + 1 ∧ l ≤ i ∧ i < max l (b + n) then 0 else X a i := by
      intro a i h1
      unfold bl_sl
      rw [cs_ne _ _ (by omega)]
      rfl
    rw [cs_ne _ _ (by omega)]
    unfold bl_pb bl_w
    by_cases q : b ≤ j ∧ j < b + n
    · rw [if_pos ⟨rfl, q⟩, if_pos q, hs _ _ (by unfold bk; omega), if_neg (by unfold bk; omega)]
    · rw [if_neg (fun z => q z.2), if_neg q, hs _ _ (by unfold bk; omega)]
      by_cases q2 : l ≤ j ∧ j < max l (b + n)
      · rw [if_pos ⟨rfl, q2⟩, if_pos q2]
      · rw [if_neg (fun z => q2 z.2), if_neg q2]
  -- the reference
  have no : ∀ a j, a ≠ 216 → ¬ (a = 214 ∧ j = k) → ¬ (a = 212 ∧ j = k) → cs_C (nw_n (ng_C (cs_C N 212 k v) k l b) (16 * k + b) n) 214 k (nI (max l (b + n))) a j = N a j := by
    intro a j h1 h2 h3
    rw [cs_ne _ _ h2]
    unfold nw_n
    rw [if_neg (fun z => h1 z.1)]
    unfold ng_C
    rw [cs_ne _ _ h2]
    unfold nz_C
    rw [if_neg (fun z => h1 z.1), cs_ne _ _ h3]
  have n12 : cs_C (nw_n (ng_C (cs_C N 212 k v) k l b) (16 * k + b) n) 214 k (nI (max l (b + n))) 212 k = v := by
    rw [cs_ne _ _ (by omega)]
    unfold nw_n
    rw [if_neg (by omega)]
    unfold ng_C
    rw [cs_ne _ _ (by omega)]
    unfold nz_C
    rw [if_neg (by omega), cs_at]
  have nb : ∀ j, cs_C (nw_n (ng_C (cs_C N 212 k v) k l b) (16 * k + b) n) 214 k (nI (max l (b + n))) 216 j = if 16 * k + b ≤ j ∧ j < 16 * k + b + n then N 228 (1 + (j - (16 * k + b))) else if 16 * k + l ≤ j ∧ j < 16 * k + b then 0 else N 216 j := by
    intro j
    rw [cs_ne _ _ (by omega)]
    unfold nw_n
    by_cases q : 16 * k + b ≤ j ∧ j < 16 * k + b + n
    · rw [if_pos ⟨rfl, q⟩, if_pos q]
      unfold ng_C
      rw [cs_ne _ _ (by omega)]
      unfold nz_C
      rw [if_neg (by omega), cs_ne _ _ (by omega)]
    · rw [if_neg (fun z => q z.2), if_neg q]
      unfold ng_C
      rw [cs_ne _ _ (by omega)]
      unfold nz_C
      by_cases q2 : 16 * k + l ≤ j ∧ j < 16 * k + b
      · rw [if_pos ⟨rfl, q2⟩, if_pos q2]
      · rw [if_neg (fun z => q2 z.2), if_neg q2, cs_ne _ _ (by omega)]
  generalize hX' : cs_C (bl_pb X (bk (β k)) r l b n) (bk (β k)) 7 v = X' at *
  have x7 : X' (bk (β k)) 7 = v := by rw [← hX', cs_at]
  generalize hN' : cs_C (nw_n (ng_C (cs_C N 212 k v) k l b) (16 * k + b) n) 214 k (nI (max l (b + n))) = N' at *
  have n14 : N' 214 k = nI (max l (b + n)) := by rw [← hN', cs_at]
  have cl : (nI (max l (b + n))).toNatClampNeg = max l (b + n) := nI_clamp (by omega)
  refine rT_edit h hk hu (fun a j _ h1 h2 => xo a j h1 h2) (xf 1 (by decide) (by decide)) (fun a j h1 h2 h3 => no a j (by omega) (by omega) (by omega)) (fun j hj => ?_) (fun j _ _ => no _ _ (by omega) (by omega) (by omega)) ?_ (Or.inl (no _ _ (by omega) (by omega) (by omega))) ?_ ?_ ?_
  · rw [nb, if_neg (by omega), if_neg (by omega)]
  · unfold nE at b3 ⊢
    rw [xf 2 (by decide) (by decide), xf 3 (by decide) (by decide), xf 4 (by decide) (by decide), xf 5 (by decide) (by decide), xf 6 (by decide) (by decide), x7, xf 8 (by decide) (by decide), x9, no 207 k (by omega) (by omega) (by omega), no 208 k (by omega) (by omega) (by omega), no 209 k (by omega) (by omega) (by omega), no 210 k (by omega) (by omega) (by omega), no 211 k (by omega) (by omega) (by omega), n12, no 213 k (by omega) (by omega) (by omega), n14, cl]
    refine ⟨b3.1, b3.2.1, b3.2.2.1, b3.2.2.2.1, rfl, b3.2.2.2.2.2.1, rfl, fun j hj => ?_⟩
    rw [xb, nb]
    by_cases q : b ≤ j ∧ j < b + n
    · rw [if_pos q, if_pos (by omega), ha _ (by omega) (by omega)]
      congr 1
      omega
    · have q' : ¬ (16 * k + b ≤ 16 * k + j ∧ 16 * k + j < 16 * k + b + n) := by omega
      rw [if_neg q, if_neg q']
      by_cases q2 : l ≤ j
      · have q3 : l ≤ j ∧ j < max l (b + n) := ⟨q2, hj⟩
        have q4 : 16 * k + l ≤ 16 * k + j ∧ 16 * k + j < 16 * k + b := by omega
        rw [if_pos q3, if_pos q4]
      · have q3 : ¬ (l ≤ j ∧ j < max l (b + n)) := fun z => q2 z.1
        have q4 : ¬ (16 * k + l ≤ 16 * k + j ∧ 16 * k + j < 16 * k + b) := by omega
        rw [if_neg q3, if_neg q4]
        refine b3.2.2.2.2.2.2.2 j ?_
        rw [hl]
        omega
  · rw [no 213 k (by omega) (by omega) (by omega)]
    exact fun z => absurd hd z
  · rw [no 211 k (by omega) (by omega) (by omega)]
    exact (rT_12 h).2.2 k hk.1
  · rw [n14, cl]
    exact ⟨by omega, rfl⟩
theorem q_write (h : rR X N β s p d) (hp : p < 2 ^ 30) (hd : d ≤ 2 ^ 20) (hc : c < 2) (hf : f < 6) (h0' : N 204 26 = nI 0) {t r n : Nat} (ht : t ≤ 4) (et : X (cn_f c f) 3 = nI t) (hr : 131 ≤ r) (n1 : 1 ≤ n) (n4 : n ≤ 4) (ha : ∀ i, i < n → X (r + 1) i = N 228 i) : rZ s p d (xw_R X (cn_f c f) t r n) (nW_R N (6 * c + f) (if t = 0 then 0 else t + 1) s n) := by
  obtain ⟨t', t1, t2, t3, u1, u2, u3⟩ := f_view h hc hf
  have e : t' = t := by
    rw [et, nI_eq (by omega) (by omega)] at t2
    exact t2.symm
  subst e
  have hT := rR_T h
  unfold xw_R nW_R
  by_cases q1 : X (cn_f c f) 0 = 0
  · rw [if_pos q1, if_pos (u1.mp q1)]
    exact rZ_e h h0' _
  · rw [if_neg q1, if_neg (fun z => q1 (u1.mpr z))]
    obtain ⟨v1, v2, v3, v4⟩ := u3 q1
    rcases v1.2.2.2 with w | ⟨w1, w2, w3, w4, w5⟩
    · rw [if_pos (Or.inl w.1), if_pos (Or.inl w.2)]
      exact rZ_e h h0' _
    · by_cases q2 : (N 220 (6 * c + f) &&& 3) = 0
      · rw [if_pos (Or.inr (by rw [w3]; exact q2)), if_pos (Or.inr ((i_le0 _).mpr q2))]
        exact rZ_e h h0' _
      · rw [if_neg (by rw [w3]; exact fun z => z.elim w1 q2), if_neg (fun z => z.elim w2 (fun y => q2 ((i_le0 _).mp y)))]
        obtain ⟨t0, wd⟩ := w5 q2
        rw [v4]
        cases e : nc_i N (if t' = 0 then 0 else t' + 1) (N 219 (6 * c + f)) with
        | none => exact rZ_e h h0' _
        | some k =>
          simp only [Option.map_some]
          obtain ⟨_, k1, k2, k3⟩ := nc_v (tc_n t1).2 (rT_nm hT) e
          have k0 : k / 20 = 0 := by rw [k1, if_pos t0]
          have kd := wd k k2 k0 k3
          obtain ⟨m1, m2⟩ := nE_k h k2
          have hargs : (¬ X (r + 1) 0 < 0 ∧ ab_P X r n) ↔ nb_P2 N n := by
            unfold ab_P nb_P2
            rw [ha 0 (by omega)]
            constructor
            · rintro ⟨a, b⟩
              exact ⟨a, fun i i1 i2 => by rw [← ha i i2]; exact b i i1 i2⟩
            · rintro ⟨a, b⟩
              exact ⟨a, fun i i1 i2 => by rw [ha i i2]; exact b i i1 i2⟩
          rw [it_c hargs]
          by_cases q3 : nb_P2 N n
          · rw [it_t q3, it_t q3]
            by_cases q4 : n = 1
            · rw [if_pos q4, if_pos q4]
              exact rZ_e h h0' _
            · rw [if_neg q4, if_neg q4]
              have est : xw_st X (β k) r = nW_b N k := by
                unfold xw_st nW_b
                rw [m1.2.2.2.2.2.1, m1.2.2.2.2.2.2.1, ha 0 (by omega)]
              rw [est, l_nb hT, l_need hT k2 k0, Nat.zero_add]
              by_cases q5 : nW_b N k ≤ nI (16 - (n - 1)) ∧ nb_n N s + nn_n N s k ≤ 64
              · rw [if_pos q5, if_pos q5]
                have hn0 : ¬ nW_b N k < 0 := by
                  unfold nW_b
                  split
                  · exact q3.1
                  · rw [((rT_12 hT).2.1 k k2.1).2]
                    have := ((rT_12 hT).2.1 k k2.1).1
                    exact nI_pos (by omega)
                obtain ⟨b, b1, b2⟩ := nI_of hn0
                have b3 := q5.1
                rw [b2, nI_leI b1 (by omega)] at b3
                rw [b2, nI_clamp b1]
                obtain ⟨β1, d1, g1, g2, g3, g4, g5, g6, g7, g8⟩ := rT_chg hT k2 k0 (by rw [l_nb hT, l_need hT k2 k0]; exact q5.2) hd
                have e6 : nx_C N s k 206 = N 206 := nx_Cc N s _ (by decide) (by decide)
                have e12 : nx_C N s k 212 = N 212 := nx_Cc N s _ (by decide) (by decide)
                have e13 : nx_C N s k 213 = N 213 := nx_Cc N s _ (by decide) (by decide)
                have e14 : nx_C N s k 214 = N 214 := nx_Cc N s _ (by decide) (by decide)
                have e28 : nx_C N s k 228 = N 228 := nx_Cc N s _ (by decide) (by decide)
                have kv := (nv_c e6 k).mpr k2
                have rA := rT_wr g1 (k := k) (r := r) (b := b) (n := n - 1) (v := N 212 k + 1) kv (fun l hl => g6 l ((nv_c e6 l).mp hl)) hr (by omega) (fun i i1 i2 => by rw [cg_out m2 (Or.inr (by omega)), e28]; exact ha i (by omega)) (by rw [e13]; exact kd)
                have f1 := (rT_2 g1 k kv).2.2
                rw [g4] at f1
                have f7 : cg_C X (β k) (bk (ob_i X (β k))) 7 = N 212 k := by rw [f1.2.2.2.2.1, e12]
                have f9 : ln_ (cg_C X (β k)) (bk (ob_i X (β k))) = (N 214 k).toNatClampNeg := by
                  unfold ln_
                  rw [f1.2.2.2.2.2.2.1, e14]
                rw [g4, e14] at rA
                have eX : xw_fin X (β k) r b (n - 1) = cs_C (bl_pb (cg_C X (β k)) (bk (ob_i X (β k))) r (N 214 k).toNatClampNeg b (n - 1)) (bk (ob_i X (β k))) 7 (N 212 k + 1) := by
                  unfold xw_fin
                  rw [f7, f9]
                have eN : nW_C N s k b (n - 1) = cs_C (nw_n (ng_C (cs_C (nx_C N s k) 212 k (N 212 k + 1)) k (N 214 k).toNatClampNeg b) (16 * k + b) (n - 1)) 214 k (nI (max (max (N 214 k).toNatClampNeg b) (b + (n - 1)))) := rfl
                rw [eX, eN]
                have ob64 := ob_i_lt (C := X) m2
                refine rZ_k (rR_chg h hp (fun a a1 => ?_) (fun a a1 a2 => ?_) (fun j hj => ?_) rA) _ (nI_pos (by omega)) (Nat.le_refl _) (by omega) (by omega)
                · funext j
                  rw [cs_ne _ _ (by unfold bk; omega)]
                  unfold bl_pb bl_w
                  rw [if_neg (by unfold bk; omega)]
                  unfold bl_sl
                  rw [cs_ne _ _ (by unfold bk; omega)]
                  unfold bl_z
                  rw [if_neg (by unfold bk; omega), cg_out m2 (Or.inr a1)]
                · funext j
                  rw [cs_ne _ _ (by omega)]
                  unfold nw_n
                  rw [if_neg (by omega)]
                  unfold ng_C
                  rw [cs_ne _ _ (by omega)]
                  unfold nz_C
                  rw [if_neg (by omega), cs_ne _ _ (by omega), nx_Cc N s _ (by omega) a2]
                · rw [cs_ne _ _ (by omega)]
                  unfold nw_n
                  rw [if_neg (by omega)]
                  unfold ng_C
                  rw [cs_ne _ _ (by omega)]
                  unfold nz_C
                  rw [if_neg (by omega), cs_ne _ _ (by omega), nx_C4 N s _ hj]
              · rw [if_neg q5, if_neg q5]
                exact rZ_e h h0' _
          · rw [it_f q3, it_f q3]
            exact rZ_e h h0' _
end
