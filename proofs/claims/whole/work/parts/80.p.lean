/-! The class leaves the reference's cells, the reference the class's. -/
def fr (C D : Nat → Nat → Int32) : Prop := ∀ a, 204 ≤ a → D a = C a
def gr (C D : Nat → Nat → Int32) : Prop := ∀ a, a < 204 → D a = C a
section
variable {C D : Nat → Nat → Int32}
theorem fr_r : fr C C := fun _ _ => rfl
theorem gr_r : gr C C := fun _ _ => rfl
theorem fr_t {B : Nat → Nat → Int32} (h1 : fr B C) (h2 : fr C D) : fr B D := fun a ha => by rw [h2 a ha, h1 a ha]
theorem gr_t {B : Nat → Nat → Int32} (h1 : gr B C) (h2 : gr C D) : gr B D := fun a ha => by rw [h2 a ha, h1 a ha]
theorem fr_cs (h : fr C D) {i k : Nat} {v : Int32} (hi : i < 204) : fr C (cs_C D i k v) := fun a ha => by rw [cs_row _ (by omega), h a ha]
theorem gr_cs (h : gr C D) {i k : Nat} {v : Int32} (hi : 204 ≤ i) : gr C (cs_C D i k v) := fun a ha => by rw [cs_row _ (by omega), h a ha]
theorem fr_rp (h : fr C D) {k : Nat} {v : Int32} : fr C (rp_add D k v) := fun a ha => by rw [rp_row _ (by omega) (by omega), h a ha]
theorem fr_v (h : fr C D) {b k : Nat} : fr C (rp_v D b k) := fr_rp (fr_rp h)
theorem fr_m (h : fr C D) {b k : Nat} : fr C (rp_m D b k) := fr_rp (fr_v h)
theorem fr_take (h : fr C D) {f : Nat} {u t q : Int32} (hf : f < 204) : fr C (fi_take D f u t q) := fr_cs (fr_cs (fr_cs (fr_cs (fr_cs h hf) hf) hf) hf) hf
theorem fr_opn (h : fr C D) {f : Nat} {m : Int32} (hf : f < 204) : fr C (fi_open D f m) := fr_cs (fr_cs (fr_cs h hf) hf) hf
theorem fr_fre (h : fr C D) {f : Nat} (hf : f < 204) : fr C (fi_free D f) := fr_cs (fr_cs h hf) hf
theorem fr_cg (h : fr C D) {i : Nat} (hi : i < 64) : fr C (cg_C D i) := fun a ha => by rw [cg_row hi (Or.inr (by omega)), h a ha]
theorem fr_sl (h : fr C D) {b l k : Nat} (hb : b < 203) : fr C (bl_sl D b l k) := by
  refine fr_cs ?_ (by omega)
  intro a ha
  rw [← h a ha]
  funext j
  unfold bl_z
  rw [if_neg (by omega)]
theorem fr_pb (h : fr C D) {b r l s c : Nat} (hb : b < 203) : fr C (bl_pb D b r l s c) := by
  intro a ha
  rw [← fr_sl h hb (l := l) (k := max l (s + c)) a ha]
  funext j
  unfold bl_pb bl_w
  rw [if_neg (by omega)]
theorem fr_b {i : Nat} (hi : i < 64) : bk i < 203 := by unfold bk; omega
theorem fr_b4 {i : Nat} (hi : i < 64) : bk i < 204 := by unfold bk; omega
theorem fr_wa (h : fr C D) {i l k : Nat} (hi : i < 64) : fr C (wa_C D i l k) := by
  intro a ha
  rw [← h a ha]
  funext j
  exact (wa_o D hi).1 a j (by unfold bk; omega) (by unfold bk; omega)
theorem fr_wi {o n : Nat} : fr C (wi_bec C o n) := fr_cs (fr_cs (fr_cs (fr_cs fr_r (by decide)) (by decide)) (by decide)) (by decide)
theorem fr_ad (h : fr C D) {e o : Nat} {x u md : Int32} (he : e < 64) (ho : o < 64) : fr C (ad_C D e o x u md) := by
  have := fr_b4 ho
  refine fr_cs (fr_cs (fr_cs (fr_cs (fr_cs (fr_cs (fr_cs (fr_cs (fr_cs (fr_cs (fr_cs h (by decide)) this) this) this) this) this) this) this) this) this) (fr_b4 he)
theorem gr_nt (h : gr C D) {k : Nat} {v : Int32} : gr C (nt_C D k v) := fun a ha => by rw [nt_row _ (by omega) (by omega), h a ha]
theorem gr_v (h : gr C D) {b k : Nat} : gr C (nt_v D b k) := gr_nt (gr_nt h)
theorem gr_m (h : gr C D) {b k : Nat} : gr C (nt_m D b k) := gr_nt (gr_v h)
theorem gr_nx (h : gr C D) {s k : Nat} : gr C (nx_C D s k) := fun a ha => by rw [nx_Cc D s k (by omega) (by omega), h a ha]
theorem gr_sh (h : gr C D) {k n : Nat} : gr C (sh_n D k n) := fun a ha => by rw [sh_row _ _ (by omega), h a ha]
theorem gr_ng (h : gr C D) {k l n : Nat} : gr C (ng_C D k l n) := by
  refine gr_cs ?_ (by decide)
  intro a ha
  rw [← h a ha]
  funext j
  unfold nz_C
  rw [if_neg (by omega)]
theorem gr_nw (h : gr C D) {b c : Nat} : gr C (nw_n D b c) := by
  intro a ha
  rw [← h a ha]
  funext j
  unfold nw_n
  rw [if_neg (by omega)]
theorem gr_N (h : gr C D) {g k c : Nat} {x md : Int32} : gr C (nE_N D g k c x md) :=
  gr_cs (gr_cs (gr_cs (gr_cs (gr_cs (gr_cs (gr_cs (gr_cs (gr_cs (gr_cs (gr_cs (gr_cs (gr_cs h (by decide)) (by decide)) (by decide)) (by decide)) (by decide)) (by decide)) (by decide)) (by decide)) (by decide)) (by decide)) (by decide)) (by decide)) (by decide)
theorem gr_F (h : gr C D) {g : Nat} {q om : Int32} : gr C (nE_F D g q om) := gr_nt (gr_nt (gr_cs (gr_cs (gr_cs h (by decide)) (by decide)) (by decide)))
theorem gr_z {r k : Nat} : gr C (nz_B C r k) := fun a ha => (nz_o C r k).1 a (by omega) (by omega) (by omega)
-- the class's requests
theorem fr_xa {f : Nat} {u x : Int32} (hf : f < 204) : fr C (xa_R C f u x).2 := by
  unfold xa_R
  split
  · exact fr_r
  · split
    · split
      · exact fr_r
      · exact fr_m (fr_take fr_r hf)
    · exact fr_r
theorem fr_xr {u : Int32} {t : Nat} {q : Int32} : fr C (xr_R C u t q).2 := by
  unfold xr_R
  split
  · exact fr_r
  · rename_i i hi
    split
    · exact fr_r
    · split
      · exact fr_r
      · rename_i a ha
        rcases Classical.em (my_P C u a 2) with z | z
        · rw [it_t z]
          split
          · exact fr_r
          · split
            · have a64 := so_abi_lt ha
              exact fr_cs (fr_cs (fr_cg fr_r a64) (fr_b4 (ob_i_lt a64))) (fr_b4 (so_i_lt hi))
            · exact fr_r
        · rw [it_f z]
          exact fr_r
theorem fr_xk {f t : Nat} (hf : f < 204) : fr C (xk_R C f t).2 := by
  unfold xk_R
  split
  · exact fr_r
  · split
    · exact fr_t (fr_fre fr_r hf) fr_xr
    · exact fr_fre fr_r hf
theorem fr_xv {f t : Nat} (hf : f < 204) : fr C (xv_R C f t).2 := by
  unfold xv_R
  split
  · exact fr_r
  · exact fr_t (fr_fre fr_r hf) fr_xr
theorem fr_xo {f t : Nat} {m : Int32} (hf : f < 204) : fr C (xo_R C f t m).2 := by
  unfold xo_R
  split
  · exact fr_r
  · split
    · exact fr_r
    · split
      · exact fr_r
      · rename_i i hi
        have i64 := so_i_lt hi
        split
        · exact fr_r
        · split
          · split
            · exact fr_v (fr_opn (fr_cs (fr_sl (fr_cg fr_r i64) (fr_b (ob_i_lt i64))) (fr_b4 (ob_i_lt i64))) hf)
            · exact fr_r
          · exact fr_v (fr_opn fr_r hf)
theorem fr_xt {f t : Nat} : fr C (xt_R C f t).2 := by
  unfold xt_R
  split
  · exact fr_r
  · split
    · exact fr_r
    · exact fr_rp (fr_rp (fr_rp (fr_rp (fr_m fr_r))))
theorem fr_xe {f t : Nat} {x md om : Int32} (hf : f < 204) : fr C (xe_R C f t x md om).2 := by
  unfold xe_R
  split
  · exact fr_r
  · split
    · exact fr_r
    · split
      · exact fr_r
      · rename_i i hi
        have i64 := so_i_lt hi
        split
        · exact fr_r
        · split
          · split
            · exact fr_cg fr_r i64
            · rename_i o ho
              exact fr_v (fr_opn (fr_take (fr_ad (fr_cg fr_r i64) (ob_i_lt i64) (so_fr_ok ho).1) hf) hf)
          · exact fr_r
theorem fr_xw {f t r k : Nat} : fr C (xw_R C f t r k).2 := by
  unfold xw_R
  split
  · exact fr_r
  · split
    · exact fr_r
    · split
      · exact fr_r
      · rename_i i hi
        have i64 := so_i_lt hi
        rcases Classical.em (¬ C (r + 1) 0 < 0 ∧ ab_P C r k) with z | z
        · rw [it_t z]
          split
          · exact fr_r
          · split
            · exact fr_cs (fr_pb (fr_cg fr_r i64) (fr_b (ob_i_lt i64))) (fr_b4 (ob_i_lt i64))
            · exact fr_r
        · rw [it_f z]
          exact fr_r
theorem fr_rb {b a : Nat} : ∀ n, fr C (rb_C C b a n) := fun n x hx => rb_row (by omega) (by omega) n
theorem fr_rt (t b a c : Nat) : ∀ d D j o n, fr C D → fr C (rt_f t b a c d D j o n).2 := by
  intro d
  induction d with
  | zero => intro D j o n h; exact h
  | succ d ih =>
    intro D j o n h
    cases o with
    | none => exact h
    | some i =>
      rw [rt_f]
      split
      · split
        · exact ih _ _ _ _ (fr_rp h)
        · exact ih _ _ _ _ h
      · exact h
theorem fr_xq {f t : Nat} {x y : Int32} (hf : f < 204) : fr C (xq_R C f t x y).2 := by
  unfold xq_R
  split
  · exact fr_r
  · split
    · exact fr_r
    · split
      · exact fr_r
      · split
        · exact fr_r
        · split
          · exact fr_rb _
          · split
            · exact fr_r
            · exact fr_cs (fr_rt _ _ _ _ _ _ _ _ _ fr_r) hf
theorem fr_wt {g t r k : Nat} {u : Int32} (hg : g < 204) : ∀ d i h, fr C (wt_f C g u t r k d i h).2 := by
  intro d
  induction d with
  | zero => intro i h; exact fr_m (fr_take fr_r hg)
  | succ d ih =>
    intro i h
    rw [wt_f]
    split
    · split
      · exact fr_r
      · exact fr_m fr_r
    · exact ih _ _
theorem fr_xW {f g t r k : Nat} (hg : g < 204) : fr C (xW_R C f g t r k).2 := by
  unfold xW_R
  split
  · exact fr_r
  · split
    · exact fr_r
    · split
      · exact fr_r
      · split
        · exact fr_r
        · exact fr_wt hg _ _ _
theorem fr_xu {i : Nat} (hi : i < 64) : fr C (xu_R C i).2 := by
  unfold xu_R
  rcases Classical.em (xu_ren C i ∧ ∃ a, so_abi C 0 i = some a ∧ ¬ so_chi C 0 (C (bk a) 2) (C 203 0) = none) with z | z
  · rw [it_t z]; exact fr_r
  · rw [it_f z]
    rcases Classical.em (¬ xu_ren C i ∧ (C 203 1 = -1 ∧ C 203 2 = -1 ∧ C 203 3 = -1)) with y | y
    · rw [it_t y]; exact fr_r
    · rw [it_f y]
      split
      · have o64 := ob_i_lt (C := C) hi
        refine fr_wa ?_ o64
        rcases Classical.em (xu_ren C i) with w | w
        · rw [it_t w]
          unfold xu_2
          split
          · rename_i e he
            exact fr_cs (fr_cs (fr_cg fr_r hi) (fr_b4 o64)) (fr_b4 (so_abi_lt he))
          · exact fr_cg fr_r hi
        · rw [it_f w]
          exact fr_cg fr_r hi
      · exact fr_r
theorem fr_xy {f t r : Nat} : fr C (xy_R C f t r).2 := by
  unfold xy_R
  split
  · exact fr_r
  · split
    · exact fr_r
    · rename_i i hi
      split
      · exact fr_r
      · rcases Classical.em (xw_can (wi_bec C r 4) i) with z | z
        · rw [it_t z]
          rcases Classical.em (xw_may (wi_bec C r 4) (C f 2) i) with y | y
          · rw [it_t y]
            exact fr_t fr_wi (fr_xu (so_i_lt hi))
          · rw [it_f y]
            exact fr_wi
        · rw [it_f z]
          exact fr_wi
theorem fr_f {c f : Nat} (hc : c < 2) (hf : f < 6) : cn_f c f < 204 := by unfold cn_f; omega
theorem fr_xS {c t kd fd k : Nat} (hc : c < 2) (ht : t < 8) (hf : ¬ C (cn_q c t) 1 = 0 → fd < 6) : fr C (xS_R C c t kd fd k).2 := by
  unfold xS_R
  split
  · exact fr_r
  · rename_i hq
    have fd6 := hf hq
    have hF := fr_f hc fd6
    have hB : fr C (cs_C (cs_C C (cn_q c t) 1 0) 201 1 0) := fr_cs (fr_cs fr_r (by unfold cn_q; omega)) (by decide)
    refine fr_t hB ?_
    generalize cs_C (cs_C C (cn_q c t) 1 0) 201 1 0 = B
    unfold xz_R
    split
    · exact fr_r
    · unfold xz_K
      split
      · exact fr_xa hF
      · rcases Classical.em (vp_in (B (cn_q c t + 2) 0) 6) with z | z
        · rw [it_t z]
          obtain ⟨j, j1, j2⟩ := vp_in_of z (by decide)
          rw [j2, nI_clamp (by omega)]
          exact fr_xW (fr_f hc j1)
        · rw [it_f z]
          exact fr_r
      · exact fr_xo hF
      · exact fr_xe hF
      · exact fr_xq hF
      · exact fr_xw
      · exact fr_xk hF
      · exact fr_xv hF
      · exact fr_xt
      · exact fr_xy
-- the reference's requests
theorem gr_nA {f s : Nat} : gr C (nA_R C f s).2 := by
  unfold nA_R
  split
  · exact gr_r
  · split
    · exact gr_m (gr_cs (gr_cs (gr_cs (gr_cs gr_r (by decide)) (by decide)) (by decide)) (by decide))
    · exact gr_r
theorem gr_nR {u t : Nat} {q : Int32} {s : Nat} : gr C (nR_R C u t q s).2 := by
  unfold nR_R
  split
  · exact gr_r
  · split
    · exact gr_r
    · split
      · exact gr_r
      · split
        · split
          · exact gr_r
          · split
            · exact gr_sh (gr_cs (gr_cs (gr_nx gr_r) (by decide)) (by decide))
            · exact gr_r
        · exact gr_r
theorem gr_nK {f t s : Nat} : gr C (nK_R C f t s).2 := by
  unfold nK_R
  split
  · exact gr_r
  · split
    · exact gr_t (gr_cs gr_r (by decide)) gr_nR
    · exact gr_cs gr_r (by decide)
theorem gr_nM {f t s : Nat} : gr C (nM_R C f t s).2 := by
  unfold nM_R
  split
  · exact gr_r
  · exact gr_t (gr_cs gr_r (by decide)) gr_nR
theorem gr_nO {f t s : Nat} : gr C (nO_R C f t s).2 := by
  have fin : ∀ {D : Nat → Nat → Int32} {g k : Nat} {m : Int32}, gr C D → gr C (nO_fin D g k m) := fun h => gr_v (gr_cs (gr_cs h (by decide)) (by decide))
  unfold nO_R
  split
  · exact gr_r
  · split
    · exact gr_r
    · split
      · exact gr_r
      · split
        · exact gr_r
        · split
          · split
            · exact fin (gr_cs (gr_cs (gr_nx gr_r) (by decide)) (by decide))
            · exact gr_r
          · exact fin gr_r
theorem gr_nE {f t s : Nat} : gr C (nE_R C f t s).2 := by
  unfold nE_R
  split
  · exact gr_r
  · split
    · exact gr_r
    · split
      · exact gr_r
      · split
        · exact gr_r
        · split
          · exact gr_F (gr_N (gr_nx gr_r))
          · exact gr_r
theorem gr_nB {k a : Nat} : ∀ n, gr C (nB_C C k a n) := by
  intro n
  induction n with
  | zero => exact gr_r
  | succ n ih => exact gr_nt ih
theorem gr_nD {B : Nat → Nat → Int32} (k a c : Nat) : ∀ d D x j n, gr C D → gr C (nD_f B k a c d D x j n).2 := by
  intro d
  induction d with
  | zero => intro D x j n h; exact h
  | succ d ih =>
    intro D x j n h
    rw [nD_f]
    split
    · exact ih _ _ _ _ h
    · split
      · exact ih _ _ _ _ (gr_nt h)
      · exact ih _ _ _ _ h
theorem gr_nQ {f t : Nat} : gr C (nQ_R C f t).2 := by
  unfold nQ_R
  split
  · exact gr_r
  · split
    · exact gr_r
    · split
      · exact gr_r
      · split
        · exact gr_r
        · split
          · exact gr_nB _
          · split
            · exact gr_r
            · exact gr_cs (gr_nD _ _ _ _ _ _ _ _ gr_r) (by decide)
theorem gr_nW {f t s g : Nat} : gr C (nW_R C f t s g).2 := by
  unfold nW_R
  split
  · exact gr_r
  · split
    · exact gr_r
    · split
      · exact gr_r
      · rcases Classical.em (nb_P2 C g) with z | z
        · rw [it_t z]
          split
          · exact gr_r
          · split
            · exact gr_cs (gr_nw (gr_ng (gr_cs (gr_nx gr_r) (by decide)))) (by decide)
            · exact gr_r
        · rw [it_f z]
          exact gr_r
theorem gr_nG {f g u gv : Nat} : ∀ d i h, gr C (nG_f C f g u gv d i h).2 := by
  intro d
  induction d with
  | zero => intro i h; exact gr_m (gr_cs (gr_cs (gr_cs (gr_cs gr_r (by decide)) (by decide)) (by decide)) (by decide))
  | succ d ih =>
    intro i h
    rw [nG_f]
    split
    · split
      · exact gr_r
      · exact gr_m gr_r
    · exact ih _ _
theorem gr_nGR {f t g gv : Nat} : gr C (nG_R C f t g gv).2 := by
  unfold nG_R
  split
  · exact gr_r
  · split
    · exact gr_r
    · split
      · exact gr_r
      · split
        · exact gr_r
        · exact gr_nG _ _ _
theorem gr_nT {f t : Nat} : gr C (nT_R C f t).2 := by
  unfold nT_R
  split
  · exact gr_r
  · split
    · exact gr_r
    · exact gr_nt (gr_nt (gr_nt (gr_nt (gr_m gr_r))))
theorem gr_nUC {s k : Nat} : gr C (nU_C C s k) := by
  have h1 : ∀ {P : Prop} [Decidable P] {d : Nat} {x : Int32}, gr C (nU_1 (nx_C C s k) P k d x) := by
    intro P _ d x
    unfold nU_1
    split
    · exact gr_cs (gr_cs (gr_nx gr_r) (by decide)) (by decide)
    · exact gr_nx gr_r
  unfold nU_C nU_3
  split
  · exact gr_cs (gr_cs h1 (by decide)) (by decide)
  · exact gr_cs (gr_ng (gr_cs (gr_cs (gr_cs h1 (by decide)) (by decide)) (by decide))) (by decide)
theorem gr_nU {f t s : Nat} : gr C (nU_R C f t s).2 := by
  unfold nU_R
  split
  · exact gr_r
  · split
    · exact gr_r
    · rename_i k hk
      split
      · exact gr_r
      · rcases Classical.em (nU_can C k) with z | z
        · rw [it_t z]
          rcases Classical.em (nU_may C (nus C f) k) with y | y
          · rw [it_t y]
            unfold nU_K
            split
            · exact gr_r
            · split
              · exact gr_r
              · split
                · exact gr_nUC
                · exact gr_r
          · rw [it_f y]
            exact gr_r
        · rw [it_f z]
          exact gr_r
theorem gr_nZ {r kd f t s k : Nat} : gr C (nZ_R C r kd f t s k).2 := by
  unfold nZ_R
  split
  · exact gr_r
  · split
    · exact gr_z
    · refine gr_t (gr_z (r := r) (k := k)) ?_
      generalize nz_B C r k = B
      have hK : gr B (nZ_K B kd f t s k).2 := by
        unfold nZ_K
        split
        · exact gr_nA
        · rcases Classical.em (vp_in (B 228 0) 6) with z | z
          · rw [it_t z]; exact gr_nGR
          · rw [it_f z]; exact gr_r
        · exact gr_nO
        · exact gr_nE
        · exact gr_nQ
        · exact gr_nW
        · exact gr_nK
        · exact gr_nM
        · exact gr_nT
        · exact gr_nU
      unfold nz_Q
      simp only
      split
      · exact gr_cs hK (by decide)
      · exact hK
end
