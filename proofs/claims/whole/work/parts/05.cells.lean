/-! Rows of the locals, the stack, fields, arrays, new cells, calls and returns. -/
def mm_cf (q : vw_C) : Prop := (∀ w ∈ u_ws q.1 q.2.1 q.2.2, w ∈ lw_tbl.filter goodWord) ∧ (∃ ty0 : Nat → FieldType, ∀ k, k < q.2.2 → parseFieldDescriptor (q.2.1 k).2.2.1 = some (ty0 k)) ∧ (∀ a, a < q.2.2 → ∀ b, b < q.2.2 → a ≠ b → (q.2.1 a).2.1 ≠ (q.2.1 b).2.1)
def mm_fl (own : String) (idx ci k : Nat) : Prop := ∃ q : vw_C, vwCl[ci]? = some q ∧ k < q.2.2 ∧ (Jvm.Cond.fieldLink own idx (q.2.1 k).1 (q.2.1 k).2.1 (q.2.1 k).2.2.1 ∈ lw_tbl ∨ ∃ host : String, Jvm.Cond.fieldLinkNest own idx (q.2.1 k).1 (q.2.1 k).2.1 (q.2.1 k).2.2.1 host ∈ lw_tbl)
def mm_fw (ci k : Nat) (ty : FieldType) : Prop := ∃ q : vw_C, vwCl[ci]? = some q ∧ parseFieldDescriptor (q.2.1 k).2.2.1 = some ty ∧ (q.2.1 k).2.2.2 = false
def mm_fF (own : String) (idx ci k : Nat) (ty : FieldType) : Prop := ∃ q : vw_C, vwCl[ci]? = some q ∧ k < q.2.2 ∧ Jvm.Cond.fieldLink own idx (q.2.1 k).1 (q.2.1 k).2.1 (q.2.1 k).2.2.1 ∈ lw_tbl ∧ parseFieldDescriptor (q.2.1 k).2.2.1 = some ty ∧ (q.2.1 k).2.2.2 = true ∧ (q.2.1 k).1 = own
def mm_fit (ty : FieldType) (v : Value) : Bool := match ty, v with
  | .int, .int _ => true
  | .boolean, .int x => x == 0 || x == 1
  | .object _, .ref _ => true
  | .object _, .null => true
  | .array _, .ref _ => true
  | .array _, .null => true
  | _, _ => false
theorem mm_fit_ok {E : mm_En} {ty : FieldType} {v : Value} (h : mm_fit ty v = true) : narrow ty (mm_cv E v) = mm_cv E v ∧ fits ty (mm_cv E v) = true := by
  cases ty with
  | int =>
    cases v with
    | int x => exact ⟨rfl, rfl⟩
    | _ => exact Bool.noConfusion (show false = true from h)
  | boolean =>
    cases v with
    | int x =>
      have h1 : (x == 0 || x == 1) = true := h
      refine ⟨?_, h1⟩
      rcases (Bool.or_eq_true _ _).mp h1 with h2 | h2
      · have h3 : x = 0 := by simpa using h2
        subst h3
        rfl
      · have h3 : x = 1 := by simpa using h2
        subst h3
        rfl
    | _ => exact Bool.noConfusion (show false = true from h)
  | object C =>
    cases v with
    | ref x => exact ⟨rfl, rfl⟩
    | null => exact ⟨rfl, rfl⟩
    | _ => exact Bool.noConfusion (show false = true from h)
  | array t =>
    cases v with
    | ref x => exact ⟨rfl, rfl⟩
    | null => exact ⟨rfl, rfl⟩
    | _ => exact Bool.noConfusion (show false = true from h)
  | _ => cases v <;> exact Bool.noConfusion (show false = true from h)
theorem mm_cv_rf (E : mm_En) (r : Option Nat) : mm_cv E (va_rf r) = va_rf (r.map (fun i => E.2.1 + i)) := by cases r <;> rfl
theorem mm_sum (E : mm_En) (st : List Value) : ((st.map (mm_cv E)).map fun v => v.category).sum = (st.map fun v => v.category).sum := by
  rw [List.map_map]
  congr 1
  exact List.map_congr_left (fun v _ => mm_cv_cat E v)
theorem mm_up_map (b : Nat) (f : Nat → Option Nat) (k : Nat) (r : Option Nat) : (fun j => (va_up f k r j).map (fun i => b + i)) = va_up (fun j => (f j).map (fun i => b + i)) k (r.map (fun i => b + i)) := by
  funext j
  unfold va_up
  by_cases h : j = k
  · rw [if_pos h, if_pos h]
  · rw [if_neg h, if_neg h]
section EVS
variable {E : mm_En} {K : mm_KI} {pc : Nat} {L : List (Option Value)} {rest : List Value} {h : mm_H} {uc us : Nat} {Q : Option Value → mm_H → Prop}
theorem ev_eq {pc' : Nat} {L' : List (Option Value)} {st st' : List Value} {h' : mm_H} {uc' us' : Nat} (e1 : pc = pc') (e2 : L = L') (e3 : st = st') (e4 : h = h') (e5 : uc = uc') (e6 : us = us') (k : ev_At E K pc' L' st' h' uc' us' Q) : ev_At E K pc L st h uc us Q := by
  subst e1 e2 e3 e4 e5 e6
  exact k
theorem ev_mono {st : List Value} {Q' : Option Value → mm_H → Prop} (hq : ∀ r h', Q' r h' → Q r h') (k : ev_At E K pc L st h uc us Q') : ev_At E K pc L st h uc us Q :=
  fun p e s m args below meth c Z H locs ls F R hH hS hL => k p e s m args below meth c Z H locs ls F (fun H1 l1 p1 ls1 r h' q => R H1 l1 p1 ls1 r h' (hq r h' q)) hH hS hL
theorem ev_iload_n {k : Fin 4} {i : Nat} {x : Int32} (hdg : decode K.2.1 pc = .ok (.iload_n k, 1)) (hi : (k : Nat) = i) (hl : L[i]? = some (some (.int x))) (kk : ev_At E K (pc + 1) L (.int x :: rest) h uc us Q) : ev_At E K pc L rest h uc us Q :=
  fun p e s m args below meth c Z H locs ls F R hH hS hL => lv_iload_n F.1 F.2.1 hdg hi (hL.2.2.2 i _ hl).2 (kk p e s m args below meth c Z H locs ls F R hH hS hL)
theorem ev_iload {i : Nat} {x : Int32} (hdg : decode K.2.1 pc = .ok (.iload i, 2)) (hl : L[i]? = some (some (.int x))) (kk : ev_At E K (pc + 2) L (.int x :: rest) h uc us Q) : ev_At E K pc L rest h uc us Q :=
  fun p e s m args below meth c Z H locs ls F R hH hS hL => lv_iload F.1 F.2.1 hdg (hL.2.2.2 i _ hl).2 (kk p e s m args below meth c Z H locs ls F R hH hS hL)
theorem ev_aload_n {k : Fin 4} {i : Nat} {v : Value} (hdg : decode K.2.1 pc = .ok (.aload_n k, 1)) (hi : (k : Nat) = i) (hl : L[i]? = some (some v)) (hv : mm_rk v = true) (kk : ev_At E K (pc + 1) L (v :: rest) h uc us Q) : ev_At E K pc L rest h uc us Q := by
  intro p e s m args below meth c Z H locs ls F R hH hS hL
  have h1 := (hL.2.2.2 i _ hl).2
  have k' := kk p e s m args below meth c Z H locs ls F R hH hS hL
  rw [List.map_cons] at k'
  rcases mm_cv_rk (E := E) hv with h2 | ⟨a, h2⟩
  · rw [h2] at h1 k'
    exact lv_aload_nN F.1 F.2.1 hdg hi h1 k'
  · rw [h2] at h1 k'
    exact lv_aload_n F.1 F.2.1 hdg hi h1 k'
theorem ev_aload {i : Nat} {v : Value} (hdg : decode K.2.1 pc = .ok (.aload i, 2)) (hl : L[i]? = some (some v)) (hv : mm_rk v = true) (kk : ev_At E K (pc + 2) L (v :: rest) h uc us Q) : ev_At E K pc L rest h uc us Q := by
  intro p e s m args below meth c Z H locs ls F R hH hS hL
  have h1 := (hL.2.2.2 i _ hl).2
  have k' := kk p e s m args below meth c Z H locs ls F R hH hS hL
  rw [List.map_cons] at k'
  rcases mm_cv_rk (E := E) hv with h2 | ⟨a, h2⟩
  · rw [h2] at h1 k'
    exact lv_aloadN F.1 F.2.1 hdg h1 k'
  · rw [h2] at h1 k'
    exact lv_aload F.1 F.2.1 hdg h1 k'
theorem ev_istore_n {k : Fin 4} {i : Nat} {x : Int32} {L' : List (Option Value)} (hdg : decode K.2.1 pc = .ok (.istore_n k, 1)) (hi : (k : Nat) = i) (hl : i < K.2.2.1) (hs : L.set i (some (.int x)) = L') (kk : ev_At E K (pc + 1) L' rest h uc us Q) : ev_At E K pc L (.int x :: rest) h uc us Q := by
  subst hs
  exact fun p e s m args below meth c Z H locs ls F R hH hS hL => lv_istore_n F.1 F.2.1 hdg hi hL.has hl rfl (fun ls' hl' => kk p e s m args below meth c Z H locs ls' F R hH hS (hL.set (v := .int x) rfl hl'))
theorem ev_istore {i : Nat} {x : Int32} {L' : List (Option Value)} (hdg : decode K.2.1 pc = .ok (.istore i, 2)) (hl : i < K.2.2.1) (hs : L.set i (some (.int x)) = L') (kk : ev_At E K (pc + 2) L' rest h uc us Q) : ev_At E K pc L (.int x :: rest) h uc us Q := by
  subst hs
  exact fun p e s m args below meth c Z H locs ls F R hH hS hL => lv_istore F.1 F.2.1 hdg hL.has hl rfl (fun ls' hl' => kk p e s m args below meth c Z H locs ls' F R hH hS (hL.set (v := .int x) rfl hl'))
theorem ev_astore_n {k : Fin 4} {i : Nat} {v : Value} {L' : List (Option Value)} (hdg : decode K.2.1 pc = .ok (.astore_n k, 1)) (hi : (k : Nat) = i) (hv : mm_rk v = true) (hl : i < K.2.2.1) (hs : L.set i (some v) = L') (kk : ev_At E K (pc + 1) L' rest h uc us Q) : ev_At E K pc L (v :: rest) h uc us Q := by
  subst hs
  intro p e s m args below meth c Z H locs ls F R hH hS hL
  have go : ∀ ls' : Array Slot, lv_has ls' K.2.2.1 ((i, mm_cv E v) :: (mm_lst E L).filter (fun q => !(q.1 == i) && !(q.1 + 1 == i && q.2.category == 2))) → W p E.1 e K.2.2.2.2 s m args below meth c H locs uc us Z (F0 m (pc + 1) ls' (rest.map (mm_cv E))) :=
    fun ls' hl' => kk p e s m args below meth c Z H locs ls' F R hH hS (hL.set (mm_rk_cat hv) hl')
  rw [List.map_cons]
  rcases mm_cv_rk (E := E) hv with h2 | ⟨a, h2⟩
  · rw [h2] at go ⊢
    exact lv_astore_nN F.1 F.2.1 hdg hi hL.has hl rfl go
  · rw [h2] at go ⊢
    exact lv_astore_n F.1 F.2.1 hdg hi hL.has hl rfl go
theorem ev_astore {i : Nat} {v : Value} {L' : List (Option Value)} (hdg : decode K.2.1 pc = .ok (.astore i, 2)) (hv : mm_rk v = true) (hl : i < K.2.2.1) (hs : L.set i (some v) = L') (kk : ev_At E K (pc + 2) L' rest h uc us Q) : ev_At E K pc L (v :: rest) h uc us Q := by
  subst hs
  intro p e s m args below meth c Z H locs ls F R hH hS hL
  have go : ∀ ls' : Array Slot, lv_has ls' K.2.2.1 ((i, mm_cv E v) :: (mm_lst E L).filter (fun q => !(q.1 == i) && !(q.1 + 1 == i && q.2.category == 2))) → W p E.1 e K.2.2.2.2 s m args below meth c H locs uc us Z (F0 m (pc + 2) ls' (rest.map (mm_cv E))) :=
    fun ls' hl' => kk p e s m args below meth c Z H locs ls' F R hH hS (hL.set (mm_rk_cat hv) hl')
  rw [List.map_cons]
  rcases mm_cv_rk (E := E) hv with h2 | ⟨a, h2⟩
  · rw [h2] at go ⊢
    exact lv_astoreN F.1 F.2.1 hdg hL.has hl rfl go
  · rw [h2] at go ⊢
    exact lv_astore F.1 F.2.1 hdg hL.has hl rfl go
theorem ev_iinc {i : Nat} {n : Int} {x v : Int32} {L' : List (Option Value)} (hdg : decode K.2.1 pc = .ok (.iinc i n, 3)) (hl : i < K.2.2.1) (hx : L[i]? = some (some (.int x))) (hv : x + Int32.ofInt n = v) (hs : L.set i (some (.int v)) = L') (kk : ev_At E K (pc + 3) L' rest h uc us Q) : ev_At E K pc L rest h uc us Q := by
  subst hs
  intro p e s m args below meth c Z H locs ls F R hH hS hL
  obtain ⟨k, hk⟩ := List.getElem?_of_mem (mm_lst_mem (E := E) hx)
  exact lv_iinc F.1 F.2.1 hdg hL.has hk hv hl rfl (fun ls' hl' => kk p e s m args below meth c Z H locs ls' F R hH hS (hL.set (v := .int v) rfl hl'))
theorem ev_dup {va : Value} (hdg : decode K.2.1 pc = .ok (.dup, 1)) (hva : va.category = 1) (kk : ev_At E K (pc + 1) L (va :: va :: rest) h uc us Q) : ev_At E K pc L (va :: rest) h uc us Q :=
  fun p e s m args below meth c Z H locs ls F R hH hS hL => lv_dup F.1 F.2.1 hdg (by rw [mm_cv_cat]; exact hva) (kk p e s m args below meth c Z H locs ls F R hH hS hL)
theorem ev_pop {va : Value} (hdg : decode K.2.1 pc = .ok (.pop, 1)) (hva : va.category = 1) (kk : ev_At E K (pc + 1) L rest h uc us Q) : ev_At E K pc L (va :: rest) h uc us Q :=
  fun p e s m args below meth c Z H locs ls F R hH hS hL => lv_pop F.1 F.2.1 hdg (by rw [mm_cv_cat]; exact hva) (kk p e s m args below meth c Z H locs ls F R hH hS hL)
theorem ev_dup_x1 {va vb : Value} (hdg : decode K.2.1 pc = .ok (.dup_x1, 1)) (hva : va.category = 1) (hvb : vb.category = 1) (kk : ev_At E K (pc + 1) L (va :: vb :: va :: rest) h uc us Q) : ev_At E K pc L (va :: vb :: rest) h uc us Q :=
  fun p e s m args below meth c Z H locs ls F R hH hS hL => lv_dup_x1 F.1 F.2.1 hdg (by rw [mm_cv_cat]; exact hva) (by rw [mm_cv_cat]; exact hvb) (kk p e s m args below meth c Z H locs ls F R hH hS hL)
theorem ev_dup_x2 {va vb vd : Value} (hdg : decode K.2.1 pc = .ok (.dup_x2, 1)) (hva : va.category = 1) (hvb : vb.category = 1) (hvd : vd.category = 1) (kk : ev_At E K (pc + 1) L (va :: vb :: vd :: va :: rest) h uc us Q) : ev_At E K pc L (va :: vb :: vd :: rest) h uc us Q :=
  fun p e s m args below meth c Z H locs ls F R hH hS hL => lv_dup_x2 F.1 F.2.1 hdg (by rw [mm_cv_cat]; exact hva) (by rw [mm_cv_cat]; exact hvb) (by rw [mm_cv_cat]; exact hvd) (kk p e s m args below meth c Z H locs ls F R hH hS hL)
theorem ev_dup2 {va vb : Value} (hdg : decode K.2.1 pc = .ok (.dup2, 1)) (hva : va.category = 1) (hvb : vb.category = 1) (kk : ev_At E K (pc + 1) L (va :: vb :: va :: vb :: rest) h uc us Q) : ev_At E K pc L (va :: vb :: rest) h uc us Q :=
  fun p e s m args below meth c Z H locs ls F R hH hS hL => lv_dup2_11 F.1 F.2.1 hdg (by rw [mm_cv_cat]; exact hva) (by rw [mm_cv_cat]; exact hvb) (kk p e s m args below meth c Z H locs ls F R hH hS hL)
theorem ev_null (hdg : decode K.2.1 pc = .ok (.aconst_null, 1)) (kk : ev_At E K (pc + 1) L (.null :: rest) h uc us Q) : ev_At E K pc L rest h uc us Q :=
  fun p e s m args below meth c Z H locs ls F R hH hS hL => lv_null F.1 F.2.1 hdg (kk p e s m args below meth c Z H locs ls F R hH hS hL)
theorem ev_ifnull {r : Option Nat} {off : Int} {tgt : Nat} (hdg : decode K.2.1 pc = .ok (.ifnull off, 3)) (ht : (pc : Int) + off = (tgt : Int)) (kt : r = none → ev_At E K tgt L rest h uc us Q) (kf : ∀ i, r = some i → ev_At E K (pc + 3) L rest h uc us Q) : ev_At E K pc L (va_rf r :: rest) h uc us Q := by
  intro p e s m args below meth c Z H locs ls F R hH hS hL
  cases r with
  | none => exact lv_ifnullN F.1 F.2.1 hdg ht (kt rfl p e s m args below meth c Z H locs ls F R hH hS hL)
  | some i => exact lv_ifnull F.1 F.2.1 hdg (kf i rfl p e s m args below meth c Z H locs ls F R hH hS hL)
theorem ev_ifnonnull {r : Option Nat} {off : Int} {tgt : Nat} (hdg : decode K.2.1 pc = .ok (.ifnonnull off, 3)) (ht : (pc : Int) + off = (tgt : Int)) (kt : ∀ i, r = some i → ev_At E K tgt L rest h uc us Q) (kf : r = none → ev_At E K (pc + 3) L rest h uc us Q) : ev_At E K pc L (va_rf r :: rest) h uc us Q := by
  intro p e s m args below meth c Z H locs ls F R hH hS hL
  cases r with
  | none => exact lv_ifnonnullN F.1 F.2.1 hdg (kf rfl p e s m args below meth c Z H locs ls F R hH hS hL)
  | some i => exact lv_ifnonnull F.1 F.2.1 hdg ht (kt i rfl p e s m args below meth c Z H locs ls F R hH hS hL)
theorem ev_ifnullR {i : Nat} {off : Int} (hdg : decode K.2.1 pc = .ok (.ifnull off, 3)) (kk : ev_At E K (pc + 3) L rest h uc us Q) : ev_At E K pc L (.ref i :: rest) h uc us Q :=
  fun p e s m args below meth c Z H locs ls F R hH hS hL => lv_ifnull F.1 F.2.1 hdg (kk p e s m args below meth c Z H locs ls F R hH hS hL)
theorem ev_ifnullN {off : Int} {tgt : Nat} (hdg : decode K.2.1 pc = .ok (.ifnull off, 3)) (ht : (pc : Int) + off = (tgt : Int)) (kk : ev_At E K tgt L rest h uc us Q) : ev_At E K pc L (.null :: rest) h uc us Q :=
  fun p e s m args below meth c Z H locs ls F R hH hS hL => lv_ifnullN F.1 F.2.1 hdg ht (kk p e s m args below meth c Z H locs ls F R hH hS hL)
theorem ev_ifnonnullR {i : Nat} {off : Int} {tgt : Nat} (hdg : decode K.2.1 pc = .ok (.ifnonnull off, 3)) (ht : (pc : Int) + off = (tgt : Int)) (kk : ev_At E K tgt L rest h uc us Q) : ev_At E K pc L (.ref i :: rest) h uc us Q :=
  fun p e s m args below meth c Z H locs ls F R hH hS hL => lv_ifnonnull F.1 F.2.1 hdg ht (kk p e s m args below meth c Z H locs ls F R hH hS hL)
theorem ev_ifnonnullN {off : Int} (hdg : decode K.2.1 pc = .ok (.ifnonnull off, 3)) (kk : ev_At E K (pc + 3) L rest h uc us Q) : ev_At E K pc L (.null :: rest) h uc us Q :=
  fun p e s m args below meth c Z H locs ls F R hH hS hL => lv_ifnonnullN F.1 F.2.1 hdg (kk p e s m args below meth c Z H locs ls F R hH hS hL)
theorem ev_acmp_ne {i j : Nat} {off : Int} {tgt : Nat} (hdg : decode K.2.1 pc = .ok (.if_acmp .ne off, 3)) (ht : (pc : Int) + off = (tgt : Int)) (kt : ¬ i = j → ev_At E K tgt L rest h uc us Q) (kf : i = j → ev_At E K (pc + 3) L rest h uc us Q) : ev_At E K pc L (.ref j :: .ref i :: rest) h uc us Q :=
  fun p e s m args below meth c Z H locs ls F R hH hS hL => lv_acmp_ne (rx := some (E.2.1 + i)) (ry := some (E.2.1 + j)) F.1 F.2.1 hdg ht (fun z => kt (fun q => z (by rw [q])) p e s m args below meth c Z H locs ls F R hH hS hL) (fun z => kf (by have := Option.some.inj z; omega) p e s m args below meth c Z H locs ls F R hH hS hL)
theorem ev_acmp_eq {i j : Nat} {off : Int} {tgt : Nat} (hdg : decode K.2.1 pc = .ok (.if_acmp .eq off, 3)) (ht : (pc : Int) + off = (tgt : Int)) (kt : i = j → ev_At E K tgt L rest h uc us Q) (kf : ¬ i = j → ev_At E K (pc + 3) L rest h uc us Q) : ev_At E K pc L (.ref j :: .ref i :: rest) h uc us Q :=
  fun p e s m args below meth c Z H locs ls F R hH hS hL => lv_acmp_eq (rx := some (E.2.1 + i)) (ry := some (E.2.1 + j)) F.1 F.2.1 hdg ht (fun z => kt (by have := Option.some.inj z; omega) p e s m args below meth c Z H locs ls F R hH hS hL) (fun z => kf (fun q => z (by rw [q])) p e s m args below meth c Z H locs ls F R hH hS hL)
/-- a return -/
theorem ev_ret {r : Option Value} (ri : mm_ri K pc r) (hc : uc ≤ K.2.2.2.2.cells) (hs : us ≤ K.2.2.2.2.slots) (hq : Q r h) : ev_At E K pc L r.toList h uc us Q := by
  intro p e s m args below meth c Z H locs ls F R hH hS hL
  refine W.widen hc hs ?_
  have h1 := R H locs pc ls r h hq hH hS ri
  have h2 : (r.map (mm_cv E)).toList = r.toList.map (mm_cv E) := by cases r <;> rfl
  rw [h2] at h1
  exact h1
theorem ev_iret {x : Int32} (hdg : decode K.2.1 pc = .ok (.ireturn, 1)) (hr : K.2.2.2.1 = some .int) (hc : uc ≤ K.2.2.2.2.cells) (hs : us ≤ K.2.2.2.2.slots) (hq : Q (some (.int x)) h) : ev_At E K pc L [.int x] h uc us Q :=
  ev_ret (r := some (.int x)) ⟨hdg, .int, hr, rfl⟩ hc hs hq
theorem ev_zret {x : Int32} (hdg : decode K.2.1 pc = .ok (.ireturn, 1)) (hr : K.2.2.2.1 = some .boolean) (hx : x = 0 ∨ x = 1) (hc : uc ≤ K.2.2.2.2.cells) (hs : us ≤ K.2.2.2.2.slots) (hq : Q (some (.int x)) h) : ev_At E K pc L [.int x] h uc us Q :=
  ev_ret (r := some (.int x)) ⟨hdg, .boolean, hr, by rcases hx with rfl | rfl <;> rfl⟩ hc hs hq
theorem ev_vret (hdg : decode K.2.1 pc = .ok (.return_, 1)) (hr : K.2.2.2.1 = none) (hc : uc ≤ K.2.2.2.2.cells) (hs : us ≤ K.2.2.2.2.slots) (hq : Q none h) : ev_At E K pc L [] h uc us Q :=
  ev_ret (r := none) ⟨hdg, hr⟩ hc hs hq
theorem ev_aret {v : Value} (hdg : decode K.2.1 pc = .ok (.areturn, 1)) (hr : ∃ n, K.2.2.2.1 = some (.object n)) (hv : mm_rk v = true) (hc : uc ≤ K.2.2.2.2.cells) (hs : us ≤ K.2.2.2.2.slots) (hq : Q (some v) h) : ev_At E K pc L [v] h uc us Q := by
  refine ev_ret (r := some v) ?_ hc hs hq
  cases v with
  | ref i => exact ⟨hdg, hr, hv⟩
  | null => exact ⟨hdg, hr, hv⟩
  | retAddr j => exact ⟨hdg, hr, hv⟩
  | _ => exact Bool.noConfusion (show false = true from hv)
/-! fields -/
theorem ev_getf {i ci idx k : Nat} {fs : List Value} {v : Value} (cfs : ∀ (ci : Nat) (q : vw_C), vwCl[ci]? = some q → mm_cf q) (fl : mm_fl K.1.cls idx ci k) (hi : h[i]? = some (.inr (ci, fs))) (hv : fs[k]? = some v) (hdg : decode K.2.1 pc = .ok (.getfield idx, 3)) (kk : ev_At E K (pc + 3) L (v :: rest) h uc us Q) : ev_At E K pc L (.ref i :: rest) h uc us Q := by
  intro p e s m args below meth c Z H locs ls F R hH hS hL
  have k' := kk p e s m args below meth c Z H locs ls F R hH hS hL
  obtain ⟨⟨C, T, N⟩, hc, hk, lk⟩ := fl
  obtain ⟨hx, hb, hml, hown, hts, hin, hG, hX, hbs⟩ := F
  have hcf := cfs ci _ hc
  have he : (mm_ws E h)[i]? = some (E.2.1 + i, .inr (ci, fs.map (mm_cv E))) := mm_ws_get hi
  have hv' : (fs.map (mm_cv E))[k]? = some (mm_cv E v) := by rw [List.getElem?_map, hv]; rfl
  rcases lk with lk | ⟨host, lk⟩
  · exact va_get (D := E.2.2.2.1) (ci := ci) (C := C) (T := T) (N := N) hx hb hts hcf.1 hown hG.1 hH.2 i he hc k hk (hts _ (List.mem_filter.mpr ⟨lk, rfl⟩)) (fun _ h9 => h9) hv' hdg k'
  · exact va_getN (D := E.2.2.2.1) (ci := ci) (C := C) (T := T) (N := N) hx hb hts hcf.1 hown hG.1 hH.2 i he hc k hk (va_Nw.use rfl (hG.2 _ lk rfl)) (fun _ h9 => h9) hv' hdg k'
theorem ev_putf {i ci idx k : Nat} {fs : List Value} {v : Value} {ty : FieldType} {h' : mm_H} (cfs : ∀ (ci : Nat) (q : vw_C), vwCl[ci]? = some q → mm_cf q) (fl : mm_fl K.1.cls idx ci k) (fw : mm_fw ci k ty) (hi : h[i]? = some (.inr (ci, fs))) (hl : k < fs.length) (hf : mm_fit ty v = true) (hdg : decode K.2.1 pc = .ok (.putfield idx, 3)) (hs : h.set i (.inr (ci, fs.set k v)) = h') (kk : ev_At E K (pc + 3) L rest h' uc us Q) : ev_At E K pc L (v :: .ref i :: rest) h uc us Q := by
  subst hs
  intro p e s m args below meth c Z H locs ls F R hH hS hL
  have F0' := F
  obtain ⟨⟨C, T, N⟩, hc, hk, lk⟩ := fl
  obtain ⟨q', hc', hd, hfin⟩ := fw
  have hq' : q' = (C, T, N) := Option.some.inj (hc'.symm.trans hc)
  subst hq'
  obtain ⟨hx, hb, hml, hown, hts, hin, hG, hX, hbs⟩ := F
  have hcf := cfs ci _ hc
  obtain ⟨ty0, hty⟩ := hcf.2.1
  obtain ⟨hn, hfit⟩ := mm_fit_ok (E := E) hf
  have he : (mm_ws E h)[i]? = some (E.2.1 + i, .inr (ci, fs.map (mm_cv E))) := mm_ws_get hi
  have hap := va_apart (own := K.1.cls) hts hcf.1 ty0 hty hcf.2.2 hG.1 hc
  obtain ⟨r, h1, cell, q1, q2, q3, q4⟩ := hH.2 i _ he
  have hr : r = (C, T, N) := Option.some.inj (h1.symm.trans hc)
  subst hr
  obtain ⟨hSl, hfc, kC, hkC, hkind⟩ := hG.1.1 ci _ hc
  obtain ⟨cf, kf, fi, f, hfi, hsl⟩ := hSl k hk
  have hlay := hts _ (hcf.1 _ (u_in_lay hk))
  unfold u_lay at hlay
  rw [if_neg (by rw [hfin]; decide)] at hlay
  have hst := (u_facts hfc hkC (u_lays hts hcf.1 hk) hfi).1
  have h6 := u_store hfc hkC hkind hlay hfi hd hn hfit
  have hl' : k < (fs.map (mm_cv E)).length := by rw [List.length_map]; exact hl
  have go : ∀ H' : Heap, H'[E.2.1 + i]? = some (cell.setSlot f.slot (mm_cv E v)) → H'.size = H.size → (∀ q, q ≠ E.2.1 + i → H'[q]? = H[q]?) → W p E.1 e K.2.2.2.2 s m args below meth c H' (locs ++ [⟨E.2.1 + i, f.slot⟩]) uc us Z (F0 m (pc + 3) ls (rest.map (mm_cv E))) := by
    intro H' e1 e2 e3
    rw [hsl] at e1
    refine kk p e s m args below meth c Z H' _ ls F0' R ⟨?_, ?_⟩ (hS.put e2 e3 (Nat.le_add_right _ _)) hL
    · rw [e2, hH.1, List.length_set]
    · rw [← mm_ws_set]
      have hce : mm_ce E (.inr (ci, fs.set k v)) = .inr (ci, (fs.map (mm_cv E)).set k (mm_cv E v)) := by
        show (Sum.inr (ci, (fs.set k v).map (mm_cv E)) : va_E) = _
        rw [List.map_set]
      rw [hce]
      exact hH.2.set mm_ws_D he ⟨_, hc, t_OB.to (V := updV (vp_V (fs.map (mm_cv E))) k (mm_cv E v)) ⟨_, e1, q2, q3, t_set q4 hap hk _⟩ (fun j _ => vp_updV_set hl' _ j)⟩ e3
  rcases lk with lk | ⟨host, lk⟩
  · exact W.putK hx hb (f := f) ⟨hown, hts _ (List.mem_filter.mpr ⟨lk, rfl⟩), ⟨_, _, _, hfi⟩, hst⟩ (by rw [q2]; exact h6) q1 q3 (by rw [hsl]; exact k2_hasslot (q4 k hk)) rfl rfl hdg go
  · exact va_WputK hx hb hown (va_Nw.use rfl (hG.2 _ lk rfl)) hfi hst (by rw [q2]; exact h6) q1 q3 (by rw [hsl]; exact k2_hasslot (q4 k hk)) rfl rfl hdg go
theorem ev_putF {i ci idx k : Nat} {fs : List Value} {v : Value} {ty : FieldType} {h' : mm_H} (cfs : ∀ (ci : Nat) (q : vw_C), vwCl[ci]? = some q → mm_cf q) (hnm : K.1.name = "<init>") (fw : mm_fF K.1.cls idx ci k ty) (hi : h[i]? = some (.inr (ci, fs))) (hl : k < fs.length) (hf : mm_fit ty v = true) (hdg : decode K.2.1 pc = .ok (.putfield idx, 3)) (hs : h.set i (.inr (ci, fs.set k v)) = h') (kk : ev_At E K (pc + 3) L rest h' uc us Q) : ev_At E K pc L (v :: .ref i :: rest) h uc us Q := by
  subst hs
  intro p e s m args below meth c Z H locs ls F R hH hS hL
  have F0' := F
  obtain ⟨⟨C, T, N⟩, hc, hk, lk, hd, hfin, hdecl⟩ := fw
  obtain ⟨hx, hb, hml, hown, hts, hin, hG, hX, hbs⟩ := F
  have hcf := cfs ci _ hc
  obtain ⟨ty0, hty⟩ := hcf.2.1
  obtain ⟨hn, hfit⟩ := mm_fit_ok (E := E) hf
  have he : (mm_ws E h)[i]? = some (E.2.1 + i, .inr (ci, fs.map (mm_cv E))) := mm_ws_get hi
  have hap := va_apart (own := K.1.cls) hts hcf.1 ty0 hty hcf.2.2 hG.1 hc
  obtain ⟨r, h1, cell, q1, q2, q3, q4⟩ := hH.2 i _ he
  have hr : r = (C, T, N) := Option.some.inj (h1.symm.trans hc)
  subst hr
  obtain ⟨hSl, hfc, kC, hkC, hkind⟩ := hG.1.1 ci _ hc
  obtain ⟨cf, kf, fi, f, hfi, hsl⟩ := hSl k hk
  have hlay := hts _ (hcf.1 _ (u_in_lay hk))
  unfold u_lay at hlay
  rw [if_pos hfin] at hlay
  have hst := (u_facts hfc hkC (u_lays hts hcf.1 hk) hfi).1
  have hcls : m.cls = cf := by
    obtain ⟨_, _, c', _, _, _, -, -, hf', -, -, -, hown2, -⟩ := Cond.laysFinal_spec hlay
    have e1 : c' = cf := by have := hfi.symm.trans hf'; simp at this; exact this.1.symm
    rw [hdecl] at hown2
    rw [← e1]; exact Option.some.inj (hown.symm.trans hown2)
  have h6 := u_fits hfc hkC hkind (Or.inr hlay) hfi hd hn hfit
  have hl' : k < (fs.map (mm_cv E)).length := by rw [List.length_map]; exact hl
  have go : ∀ H' : Heap, H'[E.2.1 + i]? = some (cell.setSlot f.slot (mm_cv E v)) → H'.size = H.size → (∀ q, q ≠ E.2.1 + i → H'[q]? = H[q]?) → W p E.1 e K.2.2.2.2 s m args below meth c H' (locs ++ [⟨E.2.1 + i, f.slot⟩]) uc us Z (F0 m (pc + 3) ls (rest.map (mm_cv E))) := by
    intro H' e1 e2 e3
    rw [hsl] at e1
    refine kk p e s m args below meth c Z H' _ ls F0' R ⟨?_, ?_⟩ (hS.put e2 e3 (Nat.le_add_right _ _)) hL
    · rw [e2, hH.1, List.length_set]
    · rw [← mm_ws_set]
      have hce : mm_ce E (.inr (ci, fs.set k v)) = .inr (ci, (fs.map (mm_cv E)).set k (mm_cv E v)) := by
        show (Sum.inr (ci, (fs.set k v).map (mm_cv E)) : va_E) = _
        rw [List.map_set]
      rw [hce]
      exact hH.2.set mm_ws_D he ⟨_, hc, t_OB.to (V := updV (vp_V (fs.map (mm_cv E))) k (mm_cv E v)) ⟨_, e1, q2, q3, t_set q4 hap hk _⟩ (fun j _ => vp_updV_set hl' _ j)⟩ e3
  exact W.putFinK hx hb hown (hts _ (List.mem_filter.mpr ⟨lk, rfl⟩)) hfi hst hcls (hin hnm) (by rw [q2]; exact h6) q1 q3 (by rw [hsl]; exact k2_hasslot (q4 k hk)) rfl rfl hdg go
/-! arrays -/
theorem ev_iald {i n : Nat} {f : Nat → Int32} {x : Int32} (ht : mm_ty[0]? = some .int) (hi : h[i]? = some (.inl (0, n, .inl f))) (hin : vp_in x n) (hdg : decode K.2.1 pc = .ok (.iaload, 1)) (kk : ev_At E K (pc + 1) L (.int (f x.toNatClampNeg) :: rest) h uc us Q) : ev_At E K pc L (.int x :: .ref i :: rest) h uc us Q :=
  fun p e s m args below meth c Z H locs ls F R hH hS hL => va_iald (cA := E.2.2.2.2.1 0) (n := n) (f := f) F.1 F.2.1 F.2.2.2.2.2.2.1.1 hH.2 i 0 (mm_ws_get hi) (mm_tys_get ht) hin hdg (kk p e s m args below meth c Z H locs ls F R hH hS hL)
theorem ev_zald {i n : Nat} {f : Nat → Int32} {x : Int32} (ht : mm_ty[1]? = some .boolean) (hi : h[i]? = some (.inl (1, n, .inl f))) (hin : vp_in x n) (hdg : decode K.2.1 pc = .ok (.baload, 1)) (kk : ev_At E K (pc + 1) L (.int (f x.toNatClampNeg) :: rest) h uc us Q) : ev_At E K pc L (.int x :: .ref i :: rest) h uc us Q :=
  fun p e s m args below meth c Z H locs ls F R hH hS hL => va_zald (cA := E.2.2.2.2.1 1) (n := n) (f := f) F.1 F.2.1 F.2.2.2.2.2.2.1.1 hH.2 i 1 (mm_ws_get hi) (mm_tys_get ht) hin hdg (kk p e s m args below meth c Z H locs ls F R hH hS hL)
theorem ev_aald {i n t j : Nat} {C : String} {f : Nat → Option Nat} {x : Int32} (ht : mm_ty[t]? = some (.object C)) (hi : h[i]? = some (.inl (t, n, .inr (.inr (.inr (.inr f)))))) (hin : vp_in x n) (hf : f x.toNatClampNeg = some j) (hdg : decode K.2.1 pc = .ok (.aaload, 1)) (kk : ev_At E K (pc + 1) L (.ref j :: rest) h uc us Q) : ev_At E K pc L (.int x :: .ref i :: rest) h uc us Q := by
  intro p e s m args below meth c Z H locs ls F R hH hS hL
  refine va_aldq (cA := E.2.2.2.2.1 t) (n := n) (f := fun j => (f j).map (fun i => E.2.1 + i)) F.1 F.2.1 F.2.2.2.2.2.2.1.1 hH.2 i t (mm_ws_get hi) (mm_tys_get ht) hin hdg ?_
  show W p E.1 e K.2.2.2.2 s m args below meth c H locs uc us Z (F0 m (pc + 1) ls (va_rf ((f x.toNatClampNeg).map (fun i => E.2.1 + i)) :: rest.map (mm_cv E)))
  rw [hf]
  exact kk p e s m args below meth c Z H locs ls F R hH hS hL
theorem ev_iast {i n : Nat} {f : Nat → Int32} {x y : Int32} {h' : mm_H} (ht : mm_ty[0]? = some .int) (hi : h[i]? = some (.inl (0, n, .inl f))) (hin : vp_in x n) (hdg : decode K.2.1 pc = .ok (.iastore, 1)) (hs : h.set i (.inl (0, n, .inl (upd f x.toNatClampNeg y))) = h') (kk : ev_At E K (pc + 1) L rest h' uc us Q) : ev_At E K pc L (.int y :: .int x :: .ref i :: rest) h uc us Q := by
  subst hs
  intro p e s m args below meth c Z H locs ls F R hH hS hL
  have he : (mm_ws E h)[i]? = some (E.2.1 + i, .inl (E.2.2.2.2.1 0, n, .inl f)) := mm_ws_get hi
  refine W.iast F.1 F.2.1 (hH.2 i _ he) ((F.2.2.2.2.2.2.1.1.2 0 _ (mm_tys_get ht)).1 n (fun j => .int (f j))) (fun q => by cases q) (by show ¬ (x < 0 ∨ (arrV _ _ _).slots.size ≤ _); rw [arrV_size]; exact hin) rfl rfl hdg fun H1 e1 z oq => ?_
  refine kk p e s m args below meth c Z H1 _ ls F R ⟨by rw [z, hH.1, List.length_set], ?_⟩ (hS.put z oq (Nat.le_add_right _ _)) hL
  rw [← mm_ws_set]
  refine hH.2.set mm_ws_D he ?_ oq
  show H1[E.2.1 + i]? = some (vp_cell (E.2.2.2.2.1 0) (n, .inl (upd f x.toNatClampNeg y)))
  rw [e1]
  rw [vp_cell_i, vp_cell_i, arrV_store]
  congr 2
  funext q
  by_cases hq : q = x.toNatClampNeg
  · subst hq
    simp [updV, upd]
  · simp [updV, upd, hq]
theorem ev_zast {i n : Nat} {f : Nat → Int32} {x y w : Int32} {h' : mm_H} (ht : mm_ty[1]? = some .boolean) (hi : h[i]? = some (.inl (1, n, .inl f))) (hin : vp_in x n) (hw : vp_nar .boolean y = w) (hdg : decode K.2.1 pc = .ok (.bastore, 1)) (hs : h.set i (.inl (1, n, .inl (upd f x.toNatClampNeg w))) = h') (kk : ev_At E K (pc + 1) L rest h' uc us Q) : ev_At E K pc L (.int y :: .int x :: .ref i :: rest) h uc us Q := by
  subst hs
  subst hw
  intro p e s m args below meth c Z H locs ls F R hH hS hL
  have he : (mm_ws E h)[i]? = some (E.2.1 + i, .inl (E.2.2.2.2.1 1, n, .inl f)) := mm_ws_get hi
  refine W.zast F.1 F.2.1 (hH.2 i _ he) ((F.2.2.2.2.2.2.1.1.2 1 _ (mm_tys_get ht)).1 n (fun j => .int (f j))) (fun q => by cases q) (by show ¬ (x < 0 ∨ (arrV _ _ _).slots.size ≤ _); rw [arrV_size]; exact hin) rfl rfl hdg fun H1 e1 z oq => ?_
  refine kk p e s m args below meth c Z H1 _ ls F R ⟨by rw [z, hH.1, List.length_set], ?_⟩ (hS.put z oq (Nat.le_add_right _ _)) hL
  rw [← mm_ws_set]
  refine hH.2.set mm_ws_D he ?_ oq
  show H1[E.2.1 + i]? = some (vp_cell (E.2.2.2.2.1 1) (n, .inl (upd f x.toNatClampNeg (vp_nar .boolean y))))
  rw [e1]
  rw [vp_cell_i, vp_cell_i, arrV_store]
  congr 2
  funext q
  by_cases hq : q = x.toNatClampNeg
  · subst hq
    simp [updV, upd, vp_nar]
    try rfl
  · simp [updV, upd, hq]
theorem ev_aast {i n t j ci : Nat} {r : vw_C} {f : Nat → Option Nat} {x : Int32} {fs : List Value} {h' : mm_H} (ht : mm_ty[t]? = some (.object r.1)) (hc : vwCl[ci]? = some r) (hi : h[i]? = some (.inl (t, n, .inr (.inr (.inr (.inr f)))))) (hj : h[j]? = some (.inr (ci, fs))) (hin : vp_in x n) (hdg : decode K.2.1 pc = .ok (.aastore, 1)) (hs : h.set i (.inl (t, n, .inr (.inr (.inr (.inr (va_up f x.toNatClampNeg (some j))))))) = h') (kk : ev_At E K (pc + 1) L rest h' uc us Q) : ev_At E K pc L (.ref j :: .int x :: .ref i :: rest) h uc us Q := by
  subst hs
  intro p e s m args below meth c Z H locs ls F R hH hS hL
  have he : (mm_ws E h)[i]? = some (E.2.1 + i, .inl (E.2.2.2.2.1 t, n, .inr (.inr (.inr (.inr (fun j => (f j).map (fun i => E.2.1 + i))))))) := mm_ws_get hi
  have hv : (mm_ws E h)[j]? = some (E.2.1 + j, .inr (ci, fs.map (mm_cv E))) := mm_ws_get hj
  have hK := F.2.2.2.2.2.2.1.1
  have hlt : x.toNatClampNeg < n := Nat.not_le.mp fun q => hin (Or.inr q)
  have h0 : ¬ x < 0 := fun q => hin (Or.inl q)
  obtain ⟨r', hr', cellV, g1, g2, g3, -⟩ := hH.2 j _ hv
  have hcls := (hK.1 ci r hc).2
  obtain ⟨kA, comp, k1, k2, k3, -⟩ := (hK.2 t _ (mm_tys_get ht)).2
  have hcomp : comp = E.2.2.2.1.1 ci := Option.some.inj (k3.symm.trans hcls.1)
  subst hcomp
  obtain ⟨kC, hkC, -⟩ := hcls.2
  refine W.aast F.1 F.2.1 (hH.2 i _ he) (fun q h => by cases h) (fun h => by cases h) k1 k2 rfl hkC ⟨h0, by show _ < (arrV _ _ _).slots.size; rw [arrV_size]; exact hlt⟩ g1 (fun q h => by rw [g3] at h; cases h) (by rw [g2]; exact hkC) (by rw [g2]; exact va_assign hcls) rfl rfl hdg fun H1 e1 z oq => ?_
  refine kk p e s m args below meth c Z H1 _ ls F R ⟨by rw [z, hH.1, List.length_set], ?_⟩ (hS.put z oq (Nat.le_add_right _ _)) hL
  rw [← mm_ws_set]
  refine hH.2.set mm_ws_D he ?_ oq
  show H1[E.2.1 + i]? = some (vp_cell (E.2.2.2.2.1 t) (n, .inr (.inr (.inr (.inr (fun q => (va_up f x.toNatClampNeg (some j) q).map (fun i => E.2.1 + i)))))))
  rw [mm_up_map]
  rw [e1]
  rw [vp_cell_q, vp_cell_q, arrV_store]
  congr 2
  funext q
  by_cases hq : q = x.toNatClampNeg
  · subst hq
    simp [updV, va_up, va_rf]
  · simp [updV, va_up, hq]
theorem ev_alen {i t n : Nat} {ty : FieldType} {z : (Nat → Int32) ⊕ (Nat → Int64) ⊕ (Nat → UInt32) ⊕ (Nat → UInt64) ⊕ (Nat → Option Nat)} {v : Int32} (ht : mm_ty[t]? = some ty) (hi : h[i]? = some (.inl (t, n, z))) (hv : Int32.ofNat n = v) (hdg : decode K.2.1 pc = .ok (.arraylength, 1)) (kk : ev_At E K (pc + 1) L (.int v :: rest) h uc us Q) : ev_At E K pc L (.ref i :: rest) h uc us Q :=
  fun p e s m args below meth c Z H locs ls F R hH hS hL => va_alen (x := mm_ca E (n, z)) F.1 F.2.1 F.2.2.2.2.2.2.1.1 hH.2 i t (mm_ws_get hi) (mm_tys_get ht) hv hdg (kk p e s m args below meth c Z H locs ls F R hH hS hL)
/-! the old arrays -/
theorem ev_ialdX {j : Nat} {x : Int32} (hj : j < 3) (hin : vp_in x (E.2.2.2.2.2.1 j)) (hdg : decode K.2.1 pc = .ok (.iaload, 1)) (kk : ev_At E K (pc + 1) L (.int (E.2.2.2.2.2.2 j x.toNatClampNeg) :: rest) h uc us Q) : ev_At E K pc L (.int x :: .retAddr j :: rest) h uc us Q := by
  intro p e s m args below meth c Z H locs ls F R hH hS hL
  exact va_ti F.1 F.2.1 (F.2.2.2.2.2.2.2.1.1 j hj) hS hin rfl hdg (kk p e s m args below meth c Z H locs ls F R hH hS hL)
theorem ev_alenX {j : Nat} (hj : j < 3) (hdg : decode K.2.1 pc = .ok (.arraylength, 1)) (kk : ev_At E K (pc + 1) L (.int (Int32.ofNat (E.2.2.2.2.2.1 j)) :: rest) h uc us Q) : ev_At E K pc L (.retAddr j :: rest) h uc us Q := by
  intro p e s m args below meth c Z H locs ls F R hH hS hL
  obtain ⟨cell, h1, h2, h3, h4, h5, h6, h7⟩ := F.2.2.2.2.2.2.2.1.1 j hj
  exact W.alen (rest := rest.map (mm_cv E)) F.1 F.2.1 (by rw [hS.2.1 _ (Array.getElem?_eq_some_iff.mp h1).1 h7]; exact h1) h2 h5 rfl rfl hdg (kk p e s m args below meth c Z H locs ls F R hH hS hL)
theorem ev_gets1 {idx : Nat} (lk : Jvm.Cond.fieldLink K.1.cls idx "SnapshotFiles" "FEWEST_NUMBERS" "[I" ∈ lw_tbl) (hdg : decode K.2.1 pc = .ok (.getstatic idx, 3)) (kk : ev_At E K (pc + 3) L (.retAddr 1 :: rest) h uc us Q) : ev_At E K pc L rest h uc us Q :=
  fun p e s m args below meth c Z H locs ls F R hH hS hL => va_gets F.1 F.2.1 F.2.2.2.2.2.2.2.1.2.1 hS F.2.2.2.1 (F.2.2.2.2.1 _ (List.mem_filter.mpr ⟨lk, rfl⟩)) (fun _ h9 => h9) hdg (kk p e s m args below meth c Z H locs ls F R hH hS hL)
theorem ev_gets2 {idx : Nat} (lk : Jvm.Cond.fieldLink K.1.cls idx "SnapshotFiles" "MOST_NUMBERS" "[I" ∈ lw_tbl) (hdg : decode K.2.1 pc = .ok (.getstatic idx, 3)) (kk : ev_At E K (pc + 3) L (.retAddr 2 :: rest) h uc us Q) : ev_At E K pc L rest h uc us Q :=
  fun p e s m args below meth c Z H locs ls F R hH hS hL => va_gets F.1 F.2.1 F.2.2.2.2.2.2.2.1.2.2 hS F.2.2.2.1 (F.2.2.2.2.1 _ (List.mem_filter.mpr ⟨lk, rfl⟩)) (fun _ h9 => h9) hdg (kk p e s m args below meth c Z H locs ls F R hH hS hL)
end EVS
