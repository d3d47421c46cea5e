/-! The heap behind the constructors: every cell's kind, and all its references, stay as they are; what moves are ints. So the heap is hp_H C for one function C : cell → place → int. hp_S (the part before) lists the cells: an array (type's number, length, its references), or an object (its kind's number in vwCl, its fields: a reference, or none for an int). -/
def hp_c (s : hp_T) (f : Nat → Int32) : mm_E := match s with
  | .inl (t, n, rs) => if t ≤ 1 then .inl (t, n, .inl f) else .inl (t, n, .inr (.inr (.inr (.inr (fun j => rs[j]?)))))
  | .inr (ci, tm) => .inr (ci, tm.mapIdx (fun k o => match o with
    | some r => Value.ref r
    | none => Value.int (f k)))
theorem hp_Hx : ∃ f : (Nat → Nat → Int32) → mm_H, ∀ C, f C = hp_S.mapIdx (fun i s => hp_c s (C i)) := ⟨fun C => hp_S.mapIdx (fun i s => hp_c s (C i)), fun _ => rfl⟩
noncomputable def hp_H : (Nat → Nat → Int32) → mm_H := Classical.choose hp_Hx
theorem hp_Hd (C : Nat → Nat → Int32) : hp_H C = hp_S.mapIdx (fun i s => hp_c s (C i)) := Classical.choose_spec hp_Hx C
theorem hp_ci {t n : Nat} {rs : List Nat} {f : Nat → Int32} (h : t ≤ 1) : hp_c (.inl (t, n, rs)) f = .inl (t, n, .inl f) := by simp [hp_c, h]
theorem hp_cr {t n : Nat} {rs : List Nat} {f : Nat → Int32} (h : ¬ t ≤ 1) : hp_c (.inl (t, n, rs)) f = .inl (t, n, .inr (.inr (.inr (.inr (fun j => rs[j]?))))) := by simp [hp_c, h]
def cs_C (C : Nat → Nat → Int32) (i k : Nat) (v : Int32) : Nat → Nat → Int32 := fun j => if j = i then upd (C i) k v else C j
theorem cs_at (C : Nat → Nat → Int32) (i k : Nat) (v : Int32) : cs_C C i k v i k = v := by simp [cs_C, upd]
theorem cs_ne (C : Nat → Nat → Int32) {i k j l : Nat} (v : Int32) (h : ¬ (j = i ∧ l = k)) : cs_C C i k v j l = C j l := by
  unfold cs_C
  by_cases hj : j = i
  · subst hj
    have hl : ¬ l = k := fun z => h ⟨rfl, z⟩
    simp [upd, hl]
  · simp [hj]
theorem cs_app (C : Nat → Nat → Int32) (i k j l : Nat) (v : Int32) : cs_C C i k v j l = if j = i ∧ l = k then v else C j l := by
  by_cases h : j = i ∧ l = k
  · rw [if_pos h, h.1, h.2, cs_at]
  · rw [if_neg h, cs_ne C v h]
theorem hp_get {C : Nat → Nat → Int32} {i : Nat} {s : hp_T} (h : hp_S[i]? = some s) : (hp_H C)[i]? = some (hp_c s (C i)) := by
  rw [hp_Hd, List.getElem?_mapIdx, h]
  rfl
theorem hp_set {C : Nat → Nat → Int32} {i : Nat} {s : hp_T} {f : Nat → Int32} (h : hp_S[i]? = some s) : (hp_H C).set i (hp_c s f) = hp_H (fun j => if j = i then f else C j) := by
  apply List.ext_getElem?
  intro j
  have hl : i < hp_S.length := (List.getElem?_eq_some_iff.mp h).1
  simp only [hp_Hd, List.getElem?_mapIdx, List.getElem?_set, List.length_mapIdx]
  by_cases hij : i = j
  · subst hij
    rw [h]
    simp [hl]
  · have hji : ¬ j = i := fun z => hij z.symm
    simp [hij, hji]
theorem hp_obj {ci : Nat} {tm : List (Option Nat)} {f : Nat → Int32} : hp_c (.inr (ci, tm)) f = .inr (ci, tm.mapIdx (fun k o => match o with
    | some r => Value.ref r
    | none => Value.int (f k))) := rfl
theorem hp_put {ci k : Nat} {tm : List (Option Nat)} {f : Nat → Int32} {v : Int32} (ht : tm[k]? = some none) :
    (.inr (ci, (tm.mapIdx (fun k o => match o with
    | some r => Value.ref r
    | none => Value.int (f k))).set k (.int v)) : mm_E) = hp_c (.inr (ci, tm)) (upd f k v) := by
  rw [hp_obj]
  congr 2
  apply List.ext_getElem?
  intro j
  simp only [List.getElem?_mapIdx, List.getElem?_set, List.length_mapIdx]
  have hl : k < tm.length := (List.getElem?_eq_some_iff.mp ht).1
  by_cases hkj : k = j
  · subst hkj
    rw [ht]
    simp [hl, upd]
  · have hjk : ¬ j = k := fun z => hkj z.symm
    simp only [hkj, if_false]
    congr 1
    funext o
    cases o with
    | some r => rfl
    | none => simp [upd, hjk]
theorem hp_seta {C : Nat → Nat → Int32} {i t n k : Nat} {rs : List Nat} {v : Int32} (h9 : t ≤ 1) (h : hp_S[i]? = some (.inl (t, n, rs))) : (hp_H C).set i (.inl (t, n, .inl (upd (C i) k v))) = hp_H (cs_C C i k v) := by
  have h1 := hp_set (C := C) (f := upd (C i) k v) h
  rw [hp_ci h9] at h1
  rw [h1]
  rfl
theorem hp_geta {C : Nat → Nat → Int32} {i t n : Nat} {rs : List Nat} (h9 : t ≤ 1) (h : hp_S[i]? = some (.inl (t, n, rs))) : (hp_H C)[i]? = some (.inl (t, n, .inl (C i))) := by
  rw [hp_get h, hp_ci h9]
section EVH
variable {E : mm_En} {K : mm_KI} {pc : Nat} {L : List (Option Value)} {rest : List Value} {C : Nat → Nat → Int32} {uc us : Nat} {Q : Option Value → mm_H → Prop}
theorem ev_gI {i ci idx k : Nat} {tm : List (Option Nat)} (hs : hp_S[i]? = some (.inr (ci, tm))) (ht : tm[k]? = some none) (fl : mm_fl K.1.cls idx ci k) (hdg : decode K.2.1 pc = .ok (.getfield idx, 3)) (kk : ev_At E K (pc + 3) L (.int (C i k) :: rest) (hp_H C) uc us Q) : ev_At E K pc L (.ref i :: rest) (hp_H C) uc us Q :=
  ev_getf mm_cfs fl (hp_get hs) (by rw [List.getElem?_mapIdx, ht]; rfl) hdg kk
theorem ev_gR {i ci idx k r : Nat} {tm : List (Option Nat)} (hs : hp_S[i]? = some (.inr (ci, tm))) (ht : tm[k]? = some (some r)) (fl : mm_fl K.1.cls idx ci k) (hdg : decode K.2.1 pc = .ok (.getfield idx, 3)) (kk : ev_At E K (pc + 3) L (.ref r :: rest) (hp_H C) uc us Q) : ev_At E K pc L (.ref i :: rest) (hp_H C) uc us Q :=
  ev_getf mm_cfs fl (hp_get hs) (by rw [List.getElem?_mapIdx, ht]; rfl) hdg kk
theorem ev_pI {i ci idx k : Nat} {tm : List (Option Nat)} {v : Int32} {ty : FieldType} (hs : hp_S[i]? = some (.inr (ci, tm))) (ht : tm[k]? = some none) (fl : mm_fl K.1.cls idx ci k) (fw : mm_fw ci k ty) (hf : mm_fit ty (.int v) = true) (hdg : decode K.2.1 pc = .ok (.putfield idx, 3)) (kk : ev_At E K (pc + 3) L rest (hp_H (cs_C C i k v)) uc us Q) : ev_At E K pc L (.int v :: .ref i :: rest) (hp_H C) uc us Q := by
  refine ev_putf mm_cfs fl fw (hp_get hs) ?_ hf hdg ?_ kk
  · rw [List.length_mapIdx]
    exact (List.getElem?_eq_some_iff.mp ht).1
  · rw [hp_put ht, hp_set hs]
    rfl
theorem ev_rI {i n : Nat} {x : Int32} {rs : List Nat} (hs : hp_S[i]? = some (.inl (0, n, rs))) (hin : vp_in x n) (hdg : decode K.2.1 pc = .ok (.iaload, 1)) (kk : ev_At E K (pc + 1) L (.int (C i x.toNatClampNeg) :: rest) (hp_H C) uc us Q) : ev_At E K pc L (.int x :: .ref i :: rest) (hp_H C) uc us Q :=
  ev_iald rfl (hp_geta (by decide) hs) hin hdg kk
theorem ev_rZ {i n : Nat} {x : Int32} {rs : List Nat} (hs : hp_S[i]? = some (.inl (1, n, rs))) (hin : vp_in x n) (hdg : decode K.2.1 pc = .ok (.baload, 1)) (kk : ev_At E K (pc + 1) L (.int (C i x.toNatClampNeg) :: rest) (hp_H C) uc us Q) : ev_At E K pc L (.int x :: .ref i :: rest) (hp_H C) uc us Q :=
  ev_zald rfl (hp_geta (by decide) hs) hin hdg kk
theorem ev_wI {i n : Nat} {x y : Int32} {rs : List Nat} (hs : hp_S[i]? = some (.inl (0, n, rs))) (hin : vp_in x n) (hdg : decode K.2.1 pc = .ok (.iastore, 1)) (kk : ev_At E K (pc + 1) L rest (hp_H (cs_C C i x.toNatClampNeg y)) uc us Q) : ev_At E K pc L (.int y :: .int x :: .ref i :: rest) (hp_H C) uc us Q :=
  ev_iast rfl (hp_geta (by decide) hs) hin hdg (hp_seta (by decide) hs) kk
theorem ev_wZ {i n : Nat} {x y w : Int32} {rs : List Nat} (hs : hp_S[i]? = some (.inl (1, n, rs))) (hin : vp_in x n) (hw : vp_nar .boolean y = w) (hdg : decode K.2.1 pc = .ok (.bastore, 1)) (kk : ev_At E K (pc + 1) L rest (hp_H (cs_C C i x.toNatClampNeg w)) uc us Q) : ev_At E K pc L (.int y :: .int x :: .ref i :: rest) (hp_H C) uc us Q :=
  ev_zast rfl (hp_geta (by decide) hs) hin hw hdg (hp_seta (by decide) hs) kk
theorem ev_rR {i t n j : Nat} {x : Int32} {Cn : String} {rs : List Nat} (hs : hp_S[i]? = some (.inl (t + 2, n, rs))) (ht : mm_ty[t + 2]? = some (.object Cn)) (hin : vp_in x n) (hj : rs[x.toNatClampNeg]? = some j) (hdg : decode K.2.1 pc = .ok (.aaload, 1)) (kk : ev_At E K (pc + 1) L (.ref j :: rest) (hp_H C) uc us Q) : ev_At E K pc L (.int x :: .ref i :: rest) (hp_H C) uc us Q := by
  have h1 := hp_get (C := C) hs
  rw [hp_cr (by omega)] at h1
  exact ev_aald ht h1 hin hj hdg kk
theorem ev_al {i t n : Nat} {ty : FieldType} {v : Int32} {rs : List Nat} (hs : hp_S[i]? = some (.inl (t, n, rs))) (ht : mm_ty[t]? = some ty) (hv : Int32.ofNat n = v) (hdg : decode K.2.1 pc = .ok (.arraylength, 1)) (kk : ev_At E K (pc + 1) L (.int v :: rest) (hp_H C) uc us Q) : ev_At E K pc L (.ref i :: rest) (hp_H C) uc us Q := by
  have h1 := hp_get (C := C) hs
  by_cases h9 : t ≤ 1
  · rw [hp_ci h9] at h1
    exact ev_alen ht h1 hv hdg kk
  · rw [hp_cr h9] at h1
    exact ev_alen ht h1 hv hdg kk
/-- a method of ours that makes no cell; n: its arguments; ci: its object's kind -/
def jv_ok (J : mm_KI) (n ci : Nat) : Prop := mm_jf J n ∧ (Jvm.Cond.instanceMethod J.1 ∈ lw_tbl ∧ Jvm.Cond.selects J.1.cls J.1 J.1 ∈ lw_tbl) ∧ (∃ q : vw_C, vwCl[ci]? = some q ∧ q.1 = J.1.cls) ∧ J.2.2.2.2.cells = 0 ∧ J.2.2.2.2.slots = 0
def js_ok (J : mm_KI) (n : Nat) : Prop := mm_jf J n ∧ Jvm.Cond.static J.1 ∈ lw_tbl ∧ J.2.2.2.2.cells = 0 ∧ J.2.2.2.2.slots = 0
/-- an answer and a heap -/
def mm_D (R : Option Value) (C : Nat → Nat → Int32) : Option Value → mm_H → Prop := fun r h => r = R ∧ h = hp_H C
theorem ev_cV {J : mm_KI} {As st : List Value} {idx n i ci : Nat} {tm : List (Option Nat)} {C' : Nat → Nat → Int32} {v : Value} (hM : mm_MT E J (.ref i :: As) (hp_H C) (mm_D (some v) C')) (lk : mm_cl K.1.cls idx J) (jv : jv_ok J n ci) (rm : mm_rm K J) (hn : As.length = n) (hs : hp_S[i]? = some (.inr (ci, tm))) (hst : st = As.reverse ++ .ref i :: rest) (hW : (rest.map fun v => v.category).sum ≤ 8) (hdg : decode K.2.1 pc = .ok (.invokevirtual idx, 3)) (hu : uc ≤ K.2.2.2.2.cells ∧ us ≤ K.2.2.2.2.slots)
    (kk : ev_At E K (pc + 3) L (v :: rest) (hp_H C') uc us Q) : ev_At E K pc L st (hp_H C) uc us Q := by
  obtain ⟨jf, jv2, ⟨q, hq⟩, z1, z2⟩ := jv
  refine ev_callV hM lk jf jv2 hq rm hn (hp_get hs) hst hW hdg (by rw [z1, z2]; exact hu) (fun r h' hd => ?_)
  have h1 : r = some v := hd.1
  have h2 : h' = hp_H C' := hd.2
  rw [h1, h2, z1, z2]
  exact kk
theorem ev_cVv {J : mm_KI} {As st : List Value} {idx n i ci : Nat} {tm : List (Option Nat)} {C' : Nat → Nat → Int32} (hM : mm_MT E J (.ref i :: As) (hp_H C) (mm_D none C')) (lk : mm_cl K.1.cls idx J) (jv : jv_ok J n ci) (rm : mm_rm K J) (hn : As.length = n) (hs : hp_S[i]? = some (.inr (ci, tm))) (hst : st = As.reverse ++ .ref i :: rest) (hW : (rest.map fun v => v.category).sum ≤ 8) (hdg : decode K.2.1 pc = .ok (.invokevirtual idx, 3)) (hu : uc ≤ K.2.2.2.2.cells ∧ us ≤ K.2.2.2.2.slots)
    (kk : ev_At E K (pc + 3) L rest (hp_H C') uc us Q) : ev_At E K pc L st (hp_H C) uc us Q := by
  obtain ⟨jf, jv2, ⟨q, hq⟩, z1, z2⟩ := jv
  refine ev_callV hM lk jf jv2 hq rm hn (hp_get hs) hst hW hdg (by rw [z1, z2]; exact hu) (fun r h' hd => ?_)
  have h1 : r = none := hd.1
  have h2 : h' = hp_H C' := hd.2
  rw [h1, h2, z1, z2]
  exact kk
theorem ev_cS {J : mm_KI} {As st : List Value} {idx n : Nat} {C' : Nat → Nat → Int32} {v : Value} (hM : mm_MT E J As (hp_H C) (mm_D (some v) C')) (lk : mm_cl K.1.cls idx J) (js : js_ok J n) (rm : mm_rm K J) (hn : As.length = n) (hst : st = As.reverse ++ rest) (hW : (rest.map fun v => v.category).sum ≤ 8) (hdg : decode K.2.1 pc = .ok (.invokestatic idx, 3)) (hu : uc ≤ K.2.2.2.2.cells ∧ us ≤ K.2.2.2.2.slots)
    (kk : ev_At E K (pc + 3) L (v :: rest) (hp_H C') uc us Q) : ev_At E K pc L st (hp_H C) uc us Q := by
  obtain ⟨jf, js2, z1, z2⟩ := js
  refine ev_callS hM lk jf js2 rm hn hst hW hdg (by rw [z1, z2]; exact hu) (fun r h' hd => ?_)
  have h1 : r = some v := hd.1
  have h2 : h' = hp_H C' := hd.2
  rw [h1, h2, z1, z2]
  exact kk
end EVH
