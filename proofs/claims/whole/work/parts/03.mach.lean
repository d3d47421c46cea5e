/-! The machine over ONE heap of ours. A heap is a list of cells h: cell i lies at address b + i (b: the heap's size where the law begins). A value .ref i names cell i; .retAddr j names one of three old int arrays (0: the script, 1 and 2: the class's two tables). ev_At says: from here the method comes to its end with Q. Each row ev_.. turns ev_At at an instruction into ev_At at the next; mm_MT is a method's contract. -/
abbrev mm_En : Type := Launch × Nat × (Nat → Nat) × va_G × (Nat → ClassId) × (Nat → Nat) × (Nat → Nat → Int32)
abbrev mm_KI : Type := MethodName × ByteArray × Nat × Option FieldType × Room
abbrev mm_E : Type := (Nat × vp_A) ⊕ (Nat × List Value)
abbrev mm_H : Type := List mm_E
def mm_cv (E : mm_En) (v : Value) : Value := match v with
  | .ref i => .ref (E.2.1 + i)
  | .retAddr j => .ref (E.2.2.1 j)
  | .int x => .int x
  | .null => .null
  | .long x => .long x
  | .float x => .float x
  | .double x => .double x
def mm_ca (E : mm_En) (a : vp_A) : vp_A := (a.1, match a.2 with
  | .inr (.inr (.inr (.inr f))) => .inr (.inr (.inr (.inr (fun j => (f j).map (fun i => E.2.1 + i)))))
  | .inl f => .inl f
  | .inr (.inl f) => .inr (.inl f)
  | .inr (.inr (.inl f)) => .inr (.inr (.inl f))
  | .inr (.inr (.inr (.inl f))) => .inr (.inr (.inr (.inl f))))
def mm_ce (E : mm_En) (c : mm_E) : va_E := match c with
  | .inl a => .inl (E.2.2.2.2.1 a.1, mm_ca E a.2)
  | .inr o => .inr (o.1, o.2.map (mm_cv E))
def mm_tys (E : mm_En) : List (ClassId × FieldType) := mm_ty.mapIdx (fun t ty => (E.2.2.2.2.1 t, ty))
def mm_ws (E : mm_En) (h : mm_H) : va_W := h.mapIdx (fun i c => (E.2.1 + i, mm_ce E c))
def mm_A (E : mm_En) : Nat → Prop := fun q => E.2.1 ≤ q
def mm_HW (E : mm_En) (h : mm_H) (H : Heap) : Prop := H.size = E.2.1 + h.length ∧ va_P E.2.2.2.1 vwCl (mm_ws E h) H
theorem mm_cv_cat (E : mm_En) (v : Value) : (mm_cv E v).category = v.category := by cases v <;> rfl
theorem mm_tys_get {E : mm_En} {t : Nat} {ty : FieldType} (h : mm_ty[t]? = some ty) : (mm_tys E)[t]? = some (E.2.2.2.2.1 t, ty) := by
  simp [mm_tys, List.getElem?_mapIdx, h]
theorem mm_ws_get {E : mm_En} {h : mm_H} {i : Nat} {c : mm_E} (hc : h[i]? = some c) : (mm_ws E h)[i]? = some (E.2.1 + i, mm_ce E c) := by
  simp [mm_ws, List.getElem?_mapIdx, hc]
theorem mm_ws_set {E : mm_En} {h : mm_H} {i : Nat} {c : mm_E} : (mm_ws E h).set i (E.2.1 + i, mm_ce E c) = mm_ws E (h.set i c) := by
  apply List.ext_getElem?
  intro j
  simp only [mm_ws, List.getElem?_mapIdx, List.getElem?_set, List.length_mapIdx]
  by_cases hij : i = j
  · subst hij
    by_cases hl : i < h.length <;> simp [hl]
  · simp [hij]
theorem mm_ws_app {E : mm_En} {h : mm_H} {c : mm_E} : mm_ws E (h ++ [c]) = mm_ws E h ++ [(E.2.1 + h.length, mm_ce E c)] := by
  simp [mm_ws]
theorem mm_ws_at {E : mm_En} {h : mm_H} {k : Nat} {q : Nat × va_E} (hk : (mm_ws E h)[k]? = some q) : q.1 = E.2.1 + k := by
  simp only [mm_ws, List.getElem?_mapIdx, Option.map_eq_some_iff] at hk
  obtain ⟨x, -, rfl⟩ := hk
  rfl
theorem mm_ws_D {E : mm_En} {h : mm_H} : va_D (mm_A E) (mm_ws E h) := by
  refine ⟨fun i j p q hi hj hpq => ?_, fun k q hk => ?_⟩
  · have h1 := mm_ws_at hi
    have h2 := mm_ws_at hj
    omega
  · have h1 := mm_ws_at hk
    show E.2.1 ≤ q.1
    omega
theorem mm_ws_lt {E : mm_En} {h : mm_H} {H : Heap} (hH : mm_HW E h H) {k : Nat} {q : Nat × va_E} (hk : (mm_ws E h)[k]? = some q) : q.1 < H.size := (hH.2 k q hk).lt
/-! locals -/
def mm_L (E : mm_En) (ls : Array Slot) (nL : Nat) (L : List (Option Value)) : Prop := ls.size = nL ∧ lv_wf ls ∧ L.length = nL ∧ ∀ (i : Nat) (v : Value), L[i]? = some (some v) → v.category = 1 ∧ ls[i]? = some (.val (mm_cv E v))
def mm_lf (E : mm_En) (L : List (Option Value)) (i : Nat) : Option (Nat × Value) := match L[i]? with
  | some (some v) => some (i, mm_cv E v)
  | _ => none
def mm_lst (E : mm_En) (L : List (Option Value)) : List (Nat × Value) := (List.range L.length).filterMap (mm_lf E L)
theorem mm_lf_some {E : mm_En} {L : List (Option Value)} {i : Nat} {q : Nat × Value} (h : mm_lf E L i = some q) : ∃ v, L[i]? = some (some v) ∧ q = (i, mm_cv E v) := by
  unfold mm_lf at h
  split at h
  · rename_i v hv
    cases h
    exact ⟨v, hv, rfl⟩
  · cases h
theorem mm_lf_of {E : mm_En} {L : List (Option Value)} {i : Nat} {v : Value} (h : L[i]? = some (some v)) : mm_lf E L i = some (i, mm_cv E v) := by
  unfold mm_lf
  rw [h]
theorem mm_L.has {E : mm_En} {ls : Array Slot} {nL : Nat} {L : List (Option Value)} (h : mm_L E ls nL L) : lv_has ls nL (mm_lst E L) := by
  refine ⟨h.1, h.2.1, fun q hq => ?_⟩
  obtain ⟨i, -, hi⟩ := List.mem_filterMap.mp hq
  obtain ⟨v, h1, rfl⟩ := mm_lf_some hi
  exact (h.2.2.2 i v h1).2
theorem mm_lst_mem {E : mm_En} {L : List (Option Value)} {j : Nat} {w : Value} (hj : L[j]? = some (some w)) : (j, mm_cv E w) ∈ mm_lst E L :=
  List.mem_filterMap.mpr ⟨j, List.mem_range.mpr (List.getElem?_eq_some_iff.mp hj).1, mm_lf_of hj⟩
theorem mm_L.set {E : mm_En} {ls ls' : Array Slot} {nL i : Nat} {L : List (Option Value)} {v : Value} (h : mm_L E ls nL L) (hc : v.category = 1) (h' : lv_has ls' nL ((i, mm_cv E v) :: (mm_lst E L).filter (fun q => !(q.1 == i) && !(q.1 + 1 == i && q.2.category == 2)))) : mm_L E ls' nL (L.set i (some v)) := by
  refine ⟨h'.1, h'.2.1, by rw [List.length_set]; exact h.2.2.1, fun j w hj => ?_⟩
  by_cases hij : i = j
  · subst hij
    rw [List.getElem?_set, if_pos rfl] at hj
    have hw : w = v := by
      split at hj
      · exact ((Option.some.inj (Option.some.inj hj)).symm)
      · cases hj
    subst hw
    exact ⟨hc, h'.2.2 (i, mm_cv E w) List.mem_cons_self⟩
  · rw [List.getElem?_set, if_neg hij] at hj
    obtain ⟨c1, c2⟩ := h.2.2.2 j w hj
    refine ⟨c1, h'.2.2 (j, mm_cv E w) (List.mem_cons_of_mem _ (List.mem_filter.mpr ⟨mm_lst_mem hj, ?_⟩))⟩
    have hcat : (mm_cv E w).category = 1 := by rw [mm_cv_cat]; exact c1
    have hne : ¬ j = i := fun z => hij z.symm
    simp [hcat, hne]
/-! what a method knows of the tables, and of the old arrays -/
def mm_nw (w : Jvm.Cond) : Bool := match w with
  | .fieldLinkNest .. => true
  | .methodLinkNest .. => true
  | .arrayOver (.object _) => true
  | _ => false
def mm_G (E : mm_En) (U : State) : Prop := va_K E.2.2.2.1 vwCl (mm_tys E) U ∧ ∀ w ∈ lw_tbl, mm_nw w = true → va_Nw w U
theorem mm_G.warm {E : mm_En} {s U : State} (hW : s.WarmedH U.vm) (h : mm_G E s) : mm_G E U := by
  refine ⟨va_K.moved hW.alike h.1, fun w hw hn => ?_⟩
  have hz := h.2 w hw hn
  cases w with
  | fieldLinkNest a i b n d h => exact va_Nw.warmF hW hz
  | methodLinkNest a i x h => exact va_Nw.warmM hW hz
  | arrayOver t =>
    cases t with
    | object C => exact va_AO.moved hW.alike hz
    | _ => exact Bool.noConfusion (show false = true from hn)
  | _ => exact Bool.noConfusion (show false = true from hn)
theorem mm_G.same {E : mm_En} {s U : State} (hv : s.vm = U.vm) (h : mm_G E s) : mm_G E U := by
  refine ⟨va_K.moved (by rw [hv]; exact Vm.Alike.refl U.vm) h.1, fun w hw hn => ?_⟩
  have hz := h.2 w hw hn
  cases w with
  | fieldLinkNest a i b n d h => exact va_Nw.same rfl hv hz
  | methodLinkNest a i x h => exact va_Nw.same rfl hv hz
  | arrayOver t =>
    cases t with
    | object C => exact va_AO.moved (by rw [hv]; exact Vm.Alike.refl U.vm) hz
    | _ => exact Bool.noConfusion (show false = true from hn)
  | _ => exact Bool.noConfusion (show false = true from hn)
def mm_X (E : mm_En) (U : State) (H : Heap) : Prop := (∀ j : Nat, j < 3 → va_T .int (E.2.2.1 j) (E.2.2.2.2.2.1 j) (fun i => .int (E.2.2.2.2.2.2 j i)) (mm_A E) U H) ∧ va_Z "SnapshotFiles" "FEWEST_NUMBERS" "[I" (.ref (E.2.2.1 1)) (mm_A E) U H ∧ va_Z "SnapshotFiles" "MOST_NUMBERS" "[I" (.ref (E.2.2.1 2)) (mm_A E) U H
theorem mm_X.go {E : mm_En} {s U : State} {H : Heap} {locs : List Loc} (h : mm_X E s s.heap) (hS : va_S (mm_A E) s.heap H locs) (hvm : s.vm.Alike U.vm) : mm_X E U H :=
  ⟨fun j hj => va_T.moved hvm ((h.1 j hj).kept hS.2.1), va_Z.moved hvm (h.2.1.kept hS.2.1), va_Z.moved hvm (h.2.2.kept hS.2.1)⟩
theorem mm_X.same {E : mm_En} {s U : State} {H : Heap} (h : mm_X E s H) (hv : s.vm = U.vm) : mm_X E U H := by
  have ha : s.vm.Alike U.vm := by rw [hv]; exact Vm.Alike.refl U.vm
  exact ⟨fun j hj => va_T.moved ha (h.1 j hj), va_Z.moved ha h.2.1, va_Z.moved ha h.2.2⟩
def mm_wd (K : mm_KI) : List Jvm.Cond := Jvm.Cond.code K.1 K.2.1 K.2.2.1 K.2.2.2.1 :: lw_tbl.filter goodWord
def mm_F (E : mm_En) (K : mm_KI) (p : Program) (s : State) (m : MethodId) (args : Array Value) (meth : Method) (c : Code) : Prop :=
  p.tables.exec = Jvm.exec ∧ c.code = K.2.1 ∧ c.maxLocals = K.2.2.1 ∧ s.vm.findClass K.1.cls = some m.cls ∧ (∀ w ∈ lw_tbl.filter goodWord, w.before args s = true) ∧ (K.1.name = "<init>" → meth.name = "<init>") ∧ mm_G E s ∧ mm_X E s s.heap ∧ E.2.1 ≤ s.heap.size
def mm_rk (v : Value) : Bool := match v with
  | .ref _ => true
  | .null => true
  | .retAddr _ => true
  | _ => false
theorem mm_rk_rf (r : Option Nat) : mm_rk (va_rf r) = true := by cases r <;> rfl
theorem mm_cv_rk {E : mm_En} {v : Value} (h : mm_rk v = true) : mm_cv E v = .null ∨ ∃ a, mm_cv E v = .ref a := by
  cases v with
  | ref i => exact Or.inr ⟨_, rfl⟩
  | null => exact Or.inl rfl
  | retAddr j => exact Or.inr ⟨_, rfl⟩
  | _ => exact Bool.noConfusion (show false = true from h)
theorem mm_rk_cat {v : Value} (h : mm_rk v = true) : v.category = 1 := by
  cases v with
  | ref i => rfl
  | null => rfl
  | retAddr j => rfl
  | _ => exact Bool.noConfusion (show false = true from h)
/-- where a method returns, and with what -/
def mm_ri (K : mm_KI) (pc : Nat) (r : Option Value) : Prop := match r with
  | none => decode K.2.1 pc = .ok (.return_, 1) ∧ K.2.2.2.1 = none
  | some (.int v) => decode K.2.1 pc = .ok (.ireturn, 1) ∧ ∃ ty, K.2.2.2.1 = some ty ∧ narrow ty (.int v) = .int v
  | some w => decode K.2.1 pc = .ok (.areturn, 1) ∧ (∃ n, K.2.2.2.1 = some (.object n)) ∧ mm_rk w = true
def mm_R (E : mm_En) (K : mm_KI) (Q : Option Value → mm_H → Prop) (p : Program) (e : Env) (s : State) (m : MethodId) (args : Array Value) (below : List Frame) (meth : Method) (c : Code) (Z : State → Prop) : Prop :=
  ∀ (H : Heap) (locs : List Loc) (pc : Nat) (ls : Array Slot) (r : Option Value) (h' : mm_H), Q r h' → mm_HW E h' H → va_S (mm_A E) s.heap H locs → mm_ri K pc r →
    W p E.1 e K.2.2.2.2 s m args below meth c H locs K.2.2.2.2.cells K.2.2.2.2.slots Z (F0 m pc ls (r.map (mm_cv E)).toList)
def ev_At (E : mm_En) (K : mm_KI) (pc : Nat) (L : List (Option Value)) (st : List Value) (h : mm_H) (uc us : Nat) (Q : Option Value → mm_H → Prop) : Prop :=
  ∀ (p : Program) (e : Env) (s : State) (m : MethodId) (args : Array Value) (below : List Frame) (meth : Method) (c : Code) (Z : State → Prop) (H : Heap) (locs : List Loc) (ls : Array Slot),
    mm_F E K p s m args meth c → mm_R E K Q p e s m args below meth c Z → mm_HW E h H → va_S (mm_A E) s.heap H locs → mm_L E ls K.2.2.1 L →
      W p E.1 e K.2.2.2.2 s m args below meth c H locs uc us Z (F0 m pc ls (st.map (mm_cv E)))
def mm_QQ (E : mm_En) (Q : Option Value → mm_H → Prop) : Array Value → State → Outcome → State → Prop := fun _ st oc t => (∃ (r : Option Value) (h' : mm_H), Q r h' ∧ oc = .returned (r.map (mm_cv E)) ∧ mm_HW E h' t.heap) ∧ va_F (mm_A E) st t
def mm_PP (E : mm_En) (h : mm_H) (U : State) : Prop := mm_HW E h U.heap ∧ mm_G E U ∧ mm_X E U U.heap
/-- a method's contract: from the heap h, with these arguments, it returns, and Q holds of its answer and the heap -/
def mm_MT (E : mm_En) (K : mm_KI) (av : List Value) (h : mm_H) (Q : Option Value → mm_H → Prop) : Prop :=
  Met E.1 K.1 (mm_wd K) K.2.2.2.2 (va_Pc (av.map (mm_cv E)) (mm_PP E h)) (mm_QQ E Q) K.2.2.2.2.cells K.2.2.2.2.slots (mm_A E)
theorem mm_ret {E : mm_En} {K : mm_KI} {Q : Option Value → mm_H → Prop} {p : Program} {e : Env} {s : State} {m : MethodId} {args : Array Value} {below : List Frame} {meth : Method} {c : Code}
    (hx : p.tables.exec = Jvm.exec) (hb : c.code = K.2.1) (hr : meth.sig.returnType = K.2.2.2.1) (hlocks : meth.locks = false) :
    mm_R E K Q p e s m args below meth c (MQ below (mm_QQ E Q) args s K.2.2.2.2.cells K.2.2.2.2.slots (mm_A E)) := by
  intro H locs pc ls r h' hq hH hS hri
  have hq' : ∀ t : State, t.heap = H → s.WarmedH t.vm → mm_QQ E Q args s (.returned (r.map (mm_cv E))) t := fun t ht _ => ⟨⟨r, h', hq, rfl, by rw [ht]; exact hH⟩, hS.F ht⟩
  cases r with
  | none =>
    obtain ⟨h1, h2⟩ := hri
    exact W.vret hx hb (hr.trans h2) hq' hS.2.2 h1 hlocks
  | some w =>
    cases w with
    | int v =>
      obtain ⟨h1, ty, h2, h3⟩ := hri
      exact W.zret hx hb (hr.trans h2) h3 hq' hS.2.2 h1 hlocks
    | ref i =>
      obtain ⟨h1, ⟨n, h2⟩, h3⟩ := hri
      exact W.aret hx hb (hr.trans h2) (Or.inl ⟨n, rfl⟩) (Or.inr ⟨_, rfl⟩) hq' hS.2.2 h1 hlocks
    | null =>
      obtain ⟨h1, ⟨n, h2⟩, h3⟩ := hri
      exact W.aret hx hb (hr.trans h2) (Or.inl ⟨n, rfl⟩) (Or.inl rfl) hq' hS.2.2 h1 hlocks
    | retAddr j =>
      obtain ⟨h1, ⟨n, h2⟩, h3⟩ := hri
      exact W.aret hx hb (hr.trans h2) (Or.inl ⟨n, rfl⟩) (Or.inr ⟨_, rfl⟩) hq' hS.2.2 h1 hlocks
    | _ =>
      obtain ⟨h1, ⟨n, h2⟩, h3⟩ := hri
      exact Bool.noConfusion (show false = true from h3)
def mm_L0 (av : List Value) (n : Nat) : List (Option Value) := av.map some ++ List.replicate (n - av.length) none
theorem mm_sl {E : mm_En} (av : List Value) (hc : ∀ v ∈ av, v.category = 1) : lg_sl (av.map (mm_cv E)) = av.map (fun v => Slot.val (mm_cv E v)) := by
  induction av with
  | nil => rfl
  | cons v t ih =>
    have h1 : (mm_cv E v).category = 1 := by rw [mm_cv_cat]; exact hc v List.mem_cons_self
    have h2 := ih (fun w hw => hc w (List.mem_cons_of_mem _ hw))
    unfold lg_sl at h2 ⊢
    simp only [List.map_cons, List.flatMap_cons, h1]
    rw [h2]
    rfl
theorem mm_lvargs (i : Nat) (av : List Value) (hc : ∀ v ∈ av, v.category = 1) : ∀ (j : Nat) (v : Value), av[j]? = some v → (i + j, v) ∈ lv_args i av := by
  induction av generalizing i with
  | nil => intro j v h; simp at h
  | cons a t ih =>
    intro j v h
    have h1 : a.category = 1 := hc a List.mem_cons_self
    have hne : ¬ a.category = 2 := by omega
    simp only [lv_args, hne, if_false]
    cases j with
    | zero =>
      simp at h
      subst h
      exact List.mem_cons_self
    | succ j =>
      simp at h
      have := ih (i + 1) (fun w hw => hc w (List.mem_cons_of_mem _ hw)) j v h
      rw [show i + (j + 1) = i + 1 + j by omega]
      exact List.mem_cons_of_mem _ this
theorem mm_entry {E : mm_En} (av : List Value) (n : Nat) (hc : ∀ v ∈ av, v.category = 1) (hl : av.length ≤ n) :
    mm_L E ((lg_sl (av.map (mm_cv E)) ++ List.replicate (n - (lg_sl (av.map (mm_cv E))).length) Slot.unset).toArray) n (mm_L0 av n) := by
  have hlen : (lg_sl (av.map (mm_cv E))).length = av.length := by rw [mm_sl av hc, List.length_map]
  have hh := lv_entry (av.map (mm_cv E)) (n := n) (by rw [hlen]; exact hl)
  refine ⟨hh.1, hh.2.1, by simp [mm_L0]; omega, fun i v hv => ?_⟩
  have hv2 : av[i]? = some v := by
    unfold mm_L0 at hv
    by_cases hi : i < (av.map some).length
    · rw [List.getElem?_append_left hi, List.getElem?_map] at hv
      cases ha : av[i]? with
      | none => rw [ha] at hv; cases hv
      | some w => rw [ha] at hv; simp at hv; rw [hv]
    · rw [List.getElem?_append_right (by omega), List.getElem?_replicate] at hv
      split at hv <;> cases hv
  refine ⟨hc v (List.mem_of_getElem? hv2), ?_⟩
  have hm := mm_lvargs 0 (av.map (mm_cv E)) (fun w hw => by
    obtain ⟨u, hu, rfl⟩ := List.mem_map.mp hw
    rw [mm_cv_cat]; exact hc u hu) i (mm_cv E v) (by rw [List.getElem?_map, hv2]; rfl)
  rw [Nat.zero_add] at hm
  exact hh.2.2 _ hm
theorem mm_mt {E : mm_En} {K : mm_KI} {av : List Value} {h : mm_H} {Q : Option Value → mm_H → Prop} (hy : plainName K.1.cls = true) (hc : ∀ v ∈ av, v.category = 1) (hl : av.length ≤ K.2.2.1)
    (k : ev_At E K 0 (mm_L0 av K.2.2.1) [] h 0 0 Q) : mm_MT E K av h Q := by
  refine Met.ofW (cc := K.2.1) (maxL := K.2.2.1) (ret := K.2.2.2.1) hy rfl ?_
  intro p e s m args below meth c s₁ B hml hv
  obtain ⟨rfl, hH, hG, hX⟩ := hv
  rw [lg_entry_eq]
  have hts := atoms_spec (ws := mm_wd K) B.pre
  refine k p e s m _ below meth c _ s.heap [] _ ⟨B.exec, B.bytes, hml, findClass_of_methodNamed B.named, fun w hw => hts w (List.mem_cons_of_mem _ hw), fun hn => ((name_of_methodNamed B.named B.method).1.trans hn), hG, hX, ?_⟩ (mm_ret B.exec B.bytes B.returns B.notSynchronized) hH va_S.rf (mm_entry av K.2.2.1 hc hl)
  rw [hH.1]
  exact Nat.le_add_right _ _
theorem mm_MT.mono {E : mm_En} {K : mm_KI} {av : List Value} {h : mm_H} {Q Q' : Option Value → mm_H → Prop} {h0 : mm_H} (e : h0 = h) (k : mm_MT E K av h Q) (hQ : Q = Q') : mm_MT E K av h0 Q' := by
  subst e
  subst hQ
  exact k
theorem mm_mtL {E : mm_En} {K : mm_KI} {av : List Value} {h : mm_H} {Q : Option Value → mm_H → Prop} {L : List (Option Value)} (hy : plainName K.1.cls = true) (hc : av.all (fun v => v.category == 1) = true) (hl : av.length ≤ K.2.2.1) (hL : mm_L0 av K.2.2.1 = L)
    (k : ev_At E K 0 L [] h 0 0 Q) : mm_MT E K av h Q := by
  subst hL
  exact mm_mt hy (fun v hv => by simpa using List.all_eq_true.mp hc v hv) hl k
