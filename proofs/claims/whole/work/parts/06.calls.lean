/-! New cells and calls. -/
/-- what can be made by the instruction new with this pool number; fs: its fields at first -/
def mm_nc (own : String) (idx ci : Nat) (fs : List Value) : Prop := ∃ q : vw_C, vwCl[ci]? = some q ∧ Jvm.Cond.classLink own idx q.1 ∈ lw_tbl ∧ Jvm.Cond.instantiable q.1 q.2.2 ∈ lw_tbl ∧ Jvm.Cond.initialized q.1 ∈ lw_tbl ∧ q.2.2 = fs.length ∧ (∀ E : mm_En, fs.map (mm_cv E) = fs) ∧ ∃ ty : Nat → FieldType, (∀ k, k < q.2.2 → parseFieldDescriptor (q.2.1 k).2.2.1 = some (ty k)) ∧ ∀ j, j < q.2.2 → defaultValue (ty j) = vp_V fs j
def mm_cl (own : String) (idx : Nat) (J : mm_KI) : Prop := Jvm.Cond.methodLink own idx J.1 ∈ lw_tbl ∨ ∃ host : String, Jvm.Cond.methodLinkNest own idx J.1 host ∈ lw_tbl
def mm_jf (J : mm_KI) (n : Nat) : Prop := Jvm.Cond.code J.1 J.2.1 J.2.2.1 J.2.2.2.1 ∈ lw_tbl ∧ Jvm.Cond.initialized J.1.cls ∈ lw_tbl ∧ (J.1.cls ≠ "java/lang/invoke/MethodHandle" ∧ J.1.cls ≠ "java/lang/invoke/VarHandle" ∧ (parseMethodDescriptor J.1.desc).map (fun d => d.parameters.length) = some n)
def mm_rm (K J : mm_KI) : Prop := J.2.2.2.2.frames + 1 ≤ K.2.2.2.2.frames ∧ 8 + (J.2.2.1 + 11) + J.2.2.2.2.locals ≤ K.2.2.2.2.locals
theorem mm_good {J : mm_KI} (h : Jvm.Cond.code J.1 J.2.1 J.2.2.1 J.2.2.2.1 ∈ lw_tbl) : GoodIn (lw_tbl.filter goodWord) (mm_wd J) := by
  intro w hw
  rcases List.mem_cons.mp hw with rfl | hw
  · exact ⟨List.mem_filter.mpr ⟨h, rfl⟩, Or.inl rfl⟩
  · exact ⟨hw, good_of_word (List.mem_filter.mp hw).2⟩
theorem mm_pre {E : mm_En} {h : mm_H} {s : State} {H : Heap} {locs : List Loc} {As : List Value} (hG : mm_G E s) (hX : mm_X E s s.heap) (hb : E.2.1 ≤ s.heap.size) (hH : mm_HW E h H) (hS : va_S (mm_A E) s.heap H locs) :
    PreS s H (va_Pc (As.map (mm_cv E)) (mm_PP E h)) (As.map (mm_cv E)) := by
  refine ⟨fun a U g mk q => ⟨q.1, q.2.1, mm_G.same (s := U) (U := U.calling g mk a) rfl q.2.2.1, mm_X.same (s := U) (U := U.calling g mk a) q.2.2.2 rfl⟩, fun U hU hW => ⟨rfl, ?_, hG.warm hW, ?_⟩⟩
  · rw [hU]; exact hH
  · rw [hU]; exact hX.go hS hW.alike
section EVC
variable {p : Program} {l : Launch} {e : Env} {R : Room} {s : State} {m : MethodId} {args : Array Value} {below : List Frame} {meth : Method} {c : Code} {H : Heap} {locs : List Loc} {cells slots : Nat} {Z : State → Prop}
/-- behind a call -/
theorem mm_go {E : mm_En} {Qm : Option Value → mm_H → Prop} {pc mc ms : Nat} {ls : Array Slot} {st0 rest : List Value} {a : Array Value} (hr : va_Run p l e R s m args below meth c H locs cells slots mc ms (F0 m pc ls st0) rest (mm_QQ E Qm a) (mm_A E)) (hS : va_S (mm_A E) s.heap H locs)
    (kk : ∀ (r : Option Value) (h' : mm_H) (H1 : Heap) (locs1 : List Loc), Qm r h' → mm_HW E h' H1 → va_S (mm_A E) s.heap H1 locs1 → W p l e R s m args below meth c H1 locs1 (cells + mc) (slots + ms) Z (F0 m (pc + 3) ls ((r.map (mm_cv E)).toList ++ rest))) :
    W p l e R s m args below meth c H locs cells slots Z (F0 m pc ls st0) := by
  intro T hT X
  obtain ⟨v, st₀, t, T', L, h0, X', hL, e1, e2, ⟨⟨r, h', hq, hv, hw⟩, hz, hk⟩, st⟩ := hr T hT X
  cases hv
  rw [h0] at hz hk
  obtain ⟨t2, a1, b1⟩ := kk r h' T'.heap (locs ++ L) hq (by rw [e1]; exact hw)
    ⟨Nat.le_trans hS.1 (by rw [e1]; exact hz), fun q h1 h2 => by rw [e1, hk q (Nat.lt_of_lt_of_le h1 hS.1) h2]; exact hS.2.1 q h1 h2, fun q hq' => by
      rcases List.mem_append.mp hq' with h | h
      · exact hS.2.2 q h
      · exact hL q h⟩ T' rfl X'
  exact ⟨t2, st t2 a1, b1⟩
end EVC
section EVN
variable {E : mm_En} {K : mm_KI} {pc : Nat} {L : List (Option Value)} {rest : List Value} {h : mm_H} {uc us : Nat} {Q : Option Value → mm_H → Prop}
theorem mm_tl (E : mm_En) (r : Option Value) (rest : List Value) : (r.map (mm_cv E)).toList ++ rest.map (mm_cv E) = (r.toList ++ rest).map (mm_cv E) := by cases r <;> rfl
theorem ev_callS {J : mm_KI} {As st : List Value} {idx n : Nat} {Qm : Option Value → mm_H → Prop} (hM : mm_MT E J As h Qm) (lk : mm_cl K.1.cls idx J) (jf : mm_jf J n) (js : Jvm.Cond.static J.1 ∈ lw_tbl) (rm : mm_rm K J) (hn : As.length = n) (hst : st = As.reverse ++ rest) (hW : (rest.map fun v => v.category).sum ≤ 8) (hdg : decode K.2.1 pc = .ok (.invokestatic idx, 3)) (hc : uc + J.2.2.2.2.cells ≤ K.2.2.2.2.cells ∧ us + J.2.2.2.2.slots ≤ K.2.2.2.2.slots)
    (kk : ∀ r h', Qm r h' → ev_At E K (pc + 3) L (r.toList ++ rest) h' (uc + J.2.2.2.2.cells) (us + J.2.2.2.2.slots) Q) : ev_At E K pc L st h uc us Q := by
  subst hst
  intro p e s m args below meth c Z H locs ls F R hH hS hL
  have F0' := F
  obtain ⟨hx, hb, hml, hown, hts, hin, hG, hX, hbs⟩ := F
  have ht : ∀ w ∈ lw_tbl, goodWord w = true → w.before args s = true := fun w h1 h2 => hts w (List.mem_filter.mpr ⟨h1, h2⟩)
  have hstk : (F0 m pc ls ((As.reverse ++ rest).map (mm_cv E))).stack = (As.map (mm_cv E)).reverse ++ rest.map (mm_cv E) := by
    show (As.reverse ++ rest).map (mm_cv E) = _
    rw [List.map_append, List.map_reverse]
  have hW' : 2 * (F0 m pc ls ((As.reverse ++ rest).map (mm_cv E))).monitorRoom + ((rest.map (mm_cv E)).map fun v => v.category).sum ≤ 8 := lv_room (by rw [mm_sum]; exact hW)
  have hlen : (As.map (mm_cv E)).length = n := by rw [List.length_map]; exact hn
  have run : va_Run p E.1 e K.2.2.2.2 s m args below meth c H locs uc us J.2.2.2.2.cells J.2.2.2.2.slots (F0 m pc ls ((As.reverse ++ rest).map (mm_cv E))) (rest.map (mm_cv E)) (mm_QQ E Qm (As.map (mm_cv E)).toArray) (mm_A E) := by
    rcases lk with lk | ⟨host, lk⟩
    · exact va_runS (Ts := lw_tbl.filter goodWord) (own := K.1.cls) (nL := K.2.2.1) (cc := K.2.1) ⟨hx, hb, hml, hown, hts⟩ hM ⟨callB_of n hts (mm_good jf.1) rfl rfl rfl (ht _ jf.2.1 rfl) (ht _ lk rfl) jf.2.2 rm, ht _ js rfl⟩ (mm_pre hG hX hbs hH hS) rfl hlen hL.1 hstk hW' hdg hc
    · exact va_runSN (Ts := lw_tbl.filter goodWord) (own := K.1.cls) (nL := K.2.2.1) (cc := K.2.1) ⟨hx, hb, hml, hown, hts⟩ hM ⟨va_cnB n hts (mm_good jf.1) rfl rfl rfl (hG.2 _ lk rfl) (ht _ jf.2.1 rfl) jf.2.2 rm, ht _ js rfl, trivial⟩ (mm_pre hG hX hbs hH hS) rfl hlen hL.1 hstk hW' hdg hc
  refine mm_go run hS (fun r h' H1 locs1 hq hH1 hS1 => ?_)
  rw [mm_tl]
  exact kk r h' hq p e s m args below meth c Z H1 locs1 ls F0' R hH1 hS1 hL
theorem ev_callV {J : mm_KI} {As st : List Value} {idx n i ci : Nat} {q : vw_C} {fs : List Value} {Qm : Option Value → mm_H → Prop} (hM : mm_MT E J (.ref i :: As) h Qm) (lk : mm_cl K.1.cls idx J) (jf : mm_jf J n) (jv : Jvm.Cond.instanceMethod J.1 ∈ lw_tbl ∧ Jvm.Cond.selects J.1.cls J.1 J.1 ∈ lw_tbl) (hq : vwCl[ci]? = some q ∧ q.1 = J.1.cls) (rm : mm_rm K J) (hn : As.length = n) (hi : h[i]? = some (.inr (ci, fs))) (hst : st = As.reverse ++ .ref i :: rest) (hW : (rest.map fun v => v.category).sum ≤ 8) (hdg : decode K.2.1 pc = .ok (.invokevirtual idx, 3)) (hc : uc + J.2.2.2.2.cells ≤ K.2.2.2.2.cells ∧ us + J.2.2.2.2.slots ≤ K.2.2.2.2.slots)
    (kk : ∀ r h', Qm r h' → ev_At E K (pc + 3) L (r.toList ++ rest) h' (uc + J.2.2.2.2.cells) (us + J.2.2.2.2.slots) Q) : ev_At E K pc L st h uc us Q := by
  subst hst
  intro p e s m args below meth c Z H locs ls F R hH hS hL
  have F0' := F
  obtain ⟨hx, hb, hml, hown, hts, hin, hG, hX, hbs⟩ := F
  have ht : ∀ w ∈ lw_tbl, goodWord w = true → w.before args s = true := fun w h1 h2 => hts w (List.mem_filter.mpr ⟨h1, h2⟩)
  have hstk : (F0 m pc ls ((As.reverse ++ .ref i :: rest).map (mm_cv E))).stack = (As.map (mm_cv E)).reverse ++ .ref (E.2.1 + i) :: rest.map (mm_cv E) := by
    show (As.reverse ++ .ref i :: rest).map (mm_cv E) = _
    rw [List.map_append, List.map_reverse]
    rfl
  have hW' : 2 * (F0 m pc ls ((As.reverse ++ .ref i :: rest).map (mm_cv E))).monitorRoom + ((rest.map (mm_cv E)).map fun v => v.category).sum ≤ 8 := lv_room (by rw [mm_sum]; exact hW)
  have hlen : (As.map (mm_cv E)).length = n := by rw [List.length_map]; exact hn
  have he : (mm_ws E h)[i]? = some (E.2.1 + i, .inr (ci, fs.map (mm_cv E))) := mm_ws_get hi
  have hrv := va_recv hG.1 hH.2 hq.1 he
  rw [hq.2] at hrv
  have pre := mm_pre (As := .ref i :: As) hG hX hbs hH hS
  have preV : PreV s H J.1.cls (E.2.1 + i) (va_Pc ((.ref i :: As).map (mm_cv E)) (mm_PP E h)) (As.map (mm_cv E)) := ⟨pre.1, hrv, pre.2⟩
  have run : va_Run p E.1 e K.2.2.2.2 s m args below meth c H locs uc us J.2.2.2.2.cells J.2.2.2.2.slots (F0 m pc ls ((As.reverse ++ .ref i :: rest).map (mm_cv E))) (rest.map (mm_cv E)) (mm_QQ E Qm (Value.ref (E.2.1 + i) :: As.map (mm_cv E)).toArray) (mm_A E) := by
    rcases lk with lk | ⟨host, lk⟩
    · exact va_runV (Ts := lw_tbl.filter goodWord) (own := K.1.cls) (nL := K.2.2.1) (cc := K.2.1) ⟨hx, hb, hml, hown, hts⟩ hM ⟨callB_of n hts (mm_good jf.1) rfl rfl rfl (ht _ jf.2.1 rfl) (ht _ lk rfl) jf.2.2 rm, ht _ jv.1 rfl, ht _ jv.2 rfl⟩ preV rfl hlen hL.1 hstk hW' hdg hc
    · exact va_runVN (Ts := lw_tbl.filter goodWord) (own := K.1.cls) (nL := K.2.2.1) (cc := K.2.1) ⟨hx, hb, hml, hown, hts⟩ hM ⟨va_cnB n hts (mm_good jf.1) rfl rfl rfl (hG.2 _ lk rfl) (ht _ jf.2.1 rfl) jf.2.2 rm, ht _ jv.1 rfl, ht _ jv.2 rfl⟩ preV rfl hlen hL.1 hstk hW' hdg hc
  refine mm_go run hS (fun r h' H1 locs1 hq hH1 hS1 => ?_)
  rw [mm_tl]
  exact kk r h' hq p e s m args below meth c Z H1 locs1 ls F0' R hH1 hS1 hL
theorem ev_callI {J : mm_KI} {As st : List Value} {idx n i : Nat} {Qm : Option Value → mm_H → Prop} (hM : mm_MT E J (.ref i :: As) h Qm) (hret : J.2.2.2.1 = none) (lk : mm_cl K.1.cls idx J) (jf : mm_jf J n) (ji : J.1.name = "<init>" ∧ Jvm.Cond.instanceMethod J.1 ∈ lw_tbl) (rm : mm_rm K J) (hn : As.length = n) (hst : st = As.reverse ++ .ref i :: rest) (hW : (rest.map fun v => v.category).sum ≤ 8) (hdg : decode K.2.1 pc = .ok (.invokespecial idx, 3)) (hc : uc + J.2.2.2.2.cells ≤ K.2.2.2.2.cells ∧ us + J.2.2.2.2.slots ≤ K.2.2.2.2.slots)
    (kk : ∀ r h', Qm r h' → ev_At E K (pc + 3) L (r.toList ++ rest) h' (uc + J.2.2.2.2.cells) (us + J.2.2.2.2.slots) Q) : ev_At E K pc L st h uc us Q := by
  subst hst
  intro p e s m args below meth c Z H locs ls F R hH hS hL
  have F0' := F
  obtain ⟨hx, hb, hml, hown, hts, hin, hG, hX, hbs⟩ := F
  have ht : ∀ w ∈ lw_tbl, goodWord w = true → w.before args s = true := fun w h1 h2 => hts w (List.mem_filter.mpr ⟨h1, h2⟩)
  have hstk : (F0 m pc ls ((As.reverse ++ .ref i :: rest).map (mm_cv E))).stack = (As.map (mm_cv E)).reverse ++ .ref (E.2.1 + i) :: rest.map (mm_cv E) := by
    show (As.reverse ++ .ref i :: rest).map (mm_cv E) = _
    rw [List.map_append, List.map_reverse]
    rfl
  have hW' : 2 * (F0 m pc ls ((As.reverse ++ .ref i :: rest).map (mm_cv E))).monitorRoom + ((rest.map (mm_cv E)).map fun v => v.category).sum ≤ 8 := lv_room (by rw [mm_sum]; exact hW)
  have hlen : (As.map (mm_cv E)).length = n := by rw [List.length_map]; exact hn
  have pre := mm_pre (As := .ref i :: As) hG hX hbs hH hS
  have hgood := mm_good jf.1
  have hcode := jf.1
  have hw : mm_wd J = Jvm.Cond.code J.1 J.2.1 J.2.2.1 none :: lw_tbl.filter goodWord := by rw [← hret]; rfl
  have run : va_Run p E.1 e K.2.2.2.2 s m args below meth c H locs uc us J.2.2.2.2.cells J.2.2.2.2.slots (F0 m pc ls ((As.reverse ++ .ref i :: rest).map (mm_cv E))) (rest.map (mm_cv E)) (mm_QQ E Qm (Value.ref (E.2.1 + i) :: As.map (mm_cv E)).toArray) (mm_A E) := by
    rcases lk with lk | ⟨host, lk⟩
    · exact va_runI (Ts := lw_tbl.filter goodWord) (own := K.1.cls) (nL := K.2.2.1) (cc := K.2.1) ⟨hx, hb, hml, hown, hts⟩ hM ⟨callB_of n hts hgood hw rfl rfl (ht _ jf.2.1 rfl) (ht _ lk rfl) jf.2.2 rm, ji.1, ht _ ji.2 rfl⟩ pre rfl hlen hL.1 hstk hW' hdg hc
    · exact va_runIN (Ts := lw_tbl.filter goodWord) (own := K.1.cls) (nL := K.2.2.1) (cc := K.2.1) ⟨hx, hb, hml, hown, hts⟩ hM ⟨va_cnB n hts hgood hw rfl rfl (hG.2 _ lk rfl) (ht _ jf.2.1 rfl) jf.2.2 rm, ji.1, ht _ ji.2 rfl⟩ pre rfl hlen hL.1 hstk hW' hdg hc
  refine mm_go run hS (fun r h' H1 locs1 hq hH1 hS1 => ?_)
  rw [mm_tl]
  exact kk r h' hq p e s m args below meth c Z H1 locs1 ls F0' R hH1 hS1 hL
theorem ev_objI {i idx : Nat} (lk : Jvm.Cond.methodLink K.1.cls idx Lib.objectInit ∈ lw_tbl) (hin : Jvm.Cond.instanceMethod Lib.objectInit ∈ lw_tbl) (hcd : Jvm.Cond.code Lib.objectInit ⟨#[0xb1]⟩ 1 none ∈ lw_tbl) (hdg : decode K.2.1 pc = .ok (.invokespecial idx, 3)) (hf : 1 ≤ K.2.2.2.2.frames) (hl : (rest.map fun v => v.category).sum + 12 ≤ K.2.2.2.2.locals) (kk : ev_At E K (pc + 3) L rest h uc us Q) : ev_At E K pc L (.ref i :: rest) h uc us Q := by
  intro p e s m args below meth c Z H locs ls F R hH hS hL
  have ht : ∀ w ∈ lw_tbl, goodWord w = true → w.before args s = true := fun w h1 h2 => F.2.2.2.2.1 w (List.mem_filter.mpr ⟨h1, h2⟩)
  refine W.objInit (a := E.2.1 + i) (rest := rest.map (mm_cv E)) F.1 F.2.1 F.2.2.2.1 (ht _ lk rfl) (ht _ hin rfl) (ht _ hcd rfl) rfl (by rw [F.2.2.1]; exact hL.1) rfl hdg hf ?_ (kk p e s m args below meth c Z H locs ls F R hH hS hL)
  show 2 * 0 + ((rest.map (mm_cv E)).map fun v => v.category).sum + 12 ≤ _
  rw [mm_sum]
  omega
theorem ev_mmax {idx : Nat} {x y : Int32} (lk : Jvm.Cond.methodLink K.1.cls idx Lib.Math.max.name ∈ lw_tbl) (hst : Jvm.Cond.static Lib.Math.max.name ∈ lw_tbl) (hini : Jvm.Cond.initialized "java/lang/Math" ∈ lw_tbl) (hcd : Jvm.Cond.code Lib.Math.max.name Lib.Math.max.code 2 (some .int) ∈ lw_tbl) (hdg : decode K.2.1 pc = .ok (.invokestatic idx, 3)) (hf : 1 ≤ K.2.2.2.2.frames) (hl : (rest.map fun v => v.category).sum + 13 ≤ K.2.2.2.2.locals) (hc : uc ≤ K.2.2.2.2.cells) (hs : us ≤ K.2.2.2.2.slots) (kk : ev_At E K (pc + 3) L (.int (if x < y then y else x) :: rest) h uc us Q) : ev_At E K pc L (.int y :: .int x :: rest) h uc us Q := by
  intro p e s m args below meth c Z H locs ls F R hH hS hL
  have ht : ∀ w ∈ lw_tbl, goodWord w = true → w.before args s = true := fun w h1 h2 => F.2.2.2.2.1 w (List.mem_filter.mpr ⟨h1, h2⟩)
  exact va_mmax F.1 F.2.1 (by rw [F.2.2.1]; exact hL.1.symm) F.2.2.2.1 (ht _ lk rfl) (ht _ hst rfl) (ht _ hini rfl) (ht _ hcd rfl) hf (by rw [mm_sum]; exact hl) hc hs hdg (kk p e s m args below meth c Z H locs ls F R hH hS hL)
/-! new cells -/
theorem mm_HW_app {h : mm_H} {H H1 : Heap} {x : mm_E} (hH : mm_HW E h H) (z1 : H1.size = H.size + 1) (o1 : ∀ q : Nat, q < H.size → H1[q]? = H[q]?) (hx : va_at E.2.2.2.1 vwCl (E.2.1 + h.length, mm_ce E x) H1) : mm_HW E (h ++ [x]) H1 := by
  refine ⟨by rw [z1, hH.1, List.length_append]; rfl, ?_⟩
  rw [mm_ws_app]
  refine (hH.2.kept (fun k q hk => o1 q.1 ((hH.2 k q hk).lt))).app (fun k q hk => ?_)
  have hz : k < 1 := (List.getElem?_eq_some_iff.mp hk).1
  rw [show k = 0 by omega] at hk
  cases hk
  exact hx
theorem mm_S_app {s : State} {H H1 : Heap} {locs : List Loc} (hS : va_S (mm_A E) s.heap H locs) (z1 : H1.size = H.size + 1) (o1 : ∀ q : Nat, q < H.size → H1[q]? = H[q]?) : va_S (mm_A E) s.heap H1 locs :=
  ⟨Nat.le_trans hS.1 (by omega), fun x h1 h2 => (o1 x (Nat.lt_of_lt_of_le h1 hS.1)).trans (hS.2.1 x h1 h2), hS.2.2⟩
theorem ev_new {ci idx : Nat} {fs : List Value} (cfs : ∀ (ci : Nat) (q : vw_C), vwCl[ci]? = some q → mm_cf q) (nc : mm_nc K.1.cls idx ci fs) (hdg : decode K.2.1 pc = .ok (.new idx, 3)) (hcells : uc + 1 ≤ K.2.2.2.2.cells) (hslots : us + fs.length ≤ K.2.2.2.2.slots)
    (kk : ev_At E K (pc + 3) L (.ref h.length :: rest) (h ++ [.inr (ci, fs)]) (uc + 1) (us + fs.length) Q) : ev_At E K pc L rest h uc us Q := by
  intro p e s m args below meth c Z H locs ls F R hH hS hL
  have F0' := F
  obtain ⟨⟨C, T, N⟩, hc, lk, hins, hini, hN, hcv, ty, hty, hdf⟩ := nc
  obtain ⟨hx, hb, hml, hown, hts, hin, hG, hX, hbs⟩ := F
  have ht : ∀ w ∈ lw_tbl, goodWord w = true → w.before args s = true := fun w h1 h2 => hts w (List.mem_filter.mpr ⟨h1, h2⟩)
  have hN' : N = fs.length := hN
  have hKn := hG.1.1 ci _ hc
  refine W.newcK hx hb hown (ht _ lk rfl) (ht _ hins rfl) (ht _ hini rfl) rfl hdg hcells (show us + N ≤ _ by rw [hN']; exact hslots) hKn.2.1 rfl fun H1 kC hkC e1 z1 o1 => ?_
  have hat : va_at E.2.2.2.1 vwCl (E.2.1 + h.length, mm_ce E (.inr (ci, fs))) H1 := by
    refine ⟨_, hc, ?_⟩
    show t_OB (E.2.1 + h.length) _ _ _ H1 (vp_V (fs.map (mm_cv E)))
    rw [hcv E, ← hH.1]
    exact (u_born ty hts (cfs ci _ hc).1 hKn hkC e1 hty).to hdf
  have k' := kk p e s m args below meth c Z H1 locs ls F0' R (mm_HW_app hH z1 o1 hat) (mm_S_app hS z1 o1) hL
  show W p E.1 e K.2.2.2.2 s m args below meth c H1 locs (uc + 1) (us + N) Z (F0 m (pc + 3) ls (.ref H.size :: rest.map (mm_cv E)))
  rw [hN', hH.1]
  exact k'
theorem ev_newa {n : Int32} {N t : Nat} {at_ : ArrayType} (htt : mm_ty[t]? = some (newarray.typeOf at_)) (hprim : (at_ = .int ∧ t = 0) ∨ (at_ = .boolean ∧ t = 1)) (lk : Jvm.Cond.arrayClass (newarray.typeOf at_) ∈ lw_tbl) (hdg : decode K.2.1 pc = .ok (.newarray at_, 2)) (hn : ¬ n < 0) (hN : n.toNatClampNeg = N) (hby : N * componentBytes (newarray.typeOf at_) ≤ 536870912) (hcells : uc + 1 ≤ K.2.2.2.2.cells) (hslots : us + N ≤ K.2.2.2.2.slots)
    (kk : ev_At E K (pc + 2) L (.ref h.length :: rest) (h ++ [.inl (t, N, .inl (fun _ => 0))]) (uc + 1) (us + N) Q) : ev_At E K pc L (.int n :: rest) h uc us Q := by
  intro p e s m args below meth c Z H locs ls F R hH hS hL
  have F0' := F
  obtain ⟨hx, hb, hml, hown, hts, hin, hG, hX, hbs⟩ := F
  refine va_newaK (rest := rest.map (mm_cv E)) hx hb (hts _ (List.mem_filter.mpr ⟨lk, rfl⟩)) rfl hdg rfl hn hN hby hcells hslots hH.1 fun H1 cA e1 z1 o1 hAr hNm => ?_
  have hra := (hG.1.2 t _ (mm_tys_get htt)).2
  have hcA : cA = E.2.2.2.2.1 t := by
    rcases hprim with ⟨rfl, -⟩ | ⟨rfl, -⟩ <;> exact Option.some.inj (hNm.symm.trans hra)
  subst hcA
  have hat : va_at E.2.2.2.1 vwCl (E.2.1 + h.length, mm_ce E (.inl (t, N, .inl (fun _ => 0)))) H1 := by
    show H1[E.2.1 + h.length]? = some (vp_cell (E.2.2.2.2.1 t) (N, .inl (fun _ => 0)))
    rw [e1, vp_cell_i]
    rcases hprim with ⟨rfl, -⟩ | ⟨rfl, -⟩ <;> rfl
  have z1' : H1.size = H.size + 1 := by rw [z1, hH.1]
  have o1' : ∀ q : Nat, q < H.size → H1[q]? = H[q]? := fun q hq => o1 q (by rw [← hH.1]; exact hq)
  exact kk p e s m args below meth c Z H1 locs ls F0' R (mm_HW_app hH z1' o1' hat) (mm_S_app hS z1' o1') hL
theorem ev_newq {n : Int32} {N t idx : Nat} {C : String} (htt : mm_ty[t]? = some (.object C)) (lk : Jvm.Cond.classLink K.1.cls idx C ∈ lw_tbl) (ao : Jvm.Cond.arrayOver (.object C) ∈ lw_tbl) (hdg : decode K.2.1 pc = .ok (.anewarray idx, 3)) (hn : ¬ n < 0) (hN : n.toNatClampNeg = N) (hby : N * 4 ≤ 536870912) (hcells : uc + 1 ≤ K.2.2.2.2.cells) (hslots : us + N ≤ K.2.2.2.2.slots)
    (kk : ev_At E K (pc + 3) L (.ref h.length :: rest) (h ++ [.inl (t, N, .inr (.inr (.inr (.inr (fun _ => none)))))]) (uc + 1) (us + N) Q) : ev_At E K pc L (.int n :: rest) h uc us Q := by
  subst hN
  intro p e s m args below meth c Z H locs ls F R hH hS hL
  have F0' := F
  obtain ⟨hx, hb, hml, hown, hts, hin, hG, hX, hbs⟩ := F
  have hra := (hG.1.2 t _ (mm_tys_get htt)).2
  refine W.anew (rest := rest.map (mm_cv E)) hx hb hown (hts _ (List.mem_filter.mpr ⟨lk, rfl⟩)) (va_AO.use (hG.2 _ ao rfl)) rfl hdg rfl hn hby hcells hslots fun cA kA comp f1 f2 f3 f4 => ?_
  have hcA : cA = E.2.2.2.2.1 t := by
    obtain ⟨_, _, _, _, _, g4⟩ := hra
    exact Option.some.inj (f1.symm.trans g4)
  subst hcA
  generalize hH1 : H.push ({ cls := E.2.2.2.2.1 t, slots := Array.replicate n.toNatClampNeg .null, vm := .none } : Cell) = H1
  have z1 : H1.size = H.size + 1 := by rw [← hH1, Array.size_push]
  have e1 : H1[H.size]? = some (arrV (E.2.2.2.2.1 t) n.toNatClampNeg (fun _ => .null)) := by rw [← hH1, Array.getElem?_push_size, ← arrV_new]
  have o1 : ∀ q : Nat, q < H.size → H1[q]? = H[q]? := fun q hq => by rw [← hH1, Array.getElem?_push, if_neg (Nat.ne_of_lt hq)]
  have hat : va_at E.2.2.2.1 vwCl (E.2.1 + h.length, mm_ce E (.inl (t, n.toNatClampNeg, .inr (.inr (.inr (.inr (fun _ => none))))))) H1 := by
    show H1[E.2.1 + h.length]? = some (vp_cell (E.2.2.2.2.1 t) (n.toNatClampNeg, .inr (.inr (.inr (.inr (fun _ => none))))))
    rw [← hH.1, e1, vp_cell_q]
    rfl
  have k' := kk p e s m args below meth c Z H1 locs ls F0' R (mm_HW_app hH z1 o1 hat) (mm_S_app hS z1 o1) hL
  show W p E.1 e K.2.2.2.2 s m args below meth c H1 locs (uc + 1) (us + n.toNatClampNeg) Z (F0 m (pc + 3) ls (.ref H.size :: rest.map (mm_cv E)))
  rw [hH.1]
  exact k'
end EVN
