/-! From the law's entry, as the Statement has it, to the machine over our heap: what is left is st_main, a walk with ev_ rows. -/
def st_main : Prop := ∀ E : mm_En, st_ok E → ev_At E K_L_law 0 [some (.retAddr 0), none, none, none] [] [] 0 0 (fun r _ => r = some (.int 1))
theorem st_inst : ∀ (ci : Nat) (q : vw_C), vwCl[ci]? = some q → ∃ n : Nat, Jvm.Cond.instantiable q.1 n ∈ lw_tbl := by
  intro ci q h
  have hm := List.mem_of_getElem? h
  simp only [vwCl, List.mem_cons, List.not_mem_nil, or_false] at hm
  rcases hm with rfl | rfl | rfl | rfl | rfl | rfl | rfl | rfl | rfl | rfl
  · exact ⟨10, (List.mem_of_getElem? (i := 90) (by decide +kernel))⟩
  · exact ⟨2, (List.mem_of_getElem? (i := 180) (by decide +kernel))⟩
  · exact ⟨7, (List.mem_of_getElem? (i := 187) (by decide +kernel))⟩
  · exact ⟨1, (List.mem_of_getElem? (i := 169) (by decide +kernel))⟩
  · exact ⟨4, (List.mem_of_getElem? (i := 226) (by decide +kernel))⟩
  · exact ⟨2, (List.mem_of_getElem? (i := 232) (by decide +kernel))⟩
  · exact ⟨3, (List.mem_of_getElem? (i := 83) (by decide +kernel))⟩
  · exact ⟨4, (List.mem_of_getElem? (i := 275) (by decide +kernel))⟩
  · exact ⟨6, (List.mem_of_getElem? (i := 75) (by decide +kernel))⟩
  · exact ⟨30, (List.mem_of_getElem? (i := 728) (by decide +kernel))⟩
theorem st_kn {s : State} {args : Array Value} (hts : ∀ w ∈ lw_tbl, w.before args s = true) : ∃ D : va_G, ∀ (ci : Nat) (q : vw_C), vwCl[ci]? = some q → u_Kn s q.1 q.2.1 q.2.2 (D.1 ci) (D.2 ci) := by
  have h : ∀ ci : Nat, ∃ x : ClassId × (Nat → Nat), ∀ q : vw_C, vwCl[ci]? = some q → u_Kn s q.1 q.2.1 q.2.2 x.1 x.2 := by
    intro ci
    cases hq : vwCl[ci]? with
    | none => exact ⟨(0, fun _ => 0), fun q h => by cases h⟩
    | some q =>
      obtain ⟨n, hn⟩ := st_inst ci q hq
      obtain ⟨cC, iS, hk⟩ := u_known (ws := lw_tbl.filter goodWord) (fun w hw => hts w (List.mem_filter.mp hw).1) (mm_cfs ci q hq).1 (hts _ hn)
      exact ⟨(cC, iS), fun q' h => by cases h; exact hk⟩
  exact ⟨(fun ci => (Classical.choose (h ci)).1, fun ci => (Classical.choose (h ci)).2), fun ci q hq => Classical.choose_spec (h ci) q hq⟩
theorem st_prim {s : State} {args : Array Value} {ty : FieldType} (hty : ty = .int ∨ ty = .boolean) (h : (Jvm.Cond.arrayClass ty).before args s = true) : ∃ cA : ClassId, ArrOfT s cA ty ∧ va_RA s cA ty := by
  obtain ⟨cA, kA, comp, h1, h2, h3⟩ := Cond.arrayClass_spec h
  refine ⟨cA, fun n z => ⟨(fun k h => by cases h), kA, h2, comp, h3⟩, ?_⟩
  rcases hty with rfl | rfl <;> exact h1
theorem st_obj {s : State} {args : Array Value} {C : String} (h : (Jvm.Cond.arrayOver (.object C)).before args s = true) : ∃ cA : ClassId, ArrOfT s cA (.object C) ∧ va_RA s cA (.object C) := by
  obtain ⟨comp, cA, kA, h1, -, h3, h4, h5⟩ := Cond.arrayOver_spec h
  exact ⟨cA, fun n z => ⟨(fun k h => by cases h), kA, h3, comp, h4⟩, kA, comp, h3, h4, h1, h5⟩
theorem st_ar {s : State} {args : Array Value} (hts : ∀ w ∈ lw_tbl, w.before args s = true) : ∃ cA : Nat → ClassId, ∀ (t : Nat) (ty : FieldType), mm_ty[t]? = some ty → ArrOfT s (cA t) ty ∧ va_RA s (cA t) ty := by
  have h : ∀ t : Nat, ∃ x : ClassId, ∀ ty : FieldType, mm_ty[t]? = some ty → ArrOfT s x ty ∧ va_RA s x ty := by
    intro t
    cases hq : mm_ty[t]? with
    | none => exact ⟨0, fun q h => by cases h⟩
    | some ty =>
      have hm := List.mem_of_getElem? hq
      simp only [mm_ty, List.mem_cons, List.not_mem_nil, or_false] at hm
      have hx : ∃ x : ClassId, ArrOfT s x ty ∧ va_RA s x ty := by
        rcases hm with rfl | rfl | rfl | rfl | rfl | rfl
        · exact st_prim (Or.inl rfl) (hts _ (List.mem_of_getElem? (i := 148) (by decide +kernel)))
        · exact st_prim (Or.inr rfl) (hts _ (List.mem_of_getElem? (i := 828) (by decide +kernel)))
        · exact st_obj (hts _ (List.mem_of_getElem? (i := 89) (by decide +kernel)))
        · exact st_obj (hts _ (List.mem_of_getElem? (i := 179) (by decide +kernel)))
        · exact st_obj (hts _ (List.mem_of_getElem? (i := 186) (by decide +kernel)))
        · exact st_obj (hts _ (List.mem_of_getElem? (i := 225) (by decide +kernel)))
      obtain ⟨x, h1⟩ := hx
      exact ⟨x, fun ty' h => by cases h; exact h1⟩
  exact ⟨fun t => Classical.choose (h t), fun t ty hq => Classical.choose_spec (h t) ty hq⟩
theorem st_start (main : st_main) {p : Program} {e : Env} {s : State} {m : MethodId} {below : List Frame} {meth : Method} {c : Code} (l : Launch) {b L : Nat} {xs : Nat → Int32} (hL : L ≤ 2560) (C0 : lw_At p s m meth c b L xs) : W p l e room_1 s m #[Value.ref b] below meth c s.heap [] 0 0 (lw_Z below #[Value.ref b] s) (entryFrame m ([Value.ref b] : List Value).toArray 4) := by
  obtain ⟨hx, hb, hr, hml, hown, hts, hX, hbl, hlocks, hgv⟩ := C0
  have hq := flat_of_before _ hgv
  have hA : ∀ a : Nat, a < s.heap.size → ¬ (s.heap.size ≤ a) := fun a h z => by omega
  obtain ⟨t1, ht1, hT1⟩ := va_Tof (args := #[Value.ref b]) (s := s) (tm := .static "SnapshotFiles" "FEWEST_NUMBERS" "[I") (ty := .int) (A := fun q => s.heap.size ≤ q) (N := 10) (f := fun j => .int (st_f j)) (by decide) (hq _ (by decide +kernel)) (va_eqt (hq _ (by decide +kernel))) (fun j hj => by
    rcases (show j = 0 ∨ j = 1 ∨ j = 2 ∨ j = 3 ∨ j = 4 ∨ j = 5 ∨ j = 6 ∨ j = 7 ∨ j = 8 ∨ j = 9 by omega) with rfl | rfl | rfl | rfl | rfl | rfl | rfl | rfl | rfl | rfl <;> exact va_eqt (hq _ (by decide +kernel))) hA
  obtain ⟨t2, ht2, hT2⟩ := va_Tof (args := #[Value.ref b]) (s := s) (tm := .static "SnapshotFiles" "MOST_NUMBERS" "[I") (ty := .int) (A := fun q => s.heap.size ≤ q) (N := 10) (f := fun j => .int (st_g j)) (by decide) (hq _ (by decide +kernel)) (va_eqt (hq _ (by decide +kernel))) (fun j hj => by
    rcases (show j = 0 ∨ j = 1 ∨ j = 2 ∨ j = 3 ∨ j = 4 ∨ j = 5 ∨ j = 6 ∨ j = 7 ∨ j = 8 ∨ j = 9 by omega) with rfl | rfl | rfl | rfl | rfl | rfl | rfl | rfl | rfl | rfl <;> exact va_eqt (hq _ (by decide +kernel))) hA
  obtain ⟨D, hD⟩ := st_kn hts
  obtain ⟨cA, hcA⟩ := st_ar hts
  have hZ1 : va_Z "SnapshotFiles" "FEWEST_NUMBERS" "[I" (.ref t1) (fun q => s.heap.size ≤ q) s s.heap := va_Zref (hts _ (List.mem_of_getElem? (i := 389) (by decide +kernel))) (hts _ (List.mem_of_getElem? (i := 63) (by decide +kernel))) ht1 hA
  have hZ2 : va_Z "SnapshotFiles" "MOST_NUMBERS" "[I" (.ref t2) (fun q => s.heap.size ≤ q) s s.heap := va_Zref (hts _ (List.mem_of_getElem? (i := 391) (by decide +kernel))) (hts _ (List.mem_of_getElem? (i := 63) (by decide +kernel))) ht2 hA
  obtain ⟨scr, x1, x2, x3, x4, x5⟩ := hX
  have hT0 : va_T .int b L (fun i => .int (xs i)) (fun q => s.heap.size ≤ q) s s.heap := ⟨scr, x1, x2, x3, Nat.le_of_eq x4.symm, by rw [x4], x5, hA b hbl⟩
  have key := main (l, s.heap.size, (fun j => if j = 0 then b else if j = 1 then t1 else t2), D, cA, (fun j => if j = 0 then L else 10), (fun j => if j = 0 then xs else if j = 1 then st_f else st_g)) ⟨hL, rfl, rfl, rfl, rfl⟩
  generalize hEe : ((l, s.heap.size, (fun j => if j = 0 then b else if j = 1 then t1 else t2), D, cA, (fun j => if j = 0 then L else 10), (fun j => if j = 0 then xs else if j = 1 then st_f else st_g)) : mm_En) = E at key
  have e1 : E.1 = l := by rw [← hEe]
  have e2 : E.2.1 = s.heap.size := by rw [← hEe]
  have hG : mm_G E s := by
    refine ⟨⟨fun ci q h => ?_, fun k q h => ?_⟩, fun w hw hn => ?_⟩
    · rw [← hEe]; exact hD ci q h
    · simp only [mm_tys, List.getElem?_mapIdx, Option.map_eq_some_iff] at h
      obtain ⟨ty, h1, rfl⟩ := h
      have := hcA k ty h1
      rw [← hEe]
      exact this
    · have hz := hts w hw
      cases w with
      | fieldLinkNest a i b n d h => exact va_Nw.of rfl hz
      | methodLinkNest a i x h => exact va_Nw.of rfl hz
      | arrayOver t =>
        cases t with
        | object C => exact va_AO.of hz
        | _ => exact Bool.noConfusion (show false = true from hn)
      | _ => exact Bool.noConfusion (show false = true from hn)
  have hXX : mm_X E s s.heap := by
    rw [← hEe]
    refine ⟨fun j hj => ?_, hZ1, hZ2⟩
    rcases (show j = 0 ∨ j = 1 ∨ j = 2 by omega) with rfl | rfl | rfl
    · exact hT0
    · exact hT1
    · exact hT2
  have hF : mm_F E K_L_law p s m #[Value.ref b] meth c := ⟨hx, hb, hml, hown, fun w hw => hts w (List.mem_filter.mp hw).1, fun hn => absurd hn (by decide), hG, hXX, Nat.le_of_eq e2⟩
  have hR : mm_R E K_L_law (fun r _ => r = some (.int 1)) p e s m #[Value.ref b] below meth c (lw_Z below #[Value.ref b] s) := by
    intro H locs pc ls r h' hq' hH hS hri
    subst hq'
    rw [e1]
    refine va_forget (fun q hq => ?_) (lw_ret hx hb hr hlocks hri.1)
    have := hS.2.2 q hq
    show s.heap.size ≤ q.base
    rw [← e2]
    exact this
  have hH : mm_HW E [] s.heap := ⟨by rw [e2]; rfl, fun k q h => by simp [mm_ws] at h⟩
  rw [lg_entry_eq]
  have hl : mm_L E ((lg_sl ([Value.ref b] : List Value) ++ List.replicate (4 - (lg_sl ([Value.ref b] : List Value)).length) Slot.unset).toArray) 4 [some (.retAddr 0), none, none, none] := by
    have h1 := mm_entry (E := E) [.retAddr 0] 4 (by simp [Value.category]) (by decide)
    have h2 : ([Value.retAddr 0].map (mm_cv E)) = [Value.ref b] := by rw [← hEe]; rfl
    rw [h2] at h1
    exact h1
  have fin := key p e s m #[Value.ref b] below meth c _ s.heap [] _ hF hR hH va_S.rf hl
  rw [e1] at fin
  exact fin
