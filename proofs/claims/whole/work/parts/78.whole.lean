theorem xk_inst : ∀ (ci : Nat) (q : vw_C), xk_cl[ci]? = some q → ∃ n, Cond.instantiable q.1 n ∈ lw_tbl := by
  intro ci q h
  match ci, h with
  | 0, h => cases h; exact ⟨4, List.mem_of_getElem? (i := 92) (by decide +kernel)⟩
  | 1, h => cases h; exact ⟨4, List.mem_of_getElem? (i := 85) (by decide +kernel)⟩
  | 2, h => cases h; exact ⟨7, List.mem_of_getElem? (i := 55) (by decide +kernel)⟩
  | 3, h => cases h; exact ⟨5, List.mem_of_getElem? (i := 134) (by decide +kernel)⟩
  | 4, h => cases h; exact ⟨5, List.mem_of_getElem? (i := 307) (by decide +kernel)⟩
  | 5, h => cases h; exact ⟨4, List.mem_of_getElem? (i := 162) (by decide +kernel)⟩
  | 6, h => cases h; exact ⟨5, List.mem_of_getElem? (i := 47) (by decide +kernel)⟩
  | 7, h => cases h; exact ⟨23, List.mem_of_getElem? (i := 567) (by decide +kernel)⟩
  | k + 8, h => simp [xk_cl] at h
theorem xk_nw_in : ∀ w ∈ xk_nw, w ∈ lw_tbl := by decide +kernel
theorem xk_nw_on : ∀ w ∈ xk_nw, w.onTables = true := by decide +kernel
theorem xk_ao_in : ∀ C ∈ xk_ao, Cond.arrayOver (.object C) ∈ lw_tbl := by decide +kernel
theorem xk_ai : Cond.arrayClass .int ∈ lw_tbl := List.mem_of_getElem? (i := 83) (by decide +kernel)
theorem xk_ab : Cond.arrayClass .boolean ∈ lw_tbl := List.mem_of_getElem? (i := 82) (by decide +kernel)
theorem xk_arrI {s : State} {args : Array Value} (h : (Cond.arrayClass .int).before args s = true) : ∃ cA, ArrOfT s cA .int ∧ va_RA s cA .int := by
  obtain ⟨cA, kA, comp, h1, h2, h3⟩ := Cond.arrayClass_spec h
  exact ⟨cA, fun N z => ⟨(fun k h => by cases h), kA, h2, comp, h3⟩, h1⟩
theorem xk_arrB {s : State} {args : Array Value} (h : (Cond.arrayClass .boolean).before args s = true) : ∃ cA, ArrOfT s cA .boolean ∧ va_RA s cA .boolean := by
  obtain ⟨cA, kA, comp, h1, h2, h3⟩ := Cond.arrayClass_spec h
  exact ⟨cA, fun N z => ⟨(fun k h => by cases h), kA, h2, comp, h3⟩, h1⟩
theorem xk_arrO {s : State} {args : Array Value} {C : String} (h : (Cond.arrayOver (.object C)).before args s = true) : ∃ cA, ArrOfT s cA (.object C) ∧ va_RA s cA (.object C) := by
  obtain ⟨comp, cA, kA, h1, h2, h3, h4, h5⟩ := Cond.arrayOver_spec h
  exact ⟨cA, fun N z => ⟨(fun k h => by cases h), kA, h3, comp, h4⟩, kA, comp, h3, h4, h1, h5⟩

theorem xk_env {s : State} {b L : Nat} {xs : Nat → Int32} (hts : ∀ w ∈ lw_tbl, w.before #[Value.ref b] s = true) (hX : va_X b L xs s s.heap) : ∃ E : xk_E, E.2.2.1 = s.heap.size - 1 ∧ E.2.2.2.1 = b ∧ E.2.2.2.2.2.1 = L ∧ s.heap[b]? = some E.2.2.2.2.1 ∧ xk_K E s := by
  obtain ⟨scr, x1, x2, x3, x4, x5⟩ := hX
  have htk : ∀ w ∈ xk_kt, w.before #[Value.ref b] s = true := fun w hw => hts w (List.mem_filter.mp hw).1
  have hcl : ∀ ci : Nat, ∃ (cC : ClassId) (iS : Nat → Nat), ∀ q : vw_C, xk_cl[ci]? = some q → u_Kn s q.1 q.2.1 q.2.2 cC iS := fun ci => by
    cases hq : xk_cl[ci]? with
    | none => exact ⟨0, fun _ => 0, (fun q h => by cases h)⟩
    | some q =>
      obtain ⟨n, hn⟩ := xk_inst ci q hq
      obtain ⟨cC, iS, h⟩ := u_known (T := q.2.1) (N := q.2.2) htk (xk_clall ci q hq).1 (hts _ hn)
      exact ⟨cC, iS, (fun q' h' => by cases h'; exact h)⟩
  obtain ⟨c0, a0⟩ := xk_arrI (hts _ xk_ai)
  obtain ⟨c1, a1⟩ := xk_arrB (hts _ xk_ab)
  obtain ⟨c2, a2⟩ := xk_arrO (hts _ (xk_ao_in "SandKernel$Block" (by decide)))
  obtain ⟨c3, a3⟩ := xk_arrO (hts _ (xk_ao_in "SandKernel$Opening" (by decide)))
  obtain ⟨c4, a4⟩ := xk_arrO (hts _ (xk_ao_in "SandKernel$Task" (by decide)))
  refine ⟨((fun ci => Classical.choose (hcl ci), fun ci => Classical.choose (Classical.choose_spec (hcl ci))), (fun t => match t with | 0 => c0 | 1 => c1 | 2 => c2 | 3 => c3 | _ => c4), s.heap.size - 1, b, scr, L, xs), rfl, rfl, rfl, x1, ⟨fun ci q hq => Classical.choose_spec (Classical.choose_spec (hcl ci)) q hq, fun k q hk => ?_⟩, ⟨x2, x3, x4, x5⟩, fun w hw => va_Nw.of (xk_nw_on w hw) (hts w (xk_nw_in w hw)), fun C hC => va_AO.of (hts _ (xk_ao_in C hC))⟩
  match k, hk with
  | 0, hk => cases hk; exact a0
  | 1, hk => cases hk; exact a1
  | 2, hk => cases hk; exact a2
  | 3, hk => cases hk; exact a3
  | 4, hk => cases hk; exact a4
  | k + 5, hk => simp [xk_tys] at hk
/-- YOUR PART: from the entry, for every script of at most 2048 ints, the law comes to its end with true -/
theorem whole_start {p : Program} {e : Env} {s : State} {m : MethodId} {below : List Frame} {meth : Method} {c : Code} (l : Launch) {b L : Nat} {xs : Nat → Int32} (hL : L ≤ 2048) (C0 : lw_At p s m meth c b L xs) : W p l e room_1 s m #[Value.ref b] below meth c s.heap [] 0 0 (lw_Z below #[Value.ref b] s) (entryFrame m ([Value.ref b] : List Value).toArray 4) := by
  obtain ⟨h1, h2, h3, h4, h5, hts, hX, hbl, hlk, -⟩ := C0
  obtain ⟨E, e1, e2, e3, e4, hK⟩ := xk_env hts hX
  have B := s_law0 (E := E) (Q := fun _ _ _ _ => True) (by rw [e3]; exact hL)
  have hl := lv_entry ([Value.ref b] : List Value) (n := 4) (show 1 ≤ 4 by decide)
  rw [lg_entry_eq]
  generalize (lg_sl ([Value.ref b] : List Value) ++ List.replicate (4 - (lg_sl ([Value.ref b] : List Value)).length) Slot.unset).toArray = ls at hl ⊢
  have hv : xk_v E (.inr (some 0)) = Value.ref b := by
    show Value.ref (xk_ad E 0) = _
    unfold xk_ad
    rw [if_pos rfl, e2]
  have hLo : xk_Lo E ls (xk_L m_law) [some (.inr (some 0)), none, none, none] := by
    refine ⟨hl.1, hl.2.1, fun i v hi => ?_⟩
    match i, hi with
    | 0, hi =>
      cases hi
      rw [hv]
      exact hl.2.2 (0, Value.ref b) (by simp [lv_args])
    | 1, hi => cases hi
    | 2, hi => cases hi
    | 3, hi => cases hi
    | i + 4, hi => simp at hi
  have K := B p l e s m #[Value.ref b] below meth c s.heap [] ls ⟨h1, h2, h3, h4, h5, fun w hw => hts w (List.mem_filter.mp hw).1, hlk, (fun h => by cases h), hK, fun _ => ⟨by rw [e2], by rw [e1]; omega⟩⟩ ⟨Nat.le_refl _, by rw [e1]; omega, (fun a a1 a2 => by omega), ⟨by rw [e2]; exact e4, by rw [e1, e2]; omega⟩, fun _ _ _ => ⟨rfl, rfl⟩⟩ (fun q h => by cases h) hLo
  rw [xk_Fin_l rfl] at K
  exact K
