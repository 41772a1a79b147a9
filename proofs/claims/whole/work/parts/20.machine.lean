/-! A small machine over the kit's walk W: values are ints or references by number; memory is two functions, ints and references, by cell number and place. -/
def xk_cls (y : xk_Y) : String := (xk_N y).cls
/-- the contents of a place as a value -/
def xk_f (E : xk_E) (b : Bool) (m : xk_M) (r : xk_P) (a k : Nat) : Value := if b = true then xk_v E (.inr (r a k)) else .int (m a k)
theorem xk_f_i {E : xk_E} {m : xk_M} {r : xk_P} {a k : Nat} : xk_f E false m r a k = .int (m a k) := rfl
theorem xk_f_r {E : xk_E} {m : xk_M} {r : xk_P} {a k : Nat} : xk_f E true m r a k = xk_v E (.inr (r a k)) := rfl
theorem xk_cat (E : xk_E) (v : xk_V) : (xk_v E v).category = 1 := by
  rcases v with x | _ | a <;> rfl
def xk_cell (E : xk_E) (m : xk_M) (r : xk_P) (a : Nat) (H : Heap) : Prop := match xk_kd a with
  | .inl ci => ∃ q : vw_C, xk_cl[ci]? = some q ∧ t_OB (xk_ad E a) (E.1.1 ci) q.2.2 (E.1.2 ci) H (fun k => xk_f E (xk_rf ci k) m r a k)
  | .inr tn => H[xk_ad E a]? = some (arrV (E.2.1 tn.1) tn.2 (fun j => xk_f E (decide (2 ≤ tn.1)) m r a j))
def xk_R (E : xk_E) (n : Nat) (m : xk_M) (r : xk_P) (H : Heap) : Prop :=
  1 ≤ n ∧ H.size = E.2.2.1 + n ∧ (∀ a, 1 ≤ a → a < n → xk_cell E m r a H) ∧ (H[E.2.2.2.1]? = some E.2.2.2.2.1 ∧ E.2.2.2.1 ≤ E.2.2.1) ∧ ∀ a, n ≤ a → ∀ k, m a k = 0 ∧ r a k = none
def xk_fr (E : xk_E) : Addr → Prop := fun q => E.2.2.1 < q
def xk_tys (E : xk_E) : List (ClassId × FieldType) := [(E.2.1 0, xk_aty 0), (E.2.1 1, xk_aty 1), (E.2.1 2, xk_aty 2), (E.2.1 3, xk_aty 3), (E.2.1 4, xk_aty 4)]
def xk_scr (E : xk_E) (s : State) : Prop := s.isArrayOf E.2.2.2.2.1 .int ∧ E.2.2.2.2.1.vm ≠ .unknown ∧ E.2.2.2.2.1.slots.size = E.2.2.2.2.2.1 ∧ ∀ j : Nat, j < E.2.2.2.2.2.1 → E.2.2.2.2.1.slots[j]? = some (.int (E.2.2.2.2.2.2 j))
def xk_K (E : xk_E) (s : State) : Prop := va_K E.1 xk_cl (xk_tys E) s ∧ xk_scr E s ∧ (∀ w ∈ xk_nw, va_Nw w s) ∧ ∀ C ∈ xk_ao, va_AO C s
theorem xk_nw_ok : ∀ w ∈ xk_nw, xk_isN w = true := by decide +kernel
theorem xk_K.warm {E : xk_E} {s U : State} (hW : s.WarmedH U.vm) (h : xk_K E s) : xk_K E U := by
  obtain ⟨h1, ⟨s1, s2⟩, h3, h4⟩ := h
  refine ⟨va_K.moved hW.alike h1, ⟨State.isArrayOf_alike hW.alike s1, s2⟩, fun w hw => ?_, fun C hC => va_AO.moved hW.alike (h4 C hC)⟩
  have hn := xk_nw_ok w hw
  have hv := h3 w hw
  cases w <;> first | exact va_Nw.warmF hW hv | exact va_Nw.warmM hW hv | (exfalso; revert hn; simp [xk_isN])
theorem xk_K.same {E : xk_E} {s U : State} (h : xk_K E s) (hvm : s.vm = U.vm) : xk_K E U := by
  obtain ⟨h1, ⟨s1, s2⟩, h3, h4⟩ := h
  have hA : s.vm.Alike U.vm := hvm ▸ Vm.Alike.refl s.vm
  refine ⟨va_K.moved hA h1, ⟨State.isArrayOf_alike hA s1, s2⟩, fun w hw => ?_, fun C hC => va_AO.moved hA (h4 C hC)⟩
  have hn := xk_nw_ok w hw
  have hv := h3 w hw
  cases w <;> first | exact va_Nw.same rfl hvm hv | (exfalso; revert hn; simp [xk_isN])
def xk_good (w : Cond) : Bool := (w.onTables && w.keeps) || (match w with | .arrayClass _ => true | _ => false)
def xk_kt : List Cond := lw_tbl.filter xk_good
theorem xk_in {w : Cond} (h : w ∈ lw_tbl) (hg : xk_good w = true) : w ∈ xk_kt := List.mem_filter.mpr ⟨h, hg⟩
theorem xk_kt_good : ∀ w ∈ xk_kt, (w.onTables && w.keeps) = true ∨ ∃ ty, w = .arrayClass ty := by
  intro w hw
  have h := (List.mem_filter.mp hw).2
  unfold xk_good at h
  rw [Bool.or_eq_true] at h
  rcases h with h | h
  · exact Or.inl h
  · cases w <;> first | exact Or.inr ⟨_, rfl⟩ | (exfalso; revert h; simp)
/-! the classes' words -/
theorem xi_Block : ∀ w ∈ u_ws R_Block F_Block 4, w ∈ lw_tbl := by decide +kernel
theorem xg_Block : ∀ w ∈ u_ws R_Block F_Block 4, xk_good w = true := by decide +kernel
theorem xt_Block : ∀ k, k < 4 → parseFieldDescriptor (F_Block k).2.2.1 = some (t_Block k) := by decide +kernel
theorem xn_Block : ∀ a, a < 4 → ∀ b, b < 4 → a ≠ b → (F_Block a).2.1 ≠ (F_Block b).2.1 := by decide +kernel
theorem xi_Cache : ∀ w ∈ u_ws R_Cache F_Cache 4, w ∈ lw_tbl := by decide +kernel
theorem xg_Cache : ∀ w ∈ u_ws R_Cache F_Cache 4, xk_good w = true := by decide +kernel
theorem xt_Cache : ∀ k, k < 4 → parseFieldDescriptor (F_Cache k).2.2.1 = some (t_Cache k) := by decide +kernel
theorem xn_Cache : ∀ a, a < 4 → ∀ b, b < 4 → a ≠ b → (F_Cache a).2.1 ≠ (F_Cache b).2.1 := by decide +kernel
theorem xi_Host : ∀ w ∈ u_ws R_Host F_Host 7, w ∈ lw_tbl := by decide +kernel
theorem xg_Host : ∀ w ∈ u_ws R_Host F_Host 7, xk_good w = true := by decide +kernel
theorem xt_Host : ∀ k, k < 7 → parseFieldDescriptor (F_Host k).2.2.1 = some (t_Host k) := by decide +kernel
theorem xn_Host : ∀ a, a < 7 → ∀ b, b < 7 → a ≠ b → (F_Host a).2.1 ≠ (F_Host b).2.1 := by decide +kernel
theorem xi_Opening : ∀ w ∈ u_ws R_Opening F_Opening 5, w ∈ lw_tbl := by decide +kernel
theorem xg_Opening : ∀ w ∈ u_ws R_Opening F_Opening 5, xk_good w = true := by decide +kernel
theorem xt_Opening : ∀ k, k < 5 → parseFieldDescriptor (F_Opening k).2.2.1 = some (t_Opening k) := by decide +kernel
theorem xn_Opening : ∀ a, a < 5 → ∀ b, b < 5 → a ≠ b → (F_Opening a).2.1 ≠ (F_Opening b).2.1 := by decide +kernel
theorem xi_Pipe : ∀ w ∈ u_ws R_Pipe F_Pipe 5, w ∈ lw_tbl := by decide +kernel
theorem xg_Pipe : ∀ w ∈ u_ws R_Pipe F_Pipe 5, xk_good w = true := by decide +kernel
theorem xt_Pipe : ∀ k, k < 5 → parseFieldDescriptor (F_Pipe k).2.2.1 = some (t_Pipe k) := by decide +kernel
theorem xn_Pipe : ∀ a, a < 5 → ∀ b, b < 5 → a ≠ b → (F_Pipe a).2.1 ≠ (F_Pipe b).2.1 := by decide +kernel
theorem xi_Task : ∀ w ∈ u_ws R_Task F_Task 4, w ∈ lw_tbl := by decide +kernel
theorem xg_Task : ∀ w ∈ u_ws R_Task F_Task 4, xk_good w = true := by decide +kernel
theorem xt_Task : ∀ k, k < 4 → parseFieldDescriptor (F_Task k).2.2.1 = some (t_Task k) := by decide +kernel
theorem xn_Task : ∀ a, a < 4 → ∀ b, b < 4 → a ≠ b → (F_Task a).2.1 ≠ (F_Task b).2.1 := by decide +kernel
theorem xi_K : ∀ w ∈ u_ws R_K F_K 5, w ∈ lw_tbl := by decide +kernel
theorem xg_K : ∀ w ∈ u_ws R_K F_K 5, xk_good w = true := by decide +kernel
theorem xt_K : ∀ k, k < 5 → parseFieldDescriptor (F_K k).2.2.1 = some (t_K k) := by decide +kernel
theorem xn_K : ∀ a, a < 5 → ∀ b, b < 5 → a ≠ b → (F_K a).2.1 ≠ (F_K b).2.1 := by decide +kernel
theorem xi_M : ∀ w ∈ u_ws R_M F_M 23, w ∈ lw_tbl := by decide +kernel
theorem xg_M : ∀ w ∈ u_ws R_M F_M 23, xk_good w = true := by decide +kernel
theorem xt_M : ∀ k, k < 23 → parseFieldDescriptor (F_M k).2.2.1 = some (t_M k) := by decide +kernel
theorem xn_M : ∀ a, a < 23 → ∀ b, b < 23 → a ≠ b → (F_M a).2.1 ≠ (F_M b).2.1 := by decide +kernel
theorem xk_clall : ∀ (ci : Nat) (q : vw_C), xk_cl[ci]? = some q → (∀ w ∈ u_ws q.1 q.2.1 q.2.2, w ∈ xk_kt) ∧ (∀ k, k < q.2.2 → parseFieldDescriptor (q.2.1 k).2.2.1 = some (xk_ty ci k)) ∧ ∀ a, a < q.2.2 → ∀ b, b < q.2.2 → a ≠ b → (q.2.1 a).2.1 ≠ (q.2.1 b).2.1 := by
  intro ci q h
  match ci, h with
  | 0, h => cases h; exact ⟨fun w hw => xk_in (xi_Block w hw) (xg_Block w hw), xt_Block, xn_Block⟩
  | 1, h => cases h; exact ⟨fun w hw => xk_in (xi_Cache w hw) (xg_Cache w hw), xt_Cache, xn_Cache⟩
  | 2, h => cases h; exact ⟨fun w hw => xk_in (xi_Host w hw) (xg_Host w hw), xt_Host, xn_Host⟩
  | 3, h => cases h; exact ⟨fun w hw => xk_in (xi_Opening w hw) (xg_Opening w hw), xt_Opening, xn_Opening⟩
  | 4, h => cases h; exact ⟨fun w hw => xk_in (xi_Pipe w hw) (xg_Pipe w hw), xt_Pipe, xn_Pipe⟩
  | 5, h => cases h; exact ⟨fun w hw => xk_in (xi_Task w hw) (xg_Task w hw), xt_Task, xn_Task⟩
  | 6, h => cases h; exact ⟨fun w hw => xk_in (xi_K w hw) (xg_K w hw), xt_K, xn_K⟩
  | 7, h => cases h; exact ⟨fun w hw => xk_in (xi_M w hw) (xg_M w hw), xt_M, xn_M⟩
  | k + 8, h => simp [xk_cl] at h
def xk_ws (y : xk_Y) : List Cond := .code (xk_N y) (xk_B y) (xk_L y) (xk_ret y) :: xk_kt
def xk_Lo (E : xk_E) (ls : Array Slot) (nL : Nat) (Lc : List (Option xk_V)) : Prop := ls.size = nL ∧ lv_wf ls ∧ ∀ (i : Nat) (v : xk_V), Lc[i]? = some (some v) → ls[i]? = some (.val (xk_v E v))
def xk_pick (E : xk_E) (Lc : List (Option xk_V)) (i : Nat) : Option (Nat × Value) := match Lc[i]? with
  | some (some v) => some (i, xk_v E v)
  | _ => none
def xk_ll (E : xk_E) (Lc : List (Option xk_V)) : List (Nat × Value) := (List.range Lc.length).filterMap (xk_pick E Lc)
theorem xk_Lo.has {E : xk_E} {ls : Array Slot} {nL : Nat} {Lc : List (Option xk_V)} (h : xk_Lo E ls nL Lc) : lv_has ls nL (xk_ll E Lc) := by
  refine ⟨h.1, h.2.1, fun q hq => ?_⟩
  obtain ⟨i, -, hi⟩ := List.mem_filterMap.mp hq
  unfold xk_pick at hi
  split at hi
  · next v hv => cases hi; exact h.2.2 i v hv
  · cases hi
theorem xk_Lo.store {E : xk_E} {ls' : Array Slot} {nL i : Nat} {Lc : List (Option xk_V)} {v : xk_V} (h : lv_has ls' nL ((i, xk_v E v) :: (xk_ll E Lc).filter (fun q => !(q.1 == i) && !(q.1 + 1 == i && q.2.category == 2)))) : xk_Lo E ls' nL (Lc.set i (some v)) := by
  refine ⟨h.1, h.2.1, fun j w hj => ?_⟩
  by_cases hji : j = i
  · subst hji
    rw [List.getElem?_set] at hj
    split at hj
    · split at hj
      · cases hj
        exact h.2.2 _ List.mem_cons_self
      · cases hj
    · exact absurd rfl ‹¬ j = j›
  · rw [List.getElem?_set_ne (Ne.symm hji)] at hj
    refine h.2.2 (j, xk_v E w) (List.mem_cons_of_mem _ (List.mem_filter.mpr ⟨List.mem_filterMap.mpr ⟨j, List.mem_range.mpr (List.getElem?_eq_some_iff.mp hj).1, ?_⟩, ?_⟩))
    · unfold xk_pick
      rw [hj]
    · simp [hji, xk_cat]
def xk_Qc (E : xk_E) (Q : xk_Q) : Array Value → State → Outcome → State → Prop := fun _ _ o t => ∃ (v : Option xk_V) (n : Nat) (m : xk_M) (r : xk_P), o = .returned (v.map (xk_v E)) ∧ Q v n m r ∧ xk_R E n m r t.heap
def xk_Fin (E : xk_E) (y : xk_Y) (Q : xk_Q) (below : List Frame) (args : Array Value) (s : State) : State → Prop := if y.1 = true then lw_Z below args s else MQ below (xk_Qc E Q) args s (xk_Rm y).cells (xk_Rm y).slots (xk_fr E)
theorem xk_Fin_m {E : xk_E} {y : xk_Y} {Q : xk_Q} {below : List Frame} {args : Array Value} {s : State} (h : y.1 = false) : xk_Fin E y Q below args s = MQ below (xk_Qc E Q) args s (xk_Rm y).cells (xk_Rm y).slots (xk_fr E) := if_neg (by rw [h]; decide)
theorem xk_Fin_l {E : xk_E} {y : xk_Y} {Q : xk_Q} {below : List Frame} {args : Array Value} {s : State} (h : y.1 = true) : xk_Fin E y Q below args s = lw_Z below args s := if_pos h
/-- what a frame of method y knows -/
def xk_C (E : xk_E) (y : xk_Y) (p : Program) (s : State) (mid : MethodId) (args : Array Value) (meth : Method) (c : Code) : Prop :=
  p.tables.exec = Jvm.exec ∧ c.code = xk_B y ∧ meth.sig.returnType = xk_ret y ∧ c.maxLocals = xk_L y ∧ s.vm.findClass (xk_cls y) = some mid.cls ∧ (∀ w ∈ xk_kt, w.before args s = true) ∧ meth.locks = false ∧ (y.1 = false → meth.name = (xk_N y).name) ∧ xk_K E s ∧ (y.1 = true → args = #[Value.ref E.2.2.2.1] ∧ s.heap.size = E.2.2.1 + 1)
def xk_W (E : xk_E) (y : xk_Y) (pc : Nat) (Lc : List (Option xk_V)) (st : List xk_V) (n : Nat) (m : xk_M) (r : xk_P) (ce sl : Nat) (Q : xk_Q) : Prop :=
  ∀ (p : Program) (l : Launch) (e : Env) (s : State) (mid : MethodId) (args : Array Value) (below : List Frame) (meth : Method) (c : Code) (H : Heap) (locs : List Loc) (ls : Array Slot),
    xk_C E y p s mid args meth c → xk_R E n m r H → (∀ q ∈ locs, xk_fr E q.base) → xk_Lo E ls (xk_L y) Lc →
    W p l e (xk_Rm y) s mid args below meth c H locs ce sl (xk_Fin E y Q below args s) (F0 mid pc ls (st.map (xk_v E)))
section XK
variable {E : xk_E} {y : xk_Y} {pc n ce sl : Nat} {Lc : List (Option xk_V)} {st : List xk_V} {m : xk_M} {r : xk_P} {Q : xk_Q}
theorem xk_iconst {k : Int} {v : Int32} (hd : decode (xk_B y) pc = .ok (.iconst k, 1)) (hv : Int32.ofInt k = v) (K : xk_W E y (pc + 1) Lc (.inl v :: st) n m r ce sl Q) : xk_W E y pc Lc st n m r ce sl Q :=
  fun p l e s mid args below meth c H locs ls C R hf hL => lv_iconst C.1 C.2.1 hd hv (K p l e s mid args below meth c H locs ls C R hf hL)
theorem xk_bipush {k : Int} {v : Int32} (hd : decode (xk_B y) pc = .ok (.bipush k, 2)) (hv : (Int8.ofInt k).toInt32 = v) (K : xk_W E y (pc + 2) Lc (.inl v :: st) n m r ce sl Q) : xk_W E y pc Lc st n m r ce sl Q :=
  fun p l e s mid args below meth c H locs ls C R hf hL => lv_bipush C.1 C.2.1 hd hv (K p l e s mid args below meth c H locs ls C R hf hL)
theorem xk_sipush {k : Int} {v : Int32} (hd : decode (xk_B y) pc = .ok (.sipush k, 3)) (hv : (Int16.ofInt k).toInt32 = v) (K : xk_W E y (pc + 3) Lc (.inl v :: st) n m r ce sl Q) : xk_W E y pc Lc st n m r ce sl Q :=
  fun p l e s mid args below meth c H locs ls C R hf hL => lv_sipush C.1 C.2.1 hd hv (K p l e s mid args below meth c H locs ls C R hf hL)
theorem xk_null (hd : decode (xk_B y) pc = .ok (.aconst_null, 1)) (K : xk_W E y (pc + 1) Lc (.inr none :: st) n m r ce sl Q) : xk_W E y pc Lc st n m r ce sl Q :=
  fun p l e s mid args below meth c H locs ls C R hf hL => lv_null C.1 C.2.1 hd (K p l e s mid args below meth c H locs ls C R hf hL)
theorem xk_iload_n {k : Fin 4} {x : Int32} (hd : decode (xk_B y) pc = .ok (.iload_n k, 1)) (hl : Lc[(k : Nat)]? = some (some (.inl x))) (K : xk_W E y (pc + 1) Lc (.inl x :: st) n m r ce sl Q) : xk_W E y pc Lc st n m r ce sl Q :=
  fun p l e s mid args below meth c H locs ls C R hf hL => lv_iload_n C.1 C.2.1 hd rfl (hL.2.2 _ _ hl) (K p l e s mid args below meth c H locs ls C R hf hL)
theorem xk_iload {k : Nat} {x : Int32} (hd : decode (xk_B y) pc = .ok (.iload k, 2)) (hl : Lc[k]? = some (some (.inl x))) (K : xk_W E y (pc + 2) Lc (.inl x :: st) n m r ce sl Q) : xk_W E y pc Lc st n m r ce sl Q :=
  fun p l e s mid args below meth c H locs ls C R hf hL => lv_iload C.1 C.2.1 hd (hL.2.2 _ _ hl) (K p l e s mid args below meth c H locs ls C R hf hL)
theorem xk_aload_n {k : Fin 4} {o : Option Nat} (hd : decode (xk_B y) pc = .ok (.aload_n k, 1)) (hl : Lc[(k : Nat)]? = some (some (.inr o))) (K : xk_W E y (pc + 1) Lc (.inr o :: st) n m r ce sl Q) : xk_W E y pc Lc st n m r ce sl Q :=
  fun p l e s mid args below meth c H locs ls C R hf hL => by
    have K' := K p l e s mid args below meth c H locs ls C R hf hL
    cases o with
    | none => exact lv_aload_nN C.1 C.2.1 hd rfl (hL.2.2 _ _ hl) K'
    | some a => exact lv_aload_n C.1 C.2.1 hd rfl (hL.2.2 _ _ hl) K'
theorem xk_aload {k : Nat} {o : Option Nat} (hd : decode (xk_B y) pc = .ok (.aload k, 2)) (hl : Lc[k]? = some (some (.inr o))) (K : xk_W E y (pc + 2) Lc (.inr o :: st) n m r ce sl Q) : xk_W E y pc Lc st n m r ce sl Q :=
  fun p l e s mid args below meth c H locs ls C R hf hL => by
    have K' := K p l e s mid args below meth c H locs ls C R hf hL
    cases o with
    | none => exact lv_aloadN C.1 C.2.1 hd (hL.2.2 _ _ hl) K'
    | some a => exact lv_aload C.1 C.2.1 hd (hL.2.2 _ _ hl) K'
theorem xk_istore_n {k : Fin 4} {x : Int32} (hd : decode (xk_B y) pc = .ok (.istore_n k, 1)) (hk : (k : Nat) < xk_L y) (K : xk_W E y (pc + 1) (Lc.set (k : Nat) (some (.inl x))) st n m r ce sl Q) : xk_W E y pc Lc (.inl x :: st) n m r ce sl Q :=
  fun p l e s mid args below meth c H locs ls C R hf hL => lv_istore_n C.1 C.2.1 hd rfl hL.has hk rfl (fun ls' h' => K p l e s mid args below meth c H locs ls' C R hf (xk_Lo.store (v := .inl x) h'))
theorem xk_istore {k : Nat} {x : Int32} (hd : decode (xk_B y) pc = .ok (.istore k, 2)) (hk : k < xk_L y) (K : xk_W E y (pc + 2) (Lc.set k (some (.inl x))) st n m r ce sl Q) : xk_W E y pc Lc (.inl x :: st) n m r ce sl Q :=
  fun p l e s mid args below meth c H locs ls C R hf hL => lv_istore C.1 C.2.1 hd hL.has hk rfl (fun ls' h' => K p l e s mid args below meth c H locs ls' C R hf (xk_Lo.store (v := .inl x) h'))
theorem xk_astore_n {k : Fin 4} {o : Option Nat} (hd : decode (xk_B y) pc = .ok (.astore_n k, 1)) (hk : (k : Nat) < xk_L y) (K : xk_W E y (pc + 1) (Lc.set (k : Nat) (some (.inr o))) st n m r ce sl Q) : xk_W E y pc Lc (.inr o :: st) n m r ce sl Q :=
  fun p l e s mid args below meth c H locs ls C R hf hL => by
    cases o with
    | none => exact lv_astore_nN C.1 C.2.1 hd rfl hL.has hk rfl (fun ls' h' => K p l e s mid args below meth c H locs ls' C R hf (xk_Lo.store (v := .inr none) h'))
    | some a => exact lv_astore_n C.1 C.2.1 hd rfl hL.has hk rfl (fun ls' h' => K p l e s mid args below meth c H locs ls' C R hf (xk_Lo.store (v := .inr (some a)) h'))
theorem xk_astore {k : Nat} {o : Option Nat} (hd : decode (xk_B y) pc = .ok (.astore k, 2)) (hk : k < xk_L y) (K : xk_W E y (pc + 2) (Lc.set k (some (.inr o))) st n m r ce sl Q) : xk_W E y pc Lc (.inr o :: st) n m r ce sl Q :=
  fun p l e s mid args below meth c H locs ls C R hf hL => by
    cases o with
    | none => exact lv_astoreN C.1 C.2.1 hd hL.has hk rfl (fun ls' h' => K p l e s mid args below meth c H locs ls' C R hf (xk_Lo.store (v := .inr none) h'))
    | some a => exact lv_astore C.1 C.2.1 hd hL.has hk rfl (fun ls' h' => K p l e s mid args below meth c H locs ls' C R hf (xk_Lo.store (v := .inr (some a)) h'))
theorem xk_iinc {k : Nat} {d : Int} {x v : Int32} (hd : decode (xk_B y) pc = .ok (.iinc k d, 3)) (hl : Lc[k]? = some (some (.inl x))) (hv : x + Int32.ofInt d = v) (K : xk_W E y (pc + 3) (Lc.set k (some (.inl v))) st n m r ce sl Q) : xk_W E y pc Lc st n m r ce sl Q :=
  fun p l e s mid args below meth c H locs ls C R hf hL => by
    have hk : k < xk_L y := by
      have h1 := (Array.getElem?_eq_some_iff.mp (hL.2.2 _ _ hl)).1
      rw [← hL.1]; exact h1
    have hm : (k, xk_v E (.inl x)) ∈ xk_ll E Lc := List.mem_filterMap.mpr ⟨k, List.mem_range.mpr (List.getElem?_eq_some_iff.mp hl).1, by unfold xk_pick; rw [hl]⟩
    obtain ⟨j, hj⟩ := List.getElem?_of_mem hm
    exact lv_iinc (k := j) C.1 C.2.1 hd hL.has hj hv hk rfl (fun ls' h' => K p l e s mid args below meth c H locs ls' C R hf (xk_Lo.store (v := .inl v) h'))
theorem xk_iadd {a b : Int32} (hd : decode (xk_B y) pc = .ok (.iadd, 1)) (K : xk_W E y (pc + 1) Lc (.inl (a + b) :: st) n m r ce sl Q) : xk_W E y pc Lc (.inl b :: .inl a :: st) n m r ce sl Q :=
  fun p l e s mid args below meth c H locs ls C R hf hL => lv_iadd C.1 C.2.1 hd (K p l e s mid args below meth c H locs ls C R hf hL)
theorem xk_isub {a b : Int32} (hd : decode (xk_B y) pc = .ok (.isub, 1)) (K : xk_W E y (pc + 1) Lc (.inl (a - b) :: st) n m r ce sl Q) : xk_W E y pc Lc (.inl b :: .inl a :: st) n m r ce sl Q :=
  fun p l e s mid args below meth c H locs ls C R hf hL => lv_isub C.1 C.2.1 hd (K p l e s mid args below meth c H locs ls C R hf hL)
theorem xk_imul {a b : Int32} (hd : decode (xk_B y) pc = .ok (.imul, 1)) (K : xk_W E y (pc + 1) Lc (.inl (a * b) :: st) n m r ce sl Q) : xk_W E y pc Lc (.inl b :: .inl a :: st) n m r ce sl Q :=
  fun p l e s mid args below meth c H locs ls C R hf hL => lv_imul C.1 C.2.1 hd (K p l e s mid args below meth c H locs ls C R hf hL)
theorem xk_iand {a b : Int32} (hd : decode (xk_B y) pc = .ok (.iand, 1)) (K : xk_W E y (pc + 1) Lc (.inl (a &&& b) :: st) n m r ce sl Q) : xk_W E y pc Lc (.inl b :: .inl a :: st) n m r ce sl Q :=
  fun p l e s mid args below meth c H locs ls C R hf hL => lv_iand C.1 C.2.1 hd (K p l e s mid args below meth c H locs ls C R hf hL)
theorem xk_ishr {a b : Int32} (hd : decode (xk_B y) pc = .ok (.ishr, 1)) (K : xk_W E y (pc + 1) Lc (.inl (a >>> (b &&& 31)) :: st) n m r ce sl Q) : xk_W E y pc Lc (.inl b :: .inl a :: st) n m r ce sl Q :=
  fun p l e s mid args below meth c H locs ls C R hf hL => lv_ishr C.1 C.2.1 hd (K p l e s mid args below meth c H locs ls C R hf hL)
theorem xk_idiv {a b : Int32} (hd : decode (xk_B y) pc = .ok (.idiv, 1)) (hb : ¬ b = 0) (K : xk_W E y (pc + 1) Lc (.inl (a / b) :: st) n m r ce sl Q) : xk_W E y pc Lc (.inl b :: .inl a :: st) n m r ce sl Q :=
  fun p l e s mid args below meth c H locs ls C R hf hL => lv_idiv C.1 C.2.1 hd hb (K p l e s mid args below meth c H locs ls C R hf hL)
theorem xk_irem {a b : Int32} (hd : decode (xk_B y) pc = .ok (.irem, 1)) (hb : ¬ b = 0) (K : xk_W E y (pc + 1) Lc (.inl (a - a / b * b) :: st) n m r ce sl Q) : xk_W E y pc Lc (.inl b :: .inl a :: st) n m r ce sl Q :=
  fun p l e s mid args below meth c H locs ls C R hf hL => lv_irem C.1 C.2.1 hd hb (K p l e s mid args below meth c H locs ls C R hf hL)
theorem xk_dup {v : xk_V} (hd : decode (xk_B y) pc = .ok (.dup, 1)) (K : xk_W E y (pc + 1) Lc (v :: v :: st) n m r ce sl Q) : xk_W E y pc Lc (v :: st) n m r ce sl Q :=
  fun p l e s mid args below meth c H locs ls C R hf hL => lv_dup C.1 C.2.1 hd (xk_cat E v) (K p l e s mid args below meth c H locs ls C R hf hL)
theorem xk_pop {v : xk_V} (hd : decode (xk_B y) pc = .ok (.pop, 1)) (K : xk_W E y (pc + 1) Lc st n m r ce sl Q) : xk_W E y pc Lc (v :: st) n m r ce sl Q :=
  fun p l e s mid args below meth c H locs ls C R hf hL => lv_pop C.1 C.2.1 hd (xk_cat E v) (K p l e s mid args below meth c H locs ls C R hf hL)
theorem xk_dup_x1 {v w : xk_V} (hd : decode (xk_B y) pc = .ok (.dup_x1, 1)) (K : xk_W E y (pc + 1) Lc (v :: w :: v :: st) n m r ce sl Q) : xk_W E y pc Lc (v :: w :: st) n m r ce sl Q :=
  fun p l e s mid args below meth c H locs ls C R hf hL => lv_dup_x1 C.1 C.2.1 hd (xk_cat E v) (xk_cat E w) (K p l e s mid args below meth c H locs ls C R hf hL)
theorem xk_dup2 {v w : xk_V} (hd : decode (xk_B y) pc = .ok (.dup2, 1)) (K : xk_W E y (pc + 1) Lc (v :: w :: v :: w :: st) n m r ce sl Q) : xk_W E y pc Lc (v :: w :: st) n m r ce sl Q :=
  fun p l e s mid args below meth c H locs ls C R hf hL => lv_dup2_11 C.1 C.2.1 hd (xk_cat E v) (xk_cat E w) (K p l e s mid args below meth c H locs ls C R hf hL)
theorem xk_goto {off : Int} {tgt : Nat} (hd : decode (xk_B y) pc = .ok (.goto off, 3)) (ht : (pc : Int) + off = (tgt : Int)) (K : xk_W E y tgt Lc st n m r ce sl Q) : xk_W E y pc Lc st n m r ce sl Q :=
  fun p l e s mid args below meth c H locs ls C R hf hL => lv_goto C.1 C.2.1 hd ht (K p l e s mid args below meth c H locs ls C R hf hL)
theorem xk_if_eq {x : Int32} {off : Int} {tgt : Nat} (hd : decode (xk_B y) pc = .ok (.ifCond .eq off, 3)) (ht : (pc : Int) + off = (tgt : Int)) (kt : x = 0 → xk_W E y tgt Lc st n m r ce sl Q) (kf : ¬ x = 0 → xk_W E y (pc + 3) Lc st n m r ce sl Q) : xk_W E y pc Lc (.inl x :: st) n m r ce sl Q :=
  fun p l e s mid args below meth c H locs ls C R hf hL => lv_if_eq C.1 C.2.1 hd ht (fun q => kt q p l e s mid args below meth c H locs ls C R hf hL) (fun q => kf q p l e s mid args below meth c H locs ls C R hf hL)
theorem xk_if_ne {x : Int32} {off : Int} {tgt : Nat} (hd : decode (xk_B y) pc = .ok (.ifCond .ne off, 3)) (ht : (pc : Int) + off = (tgt : Int)) (kt : ¬ x = 0 → xk_W E y tgt Lc st n m r ce sl Q) (kf : x = 0 → xk_W E y (pc + 3) Lc st n m r ce sl Q) : xk_W E y pc Lc (.inl x :: st) n m r ce sl Q :=
  fun p l e s mid args below meth c H locs ls C R hf hL => lv_if_ne C.1 C.2.1 hd ht (fun q => kt q p l e s mid args below meth c H locs ls C R hf hL) (fun q => kf q p l e s mid args below meth c H locs ls C R hf hL)
theorem xk_if_lt {x : Int32} {off : Int} {tgt : Nat} (hd : decode (xk_B y) pc = .ok (.ifCond .lt off, 3)) (ht : (pc : Int) + off = (tgt : Int)) (kt : x < 0 → xk_W E y tgt Lc st n m r ce sl Q) (kf : ¬ x < 0 → xk_W E y (pc + 3) Lc st n m r ce sl Q) : xk_W E y pc Lc (.inl x :: st) n m r ce sl Q :=
  fun p l e s mid args below meth c H locs ls C R hf hL => lv_if_lt C.1 C.2.1 hd ht (fun q => kt q p l e s mid args below meth c H locs ls C R hf hL) (fun q => kf q p l e s mid args below meth c H locs ls C R hf hL)
theorem xk_if_ge {x : Int32} {off : Int} {tgt : Nat} (hd : decode (xk_B y) pc = .ok (.ifCond .ge off, 3)) (ht : (pc : Int) + off = (tgt : Int)) (kt : 0 ≤ x → xk_W E y tgt Lc st n m r ce sl Q) (kf : ¬ 0 ≤ x → xk_W E y (pc + 3) Lc st n m r ce sl Q) : xk_W E y pc Lc (.inl x :: st) n m r ce sl Q :=
  fun p l e s mid args below meth c H locs ls C R hf hL => lv_if_ge C.1 C.2.1 hd ht (fun q => kt q p l e s mid args below meth c H locs ls C R hf hL) (fun q => kf q p l e s mid args below meth c H locs ls C R hf hL)
theorem xk_if_gt {x : Int32} {off : Int} {tgt : Nat} (hd : decode (xk_B y) pc = .ok (.ifCond .gt off, 3)) (ht : (pc : Int) + off = (tgt : Int)) (kt : 0 < x → xk_W E y tgt Lc st n m r ce sl Q) (kf : ¬ 0 < x → xk_W E y (pc + 3) Lc st n m r ce sl Q) : xk_W E y pc Lc (.inl x :: st) n m r ce sl Q :=
  fun p l e s mid args below meth c H locs ls C R hf hL => lv_if_gt C.1 C.2.1 hd ht (fun q => kt q p l e s mid args below meth c H locs ls C R hf hL) (fun q => kf q p l e s mid args below meth c H locs ls C R hf hL)
theorem xk_if_le {x : Int32} {off : Int} {tgt : Nat} (hd : decode (xk_B y) pc = .ok (.ifCond .le off, 3)) (ht : (pc : Int) + off = (tgt : Int)) (kt : x ≤ 0 → xk_W E y tgt Lc st n m r ce sl Q) (kf : ¬ x ≤ 0 → xk_W E y (pc + 3) Lc st n m r ce sl Q) : xk_W E y pc Lc (.inl x :: st) n m r ce sl Q :=
  fun p l e s mid args below meth c H locs ls C R hf hL => lv_if_le C.1 C.2.1 hd ht (fun q => kt q p l e s mid args below meth c H locs ls C R hf hL) (fun q => kf q p l e s mid args below meth c H locs ls C R hf hL)
theorem xk_icmp_eq {x z : Int32} {off : Int} {tgt : Nat} (hd : decode (xk_B y) pc = .ok (.if_icmp .eq off, 3)) (ht : (pc : Int) + off = (tgt : Int)) (kt : x = z → xk_W E y tgt Lc st n m r ce sl Q) (kf : ¬ x = z → xk_W E y (pc + 3) Lc st n m r ce sl Q) : xk_W E y pc Lc (.inl z :: .inl x :: st) n m r ce sl Q :=
  fun p l e s mid args below meth c H locs ls C R hf hL => lv_icmp_eq C.1 C.2.1 hd ht (fun q => kt q p l e s mid args below meth c H locs ls C R hf hL) (fun q => kf q p l e s mid args below meth c H locs ls C R hf hL)
theorem xk_icmp_ne {x z : Int32} {off : Int} {tgt : Nat} (hd : decode (xk_B y) pc = .ok (.if_icmp .ne off, 3)) (ht : (pc : Int) + off = (tgt : Int)) (kt : ¬ x = z → xk_W E y tgt Lc st n m r ce sl Q) (kf : x = z → xk_W E y (pc + 3) Lc st n m r ce sl Q) : xk_W E y pc Lc (.inl z :: .inl x :: st) n m r ce sl Q :=
  fun p l e s mid args below meth c H locs ls C R hf hL => lv_icmp_ne C.1 C.2.1 hd ht (fun q => kt q p l e s mid args below meth c H locs ls C R hf hL) (fun q => kf q p l e s mid args below meth c H locs ls C R hf hL)
theorem xk_icmp_lt {x z : Int32} {off : Int} {tgt : Nat} (hd : decode (xk_B y) pc = .ok (.if_icmp .lt off, 3)) (ht : (pc : Int) + off = (tgt : Int)) (kt : x < z → xk_W E y tgt Lc st n m r ce sl Q) (kf : ¬ x < z → xk_W E y (pc + 3) Lc st n m r ce sl Q) : xk_W E y pc Lc (.inl z :: .inl x :: st) n m r ce sl Q :=
  fun p l e s mid args below meth c H locs ls C R hf hL => lv_icmp_lt C.1 C.2.1 hd ht (fun q => kt q p l e s mid args below meth c H locs ls C R hf hL) (fun q => kf q p l e s mid args below meth c H locs ls C R hf hL)
theorem xk_icmp_ge {x z : Int32} {off : Int} {tgt : Nat} (hd : decode (xk_B y) pc = .ok (.if_icmp .ge off, 3)) (ht : (pc : Int) + off = (tgt : Int)) (kt : z ≤ x → xk_W E y tgt Lc st n m r ce sl Q) (kf : ¬ z ≤ x → xk_W E y (pc + 3) Lc st n m r ce sl Q) : xk_W E y pc Lc (.inl z :: .inl x :: st) n m r ce sl Q :=
  fun p l e s mid args below meth c H locs ls C R hf hL => lv_icmp_ge C.1 C.2.1 hd ht (fun q => kt q p l e s mid args below meth c H locs ls C R hf hL) (fun q => kf q p l e s mid args below meth c H locs ls C R hf hL)
theorem xk_icmp_gt {x z : Int32} {off : Int} {tgt : Nat} (hd : decode (xk_B y) pc = .ok (.if_icmp .gt off, 3)) (ht : (pc : Int) + off = (tgt : Int)) (kt : z < x → xk_W E y tgt Lc st n m r ce sl Q) (kf : ¬ z < x → xk_W E y (pc + 3) Lc st n m r ce sl Q) : xk_W E y pc Lc (.inl z :: .inl x :: st) n m r ce sl Q :=
  fun p l e s mid args below meth c H locs ls C R hf hL => lv_icmp_gt C.1 C.2.1 hd ht (fun q => kt q p l e s mid args below meth c H locs ls C R hf hL) (fun q => kf q p l e s mid args below meth c H locs ls C R hf hL)
theorem xk_icmp_le {x z : Int32} {off : Int} {tgt : Nat} (hd : decode (xk_B y) pc = .ok (.if_icmp .le off, 3)) (ht : (pc : Int) + off = (tgt : Int)) (kt : x ≤ z → xk_W E y tgt Lc st n m r ce sl Q) (kf : ¬ x ≤ z → xk_W E y (pc + 3) Lc st n m r ce sl Q) : xk_W E y pc Lc (.inl z :: .inl x :: st) n m r ce sl Q :=
  fun p l e s mid args below meth c H locs ls C R hf hL => lv_icmp_le C.1 C.2.1 hd ht (fun q => kt q p l e s mid args below meth c H locs ls C R hf hL) (fun q => kf q p l e s mid args below meth c H locs ls C R hf hL)
theorem xk_ifnull {o : Option Nat} {off : Int} {tgt : Nat} (hd : decode (xk_B y) pc = .ok (.ifnull off, 3)) (ht : (pc : Int) + off = (tgt : Int)) (kt : o = none → xk_W E y tgt Lc st n m r ce sl Q) (kf : ∀ a, o = some a → xk_W E y (pc + 3) Lc st n m r ce sl Q) : xk_W E y pc Lc (.inr o :: st) n m r ce sl Q :=
  fun p l e s mid args below meth c H locs ls C R hf hL => by
    cases o with
    | none => exact lv_ifnullN C.1 C.2.1 hd ht (kt rfl p l e s mid args below meth c H locs ls C R hf hL)
    | some a => exact lv_ifnull C.1 C.2.1 hd (kf a rfl p l e s mid args below meth c H locs ls C R hf hL)
theorem xk_ifnonnull {o : Option Nat} {off : Int} {tgt : Nat} (hd : decode (xk_B y) pc = .ok (.ifnonnull off, 3)) (ht : (pc : Int) + off = (tgt : Int)) (kt : ∀ a, o = some a → xk_W E y tgt Lc st n m r ce sl Q) (kf : o = none → xk_W E y (pc + 3) Lc st n m r ce sl Q) : xk_W E y pc Lc (.inr o :: st) n m r ce sl Q :=
  fun p l e s mid args below meth c H locs ls C R hf hL => by
    cases o with
    | none => exact lv_ifnonnullN C.1 C.2.1 hd (kf rfl p l e s mid args below meth c H locs ls C R hf hL)
    | some a => exact lv_ifnonnull C.1 C.2.1 hd ht (kt a rfl p l e s mid args below meth c H locs ls C R hf hL)
theorem xk_tableOut {dflt lo hi : Int} {offs : Array Int} {len : Nat} {x : Int32} {tgt : Nat} (hd : decode (xk_B y) pc = .ok (.tableswitch dflt lo hi offs, len)) (h : x.toInt < lo ∨ hi < x.toInt) (ht : (pc : Int) + dflt = (tgt : Int)) (K : xk_W E y tgt Lc st n m r ce sl Q) : xk_W E y pc Lc (.inl x :: st) n m r ce sl Q :=
  fun p l e s mid args below meth c H locs ls C R hf hL => lv_tableOut C.1 C.2.1 hd h ht (K p l e s mid args below meth c H locs ls C R hf hL)
theorem xk_tableIn {dflt lo hi : Int} {offs : Array Int} {len : Nat} {x : Int32} {off : Int} {tgt : Nat} (hd : decode (xk_B y) pc = .ok (.tableswitch dflt lo hi offs, len)) (h1 : ¬ x.toInt < lo) (h2 : ¬ hi < x.toInt) (ho : offs[(x.toInt - lo).toNat]? = some off) (ht : (pc : Int) + off = (tgt : Int)) (K : xk_W E y tgt Lc st n m r ce sl Q) : xk_W E y pc Lc (.inl x :: st) n m r ce sl Q :=
  fun p l e s mid args below meth c H locs ls C R hf hL => lv_tableIn C.1 C.2.1 hd h1 h2 ho ht (K p l e s mid args below meth c H locs ls C R hf hL)
end XK
