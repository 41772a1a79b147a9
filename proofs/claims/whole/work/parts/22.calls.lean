/-! the machine's calls and returns -/
def xk_Pc (E : xk_E) (as : List xk_V) (n : Nat) (m : xk_M) (r : xk_P) : Array Value → State → Prop := fun av U => av = (as.map (xk_v E)).toArray ∧ xk_R E n m r U.heap ∧ xk_K E U
theorem xk_blind {E : xk_E} {as : List xk_V} {n : Nat} {m : xk_M} {r : xk_P} : FrameBlind (xk_Pc E as n m r) := fun _ _ _ _ h => ⟨h.1, h.2.1, h.2.2.same rfl⟩
/-- what is asked once of a method: its words -/
def xk_mok (y : xk_Y) (np : Nat) : Prop := y.1 = false ∧ plainName (xk_cls y) = true ∧ Cond.code (xk_N y) (xk_B y) (xk_L y) (xk_ret y) ∈ xk_kt ∧ Cond.initialized (xk_cls y) ∈ xk_kt ∧ (xk_cls y ≠ "java/lang/invoke/MethodHandle" ∧ xk_cls y ≠ "java/lang/invoke/VarHandle") ∧ (parseMethodDescriptor (xk_N y).desc).map (fun d => d.parameters.length) = some np
/-- the locals at a method's entry -/
def xk_ent (y : xk_Y) (as : List xk_V) : List (Option xk_V) := as.map some ++ List.replicate (xk_L y - as.length) none
theorem xk_sl1 (E : xk_E) (as : List xk_V) : lg_sl (as.map (xk_v E)) = as.map (fun v => Slot.val (xk_v E v)) := by
  induction as with
  | nil => rfl
  | cons v as ih =>
    show (if (xk_v E v).category = 2 then _ else _) ++ lg_sl (as.map (xk_v E)) = _
    rw [if_neg (by rw [xk_cat]; decide), ih]
    rfl
theorem xk_args1 (E : xk_E) (as : List xk_V) : ∀ (i j : Nat) (v : xk_V), as[j]? = some v → (i + j, xk_v E v) ∈ lv_args i (as.map (xk_v E)) := by
  induction as with
  | nil => intro i j v h; simp at h
  | cons w as ih =>
    intro i j v h
    rw [List.map_cons]
    unfold lv_args
    rw [if_neg (by rw [xk_cat]; decide)]
    cases j with
    | zero =>
      rw [List.getElem?_cons_zero] at h
      cases h
      exact List.mem_cons_self
    | succ j =>
      rw [List.getElem?_cons_succ] at h
      have := ih (i + 1) j v h
      rw [show i + 1 + j = i + (j + 1) by omega] at this
      exact List.mem_cons_of_mem _ this
theorem xk_met {E : xk_E} {y : xk_Y} {np n : Nat} {as : List xk_V} {m : xk_M} {r : xk_P} {Q : xk_Q} (hm : xk_mok y np) (hlen : as.length ≤ xk_L y) (B : xk_W E y 0 (xk_ent y as) [] n m r 0 0 Q) (l : Launch) : Met l (xk_N y) (xk_ws y) (xk_Rm y) (xk_Pc E as n m r) (xk_Qc E Q) (xk_Rm y).cells (xk_Rm y).slots (xk_fr E) := by
  obtain ⟨h0, h1, -, -, -, -⟩ := hm
  refine Met.ofW (cc := xk_B y) (maxL := xk_L y) (ret := xk_ret y) h1 rfl ?_
  intro p e s mid av below meth c s₁ Bd hml hv
  obtain ⟨rfl, hR, hK⟩ := hv
  have hts := atoms_spec (ws := xk_ws y) Bd.pre
  have hl := lv_entry (as.map (xk_v E)) (n := xk_L y) (by rw [xk_sl1, List.length_map]; exact hlen)
  rw [lg_entry_eq]
  generalize (lg_sl (as.map (xk_v E)) ++ List.replicate (xk_L y - (lg_sl (as.map (xk_v E))).length) Slot.unset).toArray = ls at hl ⊢
  have hLo : xk_Lo E ls (xk_L y) (xk_ent y as) := by
    refine ⟨hl.1, hl.2.1, fun i v hi => ?_⟩
    have hi2 : as[i]? = some v := by
      unfold xk_ent at hi
      by_cases hlt : i < (as.map (some : xk_V → Option xk_V)).length
      · rw [List.getElem?_append_left hlt, List.getElem?_map] at hi
        cases ha : as[i]? with
        | none => rw [ha] at hi; cases hi
        | some w => rw [ha] at hi; cases hi; rfl
      · rw [List.getElem?_append_right (by omega)] at hi
        have := List.eq_of_mem_replicate (List.mem_of_getElem? hi)
        cases this
    have := xk_args1 E as 0 i v hi2
    rw [Nat.zero_add] at this
    exact hl.2.2 _ this
  have K := B p l e s mid (as.map (xk_v E)).toArray below meth c s.heap [] ls ⟨Bd.exec, Bd.bytes, Bd.returns, hml, findClass_of_methodNamed Bd.named, fun w hw => hts w (List.mem_cons_of_mem _ hw), Bd.notSynchronized, fun _ => (name_of_methodNamed Bd.named Bd.method).1, hK, fun h => by rw [h0] at h; cases h⟩ hR (fun q h => by cases h) hLo
  rw [xk_Fin_m h0] at K
  exact K
/-- the rooms of a caller and its callee -/
def xk_room (y z : xk_Y) : Bool := Nat.ble ((xk_Rm z).frames + 1) (xk_Rm y).frames && Nat.ble (8 + (xk_L z + 11) + (xk_Rm z).locals) (xk_Rm y).locals
theorem xk_sum (E : xk_E) (st : List xk_V) : ((st.map (xk_v E)).map fun v => v.category).sum = st.length := by
  induction st with
  | nil => rfl
  | cons v st ih =>
    rw [List.map_cons, List.map_cons, List.sum_cons, ih, xk_cat, List.length_cons]
    omega
theorem xk_kt_pay {args : Array Value} {s : State} {y : xk_Y} (hts : ∀ w ∈ xk_kt, w.before args s = true) (hc : Cond.code (xk_N y) (xk_B y) (xk_L y) (xk_ret y) ∈ xk_kt) : ∀ w ∈ xk_ws y, ∀ (a' : Array Value) (U : State), s.WarmedH U.vm → w.before a' U = true := by
  intro w hw a' U hW
  have hk : w ∈ xk_kt := by
    rcases List.mem_cons.mp hw with rfl | h
    · exact hc
    · exact h
  exact word_at hW (xk_kt_good w hk) (hts w hk)
section XC
variable {E : xk_E} {y : xk_Y} {pc n ce sl : Nat} {Lc : List (Option xk_V)} {st : List xk_V} {m : xk_M} {r : xk_P} {Q : xk_Q}
/-- what goes on behind a call -/
def xk_on (E : xk_E) (y : xk_Y) (pc : Nat) (Lc : List (Option xk_V)) (st : List xk_V) (ce sl : Nat) (Q : xk_Q) : xk_Q := fun v n' m' r' => xk_W E y pc Lc (v.toList ++ st) n' m' r' ce sl Q
theorem xk_behind {p : Program} {l : Launch} {e : Env} {s : State} {mid : MethodId} {args : Array Value} {below : List Frame} {meth : Method} {c : Code} {H : Heap} {locs : List Loc} {ls : Array Slot} {z : xk_Y} {st0 : List Value} {av : Array Value}
    (C : xk_C E y p s mid args meth c) (hf : ∀ q ∈ locs, xk_fr E q.base) (hL : xk_Lo E ls (xk_L y) Lc)
    (hr : va_Run p l e (xk_Rm y) s mid args below meth c H locs ce sl (xk_Rm z).cells (xk_Rm z).slots (F0 mid pc ls st0) (st.map (xk_v E)) (xk_Qc E (xk_on E y (pc + 3) Lc st (ce + (xk_Rm z).cells) (sl + (xk_Rm z).slots) Q) av) (xk_fr E)) :
    W p l e (xk_Rm y) s mid args below meth c H locs ce sl (xk_Fin E y Q below args s) (F0 mid pc ls st0) := by
  intro T hT X
  obtain ⟨v, st₀, t, T', L, h0, X', hL2, e1, e2, ⟨v', n', m', r', hv, hq, hR'⟩, go⟩ := hr T hT X
  have hv2 : v = v'.map (xk_v E) := Outcome.returned.inj hv
  subst hv2
  have K := hq p l e s mid args below meth c T'.heap (locs ++ L) ls C (by rw [e1]; exact hR') (t_lL hf hL2) hL
  obtain ⟨t2, a1, b1⟩ := K T' rfl X'
  refine ⟨t2, go t2 ?_, b1⟩
  have e : ((v'.toList ++ st).map (xk_v E)) = (v'.map (xk_v E)).toList ++ st.map (xk_v E) := by
    cases v' <;> rfl
  rw [e] at a1
  exact a1
/-- a link to method z from 'own' at 'idx' -/
def xk_ML (own : String) (idx : Nat) (z : xk_Y) : Prop := Cond.methodLink own idx (xk_N z) ∈ xk_kt ∨ ∃ host, Cond.methodLinkNest own idx (xk_N z) host ∈ xk_nw
theorem xk_callV {z : xk_Y} {idx np ci a : Nat} {q : vw_C} {as : List xk_V} (hd : decode (xk_B y) pc = .ok (.invokevirtual idx, 3)) (hl : xk_ML (xk_cls y) idx z) (hm : xk_mok z np) (hi : Cond.instanceMethod (xk_N z) ∈ xk_kt) (hse : Cond.selects (xk_cls z) (xk_N z) (xk_N z) ∈ xk_kt) (hroom : xk_room y z = true)
    (hk : xk_kd a = .inl ci) (hq : xk_cl[ci]? = some q) (hq1 : q.1 = xk_cls z) (ha : 1 ≤ a) (hn : a < n) (has : as.length = np) (hlen : np + 1 ≤ xk_L z) (hst : st.length ≤ 8) (hc : ce + (xk_Rm z).cells ≤ (xk_Rm y).cells) (hs : sl + (xk_Rm z).slots ≤ (xk_Rm y).slots)
    (B : xk_W E z 0 (xk_ent z (.inr (some a) :: as)) [] n m r 0 0 (xk_on E y (pc + 3) Lc st (ce + (xk_Rm z).cells) (sl + (xk_Rm z).slots) Q)) : xk_W E y pc Lc (as.reverse ++ .inr (some a) :: st) n m r ce sl Q := by
  intro p l e s mid args below meth c H locs ls C R hf hL
  have C0 := C
  obtain ⟨hx, hb, -, hml, hown, hts, -, -, hKK, -⟩ := C
  have hM := xk_met hm (as := .inr (some a) :: as) (by rw [List.length_cons]; omega) B l
  obtain ⟨h0, hpl, hcd, hini, hy, hd2⟩ := hm
  have hd3 : ∀ sig, parseMethodDescriptor (xk_N z).desc = some sig → np = sig.parameters.length := fun sig h => by
    rw [h] at hd2
    exact (Option.some.inj hd2).symm
  unfold xk_room at hroom
  rw [Bool.and_eq_true] at hroom
  have hrm := And.intro (Nat.le_of_ble_eq_true hroom.1) (Nat.le_of_ble_eq_true hroom.2)
  have hcell := R.2.2.1 a ha hn
  unfold xk_cell at hcell
  rw [hk] at hcell
  obtain ⟨q', hq', cellV, g1, g2, g3, -⟩ := hcell
  cases hq.symm.trans hq'
  have hpv : PreV s H (xk_cls z) (xk_ad E a) (xk_Pc E (.inr (some a) :: as) n m r) (as.map (xk_v E)) := ⟨xk_blind, ⟨cellV, g1, by rw [g3]; rfl, by rw [g2, ← hq1]; exact (hKK.1.1 ci q hq).2.1⟩, fun U hU hW => ⟨rfl, by rw [hU]; exact R, hKK.warm hW⟩⟩
  have est : ((as.reverse ++ Sum.inr (some a) :: st : List xk_V).map (xk_v E)) = (as.map (xk_v E)).reverse ++ .ref (xk_ad E a) :: st.map (xk_v E) := by
    rw [List.map_append, List.map_reverse]
    rfl
  rw [est]
  have hsum : 2 * (F0 mid pc ls ((as.map (xk_v E)).reverse ++ .ref (xk_ad E a) :: st.map (xk_v E))).monitorRoom + ((st.map (xk_v E)).map fun v => v.category).sum ≤ 8 := lv_room (by rw [xk_sum]; exact hst)
  rcases hl with hl | ⟨host, hl⟩
  · exact xk_behind C0 hf hL (va_runV (C := xk_cls z) (n := np) (Ts := xk_kt) ⟨hx, hb, hml, hown, hts⟩ hM ⟨⟨rfl, rfl, hrm.1, hrm.2, xk_kt_pay hts hcd, List.mem_cons_self, hts _ hcd, hts _ hini, hy, hd3, hts _ hl⟩, hts _ hi, hts _ hse⟩ hpv rfl (by rw [List.length_map]; exact has) hL.1 rfl hsum hd ⟨hc, hs⟩)
  · exact xk_behind C0 hf hL (va_runVN (C := xk_cls z) (n := np) (Ts := xk_kt) ⟨hx, hb, hml, hown, hts⟩ hM ⟨⟨⟨rfl, rfl, hrm.1, hrm.2, xk_kt_pay hts hcd, List.mem_cons_self⟩, hts _ hcd, hts _ hini, hy, hd3, va_Nw.use rfl (hKK.2.2.1 _ hl)⟩, hts _ hi, hts _ hse⟩ hpv rfl (by rw [List.length_map]; exact has) hL.1 rfl hsum hd ⟨hc, hs⟩)
theorem xk_callS {z : xk_Y} {idx np : Nat} {as : List xk_V} (hd : decode (xk_B y) pc = .ok (.invokestatic idx, 3)) (hl : xk_ML (xk_cls y) idx z) (hm : xk_mok z np) (hi : Cond.static (xk_N z) ∈ xk_kt) (hroom : xk_room y z = true)
    (has : as.length = np) (hlen : np ≤ xk_L z) (hst : st.length ≤ 8) (hc : ce + (xk_Rm z).cells ≤ (xk_Rm y).cells) (hs : sl + (xk_Rm z).slots ≤ (xk_Rm y).slots)
    (B : xk_W E z 0 (xk_ent z as) [] n m r 0 0 (xk_on E y (pc + 3) Lc st (ce + (xk_Rm z).cells) (sl + (xk_Rm z).slots) Q)) : xk_W E y pc Lc (as.reverse ++ st) n m r ce sl Q := by
  intro p l e s mid args below meth c H locs ls C R hf hL
  have C0 := C
  obtain ⟨hx, hb, -, hml, hown, hts, -, -, hKK, -⟩ := C
  have hM := xk_met hm (as := as) (by omega) B l
  obtain ⟨h0, hpl, hcd, hini, hy, hd2⟩ := hm
  have hd3 : ∀ sig, parseMethodDescriptor (xk_N z).desc = some sig → np = sig.parameters.length := fun sig h => by
    rw [h] at hd2
    exact (Option.some.inj hd2).symm
  unfold xk_room at hroom
  rw [Bool.and_eq_true] at hroom
  have hrm := And.intro (Nat.le_of_ble_eq_true hroom.1) (Nat.le_of_ble_eq_true hroom.2)
  have hpv : PreS s H (xk_Pc E as n m r) (as.map (xk_v E)) := ⟨xk_blind, fun U hU hW => ⟨rfl, by rw [hU]; exact R, hKK.warm hW⟩⟩
  have est : ((as.reverse ++ st : List xk_V).map (xk_v E)) = (as.map (xk_v E)).reverse ++ st.map (xk_v E) := by
    rw [List.map_append, List.map_reverse]
  rw [est]
  have hsum : 2 * (F0 mid pc ls ((as.map (xk_v E)).reverse ++ st.map (xk_v E))).monitorRoom + ((st.map (xk_v E)).map fun v => v.category).sum ≤ 8 := lv_room (by rw [xk_sum]; exact hst)
  rcases hl with hl | ⟨host, hl⟩
  · exact xk_behind C0 hf hL (va_runS (n := np) (Ts := xk_kt) ⟨hx, hb, hml, hown, hts⟩ hM ⟨⟨rfl, rfl, hrm.1, hrm.2, xk_kt_pay hts hcd, List.mem_cons_self, hts _ hcd, hts _ hini, hy, hd3, hts _ hl⟩, hts _ hi⟩ hpv rfl (by rw [List.length_map]; exact has) hL.1 rfl hsum hd ⟨hc, hs⟩)
  · exact xk_behind C0 hf hL (va_runSN (n := np) (Ts := xk_kt) ⟨hx, hb, hml, hown, hts⟩ hM ⟨⟨⟨rfl, rfl, hrm.1, hrm.2, xk_kt_pay hts hcd, List.mem_cons_self⟩, hts _ hcd, hts _ hini, hy, hd3, va_Nw.use rfl (hKK.2.2.1 _ hl)⟩, hts _ hi, trivial⟩ hpv rfl (by rw [List.length_map]; exact has) hL.1 rfl hsum hd ⟨hc, hs⟩)
theorem xk_callI {z : xk_Y} {idx np a : Nat} {as : List xk_V} (hd : decode (xk_B y) pc = .ok (.invokespecial idx, 3)) (hl : xk_ML (xk_cls y) idx z) (hm : xk_mok z np) (hret : xk_ret z = none) (hnm : (xk_N z).name = "<init>") (hi : Cond.instanceMethod (xk_N z) ∈ xk_kt) (hroom : xk_room y z = true)
    (has : as.length = np) (hlen : np + 1 ≤ xk_L z) (hst : st.length ≤ 8) (hc : ce + (xk_Rm z).cells ≤ (xk_Rm y).cells) (hs : sl + (xk_Rm z).slots ≤ (xk_Rm y).slots)
    (B : xk_W E z 0 (xk_ent z (.inr (some a) :: as)) [] n m r 0 0 (xk_on E y (pc + 3) Lc st (ce + (xk_Rm z).cells) (sl + (xk_Rm z).slots) Q)) : xk_W E y pc Lc (as.reverse ++ .inr (some a) :: st) n m r ce sl Q := by
  intro p l e s mid args below meth c H locs ls C R hf hL
  have C0 := C
  obtain ⟨hx, hb, -, hml, hown, hts, -, -, hKK, -⟩ := C
  have hM := xk_met hm (as := .inr (some a) :: as) (by rw [List.length_cons]; omega) B l
  obtain ⟨h0, hpl, hcd, hini, hy, hd2⟩ := hm
  have hd3 : ∀ sig, parseMethodDescriptor (xk_N z).desc = some sig → np = sig.parameters.length := fun sig h => by
    rw [h] at hd2
    exact (Option.some.inj hd2).symm
  unfold xk_room at hroom
  rw [Bool.and_eq_true] at hroom
  have hrm := And.intro (Nat.le_of_ble_eq_true hroom.1) (Nat.le_of_ble_eq_true hroom.2)
  have hpv : PreS s H (xk_Pc E (.inr (some a) :: as) n m r) (.ref (xk_ad E a) :: as.map (xk_v E)) := ⟨xk_blind, fun U hU hW => ⟨rfl, by rw [hU]; exact R, hKK.warm hW⟩⟩
  have est : ((as.reverse ++ Sum.inr (some a) :: st : List xk_V).map (xk_v E)) = (as.map (xk_v E)).reverse ++ .ref (xk_ad E a) :: st.map (xk_v E) := by
    rw [List.map_append, List.map_reverse]
    rfl
  rw [est]
  have hsum : 2 * (F0 mid pc ls ((as.map (xk_v E)).reverse ++ .ref (xk_ad E a) :: st.map (xk_v E))).monitorRoom + ((st.map (xk_v E)).map fun v => v.category).sum ≤ 8 := lv_room (by rw [xk_sum]; exact hst)
  have hpay := xk_kt_pay (y := z) hts hcd
  have hin : Cond.code (xk_N z) (xk_B z) (xk_L z) none ∈ xk_ws z := by rw [← hret]; exact List.mem_cons_self
  have hcd2 : Cond.code (xk_N z) (xk_B z) (xk_L z) none ∈ xk_kt := by rw [← hret]; exact hcd
  rcases hl with hl | ⟨host, hl⟩
  · exact xk_behind C0 hf hL (va_runI (bytes := xk_B z) (maxL := xk_L z) (n := np) (Ts := xk_kt) ⟨hx, hb, hml, hown, hts⟩ hM ⟨⟨rfl, rfl, hrm.1, hrm.2, hpay, hin, hts _ hcd2, hts _ hini, hy, hd3, hts _ hl⟩, hnm, hts _ hi⟩ hpv rfl (by rw [List.length_map]; exact has) hL.1 rfl hsum hd ⟨hc, hs⟩)
  · exact xk_behind C0 hf hL (va_runIN (bytes := xk_B z) (maxL := xk_L z) (n := np) (Ts := xk_kt) ⟨hx, hb, hml, hown, hts⟩ hM ⟨⟨⟨rfl, rfl, hrm.1, hrm.2, hpay, hin⟩, hts _ hcd2, hts _ hini, hy, hd3, va_Nw.use rfl (hKK.2.2.1 _ hl)⟩, hnm, hts _ hi⟩ hpv rfl (by rw [List.length_map]; exact has) hL.1 rfl hsum hd ⟨hc, hs⟩)
theorem xk_objInit {idx a : Nat} (hd : decode (xk_B y) pc = .ok (.invokespecial idx, 3)) (h1 : Cond.methodLink (xk_cls y) idx Lib.objectInit ∈ xk_kt) (h2 : Cond.instanceMethod Lib.objectInit ∈ xk_kt) (h3 : Cond.code Lib.objectInit ⟨#[0xb1]⟩ 1 none ∈ xk_kt) (hfr : 1 ≤ (xk_Rm y).frames) (hlo : st.length + 12 ≤ (xk_Rm y).locals)
    (K : xk_W E y (pc + 3) Lc st n m r ce sl Q) : xk_W E y pc Lc (.inr (some a) :: st) n m r ce sl Q := by
  intro p l e s mid args below meth c H locs ls C R hf hL
  obtain ⟨hx, hb, -, hml, hown, hts, -⟩ := id C
  refine W.objInit (rest := st.map (xk_v E)) hx hb hown (hts _ h1) (hts _ h2) (hts _ h3) rfl (by rw [hml]; exact hL.1) rfl hd hfr ?_ (K p l e s mid args below meth c H locs ls C R hf hL)
  have : (F0 mid pc ls ((Sum.inr (some a) :: st).map (xk_v E))).monitorRoom = 0 := rfl
  rw [this, xk_sum]
  omega
theorem xk_mmax {idx : Nat} {a b : Int32} (hd : decode (xk_B y) pc = .ok (.invokestatic idx, 3)) (h1 : Cond.methodLink (xk_cls y) idx Lib.Math.max.name ∈ xk_kt) (h2 : Cond.static Lib.Math.max.name ∈ xk_kt) (h3 : Cond.initialized "java/lang/Math" ∈ xk_kt) (h4 : Cond.code Lib.Math.max.name Lib.Math.max.code 2 (some .int) ∈ xk_kt) (hfr : 1 ≤ (xk_Rm y).frames) (hlo : st.length + 13 ≤ (xk_Rm y).locals) (hc : ce ≤ (xk_Rm y).cells) (hs : sl ≤ (xk_Rm y).slots)
    (K : xk_W E y (pc + 3) Lc (.inl (if a < b then b else a) :: st) n m r ce sl Q) : xk_W E y pc Lc (.inl b :: .inl a :: st) n m r ce sl Q := by
  intro p l e s mid args below meth c H locs ls C R hf hL
  obtain ⟨hx, hb, -, hml, hown, hts, -⟩ := id C
  exact va_mmax (rest := st.map (xk_v E)) hx hb (hml.trans hL.1.symm) hown (hts _ h1) (hts _ h2) (hts _ h3) (hts _ h4) hfr (by rw [xk_sum]; exact hlo) hc hs hd (K p l e s mid args below meth c H locs ls C R hf hL)
theorem xk_mmin {idx : Nat} {a b : Int32} (hd : decode (xk_B y) pc = .ok (.invokestatic idx, 3)) (h1 : Cond.methodLink (xk_cls y) idx Lib.Math.min.name ∈ xk_kt) (h2 : Cond.static Lib.Math.min.name ∈ xk_kt) (h3 : Cond.initialized "java/lang/Math" ∈ xk_kt) (h4 : Cond.code Lib.Math.min.name Lib.Math.min.code 2 (some .int) ∈ xk_kt) (hfr : 1 ≤ (xk_Rm y).frames) (hlo : st.length + 13 ≤ (xk_Rm y).locals) (hc : ce ≤ (xk_Rm y).cells) (hs : sl ≤ (xk_Rm y).slots)
    (K : xk_W E y (pc + 3) Lc (.inl (if b < a then b else a) :: st) n m r ce sl Q) : xk_W E y pc Lc (.inl b :: .inl a :: st) n m r ce sl Q := by
  intro p l e s mid args below meth c H locs ls C R hf hL
  obtain ⟨hx, hb, -, hml, hown, hts, -⟩ := id C
  exact va_mmin (rest := st.map (xk_v E)) hx hb (hml.trans hL.1.symm) hown (hts _ h1) (hts _ h2) (hts _ h3) (hts _ h4) hfr (by rw [xk_sum]; exact hlo) hc hs hd (K p l e s mid args below meth c H locs ls C R hf hL)
theorem xk_iret {v : Int32} (hy : y.1 = false) (hd : decode (xk_B y) pc = .ok (.ireturn, 1)) (hr : xk_ret y = some .int) (hc : ce ≤ (xk_Rm y).cells) (hs : sl ≤ (xk_Rm y).slots) (hq : Q (some (.inl v)) n m r) : xk_W E y pc Lc [.inl v] n m r ce sl Q := by
  intro p l e s mid args below meth c H locs ls C R hf hL
  have hlocks : meth.locks = false := C.2.2.2.2.2.2.1
  rw [xk_Fin_m hy]
  refine W.widen hc hs ?_
  exact W.iret (v := v) C.1 C.2.1 (C.2.2.1.trans hr) (fun t ht hW => ⟨some (.inl v), n, m, r, rfl, hq, by rw [ht]; exact R⟩) hf hd hlocks
theorem xk_zret {v : Int32} (hy : y.1 = false) (hd : decode (xk_B y) pc = .ok (.ireturn, 1)) (hr : xk_ret y = some .boolean) (hv : narrow .boolean (.int v) = .int v) (hc : ce ≤ (xk_Rm y).cells) (hs : sl ≤ (xk_Rm y).slots) (hq : Q (some (.inl v)) n m r) : xk_W E y pc Lc [.inl v] n m r ce sl Q := by
  intro p l e s mid args below meth c H locs ls C R hf hL
  have hlocks : meth.locks = false := C.2.2.2.2.2.2.1
  rw [xk_Fin_m hy]
  refine W.widen hc hs ?_
  exact W.zret (v := v) C.1 C.2.1 (C.2.2.1.trans hr) hv (fun t ht hW => ⟨some (.inl v), n, m, r, rfl, hq, by rw [ht]; exact R⟩) hf hd hlocks
theorem xk_aret {o : Option Nat} {D : String} (hy : y.1 = false) (hd : decode (xk_B y) pc = .ok (.areturn, 1)) (hr : xk_ret y = some (.object D)) (hc : ce ≤ (xk_Rm y).cells) (hs : sl ≤ (xk_Rm y).slots) (hq : Q (some (.inr o)) n m r) : xk_W E y pc Lc [.inr o] n m r ce sl Q := by
  intro p l e s mid args below meth c H locs ls C R hf hL
  have hlocks : meth.locks = false := C.2.2.2.2.2.2.1
  rw [xk_Fin_m hy]
  refine W.widen hc hs ?_
  exact W.aret (v := xk_v E (.inr o)) C.1 C.2.1 (C.2.2.1.trans hr) (Or.inl ⟨D, rfl⟩) (by cases o with | none => exact Or.inl rfl | some a => exact Or.inr ⟨_, rfl⟩) (fun t ht hW => ⟨some (.inr o), n, m, r, rfl, hq, by rw [ht]; exact R⟩) hf hd hlocks
theorem xk_vret (hy : y.1 = false) (hd : decode (xk_B y) pc = .ok (.return_, 1)) (hr : xk_ret y = none) (hc : ce ≤ (xk_Rm y).cells) (hs : sl ≤ (xk_Rm y).slots) (hq : Q none n m r) : xk_W E y pc Lc [] n m r ce sl Q := by
  intro p l e s mid args below meth c H locs ls C R hf hL
  have hlocks : meth.locks = false := C.2.2.2.2.2.2.1
  rw [xk_Fin_m hy]
  refine W.widen hc hs ?_
  exact W.vret C.1 C.2.1 (C.2.2.1.trans hr) (fun t ht hW => ⟨none, n, m, r, rfl, hq, by rw [ht]; exact R⟩) hf hd hlocks
end XC
