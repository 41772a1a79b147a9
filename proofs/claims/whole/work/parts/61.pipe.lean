section XI
variable {E : xk_E} {y : xk_Y} {pc n ce sl : Nat} {Lc : List (Option xk_V)} {st : List xk_V} {m : xk_M} {r : xk_P} {Q : xk_Q}
theorem xk_cI0 {z : xk_Y} {idx a : Nat} (hd : decode (xk_B y) pc = .ok (.invokespecial idx, 3)) (hl : xk_ML (xk_cls y) idx z) (hz : xk_CI z 0) (hroom : xk_room y z = true) (hst : st.length ≤ 8) (hc : ce + (xk_Rm z).cells ≤ (xk_Rm y).cells) (hs : sl + (xk_Rm z).slots ≤ (xk_Rm y).slots)
    (B : xk_W E z 0 (xk_ent z [.inr (some a)]) [] n m r 0 0 (xk_on E y (pc + 3) Lc st (ce + (xk_Rm z).cells) (sl + (xk_Rm z).slots) Q)) : xk_W E y pc Lc (.inr (some a) :: st) n m r ce sl Q := by
  obtain ⟨z1, z2, z3, z4, z5⟩ := hz
  exact xk_callI (as := []) hd hl z1 z2 z3 z4 hroom rfl z5 hst hc hs B
theorem xk_cI1 {z : xk_Y} {v1 : xk_V} {idx a : Nat} (hd : decode (xk_B y) pc = .ok (.invokespecial idx, 3)) (hl : xk_ML (xk_cls y) idx z) (hz : xk_CI z 1) (hroom : xk_room y z = true) (hst : st.length ≤ 8) (hc : ce + (xk_Rm z).cells ≤ (xk_Rm y).cells) (hs : sl + (xk_Rm z).slots ≤ (xk_Rm y).slots)
    (B : xk_W E z 0 (xk_ent z [.inr (some a), v1]) [] n m r 0 0 (xk_on E y (pc + 3) Lc st (ce + (xk_Rm z).cells) (sl + (xk_Rm z).slots) Q)) : xk_W E y pc Lc (v1 :: .inr (some a) :: st) n m r ce sl Q := by
  obtain ⟨z1, z2, z3, z4, z5⟩ := hz
  exact xk_callI (as := [v1]) hd hl z1 z2 z3 z4 hroom rfl z5 hst hc hs B
end XI
theorem xk_up_id {α : Type} {f : Nat → Nat → α} {a k : Nat} {v : α} (h : f a k = v) : xk_up f a k v = f := by
  funext b j
  unfold xk_up
  by_cases e : b = a ∧ j = k
  · rw [if_pos e, e.1, e.2, h]
  · rw [if_neg e]

set_option maxRecDepth 20000 in
set_option maxHeartbeats 4000000 in
theorem c_Pipe_init {E : xk_E} {n : Nat} {m : xk_M} {r : xk_P} {Q : xk_Q} {a : Nat} (hk : xk_kd a = .inl 4) (hk2 : xk_kd n = .inr (0, 4)) (ha : 1 ≤ a) (han : a < n) (hz : ∀ k, m a k = 0) (hQ : Q none (n + 1) (xk_up (xk_up m a 3 (nI 1)) a 4 (nI 1)) (xk_up r a 0 (some n))) : xk_W E m_Pipe_init 0 (xk_ent m_Pipe_init [.inr (some a)]) [] n m r 0 0 Q := by
  show xk_W E m_Pipe_init 0 [some (.inr (some a))] [] n m r 0 0 Q
  refine xk_aload_n (pc := 0) d_Pipe_init_0 rfl ?_
  refine xk_objInit (pc := 1) d_Pipe_init_1 (xk_in (List.mem_of_getElem? (i := 311) (by decide +kernel)) rfl) (xk_in (List.mem_of_getElem? (i := 52) (by decide +kernel)) rfl) (xk_in (List.mem_of_getElem? (i := 53) (by decide +kernel)) rfl) (Nat.le_of_ble_eq_true rfl) (Nat.le_of_ble_eq_true rfl) ?_
  refine xk_aload_n (pc := 4) d_Pipe_init_4 rfl ?_
  refine xk_iconst (pc := 5) (v := nI 4) d_Pipe_init_5 (by decide) ?_
  refine xk_newarr (pc := 6) (t := 0) d_Pipe_init_6 (by first | rfl | assumption) (by decide) rfl (xk_in (List.mem_of_getElem? (i := 83) (by decide +kernel)) rfl) rfl (by decide) (Nat.le_of_ble_eq_true rfl) (Nat.le_of_ble_eq_true rfl) (fun hz_6 => ?_)
  refine xk_putR (pc := 8) d_Pipe_init_8 fl_Pipe_9 (by first | rfl | assumption) rfl (fun q hq h => by cases hq; first | exact absurd h (by decide) | exact ⟨rfl, rfl, rfl⟩) ⟨rfl, rfl⟩ (by omega) (by omega) ?_
  refine xk_aload_n (pc := 11) d_Pipe_init_11 rfl ?_
  refine xk_iconst (pc := 12) (v := nI 0) d_Pipe_init_12 (by decide) ?_
  refine xk_putI (pc := 13) d_Pipe_init_13 fl_Pipe_15 (by first | rfl | assumption) rfl (fun q hq h => by cases hq; first | exact absurd h (by decide) | exact ⟨rfl, rfl, rfl⟩) ⟨rfl, rfl⟩ (by omega) (by omega) ?_
  rw [xk_up_id (show m a 1 = nI 0 from hz 1)]
  refine xk_aload_n (pc := 16) d_Pipe_init_16 rfl ?_
  refine xk_iconst (pc := 17) (v := nI 0) d_Pipe_init_17 (by decide) ?_
  refine xk_putI (pc := 18) d_Pipe_init_18 fl_Pipe_19 (by first | rfl | assumption) rfl (fun q hq h => by cases hq; first | exact absurd h (by decide) | exact ⟨rfl, rfl, rfl⟩) ⟨rfl, rfl⟩ (by omega) (by omega) ?_
  rw [xk_up_id (show m a 2 = nI 0 from hz 2)]
  refine xk_aload_n (pc := 21) d_Pipe_init_21 rfl ?_
  refine xk_iconst (pc := 22) (v := nI 1) d_Pipe_init_22 (by decide) ?_
  refine xk_putI (pc := 23) d_Pipe_init_23 fl_Pipe_22 (by first | rfl | assumption) rfl (fun q hq h => by cases hq; first | exact absurd h (by decide) | exact ⟨rfl, rfl, rfl⟩) ⟨rfl, rfl⟩ (by omega) (by omega) ?_
  refine xk_aload_n (pc := 26) d_Pipe_init_26 rfl ?_
  refine xk_iconst (pc := 27) (v := nI 1) d_Pipe_init_27 (by decide) ?_
  refine xk_putI (pc := 28) d_Pipe_init_28 fl_Pipe_26 (by first | rfl | assumption) rfl (fun q hq h => by cases hq; first | exact absurd h (by decide) | exact ⟨rfl, rfl, rfl⟩) ⟨rfl, rfl⟩ (by omega) (by omega) ?_
  refine xk_vret (pc := 31) rfl d_Pipe_init_31 rfl (Nat.le_of_ble_eq_true rfl) (Nat.le_of_ble_eq_true rfl) ?_
  exact hQ

theorem xs_pig : ∀ (K : Nat) (l : List Nat), (∀ q, q < K → q ∈ l) → K ≤ l.length
  | 0, l, _ => Nat.zero_le _
  | K + 1, l, h => by
    have hm := h K (by omega)
    have := xs_pig K (l.erase K) (fun q hq => (List.mem_erase_of_ne (by omega)).mpr (h q (by omega)))
    rw [List.length_erase_of_mem hm] at this
    have : 0 < l.length := List.length_pos_of_mem hm
    omega
theorem xs_num_f {p : Nat → Bool} : ∀ K, xs_num p K = ((List.range K).filter p).length
  | 0 => rfl
  | K + 1 => by
    show xs_num p K + (if p K = true then 1 else 0) = _
    rw [List.range_succ, List.filter_append, List.length_append, xs_num_f K]
    congr 1
    cases h : p K
    · rw [List.filter_cons_of_neg (by rw [h]; decide)]; rfl
    · rw [List.filter_cons_of_pos h]; rfl
/-- there is a number for a new pipe -/
theorem xs_pip_free {O : xs_O} (h : xs_ops O ≤ 14) : ∃ q, xs_least (fun q => !(xs_end O q 1 || xs_end O q 2)) 0 16 = some q := by
  cases hl : xs_least (fun q => !(xs_end O q 1 || xs_end O q 2)) 0 16 with
  | some q => exact ⟨q, rfl⟩
  | none =>
    exfalso
    have hall := xs_least_np hl
    have key : ∀ q, q < 16 → q ∈ (((List.range 16).filter (xs_used O)).map O.2.2.1) := by
      intro q hq
      have h1 := hall q (by omega) (by omega)
      have h2 : xs_end O q 1 = true ∨ xs_end O q 2 = true := by
        cases ha : xs_end O q 1
        · cases hb : xs_end O q 2
          · rw [ha, hb] at h1; cases h1
          · exact Or.inr rfl
        · exact Or.inl rfl
      rw [List.mem_map]
      rcases h2 with h2 | h2 <;> obtain ⟨o, o1, o2, o3, o4⟩ := xs_end_iff.mp h2 <;> exact ⟨o, List.mem_filter.mpr ⟨List.mem_range.mpr o1, o2⟩, o4⟩
    have := xs_pig 16 _ key
    rw [List.length_map, ← xs_num_f] at this
    unfold xs_ops at h
    omega
/-- two new openings, of a new pipe's ends -/
theorem xr_O_pipe {O : xs_O} {m m' : xk_M} {r r' : xk_P} {n p d e o1 o2 q : Nat} (h : xr_O O m r n) (hn : 74 ≤ n) (hn2 : n % 2 = 0) (hp : p < 7) (hd : d < 6) (he : e < 6) (hde : d ≠ e) (ho1 : o1 < 16) (ho2 : o2 < 16) (ho : o1 ≠ o2) (h0 : O.1 (6 * p + d) = none) (h0' : O.1 (6 * p + e) = none) (hu1 : xs_used O o1 = false) (hu2 : xs_used O o2 = false) (hq1 : xs_end O q 1 = false) (hq2 : xs_end O q 2 = false) (hkk : ∀ o, o < 16 → xs_used O o = true → O.2.1 o ≤ 2)
    (hm : ∀ a, a ≠ 22 + o1 → a ≠ 22 + o2 → a < n → m' a = m a) (c1 : m' (22 + o1) 0 = nI 1) (c2 : m' (22 + o2) 0 = nI 1) (d1 : m' (22 + o1) 1 = nI 1) (d2 : m' (22 + o2) 1 = nI 2) (e1 : m' n 1 = nI 0) (e2 : m' n 2 = nI 0) (e3 : m' n 3 = nI 1) (e4 : m' n 4 = nI 1)
    (hr : ∀ a, a ≠ 22 + o1 → a ≠ 22 + o2 → a ≠ 40 + 2 * p → a < 53 → r' a = r a) (f1 : r' (22 + o1) 4 = some n) (f2 : r' (22 + o2) 4 = some n) (f3 : ∀ k, r' (40 + 2 * p) k = if k = e then some (22 + o2) else if k = d then some (22 + o1) else r (40 + 2 * p) k) :
    xr_O (xs_u (xs_u O.1 (6 * p + d) (some o1)) (6 * p + e) (some o2), xs_u (xs_u O.2.1 o1 1) o2 2, xs_u (xs_u O.2.2.1 o1 q) o2 q, xs_u (xs_u O.2.2.2.1 o1 1) o2 2, xs_u (xs_u O.2.2.2.2.1 o1 0) o2 0, xs_u O.2.2.2.2.2 q []) m' r' (n + 2) := by
  obtain ⟨h1, h2, pa, h3, h4, h5⟩ := h
  have z1 : xs_cnt O.1 o1 42 = 0 := by
    cases hq : xs_cnt O.1 o1 42 with
    | zero => rfl
    | succ k => rw [xs_used_iff.mpr (by omega)] at hu1; cases hu1
  have z2 : xs_cnt O.1 o2 42 = 0 := by
    cases hq : xs_cnt O.1 o2 42 with
    | zero => rfl
    | succ k => rw [xs_used_iff.mpr (by omega)] at hu2; cases hu2
  have cn : ∀ o', xs_cnt (xs_u (xs_u O.1 (6 * p + d) (some o1)) (6 * p + e) (some o2)) o' 42 = xs_cnt O.1 o' 42 + (if o1 = o' then 1 else 0) + (if o2 = o' then 1 else 0) := fun o' => by
    have g1 := xs_cnt_n (O := O) (o := o1) (o' := o') (by omega : 6 * p + d < 42) h0
    have g2 := xs_cnt_n (O := xs_of O (6 * p + d) (some o1)) (o := o2) (o' := o') (by omega : 6 * p + e < 42) (show xs_u O.1 (6 * p + d) (some o1) (6 * p + e) = none by rw [xs_u_n (by omega)]; exact h0')
    rw [g1] at g2
    exact g2
  have us : ∀ o', xs_used (xs_u (xs_u O.1 (6 * p + d) (some o1)) (6 * p + e) (some o2), xs_u (xs_u O.2.1 o1 1) o2 2, xs_u (xs_u O.2.2.1 o1 q) o2 q, xs_u (xs_u O.2.2.2.1 o1 1) o2 2, xs_u (xs_u O.2.2.2.2.1 o1 0) o2 0, xs_u O.2.2.2.2.2 q []) o' = true ↔ xs_used O o' = true ∨ o' = o1 ∨ o' = o2 := fun o' => by
    rw [xs_used_iff, xs_used_iff]
    have := cn o'
    show xs_cnt (xs_u (xs_u O.1 (6 * p + d) (some o1)) (6 * p + e) (some o2)) o' 42 ≠ 0 ↔ _
    by_cases w1 : o1 = o'
    · exact ⟨fun _ => Or.inr (Or.inl w1.symm), fun _ => by rw [if_pos w1] at this; omega⟩
    · by_cases w2 : o2 = o'
      · exact ⟨fun _ => Or.inr (Or.inr w2.symm), fun _ => by rw [if_pos w2] at this; omega⟩
      · rw [if_neg w1, if_neg w2] at this
        constructor
        · intro z; exact Or.inl (by omega)
        · rintro (z | z | z)
          · omega
          · exact absurd z.symm w1
          · exact absurd z.symm w2
  have K1 : xs_u (xs_u O.2.1 o1 1) o2 2 o1 = 1 := by rw [xs_u_n ho, xs_u_s]
  have W1 : xs_u (xs_u O.2.2.1 o1 q) o2 q o1 = q := by rw [xs_u_n ho, xs_u_s]
  have Kn : ∀ o', o' ≠ o1 → o' ≠ o2 → xs_u (xs_u O.2.1 o1 1) o2 2 o' = O.2.1 o' := fun o' a b => by rw [xs_u_n b, xs_u_n a]
  have Wn : ∀ o', o' ≠ o1 → o' ≠ o2 → xs_u (xs_u O.2.2.1 o1 q) o2 q o' = O.2.2.1 o' := fun o' a b => by rw [xs_u_n b, xs_u_n a]
  have nq : ∀ o', o' < 16 → xs_used O o' = true → O.2.1 o' ≠ 0 → O.2.2.1 o' ≠ q := fun o' ho' hu' hk' w => by
    have := hkk o' ho' hu'
    rcases (by omega : O.2.1 o' = 1 ∨ O.2.1 o' = 2) with k | k
    · rw [xs_end_iff.mpr ⟨o', ho', hu', k, w⟩] at hq1; cases hq1
    · rw [xs_end_iff.mpr ⟨o', ho', hu', k, w⟩] at hq2; cases hq2
  have pu : ∀ q', q' ≠ q → (fun z => if z = q then n else pa z) q' = pa q' := fun q' w => if_neg w
  have es : ∀ q' k, q' ≠ q → xs_end (xs_u (xs_u O.1 (6 * p + d) (some o1)) (6 * p + e) (some o2), xs_u (xs_u O.2.1 o1 1) o2 2, xs_u (xs_u O.2.2.1 o1 q) o2 q, xs_u (xs_u O.2.2.2.1 o1 1) o2 2, xs_u (xs_u O.2.2.2.2.1 o1 0) o2 0, xs_u O.2.2.2.2.2 q []) q' k = xs_end O q' k := fun q' k w => xs_end_congr (fun o' _ => by
    rw [us]
    show _ ∧ xs_u (xs_u O.2.1 o1 1) o2 2 o' = k ∧ xs_u (xs_u O.2.2.1 o1 q) o2 q o' = q' ↔ _
    by_cases w1 : o' = o1
    · subst w1
      rw [W1]
      exact ⟨fun z => absurd z.2.2.symm w, fun z => by rw [hu1] at z; cases z.1⟩
    · by_cases w2 : o' = o2
      · subst w2
        rw [xs_u_s (f := xs_u O.2.2.1 o1 q)]
        exact ⟨fun z => absurd z.2.2.symm w, fun z => by rw [hu2] at z; cases z.1⟩
      · rw [Kn o' w1 w2, Wn o' w1 w2]
        exact ⟨fun z => ⟨z.1.resolve_right (by rintro (a | a); exact w1 a; exact w2 a), z.2⟩, fun z => ⟨Or.inl z.1, z.2⟩⟩)
  refine ⟨fun o' ho' => ?_, fun p' d' hp' hd' => ?_, fun z => if z = q then n else pa z, fun o' ho' hu' => ?_, fun o' ho' hu' hk' => ?_, fun a b ha hb ua ub ka kb => ?_⟩
  · show _ = nI (xs_cnt (xs_u (xs_u O.1 (6 * p + d) (some o1)) (6 * p + e) (some o2)) o' 42)
    rw [cn]
    by_cases w1 : o1 = o'
    · subst w1; rw [c1, if_pos rfl, if_neg (Ne.symm ho), z1]
    · by_cases w2 : o2 = o'
      · subst w2; rw [c2, if_neg w1, if_pos rfl, z2]
      · rw [if_neg w1, if_neg w2, hm _ (by omega) (by omega) (by omega)]; exact h1 o' ho'
  · show _ = (xs_u (xs_u O.1 (6 * p + d) (some o1)) (6 * p + e) (some o2) (6 * p' + d')).map _
    by_cases w : p' = p
    · subst w
      rw [f3]
      by_cases w2 : d' = e
      · subst w2; rw [if_pos rfl, xs_u_s]; rfl
      · rw [if_neg w2, xs_u_n (by omega)]
        by_cases w3 : d' = d
        · subst w3; rw [if_pos rfl, xs_u_s]; rfl
        · rw [if_neg w3, xs_u_n (by omega)]; exact h2 p' d' hp' hd'
    · rw [xs_u_n (by omega), xs_u_n (by omega), hr _ (by omega) (by omega) (by omega) (by omega)]; exact h2 p' d' hp' hd'
  · by_cases w1 : o' = o1
    · subst w1
      refine ⟨?_, fun k => ?_, fun _ => ?_⟩
      · show _ = nI (xs_u (xs_u O.2.2.2.1 o' 1) o2 2 o')
        rw [xs_u_n ho, xs_u_s]; exact d1
      · change xs_u (xs_u O.2.1 o' 1) o2 2 o' = 0 at k
        rw [K1] at k; cases k
      · show _ = some (if xs_u (xs_u O.2.2.1 o' q) o2 q o' = q then n else _)
        rw [if_pos W1]; exact f1
    · by_cases w2 : o' = o2
      · subst w2
        refine ⟨?_, fun k => ?_, fun _ => ?_⟩
        · show _ = nI (xs_u (xs_u O.2.2.2.1 o1 1) o' 2 o')
          rw [xs_u_s]; exact d2
        · change xs_u (xs_u O.2.1 o1 1) o' 2 o' = 0 at k
          rw [xs_u_s] at k; cases k
        · show _ = some (if xs_u (xs_u O.2.2.1 o1 q) o' q o' = q then n else _)
          rw [if_pos xs_u_s]; exact f2
      · have hu0 := ((us o').mp hu').resolve_right (by rintro (a | a); exact w1 a; exact w2 a)
        obtain ⟨i1, i2, i3⟩ := h3 o' ho' hu0
        unfold xr_I
        rw [hm _ (by omega) (by omega) (by omega), hr _ (by omega) (by omega) (by omega) (by omega)]
        show _ = nI (xs_u (xs_u O.2.2.2.1 o1 1) o2 2 o') ∧ (xs_u (xs_u O.2.1 o1 1) o2 2 o' = 0 → _ ∧ _ = nI (xs_u (xs_u O.2.2.1 o1 q) o2 q o') ∧ _ = nI (xs_u (xs_u O.2.2.2.2.1 o1 0) o2 0 o')) ∧ (xs_u (xs_u O.2.1 o1 1) o2 2 o' ≠ 0 → _ = some (if xs_u (xs_u O.2.2.1 o1 q) o2 q o' = q then n else pa (xs_u (xs_u O.2.2.1 o1 q) o2 q o')))
        rw [Kn o' w1 w2, Wn o' w1 w2, xs_u_n (f := xs_u O.2.2.2.1 o1 1) w2, xs_u_n (f := O.2.2.2.1) w1, xs_u_n (f := xs_u O.2.2.2.2.1 o1 0) w2, xs_u_n (f := O.2.2.2.2.1) w1]
        exact ⟨i1, i2, fun k => by rw [if_neg (nq o' ho' hu0 k)]; exact i3 k⟩
  · have En1 : xs_end (xs_u (xs_u O.1 (6 * p + d) (some o1)) (6 * p + e) (some o2), xs_u (xs_u O.2.1 o1 1) o2 2, xs_u (xs_u O.2.2.1 o1 q) o2 q, xs_u (xs_u O.2.2.2.1 o1 1) o2 2, xs_u (xs_u O.2.2.2.2.1 o1 0) o2 0, xs_u O.2.2.2.2.2 q []) q 1 = true := xs_end_iff.mpr ⟨o1, ho1, (us o1).mpr (Or.inr (Or.inl rfl)), K1, W1⟩
    have En2 : xs_end (xs_u (xs_u O.1 (6 * p + d) (some o1)) (6 * p + e) (some o2), xs_u (xs_u O.2.1 o1 1) o2 2, xs_u (xs_u O.2.2.1 o1 q) o2 q, xs_u (xs_u O.2.2.2.1 o1 1) o2 2, xs_u (xs_u O.2.2.2.2.1 o1 0) o2 0, xs_u O.2.2.2.2.2 q []) q 2 = true := xs_end_iff.mpr ⟨o2, ho2, (us o2).mpr (Or.inr (Or.inr rfl)), xs_u_s, xs_u_s⟩
    have newP : xr_P (xs_u (xs_u O.1 (6 * p + d) (some o1)) (6 * p + e) (some o2), xs_u (xs_u O.2.1 o1 1) o2 2, xs_u (xs_u O.2.2.1 o1 q) o2 q, xs_u (xs_u O.2.2.2.1 o1 1) o2 2, xs_u (xs_u O.2.2.2.2.1 o1 0) o2 0, xs_u O.2.2.2.2.2 q []) n q m' (n + 2) := by
      refine ⟨hn, hn2, by omega, ⟨0, by decide, e1, ?_, fun i x hx => ?_⟩, by rw [En1]; exact e3, by rw [En2]; exact e4⟩
      · show _ = nI (xs_u O.2.2.2.2.2 q [] q).length
        rw [xs_u_s]; exact e2
      · have hx2 : (xs_u O.2.2.2.2.2 q [] q)[i]? = some x := hx
        rw [xs_u_s] at hx2
        simp at hx2
    show xr_P _ (if xs_u (xs_u O.2.2.1 o1 q) o2 q o' = q then n else pa (xs_u (xs_u O.2.2.1 o1 q) o2 q o')) (xs_u (xs_u O.2.2.1 o1 q) o2 q o') m' (n + 2)
    by_cases w1 : o' = o1
    · subst w1; rw [if_pos W1, W1]; exact newP
    · by_cases w2 : o' = o2
      · subst w2; rw [xs_u_s (f := xs_u O.2.2.1 o1 q), if_pos rfl]; exact newP
      · have hu0 := ((us o').mp hu').resolve_right (by rintro (a | a); exact w1 a; exact w2 a)
        change xs_u (xs_u O.2.1 o1 1) o2 2 o' ≠ 0 at hk'
        rw [Kn o' w1 w2] at hk'
        have nqo := nq o' ho' hu0 hk'
        rw [Wn o' w1 w2, if_neg nqo]
        obtain ⟨a1, a2, a3, ⟨old, b1, b2, b3, b4⟩, a5, a6⟩ := h4 o' ho' hu0 hk'
        have m1 : m' (pa (O.2.2.1 o')) = m (pa (O.2.2.1 o')) := hm _ (by omega) (by omega) (by omega)
        have m2 : m' (pa (O.2.2.1 o') + 1) = m (pa (O.2.2.1 o') + 1) := hm _ (by omega) (by omega) a3
        have eu : xs_u O.2.2.2.2.2 q [] (O.2.2.1 o') = O.2.2.2.2.2 (O.2.2.1 o') := xs_u_n nqo
        refine ⟨a1, a2, by omega, ⟨old, b1, by rw [m1]; exact b2, ?_, fun i x hx => ?_⟩, by rw [es _ 1 nqo, m1]; exact a5, by rw [es _ 2 nqo, m1]; exact a6⟩
        · show _ = nI (xs_u O.2.2.2.2.2 q [] (O.2.2.1 o')).length
          rw [eu, m1]; exact b3
        · have hx2 : (xs_u O.2.2.2.2.2 q [] (O.2.2.1 o'))[i]? = some x := hx
          rw [eu] at hx2
          rw [m2]; exact b4 i x hx2
  · have wh : ∀ c, c < 16 → xs_used (xs_u (xs_u O.1 (6 * p + d) (some o1)) (6 * p + e) (some o2), xs_u (xs_u O.2.1 o1 1) o2 2, xs_u (xs_u O.2.2.1 o1 q) o2 q, xs_u (xs_u O.2.2.2.1 o1 1) o2 2, xs_u (xs_u O.2.2.2.2.1 o1 0) o2 0, xs_u O.2.2.2.2.2 q []) c = true → xs_u (xs_u O.2.1 o1 1) o2 2 c ≠ 0 → xs_u (xs_u O.2.2.1 o1 q) o2 q c = q ∨ (c ≠ o1 ∧ c ≠ o2 ∧ xs_used O c = true ∧ O.2.1 c ≠ 0 ∧ O.2.2.1 c ≠ q ∧ xs_u (xs_u O.2.2.1 o1 q) o2 q c = O.2.2.1 c) := fun c hc uc kc => by
      by_cases w1 : c = o1
      · subst w1; exact Or.inl W1
      · by_cases w2 : c = o2
        · subst w2; exact Or.inl xs_u_s
        · have hu0 := ((us c).mp uc).resolve_right (by rintro (a | a); exact w1 a; exact w2 a)
          rw [Kn c w1 w2] at kc
          exact Or.inr ⟨w1, w2, hu0, kc, nq c hc hu0 kc, Wn c w1 w2⟩
    show (if xs_u (xs_u O.2.2.1 o1 q) o2 q a = q then n else pa (xs_u (xs_u O.2.2.1 o1 q) o2 q a)) = (if xs_u (xs_u O.2.2.1 o1 q) o2 q b = q then n else pa (xs_u (xs_u O.2.2.1 o1 q) o2 q b)) → xs_u (xs_u O.2.2.1 o1 q) o2 q a = xs_u (xs_u O.2.2.1 o1 q) o2 q b
    rcases wh a ha ua ka with wa | ⟨-, -, wa1, wa2, wa3, wa4⟩ <;> rcases wh b hb ub kb with wb | ⟨-, -, wb1, wb2, wb3, wb4⟩
    · intro _; rw [wa, wb]
    · rw [wa, if_pos rfl, wb4, if_neg wb3]
      intro z
      have := (h4 b hb wb1 wb2).2.2.1
      omega
    · rw [wb, if_pos rfl, wa4, if_neg wa3]
      intro z
      have := (h4 a ha wa1 wa2).2.2.1
      omega
    · rw [wa4, wb4, if_neg wa3, if_neg wb3]
      exact h5 a b ha hb wa1 wb1 wa2 wb2
