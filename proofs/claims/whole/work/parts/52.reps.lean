/-! openings come and go -/
theorem xs_lsome {p : Nat → Bool} {k : Nat} : (xs_least p 0 k).isSome = true ↔ ∃ o, o < k ∧ p o = true := by
  constructor
  · intro h
    cases hq : xs_least p 0 k with
    | none => rw [hq] at h; cases h
    | some t =>
      obtain ⟨a, b, c, d⟩ := xs_least_sp hq
      exact ⟨t, by omega, c⟩
  · rintro ⟨o, h1, h2⟩
    cases hq : xs_least p 0 k with
    | none =>
      have := xs_least_np hq o (by omega) (by omega)
      rw [this] at h2
      cases h2
    | some t => rfl
theorem xs_end_iff {O : xs_O} {q e : Nat} : xs_end O q e = true ↔ ∃ o, o < 16 ∧ xs_used O o = true ∧ O.2.1 o = e ∧ O.2.2.1 o = q := by
  unfold xs_end
  rw [xs_lsome]
  constructor
  · rintro ⟨o, h1, h2⟩
    rw [Bool.and_eq_true] at h2
    have := of_decide_eq_true h2.2
    exact ⟨o, h1, h2.1, this.1, this.2⟩
  · rintro ⟨o, h1, h2, h3, h4⟩
    exact ⟨o, h1, by rw [h2, decide_eq_true ⟨h3, h4⟩]; rfl⟩
theorem xs_bool {a b : Bool} (h : a = true ↔ b = true) : a = b := by
  cases a <;> cases b <;> first | rfl | exact absurd (h.mpr rfl) (by decide) | exact absurd (h.mp rfl) (by decide)
theorem xs_end_congr {O O' : xs_O} {q e : Nat} (h : ∀ o, o < 16 → (xs_used O' o = true ∧ O'.2.1 o = e ∧ O'.2.2.1 o = q ↔ xs_used O o = true ∧ O.2.1 o = e ∧ O.2.2.1 o = q)) : xs_end O' q e = xs_end O q e := by
  apply xs_bool
  rw [xs_end_iff, xs_end_iff]
  constructor
  · rintro ⟨o, h1, h2⟩
    exact ⟨o, h1, (h o h1).mp h2⟩
  · rintro ⟨o, h1, h2⟩
    exact ⟨o, h1, (h o h1).mpr h2⟩
theorem xr_O_kept {O : xs_O} {m m' : xk_M} {r r' : xk_P} {n n' : Nat} (h : xr_O O m r n) (hn : n ≤ n') (hm : ∀ a, 22 ≤ a → a < 38 → m' a = m a) (hm2 : ∀ a, 74 ≤ a → a < n → m' a = m a) (hr : ∀ a, 22 ≤ a → a < 53 → r' a = r a) : xr_O O m' r' n' := by
  obtain ⟨h1, h2, pa, h3, h4, h5⟩ := h
  refine ⟨fun o ho => by rw [hm _ (by omega) (by omega)]; exact h1 o ho, fun p d hp hd => by rw [hr _ (by omega) (by omega)]; exact h2 p d hp hd, pa, fun o ho hu => ?_, fun o ho hu hk => ?_, h5⟩
  · unfold xr_I
    rw [hm _ (by omega) (by omega), hr _ (by omega) (by omega)]
    exact h3 o ho hu
  · obtain ⟨a1, a2, a3, a4, a5⟩ := h4 o ho hu hk
    refine ⟨a1, a2, by omega, ?_⟩
    rw [hm2 _ a1 (by omega), hm2 _ (by omega) a3]
    exact ⟨a4, a5⟩
theorem xr_T_kept {T : xs_T} {m m' : xk_M} (h : xr_T T m) (hm : ∀ a, 39 ≤ a → a < 53 → m' a = m a) : xr_T T m' := by
  obtain ⟨h1, h2, h3, h4⟩ := h
  exact ⟨fun p hp => by rw [hm _ (by omega) (by omega)]; exact h1 p hp, fun p a b c => by rw [hm _ (by omega) (by omega)]; exact h2 p a b c, by rw [hm _ (by omega) (by omega)]; exact h3, fun p hp c => by rw [hm _ (by omega) (by omega)]; exact h4 p hp c⟩
theorem xs_cnt_n {O : xs_O} {k o o' : Nat} (hk : k < 42) (h0 : O.1 k = none) : xs_cnt (xs_of O k (some o)).1 o' 42 = xs_cnt O.1 o' 42 + (if o = o' then 1 else 0) := by
  have := xs_cnt_u (g := O.1) (v := some o) (o := o') 42 hk
  rw [h0, if_neg (by simp)] at this
  show xs_cnt (xs_u O.1 k (some o)) o' 42 = _
  by_cases e : o = o'
  · subst e
    rw [if_pos rfl] at this ⊢
    omega
  · rw [if_neg (by simpa using e)] at this
    rw [if_neg e]
    omega
theorem xs_cnt_r {O : xs_O} {k o o' : Nat} (hk : k < 42) (h0 : O.1 k = some o) : xs_cnt (xs_of O k none).1 o' 42 + (if o = o' then 1 else 0) = xs_cnt O.1 o' 42 := by
  have := xs_cnt_u (g := O.1) (v := none) (o := o') 42 hk
  rw [h0, if_neg (by simp : ¬ (none : Option Nat) = some o')] at this
  show xs_cnt (xs_u O.1 k none) o' 42 + _ = _
  by_cases e : o = o'
  · subst e
    rw [if_pos rfl] at this ⊢
    omega
  · rw [if_neg (by simpa using e)] at this
    rw [if_neg e]
    omega
theorem xr_D_up {O : xs_O} {r : xk_P} {p d : Nat} {v : Option Nat} (h : ∀ p d, p < 7 → d < 6 → r (40 + 2 * p) d = (O.1 (6 * p + d)).map (fun o => 22 + o)) (hd : d < 6) : ∀ p' d', p' < 7 → d' < 6 → xk_up r (40 + 2 * p) d (v.map (fun o => 22 + o)) (40 + 2 * p') d' = ((xs_of O (6 * p + d) v).1 (6 * p' + d')).map (fun o => 22 + o) := by
  intro p' d' hp' hd'
  show _ = (xs_u O.1 (6 * p + d) v (6 * p' + d')).map _
  by_cases e : p' = p ∧ d' = d
  · obtain ⟨rfl, rfl⟩ := e
    rw [xk_up_s, xs_u_s]
  · rw [xs_u_n (by omega)]
    unfold xk_up
    rw [if_neg (by omega)]
    exact h p' d' hp' hd'
/-- another descriptor of an opening that is there -/
theorem xr_O_hold {O : xs_O} {m : xk_M} {r : xk_P} {n p d o : Nat} (h : xr_O O m r n) (hp : p < 7) (hd : d < 6) (ho : o < 16) (h0 : O.1 (6 * p + d) = none) (hu : xs_used O o = true) : xr_O (xs_of O (6 * p + d) (some o)) (xk_up m (22 + o) 0 (nI (xs_cnt O.1 o 42 + 1))) (xk_up r (40 + 2 * p) d (some (22 + o))) n := by
  obtain ⟨h1, h2, pa, h3, h4, h5⟩ := h
  have us : ∀ o', xs_used (xs_of O (6 * p + d) (some o)) o' = xs_used O o' := fun o' => xs_bool (by
    rw [xs_used_iff, xs_used_iff, xs_cnt_n (by omega) h0]
    have := xs_used_iff.mp hu
    by_cases e : o = o'
    · subst e; rw [if_pos rfl]; omega
    · rw [if_neg e]; omega)
  have es : ∀ q e, xs_end (xs_of O (6 * p + d) (some o)) q e = xs_end O q e := fun q e => xs_end_congr (fun o' _ => by rw [us]; exact Iff.rfl)
  refine ⟨fun o' ho' => ?_, xr_D_up (v := some o) h2 hd, pa, fun o' ho' hu' => ?_, fun o' ho' hu' hk' => ?_, fun a b ha hb ua ub => ?_⟩
  · rw [xs_cnt_n (by omega) h0]
    by_cases e : o = o'
    · subst e; rw [xk_up_s, if_pos rfl]
    · rw [xk_up_a (by omega), if_neg e]; exact h1 o' ho'
  · rw [us] at hu'
    obtain ⟨i1, i2, i3⟩ := h3 o' ho' hu'
    refine ⟨by rw [xk_up_k (by decide)]; exact i1, fun k => ?_, fun k => ?_⟩
    · rw [xk_up_a (by omega), xk_up_k (by decide), xk_up_k (by decide)]; exact i2 k
    · rw [xk_up_a (by omega)]; exact i3 k
  · rw [us] at hu'
    obtain ⟨a1, a2, a3, ⟨old, b1, b2, b3, b4⟩, a5, a6⟩ := h4 o' ho' hu' hk'
    refine ⟨a1, a2, a3, ⟨old, b1, ?_, ?_, fun i x hx => ?_⟩, ?_, ?_⟩
    · rw [xk_up_k (by decide)]; exact b2
    · rw [xk_up_k (by decide)]; exact b3
    · have e1 : pa ((xs_of O (6 * p + d) (some o)).2.2.1 o') + 1 ≠ 22 + o := by
        change 74 ≤ pa ((xs_of O (6 * p + d) (some o)).2.2.1 o') at a1
        omega
      rw [xk_up_a e1]; exact b4 i x hx
    · rw [xk_up_k (by decide), es]; exact a5
    · rw [xk_up_k (by decide), es]; exact a6
  · rw [us] at ua ub
    exact h5 a b ha hb ua ub
/-- what is asked of openings that are there -/
def xs_okU (O : xs_O) : Prop := (∀ o, o < 16 → xs_used O o = true → O.2.1 o ≤ 2 ∧ O.2.2.2.1 o < 32 ∧ (O.2.1 o = 0 → O.2.2.1 o < 8 ∧ O.2.2.2.2.1 o ≤ 32) ∧ (O.2.1 o ≠ 0 → O.2.2.1 o < 16 ∧ O.2.2.2.1 o = O.2.1 o ∧ (O.2.2.2.2.2 (O.2.2.1 o)).length ≤ 4)) ∧ (∀ o o', o < 16 → o' < 16 → xs_used O o = true → xs_used O o' = true → O.2.1 o ≠ 0 → O.2.1 o = O.2.1 o' → O.2.2.1 o = O.2.2.1 o' → o = o')
theorem xs_okU_sub {O O' : xs_O} (h : xs_okU O) (hu : ∀ o, xs_used O' o = true → xs_used O o = true) (h2 : O'.2 = O.2) : xs_okU O' := by
  unfold xs_okU
  rw [h2]
  exact ⟨fun o ho u => h.1 o ho (hu o u), fun a b ha hb ua ub => h.2 a b ha hb (hu a ua) (hu b ub)⟩
theorem xs_used_r {O : xs_O} {k : Nat} (hk : k < 42) (o' : Nat) (h : xs_used (xs_of O k none) o' = true) : xs_used O o' = true := by
  rw [xs_used_iff] at h ⊢
  cases h0 : O.1 k with
  | none =>
    have := xs_cnt_u (g := O.1) (v := none) (o := o') 42 hk
    rw [h0] at this
    change xs_cnt (xs_u O.1 k none) o' 42 ≠ 0 at h
    omega
  | some o =>
    have := xs_cnt_r (o' := o') hk h0
    omega
theorem xs_of_none {O : xs_O} {k : Nat} (h : O.1 k = none) : xs_of O k none = O := by
  have : xs_u O.1 k none = O.1 := by
    funext j
    by_cases e : j = k
    · subst e; rw [xs_u_s, h]
    · rw [xs_u_n e]
  show (xs_u O.1 k none, O.2) = O
  rw [this]
/-- a descriptor goes, its opening stays -/
theorem xr_O_let {O : xs_O} {m : xk_M} {r : xk_P} {n p d o c : Nat} (h : xr_O O m r n) (hp : p < 7) (hd : d < 6) (ho : o < 16) (h0 : O.1 (6 * p + d) = some o) (hc : xs_cnt O.1 o 42 = c + 1) (hc0 : c ≠ 0) : xr_O (xs_of O (6 * p + d) none) (xk_up m (22 + o) 0 (nI c)) (xk_up r (40 + 2 * p) d none) n := by
  obtain ⟨h1, h2, pa, h3, h4, h5⟩ := h
  have cr := fun o' => xs_cnt_r (o' := o') (by omega : 6 * p + d < 42) h0
  have us : ∀ o', xs_used (xs_of O (6 * p + d) none) o' = xs_used O o' := fun o' => xs_bool (by
    rw [xs_used_iff, xs_used_iff]
    have := cr o'
    by_cases e : o = o'
    · subst e; rw [if_pos rfl] at this; omega
    · rw [if_neg e] at this; omega)
  have es : ∀ q e, xs_end (xs_of O (6 * p + d) none) q e = xs_end O q e := fun q e => xs_end_congr (fun o' _ => by rw [us]; exact Iff.rfl)
  refine ⟨fun o' ho' => ?_, xr_D_up (v := none) h2 hd, pa, fun o' ho' hu' => ?_, fun o' ho' hu' hk' => ?_, fun a b ha hb ua ub => ?_⟩
  · have := cr o'
    by_cases e : o = o'
    · subst e; rw [if_pos rfl] at this; rw [xk_up_s, show xs_cnt (xs_of O (6 * p + d) none).1 o 42 = c by omega]
    · rw [if_neg e] at this; rw [xk_up_a (by omega), show xs_cnt (xs_of O (6 * p + d) none).1 o' 42 = xs_cnt O.1 o' 42 by omega]; exact h1 o' ho'
  · rw [us] at hu'
    obtain ⟨i1, i2, i3⟩ := h3 o' ho' hu'
    refine ⟨by rw [xk_up_k (by decide)]; exact i1, fun k => ?_, fun k => ?_⟩
    · rw [xk_up_a (by omega), xk_up_k (by decide), xk_up_k (by decide)]; exact i2 k
    · rw [xk_up_a (by omega)]; exact i3 k
  · rw [us] at hu'
    obtain ⟨a1, a2, a3, ⟨old, b1, b2, b3, b4⟩, a5, a6⟩ := h4 o' ho' hu' hk'
    refine ⟨a1, a2, a3, ⟨old, b1, ?_, ?_, fun i x hx => ?_⟩, ?_, ?_⟩
    · rw [xk_up_k (by decide)]; exact b2
    · rw [xk_up_k (by decide)]; exact b3
    · have e1 : pa ((xs_of O (6 * p + d) none).2.2.1 o') + 1 ≠ 22 + o := by
        change 74 ≤ pa ((xs_of O (6 * p + d) none).2.2.1 o') at a1
        omega
      rw [xk_up_a e1]; exact b4 i x hx
    · rw [xk_up_k (by decide), es]; exact a5
    · rw [xk_up_k (by decide), es]; exact a6
  · rw [us] at ua ub
    exact h5 a b ha hb ua ub
/-- the last descriptor goes: of a file (then m1 is all), or of an end of a pipe (then that end's mark goes) -/
theorem xr_O_last {O : xs_O} {m m1 : xk_M} {r : xk_P} {n p d o : Nat} (h : xr_O O m r n) (hk : xs_okU O) (hp : p < 7) (hd : d < 6) (ho : o < 16) (h0 : O.1 (6 * p + d) = some o) (hc : xs_cnt O.1 o 42 = 1)
    (hm : ∀ a, a ≠ 22 + o → r (22 + o) 4 ≠ some a → m1 a = m a) (hm0 : m1 (22 + o) 0 = nI 0) (hA : ∀ A, r (22 + o) 4 = some A → 74 ≤ A → (∀ j, j ≠ O.2.1 o + 2 → m1 A j = m A j) ∧ m1 A (O.2.1 o + 2) = nI 0) : xr_O (xs_of O (6 * p + d) none) m1 (xk_up r (40 + 2 * p) d none) n := by
  obtain ⟨h1, h2, pa, h3, h4, h5⟩ := h
  have hu : xs_used O o = true := xs_used_iff.mpr (by omega)
  have cr := fun o' => xs_cnt_r (o' := o') (by omega : 6 * p + d < 42) h0
  have us : ∀ o', xs_used (xs_of O (6 * p + d) none) o' = true ↔ xs_used O o' = true ∧ o' ≠ o := fun o' => by
    rw [xs_used_iff, xs_used_iff]
    have := cr o'
    by_cases e : o = o'
    · subst e; rw [if_pos rfl] at this
      constructor
      · intro q; omega
      · rintro ⟨-, q⟩; exact absurd rfl q
    · rw [if_neg e] at this
      constructor
      · intro q; exact ⟨by omega, Ne.symm e⟩
      · rintro ⟨q, -⟩; omega
  obtain ⟨io1, io2, io3⟩ := h3 o ho hu
  have apart : ∀ o', o' < 16 → xs_used O o' = true → O.2.1 o' ≠ 0 → ∀ A, r (22 + o) 4 = some A → pa (O.2.2.1 o') = A → O.2.1 o ≠ 0 ∧ O.2.2.1 o' = O.2.2.1 o := by
    intro o' ho' hu' hk' A hA' e
    have k0 : O.2.1 o ≠ 0 := fun q => by rw [(io2 q).1] at hA'; cases hA'
    have e2 := Option.some.inj ((io3 k0).symm.trans hA')
    exact ⟨k0, h5 o' o ho' ho hu' hu hk' k0 (e.trans e2.symm)⟩
  refine ⟨fun o' ho' => ?_, xr_D_up (v := none) h2 hd, pa, fun o' ho' hu' => ?_, fun o' ho' hu' hk' => ?_, fun a b ha hb ua ub => ?_⟩
  · have := cr o'
    by_cases e : o = o'
    · subst e; rw [if_pos rfl] at this; rw [hm0, show xs_cnt (xs_of O (6 * p + d) none).1 o 42 = 0 by omega]
    · rw [if_neg e] at this
      rw [hm (22 + o') (by omega) (fun q => by
        have k0 : O.2.1 o ≠ 0 := fun z => by rw [(io2 z).1] at q; cases q
        have e2 := Option.some.inj ((io3 k0).symm.trans q)
        have := (h4 o ho hu k0).1
        omega), show xs_cnt (xs_of O (6 * p + d) none).1 o' 42 = xs_cnt O.1 o' 42 by omega]
      exact h1 o' ho'
  · obtain ⟨u', ne⟩ := (us o').mp hu'
    obtain ⟨i1, i2, i3⟩ := h3 o' ho' u'
    have hm' : m1 (22 + o') = m (22 + o') := hm (22 + o') (by omega) (fun q => by
        have k0 : O.2.1 o ≠ 0 := fun z => by rw [(io2 z).1] at q; cases q
        have e2 := Option.some.inj ((io3 k0).symm.trans q)
        have := (h4 o ho hu k0).1
        omega)
    refine ⟨by rw [hm']; exact i1, fun k => ?_, fun k => ?_⟩
    · rw [hm', xk_up_a (by omega)]; exact i2 k
    · rw [xk_up_a (by omega)]; exact i3 k
  · obtain ⟨u', ne⟩ := (us o').mp hu'
    have hk2 : O.2.1 o' ≠ 0 := hk'
    obtain ⟨a1, a2, a3, ⟨old, b1, b2, b3, b4⟩, a5, a6⟩ := h4 o' ho' u' hk2
    show xr_P (xs_of O (6 * p + d) none) (pa (O.2.2.1 o')) (O.2.2.1 o') m1 n
    have hc1 : m1 (pa (O.2.2.1 o') + 1) = m (pa (O.2.2.1 o') + 1) := hm _ (by omega) (fun q => by
      have k0 : O.2.1 o ≠ 0 := fun z => by rw [(io2 z).1] at q; cases q
      have e2 := Option.some.inj ((io3 k0).symm.trans q)
      have := (h4 o ho hu k0).2.1
      omega)
    have endo : ∀ e, (O.2.1 o = e ∧ O.2.2.1 o = O.2.2.1 o' → e = O.2.1 o) := fun e q => q.1.symm
    have es : ∀ e, ¬ (O.2.1 o = e ∧ O.2.2.1 o = O.2.2.1 o') → xs_end (xs_of O (6 * p + d) none) (O.2.2.1 o') e = xs_end O (O.2.2.1 o') e := fun e ne2 => xs_end_congr (fun z hz => by
      rw [us]
      constructor
      · rintro ⟨⟨q1, -⟩, q2⟩; exact ⟨q1, q2⟩
      · rintro ⟨q1, q2⟩
        exact ⟨⟨q1, fun e2 => ne2 (by rw [← e2]; exact q2)⟩, q2⟩)
    have ez : ∀ e, O.2.1 o = e → e ≠ 0 → O.2.2.1 o = O.2.2.1 o' → xs_end (xs_of O (6 * p + d) none) (O.2.2.1 o') e = false := fun e q1 q0 q2 => by
      cases hq : xs_end (xs_of O (6 * p + d) none) (O.2.2.1 o') e with
      | false => rfl
      | true =>
        obtain ⟨z, z1, z2, z3, z4⟩ := xs_end_iff.mp hq
        obtain ⟨z5, z6⟩ := (us z).mp z2
        have := hk.2 o z ho z1 hu z5 (by rw [q1]; exact q0) (by rw [q1]; exact z3.symm) (by rw [q2]; exact z4.symm)
        exact absurd this.symm z6
    have ko := (hk.1 o ho hu).1
    by_cases hq : r (22 + o) 4 = some (pa (O.2.2.1 o'))
    · obtain ⟨k0, w0⟩ := apart o' ho' u' hk2 _ hq rfl
      obtain ⟨g1, g2⟩ := hA _ hq a1
      refine ⟨a1, a2, a3, ⟨old, b1, ?_, ?_, fun i x hx => by rw [hc1]; exact b4 i x hx⟩, ?_, ?_⟩
      · rw [g1 1 (by omega)]; exact b2
      · rw [g1 2 (by omega)]; exact b3
      · by_cases e1 : O.2.1 o = 1
        · rw [ez 1 e1 (by decide) w0.symm]
          have g3 := g2
          rw [e1] at g3
          exact g3
        · rw [g1 3 (by omega), es 1 (fun q => e1 q.1)]; exact a5
      · by_cases e1 : O.2.1 o = 2
        · rw [ez 2 e1 (by decide) w0.symm]
          have g3 := g2
          rw [e1] at g3
          exact g3
        · rw [g1 4 (by omega), es 2 (fun q => e1 q.1)]; exact a6
    · have hmA : m1 (pa (O.2.2.1 o')) = m (pa (O.2.2.1 o')) := hm _ (by omega) hq
      have nw : ∀ e, e ≠ 0 → ¬ (O.2.1 o = e ∧ O.2.2.1 o = O.2.2.1 o') := fun e e0 q => hq (by rw [io3 (by rw [q.1]; exact e0), q.2])
      refine ⟨a1, a2, a3, ⟨old, b1, by rw [hmA]; exact b2, by rw [hmA]; exact b3, fun i x hx => by rw [hc1]; exact b4 i x hx⟩, ?_, ?_⟩
      · rw [hmA, es 1 (nw 1 (by decide))]; exact a5
      · rw [hmA, es 2 (nw 2 (by decide))]; exact a6
  · exact h5 a b ha hb ((us a).mp ua).1 ((us b).mp ub).1
