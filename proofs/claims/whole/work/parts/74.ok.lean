/-! what always holds: it goes on to hold, and few operations are added -/
def xo_th (F : xs_F) (O : xs_O) : Prop := (∀ x ∈ F.2.2, F.1.1 x.1 = true) ∧ ∀ o, o < 16 → xs_used O o = true → O.2.1 o = 0 → F.1.1 (O.2.2.1 o) = true
def xo_S (s : xs_S) : Prop := xs_ok s ∧ xo_th s.1 s.2.2.1
def xo_G (s s' : xs_S) : Prop := xo_S s' ∧ s'.1.1.2.2.2.2.1 ≤ s.1.1.2.2.2.2.1 + 4
theorem xo_r {s : xs_S} (h : xo_S s) : xo_G s s := ⟨h, by omega⟩
theorem xs_alive_x {T : xs_T} {x : Int32} {p : Nat} (h : xs_alive T x = some p) : x = nI p ∧ p < 7 ∧ T.1 p = 1 := by
  unfold xs_alive at h
  cases hx : xs_nat x 7 with
  | none => rw [hx] at h; cases h
  | some q =>
    rw [hx] at h
    dsimp only at h
    split at h
    · next w =>
      cases h
      obtain ⟨a, b⟩ := xs_nat_x hx (by decide)
      exact ⟨a, b, w⟩
    · cases h
theorem xs_desc_x {s : xs_S} {a b : Int32} {p d o : Nat} (h : xs_desc s a b = .inr (p, d, o)) : p < 7 ∧ d < 6 ∧ s.2.2.2.1 p = 1 ∧ s.2.2.1.1 (6 * p + d) = some o := by
  unfold xs_desc at h
  cases ha : xs_alive s.2.2.2 a with
  | none => rw [ha] at h; cases h
  | some p' =>
    cases hb : xs_nat b 6 with
    | none => rw [ha, hb] at h; cases h
    | some d' =>
      rw [ha, hb] at h
      dsimp only at h
      cases ho : s.2.2.1.1 (6 * p' + d') with
      | none => rw [ho] at h; cases h
      | some o' =>
        rw [ho] at h
        cases h
        obtain ⟨_, a2, a3⟩ := xs_alive_x ha
        exact ⟨a2, (xs_nat_x hb (by decide)).2, a3, ho⟩
/-- the file side alone changes, and every file stays there -/
theorem xo_F {s : xs_S} {F' : xs_F} (h : xo_S s) (h1 : xs_okF F') (h2 : ∀ f, s.1.1.1 f = true → F'.1.1 f = true) (h3 : ∀ x ∈ F'.2.2, F'.1.1 x.1 = true) (h4 : F'.1.2.2.2.2.1 ≤ s.1.1.2.2.2.2.1 + 4) : xo_G s (F', s.2) :=
  ⟨⟨⟨h1, h.1.2⟩, h3, fun o a b c => h2 _ (h.2.2 o a b c)⟩, h4⟩
theorem xo_put {s : xs_S} (h : xo_S s) (a b c : Int32) : xo_G s (xs_put s a b c).2 := by
  unfold xs_put
  cases ha : xs_nat a 8 with
  | none => exact xo_r h
  | some f =>
    cases hb : xs_nat b 33 with
    | none => exact xo_r h
    | some l =>
      dsimp only
      split
      · exact xo_r h
      · next hn =>
        have hf := (xs_nat_x ha (by decide)).2
        have hl := (xs_nat_x hb (by decide)).2
        obtain ⟨o1, o2⟩ := xo_iff.mp h.1.1
        have nof : ∀ x ∈ s.1.2.2, x.1 ≠ f := fun x hx e => hn (Or.inr (List.any_eq_true.mpr ⟨x, hx, decide_eq_true e⟩))
        refine xo_F (F' := (xs_place s.1.1 f l c, xs_u s.1.2.1 f l, s.1.2.2)) h (xo_iff.mpr ⟨⟨fun g hg => ?_, fun g i hg hi hi2 => ?_, o1.2.2⟩, fun x hx => ?_, o2.2⟩) (fun g hg => ?_) (fun x hx => ?_) (by show s.1.1.2.2.2.2.1 ≤ _; omega)
        · show xs_u s.1.1.2.1 f l g ≤ xs_u s.1.2.1 f l g ∧ xs_u s.1.2.1 f l g ≤ 32
          by_cases e : g = f
          · subst e; rw [xs_u_s, xs_u_s]; omega
          · rw [xs_u_n e, xs_u_n e]; exact o1.1 g hg
        · change xs_u s.1.1.2.1 f l g ≤ i at hi
          show xs_u s.1.1.2.2.1 f (fun i => if i < l then (c + nI (7 * i)) &&& nI 255 else 0) g i = 0
          by_cases e : g = f
          · subst e
            rw [xs_u_s] at hi ⊢
            exact if_neg (by omega)
          · rw [xs_u_n e] at hi ⊢
            exact o1.2.1 g i hg hi hi2
        · obtain ⟨a1, a2, a3⟩ := o2.1 x hx
          refine ⟨a1, a2, fun hd => ?_⟩
          show _ < xs_u s.1.2.1 f l x.1
          rw [xs_u_n (nof x hx)]
          exact a3 hd
        · show xs_u s.1.1.1 f true g = true
          by_cases e : g = f
          · subst e; rw [xs_u_s]
          · rw [xs_u_n e]; exact hg
        · show xs_u s.1.1.1 f true x.1 = true
          rw [xs_u_n (nof x hx)]
          exact h.2.1 x hx
theorem xo_policy {s : xs_S} (h : xo_S s) (a b : Int32) : xo_G s (xs_policy s a b).2 := by
  unfold xs_policy
  cases ha : xs_nat a 8 with
  | none => exact xo_r h
  | some f =>
    cases hb : xs_nat b 3 with
    | none => exact xo_r h
    | some p =>
      have hp := (xs_nat_x hb (by decide)).2
      refine ⟨⟨⟨h.1.1, fun g hg => ?_, h.1.2.2⟩, h.2⟩, by show s.1.1.2.2.2.2.1 ≤ _; omega⟩
      show xs_u s.2.1 f p g ≤ 2
      by_cases e : g = f
      · subst e; rw [xs_u_s]; omega
      · rw [xs_u_n e]; exact h.1.2.1 g hg
theorem xo_failing {s : xs_S} (h : xo_S s) (a : Int32) : xo_G s (xs_failing s a).2 := by
  unfold xs_failing
  cases ha : xs_nat a 10 with
  | none => exact xo_r h
  | some k =>
    have hk := (xs_nat_x ha (by decide)).2
    obtain ⟨o1, o2⟩ := xo_iff.mp h.1.1
    exact xo_F (F' := ((s.1.1.1, s.1.1.2.1, s.1.1.2.2.1, s.1.1.2.2.2.1, s.1.1.2.2.2.2.1, k), s.1.2)) h (xo_iff.mpr ⟨⟨o1.1, o1.2.1, by show k ≤ 9; omega⟩, o2⟩) (fun f hf => hf) h.2.1 (by show s.1.1.2.2.2.2.1 ≤ _; omega)
/-- fewer descriptors, the same openings -/
theorem xo_U {O O' : xs_O} (h : xs_okU O) (e : O'.2 = O.2) (hu : ∀ o, xs_used O' o = true → xs_used O o = true) : xs_okU O' := by
  obtain ⟨O1, O2⟩ := O'
  change O2 = O.2 at e
  subst e
  exact ⟨fun o ho u => h.1 o ho (hu o u), fun o o' a b c d => h.2 o o' a b (hu o c) (hu o' d)⟩
theorem xo_O {s : xs_S} {O' : xs_O} {T' : xs_T} (h : xo_S s) (e : O'.2 = s.2.2.1.2) (hu : ∀ o, xs_used O' o = true → xs_used s.2.2.1 o = true) (h1 : ∀ k o, k < 42 → O'.1 k = some o → o < 16) (h2 : ∀ p d, p < 7 → d < 6 → T'.1 p ≠ 1 → O'.1 (6 * p + d) = none) (hT : xs_okT T') : xo_G s (s.1, s.2.1, O', T') := by
  refine ⟨⟨⟨h.1.1, h.1.2.1, ⟨h1, h2, xo_U (xs_okO_U h.1.2.2.1) e hu⟩, hT⟩, h.2.1, fun o a b c => ?_⟩, by show s.1.1.2.2.2.2.1 ≤ _; omega⟩
  change O'.2.1 o = 0 at c
  show s.1.1.1 (O'.2.2.1 o) = true
  rw [e] at c ⊢
  exact h.2.2 o a (hu o b) c
theorem xo_dup {s : xs_S} (h : xo_S s) (a b : Int32) : xo_G s (xs_dup s a b).2 := by
  unfold xs_dup
  cases hd : xs_desc s a b with
  | inl e => exact xo_r h
  | inr q =>
    obtain ⟨p, d, o⟩ := q
    obtain ⟨d1, d2, d3, d4⟩ := xs_desc_x hd
    dsimp only
    cases hf : xs_free s.2.2.1 p 0 with
    | none => exact xo_r h
    | some e =>
      obtain ⟨_, he, hfr, _⟩ := xs_least_sp hf
      have hfree := of_decide_eq_true hfr
      have okO := h.1.2.2.1
      have ho := okO.1 _ o (by omega) d4
      refine xo_O (O' := xs_of s.2.2.1 (6 * p + e) (some o)) (T' := s.2.2.2) h rfl (fun o' u => ?_) (fun k o' hk z => ?_) (fun p' d' hp' hd' ht => ?_) h.1.2.2.2
      · rcases (xs_used_nn (by omega) hfree o').mp u with w | w
        · exact w
        · subst w; exact xs_used_of (by omega) d4
      · change xs_u s.2.2.1.1 (6 * p + e) (some o) k = some o' at z
        by_cases w : k = 6 * p + e
        · subst w; rw [xs_u_s] at z; cases z; exact ho
        · rw [xs_u_n w] at z; exact okO.1 k o' hk z
      · show xs_u s.2.2.1.1 (6 * p + e) (some o) (6 * p' + d') = none
        have : p' ≠ p := fun w => ht (by rw [w]; exact d3)
        rw [xs_u_n (by omega)]
        exact okO.2.1 p' d' hp' hd' ht
theorem xo_close {s : xs_S} (h : xo_S s) (a b : Int32) : xo_G s (xs_close s a b).2 := by
  unfold xs_close
  cases hd : xs_desc s a b with
  | inl e => exact xo_r h
  | inr q =>
    obtain ⟨p, d, o⟩ := q
    obtain ⟨d1, d2, d3, d4⟩ := xs_desc_x hd
    have okO := h.1.2.2.1
    refine xo_O (O' := xs_of s.2.2.1 (6 * p + d) none) (T' := s.2.2.2) h rfl (fun o' u => xs_used_r (by omega) o' u) (fun k o' hk z => ?_) (fun p' d' hp' hd' ht => ?_) h.1.2.2.2
    · change xs_u s.2.2.1.1 (6 * p + d) none k = some o' at z
      by_cases w : k = 6 * p + d
      · subst w; rw [xs_u_s] at z; cases z
      · rw [xs_u_n w] at z; exact okO.1 k o' hk z
    · show xs_u s.2.2.1.1 (6 * p + d) none (6 * p' + d') = none
      by_cases w : 6 * p' + d' = 6 * p + d
      · rw [w, xs_u_s]
      · rw [xs_u_n w]; exact okO.2.1 p' d' hp' hd' ht
theorem xo_fork {s : xs_S} (h : xo_S s) (a : Int32) : xo_G s (xs_fork s a).2 := by
  unfold xs_fork
  cases ha : xs_alive s.2.2.2 a with
  | none => exact xo_r h
  | some p =>
    dsimp only
    cases hq : xs_least (fun q => decide (s.2.2.2.1 q = 0)) 1 6 with
    | none => exact xo_r h
    | some q =>
      obtain ⟨q1, q2, q3, _⟩ := xs_least_sp hq
      have q3 := of_decide_eq_true q3
      obtain ⟨_, hp, hpa⟩ := xs_alive_x ha
      have okO := h.1.2.2.1
      obtain ⟨t0, t1, t2, t3, t4⟩ := h.1.2.2.2
      have hq1 : q ≠ 1 := fun w => by subst w; rw [t1] at q3; cases q3
      refine xo_O (O' := xs_share s.2.2.1 q p) (T' := (xs_u s.2.2.2.1 q 1, xs_u s.2.2.2.2.1 q p, s.2.2.2.2.2)) h rfl (fun o' u => ?_) (fun k o' hk z => ?_) (fun p' d' hp' hd' ht => ?_) ⟨?_, ?_, fun j hj => ?_, fun j hj hj7 hz => ?_, fun j hj hz => ?_⟩
      · obtain ⟨k, k1, k2⟩ := xs_used_ex u
        change (if 6 * q ≤ k ∧ k < 6 * q + 6 then s.2.2.1.1 (6 * p + (k - 6 * q)) else s.2.2.1.1 k) = some o' at k2
        split at k2
        · exact xs_used_of (by omega) k2
        · exact xs_used_of k1 k2
      · change (if 6 * q ≤ k ∧ k < 6 * q + 6 then s.2.2.1.1 (6 * p + (k - 6 * q)) else s.2.2.1.1 k) = some o' at z
        split at z
        · exact okO.1 _ o' (by omega) z
        · exact okO.1 k o' hk z
      · change xs_u s.2.2.2.1 q 1 p' ≠ 1 at ht
        have w : p' ≠ q := fun w => ht (by rw [w, xs_u_s])
        rw [xs_u_n w] at ht
        show (if 6 * q ≤ 6 * p' + d' ∧ 6 * p' + d' < 6 * q + 6 then s.2.2.1.1 (6 * p + (6 * p' + d' - 6 * q)) else s.2.2.1.1 (6 * p' + d')) = none
        rw [if_neg (by omega)]
        exact okO.2.1 p' d' hp' hd' ht
      · show xs_u s.2.2.2.1 q 1 0 = 0
        rw [xs_u_n (by omega)]; exact t0
      · show xs_u s.2.2.2.1 q 1 1 = 1
        rw [xs_u_n (by omega)]; exact t1
      · show xs_u s.2.2.2.1 q 1 j ≤ 2
        by_cases w : j = q
        · subst w; rw [xs_u_s]; decide
        · rw [xs_u_n w]; exact t2 j hj
      · change xs_u s.2.2.2.1 q 1 j ≠ 0 at hz
        show xs_u s.2.2.2.2.1 q p j < 7
        by_cases w : j = q
        · subst w; rw [xs_u_s]; exact hp
        · rw [xs_u_n w] at hz ⊢; exact t3 j hj hj7 hz
      · change xs_u s.2.2.2.1 q 1 j = 2 at hz
        by_cases w : j = q
        · subst w; rw [xs_u_s] at hz; cases hz
        · rw [xs_u_n w] at hz; exact t4 j hj hz
theorem xo_exit {s : xs_S} (h : xo_S s) (a b : Int32) : xo_G s (xs_exit s a b).2 := by
  unfold xs_exit
  cases ha : xs_alive s.2.2.2 a with
  | none => exact xo_r h
  | some p =>
    cases hb : xs_nat b 100 with
    | none => exact xo_r h
    | some c =>
      dsimp only
      split
      · exact xo_r h
      · next hp1 =>
        have hc := (xs_nat_x hb (by decide)).2
        obtain ⟨_, hp, hpa⟩ := xs_alive_x ha
        have okO := h.1.2.2.1
        obtain ⟨t0, t1, t2, t3, t4⟩ := h.1.2.2.2
        have hp0 : p ≠ 0 := fun w => by subst w; rw [t0] at hpa; cases hpa
        have sub : ∀ k o, (xs_bare s.2.2.1 p).1 k = some o → s.2.2.1.1 k = some o := fun k o z => by
          change (if 6 * p ≤ k ∧ k < 6 * p + 6 then none else s.2.2.1.1 k) = some o at z
          split at z
          · cases z
          · exact z
        refine xo_O (O' := xs_bare s.2.2.1 p) (T' := (xs_u s.2.2.2.1 p 2, (fun q => if 2 ≤ q ∧ s.2.2.2.1 q ≠ 0 ∧ s.2.2.2.2.1 q = p then 1 else s.2.2.2.2.1 q), xs_u s.2.2.2.2.2 p c)) h rfl (xs_used_sub (fun k o _ z => sub k o z)) (fun k o' hk z => okO.1 k o' hk (sub k o' z)) (fun p' d' hp' hd' ht => ?_) ⟨?_, ?_, fun j hj => ?_, fun j hj hj7 hz => ?_, fun j hj hz => ?_⟩
        · show (if 6 * p ≤ 6 * p' + d' ∧ 6 * p' + d' < 6 * p + 6 then none else s.2.2.1.1 (6 * p' + d')) = none
          by_cases w : p' = p
          · rw [if_pos (by omega)]
          · rw [if_neg (by omega)]
            change xs_u s.2.2.2.1 p 2 p' ≠ 1 at ht
            rw [xs_u_n w] at ht
            exact okO.2.1 p' d' hp' hd' ht
        · show xs_u s.2.2.2.1 p 2 0 = 0
          rw [xs_u_n (by omega)]; exact t0
        · show xs_u s.2.2.2.1 p 2 1 = 1
          rw [xs_u_n (by omega)]; exact t1
        · show xs_u s.2.2.2.1 p 2 j ≤ 2
          by_cases w : j = p
          · subst w; rw [xs_u_s]; decide
          · rw [xs_u_n w]; exact t2 j hj
        · change xs_u s.2.2.2.1 p 2 j ≠ 0 at hz
          show (if 2 ≤ j ∧ s.2.2.2.1 j ≠ 0 ∧ s.2.2.2.2.1 j = p then 1 else s.2.2.2.2.1 j) < 7
          split
          · decide
          · refine t3 j hj hj7 (fun w => ?_)
            by_cases w2 : j = p
            · subst w2; rw [hpa] at w; cases w
            · rw [xs_u_n w2] at hz; exact hz w
        · change xs_u s.2.2.2.1 p 2 j = 2 at hz
          show xs_u s.2.2.2.2.2 p c j < 100
          by_cases w : j = p
          · subst w; rw [xs_u_s]; exact hc
          · rw [xs_u_n w] at hz ⊢; exact t4 j hj hz
theorem xo_wait {s : xs_S} (h : xo_S s) (a : Int32) : xo_G s (xs_wait s a).2 := by
  unfold xs_wait
  cases ha : xs_alive s.2.2.2 a with
  | none => exact xo_r h
  | some p =>
    dsimp only
    cases hq : xs_least (fun q => decide (s.2.2.2.1 q = 2 ∧ s.2.2.2.2.1 q = p)) 2 5 with
    | none =>
      dsimp only
      cases xs_least (fun q => decide (s.2.2.2.1 q ≠ 0 ∧ s.2.2.2.2.1 q = p)) 2 5 <;> exact xo_r h
    | some q =>
      obtain ⟨q1, q2, q3, _⟩ := xs_least_sp hq
      have q3 := of_decide_eq_true q3
      have okO := h.1.2.2.1
      obtain ⟨t0, t1, t2, t3, t4⟩ := h.1.2.2.2
      refine xo_O (O' := s.2.2.1) (T' := (xs_u s.2.2.2.1 q 0, s.2.2.2.2)) h rfl (fun _ u => u) okO.1 (fun p' d' hp' hd' ht => ?_) ⟨?_, ?_, fun j hj => ?_, fun j hj hj7 hz => ?_, fun j hj hz => ?_⟩
      · change xs_u s.2.2.2.1 q 0 p' ≠ 1 at ht
        refine okO.2.1 p' d' hp' hd' (fun w => ?_)
        by_cases w2 : p' = q
        · subst w2; rw [q3.1] at w; cases w
        · rw [xs_u_n w2] at ht; exact ht w
      · show xs_u s.2.2.2.1 q 0 0 = 0
        rw [xs_u_n (by omega)]; exact t0
      · show xs_u s.2.2.2.1 q 0 1 = 1
        rw [xs_u_n (by omega)]; exact t1
      · show xs_u s.2.2.2.1 q 0 j ≤ 2
        by_cases w : j = q
        · subst w; rw [xs_u_s]; decide
        · rw [xs_u_n w]; exact t2 j hj
      · change xs_u s.2.2.2.1 q 0 j ≠ 0 at hz
        by_cases w : j = q
        · subst w; rw [xs_u_s] at hz; exact absurd rfl hz
        · rw [xs_u_n w] at hz; exact t3 j hj hj7 hz
      · change xs_u s.2.2.2.1 q 0 j = 2 at hz
        by_cases w : j = q
        · subst w; rw [xs_u_s] at hz; cases hz
        · rw [xs_u_n w] at hz; exact t4 j hj hz
theorem xs_used_none {O2 : _} (o : Nat) : xs_used ((fun _ => none), O2) o = false := by
  cases hx : xs_used ((fun _ => none), O2) o with
  | false => rfl
  | true => obtain ⟨k, _, z⟩ := xs_used_ex hx; cases z
theorem xo_crash {s : xs_S} (h : xo_S s) : xo_G s (xs_crash s).2 := by
  obtain ⟨o1, o2⟩ := xo_iff.mp h.1.1
  refine ⟨⟨⟨xo_iff.mpr ⟨⟨fun f hf => ?_, o1.2.1, o1.2.2⟩, fun x hx => ?_, List.Pairwise.nil, Nat.zero_le _⟩, h.1.2.1, ⟨fun k o _ z => ?_, fun _ _ _ _ _ => rfl, fun o ho u => ?_, fun o o' _ _ u => ?_⟩, rfl, rfl, fun j hj => ?_, fun j hj hj7 hz => ?_, fun j hj hz => ?_⟩, fun x hx => ?_, fun o ho u => ?_⟩, by show s.1.1.2.2.2.2.1 ≤ _; omega⟩
  · have := o1.1 f hf
    show s.1.1.2.1 f ≤ s.1.1.2.1 f ∧ s.1.1.2.1 f ≤ 32
    omega
  · cases hx
  · cases z
  · rw [show xs_used (xs_crash s).2.2.2.1 o = false from xs_used_none o] at u; cases u
  · rw [show xs_used (xs_crash s).2.2.2.1 o = false from xs_used_none o] at u; cases u
  · show (if j = 1 then 1 else 0) ≤ 2
    split <;> decide
  · change (if j = 1 then 1 else 0) ≠ 0 at hz
    rw [if_neg (by omega)] at hz
    exact absurd rfl hz
  · change (if j = 1 then 1 else 0) = 2 at hz
    split at hz <;> cases hz
  · cases hx
  · rw [show xs_used (xs_crash s).2.2.2.1 o = false from xs_used_none o] at u; cases u
