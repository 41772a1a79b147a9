/-! what holds of the file side goes on to hold -/
def xs_ky (x : xs_B) : Nat × Nat := (x.1, x.2.1)
theorem xo_nd {l : List xs_B} : (∀ (i j : Nat) (x y : xs_B), l[i]? = some x → l[j]? = some y → x.1 = y.1 → x.2.1 = y.2.1 → i = j) ↔ (l.map xs_ky).Nodup := by
  constructor
  · intro h
    rw [List.Nodup, List.pairwise_iff_getElem]
    intro i j hi hj hij e
    rw [List.length_map] at hi hj
    rw [List.getElem_map, List.getElem_map] at e
    have := h i j _ _ (List.getElem?_eq_getElem hi) (List.getElem?_eq_getElem hj) (congrArg (fun z : Nat × Nat => z.1) e) (congrArg (fun z : Nat × Nat => z.2) e)
    omega
  · intro h i j x y hx hy e1 e2
    rw [List.Nodup, List.pairwise_iff_getElem] at h
    have hi := xs_lt hx
    have hj := xs_lt hy
    have gx : l[i] = x := Option.some.inj ((List.getElem?_eq_getElem hi).symm.trans hx)
    have gy : l[j] = y := Option.some.inj ((List.getElem?_eq_getElem hj).symm.trans hy)
    have ek : xs_ky x = xs_ky y := Prod.ext e1 e2
    rcases Nat.lt_trichotomy i j with q | q | q
    · exact absurd (by rw [List.getElem_map, List.getElem_map, gx, gy]; exact ek) (h i j (by rw [List.length_map]; exact hi) (by rw [List.length_map]; exact hj) q)
    · exact q
    · exact absurd (by rw [List.getElem_map, List.getElem_map, gx, gy]; exact ek.symm) (h j i (by rw [List.length_map]; exact hj) (by rw [List.length_map]; exact hi) q)
/-- of the host and LENGTH -/
def xo_h (h : xs_H) (ln : Nat → Nat) : Prop := (∀ f, f < 8 → h.2.1 f ≤ ln f ∧ ln f ≤ 32) ∧ (∀ f i, f < 8 → h.2.1 f ≤ i → i < 32 → h.2.2.1 f i = 0) ∧ h.2.2.2.2.2 ≤ 9
/-- of the cache -/
def xo_l (ln : Nat → Nat) (l : List xs_B) : Prop := (∀ x ∈ l, x.1 < 8 ∧ x.2.1 < 4 ∧ (x.2.2.1 = true → 8 * x.2.1 < ln x.1)) ∧ (l.map xs_ky).Nodup ∧ l.length ≤ 5
theorem xo_iff {F : xs_F} : xs_okF F ↔ xo_h F.1 F.2.1 ∧ xo_l F.2.1 F.2.2 := by
  constructor
  · rintro ⟨h1, h2, h3, h4, h5, h6⟩
    refine ⟨⟨h1, h2, h6⟩, fun x hx => ?_, xo_nd.mp h4, h5⟩
    obtain ⟨i, hi⟩ := List.getElem?_of_mem hx
    exact h3 i x hi
  · rintro ⟨⟨h1, h2, h6⟩, h3, h4, h5⟩
    exact ⟨h1, h2, fun i x hx => h3 x (List.mem_of_getElem? hx), xo_nd.mpr h4, h5, h6⟩
theorem xo_op {h : xs_H} {ln : Nat → Nat} (hh : xo_h h ln) (o f b : Nat) : xo_h (xs_op h o f b).1 ln := ⟨hh.1, hh.2.1, by show h.2.2.2.2.2 - 1 ≤ 9; have := hh.2.2; omega⟩
theorem xo_wrh {h : xs_H} {ln : Nat → Nat} {x : xs_B} (hh : xo_h h ln) (hx : x.1 < 8) : xo_h (xs_wrh h (ln x.1) x) ln := by
  obtain ⟨h1, h2, h3⟩ := hh
  refine ⟨fun f hf => ?_, fun f i hf hi hi2 => ?_, h3⟩
  · show xs_u h.2.1 x.1 (max (h.2.1 x.1) (min (8 * x.2.1 + 8) (ln x.1))) f ≤ ln f ∧ ln f ≤ 32
    by_cases e : f = x.1
    · subst e
      rw [xs_u_s]
      have := h1 _ hf
      omega
    · rw [xs_u_n e]
      exact h1 f hf
  · change xs_u h.2.1 x.1 (max (h.2.1 x.1) (min (8 * x.2.1 + 8) (ln x.1))) f ≤ i at hi
    show xs_u h.2.2.1 x.1 (fun i => if 8 * x.2.1 ≤ i ∧ i < min (8 * x.2.1 + 8) (ln x.1) then x.2.2.2 (i - 8 * x.2.1) else h.2.2.1 x.1 i) f i = 0
    by_cases e : f = x.1
    · subst e
      rw [xs_u_s] at hi ⊢
      rw [if_neg (by omega)]
      exact h2 _ i hf (by omega) hi2
    · rw [xs_u_n e] at hi ⊢
      exact h2 f i hf hi hi2
theorem xo_sub {ln : Nat → Nat} {l l' : List xs_B} (h : xo_l ln l) (hs : l'.Sublist l) : xo_l ln l' :=
  ⟨fun x hx => h.1 x (hs.subset hx), h.2.1.sublist (hs.map _), Nat.le_trans hs.length_le h.2.2⟩
theorem xo_perm {ln : Nat → Nat} {l l' : List xs_B} (h : xo_l ln l) (hs : l'.Perm l) : xo_l ln l' :=
  ⟨fun x hx => h.1 x (hs.mem_iff.mp hx), (hs.map xs_ky).nodup_iff.mpr h.2.1, by rw [hs.length_eq]; exact h.2.2⟩
theorem xo_rot_c : ∀ {l : List xs_B} {p : Nat} {x : xs_B}, l[p]? = some x → (x :: l.eraseIdx p).Perm l
  | [], p, x, h => by simp at h
  | y :: t, 0, x, h => by
    rw [List.getElem?_cons_zero] at h
    cases h
    exact List.Perm.refl _
  | y :: t, p + 1, x, h => by
    rw [List.getElem?_cons_succ] at h
    exact (List.Perm.swap y x (t.eraseIdx p)).trans (List.Perm.cons y (xo_rot_c h))
theorem xo_rot {l : List xs_B} {p : Nat} (hp : p < l.length) : ((l[p]?).toList ++ l.eraseIdx p).Perm l := by
  obtain ⟨x, hx⟩ := xs_get_lt hp
  rw [hx]
  exact xo_rot_c hx
theorem xo_set {ln : Nat → Nat} {l : List xs_B} {i : Nat} {x : xs_B} {g : Nat → Int32} (h : xo_l ln l) (hx : l[i]? = some x) : xo_l ln (l.set i (x.1, x.2.1, false, g)) := by
  refine ⟨fun y hy => ?_, ?_, by rw [List.length_set]; exact h.2.2⟩
  · rcases List.mem_or_eq_of_mem_set hy with q | q
    · exact h.1 y q
    · subst q
      have := h.1 x (List.mem_of_getElem? hx)
      exact ⟨this.1, this.2.1, fun q => by cases q⟩
  · have e : (l.set i (x.1, x.2.1, false, g)).map xs_ky = l.map xs_ky := by
      rw [List.map_set]
      apply List.ext_getElem?
      intro j
      rw [List.getElem?_set]
      split
      · next hij =>
        subst hij
        split
        · rw [List.getElem?_map, hx]; rfl
        · next hl => exact absurd (by rw [List.length_map]; exact xs_lt hx) hl
      · rfl
    rw [e]
    exact h.2.1
theorem xo_push {ln : Nat → Nat} {l : List xs_B} {f b : Nat} {g : Nat → Int32} (h : xo_l ln l) (hf : f < 8) (hb : b < 4) (hl : l.length < 5) (hn : l.findIdx? (xs_is f b) = none) : xo_l ln ((f, b, false, g) :: l) := by
  refine ⟨fun x hx => ?_, ?_, by rw [List.length_cons]; omega⟩
  · rcases List.mem_cons.mp hx with rfl | q
    · exact ⟨hf, hb, fun q => by cases q⟩
    · exact h.1 x q
  · rw [List.map_cons, List.nodup_cons]
    refine ⟨fun hm => ?_, h.2.1⟩
    obtain ⟨x, hx, e⟩ := List.mem_map.mp hm
    rw [List.findIdx?_eq_none_iff] at hn
    have := hn x hx
    unfold xs_is at this
    have h1 : x.1 = f := congrArg Prod.fst e
    have h2 : x.2.1 = b := congrArg Prod.snd e
    rw [decide_eq_false_iff_not] at this
    exact this ⟨h1, h2⟩
theorem xo_wr {F : xs_F} {x : xs_B} (h : xs_okF F) (hx : x.1 < 8) : xo_h (xs_wr F x).1.1 F.2.1 := by
  have hh := (xo_iff.mp h).1
  by_cases ht : F.1.2.2.2.2.2 = 0
  · rw [xs_wr_t ht]
    exact xo_wrh (xo_op hh 1 x.1 x.2.1) hx
  · rw [xs_wr_f ht]
    exact xo_op hh 1 x.1 x.2.1
theorem xo_wr_l {F : xs_F} {x : xs_B} : (xs_wr F x).1.2 = F.2 := by
  by_cases ht : F.1.2.2.2.2.2 = 0
  · rw [xs_wr_t ht]
  · rw [xs_wr_f ht]
theorem xo_wr_o {F : xs_F} {x : xs_B} : (xs_wr F x).1.1.2.2.2.2.1 = F.1.2.2.2.2.1 + 1 := by
  by_cases ht : F.1.2.2.2.2.2 = 0
  · rw [xs_wr_t ht]
    rfl
  · rw [xs_wr_f ht]
    rfl
theorem xs_rm_cases {F : xs_F} (h5 : F.2.2.length ≤ 5) : (F.2.2.length < 5 ∧ xs_rm F = (F, true)) ∨ ∃ x, F.2.2.length = 5 ∧ F.2.2[4]? = some x ∧ ((x.2.2.1 = false ∧ xs_rm F = ((F.1, F.2.1, F.2.2.take 4), true)) ∨ (x.2.2.1 = true ∧ F.1.2.2.2.2.2 = 0 ∧ xs_rm F = ((xs_wrh (xs_op F.1 1 x.1 x.2.1).1 (F.2.1 x.1) x, F.2.1, F.2.2.take 4), true)) ∨ (x.2.2.1 = true ∧ F.1.2.2.2.2.2 ≠ 0 ∧ xs_rm F = (((xs_op F.1 1 x.1 x.2.1).1, F.2), false))) := by
  by_cases hl : F.2.2.length < 5
  · exact Or.inl ⟨hl, if_pos hl⟩
  · right
    obtain ⟨x, hx⟩ := xs_get_lt (l := F.2.2) (i := 4) (by omega)
    refine ⟨x, by omega, hx, ?_⟩
    have e : xs_rm F = if x.2.2.1 = true then (if (xs_wr F x).2 = true then (((xs_wr F x).1.1, F.2.1, F.2.2.take 4), true) else ((xs_wr F x).1, false)) else ((F.1, F.2.1, F.2.2.take 4), true) := by
      unfold xs_rm
      rw [if_neg hl, hx]
    cases hd : x.2.2.1 with
    | false =>
      left
      rw [hd, if_neg (by decide)] at e
      exact ⟨rfl, e⟩
    | true =>
      right
      rw [hd, if_pos rfl] at e
      by_cases ht : F.1.2.2.2.2.2 = 0
      · left
        rw [xs_wr_t ht, if_pos rfl] at e
        exact ⟨rfl, ht, e⟩
      · right
        rw [xs_wr_f ht, if_neg (show ¬ (false = true) by decide)] at e
        exact ⟨rfl, ht, e⟩
/-- room: at most one operation more -/
theorem xo_rm {F : xs_F} (h : xs_okF F) : xs_okF (xs_rm F).1 ∧ (xs_rm F).1.1.2.2.2.2.1 ≤ F.1.2.2.2.2.1 + 1 ∧ (xs_rm F).1.2.1 = F.2.1 ∧ ((xs_rm F).2 = true → (xs_rm F).1.2.2.length < 5) ∧ (xs_rm F).1.2.2.Sublist F.2.2 := by
  have h' := xo_iff.mp h
  rcases xs_rm_cases h.2.2.2.2.1 with ⟨hl, e⟩ | ⟨x, hl, hx, ⟨hd, e⟩ | ⟨hd, ht, e⟩ | ⟨hd, ht, e⟩⟩
  · rw [e]
    exact ⟨h, Nat.le_succ _, rfl, fun _ => hl, List.Sublist.refl _⟩
  · rw [e]
    exact ⟨xo_iff.mpr ⟨h'.1, xo_sub h'.2 (List.take_sublist _ _)⟩, Nat.le_succ _, rfl, fun _ => by show (F.2.2.take 4).length < 5; rw [List.length_take]; omega, List.take_sublist _ _⟩
  · rw [e]
    exact ⟨xo_iff.mpr ⟨xo_wrh (xo_op h'.1 1 x.1 x.2.1) (h.2.2.1 4 x hx).1, xo_sub h'.2 (List.take_sublist _ _)⟩, Nat.le_refl _, rfl, fun _ => by show (F.2.2.take 4).length < 5; rw [List.length_take]; omega, List.take_sublist _ _⟩
  · rw [e]
    exact ⟨xo_iff.mpr ⟨xo_op h'.1 1 x.1 x.2.1, h'.2⟩, Nat.le_refl _, rfl, (fun q => by cases q), List.Sublist.refl _⟩
theorem xo_in {F : xs_F} {f b : Nat} (h : xs_okF F) (hf : f < 8) (hb : b < 4) (hl : F.2.2.length < 5) (hn : F.2.2.findIdx? (xs_is f b) = none) : xs_okF (xs_in F f b).1 ∧ (xs_in F f b).1.1.2.2.2.2.1 ≤ F.1.2.2.2.2.1 + 1 ∧ (xs_in F f b).1.2.1 = F.2.1 := by
  have h' := xo_iff.mp h
  unfold xs_in
  split
  · split
    · exact ⟨xo_iff.mpr ⟨xo_op h'.1 0 f b, xo_push h'.2 hf hb hl hn⟩, Nat.le_refl _, rfl⟩
    · exact ⟨xo_iff.mpr ⟨xo_op h'.1 0 f b, h'.2⟩, Nat.le_refl _, rfl⟩
  · exact ⟨xo_iff.mpr ⟨h'.1, xo_push h'.2 hf hb hl hn⟩, Nat.le_succ _, rfl⟩
theorem xs_fi_sub {l l' : List xs_B} {f b : Nat} (hs : l'.Sublist l) (h : l.findIdx? (xs_is f b) = none) : l'.findIdx? (xs_is f b) = none := by
  rw [List.findIdx?_eq_none_iff] at h ⊢
  exact fun x hx => h x (hs.subset hx)
theorem xo_get {F : xs_F} {f b : Nat} (h : xs_okF F) (hf : f < 8) (hb : b < 4) : xs_okF (xs_get F f b).1 ∧ (xs_get F f b).1.1.2.2.2.2.1 ≤ F.1.2.2.2.2.1 + 2 ∧ (xs_get F f b).1.2.1 = F.2.1 := by
  cases hi : F.2.2.findIdx? (xs_is f b) with
  | some i =>
    rw [xs_get_fi hi]
    have h' := xo_iff.mp h
    exact ⟨xo_iff.mpr ⟨h'.1, xo_perm h'.2 (xo_rot (by obtain ⟨x, hx, -⟩ := xs_fi_is hi; exact xs_lt hx))⟩, by show F.1.2.2.2.2.1 ≤ _; omega, rfl⟩
  | none =>
    obtain ⟨r1, r2, r3, r4, r5⟩ := xo_rm h
    have e : xs_get F f b = if (xs_rm F).2 = true then xs_in (xs_rm F).1 f b else xs_rm F := by
      unfold xs_get
      rw [hi]
    rw [e]
    split
    · next ht =>
      obtain ⟨i1, i2, i3⟩ := xo_in r1 hf hb (r4 ht) (xs_fi_sub r5 hi)
      exact ⟨i1, by omega, i3.trans r3⟩
    · exact ⟨r1, by omega, r3⟩
