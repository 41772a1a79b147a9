theorem xo_FO {s : xs_S} {F' : xs_F} {O' : xs_O} (h : xo_S s) (hF : xs_okF F') (h3 : ∀ x ∈ F'.2.2, F'.1.1 x.1 = true) (hO : xs_okO O' s.2.2.2) (hth : ∀ o, o < 16 → xs_used O' o = true → O'.2.1 o = 0 → F'.1.1 (O'.2.2.1 o) = true) (h4 : F'.1.2.2.2.2.1 ≤ s.1.1.2.2.2.2.1 + 4) : xo_G s (F', s.2.1, O', s.2.2.2) :=
  ⟨⟨⟨hF, h.1.2.1, hO, h.1.2.2.2⟩, h3, hth⟩, h4⟩
theorem xo_pos {O : xs_O} {T : xs_T} {o v : Nat} (h : xs_okO O T) (hv : v ≤ 32) : xs_okO (xs_pos O o v) T := by
  refine ⟨h.1, h.2.1, fun o' ho' u => ?_, h.2.2.2⟩
  obtain ⟨k1, k2, k3, k4⟩ := h.2.2.1 o' ho' u
  refine ⟨k1, k2, fun z => ⟨(k3 z).1, ?_⟩, k4⟩
  show xs_u O.2.2.2.2.1 o v o' ≤ 32
  by_cases w : o' = o
  · subst w; rw [xs_u_s]; exact hv
  · rw [xs_u_n w]; exact (k3 z).2
theorem xo_pip {O : xs_O} {T : xs_T} {q : Nat} {l : List Int32} (h : xs_okO O T) (hl : l.length ≤ 4) : xs_okO (xs_pip O q l) T := by
  refine ⟨h.1, h.2.1, fun o' ho' u => ?_, h.2.2.2⟩
  obtain ⟨k1, k2, k3, k4⟩ := h.2.2.1 o' ho' u
  refine ⟨k1, k2, k3, fun z => ⟨(k4 z).1, (k4 z).2.1, ?_⟩⟩
  show (xs_u O.2.2.2.2.2 q l (O.2.2.1 o')).length ≤ 4
  by_cases w : O.2.2.1 o' = q
  · rw [w, xs_u_s]; exact hl
  · rw [xs_u_n w]; exact (k4 z).2.2
theorem xo_seek {s : xs_S} (h : xo_S s) (a b c : Int32) : xo_G s (xs_seek s a b c).2 := by
  unfold xs_seek
  cases hc : xs_nat c 33 with
  | none => exact xo_r h
  | some v =>
    dsimp only
    cases hd : xs_desc s a b with
    | inl e => exact xo_r h
    | inr q =>
      obtain ⟨p, d, o⟩ := q
      dsimp only
      split
      · exact xo_r h
      · split
        · exact xo_r h
        · have hv := (xs_nat_x hc (by decide)).2
          exact xo_FO h h.1.1 h.2.1 (xo_pos h.1.2.2.1 (by omega)) h.2.2 (by omega)
theorem xo_in2 {F : xs_F} {f b : Nat} : (xs_in F f b).1.1.1 = F.1.1 ∧ (∀ x ∈ (xs_in F f b).1.2.2, x ∈ F.2.2 ∨ x.1 = f) ∧ ((xs_in F f b).2 = true → ∃ x l, (xs_in F f b).1.2.2 = x :: l ∧ x.1 = f ∧ x.2.1 = b) := by
  unfold xs_in
  split
  · split
    · refine ⟨rfl, fun x hx => ?_, fun _ => ⟨_, _, rfl, rfl, rfl⟩⟩
      rcases List.mem_cons.mp hx with w | w
      · subst w; exact Or.inr rfl
      · exact Or.inl w
    · exact ⟨rfl, fun x hx => Or.inl hx, fun z => by cases z⟩
  · refine ⟨rfl, fun x hx => ?_, fun _ => ⟨_, _, rfl, rfl, rfl⟩⟩
    rcases List.mem_cons.mp hx with w | w
    · subst w; exact Or.inr rfl
    · exact Or.inl w
theorem xo_rm2 {F : xs_F} (h5 : F.2.2.length ≤ 5) : (xs_rm F).1.1.1 = F.1.1 ∧ (∀ x ∈ (xs_rm F).1.2.2, x ∈ F.2.2) := by
  rcases xs_rm_cases h5 with ⟨_, e⟩ | ⟨x, _, _, ⟨_, e⟩ | ⟨_, _, e⟩ | ⟨_, _, e⟩⟩ <;> rw [e]
  · exact ⟨rfl, fun _ hx => hx⟩
  · exact ⟨rfl, fun _ hx => List.mem_of_mem_take hx⟩
  · exact ⟨rfl, fun _ hx => List.mem_of_mem_take hx⟩
  · exact ⟨rfl, fun _ hx => hx⟩
theorem xo_get2 {F : xs_F} {f b : Nat} (h5 : F.2.2.length ≤ 5) : (xs_get F f b).1.1.1 = F.1.1 ∧ (∀ x ∈ (xs_get F f b).1.2.2, x ∈ F.2.2 ∨ x.1 = f) ∧ ((xs_get F f b).2 = true → ∃ x l, (xs_get F f b).1.2.2 = x :: l ∧ x.1 = f ∧ x.2.1 = b) := by
  cases hi : F.2.2.findIdx? (xs_is f b) with
  | some i =>
    rw [xs_get_fi hi]
    obtain ⟨x, hx, e1, e2⟩ := xs_fi_is hi
    refine ⟨rfl, fun y hy => Or.inl ((xo_rot (xs_lt hx)).mem_iff.mp hy), fun _ => ⟨x, F.2.2.eraseIdx i, ?_, e1, e2⟩⟩
    show (F.2.2[i]?).toList ++ F.2.2.eraseIdx i = _
    rw [hx]
    rfl
  | none =>
    obtain ⟨r1, r2⟩ := xo_rm2 h5
    cases hr : (xs_rm F).2 with
    | true =>
      have e : xs_rm F = ((xs_rm F).1, true) := Prod.ext rfl hr
      rw [xs_get_n hi e]
      obtain ⟨i1, i2, i3⟩ := xo_in2 (F := (xs_rm F).1) (f := f) (b := b)
      refine ⟨i1.trans r1, fun x hx => ?_, i3⟩
      rcases i2 x hx with w | w
      · exact Or.inl (r2 x w)
      · exact Or.inr w
    | false =>
      have e : xs_rm F = ((xs_rm F).1, false) := Prod.ext rfl hr
      rw [xs_get_nrm hi e]
      exact ⟨r1, fun x hx => Or.inl (r2 x hx), fun z => by cases z⟩
theorem xo_getF {s : xs_S} {f b : Nat} (h : xo_S s) (hf : f < 8) (hb : b < 4) (ht : s.1.1.1 f = true) : xs_okF (xs_get s.1 f b).1 ∧ (∀ x ∈ (xs_get s.1 f b).1.2.2, (xs_get s.1 f b).1.1.1 x.1 = true) ∧ (xs_get s.1 f b).1.1.2.2.2.2.1 ≤ s.1.1.2.2.2.2.1 + 4 := by
  obtain ⟨a1, a2, a3⟩ := xo_get h.1.1 hf hb
  obtain ⟨b1, b2, _⟩ := xo_get2 (F := s.1) (f := f) (b := b) h.1.1.2.2.2.2.1
  refine ⟨a1, fun x hx => ?_, by omega⟩
  rw [b1]
  rcases b2 x hx with w | w
  · exact h.2.1 x w
  · rw [w]; exact ht
theorem xo_read {s : xs_S} (h : xo_S s) (a b : Int32) : xo_G s (xs_read s a b).2 := by
  unfold xs_read
  cases hd : xs_desc s a b with
  | inl e => exact xo_r h
  | inr q =>
    obtain ⟨p, d, o⟩ := q
    obtain ⟨d1, d2, d3, d4⟩ := xs_desc_x hd
    have ho := h.1.2.2.1.1 _ o (by omega) d4
    have hu := xs_used_of (by omega : 6 * p + d < 42) d4
    obtain ⟨k1, k2, k3, k4⟩ := h.1.2.2.1.2.2.1 o ho hu
    dsimp only
    split
    · exact xo_r h
    · next hmd =>
      split
      · next kk =>
        cases hl : s.2.2.1.2.2.2.2.2 (s.2.2.1.2.2.1 o) with
        | nil => exact xo_r h
        | cons x l =>
          have := (k4 (by omega)).2.2
          rw [hl, List.length_cons] at this
          exact xo_FO h h.1.1 h.2.1 (xo_pip h.1.2.2.1 (by omega)) h.2.2 (by omega)
      · next kk =>
        have kz : s.2.2.1.2.1 o = 0 := by
          refine Classical.byContradiction (fun z => ?_)
          have z1 := (k4 z).2.1
          rw [z1] at hmd
          have z2 : s.2.2.1.2.1 o = 2 := by omega
          rw [z2] at hmd
          exact hmd rfl
        have hw := (k3 kz).1
        have ht := h.2.2 o ho hu kz
        have hln := (h.1.1.1 _ hw).2
        split
        · exact xo_r h
        · next hlt =>
          obtain ⟨g1, g2, g3⟩ := xo_getF (b := s.2.2.1.2.2.2.2.1 o / 8) h hw (by omega) ht
          have g4 := (xo_get2 (F := s.1) (f := s.2.2.1.2.2.1 o) (b := s.2.2.1.2.2.2.2.1 o / 8) h.1.1.2.2.2.2.1).1
          split
          · exact xo_FO h g1 g2 (xo_pos h.1.2.2.1 (by omega)) (fun o' a b c => by rw [g4]; exact h.2.2 o' a b c) g3
          · exact xo_FO h g1 g2 h.1.2.2.1 (fun o' a b c => by rw [g4]; exact h.2.2 o' a b c) g3
theorem xo_cell {F : xs_F} {f b k l : Nat} {v : Int32} (h : xs_okF F) (hx : ∃ x t, F.2.2 = x :: t ∧ x.1 = f ∧ x.2.1 = b) (hf : f < 8) (hl : F.2.1 f ≤ l) (hl2 : l ≤ 32) (hb : 8 * b < l) : xs_okF (xs_len (xs_cell F k v) f l) := by
  obtain ⟨x, t, e, e1, e2⟩ := hx
  obtain ⟨o1, o2⟩ := xo_iff.mp h
  rw [e] at o2
  refine xo_iff.mpr ⟨⟨fun g hg => ?_, o1.2.1, o1.2.2⟩, ?_⟩
  · show F.1.2.1 g ≤ xs_u F.2.1 f l g ∧ xs_u F.2.1 f l g ≤ 32
    have := o1.1 g hg
    by_cases w : g = f
    · subst w; rw [xs_u_s]; omega
    · rw [xs_u_n w]; exact this
  · show xo_l (xs_u F.2.1 f l) (match F.2.2 with | [] => [] | x :: l => (x.1, x.2.1, true, xs_u x.2.2.2 k v) :: l)
    rw [e]
    have mono : ∀ g, F.2.1 g ≤ xs_u F.2.1 f l g := fun g => by
      by_cases w : g = f
      · subst w; rw [xs_u_s]; exact hl
      · rw [xs_u_n w]; exact Nat.le_refl _
    refine ⟨fun y hy => ?_, o2.2.1, o2.2.2⟩
    rcases List.mem_cons.mp hy with w | w
    · subst w
      obtain ⟨a1, a2, _⟩ := o2.1 x (List.mem_cons_self ..)
      refine ⟨a1, a2, fun _ => ?_⟩
      show 8 * x.2.1 < xs_u F.2.1 f l x.1
      rw [e1, e2, xs_u_s]; exact hb
    · obtain ⟨a1, a2, a3⟩ := o2.1 y (List.mem_cons_of_mem _ w)
      exact ⟨a1, a2, fun z => Nat.lt_of_lt_of_le (a3 z) (mono _)⟩
theorem xo_write {s : xs_S} (h : xo_S s) (a b c : Int32) : xo_G s (xs_write s a b c).2 := by
  cases hc : xs_nat c 256 with
  | none => unfold xs_write; rw [hc]; exact xo_r h
  | some v =>
    cases hd : xs_desc s a b with
    | inl e => rw [xs_write_e hc hd]; exact xo_r h
    | inr q =>
      obtain ⟨p, d, o⟩ := q
      obtain ⟨d1, d2, d3, d4⟩ := xs_desc_x hd
      have ho := h.1.2.2.1.1 _ o (by omega) d4
      have hu := xs_used_of (by omega : 6 * p + d < 42) d4
      obtain ⟨k1, k2, k3, k4⟩ := h.1.2.2.1.2.2.1 o ho hu
      by_cases hmd : s.2.2.1.2.2.2.1 o / 2 % 2 = 0
      · rw [xs_write_c hc hd hmd]; exact xo_r h
      · by_cases kk : s.2.2.1.2.1 o = 2
        · rw [xs_write_p hc hd hmd kk]
          split
          · exact xo_r h
          · split
            · exact xo_r h
            · next h4 =>
              have := (k4 (by omega)).2.2
              exact xo_FO h h.1.1 h.2.1 (xo_pip h.1.2.2.1 (by rw [List.length_append]; show _ + 1 ≤ 4; omega)) h.2.2 (by omega)
        · have kz : s.2.2.1.2.1 o = 0 := by
            refine Classical.byContradiction (fun z => ?_)
            have z1 := (k4 z).2.1
            rw [z1] at hmd
            have z2 : s.2.2.1.2.1 o = 1 := by omega
            rw [z2] at hmd
            exact hmd rfl
          have hw := (k3 kz).1
          have ht := h.2.2 o ho hu kz
          have hln := (h.1.1.1 _ hw).2
          have hat : xs_at s o ≤ 32 := by
            unfold xs_at
            split
            · exact hln
            · exact (k3 kz).2
          rw [xs_write_f hc hd hmd kz]
          unfold xs_wf
          split
          · exact xo_r h
          · next hlt =>
            obtain ⟨g1, g2, g3⟩ := xo_getF (b := xs_at s o / 8) h hw (by omega) ht
            obtain ⟨g4, _, g5⟩ := xo_get2 (F := s.1) (f := s.2.2.1.2.2.1 o) (b := xs_at s o / 8) h.1.1.2.2.2.2.1
            have g6 := (xo_get h.1.1 hw (by omega : xs_at s o / 8 < 4)).2.2
            split
            · next ok =>
              refine xo_FO h (xo_cell g1 (g5 ok) hw (by rw [g6]; omega) (by omega) (by omega)) (fun x hx => ?_) (xo_pos h.1.2.2.1 (by omega)) (fun o' a b c => ?_) g3
              · obtain ⟨y, t, e, e1, e2⟩ := g5 ok
                have hx2 : x ∈ (match (xs_get s.1 (s.2.2.1.2.2.1 o) (xs_at s o / 8)).1.2.2 with | [] => [] | x :: l => (x.1, x.2.1, true, xs_u x.2.2.2 (xs_at s o % 8) (nI v)) :: l) := hx
                rw [e] at hx2
                show (xs_get s.1 (s.2.2.1.2.2.1 o) (xs_at s o / 8)).1.1.1 x.1 = true
                rcases List.mem_cons.mp hx2 with w | w
                · subst w
                  exact g2 y (by rw [e]; exact List.mem_cons_self ..)
                · exact g2 x (by rw [e]; exact List.mem_cons_of_mem _ w)
              · show (xs_get s.1 (s.2.2.1.2.2.1 o) (xs_at s o / 8)).1.1.1 _ = true
                rw [g4]; exact h.2.2 o' a b c
            · exact xo_FO h g1 g2 h.1.2.2.1 (fun o' a b c => by rw [g4]; exact h.2.2 o' a b c) g3
theorem xo_sy {f : Nat} : ∀ (k w : Nat) (F : xs_F), xs_okF F → (∀ x ∈ F.2.2, F.1.1 x.1 = true) → k ≤ 4 → xs_okF (xs_sy f k w F).2 ∧ (xs_sy f k w F).2.1.2.2.2.2.1 ≤ F.1.2.2.2.2.1 + k ∧ (xs_sy f k w F).2.1.1 = F.1.1 ∧ ∀ x ∈ (xs_sy f k w F).2.2.2, F.1.1 x.1 = true
  | 0, w, F, h, ht, _ => ⟨h, Nat.le_refl _, rfl, ht⟩
  | k + 1, w, F, h, ht, hk => by
    have eb : k + 1 = 4 - (3 - k) := by omega
    have eb2 : k = 4 - (3 - k + 1) := by omega
    have skip : (F.2.2.findIdx? (xs_is f (3 - k)) = none ∨ ∃ i x, F.2.2.findIdx? (xs_is f (3 - k)) = some i ∧ F.2.2[i]? = some x ∧ x.2.2.1 = false) → xs_okF (xs_sy f (k + 1) w F).2 ∧ (xs_sy f (k + 1) w F).2.1.2.2.2.2.1 ≤ F.1.2.2.2.2.1 + (k + 1) ∧ (xs_sy f (k + 1) w F).2.1.1 = F.1.1 ∧ ∀ x ∈ (xs_sy f (k + 1) w F).2.2.2, F.1.1 x.1 = true := fun hs => by
      have e := xs_sy_skip (w := w) (by omega : 3 - k < 4) hs
      rw [← eb, ← eb2] at e
      rw [e]
      obtain ⟨a1, a2, a3, a4⟩ := xo_sy k w F h ht (by omega)
      exact ⟨a1, by omega, a3, a4⟩
    cases hi : F.2.2.findIdx? (xs_is f (3 - k)) with
    | none => exact skip (Or.inl hi)
    | some i =>
      obtain ⟨x, hx, e1, e2⟩ := xs_fi_is hi
      cases hd : x.2.2.1 with
      | false => exact skip (Or.inr ⟨i, x, hi, hx, hd⟩)
      | true =>
        by_cases hz : F.1.2.2.2.2.2 = 0
        · have e := xs_sy_t (w := w) (by omega : 3 - k < 4) hi hx hd hz
          rw [← eb, ← eb2] at e
          rw [e]
          obtain ⟨a1, a2, a3, a4⟩ := xo_sy k (w + 1) (xs_wrh (xs_op F.1 1 x.1 x.2.1).1 (F.2.1 x.1) x, F.2.1, F.2.2.set i (x.1, x.2.1, false, x.2.2.2)) (xo_sy1 h hx) (fun y hy => by
            show F.1.1 y.1 = true
            rcases List.mem_or_eq_of_mem_set hy with q | q
            · exact ht y q
            · subst q; exact ht x (List.mem_of_getElem? hx)) (by omega)
          refine ⟨a1, ?_, a3, a4⟩
          change _ ≤ F.1.2.2.2.2.1 + 1 + k at a2
          omega
        · have e := xs_sy_f (w := w) (by omega : 3 - k < 4) hi hx hd hz
          rw [← eb] at e
          rw [e]
          obtain ⟨o1, o2⟩ := xo_iff.mp h
          exact ⟨xo_iff.mpr ⟨xo_op o1 1 x.1 x.2.1, o2⟩, by show F.1.2.2.2.2.1 + 1 ≤ _; omega, rfl, ht⟩
theorem xo_sync {s : xs_S} (h : xo_S s) (a b : Int32) : xo_G s (xs_sync s a b).2 := by
  unfold xs_sync
  cases hd : xs_desc s a b with
  | inl e => exact xo_r h
  | inr q =>
    obtain ⟨p, d, o⟩ := q
    dsimp only
    split
    · exact xo_r h
    · obtain ⟨a1, a2, a3, a4⟩ := xo_sy (f := s.2.2.1.2.2.1 o) 4 0 s.1 h.1.1 h.2.1 (by omega)
      exact xo_F h a1 (fun f hf => by rw [a3]; exact hf) (fun x hx => by rw [a3]; exact a4 x hx) a2
theorem xo_unlink {s : xs_S} (h : xo_S s) (a b : Int32) : xo_G s (xs_unlink s a b).2 := by
  unfold xs_unlink
  cases ha : xs_alive s.2.2.2 a with
  | none => exact xo_r h
  | some p =>
    cases hb : xs_nat b 8 with
    | none => exact xo_r h
    | some f =>
      dsimp only
      split
      · exact xo_r h
      · split
        · exact xo_r h
        · split
          · exact xo_r h
          · next ho =>
            have hof : xs_openF s.2.2.1 f = false := by
              cases hx : xs_openF s.2.2.1 f with
              | false => rfl
              | true => exact absurd hx ho
            obtain ⟨o1, o2⟩ := xo_iff.mp h.1.1
            split
            · refine xo_FO (F' := xs_drop (xs_there (xs_op s.1.1 4 f 0).1 f false, s.1.2) f) (O' := s.2.2.1) h (xo_iff.mpr ⟨xo_op o1 4 f 0, xo_sub o2 List.filter_sublist⟩) (fun x hx => ?_) h.1.2.2.1 (fun o a b c => ?_) (by show s.1.1.2.2.2.2.1 + 1 ≤ _; omega)
              · obtain ⟨m1, m2⟩ := List.mem_filter.mp hx
                show xs_u s.1.1.1 f false x.1 = true
                rw [xs_u_n (of_decide_eq_true m2)]
                exact h.2.1 x m1
              · show xs_u s.1.1.1 f false (s.2.2.1.2.2.1 o) = true
                have : s.2.2.1.2.2.1 o ≠ f := fun w => by
                  have hx : xs_openF s.2.2.1 f = true := xs_end_iff.mpr ⟨o, a, b, c, w⟩
                  rw [hof] at hx; cases hx
                rw [xs_u_n this]
                exact h.2.2 o a b c
            · exact xo_F (F' := ((xs_op s.1.1 4 f 0).1, s.1.2)) h (xo_iff.mpr ⟨xo_op o1 4 f 0, o2⟩) (fun _ hf => hf) h.2.1 (by show s.1.1.2.2.2.2.1 + 1 ≤ _; omega)
/-- a new opening -/
theorem xo_new {O : xs_O} {T : xs_T} {p d o k w md : Nat} (h : xs_okO O T) (hp : p < 7) (hd : d < 6) (hT : T.1 p = 1) (ho : o < 16) (hfree : O.1 (6 * p + d) = none) (hk : k ≤ 2) (hmd : md < 32) (h0 : k = 0 → w < 8) (h1 : k ≠ 0 → w < 16 ∧ md = k ∧ (O.2.2.2.2.2 w).length ≤ 4) (hun : xs_used O o = false) (hend : k ≠ 0 → ∀ o', o' < 16 → xs_used O o' = true → O.2.1 o' = k → O.2.2.1 o' ≠ w) : xs_okO (xs_u O.1 (6 * p + d) (some o), xs_u O.2.1 o k, xs_u O.2.2.1 o w, xs_u O.2.2.2.1 o md, xs_u O.2.2.2.2.1 o 0, O.2.2.2.2.2) T := by
  have us : ∀ o', xs_used (xs_u O.1 (6 * p + d) (some o), xs_u O.2.1 o k, xs_u O.2.2.1 o w, xs_u O.2.2.2.1 o md, xs_u O.2.2.2.2.1 o 0, O.2.2.2.2.2) o' = true → o' ≠ o → xs_used O o' = true := fun o' u q => ((xs_used_nn (O := O) (by omega : 6 * p + d < 42) hfree o').mp u).resolve_right q
  refine ⟨fun j o' hj z => ?_, fun p' d' hp' hd' ht => ?_, fun o' ho' u => ?_, fun a b ha hb ua ub ka kab wab => ?_⟩
  · change xs_u O.1 (6 * p + d) (some o) j = some o' at z
    by_cases q : j = 6 * p + d
    · subst q; rw [xs_u_s] at z; cases z; exact ho
    · rw [xs_u_n q] at z; exact h.1 j o' hj z
  · show xs_u O.1 (6 * p + d) (some o) (6 * p' + d') = none
    have : p' ≠ p := fun q => ht (by rw [q]; exact hT)
    rw [xs_u_n (by omega)]
    exact h.2.1 p' d' hp' hd' ht
  · show xs_u O.2.1 o k o' ≤ 2 ∧ xs_u O.2.2.2.1 o md o' < 32 ∧ (xs_u O.2.1 o k o' = 0 → xs_u O.2.2.1 o w o' < 8 ∧ xs_u O.2.2.2.2.1 o 0 o' ≤ 32) ∧ (xs_u O.2.1 o k o' ≠ 0 → xs_u O.2.2.1 o w o' < 16 ∧ xs_u O.2.2.2.1 o md o' = xs_u O.2.1 o k o' ∧ (O.2.2.2.2.2 (xs_u O.2.2.1 o w o')).length ≤ 4)
    by_cases q : o' = o
    · subst q
      rw [xs_u_s, xs_u_s, xs_u_s, xs_u_s]
      exact ⟨hk, hmd, fun z => ⟨h0 z, by omega⟩, h1⟩
    · rw [xs_u_n q, xs_u_n q, xs_u_n q, xs_u_n q]
      exact h.2.2.1 o' ho' (us o' u q)
  · change xs_u O.2.1 o k a ≠ 0 at ka
    change xs_u O.2.1 o k a = xs_u O.2.1 o k b at kab
    change xs_u O.2.2.1 o w a = xs_u O.2.2.1 o w b at wab
    by_cases qa : a = o
    · by_cases qb : b = o
      · rw [qa, qb]
      · subst qa
        rw [xs_u_s] at ka kab wab
        rw [xs_u_n qb] at kab wab
        exact absurd wab.symm (hend ka b hb (us b ub qb) kab.symm)
    · by_cases qb : b = o
      · subst qb
        rw [xs_u_n qa] at ka kab wab
        rw [xs_u_s] at kab wab
        exact absurd wab (hend (by rw [← kab]; exact ka) a ha (us a ua qa) kab)
      · rw [xs_u_n qa] at ka kab wab
        rw [xs_u_n qb] at kab wab
        exact h.2.2.2 a b ha hb (us a ua qa) (us b ub qb) ka kab wab
theorem xo_open {s : xs_S} (h : xo_S s) (a b c : Int32) : xo_G s (xs_open s a b c).2 := by
  unfold xs_open
  cases ha : xs_alive s.2.2.2 a with
  | none => exact xo_r h
  | some p =>
    cases hb : xs_nat b 8 with
    | none => exact xo_r h
    | some f =>
      cases hc : xs_nat c 32 with
      | none => exact xo_r h
      | some md =>
        dsimp only
        obtain ⟨_, hp, hpa⟩ := xs_alive_x ha
        have hf := (xs_nat_x hb (by decide)).2
        have hmd := (xs_nat_x hc (by decide)).2
        obtain ⟨o1, o2⟩ := xo_iff.mp h.1.1
        split
        · exact xo_r h
        · next hn1 =>
          split
          · exact xo_r h
          · cases hfr : xs_free s.2.2.1 p 0 with
            | none => exact xo_r h
            | some d =>
              dsimp only
              split
              · exact xo_r h
              · next hops =>
                obtain ⟨_, hd6, hfd, _⟩ := xs_least_sp hfr
                have hfree := of_decide_eq_true hfd
                obtain ⟨o, hl⟩ := xs_un_ex hops
                obtain ⟨_, ho, hun, _⟩ := xs_least_sp hl
                have okN : xs_okO (xs_of (xs_nO s.2.2.1 0 f md).2 (6 * p + d) (some (xs_nO s.2.2.1 0 f md).1)) s.2.2.2 := by
                  rw [xm_nO hl]
                  exact xo_new h.1.2.2.1 hp (by omega) hpa (by omega) hfree (by decide) hmd (fun _ => hf) (fun z => absurd rfl z) (xs_nf hun) (fun z => absurd rfl z)
                have hth : ∀ t : Nat → Bool, (∀ g, s.1.1.1 g = true → t g = true) → t f = true → ∀ o', o' < 16 → xs_used (xs_of (xs_nO s.2.2.1 0 f md).2 (6 * p + d) (some (xs_nO s.2.2.1 0 f md).1)) o' = true → (xs_of (xs_nO s.2.2.1 0 f md).2 (6 * p + d) (some (xs_nO s.2.2.1 0 f md).1)).2.1 o' = 0 → t ((xs_of (xs_nO s.2.2.1 0 f md).2 (6 * p + d) (some (xs_nO s.2.2.1 0 f md).1)).2.2.1 o') = true := by
                  rw [xm_nO hl]
                  intro t t1 t2 o' ho' u k
                  show t (xs_u s.2.2.1.2.2.1 o f o') = true
                  by_cases q : o' = o
                  · subst q; rw [xs_u_s]; exact t2
                  · have u2 := ((xs_used_nn (O := s.2.2.1) (by omega : 6 * p + d < 42) hfree o').mp u).resolve_right q
                    change xs_u s.2.2.1.2.1 o 0 o' = 0 at k
                    rw [xs_u_n q] at k ⊢
                    exact t1 _ (h.2.2 o' ho' u2 k)
                split
                · next hnt =>
                  have nof : ∀ x ∈ s.1.2.2, x.1 ≠ f := fun x hx e => by
                    have := h.2.1 x hx
                    rw [e, hnt] at this
                    cases this
                  split
                  · refine xo_FO (F' := (xs_there (xs_clear (xs_op s.1.1 2 f 0).1 f) f true, xs_u s.1.2.1 f 0, s.1.2.2)) h (xo_iff.mpr ⟨⟨fun g hg => ?_, fun g i hg hi hi2 => ?_, (xo_op o1 2 f 0).2.2⟩, fun x hx => ?_, o2.2⟩) (fun x hx => ?_) okN (hth _ (fun g hg => ?_) xs_u_s) (by show s.1.1.2.2.2.2.1 + 1 ≤ _; omega)
                    · show xs_u s.1.1.2.1 f 0 g ≤ xs_u s.1.2.1 f 0 g ∧ xs_u s.1.2.1 f 0 g ≤ 32
                      by_cases e : g = f
                      · subst e; rw [xs_u_s, xs_u_s]; omega
                      · rw [xs_u_n e, xs_u_n e]; exact o1.1 g hg
                    · change xs_u s.1.1.2.1 f 0 g ≤ i at hi
                      show xs_u s.1.1.2.2.1 f (fun _ => 0) g i = 0
                      by_cases e : g = f
                      · subst e; rw [xs_u_s]
                      · rw [xs_u_n e] at hi ⊢; exact o1.2.1 g i hg hi hi2
                    · obtain ⟨a1, a2, a3⟩ := o2.1 x hx
                      refine ⟨a1, a2, fun hd => ?_⟩
                      show _ < xs_u s.1.2.1 f 0 x.1
                      rw [xs_u_n (nof x hx)]
                      exact a3 hd
                    · show xs_u s.1.1.1 f true x.1 = true
                      rw [xs_u_n (nof x hx)]
                      exact h.2.1 x hx
                    · show xs_u s.1.1.1 f true g = true
                      by_cases e : g = f
                      · subst e; rw [xs_u_s]
                      · rw [xs_u_n e]; exact hg
                  · exact xo_F (F' := ((xs_op s.1.1 2 f 0).1, s.1.2)) h (xo_iff.mpr ⟨xo_op o1 2 f 0, o2⟩) (fun _ hf => hf) h.2.1 (by show s.1.1.2.2.2.2.1 + 1 ≤ _; omega)
                · next hnt =>
                  have htf : s.1.1.1 f = true := by
                    cases hx : s.1.1.1 f with
                    | true => rfl
                    | false => exact absurd hx hnt
                  split
                  · split
                    · refine xo_FO (F' := xs_len (xs_drop (xs_clear (xs_op s.1.1 3 f 0).1 f, s.1.2) f) f 0) h (xo_iff.mpr ⟨⟨fun g hg => ?_, fun g i hg hi hi2 => ?_, (xo_op o1 3 f 0).2.2⟩, fun x hx => ?_, (xo_sub o2 List.filter_sublist).2⟩) (fun x hx => ?_) okN (hth _ (fun g hg => hg) htf) (by show s.1.1.2.2.2.2.1 + 1 ≤ _; omega)
                      · show xs_u s.1.1.2.1 f 0 g ≤ xs_u s.1.2.1 f 0 g ∧ xs_u s.1.2.1 f 0 g ≤ 32
                        by_cases e : g = f
                        · subst e; rw [xs_u_s, xs_u_s]; omega
                        · rw [xs_u_n e, xs_u_n e]; exact o1.1 g hg
                      · change xs_u s.1.1.2.1 f 0 g ≤ i at hi
                        show xs_u s.1.1.2.2.1 f (fun _ => 0) g i = 0
                        by_cases e : g = f
                        · subst e; rw [xs_u_s]
                        · rw [xs_u_n e] at hi ⊢; exact o1.2.1 g i hg hi hi2
                      · obtain ⟨m1, m2⟩ := List.mem_filter.mp hx
                        obtain ⟨a1, a2, a3⟩ := o2.1 x m1
                        refine ⟨a1, a2, fun hd => ?_⟩
                        show _ < xs_u s.1.2.1 f 0 x.1
                        rw [xs_u_n (of_decide_eq_true m2)]
                        exact a3 hd
                      · obtain ⟨m1, m2⟩ := List.mem_filter.mp hx
                        exact h.2.1 x m1
                    · exact xo_F (F' := ((xs_op s.1.1 3 f 0).1, s.1.2)) h (xo_iff.mpr ⟨xo_op o1 3 f 0, o2⟩) (fun _ hf => hf) h.2.1 (by show s.1.1.2.2.2.2.1 + 1 ≤ _; omega)
                  · exact xo_FO h h.1.1 h.2.1 okN (hth _ (fun g hg => hg) htf) (by omega)
theorem xo_pipe {s : xs_S} (h : xo_S s) (a : Int32) : xo_G s (xs_pipe s a).2 := by
  cases ha : xs_alive s.2.2.2 a with
  | none => unfold xs_pipe; rw [ha]; exact xo_r h
  | some p =>
    cases hd : xs_free s.2.2.1 p 0 with
    | none => rw [xs_pipe_2 ha hd]; exact xo_r h
    | some d =>
      cases he : xs_free s.2.2.1 p (d + 1) with
      | none => rw [xs_pipe_3 ha hd he]; exact xo_r h
      | some e =>
        by_cases h14 : 14 < xs_ops s.2.2.1
        · rw [xs_pipe_4 ha hd he h14]; exact xo_r h
        · obtain ⟨_, hp, hpa⟩ := xs_alive_x ha
          obtain ⟨_, hd6, hfd, _⟩ := xs_least_sp hd
          have hfree := of_decide_eq_true hfd
          obtain ⟨hde, he6, hfe, _⟩ := xs_least_sp he
          have hfree2 := of_decide_eq_true hfe
          obtain ⟨q, hlq⟩ := xs_pip_free (O := s.2.2.1) (by omega)
          obtain ⟨o1, hl1⟩ := xs_un_ex (O := s.2.2.1) (by omega)
          obtain ⟨o2, hl2, hl3⟩ := xs_un2 (k := 6 * p + d) (by omega) hfree hl1 (by omega)
          obtain ⟨_, hq16, hqe, _⟩ := xs_least_sp hlq
          have hq2 := xs_nf hqe
          have hq1a : xs_end s.2.2.1 q 1 = false := by
            cases hx : xs_end s.2.2.1 q 1 with
            | false => rfl
            | true => rw [hx, Bool.true_or] at hq2; cases hq2
          have hq2a : xs_end s.2.2.1 q 2 = false := by
            cases hx : xs_end s.2.2.1 q 2 with
            | false => rfl
            | true => rw [hx, Bool.or_true] at hq2; cases hq2
          obtain ⟨_, ho1, hun1, _⟩ := xs_least_sp hl1
          obtain ⟨_, ho2, hun2, _⟩ := xs_least_sp hl2
          obtain ⟨hol, _, _, _⟩ := xs_least_sp hl3
          have nend : ∀ k, xs_end s.2.2.1 q k = false → ∀ o', o' < 16 → xs_used s.2.2.1 o' = true → s.2.2.1.2.1 o' = k → s.2.2.1.2.2.1 o' ≠ q := fun k hk o' a b c w => by
            have := xs_end_iff.mpr ⟨o', a, b, c, w⟩
            rw [hk] at this; cases this
          have ok0 : xs_okO (xs_pip s.2.2.1 q []) s.2.2.2 := xo_pip h.1.2.2.1 (by decide)
          have ok1 := xo_new (o := o1) (k := 1) (w := q) (md := 1) ok0 hp (by omega) hpa (by omega) hfree (by decide) (by decide) (fun z => by cases z) (fun _ => ⟨by omega, rfl, by show (xs_u s.2.2.1.2.2.2.2.2 q [] q).length ≤ 4; rw [xs_u_s]; decide⟩) (xs_nf hun1) (fun _ o' a b c => nend 1 hq1a o' a b c)
          have us : ∀ o', xs_used (xs_of s.2.2.1 (6 * p + d) (some o1)) o' = true → xs_used s.2.2.1 o' = true ∨ o' = o1 := fun o' u => (xs_used_nn (O := s.2.2.1) (by omega : 6 * p + d < 42) hfree o').mp u
          have ok2 := xo_new (d := e) (o := o2) (k := 2) (w := q) (md := 2) ok1 hp (by omega) hpa (by omega) (show xs_u s.2.2.1.1 (6 * p + d) (some o1) (6 * p + e) = none by rw [xs_u_n (by omega)]; exact hfree2) (by decide) (by decide) (fun z => by cases z) (fun _ => ⟨by omega, rfl, by show (xs_u s.2.2.1.2.2.2.2.2 q [] q).length ≤ 4; rw [xs_u_s]; decide⟩) (xs_nf hun2) (fun _ o' a b c => by
            change xs_u s.2.2.1.2.1 o1 1 o' = 2 at c
            show xs_u s.2.2.1.2.2.1 o1 q o' ≠ q
            by_cases w : o' = o1
            · subst w; rw [xs_u_s] at c; cases c
            · rw [xs_u_n w] at c ⊢
              exact nend 2 hq2a o' a ((us o' b).resolve_right w) c)
          rw [xs_pipe_s hp ha hd (by omega) he h14 hlq hl1 hl3]
          refine xo_FO (F' := s.1) h h.1.1 h.2.1 ok2 (fun o' a b c => ?_) (by omega)
          change xs_u (xs_u s.2.2.1.2.1 o1 1) o2 2 o' = 0 at c
          show s.1.1.1 (xs_u (xs_u s.2.2.1.2.2.1 o1 q) o2 q o') = true
          have w2 : o' ≠ o2 := fun w => by subst w; rw [xs_u_s] at c; cases c
          rw [xs_u_n w2] at c ⊢
          have w1 : o' ≠ o1 := fun w => by subst w; rw [xs_u_s] at c; cases c
          rw [xs_u_n w1] at c ⊢
          have u1 := ((xs_used_nn (O := (xs_u s.2.2.1.1 (6 * p + d) (some o1), s.2.2.1.2)) (by omega : 6 * p + e < 42) (show xs_u s.2.2.1.1 (6 * p + d) (some o1) (6 * p + e) = none by rw [xs_u_n (by omega)]; exact hfree2) o').mp b).resolve_right w2
          exact h.2.2 o' a ((us o' u1).resolve_right w1) c
