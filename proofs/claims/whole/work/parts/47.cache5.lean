theorem xr_st_9 (k : Nat) : xr_st 9 k = none := rfl
theorem xr_S_9 {r R : xk_P} {n : Nat} (h : xr_S r n) (hR : ∀ a, a ≠ 9 → R a = r a) : xr_S R n := by
  intro a k v hv ha
  by_cases h9 : a = 9
  · subst h9
    rw [xr_st_9] at hv
    cases hv
  · rw [hR a h9]
    exact h a k v hv ha
theorem xs_fl_s {l : List xs_B} {i f : Nat} {x : xs_B} (h : l[i]? = some x) : (l.take (i + 1)).filter (fun x => decide (x.1 ≠ f)) = (l.take i).filter (fun x => decide (x.1 ≠ f)) ++ (if x.1 = f then [] else [x]) := by
  rw [List.take_add_one, h, List.filter_append]
  congr 1
  show List.filter _ [x] = _
  by_cases e : x.1 = f
  · rw [if_pos e, List.filter_cons_of_neg (by simp [e]), List.filter_nil]
  · rw [if_neg e, List.filter_cons_of_pos (by simp [e]), List.filter_nil]
theorem xs_fl_le {l : List xs_B} {i f : Nat} : ((l.take i).filter (fun x => decide (x.1 ≠ f))).length ≤ i := Nat.le_trans (List.length_filter_le _ _) (by rw [List.length_take]; omega)

set_option maxRecDepth 20000 in
set_option maxHeartbeats 4000000 in
theorem l_drop {E : xk_E} {n : Nat} {Q : xk_Q} {m : xk_M} {l : List xs_B} {f : Nat} {r : xk_P} (hn : 74 ≤ n) (hS0 : xr_S r n) (hz : m 7 3 = nI l.length) (hl5 : l.length ≤ 5) (hok : ∀ (i : Nat) (x : xs_B), l[i]? = some x → x.1 < 8) (hf : f < 8) (hQ : ∀ (R : xk_P) (β : Nat → Nat), (∀ a, a ≠ 9 → R a = r a) → (∀ i, i < 5 → β i < 5 ∧ R 9 i = some (10 + 2 * β i)) → (∀ i j, i < 5 → j < 5 → β i = β j → i = j) → (∀ (j : Nat) (x : xs_B), (l.filter (fun x => decide (x.1 ≠ f)))[j]? = some x → xr_B x (10 + 2 * β j) m) → Q none n (xk_up m 7 3 (nI (l.filter (fun x => decide (x.1 ≠ f))).length)) R) : ∀ (k : Nat) (i : Nat) (R : xk_P) (β : Nat → Nat) (v4 : Option xk_V), l.length - i < k → i ≤ l.length → (∀ a, a ≠ 9 → R a = r a) → (∀ i, i < 5 → β i < 5 ∧ R 9 i = some (10 + 2 * β i)) → (∀ i j, i < 5 → j < 5 → β i = β j → i = j) → (∀ (j : Nat) (x : xs_B), ((l.take i).filter (fun x => decide (x.1 ≠ f)))[j]? = some x → xr_B x (10 + 2 * β j) m) → (∀ (j : Nat) (x : xs_B), i ≤ j → l[j]? = some x → xr_B x (10 + 2 * β j) m) → xk_W E m_Cache_dropFile 4 [some (.inr (some 7)), some (.inl (nI f)), some (.inl (nI ((l.take i).filter (fun x => decide (x.1 ≠ f))).length)), some (.inl (nI i)), v4] [] n m R 0 0 Q := by
  intro k
  induction k with
  | zero => intro i R β v4 h; exact absurd h (Nat.not_lt_zero _)
  | succ k ih =>
    intro i R β v4 hk hi hR hβ hinj hD hL
    have hS := xr_S_9 hS0 hR
    refine xk_iload_n (pc := 4) d_Cache_dropFile_4 rfl ?_
    refine xk_aload_n (pc := 5) d_Cache_dropFile_5 rfl ?_
    refine xk_getIo (pc := 6) d_Cache_dropFile_6 fl_Cache_21 (by first | rfl | assumption) rfl (by omega) (by omega) hz ?_
    first | refine xk_icmp_geN (pc := 9) (tgt := 58) d_Cache_dropFile_9 rfl (by omega) (by omega) (fun c_9 => ?_) (fun c_9 => ?_) | refine xk_icmp_ge (pc := 9) (tgt := 58) d_Cache_dropFile_9 rfl (fun c_9 => ?_) (fun c_9 => ?_)
    · have e : i = l.length := by omega
      subst e
      rw [List.take_length] at hD ⊢
      refine xk_aload_n (pc := 58) d_Cache_dropFile_58 rfl ?_
      refine xk_iload_n (pc := 59) d_Cache_dropFile_59 rfl ?_
      refine xk_putI (pc := 60) d_Cache_dropFile_60 fl_Cache_21 (by first | rfl | assumption) rfl (fun q hq h => by cases hq; first | exact absurd h (by decide) | exact ⟨rfl, rfl, rfl⟩) ⟨rfl, rfl⟩ (by omega) (by omega) ?_
      refine xk_vret (pc := 63) rfl d_Cache_dropFile_63 rfl (Nat.le_of_ble_eq_true rfl) (Nat.le_of_ble_eq_true rfl) ?_
      exact hQ R β hR hβ hinj hD
    · obtain ⟨x, hx⟩ := xs_get_lt (l := l) c_9
      have hbi := (hβ i (by omega)).1
      have hkb := xr_kd_blk _ hbi
      have hBi := hL i x (Nat.le_refl _) hx
      have hB0 := hBi.1
      have hx8 := hok i x hx
      have hfl := xs_fl_s (f := f) hx
      have hkl := xs_fl_le (l := l) (i := i) (f := f)
      have hbk := (hβ ((l.take i).filter (fun x => decide (x.1 ≠ f))).length (by omega)).1
      have hkk := xr_kd_blk _ hbk
      refine xk_aload_n (pc := 12) d_Cache_dropFile_12 rfl ?_
      refine xk_getRo (pc := 13) d_Cache_dropFile_13 fl_Cache_17 (by first | rfl | assumption) rfl (by omega) (by omega) (hS _ _ _ rfl (by omega)) ?_
      refine xk_iload_n (pc := 16) d_Cache_dropFile_16 rfl ?_
      refine xk_aaloado (pc := 17) d_Cache_dropFile_17 (by first | rfl | assumption) (by decide) (by decide) (by omega) (by omega) rfl (by omega) (by decide) (hβ i (by omega)).2 ?_
      refine xk_astore (pc := 18) d_Cache_dropFile_18 (by decide) ?_
      refine xk_aload (pc := 20) d_Cache_dropFile_20 rfl ?_
      refine xk_getIo (pc := 22) d_Cache_dropFile_22 fl_Cache_30 (by first | rfl | assumption) rfl (by omega) (by omega) hB0 ?_
      refine xk_iload_n (pc := 25) d_Cache_dropFile_25 rfl ?_
      first | refine xk_icmp_eqN (pc := 26) (tgt := 52) d_Cache_dropFile_26 rfl (by omega) (by omega) (fun c_26 => ?_) (fun c_26 => ?_) | refine xk_icmp_eq (pc := 26) (tgt := 52) d_Cache_dropFile_26 rfl (fun c_26 => ?_) (fun c_26 => ?_)
      · rw [if_pos c_26, List.append_nil] at hfl
        refine xk_iincN (pc := 52) (d := 1) d_Cache_dropFile_52 rfl ?_
        refine xk_goto (pc := 55) (tgt := 4) d_Cache_dropFile_55 rfl ?_
        first
          | (have K := ih (i + 1) R β (some (.inr (some (10 + 2 * β i)))) (by omega) (by omega) hR hβ hinj (by rw [hfl]; exact hD) (fun j y hj hy => hL j y (by omega) hy)
             rw [hfl] at K
             exact K)
          | (have K := ih (i + 1) (xk_up (xk_up R 9 i (some (10 + 2 * β ((l.take i).filter (fun x => decide (x.1 ≠ f))).length))) 9 ((l.take i).filter (fun x => decide (x.1 ≠ f))).length (some (10 + 2 * β i))) (fun j => if j = ((l.take i).filter (fun x => decide (x.1 ≠ f))).length then β i else if j = i then β ((l.take i).filter (fun x => decide (x.1 ≠ f))).length else β j) (some (.inr (some (10 + 2 * β i)))) (by omega) (by omega) (fun a ha => by funext k; rw [xk_up_a ha, xk_up_a ha, hR a ha]) (fun j hj => by
               show (if j = ((l.take i).filter (fun x => decide (x.1 ≠ f))).length then β i else if j = i then β ((l.take i).filter (fun x => decide (x.1 ≠ f))).length else β j) < 5 ∧ xk_up (xk_up R 9 i _) 9 _ _ 9 j = some (10 + 2 * (if j = ((l.take i).filter (fun x => decide (x.1 ≠ f))).length then β i else if j = i then β ((l.take i).filter (fun x => decide (x.1 ≠ f))).length else β j))
               by_cases j1 : j = ((l.take i).filter (fun x => decide (x.1 ≠ f))).length
               · rw [if_pos j1, j1, xk_up_s]; exact ⟨hbi, rfl⟩
               · rw [if_neg j1, xk_up_k j1]
                 by_cases j2 : j = i
                 · rw [if_pos j2, j2, xk_up_s]; exact ⟨hbk, rfl⟩
                 · rw [if_neg j2, xk_up_k j2]; exact hβ j hj) (fun a b ha hb hab => by
               change (if a = ((l.take i).filter (fun x => decide (x.1 ≠ f))).length then β i else if a = i then β ((l.take i).filter (fun x => decide (x.1 ≠ f))).length else β a) = (if b = ((l.take i).filter (fun x => decide (x.1 ≠ f))).length then β i else if b = i then β ((l.take i).filter (fun x => decide (x.1 ≠ f))).length else β b) at hab
               generalize ((l.take i).filter (fun x => decide (x.1 ≠ f))).length = kk at hab hkl
               have h5 : kk < 5 := by omega
               have h6 : i < 5 := by omega
               split at hab <;> split at hab <;> (try split at hab) <;> (try split at hab) <;> first | omega | (have := hinj _ _ (by omega) (by omega) hab; omega)) (by
               rw [hfl]
               intro j y hy
               show xr_B y (10 + 2 * (if j = ((l.take i).filter (fun x => decide (x.1 ≠ f))).length then β i else if j = i then β ((l.take i).filter (fun x => decide (x.1 ≠ f))).length else β j)) m
               by_cases j1 : j < ((l.take i).filter (fun x => decide (x.1 ≠ f))).length
               · rw [List.getElem?_append_left j1] at hy
                 rw [if_neg (by omega), if_neg (by omega)]
                 exact hD j y hy
               · rw [List.getElem?_append_right (by omega)] at hy
                 have j2 := xs_lt hy
                 have j3 : j = ((l.take i).filter (fun x => decide (x.1 ≠ f))).length := by
                   change j - ((l.take i).filter (fun x => decide (x.1 ≠ f))).length < 1 at j2
                   omega
                 rw [j3, Nat.sub_self] at hy
                 cases hy
                 rw [if_pos j3]
                 exact hBi) (fun j y hj hy => by
               show xr_B y (10 + 2 * (if j = ((l.take i).filter (fun x => decide (x.1 ≠ f))).length then β i else if j = i then β ((l.take i).filter (fun x => decide (x.1 ≠ f))).length else β j)) m
               rw [if_neg (by omega), if_neg (by omega)]
               exact hL j y (by omega) hy)
             rw [hfl, List.length_append] at K
             exact K)
      · rw [if_neg c_26] at hfl
        refine xk_aload_n (pc := 29) d_Cache_dropFile_29 rfl ?_
        refine xk_getRo (pc := 30) d_Cache_dropFile_30 fl_Cache_17 (by first | rfl | assumption) rfl (by omega) (by omega) (hS _ _ _ rfl (by omega)) ?_
        refine xk_iload_n (pc := 33) d_Cache_dropFile_33 rfl ?_
        refine xk_aload_n (pc := 34) d_Cache_dropFile_34 rfl ?_
        refine xk_getRo (pc := 35) d_Cache_dropFile_35 fl_Cache_17 (by first | rfl | assumption) rfl (by omega) (by omega) (hS _ _ _ rfl (by omega)) ?_
        refine xk_iload_n (pc := 38) d_Cache_dropFile_38 rfl ?_
        refine xk_aaloado (pc := 39) d_Cache_dropFile_39 (by first | rfl | assumption) (by decide) (by decide) (by omega) (by omega) rfl (by omega) (by decide) (hβ _ (by omega)).2 ?_
        refine xk_aastore (pc := 40) (ci := 0) d_Cache_dropFile_40 rfl (by decide) (by decide) (by omega) (by omega) rfl (by omega) (by decide) hkk rfl rfl (by omega) (by omega) ?_
        have hS2 : xr_S (xk_up R 9 i (some (10 + 2 * β ((l.take i).filter (fun x => decide (x.1 ≠ f))).length))) n := xr_S.up hS (xr_st_9 _)
        refine xk_aload_n (pc := 41) d_Cache_dropFile_41 rfl ?_
        refine xk_getRo (pc := 42) d_Cache_dropFile_42 fl_Cache_17 (by first | rfl | assumption) rfl (by omega) (by omega) (hS2 _ _ _ rfl (by omega)) ?_
        refine xk_iload_n (pc := 45) d_Cache_dropFile_45 rfl ?_
        refine xk_aload (pc := 46) d_Cache_dropFile_46 rfl ?_
        refine xk_aastore (pc := 48) (ci := 0) d_Cache_dropFile_48 rfl (by decide) (by decide) (by omega) (by omega) rfl (by omega) (by decide) hkb rfl rfl (by omega) (by omega) ?_
        refine xk_iincN (pc := 49) (d := 1) d_Cache_dropFile_49 rfl ?_
        refine xk_iincN (pc := 52) (d := 1) d_Cache_dropFile_52 rfl ?_
        refine xk_goto (pc := 55) (tgt := 4) d_Cache_dropFile_55 rfl ?_
        first
          | (have K := ih (i + 1) R β (some (.inr (some (10 + 2 * β i)))) (by omega) (by omega) hR hβ hinj (by rw [hfl]; exact hD) (fun j y hj hy => hL j y (by omega) hy)
             rw [hfl] at K
             exact K)
          | (have K := ih (i + 1) (xk_up (xk_up R 9 i (some (10 + 2 * β ((l.take i).filter (fun x => decide (x.1 ≠ f))).length))) 9 ((l.take i).filter (fun x => decide (x.1 ≠ f))).length (some (10 + 2 * β i))) (fun j => if j = ((l.take i).filter (fun x => decide (x.1 ≠ f))).length then β i else if j = i then β ((l.take i).filter (fun x => decide (x.1 ≠ f))).length else β j) (some (.inr (some (10 + 2 * β i)))) (by omega) (by omega) (fun a ha => by funext k; rw [xk_up_a ha, xk_up_a ha, hR a ha]) (fun j hj => by
               show (if j = ((l.take i).filter (fun x => decide (x.1 ≠ f))).length then β i else if j = i then β ((l.take i).filter (fun x => decide (x.1 ≠ f))).length else β j) < 5 ∧ xk_up (xk_up R 9 i _) 9 _ _ 9 j = some (10 + 2 * (if j = ((l.take i).filter (fun x => decide (x.1 ≠ f))).length then β i else if j = i then β ((l.take i).filter (fun x => decide (x.1 ≠ f))).length else β j))
               by_cases j1 : j = ((l.take i).filter (fun x => decide (x.1 ≠ f))).length
               · rw [if_pos j1, j1, xk_up_s]; exact ⟨hbi, rfl⟩
               · rw [if_neg j1, xk_up_k j1]
                 by_cases j2 : j = i
                 · rw [if_pos j2, j2, xk_up_s]; exact ⟨hbk, rfl⟩
                 · rw [if_neg j2, xk_up_k j2]; exact hβ j hj) (fun a b ha hb hab => by
               change (if a = ((l.take i).filter (fun x => decide (x.1 ≠ f))).length then β i else if a = i then β ((l.take i).filter (fun x => decide (x.1 ≠ f))).length else β a) = (if b = ((l.take i).filter (fun x => decide (x.1 ≠ f))).length then β i else if b = i then β ((l.take i).filter (fun x => decide (x.1 ≠ f))).length else β b) at hab
               generalize ((l.take i).filter (fun x => decide (x.1 ≠ f))).length = kk at hab hkl
               have h5 : kk < 5 := by omega
               have h6 : i < 5 := by omega
               split at hab <;> split at hab <;> (try split at hab) <;> (try split at hab) <;> first | omega | (have := hinj _ _ (by omega) (by omega) hab; omega)) (by
               rw [hfl]
               intro j y hy
               show xr_B y (10 + 2 * (if j = ((l.take i).filter (fun x => decide (x.1 ≠ f))).length then β i else if j = i then β ((l.take i).filter (fun x => decide (x.1 ≠ f))).length else β j)) m
               by_cases j1 : j < ((l.take i).filter (fun x => decide (x.1 ≠ f))).length
               · rw [List.getElem?_append_left j1] at hy
                 rw [if_neg (by omega), if_neg (by omega)]
                 exact hD j y hy
               · rw [List.getElem?_append_right (by omega)] at hy
                 have j2 := xs_lt hy
                 have j3 : j = ((l.take i).filter (fun x => decide (x.1 ≠ f))).length := by
                   change j - ((l.take i).filter (fun x => decide (x.1 ≠ f))).length < 1 at j2
                   omega
                 rw [j3, Nat.sub_self] at hy
                 cases hy
                 rw [if_pos j3]
                 exact hBi) (fun j y hj hy => by
               show xr_B y (10 + 2 * (if j = ((l.take i).filter (fun x => decide (x.1 ≠ f))).length then β i else if j = i then β ((l.take i).filter (fun x => decide (x.1 ≠ f))).length else β j)) m
               rw [if_neg (by omega), if_neg (by omega)]
               exact hL j y (by omega) hy)
             rw [hfl, List.length_append] at K
             exact K)

set_option maxRecDepth 20000 in
set_option maxHeartbeats 4000000 in
theorem c_Cache_dropFile {E : xk_E} {n : Nat} {m : xk_M} {r : xk_P} {Q : xk_Q} (hn : 74 ≤ n) (hS : xr_S r n) {F : xs_F} (hF : xr_F F m r) (hok : xs_okF F) {f : Nat} (hf : f < 8) (hQ : ∀ m' r', xr_F (xs_drop F f) m' r' → (∀ a, 20 ≤ a → m' a = m a) → (∀ a, a ≠ 9 → r' a = r a) → Q none n m' r') : xk_W E m_Cache_dropFile 0 (xk_ent m_Cache_dropFile [.inr (some 7), .inl (nI f)]) [] n m r 0 0 Q := by
  show xk_W E m_Cache_dropFile 0 [some (.inr (some 7)), some (.inl (nI f)), none, none, none] [] n m r 0 0 Q
  refine xk_iconst (pc := 0) (v := nI 0) d_Cache_dropFile_0 (by decide) ?_
  refine xk_istore_n (pc := 1) d_Cache_dropFile_1 (by decide) ?_
  refine xk_iconst (pc := 2) (v := nI 0) d_Cache_dropFile_2 (by decide) ?_
  refine xk_istore_n (pc := 3) d_Cache_dropFile_3 (by decide) ?_
  obtain ⟨hz, hl5, β, hβ, hinj, hB⟩ := hF.2.2
  refine l_drop (l := F.2.2) hn hS hz hl5 (fun i x hx => (hok.2.2.1 i x hx).1) hf (fun R γ hR hγ hinj2 hD => ?_) (F.2.2.length + 1) 0 r β none (by omega) (by omega) (fun _ _ => rfl) hβ hinj (fun j x hx => by simp at hx) (fun j x _ hx => hB j x hx)
  have fr : ∀ a, a ≠ 7 → (xk_up m 7 3 (nI (F.2.2.filter (fun x => decide (x.1 ≠ f))).length)) a = m a := fun a ha => by funext k; exact xk_up_a ha
  refine hQ _ R ⟨xr_H_kept hF.1 (fr _ (by decide)) (fr _ (by decide)) (fr _ (by decide)) (fr _ (by decide)) (fr _ (by decide)), xr_L_kept hF.2.1 (fr _ (by decide)), xk_up_s, Nat.le_trans (List.length_filter_le _ _) hl5, γ, hγ, hinj2, fun j x hx => ?_⟩ (fun a ha => fr a (by omega)) hR
  have hj5 : j < 5 := by
    have h1 : j < (F.2.2.filter (fun x => decide (x.1 ≠ f))).length := xs_lt hx
    have h2 := List.length_filter_le (fun x : xs_B => decide (x.1 ≠ f)) F.2.2
    omega
  have := (hγ j hj5).1
  exact xr_B_kept (hD j x hx) (fr _ (by omega)) (fr _ (by omega))

set_option maxRecDepth 20000 in
set_option maxHeartbeats 4000000 in
theorem l_anew {E : xk_E} {n : Nat} {Q : xk_Q} {m : xk_M} {r : xk_P} (hn : 74 ≤ n) (hS : xr_S r n) (hQ : Q none n (xk_fn m 8 0 8 (m 4)) r) : ∀ (k : Nat) (i : Nat) (M : xk_M), 8 - i < k → i ≤ 8 → M = xk_fn m 8 0 i (m 4) → xk_W E m_Cache_startAnew 7 [some (.inr (some 7)), some (.inl (nI i))] [] n M r 0 0 Q := by
  intro k
  induction k with
  | zero => intro i M h; exact absurd h (Nat.not_lt_zero _)
  | succ k ih =>
    intro i M hk hi hM
    subst hM
    refine xk_iload_n (pc := 7) d_Cache_startAnew_7 rfl ?_
    refine xk_bipush (pc := 8) (v := nI 8) d_Cache_startAnew_8 (by decide) ?_
    first | refine xk_icmp_geN (pc := 10) (tgt := 33) d_Cache_startAnew_10 rfl (by omega) (by omega) (fun c_10 => ?_) (fun c_10 => ?_) | refine xk_icmp_ge (pc := 10) (tgt := 33) d_Cache_startAnew_10 rfl (fun c_10 => ?_) (fun c_10 => ?_)
    · have e : i = 8 := by omega
      subst e
      exact xk_vret (pc := 33) rfl d_Cache_startAnew_33 rfl (Nat.le_of_ble_eq_true rfl) (Nat.le_of_ble_eq_true rfl) hQ
    · refine xk_aload_n (pc := 13) d_Cache_startAnew_13 rfl ?_
      refine xk_getRo (pc := 14) d_Cache_startAnew_14 fl_Cache_9 (by first | rfl | assumption) rfl (by omega) (by omega) (hS _ _ _ rfl (by omega)) ?_
      refine xk_iload_n (pc := 17) d_Cache_startAnew_17 rfl ?_
      refine xk_aload_n (pc := 18) d_Cache_startAnew_18 rfl ?_
      refine xk_getRo (pc := 19) d_Cache_startAnew_19 fl_Cache_25 (by first | rfl | assumption) rfl (by omega) (by omega) (hS _ _ _ rfl (by omega)) ?_
      refine xk_iload_n (pc := 22) d_Cache_startAnew_22 rfl ?_
      refine xk_cV1 (pc := 23) d_Cache_startAnew_23 ml_Cache_53 cz_Host_lengthOf ⟨rfl, rfl⟩ rfl (by first | rfl | assumption) (by omega) (by omega) (Nat.le_of_ble_eq_true rfl) ⟨(Nat.le_of_ble_eq_true rfl), (Nat.le_of_ble_eq_true rfl)⟩ ?_
      refine c_Host_lengthOf hn hS (by omega) ?_
      rw [xk_fn_a (by decide)]
      refine xk_iastore (pc := 26) d_Cache_startAnew_26 (by first | rfl | assumption) (by omega) (by omega) rfl (by omega) (by decide) ?_
      rw [xk_fn_s (g := m 4) (by omega)]
      refine xk_iincN (pc := 27) (d := 1) d_Cache_startAnew_27 rfl ?_
      refine xk_goto (pc := 30) (tgt := 7) d_Cache_startAnew_30 rfl ?_
      exact ih (i + 1) _ (by omega) (by omega) rfl

set_option maxRecDepth 20000 in
set_option maxHeartbeats 4000000 in
theorem c_Cache_startAnew {E : xk_E} {n : Nat} {m : xk_M} {r : xk_P} {Q : xk_Q} (hn : 74 ≤ n) (hS : xr_S r n) {F : xs_F} (hF : xr_F F m r) (hok : xs_okF F) (hQ : ∀ m', xr_F (F.1, F.1.2.1, []) m' r → (∀ a, 20 ≤ a → m' a = m a) → Q none n m' r) : xk_W E m_Cache_startAnew 0 (xk_ent m_Cache_startAnew [.inr (some 7)]) [] n m r 0 0 Q := by
  show xk_W E m_Cache_startAnew 0 [some (.inr (some 7)), none] [] n m r 0 0 Q
  refine xk_aload_n (pc := 0) d_Cache_startAnew_0 rfl ?_
  refine xk_iconst (pc := 1) (v := nI 0) d_Cache_startAnew_1 (by decide) ?_
  refine xk_putI (pc := 2) d_Cache_startAnew_2 fl_Cache_21 (by first | rfl | assumption) rfl (fun q hq h => by cases hq; first | exact absurd h (by decide) | exact ⟨rfl, rfl, rfl⟩) ⟨rfl, rfl⟩ (by omega) (by omega) ?_
  refine xk_iconst (pc := 5) (v := nI 0) d_Cache_startAnew_5 (by decide) ?_
  refine xk_istore_n (pc := 6) d_Cache_startAnew_6 (by decide) ?_
  obtain ⟨hz, hl5, β, hβ, hinj, hB⟩ := hF.2.2
  have fr : ∀ a, a ≠ 7 → a ≠ 8 → (xk_fn (xk_up m 7 3 (nI 0)) 8 0 8 ((xk_up m 7 3 (nI 0)) 4)) a = m a := fun a ha hb => by funext k; rw [xk_fn_a hb, xk_up_a ha]
  refine l_anew (m := xk_up m 7 3 (nI 0)) hn hS (hQ _ ⟨xr_H_kept hF.1 (fr _ (by decide) (by decide)) (fr _ (by decide) (by decide)) (fr _ (by decide) (by decide)) (fr _ (by decide) (by decide)) (fr _ (by decide) (by decide)), ?_, ?_, Nat.zero_le 5, β, hβ, hinj, fun i x hx => by simp at hx⟩ (fun a ha => fr a (by omega) (by omega))) 9 0 _ (by omega) (by omega) xk_fn_0.symm
  · intro f hf
    unfold xk_fn
    rw [if_pos ⟨rfl, by omega, by omega⟩, xk_up_a (by decide)]
    exact hF.1.2.1 f hf
  · rw [xk_fn_a (by decide), xk_up_s]; rfl
