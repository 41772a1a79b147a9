def xk_fn (m : xk_M) (a p i : Nat) (g : Nat → Int32) : xk_M := fun c j => if c = a ∧ p ≤ j ∧ j < p + i then g (j - p) else m c j
theorem xk_fn_0 {m : xk_M} {a p : Nat} {g : Nat → Int32} : xk_fn m a p 0 g = m := by
  funext c j
  unfold xk_fn
  rw [if_neg (by omega)]
theorem xk_fn_a {m : xk_M} {a p i c j : Nat} {g : Nat → Int32} (h : c ≠ a) : xk_fn m a p i g c j = m c j := by
  unfold xk_fn
  rw [if_neg (fun q => h q.1)]
theorem xk_fn_s {m : xk_M} {a p i q : Nat} {g : Nat → Int32} (h : q = p + i) : xk_up (xk_fn m a p i g) a q (g i) = xk_fn m a p (i + 1) g := by
  subst h
  funext c j
  unfold xk_up xk_fn
  by_cases h1 : c = a ∧ j = p + i
  · rw [if_pos h1, if_pos ⟨h1.1, by omega, by omega⟩, h1.2, Nat.add_sub_cancel_left]
  · rw [if_neg h1]
    by_cases h2 : c = a ∧ p ≤ j ∧ j < p + i
    · rw [if_pos h2, if_pos ⟨h2.1, h2.2.1, by omega⟩]
    · rw [if_neg h2, if_neg (fun q => h2 ⟨q.1, q.2.1, by
        have : ¬ j = p + i := fun e => h1 ⟨q.1, e⟩
        omega⟩)]
theorem xk_fill_a {m : xk_M} {a p q c : Nat} {v : Int32} (h : c ≠ a) : xk_fill m a p q v c = m c := by
  funext j
  unfold xk_fill
  rw [if_neg (fun z => h z.1)]
theorem xs_minN {a b : Nat} (ha : a < 2 ^ 31) (hb : b < 2 ^ 31) : (if nI b < nI a then nI b else nI a) = nI (min a b) := by
  by_cases h : b < a
  · rw [if_pos (nI_lt h ha), Nat.min_eq_right (by omega)]
  · rw [if_neg (nI_nlt (by omega) hb), Nat.min_eq_left (by omega)]
theorem xs_maxN {a b : Nat} (ha : a < 2 ^ 31) (hb : b < 2 ^ 31) : (if nI a < nI b then nI b else nI a) = nI (max a b) := by
  by_cases h : a < b
  · rw [if_pos (nI_lt h hb), Nat.max_eq_right (by omega)]
  · rw [if_neg (nI_nlt (by omega) ha), Nat.max_eq_left (by omega)]
theorem xr_H_clear {h : xs_H} {m : xk_M} {f : Nat} (hR : xr_H h m) : xr_H (xs_clear h f) (xk_fill (xk_up m 4 f (nI 0)) 5 (f * 32) ((f + 1) * 32) (nI 0)) := by
  obtain ⟨r1, r2, r3, r4, r5, r6⟩ := hR
  refine ⟨fun g hg => ?_, fun g hg => ?_, fun g i hg hi => ?_, ⟨?_, fun j hj hj2 => ?_⟩, ?_, ?_⟩
  · rw [xk_fill_a (by decide), xk_up_a (by decide)]; exact r1 g hg
  · rw [xk_fill_a (by decide)]
    by_cases e : g = f
    · subst e; rw [xk_up_s]; show _ = nI (xs_u h.2.1 g 0 g); rw [xs_u_s]
    · rw [xk_up_k e, r2 g hg]; show _ = nI (xs_u h.2.1 f 0 g); rw [xs_u_n e]
  · show _ = xs_u h.2.2.1 f (fun _ => 0) g i
    unfold xk_fill
    by_cases e : g = f
    · subst e; rw [if_pos ⟨rfl, by omega, by omega⟩, xs_u_s]; rfl
    · rw [if_neg (by omega), xk_up_a (by decide), xs_u_n e]; exact r3 g i hg hi
  · rw [xk_fill_a (by decide), xk_up_a (by decide)]; exact r4.1
  · rw [xk_fill_a (by decide), xk_up_a (by decide)]; exact r4.2 j hj hj2
  · rw [xk_fill_a (by decide), xk_up_a (by decide)]; exact r5
  · rw [xk_fill_a (by decide), xk_up_a (by decide)]; exact r6

set_option maxRecDepth 20000 in
set_option maxHeartbeats 4000000 in
theorem c_Host_clear {E : xk_E} {n : Nat} {m : xk_M} {r : xk_P} {Q : xk_Q} (hn : 74 ≤ n) (hS : xr_S r n) {h : xs_H} {f : Nat} (hR : xr_H h m) (hf : f < 8) (hQ : ∀ m', xr_H (xs_clear h f) m' → (∀ a, a ≠ 4 → a ≠ 5 → m' a = m a) → Q none n m' r) : xk_W E m_Host_clear 0 (xk_ent m_Host_clear [.inr (some 2), .inl (nI f)]) [] n m r 0 0 Q := by
  show xk_W E m_Host_clear 0 [some (.inr (some 2)), some (.inl (nI f))] [] n m r 0 0 Q
  refine xk_aload_n (pc := 0) d_Host_clear_0 rfl ?_
  refine xk_getRo (pc := 1) d_Host_clear_1 fl_Host_15 (by first | rfl | assumption) rfl (by omega) (by omega) (hS _ _ _ rfl (by omega)) ?_
  refine xk_iload_n (pc := 4) d_Host_clear_4 rfl ?_
  refine xk_iconst (pc := 5) (v := nI 0) d_Host_clear_5 (by decide) ?_
  refine xk_iastore (pc := 6) d_Host_clear_6 (by first | rfl | assumption) (by omega) (by omega) rfl (by omega) (by decide) ?_
  refine xk_aload_n (pc := 7) d_Host_clear_7 rfl ?_
  refine xk_getRo (pc := 8) d_Host_clear_8 fl_Host_19 (by first | rfl | assumption) rfl (by omega) (by omega) (hS _ _ _ rfl (by omega)) ?_
  refine xk_iload_n (pc := 11) d_Host_clear_11 rfl ?_
  refine xk_bipush (pc := 12) (v := nI 32) d_Host_clear_12 (by decide) ?_
  first | refine xk_imulN (pc := 14) d_Host_clear_14 ?_ | refine xk_imul (pc := 14) d_Host_clear_14 ?_
  refine xk_iload_n (pc := 15) d_Host_clear_15 rfl ?_
  refine xk_iconst (pc := 16) (v := nI 1) d_Host_clear_16 (by decide) ?_
  first | refine xk_iaddN (pc := 17) d_Host_clear_17 ?_ | refine xk_iadd (pc := 17) d_Host_clear_17 ?_
  refine xk_bipush (pc := 18) (v := nI 32) d_Host_clear_18 (by decide) ?_
  first | refine xk_imulN (pc := 20) d_Host_clear_20 ?_ | refine xk_imul (pc := 20) d_Host_clear_20 ?_
  refine xk_iconst (pc := 21) (v := nI 0) d_Host_clear_21 (by decide) ?_
  refine xk_cS4 (pc := 22) d_Host_clear_22 ml_Host_58 cz_Arr_fill4 ⟨rfl, rfl⟩ rfl (Nat.le_of_ble_eq_true rfl) ⟨(Nat.le_of_ble_eq_true rfl), (Nat.le_of_ble_eq_true rfl)⟩ ?_
  refine c_Arr_fill4 (len := 256) rfl (by omega) (by omega) (by omega) (by omega) (by decide) ?_
  refine xk_vret (pc := 25) rfl d_Host_clear_25 rfl (Nat.le_of_ble_eq_true rfl) (Nat.le_of_ble_eq_true rfl) ?_
  exact hQ _ (xr_H_clear hR) (fun a h4 h5 => by rw [xk_fill_a h5]; funext j; exact xk_up_a h4)

theorem xr_H_there {h : xs_H} {m : xk_M} {f : Nat} {b : Bool} (hR : xr_H h m) : xr_H (xs_there h f b) (xk_up m 3 f (xs_bi b)) := by
  obtain ⟨r1, r2, r3, r4, r5, r6⟩ := hR
  refine ⟨fun g hg => ?_, fun g hg => ?_, fun g i hg hi => ?_, ⟨?_, fun j hj hj2 => ?_⟩, ?_, ?_⟩
  · show _ = xs_bi (xs_u h.1 f b g)
    by_cases e : g = f
    · subst e; rw [xk_up_s, xs_u_s]
    · rw [xk_up_k e, xs_u_n e]; exact r1 g hg
  · rw [xk_up_a (by decide)]; exact r2 g hg
  · rw [xk_up_a (by decide)]; exact r3 g i hg hi
  · rw [xk_up_a (by decide)]; exact r4.1
  · rw [xk_up_a (by decide)]; exact r4.2 j hj hj2
  · rw [xk_up_a (by decide)]; exact r5
  · rw [xk_up_a (by decide)]; exact r6
def xs_place (h : xs_H) (f l : Nat) (c : Int32) : xs_H := (xs_u h.1 f true, xs_u h.2.1 f l, xs_u h.2.2.1 f (fun i => if i < l then (c + nI (7 * i)) &&& nI 255 else 0), h.2.2.2)
theorem xr_H_place {h : xs_H} {m : xk_M} {f l : Nat} {c : Int32} (hl : l ≤ 32) (hR : xr_H (xs_there (xs_clear h f) f true) m) : xr_H (xs_place h f l c) (xk_fn (xk_up m 4 f (nI l)) 5 (f * 32) l (fun i => (c + nI (7 * i)) &&& nI 255)) := by
  obtain ⟨r1, r2, r3, r4, r5, r6⟩ := hR
  refine ⟨fun g hg => ?_, fun g hg => ?_, fun g i hg hi => ?_, ⟨?_, fun j hj hj2 => ?_⟩, ?_, ?_⟩
  · rw [xk_fn_a (by decide), xk_up_a (by decide)]; exact r1 g hg
  · rw [xk_fn_a (by decide)]
    show _ = nI (xs_u h.2.1 f l g)
    by_cases e : g = f
    · subst e; rw [xk_up_s, xs_u_s]
    · rw [xk_up_k e, r2 g hg, xs_u_n e]; show nI (xs_u h.2.1 f 0 g) = _; rw [xs_u_n e]
  · show _ = xs_u h.2.2.1 f _ g i
    have r3' := r3 g i hg hi
    change m 5 (g * 32 + i) = xs_u h.2.2.1 f (fun _ => 0) g i at r3'
    unfold xk_fn
    by_cases e : g = f
    · subst e
      rw [xs_u_s] at r3' ⊢
      by_cases e2 : i < l
      · rw [if_pos ⟨rfl, by omega, by omega⟩, if_pos e2, Nat.add_sub_cancel_left]
      · rw [if_neg (by omega), if_neg e2, xk_up_a (by decide), r3']
    · rw [if_neg (by omega), xk_up_a (by decide), r3', xs_u_n e, xs_u_n e]
  · rw [xk_fn_a (by decide), xk_up_a (by decide)]; exact r4.1
  · rw [xk_fn_a (by decide), xk_up_a (by decide)]; exact r4.2 j hj hj2
  · rw [xk_fn_a (by decide), xk_up_a (by decide)]; exact r5
  · rw [xk_fn_a (by decide), xk_up_a (by decide)]; exact r6

set_option maxRecDepth 20000 in
set_option maxHeartbeats 4000000 in
theorem l_place {E : xk_E} {n : Nat} {r : xk_P} {Q : xk_Q} {m : xk_M} {f l : Nat} {x : Int32} (hn : 74 ≤ n) (hS : xr_S r n) (hf : f < 8) (hl : l ≤ 32) (hQ : Q none n (xk_fn m 5 (f * 32) l (fun i => (x + nI (7 * i)) &&& nI 255)) r) : ∀ (k : Nat) (i : Nat), l - i < k → i ≤ l → xk_W E m_Host_place 22 [some (.inr (some 2)), some (.inl (nI f)), some (.inl (nI l)), some (.inl x), some (.inl (nI i))] [] n (xk_fn m 5 (f * 32) i (fun i => (x + nI (7 * i)) &&& nI 255)) r 0 0 Q := by
  intro k
  induction k with
  | zero => intro i h; exact absurd h (Nat.not_lt_zero _)
  | succ k ih =>
    intro i hk h2
    refine xk_iload (pc := 22) d_Host_place_22 rfl ?_
    refine xk_iload_n (pc := 24) d_Host_place_24 rfl ?_
    first | refine xk_icmp_geN (pc := 25) (tgt := 57) d_Host_place_25 rfl (by omega) (by omega) (fun c_25 => ?_) (fun c_25 => ?_) | refine xk_icmp_ge (pc := 25) (tgt := 57) d_Host_place_25 rfl (fun c_25 => ?_) (fun c_25 => ?_)
    · have e : i = l := by omega
      subst e
      refine xk_vret (pc := 57) rfl d_Host_place_57 rfl (Nat.le_of_ble_eq_true rfl) (Nat.le_of_ble_eq_true rfl) ?_
      exact hQ
    · refine xk_aload_n (pc := 28) d_Host_place_28 rfl ?_
      refine xk_getRo (pc := 29) d_Host_place_29 fl_Host_19 (by first | rfl | assumption) rfl (by omega) (by omega) (hS _ _ _ rfl (by omega)) ?_
      refine xk_iload_n (pc := 32) d_Host_place_32 rfl ?_
      refine xk_bipush (pc := 33) (v := nI 32) d_Host_place_33 (by decide) ?_
      first | refine xk_imulN (pc := 35) d_Host_place_35 ?_ | refine xk_imul (pc := 35) d_Host_place_35 ?_
      refine xk_iload (pc := 36) d_Host_place_36 rfl ?_
      first | refine xk_iaddN (pc := 38) d_Host_place_38 ?_ | refine xk_iadd (pc := 38) d_Host_place_38 ?_
      refine xk_iload_n (pc := 39) d_Host_place_39 rfl ?_
      refine xk_bipush (pc := 40) (v := nI 7) d_Host_place_40 (by decide) ?_
      refine xk_iload (pc := 42) d_Host_place_42 rfl ?_
      first | refine xk_imulN (pc := 44) d_Host_place_44 ?_ | refine xk_imul (pc := 44) d_Host_place_44 ?_
      first | refine xk_iaddN (pc := 45) d_Host_place_45 ?_ | refine xk_iadd (pc := 45) d_Host_place_45 ?_
      refine xk_sipush (pc := 46) (v := nI 255) d_Host_place_46 (by decide) ?_
      refine xk_iand (pc := 49) d_Host_place_49 ?_
      refine xk_iastore (pc := 50) d_Host_place_50 (by first | rfl | assumption) (by omega) (by omega) rfl (by omega) (by decide) ?_
      rw [xk_fn_s (g := fun i => (x + nI (7 * i)) &&& nI 255) rfl]
      refine xk_iincN (pc := 51) (d := 1) d_Host_place_51 rfl ?_
      refine xk_goto (pc := 54) (tgt := 22) d_Host_place_54 rfl ?_
      exact ih (i + 1) (by omega) (by omega)

set_option maxRecDepth 20000 in
set_option maxHeartbeats 4000000 in
theorem c_Host_place {E : xk_E} {n : Nat} {m : xk_M} {r : xk_P} {Q : xk_Q} (hn : 74 ≤ n) (hS : xr_S r n) {h : xs_H} {f l : Nat} {x : Int32} (hR : xr_H h m) (hf : f < 8) (hl : l ≤ 32) (hQ : ∀ m', xr_H (xs_place h f l x) m' → (∀ a, a ≠ 3 → a ≠ 4 → a ≠ 5 → m' a = m a) → Q none n m' r) : xk_W E m_Host_place 0 (xk_ent m_Host_place [.inr (some 2), .inl (nI f), .inl (nI l), .inl x]) [] n m r 0 0 Q := by
  show xk_W E m_Host_place 0 [some (.inr (some 2)), some (.inl (nI f)), some (.inl (nI l)), some (.inl x), none] [] n m r 0 0 Q
  refine xk_aload_n (pc := 0) d_Host_place_0 rfl ?_
  refine xk_iload_n (pc := 1) d_Host_place_1 rfl ?_
  refine xk_cV1 (pc := 2) d_Host_place_2 ml_Host_35 cz_Host_clear ⟨rfl, rfl⟩ rfl (by first | rfl | assumption) (by omega) (by omega) (Nat.le_of_ble_eq_true rfl) ⟨(Nat.le_of_ble_eq_true rfl), (Nat.le_of_ble_eq_true rfl)⟩ ?_
  refine c_Host_clear hn hS hR hf (fun m1 hR1 hm1 => ?_)
  refine xk_aload_n (pc := 5) d_Host_place_5 rfl ?_
  refine xk_getRo (pc := 6) d_Host_place_6 fl_Host_9 (by first | rfl | assumption) rfl (by omega) (by omega) (hS _ _ _ rfl (by omega)) ?_
  refine xk_iload_n (pc := 9) d_Host_place_9 rfl ?_
  refine xk_iconst (pc := 10) (v := nI 1) d_Host_place_10 (by decide) ?_
  refine xk_bastore (pc := 11) d_Host_place_11 (by first | rfl | assumption) (by omega) (by omega) rfl (by omega) (by decide) rfl ?_
  refine xk_aload_n (pc := 12) d_Host_place_12 rfl ?_
  refine xk_getRo (pc := 13) d_Host_place_13 fl_Host_15 (by first | rfl | assumption) rfl (by omega) (by omega) (hS _ _ _ rfl (by omega)) ?_
  refine xk_iload_n (pc := 16) d_Host_place_16 rfl ?_
  refine xk_iload_n (pc := 17) d_Host_place_17 rfl ?_
  refine xk_iastore (pc := 18) d_Host_place_18 (by first | rfl | assumption) (by omega) (by omega) rfl (by omega) (by decide) ?_
  refine xk_iconst (pc := 19) (v := nI 0) d_Host_place_19 (by decide) ?_
  refine xk_istore (pc := 20) d_Host_place_20 (by decide) ?_
  have hR2 := xr_H_there (f := f) (b := true) hR1
  have K := l_place (E := E) (m := xk_up (xk_up m1 3 f (nI 1)) 4 f (nI l)) (x := x) hn hS hf hl (hQ _ (xr_H_place hl hR2) (fun a h3 h4 h5 => by
    funext j
    rw [xk_fn_a h5, xk_up_a h4]
    show xk_up m1 3 f (xs_bi true) a j = m a j
    rw [xk_up_a h3, hm1 a h4 h5])) (l + 1) 0 (by omega) (by omega)
  rw [xk_fn_0] at K
  exact K

set_option maxRecDepth 20000 in
set_option maxHeartbeats 4000000 in
theorem c_Host_makeFile {E : xk_E} {n : Nat} {m : xk_M} {r : xk_P} {Q : xk_Q} (hn : 74 ≤ n) (hS : xr_S r n) {h : xs_H} {f : Nat} (hR : xr_H h m) (hops : h.2.2.2.2.1 < 2 ^ 30) (htf : h.2.2.2.2.2 < 2 ^ 30) (hf : f < 8) (h1 : h.2.2.2.2.2 = 0 → ∀ m', xr_H (xs_there (xs_clear (xs_op h 2 f 0).1 f) f true) m' → (∀ a, a ≠ 2 → a ≠ 3 → a ≠ 4 → a ≠ 5 → a ≠ 6 → m' a = m a) → Q (some (.inl (nI 1))) n m' r) (h0 : h.2.2.2.2.2 ≠ 0 → ∀ m', xr_H (xs_op h 2 f 0).1 m' → (∀ a, a ≠ 2 → a ≠ 6 → m' a = m a) → Q (some (.inl (nI 0))) n m' r) : xk_W E m_Host_makeFile 0 (xk_ent m_Host_makeFile [.inr (some 2), .inl (nI f)]) [] n m r 0 0 Q := by
  show xk_W E m_Host_makeFile 0 [some (.inr (some 2)), some (.inl (nI f))] [] n m r 0 0 Q
  refine xk_aload_n (pc := 0) d_Host_makeFile_0 rfl ?_
  refine xk_iconst (pc := 1) (v := nI 2) d_Host_makeFile_1 (by decide) ?_
  refine xk_iload_n (pc := 2) d_Host_makeFile_2 rfl ?_
  refine xk_iconst (pc := 3) (v := nI 0) d_Host_makeFile_3 (by decide) ?_
  refine xk_cV3 (pc := 4) d_Host_makeFile_4 ml_Host_39 cz_Host_succeeds ⟨rfl, rfl⟩ rfl (by first | rfl | assumption) (by omega) (by omega) (Nat.le_of_ble_eq_true rfl) ⟨(Nat.le_of_ble_eq_true rfl), (Nat.le_of_ble_eq_true rfl)⟩ ?_
  refine c_Host_succeeds (o := 2) (b := 0) hn hS hR hops htf (fun z m1 hR1 hm1 => ?_) (fun z m1 hR1 hm1 => ?_)
  · refine xk_if_ne (pc := 7) (tgt := 12) d_Host_makeFile_7 rfl (fun _ => ?_) (fun h => absurd h (by decide))
    refine xk_aload_n (pc := 12) d_Host_makeFile_12 rfl ?_
    refine xk_iload_n (pc := 13) d_Host_makeFile_13 rfl ?_
    refine xk_cV1 (pc := 14) d_Host_makeFile_14 ml_Host_35 cz_Host_clear ⟨rfl, rfl⟩ rfl (by first | rfl | assumption) (by omega) (by omega) (Nat.le_of_ble_eq_true rfl) ⟨(Nat.le_of_ble_eq_true rfl), (Nat.le_of_ble_eq_true rfl)⟩ ?_
    refine c_Host_clear hn hS hR1 hf (fun m2 hR2 hm2 => ?_)
    refine xk_aload_n (pc := 17) d_Host_makeFile_17 rfl ?_
    refine xk_getRo (pc := 18) d_Host_makeFile_18 fl_Host_9 (by first | rfl | assumption) rfl (by omega) (by omega) (hS _ _ _ rfl (by omega)) ?_
    refine xk_iload_n (pc := 21) d_Host_makeFile_21 rfl ?_
    refine xk_iconst (pc := 22) (v := nI 1) d_Host_makeFile_22 (by decide) ?_
    refine xk_bastore (pc := 23) d_Host_makeFile_23 (by first | rfl | assumption) (by omega) (by omega) rfl (by omega) (by decide) rfl ?_
    refine xk_iconst (pc := 24) (v := nI 1) d_Host_makeFile_24 (by decide) ?_
    refine xk_zret (pc := 25) rfl d_Host_makeFile_25 rfl rfl (Nat.le_of_ble_eq_true rfl) (Nat.le_of_ble_eq_true rfl) ?_
    exact h1 z _ (xr_H_there (b := true) hR2) (fun a e2 e3 e4 e5 e6 => by funext j; show xk_up m2 3 f (xs_bi true) a j = m a j; rw [xk_up_a e3, hm2 a e4 e5, hm1 a e2 e6])
  · refine xk_if_ne (pc := 7) (tgt := 12) d_Host_makeFile_7 rfl (fun h => absurd (by decide) h) (fun _ => ?_)
    refine xk_iconst (pc := 10) (v := nI 0) d_Host_makeFile_10 (by decide) ?_
    refine xk_zret (pc := 11) rfl d_Host_makeFile_11 rfl rfl (Nat.le_of_ble_eq_true rfl) (Nat.le_of_ble_eq_true rfl) ?_
    exact h0 z m1 hR1 hm1

set_option maxRecDepth 20000 in
set_option maxHeartbeats 4000000 in
theorem c_Host_emptyFile {E : xk_E} {n : Nat} {m : xk_M} {r : xk_P} {Q : xk_Q} (hn : 74 ≤ n) (hS : xr_S r n) {h : xs_H} {f : Nat} (hR : xr_H h m) (hops : h.2.2.2.2.1 < 2 ^ 30) (htf : h.2.2.2.2.2 < 2 ^ 30) (hf : f < 8) (h1 : h.2.2.2.2.2 = 0 → ∀ m', xr_H (xs_clear (xs_op h 3 f 0).1 f) m' → (∀ a, a ≠ 2 → a ≠ 4 → a ≠ 5 → a ≠ 6 → m' a = m a) → Q (some (.inl (nI 1))) n m' r) (h0 : h.2.2.2.2.2 ≠ 0 → ∀ m', xr_H (xs_op h 3 f 0).1 m' → (∀ a, a ≠ 2 → a ≠ 6 → m' a = m a) → Q (some (.inl (nI 0))) n m' r) : xk_W E m_Host_emptyFile 0 (xk_ent m_Host_emptyFile [.inr (some 2), .inl (nI f)]) [] n m r 0 0 Q := by
  show xk_W E m_Host_emptyFile 0 [some (.inr (some 2)), some (.inl (nI f))] [] n m r 0 0 Q
  refine xk_aload_n (pc := 0) d_Host_emptyFile_0 rfl ?_
  refine xk_iconst (pc := 1) (v := nI 3) d_Host_emptyFile_1 (by decide) ?_
  refine xk_iload_n (pc := 2) d_Host_emptyFile_2 rfl ?_
  refine xk_iconst (pc := 3) (v := nI 0) d_Host_emptyFile_3 (by decide) ?_
  refine xk_cV3 (pc := 4) d_Host_emptyFile_4 ml_Host_39 cz_Host_succeeds ⟨rfl, rfl⟩ rfl (by first | rfl | assumption) (by omega) (by omega) (Nat.le_of_ble_eq_true rfl) ⟨(Nat.le_of_ble_eq_true rfl), (Nat.le_of_ble_eq_true rfl)⟩ ?_
  refine c_Host_succeeds (o := 3) (b := 0) hn hS hR hops htf (fun z m1 hR1 hm1 => ?_) (fun z m1 hR1 hm1 => ?_)
  · refine xk_if_ne (pc := 7) (tgt := 12) d_Host_emptyFile_7 rfl (fun _ => ?_) (fun h => absurd h (by decide))
    refine xk_aload_n (pc := 12) d_Host_emptyFile_12 rfl ?_
    refine xk_iload_n (pc := 13) d_Host_emptyFile_13 rfl ?_
    refine xk_cV1 (pc := 14) d_Host_emptyFile_14 ml_Host_35 cz_Host_clear ⟨rfl, rfl⟩ rfl (by first | rfl | assumption) (by omega) (by omega) (Nat.le_of_ble_eq_true rfl) ⟨(Nat.le_of_ble_eq_true rfl), (Nat.le_of_ble_eq_true rfl)⟩ ?_
    refine c_Host_clear hn hS hR1 hf (fun m2 hR2 hm2 => ?_)
    refine xk_iconst (pc := 17) (v := nI 1) d_Host_emptyFile_17 (by decide) ?_
    refine xk_zret (pc := 18) rfl d_Host_emptyFile_18 rfl rfl (Nat.le_of_ble_eq_true rfl) (Nat.le_of_ble_eq_true rfl) ?_
    exact h1 z _ hR2 (fun a e2 e4 e5 e6 => by rw [hm2 a e4 e5, hm1 a e2 e6])
  · refine xk_if_ne (pc := 7) (tgt := 12) d_Host_emptyFile_7 rfl (fun h => absurd (by decide) h) (fun _ => ?_)
    refine xk_iconst (pc := 10) (v := nI 0) d_Host_emptyFile_10 (by decide) ?_
    refine xk_zret (pc := 11) rfl d_Host_emptyFile_11 rfl rfl (Nat.le_of_ble_eq_true rfl) (Nat.le_of_ble_eq_true rfl) ?_
    exact h0 z m1 hR1 hm1

set_option maxRecDepth 20000 in
set_option maxHeartbeats 4000000 in
theorem c_Host_removeFile {E : xk_E} {n : Nat} {m : xk_M} {r : xk_P} {Q : xk_Q} (hn : 74 ≤ n) (hS : xr_S r n) {h : xs_H} {f : Nat} (hR : xr_H h m) (hops : h.2.2.2.2.1 < 2 ^ 30) (htf : h.2.2.2.2.2 < 2 ^ 30) (hf : f < 8) (h1 : h.2.2.2.2.2 = 0 → ∀ m', xr_H (xs_there (xs_op h 4 f 0).1 f false) m' → (∀ a, a ≠ 2 → a ≠ 3 → a ≠ 6 → m' a = m a) → Q (some (.inl (nI 1))) n m' r) (h0 : h.2.2.2.2.2 ≠ 0 → ∀ m', xr_H (xs_op h 4 f 0).1 m' → (∀ a, a ≠ 2 → a ≠ 6 → m' a = m a) → Q (some (.inl (nI 0))) n m' r) : xk_W E m_Host_removeFile 0 (xk_ent m_Host_removeFile [.inr (some 2), .inl (nI f)]) [] n m r 0 0 Q := by
  show xk_W E m_Host_removeFile 0 [some (.inr (some 2)), some (.inl (nI f))] [] n m r 0 0 Q
  refine xk_aload_n (pc := 0) d_Host_removeFile_0 rfl ?_
  refine xk_iconst (pc := 1) (v := nI 4) d_Host_removeFile_1 (by decide) ?_
  refine xk_iload_n (pc := 2) d_Host_removeFile_2 rfl ?_
  refine xk_iconst (pc := 3) (v := nI 0) d_Host_removeFile_3 (by decide) ?_
  refine xk_cV3 (pc := 4) d_Host_removeFile_4 ml_Host_39 cz_Host_succeeds ⟨rfl, rfl⟩ rfl (by first | rfl | assumption) (by omega) (by omega) (Nat.le_of_ble_eq_true rfl) ⟨(Nat.le_of_ble_eq_true rfl), (Nat.le_of_ble_eq_true rfl)⟩ ?_
  refine c_Host_succeeds (o := 4) (b := 0) hn hS hR hops htf (fun z m1 hR1 hm1 => ?_) (fun z m1 hR1 hm1 => ?_)
  · refine xk_if_ne (pc := 7) (tgt := 12) d_Host_removeFile_7 rfl (fun _ => ?_) (fun h => absurd h (by decide))
    refine xk_aload_n (pc := 12) d_Host_removeFile_12 rfl ?_
    refine xk_getRo (pc := 13) d_Host_removeFile_13 fl_Host_9 (by first | rfl | assumption) rfl (by omega) (by omega) (hS _ _ _ rfl (by omega)) ?_
    refine xk_iload_n (pc := 16) d_Host_removeFile_16 rfl ?_
    refine xk_iconst (pc := 17) (v := nI 0) d_Host_removeFile_17 (by decide) ?_
    refine xk_bastore (pc := 18) d_Host_removeFile_18 (by first | rfl | assumption) (by omega) (by omega) rfl (by omega) (by decide) rfl ?_
    refine xk_iconst (pc := 19) (v := nI 1) d_Host_removeFile_19 (by decide) ?_
    refine xk_zret (pc := 20) rfl d_Host_removeFile_20 rfl rfl (Nat.le_of_ble_eq_true rfl) (Nat.le_of_ble_eq_true rfl) ?_
    exact h1 z _ (xr_H_there (b := false) hR1) (fun a e2 e3 e6 => by funext j; show xk_up m1 3 f (xs_bi false) a j = m a j; rw [xk_up_a e3, hm1 a e2 e6])
  · refine xk_if_ne (pc := 7) (tgt := 12) d_Host_removeFile_7 rfl (fun h => absurd (by decide) h) (fun _ => ?_)
    refine xk_iconst (pc := 10) (v := nI 0) d_Host_removeFile_10 (by decide) ?_
    refine xk_zret (pc := 11) rfl d_Host_removeFile_11 rfl rfl (Nat.le_of_ble_eq_true rfl) (Nat.le_of_ble_eq_true rfl) ?_
    exact h0 z m1 hR1 hm1

theorem xk_cp_a {m : xk_M} {a b sp dp k c : Nat} (h : c ≠ b) : xk_cp m a b sp dp k c = m c := by
  funext j
  unfold xk_cp
  rw [if_neg (fun q => h q.1)]
theorem xr_H_kept {h : xs_H} {m m' : xk_M} (hR : xr_H h m) (h2 : m' 2 = m 2) (h3 : m' 3 = m 3) (h4 : m' 4 = m 4) (h5 : m' 5 = m 5) (h6 : m' 6 = m 6) : xr_H h m' := by
  unfold xr_H
  rw [h2, h3, h4, h5, h6]
  exact hR

set_option maxRecDepth 20000 in
set_option maxHeartbeats 4000000 in
theorem c_Host_readBlock {E : xk_E} {n : Nat} {m : xk_M} {r : xk_P} {Q : xk_Q} (hn : 74 ≤ n) (hS : xr_S r n) {h : xs_H} {f b d : Nat} (hR : xr_H h m) (hops : h.2.2.2.2.1 < 2 ^ 30) (htf : h.2.2.2.2.2 < 2 ^ 30) (hf : f < 8) (hb : b < 4) (hd : xk_kd d = .inr (0, 8)) (hd1 : 7 ≤ d) (hdn : d < n) (h1 : h.2.2.2.2.2 = 0 → ∀ m', xr_H (xs_op h 0 f b).1 m' → (∀ k, k < 8 → m' d k = h.2.2.1 f (8 * b + k)) → (∀ a, a ≠ 2 → a ≠ 6 → a ≠ d → m' a = m a) → Q (some (.inl (nI 1))) n m' r) (h0 : h.2.2.2.2.2 ≠ 0 → ∀ m', xr_H (xs_op h 0 f b).1 m' → (∀ a, a ≠ 2 → a ≠ 6 → m' a = m a) → Q (some (.inl (nI 0))) n m' r) : xk_W E m_Host_readBlock 0 (xk_ent m_Host_readBlock [.inr (some 2), .inl (nI f), .inl (nI b), .inr (some d)]) [] n m r 0 0 Q := by
  show xk_W E m_Host_readBlock 0 [some (.inr (some 2)), some (.inl (nI f)), some (.inl (nI b)), some (.inr (some d)), none] [] n m r 0 0 Q
  refine xk_aload_n (pc := 0) d_Host_readBlock_0 rfl ?_
  refine xk_iconst (pc := 1) (v := nI 0) d_Host_readBlock_1 (by decide) ?_
  refine xk_iload_n (pc := 2) d_Host_readBlock_2 rfl ?_
  refine xk_iload_n (pc := 3) d_Host_readBlock_3 rfl ?_
  refine xk_cV3 (pc := 4) d_Host_readBlock_4 ml_Host_39 cz_Host_succeeds ⟨rfl, rfl⟩ rfl (by first | rfl | assumption) (by omega) (by omega) (Nat.le_of_ble_eq_true rfl) ⟨(Nat.le_of_ble_eq_true rfl), (Nat.le_of_ble_eq_true rfl)⟩ ?_
  refine c_Host_succeeds (o := 0) (b := b) hn hS hR hops htf (fun z m1 hR1 hm1 => ?_) (fun z m1 hR1 hm1 => ?_)
  · refine xk_if_ne (pc := 7) (tgt := 12) d_Host_readBlock_7 rfl (fun _ => ?_) (fun h => absurd h (by decide))
    refine xk_iload_n (pc := 12) d_Host_readBlock_12 rfl ?_
    refine xk_bipush (pc := 13) (v := nI 32) d_Host_readBlock_13 (by decide) ?_
    first | refine xk_imulN (pc := 15) d_Host_readBlock_15 ?_ | refine xk_imul (pc := 15) d_Host_readBlock_15 ?_
    refine xk_iload_n (pc := 16) d_Host_readBlock_16 rfl ?_
    refine xk_bipush (pc := 17) (v := nI 8) d_Host_readBlock_17 (by decide) ?_
    first | refine xk_imulN (pc := 19) d_Host_readBlock_19 ?_ | refine xk_imul (pc := 19) d_Host_readBlock_19 ?_
    first | refine xk_iaddN (pc := 20) d_Host_readBlock_20 ?_ | refine xk_iadd (pc := 20) d_Host_readBlock_20 ?_
    refine xk_istore (pc := 21) d_Host_readBlock_21 (by decide) ?_
    refine xk_aload_n (pc := 23) d_Host_readBlock_23 rfl ?_
    refine xk_getRo (pc := 24) d_Host_readBlock_24 fl_Host_19 (by first | rfl | assumption) rfl (by omega) (by omega) (hS _ _ _ rfl (by omega)) ?_
    refine xk_iload (pc := 27) d_Host_readBlock_27 rfl ?_
    refine xk_aload_n (pc := 29) d_Host_readBlock_29 rfl ?_
    refine xk_iconst (pc := 30) (v := nI 0) d_Host_readBlock_30 (by decide) ?_
    refine xk_bipush (pc := 31) (v := nI 8) d_Host_readBlock_31 (by decide) ?_
    refine xk_copyi (pc := 33) (la := 256) (lb := 8) d_Host_readBlock_33 (xk_in (List.mem_of_getElem? (i := 397) (by decide +kernel)) rfl) (xk_in (List.mem_of_getElem? (i := 399) (by decide +kernel)) rfl) (xk_in (List.mem_of_getElem? (i := 398) (by decide +kernel)) rfl) (xk_in (List.mem_of_getElem? (i := 45) (by decide +kernel)) rfl) rfl hd (by omega) (by omega) (by omega) (by omega) rfl rfl rfl (by omega) (by omega) (by decide) (by decide) (Nat.le_of_ble_eq_true rfl) (by decide) ?_
    refine xk_iconst (pc := 36) (v := nI 1) d_Host_readBlock_36 (by decide) ?_
    refine xk_zret (pc := 37) rfl d_Host_readBlock_37 rfl rfl (Nat.le_of_ble_eq_true rfl) (Nat.le_of_ble_eq_true rfl) ?_
    refine h1 z _ (xr_H_kept hR1 (xk_cp_a (by omega)) (xk_cp_a (by omega)) (xk_cp_a (by omega)) (xk_cp_a (by omega)) (xk_cp_a (by omega))) (fun k hk => ?_) (fun a e2 e6 ed => by rw [xk_cp_a ed, hm1 a e2 e6])
    unfold xk_cp
    rw [if_pos ⟨rfl, by omega, by omega⟩, show f * 32 + b * 8 + (k - 0) = f * 32 + (8 * b + k) by omega]
    exact hR1.2.2.1 f (8 * b + k) hf (by omega)
  · refine xk_if_ne (pc := 7) (tgt := 12) d_Host_readBlock_7 rfl (fun h => absurd (by decide) h) (fun _ => ?_)
    refine xk_iconst (pc := 10) (v := nI 0) d_Host_readBlock_10 (by decide) ?_
    refine xk_zret (pc := 11) rfl d_Host_readBlock_11 rfl rfl (Nat.le_of_ble_eq_true rfl) (Nat.le_of_ble_eq_true rfl) ?_
    exact h0 z m1 hR1 hm1

/-- the host behind a block that was written out -/
def xs_wrh (h : xs_H) (l : Nat) (x : xs_B) : xs_H := (h.1, xs_u h.2.1 x.1 (max (h.2.1 x.1) (min (8 * x.2.1 + 8) l)), xs_u h.2.2.1 x.1 (fun i => if 8 * x.2.1 ≤ i ∧ i < min (8 * x.2.1 + 8) l then x.2.2.2 (i - 8 * x.2.1) else h.2.2.1 x.1 i), h.2.2.2)
theorem xr_H_wr {h : xs_H} {m : xk_M} {f b l : Nat} {dt : Bool} {g : Nat → Int32} {g' : Nat → Int32} (hR : xr_H h m) (hf : f < 8) (hb : b < 4) (hl : l ≤ 32) (hg : ∀ k, k < 8 → g' k = g k) : xr_H (xs_wrh h l (f, b, dt, g)) (xk_up (xk_fn m 5 (f * 32 + b * 8) (min (b * 8 + 8) l - b * 8) g') 4 f (nI (max (h.2.1 f) (min (b * 8 + 8) l)))) := by
  obtain ⟨r1, r2, r3, r4, r5, r6⟩ := hR
  have e8 : 8 * b + 8 = b * 8 + 8 := by omega
  refine ⟨fun g hg => ?_, fun g hg => ?_, fun q i hq hi => ?_, ⟨?_, fun j hj hj2 => ?_⟩, ?_, ?_⟩
  · rw [xk_up_a (by decide), xk_fn_a (by decide)]; exact r1 g hg
  · show _ = nI (xs_u h.2.1 f (max (h.2.1 f) (min (8 * b + 8) l)) g)
    by_cases e : g = f
    · subst e; rw [xk_up_s, xs_u_s, e8]
    · rw [xk_up_k e, xk_fn_a (by decide), r2 g hg, xs_u_n e]
  · show _ = xs_u h.2.2.1 f (fun i => if 8 * b ≤ i ∧ i < min (8 * b + 8) l then g (i - 8 * b) else h.2.2.1 f i) q i
    rw [xk_up_a (by decide)]
    unfold xk_fn
    by_cases e : q = f
    · subst e
      rw [xs_u_s]
      by_cases e2 : 8 * b ≤ i ∧ i < min (8 * b + 8) l
      · rw [if_pos ⟨rfl, by omega, by omega⟩, if_pos e2, hg _ (by omega)]
        congr 1
        omega
      · rw [if_neg (by omega), if_neg e2]; exact r3 q i hq hi
    · rw [if_neg (by omega), xs_u_n e]; exact r3 q i hq hi
  · rw [xk_up_a (by decide), xk_fn_a (by decide)]; exact r4.1
  · rw [xk_up_a (by decide), xk_fn_a (by decide)]; exact r4.2 j hj hj2
  · rw [xk_up_a (by decide), xk_fn_a (by decide)]; exact r5
  · rw [xk_up_a (by decide), xk_fn_a (by decide)]; exact r6

set_option maxRecDepth 20000 in
set_option maxHeartbeats 4000000 in
theorem l_writeBlock {E : xk_E} {n : Nat} {r : xk_P} {Q : xk_Q} {m : xk_M} {f b d e : Nat} {lx : xk_V} (hn : 74 ≤ n) (hS : xr_S r n) (hf : f < 8) (hb : b < 4) (he : e ≤ b * 8 + 8) (hkd : xk_kd d = .inr (0, 8)) (hd1 : 7 ≤ d) (hdn : d < n) (hK : xk_W E m_Host_writeBlock 66 [some (.inr (some 2)), some (.inl (nI f)), some (.inl (nI b)), some (.inr (some d)), some lx, some (.inl (nI (b * 8))), some (.inl (nI e)), some (.inl (nI (max (b * 8) e)))] [] n (xk_fn m 5 (f * 32 + b * 8) (e - b * 8) (m d)) r 0 0 Q) : ∀ (k : Nat) (i : Nat) (M : xk_M), e - i < k → M = xk_fn m 5 (f * 32 + b * 8) (i - b * 8) (m d) → b * 8 ≤ i → (i ≤ e ∨ i = b * 8) → xk_W E m_Host_writeBlock 34 [some (.inr (some 2)), some (.inl (nI f)), some (.inl (nI b)), some (.inr (some d)), some lx, some (.inl (nI (b * 8))), some (.inl (nI e)), some (.inl (nI i))] [] n M r 0 0 Q := by
  intro k
  induction k with
  | zero => intro i M h; exact absurd h (Nat.not_lt_zero _)
  | succ k ih =>
    intro i M hk hM h2 h3
    subst hM
    refine xk_iload (pc := 34) d_Host_writeBlock_34 rfl ?_
    refine xk_iload (pc := 36) d_Host_writeBlock_36 rfl ?_
    first | refine xk_icmp_geN (pc := 38) (tgt := 66) d_Host_writeBlock_38 rfl (by omega) (by omega) (fun c_38 => ?_) (fun c_38 => ?_) | refine xk_icmp_ge (pc := 38) (tgt := 66) d_Host_writeBlock_38 rfl (fun c_38 => ?_) (fun c_38 => ?_)
    · have e1 : i = max (b * 8) e := by omega
      have e2 : i - b * 8 = e - b * 8 := by omega
      rw [e2, e1]
      exact hK
    · refine xk_aload_n (pc := 41) d_Host_writeBlock_41 rfl ?_
      refine xk_getRo (pc := 42) d_Host_writeBlock_42 fl_Host_19 (by first | rfl | assumption) rfl (by omega) (by omega) (hS _ _ _ rfl (by omega)) ?_
      refine xk_iload_n (pc := 45) d_Host_writeBlock_45 rfl ?_
      refine xk_bipush (pc := 46) (v := nI 32) d_Host_writeBlock_46 (by decide) ?_
      first | refine xk_imulN (pc := 48) d_Host_writeBlock_48 ?_ | refine xk_imul (pc := 48) d_Host_writeBlock_48 ?_
      refine xk_iload (pc := 49) d_Host_writeBlock_49 rfl ?_
      first | refine xk_iaddN (pc := 51) d_Host_writeBlock_51 ?_ | refine xk_iadd (pc := 51) d_Host_writeBlock_51 ?_
      refine xk_aload_n (pc := 52) d_Host_writeBlock_52 rfl ?_
      refine xk_iload (pc := 53) d_Host_writeBlock_53 rfl ?_
      refine xk_iload (pc := 55) d_Host_writeBlock_55 rfl ?_
      first | refine xk_isubN (pc := 57) d_Host_writeBlock_57 (by omega) ?_ | refine xk_isub (pc := 57) d_Host_writeBlock_57 ?_
      refine xk_ialoado (pc := 58) d_Host_writeBlock_58 (by first | rfl | assumption) (by omega) (by omega) rfl (by omega) (by decide) (xk_fn_a (by omega)) ?_
      refine xk_iastore (pc := 59) d_Host_writeBlock_59 (by first | rfl | assumption) (by omega) (by omega) rfl (by omega) (by decide) ?_
      rw [xk_fn_s (g := m d) (by omega), show i - b * 8 + 1 = i + 1 - b * 8 by omega]
      refine xk_iincN (pc := 60) (d := 1) d_Host_writeBlock_60 rfl ?_
      refine xk_goto (pc := 63) (tgt := 34) d_Host_writeBlock_63 rfl ?_
      exact ih (i + 1) _ (by omega) rfl (by omega) (by omega)

set_option maxRecDepth 20000 in
set_option maxHeartbeats 4000000 in
theorem c_Host_writeBlock {E : xk_E} {n : Nat} {m : xk_M} {r : xk_P} {Q : xk_Q} (hn : 74 ≤ n) (hS : xr_S r n) {h : xs_H} {f b d ln : Nat} {dt : Bool} {g : Nat → Int32} (hR : xr_H h m) (hops : h.2.2.2.2.1 < 2 ^ 30) (htf : h.2.2.2.2.2 < 2 ^ 30) (hhl : h.2.1 f ≤ 32) (hf : f < 8) (hb : b < 4) (hln : ln ≤ 32) (hd : xk_kd d = .inr (0, 8)) (hd1 : 7 ≤ d) (hdn : d < n) (hg : ∀ k, k < 8 → m d k = g k) (h1 : h.2.2.2.2.2 = 0 → ∀ m', xr_H (xs_wrh (xs_op h 1 f b).1 ln (f, b, dt, g)) m' → (∀ a, a ≠ 2 → a ≠ 4 → a ≠ 5 → a ≠ 6 → m' a = m a) → Q (some (.inl (nI 1))) n m' r) (h0 : h.2.2.2.2.2 ≠ 0 → ∀ m', xr_H (xs_op h 1 f b).1 m' → (∀ a, a ≠ 2 → a ≠ 6 → m' a = m a) → Q (some (.inl (nI 0))) n m' r) : xk_W E m_Host_writeBlock 0 (xk_ent m_Host_writeBlock [.inr (some 2), .inl (nI f), .inl (nI b), .inr (some d), .inl (nI ln)]) [] n m r 0 0 Q := by
  show xk_W E m_Host_writeBlock 0 [some (.inr (some 2)), some (.inl (nI f)), some (.inl (nI b)), some (.inr (some d)), some (.inl (nI ln)), none, none, none] [] n m r 0 0 Q
  refine xk_aload_n (pc := 0) d_Host_writeBlock_0 rfl ?_
  refine xk_iconst (pc := 1) (v := nI 1) d_Host_writeBlock_1 (by decide) ?_
  refine xk_iload_n (pc := 2) d_Host_writeBlock_2 rfl ?_
  refine xk_iload_n (pc := 3) d_Host_writeBlock_3 rfl ?_
  refine xk_cV3 (pc := 4) d_Host_writeBlock_4 ml_Host_39 cz_Host_succeeds ⟨rfl, rfl⟩ rfl (by first | rfl | assumption) (by omega) (by omega) (Nat.le_of_ble_eq_true rfl) ⟨(Nat.le_of_ble_eq_true rfl), (Nat.le_of_ble_eq_true rfl)⟩ ?_
  refine c_Host_succeeds (o := 1) (b := b) hn hS hR hops htf (fun z m1 hR1 hm1 => ?_) (fun z m1 hR1 hm1 => ?_)
  · refine xk_if_ne (pc := 7) (tgt := 12) d_Host_writeBlock_7 rfl (fun _ => ?_) (fun h => absurd h (by decide))
    refine xk_iload_n (pc := 12) d_Host_writeBlock_12 rfl ?_
    refine xk_bipush (pc := 13) (v := nI 8) d_Host_writeBlock_13 (by decide) ?_
    first | refine xk_imulN (pc := 15) d_Host_writeBlock_15 ?_ | refine xk_imul (pc := 15) d_Host_writeBlock_15 ?_
    refine xk_istore (pc := 16) d_Host_writeBlock_16 (by decide) ?_
    refine xk_iload (pc := 18) d_Host_writeBlock_18 rfl ?_
    refine xk_bipush (pc := 20) (v := nI 8) d_Host_writeBlock_20 (by decide) ?_
    first | refine xk_iaddN (pc := 22) d_Host_writeBlock_22 ?_ | refine xk_iadd (pc := 22) d_Host_writeBlock_22 ?_
    refine xk_iload (pc := 23) d_Host_writeBlock_23 rfl ?_
    refine xk_mmin (pc := 25) d_Host_writeBlock_25 (xk_in (List.mem_of_getElem? (i := 382) (by decide +kernel)) rfl) (xk_in (List.mem_of_getElem? (i := 383) (by decide +kernel)) rfl) (xk_in (List.mem_of_getElem? (i := 44) (by decide +kernel)) rfl) (xk_in (List.mem_of_getElem? (i := 384) (by decide +kernel)) rfl) (Nat.le_of_ble_eq_true rfl) (Nat.le_of_ble_eq_true rfl) (Nat.le_of_ble_eq_true rfl) (Nat.le_of_ble_eq_true rfl) ?_
    rw [xs_minN (by omega) (by omega)]
    refine xk_istore (pc := 28) d_Host_writeBlock_28 (by decide) ?_
    refine xk_iload (pc := 30) d_Host_writeBlock_30 rfl ?_
    refine xk_istore (pc := 32) d_Host_writeBlock_32 (by decide) ?_
    refine l_writeBlock (m := m1) (e := min (b * 8 + 8) ln) hn hS hf hb (by omega) hd hd1 hdn ?_ (min (b * 8 + 8) ln - b * 8 + 1) (b * 8) m1 (by omega) (by rw [Nat.sub_self, xk_fn_0]) (by omega) (by omega)
    refine xk_aload_n (pc := 66) d_Host_writeBlock_66 rfl ?_
    refine xk_getRo (pc := 67) d_Host_writeBlock_67 fl_Host_15 (by first | rfl | assumption) rfl (by omega) (by omega) (hS _ _ _ rfl (by omega)) ?_
    refine xk_iload_n (pc := 70) d_Host_writeBlock_70 rfl ?_
    refine xk_aload_n (pc := 71) d_Host_writeBlock_71 rfl ?_
    refine xk_getRo (pc := 72) d_Host_writeBlock_72 fl_Host_15 (by first | rfl | assumption) rfl (by omega) (by omega) (hS _ _ _ rfl (by omega)) ?_
    refine xk_iload_n (pc := 75) d_Host_writeBlock_75 rfl ?_
    refine xk_ialoado (pc := 76) d_Host_writeBlock_76 (by first | rfl | assumption) (by omega) (by omega) rfl (by omega) (by decide) ((xk_fn_a (by decide)).trans (hR1.2.1 f hf)) ?_
    refine xk_iload (pc := 77) d_Host_writeBlock_77 rfl ?_
    refine xk_mmax (pc := 79) d_Host_writeBlock_79 (xk_in (List.mem_of_getElem? (i := 385) (by decide +kernel)) rfl) (xk_in (List.mem_of_getElem? (i := 386) (by decide +kernel)) rfl) (xk_in (List.mem_of_getElem? (i := 44) (by decide +kernel)) rfl) (xk_in (List.mem_of_getElem? (i := 387) (by decide +kernel)) rfl) (Nat.le_of_ble_eq_true rfl) (Nat.le_of_ble_eq_true rfl) (Nat.le_of_ble_eq_true rfl) (Nat.le_of_ble_eq_true rfl) ?_
    have hhl' : (xs_op h 1 f b).1.2.1 f ≤ 32 := hhl
    rw [xs_maxN (by omega) (by omega)]
    refine xk_iastore (pc := 82) d_Host_writeBlock_82 (by first | rfl | assumption) (by omega) (by omega) rfl (by omega) (by decide) ?_
    refine xk_iconst (pc := 83) (v := nI 1) d_Host_writeBlock_83 (by decide) ?_
    refine xk_zret (pc := 84) rfl d_Host_writeBlock_84 rfl rfl (Nat.le_of_ble_eq_true rfl) (Nat.le_of_ble_eq_true rfl) ?_
    refine h1 z _ (xr_H_wr hR1 hf hb hln (g := g) (g' := m1 d) (fun k hk => by rw [hm1 d (by omega) (by omega)]; exact hg k hk)) (fun a e2 e4 e5 e6 => by funext j; rw [xk_up_a e4, xk_fn_a e5, hm1 a e2 e6])
  · refine xk_if_ne (pc := 7) (tgt := 12) d_Host_writeBlock_7 rfl (fun h => absurd (by decide) h) (fun _ => ?_)
    refine xk_iconst (pc := 10) (v := nI 0) d_Host_writeBlock_10 (by decide) ?_
    refine xk_zret (pc := 11) rfl d_Host_writeBlock_11 rfl rfl (Nat.le_of_ble_eq_true rfl) (Nat.le_of_ble_eq_true rfl) ?_
    exact h0 z m1 hR1 hm1
