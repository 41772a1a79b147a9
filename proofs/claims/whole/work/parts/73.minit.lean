set_option maxRecDepth 20000 in
set_option maxHeartbeats 4000000 in
theorem l_mreb1 {E : xk_E} {n : Nat} {r : xk_P} {Q : xk_Q} {m : xk_M} (hn : 74 ≤ n) (hS : xr_S r n) (hK : ∀ M, (∀ j, j < 7 → M 62 j = xs_bi (decide (j = 1))) → (∀ j, j < 7 → M 63 j = nI 0) → (∀ a, a ≠ 62 → a ≠ 63 → M a = m a) → xk_W E m_M_reborn 37 [some (.inr (some 53)), some (.inl (nI 7))] [] n M r 0 0 Q) : ∀ (k : Nat) (i : Nat) (M : xk_M), 7 - i < k → i ≤ 7 → (∀ j, j < i → M 62 j = xs_bi (decide (j = 1))) → (∀ j, j < i → M 63 j = nI 0) → (∀ a, a ≠ 62 → a ≠ 63 → M a = m a) → xk_W E m_M_reborn 2 [some (.inr (some 53)), some (.inl (nI i))] [] n M r 0 0 Q := by
  intro k
  induction k with
  | zero => intro i M h; exact absurd h (Nat.not_lt_zero _)
  | succ k ih =>
    intro i M hk hi h1 h2 h3
    refine xk_iload_n (pc := 2) d_M_reborn_2 rfl ?_
    refine xk_bipush (pc := 3) (v := nI 7) d_M_reborn_3 (by decide) ?_
    first | refine xk_icmp_geN (pc := 5) (tgt := 37) d_M_reborn_5 rfl (by omega) (by omega) (fun c_5 => ?_) (fun c_5 => ?_) | refine xk_icmp_ge (pc := 5) (tgt := 37) d_M_reborn_5 rfl (fun c_5 => ?_) (fun c_5 => ?_)
    · have e : i = 7 := by omega
      subst e
      exact hK M h1 h2 h3
    · refine xk_aload_n (pc := 8) d_M_reborn_8 rfl ?_
      refine xk_getRo (pc := 9) d_M_reborn_9 fl_M_35 (by first | rfl | assumption) rfl (by omega) (by omega) (hS _ _ _ rfl (by omega)) ?_
      refine xk_iload_n (pc := 12) d_M_reborn_12 rfl ?_
      refine xk_iload_n (pc := 13) d_M_reborn_13 rfl ?_
      refine xk_iconst (pc := 14) (v := nI 1) d_M_reborn_14 (by decide) ?_
      first | refine xk_icmp_neN (pc := 15) (tgt := 22) d_M_reborn_15 rfl (by omega) (by omega) (fun c_15 => ?_) (fun c_15 => ?_) | refine xk_icmp_ne (pc := 15) (tgt := 22) d_M_reborn_15 rfl (fun c_15 => ?_) (fun c_15 => ?_)
      · have hv : nI 0 = xs_bi (decide (i = 1)) := by rw [decide_eq_false c_15]; rfl
        refine xk_iconst (pc := 22) (v := nI 0) d_M_reborn_22 (by decide) ?_
        refine xk_bastore (pc := 23) d_M_reborn_23 (by first | rfl | assumption) (by omega) (by omega) rfl (by omega) (by decide) rfl ?_
        refine xk_aload_n (pc := 24) d_M_reborn_24 rfl ?_
        refine xk_getRo (pc := 25) d_M_reborn_25 fl_M_38 (by first | rfl | assumption) rfl (by omega) (by omega) (hS _ _ _ rfl (by omega)) ?_
        refine xk_iload_n (pc := 28) d_M_reborn_28 rfl ?_
        refine xk_iconst (pc := 29) (v := nI 0) d_M_reborn_29 (by decide) ?_
        refine xk_bastore (pc := 30) d_M_reborn_30 (by first | rfl | assumption) (by omega) (by omega) rfl (by omega) (by decide) rfl ?_
        refine xk_iincN (pc := 31) (d := 1) d_M_reborn_31 rfl ?_
        refine xk_goto (pc := 34) (tgt := 2) d_M_reborn_34 rfl ?_
        exact ih (i + 1) _ (by omega) (by omega) (fun j hj => by
          rw [xk_up_a (by decide)]
          by_cases w : j = i
          · subst w; rw [xk_up_s]; exact hv
          · rw [xk_up_k w]; exact h1 j (by omega)) (fun j hj => by
          by_cases w : j = i
          · subst w; rw [xk_up_s]
          · rw [xk_up_k w, xk_up_a (by decide)]; exact h2 j (by omega)) (fun a a1 a2 => by rw [xk_up_r a2, xk_up_r a1]; exact h3 a a1 a2)
      · have hv : nI 1 = xs_bi (decide (i = 1)) := by rw [decide_eq_true c_15]; rfl
        refine xk_iconst (pc := 18) (v := nI 1) d_M_reborn_18 (by decide) ?_
        refine xk_goto (pc := 19) (tgt := 23) d_M_reborn_19 rfl ?_
        refine xk_bastore (pc := 23) d_M_reborn_23 (by first | rfl | assumption) (by omega) (by omega) rfl (by omega) (by decide) rfl ?_
        refine xk_aload_n (pc := 24) d_M_reborn_24 rfl ?_
        refine xk_getRo (pc := 25) d_M_reborn_25 fl_M_38 (by first | rfl | assumption) rfl (by omega) (by omega) (hS _ _ _ rfl (by omega)) ?_
        refine xk_iload_n (pc := 28) d_M_reborn_28 rfl ?_
        refine xk_iconst (pc := 29) (v := nI 0) d_M_reborn_29 (by decide) ?_
        refine xk_bastore (pc := 30) d_M_reborn_30 (by first | rfl | assumption) (by omega) (by omega) rfl (by omega) (by decide) rfl ?_
        refine xk_iincN (pc := 31) (d := 1) d_M_reborn_31 rfl ?_
        refine xk_goto (pc := 34) (tgt := 2) d_M_reborn_34 rfl ?_
        exact ih (i + 1) _ (by omega) (by omega) (fun j hj => by
          rw [xk_up_a (by decide)]
          by_cases w : j = i
          · subst w; rw [xk_up_s]; exact hv
          · rw [xk_up_k w]; exact h1 j (by omega)) (fun j hj => by
          by_cases w : j = i
          · subst w; rw [xk_up_s]
          · rw [xk_up_k w, xk_up_a (by decide)]; exact h2 j (by omega)) (fun a a1 a2 => by rw [xk_up_r a2, xk_up_r a1]; exact h3 a a1 a2)

set_option maxRecDepth 20000 in
set_option maxHeartbeats 4000000 in
theorem l_mreb2 {E : xk_E} {n : Nat} {r : xk_P} {Q : xk_Q} {m : xk_M} (hn : 74 ≤ n) (hS : xr_S r n) (hK : xk_W E m_M_reborn 58 [some (.inr (some 53)), some (.inl (nI 42))] [] n (xk_fill m 66 0 42 (-1)) r 0 0 Q) : ∀ (k : Nat) (i : Nat), 42 - i < k → i ≤ 42 → xk_W E m_M_reborn 39 [some (.inr (some 53)), some (.inl (nI i))] [] n (xk_fill m 66 0 i (-1)) r 0 0 Q := by
  intro k
  induction k with
  | zero => intro i h; exact absurd h (Nat.not_lt_zero _)
  | succ k ih =>
    intro i hk hi
    refine xk_iload_n (pc := 39) d_M_reborn_39 rfl ?_
    refine xk_bipush (pc := 40) (v := nI 42) d_M_reborn_40 (by decide) ?_
    first | refine xk_icmp_geN (pc := 42) (tgt := 58) d_M_reborn_42 rfl (by omega) (by omega) (fun c_42 => ?_) (fun c_42 => ?_) | refine xk_icmp_ge (pc := 42) (tgt := 58) d_M_reborn_42 rfl (fun c_42 => ?_) (fun c_42 => ?_)
    · have e : i = 42 := by omega
      subst e
      exact hK
    · refine xk_aload_n (pc := 45) d_M_reborn_45 rfl ?_
      refine xk_getRo (pc := 46) d_M_reborn_46 fl_M_47 (by first | rfl | assumption) rfl (by omega) (by omega) (hS _ _ _ rfl (by omega)) ?_
      refine xk_iload_n (pc := 49) d_M_reborn_49 rfl ?_
      refine xk_iconst (pc := 50) (v := (-1)) d_M_reborn_50 (by decide) ?_
      refine xk_iastore (pc := 51) d_M_reborn_51 (by first | rfl | assumption) (by omega) (by omega) rfl (by omega) (by decide) ?_
      rw [xk_fill_s (by omega)]
      refine xk_iincN (pc := 52) (d := 1) d_M_reborn_52 rfl ?_
      refine xk_goto (pc := 55) (tgt := 39) d_M_reborn_55 rfl ?_
      exact ih (i + 1) (by omega) (by omega)

set_option maxRecDepth 20000 in
set_option maxHeartbeats 4000000 in
theorem c_M_reborn {E : xk_E} {n : Nat} {m : xk_M} {r : xk_P} {Q : xk_Q} (hn : 74 ≤ n) (hS : xr_S r n) (hQ : ∀ m', (∀ j, j < 7 → m' 62 j = xs_bi (decide (j = 1))) → (∀ j, j < 7 → m' 63 j = nI 0) → (∀ k, k < 42 → m' 66 k = -1) → m' 53 8 = nI 0 → m' 53 20 = m 53 20 → m' 53 21 = m 53 21 → (∀ a, a ≠ 53 → a ≠ 62 → a ≠ 63 → a ≠ 64 → a ≠ 66 → m' a = m a) → Q none n m' r) : xk_W E m_M_reborn 0 (xk_ent m_M_reborn [.inr (some 53)]) [] n m r 0 0 Q := by
  show xk_W E m_M_reborn 0 [some (.inr (some 53)), none] [] n m r 0 0 Q
  refine xk_iconst (pc := 0) (v := nI 0) d_M_reborn_0 (by decide) ?_
  refine xk_istore_n (pc := 1) d_M_reborn_1 (by decide) ?_
  refine l_mreb1 (m := m) hn hS (fun M h1 h2 h3 => ?_) 8 0 m (by omega) (by omega) (fun j hj => by omega) (fun j hj => by omega) (fun _ _ _ => rfl)
  refine xk_iconst (pc := 37) (v := nI 0) d_M_reborn_37 (by decide) ?_
  refine xk_istore_n (pc := 38) d_M_reborn_38 (by decide) ?_
  suffices HH : xk_W E m_M_reborn 58 [some (.inr (some 53)), some (.inl (nI 42))] [] n (xk_fill M 66 0 42 (-1)) r 0 0 Q by
    have K := l_mreb2 (E := E) (Q := Q) (m := M) hn hS HH 43 0 (by omega) (by omega)
    rw [xk_fill_0] at K
    exact K
  refine xk_aload_n (pc := 58) d_M_reborn_58 rfl ?_
  refine xk_getRo (pc := 59) d_M_reborn_59 fl_M_41 (by first | rfl | assumption) rfl (by omega) (by omega) (hS _ _ _ rfl (by omega)) ?_
  refine xk_iconst (pc := 62) (v := nI 1) d_M_reborn_62 (by decide) ?_
  refine xk_iconst (pc := 63) (v := nI 0) d_M_reborn_63 (by decide) ?_
  refine xk_iastore (pc := 64) d_M_reborn_64 (by first | rfl | assumption) (by omega) (by omega) rfl (by omega) (by decide) ?_
  refine xk_aload_n (pc := 65) d_M_reborn_65 rfl ?_
  refine xk_iconst (pc := 66) (v := nI 0) d_M_reborn_66 (by decide) ?_
  refine xk_putI (pc := 67) d_M_reborn_67 fl_M_74 (by first | rfl | assumption) rfl (fun q hq h => by cases hq; first | exact absurd h (by decide) | exact ⟨rfl, rfl, rfl⟩) ⟨rfl, rfl⟩ (by omega) (by omega) ?_
  refine xk_vret (pc := 70) rfl d_M_reborn_70 rfl (Nat.le_of_ble_eq_true rfl) (Nat.le_of_ble_eq_true rfl) ?_
  refine hQ _ (fun j hj => ?_) (fun j hj => ?_) (fun k hk => ?_) xk_up_s ?_ ?_ (fun a a1 a2 a3 a4 a5 => ?_)
  · rw [xk_up_a (by decide), xk_up_a (by decide), xk_fill_a (by decide)]; exact h1 j hj
  · rw [xk_up_a (by decide), xk_up_a (by decide), xk_fill_a (by decide)]; exact h2 j hj
  · rw [xk_up_a (by decide), xk_up_a (by decide)]
    unfold xk_fill
    rw [if_pos (by omega)]
  · rw [xk_up_k (by decide), xk_up_a (by decide), xk_fill_a (by decide), h3 53 (by decide) (by decide)]
  · rw [xk_up_k (by decide), xk_up_a (by decide), xk_fill_a (by decide), h3 53 (by decide) (by decide)]
  · rw [xk_up_r a1, xk_up_r a4, xk_fill_a a5, h3 a a2 a3]

theorem xm_T1 (j : Nat) : xs_bi (decide (j = 1)) = xs_bi (decide ((if j = 1 then 1 else 0) ≠ 0)) := by
  by_cases w : j = 1
  · subst w; rfl
  · simp [w]
theorem xm_T2 (j : Nat) : nI 0 = xs_bi (decide ((if j = 1 then 1 else 0) = 2)) := by
  by_cases w : j = 1
  · subst w; rfl
  · simp [w]; rfl

set_option maxRecDepth 20000 in
set_option maxHeartbeats 4000000 in
theorem l_mcrash {E : xk_E} {n : Nat} {r : xk_P} {Q : xk_Q} {m : xk_M} (hn : 74 ≤ n) (hS : xr_S r n) (hQ : Q (some (.inl (nI 0))) n (xk_fn m 57 0 8 (fun f => m 55 f)) r) : ∀ (k : Nat) (i : Nat), 8 - i < k → i ≤ 8 → xk_W E m_M_crash 6 [some (.inr (some 53)), some (.inl (nI i))] [] n (xk_fn m 57 0 i (fun f => m 55 f)) r 0 0 Q := by
  intro k
  induction k with
  | zero => intro i h; exact absurd h (Nat.not_lt_zero _)
  | succ k ih =>
    intro i hk hi
    refine xk_iload_n (pc := 6) d_M_crash_6 rfl ?_
    refine xk_bipush (pc := 7) (v := nI 8) d_M_crash_7 (by decide) ?_
    first | refine xk_icmp_geN (pc := 9) (tgt := 30) d_M_crash_9 rfl (by omega) (by omega) (fun c_9 => ?_) (fun c_9 => ?_) | refine xk_icmp_ge (pc := 9) (tgt := 30) d_M_crash_9 rfl (fun c_9 => ?_) (fun c_9 => ?_)
    · have e : i = 8 := by omega
      subst e
      refine xk_iconst (pc := 30) (v := nI 0) d_M_crash_30 (by decide) ?_
      refine xk_iret (pc := 31) rfl d_M_crash_31 rfl (Nat.le_of_ble_eq_true rfl) (Nat.le_of_ble_eq_true rfl) ?_
      exact hQ
    · refine xk_aload_n (pc := 12) d_M_crash_12 rfl ?_
      refine xk_getRo (pc := 13) d_M_crash_13 fl_M_20 (by first | rfl | assumption) rfl (by omega) (by omega) (hS _ _ _ rfl (by omega)) ?_
      refine xk_iload_n (pc := 16) d_M_crash_16 rfl ?_
      refine xk_aload_n (pc := 17) d_M_crash_17 rfl ?_
      refine xk_getRo (pc := 18) d_M_crash_18 fl_M_13 (by first | rfl | assumption) rfl (by omega) (by omega) (hS _ _ _ rfl (by omega)) ?_
      refine xk_iload_n (pc := 21) d_M_crash_21 rfl ?_
      refine xk_ialoado (pc := 22) d_M_crash_22 (by first | rfl | assumption) (by omega) (by omega) rfl (by omega) (by decide) (xk_fn_a (by decide)) ?_
      refine xk_iastore (pc := 23) d_M_crash_23 (by first | rfl | assumption) (by omega) (by omega) rfl (by omega) (by decide) ?_
      rw [xk_fn_s (g := fun f => m 55 f) (by omega)]
      refine xk_iincN (pc := 24) (d := 1) d_M_crash_24 rfl ?_
      refine xk_goto (pc := 27) (tgt := 6) d_M_crash_27 rfl ?_
      exact ih (i + 1) (by omega) (by omega)

set_option maxRecDepth 20000 in
set_option maxHeartbeats 4000000 in
theorem c_M_crash {E : xk_E} {n : Nat} {m : xk_M} {r : xk_P} {Q : xk_Q} {s : xs_S} (hn : 74 ≤ n) (hS : xr_S r n) (hA : xm_A s m) (hok : xs_ok s) (hsm : s.1.1.2.2.2.2.1 + 4 < 2 ^ 20) (hQ : ∀ m', xm_A (xs_crash s).2 m' → xm_fr m m' → Q (some (.inl (xs_crash s).1)) n m' r) : xk_W E m_M_crash 0 (xk_ent m_M_crash [.inr (some 53)]) [] n m r 0 0 Q := by
  show xk_W E m_M_crash 0 [some (.inr (some 53)), none] [] n m r 0 0 Q
  obtain ⟨hF, hP, hO, hT⟩ := id hA
  obtain ⟨okF, okP, okO, okT⟩ := id hok
  have hb := okO.1
  have h6 := xm_h6 okO okT
  have hkw := xm_kw okO
  refine xk_aload_n (pc := 0) d_M_crash_0 rfl ?_
  refine xk_cV0 (pc := 1) d_M_crash_1 ml_M_71 cz_M_reborn ⟨rfl, rfl⟩ rfl (by first | rfl | assumption) (by omega) (by omega) (Nat.le_of_ble_eq_true rfl) ⟨(Nat.le_of_ble_eq_true rfl), (Nat.le_of_ble_eq_true rfl)⟩ ?_
  refine c_M_reborn hn hS (fun m1 q1 q2 q3 q4 q5 q6 q7 => ?_)
  refine xk_iconst (pc := 4) (v := nI 0) d_M_crash_4 (by decide) ?_
  refine xk_istore_n (pc := 5) d_M_crash_5 (by decide) ?_
  have K := l_mcrash (E := E) (Q := Q) (m := m1) hn hS ?_ 9 0 (by omega) (by omega)
  · rw [xk_fn_0] at K
    exact K
  · have fr : ∀ a, a ≠ 53 → a ≠ 57 → a ≠ 62 → a ≠ 63 → a ≠ 64 → a ≠ 66 → (xk_fn m1 57 0 8 (fun f => m1 55 f)) a = m a := fun a a1 a2 a3 a4 a5 a6 => by rw [xk_fn_r a2]; exact q7 a a1 a3 a4 a5 a6
    have e : xs_crash s = (nI 0, ((s.1.1, s.1.1.2.1, []), s.2.1, (fun _ => none, s.2.2.1.2), (fun q => if q = 1 then 1 else 0), s.2.2.2.2)) := rfl
    refine xqm_t (m := m) e ⟨⟨xm_H_kept hF.1 (fr _ (by decide) (by decide) (by decide) (by decide) (by decide) (by decide)) (fr _ (by decide) (by decide) (by decide) (by decide) (by decide) (by decide)) (fr _ (by decide) (by decide) (by decide) (by decide) (by decide) (by decide)) (fr _ (by decide) (by decide) (by decide) (by decide) (by decide) (by decide)) ?_ ?_, fun f hf => ?_, ?_, Nat.zero_le _, fun i x hx => ?_⟩, xm_P_kept hP (fr _ (by decide) (by decide) (by decide) (by decide) (by decide) (by decide)), xm_O_66 hO rfl (fun k hk => ?_) (fun a a1 a2 => fr a (by omega) (by omega) (by omega) (by omega) (by omega) (by omega)), ⟨fun j hj => ?_, fun j hj hz => ?_, fun j hj hj7 hz => ?_, fun j hj hz => ?_⟩⟩ (fun a ha => fr a (by omega) (by omega) (by omega) (by omega) (by omega) (by omega)) hQ
    · rw [xk_fn_a (by decide)]; exact q6
    · rw [xk_fn_a (by decide)]; exact q5
    · have := xk_fn_p (m := m1) (a := 57) (p := 0) (g := fun f => m1 55 f) hf
      rw [Nat.zero_add] at this
      rw [this]
      show m1 55 f = _
      rw [q7 55 (by decide) (by decide) (by decide) (by decide) (by decide)]
      exact hF.1.2.1 f hf
    · rw [xk_fn_a (by decide)]; exact q4
    · simp at hx
    · rw [xk_fn_a (by decide)]; exact q3 k hk
    · rw [xk_fn_a (by decide), q1 j hj]
      exact xm_T1 j
    · rw [xk_fn_a (by decide), q2 j hj]
      exact xm_T2 j
    · have hz2 : (if j = 1 then 1 else 0) ≠ 0 := hz
      rw [if_neg (by omega)] at hz2
      exact absurd rfl hz2
    · have hz2 : (if j = 1 then 1 else 0) = 2 := hz
      by_cases w : j = 1
      · rw [if_pos w] at hz2; cases hz2
      · rw [if_neg w] at hz2; cases hz2

def xz_K (r : xk_P) : xk_P := (xk_up (xk_up (xk_up (xk_up (xk_up (xk_up (xk_up (xk_up (xk_up (xk_up (xk_up (xk_up (xk_up (xk_up (xk_up (xk_up (xk_up (xk_up (xk_up (xk_up r 53 0 (some 54)) 53 1 (some 55)) 53 2 (some 56)) 53 3 (some 57)) 53 4 (some 58)) 53 5 (some 59)) 53 6 (some 60)) 53 7 (some 61)) 53 9 (some 62)) 53 10 (some 63)) 53 11 (some 64)) 53 12 (some 65)) 53 13 (some 66)) 53 14 (some 67)) 53 15 (some 68)) 53 16 (some 69)) 53 17 (some 70)) 53 18 (some 71)) 53 19 (some 72)) 53 22 (some 73))
theorem xz_K_a {r : xk_P} {a : Nat} (h : a ≠ 53) : xz_K r a = r a := by
  unfold xz_K
  rw [xk_up_r h, xk_up_r h, xk_up_r h, xk_up_r h, xk_up_r h, xk_up_r h, xk_up_r h, xk_up_r h, xk_up_r h, xk_up_r h, xk_up_r h, xk_up_r h, xk_up_r h, xk_up_r h, xk_up_r h, xk_up_r h, xk_up_r h, xk_up_r h, xk_up_r h, xk_up_r h]
theorem xz_K_53 {r : xk_P} : ∀ k v, k < 23 → xr_st 53 k = some v → xz_K r 53 k = some v := fun k v hk hv => by
  match k, hk, hv with
  | 0, _, hv => rw [← hv]; rfl
  | 1, _, hv => rw [← hv]; rfl
  | 2, _, hv => rw [← hv]; rfl
  | 3, _, hv => rw [← hv]; rfl
  | 4, _, hv => rw [← hv]; rfl
  | 5, _, hv => rw [← hv]; rfl
  | 6, _, hv => rw [← hv]; rfl
  | 7, _, hv => rw [← hv]; rfl
  | 8, _, hv => cases hv
  | 9, _, hv => rw [← hv]; rfl
  | 10, _, hv => rw [← hv]; rfl
  | 11, _, hv => rw [← hv]; rfl
  | 12, _, hv => rw [← hv]; rfl
  | 13, _, hv => rw [← hv]; rfl
  | 14, _, hv => rw [← hv]; rfl
  | 15, _, hv => rw [← hv]; rfl
  | 16, _, hv => rw [← hv]; rfl
  | 17, _, hv => rw [← hv]; rfl
  | 18, _, hv => rw [← hv]; rfl
  | 19, _, hv => rw [← hv]; rfl
  | 20, _, hv => cases hv
  | 21, _, hv => cases hv
  | 22, _, hv => rw [← hv]; rfl
  | k + 23, hk, _ => omega
theorem xr_st_53 {k : Nat} (h : 23 ≤ k) : xr_st 53 k = none := by
  show (bif Nat.blt k 8 then some (54 + k) else bif Nat.blt k 9 then none else bif Nat.blt k 20 then some (53 + k) else bif Nat.beq k 22 then some 73 else none) = none
  rw [xr_blt (by omega : 8 ≤ k), xr_blt (by omega : 9 ≤ k), xr_blt (by omega : 20 ≤ k), xr_beq (by omega : k ≠ 22)]
  rfl
theorem xr_st_mid {a k : Nat} (h : 54 ≤ a) (h2 : a < 74) : xr_st a k = none := by
  have h3 : Nat.ble 74 a = false := by
    cases hb : Nat.ble 74 a with
    | false => rfl
    | true => have := Nat.le_of_ble_eq_true hb; omega
  unfold xr_st
  rw [xr_beq (by omega : a ≠ 1), xr_beq (by omega : a ≠ 2), xr_beq (by omega : a ≠ 7), xr_beq (by omega : a ≠ 21), xr_beq (by omega : a ≠ 38), xr_beq (by omega : a ≠ 53), xr_blt (by omega : 20 ≤ a), xr_blt (by omega : 53 ≤ a), h3]
  simp
theorem xz_S {r : xk_P} (h : xr_S r 53) : xr_S (xz_K r) 74 := fun a k v hv ha => by
  rcases Nat.lt_trichotomy a 53 with w | w | w
  · rw [xz_K_a (by omega)]; exact h a k v hv w
  · subst w
    rcases Nat.lt_or_ge k 23 with q | q
    · exact xz_K_53 k v q hv
    · rw [xr_st_53 q] at hv; cases hv
  · rw [xr_st_mid (by omega) ha] at hv; cases hv

set_option maxRecDepth 20000 in
set_option maxHeartbeats 4000000 in
theorem l_minit {E : xk_E} {Q : xk_Q} {m : xk_M} {r : xk_P} (hS : xr_S r 74) (hK : xk_W E m_M_init 186 [some (.inr (some 53)), some (.inl (nI 8))] [] 74 (xk_fill m 58 0 8 (nI 2)) r 20 578 Q) : ∀ (k : Nat) (i : Nat), 8 - i < k → i ≤ 8 → xk_W E m_M_init 167 [some (.inr (some 53)), some (.inl (nI i))] [] 74 (xk_fill m 58 0 i (nI 2)) r 20 578 Q := by
  intro k
  induction k with
  | zero => intro i h; exact absurd h (Nat.not_lt_zero _)
  | succ k ih =>
    intro i hk hi
    refine xk_iload_n (pc := 167) d_M_init_167 rfl ?_
    refine xk_bipush (pc := 168) (v := nI 8) d_M_init_168 (by decide) ?_
    first | refine xk_icmp_geN (pc := 170) (tgt := 186) d_M_init_170 rfl (by omega) (by omega) (fun c_170 => ?_) (fun c_170 => ?_) | refine xk_icmp_ge (pc := 170) (tgt := 186) d_M_init_170 rfl (fun c_170 => ?_) (fun c_170 => ?_)
    · have e : i = 8 := by omega
      subst e
      exact hK
    · refine xk_aload_n (pc := 173) d_M_init_173 rfl ?_
      refine xk_getRo (pc := 174) d_M_init_174 fl_M_23 (by first | rfl | assumption) rfl (by omega) (by omega) (hS _ _ _ rfl (by omega)) ?_
      refine xk_iload_n (pc := 177) d_M_init_177 rfl ?_
      refine xk_iconst (pc := 178) (v := nI 2) d_M_init_178 (by decide) ?_
      refine xk_iastore (pc := 179) d_M_init_179 (by first | rfl | assumption) (by omega) (by omega) rfl (by omega) (by decide) ?_
      rw [xk_fill_s (by omega)]
      refine xk_iincN (pc := 180) (d := 1) d_M_init_180 rfl ?_
      refine xk_goto (pc := 183) (tgt := 167) d_M_init_183 rfl ?_
      exact ih (i + 1) (by omega) (by omega)

set_option maxRecDepth 20000 in
set_option maxHeartbeats 4000000 in
theorem c_M_init {E : xk_E} {m : xk_M} {r : xk_P} {Q : xk_Q} (hS : xr_S r 53) (hQ : ∀ m', (∀ j, j < 7 → m' 62 j = xs_bi (decide (j = 1))) → (∀ j, j < 7 → m' 63 j = nI 0) → (∀ k, k < 42 → m' 66 k = -1) → m' 53 8 = nI 0 → m' 53 20 = m 53 20 → m' 53 21 = m 53 21 → (∀ a, a ≠ 53 → a ≠ 62 → a ≠ 63 → a ≠ 64 → a ≠ 66 → m' a = xk_fill m 58 0 8 (nI 2) a) → Q none 74 m' (xz_K r)) : xk_W E m_M_init 0 (xk_ent m_M_init [.inr (some 53)]) [] 54 m r 0 0 Q := by
  show xk_W E m_M_init 0 [some (.inr (some 53)), none] [] 54 m r 0 0 Q
  refine xk_aload_n (pc := 0) d_M_init_0 rfl ?_
  refine xk_objInit (pc := 1) d_M_init_1 (xk_in (List.mem_of_getElem? (i := 571) (by decide +kernel)) rfl) (xk_in (List.mem_of_getElem? (i := 52) (by decide +kernel)) rfl) (xk_in (List.mem_of_getElem? (i := 53) (by decide +kernel)) rfl) (Nat.le_of_ble_eq_true rfl) (Nat.le_of_ble_eq_true rfl) ?_
  refine xk_aload_n (pc := 4) d_M_init_4 rfl ?_
  refine xk_bipush (pc := 5) (v := nI 8) d_M_init_5 (by decide) ?_
  refine xk_newarr (pc := 7) (t := 1) d_M_init_7 (by first | rfl | assumption) (by decide) rfl (xk_in (List.mem_of_getElem? (i := 82) (by decide +kernel)) rfl) rfl (by decide) (Nat.le_of_ble_eq_true rfl) (Nat.le_of_ble_eq_true rfl) (fun hz_7 => ?_)
  refine xk_putR (pc := 9) d_M_init_9 fl_M_7 (by first | rfl | assumption) rfl (fun q hq h => by cases hq; first | exact absurd h (by decide) | exact ⟨rfl, rfl, rfl⟩) ⟨rfl, rfl⟩ (by omega) (by omega) ?_
  refine xk_aload_n (pc := 12) d_M_init_12 rfl ?_
  refine xk_bipush (pc := 13) (v := nI 8) d_M_init_13 (by decide) ?_
  refine xk_newarr (pc := 15) (t := 0) d_M_init_15 (by first | rfl | assumption) (by decide) rfl (xk_in (List.mem_of_getElem? (i := 83) (by decide +kernel)) rfl) rfl (by decide) (Nat.le_of_ble_eq_true rfl) (Nat.le_of_ble_eq_true rfl) (fun hz_15 => ?_)
  refine xk_putR (pc := 17) d_M_init_17 fl_M_13 (by first | rfl | assumption) rfl (fun q hq h => by cases hq; first | exact absurd h (by decide) | exact ⟨rfl, rfl, rfl⟩) ⟨rfl, rfl⟩ (by omega) (by omega) ?_
  refine xk_aload_n (pc := 20) d_M_init_20 rfl ?_
  refine xk_sipush (pc := 21) (v := nI 256) d_M_init_21 (by decide) ?_
  refine xk_newarr (pc := 24) (t := 0) d_M_init_24 (by first | rfl | assumption) (by decide) rfl (xk_in (List.mem_of_getElem? (i := 83) (by decide +kernel)) rfl) rfl (by decide) (Nat.le_of_ble_eq_true rfl) (Nat.le_of_ble_eq_true rfl) (fun hz_24 => ?_)
  refine xk_putR (pc := 26) d_M_init_26 fl_M_17 (by first | rfl | assumption) rfl (fun q hq h => by cases hq; first | exact absurd h (by decide) | exact ⟨rfl, rfl, rfl⟩) ⟨rfl, rfl⟩ (by omega) (by omega) ?_
  refine xk_aload_n (pc := 29) d_M_init_29 rfl ?_
  refine xk_bipush (pc := 30) (v := nI 8) d_M_init_30 (by decide) ?_
  refine xk_newarr (pc := 32) (t := 0) d_M_init_32 (by first | rfl | assumption) (by decide) rfl (xk_in (List.mem_of_getElem? (i := 83) (by decide +kernel)) rfl) rfl (by decide) (Nat.le_of_ble_eq_true rfl) (Nat.le_of_ble_eq_true rfl) (fun hz_32 => ?_)
  refine xk_putR (pc := 34) d_M_init_34 fl_M_20 (by first | rfl | assumption) rfl (fun q hq h => by cases hq; first | exact absurd h (by decide) | exact ⟨rfl, rfl, rfl⟩) ⟨rfl, rfl⟩ (by omega) (by omega) ?_
  refine xk_aload_n (pc := 37) d_M_init_37 rfl ?_
  refine xk_bipush (pc := 38) (v := nI 8) d_M_init_38 (by decide) ?_
  refine xk_newarr (pc := 40) (t := 0) d_M_init_40 (by first | rfl | assumption) (by decide) rfl (xk_in (List.mem_of_getElem? (i := 83) (by decide +kernel)) rfl) rfl (by decide) (Nat.le_of_ble_eq_true rfl) (Nat.le_of_ble_eq_true rfl) (fun hz_40 => ?_)
  refine xk_putR (pc := 42) d_M_init_42 fl_M_23 (by first | rfl | assumption) rfl (fun q hq h => by cases hq; first | exact absurd h (by decide) | exact ⟨rfl, rfl, rfl⟩) ⟨rfl, rfl⟩ (by omega) (by omega) ?_
  refine xk_aload_n (pc := 45) d_M_init_45 rfl ?_
  refine xk_bipush (pc := 46) (v := nI 6) d_M_init_46 (by decide) ?_
  refine xk_newarr (pc := 48) (t := 0) d_M_init_48 (by first | rfl | assumption) (by decide) rfl (xk_in (List.mem_of_getElem? (i := 83) (by decide +kernel)) rfl) rfl (by decide) (Nat.le_of_ble_eq_true rfl) (Nat.le_of_ble_eq_true rfl) (fun hz_48 => ?_)
  refine xk_putR (pc := 50) d_M_init_50 fl_M_26 (by first | rfl | assumption) rfl (fun q hq h => by cases hq; first | exact absurd h (by decide) | exact ⟨rfl, rfl, rfl⟩) ⟨rfl, rfl⟩ (by omega) (by omega) ?_
  refine xk_aload_n (pc := 53) d_M_init_53 rfl ?_
  refine xk_bipush (pc := 54) (v := nI 6) d_M_init_54 (by decide) ?_
  refine xk_newarr (pc := 56) (t := 1) d_M_init_56 (by first | rfl | assumption) (by decide) rfl (xk_in (List.mem_of_getElem? (i := 82) (by decide +kernel)) rfl) rfl (by decide) (Nat.le_of_ble_eq_true rfl) (Nat.le_of_ble_eq_true rfl) (fun hz_56 => ?_)
  refine xk_putR (pc := 58) d_M_init_58 fl_M_29 (by first | rfl | assumption) rfl (fun q hq h => by cases hq; first | exact absurd h (by decide) | exact ⟨rfl, rfl, rfl⟩) ⟨rfl, rfl⟩ (by omega) (by omega) ?_
  refine xk_aload_n (pc := 61) d_M_init_61 rfl ?_
  refine xk_bipush (pc := 62) (v := nI 48) d_M_init_62 (by decide) ?_
  refine xk_newarr (pc := 64) (t := 0) d_M_init_64 (by first | rfl | assumption) (by decide) rfl (xk_in (List.mem_of_getElem? (i := 83) (by decide +kernel)) rfl) rfl (by decide) (Nat.le_of_ble_eq_true rfl) (Nat.le_of_ble_eq_true rfl) (fun hz_64 => ?_)
  refine xk_putR (pc := 66) d_M_init_66 fl_M_32 (by first | rfl | assumption) rfl (fun q hq h => by cases hq; first | exact absurd h (by decide) | exact ⟨rfl, rfl, rfl⟩) ⟨rfl, rfl⟩ (by omega) (by omega) ?_
  refine xk_aload_n (pc := 69) d_M_init_69 rfl ?_
  refine xk_bipush (pc := 70) (v := nI 7) d_M_init_70 (by decide) ?_
  refine xk_newarr (pc := 72) (t := 1) d_M_init_72 (by first | rfl | assumption) (by decide) rfl (xk_in (List.mem_of_getElem? (i := 82) (by decide +kernel)) rfl) rfl (by decide) (Nat.le_of_ble_eq_true rfl) (Nat.le_of_ble_eq_true rfl) (fun hz_72 => ?_)
  refine xk_putR (pc := 74) d_M_init_74 fl_M_35 (by first | rfl | assumption) rfl (fun q hq h => by cases hq; first | exact absurd h (by decide) | exact ⟨rfl, rfl, rfl⟩) ⟨rfl, rfl⟩ (by omega) (by omega) ?_
  refine xk_aload_n (pc := 77) d_M_init_77 rfl ?_
  refine xk_bipush (pc := 78) (v := nI 7) d_M_init_78 (by decide) ?_
  refine xk_newarr (pc := 80) (t := 1) d_M_init_80 (by first | rfl | assumption) (by decide) rfl (xk_in (List.mem_of_getElem? (i := 82) (by decide +kernel)) rfl) rfl (by decide) (Nat.le_of_ble_eq_true rfl) (Nat.le_of_ble_eq_true rfl) (fun hz_80 => ?_)
  refine xk_putR (pc := 82) d_M_init_82 fl_M_38 (by first | rfl | assumption) rfl (fun q hq h => by cases hq; first | exact absurd h (by decide) | exact ⟨rfl, rfl, rfl⟩) ⟨rfl, rfl⟩ (by omega) (by omega) ?_
  refine xk_aload_n (pc := 85) d_M_init_85 rfl ?_
  refine xk_bipush (pc := 86) (v := nI 7) d_M_init_86 (by decide) ?_
  refine xk_newarr (pc := 88) (t := 0) d_M_init_88 (by first | rfl | assumption) (by decide) rfl (xk_in (List.mem_of_getElem? (i := 83) (by decide +kernel)) rfl) rfl (by decide) (Nat.le_of_ble_eq_true rfl) (Nat.le_of_ble_eq_true rfl) (fun hz_88 => ?_)
  refine xk_putR (pc := 90) d_M_init_90 fl_M_41 (by first | rfl | assumption) rfl (fun q hq h => by cases hq; first | exact absurd h (by decide) | exact ⟨rfl, rfl, rfl⟩) ⟨rfl, rfl⟩ (by omega) (by omega) ?_
  refine xk_aload_n (pc := 93) d_M_init_93 rfl ?_
  refine xk_bipush (pc := 94) (v := nI 7) d_M_init_94 (by decide) ?_
  refine xk_newarr (pc := 96) (t := 0) d_M_init_96 (by first | rfl | assumption) (by decide) rfl (xk_in (List.mem_of_getElem? (i := 83) (by decide +kernel)) rfl) rfl (by decide) (Nat.le_of_ble_eq_true rfl) (Nat.le_of_ble_eq_true rfl) (fun hz_96 => ?_)
  refine xk_putR (pc := 98) d_M_init_98 fl_M_44 (by first | rfl | assumption) rfl (fun q hq h => by cases hq; first | exact absurd h (by decide) | exact ⟨rfl, rfl, rfl⟩) ⟨rfl, rfl⟩ (by omega) (by omega) ?_
  refine xk_aload_n (pc := 101) d_M_init_101 rfl ?_
  refine xk_bipush (pc := 102) (v := nI 42) d_M_init_102 (by decide) ?_
  refine xk_newarr (pc := 104) (t := 0) d_M_init_104 (by first | rfl | assumption) (by decide) rfl (xk_in (List.mem_of_getElem? (i := 83) (by decide +kernel)) rfl) rfl (by decide) (Nat.le_of_ble_eq_true rfl) (Nat.le_of_ble_eq_true rfl) (fun hz_104 => ?_)
  refine xk_putR (pc := 106) d_M_init_106 fl_M_47 (by first | rfl | assumption) rfl (fun q hq h => by cases hq; first | exact absurd h (by decide) | exact ⟨rfl, rfl, rfl⟩) ⟨rfl, rfl⟩ (by omega) (by omega) ?_
  refine xk_aload_n (pc := 109) d_M_init_109 rfl ?_
  refine xk_bipush (pc := 110) (v := nI 16) d_M_init_110 (by decide) ?_
  refine xk_newarr (pc := 112) (t := 0) d_M_init_112 (by first | rfl | assumption) (by decide) rfl (xk_in (List.mem_of_getElem? (i := 83) (by decide +kernel)) rfl) rfl (by decide) (Nat.le_of_ble_eq_true rfl) (Nat.le_of_ble_eq_true rfl) (fun hz_112 => ?_)
  refine xk_putR (pc := 114) d_M_init_114 fl_M_50 (by first | rfl | assumption) rfl (fun q hq h => by cases hq; first | exact absurd h (by decide) | exact ⟨rfl, rfl, rfl⟩) ⟨rfl, rfl⟩ (by omega) (by omega) ?_
  refine xk_aload_n (pc := 117) d_M_init_117 rfl ?_
  refine xk_bipush (pc := 118) (v := nI 16) d_M_init_118 (by decide) ?_
  refine xk_newarr (pc := 120) (t := 0) d_M_init_120 (by first | rfl | assumption) (by decide) rfl (xk_in (List.mem_of_getElem? (i := 83) (by decide +kernel)) rfl) rfl (by decide) (Nat.le_of_ble_eq_true rfl) (Nat.le_of_ble_eq_true rfl) (fun hz_120 => ?_)
  refine xk_putR (pc := 122) d_M_init_122 fl_M_53 (by first | rfl | assumption) rfl (fun q hq h => by cases hq; first | exact absurd h (by decide) | exact ⟨rfl, rfl, rfl⟩) ⟨rfl, rfl⟩ (by omega) (by omega) ?_
  refine xk_aload_n (pc := 125) d_M_init_125 rfl ?_
  refine xk_bipush (pc := 126) (v := nI 16) d_M_init_126 (by decide) ?_
  refine xk_newarr (pc := 128) (t := 0) d_M_init_128 (by first | rfl | assumption) (by decide) rfl (xk_in (List.mem_of_getElem? (i := 83) (by decide +kernel)) rfl) rfl (by decide) (Nat.le_of_ble_eq_true rfl) (Nat.le_of_ble_eq_true rfl) (fun hz_128 => ?_)
  refine xk_putR (pc := 130) d_M_init_130 fl_M_56 (by first | rfl | assumption) rfl (fun q hq h => by cases hq; first | exact absurd h (by decide) | exact ⟨rfl, rfl, rfl⟩) ⟨rfl, rfl⟩ (by omega) (by omega) ?_
  refine xk_aload_n (pc := 133) d_M_init_133 rfl ?_
  refine xk_bipush (pc := 134) (v := nI 16) d_M_init_134 (by decide) ?_
  refine xk_newarr (pc := 136) (t := 0) d_M_init_136 (by first | rfl | assumption) (by decide) rfl (xk_in (List.mem_of_getElem? (i := 83) (by decide +kernel)) rfl) rfl (by decide) (Nat.le_of_ble_eq_true rfl) (Nat.le_of_ble_eq_true rfl) (fun hz_136 => ?_)
  refine xk_putR (pc := 138) d_M_init_138 fl_M_59 (by first | rfl | assumption) rfl (fun q hq h => by cases hq; first | exact absurd h (by decide) | exact ⟨rfl, rfl, rfl⟩) ⟨rfl, rfl⟩ (by omega) (by omega) ?_
  refine xk_aload_n (pc := 141) d_M_init_141 rfl ?_
  refine xk_bipush (pc := 142) (v := nI 64) d_M_init_142 (by decide) ?_
  refine xk_newarr (pc := 144) (t := 0) d_M_init_144 (by first | rfl | assumption) (by decide) rfl (xk_in (List.mem_of_getElem? (i := 83) (by decide +kernel)) rfl) rfl (by decide) (Nat.le_of_ble_eq_true rfl) (Nat.le_of_ble_eq_true rfl) (fun hz_144 => ?_)
  refine xk_putR (pc := 146) d_M_init_146 fl_M_62 (by first | rfl | assumption) rfl (fun q hq h => by cases hq; first | exact absurd h (by decide) | exact ⟨rfl, rfl, rfl⟩) ⟨rfl, rfl⟩ (by omega) (by omega) ?_
  refine xk_aload_n (pc := 149) d_M_init_149 rfl ?_
  refine xk_bipush (pc := 150) (v := nI 16) d_M_init_150 (by decide) ?_
  refine xk_newarr (pc := 152) (t := 0) d_M_init_152 (by first | rfl | assumption) (by decide) rfl (xk_in (List.mem_of_getElem? (i := 83) (by decide +kernel)) rfl) rfl (by decide) (Nat.le_of_ble_eq_true rfl) (Nat.le_of_ble_eq_true rfl) (fun hz_152 => ?_)
  refine xk_putR (pc := 154) d_M_init_154 fl_M_65 (by first | rfl | assumption) rfl (fun q hq h => by cases hq; first | exact absurd h (by decide) | exact ⟨rfl, rfl, rfl⟩) ⟨rfl, rfl⟩ (by omega) (by omega) ?_
  refine xk_aload_n (pc := 157) d_M_init_157 rfl ?_
  refine xk_bipush (pc := 158) (v := nI 16) d_M_init_158 (by decide) ?_
  refine xk_newarr (pc := 160) (t := 0) d_M_init_160 (by first | rfl | assumption) (by decide) rfl (xk_in (List.mem_of_getElem? (i := 83) (by decide +kernel)) rfl) rfl (by decide) (Nat.le_of_ble_eq_true rfl) (Nat.le_of_ble_eq_true rfl) (fun hz_160 => ?_)
  refine xk_putR (pc := 162) d_M_init_162 fl_M_68 (by first | rfl | assumption) rfl (fun q hq h => by cases hq; first | exact absurd h (by decide) | exact ⟨rfl, rfl, rfl⟩) ⟨rfl, rfl⟩ (by omega) (by omega) ?_
  refine xk_iconst (pc := 165) (v := nI 0) d_M_init_165 (by decide) ?_
  refine xk_istore_n (pc := 166) d_M_init_166 (by decide) ?_
  have hS74 := xz_S hS
  suffices HH : xk_W E m_M_init 186 [some (.inr (some 53)), some (.inl (nI 8))] [] 74 (xk_fill m 58 0 8 (nI 2)) (xz_K r) 20 578 Q by
    have K := l_minit (E := E) (Q := Q) (m := m) hS74 HH 9 0 (by omega) (by omega)
    rw [xk_fill_0] at K
    exact K
  refine xk_aload_n (pc := 186) d_M_init_186 rfl ?_
  refine xk_cV0 (pc := 187) d_M_init_187 ml_M_71 cz_M_reborn ⟨rfl, rfl⟩ rfl (by first | rfl | assumption) (by omega) (by omega) (Nat.le_of_ble_eq_true rfl) ⟨(Nat.le_of_ble_eq_true rfl), (Nat.le_of_ble_eq_true rfl)⟩ ?_
  refine c_M_reborn (by decide) hS74 (fun m1 q1 q2 q3 q4 q5 q6 q7 => ?_)
  refine xk_vret (pc := 190) rfl d_M_init_190 rfl (Nat.le_of_ble_eq_true rfl) (Nat.le_of_ble_eq_true rfl) ?_
  exact hQ m1 q1 q2 q3 q4 (q5.trans (by rw [xk_fill_a (by decide)])) (q6.trans (by rw [xk_fill_a (by decide)])) q7
