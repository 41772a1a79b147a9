set_option maxRecDepth 20000 in
set_option maxHeartbeats 4000000 in
theorem c_Task_begin {E : xk_E} {n : Nat} {m : xk_M} {r : xk_P} {Q : xk_Q} (hn : 74 ≤ n) (hS : xr_S r n) {p : Nat} (hp : p < 7) {x : Int32} (hQ : Q none n (xk_up (xk_up m (39 + 2 * p) 0 (nI 1)) (39 + 2 * p) 1 x) r) : xk_W E m_Task_begin 0 (xk_ent m_Task_begin [.inr (some (39 + 2 * p)), .inl x]) [] n m r 0 0 Q := by
  show xk_W E m_Task_begin 0 [some (.inr (some (39 + 2 * p))), some (.inl x)] [] n m r 0 0 Q
  have hkt := xr_kd_ta p hp
  have hkd := xr_kd_de p hp
  refine xk_aload_n (pc := 0) d_Task_begin_0 rfl ?_
  refine xk_iconst (pc := 1) (v := nI 1) d_Task_begin_1 (by decide) ?_
  refine xk_putI (pc := 2) d_Task_begin_2 fl_Task_11 (by first | rfl | assumption) rfl (fun q hq h => by cases hq; first | exact absurd h (by decide) | exact ⟨rfl, rfl, rfl⟩) ⟨rfl, rfl⟩ (by omega) (by omega) ?_
  refine xk_aload_n (pc := 5) d_Task_begin_5 rfl ?_
  refine xk_iload_n (pc := 6) d_Task_begin_6 rfl ?_
  refine xk_putI (pc := 7) d_Task_begin_7 fl_Task_15 (by first | rfl | assumption) rfl (fun q hq h => by cases hq; first | exact absurd h (by decide) | exact ⟨rfl, rfl, rfl⟩) ⟨rfl, rfl⟩ (by omega) (by omega) ?_
  refine xk_vret (pc := 10) rfl d_Task_begin_10 rfl (Nat.le_of_ble_eq_true rfl) (Nat.le_of_ble_eq_true rfl) ?_
  exact hQ

set_option maxRecDepth 20000 in
set_option maxHeartbeats 4000000 in
theorem c_Task_isChildOf {E : xk_E} {n : Nat} {m : xk_M} {r : xk_P} {Q : xk_Q} (hn : 74 ≤ n) (hS : xr_S r n) {p : Nat} (hp : p < 7) {st : Nat} {x y : Int32} (h0 : m (39 + 2 * p) 0 = nI st) (hst : st < 2 ^ 30) (h1 : m (39 + 2 * p) 1 = x) (e1 : st ≠ 0 → x = y → Q (some (.inl (nI 1))) n m r) (e0 : (st = 0 ∨ ¬ x = y) → Q (some (.inl (nI 0))) n m r) : xk_W E m_Task_isChildOf 0 (xk_ent m_Task_isChildOf [.inr (some (39 + 2 * p)), .inl y]) [] n m r 0 0 Q := by
  show xk_W E m_Task_isChildOf 0 [some (.inr (some (39 + 2 * p))), some (.inl y)] [] n m r 0 0 Q
  have hkt := xr_kd_ta p hp
  have hkd := xr_kd_de p hp
  refine xk_aload_n (pc := 0) d_Task_isChildOf_0 rfl ?_
  refine xk_getIo (pc := 1) d_Task_isChildOf_1 fl_Task_11 (by first | rfl | assumption) rfl (by omega) (by omega) h0 ?_
  first | refine xk_if_eqN (pc := 4) (tgt := 19) d_Task_isChildOf_4 rfl (by omega) (fun c_4 => ?_) (fun c_4 => ?_) | refine xk_if_eq (pc := 4) (tgt := 19) d_Task_isChildOf_4 rfl (fun c_4 => ?_) (fun c_4 => ?_)
  · refine xk_iconst (pc := 19) (v := nI 0) d_Task_isChildOf_19 (by decide) ?_
    refine xk_zret (pc := 20) rfl d_Task_isChildOf_20 rfl rfl (Nat.le_of_ble_eq_true rfl) (Nat.le_of_ble_eq_true rfl) ?_
    first | exact e0 (Or.inl c_4) | exact e0 (Or.inr c_12)
  · refine xk_aload_n (pc := 7) d_Task_isChildOf_7 rfl ?_
    refine xk_getIo (pc := 8) d_Task_isChildOf_8 fl_Task_15 (by first | rfl | assumption) rfl (by omega) (by omega) h1 ?_
    refine xk_iload_n (pc := 11) d_Task_isChildOf_11 rfl ?_
    first | refine xk_icmp_neN (pc := 12) (tgt := 19) d_Task_isChildOf_12 rfl (by omega) (by omega) (fun c_12 => ?_) (fun c_12 => ?_) | refine xk_icmp_ne (pc := 12) (tgt := 19) d_Task_isChildOf_12 rfl (fun c_12 => ?_) (fun c_12 => ?_)
    · refine xk_iconst (pc := 19) (v := nI 0) d_Task_isChildOf_19 (by decide) ?_
      refine xk_zret (pc := 20) rfl d_Task_isChildOf_20 rfl rfl (Nat.le_of_ble_eq_true rfl) (Nat.le_of_ble_eq_true rfl) ?_
      first | exact e0 (Or.inl c_4) | exact e0 (Or.inr c_12)
    · refine xk_iconst (pc := 15) (v := nI 1) d_Task_isChildOf_15 (by decide) ?_
      refine xk_goto (pc := 16) (tgt := 20) d_Task_isChildOf_16 rfl ?_
      refine xk_zret (pc := 20) rfl d_Task_isChildOf_20 rfl rfl (Nat.le_of_ble_eq_true rfl) (Nat.le_of_ble_eq_true rfl) ?_
      exact e1 c_4 c_12

set_option maxRecDepth 20000 in
set_option maxHeartbeats 4000000 in
theorem c_Task_hold {E : xk_E} {n : Nat} {m : xk_M} {r : xk_P} {Q : xk_Q} (hn : 74 ≤ n) (hS : xr_S r n) {p : Nat} (hp : p < 7) {d o : Nat} (hd : d < 6) (ho : o < 16) {c : Nat} (hc : m (22 + o) 0 = nI c) (hQ : Q none n (xk_up m (22 + o) 0 (nI (c + 1))) (xk_up r (40 + 2 * p) d (some (22 + o)))) : xk_W E m_Task_hold 0 (xk_ent m_Task_hold [.inr (some (39 + 2 * p)), .inl (nI d), .inr (some (22 + o))]) [] n m r 0 0 Q := by
  show xk_W E m_Task_hold 0 [some (.inr (some (39 + 2 * p))), some (.inl (nI d)), some (.inr (some (22 + o)))] [] n m r 0 0 Q
  have hkt := xr_kd_ta p hp
  have hkd := xr_kd_de p hp
  have hko := xr_kd_op o ho
  refine xk_aload_n (pc := 0) d_Task_hold_0 rfl ?_
  refine xk_getRo (pc := 1) d_Task_hold_1 fl_Task_23 (by first | rfl | assumption) rfl (by omega) (by omega) (hS _ _ _ (xr_st_ta _ hp) (by omega)) ?_
  refine xk_iload_n (pc := 4) d_Task_hold_4 rfl ?_
  refine xk_aload_n (pc := 5) d_Task_hold_5 rfl ?_
  refine xk_aastore (pc := 6) (ci := 3) d_Task_hold_6 hkd (by decide) (by decide) (by omega) (by omega) rfl (by omega) (by decide) hko rfl rfl (by omega) (by omega) ?_
  refine xk_aload_n (pc := 7) d_Task_hold_7 rfl ?_
  refine xk_dup (pc := 8) d_Task_hold_8 ?_
  refine xk_getIo (pc := 9) d_Task_hold_9 fl_Task_30 (by first | rfl | assumption) rfl (by omega) (by omega) hc ?_
  refine xk_iconst (pc := 12) (v := nI 1) d_Task_hold_12 (by decide) ?_
  first | refine xk_iaddN (pc := 13) d_Task_hold_13 ?_ | refine xk_iadd (pc := 13) d_Task_hold_13 ?_
  refine xk_putI (pc := 14) d_Task_hold_14 fl_Task_30 (by first | rfl | assumption) rfl (fun q hq h => by cases hq; first | exact absurd h (by decide) | exact ⟨rfl, rfl, rfl⟩) ⟨rfl, rfl⟩ (by omega) (by omega) ?_
  refine xk_vret (pc := 17) rfl d_Task_hold_17 rfl (Nat.le_of_ble_eq_true rfl) (Nat.le_of_ble_eq_true rfl) ?_
  exact hQ

set_option maxRecDepth 20000 in
set_option maxHeartbeats 4000000 in
theorem l_freeFrom {E : xk_E} {n : Nat} {Q : xk_Q} {m : xk_M} {r : xk_P} {O : xs_O} {p d0 : Nat} {v1 : Option xk_V} (hn : 74 ≤ n) (hS : xr_S r n) (hp : p < 7) (hd0 : d0 ≤ 6) (hD : ∀ d, d < 6 → r (40 + 2 * p) d = (O.1 (6 * p + d)).map (fun o => 22 + o)) (h1 : ∀ d, xs_free O p d0 = some d → d < 6 → Q (some (.inl (nI d))) n m r) (h0 : xs_free O p d0 = none → Q (some (.inl (-1))) n m r) : ∀ (k : Nat) (i : Nat), 6 - i < k → d0 ≤ i → i ≤ 6 → (∀ j, d0 ≤ j → j < i → O.1 (6 * p + j) ≠ none) → xk_W E m_Task_freeFrom 2 [some (.inr (some (39 + 2 * p))), v1, some (.inl (nI i))] [] n m r 0 0 Q := by
  intro k
  induction k with
  | zero => intro i h; exact absurd h (Nat.not_lt_zero _)
  | succ k ih =>
    intro i hk hi1 hi2 hj
    have hkt := xr_kd_ta p hp
    have hkd := xr_kd_de p hp
    refine xk_iload_n (pc := 2) d_Task_freeFrom_2 rfl ?_
    refine xk_bipush (pc := 3) (v := nI 6) d_Task_freeFrom_3 (by decide) ?_
    first | refine xk_icmp_geN (pc := 5) (tgt := 25) d_Task_freeFrom_5 rfl (by omega) (by omega) (fun c_5 => ?_) (fun c_5 => ?_) | refine xk_icmp_ge (pc := 5) (tgt := 25) d_Task_freeFrom_5 rfl (fun c_5 => ?_) (fun c_5 => ?_)
    · refine xk_iconst (pc := 25) (v := (-1)) d_Task_freeFrom_25 (by decide) ?_
      refine xk_iret (pc := 26) rfl d_Task_freeFrom_26 rfl (Nat.le_of_ble_eq_true rfl) (Nat.le_of_ble_eq_true rfl) ?_
      exact h0 (xs_least_n (fun j a b => decide_eq_false (hj j a (by omega))))
    · refine xk_aload_n (pc := 8) d_Task_freeFrom_8 rfl ?_
      refine xk_getRo (pc := 9) d_Task_freeFrom_9 fl_Task_23 (by first | rfl | assumption) rfl (by omega) (by omega) (hS _ _ _ (xr_st_ta _ hp) (by omega)) ?_
      refine xk_iload_n (pc := 12) d_Task_freeFrom_12 rfl ?_
      refine xk_aaloado (pc := 13) d_Task_freeFrom_13 (by first | rfl | assumption) (by decide) (by decide) (by omega) (by omega) rfl (by omega) (by decide) (hD i c_5) ?_
      refine xk_ifnonnull (pc := 14) (tgt := 19) d_Task_freeFrom_14 rfl (fun a_14 c_14 => ?_) (fun c_14 => ?_)
      · refine xk_iincN (pc := 19) (d := 1) d_Task_freeFrom_19 rfl ?_
        refine xk_goto (pc := 22) (tgt := 2) d_Task_freeFrom_22 rfl ?_
        exact ih (i + 1) (by omega) (by omega) (by omega) (fun j a b => by
          by_cases e : j = i
          · subst e
            intro hq
            rw [hq] at c_14
            cases c_14
          · exact hj j a (by omega))
      · refine xk_iload_n (pc := 17) d_Task_freeFrom_17 rfl ?_
        refine xk_iret (pc := 18) rfl d_Task_freeFrom_18 rfl (Nat.le_of_ble_eq_true rfl) (Nat.le_of_ble_eq_true rfl) ?_
        have e : O.1 (6 * p + i) = none := by
          cases hq : O.1 (6 * p + i) with
          | none => rfl
          | some o => rw [hq] at c_14; cases c_14
        exact h1 i (xs_least_s hi1 (by omega) (decide_eq_true e) (fun j a b => decide_eq_false (hj j a b))) c_5

set_option maxRecDepth 20000 in
set_option maxHeartbeats 4000000 in
theorem c_Task_freeFrom {E : xk_E} {n : Nat} {m : xk_M} {r : xk_P} {Q : xk_Q} (hn : 74 ≤ n) (hS : xr_S r n) {p : Nat} (hp : p < 7) {O : xs_O} {d0 : Nat} (hd0 : d0 ≤ 6) (hD : ∀ d, d < 6 → r (40 + 2 * p) d = (O.1 (6 * p + d)).map (fun o => 22 + o)) (h1 : ∀ d, xs_free O p d0 = some d → d < 6 → Q (some (.inl (nI d))) n m r) (h0 : xs_free O p d0 = none → Q (some (.inl (-1))) n m r) : xk_W E m_Task_freeFrom 0 (xk_ent m_Task_freeFrom [.inr (some (39 + 2 * p)), .inl (nI d0)]) [] n m r 0 0 Q := by
  show xk_W E m_Task_freeFrom 0 [some (.inr (some (39 + 2 * p))), some (.inl (nI d0)), none] [] n m r 0 0 Q
  refine xk_iload_n (pc := 0) d_Task_freeFrom_0 rfl ?_
  refine xk_istore_n (pc := 1) d_Task_freeFrom_1 (by decide) ?_
  exact l_freeFrom hn hS hp hd0 hD h1 h0 7 d0 (by omega) (Nat.le_refl _) hd0 (fun j a b => by omega)

theorem xs_alive_n {T : xs_T} {x : Int32} (h : xs_nat x 7 = none) : xs_alive T x = none := by
  unfold xs_alive
  rw [h]
theorem xs_alive_f {T : xs_T} {x : Int32} {p : Nat} (h : xs_nat x 7 = some p) (h2 : ¬ T.1 p = 1) : xs_alive T x = none := by
  unfold xs_alive
  rw [h]
  exact if_neg h2

set_option maxRecDepth 20000 in
set_option maxHeartbeats 4000000 in
theorem c_K_isAlive {E : xk_E} {n : Nat} {m : xk_M} {r : xk_P} {Q : xk_Q} (hn : 74 ≤ n) (hS : xr_S r n) {T : xs_T} (hT : xr_T T m) (hok : xs_okT T) {x : Int32} (h1 : ∀ p, xs_alive T x = some p → p < 7 → 1 ≤ p → x = nI p → T.1 p = 1 → Q (some (.inl (nI 1))) n m r) (h0 : xs_alive T x = none → Q (some (.inl (nI 0))) n m r) : xk_W E m_K_isAlive 0 (xk_ent m_K_isAlive [.inr (some 1), .inl x]) [] n m r 0 0 Q := by
  show xk_W E m_K_isAlive 0 [some (.inr (some 1)), some (.inl x)] [] n m r 0 0 Q
  refine xk_iload_n (pc := 0) d_K_isAlive_0 rfl ?_
  refine xk_bipush (pc := 1) (v := nI 7) d_K_isAlive_1 (by decide) ?_
  refine xk_cS2 (pc := 3) d_K_isAlive_3 ml_K_53 cz_K_isBelow ⟨rfl, rfl⟩ rfl (Nat.le_of_ble_eq_true rfl) ⟨(Nat.le_of_ble_eq_true rfl), (Nat.le_of_ble_eq_true rfl)⟩ ?_
  refine c_K_isBelow (by decide) (fun f hf ef en => ?_) (fun en => ?_)
  · subst ef
    have hkt := xr_kd_ta f hf
    have hle := hok.2.2.1 f hf
    refine xk_if_eq (pc := 6) (tgt := 26) d_K_isAlive_6 rfl (fun h => absurd h (by decide)) (fun _ => ?_)
    refine xk_aload_n (pc := 9) d_K_isAlive_9 rfl ?_
    refine xk_getRo (pc := 10) d_K_isAlive_10 fl_K_44 (by first | rfl | assumption) rfl (by omega) (by omega) (hS _ _ _ rfl (by omega)) ?_
    refine xk_iload_n (pc := 13) d_K_isAlive_13 rfl ?_
    refine xk_aaloado (pc := 14) d_K_isAlive_14 (by first | rfl | assumption) (by decide) (by decide) (by omega) (by omega) rfl (by omega) (by decide) (hS _ _ _ (xr_st_ts _ hf) (by omega)) ?_
    refine xk_getIo (pc := 15) d_K_isAlive_15 fl_K_173 (by first | rfl | assumption) rfl (by omega) (by omega) (hT.1 f hf) ?_
    refine xk_iconst (pc := 18) (v := nI 1) d_K_isAlive_18 (by decide) ?_
    first | refine xk_icmp_neN (pc := 19) (tgt := 26) d_K_isAlive_19 rfl (by omega) (by omega) (fun c_19 => ?_) (fun c_19 => ?_) | refine xk_icmp_ne (pc := 19) (tgt := 26) d_K_isAlive_19 rfl (fun c_19 => ?_) (fun c_19 => ?_)
    · refine xk_iconst (pc := 26) (v := nI 0) d_K_isAlive_26 (by decide) ?_
      refine xk_zret (pc := 27) rfl d_K_isAlive_27 rfl rfl (Nat.le_of_ble_eq_true rfl) (Nat.le_of_ble_eq_true rfl) ?_
      first
        | exact h0 (xs_alive_n en)
        | exact h0 (xs_alive_f en c_19)
    · refine xk_iconst (pc := 22) (v := nI 1) d_K_isAlive_22 (by decide) ?_
      refine xk_goto (pc := 23) (tgt := 27) d_K_isAlive_23 rfl ?_
      refine xk_zret (pc := 27) rfl d_K_isAlive_27 rfl rfl (Nat.le_of_ble_eq_true rfl) (Nat.le_of_ble_eq_true rfl) ?_
      have e : xs_alive T (nI f) = some f := by unfold xs_alive; rw [en]; exact if_pos c_19
      exact h1 f e hf (by
        rcases Nat.eq_zero_or_pos f with q | q
        · subst q; rw [hok.1] at c_19; cases c_19
        · exact q) rfl c_19
  · refine xk_if_eq (pc := 6) (tgt := 26) d_K_isAlive_6 rfl (fun _ => ?_) (fun h => absurd (by decide) h)
    refine xk_iconst (pc := 26) (v := nI 0) d_K_isAlive_26 (by decide) ?_
    refine xk_zret (pc := 27) rfl d_K_isAlive_27 rfl rfl (Nat.le_of_ble_eq_true rfl) (Nat.le_of_ble_eq_true rfl) ?_
    first
      | exact h0 (xs_alive_n en)
      | exact h0 (xs_alive_f en c_19)

set_option maxRecDepth 20000 in
set_option maxHeartbeats 4000000 in
theorem c_K_openingOf {E : xk_E} {n : Nat} {m : xk_M} {r : xk_P} {Q : xk_Q} (hn : 74 ≤ n) (hS : xr_S r n) {T : xs_T} {O : xs_O} (hT : xr_T T m) (hok : xs_okT T) (hD : ∀ p d, p < 7 → d < 6 → r (40 + 2 * p) d = (O.1 (6 * p + d)).map (fun o => 22 + o)) {x y : Int32} (h1 : ∀ p d o, xs_alive T x = some p → xs_nat y 6 = some d → x = nI p → y = nI d → p < 7 → 1 ≤ p → d < 6 → T.1 p = 1 → O.1 (6 * p + d) = some o → Q (some (.inr (some (22 + o)))) n m r) (h0 : (xs_alive T x = none ∨ xs_nat y 6 = none ∨ ∃ p d, xs_alive T x = some p ∧ xs_nat y 6 = some d ∧ O.1 (6 * p + d) = none) → Q (some (.inr none)) n m r) : xk_W E m_K_openingOf 0 (xk_ent m_K_openingOf [.inr (some 1), .inl x, .inl y]) [] n m r 0 0 Q := by
  show xk_W E m_K_openingOf 0 [some (.inr (some 1)), some (.inl x), some (.inl y)] [] n m r 0 0 Q
  refine xk_aload_n (pc := 0) d_K_openingOf_0 rfl ?_
  refine xk_iload_n (pc := 1) d_K_openingOf_1 rfl ?_
  refine xk_cV1 (pc := 2) d_K_openingOf_2 ml_K_75 cz_K_isAlive ⟨rfl, rfl⟩ rfl (by first | rfl | assumption) (by omega) (by omega) (Nat.le_of_ble_eq_true rfl) ⟨(Nat.le_of_ble_eq_true rfl), (Nat.le_of_ble_eq_true rfl)⟩ ?_
  refine c_K_isAlive hn hS hT hok (fun p ep hp hp1 ex et => ?_) (fun ep => ?_)
  · subst ex
    have hkt := xr_kd_ta p hp
    have hkd := xr_kd_de p hp
    refine xk_if_eq (pc := 5) (tgt := 17) d_K_openingOf_5 rfl (fun h => absurd h (by decide)) (fun _ => ?_)
    refine xk_iload_n (pc := 8) d_K_openingOf_8 rfl ?_
    refine xk_bipush (pc := 9) (v := nI 6) d_K_openingOf_9 (by decide) ?_
    refine xk_cS2 (pc := 11) d_K_openingOf_11 ml_K_53 cz_K_isBelow ⟨rfl, rfl⟩ rfl (Nat.le_of_ble_eq_true rfl) ⟨(Nat.le_of_ble_eq_true rfl), (Nat.le_of_ble_eq_true rfl)⟩ ?_
    refine c_K_isBelow (by decide) (fun d hd ed en => ?_) (fun en => ?_)
    · subst ed
      refine xk_if_ne (pc := 14) (tgt := 19) d_K_openingOf_14 rfl (fun _ => ?_) (fun h => absurd h (by decide))
      refine xk_aload_n (pc := 19) d_K_openingOf_19 rfl ?_
      refine xk_getRo (pc := 20) d_K_openingOf_20 fl_K_44 (by first | rfl | assumption) rfl (by omega) (by omega) (hS _ _ _ rfl (by omega)) ?_
      refine xk_iload_n (pc := 23) d_K_openingOf_23 rfl ?_
      refine xk_aaloado (pc := 24) d_K_openingOf_24 (by first | rfl | assumption) (by decide) (by decide) (by omega) (by omega) rfl (by omega) (by decide) (hS _ _ _ (xr_st_ts _ hp) (by omega)) ?_
      refine xk_getRo (pc := 25) d_K_openingOf_25 fl_K_224 (by first | rfl | assumption) rfl (by omega) (by omega) (hS _ _ _ (xr_st_ta _ hp) (by omega)) ?_
      refine xk_iload_n (pc := 28) d_K_openingOf_28 rfl ?_
      refine xk_aaloado (pc := 29) d_K_openingOf_29 (by first | rfl | assumption) (by decide) (by decide) (by omega) (by omega) rfl (by omega) (by decide) (hD p d hp hd) ?_
      refine xk_aret (pc := 30) rfl d_K_openingOf_30 rfl (Nat.le_of_ble_eq_true rfl) (Nat.le_of_ble_eq_true rfl) ?_
      cases hq : O.1 (6 * p + d) with
      | none => exact h0 (Or.inr (Or.inr ⟨p, d, ep, en, hq⟩))
      | some o => exact h1 p d o ep en rfl rfl hp hp1 hd et hq
    · refine xk_if_ne (pc := 14) (tgt := 19) d_K_openingOf_14 rfl (fun h => absurd (by decide) h) (fun _ => ?_)
      refine xk_null (pc := 17) d_K_openingOf_17 ?_
      refine xk_aret (pc := 18) rfl d_K_openingOf_18 rfl (Nat.le_of_ble_eq_true rfl) (Nat.le_of_ble_eq_true rfl) ?_
      first | exact h0 (Or.inr (Or.inl en)) | exact h0 (Or.inl ep)
  · refine xk_if_eq (pc := 5) (tgt := 17) d_K_openingOf_5 rfl (fun _ => ?_) (fun h => absurd (by decide) h)
    refine xk_null (pc := 17) d_K_openingOf_17 ?_
    refine xk_aret (pc := 18) rfl d_K_openingOf_18 rfl (Nat.le_of_ble_eq_true rfl) (Nat.le_of_ble_eq_true rfl) ?_
    first | exact h0 (Or.inr (Or.inl en)) | exact h0 (Or.inl ep)

set_option maxRecDepth 20000 in
set_option maxHeartbeats 4000000 in
theorem c_K_whyNoOpening {E : xk_E} {n : Nat} {m : xk_M} {r : xk_P} {Q : xk_Q} (hn : 74 ≤ n) (hS : xr_S r n) {T : xs_T} (hT : xr_T T m) (hok : xs_okT T) {x y : Int32} (h1 : ∀ p d, xs_alive T x = some p → xs_nat y 6 = some d → Q (some (.inl (-3))) n m r) (h0 : (xs_alive T x = none ∨ xs_nat y 6 = none) → Q (some (.inl (-1))) n m r) : xk_W E m_K_whyNoOpening 0 (xk_ent m_K_whyNoOpening [.inr (some 1), .inl x, .inl y]) [] n m r 0 0 Q := by
  show xk_W E m_K_whyNoOpening 0 [some (.inr (some 1)), some (.inl x), some (.inl y)] [] n m r 0 0 Q
  refine xk_aload_n (pc := 0) d_K_whyNoOpening_0 rfl ?_
  refine xk_iload_n (pc := 1) d_K_whyNoOpening_1 rfl ?_
  refine xk_cV1 (pc := 2) d_K_whyNoOpening_2 ml_K_75 cz_K_isAlive ⟨rfl, rfl⟩ rfl (by first | rfl | assumption) (by omega) (by omega) (Nat.le_of_ble_eq_true rfl) ⟨(Nat.le_of_ble_eq_true rfl), (Nat.le_of_ble_eq_true rfl)⟩ ?_
  refine c_K_isAlive hn hS hT hok (fun p ep hp hp1 ex et => ?_) (fun ep => ?_)
  · refine xk_if_eq (pc := 5) (tgt := 22) d_K_whyNoOpening_5 rfl (fun h => absurd h (by decide)) (fun _ => ?_)
    refine xk_iload_n (pc := 8) d_K_whyNoOpening_8 rfl ?_
    refine xk_bipush (pc := 9) (v := nI 6) d_K_whyNoOpening_9 (by decide) ?_
    refine xk_cS2 (pc := 11) d_K_whyNoOpening_11 ml_K_53 cz_K_isBelow ⟨rfl, rfl⟩ rfl (Nat.le_of_ble_eq_true rfl) ⟨(Nat.le_of_ble_eq_true rfl), (Nat.le_of_ble_eq_true rfl)⟩ ?_
    refine c_K_isBelow (by decide) (fun d hd ed en => ?_) (fun en => ?_)
    · refine xk_if_eq (pc := 14) (tgt := 22) d_K_whyNoOpening_14 rfl (fun h => absurd h (by decide)) (fun _ => ?_)
      refine xk_bipush (pc := 17) (v := (-3)) d_K_whyNoOpening_17 (by decide) ?_
      refine xk_goto (pc := 19) (tgt := 23) d_K_whyNoOpening_19 rfl ?_
      refine xk_iret (pc := 23) rfl d_K_whyNoOpening_23 rfl (Nat.le_of_ble_eq_true rfl) (Nat.le_of_ble_eq_true rfl) ?_
      first | exact h1 p d ep en | exact h0 (Or.inr en) | exact h0 (Or.inl ep)
    · refine xk_if_eq (pc := 14) (tgt := 22) d_K_whyNoOpening_14 rfl (fun _ => ?_) (fun h => absurd (by decide) h)
      refine xk_iconst (pc := 22) (v := (-1)) d_K_whyNoOpening_22 (by decide) ?_
      refine xk_iret (pc := 23) rfl d_K_whyNoOpening_23 rfl (Nat.le_of_ble_eq_true rfl) (Nat.le_of_ble_eq_true rfl) ?_
      first | exact h1 p d ep en | exact h0 (Or.inr en) | exact h0 (Or.inl ep)
  · refine xk_if_eq (pc := 5) (tgt := 22) d_K_whyNoOpening_5 rfl (fun _ => ?_) (fun h => absurd (by decide) h)
    refine xk_iconst (pc := 22) (v := (-1)) d_K_whyNoOpening_22 (by decide) ?_
    refine xk_iret (pc := 23) rfl d_K_whyNoOpening_23 rfl (Nat.le_of_ble_eq_true rfl) (Nat.le_of_ble_eq_true rfl) ?_
    first | exact h1 p d ep en | exact h0 (Or.inr en) | exact h0 (Or.inl ep)

theorem xs_u_f {O : xs_O} {o : Nat} (h : xs_cnt O.1 o 42 = 0) : xs_used O o = false := by
  unfold xs_used
  exact decide_eq_false (fun q => q h)
theorem xr_of_file {O : xs_O} {m : xk_M} {r : xk_P} {n o f : Nat} (hO : xr_O O m r n) (ho : o < 16) (hf : f < 8) (hw : xs_used O o = true → O.2.1 o = 0 → O.2.2.1 o < 8) : (xs_used O o && decide (O.2.1 o = 0 ∧ O.2.2.1 o = f)) = true ↔ (xs_cnt O.1 o 42 ≠ 0 ∧ r (22 + o) 4 = none ∧ m (22 + o) 2 = nI f) := by
  obtain ⟨h1, h2, pa, h3, h4, h5⟩ := hO
  constructor
  · intro h
    rw [Bool.and_eq_true] at h
    obtain ⟨u, k⟩ := h
    have k := of_decide_eq_true k
    obtain ⟨i1, i2, i3⟩ := h3 o ho u
    obtain ⟨j1, j2, j3⟩ := i2 k.1
    exact ⟨xs_used_iff.mp u, j1, by rw [j2, k.2]⟩
  · rintro ⟨c, a, b⟩
    have u := xs_used_iff.mpr c
    obtain ⟨i1, i2, i3⟩ := h3 o ho u
    have k0 : O.2.1 o = 0 := by
      by_cases q : O.2.1 o = 0
      · exact q
      · rw [i3 q] at a; cases a
    obtain ⟨j1, j2, j3⟩ := i2 k0
    rw [j2] at b
    have := (nI_eq (by have := hw u k0; omega) (by omega)).mp b
    rw [u, decide_eq_true ⟨k0, this⟩]
    rfl

set_option maxRecDepth 20000 in
set_option maxHeartbeats 4000000 in
theorem l_isOpen {E : xk_E} {n : Nat} {Q : xk_Q} {m : xk_M} {r : xk_P} {O : xs_O} (hn : 74 ≤ n) (hS : xr_S r n) (hO : xr_O O m r n) {f : Nat} (hf : f < 8) (hw : ∀ o, o < 16 → xs_used O o = true → O.2.1 o = 0 → O.2.2.1 o < 8) (h1 : xs_openF O f = true → Q (some (.inl (nI 1))) n m r) (h0 : xs_openF O f = false → Q (some (.inl (nI 0))) n m r) : ∀ (k : Nat) (i : Nat), 16 - i < k → i ≤ 16 → (∀ j, j < i → (fun o => xs_used O o && decide (O.2.1 o = 0 ∧ O.2.2.1 o = f)) j = false) → xk_W E m_K_isOpen 2 [some (.inr (some 1)), some (.inl (nI f)), some (.inl (nI i))] [] n m r 0 0 Q := by
  intro k
  induction k with
  | zero => intro i h; exact absurd h (Nat.not_lt_zero _)
  | succ k ih =>
    intro i hk hi hj
    have hcl := xs_cnt_le (g := O.1) (o := i) 42
    refine xk_iload_n (pc := 2) d_K_isOpen_2 rfl ?_
    refine xk_bipush (pc := 3) (v := nI 16) d_K_isOpen_3 (by decide) ?_
    first | refine xk_icmp_geN (pc := 5) (tgt := 29) d_K_isOpen_5 rfl (by omega) (by omega) (fun c_5 => ?_) (fun c_5 => ?_) | refine xk_icmp_ge (pc := 5) (tgt := 29) d_K_isOpen_5 rfl (fun c_5 => ?_) (fun c_5 => ?_)
    · refine xk_iconst (pc := 29) (v := nI 0) d_K_isOpen_29 (by decide) ?_
      refine xk_zret (pc := 30) rfl d_K_isOpen_30 rfl rfl (Nat.le_of_ble_eq_true rfl) (Nat.le_of_ble_eq_true rfl) ?_
      exact h0 (by unfold xs_openF; rw [xs_least_n (fun j _ b => hj j (by omega))]; rfl)
    · have hko := xr_kd_op i c_5
      have hiff := xr_of_file hO c_5 hf (hw i c_5)
      refine xk_aload_n (pc := 8) d_K_isOpen_8 rfl ?_
      refine xk_getRo (pc := 9) d_K_isOpen_9 fl_K_37 (by first | rfl | assumption) rfl (by omega) (by omega) (hS _ _ _ rfl (by omega)) ?_
      refine xk_iload_n (pc := 12) d_K_isOpen_12 rfl ?_
      refine xk_aaloado (pc := 13) d_K_isOpen_13 (by first | rfl | assumption) (by decide) (by decide) (by omega) (by omega) rfl (by omega) (by decide) (hS _ _ _ (xr_st_op _ c_5) (by omega)) ?_
      refine xk_iload_n (pc := 14) d_K_isOpen_14 rfl ?_
      refine xk_cV1 (pc := 15) d_K_isOpen_15 ml_K_227 cz_Opening_isOfFile ⟨rfl, rfl⟩ rfl (by first | rfl | assumption) (by omega) (by omega) (Nat.le_of_ble_eq_true rfl) ⟨(Nat.le_of_ble_eq_true rfl), (Nat.le_of_ble_eq_true rfl)⟩ ?_
      refine c_Opening_isOfFile hn hS c_5 (by omega) (hO.1 i c_5) (fun e1 e2 e3 => ?_) (fun e => ?_)
      · refine xk_if_eq (pc := 18) (tgt := 23) d_K_isOpen_18 rfl (fun h => absurd h (by decide)) (fun _ => ?_)
        refine xk_iconst (pc := 21) (v := nI 1) d_K_isOpen_21 (by decide) ?_
        refine xk_zret (pc := 22) rfl d_K_isOpen_22 rfl rfl (Nat.le_of_ble_eq_true rfl) (Nat.le_of_ble_eq_true rfl) ?_
        exact h1 (by unfold xs_openF; rw [xs_least_s (t := i) (by omega) (by omega) (hiff.mpr ⟨e1, e2, e3⟩) (fun j _ b => hj j b)]; rfl)
      · refine xk_if_eq (pc := 18) (tgt := 23) d_K_isOpen_18 rfl (fun _ => ?_) (fun h => absurd (by decide) h)
        refine xk_iincN (pc := 23) (d := 1) d_K_isOpen_23 rfl ?_
        refine xk_goto (pc := 26) (tgt := 2) d_K_isOpen_26 rfl ?_
        exact ih (i + 1) (by omega) (by omega) (fun j b => by
          by_cases q : j = i
          · subst q
            cases hq : (fun o => xs_used O o && decide (O.2.1 o = 0 ∧ O.2.2.1 o = f)) j with
            | false => rfl
            | true =>
              obtain ⟨g1, g2, g3⟩ := hiff.mp hq
              rcases e with e | ⟨a, e⟩ | e
              · exact absurd e g1
              · rw [g2] at e; cases e
              · exact absurd g3 e
          · exact hj j (by omega))

set_option maxRecDepth 20000 in
set_option maxHeartbeats 4000000 in
theorem c_K_isOpen {E : xk_E} {n : Nat} {m : xk_M} {r : xk_P} {Q : xk_Q} (hn : 74 ≤ n) (hS : xr_S r n) {O : xs_O} (hO : xr_O O m r n) {f : Nat} (hf : f < 8) (hw : ∀ o, o < 16 → xs_used O o = true → O.2.1 o = 0 → O.2.2.1 o < 8) (h1 : xs_openF O f = true → Q (some (.inl (nI 1))) n m r) (h0 : xs_openF O f = false → Q (some (.inl (nI 0))) n m r) : xk_W E m_K_isOpen 0 (xk_ent m_K_isOpen [.inr (some 1), .inl (nI f)]) [] n m r 0 0 Q := by
  show xk_W E m_K_isOpen 0 [some (.inr (some 1)), some (.inl (nI f)), none] [] n m r 0 0 Q
  refine xk_iconst (pc := 0) (v := nI 0) d_K_isOpen_0 (by decide) ?_
  refine xk_istore_n (pc := 1) d_K_isOpen_1 (by decide) ?_
  exact l_isOpen hn hS hO hf hw h1 h0 17 0 (by omega) (by omega) (fun j b => by omega)

set_option maxRecDepth 20000 in
set_option maxHeartbeats 4000000 in
theorem l_unused {E : xk_E} {n : Nat} {Q : xk_Q} {m : xk_M} {r : xk_P} {O : xs_O} (hn : 74 ≤ n) (hS : xr_S r n) (hO : xr_O O m r n) {i0 : Nat} {v1 : Option xk_V} (h1 : ∀ o, xs_least (fun o => !xs_used O o) i0 (16 - i0) = some o → o < 16 → Q (some (.inl (nI o))) n m r) (h0 : xs_least (fun o => !xs_used O o) i0 (16 - i0) = none → Q (some (.inl (-1))) n m r) : ∀ (k : Nat) (i : Nat), 16 - i < k → i0 ≤ i → i ≤ 16 → (∀ j, i0 ≤ j → j < i → xs_used O j = true) → xk_W E m_K_unusedFrom 2 [some (.inr (some 1)), v1, some (.inl (nI i))] [] n m r 0 0 Q := by
  intro k
  induction k with
  | zero => intro i h; exact absurd h (Nat.not_lt_zero _)
  | succ k ih =>
    intro i hk hi0 hi hj
    have hcl := xs_cnt_le (g := O.1) (o := i) 42
    refine xk_iload_n (pc := 2) d_K_unusedFrom_2 rfl ?_
    refine xk_bipush (pc := 3) (v := nI 16) d_K_unusedFrom_3 (by decide) ?_
    first | refine xk_icmp_geN (pc := 5) (tgt := 28) d_K_unusedFrom_5 rfl (by omega) (by omega) (fun c_5 => ?_) (fun c_5 => ?_) | refine xk_icmp_ge (pc := 5) (tgt := 28) d_K_unusedFrom_5 rfl (fun c_5 => ?_) (fun c_5 => ?_)
    · refine xk_iconst (pc := 28) (v := (-1)) d_K_unusedFrom_28 (by decide) ?_
      refine xk_iret (pc := 29) rfl d_K_unusedFrom_29 rfl (Nat.le_of_ble_eq_true rfl) (Nat.le_of_ble_eq_true rfl) ?_
      exact h0 (xs_least_n (fun j a b => by rw [hj j a (by omega)]; rfl))
    · have hko := xr_kd_op i c_5
      refine xk_aload_n (pc := 8) d_K_unusedFrom_8 rfl ?_
      refine xk_getRo (pc := 9) d_K_unusedFrom_9 fl_K_37 (by first | rfl | assumption) rfl (by omega) (by omega) (hS _ _ _ rfl (by omega)) ?_
      refine xk_iload_n (pc := 12) d_K_unusedFrom_12 rfl ?_
      refine xk_aaloado (pc := 13) d_K_unusedFrom_13 (by first | rfl | assumption) (by decide) (by decide) (by omega) (by omega) rfl (by omega) (by decide) (hS _ _ _ (xr_st_op _ c_5) (by omega)) ?_
      refine xk_getIo (pc := 14) d_K_unusedFrom_14 fl_K_230 (by first | rfl | assumption) rfl (by omega) (by omega) (hO.1 i c_5) ?_
      first | refine xk_if_neN (pc := 17) (tgt := 22) d_K_unusedFrom_17 rfl (by omega) (fun c_17 => ?_) (fun c_17 => ?_) | refine xk_if_ne (pc := 17) (tgt := 22) d_K_unusedFrom_17 rfl (fun c_17 => ?_) (fun c_17 => ?_)
      · refine xk_iincN (pc := 22) (d := 1) d_K_unusedFrom_22 rfl ?_
        refine xk_goto (pc := 25) (tgt := 2) d_K_unusedFrom_25 rfl ?_
        exact ih (i + 1) (by omega) (by omega) (by omega) (fun j a b => by
          by_cases q : j = i
          · subst q; exact xs_used_iff.mpr c_17
          · exact hj j a (by omega))
      · refine xk_iload_n (pc := 20) d_K_unusedFrom_20 rfl ?_
        refine xk_iret (pc := 21) rfl d_K_unusedFrom_21 rfl (Nat.le_of_ble_eq_true rfl) (Nat.le_of_ble_eq_true rfl) ?_
        exact h1 i (xs_least_s hi0 (by omega) (by rw [xs_u_f c_17]; rfl) (fun j a b => by rw [hj j a b]; rfl)) c_5

set_option maxRecDepth 20000 in
set_option maxHeartbeats 4000000 in
theorem c_K_unusedFrom {E : xk_E} {n : Nat} {m : xk_M} {r : xk_P} {Q : xk_Q} (hn : 74 ≤ n) (hS : xr_S r n) {O : xs_O} (hO : xr_O O m r n) {i0 : Nat} (hi0 : i0 ≤ 16) (h1 : ∀ o, xs_least (fun o => !xs_used O o) i0 (16 - i0) = some o → o < 16 → Q (some (.inl (nI o))) n m r) (h0 : xs_least (fun o => !xs_used O o) i0 (16 - i0) = none → Q (some (.inl (-1))) n m r) : xk_W E m_K_unusedFrom 0 (xk_ent m_K_unusedFrom [.inr (some 1), .inl (nI i0)]) [] n m r 0 0 Q := by
  show xk_W E m_K_unusedFrom 0 [some (.inr (some 1)), some (.inl (nI i0)), none] [] n m r 0 0 Q
  refine xk_iload_n (pc := 0) d_K_unusedFrom_0 rfl ?_
  refine xk_istore_n (pc := 1) d_K_unusedFrom_1 (by decide) ?_
  exact l_unused hn hS hO h1 h0 17 i0 (by omega) (Nat.le_refl _) hi0 (fun j a b => by omega)

set_option maxRecDepth 20000 in
set_option maxHeartbeats 4000000 in
theorem l_opsThere {E : xk_E} {n : Nat} {Q : xk_Q} {m : xk_M} {r : xk_P} {O : xs_O} (hn : 74 ≤ n) (hS : xr_S r n) (hO : xr_O O m r n) (hQ : Q (some (.inl (nI (xs_ops O)))) n m r) : ∀ (k : Nat) (i : Nat), 16 - i < k → i ≤ 16 → xk_W E m_K_openingsThere 4 [some (.inr (some 1)), some (.inl (nI (xs_num (xs_used O) i))), some (.inl (nI i))] [] n m r 0 0 Q := by
  intro k
  induction k with
  | zero => intro i h; exact absurd h (Nat.not_lt_zero _)
  | succ k ih =>
    intro i hk hi
    have hcl := xs_cnt_le (g := O.1) (o := i) 42
    refine xk_iload_n (pc := 4) d_K_openingsThere_4 rfl ?_
    refine xk_bipush (pc := 5) (v := nI 16) d_K_openingsThere_5 (by decide) ?_
    first | refine xk_icmp_geN (pc := 7) (tgt := 31) d_K_openingsThere_7 rfl (by omega) (by omega) (fun c_7 => ?_) (fun c_7 => ?_) | refine xk_icmp_ge (pc := 7) (tgt := 31) d_K_openingsThere_7 rfl (fun c_7 => ?_) (fun c_7 => ?_)
    · have e : i = 16 := by omega
      subst e
      refine xk_iload_n (pc := 31) d_K_openingsThere_31 rfl ?_
      refine xk_iret (pc := 32) rfl d_K_openingsThere_32 rfl (Nat.le_of_ble_eq_true rfl) (Nat.le_of_ble_eq_true rfl) ?_
      exact hQ
    · have hko := xr_kd_op i c_7
      refine xk_aload_n (pc := 10) d_K_openingsThere_10 rfl ?_
      refine xk_getRo (pc := 11) d_K_openingsThere_11 fl_K_37 (by first | rfl | assumption) rfl (by omega) (by omega) (hS _ _ _ rfl (by omega)) ?_
      refine xk_iload_n (pc := 14) d_K_openingsThere_14 rfl ?_
      refine xk_aaloado (pc := 15) d_K_openingsThere_15 (by first | rfl | assumption) (by decide) (by decide) (by omega) (by omega) rfl (by omega) (by decide) (hS _ _ _ (xr_st_op _ c_7) (by omega)) ?_
      refine xk_getIo (pc := 16) d_K_openingsThere_16 fl_K_230 (by first | rfl | assumption) rfl (by omega) (by omega) (hO.1 i c_7) ?_
      first | refine xk_if_leN (pc := 19) (tgt := 25) d_K_openingsThere_19 rfl (by omega) (fun c_19 => ?_) (fun c_19 => ?_) | refine xk_if_le (pc := 19) (tgt := 25) d_K_openingsThere_19 rfl (fun c_19 => ?_) (fun c_19 => ?_)
      · have es : xs_num (xs_used O) (i + 1) = xs_num (xs_used O) i := by
          show xs_num (xs_used O) i + (if xs_used O i = true then 1 else 0) = _
          rw [if_neg (by rw [xs_u_f c_19]; decide)]
          rfl
        refine xk_iincN (pc := 25) (d := 1) d_K_openingsThere_25 rfl ?_
        refine xk_goto (pc := 28) (tgt := 4) d_K_openingsThere_28 rfl ?_
        have K := ih (i + 1) (by omega) (by omega)
        rw [es] at K
        exact K
      · have es : xs_num (xs_used O) (i + 1) = xs_num (xs_used O) i + 1 := by
          show xs_num (xs_used O) i + (if xs_used O i = true then 1 else 0) = _
          rw [if_pos (xs_used_iff.mpr (by omega))]
        refine xk_iincN (pc := 22) (d := 1) d_K_openingsThere_22 rfl ?_
        refine xk_iincN (pc := 25) (d := 1) d_K_openingsThere_25 rfl ?_
        refine xk_goto (pc := 28) (tgt := 4) d_K_openingsThere_28 rfl ?_
        have K := ih (i + 1) (by omega) (by omega)
        rw [es] at K
        exact K

set_option maxRecDepth 20000 in
set_option maxHeartbeats 4000000 in
theorem c_K_openingsThere {E : xk_E} {n : Nat} {m : xk_M} {r : xk_P} {Q : xk_Q} (hn : 74 ≤ n) (hS : xr_S r n) {O : xs_O} (hO : xr_O O m r n) (hQ : Q (some (.inl (nI (xs_ops O)))) n m r) : xk_W E m_K_openingsThere 0 (xk_ent m_K_openingsThere [.inr (some 1)]) [] n m r 0 0 Q := by
  show xk_W E m_K_openingsThere 0 [some (.inr (some 1)), none, none] [] n m r 0 0 Q
  refine xk_iconst (pc := 0) (v := nI 0) d_K_openingsThere_0 (by decide) ?_
  refine xk_istore_n (pc := 1) d_K_openingsThere_1 (by decide) ?_
  refine xk_iconst (pc := 2) (v := nI 0) d_K_openingsThere_2 (by decide) ?_
  refine xk_istore_n (pc := 3) d_K_openingsThere_3 (by decide) ?_
  exact l_opsThere hn hS hO hQ 17 0 (by omega) (by omega)

set_option maxRecDepth 20000 in
set_option maxHeartbeats 4000000 in
theorem l_leastNot {E : xk_E} {n : Nat} {Q : xk_Q} {m : xk_M} {r : xk_P} {T : xs_T} (hn : 74 ≤ n) (hS : xr_S r n) (hT : xr_T T m) (hok : xs_okT T) (h1 : ∀ q, xs_least (fun q => decide (T.1 q = 0)) 1 6 = some q → 1 ≤ q → q < 7 → Q (some (.inl (nI q))) n m r) (h0 : xs_least (fun q => decide (T.1 q = 0)) 1 6 = none → Q (some (.inl (-1))) n m r) : ∀ (k : Nat) (i : Nat), 7 - i < k → 1 ≤ i → i ≤ 7 → (∀ j, 1 ≤ j → j < i → T.1 j ≠ 0) → xk_W E m_K_leastNotThere 2 [some (.inr (some 1)), some (.inl (nI i))] [] n m r 0 0 Q := by
  intro k
  induction k with
  | zero => intro i h; exact absurd h (Nat.not_lt_zero _)
  | succ k ih =>
    intro i hk hi1 hi hj
    refine xk_iload_n (pc := 2) d_K_leastNotThere_2 rfl ?_
    refine xk_bipush (pc := 3) (v := nI 6) d_K_leastNotThere_3 (by decide) ?_
    first | refine xk_icmp_gtN (pc := 5) (tgt := 28) d_K_leastNotThere_5 rfl (by omega) (by omega) (fun c_5 => ?_) (fun c_5 => ?_) | refine xk_icmp_gt (pc := 5) (tgt := 28) d_K_leastNotThere_5 rfl (fun c_5 => ?_) (fun c_5 => ?_)
    · refine xk_iconst (pc := 28) (v := (-1)) d_K_leastNotThere_28 (by decide) ?_
      refine xk_iret (pc := 29) rfl d_K_leastNotThere_29 rfl (Nat.le_of_ble_eq_true rfl) (Nat.le_of_ble_eq_true rfl) ?_
      exact h0 (xs_least_n (fun j a b => decide_eq_false (hj j a (by omega))))
    · have hi7 : i < 7 := by omega
      have hkt := xr_kd_ta i hi7
      have hle := hok.2.2.1 i hi7
      refine xk_aload_n (pc := 8) d_K_leastNotThere_8 rfl ?_
      refine xk_getRo (pc := 9) d_K_leastNotThere_9 fl_K_44 (by first | rfl | assumption) rfl (by omega) (by omega) (hS _ _ _ rfl (by omega)) ?_
      refine xk_iload_n (pc := 12) d_K_leastNotThere_12 rfl ?_
      refine xk_aaloado (pc := 13) d_K_leastNotThere_13 (by first | rfl | assumption) (by decide) (by decide) (by omega) (by omega) rfl (by omega) (by decide) (hS _ _ _ (xr_st_ts _ hi7) (by omega)) ?_
      refine xk_getIo (pc := 14) d_K_leastNotThere_14 fl_K_173 (by first | rfl | assumption) rfl (by omega) (by omega) (hT.1 i hi7) ?_
      first | refine xk_if_neN (pc := 17) (tgt := 22) d_K_leastNotThere_17 rfl (by omega) (fun c_17 => ?_) (fun c_17 => ?_) | refine xk_if_ne (pc := 17) (tgt := 22) d_K_leastNotThere_17 rfl (fun c_17 => ?_) (fun c_17 => ?_)
      · refine xk_iincN (pc := 22) (d := 1) d_K_leastNotThere_22 rfl ?_
        refine xk_goto (pc := 25) (tgt := 2) d_K_leastNotThere_25 rfl ?_
        exact ih (i + 1) (by omega) (by omega) (by omega) (fun j a b => by
          by_cases q : j = i
          · subst q; exact c_17
          · exact hj j a (by omega))
      · refine xk_iload_n (pc := 20) d_K_leastNotThere_20 rfl ?_
        refine xk_iret (pc := 21) rfl d_K_leastNotThere_21 rfl (Nat.le_of_ble_eq_true rfl) (Nat.le_of_ble_eq_true rfl) ?_
        exact h1 i (xs_least_s hi1 (by omega) (decide_eq_true c_17) (fun j a b => decide_eq_false (hj j a b))) hi1 hi7

set_option maxRecDepth 20000 in
set_option maxHeartbeats 4000000 in
theorem c_K_leastNotThere {E : xk_E} {n : Nat} {m : xk_M} {r : xk_P} {Q : xk_Q} (hn : 74 ≤ n) (hS : xr_S r n) {T : xs_T} (hT : xr_T T m) (hok : xs_okT T) (h1 : ∀ q, xs_least (fun q => decide (T.1 q = 0)) 1 6 = some q → 1 ≤ q → q < 7 → Q (some (.inl (nI q))) n m r) (h0 : xs_least (fun q => decide (T.1 q = 0)) 1 6 = none → Q (some (.inl (-1))) n m r) : xk_W E m_K_leastNotThere 0 (xk_ent m_K_leastNotThere [.inr (some 1)]) [] n m r 0 0 Q := by
  show xk_W E m_K_leastNotThere 0 [some (.inr (some 1)), none] [] n m r 0 0 Q
  refine xk_iconst (pc := 0) (v := nI 1) d_K_leastNotThere_0 (by decide) ?_
  refine xk_istore_n (pc := 1) d_K_leastNotThere_1 (by decide) ?_
  exact l_leastNot hn hS hT hok h1 h0 8 1 (by omega) (by omega) (by omega) (fun j a b => by omega)

set_option maxRecDepth 20000 in
set_option maxHeartbeats 4000000 in
theorem l_tasksThere {E : xk_E} {n : Nat} {Q : xk_Q} {m : xk_M} {r : xk_P} {T : xs_T} (hn : 74 ≤ n) (hS : xr_S r n) (hT : xr_T T m) (hok : xs_okT T) (hQ : Q (some (.inl (nI (xs_num (fun q => decide (1 ≤ q ∧ T.1 q ≠ 0)) 7)))) n m r) : ∀ (k : Nat) (i : Nat), 7 - i < k → 1 ≤ i → i ≤ 7 → xk_W E m_K_tasksThere 4 [some (.inr (some 1)), some (.inl (nI (xs_num (fun q => decide (1 ≤ q ∧ T.1 q ≠ 0)) i))), some (.inl (nI i))] [] n m r 0 0 Q := by
  intro k
  induction k with
  | zero => intro i h; exact absurd h (Nat.not_lt_zero _)
  | succ k ih =>
    intro i hk hi1 hi
    refine xk_iload_n (pc := 4) d_K_tasksThere_4 rfl ?_
    refine xk_bipush (pc := 5) (v := nI 6) d_K_tasksThere_5 (by decide) ?_
    first | refine xk_icmp_gtN (pc := 7) (tgt := 31) d_K_tasksThere_7 rfl (by omega) (by omega) (fun c_7 => ?_) (fun c_7 => ?_) | refine xk_icmp_gt (pc := 7) (tgt := 31) d_K_tasksThere_7 rfl (fun c_7 => ?_) (fun c_7 => ?_)
    · have e : i = 7 := by omega
      subst e
      refine xk_iload_n (pc := 31) d_K_tasksThere_31 rfl ?_
      refine xk_iret (pc := 32) rfl d_K_tasksThere_32 rfl (Nat.le_of_ble_eq_true rfl) (Nat.le_of_ble_eq_true rfl) ?_
      exact hQ
    · have hi7 : i < 7 := by omega
      have hkt := xr_kd_ta i hi7
      have hle := hok.2.2.1 i hi7
      refine xk_aload_n (pc := 10) d_K_tasksThere_10 rfl ?_
      refine xk_getRo (pc := 11) d_K_tasksThere_11 fl_K_44 (by first | rfl | assumption) rfl (by omega) (by omega) (hS _ _ _ rfl (by omega)) ?_
      refine xk_iload_n (pc := 14) d_K_tasksThere_14 rfl ?_
      refine xk_aaloado (pc := 15) d_K_tasksThere_15 (by first | rfl | assumption) (by decide) (by decide) (by omega) (by omega) rfl (by omega) (by decide) (hS _ _ _ (xr_st_ts _ hi7) (by omega)) ?_
      refine xk_getIo (pc := 16) d_K_tasksThere_16 fl_K_173 (by first | rfl | assumption) rfl (by omega) (by omega) (hT.1 i hi7) ?_
      first | refine xk_if_eqN (pc := 19) (tgt := 25) d_K_tasksThere_19 rfl (by omega) (fun c_19 => ?_) (fun c_19 => ?_) | refine xk_if_eq (pc := 19) (tgt := 25) d_K_tasksThere_19 rfl (fun c_19 => ?_) (fun c_19 => ?_)
      · have es : xs_num (fun q => decide (1 ≤ q ∧ T.1 q ≠ 0)) (i + 1) = xs_num (fun q => decide (1 ≤ q ∧ T.1 q ≠ 0)) i := by
          show xs_num _ i + (if decide (1 ≤ i ∧ T.1 i ≠ 0) = true then 1 else 0) = _
          rw [if_neg (by simp [c_19])]
          rfl
        refine xk_iincN (pc := 25) (d := 1) d_K_tasksThere_25 rfl ?_
        refine xk_goto (pc := 28) (tgt := 4) d_K_tasksThere_28 rfl ?_
        have K := ih (i + 1) (by omega) (by omega) (by omega)
        rw [es] at K
        exact K
      · have es : xs_num (fun q => decide (1 ≤ q ∧ T.1 q ≠ 0)) (i + 1) = xs_num (fun q => decide (1 ≤ q ∧ T.1 q ≠ 0)) i + 1 := by
          show xs_num _ i + (if decide (1 ≤ i ∧ T.1 i ≠ 0) = true then 1 else 0) = _
          rw [if_pos (decide_eq_true ⟨hi1, c_19⟩)]
        refine xk_iincN (pc := 22) (d := 1) d_K_tasksThere_22 rfl ?_
        refine xk_iincN (pc := 25) (d := 1) d_K_tasksThere_25 rfl ?_
        refine xk_goto (pc := 28) (tgt := 4) d_K_tasksThere_28 rfl ?_
        have K := ih (i + 1) (by omega) (by omega) (by omega)
        rw [es] at K
        exact K

set_option maxRecDepth 20000 in
set_option maxHeartbeats 4000000 in
theorem c_K_tasksThere {E : xk_E} {n : Nat} {m : xk_M} {r : xk_P} {Q : xk_Q} (hn : 74 ≤ n) (hS : xr_S r n) {T : xs_T} (hT : xr_T T m) (hok : xs_okT T) (hQ : Q (some (.inl (nI (xs_num (fun q => decide (1 ≤ q ∧ T.1 q ≠ 0)) 7)))) n m r) : xk_W E m_K_tasksThere 0 (xk_ent m_K_tasksThere [.inr (some 1)]) [] n m r 0 0 Q := by
  show xk_W E m_K_tasksThere 0 [some (.inr (some 1)), none, none] [] n m r 0 0 Q
  refine xk_iconst (pc := 0) (v := nI 0) d_K_tasksThere_0 (by decide) ?_
  refine xk_istore_n (pc := 1) d_K_tasksThere_1 (by decide) ?_
  refine xk_iconst (pc := 2) (v := nI 1) d_K_tasksThere_2 (by decide) ?_
  refine xk_istore_n (pc := 3) d_K_tasksThere_3 (by decide) ?_
  have e1 : xs_num (fun q => decide (1 ≤ q ∧ T.1 q ≠ 0)) 1 = 0 := by
    show 0 + (if decide (1 ≤ 0 ∧ T.1 0 ≠ 0) = true then 1 else 0) = 0
    rw [if_neg (by simp)]
  have K := l_tasksThere (E := E) hn hS hT hok hQ 8 1 (by omega) (by omega) (by omega)
  rw [e1] at K
  exact K
