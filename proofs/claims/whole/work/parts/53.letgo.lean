theorem xs_bit1 : ∀ k, k ≤ 2 → k ≠ 0 → (nI k &&& nI 1 = 0 ↔ k = 2) := by decide

theorem xr_0_dek : ∀ p, p < 7 → ∀ k, xr_st (40 + 2 * p) k = none := by
  intro p hp k
  match p, hp with
  | 0, _ => rfl
  | 1, _ => rfl
  | 2, _ => rfl
  | 3, _ => rfl
  | 4, _ => rfl
  | 5, _ => rfl
  | 6, _ => rfl

set_option maxRecDepth 20000 in
set_option maxHeartbeats 4000000 in
theorem c_Task_letGo {E : xk_E} {n : Nat} {m : xk_M} {r : xk_P} {Q : xk_Q} (hn : 74 ≤ n) (hS : xr_S r n) {p : Nat} (hp : p < 7) {d : Nat} (hd : d < 6) {O : xs_O} (hO : xr_O O m r n) (hU : xs_okU O) (h16 : ∀ k o, k < 42 → O.1 k = some o → o < 16) (hQ : ∀ m' r', xr_O (xs_of O (6 * p + d) none) m' r' n → (∀ a, (a < 22 ∨ (38 ≤ a ∧ a < 74)) → m' a = m a) → (∀ a, a ≠ 40 + 2 * p → r' a = r a) → Q none n m' r') : xk_W E m_Task_letGo 0 (xk_ent m_Task_letGo [.inr (some (39 + 2 * p)), .inl (nI d)]) [] n m r 0 0 Q := by
  show xk_W E m_Task_letGo 0 [some (.inr (some (39 + 2 * p))), some (.inl (nI d)), none] [] n m r 0 0 Q
  have hkt := xr_kd_ta p hp
  have hkd := xr_kd_de p hp
  refine xk_aload_n (pc := 0) d_Task_letGo_0 rfl ?_
  refine xk_getRo (pc := 1) d_Task_letGo_1 fl_Task_23 (by first | rfl | assumption) rfl (by omega) (by omega) (hS _ _ _ (xr_st_ta _ hp) (by omega)) ?_
  refine xk_iload_n (pc := 4) d_Task_letGo_4 rfl ?_
  refine xk_aaloado (pc := 5) d_Task_letGo_5 (by first | rfl | assumption) (by decide) (by decide) (by omega) (by omega) rfl (by omega) (by decide) (hO.2.1 p d hp hd) ?_
  refine xk_astore_n (pc := 6) d_Task_letGo_6 (by decide) ?_
  refine xk_aload_n (pc := 7) d_Task_letGo_7 rfl ?_
  refine xk_ifnull (pc := 8) (tgt := 22) d_Task_letGo_8 rfl (fun c_8 => ?_) (fun a_8 c_8 => ?_)
  · have e0 : O.1 (6 * p + d) = none := by
      cases hq : O.1 (6 * p + d) with
      | none => rfl
      | some o => rw [hq] at c_8; cases c_8
    rw [xs_of_none e0] at hQ
    refine xk_vret (pc := 22) rfl d_Task_letGo_22 rfl (Nat.le_of_ble_eq_true rfl) (Nat.le_of_ble_eq_true rfl) ?_
    first | exact hQ _ _ hfin hfr (fun a ha => by funext j; exact xk_up_a ha) | exact hQ m r hO (fun _ _ => rfl) (fun _ _ => rfl)
  · obtain ⟨o, e0, ea⟩ : ∃ o, O.1 (6 * p + d) = some o ∧ a_8 = 22 + o := by
      cases hq : O.1 (6 * p + d) with
      | none => rw [hq] at c_8; cases c_8
      | some o => rw [hq] at c_8; exact ⟨o, rfl, (Option.some.inj c_8).symm⟩
    subst ea
    have c_8' : (O.1 (6 * p + d)).map (fun o => 22 + o) = some (22 + o) := c_8
    rw [c_8']
    have ho := h16 _ o (by omega) e0
    have hu := xs_used_of (by omega) e0
    have hcle := xs_cnt_le (g := O.1) (o := o) 42
    obtain ⟨c, hc⟩ : ∃ c, xs_cnt O.1 o 42 = c + 1 := ⟨xs_cnt O.1 o 42 - 1, by have := xs_used_iff.mp hu; omega⟩
    have hcm : m (22 + o) 0 = nI (c + 1) := by rw [← hc]; exact hO.1 o ho
    have hko := xr_kd_op o ho
    obtain ⟨k1, k2, k3, k4⟩ := hU.1 o ho hu
    have hOO := hO
    obtain ⟨-, -, pa, h3, h4, -⟩ := hOO
    obtain ⟨i1, i2, i3⟩ := h3 o ho hu
    have hS2 : xr_S (xk_up r (40 + 2 * p) d none) n := xr_S.up hS (xr_0_de p hp d hd)
    refine xk_aload_n (pc := 11) d_Task_letGo_11 rfl ?_
    refine xk_getRo (pc := 12) d_Task_letGo_12 fl_Task_23 (by first | rfl | assumption) rfl (by omega) (by omega) (hS _ _ _ (xr_st_ta _ hp) (by omega)) ?_
    refine xk_iload_n (pc := 15) d_Task_letGo_15 rfl ?_
    refine xk_null (pc := 16) d_Task_letGo_16 ?_
    refine xk_aastoreN (pc := 17) d_Task_letGo_17 hkd (by decide) (by decide) (by omega) (by omega) rfl (by omega) (by decide) ?_
    refine xk_aload_n (pc := 18) d_Task_letGo_18 rfl ?_
    refine xk_cV0 (pc := 19) d_Task_letGo_19 ml_Task_33 cz_Opening_loseHolder ⟨rfl, rfl⟩ rfl (by first | rfl | assumption) (by omega) (by omega) (Nat.le_of_ble_eq_true rfl) ⟨(Nat.le_of_ble_eq_true rfl), (Nat.le_of_ble_eq_true rfl)⟩ ?_
    have rk : xk_up r (40 + 2 * p) d none (22 + o) 4 = r (22 + o) 4 := xk_up_a (by omega)
    refine c_Opening_loseHolder hn hS2 ho (c := c) (x := nI (O.2.2.2.1 o)) hcm (by omega) i1 ?_ ?_ ?_ ?_
    · intro A hA hc0
      rw [rk] at hA
      have k0 : O.2.1 o ≠ 0 := fun z => by rw [(i2 z).1] at hA; cases hA
      have e2 := Option.some.inj ((i3 k0).symm.trans hA)
      obtain ⟨a1, a2, a3, -⟩ := h4 o ho hu k0
      rw [e2] at a1 a2 a3
      exact ⟨a1, a2, by omega⟩
    · intro hor
      have hfin : xr_O (xs_of O (6 * p + d) none) (xk_up m (22 + o) 0 (nI c)) (xk_up r (40 + 2 * p) d none) n := by
        by_cases hc0 : c = 0
        · have hn0 : r (22 + o) 4 = none := by
            rcases hor with q | q
            · exact absurd hc0 q
            · rw [rk] at q; exact q
          subst hc0
          exact xr_O_last hO hU hp hd ho e0 hc (fun a e1 _ => by funext j; exact xk_up_a e1) xk_up_s (fun A hA => by rw [hn0] at hA; cases hA)
        · exact xr_O_let hO hp hd ho e0 hc hc0
      have hfr : ∀ a, (a < 22 ∨ (38 ≤ a ∧ a < 74)) → (xk_up m (22 + o) 0 (nI c)) a = m a := fun a ha => by funext j; exact xk_up_a (by omega)
      refine xk_vret (pc := 22) rfl d_Task_letGo_22 rfl (Nat.le_of_ble_eq_true rfl) (Nat.le_of_ble_eq_true rfl) ?_
      first | exact hQ _ _ hfin hfr (fun a ha => by funext j; exact xk_up_a ha) | exact hQ m r hO (fun _ _ => rfl) (fun _ _ => rfl)
    · intro A hc0 hA hb
      rw [rk] at hA
      have k0 : O.2.1 o ≠ 0 := fun z => by rw [(i2 z).1] at hA; cases hA
      rw [(k4 k0).2.1] at hb
      have kk : O.2.1 o = 1 := by
        have := xs_bit1 (O.2.1 o) k1 k0
        have : ¬ O.2.1 o = 2 := fun q => hb (this.mpr q)
        omega
      have e2 := Option.some.inj ((i3 k0).symm.trans hA)
      have a1 := (h4 o ho hu k0).1
      rw [e2] at a1
      subst hc0
      have hfin : xr_O (xs_of O (6 * p + d) none) (xk_up (xk_up m (22 + o) 0 (nI 0)) A 3 (nI 0)) (xk_up r (40 + 2 * p) d none) n := xr_O_last hO hU hp hd ho e0 hc (fun a q1 q2 => by funext j; rw [xk_up_a (fun z => q2 (by rw [hA, z])), xk_up_a q1]) (by rw [xk_up_a (by omega), xk_up_s]) (fun B hB hB1 => by
        have e3 := Option.some.inj (hA.symm.trans hB)
        subst e3
        rw [kk]
        exact ⟨fun j hj => by rw [xk_up_k hj, xk_up_a (by omega)], xk_up_s⟩)
      have hfr : ∀ a, (a < 22 ∨ (38 ≤ a ∧ a < 74)) → (xk_up (xk_up m (22 + o) 0 (nI 0)) A 3 (nI 0)) a = m a := fun a ha => by funext j; rw [xk_up_a (by omega), xk_up_a (by omega)]
      refine xk_vret (pc := 22) rfl d_Task_letGo_22 rfl (Nat.le_of_ble_eq_true rfl) (Nat.le_of_ble_eq_true rfl) ?_
      first | exact hQ _ _ hfin hfr (fun a ha => by funext j; exact xk_up_a ha) | exact hQ m r hO (fun _ _ => rfl) (fun _ _ => rfl)
    · intro A hc0 hA hb
      rw [rk] at hA
      have k0 : O.2.1 o ≠ 0 := fun z => by rw [(i2 z).1] at hA; cases hA
      rw [(k4 k0).2.1] at hb
      have kk : O.2.1 o = 2 := (xs_bit1 (O.2.1 o) k1 k0).mp hb
      have e2 := Option.some.inj ((i3 k0).symm.trans hA)
      have a1 := (h4 o ho hu k0).1
      rw [e2] at a1
      subst hc0
      have hfin : xr_O (xs_of O (6 * p + d) none) (xk_up (xk_up m (22 + o) 0 (nI 0)) A 4 (nI 0)) (xk_up r (40 + 2 * p) d none) n := xr_O_last hO hU hp hd ho e0 hc (fun a q1 q2 => by funext j; rw [xk_up_a (fun z => q2 (by rw [hA, z])), xk_up_a q1]) (by rw [xk_up_a (by omega), xk_up_s]) (fun B hB hB1 => by
        have e3 := Option.some.inj (hA.symm.trans hB)
        subst e3
        rw [kk]
        exact ⟨fun j hj => by rw [xk_up_k hj, xk_up_a (by omega)], xk_up_s⟩)
      have hfr : ∀ a, (a < 22 ∨ (38 ≤ a ∧ a < 74)) → (xk_up (xk_up m (22 + o) 0 (nI 0)) A 4 (nI 0)) a = m a := fun a ha => by funext j; rw [xk_up_a (by omega), xk_up_a (by omega)]
      refine xk_vret (pc := 22) rfl d_Task_letGo_22 rfl (Nat.le_of_ble_eq_true rfl) (Nat.le_of_ble_eq_true rfl) ?_
      first | exact hQ _ _ hfin hfr (fun a ha => by funext j; exact xk_up_a ha) | exact hQ m r hO (fun _ _ => rfl) (fun _ _ => rfl)

/-- a process without its first d descriptors -/
def xs_baT (O : xs_O) (p d : Nat) : xs_O := (fun k => if 6 * p ≤ k ∧ k < 6 * p + d then none else O.1 k, O.2)
theorem xs_baT_0 {O : xs_O} {p : Nat} : xs_baT O p 0 = O := by
  have : (fun k => if 6 * p ≤ k ∧ k < 6 * p + 0 then none else O.1 k) = O.1 := by
    funext k
    rw [if_neg (by omega)]
  show (_, O.2) = O
  rw [this]
theorem xs_baT_s {O : xs_O} {p d : Nat} : xs_of (xs_baT O p d) (6 * p + d) none = xs_baT O p (d + 1) := by
  have : xs_u (fun k => if 6 * p ≤ k ∧ k < 6 * p + d then none else O.1 k) (6 * p + d) none = fun k => if 6 * p ≤ k ∧ k < 6 * p + (d + 1) then none else O.1 k := by
    funext k
    by_cases e : k = 6 * p + d
    · subst e
      rw [xs_u_s, if_pos ⟨by omega, by omega⟩]
    · rw [xs_u_n e]
      by_cases e2 : 6 * p ≤ k ∧ k < 6 * p + d
      · rw [if_pos e2, if_pos ⟨e2.1, by omega⟩]
      · rw [if_neg e2, if_neg (by omega)]
  exact congrArg (fun z => ((z, O.2) : xs_O)) this
theorem xs_bare_T {O : xs_O} {p : Nat} : xs_baT O p 6 = xs_bare O p := rfl
theorem xs_baT_k {O : xs_O} {p d k o : Nat} (h : (xs_baT O p d).1 k = some o) : O.1 k = some o := by
  change (if 6 * p ≤ k ∧ k < 6 * p + d then none else O.1 k) = some o at h
  split at h
  · cases h
  · exact h

set_option maxRecDepth 20000 in
set_option maxHeartbeats 4000000 in
theorem l_letGoAll {E : xk_E} {n : Nat} {Q : xk_Q} {O : xs_O} {m0 : xk_M} {r0 : xk_P} {p : Nat} (hn : 74 ≤ n) (hp : p < 7) (h16 : ∀ k o, k < 42 → O.1 k = some o → o < 16) (hQ : ∀ m' r', xr_O (xs_bare O p) m' r' n → xr_S r' n → (∀ a, (a < 22 ∨ (38 ≤ a ∧ a < 74)) → m' a = m0 a) → (∀ a, a ≠ 40 + 2 * p → r' a = r0 a) → Q none n m' r') : ∀ (k : Nat) (i : Nat) (m : xk_M) (r : xk_P), 6 - i < k → i ≤ 6 → xr_O (xs_baT O p i) m r n → xs_okU (xs_baT O p i) → xr_S r n → (∀ a, (a < 22 ∨ (38 ≤ a ∧ a < 74)) → m a = m0 a) → (∀ a, a ≠ 40 + 2 * p → r a = r0 a) → xk_W E m_Task_letGoAll 2 [some (.inr (some (39 + 2 * p))), some (.inl (nI i))] [] n m r 0 0 Q := by
  intro k
  induction k with
  | zero => intro i m r h; exact absurd h (Nat.not_lt_zero _)
  | succ k ih =>
    intro i m r hk hi hO hU hS hm hr
    have hkt := xr_kd_ta p hp
    refine xk_iload_n (pc := 2) d_Task_letGoAll_2 rfl ?_
    refine xk_bipush (pc := 3) (v := nI 6) d_Task_letGoAll_3 (by decide) ?_
    first | refine xk_icmp_geN (pc := 5) (tgt := 19) d_Task_letGoAll_5 rfl (by omega) (by omega) (fun c_5 => ?_) (fun c_5 => ?_) | refine xk_icmp_ge (pc := 5) (tgt := 19) d_Task_letGoAll_5 rfl (fun c_5 => ?_) (fun c_5 => ?_)
    · have e : i = 6 := by omega
      subst e
      refine xk_vret (pc := 19) rfl d_Task_letGoAll_19 rfl (Nat.le_of_ble_eq_true rfl) (Nat.le_of_ble_eq_true rfl) ?_
      exact hQ m r hO hS hm hr
    · refine xk_aload_n (pc := 8) d_Task_letGoAll_8 rfl ?_
      refine xk_iload_n (pc := 9) d_Task_letGoAll_9 rfl ?_
      refine xk_cV1 (pc := 10) d_Task_letGoAll_10 ml_Task_40 cz_Task_letGo ⟨rfl, rfl⟩ rfl (by first | rfl | assumption) (by omega) (by omega) (Nat.le_of_ble_eq_true rfl) ⟨(Nat.le_of_ble_eq_true rfl), (Nat.le_of_ble_eq_true rfl)⟩ ?_
      refine c_Task_letGo hn hS hp c_5 hO hU (fun k o hk h => h16 k o hk (xs_baT_k h)) (fun m1 r1 hO1 hm1 hr1 => ?_)
      have hU1 : xs_okU (xs_of (xs_baT O p i) (6 * p + i) none) := xs_okU_sub hU (xs_used_r (by omega)) rfl
      rw [xs_baT_s] at hO1 hU1
      have hS1 : xr_S r1 n := fun a k v hv ha => by
        by_cases q : a = 40 + 2 * p
        · subst q
          have hz : xr_st (40 + 2 * p) k = none := xr_0_dek p hp k
          rw [hz] at hv
          cases hv
        · rw [hr1 a q]; exact hS a k v hv ha
      refine xk_iincN (pc := 13) (d := 1) d_Task_letGoAll_13 rfl ?_
      refine xk_goto (pc := 16) (tgt := 2) d_Task_letGoAll_16 rfl ?_
      exact ih (i + 1) m1 r1 (by omega) (by omega) hO1 hU1 hS1 (fun a ha => (hm1 a ha).trans (hm a ha)) (fun a ha => (hr1 a ha).trans (hr a ha))

set_option maxRecDepth 20000 in
set_option maxHeartbeats 4000000 in
theorem c_Task_letGoAll {E : xk_E} {n : Nat} {m : xk_M} {r : xk_P} {Q : xk_Q} (hn : 74 ≤ n) (hS : xr_S r n) {p : Nat} (hp : p < 7) {O : xs_O} (hO : xr_O O m r n) (hU : xs_okU O) (h16 : ∀ k o, k < 42 → O.1 k = some o → o < 16) (hQ : ∀ m' r', xr_O (xs_bare O p) m' r' n → xr_S r' n → (∀ a, (a < 22 ∨ (38 ≤ a ∧ a < 74)) → m' a = m a) → (∀ a, a ≠ 40 + 2 * p → r' a = r a) → Q none n m' r') : xk_W E m_Task_letGoAll 0 (xk_ent m_Task_letGoAll [.inr (some (39 + 2 * p))]) [] n m r 0 0 Q := by
  show xk_W E m_Task_letGoAll 0 [some (.inr (some (39 + 2 * p))), none] [] n m r 0 0 Q
  refine xk_iconst (pc := 0) (v := nI 0) d_Task_letGoAll_0 (by decide) ?_
  refine xk_istore_n (pc := 1) d_Task_letGoAll_1 (by decide) ?_
  exact l_letGoAll hn hp h16 hQ 7 0 m r (by omega) (by omega) (by rw [xs_baT_0]; exact hO) (by rw [xs_baT_0]; exact hU) hS (fun _ _ => rfl) (fun _ _ => rfl)

set_option maxRecDepth 20000 in
set_option maxHeartbeats 4000000 in
theorem c_Task_vanish {E : xk_E} {n : Nat} {m : xk_M} {r : xk_P} {Q : xk_Q} (hn : 74 ≤ n) (hS : xr_S r n) {p : Nat} (hp : p < 7) {O : xs_O} (hO : xr_O O m r n) (hU : xs_okU O) (h16 : ∀ k o, k < 42 → O.1 k = some o → o < 16) (hQ : ∀ m' r', xr_O (xs_bare O p) m' r' n → xr_S r' n → (∀ a, (a < 22 ∨ (38 ≤ a ∧ a < 74)) → a ≠ 39 + 2 * p → m' a = m a) → (∀ k, m' (39 + 2 * p) k = if k = 0 then nI 0 else m (39 + 2 * p) k) → (∀ a, a ≠ 40 + 2 * p → r' a = r a) → Q none n m' r') : xk_W E m_Task_vanish 0 (xk_ent m_Task_vanish [.inr (some (39 + 2 * p))]) [] n m r 0 0 Q := by
  show xk_W E m_Task_vanish 0 [some (.inr (some (39 + 2 * p)))] [] n m r 0 0 Q
  have hkt := xr_kd_ta p hp
  have hkd := xr_kd_de p hp
  refine xk_aload_n (pc := 0) d_Task_vanish_0 rfl ?_
  refine xk_cV0 (pc := 1) d_Task_vanish_1 ml_Task_27 cz_Task_letGoAll ⟨rfl, rfl⟩ rfl (by first | rfl | assumption) (by omega) (by omega) (Nat.le_of_ble_eq_true rfl) ⟨(Nat.le_of_ble_eq_true rfl), (Nat.le_of_ble_eq_true rfl)⟩ ?_
  refine c_Task_letGoAll hn hS hp hO hU h16 (fun m1 r1 hO1 hS1 hm1 hr1 => ?_)
  refine xk_aload_n (pc := 4) d_Task_vanish_4 rfl ?_
  refine xk_iconst (pc := 5) (v := nI 0) d_Task_vanish_5 (by decide) ?_
  refine xk_putI (pc := 6) d_Task_vanish_6 fl_Task_11 (by first | rfl | assumption) rfl (fun q hq h => by cases hq; first | exact absurd h (by decide) | exact ⟨rfl, rfl, rfl⟩) ⟨rfl, rfl⟩ (by omega) (by omega) ?_
  refine xk_vret (pc := 9) rfl d_Task_vanish_9 rfl (Nat.le_of_ble_eq_true rfl) (Nat.le_of_ble_eq_true rfl) ?_
  refine hQ _ r1 (xr_O_kept hO1 (Nat.le_refl _) (fun a _ _ => by funext j; exact xk_up_a (by omega)) (fun a _ _ => by funext j; exact xk_up_a (by omega)) (fun _ _ _ => rfl)) hS1 (fun a ha e => by rw [← hm1 a ha]; funext j; exact xk_up_a e) (fun k => ?_) hr1
  by_cases e : k = 0
  · subst e; rw [xk_up_s, if_pos rfl]
  · rw [xk_up_k e, if_neg e, hm1 _ (by omega)]

set_option maxRecDepth 20000 in
set_option maxHeartbeats 4000000 in
theorem c_Task_finish {E : xk_E} {n : Nat} {m : xk_M} {r : xk_P} {Q : xk_Q} (hn : 74 ≤ n) (hS : xr_S r n) {p : Nat} (hp : p < 7) {x : Int32} {O : xs_O} (hO : xr_O O m r n) (hU : xs_okU O) (h16 : ∀ k o, k < 42 → O.1 k = some o → o < 16) (hQ : ∀ m' r', xr_O (xs_bare O p) m' r' n → xr_S r' n → (∀ a, (a < 22 ∨ (38 ≤ a ∧ a < 74)) → a ≠ 39 + 2 * p → m' a = m a) → (∀ k, m' (39 + 2 * p) k = if k = 0 then nI 2 else if k = 2 then x else m (39 + 2 * p) k) → (∀ a, a ≠ 40 + 2 * p → r' a = r a) → Q none n m' r') : xk_W E m_Task_finish 0 (xk_ent m_Task_finish [.inr (some (39 + 2 * p)), .inl x]) [] n m r 0 0 Q := by
  show xk_W E m_Task_finish 0 [some (.inr (some (39 + 2 * p))), some (.inl x)] [] n m r 0 0 Q
  have hkt := xr_kd_ta p hp
  have hkd := xr_kd_de p hp
  refine xk_aload_n (pc := 0) d_Task_finish_0 rfl ?_
  refine xk_cV0 (pc := 1) d_Task_finish_1 ml_Task_27 cz_Task_letGoAll ⟨rfl, rfl⟩ rfl (by first | rfl | assumption) (by omega) (by omega) (Nat.le_of_ble_eq_true rfl) ⟨(Nat.le_of_ble_eq_true rfl), (Nat.le_of_ble_eq_true rfl)⟩ ?_
  refine c_Task_letGoAll hn hS hp hO hU h16 (fun m1 r1 hO1 hS1 hm1 hr1 => ?_)
  refine xk_aload_n (pc := 4) d_Task_finish_4 rfl ?_
  refine xk_iconst (pc := 5) (v := nI 2) d_Task_finish_5 (by decide) ?_
  refine xk_putI (pc := 6) d_Task_finish_6 fl_Task_11 (by first | rfl | assumption) rfl (fun q hq h => by cases hq; first | exact absurd h (by decide) | exact ⟨rfl, rfl, rfl⟩) ⟨rfl, rfl⟩ (by omega) (by omega) ?_
  refine xk_aload_n (pc := 9) d_Task_finish_9 rfl ?_
  refine xk_iload_n (pc := 10) d_Task_finish_10 rfl ?_
  refine xk_putI (pc := 11) d_Task_finish_11 fl_Task_18 (by first | rfl | assumption) rfl (fun q hq h => by cases hq; first | exact absurd h (by decide) | exact ⟨rfl, rfl, rfl⟩) ⟨rfl, rfl⟩ (by omega) (by omega) ?_
  refine xk_vret (pc := 14) rfl d_Task_finish_14 rfl (Nat.le_of_ble_eq_true rfl) (Nat.le_of_ble_eq_true rfl) ?_
  refine hQ _ r1 (xr_O_kept hO1 (Nat.le_refl _) (fun a _ _ => by funext j; rw [xk_up_a (by omega), xk_up_a (by omega)]) (fun a _ _ => by funext j; rw [xk_up_a (by omega), xk_up_a (by omega)]) (fun _ _ _ => rfl)) hS1 (fun a ha e => by rw [← hm1 a ha]; funext j; rw [xk_up_a e, xk_up_a e]) (fun k => ?_) hr1
  by_cases e : k = 0
  · subst e; rw [xk_up_k (by decide), xk_up_s, if_pos rfl]
  · rw [if_neg e]
    by_cases e2 : k = 2
    · subst e2; rw [xk_up_s, if_pos rfl]
    · rw [xk_up_k e2, xk_up_k e, if_neg e2, hm1 _ (by omega)]
