set_option maxRecDepth 20000 in
set_option maxHeartbeats 4000000 in
theorem c_Opening_init {E : xk_E} {n : Nat} {m : xk_M} {r : xk_P} {Q : xk_Q} {a : Nat} (hk : xk_kd a = .inl 3) (ha : 1 ≤ a) (han : a < n) (hz : ∀ k, m a k = 0) (hz4 : r a 4 = none) (hQ : Q none n m r) : xk_W E m_Opening_init 0 (xk_ent m_Opening_init [.inr (some a)]) [] n m r 0 0 Q := by
  show xk_W E m_Opening_init 0 [some (.inr (some a))] [] n m r 0 0 Q
  refine xk_aload_n (pc := 0) d_Opening_init_0 rfl ?_
  refine xk_objInit (pc := 1) d_Opening_init_1 (xk_in (List.mem_of_getElem? (i := 138) (by decide +kernel)) rfl) (xk_in (List.mem_of_getElem? (i := 52) (by decide +kernel)) rfl) (xk_in (List.mem_of_getElem? (i := 53) (by decide +kernel)) rfl) (Nat.le_of_ble_eq_true rfl) (Nat.le_of_ble_eq_true rfl) ?_
  refine xk_aload_n (pc := 4) d_Opening_init_4 rfl ?_
  refine xk_iconst (pc := 5) (v := nI 0) d_Opening_init_5 (by decide) ?_
  refine xk_putI (pc := 6) d_Opening_init_6 fl_Opening_9 (by first | rfl | assumption) rfl (fun q hq h => by cases hq; first | exact absurd h (by decide) | exact ⟨rfl, rfl, rfl⟩) ⟨rfl, rfl⟩ (by omega) (by omega) ?_
  rw [xk_up_id (show m a 0 = nI 0 from hz 0)]
  refine xk_aload_n (pc := 9) d_Opening_init_9 rfl ?_
  refine xk_iconst (pc := 10) (v := nI 0) d_Opening_init_10 (by decide) ?_
  refine xk_putI (pc := 11) d_Opening_init_11 fl_Opening_15 (by first | rfl | assumption) rfl (fun q hq h => by cases hq; first | exact absurd h (by decide) | exact ⟨rfl, rfl, rfl⟩) ⟨rfl, rfl⟩ (by omega) (by omega) ?_
  rw [xk_up_id (show m a 1 = nI 0 from hz 1)]
  refine xk_aload_n (pc := 14) d_Opening_init_14 rfl ?_
  refine xk_iconst (pc := 15) (v := nI 0) d_Opening_init_15 (by decide) ?_
  refine xk_putI (pc := 16) d_Opening_init_16 fl_Opening_18 (by first | rfl | assumption) rfl (fun q hq h => by cases hq; first | exact absurd h (by decide) | exact ⟨rfl, rfl, rfl⟩) ⟨rfl, rfl⟩ (by omega) (by omega) ?_
  rw [xk_up_id (show m a 2 = nI 0 from hz 2)]
  refine xk_aload_n (pc := 19) d_Opening_init_19 rfl ?_
  refine xk_iconst (pc := 20) (v := nI 0) d_Opening_init_20 (by decide) ?_
  refine xk_putI (pc := 21) d_Opening_init_21 fl_Opening_21 (by first | rfl | assumption) rfl (fun q hq h => by cases hq; first | exact absurd h (by decide) | exact ⟨rfl, rfl, rfl⟩) ⟨rfl, rfl⟩ (by omega) (by omega) ?_
  rw [xk_up_id (show m a 3 = nI 0 from hz 3)]
  refine xk_aload_n (pc := 24) d_Opening_init_24 rfl ?_
  refine xk_null (pc := 25) d_Opening_init_25 ?_
  refine xk_putR (pc := 26) d_Opening_init_26 fl_Opening_24 (by first | rfl | assumption) rfl (fun q hq h => by cases hq; first | exact absurd h (by decide) | exact ⟨rfl, rfl, rfl⟩) ⟨rfl, rfl⟩ (by omega) (by omega) ?_
  rw [xk_up_id hz4]
  refine xk_vret (pc := 29) rfl d_Opening_init_29 rfl (Nat.le_of_ble_eq_true rfl) (Nat.le_of_ble_eq_true rfl) ?_
  exact hQ

set_option maxRecDepth 20000 in
set_option maxHeartbeats 4000000 in
theorem c_Task_init {E : xk_E} {n : Nat} {m : xk_M} {r : xk_P} {Q : xk_Q} {a : Nat} (hk : xk_kd a = .inl 5) (hk2 : xk_kd n = .inr (3, 6)) (ha : 1 ≤ a) (han : a < n) (hz : ∀ k, m a k = 0) (hQ : Q none (n + 1) (xk_up m a 1 (-1)) (xk_up r a 3 (some n))) : xk_W E m_Task_init 0 (xk_ent m_Task_init [.inr (some a)]) [] n m r 0 0 Q := by
  show xk_W E m_Task_init 0 [some (.inr (some a))] [] n m r 0 0 Q
  refine xk_aload_n (pc := 0) d_Task_init_0 rfl ?_
  refine xk_objInit (pc := 1) d_Task_init_1 (xk_in (List.mem_of_getElem? (i := 166) (by decide +kernel)) rfl) (xk_in (List.mem_of_getElem? (i := 52) (by decide +kernel)) rfl) (xk_in (List.mem_of_getElem? (i := 53) (by decide +kernel)) rfl) (Nat.le_of_ble_eq_true rfl) (Nat.le_of_ble_eq_true rfl) ?_
  refine xk_aload_n (pc := 4) d_Task_init_4 rfl ?_
  refine xk_iconst (pc := 5) (v := nI 0) d_Task_init_5 (by decide) ?_
  refine xk_putI (pc := 6) d_Task_init_6 fl_Task_11 (by first | rfl | assumption) rfl (fun q hq h => by cases hq; first | exact absurd h (by decide) | exact ⟨rfl, rfl, rfl⟩) ⟨rfl, rfl⟩ (by omega) (by omega) ?_
  rw [xk_up_id (show m a 0 = nI 0 from hz 0)]
  refine xk_aload_n (pc := 9) d_Task_init_9 rfl ?_
  refine xk_iconst (pc := 10) (v := (-1)) d_Task_init_10 (by decide) ?_
  refine xk_putI (pc := 11) d_Task_init_11 fl_Task_15 (by first | rfl | assumption) rfl (fun q hq h => by cases hq; first | exact absurd h (by decide) | exact ⟨rfl, rfl, rfl⟩) ⟨rfl, rfl⟩ (by omega) (by omega) ?_
  refine xk_aload_n (pc := 14) d_Task_init_14 rfl ?_
  refine xk_iconst (pc := 15) (v := nI 0) d_Task_init_15 (by decide) ?_
  refine xk_putI (pc := 16) d_Task_init_16 fl_Task_18 (by first | rfl | assumption) rfl (fun q hq h => by cases hq; first | exact absurd h (by decide) | exact ⟨rfl, rfl, rfl⟩) ⟨rfl, rfl⟩ (by omega) (by omega) ?_
  rw [xk_up_id (show xk_up m a 1 (-1) a 2 = nI 0 from (xk_up_k (by decide)).trans (hz 2))]
  refine xk_aload_n (pc := 19) d_Task_init_19 rfl ?_
  refine xk_bipush (pc := 20) (v := nI 6) d_Task_init_20 (by decide) ?_
  refine xk_anew (pc := 22) (t := 3) d_Task_init_22 (by first | rfl | assumption) (by decide) (by decide) rfl (xk_in (List.mem_of_getElem? (i := 167) (by decide +kernel)) rfl) (by decide) rfl (by decide) (Nat.le_of_ble_eq_true rfl) (Nat.le_of_ble_eq_true rfl) (fun hz_22 => ?_)
  refine xk_putR (pc := 25) d_Task_init_25 fl_Task_23 (by first | rfl | assumption) rfl (fun q hq h => by cases hq; first | exact absurd h (by decide) | exact ⟨rfl, rfl, rfl⟩) ⟨rfl, rfl⟩ (by omega) (by omega) ?_
  refine xk_vret (pc := 28) rfl d_Task_init_28 rfl (Nat.le_of_ble_eq_true rfl) (Nat.le_of_ble_eq_true rfl) ?_
  exact hQ

set_option maxRecDepth 20000 in
set_option maxHeartbeats 4000000 in
theorem c_Block_init {E : xk_E} {n : Nat} {m : xk_M} {r : xk_P} {Q : xk_Q} {a : Nat} (hk : xk_kd a = .inl 0) (hk2 : xk_kd n = .inr (0, 8)) (ha : 1 ≤ a) (han : a < n) (hz : ∀ k, m a k = 0) (hQ : Q none (n + 1) m (xk_up r a 3 (some n))) : xk_W E m_Block_init 0 (xk_ent m_Block_init [.inr (some a)]) [] n m r 0 0 Q := by
  show xk_W E m_Block_init 0 [some (.inr (some a))] [] n m r 0 0 Q
  refine xk_aload_n (pc := 0) d_Block_init_0 rfl ?_
  refine xk_objInit (pc := 1) d_Block_init_1 (xk_in (List.mem_of_getElem? (i := 96) (by decide +kernel)) rfl) (xk_in (List.mem_of_getElem? (i := 52) (by decide +kernel)) rfl) (xk_in (List.mem_of_getElem? (i := 53) (by decide +kernel)) rfl) (Nat.le_of_ble_eq_true rfl) (Nat.le_of_ble_eq_true rfl) ?_
  refine xk_aload_n (pc := 4) d_Block_init_4 rfl ?_
  refine xk_iconst (pc := 5) (v := nI 0) d_Block_init_5 (by decide) ?_
  refine xk_putI (pc := 6) d_Block_init_6 fl_Block_9 (by first | rfl | assumption) rfl (fun q hq h => by cases hq; first | exact absurd h (by decide) | exact ⟨rfl, rfl, rfl⟩) ⟨rfl, rfl⟩ (by omega) (by omega) ?_
  rw [xk_up_id (show m a 0 = nI 0 from hz 0)]
  refine xk_aload_n (pc := 9) d_Block_init_9 rfl ?_
  refine xk_iconst (pc := 10) (v := nI 0) d_Block_init_10 (by decide) ?_
  refine xk_putI (pc := 11) d_Block_init_11 fl_Block_15 (by first | rfl | assumption) rfl (fun q hq h => by cases hq; first | exact absurd h (by decide) | exact ⟨rfl, rfl, rfl⟩) ⟨rfl, rfl⟩ (by omega) (by omega) ?_
  rw [xk_up_id (show m a 1 = nI 0 from hz 1)]
  refine xk_aload_n (pc := 14) d_Block_init_14 rfl ?_
  refine xk_iconst (pc := 15) (v := nI 0) d_Block_init_15 (by decide) ?_
  refine xk_putI (pc := 16) d_Block_init_16 fl_Block_18 (by first | rfl | assumption) rfl (fun q hq h => by cases hq; first | exact absurd h (by decide) | exact ⟨rfl, rfl, rfl⟩) ⟨rfl, rfl⟩ (by omega) (by omega) ?_
  rw [xk_up_id (show m a 2 = nI 0 from hz 2)]
  refine xk_aload_n (pc := 19) d_Block_init_19 rfl ?_
  refine xk_bipush (pc := 20) (v := nI 8) d_Block_init_20 (by decide) ?_
  refine xk_newarr (pc := 22) (t := 0) d_Block_init_22 (by first | rfl | assumption) (by decide) rfl (xk_in (List.mem_of_getElem? (i := 83) (by decide +kernel)) rfl) rfl (by decide) (Nat.le_of_ble_eq_true rfl) (Nat.le_of_ble_eq_true rfl) (fun hz_22 => ?_)
  refine xk_putR (pc := 24) d_Block_init_24 fl_Block_22 (by first | rfl | assumption) rfl (fun q hq h => by cases hq; first | exact absurd h (by decide) | exact ⟨rfl, rfl, rfl⟩) ⟨rfl, rfl⟩ (by omega) (by omega) ?_
  refine xk_vret (pc := 27) rfl d_Block_init_27 rfl (Nat.le_of_ble_eq_true rfl) (Nat.le_of_ble_eq_true rfl) ?_
  exact hQ

set_option maxRecDepth 20000 in
set_option maxHeartbeats 4000000 in
theorem c_Host_init {E : xk_E} {m : xk_M} {r : xk_P} {Q : xk_Q} (hz : ∀ k, m 2 k = 0) (hQ : Q none 7 m (xk_up (xk_up (xk_up (xk_up r 2 0 (some 3)) 2 1 (some 4)) 2 2 (some 5)) 2 3 (some 6))) : xk_W E m_Host_init 0 (xk_ent m_Host_init [.inr (some 2)]) [] 3 m r 0 0 Q := by
  show xk_W E m_Host_init 0 [some (.inr (some 2))] [] 3 m r 0 0 Q
  refine xk_aload_n (pc := 0) d_Host_init_0 rfl ?_
  refine xk_objInit (pc := 1) d_Host_init_1 (xk_in (List.mem_of_getElem? (i := 59) (by decide +kernel)) rfl) (xk_in (List.mem_of_getElem? (i := 52) (by decide +kernel)) rfl) (xk_in (List.mem_of_getElem? (i := 53) (by decide +kernel)) rfl) (Nat.le_of_ble_eq_true rfl) (Nat.le_of_ble_eq_true rfl) ?_
  refine xk_aload_n (pc := 4) d_Host_init_4 rfl ?_
  refine xk_bipush (pc := 5) (v := nI 8) d_Host_init_5 (by decide) ?_
  refine xk_newarr (pc := 7) (t := 1) d_Host_init_7 (by first | rfl | assumption) (by decide) rfl (xk_in (List.mem_of_getElem? (i := 82) (by decide +kernel)) rfl) rfl (by decide) (Nat.le_of_ble_eq_true rfl) (Nat.le_of_ble_eq_true rfl) (fun hz_7 => ?_)
  refine xk_putR (pc := 9) d_Host_init_9 fl_Host_9 (by first | rfl | assumption) rfl (fun q hq h => by cases hq; first | exact absurd h (by decide) | exact ⟨rfl, rfl, rfl⟩) ⟨rfl, rfl⟩ (by omega) (by omega) ?_
  refine xk_aload_n (pc := 12) d_Host_init_12 rfl ?_
  refine xk_bipush (pc := 13) (v := nI 8) d_Host_init_13 (by decide) ?_
  refine xk_newarr (pc := 15) (t := 0) d_Host_init_15 (by first | rfl | assumption) (by decide) rfl (xk_in (List.mem_of_getElem? (i := 83) (by decide +kernel)) rfl) rfl (by decide) (Nat.le_of_ble_eq_true rfl) (Nat.le_of_ble_eq_true rfl) (fun hz_15 => ?_)
  refine xk_putR (pc := 17) d_Host_init_17 fl_Host_15 (by first | rfl | assumption) rfl (fun q hq h => by cases hq; first | exact absurd h (by decide) | exact ⟨rfl, rfl, rfl⟩) ⟨rfl, rfl⟩ (by omega) (by omega) ?_
  refine xk_aload_n (pc := 20) d_Host_init_20 rfl ?_
  refine xk_sipush (pc := 21) (v := nI 256) d_Host_init_21 (by decide) ?_
  refine xk_newarr (pc := 24) (t := 0) d_Host_init_24 (by first | rfl | assumption) (by decide) rfl (xk_in (List.mem_of_getElem? (i := 83) (by decide +kernel)) rfl) rfl (by decide) (Nat.le_of_ble_eq_true rfl) (Nat.le_of_ble_eq_true rfl) (fun hz_24 => ?_)
  refine xk_putR (pc := 26) d_Host_init_26 fl_Host_19 (by first | rfl | assumption) rfl (fun q hq h => by cases hq; first | exact absurd h (by decide) | exact ⟨rfl, rfl, rfl⟩) ⟨rfl, rfl⟩ (by omega) (by omega) ?_
  refine xk_aload_n (pc := 29) d_Host_init_29 rfl ?_
  refine xk_bipush (pc := 30) (v := nI 16) d_Host_init_30 (by decide) ?_
  refine xk_newarr (pc := 32) (t := 0) d_Host_init_32 (by first | rfl | assumption) (by decide) rfl (xk_in (List.mem_of_getElem? (i := 83) (by decide +kernel)) rfl) rfl (by decide) (Nat.le_of_ble_eq_true rfl) (Nat.le_of_ble_eq_true rfl) (fun hz_32 => ?_)
  refine xk_putR (pc := 34) d_Host_init_34 fl_Host_22 (by first | rfl | assumption) rfl (fun q hq h => by cases hq; first | exact absurd h (by decide) | exact ⟨rfl, rfl, rfl⟩) ⟨rfl, rfl⟩ (by omega) (by omega) ?_
  refine xk_aload_n (pc := 37) d_Host_init_37 rfl ?_
  refine xk_iconst (pc := 38) (v := nI 0) d_Host_init_38 (by decide) ?_
  refine xk_putI (pc := 39) d_Host_init_39 fl_Host_25 (by first | rfl | assumption) rfl (fun q hq h => by cases hq; first | exact absurd h (by decide) | exact ⟨rfl, rfl, rfl⟩) ⟨rfl, rfl⟩ (by omega) (by omega) ?_
  rw [xk_up_id (show m 2 6 = nI 0 from hz 6)]
  refine xk_aload_n (pc := 42) d_Host_init_42 rfl ?_
  refine xk_iconst (pc := 43) (v := nI 0) d_Host_init_43 (by decide) ?_
  refine xk_putI (pc := 44) d_Host_init_44 fl_Host_29 (by first | rfl | assumption) rfl (fun q hq h => by cases hq; first | exact absurd h (by decide) | exact ⟨rfl, rfl, rfl⟩) ⟨rfl, rfl⟩ (by omega) (by omega) ?_
  rw [xk_up_id (show m 2 4 = nI 0 from hz 4)]
  refine xk_aload_n (pc := 47) d_Host_init_47 rfl ?_
  refine xk_iconst (pc := 48) (v := nI 0) d_Host_init_48 (by decide) ?_
  refine xk_putI (pc := 49) d_Host_init_49 fl_Host_32 (by first | rfl | assumption) rfl (fun q hq h => by cases hq; first | exact absurd h (by decide) | exact ⟨rfl, rfl, rfl⟩) ⟨rfl, rfl⟩ (by omega) (by omega) ?_
  rw [xk_up_id (show m 2 5 = nI 0 from hz 5)]
  refine xk_vret (pc := 52) rfl d_Host_init_52 rfl (Nat.le_of_ble_eq_true rfl) (Nat.le_of_ble_eq_true rfl) ?_
  exact hQ

def xz_c (r : xk_P) (i : Nat) : xk_P := fun a k => if a = 9 ∧ k < i then some (10 + 2 * k) else if 10 ≤ a ∧ a < 10 + 2 * i ∧ a % 2 = 0 ∧ k = 3 then some (a + 1) else r a k
theorem xz_c0 {r : xk_P} : xz_c r 0 = r := by
  funext a k
  unfold xz_c
  rw [if_neg (by omega), if_neg (by omega)]
theorem xz_cs {r : xk_P} {i : Nat} : xk_up (xk_up (xz_c r i) (10 + 2 * i) 3 (some (10 + 2 * i + 1))) 9 i (some (10 + 2 * i)) = xz_c r (i + 1) := by
  funext a k
  unfold xk_up xz_c
  by_cases h1 : a = 9 ∧ k = i
  · rw [if_pos h1, if_pos ⟨h1.1, by omega⟩, h1.2]
  · rw [if_neg h1]
    by_cases h2 : a = 10 + 2 * i ∧ k = 3
    · rw [if_pos h2, if_neg (by omega), if_pos ⟨by omega, by omega, by omega, h2.2⟩, h2.1]
    · rw [if_neg h2]
      by_cases h3 : a = 9 ∧ k < i
      · rw [if_pos h3, if_pos ⟨h3.1, by omega⟩]
      · rw [if_neg h3, if_neg (show ¬ (a = 9 ∧ k < i + 1) by omega)]
        by_cases h4 : 10 ≤ a ∧ a < 10 + 2 * i ∧ a % 2 = 0 ∧ k = 3
        · rw [if_pos h4, if_pos ⟨h4.1, by omega, h4.2.2⟩]
        · rw [if_neg h4, if_neg (show ¬ (10 ≤ a ∧ a < 10 + 2 * (i + 1) ∧ a % 2 = 0 ∧ k = 3) by omega)]

set_option maxRecDepth 20000 in
set_option maxHeartbeats 4000000 in
theorem l_cacheI {E : xk_E} {Q : xk_Q} {m : xk_M} {r : xk_P} {v1 : Option xk_V} (hm : ∀ a k, 10 ≤ a → m a k = 0) (h72 : r 7 2 = some 9) (hQ : Q none 20 m (xz_c r 5)) : ∀ (k : Nat) (i : Nat), 5 - i < k → i ≤ 5 → xk_W E m_Cache_init 32 [some (.inr (some 7)), v1, some (.inl (nI i))] [] (10 + 2 * i) m (xz_c r i) (2 + 2 * i) (13 + 12 * i) Q := by
  intro k
  induction k with
  | zero => intro i h; exact absurd h (Nat.not_lt_zero _)
  | succ k ih =>
    intro i hk hi
    refine xk_iload_n (pc := 32) d_Cache_init_32 rfl ?_
    refine xk_iconst (pc := 33) (v := nI 5) d_Cache_init_33 (by decide) ?_
    first | refine xk_icmp_geN (pc := 34) (tgt := 56) d_Cache_init_34 rfl (by omega) (by omega) (fun c_34 => ?_) (fun c_34 => ?_) | refine xk_icmp_ge (pc := 34) (tgt := 56) d_Cache_init_34 rfl (fun c_34 => ?_) (fun c_34 => ?_)
    · have e : i = 5 := by omega
      subst e
      refine xk_vret (pc := 56) rfl d_Cache_init_56 rfl (Nat.le_of_ble_eq_true rfl) (Nat.le_of_ble_eq_true rfl) ?_
      exact hQ
    · have hkb := xr_kd_blk i c_34
      have hkc := xr_kd_bc i c_34
      rw [show 11 + 2 * i = 10 + 2 * i + 1 by omega] at hkc
      refine xk_aload_n (pc := 37) d_Cache_init_37 rfl ?_
      refine xk_getRo (pc := 38) d_Cache_init_38 fl_Cache_17 (by first | rfl | assumption) rfl (by omega) (by omega) (show xz_c r i 7 2 = some 9 by unfold xz_c; rw [if_neg (by omega), if_neg (by omega)]; exact h72) ?_
      refine xk_iload_n (pc := 41) d_Cache_init_41 rfl ?_
      refine xk_new (pc := 42) (ci := 0) d_Cache_init_42 (by first | rfl | assumption) rfl (by decide) (xk_in (List.mem_of_getElem? (i := 90) (by decide +kernel)) rfl) (xk_in (List.mem_of_getElem? (i := 92) (by decide +kernel)) rfl) (xk_in (List.mem_of_getElem? (i := 38) (by decide +kernel)) rfl) (show 2 + 2 * i + 1 ≤ 12 by omega) (show 13 + 12 * i + 4 ≤ 200 by omega) (fun hz_42 => ?_)
      refine xk_dup (pc := 45) d_Cache_init_45 ?_
      refine xk_cI0 (pc := 46) d_Cache_init_46 ml_Cache_29 cz_Block_init rfl (Nat.le_of_ble_eq_true rfl) (show 2 + 2 * i + 1 + 1 ≤ 12 by omega) (show 13 + 12 * i + 4 + 8 ≤ 200 by omega) ?_
      refine c_Block_init hkb hkc (by omega) (by omega) (fun k => hm _ k (by omega)) ?_
      refine xk_aastore (pc := 49) (ci := 0) d_Cache_init_49 rfl (by decide) (by decide) (by omega) (by omega) rfl (by omega) (by decide) hkb rfl rfl (by omega) (by omega) ?_
      rw [xz_cs]
      refine xk_iincN (pc := 50) (d := 1) d_Cache_init_50 rfl ?_
      refine xk_goto (pc := 53) (tgt := 32) d_Cache_init_53 rfl ?_
      exact ih (i + 1) (by omega) (by omega)

set_option maxRecDepth 20000 in
set_option maxHeartbeats 4000000 in
theorem c_Cache_init {E : xk_E} {m : xk_M} {r : xk_P} {Q : xk_Q} (hm : ∀ a k, 7 ≤ a → m a k = 0) (hQ : Q none 20 m (xz_c (xk_up (xk_up (xk_up r 7 1 (some 8)) 7 2 (some 9)) 7 0 (some 2)) 5)) : xk_W E m_Cache_init 0 (xk_ent m_Cache_init [.inr (some 7), .inr (some 2)]) [] 8 m r 0 0 Q := by
  show xk_W E m_Cache_init 0 [some (.inr (some 7)), some (.inr (some 2)), none] [] 8 m r 0 0 Q
  refine xk_aload_n (pc := 0) d_Cache_init_0 rfl ?_
  refine xk_objInit (pc := 1) d_Cache_init_1 (xk_in (List.mem_of_getElem? (i := 89) (by decide +kernel)) rfl) (xk_in (List.mem_of_getElem? (i := 52) (by decide +kernel)) rfl) (xk_in (List.mem_of_getElem? (i := 53) (by decide +kernel)) rfl) (Nat.le_of_ble_eq_true rfl) (Nat.le_of_ble_eq_true rfl) ?_
  refine xk_aload_n (pc := 4) d_Cache_init_4 rfl ?_
  refine xk_bipush (pc := 5) (v := nI 8) d_Cache_init_5 (by decide) ?_
  refine xk_newarr (pc := 7) (t := 0) d_Cache_init_7 (by first | rfl | assumption) (by decide) rfl (xk_in (List.mem_of_getElem? (i := 83) (by decide +kernel)) rfl) rfl (by decide) (Nat.le_of_ble_eq_true rfl) (Nat.le_of_ble_eq_true rfl) (fun hz_7 => ?_)
  refine xk_putR (pc := 9) d_Cache_init_9 fl_Cache_9 (by first | rfl | assumption) rfl (fun q hq h => by cases hq; first | exact absurd h (by decide) | exact ⟨rfl, rfl, rfl⟩) ⟨rfl, rfl⟩ (by omega) (by omega) ?_
  refine xk_aload_n (pc := 12) d_Cache_init_12 rfl ?_
  refine xk_iconst (pc := 13) (v := nI 5) d_Cache_init_13 (by decide) ?_
  refine xk_anew (pc := 14) (t := 2) d_Cache_init_14 (by first | rfl | assumption) (by decide) (by decide) rfl (xk_in (List.mem_of_getElem? (i := 90) (by decide +kernel)) rfl) (by decide) rfl (by decide) (Nat.le_of_ble_eq_true rfl) (Nat.le_of_ble_eq_true rfl) (fun hz_14 => ?_)
  refine xk_putR (pc := 17) d_Cache_init_17 fl_Cache_17 (by first | rfl | assumption) rfl (fun q hq h => by cases hq; first | exact absurd h (by decide) | exact ⟨rfl, rfl, rfl⟩) ⟨rfl, rfl⟩ (by omega) (by omega) ?_
  refine xk_aload_n (pc := 20) d_Cache_init_20 rfl ?_
  refine xk_iconst (pc := 21) (v := nI 0) d_Cache_init_21 (by decide) ?_
  refine xk_putI (pc := 22) d_Cache_init_22 fl_Cache_21 (by first | rfl | assumption) rfl (fun q hq h => by cases hq; first | exact absurd h (by decide) | exact ⟨rfl, rfl, rfl⟩) ⟨rfl, rfl⟩ (by omega) (by omega) ?_
  rw [xk_up_id (show m 7 3 = nI 0 from hm 7 3 (by omega))]
  refine xk_aload_n (pc := 25) d_Cache_init_25 rfl ?_
  refine xk_aload_n (pc := 26) d_Cache_init_26 rfl ?_
  refine xk_putR (pc := 27) d_Cache_init_27 fl_Cache_25 (by first | rfl | assumption) rfl (fun q hq h => by cases hq; first | exact absurd h (by decide) | exact ⟨rfl, rfl, rfl⟩) ⟨rfl, rfl⟩ (by omega) (by omega) ?_
  refine xk_iconst (pc := 30) (v := nI 0) d_Cache_init_30 (by decide) ?_
  refine xk_istore_n (pc := 31) d_Cache_init_31 (by decide) ?_
  have K := l_cacheI (E := E) (v1 := some (.inr (some 2))) (r := xk_up (xk_up (xk_up r 7 1 (some 8)) 7 2 (some 9)) 7 0 (some 2)) (fun a k h => hm a k (by omega)) (by rw [xk_up_k (by decide), xk_up_s]) hQ 6 0 (by omega) (by omega)
  rw [xz_c0] at K
  exact K

def xz_o (r : xk_P) (i : Nat) : xk_P := fun a k => if a = 21 ∧ k < i then some (22 + k) else r a k
theorem xz_o0 {r : xk_P} : xz_o r 0 = r := by
  funext a k
  unfold xz_o
  rw [if_neg (by omega)]
theorem xz_os {r : xk_P} {i : Nat} : xk_up (xz_o r i) 21 i (some (22 + i)) = xz_o r (i + 1) := by
  funext a k
  unfold xk_up xz_o
  by_cases h1 : a = 21 ∧ k = i
  · rw [if_pos h1, if_pos ⟨h1.1, by omega⟩, h1.2]
  · rw [if_neg h1]
    by_cases h3 : a = 21 ∧ k < i
    · rw [if_pos h3, if_pos ⟨h3.1, by omega⟩]
    · rw [if_neg h3, if_neg (show ¬ (a = 21 ∧ k < i + 1) by omega)]
def xz_t (r : xk_P) (i : Nat) : xk_P := fun a k => if a = 38 ∧ k < i then some (39 + 2 * k) else if 39 ≤ a ∧ a < 39 + 2 * i ∧ a % 2 = 1 ∧ k = 3 then some (a + 1) else r a k
def xz_m (m : xk_M) (i : Nat) : xk_M := fun a k => if 39 ≤ a ∧ a < 39 + 2 * i ∧ a % 2 = 1 ∧ k = 1 then -1 else m a k
theorem xz_t0 {r : xk_P} : xz_t r 0 = r := by
  funext a k
  unfold xz_t
  rw [if_neg (by omega), if_neg (by omega)]
theorem xz_m0 {m : xk_M} : xz_m m 0 = m := by
  funext a k
  unfold xz_m
  rw [if_neg (by omega)]
theorem xz_ts {r : xk_P} {i : Nat} : xk_up (xk_up (xz_t r i) (39 + 2 * i) 3 (some (39 + 2 * i + 1))) 38 i (some (39 + 2 * i)) = xz_t r (i + 1) := by
  funext a k
  unfold xk_up xz_t
  by_cases h1 : a = 38 ∧ k = i
  · rw [if_pos h1, if_pos ⟨h1.1, by omega⟩, h1.2]
  · rw [if_neg h1]
    by_cases h2 : a = 39 + 2 * i ∧ k = 3
    · rw [if_pos h2, if_neg (by omega), if_pos ⟨by omega, by omega, by omega, h2.2⟩, h2.1]
    · rw [if_neg h2]
      by_cases h3 : a = 38 ∧ k < i
      · rw [if_pos h3, if_pos ⟨h3.1, by omega⟩]
      · rw [if_neg h3, if_neg (show ¬ (a = 38 ∧ k < i + 1) by omega)]
        by_cases h4 : 39 ≤ a ∧ a < 39 + 2 * i ∧ a % 2 = 1 ∧ k = 3
        · rw [if_pos h4, if_pos ⟨h4.1, by omega, h4.2.2⟩]
        · rw [if_neg h4, if_neg (show ¬ (39 ≤ a ∧ a < 39 + 2 * (i + 1) ∧ a % 2 = 1 ∧ k = 3) by omega)]
theorem xz_ms {m : xk_M} {i : Nat} : xk_up (xz_m m i) (39 + 2 * i) 1 (-1) = xz_m m (i + 1) := by
  funext a k
  unfold xk_up xz_m
  by_cases h1 : a = 39 + 2 * i ∧ k = 1
  · rw [if_pos h1, if_pos ⟨by omega, by omega, by omega, h1.2⟩]
  · rw [if_neg h1]
    by_cases h4 : 39 ≤ a ∧ a < 39 + 2 * i ∧ a % 2 = 1 ∧ k = 1
    · rw [if_pos h4, if_pos ⟨h4.1, by omega, h4.2.2⟩]
    · rw [if_neg h4, if_neg (show ¬ (39 ≤ a ∧ a < 39 + 2 * (i + 1) ∧ a % 2 = 1 ∧ k = 1) by omega)]

set_option maxRecDepth 20000 in
set_option maxHeartbeats 4000000 in
theorem l_kO {E : xk_E} {Q : xk_Q} {m : xk_M} {r : xk_P} (hm : ∀ a k, 21 ≤ a → m a k = 0) (hr : ∀ a k, 22 ≤ a → r a k = none) (h13 : r 1 3 = some 21) (hK : xk_W E m_K_init 82 [some (.inr (some 1)), some (.inl (nI 16))] [] 38 m (xz_o r 16) 36 603 Q) : ∀ (k : Nat) (i : Nat), 16 - i < k → i ≤ 16 → xk_W E m_K_init 57 [some (.inr (some 1)), some (.inl (nI i))] [] (22 + i) m (xz_o r i) (20 + i) (523 + 5 * i) Q := by
  intro k
  induction k with
  | zero => intro i h; exact absurd h (Nat.not_lt_zero _)
  | succ k ih =>
    intro i hk hi
    refine xk_iload_n (pc := 57) d_K_init_57 rfl ?_
    refine xk_bipush (pc := 58) (v := nI 16) d_K_init_58 (by decide) ?_
    first | refine xk_icmp_geN (pc := 60) (tgt := 82) d_K_init_60 rfl (by omega) (by omega) (fun c_60 => ?_) (fun c_60 => ?_) | refine xk_icmp_ge (pc := 60) (tgt := 82) d_K_init_60 rfl (fun c_60 => ?_) (fun c_60 => ?_)
    · have e : i = 16 := by omega
      subst e
      exact hK
    · have hko := xr_kd_op i c_60
      refine xk_aload_n (pc := 63) d_K_init_63 rfl ?_
      refine xk_getRo (pc := 64) d_K_init_64 fl_K_37 (by first | rfl | assumption) rfl (by omega) (by omega) (show xz_o r i 1 3 = some 21 by unfold xz_o; rw [if_neg (by omega)]; exact h13) ?_
      refine xk_iload_n (pc := 67) d_K_init_67 rfl ?_
      refine xk_new (pc := 68) (ci := 3) d_K_init_68 (by first | rfl | assumption) rfl (by decide) (xk_in (List.mem_of_getElem? (i := 132) (by decide +kernel)) rfl) (xk_in (List.mem_of_getElem? (i := 134) (by decide +kernel)) rfl) (xk_in (List.mem_of_getElem? (i := 40) (by decide +kernel)) rfl) (show 20 + i + 1 ≤ 51 by omega) (show 523 + 5 * i + 5 ≤ 1000 by omega) (fun hz_68 => ?_)
      refine xk_dup (pc := 71) d_K_init_71 ?_
      refine xk_cI0 (pc := 72) d_K_init_72 ml_K_41 cz_Opening_init rfl (Nat.le_of_ble_eq_true rfl) (show 20 + i + 1 + 0 ≤ 51 by omega) (show 523 + 5 * i + 5 + 0 ≤ 1000 by omega) ?_
      refine c_Opening_init hko (by omega) (by omega) (fun k => hm _ k (by omega)) (by unfold xz_o; rw [if_neg (by omega)]; exact hr _ _ (by omega)) ?_
      refine xk_aastore (pc := 75) (ci := 3) d_K_init_75 rfl (by decide) (by decide) (by omega) (by omega) rfl (by omega) (by decide) hko rfl rfl (by omega) (by omega) ?_
      rw [xz_os]
      refine xk_iincN (pc := 76) (d := 1) d_K_init_76 rfl ?_
      refine xk_goto (pc := 79) (tgt := 57) d_K_init_79 rfl ?_
      exact ih (i + 1) (by omega) (by omega)

set_option maxRecDepth 20000 in
set_option maxHeartbeats 4000000 in
theorem l_kT {E : xk_E} {Q : xk_Q} {m : xk_M} {r : xk_P} (hm : ∀ a k, 38 ≤ a → m a k = 0) (h14 : r 1 4 = some 38) (hK : xk_W E m_K_init 118 [some (.inr (some 1)), some (.inl (nI 7))] [] 53 (xz_m m 7) (xz_t r 7) 51 680 Q) : ∀ (k : Nat) (i : Nat), 7 - i < k → i ≤ 7 → xk_W E m_K_init 93 [some (.inr (some 1)), some (.inl (nI i))] [] (39 + 2 * i) (xz_m m i) (xz_t r i) (37 + 2 * i) (610 + 10 * i) Q := by
  intro k
  induction k with
  | zero => intro i h; exact absurd h (Nat.not_lt_zero _)
  | succ k ih =>
    intro i hk hi
    refine xk_iload_n (pc := 93) d_K_init_93 rfl ?_
    refine xk_bipush (pc := 94) (v := nI 6) d_K_init_94 (by decide) ?_
    first | refine xk_icmp_gtN (pc := 96) (tgt := 118) d_K_init_96 rfl (by omega) (by omega) (fun c_96 => ?_) (fun c_96 => ?_) | refine xk_icmp_gt (pc := 96) (tgt := 118) d_K_init_96 rfl (fun c_96 => ?_) (fun c_96 => ?_)
    · have e : i = 7 := by omega
      subst e
      exact hK
    · have hi7 : i < 7 := by omega
      have hkt := xr_kd_ta i hi7
      have hkd := xr_kd_de i hi7
      rw [show 40 + 2 * i = 39 + 2 * i + 1 by omega] at hkd
      refine xk_aload_n (pc := 99) d_K_init_99 rfl ?_
      refine xk_getRo (pc := 100) d_K_init_100 fl_K_44 (by first | rfl | assumption) rfl (by omega) (by omega) (show xz_t r i 1 4 = some 38 by unfold xz_t; rw [if_neg (by omega), if_neg (by omega)]; exact h14) ?_
      refine xk_iload_n (pc := 103) d_K_init_103 rfl ?_
      refine xk_new (pc := 104) (ci := 5) d_K_init_104 (by first | rfl | assumption) rfl (by decide) (xk_in (List.mem_of_getElem? (i := 160) (by decide +kernel)) rfl) (xk_in (List.mem_of_getElem? (i := 162) (by decide +kernel)) rfl) (xk_in (List.mem_of_getElem? (i := 41) (by decide +kernel)) rfl) (show 37 + 2 * i + 1 ≤ 51 by omega) (show 610 + 10 * i + 4 ≤ 1000 by omega) (fun hz_104 => ?_)
      refine xk_dup (pc := 107) d_K_init_107 ?_
      refine xk_cI0 (pc := 108) d_K_init_108 ml_K_48 cz_Task_init rfl (Nat.le_of_ble_eq_true rfl) (show 37 + 2 * i + 1 + 1 ≤ 51 by omega) (show 610 + 10 * i + 4 + 6 ≤ 1000 by omega) ?_
      refine c_Task_init hkt hkd (by omega) (by omega) (fun k => by unfold xz_m; rw [if_neg (by omega)]; exact hm _ k (by omega)) ?_
      refine xk_aastore (pc := 111) (ci := 5) d_K_init_111 rfl (by decide) (by decide) (by omega) (by omega) rfl (by omega) (by decide) hkt rfl rfl (by omega) (by omega) ?_
      rw [xz_ts, xz_ms]
      refine xk_iincN (pc := 112) (d := 1) d_K_init_112 rfl ?_
      refine xk_goto (pc := 115) (tgt := 93) d_K_init_115 rfl ?_
      exact ih (i + 1) (by omega) (by omega)

set_option maxRecDepth 20000 in
set_option maxHeartbeats 4000000 in
theorem s_begin {E : xk_E} {n : Nat} {m : xk_M} {r : xk_P} {Q : xk_Q} {x : Int32} (hn : 53 ≤ n) (hQ : Q none n (xk_up (xk_up m 41 0 (nI 1)) 41 1 x) r) : xk_W E m_Task_begin 0 [some (.inr (some 41)), some (.inl x)] [] n m r 0 0 Q := by
  refine xk_aload_n (pc := 0) d_Task_begin_0 rfl ?_
  refine xk_iconst (pc := 1) (v := nI 1) d_Task_begin_1 (by decide) ?_
  refine xk_putI (pc := 2) d_Task_begin_2 fl_Task_11 (by first | rfl | assumption) rfl (fun q hq h => by cases hq; first | exact absurd h (by decide) | exact ⟨rfl, rfl, rfl⟩) ⟨rfl, rfl⟩ (by omega) (by omega) ?_
  refine xk_aload_n (pc := 5) d_Task_begin_5 rfl ?_
  refine xk_iload_n (pc := 6) d_Task_begin_6 rfl ?_
  refine xk_putI (pc := 7) d_Task_begin_7 fl_Task_15 (by first | rfl | assumption) rfl (fun q hq h => by cases hq; first | exact absurd h (by decide) | exact ⟨rfl, rfl, rfl⟩) ⟨rfl, rfl⟩ (by omega) (by omega) ?_
  refine xk_vret (pc := 10) rfl d_Task_begin_10 rfl (Nat.le_of_ble_eq_true rfl) (Nat.le_of_ble_eq_true rfl) ?_
  exact hQ

def xz_R (r : xk_P) : xk_P := (xz_t (xk_up (xz_o (xk_up (xk_up (xk_up (xz_c (xk_up (xk_up (xk_up (xk_up (xk_up (xk_up (xk_up (xk_up r 2 0 (some 3)) 2 1 (some 4)) 2 2 (some 5)) 2 3 (some 6)) 1 0 (some 2)) 7 1 (some 8)) 7 2 (some 9)) 7 0 (some 2)) 5) 1 1 (some 7)) 1 2 (some 20)) 1 3 (some 21)) 16) 1 4 (some 38)) 7)
def xz_M (m : xk_M) : xk_M := xk_up (xk_up (xz_m (xk_fill m 20 0 8 (nI 2)) 7) 41 0 (nI 1)) 41 1 (-1)

set_option maxRecDepth 20000 in
set_option maxHeartbeats 4000000 in
theorem c_K_init {E : xk_E} {m : xk_M} {r : xk_P} {Q : xk_Q} (hm : ∀ a k, m a k = 0) (hr : ∀ a k, r a k = none) (hQ : Q none 53 (xz_M m) (xz_R r)) : xk_W E m_K_init 0 (xk_ent m_K_init [.inr (some 1)]) [] 2 m r 0 0 Q := by
  show xk_W E m_K_init 0 [some (.inr (some 1)), none] [] 2 m r 0 0 Q
  refine xk_aload_n (pc := 0) d_K_init_0 rfl ?_
  refine xk_objInit (pc := 1) d_K_init_1 (xk_in (List.mem_of_getElem? (i := 51) (by decide +kernel)) rfl) (xk_in (List.mem_of_getElem? (i := 52) (by decide +kernel)) rfl) (xk_in (List.mem_of_getElem? (i := 53) (by decide +kernel)) rfl) (Nat.le_of_ble_eq_true rfl) (Nat.le_of_ble_eq_true rfl) ?_
  refine xk_aload_n (pc := 4) d_K_init_4 rfl ?_
  refine xk_new (pc := 5) (ci := 2) d_K_init_5 (by first | rfl | assumption) rfl (by decide) (xk_in (List.mem_of_getElem? (i := 54) (by decide +kernel)) rfl) (xk_in (List.mem_of_getElem? (i := 55) (by decide +kernel)) rfl) (xk_in (List.mem_of_getElem? (i := 36) (by decide +kernel)) rfl) (Nat.le_of_ble_eq_true rfl) (Nat.le_of_ble_eq_true rfl) (fun hz_5 => ?_)
  refine xk_dup (pc := 8) d_K_init_8 ?_
  refine xk_cI0 (pc := 9) d_K_init_9 ml_K_9 cz_Host_init rfl (Nat.le_of_ble_eq_true rfl) (Nat.le_of_ble_eq_true rfl) (Nat.le_of_ble_eq_true rfl) ?_
  refine c_Host_init (fun k => hm 2 k) ?_
  refine xk_putR (pc := 12) d_K_init_12 fl_K_10 (by first | rfl | assumption) rfl (fun q hq h => by cases hq; first | exact absurd h (by decide) | exact ⟨rfl, rfl, rfl⟩) ⟨rfl, rfl⟩ (by omega) (by omega) ?_
  refine xk_aload_n (pc := 15) d_K_init_15 rfl ?_
  refine xk_new (pc := 16) (ci := 1) d_K_init_16 (by first | rfl | assumption) rfl (by decide) (xk_in (List.mem_of_getElem? (i := 84) (by decide +kernel)) rfl) (xk_in (List.mem_of_getElem? (i := 85) (by decide +kernel)) rfl) (xk_in (List.mem_of_getElem? (i := 37) (by decide +kernel)) rfl) (Nat.le_of_ble_eq_true rfl) (Nat.le_of_ble_eq_true rfl) (fun hz_16 => ?_)
  refine xk_dup (pc := 19) d_K_init_19 ?_
  refine xk_aload_n (pc := 20) d_K_init_20 rfl ?_
  refine xk_getRo (pc := 21) d_K_init_21 fl_K_10 (by first | rfl | assumption) rfl (by omega) (by omega) xk_up_s ?_
  refine xk_cI1 (pc := 24) d_K_init_24 ml_K_18 cz_Cache_init rfl (Nat.le_of_ble_eq_true rfl) (Nat.le_of_ble_eq_true rfl) (Nat.le_of_ble_eq_true rfl) ?_
  refine c_Cache_init (fun a k _ => hm a k) ?_
  refine xk_putR (pc := 27) d_K_init_27 fl_K_21 (by first | rfl | assumption) rfl (fun q hq h => by cases hq; first | exact absurd h (by decide) | exact ⟨rfl, rfl, rfl⟩) ⟨rfl, rfl⟩ (by omega) (by omega) ?_
  refine xk_aload_n (pc := 30) d_K_init_30 rfl ?_
  refine xk_bipush (pc := 31) (v := nI 8) d_K_init_31 (by decide) ?_
  refine xk_newarr (pc := 33) (t := 0) d_K_init_33 (by first | rfl | assumption) (by decide) rfl (xk_in (List.mem_of_getElem? (i := 83) (by decide +kernel)) rfl) rfl (by decide) (Nat.le_of_ble_eq_true rfl) (Nat.le_of_ble_eq_true rfl) (fun hz_33 => ?_)
  refine xk_putR (pc := 35) d_K_init_35 fl_K_25 (by first | rfl | assumption) rfl (fun q hq h => by cases hq; first | exact absurd h (by decide) | exact ⟨rfl, rfl, rfl⟩) ⟨rfl, rfl⟩ (by omega) (by omega) ?_
  refine xk_aload_n (pc := 38) d_K_init_38 rfl ?_
  refine xk_getRo (pc := 39) d_K_init_39 fl_K_25 (by first | rfl | assumption) rfl (by omega) (by omega) xk_up_s ?_
  refine xk_iconst (pc := 42) (v := nI 2) d_K_init_42 (by decide) ?_
  refine xk_cS2 (pc := 43) d_K_init_43 ml_K_29 cz_Arr_fill2 ⟨rfl, rfl⟩ rfl (Nat.le_of_ble_eq_true rfl) ⟨(Nat.le_of_ble_eq_true rfl), (Nat.le_of_ble_eq_true rfl)⟩ ?_
  refine c_Arr_fill2 (len := 8) rfl (by decide) (by decide) (by decide) ?_
  refine xk_aload_n (pc := 46) d_K_init_46 rfl ?_
  refine xk_bipush (pc := 47) (v := nI 16) d_K_init_47 (by decide) ?_
  refine xk_anew (pc := 49) (t := 3) d_K_init_49 (by first | rfl | assumption) (by decide) (by decide) rfl (xk_in (List.mem_of_getElem? (i := 132) (by decide +kernel)) rfl) (by decide) rfl (by decide) (Nat.le_of_ble_eq_true rfl) (Nat.le_of_ble_eq_true rfl) (fun hz_49 => ?_)
  refine xk_putR (pc := 52) d_K_init_52 fl_K_37 (by first | rfl | assumption) rfl (fun q hq h => by cases hq; first | exact absurd h (by decide) | exact ⟨rfl, rfl, rfl⟩) ⟨rfl, rfl⟩ (by omega) (by omega) ?_
  refine xk_iconst (pc := 55) (v := nI 0) d_K_init_55 (by decide) ?_
  refine xk_istore_n (pc := 56) d_K_init_56 (by decide) ?_
  suffices HH : xk_W E m_K_init 82 [some (.inr (some 1)), some (.inl (nI 16))] [] 38 (xk_fill m 20 0 8 (nI 2)) (xz_o (xk_up (xk_up (xk_up (xz_c (xk_up (xk_up (xk_up (xk_up (xk_up (xk_up (xk_up (xk_up r 2 0 (some 3)) 2 1 (some 4)) 2 2 (some 5)) 2 3 (some 6)) 1 0 (some 2)) 7 1 (some 8)) 7 2 (some 9)) 7 0 (some 2)) 5) 1 1 (some 7)) 1 2 (some 20)) 1 3 (some 21)) 16) 36 603 Q by
    have K := l_kO (E := E) (Q := Q) (m := xk_fill m 20 0 8 (nI 2)) (r := (xk_up (xk_up (xk_up (xz_c (xk_up (xk_up (xk_up (xk_up (xk_up (xk_up (xk_up (xk_up r 2 0 (some 3)) 2 1 (some 4)) 2 2 (some 5)) 2 3 (some 6)) 1 0 (some 2)) 7 1 (some 8)) 7 2 (some 9)) 7 0 (some 2)) 5) 1 1 (some 7)) 1 2 (some 20)) 1 3 (some 21))) (fun a k ha => by rw [xk_fill_a (by omega)]; exact hm a k) (fun a k ha => by
      rw [xk_up_a (by omega), xk_up_a (by omega), xk_up_a (by omega)]
      unfold xz_c
      rw [if_neg (by omega), if_neg (by omega), xk_up_a (by omega), xk_up_a (by omega), xk_up_a (by omega), xk_up_a (by omega), xk_up_a (by omega), xk_up_a (by omega), xk_up_a (by omega), xk_up_a (by omega)]
      exact hr a k) xk_up_s HH 17 0 (by omega) (by omega)
    rw [xz_o0] at K
    exact K
  refine xk_aload_n (pc := 82) d_K_init_82 rfl ?_
  refine xk_bipush (pc := 83) (v := nI 7) d_K_init_83 (by decide) ?_
  refine xk_anew (pc := 85) (t := 4) d_K_init_85 (by first | rfl | assumption) (by decide) (by decide) rfl (xk_in (List.mem_of_getElem? (i := 160) (by decide +kernel)) rfl) (by decide) rfl (by decide) (Nat.le_of_ble_eq_true rfl) (Nat.le_of_ble_eq_true rfl) (fun hz_85 => ?_)
  refine xk_putR (pc := 88) d_K_init_88 fl_K_44 (by first | rfl | assumption) rfl (fun q hq h => by cases hq; first | exact absurd h (by decide) | exact ⟨rfl, rfl, rfl⟩) ⟨rfl, rfl⟩ (by omega) (by omega) ?_
  refine xk_iconst (pc := 91) (v := nI 0) d_K_init_91 (by decide) ?_
  refine xk_istore_n (pc := 92) d_K_init_92 (by decide) ?_
  suffices HH : xk_W E m_K_init 118 [some (.inr (some 1)), some (.inl (nI 7))] [] 53 (xz_m (xk_fill m 20 0 8 (nI 2)) 7) (xz_t (xk_up (xz_o (xk_up (xk_up (xk_up (xz_c (xk_up (xk_up (xk_up (xk_up (xk_up (xk_up (xk_up (xk_up r 2 0 (some 3)) 2 1 (some 4)) 2 2 (some 5)) 2 3 (some 6)) 1 0 (some 2)) 7 1 (some 8)) 7 2 (some 9)) 7 0 (some 2)) 5) 1 1 (some 7)) 1 2 (some 20)) 1 3 (some 21)) 16) 1 4 (some 38)) 7) 51 680 Q by
    have K := l_kT (E := E) (Q := Q) (m := xk_fill m 20 0 8 (nI 2)) (r := xk_up (xz_o (xk_up (xk_up (xk_up (xz_c (xk_up (xk_up (xk_up (xk_up (xk_up (xk_up (xk_up (xk_up r 2 0 (some 3)) 2 1 (some 4)) 2 2 (some 5)) 2 3 (some 6)) 1 0 (some 2)) 7 1 (some 8)) 7 2 (some 9)) 7 0 (some 2)) 5) 1 1 (some 7)) 1 2 (some 20)) 1 3 (some 21)) 16) 1 4 (some 38)) (fun a k ha => by rw [xk_fill_a (by omega)]; exact hm a k) xk_up_s HH 8 0 (by omega) (by omega)
    rw [xz_t0, xz_m0] at K
    exact K
  refine xk_aload_n (pc := 118) d_K_init_118 rfl ?_
  refine xk_getRo (pc := 119) d_K_init_119 fl_K_44 (by first | rfl | assumption) rfl (by omega) (by omega) (show xz_t _ 7 1 4 = some 38 by unfold xz_t; rw [if_neg (by omega), if_neg (by omega), xk_up_s]) ?_
  refine xk_iconst (pc := 122) (v := nI 1) d_K_init_122 (by decide) ?_
  refine xk_aaloado (pc := 123) d_K_init_123 (by first | rfl | assumption) (by decide) (by decide) (by omega) (by omega) rfl (by omega) (by decide) (show xz_t _ 7 38 1 = some 41 by unfold xz_t; rw [if_pos (by omega)]) ?_
  refine xk_iconst (pc := 124) (v := (-1)) d_K_init_124 (by decide) ?_
  refine xk_cV1 (pc := 125) d_K_init_125 ml_K_49 cz_Task_begin ⟨rfl, rfl⟩ rfl (by first | rfl | assumption) (by omega) (by omega) (Nat.le_of_ble_eq_true rfl) ⟨(Nat.le_of_ble_eq_true rfl), (Nat.le_of_ble_eq_true rfl)⟩ ?_
  show xk_W E m_Task_begin 0 [some (.inr (some 41)), some (.inl (-1))] [] 53 _ _ 0 0 _
  refine s_begin (by decide) ?_
  refine xk_vret (pc := 128) rfl d_K_init_128 rfl (Nat.le_of_ble_eq_true rfl) (Nat.le_of_ble_eq_true rfl) ?_
  exact hQ
