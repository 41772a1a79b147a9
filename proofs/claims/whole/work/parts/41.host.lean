set_option maxRecDepth 20000 in
set_option maxHeartbeats 4000000 in
theorem c_Host_isThere {E : xk_E} {n : Nat} {m : xk_M} {r : xk_P} {Q : xk_Q} (hn : 74 ≤ n) (hS : xr_S r n) {f : Nat} (hf : f < 8) {b : Bool} (hb : m 3 f = xs_bi b) (hQ : Q (some (.inl (xs_bi b))) n m r) : xk_W E m_Host_isThere 0 (xk_ent m_Host_isThere [.inr (some 2), .inl (nI f)]) [] n m r 0 0 Q := by
  show xk_W E m_Host_isThere 0 [some (.inr (some 2)), some (.inl (nI f))] [] n m r 0 0 Q
  refine xk_aload_n (pc := 0) d_Host_isThere_0 rfl ?_
  refine xk_getRo (pc := 1) d_Host_isThere_1 fl_Host_9 (by first | rfl | assumption) rfl (by omega) (by omega) (hS _ _ _ rfl (by omega)) ?_
  refine xk_iload_n (pc := 4) d_Host_isThere_4 rfl ?_
  refine xk_baloado (pc := 5) d_Host_isThere_5 (by first | rfl | assumption) (by omega) (by omega) rfl (by omega) (by decide) hb ?_
  refine xk_zret (pc := 6) rfl d_Host_isThere_6 rfl (xs_bi_b b) (Nat.le_of_ble_eq_true rfl) (Nat.le_of_ble_eq_true rfl) ?_
  exact hQ

set_option maxRecDepth 20000 in
set_option maxHeartbeats 4000000 in
theorem c_Host_lengthOf {E : xk_E} {n : Nat} {m : xk_M} {r : xk_P} {Q : xk_Q} (hn : 74 ≤ n) (hS : xr_S r n) {f : Nat} (hf : f < 8) (hQ : Q (some (.inl (m 4 f))) n m r) : xk_W E m_Host_lengthOf 0 (xk_ent m_Host_lengthOf [.inr (some 2), .inl (nI f)]) [] n m r 0 0 Q := by
  show xk_W E m_Host_lengthOf 0 [some (.inr (some 2)), some (.inl (nI f))] [] n m r 0 0 Q
  refine xk_aload_n (pc := 0) d_Host_lengthOf_0 rfl ?_
  refine xk_getRo (pc := 1) d_Host_lengthOf_1 fl_Host_15 (by first | rfl | assumption) rfl (by omega) (by omega) (hS _ _ _ rfl (by omega)) ?_
  refine xk_iload_n (pc := 4) d_Host_lengthOf_4 rfl ?_
  refine xk_iaload (pc := 5) d_Host_lengthOf_5 (by first | rfl | assumption) (by omega) (by omega) rfl (by omega) (by decide) ?_
  refine xk_iret (pc := 6) rfl d_Host_lengthOf_6 rfl (Nat.le_of_ble_eq_true rfl) (Nat.le_of_ble_eq_true rfl) ?_
  exact hQ

set_option maxRecDepth 20000 in
set_option maxHeartbeats 4000000 in
theorem c_Host_cellAt {E : xk_E} {n : Nat} {m : xk_M} {r : xk_P} {Q : xk_Q} (hn : 74 ≤ n) (hS : xr_S r n) {f i : Nat} (hf : f < 8) (hi : i < 32) (hQ : Q (some (.inl (m 5 (f * 32 + i)))) n m r) : xk_W E m_Host_cellAt 0 (xk_ent m_Host_cellAt [.inr (some 2), .inl (nI f), .inl (nI i)]) [] n m r 0 0 Q := by
  show xk_W E m_Host_cellAt 0 [some (.inr (some 2)), some (.inl (nI f)), some (.inl (nI i))] [] n m r 0 0 Q
  refine xk_aload_n (pc := 0) d_Host_cellAt_0 rfl ?_
  refine xk_getRo (pc := 1) d_Host_cellAt_1 fl_Host_19 (by first | rfl | assumption) rfl (by omega) (by omega) (hS _ _ _ rfl (by omega)) ?_
  refine xk_iload_n (pc := 4) d_Host_cellAt_4 rfl ?_
  refine xk_bipush (pc := 5) (v := nI 32) d_Host_cellAt_5 (by decide) ?_
  first | refine xk_imulN (pc := 7) d_Host_cellAt_7 ?_ | refine xk_imul (pc := 7) d_Host_cellAt_7 ?_
  refine xk_iload_n (pc := 8) d_Host_cellAt_8 rfl ?_
  first | refine xk_iaddN (pc := 9) d_Host_cellAt_9 ?_ | refine xk_iadd (pc := 9) d_Host_cellAt_9 ?_
  refine xk_iaload (pc := 10) d_Host_cellAt_10 (by first | rfl | assumption) (by omega) (by omega) rfl (by omega) (by decide) ?_
  refine xk_iret (pc := 11) rfl d_Host_cellAt_11 rfl (Nat.le_of_ble_eq_true rfl) (Nat.le_of_ble_eq_true rfl) ?_
  exact hQ

set_option maxRecDepth 20000 in
set_option maxHeartbeats 4000000 in
theorem c_Host_operations {E : xk_E} {n : Nat} {m : xk_M} {r : xk_P} {Q : xk_Q} (hn : 74 ≤ n) (hS : xr_S r n) (hQ : Q (some (.inl (m 2 4))) n m r) : xk_W E m_Host_operations 0 (xk_ent m_Host_operations [.inr (some 2)]) [] n m r 0 0 Q := by
  show xk_W E m_Host_operations 0 [some (.inr (some 2))] [] n m r 0 0 Q
  refine xk_aload_n (pc := 0) d_Host_operations_0 rfl ?_
  refine xk_getI (pc := 1) d_Host_operations_1 fl_Host_29 (by first | rfl | assumption) rfl (by omega) (by omega) ?_
  refine xk_iret (pc := 4) rfl d_Host_operations_4 rfl (Nat.le_of_ble_eq_true rfl) (Nat.le_of_ble_eq_true rfl) ?_
  exact hQ

set_option maxRecDepth 20000 in
set_option maxHeartbeats 4000000 in
theorem c_Host_leftToFail {E : xk_E} {n : Nat} {m : xk_M} {r : xk_P} {Q : xk_Q} (hn : 74 ≤ n) (hS : xr_S r n) (hQ : Q (some (.inl (m 2 5))) n m r) : xk_W E m_Host_leftToFail 0 (xk_ent m_Host_leftToFail [.inr (some 2)]) [] n m r 0 0 Q := by
  show xk_W E m_Host_leftToFail 0 [some (.inr (some 2))] [] n m r 0 0 Q
  refine xk_aload_n (pc := 0) d_Host_leftToFail_0 rfl ?_
  refine xk_getI (pc := 1) d_Host_leftToFail_1 fl_Host_32 (by first | rfl | assumption) rfl (by omega) (by omega) ?_
  refine xk_iret (pc := 4) rfl d_Host_leftToFail_4 rfl (Nat.le_of_ble_eq_true rfl) (Nat.le_of_ble_eq_true rfl) ?_
  exact hQ

set_option maxRecDepth 20000 in
set_option maxHeartbeats 4000000 in
theorem c_Host_setToFail {E : xk_E} {n : Nat} {m : xk_M} {r : xk_P} {Q : xk_Q} (hn : 74 ≤ n) (hS : xr_S r n) {x : Int32} (hQ : Q none n (xk_up m 2 5 x) r) : xk_W E m_Host_setToFail 0 (xk_ent m_Host_setToFail [.inr (some 2), .inl x]) [] n m r 0 0 Q := by
  show xk_W E m_Host_setToFail 0 [some (.inr (some 2)), some (.inl x)] [] n m r 0 0 Q
  refine xk_aload_n (pc := 0) d_Host_setToFail_0 rfl ?_
  refine xk_iload_n (pc := 1) d_Host_setToFail_1 rfl ?_
  refine xk_putI (pc := 2) d_Host_setToFail_2 fl_Host_32 (by first | rfl | assumption) rfl (fun q hq h => by cases hq; first | exact absurd h (by decide) | exact ⟨rfl, rfl, rfl⟩) ⟨rfl, rfl⟩ (by omega) (by omega) ?_
  refine xk_vret (pc := 5) rfl d_Host_setToFail_5 rfl (Nat.le_of_ble_eq_true rfl) (Nat.le_of_ble_eq_true rfl) ?_
  exact hQ

set_option maxRecDepth 20000 in
set_option maxHeartbeats 4000000 in
theorem c_Host_entryAt {E : xk_E} {n : Nat} {m : xk_M} {r : xk_P} {Q : xk_Q} (hn : 74 ≤ n) (hS : xr_S r n) {k i : Nat} (hk : m 2 6 = nI (k % 16)) (hi : i < 16) (hQ : Q (some (.inl (m 6 ((k % 16 + 16 - i) % 16)))) n m r) : xk_W E m_Host_entryAt 0 (xk_ent m_Host_entryAt [.inr (some 2), .inl (nI i)]) [] n m r 0 0 Q := by
  show xk_W E m_Host_entryAt 0 [some (.inr (some 2)), some (.inl (nI i))] [] n m r 0 0 Q
  refine xk_aload_n (pc := 0) d_Host_entryAt_0 rfl ?_
  refine xk_getRo (pc := 1) d_Host_entryAt_1 fl_Host_22 (by first | rfl | assumption) rfl (by omega) (by omega) (hS _ _ _ rfl (by omega)) ?_
  refine xk_aload_n (pc := 4) d_Host_entryAt_4 rfl ?_
  refine xk_getIo (pc := 5) d_Host_entryAt_5 fl_Host_25 (by first | rfl | assumption) rfl (by omega) (by omega) hk ?_
  refine xk_bipush (pc := 8) (v := nI 16) d_Host_entryAt_8 (by decide) ?_
  first | refine xk_iaddN (pc := 10) d_Host_entryAt_10 ?_ | refine xk_iadd (pc := 10) d_Host_entryAt_10 ?_
  refine xk_iload_n (pc := 11) d_Host_entryAt_11 rfl ?_
  first | refine xk_isubN (pc := 12) d_Host_entryAt_12 (by omega) ?_ | refine xk_isub (pc := 12) d_Host_entryAt_12 ?_
  refine xk_bipush (pc := 13) (v := nI 16) d_Host_entryAt_13 (by decide) ?_
  refine xk_iremN (pc := 15) d_Host_entryAt_15 (by decide) (by omega) (by decide) ?_
  refine xk_iaload (pc := 16) d_Host_entryAt_16 (by first | rfl | assumption) (by omega) (by omega) rfl (Nat.mod_lt _ (by decide)) (by decide) ?_
  refine xk_iret (pc := 17) rfl d_Host_entryAt_17 rfl (Nat.le_of_ble_eq_true rfl) (Nat.le_of_ble_eq_true rfl) ?_
  exact hQ

/-- the host of the class -/
def xr_H (h : xs_H) (m : xk_M) : Prop :=
  (∀ f, f < 8 → m 3 f = xs_bi (h.1 f)) ∧ (∀ f, f < 8 → m 4 f = nI (h.2.1 f)) ∧ (∀ f i, f < 8 → i < 32 → m 5 (f * 32 + i) = h.2.2.1 f i) ∧ (m 2 6 = nI (h.2.2.2.2.1 % 16) ∧ ∀ j, j < 16 → j < h.2.2.2.2.1 → m 6 ((h.2.2.2.2.1 % 16 + 16 - j) % 16) = h.2.2.2.1 j) ∧ m 2 4 = nI h.2.2.2.2.1 ∧ m 2 5 = nI h.2.2.2.2.2
theorem xr_H_op {h : xs_H} {m m' : xk_M} {o f b : Nat} (hR : xr_H h m) (h3 : m' 3 = m 3) (h4 : m' 4 = m 4) (h5 : m' 5 = m 5) (h6 : ∀ j, j < 16 → m' 6 j = if j = (h.2.2.2.2.1 % 16 + 1) % 16 then nI (o + 8 * f + 64 * b + (if h.2.2.2.2.2 = 0 then 0 else 256)) else m 6 j) (h26 : m' 2 6 = nI ((h.2.2.2.2.1 % 16 + 1) % 16)) (h24 : m' 2 4 = nI (h.2.2.2.2.1 + 1)) (h25 : m' 2 5 = nI (h.2.2.2.2.2 - 1)) : xr_H (xs_op h o f b).1 m' := by
  obtain ⟨r1, r2, r3, r4, r5, r6⟩ := hR
  refine ⟨fun f hf => by rw [h3]; exact r1 f hf, fun f hf => by rw [h4]; exact r2 f hf, fun f i hf hi => by rw [h5]; exact r3 f i hf hi, ⟨?_, fun j hj hj2 => ?_⟩, h24, h25⟩
  · rw [h26]
    show _ = nI ((h.2.2.2.2.1 + 1) % 16)
    congr 1
    omega
  show m' 6 (((h.2.2.2.2.1 + 1) % 16 + 16 - j) % 16) = if j = 0 then _ else h.2.2.2.1 (j - 1)
  have hj3 : j < h.2.2.2.2.1 + 1 := hj2
  rw [h6 _ (Nat.mod_lt _ (by decide))]
  by_cases h0 : j = 0
  · subst h0
    rw [if_pos (by omega), if_pos rfl]
  · rw [if_neg (by omega), if_neg h0, ← r4.2 (j - 1) (by omega) (by omega)]
    congr 1
    omega

set_option maxRecDepth 20000 in
set_option maxHeartbeats 4000000 in
theorem c_Host_succeeds {E : xk_E} {n : Nat} {m : xk_M} {r : xk_P} {Q : xk_Q} (hn : 74 ≤ n) (hS : xr_S r n) {h : xs_H} {o f b : Nat} (hR : xr_H h m) (hops : h.2.2.2.2.1 < 2 ^ 30) (htf : h.2.2.2.2.2 < 2 ^ 30)
    (h1 : h.2.2.2.2.2 = 0 → ∀ m', xr_H (xs_op h o f b).1 m' → (∀ a, a ≠ 2 → a ≠ 6 → m' a = m a) → Q (some (.inl (nI 1))) n m' r) (h0 : h.2.2.2.2.2 ≠ 0 → ∀ m', xr_H (xs_op h o f b).1 m' → (∀ a, a ≠ 2 → a ≠ 6 → m' a = m a) → Q (some (.inl (nI 0))) n m' r) : xk_W E m_Host_succeeds 0 (xk_ent m_Host_succeeds [.inr (some 2), .inl (nI o), .inl (nI f), .inl (nI b)]) [] n m r 0 0 Q := by
  show xk_W E m_Host_succeeds 0 [some (.inr (some 2)), some (.inl (nI o)), some (.inl (nI f)), some (.inl (nI b)), none, none] [] n m r 0 0 Q
  refine xk_aload_n (pc := 0) d_Host_succeeds_0 rfl ?_
  refine xk_getIo (pc := 1) d_Host_succeeds_1 fl_Host_32 (by first | rfl | assumption) rfl (by omega) (by omega) hR.2.2.2.2.2 ?_
  first | refine xk_if_leN (pc := 4) (tgt := 11) d_Host_succeeds_4 rfl (by omega) (fun c_4 => ?_) (fun c_4 => ?_) | refine xk_if_le (pc := 4) (tgt := 11) d_Host_succeeds_4 rfl (fun c_4 => ?_) (fun c_4 => ?_)
  · refine xk_iconst (pc := 11) (v := nI 0) d_Host_succeeds_11 (by decide) ?_
    refine xk_istore (pc := 12) d_Host_succeeds_12 (by decide) ?_
    refine xk_iload_n (pc := 14) d_Host_succeeds_14 rfl ?_
    refine xk_bipush (pc := 15) (v := nI 8) d_Host_succeeds_15 (by decide) ?_
    refine xk_iload_n (pc := 17) d_Host_succeeds_17 rfl ?_
    first | refine xk_imulN (pc := 18) d_Host_succeeds_18 ?_ | refine xk_imul (pc := 18) d_Host_succeeds_18 ?_
    first | refine xk_iaddN (pc := 19) d_Host_succeeds_19 ?_ | refine xk_iadd (pc := 19) d_Host_succeeds_19 ?_
    refine xk_bipush (pc := 20) (v := nI 64) d_Host_succeeds_20 (by decide) ?_
    refine xk_iload_n (pc := 22) d_Host_succeeds_22 rfl ?_
    first | refine xk_imulN (pc := 23) d_Host_succeeds_23 ?_ | refine xk_imul (pc := 23) d_Host_succeeds_23 ?_
    first | refine xk_iaddN (pc := 24) d_Host_succeeds_24 ?_ | refine xk_iadd (pc := 24) d_Host_succeeds_24 ?_
    refine xk_istore (pc := 25) d_Host_succeeds_25 (by decide) ?_
    refine xk_aload_n (pc := 27) d_Host_succeeds_27 rfl ?_
    refine xk_aload_n (pc := 28) d_Host_succeeds_28 rfl ?_
    refine xk_getIo (pc := 29) d_Host_succeeds_29 fl_Host_25 (by first | rfl | assumption) rfl (by omega) (by omega) hR.2.2.2.1.1 ?_
    refine xk_iconst (pc := 32) (v := nI 1) d_Host_succeeds_32 (by decide) ?_
    first | refine xk_iaddN (pc := 33) d_Host_succeeds_33 ?_ | refine xk_iadd (pc := 33) d_Host_succeeds_33 ?_
    refine xk_bipush (pc := 34) (v := nI 16) d_Host_succeeds_34 (by decide) ?_
    refine xk_iremN (pc := 36) d_Host_succeeds_36 (by decide) (by omega) (by decide) ?_
    refine xk_putI (pc := 37) d_Host_succeeds_37 fl_Host_25 (by first | rfl | assumption) rfl (fun q hq h => by cases hq; first | exact absurd h (by decide) | exact ⟨rfl, rfl, rfl⟩) ⟨rfl, rfl⟩ (by omega) (by omega) ?_
    refine xk_aload_n (pc := 40) d_Host_succeeds_40 rfl ?_
    refine xk_getRo (pc := 41) d_Host_succeeds_41 fl_Host_22 (by first | rfl | assumption) rfl (by omega) (by omega) (hS _ _ _ rfl (by omega)) ?_
    refine xk_aload_n (pc := 44) d_Host_succeeds_44 rfl ?_
    refine xk_getIo (pc := 45) d_Host_succeeds_45 fl_Host_25 (by first | rfl | assumption) rfl (by omega) (by omega) xk_up_s ?_
    refine xk_iload (pc := 48) d_Host_succeeds_48 rfl ?_
    refine xk_if_eq (pc := 50) (tgt := 62) d_Host_succeeds_50 rfl (fun _ => ?_) (fun h => absurd (by decide) h)
    refine xk_iload (pc := 62) d_Host_succeeds_62 rfl ?_
    refine xk_iastore (pc := 64) d_Host_succeeds_64 (by first | rfl | assumption) (by omega) (by omega) rfl (Nat.mod_lt _ (by decide)) (by decide) ?_
    refine xk_aload_n (pc := 65) d_Host_succeeds_65 rfl ?_
    refine xk_dup (pc := 66) d_Host_succeeds_66 ?_
    refine xk_getIo (pc := 67) d_Host_succeeds_67 fl_Host_29 (by first | rfl | assumption) rfl (by omega) (by omega) ((xk_up_a (by decide)).trans ((xk_up_k (by decide)).trans hR.2.2.2.2.1)) ?_
    refine xk_iconst (pc := 70) (v := nI 1) d_Host_succeeds_70 (by decide) ?_
    first | refine xk_iaddN (pc := 71) d_Host_succeeds_71 ?_ | refine xk_iadd (pc := 71) d_Host_succeeds_71 ?_
    refine xk_putI (pc := 72) d_Host_succeeds_72 fl_Host_29 (by first | rfl | assumption) rfl (fun q hq h => by cases hq; first | exact absurd h (by decide) | exact ⟨rfl, rfl, rfl⟩) ⟨rfl, rfl⟩ (by omega) (by omega) ?_
    refine xk_iload (pc := 75) d_Host_succeeds_75 rfl ?_
    refine xk_if_eq (pc := 77) (tgt := 90) d_Host_succeeds_77 rfl (fun _ => ?_) (fun h => absurd (by decide) h)
    refine xk_iload (pc := 90) d_Host_succeeds_90 rfl ?_
    refine xk_if_ne (pc := 92) (tgt := 99) d_Host_succeeds_92 rfl (fun h => absurd (by decide) h) (fun _ => ?_)
    refine xk_iconst (pc := 95) (v := nI 1) d_Host_succeeds_95 (by decide) ?_
    refine xk_goto (pc := 96) (tgt := 100) d_Host_succeeds_96 rfl ?_
    refine xk_zret (pc := 100) rfl d_Host_succeeds_100 rfl rfl (Nat.le_of_ble_eq_true rfl) (Nat.le_of_ble_eq_true rfl) ?_
    refine h1 c_4 _ (xr_H_op hR ?_ ?_ ?_ ?_ ?_ ?_ ?_) (fun a h2 h6 => ?_)
    · funext j; simp [xk_up]
    · funext j; simp [xk_up]
    · funext j; simp [xk_up]
    · intro j hj; simp [xk_up, c_4]
    · simp [xk_up]
    · simp [xk_up]
    · simp [xk_up, c_4]; rw [hR.2.2.2.2.2, c_4]
    · funext j; simp [xk_up, h2, h6]
  · refine xk_iconst (pc := 7) (v := nI 1) d_Host_succeeds_7 (by decide) ?_
    refine xk_goto (pc := 8) (tgt := 12) d_Host_succeeds_8 rfl ?_
    refine xk_istore (pc := 12) d_Host_succeeds_12 (by decide) ?_
    refine xk_iload_n (pc := 14) d_Host_succeeds_14 rfl ?_
    refine xk_bipush (pc := 15) (v := nI 8) d_Host_succeeds_15 (by decide) ?_
    refine xk_iload_n (pc := 17) d_Host_succeeds_17 rfl ?_
    first | refine xk_imulN (pc := 18) d_Host_succeeds_18 ?_ | refine xk_imul (pc := 18) d_Host_succeeds_18 ?_
    first | refine xk_iaddN (pc := 19) d_Host_succeeds_19 ?_ | refine xk_iadd (pc := 19) d_Host_succeeds_19 ?_
    refine xk_bipush (pc := 20) (v := nI 64) d_Host_succeeds_20 (by decide) ?_
    refine xk_iload_n (pc := 22) d_Host_succeeds_22 rfl ?_
    first | refine xk_imulN (pc := 23) d_Host_succeeds_23 ?_ | refine xk_imul (pc := 23) d_Host_succeeds_23 ?_
    first | refine xk_iaddN (pc := 24) d_Host_succeeds_24 ?_ | refine xk_iadd (pc := 24) d_Host_succeeds_24 ?_
    refine xk_istore (pc := 25) d_Host_succeeds_25 (by decide) ?_
    refine xk_aload_n (pc := 27) d_Host_succeeds_27 rfl ?_
    refine xk_aload_n (pc := 28) d_Host_succeeds_28 rfl ?_
    refine xk_getIo (pc := 29) d_Host_succeeds_29 fl_Host_25 (by first | rfl | assumption) rfl (by omega) (by omega) hR.2.2.2.1.1 ?_
    refine xk_iconst (pc := 32) (v := nI 1) d_Host_succeeds_32 (by decide) ?_
    first | refine xk_iaddN (pc := 33) d_Host_succeeds_33 ?_ | refine xk_iadd (pc := 33) d_Host_succeeds_33 ?_
    refine xk_bipush (pc := 34) (v := nI 16) d_Host_succeeds_34 (by decide) ?_
    refine xk_iremN (pc := 36) d_Host_succeeds_36 (by decide) (by omega) (by decide) ?_
    refine xk_putI (pc := 37) d_Host_succeeds_37 fl_Host_25 (by first | rfl | assumption) rfl (fun q hq h => by cases hq; first | exact absurd h (by decide) | exact ⟨rfl, rfl, rfl⟩) ⟨rfl, rfl⟩ (by omega) (by omega) ?_
    refine xk_aload_n (pc := 40) d_Host_succeeds_40 rfl ?_
    refine xk_getRo (pc := 41) d_Host_succeeds_41 fl_Host_22 (by first | rfl | assumption) rfl (by omega) (by omega) (hS _ _ _ rfl (by omega)) ?_
    refine xk_aload_n (pc := 44) d_Host_succeeds_44 rfl ?_
    refine xk_getIo (pc := 45) d_Host_succeeds_45 fl_Host_25 (by first | rfl | assumption) rfl (by omega) (by omega) xk_up_s ?_
    refine xk_iload (pc := 48) d_Host_succeeds_48 rfl ?_
    refine xk_if_eq (pc := 50) (tgt := 62) d_Host_succeeds_50 rfl (fun h => absurd h (by decide)) (fun _ => ?_)
    refine xk_iload (pc := 53) d_Host_succeeds_53 rfl ?_
    refine xk_sipush (pc := 55) (v := nI 256) d_Host_succeeds_55 (by decide) ?_
    first | refine xk_iaddN (pc := 58) d_Host_succeeds_58 ?_ | refine xk_iadd (pc := 58) d_Host_succeeds_58 ?_
    refine xk_goto (pc := 59) (tgt := 64) d_Host_succeeds_59 rfl ?_
    refine xk_iastore (pc := 64) d_Host_succeeds_64 (by first | rfl | assumption) (by omega) (by omega) rfl (Nat.mod_lt _ (by decide)) (by decide) ?_
    refine xk_aload_n (pc := 65) d_Host_succeeds_65 rfl ?_
    refine xk_dup (pc := 66) d_Host_succeeds_66 ?_
    refine xk_getIo (pc := 67) d_Host_succeeds_67 fl_Host_29 (by first | rfl | assumption) rfl (by omega) (by omega) ((xk_up_a (by decide)).trans ((xk_up_k (by decide)).trans hR.2.2.2.2.1)) ?_
    refine xk_iconst (pc := 70) (v := nI 1) d_Host_succeeds_70 (by decide) ?_
    first | refine xk_iaddN (pc := 71) d_Host_succeeds_71 ?_ | refine xk_iadd (pc := 71) d_Host_succeeds_71 ?_
    refine xk_putI (pc := 72) d_Host_succeeds_72 fl_Host_29 (by first | rfl | assumption) rfl (fun q hq h => by cases hq; first | exact absurd h (by decide) | exact ⟨rfl, rfl, rfl⟩) ⟨rfl, rfl⟩ (by omega) (by omega) ?_
    refine xk_iload (pc := 75) d_Host_succeeds_75 rfl ?_
    refine xk_if_eq (pc := 77) (tgt := 90) d_Host_succeeds_77 rfl (fun h => absurd h (by decide)) (fun _ => ?_)
    refine xk_aload_n (pc := 80) d_Host_succeeds_80 rfl ?_
    refine xk_dup (pc := 81) d_Host_succeeds_81 ?_
    refine xk_getIo (pc := 82) d_Host_succeeds_82 fl_Host_32 (by first | rfl | assumption) rfl (by omega) (by omega) ((xk_up_k (by decide)).trans ((xk_up_a (by decide)).trans ((xk_up_k (by decide)).trans hR.2.2.2.2.2))) ?_
    refine xk_iconst (pc := 85) (v := nI 1) d_Host_succeeds_85 (by decide) ?_
    first | refine xk_isubN (pc := 86) d_Host_succeeds_86 (by omega) ?_ | refine xk_isub (pc := 86) d_Host_succeeds_86 ?_
    refine xk_putI (pc := 87) d_Host_succeeds_87 fl_Host_32 (by first | rfl | assumption) rfl (fun q hq h => by cases hq; first | exact absurd h (by decide) | exact ⟨rfl, rfl, rfl⟩) ⟨rfl, rfl⟩ (by omega) (by omega) ?_
    refine xk_iload (pc := 90) d_Host_succeeds_90 rfl ?_
    refine xk_if_ne (pc := 92) (tgt := 99) d_Host_succeeds_92 rfl (fun _ => ?_) (fun h => absurd h (by decide))
    refine xk_iconst (pc := 99) (v := nI 0) d_Host_succeeds_99 (by decide) ?_
    refine xk_zret (pc := 100) rfl d_Host_succeeds_100 rfl rfl (Nat.le_of_ble_eq_true rfl) (Nat.le_of_ble_eq_true rfl) ?_
    have c_5 : h.2.2.2.2.2 ≠ 0 := by omega
    refine h0 c_5 _ (xr_H_op hR ?_ ?_ ?_ ?_ ?_ ?_ ?_) (fun a h2 h6 => ?_)
    · funext j; simp [xk_up]
    · funext j; simp [xk_up]
    · funext j; simp [xk_up]
    · intro j hj; simp [xk_up, c_5]
    · simp [xk_up]
    · simp [xk_up]
    · simp [xk_up]
    · funext j; simp [xk_up, h2, h6]
