def xr_B (x : xs_B) (a : Nat) (m : xk_M) : Prop := m a 0 = nI x.1 ∧ m a 1 = nI x.2.1 ∧ m a 2 = xs_bi x.2.2.1 ∧ ∀ k, k < 8 → m (a + 1) k = x.2.2.2 k
/-- the cache of the class: its blocks lie in the five places in some order -/
def xr_C (l : List xs_B) (m : xk_M) (r : xk_P) : Prop := m 7 3 = nI l.length ∧ l.length ≤ 5 ∧ ∃ β : Nat → Nat, (∀ i, i < 5 → β i < 5 ∧ r 9 i = some (10 + 2 * β i)) ∧ (∀ i j, i < 5 → j < 5 → β i = β j → i = j) ∧ ∀ (i : Nat) (x : xs_B), l[i]? = some x → xr_B x (10 + 2 * β i) m
def xr_L (ln : Nat → Nat) (m : xk_M) : Prop := ∀ f, f < 8 → m 8 f = nI (ln f)
def xr_F (F : xs_F) (m : xk_M) (r : xk_P) : Prop := xr_H F.1 m ∧ xr_L F.2.1 m ∧ xr_C F.2.2 m r
/-- what holds of the file side -/
def xs_okF (F : xs_F) : Prop := (∀ f, f < 8 → F.1.2.1 f ≤ F.2.1 f ∧ F.2.1 f ≤ 32) ∧ (∀ f i, f < 8 → F.1.2.1 f ≤ i → i < 32 → F.1.2.2.1 f i = 0) ∧ (∀ (i : Nat) (x : xs_B), F.2.2[i]? = some x → x.1 < 8 ∧ x.2.1 < 4 ∧ (x.2.2.1 = true → 8 * x.2.1 < F.2.1 x.1)) ∧ (∀ (i j : Nat) (x y : xs_B), F.2.2[i]? = some x → F.2.2[j]? = some y → x.1 = y.1 → x.2.1 = y.2.1 → i = j) ∧ F.2.2.length ≤ 5 ∧ F.1.2.2.2.2.2 ≤ 9
def xs_small (F : xs_F) : Prop := F.1.2.2.2.2.1 < 2 ^ 20
theorem xs_bi_nz {b : Bool} (h : ¬ xs_bi b = 0) : b = true := by
  cases b
  · exact absurd rfl h
  · rfl
theorem xs_fi_none {α : Type} {p : α → Bool} : ∀ {l : List α}, (∀ (j : Nat) (x : α), l[j]? = some x → p x = false) → l.findIdx? p = none
  | [], _ => rfl
  | y :: l, h => by
    rw [List.findIdx?_cons, h 0 y rfl, if_neg (by decide), xs_fi_none (fun j x hj => h (j + 1) x (by rw [List.getElem?_cons_succ]; exact hj))]
    rfl
theorem xs_fi_some {α : Type} {p : α → Bool} : ∀ {l : List α} {i : Nat} {x : α}, l[i]? = some x → p x = true → (∀ (j : Nat) (y : α), j < i → l[j]? = some y → p y = false) → l.findIdx? p = some i
  | [], i, x, h, _, _ => by simp at h
  | y :: l, 0, x, h, hp, _ => by
    rw [List.getElem?_cons_zero] at h
    cases h
    rw [List.findIdx?_cons, hp, if_pos rfl]
  | y :: l, i + 1, x, h, hp, hn => by
    rw [List.getElem?_cons_succ] at h
    rw [List.findIdx?_cons, hn 0 y (by omega) rfl, if_neg (by decide), xs_fi_some h hp (fun j z hj hz => hn (j + 1) z (by omega) (by rw [List.getElem?_cons_succ]; exact hz))]
    rfl
theorem xs_fi_is {l : List xs_B} {f b i : Nat} (h : l.findIdx? (xs_is f b) = some i) : ∃ x, l[i]? = some x ∧ x.1 = f ∧ x.2.1 = b := by
  rw [List.findIdx?_eq_some_iff_getElem] at h
  obtain ⟨hi, hp, -⟩ := h
  refine ⟨l[i], List.getElem?_eq_getElem hi, ?_⟩
  unfold xs_is at hp
  exact of_decide_eq_true hp
theorem xs_any_f {l : List xs_B} {f : Nat} (h : ∀ (j : Nat) (x : xs_B), l[j]? = some x → ¬ x.1 = f) : l.any (fun x => decide (x.1 = f)) = false := by
  rw [List.any_eq_false]
  intro x hx
  obtain ⟨j, hj⟩ := List.getElem?_of_mem hx
  simp [h j x hj]
theorem xs_any_t {l : List xs_B} {f i : Nat} {x : xs_B} (h : l[i]? = some x) (hx : x.1 = f) : l.any (fun x => decide (x.1 = f)) = true := by
  rw [List.any_eq_true]
  exact ⟨x, List.mem_of_getElem? h, by simp [hx]⟩
theorem xs_get_lt {α : Type} {l : List α} {i : Nat} (h : i < l.length) : ∃ x, l[i]? = some x := ⟨l[i], List.getElem?_eq_getElem h⟩
theorem xs_lt {α : Type} {l : List α} {i : Nat} {x : α} (h : l[i]? = some x) : i < l.length := (List.getElem?_eq_some_iff.mp h).1

set_option maxRecDepth 20000 in
set_option maxHeartbeats 4000000 in
theorem c_Cache_lengthOf {E : xk_E} {n : Nat} {m : xk_M} {r : xk_P} {Q : xk_Q} (hn : 74 ≤ n) (hS : xr_S r n) {f : Nat} (hf : f < 8) (hQ : Q (some (.inl (m 8 f))) n m r) : xk_W E m_Cache_lengthOf 0 (xk_ent m_Cache_lengthOf [.inr (some 7), .inl (nI f)]) [] n m r 0 0 Q := by
  show xk_W E m_Cache_lengthOf 0 [some (.inr (some 7)), some (.inl (nI f))] [] n m r 0 0 Q
  refine xk_aload_n (pc := 0) d_Cache_lengthOf_0 rfl ?_
  refine xk_getRo (pc := 1) d_Cache_lengthOf_1 fl_Cache_9 (by first | rfl | assumption) rfl (by omega) (by omega) (hS _ _ _ rfl (by omega)) ?_
  refine xk_iload_n (pc := 4) d_Cache_lengthOf_4 rfl ?_
  refine xk_iaload (pc := 5) d_Cache_lengthOf_5 (by first | rfl | assumption) (by omega) (by omega) rfl (by omega) (by decide) ?_
  refine xk_iret (pc := 6) rfl d_Cache_lengthOf_6 rfl (Nat.le_of_ble_eq_true rfl) (Nat.le_of_ble_eq_true rfl) ?_
  exact hQ

set_option maxRecDepth 20000 in
set_option maxHeartbeats 4000000 in
theorem c_Cache_setLength {E : xk_E} {n : Nat} {m : xk_M} {r : xk_P} {Q : xk_Q} (hn : 74 ≤ n) (hS : xr_S r n) {f : Nat} {x : Int32} (hf : f < 8) (hQ : Q none n (xk_up m 8 f x) r) : xk_W E m_Cache_setLength 0 (xk_ent m_Cache_setLength [.inr (some 7), .inl (nI f), .inl x]) [] n m r 0 0 Q := by
  show xk_W E m_Cache_setLength 0 [some (.inr (some 7)), some (.inl (nI f)), some (.inl x)] [] n m r 0 0 Q
  refine xk_aload_n (pc := 0) d_Cache_setLength_0 rfl ?_
  refine xk_getRo (pc := 1) d_Cache_setLength_1 fl_Cache_9 (by first | rfl | assumption) rfl (by omega) (by omega) (hS _ _ _ rfl (by omega)) ?_
  refine xk_iload_n (pc := 4) d_Cache_setLength_4 rfl ?_
  refine xk_iload_n (pc := 5) d_Cache_setLength_5 rfl ?_
  refine xk_iastore (pc := 6) d_Cache_setLength_6 (by first | rfl | assumption) (by omega) (by omega) rfl (by omega) (by decide) ?_
  refine xk_vret (pc := 7) rfl d_Cache_setLength_7 rfl (Nat.le_of_ble_eq_true rfl) (Nat.le_of_ble_eq_true rfl) ?_
  exact hQ

set_option maxRecDepth 20000 in
set_option maxHeartbeats 4000000 in
theorem c_Cache_size {E : xk_E} {n : Nat} {m : xk_M} {r : xk_P} {Q : xk_Q} (hn : 74 ≤ n) (hS : xr_S r n) (hQ : Q (some (.inl (m 7 3))) n m r) : xk_W E m_Cache_size 0 (xk_ent m_Cache_size [.inr (some 7)]) [] n m r 0 0 Q := by
  show xk_W E m_Cache_size 0 [some (.inr (some 7))] [] n m r 0 0 Q
  refine xk_aload_n (pc := 0) d_Cache_size_0 rfl ?_
  refine xk_getI (pc := 1) d_Cache_size_1 fl_Cache_21 (by first | rfl | assumption) rfl (by omega) (by omega) ?_
  refine xk_iret (pc := 4) rfl d_Cache_size_4 rfl (Nat.le_of_ble_eq_true rfl) (Nat.le_of_ble_eq_true rfl) ?_
  exact hQ

set_option maxRecDepth 20000 in
set_option maxHeartbeats 4000000 in
theorem c_Cache_blockAt {E : xk_E} {n : Nat} {m : xk_M} {r : xk_P} {Q : xk_Q} (hn : 74 ≤ n) (hS : xr_S r n) {i : Nat} (hi : i < 5) (hQ : Q (some (.inr (r 9 i))) n m r) : xk_W E m_Cache_blockAt 0 (xk_ent m_Cache_blockAt [.inr (some 7), .inl (nI i)]) [] n m r 0 0 Q := by
  show xk_W E m_Cache_blockAt 0 [some (.inr (some 7)), some (.inl (nI i))] [] n m r 0 0 Q
  refine xk_aload_n (pc := 0) d_Cache_blockAt_0 rfl ?_
  refine xk_getRo (pc := 1) d_Cache_blockAt_1 fl_Cache_17 (by first | rfl | assumption) rfl (by omega) (by omega) (hS _ _ _ rfl (by omega)) ?_
  refine xk_iload_n (pc := 4) d_Cache_blockAt_4 rfl ?_
  refine xk_aaload (pc := 5) d_Cache_blockAt_5 (by first | rfl | assumption) (by decide) (by decide) (by omega) (by omega) rfl (by omega) (by decide) ?_
  refine xk_aret (pc := 6) rfl d_Cache_blockAt_6 rfl (Nat.le_of_ble_eq_true rfl) (Nat.le_of_ble_eq_true rfl) ?_
  exact hQ

set_option maxRecDepth 20000 in
set_option maxHeartbeats 4000000 in
theorem c_Block_isOf {E : xk_E} {n : Nat} {m : xk_M} {r : xk_P} {Q : xk_Q} (hn : 74 ≤ n) (hS : xr_S r n) {a fx bx f b : Nat} (hk : xk_kd a = .inl 0) (ha : 1 ≤ a) (han : a < n) (e0 : m a 0 = nI fx) (e1 : m a 1 = nI bx) (b0 : fx < 2 ^ 30) (b1 : bx < 2 ^ 30) (b2 : f < 2 ^ 30) (b3 : b < 2 ^ 30) (h1 : fx = f → bx = b → Q (some (.inl (nI 1))) n m r) (h0 : ¬ (fx = f ∧ bx = b) → Q (some (.inl (nI 0))) n m r) : xk_W E m_Block_isOf 0 (xk_ent m_Block_isOf [.inr (some a), .inl (nI f), .inl (nI b)]) [] n m r 0 0 Q := by
  show xk_W E m_Block_isOf 0 [some (.inr (some a)), some (.inl (nI f)), some (.inl (nI b))] [] n m r 0 0 Q
  refine xk_aload_n (pc := 0) d_Block_isOf_0 rfl ?_
  refine xk_getIo (pc := 1) d_Block_isOf_1 fl_Block_9 (by first | rfl | assumption) rfl (by omega) (by omega) e0 ?_
  refine xk_iload_n (pc := 4) d_Block_isOf_4 rfl ?_
  first | refine xk_icmp_neN (pc := 5) (tgt := 20) d_Block_isOf_5 rfl (by omega) (by omega) (fun c_5 => ?_) (fun c_5 => ?_) | refine xk_icmp_ne (pc := 5) (tgt := 20) d_Block_isOf_5 rfl (fun c_5 => ?_) (fun c_5 => ?_)
  · refine xk_iconst (pc := 20) (v := nI 0) d_Block_isOf_20 (by decide) ?_
    refine xk_zret (pc := 21) rfl d_Block_isOf_21 rfl rfl (Nat.le_of_ble_eq_true rfl) (Nat.le_of_ble_eq_true rfl) ?_
    first | exact h0 (fun q => c_5 q.1) | exact h0 (fun q => c_13 q.2)
  · refine xk_aload_n (pc := 8) d_Block_isOf_8 rfl ?_
    refine xk_getIo (pc := 9) d_Block_isOf_9 fl_Block_15 (by first | rfl | assumption) rfl (by omega) (by omega) e1 ?_
    refine xk_iload_n (pc := 12) d_Block_isOf_12 rfl ?_
    first | refine xk_icmp_neN (pc := 13) (tgt := 20) d_Block_isOf_13 rfl (by omega) (by omega) (fun c_13 => ?_) (fun c_13 => ?_) | refine xk_icmp_ne (pc := 13) (tgt := 20) d_Block_isOf_13 rfl (fun c_13 => ?_) (fun c_13 => ?_)
    · refine xk_iconst (pc := 20) (v := nI 0) d_Block_isOf_20 (by decide) ?_
      refine xk_zret (pc := 21) rfl d_Block_isOf_21 rfl rfl (Nat.le_of_ble_eq_true rfl) (Nat.le_of_ble_eq_true rfl) ?_
      first | exact h0 (fun q => c_5 q.1) | exact h0 (fun q => c_13 q.2)
    · refine xk_iconst (pc := 16) (v := nI 1) d_Block_isOf_16 (by decide) ?_
      refine xk_goto (pc := 17) (tgt := 21) d_Block_isOf_17 rfl ?_
      refine xk_zret (pc := 21) rfl d_Block_isOf_21 rfl rfl (Nat.le_of_ble_eq_true rfl) (Nat.le_of_ble_eq_true rfl) ?_
      exact h1 c_5 c_13

set_option maxRecDepth 20000 in
set_option maxHeartbeats 4000000 in
theorem c_Block_describe {E : xk_E} {n : Nat} {m : xk_M} {r : xk_P} {Q : xk_Q} (hn : 74 ≤ n) (hS : xr_S r n) {a fx bx : Nat} {dt : Bool} (hk : xk_kd a = .inl 0) (ha : 1 ≤ a) (han : a < n) (e0 : m a 0 = nI fx) (e1 : m a 1 = nI bx) (e2 : m a 2 = xs_bi dt) (hQ : Q (some (.inl (nI (fx + 8 * bx + (if dt = true then 32 else 0))))) n m r) : xk_W E m_Block_describe 0 (xk_ent m_Block_describe [.inr (some a)]) [] n m r 0 0 Q := by
  show xk_W E m_Block_describe 0 [some (.inr (some a))] [] n m r 0 0 Q
  refine xk_aload_n (pc := 0) d_Block_describe_0 rfl ?_
  refine xk_getIo (pc := 1) d_Block_describe_1 fl_Block_9 (by first | rfl | assumption) rfl (by omega) (by omega) e0 ?_
  refine xk_bipush (pc := 4) (v := nI 8) d_Block_describe_4 (by decide) ?_
  refine xk_aload_n (pc := 6) d_Block_describe_6 rfl ?_
  refine xk_getIo (pc := 7) d_Block_describe_7 fl_Block_15 (by first | rfl | assumption) rfl (by omega) (by omega) e1 ?_
  first | refine xk_imulN (pc := 10) d_Block_describe_10 ?_ | refine xk_imul (pc := 10) d_Block_describe_10 ?_
  first | refine xk_iaddN (pc := 11) d_Block_describe_11 ?_ | refine xk_iadd (pc := 11) d_Block_describe_11 ?_
  refine xk_aload_n (pc := 12) d_Block_describe_12 rfl ?_
  refine xk_getIo (pc := 13) d_Block_describe_13 fl_Block_18 (by first | rfl | assumption) rfl (by omega) (by omega) e2 ?_
  first | refine xk_if_eqN (pc := 16) (tgt := 24) d_Block_describe_16 rfl (by omega) (fun c_16 => ?_) (fun c_16 => ?_) | refine xk_if_eq (pc := 16) (tgt := 24) d_Block_describe_16 rfl (fun c_16 => ?_) (fun c_16 => ?_)
  · rw [xs_bi_z] at c_16
    subst c_16
    refine xk_iconst (pc := 24) (v := nI 0) d_Block_describe_24 (by decide) ?_
    first | refine xk_iaddN (pc := 25) d_Block_describe_25 ?_ | refine xk_iadd (pc := 25) d_Block_describe_25 ?_
    refine xk_iret (pc := 26) rfl d_Block_describe_26 rfl (Nat.le_of_ble_eq_true rfl) (Nat.le_of_ble_eq_true rfl) ?_
    exact hQ
  · have c_17 := xs_bi_nz c_16
    subst c_17
    refine xk_bipush (pc := 19) (v := nI 32) d_Block_describe_19 (by decide) ?_
    refine xk_goto (pc := 21) (tgt := 25) d_Block_describe_21 rfl ?_
    first | refine xk_iaddN (pc := 25) d_Block_describe_25 ?_ | refine xk_iadd (pc := 25) d_Block_describe_25 ?_
    refine xk_iret (pc := 26) rfl d_Block_describe_26 rfl (Nat.le_of_ble_eq_true rfl) (Nat.le_of_ble_eq_true rfl) ?_
    exact hQ

set_option maxRecDepth 20000 in
set_option maxHeartbeats 4000000 in
theorem l_find {E : xk_E} {n : Nat} {r : xk_P} {Q : xk_Q} {m : xk_M} {l : List xs_B} {β : Nat → Nat} (hn : 74 ≤ n) (hS : xr_S r n) (hz : m 7 3 = nI l.length) (hl5 : l.length ≤ 5) (hβ : ∀ i, i < 5 → β i < 5 ∧ r 9 i = some (10 + 2 * β i)) (hB : ∀ (i : Nat) (x : xs_B), l[i]? = some x → xr_B x (10 + 2 * β i) m) (hok : ∀ (i : Nat) (x : xs_B), l[i]? = some x → x.1 < 8 ∧ x.2.1 < 4) {f b : Nat} (hf : f < 8) (hb : b < 4) (h1 : ∀ i, l.findIdx? (xs_is f b) = some i → i < l.length → Q (some (.inl (nI i))) n m r) (h0 : l.findIdx? (xs_is f b) = none → Q (some (.inl (-1))) n m r) : ∀ (k : Nat) (i : Nat), l.length - i < k → i ≤ l.length → (∀ (j : Nat) (y : xs_B), j < i → l[j]? = some y → xs_is f b y = false) → xk_W E m_Cache_find 2 [some (.inr (some 7)), some (.inl (nI f)), some (.inl (nI b)), some (.inl (nI i))] [] n m r 0 0 Q := by
  intro k
  induction k with
  | zero => intro i h; exact absurd h (Nat.not_lt_zero _)
  | succ k ih =>
    intro i hk hi hj
    refine xk_iload_n (pc := 2) d_Cache_find_2 rfl ?_
    refine xk_aload_n (pc := 3) d_Cache_find_3 rfl ?_
    refine xk_getIo (pc := 4) d_Cache_find_4 fl_Cache_21 (by first | rfl | assumption) rfl (by omega) (by omega) hz ?_
    first | refine xk_icmp_geN (pc := 7) (tgt := 32) d_Cache_find_7 rfl (by omega) (by omega) (fun c_7 => ?_) (fun c_7 => ?_) | refine xk_icmp_ge (pc := 7) (tgt := 32) d_Cache_find_7 rfl (fun c_7 => ?_) (fun c_7 => ?_)
    · refine xk_iconst (pc := 32) (v := (-1)) d_Cache_find_32 (by decide) ?_
      refine xk_iret (pc := 33) rfl d_Cache_find_33 rfl (Nat.le_of_ble_eq_true rfl) (Nat.le_of_ble_eq_true rfl) ?_
      exact h0 (xs_fi_none (fun j y hy => hj j y (by have := xs_lt hy; omega) hy))
    · have hi5 : i < 5 := by omega
      obtain ⟨hb5, hr9⟩ := hβ i hi5
      obtain ⟨x, hx⟩ := xs_get_lt (l := l) c_7
      obtain ⟨hB0, hB1, hB2, hB3⟩ := hB i x hx
      obtain ⟨hx8, hx4⟩ := hok i x hx
      have hkb := xr_kd_blk _ hb5
      refine xk_aload_n (pc := 10) d_Cache_find_10 rfl ?_
      refine xk_getRo (pc := 11) d_Cache_find_11 fl_Cache_17 (by first | rfl | assumption) rfl (by omega) (by omega) (hS _ _ _ rfl (by omega)) ?_
      refine xk_iload_n (pc := 14) d_Cache_find_14 rfl ?_
      refine xk_aaloado (pc := 15) d_Cache_find_15 (by first | rfl | assumption) (by decide) (by decide) (by omega) (by omega) rfl (by omega) (by decide) hr9 ?_
      refine xk_iload_n (pc := 16) d_Cache_find_16 rfl ?_
      refine xk_iload_n (pc := 17) d_Cache_find_17 rfl ?_
      refine xk_cV2 (pc := 18) d_Cache_find_18 ml_Cache_59 cz_Block_isOf ⟨rfl, rfl⟩ rfl (by first | rfl | assumption) (by omega) (by omega) (Nat.le_of_ble_eq_true rfl) ⟨(Nat.le_of_ble_eq_true rfl), (Nat.le_of_ble_eq_true rfl)⟩ ?_
      refine c_Block_isOf hn hS hkb (by omega) (by omega) hB0 hB1 (by omega) (by omega) (by omega) (by omega) (fun e1 e2 => ?_) (fun e => ?_)
      · refine xk_if_eq (pc := 21) (tgt := 26) d_Cache_find_21 rfl (fun h => absurd h (by decide)) (fun _ => ?_)
        refine xk_iload_n (pc := 24) d_Cache_find_24 rfl ?_
        refine xk_iret (pc := 25) rfl d_Cache_find_25 rfl (Nat.le_of_ble_eq_true rfl) (Nat.le_of_ble_eq_true rfl) ?_
        exact h1 i (xs_fi_some hx (by unfold xs_is; simp [e1, e2]) hj) c_7
      · refine xk_if_eq (pc := 21) (tgt := 26) d_Cache_find_21 rfl (fun _ => ?_) (fun h => absurd (by decide) h)
        refine xk_iincN (pc := 26) (d := 1) d_Cache_find_26 rfl ?_
        refine xk_goto (pc := 29) (tgt := 2) d_Cache_find_29 rfl ?_
        exact ih (i + 1) (by omega) (by omega) (fun j y hji hy => by
          by_cases e3 : j = i
          · subst e3
            cases hx.symm.trans hy
            unfold xs_is
            exact decide_eq_false e
          · exact hj j y (by omega) hy)

set_option maxRecDepth 20000 in
set_option maxHeartbeats 4000000 in
theorem c_Cache_find {E : xk_E} {n : Nat} {m : xk_M} {r : xk_P} {Q : xk_Q} (hn : 74 ≤ n) (hS : xr_S r n) {F : xs_F} (hF : xr_F F m r) (hok : xs_okF F) {f b : Nat} (hf : f < 8) (hb : b < 4) (h1 : ∀ i, F.2.2.findIdx? (xs_is f b) = some i → i < F.2.2.length → Q (some (.inl (nI i))) n m r) (h0 : F.2.2.findIdx? (xs_is f b) = none → Q (some (.inl (-1))) n m r) : xk_W E m_Cache_find 0 (xk_ent m_Cache_find [.inr (some 7), .inl (nI f), .inl (nI b)]) [] n m r 0 0 Q := by
  show xk_W E m_Cache_find 0 [some (.inr (some 7)), some (.inl (nI f)), some (.inl (nI b)), none] [] n m r 0 0 Q
  refine xk_iconst (pc := 0) (v := nI 0) d_Cache_find_0 (by decide) ?_
  refine xk_istore_n (pc := 1) d_Cache_find_1 (by decide) ?_
  obtain ⟨hz, hl5, β, hβ, hinj, hB⟩ := hF.2.2
  exact l_find hn hS hz hl5 hβ hB (fun i x hx => ⟨(hok.2.2.1 i x hx).1, (hok.2.2.1 i x hx).2.1⟩) hf hb h1 h0 (F.2.2.length + 1) 0 (by omega) (by omega) (fun j y h => absurd h (Nat.not_lt_zero _))

set_option maxRecDepth 20000 in
set_option maxHeartbeats 4000000 in
theorem l_holdsFile {E : xk_E} {n : Nat} {r : xk_P} {Q : xk_Q} {m : xk_M} {l : List xs_B} {β : Nat → Nat} (hn : 74 ≤ n) (hS : xr_S r n) (hz : m 7 3 = nI l.length) (hl5 : l.length ≤ 5) (hβ : ∀ i, i < 5 → β i < 5 ∧ r 9 i = some (10 + 2 * β i)) (hB : ∀ (i : Nat) (x : xs_B), l[i]? = some x → xr_B x (10 + 2 * β i) m) (hok : ∀ (i : Nat) (x : xs_B), l[i]? = some x → x.1 < 8 ∧ x.2.1 < 4) {f : Nat} (hf : f < 8) (h1 : l.any (fun x => decide (x.1 = f)) = true → Q (some (.inl (nI 1))) n m r) (h0 : l.any (fun x => decide (x.1 = f)) = false → Q (some (.inl (nI 0))) n m r) : ∀ (k : Nat) (i : Nat), l.length - i < k → i ≤ l.length → (∀ (j : Nat) (y : xs_B), j < i → l[j]? = some y → ¬ y.1 = f) → xk_W E m_Cache_holdsFile 2 [some (.inr (some 7)), some (.inl (nI f)), some (.inl (nI i))] [] n m r 0 0 Q := by
  intro k
  induction k with
  | zero => intro i h; exact absurd h (Nat.not_lt_zero _)
  | succ k ih =>
    intro i hk hi hj
    refine xk_iload_n (pc := 2) d_Cache_holdsFile_2 rfl ?_
    refine xk_aload_n (pc := 3) d_Cache_holdsFile_3 rfl ?_
    refine xk_getIo (pc := 4) d_Cache_holdsFile_4 fl_Cache_21 (by first | rfl | assumption) rfl (by omega) (by omega) hz ?_
    first | refine xk_icmp_geN (pc := 7) (tgt := 31) d_Cache_holdsFile_7 rfl (by omega) (by omega) (fun c_7 => ?_) (fun c_7 => ?_) | refine xk_icmp_ge (pc := 7) (tgt := 31) d_Cache_holdsFile_7 rfl (fun c_7 => ?_) (fun c_7 => ?_)
    · refine xk_iconst (pc := 31) (v := nI 0) d_Cache_holdsFile_31 (by decide) ?_
      refine xk_zret (pc := 32) rfl d_Cache_holdsFile_32 rfl rfl (Nat.le_of_ble_eq_true rfl) (Nat.le_of_ble_eq_true rfl) ?_
      exact h0 (xs_any_f (fun j y hy => hj j y (by have := xs_lt hy; omega) hy))
    · have hi5 : i < 5 := by omega
      obtain ⟨hb5, hr9⟩ := hβ i hi5
      obtain ⟨x, hx⟩ := xs_get_lt (l := l) c_7
      obtain ⟨hB0, hB1, hB2, hB3⟩ := hB i x hx
      obtain ⟨hx8, hx4⟩ := hok i x hx
      have hkb := xr_kd_blk _ hb5
      refine xk_aload_n (pc := 10) d_Cache_holdsFile_10 rfl ?_
      refine xk_getRo (pc := 11) d_Cache_holdsFile_11 fl_Cache_17 (by first | rfl | assumption) rfl (by omega) (by omega) (hS _ _ _ rfl (by omega)) ?_
      refine xk_iload_n (pc := 14) d_Cache_holdsFile_14 rfl ?_
      refine xk_aaloado (pc := 15) d_Cache_holdsFile_15 (by first | rfl | assumption) (by decide) (by decide) (by omega) (by omega) rfl (by omega) (by decide) hr9 ?_
      refine xk_getIo (pc := 16) d_Cache_holdsFile_16 fl_Cache_30 (by first | rfl | assumption) rfl (by omega) (by omega) hB0 ?_
      refine xk_iload_n (pc := 19) d_Cache_holdsFile_19 rfl ?_
      first | refine xk_icmp_neN (pc := 20) (tgt := 25) d_Cache_holdsFile_20 rfl (by omega) (by omega) (fun c_20 => ?_) (fun c_20 => ?_) | refine xk_icmp_ne (pc := 20) (tgt := 25) d_Cache_holdsFile_20 rfl (fun c_20 => ?_) (fun c_20 => ?_)
      · refine xk_iincN (pc := 25) (d := 1) d_Cache_holdsFile_25 rfl ?_
        refine xk_goto (pc := 28) (tgt := 2) d_Cache_holdsFile_28 rfl ?_
        exact ih (i + 1) (by omega) (by omega) (fun j y hji hy => by
          by_cases e3 : j = i
          · subst e3
            cases hx.symm.trans hy
            exact c_20
          · exact hj j y (by omega) hy)
      · refine xk_iconst (pc := 23) (v := nI 1) d_Cache_holdsFile_23 (by decide) ?_
        refine xk_zret (pc := 24) rfl d_Cache_holdsFile_24 rfl rfl (Nat.le_of_ble_eq_true rfl) (Nat.le_of_ble_eq_true rfl) ?_
        exact h1 (xs_any_t hx c_20)

set_option maxRecDepth 20000 in
set_option maxHeartbeats 4000000 in
theorem c_Cache_holdsFile {E : xk_E} {n : Nat} {m : xk_M} {r : xk_P} {Q : xk_Q} (hn : 74 ≤ n) (hS : xr_S r n) {F : xs_F} (hF : xr_F F m r) (hok : xs_okF F) {f : Nat} (hf : f < 8) (h1 : F.2.2.any (fun x => decide (x.1 = f)) = true → Q (some (.inl (nI 1))) n m r) (h0 : F.2.2.any (fun x => decide (x.1 = f)) = false → Q (some (.inl (nI 0))) n m r) : xk_W E m_Cache_holdsFile 0 (xk_ent m_Cache_holdsFile [.inr (some 7), .inl (nI f)]) [] n m r 0 0 Q := by
  show xk_W E m_Cache_holdsFile 0 [some (.inr (some 7)), some (.inl (nI f)), none] [] n m r 0 0 Q
  refine xk_iconst (pc := 0) (v := nI 0) d_Cache_holdsFile_0 (by decide) ?_
  refine xk_istore_n (pc := 1) d_Cache_holdsFile_1 (by decide) ?_
  obtain ⟨hz, hl5, β, hβ, hinj, hB⟩ := hF.2.2
  exact l_holdsFile hn hS hz hl5 hβ hB (fun i x hx => ⟨(hok.2.2.1 i x hx).1, (hok.2.2.1 i x hx).2.1⟩) hf h1 h0 (F.2.2.length + 1) 0 (by omega) (by omega) (fun j y h => absurd h (Nat.not_lt_zero _))

theorem xs_cp_s {l : List xs_B} {i : Nat} {x : xs_B} (h : l[i]? = some x) : (l.take (i + 1)).countP (fun x => x.2.2.1) = (l.take i).countP (fun x => x.2.2.1) + (if x.2.2.1 = true then 1 else 0) := by
  rw [List.take_add_one, h, List.countP_append]
  show _ + List.countP _ [x] = _
  rw [List.countP_cons, List.countP_nil, Nat.zero_add]

set_option maxRecDepth 20000 in
set_option maxHeartbeats 4000000 in
theorem l_dirty {E : xk_E} {n : Nat} {r : xk_P} {Q : xk_Q} {m : xk_M} {l : List xs_B} {β : Nat → Nat} (hn : 74 ≤ n) (hS : xr_S r n) (hz : m 7 3 = nI l.length) (hl5 : l.length ≤ 5) (hβ : ∀ i, i < 5 → β i < 5 ∧ r 9 i = some (10 + 2 * β i)) (hB : ∀ (i : Nat) (x : xs_B), l[i]? = some x → xr_B x (10 + 2 * β i) m) (hok : ∀ (i : Nat) (x : xs_B), l[i]? = some x → x.1 < 8 ∧ x.2.1 < 4) (hQ : Q (some (.inl (nI (l.countP (fun x => x.2.2.1))))) n m r) : ∀ (k : Nat) (i : Nat), l.length - i < k → i ≤ l.length → xk_W E m_Cache_dirtyBlocks 4 [some (.inr (some 7)), some (.inl (nI ((l.take i).countP (fun x => x.2.2.1)))), some (.inl (nI i))] [] n m r 0 0 Q := by
  intro k
  induction k with
  | zero => intro i h; exact absurd h (Nat.not_lt_zero _)
  | succ k ih =>
    intro i hk hi
    refine xk_iload_n (pc := 4) d_Cache_dirtyBlocks_4 rfl ?_
    refine xk_aload_n (pc := 5) d_Cache_dirtyBlocks_5 rfl ?_
    refine xk_getIo (pc := 6) d_Cache_dirtyBlocks_6 fl_Cache_21 (by first | rfl | assumption) rfl (by omega) (by omega) hz ?_
    first | refine xk_icmp_geN (pc := 9) (tgt := 33) d_Cache_dirtyBlocks_9 rfl (by omega) (by omega) (fun c_9 => ?_) (fun c_9 => ?_) | refine xk_icmp_ge (pc := 9) (tgt := 33) d_Cache_dirtyBlocks_9 rfl (fun c_9 => ?_) (fun c_9 => ?_)
    · have e : i = l.length := by omega
      subst e
      rw [List.take_length]
      refine xk_iload_n (pc := 33) d_Cache_dirtyBlocks_33 rfl ?_
      refine xk_iret (pc := 34) rfl d_Cache_dirtyBlocks_34 rfl (Nat.le_of_ble_eq_true rfl) (Nat.le_of_ble_eq_true rfl) ?_
      exact hQ
    · have hi5 : i < 5 := by omega
      obtain ⟨hb5, hr9⟩ := hβ i hi5
      obtain ⟨x, hx⟩ := xs_get_lt (l := l) c_9
      obtain ⟨hB0, hB1, hB2, hB3⟩ := hB i x hx
      obtain ⟨hx8, hx4⟩ := hok i x hx
      have hkb := xr_kd_blk _ hb5
      refine xk_aload_n (pc := 12) d_Cache_dirtyBlocks_12 rfl ?_
      refine xk_getRo (pc := 13) d_Cache_dirtyBlocks_13 fl_Cache_17 (by first | rfl | assumption) rfl (by omega) (by omega) (hS _ _ _ rfl (by omega)) ?_
      refine xk_iload_n (pc := 16) d_Cache_dirtyBlocks_16 rfl ?_
      refine xk_aaloado (pc := 17) d_Cache_dirtyBlocks_17 (by first | rfl | assumption) (by decide) (by decide) (by omega) (by omega) rfl (by omega) (by decide) hr9 ?_
      refine xk_getIo (pc := 18) d_Cache_dirtyBlocks_18 fl_Cache_33 (by first | rfl | assumption) rfl (by omega) (by omega) hB2 ?_
      first | refine xk_if_eqN (pc := 21) (tgt := 27) d_Cache_dirtyBlocks_21 rfl (by omega) (fun c_21 => ?_) (fun c_21 => ?_) | refine xk_if_eq (pc := 21) (tgt := 27) d_Cache_dirtyBlocks_21 rfl (fun c_21 => ?_) (fun c_21 => ?_)
      · refine xk_iincN (pc := 27) (d := 1) d_Cache_dirtyBlocks_27 rfl ?_
        refine xk_goto (pc := 30) (tgt := 4) d_Cache_dirtyBlocks_30 rfl ?_
        have hc := xs_cp_s hx
        have K := ih (i + 1) (by omega) (by omega)
        rw [hc] at K
        rw [xs_bi_z] at c_21
        first | (rw [if_neg (by rw [c_21]; decide)] at K; exact K) | (rw [if_pos (by cases hq : x.2.2.1 <;> simp_all)] at K; exact K)
      · refine xk_iincN (pc := 24) (d := 1) d_Cache_dirtyBlocks_24 rfl ?_
        refine xk_iincN (pc := 27) (d := 1) d_Cache_dirtyBlocks_27 rfl ?_
        refine xk_goto (pc := 30) (tgt := 4) d_Cache_dirtyBlocks_30 rfl ?_
        have hc := xs_cp_s hx
        have K := ih (i + 1) (by omega) (by omega)
        rw [hc] at K
        rw [xs_bi_z] at c_21
        first | (rw [if_neg (by rw [c_21]; decide)] at K; exact K) | (rw [if_pos (by cases hq : x.2.2.1 <;> simp_all)] at K; exact K)

set_option maxRecDepth 20000 in
set_option maxHeartbeats 4000000 in
theorem c_Cache_dirtyBlocks {E : xk_E} {n : Nat} {m : xk_M} {r : xk_P} {Q : xk_Q} (hn : 74 ≤ n) (hS : xr_S r n) {F : xs_F} (hF : xr_F F m r) (hok : xs_okF F) (hQ : Q (some (.inl (nI (F.2.2.countP (fun x => x.2.2.1))))) n m r) : xk_W E m_Cache_dirtyBlocks 0 (xk_ent m_Cache_dirtyBlocks [.inr (some 7)]) [] n m r 0 0 Q := by
  show xk_W E m_Cache_dirtyBlocks 0 [some (.inr (some 7)), none, none] [] n m r 0 0 Q
  refine xk_iconst (pc := 0) (v := nI 0) d_Cache_dirtyBlocks_0 (by decide) ?_
  refine xk_istore_n (pc := 1) d_Cache_dirtyBlocks_1 (by decide) ?_
  refine xk_iconst (pc := 2) (v := nI 0) d_Cache_dirtyBlocks_2 (by decide) ?_
  refine xk_istore_n (pc := 3) d_Cache_dirtyBlocks_3 (by decide) ?_
  obtain ⟨hz, hl5, β, hβ, hinj, hB⟩ := hF.2.2
  exact l_dirty hn hS hz hl5 hβ hB (fun i x hx => ⟨(hok.2.2.1 i x hx).1, (hok.2.2.1 i x hx).2.1⟩) hQ (F.2.2.length + 1) 0 (by omega) (by omega)
