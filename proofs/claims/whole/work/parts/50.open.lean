/-! the openings, the pipes, the processes of the class -/
theorem xs_cnt_u {g : Nat → Option Nat} {k : Nat} {v : Option Nat} {o : Nat} : ∀ K, k < K → xs_cnt (xs_u g k v) o K + (if g k = some o then 1 else 0) = xs_cnt g o K + (if v = some o then 1 else 0)
  | 0, h => absurd h (Nat.not_lt_zero _)
  | K + 1, h => by
    show xs_cnt (xs_u g k v) o K + (if xs_u g k v K = some o then 1 else 0) + _ = xs_cnt g o K + (if g K = some o then 1 else 0) + _
    by_cases e : k = K
    · subst e
      rw [xs_u_s]
      have : ∀ J, J ≤ k → xs_cnt (xs_u g k v) o J = xs_cnt g o J := by
        intro J
        induction J with
        | zero => intro _; rfl
        | succ J ih =>
          intro hJ
          show xs_cnt (xs_u g k v) o J + (if xs_u g k v J = some o then 1 else 0) = xs_cnt g o J + (if g J = some o then 1 else 0)
          rw [ih (by omega), xs_u_n (by omega)]
      rw [this k (Nat.le_refl _)]
      omega
    · rw [xs_u_n (Ne.symm e)]
      have := xs_cnt_u (g := g) (k := k) (v := v) (o := o) K (by omega)
      omega
theorem xs_cnt_le {g : Nat → Option Nat} {o : Nat} : ∀ K, xs_cnt g o K ≤ K
  | 0 => Nat.le_refl _
  | K + 1 => by
    show xs_cnt g o K + (if g K = some o then 1 else 0) ≤ K + 1
    have := xs_cnt_le (g := g) (o := o) K
    split <;> omega
theorem xs_cnt_pos {g : Nat → Option Nat} {o k : Nat} : ∀ K, k < K → g k = some o → 0 < xs_cnt g o K
  | 0, h, _ => absurd h (Nat.not_lt_zero _)
  | K + 1, h, hk => by
    show 0 < xs_cnt g o K + (if g K = some o then 1 else 0)
    by_cases e : k = K
    · subst e
      rw [if_pos hk]
      omega
    · have := xs_cnt_pos (g := g) (o := o) K (by omega) hk
      omega
def xr_I (O : xs_O) (pa : Nat → Nat) (o : Nat) (m : xk_M) (r : xk_P) : Prop := m (22 + o) 1 = nI (O.2.2.2.1 o) ∧ (O.2.1 o = 0 → r (22 + o) 4 = none ∧ m (22 + o) 2 = nI (O.2.2.1 o) ∧ m (22 + o) 3 = nI (O.2.2.2.2.1 o)) ∧ (O.2.1 o ≠ 0 → r (22 + o) 4 = some (pa (O.2.2.1 o)))
def xr_P (O : xs_O) (A q : Nat) (m : xk_M) (n : Nat) : Prop := 74 ≤ A ∧ A % 2 = 0 ∧ A + 1 < n ∧ (∃ old, old < 4 ∧ m A 1 = nI old ∧ m A 2 = nI (O.2.2.2.2.2 q).length ∧ ∀ (i : Nat) (x : Int32), (O.2.2.2.2.2 q)[i]? = some x → m (A + 1) ((old + i) % 4) = x) ∧ m A 3 = xs_bi (xs_end O q 1) ∧ m A 4 = xs_bi (xs_end O q 2)
def xr_O (O : xs_O) (m : xk_M) (r : xk_P) (n : Nat) : Prop := (∀ o, o < 16 → m (22 + o) 0 = nI (xs_cnt O.1 o 42)) ∧ (∀ p d, p < 7 → d < 6 → r (40 + 2 * p) d = (O.1 (6 * p + d)).map (fun o => 22 + o)) ∧ ∃ pa : Nat → Nat, (∀ o, o < 16 → xs_used O o = true → xr_I O pa o m r) ∧ (∀ o, o < 16 → xs_used O o = true → O.2.1 o ≠ 0 → xr_P O (pa (O.2.2.1 o)) (O.2.2.1 o) m n) ∧ (∀ o o', o < 16 → o' < 16 → xs_used O o = true → xs_used O o' = true → O.2.1 o ≠ 0 → O.2.1 o' ≠ 0 → pa (O.2.2.1 o) = pa (O.2.2.1 o') → O.2.2.1 o = O.2.2.1 o')
def xr_T (T : xs_T) (m : xk_M) : Prop := (∀ p, p < 7 → m (39 + 2 * p) 0 = nI (T.1 p)) ∧ (∀ p, 2 ≤ p → p < 7 → T.1 p ≠ 0 → m (39 + 2 * p) 1 = nI (T.2.1 p)) ∧ m 41 1 = -1 ∧ (∀ p, p < 7 → T.1 p = 2 → m (39 + 2 * p) 2 = nI (T.2.2 p))
def xs_okT (T : xs_T) : Prop := T.1 0 = 0 ∧ T.1 1 = 1 ∧ (∀ p, p < 7 → T.1 p ≤ 2) ∧ (∀ p, 2 ≤ p → p < 7 → T.1 p ≠ 0 → T.2.1 p < 7) ∧ (∀ p, p < 7 → T.1 p = 2 → T.2.2 p < 100)
def xs_okO (O : xs_O) (T : xs_T) : Prop := (∀ k o, k < 42 → O.1 k = some o → o < 16) ∧ (∀ p d, p < 7 → d < 6 → T.1 p ≠ 1 → O.1 (6 * p + d) = none) ∧ (∀ o, o < 16 → xs_used O o = true → O.2.1 o ≤ 2 ∧ O.2.2.2.1 o < 32 ∧ (O.2.1 o = 0 → O.2.2.1 o < 8 ∧ O.2.2.2.2.1 o ≤ 32) ∧ (O.2.1 o ≠ 0 → O.2.2.1 o < 16 ∧ O.2.2.2.1 o = O.2.1 o ∧ (O.2.2.2.2.2 (O.2.2.1 o)).length ≤ 4)) ∧ (∀ o o', o < 16 → o' < 16 → xs_used O o = true → xs_used O o' = true → O.2.1 o ≠ 0 → O.2.1 o = O.2.1 o' → O.2.2.1 o = O.2.2.1 o' → o = o')
theorem xs_used_iff {O : xs_O} {o : Nat} : xs_used O o = true ↔ xs_cnt O.1 o 42 ≠ 0 := by
  unfold xs_used
  exact decide_eq_true_iff
theorem xs_used_of {O : xs_O} {k o : Nat} (hk : k < 42) (h : O.1 k = some o) : xs_used O o = true := xs_used_iff.mpr (by have := xs_cnt_pos 42 hk h; omega)
theorem xs_b1 : ∀ md, md < 32 → (nI md &&& nI 1 = 0 ↔ md % 2 = 0) := by decide
theorem xs_b2 : ∀ md, md < 32 → (nI md &&& nI 2 = 0 ↔ md / 2 % 2 = 0) := by decide
theorem xs_b4 : ∀ md, md < 32 → (nI md &&& nI 4 = 0 ↔ md / 4 % 2 = 0) := by decide
theorem xs_b8 : ∀ md, md < 32 → (nI md &&& nI 8 = 0 ↔ md / 8 % 2 = 0) := by decide
theorem xs_b16 : ∀ md, md < 32 → (nI md &&& nI 16 = 0 ↔ md / 16 = 0) := by decide
theorem xs_bm2 : ∀ md, md < 32 → (nI md &&& (-2) = 0 ↔ md ≤ 1) := by decide
theorem xs_least_n {p : Nat → Bool} : ∀ {k i : Nat}, (∀ j, i ≤ j → j < i + k → p j = false) → xs_least p i k = none
  | 0, i, _ => rfl
  | k + 1, i, h => by
    show (if p i = true then some i else xs_least p (i + 1) k) = none
    rw [if_neg (by rw [h i (Nat.le_refl _) (by omega)]; decide)]
    exact xs_least_n (fun j h1 h2 => h j (by omega) (by omega))
theorem xs_least_s {p : Nat → Bool} : ∀ {k i t : Nat}, i ≤ t → t < i + k → p t = true → (∀ j, i ≤ j → j < t → p j = false) → xs_least p i k = some t
  | 0, i, t, h1, h2, _, _ => by omega
  | k + 1, i, t, h1, h2, h3, h4 => by
    show (if p i = true then some i else xs_least p (i + 1) k) = some t
    by_cases e : i = t
    · subst e
      rw [if_pos h3]
    · rw [if_neg (by rw [h4 i (Nat.le_refl _) (by omega)]; decide)]
      exact xs_least_s (by omega) (by omega) h3 (fun j a b => h4 j (by omega) b)
theorem xs_least_sp {p : Nat → Bool} : ∀ {k i t : Nat}, xs_least p i k = some t → i ≤ t ∧ t < i + k ∧ p t = true ∧ ∀ j, i ≤ j → j < t → p j = false
  | 0, i, t, h => by cases h
  | k + 1, i, t, h => by
    change (if p i = true then some i else xs_least p (i + 1) k) = some t at h
    split at h
    · next hp =>
      cases h
      exact ⟨Nat.le_refl _, by omega, hp, fun j a b => by omega⟩
    · next hp =>
      obtain ⟨a, b, c, d⟩ := xs_least_sp h
      refine ⟨by omega, by omega, c, fun j x y => ?_⟩
      by_cases e : j = i
      · subst e
        cases hq : p j with
        | false => rfl
        | true => exact absurd hq hp
      · exact d j (by omega) y
theorem xs_least_np {p : Nat → Bool} : ∀ {k i : Nat}, xs_least p i k = none → ∀ j, i ≤ j → j < i + k → p j = false
  | 0, i, _, j, h1, h2 => by omega
  | k + 1, i, h, j, h1, h2 => by
    change (if p i = true then some i else xs_least p (i + 1) k) = none at h
    split at h
    · cases h
    · next hp =>
      by_cases e : j = i
      · subst e
        cases hq : p j with
        | false => rfl
        | true => exact absurd hq hp
      · exact xs_least_np h j (by omega) (by omega)

set_option maxRecDepth 20000 in
set_option maxHeartbeats 4000000 in
theorem c_Opening_may {E : xk_E} {n : Nat} {m : xk_M} {r : xk_P} {Q : xk_Q} (hn : 74 ≤ n) (hS : xr_S r n) {o : Nat} (ho : o < 16) {x u : Int32} (hx : m (22 + o) 1 = x) (h1 : ¬ x &&& u = 0 → Q (some (.inl (nI 1))) n m r) (h0 : x &&& u = 0 → Q (some (.inl (nI 0))) n m r) : xk_W E m_Opening_may 0 (xk_ent m_Opening_may [.inr (some (22 + o)), .inl u]) [] n m r 0 0 Q := by
  show xk_W E m_Opening_may 0 [some (.inr (some (22 + o))), some (.inl u)] [] n m r 0 0 Q
  have hko := xr_kd_op o ho
  refine xk_aload_n (pc := 0) d_Opening_may_0 rfl ?_
  refine xk_getIo (pc := 1) d_Opening_may_1 fl_Opening_15 (by first | rfl | assumption) rfl (by omega) (by omega) hx ?_
  refine xk_iload_n (pc := 4) d_Opening_may_4 rfl ?_
  refine xk_iand (pc := 5) d_Opening_may_5 ?_
  first | refine xk_if_eqN (pc := 6) (tgt := 13) d_Opening_may_6 rfl (by omega) (fun c_6 => ?_) (fun c_6 => ?_) | refine xk_if_eq (pc := 6) (tgt := 13) d_Opening_may_6 rfl (fun c_6 => ?_) (fun c_6 => ?_)
  · refine xk_iconst (pc := 13) (v := nI 0) d_Opening_may_13 (by decide) ?_
    refine xk_zret (pc := 14) rfl d_Opening_may_14 rfl rfl (Nat.le_of_ble_eq_true rfl) (Nat.le_of_ble_eq_true rfl) ?_
    exact h0 c_6
  · refine xk_iconst (pc := 9) (v := nI 1) d_Opening_may_9 (by decide) ?_
    refine xk_goto (pc := 10) (tgt := 14) d_Opening_may_10 rfl ?_
    refine xk_zret (pc := 14) rfl d_Opening_may_14 rfl rfl (Nat.le_of_ble_eq_true rfl) (Nat.le_of_ble_eq_true rfl) ?_
    exact h1 c_6

set_option maxRecDepth 20000 in
set_option maxHeartbeats 4000000 in
theorem c_Opening_isOfFile {E : xk_E} {n : Nat} {m : xk_M} {r : xk_P} {Q : xk_Q} (hn : 74 ≤ n) (hS : xr_S r n) {o : Nat} (ho : o < 16) {c f : Nat} (hc : c < 2 ^ 30) (hcc : m (22 + o) 0 = nI c) (h1 : c ≠ 0 → r (22 + o) 4 = none → m (22 + o) 2 = nI f → Q (some (.inl (nI 1))) n m r) (h0 : (c = 0 ∨ (∃ a, r (22 + o) 4 = some a) ∨ ¬ m (22 + o) 2 = nI f) → Q (some (.inl (nI 0))) n m r) : xk_W E m_Opening_isOfFile 0 (xk_ent m_Opening_isOfFile [.inr (some (22 + o)), .inl (nI f)]) [] n m r 0 0 Q := by
  show xk_W E m_Opening_isOfFile 0 [some (.inr (some (22 + o))), some (.inl (nI f))] [] n m r 0 0 Q
  have hko := xr_kd_op o ho
  refine xk_aload_n (pc := 0) d_Opening_isOfFile_0 rfl ?_
  refine xk_getIo (pc := 1) d_Opening_isOfFile_1 fl_Opening_9 (by first | rfl | assumption) rfl (by omega) (by omega) hcc ?_
  first | refine xk_if_leN (pc := 4) (tgt := 26) d_Opening_isOfFile_4 rfl (by omega) (fun c_4 => ?_) (fun c_4 => ?_) | refine xk_if_le (pc := 4) (tgt := 26) d_Opening_isOfFile_4 rfl (fun c_4 => ?_) (fun c_4 => ?_)
  · refine xk_iconst (pc := 26) (v := nI 0) d_Opening_isOfFile_26 (by decide) ?_
    refine xk_zret (pc := 27) rfl d_Opening_isOfFile_27 rfl rfl (Nat.le_of_ble_eq_true rfl) (Nat.le_of_ble_eq_true rfl) ?_
    first | exact h0 (Or.inl c_4) | exact h0 (Or.inr (Or.inl ⟨_, c_11⟩)) | exact h0 (Or.inr (Or.inr c_19))
  · refine xk_aload_n (pc := 7) d_Opening_isOfFile_7 rfl ?_
    refine xk_getR (pc := 8) d_Opening_isOfFile_8 fl_Opening_24 (by first | rfl | assumption) rfl (by omega) (by omega) ?_
    refine xk_ifnonnull (pc := 11) (tgt := 26) d_Opening_isOfFile_11 rfl (fun a_11 c_11 => ?_) (fun c_11 => ?_)
    · refine xk_iconst (pc := 26) (v := nI 0) d_Opening_isOfFile_26 (by decide) ?_
      refine xk_zret (pc := 27) rfl d_Opening_isOfFile_27 rfl rfl (Nat.le_of_ble_eq_true rfl) (Nat.le_of_ble_eq_true rfl) ?_
      first | exact h0 (Or.inl c_4) | exact h0 (Or.inr (Or.inl ⟨_, c_11⟩)) | exact h0 (Or.inr (Or.inr c_19))
    · refine xk_aload_n (pc := 14) d_Opening_isOfFile_14 rfl ?_
      refine xk_getI (pc := 15) d_Opening_isOfFile_15 fl_Opening_18 (by first | rfl | assumption) rfl (by omega) (by omega) ?_
      refine xk_iload_n (pc := 18) d_Opening_isOfFile_18 rfl ?_
      first | refine xk_icmp_neN (pc := 19) (tgt := 26) d_Opening_isOfFile_19 rfl (by omega) (by omega) (fun c_19 => ?_) (fun c_19 => ?_) | refine xk_icmp_ne (pc := 19) (tgt := 26) d_Opening_isOfFile_19 rfl (fun c_19 => ?_) (fun c_19 => ?_)
      · refine xk_iconst (pc := 26) (v := nI 0) d_Opening_isOfFile_26 (by decide) ?_
        refine xk_zret (pc := 27) rfl d_Opening_isOfFile_27 rfl rfl (Nat.le_of_ble_eq_true rfl) (Nat.le_of_ble_eq_true rfl) ?_
        first | exact h0 (Or.inl c_4) | exact h0 (Or.inr (Or.inl ⟨_, c_11⟩)) | exact h0 (Or.inr (Or.inr c_19))
      · refine xk_iconst (pc := 22) (v := nI 1) d_Opening_isOfFile_22 (by decide) ?_
        refine xk_goto (pc := 23) (tgt := 27) d_Opening_isOfFile_23 rfl ?_
        refine xk_zret (pc := 27) rfl d_Opening_isOfFile_27 rfl rfl (Nat.le_of_ble_eq_true rfl) (Nat.le_of_ble_eq_true rfl) ?_
        exact h1 (by omega) c_11 c_19

set_option maxRecDepth 20000 in
set_option maxHeartbeats 4000000 in
theorem c_Opening_becomeFile {E : xk_E} {n : Nat} {m : xk_M} {r : xk_P} {Q : xk_Q} (hn : 74 ≤ n) (hS : xr_S r n) {o : Nat} (ho : o < 16) {x y : Int32} (hQ : Q none n (xk_up (xk_up (xk_up m (22 + o) 2 x) (22 + o) 1 y) (22 + o) 3 (nI 0)) (xk_up r (22 + o) 4 none)) : xk_W E m_Opening_becomeFile 0 (xk_ent m_Opening_becomeFile [.inr (some (22 + o)), .inl x, .inl y]) [] n m r 0 0 Q := by
  show xk_W E m_Opening_becomeFile 0 [some (.inr (some (22 + o))), some (.inl x), some (.inl y)] [] n m r 0 0 Q
  have hko := xr_kd_op o ho
  refine xk_aload_n (pc := 0) d_Opening_becomeFile_0 rfl ?_
  refine xk_null (pc := 1) d_Opening_becomeFile_1 ?_
  refine xk_putR (pc := 2) d_Opening_becomeFile_2 fl_Opening_24 (by first | rfl | assumption) rfl (fun q hq h => by cases hq; first | exact absurd h (by decide) | exact ⟨rfl, rfl, rfl⟩) ⟨rfl, rfl⟩ (by omega) (by omega) ?_
  refine xk_aload_n (pc := 5) d_Opening_becomeFile_5 rfl ?_
  refine xk_iload_n (pc := 6) d_Opening_becomeFile_6 rfl ?_
  refine xk_putI (pc := 7) d_Opening_becomeFile_7 fl_Opening_18 (by first | rfl | assumption) rfl (fun q hq h => by cases hq; first | exact absurd h (by decide) | exact ⟨rfl, rfl, rfl⟩) ⟨rfl, rfl⟩ (by omega) (by omega) ?_
  refine xk_aload_n (pc := 10) d_Opening_becomeFile_10 rfl ?_
  refine xk_iload_n (pc := 11) d_Opening_becomeFile_11 rfl ?_
  refine xk_putI (pc := 12) d_Opening_becomeFile_12 fl_Opening_15 (by first | rfl | assumption) rfl (fun q hq h => by cases hq; first | exact absurd h (by decide) | exact ⟨rfl, rfl, rfl⟩) ⟨rfl, rfl⟩ (by omega) (by omega) ?_
  refine xk_aload_n (pc := 15) d_Opening_becomeFile_15 rfl ?_
  refine xk_iconst (pc := 16) (v := nI 0) d_Opening_becomeFile_16 (by decide) ?_
  refine xk_putI (pc := 17) d_Opening_becomeFile_17 fl_Opening_21 (by first | rfl | assumption) rfl (fun q hq h => by cases hq; first | exact absurd h (by decide) | exact ⟨rfl, rfl, rfl⟩) ⟨rfl, rfl⟩ (by omega) (by omega) ?_
  refine xk_vret (pc := 20) rfl d_Opening_becomeFile_20 rfl (Nat.le_of_ble_eq_true rfl) (Nat.le_of_ble_eq_true rfl) ?_
  exact hQ

set_option maxRecDepth 20000 in
set_option maxHeartbeats 4000000 in
theorem c_Opening_becomePipeEnd {E : xk_E} {n : Nat} {m : xk_M} {r : xk_P} {Q : xk_Q} (hn : 74 ≤ n) (hS : xr_S r n) {o : Nat} (ho : o < 16) {a : Nat} {y : Int32} (hQ : Q none n (xk_up m (22 + o) 1 y) (xk_up r (22 + o) 4 (some a))) : xk_W E m_Opening_becomePipeEnd 0 (xk_ent m_Opening_becomePipeEnd [.inr (some (22 + o)), .inr (some a), .inl y]) [] n m r 0 0 Q := by
  show xk_W E m_Opening_becomePipeEnd 0 [some (.inr (some (22 + o))), some (.inr (some a)), some (.inl y)] [] n m r 0 0 Q
  have hko := xr_kd_op o ho
  refine xk_aload_n (pc := 0) d_Opening_becomePipeEnd_0 rfl ?_
  refine xk_aload_n (pc := 1) d_Opening_becomePipeEnd_1 rfl ?_
  refine xk_putR (pc := 2) d_Opening_becomePipeEnd_2 fl_Opening_24 (by first | rfl | assumption) rfl (fun q hq h => by cases hq; first | exact absurd h (by decide) | exact ⟨rfl, rfl, rfl⟩) ⟨rfl, rfl⟩ (by omega) (by omega) ?_
  refine xk_aload_n (pc := 5) d_Opening_becomePipeEnd_5 rfl ?_
  refine xk_iload_n (pc := 6) d_Opening_becomePipeEnd_6 rfl ?_
  refine xk_putI (pc := 7) d_Opening_becomePipeEnd_7 fl_Opening_15 (by first | rfl | assumption) rfl (fun q hq h => by cases hq; first | exact absurd h (by decide) | exact ⟨rfl, rfl, rfl⟩) ⟨rfl, rfl⟩ (by omega) (by omega) ?_
  refine xk_vret (pc := 10) rfl d_Opening_becomePipeEnd_10 rfl (Nat.le_of_ble_eq_true rfl) (Nat.le_of_ble_eq_true rfl) ?_
  exact hQ

set_option maxRecDepth 20000 in
set_option maxHeartbeats 4000000 in
theorem c_Opening_leavePipe {E : xk_E} {n : Nat} {m : xk_M} {r : xk_P} {Q : xk_Q} (hn : 74 ≤ n) (hS : xr_S r n) {o : Nat} (ho : o < 16) {A : Nat} {x : Int32} (hx : m (22 + o) 1 = x) (hA : 74 ≤ A) (hA2 : A % 2 = 0) (hAn : A < n) (h1 : ¬ x &&& nI 1 = 0 → Q none n (xk_up m A 3 (nI 0)) r) (h0 : x &&& nI 1 = 0 → Q none n (xk_up m A 4 (nI 0)) r) : xk_W E m_Opening_leavePipe 0 (xk_ent m_Opening_leavePipe [.inr (some (22 + o)), .inr (some A)]) [] n m r 0 0 Q := by
  show xk_W E m_Opening_leavePipe 0 [some (.inr (some (22 + o))), some (.inr (some A))] [] n m r 0 0 Q
  have hko := xr_kd_op o ho
  have hkA := xr_kd_pi hA hA2
  refine xk_aload_n (pc := 0) d_Opening_leavePipe_0 rfl ?_
  refine xk_iconst (pc := 1) (v := nI 1) d_Opening_leavePipe_1 (by decide) ?_
  refine xk_cV1 (pc := 2) d_Opening_leavePipe_2 ml_Opening_32 cz_Opening_may ⟨rfl, rfl⟩ rfl (by first | rfl | assumption) (by omega) (by omega) (Nat.le_of_ble_eq_true rfl) ⟨(Nat.le_of_ble_eq_true rfl), (Nat.le_of_ble_eq_true rfl)⟩ ?_
  refine c_Opening_may hn hS ho hx (fun e => ?_) (fun e => ?_)
  · refine xk_if_eq (pc := 5) (tgt := 16) d_Opening_leavePipe_5 rfl (fun h => absurd h (by decide)) (fun _ => ?_)
    refine xk_aload_n (pc := 8) d_Opening_leavePipe_8 rfl ?_
    refine xk_iconst (pc := 9) (v := nI 0) d_Opening_leavePipe_9 (by decide) ?_
    refine xk_putI (pc := 10) d_Opening_leavePipe_10 fl_Opening_36 (by first | rfl | assumption) rfl (fun q hq h => by cases hq; first | exact absurd h (by decide) | exact ⟨rfl, rfl, rfl⟩) ⟨rfl, rfl⟩ (by omega) (by omega) ?_
    refine xk_goto (pc := 13) (tgt := 21) d_Opening_leavePipe_13 rfl ?_
    refine xk_vret (pc := 21) rfl d_Opening_leavePipe_21 rfl (Nat.le_of_ble_eq_true rfl) (Nat.le_of_ble_eq_true rfl) ?_
    first | exact h1 e | exact h0 e
  · refine xk_if_eq (pc := 5) (tgt := 16) d_Opening_leavePipe_5 rfl (fun _ => ?_) (fun h => absurd (by decide) h)
    refine xk_aload_n (pc := 16) d_Opening_leavePipe_16 rfl ?_
    refine xk_iconst (pc := 17) (v := nI 0) d_Opening_leavePipe_17 (by decide) ?_
    refine xk_putI (pc := 18) d_Opening_leavePipe_18 fl_Opening_42 (by first | rfl | assumption) rfl (fun q hq h => by cases hq; first | exact absurd h (by decide) | exact ⟨rfl, rfl, rfl⟩) ⟨rfl, rfl⟩ (by omega) (by omega) ?_
    refine xk_vret (pc := 21) rfl d_Opening_leavePipe_21 rfl (Nat.le_of_ble_eq_true rfl) (Nat.le_of_ble_eq_true rfl) ?_
    first | exact h1 e | exact h0 e

set_option maxRecDepth 20000 in
set_option maxHeartbeats 4000000 in
theorem c_Opening_loseHolder {E : xk_E} {n : Nat} {m : xk_M} {r : xk_P} {Q : xk_Q} (hn : 74 ≤ n) (hS : xr_S r n) {o : Nat} (ho : o < 16) {c : Nat} {x : Int32} (hc : m (22 + o) 0 = nI (c + 1)) (hc2 : c < 2 ^ 30) (hx : m (22 + o) 1 = x) (hA : ∀ A, r (22 + o) 4 = some A → c = 0 → 74 ≤ A ∧ A % 2 = 0 ∧ A < n) (h0 : (c ≠ 0 ∨ r (22 + o) 4 = none) → Q none n (xk_up m (22 + o) 0 (nI c)) r) (h1 : ∀ A, c = 0 → r (22 + o) 4 = some A → ¬ x &&& nI 1 = 0 → Q none n (xk_up (xk_up m (22 + o) 0 (nI c)) A 3 (nI 0)) r) (h2 : ∀ A, c = 0 → r (22 + o) 4 = some A → x &&& nI 1 = 0 → Q none n (xk_up (xk_up m (22 + o) 0 (nI c)) A 4 (nI 0)) r) : xk_W E m_Opening_loseHolder 0 (xk_ent m_Opening_loseHolder [.inr (some (22 + o))]) [] n m r 0 0 Q := by
  show xk_W E m_Opening_loseHolder 0 [some (.inr (some (22 + o)))] [] n m r 0 0 Q
  have hko := xr_kd_op o ho
  refine xk_aload_n (pc := 0) d_Opening_loseHolder_0 rfl ?_
  refine xk_dup (pc := 1) d_Opening_loseHolder_1 ?_
  refine xk_getIo (pc := 2) d_Opening_loseHolder_2 fl_Opening_9 (by first | rfl | assumption) rfl (by omega) (by omega) hc ?_
  refine xk_iconst (pc := 5) (v := nI 1) d_Opening_loseHolder_5 (by decide) ?_
  first | refine xk_isubN (pc := 6) d_Opening_loseHolder_6 (by omega) ?_ | refine xk_isub (pc := 6) d_Opening_loseHolder_6 ?_
  rw [Nat.add_sub_cancel]
  refine xk_putI (pc := 7) d_Opening_loseHolder_7 fl_Opening_9 (by first | rfl | assumption) rfl (fun q hq h => by cases hq; first | exact absurd h (by decide) | exact ⟨rfl, rfl, rfl⟩) ⟨rfl, rfl⟩ (by omega) (by omega) ?_
  refine xk_aload_n (pc := 10) d_Opening_loseHolder_10 rfl ?_
  refine xk_getIo (pc := 11) d_Opening_loseHolder_11 fl_Opening_9 (by first | rfl | assumption) rfl (by omega) (by omega) xk_up_s ?_
  first | refine xk_if_neN (pc := 14) (tgt := 32) d_Opening_loseHolder_14 rfl (by omega) (fun c_14 => ?_) (fun c_14 => ?_) | refine xk_if_ne (pc := 14) (tgt := 32) d_Opening_loseHolder_14 rfl (fun c_14 => ?_) (fun c_14 => ?_)
  · refine xk_vret (pc := 32) rfl d_Opening_loseHolder_32 rfl (Nat.le_of_ble_eq_true rfl) (Nat.le_of_ble_eq_true rfl) ?_
    first | exact h0 (Or.inl c_14) | exact h0 (Or.inr c_21) | exact h1 _ c_14 c_21 e | exact h2 _ c_14 c_21 e
  · refine xk_aload_n (pc := 17) d_Opening_loseHolder_17 rfl ?_
    refine xk_getR (pc := 18) d_Opening_loseHolder_18 fl_Opening_24 (by first | rfl | assumption) rfl (by omega) (by omega) ?_
    refine xk_ifnull (pc := 21) (tgt := 32) d_Opening_loseHolder_21 rfl (fun c_21 => ?_) (fun a_21 c_21 => ?_)
    · refine xk_vret (pc := 32) rfl d_Opening_loseHolder_32 rfl (Nat.le_of_ble_eq_true rfl) (Nat.le_of_ble_eq_true rfl) ?_
      first | exact h0 (Or.inl c_14) | exact h0 (Or.inr c_21) | exact h1 _ c_14 c_21 e | exact h2 _ c_14 c_21 e
    · refine xk_aload_n (pc := 24) d_Opening_loseHolder_24 rfl ?_
      refine xk_aload_n (pc := 25) d_Opening_loseHolder_25 rfl ?_
      refine xk_getRo (pc := 26) d_Opening_loseHolder_26 fl_Opening_24 (by first | rfl | assumption) rfl (by omega) (by omega) c_21 ?_
      refine xk_cV1 (pc := 29) d_Opening_loseHolder_29 ml_Opening_28 cz_Opening_leavePipe ⟨rfl, rfl⟩ rfl (by first | rfl | assumption) (by omega) (by omega) (Nat.le_of_ble_eq_true rfl) ⟨(Nat.le_of_ble_eq_true rfl), (Nat.le_of_ble_eq_true rfl)⟩ ?_
      obtain ⟨g1, g2, g3⟩ := hA a_21 c_21 c_14
      refine c_Opening_leavePipe hn hS ho (x := x) (by rw [xk_up_k (by decide)]; exact hx) g1 g2 g3 (fun e => ?_) (fun e => ?_)
      · refine xk_vret (pc := 32) rfl d_Opening_loseHolder_32 rfl (Nat.le_of_ble_eq_true rfl) (Nat.le_of_ble_eq_true rfl) ?_
        first | exact h0 (Or.inl c_14) | exact h0 (Or.inr c_21) | exact h1 _ c_14 c_21 e | exact h2 _ c_14 c_21 e
      · refine xk_vret (pc := 32) rfl d_Opening_loseHolder_32 rfl (Nat.le_of_ble_eq_true rfl) (Nat.le_of_ble_eq_true rfl) ?_
        first | exact h0 (Or.inl c_14) | exact h0 (Or.inr c_21) | exact h1 _ c_14 c_21 e | exact h2 _ c_14 c_21 e

set_option maxRecDepth 20000 in
set_option maxHeartbeats 4000000 in
theorem c_Pipe_takeCell {E : xk_E} {n : Nat} {m : xk_M} {r : xk_P} {Q : xk_Q} (hn : 74 ≤ n) (hS : xr_S r n) {A old len : Nat} {w : Bool} (hA : 74 ≤ A) (hA2 : A % 2 = 0) (hAn : A + 1 < n) (h1 : m A 1 = nI old) (ho4 : old < 4) (h2 : m A 2 = nI len) (hl4 : len ≤ 4) (h4 : m A 4 = xs_bi w) (e0 : len = 0 → Q (some (.inl (if w = true then -6 else -7))) n m r) (e1 : len ≠ 0 → Q (some (.inl (m (A + 1) old))) n (xk_up (xk_up m A 1 (nI ((old + 1) % 4))) A 2 (nI (len - 1))) r) : xk_W E m_Pipe_takeCell 0 (xk_ent m_Pipe_takeCell [.inr (some A)]) [] n m r 0 0 Q := by
  show xk_W E m_Pipe_takeCell 0 [some (.inr (some A)), none] [] n m r 0 0 Q
  have hkA := xr_kd_pi hA hA2
  have hkC := xr_kd_pc (a := A + 1) (by omega) (by omega)
  refine xk_aload_n (pc := 0) d_Pipe_takeCell_0 rfl ?_
  refine xk_getIo (pc := 1) d_Pipe_takeCell_1 fl_Pipe_19 (by first | rfl | assumption) rfl (by omega) (by omega) h2 ?_
  first | refine xk_if_neN (pc := 4) (tgt := 22) d_Pipe_takeCell_4 rfl (by omega) (fun c_4 => ?_) (fun c_4 => ?_) | refine xk_if_ne (pc := 4) (tgt := 22) d_Pipe_takeCell_4 rfl (fun c_4 => ?_) (fun c_4 => ?_)
  · refine xk_aload_n (pc := 22) d_Pipe_takeCell_22 rfl ?_
    refine xk_getRo (pc := 23) d_Pipe_takeCell_23 fl_Pipe_9 (by first | rfl | assumption) rfl (by omega) (by omega) (hS _ _ _ (xr_st_pi hA hA2) (by omega)) ?_
    refine xk_aload_n (pc := 26) d_Pipe_takeCell_26 rfl ?_
    refine xk_getIo (pc := 27) d_Pipe_takeCell_27 fl_Pipe_15 (by first | rfl | assumption) rfl (by omega) (by omega) h1 ?_
    refine xk_iaload (pc := 30) d_Pipe_takeCell_30 (by first | rfl | assumption) (by omega) (by omega) rfl (by omega) (by decide) ?_
    refine xk_istore_n (pc := 31) d_Pipe_takeCell_31 (by decide) ?_
    refine xk_aload_n (pc := 32) d_Pipe_takeCell_32 rfl ?_
    refine xk_aload_n (pc := 33) d_Pipe_takeCell_33 rfl ?_
    refine xk_getIo (pc := 34) d_Pipe_takeCell_34 fl_Pipe_15 (by first | rfl | assumption) rfl (by omega) (by omega) h1 ?_
    refine xk_iconst (pc := 37) (v := nI 1) d_Pipe_takeCell_37 (by decide) ?_
    first | refine xk_iaddN (pc := 38) d_Pipe_takeCell_38 ?_ | refine xk_iadd (pc := 38) d_Pipe_takeCell_38 ?_
    refine xk_iconst (pc := 39) (v := nI 4) d_Pipe_takeCell_39 (by decide) ?_
    refine xk_iremN (pc := 40) d_Pipe_takeCell_40 (by decide) (by omega) (by decide) ?_
    refine xk_putI (pc := 41) d_Pipe_takeCell_41 fl_Pipe_15 (by first | rfl | assumption) rfl (fun q hq h => by cases hq; first | exact absurd h (by decide) | exact ⟨rfl, rfl, rfl⟩) ⟨rfl, rfl⟩ (by omega) (by omega) ?_
    refine xk_aload_n (pc := 44) d_Pipe_takeCell_44 rfl ?_
    refine xk_dup (pc := 45) d_Pipe_takeCell_45 ?_
    refine xk_getIo (pc := 46) d_Pipe_takeCell_46 fl_Pipe_19 (by first | rfl | assumption) rfl (by omega) (by omega) ((xk_up_k (by decide)).trans h2) ?_
    refine xk_iconst (pc := 49) (v := nI 1) d_Pipe_takeCell_49 (by decide) ?_
    first | refine xk_isubN (pc := 50) d_Pipe_takeCell_50 (by omega) ?_ | refine xk_isub (pc := 50) d_Pipe_takeCell_50 ?_
    refine xk_putI (pc := 51) d_Pipe_takeCell_51 fl_Pipe_19 (by first | rfl | assumption) rfl (fun q hq h => by cases hq; first | exact absurd h (by decide) | exact ⟨rfl, rfl, rfl⟩) ⟨rfl, rfl⟩ (by omega) (by omega) ?_
    refine xk_iload_n (pc := 54) d_Pipe_takeCell_54 rfl ?_
    refine xk_iret (pc := 55) rfl d_Pipe_takeCell_55 rfl (Nat.le_of_ble_eq_true rfl) (Nat.le_of_ble_eq_true rfl) ?_
    exact e1 c_4
  · refine xk_aload_n (pc := 7) d_Pipe_takeCell_7 rfl ?_
    refine xk_getIo (pc := 8) d_Pipe_takeCell_8 fl_Pipe_26 (by first | rfl | assumption) rfl (by omega) (by omega) h4 ?_
    first | refine xk_if_eqN (pc := 11) (tgt := 19) d_Pipe_takeCell_11 rfl (by omega) (fun c_11 => ?_) (fun c_11 => ?_) | refine xk_if_eq (pc := 11) (tgt := 19) d_Pipe_takeCell_11 rfl (fun c_11 => ?_) (fun c_11 => ?_)
    · rw [xs_bi_z] at c_11
      subst c_11
      refine xk_bipush (pc := 19) (v := (-7)) d_Pipe_takeCell_19 (by decide) ?_
      refine xk_iret (pc := 21) rfl d_Pipe_takeCell_21 rfl (Nat.le_of_ble_eq_true rfl) (Nat.le_of_ble_eq_true rfl) ?_
      exact e0 c_4
    · have c_12 := xs_bi_nz c_11
      subst c_12
      refine xk_bipush (pc := 14) (v := (-6)) d_Pipe_takeCell_14 (by decide) ?_
      refine xk_goto (pc := 16) (tgt := 21) d_Pipe_takeCell_16 rfl ?_
      refine xk_iret (pc := 21) rfl d_Pipe_takeCell_21 rfl (Nat.le_of_ble_eq_true rfl) (Nat.le_of_ble_eq_true rfl) ?_
      exact e0 c_4

set_option maxRecDepth 20000 in
set_option maxHeartbeats 4000000 in
theorem c_Pipe_addCell {E : xk_E} {n : Nat} {m : xk_M} {r : xk_P} {Q : xk_Q} (hn : 74 ≤ n) (hS : xr_S r n) {A old len : Nat} {w : Bool} {v : Int32} (hA : 74 ≤ A) (hA2 : A % 2 = 0) (hAn : A + 1 < n) (h1 : m A 1 = nI old) (ho4 : old < 4) (h2 : m A 2 = nI len) (hl4 : len ≤ 4) (h3 : m A 3 = xs_bi w) (e0 : w = false → Q (some (.inl (-7))) n m r) (e4 : w = true → len = 4 → Q (some (.inl (-6))) n m r) (e1 : w = true → len ≠ 4 → Q (some (.inl (nI 1))) n (xk_up (xk_up m (A + 1) ((old + len) % 4) v) A 2 (nI (len + 1))) r) : xk_W E m_Pipe_addCell 0 (xk_ent m_Pipe_addCell [.inr (some A), .inl v]) [] n m r 0 0 Q := by
  show xk_W E m_Pipe_addCell 0 [some (.inr (some A)), some (.inl v)] [] n m r 0 0 Q
  have hkA := xr_kd_pi hA hA2
  have hkC := xr_kd_pc (a := A + 1) (by omega) (by omega)
  refine xk_aload_n (pc := 0) d_Pipe_addCell_0 rfl ?_
  refine xk_getIo (pc := 1) d_Pipe_addCell_1 fl_Pipe_22 (by first | rfl | assumption) rfl (by omega) (by omega) h3 ?_
  first | refine xk_if_neN (pc := 4) (tgt := 10) d_Pipe_addCell_4 rfl (by omega) (fun c_4 => ?_) (fun c_4 => ?_) | refine xk_if_ne (pc := 4) (tgt := 10) d_Pipe_addCell_4 rfl (fun c_4 => ?_) (fun c_4 => ?_)
  · have c_5 := xs_bi_nz c_4
    refine xk_aload_n (pc := 10) d_Pipe_addCell_10 rfl ?_
    refine xk_getIo (pc := 11) d_Pipe_addCell_11 fl_Pipe_19 (by first | rfl | assumption) rfl (by omega) (by omega) h2 ?_
    refine xk_iconst (pc := 14) (v := nI 4) d_Pipe_addCell_14 (by decide) ?_
    first | refine xk_icmp_neN (pc := 15) (tgt := 21) d_Pipe_addCell_15 rfl (by omega) (by omega) (fun c_15 => ?_) (fun c_15 => ?_) | refine xk_icmp_ne (pc := 15) (tgt := 21) d_Pipe_addCell_15 rfl (fun c_15 => ?_) (fun c_15 => ?_)
    · refine xk_aload_n (pc := 21) d_Pipe_addCell_21 rfl ?_
      refine xk_getRo (pc := 22) d_Pipe_addCell_22 fl_Pipe_9 (by first | rfl | assumption) rfl (by omega) (by omega) (hS _ _ _ (xr_st_pi hA hA2) (by omega)) ?_
      refine xk_aload_n (pc := 25) d_Pipe_addCell_25 rfl ?_
      refine xk_getIo (pc := 26) d_Pipe_addCell_26 fl_Pipe_15 (by first | rfl | assumption) rfl (by omega) (by omega) h1 ?_
      refine xk_aload_n (pc := 29) d_Pipe_addCell_29 rfl ?_
      refine xk_getIo (pc := 30) d_Pipe_addCell_30 fl_Pipe_19 (by first | rfl | assumption) rfl (by omega) (by omega) h2 ?_
      first | refine xk_iaddN (pc := 33) d_Pipe_addCell_33 ?_ | refine xk_iadd (pc := 33) d_Pipe_addCell_33 ?_
      refine xk_iconst (pc := 34) (v := nI 4) d_Pipe_addCell_34 (by decide) ?_
      refine xk_iremN (pc := 35) d_Pipe_addCell_35 (by decide) (by omega) (by decide) ?_
      refine xk_iload_n (pc := 36) d_Pipe_addCell_36 rfl ?_
      refine xk_iastore (pc := 37) d_Pipe_addCell_37 (by first | rfl | assumption) (by omega) (by omega) rfl (Nat.mod_lt _ (by decide)) (by decide) ?_
      refine xk_aload_n (pc := 38) d_Pipe_addCell_38 rfl ?_
      refine xk_dup (pc := 39) d_Pipe_addCell_39 ?_
      refine xk_getIo (pc := 40) d_Pipe_addCell_40 fl_Pipe_19 (by first | rfl | assumption) rfl (by omega) (by omega) ((xk_up_a (by omega)).trans h2) ?_
      refine xk_iconst (pc := 43) (v := nI 1) d_Pipe_addCell_43 (by decide) ?_
      first | refine xk_iaddN (pc := 44) d_Pipe_addCell_44 ?_ | refine xk_iadd (pc := 44) d_Pipe_addCell_44 ?_
      refine xk_putI (pc := 45) d_Pipe_addCell_45 fl_Pipe_19 (by first | rfl | assumption) rfl (fun q hq h => by cases hq; first | exact absurd h (by decide) | exact ⟨rfl, rfl, rfl⟩) ⟨rfl, rfl⟩ (by omega) (by omega) ?_
      refine xk_iconst (pc := 48) (v := nI 1) d_Pipe_addCell_48 (by decide) ?_
      refine xk_iret (pc := 49) rfl d_Pipe_addCell_49 rfl (Nat.le_of_ble_eq_true rfl) (Nat.le_of_ble_eq_true rfl) ?_
      exact e1 c_5 c_15
    · refine xk_bipush (pc := 18) (v := (-6)) d_Pipe_addCell_18 (by decide) ?_
      refine xk_iret (pc := 20) rfl d_Pipe_addCell_20 rfl (Nat.le_of_ble_eq_true rfl) (Nat.le_of_ble_eq_true rfl) ?_
      exact e4 c_5 c_15
  · rw [xs_bi_z] at c_4
    refine xk_bipush (pc := 7) (v := (-7)) d_Pipe_addCell_7 (by decide) ?_
    refine xk_iret (pc := 9) rfl d_Pipe_addCell_9 rfl (Nat.le_of_ble_eq_true rfl) (Nat.le_of_ble_eq_true rfl) ?_
    exact e0 c_4
