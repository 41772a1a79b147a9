set_option maxRecDepth 20000 in
set_option maxHeartbeats 4000000 in
theorem c_K_isBelow {E : xk_E} {n : Nat} {m : xk_M} {r : xk_P} {Q : xk_Q} {x : Int32} {k : Nat} (hk : k < 2 ^ 31) (h1 : ∀ f, f < k → x = nI f → xs_nat x k = some f → Q (some (.inl (nI 1))) n m r) (h0 : xs_nat x k = none → Q (some (.inl (nI 0))) n m r) : xk_W E m_K_isBelow 0 (xk_ent m_K_isBelow [.inl x, .inl (nI k)]) [] n m r 0 0 Q := by
  show xk_W E m_K_isBelow 0 [some (.inl x), some (.inl (nI k))] [] n m r 0 0 Q
  refine xk_iload_n (pc := 0) d_K_isBelow_0 rfl ?_
  refine xk_if_lt (pc := 1) (tgt := 13) d_K_isBelow_1 rfl (fun c_1 => ?_) (fun c_1 => ?_)
  · refine xk_iconst (pc := 13) (v := nI 0) d_K_isBelow_13 (by decide) ?_
    refine xk_zret (pc := 14) rfl d_K_isBelow_14 rfl rfl (Nat.le_of_ble_eq_true rfl) (Nat.le_of_ble_eq_true rfl) ?_
    first | exact h0 (xs_nat_lt c_1) | exact h0 (xs_nat_ge hk c_6)
  · refine xk_iload_n (pc := 4) d_K_isBelow_4 rfl ?_
    refine xk_iload_n (pc := 5) d_K_isBelow_5 rfl ?_
    first | refine xk_icmp_geN (pc := 6) (tgt := 13) d_K_isBelow_6 rfl (by omega) (by omega) (fun c_6 => ?_) (fun c_6 => ?_) | refine xk_icmp_ge (pc := 6) (tgt := 13) d_K_isBelow_6 rfl (fun c_6 => ?_) (fun c_6 => ?_)
    · refine xk_iconst (pc := 13) (v := nI 0) d_K_isBelow_13 (by decide) ?_
      refine xk_zret (pc := 14) rfl d_K_isBelow_14 rfl rfl (Nat.le_of_ble_eq_true rfl) (Nat.le_of_ble_eq_true rfl) ?_
      first | exact h0 (xs_nat_lt c_1) | exact h0 (xs_nat_ge hk c_6)
    · refine xk_iconst (pc := 9) (v := nI 1) d_K_isBelow_9 (by decide) ?_
      refine xk_goto (pc := 10) (tgt := 14) d_K_isBelow_10 rfl ?_
      refine xk_zret (pc := 14) rfl d_K_isBelow_14 rfl rfl (Nat.le_of_ble_eq_true rfl) (Nat.le_of_ble_eq_true rfl) ?_
      obtain ⟨f, f1, f2, f3⟩ := xs_nat_in hk c_1 c_6
      exact h1 f f1 f2 f3

set_option maxRecDepth 20000 in
set_option maxHeartbeats 4000000 in
theorem c_M_in {E : xk_E} {n : Nat} {m : xk_M} {r : xk_P} {Q : xk_Q} {x : Int32} {lo hi : Nat} (hhi : hi < 2 ^ 30) (hlo : lo < 2 ^ 30) (h1 : ∀ f, lo ≤ f → f ≤ hi → x = nI f → Q (some (.inl (nI 1))) n m r) (h0 : (x < nI lo ∨ nI hi < x) → Q (some (.inl (nI 0))) n m r) : xk_W E m_M_in 0 (xk_ent m_M_in [.inl x, .inl (nI lo), .inl (nI hi)]) [] n m r 0 0 Q := by
  show xk_W E m_M_in 0 [some (.inl x), some (.inl (nI lo)), some (.inl (nI hi))] [] n m r 0 0 Q
  refine xk_iload_n (pc := 0) d_M_in_0 rfl ?_
  refine xk_iload_n (pc := 1) d_M_in_1 rfl ?_
  first | refine xk_icmp_ltN (pc := 2) (tgt := 14) d_M_in_2 rfl (by omega) (by omega) (fun c_2 => ?_) (fun c_2 => ?_) | refine xk_icmp_lt (pc := 2) (tgt := 14) d_M_in_2 rfl (fun c_2 => ?_) (fun c_2 => ?_)
  · refine xk_iconst (pc := 14) (v := nI 0) d_M_in_14 (by decide) ?_
    refine xk_zret (pc := 15) rfl d_M_in_15 rfl rfl (Nat.le_of_ble_eq_true rfl) (Nat.le_of_ble_eq_true rfl) ?_
    first | exact h0 (Or.inl c_2) | exact h0 (Or.inr c_7)
  · refine xk_iload_n (pc := 5) d_M_in_5 rfl ?_
    refine xk_iload_n (pc := 6) d_M_in_6 rfl ?_
    first | refine xk_icmp_gtN (pc := 7) (tgt := 14) d_M_in_7 rfl (by omega) (by omega) (fun c_7 => ?_) (fun c_7 => ?_) | refine xk_icmp_gt (pc := 7) (tgt := 14) d_M_in_7 rfl (fun c_7 => ?_) (fun c_7 => ?_)
    · refine xk_iconst (pc := 14) (v := nI 0) d_M_in_14 (by decide) ?_
      refine xk_zret (pc := 15) rfl d_M_in_15 rfl rfl (Nat.le_of_ble_eq_true rfl) (Nat.le_of_ble_eq_true rfl) ?_
      first | exact h0 (Or.inl c_2) | exact h0 (Or.inr c_7)
    · refine xk_iconst (pc := 10) (v := nI 1) d_M_in_10 (by decide) ?_
      refine xk_goto (pc := 11) (tgt := 15) d_M_in_11 rfl ?_
      refine xk_zret (pc := 15) rfl d_M_in_15 rfl rfl (Nat.le_of_ble_eq_true rfl) (Nat.le_of_ble_eq_true rfl) ?_
      obtain ⟨f, f1, f2, f3⟩ := xs_btw hlo hhi c_2 c_7
      exact h1 f f1 f2 f3

def xk_fill (m : xk_M) (a p q : Nat) (v : Int32) : xk_M := fun c j => if c = a ∧ p ≤ j ∧ j < q then v else m c j
theorem xk_fill_0 {m : xk_M} {a p : Nat} {v : Int32} : xk_fill m a p p v = m := by
  funext c j
  unfold xk_fill
  rw [if_neg (by omega)]
theorem xk_fill_s {m : xk_M} {a p i : Nat} {v : Int32} (h : p ≤ i) : xk_up (xk_fill m a p i v) a i v = xk_fill m a p (i + 1) v := by
  funext c j
  unfold xk_up xk_fill
  by_cases h1 : c = a ∧ j = i
  · rw [if_pos h1, if_pos ⟨h1.1, by omega, by omega⟩]
  · rw [if_neg h1]
    by_cases h2 : c = a ∧ p ≤ j ∧ j < i
    · rw [if_pos h2, if_pos ⟨h2.1, h2.2.1, by omega⟩]
    · rw [if_neg h2, if_neg (fun q => h2 ⟨q.1, q.2.1, by
        have : ¬ j = i := fun e => h1 ⟨q.1, e⟩
        omega⟩)]

set_option maxRecDepth 20000 in
set_option maxHeartbeats 4000000 in
theorem c_Arr_rangeCheck {E : xk_E} {n : Nat} {m : xk_M} {r : xk_P} {Q : xk_Q} {a b d : Nat} (h1 : b ≤ d) (h2 : d ≤ a) (h3 : a < 2 ^ 30) (hQ : Q none n m r) : xk_W E m_Arr_rangeCheck 0 (xk_ent m_Arr_rangeCheck [.inl (nI a), .inl (nI b), .inl (nI d)]) [] n m r 0 0 Q := by
  show xk_W E m_Arr_rangeCheck 0 [some (.inl (nI a)), some (.inl (nI b)), some (.inl (nI d))] [] n m r 0 0 Q
  refine xk_iload_n (pc := 0) d_Arr_rangeCheck_0 rfl ?_
  refine xk_iload_n (pc := 1) d_Arr_rangeCheck_1 rfl ?_
  first | refine xk_icmp_leN (pc := 2) (tgt := 46) d_Arr_rangeCheck_2 rfl (by omega) (by omega) (fun c_2 => ?_) (fun c_2 => ?_) | refine xk_icmp_le (pc := 2) (tgt := 46) d_Arr_rangeCheck_2 rfl (fun c_2 => ?_) (fun c_2 => ?_)
  · refine xk_iload_n (pc := 46) d_Arr_rangeCheck_46 rfl ?_
    refine xk_if_geN (pc := 47) (tgt := 59) d_Arr_rangeCheck_47 rfl (by omega) ?_
    refine xk_iload_n (pc := 59) d_Arr_rangeCheck_59 rfl ?_
    refine xk_iload_n (pc := 60) d_Arr_rangeCheck_60 rfl ?_
    first | refine xk_icmp_leN (pc := 61) (tgt := 73) d_Arr_rangeCheck_61 rfl (by omega) (by omega) (fun c_61 => ?_) (fun c_61 => ?_) | refine xk_icmp_le (pc := 61) (tgt := 73) d_Arr_rangeCheck_61 rfl (fun c_61 => ?_) (fun c_61 => ?_)
    · refine xk_vret (pc := 73) rfl d_Arr_rangeCheck_73 rfl (Nat.le_of_ble_eq_true rfl) (Nat.le_of_ble_eq_true rfl) ?_
      exact hQ
    · exact absurd c_61 (by omega)
  · exact absurd c_2 (by omega)

set_option maxRecDepth 20000 in
set_option maxHeartbeats 4000000 in
theorem l_fill4 {E : xk_E} {n : Nat} {r : xk_P} {Q : xk_Q} {m : xk_M} {a len p q : Nat} {v : Int32} (hk0 : xk_kd a = .inr (0, len)) (ha : 1 ≤ a) (han : a < n) (hq : q ≤ len) (hlen : len < 2 ^ 20) (hQ : Q none n (xk_fill m a p q v) r) : ∀ (k : Nat) (i : Nat), q - i < k → p ≤ i → i ≤ q → xk_W E m_Arr_fill4 10 [some (.inr (some a)), some (.inl (nI p)), some (.inl (nI q)), some (.inl v), some (.inl (nI i))] [] n (xk_fill m a p i v) r 0 0 Q := by
  intro k
  induction k with
  | zero => intro i h; exact absurd h (Nat.not_lt_zero _)
  | succ k ih =>
    intro i hk h1 h2
    refine xk_iload (pc := 10) d_Arr_fill4_10 rfl ?_
    refine xk_iload_n (pc := 12) d_Arr_fill4_12 rfl ?_
    first | refine xk_icmp_geN (pc := 13) (tgt := 27) d_Arr_fill4_13 rfl (by omega) (by omega) (fun c_13 => ?_) (fun c_13 => ?_) | refine xk_icmp_ge (pc := 13) (tgt := 27) d_Arr_fill4_13 rfl (fun c_13 => ?_) (fun c_13 => ?_)
    · have e : i = q := by omega
      subst e
      refine xk_vret (pc := 27) rfl d_Arr_fill4_27 rfl (Nat.le_of_ble_eq_true rfl) (Nat.le_of_ble_eq_true rfl) ?_
      exact hQ
    · refine xk_aload_n (pc := 16) d_Arr_fill4_16 rfl ?_
      refine xk_iload (pc := 17) d_Arr_fill4_17 rfl ?_
      refine xk_iload_n (pc := 19) d_Arr_fill4_19 rfl ?_
      refine xk_iastore (pc := 20) d_Arr_fill4_20 hk0 (by omega) (by omega) rfl (by omega) (by omega) ?_
      rw [xk_fill_s (by omega)]
      refine xk_iincN (pc := 21) (d := 1) d_Arr_fill4_21 rfl ?_
      refine xk_goto (pc := 24) (tgt := 10) d_Arr_fill4_24 rfl ?_
      exact ih (i + 1) (by omega) (by omega) (by omega)

set_option maxRecDepth 20000 in
set_option maxHeartbeats 4000000 in
theorem c_Arr_fill4 {E : xk_E} {n : Nat} {m : xk_M} {r : xk_P} {Q : xk_Q} {a len p q : Nat} {v : Int32} (hk0 : xk_kd a = .inr (0, len)) (ha : 1 ≤ a) (han : a < n) (hpq : p ≤ q) (hq : q ≤ len) (hlen : len < 2 ^ 20) (hQ : Q none n (xk_fill m a p q v) r) : xk_W E m_Arr_fill4 0 (xk_ent m_Arr_fill4 [.inr (some a), .inl (nI p), .inl (nI q), .inl v]) [] n m r 0 0 Q := by
  show xk_W E m_Arr_fill4 0 [some (.inr (some a)), some (.inl (nI p)), some (.inl (nI q)), some (.inl v), none] [] n m r 0 0 Q
  refine xk_aload_n (pc := 0) d_Arr_fill4_0 rfl ?_
  refine xk_alen (pc := 1) d_Arr_fill4_1 hk0 (by omega) (by omega) (by omega) ?_
  refine xk_iload_n (pc := 2) d_Arr_fill4_2 rfl ?_
  refine xk_iload_n (pc := 3) d_Arr_fill4_3 rfl ?_
  refine xk_cS3 (pc := 4) d_Arr_fill4_4 ml_Arr_13 cz_Arr_rangeCheck ⟨rfl, rfl⟩ rfl (Nat.le_of_ble_eq_true rfl) ⟨(Nat.le_of_ble_eq_true rfl), (Nat.le_of_ble_eq_true rfl)⟩ ?_
  refine c_Arr_rangeCheck hpq hq (by omega) ?_
  refine xk_iload_n (pc := 7) d_Arr_fill4_7 rfl ?_
  refine xk_istore (pc := 8) d_Arr_fill4_8 (by decide) ?_
  have K := l_fill4 (E := E) (p := p) hk0 ha han hq hlen hQ (q - p + 1) p (by omega) (by omega) (by omega)
  rw [xk_fill_0] at K
  exact K

set_option maxRecDepth 20000 in
set_option maxHeartbeats 4000000 in
theorem l_fill2 {E : xk_E} {n : Nat} {r : xk_P} {Q : xk_Q} {m : xk_M} {a len : Nat} {v : Int32} (hk0 : xk_kd a = .inr (0, len)) (ha : 1 ≤ a) (han : a < n) (hlen : len < 2 ^ 20) (hQ : Q none n (xk_fill m a 0 len v) r) : ∀ (k : Nat) (i : Nat), len - i < k → i ≤ len → xk_W E m_Arr_fill2 5 [some (.inr (some a)), some (.inl v), some (.inl (nI i)), some (.inl (nI len))] [] n (xk_fill m a 0 i v) r 0 0 Q := by
  intro k
  induction k with
  | zero => intro i h; exact absurd h (Nat.not_lt_zero _)
  | succ k ih =>
    intro i hk h2
    refine xk_iload_n (pc := 5) d_Arr_fill2_5 rfl ?_
    refine xk_iload_n (pc := 6) d_Arr_fill2_6 rfl ?_
    first | refine xk_icmp_geN (pc := 7) (tgt := 20) d_Arr_fill2_7 rfl (by omega) (by omega) (fun c_7 => ?_) (fun c_7 => ?_) | refine xk_icmp_ge (pc := 7) (tgt := 20) d_Arr_fill2_7 rfl (fun c_7 => ?_) (fun c_7 => ?_)
    · have e : i = len := by omega
      subst e
      refine xk_vret (pc := 20) rfl d_Arr_fill2_20 rfl (Nat.le_of_ble_eq_true rfl) (Nat.le_of_ble_eq_true rfl) ?_
      exact hQ
    · refine xk_aload_n (pc := 10) d_Arr_fill2_10 rfl ?_
      refine xk_iload_n (pc := 11) d_Arr_fill2_11 rfl ?_
      refine xk_iload_n (pc := 12) d_Arr_fill2_12 rfl ?_
      refine xk_iastore (pc := 13) d_Arr_fill2_13 hk0 (by omega) (by omega) rfl (by omega) (by omega) ?_
      rw [xk_fill_s (by omega)]
      refine xk_iincN (pc := 14) (d := 1) d_Arr_fill2_14 rfl ?_
      refine xk_goto (pc := 17) (tgt := 5) d_Arr_fill2_17 rfl ?_
      exact ih (i + 1) (by omega) (by omega)

set_option maxRecDepth 20000 in
set_option maxHeartbeats 4000000 in
theorem c_Arr_fill2 {E : xk_E} {n : Nat} {m : xk_M} {r : xk_P} {Q : xk_Q} {a len : Nat} {v : Int32} (hk0 : xk_kd a = .inr (0, len)) (ha : 1 ≤ a) (han : a < n) (hlen : len < 2 ^ 20) (hQ : Q none n (xk_fill m a 0 len v) r) : xk_W E m_Arr_fill2 0 (xk_ent m_Arr_fill2 [.inr (some a), .inl v]) [] n m r 0 0 Q := by
  show xk_W E m_Arr_fill2 0 [some (.inr (some a)), some (.inl v), none, none] [] n m r 0 0 Q
  refine xk_iconst (pc := 0) (v := nI 0) d_Arr_fill2_0 (by decide) ?_
  refine xk_istore_n (pc := 1) d_Arr_fill2_1 (by decide) ?_
  refine xk_aload_n (pc := 2) d_Arr_fill2_2 rfl ?_
  refine xk_alen (pc := 3) d_Arr_fill2_3 hk0 (by omega) (by omega) (by omega) ?_
  refine xk_istore_n (pc := 4) d_Arr_fill2_4 (by decide) ?_
  have K := l_fill2 (E := E) hk0 ha han hlen hQ (len + 1) 0 (by omega) (by omega)
  rw [xk_fill_0] at K
  exact K
