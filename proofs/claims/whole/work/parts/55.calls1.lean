/-! the class's calls, one by one -/
def xr_A (s : xs_S) (m : xk_M) (r : xk_P) (n : Nat) : Prop := xr_F s.1 m r ∧ (∀ f, f < 8 → m 20 f = nI (s.2.1 f)) ∧ xr_O s.2.2.1 m r n ∧ xr_T s.2.2.2 m ∧ xr_S r n ∧ 74 ≤ n
def xs_ok (s : xs_S) : Prop := xs_okF s.1 ∧ (∀ f, f < 8 → s.2.1 f ≤ 2) ∧ xs_okO s.2.2.1 s.2.2.2 ∧ xs_okT s.2.2.2
/-- nothing of the reference's cells changes -/
def xr_fr (m m' : xk_M) (r r' : xk_P) : Prop := ∀ a, 53 ≤ a → a < 74 → m' a = m a ∧ r' a = r a
theorem xr_A_F {s : xs_S} {m m' : xk_M} {r r' : xk_P} {n : Nat} {F' : xs_F} (hA : xr_A s m r n) (hF' : xr_F F' m' r') (hm : ∀ a, 20 ≤ a → m' a = m a) (hr : ∀ a, a ≠ 9 → r' a = r a) : xr_A (F', s.2) m' r' n := by
  obtain ⟨h1, h2, h3, h4, h5, h6⟩ := hA
  exact ⟨hF', fun f hf => by rw [hm 20 (by omega)]; exact h2 f hf, xr_O_kept h3 (Nat.le_refl _) (fun a _ _ => hm a (by omega)) (fun a _ _ => hm a (by omega)) (fun a _ _ => hr a (by omega)), xr_T_kept h4 (fun a _ _ => hm a (by omega)), xr_S_9 h5 hr, h6⟩
theorem xr_F_kept {F : xs_F} {m m' : xk_M} {r r' : xk_P} (h : xr_F F m r) (hm : ∀ a, a < 20 → m' a = m a) (hr : r' 9 = r 9) : xr_F F m' r' :=
  ⟨xr_H_kept h.1 (hm _ (by decide)) (hm _ (by decide)) (hm _ (by decide)) (hm _ (by decide)) (hm _ (by decide)), xr_L_kept h.2.1 (hm _ (by decide)), xr_C_kept h.2.2 hr (by rw [hm 7 (by decide)]) (fun a _ h => hm a h)⟩
theorem xr_F_len {F : xs_F} {m : xk_M} {r : xk_P} {f l : Nat} (h : xr_F F m r) : xr_F (xs_len F f l) (xk_up m 8 f (nI l)) r := by
  refine ⟨xr_H_kept h.1 (by funext k; exact xk_up_a (by decide)) (by funext k; exact xk_up_a (by decide)) (by funext k; exact xk_up_a (by decide)) (by funext k; exact xk_up_a (by decide)) (by funext k; exact xk_up_a (by decide)), fun g hg => ?_, xr_C_kept h.2.2 rfl (xk_up_a (by decide)) (fun a _ _ => by funext k; exact xk_up_a (by omega))⟩
  show _ = nI (xs_u F.2.1 f l g)
  by_cases e : g = f
  · subst e; rw [xk_up_s, xs_u_s]
  · rw [xk_up_k e, xs_u_n e]; exact h.2.1 g hg
section XQ
variable {X : Int32 × xs_S} {v : Int32} {s s' : xs_S} {m m' : xk_M} {r r' : xk_P} {n n' : Nat} {Q : xk_Q}
theorem xq_s (e : X = (v, s)) (hA : xr_A s m r n) (hQ : ∀ n' m' r', n ≤ n' → n' ≤ n → xr_A X.2 m' r' n' → xr_fr m m' r r' → Q (some (.inl X.1)) n' m' r') : Q (some (.inl v)) n m r := by
  subst e
  exact hQ n m r (Nat.le_refl _) (by omega) hA (fun _ _ _ => ⟨rfl, rfl⟩)
theorem xq_t (e : X = (v, s')) (hA : xr_A s' m' r' n) (hf : xr_fr m m' r r') (hQ : ∀ n' m' r', n ≤ n' → n' ≤ n → xr_A X.2 m' r' n' → xr_fr m m' r r' → Q (some (.inl X.1)) n' m' r') : Q (some (.inl v)) n m' r' := by
  subst e
  exact hQ n m' r' (Nat.le_refl _) (by omega) hA hf
theorem xr_fr_m (hm : ∀ a, 53 ≤ a → a < 74 → m' a = m a) : xr_fr m m' r r := fun a h1 h2 => ⟨hm a h1 h2, rfl⟩
theorem xr_fr_9 (hm : ∀ a, 53 ≤ a → a < 74 → m' a = m a) (hr : ∀ a, a ≠ 9 → r' a = r a) : xr_fr m m' r r' := fun a h1 h2 => ⟨hm a h1 h2, hr a (by omega)⟩
end XQ
theorem xs_put_1 {s : xs_S} {a b c : Int32} (h : xs_nat a 8 = none ∨ xs_nat b 33 = none) : xs_put s a b c = (-1, s) := by
  unfold xs_put
  rcases h with h | h
  · rw [h]
  · rw [h]; cases xs_nat a 8 <;> rfl
theorem xs_policy_1 {s : xs_S} {a b : Int32} (h : xs_nat a 8 = none ∨ xs_nat b 3 = none) : xs_policy s a b = (-1, s) := by
  unfold xs_policy
  rcases h with h | h
  · rw [h]
  · rw [h]; cases xs_nat a 8 <;> rfl
theorem xs_desc_0 {s : xs_S} {a b : Int32} (h : xs_alive s.2.2.2 a = none ∨ xs_nat b 6 = none) : xs_desc s a b = .inl (-1) := by
  unfold xs_desc
  rcases h with h | h
  · rw [h]
  · rw [h]; cases xs_alive s.2.2.2 a <;> rfl
theorem xs_desc_n {s : xs_S} {a b : Int32} {p d : Nat} (h : xs_alive s.2.2.2 a = some p) (h2 : xs_nat b 6 = some d) (h3 : s.2.2.1.1 (6 * p + d) = none) : xs_desc s a b = .inl (-3) := by
  unfold xs_desc
  rw [h, h2]
  show (match s.2.2.1.1 (6 * p + d) with | none => _ | some o => _) = _
  rw [h3]
theorem xs_desc_s {s : xs_S} {a b : Int32} {p d o : Nat} (h : xs_alive s.2.2.2 a = some p) (h2 : xs_nat b 6 = some d) (h3 : s.2.2.1.1 (6 * p + d) = some o) : xs_desc s a b = .inr (p, d, o) := by
  unfold xs_desc
  rw [h, h2]
  show (match s.2.2.1.1 (6 * p + d) with | none => _ | some o => _) = _
  rw [h3]

set_option maxRecDepth 20000 in
set_option maxHeartbeats 4000000 in
theorem c_K_policy {E : xk_E} {n : Nat} {m : xk_M} {r : xk_P} {Q : xk_Q} {x y : Int32} {s : xs_S} (hA : xr_A s m r n) (hok : xs_ok s) (hsm : s.1.1.2.2.2.2.1 + 4 < 2 ^ 20) (hQ : ∀ n' m' r', n ≤ n' → n' ≤ n → xr_A (xs_policy s x y).2 m' r' n' → xr_fr m m' r r' → Q (some (.inl (xs_policy s x y).1)) n' m' r') : xk_W E m_K_policy 0 (xk_ent m_K_policy [.inr (some 1), .inl x, .inl y]) [] n m r 0 0 Q := by
  show xk_W E m_K_policy 0 [some (.inr (some 1)), some (.inl x), some (.inl y)] [] n m r 0 0 Q
  obtain ⟨hF, hP, hO, hT, hS, hn⟩ := id hA
  obtain ⟨okF, okP, okO, okT⟩ := id hok
  refine xk_iload_n (pc := 0) d_K_policy_0 rfl ?_
  refine xk_bipush (pc := 1) (v := nI 8) d_K_policy_1 (by decide) ?_
  refine xk_cS2 (pc := 3) d_K_policy_3 ml_K_53 cz_K_isBelow ⟨rfl, rfl⟩ rfl (Nat.le_of_ble_eq_true rfl) ⟨(Nat.le_of_ble_eq_true rfl), (Nat.le_of_ble_eq_true rfl)⟩ ?_
  refine c_K_isBelow (by decide) (fun f hf ef enf => ?_) (fun enf => ?_)
  · subst ef
    refine xk_if_eq (pc := 6) (tgt := 17) d_K_policy_6 rfl (fun h => absurd h (by decide)) (fun _ => ?_)
    refine xk_iload_n (pc := 9) d_K_policy_9 rfl ?_
    refine xk_iconst (pc := 10) (v := nI 3) d_K_policy_10 (by decide) ?_
    refine xk_cS2 (pc := 11) d_K_policy_11 ml_K_53 cz_K_isBelow ⟨rfl, rfl⟩ rfl (Nat.le_of_ble_eq_true rfl) ⟨(Nat.le_of_ble_eq_true rfl), (Nat.le_of_ble_eq_true rfl)⟩ ?_
    refine c_K_isBelow (by decide) (fun q hq eq enq => ?_) (fun enq => ?_)
    · subst eq
      refine xk_if_ne (pc := 14) (tgt := 19) d_K_policy_14 rfl (fun _ => ?_) (fun h => absurd h (by decide))
      refine xk_aload_n (pc := 19) d_K_policy_19 rfl ?_
      refine xk_getRo (pc := 20) d_K_policy_20 fl_K_25 (by first | rfl | assumption) rfl (by omega) (by omega) (hS _ _ _ rfl (by omega)) ?_
      refine xk_iload_n (pc := 23) d_K_policy_23 rfl ?_
      refine xk_iload_n (pc := 24) d_K_policy_24 rfl ?_
      refine xk_iastore (pc := 25) d_K_policy_25 (by first | rfl | assumption) (by omega) (by omega) rfl (by omega) (by decide) ?_
      refine xk_iconst (pc := 26) (v := nI 0) d_K_policy_26 (by decide) ?_
      refine xk_iret (pc := 27) rfl d_K_policy_27 rfl (Nat.le_of_ble_eq_true rfl) (Nat.le_of_ble_eq_true rfl) ?_
      have e : xs_policy s (nI f) (nI q) = (nI 0, (s.1, xs_u s.2.1 f q, s.2.2)) := by
        unfold xs_policy
        rw [enf, enq]
        rfl
      refine xq_t e ⟨xr_F_kept hF (fun a ha => by funext k; exact xk_up_a (by omega)) rfl, fun g hg => ?_, xr_O_kept hO (Nat.le_refl _) (fun a _ _ => by funext k; exact xk_up_a (by omega)) (fun a _ _ => by funext k; exact xk_up_a (by omega)) (fun _ _ _ => rfl), xr_T_kept hT (fun a _ _ => by funext k; exact xk_up_a (by omega)), hS, hn⟩ (xr_fr_m (fun a _ _ => by funext k; exact xk_up_a (by omega))) hQ
      show _ = nI (xs_u s.2.1 f q g)
      by_cases e2 : g = f
      · subst e2; rw [xk_up_s, xs_u_s]
      · rw [xk_up_k e2, xs_u_n e2]; exact hP g hg
    · refine xk_if_ne (pc := 14) (tgt := 19) d_K_policy_14 rfl (fun h => absurd (by decide) h) (fun _ => ?_)
      refine xk_iconst (pc := 17) (v := (-1)) d_K_policy_17 (by decide) ?_
      refine xk_iret (pc := 18) rfl d_K_policy_18 rfl (Nat.le_of_ble_eq_true rfl) (Nat.le_of_ble_eq_true rfl) ?_
      first | exact xq_s (xs_policy_1 (Or.inr enq)) hA hQ | exact xq_s (xs_policy_1 (Or.inl enf)) hA hQ
  · refine xk_if_eq (pc := 6) (tgt := 17) d_K_policy_6 rfl (fun _ => ?_) (fun h => absurd (by decide) h)
    refine xk_iconst (pc := 17) (v := (-1)) d_K_policy_17 (by decide) ?_
    refine xk_iret (pc := 18) rfl d_K_policy_18 rfl (Nat.le_of_ble_eq_true rfl) (Nat.le_of_ble_eq_true rfl) ?_
    first | exact xq_s (xs_policy_1 (Or.inr enq)) hA hQ | exact xq_s (xs_policy_1 (Or.inl enf)) hA hQ

set_option maxRecDepth 20000 in
set_option maxHeartbeats 4000000 in
theorem c_K_failing {E : xk_E} {n : Nat} {m : xk_M} {r : xk_P} {Q : xk_Q} {x : Int32} {s : xs_S} (hA : xr_A s m r n) (hok : xs_ok s) (hsm : s.1.1.2.2.2.2.1 + 4 < 2 ^ 20) (hQ : ∀ n' m' r', n ≤ n' → n' ≤ n → xr_A (xs_failing s x).2 m' r' n' → xr_fr m m' r r' → Q (some (.inl (xs_failing s x).1)) n' m' r') : xk_W E m_K_failing 0 (xk_ent m_K_failing [.inr (some 1), .inl x]) [] n m r 0 0 Q := by
  show xk_W E m_K_failing 0 [some (.inr (some 1)), some (.inl x)] [] n m r 0 0 Q
  obtain ⟨hF, hP, hO, hT, hS, hn⟩ := id hA
  obtain ⟨okF, okP, okO, okT⟩ := id hok
  refine xk_iload_n (pc := 0) d_K_failing_0 rfl ?_
  refine xk_bipush (pc := 1) (v := nI 10) d_K_failing_1 (by decide) ?_
  refine xk_cS2 (pc := 3) d_K_failing_3 ml_K_53 cz_K_isBelow ⟨rfl, rfl⟩ rfl (Nat.le_of_ble_eq_true rfl) ⟨(Nat.le_of_ble_eq_true rfl), (Nat.le_of_ble_eq_true rfl)⟩ ?_
  refine c_K_isBelow (by decide) (fun q hq eq enq => ?_) (fun enq => ?_)
  · subst eq
    refine xk_if_ne (pc := 6) (tgt := 11) d_K_failing_6 rfl (fun _ => ?_) (fun h => absurd h (by decide))
    refine xk_aload_n (pc := 11) d_K_failing_11 rfl ?_
    refine xk_getRo (pc := 12) d_K_failing_12 fl_K_10 (by first | rfl | assumption) rfl (by omega) (by omega) (hS _ _ _ rfl (by omega)) ?_
    refine xk_iload_n (pc := 15) d_K_failing_15 rfl ?_
    refine xk_cV1 (pc := 16) d_K_failing_16 ml_K_72 cz_Host_setToFail ⟨rfl, rfl⟩ rfl (by first | rfl | assumption) (by omega) (by omega) (Nat.le_of_ble_eq_true rfl) ⟨(Nat.le_of_ble_eq_true rfl), (Nat.le_of_ble_eq_true rfl)⟩ ?_
    refine c_Host_setToFail hn hS ?_
    refine xk_iconst (pc := 19) (v := nI 0) d_K_failing_19 (by decide) ?_
    refine xk_iret (pc := 20) rfl d_K_failing_20 rfl (Nat.le_of_ble_eq_true rfl) (Nat.le_of_ble_eq_true rfl) ?_
    have e : xs_failing s (nI q) = (nI 0, (((s.1.1.1, s.1.1.2.1, s.1.1.2.2.1, s.1.1.2.2.2.1, s.1.1.2.2.2.2.1, q), s.1.2), s.2)) := by
      unfold xs_failing
      rw [enq]
      rfl
    obtain ⟨r1, r2, r3, r4, r5, r6⟩ := hF.1
    refine xq_t e (xr_A_F hA ⟨⟨fun g hg => by rw [xk_up_a (by decide)]; exact r1 g hg, fun g hg => by rw [xk_up_a (by decide)]; exact r2 g hg, fun g i hg hi => by rw [xk_up_a (by decide)]; exact r3 g i hg hi, ⟨(xk_up_k (by decide)).trans r4.1, fun j hj hj2 => by rw [xk_up_a (by decide)]; exact r4.2 j hj hj2⟩, by rw [xk_up_k (by decide)]; exact r5, xk_up_s⟩, xr_L_kept hF.2.1 (by funext k; exact xk_up_a (by decide)), xr_C_kept hF.2.2 rfl (xk_up_a (by decide)) (fun a _ _ => by funext k; exact xk_up_a (by omega))⟩ (fun a ha => by funext k; exact xk_up_a (by omega)) (fun _ _ => rfl)) (xr_fr_m (fun a _ _ => by funext k; exact xk_up_a (by omega))) hQ
  · refine xk_if_ne (pc := 6) (tgt := 11) d_K_failing_6 rfl (fun h => absurd (by decide) h) (fun _ => ?_)
    refine xk_iconst (pc := 9) (v := (-1)) d_K_failing_9 (by decide) ?_
    refine xk_iret (pc := 10) rfl d_K_failing_10 rfl (Nat.le_of_ble_eq_true rfl) (Nat.le_of_ble_eq_true rfl) ?_
    exact xq_s (show xs_failing s x = (-1, s) by unfold xs_failing; rw [enq]) hA hQ

set_option maxRecDepth 20000 in
set_option maxHeartbeats 4000000 in
theorem c_K_put {E : xk_E} {n : Nat} {m : xk_M} {r : xk_P} {Q : xk_Q} {x y z : Int32} {s : xs_S} (hA : xr_A s m r n) (hok : xs_ok s) (hsm : s.1.1.2.2.2.2.1 + 4 < 2 ^ 20) (hQ : ∀ n' m' r', n ≤ n' → n' ≤ n → xr_A (xs_put s x y z).2 m' r' n' → xr_fr m m' r r' → Q (some (.inl (xs_put s x y z).1)) n' m' r') : xk_W E m_K_put 0 (xk_ent m_K_put [.inr (some 1), .inl x, .inl y, .inl z]) [] n m r 0 0 Q := by
  show xk_W E m_K_put 0 [some (.inr (some 1)), some (.inl x), some (.inl y), some (.inl z)] [] n m r 0 0 Q
  obtain ⟨hF, hP, hO, hT, hS, hn⟩ := id hA
  obtain ⟨okF, okP, okO, okT⟩ := id hok
  refine xk_iload_n (pc := 0) d_K_put_0 rfl ?_
  refine xk_bipush (pc := 1) (v := nI 8) d_K_put_1 (by decide) ?_
  refine xk_cS2 (pc := 3) d_K_put_3 ml_K_53 cz_K_isBelow ⟨rfl, rfl⟩ rfl (Nat.le_of_ble_eq_true rfl) ⟨(Nat.le_of_ble_eq_true rfl), (Nat.le_of_ble_eq_true rfl)⟩ ?_
  refine c_K_isBelow (by decide) (fun f hf ef enf => ?_) (fun enf => ?_)
  · subst ef
    refine xk_if_eq (pc := 6) (tgt := 18) d_K_put_6 rfl (fun h => absurd h (by decide)) (fun _ => ?_)
    refine xk_iload_n (pc := 9) d_K_put_9 rfl ?_
    refine xk_bipush (pc := 10) (v := nI 33) d_K_put_10 (by decide) ?_
    refine xk_cS2 (pc := 12) d_K_put_12 ml_K_53 cz_K_isBelow ⟨rfl, rfl⟩ rfl (Nat.le_of_ble_eq_true rfl) ⟨(Nat.le_of_ble_eq_true rfl), (Nat.le_of_ble_eq_true rfl)⟩ ?_
    refine c_K_isBelow (by decide) (fun l hl el enl => ?_) (fun enl => ?_)
    · subst el
      refine xk_if_ne (pc := 15) (tgt := 20) d_K_put_15 rfl (fun _ => ?_) (fun h => absurd h (by decide))
      refine xk_aload_n (pc := 20) d_K_put_20 rfl ?_
      refine xk_iload_n (pc := 21) d_K_put_21 rfl ?_
      refine xk_cV1 (pc := 22) d_K_put_22 ml_K_57 cz_K_isOpen ⟨rfl, rfl⟩ rfl (by first | rfl | assumption) (by omega) (by omega) (Nat.le_of_ble_eq_true rfl) ⟨(Nat.le_of_ble_eq_true rfl), (Nat.le_of_ble_eq_true rfl)⟩ ?_
      refine c_K_isOpen hn hS hO hf (fun o ho u k => (okO.2.2.1 o ho u).2.2.1 k |>.1) (fun eo => ?_) (fun eo => ?_)
      · refine xk_if_ne (pc := 25) (tgt := 39) d_K_put_25 rfl (fun _ => ?_) (fun h => absurd h (by decide))
        refine xk_bipush (pc := 39) (v := (-9)) d_K_put_39 (by decide) ?_
        refine xk_iret (pc := 41) rfl d_K_put_41 rfl (Nat.le_of_ble_eq_true rfl) (Nat.le_of_ble_eq_true rfl) ?_
        have e : xs_put s (nI f) (nI l) z = (-9, s) := by
          unfold xs_put
          rw [enf, enl]
          first | exact if_pos (Or.inr ec) | exact if_pos (Or.inl eo)
        exact xq_s e hA hQ
      · refine xk_if_ne (pc := 25) (tgt := 39) d_K_put_25 rfl (fun h => absurd (by decide) h) (fun _ => ?_)
        refine xk_aload_n (pc := 28) d_K_put_28 rfl ?_
        refine xk_getRo (pc := 29) d_K_put_29 fl_K_21 (by first | rfl | assumption) rfl (by omega) (by omega) (hS _ _ _ rfl (by omega)) ?_
        refine xk_iload_n (pc := 32) d_K_put_32 rfl ?_
        refine xk_cV1 (pc := 33) d_K_put_33 ml_K_61 cz_Cache_holdsFile ⟨rfl, rfl⟩ rfl (by first | rfl | assumption) (by omega) (by omega) (Nat.le_of_ble_eq_true rfl) ⟨(Nat.le_of_ble_eq_true rfl), (Nat.le_of_ble_eq_true rfl)⟩ ?_
        refine c_Cache_holdsFile hn hS hF okF hf (fun ec => ?_) (fun ec => ?_)
        · refine xk_if_eq (pc := 36) (tgt := 42) d_K_put_36 rfl (fun h => absurd h (by decide)) (fun _ => ?_)
          refine xk_bipush (pc := 39) (v := (-9)) d_K_put_39 (by decide) ?_
          refine xk_iret (pc := 41) rfl d_K_put_41 rfl (Nat.le_of_ble_eq_true rfl) (Nat.le_of_ble_eq_true rfl) ?_
          have e : xs_put s (nI f) (nI l) z = (-9, s) := by
            unfold xs_put
            rw [enf, enl]
            first | exact if_pos (Or.inr ec) | exact if_pos (Or.inl eo)
          exact xq_s e hA hQ
        · refine xk_if_eq (pc := 36) (tgt := 42) d_K_put_36 rfl (fun _ => ?_) (fun h => absurd (by decide) h)
          refine xk_aload_n (pc := 42) d_K_put_42 rfl ?_
          refine xk_getRo (pc := 43) d_K_put_43 fl_K_10 (by first | rfl | assumption) rfl (by omega) (by omega) (hS _ _ _ rfl (by omega)) ?_
          refine xk_iload_n (pc := 46) d_K_put_46 rfl ?_
          refine xk_iload_n (pc := 47) d_K_put_47 rfl ?_
          refine xk_iload_n (pc := 48) d_K_put_48 rfl ?_
          refine xk_cV3 (pc := 49) d_K_put_49 ml_K_64 cz_Host_place ⟨rfl, rfl⟩ rfl (by first | rfl | assumption) (by omega) (by omega) (Nat.le_of_ble_eq_true rfl) ⟨(Nat.le_of_ble_eq_true rfl), (Nat.le_of_ble_eq_true rfl)⟩ ?_
          refine c_Host_place hn hS hF.1 hf (by omega) (fun m1 hR1 hm1 => ?_)
          refine xk_aload_n (pc := 52) d_K_put_52 rfl ?_
          refine xk_getRo (pc := 53) d_K_put_53 fl_K_21 (by first | rfl | assumption) rfl (by omega) (by omega) (hS _ _ _ rfl (by omega)) ?_
          refine xk_iload_n (pc := 56) d_K_put_56 rfl ?_
          refine xk_iload_n (pc := 57) d_K_put_57 rfl ?_
          refine xk_cV2 (pc := 58) d_K_put_58 ml_K_68 cz_Cache_setLength ⟨rfl, rfl⟩ rfl (by first | rfl | assumption) (by omega) (by omega) (Nat.le_of_ble_eq_true rfl) ⟨(Nat.le_of_ble_eq_true rfl), (Nat.le_of_ble_eq_true rfl)⟩ ?_
          refine c_Cache_setLength hn hS hf ?_
          refine xk_iconst (pc := 61) (v := nI 0) d_K_put_61 (by decide) ?_
          refine xk_iret (pc := 62) rfl d_K_put_62 rfl (Nat.le_of_ble_eq_true rfl) (Nat.le_of_ble_eq_true rfl) ?_
          have e : xs_put s (nI f) (nI l) z = (nI 0, (xs_len (xs_place s.1.1 f l z, s.1.2) f l, s.2)) := by
            unfold xs_put
            rw [enf, enl]
            refine (if_neg ?_).trans rfl
            rintro (q | q)
            · rw [eo] at q; cases q
            · rw [ec] at q; cases q
          have hF1 : xr_F (xs_place s.1.1 f l z, s.1.2) m1 r := ⟨hR1, xr_L_kept hF.2.1 (hm1 8 (by decide) (by decide) (by decide)), xr_C_kept hF.2.2 rfl (by rw [hm1 7 (by decide) (by decide) (by decide)]) (fun a _ _ => hm1 a (by omega) (by omega) (by omega))⟩
          have hfr : ∀ a, 20 ≤ a → (xk_up m1 8 f (nI l)) a = m a := fun a ha => by
            rw [← hm1 a (by omega) (by omega) (by omega)]
            funext k
            exact xk_up_a (by omega)
          exact xq_t e (xr_A_F hA (xr_F_len hF1) hfr (fun _ _ => rfl)) (xr_fr_m (fun a _ _ => hfr a (by omega))) hQ
    · refine xk_if_ne (pc := 15) (tgt := 20) d_K_put_15 rfl (fun h => absurd (by decide) h) (fun _ => ?_)
      refine xk_iconst (pc := 18) (v := (-1)) d_K_put_18 (by decide) ?_
      refine xk_iret (pc := 19) rfl d_K_put_19 rfl (Nat.le_of_ble_eq_true rfl) (Nat.le_of_ble_eq_true rfl) ?_
      first | exact xq_s (xs_put_1 (Or.inr enl)) hA hQ | exact xq_s (xs_put_1 (Or.inl enf)) hA hQ
  · refine xk_if_eq (pc := 6) (tgt := 18) d_K_put_6 rfl (fun _ => ?_) (fun h => absurd (by decide) h)
    refine xk_iconst (pc := 18) (v := (-1)) d_K_put_18 (by decide) ?_
    refine xk_iret (pc := 19) rfl d_K_put_19 rfl (Nat.le_of_ble_eq_true rfl) (Nat.le_of_ble_eq_true rfl) ?_
    first | exact xq_s (xs_put_1 (Or.inr enl)) hA hQ | exact xq_s (xs_put_1 (Or.inl enf)) hA hQ

set_option maxRecDepth 20000 in
set_option maxHeartbeats 4000000 in
theorem c_K_host {E : xk_E} {n : Nat} {m : xk_M} {r : xk_P} {Q : xk_Q} {x y : Int32} {s : xs_S} (hA : xr_A s m r n) (hok : xs_ok s) (hQ : Q (some (.inl (xs_host s x y))) n m r) : xk_W E m_K_host 0 (xk_ent m_K_host [.inr (some 1), .inl x, .inl y]) [] n m r 0 0 Q := by
  show xk_W E m_K_host 0 [some (.inr (some 1)), some (.inl x), some (.inl y)] [] n m r 0 0 Q
  obtain ⟨hF, hP, hO, hT, hS, hn⟩ := id hA
  obtain ⟨okF, okP, okO, okT⟩ := id hok
  refine xk_iload_n (pc := 0) d_K_host_0 rfl ?_
  refine xk_bipush (pc := 1) (v := nI 8) d_K_host_1 (by decide) ?_
  refine xk_cS2 (pc := 3) d_K_host_3 ml_K_53 cz_K_isBelow ⟨rfl, rfl⟩ rfl (Nat.le_of_ble_eq_true rfl) ⟨(Nat.le_of_ble_eq_true rfl), (Nat.le_of_ble_eq_true rfl)⟩ ?_
  refine c_K_isBelow (by decide) (fun f hf ef enf => ?_) (fun enf => ?_)
  · subst ef
    refine xk_if_ne (pc := 6) (tgt := 11) d_K_host_6 rfl (fun _ => ?_) (fun h => absurd h (by decide))
    refine xk_aload_n (pc := 11) d_K_host_11 rfl ?_
    refine xk_getRo (pc := 12) d_K_host_12 fl_K_10 (by first | rfl | assumption) rfl (by omega) (by omega) (hS _ _ _ rfl (by omega)) ?_
    refine xk_iload_n (pc := 15) d_K_host_15 rfl ?_
    refine xk_cV1 (pc := 16) d_K_host_16 ml_K_78 cz_Host_isThere ⟨rfl, rfl⟩ rfl (by first | rfl | assumption) (by omega) (by omega) (Nat.le_of_ble_eq_true rfl) ⟨(Nat.le_of_ble_eq_true rfl), (Nat.le_of_ble_eq_true rfl)⟩ ?_
    refine c_Host_isThere hn hS hf (hF.1.1 f hf) ?_
    first | refine xk_if_neN (pc := 19) (tgt := 25) d_K_host_19 rfl (by omega) (fun c_19 => ?_) (fun c_19 => ?_) | refine xk_if_ne (pc := 19) (tgt := 25) d_K_host_19 rfl (fun c_19 => ?_) (fun c_19 => ?_)
    · have c_20 := xs_bi_nz c_19
      refine xk_iload_n (pc := 25) d_K_host_25 rfl ?_
      refine xk_aload_n (pc := 26) d_K_host_26 rfl ?_
      refine xk_getRo (pc := 27) d_K_host_27 fl_K_10 (by first | rfl | assumption) rfl (by omega) (by omega) (hS _ _ _ rfl (by omega)) ?_
      refine xk_iload_n (pc := 30) d_K_host_30 rfl ?_
      refine xk_cV1 (pc := 31) d_K_host_31 ml_K_185 cz_Host_lengthOf ⟨rfl, rfl⟩ rfl (by first | rfl | assumption) (by omega) (by omega) (Nat.le_of_ble_eq_true rfl) ⟨(Nat.le_of_ble_eq_true rfl), (Nat.le_of_ble_eq_true rfl)⟩ ?_
      refine c_Host_lengthOf hn hS hf ?_
      rw [hF.1.2.1 f hf]
      have hl := okF.1 f hf
      refine xk_cS2 (pc := 34) d_K_host_34 ml_K_53 cz_K_isBelow ⟨rfl, rfl⟩ rfl (Nat.le_of_ble_eq_true rfl) ⟨(Nat.le_of_ble_eq_true rfl), (Nat.le_of_ble_eq_true rfl)⟩ ?_
      refine c_K_isBelow (by omega) (fun i hi ei eni => ?_) (fun eni => ?_)
      · subst ei
        refine xk_if_eq (pc := 37) (tgt := 52) d_K_host_37 rfl (fun h => absurd h (by decide)) (fun _ => ?_)
        refine xk_aload_n (pc := 40) d_K_host_40 rfl ?_
        refine xk_getRo (pc := 41) d_K_host_41 fl_K_10 (by first | rfl | assumption) rfl (by omega) (by omega) (hS _ _ _ rfl (by omega)) ?_
        refine xk_iload_n (pc := 44) d_K_host_44 rfl ?_
        refine xk_iload_n (pc := 45) d_K_host_45 rfl ?_
        refine xk_cV2 (pc := 46) d_K_host_46 ml_K_186 cz_Host_cellAt ⟨rfl, rfl⟩ rfl (by first | rfl | assumption) (by omega) (by omega) (Nat.le_of_ble_eq_true rfl) ⟨(Nat.le_of_ble_eq_true rfl), (Nat.le_of_ble_eq_true rfl)⟩ ?_
        refine c_Host_cellAt hn hS hf (by omega) ?_
        refine xk_goto (pc := 49) (tgt := 54) d_K_host_49 rfl ?_
        refine xk_iret (pc := 54) rfl d_K_host_54 rfl (Nat.le_of_ble_eq_true rfl) (Nat.le_of_ble_eq_true rfl) ?_
        have e0 : ∀ y, xs_host s (nI f) y = match xs_nat y (s.1.1.2.1 f) with | none => -7 | some i => s.1.1.2.2.1 f i := fun y => by unfold xs_host; rw [enf]; exact if_neg (by rw [c_20]; decide)
        rw [e0, eni] at hQ
        first | (rw [hF.1.2.2.1 f i hf (by omega)]; exact hQ) | exact hQ
      · refine xk_if_eq (pc := 37) (tgt := 52) d_K_host_37 rfl (fun _ => ?_) (fun h => absurd (by decide) h)
        refine xk_bipush (pc := 52) (v := (-7)) d_K_host_52 (by decide) ?_
        refine xk_iret (pc := 54) rfl d_K_host_54 rfl (Nat.le_of_ble_eq_true rfl) (Nat.le_of_ble_eq_true rfl) ?_
        have e0 : ∀ y, xs_host s (nI f) y = match xs_nat y (s.1.1.2.1 f) with | none => -7 | some i => s.1.1.2.2.1 f i := fun y => by unfold xs_host; rw [enf]; exact if_neg (by rw [c_20]; decide)
        rw [e0, eni] at hQ
        first | (rw [hF.1.2.2.1 f i hf (by omega)]; exact hQ) | exact hQ
    · rw [xs_bi_z] at c_19
      refine xk_bipush (pc := 22) (v := (-4)) d_K_host_22 (by decide) ?_
      refine xk_iret (pc := 24) rfl d_K_host_24 rfl (Nat.le_of_ble_eq_true rfl) (Nat.le_of_ble_eq_true rfl) ?_
      have e : xs_host s (nI f) y = -4 := by unfold xs_host; rw [enf]; exact if_pos c_19
      rw [e] at hQ
      exact hQ
  · refine xk_if_ne (pc := 6) (tgt := 11) d_K_host_6 rfl (fun h => absurd (by decide) h) (fun _ => ?_)
    refine xk_iconst (pc := 9) (v := (-1)) d_K_host_9 (by decide) ?_
    refine xk_iret (pc := 10) rfl d_K_host_10 rfl (Nat.le_of_ble_eq_true rfl) (Nat.le_of_ble_eq_true rfl) ?_
    have e : xs_host s x y = -1 := by unfold xs_host; rw [enf]
    rw [e] at hQ
    exact hQ

set_option maxRecDepth 20000 in
set_option maxHeartbeats 4000000 in
theorem c_K_log {E : xk_E} {n : Nat} {m : xk_M} {r : xk_P} {Q : xk_Q} {x : Int32} {s : xs_S} (hA : xr_A s m r n) (hok : xs_ok s) (hsm : s.1.1.2.2.2.2.1 + 4 < 2 ^ 20) (hQ : Q (some (.inl (xs_log s x))) n m r) : xk_W E m_K_log 0 (xk_ent m_K_log [.inr (some 1), .inl x]) [] n m r 0 0 Q := by
  show xk_W E m_K_log 0 [some (.inr (some 1)), some (.inl x)] [] n m r 0 0 Q
  obtain ⟨hF, hP, hO, hT, hS, hn⟩ := id hA
  obtain ⟨okF, okP, okO, okT⟩ := id hok
  refine xk_iload_n (pc := 0) d_K_log_0 rfl ?_
  refine xk_aload_n (pc := 1) d_K_log_1 rfl ?_
  refine xk_getRo (pc := 2) d_K_log_2 fl_K_10 (by first | rfl | assumption) rfl (by omega) (by omega) (hS _ _ _ rfl (by omega)) ?_
  refine xk_cV0 (pc := 5) d_K_log_5 ml_K_189 cz_Host_operations ⟨rfl, rfl⟩ rfl (by first | rfl | assumption) (by omega) (by omega) (Nat.le_of_ble_eq_true rfl) ⟨(Nat.le_of_ble_eq_true rfl), (Nat.le_of_ble_eq_true rfl)⟩ ?_
  refine c_Host_operations hn hS ?_
  rw [hF.1.2.2.2.2.1]
  refine xk_bipush (pc := 8) (v := nI 16) d_K_log_8 (by decide) ?_
  refine xk_mmin (pc := 10) d_K_log_10 (xk_in (List.mem_of_getElem? (i := 525) (by decide +kernel)) rfl) (xk_in (List.mem_of_getElem? (i := 383) (by decide +kernel)) rfl) (xk_in (List.mem_of_getElem? (i := 44) (by decide +kernel)) rfl) (xk_in (List.mem_of_getElem? (i := 384) (by decide +kernel)) rfl) (Nat.le_of_ble_eq_true rfl) (Nat.le_of_ble_eq_true rfl) (Nat.le_of_ble_eq_true rfl) (Nat.le_of_ble_eq_true rfl) ?_
  rw [xs_minN (by omega) (by decide)]
  refine xk_cS2 (pc := 13) d_K_log_13 ml_K_53 cz_K_isBelow ⟨rfl, rfl⟩ rfl (Nat.le_of_ble_eq_true rfl) ⟨(Nat.le_of_ble_eq_true rfl), (Nat.le_of_ble_eq_true rfl)⟩ ?_
  refine c_K_isBelow (by omega) (fun i hi ei eni => ?_) (fun eni => ?_)
  · subst ei
    refine xk_if_eq (pc := 16) (tgt := 30) d_K_log_16 rfl (fun h => absurd h (by decide)) (fun _ => ?_)
    refine xk_aload_n (pc := 19) d_K_log_19 rfl ?_
    refine xk_getRo (pc := 20) d_K_log_20 fl_K_10 (by first | rfl | assumption) rfl (by omega) (by omega) (hS _ _ _ rfl (by omega)) ?_
    refine xk_iload_n (pc := 23) d_K_log_23 rfl ?_
    refine xk_cV1 (pc := 24) d_K_log_24 ml_K_197 cz_Host_entryAt ⟨rfl, rfl⟩ rfl (by first | rfl | assumption) (by omega) (by omega) (Nat.le_of_ble_eq_true rfl) ⟨(Nat.le_of_ble_eq_true rfl), (Nat.le_of_ble_eq_true rfl)⟩ ?_
    refine c_Host_entryAt hn hS hF.1.2.2.2.1.1 (by omega) ?_
    refine xk_goto (pc := 27) (tgt := 31) d_K_log_27 rfl ?_
    refine xk_iret (pc := 31) rfl d_K_log_31 rfl (Nat.le_of_ble_eq_true rfl) (Nat.le_of_ble_eq_true rfl) ?_
    have e0 : ∀ x, xs_log s x = match xs_nat x (min s.1.1.2.2.2.2.1 16) with | none => -1 | some i => s.1.1.2.2.2.1 i := fun _ => rfl
    rw [e0, eni] at hQ
    first | (rw [hF.1.2.2.2.1.2 i (by omega) (by omega)]; exact hQ) | exact hQ
  · refine xk_if_eq (pc := 16) (tgt := 30) d_K_log_16 rfl (fun _ => ?_) (fun h => absurd (by decide) h)
    refine xk_iconst (pc := 30) (v := (-1)) d_K_log_30 (by decide) ?_
    refine xk_iret (pc := 31) rfl d_K_log_31 rfl (Nat.le_of_ble_eq_true rfl) (Nat.le_of_ble_eq_true rfl) ?_
    have e0 : ∀ x, xs_log s x = match xs_nat x (min s.1.1.2.2.2.2.1 16) with | none => -1 | some i => s.1.1.2.2.2.1 i := fun _ => rfl
    rw [e0, eni] at hQ
    first | (rw [hF.1.2.2.2.1.2 i (by omega) (by omega)]; exact hQ) | exact hQ

set_option maxRecDepth 20000 in
set_option maxHeartbeats 4000000 in
theorem c_K_cached {E : xk_E} {n : Nat} {m : xk_M} {r : xk_P} {Q : xk_Q} {x : Int32} {s : xs_S} (hA : xr_A s m r n) (hok : xs_ok s) (hQ : Q (some (.inl (xs_cached s x))) n m r) : xk_W E m_K_cached 0 (xk_ent m_K_cached [.inr (some 1), .inl x]) [] n m r 0 0 Q := by
  show xk_W E m_K_cached 0 [some (.inr (some 1)), some (.inl x)] [] n m r 0 0 Q
  obtain ⟨hF, hP, hO, hT, hS, hn⟩ := id hA
  obtain ⟨okF, okP, okO, okT⟩ := id hok
  refine xk_iload_n (pc := 0) d_K_cached_0 rfl ?_
  refine xk_aload_n (pc := 1) d_K_cached_1 rfl ?_
  refine xk_getRo (pc := 2) d_K_cached_2 fl_K_21 (by first | rfl | assumption) rfl (by omega) (by omega) (hS _ _ _ rfl (by omega)) ?_
  refine xk_cV0 (pc := 5) d_K_cached_5 ml_K_200 cz_Cache_size ⟨rfl, rfl⟩ rfl (by first | rfl | assumption) (by omega) (by omega) (Nat.le_of_ble_eq_true rfl) ⟨(Nat.le_of_ble_eq_true rfl), (Nat.le_of_ble_eq_true rfl)⟩ ?_
  refine c_Cache_size hn hS ?_
  obtain ⟨hz, hl5, β, hβ, hinj, hB⟩ := hF.2.2
  rw [hz]
  refine xk_cS2 (pc := 8) d_K_cached_8 ml_K_53 cz_K_isBelow ⟨rfl, rfl⟩ rfl (Nat.le_of_ble_eq_true rfl) ⟨(Nat.le_of_ble_eq_true rfl), (Nat.le_of_ble_eq_true rfl)⟩ ?_
  refine c_K_isBelow (by omega) (fun i hi ei eni => ?_) (fun eni => ?_)
  · subst ei
    obtain ⟨b1, b2⟩ := hβ i (by omega)
    obtain ⟨x, hx⟩ := xs_get_lt hi
    obtain ⟨g0, g1, g2, g3⟩ := hB i x hx
    have hkb := xr_kd_blk _ b1
    refine xk_if_eq (pc := 11) (tgt := 28) d_K_cached_11 rfl (fun h => absurd h (by decide)) (fun _ => ?_)
    refine xk_aload_n (pc := 14) d_K_cached_14 rfl ?_
    refine xk_getRo (pc := 15) d_K_cached_15 fl_K_21 (by first | rfl | assumption) rfl (by omega) (by omega) (hS _ _ _ rfl (by omega)) ?_
    refine xk_iload_n (pc := 18) d_K_cached_18 rfl ?_
    refine xk_cV1 (pc := 19) d_K_cached_19 ml_K_203 cz_Cache_blockAt ⟨rfl, rfl⟩ rfl (by first | rfl | assumption) (by omega) (by omega) (Nat.le_of_ble_eq_true rfl) ⟨(Nat.le_of_ble_eq_true rfl), (Nat.le_of_ble_eq_true rfl)⟩ ?_
    refine c_Cache_blockAt hn hS (by omega) ?_
    rw [b2]
    refine xk_cV0 (pc := 22) d_K_cached_22 ml_K_207 cz_Block_describe ⟨rfl, rfl⟩ rfl (by first | rfl | assumption) (by omega) (by omega) (Nat.le_of_ble_eq_true rfl) ⟨(Nat.le_of_ble_eq_true rfl), (Nat.le_of_ble_eq_true rfl)⟩ ?_
    refine c_Block_describe hn hS hkb (by omega) (by omega) g0 g1 g2 ?_
    refine xk_goto (pc := 25) (tgt := 29) d_K_cached_25 rfl ?_
    refine xk_iret (pc := 29) rfl d_K_cached_29 rfl (Nat.le_of_ble_eq_true rfl) (Nat.le_of_ble_eq_true rfl) ?_
    have e0 : ∀ x, xs_cached s x = match xs_nat x s.1.2.2.length with | none => -1 | some i => (match s.1.2.2[i]? with | none => -1 | some x => nI (x.1 + 8 * x.2.1 + (if x.2.2.1 = true then 32 else 0))) := fun _ => rfl
    rw [e0, eni] at hQ
    first | (change Q (some (.inl (match s.1.2.2[i]? with | none => -1 | some x => nI (x.1 + 8 * x.2.1 + (if x.2.2.1 = true then 32 else 0))))) n m r at hQ; rw [hx] at hQ; exact hQ) | exact hQ
  · refine xk_if_eq (pc := 11) (tgt := 28) d_K_cached_11 rfl (fun _ => ?_) (fun h => absurd (by decide) h)
    refine xk_iconst (pc := 28) (v := (-1)) d_K_cached_28 (by decide) ?_
    refine xk_iret (pc := 29) rfl d_K_cached_29 rfl (Nat.le_of_ble_eq_true rfl) (Nat.le_of_ble_eq_true rfl) ?_
    have e0 : ∀ x, xs_cached s x = match xs_nat x s.1.2.2.length with | none => -1 | some i => (match s.1.2.2[i]? with | none => -1 | some x => nI (x.1 + 8 * x.2.1 + (if x.2.2.1 = true then 32 else 0))) := fun _ => rfl
    rw [e0, eni] at hQ
    first | (change Q (some (.inl (match s.1.2.2[i]? with | none => -1 | some x => nI (x.1 + 8 * x.2.1 + (if x.2.2.1 = true then 32 else 0))))) n m r at hQ; rw [hx] at hQ; exact hQ) | exact hQ
