/-- a process with the first i descriptors of another -/
def xs_shT (O : xs_O) (c p i : Nat) : xs_O := (fun k => if 6 * c ≤ k ∧ k < 6 * c + i then O.1 (6 * p + (k - 6 * c)) else O.1 k, O.2)
theorem xs_shT_0 {O : xs_O} {c p : Nat} : xs_shT O c p 0 = O := by
  have : (fun k => if 6 * c ≤ k ∧ k < 6 * c + 0 then O.1 (6 * p + (k - 6 * c)) else O.1 k) = O.1 := by
    funext k
    rw [if_neg (by omega)]
  exact congrArg (fun z => ((z, O.2) : xs_O)) this
theorem xs_shT_n {O : xs_O} {c p i : Nat} (h1 : O.1 (6 * p + i) = none) (h2 : O.1 (6 * c + i) = none) : xs_shT O c p (i + 1) = xs_shT O c p i := by
  have : (fun k => if 6 * c ≤ k ∧ k < 6 * c + (i + 1) then O.1 (6 * p + (k - 6 * c)) else O.1 k) = fun k => if 6 * c ≤ k ∧ k < 6 * c + i then O.1 (6 * p + (k - 6 * c)) else O.1 k := by
    funext k
    by_cases e : k = 6 * c + i
    · subst e
      rw [if_pos ⟨by omega, by omega⟩, if_neg (by omega), h2, Nat.add_sub_cancel_left, h1]
    · by_cases e2 : 6 * c ≤ k ∧ k < 6 * c + i
      · rw [if_pos e2, if_pos ⟨e2.1, by omega⟩]
      · rw [if_neg e2, if_neg (by omega)]
  exact congrArg (fun z => ((z, O.2) : xs_O)) this
theorem xs_shT_s {O : xs_O} {c p i o : Nat} (h1 : O.1 (6 * p + i) = some o) : xs_of (xs_shT O c p i) (6 * c + i) (some o) = xs_shT O c p (i + 1) := by
  have : xs_u (fun k => if 6 * c ≤ k ∧ k < 6 * c + i then O.1 (6 * p + (k - 6 * c)) else O.1 k) (6 * c + i) (some o) = fun k => if 6 * c ≤ k ∧ k < 6 * c + (i + 1) then O.1 (6 * p + (k - 6 * c)) else O.1 k := by
    funext k
    by_cases e : k = 6 * c + i
    · subst e
      rw [xs_u_s, if_pos ⟨by omega, by omega⟩, Nat.add_sub_cancel_left, h1]
    · rw [xs_u_n e]
      by_cases e2 : 6 * c ≤ k ∧ k < 6 * c + i
      · rw [if_pos e2, if_pos ⟨e2.1, by omega⟩]
      · rw [if_neg e2, if_neg (by omega)]
  exact congrArg (fun z => ((z, O.2) : xs_O)) this
theorem xs_shT_p {O : xs_O} {c p i d : Nat} (hc : c ≠ p) (hi : i ≤ 6) (hd : d < 6) : (xs_shT O c p i).1 (6 * p + d) = O.1 (6 * p + d) := by
  show (if 6 * c ≤ 6 * p + d ∧ 6 * p + d < 6 * c + i then _ else _) = _
  rw [if_neg (by omega)]
theorem xs_shT_c {O : xs_O} {c p i : Nat} : (xs_shT O c p i).1 (6 * c + i) = O.1 (6 * c + i) := by
  show (if 6 * c ≤ 6 * c + i ∧ 6 * c + i < 6 * c + i then _ else _) = _
  rw [if_neg (by omega)]

set_option maxRecDepth 20000 in
set_option maxHeartbeats 4000000 in
theorem l_share {E : xk_E} {n : Nat} {Q : xk_Q} {O : xs_O} {m0 : xk_M} {r0 : xk_P} {c p : Nat} (hn : 74 ≤ n) (hc : c < 7) (hp : p < 7) (hcp : c ≠ p) (h16 : ∀ k o, k < 42 → O.1 k = some o → o < 16) (hch : ∀ d, d < 6 → O.1 (6 * c + d) = none) (hQ : ∀ m' r', xr_O (xs_shT O c p 6) m' r' n → xr_S r' n → (∀ a, (a < 22 ∨ 38 ≤ a) → m' a = m0 a) → (∀ a, a ≠ 40 + 2 * c → r' a = r0 a) → Q none n m' r') : ∀ (k : Nat) (i : Nat) (m : xk_M) (r : xk_P) (v3 : Option xk_V), 6 - i < k → i ≤ 6 → xr_O (xs_shT O c p i) m r n → xr_S r n → (∀ a, (a < 22 ∨ 38 ≤ a) → m a = m0 a) → (∀ a, a ≠ 40 + 2 * c → r a = r0 a) → xk_W E m_Task_shareAllOf 2 [some (.inr (some (39 + 2 * c))), some (.inr (some (39 + 2 * p))), some (.inl (nI i)), v3] [] n m r 0 0 Q := by
  intro k
  induction k with
  | zero => intro i m r v3 h; exact absurd h (Nat.not_lt_zero _)
  | succ k ih =>
    intro i m r v3 hk hi hO hS hm hr
    have hkt := xr_kd_ta c hc
    have hkp := xr_kd_ta p hp
    have hkd := xr_kd_de p hp
    refine xk_iload_n (pc := 2) d_Task_shareAllOf_2 rfl ?_
    refine xk_bipush (pc := 3) (v := nI 6) d_Task_shareAllOf_3 (by decide) ?_
    first | refine xk_icmp_geN (pc := 5) (tgt := 31) d_Task_shareAllOf_5 rfl (by omega) (by omega) (fun c_5 => ?_) (fun c_5 => ?_) | refine xk_icmp_ge (pc := 5) (tgt := 31) d_Task_shareAllOf_5 rfl (fun c_5 => ?_) (fun c_5 => ?_)
    · have e : i = 6 := by omega
      subst e
      refine xk_vret (pc := 31) rfl d_Task_shareAllOf_31 rfl (Nat.le_of_ble_eq_true rfl) (Nat.le_of_ble_eq_true rfl) ?_
      exact hQ m r hO hS hm hr
    · refine xk_aload_n (pc := 8) d_Task_shareAllOf_8 rfl ?_
      refine xk_getRo (pc := 9) d_Task_shareAllOf_9 fl_Task_23 (by first | rfl | assumption) rfl (by omega) (by omega) (hS _ _ _ (xr_st_ta _ hp) (by omega)) ?_
      refine xk_iload_n (pc := 12) d_Task_shareAllOf_12 rfl ?_
      refine xk_aaloado (pc := 13) d_Task_shareAllOf_13 (by first | rfl | assumption) (by decide) (by decide) (by omega) (by omega) rfl (by omega) (by decide) ((hO.2.1 p i hp c_5).trans (congrArg (Option.map (fun o => 22 + o)) (xs_shT_p hcp hi c_5))) ?_
      refine xk_astore_n (pc := 14) d_Task_shareAllOf_14 (by decide) ?_
      refine xk_aload_n (pc := 15) d_Task_shareAllOf_15 rfl ?_
      refine xk_ifnull (pc := 16) (tgt := 25) d_Task_shareAllOf_16 rfl (fun c_16 => ?_) (fun a_16 c_16 => ?_)
      · have e0 : O.1 (6 * p + i) = none := by
          cases hq : O.1 (6 * p + i) with
          | none => rfl
          | some o => rw [hq] at c_16; cases c_16
        refine xk_iincN (pc := 25) (d := 1) d_Task_shareAllOf_25 rfl ?_
        refine xk_goto (pc := 28) (tgt := 2) d_Task_shareAllOf_28 rfl ?_
        first
          | exact ih (i + 1) _ _ _ (by omega) (by omega) hO1 (xr_S_de hc hS (fun a ha => by funext k; exact xk_up_a ha)) (fun a ha => by rw [← hm a ha]; funext k; exact xk_up_a (by omega)) (fun a ha => by rw [← hr a ha]; funext k; exact xk_up_a ha)
          | exact ih (i + 1) m r _ (by omega) (by omega) (by rw [xs_shT_n e0 (hch i c_5)]; exact hO) hS hm hr
      · obtain ⟨o, e0, ea⟩ : ∃ o, O.1 (6 * p + i) = some o ∧ a_16 = 22 + o := by
          cases hq : O.1 (6 * p + i) with
          | none => rw [hq] at c_16; cases c_16
          | some o => rw [hq] at c_16; exact ⟨o, rfl, (Option.some.inj c_16).symm⟩
        subst ea
        have c_16' : (O.1 (6 * p + i)).map (fun o => 22 + o) = some (22 + o) := c_16
        rw [c_16']
        have ho := h16 _ o (by omega) e0
        have hu : xs_used (xs_shT O c p i) o = true := xs_used_of (k := 6 * p + i) (by omega) ((xs_shT_p hcp hi c_5).trans e0)
        refine xk_aload_n (pc := 19) d_Task_shareAllOf_19 rfl ?_
        refine xk_iload_n (pc := 20) d_Task_shareAllOf_20 rfl ?_
        refine xk_aload_n (pc := 21) d_Task_shareAllOf_21 rfl ?_
        refine xk_cV2 (pc := 22) d_Task_shareAllOf_22 ml_Task_36 cz_Task_hold ⟨rfl, rfl⟩ rfl (by first | rfl | assumption) (by omega) (by omega) (Nat.le_of_ble_eq_true rfl) ⟨(Nat.le_of_ble_eq_true rfl), (Nat.le_of_ble_eq_true rfl)⟩ ?_
        refine c_Task_hold hn hS hc c_5 ho (hO.1 o ho) ?_
        have hO1 := xr_O_hold hO hc c_5 ho (xs_shT_c.trans (hch i c_5)) hu
        rw [xs_shT_s e0] at hO1
        refine xk_iincN (pc := 25) (d := 1) d_Task_shareAllOf_25 rfl ?_
        refine xk_goto (pc := 28) (tgt := 2) d_Task_shareAllOf_28 rfl ?_
        first
          | exact ih (i + 1) _ _ _ (by omega) (by omega) hO1 (xr_S_de hc hS (fun a ha => by funext k; exact xk_up_a ha)) (fun a ha => by rw [← hm a ha]; funext k; exact xk_up_a (by omega)) (fun a ha => by rw [← hr a ha]; funext k; exact xk_up_a ha)
          | exact ih (i + 1) m r _ (by omega) (by omega) (by rw [xs_shT_n e0 (hch i c_5)]; exact hO) hS hm hr

set_option maxRecDepth 20000 in
set_option maxHeartbeats 4000000 in
theorem c_Task_shareAllOf {E : xk_E} {n : Nat} {m : xk_M} {r : xk_P} {Q : xk_Q} (hn : 74 ≤ n) (hS : xr_S r n) {c p : Nat} (hc : c < 7) (hp : p < 7) (hcp : c ≠ p) {O : xs_O} (hO : xr_O O m r n) (h16 : ∀ k o, k < 42 → O.1 k = some o → o < 16) (hch : ∀ d, d < 6 → O.1 (6 * c + d) = none) (hQ : ∀ m' r', xr_O (xs_share O c p) m' r' n → xr_S r' n → (∀ a, (a < 22 ∨ 38 ≤ a) → m' a = m a) → (∀ a, a ≠ 40 + 2 * c → r' a = r a) → Q none n m' r') : xk_W E m_Task_shareAllOf 0 (xk_ent m_Task_shareAllOf [.inr (some (39 + 2 * c)), .inr (some (39 + 2 * p))]) [] n m r 0 0 Q := by
  show xk_W E m_Task_shareAllOf 0 [some (.inr (some (39 + 2 * c))), some (.inr (some (39 + 2 * p))), none, none] [] n m r 0 0 Q
  refine xk_iconst (pc := 0) (v := nI 0) d_Task_shareAllOf_0 (by decide) ?_
  refine xk_istore_n (pc := 1) d_Task_shareAllOf_1 (by decide) ?_
  exact l_share hn hc hp hcp h16 hch hQ 7 0 m r none (by omega) (by omega) (by rw [xs_shT_0]; exact hO) hS (fun _ _ => rfl) (fun _ _ => rfl)

theorem xr_A_T {s : xs_S} {m m' : xk_M} {r r' : xk_P} {n : Nat} {O' : xs_O} {T' : xs_T} (hA : xr_A s m r n) (hO' : xr_O O' m' r' n) (hT' : xr_T T' m') (hS' : xr_S r' n) (hm : ∀ a, a < 22 → m' a = m a) (hr : ∀ a, a < 22 → r' a = r a) : xr_A (s.1, s.2.1, O', T') m' r' n := by
  obtain ⟨hF, hP, hO, hT, hS, hn⟩ := hA
  exact ⟨xr_F_kept hF (fun a ha => hm a (by omega)) (hr 9 (by decide)), fun f hf => by rw [hm 20 (by omega)]; exact hP f hf, hO', hT', hS', hn⟩
theorem xr_T_fork {T : xs_T} {m m' : xk_M} {q p : Nat} (hT : xr_T T m) (hq2 : 2 ≤ q) (hm : ∀ a, 39 ≤ a → a < 53 → a ≠ 39 + 2 * q → m' a = m a) (h0 : m' (39 + 2 * q) 0 = nI 1) (h1 : m' (39 + 2 * q) 1 = nI p) : xr_T (xs_u T.1 q 1, xs_u T.2.1 q p, T.2.2) m' := by
  obtain ⟨t1, t2, t3, t4⟩ := hT
  refine ⟨fun a ha => ?_, fun a a2 a7 ax => ?_, by rw [hm 41 (by omega) (by omega) (by omega)]; exact t3, fun a ha ax => ?_⟩
  · show _ = nI (xs_u T.1 q 1 a)
    by_cases e : a = q
    · subst e; rw [xs_u_s]; exact h0
    · rw [xs_u_n e, hm _ (by omega) (by omega) (by omega)]; exact t1 a ha
  · show _ = nI (xs_u T.2.1 q p a)
    change xs_u T.1 q 1 a ≠ 0 at ax
    by_cases e : a = q
    · subst e; rw [xs_u_s]; exact h1
    · rw [xs_u_n e] at ax ⊢; rw [hm _ (by omega) (by omega) (by omega)]; exact t2 a a2 a7 ax
  · change xs_u T.1 q 1 a = 2 at ax
    by_cases e : a = q
    · subst e; rw [xs_u_s] at ax; cases ax
    · rw [xs_u_n e] at ax; rw [hm _ (by omega) (by omega) (by omega)]; exact t4 a ha ax

set_option maxRecDepth 20000 in
set_option maxHeartbeats 4000000 in
theorem c_K_fork {E : xk_E} {n : Nat} {m : xk_M} {r : xk_P} {Q : xk_Q} {x : Int32} {s : xs_S} (hA : xr_A s m r n) (hok : xs_ok s) (hsm : s.1.1.2.2.2.2.1 + 4 < 2 ^ 20) (hQ : ∀ n' m' r', n ≤ n' → n' ≤ n → xr_A (xs_fork s x).2 m' r' n' → xr_fr m m' r r' → Q (some (.inl (xs_fork s x).1)) n' m' r') : xk_W E m_K_fork 0 (xk_ent m_K_fork [.inr (some 1), .inl x]) [] n m r 0 0 Q := by
  show xk_W E m_K_fork 0 [some (.inr (some 1)), some (.inl x), none] [] n m r 0 0 Q
  obtain ⟨hF, hP, hO, hT, hS, hn⟩ := id hA
  obtain ⟨okF, okP, okO, okT⟩ := id hok
  refine xk_aload_n (pc := 0) d_K_fork_0 rfl ?_
  refine xk_iload_n (pc := 1) d_K_fork_1 rfl ?_
  refine xk_cV1 (pc := 2) d_K_fork_2 ml_K_75 cz_K_isAlive ⟨rfl, rfl⟩ rfl (by first | rfl | assumption) (by omega) (by omega) (Nat.le_of_ble_eq_true rfl) ⟨(Nat.le_of_ble_eq_true rfl), (Nat.le_of_ble_eq_true rfl)⟩ ?_
  refine c_K_isAlive hn hS hT okT (fun p ep hp hp1 ex et => ?_) (fun ep => ?_)
  · subst ex
    refine xk_if_ne (pc := 5) (tgt := 10) d_K_fork_5 rfl (fun _ => ?_) (fun h => absurd h (by decide))
    refine xk_aload_n (pc := 10) d_K_fork_10 rfl ?_
    refine xk_cV0 (pc := 11) d_K_fork_11 ml_K_157 cz_K_leastNotThere ⟨rfl, rfl⟩ rfl (by first | rfl | assumption) (by omega) (by omega) (Nat.le_of_ble_eq_true rfl) ⟨(Nat.le_of_ble_eq_true rfl), (Nat.le_of_ble_eq_true rfl)⟩ ?_
    refine c_K_leastNotThere hn hS hT okT (fun q eq hq1 hq7 => ?_) (fun eq => ?_)
    · have hkq := xr_kd_ta q hq7
      have hkp := xr_kd_ta p hp
      have hq0 : s.2.2.2.1 q = 0 := of_decide_eq_true (xs_least_sp eq).2.2.1
      have hqp : q ≠ p := fun w => by rw [w, et] at hq0; cases hq0
      have hq2 : 2 ≤ q := by
        have : q ≠ 1 := fun w => by rw [w, okT.2.1] at hq0; cases hq0
        omega
      refine xk_istore_n (pc := 14) d_K_fork_14 (by decide) ?_
      refine xk_iload_n (pc := 15) d_K_fork_15 rfl ?_
      refine xk_iconst (pc := 16) (v := (-1)) d_K_fork_16 (by decide) ?_
      first | refine xk_icmp_neN (pc := 17) (tgt := 23) d_K_fork_17 rfl (by omega) (by omega) (fun c_17 => ?_) (fun c_17 => ?_) | refine xk_icmp_ne (pc := 17) (tgt := 23) d_K_fork_17 rfl (fun c_17 => ?_) (fun c_17 => ?_)
      · refine xk_aload_n (pc := 23) d_K_fork_23 rfl ?_
        refine xk_getRo (pc := 24) d_K_fork_24 fl_K_44 (by first | rfl | assumption) rfl (by omega) (by omega) (hS _ _ _ rfl (by omega)) ?_
        refine xk_iload_n (pc := 27) d_K_fork_27 rfl ?_
        refine xk_aaloado (pc := 28) d_K_fork_28 (by first | rfl | assumption) (by decide) (by decide) (by omega) (by omega) rfl (by omega) (by decide) (hS _ _ _ (xr_st_ts _ hq7) (by omega)) ?_
        refine xk_iload_n (pc := 29) d_K_fork_29 rfl ?_
        refine xk_cV1 (pc := 30) d_K_fork_30 ml_K_49 cz_Task_begin ⟨rfl, rfl⟩ rfl (by first | rfl | assumption) (by omega) (by omega) (Nat.le_of_ble_eq_true rfl) ⟨(Nat.le_of_ble_eq_true rfl), (Nat.le_of_ble_eq_true rfl)⟩ ?_
        refine c_Task_begin hn hS hq7 ?_
        have hO1 : xr_O s.2.2.1 (xk_up (xk_up m (39 + 2 * q) 0 (nI 1)) (39 + 2 * q) 1 (nI p)) r n := xr_O_kept hO (Nat.le_refl _) (fun a _ _ => by funext k; rw [xk_up_a (by omega), xk_up_a (by omega)]) (fun a _ _ => by funext k; rw [xk_up_a (by omega), xk_up_a (by omega)]) (fun _ _ _ => rfl)
        refine xk_aload_n (pc := 33) d_K_fork_33 rfl ?_
        refine xk_getRo (pc := 34) d_K_fork_34 fl_K_44 (by first | rfl | assumption) rfl (by omega) (by omega) (hS _ _ _ rfl (by omega)) ?_
        refine xk_iload_n (pc := 37) d_K_fork_37 rfl ?_
        refine xk_aaloado (pc := 38) d_K_fork_38 (by first | rfl | assumption) (by decide) (by decide) (by omega) (by omega) rfl (by omega) (by decide) (hS _ _ _ (xr_st_ts _ hq7) (by omega)) ?_
        refine xk_aload_n (pc := 39) d_K_fork_39 rfl ?_
        refine xk_getRo (pc := 40) d_K_fork_40 fl_K_44 (by first | rfl | assumption) rfl (by omega) (by omega) (hS _ _ _ rfl (by omega)) ?_
        refine xk_iload_n (pc := 43) d_K_fork_43 rfl ?_
        refine xk_aaloado (pc := 44) d_K_fork_44 (by first | rfl | assumption) (by decide) (by decide) (by omega) (by omega) rfl (by omega) (by decide) (hS _ _ _ (xr_st_ts _ hp) (by omega)) ?_
        refine xk_cV1 (pc := 45) d_K_fork_45 ml_K_160 cz_Task_shareAllOf ⟨rfl, rfl⟩ rfl (by first | rfl | assumption) (by omega) (by omega) (Nat.le_of_ble_eq_true rfl) ⟨(Nat.le_of_ble_eq_true rfl), (Nat.le_of_ble_eq_true rfl)⟩ ?_
        refine c_Task_shareAllOf hn hS hq7 hp hqp hO1 okO.1 (fun d hd => okO.2.1 q d hq7 hd (by omega)) (fun m2 r2 hO2 hS2 hm2 hr2 => ?_)
        refine xk_iload_n (pc := 48) d_K_fork_48 rfl ?_
        refine xk_iret (pc := 49) rfl d_K_fork_49 rfl (Nat.le_of_ble_eq_true rfl) (Nat.le_of_ble_eq_true rfl) ?_
        have e : xs_fork s (nI p) = (nI q, (s.1, s.2.1, xs_share s.2.2.1 q p, xs_u s.2.2.2.1 q 1, xs_u s.2.2.2.2.1 q p, s.2.2.2.2.2)) := by unfold xs_fork; rw [ep, eq]
        have hfr : ∀ a, (a < 22 ∨ 38 ≤ a) → a ≠ 39 + 2 * q → m2 a = m a := fun a ha hb => by
          rw [hm2 a ha]
          funext k
          rw [xk_up_a hb, xk_up_a hb]
        refine xq_t e (xr_A_T hA hO2 (xr_T_fork hT hq2 (fun a h1 h2 h3 => hfr a (by omega) h3) ?_ ?_) hS2 (fun a ha => hfr a (by omega) (by omega)) (fun a ha => hr2 a (by omega))) (fun a h1 h2 => ⟨hfr a (by omega) (by omega), hr2 a (by omega)⟩) hQ
        · rw [hm2 _ (by omega), xk_up_k (by decide), xk_up_s]
        · rw [hm2 _ (by omega), xk_up_s]
      · exact absurd c_17 (xs_nm1 (by omega))
    · refine xk_istore_n (pc := 14) d_K_fork_14 (by decide) ?_
      refine xk_iload_n (pc := 15) d_K_fork_15 rfl ?_
      refine xk_iconst (pc := 16) (v := (-1)) d_K_fork_16 (by decide) ?_
      refine xk_icmp_ne (pc := 17) (tgt := 23) d_K_fork_17 rfl (fun h => absurd (by decide) h) (fun _ => ?_)
      refine xk_bipush (pc := 20) (v := (-2)) d_K_fork_20 (by decide) ?_
      refine xk_iret (pc := 22) rfl d_K_fork_22 rfl (Nat.le_of_ble_eq_true rfl) (Nat.le_of_ble_eq_true rfl) ?_
      have e : xs_fork s (nI p) = (-2, s) := by unfold xs_fork; rw [ep, eq]
      exact xq_s e hA hQ
  · refine xk_if_ne (pc := 5) (tgt := 10) d_K_fork_5 rfl (fun h => absurd (by decide) h) (fun _ => ?_)
    refine xk_iconst (pc := 8) (v := (-1)) d_K_fork_8 (by decide) ?_
    refine xk_iret (pc := 9) rfl d_K_fork_9 rfl (Nat.le_of_ble_eq_true rfl) (Nat.le_of_ble_eq_true rfl) ?_
    exact xq_s (show xs_fork s x = (-1, s) by unfold xs_fork; rw [ep]) hA hQ

def xs_par (T : xs_T) (p i : Nat) : xs_T := (T.1, (fun q => if 2 ≤ q ∧ q < i ∧ T.1 q ≠ 0 ∧ T.2.1 q = p then 1 else T.2.1 q), T.2.2)
theorem xr_T_par0 {T : xs_T} {m : xk_M} {p : Nat} (h : xr_T T m) : xr_T (xs_par T p 1) m := by
  obtain ⟨t1, t2, t3, t4⟩ := h
  refine ⟨t1, fun a a2 a7 ax => ?_, t3, t4⟩
  show _ = nI (if 2 ≤ a ∧ a < 1 ∧ _ then 1 else T.2.1 a)
  rw [if_neg (by omega)]
  exact t2 a a2 a7 ax
theorem xr_T_par_n {T : xs_T} {m : xk_M} {p i : Nat} (h : xr_T (xs_par T p i) m) (hn : i < 2 ∨ T.1 i = 0 ∨ ¬ T.2.1 i = p) : xr_T (xs_par T p (i + 1)) m := by
  obtain ⟨t1, t2, t3, t4⟩ := h
  refine ⟨t1, fun a a2 a7 ax => ?_, t3, t4⟩
  rw [t2 a a2 a7 ax]
  show nI (if 2 ≤ a ∧ a < i ∧ T.1 a ≠ 0 ∧ T.2.1 a = p then 1 else T.2.1 a) = nI (if 2 ≤ a ∧ a < i + 1 ∧ T.1 a ≠ 0 ∧ T.2.1 a = p then 1 else T.2.1 a)
  by_cases e : a = i
  · subst e
    rw [if_neg (by omega), if_neg (fun z => by
      rcases hn with w | w | w
      · omega
      · exact z.2.2.1 w
      · exact w z.2.2.2)]
  · congr 1
    by_cases c : 2 ≤ a ∧ a < i ∧ T.1 a ≠ 0 ∧ T.2.1 a = p
    · rw [if_pos c, if_pos ⟨c.1, by omega, c.2.2⟩]
    · rw [if_neg c, if_neg (fun z => c ⟨z.1, by omega, z.2.2⟩)]
theorem xr_T_par_y {T : xs_T} {m : xk_M} {p i : Nat} (h : xr_T (xs_par T p i) m) (h2 : 2 ≤ i) (hi0 : T.1 i ≠ 0) (hip : T.2.1 i = p) : xr_T (xs_par T p (i + 1)) (xk_up m (39 + 2 * i) 1 (nI 1)) := by
  obtain ⟨t1, t2, t3, t4⟩ := h
  refine ⟨fun a ha => by rw [xk_up_k (by decide)]; exact t1 a ha, fun a a2 a7 ax => ?_, by rw [xk_up_a (by omega)]; exact t3, fun a ha ax => by rw [xk_up_k (by decide)]; exact t4 a ha ax⟩
  show _ = nI (if 2 ≤ a ∧ a < i + 1 ∧ T.1 a ≠ 0 ∧ T.2.1 a = p then 1 else T.2.1 a)
  by_cases e : a = i
  · subst e
    rw [xk_up_s, if_pos ⟨h2, by omega, hi0, hip⟩]
  · rw [xk_up_a (by omega), t2 a a2 a7 ax]
    show nI (if 2 ≤ a ∧ a < i ∧ T.1 a ≠ 0 ∧ T.2.1 a = p then 1 else T.2.1 a) = _
    congr 1
    by_cases c : 2 ≤ a ∧ a < i ∧ T.1 a ≠ 0 ∧ T.2.1 a = p
    · rw [if_pos c, if_pos ⟨c.1, by omega, c.2.2⟩]
    · rw [if_neg c, if_neg (fun z => c ⟨z.1, by omega, z.2.2⟩)]
theorem xr_T_fin {T : xs_T} {m m' : xk_M} {p c : Nat} (hT : xr_T T m) (hp2 : 2 ≤ p) (hp7 : p < 7) (hal : T.1 p = 1) (hm : ∀ a, 39 ≤ a → a < 53 → a ≠ 39 + 2 * p → m' a = m a) (hk : ∀ k, m' (39 + 2 * p) k = if k = 0 then nI 2 else if k = 2 then nI c else m (39 + 2 * p) k) : xr_T (xs_u T.1 p 2, T.2.1, xs_u T.2.2 p c) m' := by
  obtain ⟨t1, t2, t3, t4⟩ := hT
  refine ⟨fun a ha => ?_, fun a a2 a7 ax => ?_, by rw [hm 41 (by omega) (by omega) (by omega)]; exact t3, fun a ha ax => ?_⟩
  · show _ = nI (xs_u T.1 p 2 a)
    by_cases e : a = p
    · subst e; rw [xs_u_s, hk, if_pos rfl]
    · rw [xs_u_n e, hm _ (by omega) (by omega) (by omega)]; exact t1 a ha
  · show _ = nI (T.2.1 a)
    by_cases e : a = p
    · subst e; rw [hk, if_neg (by decide), if_neg (by decide)]; exact t2 a a2 a7 (by omega)
    · change xs_u T.1 p 2 a ≠ 0 at ax
      rw [xs_u_n e] at ax
      rw [hm _ (by omega) (by omega) (by omega)]; exact t2 a a2 a7 ax
  · show _ = nI (xs_u T.2.2 p c a)
    by_cases e : a = p
    · subst e; rw [xs_u_s, hk, if_neg (by decide), if_pos rfl]
    · change xs_u T.1 p 2 a = 2 at ax
      rw [xs_u_n e] at ax ⊢
      rw [hm _ (by omega) (by omega) (by omega)]; exact t4 a ha ax

set_option maxRecDepth 20000 in
set_option maxHeartbeats 4000000 in
theorem l_exit {E : xk_E} {n : Nat} {Q : xk_Q} {r : xk_P} {m0 : xk_M} {T : xs_T} {O : xs_O} {p : Nat} {v2 : Option xk_V} (hn : 74 ≤ n) (hS : xr_S r n) (hp : p < 7) (hp1 : 1 ≤ p) (hle : ∀ q, q < 7 → T.1 q ≤ 2) (hpar : ∀ q, 2 ≤ q → q < 7 → T.1 q ≠ 0 → T.2.1 q < 7) (hQ : ∀ m', xr_O O m' r n → xr_T (xs_par T p 7) m' → (∀ a, a < 39 ∨ 53 ≤ a → m' a = m0 a) → Q (some (.inl (nI 0))) n m' r) : ∀ (k : Nat) (i : Nat) (m : xk_M), 7 - i < k → 1 ≤ i → i ≤ 7 → xr_O O m r n → xr_T (xs_par T p i) m → (∀ a, a < 39 ∨ 53 ≤ a → m a = m0 a) → xk_W E m_K_exit 36 [some (.inr (some 1)), some (.inl (nI p)), v2, some (.inl (nI i))] [] n m r 0 0 Q := by
  intro k
  induction k with
  | zero => intro i m h; exact absurd h (Nat.not_lt_zero _)
  | succ k ih =>
    intro i m hk hi1 hi hO hT hm
    refine xk_iload_n (pc := 36) d_K_exit_36 rfl ?_
    refine xk_bipush (pc := 37) (v := nI 6) d_K_exit_37 (by decide) ?_
    first | refine xk_icmp_gtN (pc := 39) (tgt := 71) d_K_exit_39 rfl (by omega) (by omega) (fun c_39 => ?_) (fun c_39 => ?_) | refine xk_icmp_gt (pc := 39) (tgt := 71) d_K_exit_39 rfl (fun c_39 => ?_) (fun c_39 => ?_)
    · have e : i = 7 := by omega
      subst e
      refine xk_iconst (pc := 71) (v := nI 0) d_K_exit_71 (by decide) ?_
      refine xk_iret (pc := 72) rfl d_K_exit_72 rfl (Nat.le_of_ble_eq_true rfl) (Nat.le_of_ble_eq_true rfl) ?_
      exact hQ m hO hT hm
    · have hi7 : i < 7 := by omega
      have hki := xr_kd_ta i hi7
      have hsi := hle i hi7
      refine xk_aload_n (pc := 42) d_K_exit_42 rfl ?_
      refine xk_getRo (pc := 43) d_K_exit_43 fl_K_44 (by first | rfl | assumption) rfl (by omega) (by omega) (hS _ _ _ rfl (by omega)) ?_
      refine xk_iload_n (pc := 46) d_K_exit_46 rfl ?_
      refine xk_aaloado (pc := 47) d_K_exit_47 (by first | rfl | assumption) (by decide) (by decide) (by omega) (by omega) rfl (by omega) (by decide) (hS _ _ _ (xr_st_ts _ hi7) (by omega)) ?_
      refine xk_iload_n (pc := 48) d_K_exit_48 rfl ?_
      refine xk_cV1 (pc := 49) d_K_exit_49 ml_K_167 cz_Task_isChildOf ⟨rfl, rfl⟩ rfl (by first | rfl | assumption) (by omega) (by omega) (Nat.le_of_ble_eq_true rfl) ⟨(Nat.le_of_ble_eq_true rfl), (Nat.le_of_ble_eq_true rfl)⟩ ?_
      refine c_Task_isChildOf hn hS hi7 (hT.1 i hi7) (by show T.1 i < 2 ^ 30; omega) rfl (fun e1 e2 => ?_) (fun e => ?_)
      · have e1' : T.1 i ≠ 0 := e1
        have hi2 : 2 ≤ i := by
          have : i ≠ 1 := fun w => by
            subst w
            have h41 : m (39 + 2 * 1) 1 = -1 := hT.2.2.1
            rw [h41] at e2
            exact xs_nm1 (by omega) e2.symm
          omega
        have hpi : T.2.1 i = p := by
          have h5 := hT.2.1 i hi2 hi7 e1
          rw [h5] at e2
          have h6 : nI (if 2 ≤ i ∧ i < i ∧ T.1 i ≠ 0 ∧ T.2.1 i = p then 1 else T.2.1 i) = nI p := e2
          rw [if_neg (by omega)] at h6
          exact (nI_eq (by have := hpar i hi2 hi7 e1'; omega) (by omega)).mp h6
        refine xk_if_eq (pc := 52) (tgt := 65) d_K_exit_52 rfl (fun h => absurd h (by decide)) (fun _ => ?_)
        refine xk_aload_n (pc := 55) d_K_exit_55 rfl ?_
        refine xk_getRo (pc := 56) d_K_exit_56 fl_K_44 (by first | rfl | assumption) rfl (by omega) (by omega) (hS _ _ _ rfl (by omega)) ?_
        refine xk_iload_n (pc := 59) d_K_exit_59 rfl ?_
        refine xk_aaloado (pc := 60) d_K_exit_60 (by first | rfl | assumption) (by decide) (by decide) (by omega) (by omega) rfl (by omega) (by decide) (hS _ _ _ (xr_st_ts _ hi7) (by omega)) ?_
        refine xk_iconst (pc := 61) (v := nI 1) d_K_exit_61 (by decide) ?_
        refine xk_putI (pc := 62) d_K_exit_62 fl_K_170 (by first | rfl | assumption) rfl (fun q hq h => by cases hq; first | exact absurd h (by decide) | exact ⟨rfl, rfl, rfl⟩) ⟨rfl, rfl⟩ (by omega) (by omega) ?_
        refine xk_iincN (pc := 65) (d := 1) d_K_exit_65 rfl ?_
        refine xk_goto (pc := 68) (tgt := 36) d_K_exit_68 rfl ?_
        first
          | exact ih (i + 1) _ (by omega) (by omega) (by omega) (xr_O_kept hO (Nat.le_refl _) (fun a _ _ => by funext k; exact xk_up_a (by omega)) (fun a _ _ => by funext k; exact xk_up_a (by omega)) (fun _ _ _ => rfl)) (xr_T_par_y hT hi2 e1' hpi) (fun a ha => by rw [← hm a ha]; funext k; exact xk_up_a (by omega))
          | exact ih (i + 1) m (by omega) (by omega) (by omega) hO (xr_T_par_n hT hno) hm
      · have hno : i < 2 ∨ T.1 i = 0 ∨ ¬ T.2.1 i = p := by
          by_cases h2 : i < 2
          · exact Or.inl h2
          · rcases e with e | e
            · exact Or.inr (Or.inl e)
            · by_cases h3 : T.1 i = 0
              · exact Or.inr (Or.inl h3)
              · refine Or.inr (Or.inr (fun w => e ?_))
                have h5 := hT.2.1 i (by omega) hi7 h3
                rw [h5]
                show nI (if 2 ≤ i ∧ i < i ∧ T.1 i ≠ 0 ∧ T.2.1 i = p then 1 else T.2.1 i) = nI p
                rw [if_neg (by omega), w]
        refine xk_if_eq (pc := 52) (tgt := 65) d_K_exit_52 rfl (fun _ => ?_) (fun h => absurd (by decide) h)
        refine xk_iincN (pc := 65) (d := 1) d_K_exit_65 rfl ?_
        refine xk_goto (pc := 68) (tgt := 36) d_K_exit_68 rfl ?_
        first
          | exact ih (i + 1) _ (by omega) (by omega) (by omega) (xr_O_kept hO (Nat.le_refl _) (fun a _ _ => by funext k; exact xk_up_a (by omega)) (fun a _ _ => by funext k; exact xk_up_a (by omega)) (fun _ _ _ => rfl)) (xr_T_par_y hT hi2 e1' hpi) (fun a ha => by rw [← hm a ha]; funext k; exact xk_up_a (by omega))
          | exact ih (i + 1) m (by omega) (by omega) (by omega) hO (xr_T_par_n hT hno) hm

theorem xr_T_congr {T T' : xs_T} {m : xk_M} (h : xr_T T m) (he : ∀ q, q < 7 → T'.1 q = T.1 q ∧ T'.2.1 q = T.2.1 q ∧ T'.2.2 q = T.2.2 q) : xr_T T' m := by
  obtain ⟨t1, t2, t3, t4⟩ := h
  exact ⟨fun a ha => by rw [(he a ha).1]; exact t1 a ha, fun a a2 a7 ax => by rw [(he a a7).2.1]; rw [(he a a7).1] at ax; exact t2 a a2 a7 ax, t3, fun a ha ax => by rw [(he a ha).2.2]; rw [(he a ha).1] at ax; exact t4 a ha ax⟩
theorem xs_exit_1 {s : xs_S} {a b : Int32} (h : xs_alive s.2.2.2 a = none ∨ xs_nat b 100 = none ∨ xs_alive s.2.2.2 a = some 1) : xs_exit s a b = (-1, s) := by
  unfold xs_exit
  rcases h with h | h | h
  · rw [h]
  · rw [h]; cases xs_alive s.2.2.2 a <;> rfl
  · rw [h]
    cases xs_nat b 100 with
    | none => rfl
    | some c => rfl

set_option maxRecDepth 20000 in
set_option maxHeartbeats 4000000 in
theorem c_K_exit {E : xk_E} {n : Nat} {m : xk_M} {r : xk_P} {Q : xk_Q} {x y : Int32} {s : xs_S} (hA : xr_A s m r n) (hok : xs_ok s) (hsm : s.1.1.2.2.2.2.1 + 4 < 2 ^ 20) (hQ : ∀ n' m' r', n ≤ n' → n' ≤ n → xr_A (xs_exit s x y).2 m' r' n' → xr_fr m m' r r' → Q (some (.inl (xs_exit s x y).1)) n' m' r') : xk_W E m_K_exit 0 (xk_ent m_K_exit [.inr (some 1), .inl x, .inl y]) [] n m r 0 0 Q := by
  show xk_W E m_K_exit 0 [some (.inr (some 1)), some (.inl x), some (.inl y), none] [] n m r 0 0 Q
  obtain ⟨hF, hP, hO, hT, hS, hn⟩ := id hA
  obtain ⟨okF, okP, okO, okT⟩ := id hok
  refine xk_aload_n (pc := 0) d_K_exit_0 rfl ?_
  refine xk_iload_n (pc := 1) d_K_exit_1 rfl ?_
  refine xk_cV1 (pc := 2) d_K_exit_2 ml_K_75 cz_K_isAlive ⟨rfl, rfl⟩ rfl (by first | rfl | assumption) (by omega) (by omega) (Nat.le_of_ble_eq_true rfl) ⟨(Nat.le_of_ble_eq_true rfl), (Nat.le_of_ble_eq_true rfl)⟩ ?_
  refine c_K_isAlive hn hS hT okT (fun p ep hp hp1 ex et => ?_) (fun ep => ?_)
  · subst ex
    refine xk_if_eq (pc := 5) (tgt := 22) d_K_exit_5 rfl (fun h => absurd h (by decide)) (fun _ => ?_)
    refine xk_iload_n (pc := 8) d_K_exit_8 rfl ?_
    refine xk_iconst (pc := 9) (v := nI 1) d_K_exit_9 (by decide) ?_
    first | refine xk_icmp_eqN (pc := 10) (tgt := 22) d_K_exit_10 rfl (by omega) (by omega) (fun c_10 => ?_) (fun c_10 => ?_) | refine xk_icmp_eq (pc := 10) (tgt := 22) d_K_exit_10 rfl (fun c_10 => ?_) (fun c_10 => ?_)
    · refine xk_iconst (pc := 22) (v := (-1)) d_K_exit_22 (by decide) ?_
      refine xk_iret (pc := 23) rfl d_K_exit_23 rfl (Nat.le_of_ble_eq_true rfl) (Nat.le_of_ble_eq_true rfl) ?_
      first
        | exact xq_s (xs_exit_1 (Or.inr (Or.inl enc))) hA hQ
        | exact xq_s (xs_exit_1 (Or.inr (Or.inr (by rw [ep, c_10])))) hA hQ
        | exact xq_s (xs_exit_1 (Or.inl ep)) hA hQ
    · refine xk_iload_n (pc := 13) d_K_exit_13 rfl ?_
      refine xk_bipush (pc := 14) (v := nI 100) d_K_exit_14 (by decide) ?_
      refine xk_cS2 (pc := 16) d_K_exit_16 ml_K_53 cz_K_isBelow ⟨rfl, rfl⟩ rfl (Nat.le_of_ble_eq_true rfl) ⟨(Nat.le_of_ble_eq_true rfl), (Nat.le_of_ble_eq_true rfl)⟩ ?_
      refine c_K_isBelow (by decide) (fun c hc ec enc => ?_) (fun enc => ?_)
      · subst ec
        refine xk_if_ne (pc := 19) (tgt := 24) d_K_exit_19 rfl (fun _ => ?_) (fun h => absurd h (by decide))
        have hkp := xr_kd_ta p hp
        refine xk_aload_n (pc := 24) d_K_exit_24 rfl ?_
        refine xk_getRo (pc := 25) d_K_exit_25 fl_K_44 (by first | rfl | assumption) rfl (by omega) (by omega) (hS _ _ _ rfl (by omega)) ?_
        refine xk_iload_n (pc := 28) d_K_exit_28 rfl ?_
        refine xk_aaloado (pc := 29) d_K_exit_29 (by first | rfl | assumption) (by decide) (by decide) (by omega) (by omega) rfl (by omega) (by decide) (hS _ _ _ (xr_st_ts _ hp) (by omega)) ?_
        refine xk_iload_n (pc := 30) d_K_exit_30 rfl ?_
        refine xk_cV1 (pc := 31) d_K_exit_31 ml_K_164 cz_Task_finish ⟨rfl, rfl⟩ rfl (by first | rfl | assumption) (by omega) (by omega) (Nat.le_of_ble_eq_true rfl) ⟨(Nat.le_of_ble_eq_true rfl), (Nat.le_of_ble_eq_true rfl)⟩ ?_
        refine c_Task_finish hn hS hp (x := nI c) hO (xs_okO_U okO) okO.1 (fun m1 r1 hO1 hS1 hm1 hk1 hr1 => ?_)
        refine xk_iconst (pc := 34) (v := nI 1) d_K_exit_34 (by decide) ?_
        refine xk_istore_n (pc := 35) d_K_exit_35 (by decide) ?_
        have e : xs_exit s (nI p) (nI c) = (nI 0, (s.1, s.2.1, xs_bare s.2.2.1 p, xs_u s.2.2.2.1 p 2, (fun q => if 2 ≤ q ∧ s.2.2.2.1 q ≠ 0 ∧ s.2.2.2.2.1 q = p then 1 else s.2.2.2.2.1 q), xs_u s.2.2.2.2.2 p c)) := by
          unfold xs_exit
          rw [ep, enc]
          exact (if_neg c_10).trans rfl
        have hT1 : xr_T (xs_u s.2.2.2.1 p 2, s.2.2.2.2.1, xs_u s.2.2.2.2.2 p c) m1 := xr_T_fin hT (by omega) hp et (fun a h1 h2 h3 => hm1 a (by omega) h3) hk1
        refine l_exit (O := xs_bare s.2.2.1 p) (m0 := m1) hn hS1 hp hp1 (fun q hq => ?_) (fun q q2 q7 qx => ?_) (fun m2 hO2 hT2 hm2 => ?_) 7 1 m1 (by omega) (by omega) (by omega) hO1 (xr_T_par0 hT1) (fun _ _ => rfl)
        · show xs_u s.2.2.2.1 p 2 q ≤ 2
          by_cases w : q = p
          · subst w; rw [xs_u_s]; exact Nat.le_refl _
          · rw [xs_u_n w]; exact okT.2.2.1 q hq
        · change xs_u s.2.2.2.1 p 2 q ≠ 0 at qx
          show s.2.2.2.2.1 q < 7
          by_cases w : q = p
          · subst w; exact okT.2.2.2.1 q q2 q7 (by omega)
          · rw [xs_u_n w] at qx; exact okT.2.2.2.1 q q2 q7 qx
        · refine xq_t e (xr_A_T hA hO2 (xr_T_congr hT2 (fun q hq => ⟨rfl, ?_, rfl⟩)) hS1 (fun a ha => (hm2 a (by omega)).trans (hm1 a (by omega) (by omega))) (fun a ha => hr1 a (by omega))) (fun a h1 h2 => ⟨(hm2 a (by omega)).trans (hm1 a (by omega) (by omega)), hr1 a (by omega)⟩) hQ
          show (if 2 ≤ q ∧ s.2.2.2.1 q ≠ 0 ∧ s.2.2.2.2.1 q = p then 1 else s.2.2.2.2.1 q) = if 2 ≤ q ∧ q < 7 ∧ xs_u s.2.2.2.1 p 2 q ≠ 0 ∧ s.2.2.2.2.1 q = p then 1 else s.2.2.2.2.1 q
          have hz : s.2.2.2.1 q ≠ 0 ↔ xs_u s.2.2.2.1 p 2 q ≠ 0 := by
            by_cases w : q = p
            · subst w; rw [xs_u_s, et]; exact ⟨fun _ => by decide, fun _ => by decide⟩
            · rw [xs_u_n w]
          by_cases cc : 2 ≤ q ∧ s.2.2.2.1 q ≠ 0 ∧ s.2.2.2.2.1 q = p
          · rw [if_pos cc, if_pos ⟨cc.1, hq, hz.mp cc.2.1, cc.2.2⟩]
          · rw [if_neg cc, if_neg (fun w => cc ⟨w.1, hz.mpr w.2.2.1, w.2.2.2⟩)]
      · refine xk_if_ne (pc := 19) (tgt := 24) d_K_exit_19 rfl (fun h => absurd (by decide) h) (fun _ => ?_)
        refine xk_iconst (pc := 22) (v := (-1)) d_K_exit_22 (by decide) ?_
        refine xk_iret (pc := 23) rfl d_K_exit_23 rfl (Nat.le_of_ble_eq_true rfl) (Nat.le_of_ble_eq_true rfl) ?_
        first
          | exact xq_s (xs_exit_1 (Or.inr (Or.inl enc))) hA hQ
          | exact xq_s (xs_exit_1 (Or.inr (Or.inr (by rw [ep, c_10])))) hA hQ
          | exact xq_s (xs_exit_1 (Or.inl ep)) hA hQ
  · refine xk_if_eq (pc := 5) (tgt := 22) d_K_exit_5 rfl (fun _ => ?_) (fun h => absurd (by decide) h)
    refine xk_iconst (pc := 22) (v := (-1)) d_K_exit_22 (by decide) ?_
    refine xk_iret (pc := 23) rfl d_K_exit_23 rfl (Nat.le_of_ble_eq_true rfl) (Nat.le_of_ble_eq_true rfl) ?_
    first
      | exact xq_s (xs_exit_1 (Or.inr (Or.inl enc))) hA hQ
      | exact xq_s (xs_exit_1 (Or.inr (Or.inr (by rw [ep, c_10])))) hA hQ
      | exact xq_s (xs_exit_1 (Or.inl ep)) hA hQ

theorem xs_bare_e {O : xs_O} {p : Nat} (h : ∀ d, d < 6 → O.1 (6 * p + d) = none) : xs_bare O p = O := by
  have : (fun k => if 6 * p ≤ k ∧ k < 6 * p + 6 then none else O.1 k) = O.1 := by
    funext k
    by_cases c : 6 * p ≤ k ∧ k < 6 * p + 6
    · rw [if_pos c, ← h (k - 6 * p) (by omega), show 6 * p + (k - 6 * p) = k by omega]
    · rw [if_neg c]
  exact congrArg (fun z => ((z, O.2) : xs_O)) this
theorem xr_child {T : xs_T} {m : xk_M} {i p : Nat} {x : Int32} (hT : xr_T T m) (hok : xs_okT T) (hi : i < 7) (hi1 : 1 ≤ i) (hp : p < 7) (hx : m (39 + 2 * i) 1 = x) : (T.1 i ≠ 0 ∧ x = nI p) ↔ (2 ≤ i ∧ T.1 i ≠ 0 ∧ T.2.1 i = p) := by
  subst hx
  constructor
  · rintro ⟨h1, h2⟩
    have hi2 : 2 ≤ i := by
      have : i ≠ 1 := fun w => by
        subst w
        have h41 : m (39 + 2 * 1) 1 = -1 := hT.2.2.1
        rw [h41] at h2
        exact xs_nm1 (by omega) h2.symm
      omega
    refine ⟨hi2, h1, ?_⟩
    rw [hT.2.1 i hi2 hi h1] at h2
    exact (nI_eq (by have := hok.2.2.2.1 i hi2 hi h1; omega) (by omega)).mp h2
  · rintro ⟨h1, h2, h3⟩
    exact ⟨h2, by rw [hT.2.1 i h1 hi h2, h3]⟩
theorem xr_T_gone {T : xs_T} {m m' : xk_M} {q : Nat} (hT : xr_T T m) (hq2 : 2 ≤ q) (hm : ∀ a, 39 ≤ a → a < 53 → a ≠ 39 + 2 * q → m' a = m a) (hk : ∀ k, m' (39 + 2 * q) k = if k = 0 then nI 0 else m (39 + 2 * q) k) : xr_T (xs_u T.1 q 0, T.2.1, T.2.2) m' := by
  obtain ⟨t1, t2, t3, t4⟩ := hT
  refine ⟨fun a ha => ?_, fun a a2 a7 ax => ?_, by rw [hm 41 (by omega) (by omega) (by omega)]; exact t3, fun a ha ax => ?_⟩
  · show _ = nI (xs_u T.1 q 0 a)
    by_cases e : a = q
    · subst e; rw [xs_u_s, hk, if_pos rfl]
    · rw [xs_u_n e, hm _ (by omega) (by omega) (by omega)]; exact t1 a ha
  · change xs_u T.1 q 0 a ≠ 0 at ax
    by_cases e : a = q
    · subst e; rw [xs_u_s] at ax; exact absurd rfl ax
    · rw [xs_u_n e] at ax; rw [hm _ (by omega) (by omega) (by omega)]; exact t2 a a2 a7 ax
  · change xs_u T.1 q 0 a = 2 at ax
    by_cases e : a = q
    · subst e; rw [xs_u_s] at ax; cases ax
    · rw [xs_u_n e] at ax; rw [hm _ (by omega) (by omega) (by omega)]; exact t4 a ha ax
theorem xs_wait_c {s : xs_S} {x : Int32} {p q : Nat} (h : xs_alive s.2.2.2 x = some p) (h2 : xs_least (fun q => decide (s.2.2.2.1 q = 2 ∧ s.2.2.2.2.1 q = p)) 2 5 = some q) : xs_wait s x = (nI (q + 8 * s.2.2.2.2.2 q), (s.1, s.2.1, s.2.2.1, xs_u s.2.2.2.1 q 0, s.2.2.2.2)) := by
  unfold xs_wait
  rw [h]
  dsimp only
  rw [h2]
theorem xs_wait_a {s : xs_S} {x : Int32} {p q : Nat} (h : xs_alive s.2.2.2 x = some p) (h2 : xs_least (fun q => decide (s.2.2.2.1 q = 2 ∧ s.2.2.2.2.1 q = p)) 2 5 = none) (h3 : xs_least (fun q => decide (s.2.2.2.1 q ≠ 0 ∧ s.2.2.2.2.1 q = p)) 2 5 = some q) : xs_wait s x = (-6, s) := by
  unfold xs_wait
  rw [h]
  dsimp only
  rw [h2]
  dsimp only
  rw [h3]
theorem xs_wait_b {s : xs_S} {x : Int32} {p : Nat} (h : xs_alive s.2.2.2 x = some p) (h2 : xs_least (fun q => decide (s.2.2.2.1 q = 2 ∧ s.2.2.2.2.1 q = p)) 2 5 = none) (h3 : xs_least (fun q => decide (s.2.2.2.1 q ≠ 0 ∧ s.2.2.2.2.1 q = p)) 2 5 = none) : xs_wait s x = (-9, s) := by
  unfold xs_wait
  rw [h]
  dsimp only
  rw [h2]
  dsimp only
  rw [h3]
theorem xs_lsm {p : Nat → Bool} {i k t : Nat} (h1 : i ≤ t) (h2 : t < i + k) (h3 : p t = true) : ∃ q, xs_least p i k = some q := by
  cases h : xs_least p i k with
  | none => rw [xs_least_np h t h1 h2] at h3; cases h3
  | some q => exact ⟨q, rfl⟩

set_option maxRecDepth 20000 in
set_option maxHeartbeats 4000000 in
theorem l_wait {E : xk_E} {n : Nat} {Q : xk_Q} {m : xk_M} {r : xk_P} {s : xs_S} {p : Nat} (hA : xr_A s m r n) (hok : xs_ok s) (ep : xs_alive s.2.2.2 (nI p) = some p) (hp : p < 7) (hQ : ∀ n' m' r', n ≤ n' → n' ≤ n → xr_A (xs_wait s (nI p)).2 m' r' n' → xr_fr m m' r r' → Q (some (.inl (xs_wait s (nI p)).1)) n' m' r') : ∀ (k : Nat) (i : Nat) (hc : Bool) (v4 : Option xk_V), 7 - i < k → 1 ≤ i → i ≤ 7 → (∀ q, 2 ≤ q → q < i → ¬ (s.2.2.2.1 q = 2 ∧ s.2.2.2.2.1 q = p)) → (hc = true → ∃ q, 2 ≤ q ∧ q < i ∧ s.2.2.2.1 q ≠ 0 ∧ s.2.2.2.2.1 q = p) → (hc = false → ∀ q, 2 ≤ q → q < i → ¬ (s.2.2.2.1 q ≠ 0 ∧ s.2.2.2.2.1 q = p)) → xk_W E m_K_wait 14 [some (.inr (some 1)), some (.inl (nI p)), some (.inl (xs_bi hc)), some (.inl (nI i)), v4] [] n m r 0 0 Q := by
  intro k
  induction k with
  | zero => intro i hc v4 h; exact absurd h (Nat.not_lt_zero _)
  | succ k ih =>
    intro i hc v4 hk hi1 hi hne hct hcf
    obtain ⟨hF, hP, hO, hT, hS, hn⟩ := id hA
    obtain ⟨okF, okP, okO, okT⟩ := id hok
    refine xk_iload_n (pc := 14) d_K_wait_14 rfl ?_
    refine xk_bipush (pc := 15) (v := nI 6) d_K_wait_15 (by decide) ?_
    first | refine xk_icmp_gtN (pc := 17) (tgt := 70) d_K_wait_17 rfl (by omega) (by omega) (fun c_17 => ?_) (fun c_17 => ?_) | refine xk_icmp_gt (pc := 17) (tgt := 70) d_K_wait_17 rfl (fun c_17 => ?_) (fun c_17 => ?_)
    · have e7 : i = 7 := by omega
      subst e7
      have hl2 := xs_least_n (p := fun q => decide (s.2.2.2.1 q = 2 ∧ s.2.2.2.2.1 q = p)) (i := 2) (k := 5) (fun j a b => decide_eq_false (hne j a (by omega)))
      refine xk_iload_n (pc := 70) d_K_wait_70 rfl ?_
      first | refine xk_if_eqN (pc := 71) (tgt := 79) d_K_wait_71 rfl (by omega) (fun c_71 => ?_) (fun c_71 => ?_) | refine xk_if_eq (pc := 71) (tgt := 79) d_K_wait_71 rfl (fun c_71 => ?_) (fun c_71 => ?_)
      · rw [xs_bi_z] at c_71
        have hl3 := xs_least_n (p := fun q => decide (s.2.2.2.1 q ≠ 0 ∧ s.2.2.2.2.1 q = p)) (i := 2) (k := 5) (fun j a b => decide_eq_false (hcf c_71 j a (by omega)))
        refine xk_bipush (pc := 79) (v := (-9)) d_K_wait_79 (by decide) ?_
        refine xk_iret (pc := 81) rfl d_K_wait_81 rfl (Nat.le_of_ble_eq_true rfl) (Nat.le_of_ble_eq_true rfl) ?_
        first | exact xq_s (xs_wait_a ep hl2 hl3) hA hQ | exact xq_s (xs_wait_b ep hl2 hl3) hA hQ
      · have c_72 := xs_bi_nz c_71
        obtain ⟨q, q1, q2, q3⟩ := hct c_72
        obtain ⟨q', hl3⟩ := xs_lsm (p := fun q => decide (s.2.2.2.1 q ≠ 0 ∧ s.2.2.2.2.1 q = p)) (i := 2) (k := 5) q1 (by omega) (decide_eq_true q3)
        refine xk_bipush (pc := 74) (v := (-6)) d_K_wait_74 (by decide) ?_
        refine xk_goto (pc := 76) (tgt := 81) d_K_wait_76 rfl ?_
        refine xk_iret (pc := 81) rfl d_K_wait_81 rfl (Nat.le_of_ble_eq_true rfl) (Nat.le_of_ble_eq_true rfl) ?_
        first | exact xq_s (xs_wait_a ep hl2 hl3) hA hQ | exact xq_s (xs_wait_b ep hl2 hl3) hA hQ
    · have hi7 : i < 7 := by omega
      have hki := xr_kd_ta i hi7
      have hsi := okT.2.2.1 i hi7
      have hch := xr_child (p := p) hT okT hi7 hi1 hp rfl
      refine xk_aload_n (pc := 20) d_K_wait_20 rfl ?_
      refine xk_getRo (pc := 21) d_K_wait_21 fl_K_44 (by first | rfl | assumption) rfl (by omega) (by omega) (hS _ _ _ rfl (by omega)) ?_
      refine xk_iload_n (pc := 24) d_K_wait_24 rfl ?_
      refine xk_aaloado (pc := 25) d_K_wait_25 (by first | rfl | assumption) (by decide) (by decide) (by omega) (by omega) rfl (by omega) (by decide) (hS _ _ _ (xr_st_ts _ hi7) (by omega)) ?_
      refine xk_astore (pc := 26) d_K_wait_26 (by decide) ?_
      refine xk_aload (pc := 28) d_K_wait_28 rfl ?_
      refine xk_iload_n (pc := 30) d_K_wait_30 rfl ?_
      refine xk_cV1 (pc := 31) d_K_wait_31 ml_K_167 cz_Task_isChildOf ⟨rfl, rfl⟩ rfl (by first | rfl | assumption) (by omega) (by omega) (Nat.le_of_ble_eq_true rfl) ⟨(Nat.le_of_ble_eq_true rfl), (Nat.le_of_ble_eq_true rfl)⟩ ?_
      refine c_Task_isChildOf hn hS hi7 (hT.1 i hi7) (by omega) rfl (fun e1 e2 => ?_) (fun e => ?_)
      · refine xk_if_eq (pc := 34) (tgt := 64) d_K_wait_34 rfl (fun h => absurd h (by decide)) (fun _ => ?_)
        refine xk_aload (pc := 37) d_K_wait_37 rfl ?_
        refine xk_getIo (pc := 39) d_K_wait_39 fl_K_173 (by first | rfl | assumption) rfl (by omega) (by omega) (hT.1 i hi7) ?_
        refine xk_iconst (pc := 42) (v := nI 2) d_K_wait_42 (by decide) ?_
        first | refine xk_icmp_neN (pc := 43) (tgt := 62) d_K_wait_43 rfl (by omega) (by omega) (fun c_43 => ?_) (fun c_43 => ?_) | refine xk_icmp_ne (pc := 43) (tgt := 62) d_K_wait_43 rfl (fun c_43 => ?_) (fun c_43 => ?_)
        · refine xk_iconst (pc := 62) (v := nI 1) d_K_wait_62 (by decide) ?_
          refine xk_istore_n (pc := 63) d_K_wait_63 (by decide) ?_
          refine xk_iincN (pc := 64) (d := 1) d_K_wait_64 rfl ?_
          refine xk_goto (pc := 67) (tgt := 14) d_K_wait_67 rfl ?_
          first
            | exact ih (i + 1) true _ (by omega) (by omega) (by omega) (fun q a b => by
                by_cases w : q = i
                · subst w; exact fun z => c_43 z.1
                · exact hne q a (by omega)) (fun _ => ⟨i, (hch.mp ⟨e1, e2⟩).1, by omega, (hch.mp ⟨e1, e2⟩).2⟩) (fun z => by cases z)
            | exact ih (i + 1) hc _ (by omega) (by omega) (by omega) (fun q a b => by
                by_cases w : q = i
                · subst w
                  intro z
                  have := hch.mpr ⟨a, by omega, z.2⟩
                  rcases e with e | e
                  · exact this.1 e
                  · exact e this.2
                · exact hne q a (by omega)) (fun z => by
                obtain ⟨q, a1, a2, a3⟩ := hct z
                exact ⟨q, a1, by omega, a3⟩) (fun z q a b => by
                by_cases w : q = i
                · subst w
                  intro z
                  have := hch.mpr ⟨a, z⟩
                  rcases e with e | e
                  · exact this.1 e
                  · exact e this.2
                · exact hcf z q a (by omega))
        · have hcq := hch.mp ⟨e1, e2⟩
          refine xk_aload (pc := 46) d_K_wait_46 rfl ?_
          refine xk_cV0 (pc := 48) d_K_wait_48 ml_K_176 cz_Task_vanish ⟨rfl, rfl⟩ rfl (by first | rfl | assumption) (by omega) (by omega) (Nat.le_of_ble_eq_true rfl) ⟨(Nat.le_of_ble_eq_true rfl), (Nat.le_of_ble_eq_true rfl)⟩ ?_
          refine c_Task_vanish hn hS hi7 hO (xs_okO_U okO) okO.1 (fun m1 r1 hO1 hS1 hm1 hk1 hr1 => ?_)
          rw [xs_bare_e (fun d hd => okO.2.1 i d hi7 hd (by omega))] at hO1
          have hcode : m1 (39 + 2 * i) 2 = nI (s.2.2.2.2.2 i) := by rw [hk1, if_neg (by decide)]; exact hT.2.2.2 i hi7 c_43
          refine xk_iload_n (pc := 51) d_K_wait_51 rfl ?_
          refine xk_bipush (pc := 52) (v := nI 8) d_K_wait_52 (by decide) ?_
          refine xk_aload (pc := 54) d_K_wait_54 rfl ?_
          refine xk_getIo (pc := 56) d_K_wait_56 fl_K_179 (by first | rfl | assumption) rfl (by omega) (by omega) hcode ?_
          first | refine xk_imulN (pc := 59) d_K_wait_59 ?_ | refine xk_imul (pc := 59) d_K_wait_59 ?_
          first | refine xk_iaddN (pc := 60) d_K_wait_60 ?_ | refine xk_iadd (pc := 60) d_K_wait_60 ?_
          refine xk_iret (pc := 61) rfl d_K_wait_61 rfl (Nat.le_of_ble_eq_true rfl) (Nat.le_of_ble_eq_true rfl) ?_
          have hl := xs_least_s (p := fun q => decide (s.2.2.2.1 q = 2 ∧ s.2.2.2.2.1 q = p)) (i := 2) (k := 5) hcq.1 (by omega) (decide_eq_true ⟨c_43, hcq.2.2⟩) (fun j a b => decide_eq_false (hne j a b))
          have e := xs_wait_c ep hl
          exact xq_t e (xr_A_T hA hO1 (xr_T_gone hT hcq.1 (fun a h1 h2 h3 => hm1 a (by omega) h3) hk1) hS1 (fun a ha => hm1 a (by omega) (by omega)) (fun a ha => hr1 a (by omega))) (fun a h1 h2 => ⟨hm1 a (by omega) (by omega), hr1 a (by omega)⟩) hQ
      · refine xk_if_eq (pc := 34) (tgt := 64) d_K_wait_34 rfl (fun _ => ?_) (fun h => absurd (by decide) h)
        refine xk_iincN (pc := 64) (d := 1) d_K_wait_64 rfl ?_
        refine xk_goto (pc := 67) (tgt := 14) d_K_wait_67 rfl ?_
        first
          | exact ih (i + 1) true _ (by omega) (by omega) (by omega) (fun q a b => by
              by_cases w : q = i
              · subst w; exact fun z => c_43 z.1
              · exact hne q a (by omega)) (fun _ => ⟨i, (hch.mp ⟨e1, e2⟩).1, by omega, (hch.mp ⟨e1, e2⟩).2⟩) (fun z => by cases z)
          | exact ih (i + 1) hc _ (by omega) (by omega) (by omega) (fun q a b => by
              by_cases w : q = i
              · subst w
                intro z
                have := hch.mpr ⟨a, by omega, z.2⟩
                rcases e with e | e
                · exact this.1 e
                · exact e this.2
              · exact hne q a (by omega)) (fun z => by
              obtain ⟨q, a1, a2, a3⟩ := hct z
              exact ⟨q, a1, by omega, a3⟩) (fun z q a b => by
              by_cases w : q = i
              · subst w
                intro z
                have := hch.mpr ⟨a, z⟩
                rcases e with e | e
                · exact this.1 e
                · exact e this.2
              · exact hcf z q a (by omega))

set_option maxRecDepth 20000 in
set_option maxHeartbeats 4000000 in
theorem c_K_wait {E : xk_E} {n : Nat} {m : xk_M} {r : xk_P} {Q : xk_Q} {x : Int32} {s : xs_S} (hA : xr_A s m r n) (hok : xs_ok s) (hsm : s.1.1.2.2.2.2.1 + 4 < 2 ^ 20) (hQ : ∀ n' m' r', n ≤ n' → n' ≤ n → xr_A (xs_wait s x).2 m' r' n' → xr_fr m m' r r' → Q (some (.inl (xs_wait s x).1)) n' m' r') : xk_W E m_K_wait 0 (xk_ent m_K_wait [.inr (some 1), .inl x]) [] n m r 0 0 Q := by
  show xk_W E m_K_wait 0 [some (.inr (some 1)), some (.inl x), none, none, none] [] n m r 0 0 Q
  obtain ⟨hF, hP, hO, hT, hS, hn⟩ := id hA
  obtain ⟨okF, okP, okO, okT⟩ := id hok
  refine xk_aload_n (pc := 0) d_K_wait_0 rfl ?_
  refine xk_iload_n (pc := 1) d_K_wait_1 rfl ?_
  refine xk_cV1 (pc := 2) d_K_wait_2 ml_K_75 cz_K_isAlive ⟨rfl, rfl⟩ rfl (by first | rfl | assumption) (by omega) (by omega) (Nat.le_of_ble_eq_true rfl) ⟨(Nat.le_of_ble_eq_true rfl), (Nat.le_of_ble_eq_true rfl)⟩ ?_
  refine c_K_isAlive hn hS hT okT (fun p ep hp hp1 ex et => ?_) (fun ep => ?_)
  · subst ex
    refine xk_if_ne (pc := 5) (tgt := 10) d_K_wait_5 rfl (fun _ => ?_) (fun h => absurd h (by decide))
    refine xk_iconst (pc := 10) (v := nI 0) d_K_wait_10 (by decide) ?_
    refine xk_istore_n (pc := 11) d_K_wait_11 (by decide) ?_
    refine xk_iconst (pc := 12) (v := nI 1) d_K_wait_12 (by decide) ?_
    refine xk_istore_n (pc := 13) d_K_wait_13 (by decide) ?_
    exact l_wait hA hok ep hp hQ 8 1 false none (by omega) (by omega) (by omega) (fun q a b => by omega) (fun z => by cases z) (fun _ q a b => by omega)
  · refine xk_if_ne (pc := 5) (tgt := 10) d_K_wait_5 rfl (fun h => absurd (by decide) h) (fun _ => ?_)
    refine xk_iconst (pc := 8) (v := (-1)) d_K_wait_8 (by decide) ?_
    refine xk_iret (pc := 9) rfl d_K_wait_9 rfl (Nat.le_of_ble_eq_true rfl) (Nat.le_of_ble_eq_true rfl) ?_
    exact xq_s (show xs_wait s x = (-1, s) by unfold xs_wait; rw [ep]) hA hQ

def xs_cr (O : xs_O) (i : Nat) : xs_O := (fun k => if 6 ≤ k ∧ k < 6 * i then none else O.1 k, O.2)
theorem xs_cr_s {O : xs_O} {i : Nat} (hi : 1 ≤ i) : xs_bare (xs_cr O i) i = xs_cr O (i + 1) := by
  have : (fun k => if 6 * i ≤ k ∧ k < 6 * i + 6 then none else (if 6 ≤ k ∧ k < 6 * i then none else O.1 k)) = fun k => if 6 ≤ k ∧ k < 6 * (i + 1) then none else O.1 k := by
    funext k
    by_cases c1 : 6 * i ≤ k ∧ k < 6 * i + 6
    · rw [if_pos c1, if_pos ⟨by omega, by omega⟩]
    · rw [if_neg c1]
      by_cases c2 : 6 ≤ k ∧ k < 6 * i
      · rw [if_pos c2, if_pos ⟨c2.1, by omega⟩]
      · rw [if_neg c2, if_neg (by omega)]
  exact congrArg (fun z => ((z, O.2) : xs_O)) this
theorem xs_cr_1 {O : xs_O} : xs_cr O 1 = O := by
  have : (fun k => if 6 ≤ k ∧ k < 6 * 1 then none else O.1 k) = O.1 := by
    funext k
    rw [if_neg (by omega)]
  exact congrArg (fun z => ((z, O.2) : xs_O)) this
theorem xs_cnt_congr {g g' : Nat → Option Nat} {o : Nat} : ∀ K, (∀ k, k < K → g' k = g k) → xs_cnt g' o K = xs_cnt g o K
  | 0, _ => rfl
  | K + 1, h => by
    show xs_cnt g' o K + (if g' K = some o then 1 else 0) = xs_cnt g o K + (if g K = some o then 1 else 0)
    rw [xs_cnt_congr K (fun k hk => h k (by omega)), h K (by omega)]
theorem xr_O_congr {O O' : xs_O} {m : xk_M} {r : xk_P} {n : Nat} (h : xr_O O m r n) (he : ∀ k, k < 42 → O'.1 k = O.1 k) (h2 : O'.2 = O.2) : xr_O O' m r n := by
  have hc : ∀ o, xs_cnt O'.1 o 42 = xs_cnt O.1 o 42 := fun o => xs_cnt_congr 42 he
  have us : ∀ o, xs_used O' o = xs_used O o := fun o => by unfold xs_used; rw [hc]
  have es : ∀ q e, xs_end O' q e = xs_end O q e := fun q e => xs_end_congr (fun o _ => by rw [us, h2])
  obtain ⟨h1, h3, pa, h4, h5, h6⟩ := h
  refine ⟨fun o ho => by rw [hc]; exact h1 o ho, fun p d hp hd => by rw [he _ (by omega)]; exact h3 p d hp hd, pa, fun o ho hu => ?_, fun o ho hu hk => ?_, fun a b ha hb ua ub => ?_⟩
  · rw [us] at hu
    unfold xr_I
    rw [h2]
    exact h4 o ho hu
  · rw [us] at hu
    unfold xr_P
    rw [es, es, h2]
    rw [h2] at hk
    exact h5 o ho hu hk
  · rw [us] at ua ub
    rw [h2]
    exact h6 a b ha hb ua ub
theorem xs_bare_16 {O : xs_O} {i : Nat} (h : ∀ k o, k < 42 → O.1 k = some o → o < 16) : ∀ k o, k < 42 → (xs_cr O i).1 k = some o → o < 16 := by
  intro k o hk e
  change (if 6 ≤ k ∧ k < 6 * i then none else O.1 k) = some o at e
  split at e
  · cases e
  · exact h k o hk e
theorem xs_used_sub {O O' : xs_O} (h : ∀ k o, k < 42 → O'.1 k = some o → O.1 k = some o) (o : Nat) (hu : xs_used O' o = true) : xs_used O o = true := by
  rw [xs_used_iff] at hu ⊢
  intro h0
  apply hu
  have key : ∀ K, K ≤ 42 → xs_cnt O'.1 o K ≤ xs_cnt O.1 o K := by
    intro K
    induction K with
    | zero => intro _; exact Nat.le_refl _
    | succ K ih =>
      intro hK
      show xs_cnt O'.1 o K + (if O'.1 K = some o then 1 else 0) ≤ xs_cnt O.1 o K + (if O.1 K = some o then 1 else 0)
      have := ih (by omega)
      by_cases c : O'.1 K = some o
      · rw [if_pos c, if_pos (h K o (by omega) c)]; omega
      · rw [if_neg c]; omega
  have := key 42 (Nat.le_refl _)
  omega
theorem xs_cr_U {O : xs_O} {i : Nat} (h : xs_okU O) : xs_okU (xs_cr O i) := xs_okU_sub h (xs_used_sub (fun k o _ e => by
  change (if 6 ≤ k ∧ k < 6 * i then none else O.1 k) = some o at e
  split at e
  · cases e
  · exact e)) rfl

set_option maxRecDepth 20000 in
set_option maxHeartbeats 4000000 in
theorem l_crash {E : xk_E} {n : Nat} {Q : xk_Q} {O : xs_O} {m0 : xk_M} {r0 : xk_P} (hn : 74 ≤ n) (hU : xs_okU O) (h16 : ∀ k o, k < 42 → O.1 k = some o → o < 16) (hK : ∀ m r, xr_O (xs_cr O 7) m r n → xr_S r n → (∀ a, (a < 22 ∨ (53 ≤ a ∧ a < 74)) → m a = m0 a) → (∀ a, (a < 39 ∨ 53 ≤ a) → r a = r0 a) → (∀ p, 1 ≤ p → p < 7 → m (39 + 2 * p) 0 = nI 0) → m 39 0 = m0 39 0 → xk_W E m_K_crash 23 [some (.inr (some 1)), some (.inl (nI 7))] [] n m r 0 0 Q) : ∀ (k : Nat) (i : Nat) (m : xk_M) (r : xk_P), 7 - i < k → 1 ≤ i → i ≤ 7 → xr_O (xs_cr O i) m r n → xr_S r n → (∀ a, (a < 22 ∨ (53 ≤ a ∧ a < 74)) → m a = m0 a) → (∀ a, (a < 39 ∨ 53 ≤ a) → r a = r0 a) → (∀ p, 1 ≤ p → p < i → m (39 + 2 * p) 0 = nI 0) → m 39 0 = m0 39 0 → xk_W E m_K_crash 2 [some (.inr (some 1)), some (.inl (nI i))] [] n m r 0 0 Q := by
  intro k
  induction k with
  | zero => intro i m r h; exact absurd h (Nat.not_lt_zero _)
  | succ k ih =>
    intro i m r hk hi1 hi hO hS hm hr hst h39
    refine xk_iload_n (pc := 2) d_K_crash_2 rfl ?_
    refine xk_bipush (pc := 3) (v := nI 6) d_K_crash_3 (by decide) ?_
    first | refine xk_icmp_gtN (pc := 5) (tgt := 23) d_K_crash_5 rfl (by omega) (by omega) (fun c_5 => ?_) (fun c_5 => ?_) | refine xk_icmp_gt (pc := 5) (tgt := 23) d_K_crash_5 rfl (fun c_5 => ?_) (fun c_5 => ?_)
    · have e7 : i = 7 := by omega
      subst e7
      exact hK m r hO hS hm hr hst h39
    · have hi7 : i < 7 := by omega
      have hki := xr_kd_ta i hi7
      refine xk_aload_n (pc := 8) d_K_crash_8 rfl ?_
      refine xk_getRo (pc := 9) d_K_crash_9 fl_K_44 (by first | rfl | assumption) rfl (by omega) (by omega) (hS _ _ _ rfl (by omega)) ?_
      refine xk_iload_n (pc := 12) d_K_crash_12 rfl ?_
      refine xk_aaloado (pc := 13) d_K_crash_13 (by first | rfl | assumption) (by decide) (by decide) (by omega) (by omega) rfl (by omega) (by decide) (hS _ _ _ (xr_st_ts _ hi7) (by omega)) ?_
      refine xk_cV0 (pc := 14) d_K_crash_14 ml_K_176 cz_Task_vanish ⟨rfl, rfl⟩ rfl (by first | rfl | assumption) (by omega) (by omega) (Nat.le_of_ble_eq_true rfl) ⟨(Nat.le_of_ble_eq_true rfl), (Nat.le_of_ble_eq_true rfl)⟩ ?_
      refine c_Task_vanish hn hS hi7 hO (xs_cr_U hU) (xs_bare_16 h16) (fun m1 r1 hO1 hS1 hm1 hk1 hr1 => ?_)
      rw [xs_cr_s hi1] at hO1
      refine xk_iincN (pc := 17) (d := 1) d_K_crash_17 rfl ?_
      refine xk_goto (pc := 20) (tgt := 2) d_K_crash_20 rfl ?_
      exact ih (i + 1) m1 r1 (by omega) (by omega) (by omega) hO1 hS1 (fun a ha => (hm1 a (by omega) (by omega)).trans (hm a ha)) (fun a ha => (hr1 a (by omega)).trans (hr a ha)) (fun p a b => by
        by_cases w : p = i
        · subst w; rw [hk1, if_pos rfl]
        · rw [hm1 _ (by omega) (by omega)]; exact hst p a (by omega)) ((congrFun (hm1 39 (by omega) (by omega)) 0).trans h39)

set_option maxRecDepth 20000 in
set_option maxHeartbeats 4000000 in
theorem c_K_crash {E : xk_E} {n : Nat} {m : xk_M} {r : xk_P} {Q : xk_Q} {s : xs_S} (hA : xr_A s m r n) (hok : xs_ok s) (hsm : s.1.1.2.2.2.2.1 + 4 < 2 ^ 20) (hQ : ∀ n' m' r', n ≤ n' → n' ≤ n → xr_A (xs_crash s).2 m' r' n' → xr_fr m m' r r' → Q (some (.inl (xs_crash s).1)) n' m' r') : xk_W E m_K_crash 0 (xk_ent m_K_crash [.inr (some 1)]) [] n m r 0 0 Q := by
  show xk_W E m_K_crash 0 [some (.inr (some 1)), none] [] n m r 0 0 Q
  obtain ⟨hF, hP, hO, hT, hS, hn⟩ := id hA
  obtain ⟨okF, okP, okO, okT⟩ := id hok
  refine xk_iconst (pc := 0) (v := nI 1) d_K_crash_0 (by decide) ?_
  refine xk_istore_n (pc := 1) d_K_crash_1 (by decide) ?_
  refine l_crash hn (xs_okO_U okO) okO.1 (m0 := m) (r0 := r) (fun m1 r1 hO1 hS1 hm1 hr1 hst h39 => ?_) 7 1 m r (by omega) (by omega) (by omega) (by rw [xs_cr_1]; exact hO) hS (fun _ _ => rfl) (fun _ _ => rfl) (fun p a b => by omega) rfl
  have hk41 := xr_kd_ta 1 (by omega)
  refine xk_aload_n (pc := 23) d_K_crash_23 rfl ?_
  refine xk_getRo (pc := 24) d_K_crash_24 fl_K_44 (by first | rfl | assumption) rfl (by omega) (by omega) (hS1 _ _ _ rfl (by omega)) ?_
  refine xk_iconst (pc := 27) (v := nI 1) d_K_crash_27 (by decide) ?_
  refine xk_aaloado (pc := 28) d_K_crash_28 (by first | rfl | assumption) (by decide) (by decide) (by omega) (by omega) rfl (by omega) (by decide) (hS1 _ _ _ (xr_st_ts 1 (by omega)) (by omega)) ?_
  refine xk_iconst (pc := 29) (v := (-1)) d_K_crash_29 (by decide) ?_
  refine xk_cV1 (pc := 30) d_K_crash_30 ml_K_49 cz_Task_begin ⟨rfl, rfl⟩ rfl (by first | rfl | assumption) (by omega) (by omega) (Nat.le_of_ble_eq_true rfl) ⟨(Nat.le_of_ble_eq_true rfl), (Nat.le_of_ble_eq_true rfl)⟩ ?_
  refine c_Task_begin (p := 1) hn hS1 (by omega) ?_
  have hF1 : xr_F s.1 (xk_up (xk_up m1 (39 + 2 * 1) 0 (nI 1)) (39 + 2 * 1) 1 (-1)) r1 := xr_F_kept hF (fun a ha => by rw [← hm1 a (by omega)]; funext k; rw [xk_up_a (by omega), xk_up_a (by omega)]) (hr1 9 (by omega))
  refine xk_aload_n (pc := 33) d_K_crash_33 rfl ?_
  refine xk_getRo (pc := 34) d_K_crash_34 fl_K_21 (by first | rfl | assumption) rfl (by omega) (by omega) (hS1 _ _ _ rfl (by omega)) ?_
  refine xk_cV0 (pc := 37) d_K_crash_37 ml_K_182 cz_Cache_startAnew ⟨rfl, rfl⟩ rfl (by first | rfl | assumption) (by omega) (by omega) (Nat.le_of_ble_eq_true rfl) ⟨(Nat.le_of_ble_eq_true rfl), (Nat.le_of_ble_eq_true rfl)⟩ ?_
  refine c_Cache_startAnew hn hS1 hF1 okF (fun m2 hF2 hm2 => ?_)
  refine xk_iconst (pc := 40) (v := nI 0) d_K_crash_40 (by decide) ?_
  refine xk_iret (pc := 41) rfl d_K_crash_41 rfl (Nat.le_of_ble_eq_true rfl) (Nat.le_of_ble_eq_true rfl) ?_
  have hup : ∀ a, 20 ≤ a → a ≠ 41 → m2 a = m1 a := fun a h1 h2 => by
    rw [hm2 a h1]
    funext k
    rw [xk_up_a (by omega), xk_up_a (by omega)]
  have e : xs_crash s = (nI 0, ((s.1.1, s.1.1.2.1, []), s.2.1, (fun _ => none, s.2.2.1.2), (fun q => if q = 1 then 1 else 0), s.2.2.2.2)) := rfl
  refine xq_t e ⟨hF2, fun f hf => by rw [hup 20 (by omega) (by omega), hm1 20 (by omega)]; exact hP f hf, xr_O_congr (xr_O_kept hO1 (Nat.le_refl _) (fun a _ _ => hup a (by omega) (by omega)) (fun a _ _ => hup a (by omega) (by omega)) (fun _ _ _ => rfl)) (fun k hk => ?_) rfl, ⟨fun p hp => ?_, fun p p2 p7 px => ?_, ?_, fun p hp px => ?_⟩, hS1, hn⟩ (fun a h1 h2 => ⟨(hup a (by omega) (by omega)).trans (hm1 a (by omega)), hr1 a (by omega)⟩) hQ
  · show none = (if 6 ≤ k ∧ k < 6 * 7 then none else s.2.2.1.1 k)
    by_cases c : 6 ≤ k ∧ k < 6 * 7
    · rw [if_pos c]
    · rw [if_neg c]
      have := okO.2.1 0 k (by omega) (by omega) (by rw [okT.1]; decide)
      rw [Nat.mul_zero, Nat.zero_add] at this
      exact this.symm
  · show _ = nI (if p = 1 then 1 else 0)
    by_cases w : p = 1
    · subst w
      rw [if_pos rfl, hm2 _ (by omega), xk_up_k (by decide), xk_up_s]
    · rw [if_neg w, hup _ (by omega) (by omega)]
      by_cases w0 : p = 0
      · subst w0
        rw [show 39 + 2 * 0 = 39 by omega, h39]
        have := hT.1 0 (by omega)
        rw [okT.1] at this
        exact this
      · exact hst p (by omega) hp
  · change (if p = 1 then 1 else 0) ≠ 0 at px
    rw [if_neg (by omega)] at px
    exact absurd rfl px
  · rw [hm2 _ (by omega)]
    exact xk_up_s
  · change (if p = 1 then 1 else 0) = 2 at px
    split at px <;> cases px
