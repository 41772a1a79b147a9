/-! the reference: what its cells hold -/
def xm_oi (v : Option Nat) : Int32 := match v with
  | none => -1
  | some o => nI o
def xm_H (h : xs_H) (m : xk_M) : Prop := (∀ f, f < 8 → m 54 f = xs_bi (h.1 f)) ∧ (∀ f, f < 8 → m 55 f = nI (h.2.1 f)) ∧ (∀ f i, f < 8 → i < 32 → m 56 (32 * f + i) = h.2.2.1 f i) ∧ (∀ j, j < 16 → j < h.2.2.2.2.1 → m 73 j = h.2.2.2.1 j) ∧ m 53 21 = nI h.2.2.2.2.1 ∧ m 53 20 = nI h.2.2.2.2.2
def xm_C (l : List xs_B) (m : xk_M) : Prop := m 53 8 = nI l.length ∧ l.length ≤ 5 ∧ ∀ (i : Nat) (x : xs_B), l[i]? = some x → m 59 i = nI (x.1 + 8 * x.2.1) ∧ m 60 i = xs_bi x.2.2.1 ∧ ∀ k, k < 8 → m 61 (8 * i + k) = x.2.2.2 k
def xm_L (ln : Nat → Nat) (m : xk_M) : Prop := ∀ f, f < 8 → m 57 f = nI (ln f)
def xm_F (F : xs_F) (m : xk_M) : Prop := xm_H F.1 m ∧ xm_L F.2.1 m ∧ xm_C F.2.2 m
def xm_O (O : xs_O) (m : xk_M) : Prop := (∀ k, k < 42 → m 66 k = xm_oi (O.1 k)) ∧ (∀ o, o < 16 → m 67 o = nI (O.2.1 o)) ∧ (∀ o, o < 16 → m 68 o = nI (O.2.2.1 o)) ∧ (∀ o, o < 16 → m 69 o = nI (O.2.2.2.1 o)) ∧ (∀ o, o < 16 → m 70 o = nI (O.2.2.2.2.1 o)) ∧ (∀ q, q < 16 → m 72 q = nI (O.2.2.2.2.2 q).length) ∧ ∀ q, q < 16 → ∀ (i : Nat) (x : Int32), (O.2.2.2.2.2 q)[i]? = some x → i < 4 → m 71 (4 * q + i) = x
def xm_T (T : xs_T) (m : xk_M) : Prop := (∀ p, p < 7 → m 62 p = xs_bi (decide (T.1 p ≠ 0))) ∧ (∀ p, p < 7 → T.1 p ≠ 0 → m 63 p = xs_bi (decide (T.1 p = 2))) ∧ (∀ p, 2 ≤ p → p < 7 → T.1 p ≠ 0 → m 64 p = nI (T.2.1 p)) ∧ (∀ p, p < 7 → T.1 p = 2 → m 65 p = nI (T.2.2 p))
def xm_P (P : Nat → Nat) (m : xk_M) : Prop := ∀ f, f < 8 → m 58 f = nI (P f)
def xm_A (s : xs_S) (m : xk_M) : Prop := xm_F s.1 m ∧ xm_P s.2.1 m ∧ xm_O s.2.2.1 m ∧ xm_T s.2.2.2 m
/-- only the reference's cells change -/
def xm_fr (m m' : xk_M) : Prop := ∀ a, (a < 53 ∨ 74 ≤ a) → m' a = m a
theorem xk_up_r {α : Type} {f : Nat → Nat → α} {a k b : Nat} {v : α} (h : b ≠ a) : xk_up f a k v b = f b := by
  funext j
  exact xk_up_a h
theorem xk_fn_r {m : xk_M} {a p i c : Nat} {g : Nat → Int32} (h : c ≠ a) : xk_fn m a p i g c = m c := by
  funext j
  exact xk_fn_a h
theorem xm_H_kept {h : xs_H} {m m' : xk_M} (hR : xm_H h m) (h4 : m' 54 = m 54) (h5 : m' 55 = m 55) (h6 : m' 56 = m 56) (h7 : m' 73 = m 73) (h8 : m' 53 21 = m 53 21) (h9 : m' 53 20 = m 53 20) : xm_H h m' := by
  unfold xm_H
  rw [h4, h5, h6, h7, h8, h9]
  exact hR
theorem xm_C_kept {l : List xs_B} {m m' : xk_M} (hR : xm_C l m) (h4 : m' 53 8 = m 53 8) (h5 : m' 59 = m 59) (h6 : m' 60 = m 60) (h7 : m' 61 = m 61) : xm_C l m' := by
  unfold xm_C
  rw [h4, h5, h6, h7]
  exact hR
theorem xm_L_kept {ln : Nat → Nat} {m m' : xk_M} (hR : xm_L ln m) (h : m' 57 = m 57) : xm_L ln m' := by
  unfold xm_L
  rw [h]
  exact hR
theorem xm_P_kept {ln : Nat → Nat} {m m' : xk_M} (hR : xm_P ln m) (h : m' 58 = m 58) : xm_P ln m' := by
  unfold xm_P
  rw [h]
  exact hR
theorem xm_O_kept {O : xs_O} {m m' : xk_M} (hR : xm_O O m) (h : ∀ a, 66 ≤ a → a < 73 → m' a = m a) : xm_O O m' := by
  unfold xm_O
  rw [h 66 (by decide) (by decide), h 67 (by decide) (by decide), h 68 (by decide) (by decide), h 69 (by decide) (by decide), h 70 (by decide) (by decide), h 71 (by decide) (by decide), h 72 (by decide) (by decide)]
  exact hR
theorem xm_T_kept {T : xs_T} {m m' : xk_M} (hR : xm_T T m) (h : ∀ a, 62 ≤ a → a < 66 → m' a = m a) : xm_T T m' := by
  unfold xm_T
  rw [h 62 (by decide) (by decide), h 63 (by decide) (by decide), h 64 (by decide) (by decide), h 65 (by decide) (by decide)]
  exact hR
theorem xm_nu {m : xk_M} {a k N : Nat} {g : Nat → Nat} {v : Nat} (h : ∀ j, j < N → m a j = nI (g j)) : ∀ j, j < N → xk_up m a k (nI v) a j = nI (xs_u g k v j) := fun j hj => by
  by_cases e : j = k
  · subst e; rw [xk_up_s, xs_u_s]
  · rw [xk_up_k e, xs_u_n e]; exact h j hj
theorem xm_bu {m : xk_M} {a k N : Nat} {g : Nat → Bool} {v : Bool} (h : ∀ j, j < N → m a j = xs_bi (g j)) : ∀ j, j < N → xk_up m a k (xs_bi v) a j = xs_bi (xs_u g k v j) := fun j hj => by
  by_cases e : j = k
  · subst e; rw [xk_up_s, xs_u_s]
  · rw [xk_up_k e, xs_u_n e]; exact h j hj
theorem xm_ou {m : xk_M} {a k N : Nat} {g : Nat → Option Nat} {v : Option Nat} (h : ∀ j, j < N → m a j = xm_oi (g j)) : ∀ j, j < N → xk_up m a k (xm_oi v) a j = xm_oi (xs_u g k v j) := fun j hj => by
  by_cases e : j = k
  · subst e; rw [xk_up_s, xs_u_s]
  · rw [xk_up_k e, xs_u_n e]; exact h j hj
theorem xm_ge0 {o : Nat} (h : o < 2 ^ 31) : (0 : Int32) ≤ nI o := nI_le (Nat.zero_le _) h
theorem xm_oi_eq {v : Option Nat} {o : Nat} (ho : o < 2 ^ 31) (hv : ∀ o', v = some o' → o' < 16) : xm_oi v = nI o ↔ v = some o := by
  cases v with
  | none => exact ⟨fun h => absurd h.symm (xs_nm1 ho), fun h => by cases h⟩
  | some w =>
    have := hv w rfl
    show nI w = nI o ↔ _
    rw [nI_eq (by omega) ho]
    exact ⟨fun h => by rw [h], fun h => Option.some.inj h⟩
theorem xm_oi_ge {v : Option Nat} (hv : ∀ o', v = some o' → o' < 16) : (0 : Int32) ≤ xm_oi v ↔ v ≠ none := by
  cases v with
  | none => exact ⟨fun h => absurd h (by decide), fun h => absurd rfl h⟩
  | some w =>
    have := hv w rfl
    exact ⟨fun _ => Option.some_ne_none w, fun _ => xm_ge0 (by omega)⟩
theorem xs_nat_out {x : Int32} {k : Nat} (hk : k + 1 < 2 ^ 31) (h : x < nI 0 ∨ nI k < x) : xs_nat x (k + 1) = none := by
  rcases h with h | h
  · exact xs_nat_lt h
  · refine xs_nat_ge hk ?_
    rw [Int32.lt_iff_toInt_lt, nI_toInt (by omega)] at h
    rw [Int32.le_iff_toInt_le, nI_toInt hk]
    omega
theorem xs_alive_out {T : xs_T} {x : Int32} (h0 : T.1 0 = 0) (h : x < nI 1 ∨ nI 6 < x) : xs_alive T x = none := by
  rcases h with h | h
  · rw [Int32.lt_iff_toInt_lt, nI_toInt (by decide)] at h
    by_cases q : x.toInt < 0
    · exact xs_alive_n (if_neg (fun z => by omega))
    · have e : x.toInt = 0 := by omega
      refine xs_alive_f (p := 0) ?_ (by rw [h0]; decide)
      unfold xs_nat
      rw [if_pos (by omega), e]
      rfl
  · exact xs_alive_n (xs_nat_out (k := 6) (by decide) (Or.inr h))
theorem xs_end_f {O : xs_O} {q e : Nat} (h : ∀ o, o < 16 → xs_used O o = true → O.2.1 o = e → O.2.2.1 o ≠ q) : xs_end O q e = false := by
  cases hx : xs_end O q e with
  | false => rfl
  | true =>
    obtain ⟨o, a, b, c, d⟩ := xs_end_iff.mp hx
    exact absurd d (h o a b c)

set_option maxRecDepth 20000 in
set_option maxHeartbeats 4000000 in
theorem c_M_alive {E : xk_E} {n : Nat} {m : xk_M} {r : xk_P} {Q : xk_Q} (hn : 74 ≤ n) (hS : xr_S r n) {T : xs_T} (hT : xm_T T m) (hok : xs_okT T) {x : Int32} (h1 : ∀ p, xs_alive T x = some p → p < 7 → 1 ≤ p → x = nI p → T.1 p = 1 → Q (some (.inl (nI 1))) n m r) (h0 : xs_alive T x = none → Q (some (.inl (nI 0))) n m r) : xk_W E m_M_alive 0 (xk_ent m_M_alive [.inr (some 53), .inl x]) [] n m r 0 0 Q := by
  show xk_W E m_M_alive 0 [some (.inr (some 53)), some (.inl x)] [] n m r 0 0 Q
  refine xk_iload_n (pc := 0) d_M_alive_0 rfl ?_
  refine xk_iconst (pc := 1) (v := nI 1) d_M_alive_1 (by decide) ?_
  refine xk_bipush (pc := 2) (v := nI 6) d_M_alive_2 (by decide) ?_
  refine xk_cS3 (pc := 4) d_M_alive_4 ml_M_78 cz_M_in ⟨rfl, rfl⟩ rfl (Nat.le_of_ble_eq_true rfl) ⟨(Nat.le_of_ble_eq_true rfl), (Nat.le_of_ble_eq_true rfl)⟩ ?_
  refine c_M_in (lo := 1) (hi := 6) (by decide) (by decide) (fun p hp1 hp6 ep => ?_) (fun en => ?_)
  · subst ep
    have hp : p < 7 := by omega
    have en := xs_nat_nI (k := 7) hp (by decide)
    have hle := hok.2.2.1 p hp
    refine xk_if_eq (pc := 7) (tgt := 32) d_M_alive_7 rfl (fun h => absurd h (by decide)) (fun _ => ?_)
    refine xk_aload_n (pc := 10) d_M_alive_10 rfl ?_
    refine xk_getRo (pc := 11) d_M_alive_11 fl_M_35 (by first | rfl | assumption) rfl (by omega) (by omega) (hS _ _ _ rfl (by omega)) ?_
    refine xk_iload_n (pc := 14) d_M_alive_14 rfl ?_
    refine xk_baloado (pc := 15) d_M_alive_15 (by first | rfl | assumption) (by omega) (by omega) rfl (by omega) (by decide) (hT.1 p hp) ?_
    first | refine xk_if_eqN (pc := 16) (tgt := 32) d_M_alive_16 rfl (by omega) (fun c_16 => ?_) (fun c_16 => ?_) | refine xk_if_eq (pc := 16) (tgt := 32) d_M_alive_16 rfl (fun c_16 => ?_) (fun c_16 => ?_)
    · have c_17 := of_decide_eq_false (xs_bi_z.mp c_16)
      refine xk_iconst (pc := 32) (v := nI 0) d_M_alive_32 (by decide) ?_
      refine xk_zret (pc := 33) rfl d_M_alive_33 rfl rfl (Nat.le_of_ble_eq_true rfl) (Nat.le_of_ble_eq_true rfl) ?_
      first
        | exact h0 en
        | exact h0 (xs_alive_f en (by omega))
    · have c_17 := of_decide_eq_true (xs_bi_nz c_16)
      refine xk_aload_n (pc := 19) d_M_alive_19 rfl ?_
      refine xk_getRo (pc := 20) d_M_alive_20 fl_M_38 (by first | rfl | assumption) rfl (by omega) (by omega) (hS _ _ _ rfl (by omega)) ?_
      refine xk_iload_n (pc := 23) d_M_alive_23 rfl ?_
      refine xk_baloado (pc := 24) d_M_alive_24 (by first | rfl | assumption) (by omega) (by omega) rfl (by omega) (by decide) (hT.2.1 p hp c_17) ?_
      first | refine xk_if_neN (pc := 25) (tgt := 32) d_M_alive_25 rfl (by omega) (fun c_25 => ?_) (fun c_25 => ?_) | refine xk_if_ne (pc := 25) (tgt := 32) d_M_alive_25 rfl (fun c_25 => ?_) (fun c_25 => ?_)
      · have c_26 := of_decide_eq_true (xs_bi_nz c_25)
        refine xk_iconst (pc := 32) (v := nI 0) d_M_alive_32 (by decide) ?_
        refine xk_zret (pc := 33) rfl d_M_alive_33 rfl rfl (Nat.le_of_ble_eq_true rfl) (Nat.le_of_ble_eq_true rfl) ?_
        first
          | exact h0 en
          | exact h0 (xs_alive_f en (by omega))
      · have c_26 := of_decide_eq_false (xs_bi_z.mp c_25)
        refine xk_iconst (pc := 28) (v := nI 1) d_M_alive_28 (by decide) ?_
        refine xk_goto (pc := 29) (tgt := 33) d_M_alive_29 rfl ?_
        refine xk_zret (pc := 33) rfl d_M_alive_33 rfl rfl (Nat.le_of_ble_eq_true rfl) (Nat.le_of_ble_eq_true rfl) ?_
        have et : T.1 p = 1 := by omega
        exact h1 p (by unfold xs_alive; rw [en]; exact if_pos et) hp hp1 rfl et
  · replace en := xs_alive_out hok.1 en
    refine xk_if_eq (pc := 7) (tgt := 32) d_M_alive_7 rfl (fun _ => ?_) (fun h => absurd (by decide) h)
    refine xk_iconst (pc := 32) (v := nI 0) d_M_alive_32 (by decide) ?_
    refine xk_zret (pc := 33) rfl d_M_alive_33 rfl rfl (Nat.le_of_ble_eq_true rfl) (Nat.le_of_ble_eq_true rfl) ?_
    first
      | exact h0 en
      | exact h0 (xs_alive_f en (by omega))

theorem xs_cnt_ex {g : Nat → Option Nat} {o : Nat} : ∀ K, xs_cnt g o K ≠ 0 → ∃ k, k < K ∧ g k = some o
  | 0, h => absurd rfl h
  | K + 1, h => by
    by_cases e : g K = some o
    · exact ⟨K, by omega, e⟩
    · obtain ⟨k, k1, k2⟩ := xs_cnt_ex (g := g) (o := o) K (by
        have e2 : xs_cnt g o (K + 1) = xs_cnt g o K + (if g K = some o then 1 else 0) := rfl
        rw [if_neg e] at e2
        omega)
      exact ⟨k, by omega, k2⟩
theorem xs_used_ex {O : xs_O} {o : Nat} (h : xs_used O o = true) : ∃ k, k < 42 ∧ O.1 k = some o := xs_cnt_ex 42 (xs_used_iff.mp h)

set_option maxRecDepth 20000 in
set_option maxHeartbeats 4000000 in
theorem l_mused {E : xk_E} {n : Nat} {r : xk_P} {Q : xk_Q} {m : xk_M} {O : xs_O} (hO : xm_O O m) (hb : ∀ k o, k < 42 → O.1 k = some o → o < 16) {o : Nat} (hn : 74 ≤ n) (hS : xr_S r n) (h6 : ∀ k, k < 6 → O.1 k = none) (ho : o < 16) (h1 : xs_used O o = true → Q (some (.inl (nI 1))) n m r) (h0 : xs_used O o = false → Q (some (.inl (nI 0))) n m r) : ∀ (k : Nat) (i : Nat), 42 - i < k → 6 ≤ i → i ≤ 42 → (∀ j, j < i → O.1 j ≠ some o) → xk_W E m_M_used 3 [some (.inr (some 53)), some (.inl (nI o)), some (.inl (nI i))] [] n m r 0 0 Q := by
  intro k
  induction k with
  | zero => intro i h; exact absurd h (Nat.not_lt_zero _)
  | succ k ih =>
    intro i hk hi1 hi2 hj
    refine xk_iload_n (pc := 3) d_M_used_3 rfl ?_
    refine xk_bipush (pc := 4) (v := nI 42) d_M_used_4 (by decide) ?_
    first | refine xk_icmp_geN (pc := 6) (tgt := 27) d_M_used_6 rfl (by omega) (by omega) (fun c_6 => ?_) (fun c_6 => ?_) | refine xk_icmp_ge (pc := 6) (tgt := 27) d_M_used_6 rfl (fun c_6 => ?_) (fun c_6 => ?_)
    · refine xk_iconst (pc := 27) (v := nI 0) d_M_used_27 (by decide) ?_
      refine xk_zret (pc := 28) rfl d_M_used_28 rfl rfl (Nat.le_of_ble_eq_true rfl) (Nat.le_of_ble_eq_true rfl) ?_
      refine h0 ?_
      cases hx : xs_used O o with
      | false => rfl
      | true =>
        obtain ⟨k, k1, k2⟩ := xs_used_ex hx
        exact absurd k2 (hj k (by omega))
    · refine xk_aload_n (pc := 9) d_M_used_9 rfl ?_
      refine xk_getRo (pc := 10) d_M_used_10 fl_M_47 (by first | rfl | assumption) rfl (by omega) (by omega) (hS _ _ _ rfl (by omega)) ?_
      refine xk_iload_n (pc := 13) d_M_used_13 rfl ?_
      refine xk_ialoado (pc := 14) d_M_used_14 (by first | rfl | assumption) (by omega) (by omega) rfl (by omega) (by decide) (hO.1 i c_6) ?_
      refine xk_iload_n (pc := 15) d_M_used_15 rfl ?_
      refine xk_icmp_ne (pc := 16) (tgt := 21) d_M_used_16 rfl (fun c_16 => ?_) (fun c_16 => ?_)
      · refine xk_iincN (pc := 21) (d := 1) d_M_used_21 rfl ?_
        refine xk_goto (pc := 24) (tgt := 3) d_M_used_24 rfl ?_
        exact ih (i + 1) (by omega) (by omega) (by omega) (fun j b => by
          by_cases e : j = i
          · subst e
            intro hq
            exact c_16 ((xm_oi_eq (by omega) (fun o' h => hb j o' c_6 h)).mpr hq)
          · exact hj j (by omega))
      · refine xk_iconst (pc := 19) (v := nI 1) d_M_used_19 (by decide) ?_
        refine xk_zret (pc := 20) rfl d_M_used_20 rfl rfl (Nat.le_of_ble_eq_true rfl) (Nat.le_of_ble_eq_true rfl) ?_
        exact h1 (xs_used_of c_6 ((xm_oi_eq (by omega) (fun o' h => hb i o' c_6 h)).mp c_16))

set_option maxRecDepth 20000 in
set_option maxHeartbeats 4000000 in
theorem c_M_used {E : xk_E} {n : Nat} {m : xk_M} {r : xk_P} {Q : xk_Q} (hn : 74 ≤ n) (hS : xr_S r n) {O : xs_O} (hO : xm_O O m) (hb : ∀ k o, k < 42 → O.1 k = some o → o < 16) (h6 : ∀ k, k < 6 → O.1 k = none) {o : Nat} (ho : o < 16) (h1 : xs_used O o = true → Q (some (.inl (nI 1))) n m r) (h0 : xs_used O o = false → Q (some (.inl (nI 0))) n m r) : xk_W E m_M_used 0 (xk_ent m_M_used [.inr (some 53), .inl (nI o)]) [] n m r 0 0 Q := by
  show xk_W E m_M_used 0 [some (.inr (some 53)), some (.inl (nI o)), none] [] n m r 0 0 Q
  refine xk_bipush (pc := 0) (v := nI 6) d_M_used_0 (by decide) ?_
  refine xk_istore_n (pc := 2) d_M_used_2 (by decide) ?_
  exact l_mused hO hb hn hS h6 ho h1 h0 37 6 (by omega) (by omega) (by omega) (fun j b e => by rw [h6 j b] at e; cases e)

set_option maxRecDepth 20000 in
set_option maxHeartbeats 4000000 in
theorem l_M_openFile {E : xk_E} {n : Nat} {r : xk_P} {Q : xk_Q} {m : xk_M} {O : xs_O} (hO : xm_O O m) (hb : ∀ k o, k < 42 → O.1 k = some o → o < 16) (h6 : ∀ k, k < 6 → O.1 k = none) (hkw : ∀ o, o < 16 → xs_used O o = true → O.2.1 o ≤ 2 ∧ O.2.2.1 o < 16) {f : Nat} (hf : f < 16) (hn : 74 ≤ n) (hS : xr_S r n) (h1 : xs_end O f 0 = true → Q (some (.inl (nI 1))) n m r) (h0 : xs_end O f 0 = false → Q (some (.inl (nI 0))) n m r) : ∀ (k : Nat) (i : Nat), 16 - i < k → i ≤ 16 → (∀ o, o < i → xs_used O o = true → O.2.1 o = 0 → O.2.2.1 o ≠ f) → xk_W E m_M_openFile 2 [some (.inr (some 53)), some (.inl (nI f)), some (.inl (nI i))] [] n m r 0 0 Q := by
  intro k
  induction k with
  | zero => intro i h; exact absurd h (Nat.not_lt_zero _)
  | succ k ih =>
    intro i hk hi hj
    refine xk_iload_n (pc := 2) d_M_openFile_2 rfl ?_
    refine xk_bipush (pc := 3) (v := nI 16) d_M_openFile_3 (by decide) ?_
    first | refine xk_icmp_geN (pc := 5) (tgt := 43) d_M_openFile_5 rfl (by omega) (by omega) (fun c_5 => ?_) (fun c_5 => ?_) | refine xk_icmp_ge (pc := 5) (tgt := 43) d_M_openFile_5 rfl (fun c_5 => ?_) (fun c_5 => ?_)
    · refine xk_iconst (pc := 43) (v := nI 0) d_M_openFile_43 (by decide) ?_
      refine xk_zret (pc := 44) rfl d_M_openFile_44 rfl rfl (Nat.le_of_ble_eq_true rfl) (Nat.le_of_ble_eq_true rfl) ?_
      exact h0 (xs_end_f (fun o a b c => hj o (by omega) b c))
    · refine xk_aload_n (pc := 8) d_M_openFile_8 rfl ?_
      refine xk_iload_n (pc := 9) d_M_openFile_9 rfl ?_
      refine xk_cV1 (pc := 10) d_M_openFile_10 ml_M_82 cz_M_used ⟨rfl, rfl⟩ rfl (by first | rfl | assumption) (by omega) (by omega) (Nat.le_of_ble_eq_true rfl) ⟨(Nat.le_of_ble_eq_true rfl), (Nat.le_of_ble_eq_true rfl)⟩ ?_
      refine c_M_used hn hS hO hb h6 c_5 (fun hu => ?_) (fun hu => ?_)
      · obtain ⟨hk2, hw2⟩ := hkw i c_5 hu
        refine xk_if_eq (pc := 13) (tgt := 37) d_M_openFile_13 rfl (fun h => absurd h (by decide)) (fun _ => ?_)
        refine xk_aload_n (pc := 16) d_M_openFile_16 rfl ?_
        refine xk_getRo (pc := 17) d_M_openFile_17 fl_M_50 (by first | rfl | assumption) rfl (by omega) (by omega) (hS _ _ _ rfl (by omega)) ?_
        refine xk_iload_n (pc := 20) d_M_openFile_20 rfl ?_
        refine xk_ialoado (pc := 21) d_M_openFile_21 (by first | rfl | assumption) (by omega) (by omega) rfl (by omega) (by decide) (hO.2.1 i c_5) ?_
        first | refine xk_if_neN (pc := 22) (tgt := 37) d_M_openFile_22 rfl (by omega) (fun c_22 => ?_) (fun c_22 => ?_) | refine xk_if_ne (pc := 22) (tgt := 37) d_M_openFile_22 rfl (fun c_22 => ?_) (fun c_22 => ?_)
        · refine xk_iincN (pc := 37) (d := 1) d_M_openFile_37 rfl ?_
          refine xk_goto (pc := 40) (tgt := 2) d_M_openFile_40 rfl ?_
          exact ih (i + 1) (by omega) (by omega) (fun o b u k w => by
            by_cases q : o = i
            · subst q
              first
                | omega
                | (rw [hu] at u; cases u)
            · exact hj o (by omega) u k w)
        · refine xk_aload_n (pc := 25) d_M_openFile_25 rfl ?_
          refine xk_getRo (pc := 26) d_M_openFile_26 fl_M_53 (by first | rfl | assumption) rfl (by omega) (by omega) (hS _ _ _ rfl (by omega)) ?_
          refine xk_iload_n (pc := 29) d_M_openFile_29 rfl ?_
          refine xk_ialoado (pc := 30) d_M_openFile_30 (by first | rfl | assumption) (by omega) (by omega) rfl (by omega) (by decide) (hO.2.2.1 i c_5) ?_
          refine xk_iload_n (pc := 31) d_M_openFile_31 rfl ?_
          first | refine xk_icmp_neN (pc := 32) (tgt := 37) d_M_openFile_32 rfl (by omega) (by omega) (fun c_32 => ?_) (fun c_32 => ?_) | refine xk_icmp_ne (pc := 32) (tgt := 37) d_M_openFile_32 rfl (fun c_32 => ?_) (fun c_32 => ?_)
          · refine xk_iincN (pc := 37) (d := 1) d_M_openFile_37 rfl ?_
            refine xk_goto (pc := 40) (tgt := 2) d_M_openFile_40 rfl ?_
            exact ih (i + 1) (by omega) (by omega) (fun o b u k w => by
              by_cases q : o = i
              · subst q
                first
                  | omega
                  | (rw [hu] at u; cases u)
              · exact hj o (by omega) u k w)
          · refine xk_iconst (pc := 35) (v := nI 1) d_M_openFile_35 (by decide) ?_
            refine xk_zret (pc := 36) rfl d_M_openFile_36 rfl rfl (Nat.le_of_ble_eq_true rfl) (Nat.le_of_ble_eq_true rfl) ?_
            exact h1 (xs_end_iff.mpr ⟨i, c_5, hu, by omega, by omega⟩)
      · refine xk_if_eq (pc := 13) (tgt := 37) d_M_openFile_13 rfl (fun _ => ?_) (fun h => absurd (by decide) h)
        refine xk_iincN (pc := 37) (d := 1) d_M_openFile_37 rfl ?_
        refine xk_goto (pc := 40) (tgt := 2) d_M_openFile_40 rfl ?_
        exact ih (i + 1) (by omega) (by omega) (fun o b u k w => by
          by_cases q : o = i
          · subst q
            first
              | omega
              | (rw [hu] at u; cases u)
          · exact hj o (by omega) u k w)

set_option maxRecDepth 20000 in
set_option maxHeartbeats 4000000 in
theorem l_M_hasEnd {E : xk_E} {n : Nat} {r : xk_P} {Q : xk_Q} {m : xk_M} {O : xs_O} (hO : xm_O O m) (hb : ∀ k o, k < 42 → O.1 k = some o → o < 16) (h6 : ∀ k, k < 6 → O.1 k = none) (hkw : ∀ o, o < 16 → xs_used O o = true → O.2.1 o ≤ 2 ∧ O.2.2.1 o < 16) {f e : Nat} (hf : f ≤ 16) (he : e ≤ 2) (hn : 74 ≤ n) (hS : xr_S r n) (h1 : xs_end O f e = true → Q (some (.inl (nI 1))) n m r) (h0 : xs_end O f e = false → Q (some (.inl (nI 0))) n m r) : ∀ (k : Nat) (i : Nat), 16 - i < k → i ≤ 16 → (∀ o, o < i → xs_used O o = true → O.2.1 o = e → O.2.2.1 o ≠ f) → xk_W E m_M_hasEnd 2 [some (.inr (some 53)), some (.inl (nI f)), some (.inl (nI e)), some (.inl (nI i))] [] n m r 0 0 Q := by
  intro k
  induction k with
  | zero => intro i h; exact absurd h (Nat.not_lt_zero _)
  | succ k ih =>
    intro i hk hi hj
    refine xk_iload_n (pc := 2) d_M_hasEnd_2 rfl ?_
    refine xk_bipush (pc := 3) (v := nI 16) d_M_hasEnd_3 (by decide) ?_
    first | refine xk_icmp_geN (pc := 5) (tgt := 44) d_M_hasEnd_5 rfl (by omega) (by omega) (fun c_5 => ?_) (fun c_5 => ?_) | refine xk_icmp_ge (pc := 5) (tgt := 44) d_M_hasEnd_5 rfl (fun c_5 => ?_) (fun c_5 => ?_)
    · refine xk_iconst (pc := 44) (v := nI 0) d_M_hasEnd_44 (by decide) ?_
      refine xk_zret (pc := 45) rfl d_M_hasEnd_45 rfl rfl (Nat.le_of_ble_eq_true rfl) (Nat.le_of_ble_eq_true rfl) ?_
      exact h0 (xs_end_f (fun o a b c => hj o (by omega) b c))
    · refine xk_aload_n (pc := 8) d_M_hasEnd_8 rfl ?_
      refine xk_iload_n (pc := 9) d_M_hasEnd_9 rfl ?_
      refine xk_cV1 (pc := 10) d_M_hasEnd_10 ml_M_82 cz_M_used ⟨rfl, rfl⟩ rfl (by first | rfl | assumption) (by omega) (by omega) (Nat.le_of_ble_eq_true rfl) ⟨(Nat.le_of_ble_eq_true rfl), (Nat.le_of_ble_eq_true rfl)⟩ ?_
      refine c_M_used hn hS hO hb h6 c_5 (fun hu => ?_) (fun hu => ?_)
      · obtain ⟨hk2, hw2⟩ := hkw i c_5 hu
        refine xk_if_eq (pc := 13) (tgt := 38) d_M_hasEnd_13 rfl (fun h => absurd h (by decide)) (fun _ => ?_)
        refine xk_aload_n (pc := 16) d_M_hasEnd_16 rfl ?_
        refine xk_getRo (pc := 17) d_M_hasEnd_17 fl_M_50 (by first | rfl | assumption) rfl (by omega) (by omega) (hS _ _ _ rfl (by omega)) ?_
        refine xk_iload_n (pc := 20) d_M_hasEnd_20 rfl ?_
        refine xk_ialoado (pc := 21) d_M_hasEnd_21 (by first | rfl | assumption) (by omega) (by omega) rfl (by omega) (by decide) (hO.2.1 i c_5) ?_
        refine xk_iload_n (pc := 22) d_M_hasEnd_22 rfl ?_
        first | refine xk_icmp_neN (pc := 23) (tgt := 38) d_M_hasEnd_23 rfl (by omega) (by omega) (fun c_23 => ?_) (fun c_23 => ?_) | refine xk_icmp_ne (pc := 23) (tgt := 38) d_M_hasEnd_23 rfl (fun c_23 => ?_) (fun c_23 => ?_)
        · refine xk_iincN (pc := 38) (d := 1) d_M_hasEnd_38 rfl ?_
          refine xk_goto (pc := 41) (tgt := 2) d_M_hasEnd_41 rfl ?_
          exact ih (i + 1) (by omega) (by omega) (fun o b u k w => by
            by_cases q : o = i
            · subst q
              first
                | omega
                | (rw [hu] at u; cases u)
            · exact hj o (by omega) u k w)
        · refine xk_aload_n (pc := 26) d_M_hasEnd_26 rfl ?_
          refine xk_getRo (pc := 27) d_M_hasEnd_27 fl_M_53 (by first | rfl | assumption) rfl (by omega) (by omega) (hS _ _ _ rfl (by omega)) ?_
          refine xk_iload_n (pc := 30) d_M_hasEnd_30 rfl ?_
          refine xk_ialoado (pc := 31) d_M_hasEnd_31 (by first | rfl | assumption) (by omega) (by omega) rfl (by omega) (by decide) (hO.2.2.1 i c_5) ?_
          refine xk_iload_n (pc := 32) d_M_hasEnd_32 rfl ?_
          first | refine xk_icmp_neN (pc := 33) (tgt := 38) d_M_hasEnd_33 rfl (by omega) (by omega) (fun c_33 => ?_) (fun c_33 => ?_) | refine xk_icmp_ne (pc := 33) (tgt := 38) d_M_hasEnd_33 rfl (fun c_33 => ?_) (fun c_33 => ?_)
          · refine xk_iincN (pc := 38) (d := 1) d_M_hasEnd_38 rfl ?_
            refine xk_goto (pc := 41) (tgt := 2) d_M_hasEnd_41 rfl ?_
            exact ih (i + 1) (by omega) (by omega) (fun o b u k w => by
              by_cases q : o = i
              · subst q
                first
                  | omega
                  | (rw [hu] at u; cases u)
              · exact hj o (by omega) u k w)
          · refine xk_iconst (pc := 36) (v := nI 1) d_M_hasEnd_36 (by decide) ?_
            refine xk_zret (pc := 37) rfl d_M_hasEnd_37 rfl rfl (Nat.le_of_ble_eq_true rfl) (Nat.le_of_ble_eq_true rfl) ?_
            exact h1 (xs_end_iff.mpr ⟨i, c_5, hu, by omega, by omega⟩)
      · refine xk_if_eq (pc := 13) (tgt := 38) d_M_hasEnd_13 rfl (fun _ => ?_) (fun h => absurd (by decide) h)
        refine xk_iincN (pc := 38) (d := 1) d_M_hasEnd_38 rfl ?_
        refine xk_goto (pc := 41) (tgt := 2) d_M_hasEnd_41 rfl ?_
        exact ih (i + 1) (by omega) (by omega) (fun o b u k w => by
          by_cases q : o = i
          · subst q
            first
              | omega
              | (rw [hu] at u; cases u)
          · exact hj o (by omega) u k w)

set_option maxRecDepth 20000 in
set_option maxHeartbeats 4000000 in
theorem c_M_openFile {E : xk_E} {n : Nat} {m : xk_M} {r : xk_P} {Q : xk_Q} (hn : 74 ≤ n) (hS : xr_S r n) {O : xs_O} (hO : xm_O O m) (hb : ∀ k o, k < 42 → O.1 k = some o → o < 16) (h6 : ∀ k, k < 6 → O.1 k = none) (hkw : ∀ o, o < 16 → xs_used O o = true → O.2.1 o ≤ 2 ∧ O.2.2.1 o < 16) {f : Nat} (hf : f < 16) (h1 : xs_openF O f = true → Q (some (.inl (nI 1))) n m r) (h0 : xs_openF O f = false → Q (some (.inl (nI 0))) n m r) : xk_W E m_M_openFile 0 (xk_ent m_M_openFile [.inr (some 53), .inl (nI f)]) [] n m r 0 0 Q := by
  show xk_W E m_M_openFile 0 [some (.inr (some 53)), some (.inl (nI f)), none] [] n m r 0 0 Q
  refine xk_iconst (pc := 0) (v := nI 0) d_M_openFile_0 (by decide) ?_
  refine xk_istore_n (pc := 1) d_M_openFile_1 (by decide) ?_
  exact l_M_openFile hO hb h6 hkw hf hn hS h1 h0 17 0 (by omega) (by omega) (fun o b => by omega)

set_option maxRecDepth 20000 in
set_option maxHeartbeats 4000000 in
theorem c_M_hasEnd {E : xk_E} {n : Nat} {m : xk_M} {r : xk_P} {Q : xk_Q} (hn : 74 ≤ n) (hS : xr_S r n) {O : xs_O} (hO : xm_O O m) (hb : ∀ k o, k < 42 → O.1 k = some o → o < 16) (h6 : ∀ k, k < 6 → O.1 k = none) (hkw : ∀ o, o < 16 → xs_used O o = true → O.2.1 o ≤ 2 ∧ O.2.2.1 o < 16) {f e : Nat} (hf : f ≤ 16) (he : e ≤ 2) (h1 : xs_end O f e = true → Q (some (.inl (nI 1))) n m r) (h0 : xs_end O f e = false → Q (some (.inl (nI 0))) n m r) : xk_W E m_M_hasEnd 0 (xk_ent m_M_hasEnd [.inr (some 53), .inl (nI f), .inl (nI e)]) [] n m r 0 0 Q := by
  show xk_W E m_M_hasEnd 0 [some (.inr (some 53)), some (.inl (nI f)), some (.inl (nI e)), none] [] n m r 0 0 Q
  refine xk_iconst (pc := 0) (v := nI 0) d_M_hasEnd_0 (by decide) ?_
  refine xk_istore_n (pc := 1) d_M_hasEnd_1 (by decide) ?_
  exact l_M_hasEnd hO hb h6 hkw hf he hn hS h1 h0 17 0 (by omega) (by omega) (fun o b => by omega)

set_option maxRecDepth 20000 in
set_option maxHeartbeats 4000000 in
theorem l_mopenings {E : xk_E} {n : Nat} {r : xk_P} {Q : xk_Q} {m : xk_M} {O : xs_O} (hO : xm_O O m) (hb : ∀ k o, k < 42 → O.1 k = some o → o < 16) (h6 : ∀ k, k < 6 → O.1 k = none) (hn : 74 ≤ n) (hS : xr_S r n) (hQ : Q (some (.inl (nI (xs_ops O)))) n m r) : ∀ (k : Nat) (i : Nat), 16 - i < k → i ≤ 16 → xk_W E m_M_openings 4 [some (.inr (some 53)), some (.inl (nI (xs_num (xs_used O) i))), some (.inl (nI i))] [] n m r 0 0 Q := by
  intro k
  induction k with
  | zero => intro i h; exact absurd h (Nat.not_lt_zero _)
  | succ k ih =>
    intro i hk hi
    refine xk_iload_n (pc := 4) d_M_openings_4 rfl ?_
    refine xk_bipush (pc := 5) (v := nI 16) d_M_openings_5 (by decide) ?_
    first | refine xk_icmp_geN (pc := 7) (tgt := 27) d_M_openings_7 rfl (by omega) (by omega) (fun c_7 => ?_) (fun c_7 => ?_) | refine xk_icmp_ge (pc := 7) (tgt := 27) d_M_openings_7 rfl (fun c_7 => ?_) (fun c_7 => ?_)
    · have e : i = 16 := by omega
      subst e
      refine xk_iload_n (pc := 27) d_M_openings_27 rfl ?_
      refine xk_iret (pc := 28) rfl d_M_openings_28 rfl (Nat.le_of_ble_eq_true rfl) (Nat.le_of_ble_eq_true rfl) ?_
      exact hQ
    · refine xk_aload_n (pc := 10) d_M_openings_10 rfl ?_
      refine xk_iload_n (pc := 11) d_M_openings_11 rfl ?_
      refine xk_cV1 (pc := 12) d_M_openings_12 ml_M_82 cz_M_used ⟨rfl, rfl⟩ rfl (by first | rfl | assumption) (by omega) (by omega) (Nat.le_of_ble_eq_true rfl) ⟨(Nat.le_of_ble_eq_true rfl), (Nat.le_of_ble_eq_true rfl)⟩ ?_
      refine c_M_used hn hS hO hb h6 c_7 (fun hu => ?_) (fun hu => ?_)
      · have es : xs_num (xs_used O) (i + 1) = xs_num (xs_used O) i + 1 := by
          show xs_num (xs_used O) i + (if xs_used O i = true then 1 else 0) = _
          rw [if_pos hu]
        refine xk_if_eq (pc := 15) (tgt := 21) d_M_openings_15 rfl (fun h => absurd h (by decide)) (fun _ => ?_)
        refine xk_iincN (pc := 18) (d := 1) d_M_openings_18 rfl ?_
        refine xk_iincN (pc := 21) (d := 1) d_M_openings_21 rfl ?_
        refine xk_goto (pc := 24) (tgt := 4) d_M_openings_24 rfl ?_
        have K := ih (i + 1) (by omega) (by omega)
        rw [es] at K
        exact K
      · have es : xs_num (xs_used O) (i + 1) = xs_num (xs_used O) i := by
          show xs_num (xs_used O) i + (if xs_used O i = true then 1 else 0) = _
          rw [hu]
          rfl
        refine xk_if_eq (pc := 15) (tgt := 21) d_M_openings_15 rfl (fun _ => ?_) (fun h => absurd (by decide) h)
        refine xk_iincN (pc := 21) (d := 1) d_M_openings_21 rfl ?_
        refine xk_goto (pc := 24) (tgt := 4) d_M_openings_24 rfl ?_
        have K := ih (i + 1) (by omega) (by omega)
        rw [es] at K
        exact K

set_option maxRecDepth 20000 in
set_option maxHeartbeats 4000000 in
theorem c_M_openings {E : xk_E} {n : Nat} {m : xk_M} {r : xk_P} {Q : xk_Q} (hn : 74 ≤ n) (hS : xr_S r n) {O : xs_O} (hO : xm_O O m) (hb : ∀ k o, k < 42 → O.1 k = some o → o < 16) (h6 : ∀ k, k < 6 → O.1 k = none) (hQ : Q (some (.inl (nI (xs_ops O)))) n m r) : xk_W E m_M_openings 0 (xk_ent m_M_openings [.inr (some 53)]) [] n m r 0 0 Q := by
  show xk_W E m_M_openings 0 [some (.inr (some 53)), none, none] [] n m r 0 0 Q
  refine xk_iconst (pc := 0) (v := nI 0) d_M_openings_0 (by decide) ?_
  refine xk_istore_n (pc := 1) d_M_openings_1 (by decide) ?_
  refine xk_iconst (pc := 2) (v := nI 0) d_M_openings_2 (by decide) ?_
  refine xk_istore_n (pc := 3) d_M_openings_3 (by decide) ?_
  exact l_mopenings hO hb h6 hn hS hQ 17 0 (by omega) (by omega)

set_option maxRecDepth 20000 in
set_option maxHeartbeats 4000000 in
theorem l_mfree {E : xk_E} {n : Nat} {r : xk_P} {Q : xk_Q} {m : xk_M} {O : xs_O} (hO : xm_O O m) (hb : ∀ k o, k < 42 → O.1 k = some o → o < 16) {p d0 : Nat} (hn : 74 ≤ n) (hS : xr_S r n) (hp : p < 7) (h1 : ∀ d, xs_free O p d0 = some d → d < 6 → Q (some (.inl (nI d))) n m r) (h0 : xs_free O p d0 = none → Q (some (.inl (-1))) n m r) : ∀ (k : Nat) (i : Nat), 6 - i < k → d0 ≤ i → i ≤ 6 → (∀ j, d0 ≤ j → j < i → O.1 (6 * p + j) ≠ none) → xk_W E m_M_free 2 [some (.inr (some 53)), some (.inl (nI p)), some (.inl (nI d0)), some (.inl (nI i))] [] n m r 0 0 Q := by
  intro k
  induction k with
  | zero => intro i h; exact absurd h (Nat.not_lt_zero _)
  | succ k ih =>
    intro i hk hi1 hi2 hj
    refine xk_iload_n (pc := 2) d_M_free_2 rfl ?_
    refine xk_bipush (pc := 3) (v := nI 6) d_M_free_3 (by decide) ?_
    first | refine xk_icmp_geN (pc := 5) (tgt := 30) d_M_free_5 rfl (by omega) (by omega) (fun c_5 => ?_) (fun c_5 => ?_) | refine xk_icmp_ge (pc := 5) (tgt := 30) d_M_free_5 rfl (fun c_5 => ?_) (fun c_5 => ?_)
    · refine xk_iconst (pc := 30) (v := (-1)) d_M_free_30 (by decide) ?_
      refine xk_iret (pc := 31) rfl d_M_free_31 rfl (Nat.le_of_ble_eq_true rfl) (Nat.le_of_ble_eq_true rfl) ?_
      exact h0 (xs_least_n (fun j a b => decide_eq_false (hj j a (by omega))))
    · refine xk_aload_n (pc := 8) d_M_free_8 rfl ?_
      refine xk_getRo (pc := 9) d_M_free_9 fl_M_47 (by first | rfl | assumption) rfl (by omega) (by omega) (hS _ _ _ rfl (by omega)) ?_
      refine xk_bipush (pc := 12) (v := nI 6) d_M_free_12 (by decide) ?_
      refine xk_iload_n (pc := 14) d_M_free_14 rfl ?_
      first | refine xk_imulN (pc := 15) d_M_free_15 ?_ | refine xk_imul (pc := 15) d_M_free_15 ?_
      refine xk_iload_n (pc := 16) d_M_free_16 rfl ?_
      first | refine xk_iaddN (pc := 17) d_M_free_17 ?_ | refine xk_iadd (pc := 17) d_M_free_17 ?_
      refine xk_ialoado (pc := 18) d_M_free_18 (by first | rfl | assumption) (by omega) (by omega) rfl (by omega) (by decide) (hO.1 (6 * p + i) (by omega)) ?_
      refine xk_if_ge (pc := 19) (tgt := 24) d_M_free_19 rfl (fun c_19 => ?_) (fun c_19 => ?_)
      · refine xk_iincN (pc := 24) (d := 1) d_M_free_24 rfl ?_
        refine xk_goto (pc := 27) (tgt := 2) d_M_free_27 rfl ?_
        exact ih (i + 1) (by omega) (by omega) (by omega) (fun j a b => by
          by_cases e : j = i
          · subst e
            exact (xm_oi_ge (fun o' h => hb _ o' (by omega) h)).mp c_19
          · exact hj j a (by omega))
      · refine xk_iload_n (pc := 22) d_M_free_22 rfl ?_
        refine xk_iret (pc := 23) rfl d_M_free_23 rfl (Nat.le_of_ble_eq_true rfl) (Nat.le_of_ble_eq_true rfl) ?_
        have e : O.1 (6 * p + i) = none := Classical.byContradiction (fun z => c_19 ((xm_oi_ge (fun o' h => hb _ o' (by omega) h)).mpr z))
        exact h1 i (xs_least_s hi1 (by omega) (decide_eq_true e) (fun j a b => decide_eq_false (hj j a b))) c_5

set_option maxRecDepth 20000 in
set_option maxHeartbeats 4000000 in
theorem c_M_free {E : xk_E} {n : Nat} {m : xk_M} {r : xk_P} {Q : xk_Q} (hn : 74 ≤ n) (hS : xr_S r n) {O : xs_O} (hO : xm_O O m) (hb : ∀ k o, k < 42 → O.1 k = some o → o < 16) {p d0 : Nat} (hp : p < 7) (hd0 : d0 ≤ 6) (h1 : ∀ d, xs_free O p d0 = some d → d < 6 → Q (some (.inl (nI d))) n m r) (h0 : xs_free O p d0 = none → Q (some (.inl (-1))) n m r) : xk_W E m_M_free 0 (xk_ent m_M_free [.inr (some 53), .inl (nI p), .inl (nI d0)]) [] n m r 0 0 Q := by
  show xk_W E m_M_free 0 [some (.inr (some 53)), some (.inl (nI p)), some (.inl (nI d0)), none] [] n m r 0 0 Q
  refine xk_iload_n (pc := 0) d_M_free_0 rfl ?_
  refine xk_istore_n (pc := 1) d_M_free_1 (by decide) ?_
  exact l_mfree hO hb hn hS hp h1 h0 (6 - d0 + 1) d0 (by omega) (Nat.le_refl _) hd0 (fun j a b => by omega)

set_option maxRecDepth 20000 in
set_option maxHeartbeats 4000000 in
theorem l_mnew {E : xk_E} {n : Nat} {r : xk_P} {Q : xk_Q} {m : xk_M} {O : xs_O} (hO : xm_O O m) (hb : ∀ k o, k < 42 → O.1 k = some o → o < 16) (h6 : ∀ k, k < 6 → O.1 k = none) {v1 v2 v3 : Int32} {o : Nat} (hn : 74 ≤ n) (hS : xr_S r n) (hl : xs_least (fun o => !xs_used O o) 0 16 = some o) (hQ : Q (some (.inl (nI o))) n (xk_up (xk_up (xk_up (xk_up m 67 o v1) 68 o v2) 69 o v3) 70 o (nI 0)) r) : ∀ (k : Nat) (i : Nat), o - i < k → i ≤ o → xk_W E m_M_newOpening 3 [some (.inr (some 53)), some (.inl v1), some (.inl v2), some (.inl v3), some (.inl (nI i))] [] n m r 0 0 Q := by
  intro k
  induction k with
  | zero => intro i h; exact absurd h (Nat.not_lt_zero _)
  | succ k ih =>
    intro i hk hi
    obtain ⟨l1, l2, l3, l4⟩ := xs_least_sp hl
    have hi16 : i < 16 := by omega
    refine xk_aload_n (pc := 3) d_M_newOpening_3 rfl ?_
    refine xk_iload (pc := 4) d_M_newOpening_4 rfl ?_
    refine xk_cV1 (pc := 6) d_M_newOpening_6 ml_M_82 cz_M_used ⟨rfl, rfl⟩ rfl (by first | rfl | assumption) (by omega) (by omega) (Nat.le_of_ble_eq_true rfl) ⟨(Nat.le_of_ble_eq_true rfl), (Nat.le_of_ble_eq_true rfl)⟩ ?_
    refine c_M_used hn hS hO hb h6 hi16 (fun hu => ?_) (fun hu => ?_)
    · have hio : i ≠ o := fun z => by subst z; rw [hu] at l3; cases l3
      refine xk_if_eq (pc := 9) (tgt := 18) d_M_newOpening_9 rfl (fun h => absurd h (by decide)) (fun _ => ?_)
      refine xk_iincN (pc := 12) (d := 1) d_M_newOpening_12 rfl ?_
      refine xk_goto (pc := 15) (tgt := 3) d_M_newOpening_15 rfl ?_
      exact ih (i + 1) (by omega) (by omega)
    · have hio : i = o := by
        refine Classical.byContradiction (fun z => ?_)
        have := l4 i (by omega) (by omega)
        rw [hu] at this
        cases this
      subst hio
      refine xk_if_eq (pc := 9) (tgt := 18) d_M_newOpening_9 rfl (fun _ => ?_) (fun h => absurd (by decide) h)
      refine xk_aload_n (pc := 18) d_M_newOpening_18 rfl ?_
      refine xk_getRo (pc := 19) d_M_newOpening_19 fl_M_50 (by first | rfl | assumption) rfl (by omega) (by omega) (hS _ _ _ rfl (by omega)) ?_
      refine xk_iload (pc := 22) d_M_newOpening_22 rfl ?_
      refine xk_iload_n (pc := 24) d_M_newOpening_24 rfl ?_
      refine xk_iastore (pc := 25) d_M_newOpening_25 (by first | rfl | assumption) (by omega) (by omega) rfl (by omega) (by decide) ?_
      refine xk_aload_n (pc := 26) d_M_newOpening_26 rfl ?_
      refine xk_getRo (pc := 27) d_M_newOpening_27 fl_M_53 (by first | rfl | assumption) rfl (by omega) (by omega) (hS _ _ _ rfl (by omega)) ?_
      refine xk_iload (pc := 30) d_M_newOpening_30 rfl ?_
      refine xk_iload_n (pc := 32) d_M_newOpening_32 rfl ?_
      refine xk_iastore (pc := 33) d_M_newOpening_33 (by first | rfl | assumption) (by omega) (by omega) rfl (by omega) (by decide) ?_
      refine xk_aload_n (pc := 34) d_M_newOpening_34 rfl ?_
      refine xk_getRo (pc := 35) d_M_newOpening_35 fl_M_56 (by first | rfl | assumption) rfl (by omega) (by omega) (hS _ _ _ rfl (by omega)) ?_
      refine xk_iload (pc := 38) d_M_newOpening_38 rfl ?_
      refine xk_iload_n (pc := 40) d_M_newOpening_40 rfl ?_
      refine xk_iastore (pc := 41) d_M_newOpening_41 (by first | rfl | assumption) (by omega) (by omega) rfl (by omega) (by decide) ?_
      refine xk_aload_n (pc := 42) d_M_newOpening_42 rfl ?_
      refine xk_getRo (pc := 43) d_M_newOpening_43 fl_M_59 (by first | rfl | assumption) rfl (by omega) (by omega) (hS _ _ _ rfl (by omega)) ?_
      refine xk_iload (pc := 46) d_M_newOpening_46 rfl ?_
      refine xk_iconst (pc := 48) (v := nI 0) d_M_newOpening_48 (by decide) ?_
      refine xk_iastore (pc := 49) d_M_newOpening_49 (by first | rfl | assumption) (by omega) (by omega) rfl (by omega) (by decide) ?_
      refine xk_iload (pc := 50) d_M_newOpening_50 rfl ?_
      refine xk_iret (pc := 52) rfl d_M_newOpening_52 rfl (Nat.le_of_ble_eq_true rfl) (Nat.le_of_ble_eq_true rfl) ?_
      exact hQ

set_option maxRecDepth 20000 in
set_option maxHeartbeats 4000000 in
theorem c_M_newOpening {E : xk_E} {n : Nat} {m : xk_M} {r : xk_P} {Q : xk_Q} (hn : 74 ≤ n) (hS : xr_S r n) {O : xs_O} (hO : xm_O O m) (hb : ∀ k o, k < 42 → O.1 k = some o → o < 16) (h6 : ∀ k, k < 6 → O.1 k = none) {v1 v2 v3 : Int32} {o : Nat} (hl : xs_least (fun o => !xs_used O o) 0 16 = some o) (hQ : Q (some (.inl (nI o))) n (xk_up (xk_up (xk_up (xk_up m 67 o v1) 68 o v2) 69 o v3) 70 o (nI 0)) r) : xk_W E m_M_newOpening 0 (xk_ent m_M_newOpening [.inr (some 53), .inl v1, .inl v2, .inl v3]) [] n m r 0 0 Q := by
  show xk_W E m_M_newOpening 0 [some (.inr (some 53)), some (.inl v1), some (.inl v2), some (.inl v3), none] [] n m r 0 0 Q
  refine xk_iconst (pc := 0) (v := nI 0) d_M_newOpening_0 (by decide) ?_
  refine xk_istore (pc := 1) d_M_newOpening_1 (by decide) ?_
  exact l_mnew hO hb h6 hn hS hl hQ (o + 1) 0 (by omega) (by omega)

set_option maxRecDepth 20000 in
set_option maxHeartbeats 4000000 in
theorem c_M_opening {E : xk_E} {n : Nat} {m : xk_M} {r : xk_P} {Q : xk_Q} (hn : 74 ≤ n) (hS : xr_S r n) {T : xs_T} (hT : xm_T T m) (okT : xs_okT T) {O : xs_O} (hO : xm_O O m) (hb : ∀ k o, k < 42 → O.1 k = some o → o < 16) {x y : Int32} (h1 : ∀ p d o, xs_alive T x = some p → xs_nat y 6 = some d → x = nI p → y = nI d → p < 7 → 1 ≤ p → d < 6 → T.1 p = 1 → O.1 (6 * p + d) = some o → Q (some (.inl (nI o))) n m r) (h3 : ∀ p d, xs_alive T x = some p → xs_nat y 6 = some d → O.1 (6 * p + d) = none → Q (some (.inl (-3))) n m r) (h0 : (xs_alive T x = none ∨ xs_nat y 6 = none) → Q (some (.inl (-1))) n m r) : xk_W E m_M_opening 0 (xk_ent m_M_opening [.inr (some 53), .inl x, .inl y]) [] n m r 0 0 Q := by
  show xk_W E m_M_opening 0 [some (.inr (some 53)), some (.inl x), some (.inl y)] [] n m r 0 0 Q
  refine xk_aload_n (pc := 0) d_M_opening_0 rfl ?_
  refine xk_iload_n (pc := 1) d_M_opening_1 rfl ?_
  refine xk_cV1 (pc := 2) d_M_opening_2 ml_M_86 cz_M_alive ⟨rfl, rfl⟩ rfl (by first | rfl | assumption) (by omega) (by omega) (Nat.le_of_ble_eq_true rfl) ⟨(Nat.le_of_ble_eq_true rfl), (Nat.le_of_ble_eq_true rfl)⟩ ?_
  refine c_M_alive hn hS hT okT (fun p ep hp hp1 ex et => ?_) (fun ep => ?_)
  · subst ex
    refine xk_if_eq (pc := 5) (tgt := 17) d_M_opening_5 rfl (fun h => absurd h (by decide)) (fun _ => ?_)
    refine xk_iload_n (pc := 8) d_M_opening_8 rfl ?_
    refine xk_iconst (pc := 9) (v := nI 0) d_M_opening_9 (by decide) ?_
    refine xk_iconst (pc := 10) (v := nI 5) d_M_opening_10 (by decide) ?_
    refine xk_cS3 (pc := 11) d_M_opening_11 ml_M_78 cz_M_in ⟨rfl, rfl⟩ rfl (Nat.le_of_ble_eq_true rfl) ⟨(Nat.le_of_ble_eq_true rfl), (Nat.le_of_ble_eq_true rfl)⟩ ?_
    refine c_M_in (lo := 0) (hi := 5) (by decide) (by decide) (fun d _ hd ed => ?_) (fun end_ => ?_)
    · subst ed
      have end_ := xs_nat_nI (k := 6) (show d < 6 by omega) (by decide)
      refine xk_if_ne (pc := 14) (tgt := 19) d_M_opening_14 rfl (fun _ => ?_) (fun h => absurd h (by decide))
      refine xk_aload_n (pc := 19) d_M_opening_19 rfl ?_
      refine xk_getRo (pc := 20) d_M_opening_20 fl_M_47 (by first | rfl | assumption) rfl (by omega) (by omega) (hS _ _ _ rfl (by omega)) ?_
      refine xk_bipush (pc := 23) (v := nI 6) d_M_opening_23 (by decide) ?_
      refine xk_iload_n (pc := 25) d_M_opening_25 rfl ?_
      first | refine xk_imulN (pc := 26) d_M_opening_26 ?_ | refine xk_imul (pc := 26) d_M_opening_26 ?_
      refine xk_iload_n (pc := 27) d_M_opening_27 rfl ?_
      first | refine xk_iaddN (pc := 28) d_M_opening_28 ?_ | refine xk_iadd (pc := 28) d_M_opening_28 ?_
      refine xk_ialoado (pc := 29) d_M_opening_29 (by first | rfl | assumption) (by omega) (by omega) rfl (by omega) (by decide) (hO.1 (6 * p + d) (by omega)) ?_
      refine xk_if_ge (pc := 30) (tgt := 38) d_M_opening_30 rfl (fun c_30 => ?_) (fun c_30 => ?_)
      · refine xk_aload_n (pc := 38) d_M_opening_38 rfl ?_
        refine xk_getRo (pc := 39) d_M_opening_39 fl_M_47 (by first | rfl | assumption) rfl (by omega) (by omega) (hS _ _ _ rfl (by omega)) ?_
        refine xk_bipush (pc := 42) (v := nI 6) d_M_opening_42 (by decide) ?_
        refine xk_iload_n (pc := 44) d_M_opening_44 rfl ?_
        first | refine xk_imulN (pc := 45) d_M_opening_45 ?_ | refine xk_imul (pc := 45) d_M_opening_45 ?_
        refine xk_iload_n (pc := 46) d_M_opening_46 rfl ?_
        first | refine xk_iaddN (pc := 47) d_M_opening_47 ?_ | refine xk_iadd (pc := 47) d_M_opening_47 ?_
        refine xk_ialoado (pc := 48) d_M_opening_48 (by first | rfl | assumption) (by omega) (by omega) rfl (by omega) (by decide) (hO.1 (6 * p + d) (by omega)) ?_
        refine xk_iret (pc := 49) rfl d_M_opening_49 rfl (Nat.le_of_ble_eq_true rfl) (Nat.le_of_ble_eq_true rfl) ?_
        cases hq : O.1 (6 * p + d) with
        | none =>
          first
            | exact h3 p d ep end_ hq
            | exact absurd ((xm_oi_ge (fun o' h => hb _ o' (by omega) h)).mp c_30) (fun z => z hq)
        | some o =>
          first
            | exact h1 p d o ep end_ rfl rfl hp hp1 (by omega) et hq
            | exact absurd ((xm_oi_ge (fun o' h => hb _ o' (by omega) h)).mpr (by rw [hq]; intro z; cases z)) c_30
      · refine xk_bipush (pc := 33) (v := (-3)) d_M_opening_33 (by decide) ?_
        refine xk_goto (pc := 35) (tgt := 49) d_M_opening_35 rfl ?_
        refine xk_iret (pc := 49) rfl d_M_opening_49 rfl (Nat.le_of_ble_eq_true rfl) (Nat.le_of_ble_eq_true rfl) ?_
        cases hq : O.1 (6 * p + d) with
        | none =>
          first
            | exact h3 p d ep end_ hq
            | exact absurd ((xm_oi_ge (fun o' h => hb _ o' (by omega) h)).mp c_30) (fun z => z hq)
        | some o =>
          first
            | exact h1 p d o ep end_ rfl rfl hp hp1 (by omega) et hq
            | exact absurd ((xm_oi_ge (fun o' h => hb _ o' (by omega) h)).mpr (by rw [hq]; intro z; cases z)) c_30
    · replace end_ := xs_nat_out (k := 5) (by decide) end_
      refine xk_if_ne (pc := 14) (tgt := 19) d_M_opening_14 rfl (fun h => absurd (by decide) h) (fun _ => ?_)
      refine xk_iconst (pc := 17) (v := (-1)) d_M_opening_17 (by decide) ?_
      refine xk_iret (pc := 18) rfl d_M_opening_18 rfl (Nat.le_of_ble_eq_true rfl) (Nat.le_of_ble_eq_true rfl) ?_
      first | exact h0 (Or.inr end_) | exact h0 (Or.inl ep)
  · refine xk_if_eq (pc := 5) (tgt := 17) d_M_opening_5 rfl (fun _ => ?_) (fun h => absurd (by decide) h)
    refine xk_iconst (pc := 17) (v := (-1)) d_M_opening_17 (by decide) ?_
    refine xk_iret (pc := 18) rfl d_M_opening_18 rfl (Nat.le_of_ble_eq_true rfl) (Nat.le_of_ble_eq_true rfl) ?_
    first | exact h0 (Or.inr end_) | exact h0 (Or.inl ep)
