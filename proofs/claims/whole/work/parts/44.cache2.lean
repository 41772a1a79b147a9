set_option maxRecDepth 20000 in
set_option maxHeartbeats 4000000 in
theorem c_Cache_writeOut {E : xk_E} {n : Nat} {m : xk_M} {r : xk_P} {Q : xk_Q} (hn : 74 ≤ n) (hS : xr_S r n) {h : xs_H} {x : xs_B} {j ln : Nat} (hR : xr_H h m) (hops : h.2.2.2.2.1 < 2 ^ 30) (htf : h.2.2.2.2.2 < 2 ^ 30) (hhl : h.2.1 x.1 ≤ 32) (hx8 : x.1 < 8) (hx4 : x.2.1 < 4) (hln : ln ≤ 32) (hl8 : m 8 x.1 = nI ln) (hj : j < 5) (hB : xr_B x (10 + 2 * j) m)
    (h1 : h.2.2.2.2.2 = 0 → ∀ m', xr_H (xs_wrh (xs_op h 1 x.1 x.2.1).1 ln x) m' → (∀ a, a ≠ 2 → a ≠ 4 → a ≠ 5 → a ≠ 6 → a ≠ 10 + 2 * j → m' a = m a) → (∀ k, m' (10 + 2 * j) k = if k = 2 then nI 0 else m (10 + 2 * j) k) → Q (some (.inl (nI 1))) n m' r)
    (h0 : h.2.2.2.2.2 ≠ 0 → ∀ m', xr_H (xs_op h 1 x.1 x.2.1).1 m' → (∀ a, a ≠ 2 → a ≠ 6 → m' a = m a) → Q (some (.inl (nI 0))) n m' r) : xk_W E m_Cache_writeOut 0 (xk_ent m_Cache_writeOut [.inr (some 7), .inr (some (10 + 2 * j))]) [] n m r 0 0 Q := by
  show xk_W E m_Cache_writeOut 0 [some (.inr (some 7)), some (.inr (some (10 + 2 * j)))] [] n m r 0 0 Q
  obtain ⟨hB0, hB1, hB2, hB3⟩ := hB
  rw [show 10 + 2 * j + 1 = 11 + 2 * j by omega] at hB3
  have hkb := xr_kd_blk j hj
  have hkc := xr_kd_bc j hj
  refine xk_aload_n (pc := 0) d_Cache_writeOut_0 rfl ?_
  refine xk_getRo (pc := 1) d_Cache_writeOut_1 fl_Cache_25 (by first | rfl | assumption) rfl (by omega) (by omega) (hS _ _ _ rfl (by omega)) ?_
  refine xk_aload_n (pc := 4) d_Cache_writeOut_4 rfl ?_
  refine xk_getIo (pc := 5) d_Cache_writeOut_5 fl_Cache_30 (by first | rfl | assumption) rfl (by omega) (by omega) hB0 ?_
  refine xk_aload_n (pc := 8) d_Cache_writeOut_8 rfl ?_
  refine xk_getIo (pc := 9) d_Cache_writeOut_9 fl_Cache_75 (by first | rfl | assumption) rfl (by omega) (by omega) hB1 ?_
  refine xk_aload_n (pc := 12) d_Cache_writeOut_12 rfl ?_
  refine xk_getRo (pc := 13) d_Cache_writeOut_13 fl_Cache_62 (by first | rfl | assumption) rfl (by omega) (by omega) (hS _ _ _ (xr_st_blk _ hj) (by omega)) ?_
  refine xk_aload_n (pc := 16) d_Cache_writeOut_16 rfl ?_
  refine xk_getRo (pc := 17) d_Cache_writeOut_17 fl_Cache_9 (by first | rfl | assumption) rfl (by omega) (by omega) (hS _ _ _ rfl (by omega)) ?_
  refine xk_aload_n (pc := 20) d_Cache_writeOut_20 rfl ?_
  refine xk_getIo (pc := 21) d_Cache_writeOut_21 fl_Cache_30 (by first | rfl | assumption) rfl (by omega) (by omega) hB0 ?_
  refine xk_ialoado (pc := 24) d_Cache_writeOut_24 (by first | rfl | assumption) (by omega) (by omega) rfl (by omega) (by decide) hl8 ?_
  refine xk_cV4 (pc := 25) d_Cache_writeOut_25 ml_Cache_78 cz_Host_writeBlock ⟨rfl, rfl⟩ rfl (by first | rfl | assumption) (by omega) (by omega) (Nat.le_of_ble_eq_true rfl) ⟨(Nat.le_of_ble_eq_true rfl), (Nat.le_of_ble_eq_true rfl)⟩ ?_
  refine c_Host_writeBlock (dt := x.2.2.1) hn hS hR hops htf hhl hx8 hx4 hln hkc (by omega) (by omega) hB3 (fun z m1 hR1 hm1 => ?_) (fun z m1 hR1 hm1 => ?_)
  · refine xk_if_ne (pc := 28) (tgt := 33) d_Cache_writeOut_28 rfl (fun _ => ?_) (fun h => absurd h (by decide))
    refine xk_aload_n (pc := 33) d_Cache_writeOut_33 rfl ?_
    refine xk_iconst (pc := 34) (v := nI 0) d_Cache_writeOut_34 (by decide) ?_
    refine xk_putI (pc := 35) d_Cache_writeOut_35 fl_Cache_33 (by first | rfl | assumption) rfl (fun q hq h => by cases hq; first | exact absurd h (by decide) | exact ⟨rfl, rfl, rfl⟩) ⟨rfl, rfl⟩ (by omega) (by omega) ?_
    refine xk_iconst (pc := 38) (v := nI 1) d_Cache_writeOut_38 (by decide) ?_
    refine xk_zret (pc := 39) rfl d_Cache_writeOut_39 rfl rfl (Nat.le_of_ble_eq_true rfl) (Nat.le_of_ble_eq_true rfl) ?_
    refine h1 z _ (xr_H_kept hR1 ?_ ?_ ?_ ?_ ?_) (fun a e2 e4 e5 e6 ea => ?_) (fun k => ?_)
    · funext k; exact xk_up_a (by omega)
    · funext k; exact xk_up_a (by omega)
    · funext k; exact xk_up_a (by omega)
    · funext k; exact xk_up_a (by omega)
    · funext k; exact xk_up_a (by omega)
    · rw [← hm1 a e2 e4 e5 e6]; funext k; exact xk_up_a ea
    · by_cases e : k = 2
      · subst e; rw [xk_up_s, if_pos rfl]
      · rw [xk_up_k e, if_neg e, hm1 _ (by omega) (by omega) (by omega) (by omega)]
  · refine xk_if_ne (pc := 28) (tgt := 33) d_Cache_writeOut_28 rfl (fun h => absurd (by decide) h) (fun _ => ?_)
    refine xk_iconst (pc := 31) (v := nI 0) d_Cache_writeOut_31 (by decide) ?_
    refine xk_zret (pc := 32) rfl d_Cache_writeOut_32 rfl rfl (Nat.le_of_ble_eq_true rfl) (Nat.le_of_ble_eq_true rfl) ?_
    exact h0 z m1 hR1 hm1

theorem xs_wr_t {F : xs_F} {x : xs_B} (h : F.1.2.2.2.2.2 = 0) : xs_wr F x = ((xs_wrh (xs_op F.1 1 x.1 x.2.1).1 (F.2.1 x.1) x, F.2), true) := by
  unfold xs_wr
  rw [if_pos (show (xs_op F.1 1 x.1 x.2.1).2 = true from decide_eq_true h)]
  rfl
theorem xs_wr_f {F : xs_F} {x : xs_B} (h : F.1.2.2.2.2.2 ≠ 0) : xs_wr F x = (((xs_op F.1 1 x.1 x.2.1).1, F.2), false) := by
  unfold xs_wr
  rw [if_neg (show ¬ (xs_op F.1 1 x.1 x.2.1).2 = true from fun q => h (of_decide_eq_true q))]
theorem xr_B_kept {x : xs_B} {a : Nat} {m m' : xk_M} (h : xr_B x a m) (h0 : m' a = m a) (h1 : m' (a + 1) = m (a + 1)) : xr_B x a m' := by
  unfold xr_B
  rw [h0, h1]
  exact h
theorem xr_C_kept {l : List xs_B} {m m' : xk_M} {r r' : xk_P} (h : xr_C l m r) (hr : r' 9 = r 9) (h7 : m' 7 3 = m 7 3) (hm : ∀ a, 10 ≤ a → a < 20 → m' a = m a) : xr_C l m' r' := by
  obtain ⟨hz, hl5, β, hβ, hinj, hB⟩ := h
  refine ⟨h7.trans hz, hl5, β, fun i hi => ⟨(hβ i hi).1, by rw [hr]; exact (hβ i hi).2⟩, hinj, fun i x hx => ?_⟩
  have := (hβ i (by have := xs_lt hx; omega)).1
  exact xr_B_kept (hB i x hx) (hm _ (by omega) (by omega)) (hm _ (by omega) (by omega))
theorem xr_L_kept {ln : Nat → Nat} {m m' : xk_M} (h : xr_L ln m) (h8 : m' 8 = m 8) : xr_L ln m' := by
  unfold xr_L
  rw [h8]
  exact h
theorem xr_C_take {l : List xs_B} {m m' : xk_M} {r : xk_P} (h : xr_C l m r) (hl : l.length = 5) (h7 : m' 7 3 = nI 4) (hm : ∀ i, i < 5 → r 9 i ≠ r 9 4 → ∀ a, r 9 i = some a → m' a = m a ∧ m' (a + 1) = m (a + 1)) : xr_C (l.take 4) m' r := by
  obtain ⟨hz, hl5, β, hβ, hinj, hB⟩ := h
  refine ⟨by rw [List.length_take, hl]; exact h7, by rw [List.length_take]; omega, β, hβ, hinj, fun i x hx => ?_⟩
  have hi : i < 4 := by
    have := xs_lt hx
    rw [List.length_take] at this
    omega
  rw [List.getElem?_take_of_lt hi] at hx
  obtain ⟨b1, b2⟩ := hβ i (by omega)
  obtain ⟨c1, c2⟩ := hβ 4 (by omega)
  have hne : r 9 i ≠ r 9 4 := by
    rw [b2, c2]
    intro e
    have e2 := Option.some.inj e
    have := hinj i 4 (by omega) (by omega) (by omega)
    omega
  obtain ⟨g1, g2⟩ := hm i (by omega) hne _ b2
  exact xr_B_kept (hB i x hx) g1 g2

set_option maxRecDepth 20000 in
set_option maxHeartbeats 4000000 in
theorem c_Cache_makeRoom {E : xk_E} {n : Nat} {m : xk_M} {r : xk_P} {Q : xk_Q} (hn : 74 ≤ n) (hS : xr_S r n) {F : xs_F} (hF : xr_F F m r) (hok : xs_okF F) (hsm : xs_small F) (h1 : ∀ F' m', xs_rm F = (F', true) → xr_F F' m' r → (∀ a, 20 ≤ a → m' a = m a) → Q (some (.inl (nI 1))) n m' r) (h0 : ∀ F' m', xs_rm F = (F', false) → xr_F F' m' r → (∀ a, 20 ≤ a → m' a = m a) → Q (some (.inl (nI 0))) n m' r) : xk_W E m_Cache_makeRoom 0 (xk_ent m_Cache_makeRoom [.inr (some 7)]) [] n m r 0 0 Q := by
  show xk_W E m_Cache_makeRoom 0 [some (.inr (some 7)), none] [] n m r 0 0 Q
  obtain ⟨hz, hl5, β, hβ, hinj, hB⟩ := hF.2.2
  refine xk_aload_n (pc := 0) d_Cache_makeRoom_0 rfl ?_
  refine xk_getIo (pc := 1) d_Cache_makeRoom_1 fl_Cache_21 (by first | rfl | assumption) rfl (by omega) (by omega) hz ?_
  refine xk_iconst (pc := 4) (v := nI 5) d_Cache_makeRoom_4 (by decide) ?_
  first | refine xk_icmp_geN (pc := 5) (tgt := 10) d_Cache_makeRoom_5 rfl (by omega) (by omega) (fun c_5 => ?_) (fun c_5 => ?_) | refine xk_icmp_ge (pc := 5) (tgt := 10) d_Cache_makeRoom_5 rfl (fun c_5 => ?_) (fun c_5 => ?_)
  · have hlen : F.2.2.length = 5 := by omega
    obtain ⟨x, hx⟩ := xs_get_lt (l := F.2.2) (i := 4) (by omega)
    have e15 : F.2.2.length - 1 = 4 := by omega
    obtain ⟨hj, hr9'⟩ := hβ 4 (by omega)
    have hr9 : r 9 (F.2.2.length - 1) = some (10 + 2 * β 4) := by rw [e15]; exact hr9'
    have hB4 := hB 4 x hx
    have hB2 := hB4.2.2.1
    obtain ⟨hx8, hx4, hxd⟩ := hok.2.2.1 4 x hx
    have hkb := xr_kd_blk _ hj
    refine xk_aload_n (pc := 10) d_Cache_makeRoom_10 rfl ?_
    refine xk_getRo (pc := 11) d_Cache_makeRoom_11 fl_Cache_17 (by first | rfl | assumption) rfl (by omega) (by omega) (hS _ _ _ rfl (by omega)) ?_
    refine xk_aload_n (pc := 14) d_Cache_makeRoom_14 rfl ?_
    refine xk_getIo (pc := 15) d_Cache_makeRoom_15 fl_Cache_21 (by first | rfl | assumption) rfl (by omega) (by omega) hz ?_
    refine xk_iconst (pc := 18) (v := nI 1) d_Cache_makeRoom_18 (by decide) ?_
    first | refine xk_isubN (pc := 19) d_Cache_makeRoom_19 (by omega) ?_ | refine xk_isub (pc := 19) d_Cache_makeRoom_19 ?_
    refine xk_aaloado (pc := 20) d_Cache_makeRoom_20 (by first | rfl | assumption) (by decide) (by decide) (by omega) (by omega) rfl (by omega) (by decide) hr9 ?_
    refine xk_astore_n (pc := 21) d_Cache_makeRoom_21 (by decide) ?_
    refine xk_aload_n (pc := 22) d_Cache_makeRoom_22 rfl ?_
    refine xk_getIo (pc := 23) d_Cache_makeRoom_23 fl_Cache_33 (by first | rfl | assumption) rfl (by omega) (by omega) hB2 ?_
    first | refine xk_if_eqN (pc := 26) (tgt := 39) d_Cache_makeRoom_26 rfl (by omega) (fun c_26 => ?_) (fun c_26 => ?_) | refine xk_if_eq (pc := 26) (tgt := 39) d_Cache_makeRoom_26 rfl (fun c_26 => ?_) (fun c_26 => ?_)
    · rw [xs_bi_z] at c_26
      have hq7 := hz
      refine xk_aload_n (pc := 39) d_Cache_makeRoom_39 rfl ?_
      refine xk_dup (pc := 40) d_Cache_makeRoom_40 ?_
      refine xk_getIo (pc := 41) d_Cache_makeRoom_41 fl_Cache_21 (by first | rfl | assumption) rfl (by omega) (by omega) hq7 ?_
      refine xk_iconst (pc := 44) (v := nI 1) d_Cache_makeRoom_44 (by decide) ?_
      first | refine xk_isubN (pc := 45) d_Cache_makeRoom_45 (by omega) ?_ | refine xk_isub (pc := 45) d_Cache_makeRoom_45 ?_
      refine xk_putI (pc := 46) d_Cache_makeRoom_46 fl_Cache_21 (by first | rfl | assumption) rfl (fun q hq h => by cases hq; first | exact absurd h (by decide) | exact ⟨rfl, rfl, rfl⟩) ⟨rfl, rfl⟩ (by omega) (by omega) ?_
      refine xk_iconst (pc := 49) (v := nI 1) d_Cache_makeRoom_49 (by decide) ?_
      refine xk_zret (pc := 50) rfl d_Cache_makeRoom_50 rfl rfl (Nat.le_of_ble_eq_true rfl) (Nat.le_of_ble_eq_true rfl) ?_
      first
        | (have e : xs_rm F = ((F.1, F.2.1, F.2.2.take 4), true) := by
            unfold xs_rm
            rw [if_neg (by omega), hx]
            show (if x.2.2.1 = true then _ else _) = _
            rw [if_neg (by rw [c_26]; decide)]
           exact h1 _ _ e ⟨xr_H_kept hF.1 (by funext k; exact xk_up_a (by omega)) (by funext k; exact xk_up_a (by omega)) (by funext k; exact xk_up_a (by omega)) (by funext k; exact xk_up_a (by omega)) (by funext k; exact xk_up_a (by omega)), xr_L_kept hF.2.1 (by funext k; exact xk_up_a (by omega)), xr_C_take hF.2.2 hlen (by rw [xk_up_s, e15]) (fun i hi _ a ha => by
              have := (hβ i hi).2.symm.trans ha
              have := Option.some.inj this
              exact ⟨by funext k; exact xk_up_a (by omega), by funext k; exact xk_up_a (by omega)⟩)⟩ (fun a ha => by funext k; exact xk_up_a (by omega)))
        | (have e : xs_rm F = ((xs_wrh (xs_op F.1 1 x.1 x.2.1).1 (F.2.1 x.1) x, F.2.1, F.2.2.take 4), true) := by
            unfold xs_rm
            rw [if_neg (by omega), hx]
            show (if x.2.2.1 = true then _ else _) = _
            rw [if_pos c_27, xs_wr_t z]
            rfl
           exact h1 _ _ e ⟨xr_H_kept hR1 (by funext k; exact xk_up_a (by omega)) (by funext k; exact xk_up_a (by omega)) (by funext k; exact xk_up_a (by omega)) (by funext k; exact xk_up_a (by omega)) (by funext k; exact xk_up_a (by omega)), xr_L_kept hF.2.1 (by rw [← hm1 8 (by omega) (by omega) (by omega) (by omega) (by omega)]; funext k; exact xk_up_a (by omega)), xr_C_take hF.2.2 hlen (by rw [xk_up_s, e15]) (fun i hi hne a ha => by
              have h9 := (hβ i hi).2.symm.trans ha
              have h10 := Option.some.inj h9
              have h11 : β i ≠ β 4 := fun q => hne (by rw [(hβ i hi).2, hr9', q])
              have h12 := (hβ i hi).1
              exact ⟨by rw [← hm1 a (by omega) (by omega) (by omega) (by omega) (by omega)]; funext k; exact xk_up_a (by omega), by rw [← hm1 (a + 1) (by omega) (by omega) (by omega) (by omega) (by omega)]; funext k; exact xk_up_a (by omega)⟩)⟩ (fun a ha => by rw [← hm1 a (by omega) (by omega) (by omega) (by omega) (by omega)]; funext k; exact xk_up_a (by omega)))
    · have c_27 := xs_bi_nz c_26
      refine xk_aload_n (pc := 29) d_Cache_makeRoom_29 rfl ?_
      refine xk_aload_n (pc := 30) d_Cache_makeRoom_30 rfl ?_
      refine xk_cV1 (pc := 31) d_Cache_makeRoom_31 ml_Cache_49 cz_Cache_writeOut ⟨rfl, rfl⟩ rfl (by first | rfl | assumption) (by omega) (by omega) (Nat.le_of_ble_eq_true rfl) ⟨(Nat.le_of_ble_eq_true rfl), (Nat.le_of_ble_eq_true rfl)⟩ ?_
      unfold xs_small at hsm
      refine c_Cache_writeOut (h := F.1) (x := x) (ln := F.2.1 x.1) hn hS hF.1 (by omega) (by have := hok.2.2.2.2.2; omega) (by have := hok.1 x.1 hx8; omega) hx8 hx4 (hok.1 x.1 hx8).2 (hF.2.1 x.1 hx8) hj hB4 (fun z m1 hR1 hm1 hk1 => ?_) (fun z m1 hR1 hm1 => ?_)
      · have hq7 : m1 7 3 = nI F.2.2.length := by rw [hm1 7 (by omega) (by omega) (by omega) (by omega) (by omega)]; exact hz
        refine xk_if_ne (pc := 34) (tgt := 39) d_Cache_makeRoom_34 rfl (fun _ => ?_) (fun h => absurd h (by decide))
        refine xk_aload_n (pc := 39) d_Cache_makeRoom_39 rfl ?_
        refine xk_dup (pc := 40) d_Cache_makeRoom_40 ?_
        refine xk_getIo (pc := 41) d_Cache_makeRoom_41 fl_Cache_21 (by first | rfl | assumption) rfl (by omega) (by omega) hq7 ?_
        refine xk_iconst (pc := 44) (v := nI 1) d_Cache_makeRoom_44 (by decide) ?_
        first | refine xk_isubN (pc := 45) d_Cache_makeRoom_45 (by omega) ?_ | refine xk_isub (pc := 45) d_Cache_makeRoom_45 ?_
        refine xk_putI (pc := 46) d_Cache_makeRoom_46 fl_Cache_21 (by first | rfl | assumption) rfl (fun q hq h => by cases hq; first | exact absurd h (by decide) | exact ⟨rfl, rfl, rfl⟩) ⟨rfl, rfl⟩ (by omega) (by omega) ?_
        refine xk_iconst (pc := 49) (v := nI 1) d_Cache_makeRoom_49 (by decide) ?_
        refine xk_zret (pc := 50) rfl d_Cache_makeRoom_50 rfl rfl (Nat.le_of_ble_eq_true rfl) (Nat.le_of_ble_eq_true rfl) ?_
        first
          | (have e : xs_rm F = ((F.1, F.2.1, F.2.2.take 4), true) := by
              unfold xs_rm
              rw [if_neg (by omega), hx]
              show (if x.2.2.1 = true then _ else _) = _
              rw [if_neg (by rw [c_26]; decide)]
             exact h1 _ _ e ⟨xr_H_kept hF.1 (by funext k; exact xk_up_a (by omega)) (by funext k; exact xk_up_a (by omega)) (by funext k; exact xk_up_a (by omega)) (by funext k; exact xk_up_a (by omega)) (by funext k; exact xk_up_a (by omega)), xr_L_kept hF.2.1 (by funext k; exact xk_up_a (by omega)), xr_C_take hF.2.2 hlen (by rw [xk_up_s, e15]) (fun i hi _ a ha => by
                have := (hβ i hi).2.symm.trans ha
                have := Option.some.inj this
                exact ⟨by funext k; exact xk_up_a (by omega), by funext k; exact xk_up_a (by omega)⟩)⟩ (fun a ha => by funext k; exact xk_up_a (by omega)))
          | (have e : xs_rm F = ((xs_wrh (xs_op F.1 1 x.1 x.2.1).1 (F.2.1 x.1) x, F.2.1, F.2.2.take 4), true) := by
              unfold xs_rm
              rw [if_neg (by omega), hx]
              show (if x.2.2.1 = true then _ else _) = _
              rw [if_pos c_27, xs_wr_t z]
              rfl
             exact h1 _ _ e ⟨xr_H_kept hR1 (by funext k; exact xk_up_a (by omega)) (by funext k; exact xk_up_a (by omega)) (by funext k; exact xk_up_a (by omega)) (by funext k; exact xk_up_a (by omega)) (by funext k; exact xk_up_a (by omega)), xr_L_kept hF.2.1 (by rw [← hm1 8 (by omega) (by omega) (by omega) (by omega) (by omega)]; funext k; exact xk_up_a (by omega)), xr_C_take hF.2.2 hlen (by rw [xk_up_s, e15]) (fun i hi hne a ha => by
                have h9 := (hβ i hi).2.symm.trans ha
                have h10 := Option.some.inj h9
                have h11 : β i ≠ β 4 := fun q => hne (by rw [(hβ i hi).2, hr9', q])
                have h12 := (hβ i hi).1
                exact ⟨by rw [← hm1 a (by omega) (by omega) (by omega) (by omega) (by omega)]; funext k; exact xk_up_a (by omega), by rw [← hm1 (a + 1) (by omega) (by omega) (by omega) (by omega) (by omega)]; funext k; exact xk_up_a (by omega)⟩)⟩ (fun a ha => by rw [← hm1 a (by omega) (by omega) (by omega) (by omega) (by omega)]; funext k; exact xk_up_a (by omega)))
      · refine xk_if_ne (pc := 34) (tgt := 39) d_Cache_makeRoom_34 rfl (fun h => absurd (by decide) h) (fun _ => ?_)
        refine xk_iconst (pc := 37) (v := nI 0) d_Cache_makeRoom_37 (by decide) ?_
        refine xk_zret (pc := 38) rfl d_Cache_makeRoom_38 rfl rfl (Nat.le_of_ble_eq_true rfl) (Nat.le_of_ble_eq_true rfl) ?_
        have e : xs_rm F = (((xs_op F.1 1 x.1 x.2.1).1, F.2), false) := by
          unfold xs_rm
          rw [if_neg (by omega), hx]
          show (if x.2.2.1 = true then _ else _) = _
          rw [if_pos c_27, xs_wr_f z]
          rfl
        exact h0 _ m1 e ⟨hR1, xr_L_kept hF.2.1 (hm1 8 (by omega) (by omega)), xr_C_kept hF.2.2 rfl (by rw [hm1 7 (by omega) (by omega)]) (fun a _ _ => hm1 a (by omega) (by omega))⟩ (fun a _ => hm1 a (by omega) (by omega))
  · refine xk_iconst (pc := 8) (v := nI 1) d_Cache_makeRoom_8 (by decide) ?_
    refine xk_zret (pc := 9) rfl d_Cache_makeRoom_9 rfl rfl (Nat.le_of_ble_eq_true rfl) (Nat.le_of_ble_eq_true rfl) ?_
    have e : xs_rm F = (F, true) := if_pos c_5
    exact h1 F m e hF (fun _ _ => rfl)
