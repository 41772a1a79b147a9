theorem xr_C_clean {l : List xs_B} {m m' : xk_M} {r : xk_P} {β : Nat → Nat} {i : Nat} {x : xs_B} (hz : m 7 3 = nI l.length) (hl5 : l.length ≤ 5) (hβ : ∀ i, i < 5 → β i < 5 ∧ r 9 i = some (10 + 2 * β i)) (hinj : ∀ i j, i < 5 → j < 5 → β i = β j → i = j) (hB : ∀ (i : Nat) (x : xs_B), l[i]? = some x → xr_B x (10 + 2 * β i) m) (hx : l[i]? = some x) (h7 : m' 7 3 = m 7 3) (hm : ∀ a, 10 ≤ a → a < 20 → a ≠ 10 + 2 * β i → m' a = m a) (hd : ∀ k, m' (10 + 2 * β i) k = if k = 2 then nI 0 else m (10 + 2 * β i) k) : xr_C (l.set i (x.1, x.2.1, false, x.2.2.2)) m' r := by
  have hi := xs_lt hx
  refine ⟨by rw [List.length_set]; exact h7.trans hz, by rw [List.length_set]; exact hl5, β, hβ, hinj, fun j y hy => ?_⟩
  have hj : j < 5 := by
    have := xs_lt hy
    rw [List.length_set] at this
    omega
  have bj := (hβ j hj).1
  rw [List.getElem?_set] at hy
  split at hy
  · next e =>
    subst e
    cases hy
    obtain ⟨b0, b1, b2, b3⟩ := hB i x hx
    refine ⟨by rw [hd, if_neg (by decide)]; exact b0, by rw [hd, if_neg (by decide)]; exact b1, by rw [hd, if_pos rfl]; rfl, fun k hk => ?_⟩
    rw [hm _ (by omega) (by omega) (by omega)]
    exact b3 k hk
  · next e =>
    have hne : β j ≠ β i := fun q => e (hinj i j (by omega) hj q.symm)
    exact xr_B_kept (hB j y hy) (hm _ (by omega) (by omega) (by omega)) (hm _ (by omega) (by omega) (by omega))
theorem xs_sy_skip {F : xs_F} {f w b : Nat} (hb : b < 4) (h : F.2.2.findIdx? (xs_is f b) = none ∨ ∃ i x, F.2.2.findIdx? (xs_is f b) = some i ∧ F.2.2[i]? = some x ∧ x.2.2.1 = false) : xs_sy f (4 - b) w F = xs_sy f (4 - (b + 1)) w F := by
  obtain ⟨k, hk⟩ : ∃ k, 4 - b = k + 1 := ⟨3 - b, by omega⟩
  have hk2 : 4 - (b + 1) = k := by omega
  have hk3 : 3 - k = b := by omega
  rw [hk, hk2]
  show (match F.2.2.findIdx? (xs_is f (3 - k)) with | none => _ | some i => _) = _
  rw [hk3]
  rcases h with h | ⟨i, x, h1, h2, h3⟩
  · rw [h]
  · rw [h1]
    show (match F.2.2[i]? with | none => _ | some x => _) = _
    rw [h2]
    show (if x.2.2.1 = true then _ else _) = _
    rw [h3, if_neg (by decide)]
theorem xs_sy_t {F : xs_F} {f w b i : Nat} {x : xs_B} (hb : b < 4) (h1 : F.2.2.findIdx? (xs_is f b) = some i) (h2 : F.2.2[i]? = some x) (h3 : x.2.2.1 = true) (h4 : F.1.2.2.2.2.2 = 0) : xs_sy f (4 - b) w F = xs_sy f (4 - (b + 1)) (w + 1) (xs_wrh (xs_op F.1 1 x.1 x.2.1).1 (F.2.1 x.1) x, F.2.1, F.2.2.set i (x.1, x.2.1, false, x.2.2.2)) := by
  obtain ⟨k, hk⟩ : ∃ k, 4 - b = k + 1 := ⟨3 - b, by omega⟩
  have hk2 : 4 - (b + 1) = k := by omega
  have hk3 : 3 - k = b := by omega
  rw [hk, hk2]
  show (match F.2.2.findIdx? (xs_is f (3 - k)) with | none => _ | some i => _) = _
  rw [hk3, h1]
  show (match F.2.2[i]? with | none => _ | some x => _) = _
  rw [h2]
  show (if x.2.2.1 = true then _ else _) = _
  rw [if_pos h3, xs_wr_t h4, if_pos rfl]
theorem xs_sy_f {F : xs_F} {f w b i : Nat} {x : xs_B} (hb : b < 4) (h1 : F.2.2.findIdx? (xs_is f b) = some i) (h2 : F.2.2[i]? = some x) (h3 : x.2.2.1 = true) (h4 : F.1.2.2.2.2.2 ≠ 0) : xs_sy f (4 - b) w F = (-8, ((xs_op F.1 1 x.1 x.2.1).1, F.2)) := by
  obtain ⟨k, hk⟩ : ∃ k, 4 - b = k + 1 := ⟨3 - b, by omega⟩
  have hk3 : 3 - k = b := by omega
  rw [hk]
  show (match F.2.2.findIdx? (xs_is f (3 - k)) with | none => _ | some i => _) = _
  rw [hk3, h1]
  show (match F.2.2[i]? with | none => _ | some x => _) = _
  rw [h2]
  show (if x.2.2.1 = true then _ else _) = _
  rw [if_pos h3, xs_wr_f h4, if_neg (show ¬ (false = true) by decide)]
theorem xo_sy1 {F : xs_F} {i : Nat} {x : xs_B} (h : xs_okF F) (hx : F.2.2[i]? = some x) : xs_okF (xs_wrh (xs_op F.1 1 x.1 x.2.1).1 (F.2.1 x.1) x, F.2.1, F.2.2.set i (x.1, x.2.1, false, x.2.2.2)) :=
  xo_iff.mpr ⟨xo_wrh (xo_op (xo_iff.mp h).1 1 x.1 x.2.1) (h.2.2.1 i x hx).1, xo_set (xo_iff.mp h).2 hx⟩

set_option maxRecDepth 20000 in
set_option maxHeartbeats 4000000 in
theorem l_wfo {E : xk_E} {n : Nat} {Q : xk_Q} {r : xk_P} {f : Nat} (hn : 74 ≤ n) (hS : xr_S r n) (hf : f < 8) : ∀ (k : Nat) (b w : Nat) (F : xs_F) (m : xk_M) (v4 : Option xk_V), 4 - b < k → b ≤ 4 → xr_F F m r → xs_okF F → F.1.2.2.2.2.1 + (4 - b) < 2 ^ 20 → (∀ m', xr_F (xs_sy f (4 - b) w F).2 m' r → (∀ a, 20 ≤ a → m' a = m a) → Q (some (.inl (xs_sy f (4 - b) w F).1)) n m' r) → xk_W E m_Cache_writeFileOut 4 [some (.inr (some 7)), some (.inl (nI f)), some (.inl (nI w)), some (.inl (nI b)), v4] [] n m r 0 0 Q := by
  intro k
  induction k with
  | zero => intro b w F m v4 h; exact absurd h (Nat.not_lt_zero _)
  | succ k ih =>
    intro b w F m v4 hk hb hF hok hsm hQ
    refine xk_iload_n (pc := 4) d_Cache_writeFileOut_4 rfl ?_
    refine xk_iconst (pc := 5) (v := nI 4) d_Cache_writeFileOut_5 (by decide) ?_
    first | refine xk_icmp_geN (pc := 6) (tgt := 62) d_Cache_writeFileOut_6 rfl (by omega) (by omega) (fun c_6 => ?_) (fun c_6 => ?_) | refine xk_icmp_ge (pc := 6) (tgt := 62) d_Cache_writeFileOut_6 rfl (fun c_6 => ?_) (fun c_6 => ?_)
    · have e : b = 4 := by omega
      subst e
      refine xk_iload_n (pc := 62) d_Cache_writeFileOut_62 rfl ?_
      refine xk_iret (pc := 63) rfl d_Cache_writeFileOut_63 rfl (Nat.le_of_ble_eq_true rfl) (Nat.le_of_ble_eq_true rfl) ?_
      exact hQ m hF (fun _ _ => rfl)
    · refine xk_aload_n (pc := 9) d_Cache_writeFileOut_9 rfl ?_
      refine xk_iload_n (pc := 10) d_Cache_writeFileOut_10 rfl ?_
      refine xk_iload_n (pc := 11) d_Cache_writeFileOut_11 rfl ?_
      refine xk_cV2 (pc := 12) d_Cache_writeFileOut_12 ml_Cache_37 cz_Cache_find ⟨rfl, rfl⟩ rfl (by first | rfl | assumption) (by omega) (by omega) (Nat.le_of_ble_eq_true rfl) ⟨(Nat.le_of_ble_eq_true rfl), (Nat.le_of_ble_eq_true rfl)⟩ ?_
      refine c_Cache_find hn hS hF hok hf c_6 (fun i ei hi => ?_) (fun ei => ?_)
      · obtain ⟨x, hx, hx1, hx2⟩ := xs_fi_is ei
        obtain ⟨hz, hl5, β, hβ, hinj, hB⟩ := hF.2.2
        have hi5 : i < 5 := by omega
        obtain ⟨hj, hr9⟩ := hβ i hi5
        have hBi := hB i x hx
        have hkb := xr_kd_blk _ hj
        obtain ⟨hx8, hx4, hxd⟩ := hok.2.2.1 i x hx
        refine xk_istore (pc := 15) d_Cache_writeFileOut_15 (by decide) ?_
        refine xk_iload (pc := 17) d_Cache_writeFileOut_17 rfl ?_
        refine xk_iconst (pc := 19) (v := (-1)) d_Cache_writeFileOut_19 (by decide) ?_
        first | refine xk_icmp_eqN (pc := 20) (tgt := 56) d_Cache_writeFileOut_20 rfl (by omega) (by omega) (fun c_20 => ?_) (fun c_20 => ?_) | refine xk_icmp_eq (pc := 20) (tgt := 56) d_Cache_writeFileOut_20 rfl (fun c_20 => ?_) (fun c_20 => ?_)
        · exact absurd c_20 (xs_nm1 (by omega))
        · refine xk_aload_n (pc := 23) d_Cache_writeFileOut_23 rfl ?_
          refine xk_getRo (pc := 24) d_Cache_writeFileOut_24 fl_Cache_17 (by first | rfl | assumption) rfl (by omega) (by omega) (hS _ _ _ rfl (by omega)) ?_
          refine xk_iload (pc := 27) d_Cache_writeFileOut_27 rfl ?_
          refine xk_aaloado (pc := 29) d_Cache_writeFileOut_29 (by first | rfl | assumption) (by decide) (by decide) (by omega) (by omega) rfl (by omega) (by decide) hr9 ?_
          refine xk_getIo (pc := 30) d_Cache_writeFileOut_30 fl_Cache_33 (by first | rfl | assumption) rfl (by omega) (by omega) hBi.2.2.1 ?_
          first | refine xk_if_eqN (pc := 33) (tgt := 56) d_Cache_writeFileOut_33 rfl (by omega) (fun c_33 => ?_) (fun c_33 => ?_) | refine xk_if_eq (pc := 33) (tgt := 56) d_Cache_writeFileOut_33 rfl (fun c_33 => ?_) (fun c_33 => ?_)
          · rw [xs_bi_z] at c_33
            rw [xs_sy_skip c_6 (Or.inr ⟨i, x, ei, hx, c_33⟩)] at hQ
            refine xk_iincN (pc := 56) (d := 1) d_Cache_writeFileOut_56 rfl ?_
            refine xk_goto (pc := 59) (tgt := 4) d_Cache_writeFileOut_59 rfl ?_
            first
              | (have hC := xr_C_clean hz hl5 hβ hinj hB hx (by rw [hm1 7 (by omega) (by omega) (by omega) (by omega) (by omega)]) (fun a _ _ ha => hm1 a (by omega) (by omega) (by omega) (by omega) ha) hk1
                 rw [xs_sy_t c_6 ei hx c_34 z] at hQ
                 exact ih (b + 1) (w + 1) (xs_wrh (xs_op F.1 1 x.1 x.2.1).1 (F.2.1 x.1) x, F.2.1, F.2.2.set i (x.1, x.2.1, false, x.2.2.2)) m1 _ (by omega) (by omega) ⟨hR1, xr_L_kept hF.2.1 (hm1 8 (by omega) (by omega) (by omega) (by omega) (by omega)), hC⟩ (xo_sy1 hok hx) (by show F.1.2.2.2.2.1 + 1 + (4 - (b + 1)) < 2 ^ 20; omega) (fun m2 hF2 hm2 => hQ m2 hF2 (fun a ha => (hm2 a ha).trans (hm1 a (by omega) (by omega) (by omega) (by omega) (by omega)))))
              | exact ih (b + 1) w F m _ (by omega) (by omega) hF hok (by omega) hQ
          · have c_34 := xs_bi_nz c_33
            refine xk_aload_n (pc := 36) d_Cache_writeFileOut_36 rfl ?_
            refine xk_aload_n (pc := 37) d_Cache_writeFileOut_37 rfl ?_
            refine xk_getRo (pc := 38) d_Cache_writeFileOut_38 fl_Cache_17 (by first | rfl | assumption) rfl (by omega) (by omega) (hS _ _ _ rfl (by omega)) ?_
            refine xk_iload (pc := 41) d_Cache_writeFileOut_41 rfl ?_
            refine xk_aaloado (pc := 43) d_Cache_writeFileOut_43 (by first | rfl | assumption) (by decide) (by decide) (by omega) (by omega) rfl (by omega) (by decide) hr9 ?_
            refine xk_cV1 (pc := 44) d_Cache_writeFileOut_44 ml_Cache_49 cz_Cache_writeOut ⟨rfl, rfl⟩ rfl (by first | rfl | assumption) (by omega) (by omega) (Nat.le_of_ble_eq_true rfl) ⟨(Nat.le_of_ble_eq_true rfl), (Nat.le_of_ble_eq_true rfl)⟩ ?_
            refine c_Cache_writeOut (h := F.1) (x := x) (ln := F.2.1 x.1) hn hS hF.1 (by omega) (by have := hok.2.2.2.2.2; omega) (by have := hok.1 x.1 hx8; omega) hx8 hx4 (hok.1 x.1 hx8).2 (hF.2.1 x.1 hx8) hj hBi (fun z m1 hR1 hm1 hk1 => ?_) (fun z m1 hR1 hm1 => ?_)
            · refine xk_if_ne (pc := 47) (tgt := 53) d_Cache_writeFileOut_47 rfl (fun _ => ?_) (fun h => absurd h (by decide))
              refine xk_iincN (pc := 53) (d := 1) d_Cache_writeFileOut_53 rfl ?_
              refine xk_iincN (pc := 56) (d := 1) d_Cache_writeFileOut_56 rfl ?_
              refine xk_goto (pc := 59) (tgt := 4) d_Cache_writeFileOut_59 rfl ?_
              first
                | (have hC := xr_C_clean hz hl5 hβ hinj hB hx (by rw [hm1 7 (by omega) (by omega) (by omega) (by omega) (by omega)]) (fun a _ _ ha => hm1 a (by omega) (by omega) (by omega) (by omega) ha) hk1
                   rw [xs_sy_t c_6 ei hx c_34 z] at hQ
                   exact ih (b + 1) (w + 1) (xs_wrh (xs_op F.1 1 x.1 x.2.1).1 (F.2.1 x.1) x, F.2.1, F.2.2.set i (x.1, x.2.1, false, x.2.2.2)) m1 _ (by omega) (by omega) ⟨hR1, xr_L_kept hF.2.1 (hm1 8 (by omega) (by omega) (by omega) (by omega) (by omega)), hC⟩ (xo_sy1 hok hx) (by show F.1.2.2.2.2.1 + 1 + (4 - (b + 1)) < 2 ^ 20; omega) (fun m2 hF2 hm2 => hQ m2 hF2 (fun a ha => (hm2 a ha).trans (hm1 a (by omega) (by omega) (by omega) (by omega) (by omega)))))
                | exact ih (b + 1) w F m _ (by omega) (by omega) hF hok (by omega) hQ
            · refine xk_if_ne (pc := 47) (tgt := 53) d_Cache_writeFileOut_47 rfl (fun h => absurd (by decide) h) (fun _ => ?_)
              refine xk_bipush (pc := 50) (v := (-8)) d_Cache_writeFileOut_50 (by decide) ?_
              refine xk_iret (pc := 52) rfl d_Cache_writeFileOut_52 rfl (Nat.le_of_ble_eq_true rfl) (Nat.le_of_ble_eq_true rfl) ?_
              rw [xs_sy_f c_6 ei hx c_34 z] at hQ
              exact hQ m1 ⟨hR1, xr_L_kept hF.2.1 (hm1 8 (by omega) (by omega)), xr_C_kept hF.2.2 rfl (by rw [hm1 7 (by omega) (by omega)]) (fun a _ _ => hm1 a (by omega) (by omega))⟩ (fun a _ => hm1 a (by omega) (by omega))
      · rw [xs_sy_skip c_6 (Or.inl ei)] at hQ
        refine xk_istore (pc := 15) d_Cache_writeFileOut_15 (by decide) ?_
        refine xk_iload (pc := 17) d_Cache_writeFileOut_17 rfl ?_
        refine xk_iconst (pc := 19) (v := (-1)) d_Cache_writeFileOut_19 (by decide) ?_
        refine xk_icmp_eq (pc := 20) (tgt := 56) d_Cache_writeFileOut_20 rfl (fun _ => ?_) (fun h => absurd (by decide) h)
        refine xk_iincN (pc := 56) (d := 1) d_Cache_writeFileOut_56 rfl ?_
        refine xk_goto (pc := 59) (tgt := 4) d_Cache_writeFileOut_59 rfl ?_
        first
          | (have hC := xr_C_clean hz hl5 hβ hinj hB hx (by rw [hm1 7 (by omega) (by omega) (by omega) (by omega) (by omega)]) (fun a _ _ ha => hm1 a (by omega) (by omega) (by omega) (by omega) ha) hk1
             rw [xs_sy_t c_6 ei hx c_34 z] at hQ
             exact ih (b + 1) (w + 1) (xs_wrh (xs_op F.1 1 x.1 x.2.1).1 (F.2.1 x.1) x, F.2.1, F.2.2.set i (x.1, x.2.1, false, x.2.2.2)) m1 _ (by omega) (by omega) ⟨hR1, xr_L_kept hF.2.1 (hm1 8 (by omega) (by omega) (by omega) (by omega) (by omega)), hC⟩ (xo_sy1 hok hx) (by show F.1.2.2.2.2.1 + 1 + (4 - (b + 1)) < 2 ^ 20; omega) (fun m2 hF2 hm2 => hQ m2 hF2 (fun a ha => (hm2 a ha).trans (hm1 a (by omega) (by omega) (by omega) (by omega) (by omega)))))
          | exact ih (b + 1) w F m _ (by omega) (by omega) hF hok (by omega) hQ

set_option maxRecDepth 20000 in
set_option maxHeartbeats 4000000 in
theorem c_Cache_writeFileOut {E : xk_E} {n : Nat} {m : xk_M} {r : xk_P} {Q : xk_Q} (hn : 74 ≤ n) (hS : xr_S r n) {F : xs_F} (hF : xr_F F m r) (hok : xs_okF F) {f : Nat} (hf : f < 8) (hsm : F.1.2.2.2.2.1 + 4 < 2 ^ 20) (hQ : ∀ m', xr_F (xs_sy f 4 0 F).2 m' r → (∀ a, 20 ≤ a → m' a = m a) → Q (some (.inl (xs_sy f 4 0 F).1)) n m' r) : xk_W E m_Cache_writeFileOut 0 (xk_ent m_Cache_writeFileOut [.inr (some 7), .inl (nI f)]) [] n m r 0 0 Q := by
  show xk_W E m_Cache_writeFileOut 0 [some (.inr (some 7)), some (.inl (nI f)), none, none, none] [] n m r 0 0 Q
  refine xk_iconst (pc := 0) (v := nI 0) d_Cache_writeFileOut_0 (by decide) ?_
  refine xk_istore_n (pc := 1) d_Cache_writeFileOut_1 (by decide) ?_
  refine xk_iconst (pc := 2) (v := nI 0) d_Cache_writeFileOut_2 (by decide) ?_
  refine xk_istore_n (pc := 3) d_Cache_writeFileOut_3 (by decide) ?_
  exact l_wfo hn hS hf 5 0 0 F m none (by omega) (by omega) hF hok (by omega) hQ
