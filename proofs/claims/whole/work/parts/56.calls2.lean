set_option maxRecDepth 20000 in
set_option maxHeartbeats 4000000 in
theorem s_cnt36 {E : xk_E} {n : Nat} {m : xk_M} {r : xk_P} {Q : xk_Q} {x : Int32} {v : Int32} {s : xs_S} (hA : xr_A s m r n) (hok : xs_ok s) (hQ : Q (some (.inl v)) n m r) (hv : v = nI s.1.1.2.2.2.2.1) : xk_W E m_K_count 36 [some (.inr (some 1)), some (.inl x)] [] n m r 0 0 Q := by
  obtain ⟨hF, hP, hO, hT, hS, hn⟩ := id hA
  obtain ⟨okF, okP, okO, okT⟩ := id hok
  refine xk_aload_n (pc := 36) d_K_count_36 rfl ?_
  refine xk_getRo (pc := 37) d_K_count_37 fl_K_10 (by first | rfl | assumption) rfl (by omega) (by omega) (hS _ _ _ rfl (by omega)) ?_
  refine xk_cV0 (pc := 40) d_K_count_40 ml_K_189 cz_Host_operations ⟨rfl, rfl⟩ rfl (by first | rfl | assumption) (by omega) (by omega) (Nat.le_of_ble_eq_true rfl) ⟨(Nat.le_of_ble_eq_true rfl), (Nat.le_of_ble_eq_true rfl)⟩ ?_
  refine c_Host_operations hn hS ?_
  rw [hF.1.2.2.2.2.1]
  refine xk_iret (pc := 43) rfl d_K_count_43 rfl (Nat.le_of_ble_eq_true rfl) (Nat.le_of_ble_eq_true rfl) ?_
  rw [hv] at hQ
  exact hQ

set_option maxRecDepth 20000 in
set_option maxHeartbeats 4000000 in
theorem s_cnt44 {E : xk_E} {n : Nat} {m : xk_M} {r : xk_P} {Q : xk_Q} {x : Int32} {v : Int32} {s : xs_S} (hA : xr_A s m r n) (hok : xs_ok s) (hQ : Q (some (.inl v)) n m r) (hv : v = nI (xs_ops s.2.2.1)) : xk_W E m_K_count 44 [some (.inr (some 1)), some (.inl x)] [] n m r 0 0 Q := by
  obtain ⟨hF, hP, hO, hT, hS, hn⟩ := id hA
  obtain ⟨okF, okP, okO, okT⟩ := id hok
  refine xk_aload_n (pc := 44) d_K_count_44 rfl ?_
  refine xk_cV0 (pc := 45) d_K_count_45 ml_K_212 cz_K_openingsThere ⟨rfl, rfl⟩ rfl (by first | rfl | assumption) (by omega) (by omega) (Nat.le_of_ble_eq_true rfl) ⟨(Nat.le_of_ble_eq_true rfl), (Nat.le_of_ble_eq_true rfl)⟩ ?_
  refine c_K_openingsThere hn hS hO ?_
  refine xk_iret (pc := 48) rfl d_K_count_48 rfl (Nat.le_of_ble_eq_true rfl) (Nat.le_of_ble_eq_true rfl) ?_
  rw [hv] at hQ
  exact hQ

set_option maxRecDepth 20000 in
set_option maxHeartbeats 4000000 in
theorem s_cnt49 {E : xk_E} {n : Nat} {m : xk_M} {r : xk_P} {Q : xk_Q} {x : Int32} {v : Int32} {s : xs_S} (hA : xr_A s m r n) (hok : xs_ok s) (hQ : Q (some (.inl v)) n m r) (hv : v = nI (xs_num (fun q => decide (1 ≤ q ∧ s.2.2.2.1 q ≠ 0)) 7)) : xk_W E m_K_count 49 [some (.inr (some 1)), some (.inl x)] [] n m r 0 0 Q := by
  obtain ⟨hF, hP, hO, hT, hS, hn⟩ := id hA
  obtain ⟨okF, okP, okO, okT⟩ := id hok
  refine xk_aload_n (pc := 49) d_K_count_49 rfl ?_
  refine xk_cV0 (pc := 50) d_K_count_50 ml_K_215 cz_K_tasksThere ⟨rfl, rfl⟩ rfl (by first | rfl | assumption) (by omega) (by omega) (Nat.le_of_ble_eq_true rfl) ⟨(Nat.le_of_ble_eq_true rfl), (Nat.le_of_ble_eq_true rfl)⟩ ?_
  refine c_K_tasksThere hn hS hT okT ?_
  refine xk_iret (pc := 53) rfl d_K_count_53 rfl (Nat.le_of_ble_eq_true rfl) (Nat.le_of_ble_eq_true rfl) ?_
  rw [hv] at hQ
  exact hQ

set_option maxRecDepth 20000 in
set_option maxHeartbeats 4000000 in
theorem s_cnt54 {E : xk_E} {n : Nat} {m : xk_M} {r : xk_P} {Q : xk_Q} {x : Int32} {v : Int32} {s : xs_S} (hA : xr_A s m r n) (hok : xs_ok s) (hQ : Q (some (.inl v)) n m r) (hv : v = nI (s.1.2.2.countP (fun x => x.2.2.1))) : xk_W E m_K_count 54 [some (.inr (some 1)), some (.inl x)] [] n m r 0 0 Q := by
  obtain ⟨hF, hP, hO, hT, hS, hn⟩ := id hA
  obtain ⟨okF, okP, okO, okT⟩ := id hok
  refine xk_aload_n (pc := 54) d_K_count_54 rfl ?_
  refine xk_getRo (pc := 55) d_K_count_55 fl_K_21 (by first | rfl | assumption) rfl (by omega) (by omega) (hS _ _ _ rfl (by omega)) ?_
  refine xk_cV0 (pc := 58) d_K_count_58 ml_K_218 cz_Cache_dirtyBlocks ⟨rfl, rfl⟩ rfl (by first | rfl | assumption) (by omega) (by omega) (Nat.le_of_ble_eq_true rfl) ⟨(Nat.le_of_ble_eq_true rfl), (Nat.le_of_ble_eq_true rfl)⟩ ?_
  refine c_Cache_dirtyBlocks hn hS hF okF ?_
  refine xk_iret (pc := 61) rfl d_K_count_61 rfl (Nat.le_of_ble_eq_true rfl) (Nat.le_of_ble_eq_true rfl) ?_
  rw [hv] at hQ
  exact hQ

set_option maxRecDepth 20000 in
set_option maxHeartbeats 4000000 in
theorem s_cnt62 {E : xk_E} {n : Nat} {m : xk_M} {r : xk_P} {Q : xk_Q} {x : Int32} {v : Int32} {s : xs_S} (hA : xr_A s m r n) (hok : xs_ok s) (hQ : Q (some (.inl v)) n m r) (hv : v = nI s.1.1.2.2.2.2.2) : xk_W E m_K_count 62 [some (.inr (some 1)), some (.inl x)] [] n m r 0 0 Q := by
  obtain ⟨hF, hP, hO, hT, hS, hn⟩ := id hA
  obtain ⟨okF, okP, okO, okT⟩ := id hok
  refine xk_aload_n (pc := 62) d_K_count_62 rfl ?_
  refine xk_getRo (pc := 63) d_K_count_63 fl_K_10 (by first | rfl | assumption) rfl (by omega) (by omega) (hS _ _ _ rfl (by omega)) ?_
  refine xk_cV0 (pc := 66) d_K_count_66 ml_K_221 cz_Host_leftToFail ⟨rfl, rfl⟩ rfl (by first | rfl | assumption) (by omega) (by omega) (Nat.le_of_ble_eq_true rfl) ⟨(Nat.le_of_ble_eq_true rfl), (Nat.le_of_ble_eq_true rfl)⟩ ?_
  refine c_Host_leftToFail hn hS ?_
  rw [hF.1.2.2.2.2.2]
  refine xk_iret (pc := 69) rfl d_K_count_69 rfl (Nat.le_of_ble_eq_true rfl) (Nat.le_of_ble_eq_true rfl) ?_
  rw [hv] at hQ
  exact hQ

set_option maxRecDepth 20000 in
set_option maxHeartbeats 4000000 in
theorem s_cnt70 {E : xk_E} {n : Nat} {m : xk_M} {r : xk_P} {Q : xk_Q} {x : Int32} {v : Int32} {s : xs_S} (hA : xr_A s m r n) (hok : xs_ok s) (hQ : Q (some (.inl v)) n m r) (hv : v = -1) : xk_W E m_K_count 70 [some (.inr (some 1)), some (.inl x)] [] n m r 0 0 Q := by
  obtain ⟨hF, hP, hO, hT, hS, hn⟩ := id hA
  obtain ⟨okF, okP, okO, okT⟩ := id hok
  refine xk_iconst (pc := 70) (v := (-1)) d_K_count_70 (by decide) ?_
  refine xk_iret (pc := 71) rfl d_K_count_71 rfl (Nat.le_of_ble_eq_true rfl) (Nat.le_of_ble_eq_true rfl) ?_
  rw [hv] at hQ
  exact hQ

theorem xs_nat_x {x : Int32} {k f : Nat} (h : xs_nat x k = some f) (hk : k < 2 ^ 31) : x = nI f ∧ f < k := by
  unfold xs_nat at h
  split at h
  · next q =>
    have e := Option.some.inj h
    have hx : ¬ x < 0 := by rw [Int32.lt_iff_toInt_lt, Int32.toInt_zero]; omega
    obtain ⟨j, hj, rfl⟩ := nI_of hx
    rw [nI_toInt hj] at e q
    have : j = f := by omega
    subst this
    exact ⟨rfl, by omega⟩
  · cases h
theorem xs_nat_o {x : Int32} {k : Nat} (h : xs_nat x k = none) : x.toInt < 0 ∨ ((k : Int) - 1) < x.toInt := by
  unfold xs_nat at h
  split at h
  · cases h
  · omega

set_option maxRecDepth 20000 in
set_option maxHeartbeats 4000000 in
theorem c_K_count {E : xk_E} {n : Nat} {m : xk_M} {r : xk_P} {Q : xk_Q} {x : Int32} {s : xs_S} (hA : xr_A s m r n) (hok : xs_ok s) (hQ : Q (some (.inl (xs_count s x))) n m r) : xk_W E m_K_count 0 (xk_ent m_K_count [.inr (some 1), .inl x]) [] n m r 0 0 Q := by
  show xk_W E m_K_count 0 [some (.inr (some 1)), some (.inl x)] [] n m r 0 0 Q
  refine xk_iload_n (pc := 0) d_K_count_0 rfl ?_
  cases hx : xs_nat x 5 with
  | none => exact xk_tableOut (pc := 1) (tgt := 70) d_K_count_1 (xs_nat_o hx) (by decide) (s_cnt70 hA hok hQ (by unfold xs_count; rw [hx]))
  | some i =>
    obtain ⟨rfl, hi⟩ := xs_nat_x hx (by decide)
    match i, hi, hx with
    | 0, _, hx => exact xk_tableIn (pc := 1) (tgt := 36) d_K_count_1 (by decide) (by decide) rfl rfl (s_cnt36 hA hok hQ (by unfold xs_count; rw [hx]; rfl))
    | 1, _, hx => exact xk_tableIn (pc := 1) (tgt := 44) d_K_count_1 (by decide) (by decide) rfl rfl (s_cnt44 hA hok hQ (by unfold xs_count; rw [hx]; rfl))
    | 2, _, hx => exact xk_tableIn (pc := 1) (tgt := 49) d_K_count_1 (by decide) (by decide) rfl rfl (s_cnt49 hA hok hQ (by unfold xs_count; rw [hx]; rfl))
    | 3, _, hx => exact xk_tableIn (pc := 1) (tgt := 54) d_K_count_1 (by decide) (by decide) rfl rfl (s_cnt54 hA hok hQ (by unfold xs_count; rw [hx]; rfl))
    | 4, _, hx => exact xk_tableIn (pc := 1) (tgt := 62) d_K_count_1 (by decide) (by decide) rfl rfl (s_cnt62 hA hok hQ (by unfold xs_count; rw [hx]; rfl))
    | i + 5, hi, _ => exact absurd hi (by omega)

theorem xd_3 {s : xs_S} {x y : Int32} {p d : Nat} (h : xs_alive s.2.2.2 x = none ∨ xs_nat y 6 = none ∨ ∃ p d, xs_alive s.2.2.2 x = some p ∧ xs_nat y 6 = some d ∧ s.2.2.1.1 (6 * p + d) = none) (ep : xs_alive s.2.2.2 x = some p) (ed : xs_nat y 6 = some d) : xs_desc s x y = .inl (-3) := by
  rcases h with h | h | ⟨p', d', h1, h2, h3⟩
  · rw [h] at ep; cases ep
  · rw [h] at ed; cases ed
  · exact xs_desc_n h1 h2 h3
theorem xs_sync_e {s : xs_S} {a b e : Int32} (h : xs_desc s a b = .inl e) : xs_sync s a b = (e, s) := by unfold xs_sync; rw [h]
theorem xs_dup_e {s : xs_S} {a b e : Int32} (h : xs_desc s a b = .inl e) : xs_dup s a b = (e, s) := by unfold xs_dup; rw [h]
theorem xs_close_e {s : xs_S} {a b e : Int32} (h : xs_desc s a b = .inl e) : xs_close s a b = (e, s) := by unfold xs_close; rw [h]
theorem xs_read_e {s : xs_S} {a b e : Int32} (h : xs_desc s a b = .inl e) : xs_read s a b = (e, s) := by unfold xs_read; rw [h]
theorem xs_seek_e {s : xs_S} {a b c e : Int32} {v : Nat} (hv : xs_nat c 33 = some v) (h : xs_desc s a b = .inl e) : xs_seek s a b c = (e, s) := by unfold xs_seek; rw [hv, h]
theorem xs_write_e {s : xs_S} {a b c e : Int32} {v : Nat} (hv : xs_nat c 256 = some v) (h : xs_desc s a b = .inl e) : xs_write s a b c = (e, s) := by unfold xs_write; rw [hv, h]

theorem xr_pipe_0 {O : xs_O} {pa : Nat → Nat} {o : Nat} {m : xk_M} {r : xk_P} (h : xr_I O pa o m r) (hr : r (22 + o) 4 = none) : O.2.1 o = 0 := by
  by_cases q : O.2.1 o = 0
  · exact q
  · rw [h.2.2 q] at hr; cases hr
theorem xr_pipe_1 {O : xs_O} {pa : Nat → Nat} {o a : Nat} {m : xk_M} {r : xk_P} (h : xr_I O pa o m r) (hr : r (22 + o) 4 = some a) : O.2.1 o ≠ 0 := fun q => by
  rw [(h.2.1 q).1] at hr; cases hr
theorem xr_A_pos {s : xs_S} {m : xk_M} {r : xk_P} {n o v : Nat} (hA : xr_A s m r n) (ho : o < 16) (hk : s.2.2.1.2.1 o = 0) : xr_A (s.1, s.2.1, xs_pos s.2.2.1 o v, s.2.2.2) (xk_up m (22 + o) 3 (nI v)) r n := by
  obtain ⟨hF, hP, hO, hT, hS, hn⟩ := hA
  obtain ⟨h1, h2, pa, h3, h4, h5⟩ := hO
  refine ⟨xr_F_kept hF (fun a ha => by funext k; exact xk_up_a (by omega)) rfl, fun f hf => by rw [xk_up_a (by omega)]; exact hP f hf, ⟨fun o' ho' => by rw [xk_up_k (by decide)]; exact h1 o' ho', h2, pa, fun o' ho' hu' => ?_, fun o' ho' hu' hk' => ?_, h5⟩, xr_T_kept hT (fun a _ _ => by funext k; exact xk_up_a (by omega)), hS, hn⟩
  · obtain ⟨i1, i2, i3⟩ := h3 o' ho' hu'
    refine ⟨by rw [xk_up_k (by decide)]; exact i1, fun q => ?_, i3⟩
    obtain ⟨j1, j2, j3⟩ := i2 q
    refine ⟨j1, by rw [xk_up_k (by decide)]; exact j2, ?_⟩
    show _ = nI (xs_u s.2.2.1.2.2.2.2.1 o v o')
    by_cases e : o' = o
    · subst e; rw [xk_up_s, xs_u_s]
    · rw [xk_up_a (by omega), xs_u_n e]; exact j3
  · obtain ⟨a1, a2, a3, ⟨old, b1, b2, b3, b4⟩, a5, a6⟩ := h4 o' ho' hu' hk'
    show xr_P _ (pa (s.2.2.1.2.2.1 o')) (s.2.2.1.2.2.1 o') _ n
    have ea : pa (s.2.2.1.2.2.1 o') ≠ 22 + o := by omega
    have eb : pa (s.2.2.1.2.2.1 o') + 1 ≠ 22 + o := by omega
    exact ⟨a1, a2, a3, ⟨old, b1, by rw [xk_up_a ea]; exact b2, by rw [xk_up_a ea]; exact b3, fun i x hx => by rw [xk_up_a eb]; exact b4 i x hx⟩, by rw [xk_up_a ea]; exact a5, by rw [xk_up_a ea]; exact a6⟩

set_option maxRecDepth 20000 in
set_option maxHeartbeats 4000000 in
theorem c_K_seek {E : xk_E} {n : Nat} {m : xk_M} {r : xk_P} {Q : xk_Q} {x y z : Int32} {s : xs_S} (hA : xr_A s m r n) (hok : xs_ok s) (hsm : s.1.1.2.2.2.2.1 + 4 < 2 ^ 20) (hQ : ∀ n' m' r', n ≤ n' → n' ≤ n → xr_A (xs_seek s x y z).2 m' r' n' → xr_fr m m' r r' → Q (some (.inl (xs_seek s x y z).1)) n' m' r') : xk_W E m_K_seek 0 (xk_ent m_K_seek [.inr (some 1), .inl x, .inl y, .inl z]) [] n m r 0 0 Q := by
  show xk_W E m_K_seek 0 [some (.inr (some 1)), some (.inl x), some (.inl y), some (.inl z), none] [] n m r 0 0 Q
  obtain ⟨hF, hP, hO, hT, hS, hn⟩ := id hA
  obtain ⟨okF, okP, okO, okT⟩ := id hok
  refine xk_iload_n (pc := 0) d_K_seek_0 rfl ?_
  refine xk_bipush (pc := 1) (v := nI 33) d_K_seek_1 (by decide) ?_
  refine xk_cS2 (pc := 3) d_K_seek_3 ml_K_53 cz_K_isBelow ⟨rfl, rfl⟩ rfl (Nat.le_of_ble_eq_true rfl) ⟨(Nat.le_of_ble_eq_true rfl), (Nat.le_of_ble_eq_true rfl)⟩ ?_
  refine c_K_isBelow (by decide) (fun v hv ev env => ?_) (fun env => ?_)
  · subst ev
    refine xk_if_ne (pc := 6) (tgt := 11) d_K_seek_6 rfl (fun _ => ?_) (fun h => absurd h (by decide))
    refine xk_aload_n (pc := 11) d_K_seek_11 rfl ?_
    refine xk_iload_n (pc := 12) d_K_seek_12 rfl ?_
    refine xk_iload_n (pc := 13) d_K_seek_13 rfl ?_
    refine xk_cV2 (pc := 14) d_K_seek_14 ml_K_105 cz_K_openingOf ⟨rfl, rfl⟩ rfl (by first | rfl | assumption) (by omega) (by omega) (Nat.le_of_ble_eq_true rfl) ⟨(Nat.le_of_ble_eq_true rfl), (Nat.le_of_ble_eq_true rfl)⟩ ?_
    refine c_K_openingOf hn hS hT okT hO.2.1 (fun p d o ep ed ex ey hp hp1 hd et e0 => ?_) (fun en => ?_)
    · have ho := okO.1 _ o (by omega) e0
      have hu := xs_used_of (by omega) e0
      have hko := xr_kd_op o ho
      have hdesc := xs_desc_s ep ed e0
      obtain ⟨-, -, pa, h3, h4, h5⟩ := id hO
      obtain ⟨i1, i2, i3⟩ := h3 o ho hu
      obtain ⟨k1, k2, k3, k4⟩ := okO.2.2.1 o ho hu
      refine xk_astore (pc := 17) d_K_seek_17 (by decide) ?_
      refine xk_aload (pc := 19) d_K_seek_19 rfl ?_
      refine xk_ifnonnull (pc := 21) (tgt := 31) d_K_seek_21 rfl (fun _ _ => ?_) (fun h => by cases h)
      refine xk_aload (pc := 31) d_K_seek_31 rfl ?_
      refine xk_getR (pc := 33) d_K_seek_33 fl_K_116 (by first | rfl | assumption) rfl (by omega) (by omega) ?_
      refine xk_ifnull (pc := 36) (tgt := 42) d_K_seek_36 rfl (fun c_36 => ?_) (fun a_36 c_36 => ?_)
      · have kz := xr_pipe_0 (h3 o ho hu) c_36
        refine xk_iload_n (pc := 42) d_K_seek_42 rfl ?_
        refine xk_aload_n (pc := 43) d_K_seek_43 rfl ?_
        refine xk_getRo (pc := 44) d_K_seek_44 fl_K_21 (by first | rfl | assumption) rfl (by omega) (by omega) (hS _ _ _ rfl (by omega)) ?_
        refine xk_aload (pc := 47) d_K_seek_47 rfl ?_
        refine xk_getIo (pc := 49) d_K_seek_49 fl_K_135 (by first | rfl | assumption) rfl (by omega) (by omega) (i2 kz).2.1 ?_
        refine xk_cV1 (pc := 52) d_K_seek_52 ml_K_139 cz_Cache_lengthOf ⟨rfl, rfl⟩ rfl (by first | rfl | assumption) (by omega) (by omega) (Nat.le_of_ble_eq_true rfl) ⟨(Nat.le_of_ble_eq_true rfl), (Nat.le_of_ble_eq_true rfl)⟩ ?_
        refine c_Cache_lengthOf hn hS (k3 kz).1 ?_
        rw [hF.2.1 _ (k3 kz).1]
        have hl := (okF.1 _ (k3 kz).1).2
        first | refine xk_icmp_leN (pc := 55) (tgt := 60) d_K_seek_55 rfl (by omega) (by omega) (fun c_55 => ?_) (fun c_55 => ?_) | refine xk_icmp_le (pc := 55) (tgt := 60) d_K_seek_55 rfl (fun c_55 => ?_) (fun c_55 => ?_)
        · refine xk_aload (pc := 60) d_K_seek_60 rfl ?_
          refine xk_iload_n (pc := 62) d_K_seek_62 rfl ?_
          refine xk_putI (pc := 63) d_K_seek_63 fl_K_142 (by first | rfl | assumption) rfl (fun q hq h => by cases hq; first | exact absurd h (by decide) | exact ⟨rfl, rfl, rfl⟩) ⟨rfl, rfl⟩ (by omega) (by omega) ?_
          refine xk_iload_n (pc := 66) d_K_seek_66 rfl ?_
          refine xk_iret (pc := 67) rfl d_K_seek_67 rfl (Nat.le_of_ble_eq_true rfl) (Nat.le_of_ble_eq_true rfl) ?_
          have e : xs_seek s x y (nI v) = (nI v, (s.1, s.2.1, xs_pos s.2.2.1 o v, s.2.2.2)) := by
            unfold xs_seek; rw [env, hdesc]; exact (if_neg (fun q => q kz)).trans (if_neg (by omega))
          exact xq_t e (xr_A_pos hA ho kz) (xr_fr_m (fun a _ _ => by funext k; exact xk_up_a (by omega))) hQ
        · refine xk_iconst (pc := 58) (v := (-1)) d_K_seek_58 (by decide) ?_
          refine xk_iret (pc := 59) rfl d_K_seek_59 rfl (Nat.le_of_ble_eq_true rfl) (Nat.le_of_ble_eq_true rfl) ?_
          have e : xs_seek s x y (nI v) = (-1, s) := by
            unfold xs_seek; rw [env, hdesc]; exact (if_neg (fun q => q kz)).trans (if_pos c_55)
          exact xq_s e hA hQ
      · have kz := xr_pipe_1 (h3 o ho hu) c_36
        refine xk_bipush (pc := 39) (v := (-3)) d_K_seek_39 (by decide) ?_
        refine xk_iret (pc := 41) rfl d_K_seek_41 rfl (Nat.le_of_ble_eq_true rfl) (Nat.le_of_ble_eq_true rfl) ?_
        have e : xs_seek s x y (nI v) = (-3, s) := by
          unfold xs_seek; rw [env, hdesc]; exact if_pos kz
        exact xq_s e hA hQ
    · refine xk_astore (pc := 17) d_K_seek_17 (by decide) ?_
      refine xk_aload (pc := 19) d_K_seek_19 rfl ?_
      refine xk_ifnonnull (pc := 21) (tgt := 31) d_K_seek_21 rfl (fun _ h => by cases h) (fun _ => ?_)
      refine xk_aload_n (pc := 24) d_K_seek_24 rfl ?_
      refine xk_iload_n (pc := 25) d_K_seek_25 rfl ?_
      refine xk_iload_n (pc := 26) d_K_seek_26 rfl ?_
      refine xk_cV2 (pc := 27) d_K_seek_27 ml_K_109 cz_K_whyNoOpening ⟨rfl, rfl⟩ rfl (by first | rfl | assumption) (by omega) (by omega) (Nat.le_of_ble_eq_true rfl) ⟨(Nat.le_of_ble_eq_true rfl), (Nat.le_of_ble_eq_true rfl)⟩ ?_
      refine c_K_whyNoOpening hn hS hT okT (fun p d ep ed => ?_) (fun en2 => ?_)
      · refine xk_iret (pc := 30) rfl d_K_seek_30 rfl (Nat.le_of_ble_eq_true rfl) (Nat.le_of_ble_eq_true rfl) ?_
        first | exact xq_s (xs_seek_e env (xd_3 en ep ed)) hA hQ | exact xq_s (xs_seek_e env (xs_desc_0 en2)) hA hQ
      · refine xk_iret (pc := 30) rfl d_K_seek_30 rfl (Nat.le_of_ble_eq_true rfl) (Nat.le_of_ble_eq_true rfl) ?_
        first | exact xq_s (xs_seek_e env (xd_3 en ep ed)) hA hQ | exact xq_s (xs_seek_e env (xs_desc_0 en2)) hA hQ
  · refine xk_if_ne (pc := 6) (tgt := 11) d_K_seek_6 rfl (fun h => absurd (by decide) h) (fun _ => ?_)
    refine xk_iconst (pc := 9) (v := (-1)) d_K_seek_9 (by decide) ?_
    refine xk_iret (pc := 10) rfl d_K_seek_10 rfl (Nat.le_of_ble_eq_true rfl) (Nat.le_of_ble_eq_true rfl) ?_
    exact xq_s (show xs_seek s x y z = (-1, s) by unfold xs_seek; rw [env]) hA hQ

set_option maxRecDepth 20000 in
set_option maxHeartbeats 4000000 in
theorem c_K_sync {E : xk_E} {n : Nat} {m : xk_M} {r : xk_P} {Q : xk_Q} {x y : Int32} {s : xs_S} (hA : xr_A s m r n) (hok : xs_ok s) (hsm : s.1.1.2.2.2.2.1 + 4 < 2 ^ 20) (hQ : ∀ n' m' r', n ≤ n' → n' ≤ n → xr_A (xs_sync s x y).2 m' r' n' → xr_fr m m' r r' → Q (some (.inl (xs_sync s x y).1)) n' m' r') : xk_W E m_K_sync 0 (xk_ent m_K_sync [.inr (some 1), .inl x, .inl y]) [] n m r 0 0 Q := by
  show xk_W E m_K_sync 0 [some (.inr (some 1)), some (.inl x), some (.inl y), none] [] n m r 0 0 Q
  obtain ⟨hF, hP, hO, hT, hS, hn⟩ := id hA
  obtain ⟨okF, okP, okO, okT⟩ := id hok
  refine xk_aload_n (pc := 0) d_K_sync_0 rfl ?_
  refine xk_iload_n (pc := 1) d_K_sync_1 rfl ?_
  refine xk_iload_n (pc := 2) d_K_sync_2 rfl ?_
  refine xk_cV2 (pc := 3) d_K_sync_3 ml_K_105 cz_K_openingOf ⟨rfl, rfl⟩ rfl (by first | rfl | assumption) (by omega) (by omega) (Nat.le_of_ble_eq_true rfl) ⟨(Nat.le_of_ble_eq_true rfl), (Nat.le_of_ble_eq_true rfl)⟩ ?_
  refine c_K_openingOf hn hS hT okT hO.2.1 (fun p d o ep ed ex ey hp hp1 hd et e0 => ?_) (fun en => ?_)
  · have ho := okO.1 _ o (by omega) e0
    have hu := xs_used_of (by omega) e0
    have hko := xr_kd_op o ho
    have hdesc := xs_desc_s ep ed e0
    obtain ⟨-, -, pa, h3, h4, h5⟩ := id hO
    obtain ⟨i1, i2, i3⟩ := h3 o ho hu
    obtain ⟨k1, k2, k3, k4⟩ := okO.2.2.1 o ho hu
    refine xk_astore_n (pc := 6) d_K_sync_6 (by decide) ?_
    refine xk_aload_n (pc := 7) d_K_sync_7 rfl ?_
    refine xk_ifnonnull (pc := 8) (tgt := 18) d_K_sync_8 rfl (fun _ _ => ?_) (fun h => by cases h)
    refine xk_aload_n (pc := 18) d_K_sync_18 rfl ?_
    refine xk_getR (pc := 19) d_K_sync_19 fl_K_116 (by first | rfl | assumption) rfl (by omega) (by omega) ?_
    refine xk_ifnull (pc := 22) (tgt := 28) d_K_sync_22 rfl (fun c_22 => ?_) (fun a_22 c_22 => ?_)
    · have kz := xr_pipe_0 (h3 o ho hu) c_22
      refine xk_aload_n (pc := 28) d_K_sync_28 rfl ?_
      refine xk_getRo (pc := 29) d_K_sync_29 fl_K_21 (by first | rfl | assumption) rfl (by omega) (by omega) (hS _ _ _ rfl (by omega)) ?_
      refine xk_aload_n (pc := 32) d_K_sync_32 rfl ?_
      refine xk_getIo (pc := 33) d_K_sync_33 fl_K_135 (by first | rfl | assumption) rfl (by omega) (by omega) (i2 kz).2.1 ?_
      refine xk_cV1 (pc := 36) d_K_sync_36 ml_K_145 cz_Cache_writeFileOut ⟨rfl, rfl⟩ rfl (by first | rfl | assumption) (by omega) (by omega) (Nat.le_of_ble_eq_true rfl) ⟨(Nat.le_of_ble_eq_true rfl), (Nat.le_of_ble_eq_true rfl)⟩ ?_
      refine c_Cache_writeFileOut hn hS hF okF (k3 kz).1 hsm (fun m1 hF1 hm1 => ?_)
      refine xk_iret (pc := 39) rfl d_K_sync_39 rfl (Nat.le_of_ble_eq_true rfl) (Nat.le_of_ble_eq_true rfl) ?_
      have e : xs_sync s x y = ((xs_sy (s.2.2.1.2.2.1 o) 4 0 s.1).1, ((xs_sy (s.2.2.1.2.2.1 o) 4 0 s.1).2, s.2)) := by
        unfold xs_sync; rw [hdesc]; exact if_neg (fun q => q kz)
      exact xq_t e (xr_A_F hA hF1 hm1 (fun _ _ => rfl)) (xr_fr_m (fun a _ _ => hm1 a (by omega))) hQ
    · have kz := xr_pipe_1 (h3 o ho hu) c_22
      refine xk_bipush (pc := 25) (v := (-3)) d_K_sync_25 (by decide) ?_
      refine xk_iret (pc := 27) rfl d_K_sync_27 rfl (Nat.le_of_ble_eq_true rfl) (Nat.le_of_ble_eq_true rfl) ?_
      have e : xs_sync s x y = (-3, s) := by
        unfold xs_sync; rw [hdesc]; exact if_pos kz
      exact xq_s e hA hQ
  · refine xk_astore_n (pc := 6) d_K_sync_6 (by decide) ?_
    refine xk_aload_n (pc := 7) d_K_sync_7 rfl ?_
    refine xk_ifnonnull (pc := 8) (tgt := 18) d_K_sync_8 rfl (fun _ h => by cases h) (fun _ => ?_)
    refine xk_aload_n (pc := 11) d_K_sync_11 rfl ?_
    refine xk_iload_n (pc := 12) d_K_sync_12 rfl ?_
    refine xk_iload_n (pc := 13) d_K_sync_13 rfl ?_
    refine xk_cV2 (pc := 14) d_K_sync_14 ml_K_109 cz_K_whyNoOpening ⟨rfl, rfl⟩ rfl (by first | rfl | assumption) (by omega) (by omega) (Nat.le_of_ble_eq_true rfl) ⟨(Nat.le_of_ble_eq_true rfl), (Nat.le_of_ble_eq_true rfl)⟩ ?_
    refine c_K_whyNoOpening hn hS hT okT (fun p d ep ed => ?_) (fun en2 => ?_)
    · refine xk_iret (pc := 17) rfl d_K_sync_17 rfl (Nat.le_of_ble_eq_true rfl) (Nat.le_of_ble_eq_true rfl) ?_
      first | exact xq_s (xs_sync_e (xd_3 en ep ed)) hA hQ | exact xq_s (xs_sync_e (xs_desc_0 en2)) hA hQ
    · refine xk_iret (pc := 17) rfl d_K_sync_17 rfl (Nat.le_of_ble_eq_true rfl) (Nat.le_of_ble_eq_true rfl) ?_
      first | exact xq_s (xs_sync_e (xd_3 en ep ed)) hA hQ | exact xq_s (xs_sync_e (xs_desc_0 en2)) hA hQ

theorem xr_A_O {s : xs_S} {m m' : xk_M} {r r' : xk_P} {n : Nat} {O' : xs_O} (hA : xr_A s m r n) (hO' : xr_O O' m' r' n) (hS' : xr_S r' n) (hm : ∀ a, (a < 22 ∨ (38 ≤ a ∧ a < 74)) → m' a = m a) (hr : ∀ a, a < 22 → r' a = r a) : xr_A (s.1, s.2.1, O', s.2.2.2) m' r' n := by
  obtain ⟨hF, hP, hO, hT, hS, hn⟩ := hA
  exact ⟨xr_F_kept hF (fun a ha => hm a (by omega)) (hr 9 (by decide)), fun f hf => by rw [hm 20 (by omega)]; exact hP f hf, hO', xr_T_kept hT (fun a _ _ => hm a (by omega)), hS', hn⟩
theorem xs_okO_U {O : xs_O} {T : xs_T} (h : xs_okO O T) : xs_okU O := h.2.2
theorem xr_S_de {r r' : xk_P} {n p : Nat} (hp : p < 7) (hS : xr_S r n) (hr : ∀ a, a ≠ 40 + 2 * p → r' a = r a) : xr_S r' n := fun a k v hv ha => by
  by_cases q : a = 40 + 2 * p
  · subst q
    rw [xr_0_dek p hp k] at hv
    cases hv
  · rw [hr a q]; exact hS a k v hv ha

set_option maxRecDepth 20000 in
set_option maxHeartbeats 4000000 in
theorem c_K_close {E : xk_E} {n : Nat} {m : xk_M} {r : xk_P} {Q : xk_Q} {x y : Int32} {s : xs_S} (hA : xr_A s m r n) (hok : xs_ok s) (hsm : s.1.1.2.2.2.2.1 + 4 < 2 ^ 20) (hQ : ∀ n' m' r', n ≤ n' → n' ≤ n → xr_A (xs_close s x y).2 m' r' n' → xr_fr m m' r r' → Q (some (.inl (xs_close s x y).1)) n' m' r') : xk_W E m_K_close 0 (xk_ent m_K_close [.inr (some 1), .inl x, .inl y]) [] n m r 0 0 Q := by
  show xk_W E m_K_close 0 [some (.inr (some 1)), some (.inl x), some (.inl y)] [] n m r 0 0 Q
  obtain ⟨hF, hP, hO, hT, hS, hn⟩ := id hA
  obtain ⟨okF, okP, okO, okT⟩ := id hok
  refine xk_aload_n (pc := 0) d_K_close_0 rfl ?_
  refine xk_iload_n (pc := 1) d_K_close_1 rfl ?_
  refine xk_iload_n (pc := 2) d_K_close_2 rfl ?_
  refine xk_cV2 (pc := 3) d_K_close_3 ml_K_105 cz_K_openingOf ⟨rfl, rfl⟩ rfl (by first | rfl | assumption) (by omega) (by omega) (Nat.le_of_ble_eq_true rfl) ⟨(Nat.le_of_ble_eq_true rfl), (Nat.le_of_ble_eq_true rfl)⟩ ?_
  refine c_K_openingOf hn hS hT okT hO.2.1 (fun p d o ep ed ex ey hp hp1 hd et e0 => ?_) (fun en => ?_)
  · subst ex
    subst ey
    have hkt := xr_kd_ta p hp
    have hdesc := xs_desc_s ep ed e0
    refine xk_ifnonnull (pc := 6) (tgt := 16) d_K_close_6 rfl (fun _ _ => ?_) (fun h => by cases h)
    refine xk_aload_n (pc := 16) d_K_close_16 rfl ?_
    refine xk_getRo (pc := 17) d_K_close_17 fl_K_44 (by first | rfl | assumption) rfl (by omega) (by omega) (hS _ _ _ rfl (by omega)) ?_
    refine xk_iload_n (pc := 20) d_K_close_20 rfl ?_
    refine xk_aaloado (pc := 21) d_K_close_21 (by first | rfl | assumption) (by decide) (by decide) (by omega) (by omega) rfl (by omega) (by decide) (hS _ _ _ (xr_st_ts _ hp) (by omega)) ?_
    refine xk_iload_n (pc := 22) d_K_close_22 rfl ?_
    refine xk_cV1 (pc := 23) d_K_close_23 ml_K_148 cz_Task_letGo ⟨rfl, rfl⟩ rfl (by first | rfl | assumption) (by omega) (by omega) (Nat.le_of_ble_eq_true rfl) ⟨(Nat.le_of_ble_eq_true rfl), (Nat.le_of_ble_eq_true rfl)⟩ ?_
    refine c_Task_letGo hn hS hp hd hO (xs_okO_U okO) okO.1 (fun m1 r1 hO1 hm1 hr1 => ?_)
    refine xk_iconst (pc := 26) (v := nI 0) d_K_close_26 (by decide) ?_
    refine xk_iret (pc := 27) rfl d_K_close_27 rfl (Nat.le_of_ble_eq_true rfl) (Nat.le_of_ble_eq_true rfl) ?_
    have e : xs_close s (nI p) (nI d) = (nI 0, (s.1, s.2.1, xs_of s.2.2.1 (6 * p + d) none, s.2.2.2)) := by
      unfold xs_close; rw [hdesc]; rfl
    exact xq_t e (xr_A_O hA hO1 (xr_S_de hp hS hr1) hm1 (fun a ha => hr1 a (by omega))) (fun a h1 h2 => ⟨hm1 a (by omega), hr1 a (by omega)⟩) hQ
  · refine xk_ifnonnull (pc := 6) (tgt := 16) d_K_close_6 rfl (fun _ h => by cases h) (fun _ => ?_)
    refine xk_aload_n (pc := 9) d_K_close_9 rfl ?_
    refine xk_iload_n (pc := 10) d_K_close_10 rfl ?_
    refine xk_iload_n (pc := 11) d_K_close_11 rfl ?_
    refine xk_cV2 (pc := 12) d_K_close_12 ml_K_109 cz_K_whyNoOpening ⟨rfl, rfl⟩ rfl (by first | rfl | assumption) (by omega) (by omega) (Nat.le_of_ble_eq_true rfl) ⟨(Nat.le_of_ble_eq_true rfl), (Nat.le_of_ble_eq_true rfl)⟩ ?_
    refine c_K_whyNoOpening hn hS hT okT (fun p d ep ed => ?_) (fun en2 => ?_)
    · refine xk_iret (pc := 15) rfl d_K_close_15 rfl (Nat.le_of_ble_eq_true rfl) (Nat.le_of_ble_eq_true rfl) ?_
      first | exact xq_s (xs_close_e (xd_3 en ep ed)) hA hQ | exact xq_s (xs_close_e (xs_desc_0 en2)) hA hQ
    · refine xk_iret (pc := 15) rfl d_K_close_15 rfl (Nat.le_of_ble_eq_true rfl) (Nat.le_of_ble_eq_true rfl) ?_
      first | exact xq_s (xs_close_e (xd_3 en ep ed)) hA hQ | exact xq_s (xs_close_e (xs_desc_0 en2)) hA hQ

set_option maxRecDepth 20000 in
set_option maxHeartbeats 4000000 in
theorem c_K_dup {E : xk_E} {n : Nat} {m : xk_M} {r : xk_P} {Q : xk_Q} {x y : Int32} {s : xs_S} (hA : xr_A s m r n) (hok : xs_ok s) (hsm : s.1.1.2.2.2.2.1 + 4 < 2 ^ 20) (hQ : ∀ n' m' r', n ≤ n' → n' ≤ n → xr_A (xs_dup s x y).2 m' r' n' → xr_fr m m' r r' → Q (some (.inl (xs_dup s x y).1)) n' m' r') : xk_W E m_K_dup 0 (xk_ent m_K_dup [.inr (some 1), .inl x, .inl y]) [] n m r 0 0 Q := by
  show xk_W E m_K_dup 0 [some (.inr (some 1)), some (.inl x), some (.inl y), none, none] [] n m r 0 0 Q
  obtain ⟨hF, hP, hO, hT, hS, hn⟩ := id hA
  obtain ⟨okF, okP, okO, okT⟩ := id hok
  refine xk_aload_n (pc := 0) d_K_dup_0 rfl ?_
  refine xk_iload_n (pc := 1) d_K_dup_1 rfl ?_
  refine xk_iload_n (pc := 2) d_K_dup_2 rfl ?_
  refine xk_cV2 (pc := 3) d_K_dup_3 ml_K_105 cz_K_openingOf ⟨rfl, rfl⟩ rfl (by first | rfl | assumption) (by omega) (by omega) (Nat.le_of_ble_eq_true rfl) ⟨(Nat.le_of_ble_eq_true rfl), (Nat.le_of_ble_eq_true rfl)⟩ ?_
  refine c_K_openingOf hn hS hT okT hO.2.1 (fun p d o ep ed ex ey hp hp1 hd et e0 => ?_) (fun en => ?_)
  · subst ex
    subst ey
    have hkt := xr_kd_ta p hp
    have hdesc := xs_desc_s ep ed e0
    have ho := okO.1 _ o (by omega) e0
    have hu := xs_used_of (by omega) e0
    refine xk_astore_n (pc := 6) d_K_dup_6 (by decide) ?_
    refine xk_aload_n (pc := 7) d_K_dup_7 rfl ?_
    refine xk_ifnonnull (pc := 8) (tgt := 18) d_K_dup_8 rfl (fun _ _ => ?_) (fun h => by cases h)
    refine xk_aload_n (pc := 18) d_K_dup_18 rfl ?_
    refine xk_getRo (pc := 19) d_K_dup_19 fl_K_44 (by first | rfl | assumption) rfl (by omega) (by omega) (hS _ _ _ rfl (by omega)) ?_
    refine xk_iload_n (pc := 22) d_K_dup_22 rfl ?_
    refine xk_aaloado (pc := 23) d_K_dup_23 (by first | rfl | assumption) (by decide) (by decide) (by omega) (by omega) rfl (by omega) (by decide) (hS _ _ _ (xr_st_ts _ hp) (by omega)) ?_
    refine xk_iconst (pc := 24) (v := nI 0) d_K_dup_24 (by decide) ?_
    refine xk_cV1 (pc := 25) d_K_dup_25 ml_K_81 cz_Task_freeFrom ⟨rfl, rfl⟩ rfl (by first | rfl | assumption) (by omega) (by omega) (Nat.le_of_ble_eq_true rfl) ⟨(Nat.le_of_ble_eq_true rfl), (Nat.le_of_ble_eq_true rfl)⟩ ?_
    refine c_Task_freeFrom hn hS hp (O := s.2.2.1) (by omega) (fun d hd => hO.2.1 p d hp hd) (fun d2 hd2 hd6 => ?_) (fun hd2 => ?_)
    · refine xk_istore (pc := 28) d_K_dup_28 (by decide) ?_
      refine xk_iload (pc := 30) d_K_dup_30 rfl ?_
      refine xk_iconst (pc := 32) (v := (-1)) d_K_dup_32 (by decide) ?_
      first | refine xk_icmp_neN (pc := 33) (tgt := 39) d_K_dup_33 rfl (by omega) (by omega) (fun c_33 => ?_) (fun c_33 => ?_) | refine xk_icmp_ne (pc := 33) (tgt := 39) d_K_dup_33 rfl (fun c_33 => ?_) (fun c_33 => ?_)
      · refine xk_aload_n (pc := 39) d_K_dup_39 rfl ?_
        refine xk_getRo (pc := 40) d_K_dup_40 fl_K_44 (by first | rfl | assumption) rfl (by omega) (by omega) (hS _ _ _ rfl (by omega)) ?_
        refine xk_iload_n (pc := 43) d_K_dup_43 rfl ?_
        refine xk_aaloado (pc := 44) d_K_dup_44 (by first | rfl | assumption) (by decide) (by decide) (by omega) (by omega) rfl (by omega) (by decide) (hS _ _ _ (xr_st_ts _ hp) (by omega)) ?_
        refine xk_iload (pc := 45) d_K_dup_45 rfl ?_
        refine xk_aload_n (pc := 47) d_K_dup_47 rfl ?_
        refine xk_cV2 (pc := 48) d_K_dup_48 ml_K_94 cz_Task_hold ⟨rfl, rfl⟩ rfl (by first | rfl | assumption) (by omega) (by omega) (Nat.le_of_ble_eq_true rfl) ⟨(Nat.le_of_ble_eq_true rfl), (Nat.le_of_ble_eq_true rfl)⟩ ?_
        refine c_Task_hold hn hS hp hd6 ho (hO.1 o ho) ?_
        refine xk_iload (pc := 51) d_K_dup_51 rfl ?_
        refine xk_iret (pc := 53) rfl d_K_dup_53 rfl (Nat.le_of_ble_eq_true rfl) (Nat.le_of_ble_eq_true rfl) ?_
        have e : xs_dup s (nI p) (nI d) = (nI d2, (s.1, s.2.1, xs_of s.2.2.1 (6 * p + d2) (some o), s.2.2.2)) := by
          unfold xs_dup; rw [hdesc]; show (match xs_free s.2.2.1 p 0 with | none => _ | some d => _) = _; rw [hd2]
        have hfree : s.2.2.1.1 (6 * p + d2) = none := of_decide_eq_true (xs_least_sp hd2).2.2.1
        exact xq_t e (xr_A_O hA (xr_O_hold hO hp hd6 ho hfree hu) (xr_S_de hp hS (fun a ha => by funext k; exact xk_up_a ha)) (fun a ha => by funext k; exact xk_up_a (by omega)) (fun a ha => by funext k; exact xk_up_a (by omega))) (fun a h1 h2 => ⟨by funext k; exact xk_up_a (by omega), by funext k; exact xk_up_a (by omega)⟩) hQ
      · exact absurd c_33 (xs_nm1 (by omega))
    · refine xk_istore (pc := 28) d_K_dup_28 (by decide) ?_
      refine xk_iload (pc := 30) d_K_dup_30 rfl ?_
      refine xk_iconst (pc := 32) (v := (-1)) d_K_dup_32 (by decide) ?_
      refine xk_icmp_ne (pc := 33) (tgt := 39) d_K_dup_33 rfl (fun h => absurd (by decide) h) (fun _ => ?_)
      refine xk_bipush (pc := 36) (v := (-2)) d_K_dup_36 (by decide) ?_
      refine xk_iret (pc := 38) rfl d_K_dup_38 rfl (Nat.le_of_ble_eq_true rfl) (Nat.le_of_ble_eq_true rfl) ?_
      have e : xs_dup s (nI p) (nI d) = (-2, s) := by
        unfold xs_dup; rw [hdesc]; show (match xs_free s.2.2.1 p 0 with | none => _ | some d => _) = _; rw [hd2]
      exact xq_s e hA hQ
  · refine xk_astore_n (pc := 6) d_K_dup_6 (by decide) ?_
    refine xk_aload_n (pc := 7) d_K_dup_7 rfl ?_
    refine xk_ifnonnull (pc := 8) (tgt := 18) d_K_dup_8 rfl (fun _ h => by cases h) (fun _ => ?_)
    refine xk_aload_n (pc := 11) d_K_dup_11 rfl ?_
    refine xk_iload_n (pc := 12) d_K_dup_12 rfl ?_
    refine xk_iload_n (pc := 13) d_K_dup_13 rfl ?_
    refine xk_cV2 (pc := 14) d_K_dup_14 ml_K_109 cz_K_whyNoOpening ⟨rfl, rfl⟩ rfl (by first | rfl | assumption) (by omega) (by omega) (Nat.le_of_ble_eq_true rfl) ⟨(Nat.le_of_ble_eq_true rfl), (Nat.le_of_ble_eq_true rfl)⟩ ?_
    refine c_K_whyNoOpening hn hS hT okT (fun p d ep ed => ?_) (fun en2 => ?_)
    · refine xk_iret (pc := 17) rfl d_K_dup_17 rfl (Nat.le_of_ble_eq_true rfl) (Nat.le_of_ble_eq_true rfl) ?_
      first | exact xq_s (xs_dup_e (xd_3 en ep ed)) hA hQ | exact xq_s (xs_dup_e (xs_desc_0 en2)) hA hQ
    · refine xk_iret (pc := 17) rfl d_K_dup_17 rfl (Nat.le_of_ble_eq_true rfl) (Nat.le_of_ble_eq_true rfl) ?_
      first | exact xq_s (xs_dup_e (xd_3 en ep ed)) hA hQ | exact xq_s (xs_dup_e (xs_desc_0 en2)) hA hQ

theorem xs_unlink_1 {s : xs_S} {a b : Int32} (h : xs_alive s.2.2.2 a = none ∨ xs_nat b 8 = none) : xs_unlink s a b = (-1, s) := by
  unfold xs_unlink
  rcases h with h | h
  · rw [h]
  · rw [h]; cases xs_alive s.2.2.2 a <;> rfl

theorem xs_okF_there {F : xs_F} {f : Nat} {b : Bool} (h : xs_okF F) : xs_okF (xs_there (xs_op F.1 4 f 0).1 f b, F.2) :=
  xo_iff.mpr ⟨xo_op (xo_iff.mp h).1 4 f 0, (xo_iff.mp h).2⟩

set_option maxRecDepth 20000 in
set_option maxHeartbeats 4000000 in
theorem c_K_unlink {E : xk_E} {n : Nat} {m : xk_M} {r : xk_P} {Q : xk_Q} {x y : Int32} {s : xs_S} (hA : xr_A s m r n) (hok : xs_ok s) (hsm : s.1.1.2.2.2.2.1 + 4 < 2 ^ 20) (hQ : ∀ n' m' r', n ≤ n' → n' ≤ n → xr_A (xs_unlink s x y).2 m' r' n' → xr_fr m m' r r' → Q (some (.inl (xs_unlink s x y).1)) n' m' r') : xk_W E m_K_unlink 0 (xk_ent m_K_unlink [.inr (some 1), .inl x, .inl y]) [] n m r 0 0 Q := by
  show xk_W E m_K_unlink 0 [some (.inr (some 1)), some (.inl x), some (.inl y)] [] n m r 0 0 Q
  obtain ⟨hF, hP, hO, hT, hS, hn⟩ := id hA
  obtain ⟨okF, okP, okO, okT⟩ := id hok
  refine xk_aload_n (pc := 0) d_K_unlink_0 rfl ?_
  refine xk_iload_n (pc := 1) d_K_unlink_1 rfl ?_
  refine xk_cV1 (pc := 2) d_K_unlink_2 ml_K_75 cz_K_isAlive ⟨rfl, rfl⟩ rfl (by first | rfl | assumption) (by omega) (by omega) (Nat.le_of_ble_eq_true rfl) ⟨(Nat.le_of_ble_eq_true rfl), (Nat.le_of_ble_eq_true rfl)⟩ ?_
  refine c_K_isAlive hn hS hT okT (fun p ep hp hp1 ex et => ?_) (fun ep => ?_)
  · subst ex
    refine xk_if_eq (pc := 5) (tgt := 17) d_K_unlink_5 rfl (fun h => absurd h (by decide)) (fun _ => ?_)
    refine xk_iload_n (pc := 8) d_K_unlink_8 rfl ?_
    refine xk_bipush (pc := 9) (v := nI 8) d_K_unlink_9 (by decide) ?_
    refine xk_cS2 (pc := 11) d_K_unlink_11 ml_K_53 cz_K_isBelow ⟨rfl, rfl⟩ rfl (Nat.le_of_ble_eq_true rfl) ⟨(Nat.le_of_ble_eq_true rfl), (Nat.le_of_ble_eq_true rfl)⟩ ?_
    refine c_K_isBelow (by decide) (fun f hf ef enf => ?_) (fun enf => ?_)
    · subst ef
      refine xk_if_ne (pc := 14) (tgt := 19) d_K_unlink_14 rfl (fun _ => ?_) (fun h => absurd h (by decide))
      refine xk_aload_n (pc := 19) d_K_unlink_19 rfl ?_
      refine xk_getRo (pc := 20) d_K_unlink_20 fl_K_25 (by first | rfl | assumption) rfl (by omega) (by omega) (hS _ _ _ rfl (by omega)) ?_
      refine xk_iload_n (pc := 23) d_K_unlink_23 rfl ?_
      refine xk_ialoado (pc := 24) d_K_unlink_24 (by first | rfl | assumption) (by omega) (by omega) rfl (by omega) (by decide) (hP f hf) ?_
      have hp2 := okP f hf
      first | refine xk_if_eqN (pc := 25) (tgt := 39) d_K_unlink_25 rfl (by omega) (fun c_25 => ?_) (fun c_25 => ?_) | refine xk_if_eq (pc := 25) (tgt := 39) d_K_unlink_25 rfl (fun c_25 => ?_) (fun c_25 => ?_)
      · refine xk_bipush (pc := 39) (v := (-4)) d_K_unlink_39 (by decide) ?_
        refine xk_iret (pc := 41) rfl d_K_unlink_41 rfl (Nat.le_of_ble_eq_true rfl) (Nat.le_of_ble_eq_true rfl) ?_
        have e : xs_unlink s (nI p) (nI f) = (-4, s) := by
          unfold xs_unlink
          rw [ep, enf]
          first | exact if_pos (Or.inr c_36) | exact if_pos (Or.inl c_25)
        exact xq_s e hA hQ
      · refine xk_aload_n (pc := 28) d_K_unlink_28 rfl ?_
        refine xk_getRo (pc := 29) d_K_unlink_29 fl_K_10 (by first | rfl | assumption) rfl (by omega) (by omega) (hS _ _ _ rfl (by omega)) ?_
        refine xk_iload_n (pc := 32) d_K_unlink_32 rfl ?_
        refine xk_cV1 (pc := 33) d_K_unlink_33 ml_K_78 cz_Host_isThere ⟨rfl, rfl⟩ rfl (by first | rfl | assumption) (by omega) (by omega) (Nat.le_of_ble_eq_true rfl) ⟨(Nat.le_of_ble_eq_true rfl), (Nat.le_of_ble_eq_true rfl)⟩ ?_
        refine c_Host_isThere hn hS hf (hF.1.1 f hf) ?_
        first | refine xk_if_neN (pc := 36) (tgt := 42) d_K_unlink_36 rfl (by omega) (fun c_36 => ?_) (fun c_36 => ?_) | refine xk_if_ne (pc := 36) (tgt := 42) d_K_unlink_36 rfl (fun c_36 => ?_) (fun c_36 => ?_)
        · have c_37 := xs_bi_nz c_36
          refine xk_aload_n (pc := 42) d_K_unlink_42 rfl ?_
          refine xk_getRo (pc := 43) d_K_unlink_43 fl_K_25 (by first | rfl | assumption) rfl (by omega) (by omega) (hS _ _ _ rfl (by omega)) ?_
          refine xk_iload_n (pc := 46) d_K_unlink_46 rfl ?_
          refine xk_ialoado (pc := 47) d_K_unlink_47 (by first | rfl | assumption) (by omega) (by omega) rfl (by omega) (by decide) (hP f hf) ?_
          refine xk_iconst (pc := 48) (v := nI 1) d_K_unlink_48 (by decide) ?_
          first | refine xk_icmp_neN (pc := 49) (tgt := 55) d_K_unlink_49 rfl (by omega) (by omega) (fun c_49 => ?_) (fun c_49 => ?_) | refine xk_icmp_ne (pc := 49) (tgt := 55) d_K_unlink_49 rfl (fun c_49 => ?_) (fun c_49 => ?_)
          · refine xk_aload_n (pc := 55) d_K_unlink_55 rfl ?_
            refine xk_iload_n (pc := 56) d_K_unlink_56 rfl ?_
            refine xk_cV1 (pc := 57) d_K_unlink_57 ml_K_57 cz_K_isOpen ⟨rfl, rfl⟩ rfl (by first | rfl | assumption) (by omega) (by omega) (Nat.le_of_ble_eq_true rfl) ⟨(Nat.le_of_ble_eq_true rfl), (Nat.le_of_ble_eq_true rfl)⟩ ?_
            refine c_K_isOpen hn hS hO hf (fun o ho u k => (okO.2.2.1 o ho u).2.2.1 k |>.1) (fun eo => ?_) (fun eo => ?_)
            · refine xk_if_eq (pc := 60) (tgt := 66) d_K_unlink_60 rfl (fun h => absurd h (by decide)) (fun _ => ?_)
              refine xk_bipush (pc := 63) (v := (-9)) d_K_unlink_63 (by decide) ?_
              refine xk_iret (pc := 65) rfl d_K_unlink_65 rfl (Nat.le_of_ble_eq_true rfl) (Nat.le_of_ble_eq_true rfl) ?_
              have e : xs_unlink s (nI p) (nI f) = (-9, s) := by
                unfold xs_unlink
                rw [ep, enf]
                exact (if_neg (fun q => by rcases q with q | q; exact c_25 q; rw [c_37] at q; cases q)).trans ((if_neg c_49).trans (if_pos eo))
              exact xq_s e hA hQ
            · refine xk_if_eq (pc := 60) (tgt := 66) d_K_unlink_60 rfl (fun _ => ?_) (fun h => absurd (by decide) h)
              refine xk_aload_n (pc := 66) d_K_unlink_66 rfl ?_
              refine xk_getRo (pc := 67) d_K_unlink_67 fl_K_10 (by first | rfl | assumption) rfl (by omega) (by omega) (hS _ _ _ rfl (by omega)) ?_
              refine xk_iload_n (pc := 70) d_K_unlink_70 rfl ?_
              refine xk_cV1 (pc := 71) d_K_unlink_71 ml_K_151 cz_Host_removeFile ⟨rfl, rfl⟩ rfl (by first | rfl | assumption) (by omega) (by omega) (Nat.le_of_ble_eq_true rfl) ⟨(Nat.le_of_ble_eq_true rfl), (Nat.le_of_ble_eq_true rfl)⟩ ?_
              refine c_Host_removeFile hn hS hF.1 (by omega) (by have := okF.2.2.2.2.2; omega) hf (fun z m1 hR1 hm1 => ?_) (fun z m1 hR1 hm1 => ?_)
              · have hF1 : xr_F (xs_there (xs_op s.1.1 4 f 0).1 f false, s.1.2) m1 r := ⟨hR1, xr_L_kept hF.2.1 (hm1 8 (by decide) (by decide) (by decide)), xr_C_kept hF.2.2 rfl (by rw [hm1 7 (by decide) (by decide) (by decide)]) (fun a _ _ => hm1 a (by omega) (by omega) (by omega))⟩
                refine xk_if_ne (pc := 74) (tgt := 80) d_K_unlink_74 rfl (fun _ => ?_) (fun h => absurd h (by decide))
                refine xk_aload_n (pc := 80) d_K_unlink_80 rfl ?_
                refine xk_getRo (pc := 81) d_K_unlink_81 fl_K_21 (by first | rfl | assumption) rfl (by omega) (by omega) (hS _ _ _ rfl (by omega)) ?_
                refine xk_iload_n (pc := 84) d_K_unlink_84 rfl ?_
                refine xk_cV1 (pc := 85) d_K_unlink_85 ml_K_154 cz_Cache_dropFile ⟨rfl, rfl⟩ rfl (by first | rfl | assumption) (by omega) (by omega) (Nat.le_of_ble_eq_true rfl) ⟨(Nat.le_of_ble_eq_true rfl), (Nat.le_of_ble_eq_true rfl)⟩ ?_
                refine c_Cache_dropFile hn hS hF1 (xs_okF_there okF) hf (fun m2 r2 hF2 hm2 hr2 => ?_)
                refine xk_iconst (pc := 88) (v := nI 0) d_K_unlink_88 (by decide) ?_
                refine xk_iret (pc := 89) rfl d_K_unlink_89 rfl (Nat.le_of_ble_eq_true rfl) (Nat.le_of_ble_eq_true rfl) ?_
                have e : xs_unlink s (nI p) (nI f) = (nI 0, (xs_drop (xs_there (xs_op s.1.1 4 f 0).1 f false, s.1.2) f, s.2)) := by
                  unfold xs_unlink
                  rw [ep, enf]
                  exact (if_neg (fun q => by rcases q with q | q; exact c_25 q; rw [c_37] at q; cases q)).trans ((if_neg c_49).trans ((if_neg (by rw [eo]; decide)).trans ((if_pos (decide_eq_true z)).trans rfl)))
                have hfr : ∀ a, 20 ≤ a → m2 a = m a := fun a ha => (hm2 a ha).trans (hm1 a (by omega) (by omega) (by omega))
                exact xq_t e (xr_A_F hA hF2 hfr hr2) (xr_fr_9 (fun a _ _ => hfr a (by omega)) hr2) hQ
              · refine xk_if_ne (pc := 74) (tgt := 80) d_K_unlink_74 rfl (fun h => absurd (by decide) h) (fun _ => ?_)
                refine xk_bipush (pc := 77) (v := (-8)) d_K_unlink_77 (by decide) ?_
                refine xk_iret (pc := 79) rfl d_K_unlink_79 rfl (Nat.le_of_ble_eq_true rfl) (Nat.le_of_ble_eq_true rfl) ?_
                have e : xs_unlink s (nI p) (nI f) = (-8, (((xs_op s.1.1 4 f 0).1, s.1.2), s.2)) := by
                  unfold xs_unlink
                  rw [ep, enf]
                  exact (if_neg (fun q => by rcases q with q | q; exact c_25 q; rw [c_37] at q; cases q)).trans ((if_neg c_49).trans ((if_neg (by rw [eo]; decide)).trans (if_neg (fun q => z (of_decide_eq_true q)))))
                have hF1 : xr_F ((xs_op s.1.1 4 f 0).1, s.1.2) m1 r := ⟨hR1, xr_L_kept hF.2.1 (hm1 8 (by decide) (by decide)), xr_C_kept hF.2.2 rfl (by rw [hm1 7 (by decide) (by decide)]) (fun a _ _ => hm1 a (by omega) (by omega))⟩
                exact xq_t e (xr_A_F hA hF1 (fun a ha => hm1 a (by omega) (by omega)) (fun _ _ => rfl)) (xr_fr_m (fun a _ _ => hm1 a (by omega) (by omega))) hQ
          · refine xk_bipush (pc := 52) (v := (-5)) d_K_unlink_52 (by decide) ?_
            refine xk_iret (pc := 54) rfl d_K_unlink_54 rfl (Nat.le_of_ble_eq_true rfl) (Nat.le_of_ble_eq_true rfl) ?_
            have e : xs_unlink s (nI p) (nI f) = (-5, s) := by
              unfold xs_unlink
              rw [ep, enf]
              exact (if_neg (fun q => by rcases q with q | q; exact c_25 q; rw [c_37] at q; cases q)).trans (if_pos c_49)
            exact xq_s e hA hQ
        · rw [xs_bi_z] at c_36
          refine xk_bipush (pc := 39) (v := (-4)) d_K_unlink_39 (by decide) ?_
          refine xk_iret (pc := 41) rfl d_K_unlink_41 rfl (Nat.le_of_ble_eq_true rfl) (Nat.le_of_ble_eq_true rfl) ?_
          have e : xs_unlink s (nI p) (nI f) = (-4, s) := by
            unfold xs_unlink
            rw [ep, enf]
            first | exact if_pos (Or.inr c_36) | exact if_pos (Or.inl c_25)
          exact xq_s e hA hQ
    · refine xk_if_ne (pc := 14) (tgt := 19) d_K_unlink_14 rfl (fun h => absurd (by decide) h) (fun _ => ?_)
      refine xk_iconst (pc := 17) (v := (-1)) d_K_unlink_17 (by decide) ?_
      refine xk_iret (pc := 18) rfl d_K_unlink_18 rfl (Nat.le_of_ble_eq_true rfl) (Nat.le_of_ble_eq_true rfl) ?_
      first | exact xq_s (xs_unlink_1 (Or.inr enf)) hA hQ | exact xq_s (xs_unlink_1 (Or.inl ep)) hA hQ
  · refine xk_if_eq (pc := 5) (tgt := 17) d_K_unlink_5 rfl (fun _ => ?_) (fun h => absurd (by decide) h)
    refine xk_iconst (pc := 17) (v := (-1)) d_K_unlink_17 (by decide) ?_
    refine xk_iret (pc := 18) rfl d_K_unlink_18 rfl (Nat.le_of_ble_eq_true rfl) (Nat.le_of_ble_eq_true rfl) ?_
    first | exact xq_s (xs_unlink_1 (Or.inr enf)) hA hQ | exact xq_s (xs_unlink_1 (Or.inl ep)) hA hQ
