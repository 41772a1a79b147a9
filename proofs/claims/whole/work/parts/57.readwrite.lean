theorem xs_get_hd {F F' : xs_F} {f b : Nat} (h : xs_get F f b = (F', true)) : ∃ x l, F'.2.2 = x :: l := by
  cases hi : F.2.2.findIdx? (xs_is f b) with
  | some i =>
    obtain ⟨x, hx, -⟩ := xs_fi_is hi
    rw [xs_get_fi hi] at h
    cases h
    exact ⟨x, F.2.2.eraseIdx i, by show (F.2.2[i]?).toList ++ _ = _; rw [hx]; rfl⟩
  | none =>
    have e : xs_get F f b = if (xs_rm F).2 = true then xs_in (xs_rm F).1 f b else xs_rm F := by
      unfold xs_get
      rw [hi]
    rw [e] at h
    split at h
    · unfold xs_in at h
      split at h
      · split at h
        · cases h; exact ⟨_, _, rfl⟩
        · cases h
      · cases h; exact ⟨_, _, rfl⟩
    · next q => rw [h] at q; exact absurd rfl q
theorem xs_okr {F : xs_F} (h : xs_okF F) (hs : F.1.2.2.2.2.1 + 4 < 2 ^ 20) : ∀ F', xs_rm F = (F', true) → xs_okF F' ∧ xs_small F' ∧ F'.2.2.length < 5 := by
  intro F' e
  obtain ⟨r1, r2, r3, r4, r5⟩ := xo_rm h
  rw [e] at r1 r2 r4
  exact ⟨r1, by unfold xs_small; show F'.1.2.2.2.2.1 < 2 ^ 20; have : F'.1.2.2.2.2.1 ≤ F.1.2.2.2.2.1 + 1 := r2; omega, r4 rfl⟩
theorem xr_C_hd {l : List xs_B} {m : xk_M} {r : xk_P} {x : xs_B} {j : Nat} (h : xr_C (x :: l) m r) (h9 : r 9 0 = some (10 + 2 * j)) : xr_B x (10 + 2 * j) m := by
  obtain ⟨hz, hl5, β, hβ, hinj, hB⟩ := h
  have := (hβ 0 (by omega)).2.symm.trans h9
  have e : β 0 = j := by have := Option.some.inj this; omega
  rw [← e]
  exact hB 0 x rfl
def xs_rf (s : xs_S) (o : Nat) : Int32 × xs_S :=
  if s.1.2.1 (s.2.2.1.2.2.1 o) ≤ s.2.2.1.2.2.2.2.1 o then (-7, s)
  else if (xs_get s.1 (s.2.2.1.2.2.1 o) (s.2.2.1.2.2.2.2.1 o / 8)).2 = true then
    ((match (xs_get s.1 (s.2.2.1.2.2.1 o) (s.2.2.1.2.2.2.2.1 o / 8)).1.2.2 with
      | [] => 0
      | x :: _ => x.2.2.2 (s.2.2.1.2.2.2.2.1 o % 8)), ((xs_get s.1 (s.2.2.1.2.2.1 o) (s.2.2.1.2.2.2.2.1 o / 8)).1, s.2.1, xs_pos s.2.2.1 o (s.2.2.1.2.2.2.2.1 o + 1), s.2.2.2))
  else (-8, ((xs_get s.1 (s.2.2.1.2.2.1 o) (s.2.2.1.2.2.2.2.1 o / 8)).1, s.2))

set_option maxRecDepth 20000 in
set_option maxHeartbeats 4000000 in
theorem c_K_readFile {E : xk_E} {n : Nat} {m : xk_M} {r : xk_P} {Q : xk_Q} {s : xs_S} (hA : xr_A s m r n) (hok : xs_ok s) (hsm : s.1.1.2.2.2.2.1 + 4 < 2 ^ 20) {o : Nat} (ho : o < 16) (hu : xs_used s.2.2.1 o = true) (kz : s.2.2.1.2.1 o = 0) (hQ : ∀ n' m' r', n ≤ n' → n' ≤ n → xr_A (xs_rf s o).2 m' r' n' → xr_fr m m' r r' → Q (some (.inl (xs_rf s o).1)) n' m' r') : xk_W E m_K_readFile 0 (xk_ent m_K_readFile [.inr (some 1), .inr (some (22 + o))]) [] n m r 0 0 Q := by
  show xk_W E m_K_readFile 0 [some (.inr (some 1)), some (.inr (some (22 + o))), none, none] [] n m r 0 0 Q
  obtain ⟨hF, hP, hO, hT, hS, hn⟩ := id hA
  obtain ⟨okF, okP, okO, okT⟩ := id hok
  obtain ⟨-, -, pa, h3, h4, h5⟩ := id hO
  obtain ⟨i1, i2, i3⟩ := h3 o ho hu
  obtain ⟨j1, j2, j3⟩ := i2 kz
  obtain ⟨k1, k2, k3, k4⟩ := okO.2.2.1 o ho hu
  obtain ⟨kw, kp⟩ := k3 kz
  have hko := xr_kd_op o ho
  have hlw := (okF.1 _ kw).2
  refine xk_aload_n (pc := 0) d_K_readFile_0 rfl ?_
  refine xk_getIo (pc := 1) d_K_readFile_1 fl_K_142 (by first | rfl | assumption) rfl (by omega) (by omega) j3 ?_
  refine xk_istore_n (pc := 4) d_K_readFile_4 (by decide) ?_
  refine xk_iload_n (pc := 5) d_K_readFile_5 rfl ?_
  refine xk_aload_n (pc := 6) d_K_readFile_6 rfl ?_
  refine xk_getRo (pc := 7) d_K_readFile_7 fl_K_21 (by first | rfl | assumption) rfl (by omega) (by omega) (hS _ _ _ rfl (by omega)) ?_
  refine xk_aload_n (pc := 10) d_K_readFile_10 rfl ?_
  refine xk_getIo (pc := 11) d_K_readFile_11 fl_K_135 (by first | rfl | assumption) rfl (by omega) (by omega) j2 ?_
  refine xk_cV1 (pc := 14) d_K_readFile_14 ml_K_139 cz_Cache_lengthOf ⟨rfl, rfl⟩ rfl (by first | rfl | assumption) (by omega) (by omega) (Nat.le_of_ble_eq_true rfl) ⟨(Nat.le_of_ble_eq_true rfl), (Nat.le_of_ble_eq_true rfl)⟩ ?_
  refine c_Cache_lengthOf hn hS kw ?_
  rw [hF.2.1 _ kw]
  first | refine xk_icmp_ltN (pc := 17) (tgt := 23) d_K_readFile_17 rfl (by omega) (by omega) (fun c_17 => ?_) (fun c_17 => ?_) | refine xk_icmp_lt (pc := 17) (tgt := 23) d_K_readFile_17 rfl (fun c_17 => ?_) (fun c_17 => ?_)
  · refine xk_aload_n (pc := 23) d_K_readFile_23 rfl ?_
    refine xk_getRo (pc := 24) d_K_readFile_24 fl_K_21 (by first | rfl | assumption) rfl (by omega) (by omega) (hS _ _ _ rfl (by omega)) ?_
    refine xk_aload_n (pc := 27) d_K_readFile_27 rfl ?_
    refine xk_getIo (pc := 28) d_K_readFile_28 fl_K_135 (by first | rfl | assumption) rfl (by omega) (by omega) j2 ?_
    refine xk_iload_n (pc := 31) d_K_readFile_31 rfl ?_
    refine xk_bipush (pc := 32) (v := nI 8) d_K_readFile_32 (by decide) ?_
    refine xk_idivN (pc := 34) d_K_readFile_34 (by decide) (by omega) (by decide) ?_
    refine xk_cV2 (pc := 35) d_K_readFile_35 ml_K_239 cz_Cache_getBlock ⟨rfl, rfl⟩ rfl (by first | rfl | assumption) (by omega) (by omega) (Nat.le_of_ble_eq_true rfl) ⟨(Nat.le_of_ble_eq_true rfl), (Nat.le_of_ble_eq_true rfl)⟩ ?_
    refine c_Cache_getBlock hn hS hF okF (by unfold xs_small; omega) kw (by omega) (fun F1 m1 r1 j e1 hF1 hj h90 hm1 hr1 => ?_) (fun F1 m1 e1 hF1 hm1 => ?_) (xs_okr okF hsm)
    · have hS1 := xr_S_9 hS hr1
      have hkb := xr_kd_blk j hj
      have hkc := xr_kd_bc j hj
      obtain ⟨xb, lb, hxl⟩ := xs_get_hd e1
      have hCC := hF1.2.2
      rw [hxl] at hCC
      have hcell := (xr_C_hd hCC h90).2.2.2
      rw [show 10 + 2 * j + 1 = 11 + 2 * j by omega] at hcell
      refine xk_astore_n (pc := 38) d_K_readFile_38 (by decide) ?_
      refine xk_aload_n (pc := 39) d_K_readFile_39 rfl ?_
      refine xk_ifnonnull (pc := 40) (tgt := 46) d_K_readFile_40 rfl (fun _ _ => ?_) (fun h => by cases h)
      refine xk_aload_n (pc := 46) d_K_readFile_46 rfl ?_
      refine xk_iload_n (pc := 47) d_K_readFile_47 rfl ?_
      refine xk_iconst (pc := 48) (v := nI 1) d_K_readFile_48 (by decide) ?_
      first | refine xk_iaddN (pc := 49) d_K_readFile_49 ?_ | refine xk_iadd (pc := 49) d_K_readFile_49 ?_
      refine xk_putI (pc := 50) d_K_readFile_50 fl_K_142 (by first | rfl | assumption) rfl (fun q hq h => by cases hq; first | exact absurd h (by decide) | exact ⟨rfl, rfl, rfl⟩) ⟨rfl, rfl⟩ (by omega) (by omega) ?_
      refine xk_aload_n (pc := 53) d_K_readFile_53 rfl ?_
      refine xk_getRo (pc := 54) d_K_readFile_54 fl_K_243 (by first | rfl | assumption) rfl (by omega) (by omega) (hS1 _ _ _ (xr_st_blk _ hj) (by omega)) ?_
      refine xk_iload_n (pc := 57) d_K_readFile_57 rfl ?_
      refine xk_bipush (pc := 58) (v := nI 8) d_K_readFile_58 (by decide) ?_
      refine xk_iremN (pc := 60) d_K_readFile_60 (by decide) (by omega) (by decide) ?_
      refine xk_ialoado (pc := 61) d_K_readFile_61 (by first | rfl | assumption) (by omega) (by omega) rfl (Nat.mod_lt _ (by decide)) (by decide) ((xk_up_a (by omega)).trans (hcell _ (Nat.mod_lt _ (by decide)))) ?_
      refine xk_iret (pc := 62) rfl d_K_readFile_62 rfl (Nat.le_of_ble_eq_true rfl) (Nat.le_of_ble_eq_true rfl) ?_
      have e : xs_rf s o = (xb.2.2.2 (s.2.2.1.2.2.2.2.1 o % 8), (F1, s.2.1, xs_pos s.2.2.1 o (s.2.2.1.2.2.2.2.1 o + 1), s.2.2.2)) := by
        refine (if_neg (by omega)).trans ((if_pos (by rw [e1])).trans ?_)
        rw [e1]
        show ((match F1.2.2 with | [] => (0 : Int32) | x :: _ => x.2.2.2 (s.2.2.1.2.2.2.2.1 o % 8)), _) = _
        rw [hxl]
      exact xq_t e (xr_A_pos (s := (F1, s.2)) (xr_A_F hA hF1 hm1 hr1) ho kz) (fun a q1 q2 => ⟨by rw [← hm1 a (by omega)]; funext k; exact xk_up_a (by omega), hr1 a (by omega)⟩) hQ
    · refine xk_astore_n (pc := 38) d_K_readFile_38 (by decide) ?_
      refine xk_aload_n (pc := 39) d_K_readFile_39 rfl ?_
      refine xk_ifnonnull (pc := 40) (tgt := 46) d_K_readFile_40 rfl (fun _ h => by cases h) (fun _ => ?_)
      refine xk_bipush (pc := 43) (v := (-8)) d_K_readFile_43 (by decide) ?_
      refine xk_iret (pc := 45) rfl d_K_readFile_45 rfl (Nat.le_of_ble_eq_true rfl) (Nat.le_of_ble_eq_true rfl) ?_
      have e : xs_rf s o = (-8, (F1, s.2)) := by
        refine (if_neg (by omega)).trans ((if_neg (by rw [e1]; exact Bool.false_ne_true)).trans ?_)
        rw [e1]
      exact xq_t e (xr_A_F hA hF1 hm1 (fun _ _ => rfl)) (xr_fr_m (fun a _ _ => hm1 a (by omega))) hQ
  · refine xk_bipush (pc := 20) (v := (-7)) d_K_readFile_20 (by decide) ?_
    refine xk_iret (pc := 22) rfl d_K_readFile_22 rfl (Nat.le_of_ble_eq_true rfl) (Nat.le_of_ble_eq_true rfl) ?_
    exact xq_s (show xs_rf s o = (-7, s) from if_pos c_17) hA hQ

theorem xs_get_ln {F F' : xs_F} {f b : Nat} {v : Bool} (h : xs_get F f b = (F', v)) (hok : xs_okF F) (hf : f < 8) (hb : b < 4) : F'.2.1 = F.2.1 := by
  have := (xo_get hok hf hb).2.2
  rw [h] at this
  exact this
theorem xr_F_cell {F : xs_F} {m : xk_M} {r : xk_P} {j k : Nat} {v : Int32} {x : xs_B} {l : List xs_B} (h : xr_F F m r) (hl : F.2.2 = x :: l) (hj : j < 5) (h9 : r 9 0 = some (10 + 2 * j)) (hk : k < 8) : xr_F (xs_cell F k v) (xk_up (xk_up m (10 + 2 * j) 2 (nI 1)) (11 + 2 * j) k v) r := by
  have fr : ∀ a, a ≠ 10 + 2 * j → a ≠ 11 + 2 * j → (xk_up (xk_up m (10 + 2 * j) 2 (nI 1)) (11 + 2 * j) k v) a = m a := fun a h1 h2 => by funext q; rw [xk_up_a h2, xk_up_a h1]
  refine ⟨xr_H_kept h.1 (fr _ (by omega) (by omega)) (fr _ (by omega) (by omega)) (fr _ (by omega) (by omega)) (fr _ (by omega) (by omega)) (fr _ (by omega) (by omega)), xr_L_kept h.2.1 (fr _ (by omega) (by omega)), ?_⟩
  have hC := h.2.2
  rw [hl] at hC
  show xr_C (match F.2.2 with | [] => [] | x :: l => (x.1, x.2.1, true, xs_u x.2.2.2 k v) :: l) _ r
  rw [hl]
  obtain ⟨hz, hl5, β, hβ, hinj, hB⟩ := hC
  have e0 : β 0 = j := by
    have := Option.some.inj ((hβ 0 (by omega)).2.symm.trans h9)
    omega
  refine ⟨by rw [fr 7 (by omega) (by omega)]; exact hz, hl5, β, hβ, hinj, fun i y hy => ?_⟩
  cases i with
  | zero =>
    cases hy
    obtain ⟨b0, b1, b2, b3⟩ := hB 0 x rfl
    rw [e0] at b0 b1 b2 b3 ⊢
    refine ⟨by rw [xk_up_a (by omega), xk_up_k (by decide)]; exact b0, by rw [xk_up_a (by omega), xk_up_k (by decide)]; exact b1, by rw [xk_up_a (by omega), xk_up_s]; rfl, fun q hq => ?_⟩
    show _ = xs_u x.2.2.2 k v q
    rw [show 10 + 2 * j + 1 = 11 + 2 * j by omega] at b3 ⊢
    by_cases e : q = k
    · subst e; rw [xk_up_s, xs_u_s]
    · rw [xk_up_k e, xk_up_a (by omega), xs_u_n e]; exact b3 q hq
  | succ i =>
    have hy2 : (x :: l)[i + 1]? = some y := hy
    have hi5 : i + 1 < 5 := by have := xs_lt hy2; omega
    have hne : β (i + 1) ≠ j := fun q => by
      have := hinj (i + 1) 0 hi5 (by omega) (q.trans e0.symm)
      omega
    exact xr_B_kept (hB (i + 1) y hy2) (fr _ (by omega) (by omega)) (fr _ (by omega) (by omega))
def xs_at (s : xs_S) (o : Nat) : Nat := if s.2.2.1.2.2.2.1 o / 4 % 2 = 1 then s.1.2.1 (s.2.2.1.2.2.1 o) else s.2.2.1.2.2.2.2.1 o
def xs_wf (s : xs_S) (o v : Nat) : Int32 × xs_S :=
  if xs_at s o = 32 then (-2, s)
  else if (xs_get s.1 (s.2.2.1.2.2.1 o) (xs_at s o / 8)).2 = true then
    (1, (xs_len (xs_cell (xs_get s.1 (s.2.2.1.2.2.1 o) (xs_at s o / 8)).1 (xs_at s o % 8) (nI v)) (s.2.2.1.2.2.1 o) (max (s.1.2.1 (s.2.2.1.2.2.1 o)) (xs_at s o + 1)), s.2.1, xs_pos s.2.2.1 o (xs_at s o + 1), s.2.2.2))
  else (-8, ((xs_get s.1 (s.2.2.1.2.2.1 o) (xs_at s o / 8)).1, s.2))

set_option maxRecDepth 20000 in
set_option maxHeartbeats 4000000 in
theorem s_wf28 {E : xk_E} {n : Nat} {m : xk_M} {r : xk_P} {Q : xk_Q} {s : xs_S} (hA : xr_A s m r n) (hok : xs_ok s) (hsm : s.1.1.2.2.2.2.1 + 4 < 2 ^ 20) {o v tt : Nat} (ho : o < 16) (hu : xs_used s.2.2.1 o = true) (kz : s.2.2.1.2.1 o = 0) (hat : xs_at s o = tt) (ht32 : tt ≤ 32) (hQ : ∀ n' m' r', n ≤ n' → n' ≤ n → xr_A (xs_wf s o v).2 m' r' n' → xr_fr m m' r r' → Q (some (.inl (xs_wf s o v).1)) n' m' r') : xk_W E m_K_writeFile 28 [some (.inr (some 1)), some (.inr (some (22 + o))), some (.inl (nI v)), some (.inl (nI (s.1.2.1 (s.2.2.1.2.2.1 o)))), none, none] [.inl (nI tt)] n m r 0 0 Q := by
  obtain ⟨hF, hP, hO, hT, hS, hn⟩ := id hA
  obtain ⟨okF, okP, okO, okT⟩ := id hok
  obtain ⟨-, -, pa, h3, h4, h5⟩ := id hO
  obtain ⟨i1, i2, i3⟩ := h3 o ho hu
  obtain ⟨j1, j2, j3⟩ := i2 kz
  obtain ⟨k1, k2, k3, k4⟩ := okO.2.2.1 o ho hu
  obtain ⟨kw, kp⟩ := k3 kz
  have hko := xr_kd_op o ho
  have hlw := (okF.1 _ kw).2
  refine xk_istore (pc := 28) d_K_writeFile_28 (by decide) ?_
  refine xk_iload (pc := 30) d_K_writeFile_30 rfl ?_
  refine xk_bipush (pc := 32) (v := nI 32) d_K_writeFile_32 (by decide) ?_
  first | refine xk_icmp_ltN (pc := 34) (tgt := 40) d_K_writeFile_34 rfl (by omega) (by omega) (fun c_34 => ?_) (fun c_34 => ?_) | refine xk_icmp_lt (pc := 34) (tgt := 40) d_K_writeFile_34 rfl (fun c_34 => ?_) (fun c_34 => ?_)
  · refine xk_aload_n (pc := 40) d_K_writeFile_40 rfl ?_
    refine xk_getRo (pc := 41) d_K_writeFile_41 fl_K_21 (by first | rfl | assumption) rfl (by omega) (by omega) (hS _ _ _ rfl (by omega)) ?_
    refine xk_aload_n (pc := 44) d_K_writeFile_44 rfl ?_
    refine xk_getIo (pc := 45) d_K_writeFile_45 fl_K_135 (by first | rfl | assumption) rfl (by omega) (by omega) j2 ?_
    refine xk_iload (pc := 48) d_K_writeFile_48 rfl ?_
    refine xk_bipush (pc := 50) (v := nI 8) d_K_writeFile_50 (by decide) ?_
    refine xk_idivN (pc := 52) d_K_writeFile_52 (by decide) (by omega) (by decide) ?_
    refine xk_cV2 (pc := 53) d_K_writeFile_53 ml_K_239 cz_Cache_getBlock ⟨rfl, rfl⟩ rfl (by first | rfl | assumption) (by omega) (by omega) (Nat.le_of_ble_eq_true rfl) ⟨(Nat.le_of_ble_eq_true rfl), (Nat.le_of_ble_eq_true rfl)⟩ ?_
    refine c_Cache_getBlock hn hS hF okF (by unfold xs_small; omega) kw (by omega) (fun F1 m1 r1 j e1 hF1 hj h90 hm1 hr1 => ?_) (fun F1 m1 e1 hF1 hm1 => ?_) (xs_okr okF hsm)
    · have hS1 := xr_S_9 hS hr1
      have hkb := xr_kd_blk j hj
      have hkc := xr_kd_bc j hj
      obtain ⟨xb, lb, hxl⟩ := xs_get_hd e1
      refine xk_astore (pc := 56) d_K_writeFile_56 (by decide) ?_
      refine xk_aload (pc := 58) d_K_writeFile_58 rfl ?_
      refine xk_ifnonnull (pc := 60) (tgt := 66) d_K_writeFile_60 rfl (fun _ _ => ?_) (fun h => by cases h)
      refine xk_aload (pc := 66) d_K_writeFile_66 rfl ?_
      refine xk_iconst (pc := 68) (v := nI 1) d_K_writeFile_68 (by decide) ?_
      refine xk_putI (pc := 69) d_K_writeFile_69 fl_K_246 (by first | rfl | assumption) rfl (fun q hq h => by cases hq; first | exact absurd h (by decide) | exact ⟨rfl, rfl, rfl⟩) ⟨rfl, rfl⟩ (by omega) (by omega) ?_
      refine xk_aload (pc := 72) d_K_writeFile_72 rfl ?_
      refine xk_getRo (pc := 74) d_K_writeFile_74 fl_K_243 (by first | rfl | assumption) rfl (by omega) (by omega) (hS1 _ _ _ (xr_st_blk _ hj) (by omega)) ?_
      refine xk_iload (pc := 77) d_K_writeFile_77 rfl ?_
      refine xk_bipush (pc := 79) (v := nI 8) d_K_writeFile_79 (by decide) ?_
      refine xk_iremN (pc := 81) d_K_writeFile_81 (by decide) (by omega) (by decide) ?_
      refine xk_iload_n (pc := 82) d_K_writeFile_82 rfl ?_
      refine xk_iastore (pc := 83) d_K_writeFile_83 (by first | rfl | assumption) (by omega) (by omega) rfl (Nat.mod_lt _ (by decide)) (by decide) ?_
      refine xk_aload_n (pc := 84) d_K_writeFile_84 rfl ?_
      refine xk_getRo (pc := 85) d_K_writeFile_85 fl_K_21 (by first | rfl | assumption) rfl (by omega) (by omega) (hS1 _ _ _ rfl (by omega)) ?_
      refine xk_aload_n (pc := 88) d_K_writeFile_88 rfl ?_
      refine xk_getIo (pc := 89) d_K_writeFile_89 fl_K_135 (by first | rfl | assumption) rfl (by omega) (by omega) ((xk_up_a (by omega)).trans ((xk_up_a (by omega)).trans ((congrFun (hm1 _ (by omega)) _).trans j2))) ?_
      refine xk_iload_n (pc := 92) d_K_writeFile_92 rfl ?_
      refine xk_iload (pc := 93) d_K_writeFile_93 rfl ?_
      refine xk_iconst (pc := 95) (v := nI 1) d_K_writeFile_95 (by decide) ?_
      first | refine xk_iaddN (pc := 96) d_K_writeFile_96 ?_ | refine xk_iadd (pc := 96) d_K_writeFile_96 ?_
      refine xk_mmax (pc := 97) d_K_writeFile_97 (xk_in (List.mem_of_getElem? (i := 412) (by decide +kernel)) rfl) (xk_in (List.mem_of_getElem? (i := 386) (by decide +kernel)) rfl) (xk_in (List.mem_of_getElem? (i := 44) (by decide +kernel)) rfl) (xk_in (List.mem_of_getElem? (i := 387) (by decide +kernel)) rfl) (Nat.le_of_ble_eq_true rfl) (Nat.le_of_ble_eq_true rfl) (Nat.le_of_ble_eq_true rfl) (Nat.le_of_ble_eq_true rfl) ?_
      rw [xs_maxN (by omega) (by omega)]
      refine xk_cV2 (pc := 100) d_K_writeFile_100 ml_K_68 cz_Cache_setLength ⟨rfl, rfl⟩ rfl (by first | rfl | assumption) (by omega) (by omega) (Nat.le_of_ble_eq_true rfl) ⟨(Nat.le_of_ble_eq_true rfl), (Nat.le_of_ble_eq_true rfl)⟩ ?_
      refine c_Cache_setLength hn hS1 kw ?_
      refine xk_aload_n (pc := 103) d_K_writeFile_103 rfl ?_
      refine xk_iload (pc := 104) d_K_writeFile_104 rfl ?_
      refine xk_iconst (pc := 106) (v := nI 1) d_K_writeFile_106 (by decide) ?_
      first | refine xk_iaddN (pc := 107) d_K_writeFile_107 ?_ | refine xk_iadd (pc := 107) d_K_writeFile_107 ?_
      refine xk_putI (pc := 108) d_K_writeFile_108 fl_K_142 (by first | rfl | assumption) rfl (fun q hq h => by cases hq; first | exact absurd h (by decide) | exact ⟨rfl, rfl, rfl⟩) ⟨rfl, rfl⟩ (by omega) (by omega) ?_
      refine xk_iconst (pc := 111) (v := nI 1) d_K_writeFile_111 (by decide) ?_
      refine xk_iret (pc := 112) rfl d_K_writeFile_112 rfl (Nat.le_of_ble_eq_true rfl) (Nat.le_of_ble_eq_true rfl) ?_
      have e : xs_wf s o v = (nI 1, (xs_len (xs_cell F1 (tt % 8) (nI v)) (s.2.2.1.2.2.1 o) (max (s.1.2.1 (s.2.2.1.2.2.1 o)) (tt + 1)), s.2.1, xs_pos s.2.2.1 o (tt + 1), s.2.2.2)) := by
        unfold xs_wf
        rw [hat]
        refine (if_neg (by omega)).trans ((if_pos (by rw [e1])).trans ?_)
        rw [e1]
        rfl
      have hF2 := xr_F_len (f := s.2.2.1.2.2.1 o) (l := max (s.1.2.1 (s.2.2.1.2.2.1 o)) (tt + 1)) (xr_F_cell (v := nI v) hF1 hxl hj h90 (Nat.mod_lt tt (by decide : 0 < 8)))
      have hfr : ∀ a, 20 ≤ a → (xk_up (xk_up (xk_up m1 (10 + 2 * j) 2 (nI 1)) (11 + 2 * j) (tt % 8) (nI v)) 8 (s.2.2.1.2.2.1 o) (nI (max (s.1.2.1 (s.2.2.1.2.2.1 o)) (tt + 1)))) a = m a := fun a ha => by
        rw [← hm1 a ha]
        funext k
        rw [xk_up_a (by omega), xk_up_a (by omega), xk_up_a (by omega)]
      exact xq_t e (xr_A_pos (s := (xs_len (xs_cell F1 (tt % 8) (nI v)) (s.2.2.1.2.2.1 o) (max (s.1.2.1 (s.2.2.1.2.2.1 o)) (tt + 1)), s.2)) (xr_A_F hA hF2 hfr hr1) ho kz) (fun a q1 q2 => ⟨by rw [← hfr a (by omega)]; funext k; exact xk_up_a (by omega), hr1 a (by omega)⟩) hQ
    · refine xk_astore (pc := 56) d_K_writeFile_56 (by decide) ?_
      refine xk_aload (pc := 58) d_K_writeFile_58 rfl ?_
      refine xk_ifnonnull (pc := 60) (tgt := 66) d_K_writeFile_60 rfl (fun _ h => by cases h) (fun _ => ?_)
      refine xk_bipush (pc := 63) (v := (-8)) d_K_writeFile_63 (by decide) ?_
      refine xk_iret (pc := 65) rfl d_K_writeFile_65 rfl (Nat.le_of_ble_eq_true rfl) (Nat.le_of_ble_eq_true rfl) ?_
      have e : xs_wf s o v = (-8, (F1, s.2)) := by
        unfold xs_wf
        rw [hat]
        refine (if_neg (by omega)).trans ((if_neg (by rw [e1]; exact Bool.false_ne_true)).trans ?_)
        rw [e1]
      exact xq_t e (xr_A_F hA hF1 hm1 (fun _ _ => rfl)) (xr_fr_m (fun a _ _ => hm1 a (by omega))) hQ
  · refine xk_bipush (pc := 37) (v := (-2)) d_K_writeFile_37 (by decide) ?_
    refine xk_iret (pc := 39) rfl d_K_writeFile_39 rfl (Nat.le_of_ble_eq_true rfl) (Nat.le_of_ble_eq_true rfl) ?_
    exact xq_s (show xs_wf s o v = (-2, s) from if_pos (by omega)) hA hQ

set_option maxRecDepth 20000 in
set_option maxHeartbeats 4000000 in
theorem c_K_writeFile {E : xk_E} {n : Nat} {m : xk_M} {r : xk_P} {Q : xk_Q} {s : xs_S} (hA : xr_A s m r n) (hok : xs_ok s) (hsm : s.1.1.2.2.2.2.1 + 4 < 2 ^ 20) {v : Nat} {o : Nat} (ho : o < 16) (hu : xs_used s.2.2.1 o = true) (kz : s.2.2.1.2.1 o = 0) (hQ : ∀ n' m' r', n ≤ n' → n' ≤ n → xr_A (xs_wf s o v).2 m' r' n' → xr_fr m m' r r' → Q (some (.inl (xs_wf s o v).1)) n' m' r') : xk_W E m_K_writeFile 0 (xk_ent m_K_writeFile [.inr (some 1), .inr (some (22 + o)), .inl (nI v)]) [] n m r 0 0 Q := by
  show xk_W E m_K_writeFile 0 [some (.inr (some 1)), some (.inr (some (22 + o))), some (.inl (nI v)), none, none, none] [] n m r 0 0 Q
  obtain ⟨hF, hP, hO, hT, hS, hn⟩ := id hA
  obtain ⟨okF, okP, okO, okT⟩ := id hok
  obtain ⟨-, -, pa, h3, h4, h5⟩ := id hO
  obtain ⟨i1, i2, i3⟩ := h3 o ho hu
  obtain ⟨j1, j2, j3⟩ := i2 kz
  obtain ⟨k1, k2, k3, k4⟩ := okO.2.2.1 o ho hu
  obtain ⟨kw, kp⟩ := k3 kz
  have hko := xr_kd_op o ho
  have hlw := (okF.1 _ kw).2
  refine xk_aload_n (pc := 0) d_K_writeFile_0 rfl ?_
  refine xk_getRo (pc := 1) d_K_writeFile_1 fl_K_21 (by first | rfl | assumption) rfl (by omega) (by omega) (hS _ _ _ rfl (by omega)) ?_
  refine xk_aload_n (pc := 4) d_K_writeFile_4 rfl ?_
  refine xk_getIo (pc := 5) d_K_writeFile_5 fl_K_135 (by first | rfl | assumption) rfl (by omega) (by omega) j2 ?_
  refine xk_cV1 (pc := 8) d_K_writeFile_8 ml_K_139 cz_Cache_lengthOf ⟨rfl, rfl⟩ rfl (by first | rfl | assumption) (by omega) (by omega) (Nat.le_of_ble_eq_true rfl) ⟨(Nat.le_of_ble_eq_true rfl), (Nat.le_of_ble_eq_true rfl)⟩ ?_
  refine c_Cache_lengthOf hn hS kw ?_
  rw [hF.2.1 _ kw]
  refine xk_istore_n (pc := 11) d_K_writeFile_11 (by decide) ?_
  refine xk_aload_n (pc := 12) d_K_writeFile_12 rfl ?_
  refine xk_iconst (pc := 13) (v := nI 4) d_K_writeFile_13 (by decide) ?_
  refine xk_cV1 (pc := 14) d_K_writeFile_14 ml_K_113 cz_Opening_may ⟨rfl, rfl⟩ rfl (by first | rfl | assumption) (by omega) (by omega) (Nat.le_of_ble_eq_true rfl) ⟨(Nat.le_of_ble_eq_true rfl), (Nat.le_of_ble_eq_true rfl)⟩ ?_
  refine c_Opening_may hn hS ho i1 (fun q => ?_) (fun q => ?_)
  · refine xk_if_eq (pc := 17) (tgt := 24) d_K_writeFile_17 rfl (fun h => absurd h (by decide)) (fun _ => ?_)
    refine xk_iload_n (pc := 20) d_K_writeFile_20 rfl ?_
    refine xk_goto (pc := 21) (tgt := 28) d_K_writeFile_21 rfl ?_
    first
      | exact s_wf28 hA hok hsm ho hu kz (if_pos (by
          have h8 := (xs_b4 _ k2).mpr
          have : ¬ s.2.2.1.2.2.2.1 o / 4 % 2 = 0 := fun z => q (h8 z)
          omega)) hlw hQ
      | exact s_wf28 hA hok hsm ho hu kz (if_neg (by
          have := (xs_b4 _ k2).mp q
          omega)) kp hQ
  · refine xk_if_eq (pc := 17) (tgt := 24) d_K_writeFile_17 rfl (fun _ => ?_) (fun h => absurd (by decide) h)
    refine xk_aload_n (pc := 24) d_K_writeFile_24 rfl ?_
    refine xk_getIo (pc := 25) d_K_writeFile_25 fl_K_142 (by first | rfl | assumption) rfl (by omega) (by omega) j3 ?_
    first
      | exact s_wf28 hA hok hsm ho hu kz (if_pos (by
          have h8 := (xs_b4 _ k2).mpr
          have : ¬ s.2.2.1.2.2.2.1 o / 4 % 2 = 0 := fun z => q (h8 z)
          omega)) hlw hQ
      | exact s_wf28 hA hok hsm ho hu kz (if_neg (by
          have := (xs_b4 _ k2).mp q
          omega)) kp hQ

theorem xr_A_pip {s : xs_S} {m m' : xk_M} {r : xk_P} {n o A : Nat} {l' : List Int32} (hA : xr_A s m r n) (ho : o < 16) (hu : xs_used s.2.2.1 o = true) (hk : s.2.2.1.2.1 o ≠ 0) (hAr : r (22 + o) 4 = some A) (hm : ∀ a, a ≠ A → a ≠ A + 1 → m' a = m a) (h3' : m' A 3 = m A 3) (h4' : m' A 4 = m A 4) (hp : ∃ old, old < 4 ∧ m' A 1 = nI old ∧ m' A 2 = nI l'.length ∧ ∀ (i : Nat) (x : Int32), l'[i]? = some x → m' (A + 1) ((old + i) % 4) = x) : xr_A (s.1, s.2.1, xs_pip s.2.2.1 (s.2.2.1.2.2.1 o) l', s.2.2.2) m' r n := by
  obtain ⟨hF, hP, hO, hT, hS, hn⟩ := hA
  obtain ⟨h1, h2, pa, h3, h4, h5⟩ := hO
  have eA : pa (s.2.2.1.2.2.1 o) = A := Option.some.inj (((h3 o ho hu).2.2 hk).symm.trans hAr)
  have hA1 := (h4 o ho hu hk)
  rw [eA] at hA1
  have hA74 := hA1.1
  have hA2 := hA1.2.1
  refine ⟨xr_F_kept hF (fun a ha => hm a (by omega) (by omega)) rfl, fun f hf => by rw [hm 20 (by omega) (by omega)]; exact hP f hf, ⟨fun o' ho' => by rw [hm _ (by omega) (by omega)]; exact h1 o' ho', h2, pa, fun o' ho' hu' => ?_, fun o' ho' hu' hk' => ?_, h5⟩, xr_T_kept hT (fun a _ _ => hm a (by omega) (by omega)), hS, hn⟩
  · have := h3 o' ho' hu'
    unfold xr_I at this ⊢
    rw [hm _ (by omega) (by omega)]
    exact this
  · have q4 := h4 o' ho' hu' hk'
    show xr_P (xs_pip s.2.2.1 (s.2.2.1.2.2.1 o) l') (pa (s.2.2.1.2.2.1 o')) (s.2.2.1.2.2.1 o') m' n
    by_cases e : s.2.2.1.2.2.1 o' = s.2.2.1.2.2.1 o
    · obtain ⟨a1, a2, a3, -, a5, a6⟩ := q4
      rw [e, eA] at a1 a2 a3 a5 a6 ⊢
      obtain ⟨old, b1, b2, b3, b4⟩ := hp
      refine ⟨a1, a2, a3, ⟨old, b1, b2, ?_, fun i x hx => ?_⟩, h3'.trans a5, h4'.trans a6⟩
      · show _ = nI (xs_u s.2.2.1.2.2.2.2.2 (s.2.2.1.2.2.1 o) l' (s.2.2.1.2.2.1 o)).length
        rw [xs_u_s]; exact b3
      · have hx2 : (xs_u s.2.2.1.2.2.2.2.2 (s.2.2.1.2.2.1 o) l' (s.2.2.1.2.2.1 o))[i]? = some x := hx
        rw [xs_u_s] at hx2
        exact b4 i x hx2
    · have neA : pa (s.2.2.1.2.2.1 o') ≠ A := fun q => e (h5 o' o ho' ho hu' hu hk' hk (q.trans eA.symm))
      obtain ⟨a1, a2, a3, ⟨old, b1, b2, b3, b4⟩, a5, a6⟩ := q4
      have m1 : m' (pa (s.2.2.1.2.2.1 o')) = m (pa (s.2.2.1.2.2.1 o')) := hm _ neA (by omega)
      have m2 : m' (pa (s.2.2.1.2.2.1 o') + 1) = m (pa (s.2.2.1.2.2.1 o') + 1) := hm _ (by omega) (by omega)
      have eu : (xs_pip s.2.2.1 (s.2.2.1.2.2.1 o) l').2.2.2.2.2 (s.2.2.1.2.2.1 o') = s.2.2.1.2.2.2.2.2 (s.2.2.1.2.2.1 o') := xs_u_n e
      refine ⟨a1, a2, a3, ⟨old, b1, by rw [m1]; exact b2, by rw [m1, eu]; exact b3, fun i x hx => by rw [m2]; rw [eu] at hx; exact b4 i x hx⟩, by rw [m1]; exact a5, by rw [m1]; exact a6⟩
theorem xs_read_c {s : xs_S} {a b : Int32} {p d o : Nat} (h : xs_desc s a b = .inr (p, d, o)) (hm : s.2.2.1.2.2.2.1 o % 2 = 0) : xs_read s a b = (-3, s) := by
  unfold xs_read
  rw [h]
  exact if_pos hm
theorem xs_read_f {s : xs_S} {a b : Int32} {p d o : Nat} (h : xs_desc s a b = .inr (p, d, o)) (hm : ¬ s.2.2.1.2.2.2.1 o % 2 = 0) (hk : s.2.2.1.2.1 o = 0) : xs_read s a b = xs_rf s o := by
  unfold xs_read
  rw [h]
  exact (if_neg hm).trans (if_neg (by omega))
theorem xs_read_p {s : xs_S} {a b : Int32} {p d o : Nat} (h : xs_desc s a b = .inr (p, d, o)) (hm : ¬ s.2.2.1.2.2.2.1 o % 2 = 0) (hk : s.2.2.1.2.1 o = 1) : xs_read s a b = match s.2.2.1.2.2.2.2.2 (s.2.2.1.2.2.1 o) with
    | [] => (if xs_end s.2.2.1 (s.2.2.1.2.2.1 o) 2 = true then -6 else -7, s)
    | x :: l => (x, (s.1, s.2.1, xs_pip s.2.2.1 (s.2.2.1.2.2.1 o) l, s.2.2.2)) := by
  unfold xs_read
  rw [h]
  exact (if_neg hm).trans (if_pos hk)
theorem xs_write_c {s : xs_S} {a b c : Int32} {v p d o : Nat} (hv : xs_nat c 256 = some v) (h : xs_desc s a b = .inr (p, d, o)) (hm : s.2.2.1.2.2.2.1 o / 2 % 2 = 0) : xs_write s a b c = (-3, s) := by
  unfold xs_write
  rw [hv, h]
  exact if_pos hm
theorem xs_write_f {s : xs_S} {a b c : Int32} {v p d o : Nat} (hv : xs_nat c 256 = some v) (h : xs_desc s a b = .inr (p, d, o)) (hm : ¬ s.2.2.1.2.2.2.1 o / 2 % 2 = 0) (hk : s.2.2.1.2.1 o = 0) : xs_write s a b c = xs_wf s o v := by
  unfold xs_write
  rw [hv, h]
  exact (if_neg hm).trans (if_neg (by omega))
theorem xs_write_p {s : xs_S} {a b c : Int32} {v p d o : Nat} (hv : xs_nat c 256 = some v) (h : xs_desc s a b = .inr (p, d, o)) (hm : ¬ s.2.2.1.2.2.2.1 o / 2 % 2 = 0) (hk : s.2.2.1.2.1 o = 2) : xs_write s a b c = if xs_end s.2.2.1 (s.2.2.1.2.2.1 o) 1 = false then (-7, s)
        else if (s.2.2.1.2.2.2.2.2 (s.2.2.1.2.2.1 o)).length = 4 then (-6, s)
        else (1, (s.1, s.2.1, xs_pip s.2.2.1 (s.2.2.1.2.2.1 o) (s.2.2.1.2.2.2.2.2 (s.2.2.1.2.2.1 o) ++ [nI v]), s.2.2.2)) := by
  unfold xs_write
  rw [hv, h]
  exact (if_neg hm).trans (if_pos hk)

set_option maxRecDepth 20000 in
set_option maxHeartbeats 4000000 in
theorem c_K_read {E : xk_E} {n : Nat} {m : xk_M} {r : xk_P} {Q : xk_Q} {x y : Int32} {s : xs_S} (hA : xr_A s m r n) (hok : xs_ok s) (hsm : s.1.1.2.2.2.2.1 + 4 < 2 ^ 20) (hQ : ∀ n' m' r', n ≤ n' → n' ≤ n → xr_A (xs_read s x y).2 m' r' n' → xr_fr m m' r r' → Q (some (.inl (xs_read s x y).1)) n' m' r') : xk_W E m_K_read 0 (xk_ent m_K_read [.inr (some 1), .inl x, .inl y]) [] n m r 0 0 Q := by
  show xk_W E m_K_read 0 [some (.inr (some 1)), some (.inl x), some (.inl y), none, none] [] n m r 0 0 Q
  obtain ⟨hF, hP, hO, hT, hS, hn⟩ := id hA
  obtain ⟨okF, okP, okO, okT⟩ := id hok
  refine xk_aload_n (pc := 0) d_K_read_0 rfl ?_
  refine xk_iload_n (pc := 1) d_K_read_1 rfl ?_
  refine xk_iload_n (pc := 2) d_K_read_2 rfl ?_
  refine xk_cV2 (pc := 3) d_K_read_3 ml_K_105 cz_K_openingOf ⟨rfl, rfl⟩ rfl (by first | rfl | assumption) (by omega) (by omega) (Nat.le_of_ble_eq_true rfl) ⟨(Nat.le_of_ble_eq_true rfl), (Nat.le_of_ble_eq_true rfl)⟩ ?_
  refine c_K_openingOf hn hS hT okT hO.2.1 (fun p d o ep ed ex ey hp hp1 hd et e0 => ?_) (fun en => ?_)
  · have ho := okO.1 _ o (by omega) e0
    have hu := xs_used_of (by omega) e0
    have hko := xr_kd_op o ho
    have hdesc := xs_desc_s ep ed e0
    obtain ⟨-, -, pa, h3, h4, h5⟩ := id hO
    obtain ⟨i1, i2, i3⟩ := h3 o ho hu
    obtain ⟨k1, k2, k3, k4⟩ := okO.2.2.1 o ho hu
    refine xk_astore_n (pc := 6) d_K_read_6 (by decide) ?_
    refine xk_aload_n (pc := 7) d_K_read_7 rfl ?_
    refine xk_ifnonnull (pc := 8) (tgt := 18) d_K_read_8 rfl (fun _ _ => ?_) (fun h => by cases h)
    refine xk_aload_n (pc := 18) d_K_read_18 rfl ?_
    refine xk_iconst (pc := 19) (v := nI 1) d_K_read_19 (by decide) ?_
    refine xk_cV1 (pc := 20) d_K_read_20 ml_K_113 cz_Opening_may ⟨rfl, rfl⟩ rfl (by first | rfl | assumption) (by omega) (by omega) (Nat.le_of_ble_eq_true rfl) ⟨(Nat.le_of_ble_eq_true rfl), (Nat.le_of_ble_eq_true rfl)⟩ ?_
    refine c_Opening_may hn hS ho i1 (fun q => ?_) (fun q => ?_)
    · have hmd : ¬ s.2.2.1.2.2.2.1 o % 2 = 0 := fun z => q ((xs_b1 _ k2).mpr z)
      refine xk_if_ne (pc := 23) (tgt := 29) d_K_read_23 rfl (fun _ => ?_) (fun h => absurd h (by decide))
      refine xk_aload_n (pc := 29) d_K_read_29 rfl ?_
      refine xk_getR (pc := 30) d_K_read_30 fl_K_116 (by first | rfl | assumption) rfl (by omega) (by omega) ?_
      refine xk_astore (pc := 33) d_K_read_33 (by decide) ?_
      refine xk_aload (pc := 35) d_K_read_35 rfl ?_
      refine xk_ifnonnull (pc := 37) (tgt := 48) d_K_read_37 rfl (fun a_37 c_37 => ?_) (fun c_37 => ?_)
      · have kz := xr_pipe_1 (h3 o ho hu) c_37
        have hpP := h4 o ho hu kz
        have eA : pa (s.2.2.1.2.2.1 o) = a_37 := Option.some.inj ((i3 kz).symm.trans c_37)
        rw [eA] at hpP
        obtain ⟨g1, g2, g3, ⟨old, q1, q2, q3, q4⟩, g5, g6⟩ := hpP
        have hkP := xr_kd_pi g1 g2
        have kl := (k4 kz).2.2
        have kk : s.2.2.1.2.1 o = 1 := by have := (k4 kz).2.1; omega
        refine xk_aload (pc := 48) d_K_read_48 rfl ?_
        rw [c_37]
        refine xk_cV0 (pc := 50) d_K_read_50 ml_K_124 cz_Pipe_takeCell ⟨rfl, rfl⟩ rfl hkP (by omega) (by omega) (Nat.le_of_ble_eq_true rfl) ⟨(Nat.le_of_ble_eq_true rfl), (Nat.le_of_ble_eq_true rfl)⟩ ?_
        refine c_Pipe_takeCell hn hS g1 g2 g3 q2 q1 q3 kl g6 (fun el => ?_) (fun el => ?_)
        · refine xk_iret (pc := 53) rfl d_K_read_53 rfl (Nat.le_of_ble_eq_true rfl) (Nat.le_of_ble_eq_true rfl) ?_
          first
            | exact hQ n2 m2 r2 a1 a2 a3 a4
            | (have e := xs_read_p hdesc hmd kk
               rw [List.eq_nil_of_length_eq_zero el] at e
               exact xq_s e hA hQ)
            | (obtain ⟨z, l, ez⟩ : ∃ z l, s.2.2.1.2.2.2.2.2 (s.2.2.1.2.2.1 o) = z :: l := List.exists_cons_of_length_pos (by omega)
               have e := xs_read_p hdesc hmd kk
               rw [ez] at e q3 q4
               have e4 := q4 0 z rfl
               rw [show (old + 0) % 4 = old by omega] at e4
               rw [e4]
               refine xq_t e (xr_A_pip hA ho hu kz c_37 (fun a z1 z2 => by funext k; rw [xk_up_a z1, xk_up_a z1]) (by rw [xk_up_k (by decide), xk_up_k (by decide)]) (by rw [xk_up_k (by decide), xk_up_k (by decide)]) ⟨(old + 1) % 4, Nat.mod_lt _ (by decide), by rw [xk_up_k (by decide), xk_up_s], by rw [xk_up_s, ez]; rfl, fun i w hw => ?_⟩) (xr_fr_m (fun a _ _ => by funext k; rw [xk_up_a (by omega), xk_up_a (by omega)])) hQ
               rw [xk_up_a (by omega), xk_up_a (by omega), show ((old + 1) % 4 + i) % 4 = (old + (i + 1)) % 4 by omega]
               exact q4 (i + 1) w (by rw [List.getElem?_cons_succ]; exact hw))
        · refine xk_iret (pc := 53) rfl d_K_read_53 rfl (Nat.le_of_ble_eq_true rfl) (Nat.le_of_ble_eq_true rfl) ?_
          first
            | exact hQ n2 m2 r2 a1 a2 a3 a4
            | (have e := xs_read_p hdesc hmd kk
               rw [List.eq_nil_of_length_eq_zero el] at e
               exact xq_s e hA hQ)
            | (obtain ⟨z, l, ez⟩ : ∃ z l, s.2.2.1.2.2.2.2.2 (s.2.2.1.2.2.1 o) = z :: l := List.exists_cons_of_length_pos (by omega)
               have e := xs_read_p hdesc hmd kk
               rw [ez] at e q3 q4
               have e4 := q4 0 z rfl
               rw [show (old + 0) % 4 = old by omega] at e4
               rw [e4]
               refine xq_t e (xr_A_pip hA ho hu kz c_37 (fun a z1 z2 => by funext k; rw [xk_up_a z1, xk_up_a z1]) (by rw [xk_up_k (by decide), xk_up_k (by decide)]) (by rw [xk_up_k (by decide), xk_up_k (by decide)]) ⟨(old + 1) % 4, Nat.mod_lt _ (by decide), by rw [xk_up_k (by decide), xk_up_s], by rw [xk_up_s, ez]; rfl, fun i w hw => ?_⟩) (xr_fr_m (fun a _ _ => by funext k; rw [xk_up_a (by omega), xk_up_a (by omega)])) hQ
               rw [xk_up_a (by omega), xk_up_a (by omega), show ((old + 1) % 4 + i) % 4 = (old + (i + 1)) % 4 by omega]
               exact q4 (i + 1) w (by rw [List.getElem?_cons_succ]; exact hw))
      · have kz := xr_pipe_0 (h3 o ho hu) c_37
        refine xk_aload_n (pc := 40) d_K_read_40 rfl ?_
        refine xk_aload_n (pc := 41) d_K_read_41 rfl ?_
        refine xk_cV1 (pc := 42) d_K_read_42 ml_K_120 cz_K_readFile ⟨rfl, rfl⟩ rfl (by first | rfl | assumption) (by omega) (by omega) (Nat.le_of_ble_eq_true rfl) ⟨(Nat.le_of_ble_eq_true rfl), (Nat.le_of_ble_eq_true rfl)⟩ ?_
        rw [xs_read_f hdesc hmd kz] at hQ
        refine c_K_readFile hA hok hsm ho hu kz (fun n2 m2 r2 a1 a2 a3 a4 => ?_)
        refine xk_goto (pc := 45) (tgt := 53) d_K_read_45 rfl ?_
        refine xk_iret (pc := 53) rfl d_K_read_53 rfl (Nat.le_of_ble_eq_true rfl) (Nat.le_of_ble_eq_true rfl) ?_
        first
          | exact hQ n2 m2 r2 a1 a2 a3 a4
          | (have e := xs_read_p hdesc hmd kk
             rw [List.eq_nil_of_length_eq_zero el] at e
             exact xq_s e hA hQ)
          | (obtain ⟨z, l, ez⟩ : ∃ z l, s.2.2.1.2.2.2.2.2 (s.2.2.1.2.2.1 o) = z :: l := List.exists_cons_of_length_pos (by omega)
             have e := xs_read_p hdesc hmd kk
             rw [ez] at e q3 q4
             have e4 := q4 0 z rfl
             rw [show (old + 0) % 4 = old by omega] at e4
             rw [e4]
             refine xq_t e (xr_A_pip hA ho hu kz c_37 (fun a z1 z2 => by funext k; rw [xk_up_a z1, xk_up_a z1]) (by rw [xk_up_k (by decide), xk_up_k (by decide)]) (by rw [xk_up_k (by decide), xk_up_k (by decide)]) ⟨(old + 1) % 4, Nat.mod_lt _ (by decide), by rw [xk_up_k (by decide), xk_up_s], by rw [xk_up_s, ez]; rfl, fun i w hw => ?_⟩) (xr_fr_m (fun a _ _ => by funext k; rw [xk_up_a (by omega), xk_up_a (by omega)])) hQ
             rw [xk_up_a (by omega), xk_up_a (by omega), show ((old + 1) % 4 + i) % 4 = (old + (i + 1)) % 4 by omega]
             exact q4 (i + 1) w (by rw [List.getElem?_cons_succ]; exact hw))
    · refine xk_if_ne (pc := 23) (tgt := 29) d_K_read_23 rfl (fun h => absurd (by decide) h) (fun _ => ?_)
      refine xk_bipush (pc := 26) (v := (-3)) d_K_read_26 (by decide) ?_
      refine xk_iret (pc := 28) rfl d_K_read_28 rfl (Nat.le_of_ble_eq_true rfl) (Nat.le_of_ble_eq_true rfl) ?_
      exact xq_s (xs_read_c hdesc ((xs_b1 _ k2).mp q)) hA hQ
  · refine xk_astore_n (pc := 6) d_K_read_6 (by decide) ?_
    refine xk_aload_n (pc := 7) d_K_read_7 rfl ?_
    refine xk_ifnonnull (pc := 8) (tgt := 18) d_K_read_8 rfl (fun _ h => by cases h) (fun _ => ?_)
    refine xk_aload_n (pc := 11) d_K_read_11 rfl ?_
    refine xk_iload_n (pc := 12) d_K_read_12 rfl ?_
    refine xk_iload_n (pc := 13) d_K_read_13 rfl ?_
    refine xk_cV2 (pc := 14) d_K_read_14 ml_K_109 cz_K_whyNoOpening ⟨rfl, rfl⟩ rfl (by first | rfl | assumption) (by omega) (by omega) (Nat.le_of_ble_eq_true rfl) ⟨(Nat.le_of_ble_eq_true rfl), (Nat.le_of_ble_eq_true rfl)⟩ ?_
    refine c_K_whyNoOpening hn hS hT okT (fun p d ep ed => ?_) (fun en2 => ?_)
    · refine xk_iret (pc := 17) rfl d_K_read_17 rfl (Nat.le_of_ble_eq_true rfl) (Nat.le_of_ble_eq_true rfl) ?_
      first | exact xq_s (xs_read_e (xd_3 en ep ed)) hA hQ | exact xq_s (xs_read_e (xs_desc_0 en2)) hA hQ
    · refine xk_iret (pc := 17) rfl d_K_read_17 rfl (Nat.le_of_ble_eq_true rfl) (Nat.le_of_ble_eq_true rfl) ?_
      first | exact xq_s (xs_read_e (xd_3 en ep ed)) hA hQ | exact xq_s (xs_read_e (xs_desc_0 en2)) hA hQ

set_option maxRecDepth 20000 in
set_option maxHeartbeats 4000000 in
theorem c_K_write {E : xk_E} {n : Nat} {m : xk_M} {r : xk_P} {Q : xk_Q} {x y z : Int32} {s : xs_S} (hA : xr_A s m r n) (hok : xs_ok s) (hsm : s.1.1.2.2.2.2.1 + 4 < 2 ^ 20) (hQ : ∀ n' m' r', n ≤ n' → n' ≤ n → xr_A (xs_write s x y z).2 m' r' n' → xr_fr m m' r r' → Q (some (.inl (xs_write s x y z).1)) n' m' r') : xk_W E m_K_write 0 (xk_ent m_K_write [.inr (some 1), .inl x, .inl y, .inl z]) [] n m r 0 0 Q := by
  show xk_W E m_K_write 0 [some (.inr (some 1)), some (.inl x), some (.inl y), some (.inl z), none, none] [] n m r 0 0 Q
  obtain ⟨hF, hP, hO, hT, hS, hn⟩ := id hA
  obtain ⟨okF, okP, okO, okT⟩ := id hok
  refine xk_iload_n (pc := 0) d_K_write_0 rfl ?_
  refine xk_sipush (pc := 1) (v := nI 256) d_K_write_1 (by decide) ?_
  refine xk_cS2 (pc := 4) d_K_write_4 ml_K_53 cz_K_isBelow ⟨rfl, rfl⟩ rfl (Nat.le_of_ble_eq_true rfl) ⟨(Nat.le_of_ble_eq_true rfl), (Nat.le_of_ble_eq_true rfl)⟩ ?_
  refine c_K_isBelow (by decide) (fun v hv ev env => ?_) (fun env => ?_)
  · subst ev
    refine xk_if_ne (pc := 7) (tgt := 12) d_K_write_7 rfl (fun _ => ?_) (fun h => absurd h (by decide))
    refine xk_aload_n (pc := 12) d_K_write_12 rfl ?_
    refine xk_iload_n (pc := 13) d_K_write_13 rfl ?_
    refine xk_iload_n (pc := 14) d_K_write_14 rfl ?_
    refine xk_cV2 (pc := 15) d_K_write_15 ml_K_105 cz_K_openingOf ⟨rfl, rfl⟩ rfl (by first | rfl | assumption) (by omega) (by omega) (Nat.le_of_ble_eq_true rfl) ⟨(Nat.le_of_ble_eq_true rfl), (Nat.le_of_ble_eq_true rfl)⟩ ?_
    refine c_K_openingOf hn hS hT okT hO.2.1 (fun p d o ep ed ex ey hp hp1 hd et e0 => ?_) (fun en => ?_)
    · have ho := okO.1 _ o (by omega) e0
      have hu := xs_used_of (by omega) e0
      have hko := xr_kd_op o ho
      have hdesc := xs_desc_s ep ed e0
      obtain ⟨-, -, pa, h3, h4, h5⟩ := id hO
      obtain ⟨i1, i2, i3⟩ := h3 o ho hu
      obtain ⟨k1, k2, k3, k4⟩ := okO.2.2.1 o ho hu
      refine xk_astore (pc := 18) d_K_write_18 (by decide) ?_
      refine xk_aload (pc := 20) d_K_write_20 rfl ?_
      refine xk_ifnonnull (pc := 22) (tgt := 32) d_K_write_22 rfl (fun _ _ => ?_) (fun h => by cases h)
      refine xk_aload (pc := 32) d_K_write_32 rfl ?_
      refine xk_iconst (pc := 34) (v := nI 2) d_K_write_34 (by decide) ?_
      refine xk_cV1 (pc := 35) d_K_write_35 ml_K_113 cz_Opening_may ⟨rfl, rfl⟩ rfl (by first | rfl | assumption) (by omega) (by omega) (Nat.le_of_ble_eq_true rfl) ⟨(Nat.le_of_ble_eq_true rfl), (Nat.le_of_ble_eq_true rfl)⟩ ?_
      refine c_Opening_may hn hS ho i1 (fun q => ?_) (fun q => ?_)
      · have hmd : ¬ s.2.2.1.2.2.2.1 o / 2 % 2 = 0 := fun z => q ((xs_b2 _ k2).mpr z)
        refine xk_if_ne (pc := 38) (tgt := 44) d_K_write_38 rfl (fun _ => ?_) (fun h => absurd h (by decide))
        refine xk_aload (pc := 44) d_K_write_44 rfl ?_
        refine xk_getR (pc := 46) d_K_write_46 fl_K_116 (by first | rfl | assumption) rfl (by omega) (by omega) ?_
        refine xk_astore (pc := 49) d_K_write_49 (by decide) ?_
        refine xk_aload (pc := 51) d_K_write_51 rfl ?_
        refine xk_ifnonnull (pc := 53) (tgt := 66) d_K_write_53 rfl (fun a_53 c_53 => ?_) (fun c_53 => ?_)
        · have kz := xr_pipe_1 (h3 o ho hu) c_53
          have hpP := h4 o ho hu kz
          have eA : pa (s.2.2.1.2.2.1 o) = a_53 := Option.some.inj ((i3 kz).symm.trans c_53)
          rw [eA] at hpP
          obtain ⟨g1, g2, g3, ⟨old, q1, q2, q3, q4⟩, g5, g6⟩ := hpP
          have hkP := xr_kd_pi g1 g2
          have kl := (k4 kz).2.2
          have kk : s.2.2.1.2.1 o = 2 := by
            have z1 := (k4 kz).2.1
            rw [z1] at hmd
            have : ¬ s.2.2.1.2.1 o = 1 := fun w => hmd (by rw [w])
            omega
          refine xk_aload (pc := 66) d_K_write_66 rfl ?_
          refine xk_iload_n (pc := 68) d_K_write_68 rfl ?_
          rw [c_53]
          refine xk_cV1 (pc := 69) d_K_write_69 ml_K_132 cz_Pipe_addCell ⟨rfl, rfl⟩ rfl hkP (by omega) (by omega) (Nat.le_of_ble_eq_true rfl) ⟨(Nat.le_of_ble_eq_true rfl), (Nat.le_of_ble_eq_true rfl)⟩ ?_
          refine c_Pipe_addCell hn hS g1 g2 g3 q2 q1 q3 kl g5 (fun ew => ?_) (fun ew el => ?_) (fun ew el => ?_)
          · refine xk_iret (pc := 72) rfl d_K_write_72 rfl (Nat.le_of_ble_eq_true rfl) (Nat.le_of_ble_eq_true rfl) ?_
            first
              | exact hQ n2 m2 r2 a1 a2 a3 a4
              | (have e := (xs_write_p env hdesc hmd kk).trans (if_pos ew)
                 exact xq_s e hA hQ)
              | (have e := (xs_write_p env hdesc hmd kk).trans ((if_neg (by rw [ew]; decide)).trans (if_pos el))
                 exact xq_s e hA hQ)
              | (have e := (xs_write_p env hdesc hmd kk).trans ((if_neg (by rw [ew]; decide)).trans (if_neg el))
                 refine xq_t (v := nI 1) e (xr_A_pip hA ho hu kz c_53 (fun a z1 z2 => by funext k; rw [xk_up_a z1, xk_up_a z2]) (by rw [xk_up_k (by decide), xk_up_a (by omega)]) (by rw [xk_up_k (by decide), xk_up_a (by omega)]) ⟨old, q1, by rw [xk_up_k (by decide), xk_up_a (by omega)]; exact q2, by rw [xk_up_s, List.length_append]; rfl, fun i w hw => ?_⟩) (xr_fr_m (fun a _ _ => by funext k; rw [xk_up_a (by omega), xk_up_a (by omega)])) hQ
                 rw [xk_up_a (by omega)]
                 by_cases hi : i < (s.2.2.1.2.2.2.2.2 (s.2.2.1.2.2.1 o)).length
                 · rw [List.getElem?_append_left hi] at hw
                   rw [xk_up_k (by omega)]
                   exact q4 i w hw
                 · rw [List.getElem?_append_right (by omega)] at hw
                   have h0 := xs_lt hw
                   have hi2 : i = (s.2.2.1.2.2.2.2.2 (s.2.2.1.2.2.1 o)).length := by
                     change i - _ < 1 at h0
                     omega
                   subst hi2
                   rw [Nat.sub_self] at hw
                   cases hw
                   rw [xk_up_s])
          · refine xk_iret (pc := 72) rfl d_K_write_72 rfl (Nat.le_of_ble_eq_true rfl) (Nat.le_of_ble_eq_true rfl) ?_
            first
              | exact hQ n2 m2 r2 a1 a2 a3 a4
              | (have e := (xs_write_p env hdesc hmd kk).trans (if_pos ew)
                 exact xq_s e hA hQ)
              | (have e := (xs_write_p env hdesc hmd kk).trans ((if_neg (by rw [ew]; decide)).trans (if_pos el))
                 exact xq_s e hA hQ)
              | (have e := (xs_write_p env hdesc hmd kk).trans ((if_neg (by rw [ew]; decide)).trans (if_neg el))
                 refine xq_t (v := nI 1) e (xr_A_pip hA ho hu kz c_53 (fun a z1 z2 => by funext k; rw [xk_up_a z1, xk_up_a z2]) (by rw [xk_up_k (by decide), xk_up_a (by omega)]) (by rw [xk_up_k (by decide), xk_up_a (by omega)]) ⟨old, q1, by rw [xk_up_k (by decide), xk_up_a (by omega)]; exact q2, by rw [xk_up_s, List.length_append]; rfl, fun i w hw => ?_⟩) (xr_fr_m (fun a _ _ => by funext k; rw [xk_up_a (by omega), xk_up_a (by omega)])) hQ
                 rw [xk_up_a (by omega)]
                 by_cases hi : i < (s.2.2.1.2.2.2.2.2 (s.2.2.1.2.2.1 o)).length
                 · rw [List.getElem?_append_left hi] at hw
                   rw [xk_up_k (by omega)]
                   exact q4 i w hw
                 · rw [List.getElem?_append_right (by omega)] at hw
                   have h0 := xs_lt hw
                   have hi2 : i = (s.2.2.1.2.2.2.2.2 (s.2.2.1.2.2.1 o)).length := by
                     change i - _ < 1 at h0
                     omega
                   subst hi2
                   rw [Nat.sub_self] at hw
                   cases hw
                   rw [xk_up_s])
          · refine xk_iret (pc := 72) rfl d_K_write_72 rfl (Nat.le_of_ble_eq_true rfl) (Nat.le_of_ble_eq_true rfl) ?_
            first
              | exact hQ n2 m2 r2 a1 a2 a3 a4
              | (have e := (xs_write_p env hdesc hmd kk).trans (if_pos ew)
                 exact xq_s e hA hQ)
              | (have e := (xs_write_p env hdesc hmd kk).trans ((if_neg (by rw [ew]; decide)).trans (if_pos el))
                 exact xq_s e hA hQ)
              | (have e := (xs_write_p env hdesc hmd kk).trans ((if_neg (by rw [ew]; decide)).trans (if_neg el))
                 refine xq_t (v := nI 1) e (xr_A_pip hA ho hu kz c_53 (fun a z1 z2 => by funext k; rw [xk_up_a z1, xk_up_a z2]) (by rw [xk_up_k (by decide), xk_up_a (by omega)]) (by rw [xk_up_k (by decide), xk_up_a (by omega)]) ⟨old, q1, by rw [xk_up_k (by decide), xk_up_a (by omega)]; exact q2, by rw [xk_up_s, List.length_append]; rfl, fun i w hw => ?_⟩) (xr_fr_m (fun a _ _ => by funext k; rw [xk_up_a (by omega), xk_up_a (by omega)])) hQ
                 rw [xk_up_a (by omega)]
                 by_cases hi : i < (s.2.2.1.2.2.2.2.2 (s.2.2.1.2.2.1 o)).length
                 · rw [List.getElem?_append_left hi] at hw
                   rw [xk_up_k (by omega)]
                   exact q4 i w hw
                 · rw [List.getElem?_append_right (by omega)] at hw
                   have h0 := xs_lt hw
                   have hi2 : i = (s.2.2.1.2.2.2.2.2 (s.2.2.1.2.2.1 o)).length := by
                     change i - _ < 1 at h0
                     omega
                   subst hi2
                   rw [Nat.sub_self] at hw
                   cases hw
                   rw [xk_up_s])
        · have kz := xr_pipe_0 (h3 o ho hu) c_53
          refine xk_aload_n (pc := 56) d_K_write_56 rfl ?_
          refine xk_aload (pc := 57) d_K_write_57 rfl ?_
          refine xk_iload_n (pc := 59) d_K_write_59 rfl ?_
          refine xk_cV2 (pc := 60) d_K_write_60 ml_K_128 cz_K_writeFile ⟨rfl, rfl⟩ rfl (by first | rfl | assumption) (by omega) (by omega) (Nat.le_of_ble_eq_true rfl) ⟨(Nat.le_of_ble_eq_true rfl), (Nat.le_of_ble_eq_true rfl)⟩ ?_
          rw [xs_write_f env hdesc hmd kz] at hQ
          refine c_K_writeFile hA hok hsm ho hu kz (fun n2 m2 r2 a1 a2 a3 a4 => ?_)
          refine xk_goto (pc := 63) (tgt := 72) d_K_write_63 rfl ?_
          refine xk_iret (pc := 72) rfl d_K_write_72 rfl (Nat.le_of_ble_eq_true rfl) (Nat.le_of_ble_eq_true rfl) ?_
          first
            | exact hQ n2 m2 r2 a1 a2 a3 a4
            | (have e := (xs_write_p env hdesc hmd kk).trans (if_pos ew)
               exact xq_s e hA hQ)
            | (have e := (xs_write_p env hdesc hmd kk).trans ((if_neg (by rw [ew]; decide)).trans (if_pos el))
               exact xq_s e hA hQ)
            | (have e := (xs_write_p env hdesc hmd kk).trans ((if_neg (by rw [ew]; decide)).trans (if_neg el))
               refine xq_t (v := nI 1) e (xr_A_pip hA ho hu kz c_53 (fun a z1 z2 => by funext k; rw [xk_up_a z1, xk_up_a z2]) (by rw [xk_up_k (by decide), xk_up_a (by omega)]) (by rw [xk_up_k (by decide), xk_up_a (by omega)]) ⟨old, q1, by rw [xk_up_k (by decide), xk_up_a (by omega)]; exact q2, by rw [xk_up_s, List.length_append]; rfl, fun i w hw => ?_⟩) (xr_fr_m (fun a _ _ => by funext k; rw [xk_up_a (by omega), xk_up_a (by omega)])) hQ
               rw [xk_up_a (by omega)]
               by_cases hi : i < (s.2.2.1.2.2.2.2.2 (s.2.2.1.2.2.1 o)).length
               · rw [List.getElem?_append_left hi] at hw
                 rw [xk_up_k (by omega)]
                 exact q4 i w hw
               · rw [List.getElem?_append_right (by omega)] at hw
                 have h0 := xs_lt hw
                 have hi2 : i = (s.2.2.1.2.2.2.2.2 (s.2.2.1.2.2.1 o)).length := by
                   change i - _ < 1 at h0
                   omega
                 subst hi2
                 rw [Nat.sub_self] at hw
                 cases hw
                 rw [xk_up_s])
      · refine xk_if_ne (pc := 38) (tgt := 44) d_K_write_38 rfl (fun h => absurd (by decide) h) (fun _ => ?_)
        refine xk_bipush (pc := 41) (v := (-3)) d_K_write_41 (by decide) ?_
        refine xk_iret (pc := 43) rfl d_K_write_43 rfl (Nat.le_of_ble_eq_true rfl) (Nat.le_of_ble_eq_true rfl) ?_
        exact xq_s (xs_write_c env hdesc ((xs_b2 _ k2).mp q)) hA hQ
    · refine xk_astore (pc := 18) d_K_write_18 (by decide) ?_
      refine xk_aload (pc := 20) d_K_write_20 rfl ?_
      refine xk_ifnonnull (pc := 22) (tgt := 32) d_K_write_22 rfl (fun _ h => by cases h) (fun _ => ?_)
      refine xk_aload_n (pc := 25) d_K_write_25 rfl ?_
      refine xk_iload_n (pc := 26) d_K_write_26 rfl ?_
      refine xk_iload_n (pc := 27) d_K_write_27 rfl ?_
      refine xk_cV2 (pc := 28) d_K_write_28 ml_K_109 cz_K_whyNoOpening ⟨rfl, rfl⟩ rfl (by first | rfl | assumption) (by omega) (by omega) (Nat.le_of_ble_eq_true rfl) ⟨(Nat.le_of_ble_eq_true rfl), (Nat.le_of_ble_eq_true rfl)⟩ ?_
      refine c_K_whyNoOpening hn hS hT okT (fun p d ep ed => ?_) (fun en2 => ?_)
      · refine xk_iret (pc := 31) rfl d_K_write_31 rfl (Nat.le_of_ble_eq_true rfl) (Nat.le_of_ble_eq_true rfl) ?_
        first | exact xq_s (xs_write_e env (xd_3 en ep ed)) hA hQ | exact xq_s (xs_write_e env (xs_desc_0 en2)) hA hQ
      · refine xk_iret (pc := 31) rfl d_K_write_31 rfl (Nat.le_of_ble_eq_true rfl) (Nat.le_of_ble_eq_true rfl) ?_
        first | exact xq_s (xs_write_e env (xd_3 en ep ed)) hA hQ | exact xq_s (xs_write_e env (xs_desc_0 en2)) hA hQ
  · refine xk_if_ne (pc := 7) (tgt := 12) d_K_write_7 rfl (fun h => absurd (by decide) h) (fun _ => ?_)
    refine xk_iconst (pc := 10) (v := (-1)) d_K_write_10 (by decide) ?_
    refine xk_iret (pc := 11) rfl d_K_write_11 rfl (Nat.le_of_ble_eq_true rfl) (Nat.le_of_ble_eq_true rfl) ?_
    exact xq_s (show xs_write s x y z = (-1, s) by unfold xs_write; rw [env]) hA hQ
