set_option maxRecDepth 20000 in
set_option maxHeartbeats 4000000 in
theorem l_mcnt1 {E : xk_E} {n : Nat} {r : xk_P} {Q : xk_Q} {m : xk_M} {T : xs_T} {v1 v3 : Option xk_V} (hn : 74 ≤ n) (hS : xr_S r n) (hT : xm_T T m) (hK : xk_W E m_M_count 33 [some (.inr (some 53)), v1, some (.inl (nI (xs_num (fun q => decide (1 ≤ q ∧ T.1 q ≠ 0)) 7))), v3, some (.inl (nI 7))] [] n m r 0 0 Q) : ∀ (k : Nat) (i : Nat), 7 - i < k → 1 ≤ i → i ≤ 7 → xk_W E m_M_count 7 [some (.inr (some 53)), v1, some (.inl (nI (xs_num (fun q => decide (1 ≤ q ∧ T.1 q ≠ 0)) i))), v3, some (.inl (nI i))] [] n m r 0 0 Q := by
  intro k
  induction k with
  | zero => intro i h; exact absurd h (Nat.not_lt_zero _)
  | succ k ih =>
    intro i hk hi1 hi
    refine xk_iload (pc := 7) d_M_count_7 rfl ?_
    refine xk_bipush (pc := 9) (v := nI 7) d_M_count_9 (by decide) ?_
    first | refine xk_icmp_geN (pc := 11) (tgt := 33) d_M_count_11 rfl (by omega) (by omega) (fun c_11 => ?_) (fun c_11 => ?_) | refine xk_icmp_ge (pc := 11) (tgt := 33) d_M_count_11 rfl (fun c_11 => ?_) (fun c_11 => ?_)
    · have e : i = 7 := by omega
      subst e
      exact hK
    · refine xk_aload_n (pc := 14) d_M_count_14 rfl ?_
      refine xk_getRo (pc := 15) d_M_count_15 fl_M_35 (by first | rfl | assumption) rfl (by omega) (by omega) (hS _ _ _ rfl (by omega)) ?_
      refine xk_iload (pc := 18) d_M_count_18 rfl ?_
      refine xk_baloado (pc := 20) d_M_count_20 (by first | rfl | assumption) (by omega) (by omega) rfl (by omega) (by decide) (hT.1 i c_11) ?_
      first | refine xk_if_eqN (pc := 21) (tgt := 27) d_M_count_21 rfl (by omega) (fun c_21 => ?_) (fun c_21 => ?_) | refine xk_if_eq (pc := 21) (tgt := 27) d_M_count_21 rfl (fun c_21 => ?_) (fun c_21 => ?_)
      · have c_22 := of_decide_eq_false (xs_bi_z.mp c_21)
        have es : xs_num (fun q => decide (1 ≤ q ∧ T.1 q ≠ 0)) (i + 1) = xs_num (fun q => decide (1 ≤ q ∧ T.1 q ≠ 0)) i := by
          show xs_num _ i + (if decide (1 ≤ i ∧ T.1 i ≠ 0) = true then 1 else 0) = _
          rw [if_neg (fun z => c_22 (of_decide_eq_true z).2)]
          rfl
        refine xk_iincN (pc := 27) (d := 1) d_M_count_27 rfl ?_
        refine xk_goto (pc := 30) (tgt := 7) d_M_count_30 rfl ?_
        have K := ih (i + 1) (by omega) (by omega) (by omega)
        rw [es] at K
        exact K
      · have c_22 := of_decide_eq_true (xs_bi_nz c_21)
        have es : xs_num (fun q => decide (1 ≤ q ∧ T.1 q ≠ 0)) (i + 1) = xs_num (fun q => decide (1 ≤ q ∧ T.1 q ≠ 0)) i + 1 := by
          show xs_num _ i + (if decide (1 ≤ i ∧ T.1 i ≠ 0) = true then 1 else 0) = _
          rw [if_pos (decide_eq_true ⟨hi1, c_22⟩)]
        refine xk_iincN (pc := 24) (d := 1) d_M_count_24 rfl ?_
        refine xk_iincN (pc := 27) (d := 1) d_M_count_27 rfl ?_
        refine xk_goto (pc := 30) (tgt := 7) d_M_count_30 rfl ?_
        have K := ih (i + 1) (by omega) (by omega) (by omega)
        rw [es] at K
        exact K

theorem xs_take_cnt {l : List xs_B} {i : Nat} {x : xs_B} (hx : l[i]? = some x) : (l.take (i + 1)).countP (fun x => x.2.2.1) = (l.take i).countP (fun x => x.2.2.1) + (if x.2.2.1 = true then 1 else 0) := by
  rw [List.take_add_one, List.countP_append, hx]
  congr 1
  exact (List.countP_cons (l := []) (a := x)).trans (Nat.zero_add _)

set_option maxRecDepth 20000 in
set_option maxHeartbeats 4000000 in
theorem l_mcnt2 {E : xk_E} {n : Nat} {r : xk_P} {Q : xk_Q} {m : xk_M} {F : xs_F} {v1 v2 : Option xk_V} (hn : 74 ≤ n) (hS : xr_S r n) (hF : xm_F F m) (hK : xk_W E m_M_count 64 [some (.inr (some 53)), v1, v2, some (.inl (nI (F.2.2.countP (fun x => x.2.2.1)))), some (.inl (nI F.2.2.length))] [] n m r 0 0 Q) : ∀ (k : Nat) (i : Nat), F.2.2.length - i < k → i ≤ F.2.2.length → xk_W E m_M_count 36 [some (.inr (some 53)), v1, v2, some (.inl (nI ((F.2.2.take i).countP (fun x => x.2.2.1)))), some (.inl (nI i))] [] n m r 0 0 Q := by
  intro k
  induction k with
  | zero => intro i h; exact absurd h (Nat.not_lt_zero _)
  | succ k ih =>
    intro i hk hi
    have hl5 := hF.2.2.2.1
    refine xk_iload (pc := 36) d_M_count_36 rfl ?_
    refine xk_aload_n (pc := 38) d_M_count_38 rfl ?_
    refine xk_getIo (pc := 39) d_M_count_39 fl_M_74 (by first | rfl | assumption) rfl (by omega) (by omega) hF.2.2.1 ?_
    first | refine xk_icmp_geN (pc := 42) (tgt := 64) d_M_count_42 rfl (by omega) (by omega) (fun c_42 => ?_) (fun c_42 => ?_) | refine xk_icmp_ge (pc := 42) (tgt := 64) d_M_count_42 rfl (fun c_42 => ?_) (fun c_42 => ?_)
    · have e : i = F.2.2.length := by omega
      subst e
      rw [List.take_length]
      exact hK
    · obtain ⟨x, hx⟩ := xs_get_lt c_42
      obtain ⟨g0, g1, g2⟩ := hF.2.2.2.2 i x hx
      have ht := xs_take_cnt hx
      refine xk_aload_n (pc := 45) d_M_count_45 rfl ?_
      refine xk_getRo (pc := 46) d_M_count_46 fl_M_29 (by first | rfl | assumption) rfl (by omega) (by omega) (hS _ _ _ rfl (by omega)) ?_
      refine xk_iload (pc := 49) d_M_count_49 rfl ?_
      refine xk_baloado (pc := 51) d_M_count_51 (by first | rfl | assumption) (by omega) (by omega) rfl (by omega) (by decide) g1 ?_
      first | refine xk_if_eqN (pc := 52) (tgt := 58) d_M_count_52 rfl (by omega) (fun c_52 => ?_) (fun c_52 => ?_) | refine xk_if_eq (pc := 52) (tgt := 58) d_M_count_52 rfl (fun c_52 => ?_) (fun c_52 => ?_)
      · rw [xs_bi_z.mp c_52, if_neg (by decide), Nat.add_zero] at ht
        refine xk_iincN (pc := 58) (d := 1) d_M_count_58 rfl ?_
        refine xk_goto (pc := 61) (tgt := 36) d_M_count_61 rfl ?_
        have K := ih (i + 1) (by omega) (by omega)
        rw [ht] at K
        exact K
      · rw [xs_bi_nz c_52, if_pos rfl] at ht
        refine xk_iincN (pc := 55) (d := 1) d_M_count_55 rfl ?_
        refine xk_iincN (pc := 58) (d := 1) d_M_count_58 rfl ?_
        refine xk_goto (pc := 61) (tgt := 36) d_M_count_61 rfl ?_
        have K := ih (i + 1) (by omega) (by omega)
        rw [ht] at K
        exact K

set_option maxRecDepth 20000 in
set_option maxHeartbeats 4000000 in
theorem s_mcnt100 {E : xk_E} {n : Nat} {m : xk_M} {r : xk_P} {Q : xk_Q} {x : Int32} {v : Int32} {s : xs_S} (hn : 74 ≤ n) (hS : xr_S r n) (hA : xm_A s m) (hok : xs_ok s) (hQ : Q (some (.inl v)) n m r) (hv : v = nI s.1.1.2.2.2.2.1) : xk_W E m_M_count 100 [some (.inr (some 53)), some (.inl x), some (.inl (nI (xs_num (fun q => decide (1 ≤ q ∧ s.2.2.2.1 q ≠ 0)) 7))), some (.inl (nI (s.1.2.2.countP (fun x => x.2.2.1)))), some (.inl (nI s.1.2.2.length))] [] n m r 0 0 Q := by
  obtain ⟨hF, hP, hO, hT⟩ := id hA
  obtain ⟨okF, okP, okO, okT⟩ := id hok
  have hb := okO.1
  have h6 := xm_h6 okO okT
  have hkw := xm_kw okO
  refine xk_aload_n (pc := 100) d_M_count_100 rfl ?_
  refine xk_getIo (pc := 101) d_M_count_101 fl_M_92 (by first | rfl | assumption) rfl (by omega) (by omega) hF.1.2.2.2.2.1 ?_
  refine xk_iret (pc := 104) rfl d_M_count_104 rfl (Nat.le_of_ble_eq_true rfl) (Nat.le_of_ble_eq_true rfl) ?_
  rw [hv] at hQ
  exact hQ

set_option maxRecDepth 20000 in
set_option maxHeartbeats 4000000 in
theorem s_mcnt105 {E : xk_E} {n : Nat} {m : xk_M} {r : xk_P} {Q : xk_Q} {x : Int32} {v : Int32} {s : xs_S} (hn : 74 ≤ n) (hS : xr_S r n) (hA : xm_A s m) (hok : xs_ok s) (hQ : Q (some (.inl v)) n m r) (hv : v = nI (xs_ops s.2.2.1)) : xk_W E m_M_count 105 [some (.inr (some 53)), some (.inl x), some (.inl (nI (xs_num (fun q => decide (1 ≤ q ∧ s.2.2.2.1 q ≠ 0)) 7))), some (.inl (nI (s.1.2.2.countP (fun x => x.2.2.1)))), some (.inl (nI s.1.2.2.length))] [] n m r 0 0 Q := by
  obtain ⟨hF, hP, hO, hT⟩ := id hA
  obtain ⟨okF, okP, okO, okT⟩ := id hok
  have hb := okO.1
  have h6 := xm_h6 okO okT
  have hkw := xm_kw okO
  refine xk_aload_n (pc := 105) d_M_count_105 rfl ?_
  refine xk_cV0 (pc := 106) d_M_count_106 ml_M_115 cz_M_openings ⟨rfl, rfl⟩ rfl (by first | rfl | assumption) (by omega) (by omega) (Nat.le_of_ble_eq_true rfl) ⟨(Nat.le_of_ble_eq_true rfl), (Nat.le_of_ble_eq_true rfl)⟩ ?_
  refine c_M_openings hn hS hO hb h6 ?_
  refine xk_iret (pc := 109) rfl d_M_count_109 rfl (Nat.le_of_ble_eq_true rfl) (Nat.le_of_ble_eq_true rfl) ?_
  rw [hv] at hQ
  exact hQ

set_option maxRecDepth 20000 in
set_option maxHeartbeats 4000000 in
theorem s_mcnt110 {E : xk_E} {n : Nat} {m : xk_M} {r : xk_P} {Q : xk_Q} {x : Int32} {v : Int32} {s : xs_S} (hn : 74 ≤ n) (hS : xr_S r n) (hA : xm_A s m) (hok : xs_ok s) (hQ : Q (some (.inl v)) n m r) (hv : v = nI (xs_num (fun q => decide (1 ≤ q ∧ s.2.2.2.1 q ≠ 0)) 7)) : xk_W E m_M_count 110 [some (.inr (some 53)), some (.inl x), some (.inl (nI (xs_num (fun q => decide (1 ≤ q ∧ s.2.2.2.1 q ≠ 0)) 7))), some (.inl (nI (s.1.2.2.countP (fun x => x.2.2.1)))), some (.inl (nI s.1.2.2.length))] [] n m r 0 0 Q := by
  obtain ⟨hF, hP, hO, hT⟩ := id hA
  obtain ⟨okF, okP, okO, okT⟩ := id hok
  have hb := okO.1
  have h6 := xm_h6 okO okT
  have hkw := xm_kw okO
  refine xk_iload_n (pc := 110) d_M_count_110 rfl ?_
  refine xk_iret (pc := 111) rfl d_M_count_111 rfl (Nat.le_of_ble_eq_true rfl) (Nat.le_of_ble_eq_true rfl) ?_
  rw [hv] at hQ
  exact hQ

set_option maxRecDepth 20000 in
set_option maxHeartbeats 4000000 in
theorem s_mcnt112 {E : xk_E} {n : Nat} {m : xk_M} {r : xk_P} {Q : xk_Q} {x : Int32} {v : Int32} {s : xs_S} (hn : 74 ≤ n) (hS : xr_S r n) (hA : xm_A s m) (hok : xs_ok s) (hQ : Q (some (.inl v)) n m r) (hv : v = nI (s.1.2.2.countP (fun x => x.2.2.1))) : xk_W E m_M_count 112 [some (.inr (some 53)), some (.inl x), some (.inl (nI (xs_num (fun q => decide (1 ≤ q ∧ s.2.2.2.1 q ≠ 0)) 7))), some (.inl (nI (s.1.2.2.countP (fun x => x.2.2.1)))), some (.inl (nI s.1.2.2.length))] [] n m r 0 0 Q := by
  obtain ⟨hF, hP, hO, hT⟩ := id hA
  obtain ⟨okF, okP, okO, okT⟩ := id hok
  have hb := okO.1
  have h6 := xm_h6 okO okT
  have hkw := xm_kw okO
  refine xk_iload_n (pc := 112) d_M_count_112 rfl ?_
  refine xk_iret (pc := 113) rfl d_M_count_113 rfl (Nat.le_of_ble_eq_true rfl) (Nat.le_of_ble_eq_true rfl) ?_
  rw [hv] at hQ
  exact hQ

set_option maxRecDepth 20000 in
set_option maxHeartbeats 4000000 in
theorem s_mcnt114 {E : xk_E} {n : Nat} {m : xk_M} {r : xk_P} {Q : xk_Q} {x : Int32} {v : Int32} {s : xs_S} (hn : 74 ≤ n) (hS : xr_S r n) (hA : xm_A s m) (hok : xs_ok s) (hQ : Q (some (.inl v)) n m r) (hv : v = nI s.1.1.2.2.2.2.2) : xk_W E m_M_count 114 [some (.inr (some 53)), some (.inl x), some (.inl (nI (xs_num (fun q => decide (1 ≤ q ∧ s.2.2.2.1 q ≠ 0)) 7))), some (.inl (nI (s.1.2.2.countP (fun x => x.2.2.1)))), some (.inl (nI s.1.2.2.length))] [] n m r 0 0 Q := by
  obtain ⟨hF, hP, hO, hT⟩ := id hA
  obtain ⟨okF, okP, okO, okT⟩ := id hok
  have hb := okO.1
  have h6 := xm_h6 okO okT
  have hkw := xm_kw okO
  refine xk_aload_n (pc := 114) d_M_count_114 rfl ?_
  refine xk_getIo (pc := 115) d_M_count_115 fl_M_89 (by first | rfl | assumption) rfl (by omega) (by omega) hF.1.2.2.2.2.2 ?_
  refine xk_iret (pc := 118) rfl d_M_count_118 rfl (Nat.le_of_ble_eq_true rfl) (Nat.le_of_ble_eq_true rfl) ?_
  rw [hv] at hQ
  exact hQ

set_option maxRecDepth 20000 in
set_option maxHeartbeats 4000000 in
theorem s_mcnt119 {E : xk_E} {n : Nat} {m : xk_M} {r : xk_P} {Q : xk_Q} {x : Int32} {v : Int32} {s : xs_S} (hn : 74 ≤ n) (hS : xr_S r n) (hA : xm_A s m) (hok : xs_ok s) (hQ : Q (some (.inl v)) n m r) (hv : v = -1) : xk_W E m_M_count 119 [some (.inr (some 53)), some (.inl x), some (.inl (nI (xs_num (fun q => decide (1 ≤ q ∧ s.2.2.2.1 q ≠ 0)) 7))), some (.inl (nI (s.1.2.2.countP (fun x => x.2.2.1)))), some (.inl (nI s.1.2.2.length))] [] n m r 0 0 Q := by
  obtain ⟨hF, hP, hO, hT⟩ := id hA
  obtain ⟨okF, okP, okO, okT⟩ := id hok
  have hb := okO.1
  have h6 := xm_h6 okO okT
  have hkw := xm_kw okO
  refine xk_iconst (pc := 119) (v := (-1)) d_M_count_119 (by decide) ?_
  refine xk_iret (pc := 120) rfl d_M_count_120 rfl (Nat.le_of_ble_eq_true rfl) (Nat.le_of_ble_eq_true rfl) ?_
  rw [hv] at hQ
  exact hQ

set_option maxRecDepth 20000 in
set_option maxHeartbeats 4000000 in
theorem c_M_count {E : xk_E} {n : Nat} {m : xk_M} {r : xk_P} {Q : xk_Q} {x : Int32} {s : xs_S} (hn : 74 ≤ n) (hS : xr_S r n) (hA : xm_A s m) (hok : xs_ok s) (hQ : Q (some (.inl (xs_count s x))) n m r) : xk_W E m_M_count 0 (xk_ent m_M_count [.inr (some 53), .inl x]) [] n m r 0 0 Q := by
  show xk_W E m_M_count 0 [some (.inr (some 53)), some (.inl x), none, none, none] [] n m r 0 0 Q
  obtain ⟨hF, hP, hO, hT⟩ := id hA
  obtain ⟨okF, okP, okO, okT⟩ := id hok
  have hb := okO.1
  have h6 := xm_h6 okO okT
  have hkw := xm_kw okO
  refine xk_iconst (pc := 0) (v := nI 0) d_M_count_0 (by decide) ?_
  refine xk_istore_n (pc := 1) d_M_count_1 (by decide) ?_
  refine xk_iconst (pc := 2) (v := nI 0) d_M_count_2 (by decide) ?_
  refine xk_istore_n (pc := 3) d_M_count_3 (by decide) ?_
  refine xk_iconst (pc := 4) (v := nI 1) d_M_count_4 (by decide) ?_
  refine xk_istore (pc := 5) d_M_count_5 (by decide) ?_
  suffices HH : xk_W E m_M_count 33 [some (.inr (some 53)), some (.inl x), some (.inl (nI (xs_num (fun q => decide (1 ≤ q ∧ s.2.2.2.1 q ≠ 0)) 7))), some (.inl (nI 0)), some (.inl (nI 7))] [] n m r 0 0 Q by
    have e1 : xs_num (fun q => decide (1 ≤ q ∧ s.2.2.2.1 q ≠ 0)) 1 = 0 := by
      show 0 + (if decide (1 ≤ 0 ∧ s.2.2.2.1 0 ≠ 0) = true then 1 else 0) = 0
      rw [if_neg (by simp)]
    have K := l_mcnt1 (E := E) (Q := Q) (v1 := some (.inl x)) (v3 := some (.inl (nI 0))) hn hS hT HH 8 1 (by omega) (by omega) (by omega)
    rw [e1] at K
    exact K
  refine xk_iconst (pc := 33) (v := nI 0) d_M_count_33 (by decide) ?_
  refine xk_istore (pc := 34) d_M_count_34 (by decide) ?_
  suffices HH : xk_W E m_M_count 64 [some (.inr (some 53)), some (.inl x), some (.inl (nI (xs_num (fun q => decide (1 ≤ q ∧ s.2.2.2.1 q ≠ 0)) 7))), some (.inl (nI (s.1.2.2.countP (fun x => x.2.2.1)))), some (.inl (nI s.1.2.2.length))] [] n m r 0 0 Q by
    exact l_mcnt2 (E := E) (Q := Q) (v1 := some (.inl x)) hn hS hF HH (s.1.2.2.length + 1) 0 (by omega) (by omega)
  refine xk_iload_n (pc := 64) d_M_count_64 rfl ?_
  cases hx : xs_nat x 5 with
  | none => exact xk_tableOut (pc := 65) (tgt := 119) d_M_count_65 (xs_nat_o hx) (by decide) (s_mcnt119 hn hS hA hok hQ (by unfold xs_count; rw [hx]))
  | some i =>
    obtain ⟨rfl, hi⟩ := xs_nat_x hx (by decide)
    match i, hi, hx with
    | 0, _, hx => exact xk_tableIn (pc := 65) (tgt := 100) d_M_count_65 (by decide) (by decide) rfl rfl (s_mcnt100 hn hS hA hok hQ (by unfold xs_count; rw [hx]; rfl))
    | 1, _, hx => exact xk_tableIn (pc := 65) (tgt := 105) d_M_count_65 (by decide) (by decide) rfl rfl (s_mcnt105 hn hS hA hok hQ (by unfold xs_count; rw [hx]; rfl))
    | 2, _, hx => exact xk_tableIn (pc := 65) (tgt := 110) d_M_count_65 (by decide) (by decide) rfl rfl (s_mcnt110 hn hS hA hok hQ (by unfold xs_count; rw [hx]; rfl))
    | 3, _, hx => exact xk_tableIn (pc := 65) (tgt := 112) d_M_count_65 (by decide) (by decide) rfl rfl (s_mcnt112 hn hS hA hok hQ (by unfold xs_count; rw [hx]; rfl))
    | 4, _, hx => exact xk_tableIn (pc := 65) (tgt := 114) d_M_count_65 (by decide) (by decide) rfl rfl (s_mcnt114 hn hS hA hok hQ (by unfold xs_count; rw [hx]; rfl))
    | i + 5, hi, _ => exact absurd hi (by omega)

theorem xm_O_of {O : xs_O} {m : xk_M} {k : Nat} {v : Option Nat} (h : xm_O O m) : xm_O (xs_of O k v) (xk_up m 66 k (xm_oi v)) := by
  obtain ⟨h1, h2, h3, h4, h5, h6, h7⟩ := h
  refine ⟨xm_ou h1, ?_, ?_, ?_, ?_, ?_, ?_⟩
  all_goals rw [xk_up_r (by decide)]; assumption
theorem xm_O_pos {O : xs_O} {m : xk_M} {o v : Nat} (h : xm_O O m) : xm_O (xs_pos O o v) (xk_up m 70 o (nI v)) := by
  obtain ⟨h1, h2, h3, h4, h5, h6, h7⟩ := h
  refine ⟨?_, ?_, ?_, ?_, xm_nu h5, ?_, ?_⟩
  all_goals rw [xk_up_r (by decide)]; assumption

set_option maxRecDepth 20000 in
set_option maxHeartbeats 4000000 in
theorem c_M_close {E : xk_E} {n : Nat} {m : xk_M} {r : xk_P} {Q : xk_Q} {x y : Int32} {s : xs_S} (hn : 74 ≤ n) (hS : xr_S r n) (hA : xm_A s m) (hok : xs_ok s) (hsm : s.1.1.2.2.2.2.1 + 4 < 2 ^ 20) (hQ : ∀ m', xm_A (xs_close s x y).2 m' → xm_fr m m' → Q (some (.inl (xs_close s x y).1)) n m' r) : xk_W E m_M_close 0 (xk_ent m_M_close [.inr (some 53), .inl x, .inl y]) [] n m r 0 0 Q := by
  show xk_W E m_M_close 0 [some (.inr (some 53)), some (.inl x), some (.inl y), none] [] n m r 0 0 Q
  obtain ⟨hF, hP, hO, hT⟩ := id hA
  obtain ⟨okF, okP, okO, okT⟩ := id hok
  have hb := okO.1
  have h6 := xm_h6 okO okT
  have hkw := xm_kw okO
  refine xk_aload_n (pc := 0) d_M_close_0 rfl ?_
  refine xk_iload_n (pc := 1) d_M_close_1 rfl ?_
  refine xk_iload_n (pc := 2) d_M_close_2 rfl ?_
  refine xk_cV2 (pc := 3) d_M_close_3 ml_M_130 cz_M_opening ⟨rfl, rfl⟩ rfl (by first | rfl | assumption) (by omega) (by omega) (Nat.le_of_ble_eq_true rfl) ⟨(Nat.le_of_ble_eq_true rfl), (Nat.le_of_ble_eq_true rfl)⟩ ?_
  refine c_M_opening hn hS hT okT hO hb (fun p d o ep ed ex ey hp hp1 hd et e0 => ?_) (fun p d ep ed e0 => ?_) (fun en => ?_)
  · subst ex
    subst ey
    have ho := okO.1 _ o (by omega) e0
    have hu := xs_used_of (by omega) e0
    have hdesc := xs_desc_s ep ed e0
    obtain ⟨k1, k2, k3, k4⟩ := okO.2.2.1 o ho hu
    have kw := (hkw o ho hu).2
    refine xk_istore_n (pc := 6) d_M_close_6 (by decide) ?_
    refine xk_iload_n (pc := 7) d_M_close_7 rfl ?_
    refine xk_if_ge (pc := 8) (tgt := 13) d_M_close_8 rfl (fun c_8 => ?_) (fun c_8 => ?_)
    · refine xk_aload_n (pc := 13) d_M_close_13 rfl ?_
      refine xk_getRo (pc := 14) d_M_close_14 fl_M_47 (by first | rfl | assumption) rfl (by omega) (by omega) (hS _ _ _ rfl (by omega)) ?_
      refine xk_bipush (pc := 17) (v := nI 6) d_M_close_17 (by decide) ?_
      refine xk_iload_n (pc := 19) d_M_close_19 rfl ?_
      first | refine xk_imulN (pc := 20) d_M_close_20 ?_ | refine xk_imul (pc := 20) d_M_close_20 ?_
      refine xk_iload_n (pc := 21) d_M_close_21 rfl ?_
      first | refine xk_iaddN (pc := 22) d_M_close_22 ?_ | refine xk_iadd (pc := 22) d_M_close_22 ?_
      refine xk_iconst (pc := 23) (v := (-1)) d_M_close_23 (by decide) ?_
      refine xk_iastore (pc := 24) d_M_close_24 (by first | rfl | assumption) (by omega) (by omega) rfl (by omega) (by decide) ?_
      refine xk_iconst (pc := 25) (v := nI 0) d_M_close_25 (by decide) ?_
      refine xk_iret (pc := 26) rfl d_M_close_26 rfl (Nat.le_of_ble_eq_true rfl) (Nat.le_of_ble_eq_true rfl) ?_
      have e : xs_close s (nI p) (nI d) = (nI 0, (s.1, s.2.1, xs_of s.2.2.1 (6 * p + d) none, s.2.2.2)) := by
        unfold xs_close; rw [hdesc]; rfl
      exact xqm_t e (xm_A_O hA (xm_O_of (v := none) hO) (fun a ha => xk_up_r (by omega))) (fun a ha => xk_up_r (by omega)) hQ
    · exact absurd (xm_ge0 (by omega)) c_8
  · have en := xs_desc_n ep ed e0
    refine xk_istore_n (pc := 6) d_M_close_6 (by decide) ?_
    refine xk_iload_n (pc := 7) d_M_close_7 rfl ?_
    refine xk_if_ge (pc := 8) (tgt := 13) d_M_close_8 rfl (fun h => absurd h (by decide)) (fun _ => ?_)
    refine xk_iload_n (pc := 11) d_M_close_11 rfl ?_
    refine xk_iret (pc := 12) rfl d_M_close_12 rfl (Nat.le_of_ble_eq_true rfl) (Nat.le_of_ble_eq_true rfl) ?_
    exact xqm_s (xs_close_e en) hA hQ
  · replace en := xs_desc_0 (s := s) en
    refine xk_istore_n (pc := 6) d_M_close_6 (by decide) ?_
    refine xk_iload_n (pc := 7) d_M_close_7 rfl ?_
    refine xk_if_ge (pc := 8) (tgt := 13) d_M_close_8 rfl (fun h => absurd h (by decide)) (fun _ => ?_)
    refine xk_iload_n (pc := 11) d_M_close_11 rfl ?_
    refine xk_iret (pc := 12) rfl d_M_close_12 rfl (Nat.le_of_ble_eq_true rfl) (Nat.le_of_ble_eq_true rfl) ?_
    exact xqm_s (xs_close_e en) hA hQ

set_option maxRecDepth 20000 in
set_option maxHeartbeats 4000000 in
theorem c_M_dup {E : xk_E} {n : Nat} {m : xk_M} {r : xk_P} {Q : xk_Q} {x y : Int32} {s : xs_S} (hn : 74 ≤ n) (hS : xr_S r n) (hA : xm_A s m) (hok : xs_ok s) (hsm : s.1.1.2.2.2.2.1 + 4 < 2 ^ 20) (hQ : ∀ m', xm_A (xs_dup s x y).2 m' → xm_fr m m' → Q (some (.inl (xs_dup s x y).1)) n m' r) : xk_W E m_M_dup 0 (xk_ent m_M_dup [.inr (some 53), .inl x, .inl y]) [] n m r 0 0 Q := by
  show xk_W E m_M_dup 0 [some (.inr (some 53)), some (.inl x), some (.inl y), none, none] [] n m r 0 0 Q
  obtain ⟨hF, hP, hO, hT⟩ := id hA
  obtain ⟨okF, okP, okO, okT⟩ := id hok
  have hb := okO.1
  have h6 := xm_h6 okO okT
  have hkw := xm_kw okO
  refine xk_aload_n (pc := 0) d_M_dup_0 rfl ?_
  refine xk_iload_n (pc := 1) d_M_dup_1 rfl ?_
  refine xk_iload_n (pc := 2) d_M_dup_2 rfl ?_
  refine xk_cV2 (pc := 3) d_M_dup_3 ml_M_130 cz_M_opening ⟨rfl, rfl⟩ rfl (by first | rfl | assumption) (by omega) (by omega) (Nat.le_of_ble_eq_true rfl) ⟨(Nat.le_of_ble_eq_true rfl), (Nat.le_of_ble_eq_true rfl)⟩ ?_
  refine c_M_opening hn hS hT okT hO hb (fun p d o ep ed ex ey hp hp1 hd et e0 => ?_) (fun p d ep ed e0 => ?_) (fun en => ?_)
  · subst ex
    subst ey
    have ho := okO.1 _ o (by omega) e0
    have hu := xs_used_of (by omega) e0
    have hdesc := xs_desc_s ep ed e0
    obtain ⟨k1, k2, k3, k4⟩ := okO.2.2.1 o ho hu
    have kw := (hkw o ho hu).2
    refine xk_istore_n (pc := 6) d_M_dup_6 (by decide) ?_
    refine xk_iload_n (pc := 7) d_M_dup_7 rfl ?_
    refine xk_if_ge (pc := 8) (tgt := 13) d_M_dup_8 rfl (fun c_8 => ?_) (fun c_8 => ?_)
    · refine xk_aload_n (pc := 13) d_M_dup_13 rfl ?_
      refine xk_iload_n (pc := 14) d_M_dup_14 rfl ?_
      refine xk_iconst (pc := 15) (v := nI 0) d_M_dup_15 (by decide) ?_
      refine xk_cV2 (pc := 16) d_M_dup_16 ml_M_111 cz_M_free ⟨rfl, rfl⟩ rfl (by first | rfl | assumption) (by omega) (by omega) (Nat.le_of_ble_eq_true rfl) ⟨(Nat.le_of_ble_eq_true rfl), (Nat.le_of_ble_eq_true rfl)⟩ ?_
      refine c_M_free hn hS hO hb hp (by omega) (fun d2 hd2 hd6 => ?_) (fun hd2 => ?_)
      · refine xk_istore (pc := 19) d_M_dup_19 (by decide) ?_
        refine xk_iload (pc := 21) d_M_dup_21 rfl ?_
        refine xk_if_ge (pc := 23) (tgt := 29) d_M_dup_23 rfl (fun c_23 => ?_) (fun c_23 => ?_)
        · refine xk_aload_n (pc := 29) d_M_dup_29 rfl ?_
          refine xk_getRo (pc := 30) d_M_dup_30 fl_M_47 (by first | rfl | assumption) rfl (by omega) (by omega) (hS _ _ _ rfl (by omega)) ?_
          refine xk_bipush (pc := 33) (v := nI 6) d_M_dup_33 (by decide) ?_
          refine xk_iload_n (pc := 35) d_M_dup_35 rfl ?_
          first | refine xk_imulN (pc := 36) d_M_dup_36 ?_ | refine xk_imul (pc := 36) d_M_dup_36 ?_
          refine xk_iload (pc := 37) d_M_dup_37 rfl ?_
          first | refine xk_iaddN (pc := 39) d_M_dup_39 ?_ | refine xk_iadd (pc := 39) d_M_dup_39 ?_
          refine xk_iload_n (pc := 40) d_M_dup_40 rfl ?_
          refine xk_iastore (pc := 41) d_M_dup_41 (by first | rfl | assumption) (by omega) (by omega) rfl (by omega) (by decide) ?_
          refine xk_iload (pc := 42) d_M_dup_42 rfl ?_
          refine xk_iret (pc := 44) rfl d_M_dup_44 rfl (Nat.le_of_ble_eq_true rfl) (Nat.le_of_ble_eq_true rfl) ?_
          have e : xs_dup s (nI p) (nI d) = (nI d2, (s.1, s.2.1, xs_of s.2.2.1 (6 * p + d2) (some o), s.2.2.2)) := by
            unfold xs_dup; rw [hdesc]; show (match xs_free s.2.2.1 p 0 with | none => _ | some d => _) = _; rw [hd2]
          exact xqm_t e (xm_A_O hA (xm_O_of (v := some o) hO) (fun a ha => xk_up_r (by omega))) (fun a ha => xk_up_r (by omega)) hQ
        · exact absurd (xm_ge0 (by omega)) c_23
      · refine xk_istore (pc := 19) d_M_dup_19 (by decide) ?_
        refine xk_iload (pc := 21) d_M_dup_21 rfl ?_
        refine xk_if_ge (pc := 23) (tgt := 29) d_M_dup_23 rfl (fun h => absurd h (by decide)) (fun _ => ?_)
        refine xk_bipush (pc := 26) (v := (-2)) d_M_dup_26 (by decide) ?_
        refine xk_iret (pc := 28) rfl d_M_dup_28 rfl (Nat.le_of_ble_eq_true rfl) (Nat.le_of_ble_eq_true rfl) ?_
        have e : xs_dup s (nI p) (nI d) = (-2, s) := by
          unfold xs_dup; rw [hdesc]; show (match xs_free s.2.2.1 p 0 with | none => _ | some d => _) = _; rw [hd2]
        exact xqm_s e hA hQ
    · exact absurd (xm_ge0 (by omega)) c_8
  · have en := xs_desc_n ep ed e0
    refine xk_istore_n (pc := 6) d_M_dup_6 (by decide) ?_
    refine xk_iload_n (pc := 7) d_M_dup_7 rfl ?_
    refine xk_if_ge (pc := 8) (tgt := 13) d_M_dup_8 rfl (fun h => absurd h (by decide)) (fun _ => ?_)
    refine xk_iload_n (pc := 11) d_M_dup_11 rfl ?_
    refine xk_iret (pc := 12) rfl d_M_dup_12 rfl (Nat.le_of_ble_eq_true rfl) (Nat.le_of_ble_eq_true rfl) ?_
    exact xqm_s (xs_dup_e en) hA hQ
  · replace en := xs_desc_0 (s := s) en
    refine xk_istore_n (pc := 6) d_M_dup_6 (by decide) ?_
    refine xk_iload_n (pc := 7) d_M_dup_7 rfl ?_
    refine xk_if_ge (pc := 8) (tgt := 13) d_M_dup_8 rfl (fun h => absurd h (by decide)) (fun _ => ?_)
    refine xk_iload_n (pc := 11) d_M_dup_11 rfl ?_
    refine xk_iret (pc := 12) rfl d_M_dup_12 rfl (Nat.le_of_ble_eq_true rfl) (Nat.le_of_ble_eq_true rfl) ?_
    exact xqm_s (xs_dup_e en) hA hQ

set_option maxRecDepth 20000 in
set_option maxHeartbeats 4000000 in
theorem s_mseek20 {E : xk_E} {n : Nat} {m : xk_M} {r : xk_P} {Q : xk_Q} {s : xs_S} {x y z : Int32} (hn : 74 ≤ n) (hS : xr_S r n) (hA : xm_A s m) (hok : xs_ok s) (ep : xs_alive s.2.2.2 x = none) (hQ : Q (some (.inl (-1))) n m r) : xk_W E m_M_seek 20 [some (.inr (some 53)), some (.inl x), some (.inl y), some (.inl z), none] [] n m r 0 0 Q := by
  obtain ⟨hF, hP, hO, hT⟩ := id hA
  obtain ⟨okF, okP, okO, okT⟩ := id hok
  have hb := okO.1
  have h6 := xm_h6 okO okT
  have hkw := xm_kw okO
  refine xk_aload_n (pc := 20) d_M_seek_20 rfl ?_
  refine xk_iload_n (pc := 21) d_M_seek_21 rfl ?_
  refine xk_iload_n (pc := 22) d_M_seek_22 rfl ?_
  refine xk_cV2 (pc := 23) d_M_seek_23 ml_M_130 cz_M_opening ⟨rfl, rfl⟩ rfl (by first | rfl | assumption) (by omega) (by omega) (Nat.le_of_ble_eq_true rfl) ⟨(Nat.le_of_ble_eq_true rfl), (Nat.le_of_ble_eq_true rfl)⟩ ?_
  refine c_M_opening hn hS hT okT hO hb (fun p d o q1 _ _ _ _ _ _ _ _ => absurd (ep.symm.trans q1) (by intro z; cases z)) (fun p d q1 _ _ => absurd (ep.symm.trans q1) (by intro z; cases z)) (fun _ => ?_)
  refine xk_istore (pc := 26) d_M_seek_26 (by decide) ?_
  refine xk_iload (pc := 28) d_M_seek_28 rfl ?_
  refine xk_if_ge (pc := 30) (tgt := 36) d_M_seek_30 rfl (fun h => absurd h (by decide)) (fun _ => ?_)
  refine xk_iload (pc := 33) d_M_seek_33 rfl ?_
  refine xk_iret (pc := 35) rfl d_M_seek_35 rfl (Nat.le_of_ble_eq_true rfl) (Nat.le_of_ble_eq_true rfl) ?_
  exact hQ

set_option maxRecDepth 20000 in
set_option maxHeartbeats 4000000 in
theorem s_mwrite21 {E : xk_E} {n : Nat} {m : xk_M} {r : xk_P} {Q : xk_Q} {s : xs_S} {x y z : Int32} (hn : 74 ≤ n) (hS : xr_S r n) (hA : xm_A s m) (hok : xs_ok s) (ep : xs_alive s.2.2.2 x = none) (hQ : Q (some (.inl (-1))) n m r) : xk_W E m_M_write 21 [some (.inr (some 53)), some (.inl x), some (.inl y), some (.inl z), none, none, none] [] n m r 0 0 Q := by
  obtain ⟨hF, hP, hO, hT⟩ := id hA
  obtain ⟨okF, okP, okO, okT⟩ := id hok
  have hb := okO.1
  have h6 := xm_h6 okO okT
  have hkw := xm_kw okO
  refine xk_aload_n (pc := 21) d_M_write_21 rfl ?_
  refine xk_iload_n (pc := 22) d_M_write_22 rfl ?_
  refine xk_iload_n (pc := 23) d_M_write_23 rfl ?_
  refine xk_cV2 (pc := 24) d_M_write_24 ml_M_130 cz_M_opening ⟨rfl, rfl⟩ rfl (by first | rfl | assumption) (by omega) (by omega) (Nat.le_of_ble_eq_true rfl) ⟨(Nat.le_of_ble_eq_true rfl), (Nat.le_of_ble_eq_true rfl)⟩ ?_
  refine c_M_opening hn hS hT okT hO hb (fun p d o q1 _ _ _ _ _ _ _ _ => absurd (ep.symm.trans q1) (by intro z; cases z)) (fun p d q1 _ _ => absurd (ep.symm.trans q1) (by intro z; cases z)) (fun _ => ?_)
  refine xk_istore (pc := 27) d_M_write_27 (by decide) ?_
  refine xk_iload (pc := 29) d_M_write_29 rfl ?_
  refine xk_if_ge (pc := 31) (tgt := 37) d_M_write_31 rfl (fun h => absurd h (by decide)) (fun _ => ?_)
  refine xk_iload (pc := 34) d_M_write_34 rfl ?_
  refine xk_iret (pc := 36) rfl d_M_write_36 rfl (Nat.le_of_ble_eq_true rfl) (Nat.le_of_ble_eq_true rfl) ?_
  exact hQ

theorem xs_seek_na {s : xs_S} {a b c : Int32} (h : xs_alive s.2.2.2 a = none) : xs_seek s a b c = (-1, s) := by
  unfold xs_seek
  rw [xs_desc_0 (Or.inl h)]
  cases xs_nat c 33 <;> rfl
theorem xs_write_na {s : xs_S} {a b c : Int32} (h : xs_alive s.2.2.2 a = none) : xs_write s a b c = (-1, s) := by
  unfold xs_write
  rw [xs_desc_0 (Or.inl h)]
  cases xs_nat c 256 <;> rfl

set_option maxRecDepth 20000 in
set_option maxHeartbeats 4000000 in
theorem c_M_seek {E : xk_E} {n : Nat} {m : xk_M} {r : xk_P} {Q : xk_Q} {x y z : Int32} {s : xs_S} (hn : 74 ≤ n) (hS : xr_S r n) (hA : xm_A s m) (hok : xs_ok s) (hsm : s.1.1.2.2.2.2.1 + 4 < 2 ^ 20) (hQ : ∀ m', xm_A (xs_seek s x y z).2 m' → xm_fr m m' → Q (some (.inl (xs_seek s x y z).1)) n m' r) : xk_W E m_M_seek 0 (xk_ent m_M_seek [.inr (some 53), .inl x, .inl y, .inl z]) [] n m r 0 0 Q := by
  show xk_W E m_M_seek 0 [some (.inr (some 53)), some (.inl x), some (.inl y), some (.inl z), none] [] n m r 0 0 Q
  obtain ⟨hF, hP, hO, hT⟩ := id hA
  obtain ⟨okF, okP, okO, okT⟩ := id hok
  have hb := okO.1
  have h6 := xm_h6 okO okT
  have hkw := xm_kw okO
  refine xk_aload_n (pc := 0) d_M_seek_0 rfl ?_
  refine xk_iload_n (pc := 1) d_M_seek_1 rfl ?_
  refine xk_cV1 (pc := 2) d_M_seek_2 ml_M_86 cz_M_alive ⟨rfl, rfl⟩ rfl (by first | rfl | assumption) (by omega) (by omega) (Nat.le_of_ble_eq_true rfl) ⟨(Nat.le_of_ble_eq_true rfl), (Nat.le_of_ble_eq_true rfl)⟩ ?_
  refine c_M_alive hn hS hT okT (fun p0 ep0 hp0 hp10 ex0 et0 => ?_) (fun ep => ?_)
  · refine xk_if_eq (pc := 5) (tgt := 20) d_M_seek_5 rfl (fun h => absurd h (by decide)) (fun _ => ?_)
    refine xk_iload_n (pc := 8) d_M_seek_8 rfl ?_
    refine xk_iconst (pc := 9) (v := nI 0) d_M_seek_9 (by decide) ?_
    refine xk_bipush (pc := 10) (v := nI 32) d_M_seek_10 (by decide) ?_
    refine xk_cS3 (pc := 12) d_M_seek_12 ml_M_78 cz_M_in ⟨rfl, rfl⟩ rfl (Nat.le_of_ble_eq_true rfl) ⟨(Nat.le_of_ble_eq_true rfl), (Nat.le_of_ble_eq_true rfl)⟩ ?_
    refine c_M_in (lo := 0) (hi := 32) (by decide) (by decide) (fun v _ hv ev => ?_) (fun env => ?_)
    · subst ev
      have env := xs_nat_nI (k := 33) (show v < 33 by omega) (by decide)
      refine xk_if_ne (pc := 15) (tgt := 20) d_M_seek_15 rfl (fun _ => ?_) (fun h => absurd h (by decide))
      
      refine xk_aload_n (pc := 20) d_M_seek_20 rfl ?_
      refine xk_iload_n (pc := 21) d_M_seek_21 rfl ?_
      refine xk_iload_n (pc := 22) d_M_seek_22 rfl ?_
      refine xk_cV2 (pc := 23) d_M_seek_23 ml_M_130 cz_M_opening ⟨rfl, rfl⟩ rfl (by first | rfl | assumption) (by omega) (by omega) (Nat.le_of_ble_eq_true rfl) ⟨(Nat.le_of_ble_eq_true rfl), (Nat.le_of_ble_eq_true rfl)⟩ ?_
      refine c_M_opening hn hS hT okT hO hb (fun p d o ep ed ex ey hp hp1 hd et e0 => ?_) (fun p d ep ed e0 => ?_) (fun en => ?_)
      · have ho := okO.1 _ o (by omega) e0
        have hu := xs_used_of (by omega) e0
        have hdesc := xs_desc_s ep ed e0
        obtain ⟨k1, k2, k3, k4⟩ := okO.2.2.1 o ho hu
        have kw := (hkw o ho hu).2
        refine xk_istore (pc := 26) d_M_seek_26 (by decide) ?_
        refine xk_iload (pc := 28) d_M_seek_28 rfl ?_
        refine xk_if_ge (pc := 30) (tgt := 36) d_M_seek_30 rfl (fun c_30 => ?_) (fun c_30 => ?_)
        · refine xk_aload_n (pc := 36) d_M_seek_36 rfl ?_
          refine xk_getRo (pc := 37) d_M_seek_37 fl_M_50 (by first | rfl | assumption) rfl (by omega) (by omega) (hS _ _ _ rfl (by omega)) ?_
          refine xk_iload (pc := 40) d_M_seek_40 rfl ?_
          refine xk_ialoado (pc := 42) d_M_seek_42 (by first | rfl | assumption) (by omega) (by omega) rfl (by omega) (by decide) (hO.2.1 o ho) ?_
          first | refine xk_if_eqN (pc := 43) (tgt := 49) d_M_seek_43 rfl (by omega) (fun c_43 => ?_) (fun c_43 => ?_) | refine xk_if_eq (pc := 43) (tgt := 49) d_M_seek_43 rfl (fun c_43 => ?_) (fun c_43 => ?_)
          · refine xk_iload_n (pc := 49) d_M_seek_49 rfl ?_
            refine xk_aload_n (pc := 50) d_M_seek_50 rfl ?_
            refine xk_getRo (pc := 51) d_M_seek_51 fl_M_20 (by first | rfl | assumption) rfl (by omega) (by omega) (hS _ _ _ rfl (by omega)) ?_
            refine xk_aload_n (pc := 54) d_M_seek_54 rfl ?_
            refine xk_getRo (pc := 55) d_M_seek_55 fl_M_53 (by first | rfl | assumption) rfl (by omega) (by omega) (hS _ _ _ rfl (by omega)) ?_
            refine xk_iload (pc := 58) d_M_seek_58 rfl ?_
            refine xk_ialoado (pc := 60) d_M_seek_60 (by first | rfl | assumption) (by omega) (by omega) rfl (by omega) (by decide) (hO.2.2.1 o ho) ?_
            refine xk_ialoado (pc := 61) d_M_seek_61 (by first | rfl | assumption) (by omega) (by omega) rfl (by have := (k3 c_43).1; omega) (by decide) (hF.2.1 _ (k3 c_43).1) ?_
            have hlen := (okF.1 _ (k3 c_43).1).2
            first | refine xk_icmp_leN (pc := 62) (tgt := 67) d_M_seek_62 rfl (by omega) (by omega) (fun c_62 => ?_) (fun c_62 => ?_) | refine xk_icmp_le (pc := 62) (tgt := 67) d_M_seek_62 rfl (fun c_62 => ?_) (fun c_62 => ?_)
            · refine xk_aload_n (pc := 67) d_M_seek_67 rfl ?_
              refine xk_getRo (pc := 68) d_M_seek_68 fl_M_59 (by first | rfl | assumption) rfl (by omega) (by omega) (hS _ _ _ rfl (by omega)) ?_
              refine xk_iload (pc := 71) d_M_seek_71 rfl ?_
              refine xk_iload_n (pc := 73) d_M_seek_73 rfl ?_
              refine xk_iastore (pc := 74) d_M_seek_74 (by first | rfl | assumption) (by omega) (by omega) rfl (by omega) (by decide) ?_
              refine xk_iload_n (pc := 75) d_M_seek_75 rfl ?_
              refine xk_iret (pc := 76) rfl d_M_seek_76 rfl (Nat.le_of_ble_eq_true rfl) (Nat.le_of_ble_eq_true rfl) ?_
              have e : xs_seek s x y (nI v) = (nI v, (s.1, s.2.1, xs_pos s.2.2.1 o v, s.2.2.2)) := by
                unfold xs_seek; rw [env, hdesc]; exact (if_neg (fun q => q c_43)).trans (if_neg (by omega))
              exact xqm_t e (xm_A_O hA (xm_O_pos hO) (fun a ha => xk_up_r (by omega))) (fun a ha => xk_up_r (by omega)) hQ
            · refine xk_iconst (pc := 65) (v := (-1)) d_M_seek_65 (by decide) ?_
              refine xk_iret (pc := 66) rfl d_M_seek_66 rfl (Nat.le_of_ble_eq_true rfl) (Nat.le_of_ble_eq_true rfl) ?_
              have e : xs_seek s x y (nI v) = (-1, s) := by
                unfold xs_seek; rw [env, hdesc]; exact (if_neg (fun q => q c_43)).trans (if_pos (by omega))
              exact xqm_s e hA hQ
          · refine xk_bipush (pc := 46) (v := (-3)) d_M_seek_46 (by decide) ?_
            refine xk_iret (pc := 48) rfl d_M_seek_48 rfl (Nat.le_of_ble_eq_true rfl) (Nat.le_of_ble_eq_true rfl) ?_
            have e : xs_seek s x y (nI v) = (-3, s) := by
              unfold xs_seek; rw [env, hdesc]; exact if_pos c_43
            exact xqm_s e hA hQ
        · exact absurd (xm_ge0 (by omega)) c_30
      · have en := xs_desc_n ep ed e0
        refine xk_istore (pc := 26) d_M_seek_26 (by decide) ?_
        refine xk_iload (pc := 28) d_M_seek_28 rfl ?_
        refine xk_if_ge (pc := 30) (tgt := 36) d_M_seek_30 rfl (fun h => absurd h (by decide)) (fun _ => ?_)
        refine xk_iload (pc := 33) d_M_seek_33 rfl ?_
        refine xk_iret (pc := 35) rfl d_M_seek_35 rfl (Nat.le_of_ble_eq_true rfl) (Nat.le_of_ble_eq_true rfl) ?_
        exact xqm_s (xs_seek_e env en) hA hQ
      · replace en := xs_desc_0 (s := s) en
        refine xk_istore (pc := 26) d_M_seek_26 (by decide) ?_
        refine xk_iload (pc := 28) d_M_seek_28 rfl ?_
        refine xk_if_ge (pc := 30) (tgt := 36) d_M_seek_30 rfl (fun h => absurd h (by decide)) (fun _ => ?_)
        refine xk_iload (pc := 33) d_M_seek_33 rfl ?_
        refine xk_iret (pc := 35) rfl d_M_seek_35 rfl (Nat.le_of_ble_eq_true rfl) (Nat.le_of_ble_eq_true rfl) ?_
        exact xqm_s (xs_seek_e env en) hA hQ
    · replace env := xs_nat_out (k := 32) (by decide) env
      refine xk_if_ne (pc := 15) (tgt := 20) d_M_seek_15 rfl (fun h => absurd (by decide) h) (fun _ => ?_)
      refine xk_iconst (pc := 18) (v := (-1)) d_M_seek_18 (by decide) ?_
      refine xk_iret (pc := 19) rfl d_M_seek_19 rfl (Nat.le_of_ble_eq_true rfl) (Nat.le_of_ble_eq_true rfl) ?_
      exact xqm_s (show xs_seek s x y z = (-1, s) by unfold xs_seek; rw [env]) hA hQ
  · refine xk_if_eq (pc := 5) (tgt := 20) d_M_seek_5 rfl (fun _ => ?_) (fun h => absurd (by decide) h)
    exact s_mseek20 hn hS hA hok ep (xqm_s (xs_seek_na ep) hA hQ)

set_option maxRecDepth 20000 in
set_option maxHeartbeats 4000000 in
theorem c_M_unlink {E : xk_E} {n : Nat} {m : xk_M} {r : xk_P} {Q : xk_Q} {x y : Int32} {s : xs_S} (hn : 74 ≤ n) (hS : xr_S r n) (hA : xm_A s m) (hok : xs_ok s) (hsm : s.1.1.2.2.2.2.1 + 4 < 2 ^ 20) (hQ : ∀ m', xm_A (xs_unlink s x y).2 m' → xm_fr m m' → Q (some (.inl (xs_unlink s x y).1)) n m' r) : xk_W E m_M_unlink 0 (xk_ent m_M_unlink [.inr (some 53), .inl x, .inl y]) [] n m r 0 0 Q := by
  show xk_W E m_M_unlink 0 [some (.inr (some 53)), some (.inl x), some (.inl y)] [] n m r 0 0 Q
  obtain ⟨hF, hP, hO, hT⟩ := id hA
  obtain ⟨okF, okP, okO, okT⟩ := id hok
  have hb := okO.1
  have h6 := xm_h6 okO okT
  have hkw := xm_kw okO
  refine xk_aload_n (pc := 0) d_M_unlink_0 rfl ?_
  refine xk_iload_n (pc := 1) d_M_unlink_1 rfl ?_
  refine xk_cV1 (pc := 2) d_M_unlink_2 ml_M_86 cz_M_alive ⟨rfl, rfl⟩ rfl (by first | rfl | assumption) (by omega) (by omega) (Nat.le_of_ble_eq_true rfl) ⟨(Nat.le_of_ble_eq_true rfl), (Nat.le_of_ble_eq_true rfl)⟩ ?_
  refine c_M_alive hn hS hT okT (fun p ep hp hp1 ex et => ?_) (fun ep => ?_)
  · subst ex
    refine xk_if_eq (pc := 5) (tgt := 18) d_M_unlink_5 rfl (fun h => absurd h (by decide)) (fun _ => ?_)
    refine xk_iload_n (pc := 8) d_M_unlink_8 rfl ?_
    refine xk_iconst (pc := 9) (v := nI 0) d_M_unlink_9 (by decide) ?_
    refine xk_bipush (pc := 10) (v := nI 7) d_M_unlink_10 (by decide) ?_
    refine xk_cS3 (pc := 12) d_M_unlink_12 ml_M_78 cz_M_in ⟨rfl, rfl⟩ rfl (Nat.le_of_ble_eq_true rfl) ⟨(Nat.le_of_ble_eq_true rfl), (Nat.le_of_ble_eq_true rfl)⟩ ?_
    refine c_M_in (lo := 0) (hi := 7) (by decide) (by decide) (fun f _ hf ef => ?_) (fun enf => ?_)
    · subst ef
      have enf := xs_nat_nI (k := 8) (show f < 8 by omega) (by decide)
      refine xk_if_ne (pc := 15) (tgt := 20) d_M_unlink_15 rfl (fun _ => ?_) (fun h => absurd h (by decide))
      refine xk_aload_n (pc := 20) d_M_unlink_20 rfl ?_
      refine xk_getRo (pc := 21) d_M_unlink_21 fl_M_23 (by first | rfl | assumption) rfl (by omega) (by omega) (hS _ _ _ rfl (by omega)) ?_
      refine xk_iload_n (pc := 24) d_M_unlink_24 rfl ?_
      refine xk_ialoado (pc := 25) d_M_unlink_25 (by first | rfl | assumption) (by omega) (by omega) rfl (by omega) (by decide) (hP f (by omega)) ?_
      have hp2 := okP f (by omega)
      first | refine xk_if_eqN (pc := 26) (tgt := 38) d_M_unlink_26 rfl (by omega) (fun c_26 => ?_) (fun c_26 => ?_) | refine xk_if_eq (pc := 26) (tgt := 38) d_M_unlink_26 rfl (fun c_26 => ?_) (fun c_26 => ?_)
      · refine xk_bipush (pc := 38) (v := (-4)) d_M_unlink_38 (by decide) ?_
        refine xk_iret (pc := 40) rfl d_M_unlink_40 rfl (Nat.le_of_ble_eq_true rfl) (Nat.le_of_ble_eq_true rfl) ?_
        have e : xs_unlink s (nI p) (nI f) = (-4, s) := by
          unfold xs_unlink
          rw [ep, enf]
          first | exact if_pos (Or.inr c_35) | exact if_pos (Or.inl c_26)
        exact xqm_s e hA hQ
      · refine xk_aload_n (pc := 29) d_M_unlink_29 rfl ?_
        refine xk_getRo (pc := 30) d_M_unlink_30 fl_M_7 (by first | rfl | assumption) rfl (by omega) (by omega) (hS _ _ _ rfl (by omega)) ?_
        refine xk_iload_n (pc := 33) d_M_unlink_33 rfl ?_
        refine xk_baloado (pc := 34) d_M_unlink_34 (by first | rfl | assumption) (by omega) (by omega) rfl (by omega) (by decide) (hF.1.1 f (by omega)) ?_
        first | refine xk_if_neN (pc := 35) (tgt := 41) d_M_unlink_35 rfl (by omega) (fun c_35 => ?_) (fun c_35 => ?_) | refine xk_if_ne (pc := 35) (tgt := 41) d_M_unlink_35 rfl (fun c_35 => ?_) (fun c_35 => ?_)
        · have c_36 := xs_bi_nz c_35
          refine xk_aload_n (pc := 41) d_M_unlink_41 rfl ?_
          refine xk_getRo (pc := 42) d_M_unlink_42 fl_M_23 (by first | rfl | assumption) rfl (by omega) (by omega) (hS _ _ _ rfl (by omega)) ?_
          refine xk_iload_n (pc := 45) d_M_unlink_45 rfl ?_
          refine xk_ialoado (pc := 46) d_M_unlink_46 (by first | rfl | assumption) (by omega) (by omega) rfl (by omega) (by decide) (hP f (by omega)) ?_
          refine xk_iconst (pc := 47) (v := nI 1) d_M_unlink_47 (by decide) ?_
          first | refine xk_icmp_neN (pc := 48) (tgt := 54) d_M_unlink_48 rfl (by omega) (by omega) (fun c_48 => ?_) (fun c_48 => ?_) | refine xk_icmp_ne (pc := 48) (tgt := 54) d_M_unlink_48 rfl (fun c_48 => ?_) (fun c_48 => ?_)
          · refine xk_aload_n (pc := 54) d_M_unlink_54 rfl ?_
            refine xk_iload_n (pc := 55) d_M_unlink_55 rfl ?_
            refine xk_cV1 (pc := 56) d_M_unlink_56 ml_M_105 cz_M_openFile ⟨rfl, rfl⟩ rfl (by first | rfl | assumption) (by omega) (by omega) (Nat.le_of_ble_eq_true rfl) ⟨(Nat.le_of_ble_eq_true rfl), (Nat.le_of_ble_eq_true rfl)⟩ ?_
            refine c_M_openFile hn hS hO hb h6 hkw (f := f) (by omega) (fun eo => ?_) (fun eo => ?_)
            · refine xk_if_eq (pc := 59) (tgt := 65) d_M_unlink_59 rfl (fun h => absurd h (by decide)) (fun _ => ?_)
              refine xk_bipush (pc := 62) (v := (-9)) d_M_unlink_62 (by decide) ?_
              refine xk_iret (pc := 64) rfl d_M_unlink_64 rfl (Nat.le_of_ble_eq_true rfl) (Nat.le_of_ble_eq_true rfl) ?_
              have e : xs_unlink s (nI p) (nI f) = (-9, s) := by
                unfold xs_unlink
                rw [ep, enf]
                exact (if_neg (fun q => by rcases q with q | q; exact c_26 q; rw [c_36] at q; cases q)).trans ((if_neg c_48).trans (if_pos eo))
              exact xqm_s e hA hQ
            · refine xk_if_eq (pc := 59) (tgt := 65) d_M_unlink_59 rfl (fun _ => ?_) (fun h => absurd (by decide) h)
              refine xk_aload_n (pc := 65) d_M_unlink_65 rfl ?_
              refine xk_iconst (pc := 66) (v := nI 4) d_M_unlink_66 (by decide) ?_
              refine xk_iload_n (pc := 67) d_M_unlink_67 rfl ?_
              refine xk_iconst (pc := 68) (v := nI 0) d_M_unlink_68 (by decide) ?_
              refine xk_cV3 (pc := 69) d_M_unlink_69 ml_M_95 cz_M_operate ⟨rfl, rfl⟩ rfl (by first | rfl | assumption) (by omega) (by omega) (Nat.le_of_ble_eq_true rfl) ⟨(Nat.le_of_ble_eq_true rfl), (Nat.le_of_ble_eq_true rfl)⟩ ?_
              refine c_M_operate (o := 4) hn hS hF (by omega) (by have := okF.2.2.2.2.2; omega) (fun z m1 hF1 hm1 => ?_) (fun z m1 hF1 hm1 => ?_)
              · refine xk_if_ne (pc := 72) (tgt := 78) d_M_unlink_72 rfl (fun _ => ?_) (fun h => absurd h (by decide))
                refine xk_aload_n (pc := 78) d_M_unlink_78 rfl ?_
                refine xk_getRo (pc := 79) d_M_unlink_79 fl_M_7 (by first | rfl | assumption) rfl (by omega) (by omega) (hS _ _ _ rfl (by omega)) ?_
                refine xk_iload_n (pc := 82) d_M_unlink_82 rfl ?_
                refine xk_iconst (pc := 83) (v := nI 0) d_M_unlink_83 (by decide) ?_
                refine xk_bastore (pc := 84) d_M_unlink_84 (by first | rfl | assumption) (by omega) (by omega) rfl (by omega) (by decide) rfl ?_
                refine xk_aload_n (pc := 85) d_M_unlink_85 rfl ?_
                refine xk_iload_n (pc := 86) d_M_unlink_86 rfl ?_
                refine xk_cV1 (pc := 87) d_M_unlink_87 ml_M_119 cz_M_forget ⟨rfl, rfl⟩ rfl (by first | rfl | assumption) (by omega) (by omega) (Nat.le_of_ble_eq_true rfl) ⟨(Nat.le_of_ble_eq_true rfl), (Nat.le_of_ble_eq_true rfl)⟩ ?_
                have hF2 : xm_F (xs_there (xs_op s.1.1 4 f 0).1 f false, s.1.2) (xk_up m1 54 f (nI 0)) := xm_F_H (F := ((xs_op s.1.1 4 f 0).1, s.1.2)) hF1 (xm_H_there (b := false) hF1.1) (xk_up_r (by decide)) (xk_up_a (by decide)) (xk_up_r (by decide)) (xk_up_r (by decide)) (xk_up_r (by decide))
                refine c_M_forget hn hS hF2 (fun i x hx => ⟨(okF.2.2.1 i x hx).1, (okF.2.2.1 i x hx).2.1⟩) (f := f) (by omega) (fun m2 hF3 hm2 => ?_)
                refine xk_iconst (pc := 90) (v := nI 0) d_M_unlink_90 (by decide) ?_
                refine xk_iret (pc := 91) rfl d_M_unlink_91 rfl (Nat.le_of_ble_eq_true rfl) (Nat.le_of_ble_eq_true rfl) ?_
                have e : xs_unlink s (nI p) (nI f) = (nI 0, (xs_drop (xs_there (xs_op s.1.1 4 f 0).1 f false, s.1.2) f, s.2)) := by
                  unfold xs_unlink
                  rw [ep, enf]
                  exact (if_neg (fun q => by rcases q with q | q; exact c_26 q; rw [c_36] at q; cases q)).trans ((if_neg c_48).trans ((if_neg (by rw [eo]; decide)).trans ((if_pos (decide_eq_true z)).trans rfl)))
                have hfr : xm_fF m m2 := fun a ha => by rw [hm2 a ha, xk_up_r (by omega)]; exact hm1 a ha
                exact xqm_t e (xm_A_F hA hF3 hfr) hfr.fr hQ
              · refine xk_if_ne (pc := 72) (tgt := 78) d_M_unlink_72 rfl (fun h => absurd (by decide) h) (fun _ => ?_)
                refine xk_bipush (pc := 75) (v := (-8)) d_M_unlink_75 (by decide) ?_
                refine xk_iret (pc := 77) rfl d_M_unlink_77 rfl (Nat.le_of_ble_eq_true rfl) (Nat.le_of_ble_eq_true rfl) ?_
                have e : xs_unlink s (nI p) (nI f) = (-8, (((xs_op s.1.1 4 f 0).1, s.1.2), s.2)) := by
                  unfold xs_unlink
                  rw [ep, enf]
                  exact (if_neg (fun q => by rcases q with q | q; exact c_26 q; rw [c_36] at q; cases q)).trans ((if_neg c_48).trans ((if_neg (by rw [eo]; decide)).trans (if_neg (fun q => z (of_decide_eq_true q)))))
                exact xqm_t e (xm_A_F hA hF1 hm1) hm1.fr hQ
          · refine xk_bipush (pc := 51) (v := (-5)) d_M_unlink_51 (by decide) ?_
            refine xk_iret (pc := 53) rfl d_M_unlink_53 rfl (Nat.le_of_ble_eq_true rfl) (Nat.le_of_ble_eq_true rfl) ?_
            have e : xs_unlink s (nI p) (nI f) = (-5, s) := by
              unfold xs_unlink
              rw [ep, enf]
              exact (if_neg (fun q => by rcases q with q | q; exact c_26 q; rw [c_36] at q; cases q)).trans (if_pos c_48)
            exact xqm_s e hA hQ
        · rw [xs_bi_z] at c_35
          refine xk_bipush (pc := 38) (v := (-4)) d_M_unlink_38 (by decide) ?_
          refine xk_iret (pc := 40) rfl d_M_unlink_40 rfl (Nat.le_of_ble_eq_true rfl) (Nat.le_of_ble_eq_true rfl) ?_
          have e : xs_unlink s (nI p) (nI f) = (-4, s) := by
            unfold xs_unlink
            rw [ep, enf]
            first | exact if_pos (Or.inr c_35) | exact if_pos (Or.inl c_26)
          exact xqm_s e hA hQ
    · replace enf := xs_nat_out (k := 7) (by decide) enf
      refine xk_if_ne (pc := 15) (tgt := 20) d_M_unlink_15 rfl (fun h => absurd (by decide) h) (fun _ => ?_)
      refine xk_iconst (pc := 18) (v := (-1)) d_M_unlink_18 (by decide) ?_
      refine xk_iret (pc := 19) rfl d_M_unlink_19 rfl (Nat.le_of_ble_eq_true rfl) (Nat.le_of_ble_eq_true rfl) ?_
      first | exact xqm_s (xs_unlink_1 (Or.inr enf)) hA hQ | exact xqm_s (xs_unlink_1 (Or.inl ep)) hA hQ
  · refine xk_if_eq (pc := 5) (tgt := 18) d_M_unlink_5 rfl (fun _ => ?_) (fun h => absurd (by decide) h)
    refine xk_iconst (pc := 18) (v := (-1)) d_M_unlink_18 (by decide) ?_
    refine xk_iret (pc := 19) rfl d_M_unlink_19 rfl (Nat.le_of_ble_eq_true rfl) (Nat.le_of_ble_eq_true rfl) ?_
    first | exact xqm_s (xs_unlink_1 (Or.inr enf)) hA hQ | exact xqm_s (xs_unlink_1 (Or.inl ep)) hA hQ
