/-! the reference's calls, one by one -/
theorem xm_A_F {s : xs_S} {m m' : xk_M} {F' : xs_F} (hA : xm_A s m) (hF' : xm_F F' m') (hm : xm_fF m m') : xm_A (F', s.2) m' :=
  ⟨hF', xm_P_kept hA.2.1 (hm 58 (by omega)), xm_O_kept hA.2.2.1 (fun a _ _ => hm a (by omega)), xm_T_kept hA.2.2.2 (fun a _ _ => hm a (by omega))⟩
theorem xm_fF.fr {m m' : xk_M} (h : xm_fF m m') : xm_fr m m' := fun a ha => h a (by omega)
theorem xm_F_kept {F : xs_F} {m m' : xk_M} (h : xm_F F m) (hm : ∀ a, ((54 ≤ a ∧ a < 58) ∨ (59 ≤ a ∧ a < 62) ∨ a = 73) → m' a = m a) (h53 : m' 53 = m 53) : xm_F F m' :=
  ⟨xm_H_kept h.1 (hm _ (by omega)) (hm _ (by omega)) (hm _ (by omega)) (hm _ (by omega)) (by rw [h53]) (by rw [h53]), xm_L_kept h.2.1 (hm _ (by omega)), xm_C_kept h.2.2 (by rw [h53]) (hm _ (by omega)) (hm _ (by omega)) (hm _ (by omega))⟩
theorem xm_A_O {s : xs_S} {m m' : xk_M} {O' : xs_O} (hA : xm_A s m) (hO' : xm_O O' m') (hm : ∀ a, (a < 66 ∨ 73 ≤ a) → m' a = m a) : xm_A (s.1, s.2.1, O', s.2.2.2) m' :=
  ⟨xm_F_kept hA.1 (fun a _ => hm a (by omega)) (hm _ (by omega)), xm_P_kept hA.2.1 (hm 58 (by omega)), hO', xm_T_kept hA.2.2.2 (fun a _ _ => hm a (by omega))⟩
section XQM
variable {X : Int32 × xs_S} {v : Int32} {s s' : xs_S} {m m' : xk_M} {r : xk_P} {n : Nat} {Q : xk_Q}
theorem xqm_s (e : X = (v, s)) (hA : xm_A s m) (hQ : ∀ m', xm_A X.2 m' → xm_fr m m' → Q (some (.inl X.1)) n m' r) : Q (some (.inl v)) n m r := by
  subst e
  exact hQ m hA (fun _ _ => rfl)
theorem xqm_t (e : X = (v, s')) (hA : xm_A s' m') (hf : xm_fr m m') (hQ : ∀ m', xm_A X.2 m' → xm_fr m m' → Q (some (.inl X.1)) n m' r) : Q (some (.inl v)) n m' r := by
  subst e
  exact hQ m' hA hf
end XQM
theorem xm_h6 {O : xs_O} {T : xs_T} (h : xs_okO O T) (hT : xs_okT T) : ∀ k, k < 6 → O.1 k = none := fun k hk => by
  have := h.2.1 0 k (by decide) hk (by rw [hT.1]; decide)
  rw [Nat.mul_zero, Nat.zero_add] at this
  exact this
theorem xm_kw {O : xs_O} {T : xs_T} (h : xs_okO O T) : ∀ o, o < 16 → xs_used O o = true → O.2.1 o ≤ 2 ∧ O.2.2.1 o < 16 := fun o ho hu => by
  obtain ⟨k1, k2, k3, k4⟩ := h.2.2.1 o ho hu
  refine ⟨k1, ?_⟩
  by_cases e : O.2.1 o = 0
  · have := (k3 e).1; omega
  · exact (k4 e).1
theorem xm_H_place {h : xs_H} {m : xk_M} {f l : Nat} {c : Int32} (hl : l ≤ 32) (hR : xm_H (xs_clear h f) m) : xm_H (xs_place h f l c) (xk_fn (xk_up (xk_up (xk_up m 54 f (nI 1)) 55 f (nI l)) 57 f (nI l)) 56 (32 * f) l (fun i => (c + nI (7 * i)) &&& nI 255)) := by
  obtain ⟨r1, r2, r3, r4, r5, r6⟩ := hR
  refine ⟨fun g hg => ?_, fun g hg => ?_, fun g i hg hi => ?_, fun j hj hj2 => ?_, ?_, ?_⟩
  · rw [xk_fn_a (by decide), xk_up_a (by decide), xk_up_a (by decide)]; exact xm_bu (v := true) r1 g hg
  · rw [xk_fn_a (by decide), xk_up_a (by decide)]
    show _ = nI (xs_u h.2.1 f l g)
    by_cases e : g = f
    · subst e; rw [xk_up_s, xs_u_s]
    · rw [xk_up_k e, xk_up_a (by decide), r2 g hg, xs_u_n e]; show nI (xs_u h.2.1 f 0 g) = _; rw [xs_u_n e]
  · show _ = xs_u h.2.2.1 f _ g i
    have r3' := r3 g i hg hi
    change m 56 (32 * g + i) = xs_u h.2.2.1 f (fun _ => 0) g i at r3'
    unfold xk_fn
    by_cases e : g = f
    · subst e
      rw [xs_u_s] at r3' ⊢
      by_cases e2 : i < l
      · rw [if_pos ⟨rfl, by omega, by omega⟩, if_pos e2, Nat.add_sub_cancel_left]
      · rw [if_neg (by omega), if_neg e2, xk_up_a (by decide), xk_up_a (by decide), xk_up_a (by decide), r3']
    · rw [if_neg (by omega), xk_up_a (by decide), xk_up_a (by decide), xk_up_a (by decide), r3', xs_u_n e, xs_u_n e]
  · rw [xk_fn_a (by decide), xk_up_a (by decide), xk_up_a (by decide), xk_up_a (by decide)]; exact r4 j hj hj2
  · rw [xk_fn_a (by decide), xk_up_a (by decide), xk_up_a (by decide), xk_up_a (by decide)]; exact r5
  · rw [xk_fn_a (by decide), xk_up_a (by decide), xk_up_a (by decide), xk_up_a (by decide)]; exact r6
theorem xs_take_any {l : List xs_B} {i f : Nat} {x : xs_B} (hx : l[i]? = some x) : (l.take (i + 1)).any (fun x => decide (x.1 = f)) = ((l.take i).any (fun x => decide (x.1 = f)) || decide (x.1 = f)) := by
  rw [List.take_add_one, List.any_append, hx]
  congr 1
  exact Bool.or_false _

set_option maxRecDepth 20000 in
set_option maxHeartbeats 4000000 in
theorem c_M_policy {E : xk_E} {n : Nat} {m : xk_M} {r : xk_P} {Q : xk_Q} {x y : Int32} {s : xs_S} (hn : 74 ≤ n) (hS : xr_S r n) (hA : xm_A s m) (hok : xs_ok s) (hsm : s.1.1.2.2.2.2.1 + 4 < 2 ^ 20) (hQ : ∀ m', xm_A (xs_policy s x y).2 m' → xm_fr m m' → Q (some (.inl (xs_policy s x y).1)) n m' r) : xk_W E m_M_policy 0 (xk_ent m_M_policy [.inr (some 53), .inl x, .inl y]) [] n m r 0 0 Q := by
  show xk_W E m_M_policy 0 [some (.inr (some 53)), some (.inl x), some (.inl y)] [] n m r 0 0 Q
  obtain ⟨hF, hP, hO, hT⟩ := id hA
  obtain ⟨okF, okP, okO, okT⟩ := id hok
  have hb := okO.1
  have h6 := xm_h6 okO okT
  have hkw := xm_kw okO
  refine xk_iload_n (pc := 0) d_M_policy_0 rfl ?_
  refine xk_iconst (pc := 1) (v := nI 0) d_M_policy_1 (by decide) ?_
  refine xk_bipush (pc := 2) (v := nI 7) d_M_policy_2 (by decide) ?_
  refine xk_cS3 (pc := 4) d_M_policy_4 ml_M_78 cz_M_in ⟨rfl, rfl⟩ rfl (Nat.le_of_ble_eq_true rfl) ⟨(Nat.le_of_ble_eq_true rfl), (Nat.le_of_ble_eq_true rfl)⟩ ?_
  refine c_M_in (lo := 0) (hi := 7) (by decide) (by decide) (fun f _ hf ef => ?_) (fun enf => ?_)
  · subst ef
    have enf := xs_nat_nI (k := 8) (show f < 8 by omega) (by decide)
    refine xk_if_eq (pc := 7) (tgt := 19) d_M_policy_7 rfl (fun h => absurd h (by decide)) (fun _ => ?_)
    refine xk_iload_n (pc := 10) d_M_policy_10 rfl ?_
    refine xk_iconst (pc := 11) (v := nI 0) d_M_policy_11 (by decide) ?_
    refine xk_iconst (pc := 12) (v := nI 2) d_M_policy_12 (by decide) ?_
    refine xk_cS3 (pc := 13) d_M_policy_13 ml_M_78 cz_M_in ⟨rfl, rfl⟩ rfl (Nat.le_of_ble_eq_true rfl) ⟨(Nat.le_of_ble_eq_true rfl), (Nat.le_of_ble_eq_true rfl)⟩ ?_
    refine c_M_in (lo := 0) (hi := 2) (by decide) (by decide) (fun q _ hq eq => ?_) (fun enq => ?_)
    · subst eq
      have enq := xs_nat_nI (k := 3) (show q < 3 by omega) (by decide)
      refine xk_if_ne (pc := 16) (tgt := 21) d_M_policy_16 rfl (fun _ => ?_) (fun h => absurd h (by decide))
      refine xk_aload_n (pc := 21) d_M_policy_21 rfl ?_
      refine xk_getRo (pc := 22) d_M_policy_22 fl_M_23 (by first | rfl | assumption) rfl (by omega) (by omega) (hS _ _ _ rfl (by omega)) ?_
      refine xk_iload_n (pc := 25) d_M_policy_25 rfl ?_
      refine xk_iload_n (pc := 26) d_M_policy_26 rfl ?_
      refine xk_iastore (pc := 27) d_M_policy_27 (by first | rfl | assumption) (by omega) (by omega) rfl (by omega) (by decide) ?_
      refine xk_iconst (pc := 28) (v := nI 0) d_M_policy_28 (by decide) ?_
      refine xk_iret (pc := 29) rfl d_M_policy_29 rfl (Nat.le_of_ble_eq_true rfl) (Nat.le_of_ble_eq_true rfl) ?_
      have e : xs_policy s (nI f) (nI q) = (nI 0, (s.1, xs_u s.2.1 f q, s.2.2)) := by
        unfold xs_policy
        rw [enf, enq]
        rfl
      exact xqm_t e ⟨xm_F_kept hF (fun a _ => xk_up_r (by omega)) (xk_up_r (by decide)), xm_nu hP, xm_O_kept hO (fun a _ _ => xk_up_r (by omega)), xm_T_kept hT (fun a _ _ => xk_up_r (by omega))⟩ (fun a ha => xk_up_r (by omega)) hQ
    · replace enq := xs_nat_out (k := 2) (by decide) enq
      refine xk_if_ne (pc := 16) (tgt := 21) d_M_policy_16 rfl (fun h => absurd (by decide) h) (fun _ => ?_)
      refine xk_iconst (pc := 19) (v := (-1)) d_M_policy_19 (by decide) ?_
      refine xk_iret (pc := 20) rfl d_M_policy_20 rfl (Nat.le_of_ble_eq_true rfl) (Nat.le_of_ble_eq_true rfl) ?_
      first | exact xqm_s (xs_policy_1 (Or.inr enq)) hA hQ | exact xqm_s (xs_policy_1 (Or.inl enf)) hA hQ
  · replace enf := xs_nat_out (k := 7) (by decide) enf
    refine xk_if_eq (pc := 7) (tgt := 19) d_M_policy_7 rfl (fun _ => ?_) (fun h => absurd (by decide) h)
    refine xk_iconst (pc := 19) (v := (-1)) d_M_policy_19 (by decide) ?_
    refine xk_iret (pc := 20) rfl d_M_policy_20 rfl (Nat.le_of_ble_eq_true rfl) (Nat.le_of_ble_eq_true rfl) ?_
    first | exact xqm_s (xs_policy_1 (Or.inr enq)) hA hQ | exact xqm_s (xs_policy_1 (Or.inl enf)) hA hQ

set_option maxRecDepth 20000 in
set_option maxHeartbeats 4000000 in
theorem c_M_failing {E : xk_E} {n : Nat} {m : xk_M} {r : xk_P} {Q : xk_Q} {x : Int32} {s : xs_S} (hn : 74 ≤ n) (hS : xr_S r n) (hA : xm_A s m) (hok : xs_ok s) (hsm : s.1.1.2.2.2.2.1 + 4 < 2 ^ 20) (hQ : ∀ m', xm_A (xs_failing s x).2 m' → xm_fr m m' → Q (some (.inl (xs_failing s x).1)) n m' r) : xk_W E m_M_failing 0 (xk_ent m_M_failing [.inr (some 53), .inl x]) [] n m r 0 0 Q := by
  show xk_W E m_M_failing 0 [some (.inr (some 53)), some (.inl x)] [] n m r 0 0 Q
  obtain ⟨hF, hP, hO, hT⟩ := id hA
  obtain ⟨okF, okP, okO, okT⟩ := id hok
  have hb := okO.1
  have h6 := xm_h6 okO okT
  have hkw := xm_kw okO
  refine xk_iload_n (pc := 0) d_M_failing_0 rfl ?_
  refine xk_iconst (pc := 1) (v := nI 0) d_M_failing_1 (by decide) ?_
  refine xk_bipush (pc := 2) (v := nI 9) d_M_failing_2 (by decide) ?_
  refine xk_cS3 (pc := 4) d_M_failing_4 ml_M_78 cz_M_in ⟨rfl, rfl⟩ rfl (Nat.le_of_ble_eq_true rfl) ⟨(Nat.le_of_ble_eq_true rfl), (Nat.le_of_ble_eq_true rfl)⟩ ?_
  refine c_M_in (lo := 0) (hi := 9) (by decide) (by decide) (fun q _ hq eq => ?_) (fun enq => ?_)
  · subst eq
    have enq := xs_nat_nI (k := 10) (show q < 10 by omega) (by decide)
    refine xk_if_ne (pc := 7) (tgt := 12) d_M_failing_7 rfl (fun _ => ?_) (fun h => absurd h (by decide))
    refine xk_aload_n (pc := 12) d_M_failing_12 rfl ?_
    refine xk_iload_n (pc := 13) d_M_failing_13 rfl ?_
    refine xk_putI (pc := 14) d_M_failing_14 fl_M_89 (by first | rfl | assumption) rfl (fun q hq h => by cases hq; first | exact absurd h (by decide) | exact ⟨rfl, rfl, rfl⟩) ⟨rfl, rfl⟩ (by omega) (by omega) ?_
    refine xk_iconst (pc := 17) (v := nI 0) d_M_failing_17 (by decide) ?_
    refine xk_iret (pc := 18) rfl d_M_failing_18 rfl (Nat.le_of_ble_eq_true rfl) (Nat.le_of_ble_eq_true rfl) ?_
    have e : xs_failing s (nI q) = (nI 0, (((s.1.1.1, s.1.1.2.1, s.1.1.2.2.1, s.1.1.2.2.2.1, s.1.1.2.2.2.2.1, q), s.1.2), s.2)) := by
      unfold xs_failing
      rw [enq]
      rfl
    obtain ⟨r1, r2, r3, r4, r5, r6⟩ := hF.1
    exact xqm_t e (xm_A_F hA ⟨⟨fun g hg => by rw [xk_up_a (by decide)]; exact r1 g hg, fun g hg => by rw [xk_up_a (by decide)]; exact r2 g hg, fun g i hg hi => by rw [xk_up_a (by decide)]; exact r3 g i hg hi, fun j hj hj2 => by rw [xk_up_a (by decide)]; exact r4 j hj hj2, by rw [xk_up_k (by decide)]; exact r5, xk_up_s⟩, xm_L_kept hF.2.1 (xk_up_r (by decide)), xm_C_kept hF.2.2 (xk_up_k (by decide)) (xk_up_r (by decide)) (xk_up_r (by decide)) (xk_up_r (by decide))⟩ (fun a ha => xk_up_r (by omega))) (fun a ha => xk_up_r (by omega)) hQ
  · replace enq := xs_nat_out (k := 9) (by decide) enq
    refine xk_if_ne (pc := 7) (tgt := 12) d_M_failing_7 rfl (fun h => absurd (by decide) h) (fun _ => ?_)
    refine xk_iconst (pc := 10) (v := (-1)) d_M_failing_10 (by decide) ?_
    refine xk_iret (pc := 11) rfl d_M_failing_11 rfl (Nat.le_of_ble_eq_true rfl) (Nat.le_of_ble_eq_true rfl) ?_
    exact xqm_s (show xs_failing s x = (-1, s) by unfold xs_failing; rw [enq]) hA hQ

set_option maxRecDepth 20000 in
set_option maxHeartbeats 4000000 in
theorem l_mput1 {E : xk_E} {n : Nat} {r : xk_P} {Q : xk_Q} {m : xk_M} {F : xs_F} {f : Nat} {v2 v3 : Option xk_V} {b0 : Bool} (hn : 74 ≤ n) (hS : xr_S r n) (hF : xm_F F m) (hok : xs_okF F) (hf : f < 8) (hK : xk_W E m_M_put 64 [some (.inr (some 53)), some (.inl (nI f)), v2, v3, some (.inl (xs_bi (b0 || F.2.2.any (fun x => decide (x.1 = f))))), some (.inl (nI F.2.2.length))] [] n m r 0 0 Q) : ∀ (k : Nat) (i : Nat), F.2.2.length - i < k → i ≤ F.2.2.length → xk_W E m_M_put 32 [some (.inr (some 53)), some (.inl (nI f)), v2, v3, some (.inl (xs_bi (b0 || (F.2.2.take i).any (fun x => decide (x.1 = f))))), some (.inl (nI i))] [] n m r 0 0 Q := by
  intro k
  induction k with
  | zero => intro i h; exact absurd h (Nat.not_lt_zero _)
  | succ k ih =>
    intro i hk hi
    have hl5 := hF.2.2.2.1
    refine xk_iload (pc := 32) d_M_put_32 rfl ?_
    refine xk_aload_n (pc := 34) d_M_put_34 rfl ?_
    refine xk_getIo (pc := 35) d_M_put_35 fl_M_74 (by first | rfl | assumption) rfl (by omega) (by omega) hF.2.2.1 ?_
    first | refine xk_icmp_geN (pc := 38) (tgt := 64) d_M_put_38 rfl (by omega) (by omega) (fun c_38 => ?_) (fun c_38 => ?_) | refine xk_icmp_ge (pc := 38) (tgt := 64) d_M_put_38 rfl (fun c_38 => ?_) (fun c_38 => ?_)
    · have e : i = F.2.2.length := by omega
      subst e
      rw [List.take_length]
      exact hK
    · obtain ⟨x, hx⟩ := xs_get_lt c_38
      obtain ⟨g0, g1, g2⟩ := hF.2.2.2.2 i x hx
      obtain ⟨x1, x2, x3⟩ := hok.2.2.1 i x hx
      have ht := xs_take_any (f := f) hx
      refine xk_aload_n (pc := 41) d_M_put_41 rfl ?_
      refine xk_getRo (pc := 42) d_M_put_42 fl_M_26 (by first | rfl | assumption) rfl (by omega) (by omega) (hS _ _ _ rfl (by omega)) ?_
      refine xk_iload (pc := 45) d_M_put_45 rfl ?_
      refine xk_ialoado (pc := 47) d_M_put_47 (by first | rfl | assumption) (by omega) (by omega) rfl (by omega) (by decide) g0 ?_
      refine xk_bipush (pc := 48) (v := nI 7) d_M_put_48 (by decide) ?_
      refine xk_iand (pc := 50) d_M_put_50 ?_
      rw [(xm_fe x.1 x1 x.2.1 x2).1]
      refine xk_iload_n (pc := 51) d_M_put_51 rfl ?_
      first | refine xk_icmp_neN (pc := 52) (tgt := 58) d_M_put_52 rfl (by omega) (by omega) (fun c_52 => ?_) (fun c_52 => ?_) | refine xk_icmp_ne (pc := 52) (tgt := 58) d_M_put_52 rfl (fun c_52 => ?_) (fun c_52 => ?_)
      · rw [decide_eq_false c_52, Bool.or_false] at ht
        refine xk_iincN (pc := 58) (d := 1) d_M_put_58 rfl ?_
        refine xk_goto (pc := 61) (tgt := 32) d_M_put_61 rfl ?_
        have K := ih (i + 1) (by omega) (by omega)
        rw [ht] at K
        first | exact K | (rw [Bool.or_true] at K; exact K)
      · rw [decide_eq_true c_52, Bool.or_true] at ht
        refine xk_iconst (pc := 55) (v := nI 1) d_M_put_55 (by decide) ?_
        refine xk_istore (pc := 56) d_M_put_56 (by decide) ?_
        refine xk_iincN (pc := 58) (d := 1) d_M_put_58 rfl ?_
        refine xk_goto (pc := 61) (tgt := 32) d_M_put_61 rfl ?_
        have K := ih (i + 1) (by omega) (by omega)
        rw [ht] at K
        first | exact K | (rw [Bool.or_true] at K; exact K)

set_option maxRecDepth 20000 in
set_option maxHeartbeats 4000000 in
theorem l_mput2 {E : xk_E} {n : Nat} {r : xk_P} {Q : xk_Q} {m : xk_M} {f l : Nat} {x : Int32} {v4 : Option xk_V} (hn : 74 ≤ n) (hS : xr_S r n) (hf : f < 8) (hl : l ≤ 32) (hQ : Q (some (.inl (nI 0))) n (xk_fn m 56 (32 * f) l (fun i => (x + nI (7 * i)) &&& nI 255)) r) : ∀ (k : Nat) (i : Nat), l - i < k → i ≤ l → xk_W E m_M_put 101 [some (.inr (some 53)), some (.inl (nI f)), some (.inl (nI l)), some (.inl x), v4, some (.inl (nI i))] [] n (xk_fn m 56 (32 * f) i (fun i => (x + nI (7 * i)) &&& nI 255)) r 0 0 Q := by
  intro k
  induction k with
  | zero => intro i h; exact absurd h (Nat.not_lt_zero _)
  | succ k ih =>
    intro i hk h2
    refine xk_iload (pc := 101) d_M_put_101 rfl ?_
    refine xk_iload_n (pc := 103) d_M_put_103 rfl ?_
    first | refine xk_icmp_geN (pc := 104) (tgt := 136) d_M_put_104 rfl (by omega) (by omega) (fun c_104 => ?_) (fun c_104 => ?_) | refine xk_icmp_ge (pc := 104) (tgt := 136) d_M_put_104 rfl (fun c_104 => ?_) (fun c_104 => ?_)
    · have e : i = l := by omega
      subst e
      refine xk_iconst (pc := 136) (v := nI 0) d_M_put_136 (by decide) ?_
      refine xk_iret (pc := 137) rfl d_M_put_137 rfl (Nat.le_of_ble_eq_true rfl) (Nat.le_of_ble_eq_true rfl) ?_
      exact hQ
    · refine xk_aload_n (pc := 107) d_M_put_107 rfl ?_
      refine xk_getRo (pc := 108) d_M_put_108 fl_M_17 (by first | rfl | assumption) rfl (by omega) (by omega) (hS _ _ _ rfl (by omega)) ?_
      refine xk_bipush (pc := 111) (v := nI 32) d_M_put_111 (by decide) ?_
      refine xk_iload_n (pc := 113) d_M_put_113 rfl ?_
      first | refine xk_imulN (pc := 114) d_M_put_114 ?_ | refine xk_imul (pc := 114) d_M_put_114 ?_
      refine xk_iload (pc := 115) d_M_put_115 rfl ?_
      first | refine xk_iaddN (pc := 117) d_M_put_117 ?_ | refine xk_iadd (pc := 117) d_M_put_117 ?_
      refine xk_iload_n (pc := 118) d_M_put_118 rfl ?_
      refine xk_bipush (pc := 119) (v := nI 7) d_M_put_119 (by decide) ?_
      refine xk_iload (pc := 121) d_M_put_121 rfl ?_
      first | refine xk_imulN (pc := 123) d_M_put_123 ?_ | refine xk_imul (pc := 123) d_M_put_123 ?_
      first | refine xk_iaddN (pc := 124) d_M_put_124 ?_ | refine xk_iadd (pc := 124) d_M_put_124 ?_
      refine xk_sipush (pc := 125) (v := nI 255) d_M_put_125 (by decide) ?_
      refine xk_iand (pc := 128) d_M_put_128 ?_
      refine xk_iastore (pc := 129) d_M_put_129 (by first | rfl | assumption) (by omega) (by omega) rfl (by omega) (by decide) ?_
      rw [xk_fn_s (g := fun i => (x + nI (7 * i)) &&& nI 255) rfl]
      refine xk_iincN (pc := 130) (d := 1) d_M_put_130 rfl ?_
      refine xk_goto (pc := 133) (tgt := 101) d_M_put_133 rfl ?_
      exact ih (i + 1) (by omega) (by omega)

set_option maxRecDepth 20000 in
set_option maxHeartbeats 4000000 in
theorem s_mput64 {E : xk_E} {n : Nat} {m : xk_M} {r : xk_P} {Q : xk_Q} {f : Nat} {v1 v2 v3 v5 : Option xk_V} (hQ : Q (some (.inl (-9))) n m r) : xk_W E m_M_put 64 [some (.inr (some 53)), v1, v2, v3, some (.inl (nI 1)), v5] [] n m r 0 0 Q := by
  refine xk_iload (pc := 64) d_M_put_64 rfl ?_
  refine xk_if_eq (pc := 66) (tgt := 72) d_M_put_66 rfl (fun h => absurd h (by decide)) (fun _ => ?_)
  refine xk_bipush (pc := 69) (v := (-9)) d_M_put_69 (by decide) ?_
  refine xk_iret (pc := 71) rfl d_M_put_71 rfl (Nat.le_of_ble_eq_true rfl) (Nat.le_of_ble_eq_true rfl) ?_
  exact hQ

set_option maxRecDepth 20000 in
set_option maxHeartbeats 4000000 in
theorem c_M_put {E : xk_E} {n : Nat} {m : xk_M} {r : xk_P} {Q : xk_Q} {x y z : Int32} {s : xs_S} (hn : 74 ≤ n) (hS : xr_S r n) (hA : xm_A s m) (hok : xs_ok s) (hsm : s.1.1.2.2.2.2.1 + 4 < 2 ^ 20) (hQ : ∀ m', xm_A (xs_put s x y z).2 m' → xm_fr m m' → Q (some (.inl (xs_put s x y z).1)) n m' r) : xk_W E m_M_put 0 (xk_ent m_M_put [.inr (some 53), .inl x, .inl y, .inl z]) [] n m r 0 0 Q := by
  show xk_W E m_M_put 0 [some (.inr (some 53)), some (.inl x), some (.inl y), some (.inl z), none, none] [] n m r 0 0 Q
  obtain ⟨hF, hP, hO, hT⟩ := id hA
  obtain ⟨okF, okP, okO, okT⟩ := id hok
  have hb := okO.1
  have h6 := xm_h6 okO okT
  have hkw := xm_kw okO
  refine xk_iload_n (pc := 0) d_M_put_0 rfl ?_
  refine xk_iconst (pc := 1) (v := nI 0) d_M_put_1 (by decide) ?_
  refine xk_bipush (pc := 2) (v := nI 7) d_M_put_2 (by decide) ?_
  refine xk_cS3 (pc := 4) d_M_put_4 ml_M_78 cz_M_in ⟨rfl, rfl⟩ rfl (Nat.le_of_ble_eq_true rfl) ⟨(Nat.le_of_ble_eq_true rfl), (Nat.le_of_ble_eq_true rfl)⟩ ?_
  refine c_M_in (lo := 0) (hi := 7) (by decide) (by decide) (fun f _ hf ef => ?_) (fun enf => ?_)
  · subst ef
    have enf := xs_nat_nI (k := 8) (show f < 8 by omega) (by decide)
    refine xk_if_eq (pc := 7) (tgt := 20) d_M_put_7 rfl (fun h => absurd h (by decide)) (fun _ => ?_)
    refine xk_iload_n (pc := 10) d_M_put_10 rfl ?_
    refine xk_iconst (pc := 11) (v := nI 0) d_M_put_11 (by decide) ?_
    refine xk_bipush (pc := 12) (v := nI 32) d_M_put_12 (by decide) ?_
    refine xk_cS3 (pc := 14) d_M_put_14 ml_M_78 cz_M_in ⟨rfl, rfl⟩ rfl (Nat.le_of_ble_eq_true rfl) ⟨(Nat.le_of_ble_eq_true rfl), (Nat.le_of_ble_eq_true rfl)⟩ ?_
    refine c_M_in (lo := 0) (hi := 32) (by decide) (by decide) (fun l _ hl el => ?_) (fun enl => ?_)
    · subst el
      have enl := xs_nat_nI (k := 33) (show l < 33 by omega) (by decide)
      refine xk_if_ne (pc := 17) (tgt := 22) d_M_put_17 rfl (fun _ => ?_) (fun h => absurd h (by decide))
      refine xk_aload_n (pc := 22) d_M_put_22 rfl ?_
      refine xk_iload_n (pc := 23) d_M_put_23 rfl ?_
      refine xk_cV1 (pc := 24) d_M_put_24 ml_M_105 cz_M_openFile ⟨rfl, rfl⟩ rfl (by first | rfl | assumption) (by omega) (by omega) (Nat.le_of_ble_eq_true rfl) ⟨(Nat.le_of_ble_eq_true rfl), (Nat.le_of_ble_eq_true rfl)⟩ ?_
      refine c_M_openFile hn hS hO hb h6 hkw (f := f) (by omega) (fun eo => ?_) (fun eo => ?_)
      · refine xk_istore (pc := 27) d_M_put_27 (by decide) ?_
        refine xk_iconst (pc := 29) (v := nI 0) d_M_put_29 (by decide) ?_
        refine xk_istore (pc := 30) d_M_put_30 (by decide) ?_
        have e : xs_put s (nI f) (nI l) z = (-9, s) := by
          unfold xs_put
          rw [enf, enl]
          exact if_pos (Or.inl eo)
        exact l_mput1 (E := E) (Q := Q) (v2 := some (.inl (nI l))) (v3 := some (.inl z)) (b0 := true) hn hS hF okF (by omega) (s_mput64 (f := f) (xqm_s e hA hQ)) (s.1.2.2.length + 1) 0 (by omega) (by omega)
      · refine xk_istore (pc := 27) d_M_put_27 (by decide) ?_
        refine xk_iconst (pc := 29) (v := nI 0) d_M_put_29 (by decide) ?_
        refine xk_istore (pc := 30) d_M_put_30 (by decide) ?_
        suffices HH : xk_W E m_M_put 64 [some (.inr (some 53)), some (.inl (nI f)), some (.inl (nI l)), some (.inl z), some (.inl (xs_bi (false || s.1.2.2.any (fun x => decide (x.1 = f))))), some (.inl (nI s.1.2.2.length))] [] n m r 0 0 Q by
          exact l_mput1 (E := E) (Q := Q) (v2 := some (.inl (nI l))) (v3 := some (.inl z)) (b0 := false) hn hS hF okF (by omega) HH (s.1.2.2.length + 1) 0 (by omega) (by omega)
        refine xk_iload (pc := 64) d_M_put_64 rfl ?_
        first | refine xk_if_eqN (pc := 66) (tgt := 72) d_M_put_66 rfl (by omega) (fun c_66 => ?_) (fun c_66 => ?_) | refine xk_if_eq (pc := 66) (tgt := 72) d_M_put_66 rfl (fun c_66 => ?_) (fun c_66 => ?_)
        · have c_67 := xs_bi_z.mp c_66
          rw [Bool.false_or] at c_67
          refine xk_aload_n (pc := 72) d_M_put_72 rfl ?_
          refine xk_iload_n (pc := 73) d_M_put_73 rfl ?_
          refine xk_cV1 (pc := 74) d_M_put_74 ml_M_108 cz_M_wipeHost ⟨rfl, rfl⟩ rfl (by first | rfl | assumption) (by omega) (by omega) (Nat.le_of_ble_eq_true rfl) ⟨(Nat.le_of_ble_eq_true rfl), (Nat.le_of_ble_eq_true rfl)⟩ ?_
          refine c_M_wipeHost hn hS hF (f := f) (by omega) (fun m1 hF1 hm1 => ?_)
          refine xk_aload_n (pc := 77) d_M_put_77 rfl ?_
          refine xk_getRo (pc := 78) d_M_put_78 fl_M_7 (by first | rfl | assumption) rfl (by omega) (by omega) (hS _ _ _ rfl (by omega)) ?_
          refine xk_iload_n (pc := 81) d_M_put_81 rfl ?_
          refine xk_iconst (pc := 82) (v := nI 1) d_M_put_82 (by decide) ?_
          refine xk_bastore (pc := 83) d_M_put_83 (by first | rfl | assumption) (by omega) (by omega) rfl (by omega) (by decide) rfl ?_
          refine xk_aload_n (pc := 84) d_M_put_84 rfl ?_
          refine xk_getRo (pc := 85) d_M_put_85 fl_M_13 (by first | rfl | assumption) rfl (by omega) (by omega) (hS _ _ _ rfl (by omega)) ?_
          refine xk_iload_n (pc := 88) d_M_put_88 rfl ?_
          refine xk_iload_n (pc := 89) d_M_put_89 rfl ?_
          refine xk_iastore (pc := 90) d_M_put_90 (by first | rfl | assumption) (by omega) (by omega) rfl (by omega) (by decide) ?_
          refine xk_aload_n (pc := 91) d_M_put_91 rfl ?_
          refine xk_getRo (pc := 92) d_M_put_92 fl_M_20 (by first | rfl | assumption) rfl (by omega) (by omega) (hS _ _ _ rfl (by omega)) ?_
          refine xk_iload_n (pc := 95) d_M_put_95 rfl ?_
          refine xk_iload_n (pc := 96) d_M_put_96 rfl ?_
          refine xk_iastore (pc := 97) d_M_put_97 (by first | rfl | assumption) (by omega) (by omega) rfl (by omega) (by decide) ?_
          refine xk_iconst (pc := 98) (v := nI 0) d_M_put_98 (by decide) ?_
          refine xk_istore (pc := 99) d_M_put_99 (by decide) ?_
          have e : xs_put s (nI f) (nI l) z = (nI 0, (xs_len (xs_place s.1.1 f l z, s.1.2) f l, s.2)) := by
            unfold xs_put
            rw [enf, enl]
            refine (if_neg ?_).trans rfl
            rintro (q | q)
            · rw [eo] at q; cases q
            · rw [c_67] at q; cases q
          have fr : ∀ a, a ≠ 54 → a ≠ 55 → a ≠ 56 → a ≠ 57 → (xk_fn (xk_up (xk_up (xk_up m1 54 f (nI 1)) 55 f (nI l)) 57 f (nI l)) 56 (32 * f) l (fun i => (z + nI (7 * i)) &&& nI 255)) a = m1 a := fun a a1 a2 a3 a4 => by rw [xk_fn_r a3, xk_up_r a4, xk_up_r a2, xk_up_r a1]
          have hfr : xm_fF m (xk_fn (xk_up (xk_up (xk_up m1 54 f (nI 1)) 55 f (nI l)) 57 f (nI l)) 56 (32 * f) l (fun i => (z + nI (7 * i)) &&& nI 255)) := fun a ha => by rw [fr a (by omega) (by omega) (by omega) (by omega)]; exact hm1 a ha
          have K := l_mput2 (E := E) (Q := Q) (v4 := some (.inl (xs_bi (false || s.1.2.2.any (fun x => decide (x.1 = f)))))) (m := xk_up (xk_up (xk_up m1 54 f (nI 1)) 55 f (nI l)) 57 f (nI l)) (x := z) hn hS (by omega) (by omega) (xqm_t (m := m) e (xm_A_F hA ⟨xm_H_place (by omega) hF1.1, fun g hg => by
              rw [xk_fn_a (by decide)]
              exact xm_nu (m := xk_up (xk_up m1 54 f (nI 1)) 55 f (nI l)) (g := s.1.2.1) (fun j hj => by rw [xk_up_a (by decide), xk_up_a (by decide)]; exact hF1.2.1 j hj) g hg, xm_C_kept hF1.2.2 (by rw [fr _ (by decide) (by decide) (by decide) (by decide)]) (fr _ (by decide) (by decide) (by decide) (by decide)) (fr _ (by decide) (by decide) (by decide) (by decide)) (fr _ (by decide) (by decide) (by decide) (by decide))⟩ hfr) hfr.fr hQ) (l + 1) 0 (by omega) (by omega)
          rw [xk_fn_0] at K
          exact K
        · have c_67 := xs_bi_nz c_66
          refine xk_bipush (pc := 69) (v := (-9)) d_M_put_69 (by decide) ?_
          refine xk_iret (pc := 71) rfl d_M_put_71 rfl (Nat.le_of_ble_eq_true rfl) (Nat.le_of_ble_eq_true rfl) ?_
          have e : xs_put s (nI f) (nI l) z = (-9, s) := by
            unfold xs_put
            rw [enf, enl]
            first | exact if_pos (Or.inl eo) | exact if_pos (Or.inr (by rw [Bool.false_or] at c_67; exact c_67))
          exact xqm_s e hA hQ
    · replace enl := xs_nat_out (k := 32) (by decide) enl
      refine xk_if_ne (pc := 17) (tgt := 22) d_M_put_17 rfl (fun h => absurd (by decide) h) (fun _ => ?_)
      refine xk_iconst (pc := 20) (v := (-1)) d_M_put_20 (by decide) ?_
      refine xk_iret (pc := 21) rfl d_M_put_21 rfl (Nat.le_of_ble_eq_true rfl) (Nat.le_of_ble_eq_true rfl) ?_
      first | exact xqm_s (xs_put_1 (Or.inr enl)) hA hQ | exact xqm_s (xs_put_1 (Or.inl enf)) hA hQ
  · replace enf := xs_nat_out (k := 7) (by decide) enf
    refine xk_if_eq (pc := 7) (tgt := 20) d_M_put_7 rfl (fun _ => ?_) (fun h => absurd (by decide) h)
    refine xk_iconst (pc := 20) (v := (-1)) d_M_put_20 (by decide) ?_
    refine xk_iret (pc := 21) rfl d_M_put_21 rfl (Nat.le_of_ble_eq_true rfl) (Nat.le_of_ble_eq_true rfl) ?_
    first | exact xqm_s (xs_put_1 (Or.inr enl)) hA hQ | exact xqm_s (xs_put_1 (Or.inl enf)) hA hQ

set_option maxRecDepth 20000 in
set_option maxHeartbeats 4000000 in
theorem c_M_host {E : xk_E} {n : Nat} {m : xk_M} {r : xk_P} {Q : xk_Q} {x y : Int32} {s : xs_S} (hn : 74 ≤ n) (hS : xr_S r n) (hA : xm_A s m) (hok : xs_ok s) (hQ : Q (some (.inl (xs_host s x y))) n m r) : xk_W E m_M_host 0 (xk_ent m_M_host [.inr (some 53), .inl x, .inl y]) [] n m r 0 0 Q := by
  show xk_W E m_M_host 0 [some (.inr (some 53)), some (.inl x), some (.inl y)] [] n m r 0 0 Q
  obtain ⟨hF, hP, hO, hT⟩ := id hA
  obtain ⟨okF, okP, okO, okT⟩ := id hok
  have hb := okO.1
  have h6 := xm_h6 okO okT
  have hkw := xm_kw okO
  refine xk_iload_n (pc := 0) d_M_host_0 rfl ?_
  refine xk_iconst (pc := 1) (v := nI 0) d_M_host_1 (by decide) ?_
  refine xk_bipush (pc := 2) (v := nI 7) d_M_host_2 (by decide) ?_
  refine xk_cS3 (pc := 4) d_M_host_4 ml_M_78 cz_M_in ⟨rfl, rfl⟩ rfl (Nat.le_of_ble_eq_true rfl) ⟨(Nat.le_of_ble_eq_true rfl), (Nat.le_of_ble_eq_true rfl)⟩ ?_
  refine c_M_in (lo := 0) (hi := 7) (by decide) (by decide) (fun f _ hf ef => ?_) (fun enf => ?_)
  · subst ef
    have enf := xs_nat_nI (k := 8) (show f < 8 by omega) (by decide)
    refine xk_if_ne (pc := 7) (tgt := 12) d_M_host_7 rfl (fun _ => ?_) (fun h => absurd h (by decide))
    refine xk_aload_n (pc := 12) d_M_host_12 rfl ?_
    refine xk_getRo (pc := 13) d_M_host_13 fl_M_7 (by first | rfl | assumption) rfl (by omega) (by omega) (hS _ _ _ rfl (by omega)) ?_
    refine xk_iload_n (pc := 16) d_M_host_16 rfl ?_
    refine xk_baloado (pc := 17) d_M_host_17 (by first | rfl | assumption) (by omega) (by omega) rfl (by omega) (by decide) (hF.1.1 f (by omega)) ?_
    first | refine xk_if_neN (pc := 18) (tgt := 24) d_M_host_18 rfl (by omega) (fun c_18 => ?_) (fun c_18 => ?_) | refine xk_if_ne (pc := 18) (tgt := 24) d_M_host_18 rfl (fun c_18 => ?_) (fun c_18 => ?_)
    · have c_19 := xs_bi_nz c_18
      refine xk_iload_n (pc := 24) d_M_host_24 rfl ?_
      refine xk_if_lt (pc := 25) (tgt := 38) d_M_host_25 rfl (fun c_25 => ?_) (fun c_25 => ?_)
      · have eni := xs_nat_lt (k := s.1.1.2.1 f) c_25
        refine xk_bipush (pc := 38) (v := (-7)) d_M_host_38 (by decide) ?_
        refine xk_goto (pc := 40) (tgt := 54) d_M_host_40 rfl ?_
        refine xk_iret (pc := 54) rfl d_M_host_54 rfl (Nat.le_of_ble_eq_true rfl) (Nat.le_of_ble_eq_true rfl) ?_
        have e0 : ∀ y, xs_host s (nI f) y = match xs_nat y (s.1.1.2.1 f) with | none => -7 | some i => s.1.1.2.2.1 f i := fun y => by unfold xs_host; rw [enf]; exact if_neg (by rw [c_19]; decide)
        rw [e0, eni] at hQ
        exact hQ
      · have hl := okF.1 f (by omega)
        refine xk_iload_n (pc := 28) d_M_host_28 rfl ?_
        refine xk_aload_n (pc := 29) d_M_host_29 rfl ?_
        refine xk_getRo (pc := 30) d_M_host_30 fl_M_13 (by first | rfl | assumption) rfl (by omega) (by omega) (hS _ _ _ rfl (by omega)) ?_
        refine xk_iload_n (pc := 33) d_M_host_33 rfl ?_
        refine xk_ialoado (pc := 34) d_M_host_34 (by first | rfl | assumption) (by omega) (by omega) rfl (by omega) (by decide) (hF.1.2.1 f (by omega)) ?_
        first | refine xk_icmp_ltN (pc := 35) (tgt := 43) d_M_host_35 rfl (by omega) (by omega) (fun c_35 => ?_) (fun c_35 => ?_) | refine xk_icmp_lt (pc := 35) (tgt := 43) d_M_host_35 rfl (fun c_35 => ?_) (fun c_35 => ?_)
        · obtain ⟨i, hi, ei, eni⟩ := xs_nat_in (k := s.1.1.2.1 f) (by omega) c_25 (by rw [Int32.not_le]; exact c_35)
          subst ei
          refine xk_aload_n (pc := 43) d_M_host_43 rfl ?_
          refine xk_getRo (pc := 44) d_M_host_44 fl_M_17 (by first | rfl | assumption) rfl (by omega) (by omega) (hS _ _ _ rfl (by omega)) ?_
          refine xk_bipush (pc := 47) (v := nI 32) d_M_host_47 (by decide) ?_
          refine xk_iload_n (pc := 49) d_M_host_49 rfl ?_
          first | refine xk_imulN (pc := 50) d_M_host_50 ?_ | refine xk_imul (pc := 50) d_M_host_50 ?_
          refine xk_iload_n (pc := 51) d_M_host_51 rfl ?_
          first | refine xk_iaddN (pc := 52) d_M_host_52 ?_ | refine xk_iadd (pc := 52) d_M_host_52 ?_
          refine xk_ialoado (pc := 53) d_M_host_53 (by first | rfl | assumption) (by omega) (by omega) rfl (by omega) (by decide) (hF.1.2.2.1 f i (by omega) (by omega)) ?_
          refine xk_iret (pc := 54) rfl d_M_host_54 rfl (Nat.le_of_ble_eq_true rfl) (Nat.le_of_ble_eq_true rfl) ?_
          have e0 : ∀ y, xs_host s (nI f) y = match xs_nat y (s.1.1.2.1 f) with | none => -7 | some i => s.1.1.2.2.1 f i := fun y => by unfold xs_host; rw [enf]; exact if_neg (by rw [c_19]; decide)
          rw [e0, eni] at hQ
          exact hQ
        · have eni := xs_nat_ge (k := s.1.1.2.1 f) (by omega) (Int32.not_lt.mp c_35)
          refine xk_bipush (pc := 38) (v := (-7)) d_M_host_38 (by decide) ?_
          refine xk_goto (pc := 40) (tgt := 54) d_M_host_40 rfl ?_
          refine xk_iret (pc := 54) rfl d_M_host_54 rfl (Nat.le_of_ble_eq_true rfl) (Nat.le_of_ble_eq_true rfl) ?_
          have e0 : ∀ y, xs_host s (nI f) y = match xs_nat y (s.1.1.2.1 f) with | none => -7 | some i => s.1.1.2.2.1 f i := fun y => by unfold xs_host; rw [enf]; exact if_neg (by rw [c_19]; decide)
          rw [e0, eni] at hQ
          exact hQ
    · rw [xs_bi_z] at c_18
      refine xk_bipush (pc := 21) (v := (-4)) d_M_host_21 (by decide) ?_
      refine xk_iret (pc := 23) rfl d_M_host_23 rfl (Nat.le_of_ble_eq_true rfl) (Nat.le_of_ble_eq_true rfl) ?_
      have e : xs_host s (nI f) y = -4 := by unfold xs_host; rw [enf]; exact if_pos c_18
      rw [e] at hQ
      exact hQ
  · replace enf := xs_nat_out (k := 7) (by decide) enf
    refine xk_if_ne (pc := 7) (tgt := 12) d_M_host_7 rfl (fun h => absurd (by decide) h) (fun _ => ?_)
    refine xk_iconst (pc := 10) (v := (-1)) d_M_host_10 (by decide) ?_
    refine xk_iret (pc := 11) rfl d_M_host_11 rfl (Nat.le_of_ble_eq_true rfl) (Nat.le_of_ble_eq_true rfl) ?_
    have e : xs_host s x y = -1 := by unfold xs_host; rw [enf]
    rw [e] at hQ
    exact hQ

theorem xs_nat_less {x : Int32} {k j : Nat} (h : xs_nat x k = none) (hj : j ≤ k) : xs_nat x j = none := by
  have := xs_nat_o h
  exact if_neg (fun z => by omega)

set_option maxRecDepth 20000 in
set_option maxHeartbeats 4000000 in
theorem c_M_log {E : xk_E} {n : Nat} {m : xk_M} {r : xk_P} {Q : xk_Q} {x : Int32} {s : xs_S} (hn : 74 ≤ n) (hS : xr_S r n) (hA : xm_A s m) (hok : xs_ok s) (hsm : s.1.1.2.2.2.2.1 + 4 < 2 ^ 20) (hQ : Q (some (.inl (xs_log s x))) n m r) : xk_W E m_M_log 0 (xk_ent m_M_log [.inr (some 53), .inl x]) [] n m r 0 0 Q := by
  show xk_W E m_M_log 0 [some (.inr (some 53)), some (.inl x)] [] n m r 0 0 Q
  obtain ⟨hF, hP, hO, hT⟩ := id hA
  obtain ⟨okF, okP, okO, okT⟩ := id hok
  have hb := okO.1
  have h6 := xm_h6 okO okT
  have hkw := xm_kw okO
  refine xk_iload_n (pc := 0) d_M_log_0 rfl ?_
  refine xk_iconst (pc := 1) (v := nI 0) d_M_log_1 (by decide) ?_
  refine xk_bipush (pc := 2) (v := nI 15) d_M_log_2 (by decide) ?_
  refine xk_cS3 (pc := 4) d_M_log_4 ml_M_78 cz_M_in ⟨rfl, rfl⟩ rfl (Nat.le_of_ble_eq_true rfl) ⟨(Nat.le_of_ble_eq_true rfl), (Nat.le_of_ble_eq_true rfl)⟩ ?_
  refine c_M_in (lo := 0) (hi := 15) (by decide) (by decide) (fun i _ hi ei => ?_) (fun eni => ?_)
  · subst ei
    have eni := xs_nat_nI (k := 16) (show i < 16 by omega) (by decide)
    refine xk_if_eq (pc := 7) (tgt := 27) d_M_log_7 rfl (fun h => absurd h (by decide)) (fun _ => ?_)
    refine xk_iload_n (pc := 10) d_M_log_10 rfl ?_
    refine xk_aload_n (pc := 11) d_M_log_11 rfl ?_
    refine xk_getIo (pc := 12) d_M_log_12 fl_M_92 (by first | rfl | assumption) rfl (by omega) (by omega) hF.1.2.2.2.2.1 ?_
    first | refine xk_icmp_geN (pc := 15) (tgt := 27) d_M_log_15 rfl (by omega) (by omega) (fun c_15 => ?_) (fun c_15 => ?_) | refine xk_icmp_ge (pc := 15) (tgt := 27) d_M_log_15 rfl (fun c_15 => ?_) (fun c_15 => ?_)
    · refine xk_iconst (pc := 27) (v := (-1)) d_M_log_27 (by decide) ?_
      refine xk_iret (pc := 28) rfl d_M_log_28 rfl (Nat.le_of_ble_eq_true rfl) (Nat.le_of_ble_eq_true rfl) ?_
      have e0 : ∀ x, xs_log s x = match xs_nat x (min s.1.1.2.2.2.2.1 16) with | none => -1 | some i => s.1.1.2.2.2.1 i := fun _ => rfl
      first
        | (have eni2 : xs_nat (nI i) (min s.1.1.2.2.2.2.1 16) = some i := xs_nat_nI (by omega) (by omega)
           rw [e0, eni2] at hQ
           exact hQ)
        | (have eni2 : xs_nat (nI i) (min s.1.1.2.2.2.2.1 16) = none := xs_nat_ge (by omega) (nI_le (by omega) (by omega))
           rw [e0, eni2] at hQ
           exact hQ)
        | (have eni2 := xs_nat_less (j := min s.1.1.2.2.2.2.1 16) eni (by omega)
           rw [e0, eni2] at hQ
           exact hQ)
    · refine xk_aload_n (pc := 18) d_M_log_18 rfl ?_
      refine xk_getRo (pc := 19) d_M_log_19 fl_M_68 (by first | rfl | assumption) rfl (by omega) (by omega) (hS _ _ _ rfl (by omega)) ?_
      refine xk_iload_n (pc := 22) d_M_log_22 rfl ?_
      refine xk_ialoado (pc := 23) d_M_log_23 (by first | rfl | assumption) (by omega) (by omega) rfl (by omega) (by decide) (hF.1.2.2.2.1 i (by omega) (by omega)) ?_
      refine xk_goto (pc := 24) (tgt := 28) d_M_log_24 rfl ?_
      refine xk_iret (pc := 28) rfl d_M_log_28 rfl (Nat.le_of_ble_eq_true rfl) (Nat.le_of_ble_eq_true rfl) ?_
      have e0 : ∀ x, xs_log s x = match xs_nat x (min s.1.1.2.2.2.2.1 16) with | none => -1 | some i => s.1.1.2.2.2.1 i := fun _ => rfl
      first
        | (have eni2 : xs_nat (nI i) (min s.1.1.2.2.2.2.1 16) = some i := xs_nat_nI (by omega) (by omega)
           rw [e0, eni2] at hQ
           exact hQ)
        | (have eni2 : xs_nat (nI i) (min s.1.1.2.2.2.2.1 16) = none := xs_nat_ge (by omega) (nI_le (by omega) (by omega))
           rw [e0, eni2] at hQ
           exact hQ)
        | (have eni2 := xs_nat_less (j := min s.1.1.2.2.2.2.1 16) eni (by omega)
           rw [e0, eni2] at hQ
           exact hQ)
  · replace eni := xs_nat_out (k := 15) (by decide) eni
    refine xk_if_eq (pc := 7) (tgt := 27) d_M_log_7 rfl (fun _ => ?_) (fun h => absurd (by decide) h)
    refine xk_iconst (pc := 27) (v := (-1)) d_M_log_27 (by decide) ?_
    refine xk_iret (pc := 28) rfl d_M_log_28 rfl (Nat.le_of_ble_eq_true rfl) (Nat.le_of_ble_eq_true rfl) ?_
    have e0 : ∀ x, xs_log s x = match xs_nat x (min s.1.1.2.2.2.2.1 16) with | none => -1 | some i => s.1.1.2.2.2.1 i := fun _ => rfl
    first
      | (have eni2 : xs_nat (nI i) (min s.1.1.2.2.2.2.1 16) = some i := xs_nat_nI (by omega) (by omega)
         rw [e0, eni2] at hQ
         exact hQ)
      | (have eni2 : xs_nat (nI i) (min s.1.1.2.2.2.2.1 16) = none := xs_nat_ge (by omega) (nI_le (by omega) (by omega))
         rw [e0, eni2] at hQ
         exact hQ)
      | (have eni2 := xs_nat_less (j := min s.1.1.2.2.2.2.1 16) eni (by omega)
         rw [e0, eni2] at hQ
         exact hQ)

set_option maxRecDepth 20000 in
set_option maxHeartbeats 4000000 in
theorem c_M_cached {E : xk_E} {n : Nat} {m : xk_M} {r : xk_P} {Q : xk_Q} {x : Int32} {s : xs_S} (hn : 74 ≤ n) (hS : xr_S r n) (hA : xm_A s m) (hok : xs_ok s) (hQ : Q (some (.inl (xs_cached s x))) n m r) : xk_W E m_M_cached 0 (xk_ent m_M_cached [.inr (some 53), .inl x]) [] n m r 0 0 Q := by
  show xk_W E m_M_cached 0 [some (.inr (some 53)), some (.inl x)] [] n m r 0 0 Q
  obtain ⟨hF, hP, hO, hT⟩ := id hA
  obtain ⟨okF, okP, okO, okT⟩ := id hok
  have hb := okO.1
  have h6 := xm_h6 okO okT
  have hkw := xm_kw okO
  refine xk_iload_n (pc := 0) d_M_cached_0 rfl ?_
  refine xk_if_lt (pc := 1) (tgt := 37) d_M_cached_1 rfl (fun c_1 => ?_) (fun c_1 => ?_)
  · have eni := xs_nat_lt (k := s.1.2.2.length) c_1
    refine xk_iconst (pc := 37) (v := (-1)) d_M_cached_37 (by decide) ?_
    refine xk_iret (pc := 38) rfl d_M_cached_38 rfl (Nat.le_of_ble_eq_true rfl) (Nat.le_of_ble_eq_true rfl) ?_
    have e0 : ∀ x, xs_cached s x = match xs_nat x s.1.2.2.length with | none => -1 | some i => (match s.1.2.2[i]? with | none => -1 | some x => nI (x.1 + 8 * x.2.1 + (if x.2.2.1 = true then 32 else 0))) := fun _ => rfl
    rw [e0, eni] at hQ
    first | (change Q (some (.inl (match s.1.2.2[i]? with | none => -1 | some x => nI (x.1 + 8 * x.2.1 + (if x.2.2.1 = true then 32 else 0))))) n m r at hQ; rw [hx] at hQ; change Q (some (.inl (nI (x.1 + 8 * x.2.1 + (if x.2.2.1 = true then 32 else 0))))) n m r at hQ; rw [hd] at hQ; exact hQ) | exact hQ
  · have hl5 := hF.2.2.2.1
    refine xk_iload_n (pc := 4) d_M_cached_4 rfl ?_
    refine xk_aload_n (pc := 5) d_M_cached_5 rfl ?_
    refine xk_getIo (pc := 6) d_M_cached_6 fl_M_74 (by first | rfl | assumption) rfl (by omega) (by omega) hF.2.2.1 ?_
    first | refine xk_icmp_geN (pc := 9) (tgt := 37) d_M_cached_9 rfl (by omega) (by omega) (fun c_9 => ?_) (fun c_9 => ?_) | refine xk_icmp_ge (pc := 9) (tgt := 37) d_M_cached_9 rfl (fun c_9 => ?_) (fun c_9 => ?_)
    · have eni := xs_nat_ge (k := s.1.2.2.length) (by omega) c_9
      refine xk_iconst (pc := 37) (v := (-1)) d_M_cached_37 (by decide) ?_
      refine xk_iret (pc := 38) rfl d_M_cached_38 rfl (Nat.le_of_ble_eq_true rfl) (Nat.le_of_ble_eq_true rfl) ?_
      have e0 : ∀ x, xs_cached s x = match xs_nat x s.1.2.2.length with | none => -1 | some i => (match s.1.2.2[i]? with | none => -1 | some x => nI (x.1 + 8 * x.2.1 + (if x.2.2.1 = true then 32 else 0))) := fun _ => rfl
      rw [e0, eni] at hQ
      first | (change Q (some (.inl (match s.1.2.2[i]? with | none => -1 | some x => nI (x.1 + 8 * x.2.1 + (if x.2.2.1 = true then 32 else 0))))) n m r at hQ; rw [hx] at hQ; change Q (some (.inl (nI (x.1 + 8 * x.2.1 + (if x.2.2.1 = true then 32 else 0))))) n m r at hQ; rw [hd] at hQ; exact hQ) | exact hQ
    · obtain ⟨i, hi, ei, eni⟩ := xs_nat_in (k := s.1.2.2.length) (by omega) c_1 c_9
      subst ei
      obtain ⟨x, hx⟩ := xs_get_lt hi
      obtain ⟨g0, g1, g2⟩ := hF.2.2.2.2 i x hx
      refine xk_aload_n (pc := 12) d_M_cached_12 rfl ?_
      refine xk_getRo (pc := 13) d_M_cached_13 fl_M_26 (by first | rfl | assumption) rfl (by omega) (by omega) (hS _ _ _ rfl (by omega)) ?_
      refine xk_iload_n (pc := 16) d_M_cached_16 rfl ?_
      refine xk_ialoado (pc := 17) d_M_cached_17 (by first | rfl | assumption) (by omega) (by omega) rfl (by omega) (by decide) g0 ?_
      refine xk_aload_n (pc := 18) d_M_cached_18 rfl ?_
      refine xk_getRo (pc := 19) d_M_cached_19 fl_M_29 (by first | rfl | assumption) rfl (by omega) (by omega) (hS _ _ _ rfl (by omega)) ?_
      refine xk_iload_n (pc := 22) d_M_cached_22 rfl ?_
      refine xk_baloado (pc := 23) d_M_cached_23 (by first | rfl | assumption) (by omega) (by omega) rfl (by omega) (by decide) g1 ?_
      first | refine xk_if_eqN (pc := 24) (tgt := 32) d_M_cached_24 rfl (by omega) (fun c_24 => ?_) (fun c_24 => ?_) | refine xk_if_eq (pc := 24) (tgt := 32) d_M_cached_24 rfl (fun c_24 => ?_) (fun c_24 => ?_)
      · have hd := xs_bi_z.mp c_24
        refine xk_iconst (pc := 32) (v := nI 0) d_M_cached_32 (by decide) ?_
        first | refine xk_iaddN (pc := 33) d_M_cached_33 ?_ | refine xk_iadd (pc := 33) d_M_cached_33 ?_
        refine xk_goto (pc := 34) (tgt := 38) d_M_cached_34 rfl ?_
        refine xk_iret (pc := 38) rfl d_M_cached_38 rfl (Nat.le_of_ble_eq_true rfl) (Nat.le_of_ble_eq_true rfl) ?_
        have e0 : ∀ x, xs_cached s x = match xs_nat x s.1.2.2.length with | none => -1 | some i => (match s.1.2.2[i]? with | none => -1 | some x => nI (x.1 + 8 * x.2.1 + (if x.2.2.1 = true then 32 else 0))) := fun _ => rfl
        rw [e0, eni] at hQ
        first | (change Q (some (.inl (match s.1.2.2[i]? with | none => -1 | some x => nI (x.1 + 8 * x.2.1 + (if x.2.2.1 = true then 32 else 0))))) n m r at hQ; rw [hx] at hQ; change Q (some (.inl (nI (x.1 + 8 * x.2.1 + (if x.2.2.1 = true then 32 else 0))))) n m r at hQ; rw [hd] at hQ; exact hQ) | exact hQ
      · have hd := xs_bi_nz c_24
        refine xk_bipush (pc := 27) (v := nI 32) d_M_cached_27 (by decide) ?_
        refine xk_goto (pc := 29) (tgt := 33) d_M_cached_29 rfl ?_
        first | refine xk_iaddN (pc := 33) d_M_cached_33 ?_ | refine xk_iadd (pc := 33) d_M_cached_33 ?_
        refine xk_goto (pc := 34) (tgt := 38) d_M_cached_34 rfl ?_
        refine xk_iret (pc := 38) rfl d_M_cached_38 rfl (Nat.le_of_ble_eq_true rfl) (Nat.le_of_ble_eq_true rfl) ?_
        have e0 : ∀ x, xs_cached s x = match xs_nat x s.1.2.2.length with | none => -1 | some i => (match s.1.2.2[i]? with | none => -1 | some x => nI (x.1 + 8 * x.2.1 + (if x.2.2.1 = true then 32 else 0))) := fun _ => rfl
        rw [e0, eni] at hQ
        first | (change Q (some (.inl (match s.1.2.2[i]? with | none => -1 | some x => nI (x.1 + 8 * x.2.1 + (if x.2.2.1 = true then 32 else 0))))) n m r at hQ; rw [hx] at hQ; change Q (some (.inl (nI (x.1 + 8 * x.2.1 + (if x.2.2.1 = true then 32 else 0))))) n m r at hQ; rw [hd] at hQ; exact hQ) | exact hQ
