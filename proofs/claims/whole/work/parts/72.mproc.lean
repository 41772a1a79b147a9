set_option maxRecDepth 20000 in
set_option maxHeartbeats 4000000 in
theorem l_mpipe {E : xk_E} {n : Nat} {r : xk_P} {Q : xk_Q} {m : xk_M} {O : xs_O} (hO : xm_O O m) (hb : ∀ k o, k < 42 → O.1 k = some o → o < 16) (h6 : ∀ k, k < 6 → O.1 k = none) (hkw : ∀ o, o < 16 → xs_used O o = true → O.2.1 o ≤ 2 ∧ O.2.2.1 o < 16) {q : Nat} {v1 v2 v3 : Option xk_V} (hn : 74 ≤ n) (hS : xr_S r n) (hl : xs_least (fun q => !(xs_end O q 1 || xs_end O q 2)) 0 16 = some q) (hK : xk_W E m_M_pipe 79 [some (.inr (some 53)), v1, v2, v3, some (.inl (nI q))] [] n m r 0 0 Q) : ∀ (k : Nat) (i : Nat), q - i < k → i ≤ q → xk_W E m_M_pipe 53 [some (.inr (some 53)), v1, v2, v3, some (.inl (nI i))] [] n m r 0 0 Q := by
  intro k
  induction k with
  | zero => intro i h; exact absurd h (Nat.not_lt_zero _)
  | succ k ih =>
    intro i hk hi
    obtain ⟨l1, l2, l3, l4⟩ := xs_least_sp hl
    refine xk_aload_n (pc := 53) d_M_pipe_53 rfl ?_
    refine xk_iload (pc := 54) d_M_pipe_54 rfl ?_
    refine xk_iconst (pc := 56) (v := nI 1) d_M_pipe_56 (by decide) ?_
    refine xk_cV2 (pc := 57) d_M_pipe_57 ml_M_126 cz_M_hasEnd ⟨rfl, rfl⟩ rfl (by first | rfl | assumption) (by omega) (by omega) (Nat.le_of_ble_eq_true rfl) ⟨(Nat.le_of_ble_eq_true rfl), (Nat.le_of_ble_eq_true rfl)⟩ ?_
    refine c_M_hasEnd hn hS hO hb h6 hkw (f := i) (e := 1) (by omega) (by decide) (fun e1 => ?_) (fun e1 => ?_)
    · have hiq : i ≠ q := fun z => by subst z; rw [e1] at l3; cases l3
      refine xk_if_ne (pc := 60) (tgt := 73) d_M_pipe_60 rfl (fun _ => ?_) (fun h => absurd h (by decide))
      refine xk_iincN (pc := 73) (d := 1) d_M_pipe_73 rfl ?_
      refine xk_goto (pc := 76) (tgt := 53) d_M_pipe_76 rfl ?_
      exact ih (i + 1) (by omega) (by omega)
    · refine xk_if_ne (pc := 60) (tgt := 73) d_M_pipe_60 rfl (fun h => absurd (by decide) h) (fun _ => ?_)
      refine xk_aload_n (pc := 63) d_M_pipe_63 rfl ?_
      refine xk_iload (pc := 64) d_M_pipe_64 rfl ?_
      refine xk_iconst (pc := 66) (v := nI 2) d_M_pipe_66 (by decide) ?_
      refine xk_cV2 (pc := 67) d_M_pipe_67 ml_M_126 cz_M_hasEnd ⟨rfl, rfl⟩ rfl (by first | rfl | assumption) (by omega) (by omega) (Nat.le_of_ble_eq_true rfl) ⟨(Nat.le_of_ble_eq_true rfl), (Nat.le_of_ble_eq_true rfl)⟩ ?_
      refine c_M_hasEnd hn hS hO hb h6 hkw (f := i) (e := 2) (by omega) (by decide) (fun e2 => ?_) (fun e2 => ?_)
      · have hiq : i ≠ q := fun z => by subst z; rw [e1, e2] at l3; cases l3
        refine xk_if_eq (pc := 70) (tgt := 79) d_M_pipe_70 rfl (fun h => absurd h (by decide)) (fun _ => ?_)
        refine xk_iincN (pc := 73) (d := 1) d_M_pipe_73 rfl ?_
        refine xk_goto (pc := 76) (tgt := 53) d_M_pipe_76 rfl ?_
        exact ih (i + 1) (by omega) (by omega)
      · have hiq : i = q := by
          refine Classical.byContradiction (fun z => ?_)
          have := l4 i (by omega) (by omega)
          rw [e1, e2] at this
          cases this
        subst hiq
        refine xk_if_eq (pc := 70) (tgt := 79) d_M_pipe_70 rfl (fun _ => ?_) (fun h => absurd (by decide) h)
        exact hK

theorem xs_un2 {O : xs_O} {k o1 : Nat} (hk : k < 42) (h0 : O.1 k = none) (hl : xs_least (fun o => !xs_used O o) 0 16 = some o1) (hops : xs_ops O ≤ 14) : ∃ o2, xs_least (fun o => !xs_used (xs_of O k (some o1)) o) 0 16 = some o2 ∧ xs_least (fun o => !xs_used O o) (o1 + 1) (16 - (o1 + 1)) = some o2 := by
  cases h2 : xs_least (fun o => !xs_used O o) (o1 + 1) (16 - (o1 + 1)) with
  | none => have := xs_ops_b hl h2; omega
  | some o2 =>
    refine ⟨o2, ?_, rfl⟩
    obtain ⟨a1, a2, a3, a4⟩ := xs_least_sp hl
    obtain ⟨b1, b2, b3, b4⟩ := xs_least_sp h2
    refine xs_least_s (by omega) (by omega) ?_ (fun j _ hj => ?_)
    · cases hq : xs_used (xs_of O k (some o1)) o2 with
      | false => rfl
      | true =>
        rcases (xs_used_nn hk h0 o2).mp hq with z | z
        · rw [z] at b3; cases b3
        · omega
    · have : xs_used (xs_of O k (some o1)) j = true := by
        refine (xs_used_nn hk h0 j).mpr ?_
        by_cases w : j = o1
        · exact Or.inr w
        · left
          by_cases w2 : j < o1
          · exact xs_nt (a4 j (by omega) w2)
          · exact xs_nt (b4 j (by omega) hj)
      rw [this]
      rfl
theorem xm_O_nil {O : xs_O} {m : xk_M} {q : Nat} (h : xm_O O m) : xm_O (xs_pip O q []) (xk_up m 72 q (nI 0)) :=
  xm_O_pip h (fun a _ _ => xk_up_r (by omega)) (fun k => by
    by_cases e : k = q
    · subst e; rw [if_pos rfl, xk_up_s]; rfl
    · rw [if_neg e, xk_up_k e]) (fun i x hx => by simp at hx) (fun k _ => xk_up_a (by decide))

set_option maxRecDepth 20000 in
set_option maxHeartbeats 4000000 in
theorem c_M_pipe {E : xk_E} {n : Nat} {m : xk_M} {r : xk_P} {Q : xk_Q} {x : Int32} {s : xs_S} (hn : 74 ≤ n) (hS : xr_S r n) (hA : xm_A s m) (hok : xs_ok s) (hsm : s.1.1.2.2.2.2.1 + 4 < 2 ^ 20) (hQ : ∀ m', xm_A (xs_pipe s x).2 m' → xm_fr m m' → Q (some (.inl (xs_pipe s x).1)) n m' r) : xk_W E m_M_pipe 0 (xk_ent m_M_pipe [.inr (some 53), .inl x]) [] n m r 0 0 Q := by
  show xk_W E m_M_pipe 0 [some (.inr (some 53)), some (.inl x), none, none, none] [] n m r 0 0 Q
  obtain ⟨hF, hP, hO, hT⟩ := id hA
  obtain ⟨okF, okP, okO, okT⟩ := id hok
  have hb := okO.1
  have h6 := xm_h6 okO okT
  have hkw := xm_kw okO
  refine xk_aload_n (pc := 0) d_M_pipe_0 rfl ?_
  refine xk_iload_n (pc := 1) d_M_pipe_1 rfl ?_
  refine xk_cV1 (pc := 2) d_M_pipe_2 ml_M_86 cz_M_alive ⟨rfl, rfl⟩ rfl (by first | rfl | assumption) (by omega) (by omega) (Nat.le_of_ble_eq_true rfl) ⟨(Nat.le_of_ble_eq_true rfl), (Nat.le_of_ble_eq_true rfl)⟩ ?_
  refine c_M_alive hn hS hT okT (fun p ep hp hp1 ex et => ?_) (fun ep => ?_)
  · subst ex
    refine xk_if_ne (pc := 5) (tgt := 10) d_M_pipe_5 rfl (fun _ => ?_) (fun h => absurd h (by decide))
    refine xk_aload_n (pc := 10) d_M_pipe_10 rfl ?_
    refine xk_iload_n (pc := 11) d_M_pipe_11 rfl ?_
    refine xk_iconst (pc := 12) (v := nI 0) d_M_pipe_12 (by decide) ?_
    refine xk_cV2 (pc := 13) d_M_pipe_13 ml_M_111 cz_M_free ⟨rfl, rfl⟩ rfl (by first | rfl | assumption) (by omega) (by omega) (Nat.le_of_ble_eq_true rfl) ⟨(Nat.le_of_ble_eq_true rfl), (Nat.le_of_ble_eq_true rfl)⟩ ?_
    refine c_M_free hn hS hO hb hp (by omega) (fun d hd hd6 => ?_) (fun hd => ?_)
    · refine xk_istore_n (pc := 16) d_M_pipe_16 (by decide) ?_
      refine xk_iload_n (pc := 17) d_M_pipe_17 rfl ?_
      refine xk_if_ge (pc := 18) (tgt := 25) d_M_pipe_18 rfl (fun c_18 => ?_) (fun c_18 => ?_)
      · refine xk_aload_n (pc := 25) d_M_pipe_25 rfl ?_
        refine xk_iload_n (pc := 26) d_M_pipe_26 rfl ?_
        refine xk_iload_n (pc := 27) d_M_pipe_27 rfl ?_
        refine xk_iconst (pc := 28) (v := nI 1) d_M_pipe_28 (by decide) ?_
        first | refine xk_iaddN (pc := 29) d_M_pipe_29 ?_ | refine xk_iadd (pc := 29) d_M_pipe_29 ?_
        refine xk_cV2 (pc := 30) d_M_pipe_30 ml_M_111 cz_M_free ⟨rfl, rfl⟩ rfl (by first | rfl | assumption) (by omega) (by omega) (Nat.le_of_ble_eq_true rfl) ⟨(Nat.le_of_ble_eq_true rfl), (Nat.le_of_ble_eq_true rfl)⟩ ?_
        refine c_M_free hn hS hO hb hp (by omega) (fun e he he6 => ?_) (fun he => ?_)
        · refine xk_istore_n (pc := 33) d_M_pipe_33 (by decide) ?_
          refine xk_iload_n (pc := 34) d_M_pipe_34 rfl ?_
          refine xk_if_lt (pc := 35) (tgt := 47) d_M_pipe_35 rfl (fun c_35 => ?_) (fun c_35 => ?_)
          · exact absurd c_35 (xm_nlt0 (by omega))
          · refine xk_aload_n (pc := 38) d_M_pipe_38 rfl ?_
            refine xk_cV0 (pc := 39) d_M_pipe_39 ml_M_115 cz_M_openings ⟨rfl, rfl⟩ rfl (by first | rfl | assumption) (by omega) (by omega) (Nat.le_of_ble_eq_true rfl) ⟨(Nat.le_of_ble_eq_true rfl), (Nat.le_of_ble_eq_true rfl)⟩ ?_
            refine c_M_openings hn hS hO hb h6 ?_
            have hops16 := xs_num_le (p := xs_used s.2.2.1) 16
            change xs_ops s.2.2.1 ≤ 16 at hops16
            refine xk_bipush (pc := 42) (v := nI 14) d_M_pipe_42 (by decide) ?_
            first | refine xk_icmp_leN (pc := 44) (tgt := 50) d_M_pipe_44 rfl (by omega) (by omega) (fun c_44 => ?_) (fun c_44 => ?_) | refine xk_icmp_le (pc := 44) (tgt := 50) d_M_pipe_44 rfl (fun c_44 => ?_) (fun c_44 => ?_)
            · obtain ⟨q, hlq⟩ := xs_pip_free c_44
              obtain ⟨o1, hl1⟩ := xs_un_ex (O := s.2.2.1) (by omega)
              have hfree : s.2.2.1.1 (6 * p + d) = none := of_decide_eq_true (xs_least_sp hd).2.2.1
              obtain ⟨o2, hl2, hl3⟩ := xs_un2 (k := 6 * p + d) (by omega) hfree hl1 c_44
              have hq16 := (xs_least_sp hlq).2.1
              have ho1 := (xs_least_sp hl1).2.1
              have ho2 := (xs_least_sp hl2).2.1
              have hde := (xs_least_sp he).1
              have epi := xs_pipe_s hp ep hd hd6 he (by omega) hlq hl1 hl3
              refine xk_iconst (pc := 50) (v := nI 0) d_M_pipe_50 (by decide) ?_
              refine xk_istore (pc := 51) d_M_pipe_51 (by decide) ?_
              suffices HH : xk_W E m_M_pipe 79 [some (.inr (some 53)), some (.inl (nI p)), some (.inl (nI d)), some (.inl (nI e)), some (.inl (nI q))] [] n m r 0 0 Q by
                exact l_mpipe (E := E) (Q := Q) (v1 := some (.inl (nI p))) (v2 := some (.inl (nI d))) (v3 := some (.inl (nI e))) hO hb h6 hkw hn hS hlq HH (q + 1) 0 (by omega) (by omega)
              refine xk_aload_n (pc := 79) d_M_pipe_79 rfl ?_
              refine xk_getRo (pc := 80) d_M_pipe_80 fl_M_65 (by first | rfl | assumption) rfl (by omega) (by omega) (hS _ _ _ rfl (by omega)) ?_
              refine xk_iload (pc := 83) d_M_pipe_83 rfl ?_
              refine xk_iconst (pc := 85) (v := nI 0) d_M_pipe_85 (by decide) ?_
              refine xk_iastore (pc := 86) d_M_pipe_86 (by first | rfl | assumption) (by omega) (by omega) rfl (by omega) (by decide) ?_
              refine xk_aload_n (pc := 87) d_M_pipe_87 rfl ?_
              refine xk_getRo (pc := 88) d_M_pipe_88 fl_M_47 (by first | rfl | assumption) rfl (by omega) (by omega) (hS _ _ _ rfl (by omega)) ?_
              refine xk_bipush (pc := 91) (v := nI 6) d_M_pipe_91 (by decide) ?_
              refine xk_iload_n (pc := 93) d_M_pipe_93 rfl ?_
              first | refine xk_imulN (pc := 94) d_M_pipe_94 ?_ | refine xk_imul (pc := 94) d_M_pipe_94 ?_
              refine xk_iload_n (pc := 95) d_M_pipe_95 rfl ?_
              first | refine xk_iaddN (pc := 96) d_M_pipe_96 ?_ | refine xk_iadd (pc := 96) d_M_pipe_96 ?_
              refine xk_aload_n (pc := 97) d_M_pipe_97 rfl ?_
              refine xk_iconst (pc := 98) (v := nI 1) d_M_pipe_98 (by decide) ?_
              refine xk_iload (pc := 99) d_M_pipe_99 rfl ?_
              refine xk_iconst (pc := 101) (v := nI 1) d_M_pipe_101 (by decide) ?_
              refine xk_cV3 (pc := 102) d_M_pipe_102 ml_M_122 cz_M_newOpening ⟨rfl, rfl⟩ rfl (by first | rfl | assumption) (by omega) (by omega) (Nat.le_of_ble_eq_true rfl) ⟨(Nat.le_of_ble_eq_true rfl), (Nat.le_of_ble_eq_true rfl)⟩ ?_
              have hO1 := xm_O_nil (q := q) hO
              refine c_M_newOpening (v1 := nI 1) (v2 := nI q) (v3 := nI 1) hn hS hO1 hb h6 hl1 ?_
              refine xk_iastore (pc := 105) d_M_pipe_105 (by first | rfl | assumption) (by omega) (by omega) rfl (by omega) (by decide) ?_
              refine xk_aload_n (pc := 106) d_M_pipe_106 rfl ?_
              refine xk_getRo (pc := 107) d_M_pipe_107 fl_M_47 (by first | rfl | assumption) rfl (by omega) (by omega) (hS _ _ _ rfl (by omega)) ?_
              refine xk_bipush (pc := 110) (v := nI 6) d_M_pipe_110 (by decide) ?_
              refine xk_iload_n (pc := 112) d_M_pipe_112 rfl ?_
              first | refine xk_imulN (pc := 113) d_M_pipe_113 ?_ | refine xk_imul (pc := 113) d_M_pipe_113 ?_
              refine xk_iload_n (pc := 114) d_M_pipe_114 rfl ?_
              first | refine xk_iaddN (pc := 115) d_M_pipe_115 ?_ | refine xk_iadd (pc := 115) d_M_pipe_115 ?_
              refine xk_aload_n (pc := 116) d_M_pipe_116 rfl ?_
              refine xk_iconst (pc := 117) (v := nI 2) d_M_pipe_117 (by decide) ?_
              refine xk_iload (pc := 118) d_M_pipe_118 rfl ?_
              refine xk_iconst (pc := 120) (v := nI 2) d_M_pipe_120 (by decide) ?_
              refine xk_cV3 (pc := 121) d_M_pipe_121 ml_M_122 cz_M_newOpening ⟨rfl, rfl⟩ rfl (by first | rfl | assumption) (by omega) (by omega) (Nat.le_of_ble_eq_true rfl) ⟨(Nat.le_of_ble_eq_true rfl), (Nat.le_of_ble_eq_true rfl)⟩ ?_
              have hO2 := xm_O_of (k := 6 * p + d) (v := some o1) (xm_O_new (o := o1) (k := 1) (w := q) (md := 1) hO1)
              refine c_M_newOpening (v1 := nI 2) (v2 := nI q) (v3 := nI 2) hn hS hO2 (fun k o hk z => ?_) (fun k hk => ?_) hl2 ?_
              · have z' : xs_u s.2.2.1.1 (6 * p + d) (some o1) k = some o := z
                by_cases w : k = 6 * p + d
                · subst w; rw [xs_u_s] at z'; cases z'; omega
                · rw [xs_u_n w] at z'; exact hb k o hk z'
              · show xs_u s.2.2.1.1 (6 * p + d) (some o1) k = none
                rw [xs_u_n (by omega)]; exact h6 k hk
              refine xk_iastore (pc := 124) d_M_pipe_124 (by first | rfl | assumption) (by omega) (by omega) rfl (by omega) (by decide) ?_
              refine xk_iload_n (pc := 125) d_M_pipe_125 rfl ?_
              refine xk_bipush (pc := 126) (v := nI 8) d_M_pipe_126 (by decide) ?_
              refine xk_iload_n (pc := 128) d_M_pipe_128 rfl ?_
              first | refine xk_imulN (pc := 129) d_M_pipe_129 ?_ | refine xk_imul (pc := 129) d_M_pipe_129 ?_
              first | refine xk_iaddN (pc := 130) d_M_pipe_130 ?_ | refine xk_iadd (pc := 130) d_M_pipe_130 ?_
              refine xk_iret (pc := 131) rfl d_M_pipe_131 rfl (Nat.le_of_ble_eq_true rfl) (Nat.le_of_ble_eq_true rfl) ?_
              refine xqm_t epi (xm_A_O hA (xm_O_of (k := 6 * p + e) (v := some o2) (xm_O_new (o := o2) (k := 2) (w := q) (md := 2) hO2)) (fun a ha => ?_)) (fun a ha => ?_) hQ
              · rw [xk_up_r (by omega), xk_up_r (by omega), xk_up_r (by omega), xk_up_r (by omega), xk_up_r (by omega), xk_up_r (by omega), xk_up_r (by omega), xk_up_r (by omega), xk_up_r (by omega), xk_up_r (by omega), xk_up_r (by omega)]
              · rw [xk_up_r (by omega), xk_up_r (by omega), xk_up_r (by omega), xk_up_r (by omega), xk_up_r (by omega), xk_up_r (by omega), xk_up_r (by omega), xk_up_r (by omega), xk_up_r (by omega), xk_up_r (by omega), xk_up_r (by omega)]
            · refine xk_bipush (pc := 47) (v := (-2)) d_M_pipe_47 (by decide) ?_
              refine xk_iret (pc := 49) rfl d_M_pipe_49 rfl (Nat.le_of_ble_eq_true rfl) (Nat.le_of_ble_eq_true rfl) ?_
              first | exact xqm_s (xs_pipe_2 ep hd) hA hQ | exact xqm_s (xs_pipe_3 ep hd he) hA hQ | exact xqm_s (xs_pipe_4 ep hd he (by omega)) hA hQ
        · refine xk_istore_n (pc := 33) d_M_pipe_33 (by decide) ?_
          refine xk_iload_n (pc := 34) d_M_pipe_34 rfl ?_
          refine xk_if_lt (pc := 35) (tgt := 47) d_M_pipe_35 rfl (fun _ => ?_) (fun h => absurd (by decide) h)
          refine xk_bipush (pc := 47) (v := (-2)) d_M_pipe_47 (by decide) ?_
          refine xk_iret (pc := 49) rfl d_M_pipe_49 rfl (Nat.le_of_ble_eq_true rfl) (Nat.le_of_ble_eq_true rfl) ?_
          first | exact xqm_s (xs_pipe_2 ep hd) hA hQ | exact xqm_s (xs_pipe_3 ep hd he) hA hQ | exact xqm_s (xs_pipe_4 ep hd he (by omega)) hA hQ
      · exact absurd (xm_ge0 (by omega)) c_18
    · refine xk_istore_n (pc := 16) d_M_pipe_16 (by decide) ?_
      refine xk_iload_n (pc := 17) d_M_pipe_17 rfl ?_
      refine xk_if_ge (pc := 18) (tgt := 25) d_M_pipe_18 rfl (fun h => absurd h (by decide)) (fun _ => ?_)
      refine xk_iconst (pc := 21) (v := (-1)) d_M_pipe_21 (by decide) ?_
      refine xk_goto (pc := 22) (tgt := 33) d_M_pipe_22 rfl ?_
      refine xk_istore_n (pc := 33) d_M_pipe_33 (by decide) ?_
      refine xk_iload_n (pc := 34) d_M_pipe_34 rfl ?_
      refine xk_if_lt (pc := 35) (tgt := 47) d_M_pipe_35 rfl (fun _ => ?_) (fun h => absurd (by decide) h)
      refine xk_bipush (pc := 47) (v := (-2)) d_M_pipe_47 (by decide) ?_
      refine xk_iret (pc := 49) rfl d_M_pipe_49 rfl (Nat.le_of_ble_eq_true rfl) (Nat.le_of_ble_eq_true rfl) ?_
      first | exact xqm_s (xs_pipe_2 ep hd) hA hQ | exact xqm_s (xs_pipe_3 ep hd he) hA hQ | exact xqm_s (xs_pipe_4 ep hd he (by omega)) hA hQ
  · refine xk_if_ne (pc := 5) (tgt := 10) d_M_pipe_5 rfl (fun h => absurd (by decide) h) (fun _ => ?_)
    refine xk_iconst (pc := 8) (v := (-1)) d_M_pipe_8 (by decide) ?_
    refine xk_iret (pc := 9) rfl d_M_pipe_9 rfl (Nat.le_of_ble_eq_true rfl) (Nat.le_of_ble_eq_true rfl) ?_
    exact xqm_s (show xs_pipe s x = (-1, s) by unfold xs_pipe; rw [ep]) hA hQ

set_option maxRecDepth 20000 in
set_option maxHeartbeats 4000000 in
theorem l_mfork1 {E : xk_E} {n : Nat} {r : xk_P} {Q : xk_Q} {m : xk_M} {T : xs_T} {v1 v3 : Option xk_V} (hn : 74 ≤ n) (hS : xr_S r n) (hT : xm_T T m) (hK : ∀ i, 1 ≤ i → i ≤ 7 → (∀ j, 1 ≤ j → j < i → T.1 j ≠ 0) → (i < 7 → T.1 i = 0) → xk_W E m_M_fork 33 [some (.inr (some 53)), v1, some (.inl (nI i)), v3] [] n m r 0 0 Q) : ∀ (k : Nat) (i : Nat), 7 - i < k → 1 ≤ i → i ≤ 7 → (∀ j, 1 ≤ j → j < i → T.1 j ≠ 0) → xk_W E m_M_fork 12 [some (.inr (some 53)), v1, some (.inl (nI i)), v3] [] n m r 0 0 Q := by
  intro k
  induction k with
  | zero => intro i h; exact absurd h (Nat.not_lt_zero _)
  | succ k ih =>
    intro i hk hi1 hi hj
    refine xk_iload_n (pc := 12) d_M_fork_12 rfl ?_
    refine xk_bipush (pc := 13) (v := nI 7) d_M_fork_13 (by decide) ?_
    first | refine xk_icmp_geN (pc := 15) (tgt := 33) d_M_fork_15 rfl (by omega) (by omega) (fun c_15 => ?_) (fun c_15 => ?_) | refine xk_icmp_ge (pc := 15) (tgt := 33) d_M_fork_15 rfl (fun c_15 => ?_) (fun c_15 => ?_)
    · exact hK i hi1 hi hj (fun z => by omega)
    · refine xk_aload_n (pc := 18) d_M_fork_18 rfl ?_
      refine xk_getRo (pc := 19) d_M_fork_19 fl_M_35 (by first | rfl | assumption) rfl (by omega) (by omega) (hS _ _ _ rfl (by omega)) ?_
      refine xk_iload_n (pc := 22) d_M_fork_22 rfl ?_
      refine xk_baloado (pc := 23) d_M_fork_23 (by first | rfl | assumption) (by omega) (by omega) rfl (by omega) (by decide) (hT.1 i c_15) ?_
      first | refine xk_if_eqN (pc := 24) (tgt := 33) d_M_fork_24 rfl (by omega) (fun c_24 => ?_) (fun c_24 => ?_) | refine xk_if_eq (pc := 24) (tgt := 33) d_M_fork_24 rfl (fun c_24 => ?_) (fun c_24 => ?_)
      · have c_25 : T.1 i = 0 := Classical.byContradiction (of_decide_eq_false (xs_bi_z.mp c_24))
        exact hK i hi1 hi hj (fun _ => c_25)
      · have c_25 := of_decide_eq_true (xs_bi_nz c_24)
        refine xk_iincN (pc := 27) (d := 1) d_M_fork_27 rfl ?_
        refine xk_goto (pc := 30) (tgt := 12) d_M_fork_30 rfl ?_
        exact ih (i + 1) (by omega) (by omega) (by omega) (fun j a b => by
          by_cases q : j = i
          · subst q; exact c_25
          · exact hj j a (by omega))

set_option maxRecDepth 20000 in
set_option maxHeartbeats 4000000 in
theorem l_mfork2 {E : xk_E} {n : Nat} {r : xk_P} {Q : xk_Q} {m : xk_M} {p q : Nat} (hn : 74 ≤ n) (hS : xr_S r n) (hp : p < 7) (hq : q < 7) (hpq : p ≠ q) (hQ : Q (some (.inl (nI q))) n (xk_fn m 66 (6 * q) 6 (fun d => m 66 (6 * p + d))) r) : ∀ (k : Nat) (i : Nat), 6 - i < k → i ≤ 6 → xk_W E m_M_fork 65 [some (.inr (some 53)), some (.inl (nI p)), some (.inl (nI q)), some (.inl (nI i))] [] n (xk_fn m 66 (6 * q) i (fun d => m 66 (6 * p + d))) r 0 0 Q := by
  intro k
  induction k with
  | zero => intro i h; exact absurd h (Nat.not_lt_zero _)
  | succ k ih =>
    intro i hk hi
    refine xk_iload_n (pc := 65) d_M_fork_65 rfl ?_
    refine xk_bipush (pc := 66) (v := nI 6) d_M_fork_66 (by decide) ?_
    first | refine xk_icmp_geN (pc := 68) (tgt := 99) d_M_fork_68 rfl (by omega) (by omega) (fun c_68 => ?_) (fun c_68 => ?_) | refine xk_icmp_ge (pc := 68) (tgt := 99) d_M_fork_68 rfl (fun c_68 => ?_) (fun c_68 => ?_)
    · have e : i = 6 := by omega
      subst e
      refine xk_iload_n (pc := 99) d_M_fork_99 rfl ?_
      refine xk_iret (pc := 100) rfl d_M_fork_100 rfl (Nat.le_of_ble_eq_true rfl) (Nat.le_of_ble_eq_true rfl) ?_
      exact hQ
    · refine xk_aload_n (pc := 71) d_M_fork_71 rfl ?_
      refine xk_getRo (pc := 72) d_M_fork_72 fl_M_47 (by first | rfl | assumption) rfl (by omega) (by omega) (hS _ _ _ rfl (by omega)) ?_
      refine xk_bipush (pc := 75) (v := nI 6) d_M_fork_75 (by decide) ?_
      refine xk_iload_n (pc := 77) d_M_fork_77 rfl ?_
      first | refine xk_imulN (pc := 78) d_M_fork_78 ?_ | refine xk_imul (pc := 78) d_M_fork_78 ?_
      refine xk_iload_n (pc := 79) d_M_fork_79 rfl ?_
      first | refine xk_iaddN (pc := 80) d_M_fork_80 ?_ | refine xk_iadd (pc := 80) d_M_fork_80 ?_
      refine xk_aload_n (pc := 81) d_M_fork_81 rfl ?_
      refine xk_getRo (pc := 82) d_M_fork_82 fl_M_47 (by first | rfl | assumption) rfl (by omega) (by omega) (hS _ _ _ rfl (by omega)) ?_
      refine xk_bipush (pc := 85) (v := nI 6) d_M_fork_85 (by decide) ?_
      refine xk_iload_n (pc := 87) d_M_fork_87 rfl ?_
      first | refine xk_imulN (pc := 88) d_M_fork_88 ?_ | refine xk_imul (pc := 88) d_M_fork_88 ?_
      refine xk_iload_n (pc := 89) d_M_fork_89 rfl ?_
      first | refine xk_iaddN (pc := 90) d_M_fork_90 ?_ | refine xk_iadd (pc := 90) d_M_fork_90 ?_
      refine xk_ialoado (pc := 91) d_M_fork_91 (by first | rfl | assumption) (by omega) (by omega) rfl (by omega) (by decide) (xk_fn_n (by omega)) ?_
      refine xk_iastore (pc := 92) d_M_fork_92 (by first | rfl | assumption) (by omega) (by omega) rfl (by omega) (by decide) ?_
      rw [xk_fn_s (g := fun d => m 66 (6 * p + d)) rfl]
      refine xk_iincN (pc := 93) (d := 1) d_M_fork_93 rfl ?_
      refine xk_goto (pc := 96) (tgt := 65) d_M_fork_96 rfl ?_
      exact ih (i + 1) (by omega) (by omega)

theorem xs_fork_s {s : xs_S} {a : Int32} {p q : Nat} (h : xs_alive s.2.2.2 a = some p) (h2 : xs_least (fun q => decide (s.2.2.2.1 q = 0)) 1 6 = some q) : xs_fork s a = (nI q, (s.1, s.2.1, xs_share s.2.2.1 q p, xs_u s.2.2.2.1 q 1, xs_u s.2.2.2.2.1 q p, s.2.2.2.2.2)) := by
  unfold xs_fork
  rw [h]
  dsimp only
  rw [h2]
theorem xs_fork_n {s : xs_S} {a : Int32} {p : Nat} (h : xs_alive s.2.2.2 a = some p) (h2 : xs_least (fun q => decide (s.2.2.2.1 q = 0)) 1 6 = none) : xs_fork s a = (-2, s) := by
  unfold xs_fork
  rw [h]
  dsimp only
  rw [h2]
theorem xm_O_66 {O O' : xs_O} {m m' : xk_M} (h : xm_O O m) (e : O'.2 = O.2) (h1 : ∀ k, k < 42 → m' 66 k = xm_oi (O'.1 k)) (hm : ∀ a, 67 ≤ a → a < 73 → m' a = m a) : xm_O O' m' := by
  obtain ⟨O1, O2⟩ := O'
  change O2 = O.2 at e
  subst e
  obtain ⟨_, h2, h3, h4, h5, h6, h7⟩ := h
  refine ⟨h1, ?_, ?_, ?_, ?_, ?_, ?_⟩
  · rw [hm 67 (by decide) (by decide)]; exact h2
  · rw [hm 68 (by decide) (by decide)]; exact h3
  · rw [hm 69 (by decide) (by decide)]; exact h4
  · rw [hm 70 (by decide) (by decide)]; exact h5
  · rw [hm 72 (by decide) (by decide)]; exact h6
  · rw [hm 71 (by decide) (by decide)]; exact h7
theorem xm_A_T {s : xs_S} {m m' : xk_M} {O' : xs_O} {T' : xs_T} (hA : xm_A s m) (hO' : xm_O O' m') (hT' : xm_T T' m') (hm : ∀ a, (a < 62 ∨ 73 ≤ a) → m' a = m a) : xm_A (s.1, s.2.1, O', T') m' :=
  ⟨xm_F_kept hA.1 (fun a _ => hm a (by omega)) (hm _ (by omega)), xm_P_kept hA.2.1 (hm 58 (by omega)), hO', hT'⟩

set_option maxRecDepth 20000 in
set_option maxHeartbeats 4000000 in
theorem c_M_fork {E : xk_E} {n : Nat} {m : xk_M} {r : xk_P} {Q : xk_Q} {x : Int32} {s : xs_S} (hn : 74 ≤ n) (hS : xr_S r n) (hA : xm_A s m) (hok : xs_ok s) (hsm : s.1.1.2.2.2.2.1 + 4 < 2 ^ 20) (hQ : ∀ m', xm_A (xs_fork s x).2 m' → xm_fr m m' → Q (some (.inl (xs_fork s x).1)) n m' r) : xk_W E m_M_fork 0 (xk_ent m_M_fork [.inr (some 53), .inl x]) [] n m r 0 0 Q := by
  show xk_W E m_M_fork 0 [some (.inr (some 53)), some (.inl x), none, none] [] n m r 0 0 Q
  obtain ⟨hF, hP, hO, hT⟩ := id hA
  obtain ⟨okF, okP, okO, okT⟩ := id hok
  have hb := okO.1
  have h6 := xm_h6 okO okT
  have hkw := xm_kw okO
  refine xk_aload_n (pc := 0) d_M_fork_0 rfl ?_
  refine xk_iload_n (pc := 1) d_M_fork_1 rfl ?_
  refine xk_cV1 (pc := 2) d_M_fork_2 ml_M_86 cz_M_alive ⟨rfl, rfl⟩ rfl (by first | rfl | assumption) (by omega) (by omega) (Nat.le_of_ble_eq_true rfl) ⟨(Nat.le_of_ble_eq_true rfl), (Nat.le_of_ble_eq_true rfl)⟩ ?_
  refine c_M_alive hn hS hT okT (fun p ep hp hp1 ex et => ?_) (fun ep => ?_)
  · subst ex
    refine xk_if_ne (pc := 5) (tgt := 10) d_M_fork_5 rfl (fun _ => ?_) (fun h => absurd h (by decide))
    refine xk_iconst (pc := 10) (v := nI 1) d_M_fork_10 (by decide) ?_
    refine xk_istore_n (pc := 11) d_M_fork_11 (by decide) ?_
    suffices HH : ∀ q, 1 ≤ q → q ≤ 7 → (∀ j, 1 ≤ j → j < q → s.2.2.2.1 j ≠ 0) → (q < 7 → s.2.2.2.1 q = 0) → xk_W E m_M_fork 33 [some (.inr (some 53)), some (.inl (nI p)), some (.inl (nI q)), none] [] n m r 0 0 Q by
      exact l_mfork1 (E := E) (Q := Q) (v1 := some (.inl (nI p))) (v3 := none) hn hS hT HH 7 1 (by omega) (by omega) (by omega) (fun j a b => by omega)
    intro q hq1 hq7' hqj hqz
    refine xk_iload_n (pc := 33) d_M_fork_33 rfl ?_
    refine xk_bipush (pc := 34) (v := nI 7) d_M_fork_34 (by decide) ?_
    first | refine xk_icmp_neN (pc := 36) (tgt := 42) d_M_fork_36 rfl (by omega) (by omega) (fun c_36 => ?_) (fun c_36 => ?_) | refine xk_icmp_ne (pc := 36) (tgt := 42) d_M_fork_36 rfl (fun c_36 => ?_) (fun c_36 => ?_)
    · have hq7 : q < 7 := by omega
      have hq0 := hqz hq7
      have els : xs_least (fun q => decide (s.2.2.2.1 q = 0)) 1 6 = some q := xs_least_s hq1 (by omega) (decide_eq_true hq0) (fun j a b => decide_eq_false (hqj j a b))
      have hpq : p ≠ q := fun z => by subst z; rw [et] at hq0; cases hq0
      have hq2 : q ≠ 1 := fun z => by subst z; rw [okT.2.1] at hq0; cases hq0
      refine xk_aload_n (pc := 42) d_M_fork_42 rfl ?_
      refine xk_getRo (pc := 43) d_M_fork_43 fl_M_35 (by first | rfl | assumption) rfl (by omega) (by omega) (hS _ _ _ rfl (by omega)) ?_
      refine xk_iload_n (pc := 46) d_M_fork_46 rfl ?_
      refine xk_iconst (pc := 47) (v := nI 1) d_M_fork_47 (by decide) ?_
      refine xk_bastore (pc := 48) d_M_fork_48 (by first | rfl | assumption) (by omega) (by omega) rfl (by omega) (by decide) rfl ?_
      refine xk_aload_n (pc := 49) d_M_fork_49 rfl ?_
      refine xk_getRo (pc := 50) d_M_fork_50 fl_M_38 (by first | rfl | assumption) rfl (by omega) (by omega) (hS _ _ _ rfl (by omega)) ?_
      refine xk_iload_n (pc := 53) d_M_fork_53 rfl ?_
      refine xk_iconst (pc := 54) (v := nI 0) d_M_fork_54 (by decide) ?_
      refine xk_bastore (pc := 55) d_M_fork_55 (by first | rfl | assumption) (by omega) (by omega) rfl (by omega) (by decide) rfl ?_
      refine xk_aload_n (pc := 56) d_M_fork_56 rfl ?_
      refine xk_getRo (pc := 57) d_M_fork_57 fl_M_41 (by first | rfl | assumption) rfl (by omega) (by omega) (hS _ _ _ rfl (by omega)) ?_
      refine xk_iload_n (pc := 60) d_M_fork_60 rfl ?_
      refine xk_iload_n (pc := 61) d_M_fork_61 rfl ?_
      refine xk_iastore (pc := 62) d_M_fork_62 (by first | rfl | assumption) (by omega) (by omega) rfl (by omega) (by decide) ?_
      refine xk_iconst (pc := 63) (v := nI 0) d_M_fork_63 (by decide) ?_
      refine xk_istore_n (pc := 64) d_M_fork_64 (by decide) ?_
      have K := l_mfork2 (E := E) (Q := Q) (m := xk_up (xk_up (xk_up m 62 q (nI 1)) 63 q (nI 0)) 64 q (nI p)) hn hS hp hq7 hpq ?_ 7 0 (by omega) (by omega)
      · rw [xk_fn_0] at K
        exact K
      · have fr : ∀ a, a ≠ 62 → a ≠ 63 → a ≠ 64 → a ≠ 66 → (xk_fn (xk_up (xk_up (xk_up m 62 q (nI 1)) 63 q (nI 0)) 64 q (nI p)) 66 (6 * q) 6 (fun d => xk_up (xk_up (xk_up m 62 q (nI 1)) 63 q (nI 0)) 64 q (nI p) 66 (6 * p + d))) a = m a := fun a a1 a2 a3 a4 => by rw [xk_fn_r a4, xk_up_r a3, xk_up_r a2, xk_up_r a1]
        refine xqm_t (m := m) (xs_fork_s ep els) (xm_A_T hA (xm_O_66 hO rfl (fun k hk => ?_) (fun a a1 a2 => fr a (by omega) (by omega) (by omega) (by omega))) ⟨fun j hj => ?_, fun j hj hz => ?_, fun j hj hj7 hz => ?_, fun j hj hz => ?_⟩ (fun a ha => fr a (by omega) (by omega) (by omega) (by omega))) (fun a ha => fr a (by omega) (by omega) (by omega) (by omega)) hQ
        · show _ = xm_oi (if 6 * q ≤ k ∧ k < 6 * q + 6 then s.2.2.1.1 (6 * p + (k - 6 * q)) else s.2.2.1.1 k)
          unfold xk_fn
          by_cases z : 6 * q ≤ k ∧ k < 6 * q + 6
          · rw [if_pos ⟨rfl, z⟩, if_pos z]
            show xk_up (xk_up (xk_up m 62 q (nI 1)) 63 q (nI 0)) 64 q (nI p) 66 (6 * p + (k - 6 * q)) = _
            rw [xk_up_a (by decide), xk_up_a (by decide), xk_up_a (by decide)]
            exact hO.1 _ (by omega)
          · rw [if_neg (fun w => z w.2), if_neg z, xk_up_a (by decide), xk_up_a (by decide), xk_up_a (by decide)]
            exact hO.1 k hk
        · show _ = xs_bi (decide (xs_u s.2.2.2.1 q 1 j ≠ 0))
          rw [xk_fn_a (by decide), xk_up_a (by decide), xk_up_a (by decide)]
          by_cases z : j = q
          · subst z; rw [xk_up_s, xs_u_s]; rfl
          · rw [xk_up_k z, xs_u_n z]; exact hT.1 j hj
        · have hz2 : xs_u s.2.2.2.1 q 1 j ≠ 0 := hz
          show _ = xs_bi (decide (xs_u s.2.2.2.1 q 1 j = 2))
          rw [xk_fn_a (by decide), xk_up_a (by decide)]
          by_cases z : j = q
          · subst z; rw [xk_up_s, xs_u_s]; rfl
          · rw [xs_u_n z] at hz2
            rw [xk_up_k z, xk_up_a (by decide), xs_u_n z]; exact hT.2.1 j hj hz2
        · have hz2 : xs_u s.2.2.2.1 q 1 j ≠ 0 := hz
          show _ = nI (xs_u s.2.2.2.2.1 q p j)
          rw [xk_fn_a (by decide)]
          by_cases z : j = q
          · subst z; rw [xk_up_s, xs_u_s]
          · rw [xs_u_n z] at hz2
            rw [xk_up_k z, xk_up_a (by decide), xk_up_a (by decide), xs_u_n z]; exact hT.2.2.1 j hj hj7 hz2
        · have hz2 : xs_u s.2.2.2.1 q 1 j = 2 := hz
          rw [fr 65 (by decide) (by decide) (by decide) (by decide)]
          by_cases z : j = q
          · subst z; rw [xs_u_s] at hz2; cases hz2
          · rw [xs_u_n z] at hz2; exact hT.2.2.2 j hj hz2
    · subst c_36
      have els : xs_least (fun q => decide (s.2.2.2.1 q = 0)) 1 6 = none := xs_least_n (fun j a b => decide_eq_false (hqj j a (by omega)))
      refine xk_bipush (pc := 39) (v := (-2)) d_M_fork_39 (by decide) ?_
      refine xk_iret (pc := 41) rfl d_M_fork_41 rfl (Nat.le_of_ble_eq_true rfl) (Nat.le_of_ble_eq_true rfl) ?_
      exact xqm_s (xs_fork_n ep els) hA hQ
  · refine xk_if_ne (pc := 5) (tgt := 10) d_M_fork_5 rfl (fun h => absurd (by decide) h) (fun _ => ?_)
    refine xk_iconst (pc := 8) (v := (-1)) d_M_fork_8 (by decide) ?_
    refine xk_iret (pc := 9) rfl d_M_fork_9 rfl (Nat.le_of_ble_eq_true rfl) (Nat.le_of_ble_eq_true rfl) ?_
    exact xqm_s (show xs_fork s x = (-1, s) by unfold xs_fork; rw [ep]) hA hQ

set_option maxRecDepth 20000 in
set_option maxHeartbeats 4000000 in
theorem l_mexit1 {E : xk_E} {n : Nat} {r : xk_P} {Q : xk_Q} {m : xk_M} {p : Nat} {v2 : Option xk_V} (hn : 74 ≤ n) (hS : xr_S r n) (hp : p < 7) (hK : xk_W E m_M_exit 65 [some (.inr (some 53)), some (.inl (nI p)), v2, some (.inl (nI 6))] [] n (xk_fill m 66 (6 * p) (6 * p + 6) (-1)) r 0 0 Q) : ∀ (k : Nat) (i : Nat), 6 - i < k → i ≤ 6 → xk_W E m_M_exit 41 [some (.inr (some 53)), some (.inl (nI p)), v2, some (.inl (nI i))] [] n (xk_fill m 66 (6 * p) (6 * p + i) (-1)) r 0 0 Q := by
  intro k
  induction k with
  | zero => intro i h; exact absurd h (Nat.not_lt_zero _)
  | succ k ih =>
    intro i hk hi
    refine xk_iload_n (pc := 41) d_M_exit_41 rfl ?_
    refine xk_bipush (pc := 42) (v := nI 6) d_M_exit_42 (by decide) ?_
    first | refine xk_icmp_geN (pc := 44) (tgt := 65) d_M_exit_44 rfl (by omega) (by omega) (fun c_44 => ?_) (fun c_44 => ?_) | refine xk_icmp_ge (pc := 44) (tgt := 65) d_M_exit_44 rfl (fun c_44 => ?_) (fun c_44 => ?_)
    · have e : i = 6 := by omega
      subst e
      exact hK
    · refine xk_aload_n (pc := 47) d_M_exit_47 rfl ?_
      refine xk_getRo (pc := 48) d_M_exit_48 fl_M_47 (by first | rfl | assumption) rfl (by omega) (by omega) (hS _ _ _ rfl (by omega)) ?_
      refine xk_bipush (pc := 51) (v := nI 6) d_M_exit_51 (by decide) ?_
      refine xk_iload_n (pc := 53) d_M_exit_53 rfl ?_
      first | refine xk_imulN (pc := 54) d_M_exit_54 ?_ | refine xk_imul (pc := 54) d_M_exit_54 ?_
      refine xk_iload_n (pc := 55) d_M_exit_55 rfl ?_
      first | refine xk_iaddN (pc := 56) d_M_exit_56 ?_ | refine xk_iadd (pc := 56) d_M_exit_56 ?_
      refine xk_iconst (pc := 57) (v := (-1)) d_M_exit_57 (by decide) ?_
      refine xk_iastore (pc := 58) d_M_exit_58 (by first | rfl | assumption) (by omega) (by omega) rfl (by omega) (by decide) ?_
      rw [xk_fill_s (by omega), Nat.add_assoc]
      refine xk_iincN (pc := 59) (d := 1) d_M_exit_59 rfl ?_
      refine xk_goto (pc := 62) (tgt := 41) d_M_exit_62 rfl ?_
      exact ih (i + 1) (by omega) (by omega)

set_option maxRecDepth 20000 in
set_option maxHeartbeats 4000000 in
theorem l_mexit2 {E : xk_E} {n : Nat} {r : xk_P} {Q : xk_Q} {m : xk_M} {T : xs_T} {p : Nat} {v2 : Option xk_V} (hn : 74 ≤ n) (hS : xr_S r n) (hp : p < 7) (h62 : ∀ j, j < 7 → m 62 j = xs_bi (decide (T.1 j ≠ 0))) (hpar : ∀ j, 2 ≤ j → j < 7 → T.1 j ≠ 0 → T.2.1 j < 7) (hQ : ∀ M, (∀ j, 2 ≤ j → j < 7 → T.1 j ≠ 0 → M 64 j = nI (if T.2.1 j = p then 1 else T.2.1 j)) → (∀ a, a ≠ 64 → M a = m a) → Q (some (.inl (nI 0))) n M r) : ∀ (k : Nat) (i : Nat) (M : xk_M), 7 - i < k → 2 ≤ i → i ≤ 7 → (∀ j, 2 ≤ j → j < 7 → T.1 j ≠ 0 → M 64 j = nI (if j < i ∧ T.2.1 j = p then 1 else T.2.1 j)) → (∀ a, a ≠ 64 → M a = m a) → xk_W E m_M_exit 67 [some (.inr (some 53)), some (.inl (nI p)), v2, some (.inl (nI i))] [] n M r 0 0 Q := by
  intro k
  induction k with
  | zero => intro i M h; exact absurd h (Nat.not_lt_zero _)
  | succ k ih =>
    intro i M hk hi1 hi h1 hM
    refine xk_iload_n (pc := 67) d_M_exit_67 rfl ?_
    refine xk_bipush (pc := 68) (v := nI 7) d_M_exit_68 (by decide) ?_
    first | refine xk_icmp_geN (pc := 70) (tgt := 105) d_M_exit_70 rfl (by omega) (by omega) (fun c_70 => ?_) (fun c_70 => ?_) | refine xk_icmp_ge (pc := 70) (tgt := 105) d_M_exit_70 rfl (fun c_70 => ?_) (fun c_70 => ?_)
    · refine xk_iconst (pc := 105) (v := nI 0) d_M_exit_105 (by decide) ?_
      refine xk_iret (pc := 106) rfl d_M_exit_106 rfl (Nat.le_of_ble_eq_true rfl) (Nat.le_of_ble_eq_true rfl) ?_
      exact hQ M (fun j a b z => by
        rw [h1 j a b z]
        by_cases w : T.2.1 j = p
        · rw [if_pos ⟨by omega, w⟩, if_pos w]
        · rw [if_neg (fun q => w q.2), if_neg w]) hM
    · refine xk_aload_n (pc := 73) d_M_exit_73 rfl ?_
      refine xk_getRo (pc := 74) d_M_exit_74 fl_M_35 (by first | rfl | assumption) rfl (by omega) (by omega) (hS _ _ _ rfl (by omega)) ?_
      refine xk_iload_n (pc := 77) d_M_exit_77 rfl ?_
      refine xk_baloado (pc := 78) d_M_exit_78 (by first | rfl | assumption) (by omega) (by omega) rfl (by omega) (by decide) ((congrFun (hM 62 (by decide)) i).trans (h62 i c_70)) ?_
      first | refine xk_if_eqN (pc := 79) (tgt := 99) d_M_exit_79 rfl (by omega) (fun c_79 => ?_) (fun c_79 => ?_) | refine xk_if_eq (pc := 79) (tgt := 99) d_M_exit_79 rfl (fun c_79 => ?_) (fun c_79 => ?_)
      · have c_80 := of_decide_eq_false (xs_bi_z.mp c_79)
        refine xk_iincN (pc := 99) (d := 1) d_M_exit_99 rfl ?_
        refine xk_goto (pc := 102) (tgt := 67) d_M_exit_102 rfl ?_
        first
          | exact ih (i + 1) M (by omega) (by omega) (by omega) (fun j a b z => by
              rw [h1 j a b z]
              by_cases w : j = i
              · subst w
                first
                  | exact absurd z c_80
                  | rw [if_neg (by omega), if_neg (fun q => c_89 q.2)]
              · by_cases w2 : j < i ∧ T.2.1 j = p
                · rw [if_pos w2, if_pos ⟨by omega, w2.2⟩]
                · rw [if_neg w2, if_neg (fun q => w2 ⟨by omega, q.2⟩)]) hM
          | exact ih (i + 1) _ (by omega) (by omega) (by omega) (fun j a b z => by
              by_cases w : j = i
              · subst w
                rw [xk_up_s, if_pos ⟨by omega, c_89⟩]
              · rw [xk_up_k w, h1 j a b z]
                by_cases w2 : j < i ∧ T.2.1 j = p
                · rw [if_pos w2, if_pos ⟨by omega, w2.2⟩]
                · rw [if_neg w2, if_neg (fun q => w2 ⟨by omega, q.2⟩)]) (fun a ha => by rw [xk_up_r ha]; exact hM a ha)
      · have c_80 := of_decide_eq_true (xs_bi_nz c_79)
        have g1 := h1 i hi1 c_70 c_80
        rw [if_neg (by omega)] at g1
        have hp7 := hpar i hi1 c_70 c_80
        refine xk_aload_n (pc := 82) d_M_exit_82 rfl ?_
        refine xk_getRo (pc := 83) d_M_exit_83 fl_M_41 (by first | rfl | assumption) rfl (by omega) (by omega) (hS _ _ _ rfl (by omega)) ?_
        refine xk_iload_n (pc := 86) d_M_exit_86 rfl ?_
        refine xk_ialoado (pc := 87) d_M_exit_87 (by first | rfl | assumption) (by omega) (by omega) rfl (by omega) (by decide) g1 ?_
        refine xk_iload_n (pc := 88) d_M_exit_88 rfl ?_
        first | refine xk_icmp_neN (pc := 89) (tgt := 99) d_M_exit_89 rfl (by omega) (by omega) (fun c_89 => ?_) (fun c_89 => ?_) | refine xk_icmp_ne (pc := 89) (tgt := 99) d_M_exit_89 rfl (fun c_89 => ?_) (fun c_89 => ?_)
        · refine xk_iincN (pc := 99) (d := 1) d_M_exit_99 rfl ?_
          refine xk_goto (pc := 102) (tgt := 67) d_M_exit_102 rfl ?_
          first
            | exact ih (i + 1) M (by omega) (by omega) (by omega) (fun j a b z => by
                rw [h1 j a b z]
                by_cases w : j = i
                · subst w
                  first
                    | exact absurd z c_80
                    | rw [if_neg (by omega), if_neg (fun q => c_89 q.2)]
                · by_cases w2 : j < i ∧ T.2.1 j = p
                  · rw [if_pos w2, if_pos ⟨by omega, w2.2⟩]
                  · rw [if_neg w2, if_neg (fun q => w2 ⟨by omega, q.2⟩)]) hM
            | exact ih (i + 1) _ (by omega) (by omega) (by omega) (fun j a b z => by
                by_cases w : j = i
                · subst w
                  rw [xk_up_s, if_pos ⟨by omega, c_89⟩]
                · rw [xk_up_k w, h1 j a b z]
                  by_cases w2 : j < i ∧ T.2.1 j = p
                  · rw [if_pos w2, if_pos ⟨by omega, w2.2⟩]
                  · rw [if_neg w2, if_neg (fun q => w2 ⟨by omega, q.2⟩)]) (fun a ha => by rw [xk_up_r ha]; exact hM a ha)
        · refine xk_aload_n (pc := 92) d_M_exit_92 rfl ?_
          refine xk_getRo (pc := 93) d_M_exit_93 fl_M_41 (by first | rfl | assumption) rfl (by omega) (by omega) (hS _ _ _ rfl (by omega)) ?_
          refine xk_iload_n (pc := 96) d_M_exit_96 rfl ?_
          refine xk_iconst (pc := 97) (v := nI 1) d_M_exit_97 (by decide) ?_
          refine xk_iastore (pc := 98) d_M_exit_98 (by first | rfl | assumption) (by omega) (by omega) rfl (by omega) (by decide) ?_
          refine xk_iincN (pc := 99) (d := 1) d_M_exit_99 rfl ?_
          refine xk_goto (pc := 102) (tgt := 67) d_M_exit_102 rfl ?_
          first
            | exact ih (i + 1) M (by omega) (by omega) (by omega) (fun j a b z => by
                rw [h1 j a b z]
                by_cases w : j = i
                · subst w
                  first
                    | exact absurd z c_80
                    | rw [if_neg (by omega), if_neg (fun q => c_89 q.2)]
                · by_cases w2 : j < i ∧ T.2.1 j = p
                  · rw [if_pos w2, if_pos ⟨by omega, w2.2⟩]
                  · rw [if_neg w2, if_neg (fun q => w2 ⟨by omega, q.2⟩)]) hM
            | exact ih (i + 1) _ (by omega) (by omega) (by omega) (fun j a b z => by
                by_cases w : j = i
                · subst w
                  rw [xk_up_s, if_pos ⟨by omega, c_89⟩]
                · rw [xk_up_k w, h1 j a b z]
                  by_cases w2 : j < i ∧ T.2.1 j = p
                  · rw [if_pos w2, if_pos ⟨by omega, w2.2⟩]
                  · rw [if_neg w2, if_neg (fun q => w2 ⟨by omega, q.2⟩)]) (fun a ha => by rw [xk_up_r ha]; exact hM a ha)

set_option maxRecDepth 20000 in
set_option maxHeartbeats 4000000 in
theorem c_M_exit {E : xk_E} {n : Nat} {m : xk_M} {r : xk_P} {Q : xk_Q} {x y : Int32} {s : xs_S} (hn : 74 ≤ n) (hS : xr_S r n) (hA : xm_A s m) (hok : xs_ok s) (hsm : s.1.1.2.2.2.2.1 + 4 < 2 ^ 20) (hQ : ∀ m', xm_A (xs_exit s x y).2 m' → xm_fr m m' → Q (some (.inl (xs_exit s x y).1)) n m' r) : xk_W E m_M_exit 0 (xk_ent m_M_exit [.inr (some 53), .inl x, .inl y]) [] n m r 0 0 Q := by
  show xk_W E m_M_exit 0 [some (.inr (some 53)), some (.inl x), some (.inl y), none] [] n m r 0 0 Q
  obtain ⟨hF, hP, hO, hT⟩ := id hA
  obtain ⟨okF, okP, okO, okT⟩ := id hok
  have hb := okO.1
  have h6 := xm_h6 okO okT
  have hkw := xm_kw okO
  refine xk_aload_n (pc := 0) d_M_exit_0 rfl ?_
  refine xk_iload_n (pc := 1) d_M_exit_1 rfl ?_
  refine xk_cV1 (pc := 2) d_M_exit_2 ml_M_86 cz_M_alive ⟨rfl, rfl⟩ rfl (by first | rfl | assumption) (by omega) (by omega) (Nat.le_of_ble_eq_true rfl) ⟨(Nat.le_of_ble_eq_true rfl), (Nat.le_of_ble_eq_true rfl)⟩ ?_
  refine c_M_alive hn hS hT okT (fun p ep hp hp1 ex et => ?_) (fun ep => ?_)
  · subst ex
    refine xk_if_eq (pc := 5) (tgt := 23) d_M_exit_5 rfl (fun h => absurd h (by decide)) (fun _ => ?_)
    refine xk_iload_n (pc := 8) d_M_exit_8 rfl ?_
    refine xk_iconst (pc := 9) (v := nI 0) d_M_exit_9 (by decide) ?_
    refine xk_bipush (pc := 10) (v := nI 99) d_M_exit_10 (by decide) ?_
    refine xk_cS3 (pc := 12) d_M_exit_12 ml_M_78 cz_M_in ⟨rfl, rfl⟩ rfl (Nat.le_of_ble_eq_true rfl) ⟨(Nat.le_of_ble_eq_true rfl), (Nat.le_of_ble_eq_true rfl)⟩ ?_
    refine c_M_in (lo := 0) (hi := 99) (by decide) (by decide) (fun q _ hq eq => ?_) (fun enq => ?_)
    · subst eq
      have enq := xs_nat_nI (k := 100) (show q < 100 by omega) (by decide)
      refine xk_if_eq (pc := 15) (tgt := 23) d_M_exit_15 rfl (fun h => absurd h (by decide)) (fun _ => ?_)
      refine xk_iload_n (pc := 18) d_M_exit_18 rfl ?_
      refine xk_iconst (pc := 19) (v := nI 1) d_M_exit_19 (by decide) ?_
      first | refine xk_icmp_neN (pc := 20) (tgt := 25) d_M_exit_20 rfl (by omega) (by omega) (fun c_20 => ?_) (fun c_20 => ?_) | refine xk_icmp_ne (pc := 20) (tgt := 25) d_M_exit_20 rfl (fun c_20 => ?_) (fun c_20 => ?_)
      · refine xk_aload_n (pc := 25) d_M_exit_25 rfl ?_
        refine xk_getRo (pc := 26) d_M_exit_26 fl_M_38 (by first | rfl | assumption) rfl (by omega) (by omega) (hS _ _ _ rfl (by omega)) ?_
        refine xk_iload_n (pc := 29) d_M_exit_29 rfl ?_
        refine xk_iconst (pc := 30) (v := nI 1) d_M_exit_30 (by decide) ?_
        refine xk_bastore (pc := 31) d_M_exit_31 (by first | rfl | assumption) (by omega) (by omega) rfl (by omega) (by decide) rfl ?_
        refine xk_aload_n (pc := 32) d_M_exit_32 rfl ?_
        refine xk_getRo (pc := 33) d_M_exit_33 fl_M_44 (by first | rfl | assumption) rfl (by omega) (by omega) (hS _ _ _ rfl (by omega)) ?_
        refine xk_iload_n (pc := 36) d_M_exit_36 rfl ?_
        refine xk_iload_n (pc := 37) d_M_exit_37 rfl ?_
        refine xk_iastore (pc := 38) d_M_exit_38 (by first | rfl | assumption) (by omega) (by omega) rfl (by omega) (by decide) ?_
        refine xk_iconst (pc := 39) (v := nI 0) d_M_exit_39 (by decide) ?_
        refine xk_istore_n (pc := 40) d_M_exit_40 (by decide) ?_
        suffices HH : xk_W E m_M_exit 65 [some (.inr (some 53)), some (.inl (nI p)), some (.inl (nI q)), some (.inl (nI 6))] [] n (xk_fill (xk_up (xk_up m 63 p (nI 1)) 65 p (nI q)) 66 (6 * p) (6 * p + 6) (-1)) r 0 0 Q by
          have K := l_mexit1 (E := E) (Q := Q) (m := xk_up (xk_up m 63 p (nI 1)) 65 p (nI q)) (v2 := some (.inl (nI q))) hn hS hp HH 7 0 (by omega) (by omega)
          rw [Nat.add_zero, xk_fill_0] at K
          exact K
        refine xk_iconst (pc := 65) (v := nI 2) d_M_exit_65 (by decide) ?_
        refine xk_istore_n (pc := 66) d_M_exit_66 (by decide) ?_
        have e : xs_exit s (nI p) (nI q) = (nI 0, (s.1, s.2.1, xs_bare s.2.2.1 p, xs_u s.2.2.2.1 p 2, (fun j => if 2 ≤ j ∧ s.2.2.2.1 j ≠ 0 ∧ s.2.2.2.2.1 j = p then 1 else s.2.2.2.2.1 j), xs_u s.2.2.2.2.2 p q)) := by
          unfold xs_exit
          rw [ep, enq]
          exact if_neg c_20
        refine l_mexit2 (T := s.2.2.2) (p := p) hn hS hp (fun j hj => by rw [xk_fill_a (by decide), xk_up_a (by decide), xk_up_a (by decide)]; exact hT.1 j hj) okT.2.2.2.1 (fun M hM1 hM2 => ?_) 6 2 _ (by omega) (by omega) (by omega) (fun j a b z => by rw [xk_fill_a (by decide), xk_up_a (by decide), xk_up_a (by decide), if_neg (by omega)]; exact hT.2.2.1 j a b z) (fun _ _ => rfl)
        have fr : ∀ a, a ≠ 63 → a ≠ 64 → a ≠ 65 → a ≠ 66 → M a = m a := fun a a1 a2 a3 a4 => by rw [hM2 a a2, xk_fill_a a4, xk_up_r a3, xk_up_r a1]
        have nz : ∀ j, xs_u s.2.2.2.1 p 2 j ≠ 0 ↔ s.2.2.2.1 j ≠ 0 := fun j => by
          by_cases w : j = p
          · subst w; rw [xs_u_s]; exact ⟨fun _ => by rw [et]; decide, fun _ => by decide⟩
          · rw [xs_u_n w]
        refine xqm_t (m := m) e (xm_A_T hA (xm_O_66 hO rfl (fun k hk => ?_) (fun a a1 a2 => fr a (by omega) (by omega) (by omega) (by omega))) ⟨fun j hj => ?_, fun j hj hz => ?_, fun j hj hj7 hz => ?_, fun j hj hz => ?_⟩ (fun a ha => fr a (by omega) (by omega) (by omega) (by omega))) (fun a ha => fr a (by omega) (by omega) (by omega) (by omega)) hQ
        · show _ = xm_oi (if 6 * p ≤ k ∧ k < 6 * p + 6 then none else s.2.2.1.1 k)
          rw [hM2 66 (by decide)]
          unfold xk_fill
          by_cases w : 6 * p ≤ k ∧ k < 6 * p + 6
          · rw [if_pos ⟨rfl, w⟩, if_pos w]; rfl
          · rw [if_neg (fun q => w q.2), if_neg w, xk_up_a (by decide), xk_up_a (by decide)]; exact hO.1 k hk
        · show _ = xs_bi (decide (xs_u s.2.2.2.1 p 2 j ≠ 0))
          rw [decide_eq_decide.mpr (nz j), fr 62 (by decide) (by decide) (by decide) (by decide)]
          exact hT.1 j hj
        · have hz2 := (nz j).mp hz
          show _ = xs_bi (decide (xs_u s.2.2.2.1 p 2 j = 2))
          rw [hM2 63 (by decide), xk_fill_a (by decide), xk_up_a (by decide)]
          by_cases w : j = p
          · subst w; rw [xk_up_s, xs_u_s]; rfl
          · rw [xk_up_k w, xs_u_n w]; exact hT.2.1 j hj hz2
        · have hz2 := (nz j).mp hz
          rw [hM1 j hj hj7 hz2]
          show _ = nI (if 2 ≤ j ∧ s.2.2.2.1 j ≠ 0 ∧ s.2.2.2.2.1 j = p then 1 else s.2.2.2.2.1 j)
          by_cases w : s.2.2.2.2.1 j = p
          · rw [if_pos w, if_pos ⟨hj, hz2, w⟩]
          · rw [if_neg w, if_neg (fun q => w q.2.2)]
        · have hz2 : xs_u s.2.2.2.1 p 2 j = 2 := hz
          show _ = nI (xs_u s.2.2.2.2.2 p q j)
          rw [hM2 65 (by decide), xk_fill_a (by decide)]
          by_cases w : j = p
          · subst w; rw [xk_up_s, xs_u_s]
          · rw [xs_u_n w] at hz2
            rw [xk_up_k w, xk_up_a (by decide), xs_u_n w]; exact hT.2.2.2 j hj hz2
      · subst c_20
        refine xk_iconst (pc := 23) (v := (-1)) d_M_exit_23 (by decide) ?_
        refine xk_iret (pc := 24) rfl d_M_exit_24 rfl (Nat.le_of_ble_eq_true rfl) (Nat.le_of_ble_eq_true rfl) ?_
        first | exact xqm_s (xs_exit_1 (Or.inr (Or.inr ep))) hA hQ | exact xqm_s (xs_exit_1 (Or.inr (Or.inl enq))) hA hQ | exact xqm_s (xs_exit_1 (Or.inl ep)) hA hQ
    · replace enq := xs_nat_out (k := 99) (by decide) enq
      refine xk_if_eq (pc := 15) (tgt := 23) d_M_exit_15 rfl (fun _ => ?_) (fun h => absurd (by decide) h)
      refine xk_iconst (pc := 23) (v := (-1)) d_M_exit_23 (by decide) ?_
      refine xk_iret (pc := 24) rfl d_M_exit_24 rfl (Nat.le_of_ble_eq_true rfl) (Nat.le_of_ble_eq_true rfl) ?_
      first | exact xqm_s (xs_exit_1 (Or.inr (Or.inr ep))) hA hQ | exact xqm_s (xs_exit_1 (Or.inr (Or.inl enq))) hA hQ | exact xqm_s (xs_exit_1 (Or.inl ep)) hA hQ
  · refine xk_if_eq (pc := 5) (tgt := 23) d_M_exit_5 rfl (fun _ => ?_) (fun h => absurd (by decide) h)
    refine xk_iconst (pc := 23) (v := (-1)) d_M_exit_23 (by decide) ?_
    refine xk_iret (pc := 24) rfl d_M_exit_24 rfl (Nat.le_of_ble_eq_true rfl) (Nat.le_of_ble_eq_true rfl) ?_
    first | exact xqm_s (xs_exit_1 (Or.inr (Or.inr ep))) hA hQ | exact xqm_s (xs_exit_1 (Or.inr (Or.inl enq))) hA hQ | exact xqm_s (xs_exit_1 (Or.inl ep)) hA hQ

set_option maxRecDepth 20000 in
set_option maxHeartbeats 4000000 in
theorem l_mwait {E : xk_E} {n : Nat} {r : xk_P} {Q : xk_Q} {m : xk_M} {s : xs_S} (hn : 74 ≤ n) (hS : xr_S r n) (hA : xm_A s m) (hok : xs_ok s) (hsm : s.1.1.2.2.2.2.1 + 4 < 2 ^ 20) {x : Int32} {p : Nat} (ep : xs_alive s.2.2.2 x = some p) (hp : p < 7) (hQ : ∀ m', xm_A (xs_wait s x).2 m' → xm_fr m m' → Q (some (.inl (xs_wait s x).1)) n m' r) : ∀ (k : Nat) (i : Nat) (av : Bool), 7 - i < k → 2 ≤ i → i ≤ 7 → (∀ j, 2 ≤ j → j < i → s.2.2.2.1 j = 2 → s.2.2.2.2.1 j ≠ p) → (av = true → ∃ j, 2 ≤ j ∧ j < i ∧ s.2.2.2.1 j ≠ 0 ∧ s.2.2.2.2.1 j = p) → (av = false → ∀ j, 2 ≤ j → j < i → s.2.2.2.1 j ≠ 0 → s.2.2.2.2.1 j ≠ p) → xk_W E m_M_wait 14 [some (.inr (some 53)), some (.inl (nI p)), some (.inl (xs_bi av)), some (.inl (nI i))] [] n m r 0 0 Q := by
  intro k
  induction k with
  | zero => intro i av h; exact absurd h (Nat.not_lt_zero _)
  | succ k ih =>
    intro i av hk hi1 hi h2 ha1 ha0
    obtain ⟨hF, hP, hO, hT⟩ := id hA
    obtain ⟨okF, okP, okO, okT⟩ := id hok
    have hb := okO.1
    have h6 := xm_h6 okO okT
    have hkw := xm_kw okO
    refine xk_iload_n (pc := 14) d_M_wait_14 rfl ?_
    refine xk_bipush (pc := 15) (v := nI 7) d_M_wait_15 (by decide) ?_
    first | refine xk_icmp_geN (pc := 17) (tgt := 78) d_M_wait_17 rfl (by omega) (by omega) (fun c_17 => ?_) (fun c_17 => ?_) | refine xk_icmp_ge (pc := 17) (tgt := 78) d_M_wait_17 rfl (fun c_17 => ?_) (fun c_17 => ?_)
    · refine xk_iload_n (pc := 78) d_M_wait_78 rfl ?_
      first | refine xk_if_eqN (pc := 79) (tgt := 87) d_M_wait_79 rfl (by omega) (fun c_79 => ?_) (fun c_79 => ?_) | refine xk_if_eq (pc := 79) (tgt := 87) d_M_wait_79 rfl (fun c_79 => ?_) (fun c_79 => ?_)
      · have hav := xs_bi_z.mp c_79
        have h5 := ha0 hav
        refine xk_bipush (pc := 87) (v := (-9)) d_M_wait_87 (by decide) ?_
        refine xk_iret (pc := 89) rfl d_M_wait_89 rfl (Nat.le_of_ble_eq_true rfl) (Nat.le_of_ble_eq_true rfl) ?_
        have els : xs_least (fun q => decide (s.2.2.2.1 q = 2 ∧ s.2.2.2.2.1 q = p)) 2 5 = none := xs_least_n (fun j a b => decide_eq_false (fun z => h2 j a (by omega) z.1 z.2))
        first
          | (have el2 : xs_least (fun q => decide (s.2.2.2.1 q ≠ 0 ∧ s.2.2.2.2.1 q = p)) 2 5 = none := xs_least_n (fun j a b => decide_eq_false (fun z => h5 j a (by omega) z.1 z.2))
             exact xqm_s (xs_wait_b ep els el2) hA hQ)
          | (cases el2 : xs_least (fun q => decide (s.2.2.2.1 q ≠ 0 ∧ s.2.2.2.2.1 q = p)) 2 5 with
             | none => exact absurd (And.intro j3 j4) (of_decide_eq_false (xs_least_np el2 j j1 (by omega)))
             | some q => exact xqm_s (xs_wait_a ep els el2) hA hQ)
      · obtain ⟨j, j1, j2, j3, j4⟩ := ha1 (xs_bi_nz c_79)
        refine xk_bipush (pc := 82) (v := (-6)) d_M_wait_82 (by decide) ?_
        refine xk_goto (pc := 84) (tgt := 89) d_M_wait_84 rfl ?_
        refine xk_iret (pc := 89) rfl d_M_wait_89 rfl (Nat.le_of_ble_eq_true rfl) (Nat.le_of_ble_eq_true rfl) ?_
        have els : xs_least (fun q => decide (s.2.2.2.1 q = 2 ∧ s.2.2.2.2.1 q = p)) 2 5 = none := xs_least_n (fun j a b => decide_eq_false (fun z => h2 j a (by omega) z.1 z.2))
        first
          | (have el2 : xs_least (fun q => decide (s.2.2.2.1 q ≠ 0 ∧ s.2.2.2.2.1 q = p)) 2 5 = none := xs_least_n (fun j a b => decide_eq_false (fun z => h5 j a (by omega) z.1 z.2))
             exact xqm_s (xs_wait_b ep els el2) hA hQ)
          | (cases el2 : xs_least (fun q => decide (s.2.2.2.1 q ≠ 0 ∧ s.2.2.2.2.1 q = p)) 2 5 with
             | none => exact absurd (And.intro j3 j4) (of_decide_eq_false (xs_least_np el2 j j1 (by omega)))
             | some q => exact xqm_s (xs_wait_a ep els el2) hA hQ)
    · refine xk_aload_n (pc := 20) d_M_wait_20 rfl ?_
      refine xk_getRo (pc := 21) d_M_wait_21 fl_M_35 (by first | rfl | assumption) rfl (by omega) (by omega) (hS _ _ _ rfl (by omega)) ?_
      refine xk_iload_n (pc := 24) d_M_wait_24 rfl ?_
      refine xk_baloado (pc := 25) d_M_wait_25 (by first | rfl | assumption) (by omega) (by omega) rfl (by omega) (by decide) (hT.1 i c_17) ?_
      first | refine xk_if_eqN (pc := 26) (tgt := 72) d_M_wait_26 rfl (by omega) (fun c_26 => ?_) (fun c_26 => ?_) | refine xk_if_eq (pc := 26) (tgt := 72) d_M_wait_26 rfl (fun c_26 => ?_) (fun c_26 => ?_)
      · have c_27 : s.2.2.2.1 i = 0 := Classical.byContradiction (of_decide_eq_false (xs_bi_z.mp c_26))
        refine xk_iincN (pc := 72) (d := 1) d_M_wait_72 rfl ?_
        refine xk_goto (pc := 75) (tgt := 14) d_M_wait_75 rfl ?_
        first
          | exact ih (i + 1) true (by omega) (by omega) (by omega) (fun j a b z => by
              by_cases w : j = i
              · subst w; exact absurd z c_51
              · exact h2 j a (by omega) z) (fun _ => ⟨i, hi1, by omega, c_27, c_36⟩) (fun z => by cases z)
          | exact ih (i + 1) av (by omega) (by omega) (by omega) (fun j a b z => by
              by_cases w : j = i
              · subst w
                first
                  | exact c_36
                  | omega
              · exact h2 j a (by omega) z) (fun z => by
                obtain ⟨j, j1, j2, j3, j4⟩ := ha1 z
                exact ⟨j, j1, by omega, j3, j4⟩) (fun z j a b y => by
                by_cases w : j = i
                · subst w
                  first
                    | exact c_36
                    | omega
                · exact ha0 z j a (by omega) y)
      · have c_27 := of_decide_eq_true (xs_bi_nz c_26)
        have hp7 := okT.2.2.2.1 i hi1 c_17 c_27
        refine xk_aload_n (pc := 29) d_M_wait_29 rfl ?_
        refine xk_getRo (pc := 30) d_M_wait_30 fl_M_41 (by first | rfl | assumption) rfl (by omega) (by omega) (hS _ _ _ rfl (by omega)) ?_
        refine xk_iload_n (pc := 33) d_M_wait_33 rfl ?_
        refine xk_ialoado (pc := 34) d_M_wait_34 (by first | rfl | assumption) (by omega) (by omega) rfl (by omega) (by decide) (hT.2.2.1 i hi1 c_17 c_27) ?_
        refine xk_iload_n (pc := 35) d_M_wait_35 rfl ?_
        first | refine xk_icmp_eqN (pc := 36) (tgt := 42) d_M_wait_36 rfl (by omega) (by omega) (fun c_36 => ?_) (fun c_36 => ?_) | refine xk_icmp_eq (pc := 36) (tgt := 42) d_M_wait_36 rfl (fun c_36 => ?_) (fun c_36 => ?_)
        · refine xk_iconst (pc := 42) (v := nI 1) d_M_wait_42 (by decide) ?_
          refine xk_istore_n (pc := 43) d_M_wait_43 (by decide) ?_
          refine xk_aload_n (pc := 44) d_M_wait_44 rfl ?_
          refine xk_getRo (pc := 45) d_M_wait_45 fl_M_38 (by first | rfl | assumption) rfl (by omega) (by omega) (hS _ _ _ rfl (by omega)) ?_
          refine xk_iload_n (pc := 48) d_M_wait_48 rfl ?_
          refine xk_baloado (pc := 49) d_M_wait_49 (by first | rfl | assumption) (by omega) (by omega) rfl (by omega) (by decide) (hT.2.1 i c_17 c_27) ?_
          first | refine xk_if_eqN (pc := 50) (tgt := 72) d_M_wait_50 rfl (by omega) (fun c_50 => ?_) (fun c_50 => ?_) | refine xk_if_eq (pc := 50) (tgt := 72) d_M_wait_50 rfl (fun c_50 => ?_) (fun c_50 => ?_)
          · have c_51 := of_decide_eq_false (xs_bi_z.mp c_50)
            refine xk_iincN (pc := 72) (d := 1) d_M_wait_72 rfl ?_
            refine xk_goto (pc := 75) (tgt := 14) d_M_wait_75 rfl ?_
            first
              | exact ih (i + 1) true (by omega) (by omega) (by omega) (fun j a b z => by
                  by_cases w : j = i
                  · subst w; exact absurd z c_51
                  · exact h2 j a (by omega) z) (fun _ => ⟨i, hi1, by omega, c_27, c_36⟩) (fun z => by cases z)
              | exact ih (i + 1) av (by omega) (by omega) (by omega) (fun j a b z => by
                  by_cases w : j = i
                  · subst w
                    first
                      | exact c_36
                      | omega
                  · exact h2 j a (by omega) z) (fun z => by
                    obtain ⟨j, j1, j2, j3, j4⟩ := ha1 z
                    exact ⟨j, j1, by omega, j3, j4⟩) (fun z j a b y => by
                    by_cases w : j = i
                    · subst w
                      first
                        | exact c_36
                        | omega
                    · exact ha0 z j a (by omega) y)
          · have c_51 := of_decide_eq_true (xs_bi_nz c_50)
            have els : xs_least (fun q => decide (s.2.2.2.1 q = 2 ∧ s.2.2.2.2.1 q = p)) 2 5 = some i := xs_least_s hi1 (by omega) (decide_eq_true ⟨c_51, c_36⟩) (fun j a b => decide_eq_false (fun z => h2 j a b z.1 z.2))
            refine xk_aload_n (pc := 53) d_M_wait_53 rfl ?_
            refine xk_getRo (pc := 54) d_M_wait_54 fl_M_35 (by first | rfl | assumption) rfl (by omega) (by omega) (hS _ _ _ rfl (by omega)) ?_
            refine xk_iload_n (pc := 57) d_M_wait_57 rfl ?_
            refine xk_iconst (pc := 58) (v := nI 0) d_M_wait_58 (by decide) ?_
            refine xk_bastore (pc := 59) d_M_wait_59 (by first | rfl | assumption) (by omega) (by omega) rfl (by omega) (by decide) rfl ?_
            refine xk_iload_n (pc := 60) d_M_wait_60 rfl ?_
            refine xk_bipush (pc := 61) (v := nI 8) d_M_wait_61 (by decide) ?_
            refine xk_aload_n (pc := 63) d_M_wait_63 rfl ?_
            refine xk_getRo (pc := 64) d_M_wait_64 fl_M_44 (by first | rfl | assumption) rfl (by omega) (by omega) (hS _ _ _ rfl (by omega)) ?_
            refine xk_iload_n (pc := 67) d_M_wait_67 rfl ?_
            refine xk_ialoado (pc := 68) d_M_wait_68 (by first | rfl | assumption) (by omega) (by omega) rfl (by omega) (by decide) ((xk_up_a (by decide)).trans (hT.2.2.2 i c_17 c_51)) ?_
            first | refine xk_imulN (pc := 69) d_M_wait_69 ?_ | refine xk_imul (pc := 69) d_M_wait_69 ?_
            first | refine xk_iaddN (pc := 70) d_M_wait_70 ?_ | refine xk_iadd (pc := 70) d_M_wait_70 ?_
            refine xk_iret (pc := 71) rfl d_M_wait_71 rfl (Nat.le_of_ble_eq_true rfl) (Nat.le_of_ble_eq_true rfl) ?_
            refine xqm_t (xs_wait_c ep els) (xm_A_T hA (xm_O_kept hO (fun a _ _ => xk_up_r (by omega))) ⟨fun j hj => ?_, fun j hj hz => ?_, fun j hj hj7 hz => ?_, fun j hj hz => ?_⟩ (fun a ha => xk_up_r (by omega))) (fun a ha => xk_up_r (by omega)) hQ
            · show _ = xs_bi (decide (xs_u s.2.2.2.1 i 0 j ≠ 0))
              by_cases w : j = i
              · subst w; rw [xk_up_s, xs_u_s]; rfl
              · rw [xk_up_k w, xs_u_n w]; exact hT.1 j hj
            · have hz2 : xs_u s.2.2.2.1 i 0 j ≠ 0 := hz
              show _ = xs_bi (decide (xs_u s.2.2.2.1 i 0 j = 2))
              by_cases w : j = i
              · subst w; rw [xs_u_s] at hz2; exact absurd rfl hz2
              · rw [xs_u_n w] at hz2
                rw [xk_up_a (by decide), xs_u_n w]; exact hT.2.1 j hj hz2
            · have hz2 : xs_u s.2.2.2.1 i 0 j ≠ 0 := hz
              by_cases w : j = i
              · subst w; rw [xs_u_s] at hz2; exact absurd rfl hz2
              · rw [xs_u_n w] at hz2
                rw [xk_up_a (by decide)]; exact hT.2.2.1 j hj hj7 hz2
            · have hz2 : xs_u s.2.2.2.1 i 0 j = 2 := hz
              by_cases w : j = i
              · subst w; rw [xs_u_s] at hz2; cases hz2
              · rw [xs_u_n w] at hz2
                rw [xk_up_a (by decide)]; exact hT.2.2.2 j hj hz2
        · refine xk_goto (pc := 39) (tgt := 72) d_M_wait_39 rfl ?_
          refine xk_iincN (pc := 72) (d := 1) d_M_wait_72 rfl ?_
          refine xk_goto (pc := 75) (tgt := 14) d_M_wait_75 rfl ?_
          first
            | exact ih (i + 1) true (by omega) (by omega) (by omega) (fun j a b z => by
                by_cases w : j = i
                · subst w; exact absurd z c_51
                · exact h2 j a (by omega) z) (fun _ => ⟨i, hi1, by omega, c_27, c_36⟩) (fun z => by cases z)
            | exact ih (i + 1) av (by omega) (by omega) (by omega) (fun j a b z => by
                by_cases w : j = i
                · subst w
                  first
                    | exact c_36
                    | omega
                · exact h2 j a (by omega) z) (fun z => by
                  obtain ⟨j, j1, j2, j3, j4⟩ := ha1 z
                  exact ⟨j, j1, by omega, j3, j4⟩) (fun z j a b y => by
                  by_cases w : j = i
                  · subst w
                    first
                      | exact c_36
                      | omega
                  · exact ha0 z j a (by omega) y)

set_option maxRecDepth 20000 in
set_option maxHeartbeats 4000000 in
theorem c_M_wait {E : xk_E} {n : Nat} {m : xk_M} {r : xk_P} {Q : xk_Q} {x : Int32} {s : xs_S} (hn : 74 ≤ n) (hS : xr_S r n) (hA : xm_A s m) (hok : xs_ok s) (hsm : s.1.1.2.2.2.2.1 + 4 < 2 ^ 20) (hQ : ∀ m', xm_A (xs_wait s x).2 m' → xm_fr m m' → Q (some (.inl (xs_wait s x).1)) n m' r) : xk_W E m_M_wait 0 (xk_ent m_M_wait [.inr (some 53), .inl x]) [] n m r 0 0 Q := by
  show xk_W E m_M_wait 0 [some (.inr (some 53)), some (.inl x), none, none] [] n m r 0 0 Q
  obtain ⟨hF, hP, hO, hT⟩ := id hA
  obtain ⟨okF, okP, okO, okT⟩ := id hok
  have hb := okO.1
  have h6 := xm_h6 okO okT
  have hkw := xm_kw okO
  refine xk_aload_n (pc := 0) d_M_wait_0 rfl ?_
  refine xk_iload_n (pc := 1) d_M_wait_1 rfl ?_
  refine xk_cV1 (pc := 2) d_M_wait_2 ml_M_86 cz_M_alive ⟨rfl, rfl⟩ rfl (by first | rfl | assumption) (by omega) (by omega) (Nat.le_of_ble_eq_true rfl) ⟨(Nat.le_of_ble_eq_true rfl), (Nat.le_of_ble_eq_true rfl)⟩ ?_
  refine c_M_alive hn hS hT okT (fun p ep hp hp1 ex et => ?_) (fun ep => ?_)
  · subst ex
    refine xk_if_ne (pc := 5) (tgt := 10) d_M_wait_5 rfl (fun _ => ?_) (fun h => absurd h (by decide))
    refine xk_iconst (pc := 10) (v := nI 0) d_M_wait_10 (by decide) ?_
    refine xk_istore_n (pc := 11) d_M_wait_11 (by decide) ?_
    refine xk_iconst (pc := 12) (v := nI 2) d_M_wait_12 (by decide) ?_
    refine xk_istore_n (pc := 13) d_M_wait_13 (by decide) ?_
    exact l_mwait hn hS hA hok hsm ep hp hQ 6 2 false (by omega) (by omega) (by omega) (fun j a b => by omega) (fun z => by cases z) (fun _ j a b => by omega)
  · refine xk_if_ne (pc := 5) (tgt := 10) d_M_wait_5 rfl (fun h => absurd (by decide) h) (fun _ => ?_)
    refine xk_iconst (pc := 8) (v := (-1)) d_M_wait_8 (by decide) ?_
    refine xk_iret (pc := 9) rfl d_M_wait_9 rfl (Nat.le_of_ble_eq_true rfl) (Nat.le_of_ble_eq_true rfl) ?_
    exact xqm_s (show xs_wait s x = (-1, s) by unfold xs_wait; rw [ep]) hA hQ
