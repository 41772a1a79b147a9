set_option maxRecDepth 20000 in
set_option maxHeartbeats 4000000 in
theorem c_K_open {E : xk_E} {n : Nat} {m : xk_M} {r : xk_P} {Q : xk_Q} {x y z : Int32} {s : xs_S} (hA : xr_A s m r n) (hok : xs_ok s) (hsm : s.1.1.2.2.2.2.1 + 4 < 2 ^ 20) (hQ : ∀ n' m' r', n ≤ n' → n' ≤ n → xr_A (xs_open s x y z).2 m' r' n' → xr_fr m m' r r' → Q (some (.inl (xs_open s x y z).1)) n' m' r') : xk_W E m_K_open 0 (xk_ent m_K_open [.inr (some 1), .inl x, .inl y, .inl z]) [] n m r 0 0 Q := by
  show xk_W E m_K_open 0 [some (.inr (some 1)), some (.inl x), some (.inl y), some (.inl z), none, none, none] [] n m r 0 0 Q
  obtain ⟨hF, hP, hO, hT, hS, hn⟩ := id hA
  obtain ⟨okF, okP, okO, okT⟩ := id hok
  refine xk_aload_n (pc := 0) d_K_open_0 rfl ?_
  refine xk_iload_n (pc := 1) d_K_open_1 rfl ?_
  refine xk_cV1 (pc := 2) d_K_open_2 ml_K_75 cz_K_isAlive ⟨rfl, rfl⟩ rfl (by first | rfl | assumption) (by omega) (by omega) (Nat.le_of_ble_eq_true rfl) ⟨(Nat.le_of_ble_eq_true rfl), (Nat.le_of_ble_eq_true rfl)⟩ ?_
  refine c_K_isAlive hn hS hT okT (fun p ep hp hp1 ex et => ?_) (fun ep => ?_)
  · subst ex
    refine xk_if_eq (pc := 5) (tgt := 26) d_K_open_5 rfl (fun h => absurd h (by decide)) (fun _ => ?_)
    refine xk_iload_n (pc := 8) d_K_open_8 rfl ?_
    refine xk_bipush (pc := 9) (v := nI 8) d_K_open_9 (by decide) ?_
    refine xk_cS2 (pc := 11) d_K_open_11 ml_K_53 cz_K_isBelow ⟨rfl, rfl⟩ rfl (Nat.le_of_ble_eq_true rfl) ⟨(Nat.le_of_ble_eq_true rfl), (Nat.le_of_ble_eq_true rfl)⟩ ?_
    refine c_K_isBelow (by decide) (fun f hf ef enf => ?_) (fun enf => ?_)
    · subst ef
      refine xk_if_eq (pc := 14) (tgt := 26) d_K_open_14 rfl (fun h => absurd h (by decide)) (fun _ => ?_)
      refine xk_iload_n (pc := 17) d_K_open_17 rfl ?_
      refine xk_bipush (pc := 18) (v := nI 32) d_K_open_18 (by decide) ?_
      refine xk_cS2 (pc := 20) d_K_open_20 ml_K_53 cz_K_isBelow ⟨rfl, rfl⟩ rfl (Nat.le_of_ble_eq_true rfl) ⟨(Nat.le_of_ble_eq_true rfl), (Nat.le_of_ble_eq_true rfl)⟩ ?_
      refine c_K_isBelow (by decide) (fun md hmd emd enmd => ?_) (fun enmd => ?_)
      · subst emd
        refine xk_if_ne (pc := 23) (tgt := 28) d_K_open_23 rfl (fun _ => ?_) (fun h => absurd h (by decide))
        have hpo := okP f hf
        have hkp := xr_kd_ta p hp
        refine xk_aload_n (pc := 28) d_K_open_28 rfl ?_
        refine xk_getRo (pc := 29) d_K_open_29 fl_K_10 (by first | rfl | assumption) rfl (by omega) (by omega) (hS _ _ _ rfl (by omega)) ?_
        refine xk_iload_n (pc := 32) d_K_open_32 rfl ?_
        refine xk_cV1 (pc := 33) d_K_open_33 ml_K_78 cz_Host_isThere ⟨rfl, rfl⟩ rfl (by first | rfl | assumption) (by omega) (by omega) (Nat.le_of_ble_eq_true rfl) ⟨(Nat.le_of_ble_eq_true rfl), (Nat.le_of_ble_eq_true rfl)⟩ ?_
        refine c_Host_isThere hn hS hf (hF.1.1 f hf) ?_
        first | refine xk_if_neN (pc := 36) (tgt := 50) d_K_open_36 rfl (by omega) (fun c_36 => ?_) (fun c_36 => ?_) | refine xk_if_ne (pc := 36) (tgt := 50) d_K_open_36 rfl (fun c_36 => ?_) (fun c_36 => ?_)
        · have c_37 := xs_bi_nz c_36
          refine xk_iconst (pc := 50) (v := nI 0) d_K_open_50 (by decide) ?_
          refine xk_istore (pc := 51) d_K_open_51 (by decide) ?_
          refine xk_aload_n (pc := 53) d_K_open_53 rfl ?_
          refine xk_getRo (pc := 54) d_K_open_54 fl_K_25 (by first | rfl | assumption) rfl (by omega) (by omega) (hS _ _ _ rfl (by omega)) ?_
          refine xk_iload_n (pc := 57) d_K_open_57 rfl ?_
          refine xk_ialoado (pc := 58) d_K_open_58 (by first | rfl | assumption) (by omega) (by omega) rfl (by omega) (by decide) (hP f hf) ?_
          first | refine xk_if_eqN (pc := 59) (tgt := 67) d_K_open_59 rfl (by omega) (fun c_59 => ?_) (fun c_59 => ?_) | refine xk_if_eq (pc := 59) (tgt := 67) d_K_open_59 rfl (fun c_59 => ?_) (fun c_59 => ?_)
          · refine xk_bipush (pc := 67) (v := (-4)) d_K_open_67 (by decide) ?_
            refine xk_iret (pc := 69) rfl d_K_open_69 rfl (Nat.le_of_ble_eq_true rfl) (Nat.le_of_ble_eq_true rfl) ?_
            first
              | (have e := (xs_open_s ep enf enmd).trans (if_pos (Or.inl c_59))
                 exact xq_s e hA hQ)
              | (have e := (xs_open_s ep enf enmd).trans (if_pos (Or.inr ⟨c_36, (xs_b8 md hmd).mp c_43⟩))
                 exact xq_s e hA hQ)
          · refine xk_iload (pc := 62) d_K_open_62 rfl ?_
            refine xk_if_eq (pc := 64) (tgt := 70) d_K_open_64 rfl (fun _ => ?_) (fun h => absurd (by decide) h)
            have hna : ¬ (s.2.1 f = 0 ∨ (s.1.1.1 f = false ∧ md / 8 % 2 = 0)) := by
              rintro (q | q)
              · exact c_59 q
              · first | (rw [c_37] at q; cases q.1) | exact c_43 ((xs_b8 md hmd).mpr q.2)
            refine xk_aload_n (pc := 70) d_K_open_70 rfl ?_
            refine xk_getRo (pc := 71) d_K_open_71 fl_K_25 (by first | rfl | assumption) rfl (by omega) (by omega) (hS _ _ _ rfl (by omega)) ?_
            refine xk_iload_n (pc := 74) d_K_open_74 rfl ?_
            refine xk_ialoado (pc := 75) d_K_open_75 (by first | rfl | assumption) (by omega) (by omega) rfl (by omega) (by decide) (hP f hf) ?_
            refine xk_iconst (pc := 76) (v := nI 1) d_K_open_76 (by decide) ?_
            first | refine xk_icmp_neN (pc := 77) (tgt := 90) d_K_open_77 rfl (by omega) (by omega) (fun c_77 => ?_) (fun c_77 => ?_) | refine xk_icmp_ne (pc := 77) (tgt := 90) d_K_open_77 rfl (fun c_77 => ?_) (fun c_77 => ?_)
            · have hnd : ¬ (s.2.1 f = 1 ∧ 1 < md) := by
                intro q
                first | exact c_77 q.1 | (have := (xs_bm2 md hmd).mp c_84; omega)
              refine xk_aload_n (pc := 90) d_K_open_90 rfl ?_
              refine xk_getRo (pc := 91) d_K_open_91 fl_K_44 (by first | rfl | assumption) rfl (by omega) (by omega) (hS _ _ _ rfl (by omega)) ?_
              refine xk_iload_n (pc := 94) d_K_open_94 rfl ?_
              refine xk_aaloado (pc := 95) d_K_open_95 (by first | rfl | assumption) (by decide) (by decide) (by omega) (by omega) rfl (by omega) (by decide) (hS _ _ _ (xr_st_ts _ hp) (by omega)) ?_
              refine xk_iconst (pc := 96) (v := nI 0) d_K_open_96 (by decide) ?_
              refine xk_cV1 (pc := 97) d_K_open_97 ml_K_81 cz_Task_freeFrom ⟨rfl, rfl⟩ rfl (by first | rfl | assumption) (by omega) (by omega) (Nat.le_of_ble_eq_true rfl) ⟨(Nat.le_of_ble_eq_true rfl), (Nat.le_of_ble_eq_true rfl)⟩ ?_
              refine c_Task_freeFrom hn hS hp (O := s.2.2.1) (by omega) (fun d hd => hO.2.1 p d hp hd) (fun d hd2 hd6 => ?_) (fun hd2 => ?_)
              · refine xk_istore (pc := 100) d_K_open_100 (by decide) ?_
                refine xk_aload_n (pc := 102) d_K_open_102 rfl ?_
                refine xk_iconst (pc := 103) (v := nI 0) d_K_open_103 (by decide) ?_
                refine xk_cV1 (pc := 104) d_K_open_104 ml_K_85 cz_K_unusedFrom ⟨rfl, rfl⟩ rfl (by first | rfl | assumption) (by omega) (by omega) (Nat.le_of_ble_eq_true rfl) ⟨(Nat.le_of_ble_eq_true rfl), (Nat.le_of_ble_eq_true rfl)⟩ ?_
                refine c_K_unusedFrom hn hS hO (by omega) (fun o eo ho => ?_) (fun eo => ?_)
                · refine xk_istore (pc := 107) d_K_open_107 (by decide) ?_
                  refine xk_iload (pc := 109) d_K_open_109 rfl ?_
                  refine xk_iconst (pc := 111) (v := (-1)) d_K_open_111 (by decide) ?_
                  first | refine xk_icmp_eqN (pc := 112) (tgt := 121) d_K_open_112 rfl (by omega) (by omega) (fun c_112 => ?_) (fun c_112 => ?_) | refine xk_icmp_eq (pc := 112) (tgt := 121) d_K_open_112 rfl (fun c_112 => ?_) (fun c_112 => ?_)
                  · exact absurd c_112 (xs_nm1 (by omega))
                  · refine xk_iload (pc := 115) d_K_open_115 rfl ?_
                    refine xk_iconst (pc := 117) (v := (-1)) d_K_open_117 (by decide) ?_
                    first | refine xk_icmp_neN (pc := 118) (tgt := 124) d_K_open_118 rfl (by omega) (by omega) (fun c_118 => ?_) (fun c_118 => ?_) | refine xk_icmp_ne (pc := 118) (tgt := 124) d_K_open_118 rfl (fun c_118 => ?_) (fun c_118 => ?_)
                    · refine xk_aload_n (pc := 124) d_K_open_124 rfl ?_
                      refine xk_iload_n (pc := 125) d_K_open_125 rfl ?_
                      refine xk_iload_n (pc := 126) d_K_open_126 rfl ?_
                      refine xk_cV2 (pc := 127) d_K_open_127 ml_K_88 cz_K_readyFile ⟨rfl, rfl⟩ rfl (by first | rfl | assumption) (by omega) (by omega) (Nat.le_of_ble_eq_true rfl) ⟨(Nat.le_of_ble_eq_true rfl), (Nat.le_of_ble_eq_true rfl)⟩ ?_
                      refine c_K_readyFile hn hS hF okF hsm hf hmd (fun F1 m1 r1 e1 hF1 hm1 hr1 => ?_) (fun F1 m1 e1 hF1 hm1 => ?_)
                      · have hS1 := xr_S_9 hS hr1
                        have hko := xr_kd_op o ho
                        have hS2 : xr_S (xk_up r1 (22 + o) 4 none) n := xr_S.up hS1 (xr_0_op o ho)
                        have hu0 : xs_used s.2.2.1 o = false := by
                          have := (xs_least_sp eo).2.2.1
                          cases hq : xs_used s.2.2.1 o with
                          | false => rfl
                          | true => rw [hq] at this; cases this
                        have hc0 : xs_cnt s.2.2.1.1 o 42 = 0 := by
                          cases hq : xs_cnt s.2.2.1.1 o 42 with
                          | zero => rfl
                          | succ k => rw [xs_used_iff.mpr (by omega)] at hu0; cases hu0
                        refine xk_if_ne (pc := 130) (tgt := 136) d_K_open_130 rfl (fun _ => ?_) (fun h => absurd h (by decide))
                        refine xk_aload_n (pc := 136) d_K_open_136 rfl ?_
                        refine xk_getRo (pc := 137) d_K_open_137 fl_K_37 (by first | rfl | assumption) rfl (by omega) (by omega) (hS1 _ _ _ rfl (by omega)) ?_
                        refine xk_iload (pc := 140) d_K_open_140 rfl ?_
                        refine xk_aaloado (pc := 142) d_K_open_142 (by first | rfl | assumption) (by decide) (by decide) (by omega) (by omega) rfl (by omega) (by decide) (hS1 _ _ _ (xr_st_op _ ho) (by omega)) ?_
                        refine xk_iload_n (pc := 143) d_K_open_143 rfl ?_
                        refine xk_iload_n (pc := 144) d_K_open_144 rfl ?_
                        refine xk_cV2 (pc := 145) d_K_open_145 ml_K_91 cz_Opening_becomeFile ⟨rfl, rfl⟩ rfl (by first | rfl | assumption) (by omega) (by omega) (Nat.le_of_ble_eq_true rfl) ⟨(Nat.le_of_ble_eq_true rfl), (Nat.le_of_ble_eq_true rfl)⟩ ?_
                        refine c_Opening_becomeFile hn hS1 ho ?_
                        refine xk_aload_n (pc := 148) d_K_open_148 rfl ?_
                        refine xk_getRo (pc := 149) d_K_open_149 fl_K_44 (by first | rfl | assumption) rfl (by omega) (by omega) (hS2 _ _ _ rfl (by omega)) ?_
                        refine xk_iload_n (pc := 152) d_K_open_152 rfl ?_
                        refine xk_aaloado (pc := 153) d_K_open_153 (by first | rfl | assumption) (by decide) (by decide) (by omega) (by omega) rfl (by omega) (by decide) (hS2 _ _ _ (xr_st_ts _ hp) (by omega)) ?_
                        refine xk_iload (pc := 154) d_K_open_154 rfl ?_
                        refine xk_aload_n (pc := 156) d_K_open_156 rfl ?_
                        refine xk_getRo (pc := 157) d_K_open_157 fl_K_37 (by first | rfl | assumption) rfl (by omega) (by omega) (hS2 _ _ _ rfl (by omega)) ?_
                        refine xk_iload (pc := 160) d_K_open_160 rfl ?_
                        refine xk_aaloado (pc := 162) d_K_open_162 (by first | rfl | assumption) (by decide) (by decide) (by omega) (by omega) rfl (by omega) (by decide) (hS2 _ _ _ (xr_st_op _ ho) (by omega)) ?_
                        refine xk_cV2 (pc := 163) d_K_open_163 ml_K_94 cz_Task_hold ⟨rfl, rfl⟩ rfl (by first | rfl | assumption) (by omega) (by omega) (Nat.le_of_ble_eq_true rfl) ⟨(Nat.le_of_ble_eq_true rfl), (Nat.le_of_ble_eq_true rfl)⟩ ?_
                        refine c_Task_hold hn hS2 hp hd6 ho (c := 0) (by rw [xk_up_k (by decide), xk_up_k (by decide), xk_up_k (by decide), hm1 _ (by omega), hO.1 o ho, hc0]) ?_
                        refine xk_iload (pc := 166) d_K_open_166 rfl ?_
                        refine xk_iret (pc := 168) rfl d_K_open_168 rfl (Nat.le_of_ble_eq_true rfl) (Nat.le_of_ble_eq_true rfl) ?_
                        have e0 := (xs_open_s ep enf enmd).trans ((if_neg hna).trans (if_neg hnd))
                        rw [hd2] at e0
                        have hops : ¬ xs_ops s.2.2.1 = 16 := fun q => by
                          have := xs_num_lt hu0 16 (by omega)
                          unfold xs_ops at q
                          omega
                        have e := e0.trans (if_neg hops)
                        rw [e1, xs_nO_s eo] at e
                        have hfree : s.2.2.1.1 (6 * p + d) = none := of_decide_eq_true (xs_least_sp hd2).2.2.1
                        have hA1 := xr_A_F hA hF1 hm1 hr1
                        have hO2 := xr_O_new (f := f) (md := md) hA1.2.2.1 hp hd6 ho hfree hu0
                        refine xq_t e (xr_A_O hA1 hO2 (xr_S_de hp hS2 (fun a ha => by funext k; exact xk_up_a ha)) (fun a ha => by funext k; rw [xk_up_a (by omega), xk_up_a (by omega), xk_up_a (by omega), xk_up_a (by omega)]) (fun a ha => by funext k; rw [xk_up_a (by omega), xk_up_a (by omega)])) (fun a h1 h2 => ⟨?_, ?_⟩) hQ
                        · rw [← hm1 a (by omega)]
                          funext k
                          rw [xk_up_a (by omega), xk_up_a (by omega), xk_up_a (by omega), xk_up_a (by omega)]
                        · rw [← hr1 a (by omega)]
                          funext k
                          rw [xk_up_a (by omega), xk_up_a (by omega)]
                      · refine xk_if_ne (pc := 130) (tgt := 136) d_K_open_130 rfl (fun h => absurd (by decide) h) (fun _ => ?_)
                        refine xk_bipush (pc := 133) (v := (-8)) d_K_open_133 (by decide) ?_
                        refine xk_iret (pc := 135) rfl d_K_open_135 rfl (Nat.le_of_ble_eq_true rfl) (Nat.le_of_ble_eq_true rfl) ?_
                        have e0 := (xs_open_s ep enf enmd).trans ((if_neg hna).trans (if_neg hnd))
                        rw [hd2] at e0
                        have hops : ¬ xs_ops s.2.2.1 = 16 := fun q => by
                          obtain ⟨-, q2, q3, -⟩ := xs_least_sp eo
                          have hq : xs_used s.2.2.1 o = false := by
                            cases hq : xs_used s.2.2.1 o with
                            | false => rfl
                            | true => rw [hq] at q3; cases q3
                          have := xs_num_lt hq 16 (by omega)
                          unfold xs_ops at q
                          omega
                        have e := e0.trans (if_neg hops)
                        rw [e1] at e
                        exact xq_t e (xr_A_F hA hF1 hm1 (fun _ _ => rfl)) (xr_fr_m (fun a _ _ => hm1 a (by omega))) hQ
                    · exact absurd c_118 (xs_nm1 (by omega))
                · refine xk_istore (pc := 107) d_K_open_107 (by decide) ?_
                  refine xk_iload (pc := 109) d_K_open_109 rfl ?_
                  refine xk_iconst (pc := 111) (v := (-1)) d_K_open_111 (by decide) ?_
                  first | refine xk_icmp_eqN (pc := 112) (tgt := 121) d_K_open_112 rfl (by omega) (by omega) (fun c_112 => ?_) (fun c_112 => ?_) | refine xk_icmp_eq (pc := 112) (tgt := 121) d_K_open_112 rfl (fun c_112 => ?_) (fun c_112 => ?_)
                  · exact absurd c_112 (xs_nm1 (by omega))
                  · refine xk_iload (pc := 115) d_K_open_115 rfl ?_
                    refine xk_iconst (pc := 117) (v := (-1)) d_K_open_117 (by decide) ?_
                    refine xk_icmp_ne (pc := 118) (tgt := 124) d_K_open_118 rfl (fun h => absurd (by decide) h) (fun _ => ?_)
                    refine xk_bipush (pc := 121) (v := (-2)) d_K_open_121 (by decide) ?_
                    refine xk_iret (pc := 123) rfl d_K_open_123 rfl (Nat.le_of_ble_eq_true rfl) (Nat.le_of_ble_eq_true rfl) ?_
                    have e0 := (xs_open_s ep enf enmd).trans ((if_neg hna).trans (if_neg hnd))
                    rw [hd2] at e0
                    first
                      | exact xq_s e0 hA hQ
                      | (have hops : xs_ops s.2.2.1 = 16 := xs_num_all 16 (fun o ho => by
                           have := xs_least_np eo o (by omega) (by omega)
                           cases hq : xs_used s.2.2.1 o with
                           | true => rfl
                           | false => rw [hq] at this; cases this)
                         exact xq_s (e0.trans (if_pos hops)) hA hQ)
              · refine xk_istore (pc := 100) d_K_open_100 (by decide) ?_
                refine xk_aload_n (pc := 102) d_K_open_102 rfl ?_
                refine xk_iconst (pc := 103) (v := nI 0) d_K_open_103 (by decide) ?_
                refine xk_cV1 (pc := 104) d_K_open_104 ml_K_85 cz_K_unusedFrom ⟨rfl, rfl⟩ rfl (by first | rfl | assumption) (by omega) (by omega) (Nat.le_of_ble_eq_true rfl) ⟨(Nat.le_of_ble_eq_true rfl), (Nat.le_of_ble_eq_true rfl)⟩ ?_
                refine c_K_unusedFrom hn hS hO (by omega) (fun o eo ho => ?_) (fun eo => ?_)
                · refine xk_istore (pc := 107) d_K_open_107 (by decide) ?_
                  refine xk_iload (pc := 109) d_K_open_109 rfl ?_
                  refine xk_iconst (pc := 111) (v := (-1)) d_K_open_111 (by decide) ?_
                  refine xk_icmp_eq (pc := 112) (tgt := 121) d_K_open_112 rfl (fun _ => ?_) (fun h => absurd (by decide) h)
                  refine xk_bipush (pc := 121) (v := (-2)) d_K_open_121 (by decide) ?_
                  refine xk_iret (pc := 123) rfl d_K_open_123 rfl (Nat.le_of_ble_eq_true rfl) (Nat.le_of_ble_eq_true rfl) ?_
                  have e0 := (xs_open_s ep enf enmd).trans ((if_neg hna).trans (if_neg hnd))
                  rw [hd2] at e0
                  first
                    | exact xq_s e0 hA hQ
                    | (have hops : xs_ops s.2.2.1 = 16 := xs_num_all 16 (fun o ho => by
                         have := xs_least_np eo o (by omega) (by omega)
                         cases hq : xs_used s.2.2.1 o with
                         | true => rfl
                         | false => rw [hq] at this; cases this)
                       exact xq_s (e0.trans (if_pos hops)) hA hQ)
                · refine xk_istore (pc := 107) d_K_open_107 (by decide) ?_
                  refine xk_iload (pc := 109) d_K_open_109 rfl ?_
                  refine xk_iconst (pc := 111) (v := (-1)) d_K_open_111 (by decide) ?_
                  refine xk_icmp_eq (pc := 112) (tgt := 121) d_K_open_112 rfl (fun _ => ?_) (fun h => absurd (by decide) h)
                  refine xk_bipush (pc := 121) (v := (-2)) d_K_open_121 (by decide) ?_
                  refine xk_iret (pc := 123) rfl d_K_open_123 rfl (Nat.le_of_ble_eq_true rfl) (Nat.le_of_ble_eq_true rfl) ?_
                  have e0 := (xs_open_s ep enf enmd).trans ((if_neg hna).trans (if_neg hnd))
                  rw [hd2] at e0
                  first
                    | exact xq_s e0 hA hQ
                    | (have hops : xs_ops s.2.2.1 = 16 := xs_num_all 16 (fun o ho => by
                         have := xs_least_np eo o (by omega) (by omega)
                         cases hq : xs_used s.2.2.1 o with
                         | true => rfl
                         | false => rw [hq] at this; cases this)
                       exact xq_s (e0.trans (if_pos hops)) hA hQ)
            · refine xk_iload_n (pc := 80) d_K_open_80 rfl ?_
              refine xk_bipush (pc := 81) (v := (-2)) d_K_open_81 (by decide) ?_
              refine xk_iand (pc := 83) d_K_open_83 ?_
              first | refine xk_if_eqN (pc := 84) (tgt := 90) d_K_open_84 rfl (by omega) (fun c_84 => ?_) (fun c_84 => ?_) | refine xk_if_eq (pc := 84) (tgt := 90) d_K_open_84 rfl (fun c_84 => ?_) (fun c_84 => ?_)
              · have hnd : ¬ (s.2.1 f = 1 ∧ 1 < md) := by
                  intro q
                  first | exact c_77 q.1 | (have := (xs_bm2 md hmd).mp c_84; omega)
                refine xk_aload_n (pc := 90) d_K_open_90 rfl ?_
                refine xk_getRo (pc := 91) d_K_open_91 fl_K_44 (by first | rfl | assumption) rfl (by omega) (by omega) (hS _ _ _ rfl (by omega)) ?_
                refine xk_iload_n (pc := 94) d_K_open_94 rfl ?_
                refine xk_aaloado (pc := 95) d_K_open_95 (by first | rfl | assumption) (by decide) (by decide) (by omega) (by omega) rfl (by omega) (by decide) (hS _ _ _ (xr_st_ts _ hp) (by omega)) ?_
                refine xk_iconst (pc := 96) (v := nI 0) d_K_open_96 (by decide) ?_
                refine xk_cV1 (pc := 97) d_K_open_97 ml_K_81 cz_Task_freeFrom ⟨rfl, rfl⟩ rfl (by first | rfl | assumption) (by omega) (by omega) (Nat.le_of_ble_eq_true rfl) ⟨(Nat.le_of_ble_eq_true rfl), (Nat.le_of_ble_eq_true rfl)⟩ ?_
                refine c_Task_freeFrom hn hS hp (O := s.2.2.1) (by omega) (fun d hd => hO.2.1 p d hp hd) (fun d hd2 hd6 => ?_) (fun hd2 => ?_)
                · refine xk_istore (pc := 100) d_K_open_100 (by decide) ?_
                  refine xk_aload_n (pc := 102) d_K_open_102 rfl ?_
                  refine xk_iconst (pc := 103) (v := nI 0) d_K_open_103 (by decide) ?_
                  refine xk_cV1 (pc := 104) d_K_open_104 ml_K_85 cz_K_unusedFrom ⟨rfl, rfl⟩ rfl (by first | rfl | assumption) (by omega) (by omega) (Nat.le_of_ble_eq_true rfl) ⟨(Nat.le_of_ble_eq_true rfl), (Nat.le_of_ble_eq_true rfl)⟩ ?_
                  refine c_K_unusedFrom hn hS hO (by omega) (fun o eo ho => ?_) (fun eo => ?_)
                  · refine xk_istore (pc := 107) d_K_open_107 (by decide) ?_
                    refine xk_iload (pc := 109) d_K_open_109 rfl ?_
                    refine xk_iconst (pc := 111) (v := (-1)) d_K_open_111 (by decide) ?_
                    first | refine xk_icmp_eqN (pc := 112) (tgt := 121) d_K_open_112 rfl (by omega) (by omega) (fun c_112 => ?_) (fun c_112 => ?_) | refine xk_icmp_eq (pc := 112) (tgt := 121) d_K_open_112 rfl (fun c_112 => ?_) (fun c_112 => ?_)
                    · exact absurd c_112 (xs_nm1 (by omega))
                    · refine xk_iload (pc := 115) d_K_open_115 rfl ?_
                      refine xk_iconst (pc := 117) (v := (-1)) d_K_open_117 (by decide) ?_
                      first | refine xk_icmp_neN (pc := 118) (tgt := 124) d_K_open_118 rfl (by omega) (by omega) (fun c_118 => ?_) (fun c_118 => ?_) | refine xk_icmp_ne (pc := 118) (tgt := 124) d_K_open_118 rfl (fun c_118 => ?_) (fun c_118 => ?_)
                      · refine xk_aload_n (pc := 124) d_K_open_124 rfl ?_
                        refine xk_iload_n (pc := 125) d_K_open_125 rfl ?_
                        refine xk_iload_n (pc := 126) d_K_open_126 rfl ?_
                        refine xk_cV2 (pc := 127) d_K_open_127 ml_K_88 cz_K_readyFile ⟨rfl, rfl⟩ rfl (by first | rfl | assumption) (by omega) (by omega) (Nat.le_of_ble_eq_true rfl) ⟨(Nat.le_of_ble_eq_true rfl), (Nat.le_of_ble_eq_true rfl)⟩ ?_
                        refine c_K_readyFile hn hS hF okF hsm hf hmd (fun F1 m1 r1 e1 hF1 hm1 hr1 => ?_) (fun F1 m1 e1 hF1 hm1 => ?_)
                        · have hS1 := xr_S_9 hS hr1
                          have hko := xr_kd_op o ho
                          have hS2 : xr_S (xk_up r1 (22 + o) 4 none) n := xr_S.up hS1 (xr_0_op o ho)
                          have hu0 : xs_used s.2.2.1 o = false := by
                            have := (xs_least_sp eo).2.2.1
                            cases hq : xs_used s.2.2.1 o with
                            | false => rfl
                            | true => rw [hq] at this; cases this
                          have hc0 : xs_cnt s.2.2.1.1 o 42 = 0 := by
                            cases hq : xs_cnt s.2.2.1.1 o 42 with
                            | zero => rfl
                            | succ k => rw [xs_used_iff.mpr (by omega)] at hu0; cases hu0
                          refine xk_if_ne (pc := 130) (tgt := 136) d_K_open_130 rfl (fun _ => ?_) (fun h => absurd h (by decide))
                          refine xk_aload_n (pc := 136) d_K_open_136 rfl ?_
                          refine xk_getRo (pc := 137) d_K_open_137 fl_K_37 (by first | rfl | assumption) rfl (by omega) (by omega) (hS1 _ _ _ rfl (by omega)) ?_
                          refine xk_iload (pc := 140) d_K_open_140 rfl ?_
                          refine xk_aaloado (pc := 142) d_K_open_142 (by first | rfl | assumption) (by decide) (by decide) (by omega) (by omega) rfl (by omega) (by decide) (hS1 _ _ _ (xr_st_op _ ho) (by omega)) ?_
                          refine xk_iload_n (pc := 143) d_K_open_143 rfl ?_
                          refine xk_iload_n (pc := 144) d_K_open_144 rfl ?_
                          refine xk_cV2 (pc := 145) d_K_open_145 ml_K_91 cz_Opening_becomeFile ⟨rfl, rfl⟩ rfl (by first | rfl | assumption) (by omega) (by omega) (Nat.le_of_ble_eq_true rfl) ⟨(Nat.le_of_ble_eq_true rfl), (Nat.le_of_ble_eq_true rfl)⟩ ?_
                          refine c_Opening_becomeFile hn hS1 ho ?_
                          refine xk_aload_n (pc := 148) d_K_open_148 rfl ?_
                          refine xk_getRo (pc := 149) d_K_open_149 fl_K_44 (by first | rfl | assumption) rfl (by omega) (by omega) (hS2 _ _ _ rfl (by omega)) ?_
                          refine xk_iload_n (pc := 152) d_K_open_152 rfl ?_
                          refine xk_aaloado (pc := 153) d_K_open_153 (by first | rfl | assumption) (by decide) (by decide) (by omega) (by omega) rfl (by omega) (by decide) (hS2 _ _ _ (xr_st_ts _ hp) (by omega)) ?_
                          refine xk_iload (pc := 154) d_K_open_154 rfl ?_
                          refine xk_aload_n (pc := 156) d_K_open_156 rfl ?_
                          refine xk_getRo (pc := 157) d_K_open_157 fl_K_37 (by first | rfl | assumption) rfl (by omega) (by omega) (hS2 _ _ _ rfl (by omega)) ?_
                          refine xk_iload (pc := 160) d_K_open_160 rfl ?_
                          refine xk_aaloado (pc := 162) d_K_open_162 (by first | rfl | assumption) (by decide) (by decide) (by omega) (by omega) rfl (by omega) (by decide) (hS2 _ _ _ (xr_st_op _ ho) (by omega)) ?_
                          refine xk_cV2 (pc := 163) d_K_open_163 ml_K_94 cz_Task_hold ⟨rfl, rfl⟩ rfl (by first | rfl | assumption) (by omega) (by omega) (Nat.le_of_ble_eq_true rfl) ⟨(Nat.le_of_ble_eq_true rfl), (Nat.le_of_ble_eq_true rfl)⟩ ?_
                          refine c_Task_hold hn hS2 hp hd6 ho (c := 0) (by rw [xk_up_k (by decide), xk_up_k (by decide), xk_up_k (by decide), hm1 _ (by omega), hO.1 o ho, hc0]) ?_
                          refine xk_iload (pc := 166) d_K_open_166 rfl ?_
                          refine xk_iret (pc := 168) rfl d_K_open_168 rfl (Nat.le_of_ble_eq_true rfl) (Nat.le_of_ble_eq_true rfl) ?_
                          have e0 := (xs_open_s ep enf enmd).trans ((if_neg hna).trans (if_neg hnd))
                          rw [hd2] at e0
                          have hops : ¬ xs_ops s.2.2.1 = 16 := fun q => by
                            have := xs_num_lt hu0 16 (by omega)
                            unfold xs_ops at q
                            omega
                          have e := e0.trans (if_neg hops)
                          rw [e1, xs_nO_s eo] at e
                          have hfree : s.2.2.1.1 (6 * p + d) = none := of_decide_eq_true (xs_least_sp hd2).2.2.1
                          have hA1 := xr_A_F hA hF1 hm1 hr1
                          have hO2 := xr_O_new (f := f) (md := md) hA1.2.2.1 hp hd6 ho hfree hu0
                          refine xq_t e (xr_A_O hA1 hO2 (xr_S_de hp hS2 (fun a ha => by funext k; exact xk_up_a ha)) (fun a ha => by funext k; rw [xk_up_a (by omega), xk_up_a (by omega), xk_up_a (by omega), xk_up_a (by omega)]) (fun a ha => by funext k; rw [xk_up_a (by omega), xk_up_a (by omega)])) (fun a h1 h2 => ⟨?_, ?_⟩) hQ
                          · rw [← hm1 a (by omega)]
                            funext k
                            rw [xk_up_a (by omega), xk_up_a (by omega), xk_up_a (by omega), xk_up_a (by omega)]
                          · rw [← hr1 a (by omega)]
                            funext k
                            rw [xk_up_a (by omega), xk_up_a (by omega)]
                        · refine xk_if_ne (pc := 130) (tgt := 136) d_K_open_130 rfl (fun h => absurd (by decide) h) (fun _ => ?_)
                          refine xk_bipush (pc := 133) (v := (-8)) d_K_open_133 (by decide) ?_
                          refine xk_iret (pc := 135) rfl d_K_open_135 rfl (Nat.le_of_ble_eq_true rfl) (Nat.le_of_ble_eq_true rfl) ?_
                          have e0 := (xs_open_s ep enf enmd).trans ((if_neg hna).trans (if_neg hnd))
                          rw [hd2] at e0
                          have hops : ¬ xs_ops s.2.2.1 = 16 := fun q => by
                            obtain ⟨-, q2, q3, -⟩ := xs_least_sp eo
                            have hq : xs_used s.2.2.1 o = false := by
                              cases hq : xs_used s.2.2.1 o with
                              | false => rfl
                              | true => rw [hq] at q3; cases q3
                            have := xs_num_lt hq 16 (by omega)
                            unfold xs_ops at q
                            omega
                          have e := e0.trans (if_neg hops)
                          rw [e1] at e
                          exact xq_t e (xr_A_F hA hF1 hm1 (fun _ _ => rfl)) (xr_fr_m (fun a _ _ => hm1 a (by omega))) hQ
                      · exact absurd c_118 (xs_nm1 (by omega))
                  · refine xk_istore (pc := 107) d_K_open_107 (by decide) ?_
                    refine xk_iload (pc := 109) d_K_open_109 rfl ?_
                    refine xk_iconst (pc := 111) (v := (-1)) d_K_open_111 (by decide) ?_
                    first | refine xk_icmp_eqN (pc := 112) (tgt := 121) d_K_open_112 rfl (by omega) (by omega) (fun c_112 => ?_) (fun c_112 => ?_) | refine xk_icmp_eq (pc := 112) (tgt := 121) d_K_open_112 rfl (fun c_112 => ?_) (fun c_112 => ?_)
                    · exact absurd c_112 (xs_nm1 (by omega))
                    · refine xk_iload (pc := 115) d_K_open_115 rfl ?_
                      refine xk_iconst (pc := 117) (v := (-1)) d_K_open_117 (by decide) ?_
                      refine xk_icmp_ne (pc := 118) (tgt := 124) d_K_open_118 rfl (fun h => absurd (by decide) h) (fun _ => ?_)
                      refine xk_bipush (pc := 121) (v := (-2)) d_K_open_121 (by decide) ?_
                      refine xk_iret (pc := 123) rfl d_K_open_123 rfl (Nat.le_of_ble_eq_true rfl) (Nat.le_of_ble_eq_true rfl) ?_
                      have e0 := (xs_open_s ep enf enmd).trans ((if_neg hna).trans (if_neg hnd))
                      rw [hd2] at e0
                      first
                        | exact xq_s e0 hA hQ
                        | (have hops : xs_ops s.2.2.1 = 16 := xs_num_all 16 (fun o ho => by
                             have := xs_least_np eo o (by omega) (by omega)
                             cases hq : xs_used s.2.2.1 o with
                             | true => rfl
                             | false => rw [hq] at this; cases this)
                           exact xq_s (e0.trans (if_pos hops)) hA hQ)
                · refine xk_istore (pc := 100) d_K_open_100 (by decide) ?_
                  refine xk_aload_n (pc := 102) d_K_open_102 rfl ?_
                  refine xk_iconst (pc := 103) (v := nI 0) d_K_open_103 (by decide) ?_
                  refine xk_cV1 (pc := 104) d_K_open_104 ml_K_85 cz_K_unusedFrom ⟨rfl, rfl⟩ rfl (by first | rfl | assumption) (by omega) (by omega) (Nat.le_of_ble_eq_true rfl) ⟨(Nat.le_of_ble_eq_true rfl), (Nat.le_of_ble_eq_true rfl)⟩ ?_
                  refine c_K_unusedFrom hn hS hO (by omega) (fun o eo ho => ?_) (fun eo => ?_)
                  · refine xk_istore (pc := 107) d_K_open_107 (by decide) ?_
                    refine xk_iload (pc := 109) d_K_open_109 rfl ?_
                    refine xk_iconst (pc := 111) (v := (-1)) d_K_open_111 (by decide) ?_
                    refine xk_icmp_eq (pc := 112) (tgt := 121) d_K_open_112 rfl (fun _ => ?_) (fun h => absurd (by decide) h)
                    refine xk_bipush (pc := 121) (v := (-2)) d_K_open_121 (by decide) ?_
                    refine xk_iret (pc := 123) rfl d_K_open_123 rfl (Nat.le_of_ble_eq_true rfl) (Nat.le_of_ble_eq_true rfl) ?_
                    have e0 := (xs_open_s ep enf enmd).trans ((if_neg hna).trans (if_neg hnd))
                    rw [hd2] at e0
                    first
                      | exact xq_s e0 hA hQ
                      | (have hops : xs_ops s.2.2.1 = 16 := xs_num_all 16 (fun o ho => by
                           have := xs_least_np eo o (by omega) (by omega)
                           cases hq : xs_used s.2.2.1 o with
                           | true => rfl
                           | false => rw [hq] at this; cases this)
                         exact xq_s (e0.trans (if_pos hops)) hA hQ)
                  · refine xk_istore (pc := 107) d_K_open_107 (by decide) ?_
                    refine xk_iload (pc := 109) d_K_open_109 rfl ?_
                    refine xk_iconst (pc := 111) (v := (-1)) d_K_open_111 (by decide) ?_
                    refine xk_icmp_eq (pc := 112) (tgt := 121) d_K_open_112 rfl (fun _ => ?_) (fun h => absurd (by decide) h)
                    refine xk_bipush (pc := 121) (v := (-2)) d_K_open_121 (by decide) ?_
                    refine xk_iret (pc := 123) rfl d_K_open_123 rfl (Nat.le_of_ble_eq_true rfl) (Nat.le_of_ble_eq_true rfl) ?_
                    have e0 := (xs_open_s ep enf enmd).trans ((if_neg hna).trans (if_neg hnd))
                    rw [hd2] at e0
                    first
                      | exact xq_s e0 hA hQ
                      | (have hops : xs_ops s.2.2.1 = 16 := xs_num_all 16 (fun o ho => by
                           have := xs_least_np eo o (by omega) (by omega)
                           cases hq : xs_used s.2.2.1 o with
                           | true => rfl
                           | false => rw [hq] at this; cases this)
                         exact xq_s (e0.trans (if_pos hops)) hA hQ)
              · refine xk_bipush (pc := 87) (v := (-5)) d_K_open_87 (by decide) ?_
                refine xk_iret (pc := 89) rfl d_K_open_89 rfl (Nat.le_of_ble_eq_true rfl) (Nat.le_of_ble_eq_true rfl) ?_
                have hgt : 1 < md := by
                  have : ¬ md ≤ 1 := fun w => c_84 ((xs_bm2 md hmd).mpr w)
                  omega
                have e := (xs_open_s ep enf enmd).trans ((if_neg hna).trans (if_pos ⟨c_77, hgt⟩))
                exact xq_s e hA hQ
        · rw [xs_bi_z] at c_36
          refine xk_iload_n (pc := 39) d_K_open_39 rfl ?_
          refine xk_bipush (pc := 40) (v := nI 8) d_K_open_40 (by decide) ?_
          refine xk_iand (pc := 42) d_K_open_42 ?_
          first | refine xk_if_neN (pc := 43) (tgt := 50) d_K_open_43 rfl (by omega) (fun c_43 => ?_) (fun c_43 => ?_) | refine xk_if_ne (pc := 43) (tgt := 50) d_K_open_43 rfl (fun c_43 => ?_) (fun c_43 => ?_)
          · refine xk_iconst (pc := 50) (v := nI 0) d_K_open_50 (by decide) ?_
            refine xk_istore (pc := 51) d_K_open_51 (by decide) ?_
            refine xk_aload_n (pc := 53) d_K_open_53 rfl ?_
            refine xk_getRo (pc := 54) d_K_open_54 fl_K_25 (by first | rfl | assumption) rfl (by omega) (by omega) (hS _ _ _ rfl (by omega)) ?_
            refine xk_iload_n (pc := 57) d_K_open_57 rfl ?_
            refine xk_ialoado (pc := 58) d_K_open_58 (by first | rfl | assumption) (by omega) (by omega) rfl (by omega) (by decide) (hP f hf) ?_
            first | refine xk_if_eqN (pc := 59) (tgt := 67) d_K_open_59 rfl (by omega) (fun c_59 => ?_) (fun c_59 => ?_) | refine xk_if_eq (pc := 59) (tgt := 67) d_K_open_59 rfl (fun c_59 => ?_) (fun c_59 => ?_)
            · refine xk_bipush (pc := 67) (v := (-4)) d_K_open_67 (by decide) ?_
              refine xk_iret (pc := 69) rfl d_K_open_69 rfl (Nat.le_of_ble_eq_true rfl) (Nat.le_of_ble_eq_true rfl) ?_
              first
                | (have e := (xs_open_s ep enf enmd).trans (if_pos (Or.inl c_59))
                   exact xq_s e hA hQ)
                | (have e := (xs_open_s ep enf enmd).trans (if_pos (Or.inr ⟨c_36, (xs_b8 md hmd).mp c_43⟩))
                   exact xq_s e hA hQ)
            · refine xk_iload (pc := 62) d_K_open_62 rfl ?_
              refine xk_if_eq (pc := 64) (tgt := 70) d_K_open_64 rfl (fun _ => ?_) (fun h => absurd (by decide) h)
              have hna : ¬ (s.2.1 f = 0 ∨ (s.1.1.1 f = false ∧ md / 8 % 2 = 0)) := by
                rintro (q | q)
                · exact c_59 q
                · first | (rw [c_37] at q; cases q.1) | exact c_43 ((xs_b8 md hmd).mpr q.2)
              refine xk_aload_n (pc := 70) d_K_open_70 rfl ?_
              refine xk_getRo (pc := 71) d_K_open_71 fl_K_25 (by first | rfl | assumption) rfl (by omega) (by omega) (hS _ _ _ rfl (by omega)) ?_
              refine xk_iload_n (pc := 74) d_K_open_74 rfl ?_
              refine xk_ialoado (pc := 75) d_K_open_75 (by first | rfl | assumption) (by omega) (by omega) rfl (by omega) (by decide) (hP f hf) ?_
              refine xk_iconst (pc := 76) (v := nI 1) d_K_open_76 (by decide) ?_
              first | refine xk_icmp_neN (pc := 77) (tgt := 90) d_K_open_77 rfl (by omega) (by omega) (fun c_77 => ?_) (fun c_77 => ?_) | refine xk_icmp_ne (pc := 77) (tgt := 90) d_K_open_77 rfl (fun c_77 => ?_) (fun c_77 => ?_)
              · have hnd : ¬ (s.2.1 f = 1 ∧ 1 < md) := by
                  intro q
                  first | exact c_77 q.1 | (have := (xs_bm2 md hmd).mp c_84; omega)
                refine xk_aload_n (pc := 90) d_K_open_90 rfl ?_
                refine xk_getRo (pc := 91) d_K_open_91 fl_K_44 (by first | rfl | assumption) rfl (by omega) (by omega) (hS _ _ _ rfl (by omega)) ?_
                refine xk_iload_n (pc := 94) d_K_open_94 rfl ?_
                refine xk_aaloado (pc := 95) d_K_open_95 (by first | rfl | assumption) (by decide) (by decide) (by omega) (by omega) rfl (by omega) (by decide) (hS _ _ _ (xr_st_ts _ hp) (by omega)) ?_
                refine xk_iconst (pc := 96) (v := nI 0) d_K_open_96 (by decide) ?_
                refine xk_cV1 (pc := 97) d_K_open_97 ml_K_81 cz_Task_freeFrom ⟨rfl, rfl⟩ rfl (by first | rfl | assumption) (by omega) (by omega) (Nat.le_of_ble_eq_true rfl) ⟨(Nat.le_of_ble_eq_true rfl), (Nat.le_of_ble_eq_true rfl)⟩ ?_
                refine c_Task_freeFrom hn hS hp (O := s.2.2.1) (by omega) (fun d hd => hO.2.1 p d hp hd) (fun d hd2 hd6 => ?_) (fun hd2 => ?_)
                · refine xk_istore (pc := 100) d_K_open_100 (by decide) ?_
                  refine xk_aload_n (pc := 102) d_K_open_102 rfl ?_
                  refine xk_iconst (pc := 103) (v := nI 0) d_K_open_103 (by decide) ?_
                  refine xk_cV1 (pc := 104) d_K_open_104 ml_K_85 cz_K_unusedFrom ⟨rfl, rfl⟩ rfl (by first | rfl | assumption) (by omega) (by omega) (Nat.le_of_ble_eq_true rfl) ⟨(Nat.le_of_ble_eq_true rfl), (Nat.le_of_ble_eq_true rfl)⟩ ?_
                  refine c_K_unusedFrom hn hS hO (by omega) (fun o eo ho => ?_) (fun eo => ?_)
                  · refine xk_istore (pc := 107) d_K_open_107 (by decide) ?_
                    refine xk_iload (pc := 109) d_K_open_109 rfl ?_
                    refine xk_iconst (pc := 111) (v := (-1)) d_K_open_111 (by decide) ?_
                    first | refine xk_icmp_eqN (pc := 112) (tgt := 121) d_K_open_112 rfl (by omega) (by omega) (fun c_112 => ?_) (fun c_112 => ?_) | refine xk_icmp_eq (pc := 112) (tgt := 121) d_K_open_112 rfl (fun c_112 => ?_) (fun c_112 => ?_)
                    · exact absurd c_112 (xs_nm1 (by omega))
                    · refine xk_iload (pc := 115) d_K_open_115 rfl ?_
                      refine xk_iconst (pc := 117) (v := (-1)) d_K_open_117 (by decide) ?_
                      first | refine xk_icmp_neN (pc := 118) (tgt := 124) d_K_open_118 rfl (by omega) (by omega) (fun c_118 => ?_) (fun c_118 => ?_) | refine xk_icmp_ne (pc := 118) (tgt := 124) d_K_open_118 rfl (fun c_118 => ?_) (fun c_118 => ?_)
                      · refine xk_aload_n (pc := 124) d_K_open_124 rfl ?_
                        refine xk_iload_n (pc := 125) d_K_open_125 rfl ?_
                        refine xk_iload_n (pc := 126) d_K_open_126 rfl ?_
                        refine xk_cV2 (pc := 127) d_K_open_127 ml_K_88 cz_K_readyFile ⟨rfl, rfl⟩ rfl (by first | rfl | assumption) (by omega) (by omega) (Nat.le_of_ble_eq_true rfl) ⟨(Nat.le_of_ble_eq_true rfl), (Nat.le_of_ble_eq_true rfl)⟩ ?_
                        refine c_K_readyFile hn hS hF okF hsm hf hmd (fun F1 m1 r1 e1 hF1 hm1 hr1 => ?_) (fun F1 m1 e1 hF1 hm1 => ?_)
                        · have hS1 := xr_S_9 hS hr1
                          have hko := xr_kd_op o ho
                          have hS2 : xr_S (xk_up r1 (22 + o) 4 none) n := xr_S.up hS1 (xr_0_op o ho)
                          have hu0 : xs_used s.2.2.1 o = false := by
                            have := (xs_least_sp eo).2.2.1
                            cases hq : xs_used s.2.2.1 o with
                            | false => rfl
                            | true => rw [hq] at this; cases this
                          have hc0 : xs_cnt s.2.2.1.1 o 42 = 0 := by
                            cases hq : xs_cnt s.2.2.1.1 o 42 with
                            | zero => rfl
                            | succ k => rw [xs_used_iff.mpr (by omega)] at hu0; cases hu0
                          refine xk_if_ne (pc := 130) (tgt := 136) d_K_open_130 rfl (fun _ => ?_) (fun h => absurd h (by decide))
                          refine xk_aload_n (pc := 136) d_K_open_136 rfl ?_
                          refine xk_getRo (pc := 137) d_K_open_137 fl_K_37 (by first | rfl | assumption) rfl (by omega) (by omega) (hS1 _ _ _ rfl (by omega)) ?_
                          refine xk_iload (pc := 140) d_K_open_140 rfl ?_
                          refine xk_aaloado (pc := 142) d_K_open_142 (by first | rfl | assumption) (by decide) (by decide) (by omega) (by omega) rfl (by omega) (by decide) (hS1 _ _ _ (xr_st_op _ ho) (by omega)) ?_
                          refine xk_iload_n (pc := 143) d_K_open_143 rfl ?_
                          refine xk_iload_n (pc := 144) d_K_open_144 rfl ?_
                          refine xk_cV2 (pc := 145) d_K_open_145 ml_K_91 cz_Opening_becomeFile ⟨rfl, rfl⟩ rfl (by first | rfl | assumption) (by omega) (by omega) (Nat.le_of_ble_eq_true rfl) ⟨(Nat.le_of_ble_eq_true rfl), (Nat.le_of_ble_eq_true rfl)⟩ ?_
                          refine c_Opening_becomeFile hn hS1 ho ?_
                          refine xk_aload_n (pc := 148) d_K_open_148 rfl ?_
                          refine xk_getRo (pc := 149) d_K_open_149 fl_K_44 (by first | rfl | assumption) rfl (by omega) (by omega) (hS2 _ _ _ rfl (by omega)) ?_
                          refine xk_iload_n (pc := 152) d_K_open_152 rfl ?_
                          refine xk_aaloado (pc := 153) d_K_open_153 (by first | rfl | assumption) (by decide) (by decide) (by omega) (by omega) rfl (by omega) (by decide) (hS2 _ _ _ (xr_st_ts _ hp) (by omega)) ?_
                          refine xk_iload (pc := 154) d_K_open_154 rfl ?_
                          refine xk_aload_n (pc := 156) d_K_open_156 rfl ?_
                          refine xk_getRo (pc := 157) d_K_open_157 fl_K_37 (by first | rfl | assumption) rfl (by omega) (by omega) (hS2 _ _ _ rfl (by omega)) ?_
                          refine xk_iload (pc := 160) d_K_open_160 rfl ?_
                          refine xk_aaloado (pc := 162) d_K_open_162 (by first | rfl | assumption) (by decide) (by decide) (by omega) (by omega) rfl (by omega) (by decide) (hS2 _ _ _ (xr_st_op _ ho) (by omega)) ?_
                          refine xk_cV2 (pc := 163) d_K_open_163 ml_K_94 cz_Task_hold ⟨rfl, rfl⟩ rfl (by first | rfl | assumption) (by omega) (by omega) (Nat.le_of_ble_eq_true rfl) ⟨(Nat.le_of_ble_eq_true rfl), (Nat.le_of_ble_eq_true rfl)⟩ ?_
                          refine c_Task_hold hn hS2 hp hd6 ho (c := 0) (by rw [xk_up_k (by decide), xk_up_k (by decide), xk_up_k (by decide), hm1 _ (by omega), hO.1 o ho, hc0]) ?_
                          refine xk_iload (pc := 166) d_K_open_166 rfl ?_
                          refine xk_iret (pc := 168) rfl d_K_open_168 rfl (Nat.le_of_ble_eq_true rfl) (Nat.le_of_ble_eq_true rfl) ?_
                          have e0 := (xs_open_s ep enf enmd).trans ((if_neg hna).trans (if_neg hnd))
                          rw [hd2] at e0
                          have hops : ¬ xs_ops s.2.2.1 = 16 := fun q => by
                            have := xs_num_lt hu0 16 (by omega)
                            unfold xs_ops at q
                            omega
                          have e := e0.trans (if_neg hops)
                          rw [e1, xs_nO_s eo] at e
                          have hfree : s.2.2.1.1 (6 * p + d) = none := of_decide_eq_true (xs_least_sp hd2).2.2.1
                          have hA1 := xr_A_F hA hF1 hm1 hr1
                          have hO2 := xr_O_new (f := f) (md := md) hA1.2.2.1 hp hd6 ho hfree hu0
                          refine xq_t e (xr_A_O hA1 hO2 (xr_S_de hp hS2 (fun a ha => by funext k; exact xk_up_a ha)) (fun a ha => by funext k; rw [xk_up_a (by omega), xk_up_a (by omega), xk_up_a (by omega), xk_up_a (by omega)]) (fun a ha => by funext k; rw [xk_up_a (by omega), xk_up_a (by omega)])) (fun a h1 h2 => ⟨?_, ?_⟩) hQ
                          · rw [← hm1 a (by omega)]
                            funext k
                            rw [xk_up_a (by omega), xk_up_a (by omega), xk_up_a (by omega), xk_up_a (by omega)]
                          · rw [← hr1 a (by omega)]
                            funext k
                            rw [xk_up_a (by omega), xk_up_a (by omega)]
                        · refine xk_if_ne (pc := 130) (tgt := 136) d_K_open_130 rfl (fun h => absurd (by decide) h) (fun _ => ?_)
                          refine xk_bipush (pc := 133) (v := (-8)) d_K_open_133 (by decide) ?_
                          refine xk_iret (pc := 135) rfl d_K_open_135 rfl (Nat.le_of_ble_eq_true rfl) (Nat.le_of_ble_eq_true rfl) ?_
                          have e0 := (xs_open_s ep enf enmd).trans ((if_neg hna).trans (if_neg hnd))
                          rw [hd2] at e0
                          have hops : ¬ xs_ops s.2.2.1 = 16 := fun q => by
                            obtain ⟨-, q2, q3, -⟩ := xs_least_sp eo
                            have hq : xs_used s.2.2.1 o = false := by
                              cases hq : xs_used s.2.2.1 o with
                              | false => rfl
                              | true => rw [hq] at q3; cases q3
                            have := xs_num_lt hq 16 (by omega)
                            unfold xs_ops at q
                            omega
                          have e := e0.trans (if_neg hops)
                          rw [e1] at e
                          exact xq_t e (xr_A_F hA hF1 hm1 (fun _ _ => rfl)) (xr_fr_m (fun a _ _ => hm1 a (by omega))) hQ
                      · exact absurd c_118 (xs_nm1 (by omega))
                  · refine xk_istore (pc := 107) d_K_open_107 (by decide) ?_
                    refine xk_iload (pc := 109) d_K_open_109 rfl ?_
                    refine xk_iconst (pc := 111) (v := (-1)) d_K_open_111 (by decide) ?_
                    first | refine xk_icmp_eqN (pc := 112) (tgt := 121) d_K_open_112 rfl (by omega) (by omega) (fun c_112 => ?_) (fun c_112 => ?_) | refine xk_icmp_eq (pc := 112) (tgt := 121) d_K_open_112 rfl (fun c_112 => ?_) (fun c_112 => ?_)
                    · exact absurd c_112 (xs_nm1 (by omega))
                    · refine xk_iload (pc := 115) d_K_open_115 rfl ?_
                      refine xk_iconst (pc := 117) (v := (-1)) d_K_open_117 (by decide) ?_
                      refine xk_icmp_ne (pc := 118) (tgt := 124) d_K_open_118 rfl (fun h => absurd (by decide) h) (fun _ => ?_)
                      refine xk_bipush (pc := 121) (v := (-2)) d_K_open_121 (by decide) ?_
                      refine xk_iret (pc := 123) rfl d_K_open_123 rfl (Nat.le_of_ble_eq_true rfl) (Nat.le_of_ble_eq_true rfl) ?_
                      have e0 := (xs_open_s ep enf enmd).trans ((if_neg hna).trans (if_neg hnd))
                      rw [hd2] at e0
                      first
                        | exact xq_s e0 hA hQ
                        | (have hops : xs_ops s.2.2.1 = 16 := xs_num_all 16 (fun o ho => by
                             have := xs_least_np eo o (by omega) (by omega)
                             cases hq : xs_used s.2.2.1 o with
                             | true => rfl
                             | false => rw [hq] at this; cases this)
                           exact xq_s (e0.trans (if_pos hops)) hA hQ)
                · refine xk_istore (pc := 100) d_K_open_100 (by decide) ?_
                  refine xk_aload_n (pc := 102) d_K_open_102 rfl ?_
                  refine xk_iconst (pc := 103) (v := nI 0) d_K_open_103 (by decide) ?_
                  refine xk_cV1 (pc := 104) d_K_open_104 ml_K_85 cz_K_unusedFrom ⟨rfl, rfl⟩ rfl (by first | rfl | assumption) (by omega) (by omega) (Nat.le_of_ble_eq_true rfl) ⟨(Nat.le_of_ble_eq_true rfl), (Nat.le_of_ble_eq_true rfl)⟩ ?_
                  refine c_K_unusedFrom hn hS hO (by omega) (fun o eo ho => ?_) (fun eo => ?_)
                  · refine xk_istore (pc := 107) d_K_open_107 (by decide) ?_
                    refine xk_iload (pc := 109) d_K_open_109 rfl ?_
                    refine xk_iconst (pc := 111) (v := (-1)) d_K_open_111 (by decide) ?_
                    refine xk_icmp_eq (pc := 112) (tgt := 121) d_K_open_112 rfl (fun _ => ?_) (fun h => absurd (by decide) h)
                    refine xk_bipush (pc := 121) (v := (-2)) d_K_open_121 (by decide) ?_
                    refine xk_iret (pc := 123) rfl d_K_open_123 rfl (Nat.le_of_ble_eq_true rfl) (Nat.le_of_ble_eq_true rfl) ?_
                    have e0 := (xs_open_s ep enf enmd).trans ((if_neg hna).trans (if_neg hnd))
                    rw [hd2] at e0
                    first
                      | exact xq_s e0 hA hQ
                      | (have hops : xs_ops s.2.2.1 = 16 := xs_num_all 16 (fun o ho => by
                           have := xs_least_np eo o (by omega) (by omega)
                           cases hq : xs_used s.2.2.1 o with
                           | true => rfl
                           | false => rw [hq] at this; cases this)
                         exact xq_s (e0.trans (if_pos hops)) hA hQ)
                  · refine xk_istore (pc := 107) d_K_open_107 (by decide) ?_
                    refine xk_iload (pc := 109) d_K_open_109 rfl ?_
                    refine xk_iconst (pc := 111) (v := (-1)) d_K_open_111 (by decide) ?_
                    refine xk_icmp_eq (pc := 112) (tgt := 121) d_K_open_112 rfl (fun _ => ?_) (fun h => absurd (by decide) h)
                    refine xk_bipush (pc := 121) (v := (-2)) d_K_open_121 (by decide) ?_
                    refine xk_iret (pc := 123) rfl d_K_open_123 rfl (Nat.le_of_ble_eq_true rfl) (Nat.le_of_ble_eq_true rfl) ?_
                    have e0 := (xs_open_s ep enf enmd).trans ((if_neg hna).trans (if_neg hnd))
                    rw [hd2] at e0
                    first
                      | exact xq_s e0 hA hQ
                      | (have hops : xs_ops s.2.2.1 = 16 := xs_num_all 16 (fun o ho => by
                           have := xs_least_np eo o (by omega) (by omega)
                           cases hq : xs_used s.2.2.1 o with
                           | true => rfl
                           | false => rw [hq] at this; cases this)
                         exact xq_s (e0.trans (if_pos hops)) hA hQ)
              · refine xk_iload_n (pc := 80) d_K_open_80 rfl ?_
                refine xk_bipush (pc := 81) (v := (-2)) d_K_open_81 (by decide) ?_
                refine xk_iand (pc := 83) d_K_open_83 ?_
                first | refine xk_if_eqN (pc := 84) (tgt := 90) d_K_open_84 rfl (by omega) (fun c_84 => ?_) (fun c_84 => ?_) | refine xk_if_eq (pc := 84) (tgt := 90) d_K_open_84 rfl (fun c_84 => ?_) (fun c_84 => ?_)
                · have hnd : ¬ (s.2.1 f = 1 ∧ 1 < md) := by
                    intro q
                    first | exact c_77 q.1 | (have := (xs_bm2 md hmd).mp c_84; omega)
                  refine xk_aload_n (pc := 90) d_K_open_90 rfl ?_
                  refine xk_getRo (pc := 91) d_K_open_91 fl_K_44 (by first | rfl | assumption) rfl (by omega) (by omega) (hS _ _ _ rfl (by omega)) ?_
                  refine xk_iload_n (pc := 94) d_K_open_94 rfl ?_
                  refine xk_aaloado (pc := 95) d_K_open_95 (by first | rfl | assumption) (by decide) (by decide) (by omega) (by omega) rfl (by omega) (by decide) (hS _ _ _ (xr_st_ts _ hp) (by omega)) ?_
                  refine xk_iconst (pc := 96) (v := nI 0) d_K_open_96 (by decide) ?_
                  refine xk_cV1 (pc := 97) d_K_open_97 ml_K_81 cz_Task_freeFrom ⟨rfl, rfl⟩ rfl (by first | rfl | assumption) (by omega) (by omega) (Nat.le_of_ble_eq_true rfl) ⟨(Nat.le_of_ble_eq_true rfl), (Nat.le_of_ble_eq_true rfl)⟩ ?_
                  refine c_Task_freeFrom hn hS hp (O := s.2.2.1) (by omega) (fun d hd => hO.2.1 p d hp hd) (fun d hd2 hd6 => ?_) (fun hd2 => ?_)
                  · refine xk_istore (pc := 100) d_K_open_100 (by decide) ?_
                    refine xk_aload_n (pc := 102) d_K_open_102 rfl ?_
                    refine xk_iconst (pc := 103) (v := nI 0) d_K_open_103 (by decide) ?_
                    refine xk_cV1 (pc := 104) d_K_open_104 ml_K_85 cz_K_unusedFrom ⟨rfl, rfl⟩ rfl (by first | rfl | assumption) (by omega) (by omega) (Nat.le_of_ble_eq_true rfl) ⟨(Nat.le_of_ble_eq_true rfl), (Nat.le_of_ble_eq_true rfl)⟩ ?_
                    refine c_K_unusedFrom hn hS hO (by omega) (fun o eo ho => ?_) (fun eo => ?_)
                    · refine xk_istore (pc := 107) d_K_open_107 (by decide) ?_
                      refine xk_iload (pc := 109) d_K_open_109 rfl ?_
                      refine xk_iconst (pc := 111) (v := (-1)) d_K_open_111 (by decide) ?_
                      first | refine xk_icmp_eqN (pc := 112) (tgt := 121) d_K_open_112 rfl (by omega) (by omega) (fun c_112 => ?_) (fun c_112 => ?_) | refine xk_icmp_eq (pc := 112) (tgt := 121) d_K_open_112 rfl (fun c_112 => ?_) (fun c_112 => ?_)
                      · exact absurd c_112 (xs_nm1 (by omega))
                      · refine xk_iload (pc := 115) d_K_open_115 rfl ?_
                        refine xk_iconst (pc := 117) (v := (-1)) d_K_open_117 (by decide) ?_
                        first | refine xk_icmp_neN (pc := 118) (tgt := 124) d_K_open_118 rfl (by omega) (by omega) (fun c_118 => ?_) (fun c_118 => ?_) | refine xk_icmp_ne (pc := 118) (tgt := 124) d_K_open_118 rfl (fun c_118 => ?_) (fun c_118 => ?_)
                        · refine xk_aload_n (pc := 124) d_K_open_124 rfl ?_
                          refine xk_iload_n (pc := 125) d_K_open_125 rfl ?_
                          refine xk_iload_n (pc := 126) d_K_open_126 rfl ?_
                          refine xk_cV2 (pc := 127) d_K_open_127 ml_K_88 cz_K_readyFile ⟨rfl, rfl⟩ rfl (by first | rfl | assumption) (by omega) (by omega) (Nat.le_of_ble_eq_true rfl) ⟨(Nat.le_of_ble_eq_true rfl), (Nat.le_of_ble_eq_true rfl)⟩ ?_
                          refine c_K_readyFile hn hS hF okF hsm hf hmd (fun F1 m1 r1 e1 hF1 hm1 hr1 => ?_) (fun F1 m1 e1 hF1 hm1 => ?_)
                          · have hS1 := xr_S_9 hS hr1
                            have hko := xr_kd_op o ho
                            have hS2 : xr_S (xk_up r1 (22 + o) 4 none) n := xr_S.up hS1 (xr_0_op o ho)
                            have hu0 : xs_used s.2.2.1 o = false := by
                              have := (xs_least_sp eo).2.2.1
                              cases hq : xs_used s.2.2.1 o with
                              | false => rfl
                              | true => rw [hq] at this; cases this
                            have hc0 : xs_cnt s.2.2.1.1 o 42 = 0 := by
                              cases hq : xs_cnt s.2.2.1.1 o 42 with
                              | zero => rfl
                              | succ k => rw [xs_used_iff.mpr (by omega)] at hu0; cases hu0
                            refine xk_if_ne (pc := 130) (tgt := 136) d_K_open_130 rfl (fun _ => ?_) (fun h => absurd h (by decide))
                            refine xk_aload_n (pc := 136) d_K_open_136 rfl ?_
                            refine xk_getRo (pc := 137) d_K_open_137 fl_K_37 (by first | rfl | assumption) rfl (by omega) (by omega) (hS1 _ _ _ rfl (by omega)) ?_
                            refine xk_iload (pc := 140) d_K_open_140 rfl ?_
                            refine xk_aaloado (pc := 142) d_K_open_142 (by first | rfl | assumption) (by decide) (by decide) (by omega) (by omega) rfl (by omega) (by decide) (hS1 _ _ _ (xr_st_op _ ho) (by omega)) ?_
                            refine xk_iload_n (pc := 143) d_K_open_143 rfl ?_
                            refine xk_iload_n (pc := 144) d_K_open_144 rfl ?_
                            refine xk_cV2 (pc := 145) d_K_open_145 ml_K_91 cz_Opening_becomeFile ⟨rfl, rfl⟩ rfl (by first | rfl | assumption) (by omega) (by omega) (Nat.le_of_ble_eq_true rfl) ⟨(Nat.le_of_ble_eq_true rfl), (Nat.le_of_ble_eq_true rfl)⟩ ?_
                            refine c_Opening_becomeFile hn hS1 ho ?_
                            refine xk_aload_n (pc := 148) d_K_open_148 rfl ?_
                            refine xk_getRo (pc := 149) d_K_open_149 fl_K_44 (by first | rfl | assumption) rfl (by omega) (by omega) (hS2 _ _ _ rfl (by omega)) ?_
                            refine xk_iload_n (pc := 152) d_K_open_152 rfl ?_
                            refine xk_aaloado (pc := 153) d_K_open_153 (by first | rfl | assumption) (by decide) (by decide) (by omega) (by omega) rfl (by omega) (by decide) (hS2 _ _ _ (xr_st_ts _ hp) (by omega)) ?_
                            refine xk_iload (pc := 154) d_K_open_154 rfl ?_
                            refine xk_aload_n (pc := 156) d_K_open_156 rfl ?_
                            refine xk_getRo (pc := 157) d_K_open_157 fl_K_37 (by first | rfl | assumption) rfl (by omega) (by omega) (hS2 _ _ _ rfl (by omega)) ?_
                            refine xk_iload (pc := 160) d_K_open_160 rfl ?_
                            refine xk_aaloado (pc := 162) d_K_open_162 (by first | rfl | assumption) (by decide) (by decide) (by omega) (by omega) rfl (by omega) (by decide) (hS2 _ _ _ (xr_st_op _ ho) (by omega)) ?_
                            refine xk_cV2 (pc := 163) d_K_open_163 ml_K_94 cz_Task_hold ⟨rfl, rfl⟩ rfl (by first | rfl | assumption) (by omega) (by omega) (Nat.le_of_ble_eq_true rfl) ⟨(Nat.le_of_ble_eq_true rfl), (Nat.le_of_ble_eq_true rfl)⟩ ?_
                            refine c_Task_hold hn hS2 hp hd6 ho (c := 0) (by rw [xk_up_k (by decide), xk_up_k (by decide), xk_up_k (by decide), hm1 _ (by omega), hO.1 o ho, hc0]) ?_
                            refine xk_iload (pc := 166) d_K_open_166 rfl ?_
                            refine xk_iret (pc := 168) rfl d_K_open_168 rfl (Nat.le_of_ble_eq_true rfl) (Nat.le_of_ble_eq_true rfl) ?_
                            have e0 := (xs_open_s ep enf enmd).trans ((if_neg hna).trans (if_neg hnd))
                            rw [hd2] at e0
                            have hops : ¬ xs_ops s.2.2.1 = 16 := fun q => by
                              have := xs_num_lt hu0 16 (by omega)
                              unfold xs_ops at q
                              omega
                            have e := e0.trans (if_neg hops)
                            rw [e1, xs_nO_s eo] at e
                            have hfree : s.2.2.1.1 (6 * p + d) = none := of_decide_eq_true (xs_least_sp hd2).2.2.1
                            have hA1 := xr_A_F hA hF1 hm1 hr1
                            have hO2 := xr_O_new (f := f) (md := md) hA1.2.2.1 hp hd6 ho hfree hu0
                            refine xq_t e (xr_A_O hA1 hO2 (xr_S_de hp hS2 (fun a ha => by funext k; exact xk_up_a ha)) (fun a ha => by funext k; rw [xk_up_a (by omega), xk_up_a (by omega), xk_up_a (by omega), xk_up_a (by omega)]) (fun a ha => by funext k; rw [xk_up_a (by omega), xk_up_a (by omega)])) (fun a h1 h2 => ⟨?_, ?_⟩) hQ
                            · rw [← hm1 a (by omega)]
                              funext k
                              rw [xk_up_a (by omega), xk_up_a (by omega), xk_up_a (by omega), xk_up_a (by omega)]
                            · rw [← hr1 a (by omega)]
                              funext k
                              rw [xk_up_a (by omega), xk_up_a (by omega)]
                          · refine xk_if_ne (pc := 130) (tgt := 136) d_K_open_130 rfl (fun h => absurd (by decide) h) (fun _ => ?_)
                            refine xk_bipush (pc := 133) (v := (-8)) d_K_open_133 (by decide) ?_
                            refine xk_iret (pc := 135) rfl d_K_open_135 rfl (Nat.le_of_ble_eq_true rfl) (Nat.le_of_ble_eq_true rfl) ?_
                            have e0 := (xs_open_s ep enf enmd).trans ((if_neg hna).trans (if_neg hnd))
                            rw [hd2] at e0
                            have hops : ¬ xs_ops s.2.2.1 = 16 := fun q => by
                              obtain ⟨-, q2, q3, -⟩ := xs_least_sp eo
                              have hq : xs_used s.2.2.1 o = false := by
                                cases hq : xs_used s.2.2.1 o with
                                | false => rfl
                                | true => rw [hq] at q3; cases q3
                              have := xs_num_lt hq 16 (by omega)
                              unfold xs_ops at q
                              omega
                            have e := e0.trans (if_neg hops)
                            rw [e1] at e
                            exact xq_t e (xr_A_F hA hF1 hm1 (fun _ _ => rfl)) (xr_fr_m (fun a _ _ => hm1 a (by omega))) hQ
                        · exact absurd c_118 (xs_nm1 (by omega))
                    · refine xk_istore (pc := 107) d_K_open_107 (by decide) ?_
                      refine xk_iload (pc := 109) d_K_open_109 rfl ?_
                      refine xk_iconst (pc := 111) (v := (-1)) d_K_open_111 (by decide) ?_
                      first | refine xk_icmp_eqN (pc := 112) (tgt := 121) d_K_open_112 rfl (by omega) (by omega) (fun c_112 => ?_) (fun c_112 => ?_) | refine xk_icmp_eq (pc := 112) (tgt := 121) d_K_open_112 rfl (fun c_112 => ?_) (fun c_112 => ?_)
                      · exact absurd c_112 (xs_nm1 (by omega))
                      · refine xk_iload (pc := 115) d_K_open_115 rfl ?_
                        refine xk_iconst (pc := 117) (v := (-1)) d_K_open_117 (by decide) ?_
                        refine xk_icmp_ne (pc := 118) (tgt := 124) d_K_open_118 rfl (fun h => absurd (by decide) h) (fun _ => ?_)
                        refine xk_bipush (pc := 121) (v := (-2)) d_K_open_121 (by decide) ?_
                        refine xk_iret (pc := 123) rfl d_K_open_123 rfl (Nat.le_of_ble_eq_true rfl) (Nat.le_of_ble_eq_true rfl) ?_
                        have e0 := (xs_open_s ep enf enmd).trans ((if_neg hna).trans (if_neg hnd))
                        rw [hd2] at e0
                        first
                          | exact xq_s e0 hA hQ
                          | (have hops : xs_ops s.2.2.1 = 16 := xs_num_all 16 (fun o ho => by
                               have := xs_least_np eo o (by omega) (by omega)
                               cases hq : xs_used s.2.2.1 o with
                               | true => rfl
                               | false => rw [hq] at this; cases this)
                             exact xq_s (e0.trans (if_pos hops)) hA hQ)
                  · refine xk_istore (pc := 100) d_K_open_100 (by decide) ?_
                    refine xk_aload_n (pc := 102) d_K_open_102 rfl ?_
                    refine xk_iconst (pc := 103) (v := nI 0) d_K_open_103 (by decide) ?_
                    refine xk_cV1 (pc := 104) d_K_open_104 ml_K_85 cz_K_unusedFrom ⟨rfl, rfl⟩ rfl (by first | rfl | assumption) (by omega) (by omega) (Nat.le_of_ble_eq_true rfl) ⟨(Nat.le_of_ble_eq_true rfl), (Nat.le_of_ble_eq_true rfl)⟩ ?_
                    refine c_K_unusedFrom hn hS hO (by omega) (fun o eo ho => ?_) (fun eo => ?_)
                    · refine xk_istore (pc := 107) d_K_open_107 (by decide) ?_
                      refine xk_iload (pc := 109) d_K_open_109 rfl ?_
                      refine xk_iconst (pc := 111) (v := (-1)) d_K_open_111 (by decide) ?_
                      refine xk_icmp_eq (pc := 112) (tgt := 121) d_K_open_112 rfl (fun _ => ?_) (fun h => absurd (by decide) h)
                      refine xk_bipush (pc := 121) (v := (-2)) d_K_open_121 (by decide) ?_
                      refine xk_iret (pc := 123) rfl d_K_open_123 rfl (Nat.le_of_ble_eq_true rfl) (Nat.le_of_ble_eq_true rfl) ?_
                      have e0 := (xs_open_s ep enf enmd).trans ((if_neg hna).trans (if_neg hnd))
                      rw [hd2] at e0
                      first
                        | exact xq_s e0 hA hQ
                        | (have hops : xs_ops s.2.2.1 = 16 := xs_num_all 16 (fun o ho => by
                             have := xs_least_np eo o (by omega) (by omega)
                             cases hq : xs_used s.2.2.1 o with
                             | true => rfl
                             | false => rw [hq] at this; cases this)
                           exact xq_s (e0.trans (if_pos hops)) hA hQ)
                    · refine xk_istore (pc := 107) d_K_open_107 (by decide) ?_
                      refine xk_iload (pc := 109) d_K_open_109 rfl ?_
                      refine xk_iconst (pc := 111) (v := (-1)) d_K_open_111 (by decide) ?_
                      refine xk_icmp_eq (pc := 112) (tgt := 121) d_K_open_112 rfl (fun _ => ?_) (fun h => absurd (by decide) h)
                      refine xk_bipush (pc := 121) (v := (-2)) d_K_open_121 (by decide) ?_
                      refine xk_iret (pc := 123) rfl d_K_open_123 rfl (Nat.le_of_ble_eq_true rfl) (Nat.le_of_ble_eq_true rfl) ?_
                      have e0 := (xs_open_s ep enf enmd).trans ((if_neg hna).trans (if_neg hnd))
                      rw [hd2] at e0
                      first
                        | exact xq_s e0 hA hQ
                        | (have hops : xs_ops s.2.2.1 = 16 := xs_num_all 16 (fun o ho => by
                             have := xs_least_np eo o (by omega) (by omega)
                             cases hq : xs_used s.2.2.1 o with
                             | true => rfl
                             | false => rw [hq] at this; cases this)
                           exact xq_s (e0.trans (if_pos hops)) hA hQ)
                · refine xk_bipush (pc := 87) (v := (-5)) d_K_open_87 (by decide) ?_
                  refine xk_iret (pc := 89) rfl d_K_open_89 rfl (Nat.le_of_ble_eq_true rfl) (Nat.le_of_ble_eq_true rfl) ?_
                  have hgt : 1 < md := by
                    have : ¬ md ≤ 1 := fun w => c_84 ((xs_bm2 md hmd).mpr w)
                    omega
                  have e := (xs_open_s ep enf enmd).trans ((if_neg hna).trans (if_pos ⟨c_77, hgt⟩))
                  exact xq_s e hA hQ
          · refine xk_iconst (pc := 46) (v := nI 1) d_K_open_46 (by decide) ?_
            refine xk_goto (pc := 47) (tgt := 51) d_K_open_47 rfl ?_
            refine xk_istore (pc := 51) d_K_open_51 (by decide) ?_
            refine xk_aload_n (pc := 53) d_K_open_53 rfl ?_
            refine xk_getRo (pc := 54) d_K_open_54 fl_K_25 (by first | rfl | assumption) rfl (by omega) (by omega) (hS _ _ _ rfl (by omega)) ?_
            refine xk_iload_n (pc := 57) d_K_open_57 rfl ?_
            refine xk_ialoado (pc := 58) d_K_open_58 (by first | rfl | assumption) (by omega) (by omega) rfl (by omega) (by decide) (hP f hf) ?_
            first | refine xk_if_eqN (pc := 59) (tgt := 67) d_K_open_59 rfl (by omega) (fun c_59 => ?_) (fun c_59 => ?_) | refine xk_if_eq (pc := 59) (tgt := 67) d_K_open_59 rfl (fun c_59 => ?_) (fun c_59 => ?_)
            · refine xk_bipush (pc := 67) (v := (-4)) d_K_open_67 (by decide) ?_
              refine xk_iret (pc := 69) rfl d_K_open_69 rfl (Nat.le_of_ble_eq_true rfl) (Nat.le_of_ble_eq_true rfl) ?_
              first
                | (have e := (xs_open_s ep enf enmd).trans (if_pos (Or.inl c_59))
                   exact xq_s e hA hQ)
                | (have e := (xs_open_s ep enf enmd).trans (if_pos (Or.inr ⟨c_36, (xs_b8 md hmd).mp c_43⟩))
                   exact xq_s e hA hQ)
            · refine xk_iload (pc := 62) d_K_open_62 rfl ?_
              refine xk_if_eq (pc := 64) (tgt := 70) d_K_open_64 rfl (fun h => absurd h (by decide)) (fun _ => ?_)
              refine xk_bipush (pc := 67) (v := (-4)) d_K_open_67 (by decide) ?_
              refine xk_iret (pc := 69) rfl d_K_open_69 rfl (Nat.le_of_ble_eq_true rfl) (Nat.le_of_ble_eq_true rfl) ?_
              first
                | (have e := (xs_open_s ep enf enmd).trans (if_pos (Or.inl c_59))
                   exact xq_s e hA hQ)
                | (have e := (xs_open_s ep enf enmd).trans (if_pos (Or.inr ⟨c_36, (xs_b8 md hmd).mp c_43⟩))
                   exact xq_s e hA hQ)
      · refine xk_if_ne (pc := 23) (tgt := 28) d_K_open_23 rfl (fun h => absurd (by decide) h) (fun _ => ?_)
        refine xk_iconst (pc := 26) (v := (-1)) d_K_open_26 (by decide) ?_
        refine xk_iret (pc := 27) rfl d_K_open_27 rfl (Nat.le_of_ble_eq_true rfl) (Nat.le_of_ble_eq_true rfl) ?_
        first | exact xq_s (xs_open_1 (Or.inr (Or.inr enmd))) hA hQ | exact xq_s (xs_open_1 (Or.inr (Or.inl enf))) hA hQ | exact xq_s (xs_open_1 (Or.inl ep)) hA hQ
    · refine xk_if_eq (pc := 14) (tgt := 26) d_K_open_14 rfl (fun _ => ?_) (fun h => absurd (by decide) h)
      refine xk_iconst (pc := 26) (v := (-1)) d_K_open_26 (by decide) ?_
      refine xk_iret (pc := 27) rfl d_K_open_27 rfl (Nat.le_of_ble_eq_true rfl) (Nat.le_of_ble_eq_true rfl) ?_
      first | exact xq_s (xs_open_1 (Or.inr (Or.inr enmd))) hA hQ | exact xq_s (xs_open_1 (Or.inr (Or.inl enf))) hA hQ | exact xq_s (xs_open_1 (Or.inl ep)) hA hQ
  · refine xk_if_eq (pc := 5) (tgt := 26) d_K_open_5 rfl (fun _ => ?_) (fun h => absurd (by decide) h)
    refine xk_iconst (pc := 26) (v := (-1)) d_K_open_26 (by decide) ?_
    refine xk_iret (pc := 27) rfl d_K_open_27 rfl (Nat.le_of_ble_eq_true rfl) (Nat.le_of_ble_eq_true rfl) ?_
    first | exact xq_s (xs_open_1 (Or.inr (Or.inr enmd))) hA hQ | exact xq_s (xs_open_1 (Or.inr (Or.inl enf))) hA hQ | exact xq_s (xs_open_1 (Or.inl ep)) hA hQ
