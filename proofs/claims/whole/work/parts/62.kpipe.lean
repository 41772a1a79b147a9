theorem xs_used_nn {O : xs_O} {k o : Nat} (hk : k < 42) (h0 : O.1 k = none) (o' : Nat) : xs_used (xs_of O k (some o)) o' = true ↔ xs_used O o' = true ∨ o' = o := by
  rw [xs_used_iff, xs_used_iff, xs_cnt_n hk h0]
  by_cases e : o = o'
  · subst e; rw [if_pos rfl]; exact ⟨fun _ => Or.inr rfl, fun _ => by omega⟩
  · rw [if_neg e]
    constructor
    · intro z; exact Or.inl (by omega)
    · rintro (z | z)
      · omega
      · exact absurd z.symm e
theorem xs_nf {b : Bool} (h : (!b) = true) : b = false := by cases b <;> first | rfl | cases h
theorem xs_nt {b : Bool} (h : (!b) = false) : b = true := by cases b <;> first | rfl | cases h
theorem xs_pipe_s {s : xs_S} {a : Int32} {p d e o1 o2 q : Nat} (hp : p < 7) (h1 : xs_alive s.2.2.2 a = some p) (h2 : xs_free s.2.2.1 p 0 = some d) (hd : d < 6) (h3 : xs_free s.2.2.1 p (d + 1) = some e) (h4 : ¬ 14 < xs_ops s.2.2.1) (h5 : xs_least (fun q => !(xs_end s.2.2.1 q 1 || xs_end s.2.2.1 q 2)) 0 16 = some q) (h6 : xs_least (fun o => !xs_used s.2.2.1 o) 0 16 = some o1) (h7 : xs_least (fun o => !xs_used s.2.2.1 o) (o1 + 1) (16 - (o1 + 1)) = some o2) : xs_pipe s a = (nI (d + 8 * e), (s.1, s.2.1, (xs_u (xs_u s.2.2.1.1 (6 * p + d) (some o1)) (6 * p + e) (some o2), xs_u (xs_u s.2.2.1.2.1 o1 1) o2 2, xs_u (xs_u s.2.2.1.2.2.1 o1 q) o2 q, xs_u (xs_u s.2.2.1.2.2.2.1 o1 1) o2 2, xs_u (xs_u s.2.2.1.2.2.2.2.1 o1 0) o2 0, xs_u s.2.2.1.2.2.2.2.2 q []), s.2.2.2)) := by
  unfold xs_pipe
  rw [h1]
  dsimp only
  rw [h2]
  dsimp only
  rw [h3]
  dsimp only
  rw [if_neg h4, h5]
  dsimp only
  have e1 := xs_nO_s (O := (s.2.2.1.1, s.2.2.1.2.1, s.2.2.1.2.2.1, s.2.2.1.2.2.2.1, s.2.2.1.2.2.2.2.1, xs_u s.2.2.1.2.2.2.2.2 q [])) (k := 1) (w := q) (md := 1) h6
  rw [e1]
  dsimp only
  obtain ⟨a1, a2, a3, a4⟩ := xs_least_sp h6
  obtain ⟨b1, b2, b3, b4⟩ := xs_least_sp h7
  have hfree : s.2.2.1.1 (6 * p + d) = none := of_decide_eq_true (xs_least_sp h2).2.2.1
  have hus := fun o' => xs_used_nn (O := (s.2.2.1.1, xs_u s.2.2.1.2.1 o1 1, xs_u s.2.2.1.2.2.1 o1 q, xs_u s.2.2.1.2.2.2.1 o1 1, xs_u s.2.2.1.2.2.2.2.1 o1 0, xs_u s.2.2.1.2.2.2.2.2 q [])) (k := 6 * p + d) (o := o1) (by omega) hfree o'
  have h8 : xs_least (fun o => !xs_used (xs_of (s.2.2.1.1, xs_u s.2.2.1.2.1 o1 1, xs_u s.2.2.1.2.2.1 o1 q, xs_u s.2.2.1.2.2.2.1 o1 1, xs_u s.2.2.1.2.2.2.2.1 o1 0, xs_u s.2.2.1.2.2.2.2.2 q []) (6 * p + d) (some o1)) o) 0 16 = some o2 := by
    refine xs_least_s (by omega) (by omega) ?_ (fun j _ hj => ?_)
    · cases hq : xs_used (xs_of (s.2.2.1.1, xs_u s.2.2.1.2.1 o1 1, xs_u s.2.2.1.2.2.1 o1 q, xs_u s.2.2.1.2.2.2.1 o1 1, xs_u s.2.2.1.2.2.2.2.1 o1 0, xs_u s.2.2.1.2.2.2.2.2 q []) (6 * p + d) (some o1)) o2 with
      | false => rfl
      | true =>
        rcases (hus o2).mp hq with z | z
        · have z' : xs_used s.2.2.1 o2 = true := z
          rw [z'] at b3; cases b3
        · omega
    · have : xs_used (xs_of (s.2.2.1.1, xs_u s.2.2.1.2.1 o1 1, xs_u s.2.2.1.2.2.1 o1 q, xs_u s.2.2.1.2.2.2.1 o1 1, xs_u s.2.2.1.2.2.2.2.1 o1 0, xs_u s.2.2.1.2.2.2.2.2 q []) (6 * p + d) (some o1)) j = true := by
        refine (hus j).mpr ?_
        by_cases w : j = o1
        · exact Or.inr w
        · left
          show xs_used s.2.2.1 j = true
          by_cases w2 : j < o1
          · exact xs_nt (a4 j (by omega) w2)
          · exact xs_nt (b4 j (by omega) hj)
      rw [this]
      rfl
  rw [xs_nO_s h8]
  rfl
theorem xs_pipe_2 {s : xs_S} {a : Int32} {p : Nat} (h1 : xs_alive s.2.2.2 a = some p) (h2 : xs_free s.2.2.1 p 0 = none) : xs_pipe s a = (-2, s) := by
  unfold xs_pipe
  rw [h1]
  dsimp only
  rw [h2]
theorem xs_pipe_3 {s : xs_S} {a : Int32} {p d : Nat} (h1 : xs_alive s.2.2.2 a = some p) (h2 : xs_free s.2.2.1 p 0 = some d) (h3 : xs_free s.2.2.1 p (d + 1) = none) : xs_pipe s a = (-2, s) := by
  unfold xs_pipe
  rw [h1]
  dsimp only
  rw [h2]
  dsimp only
  rw [h3]
theorem xs_pipe_4 {s : xs_S} {a : Int32} {p d e : Nat} (h1 : xs_alive s.2.2.2 a = some p) (h2 : xs_free s.2.2.1 p 0 = some d) (h3 : xs_free s.2.2.1 p (d + 1) = some e) (h4 : 14 < xs_ops s.2.2.1) : xs_pipe s a = (-2, s) := by
  unfold xs_pipe
  rw [h1]
  dsimp only
  rw [h2]
  dsimp only
  rw [h3]
  dsimp only
  rw [if_pos h4]
theorem xs_ops_a {O : xs_O} (h : xs_least (fun o => !xs_used O o) 0 16 = none) : 14 < xs_ops O := by
  have : xs_ops O = 16 := xs_num_all 16 (fun o ho => xs_nt (xs_least_np h o (by omega) (by omega)))
  omega
theorem xs_ops_b {O : xs_O} {o : Nat} (h : xs_least (fun o => !xs_used O o) 0 16 = some o) (h2 : xs_least (fun o => !xs_used O o) (o + 1) (16 - (o + 1)) = none) : 14 < xs_ops O := by
  obtain ⟨a1, a2, a3, a4⟩ := xs_least_sp h
  have := xs_num_all1 (p := xs_used O) (o := o) 16 (fun j hj hn => by
    by_cases w : j < o
    · exact xs_nt (a4 j (by omega) w)
    · exact xs_nt (xs_least_np h2 j (by omega) (by omega)))
  unfold xs_ops
  omega
theorem xs_ops_c {O : xs_O} {o o' : Nat} (h : xs_least (fun o => !xs_used O o) 0 16 = some o) (h2 : xs_least (fun o => !xs_used O o) (o + 1) (16 - (o + 1)) = some o') : ¬ 14 < xs_ops O := by
  obtain ⟨a1, a2, a3, a4⟩ := xs_least_sp h
  obtain ⟨b1, b2, b3, b4⟩ := xs_least_sp h2
  have := xs_num_lt2 (p := xs_used O) (xs_nf a3) (xs_nf b3) (by omega) 16 (by omega)
  unfold xs_ops
  omega

theorem xr_st_pk {a k : Nat} (h : 74 ≤ a) (h2 : a % 2 = 0) (hk : k ≠ 0) : xr_st a k = none := by
  unfold xr_st
  rw [xr_beq (by omega : a ≠ 1), xr_beq (by omega : a ≠ 2), xr_beq (by omega : a ≠ 7), xr_beq (by omega : a ≠ 21), xr_beq (by omega : a ≠ 38), xr_beq (by omega : a ≠ 53), xr_blt (by omega : 20 ≤ a), xr_blt (by omega : 53 ≤ a), xr_beq hk]
  simp
theorem xr_st_po {a k : Nat} (h : 74 ≤ a) (h2 : a % 2 = 1) : xr_st a k = none := by
  unfold xr_st
  rw [xr_beq (by omega : a ≠ 1), xr_beq (by omega : a ≠ 2), xr_beq (by omega : a ≠ 7), xr_beq (by omega : a ≠ 21), xr_beq (by omega : a ≠ 38), xr_beq (by omega : a ≠ 53), xr_blt (by omega : 20 ≤ a), xr_blt (by omega : 53 ≤ a), h2]
  simp
  show (bif (Nat.ble 74 a && false && k.beq 0) then _ else _) = _
  cases Nat.ble 74 a <;> rfl
theorem xq_p {X : Int32 × xs_S} {v : Int32} {s : xs_S} {m : xk_M} {r : xk_P} {n : Nat} {Q : xk_Q} (e : X = (v, s)) (hA : xr_A s m r n) (hQ : ∀ n' m' r', (n' = n ∨ n' = n + 2) → xr_A X.2 m' r' n' → xr_fr m m' r r' → Q (some (.inl X.1)) n' m' r') : Q (some (.inl v)) n m r := by
  subst e
  exact hQ n m r (Or.inl rfl) hA (fun _ _ _ => ⟨rfl, rfl⟩)
theorem xq_p2 {X : Int32 × xs_S} {v : Int32} {s' : xs_S} {m m' : xk_M} {r r' : xk_P} {n : Nat} {Q : xk_Q} (e : X = (v, s')) (hA : xr_A s' m' r' (n + 2)) (hf : xr_fr m m' r r') (hQ : ∀ n' m' r', (n' = n ∨ n' = n + 2) → xr_A X.2 m' r' n' → xr_fr m m' r r' → Q (some (.inl X.1)) n' m' r') : Q (some (.inl v)) (n + 2) m' r' := by
  subst e
  exact hQ (n + 2) m' r' (Or.inr rfl) hA hf

set_option maxRecDepth 20000 in
set_option maxHeartbeats 4000000 in
theorem c_K_pipe {E : xk_E} {n : Nat} {m : xk_M} {r : xk_P} {Q : xk_Q} {x : Int32} {s : xs_S} (hA : xr_A s m r n) (hok : xs_ok s) (hsm : s.1.1.2.2.2.2.1 + 4 < 2 ^ 20) (hev : n % 2 = 0) (hQ : ∀ n' m' r', (n' = n ∨ n' = n + 2) → xr_A (xs_pipe s x).2 m' r' n' → xr_fr m m' r r' → Q (some (.inl (xs_pipe s x).1)) n' m' r') : xk_W E m_K_pipe 0 (xk_ent m_K_pipe [.inr (some 1), .inl x]) [] n m r 0 0 Q := by
  show xk_W E m_K_pipe 0 [some (.inr (some 1)), some (.inl x), none, none, none, none, none, none] [] n m r 0 0 Q
  obtain ⟨hF, hP, hO, hT, hS, hn⟩ := id hA
  obtain ⟨okF, okP, okO, okT⟩ := id hok
  refine xk_aload_n (pc := 0) d_K_pipe_0 rfl ?_
  refine xk_iload_n (pc := 1) d_K_pipe_1 rfl ?_
  refine xk_cV1 (pc := 2) d_K_pipe_2 ml_K_75 cz_K_isAlive ⟨rfl, rfl⟩ rfl (by first | rfl | assumption) (by omega) (by omega) (Nat.le_of_ble_eq_true rfl) ⟨(Nat.le_of_ble_eq_true rfl), (Nat.le_of_ble_eq_true rfl)⟩ ?_
  refine c_K_isAlive hn hS hT okT (fun p ep hp hp1 ex et => ?_) (fun ep => ?_)
  · subst ex
    refine xk_if_ne (pc := 5) (tgt := 10) d_K_pipe_5 rfl (fun _ => ?_) (fun h => absurd h (by decide))
    have hkt := xr_kd_ta p hp
    have hkn := xr_kd_pi hn hev
    have hkn1 := xr_kd_pc (a := n + 1) (by omega) (by omega)
    refine xk_aload_n (pc := 10) d_K_pipe_10 rfl ?_
    refine xk_getRo (pc := 11) d_K_pipe_11 fl_K_44 (by first | rfl | assumption) rfl (by omega) (by omega) (hS _ _ _ rfl (by omega)) ?_
    refine xk_iload_n (pc := 14) d_K_pipe_14 rfl ?_
    refine xk_aaloado (pc := 15) d_K_pipe_15 (by first | rfl | assumption) (by decide) (by decide) (by omega) (by omega) rfl (by omega) (by decide) (hS _ _ _ (xr_st_ts _ hp) (by omega)) ?_
    refine xk_astore_n (pc := 16) d_K_pipe_16 (by decide) ?_
    refine xk_aload_n (pc := 17) d_K_pipe_17 rfl ?_
    refine xk_iconst (pc := 18) (v := nI 0) d_K_pipe_18 (by decide) ?_
    refine xk_cV1 (pc := 19) d_K_pipe_19 ml_K_81 cz_Task_freeFrom ⟨rfl, rfl⟩ rfl (by first | rfl | assumption) (by omega) (by omega) (Nat.le_of_ble_eq_true rfl) ⟨(Nat.le_of_ble_eq_true rfl), (Nat.le_of_ble_eq_true rfl)⟩ ?_
    refine c_Task_freeFrom hn hS hp (O := s.2.2.1) (by omega) (fun d hd => hO.2.1 p d hp hd) (fun d hd ld => ?_) (fun hd => ?_)
    · refine xk_istore_n (pc := 22) d_K_pipe_22 (by decide) ?_
      refine xk_aload_n (pc := 23) d_K_pipe_23 rfl ?_
      refine xk_iload_n (pc := 24) d_K_pipe_24 rfl ?_
      refine xk_iconst (pc := 25) (v := nI 1) d_K_pipe_25 (by decide) ?_
      first | refine xk_iaddN (pc := 26) d_K_pipe_26 ?_ | refine xk_iadd (pc := 26) d_K_pipe_26 ?_
      refine xk_cV1 (pc := 27) d_K_pipe_27 ml_K_81 cz_Task_freeFrom ⟨rfl, rfl⟩ rfl (by first | rfl | assumption) (by omega) (by omega) (Nat.le_of_ble_eq_true rfl) ⟨(Nat.le_of_ble_eq_true rfl), (Nat.le_of_ble_eq_true rfl)⟩ ?_
      refine c_Task_freeFrom hn hS hp (O := s.2.2.1) (by omega) (fun d hd => hO.2.1 p d hp hd) (fun e he le => ?_) (fun he => ?_)
      · refine xk_istore (pc := 30) d_K_pipe_30 (by decide) ?_
        refine xk_aload_n (pc := 32) d_K_pipe_32 rfl ?_
        refine xk_iconst (pc := 33) (v := nI 0) d_K_pipe_33 (by decide) ?_
        refine xk_cV1 (pc := 34) d_K_pipe_34 ml_K_85 cz_K_unusedFrom ⟨rfl, rfl⟩ rfl (by first | rfl | assumption) (by omega) (by omega) (Nat.le_of_ble_eq_true rfl) ⟨(Nat.le_of_ble_eq_true rfl), (Nat.le_of_ble_eq_true rfl)⟩ ?_
        refine c_K_unusedFrom hn hS hO (by omega) (fun o1 ho1 lo1 => ?_) (fun ho1 => ?_)
        · refine xk_istore (pc := 37) d_K_pipe_37 (by decide) ?_
          refine xk_aload_n (pc := 39) d_K_pipe_39 rfl ?_
          refine xk_iload (pc := 40) d_K_pipe_40 rfl ?_
          refine xk_iconst (pc := 42) (v := nI 1) d_K_pipe_42 (by decide) ?_
          first | refine xk_iaddN (pc := 43) d_K_pipe_43 ?_ | refine xk_iadd (pc := 43) d_K_pipe_43 ?_
          refine xk_cV1 (pc := 44) d_K_pipe_44 ml_K_85 cz_K_unusedFrom ⟨rfl, rfl⟩ rfl (by first | rfl | assumption) (by omega) (by omega) (Nat.le_of_ble_eq_true rfl) ⟨(Nat.le_of_ble_eq_true rfl), (Nat.le_of_ble_eq_true rfl)⟩ ?_
          refine c_K_unusedFrom hn hS hO (by omega) (fun o2 ho2 lo2 => ?_) (fun ho2 => ?_)
          · refine xk_istore (pc := 47) d_K_pipe_47 (by decide) ?_
            refine xk_iload_n (pc := 49) d_K_pipe_49 rfl ?_
            refine xk_iconst (pc := 50) (v := (-1)) d_K_pipe_50 (by decide) ?_
            first | refine xk_icmp_eqN (pc := 51) (tgt := 72) d_K_pipe_51 rfl (by omega) (by omega) (fun c_51 => ?_) (fun c_51 => ?_) | refine xk_icmp_eq (pc := 51) (tgt := 72) d_K_pipe_51 rfl (fun c_51 => ?_) (fun c_51 => ?_)
            · exact absurd c_51 (xs_nm1 (by omega))
            · refine xk_iload (pc := 54) d_K_pipe_54 rfl ?_
              refine xk_iconst (pc := 56) (v := (-1)) d_K_pipe_56 (by decide) ?_
              first | refine xk_icmp_eqN (pc := 57) (tgt := 72) d_K_pipe_57 rfl (by omega) (by omega) (fun c_57 => ?_) (fun c_57 => ?_) | refine xk_icmp_eq (pc := 57) (tgt := 72) d_K_pipe_57 rfl (fun c_57 => ?_) (fun c_57 => ?_)
              · exact absurd c_57 (xs_nm1 (by omega))
              · refine xk_iload (pc := 60) d_K_pipe_60 rfl ?_
                refine xk_iconst (pc := 62) (v := (-1)) d_K_pipe_62 (by decide) ?_
                first | refine xk_icmp_eqN (pc := 63) (tgt := 72) d_K_pipe_63 rfl (by omega) (by omega) (fun c_63 => ?_) (fun c_63 => ?_) | refine xk_icmp_eq (pc := 63) (tgt := 72) d_K_pipe_63 rfl (fun c_63 => ?_) (fun c_63 => ?_)
                · exact absurd c_63 (xs_nm1 (by omega))
                · refine xk_iload (pc := 66) d_K_pipe_66 rfl ?_
                  refine xk_iconst (pc := 68) (v := (-1)) d_K_pipe_68 (by decide) ?_
                  first | refine xk_icmp_neN (pc := 69) (tgt := 75) d_K_pipe_69 rfl (by omega) (by omega) (fun c_69 => ?_) (fun c_69 => ?_) | refine xk_icmp_ne (pc := 69) (tgt := 75) d_K_pipe_69 rfl (fun c_69 => ?_) (fun c_69 => ?_)
                  · refine xk_new (pc := 75) (ci := 4) d_K_pipe_75 hkn rfl (by decide) (xk_in (List.mem_of_getElem? (i := 306) (by decide +kernel)) rfl) (xk_in (List.mem_of_getElem? (i := 307) (by decide +kernel)) rfl) (xk_in (List.mem_of_getElem? (i := 43) (by decide +kernel)) rfl) (Nat.le_of_ble_eq_true rfl) (Nat.le_of_ble_eq_true rfl) (fun hz_75 => ?_)
                    refine xk_dup (pc := 78) d_K_pipe_78 ?_
                    refine xk_cI0 (pc := 79) d_K_pipe_79 ml_K_100 cz_Pipe_init rfl (Nat.le_of_ble_eq_true rfl) (Nat.le_of_ble_eq_true rfl) (Nat.le_of_ble_eq_true rfl) ?_
                    refine c_Pipe_init (a := n) hkn hkn1 (by omega) (by omega) (fun k => (hz_75 k).1) ?_
                    have hS1 : xr_S (xk_up r n 0 (some (n + 1))) (n + 2) := fun a k v hv ha => by
                      by_cases w : a = n ∧ k = 0
                      · obtain ⟨rfl, rfl⟩ := w
                        rw [xr_st_pi hn hev] at hv
                        cases hv
                        exact xk_up_s
                      · have hlt : a < n := by
                          by_cases w2 : a < n
                          · exact w2
                          · exfalso
                            have h74 : 74 ≤ a := by omega
                            rcases (by omega : a = n ∨ a = n + 1) with w3 | w3
                            · subst w3
                              exact absurd hv (by rw [xr_st_pk hn hev (fun z => w ⟨rfl, z⟩)]; simp)
                            · subst w3
                              exact absurd hv (by rw [xr_st_po (by omega) (by omega)]; simp)
                        unfold xk_up
                        rw [if_neg w]
                        exact hS a k v hv hlt
                    have hko1 := xr_kd_op o1 lo1
                    have hko2 := xr_kd_op o2 lo2
                    have hS2 : xr_S (xk_up (xk_up r n 0 (some (n + 1))) (22 + o1) 4 (some n)) (n + 2) := xr_S.up hS1 (xr_0_op o1 lo1)
                    have hS3 : xr_S (xk_up (xk_up (xk_up r n 0 (some (n + 1))) (22 + o1) 4 (some n)) (22 + o2) 4 (some n)) (n + 2) := xr_S.up hS2 (xr_0_op o2 lo2)
                    have hS4 : xr_S (xk_up (xk_up (xk_up (xk_up r n 0 (some (n + 1))) (22 + o1) 4 (some n)) (22 + o2) 4 (some n)) (40 + 2 * p) d (some (22 + o1))) (n + 2) := xr_S.up hS3 (xr_0_dek p hp d)
                    obtain ⟨-, -, u1, -⟩ := xs_least_sp ho1
                    obtain ⟨lt12, -, u2, -⟩ := xs_least_sp ho2
                    have u1 := xs_nf u1
                    have u2 := xs_nf u2
                    have cz : ∀ o, xs_used s.2.2.1 o = false → xs_cnt s.2.2.1.1 o 42 = 0 := fun o hu => by
                      cases hq : xs_cnt s.2.2.1.1 o 42 with
                      | zero => rfl
                      | succ k => rw [xs_used_iff.mpr (by omega)] at hu; cases hu
                    refine xk_astore (pc := 82) d_K_pipe_82 (by decide) ?_
                    refine xk_aload_n (pc := 84) d_K_pipe_84 rfl ?_
                    refine xk_getRo (pc := 85) d_K_pipe_85 fl_K_37 (by first | rfl | assumption) rfl (by omega) (by omega) (hS1 _ _ _ rfl (by omega)) ?_
                    refine xk_iload (pc := 88) d_K_pipe_88 rfl ?_
                    refine xk_aaloado (pc := 90) d_K_pipe_90 (by first | rfl | assumption) (by decide) (by decide) (by omega) (by omega) rfl (by omega) (by decide) (hS1 _ _ _ (xr_st_op _ lo1) (by omega)) ?_
                    refine xk_aload (pc := 91) d_K_pipe_91 rfl ?_
                    refine xk_iconst (pc := 93) (v := nI 1) d_K_pipe_93 (by decide) ?_
                    refine xk_cV2 (pc := 94) d_K_pipe_94 ml_K_101 cz_Opening_becomePipeEnd ⟨rfl, rfl⟩ rfl (by first | rfl | assumption) (by omega) (by omega) (Nat.le_of_ble_eq_true rfl) ⟨(Nat.le_of_ble_eq_true rfl), (Nat.le_of_ble_eq_true rfl)⟩ ?_
                    refine c_Opening_becomePipeEnd (n := n + 2) (by omega) hS1 lo1 ?_
                    refine xk_aload_n (pc := 97) d_K_pipe_97 rfl ?_
                    refine xk_getRo (pc := 98) d_K_pipe_98 fl_K_37 (by first | rfl | assumption) rfl (by omega) (by omega) (hS2 _ _ _ rfl (by omega)) ?_
                    refine xk_iload (pc := 101) d_K_pipe_101 rfl ?_
                    refine xk_aaloado (pc := 103) d_K_pipe_103 (by first | rfl | assumption) (by decide) (by decide) (by omega) (by omega) rfl (by omega) (by decide) (hS2 _ _ _ (xr_st_op _ lo2) (by omega)) ?_
                    refine xk_aload (pc := 104) d_K_pipe_104 rfl ?_
                    refine xk_iconst (pc := 106) (v := nI 2) d_K_pipe_106 (by decide) ?_
                    refine xk_cV2 (pc := 107) d_K_pipe_107 ml_K_101 cz_Opening_becomePipeEnd ⟨rfl, rfl⟩ rfl (by first | rfl | assumption) (by omega) (by omega) (Nat.le_of_ble_eq_true rfl) ⟨(Nat.le_of_ble_eq_true rfl), (Nat.le_of_ble_eq_true rfl)⟩ ?_
                    refine c_Opening_becomePipeEnd (n := n + 2) (by omega) hS2 lo2 ?_
                    refine xk_aload_n (pc := 110) d_K_pipe_110 rfl ?_
                    refine xk_iload_n (pc := 111) d_K_pipe_111 rfl ?_
                    refine xk_aload_n (pc := 112) d_K_pipe_112 rfl ?_
                    refine xk_getRo (pc := 113) d_K_pipe_113 fl_K_37 (by first | rfl | assumption) rfl (by omega) (by omega) (hS3 _ _ _ rfl (by omega)) ?_
                    refine xk_iload (pc := 116) d_K_pipe_116 rfl ?_
                    refine xk_aaloado (pc := 118) d_K_pipe_118 (by first | rfl | assumption) (by decide) (by decide) (by omega) (by omega) rfl (by omega) (by decide) (hS3 _ _ _ (xr_st_op _ lo1) (by omega)) ?_
                    refine xk_cV2 (pc := 119) d_K_pipe_119 ml_K_94 cz_Task_hold ⟨rfl, rfl⟩ rfl (by first | rfl | assumption) (by omega) (by omega) (Nat.le_of_ble_eq_true rfl) ⟨(Nat.le_of_ble_eq_true rfl), (Nat.le_of_ble_eq_true rfl)⟩ ?_
                    refine c_Task_hold (n := n + 2) (by omega) hS3 hp ld lo1 (c := 0) (by rw [xk_up_k (by decide), xk_up_k (by decide), xk_up_a (by omega), xk_up_a (by omega), hO.1 o1 lo1, cz o1 u1]) ?_
                    refine xk_aload_n (pc := 122) d_K_pipe_122 rfl ?_
                    refine xk_iload (pc := 123) d_K_pipe_123 rfl ?_
                    refine xk_aload_n (pc := 125) d_K_pipe_125 rfl ?_
                    refine xk_getRo (pc := 126) d_K_pipe_126 fl_K_37 (by first | rfl | assumption) rfl (by omega) (by omega) (hS4 _ _ _ rfl (by omega)) ?_
                    refine xk_iload (pc := 129) d_K_pipe_129 rfl ?_
                    refine xk_aaloado (pc := 131) d_K_pipe_131 (by first | rfl | assumption) (by decide) (by decide) (by omega) (by omega) rfl (by omega) (by decide) (hS4 _ _ _ (xr_st_op _ lo2) (by omega)) ?_
                    refine xk_cV2 (pc := 132) d_K_pipe_132 ml_K_94 cz_Task_hold ⟨rfl, rfl⟩ rfl (by first | rfl | assumption) (by omega) (by omega) (Nat.le_of_ble_eq_true rfl) ⟨(Nat.le_of_ble_eq_true rfl), (Nat.le_of_ble_eq_true rfl)⟩ ?_
                    refine c_Task_hold (n := n + 2) (by omega) hS4 hp le lo2 (c := 0) (by rw [xk_up_a (by omega), xk_up_k (by decide), xk_up_k (by decide), xk_up_a (by omega), xk_up_a (by omega), hO.1 o2 lo2, cz o2 u2]) ?_
                    refine xk_iload_n (pc := 135) d_K_pipe_135 rfl ?_
                    refine xk_bipush (pc := 136) (v := nI 8) d_K_pipe_136 (by decide) ?_
                    refine xk_iload (pc := 138) d_K_pipe_138 rfl ?_
                    first | refine xk_imulN (pc := 140) d_K_pipe_140 ?_ | refine xk_imul (pc := 140) d_K_pipe_140 ?_
                    first | refine xk_iaddN (pc := 141) d_K_pipe_141 ?_ | refine xk_iadd (pc := 141) d_K_pipe_141 ?_
                    refine xk_iret (pc := 142) rfl d_K_pipe_142 rfl (Nat.le_of_ble_eq_true rfl) (Nat.le_of_ble_eq_true rfl) ?_
                    obtain ⟨q, hq⟩ := xs_pip_free (O := s.2.2.1) (by have := xs_ops_c ho1 ho2; omega)
                    have ee := xs_pipe_s hp ep hd ld he (xs_ops_c ho1 ho2) hq ho1 ho2
                    have hfd : s.2.2.1.1 (6 * p + d) = none := of_decide_eq_true (xs_least_sp hd).2.2.1
                    have hfe : s.2.2.1.1 (6 * p + e) = none := of_decide_eq_true (xs_least_sp he).2.2.1
                    have hde : d < e := by have := (xs_least_sp he).1; omega
                    have hqq := (xs_least_sp hq).2.2.1
                    have q1 : xs_end s.2.2.1 q 1 = false := by
                      cases hz : xs_end s.2.2.1 q 1 with
                      | false => rfl
                      | true => rw [hz] at hqq; cases hqq
                    have q2 : xs_end s.2.2.1 q 2 = false := by
                      cases hz : xs_end s.2.2.1 q 2 with
                      | false => rfl
                      | true => rw [hz, q1] at hqq; cases hqq
                    have hz0 : ∀ k, m n k = 0 := fun k => (hz_75 k).1
                    refine xq_p2 ee ?_ ?_ hQ
                    · refine ⟨xr_F_kept hF (fun a ha => ?_) ?_, fun f hf => ?_, xr_O_pipe (q := q) hO hn hev hp ld le (by omega) lo1 lo2 (by omega) hfd hfe u1 u2 q1 q2 (fun o ho hu => (okO.2.2.1 o ho hu).1) (fun a z1 z2 z3 => ?_) ?_ ?_ ?_ ?_ ?_ ?_ ?_ ?_ (fun a z1 z2 z3 z4 => ?_) ?_ ?_ (fun k => ?_), xr_T_kept hT (fun a h1 h2 => ?_), xr_S.up hS4 (xr_0_dek p hp e), by omega⟩
                      · funext k; rw [xk_up_a (by omega), xk_up_a (by omega), xk_up_a (by omega), xk_up_a (by omega), xk_up_a (by omega), xk_up_a (by omega)]
                      · funext k; rw [xk_up_a (by omega), xk_up_a (by omega), xk_up_a (by omega), xk_up_a (by omega), xk_up_a (by omega)]
                      · rw [xk_up_a (by omega), xk_up_a (by omega), xk_up_a (by omega), xk_up_a (by omega), xk_up_a (by omega), xk_up_a (by omega)]; exact hP f hf
                      · funext k; rw [xk_up_a (by omega), xk_up_a (by omega), xk_up_a (by omega), xk_up_a (by omega), xk_up_a (by omega), xk_up_a (by omega)]
                      · rw [xk_up_a (by omega), xk_up_s]
                      · rw [xk_up_s]
                      · rw [xk_up_k (by decide), xk_up_k (by decide), xk_up_a (by omega), xk_up_s]
                      · rw [xk_up_k (by decide), xk_up_k (by decide), xk_up_s]
                      · rw [xk_up_k (by decide), xk_up_k (by decide), xk_up_a (by omega), xk_up_a (by omega), xk_up_k (by decide), xk_up_k (by decide)]; exact hz0 1
                      · rw [xk_up_k (by decide), xk_up_k (by decide), xk_up_k (by decide), xk_up_k (by decide), xk_up_k (by decide), xk_up_k (by decide)]; exact hz0 2
                      · rw [xk_up_k (by decide), xk_up_k (by decide), xk_up_k (by decide), xk_up_k (by decide), xk_up_k (by decide), xk_up_s]
                      · rw [xk_up_k (by decide), xk_up_k (by decide), xk_up_k (by decide), xk_up_k (by decide), xk_up_s]
                      · funext k; rw [xk_up_a (by omega), xk_up_a (by omega), xk_up_a (by omega), xk_up_a (by omega), xk_up_a (by omega)]
                      · rw [xk_up_a (by omega), xk_up_a (by omega), xk_up_a (by omega), xk_up_s]
                      · rw [xk_up_a (by omega), xk_up_a (by omega), xk_up_s]
                      · by_cases w1 : k = e
                        · subst w1; rw [xk_up_s, if_pos rfl]
                        · rw [xk_up_k w1, if_neg w1]
                          by_cases w2 : k = d
                          · subst w2; rw [xk_up_s, if_pos rfl]
                          · rw [xk_up_k w2, if_neg w2, xk_up_a (by omega), xk_up_a (by omega), xk_up_a (by omega)]
                      · funext k; rw [xk_up_a (by omega), xk_up_a (by omega), xk_up_a (by omega), xk_up_a (by omega), xk_up_a (by omega), xk_up_a (by omega)]
                    · intro a h1 h2
                      refine ⟨?_, ?_⟩
                      · funext k; rw [xk_up_a (by omega), xk_up_a (by omega), xk_up_a (by omega), xk_up_a (by omega), xk_up_a (by omega), xk_up_a (by omega)]
                      · funext k; rw [xk_up_a (by omega), xk_up_a (by omega), xk_up_a (by omega), xk_up_a (by omega), xk_up_a (by omega)]
                  · exact absurd c_69 (xs_nm1 (by omega))
          · refine xk_istore (pc := 47) d_K_pipe_47 (by decide) ?_
            refine xk_iload_n (pc := 49) d_K_pipe_49 rfl ?_
            refine xk_iconst (pc := 50) (v := (-1)) d_K_pipe_50 (by decide) ?_
            first | refine xk_icmp_eqN (pc := 51) (tgt := 72) d_K_pipe_51 rfl (by omega) (by omega) (fun c_51 => ?_) (fun c_51 => ?_) | refine xk_icmp_eq (pc := 51) (tgt := 72) d_K_pipe_51 rfl (fun c_51 => ?_) (fun c_51 => ?_)
            · exact absurd c_51 (xs_nm1 (by omega))
            · refine xk_iload (pc := 54) d_K_pipe_54 rfl ?_
              refine xk_iconst (pc := 56) (v := (-1)) d_K_pipe_56 (by decide) ?_
              first | refine xk_icmp_eqN (pc := 57) (tgt := 72) d_K_pipe_57 rfl (by omega) (by omega) (fun c_57 => ?_) (fun c_57 => ?_) | refine xk_icmp_eq (pc := 57) (tgt := 72) d_K_pipe_57 rfl (fun c_57 => ?_) (fun c_57 => ?_)
              · exact absurd c_57 (xs_nm1 (by omega))
              · refine xk_iload (pc := 60) d_K_pipe_60 rfl ?_
                refine xk_iconst (pc := 62) (v := (-1)) d_K_pipe_62 (by decide) ?_
                first | refine xk_icmp_eqN (pc := 63) (tgt := 72) d_K_pipe_63 rfl (by omega) (by omega) (fun c_63 => ?_) (fun c_63 => ?_) | refine xk_icmp_eq (pc := 63) (tgt := 72) d_K_pipe_63 rfl (fun c_63 => ?_) (fun c_63 => ?_)
                · exact absurd c_63 (xs_nm1 (by omega))
                · refine xk_iload (pc := 66) d_K_pipe_66 rfl ?_
                  refine xk_iconst (pc := 68) (v := (-1)) d_K_pipe_68 (by decide) ?_
                  refine xk_icmp_ne (pc := 69) (tgt := 75) d_K_pipe_69 rfl (fun h => absurd (by decide) h) (fun _ => ?_)
                  refine xk_bipush (pc := 72) (v := (-2)) d_K_pipe_72 (by decide) ?_
                  refine xk_iret (pc := 74) rfl d_K_pipe_74 rfl (Nat.le_of_ble_eq_true rfl) (Nat.le_of_ble_eq_true rfl) ?_
                  first
                    | exact xq_p (xs_pipe_2 ep hd) hA hQ
                    | exact xq_p (xs_pipe_3 ep hd he) hA hQ
                    | exact xq_p (xs_pipe_4 ep hd he (xs_ops_a ho1)) hA hQ
                    | exact xq_p (xs_pipe_4 ep hd he (xs_ops_b ho1 ho2)) hA hQ
        · refine xk_istore (pc := 37) d_K_pipe_37 (by decide) ?_
          refine xk_aload_n (pc := 39) d_K_pipe_39 rfl ?_
          refine xk_iload (pc := 40) d_K_pipe_40 rfl ?_
          refine xk_iconst (pc := 42) (v := nI 1) d_K_pipe_42 (by decide) ?_
          refine xk_iadd (pc := 43) d_K_pipe_43 ?_
          rw [show (-1 : Int32) + nI 1 = nI 0 by decide]
          refine xk_cV1 (pc := 44) d_K_pipe_44 ml_K_85 cz_K_unusedFrom ⟨rfl, rfl⟩ rfl (by first | rfl | assumption) (by omega) (by omega) (Nat.le_of_ble_eq_true rfl) ⟨(Nat.le_of_ble_eq_true rfl), (Nat.le_of_ble_eq_true rfl)⟩ ?_
          refine c_K_unusedFrom hn hS hO (by omega) (fun o2 ho2 lo2 => ?_) (fun ho2 => ?_)
          · rw [ho1] at ho2; cases ho2
          · refine xk_istore (pc := 47) d_K_pipe_47 (by decide) ?_
            refine xk_iload_n (pc := 49) d_K_pipe_49 rfl ?_
            refine xk_iconst (pc := 50) (v := (-1)) d_K_pipe_50 (by decide) ?_
            first | refine xk_icmp_eqN (pc := 51) (tgt := 72) d_K_pipe_51 rfl (by omega) (by omega) (fun c_51 => ?_) (fun c_51 => ?_) | refine xk_icmp_eq (pc := 51) (tgt := 72) d_K_pipe_51 rfl (fun c_51 => ?_) (fun c_51 => ?_)
            · exact absurd c_51 (xs_nm1 (by omega))
            · refine xk_iload (pc := 54) d_K_pipe_54 rfl ?_
              refine xk_iconst (pc := 56) (v := (-1)) d_K_pipe_56 (by decide) ?_
              first | refine xk_icmp_eqN (pc := 57) (tgt := 72) d_K_pipe_57 rfl (by omega) (by omega) (fun c_57 => ?_) (fun c_57 => ?_) | refine xk_icmp_eq (pc := 57) (tgt := 72) d_K_pipe_57 rfl (fun c_57 => ?_) (fun c_57 => ?_)
              · exact absurd c_57 (xs_nm1 (by omega))
              · refine xk_iload (pc := 60) d_K_pipe_60 rfl ?_
                refine xk_iconst (pc := 62) (v := (-1)) d_K_pipe_62 (by decide) ?_
                refine xk_icmp_eq (pc := 63) (tgt := 72) d_K_pipe_63 rfl (fun _ => ?_) (fun h => absurd (by decide) h)
                refine xk_bipush (pc := 72) (v := (-2)) d_K_pipe_72 (by decide) ?_
                refine xk_iret (pc := 74) rfl d_K_pipe_74 rfl (Nat.le_of_ble_eq_true rfl) (Nat.le_of_ble_eq_true rfl) ?_
                first
                  | exact xq_p (xs_pipe_2 ep hd) hA hQ
                  | exact xq_p (xs_pipe_3 ep hd he) hA hQ
                  | exact xq_p (xs_pipe_4 ep hd he (xs_ops_a ho1)) hA hQ
                  | exact xq_p (xs_pipe_4 ep hd he (xs_ops_b ho1 ho2)) hA hQ
      · refine xk_istore (pc := 30) d_K_pipe_30 (by decide) ?_
        refine xk_aload_n (pc := 32) d_K_pipe_32 rfl ?_
        refine xk_iconst (pc := 33) (v := nI 0) d_K_pipe_33 (by decide) ?_
        refine xk_cV1 (pc := 34) d_K_pipe_34 ml_K_85 cz_K_unusedFrom ⟨rfl, rfl⟩ rfl (by first | rfl | assumption) (by omega) (by omega) (Nat.le_of_ble_eq_true rfl) ⟨(Nat.le_of_ble_eq_true rfl), (Nat.le_of_ble_eq_true rfl)⟩ ?_
        refine c_K_unusedFrom hn hS hO (by omega) (fun o1 ho1 lo1 => ?_) (fun ho1 => ?_)
        · refine xk_istore (pc := 37) d_K_pipe_37 (by decide) ?_
          refine xk_aload_n (pc := 39) d_K_pipe_39 rfl ?_
          refine xk_iload (pc := 40) d_K_pipe_40 rfl ?_
          refine xk_iconst (pc := 42) (v := nI 1) d_K_pipe_42 (by decide) ?_
          first | refine xk_iaddN (pc := 43) d_K_pipe_43 ?_ | refine xk_iadd (pc := 43) d_K_pipe_43 ?_
          refine xk_cV1 (pc := 44) d_K_pipe_44 ml_K_85 cz_K_unusedFrom ⟨rfl, rfl⟩ rfl (by first | rfl | assumption) (by omega) (by omega) (Nat.le_of_ble_eq_true rfl) ⟨(Nat.le_of_ble_eq_true rfl), (Nat.le_of_ble_eq_true rfl)⟩ ?_
          refine c_K_unusedFrom hn hS hO (by omega) (fun o2 ho2 lo2 => ?_) (fun ho2 => ?_)
          · refine xk_istore (pc := 47) d_K_pipe_47 (by decide) ?_
            refine xk_iload_n (pc := 49) d_K_pipe_49 rfl ?_
            refine xk_iconst (pc := 50) (v := (-1)) d_K_pipe_50 (by decide) ?_
            first | refine xk_icmp_eqN (pc := 51) (tgt := 72) d_K_pipe_51 rfl (by omega) (by omega) (fun c_51 => ?_) (fun c_51 => ?_) | refine xk_icmp_eq (pc := 51) (tgt := 72) d_K_pipe_51 rfl (fun c_51 => ?_) (fun c_51 => ?_)
            · exact absurd c_51 (xs_nm1 (by omega))
            · refine xk_iload (pc := 54) d_K_pipe_54 rfl ?_
              refine xk_iconst (pc := 56) (v := (-1)) d_K_pipe_56 (by decide) ?_
              refine xk_icmp_eq (pc := 57) (tgt := 72) d_K_pipe_57 rfl (fun _ => ?_) (fun h => absurd (by decide) h)
              refine xk_bipush (pc := 72) (v := (-2)) d_K_pipe_72 (by decide) ?_
              refine xk_iret (pc := 74) rfl d_K_pipe_74 rfl (Nat.le_of_ble_eq_true rfl) (Nat.le_of_ble_eq_true rfl) ?_
              first
                | exact xq_p (xs_pipe_2 ep hd) hA hQ
                | exact xq_p (xs_pipe_3 ep hd he) hA hQ
                | exact xq_p (xs_pipe_4 ep hd he (xs_ops_a ho1)) hA hQ
                | exact xq_p (xs_pipe_4 ep hd he (xs_ops_b ho1 ho2)) hA hQ
          · refine xk_istore (pc := 47) d_K_pipe_47 (by decide) ?_
            refine xk_iload_n (pc := 49) d_K_pipe_49 rfl ?_
            refine xk_iconst (pc := 50) (v := (-1)) d_K_pipe_50 (by decide) ?_
            first | refine xk_icmp_eqN (pc := 51) (tgt := 72) d_K_pipe_51 rfl (by omega) (by omega) (fun c_51 => ?_) (fun c_51 => ?_) | refine xk_icmp_eq (pc := 51) (tgt := 72) d_K_pipe_51 rfl (fun c_51 => ?_) (fun c_51 => ?_)
            · exact absurd c_51 (xs_nm1 (by omega))
            · refine xk_iload (pc := 54) d_K_pipe_54 rfl ?_
              refine xk_iconst (pc := 56) (v := (-1)) d_K_pipe_56 (by decide) ?_
              refine xk_icmp_eq (pc := 57) (tgt := 72) d_K_pipe_57 rfl (fun _ => ?_) (fun h => absurd (by decide) h)
              refine xk_bipush (pc := 72) (v := (-2)) d_K_pipe_72 (by decide) ?_
              refine xk_iret (pc := 74) rfl d_K_pipe_74 rfl (Nat.le_of_ble_eq_true rfl) (Nat.le_of_ble_eq_true rfl) ?_
              first
                | exact xq_p (xs_pipe_2 ep hd) hA hQ
                | exact xq_p (xs_pipe_3 ep hd he) hA hQ
                | exact xq_p (xs_pipe_4 ep hd he (xs_ops_a ho1)) hA hQ
                | exact xq_p (xs_pipe_4 ep hd he (xs_ops_b ho1 ho2)) hA hQ
        · refine xk_istore (pc := 37) d_K_pipe_37 (by decide) ?_
          refine xk_aload_n (pc := 39) d_K_pipe_39 rfl ?_
          refine xk_iload (pc := 40) d_K_pipe_40 rfl ?_
          refine xk_iconst (pc := 42) (v := nI 1) d_K_pipe_42 (by decide) ?_
          refine xk_iadd (pc := 43) d_K_pipe_43 ?_
          rw [show (-1 : Int32) + nI 1 = nI 0 by decide]
          refine xk_cV1 (pc := 44) d_K_pipe_44 ml_K_85 cz_K_unusedFrom ⟨rfl, rfl⟩ rfl (by first | rfl | assumption) (by omega) (by omega) (Nat.le_of_ble_eq_true rfl) ⟨(Nat.le_of_ble_eq_true rfl), (Nat.le_of_ble_eq_true rfl)⟩ ?_
          refine c_K_unusedFrom hn hS hO (by omega) (fun o2 ho2 lo2 => ?_) (fun ho2 => ?_)
          · rw [ho1] at ho2; cases ho2
          · refine xk_istore (pc := 47) d_K_pipe_47 (by decide) ?_
            refine xk_iload_n (pc := 49) d_K_pipe_49 rfl ?_
            refine xk_iconst (pc := 50) (v := (-1)) d_K_pipe_50 (by decide) ?_
            first | refine xk_icmp_eqN (pc := 51) (tgt := 72) d_K_pipe_51 rfl (by omega) (by omega) (fun c_51 => ?_) (fun c_51 => ?_) | refine xk_icmp_eq (pc := 51) (tgt := 72) d_K_pipe_51 rfl (fun c_51 => ?_) (fun c_51 => ?_)
            · exact absurd c_51 (xs_nm1 (by omega))
            · refine xk_iload (pc := 54) d_K_pipe_54 rfl ?_
              refine xk_iconst (pc := 56) (v := (-1)) d_K_pipe_56 (by decide) ?_
              refine xk_icmp_eq (pc := 57) (tgt := 72) d_K_pipe_57 rfl (fun _ => ?_) (fun h => absurd (by decide) h)
              refine xk_bipush (pc := 72) (v := (-2)) d_K_pipe_72 (by decide) ?_
              refine xk_iret (pc := 74) rfl d_K_pipe_74 rfl (Nat.le_of_ble_eq_true rfl) (Nat.le_of_ble_eq_true rfl) ?_
              first
                | exact xq_p (xs_pipe_2 ep hd) hA hQ
                | exact xq_p (xs_pipe_3 ep hd he) hA hQ
                | exact xq_p (xs_pipe_4 ep hd he (xs_ops_a ho1)) hA hQ
                | exact xq_p (xs_pipe_4 ep hd he (xs_ops_b ho1 ho2)) hA hQ
    · refine xk_istore_n (pc := 22) d_K_pipe_22 (by decide) ?_
      refine xk_aload_n (pc := 23) d_K_pipe_23 rfl ?_
      refine xk_iload_n (pc := 24) d_K_pipe_24 rfl ?_
      refine xk_iconst (pc := 25) (v := nI 1) d_K_pipe_25 (by decide) ?_
      refine xk_iadd (pc := 26) d_K_pipe_26 ?_
      rw [show (-1 : Int32) + nI 1 = nI 0 by decide]
      refine xk_cV1 (pc := 27) d_K_pipe_27 ml_K_81 cz_Task_freeFrom ⟨rfl, rfl⟩ rfl (by first | rfl | assumption) (by omega) (by omega) (Nat.le_of_ble_eq_true rfl) ⟨(Nat.le_of_ble_eq_true rfl), (Nat.le_of_ble_eq_true rfl)⟩ ?_
      refine c_Task_freeFrom hn hS hp (O := s.2.2.1) (by omega) (fun d hd => hO.2.1 p d hp hd) (fun e he le => ?_) (fun he => ?_)
      · rw [hd] at he; cases he
      · refine xk_istore (pc := 30) d_K_pipe_30 (by decide) ?_
        refine xk_aload_n (pc := 32) d_K_pipe_32 rfl ?_
        refine xk_iconst (pc := 33) (v := nI 0) d_K_pipe_33 (by decide) ?_
        refine xk_cV1 (pc := 34) d_K_pipe_34 ml_K_85 cz_K_unusedFrom ⟨rfl, rfl⟩ rfl (by first | rfl | assumption) (by omega) (by omega) (Nat.le_of_ble_eq_true rfl) ⟨(Nat.le_of_ble_eq_true rfl), (Nat.le_of_ble_eq_true rfl)⟩ ?_
        refine c_K_unusedFrom hn hS hO (by omega) (fun o1 ho1 lo1 => ?_) (fun ho1 => ?_)
        · refine xk_istore (pc := 37) d_K_pipe_37 (by decide) ?_
          refine xk_aload_n (pc := 39) d_K_pipe_39 rfl ?_
          refine xk_iload (pc := 40) d_K_pipe_40 rfl ?_
          refine xk_iconst (pc := 42) (v := nI 1) d_K_pipe_42 (by decide) ?_
          first | refine xk_iaddN (pc := 43) d_K_pipe_43 ?_ | refine xk_iadd (pc := 43) d_K_pipe_43 ?_
          refine xk_cV1 (pc := 44) d_K_pipe_44 ml_K_85 cz_K_unusedFrom ⟨rfl, rfl⟩ rfl (by first | rfl | assumption) (by omega) (by omega) (Nat.le_of_ble_eq_true rfl) ⟨(Nat.le_of_ble_eq_true rfl), (Nat.le_of_ble_eq_true rfl)⟩ ?_
          refine c_K_unusedFrom hn hS hO (by omega) (fun o2 ho2 lo2 => ?_) (fun ho2 => ?_)
          · refine xk_istore (pc := 47) d_K_pipe_47 (by decide) ?_
            refine xk_iload_n (pc := 49) d_K_pipe_49 rfl ?_
            refine xk_iconst (pc := 50) (v := (-1)) d_K_pipe_50 (by decide) ?_
            refine xk_icmp_eq (pc := 51) (tgt := 72) d_K_pipe_51 rfl (fun _ => ?_) (fun h => absurd (by decide) h)
            refine xk_bipush (pc := 72) (v := (-2)) d_K_pipe_72 (by decide) ?_
            refine xk_iret (pc := 74) rfl d_K_pipe_74 rfl (Nat.le_of_ble_eq_true rfl) (Nat.le_of_ble_eq_true rfl) ?_
            first
              | exact xq_p (xs_pipe_2 ep hd) hA hQ
              | exact xq_p (xs_pipe_3 ep hd he) hA hQ
              | exact xq_p (xs_pipe_4 ep hd he (xs_ops_a ho1)) hA hQ
              | exact xq_p (xs_pipe_4 ep hd he (xs_ops_b ho1 ho2)) hA hQ
          · refine xk_istore (pc := 47) d_K_pipe_47 (by decide) ?_
            refine xk_iload_n (pc := 49) d_K_pipe_49 rfl ?_
            refine xk_iconst (pc := 50) (v := (-1)) d_K_pipe_50 (by decide) ?_
            refine xk_icmp_eq (pc := 51) (tgt := 72) d_K_pipe_51 rfl (fun _ => ?_) (fun h => absurd (by decide) h)
            refine xk_bipush (pc := 72) (v := (-2)) d_K_pipe_72 (by decide) ?_
            refine xk_iret (pc := 74) rfl d_K_pipe_74 rfl (Nat.le_of_ble_eq_true rfl) (Nat.le_of_ble_eq_true rfl) ?_
            first
              | exact xq_p (xs_pipe_2 ep hd) hA hQ
              | exact xq_p (xs_pipe_3 ep hd he) hA hQ
              | exact xq_p (xs_pipe_4 ep hd he (xs_ops_a ho1)) hA hQ
              | exact xq_p (xs_pipe_4 ep hd he (xs_ops_b ho1 ho2)) hA hQ
        · refine xk_istore (pc := 37) d_K_pipe_37 (by decide) ?_
          refine xk_aload_n (pc := 39) d_K_pipe_39 rfl ?_
          refine xk_iload (pc := 40) d_K_pipe_40 rfl ?_
          refine xk_iconst (pc := 42) (v := nI 1) d_K_pipe_42 (by decide) ?_
          refine xk_iadd (pc := 43) d_K_pipe_43 ?_
          rw [show (-1 : Int32) + nI 1 = nI 0 by decide]
          refine xk_cV1 (pc := 44) d_K_pipe_44 ml_K_85 cz_K_unusedFrom ⟨rfl, rfl⟩ rfl (by first | rfl | assumption) (by omega) (by omega) (Nat.le_of_ble_eq_true rfl) ⟨(Nat.le_of_ble_eq_true rfl), (Nat.le_of_ble_eq_true rfl)⟩ ?_
          refine c_K_unusedFrom hn hS hO (by omega) (fun o2 ho2 lo2 => ?_) (fun ho2 => ?_)
          · rw [ho1] at ho2; cases ho2
          · refine xk_istore (pc := 47) d_K_pipe_47 (by decide) ?_
            refine xk_iload_n (pc := 49) d_K_pipe_49 rfl ?_
            refine xk_iconst (pc := 50) (v := (-1)) d_K_pipe_50 (by decide) ?_
            refine xk_icmp_eq (pc := 51) (tgt := 72) d_K_pipe_51 rfl (fun _ => ?_) (fun h => absurd (by decide) h)
            refine xk_bipush (pc := 72) (v := (-2)) d_K_pipe_72 (by decide) ?_
            refine xk_iret (pc := 74) rfl d_K_pipe_74 rfl (Nat.le_of_ble_eq_true rfl) (Nat.le_of_ble_eq_true rfl) ?_
            first
              | exact xq_p (xs_pipe_2 ep hd) hA hQ
              | exact xq_p (xs_pipe_3 ep hd he) hA hQ
              | exact xq_p (xs_pipe_4 ep hd he (xs_ops_a ho1)) hA hQ
              | exact xq_p (xs_pipe_4 ep hd he (xs_ops_b ho1 ho2)) hA hQ
  · refine xk_if_ne (pc := 5) (tgt := 10) d_K_pipe_5 rfl (fun h => absurd (by decide) h) (fun _ => ?_)
    refine xk_iconst (pc := 8) (v := (-1)) d_K_pipe_8 (by decide) ?_
    refine xk_iret (pc := 9) rfl d_K_pipe_9 rfl (Nat.le_of_ble_eq_true rfl) (Nat.le_of_ble_eq_true rfl) ?_
    exact xq_p (show xs_pipe s x = (-1, s) by unfold xs_pipe; rw [ep]) hA hQ
