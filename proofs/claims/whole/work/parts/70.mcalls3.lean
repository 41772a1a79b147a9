set_option maxRecDepth 20000 in
set_option maxHeartbeats 4000000 in
theorem l_msy2 {E : xk_E} {n : Nat} {r : xk_P} {Q : xk_Q} {m : xk_M} {F : xs_F} {f b o w : Nat} {v1 v2 : Option xk_V} (hn : 74 ≤ n) (hS : xr_S r n) (hF : xm_F F m) (hok : xs_okF F) (hf : f < 8) (hb : b < 4) (ho : o < 16) (hw : m 68 o = nI f) (hK : xk_W E m_M_sync 105 [some (.inr (some 53)), v1, v2, some (.inl (nI o)), some (.inl (nI w)), some (.inl (nI b)), some (.inl (nI F.2.2.length))] [] n m r 0 0 Q) : ∀ (k : Nat) (i : Nat), F.2.2.length - i < k → i ≤ F.2.2.length → (∀ (j : Nat) (x : xs_B), i ≤ j → F.2.2[j]? = some x → xs_is f b x = false) → xk_W E m_M_sync 40 [some (.inr (some 53)), v1, v2, some (.inl (nI o)), some (.inl (nI w)), some (.inl (nI b)), some (.inl (nI i))] [] n m r 0 0 Q := by
  intro k
  induction k with
  | zero => intro i h; exact absurd h (Nat.not_lt_zero _)
  | succ k ih =>
    intro i hk hi hj
    have hl5 := hF.2.2.2.1
    refine xk_iload (pc := 40) d_M_sync_40 rfl ?_
    refine xk_aload_n (pc := 42) d_M_sync_42 rfl ?_
    refine xk_getIo (pc := 43) d_M_sync_43 fl_M_74 (by first | rfl | assumption) rfl (by omega) (by omega) hF.2.2.1 ?_
    first | refine xk_icmp_geN (pc := 46) (tgt := 105) d_M_sync_46 rfl (by omega) (by omega) (fun c_46 => ?_) (fun c_46 => ?_) | refine xk_icmp_ge (pc := 46) (tgt := 105) d_M_sync_46 rfl (fun c_46 => ?_) (fun c_46 => ?_)
    · have e : i = F.2.2.length := by omega
      subst e
      exact hK
    · obtain ⟨x, hx⟩ := xs_get_lt c_46
      obtain ⟨g0, g1, g2⟩ := hF.2.2.2.2 i x hx
      obtain ⟨x1, x2, x3⟩ := hok.2.2.1 i x hx
      refine xk_aload_n (pc := 49) d_M_sync_49 rfl ?_
      refine xk_getRo (pc := 50) d_M_sync_50 fl_M_26 (by first | rfl | assumption) rfl (by omega) (by omega) (hS _ _ _ rfl (by omega)) ?_
      refine xk_iload (pc := 53) d_M_sync_53 rfl ?_
      refine xk_ialoado (pc := 55) d_M_sync_55 (by first | rfl | assumption) (by omega) (by omega) rfl (by omega) (by decide) g0 ?_
      refine xk_aload_n (pc := 56) d_M_sync_56 rfl ?_
      refine xk_getRo (pc := 57) d_M_sync_57 fl_M_53 (by first | rfl | assumption) rfl (by omega) (by omega) (hS _ _ _ rfl (by omega)) ?_
      refine xk_iload_n (pc := 60) d_M_sync_60 rfl ?_
      refine xk_ialoado (pc := 61) d_M_sync_61 (by first | rfl | assumption) (by omega) (by omega) rfl (by omega) (by decide) hw ?_
      refine xk_bipush (pc := 62) (v := nI 8) d_M_sync_62 (by decide) ?_
      refine xk_iload (pc := 64) d_M_sync_64 rfl ?_
      first | refine xk_imulN (pc := 66) d_M_sync_66 ?_ | refine xk_imul (pc := 66) d_M_sync_66 ?_
      first | refine xk_iaddN (pc := 67) d_M_sync_67 ?_ | refine xk_iadd (pc := 67) d_M_sync_67 ?_
      first | refine xk_icmp_neN (pc := 68) (tgt := 99) d_M_sync_68 rfl (by omega) (by omega) (fun c_68 => ?_) (fun c_68 => ?_) | refine xk_icmp_ne (pc := 68) (tgt := 99) d_M_sync_68 rfl (fun c_68 => ?_) (fun c_68 => ?_)
      · refine xk_iincN (pc := 99) (d := 1) d_M_sync_99 rfl ?_
        refine xk_goto (pc := 102) (tgt := 40) d_M_sync_102 rfl ?_
        exact ih (i + 1) (by omega) (by omega) (fun j y hji hy => hj j y (by omega) hy)
      · exact absurd (⟨by omega, by omega⟩ : x.1 = f ∧ x.2.1 = b) (of_decide_eq_false (hj i x (Nat.le_refl _) hx))

set_option maxRecDepth 20000 in
set_option maxHeartbeats 4000000 in
theorem l_msy1 {E : xk_E} {n : Nat} {r : xk_P} {Q : xk_Q} {m : xk_M} {F : xs_F} {f b o w : Nat} {v1 v2 : Option xk_V} (hn : 74 ≤ n) (hS : xr_S r n) (hF : xm_F F m) (hok : xs_okF F) (hops : F.1.2.2.2.2.1 < 2 ^ 30) (hf : f < 8) (hb : b < 4) (ho : o < 16) (hw : m 68 o = nI f) (hK : (F.2.2.findIdx? (xs_is f b) = none ∨ ∃ i x, F.2.2.findIdx? (xs_is f b) = some i ∧ F.2.2[i]? = some x ∧ x.2.2.1 = false) → xk_W E m_M_sync 105 [some (.inr (some 53)), v1, v2, some (.inl (nI o)), some (.inl (nI w)), some (.inl (nI b)), some (.inl (nI F.2.2.length))] [] n m r 0 0 Q) (hK1 : ∀ (i : Nat) (x : xs_B) (m' : xk_M), F.2.2.findIdx? (xs_is f b) = some i → F.2.2[i]? = some x → x.2.2.1 = true → F.1.2.2.2.2.2 = 0 → xm_F (xs_wrh (xs_op F.1 1 x.1 x.2.1).1 (F.2.1 x.1) x, F.2.1, F.2.2.set i (x.1, x.2.1, false, x.2.2.2)) m' → xm_fF m m' → xk_W E m_M_sync 105 [some (.inr (some 53)), v1, v2, some (.inl (nI o)), some (.inl (nI (w + 1))), some (.inl (nI b)), some (.inl (nI F.2.2.length))] [] n m' r 0 0 Q) (h0 : ∀ (i : Nat) (x : xs_B) (m' : xk_M), F.2.2.findIdx? (xs_is f b) = some i → F.2.2[i]? = some x → x.2.2.1 = true → F.1.2.2.2.2.2 ≠ 0 → xm_F ((xs_op F.1 1 x.1 x.2.1).1, F.2) m' → xm_fF m m' → Q (some (.inl (-8))) n m' r) : ∀ (k : Nat) (i : Nat), F.2.2.length - i < k → i ≤ F.2.2.length → (∀ (j : Nat) (x : xs_B), j < i → F.2.2[j]? = some x → x.1 = f → x.2.1 = b → x.2.2.1 = false) → xk_W E m_M_sync 40 [some (.inr (some 53)), v1, v2, some (.inl (nI o)), some (.inl (nI w)), some (.inl (nI b)), some (.inl (nI i))] [] n m r 0 0 Q := by
  intro k
  induction k with
  | zero => intro i h; exact absurd h (Nat.not_lt_zero _)
  | succ k ih =>
    intro i hk hi hj
    have hl5 := hF.2.2.2.1
    refine xk_iload (pc := 40) d_M_sync_40 rfl ?_
    refine xk_aload_n (pc := 42) d_M_sync_42 rfl ?_
    refine xk_getIo (pc := 43) d_M_sync_43 fl_M_74 (by first | rfl | assumption) rfl (by omega) (by omega) hF.2.2.1 ?_
    first | refine xk_icmp_geN (pc := 46) (tgt := 105) d_M_sync_46 rfl (by omega) (by omega) (fun c_46 => ?_) (fun c_46 => ?_) | refine xk_icmp_ge (pc := 46) (tgt := 105) d_M_sync_46 rfl (fun c_46 => ?_) (fun c_46 => ?_)
    · have e : i = F.2.2.length := by omega
      subst e
      refine hK ?_
      cases hfi : F.2.2.findIdx? (xs_is f b) with
      | none => exact Or.inl rfl
      | some i0 =>
        obtain ⟨x, hx, e1, e2⟩ := xs_fi_is hfi
        exact Or.inr ⟨i0, x, rfl, hx, hj i0 x (xs_lt hx) hx e1 e2⟩
    · obtain ⟨x, hx⟩ := xs_get_lt c_46
      obtain ⟨g0, g1, g2⟩ := hF.2.2.2.2 i x hx
      obtain ⟨x1, x2, x3⟩ := hok.2.2.1 i x hx
      refine xk_aload_n (pc := 49) d_M_sync_49 rfl ?_
      refine xk_getRo (pc := 50) d_M_sync_50 fl_M_26 (by first | rfl | assumption) rfl (by omega) (by omega) (hS _ _ _ rfl (by omega)) ?_
      refine xk_iload (pc := 53) d_M_sync_53 rfl ?_
      refine xk_ialoado (pc := 55) d_M_sync_55 (by first | rfl | assumption) (by omega) (by omega) rfl (by omega) (by decide) g0 ?_
      refine xk_aload_n (pc := 56) d_M_sync_56 rfl ?_
      refine xk_getRo (pc := 57) d_M_sync_57 fl_M_53 (by first | rfl | assumption) rfl (by omega) (by omega) (hS _ _ _ rfl (by omega)) ?_
      refine xk_iload_n (pc := 60) d_M_sync_60 rfl ?_
      refine xk_ialoado (pc := 61) d_M_sync_61 (by first | rfl | assumption) (by omega) (by omega) rfl (by omega) (by decide) hw ?_
      refine xk_bipush (pc := 62) (v := nI 8) d_M_sync_62 (by decide) ?_
      refine xk_iload (pc := 64) d_M_sync_64 rfl ?_
      first | refine xk_imulN (pc := 66) d_M_sync_66 ?_ | refine xk_imul (pc := 66) d_M_sync_66 ?_
      first | refine xk_iaddN (pc := 67) d_M_sync_67 ?_ | refine xk_iadd (pc := 67) d_M_sync_67 ?_
      first | refine xk_icmp_neN (pc := 68) (tgt := 99) d_M_sync_68 rfl (by omega) (by omega) (fun c_68 => ?_) (fun c_68 => ?_) | refine xk_icmp_ne (pc := 68) (tgt := 99) d_M_sync_68 rfl (fun c_68 => ?_) (fun c_68 => ?_)
      · refine xk_iincN (pc := 99) (d := 1) d_M_sync_99 rfl ?_
        refine xk_goto (pc := 102) (tgt := 40) d_M_sync_102 rfl ?_
        first
          | (refine l_msy2 (F := (xs_wrh (xs_op F.1 1 x.1 x.2.1).1 (F.2.1 x.1) x, F.2.1, F.2.2.set i (x.1, x.2.1, false, x.2.2.2))) hn hS hF1 (xo_sy1 hok hx) hf hb ho ((congrFun (hm1 68 (by omega)) o).trans hw) ?_ (F.2.2.length + 1) (i + 1) ?_ ?_ ?_
             · show xk_W E m_M_sync 105 [some (.inr (some 53)), v1, v2, some (.inl (nI o)), some (.inl (nI (w + 1))), some (.inl (nI b)), some (.inl (nI (F.2.2.set i (x.1, x.2.1, false, x.2.2.2)).length))] [] n m1 r 0 0 Q
               rw [List.length_set]
               exact hK1 i x m1 hfi hx hd z hF1 hm1
             · show (F.2.2.set i (x.1, x.2.1, false, x.2.2.2)).length - (i + 1) < _
               rw [List.length_set]
               omega
             · show _ ≤ (F.2.2.set i (x.1, x.2.1, false, x.2.2.2)).length
               rw [List.length_set]
               omega
             · intro j y hji hy
               have hy2 : (F.2.2.set i (x.1, x.2.1, false, x.2.2.2))[j]? = some y := hy
               rw [List.getElem?_set_ne (by omega)] at hy2
               refine decide_eq_false (fun q => ?_)
               have := hok.2.2.2.1 i j x y hx hy2 (by rw [y1, q.1]) (by rw [y2, q.2])
               omega)
          | exact ih (i + 1) (by omega) (by omega) (fun j y hji hy a1 a2 => by
              by_cases q : j = i
              · subst q
                rw [hx] at hy
                cases hy
                first | exact hd | omega
              · exact hj j y (by omega) hy a1 a2)
      · have y1 : x.1 = f := by omega
        have y2 : x.2.1 = b := by omega
        refine xk_aload_n (pc := 71) d_M_sync_71 rfl ?_
        refine xk_getRo (pc := 72) d_M_sync_72 fl_M_29 (by first | rfl | assumption) rfl (by omega) (by omega) (hS _ _ _ rfl (by omega)) ?_
        refine xk_iload (pc := 75) d_M_sync_75 rfl ?_
        refine xk_baloado (pc := 77) d_M_sync_77 (by first | rfl | assumption) (by omega) (by omega) rfl (by omega) (by decide) g1 ?_
        first | refine xk_if_neN (pc := 78) (tgt := 84) d_M_sync_78 rfl (by omega) (fun c_78 => ?_) (fun c_78 => ?_) | refine xk_if_ne (pc := 78) (tgt := 84) d_M_sync_78 rfl (fun c_78 => ?_) (fun c_78 => ?_)
        · have hd := xs_bi_nz c_78
          have hfi : F.2.2.findIdx? (xs_is f b) = some i := xs_fi_some hx (decide_eq_true ⟨y1, y2⟩) (fun j y hji hy => decide_eq_false (fun z => by
            have := hok.2.2.2.1 i j x y hx hy (by rw [y1, z.1]) (by rw [y2, z.2])
            omega))
          refine xk_aload_n (pc := 84) d_M_sync_84 rfl ?_
          refine xk_iload (pc := 85) d_M_sync_85 rfl ?_
          refine xk_cV1 (pc := 87) d_M_sync_87 ml_M_102 cz_M_writeBack ⟨rfl, rfl⟩ rfl (by first | rfl | assumption) (by omega) (by omega) (Nat.le_of_ble_eq_true rfl) ⟨(Nat.le_of_ble_eq_true rfl), (Nat.le_of_ble_eq_true rfl)⟩ ?_
          refine c_M_writeBack hn hS hF hok hops hx hd (fun z m1 hF1 hm1 => ?_) (fun z m1 hF1 hm1 => ?_)
          · refine xk_if_ne (pc := 90) (tgt := 96) d_M_sync_90 rfl (fun _ => ?_) (fun h => absurd h (by decide))
            refine xk_iincN (pc := 96) (d := 1) d_M_sync_96 rfl ?_
            refine xk_iincN (pc := 99) (d := 1) d_M_sync_99 rfl ?_
            refine xk_goto (pc := 102) (tgt := 40) d_M_sync_102 rfl ?_
            first
              | (refine l_msy2 (F := (xs_wrh (xs_op F.1 1 x.1 x.2.1).1 (F.2.1 x.1) x, F.2.1, F.2.2.set i (x.1, x.2.1, false, x.2.2.2))) hn hS hF1 (xo_sy1 hok hx) hf hb ho ((congrFun (hm1 68 (by omega)) o).trans hw) ?_ (F.2.2.length + 1) (i + 1) ?_ ?_ ?_
                 · show xk_W E m_M_sync 105 [some (.inr (some 53)), v1, v2, some (.inl (nI o)), some (.inl (nI (w + 1))), some (.inl (nI b)), some (.inl (nI (F.2.2.set i (x.1, x.2.1, false, x.2.2.2)).length))] [] n m1 r 0 0 Q
                   rw [List.length_set]
                   exact hK1 i x m1 hfi hx hd z hF1 hm1
                 · show (F.2.2.set i (x.1, x.2.1, false, x.2.2.2)).length - (i + 1) < _
                   rw [List.length_set]
                   omega
                 · show _ ≤ (F.2.2.set i (x.1, x.2.1, false, x.2.2.2)).length
                   rw [List.length_set]
                   omega
                 · intro j y hji hy
                   have hy2 : (F.2.2.set i (x.1, x.2.1, false, x.2.2.2))[j]? = some y := hy
                   rw [List.getElem?_set_ne (by omega)] at hy2
                   refine decide_eq_false (fun q => ?_)
                   have := hok.2.2.2.1 i j x y hx hy2 (by rw [y1, q.1]) (by rw [y2, q.2])
                   omega)
              | exact ih (i + 1) (by omega) (by omega) (fun j y hji hy a1 a2 => by
                  by_cases q : j = i
                  · subst q
                    rw [hx] at hy
                    cases hy
                    first | exact hd | omega
                  · exact hj j y (by omega) hy a1 a2)
          · refine xk_if_ne (pc := 90) (tgt := 96) d_M_sync_90 rfl (fun h => absurd (by decide) h) (fun _ => ?_)
            refine xk_bipush (pc := 93) (v := (-8)) d_M_sync_93 (by decide) ?_
            refine xk_iret (pc := 95) rfl d_M_sync_95 rfl (Nat.le_of_ble_eq_true rfl) (Nat.le_of_ble_eq_true rfl) ?_
            exact h0 i x m1 hfi hx hd z hF1 hm1
        · have hd := xs_bi_z.mp c_78
          refine xk_goto (pc := 81) (tgt := 99) d_M_sync_81 rfl ?_
          refine xk_iincN (pc := 99) (d := 1) d_M_sync_99 rfl ?_
          refine xk_goto (pc := 102) (tgt := 40) d_M_sync_102 rfl ?_
          first
            | (refine l_msy2 (F := (xs_wrh (xs_op F.1 1 x.1 x.2.1).1 (F.2.1 x.1) x, F.2.1, F.2.2.set i (x.1, x.2.1, false, x.2.2.2))) hn hS hF1 (xo_sy1 hok hx) hf hb ho ((congrFun (hm1 68 (by omega)) o).trans hw) ?_ (F.2.2.length + 1) (i + 1) ?_ ?_ ?_
               · show xk_W E m_M_sync 105 [some (.inr (some 53)), v1, v2, some (.inl (nI o)), some (.inl (nI (w + 1))), some (.inl (nI b)), some (.inl (nI (F.2.2.set i (x.1, x.2.1, false, x.2.2.2)).length))] [] n m1 r 0 0 Q
                 rw [List.length_set]
                 exact hK1 i x m1 hfi hx hd z hF1 hm1
               · show (F.2.2.set i (x.1, x.2.1, false, x.2.2.2)).length - (i + 1) < _
                 rw [List.length_set]
                 omega
               · show _ ≤ (F.2.2.set i (x.1, x.2.1, false, x.2.2.2)).length
                 rw [List.length_set]
                 omega
               · intro j y hji hy
                 have hy2 : (F.2.2.set i (x.1, x.2.1, false, x.2.2.2))[j]? = some y := hy
                 rw [List.getElem?_set_ne (by omega)] at hy2
                 refine decide_eq_false (fun q => ?_)
                 have := hok.2.2.2.1 i j x y hx hy2 (by rw [y1, q.1]) (by rw [y2, q.2])
                 omega)
            | exact ih (i + 1) (by omega) (by omega) (fun j y hji hy a1 a2 => by
                by_cases q : j = i
                · subst q
                  rw [hx] at hy
                  cases hy
                  first | exact hd | omega
                · exact hj j y (by omega) hy a1 a2)

set_option maxRecDepth 20000 in
set_option maxHeartbeats 4000000 in
theorem s_msy105 {E : xk_E} {n : Nat} {m : xk_M} {r : xk_P} {Q : xk_Q} {b : Nat} {v1 v2 v3 v4 v6 : Option xk_V} (hK : xk_W E m_M_sync 31 [some (.inr (some 53)), v1, v2, v3, v4, some (.inl (nI (b + 1))), v6] [] n m r 0 0 Q) : xk_W E m_M_sync 105 [some (.inr (some 53)), v1, v2, v3, v4, some (.inl (nI b)), v6] [] n m r 0 0 Q := by
  refine xk_iincN (pc := 105) (d := 1) d_M_sync_105 rfl ?_
  refine xk_goto (pc := 108) (tgt := 31) d_M_sync_108 rfl ?_
  exact hK

set_option maxRecDepth 20000 in
set_option maxHeartbeats 4000000 in
theorem l_msyO {E : xk_E} {n : Nat} {r : xk_P} {Q : xk_Q} {m : xk_M} {F0 : xs_F} {f o : Nat} {v1 v2 : Option xk_V} (hn : 74 ≤ n) (hS : xr_S r n) (hops : F0.1.2.2.2.2.1 + 4 < 2 ^ 20) (hf : f < 8) (ho : o < 16) (hw : m 68 o = nI f) (hQ : ∀ m', xm_F (xs_sy f 4 0 F0).2 m' → xm_fF m m' → Q (some (.inl (xs_sy f 4 0 F0).1)) n m' r) : ∀ (k : Nat) (b : Nat) (w : Nat) (F : xs_F) (M : xk_M) (v6 : Option xk_V), 4 - b < k → b ≤ 4 → xm_F F M → xs_okF F → F.1.2.2.2.2.1 ≤ F0.1.2.2.2.2.1 + b → xm_fF m M → xs_sy f 4 0 F0 = xs_sy f (4 - b) w F → xk_W E m_M_sync 31 [some (.inr (some 53)), v1, v2, some (.inl (nI o)), some (.inl (nI w)), some (.inl (nI b)), v6] [] n M r 0 0 Q := by
  intro k
  induction k with
  | zero => intro b w F M v6 h; exact absurd h (Nat.not_lt_zero _)
  | succ k ih =>
    intro b w F M v6 hk hb4 hF hok hop hm he
    refine xk_iload (pc := 31) d_M_sync_31 rfl ?_
    refine xk_iconst (pc := 33) (v := nI 4) d_M_sync_33 (by decide) ?_
    first | refine xk_icmp_geN (pc := 34) (tgt := 111) d_M_sync_34 rfl (by omega) (by omega) (fun c_34 => ?_) (fun c_34 => ?_) | refine xk_icmp_ge (pc := 34) (tgt := 111) d_M_sync_34 rfl (fun c_34 => ?_) (fun c_34 => ?_)
    · have e : b = 4 := by omega
      subst e
      rw [he] at hQ
      refine xk_iload (pc := 111) d_M_sync_111 rfl ?_
      refine xk_iret (pc := 113) rfl d_M_sync_113 rfl (Nat.le_of_ble_eq_true rfl) (Nat.le_of_ble_eq_true rfl) ?_
      exact hQ M hF hm
    · refine xk_iconst (pc := 37) (v := nI 0) d_M_sync_37 (by decide) ?_
      refine xk_istore (pc := 38) d_M_sync_38 (by decide) ?_
      refine l_msy1 (F := F) (m := M) (f := f) (b := b) hn hS hF hok (by omega) hf c_34 ho ((congrFun (hm 68 (by omega)) o).trans hw) (fun hs => ?_) (fun i x m1 e1 e2 e3 e4 hF1 hm1 => ?_) (fun i x m1 e1 e2 e3 e4 hF1 hm1 => ?_) (F.2.2.length + 1) 0 (by omega) (by omega) (fun j x hj => by omega)
      · exact s_msy105 (ih (b + 1) w F M _ (by omega) (by omega) hF hok (by omega) hm (he.trans (xs_sy_skip c_34 hs)))
      · exact s_msy105 (ih (b + 1) (w + 1) _ m1 _ (by omega) (by omega) hF1 (xo_sy1 hok e2) (by show F.1.2.2.2.2.1 + 1 ≤ _; omega) (hm.tr hm1) (he.trans (xs_sy_t c_34 e1 e2 e3 e4)))
      · rw [he, xs_sy_f c_34 e1 e2 e3 e4] at hQ
        exact hQ m1 hF1 (hm.tr hm1)

set_option maxRecDepth 20000 in
set_option maxHeartbeats 4000000 in
theorem c_M_sync {E : xk_E} {n : Nat} {m : xk_M} {r : xk_P} {Q : xk_Q} {x y : Int32} {s : xs_S} (hn : 74 ≤ n) (hS : xr_S r n) (hA : xm_A s m) (hok : xs_ok s) (hsm : s.1.1.2.2.2.2.1 + 4 < 2 ^ 20) (hQ : ∀ m', xm_A (xs_sync s x y).2 m' → xm_fr m m' → Q (some (.inl (xs_sync s x y).1)) n m' r) : xk_W E m_M_sync 0 (xk_ent m_M_sync [.inr (some 53), .inl x, .inl y]) [] n m r 0 0 Q := by
  show xk_W E m_M_sync 0 [some (.inr (some 53)), some (.inl x), some (.inl y), none, none, none, none] [] n m r 0 0 Q
  obtain ⟨hF, hP, hO, hT⟩ := id hA
  obtain ⟨okF, okP, okO, okT⟩ := id hok
  have hb := okO.1
  have h6 := xm_h6 okO okT
  have hkw := xm_kw okO
  refine xk_aload_n (pc := 0) d_M_sync_0 rfl ?_
  refine xk_iload_n (pc := 1) d_M_sync_1 rfl ?_
  refine xk_iload_n (pc := 2) d_M_sync_2 rfl ?_
  refine xk_cV2 (pc := 3) d_M_sync_3 ml_M_130 cz_M_opening ⟨rfl, rfl⟩ rfl (by first | rfl | assumption) (by omega) (by omega) (Nat.le_of_ble_eq_true rfl) ⟨(Nat.le_of_ble_eq_true rfl), (Nat.le_of_ble_eq_true rfl)⟩ ?_
  refine c_M_opening hn hS hT okT hO hb (fun p d o ep ed ex ey hp hp1 hd et e0 => ?_) (fun p d ep ed e0 => ?_) (fun en => ?_)
  · have ho := okO.1 _ o (by omega) e0
    have hu := xs_used_of (by omega) e0
    have hdesc := xs_desc_s ep ed e0
    obtain ⟨k1, k2, k3, k4⟩ := okO.2.2.1 o ho hu
    have kw := (hkw o ho hu).2
    refine xk_istore_n (pc := 6) d_M_sync_6 (by decide) ?_
    refine xk_iload_n (pc := 7) d_M_sync_7 rfl ?_
    refine xk_if_ge (pc := 8) (tgt := 13) d_M_sync_8 rfl (fun c_8 => ?_) (fun c_8 => ?_)
    · refine xk_aload_n (pc := 13) d_M_sync_13 rfl ?_
      refine xk_getRo (pc := 14) d_M_sync_14 fl_M_50 (by first | rfl | assumption) rfl (by omega) (by omega) (hS _ _ _ rfl (by omega)) ?_
      refine xk_iload_n (pc := 17) d_M_sync_17 rfl ?_
      refine xk_ialoado (pc := 18) d_M_sync_18 (by first | rfl | assumption) (by omega) (by omega) rfl (by omega) (by decide) (hO.2.1 o ho) ?_
      first | refine xk_if_eqN (pc := 19) (tgt := 25) d_M_sync_19 rfl (by omega) (fun c_19 => ?_) (fun c_19 => ?_) | refine xk_if_eq (pc := 19) (tgt := 25) d_M_sync_19 rfl (fun c_19 => ?_) (fun c_19 => ?_)
      · refine xk_iconst (pc := 25) (v := nI 0) d_M_sync_25 (by decide) ?_
        refine xk_istore (pc := 26) d_M_sync_26 (by decide) ?_
        refine xk_iconst (pc := 28) (v := nI 0) d_M_sync_28 (by decide) ?_
        refine xk_istore (pc := 29) d_M_sync_29 (by decide) ?_
        have e : xs_sync s x y = ((xs_sy (s.2.2.1.2.2.1 o) 4 0 s.1).1, ((xs_sy (s.2.2.1.2.2.1 o) 4 0 s.1).2, s.2)) := by
          unfold xs_sync; rw [hdesc]; exact if_neg (fun q => q c_19)
        exact l_msyO (F0 := s.1) (m := m) (f := s.2.2.1.2.2.1 o) hn hS hsm (k3 c_19).1 ho (hO.2.2.1 o ho) (fun m1 hF1 hm1 => xqm_t e (xm_A_F hA hF1 hm1) hm1.fr hQ) 5 0 0 s.1 m none (by omega) (by omega) hF okF (by omega) (fun _ _ => rfl) rfl
      · refine xk_bipush (pc := 22) (v := (-3)) d_M_sync_22 (by decide) ?_
        refine xk_iret (pc := 24) rfl d_M_sync_24 rfl (Nat.le_of_ble_eq_true rfl) (Nat.le_of_ble_eq_true rfl) ?_
        have e : xs_sync s x y = (-3, s) := by
          unfold xs_sync; rw [hdesc]; exact if_pos c_19
        exact xqm_s e hA hQ
    · exact absurd (xm_ge0 (by omega)) c_8
  · have en := xs_desc_n ep ed e0
    refine xk_istore_n (pc := 6) d_M_sync_6 (by decide) ?_
    refine xk_iload_n (pc := 7) d_M_sync_7 rfl ?_
    refine xk_if_ge (pc := 8) (tgt := 13) d_M_sync_8 rfl (fun h => absurd h (by decide)) (fun _ => ?_)
    refine xk_iload_n (pc := 11) d_M_sync_11 rfl ?_
    refine xk_iret (pc := 12) rfl d_M_sync_12 rfl (Nat.le_of_ble_eq_true rfl) (Nat.le_of_ble_eq_true rfl) ?_
    exact xqm_s (xs_sync_e en) hA hQ
  · replace en := xs_desc_0 (s := s) en
    refine xk_istore_n (pc := 6) d_M_sync_6 (by decide) ?_
    refine xk_iload_n (pc := 7) d_M_sync_7 rfl ?_
    refine xk_if_ge (pc := 8) (tgt := 13) d_M_sync_8 rfl (fun h => absurd h (by decide)) (fun _ => ?_)
    refine xk_iload_n (pc := 11) d_M_sync_11 rfl ?_
    refine xk_iret (pc := 12) rfl d_M_sync_12 rfl (Nat.le_of_ble_eq_true rfl) (Nat.le_of_ble_eq_true rfl) ?_
    exact xqm_s (xs_sync_e en) hA hQ

theorem xm_O_pip {O : xs_O} {m m' : xk_M} {q : Nat} {l' : List Int32} (h : xm_O O m) (hm : ∀ a, 66 ≤ a → a < 71 → m' a = m a) (h72 : ∀ k, m' 72 k = if k = q then nI l'.length else m 72 k) (h71 : ∀ (i : Nat) (x : Int32), l'[i]? = some x → i < 4 → m' 71 (4 * q + i) = x) (h71' : ∀ k, k < 4 * q ∨ 4 * q + 4 ≤ k → m' 71 k = m 71 k) : xm_O (xs_pip O q l') m' := by
  obtain ⟨h1, h2, h3, h4, h5, h6, h7⟩ := h
  refine ⟨by rw [hm 66 (by decide) (by decide)]; exact h1, by rw [hm 67 (by decide) (by decide)]; exact h2, by rw [hm 68 (by decide) (by decide)]; exact h3, by rw [hm 69 (by decide) (by decide)]; exact h4, by rw [hm 70 (by decide) (by decide)]; exact h5, fun k hk => ?_, fun k hk i x hx hi => ?_⟩
  · show _ = nI (xs_u O.2.2.2.2.2 q l' k).length
    rw [h72]
    by_cases e : k = q
    · subst e; rw [if_pos rfl, xs_u_s]
    · rw [if_neg e, xs_u_n e]; exact h6 k hk
  · have hx2 : (xs_u O.2.2.2.2.2 q l' k)[i]? = some x := hx
    by_cases e : k = q
    · subst e; rw [xs_u_s] at hx2; exact h71 i x hx2 hi
    · rw [xs_u_n e] at hx2
      rw [h71' _ (by omega)]
      exact h7 k hk i x hx2 hi

set_option maxRecDepth 20000 in
set_option maxHeartbeats 4000000 in
theorem l_mshift {E : xk_E} {n : Nat} {r : xk_P} {Q : xk_Q} {m : xk_M} {q : Nat} {v1 v2 v3 v5 : Option xk_V} (hn : 74 ≤ n) (hS : xr_S r n) (hq : q < 16) (hK : xk_W E m_M_read 125 [some (.inr (some 53)), v1, v2, v3, some (.inl (nI q)), v5, some (.inl (nI 4))] [] n (xk_fn m 71 (4 * q) 3 (fun j => m 71 (4 * q + (j + 1)))) r 0 0 Q) : ∀ (k : Nat) (j : Nat), 3 - j < k → j ≤ 3 → xk_W E m_M_read 87 [some (.inr (some 53)), v1, v2, v3, some (.inl (nI q)), v5, some (.inl (nI (j + 1)))] [] n (xk_fn m 71 (4 * q) j (fun j => m 71 (4 * q + (j + 1)))) r 0 0 Q := by
  intro k
  induction k with
  | zero => intro j h; exact absurd h (Nat.not_lt_zero _)
  | succ k ih =>
    intro j hk hj
    refine xk_iload (pc := 87) d_M_read_87 rfl ?_
    refine xk_iconst (pc := 89) (v := nI 4) d_M_read_89 (by decide) ?_
    first | refine xk_icmp_geN (pc := 90) (tgt := 125) d_M_read_90 rfl (by omega) (by omega) (fun c_90 => ?_) (fun c_90 => ?_) | refine xk_icmp_ge (pc := 90) (tgt := 125) d_M_read_90 rfl (fun c_90 => ?_) (fun c_90 => ?_)
    · have e : j = 3 := by omega
      subst e
      exact hK
    · refine xk_aload_n (pc := 93) d_M_read_93 rfl ?_
      refine xk_getRo (pc := 94) d_M_read_94 fl_M_62 (by first | rfl | assumption) rfl (by omega) (by omega) (hS _ _ _ rfl (by omega)) ?_
      refine xk_iconst (pc := 97) (v := nI 4) d_M_read_97 (by decide) ?_
      refine xk_iload (pc := 98) d_M_read_98 rfl ?_
      first | refine xk_imulN (pc := 100) d_M_read_100 ?_ | refine xk_imul (pc := 100) d_M_read_100 ?_
      refine xk_iload (pc := 101) d_M_read_101 rfl ?_
      first | refine xk_iaddN (pc := 103) d_M_read_103 ?_ | refine xk_iadd (pc := 103) d_M_read_103 ?_
      refine xk_iconst (pc := 104) (v := nI 1) d_M_read_104 (by decide) ?_
      first | refine xk_isubN (pc := 105) d_M_read_105 (by omega) ?_ | refine xk_isub (pc := 105) d_M_read_105 ?_
      refine xk_aload_n (pc := 106) d_M_read_106 rfl ?_
      refine xk_getRo (pc := 107) d_M_read_107 fl_M_62 (by first | rfl | assumption) rfl (by omega) (by omega) (hS _ _ _ rfl (by omega)) ?_
      refine xk_iconst (pc := 110) (v := nI 4) d_M_read_110 (by decide) ?_
      refine xk_iload (pc := 111) d_M_read_111 rfl ?_
      first | refine xk_imulN (pc := 113) d_M_read_113 ?_ | refine xk_imul (pc := 113) d_M_read_113 ?_
      refine xk_iload (pc := 114) d_M_read_114 rfl ?_
      first | refine xk_iaddN (pc := 116) d_M_read_116 ?_ | refine xk_iadd (pc := 116) d_M_read_116 ?_
      refine xk_ialoado (pc := 117) d_M_read_117 (by first | rfl | assumption) (by omega) (by omega) rfl (by omega) (by decide) (xk_fn_n (by omega)) ?_
      refine xk_iastore (pc := 118) d_M_read_118 (by first | rfl | assumption) (by omega) (by omega) rfl (by omega) (by decide) ?_
      rw [xk_fn_s (g := fun j => m 71 (4 * q + (j + 1))) (by omega)]
      refine xk_iincN (pc := 119) (d := 1) d_M_read_119 rfl ?_
      refine xk_goto (pc := 122) (tgt := 87) d_M_read_122 rfl ?_
      exact ih (j + 1) (by omega) (by omega)

set_option maxRecDepth 20000 in
set_option maxHeartbeats 4000000 in
theorem c_M_read {E : xk_E} {n : Nat} {m : xk_M} {r : xk_P} {Q : xk_Q} {x y : Int32} {s : xs_S} (hn : 74 ≤ n) (hS : xr_S r n) (hA : xm_A s m) (hok : xs_ok s) (hsm : s.1.1.2.2.2.2.1 + 4 < 2 ^ 20) (hQ : ∀ m', xm_A (xs_read s x y).2 m' → xm_fr m m' → Q (some (.inl (xs_read s x y).1)) n m' r) : xk_W E m_M_read 0 (xk_ent m_M_read [.inr (some 53), .inl x, .inl y]) [] n m r 0 0 Q := by
  show xk_W E m_M_read 0 [some (.inr (some 53)), some (.inl x), some (.inl y), none, none, none, none] [] n m r 0 0 Q
  obtain ⟨hF, hP, hO, hT⟩ := id hA
  obtain ⟨okF, okP, okO, okT⟩ := id hok
  have hb := okO.1
  have h6 := xm_h6 okO okT
  have hkw := xm_kw okO
  refine xk_aload_n (pc := 0) d_M_read_0 rfl ?_
  refine xk_iload_n (pc := 1) d_M_read_1 rfl ?_
  refine xk_iload_n (pc := 2) d_M_read_2 rfl ?_
  refine xk_cV2 (pc := 3) d_M_read_3 ml_M_130 cz_M_opening ⟨rfl, rfl⟩ rfl (by first | rfl | assumption) (by omega) (by omega) (Nat.le_of_ble_eq_true rfl) ⟨(Nat.le_of_ble_eq_true rfl), (Nat.le_of_ble_eq_true rfl)⟩ ?_
  refine c_M_opening hn hS hT okT hO hb (fun p d o ep ed ex ey hp hp1 hd et e0 => ?_) (fun p d ep ed e0 => ?_) (fun en => ?_)
  · have ho := okO.1 _ o (by omega) e0
    have hu := xs_used_of (by omega) e0
    have hdesc := xs_desc_s ep ed e0
    obtain ⟨k1, k2, k3, k4⟩ := okO.2.2.1 o ho hu
    have kw := (hkw o ho hu).2
    refine xk_istore_n (pc := 6) d_M_read_6 (by decide) ?_
    refine xk_iload_n (pc := 7) d_M_read_7 rfl ?_
    refine xk_if_ge (pc := 8) (tgt := 13) d_M_read_8 rfl (fun c_8 => ?_) (fun c_8 => ?_)
    · refine xk_aload_n (pc := 13) d_M_read_13 rfl ?_
      refine xk_getRo (pc := 14) d_M_read_14 fl_M_56 (by first | rfl | assumption) rfl (by omega) (by omega) (hS _ _ _ rfl (by omega)) ?_
      refine xk_iload_n (pc := 17) d_M_read_17 rfl ?_
      refine xk_ialoado (pc := 18) d_M_read_18 (by first | rfl | assumption) (by omega) (by omega) rfl (by omega) (by decide) (hO.2.2.2.1 o ho) ?_
      refine xk_iconst (pc := 19) (v := nI 1) d_M_read_19 (by decide) ?_
      refine xk_iand (pc := 20) d_M_read_20 ?_
      first | refine xk_if_neN (pc := 21) (tgt := 27) d_M_read_21 rfl (by omega) (fun c_21 => ?_) (fun c_21 => ?_) | refine xk_if_ne (pc := 21) (tgt := 27) d_M_read_21 rfl (fun c_21 => ?_) (fun c_21 => ?_)
      · have hmd : ¬ s.2.2.1.2.2.2.1 o % 2 = 0 := fun z => c_21 ((xs_b1 _ k2).mpr z)
        refine xk_aload_n (pc := 27) d_M_read_27 rfl ?_
        refine xk_getRo (pc := 28) d_M_read_28 fl_M_50 (by first | rfl | assumption) rfl (by omega) (by omega) (hS _ _ _ rfl (by omega)) ?_
        refine xk_iload_n (pc := 31) d_M_read_31 rfl ?_
        refine xk_ialoado (pc := 32) d_M_read_32 (by first | rfl | assumption) (by omega) (by omega) rfl (by omega) (by decide) (hO.2.1 o ho) ?_
        refine xk_iconst (pc := 33) (v := nI 1) d_M_read_33 (by decide) ?_
        first | refine xk_icmp_neN (pc := 34) (tgt := 139) d_M_read_34 rfl (by omega) (by omega) (fun c_34 => ?_) (fun c_34 => ?_) | refine xk_icmp_ne (pc := 34) (tgt := 139) d_M_read_34 rfl (fun c_34 => ?_) (fun c_34 => ?_)
        · have kz : s.2.2.1.2.1 o = 0 := by
            refine Classical.byContradiction (fun z => ?_)
            have z1 := (k4 z).2.1
            rw [z1] at hmd
            have z2 : s.2.2.1.2.1 o = 2 := by omega
            rw [z2] at hmd
            exact hmd rfl
          have hpos := (k3 kz).2
          have hwf := (k3 kz).1
          have hln := (okF.1 _ hwf).2
          refine xk_aload_n (pc := 139) d_M_read_139 rfl ?_
          refine xk_getRo (pc := 140) d_M_read_140 fl_M_59 (by first | rfl | assumption) rfl (by omega) (by omega) (hS _ _ _ rfl (by omega)) ?_
          refine xk_iload_n (pc := 143) d_M_read_143 rfl ?_
          refine xk_ialoado (pc := 144) d_M_read_144 (by first | rfl | assumption) (by omega) (by omega) rfl (by omega) (by decide) (hO.2.2.2.2.1 o ho) ?_
          refine xk_istore (pc := 145) d_M_read_145 (by decide) ?_
          refine xk_iload (pc := 147) d_M_read_147 rfl ?_
          refine xk_aload_n (pc := 149) d_M_read_149 rfl ?_
          refine xk_getRo (pc := 150) d_M_read_150 fl_M_20 (by first | rfl | assumption) rfl (by omega) (by omega) (hS _ _ _ rfl (by omega)) ?_
          refine xk_aload_n (pc := 153) d_M_read_153 rfl ?_
          refine xk_getRo (pc := 154) d_M_read_154 fl_M_53 (by first | rfl | assumption) rfl (by omega) (by omega) (hS _ _ _ rfl (by omega)) ?_
          refine xk_iload_n (pc := 157) d_M_read_157 rfl ?_
          refine xk_ialoado (pc := 158) d_M_read_158 (by first | rfl | assumption) (by omega) (by omega) rfl (by omega) (by decide) (hO.2.2.1 o ho) ?_
          refine xk_ialoado (pc := 159) d_M_read_159 (by first | rfl | assumption) (by omega) (by omega) rfl (by omega) (by decide) (hF.2.1 _ hwf) ?_
          first | refine xk_icmp_ltN (pc := 160) (tgt := 166) d_M_read_160 rfl (by omega) (by omega) (fun c_160 => ?_) (fun c_160 => ?_) | refine xk_icmp_lt (pc := 160) (tgt := 166) d_M_read_160 rfl (fun c_160 => ?_) (fun c_160 => ?_)
          · refine xk_aload_n (pc := 166) d_M_read_166 rfl ?_
            refine xk_aload_n (pc := 167) d_M_read_167 rfl ?_
            refine xk_getRo (pc := 168) d_M_read_168 fl_M_53 (by first | rfl | assumption) rfl (by omega) (by omega) (hS _ _ _ rfl (by omega)) ?_
            refine xk_iload_n (pc := 171) d_M_read_171 rfl ?_
            refine xk_ialoado (pc := 172) d_M_read_172 (by first | rfl | assumption) (by omega) (by omega) rfl (by omega) (by decide) (hO.2.2.1 o ho) ?_
            refine xk_iload (pc := 173) d_M_read_173 rfl ?_
            refine xk_bipush (pc := 175) (v := nI 8) d_M_read_175 (by decide) ?_
            refine xk_idivN (pc := 177) d_M_read_177 (by decide) (by omega) (by decide) ?_
            refine xk_cV2 (pc := 178) d_M_read_178 ml_M_133 cz_M_get ⟨rfl, rfl⟩ rfl (by first | rfl | assumption) (by omega) (by omega) (Nat.le_of_ble_eq_true rfl) ⟨(Nat.le_of_ble_eq_true rfl), (Nat.le_of_ble_eq_true rfl)⟩ ?_
            refine c_M_get hn hS hF okF hsm (k3 kz).1 (by omega) (fun m1 hF1 e1 hm1 => ?_) (fun m1 hF1 e1 hm1 => ?_)
            · obtain ⟨xb, lb, hxl⟩ := xs_get_hd (show xs_get s.1 (s.2.2.1.2.2.1 o) (s.2.2.1.2.2.2.2.1 o / 8) = ((xs_get s.1 (s.2.2.1.2.2.1 o) (s.2.2.1.2.2.2.2.1 o / 8)).1, true) from Prod.ext rfl e1)
              have hcell : m1 61 (s.2.2.1.2.2.2.2.1 o % 8) = xb.2.2.2 (s.2.2.1.2.2.2.2.1 o % 8) := by
                have := (hF1.2.2.2.2 0 xb (by rw [hxl]; rfl)).2.2 (s.2.2.1.2.2.2.2.1 o % 8) (Nat.mod_lt _ (by decide))
                rw [Nat.mul_zero, Nat.zero_add] at this
                exact this
              refine xk_if_ne (pc := 181) (tgt := 187) d_M_read_181 rfl (fun _ => ?_) (fun h => absurd h (by decide))
              refine xk_aload_n (pc := 187) d_M_read_187 rfl ?_
              refine xk_getRo (pc := 188) d_M_read_188 fl_M_59 (by first | rfl | assumption) rfl (by omega) (by omega) (hS _ _ _ rfl (by omega)) ?_
              refine xk_iload_n (pc := 191) d_M_read_191 rfl ?_
              refine xk_dup2 (pc := 192) d_M_read_192 ?_
              refine xk_ialoado (pc := 193) d_M_read_193 (by first | rfl | assumption) (by omega) (by omega) rfl (by omega) (by decide) ((congrFun (hm1 70 (by omega)) o).trans (hO.2.2.2.2.1 o ho)) ?_
              refine xk_iconst (pc := 194) (v := nI 1) d_M_read_194 (by decide) ?_
              first | refine xk_iaddN (pc := 195) d_M_read_195 ?_ | refine xk_iadd (pc := 195) d_M_read_195 ?_
              refine xk_iastore (pc := 196) d_M_read_196 (by first | rfl | assumption) (by omega) (by omega) rfl (by omega) (by decide) ?_
              refine xk_aload_n (pc := 197) d_M_read_197 rfl ?_
              refine xk_getRo (pc := 198) d_M_read_198 fl_M_32 (by first | rfl | assumption) rfl (by omega) (by omega) (hS _ _ _ rfl (by omega)) ?_
              refine xk_iload (pc := 201) d_M_read_201 rfl ?_
              refine xk_bipush (pc := 203) (v := nI 8) d_M_read_203 (by decide) ?_
              refine xk_iremN (pc := 205) d_M_read_205 (by decide) (by omega) (by decide) ?_
              refine xk_ialoado (pc := 206) d_M_read_206 (by first | rfl | assumption) (by omega) (by omega) rfl (by omega) (by decide) ((xk_up_a (by decide)).trans hcell) ?_
              refine xk_iret (pc := 207) rfl d_M_read_207 rfl (Nat.le_of_ble_eq_true rfl) (Nat.le_of_ble_eq_true rfl) ?_
              have e : xs_read s x y = (xb.2.2.2 (s.2.2.1.2.2.2.2.1 o % 8), ((xs_get s.1 (s.2.2.1.2.2.1 o) (s.2.2.1.2.2.2.2.1 o / 8)).1, s.2.1, xs_pos s.2.2.1 o (s.2.2.1.2.2.2.2.1 o + 1), s.2.2.2)) := (xs_read_f hdesc hmd kz).trans ((if_neg (by omega)).trans ((if_pos e1).trans (by rw [hxl])))
              have hA1 := xm_A_F hA hF1 hm1
              exact xqm_t e (xm_A_O hA1 (xm_O_pos hA1.2.2.1) (fun a ha => xk_up_r (by omega))) (fun a ha => by rw [xk_up_r (by omega)]; exact hm1.fr a ha) hQ
            · refine xk_if_ne (pc := 181) (tgt := 187) d_M_read_181 rfl (fun h => absurd (by decide) h) (fun _ => ?_)
              refine xk_bipush (pc := 184) (v := (-8)) d_M_read_184 (by decide) ?_
              refine xk_iret (pc := 186) rfl d_M_read_186 rfl (Nat.le_of_ble_eq_true rfl) (Nat.le_of_ble_eq_true rfl) ?_
              exact xqm_t ((xs_read_f hdesc hmd kz).trans ((if_neg (by omega)).trans (if_neg (by rw [e1]; decide)))) (xm_A_F hA hF1 hm1) hm1.fr hQ
          · refine xk_bipush (pc := 163) (v := (-7)) d_M_read_163 (by decide) ?_
            refine xk_iret (pc := 165) rfl d_M_read_165 rfl (Nat.le_of_ble_eq_true rfl) (Nat.le_of_ble_eq_true rfl) ?_
            exact xqm_s ((xs_read_f hdesc hmd kz).trans (if_pos (by omega))) hA hQ
        · have kk : s.2.2.1.2.1 o = 1 := c_34
          have kl := (k4 (by omega)).2.2
          have hrp := xs_read_p hdesc hmd kk
          refine xk_aload_n (pc := 37) d_M_read_37 rfl ?_
          refine xk_getRo (pc := 38) d_M_read_38 fl_M_53 (by first | rfl | assumption) rfl (by omega) (by omega) (hS _ _ _ rfl (by omega)) ?_
          refine xk_iload_n (pc := 41) d_M_read_41 rfl ?_
          refine xk_ialoado (pc := 42) d_M_read_42 (by first | rfl | assumption) (by omega) (by omega) rfl (by omega) (by decide) (hO.2.2.1 o ho) ?_
          refine xk_istore (pc := 43) d_M_read_43 (by decide) ?_
          refine xk_aload_n (pc := 45) d_M_read_45 rfl ?_
          refine xk_getRo (pc := 46) d_M_read_46 fl_M_65 (by first | rfl | assumption) rfl (by omega) (by omega) (hS _ _ _ rfl (by omega)) ?_
          refine xk_iload (pc := 49) d_M_read_49 rfl ?_
          refine xk_ialoado (pc := 51) d_M_read_51 (by first | rfl | assumption) (by omega) (by omega) rfl (by omega) (by decide) (hO.2.2.2.2.2.1 (s.2.2.1.2.2.1 o) kw) ?_
          first | refine xk_if_neN (pc := 52) (tgt := 73) d_M_read_52 rfl (by omega) (fun c_52 => ?_) (fun c_52 => ?_) | refine xk_if_ne (pc := 52) (tgt := 73) d_M_read_52 rfl (fun c_52 => ?_) (fun c_52 => ?_)
          · obtain ⟨z0, l0, ez⟩ : ∃ z0 l0, s.2.2.1.2.2.2.2.2 (s.2.2.1.2.2.1 o) = z0 :: l0 := List.exists_cons_of_length_pos (by omega)
            have hc0 := hO.2.2.2.2.2.2 (s.2.2.1.2.2.1 o) kw 0 z0 (by rw [ez]; rfl) (by decide)
            rw [Nat.add_zero] at hc0
            rw [ez] at hrp kl
            refine xk_aload_n (pc := 73) d_M_read_73 rfl ?_
            refine xk_getRo (pc := 74) d_M_read_74 fl_M_62 (by first | rfl | assumption) rfl (by omega) (by omega) (hS _ _ _ rfl (by omega)) ?_
            refine xk_iconst (pc := 77) (v := nI 4) d_M_read_77 (by decide) ?_
            refine xk_iload (pc := 78) d_M_read_78 rfl ?_
            first | refine xk_imulN (pc := 80) d_M_read_80 ?_ | refine xk_imul (pc := 80) d_M_read_80 ?_
            refine xk_ialoado (pc := 81) d_M_read_81 (by first | rfl | assumption) (by omega) (by omega) rfl (by omega) (by decide) hc0 ?_
            refine xk_istore (pc := 82) d_M_read_82 (by decide) ?_
            refine xk_iconst (pc := 84) (v := nI 1) d_M_read_84 (by decide) ?_
            refine xk_istore (pc := 85) d_M_read_85 (by decide) ?_
            suffices HH : xk_W E m_M_read 125 [some (.inr (some 53)), some (.inl x), some (.inl y), some (.inl (nI o)), some (.inl (nI (s.2.2.1.2.2.1 o))), some (.inl z0), some (.inl (nI 4))] [] n (xk_fn m 71 (4 * s.2.2.1.2.2.1 o) 3 (fun j => m 71 (4 * s.2.2.1.2.2.1 o + (j + 1)))) r 0 0 Q by
              have K := l_mshift (E := E) (Q := Q) (v1 := some (.inl x)) (v2 := some (.inl y)) (v3 := some (.inl (nI o))) (v5 := some (.inl z0)) hn hS kw HH 4 0 (by omega) (by omega)
              rw [xk_fn_0] at K
              exact K
            refine xk_aload_n (pc := 125) d_M_read_125 rfl ?_
            refine xk_getRo (pc := 126) d_M_read_126 fl_M_65 (by first | rfl | assumption) rfl (by omega) (by omega) (hS _ _ _ rfl (by omega)) ?_
            refine xk_iload (pc := 129) d_M_read_129 rfl ?_
            refine xk_dup2 (pc := 131) d_M_read_131 ?_
            refine xk_ialoado (pc := 132) d_M_read_132 (by first | rfl | assumption) (by omega) (by omega) rfl (by omega) (by decide) ((xk_fn_a (by decide)).trans (hO.2.2.2.2.2.1 (s.2.2.1.2.2.1 o) kw)) ?_
            refine xk_iconst (pc := 133) (v := nI 1) d_M_read_133 (by decide) ?_
            first | refine xk_isubN (pc := 134) d_M_read_134 (by omega) ?_ | refine xk_isub (pc := 134) d_M_read_134 ?_
            refine xk_iastore (pc := 135) d_M_read_135 (by first | rfl | assumption) (by omega) (by omega) rfl (by omega) (by decide) ?_
            refine xk_iload (pc := 136) d_M_read_136 rfl ?_
            refine xk_iret (pc := 138) rfl d_M_read_138 rfl (Nat.le_of_ble_eq_true rfl) (Nat.le_of_ble_eq_true rfl) ?_
            refine xqm_t hrp (xm_A_O hA (xm_O_pip hO (fun a a1 a2 => ?_) (fun k => ?_) (fun i w hw hi => ?_) (fun k hk => ?_)) (fun a ha => ?_)) (fun a ha => ?_) hQ
            · rw [xk_up_r (by omega), xk_fn_r (by omega)]
            · by_cases e : k = s.2.2.1.2.2.1 o
              · subst e; rw [if_pos rfl, xk_up_s, ez]; rfl
              · rw [if_neg e, xk_up_k e, xk_fn_a (by decide)]
            · have hi3 : i < 3 := by have := xs_lt hw; rw [List.length_cons] at kl; omega
              rw [xk_up_a (by decide), xk_fn_p hi3]
              exact hO.2.2.2.2.2.2 (s.2.2.1.2.2.1 o) kw (i + 1) w (by rw [ez, List.getElem?_cons_succ]; exact hw) (by omega)
            · rw [xk_up_a (by decide), xk_fn_n (by omega)]
            · rw [xk_up_r (by omega), xk_fn_r (by omega)]
            · rw [xk_up_r (by omega), xk_fn_r (by omega)]
          · rw [List.eq_nil_of_length_eq_zero c_52] at hrp
            refine xk_aload_n (pc := 55) d_M_read_55 rfl ?_
            refine xk_iload (pc := 56) d_M_read_56 rfl ?_
            refine xk_iconst (pc := 58) (v := nI 2) d_M_read_58 (by decide) ?_
            refine xk_cV2 (pc := 59) d_M_read_59 ml_M_126 cz_M_hasEnd ⟨rfl, rfl⟩ rfl (by first | rfl | assumption) (by omega) (by omega) (Nat.le_of_ble_eq_true rfl) ⟨(Nat.le_of_ble_eq_true rfl), (Nat.le_of_ble_eq_true rfl)⟩ ?_
            refine c_M_hasEnd hn hS hO hb h6 hkw (by omega) (by decide) (fun ee => ?_) (fun ee => ?_)
            · refine xk_if_eq (pc := 62) (tgt := 70) d_M_read_62 rfl (fun h => absurd h (by decide)) (fun _ => ?_)
              refine xk_bipush (pc := 65) (v := (-6)) d_M_read_65 (by decide) ?_
              refine xk_goto (pc := 67) (tgt := 72) d_M_read_67 rfl ?_
              refine xk_iret (pc := 72) rfl d_M_read_72 rfl (Nat.le_of_ble_eq_true rfl) (Nat.le_of_ble_eq_true rfl) ?_
              first
                | exact xqm_s (hrp.trans (by rw [ee]; rfl)) hA hQ
            · refine xk_if_eq (pc := 62) (tgt := 70) d_M_read_62 rfl (fun _ => ?_) (fun h => absurd (by decide) h)
              refine xk_bipush (pc := 70) (v := (-7)) d_M_read_70 (by decide) ?_
              refine xk_iret (pc := 72) rfl d_M_read_72 rfl (Nat.le_of_ble_eq_true rfl) (Nat.le_of_ble_eq_true rfl) ?_
              first
                | exact xqm_s (hrp.trans (by rw [ee]; rfl)) hA hQ
      · have hmd := (xs_b1 _ k2).mp c_21
        refine xk_bipush (pc := 24) (v := (-3)) d_M_read_24 (by decide) ?_
        refine xk_iret (pc := 26) rfl d_M_read_26 rfl (Nat.le_of_ble_eq_true rfl) (Nat.le_of_ble_eq_true rfl) ?_
        exact xqm_s (xs_read_c hdesc hmd) hA hQ
    · exact absurd (xm_ge0 (by omega)) c_8
  · have en := xs_desc_n ep ed e0
    refine xk_istore_n (pc := 6) d_M_read_6 (by decide) ?_
    refine xk_iload_n (pc := 7) d_M_read_7 rfl ?_
    refine xk_if_ge (pc := 8) (tgt := 13) d_M_read_8 rfl (fun h => absurd h (by decide)) (fun _ => ?_)
    refine xk_iload_n (pc := 11) d_M_read_11 rfl ?_
    refine xk_iret (pc := 12) rfl d_M_read_12 rfl (Nat.le_of_ble_eq_true rfl) (Nat.le_of_ble_eq_true rfl) ?_
    exact xqm_s (xs_read_e en) hA hQ
  · replace en := xs_desc_0 (s := s) en
    refine xk_istore_n (pc := 6) d_M_read_6 (by decide) ?_
    refine xk_iload_n (pc := 7) d_M_read_7 rfl ?_
    refine xk_if_ge (pc := 8) (tgt := 13) d_M_read_8 rfl (fun h => absurd h (by decide)) (fun _ => ?_)
    refine xk_iload_n (pc := 11) d_M_read_11 rfl ?_
    refine xk_iret (pc := 12) rfl d_M_read_12 rfl (Nat.le_of_ble_eq_true rfl) (Nat.le_of_ble_eq_true rfl) ?_
    exact xqm_s (xs_read_e en) hA hQ

theorem xm_F_cell {F : xs_F} {m : xk_M} {k : Nat} {v : Int32} {x : xs_B} {l : List xs_B} (h : xm_F F m) (hl : F.2.2 = x :: l) (hk : k < 8) : xm_F (xs_cell F k v) (xk_up (xk_up m 60 0 (nI 1)) 61 k v) := by
  have fr : ∀ a, a ≠ 60 → a ≠ 61 → (xk_up (xk_up m 60 0 (nI 1)) 61 k v) a = m a := fun a h1 h2 => by rw [xk_up_r h2, xk_up_r h1]
  refine ⟨xm_H_kept h.1 (fr _ (by decide) (by decide)) (fr _ (by decide) (by decide)) (fr _ (by decide) (by decide)) (fr _ (by decide) (by decide)) (by rw [fr _ (by decide) (by decide)]) (by rw [fr _ (by decide) (by decide)]), xm_L_kept h.2.1 (fr _ (by decide) (by decide)), ?_⟩
  have hC := h.2.2
  rw [hl] at hC
  show xm_C (match F.2.2 with | [] => [] | x :: l => (x.1, x.2.1, true, xs_u x.2.2.2 k v) :: l) _
  rw [hl]
  obtain ⟨hz, hl5, hB⟩ := hC
  refine ⟨by rw [fr 53 (by decide) (by decide)]; exact hz, hl5, fun i y hy => ?_⟩
  cases i with
  | zero =>
    cases hy
    obtain ⟨b0, b1, b2⟩ := hB 0 x rfl
    refine ⟨by rw [fr 59 (by decide) (by decide)]; exact b0, by rw [xk_up_a (by decide), xk_up_s]; rfl, fun q hq => ?_⟩
    show _ = xs_u x.2.2.2 k v q
    rw [Nat.mul_zero, Nat.zero_add]
    have := b2 q hq
    rw [Nat.mul_zero, Nat.zero_add] at this
    by_cases e : q = k
    · subst e; rw [xk_up_s, xs_u_s]
    · rw [xk_up_k e, xk_up_a (by decide), xs_u_n e]; exact this
  | succ i =>
    have hy2 : (x :: l)[i + 1]? = some y := hy
    obtain ⟨b0, b1, b2⟩ := hB (i + 1) y hy2
    exact ⟨by rw [fr 59 (by decide) (by decide)]; exact b0, by rw [xk_up_a (by decide), xk_up_k (by omega)]; exact b1, fun q hq => by rw [xk_up_k (by omega), xk_up_a (by decide)]; exact b2 q hq⟩

set_option maxRecDepth 20000 in
set_option maxHeartbeats 4000000 in
theorem s_mwf161 {E : xk_E} {n : Nat} {m : xk_M} {r : xk_P} {Q : xk_Q} {s : xs_S} (hn : 74 ≤ n) (hS : xr_S r n) (hA : xm_A s m) (hok : xs_ok s) (hsm : s.1.1.2.2.2.2.1 + 4 < 2 ^ 20) {o v tt : Nat} {v1 v2 : Option xk_V} (hv : v < 256) (ho : o < 16) (hu : xs_used s.2.2.1 o = true) (kz : s.2.2.1.2.1 o = 0) (hat : xs_at s o = tt) (ht32 : tt ≤ 32) (hQ : ∀ m', xm_A (xs_wf s o v).2 m' → xm_fr m m' → Q (some (.inl (xs_wf s o v).1)) n m' r) : xk_W E m_M_write 161 [some (.inr (some 53)), v1, v2, some (.inl (nI v)), some (.inl (nI o)), some (.inl (nI (s.2.2.1.2.2.1 o))), some (.inl (nI tt))] [] n m r 0 0 Q := by
  obtain ⟨hF, hP, hO, hT⟩ := id hA
  obtain ⟨okF, okP, okO, okT⟩ := id hok
  have hb := okO.1
  have h6 := xm_h6 okO okT
  have hkw := xm_kw okO
  obtain ⟨k1, k2, k3, k4⟩ := okO.2.2.1 o ho hu
  have hwf := (k3 kz).1
  have hln := (okF.1 _ hwf).2
  refine xk_iload (pc := 161) d_M_write_161 rfl ?_
  refine xk_bipush (pc := 163) (v := nI 32) d_M_write_163 (by decide) ?_
  first | refine xk_icmp_neN (pc := 165) (tgt := 171) d_M_write_165 rfl (by omega) (by omega) (fun c_165 => ?_) (fun c_165 => ?_) | refine xk_icmp_ne (pc := 165) (tgt := 171) d_M_write_165 rfl (fun c_165 => ?_) (fun c_165 => ?_)
  · refine xk_aload_n (pc := 171) d_M_write_171 rfl ?_
    refine xk_iload (pc := 172) d_M_write_172 rfl ?_
    refine xk_iload (pc := 174) d_M_write_174 rfl ?_
    refine xk_bipush (pc := 176) (v := nI 8) d_M_write_176 (by decide) ?_
    refine xk_idivN (pc := 178) d_M_write_178 (by decide) (by omega) (by decide) ?_
    refine xk_cV2 (pc := 179) d_M_write_179 ml_M_133 cz_M_get ⟨rfl, rfl⟩ rfl (by first | rfl | assumption) (by omega) (by omega) (Nat.le_of_ble_eq_true rfl) ⟨(Nat.le_of_ble_eq_true rfl), (Nat.le_of_ble_eq_true rfl)⟩ ?_
    refine c_M_get hn hS hF okF hsm (k3 kz).1 (by omega) (fun m1 hF1 e1 hm1 => ?_) (fun m1 hF1 e1 hm1 => ?_)
    · obtain ⟨xb, lb, hxl⟩ := xs_get_hd (show xs_get s.1 (s.2.2.1.2.2.1 o) (tt / 8) = ((xs_get s.1 (s.2.2.1.2.2.1 o) (tt / 8)).1, true) from Prod.ext rfl e1)
      have hL1 : m1 57 (s.2.2.1.2.2.1 o) = nI (s.1.2.1 (s.2.2.1.2.2.1 o)) := (hF1.2.1 _ hwf).trans (by rw [(xo_get okF hwf (by omega)).2.2])
      have hF2 := xm_F_cell (v := nI v) hF1 hxl (Nat.mod_lt tt (by decide : 0 < 8))
      refine xk_if_ne (pc := 182) (tgt := 188) d_M_write_182 rfl (fun _ => ?_) (fun h => absurd h (by decide))
      refine xk_aload_n (pc := 188) d_M_write_188 rfl ?_
      refine xk_getRo (pc := 189) d_M_write_189 fl_M_29 (by first | rfl | assumption) rfl (by omega) (by omega) (hS _ _ _ rfl (by omega)) ?_
      refine xk_iconst (pc := 192) (v := nI 0) d_M_write_192 (by decide) ?_
      refine xk_iconst (pc := 193) (v := nI 1) d_M_write_193 (by decide) ?_
      refine xk_bastore (pc := 194) d_M_write_194 (by first | rfl | assumption) (by omega) (by omega) rfl (by omega) (by decide) rfl ?_
      refine xk_aload_n (pc := 195) d_M_write_195 rfl ?_
      refine xk_getRo (pc := 196) d_M_write_196 fl_M_32 (by first | rfl | assumption) rfl (by omega) (by omega) (hS _ _ _ rfl (by omega)) ?_
      refine xk_iload (pc := 199) d_M_write_199 rfl ?_
      refine xk_bipush (pc := 201) (v := nI 8) d_M_write_201 (by decide) ?_
      refine xk_iremN (pc := 203) d_M_write_203 (by decide) (by omega) (by decide) ?_
      refine xk_iload_n (pc := 204) d_M_write_204 rfl ?_
      refine xk_iastore (pc := 205) d_M_write_205 (by first | rfl | assumption) (by omega) (by omega) rfl (by omega) (by decide) ?_
      refine xk_aload_n (pc := 206) d_M_write_206 rfl ?_
      refine xk_getRo (pc := 207) d_M_write_207 fl_M_20 (by first | rfl | assumption) rfl (by omega) (by omega) (hS _ _ _ rfl (by omega)) ?_
      refine xk_iload (pc := 210) d_M_write_210 rfl ?_
      refine xk_ialoado (pc := 212) d_M_write_212 (by first | rfl | assumption) (by omega) (by omega) rfl (by omega) (by decide) ((xk_up_a (by decide)).trans ((xk_up_a (by decide)).trans hL1)) ?_
      refine xk_iload (pc := 213) d_M_write_213 rfl ?_
      first | refine xk_icmp_gtN (pc := 215) (tgt := 229) d_M_write_215 rfl (by omega) (by omega) (fun c_215 => ?_) (fun c_215 => ?_) | refine xk_icmp_gt (pc := 215) (tgt := 229) d_M_write_215 rfl (fun c_215 => ?_) (fun c_215 => ?_)
      · have hmx : max (s.1.2.1 (s.2.2.1.2.2.1 o)) (tt + 1) = s.1.2.1 (s.2.2.1.2.2.1 o) := by omega
        refine xk_aload_n (pc := 229) d_M_write_229 rfl ?_
        refine xk_getRo (pc := 230) d_M_write_230 fl_M_59 (by first | rfl | assumption) rfl (by omega) (by omega) (hS _ _ _ rfl (by omega)) ?_
        refine xk_iload (pc := 233) d_M_write_233 rfl ?_
        refine xk_iload (pc := 235) d_M_write_235 rfl ?_
        refine xk_iconst (pc := 237) (v := nI 1) d_M_write_237 (by decide) ?_
        first | refine xk_iaddN (pc := 238) d_M_write_238 ?_ | refine xk_iadd (pc := 238) d_M_write_238 ?_
        refine xk_iastore (pc := 239) d_M_write_239 (by first | rfl | assumption) (by omega) (by omega) rfl (by omega) (by decide) ?_
        refine xk_iconst (pc := 240) (v := nI 1) d_M_write_240 (by decide) ?_
        refine xk_iret (pc := 241) rfl d_M_write_241 rfl (Nat.le_of_ble_eq_true rfl) (Nat.le_of_ble_eq_true rfl) ?_
        have e : xs_wf s o v = (nI 1, (xs_len (xs_cell (xs_get s.1 (s.2.2.1.2.2.1 o) (tt / 8)).1 (tt % 8) (nI v)) (s.2.2.1.2.2.1 o) (max (s.1.2.1 (s.2.2.1.2.2.1 o)) (tt + 1)), s.2.1, xs_pos s.2.2.1 o (tt + 1), s.2.2.2)) := by
          unfold xs_wf
          rw [hat]
          exact (if_neg (by omega)).trans (if_pos e1)
        rw [hmx] at e
        first
          | (have hF3 := xm_F_len (f := s.2.2.1.2.2.1 o) (l := tt + 1) hF2
             have hfr : xm_fF m (xk_up (xk_up (xk_up m1 60 0 (nI 1)) 61 (tt % 8) (nI v)) 57 (s.2.2.1.2.2.1 o) (nI (tt + 1))) := fun a ha => by rw [xk_up_r (by omega), xk_up_r (by omega), xk_up_r (by omega)]; exact hm1 a ha
             have hA1 := xm_A_F hA hF3 hfr
             exact xqm_t e (xm_A_O hA1 (xm_O_pos hA1.2.2.1) (fun a ha => xk_up_r (by omega))) (fun a ha => by rw [xk_up_r (by omega)]; exact hfr.fr a ha) hQ)
          | (have hF3 : xm_F (xs_len (xs_cell (xs_get s.1 (s.2.2.1.2.2.1 o) (tt / 8)).1 (tt % 8) (nI v)) (s.2.2.1.2.2.1 o) (s.1.2.1 (s.2.2.1.2.2.1 o))) (xk_up (xk_up m1 60 0 (nI 1)) 61 (tt % 8) (nI v)) := by
               have := xm_F_len (f := s.2.2.1.2.2.1 o) (l := s.1.2.1 (s.2.2.1.2.2.1 o)) hF2
               rw [xk_up_id (show (xk_up (xk_up m1 60 0 (nI 1)) 61 (tt % 8) (nI v)) 57 (s.2.2.1.2.2.1 o) = nI (s.1.2.1 (s.2.2.1.2.2.1 o)) by rw [xk_up_a (by decide), xk_up_a (by decide)]; exact hL1)] at this
               exact this
             have hfr : xm_fF m (xk_up (xk_up m1 60 0 (nI 1)) 61 (tt % 8) (nI v)) := fun a ha => by rw [xk_up_r (by omega), xk_up_r (by omega)]; exact hm1 a ha
             have hA1 := xm_A_F hA hF3 hfr
             exact xqm_t e (xm_A_O hA1 (xm_O_pos hA1.2.2.1) (fun a ha => xk_up_r (by omega))) (fun a ha => by rw [xk_up_r (by omega)]; exact hfr.fr a ha) hQ)
      · have hmx : max (s.1.2.1 (s.2.2.1.2.2.1 o)) (tt + 1) = tt + 1 := by omega
        refine xk_aload_n (pc := 218) d_M_write_218 rfl ?_
        refine xk_getRo (pc := 219) d_M_write_219 fl_M_20 (by first | rfl | assumption) rfl (by omega) (by omega) (hS _ _ _ rfl (by omega)) ?_
        refine xk_iload (pc := 222) d_M_write_222 rfl ?_
        refine xk_iload (pc := 224) d_M_write_224 rfl ?_
        refine xk_iconst (pc := 226) (v := nI 1) d_M_write_226 (by decide) ?_
        first | refine xk_iaddN (pc := 227) d_M_write_227 ?_ | refine xk_iadd (pc := 227) d_M_write_227 ?_
        refine xk_iastore (pc := 228) d_M_write_228 (by first | rfl | assumption) (by omega) (by omega) rfl (by omega) (by decide) ?_
        refine xk_aload_n (pc := 229) d_M_write_229 rfl ?_
        refine xk_getRo (pc := 230) d_M_write_230 fl_M_59 (by first | rfl | assumption) rfl (by omega) (by omega) (hS _ _ _ rfl (by omega)) ?_
        refine xk_iload (pc := 233) d_M_write_233 rfl ?_
        refine xk_iload (pc := 235) d_M_write_235 rfl ?_
        refine xk_iconst (pc := 237) (v := nI 1) d_M_write_237 (by decide) ?_
        first | refine xk_iaddN (pc := 238) d_M_write_238 ?_ | refine xk_iadd (pc := 238) d_M_write_238 ?_
        refine xk_iastore (pc := 239) d_M_write_239 (by first | rfl | assumption) (by omega) (by omega) rfl (by omega) (by decide) ?_
        refine xk_iconst (pc := 240) (v := nI 1) d_M_write_240 (by decide) ?_
        refine xk_iret (pc := 241) rfl d_M_write_241 rfl (Nat.le_of_ble_eq_true rfl) (Nat.le_of_ble_eq_true rfl) ?_
        have e : xs_wf s o v = (nI 1, (xs_len (xs_cell (xs_get s.1 (s.2.2.1.2.2.1 o) (tt / 8)).1 (tt % 8) (nI v)) (s.2.2.1.2.2.1 o) (max (s.1.2.1 (s.2.2.1.2.2.1 o)) (tt + 1)), s.2.1, xs_pos s.2.2.1 o (tt + 1), s.2.2.2)) := by
          unfold xs_wf
          rw [hat]
          exact (if_neg (by omega)).trans (if_pos e1)
        rw [hmx] at e
        first
          | (have hF3 := xm_F_len (f := s.2.2.1.2.2.1 o) (l := tt + 1) hF2
             have hfr : xm_fF m (xk_up (xk_up (xk_up m1 60 0 (nI 1)) 61 (tt % 8) (nI v)) 57 (s.2.2.1.2.2.1 o) (nI (tt + 1))) := fun a ha => by rw [xk_up_r (by omega), xk_up_r (by omega), xk_up_r (by omega)]; exact hm1 a ha
             have hA1 := xm_A_F hA hF3 hfr
             exact xqm_t e (xm_A_O hA1 (xm_O_pos hA1.2.2.1) (fun a ha => xk_up_r (by omega))) (fun a ha => by rw [xk_up_r (by omega)]; exact hfr.fr a ha) hQ)
          | (have hF3 : xm_F (xs_len (xs_cell (xs_get s.1 (s.2.2.1.2.2.1 o) (tt / 8)).1 (tt % 8) (nI v)) (s.2.2.1.2.2.1 o) (s.1.2.1 (s.2.2.1.2.2.1 o))) (xk_up (xk_up m1 60 0 (nI 1)) 61 (tt % 8) (nI v)) := by
               have := xm_F_len (f := s.2.2.1.2.2.1 o) (l := s.1.2.1 (s.2.2.1.2.2.1 o)) hF2
               rw [xk_up_id (show (xk_up (xk_up m1 60 0 (nI 1)) 61 (tt % 8) (nI v)) 57 (s.2.2.1.2.2.1 o) = nI (s.1.2.1 (s.2.2.1.2.2.1 o)) by rw [xk_up_a (by decide), xk_up_a (by decide)]; exact hL1)] at this
               exact this
             have hfr : xm_fF m (xk_up (xk_up m1 60 0 (nI 1)) 61 (tt % 8) (nI v)) := fun a ha => by rw [xk_up_r (by omega), xk_up_r (by omega)]; exact hm1 a ha
             have hA1 := xm_A_F hA hF3 hfr
             exact xqm_t e (xm_A_O hA1 (xm_O_pos hA1.2.2.1) (fun a ha => xk_up_r (by omega))) (fun a ha => by rw [xk_up_r (by omega)]; exact hfr.fr a ha) hQ)
    · refine xk_if_ne (pc := 182) (tgt := 188) d_M_write_182 rfl (fun h => absurd (by decide) h) (fun _ => ?_)
      refine xk_bipush (pc := 185) (v := (-8)) d_M_write_185 (by decide) ?_
      refine xk_iret (pc := 187) rfl d_M_write_187 rfl (Nat.le_of_ble_eq_true rfl) (Nat.le_of_ble_eq_true rfl) ?_
      have e : xs_wf s o v = (-8, ((xs_get s.1 (s.2.2.1.2.2.1 o) (tt / 8)).1, s.2)) := by
        unfold xs_wf
        rw [hat]
        exact (if_neg (by omega)).trans (if_neg (by rw [e1]; exact Bool.false_ne_true))
      exact xqm_t e (xm_A_F hA hF1 hm1) hm1.fr hQ
  · refine xk_bipush (pc := 168) (v := (-2)) d_M_write_168 (by decide) ?_
    refine xk_iret (pc := 170) rfl d_M_write_170 rfl (Nat.le_of_ble_eq_true rfl) (Nat.le_of_ble_eq_true rfl) ?_
    exact xqm_s (show xs_wf s o v = (-2, s) from if_pos (by omega)) hA hQ

set_option maxRecDepth 20000 in
set_option maxHeartbeats 4000000 in
theorem c_M_write {E : xk_E} {n : Nat} {m : xk_M} {r : xk_P} {Q : xk_Q} {x y z : Int32} {s : xs_S} (hn : 74 ≤ n) (hS : xr_S r n) (hA : xm_A s m) (hok : xs_ok s) (hsm : s.1.1.2.2.2.2.1 + 4 < 2 ^ 20) (hQ : ∀ m', xm_A (xs_write s x y z).2 m' → xm_fr m m' → Q (some (.inl (xs_write s x y z).1)) n m' r) : xk_W E m_M_write 0 (xk_ent m_M_write [.inr (some 53), .inl x, .inl y, .inl z]) [] n m r 0 0 Q := by
  show xk_W E m_M_write 0 [some (.inr (some 53)), some (.inl x), some (.inl y), some (.inl z), none, none, none] [] n m r 0 0 Q
  obtain ⟨hF, hP, hO, hT⟩ := id hA
  obtain ⟨okF, okP, okO, okT⟩ := id hok
  have hb := okO.1
  have h6 := xm_h6 okO okT
  have hkw := xm_kw okO
  refine xk_aload_n (pc := 0) d_M_write_0 rfl ?_
  refine xk_iload_n (pc := 1) d_M_write_1 rfl ?_
  refine xk_cV1 (pc := 2) d_M_write_2 ml_M_86 cz_M_alive ⟨rfl, rfl⟩ rfl (by first | rfl | assumption) (by omega) (by omega) (Nat.le_of_ble_eq_true rfl) ⟨(Nat.le_of_ble_eq_true rfl), (Nat.le_of_ble_eq_true rfl)⟩ ?_
  refine c_M_alive hn hS hT okT (fun p0 ep0 hp0 hp10 ex0 et0 => ?_) (fun ep => ?_)
  · refine xk_if_eq (pc := 5) (tgt := 21) d_M_write_5 rfl (fun h => absurd h (by decide)) (fun _ => ?_)
    refine xk_iload_n (pc := 8) d_M_write_8 rfl ?_
    refine xk_iconst (pc := 9) (v := nI 0) d_M_write_9 (by decide) ?_
    refine xk_sipush (pc := 10) (v := nI 255) d_M_write_10 (by decide) ?_
    refine xk_cS3 (pc := 13) d_M_write_13 ml_M_78 cz_M_in ⟨rfl, rfl⟩ rfl (Nat.le_of_ble_eq_true rfl) ⟨(Nat.le_of_ble_eq_true rfl), (Nat.le_of_ble_eq_true rfl)⟩ ?_
    refine c_M_in (lo := 0) (hi := 255) (by decide) (by decide) (fun v _ hv ev => ?_) (fun env => ?_)
    · subst ev
      have env := xs_nat_nI (k := 256) (show v < 256 by omega) (by decide)
      refine xk_if_ne (pc := 16) (tgt := 21) d_M_write_16 rfl (fun _ => ?_) (fun h => absurd h (by decide))
      
      refine xk_aload_n (pc := 21) d_M_write_21 rfl ?_
      refine xk_iload_n (pc := 22) d_M_write_22 rfl ?_
      refine xk_iload_n (pc := 23) d_M_write_23 rfl ?_
      refine xk_cV2 (pc := 24) d_M_write_24 ml_M_130 cz_M_opening ⟨rfl, rfl⟩ rfl (by first | rfl | assumption) (by omega) (by omega) (Nat.le_of_ble_eq_true rfl) ⟨(Nat.le_of_ble_eq_true rfl), (Nat.le_of_ble_eq_true rfl)⟩ ?_
      refine c_M_opening hn hS hT okT hO hb (fun p d o ep ed ex ey hp hp1 hd et e0 => ?_) (fun p d ep ed e0 => ?_) (fun en => ?_)
      · have ho := okO.1 _ o (by omega) e0
        have hu := xs_used_of (by omega) e0
        have hdesc := xs_desc_s ep ed e0
        obtain ⟨k1, k2, k3, k4⟩ := okO.2.2.1 o ho hu
        have kw := (hkw o ho hu).2
        refine xk_istore (pc := 27) d_M_write_27 (by decide) ?_
        refine xk_iload (pc := 29) d_M_write_29 rfl ?_
        refine xk_if_ge (pc := 31) (tgt := 37) d_M_write_31 rfl (fun c_31 => ?_) (fun c_31 => ?_)
        · refine xk_aload_n (pc := 37) d_M_write_37 rfl ?_
          refine xk_getRo (pc := 38) d_M_write_38 fl_M_56 (by first | rfl | assumption) rfl (by omega) (by omega) (hS _ _ _ rfl (by omega)) ?_
          refine xk_iload (pc := 41) d_M_write_41 rfl ?_
          refine xk_ialoado (pc := 43) d_M_write_43 (by first | rfl | assumption) (by omega) (by omega) rfl (by omega) (by decide) (hO.2.2.2.1 o ho) ?_
          refine xk_iconst (pc := 44) (v := nI 2) d_M_write_44 (by decide) ?_
          refine xk_iand (pc := 45) d_M_write_45 ?_
          first | refine xk_if_neN (pc := 46) (tgt := 52) d_M_write_46 rfl (by omega) (fun c_46 => ?_) (fun c_46 => ?_) | refine xk_if_ne (pc := 46) (tgt := 52) d_M_write_46 rfl (fun c_46 => ?_) (fun c_46 => ?_)
          · have hmd : ¬ s.2.2.1.2.2.2.1 o / 2 % 2 = 0 := fun z => c_46 ((xs_b2 _ k2).mpr z)
            refine xk_aload_n (pc := 52) d_M_write_52 rfl ?_
            refine xk_getRo (pc := 53) d_M_write_53 fl_M_53 (by first | rfl | assumption) rfl (by omega) (by omega) (hS _ _ _ rfl (by omega)) ?_
            refine xk_iload (pc := 56) d_M_write_56 rfl ?_
            refine xk_ialoado (pc := 58) d_M_write_58 (by first | rfl | assumption) (by omega) (by omega) rfl (by omega) (by decide) (hO.2.2.1 o ho) ?_
            refine xk_istore (pc := 59) d_M_write_59 (by decide) ?_
            refine xk_aload_n (pc := 61) d_M_write_61 rfl ?_
            refine xk_getRo (pc := 62) d_M_write_62 fl_M_50 (by first | rfl | assumption) rfl (by omega) (by omega) (hS _ _ _ rfl (by omega)) ?_
            refine xk_iload (pc := 65) d_M_write_65 rfl ?_
            refine xk_ialoado (pc := 67) d_M_write_67 (by first | rfl | assumption) (by omega) (by omega) rfl (by omega) (by decide) (hO.2.1 o ho) ?_
            refine xk_iconst (pc := 68) (v := nI 2) d_M_write_68 (by decide) ?_
            first | refine xk_icmp_neN (pc := 69) (tgt := 130) d_M_write_69 rfl (by omega) (by omega) (fun c_69 => ?_) (fun c_69 => ?_) | refine xk_icmp_ne (pc := 69) (tgt := 130) d_M_write_69 rfl (fun c_69 => ?_) (fun c_69 => ?_)
            · have kz : s.2.2.1.2.1 o = 0 := by
                refine Classical.byContradiction (fun z => ?_)
                have z1 := (k4 z).2.1
                rw [z1] at hmd
                have z2 : s.2.2.1.2.1 o = 1 := by omega
                rw [z2] at hmd
                exact hmd rfl
              have hpos := (k3 kz).2
              have hwf := (k3 kz).1
              have hln := (okF.1 _ hwf).2
              rw [xs_write_f env hdesc hmd kz] at hQ
              refine xk_aload_n (pc := 130) d_M_write_130 rfl ?_
              refine xk_getRo (pc := 131) d_M_write_131 fl_M_56 (by first | rfl | assumption) rfl (by omega) (by omega) (hS _ _ _ rfl (by omega)) ?_
              refine xk_iload (pc := 134) d_M_write_134 rfl ?_
              refine xk_ialoado (pc := 136) d_M_write_136 (by first | rfl | assumption) (by omega) (by omega) rfl (by omega) (by decide) (hO.2.2.2.1 o ho) ?_
              refine xk_iconst (pc := 137) (v := nI 4) d_M_write_137 (by decide) ?_
              refine xk_iand (pc := 138) d_M_write_138 ?_
              first | refine xk_if_eqN (pc := 139) (tgt := 152) d_M_write_139 rfl (by omega) (fun c_139 => ?_) (fun c_139 => ?_) | refine xk_if_eq (pc := 139) (tgt := 152) d_M_write_139 rfl (fun c_139 => ?_) (fun c_139 => ?_)
              · have hat : xs_at s o = s.2.2.1.2.2.2.2.1 o := if_neg (by have := (xs_b4 _ k2).mp c_139; omega)
                refine xk_aload_n (pc := 152) d_M_write_152 rfl ?_
                refine xk_getRo (pc := 153) d_M_write_153 fl_M_59 (by first | rfl | assumption) rfl (by omega) (by omega) (hS _ _ _ rfl (by omega)) ?_
                refine xk_iload (pc := 156) d_M_write_156 rfl ?_
                refine xk_ialoado (pc := 158) d_M_write_158 (by first | rfl | assumption) (by omega) (by omega) rfl (by omega) (by decide) (hO.2.2.2.2.1 o ho) ?_
                refine xk_istore (pc := 159) d_M_write_159 (by decide) ?_
                exact s_mwf161 hn hS hA hok hsm (by omega) ho hu kz hat (by omega) hQ
              · have hat : xs_at s o = s.1.2.1 (s.2.2.1.2.2.1 o) := if_pos (by
                  have h8 := (xs_b4 _ k2).mpr
                  have : ¬ s.2.2.1.2.2.2.1 o / 4 % 2 = 0 := fun z => c_139 (h8 z)
                  omega)
                refine xk_aload_n (pc := 142) d_M_write_142 rfl ?_
                refine xk_getRo (pc := 143) d_M_write_143 fl_M_20 (by first | rfl | assumption) rfl (by omega) (by omega) (hS _ _ _ rfl (by omega)) ?_
                refine xk_iload (pc := 146) d_M_write_146 rfl ?_
                refine xk_ialoado (pc := 148) d_M_write_148 (by first | rfl | assumption) (by omega) (by omega) rfl (by omega) (by decide) (hF.2.1 _ hwf) ?_
                refine xk_goto (pc := 149) (tgt := 159) d_M_write_149 rfl ?_
                refine xk_istore (pc := 159) d_M_write_159 (by decide) ?_
                exact s_mwf161 hn hS hA hok hsm (by omega) ho hu kz hat (by omega) hQ
            · have kk : s.2.2.1.2.1 o = 2 := c_69
              have kl := (k4 (by omega)).2.2
              have hwp := xs_write_p env hdesc hmd kk
              refine xk_aload_n (pc := 72) d_M_write_72 rfl ?_
              refine xk_iload (pc := 73) d_M_write_73 rfl ?_
              refine xk_iconst (pc := 75) (v := nI 1) d_M_write_75 (by decide) ?_
              refine xk_cV2 (pc := 76) d_M_write_76 ml_M_126 cz_M_hasEnd ⟨rfl, rfl⟩ rfl (by first | rfl | assumption) (by omega) (by omega) (Nat.le_of_ble_eq_true rfl) ⟨(Nat.le_of_ble_eq_true rfl), (Nat.le_of_ble_eq_true rfl)⟩ ?_
              refine c_M_hasEnd hn hS hO hb h6 hkw (by omega) (by decide) (fun ee => ?_) (fun ee => ?_)
              · refine xk_if_ne (pc := 79) (tgt := 85) d_M_write_79 rfl (fun _ => ?_) (fun h => absurd h (by decide))
                refine xk_aload_n (pc := 85) d_M_write_85 rfl ?_
                refine xk_getRo (pc := 86) d_M_write_86 fl_M_65 (by first | rfl | assumption) rfl (by omega) (by omega) (hS _ _ _ rfl (by omega)) ?_
                refine xk_iload (pc := 89) d_M_write_89 rfl ?_
                refine xk_ialoado (pc := 91) d_M_write_91 (by first | rfl | assumption) (by omega) (by omega) rfl (by omega) (by decide) (hO.2.2.2.2.2.1 (s.2.2.1.2.2.1 o) kw) ?_
                refine xk_iconst (pc := 92) (v := nI 4) d_M_write_92 (by decide) ?_
                first | refine xk_icmp_neN (pc := 93) (tgt := 99) d_M_write_93 rfl (by omega) (by omega) (fun c_93 => ?_) (fun c_93 => ?_) | refine xk_icmp_ne (pc := 93) (tgt := 99) d_M_write_93 rfl (fun c_93 => ?_) (fun c_93 => ?_)
                · refine xk_aload_n (pc := 99) d_M_write_99 rfl ?_
                  refine xk_getRo (pc := 100) d_M_write_100 fl_M_62 (by first | rfl | assumption) rfl (by omega) (by omega) (hS _ _ _ rfl (by omega)) ?_
                  refine xk_iconst (pc := 103) (v := nI 4) d_M_write_103 (by decide) ?_
                  refine xk_iload (pc := 104) d_M_write_104 rfl ?_
                  first | refine xk_imulN (pc := 106) d_M_write_106 ?_ | refine xk_imul (pc := 106) d_M_write_106 ?_
                  refine xk_aload_n (pc := 107) d_M_write_107 rfl ?_
                  refine xk_getRo (pc := 108) d_M_write_108 fl_M_65 (by first | rfl | assumption) rfl (by omega) (by omega) (hS _ _ _ rfl (by omega)) ?_
                  refine xk_iload (pc := 111) d_M_write_111 rfl ?_
                  refine xk_ialoado (pc := 113) d_M_write_113 (by first | rfl | assumption) (by omega) (by omega) rfl (by omega) (by decide) (hO.2.2.2.2.2.1 (s.2.2.1.2.2.1 o) kw) ?_
                  first | refine xk_iaddN (pc := 114) d_M_write_114 ?_ | refine xk_iadd (pc := 114) d_M_write_114 ?_
                  refine xk_iload_n (pc := 115) d_M_write_115 rfl ?_
                  refine xk_iastore (pc := 116) d_M_write_116 (by first | rfl | assumption) (by omega) (by omega) rfl (by omega) (by decide) ?_
                  refine xk_aload_n (pc := 117) d_M_write_117 rfl ?_
                  refine xk_getRo (pc := 118) d_M_write_118 fl_M_65 (by first | rfl | assumption) rfl (by omega) (by omega) (hS _ _ _ rfl (by omega)) ?_
                  refine xk_iload (pc := 121) d_M_write_121 rfl ?_
                  refine xk_dup2 (pc := 123) d_M_write_123 ?_
                  refine xk_ialoado (pc := 124) d_M_write_124 (by first | rfl | assumption) (by omega) (by omega) rfl (by omega) (by decide) ((xk_up_a (by decide)).trans (hO.2.2.2.2.2.1 (s.2.2.1.2.2.1 o) kw)) ?_
                  refine xk_iconst (pc := 125) (v := nI 1) d_M_write_125 (by decide) ?_
                  first | refine xk_iaddN (pc := 126) d_M_write_126 ?_ | refine xk_iadd (pc := 126) d_M_write_126 ?_
                  refine xk_iastore (pc := 127) d_M_write_127 (by first | rfl | assumption) (by omega) (by omega) rfl (by omega) (by decide) ?_
                  refine xk_iconst (pc := 128) (v := nI 1) d_M_write_128 (by decide) ?_
                  refine xk_iret (pc := 129) rfl d_M_write_129 rfl (Nat.le_of_ble_eq_true rfl) (Nat.le_of_ble_eq_true rfl) ?_
                  refine xqm_t (v := nI 1) (hwp.trans ((if_neg (by rw [ee]; decide)).trans (if_neg c_93))) (xm_A_O hA (xm_O_pip hO (fun a a1 a2 => ?_) (fun k => ?_) (fun i w hw hi => ?_) (fun k hk => ?_)) (fun a ha => ?_)) (fun a ha => ?_) hQ
                  · rw [xk_up_r (by omega), xk_up_r (by omega)]
                  · by_cases e : k = s.2.2.1.2.2.1 o
                    · subst e; rw [if_pos rfl, xk_up_s, List.length_append]; rfl
                    · rw [if_neg e, xk_up_k e, xk_up_a (by decide)]
                  · rw [xk_up_a (by decide)]
                    by_cases hi2 : i < (s.2.2.1.2.2.2.2.2 (s.2.2.1.2.2.1 o)).length
                    · rw [List.getElem?_append_left hi2] at hw
                      rw [xk_up_k (by omega)]
                      exact hO.2.2.2.2.2.2 (s.2.2.1.2.2.1 o) kw i w hw hi
                    · rw [List.getElem?_append_right (by omega)] at hw
                      have h0 := xs_lt hw
                      change _ < 1 at h0
                      rw [show i - (s.2.2.1.2.2.2.2.2 (s.2.2.1.2.2.1 o)).length = 0 by omega] at hw
                      cases hw
                      rw [show i = (s.2.2.1.2.2.2.2.2 (s.2.2.1.2.2.1 o)).length by omega, xk_up_s]
                  · rw [xk_up_a (by decide), xk_up_k (by omega)]
                  · rw [xk_up_r (by omega), xk_up_r (by omega)]
                  · rw [xk_up_r (by omega), xk_up_r (by omega)]
                · refine xk_bipush (pc := 96) (v := (-6)) d_M_write_96 (by decide) ?_
                  refine xk_iret (pc := 98) rfl d_M_write_98 rfl (Nat.le_of_ble_eq_true rfl) (Nat.le_of_ble_eq_true rfl) ?_
                  exact xqm_s (hwp.trans ((if_neg (by rw [ee]; decide)).trans (if_pos c_93))) hA hQ
              · refine xk_if_ne (pc := 79) (tgt := 85) d_M_write_79 rfl (fun h => absurd (by decide) h) (fun _ => ?_)
                refine xk_bipush (pc := 82) (v := (-7)) d_M_write_82 (by decide) ?_
                refine xk_iret (pc := 84) rfl d_M_write_84 rfl (Nat.le_of_ble_eq_true rfl) (Nat.le_of_ble_eq_true rfl) ?_
                exact xqm_s (hwp.trans (if_pos ee)) hA hQ
          · have hmd := (xs_b2 _ k2).mp c_46
            refine xk_bipush (pc := 49) (v := (-3)) d_M_write_49 (by decide) ?_
            refine xk_iret (pc := 51) rfl d_M_write_51 rfl (Nat.le_of_ble_eq_true rfl) (Nat.le_of_ble_eq_true rfl) ?_
            exact xqm_s (xs_write_c env hdesc hmd) hA hQ
        · exact absurd (xm_ge0 (by omega)) c_31
      · have en := xs_desc_n ep ed e0
        refine xk_istore (pc := 27) d_M_write_27 (by decide) ?_
        refine xk_iload (pc := 29) d_M_write_29 rfl ?_
        refine xk_if_ge (pc := 31) (tgt := 37) d_M_write_31 rfl (fun h => absurd h (by decide)) (fun _ => ?_)
        refine xk_iload (pc := 34) d_M_write_34 rfl ?_
        refine xk_iret (pc := 36) rfl d_M_write_36 rfl (Nat.le_of_ble_eq_true rfl) (Nat.le_of_ble_eq_true rfl) ?_
        exact xqm_s (xs_write_e env en) hA hQ
      · replace en := xs_desc_0 (s := s) en
        refine xk_istore (pc := 27) d_M_write_27 (by decide) ?_
        refine xk_iload (pc := 29) d_M_write_29 rfl ?_
        refine xk_if_ge (pc := 31) (tgt := 37) d_M_write_31 rfl (fun h => absurd h (by decide)) (fun _ => ?_)
        refine xk_iload (pc := 34) d_M_write_34 rfl ?_
        refine xk_iret (pc := 36) rfl d_M_write_36 rfl (Nat.le_of_ble_eq_true rfl) (Nat.le_of_ble_eq_true rfl) ?_
        exact xqm_s (xs_write_e env en) hA hQ
    · replace env := xs_nat_out (k := 255) (by decide) env
      refine xk_if_ne (pc := 16) (tgt := 21) d_M_write_16 rfl (fun h => absurd (by decide) h) (fun _ => ?_)
      refine xk_iconst (pc := 19) (v := (-1)) d_M_write_19 (by decide) ?_
      refine xk_iret (pc := 20) rfl d_M_write_20 rfl (Nat.le_of_ble_eq_true rfl) (Nat.le_of_ble_eq_true rfl) ?_
      exact xqm_s (show xs_write s x y z = (-1, s) by unfold xs_write; rw [env]) hA hQ
  · refine xk_if_eq (pc := 5) (tgt := 21) d_M_write_5 rfl (fun _ => ?_) (fun h => absurd (by decide) h)
    exact s_mwrite21 hn hS hA hok ep (xqm_s (xs_write_na ep) hA hQ)
