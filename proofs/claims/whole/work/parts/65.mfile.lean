/-- on the file side nothing but its own cells changes -/
def xm_fF (m m' : xk_M) : Prop := ∀ a, (a < 53 ∨ a = 58 ∨ (62 ≤ a ∧ a < 73) ∨ 74 ≤ a) → m' a = m a
theorem xm_fF.tr {m m' m'' : xk_M} (h : xm_fF m m') (h2 : xm_fF m' m'') : xm_fF m m'' := fun a ha => (h2 a ha).trans (h a ha)
def xm_sh (m : xk_M) (i : Nat) : xk_M := fun c j => if c = 73 ∧ i < j ∧ j < 16 then m 73 (j - 1) else m c j
theorem xm_sh_a {m : xk_M} {i c : Nat} (h : c ≠ 73) : xm_sh m i c = m c := by
  funext j
  unfold xm_sh
  rw [if_neg (by omega)]
theorem xm_sh_lo {m : xk_M} {i k : Nat} (h : k ≤ i) : xm_sh m i 73 k = m 73 k := by
  unfold xm_sh
  rw [if_neg (by omega)]
theorem xm_sh_15 {m : xk_M} : xm_sh m 15 = m := by
  funext c j
  unfold xm_sh
  rw [if_neg (by omega)]
theorem xm_sh_s {m : xk_M} {i : Nat} (h : i < 15) : xk_up (xm_sh m (i + 1)) 73 (i + 1) (m 73 (i + 1 - 1)) = xm_sh m i := by
  funext c j
  unfold xk_up xm_sh
  by_cases e : c = 73 ∧ j = i + 1
  · rw [if_pos e, if_pos (by omega), e.2]
  · rw [if_neg e]
    by_cases e2 : c = 73 ∧ i + 1 < j ∧ j < 16
    · rw [if_pos e2, if_pos (by omega)]
    · rw [if_neg e2, if_neg (show ¬ (c = 73 ∧ i < j ∧ j < 16) by omega)]
theorem xm_H_op {h : xs_H} {m m' : xk_M} {o f b : Nat} (hR : xm_H h m) (h4 : m' 54 = m 54) (h5 : m' 55 = m 55) (h6 : m' 56 = m 56) (h7 : ∀ j, j < 16 → m' 73 j = if j = 0 then nI (o + 8 * f + 64 * b + (if h.2.2.2.2.2 = 0 then 0 else 256)) else m 73 (j - 1)) (h24 : m' 53 21 = nI (h.2.2.2.2.1 + 1)) (h25 : m' 53 20 = nI (h.2.2.2.2.2 - 1)) : xm_H (xs_op h o f b).1 m' := by
  obtain ⟨r1, r2, r3, r4, r5, r6⟩ := hR
  refine ⟨fun f hf => by rw [h4]; exact r1 f hf, fun f hf => by rw [h5]; exact r2 f hf, fun f i hf hi => by rw [h6]; exact r3 f i hf hi, fun j hj hj2 => ?_, h24, h25⟩
  show m' 73 j = if j = 0 then _ else h.2.2.2.1 (j - 1)
  have hj3 : j < h.2.2.2.2.1 + 1 := hj2
  rw [h7 j hj]
  by_cases h0 : j = 0
  · rw [if_pos h0, if_pos h0]
  · rw [if_neg h0, if_neg h0, ← r4 (j - 1) (by omega) (by omega)]

set_option maxRecDepth 20000 in
set_option maxHeartbeats 4000000 in
theorem l_mlog {E : xk_E} {n : Nat} {r : xk_P} {Q : xk_Q} {m : xk_M} {v1 v2 v3 v4 : Option xk_V} (hn : 74 ≤ n) (hS : xr_S r n) (hK : xk_W E m_M_operate 60 [some (.inr (some 53)), v1, v2, v3, v4, some (.inl (nI 0))] [] n (xm_sh m 0) r 0 0 Q) : ∀ (k : Nat) (i : Nat), i - 0 < k → i ≤ 15 → xk_W E m_M_operate 33 [some (.inr (some 53)), v1, v2, v3, v4, some (.inl (nI i))] [] n (xm_sh m i) r 0 0 Q := by
  intro k
  induction k with
  | zero => intro i h; exact absurd h (Nat.not_lt_zero _)
  | succ k ih =>
    intro i hk hi
    refine xk_iload (pc := 33) d_M_operate_33 rfl ?_
    first | refine xk_if_leN (pc := 35) (tgt := 60) d_M_operate_35 rfl (by omega) (fun c_35 => ?_) (fun c_35 => ?_) | refine xk_if_le (pc := 35) (tgt := 60) d_M_operate_35 rfl (fun c_35 => ?_) (fun c_35 => ?_)
    · subst c_35
      exact hK
    · obtain ⟨j, rfl⟩ : ∃ j, i = j + 1 := ⟨i - 1, by omega⟩
      refine xk_aload_n (pc := 38) d_M_operate_38 rfl ?_
      refine xk_getRo (pc := 39) d_M_operate_39 fl_M_68 (by first | rfl | assumption) rfl (by omega) (by omega) (hS _ _ _ rfl (by omega)) ?_
      refine xk_iload (pc := 42) d_M_operate_42 rfl ?_
      refine xk_aload_n (pc := 44) d_M_operate_44 rfl ?_
      refine xk_getRo (pc := 45) d_M_operate_45 fl_M_68 (by first | rfl | assumption) rfl (by omega) (by omega) (hS _ _ _ rfl (by omega)) ?_
      refine xk_iload (pc := 48) d_M_operate_48 rfl ?_
      refine xk_iconst (pc := 50) (v := nI 1) d_M_operate_50 (by decide) ?_
      first | refine xk_isubN (pc := 51) d_M_operate_51 (by omega) ?_ | refine xk_isub (pc := 51) d_M_operate_51 ?_
      refine xk_ialoado (pc := 52) d_M_operate_52 (by first | rfl | assumption) (by omega) (by omega) rfl (by omega) (by decide) (xm_sh_lo (by omega)) ?_
      refine xk_iastore (pc := 53) d_M_operate_53 (by first | rfl | assumption) (by omega) (by omega) rfl (by omega) (by decide) ?_
      rw [xm_sh_s (by omega)]
      refine xk_iincM (pc := 54) d_M_operate_54 rfl ?_
      refine xk_goto (pc := 57) (tgt := 33) d_M_operate_57 rfl ?_
      exact ih j (by omega) (by omega)

set_option maxRecDepth 20000 in
set_option maxHeartbeats 4000000 in
theorem c_M_operate {E : xk_E} {n : Nat} {m : xk_M} {r : xk_P} {Q : xk_Q} (hn : 74 ≤ n) (hS : xr_S r n) {F : xs_F} (hF : xm_F F m) (hops : F.1.2.2.2.2.1 < 2 ^ 30) (htf : F.1.2.2.2.2.2 < 2 ^ 30) {o f b : Nat} (h1 : F.1.2.2.2.2.2 = 0 → ∀ m', xm_F ((xs_op F.1 o f b).1, F.2) m' → xm_fF m m' → Q (some (.inl (nI 1))) n m' r) (h0 : F.1.2.2.2.2.2 ≠ 0 → ∀ m', xm_F ((xs_op F.1 o f b).1, F.2) m' → xm_fF m m' → Q (some (.inl (nI 0))) n m' r) : xk_W E m_M_operate 0 (xk_ent m_M_operate [.inr (some 53), .inl (nI o), .inl (nI f), .inl (nI b)]) [] n m r 0 0 Q := by
  show xk_W E m_M_operate 0 [some (.inr (some 53)), some (.inl (nI o)), some (.inl (nI f)), some (.inl (nI b)), none, none] [] n m r 0 0 Q
  refine xk_aload_n (pc := 0) d_M_operate_0 rfl ?_
  refine xk_getIo (pc := 1) d_M_operate_1 fl_M_89 (by first | rfl | assumption) rfl (by omega) (by omega) hF.1.2.2.2.2.2 ?_
  first | refine xk_if_leN (pc := 4) (tgt := 11) d_M_operate_4 rfl (by omega) (fun c_4 => ?_) (fun c_4 => ?_) | refine xk_if_le (pc := 4) (tgt := 11) d_M_operate_4 rfl (fun c_4 => ?_) (fun c_4 => ?_)
  · refine xk_iconst (pc := 11) (v := nI 0) d_M_operate_11 (by decide) ?_
    refine xk_istore (pc := 12) d_M_operate_12 (by decide) ?_
    refine xk_iload (pc := 14) d_M_operate_14 rfl ?_
    refine xk_if_eq (pc := 16) (tgt := 29) d_M_operate_16 rfl (fun _ => ?_) (fun h => absurd (by decide) h)
    refine xk_bipush (pc := 29) (v := nI 15) d_M_operate_29 (by decide) ?_
    refine xk_istore (pc := 31) d_M_operate_31 (by decide) ?_
    have K33 : ∀ (H : xk_W E m_M_operate 60 [some (.inr (some 53)), some (.inl (nI o)), some (.inl (nI f)), some (.inl (nI b)), some (.inl (nI 0)), some (.inl (nI 0))] [] n (xm_sh m 0) r 0 0 Q), xk_W E m_M_operate 33 [some (.inr (some 53)), some (.inl (nI o)), some (.inl (nI f)), some (.inl (nI b)), some (.inl (nI 0)), some (.inl (nI 15))] [] n m r 0 0 Q := fun H => by
      have K := l_mlog (E := E) (m := m) hn hS H 16 15 (by omega) (by omega)
      rw [xm_sh_15] at K
      exact K
    refine K33 ?_
    have hops1 : ∀ v, (xk_up (xm_sh m 0) 73 0 v) 53 21 = nI F.1.2.2.2.2.1 := fun v => by
      rw [xk_up_a (by decide), xm_sh_a (by decide)]
      first | exact hF.1.2.2.2.2.1 | exact (xk_up_k (by decide)).trans hF.1.2.2.2.2.1
    refine xk_aload_n (pc := 60) d_M_operate_60 rfl ?_
    refine xk_getRo (pc := 61) d_M_operate_61 fl_M_68 (by first | rfl | assumption) rfl (by omega) (by omega) (hS _ _ _ rfl (by omega)) ?_
    refine xk_iconst (pc := 64) (v := nI 0) d_M_operate_64 (by decide) ?_
    refine xk_iload_n (pc := 65) d_M_operate_65 rfl ?_
    refine xk_bipush (pc := 66) (v := nI 8) d_M_operate_66 (by decide) ?_
    refine xk_iload_n (pc := 68) d_M_operate_68 rfl ?_
    first | refine xk_imulN (pc := 69) d_M_operate_69 ?_ | refine xk_imul (pc := 69) d_M_operate_69 ?_
    first | refine xk_iaddN (pc := 70) d_M_operate_70 ?_ | refine xk_iadd (pc := 70) d_M_operate_70 ?_
    refine xk_bipush (pc := 71) (v := nI 64) d_M_operate_71 (by decide) ?_
    refine xk_iload_n (pc := 73) d_M_operate_73 rfl ?_
    first | refine xk_imulN (pc := 74) d_M_operate_74 ?_ | refine xk_imul (pc := 74) d_M_operate_74 ?_
    first | refine xk_iaddN (pc := 75) d_M_operate_75 ?_ | refine xk_iadd (pc := 75) d_M_operate_75 ?_
    refine xk_iload (pc := 76) d_M_operate_76 rfl ?_
    refine xk_if_eq (pc := 78) (tgt := 87) d_M_operate_78 rfl (fun _ => ?_) (fun h => absurd (by decide) h)
    refine xk_iconst (pc := 87) (v := nI 0) d_M_operate_87 (by decide) ?_
    first | refine xk_iaddN (pc := 88) d_M_operate_88 ?_ | refine xk_iadd (pc := 88) d_M_operate_88 ?_
    refine xk_iastore (pc := 89) d_M_operate_89 (by first | rfl | assumption) (by omega) (by omega) rfl (by omega) (by decide) ?_
    refine xk_aload_n (pc := 90) d_M_operate_90 rfl ?_
    refine xk_dup (pc := 91) d_M_operate_91 ?_
    refine xk_getIo (pc := 92) d_M_operate_92 fl_M_92 (by first | rfl | assumption) rfl (by omega) (by omega) (hops1 _) ?_
    refine xk_iconst (pc := 95) (v := nI 1) d_M_operate_95 (by decide) ?_
    first | refine xk_iaddN (pc := 96) d_M_operate_96 ?_ | refine xk_iadd (pc := 96) d_M_operate_96 ?_
    refine xk_putI (pc := 97) d_M_operate_97 fl_M_92 (by first | rfl | assumption) rfl (fun q hq h => by cases hq; first | exact absurd h (by decide) | exact ⟨rfl, rfl, rfl⟩) ⟨rfl, rfl⟩ (by omega) (by omega) ?_
    refine xk_iload (pc := 100) d_M_operate_100 rfl ?_
    refine xk_if_ne (pc := 102) (tgt := 109) d_M_operate_102 rfl (fun h => absurd (by decide) h) (fun _ => ?_)
    refine xk_iconst (pc := 105) (v := nI 1) d_M_operate_105 (by decide) ?_
    refine xk_goto (pc := 106) (tgt := 110) d_M_operate_106 rfl ?_
    refine xk_zret (pc := 110) rfl d_M_operate_110 rfl rfl (Nat.le_of_ble_eq_true rfl) (Nat.le_of_ble_eq_true rfl) ?_
    refine h1 c_4 _ ⟨xm_H_op hF.1 ?_ ?_ ?_ ?_ ?_ ?_, xm_L_kept hF.2.1 ?_, xm_C_kept hF.2.2 ?_ ?_ ?_ ?_⟩ (fun a ha => ?_)
    · simp [xk_up_r, xm_sh_a]
    · simp [xk_up_r, xm_sh_a]
    · simp [xk_up_r, xm_sh_a]
    · intro j hj
      by_cases e : j = 0
      · subst e; rw [if_pos rfl, xk_up_a (by decide), xk_up_s]; first | rw [if_pos c_4] | rw [if_neg c_4]
      · rw [if_neg e, xk_up_a (by decide), xk_up_k e]
        unfold xm_sh
        rw [if_pos (by omega)]
        all_goals (first | rfl | exact xk_up_a (by decide))
    · exact xk_up_s
    · rw [xk_up_k (by decide), xk_up_a (by decide), xm_sh_a (by decide)]
      first | exact xk_up_s | (rw [hF.1.2.2.2.2.2, c_4])
    · simp [xk_up_r, xm_sh_a]
    · rw [xk_up_k (by decide), xk_up_a (by decide), xm_sh_a (by decide)]
      all_goals (first | rfl | exact xk_up_k (by decide))
    · simp [xk_up_r, xm_sh_a]
    · simp [xk_up_r, xm_sh_a]
    · simp [xk_up_r, xm_sh_a]
    · have e1 : a ≠ 53 := by omega
      have e2 : a ≠ 73 := by omega
      simp [xk_up_r, xm_sh_a, e1, e2]
  · have c_5 : F.1.2.2.2.2.2 ≠ 0 := by omega
    refine xk_iconst (pc := 7) (v := nI 1) d_M_operate_7 (by decide) ?_
    refine xk_goto (pc := 8) (tgt := 12) d_M_operate_8 rfl ?_
    refine xk_istore (pc := 12) d_M_operate_12 (by decide) ?_
    refine xk_iload (pc := 14) d_M_operate_14 rfl ?_
    refine xk_if_eq (pc := 16) (tgt := 29) d_M_operate_16 rfl (fun h => absurd h (by decide)) (fun _ => ?_)
    refine xk_aload_n (pc := 19) d_M_operate_19 rfl ?_
    refine xk_dup (pc := 20) d_M_operate_20 ?_
    refine xk_getIo (pc := 21) d_M_operate_21 fl_M_89 (by first | rfl | assumption) rfl (by omega) (by omega) hF.1.2.2.2.2.2 ?_
    refine xk_iconst (pc := 24) (v := nI 1) d_M_operate_24 (by decide) ?_
    first | refine xk_isubN (pc := 25) d_M_operate_25 (by omega) ?_ | refine xk_isub (pc := 25) d_M_operate_25 ?_
    refine xk_putI (pc := 26) d_M_operate_26 fl_M_89 (by first | rfl | assumption) rfl (fun q hq h => by cases hq; first | exact absurd h (by decide) | exact ⟨rfl, rfl, rfl⟩) ⟨rfl, rfl⟩ (by omega) (by omega) ?_
    refine xk_bipush (pc := 29) (v := nI 15) d_M_operate_29 (by decide) ?_
    refine xk_istore (pc := 31) d_M_operate_31 (by decide) ?_
    have K33 : ∀ (H : xk_W E m_M_operate 60 [some (.inr (some 53)), some (.inl (nI o)), some (.inl (nI f)), some (.inl (nI b)), some (.inl (nI 1)), some (.inl (nI 0))] [] n (xm_sh (xk_up m 53 20 (nI (F.1.2.2.2.2.2 - 1))) 0) r 0 0 Q), xk_W E m_M_operate 33 [some (.inr (some 53)), some (.inl (nI o)), some (.inl (nI f)), some (.inl (nI b)), some (.inl (nI 1)), some (.inl (nI 15))] [] n (xk_up m 53 20 (nI (F.1.2.2.2.2.2 - 1))) r 0 0 Q := fun H => by
      have K := l_mlog (E := E) (m := (xk_up m 53 20 (nI (F.1.2.2.2.2.2 - 1)))) hn hS H 16 15 (by omega) (by omega)
      rw [xm_sh_15] at K
      exact K
    refine K33 ?_
    have hops1 : ∀ v, (xk_up (xm_sh (xk_up m 53 20 (nI (F.1.2.2.2.2.2 - 1))) 0) 73 0 v) 53 21 = nI F.1.2.2.2.2.1 := fun v => by
      rw [xk_up_a (by decide), xm_sh_a (by decide)]
      first | exact hF.1.2.2.2.2.1 | exact (xk_up_k (by decide)).trans hF.1.2.2.2.2.1
    refine xk_aload_n (pc := 60) d_M_operate_60 rfl ?_
    refine xk_getRo (pc := 61) d_M_operate_61 fl_M_68 (by first | rfl | assumption) rfl (by omega) (by omega) (hS _ _ _ rfl (by omega)) ?_
    refine xk_iconst (pc := 64) (v := nI 0) d_M_operate_64 (by decide) ?_
    refine xk_iload_n (pc := 65) d_M_operate_65 rfl ?_
    refine xk_bipush (pc := 66) (v := nI 8) d_M_operate_66 (by decide) ?_
    refine xk_iload_n (pc := 68) d_M_operate_68 rfl ?_
    first | refine xk_imulN (pc := 69) d_M_operate_69 ?_ | refine xk_imul (pc := 69) d_M_operate_69 ?_
    first | refine xk_iaddN (pc := 70) d_M_operate_70 ?_ | refine xk_iadd (pc := 70) d_M_operate_70 ?_
    refine xk_bipush (pc := 71) (v := nI 64) d_M_operate_71 (by decide) ?_
    refine xk_iload_n (pc := 73) d_M_operate_73 rfl ?_
    first | refine xk_imulN (pc := 74) d_M_operate_74 ?_ | refine xk_imul (pc := 74) d_M_operate_74 ?_
    first | refine xk_iaddN (pc := 75) d_M_operate_75 ?_ | refine xk_iadd (pc := 75) d_M_operate_75 ?_
    refine xk_iload (pc := 76) d_M_operate_76 rfl ?_
    refine xk_if_eq (pc := 78) (tgt := 87) d_M_operate_78 rfl (fun h => absurd h (by decide)) (fun _ => ?_)
    refine xk_sipush (pc := 81) (v := nI 256) d_M_operate_81 (by decide) ?_
    refine xk_goto (pc := 84) (tgt := 88) d_M_operate_84 rfl ?_
    first | refine xk_iaddN (pc := 88) d_M_operate_88 ?_ | refine xk_iadd (pc := 88) d_M_operate_88 ?_
    refine xk_iastore (pc := 89) d_M_operate_89 (by first | rfl | assumption) (by omega) (by omega) rfl (by omega) (by decide) ?_
    refine xk_aload_n (pc := 90) d_M_operate_90 rfl ?_
    refine xk_dup (pc := 91) d_M_operate_91 ?_
    refine xk_getIo (pc := 92) d_M_operate_92 fl_M_92 (by first | rfl | assumption) rfl (by omega) (by omega) (hops1 _) ?_
    refine xk_iconst (pc := 95) (v := nI 1) d_M_operate_95 (by decide) ?_
    first | refine xk_iaddN (pc := 96) d_M_operate_96 ?_ | refine xk_iadd (pc := 96) d_M_operate_96 ?_
    refine xk_putI (pc := 97) d_M_operate_97 fl_M_92 (by first | rfl | assumption) rfl (fun q hq h => by cases hq; first | exact absurd h (by decide) | exact ⟨rfl, rfl, rfl⟩) ⟨rfl, rfl⟩ (by omega) (by omega) ?_
    refine xk_iload (pc := 100) d_M_operate_100 rfl ?_
    refine xk_if_ne (pc := 102) (tgt := 109) d_M_operate_102 rfl (fun _ => ?_) (fun h => absurd h (by decide))
    refine xk_iconst (pc := 109) (v := nI 0) d_M_operate_109 (by decide) ?_
    refine xk_zret (pc := 110) rfl d_M_operate_110 rfl rfl (Nat.le_of_ble_eq_true rfl) (Nat.le_of_ble_eq_true rfl) ?_
    refine h0 c_5 _ ⟨xm_H_op hF.1 ?_ ?_ ?_ ?_ ?_ ?_, xm_L_kept hF.2.1 ?_, xm_C_kept hF.2.2 ?_ ?_ ?_ ?_⟩ (fun a ha => ?_)
    · simp [xk_up_r, xm_sh_a]
    · simp [xk_up_r, xm_sh_a]
    · simp [xk_up_r, xm_sh_a]
    · intro j hj
      by_cases e : j = 0
      · subst e; rw [if_pos rfl, xk_up_a (by decide), xk_up_s]; first | rw [if_pos c_5] | rw [if_neg c_5]
      · rw [if_neg e, xk_up_a (by decide), xk_up_k e]
        unfold xm_sh
        rw [if_pos (by omega)]
        all_goals (first | rfl | exact xk_up_a (by decide))
    · exact xk_up_s
    · rw [xk_up_k (by decide), xk_up_a (by decide), xm_sh_a (by decide)]
      first | exact xk_up_s | (rw [hF.1.2.2.2.2.2, c_5])
    · simp [xk_up_r, xm_sh_a]
    · rw [xk_up_k (by decide), xk_up_a (by decide), xm_sh_a (by decide)]
      all_goals (first | rfl | exact xk_up_k (by decide))
    · simp [xk_up_r, xm_sh_a]
    · simp [xk_up_r, xm_sh_a]
    · simp [xk_up_r, xm_sh_a]
    · have e1 : a ≠ 53 := by omega
      have e2 : a ≠ 73 := by omega
      simp [xk_up_r, xm_sh_a, e1, e2]

theorem xm_H_clear {h : xs_H} {m : xk_M} {f : Nat} (hR : xm_H h m) : xm_H (xs_clear h f) (xk_fill (xk_up m 55 f (nI 0)) 56 (32 * f) (32 * f + 32) (nI 0)) := by
  obtain ⟨r1, r2, r3, r4, r5, r6⟩ := hR
  refine ⟨fun g hg => ?_, fun g hg => ?_, fun g i hg hi => ?_, fun j hj hj2 => ?_, ?_, ?_⟩
  · rw [xk_fill_a (by decide), xk_up_a (by decide)]; exact r1 g hg
  · rw [xk_fill_a (by decide)]
    exact xm_nu (v := 0) r2 g hg
  · show _ = xs_u h.2.2.1 f (fun _ => 0) g i
    unfold xk_fill
    by_cases e : g = f
    · subst e; rw [if_pos ⟨rfl, by omega, by omega⟩, xs_u_s]; rfl
    · rw [if_neg (by omega), xk_up_a (by decide), xs_u_n e]; exact r3 g i hg hi
  · rw [xk_fill_a (by decide), xk_up_a (by decide)]; exact r4 j hj hj2
  · rw [xk_fill_a (by decide), xk_up_a (by decide)]; exact r5
  · rw [xk_fill_a (by decide), xk_up_a (by decide)]; exact r6
theorem xm_H_there {h : xs_H} {m : xk_M} {f : Nat} {b : Bool} (hR : xm_H h m) : xm_H (xs_there h f b) (xk_up m 54 f (xs_bi b)) := by
  obtain ⟨r1, r2, r3, r4, r5, r6⟩ := hR
  refine ⟨fun g hg => ?_, fun g hg => ?_, fun g i hg hi => ?_, fun j hj hj2 => ?_, ?_, ?_⟩
  · exact xm_bu r1 g hg
  · rw [xk_up_a (by decide)]; exact r2 g hg
  · rw [xk_up_a (by decide)]; exact r3 g i hg hi
  · rw [xk_up_a (by decide)]; exact r4 j hj hj2
  · rw [xk_up_a (by decide)]; exact r5
  · rw [xk_up_a (by decide)]; exact r6
theorem xm_F_H {F : xs_F} {h : xs_H} {m m' : xk_M} (hF : xm_F F m) (hH : xm_H h m') (h1 : m' 57 = m 57) (h2 : m' 53 8 = m 53 8) (h3 : m' 59 = m 59) (h4 : m' 60 = m 60) (h5 : m' 61 = m 61) : xm_F (h, F.2) m' := ⟨hH, xm_L_kept hF.2.1 h1, xm_C_kept hF.2.2 h2 h3 h4 h5⟩
theorem xm_F_len {F : xs_F} {m : xk_M} {f l : Nat} (h : xm_F F m) : xm_F (xs_len F f l) (xk_up m 57 f (nI l)) := ⟨xm_H_kept h.1 (xk_up_r (by decide)) (xk_up_r (by decide)) (xk_up_r (by decide)) (xk_up_r (by decide)) (xk_up_a (by decide)) (xk_up_a (by decide)), xm_nu h.2.1, xm_C_kept h.2.2 (xk_up_a (by decide)) (xk_up_r (by decide)) (xk_up_r (by decide)) (xk_up_r (by decide))⟩

set_option maxRecDepth 20000 in
set_option maxHeartbeats 4000000 in
theorem l_mwipe {E : xk_E} {n : Nat} {r : xk_P} {Q : xk_Q} {m : xk_M} {f : Nat} (hn : 74 ≤ n) (hS : xr_S r n) (hf : f < 8) (hQ : Q none n (xk_fill m 56 (32 * f) (32 * f + 32) (nI 0)) r) : ∀ (k : Nat) (i : Nat), 32 - i < k → i ≤ 32 → xk_W E m_M_wipeHost 9 [some (.inr (some 53)), some (.inl (nI f)), some (.inl (nI i))] [] n (xk_fill m 56 (32 * f) (32 * f + i) (nI 0)) r 0 0 Q := by
  intro k
  induction k with
  | zero => intro i h; exact absurd h (Nat.not_lt_zero _)
  | succ k ih =>
    intro i hk hi
    refine xk_iload_n (pc := 9) d_M_wipeHost_9 rfl ?_
    refine xk_bipush (pc := 10) (v := nI 32) d_M_wipeHost_10 (by decide) ?_
    first | refine xk_icmp_geN (pc := 12) (tgt := 33) d_M_wipeHost_12 rfl (by omega) (by omega) (fun c_12 => ?_) (fun c_12 => ?_) | refine xk_icmp_ge (pc := 12) (tgt := 33) d_M_wipeHost_12 rfl (fun c_12 => ?_) (fun c_12 => ?_)
    · have e : i = 32 := by omega
      subst e
      refine xk_vret (pc := 33) rfl d_M_wipeHost_33 rfl (Nat.le_of_ble_eq_true rfl) (Nat.le_of_ble_eq_true rfl) ?_
      exact hQ
    · refine xk_aload_n (pc := 15) d_M_wipeHost_15 rfl ?_
      refine xk_getRo (pc := 16) d_M_wipeHost_16 fl_M_17 (by first | rfl | assumption) rfl (by omega) (by omega) (hS _ _ _ rfl (by omega)) ?_
      refine xk_bipush (pc := 19) (v := nI 32) d_M_wipeHost_19 (by decide) ?_
      refine xk_iload_n (pc := 21) d_M_wipeHost_21 rfl ?_
      first | refine xk_imulN (pc := 22) d_M_wipeHost_22 ?_ | refine xk_imul (pc := 22) d_M_wipeHost_22 ?_
      refine xk_iload_n (pc := 23) d_M_wipeHost_23 rfl ?_
      first | refine xk_iaddN (pc := 24) d_M_wipeHost_24 ?_ | refine xk_iadd (pc := 24) d_M_wipeHost_24 ?_
      refine xk_iconst (pc := 25) (v := nI 0) d_M_wipeHost_25 (by decide) ?_
      refine xk_iastore (pc := 26) d_M_wipeHost_26 (by first | rfl | assumption) (by omega) (by omega) rfl (by omega) (by decide) ?_
      rw [xk_fill_s (by omega), Nat.add_assoc]
      refine xk_iincN (pc := 27) (d := 1) d_M_wipeHost_27 rfl ?_
      refine xk_goto (pc := 30) (tgt := 9) d_M_wipeHost_30 rfl ?_
      exact ih (i + 1) (by omega) (by omega)

set_option maxRecDepth 20000 in
set_option maxHeartbeats 4000000 in
theorem c_M_wipeHost {E : xk_E} {n : Nat} {m : xk_M} {r : xk_P} {Q : xk_Q} (hn : 74 ≤ n) (hS : xr_S r n) {F : xs_F} (hF : xm_F F m) {f : Nat} (hf : f < 8) (hQ : ∀ m', xm_F (xs_clear F.1 f, F.2) m' → xm_fF m m' → Q none n m' r) : xk_W E m_M_wipeHost 0 (xk_ent m_M_wipeHost [.inr (some 53), .inl (nI f)]) [] n m r 0 0 Q := by
  show xk_W E m_M_wipeHost 0 [some (.inr (some 53)), some (.inl (nI f)), none] [] n m r 0 0 Q
  refine xk_aload_n (pc := 0) d_M_wipeHost_0 rfl ?_
  refine xk_getRo (pc := 1) d_M_wipeHost_1 fl_M_13 (by first | rfl | assumption) rfl (by omega) (by omega) (hS _ _ _ rfl (by omega)) ?_
  refine xk_iload_n (pc := 4) d_M_wipeHost_4 rfl ?_
  refine xk_iconst (pc := 5) (v := nI 0) d_M_wipeHost_5 (by decide) ?_
  refine xk_iastore (pc := 6) d_M_wipeHost_6 (by first | rfl | assumption) (by omega) (by omega) rfl (by omega) (by decide) ?_
  refine xk_iconst (pc := 7) (v := nI 0) d_M_wipeHost_7 (by decide) ?_
  refine xk_istore_n (pc := 8) d_M_wipeHost_8 (by decide) ?_
  have K := l_mwipe (E := E) (m := xk_up m 55 f (nI 0)) hn hS hf (hQ _ (xm_F_H hF (xm_H_clear hF.1) (by simp [xk_fill_a, xk_up_r]) (by simp [xk_fill_a, xk_up_r]) (by simp [xk_fill_a, xk_up_r]) (by simp [xk_fill_a, xk_up_r]) (by simp [xk_fill_a, xk_up_r])) (fun a ha => by rw [xk_fill_a (by omega), xk_up_r (by omega)])) 33 0 (by omega) (by omega)
  rw [Nat.add_zero, xk_fill_0] at K
  exact K

def xm_E (x : xs_B) (j : Nat) (m : xk_M) : Prop := m 59 j = nI (x.1 + 8 * x.2.1) ∧ m 60 j = xs_bi x.2.2.1 ∧ ∀ k, k < 8 → m 61 (8 * j + k) = x.2.2.2 k
theorem xm_fe : ∀ f, f < 8 → ∀ b, b < 4 → (nI (f + 8 * b) &&& nI 7 = nI f ∧ nI (f + 8 * b) >>> (nI 3 &&& 31) = nI b) := by decide
theorem xk_fn_n {m : xk_M} {a p i c j : Nat} {g : Nat → Int32} (h : ¬ (p ≤ j ∧ j < p + i)) : xk_fn m a p i g c j = m c j := by
  unfold xk_fn
  rw [if_neg (fun q => h q.2)]
theorem xk_fn_p {m : xk_M} {a p i k : Nat} {g : Nat → Int32} (h : k < i) : xk_fn m a p i g a (p + k) = g k := by
  unfold xk_fn
  rw [if_pos (by omega), Nat.add_sub_cancel_left]
theorem xk_fn_w {m : xk_M} {a p i q : Nat} {g : Nat → Int32} {v : Int32} (h : q = p + i) (hv : v = g i) : xk_up (xk_fn m a p i g) a q v = xk_fn m a p (i + 1) g := by
  subst hv
  exact xk_fn_s h
/-- a block's cells, copied to an earlier place -/
def xm_cp (M : xk_M) (c i : Nat) : xk_M := xk_fn (xk_up (xk_up M 59 c (M 59 i)) 60 c (M 60 i)) 61 (8 * c) 8 (fun k => M 61 (8 * i + k))
theorem xm_cp_fr {M : xk_M} {c i a : Nat} (h1 : a ≠ 59) (h2 : a ≠ 60) (h3 : a ≠ 61) : xm_cp M c i a = M a := by
  unfold xm_cp
  rw [xk_fn_r h3, xk_up_r h2, xk_up_r h1]
theorem xm_cp_n {M : xk_M} {c i j : Nat} {x : xs_B} (h : j ≠ c) (hx : xm_E x j M) : xm_E x j (xm_cp M c i) := by
  unfold xm_cp
  refine ⟨by rw [xk_fn_a (by decide), xk_up_a (by decide), xk_up_k h]; exact hx.1, by rw [xk_fn_a (by decide), xk_up_k h, xk_up_a (by decide)]; exact hx.2.1, fun k hk => ?_⟩
  rw [xk_fn_n (by omega), xk_up_a (by decide), xk_up_a (by decide)]
  exact hx.2.2 k hk
theorem xm_cp_s {M : xk_M} {c i : Nat} {x : xs_B} (hx : xm_E x i M) : xm_E x c (xm_cp M c i) := by
  unfold xm_cp
  refine ⟨by rw [xk_fn_a (by decide), xk_up_a (by decide), xk_up_s]; exact hx.1, by rw [xk_fn_a (by decide), xk_up_s]; exact hx.2.1, fun k hk => ?_⟩
  rw [xk_fn_p hk]
  exact hx.2.2 k hk
theorem xs_take_f {l : List xs_B} {i f : Nat} {x : xs_B} (hx : l[i]? = some x) : (l.take (i + 1)).filter (fun x => decide (x.1 ≠ f)) = (l.take i).filter (fun x => decide (x.1 ≠ f)) ++ (if x.1 = f then [] else [x]) := by
  rw [List.take_add_one, List.filter_append, hx]
  congr 1
  by_cases e : x.1 = f
  · rw [if_pos e]
    exact List.filter_cons_of_neg (by simp [e])
  · rw [if_neg e]
    exact List.filter_cons_of_pos (by simp [e])

set_option maxRecDepth 20000 in
set_option maxHeartbeats 4000000 in
theorem l_mfcell {E : xk_E} {n : Nat} {r : xk_P} {Q : xk_Q} {m : xk_M} {c i : Nat} {v1 : Option xk_V} (hn : 74 ≤ n) (hS : xr_S r n) (hc : c ≤ i) (hi : i < 5) (hK : xk_W E m_M_forget 92 [some (.inr (some 53)), v1, some (.inl (nI c)), some (.inl (nI i)), some (.inl (nI 8))] [] n (xk_fn m 61 (8 * c) 8 (fun k => m 61 (8 * i + k))) r 0 0 Q) : ∀ (k : Nat) (j : Nat), 8 - j < k → j ≤ 8 → xk_W E m_M_forget 55 [some (.inr (some 53)), v1, some (.inl (nI c)), some (.inl (nI i)), some (.inl (nI j))] [] n (xk_fn m 61 (8 * c) j (fun k => m 61 (8 * i + k))) r 0 0 Q := by
  intro k
  induction k with
  | zero => intro j h; exact absurd h (Nat.not_lt_zero _)
  | succ k ih =>
    intro j hk hj
    refine xk_iload (pc := 55) d_M_forget_55 rfl ?_
    refine xk_bipush (pc := 57) (v := nI 8) d_M_forget_57 (by decide) ?_
    first | refine xk_icmp_geN (pc := 59) (tgt := 92) d_M_forget_59 rfl (by omega) (by omega) (fun c_59 => ?_) (fun c_59 => ?_) | refine xk_icmp_ge (pc := 59) (tgt := 92) d_M_forget_59 rfl (fun c_59 => ?_) (fun c_59 => ?_)
    · have e : j = 8 := by omega
      subst e
      exact hK
    · refine xk_aload_n (pc := 62) d_M_forget_62 rfl ?_
      refine xk_getRo (pc := 63) d_M_forget_63 fl_M_32 (by first | rfl | assumption) rfl (by omega) (by omega) (hS _ _ _ rfl (by omega)) ?_
      refine xk_bipush (pc := 66) (v := nI 8) d_M_forget_66 (by decide) ?_
      refine xk_iload_n (pc := 68) d_M_forget_68 rfl ?_
      first | refine xk_imulN (pc := 69) d_M_forget_69 ?_ | refine xk_imul (pc := 69) d_M_forget_69 ?_
      refine xk_iload (pc := 70) d_M_forget_70 rfl ?_
      first | refine xk_iaddN (pc := 72) d_M_forget_72 ?_ | refine xk_iadd (pc := 72) d_M_forget_72 ?_
      refine xk_aload_n (pc := 73) d_M_forget_73 rfl ?_
      refine xk_getRo (pc := 74) d_M_forget_74 fl_M_32 (by first | rfl | assumption) rfl (by omega) (by omega) (hS _ _ _ rfl (by omega)) ?_
      refine xk_bipush (pc := 77) (v := nI 8) d_M_forget_77 (by decide) ?_
      refine xk_iload_n (pc := 79) d_M_forget_79 rfl ?_
      first | refine xk_imulN (pc := 80) d_M_forget_80 ?_ | refine xk_imul (pc := 80) d_M_forget_80 ?_
      refine xk_iload (pc := 81) d_M_forget_81 rfl ?_
      first | refine xk_iaddN (pc := 83) d_M_forget_83 ?_ | refine xk_iadd (pc := 83) d_M_forget_83 ?_
      refine xk_ialoado (pc := 84) d_M_forget_84 (by first | rfl | assumption) (by omega) (by omega) rfl (by omega) (by decide) (xk_fn_n (by omega)) ?_
      refine xk_iastore (pc := 85) d_M_forget_85 (by first | rfl | assumption) (by omega) (by omega) rfl (by omega) (by decide) ?_
      rw [xk_fn_s (g := fun k => m 61 (8 * i + k)) rfl]
      refine xk_iincN (pc := 86) (d := 1) d_M_forget_86 rfl ?_
      refine xk_goto (pc := 89) (tgt := 55) d_M_forget_89 rfl ?_
      exact ih (j + 1) (by omega) (by omega)

set_option maxRecDepth 20000 in
set_option maxHeartbeats 4000000 in
theorem l_mforget {E : xk_E} {n : Nat} {r : xk_P} {Q : xk_Q} {m : xk_M} {F : xs_F} {f : Nat} (hn : 74 ≤ n) (hS : xr_S r n) (hF : xm_F F m) (hok : ∀ (i : Nat) (x : xs_B), F.2.2[i]? = some x → x.1 < 8 ∧ x.2.1 < 4) (hf : f < 8) (hQ : ∀ m', xm_F (xs_drop F f) m' → xm_fF m m' → Q none n m' r) : ∀ (k : Nat) (i : Nat) (c : Nat) (M : xk_M) (v4 : Option xk_V), F.2.2.length - i < k → i ≤ F.2.2.length → c = ((F.2.2.take i).filter (fun x => decide (x.1 ≠ f))).length → (∀ (j : Nat) (x : xs_B), ((F.2.2.take i).filter (fun x => decide (x.1 ≠ f)))[j]? = some x → xm_E x j M) → (∀ (j : Nat) (x : xs_B), i ≤ j → F.2.2[j]? = some x → xm_E x j M) → (∀ a, a ≠ 59 → a ≠ 60 → a ≠ 61 → M a = m a) → xk_W E m_M_forget 4 [some (.inr (some 53)), some (.inl (nI f)), some (.inl (nI c)), some (.inl (nI i)), v4] [] n M r 0 0 Q := by
  intro k
  induction k with
  | zero => intro i c M v4 h; exact absurd h (Nat.not_lt_zero _)
  | succ k ih =>
    intro i c M v4 hk hi hc h1 h2 hM
    have hl5 := hF.2.2.2.1
    refine xk_iload_n (pc := 4) d_M_forget_4 rfl ?_
    refine xk_aload_n (pc := 5) d_M_forget_5 rfl ?_
    refine xk_getIo (pc := 6) d_M_forget_6 fl_M_74 (by first | rfl | assumption) rfl (by omega) (by omega) ((congrFun (hM 53 (by decide) (by decide) (by decide)) 8).trans hF.2.2.1) ?_
    first | refine xk_icmp_geN (pc := 9) (tgt := 101) d_M_forget_9 rfl (by omega) (by omega) (fun c_9 => ?_) (fun c_9 => ?_) | refine xk_icmp_ge (pc := 9) (tgt := 101) d_M_forget_9 rfl (fun c_9 => ?_) (fun c_9 => ?_)
    · have e : i = F.2.2.length := by omega
      subst e
      refine xk_aload_n (pc := 101) d_M_forget_101 rfl ?_
      refine xk_iload_n (pc := 102) d_M_forget_102 rfl ?_
      refine xk_putI (pc := 103) d_M_forget_103 fl_M_74 (by first | rfl | assumption) rfl (fun q hq h => by cases hq; first | exact absurd h (by decide) | exact ⟨rfl, rfl, rfl⟩) ⟨rfl, rfl⟩ (by omega) (by omega) ?_
      refine xk_vret (pc := 106) rfl d_M_forget_106 rfl (Nat.le_of_ble_eq_true rfl) (Nat.le_of_ble_eq_true rfl) ?_
      rw [List.take_length] at h1 hc
      refine hQ _ ⟨xm_H_kept hF.1 ?_ ?_ ?_ ?_ ?_ ?_, xm_L_kept hF.2.1 ?_, ⟨by rw [xk_up_s, hc]; rfl, Nat.le_trans (List.length_filter_le _ _) hF.2.2.2.1, fun j y hy => ?_⟩⟩ (fun a ha => ?_)
      · rw [xk_up_r (by decide), hM _ (by decide) (by decide) (by decide)]
      · rw [xk_up_r (by decide), hM _ (by decide) (by decide) (by decide)]
      · rw [xk_up_r (by decide), hM _ (by decide) (by decide) (by decide)]
      · rw [xk_up_r (by decide), hM _ (by decide) (by decide) (by decide)]
      · rw [xk_up_k (by decide), hM _ (by decide) (by decide) (by decide)]
      · rw [xk_up_k (by decide), hM _ (by decide) (by decide) (by decide)]
      · rw [xk_up_r (by decide), hM _ (by decide) (by decide) (by decide)]
      · obtain ⟨g0, g1, g2⟩ := h1 j y hy
        exact ⟨by rw [xk_up_a (by decide)]; exact g0, by rw [xk_up_a (by decide)]; exact g1, fun k hk => by rw [xk_up_a (by decide)]; exact g2 k hk⟩
      · rw [xk_up_r (by omega), hM _ (by omega) (by omega) (by omega)]
    · have hi5 : i < 5 := by omega
      obtain ⟨x, hx⟩ := xs_get_lt c_9
      obtain ⟨g0, g1, g2⟩ := h2 i x (Nat.le_refl _) hx
      obtain ⟨x1, x2⟩ := hok i x hx
      have hcl : c ≤ i := by
        rw [hc]
        refine Nat.le_trans (List.length_filter_le _ _) ?_
        rw [List.length_take]
        omega
      have ht := xs_take_f (f := f) hx
      refine xk_aload_n (pc := 12) d_M_forget_12 rfl ?_
      refine xk_getRo (pc := 13) d_M_forget_13 fl_M_26 (by first | rfl | assumption) rfl (by omega) (by omega) (hS _ _ _ rfl (by omega)) ?_
      refine xk_iload_n (pc := 16) d_M_forget_16 rfl ?_
      refine xk_ialoado (pc := 17) d_M_forget_17 (by first | rfl | assumption) (by omega) (by omega) rfl (by omega) (by decide) g0 ?_
      refine xk_bipush (pc := 18) (v := nI 7) d_M_forget_18 (by decide) ?_
      refine xk_iand (pc := 20) d_M_forget_20 ?_
      rw [(xm_fe x.1 x1 x.2.1 x2).1]
      refine xk_iload_n (pc := 21) d_M_forget_21 rfl ?_
      first | refine xk_icmp_neN (pc := 22) (tgt := 28) d_M_forget_22 rfl (by omega) (by omega) (fun c_22 => ?_) (fun c_22 => ?_) | refine xk_icmp_ne (pc := 22) (tgt := 28) d_M_forget_22 rfl (fun c_22 => ?_) (fun c_22 => ?_)
      · refine xk_aload_n (pc := 28) d_M_forget_28 rfl ?_
        refine xk_getRo (pc := 29) d_M_forget_29 fl_M_26 (by first | rfl | assumption) rfl (by omega) (by omega) (hS _ _ _ rfl (by omega)) ?_
        refine xk_iload_n (pc := 32) d_M_forget_32 rfl ?_
        refine xk_aload_n (pc := 33) d_M_forget_33 rfl ?_
        refine xk_getRo (pc := 34) d_M_forget_34 fl_M_26 (by first | rfl | assumption) rfl (by omega) (by omega) (hS _ _ _ rfl (by omega)) ?_
        refine xk_iload_n (pc := 37) d_M_forget_37 rfl ?_
        refine xk_ialoado (pc := 38) d_M_forget_38 (by first | rfl | assumption) (by omega) (by omega) rfl (by omega) (by decide) rfl ?_
        refine xk_iastore (pc := 39) d_M_forget_39 (by first | rfl | assumption) (by omega) (by omega) rfl (by omega) (by decide) ?_
        refine xk_aload_n (pc := 40) d_M_forget_40 rfl ?_
        refine xk_getRo (pc := 41) d_M_forget_41 fl_M_29 (by first | rfl | assumption) rfl (by omega) (by omega) (hS _ _ _ rfl (by omega)) ?_
        refine xk_iload_n (pc := 44) d_M_forget_44 rfl ?_
        refine xk_aload_n (pc := 45) d_M_forget_45 rfl ?_
        refine xk_getRo (pc := 46) d_M_forget_46 fl_M_29 (by first | rfl | assumption) rfl (by omega) (by omega) (hS _ _ _ rfl (by omega)) ?_
        refine xk_iload_n (pc := 49) d_M_forget_49 rfl ?_
        refine xk_baloado (pc := 50) d_M_forget_50 (by first | rfl | assumption) (by omega) (by omega) rfl (by omega) (by decide) rfl ?_
        refine xk_bastore (pc := 51) d_M_forget_51 (by first | rfl | assumption) (by omega) (by omega) rfl (by omega) (by decide) (by rw [xk_up_a (by decide), g1]; exact xs_bi_b _) ?_
        refine xk_iconst (pc := 52) (v := nI 0) d_M_forget_52 (by decide) ?_
        refine xk_istore (pc := 53) d_M_forget_53 (by decide) ?_
        suffices HH : xk_W E m_M_forget 92 [some (.inr (some 53)), some (.inl (nI f)), some (.inl (nI c)), some (.inl (nI i)), some (.inl (nI 8))] [] n (xm_cp M c i) r 0 0 Q by
          have K := l_mfcell (E := E) (Q := Q) (v1 := some (.inl (nI f))) (m := xk_up (xk_up M 59 c (M 59 i)) 60 c (M 60 i)) hn hS hcl hi5 (by
            have e : (fun k => xk_up (xk_up M 59 c (M 59 i)) 60 c (M 60 i) 61 (8 * i + k)) = fun k => M 61 (8 * i + k) := by
              funext k; rw [xk_up_a (by decide), xk_up_a (by decide)]
            rw [e]
            exact HH) 9 0 (by omega) (by omega)
          rw [xk_fn_0] at K
          exact K
        refine xk_iincN (pc := 92) (d := 1) d_M_forget_92 rfl ?_
        refine xk_iincN (pc := 95) (d := 1) d_M_forget_95 rfl ?_
        refine xk_goto (pc := 98) (tgt := 4) d_M_forget_98 rfl ?_
        first
          | exact ih (i + 1) c M _ (by omega) (by omega) (by rw [ht, if_pos c_22, List.append_nil]; exact hc) (fun j y hy => h1 j y (by rw [ht, if_pos c_22, List.append_nil] at hy; exact hy)) (fun j y hj hy => h2 j y (by omega) hy) hM
          | exact ih (i + 1) (c + 1) _ _ (by omega) (by omega) (by rw [ht, if_neg c_22, List.length_append, ← hc]; rfl) (fun j y hy => by
              rw [ht, if_neg c_22] at hy
              by_cases e : j < c
              · rw [List.getElem?_append_left (by omega)] at hy
                exact xm_cp_n (by omega) (h1 j y hy)
              · rw [List.getElem?_append_right (by omega)] at hy
                have hl := xs_lt hy
                change _ < 1 at hl
                have e2 : j = c := by omega
                subst e2
                rw [show j - ((List.take i F.2.2).filter (fun x => decide (x.1 ≠ f))).length = 0 by omega] at hy
                cases hy
                exact xm_cp_s (h2 i _ (Nat.le_refl _) hx)) (fun j y hj hy => xm_cp_n (by omega) (h2 j y (by omega) hy)) (fun a a1 a2 a3 => (xm_cp_fr a1 a2 a3).trans (hM a a1 a2 a3))
      · refine xk_goto (pc := 25) (tgt := 95) d_M_forget_25 rfl ?_
        refine xk_iincN (pc := 95) (d := 1) d_M_forget_95 rfl ?_
        refine xk_goto (pc := 98) (tgt := 4) d_M_forget_98 rfl ?_
        first
          | exact ih (i + 1) c M _ (by omega) (by omega) (by rw [ht, if_pos c_22, List.append_nil]; exact hc) (fun j y hy => h1 j y (by rw [ht, if_pos c_22, List.append_nil] at hy; exact hy)) (fun j y hj hy => h2 j y (by omega) hy) hM
          | exact ih (i + 1) (c + 1) _ _ (by omega) (by omega) (by rw [ht, if_neg c_22, List.length_append, ← hc]; rfl) (fun j y hy => by
              rw [ht, if_neg c_22] at hy
              by_cases e : j < c
              · rw [List.getElem?_append_left (by omega)] at hy
                exact xm_cp_n (by omega) (h1 j y hy)
              · rw [List.getElem?_append_right (by omega)] at hy
                have hl := xs_lt hy
                change _ < 1 at hl
                have e2 : j = c := by omega
                subst e2
                rw [show j - ((List.take i F.2.2).filter (fun x => decide (x.1 ≠ f))).length = 0 by omega] at hy
                cases hy
                exact xm_cp_s (h2 i _ (Nat.le_refl _) hx)) (fun j y hj hy => xm_cp_n (by omega) (h2 j y (by omega) hy)) (fun a a1 a2 a3 => (xm_cp_fr a1 a2 a3).trans (hM a a1 a2 a3))

set_option maxRecDepth 20000 in
set_option maxHeartbeats 4000000 in
theorem c_M_forget {E : xk_E} {n : Nat} {m : xk_M} {r : xk_P} {Q : xk_Q} (hn : 74 ≤ n) (hS : xr_S r n) {F : xs_F} (hF : xm_F F m) (hok : ∀ (i : Nat) (x : xs_B), F.2.2[i]? = some x → x.1 < 8 ∧ x.2.1 < 4) {f : Nat} (hf : f < 8) (hQ : ∀ m', xm_F (xs_drop F f) m' → xm_fF m m' → Q none n m' r) : xk_W E m_M_forget 0 (xk_ent m_M_forget [.inr (some 53), .inl (nI f)]) [] n m r 0 0 Q := by
  show xk_W E m_M_forget 0 [some (.inr (some 53)), some (.inl (nI f)), none, none, none] [] n m r 0 0 Q
  refine xk_iconst (pc := 0) (v := nI 0) d_M_forget_0 (by decide) ?_
  refine xk_istore_n (pc := 1) d_M_forget_1 (by decide) ?_
  refine xk_iconst (pc := 2) (v := nI 0) d_M_forget_2 (by decide) ?_
  refine xk_istore_n (pc := 3) d_M_forget_3 (by decide) ?_
  exact l_mforget hn hS hF hok hf hQ (F.2.2.length + 1) 0 0 m none (by omega) (by omega) (by rw [List.take_zero]; rfl) (fun j y hy => by rw [List.take_zero] at hy; simp at hy) (fun j y _ hy => hF.2.2.2.2 j y hy) (fun _ _ _ _ => rfl)
