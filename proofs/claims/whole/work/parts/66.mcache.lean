theorem xm_w56 {M m : xk_M} {f b i ln q : Nat} {g : Nat → Int32} {v : Int32} (hb : 8 * b < ln) (hi : 8 * b + i < ln) (hv : v = g i) (h : ∀ q, M 56 q = if 32 * f + 8 * b ≤ q ∧ q < 32 * f + min (8 * b + i) ln then g (q - (32 * f + 8 * b)) else m 56 q) : xk_up M 56 (32 * f + (8 * b + i)) v 56 q = if 32 * f + 8 * b ≤ q ∧ q < 32 * f + min (8 * b + (i + 1)) ln then g (q - (32 * f + 8 * b)) else m 56 q := by
  by_cases e : q = 32 * f + (8 * b + i)
  · subst e
    rw [xk_up_s, if_pos (by omega), hv]
    congr 1
    omega
  · rw [xk_up_k e, h q]
    by_cases e2 : 32 * f + 8 * b ≤ q ∧ q < 32 * f + min (8 * b + i) ln
    · rw [if_pos e2, if_pos (by omega)]
    · rw [if_neg e2, if_neg (show ¬ (32 * f + 8 * b ≤ q ∧ q < 32 * f + min (8 * b + (i + 1)) ln) by omega)]
theorem xm_w56n {M m : xk_M} {f b i ln q : Nat} {g : Nat → Int32} (hi : ¬ 8 * b + i < ln) (h : ∀ q, M 56 q = if 32 * f + 8 * b ≤ q ∧ q < 32 * f + min (8 * b + i) ln then g (q - (32 * f + 8 * b)) else m 56 q) : M 56 q = if 32 * f + 8 * b ≤ q ∧ q < 32 * f + min (8 * b + (i + 1)) ln then g (q - (32 * f + 8 * b)) else m 56 q := by
  rw [h q, show min (8 * b + i) ln = min (8 * b + (i + 1)) ln by omega]

set_option maxRecDepth 20000 in
set_option maxHeartbeats 4000000 in
theorem l_mwb {E : xk_E} {n : Nat} {r : xk_P} {Q : xk_Q} {m : xk_M} {f b e hl ln : Nat} {g : Nat → Int32} (hn : 74 ≤ n) (hS : xr_S r n) (hf : f < 8) (hb : b < 4) (he : e < 5) (hln : ln ≤ 32) (hhl : hl ≤ 32) (hbl : 8 * b < ln) (hL : m 57 f = nI ln) (hg : ∀ k, k < 8 → m 61 (8 * e + k) = g k) (hK : ∀ M v5, (∀ a, a ≠ 55 → a ≠ 56 → M a = m a) → (∀ q, q ≠ f → M 55 q = m 55 q) → M 55 f = nI (max hl (min (8 * b + 8) ln)) → (∀ q, M 56 q = if 32 * f + 8 * b ≤ q ∧ q < 32 * f + min (8 * b + 8) ln then g (q - (32 * f + 8 * b)) else m 56 q) → xk_W E m_M_writeBack 115 [some (.inr (some 53)), some (.inl (nI e)), some (.inl (nI f)), some (.inl (nI b)), some (.inl (nI 8)), v5] [] n M r 0 0 Q) : ∀ (k : Nat) (i : Nat) (hz : Nat) (M : xk_M) (v5 : Option xk_V), 8 - i < k → i ≤ 8 → (∀ a, a ≠ 55 → a ≠ 56 → M a = m a) → (∀ q, q ≠ f → M 55 q = m 55 q) → M 55 f = nI hz → (i = 0 → hz = hl) → (0 < i → hz = max hl (min (8 * b + i) ln)) → (∀ q, M 56 q = if 32 * f + 8 * b ≤ q ∧ q < 32 * f + min (8 * b + i) ln then g (q - (32 * f + 8 * b)) else m 56 q) → xk_W E m_M_writeBack 34 [some (.inr (some 53)), some (.inl (nI e)), some (.inl (nI f)), some (.inl (nI b)), some (.inl (nI i)), v5] [] n M r 0 0 Q := by
  intro k
  induction k with
  | zero => intro i hz M v5 h; exact absurd h (Nat.not_lt_zero _)
  | succ k ih =>
    intro i hz M v5 hk hi h1 h2 h3 h4 h5 h6
    have hz40 : hz ≤ 40 := by
      rcases Nat.eq_zero_or_pos i with z | z
      · have := h4 z; omega
      · have := h5 z; omega
    refine xk_iload (pc := 34) d_M_writeBack_34 rfl ?_
    refine xk_bipush (pc := 36) (v := nI 8) d_M_writeBack_36 (by decide) ?_
    first | refine xk_icmp_geN (pc := 38) (tgt := 115) d_M_writeBack_38 rfl (by omega) (by omega) (fun c_38 => ?_) (fun c_38 => ?_) | refine xk_icmp_ge (pc := 38) (tgt := 115) d_M_writeBack_38 rfl (fun c_38 => ?_) (fun c_38 => ?_)
    · have e8 : i = 8 := by omega
      subst e8
      have e9 := h5 (by omega)
      subst e9
      exact hK M v5 h1 h2 h3 h6
    · refine xk_bipush (pc := 41) (v := nI 8) d_M_writeBack_41 (by decide) ?_
      refine xk_iload_n (pc := 43) d_M_writeBack_43 rfl ?_
      first | refine xk_imulN (pc := 44) d_M_writeBack_44 ?_ | refine xk_imul (pc := 44) d_M_writeBack_44 ?_
      refine xk_iload (pc := 45) d_M_writeBack_45 rfl ?_
      first | refine xk_iaddN (pc := 47) d_M_writeBack_47 ?_ | refine xk_iadd (pc := 47) d_M_writeBack_47 ?_
      refine xk_istore (pc := 48) d_M_writeBack_48 (by decide) ?_
      refine xk_iload (pc := 50) d_M_writeBack_50 rfl ?_
      refine xk_aload_n (pc := 52) d_M_writeBack_52 rfl ?_
      refine xk_getRo (pc := 53) d_M_writeBack_53 fl_M_20 (by first | rfl | assumption) rfl (by omega) (by omega) (hS _ _ _ rfl (by omega)) ?_
      refine xk_iload_n (pc := 56) d_M_writeBack_56 rfl ?_
      refine xk_ialoado (pc := 57) d_M_writeBack_57 (by first | rfl | assumption) (by omega) (by omega) rfl (by omega) (by decide) ((congrFun (h1 57 (by decide) (by decide)) f).trans hL) ?_
      first | refine xk_icmp_ltN (pc := 58) (tgt := 64) d_M_writeBack_58 rfl (by omega) (by omega) (fun c_58 => ?_) (fun c_58 => ?_) | refine xk_icmp_lt (pc := 58) (tgt := 64) d_M_writeBack_58 rfl (fun c_58 => ?_) (fun c_58 => ?_)
      · refine xk_aload_n (pc := 64) d_M_writeBack_64 rfl ?_
        refine xk_getRo (pc := 65) d_M_writeBack_65 fl_M_17 (by first | rfl | assumption) rfl (by omega) (by omega) (hS _ _ _ rfl (by omega)) ?_
        refine xk_bipush (pc := 68) (v := nI 32) d_M_writeBack_68 (by decide) ?_
        refine xk_iload_n (pc := 70) d_M_writeBack_70 rfl ?_
        first | refine xk_imulN (pc := 71) d_M_writeBack_71 ?_ | refine xk_imul (pc := 71) d_M_writeBack_71 ?_
        refine xk_iload (pc := 72) d_M_writeBack_72 rfl ?_
        first | refine xk_iaddN (pc := 74) d_M_writeBack_74 ?_ | refine xk_iadd (pc := 74) d_M_writeBack_74 ?_
        refine xk_aload_n (pc := 75) d_M_writeBack_75 rfl ?_
        refine xk_getRo (pc := 76) d_M_writeBack_76 fl_M_32 (by first | rfl | assumption) rfl (by omega) (by omega) (hS _ _ _ rfl (by omega)) ?_
        refine xk_bipush (pc := 79) (v := nI 8) d_M_writeBack_79 (by decide) ?_
        refine xk_iload_n (pc := 81) d_M_writeBack_81 rfl ?_
        first | refine xk_imulN (pc := 82) d_M_writeBack_82 ?_ | refine xk_imul (pc := 82) d_M_writeBack_82 ?_
        refine xk_iload (pc := 83) d_M_writeBack_83 rfl ?_
        first | refine xk_iaddN (pc := 85) d_M_writeBack_85 ?_ | refine xk_iadd (pc := 85) d_M_writeBack_85 ?_
        refine xk_ialoado (pc := 86) d_M_writeBack_86 (by first | rfl | assumption) (by omega) (by omega) rfl (by omega) (by decide) ((congrFun (h1 61 (by decide) (by decide)) _).trans (hg i c_38)) ?_
        refine xk_iastore (pc := 87) d_M_writeBack_87 (by first | rfl | assumption) (by omega) (by omega) rfl (by omega) (by decide) ?_
        refine xk_aload_n (pc := 88) d_M_writeBack_88 rfl ?_
        refine xk_getRo (pc := 89) d_M_writeBack_89 fl_M_13 (by first | rfl | assumption) rfl (by omega) (by omega) (hS _ _ _ rfl (by omega)) ?_
        refine xk_iload_n (pc := 92) d_M_writeBack_92 rfl ?_
        refine xk_ialoado (pc := 93) d_M_writeBack_93 (by first | rfl | assumption) (by omega) (by omega) rfl (by omega) (by decide) ((xk_up_a (by decide)).trans h3) ?_
        refine xk_iload (pc := 94) d_M_writeBack_94 rfl ?_
        first | refine xk_icmp_gtN (pc := 96) (tgt := 109) d_M_writeBack_96 rfl (by omega) (by omega) (fun c_96 => ?_) (fun c_96 => ?_) | refine xk_icmp_gt (pc := 96) (tgt := 109) d_M_writeBack_96 rfl (fun c_96 => ?_) (fun c_96 => ?_)
        · refine xk_iincN (pc := 109) (d := 1) d_M_writeBack_109 rfl ?_
          refine xk_goto (pc := 112) (tgt := 34) d_M_writeBack_112 rfl ?_
          first
            | exact ih (i + 1) hz M _ (by omega) (by omega) h1 h2 h3 (fun z => by omega) (fun _ => by
                rcases Nat.eq_zero_or_pos i with z | z
                · omega
                · have := h5 z; omega) (fun q => xm_w56n (by omega) h6)
            | exact ih (i + 1) hz _ _ (by omega) (by omega) (fun a a1 a2 => by rw [xk_up_r a2]; exact h1 a a1 a2) (fun q hq => by rw [xk_up_a (by decide)]; exact h2 q hq) (by rw [xk_up_a (by decide)]; exact h3) (fun z => by omega) (fun _ => by
                rcases Nat.eq_zero_or_pos i with z | z
                · have := h4 z; omega
                · have := h5 z; omega) (fun q => xm_w56 hbl (by omega) rfl h6)
            | exact ih (i + 1) (8 * b + i + 1) _ _ (by omega) (by omega) (fun a a1 a2 => by rw [xk_up_r a1, xk_up_r a2]; exact h1 a a1 a2) (fun q hq => by rw [xk_up_k hq, xk_up_a (by decide)]; exact h2 q hq) xk_up_s (fun z => by omega) (fun _ => by
                rcases Nat.eq_zero_or_pos i with z | z
                · have := h4 z; omega
                · have := h5 z; omega) (fun q => by rw [xk_up_a (by decide)]; exact xm_w56 hbl (by omega) rfl h6)
        · refine xk_aload_n (pc := 99) d_M_writeBack_99 rfl ?_
          refine xk_getRo (pc := 100) d_M_writeBack_100 fl_M_13 (by first | rfl | assumption) rfl (by omega) (by omega) (hS _ _ _ rfl (by omega)) ?_
          refine xk_iload_n (pc := 103) d_M_writeBack_103 rfl ?_
          refine xk_iload (pc := 104) d_M_writeBack_104 rfl ?_
          refine xk_iconst (pc := 106) (v := nI 1) d_M_writeBack_106 (by decide) ?_
          first | refine xk_iaddN (pc := 107) d_M_writeBack_107 ?_ | refine xk_iadd (pc := 107) d_M_writeBack_107 ?_
          refine xk_iastore (pc := 108) d_M_writeBack_108 (by first | rfl | assumption) (by omega) (by omega) rfl (by omega) (by decide) ?_
          refine xk_iincN (pc := 109) (d := 1) d_M_writeBack_109 rfl ?_
          refine xk_goto (pc := 112) (tgt := 34) d_M_writeBack_112 rfl ?_
          first
            | exact ih (i + 1) hz M _ (by omega) (by omega) h1 h2 h3 (fun z => by omega) (fun _ => by
                rcases Nat.eq_zero_or_pos i with z | z
                · omega
                · have := h5 z; omega) (fun q => xm_w56n (by omega) h6)
            | exact ih (i + 1) hz _ _ (by omega) (by omega) (fun a a1 a2 => by rw [xk_up_r a2]; exact h1 a a1 a2) (fun q hq => by rw [xk_up_a (by decide)]; exact h2 q hq) (by rw [xk_up_a (by decide)]; exact h3) (fun z => by omega) (fun _ => by
                rcases Nat.eq_zero_or_pos i with z | z
                · have := h4 z; omega
                · have := h5 z; omega) (fun q => xm_w56 hbl (by omega) rfl h6)
            | exact ih (i + 1) (8 * b + i + 1) _ _ (by omega) (by omega) (fun a a1 a2 => by rw [xk_up_r a1, xk_up_r a2]; exact h1 a a1 a2) (fun q hq => by rw [xk_up_k hq, xk_up_a (by decide)]; exact h2 q hq) xk_up_s (fun z => by omega) (fun _ => by
                rcases Nat.eq_zero_or_pos i with z | z
                · have := h4 z; omega
                · have := h5 z; omega) (fun q => by rw [xk_up_a (by decide)]; exact xm_w56 hbl (by omega) rfl h6)
      · refine xk_goto (pc := 61) (tgt := 109) d_M_writeBack_61 rfl ?_
        refine xk_iincN (pc := 109) (d := 1) d_M_writeBack_109 rfl ?_
        refine xk_goto (pc := 112) (tgt := 34) d_M_writeBack_112 rfl ?_
        first
          | exact ih (i + 1) hz M _ (by omega) (by omega) h1 h2 h3 (fun z => by omega) (fun _ => by
              rcases Nat.eq_zero_or_pos i with z | z
              · omega
              · have := h5 z; omega) (fun q => xm_w56n (by omega) h6)
          | exact ih (i + 1) hz _ _ (by omega) (by omega) (fun a a1 a2 => by rw [xk_up_r a2]; exact h1 a a1 a2) (fun q hq => by rw [xk_up_a (by decide)]; exact h2 q hq) (by rw [xk_up_a (by decide)]; exact h3) (fun z => by omega) (fun _ => by
              rcases Nat.eq_zero_or_pos i with z | z
              · have := h4 z; omega
              · have := h5 z; omega) (fun q => xm_w56 hbl (by omega) rfl h6)
          | exact ih (i + 1) (8 * b + i + 1) _ _ (by omega) (by omega) (fun a a1 a2 => by rw [xk_up_r a1, xk_up_r a2]; exact h1 a a1 a2) (fun q hq => by rw [xk_up_k hq, xk_up_a (by decide)]; exact h2 q hq) xk_up_s (fun z => by omega) (fun _ => by
              rcases Nat.eq_zero_or_pos i with z | z
              · have := h4 z; omega
              · have := h5 z; omega) (fun q => by rw [xk_up_a (by decide)]; exact xm_w56 hbl (by omega) rfl h6)

theorem xm_F_wr {F : xs_F} {m M : xk_M} {e : Nat} {x : xs_B} {h : xs_H} (hF : xm_F (h, F.2) m) (hhl : F.2.1 x.1 ≤ 32) (hx : F.2.2[e]? = some x) (x1 : x.1 < 8) (x2 : x.2.1 < 4) (hbl : 8 * x.2.1 < F.2.1 x.1) (h1 : ∀ a, a ≠ 55 → a ≠ 56 → M a = m a) (h2 : ∀ q, q ≠ x.1 → M 55 q = m 55 q) (h3 : M 55 x.1 = nI (max (h.2.1 x.1) (min (8 * x.2.1 + 8) (F.2.1 x.1)))) (h6 : ∀ q, M 56 q = if 32 * x.1 + 8 * x.2.1 ≤ q ∧ q < 32 * x.1 + min (8 * x.2.1 + 8) (F.2.1 x.1) then x.2.2.2 (q - (32 * x.1 + 8 * x.2.1)) else m 56 q) : xm_F (xs_wrh h (F.2.1 x.1) x, F.2.1, F.2.2.set e (x.1, x.2.1, false, x.2.2.2)) (xk_up M 60 e (nI 0)) := by
  obtain ⟨⟨r1, r2, r3, r4, r5, r6⟩, hL, hC1, hC2, hC3⟩ := hF
  have hm : ∀ a, a ≠ 55 → a ≠ 56 → a ≠ 60 → (xk_up M 60 e (nI 0)) a = m a := fun a a1 a2 a3 => by rw [xk_up_r a3]; exact h1 a a1 a2
  refine ⟨⟨fun g hg => ?_, fun g hg => ?_, fun g i hg hi => ?_, fun j hj hj2 => ?_, ?_, ?_⟩, fun g hg => ?_, ?_, ?_, fun i y hy => ?_⟩
  · rw [hm _ (by decide) (by decide) (by decide)]; exact r1 g hg
  · rw [xk_up_a (by decide)]
    show _ = nI (xs_u h.2.1 x.1 (max (h.2.1 x.1) (min (8 * x.2.1 + 8) (F.2.1 x.1))) g)
    by_cases q : g = x.1
    · subst q; rw [xs_u_s]; exact h3
    · rw [xs_u_n q, h2 g q]; exact r2 g hg
  · rw [xk_up_a (by decide), h6]
    show _ = xs_u h.2.2.1 x.1 (fun i => if 8 * x.2.1 ≤ i ∧ i < min (8 * x.2.1 + 8) (F.2.1 x.1) then x.2.2.2 (i - 8 * x.2.1) else h.2.2.1 x.1 i) g i
    by_cases q : g = x.1
    · subst q
      rw [xs_u_s]
      by_cases q2 : 8 * x.2.1 ≤ i ∧ i < min (8 * x.2.1 + 8) (F.2.1 x.1)
      · rw [if_pos (by omega), if_pos q2]
        exact congrArg x.2.2.2 (by omega)
      · rw [if_neg (by omega), if_neg q2]
        exact r3 _ i hg hi
    · rw [xs_u_n q, if_neg (by omega)]
      exact r3 g i hg hi
  · rw [hm _ (by decide) (by decide) (by decide)]; exact r4 j hj hj2
  · rw [hm _ (by decide) (by decide) (by decide)]; exact r5
  · rw [hm _ (by decide) (by decide) (by decide)]; exact r6
  · rw [hm _ (by decide) (by decide) (by decide)]; exact hL g hg
  · rw [hm _ (by decide) (by decide) (by decide), List.length_set]; exact hC1
  · rw [List.length_set]; exact hC2
  · rw [List.getElem?_set] at hy
    by_cases q : e = i
    · subst q
      rw [if_pos rfl, if_pos (xs_lt hx)] at hy
      cases hy
      obtain ⟨g0, g1, g2⟩ := hC3 e x hx
      exact ⟨by rw [hm _ (by decide) (by decide) (by decide)]; exact g0, xk_up_s, fun k hk => by rw [hm _ (by decide) (by decide) (by decide)]; exact g2 k hk⟩
    · rw [if_neg q] at hy
      obtain ⟨g0, g1, g2⟩ := hC3 i y hy
      exact ⟨by rw [hm _ (by decide) (by decide) (by decide)]; exact g0, by rw [xk_up_k (fun z => q z.symm), h1 60 (by decide) (by decide)]; exact g1, fun k hk => by rw [hm _ (by decide) (by decide) (by decide)]; exact g2 k hk⟩

set_option maxRecDepth 20000 in
set_option maxHeartbeats 4000000 in
theorem c_M_writeBack {E : xk_E} {n : Nat} {m : xk_M} {r : xk_P} {Q : xk_Q} (hn : 74 ≤ n) (hS : xr_S r n) {F : xs_F} (hF : xm_F F m) (hok : xs_okF F) (hops : F.1.2.2.2.2.1 < 2 ^ 30) {e : Nat} {x : xs_B} (hx : F.2.2[e]? = some x) (hd : x.2.2.1 = true) (h1 : F.1.2.2.2.2.2 = 0 → ∀ m', xm_F (xs_wrh (xs_op F.1 1 x.1 x.2.1).1 (F.2.1 x.1) x, F.2.1, F.2.2.set e (x.1, x.2.1, false, x.2.2.2)) m' → xm_fF m m' → Q (some (.inl (nI 1))) n m' r) (h0 : F.1.2.2.2.2.2 ≠ 0 → ∀ m', xm_F ((xs_op F.1 1 x.1 x.2.1).1, F.2) m' → xm_fF m m' → Q (some (.inl (nI 0))) n m' r) : xk_W E m_M_writeBack 0 (xk_ent m_M_writeBack [.inr (some 53), .inl (nI e)]) [] n m r 0 0 Q := by
  show xk_W E m_M_writeBack 0 [some (.inr (some 53)), some (.inl (nI e)), none, none, none, none] [] n m r 0 0 Q
  obtain ⟨x1, x2, x3⟩ := hok.2.2.1 e x hx
  have hbl := x3 hd
  have he : e < 5 := by have := xs_lt hx; have := hF.2.2.2.1; omega
  refine xk_aload_n (pc := 0) d_M_writeBack_0 rfl ?_
  refine xk_getRo (pc := 1) d_M_writeBack_1 fl_M_26 (by first | rfl | assumption) rfl (by omega) (by omega) (hS _ _ _ rfl (by omega)) ?_
  refine xk_iload_n (pc := 4) d_M_writeBack_4 rfl ?_
  refine xk_ialoado (pc := 5) d_M_writeBack_5 (by first | rfl | assumption) (by omega) (by omega) rfl (by omega) (by decide) (hF.2.2.2.2 e x hx).1 ?_
  refine xk_bipush (pc := 6) (v := nI 7) d_M_writeBack_6 (by decide) ?_
  refine xk_iand (pc := 8) d_M_writeBack_8 ?_
  rw [(xm_fe x.1 x1 x.2.1 x2).1]
  refine xk_istore_n (pc := 9) d_M_writeBack_9 (by decide) ?_
  refine xk_aload_n (pc := 10) d_M_writeBack_10 rfl ?_
  refine xk_getRo (pc := 11) d_M_writeBack_11 fl_M_26 (by first | rfl | assumption) rfl (by omega) (by omega) (hS _ _ _ rfl (by omega)) ?_
  refine xk_iload_n (pc := 14) d_M_writeBack_14 rfl ?_
  refine xk_ialoado (pc := 15) d_M_writeBack_15 (by first | rfl | assumption) (by omega) (by omega) rfl (by omega) (by decide) (hF.2.2.2.2 e x hx).1 ?_
  refine xk_iconst (pc := 16) (v := nI 3) d_M_writeBack_16 (by decide) ?_
  refine xk_ishr (pc := 17) d_M_writeBack_17 ?_
  rw [(xm_fe x.1 x1 x.2.1 x2).2]
  refine xk_istore_n (pc := 18) d_M_writeBack_18 (by decide) ?_
  refine xk_aload_n (pc := 19) d_M_writeBack_19 rfl ?_
  refine xk_iconst (pc := 20) (v := nI 1) d_M_writeBack_20 (by decide) ?_
  refine xk_iload_n (pc := 21) d_M_writeBack_21 rfl ?_
  refine xk_iload_n (pc := 22) d_M_writeBack_22 rfl ?_
  refine xk_cV3 (pc := 23) d_M_writeBack_23 ml_M_95 cz_M_operate ⟨rfl, rfl⟩ rfl (by first | rfl | assumption) (by omega) (by omega) (Nat.le_of_ble_eq_true rfl) ⟨(Nat.le_of_ble_eq_true rfl), (Nat.le_of_ble_eq_true rfl)⟩ ?_
  refine c_M_operate (o := 1) hn hS hF hops (by have := hok.2.2.2.2.2; omega) (fun z m1 hF1 hm1 => ?_) (fun z m1 hF1 hm1 => ?_)
  · refine xk_if_ne (pc := 26) (tgt := 31) d_M_writeBack_26 rfl (fun _ => ?_) (fun h => absurd h (by decide))
    refine xk_iconst (pc := 31) (v := nI 0) d_M_writeBack_31 (by decide) ?_
    refine xk_istore (pc := 32) d_M_writeBack_32 (by decide) ?_
    refine l_mwb (hl := F.1.2.1 x.1) (ln := F.2.1 x.1) (g := x.2.2.2) hn hS x1 x2 he (hok.1 _ x1).2 (by have := hok.1 _ x1; omega) hbl (hF1.2.1 x.1 x1) (fun k hk => (hF1.2.2.2.2 e x hx).2.2 k hk) (fun M v5 q1 q2 q3 q6 => ?_) 9 0 (F.1.2.1 x.1) m1 none (by omega) (by omega) (fun _ _ _ => rfl) (fun _ _ => rfl) (hF1.1.2.1 x.1 x1) (fun _ => rfl) (fun z => by omega) (fun q => by rw [if_neg (by omega)])
    refine xk_aload_n (pc := 115) d_M_writeBack_115 rfl ?_
    refine xk_getRo (pc := 116) d_M_writeBack_116 fl_M_29 (by first | rfl | assumption) rfl (by omega) (by omega) (hS _ _ _ rfl (by omega)) ?_
    refine xk_iload_n (pc := 119) d_M_writeBack_119 rfl ?_
    refine xk_iconst (pc := 120) (v := nI 0) d_M_writeBack_120 (by decide) ?_
    refine xk_bastore (pc := 121) d_M_writeBack_121 (by first | rfl | assumption) (by omega) (by omega) rfl (by omega) (by decide) rfl ?_
    refine xk_iconst (pc := 122) (v := nI 1) d_M_writeBack_122 (by decide) ?_
    refine xk_zret (pc := 123) rfl d_M_writeBack_123 rfl rfl (Nat.le_of_ble_eq_true rfl) (Nat.le_of_ble_eq_true rfl) ?_
    exact h1 z _ (xm_F_wr hF1 (hok.1 _ x1).2 hx x1 x2 hbl q1 q2 q3 q6) (fun a ha => by rw [xk_up_r (by omega), q1 a (by omega) (by omega)]; exact hm1 a ha)
  · refine xk_if_ne (pc := 26) (tgt := 31) d_M_writeBack_26 rfl (fun h => absurd (by decide) h) (fun _ => ?_)
    refine xk_iconst (pc := 29) (v := nI 0) d_M_writeBack_29 (by decide) ?_
    refine xk_zret (pc := 30) rfl d_M_writeBack_30 rfl rfl (Nat.le_of_ble_eq_true rfl) (Nat.le_of_ble_eq_true rfl) ?_
    exact h0 z m1 hF1 hm1

theorem xk_fn_congr {m : xk_M} {a p i : Nat} {g g' : Nat → Int32} (h : ∀ k, k < i → g k = g' k) : xk_fn m a p i g = xk_fn m a p i g' := by
  funext c q
  unfold xk_fn
  by_cases z : c = a ∧ p ≤ q ∧ q < p + i
  · rw [if_pos z, if_pos z]
    exact h _ (by omega)
  · rw [if_neg z, if_neg z]
def xm_d (m : xk_M) (i j : Nat) : xk_M := fun c q => if (c = 59 ∨ c = 60) ∧ j < q ∧ q ≤ i then m c (q - 1) else if c = 61 ∧ 8 * j + 8 ≤ q ∧ q < 8 * i + 8 then m 61 (q - 8) else m c q
theorem xm_d_i {m : xk_M} {i : Nat} : xm_d m i i = m := by
  funext c q
  unfold xm_d
  rw [if_neg (by omega), if_neg (by omega)]
theorem xm_d_lo {m : xk_M} {i j c q : Nat} (hc : c = 59 ∨ c = 60) (h : q ≤ j) : xm_d m i j c q = m c q := by
  unfold xm_d
  rw [if_neg (by omega), if_neg (by omega)]
theorem xm_d_c {m : xk_M} {i j q : Nat} (h : q < 8 * j + 8 ∨ 8 * i + 8 ≤ q) : xm_d m i j 61 q = m 61 q := by
  unfold xm_d
  rw [if_neg (by omega), if_neg (by omega)]
theorem xm_d_a {m : xk_M} {i j c : Nat} (h1 : c ≠ 59) (h2 : c ≠ 60) (h3 : c ≠ 61) : xm_d m i j c = m c := by
  funext q
  unfold xm_d
  rw [if_neg (by omega), if_neg (by omega)]
theorem xm_d_s {m : xk_M} {i j : Nat} (h : j < i) : xk_fn (xk_up (xk_up (xm_d m i (j + 1)) 59 (j + 1) (m 59 (j + 1 - 1))) 60 (j + 1) (m 60 (j + 1 - 1))) 61 (8 * (j + 1)) 8 (fun k => m 61 (8 * j + k)) = xm_d m i j := by
  funext c q
  by_cases c1 : c = 59
  · subst c1
    rw [xk_fn_a (by decide), xk_up_a (by decide)]
    by_cases e : q = j + 1
    · subst e
      rw [xk_up_s]
      unfold xm_d
      rw [if_pos (by omega)]
    · rw [xk_up_k e]
      unfold xm_d
      by_cases e2 : j + 1 < q ∧ q ≤ i
      · rw [if_pos (by omega), if_pos (by omega)]
      · rw [if_neg (by omega), if_neg (by omega), if_neg (by omega), if_neg (by omega)]
  · by_cases c2 : c = 60
    · subst c2
      rw [xk_fn_a (by decide)]
      by_cases e : q = j + 1
      · subst e
        rw [xk_up_s]
        unfold xm_d
        rw [if_pos (by omega)]
      · rw [xk_up_k e, xk_up_a (by decide)]
        unfold xm_d
        by_cases e2 : j + 1 < q ∧ q ≤ i
        · rw [if_pos (by omega), if_pos (by omega)]
        · rw [if_neg (by omega), if_neg (by omega), if_neg (by omega), if_neg (by omega)]
    · by_cases c3 : c = 61
      · subst c3
        unfold xk_fn
        by_cases e : 8 * (j + 1) ≤ q ∧ q < 8 * (j + 1) + 8
        · rw [if_pos ⟨rfl, e⟩]
          unfold xm_d
          rw [if_neg (by omega), if_pos (by omega)]
          exact congrArg (m 61) (by omega)
        · rw [if_neg (fun z => e z.2), xk_up_a (by decide), xk_up_a (by decide)]
          unfold xm_d
          by_cases e2 : 8 * (j + 1) + 8 ≤ q ∧ q < 8 * i + 8
          · rw [if_neg (by omega), if_pos (by omega), if_neg (by omega), if_pos (by omega)]
          · rw [if_neg (by omega), if_neg (by omega), if_neg (by omega), if_neg (by omega)]
      · rw [xk_fn_a c3, xk_up_a c2, xk_up_a c1, xm_d_a c1 c2 c3, xm_d_a c1 c2 c3]

set_option maxRecDepth 20000 in
set_option maxHeartbeats 4000000 in
theorem l_mtf1 {E : xk_E} {n : Nat} {r : xk_P} {Q : xk_Q} {m : xk_M} {i : Nat} {v2 v3 v5 : Option xk_V} (hn : 74 ≤ n) (hS : xr_S r n) (hi : i < 5) (hK : xk_W E m_M_toFront 52 [some (.inr (some 53)), some (.inl (nI i)), v2, v3, some (.inl (nI 8)), v5] [] n (xk_fn m 61 40 8 (fun k => m 61 (8 * i + k))) r 0 0 Q) : ∀ (k : Nat) (j : Nat), 8 - j < k → j ≤ 8 → xk_W E m_M_toFront 17 [some (.inr (some 53)), some (.inl (nI i)), v2, v3, some (.inl (nI j)), v5] [] n (xk_fn m 61 40 j (fun k => m 61 (8 * i + k))) r 0 0 Q := by
  intro k
  induction k with
  | zero => intro j h; exact absurd h (Nat.not_lt_zero _)
  | succ k ih =>
    intro j hk hj
    refine xk_iload (pc := 17) d_M_toFront_17 rfl ?_
    refine xk_bipush (pc := 19) (v := nI 8) d_M_toFront_19 (by decide) ?_
    first | refine xk_icmp_geN (pc := 21) (tgt := 52) d_M_toFront_21 rfl (by omega) (by omega) (fun c_21 => ?_) (fun c_21 => ?_) | refine xk_icmp_ge (pc := 21) (tgt := 52) d_M_toFront_21 rfl (fun c_21 => ?_) (fun c_21 => ?_)
    · have e : j = 8 := by omega
      subst e
      exact hK
    · refine xk_aload_n (pc := 24) d_M_toFront_24 rfl ?_
      refine xk_getRo (pc := 25) d_M_toFront_25 fl_M_32 (by first | rfl | assumption) rfl (by omega) (by omega) (hS _ _ _ rfl (by omega)) ?_
      refine xk_bipush (pc := 28) (v := nI 40) d_M_toFront_28 (by decide) ?_
      refine xk_iload (pc := 30) d_M_toFront_30 rfl ?_
      first | refine xk_iaddN (pc := 32) d_M_toFront_32 ?_ | refine xk_iadd (pc := 32) d_M_toFront_32 ?_
      refine xk_aload_n (pc := 33) d_M_toFront_33 rfl ?_
      refine xk_getRo (pc := 34) d_M_toFront_34 fl_M_32 (by first | rfl | assumption) rfl (by omega) (by omega) (hS _ _ _ rfl (by omega)) ?_
      refine xk_bipush (pc := 37) (v := nI 8) d_M_toFront_37 (by decide) ?_
      refine xk_iload_n (pc := 39) d_M_toFront_39 rfl ?_
      first | refine xk_imulN (pc := 40) d_M_toFront_40 ?_ | refine xk_imul (pc := 40) d_M_toFront_40 ?_
      refine xk_iload (pc := 41) d_M_toFront_41 rfl ?_
      first | refine xk_iaddN (pc := 43) d_M_toFront_43 ?_ | refine xk_iadd (pc := 43) d_M_toFront_43 ?_
      refine xk_ialoado (pc := 44) d_M_toFront_44 (by first | rfl | assumption) (by omega) (by omega) rfl (by omega) (by decide) (xk_fn_n (by omega)) ?_
      refine xk_iastore (pc := 45) d_M_toFront_45 (by first | rfl | assumption) (by omega) (by omega) rfl (by omega) (by decide) ?_
      rw [xk_fn_s (g := fun k => m 61 (8 * i + k)) rfl]
      refine xk_iincN (pc := 46) (d := 1) d_M_toFront_46 rfl ?_
      refine xk_goto (pc := 49) (tgt := 17) d_M_toFront_49 rfl ?_
      exact ih (j + 1) (by omega) (by omega)

set_option maxRecDepth 20000 in
set_option maxHeartbeats 4000000 in
theorem l_mtf3 {E : xk_E} {n : Nat} {r : xk_P} {Q : xk_Q} {m : xk_M} {v1 v2 v3 v5 : Option xk_V} (hn : 74 ≤ n) (hS : xr_S r n) (hQ : Q none n (xk_fn m 61 0 8 (fun k => m 61 (40 + k))) r) : ∀ (k : Nat) (j : Nat), 8 - j < k → j ≤ 8 → xk_W E m_M_toFront 160 [some (.inr (some 53)), v1, v2, v3, some (.inl (nI j)), v5] [] n (xk_fn m 61 0 j (fun k => m 61 (40 + k))) r 0 0 Q := by
  intro k
  induction k with
  | zero => intro j h; exact absurd h (Nat.not_lt_zero _)
  | succ k ih =>
    intro j hk hj
    refine xk_iload (pc := 160) d_M_toFront_160 rfl ?_
    refine xk_bipush (pc := 162) (v := nI 8) d_M_toFront_162 (by decide) ?_
    first | refine xk_icmp_geN (pc := 164) (tgt := 190) d_M_toFront_164 rfl (by omega) (by omega) (fun c_164 => ?_) (fun c_164 => ?_) | refine xk_icmp_ge (pc := 164) (tgt := 190) d_M_toFront_164 rfl (fun c_164 => ?_) (fun c_164 => ?_)
    · have e : j = 8 := by omega
      subst e
      refine xk_vret (pc := 190) rfl d_M_toFront_190 rfl (Nat.le_of_ble_eq_true rfl) (Nat.le_of_ble_eq_true rfl) ?_
      exact hQ
    · refine xk_aload_n (pc := 167) d_M_toFront_167 rfl ?_
      refine xk_getRo (pc := 168) d_M_toFront_168 fl_M_32 (by first | rfl | assumption) rfl (by omega) (by omega) (hS _ _ _ rfl (by omega)) ?_
      refine xk_iload (pc := 171) d_M_toFront_171 rfl ?_
      refine xk_aload_n (pc := 173) d_M_toFront_173 rfl ?_
      refine xk_getRo (pc := 174) d_M_toFront_174 fl_M_32 (by first | rfl | assumption) rfl (by omega) (by omega) (hS _ _ _ rfl (by omega)) ?_
      refine xk_bipush (pc := 177) (v := nI 40) d_M_toFront_177 (by decide) ?_
      refine xk_iload (pc := 179) d_M_toFront_179 rfl ?_
      first | refine xk_iaddN (pc := 181) d_M_toFront_181 ?_ | refine xk_iadd (pc := 181) d_M_toFront_181 ?_
      refine xk_ialoado (pc := 182) d_M_toFront_182 (by first | rfl | assumption) (by omega) (by omega) rfl (by omega) (by decide) (xk_fn_n (by omega)) ?_
      refine xk_iastore (pc := 183) d_M_toFront_183 (by first | rfl | assumption) (by omega) (by omega) rfl (by omega) (by decide) ?_
      rw [xk_fn_s (g := fun k => m 61 (40 + k)) (by omega)]
      refine xk_iincN (pc := 184) (d := 1) d_M_toFront_184 rfl ?_
      refine xk_goto (pc := 187) (tgt := 160) d_M_toFront_187 rfl ?_
      exact ih (j + 1) (by omega) (by omega)

set_option maxRecDepth 20000 in
set_option maxHeartbeats 4000000 in
theorem l_mtf4 {E : xk_E} {n : Nat} {r : xk_P} {Q : xk_Q} {m : xk_M} {j : Nat} {v1 v2 v3 : Option xk_V} (hn : 74 ≤ n) (hS : xr_S r n) (hj4 : j + 1 < 5) (hK : xk_W E m_M_toFront 137 [some (.inr (some 53)), v1, v2, v3, some (.inl (nI (j + 1))), some (.inl (nI 8))] [] n (xk_fn m 61 (8 * (j + 1)) 8 (fun k => m 61 (8 * j + k))) r 0 0 Q) : ∀ (k : Nat) (i : Nat), 8 - i < k → i ≤ 8 → xk_W E m_M_toFront 95 [some (.inr (some 53)), v1, v2, v3, some (.inl (nI (j + 1))), some (.inl (nI i))] [] n (xk_fn m 61 (8 * (j + 1)) i (fun k => m 61 (8 * j + k))) r 0 0 Q := by
  intro k
  induction k with
  | zero => intro i h; exact absurd h (Nat.not_lt_zero _)
  | succ k ih =>
    intro i hk hi
    refine xk_iload (pc := 95) d_M_toFront_95 rfl ?_
    refine xk_bipush (pc := 97) (v := nI 8) d_M_toFront_97 (by decide) ?_
    first | refine xk_icmp_geN (pc := 99) (tgt := 137) d_M_toFront_99 rfl (by omega) (by omega) (fun c_99 => ?_) (fun c_99 => ?_) | refine xk_icmp_ge (pc := 99) (tgt := 137) d_M_toFront_99 rfl (fun c_99 => ?_) (fun c_99 => ?_)
    · have e : i = 8 := by omega
      subst e
      exact hK
    · refine xk_aload_n (pc := 102) d_M_toFront_102 rfl ?_
      refine xk_getRo (pc := 103) d_M_toFront_103 fl_M_32 (by first | rfl | assumption) rfl (by omega) (by omega) (hS _ _ _ rfl (by omega)) ?_
      refine xk_bipush (pc := 106) (v := nI 8) d_M_toFront_106 (by decide) ?_
      refine xk_iload (pc := 108) d_M_toFront_108 rfl ?_
      first | refine xk_imulN (pc := 110) d_M_toFront_110 ?_ | refine xk_imul (pc := 110) d_M_toFront_110 ?_
      refine xk_iload (pc := 111) d_M_toFront_111 rfl ?_
      first | refine xk_iaddN (pc := 113) d_M_toFront_113 ?_ | refine xk_iadd (pc := 113) d_M_toFront_113 ?_
      refine xk_aload_n (pc := 114) d_M_toFront_114 rfl ?_
      refine xk_getRo (pc := 115) d_M_toFront_115 fl_M_32 (by first | rfl | assumption) rfl (by omega) (by omega) (hS _ _ _ rfl (by omega)) ?_
      refine xk_bipush (pc := 118) (v := nI 8) d_M_toFront_118 (by decide) ?_
      refine xk_iload (pc := 120) d_M_toFront_120 rfl ?_
      first | refine xk_imulN (pc := 122) d_M_toFront_122 ?_ | refine xk_imul (pc := 122) d_M_toFront_122 ?_
      refine xk_bipush (pc := 123) (v := nI 8) d_M_toFront_123 (by decide) ?_
      first | refine xk_isubN (pc := 125) d_M_toFront_125 (by omega) ?_ | refine xk_isub (pc := 125) d_M_toFront_125 ?_
      refine xk_iload (pc := 126) d_M_toFront_126 rfl ?_
      first | refine xk_iaddN (pc := 128) d_M_toFront_128 ?_ | refine xk_iadd (pc := 128) d_M_toFront_128 ?_
      refine xk_ialoado (pc := 129) d_M_toFront_129 (by first | rfl | assumption) (by omega) (by omega) rfl (by omega) (by decide) ((xk_fn_n (by omega)).trans (congrArg (m 61) (show 8 * (j + 1) - 8 + i = 8 * j + i by omega))) ?_
      refine xk_iastore (pc := 130) d_M_toFront_130 (by first | rfl | assumption) (by omega) (by omega) rfl (by omega) (by decide) ?_
      rw [xk_fn_s (g := fun k => m 61 (8 * j + k)) rfl]
      refine xk_iincN (pc := 131) (d := 1) d_M_toFront_131 rfl ?_
      refine xk_goto (pc := 134) (tgt := 95) d_M_toFront_134 rfl ?_
      exact ih (i + 1) (by omega) (by omega)

set_option maxRecDepth 20000 in
set_option maxHeartbeats 4000000 in
theorem l_mtf2 {E : xk_E} {n : Nat} {r : xk_P} {Q : xk_Q} {m : xk_M} {i : Nat} {v2 v3 : Option xk_V} (hn : 74 ≤ n) (hS : xr_S r n) (hi : i < 5) (hd : ∀ j, j ≤ i → narrow .boolean (.int (m 60 j)) = .int (m 60 j)) (hK : ∀ v5, xk_W E m_M_toFront 143 [some (.inr (some 53)), some (.inl (nI i)), v2, v3, some (.inl (nI 0)), v5] [] n (xm_d m i 0) r 0 0 Q) : ∀ (k : Nat) (j : Nat) (v5 : Option xk_V), j - 0 < k → j ≤ i → xk_W E m_M_toFront 55 [some (.inr (some 53)), some (.inl (nI i)), v2, v3, some (.inl (nI j)), v5] [] n (xm_d m i j) r 0 0 Q := by
  intro k
  induction k with
  | zero => intro j v5 h; exact absurd h (Nat.not_lt_zero _)
  | succ k ih =>
    intro j v5 hk hj
    refine xk_iload (pc := 55) d_M_toFront_55 rfl ?_
    first | refine xk_if_leN (pc := 57) (tgt := 143) d_M_toFront_57 rfl (by omega) (fun c_57 => ?_) (fun c_57 => ?_) | refine xk_if_le (pc := 57) (tgt := 143) d_M_toFront_57 rfl (fun c_57 => ?_) (fun c_57 => ?_)
    · subst c_57
      exact hK v5
    · obtain ⟨a, rfl⟩ : ∃ a, j = a + 1 := ⟨j - 1, by omega⟩
      refine xk_aload_n (pc := 60) d_M_toFront_60 rfl ?_
      refine xk_getRo (pc := 61) d_M_toFront_61 fl_M_26 (by first | rfl | assumption) rfl (by omega) (by omega) (hS _ _ _ rfl (by omega)) ?_
      refine xk_iload (pc := 64) d_M_toFront_64 rfl ?_
      refine xk_aload_n (pc := 66) d_M_toFront_66 rfl ?_
      refine xk_getRo (pc := 67) d_M_toFront_67 fl_M_26 (by first | rfl | assumption) rfl (by omega) (by omega) (hS _ _ _ rfl (by omega)) ?_
      refine xk_iload (pc := 70) d_M_toFront_70 rfl ?_
      refine xk_iconst (pc := 72) (v := nI 1) d_M_toFront_72 (by decide) ?_
      first | refine xk_isubN (pc := 73) d_M_toFront_73 (by omega) ?_ | refine xk_isub (pc := 73) d_M_toFront_73 ?_
      refine xk_ialoado (pc := 74) d_M_toFront_74 (by first | rfl | assumption) (by omega) (by omega) rfl (by omega) (by decide) (xm_d_lo (Or.inl rfl) (by omega)) ?_
      refine xk_iastore (pc := 75) d_M_toFront_75 (by first | rfl | assumption) (by omega) (by omega) rfl (by omega) (by decide) ?_
      refine xk_aload_n (pc := 76) d_M_toFront_76 rfl ?_
      refine xk_getRo (pc := 77) d_M_toFront_77 fl_M_29 (by first | rfl | assumption) rfl (by omega) (by omega) (hS _ _ _ rfl (by omega)) ?_
      refine xk_iload (pc := 80) d_M_toFront_80 rfl ?_
      refine xk_aload_n (pc := 82) d_M_toFront_82 rfl ?_
      refine xk_getRo (pc := 83) d_M_toFront_83 fl_M_29 (by first | rfl | assumption) rfl (by omega) (by omega) (hS _ _ _ rfl (by omega)) ?_
      refine xk_iload (pc := 86) d_M_toFront_86 rfl ?_
      refine xk_iconst (pc := 88) (v := nI 1) d_M_toFront_88 (by decide) ?_
      first | refine xk_isubN (pc := 89) d_M_toFront_89 (by omega) ?_ | refine xk_isub (pc := 89) d_M_toFront_89 ?_
      refine xk_baloado (pc := 90) d_M_toFront_90 (by first | rfl | assumption) (by omega) (by omega) rfl (by omega) (by decide) ((xk_up_a (by decide)).trans (xm_d_lo (Or.inr rfl) (by omega))) ?_
      refine xk_bastore (pc := 91) d_M_toFront_91 (by first | rfl | assumption) (by omega) (by omega) rfl (by omega) (by decide) (hd _ (by omega)) ?_
      refine xk_iconst (pc := 92) (v := nI 0) d_M_toFront_92 (by decide) ?_
      refine xk_istore (pc := 93) d_M_toFront_93 (by decide) ?_
      suffices HH : xk_W E m_M_toFront 137 [some (.inr (some 53)), some (.inl (nI i)), v2, v3, some (.inl (nI (a + 1))), some (.inl (nI 8))] [] n (xm_d m i a) r 0 0 Q by
        have K := l_mtf4 (E := E) (Q := Q) (v1 := some (.inl (nI i))) (v2 := v2) (v3 := v3) (m := xk_up (xk_up (xm_d m i (a + 1)) 59 (a + 1) (m 59 (a + 1 - 1))) 60 (a + 1) (m 60 (a + 1 - 1))) (j := a) hn hS (by omega) (by
          have e : (fun k => xk_up (xk_up (xm_d m i (a + 1)) 59 (a + 1) (m 59 (a + 1 - 1))) 60 (a + 1) (m 60 (a + 1 - 1)) 61 (8 * a + k)) = fun k => xm_d m i (a + 1) 61 (8 * a + k) := by
            funext k; rw [xk_up_a (by decide), xk_up_a (by decide)]
          have e2 : xk_fn (xk_up (xk_up (xm_d m i (a + 1)) 59 (a + 1) (m 59 (a + 1 - 1))) 60 (a + 1) (m 60 (a + 1 - 1))) 61 (8 * (a + 1)) 8 (fun k => xm_d m i (a + 1) 61 (8 * a + k)) = xm_d m i a := by
            rw [← xm_d_s (by omega : a < i)]
            exact xk_fn_congr (fun k hk => xm_d_c (by omega))
          rw [e, e2]
          exact HH) 9 0 (by omega) (by omega)
        rw [xk_fn_0] at K
        exact K
      refine xk_iincM (pc := 137) d_M_toFront_137 rfl ?_
      refine xk_goto (pc := 140) (tgt := 55) d_M_toFront_140 rfl ?_
      exact ih a _ (by omega) (by omega)

/-- behind toFront -/
def xm_tf (m : xk_M) (i : Nat) : xk_M := xk_fn (xk_up (xk_up (xm_d (xk_fn m 61 40 8 (fun k => m 61 (8 * i + k))) i 0) 59 0 (m 59 i)) 60 0 (m 60 i)) 61 0 8 (fun k => m 61 (8 * i + k))
theorem xm_tf_fr {m : xk_M} {i a : Nat} (h1 : a ≠ 59) (h2 : a ≠ 60) (h3 : a ≠ 61) : xm_tf m i a = m a := by
  unfold xm_tf
  rw [xk_fn_r h3, xk_up_r h2, xk_up_r h1, xm_d_a h1 h2 h3, xk_fn_r h3]
theorem xm_tf_n {m : xk_M} {i j : Nat} (hi : i < 5) (hj : 0 < j) (hj5 : j < 5) : xm_tf m i 59 j = m 59 (if j ≤ i then j - 1 else j) ∧ xm_tf m i 60 j = m 60 (if j ≤ i then j - 1 else j) ∧ ∀ k, k < 8 → xm_tf m i 61 (8 * j + k) = m 61 (8 * (if j ≤ i then j - 1 else j) + k) := by
  unfold xm_tf
  refine ⟨?_, ?_, fun k hk => ?_⟩
  · rw [xk_fn_a (by decide), xk_up_a (by decide), xk_up_k (by omega)]
    unfold xm_d
    by_cases e : j ≤ i
    · rw [if_pos (by omega), if_pos e, xk_fn_a (by decide)]
    · rw [if_neg (by omega), if_neg (by omega), if_neg e, xk_fn_a (by decide)]
  · rw [xk_fn_a (by decide), xk_up_k (by omega), xk_up_a (by decide)]
    unfold xm_d
    by_cases e : j ≤ i
    · rw [if_pos (by omega), if_pos e, xk_fn_a (by decide)]
    · rw [if_neg (by omega), if_neg (by omega), if_neg e, xk_fn_a (by decide)]
  · rw [xk_fn_n (by omega), xk_up_a (by decide), xk_up_a (by decide)]
    unfold xm_d
    by_cases e : j ≤ i
    · rw [if_neg (by omega), if_pos (by omega), if_pos e, xk_fn_n (by omega)]
      congr 1
      omega
    · rw [if_neg (by omega), if_neg (by omega), if_neg e, xk_fn_n (by omega)]
theorem xm_tf_0 {m : xk_M} {i : Nat} : xm_tf m i 59 0 = m 59 i ∧ xm_tf m i 60 0 = m 60 i ∧ ∀ k, k < 8 → xm_tf m i 61 (8 * 0 + k) = m 61 (8 * i + k) := by
  unfold xm_tf
  refine ⟨by rw [xk_fn_a (by decide), xk_up_a (by decide), xk_up_s], by rw [xk_fn_a (by decide), xk_up_s], fun k hk => ?_⟩
  rw [Nat.mul_zero, xk_fn_p hk]
theorem xm_C_tf {l : List xs_B} {m : xk_M} {i : Nat} {x : xs_B} (hC : xm_C l m) (hx : l[i]? = some x) : xm_C (x :: l.eraseIdx i) (xm_tf m i) := by
  obtain ⟨h1, h2, h3⟩ := hC
  have hi := xs_lt hx
  have hlen : (x :: l.eraseIdx i).length = l.length := by
    rw [List.length_cons, List.length_eraseIdx_of_lt hi]
    omega
  refine ⟨by rw [xm_tf_fr (by decide) (by decide) (by decide), hlen]; exact h1, by rw [hlen]; exact h2, fun j y hy => ?_⟩
  cases j with
  | zero =>
    cases hy
    obtain ⟨g0, g1, g2⟩ := h3 i x hx
    obtain ⟨t0, t1, t2⟩ := xm_tf_0 (m := m) (i := i)
    exact ⟨by rw [t0]; exact g0, by rw [t1]; exact g1, fun k hk => by rw [t2 k hk]; exact g2 k hk⟩
  | succ j =>
    have hj := xs_lt hy
    rw [hlen] at hj
    rw [List.getElem?_cons_succ, List.getElem?_eraseIdx] at hy
    have hy2 : l[if j + 1 ≤ i then j + 1 - 1 else j + 1]? = some y := by
      by_cases q : j < i
      · rw [if_pos q] at hy
        rw [if_pos (by omega)]
        exact hy
      · rw [if_neg q] at hy
        rw [if_neg (by omega)]
        exact hy
    obtain ⟨g0, g1, g2⟩ := h3 _ y hy2
    obtain ⟨t0, t1, t2⟩ := xm_tf_n (m := m) (i := i) (j := j + 1) (by omega) (by omega) (by omega)
    exact ⟨by rw [t0]; exact g0, by rw [t1]; exact g1, fun k hk => by rw [t2 k hk]; exact g2 k hk⟩

set_option maxRecDepth 20000 in
set_option maxHeartbeats 4000000 in
theorem c_M_toFront {E : xk_E} {n : Nat} {m : xk_M} {r : xk_P} {Q : xk_Q} (hn : 74 ≤ n) (hS : xr_S r n) {l : List xs_B} (hC : xm_C l m) {i : Nat} {x : xs_B} (hx : l[i]? = some x) (hQ : Q none n (xm_tf m i) r) : xk_W E m_M_toFront 0 (xk_ent m_M_toFront [.inr (some 53), .inl (nI i)]) [] n m r 0 0 Q := by
  show xk_W E m_M_toFront 0 [some (.inr (some 53)), some (.inl (nI i)), none, none, none, none] [] n m r 0 0 Q
  have hil := xs_lt hx
  have hi5 : i < 5 := by have := hC.2.1; omega
  have hdb : ∀ j, j ≤ i → narrow .boolean (.int (m 60 j)) = .int (m 60 j) := fun j hj => by
    obtain ⟨y, hy⟩ := xs_get_lt (show j < l.length by omega)
    rw [(hC.2.2 j y hy).2.1]
    exact xs_bi_b _
  refine xk_aload_n (pc := 0) d_M_toFront_0 rfl ?_
  refine xk_getRo (pc := 1) d_M_toFront_1 fl_M_26 (by first | rfl | assumption) rfl (by omega) (by omega) (hS _ _ _ rfl (by omega)) ?_
  refine xk_iload_n (pc := 4) d_M_toFront_4 rfl ?_
  refine xk_iaload (pc := 5) d_M_toFront_5 (by first | rfl | assumption) (by omega) (by omega) rfl (by omega) (by decide) ?_
  refine xk_istore_n (pc := 6) d_M_toFront_6 (by decide) ?_
  refine xk_aload_n (pc := 7) d_M_toFront_7 rfl ?_
  refine xk_getRo (pc := 8) d_M_toFront_8 fl_M_29 (by first | rfl | assumption) rfl (by omega) (by omega) (hS _ _ _ rfl (by omega)) ?_
  refine xk_iload_n (pc := 11) d_M_toFront_11 rfl ?_
  refine xk_baload (pc := 12) d_M_toFront_12 (by first | rfl | assumption) (by omega) (by omega) rfl (by omega) (by decide) ?_
  refine xk_istore_n (pc := 13) d_M_toFront_13 (by decide) ?_
  refine xk_iconst (pc := 14) (v := nI 0) d_M_toFront_14 (by decide) ?_
  refine xk_istore (pc := 15) d_M_toFront_15 (by decide) ?_
  suffices HH : xk_W E m_M_toFront 52 [some (.inr (some 53)), some (.inl (nI i)), some (.inl (m 59 i)), some (.inl (m 60 i)), some (.inl (nI 8)), none] [] n (xk_fn m 61 40 8 (fun k => m 61 (8 * i + k))) r 0 0 Q by
    have K := l_mtf1 (E := E) (Q := Q) (v2 := some (.inl (m 59 i))) (v3 := some (.inl (m 60 i))) (v5 := none) hn hS hi5 HH 9 0 (by omega) (by omega)
    rw [xk_fn_0] at K
    exact K
  refine xk_iload_n (pc := 52) d_M_toFront_52 rfl ?_
  refine xk_istore (pc := 53) d_M_toFront_53 (by decide) ?_
  suffices HH : ∀ v5, xk_W E m_M_toFront 143 [some (.inr (some 53)), some (.inl (nI i)), some (.inl (m 59 i)), some (.inl (m 60 i)), some (.inl (nI 0)), v5] [] n (xm_d (xk_fn m 61 40 8 (fun k => m 61 (8 * i + k))) i 0) r 0 0 Q by
    have K := l_mtf2 (E := E) (Q := Q) (v2 := some (.inl (m 59 i))) (v3 := some (.inl (m 60 i))) (m := xk_fn m 61 40 8 (fun k => m 61 (8 * i + k))) hn hS hi5 (fun j hj => by rw [xk_fn_a (by decide)]; exact hdb j hj) HH (i + 1) i none (by omega) (by omega)
    rw [xm_d_i] at K
    exact K
  intro v5
  refine xk_aload_n (pc := 143) d_M_toFront_143 rfl ?_
  refine xk_getRo (pc := 144) d_M_toFront_144 fl_M_26 (by first | rfl | assumption) rfl (by omega) (by omega) (hS _ _ _ rfl (by omega)) ?_
  refine xk_iconst (pc := 147) (v := nI 0) d_M_toFront_147 (by decide) ?_
  refine xk_iload_n (pc := 148) d_M_toFront_148 rfl ?_
  refine xk_iastore (pc := 149) d_M_toFront_149 (by first | rfl | assumption) (by omega) (by omega) rfl (by omega) (by decide) ?_
  refine xk_aload_n (pc := 150) d_M_toFront_150 rfl ?_
  refine xk_getRo (pc := 151) d_M_toFront_151 fl_M_29 (by first | rfl | assumption) rfl (by omega) (by omega) (hS _ _ _ rfl (by omega)) ?_
  refine xk_iconst (pc := 154) (v := nI 0) d_M_toFront_154 (by decide) ?_
  refine xk_iload_n (pc := 155) d_M_toFront_155 rfl ?_
  refine xk_bastore (pc := 156) d_M_toFront_156 (by first | rfl | assumption) (by omega) (by omega) rfl (by omega) (by decide) (hdb i (Nat.le_refl _)) ?_
  refine xk_iconst (pc := 157) (v := nI 0) d_M_toFront_157 (by decide) ?_
  refine xk_istore (pc := 158) d_M_toFront_158 (by decide) ?_
  have K := l_mtf3 (E := E) (Q := Q) (v1 := some (.inl (nI i))) (v2 := some (.inl (m 59 i))) (v3 := some (.inl (m 60 i))) (v5 := v5) (m := xk_up (xk_up (xm_d (xk_fn m 61 40 8 (fun k => m 61 (8 * i + k))) i 0) 59 0 (m 59 i)) 60 0 (m 60 i)) hn hS (by
    have e : xk_fn (xk_up (xk_up (xm_d (xk_fn m 61 40 8 (fun k => m 61 (8 * i + k))) i 0) 59 0 (m 59 i)) 60 0 (m 60 i)) 61 0 8 (fun k => (xk_up (xk_up (xm_d (xk_fn m 61 40 8 (fun k => m 61 (8 * i + k))) i 0) 59 0 (m 59 i)) 60 0 (m 60 i)) 61 (40 + k)) = xm_tf m i := by
      unfold xm_tf
      exact xk_fn_congr (fun k hk => by
        rw [xk_up_a (by decide), xk_up_a (by decide), xm_d_c (by omega), xk_fn_p hk])
    rw [e]
    exact hQ) 9 0 (by omega) (by omega)
  rw [xk_fn_0] at K
  exact K
