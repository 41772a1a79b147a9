theorem xs_nm1 {i : Nat} (h : i < 2 ^ 31) : ¬ nI i = -1 := fun e => by
  have h1 := nI_pos h
  rw [e] at h1
  exact h1 (by decide)
/-- the places of the cache while they move by one, from p down to i -/
def xk_sh (r : xk_P) (p i : Nat) : xk_P := fun a j => if a = 9 ∧ i < j ∧ j ≤ p then r 9 (j - 1) else r a j
theorem xk_sh_0 {r : xk_P} {p : Nat} : xk_sh r p p = r := by
  funext a j
  unfold xk_sh
  rw [if_neg (by omega)]
theorem xk_sh_lo {r : xk_P} {p i j : Nat} (h : j ≤ i) : xk_sh r p i 9 j = r 9 j := by
  unfold xk_sh
  rw [if_neg (by omega)]
theorem xk_sh_a {r : xk_P} {p i a : Nat} (h : a ≠ 9) : xk_sh r p i a = r a := by
  funext j
  unfold xk_sh
  rw [if_neg (fun q => h q.1)]
theorem xk_sh_s {r : xk_P} {p i : Nat} {v : Option Nat} (h : i < p) (hv : r 9 i = v) : xk_up (xk_sh r p (i + 1)) 9 (i + 1) v = xk_sh r p i := by
  funext a j
  unfold xk_up xk_sh
  by_cases h1 : a = 9 ∧ j = i + 1
  · rw [if_pos h1, if_pos ⟨h1.1, by omega, by omega⟩, h1.2, Nat.add_sub_cancel, hv]
  · rw [if_neg h1]
    by_cases h2 : a = 9 ∧ i + 1 < j ∧ j ≤ p
    · rw [if_pos h2, if_pos ⟨h2.1, by omega, h2.2.2⟩]
    · rw [if_neg h2, if_neg (fun q => h2 ⟨q.1, by
        have : ¬ j = i + 1 := fun e => h1 ⟨q.1, e⟩
        omega, q.2.2⟩)]
theorem xr_S_sh {r : xk_P} {n p i : Nat} (h : xr_S r n) (hp : p < 5) : xr_S (xk_sh r p i) n := by
  intro a k v hv ha
  unfold xk_sh
  by_cases h1 : a = 9 ∧ i < k ∧ k ≤ p
  · obtain ⟨rfl, h2, h3⟩ := h1
    rw [xr_0_9 k (by omega)] at hv
    cases hv
  · rw [if_neg h1]
    exact h a k v hv ha
theorem xr_C_rot {l : List xs_B} {m : xk_M} {r : xk_P} {β : Nat → Nat} {p : Nat} (hz : m 7 3 = nI l.length) (hl5 : l.length ≤ 5) (hβ : ∀ i, i < 5 → β i < 5 ∧ r 9 i = some (10 + 2 * β i)) (hinj : ∀ i j, i < 5 → j < 5 → β i = β j → i = j) (hB : ∀ (i : Nat) (x : xs_B), l[i]? = some x → xr_B x (10 + 2 * β i) m) (hp : p < l.length) : xr_C ((l[p]?).toList ++ l.eraseIdx p) m (xk_up (xk_sh r p 0) 9 0 (some (10 + 2 * β p))) := by
  obtain ⟨x, hx⟩ := xs_get_lt hp
  rw [hx]
  show xr_C (x :: l.eraseIdx p) m _
  have hlen : (x :: l.eraseIdx p).length = l.length := by
    rw [List.length_cons, List.length_eraseIdx_of_lt hp]
    omega
  refine ⟨by rw [hlen]; exact hz, by rw [hlen]; exact hl5, fun j => if j = 0 then β p else if j ≤ p then β (j - 1) else β j, fun i hi => ?_, fun i j hi hj e => ?_, fun i y hy => ?_⟩
  · show (if i = 0 then β p else if i ≤ p then β (i - 1) else β i) < 5 ∧ xk_up (xk_sh r p 0) 9 0 (some (10 + 2 * β p)) 9 i = some (10 + 2 * (if i = 0 then β p else if i ≤ p then β (i - 1) else β i))
    by_cases h0 : i = 0
    · subst h0
      rw [if_pos rfl, xk_up_s]
      exact ⟨(hβ p (by omega)).1, rfl⟩
    · rw [if_neg h0, xk_up_k h0]
      unfold xk_sh
      by_cases h1 : i ≤ p
      · rw [if_pos h1, if_pos ⟨rfl, by omega, h1⟩]
        exact hβ (i - 1) (by omega)
      · rw [if_neg h1, if_neg (by omega)]
        exact hβ i hi
  · change (if i = 0 then β p else if i ≤ p then β (i - 1) else β i) = (if j = 0 then β p else if j ≤ p then β (j - 1) else β j) at e
    have key : ∀ q, q < 5 → ∃ t, t < 5 ∧ (if q = 0 then β p else if q ≤ p then β (q - 1) else β q) = β t ∧ (t = if q = 0 then p else if q ≤ p then q - 1 else q) := by
      intro q hq
      by_cases q0 : q = 0
      · exact ⟨p, by omega, by rw [if_pos q0], by rw [if_pos q0]⟩
      · by_cases q1 : q ≤ p
        · exact ⟨q - 1, by omega, by rw [if_neg q0, if_pos q1], by rw [if_neg q0, if_pos q1]⟩
        · exact ⟨q, hq, by rw [if_neg q0, if_neg q1], by rw [if_neg q0, if_neg q1]⟩
    obtain ⟨t1, a1, a2, a3⟩ := key i hi
    obtain ⟨t2, b1, b2, b3⟩ := key j hj
    rw [a2, b2] at e
    have e2 := hinj t1 t2 a1 b1 e
    rw [a3, b3] at e2
    split at e2 <;> split at e2 <;> (try split at e2) <;> (try split at e2) <;> omega
  · show xr_B y (10 + 2 * (if i = 0 then β p else if i ≤ p then β (i - 1) else β i)) m
    cases i with
    | zero =>
      rw [List.getElem?_cons_zero] at hy
      cases hy
      rw [if_pos rfl]
      exact hB p x hx
    | succ i =>
      rw [List.getElem?_cons_succ, List.getElem?_eraseIdx] at hy
      rw [if_neg (by omega)]
      by_cases h1 : i < p
      · rw [if_pos h1] at hy
        rw [if_pos (by omega), Nat.add_sub_cancel]
        exact hB i y hy
      · rw [if_neg h1] at hy
        rw [if_neg (by omega)]
        exact hB (i + 1) y hy

theorem xs_get_fi {F : xs_F} {f b i : Nat} (h : F.2.2.findIdx? (xs_is f b) = some i) : xs_get F f b = ((F.1, F.2.1, (F.2.2[i]?).toList ++ F.2.2.eraseIdx i), true) := by
  unfold xs_get
  rw [h]
theorem xs_get_nrm {F F1 : xs_F} {f b : Nat} (h : F.2.2.findIdx? (xs_is f b) = none) (e : xs_rm F = (F1, false)) : xs_get F f b = (F1, false) := by
  unfold xs_get
  rw [h]
  show (if (xs_rm F).2 = true then _ else _) = _
  rw [e, if_neg (show ¬ (false = true) by decide)]
theorem xs_in_e {F F2 : xs_F} {f b : Nat} (e : xs_inE F f b = (F2, true)) : ∃ x, F2.2.2 = F.2.2 ++ [x] ∧ (xs_in F f b).1.1 = F2.1 ∧ (xs_in F f b).1.2.1 = F2.2.1 := by
  unfold xs_inE at e
  unfold xs_in
  split at e
  · split at e
    · next h1 h2 =>
      cases e
      rw [if_pos h1, if_pos h2]
      exact ⟨_, rfl, rfl, rfl⟩
    · cases e
  · next h1 =>
    cases e
    rw [if_neg h1]
    exact ⟨_, rfl, rfl, rfl⟩
theorem xs_in_l {F F2 : xs_F} {f b : Nat} (e : xs_inE F f b = (F2, true)) : ∃ x, F2.2.2 = F.2.2 ++ [x] ∧ xs_in F f b = ((F2.1, F2.2.1, x :: F.2.2), true) := by
  unfold xs_inE at e
  unfold xs_in
  split at e
  · split at e
    · next h1 h2 =>
      cases e
      rw [if_pos h1, if_pos h2]
      exact ⟨_, rfl, rfl⟩
    · cases e
  · next h1 =>
    cases e
    rw [if_neg h1]
    exact ⟨_, rfl, rfl⟩
theorem xs_in_f {F F2 : xs_F} {f b : Nat} (e : xs_inE F f b = (F2, false)) : xs_in F f b = (F2, false) := by
  unfold xs_inE at e
  unfold xs_in
  split at e
  · split at e
    · cases e
    · next h1 h2 =>
      rw [if_pos h1, if_neg h2]
      exact e
  · cases e
theorem xs_get_nin {F F1 F2 : xs_F} {f b : Nat} (h : F.2.2.findIdx? (xs_is f b) = none) (e : xs_rm F = (F1, true)) (e2 : xs_inE F1 f b = (F2, false)) : xs_get F f b = (F2, false) := by
  unfold xs_get
  rw [h]
  show (if (xs_rm F).2 = true then _ else _) = _
  rw [e, if_pos rfl]
  exact xs_in_f e2
theorem xs_get_in {F F1 F2 : xs_F} {f b : Nat} (h : F.2.2.findIdx? (xs_is f b) = none) (e : xs_rm F = (F1, true)) (e2 : xs_inE F1 f b = (F2, true)) : xs_get F f b = ((xs_in F1 f b).1, true) := by
  obtain ⟨x, -, hx⟩ := xs_in_l e2
  unfold xs_get
  rw [h]
  show (if (xs_rm F).2 = true then _ else _) = _
  rw [e, if_pos rfl]
  show xs_in F1 f b = _
  rw [hx]
theorem xs_rot_e {l : List xs_B} {x : xs_B} : ((l ++ [x])[l.length + 1 - 1]?).toList ++ (l ++ [x]).eraseIdx (l.length + 1 - 1) = x :: l := by
  rw [Nat.add_sub_cancel, List.getElem?_append_right (Nat.le_refl _), Nat.sub_self, List.eraseIdx_append_of_length_le (Nat.le_refl _), Nat.sub_self]
  show [x] ++ (l ++ []) = _
  rw [List.append_nil]
  rfl

set_option maxRecDepth 20000 in
set_option maxHeartbeats 4000000 in
theorem l_rot {E : xk_E} {n : Nat} {Q : xk_Q} {m : xk_M} {r : xk_P} {β : Nat → Nat} {p : Nat} {v1 v2 v3 v4 : Option xk_V} (hn : 74 ≤ n) (hS0 : xr_S r n) (hβ : ∀ i, i < 5 → β i < 5 ∧ r 9 i = some (10 + 2 * β i)) (hp : p < 5) (hK : xk_W E m_Cache_getBlock 75 [some (.inr (some 7)), v1, v2, v3, v4, some (.inl (nI 0))] [] n m (xk_sh r p 0) 0 0 Q) : ∀ (k : Nat) (i : Nat), i - 0 < k → i ≤ p → xk_W E m_Cache_getBlock 48 [some (.inr (some 7)), v1, v2, v3, v4, some (.inl (nI i))] [] n m (xk_sh r p i) 0 0 Q := by
  intro k
  induction k with
  | zero => intro i h; exact absurd h (Nat.not_lt_zero _)
  | succ k ih =>
    intro i hk hi
    have hS := xr_S_sh (i := i) hS0 hp
    refine xk_iload (pc := 48) d_Cache_getBlock_48 rfl ?_
    first | refine xk_if_leN (pc := 50) (tgt := 75) d_Cache_getBlock_50 rfl (by omega) (fun c_50 => ?_) (fun c_50 => ?_) | refine xk_if_le (pc := 50) (tgt := 75) d_Cache_getBlock_50 rfl (fun c_50 => ?_) (fun c_50 => ?_)
    · subst c_50
      exact hK
    · obtain ⟨a, rfl⟩ : ∃ a, i = a + 1 := ⟨i - 1, by omega⟩
      have hkb := xr_kd_blk _ (hβ a (by omega)).1
      have hb5 := (hβ a (by omega)).1
      refine xk_aload_n (pc := 53) d_Cache_getBlock_53 rfl ?_
      refine xk_getRo (pc := 54) d_Cache_getBlock_54 fl_Cache_17 (by first | rfl | assumption) rfl (by omega) (by omega) (hS _ _ _ rfl (by omega)) ?_
      refine xk_iload (pc := 57) d_Cache_getBlock_57 rfl ?_
      refine xk_aload_n (pc := 59) d_Cache_getBlock_59 rfl ?_
      refine xk_getRo (pc := 60) d_Cache_getBlock_60 fl_Cache_17 (by first | rfl | assumption) rfl (by omega) (by omega) (hS _ _ _ rfl (by omega)) ?_
      refine xk_iload (pc := 63) d_Cache_getBlock_63 rfl ?_
      refine xk_iconst (pc := 65) (v := nI 1) d_Cache_getBlock_65 (by decide) ?_
      first | refine xk_isubN (pc := 66) d_Cache_getBlock_66 (by omega) ?_ | refine xk_isub (pc := 66) d_Cache_getBlock_66 ?_
      refine xk_aaloado (pc := 67) d_Cache_getBlock_67 (by first | rfl | assumption) (by decide) (by decide) (by omega) (by omega) rfl (by omega) (by decide) ((xk_sh_lo (by omega)).trans (hβ a (by omega)).2) ?_
      refine xk_aastore (pc := 68) (ci := 0) d_Cache_getBlock_68 rfl (by decide) (by decide) (by omega) (by omega) rfl (by omega) (by decide) hkb rfl rfl (by omega) (by omega) ?_
      rw [xk_sh_s (by omega) (hβ a (by omega)).2]
      refine xk_iincM (pc := 69) d_Cache_getBlock_69 rfl ?_
      refine xk_goto (pc := 72) (tgt := 48) d_Cache_getBlock_72 rfl ?_
      exact ih a (by omega) (by omega)

set_option maxRecDepth 20000 in
set_option maxHeartbeats 4000000 in
theorem s_gb37 {E : xk_E} {n : Nat} {m : xk_M} {r : xk_P} {Q : xk_Q} (hn : 74 ≤ n) (hS : xr_S r n) {l : List xs_B} {β : Nat → Nat} {p : Nat} {v1 v2 : Option xk_V} (hz : m 7 3 = nI l.length) (hl5 : l.length ≤ 5) (hβ : ∀ i, i < 5 → β i < 5 ∧ r 9 i = some (10 + 2 * β i)) (hinj : ∀ i j, i < 5 → j < 5 → β i = β j → i = j) (hB : ∀ (i : Nat) (x : xs_B), l[i]? = some x → xr_B x (10 + 2 * β i) m) (hp : p < l.length)
    (hQ : ∀ r', xr_C ((l[p]?).toList ++ l.eraseIdx p) m r' → r' 9 0 = some (10 + 2 * β p) → (∀ a, a ≠ 9 → r' a = r a) → Q (some (.inr (some (10 + 2 * β p)))) n m r') : xk_W E m_Cache_getBlock 37 [some (.inr (some 7)), v1, v2, some (.inl (nI p)), none, none] [] n m r 0 0 Q := by
  refine xk_aload_n (pc := 37) d_Cache_getBlock_37 rfl ?_
  refine xk_getRo (pc := 38) d_Cache_getBlock_38 fl_Cache_17 (by first | rfl | assumption) rfl (by omega) (by omega) (hS _ _ _ rfl (by omega)) ?_
  refine xk_iload_n (pc := 41) d_Cache_getBlock_41 rfl ?_
  refine xk_aaloado (pc := 42) d_Cache_getBlock_42 (by first | rfl | assumption) (by decide) (by decide) (by omega) (by omega) rfl (by omega) (by decide) (hβ p (by omega)).2 ?_
  refine xk_astore (pc := 43) d_Cache_getBlock_43 (by decide) ?_
  refine xk_iload_n (pc := 45) d_Cache_getBlock_45 rfl ?_
  refine xk_istore (pc := 46) d_Cache_getBlock_46 (by decide) ?_
  have K := fun hK => l_rot (E := E) (n := n) (Q := Q) (m := m) (p := p) (v1 := v1) (v2 := v2) (v3 := some (.inl (nI p))) (v4 := some (.inr (some (10 + 2 * β p)))) hn hS hβ (by omega) hK (p + 1) p (by omega) (by omega)
  rw [xk_sh_0] at K
  have hS := xr_S_sh (p := p) (i := 0) hS (by omega)
  have hkb := xr_kd_blk _ (hβ p (by omega)).1
  have hb5 := (hβ p (by omega)).1
  refine K ?_
  refine xk_aload_n (pc := 75) d_Cache_getBlock_75 rfl ?_
  refine xk_getRo (pc := 76) d_Cache_getBlock_76 fl_Cache_17 (by first | rfl | assumption) rfl (by omega) (by omega) (hS _ _ _ rfl (by omega)) ?_
  refine xk_iconst (pc := 79) (v := nI 0) d_Cache_getBlock_79 (by decide) ?_
  refine xk_aload (pc := 80) d_Cache_getBlock_80 rfl ?_
  refine xk_aastore (pc := 82) (ci := 0) d_Cache_getBlock_82 rfl (by decide) (by decide) (by omega) (by omega) rfl (by omega) (by decide) hkb rfl rfl (by omega) (by omega) ?_
  refine xk_aload (pc := 83) d_Cache_getBlock_83 rfl ?_
  refine xk_aret (pc := 85) rfl d_Cache_getBlock_85 rfl (Nat.le_of_ble_eq_true rfl) (Nat.le_of_ble_eq_true rfl) ?_
  exact hQ _ (xr_C_rot hz hl5 hβ hinj hB hp) xk_up_s (fun a ha => by funext k; rw [xk_up_a ha, xk_sh_a ha])

set_option maxRecDepth 20000 in
set_option maxHeartbeats 4000000 in
theorem c_Cache_getBlock {E : xk_E} {n : Nat} {m : xk_M} {r : xk_P} {Q : xk_Q} (hn : 74 ≤ n) (hS : xr_S r n) {F : xs_F} (hF : xr_F F m r) (hok : xs_okF F) (hsm : xs_small F) {f b : Nat} (hf : f < 8) (hb : b < 4)
    (h1 : ∀ F' m' r' j, xs_get F f b = (F', true) → xr_F F' m' r' → j < 5 → r' 9 0 = some (10 + 2 * j) → (∀ a, 20 ≤ a → m' a = m a) → (∀ a, a ≠ 9 → r' a = r a) → Q (some (.inr (some (10 + 2 * j)))) n m' r')
    (h0 : ∀ F' m', xs_get F f b = (F', false) → xr_F F' m' r → (∀ a, 20 ≤ a → m' a = m a) → Q (some (.inr none)) n m' r)
    (hokr : ∀ F', xs_rm F = (F', true) → xs_okF F' ∧ xs_small F' ∧ F'.2.2.length < 5) : xk_W E m_Cache_getBlock 0 (xk_ent m_Cache_getBlock [.inr (some 7), .inl (nI f), .inl (nI b)]) [] n m r 0 0 Q := by
  show xk_W E m_Cache_getBlock 0 [some (.inr (some 7)), some (.inl (nI f)), some (.inl (nI b)), none, none, none] [] n m r 0 0 Q
  refine xk_aload_n (pc := 0) d_Cache_getBlock_0 rfl ?_
  refine xk_iload_n (pc := 1) d_Cache_getBlock_1 rfl ?_
  refine xk_iload_n (pc := 2) d_Cache_getBlock_2 rfl ?_
  refine xk_cV2 (pc := 3) d_Cache_getBlock_3 ml_Cache_37 cz_Cache_find ⟨rfl, rfl⟩ rfl (by first | rfl | assumption) (by omega) (by omega) (Nat.le_of_ble_eq_true rfl) ⟨(Nat.le_of_ble_eq_true rfl), (Nat.le_of_ble_eq_true rfl)⟩ ?_
  refine c_Cache_find hn hS hF hok hf hb (fun i ei hi => ?_) (fun e => ?_)
  · refine xk_istore_n (pc := 6) d_Cache_getBlock_6 (by decide) ?_
    refine xk_iload_n (pc := 7) d_Cache_getBlock_7 rfl ?_
    refine xk_iconst (pc := 8) (v := (-1)) d_Cache_getBlock_8 (by decide) ?_
    first | refine xk_icmp_neN (pc := 9) (tgt := 37) d_Cache_getBlock_9 rfl (by omega) (by omega) (fun c_9 => ?_) (fun c_9 => ?_) | refine xk_icmp_ne (pc := 9) (tgt := 37) d_Cache_getBlock_9 rfl (fun c_9 => ?_) (fun c_9 => ?_)
    · first
        | (obtain ⟨hz, hl5, β, hβ, hinj, hB⟩ := hF2.2.2
           refine s_gb37 (l := F2.2.2) hn hS hz hl5 hβ hinj hB (p := F1.2.2.length + 1 - 1) (by rw [hx, List.length_append]; show F1.2.2.length + 1 - 1 < F1.2.2.length + 1; omega) (fun r' hC h9 hr' => ?_)
           refine h1 (F2.1, F2.2.1, x :: F1.2.2) m2 r' _ ((xs_get_in e e1 e2).trans (by rw [hin])) ⟨hF2.1, hF2.2.1, ?_⟩ (hβ _ (by omega)).1 h9 (fun a ha => (hm2 a ha).trans (hm1 a ha)) hr'
           rw [hx, xs_rot_e] at hC
           exact hC)
        | (obtain ⟨hz, hl5, β, hβ, hinj, hB⟩ := hF.2.2
           refine s_gb37 (l := F.2.2) hn hS hz hl5 hβ hinj hB (p := i) hi (fun r' hC h9 hr' => ?_)
           exact h1 _ m r' _ (xs_get_fi ei) ⟨hF.1, hF.2.1, hC⟩ (hβ _ (by omega)).1 h9 (fun _ _ => rfl) hr')
    · exact absurd c_9 (xs_nm1 (by have := hok.2.2.2.2.1; omega))
  · refine xk_istore_n (pc := 6) d_Cache_getBlock_6 (by decide) ?_
    refine xk_iload_n (pc := 7) d_Cache_getBlock_7 rfl ?_
    refine xk_iconst (pc := 8) (v := (-1)) d_Cache_getBlock_8 (by decide) ?_
    refine xk_icmp_ne (pc := 9) (tgt := 37) d_Cache_getBlock_9 rfl (fun h => absurd (by decide) h) (fun _ => ?_)
    refine xk_aload_n (pc := 12) d_Cache_getBlock_12 rfl ?_
    refine xk_cV0 (pc := 13) d_Cache_getBlock_13 ml_Cache_41 cz_Cache_makeRoom ⟨rfl, rfl⟩ rfl (by first | rfl | assumption) (by omega) (by omega) (Nat.le_of_ble_eq_true rfl) ⟨(Nat.le_of_ble_eq_true rfl), (Nat.le_of_ble_eq_true rfl)⟩ ?_
    refine c_Cache_makeRoom hn hS hF hok hsm (fun F1 m1 e1 hF1 hm1 => ?_) (fun F1 m1 e1 hF1 hm1 => ?_)
    · obtain ⟨hok1, hsm1, hl1⟩ := hokr F1 e1
      refine xk_if_eq (pc := 16) (tgt := 28) d_Cache_getBlock_16 rfl (fun h => absurd h (by decide)) (fun _ => ?_)
      refine xk_aload_n (pc := 19) d_Cache_getBlock_19 rfl ?_
      refine xk_iload_n (pc := 20) d_Cache_getBlock_20 rfl ?_
      refine xk_iload_n (pc := 21) d_Cache_getBlock_21 rfl ?_
      refine xk_cV2 (pc := 22) d_Cache_getBlock_22 ml_Cache_45 cz_Cache_bringIn ⟨rfl, rfl⟩ rfl (by first | rfl | assumption) (by omega) (by omega) (Nat.le_of_ble_eq_true rfl) ⟨(Nat.le_of_ble_eq_true rfl), (Nat.le_of_ble_eq_true rfl)⟩ ?_
      refine c_Cache_bringIn hn hS hF1 hok1 hsm1 hf hb hl1 (fun F2 m2 e2 hF2 hm2 => ?_) (fun F2 m2 e2 hF2 hm2 => ?_)
      · obtain ⟨x, hx, hin⟩ := xs_in_l e2
        have hz2 := hF2.2.2.1
        rw [hx, List.length_append] at hz2
        change m2 7 3 = nI (F1.2.2.length + 1) at hz2
        refine xk_if_ne (pc := 25) (tgt := 30) d_Cache_getBlock_25 rfl (fun _ => ?_) (fun h => absurd h (by decide))
        refine xk_aload_n (pc := 30) d_Cache_getBlock_30 rfl ?_
        refine xk_getIo (pc := 31) d_Cache_getBlock_31 fl_Cache_21 (by first | rfl | assumption) rfl (by omega) (by omega) hz2 ?_
        refine xk_iconst (pc := 34) (v := nI 1) d_Cache_getBlock_34 (by decide) ?_
        first | refine xk_isubN (pc := 35) d_Cache_getBlock_35 (by omega) ?_ | refine xk_isub (pc := 35) d_Cache_getBlock_35 ?_
        refine xk_istore_n (pc := 36) d_Cache_getBlock_36 (by decide) ?_
        first
          | (obtain ⟨hz, hl5, β, hβ, hinj, hB⟩ := hF2.2.2
             refine s_gb37 (l := F2.2.2) hn hS hz hl5 hβ hinj hB (p := F1.2.2.length + 1 - 1) (by rw [hx, List.length_append]; show F1.2.2.length + 1 - 1 < F1.2.2.length + 1; omega) (fun r' hC h9 hr' => ?_)
             refine h1 (F2.1, F2.2.1, x :: F1.2.2) m2 r' _ ((xs_get_in e e1 e2).trans (by rw [hin])) ⟨hF2.1, hF2.2.1, ?_⟩ (hβ _ (by omega)).1 h9 (fun a ha => (hm2 a ha).trans (hm1 a ha)) hr'
             rw [hx, xs_rot_e] at hC
             exact hC)
          | (obtain ⟨hz, hl5, β, hβ, hinj, hB⟩ := hF.2.2
             refine s_gb37 (l := F.2.2) hn hS hz hl5 hβ hinj hB (p := i) hi (fun r' hC h9 hr' => ?_)
             exact h1 _ m r' _ (xs_get_fi ei) ⟨hF.1, hF.2.1, hC⟩ (hβ _ (by omega)).1 h9 (fun _ _ => rfl) hr')
      · refine xk_if_ne (pc := 25) (tgt := 30) d_Cache_getBlock_25 rfl (fun h => absurd (by decide) h) (fun _ => ?_)
        refine xk_null (pc := 28) d_Cache_getBlock_28 ?_
        refine xk_aret (pc := 29) rfl d_Cache_getBlock_29 rfl (Nat.le_of_ble_eq_true rfl) (Nat.le_of_ble_eq_true rfl) ?_
        first | exact h0 F2 m2 (xs_get_nin e e1 e2) hF2 (fun a ha => (hm2 a ha).trans (hm1 a ha)) | exact h0 F1 m1 (xs_get_nrm e e1) hF1 hm1
    · refine xk_if_eq (pc := 16) (tgt := 28) d_Cache_getBlock_16 rfl (fun _ => ?_) (fun h => absurd (by decide) h)
      refine xk_null (pc := 28) d_Cache_getBlock_28 ?_
      refine xk_aret (pc := 29) rfl d_Cache_getBlock_29 rfl (Nat.le_of_ble_eq_true rfl) (Nat.le_of_ble_eq_true rfl) ?_
      first | exact h0 F2 m2 (xs_get_nin e e1 e2) hF2 (fun a ha => (hm2 a ha).trans (hm1 a ha)) | exact h0 F1 m1 (xs_get_nrm e e1) hF1 hm1
