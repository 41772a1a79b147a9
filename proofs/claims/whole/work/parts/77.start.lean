set_option maxRecDepth 20000 in
set_option maxHeartbeats 4000000 in
theorem l_law {E : xk_E} {Q : xk_Q} (hL : E.2.2.2.2.2.1 ≤ 2048) (h4L : 4 ≤ E.2.2.2.2.2.1) : ∀ (k : Nat) (i : Nat) (n : Nat) (ce : Nat) (sl : Nat) (s : xs_S) (m : xk_M) (r : xk_P), E.2.2.2.2.2.1 - i < k → i ≤ 4096 → xl_I s i n ce sl m r → xk_W E m_law 18 [some (.inr (some 0)), some (.inr (some 1)), some (.inr (some 53)), some (.inl (nI i))] [] n m r ce sl Q := by
  intro k
  induction k with
  | zero => intro i n ce sl s m r h; exact absurd h (Nat.not_lt_zero _)
  | succ k ih =>
    intro i n ce sl s m r hk hi16 hI
    have hce := hI.2.2.2.2.2.1
    have hsl := hI.2.2.2.2.2.2
    refine xk_iload_n (pc := 18) d_law_18 rfl ?_
    refine xk_aload_n (pc := 19) d_law_19 rfl ?_
    refine xk_slen (pc := 20) d_law_20 ?_
    refine xk_iconst (pc := 21) (v := nI 4) d_law_21 (by decide) ?_
    first | refine xk_isubN (pc := 22) d_law_22 (by omega) ?_ | refine xk_isub (pc := 22) d_law_22 ?_
    first | refine xk_icmp_gtN (pc := 23) (tgt := 744) d_law_23 rfl (by omega) (by omega) (fun c_23 => ?_) (fun c_23 => ?_) | refine xk_icmp_gt (pc := 23) (tgt := 744) d_law_23 rfl (fun c_23 => ?_) (fun c_23 => ?_)
    · refine xk_iconst (pc := 744) (v := nI 1) d_law_744 (by decide) ?_
      exact xk_lret (pc := 745) d_law_745 (by omega) (by omega)
    · have hi4 : i + 4 ≤ E.2.2.2.2.2.1 := by omega
      refine xk_aload_n (pc := 26) d_law_26 rfl ?_
      refine xk_iload_n (pc := 27) d_law_27 rfl ?_
      refine xk_sld (pc := 28) d_law_28 rfl (by omega) (by omega) ?_
      refine xk_bipush (pc := 29) (v := nI 31) d_law_29 (by decide) ?_
      refine xk_iand (pc := 31) d_law_31 ?_
      have hKK : ∀ s' n' ce' sl' m' r', xl_I s' (i + 4) n' ce' sl' m' r' → xk_W E m_law 18 [some (.inr (some 0)), some (.inr (some 1)), some (.inr (some 53)), some (.inl (nI (i + 4)))] [] n' m' r' ce' sl' Q := fun s' n' ce' sl' m' r' hI' => ih (i + 4) n' ce' sl' s' m' r' (by omega) (by omega) hI'
      cases hx : xs_nat (E.2.2.2.2.2.2 i &&& nI 31) 20 with
      | none => exact xk_tableOut (pc := 32) (tgt := 738) d_law_32 (xs_nat_o hx) (by decide) (s_law738 hL hi4 hI hKK)
      | some j =>
        obtain ⟨e, hj⟩ := xs_nat_x hx (by decide)
        clear hx
        match j, hj, e with
        | 0, _, e => rw [e]; exact xk_tableIn (pc := 32) (tgt := 128) d_law_32 (by decide) (by decide) rfl rfl (s_law_put hL hi4 hI hKK)
        | 1, _, e => rw [e]; exact xk_tableIn (pc := 32) (tgt := 171) d_law_32 (by decide) (by decide) rfl rfl (s_law_policy hL hi4 hI hKK)
        | 2, _, e => rw [e]; exact xk_tableIn (pc := 32) (tgt := 204) d_law_32 (by decide) (by decide) rfl rfl (s_law_failing hL hi4 hI hKK)
        | 3, _, e => rw [e]; exact xk_tableIn (pc := 32) (tgt := 227) d_law_32 (by decide) (by decide) rfl rfl (s_law_open hL hi4 hI hKK)
        | 4, _, e => rw [e]; exact xk_tableIn (pc := 32) (tgt := 270) d_law_32 (by decide) (by decide) rfl rfl (s_law_pipe hL hi4 hI hKK)
        | 5, _, e => rw [e]; exact xk_tableIn (pc := 32) (tgt := 293) d_law_32 (by decide) (by decide) rfl rfl (s_law_read hL hi4 hI hKK)
        | 6, _, e => rw [e]; exact xk_tableIn (pc := 32) (tgt := 326) d_law_32 (by decide) (by decide) rfl rfl (s_law_write hL hi4 hI hKK)
        | 7, _, e => rw [e]; exact xk_tableIn (pc := 32) (tgt := 369) d_law_32 (by decide) (by decide) rfl rfl (s_law_seek hL hi4 hI hKK)
        | 8, _, e => rw [e]; exact xk_tableIn (pc := 32) (tgt := 412) d_law_32 (by decide) (by decide) rfl rfl (s_law_sync hL hi4 hI hKK)
        | 9, _, e => rw [e]; exact xk_tableIn (pc := 32) (tgt := 445) d_law_32 (by decide) (by decide) rfl rfl (s_law_dup hL hi4 hI hKK)
        | 10, _, e => rw [e]; exact xk_tableIn (pc := 32) (tgt := 478) d_law_32 (by decide) (by decide) rfl rfl (s_law_close hL hi4 hI hKK)
        | 11, _, e => rw [e]; exact xk_tableIn (pc := 32) (tgt := 511) d_law_32 (by decide) (by decide) rfl rfl (s_law_unlink hL hi4 hI hKK)
        | 12, _, e => rw [e]; exact xk_tableIn (pc := 32) (tgt := 544) d_law_32 (by decide) (by decide) rfl rfl (s_law_fork hL hi4 hI hKK)
        | 13, _, e => rw [e]; exact xk_tableIn (pc := 32) (tgt := 567) d_law_32 (by decide) (by decide) rfl rfl (s_law_exit hL hi4 hI hKK)
        | 14, _, e => rw [e]; exact xk_tableIn (pc := 32) (tgt := 600) d_law_32 (by decide) (by decide) rfl rfl (s_law_wait hL hi4 hI hKK)
        | 15, _, e => rw [e]; exact xk_tableIn (pc := 32) (tgt := 623) d_law_32 (by decide) (by decide) rfl rfl (s_law_crash hL hi4 hI hKK)
        | 16, _, e => rw [e]; exact xk_tableIn (pc := 32) (tgt := 636) d_law_32 (by decide) (by decide) rfl rfl (s_law_host hL hi4 hI hKK)
        | 17, _, e => rw [e]; exact xk_tableIn (pc := 32) (tgt := 669) d_law_32 (by decide) (by decide) rfl rfl (s_law_log hL hi4 hI hKK)
        | 18, _, e => rw [e]; exact xk_tableIn (pc := 32) (tgt := 692) d_law_32 (by decide) (by decide) rfl rfl (s_law_cached hL hi4 hI hKK)
        | 19, _, e => rw [e]; exact xk_tableIn (pc := 32) (tgt := 715) d_law_32 (by decide) (by decide) rfl rfl (s_law_count hL hi4 hI hKK)
        | j + 20, hj, _ => exact absurd hj (by omega)

def xs_0 : xs_S := (((fun _ => false, fun _ => 0, fun _ _ => 0, fun _ => 0, 0, 0), fun _ => 0, []), fun _ => 2, (fun _ => none, fun _ => 0, fun _ => 0, fun _ => 0, fun _ => 0, fun _ => []), (fun q => if q = 1 then 1 else 0, fun _ => 0, fun _ => 0))
def xz_rz : xk_P := fun _ _ => none
def xz_mz : xk_M := fun _ _ => 0
theorem xs_0_ok : xo_S xs_0 := by
  refine ⟨⟨xo_iff.mpr ⟨⟨fun f _ => ?_, fun _ _ _ _ _ => rfl, by decide⟩, fun x hx => ?_, List.Pairwise.nil, Nat.zero_le _⟩, fun _ _ => Nat.le_refl _, ⟨fun k o _ z => ?_, fun _ _ _ _ _ => rfl, fun o ho u => ?_, fun o o' _ _ u => ?_⟩, rfl, rfl, fun j hj => ?_, fun j hj hj7 hz => ?_, fun j hj hz => ?_⟩, fun x hx => ?_, fun o ho u => ?_⟩
  · exact ⟨Nat.le_refl _, Nat.zero_le _⟩
  · cases hx
  · cases z
  · rw [show xs_used xs_0.2.2.1 o = false from xs_used_none o] at u; cases u
  · rw [show xs_used xs_0.2.2.1 o = false from xs_used_none o] at u; cases u
  · show (if j = 1 then 1 else 0) ≤ 2
    split <;> decide
  · change (if j = 1 then 1 else 0) ≠ 0 at hz
    rw [if_neg (by omega)] at hz
    exact absurd rfl hz
  · change (if j = 1 then 1 else 0) = 2 at hz
    split at hz <;> cases hz
  · cases hx
  · rw [show xs_used xs_0.2.2.1 o = false from xs_used_none o] at u; cases u
theorem xs_cnt_none (o : Nat) : ∀ K, xs_cnt (fun _ => none) o K = 0
  | 0 => rfl
  | K + 1 => by
    show xs_cnt (fun _ => none) o K + (if (none : Option Nat) = some o then 1 else 0) = 0
    rw [xs_cnt_none o K, if_neg (by intro z; cases z)]
theorem xr_st_big {a q : Nat} (ha : a < 53) : xr_st a (q + 16) = none := by
  unfold xr_st
  rw [xr_blt (by omega : 16 ≤ q + 16), xr_blt (by omega : 7 ≤ q + 16), xr_beq (by omega : q + 16 ≠ 3), xr_beq (by omega : q + 16 ≠ 0), xr_beq (by omega : a ≠ 53), Bool.and_false, Bool.and_false, Bool.and_false]
  cases Nat.beq a 1 <;> cases Nat.beq a 2 <;> cases Nat.beq a 7 <;> cases Nat.beq a 21 <;> cases Nat.beq a 38 <;> rfl
theorem xz_R_st : ∀ a, a < 53 → ∀ k, k < 16 → xr_st a k = none ∨ xz_R xz_rz a k = xr_st a k := by decide +kernel
theorem xz_R_S : xr_S (xz_R xz_rz) 53 := fun a k v hv ha => by
  rcases Nat.lt_or_ge k 16 with w | w
  · rcases xz_R_st a ha k w with z | z
    · rw [z] at hv; cases hv
    · rw [z]; exact hv
  · obtain ⟨q, rfl⟩ : ∃ q, k = q + 16 := ⟨k - 16, by omega⟩
    rw [xr_st_big ha] at hv; cases hv
theorem xz_R_9 : ∀ i, i < 5 → xz_R xz_rz 9 i = some (10 + 2 * i) := by decide +kernel
theorem xz_R_d : ∀ p, p < 7 → ∀ d, d < 6 → xz_R xz_rz (40 + 2 * p) d = none := by decide +kernel
theorem xz_M_0 {a k : Nat} (h1 : a ≠ 20) (h2 : a < 39 ∨ 53 ≤ a) : xz_M xz_mz a k = 0 := by
  unfold xz_M
  rw [xk_up_a (by omega), xk_up_a (by omega)]
  unfold xz_m
  rw [if_neg (by omega), xk_fill_a h1]
  rfl
theorem xz_M_20 {k : Nat} (h : k < 8) : xz_M xz_mz 20 k = nI 2 := by
  unfold xz_M
  rw [xk_up_a (by decide), xk_up_a (by decide)]
  unfold xz_m
  rw [if_neg (by omega)]
  unfold xk_fill
  rw [if_pos (by omega)]
theorem xz_M_t {p : Nat} : xz_M xz_mz (39 + 2 * p) 0 = nI (if p = 1 then 1 else 0) := by
  unfold xz_M
  rw [xk_up_k (by decide)]
  by_cases w : p = 1
  · subst w; rw [if_pos rfl]; exact xk_up_s
  · rw [if_neg w, xk_up_a (by omega)]
    unfold xz_m
    rw [if_neg (by omega), xk_fill_a (by omega)]
    rfl
theorem xl_0 {m' : xk_M} (q1 : ∀ j, j < 7 → m' 62 j = xs_bi (decide (j = 1))) (q2 : ∀ j, j < 7 → m' 63 j = nI 0) (q3 : ∀ k, k < 42 → m' 66 k = -1) (q4 : m' 53 8 = nI 0) (q5 : m' 53 20 = xz_M xz_mz 53 20) (q6 : m' 53 21 = xz_M xz_mz 53 21) (q7 : ∀ a, a ≠ 53 → a ≠ 62 → a ≠ 63 → a ≠ 64 → a ≠ 66 → m' a = xk_fill (xz_M xz_mz) 58 0 8 (nI 2) a) : xl_I xs_0 0 74 73 2028 m' (xz_K (xz_R xz_rz)) := by
  have z : ∀ a k, a ≠ 20 → (a < 39 ∨ 53 < a) → a ≠ 58 → a ≠ 62 → a ≠ 63 → a ≠ 64 → a ≠ 66 → m' a k = 0 := fun a k a1 a2 a3 a4 a5 a6 a7 => by
    rw [q7 a (by omega) a4 a5 a6 a7, xk_fill_a a3]
    exact xz_M_0 a1 (by omega)
  have y : ∀ a, a < 53 → m' a = xz_M xz_mz a := fun a ha => by
    rw [q7 a (by omega) (by omega) (by omega) (by omega) (by omega), xk_fill_a (by omega)]
  refine ⟨⟨⟨⟨fun f hf => ?_, fun f hf => ?_, fun f i hf hi => ?_, ⟨?_, fun j _ hj => ?_⟩, ?_, ?_⟩, fun f hf => ?_, ⟨?_, Nat.zero_le _, fun i => i, fun i hi => ⟨hi, ?_⟩, fun _ _ _ _ e => e, fun i x hx => ?_⟩⟩, fun f hf => ?_, ⟨fun o ho => ?_, fun p d hp hd => ?_, fun _ => 0, fun o ho u => ?_, fun o ho u => ?_, fun o o' ho ho' u => ?_⟩, ⟨fun p hp => ?_, fun p hp hp7 w => ?_, ?_, fun p hp w => ?_⟩, xz_S xz_R_S, Nat.le_refl _⟩, ⟨⟨⟨fun f hf => ?_, fun f hf => ?_, fun f i hf hi => ?_, fun j _ hj => ?_, ?_, ?_⟩, fun f hf => ?_, ⟨q4, Nat.zero_le _, fun i x hx => ?_⟩⟩, fun f hf => ?_, ⟨fun k hk => q3 k hk, fun o ho => ?_, fun o ho => ?_, fun o ho => ?_, fun o ho => ?_, fun q hq => ?_, fun q hq i x hx => ?_⟩, ⟨fun j hj => ?_, fun j hj w => ?_, fun j hj hj7 w => ?_, fun j hj w => ?_⟩⟩, xs_0_ok, rfl, Nat.le_refl _, Nat.le_refl _, Nat.le_refl _⟩
  · exact z 3 f (by decide) (by omega) (by decide) (by decide) (by decide) (by decide) (by decide)
  · exact z 4 f (by decide) (by omega) (by decide) (by decide) (by decide) (by decide) (by decide)
  · exact z 5 _ (by decide) (by omega) (by decide) (by decide) (by decide) (by decide) (by decide)
  · exact z 2 6 (by decide) (by omega) (by decide) (by decide) (by decide) (by decide) (by decide)
  · exact absurd hj (Nat.not_lt_zero _)
  · exact z 2 4 (by decide) (by omega) (by decide) (by decide) (by decide) (by decide) (by decide)
  · exact z 2 5 (by decide) (by omega) (by decide) (by decide) (by decide) (by decide) (by decide)
  · exact z 8 f (by decide) (by omega) (by decide) (by decide) (by decide) (by decide) (by decide)
  · exact z 7 3 (by decide) (by omega) (by decide) (by decide) (by decide) (by decide) (by decide)
  · rw [xz_K_a (by decide)]; exact xz_R_9 i hi
  · change ([] : List xs_B)[i]? = some x at hx; simp at hx
  · rw [y 20 (by decide)]; exact xz_M_20 hf
  · rw [show xs_0.2.2.1.1 = fun _ => none from rfl, xs_cnt_none]
    exact z (22 + o) 0 (by omega) (by omega) (by omega) (by omega) (by omega) (by omega) (by omega)
  · rw [xz_K_a (by omega)]; exact xz_R_d p hp d hd
  · rw [show xs_used xs_0.2.2.1 o = false from xs_used_none o] at u; cases u
  · rw [show xs_used xs_0.2.2.1 o = false from xs_used_none o] at u; cases u
  · rw [show xs_used xs_0.2.2.1 o = false from xs_used_none o] at u; cases u
  · rw [y _ (by omega)]; exact xz_M_t
  · change (if p = 1 then 1 else 0) ≠ 0 at w
    rw [if_neg (by omega)] at w
    exact absurd rfl w
  · rw [y 41 (by decide)]; exact xk_up_s
  · change (if p = 1 then 1 else 0) = 2 at w
    split at w <;> cases w
  · exact z 54 f (by decide) (by omega) (by decide) (by decide) (by decide) (by decide) (by decide)
  · exact z 55 f (by decide) (by omega) (by decide) (by decide) (by decide) (by decide) (by decide)
  · exact z 56 _ (by decide) (by omega) (by decide) (by decide) (by decide) (by decide) (by decide)
  · exact absurd hj (Nat.not_lt_zero _)
  · exact q6.trans (xz_M_0 (by decide) (by omega))
  · exact q5.trans (xz_M_0 (by decide) (by omega))
  · exact z 57 f (by decide) (by omega) (by decide) (by decide) (by decide) (by decide) (by decide)
  · change ([] : List xs_B)[i]? = some x at hx; simp at hx
  · rw [q7 58 (by decide) (by decide) (by decide) (by decide) (by decide)]
    unfold xk_fill
    exact if_pos (by omega)
  · exact z 67 o (by decide) (by omega) (by decide) (by decide) (by decide) (by decide) (by decide)
  · exact z 68 o (by decide) (by omega) (by decide) (by decide) (by decide) (by decide) (by decide)
  · exact z 69 o (by decide) (by omega) (by decide) (by decide) (by decide) (by decide) (by decide)
  · exact z 70 o (by decide) (by omega) (by decide) (by decide) (by decide) (by decide) (by decide)
  · exact z 72 q (by decide) (by omega) (by decide) (by decide) (by decide) (by decide) (by decide)
  · change ([] : List Int32)[i]? = some x at hx; simp at hx
  · rw [q1 j hj]; exact xm_T1 j
  · rw [q2 j hj]; exact xm_T2 j
  · change (if j = 1 then 1 else 0) ≠ 0 at w
    rw [if_neg (by omega)] at w
    exact absurd rfl w
  · change (if j = 1 then 1 else 0) = 2 at w
    split at w <;> cases w
theorem xl_short : ∀ L, L < 4 → nI L - nI 4 < nI 0 := by decide

set_option maxRecDepth 20000 in
set_option maxHeartbeats 4000000 in
theorem s_law0 {E : xk_E} {Q : xk_Q} (hL : E.2.2.2.2.2.1 ≤ 2048) : xk_W E m_law 0 [some (.inr (some 0)), none, none, none] [] 1 xz_mz xz_rz 0 0 Q := by
  refine xk_new (pc := 0) (ci := 6) d_law_0 (by first | rfl | assumption) rfl (by decide) (xk_in (List.mem_of_getElem? (i := 46) (by decide +kernel)) rfl) (xk_in (List.mem_of_getElem? (i := 47) (by decide +kernel)) rfl) (xk_in (List.mem_of_getElem? (i := 35) (by decide +kernel)) rfl) (show 0 + 1 ≤ 600000 by decide) (show 0 + 5 ≤ 7302250 by decide) (fun hz_0 => ?_)
  refine xk_dup (pc := 3) d_law_3 ?_
  refine xk_cI0 (pc := 4) d_law_4 ml_L_9 cz_K_init rfl (Nat.le_of_ble_eq_true rfl) (show 0 + 1 + 51 ≤ 600000 by decide) (show 0 + 5 + 1000 ≤ 7302250 by decide) ?_
  refine c_K_init (fun _ _ => rfl) (fun _ _ => rfl) ?_
  refine xk_astore_n (pc := 7) d_law_7 (by decide) ?_
  refine xk_new (pc := 8) (ci := 7) d_law_8 (by first | rfl | assumption) rfl (by decide) (xk_in (List.mem_of_getElem? (i := 566) (by decide +kernel)) rfl) (xk_in (List.mem_of_getElem? (i := 567) (by decide +kernel)) rfl) (xk_in (List.mem_of_getElem? (i := 42) (by decide +kernel)) rfl) (show 0 + 1 + 51 + 1 ≤ 600000 by decide) (show 0 + 5 + 1000 + 23 ≤ 7302250 by decide) (fun hz_8 => ?_)
  refine xk_dup (pc := 11) d_law_11 ?_
  refine xk_cI0 (pc := 12) d_law_12 ml_L_12 cz_M_init rfl (Nat.le_of_ble_eq_true rfl) (show 0 + 1 + 51 + 1 + 20 ≤ 600000 by decide) (show 0 + 5 + 1000 + 23 + 1000 ≤ 7302250 by decide) ?_
  refine c_M_init xz_R_S (fun m1 q1 q2 q3 q4 q5 q6 q7 => ?_)
  refine xk_astore_n (pc := 15) d_law_15 (by decide) ?_
  refine xk_iconst (pc := 16) (v := nI 0) d_law_16 (by decide) ?_
  refine xk_istore_n (pc := 17) d_law_17 (by decide) ?_
  have hI := xl_0 q1 q2 q3 q4 q5 q6 q7
  by_cases h4 : 4 ≤ E.2.2.2.2.2.1
  · exact l_law hL h4 (E.2.2.2.2.2.1 + 1) 0 74 73 2028 xs_0 m1 _ (by omega) (by omega) hI
  · refine xk_iload_n (pc := 18) d_law_18 rfl ?_
    refine xk_aload_n (pc := 19) d_law_19 rfl ?_
    refine xk_slen (pc := 20) d_law_20 ?_
    refine xk_iconst (pc := 21) (v := nI 4) d_law_21 (by decide) ?_
    refine xk_isub (pc := 22) d_law_22 ?_
    refine xk_icmp_gt (pc := 23) (tgt := 744) d_law_23 rfl (fun _ => ?_) (fun c => absurd (xl_short _ (by omega)) c)
    refine xk_iconst (pc := 744) (v := nI 1) d_law_744 (by decide) ?_
    exact xk_lret (pc := 745) d_law_745 (by decide) (by decide)
