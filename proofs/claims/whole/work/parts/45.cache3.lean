/-- a block comes in behind the others -/
def xs_inE (F : xs_F) (f b : Nat) : xs_F × Bool :=
  if 8 * b < F.2.1 f then
    (if (xs_op F.1 0 f b).2 = true then (((xs_op F.1 0 f b).1, F.2.1, F.2.2 ++ [(f, b, false, fun k => F.1.2.2.1 f (8 * b + k))]), true) else (((xs_op F.1 0 f b).1, F.2), false))
  else ((F.1, F.2.1, F.2.2 ++ [(f, b, false, fun _ => 0)]), true)
theorem xr_C_push {l : List xs_B} {m m' : xk_M} {r : xk_P} {β : Nat → Nat} {x : xs_B} (hβ : ∀ i, i < 5 → β i < 5 ∧ r 9 i = some (10 + 2 * β i)) (hinj : ∀ i j, i < 5 → j < 5 → β i = β j → i = j) (hB : ∀ (i : Nat) (x : xs_B), l[i]? = some x → xr_B x (10 + 2 * β i) m) (hlen : l.length < 5) (hx : xr_B x (10 + 2 * β l.length) m') (h7 : m' 7 3 = nI (l.length + 1)) (hk : ∀ a, 10 ≤ a → a < 20 → a ≠ 10 + 2 * β l.length → a ≠ 11 + 2 * β l.length → m' a = m a) : xr_C (l ++ [x]) m' r := by
  refine ⟨by rw [List.length_append]; exact h7, by rw [List.length_append]; show l.length + 1 ≤ 5; omega, β, hβ, hinj, fun i y hy => ?_⟩
  by_cases hi : i < l.length
  · rw [List.getElem?_append_left hi] at hy
    have b1 := (hβ i (by omega)).1
    have hne : β i ≠ β l.length := fun q => by have := hinj i l.length (by omega) (by omega) q; omega
    exact xr_B_kept (hB i y hy) (hk _ (by omega) (by omega) (by omega) (by omega)) (hk _ (by omega) (by omega) (by omega) (by omega))
  · rw [List.getElem?_append_right (by omega)] at hy
    have h0 : i - l.length < 1 := xs_lt hy
    rw [show i - l.length = 0 by omega] at hy
    cases hy
    rw [show i = l.length by omega]
    exact hx

set_option maxRecDepth 20000 in
set_option maxHeartbeats 4000000 in
theorem c_Cache_bringIn {E : xk_E} {n : Nat} {m : xk_M} {r : xk_P} {Q : xk_Q} (hn : 74 ≤ n) (hS : xr_S r n) {F : xs_F} (hF : xr_F F m r) (hok : xs_okF F) (hsm : xs_small F) {f b : Nat} (hf : f < 8) (hb : b < 4) (hlen : F.2.2.length < 5) (h1 : ∀ F' m', xs_inE F f b = (F', true) → xr_F F' m' r → (∀ a, 20 ≤ a → m' a = m a) → Q (some (.inl (nI 1))) n m' r) (h0 : ∀ F' m', xs_inE F f b = (F', false) → xr_F F' m' r → (∀ a, 20 ≤ a → m' a = m a) → Q (some (.inl (nI 0))) n m' r) : xk_W E m_Cache_bringIn 0 (xk_ent m_Cache_bringIn [.inr (some 7), .inl (nI f), .inl (nI b)]) [] n m r 0 0 Q := by
  show xk_W E m_Cache_bringIn 0 [some (.inr (some 7)), some (.inl (nI f)), some (.inl (nI b)), none] [] n m r 0 0 Q
  obtain ⟨hz, hl5, β, hβ, hinj, hB⟩ := hF.2.2
  obtain ⟨hj, hr9⟩ := hβ F.2.2.length hlen
  have hkb := xr_kd_blk _ hj
  have hkc := xr_kd_bc _ hj
  have hlf := (hok.1 f hf).2
  refine xk_aload_n (pc := 0) d_Cache_bringIn_0 rfl ?_
  refine xk_getRo (pc := 1) d_Cache_bringIn_1 fl_Cache_17 (by first | rfl | assumption) rfl (by omega) (by omega) (hS _ _ _ rfl (by omega)) ?_
  refine xk_aload_n (pc := 4) d_Cache_bringIn_4 rfl ?_
  refine xk_getIo (pc := 5) d_Cache_bringIn_5 fl_Cache_21 (by first | rfl | assumption) rfl (by omega) (by omega) hz ?_
  refine xk_aaloado (pc := 8) d_Cache_bringIn_8 (by first | rfl | assumption) (by decide) (by decide) (by omega) (by omega) rfl (by omega) (by decide) hr9 ?_
  refine xk_astore_n (pc := 9) d_Cache_bringIn_9 (by decide) ?_
  refine xk_iload_n (pc := 10) d_Cache_bringIn_10 rfl ?_
  refine xk_bipush (pc := 11) (v := nI 8) d_Cache_bringIn_11 (by decide) ?_
  first | refine xk_imulN (pc := 13) d_Cache_bringIn_13 ?_ | refine xk_imul (pc := 13) d_Cache_bringIn_13 ?_
  refine xk_aload_n (pc := 14) d_Cache_bringIn_14 rfl ?_
  refine xk_getRo (pc := 15) d_Cache_bringIn_15 fl_Cache_9 (by first | rfl | assumption) rfl (by omega) (by omega) (hS _ _ _ rfl (by omega)) ?_
  refine xk_iload_n (pc := 18) d_Cache_bringIn_18 rfl ?_
  refine xk_ialoado (pc := 19) d_Cache_bringIn_19 (by first | rfl | assumption) (by omega) (by omega) rfl (by omega) (by decide) (hF.2.1 f hf) ?_
  first | refine xk_icmp_ltN (pc := 20) (tgt := 34) d_Cache_bringIn_20 rfl (by omega) (by omega) (fun c_20 => ?_) (fun c_20 => ?_) | refine xk_icmp_lt (pc := 20) (tgt := 34) d_Cache_bringIn_20 rfl (fun c_20 => ?_) (fun c_20 => ?_)
  · refine xk_aload_n (pc := 34) d_Cache_bringIn_34 rfl ?_
    refine xk_getRo (pc := 35) d_Cache_bringIn_35 fl_Cache_25 (by first | rfl | assumption) rfl (by omega) (by omega) (hS _ _ _ rfl (by omega)) ?_
    refine xk_iload_n (pc := 38) d_Cache_bringIn_38 rfl ?_
    refine xk_iload_n (pc := 39) d_Cache_bringIn_39 rfl ?_
    refine xk_aload_n (pc := 40) d_Cache_bringIn_40 rfl ?_
    refine xk_getRo (pc := 41) d_Cache_bringIn_41 fl_Cache_62 (by first | rfl | assumption) rfl (by omega) (by omega) (hS _ _ _ (xr_st_blk _ hj) (by omega)) ?_
    refine xk_cV3 (pc := 44) d_Cache_bringIn_44 ml_Cache_71 cz_Host_readBlock ⟨rfl, rfl⟩ rfl (by first | rfl | assumption) (by omega) (by omega) (Nat.le_of_ble_eq_true rfl) ⟨(Nat.le_of_ble_eq_true rfl), (Nat.le_of_ble_eq_true rfl)⟩ ?_
    unfold xs_small at hsm
    refine c_Host_readBlock (h := F.1) (d := 11 + 2 * β F.2.2.length) hn hS hF.1 (by omega) (by have := hok.2.2.2.2.2; omega) hf hb hkc (by omega) (by omega) (fun z m1 hR1 hd1 hm1 => ?_) (fun z m1 hR1 hm1 => ?_)
    · have hq7 : xk_up (xk_up (xk_up m1 (10 + 2 * β F.2.2.length) 0 (nI f)) (10 + 2 * β F.2.2.length) 1 (nI b)) (10 + 2 * β F.2.2.length) 2 (nI 0) 7 3 = nI F.2.2.length := by
        rw [xk_up_a (by omega), xk_up_a (by omega), xk_up_a (by omega), hm1 7 (by omega) (by omega) (by omega)]; exact hz
      refine xk_if_ne (pc := 47) (tgt := 52) d_Cache_bringIn_47 rfl (fun _ => ?_) (fun h => absurd h (by decide))
      refine xk_aload_n (pc := 52) d_Cache_bringIn_52 rfl ?_
      refine xk_iload_n (pc := 53) d_Cache_bringIn_53 rfl ?_
      refine xk_putI (pc := 54) d_Cache_bringIn_54 fl_Cache_30 (by first | rfl | assumption) rfl (fun q hq h => by cases hq; first | exact absurd h (by decide) | exact ⟨rfl, rfl, rfl⟩) ⟨rfl, rfl⟩ (by omega) (by omega) ?_
      refine xk_aload_n (pc := 57) d_Cache_bringIn_57 rfl ?_
      refine xk_iload_n (pc := 58) d_Cache_bringIn_58 rfl ?_
      refine xk_putI (pc := 59) d_Cache_bringIn_59 fl_Cache_75 (by first | rfl | assumption) rfl (fun q hq h => by cases hq; first | exact absurd h (by decide) | exact ⟨rfl, rfl, rfl⟩) ⟨rfl, rfl⟩ (by omega) (by omega) ?_
      refine xk_aload_n (pc := 62) d_Cache_bringIn_62 rfl ?_
      refine xk_iconst (pc := 63) (v := nI 0) d_Cache_bringIn_63 (by decide) ?_
      refine xk_putI (pc := 64) d_Cache_bringIn_64 fl_Cache_33 (by first | rfl | assumption) rfl (fun q hq h => by cases hq; first | exact absurd h (by decide) | exact ⟨rfl, rfl, rfl⟩) ⟨rfl, rfl⟩ (by omega) (by omega) ?_
      refine xk_aload_n (pc := 67) d_Cache_bringIn_67 rfl ?_
      refine xk_dup (pc := 68) d_Cache_bringIn_68 ?_
      refine xk_getIo (pc := 69) d_Cache_bringIn_69 fl_Cache_21 (by first | rfl | assumption) rfl (by omega) (by omega) hq7 ?_
      refine xk_iconst (pc := 72) (v := nI 1) d_Cache_bringIn_72 (by decide) ?_
      first | refine xk_iaddN (pc := 73) d_Cache_bringIn_73 ?_ | refine xk_iadd (pc := 73) d_Cache_bringIn_73 ?_
      refine xk_putI (pc := 74) d_Cache_bringIn_74 fl_Cache_21 (by first | rfl | assumption) rfl (fun q hq h => by cases hq; first | exact absurd h (by decide) | exact ⟨rfl, rfl, rfl⟩) ⟨rfl, rfl⟩ (by omega) (by omega) ?_
      refine xk_iconst (pc := 77) (v := nI 1) d_Cache_bringIn_77 (by decide) ?_
      refine xk_zret (pc := 78) rfl d_Cache_bringIn_78 rfl rfl (Nat.le_of_ble_eq_true rfl) (Nat.le_of_ble_eq_true rfl) ?_
      first
        | (have e : xs_inE F f b = ((F.1, F.2.1, F.2.2 ++ [(f, b, false, fun _ => 0)]), true) := if_neg (by omega)
           have hx : xr_B (f, b, false, fun _ => 0) (10 + 2 * β F.2.2.length) (xk_up (xk_up (xk_up (xk_up (xk_fill m (11 + 2 * β F.2.2.length) 0 8 (nI 0)) (10 + 2 * β F.2.2.length) 0 (nI f)) (10 + 2 * β F.2.2.length) 1 (nI b)) (10 + 2 * β F.2.2.length) 2 (nI 0)) 7 3 (nI (F.2.2.length + 1))) := by
             refine ⟨?_, ?_, ?_, fun k hk => ?_⟩
             · rw [xk_up_a (by omega), xk_up_k (by decide), xk_up_k (by decide), xk_up_s]
             · rw [xk_up_a (by omega), xk_up_k (by decide), xk_up_s]
             · rw [xk_up_a (by omega), xk_up_s]; rfl
             · rw [xk_up_a (by omega), xk_up_a (by omega), xk_up_a (by omega), xk_up_a (by omega), show 10 + 2 * β F.2.2.length + 1 = 11 + 2 * β F.2.2.length by omega]
               unfold xk_fill; rw [if_pos ⟨rfl, by omega, by omega⟩]; rfl
           have fr : ∀ a, a ≠ 7 → a ≠ 10 + 2 * β F.2.2.length → a ≠ 11 + 2 * β F.2.2.length → (xk_up (xk_up (xk_up (xk_up (xk_fill m (11 + 2 * β F.2.2.length) 0 8 (nI 0)) (10 + 2 * β F.2.2.length) 0 (nI f)) (10 + 2 * β F.2.2.length) 1 (nI b)) (10 + 2 * β F.2.2.length) 2 (nI 0)) 7 3 (nI (F.2.2.length + 1))) a = m a := fun a a7 a0 a1 => by
              funext k
              rw [xk_up_a a7, xk_up_a a0, xk_up_a a0, xk_up_a a0, xk_fill_a a1]
           exact h1 _ _ e ⟨xr_H_kept hF.1 (fr _ (by omega) (by omega) (by omega)) (fr _ (by omega) (by omega) (by omega)) (fr _ (by omega) (by omega) (by omega)) (fr _ (by omega) (by omega) (by omega)) (fr _ (by omega) (by omega) (by omega)), xr_L_kept hF.2.1 (fr _ (by omega) (by omega) (by omega)), xr_C_push hβ hinj hB hlen hx (xk_up_s) (fun a _ _ a0 a1 => fr a (by omega) a0 a1)⟩ (fun a ha => fr a (by omega) (by omega) (by omega)))
        | (have e : xs_inE F f b = (((xs_op F.1 0 f b).1, F.2.1, F.2.2 ++ [(f, b, false, fun k => F.1.2.2.1 f (8 * b + k))]), true) := by
            unfold xs_inE
            rw [if_pos (by omega), if_pos (show (xs_op F.1 0 f b).2 = true from decide_eq_true z)]
           have hx : xr_B (f, b, false, fun k => F.1.2.2.1 f (8 * b + k)) (10 + 2 * β F.2.2.length) (xk_up (xk_up (xk_up (xk_up m1 (10 + 2 * β F.2.2.length) 0 (nI f)) (10 + 2 * β F.2.2.length) 1 (nI b)) (10 + 2 * β F.2.2.length) 2 (nI 0)) 7 3 (nI (F.2.2.length + 1))) := by
             refine ⟨?_, ?_, ?_, fun k hk => ?_⟩
             · rw [xk_up_a (by omega), xk_up_k (by decide), xk_up_k (by decide), xk_up_s]
             · rw [xk_up_a (by omega), xk_up_k (by decide), xk_up_s]
             · rw [xk_up_a (by omega), xk_up_s]; rfl
             · rw [xk_up_a (by omega), xk_up_a (by omega), xk_up_a (by omega), xk_up_a (by omega), show 10 + 2 * β F.2.2.length + 1 = 11 + 2 * β F.2.2.length by omega]
               exact hd1 k hk
           have fr : ∀ a, a ≠ 7 → a ≠ 10 + 2 * β F.2.2.length → (xk_up (xk_up (xk_up (xk_up m1 (10 + 2 * β F.2.2.length) 0 (nI f)) (10 + 2 * β F.2.2.length) 1 (nI b)) (10 + 2 * β F.2.2.length) 2 (nI 0)) 7 3 (nI (F.2.2.length + 1))) a = m1 a := fun a a7 a0 => by
              funext k
              rw [xk_up_a a7, xk_up_a a0, xk_up_a a0, xk_up_a a0]
           exact h1 _ _ e ⟨xr_H_kept hR1 (fr _ (by omega) (by omega)) (fr _ (by omega) (by omega)) (fr _ (by omega) (by omega)) (fr _ (by omega) (by omega)) (fr _ (by omega) (by omega)), xr_L_kept hF.2.1 ((fr _ (by omega) (by omega)).trans (hm1 8 (by omega) (by omega) (by omega))), xr_C_push hβ hinj hB hlen hx (xk_up_s) (fun a _ _ a0 a1 => (fr a (by omega) a0).trans (hm1 a (by omega) (by omega) a1))⟩ (fun a ha => (fr a (by omega) (by omega)).trans (hm1 a (by omega) (by omega) (by omega))))
    · refine xk_if_ne (pc := 47) (tgt := 52) d_Cache_bringIn_47 rfl (fun h => absurd (by decide) h) (fun _ => ?_)
      refine xk_iconst (pc := 50) (v := nI 0) d_Cache_bringIn_50 (by decide) ?_
      refine xk_zret (pc := 51) rfl d_Cache_bringIn_51 rfl rfl (Nat.le_of_ble_eq_true rfl) (Nat.le_of_ble_eq_true rfl) ?_
      have e : xs_inE F f b = (((xs_op F.1 0 f b).1, F.2), false) := by
        unfold xs_inE
        rw [if_pos (by omega), if_neg (show ¬ (xs_op F.1 0 f b).2 = true from fun q => z (of_decide_eq_true q))]
      exact h0 _ m1 e ⟨hR1, xr_L_kept hF.2.1 (hm1 8 (by omega) (by omega)), xr_C_kept hF.2.2 rfl (by rw [hm1 7 (by omega) (by omega)]) (fun a _ _ => hm1 a (by omega) (by omega))⟩ (fun a _ => hm1 a (by omega) (by omega))
  · refine xk_aload_n (pc := 23) d_Cache_bringIn_23 rfl ?_
    refine xk_getRo (pc := 24) d_Cache_bringIn_24 fl_Cache_62 (by first | rfl | assumption) rfl (by omega) (by omega) (hS _ _ _ (xr_st_blk _ hj) (by omega)) ?_
    refine xk_iconst (pc := 27) (v := nI 0) d_Cache_bringIn_27 (by decide) ?_
    refine xk_cS2 (pc := 28) d_Cache_bringIn_28 ml_Cache_65 cz_Arr_fill2 ⟨rfl, rfl⟩ rfl (Nat.le_of_ble_eq_true rfl) ⟨(Nat.le_of_ble_eq_true rfl), (Nat.le_of_ble_eq_true rfl)⟩ ?_
    refine c_Arr_fill2 hkc (by omega) (by omega) (by decide) ?_
    have hq7 : xk_up (xk_up (xk_up (xk_fill m (11 + 2 * β F.2.2.length) 0 8 (nI 0)) (10 + 2 * β F.2.2.length) 0 (nI f)) (10 + 2 * β F.2.2.length) 1 (nI b)) (10 + 2 * β F.2.2.length) 2 (nI 0) 7 3 = nI F.2.2.length := by
      rw [xk_up_a (by omega), xk_up_a (by omega), xk_up_a (by omega), xk_fill_a (by omega)]; exact hz
    refine xk_goto (pc := 31) (tgt := 52) d_Cache_bringIn_31 rfl ?_
    refine xk_aload_n (pc := 52) d_Cache_bringIn_52 rfl ?_
    refine xk_iload_n (pc := 53) d_Cache_bringIn_53 rfl ?_
    refine xk_putI (pc := 54) d_Cache_bringIn_54 fl_Cache_30 (by first | rfl | assumption) rfl (fun q hq h => by cases hq; first | exact absurd h (by decide) | exact ⟨rfl, rfl, rfl⟩) ⟨rfl, rfl⟩ (by omega) (by omega) ?_
    refine xk_aload_n (pc := 57) d_Cache_bringIn_57 rfl ?_
    refine xk_iload_n (pc := 58) d_Cache_bringIn_58 rfl ?_
    refine xk_putI (pc := 59) d_Cache_bringIn_59 fl_Cache_75 (by first | rfl | assumption) rfl (fun q hq h => by cases hq; first | exact absurd h (by decide) | exact ⟨rfl, rfl, rfl⟩) ⟨rfl, rfl⟩ (by omega) (by omega) ?_
    refine xk_aload_n (pc := 62) d_Cache_bringIn_62 rfl ?_
    refine xk_iconst (pc := 63) (v := nI 0) d_Cache_bringIn_63 (by decide) ?_
    refine xk_putI (pc := 64) d_Cache_bringIn_64 fl_Cache_33 (by first | rfl | assumption) rfl (fun q hq h => by cases hq; first | exact absurd h (by decide) | exact ⟨rfl, rfl, rfl⟩) ⟨rfl, rfl⟩ (by omega) (by omega) ?_
    refine xk_aload_n (pc := 67) d_Cache_bringIn_67 rfl ?_
    refine xk_dup (pc := 68) d_Cache_bringIn_68 ?_
    refine xk_getIo (pc := 69) d_Cache_bringIn_69 fl_Cache_21 (by first | rfl | assumption) rfl (by omega) (by omega) hq7 ?_
    refine xk_iconst (pc := 72) (v := nI 1) d_Cache_bringIn_72 (by decide) ?_
    first | refine xk_iaddN (pc := 73) d_Cache_bringIn_73 ?_ | refine xk_iadd (pc := 73) d_Cache_bringIn_73 ?_
    refine xk_putI (pc := 74) d_Cache_bringIn_74 fl_Cache_21 (by first | rfl | assumption) rfl (fun q hq h => by cases hq; first | exact absurd h (by decide) | exact ⟨rfl, rfl, rfl⟩) ⟨rfl, rfl⟩ (by omega) (by omega) ?_
    refine xk_iconst (pc := 77) (v := nI 1) d_Cache_bringIn_77 (by decide) ?_
    refine xk_zret (pc := 78) rfl d_Cache_bringIn_78 rfl rfl (Nat.le_of_ble_eq_true rfl) (Nat.le_of_ble_eq_true rfl) ?_
    first
      | (have e : xs_inE F f b = ((F.1, F.2.1, F.2.2 ++ [(f, b, false, fun _ => 0)]), true) := if_neg (by omega)
         have hx : xr_B (f, b, false, fun _ => 0) (10 + 2 * β F.2.2.length) (xk_up (xk_up (xk_up (xk_up (xk_fill m (11 + 2 * β F.2.2.length) 0 8 (nI 0)) (10 + 2 * β F.2.2.length) 0 (nI f)) (10 + 2 * β F.2.2.length) 1 (nI b)) (10 + 2 * β F.2.2.length) 2 (nI 0)) 7 3 (nI (F.2.2.length + 1))) := by
           refine ⟨?_, ?_, ?_, fun k hk => ?_⟩
           · rw [xk_up_a (by omega), xk_up_k (by decide), xk_up_k (by decide), xk_up_s]
           · rw [xk_up_a (by omega), xk_up_k (by decide), xk_up_s]
           · rw [xk_up_a (by omega), xk_up_s]; rfl
           · rw [xk_up_a (by omega), xk_up_a (by omega), xk_up_a (by omega), xk_up_a (by omega), show 10 + 2 * β F.2.2.length + 1 = 11 + 2 * β F.2.2.length by omega]
             unfold xk_fill; rw [if_pos ⟨rfl, by omega, by omega⟩]; rfl
         have fr : ∀ a, a ≠ 7 → a ≠ 10 + 2 * β F.2.2.length → a ≠ 11 + 2 * β F.2.2.length → (xk_up (xk_up (xk_up (xk_up (xk_fill m (11 + 2 * β F.2.2.length) 0 8 (nI 0)) (10 + 2 * β F.2.2.length) 0 (nI f)) (10 + 2 * β F.2.2.length) 1 (nI b)) (10 + 2 * β F.2.2.length) 2 (nI 0)) 7 3 (nI (F.2.2.length + 1))) a = m a := fun a a7 a0 a1 => by
            funext k
            rw [xk_up_a a7, xk_up_a a0, xk_up_a a0, xk_up_a a0, xk_fill_a a1]
         exact h1 _ _ e ⟨xr_H_kept hF.1 (fr _ (by omega) (by omega) (by omega)) (fr _ (by omega) (by omega) (by omega)) (fr _ (by omega) (by omega) (by omega)) (fr _ (by omega) (by omega) (by omega)) (fr _ (by omega) (by omega) (by omega)), xr_L_kept hF.2.1 (fr _ (by omega) (by omega) (by omega)), xr_C_push hβ hinj hB hlen hx (xk_up_s) (fun a _ _ a0 a1 => fr a (by omega) a0 a1)⟩ (fun a ha => fr a (by omega) (by omega) (by omega)))
      | (have e : xs_inE F f b = (((xs_op F.1 0 f b).1, F.2.1, F.2.2 ++ [(f, b, false, fun k => F.1.2.2.1 f (8 * b + k))]), true) := by
          unfold xs_inE
          rw [if_pos (by omega), if_pos (show (xs_op F.1 0 f b).2 = true from decide_eq_true z)]
         have hx : xr_B (f, b, false, fun k => F.1.2.2.1 f (8 * b + k)) (10 + 2 * β F.2.2.length) (xk_up (xk_up (xk_up (xk_up m1 (10 + 2 * β F.2.2.length) 0 (nI f)) (10 + 2 * β F.2.2.length) 1 (nI b)) (10 + 2 * β F.2.2.length) 2 (nI 0)) 7 3 (nI (F.2.2.length + 1))) := by
           refine ⟨?_, ?_, ?_, fun k hk => ?_⟩
           · rw [xk_up_a (by omega), xk_up_k (by decide), xk_up_k (by decide), xk_up_s]
           · rw [xk_up_a (by omega), xk_up_k (by decide), xk_up_s]
           · rw [xk_up_a (by omega), xk_up_s]; rfl
           · rw [xk_up_a (by omega), xk_up_a (by omega), xk_up_a (by omega), xk_up_a (by omega), show 10 + 2 * β F.2.2.length + 1 = 11 + 2 * β F.2.2.length by omega]
             exact hd1 k hk
         have fr : ∀ a, a ≠ 7 → a ≠ 10 + 2 * β F.2.2.length → (xk_up (xk_up (xk_up (xk_up m1 (10 + 2 * β F.2.2.length) 0 (nI f)) (10 + 2 * β F.2.2.length) 1 (nI b)) (10 + 2 * β F.2.2.length) 2 (nI 0)) 7 3 (nI (F.2.2.length + 1))) a = m1 a := fun a a7 a0 => by
            funext k
            rw [xk_up_a a7, xk_up_a a0, xk_up_a a0, xk_up_a a0]
         exact h1 _ _ e ⟨xr_H_kept hR1 (fr _ (by omega) (by omega)) (fr _ (by omega) (by omega)) (fr _ (by omega) (by omega)) (fr _ (by omega) (by omega)) (fr _ (by omega) (by omega)), xr_L_kept hF.2.1 ((fr _ (by omega) (by omega)).trans (hm1 8 (by omega) (by omega) (by omega))), xr_C_push hβ hinj hB hlen hx (xk_up_s) (fun a _ _ a0 a1 => (fr a (by omega) a0).trans (hm1 a (by omega) (by omega) a1))⟩ (fun a ha => (fr a (by omega) (by omega)).trans (hm1 a (by omega) (by omega) (by omega))))
