/-- the file side behind an open -/
def xs_rdy (F : xs_F) (f md : Nat) : xs_F × Bool :=
  if F.1.1 f = false then (if (xs_op F.1 2 f 0).2 = true then ((xs_there (xs_clear (xs_op F.1 2 f 0).1 f) f true, xs_u F.2.1 f 0, F.2.2), true) else (((xs_op F.1 2 f 0).1, F.2), false))
  else if md / 16 = 1 then (if (xs_op F.1 3 f 0).2 = true then (xs_len (xs_drop (xs_clear (xs_op F.1 3 f 0).1 f, F.2) f) f 0, true) else (((xs_op F.1 3 f 0).1, F.2), false))
  else (F, true)
theorem xo_clear {h : xs_H} {ln : Nat → Nat} {f : Nat} (hh : xo_h h ln) : xo_h (xs_clear h f) ln := by
  obtain ⟨h1, h2, h3⟩ := hh
  refine ⟨fun g hg => ?_, fun g i hg hi hi2 => ?_, h3⟩
  · show xs_u h.2.1 f 0 g ≤ ln g ∧ ln g ≤ 32
    by_cases e : g = f
    · subst e; rw [xs_u_s]; exact ⟨Nat.zero_le _, (h1 g hg).2⟩
    · rw [xs_u_n e]; exact h1 g hg
  · show xs_u h.2.2.1 f (fun _ => 0) g i = 0
    change xs_u h.2.1 f 0 g ≤ i at hi
    by_cases e : g = f
    · subst e; rw [xs_u_s]
    · rw [xs_u_n e] at hi ⊢; exact h2 g i hg hi hi2
theorem xs_md16 {md : Nat} (h : md < 32) : ¬ md / 16 = 1 → md / 16 = 0 := fun q => by omega

set_option maxRecDepth 20000 in
set_option maxHeartbeats 4000000 in
theorem c_K_readyFile {E : xk_E} {n : Nat} {m : xk_M} {r : xk_P} {Q : xk_Q} (hn : 74 ≤ n) (hS : xr_S r n) {F : xs_F} (hF : xr_F F m r) (hok : xs_okF F) (hsm : F.1.2.2.2.2.1 + 4 < 2 ^ 20) {f md : Nat} (hf : f < 8) (hmd : md < 32) (h1 : ∀ F' m' r', xs_rdy F f md = (F', true) → xr_F F' m' r' → (∀ a, 20 ≤ a → m' a = m a) → (∀ a, a ≠ 9 → r' a = r a) → Q (some (.inl (nI 1))) n m' r') (h0 : ∀ F' m', xs_rdy F f md = (F', false) → xr_F F' m' r → (∀ a, 20 ≤ a → m' a = m a) → Q (some (.inl (nI 0))) n m' r) : xk_W E m_K_readyFile 0 (xk_ent m_K_readyFile [.inr (some 1), .inl (nI f), .inl (nI md)]) [] n m r 0 0 Q := by
  show xk_W E m_K_readyFile 0 [some (.inr (some 1)), some (.inl (nI f)), some (.inl (nI md))] [] n m r 0 0 Q
  refine xk_aload_n (pc := 0) d_K_readyFile_0 rfl ?_
  refine xk_getRo (pc := 1) d_K_readyFile_1 fl_K_10 (by first | rfl | assumption) rfl (by omega) (by omega) (hS _ _ _ rfl (by omega)) ?_
  refine xk_iload_n (pc := 4) d_K_readyFile_4 rfl ?_
  refine xk_cV1 (pc := 5) d_K_readyFile_5 ml_K_78 cz_Host_isThere ⟨rfl, rfl⟩ rfl (by first | rfl | assumption) (by omega) (by omega) (Nat.le_of_ble_eq_true rfl) ⟨(Nat.le_of_ble_eq_true rfl), (Nat.le_of_ble_eq_true rfl)⟩ ?_
  refine c_Host_isThere hn hS hf (hF.1.1 f hf) ?_
  first | refine xk_if_neN (pc := 8) (tgt := 36) d_K_readyFile_8 rfl (by omega) (fun c_8 => ?_) (fun c_8 => ?_) | refine xk_if_ne (pc := 8) (tgt := 36) d_K_readyFile_8 rfl (fun c_8 => ?_) (fun c_8 => ?_)
  · have c_9 := xs_bi_nz c_8
    refine xk_iload_n (pc := 36) d_K_readyFile_36 rfl ?_
    refine xk_bipush (pc := 37) (v := nI 16) d_K_readyFile_37 (by decide) ?_
    refine xk_iand (pc := 39) d_K_readyFile_39 ?_
    first | refine xk_if_eqN (pc := 40) (tgt := 73) d_K_readyFile_40 rfl (by omega) (fun c_40 => ?_) (fun c_40 => ?_) | refine xk_if_eq (pc := 40) (tgt := 73) d_K_readyFile_40 rfl (fun c_40 => ?_) (fun c_40 => ?_)
    · have c_41 := (xs_b16 md hmd).mp c_40
      refine xk_iconst (pc := 73) (v := nI 1) d_K_readyFile_73 (by decide) ?_
      refine xk_zret (pc := 74) rfl d_K_readyFile_74 rfl rfl (Nat.le_of_ble_eq_true rfl) (Nat.le_of_ble_eq_true rfl) ?_
      first
        | (have e : xs_rdy F f md = (xs_len (xs_drop (xs_clear (xs_op F.1 3 f 0).1 f, F.2) f) f 0, true) := (if_neg (by rw [c_9]; decide)).trans ((if_pos c_41).trans (if_pos (decide_eq_true z)))
           exact h1 _ _ _ e (xr_F_len hF2) (fun a ha => by rw [← hm1 a (by omega) (by omega) (by omega) (by omega), ← hm2 a ha]; funext k; exact xk_up_a (by omega)) hr2)
        | (have e : xs_rdy F f md = (F, true) := (if_neg (by rw [c_9]; decide)).trans (if_neg (by omega))
           exact h1 _ _ _ e hF (fun _ _ => rfl) (fun _ _ => rfl))
        | (have e : xs_rdy F f md = (xs_len (xs_there (xs_clear (xs_op F.1 2 f 0).1 f) f true, F.2) f 0, true) := (if_pos c_8).trans (if_pos (decide_eq_true z))
           exact h1 _ _ _ e (xr_F_len hF1) (fun a ha => by rw [← hm1 a (by omega) (by omega) (by omega) (by omega) (by omega)]; funext k; exact xk_up_a (by omega)) (fun _ _ => rfl))
    · have c_41 : md / 16 = 1 := by
        have : ¬ md / 16 = 0 := fun z => c_40 ((xs_b16 md hmd).mpr z)
        omega
      refine xk_aload_n (pc := 43) d_K_readyFile_43 rfl ?_
      refine xk_getRo (pc := 44) d_K_readyFile_44 fl_K_10 (by first | rfl | assumption) rfl (by omega) (by omega) (hS _ _ _ rfl (by omega)) ?_
      refine xk_iload_n (pc := 47) d_K_readyFile_47 rfl ?_
      refine xk_cV1 (pc := 48) d_K_readyFile_48 ml_K_236 cz_Host_emptyFile ⟨rfl, rfl⟩ rfl (by first | rfl | assumption) (by omega) (by omega) (Nat.le_of_ble_eq_true rfl) ⟨(Nat.le_of_ble_eq_true rfl), (Nat.le_of_ble_eq_true rfl)⟩ ?_
      refine c_Host_emptyFile hn hS hF.1 (by omega) (by have := hok.2.2.2.2.2; omega) hf (fun z m1 hR1 hm1 => ?_) (fun z m1 hR1 hm1 => ?_)
      · have hF1 : xr_F (xs_clear (xs_op F.1 3 f 0).1 f, F.2) m1 r := ⟨hR1, xr_L_kept hF.2.1 (hm1 8 (by decide) (by decide) (by decide) (by decide)), xr_C_kept hF.2.2 rfl (by rw [hm1 7 (by decide) (by decide) (by decide) (by decide)]) (fun a _ _ => hm1 a (by omega) (by omega) (by omega) (by omega))⟩
        have hok1 : xs_okF (xs_clear (xs_op F.1 3 f 0).1 f, F.2) := xo_iff.mpr ⟨xo_clear (xo_op (xo_iff.mp hok).1 3 f 0), (xo_iff.mp hok).2⟩
        refine xk_if_ne (pc := 51) (tgt := 56) d_K_readyFile_51 rfl (fun _ => ?_) (fun h => absurd h (by decide))
        refine xk_aload_n (pc := 56) d_K_readyFile_56 rfl ?_
        refine xk_getRo (pc := 57) d_K_readyFile_57 fl_K_21 (by first | rfl | assumption) rfl (by omega) (by omega) (hS _ _ _ rfl (by omega)) ?_
        refine xk_iload_n (pc := 60) d_K_readyFile_60 rfl ?_
        refine xk_cV1 (pc := 61) d_K_readyFile_61 ml_K_154 cz_Cache_dropFile ⟨rfl, rfl⟩ rfl (by first | rfl | assumption) (by omega) (by omega) (Nat.le_of_ble_eq_true rfl) ⟨(Nat.le_of_ble_eq_true rfl), (Nat.le_of_ble_eq_true rfl)⟩ ?_
        refine c_Cache_dropFile hn hS hF1 hok1 hf (fun m2 r2 hF2 hm2 hr2 => ?_)
        have hS2 := xr_S_9 hS hr2
        refine xk_aload_n (pc := 64) d_K_readyFile_64 rfl ?_
        refine xk_getRo (pc := 65) d_K_readyFile_65 fl_K_21 (by first | rfl | assumption) rfl (by omega) (by omega) (hS2 _ _ _ rfl (by omega)) ?_
        refine xk_iload_n (pc := 68) d_K_readyFile_68 rfl ?_
        refine xk_iconst (pc := 69) (v := nI 0) d_K_readyFile_69 (by decide) ?_
        refine xk_cV2 (pc := 70) d_K_readyFile_70 ml_K_68 cz_Cache_setLength ⟨rfl, rfl⟩ rfl (by first | rfl | assumption) (by omega) (by omega) (Nat.le_of_ble_eq_true rfl) ⟨(Nat.le_of_ble_eq_true rfl), (Nat.le_of_ble_eq_true rfl)⟩ ?_
        refine c_Cache_setLength hn hS2 hf ?_
        refine xk_iconst (pc := 73) (v := nI 1) d_K_readyFile_73 (by decide) ?_
        refine xk_zret (pc := 74) rfl d_K_readyFile_74 rfl rfl (Nat.le_of_ble_eq_true rfl) (Nat.le_of_ble_eq_true rfl) ?_
        first
          | (have e : xs_rdy F f md = (xs_len (xs_drop (xs_clear (xs_op F.1 3 f 0).1 f, F.2) f) f 0, true) := (if_neg (by rw [c_9]; decide)).trans ((if_pos c_41).trans (if_pos (decide_eq_true z)))
             exact h1 _ _ _ e (xr_F_len hF2) (fun a ha => by rw [← hm1 a (by omega) (by omega) (by omega) (by omega), ← hm2 a ha]; funext k; exact xk_up_a (by omega)) hr2)
          | (have e : xs_rdy F f md = (F, true) := (if_neg (by rw [c_9]; decide)).trans (if_neg (by omega))
             exact h1 _ _ _ e hF (fun _ _ => rfl) (fun _ _ => rfl))
          | (have e : xs_rdy F f md = (xs_len (xs_there (xs_clear (xs_op F.1 2 f 0).1 f) f true, F.2) f 0, true) := (if_pos c_8).trans (if_pos (decide_eq_true z))
             exact h1 _ _ _ e (xr_F_len hF1) (fun a ha => by rw [← hm1 a (by omega) (by omega) (by omega) (by omega) (by omega)]; funext k; exact xk_up_a (by omega)) (fun _ _ => rfl))
      · refine xk_if_ne (pc := 51) (tgt := 56) d_K_readyFile_51 rfl (fun h => absurd (by decide) h) (fun _ => ?_)
        refine xk_iconst (pc := 54) (v := nI 0) d_K_readyFile_54 (by decide) ?_
        refine xk_zret (pc := 55) rfl d_K_readyFile_55 rfl rfl (Nat.le_of_ble_eq_true rfl) (Nat.le_of_ble_eq_true rfl) ?_
        have e : xs_rdy F f md = (((xs_op F.1 3 f 0).1, F.2), false) := (if_neg (by rw [c_9]; decide)).trans ((if_pos c_41).trans (if_neg (fun q => z (of_decide_eq_true q))))
        exact h0 _ m1 e ⟨hR1, xr_L_kept hF.2.1 (hm1 8 (by decide) (by decide)), xr_C_kept hF.2.2 rfl (by rw [hm1 7 (by decide) (by decide)]) (fun a _ _ => hm1 a (by omega) (by omega))⟩ (fun a _ => hm1 a (by omega) (by omega))
  · rw [xs_bi_z] at c_8
    refine xk_aload_n (pc := 11) d_K_readyFile_11 rfl ?_
    refine xk_getRo (pc := 12) d_K_readyFile_12 fl_K_10 (by first | rfl | assumption) rfl (by omega) (by omega) (hS _ _ _ rfl (by omega)) ?_
    refine xk_iload_n (pc := 15) d_K_readyFile_15 rfl ?_
    refine xk_cV1 (pc := 16) d_K_readyFile_16 ml_K_233 cz_Host_makeFile ⟨rfl, rfl⟩ rfl (by first | rfl | assumption) (by omega) (by omega) (Nat.le_of_ble_eq_true rfl) ⟨(Nat.le_of_ble_eq_true rfl), (Nat.le_of_ble_eq_true rfl)⟩ ?_
    refine c_Host_makeFile hn hS hF.1 (by omega) (by have := hok.2.2.2.2.2; omega) hf (fun z m1 hR1 hm1 => ?_) (fun z m1 hR1 hm1 => ?_)
    · have hF1 : xr_F (xs_there (xs_clear (xs_op F.1 2 f 0).1 f) f true, F.2) m1 r := ⟨hR1, xr_L_kept hF.2.1 (hm1 8 (by decide) (by decide) (by decide) (by decide) (by decide)), xr_C_kept hF.2.2 rfl (by rw [hm1 7 (by decide) (by decide) (by decide) (by decide) (by decide)]) (fun a _ _ => hm1 a (by omega) (by omega) (by omega) (by omega) (by omega))⟩
      refine xk_if_ne (pc := 19) (tgt := 24) d_K_readyFile_19 rfl (fun _ => ?_) (fun h => absurd h (by decide))
      refine xk_aload_n (pc := 24) d_K_readyFile_24 rfl ?_
      refine xk_getRo (pc := 25) d_K_readyFile_25 fl_K_21 (by first | rfl | assumption) rfl (by omega) (by omega) (hS _ _ _ rfl (by omega)) ?_
      refine xk_iload_n (pc := 28) d_K_readyFile_28 rfl ?_
      refine xk_iconst (pc := 29) (v := nI 0) d_K_readyFile_29 (by decide) ?_
      refine xk_cV2 (pc := 30) d_K_readyFile_30 ml_K_68 cz_Cache_setLength ⟨rfl, rfl⟩ rfl (by first | rfl | assumption) (by omega) (by omega) (Nat.le_of_ble_eq_true rfl) ⟨(Nat.le_of_ble_eq_true rfl), (Nat.le_of_ble_eq_true rfl)⟩ ?_
      refine c_Cache_setLength hn hS hf ?_
      refine xk_goto (pc := 33) (tgt := 73) d_K_readyFile_33 rfl ?_
      refine xk_iconst (pc := 73) (v := nI 1) d_K_readyFile_73 (by decide) ?_
      refine xk_zret (pc := 74) rfl d_K_readyFile_74 rfl rfl (Nat.le_of_ble_eq_true rfl) (Nat.le_of_ble_eq_true rfl) ?_
      first
        | (have e : xs_rdy F f md = (xs_len (xs_drop (xs_clear (xs_op F.1 3 f 0).1 f, F.2) f) f 0, true) := (if_neg (by rw [c_9]; decide)).trans ((if_pos c_41).trans (if_pos (decide_eq_true z)))
           exact h1 _ _ _ e (xr_F_len hF2) (fun a ha => by rw [← hm1 a (by omega) (by omega) (by omega) (by omega), ← hm2 a ha]; funext k; exact xk_up_a (by omega)) hr2)
        | (have e : xs_rdy F f md = (F, true) := (if_neg (by rw [c_9]; decide)).trans (if_neg (by omega))
           exact h1 _ _ _ e hF (fun _ _ => rfl) (fun _ _ => rfl))
        | (have e : xs_rdy F f md = (xs_len (xs_there (xs_clear (xs_op F.1 2 f 0).1 f) f true, F.2) f 0, true) := (if_pos c_8).trans (if_pos (decide_eq_true z))
           exact h1 _ _ _ e (xr_F_len hF1) (fun a ha => by rw [← hm1 a (by omega) (by omega) (by omega) (by omega) (by omega)]; funext k; exact xk_up_a (by omega)) (fun _ _ => rfl))
    · refine xk_if_ne (pc := 19) (tgt := 24) d_K_readyFile_19 rfl (fun h => absurd (by decide) h) (fun _ => ?_)
      refine xk_iconst (pc := 22) (v := nI 0) d_K_readyFile_22 (by decide) ?_
      refine xk_zret (pc := 23) rfl d_K_readyFile_23 rfl rfl (Nat.le_of_ble_eq_true rfl) (Nat.le_of_ble_eq_true rfl) ?_
      have e : xs_rdy F f md = (((xs_op F.1 2 f 0).1, F.2), false) := (if_pos c_8).trans (if_neg (fun q => z (of_decide_eq_true q)))
      exact h0 _ m1 e ⟨hR1, xr_L_kept hF.2.1 (hm1 8 (by decide) (by decide)), xr_C_kept hF.2.2 rfl (by rw [hm1 7 (by decide) (by decide)]) (fun a _ _ => hm1 a (by omega) (by omega))⟩ (fun a _ => hm1 a (by omega) (by omega))

theorem xs_num_le {p : Nat → Bool} : ∀ K, xs_num p K ≤ K
  | 0 => Nat.le_refl _
  | K + 1 => by
    show xs_num p K + (if p K = true then 1 else 0) ≤ K + 1
    have := xs_num_le (p := p) K
    split <;> omega
theorem xs_num_all {p : Nat → Bool} : ∀ K, (∀ o, o < K → p o = true) → xs_num p K = K
  | 0, _ => rfl
  | K + 1, h => by
    show xs_num p K + (if p K = true then 1 else 0) = K + 1
    rw [xs_num_all K (fun o ho => h o (by omega)), if_pos (h K (by omega))]
theorem xs_num_lt {p : Nat → Bool} {o : Nat} (hp : p o = false) : ∀ K, o < K → xs_num p K + 1 ≤ K
  | 0, h => by omega
  | K + 1, h => by
    show xs_num p K + (if p K = true then 1 else 0) + 1 ≤ K + 1
    by_cases e : o = K
    · subst e
      rw [hp, if_neg (by decide)]
      have := xs_num_le (p := p) o
      omega
    · have := xs_num_lt hp K (by omega)
      split <;> omega
theorem xs_num_lt2 {p : Nat → Bool} {o o' : Nat} (hp : p o = false) (hp' : p o' = false) (hne : o < o') : ∀ K, o' < K → xs_num p K + 2 ≤ K
  | 0, h => by omega
  | K + 1, h => by
    show xs_num p K + (if p K = true then 1 else 0) + 2 ≤ K + 1
    by_cases e : o' = K
    · subst e
      rw [hp', if_neg (by decide)]
      have := xs_num_lt hp o' hne
      omega
    · have := xs_num_lt2 hp hp' hne K (by omega)
      split <;> omega
theorem xs_num_all1 {p : Nat → Bool} {o : Nat} : ∀ K, (∀ j, j < K → j ≠ o → p j = true) → K ≤ xs_num p K + 1
  | 0, _ => by omega
  | K + 1, h => by
    show K + 1 ≤ xs_num p K + (if p K = true then 1 else 0) + 1
    by_cases e : K = o
    · subst e
      have := xs_num_all K (fun j hj => h j (by omega) (by omega))
      omega
    · rw [if_pos (h K (by omega) e)]
      have := xs_num_all1 (o := o) K (fun j hj hn => h j (by omega) hn)
      omega
/-- a new opening of a file -/
theorem xr_O_new {O : xs_O} {m : xk_M} {r : xk_P} {n p d o f md : Nat} (h : xr_O O m r n) (hp : p < 7) (hd : d < 6) (ho : o < 16) (h0 : O.1 (6 * p + d) = none) (hu : xs_used O o = false) : xr_O (xs_u O.1 (6 * p + d) (some o), xs_u O.2.1 o 0, xs_u O.2.2.1 o f, xs_u O.2.2.2.1 o md, xs_u O.2.2.2.2.1 o 0, O.2.2.2.2.2) (xk_up (xk_up (xk_up (xk_up m (22 + o) 2 (nI f)) (22 + o) 1 (nI md)) (22 + o) 3 (nI 0)) (22 + o) 0 (nI 1)) (xk_up (xk_up r (22 + o) 4 none) (40 + 2 * p) d (some (22 + o))) n := by
  obtain ⟨h1, h2, pa, h3, h4, h5⟩ := h
  have c0 : xs_cnt O.1 o 42 = 0 := by
    cases hq : xs_cnt O.1 o 42 with
    | zero => rfl
    | succ k => rw [xs_used_iff.mpr (by omega)] at hu; cases hu
  have cn := fun o' => xs_cnt_n (o := o) (o' := o') (by omega : 6 * p + d < 42) h0
  have us : ∀ o', xs_used (xs_u O.1 (6 * p + d) (some o), xs_u O.2.1 o 0, xs_u O.2.2.1 o f, xs_u O.2.2.2.1 o md, xs_u O.2.2.2.2.1 o 0, O.2.2.2.2.2) o' = true ↔ xs_used O o' = true ∨ o' = o := fun o' => by
    rw [xs_used_iff, xs_used_iff]
    have := cn o'
    change xs_cnt (xs_u O.1 (6 * p + d) (some o)) o' 42 = _ at this
    show xs_cnt (xs_u O.1 (6 * p + d) (some o)) o' 42 ≠ 0 ↔ _
    by_cases e : o = o'
    · subst e; rw [if_pos rfl] at this
      exact ⟨fun _ => Or.inr rfl, fun _ => by omega⟩
    · rw [if_neg e] at this
      exact ⟨fun q => Or.inl (by omega), fun q => by
        rcases q with q | q
        · omega
        · exact absurd q.symm e⟩
  have up : ∀ a, a ≠ 22 + o → (xk_up (xk_up (xk_up (xk_up m (22 + o) 2 (nI f)) (22 + o) 1 (nI md)) (22 + o) 3 (nI 0)) (22 + o) 0 (nI 1)) a = m a := fun a ha => by
    funext k
    rw [xk_up_a ha, xk_up_a ha, xk_up_a ha, xk_up_a ha]
  have es : ∀ q e, e ≠ 0 → xs_end (xs_u O.1 (6 * p + d) (some o), xs_u O.2.1 o 0, xs_u O.2.2.1 o f, xs_u O.2.2.2.1 o md, xs_u O.2.2.2.2.1 o 0, O.2.2.2.2.2) q e = xs_end O q e := fun q e he => xs_end_congr (fun o' _ => by
    rw [us]
    show _ ∧ xs_u O.2.1 o 0 o' = e ∧ xs_u O.2.2.1 o f o' = q ↔ _
    by_cases w : o' = o
    · subst w
      rw [xs_u_s, xs_u_s]
      exact ⟨fun z => absurd z.2.1.symm he, fun z => by rw [hu] at z; cases z.1⟩
    · rw [xs_u_n w, xs_u_n w]
      exact ⟨fun z => ⟨z.1.resolve_right w, z.2⟩, fun z => ⟨Or.inl z.1, z.2⟩⟩)
  refine ⟨fun o' ho' => ?_, fun p' d' hp' hd' => ?_, pa, fun o' ho' hu' => ?_, fun o' ho' hu' hk' => ?_, fun a b ha hb ua ub ka kb => ?_⟩
  · have := cn o'
    change xs_cnt (xs_u O.1 (6 * p + d) (some o)) o' 42 = _ at this
    show _ = nI (xs_cnt (xs_u O.1 (6 * p + d) (some o)) o' 42)
    rw [this]
    by_cases e : o = o'
    · subst e; rw [xk_up_s, if_pos rfl, c0]
    · rw [up _ (by omega), if_neg e]; exact h1 o' ho'
  · have := xr_D_up (p := p) (d := d) (v := some o) h2 hd p' d' hp' hd'
    show _ = ((xs_of O (6 * p + d) (some o)).1 (6 * p' + d')).map _
    rw [← this]
    unfold xk_up
    by_cases w : 40 + 2 * p' = 40 + 2 * p ∧ d' = d
    · rw [if_pos w, if_pos w]; rfl
    · rw [if_neg w, if_neg w, if_neg (by omega)]
  · have w := (us o').mp hu'
    by_cases e : o' = o
    · subst e
      refine ⟨?_, fun _ => ⟨?_, ?_, ?_⟩, fun q => absurd (xs_u_s) q⟩
      · show _ = nI (xs_u O.2.2.2.1 o' md o')
        rw [xs_u_s, xk_up_k (by decide), xk_up_k (by decide), xk_up_s]
      · rw [xk_up_a (by omega), xk_up_s]
      · show _ = nI (xs_u O.2.2.1 o' f o')
        rw [xs_u_s, xk_up_k (by decide), xk_up_k (by decide), xk_up_k (by decide), xk_up_s]
      · show _ = nI (xs_u O.2.2.2.2.1 o' 0 o')
        rw [xs_u_s, xk_up_k (by decide), xk_up_s]
    · obtain ⟨i1, i2, i3⟩ := h3 o' ho' (w.resolve_right e)
      unfold xr_I
      rw [up _ (by omega), xk_up_a (by omega), xk_up_a (by omega)]
      show _ = nI (xs_u O.2.2.2.1 o md o') ∧ (xs_u O.2.1 o 0 o' = 0 → _ ∧ _ = nI (xs_u O.2.2.1 o f o') ∧ _ = nI (xs_u O.2.2.2.2.1 o 0 o')) ∧ (xs_u O.2.1 o 0 o' ≠ 0 → _ = some (pa (xs_u O.2.2.1 o f o')))
      rw [xs_u_n e, xs_u_n e, xs_u_n e, xs_u_n e]
      exact ⟨i1, i2, i3⟩
  · have w := (us o').mp hu'
    change xs_u O.2.1 o 0 o' ≠ 0 at hk'
    have e : o' ≠ o := fun q => by subst q; rw [xs_u_s] at hk'; exact hk' rfl
    rw [xs_u_n e] at hk'
    obtain ⟨a1, a2, a3, a4, a5, a6⟩ := h4 o' ho' (w.resolve_right e) hk'
    show xr_P _ (pa (xs_u O.2.2.1 o f o')) (xs_u O.2.2.1 o f o') _ n
    rw [xs_u_n e]
    unfold xr_P
    rw [es _ 1 (by decide), es _ 2 (by decide), up _ (by omega), up _ (by omega)]
    exact ⟨a1, a2, a3, a4, a5, a6⟩
  · have wa := (us a).mp ua
    have wb := (us b).mp ub
    change xs_u O.2.1 o 0 a ≠ 0 at ka
    change xs_u O.2.1 o 0 b ≠ 0 at kb
    have ea : a ≠ o := fun q => by subst q; rw [xs_u_s] at ka; exact ka rfl
    have eb : b ≠ o := fun q => by subst q; rw [xs_u_s] at kb; exact kb rfl
    rw [xs_u_n ea] at ka
    rw [xs_u_n eb] at kb
    show pa (xs_u O.2.2.1 o f a) = pa (xs_u O.2.2.1 o f b) → xs_u O.2.2.1 o f a = xs_u O.2.2.1 o f b
    rw [xs_u_n ea, xs_u_n eb]
    exact h5 a b ha hb (wa.resolve_right ea) (wb.resolve_right eb) ka kb
theorem xs_open_1 {s : xs_S} {a b c : Int32} (h : xs_alive s.2.2.2 a = none ∨ xs_nat b 8 = none ∨ xs_nat c 32 = none) : xs_open s a b c = (-1, s) := by
  unfold xs_open
  rcases h with h | h | h
  · rw [h]
  · rw [h]; cases xs_alive s.2.2.2 a <;> rfl
  · rw [h]; cases xs_alive s.2.2.2 a <;> cases xs_nat b 8 <;> rfl
theorem xs_open_s {s : xs_S} {a b c : Int32} {p f md : Nat} (h1 : xs_alive s.2.2.2 a = some p) (h2 : xs_nat b 8 = some f) (h3 : xs_nat c 32 = some md) : xs_open s a b c =
    if s.2.1 f = 0 ∨ (s.1.1.1 f = false ∧ md / 8 % 2 = 0) then (-4, s)
    else if s.2.1 f = 1 ∧ 1 < md then (-5, s)
    else (match xs_free s.2.2.1 p 0 with
      | none => (-2, s)
      | some d => if xs_ops s.2.2.1 = 16 then (-2, s)
        else if (xs_rdy s.1 f md).2 = true then (nI d, ((xs_rdy s.1 f md).1, s.2.1, xs_of (xs_nO s.2.2.1 0 f md).2 (6 * p + d) (some (xs_nO s.2.2.1 0 f md).1), s.2.2.2))
        else (-8, ((xs_rdy s.1 f md).1, s.2))) := by
  unfold xs_open
  rw [h1, h2, h3]
  dsimp only
  split
  · rfl
  · split
    · rfl
    · cases xs_free s.2.2.1 p 0 with
      | none => rfl
      | some d =>
        dsimp only
        split
        · rfl
        · unfold xs_rdy
          split
          · split <;> rfl
          · split
            · split <;> rfl
            · rfl
theorem xs_nO_s {O : xs_O} {o k w md : Nat} (h : xs_least (fun o => !xs_used O o) 0 16 = some o) : xs_nO O k w md = (o, O.1, xs_u O.2.1 o k, xs_u O.2.2.1 o w, xs_u O.2.2.2.1 o md, xs_u O.2.2.2.2.1 o 0, O.2.2.2.2.2) := by
  unfold xs_nO
  rw [h]
