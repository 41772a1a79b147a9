theorem xm_C_push {l : List xs_B} {m m' : xk_M} {x : xs_B} (hC : xm_C l m) (hl : l.length < 5) (hx : xm_E x l.length m') (h8 : m' 53 8 = nI (l.length + 1)) (hk : ∀ (j : Nat) (y : xs_B), j < l.length → xm_E y j m → xm_E y j m') : xm_C (l ++ [x]) m' := by
  refine ⟨by rw [List.length_append]; exact h8, by rw [List.length_append]; show l.length + 1 ≤ 5; omega, fun i y hy => ?_⟩
  by_cases hi : i < l.length
  · rw [List.getElem?_append_left hi] at hy
    exact hk i y hi (hC.2.2 i y hy)
  · rw [List.getElem?_append_right (by omega)] at hy
    have h0 : i - l.length < 1 := xs_lt hy
    rw [show i - l.length = 0 by omega] at hy
    cases hy
    rw [show i = l.length by omega]
    exact hx
theorem xs_er_last {l : List xs_B} {x : xs_B} : (l ++ [x]).eraseIdx l.length = l := by
  rw [List.eraseIdx_append_of_length_le (Nat.le_refl _), Nat.sub_self]
  exact List.append_nil l
theorem xm_C_take {l l' : List xs_B} {m : xk_M} (hC : xm_C l' m) (h : ∀ i, i < 4 → l[i]? = l'[i]?) (hl : l.length = 5) : xm_C (l.take 4) (xk_up m 53 8 (nI 4)) := by
  have e : (l.take 4).length = 4 := by rw [List.length_take]; omega
  refine ⟨by rw [xk_up_s, e], by omega, fun i y hy => ?_⟩
  have hi := xs_lt hy
  rw [e] at hi
  rw [List.getElem?_take_of_lt hi, h i hi] at hy
  obtain ⟨g0, g1, g2⟩ := hC.2.2 i y hy
  exact ⟨by rw [xk_up_a (by decide)]; exact g0, by rw [xk_up_a (by decide)]; exact g1, fun k hk => by rw [xk_up_a (by decide)]; exact g2 k hk⟩
theorem xs_rm_b {F : xs_F} {x : xs_B} (hl : F.2.2.length = 5) (hx : F.2.2[4]? = some x) (hd : x.2.2.1 = false) : xs_rm F = ((F.1, F.2.1, F.2.2.take 4), true) := by
  rcases xs_rm_cases (F := F) (by omega) with ⟨h, _⟩ | ⟨y, _, hy, ⟨_, e⟩ | ⟨h, _, _⟩ | ⟨h, _, _⟩⟩
  · omega
  · exact e
  · rw [hx] at hy; cases hy; rw [hd] at h; cases h
  · rw [hx] at hy; cases hy; rw [hd] at h; cases h
theorem xs_rm_c {F : xs_F} {x : xs_B} (hl : F.2.2.length = 5) (hx : F.2.2[4]? = some x) (hd : x.2.2.1 = true) (ht : F.1.2.2.2.2.2 = 0) : xs_rm F = ((xs_wrh (xs_op F.1 1 x.1 x.2.1).1 (F.2.1 x.1) x, F.2.1, F.2.2.take 4), true) := by
  rcases xs_rm_cases (F := F) (by omega) with ⟨h, _⟩ | ⟨y, _, hy, ⟨h, _⟩ | ⟨_, _, e⟩ | ⟨_, h, _⟩⟩
  · omega
  · rw [hx] at hy; cases hy; rw [hd] at h; cases h
  · rw [hx] at hy; cases hy; exact e
  · exact absurd ht h
theorem xs_rm_d {F : xs_F} {x : xs_B} (hl : F.2.2.length = 5) (hx : F.2.2[4]? = some x) (hd : x.2.2.1 = true) (ht : F.1.2.2.2.2.2 ≠ 0) : xs_rm F = (((xs_op F.1 1 x.1 x.2.1).1, F.2), false) := by
  rcases xs_rm_cases (F := F) (by omega) with ⟨h, _⟩ | ⟨y, _, hy, ⟨h, _⟩ | ⟨_, h, _⟩ | ⟨_, _, e⟩⟩
  · omega
  · rw [hx] at hy; cases hy; rw [hd] at h; cases h
  · exact absurd h ht
  · rw [hx] at hy; cases hy; exact e
theorem xs_get_n {F F1 : xs_F} {f b : Nat} (h : F.2.2.findIdx? (xs_is f b) = none) (e : xs_rm F = (F1, true)) : xs_get F f b = xs_in F1 f b := by
  unfold xs_get
  rw [h]
  show (if (xs_rm F).2 = true then xs_in (xs_rm F).1 f b else xs_rm F) = _
  rw [e]
  exact if_pos rfl

set_option maxRecDepth 20000 in
set_option maxHeartbeats 4000000 in
theorem l_mgc {E : xk_E} {n : Nat} {r : xk_P} {Q : xk_Q} {m : xk_M} {f b c ln : Nat} {rd : Bool} {g : Nat → Int32} (hn : 74 ≤ n) (hS : xr_S r n) (hf : f < 8) (hb : b < 4) (hc : c < 5) (hln : ln ≤ 32) (h8 : m 53 8 = nI c) (h57 : m 57 f = nI ln) (h56 : rd = true → ∀ k, k < 8 → 8 * b + k < ln → m 56 (32 * f + (8 * b + k)) = g k) (h0 : rd = false → ∀ k, k < 8 → nI 0 = g k) (h0' : ∀ k, k < 8 → ln ≤ 8 * b + k → nI 0 = g k) (hK : ∀ v5, xk_W E m_M_get 201 [some (.inr (some 53)), some (.inl (nI f)), some (.inl (nI b)), some (.inl (xs_bi rd)), some (.inl (nI 8)), v5] [] n (xk_fn m 61 (8 * c) 8 g) r 0 0 Q) : ∀ (k : Nat) (i : Nat) (v5 : Option xk_V), 8 - i < k → i ≤ 8 → xk_W E m_M_get 133 [some (.inr (some 53)), some (.inl (nI f)), some (.inl (nI b)), some (.inl (xs_bi rd)), some (.inl (nI i)), v5] [] n (xk_fn m 61 (8 * c) i g) r 0 0 Q := by
  intro k
  induction k with
  | zero => intro i v5 h; exact absurd h (Nat.not_lt_zero _)
  | succ k ih =>
    intro i v5 hk hi
    refine xk_iload (pc := 133) d_M_get_133 rfl ?_
    refine xk_bipush (pc := 135) (v := nI 8) d_M_get_135 (by decide) ?_
    first | refine xk_icmp_geN (pc := 137) (tgt := 201) d_M_get_137 rfl (by omega) (by omega) (fun c_137 => ?_) (fun c_137 => ?_) | refine xk_icmp_ge (pc := 137) (tgt := 201) d_M_get_137 rfl (fun c_137 => ?_) (fun c_137 => ?_)
    · have e : i = 8 := by omega
      subst e
      exact hK v5
    · refine xk_bipush (pc := 140) (v := nI 8) d_M_get_140 (by decide) ?_
      refine xk_iload_n (pc := 142) d_M_get_142 rfl ?_
      first | refine xk_imulN (pc := 143) d_M_get_143 ?_ | refine xk_imul (pc := 143) d_M_get_143 ?_
      refine xk_iload (pc := 144) d_M_get_144 rfl ?_
      first | refine xk_iaddN (pc := 146) d_M_get_146 ?_ | refine xk_iadd (pc := 146) d_M_get_146 ?_
      refine xk_istore (pc := 147) d_M_get_147 (by decide) ?_
      refine xk_aload_n (pc := 149) d_M_get_149 rfl ?_
      refine xk_getRo (pc := 150) d_M_get_150 fl_M_32 (by first | rfl | assumption) rfl (by omega) (by omega) (hS _ _ _ rfl (by omega)) ?_
      refine xk_bipush (pc := 153) (v := nI 8) d_M_get_153 (by decide) ?_
      refine xk_aload_n (pc := 155) d_M_get_155 rfl ?_
      refine xk_getIo (pc := 156) d_M_get_156 fl_M_74 (by first | rfl | assumption) rfl (by omega) (by omega) ((xk_fn_a (by decide)).trans h8) ?_
      first | refine xk_imulN (pc := 159) d_M_get_159 ?_ | refine xk_imul (pc := 159) d_M_get_159 ?_
      refine xk_iload (pc := 160) d_M_get_160 rfl ?_
      first | refine xk_iaddN (pc := 162) d_M_get_162 ?_ | refine xk_iadd (pc := 162) d_M_get_162 ?_
      refine xk_iload_n (pc := 163) d_M_get_163 rfl ?_
      first | refine xk_if_eqN (pc := 164) (tgt := 193) d_M_get_164 rfl (by omega) (fun c_164 => ?_) (fun c_164 => ?_) | refine xk_if_eq (pc := 164) (tgt := 193) d_M_get_164 rfl (fun c_164 => ?_) (fun c_164 => ?_)
      · have hv := h0 (xs_bi_z.mp c_164) i c_137
        refine xk_iconst (pc := 193) (v := nI 0) d_M_get_193 (by decide) ?_
        refine xk_iastore (pc := 194) d_M_get_194 (by first | rfl | assumption) (by omega) (by omega) rfl (by omega) (by decide) ?_
        rw [xk_fn_w (g := g) rfl hv]
        refine xk_iincN (pc := 195) (d := 1) d_M_get_195 rfl ?_
        refine xk_goto (pc := 198) (tgt := 133) d_M_get_198 rfl ?_
        exact ih (i + 1) _ (by omega) (by omega)
      · have hrd := xs_bi_nz c_164
        refine xk_iload (pc := 167) d_M_get_167 rfl ?_
        refine xk_aload_n (pc := 169) d_M_get_169 rfl ?_
        refine xk_getRo (pc := 170) d_M_get_170 fl_M_20 (by first | rfl | assumption) rfl (by omega) (by omega) (hS _ _ _ rfl (by omega)) ?_
        refine xk_iload_n (pc := 173) d_M_get_173 rfl ?_
        refine xk_ialoado (pc := 174) d_M_get_174 (by first | rfl | assumption) (by omega) (by omega) rfl (by omega) (by decide) ((xk_fn_a (by decide)).trans h57) ?_
        first | refine xk_icmp_geN (pc := 175) (tgt := 193) d_M_get_175 rfl (by omega) (by omega) (fun c_175 => ?_) (fun c_175 => ?_) | refine xk_icmp_ge (pc := 175) (tgt := 193) d_M_get_175 rfl (fun c_175 => ?_) (fun c_175 => ?_)
        · have hv := h0' i c_137 c_175
          refine xk_iconst (pc := 193) (v := nI 0) d_M_get_193 (by decide) ?_
          refine xk_iastore (pc := 194) d_M_get_194 (by first | rfl | assumption) (by omega) (by omega) rfl (by omega) (by decide) ?_
          rw [xk_fn_w (g := g) rfl hv]
          refine xk_iincN (pc := 195) (d := 1) d_M_get_195 rfl ?_
          refine xk_goto (pc := 198) (tgt := 133) d_M_get_198 rfl ?_
          exact ih (i + 1) _ (by omega) (by omega)
        · have hv : g i = g i := rfl
          refine xk_aload_n (pc := 178) d_M_get_178 rfl ?_
          refine xk_getRo (pc := 179) d_M_get_179 fl_M_17 (by first | rfl | assumption) rfl (by omega) (by omega) (hS _ _ _ rfl (by omega)) ?_
          refine xk_bipush (pc := 182) (v := nI 32) d_M_get_182 (by decide) ?_
          refine xk_iload_n (pc := 184) d_M_get_184 rfl ?_
          first | refine xk_imulN (pc := 185) d_M_get_185 ?_ | refine xk_imul (pc := 185) d_M_get_185 ?_
          refine xk_iload (pc := 186) d_M_get_186 rfl ?_
          first | refine xk_iaddN (pc := 188) d_M_get_188 ?_ | refine xk_iadd (pc := 188) d_M_get_188 ?_
          refine xk_ialoado (pc := 189) d_M_get_189 (by first | rfl | assumption) (by omega) (by omega) rfl (by omega) (by decide) ((xk_fn_a (by decide)).trans (h56 hrd i c_137 (by omega))) ?_
          refine xk_goto (pc := 190) (tgt := 194) d_M_get_190 rfl ?_
          refine xk_iastore (pc := 194) d_M_get_194 (by first | rfl | assumption) (by omega) (by omega) rfl (by omega) (by decide) ?_
          rw [xk_fn_w (g := g) rfl hv]
          refine xk_iincN (pc := 195) (d := 1) d_M_get_195 rfl ?_
          refine xk_goto (pc := 198) (tgt := 133) d_M_get_198 rfl ?_
          exact ih (i + 1) _ (by omega) (by omega)

set_option maxRecDepth 20000 in
set_option maxHeartbeats 4000000 in
theorem s_mget105 {E : xk_E} {n : Nat} {m : xk_M} {r : xk_P} {Q : xk_Q} {F : xs_F} (hF : xm_F F m) {f b : Nat} {rd : Bool} {g : Nat → Int32} {v4 v5 : Option xk_V} (hn : 74 ≤ n) (hS : xr_S r n) (hf : f < 8) (hb : b < 4) (hc : F.2.2.length < 5) (hln : F.2.1 f ≤ 32) (h56 : rd = true → ∀ k, k < 8 → 8 * b + k < F.2.1 f → F.1.2.2.1 f (8 * b + k) = g k) (h0 : rd = false → ∀ k, k < 8 → nI 0 = g k) (h0' : ∀ k, k < 8 → F.2.1 f ≤ 8 * b + k → nI 0 = g k) (hQ : ∀ m', xm_F (F.1, F.2.1, (f, b, false, g) :: F.2.2) m' → xm_fF m m' → Q (some (.inl (nI 1))) n m' r) : xk_W E m_M_get 105 [some (.inr (some 53)), some (.inl (nI f)), some (.inl (nI b)), some (.inl (xs_bi rd)), v4, v5] [] n m r 0 0 Q := by
  refine xk_aload_n (pc := 105) d_M_get_105 rfl ?_
  refine xk_getRo (pc := 106) d_M_get_106 fl_M_26 (by first | rfl | assumption) rfl (by omega) (by omega) (hS _ _ _ rfl (by omega)) ?_
  refine xk_aload_n (pc := 109) d_M_get_109 rfl ?_
  refine xk_getIo (pc := 110) d_M_get_110 fl_M_74 (by first | rfl | assumption) rfl (by omega) (by omega) hF.2.2.1 ?_
  refine xk_iload_n (pc := 113) d_M_get_113 rfl ?_
  refine xk_bipush (pc := 114) (v := nI 8) d_M_get_114 (by decide) ?_
  refine xk_iload_n (pc := 116) d_M_get_116 rfl ?_
  first | refine xk_imulN (pc := 117) d_M_get_117 ?_ | refine xk_imul (pc := 117) d_M_get_117 ?_
  first | refine xk_iaddN (pc := 118) d_M_get_118 ?_ | refine xk_iadd (pc := 118) d_M_get_118 ?_
  refine xk_iastore (pc := 119) d_M_get_119 (by first | rfl | assumption) (by omega) (by omega) rfl (by omega) (by decide) ?_
  refine xk_aload_n (pc := 120) d_M_get_120 rfl ?_
  refine xk_getRo (pc := 121) d_M_get_121 fl_M_29 (by first | rfl | assumption) rfl (by omega) (by omega) (hS _ _ _ rfl (by omega)) ?_
  refine xk_aload_n (pc := 124) d_M_get_124 rfl ?_
  refine xk_getIo (pc := 125) d_M_get_125 fl_M_74 (by first | rfl | assumption) rfl (by omega) (by omega) ((xk_up_a (by decide)).trans hF.2.2.1) ?_
  refine xk_iconst (pc := 128) (v := nI 0) d_M_get_128 (by decide) ?_
  refine xk_bastore (pc := 129) d_M_get_129 (by first | rfl | assumption) (by omega) (by omega) rfl (by omega) (by decide) rfl ?_
  refine xk_iconst (pc := 130) (v := nI 0) d_M_get_130 (by decide) ?_
  refine xk_istore (pc := 131) d_M_get_131 (by decide) ?_
  suffices HH : ∀ v5, xk_W E m_M_get 201 [some (.inr (some 53)), some (.inl (nI f)), some (.inl (nI b)), some (.inl (xs_bi rd)), some (.inl (nI 8)), v5] [] n (xk_fn (xk_up (xk_up m 59 F.2.2.length (nI (f + 8 * b))) 60 F.2.2.length (nI 0)) 61 (8 * F.2.2.length) 8 g) r 0 0 Q by
    have K := l_mgc (E := E) (Q := Q) (m := xk_up (xk_up m 59 F.2.2.length (nI (f + 8 * b))) 60 F.2.2.length (nI 0)) (c := F.2.2.length) (ln := F.2.1 f) (rd := rd) (g := g) hn hS hf hb hc hln (by rw [xk_up_a (by decide), xk_up_a (by decide)]; exact hF.2.2.1) (by rw [xk_up_a (by decide), xk_up_a (by decide)]; exact hF.2.1 f hf) (fun q k hk hkl => by rw [xk_up_a (by decide), xk_up_a (by decide), hF.1.2.2.1 f (8 * b + k) hf (by omega)]; exact h56 q k hk hkl) h0 h0' HH 9 0 v5 (by omega) (by omega)
    rw [xk_fn_0] at K
    exact K
  intro w5
  refine xk_aload_n (pc := 201) d_M_get_201 rfl ?_
  refine xk_dup (pc := 202) d_M_get_202 ?_
  refine xk_getIo (pc := 203) d_M_get_203 fl_M_74 (by first | rfl | assumption) rfl (by omega) (by omega) ((xk_fn_a (by decide)).trans ((xk_up_a (by decide)).trans ((xk_up_a (by decide)).trans hF.2.2.1))) ?_
  refine xk_iconst (pc := 206) (v := nI 1) d_M_get_206 (by decide) ?_
  first | refine xk_iaddN (pc := 207) d_M_get_207 ?_ | refine xk_iadd (pc := 207) d_M_get_207 ?_
  refine xk_putI (pc := 208) d_M_get_208 fl_M_74 (by first | rfl | assumption) rfl (fun q hq h => by cases hq; first | exact absurd h (by decide) | exact ⟨rfl, rfl, rfl⟩) ⟨rfl, rfl⟩ (by omega) (by omega) ?_
  refine xk_aload_n (pc := 211) d_M_get_211 rfl ?_
  refine xk_aload_n (pc := 212) d_M_get_212 rfl ?_
  refine xk_getIo (pc := 213) d_M_get_213 fl_M_74 (by first | rfl | assumption) rfl (by omega) (by omega) xk_up_s ?_
  refine xk_iconst (pc := 216) (v := nI 1) d_M_get_216 (by decide) ?_
  first | refine xk_isubN (pc := 217) d_M_get_217 (by omega) ?_ | refine xk_isub (pc := 217) d_M_get_217 ?_
  refine xk_cV1 (pc := 218) d_M_get_218 ml_M_98 cz_M_toFront ⟨rfl, rfl⟩ rfl (by first | rfl | assumption) (by omega) (by omega) (Nat.le_of_ble_eq_true rfl) ⟨(Nat.le_of_ble_eq_true rfl), (Nat.le_of_ble_eq_true rfl)⟩ ?_
  refine c_M_toFront (l := F.2.2 ++ [(f, b, false, g)]) (i := F.2.2.length) (x := (f, b, false, g)) hn hS (xm_C_push hF.2.2 hc ⟨?_, ?_, fun k hk => ?_⟩ xk_up_s (fun j y hj hy => ⟨?_, ?_, fun k hk => ?_⟩)) (by rw [List.getElem?_append_right (Nat.le_refl _), Nat.sub_self]; rfl) ?_
  · rw [xk_up_a (by decide), xk_fn_a (by decide), xk_up_a (by decide), xk_up_s]
  · rw [xk_up_a (by decide), xk_fn_a (by decide), xk_up_s]; rfl
  · rw [xk_up_a (by decide), xk_fn_p hk]
  · rw [xk_up_a (by decide), xk_fn_a (by decide), xk_up_a (by decide), xk_up_k (by omega)]; exact hy.1
  · rw [xk_up_a (by decide), xk_fn_a (by decide), xk_up_k (by omega), xk_up_a (by decide)]; exact hy.2.1
  · rw [xk_up_a (by decide), xk_fn_n (by omega), xk_up_a (by decide), xk_up_a (by decide)]; exact hy.2.2 k hk
  refine xk_iconst (pc := 221) (v := nI 1) d_M_get_221 (by decide) ?_
  refine xk_zret (pc := 222) rfl d_M_get_222 rfl rfl (Nat.le_of_ble_eq_true rfl) (Nat.le_of_ble_eq_true rfl) ?_
  have hCp : xm_C (F.2.2 ++ [(f, b, false, g)]) (xk_up (xk_fn (xk_up (xk_up m 59 F.2.2.length (nI (f + 8 * b))) 60 F.2.2.length (nI 0)) 61 (8 * F.2.2.length) 8 g) 53 8 (nI (F.2.2.length + 1))) := xm_C_push hF.2.2 hc ⟨by rw [xk_up_a (by decide), xk_fn_a (by decide), xk_up_a (by decide), xk_up_s], by rw [xk_up_a (by decide), xk_fn_a (by decide), xk_up_s]; rfl, fun k hk => by rw [xk_up_a (by decide), xk_fn_p hk]⟩ xk_up_s (fun j y hj hy => ⟨by rw [xk_up_a (by decide), xk_fn_a (by decide), xk_up_a (by decide), xk_up_k (by omega)]; exact hy.1, by rw [xk_up_a (by decide), xk_fn_a (by decide), xk_up_k (by omega), xk_up_a (by decide)]; exact hy.2.1, fun k hk => by rw [xk_up_a (by decide), xk_fn_n (by omega), xk_up_a (by decide), xk_up_a (by decide)]; exact hy.2.2 k hk⟩)
  have hCt := xm_C_tf (x := (f, b, false, g)) hCp (by rw [List.getElem?_append_right (Nat.le_refl _), Nat.sub_self]; rfl)
  rw [xs_er_last] at hCt
  refine hQ _ ⟨xm_H_kept hF.1 ?_ ?_ ?_ ?_ ?_ ?_, xm_L_kept hF.2.1 ?_, hCt⟩ (fun a ha => ?_)
  · rw [xm_tf_fr (by decide) (by decide) (by decide), xk_up_r (by decide), xk_fn_r (by decide), xk_up_r (by decide), xk_up_r (by decide)]
  · rw [xm_tf_fr (by decide) (by decide) (by decide), xk_up_r (by decide), xk_fn_r (by decide), xk_up_r (by decide), xk_up_r (by decide)]
  · rw [xm_tf_fr (by decide) (by decide) (by decide), xk_up_r (by decide), xk_fn_r (by decide), xk_up_r (by decide), xk_up_r (by decide)]
  · rw [xm_tf_fr (by decide) (by decide) (by decide), xk_up_r (by decide), xk_fn_r (by decide), xk_up_r (by decide), xk_up_r (by decide)]
  · rw [xm_tf_fr (by decide) (by decide) (by decide), xk_up_k (by decide), xk_fn_r (by decide), xk_up_r (by decide), xk_up_r (by decide)]
  · rw [xm_tf_fr (by decide) (by decide) (by decide), xk_up_k (by decide), xk_fn_r (by decide), xk_up_r (by decide), xk_up_r (by decide)]
  · rw [xm_tf_fr (by decide) (by decide) (by decide), xk_up_r (by decide), xk_fn_r (by decide), xk_up_r (by decide), xk_up_r (by decide)]
  · rw [xm_tf_fr (by omega) (by omega) (by omega), xk_up_r (by omega), xk_fn_r (by omega), xk_up_r (by omega), xk_up_r (by omega)]

set_option maxRecDepth 20000 in
set_option maxHeartbeats 4000000 in
theorem s_mget70 {E : xk_E} {n : Nat} {m : xk_M} {r : xk_P} {Q : xk_Q} {F : xs_F} (hF : xm_F F m) (hok : xs_okF F) (hops : F.1.2.2.2.2.1 < 2 ^ 30) {f b : Nat} {v3 v4 v5 : Option xk_V} (hn : 74 ≤ n) (hS : xr_S r n) (hf : f < 8) (hb : b < 4) (hc : F.2.2.length < 5) (h1 : ∀ m', xm_F (xs_in F f b).1 m' → (xs_in F f b).2 = true → xm_fF m m' → Q (some (.inl (nI 1))) n m' r) (h0 : ∀ m', xm_F (xs_in F f b).1 m' → (xs_in F f b).2 = false → xm_fF m m' → Q (some (.inl (nI 0))) n m' r) : xk_W E m_M_get 70 [some (.inr (some 53)), some (.inl (nI f)), some (.inl (nI b)), v3, v4, v5] [] n m r 0 0 Q := by
  have hl32 := (hok.1 f hf).2
  have hhl := (hok.1 f hf).1
  refine xk_bipush (pc := 70) (v := nI 8) d_M_get_70 (by decide) ?_
  refine xk_iload_n (pc := 72) d_M_get_72 rfl ?_
  first | refine xk_imulN (pc := 73) d_M_get_73 ?_ | refine xk_imul (pc := 73) d_M_get_73 ?_
  refine xk_aload_n (pc := 74) d_M_get_74 rfl ?_
  refine xk_getRo (pc := 75) d_M_get_75 fl_M_20 (by first | rfl | assumption) rfl (by omega) (by omega) (hS _ _ _ rfl (by omega)) ?_
  refine xk_iload_n (pc := 78) d_M_get_78 rfl ?_
  refine xk_ialoado (pc := 79) d_M_get_79 (by first | rfl | assumption) (by omega) (by omega) rfl (by omega) (by decide) (hF.2.1 f hf) ?_
  first | refine xk_icmp_geN (pc := 80) (tgt := 87) d_M_get_80 rfl (by omega) (by omega) (fun c_80 => ?_) (fun c_80 => ?_) | refine xk_icmp_ge (pc := 80) (tgt := 87) d_M_get_80 rfl (fun c_80 => ?_) (fun c_80 => ?_)
  · refine xk_iconst (pc := 87) (v := nI 0) d_M_get_87 (by decide) ?_
    refine xk_istore_n (pc := 88) d_M_get_88 (by decide) ?_
    refine xk_iload_n (pc := 89) d_M_get_89 rfl ?_
    refine xk_if_eq (pc := 90) (tgt := 105) d_M_get_90 rfl (fun _ => ?_) (fun h => absurd (by decide) h)
    have e : xs_in F f b = ((F.1, F.2.1, (f, b, false, fun _ => 0) :: F.2.2), true) := if_neg (by omega)
    rw [e] at h1
    refine s_mget105 (rd := false) (g := fun _ => 0) hF hn hS hf hb hc hl32 (fun q => by cases q) (fun _ k _ => rfl) (fun k _ _ => rfl) (fun m' hF' hm' => h1 m' hF' rfl hm')
  · refine xk_iconst (pc := 83) (v := nI 1) d_M_get_83 (by decide) ?_
    refine xk_goto (pc := 84) (tgt := 88) d_M_get_84 rfl ?_
    refine xk_istore_n (pc := 88) d_M_get_88 (by decide) ?_
    refine xk_iload_n (pc := 89) d_M_get_89 rfl ?_
    refine xk_if_eq (pc := 90) (tgt := 105) d_M_get_90 rfl (fun h => absurd h (by decide)) (fun _ => ?_)
    refine xk_aload_n (pc := 93) d_M_get_93 rfl ?_
    refine xk_iconst (pc := 94) (v := nI 0) d_M_get_94 (by decide) ?_
    refine xk_iload_n (pc := 95) d_M_get_95 rfl ?_
    refine xk_iload_n (pc := 96) d_M_get_96 rfl ?_
    refine xk_cV3 (pc := 97) d_M_get_97 ml_M_95 cz_M_operate ⟨rfl, rfl⟩ rfl (by first | rfl | assumption) (by omega) (by omega) (Nat.le_of_ble_eq_true rfl) ⟨(Nat.le_of_ble_eq_true rfl), (Nat.le_of_ble_eq_true rfl)⟩ ?_
    refine c_M_operate (o := 0) hn hS hF hops (by have := hok.2.2.2.2.2; omega) (fun z m1 hF1 hm1 => ?_) (fun z m1 hF1 hm1 => ?_)
    · have e : xs_in F f b = (((xs_op F.1 0 f b).1, F.2.1, (f, b, false, fun k => F.1.2.2.1 f (8 * b + k)) :: F.2.2), true) := (if_pos (by omega)).trans (if_pos (decide_eq_true z))
      rw [e] at h1
      refine xk_if_ne (pc := 100) (tgt := 105) d_M_get_100 rfl (fun _ => ?_) (fun h => absurd h (by decide))
      refine s_mget105 (rd := true) (g := fun k => F.1.2.2.1 f (8 * b + k)) hF1 hn hS hf hb hc hl32 (fun _ k _ _ => rfl) (fun q => by cases q) (fun k hk hkl => (hok.2.1 f (8 * b + k) hf (by have : F.2.1 f ≤ 8 * b + k := hkl; omega) (by omega)).symm) (fun m' hF' hm' => h1 m' hF' rfl (hm1.tr hm'))
    · have e : xs_in F f b = (((xs_op F.1 0 f b).1, F.2), false) := (if_pos (by omega)).trans (if_neg (fun q => z (of_decide_eq_true q)))
      rw [e] at h0
      refine xk_if_ne (pc := 100) (tgt := 105) d_M_get_100 rfl (fun h => absurd (by decide) h) (fun _ => ?_)
      refine xk_iconst (pc := 103) (v := nI 0) d_M_get_103 (by decide) ?_
      refine xk_zret (pc := 104) rfl d_M_get_104 rfl rfl (Nat.le_of_ble_eq_true rfl) (Nat.le_of_ble_eq_true rfl) ?_
      exact h0 m1 hF1 rfl hm1

set_option maxRecDepth 20000 in
set_option maxHeartbeats 4000000 in
theorem l_mget {E : xk_E} {n : Nat} {r : xk_P} {Q : xk_Q} {m : xk_M} {F : xs_F} (hF : xm_F F m) (hok : xs_okF F) (hsm : F.1.2.2.2.2.1 + 4 < 2 ^ 20) {f b : Nat} (hn : 74 ≤ n) (hS : xr_S r n) (hf : f < 8) (hb : b < 4) (h1 : ∀ m', xm_F (xs_get F f b).1 m' → (xs_get F f b).2 = true → xm_fF m m' → Q (some (.inl (nI 1))) n m' r) (h0 : ∀ m', xm_F (xs_get F f b).1 m' → (xs_get F f b).2 = false → xm_fF m m' → Q (some (.inl (nI 0))) n m' r) : ∀ (k : Nat) (i : Nat), F.2.2.length - i < k → i ≤ F.2.2.length → (∀ (j : Nat) (x : xs_B), j < i → F.2.2[j]? = some x → xs_is f b x = false) → xk_W E m_M_get 2 [some (.inr (some 53)), some (.inl (nI f)), some (.inl (nI b)), some (.inl (nI i)), none, none] [] n m r 0 0 Q := by
  intro k
  induction k with
  | zero => intro i h; exact absurd h (Nat.not_lt_zero _)
  | succ k ih =>
    intro i hk hi hj
    have hl5 := hF.2.2.2.1
    refine xk_iload_n (pc := 2) d_M_get_2 rfl ?_
    refine xk_aload_n (pc := 3) d_M_get_3 rfl ?_
    refine xk_getIo (pc := 4) d_M_get_4 fl_M_74 (by first | rfl | assumption) rfl (by omega) (by omega) hF.2.2.1 ?_
    first | refine xk_icmp_geN (pc := 7) (tgt := 38) d_M_get_7 rfl (by omega) (by omega) (fun c_7 => ?_) (fun c_7 => ?_) | refine xk_icmp_ge (pc := 7) (tgt := 38) d_M_get_7 rfl (fun c_7 => ?_) (fun c_7 => ?_)
    · have hnone : F.2.2.findIdx? (xs_is f b) = none := xs_fi_none (fun j x hx => hj j x (by have := xs_lt hx; omega) hx)
      refine xk_aload_n (pc := 38) d_M_get_38 rfl ?_
      refine xk_getIo (pc := 39) d_M_get_39 fl_M_74 (by first | rfl | assumption) rfl (by omega) (by omega) hF.2.2.1 ?_
      refine xk_iconst (pc := 42) (v := nI 5) d_M_get_42 (by decide) ?_
      first | refine xk_icmp_neN (pc := 43) (tgt := 70) d_M_get_43 rfl (by omega) (by omega) (fun c_43 => ?_) (fun c_43 => ?_) | refine xk_icmp_ne (pc := 43) (tgt := 70) d_M_get_43 rfl (fun c_43 => ?_) (fun c_43 => ?_)
      · have er : xs_rm F = (F, true) := if_pos (by omega)
        have e := xs_get_n hnone er
        rw [e] at h1 h0
        exact s_mget70 hF hok (by omega) hn hS hf hb (by omega) h1 h0
      · obtain ⟨x, hx4⟩ := xs_get_lt (l := F.2.2) (i := 4) (by omega)
        refine xk_aload_n (pc := 46) d_M_get_46 rfl ?_
        refine xk_getRo (pc := 47) d_M_get_47 fl_M_29 (by first | rfl | assumption) rfl (by omega) (by omega) (hS _ _ _ rfl (by omega)) ?_
        refine xk_iconst (pc := 50) (v := nI 4) d_M_get_50 (by decide) ?_
        refine xk_baloado (pc := 51) d_M_get_51 (by first | rfl | assumption) (by omega) (by omega) rfl (by omega) (by decide) (hF.2.2.2.2 4 x hx4).2.1 ?_
        first | refine xk_if_eqN (pc := 52) (tgt := 65) d_M_get_52 rfl (by omega) (fun c_52 => ?_) (fun c_52 => ?_) | refine xk_if_eq (pc := 52) (tgt := 65) d_M_get_52 rfl (fun c_52 => ?_) (fun c_52 => ?_)
        · have hd := xs_bi_z.mp c_52
          refine xk_aload_n (pc := 65) d_M_get_65 rfl ?_
          refine xk_iconst (pc := 66) (v := nI 4) d_M_get_66 (by decide) ?_
          refine xk_putI (pc := 67) d_M_get_67 fl_M_74 (by first | rfl | assumption) rfl (fun q hq h => by cases hq; first | exact absurd h (by decide) | exact ⟨rfl, rfl, rfl⟩) ⟨rfl, rfl⟩ (by omega) (by omega) ?_
          first
            | (have er := xs_rm_c c_43 hx4 hd z
               have e := xs_get_n hnone er
               rw [e] at h1 h0
               have ho := (xo_rm hok).1
               rw [er] at ho
               exact s_mget70 (F := (xs_wrh (xs_op F.1 1 x.1 x.2.1).1 (F.2.1 x.1) x, F.2.1, F.2.2.take 4)) ⟨xm_H_kept hF1.1 (xk_up_r (by decide)) (xk_up_r (by decide)) (xk_up_r (by decide)) (xk_up_r (by decide)) (xk_up_k (by decide)) (xk_up_k (by decide)), xm_L_kept hF1.2.1 (xk_up_r (by decide)), xm_C_take hF1.2.2 (fun i hi => by show F.2.2[i]? = (F.2.2.set 4 _)[i]?; rw [List.getElem?_set_ne (by omega)]) c_43⟩ ho (by show F.1.2.2.2.2.1 + 1 < _; omega) hn hS hf hb (by show (F.2.2.take 4).length < 5; rw [List.length_take]; omega) (fun m' a b c => h1 m' a b (fun q hq => by rw [c q hq, xk_up_r (by omega)]; exact hm1 q hq)) (fun m' a b c => h0 m' a b (fun q hq => by rw [c q hq, xk_up_r (by omega)]; exact hm1 q hq)))
            | (have er := xs_rm_b c_43 hx4 hd
               have e := xs_get_n hnone er
               rw [e] at h1 h0
               have ho := (xo_rm hok).1
               rw [er] at ho
               exact s_mget70 (F := (F.1, F.2.1, F.2.2.take 4)) ⟨xm_H_kept hF.1 (xk_up_r (by decide)) (xk_up_r (by decide)) (xk_up_r (by decide)) (xk_up_r (by decide)) (xk_up_k (by decide)) (xk_up_k (by decide)), xm_L_kept hF.2.1 (xk_up_r (by decide)), xm_C_take hF.2.2 (fun i hi => rfl) c_43⟩ ho (by show F.1.2.2.2.2.1 < _; omega) hn hS hf hb (by show (F.2.2.take 4).length < 5; rw [List.length_take]; omega) (fun m' a b c => h1 m' a b (fun q hq => by rw [c q hq, xk_up_r (by omega)])) (fun m' a b c => h0 m' a b (fun q hq => by rw [c q hq, xk_up_r (by omega)])))
        · have hd := xs_bi_nz c_52
          refine xk_aload_n (pc := 55) d_M_get_55 rfl ?_
          refine xk_iconst (pc := 56) (v := nI 4) d_M_get_56 (by decide) ?_
          refine xk_cV1 (pc := 57) d_M_get_57 ml_M_102 cz_M_writeBack ⟨rfl, rfl⟩ rfl (by first | rfl | assumption) (by omega) (by omega) (Nat.le_of_ble_eq_true rfl) ⟨(Nat.le_of_ble_eq_true rfl), (Nat.le_of_ble_eq_true rfl)⟩ ?_
          refine c_M_writeBack (e := 4) hn hS hF hok (by omega) hx4 hd (fun z m1 hF1 hm1 => ?_) (fun z m1 hF1 hm1 => ?_)
          · refine xk_if_ne (pc := 60) (tgt := 65) d_M_get_60 rfl (fun _ => ?_) (fun h => absurd h (by decide))
            refine xk_aload_n (pc := 65) d_M_get_65 rfl ?_
            refine xk_iconst (pc := 66) (v := nI 4) d_M_get_66 (by decide) ?_
            refine xk_putI (pc := 67) d_M_get_67 fl_M_74 (by first | rfl | assumption) rfl (fun q hq h => by cases hq; first | exact absurd h (by decide) | exact ⟨rfl, rfl, rfl⟩) ⟨rfl, rfl⟩ (by omega) (by omega) ?_
            first
              | (have er := xs_rm_c c_43 hx4 hd z
                 have e := xs_get_n hnone er
                 rw [e] at h1 h0
                 have ho := (xo_rm hok).1
                 rw [er] at ho
                 exact s_mget70 (F := (xs_wrh (xs_op F.1 1 x.1 x.2.1).1 (F.2.1 x.1) x, F.2.1, F.2.2.take 4)) ⟨xm_H_kept hF1.1 (xk_up_r (by decide)) (xk_up_r (by decide)) (xk_up_r (by decide)) (xk_up_r (by decide)) (xk_up_k (by decide)) (xk_up_k (by decide)), xm_L_kept hF1.2.1 (xk_up_r (by decide)), xm_C_take hF1.2.2 (fun i hi => by show F.2.2[i]? = (F.2.2.set 4 _)[i]?; rw [List.getElem?_set_ne (by omega)]) c_43⟩ ho (by show F.1.2.2.2.2.1 + 1 < _; omega) hn hS hf hb (by show (F.2.2.take 4).length < 5; rw [List.length_take]; omega) (fun m' a b c => h1 m' a b (fun q hq => by rw [c q hq, xk_up_r (by omega)]; exact hm1 q hq)) (fun m' a b c => h0 m' a b (fun q hq => by rw [c q hq, xk_up_r (by omega)]; exact hm1 q hq)))
              | (have er := xs_rm_b c_43 hx4 hd
                 have e := xs_get_n hnone er
                 rw [e] at h1 h0
                 have ho := (xo_rm hok).1
                 rw [er] at ho
                 exact s_mget70 (F := (F.1, F.2.1, F.2.2.take 4)) ⟨xm_H_kept hF.1 (xk_up_r (by decide)) (xk_up_r (by decide)) (xk_up_r (by decide)) (xk_up_r (by decide)) (xk_up_k (by decide)) (xk_up_k (by decide)), xm_L_kept hF.2.1 (xk_up_r (by decide)), xm_C_take hF.2.2 (fun i hi => rfl) c_43⟩ ho (by show F.1.2.2.2.2.1 < _; omega) hn hS hf hb (by show (F.2.2.take 4).length < 5; rw [List.length_take]; omega) (fun m' a b c => h1 m' a b (fun q hq => by rw [c q hq, xk_up_r (by omega)])) (fun m' a b c => h0 m' a b (fun q hq => by rw [c q hq, xk_up_r (by omega)])))
          · have e := xs_get_nrm hnone (xs_rm_d c_43 hx4 hd z)
            rw [e] at h0
            refine xk_if_ne (pc := 60) (tgt := 65) d_M_get_60 rfl (fun h => absurd (by decide) h) (fun _ => ?_)
            refine xk_iconst (pc := 63) (v := nI 0) d_M_get_63 (by decide) ?_
            refine xk_zret (pc := 64) rfl d_M_get_64 rfl rfl (Nat.le_of_ble_eq_true rfl) (Nat.le_of_ble_eq_true rfl) ?_
            exact h0 m1 hF1 rfl hm1
    · obtain ⟨x, hx⟩ := xs_get_lt c_7
      obtain ⟨g0, g1, g2⟩ := hF.2.2.2.2 i x hx
      obtain ⟨x1, x2, x3⟩ := hok.2.2.1 i x hx
      refine xk_aload_n (pc := 10) d_M_get_10 rfl ?_
      refine xk_getRo (pc := 11) d_M_get_11 fl_M_26 (by first | rfl | assumption) rfl (by omega) (by omega) (hS _ _ _ rfl (by omega)) ?_
      refine xk_iload_n (pc := 14) d_M_get_14 rfl ?_
      refine xk_ialoado (pc := 15) d_M_get_15 (by first | rfl | assumption) (by omega) (by omega) rfl (by omega) (by decide) g0 ?_
      refine xk_iload_n (pc := 16) d_M_get_16 rfl ?_
      refine xk_bipush (pc := 17) (v := nI 8) d_M_get_17 (by decide) ?_
      refine xk_iload_n (pc := 19) d_M_get_19 rfl ?_
      first | refine xk_imulN (pc := 20) d_M_get_20 ?_ | refine xk_imul (pc := 20) d_M_get_20 ?_
      first | refine xk_iaddN (pc := 21) d_M_get_21 ?_ | refine xk_iadd (pc := 21) d_M_get_21 ?_
      first | refine xk_icmp_neN (pc := 22) (tgt := 32) d_M_get_22 rfl (by omega) (by omega) (fun c_22 => ?_) (fun c_22 => ?_) | refine xk_icmp_ne (pc := 22) (tgt := 32) d_M_get_22 rfl (fun c_22 => ?_) (fun c_22 => ?_)
      · refine xk_iincN (pc := 32) (d := 1) d_M_get_32 rfl ?_
        refine xk_goto (pc := 35) (tgt := 2) d_M_get_35 rfl ?_
        exact ih (i + 1) (by omega) (by omega) (fun j y hji hy => by
          by_cases q : j = i
          · subst q
            rw [hx] at hy
            cases hy
            exact decide_eq_false (fun z => c_22 (by rw [z.1, z.2]))
          · exact hj j y (by omega) hy)
      · have efi : F.2.2.findIdx? (xs_is f b) = some i := xs_fi_some hx (decide_eq_true ⟨by omega, by omega⟩) (fun j y hji hy => hj j y hji hy)
        have e := xs_get_fi efi
        rw [hx] at e
        rw [e] at h1
        refine xk_aload_n (pc := 25) d_M_get_25 rfl ?_
        refine xk_iload_n (pc := 26) d_M_get_26 rfl ?_
        refine xk_cV1 (pc := 27) d_M_get_27 ml_M_98 cz_M_toFront ⟨rfl, rfl⟩ rfl (by first | rfl | assumption) (by omega) (by omega) (Nat.le_of_ble_eq_true rfl) ⟨(Nat.le_of_ble_eq_true rfl), (Nat.le_of_ble_eq_true rfl)⟩ ?_
        refine c_M_toFront hn hS hF.2.2 hx ?_
        refine xk_iconst (pc := 30) (v := nI 1) d_M_get_30 (by decide) ?_
        refine xk_zret (pc := 31) rfl d_M_get_31 rfl rfl (Nat.le_of_ble_eq_true rfl) (Nat.le_of_ble_eq_true rfl) ?_
        exact h1 _ ⟨xm_H_kept hF.1 (xm_tf_fr (by decide) (by decide) (by decide)) (xm_tf_fr (by decide) (by decide) (by decide)) (xm_tf_fr (by decide) (by decide) (by decide)) (xm_tf_fr (by decide) (by decide) (by decide)) (by rw [xm_tf_fr (by decide) (by decide) (by decide)]) (by rw [xm_tf_fr (by decide) (by decide) (by decide)]), xm_L_kept hF.2.1 (xm_tf_fr (by decide) (by decide) (by decide)), xm_C_tf hF.2.2 hx⟩ rfl (fun a ha => xm_tf_fr (by omega) (by omega) (by omega))

set_option maxRecDepth 20000 in
set_option maxHeartbeats 4000000 in
theorem c_M_get {E : xk_E} {n : Nat} {m : xk_M} {r : xk_P} {Q : xk_Q} (hn : 74 ≤ n) (hS : xr_S r n) {F : xs_F} (hF : xm_F F m) (hok : xs_okF F) (hsm : F.1.2.2.2.2.1 + 4 < 2 ^ 20) {f b : Nat} (hf : f < 8) (hb : b < 4) (h1 : ∀ m', xm_F (xs_get F f b).1 m' → (xs_get F f b).2 = true → xm_fF m m' → Q (some (.inl (nI 1))) n m' r) (h0 : ∀ m', xm_F (xs_get F f b).1 m' → (xs_get F f b).2 = false → xm_fF m m' → Q (some (.inl (nI 0))) n m' r) : xk_W E m_M_get 0 (xk_ent m_M_get [.inr (some 53), .inl (nI f), .inl (nI b)]) [] n m r 0 0 Q := by
  show xk_W E m_M_get 0 [some (.inr (some 53)), some (.inl (nI f)), some (.inl (nI b)), none, none, none] [] n m r 0 0 Q
  refine xk_iconst (pc := 0) (v := nI 0) d_M_get_0 (by decide) ?_
  refine xk_istore_n (pc := 1) d_M_get_1 (by decide) ?_
  exact l_mget hF hok hsm hn hS hf hb h1 h0 (F.2.2.length + 1) 0 (by omega) (by omega) (fun j x hj => by omega)
