theorem xm_nlt0 {o : Nat} (h : o < 2 ^ 31) : ¬ nI o < 0 := Int32.not_lt.mpr (xm_ge0 h)
theorem xs_un_ex {O : xs_O} (h : ¬ xs_ops O = 16) : ∃ o, xs_least (fun o => !xs_used O o) 0 16 = some o := by
  cases hl : xs_least (fun o => !xs_used O o) 0 16 with
  | some o => exact ⟨o, rfl⟩
  | none =>
    refine absurd (xs_num_all 16 (fun o ho => ?_)) h
    have := xs_least_np hl o (by omega) (by omega)
    cases hx : xs_used O o with
    | true => rfl
    | false => rw [hx] at this; cases this
theorem xm_nO {O : xs_O} {o k w md : Nat} (hl : xs_least (fun o => !xs_used O o) 0 16 = some o) : xs_nO O k w md = (o, O.1, xs_u O.2.1 o k, xs_u O.2.2.1 o w, xs_u O.2.2.2.1 o md, xs_u O.2.2.2.2.1 o 0, O.2.2.2.2.2) := by
  unfold xs_nO
  rw [hl]
theorem xm_O_new {O : xs_O} {m : xk_M} {o k w md : Nat} (h : xm_O O m) : xm_O (O.1, xs_u O.2.1 o k, xs_u O.2.2.1 o w, xs_u O.2.2.2.1 o md, xs_u O.2.2.2.2.1 o 0, O.2.2.2.2.2) (xk_up (xk_up (xk_up (xk_up m 67 o (nI k)) 68 o (nI w)) 69 o (nI md)) 70 o (nI 0)) := by
  obtain ⟨h1, h2, h3, h4, h5, h6, h7⟩ := h
  refine ⟨?_, ?_, ?_, ?_, ?_, ?_, ?_⟩
  · rw [xk_up_r (by decide), xk_up_r (by decide), xk_up_r (by decide), xk_up_r (by decide)]; exact h1
  · rw [xk_up_r (by decide), xk_up_r (by decide), xk_up_r (by decide)]; exact xm_nu h2
  · rw [xk_up_r (by decide), xk_up_r (by decide)]; exact xm_nu (fun j hj => by rw [xk_up_a (by decide)]; exact h3 j hj)
  · rw [xk_up_r (by decide)]; exact xm_nu (fun j hj => by rw [xk_up_a (by decide), xk_up_a (by decide)]; exact h4 j hj)
  · exact xm_nu (fun j hj => by rw [xk_up_a (by decide), xk_up_a (by decide), xk_up_a (by decide)]; exact h5 j hj)
  · rw [xk_up_r (by decide), xk_up_r (by decide), xk_up_r (by decide), xk_up_r (by decide)]; exact h6
  · rw [xk_up_r (by decide), xk_up_r (by decide), xk_up_r (by decide), xk_up_r (by decide)]; exact h7
/-- what open does behind its checks -/
def xm_ob (s : xs_S) (p f md : Nat) : Int32 × xs_S := match xs_free s.2.2.1 p 0 with
      | none => (-2, s)
      | some d => if xs_ops s.2.2.1 = 16 then (-2, s)
        else if s.1.1.1 f = false then
          (if (xs_op s.1.1 2 f 0).2 = true then
            (nI d, ((xs_there (xs_clear (xs_op s.1.1 2 f 0).1 f) f true, xs_u s.1.2.1 f 0, s.1.2.2), s.2.1, xs_of (xs_nO s.2.2.1 0 f md).2 (6 * p + d) (some (xs_nO s.2.2.1 0 f md).1), s.2.2.2))
          else (-8, (((xs_op s.1.1 2 f 0).1, s.1.2), s.2)))
        else if md / 16 = 1 then
          (if (xs_op s.1.1 3 f 0).2 = true then
            (nI d, (xs_len (xs_drop (xs_clear (xs_op s.1.1 3 f 0).1 f, s.1.2) f) f 0, s.2.1, xs_of (xs_nO s.2.2.1 0 f md).2 (6 * p + d) (some (xs_nO s.2.2.1 0 f md).1), s.2.2.2))
          else (-8, (((xs_op s.1.1 3 f 0).1, s.1.2), s.2)))
        else (nI d, (s.1, s.2.1, xs_of (xs_nO s.2.2.1 0 f md).2 (6 * p + d) (some (xs_nO s.2.2.1 0 f md).1), s.2.2.2))
theorem xm_ob_d {s : xs_S} {p f md d : Nat} (h : xs_free s.2.2.1 p 0 = some d) (h2 : ¬ xs_ops s.2.2.1 = 16) : xm_ob s p f md = (if s.1.1.1 f = false then
          (if (xs_op s.1.1 2 f 0).2 = true then
            (nI d, ((xs_there (xs_clear (xs_op s.1.1 2 f 0).1 f) f true, xs_u s.1.2.1 f 0, s.1.2.2), s.2.1, xs_of (xs_nO s.2.2.1 0 f md).2 (6 * p + d) (some (xs_nO s.2.2.1 0 f md).1), s.2.2.2))
          else (-8, (((xs_op s.1.1 2 f 0).1, s.1.2), s.2)))
        else if md / 16 = 1 then
          (if (xs_op s.1.1 3 f 0).2 = true then
            (nI d, (xs_len (xs_drop (xs_clear (xs_op s.1.1 3 f 0).1 f, s.1.2) f) f 0, s.2.1, xs_of (xs_nO s.2.2.1 0 f md).2 (6 * p + d) (some (xs_nO s.2.2.1 0 f md).1), s.2.2.2))
          else (-8, (((xs_op s.1.1 3 f 0).1, s.1.2), s.2)))
        else (nI d, (s.1, s.2.1, xs_of (xs_nO s.2.2.1 0 f md).2 (6 * p + d) (some (xs_nO s.2.2.1 0 f md).1), s.2.2.2))) := by
  unfold xm_ob
  rw [h]
  exact if_neg h2

set_option maxRecDepth 20000 in
set_option maxHeartbeats 4000000 in
theorem s_mopen182 {E : xk_E} {n : Nat} {m : xk_M} {r : xk_P} {Q : xk_Q} {s : xs_S} (hn : 74 ≤ n) (hS : xr_S r n) {m0 : xk_M} {F1 : xs_F} {p f md d : Nat} (hA : xm_A s m0) (hok : xs_ok s) (hF1 : xm_F F1 m) (hm1 : xm_fF m0 m) (hp : p < 7) (hd : d < 6) (hops : ¬ xs_ops s.2.2.1 = 16) (hQ : ∀ m', xm_A (F1, s.2.1, xs_of (xs_nO s.2.2.1 0 f md).2 (6 * p + d) (some (xs_nO s.2.2.1 0 f md).1), s.2.2.2) m' → xm_fr m0 m' → Q (some (.inl (nI d))) n m' r) : xk_W E m_M_open 182 [some (.inr (some 53)), some (.inl (nI p)), some (.inl (nI f)), some (.inl (nI md)), some (.inl (nI d))] [] n m r 0 0 Q := by
  obtain ⟨okF, okP, okO, okT⟩ := id hok
  obtain ⟨o, hl⟩ := xs_un_ex hops
  obtain ⟨-, l2, -, -⟩ := xs_least_sp hl
  have hA1 := xm_A_F hA hF1 hm1
  refine xk_aload_n (pc := 182) d_M_open_182 rfl ?_
  refine xk_getRo (pc := 183) d_M_open_183 fl_M_47 (by first | rfl | assumption) rfl (by omega) (by omega) (hS _ _ _ rfl (by omega)) ?_
  refine xk_bipush (pc := 186) (v := nI 6) d_M_open_186 (by decide) ?_
  refine xk_iload_n (pc := 188) d_M_open_188 rfl ?_
  first | refine xk_imulN (pc := 189) d_M_open_189 ?_ | refine xk_imul (pc := 189) d_M_open_189 ?_
  refine xk_iload (pc := 190) d_M_open_190 rfl ?_
  first | refine xk_iaddN (pc := 192) d_M_open_192 ?_ | refine xk_iadd (pc := 192) d_M_open_192 ?_
  refine xk_aload_n (pc := 193) d_M_open_193 rfl ?_
  refine xk_iconst (pc := 194) (v := nI 0) d_M_open_194 (by decide) ?_
  refine xk_iload_n (pc := 195) d_M_open_195 rfl ?_
  refine xk_iload_n (pc := 196) d_M_open_196 rfl ?_
  refine xk_cV3 (pc := 197) d_M_open_197 ml_M_122 cz_M_newOpening ⟨rfl, rfl⟩ rfl (by first | rfl | assumption) (by omega) (by omega) (Nat.le_of_ble_eq_true rfl) ⟨(Nat.le_of_ble_eq_true rfl), (Nat.le_of_ble_eq_true rfl)⟩ ?_
  refine c_M_newOpening hn hS hA1.2.2.1 okO.1 (xm_h6 okO okT) hl ?_
  refine xk_iastore (pc := 200) d_M_open_200 (by first | rfl | assumption) (by omega) (by omega) rfl (by omega) (by decide) ?_
  refine xk_iload (pc := 201) d_M_open_201 rfl ?_
  refine xk_iret (pc := 203) rfl d_M_open_203 rfl (Nat.le_of_ble_eq_true rfl) (Nat.le_of_ble_eq_true rfl) ?_
  rw [xm_nO hl] at hQ
  refine hQ _ (xm_A_O hA1 (xm_O_of (v := some o) (xm_O_new hA1.2.2.1)) (fun a ha => ?_)) (fun a ha => ?_)
  · rw [xk_up_r (by omega), xk_up_r (by omega), xk_up_r (by omega), xk_up_r (by omega), xk_up_r (by omega)]
  · rw [xk_up_r (by omega), xk_up_r (by omega), xk_up_r (by omega), xk_up_r (by omega), xk_up_r (by omega)]
    exact hm1.fr a ha

set_option maxRecDepth 20000 in
set_option maxHeartbeats 4000000 in
theorem s_mopen76 {E : xk_E} {n : Nat} {m : xk_M} {r : xk_P} {Q : xk_Q} {s : xs_S} (hn : 74 ≤ n) (hS : xr_S r n) (hA : xm_A s m) (hok : xs_ok s) (hsm : s.1.1.2.2.2.2.1 + 4 < 2 ^ 20) {p f md : Nat} (hp : p < 7) (hf : f ≤ 7) (hmd : md ≤ 31) (hQ : ∀ m', xm_A (xm_ob s p f md).2 m' → xm_fr m m' → Q (some (.inl (xm_ob s p f md).1)) n m' r) : xk_W E m_M_open 76 [some (.inr (some 53)), some (.inl (nI p)), some (.inl (nI f)), some (.inl (nI md)), none] [] n m r 0 0 Q := by
  obtain ⟨hF, hP, hO, hT⟩ := id hA
  obtain ⟨okF, okP, okO, okT⟩ := id hok
  have hb := okO.1
  have h6 := xm_h6 okO okT
  have hkw := xm_kw okO
  refine xk_aload_n (pc := 76) d_M_open_76 rfl ?_
  refine xk_iload_n (pc := 77) d_M_open_77 rfl ?_
  refine xk_iconst (pc := 78) (v := nI 0) d_M_open_78 (by decide) ?_
  refine xk_cV2 (pc := 79) d_M_open_79 ml_M_111 cz_M_free ⟨rfl, rfl⟩ rfl (by first | rfl | assumption) (by omega) (by omega) (Nat.le_of_ble_eq_true rfl) ⟨(Nat.le_of_ble_eq_true rfl), (Nat.le_of_ble_eq_true rfl)⟩ ?_
  refine c_M_free hn hS hO hb hp (by omega) (fun d hd hd6 => ?_) (fun hd => ?_)
  · refine xk_istore (pc := 82) d_M_open_82 (by decide) ?_
    refine xk_iload (pc := 84) d_M_open_84 rfl ?_
    refine xk_if_lt (pc := 86) (tgt := 98) d_M_open_86 rfl (fun c_86 => ?_) (fun c_86 => ?_)
    · exact absurd c_86 (xm_nlt0 (by omega))
    · refine xk_aload_n (pc := 89) d_M_open_89 rfl ?_
      refine xk_cV0 (pc := 90) d_M_open_90 ml_M_115 cz_M_openings ⟨rfl, rfl⟩ rfl (by first | rfl | assumption) (by omega) (by omega) (Nat.le_of_ble_eq_true rfl) ⟨(Nat.le_of_ble_eq_true rfl), (Nat.le_of_ble_eq_true rfl)⟩ ?_
      refine c_M_openings hn hS hO hb h6 ?_
      have hops16 := xs_num_le (p := xs_used s.2.2.1) 16
      change xs_ops s.2.2.1 ≤ 16 at hops16
      refine xk_bipush (pc := 93) (v := nI 16) d_M_open_93 (by decide) ?_
      first | refine xk_icmp_neN (pc := 95) (tgt := 101) d_M_open_95 rfl (by omega) (by omega) (fun c_95 => ?_) (fun c_95 => ?_) | refine xk_icmp_ne (pc := 95) (tgt := 101) d_M_open_95 rfl (fun c_95 => ?_) (fun c_95 => ?_)
      · have eb := xm_ob_d (f := f) (md := md) hd c_95
        rw [eb] at hQ
        refine xk_aload_n (pc := 101) d_M_open_101 rfl ?_
        refine xk_getRo (pc := 102) d_M_open_102 fl_M_7 (by first | rfl | assumption) rfl (by omega) (by omega) (hS _ _ _ rfl (by omega)) ?_
        refine xk_iload_n (pc := 105) d_M_open_105 rfl ?_
        refine xk_baloado (pc := 106) d_M_open_106 (by first | rfl | assumption) (by omega) (by omega) rfl (by omega) (by decide) (hF.1.1 f (by omega)) ?_
        first | refine xk_if_neN (pc := 107) (tgt := 145) d_M_open_107 rfl (by omega) (fun c_107 => ?_) (fun c_107 => ?_) | refine xk_if_ne (pc := 107) (tgt := 145) d_M_open_107 rfl (fun c_107 => ?_) (fun c_107 => ?_)
        · have c_108 := xs_bi_nz c_107
          rw [if_neg (by rw [c_108]; decide)] at hQ
          refine xk_iload_n (pc := 145) d_M_open_145 rfl ?_
          refine xk_bipush (pc := 146) (v := nI 16) d_M_open_146 (by decide) ?_
          refine xk_iand (pc := 148) d_M_open_148 ?_
          first | refine xk_if_eqN (pc := 149) (tgt := 182) d_M_open_149 rfl (by omega) (fun c_149 => ?_) (fun c_149 => ?_) | refine xk_if_eq (pc := 149) (tgt := 182) d_M_open_149 rfl (fun c_149 => ?_) (fun c_149 => ?_)
          · rw [if_neg (by have := (xs_b16 md (by omega)).mp c_149; omega)] at hQ
            exact s_mopen182 (m0 := m) (F1 := s.1) hn hS hA hok hF (fun _ _ => rfl) hp hd6 c_95 hQ
          · rw [if_pos (by have : ¬ md / 16 = 0 := fun q => c_149 ((xs_b16 md (by omega)).mpr q)
                           omega)] at hQ
            refine xk_aload_n (pc := 152) d_M_open_152 rfl ?_
            refine xk_iconst (pc := 153) (v := nI 3) d_M_open_153 (by decide) ?_
            refine xk_iload_n (pc := 154) d_M_open_154 rfl ?_
            refine xk_iconst (pc := 155) (v := nI 0) d_M_open_155 (by decide) ?_
            refine xk_cV3 (pc := 156) d_M_open_156 ml_M_95 cz_M_operate ⟨rfl, rfl⟩ rfl (by first | rfl | assumption) (by omega) (by omega) (Nat.le_of_ble_eq_true rfl) ⟨(Nat.le_of_ble_eq_true rfl), (Nat.le_of_ble_eq_true rfl)⟩ ?_
            refine c_M_operate (o := 3) hn hS hF (by omega) (by have := okF.2.2.2.2.2; omega) (fun zz m1 hF1 hm1 => ?_) (fun zz m1 hF1 hm1 => ?_)
            · refine xk_if_ne (pc := 159) (tgt := 165) d_M_open_159 rfl (fun _ => ?_) (fun h => absurd h (by decide))
              refine xk_aload_n (pc := 165) d_M_open_165 rfl ?_
              refine xk_iload_n (pc := 166) d_M_open_166 rfl ?_
              refine xk_cV1 (pc := 167) d_M_open_167 ml_M_108 cz_M_wipeHost ⟨rfl, rfl⟩ rfl (by first | rfl | assumption) (by omega) (by omega) (Nat.le_of_ble_eq_true rfl) ⟨(Nat.le_of_ble_eq_true rfl), (Nat.le_of_ble_eq_true rfl)⟩ ?_
              refine c_M_wipeHost hn hS hF1 (f := f) (by omega) (fun m2 hF3 hm2 => ?_)
              refine xk_aload_n (pc := 170) d_M_open_170 rfl ?_
              refine xk_getRo (pc := 171) d_M_open_171 fl_M_20 (by first | rfl | assumption) rfl (by omega) (by omega) (hS _ _ _ rfl (by omega)) ?_
              refine xk_iload_n (pc := 174) d_M_open_174 rfl ?_
              refine xk_iconst (pc := 175) (v := nI 0) d_M_open_175 (by decide) ?_
              refine xk_iastore (pc := 176) d_M_open_176 (by first | rfl | assumption) (by omega) (by omega) rfl (by omega) (by decide) ?_
              refine xk_aload_n (pc := 177) d_M_open_177 rfl ?_
              refine xk_iload_n (pc := 178) d_M_open_178 rfl ?_
              refine xk_cV1 (pc := 179) d_M_open_179 ml_M_119 cz_M_forget ⟨rfl, rfl⟩ rfl (by first | rfl | assumption) (by omega) (by omega) (Nat.le_of_ble_eq_true rfl) ⟨(Nat.le_of_ble_eq_true rfl), (Nat.le_of_ble_eq_true rfl)⟩ ?_
              refine c_M_forget hn hS (xm_F_len (l := 0) hF3) (fun i x hx => ⟨(okF.2.2.1 i x hx).1, (okF.2.2.1 i x hx).2.1⟩) (f := f) (by omega) (fun m3 hF4 hm3 => ?_)
              rw [if_pos (show (xs_op s.1.1 3 f 0).2 = true from decide_eq_true zz)] at hQ
              exact s_mopen182 (m0 := m) (F1 := xs_drop (xs_len (xs_clear (xs_op s.1.1 3 f 0).1 f, s.1.2) f 0) f) hn hS hA hok hF4 (fun a ha => by rw [hm3 a ha, xk_up_r (by omega), hm2 a ha]; exact hm1 a ha) hp hd6 c_95 hQ
            · refine xk_if_ne (pc := 159) (tgt := 165) d_M_open_159 rfl (fun h => absurd (by decide) h) (fun _ => ?_)
              refine xk_bipush (pc := 162) (v := (-8)) d_M_open_162 (by decide) ?_
              refine xk_iret (pc := 164) rfl d_M_open_164 rfl (Nat.le_of_ble_eq_true rfl) (Nat.le_of_ble_eq_true rfl) ?_
              rw [if_neg (show ¬ (xs_op s.1.1 3 f 0).2 = true from fun q => zz (of_decide_eq_true q))] at hQ
              exact hQ m1 (xm_A_F hA hF1 hm1) hm1.fr
        · have c_108 := xs_bi_z.mp c_107
          rw [if_pos c_108] at hQ
          refine xk_aload_n (pc := 110) d_M_open_110 rfl ?_
          refine xk_iconst (pc := 111) (v := nI 2) d_M_open_111 (by decide) ?_
          refine xk_iload_n (pc := 112) d_M_open_112 rfl ?_
          refine xk_iconst (pc := 113) (v := nI 0) d_M_open_113 (by decide) ?_
          refine xk_cV3 (pc := 114) d_M_open_114 ml_M_95 cz_M_operate ⟨rfl, rfl⟩ rfl (by first | rfl | assumption) (by omega) (by omega) (Nat.le_of_ble_eq_true rfl) ⟨(Nat.le_of_ble_eq_true rfl), (Nat.le_of_ble_eq_true rfl)⟩ ?_
          refine c_M_operate (o := 2) hn hS hF (by omega) (by have := okF.2.2.2.2.2; omega) (fun zz m1 hF1 hm1 => ?_) (fun zz m1 hF1 hm1 => ?_)
          · refine xk_if_ne (pc := 117) (tgt := 123) d_M_open_117 rfl (fun _ => ?_) (fun h => absurd h (by decide))
            refine xk_aload_n (pc := 123) d_M_open_123 rfl ?_
            refine xk_getRo (pc := 124) d_M_open_124 fl_M_7 (by first | rfl | assumption) rfl (by omega) (by omega) (hS _ _ _ rfl (by omega)) ?_
            refine xk_iload_n (pc := 127) d_M_open_127 rfl ?_
            refine xk_iconst (pc := 128) (v := nI 1) d_M_open_128 (by decide) ?_
            refine xk_bastore (pc := 129) d_M_open_129 (by first | rfl | assumption) (by omega) (by omega) rfl (by omega) (by decide) rfl ?_
            refine xk_aload_n (pc := 130) d_M_open_130 rfl ?_
            refine xk_iload_n (pc := 131) d_M_open_131 rfl ?_
            refine xk_cV1 (pc := 132) d_M_open_132 ml_M_108 cz_M_wipeHost ⟨rfl, rfl⟩ rfl (by first | rfl | assumption) (by omega) (by omega) (Nat.le_of_ble_eq_true rfl) ⟨(Nat.le_of_ble_eq_true rfl), (Nat.le_of_ble_eq_true rfl)⟩ ?_
            have hF2 : xm_F (xs_there (xs_op s.1.1 2 f 0).1 f true, s.1.2) (xk_up m1 54 f (nI 1)) := xm_F_H (F := ((xs_op s.1.1 2 f 0).1, s.1.2)) hF1 (xm_H_there (b := true) hF1.1) (xk_up_r (by decide)) (xk_up_a (by decide)) (xk_up_r (by decide)) (xk_up_r (by decide)) (xk_up_r (by decide))
            refine c_M_wipeHost hn hS hF2 (f := f) (by omega) (fun m2 hF3 hm2 => ?_)
            refine xk_aload_n (pc := 135) d_M_open_135 rfl ?_
            refine xk_getRo (pc := 136) d_M_open_136 fl_M_20 (by first | rfl | assumption) rfl (by omega) (by omega) (hS _ _ _ rfl (by omega)) ?_
            refine xk_iload_n (pc := 139) d_M_open_139 rfl ?_
            refine xk_iconst (pc := 140) (v := nI 0) d_M_open_140 (by decide) ?_
            refine xk_iastore (pc := 141) d_M_open_141 (by first | rfl | assumption) (by omega) (by omega) rfl (by omega) (by decide) ?_
            refine xk_goto (pc := 142) (tgt := 182) d_M_open_142 rfl ?_
            rw [if_pos (show (xs_op s.1.1 2 f 0).2 = true from decide_eq_true zz)] at hQ
            exact s_mopen182 (m0 := m) (F1 := xs_len (xs_clear (xs_there (xs_op s.1.1 2 f 0).1 f true) f, s.1.2) f 0) hn hS hA hok (xm_F_len (l := 0) hF3) (fun a ha => by rw [xk_up_r (by omega), hm2 a ha, xk_up_r (by omega)]; exact hm1 a ha) hp hd6 c_95 hQ
          · refine xk_if_ne (pc := 117) (tgt := 123) d_M_open_117 rfl (fun h => absurd (by decide) h) (fun _ => ?_)
            refine xk_bipush (pc := 120) (v := (-8)) d_M_open_120 (by decide) ?_
            refine xk_iret (pc := 122) rfl d_M_open_122 rfl (Nat.le_of_ble_eq_true rfl) (Nat.le_of_ble_eq_true rfl) ?_
            rw [if_neg (show ¬ (xs_op s.1.1 2 f 0).2 = true from fun q => zz (of_decide_eq_true q))] at hQ
            exact hQ m1 (xm_A_F hA hF1 hm1) hm1.fr
      · refine xk_bipush (pc := 98) (v := (-2)) d_M_open_98 (by decide) ?_
        refine xk_iret (pc := 100) rfl d_M_open_100 rfl (Nat.le_of_ble_eq_true rfl) (Nat.le_of_ble_eq_true rfl) ?_
        first
          | (have e : xm_ob s p f md = (-2, s) := by
               unfold xm_ob
               rw [hd]
             exact xqm_s e hA hQ)
          | (have e : xm_ob s p f md = (-2, s) := by
               unfold xm_ob
               rw [hd]
               exact if_pos c_95
             exact xqm_s e hA hQ)
  · refine xk_istore (pc := 82) d_M_open_82 (by decide) ?_
    refine xk_iload (pc := 84) d_M_open_84 rfl ?_
    refine xk_if_lt (pc := 86) (tgt := 98) d_M_open_86 rfl (fun _ => ?_) (fun h => absurd (by decide) h)
    refine xk_bipush (pc := 98) (v := (-2)) d_M_open_98 (by decide) ?_
    refine xk_iret (pc := 100) rfl d_M_open_100 rfl (Nat.le_of_ble_eq_true rfl) (Nat.le_of_ble_eq_true rfl) ?_
    first
      | (have e : xm_ob s p f md = (-2, s) := by
           unfold xm_ob
           rw [hd]
         exact xqm_s e hA hQ)
      | (have e : xm_ob s p f md = (-2, s) := by
           unfold xm_ob
           rw [hd]
           exact if_pos c_95
         exact xqm_s e hA hQ)

set_option maxRecDepth 20000 in
set_option maxHeartbeats 4000000 in
theorem c_M_open {E : xk_E} {n : Nat} {m : xk_M} {r : xk_P} {Q : xk_Q} {x y z : Int32} {s : xs_S} (hn : 74 ≤ n) (hS : xr_S r n) (hA : xm_A s m) (hok : xs_ok s) (hsm : s.1.1.2.2.2.2.1 + 4 < 2 ^ 20) (hQ : ∀ m', xm_A (xs_open s x y z).2 m' → xm_fr m m' → Q (some (.inl (xs_open s x y z).1)) n m' r) : xk_W E m_M_open 0 (xk_ent m_M_open [.inr (some 53), .inl x, .inl y, .inl z]) [] n m r 0 0 Q := by
  show xk_W E m_M_open 0 [some (.inr (some 53)), some (.inl x), some (.inl y), some (.inl z), none] [] n m r 0 0 Q
  obtain ⟨hF, hP, hO, hT⟩ := id hA
  obtain ⟨okF, okP, okO, okT⟩ := id hok
  have hb := okO.1
  have h6 := xm_h6 okO okT
  have hkw := xm_kw okO
  refine xk_aload_n (pc := 0) d_M_open_0 rfl ?_
  refine xk_iload_n (pc := 1) d_M_open_1 rfl ?_
  refine xk_cV1 (pc := 2) d_M_open_2 ml_M_86 cz_M_alive ⟨rfl, rfl⟩ rfl (by first | rfl | assumption) (by omega) (by omega) (Nat.le_of_ble_eq_true rfl) ⟨(Nat.le_of_ble_eq_true rfl), (Nat.le_of_ble_eq_true rfl)⟩ ?_
  refine c_M_alive hn hS hT okT (fun p ep hp hp1 ex et => ?_) (fun ep => ?_)
  · subst ex
    refine xk_if_eq (pc := 5) (tgt := 28) d_M_open_5 rfl (fun h => absurd h (by decide)) (fun _ => ?_)
    refine xk_iload_n (pc := 8) d_M_open_8 rfl ?_
    refine xk_iconst (pc := 9) (v := nI 0) d_M_open_9 (by decide) ?_
    refine xk_bipush (pc := 10) (v := nI 7) d_M_open_10 (by decide) ?_
    refine xk_cS3 (pc := 12) d_M_open_12 ml_M_78 cz_M_in ⟨rfl, rfl⟩ rfl (Nat.le_of_ble_eq_true rfl) ⟨(Nat.le_of_ble_eq_true rfl), (Nat.le_of_ble_eq_true rfl)⟩ ?_
    refine c_M_in (lo := 0) (hi := 7) (by decide) (by decide) (fun f _ hf ef => ?_) (fun enf => ?_)
    · subst ef
      have enf := xs_nat_nI (k := 8) (show f < 8 by omega) (by decide)
      refine xk_if_eq (pc := 15) (tgt := 28) d_M_open_15 rfl (fun h => absurd h (by decide)) (fun _ => ?_)
      refine xk_iload_n (pc := 18) d_M_open_18 rfl ?_
      refine xk_iconst (pc := 19) (v := nI 0) d_M_open_19 (by decide) ?_
      refine xk_bipush (pc := 20) (v := nI 31) d_M_open_20 (by decide) ?_
      refine xk_cS3 (pc := 22) d_M_open_22 ml_M_78 cz_M_in ⟨rfl, rfl⟩ rfl (Nat.le_of_ble_eq_true rfl) ⟨(Nat.le_of_ble_eq_true rfl), (Nat.le_of_ble_eq_true rfl)⟩ ?_
      refine c_M_in (lo := 0) (hi := 31) (by decide) (by decide) (fun md _ hmd emd => ?_) (fun enmd => ?_)
      · subst emd
        have enmd := xs_nat_nI (k := 32) (show md < 32 by omega) (by decide)
        refine xk_if_ne (pc := 25) (tgt := 30) d_M_open_25 rfl (fun _ => ?_) (fun h => absurd h (by decide))
        refine xk_aload_n (pc := 30) d_M_open_30 rfl ?_
        refine xk_getRo (pc := 31) d_M_open_31 fl_M_23 (by first | rfl | assumption) rfl (by omega) (by omega) (hS _ _ _ rfl (by omega)) ?_
        refine xk_iload_n (pc := 34) d_M_open_34 rfl ?_
        refine xk_ialoado (pc := 35) d_M_open_35 (by first | rfl | assumption) (by omega) (by omega) rfl (by omega) (by decide) (hP f (by omega)) ?_
        have hp2 := okP f (by omega)
        first | refine xk_if_eqN (pc := 36) (tgt := 55) d_M_open_36 rfl (by omega) (fun c_36 => ?_) (fun c_36 => ?_) | refine xk_if_eq (pc := 36) (tgt := 55) d_M_open_36 rfl (fun c_36 => ?_) (fun c_36 => ?_)
        · refine xk_bipush (pc := 55) (v := (-4)) d_M_open_55 (by decide) ?_
          refine xk_iret (pc := 57) rfl d_M_open_57 rfl (Nat.le_of_ble_eq_true rfl) (Nat.le_of_ble_eq_true rfl) ?_
          have e : xs_open s (nI p) (nI f) (nI md) = (-4, s) := by
            unfold xs_open
            rw [ep, enf, enmd]
            first | exact if_pos (Or.inr (And.intro c_46 c_53)) | exact if_pos (Or.inl c_36)
          exact xqm_s e hA hQ
        · refine xk_aload_n (pc := 39) d_M_open_39 rfl ?_
          refine xk_getRo (pc := 40) d_M_open_40 fl_M_7 (by first | rfl | assumption) rfl (by omega) (by omega) (hS _ _ _ rfl (by omega)) ?_
          refine xk_iload_n (pc := 43) d_M_open_43 rfl ?_
          refine xk_baloado (pc := 44) d_M_open_44 (by first | rfl | assumption) (by omega) (by omega) rfl (by omega) (by decide) (hF.1.1 f (by omega)) ?_
          first | refine xk_if_neN (pc := 45) (tgt := 58) d_M_open_45 rfl (by omega) (fun c_45 => ?_) (fun c_45 => ?_) | refine xk_if_ne (pc := 45) (tgt := 58) d_M_open_45 rfl (fun c_45 => ?_) (fun c_45 => ?_)
          · have c_46 := xs_bi_nz c_45
            refine xk_aload_n (pc := 58) d_M_open_58 rfl ?_
            refine xk_getRo (pc := 59) d_M_open_59 fl_M_23 (by first | rfl | assumption) rfl (by omega) (by omega) (hS _ _ _ rfl (by omega)) ?_
            refine xk_iload_n (pc := 62) d_M_open_62 rfl ?_
            refine xk_ialoado (pc := 63) d_M_open_63 (by first | rfl | assumption) (by omega) (by omega) rfl (by omega) (by decide) (hP f (by omega)) ?_
            refine xk_iconst (pc := 64) (v := nI 1) d_M_open_64 (by decide) ?_
            first | refine xk_icmp_neN (pc := 65) (tgt := 76) d_M_open_65 rfl (by omega) (by omega) (fun c_65 => ?_) (fun c_65 => ?_) | refine xk_icmp_ne (pc := 65) (tgt := 76) d_M_open_65 rfl (fun c_65 => ?_) (fun c_65 => ?_)
            · have eo : xs_open s (nI p) (nI f) (nI md) = xm_ob s p f md := by
                unfold xs_open
                rw [ep, enf, enmd]
                refine (if_neg ?_).trans (if_neg ?_)
                · rintro (q | ⟨q1, q2⟩)
                  · exact c_36 q
                  · first | exact c_53 q2 | (rw [q1] at c_46; cases c_46)
                · rintro ⟨q1, q2⟩
                  first | exact c_65 q1 | omega
              rw [eo] at hQ
              exact s_mopen76 hn hS hA hok hsm hp (by omega) (by omega) hQ
            · refine xk_iload_n (pc := 68) d_M_open_68 rfl ?_
              refine xk_iconst (pc := 69) (v := nI 1) d_M_open_69 (by decide) ?_
              first | refine xk_icmp_leN (pc := 70) (tgt := 76) d_M_open_70 rfl (by omega) (by omega) (fun c_70 => ?_) (fun c_70 => ?_) | refine xk_icmp_le (pc := 70) (tgt := 76) d_M_open_70 rfl (fun c_70 => ?_) (fun c_70 => ?_)
              · have eo : xs_open s (nI p) (nI f) (nI md) = xm_ob s p f md := by
                  unfold xs_open
                  rw [ep, enf, enmd]
                  refine (if_neg ?_).trans (if_neg ?_)
                  · rintro (q | ⟨q1, q2⟩)
                    · exact c_36 q
                    · first | exact c_53 q2 | (rw [q1] at c_46; cases c_46)
                  · rintro ⟨q1, q2⟩
                    first | exact c_65 q1 | omega
                rw [eo] at hQ
                exact s_mopen76 hn hS hA hok hsm hp (by omega) (by omega) hQ
              · refine xk_bipush (pc := 73) (v := (-5)) d_M_open_73 (by decide) ?_
                refine xk_iret (pc := 75) rfl d_M_open_75 rfl (Nat.le_of_ble_eq_true rfl) (Nat.le_of_ble_eq_true rfl) ?_
                have e : xs_open s (nI p) (nI f) (nI md) = (-5, s) := by
                  unfold xs_open
                  rw [ep, enf, enmd]
                  refine (if_neg ?_).trans (if_pos ⟨c_65, by omega⟩)
                  rintro (q | ⟨q1, q2⟩)
                  · exact c_36 q
                  · first | exact c_53 q2 | (rw [q1] at c_46; cases c_46)
                exact xqm_s e hA hQ
          · have c_46 := xs_bi_z.mp c_45
            refine xk_iload_n (pc := 48) d_M_open_48 rfl ?_
            refine xk_bipush (pc := 49) (v := nI 8) d_M_open_49 (by decide) ?_
            refine xk_iand (pc := 51) d_M_open_51 ?_
            first | refine xk_if_neN (pc := 52) (tgt := 58) d_M_open_52 rfl (by omega) (fun c_52 => ?_) (fun c_52 => ?_) | refine xk_if_ne (pc := 52) (tgt := 58) d_M_open_52 rfl (fun c_52 => ?_) (fun c_52 => ?_)
            · have c_53 : ¬ md / 8 % 2 = 0 := fun q => c_52 ((xs_b8 md (by omega)).mpr q)
              refine xk_aload_n (pc := 58) d_M_open_58 rfl ?_
              refine xk_getRo (pc := 59) d_M_open_59 fl_M_23 (by first | rfl | assumption) rfl (by omega) (by omega) (hS _ _ _ rfl (by omega)) ?_
              refine xk_iload_n (pc := 62) d_M_open_62 rfl ?_
              refine xk_ialoado (pc := 63) d_M_open_63 (by first | rfl | assumption) (by omega) (by omega) rfl (by omega) (by decide) (hP f (by omega)) ?_
              refine xk_iconst (pc := 64) (v := nI 1) d_M_open_64 (by decide) ?_
              first | refine xk_icmp_neN (pc := 65) (tgt := 76) d_M_open_65 rfl (by omega) (by omega) (fun c_65 => ?_) (fun c_65 => ?_) | refine xk_icmp_ne (pc := 65) (tgt := 76) d_M_open_65 rfl (fun c_65 => ?_) (fun c_65 => ?_)
              · have eo : xs_open s (nI p) (nI f) (nI md) = xm_ob s p f md := by
                  unfold xs_open
                  rw [ep, enf, enmd]
                  refine (if_neg ?_).trans (if_neg ?_)
                  · rintro (q | ⟨q1, q2⟩)
                    · exact c_36 q
                    · first | exact c_53 q2 | (rw [q1] at c_46; cases c_46)
                  · rintro ⟨q1, q2⟩
                    first | exact c_65 q1 | omega
                rw [eo] at hQ
                exact s_mopen76 hn hS hA hok hsm hp (by omega) (by omega) hQ
              · refine xk_iload_n (pc := 68) d_M_open_68 rfl ?_
                refine xk_iconst (pc := 69) (v := nI 1) d_M_open_69 (by decide) ?_
                first | refine xk_icmp_leN (pc := 70) (tgt := 76) d_M_open_70 rfl (by omega) (by omega) (fun c_70 => ?_) (fun c_70 => ?_) | refine xk_icmp_le (pc := 70) (tgt := 76) d_M_open_70 rfl (fun c_70 => ?_) (fun c_70 => ?_)
                · have eo : xs_open s (nI p) (nI f) (nI md) = xm_ob s p f md := by
                    unfold xs_open
                    rw [ep, enf, enmd]
                    refine (if_neg ?_).trans (if_neg ?_)
                    · rintro (q | ⟨q1, q2⟩)
                      · exact c_36 q
                      · first | exact c_53 q2 | (rw [q1] at c_46; cases c_46)
                    · rintro ⟨q1, q2⟩
                      first | exact c_65 q1 | omega
                  rw [eo] at hQ
                  exact s_mopen76 hn hS hA hok hsm hp (by omega) (by omega) hQ
                · refine xk_bipush (pc := 73) (v := (-5)) d_M_open_73 (by decide) ?_
                  refine xk_iret (pc := 75) rfl d_M_open_75 rfl (Nat.le_of_ble_eq_true rfl) (Nat.le_of_ble_eq_true rfl) ?_
                  have e : xs_open s (nI p) (nI f) (nI md) = (-5, s) := by
                    unfold xs_open
                    rw [ep, enf, enmd]
                    refine (if_neg ?_).trans (if_pos ⟨c_65, by omega⟩)
                    rintro (q | ⟨q1, q2⟩)
                    · exact c_36 q
                    · first | exact c_53 q2 | (rw [q1] at c_46; cases c_46)
                  exact xqm_s e hA hQ
            · have c_53 := (xs_b8 md (by omega)).mp c_52
              refine xk_bipush (pc := 55) (v := (-4)) d_M_open_55 (by decide) ?_
              refine xk_iret (pc := 57) rfl d_M_open_57 rfl (Nat.le_of_ble_eq_true rfl) (Nat.le_of_ble_eq_true rfl) ?_
              have e : xs_open s (nI p) (nI f) (nI md) = (-4, s) := by
                unfold xs_open
                rw [ep, enf, enmd]
                first | exact if_pos (Or.inr (And.intro c_46 c_53)) | exact if_pos (Or.inl c_36)
              exact xqm_s e hA hQ
      · replace enmd := xs_nat_out (k := 31) (by decide) enmd
        refine xk_if_ne (pc := 25) (tgt := 30) d_M_open_25 rfl (fun h => absurd (by decide) h) (fun _ => ?_)
        refine xk_iconst (pc := 28) (v := (-1)) d_M_open_28 (by decide) ?_
        refine xk_iret (pc := 29) rfl d_M_open_29 rfl (Nat.le_of_ble_eq_true rfl) (Nat.le_of_ble_eq_true rfl) ?_
        first | exact xqm_s (xs_open_1 (Or.inr (Or.inr enmd))) hA hQ | exact xqm_s (xs_open_1 (Or.inr (Or.inl enf))) hA hQ | exact xqm_s (xs_open_1 (Or.inl ep)) hA hQ
    · replace enf := xs_nat_out (k := 7) (by decide) enf
      refine xk_if_eq (pc := 15) (tgt := 28) d_M_open_15 rfl (fun _ => ?_) (fun h => absurd (by decide) h)
      refine xk_iconst (pc := 28) (v := (-1)) d_M_open_28 (by decide) ?_
      refine xk_iret (pc := 29) rfl d_M_open_29 rfl (Nat.le_of_ble_eq_true rfl) (Nat.le_of_ble_eq_true rfl) ?_
      first | exact xqm_s (xs_open_1 (Or.inr (Or.inr enmd))) hA hQ | exact xqm_s (xs_open_1 (Or.inr (Or.inl enf))) hA hQ | exact xqm_s (xs_open_1 (Or.inl ep)) hA hQ
  · refine xk_if_eq (pc := 5) (tgt := 28) d_M_open_5 rfl (fun _ => ?_) (fun h => absurd (by decide) h)
    refine xk_iconst (pc := 28) (v := (-1)) d_M_open_28 (by decide) ?_
    refine xk_iret (pc := 29) rfl d_M_open_29 rfl (Nat.le_of_ble_eq_true rfl) (Nat.le_of_ble_eq_true rfl) ?_
    first | exact xqm_s (xs_open_1 (Or.inr (Or.inr enmd))) hA hQ | exact xqm_s (xs_open_1 (Or.inr (Or.inl enf))) hA hQ | exact xqm_s (xs_open_1 (Or.inl ep)) hA hQ
