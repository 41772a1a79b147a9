/-! the law -/
theorem xk_lret {E : xk_E} {pc n ce sl : Nat} {Lc : List (Option xk_V)} {m : xk_M} {r : xk_P} {Q : xk_Q} (hd : decode code pc = .ok (.ireturn, 1)) (hc : ce ≤ 600000) (hs : sl ≤ 7302250) : xk_W E m_law pc Lc [.inl (nI 1)] n m r ce sl Q := by
  intro p l e s mid args below meth c H locs ls hC hR hlocs hLo
  obtain ⟨hx, hb, hr, hml, hcl, hts, hlk, -, hK, hlaw⟩ := hC
  obtain ⟨ha, hsz⟩ := hlaw rfl
  subst ha
  rw [xk_Fin_l rfl]
  refine va_forget (fun q hq => ?_) (W.widen hc hs (lw_ret hx hb hr hlk hd))
  have h1 : E.2.2.1 < q.base := hlocs q hq
  omega
theorem xm_A_fr {s : xs_S} {m m' : xk_M} {r r' : xk_P} (h : xm_A s m) (hf : xr_fr m m' r r') : xm_A s m' :=
  ⟨xm_F_kept h.1 (fun a ha => (hf a (by omega) (by omega)).1) (hf 53 (by omega) (by omega)).1, xm_P_kept h.2.1 (hf 58 (by omega) (by omega)).1, xm_O_kept h.2.2.1 (fun a _ _ => (hf a (by omega) (by omega)).1), xm_T_kept h.2.2.2 (fun a _ _ => (hf a (by omega) (by omega)).1)⟩
theorem xr_A_fr {s : xs_S} {m m' : xk_M} {r : xk_P} {n : Nat} (h : xr_A s m r n) (hf : xm_fr m m') : xr_A s m' r n :=
  ⟨xr_F_kept h.1 (fun a ha => hf a (by omega)) rfl, fun f hf' => by rw [hf 20 (by omega)]; exact h.2.1 f hf', xr_O_kept h.2.2.1 (Nat.le_refl _) (fun a _ _ => hf a (by omega)) (fun a _ _ => hf a (by omega)) (fun _ _ _ => rfl), xr_T_kept h.2.2.2.1 (fun a _ _ => hf a (by omega)), h.2.2.2.2.1, h.2.2.2.2.2⟩
/-- what holds before each call of the script -/
def xl_I (s : xs_S) (i n ce sl : Nat) (m : xk_M) (r : xk_P) : Prop := xr_A s m r n ∧ xm_A s m ∧ xo_S s ∧ n % 2 = 0 ∧ s.1.1.2.2.2.2.1 ≤ i ∧ ce ≤ 73 + i ∧ sl ≤ 2028 + 10 * i
theorem xl_step {s s' : xs_S} {i n n' ce sl ce' sl' : Nat} {m m' : xk_M} {r r' : xk_P} (h : xl_I s i n ce sl m r) (hg : xo_G s s') (hA : xr_A s' m' r' n') (hM : xm_A s' m') (hn : n' % 2 = 0) (hc : ce' ≤ ce + 2) (hs : sl' ≤ sl + 10) : xl_I s' (i + 4) n' ce' sl' m' r' := by
  obtain ⟨_, _, _, _, h5, h6, h7⟩ := h
  exact ⟨hA, hM, hg.1, hn, by have := hg.2; omega, by omega, by omega⟩

set_option maxRecDepth 20000 in
set_option maxHeartbeats 4000000 in
theorem s_law_put {E : xk_E} {n : Nat} {m : xk_M} {r : xk_P} {Q : xk_Q} {s : xs_S} {i ce sl : Nat} (hL : E.2.2.2.2.2.1 ≤ 2048) (hi : i + 4 ≤ E.2.2.2.2.2.1) (hI : xl_I s i n ce sl m r) (hK : ∀ s' n' ce' sl' m' r', xl_I s' (i + 4) n' ce' sl' m' r' → xk_W E m_law 18 [some (.inr (some 0)), some (.inr (some 1)), some (.inr (some 53)), some (.inl (nI (i + 4)))] [] n' m' r' ce' sl' Q) : xk_W E m_law 128 [some (.inr (some 0)), some (.inr (some 1)), some (.inr (some 53)), some (.inl (nI i))] [] n m r ce sl Q := by
  obtain ⟨hA, hM, hS0, h4, h5, h6, h7⟩ := id hI
  have hok := hS0.1
  have hn : 74 ≤ n := hA.2.2.2.2.2
  have hsm : s.1.1.2.2.2.2.1 + 4 < 2 ^ 20 := by omega
  refine xk_aload_n (pc := 128) d_law_128 rfl ?_
  refine xk_aload_n (pc := 129) d_law_129 rfl ?_
  refine xk_iload_n (pc := 130) d_law_130 rfl ?_
  refine xk_iconst (pc := 131) (v := nI 1) d_law_131 (by decide) ?_
  first | refine xk_iaddN (pc := 132) d_law_132 ?_ | refine xk_iadd (pc := 132) d_law_132 ?_
  refine xk_sld (pc := 133) d_law_133 rfl (by omega) (by omega) ?_
  refine xk_aload_n (pc := 134) d_law_134 rfl ?_
  refine xk_iload_n (pc := 135) d_law_135 rfl ?_
  refine xk_iconst (pc := 136) (v := nI 2) d_law_136 (by decide) ?_
  first | refine xk_iaddN (pc := 137) d_law_137 ?_ | refine xk_iadd (pc := 137) d_law_137 ?_
  refine xk_sld (pc := 138) d_law_138 rfl (by omega) (by omega) ?_
  refine xk_aload_n (pc := 139) d_law_139 rfl ?_
  refine xk_iload_n (pc := 140) d_law_140 rfl ?_
  refine xk_iconst (pc := 141) (v := nI 3) d_law_141 (by decide) ?_
  first | refine xk_iaddN (pc := 142) d_law_142 ?_ | refine xk_iadd (pc := 142) d_law_142 ?_
  refine xk_sld (pc := 143) d_law_143 rfl (by omega) (by omega) ?_
  refine xk_cV3 (pc := 144) d_law_144 ml_L_13 cz_K_put ⟨rfl, rfl⟩ rfl rfl (by omega) (by omega) (Nat.le_of_ble_eq_true rfl) ⟨(show ce ≤ 600000 by omega), (show sl ≤ 7302250 by omega)⟩ ?_
  refine c_K_put hA hok hsm (fun n1 m1 r1 q1 q2 hA1 hf1 => ?_)
  obtain rfl : n1 = n := by omega
  have hM1 := xm_A_fr hM hf1
  refine xk_aload_n (pc := 147) d_law_147 rfl ?_
  refine xk_aload_n (pc := 148) d_law_148 rfl ?_
  refine xk_iload_n (pc := 149) d_law_149 rfl ?_
  refine xk_iconst (pc := 150) (v := nI 1) d_law_150 (by decide) ?_
  first | refine xk_iaddN (pc := 151) d_law_151 ?_ | refine xk_iadd (pc := 151) d_law_151 ?_
  refine xk_sld (pc := 152) d_law_152 rfl (by omega) (by omega) ?_
  refine xk_aload_n (pc := 153) d_law_153 rfl ?_
  refine xk_iload_n (pc := 154) d_law_154 rfl ?_
  refine xk_iconst (pc := 155) (v := nI 2) d_law_155 (by decide) ?_
  first | refine xk_iaddN (pc := 156) d_law_156 ?_ | refine xk_iadd (pc := 156) d_law_156 ?_
  refine xk_sld (pc := 157) d_law_157 rfl (by omega) (by omega) ?_
  refine xk_aload_n (pc := 158) d_law_158 rfl ?_
  refine xk_iload_n (pc := 159) d_law_159 rfl ?_
  refine xk_iconst (pc := 160) (v := nI 3) d_law_160 (by decide) ?_
  first | refine xk_iaddN (pc := 161) d_law_161 ?_ | refine xk_iadd (pc := 161) d_law_161 ?_
  refine xk_sld (pc := 162) d_law_162 rfl (by omega) (by omega) ?_
  refine xk_cV3 (pc := 163) d_law_163 ml_L_17 cz_M_put ⟨rfl, rfl⟩ rfl rfl (by omega) (by omega) (Nat.le_of_ble_eq_true rfl) ⟨(show ce ≤ 600000 by omega), (show sl ≤ 7302250 by omega)⟩ ?_
  refine c_M_put hn hA1.2.2.2.2.1 hM1 hok hsm (fun m2 hM2 hf2 => ?_)
  refine xk_icmp_eq (pc := 166) (tgt := 738) d_law_166 rfl (fun _ => ?_) (fun c => absurd rfl c)
  refine xk_iincN (pc := 738) (d := 4) d_law_738 rfl ?_
  refine xk_goto (pc := 741) (tgt := 18) d_law_741 rfl ?_
  exact hK _ _ _ _ _ _ (xl_step hI (xo_put hS0 (E.2.2.2.2.2.2 (i + 1)) (E.2.2.2.2.2.2 (i + 2)) (E.2.2.2.2.2.2 (i + 3))) (xr_A_fr hA1 hf2) hM2 h4 (by omega) (by omega))

set_option maxRecDepth 20000 in
set_option maxHeartbeats 4000000 in
theorem s_law_policy {E : xk_E} {n : Nat} {m : xk_M} {r : xk_P} {Q : xk_Q} {s : xs_S} {i ce sl : Nat} (hL : E.2.2.2.2.2.1 ≤ 2048) (hi : i + 4 ≤ E.2.2.2.2.2.1) (hI : xl_I s i n ce sl m r) (hK : ∀ s' n' ce' sl' m' r', xl_I s' (i + 4) n' ce' sl' m' r' → xk_W E m_law 18 [some (.inr (some 0)), some (.inr (some 1)), some (.inr (some 53)), some (.inl (nI (i + 4)))] [] n' m' r' ce' sl' Q) : xk_W E m_law 171 [some (.inr (some 0)), some (.inr (some 1)), some (.inr (some 53)), some (.inl (nI i))] [] n m r ce sl Q := by
  obtain ⟨hA, hM, hS0, h4, h5, h6, h7⟩ := id hI
  have hok := hS0.1
  have hn : 74 ≤ n := hA.2.2.2.2.2
  have hsm : s.1.1.2.2.2.2.1 + 4 < 2 ^ 20 := by omega
  refine xk_aload_n (pc := 171) d_law_171 rfl ?_
  refine xk_aload_n (pc := 172) d_law_172 rfl ?_
  refine xk_iload_n (pc := 173) d_law_173 rfl ?_
  refine xk_iconst (pc := 174) (v := nI 1) d_law_174 (by decide) ?_
  first | refine xk_iaddN (pc := 175) d_law_175 ?_ | refine xk_iadd (pc := 175) d_law_175 ?_
  refine xk_sld (pc := 176) d_law_176 rfl (by omega) (by omega) ?_
  refine xk_aload_n (pc := 177) d_law_177 rfl ?_
  refine xk_iload_n (pc := 178) d_law_178 rfl ?_
  refine xk_iconst (pc := 179) (v := nI 2) d_law_179 (by decide) ?_
  first | refine xk_iaddN (pc := 180) d_law_180 ?_ | refine xk_iadd (pc := 180) d_law_180 ?_
  refine xk_sld (pc := 181) d_law_181 rfl (by omega) (by omega) ?_
  refine xk_cV2 (pc := 182) d_law_182 ml_L_18 cz_K_policy ⟨rfl, rfl⟩ rfl rfl (by omega) (by omega) (Nat.le_of_ble_eq_true rfl) ⟨(show ce ≤ 600000 by omega), (show sl ≤ 7302250 by omega)⟩ ?_
  refine c_K_policy hA hok hsm (fun n1 m1 r1 q1 q2 hA1 hf1 => ?_)
  obtain rfl : n1 = n := by omega
  have hM1 := xm_A_fr hM hf1
  refine xk_aload_n (pc := 185) d_law_185 rfl ?_
  refine xk_aload_n (pc := 186) d_law_186 rfl ?_
  refine xk_iload_n (pc := 187) d_law_187 rfl ?_
  refine xk_iconst (pc := 188) (v := nI 1) d_law_188 (by decide) ?_
  first | refine xk_iaddN (pc := 189) d_law_189 ?_ | refine xk_iadd (pc := 189) d_law_189 ?_
  refine xk_sld (pc := 190) d_law_190 rfl (by omega) (by omega) ?_
  refine xk_aload_n (pc := 191) d_law_191 rfl ?_
  refine xk_iload_n (pc := 192) d_law_192 rfl ?_
  refine xk_iconst (pc := 193) (v := nI 2) d_law_193 (by decide) ?_
  first | refine xk_iaddN (pc := 194) d_law_194 ?_ | refine xk_iadd (pc := 194) d_law_194 ?_
  refine xk_sld (pc := 195) d_law_195 rfl (by omega) (by omega) ?_
  refine xk_cV2 (pc := 196) d_law_196 ml_L_22 cz_M_policy ⟨rfl, rfl⟩ rfl rfl (by omega) (by omega) (Nat.le_of_ble_eq_true rfl) ⟨(show ce ≤ 600000 by omega), (show sl ≤ 7302250 by omega)⟩ ?_
  refine c_M_policy hn hA1.2.2.2.2.1 hM1 hok hsm (fun m2 hM2 hf2 => ?_)
  refine xk_icmp_eq (pc := 199) (tgt := 738) d_law_199 rfl (fun _ => ?_) (fun c => absurd rfl c)
  refine xk_iincN (pc := 738) (d := 4) d_law_738 rfl ?_
  refine xk_goto (pc := 741) (tgt := 18) d_law_741 rfl ?_
  exact hK _ _ _ _ _ _ (xl_step hI (xo_policy hS0 (E.2.2.2.2.2.2 (i + 1)) (E.2.2.2.2.2.2 (i + 2))) (xr_A_fr hA1 hf2) hM2 h4 (by omega) (by omega))

set_option maxRecDepth 20000 in
set_option maxHeartbeats 4000000 in
theorem s_law_failing {E : xk_E} {n : Nat} {m : xk_M} {r : xk_P} {Q : xk_Q} {s : xs_S} {i ce sl : Nat} (hL : E.2.2.2.2.2.1 ≤ 2048) (hi : i + 4 ≤ E.2.2.2.2.2.1) (hI : xl_I s i n ce sl m r) (hK : ∀ s' n' ce' sl' m' r', xl_I s' (i + 4) n' ce' sl' m' r' → xk_W E m_law 18 [some (.inr (some 0)), some (.inr (some 1)), some (.inr (some 53)), some (.inl (nI (i + 4)))] [] n' m' r' ce' sl' Q) : xk_W E m_law 204 [some (.inr (some 0)), some (.inr (some 1)), some (.inr (some 53)), some (.inl (nI i))] [] n m r ce sl Q := by
  obtain ⟨hA, hM, hS0, h4, h5, h6, h7⟩ := id hI
  have hok := hS0.1
  have hn : 74 ≤ n := hA.2.2.2.2.2
  have hsm : s.1.1.2.2.2.2.1 + 4 < 2 ^ 20 := by omega
  refine xk_aload_n (pc := 204) d_law_204 rfl ?_
  refine xk_aload_n (pc := 205) d_law_205 rfl ?_
  refine xk_iload_n (pc := 206) d_law_206 rfl ?_
  refine xk_iconst (pc := 207) (v := nI 1) d_law_207 (by decide) ?_
  first | refine xk_iaddN (pc := 208) d_law_208 ?_ | refine xk_iadd (pc := 208) d_law_208 ?_
  refine xk_sld (pc := 209) d_law_209 rfl (by omega) (by omega) ?_
  refine xk_cV1 (pc := 210) d_law_210 ml_L_23 cz_K_failing ⟨rfl, rfl⟩ rfl rfl (by omega) (by omega) (Nat.le_of_ble_eq_true rfl) ⟨(show ce ≤ 600000 by omega), (show sl ≤ 7302250 by omega)⟩ ?_
  refine c_K_failing hA hok hsm (fun n1 m1 r1 q1 q2 hA1 hf1 => ?_)
  obtain rfl : n1 = n := by omega
  have hM1 := xm_A_fr hM hf1
  refine xk_aload_n (pc := 213) d_law_213 rfl ?_
  refine xk_aload_n (pc := 214) d_law_214 rfl ?_
  refine xk_iload_n (pc := 215) d_law_215 rfl ?_
  refine xk_iconst (pc := 216) (v := nI 1) d_law_216 (by decide) ?_
  first | refine xk_iaddN (pc := 217) d_law_217 ?_ | refine xk_iadd (pc := 217) d_law_217 ?_
  refine xk_sld (pc := 218) d_law_218 rfl (by omega) (by omega) ?_
  refine xk_cV1 (pc := 219) d_law_219 ml_L_27 cz_M_failing ⟨rfl, rfl⟩ rfl rfl (by omega) (by omega) (Nat.le_of_ble_eq_true rfl) ⟨(show ce ≤ 600000 by omega), (show sl ≤ 7302250 by omega)⟩ ?_
  refine c_M_failing hn hA1.2.2.2.2.1 hM1 hok hsm (fun m2 hM2 hf2 => ?_)
  refine xk_icmp_eq (pc := 222) (tgt := 738) d_law_222 rfl (fun _ => ?_) (fun c => absurd rfl c)
  refine xk_iincN (pc := 738) (d := 4) d_law_738 rfl ?_
  refine xk_goto (pc := 741) (tgt := 18) d_law_741 rfl ?_
  exact hK _ _ _ _ _ _ (xl_step hI (xo_failing hS0 (E.2.2.2.2.2.2 (i + 1))) (xr_A_fr hA1 hf2) hM2 h4 (by omega) (by omega))

set_option maxRecDepth 20000 in
set_option maxHeartbeats 4000000 in
theorem s_law_open {E : xk_E} {n : Nat} {m : xk_M} {r : xk_P} {Q : xk_Q} {s : xs_S} {i ce sl : Nat} (hL : E.2.2.2.2.2.1 ≤ 2048) (hi : i + 4 ≤ E.2.2.2.2.2.1) (hI : xl_I s i n ce sl m r) (hK : ∀ s' n' ce' sl' m' r', xl_I s' (i + 4) n' ce' sl' m' r' → xk_W E m_law 18 [some (.inr (some 0)), some (.inr (some 1)), some (.inr (some 53)), some (.inl (nI (i + 4)))] [] n' m' r' ce' sl' Q) : xk_W E m_law 227 [some (.inr (some 0)), some (.inr (some 1)), some (.inr (some 53)), some (.inl (nI i))] [] n m r ce sl Q := by
  obtain ⟨hA, hM, hS0, h4, h5, h6, h7⟩ := id hI
  have hok := hS0.1
  have hn : 74 ≤ n := hA.2.2.2.2.2
  have hsm : s.1.1.2.2.2.2.1 + 4 < 2 ^ 20 := by omega
  refine xk_aload_n (pc := 227) d_law_227 rfl ?_
  refine xk_aload_n (pc := 228) d_law_228 rfl ?_
  refine xk_iload_n (pc := 229) d_law_229 rfl ?_
  refine xk_iconst (pc := 230) (v := nI 1) d_law_230 (by decide) ?_
  first | refine xk_iaddN (pc := 231) d_law_231 ?_ | refine xk_iadd (pc := 231) d_law_231 ?_
  refine xk_sld (pc := 232) d_law_232 rfl (by omega) (by omega) ?_
  refine xk_aload_n (pc := 233) d_law_233 rfl ?_
  refine xk_iload_n (pc := 234) d_law_234 rfl ?_
  refine xk_iconst (pc := 235) (v := nI 2) d_law_235 (by decide) ?_
  first | refine xk_iaddN (pc := 236) d_law_236 ?_ | refine xk_iadd (pc := 236) d_law_236 ?_
  refine xk_sld (pc := 237) d_law_237 rfl (by omega) (by omega) ?_
  refine xk_aload_n (pc := 238) d_law_238 rfl ?_
  refine xk_iload_n (pc := 239) d_law_239 rfl ?_
  refine xk_iconst (pc := 240) (v := nI 3) d_law_240 (by decide) ?_
  first | refine xk_iaddN (pc := 241) d_law_241 ?_ | refine xk_iadd (pc := 241) d_law_241 ?_
  refine xk_sld (pc := 242) d_law_242 rfl (by omega) (by omega) ?_
  refine xk_cV3 (pc := 243) d_law_243 ml_L_28 cz_K_open ⟨rfl, rfl⟩ rfl rfl (by omega) (by omega) (Nat.le_of_ble_eq_true rfl) ⟨(show ce ≤ 600000 by omega), (show sl ≤ 7302250 by omega)⟩ ?_
  refine c_K_open hA hok hsm (fun n1 m1 r1 q1 q2 hA1 hf1 => ?_)
  obtain rfl : n1 = n := by omega
  have hM1 := xm_A_fr hM hf1
  refine xk_aload_n (pc := 246) d_law_246 rfl ?_
  refine xk_aload_n (pc := 247) d_law_247 rfl ?_
  refine xk_iload_n (pc := 248) d_law_248 rfl ?_
  refine xk_iconst (pc := 249) (v := nI 1) d_law_249 (by decide) ?_
  first | refine xk_iaddN (pc := 250) d_law_250 ?_ | refine xk_iadd (pc := 250) d_law_250 ?_
  refine xk_sld (pc := 251) d_law_251 rfl (by omega) (by omega) ?_
  refine xk_aload_n (pc := 252) d_law_252 rfl ?_
  refine xk_iload_n (pc := 253) d_law_253 rfl ?_
  refine xk_iconst (pc := 254) (v := nI 2) d_law_254 (by decide) ?_
  first | refine xk_iaddN (pc := 255) d_law_255 ?_ | refine xk_iadd (pc := 255) d_law_255 ?_
  refine xk_sld (pc := 256) d_law_256 rfl (by omega) (by omega) ?_
  refine xk_aload_n (pc := 257) d_law_257 rfl ?_
  refine xk_iload_n (pc := 258) d_law_258 rfl ?_
  refine xk_iconst (pc := 259) (v := nI 3) d_law_259 (by decide) ?_
  first | refine xk_iaddN (pc := 260) d_law_260 ?_ | refine xk_iadd (pc := 260) d_law_260 ?_
  refine xk_sld (pc := 261) d_law_261 rfl (by omega) (by omega) ?_
  refine xk_cV3 (pc := 262) d_law_262 ml_L_31 cz_M_open ⟨rfl, rfl⟩ rfl rfl (by omega) (by omega) (Nat.le_of_ble_eq_true rfl) ⟨(show ce ≤ 600000 by omega), (show sl ≤ 7302250 by omega)⟩ ?_
  refine c_M_open hn hA1.2.2.2.2.1 hM1 hok hsm (fun m2 hM2 hf2 => ?_)
  refine xk_icmp_eq (pc := 265) (tgt := 738) d_law_265 rfl (fun _ => ?_) (fun c => absurd rfl c)
  refine xk_iincN (pc := 738) (d := 4) d_law_738 rfl ?_
  refine xk_goto (pc := 741) (tgt := 18) d_law_741 rfl ?_
  exact hK _ _ _ _ _ _ (xl_step hI (xo_open hS0 (E.2.2.2.2.2.2 (i + 1)) (E.2.2.2.2.2.2 (i + 2)) (E.2.2.2.2.2.2 (i + 3))) (xr_A_fr hA1 hf2) hM2 h4 (by omega) (by omega))

set_option maxRecDepth 20000 in
set_option maxHeartbeats 4000000 in
theorem s_law_pipe {E : xk_E} {n : Nat} {m : xk_M} {r : xk_P} {Q : xk_Q} {s : xs_S} {i ce sl : Nat} (hL : E.2.2.2.2.2.1 ≤ 2048) (hi : i + 4 ≤ E.2.2.2.2.2.1) (hI : xl_I s i n ce sl m r) (hK : ∀ s' n' ce' sl' m' r', xl_I s' (i + 4) n' ce' sl' m' r' → xk_W E m_law 18 [some (.inr (some 0)), some (.inr (some 1)), some (.inr (some 53)), some (.inl (nI (i + 4)))] [] n' m' r' ce' sl' Q) : xk_W E m_law 270 [some (.inr (some 0)), some (.inr (some 1)), some (.inr (some 53)), some (.inl (nI i))] [] n m r ce sl Q := by
  obtain ⟨hA, hM, hS0, h4, h5, h6, h7⟩ := id hI
  have hok := hS0.1
  have hn : 74 ≤ n := hA.2.2.2.2.2
  have hsm : s.1.1.2.2.2.2.1 + 4 < 2 ^ 20 := by omega
  refine xk_aload_n (pc := 270) d_law_270 rfl ?_
  refine xk_aload_n (pc := 271) d_law_271 rfl ?_
  refine xk_iload_n (pc := 272) d_law_272 rfl ?_
  refine xk_iconst (pc := 273) (v := nI 1) d_law_273 (by decide) ?_
  first | refine xk_iaddN (pc := 274) d_law_274 ?_ | refine xk_iadd (pc := 274) d_law_274 ?_
  refine xk_sld (pc := 275) d_law_275 rfl (by omega) (by omega) ?_
  refine xk_callV (as := [.inl (E.2.2.2.2.2.2 (i + 1))]) (pc := 276) (ci := 6) d_law_276 ml_L_32 cz_K_pipe.1 cz_K_pipe.2.1 cz_K_pipe.2.2.1 rfl rfl rfl rfl (by omega) (by omega) rfl cz_K_pipe.2.2.2.2 (Nat.le_of_ble_eq_true rfl) (show ce + 2 ≤ 600000 by omega) (show sl + 10 ≤ 7302250 by omega) ?_
  refine c_K_pipe hA hok hsm h4 (fun n1 m1 r1 q1 hA1 hf1 => ?_)
  have hn1 : 74 ≤ n1 := by omega
  have hM1 := xm_A_fr hM hf1
  refine xk_aload_n (pc := 279) d_law_279 rfl ?_
  refine xk_aload_n (pc := 280) d_law_280 rfl ?_
  refine xk_iload_n (pc := 281) d_law_281 rfl ?_
  refine xk_iconst (pc := 282) (v := nI 1) d_law_282 (by decide) ?_
  first | refine xk_iaddN (pc := 283) d_law_283 ?_ | refine xk_iadd (pc := 283) d_law_283 ?_
  refine xk_sld (pc := 284) d_law_284 rfl (by omega) (by omega) ?_
  refine xk_cV1 (pc := 285) d_law_285 ml_L_35 cz_M_pipe ⟨rfl, rfl⟩ rfl rfl (by omega) (by omega) (Nat.le_of_ble_eq_true rfl) ⟨(show ce + 2 ≤ 600000 by omega), (show sl + 10 ≤ 7302250 by omega)⟩ ?_
  refine c_M_pipe hn1 hA1.2.2.2.2.1 hM1 hok hsm (fun m2 hM2 hf2 => ?_)
  refine xk_icmp_eq (pc := 288) (tgt := 738) d_law_288 rfl (fun _ => ?_) (fun c => absurd rfl c)
  refine xk_iincN (pc := 738) (d := 4) d_law_738 rfl ?_
  refine xk_goto (pc := 741) (tgt := 18) d_law_741 rfl ?_
  exact hK _ _ _ _ _ _ (xl_step hI (xo_pipe hS0 (E.2.2.2.2.2.2 (i + 1))) (xr_A_fr hA1 hf2) hM2 (by omega) (Nat.le_refl _) (Nat.le_refl _))

set_option maxRecDepth 20000 in
set_option maxHeartbeats 4000000 in
theorem s_law_read {E : xk_E} {n : Nat} {m : xk_M} {r : xk_P} {Q : xk_Q} {s : xs_S} {i ce sl : Nat} (hL : E.2.2.2.2.2.1 ≤ 2048) (hi : i + 4 ≤ E.2.2.2.2.2.1) (hI : xl_I s i n ce sl m r) (hK : ∀ s' n' ce' sl' m' r', xl_I s' (i + 4) n' ce' sl' m' r' → xk_W E m_law 18 [some (.inr (some 0)), some (.inr (some 1)), some (.inr (some 53)), some (.inl (nI (i + 4)))] [] n' m' r' ce' sl' Q) : xk_W E m_law 293 [some (.inr (some 0)), some (.inr (some 1)), some (.inr (some 53)), some (.inl (nI i))] [] n m r ce sl Q := by
  obtain ⟨hA, hM, hS0, h4, h5, h6, h7⟩ := id hI
  have hok := hS0.1
  have hn : 74 ≤ n := hA.2.2.2.2.2
  have hsm : s.1.1.2.2.2.2.1 + 4 < 2 ^ 20 := by omega
  refine xk_aload_n (pc := 293) d_law_293 rfl ?_
  refine xk_aload_n (pc := 294) d_law_294 rfl ?_
  refine xk_iload_n (pc := 295) d_law_295 rfl ?_
  refine xk_iconst (pc := 296) (v := nI 1) d_law_296 (by decide) ?_
  first | refine xk_iaddN (pc := 297) d_law_297 ?_ | refine xk_iadd (pc := 297) d_law_297 ?_
  refine xk_sld (pc := 298) d_law_298 rfl (by omega) (by omega) ?_
  refine xk_aload_n (pc := 299) d_law_299 rfl ?_
  refine xk_iload_n (pc := 300) d_law_300 rfl ?_
  refine xk_iconst (pc := 301) (v := nI 2) d_law_301 (by decide) ?_
  first | refine xk_iaddN (pc := 302) d_law_302 ?_ | refine xk_iadd (pc := 302) d_law_302 ?_
  refine xk_sld (pc := 303) d_law_303 rfl (by omega) (by omega) ?_
  refine xk_cV2 (pc := 304) d_law_304 ml_L_36 cz_K_read ⟨rfl, rfl⟩ rfl rfl (by omega) (by omega) (Nat.le_of_ble_eq_true rfl) ⟨(show ce ≤ 600000 by omega), (show sl ≤ 7302250 by omega)⟩ ?_
  refine c_K_read hA hok hsm (fun n1 m1 r1 q1 q2 hA1 hf1 => ?_)
  obtain rfl : n1 = n := by omega
  have hM1 := xm_A_fr hM hf1
  refine xk_aload_n (pc := 307) d_law_307 rfl ?_
  refine xk_aload_n (pc := 308) d_law_308 rfl ?_
  refine xk_iload_n (pc := 309) d_law_309 rfl ?_
  refine xk_iconst (pc := 310) (v := nI 1) d_law_310 (by decide) ?_
  first | refine xk_iaddN (pc := 311) d_law_311 ?_ | refine xk_iadd (pc := 311) d_law_311 ?_
  refine xk_sld (pc := 312) d_law_312 rfl (by omega) (by omega) ?_
  refine xk_aload_n (pc := 313) d_law_313 rfl ?_
  refine xk_iload_n (pc := 314) d_law_314 rfl ?_
  refine xk_iconst (pc := 315) (v := nI 2) d_law_315 (by decide) ?_
  first | refine xk_iaddN (pc := 316) d_law_316 ?_ | refine xk_iadd (pc := 316) d_law_316 ?_
  refine xk_sld (pc := 317) d_law_317 rfl (by omega) (by omega) ?_
  refine xk_cV2 (pc := 318) d_law_318 ml_L_39 cz_M_read ⟨rfl, rfl⟩ rfl rfl (by omega) (by omega) (Nat.le_of_ble_eq_true rfl) ⟨(show ce ≤ 600000 by omega), (show sl ≤ 7302250 by omega)⟩ ?_
  refine c_M_read hn hA1.2.2.2.2.1 hM1 hok hsm (fun m2 hM2 hf2 => ?_)
  refine xk_icmp_eq (pc := 321) (tgt := 738) d_law_321 rfl (fun _ => ?_) (fun c => absurd rfl c)
  refine xk_iincN (pc := 738) (d := 4) d_law_738 rfl ?_
  refine xk_goto (pc := 741) (tgt := 18) d_law_741 rfl ?_
  exact hK _ _ _ _ _ _ (xl_step hI (xo_read hS0 (E.2.2.2.2.2.2 (i + 1)) (E.2.2.2.2.2.2 (i + 2))) (xr_A_fr hA1 hf2) hM2 h4 (by omega) (by omega))

set_option maxRecDepth 20000 in
set_option maxHeartbeats 4000000 in
theorem s_law_write {E : xk_E} {n : Nat} {m : xk_M} {r : xk_P} {Q : xk_Q} {s : xs_S} {i ce sl : Nat} (hL : E.2.2.2.2.2.1 ≤ 2048) (hi : i + 4 ≤ E.2.2.2.2.2.1) (hI : xl_I s i n ce sl m r) (hK : ∀ s' n' ce' sl' m' r', xl_I s' (i + 4) n' ce' sl' m' r' → xk_W E m_law 18 [some (.inr (some 0)), some (.inr (some 1)), some (.inr (some 53)), some (.inl (nI (i + 4)))] [] n' m' r' ce' sl' Q) : xk_W E m_law 326 [some (.inr (some 0)), some (.inr (some 1)), some (.inr (some 53)), some (.inl (nI i))] [] n m r ce sl Q := by
  obtain ⟨hA, hM, hS0, h4, h5, h6, h7⟩ := id hI
  have hok := hS0.1
  have hn : 74 ≤ n := hA.2.2.2.2.2
  have hsm : s.1.1.2.2.2.2.1 + 4 < 2 ^ 20 := by omega
  refine xk_aload_n (pc := 326) d_law_326 rfl ?_
  refine xk_aload_n (pc := 327) d_law_327 rfl ?_
  refine xk_iload_n (pc := 328) d_law_328 rfl ?_
  refine xk_iconst (pc := 329) (v := nI 1) d_law_329 (by decide) ?_
  first | refine xk_iaddN (pc := 330) d_law_330 ?_ | refine xk_iadd (pc := 330) d_law_330 ?_
  refine xk_sld (pc := 331) d_law_331 rfl (by omega) (by omega) ?_
  refine xk_aload_n (pc := 332) d_law_332 rfl ?_
  refine xk_iload_n (pc := 333) d_law_333 rfl ?_
  refine xk_iconst (pc := 334) (v := nI 2) d_law_334 (by decide) ?_
  first | refine xk_iaddN (pc := 335) d_law_335 ?_ | refine xk_iadd (pc := 335) d_law_335 ?_
  refine xk_sld (pc := 336) d_law_336 rfl (by omega) (by omega) ?_
  refine xk_aload_n (pc := 337) d_law_337 rfl ?_
  refine xk_iload_n (pc := 338) d_law_338 rfl ?_
  refine xk_iconst (pc := 339) (v := nI 3) d_law_339 (by decide) ?_
  first | refine xk_iaddN (pc := 340) d_law_340 ?_ | refine xk_iadd (pc := 340) d_law_340 ?_
  refine xk_sld (pc := 341) d_law_341 rfl (by omega) (by omega) ?_
  refine xk_cV3 (pc := 342) d_law_342 ml_L_40 cz_K_write ⟨rfl, rfl⟩ rfl rfl (by omega) (by omega) (Nat.le_of_ble_eq_true rfl) ⟨(show ce ≤ 600000 by omega), (show sl ≤ 7302250 by omega)⟩ ?_
  refine c_K_write hA hok hsm (fun n1 m1 r1 q1 q2 hA1 hf1 => ?_)
  obtain rfl : n1 = n := by omega
  have hM1 := xm_A_fr hM hf1
  refine xk_aload_n (pc := 345) d_law_345 rfl ?_
  refine xk_aload_n (pc := 346) d_law_346 rfl ?_
  refine xk_iload_n (pc := 347) d_law_347 rfl ?_
  refine xk_iconst (pc := 348) (v := nI 1) d_law_348 (by decide) ?_
  first | refine xk_iaddN (pc := 349) d_law_349 ?_ | refine xk_iadd (pc := 349) d_law_349 ?_
  refine xk_sld (pc := 350) d_law_350 rfl (by omega) (by omega) ?_
  refine xk_aload_n (pc := 351) d_law_351 rfl ?_
  refine xk_iload_n (pc := 352) d_law_352 rfl ?_
  refine xk_iconst (pc := 353) (v := nI 2) d_law_353 (by decide) ?_
  first | refine xk_iaddN (pc := 354) d_law_354 ?_ | refine xk_iadd (pc := 354) d_law_354 ?_
  refine xk_sld (pc := 355) d_law_355 rfl (by omega) (by omega) ?_
  refine xk_aload_n (pc := 356) d_law_356 rfl ?_
  refine xk_iload_n (pc := 357) d_law_357 rfl ?_
  refine xk_iconst (pc := 358) (v := nI 3) d_law_358 (by decide) ?_
  first | refine xk_iaddN (pc := 359) d_law_359 ?_ | refine xk_iadd (pc := 359) d_law_359 ?_
  refine xk_sld (pc := 360) d_law_360 rfl (by omega) (by omega) ?_
  refine xk_cV3 (pc := 361) d_law_361 ml_L_43 cz_M_write ⟨rfl, rfl⟩ rfl rfl (by omega) (by omega) (Nat.le_of_ble_eq_true rfl) ⟨(show ce ≤ 600000 by omega), (show sl ≤ 7302250 by omega)⟩ ?_
  refine c_M_write hn hA1.2.2.2.2.1 hM1 hok hsm (fun m2 hM2 hf2 => ?_)
  refine xk_icmp_eq (pc := 364) (tgt := 738) d_law_364 rfl (fun _ => ?_) (fun c => absurd rfl c)
  refine xk_iincN (pc := 738) (d := 4) d_law_738 rfl ?_
  refine xk_goto (pc := 741) (tgt := 18) d_law_741 rfl ?_
  exact hK _ _ _ _ _ _ (xl_step hI (xo_write hS0 (E.2.2.2.2.2.2 (i + 1)) (E.2.2.2.2.2.2 (i + 2)) (E.2.2.2.2.2.2 (i + 3))) (xr_A_fr hA1 hf2) hM2 h4 (by omega) (by omega))

set_option maxRecDepth 20000 in
set_option maxHeartbeats 4000000 in
theorem s_law_seek {E : xk_E} {n : Nat} {m : xk_M} {r : xk_P} {Q : xk_Q} {s : xs_S} {i ce sl : Nat} (hL : E.2.2.2.2.2.1 ≤ 2048) (hi : i + 4 ≤ E.2.2.2.2.2.1) (hI : xl_I s i n ce sl m r) (hK : ∀ s' n' ce' sl' m' r', xl_I s' (i + 4) n' ce' sl' m' r' → xk_W E m_law 18 [some (.inr (some 0)), some (.inr (some 1)), some (.inr (some 53)), some (.inl (nI (i + 4)))] [] n' m' r' ce' sl' Q) : xk_W E m_law 369 [some (.inr (some 0)), some (.inr (some 1)), some (.inr (some 53)), some (.inl (nI i))] [] n m r ce sl Q := by
  obtain ⟨hA, hM, hS0, h4, h5, h6, h7⟩ := id hI
  have hok := hS0.1
  have hn : 74 ≤ n := hA.2.2.2.2.2
  have hsm : s.1.1.2.2.2.2.1 + 4 < 2 ^ 20 := by omega
  refine xk_aload_n (pc := 369) d_law_369 rfl ?_
  refine xk_aload_n (pc := 370) d_law_370 rfl ?_
  refine xk_iload_n (pc := 371) d_law_371 rfl ?_
  refine xk_iconst (pc := 372) (v := nI 1) d_law_372 (by decide) ?_
  first | refine xk_iaddN (pc := 373) d_law_373 ?_ | refine xk_iadd (pc := 373) d_law_373 ?_
  refine xk_sld (pc := 374) d_law_374 rfl (by omega) (by omega) ?_
  refine xk_aload_n (pc := 375) d_law_375 rfl ?_
  refine xk_iload_n (pc := 376) d_law_376 rfl ?_
  refine xk_iconst (pc := 377) (v := nI 2) d_law_377 (by decide) ?_
  first | refine xk_iaddN (pc := 378) d_law_378 ?_ | refine xk_iadd (pc := 378) d_law_378 ?_
  refine xk_sld (pc := 379) d_law_379 rfl (by omega) (by omega) ?_
  refine xk_aload_n (pc := 380) d_law_380 rfl ?_
  refine xk_iload_n (pc := 381) d_law_381 rfl ?_
  refine xk_iconst (pc := 382) (v := nI 3) d_law_382 (by decide) ?_
  first | refine xk_iaddN (pc := 383) d_law_383 ?_ | refine xk_iadd (pc := 383) d_law_383 ?_
  refine xk_sld (pc := 384) d_law_384 rfl (by omega) (by omega) ?_
  refine xk_cV3 (pc := 385) d_law_385 ml_L_44 cz_K_seek ⟨rfl, rfl⟩ rfl rfl (by omega) (by omega) (Nat.le_of_ble_eq_true rfl) ⟨(show ce ≤ 600000 by omega), (show sl ≤ 7302250 by omega)⟩ ?_
  refine c_K_seek hA hok hsm (fun n1 m1 r1 q1 q2 hA1 hf1 => ?_)
  obtain rfl : n1 = n := by omega
  have hM1 := xm_A_fr hM hf1
  refine xk_aload_n (pc := 388) d_law_388 rfl ?_
  refine xk_aload_n (pc := 389) d_law_389 rfl ?_
  refine xk_iload_n (pc := 390) d_law_390 rfl ?_
  refine xk_iconst (pc := 391) (v := nI 1) d_law_391 (by decide) ?_
  first | refine xk_iaddN (pc := 392) d_law_392 ?_ | refine xk_iadd (pc := 392) d_law_392 ?_
  refine xk_sld (pc := 393) d_law_393 rfl (by omega) (by omega) ?_
  refine xk_aload_n (pc := 394) d_law_394 rfl ?_
  refine xk_iload_n (pc := 395) d_law_395 rfl ?_
  refine xk_iconst (pc := 396) (v := nI 2) d_law_396 (by decide) ?_
  first | refine xk_iaddN (pc := 397) d_law_397 ?_ | refine xk_iadd (pc := 397) d_law_397 ?_
  refine xk_sld (pc := 398) d_law_398 rfl (by omega) (by omega) ?_
  refine xk_aload_n (pc := 399) d_law_399 rfl ?_
  refine xk_iload_n (pc := 400) d_law_400 rfl ?_
  refine xk_iconst (pc := 401) (v := nI 3) d_law_401 (by decide) ?_
  first | refine xk_iaddN (pc := 402) d_law_402 ?_ | refine xk_iadd (pc := 402) d_law_402 ?_
  refine xk_sld (pc := 403) d_law_403 rfl (by omega) (by omega) ?_
  refine xk_cV3 (pc := 404) d_law_404 ml_L_47 cz_M_seek ⟨rfl, rfl⟩ rfl rfl (by omega) (by omega) (Nat.le_of_ble_eq_true rfl) ⟨(show ce ≤ 600000 by omega), (show sl ≤ 7302250 by omega)⟩ ?_
  refine c_M_seek hn hA1.2.2.2.2.1 hM1 hok hsm (fun m2 hM2 hf2 => ?_)
  refine xk_icmp_eq (pc := 407) (tgt := 738) d_law_407 rfl (fun _ => ?_) (fun c => absurd rfl c)
  refine xk_iincN (pc := 738) (d := 4) d_law_738 rfl ?_
  refine xk_goto (pc := 741) (tgt := 18) d_law_741 rfl ?_
  exact hK _ _ _ _ _ _ (xl_step hI (xo_seek hS0 (E.2.2.2.2.2.2 (i + 1)) (E.2.2.2.2.2.2 (i + 2)) (E.2.2.2.2.2.2 (i + 3))) (xr_A_fr hA1 hf2) hM2 h4 (by omega) (by omega))

set_option maxRecDepth 20000 in
set_option maxHeartbeats 4000000 in
theorem s_law_sync {E : xk_E} {n : Nat} {m : xk_M} {r : xk_P} {Q : xk_Q} {s : xs_S} {i ce sl : Nat} (hL : E.2.2.2.2.2.1 ≤ 2048) (hi : i + 4 ≤ E.2.2.2.2.2.1) (hI : xl_I s i n ce sl m r) (hK : ∀ s' n' ce' sl' m' r', xl_I s' (i + 4) n' ce' sl' m' r' → xk_W E m_law 18 [some (.inr (some 0)), some (.inr (some 1)), some (.inr (some 53)), some (.inl (nI (i + 4)))] [] n' m' r' ce' sl' Q) : xk_W E m_law 412 [some (.inr (some 0)), some (.inr (some 1)), some (.inr (some 53)), some (.inl (nI i))] [] n m r ce sl Q := by
  obtain ⟨hA, hM, hS0, h4, h5, h6, h7⟩ := id hI
  have hok := hS0.1
  have hn : 74 ≤ n := hA.2.2.2.2.2
  have hsm : s.1.1.2.2.2.2.1 + 4 < 2 ^ 20 := by omega
  refine xk_aload_n (pc := 412) d_law_412 rfl ?_
  refine xk_aload_n (pc := 413) d_law_413 rfl ?_
  refine xk_iload_n (pc := 414) d_law_414 rfl ?_
  refine xk_iconst (pc := 415) (v := nI 1) d_law_415 (by decide) ?_
  first | refine xk_iaddN (pc := 416) d_law_416 ?_ | refine xk_iadd (pc := 416) d_law_416 ?_
  refine xk_sld (pc := 417) d_law_417 rfl (by omega) (by omega) ?_
  refine xk_aload_n (pc := 418) d_law_418 rfl ?_
  refine xk_iload_n (pc := 419) d_law_419 rfl ?_
  refine xk_iconst (pc := 420) (v := nI 2) d_law_420 (by decide) ?_
  first | refine xk_iaddN (pc := 421) d_law_421 ?_ | refine xk_iadd (pc := 421) d_law_421 ?_
  refine xk_sld (pc := 422) d_law_422 rfl (by omega) (by omega) ?_
  refine xk_cV2 (pc := 423) d_law_423 ml_L_48 cz_K_sync ⟨rfl, rfl⟩ rfl rfl (by omega) (by omega) (Nat.le_of_ble_eq_true rfl) ⟨(show ce ≤ 600000 by omega), (show sl ≤ 7302250 by omega)⟩ ?_
  refine c_K_sync hA hok hsm (fun n1 m1 r1 q1 q2 hA1 hf1 => ?_)
  obtain rfl : n1 = n := by omega
  have hM1 := xm_A_fr hM hf1
  refine xk_aload_n (pc := 426) d_law_426 rfl ?_
  refine xk_aload_n (pc := 427) d_law_427 rfl ?_
  refine xk_iload_n (pc := 428) d_law_428 rfl ?_
  refine xk_iconst (pc := 429) (v := nI 1) d_law_429 (by decide) ?_
  first | refine xk_iaddN (pc := 430) d_law_430 ?_ | refine xk_iadd (pc := 430) d_law_430 ?_
  refine xk_sld (pc := 431) d_law_431 rfl (by omega) (by omega) ?_
  refine xk_aload_n (pc := 432) d_law_432 rfl ?_
  refine xk_iload_n (pc := 433) d_law_433 rfl ?_
  refine xk_iconst (pc := 434) (v := nI 2) d_law_434 (by decide) ?_
  first | refine xk_iaddN (pc := 435) d_law_435 ?_ | refine xk_iadd (pc := 435) d_law_435 ?_
  refine xk_sld (pc := 436) d_law_436 rfl (by omega) (by omega) ?_
  refine xk_cV2 (pc := 437) d_law_437 ml_L_51 cz_M_sync ⟨rfl, rfl⟩ rfl rfl (by omega) (by omega) (Nat.le_of_ble_eq_true rfl) ⟨(show ce ≤ 600000 by omega), (show sl ≤ 7302250 by omega)⟩ ?_
  refine c_M_sync hn hA1.2.2.2.2.1 hM1 hok hsm (fun m2 hM2 hf2 => ?_)
  refine xk_icmp_eq (pc := 440) (tgt := 738) d_law_440 rfl (fun _ => ?_) (fun c => absurd rfl c)
  refine xk_iincN (pc := 738) (d := 4) d_law_738 rfl ?_
  refine xk_goto (pc := 741) (tgt := 18) d_law_741 rfl ?_
  exact hK _ _ _ _ _ _ (xl_step hI (xo_sync hS0 (E.2.2.2.2.2.2 (i + 1)) (E.2.2.2.2.2.2 (i + 2))) (xr_A_fr hA1 hf2) hM2 h4 (by omega) (by omega))

set_option maxRecDepth 20000 in
set_option maxHeartbeats 4000000 in
theorem s_law_dup {E : xk_E} {n : Nat} {m : xk_M} {r : xk_P} {Q : xk_Q} {s : xs_S} {i ce sl : Nat} (hL : E.2.2.2.2.2.1 ≤ 2048) (hi : i + 4 ≤ E.2.2.2.2.2.1) (hI : xl_I s i n ce sl m r) (hK : ∀ s' n' ce' sl' m' r', xl_I s' (i + 4) n' ce' sl' m' r' → xk_W E m_law 18 [some (.inr (some 0)), some (.inr (some 1)), some (.inr (some 53)), some (.inl (nI (i + 4)))] [] n' m' r' ce' sl' Q) : xk_W E m_law 445 [some (.inr (some 0)), some (.inr (some 1)), some (.inr (some 53)), some (.inl (nI i))] [] n m r ce sl Q := by
  obtain ⟨hA, hM, hS0, h4, h5, h6, h7⟩ := id hI
  have hok := hS0.1
  have hn : 74 ≤ n := hA.2.2.2.2.2
  have hsm : s.1.1.2.2.2.2.1 + 4 < 2 ^ 20 := by omega
  refine xk_aload_n (pc := 445) d_law_445 rfl ?_
  refine xk_aload_n (pc := 446) d_law_446 rfl ?_
  refine xk_iload_n (pc := 447) d_law_447 rfl ?_
  refine xk_iconst (pc := 448) (v := nI 1) d_law_448 (by decide) ?_
  first | refine xk_iaddN (pc := 449) d_law_449 ?_ | refine xk_iadd (pc := 449) d_law_449 ?_
  refine xk_sld (pc := 450) d_law_450 rfl (by omega) (by omega) ?_
  refine xk_aload_n (pc := 451) d_law_451 rfl ?_
  refine xk_iload_n (pc := 452) d_law_452 rfl ?_
  refine xk_iconst (pc := 453) (v := nI 2) d_law_453 (by decide) ?_
  first | refine xk_iaddN (pc := 454) d_law_454 ?_ | refine xk_iadd (pc := 454) d_law_454 ?_
  refine xk_sld (pc := 455) d_law_455 rfl (by omega) (by omega) ?_
  refine xk_cV2 (pc := 456) d_law_456 ml_L_52 cz_K_dup ⟨rfl, rfl⟩ rfl rfl (by omega) (by omega) (Nat.le_of_ble_eq_true rfl) ⟨(show ce ≤ 600000 by omega), (show sl ≤ 7302250 by omega)⟩ ?_
  refine c_K_dup hA hok hsm (fun n1 m1 r1 q1 q2 hA1 hf1 => ?_)
  obtain rfl : n1 = n := by omega
  have hM1 := xm_A_fr hM hf1
  refine xk_aload_n (pc := 459) d_law_459 rfl ?_
  refine xk_aload_n (pc := 460) d_law_460 rfl ?_
  refine xk_iload_n (pc := 461) d_law_461 rfl ?_
  refine xk_iconst (pc := 462) (v := nI 1) d_law_462 (by decide) ?_
  first | refine xk_iaddN (pc := 463) d_law_463 ?_ | refine xk_iadd (pc := 463) d_law_463 ?_
  refine xk_sld (pc := 464) d_law_464 rfl (by omega) (by omega) ?_
  refine xk_aload_n (pc := 465) d_law_465 rfl ?_
  refine xk_iload_n (pc := 466) d_law_466 rfl ?_
  refine xk_iconst (pc := 467) (v := nI 2) d_law_467 (by decide) ?_
  first | refine xk_iaddN (pc := 468) d_law_468 ?_ | refine xk_iadd (pc := 468) d_law_468 ?_
  refine xk_sld (pc := 469) d_law_469 rfl (by omega) (by omega) ?_
  refine xk_cV2 (pc := 470) d_law_470 ml_L_55 cz_M_dup ⟨rfl, rfl⟩ rfl rfl (by omega) (by omega) (Nat.le_of_ble_eq_true rfl) ⟨(show ce ≤ 600000 by omega), (show sl ≤ 7302250 by omega)⟩ ?_
  refine c_M_dup hn hA1.2.2.2.2.1 hM1 hok hsm (fun m2 hM2 hf2 => ?_)
  refine xk_icmp_eq (pc := 473) (tgt := 738) d_law_473 rfl (fun _ => ?_) (fun c => absurd rfl c)
  refine xk_iincN (pc := 738) (d := 4) d_law_738 rfl ?_
  refine xk_goto (pc := 741) (tgt := 18) d_law_741 rfl ?_
  exact hK _ _ _ _ _ _ (xl_step hI (xo_dup hS0 (E.2.2.2.2.2.2 (i + 1)) (E.2.2.2.2.2.2 (i + 2))) (xr_A_fr hA1 hf2) hM2 h4 (by omega) (by omega))

set_option maxRecDepth 20000 in
set_option maxHeartbeats 4000000 in
theorem s_law_close {E : xk_E} {n : Nat} {m : xk_M} {r : xk_P} {Q : xk_Q} {s : xs_S} {i ce sl : Nat} (hL : E.2.2.2.2.2.1 ≤ 2048) (hi : i + 4 ≤ E.2.2.2.2.2.1) (hI : xl_I s i n ce sl m r) (hK : ∀ s' n' ce' sl' m' r', xl_I s' (i + 4) n' ce' sl' m' r' → xk_W E m_law 18 [some (.inr (some 0)), some (.inr (some 1)), some (.inr (some 53)), some (.inl (nI (i + 4)))] [] n' m' r' ce' sl' Q) : xk_W E m_law 478 [some (.inr (some 0)), some (.inr (some 1)), some (.inr (some 53)), some (.inl (nI i))] [] n m r ce sl Q := by
  obtain ⟨hA, hM, hS0, h4, h5, h6, h7⟩ := id hI
  have hok := hS0.1
  have hn : 74 ≤ n := hA.2.2.2.2.2
  have hsm : s.1.1.2.2.2.2.1 + 4 < 2 ^ 20 := by omega
  refine xk_aload_n (pc := 478) d_law_478 rfl ?_
  refine xk_aload_n (pc := 479) d_law_479 rfl ?_
  refine xk_iload_n (pc := 480) d_law_480 rfl ?_
  refine xk_iconst (pc := 481) (v := nI 1) d_law_481 (by decide) ?_
  first | refine xk_iaddN (pc := 482) d_law_482 ?_ | refine xk_iadd (pc := 482) d_law_482 ?_
  refine xk_sld (pc := 483) d_law_483 rfl (by omega) (by omega) ?_
  refine xk_aload_n (pc := 484) d_law_484 rfl ?_
  refine xk_iload_n (pc := 485) d_law_485 rfl ?_
  refine xk_iconst (pc := 486) (v := nI 2) d_law_486 (by decide) ?_
  first | refine xk_iaddN (pc := 487) d_law_487 ?_ | refine xk_iadd (pc := 487) d_law_487 ?_
  refine xk_sld (pc := 488) d_law_488 rfl (by omega) (by omega) ?_
  refine xk_cV2 (pc := 489) d_law_489 ml_L_56 cz_K_close ⟨rfl, rfl⟩ rfl rfl (by omega) (by omega) (Nat.le_of_ble_eq_true rfl) ⟨(show ce ≤ 600000 by omega), (show sl ≤ 7302250 by omega)⟩ ?_
  refine c_K_close hA hok hsm (fun n1 m1 r1 q1 q2 hA1 hf1 => ?_)
  obtain rfl : n1 = n := by omega
  have hM1 := xm_A_fr hM hf1
  refine xk_aload_n (pc := 492) d_law_492 rfl ?_
  refine xk_aload_n (pc := 493) d_law_493 rfl ?_
  refine xk_iload_n (pc := 494) d_law_494 rfl ?_
  refine xk_iconst (pc := 495) (v := nI 1) d_law_495 (by decide) ?_
  first | refine xk_iaddN (pc := 496) d_law_496 ?_ | refine xk_iadd (pc := 496) d_law_496 ?_
  refine xk_sld (pc := 497) d_law_497 rfl (by omega) (by omega) ?_
  refine xk_aload_n (pc := 498) d_law_498 rfl ?_
  refine xk_iload_n (pc := 499) d_law_499 rfl ?_
  refine xk_iconst (pc := 500) (v := nI 2) d_law_500 (by decide) ?_
  first | refine xk_iaddN (pc := 501) d_law_501 ?_ | refine xk_iadd (pc := 501) d_law_501 ?_
  refine xk_sld (pc := 502) d_law_502 rfl (by omega) (by omega) ?_
  refine xk_cV2 (pc := 503) d_law_503 ml_L_59 cz_M_close ⟨rfl, rfl⟩ rfl rfl (by omega) (by omega) (Nat.le_of_ble_eq_true rfl) ⟨(show ce ≤ 600000 by omega), (show sl ≤ 7302250 by omega)⟩ ?_
  refine c_M_close hn hA1.2.2.2.2.1 hM1 hok hsm (fun m2 hM2 hf2 => ?_)
  refine xk_icmp_eq (pc := 506) (tgt := 738) d_law_506 rfl (fun _ => ?_) (fun c => absurd rfl c)
  refine xk_iincN (pc := 738) (d := 4) d_law_738 rfl ?_
  refine xk_goto (pc := 741) (tgt := 18) d_law_741 rfl ?_
  exact hK _ _ _ _ _ _ (xl_step hI (xo_close hS0 (E.2.2.2.2.2.2 (i + 1)) (E.2.2.2.2.2.2 (i + 2))) (xr_A_fr hA1 hf2) hM2 h4 (by omega) (by omega))

set_option maxRecDepth 20000 in
set_option maxHeartbeats 4000000 in
theorem s_law_unlink {E : xk_E} {n : Nat} {m : xk_M} {r : xk_P} {Q : xk_Q} {s : xs_S} {i ce sl : Nat} (hL : E.2.2.2.2.2.1 ≤ 2048) (hi : i + 4 ≤ E.2.2.2.2.2.1) (hI : xl_I s i n ce sl m r) (hK : ∀ s' n' ce' sl' m' r', xl_I s' (i + 4) n' ce' sl' m' r' → xk_W E m_law 18 [some (.inr (some 0)), some (.inr (some 1)), some (.inr (some 53)), some (.inl (nI (i + 4)))] [] n' m' r' ce' sl' Q) : xk_W E m_law 511 [some (.inr (some 0)), some (.inr (some 1)), some (.inr (some 53)), some (.inl (nI i))] [] n m r ce sl Q := by
  obtain ⟨hA, hM, hS0, h4, h5, h6, h7⟩ := id hI
  have hok := hS0.1
  have hn : 74 ≤ n := hA.2.2.2.2.2
  have hsm : s.1.1.2.2.2.2.1 + 4 < 2 ^ 20 := by omega
  refine xk_aload_n (pc := 511) d_law_511 rfl ?_
  refine xk_aload_n (pc := 512) d_law_512 rfl ?_
  refine xk_iload_n (pc := 513) d_law_513 rfl ?_
  refine xk_iconst (pc := 514) (v := nI 1) d_law_514 (by decide) ?_
  first | refine xk_iaddN (pc := 515) d_law_515 ?_ | refine xk_iadd (pc := 515) d_law_515 ?_
  refine xk_sld (pc := 516) d_law_516 rfl (by omega) (by omega) ?_
  refine xk_aload_n (pc := 517) d_law_517 rfl ?_
  refine xk_iload_n (pc := 518) d_law_518 rfl ?_
  refine xk_iconst (pc := 519) (v := nI 2) d_law_519 (by decide) ?_
  first | refine xk_iaddN (pc := 520) d_law_520 ?_ | refine xk_iadd (pc := 520) d_law_520 ?_
  refine xk_sld (pc := 521) d_law_521 rfl (by omega) (by omega) ?_
  refine xk_cV2 (pc := 522) d_law_522 ml_L_60 cz_K_unlink ⟨rfl, rfl⟩ rfl rfl (by omega) (by omega) (Nat.le_of_ble_eq_true rfl) ⟨(show ce ≤ 600000 by omega), (show sl ≤ 7302250 by omega)⟩ ?_
  refine c_K_unlink hA hok hsm (fun n1 m1 r1 q1 q2 hA1 hf1 => ?_)
  obtain rfl : n1 = n := by omega
  have hM1 := xm_A_fr hM hf1
  refine xk_aload_n (pc := 525) d_law_525 rfl ?_
  refine xk_aload_n (pc := 526) d_law_526 rfl ?_
  refine xk_iload_n (pc := 527) d_law_527 rfl ?_
  refine xk_iconst (pc := 528) (v := nI 1) d_law_528 (by decide) ?_
  first | refine xk_iaddN (pc := 529) d_law_529 ?_ | refine xk_iadd (pc := 529) d_law_529 ?_
  refine xk_sld (pc := 530) d_law_530 rfl (by omega) (by omega) ?_
  refine xk_aload_n (pc := 531) d_law_531 rfl ?_
  refine xk_iload_n (pc := 532) d_law_532 rfl ?_
  refine xk_iconst (pc := 533) (v := nI 2) d_law_533 (by decide) ?_
  first | refine xk_iaddN (pc := 534) d_law_534 ?_ | refine xk_iadd (pc := 534) d_law_534 ?_
  refine xk_sld (pc := 535) d_law_535 rfl (by omega) (by omega) ?_
  refine xk_cV2 (pc := 536) d_law_536 ml_L_63 cz_M_unlink ⟨rfl, rfl⟩ rfl rfl (by omega) (by omega) (Nat.le_of_ble_eq_true rfl) ⟨(show ce ≤ 600000 by omega), (show sl ≤ 7302250 by omega)⟩ ?_
  refine c_M_unlink hn hA1.2.2.2.2.1 hM1 hok hsm (fun m2 hM2 hf2 => ?_)
  refine xk_icmp_eq (pc := 539) (tgt := 738) d_law_539 rfl (fun _ => ?_) (fun c => absurd rfl c)
  refine xk_iincN (pc := 738) (d := 4) d_law_738 rfl ?_
  refine xk_goto (pc := 741) (tgt := 18) d_law_741 rfl ?_
  exact hK _ _ _ _ _ _ (xl_step hI (xo_unlink hS0 (E.2.2.2.2.2.2 (i + 1)) (E.2.2.2.2.2.2 (i + 2))) (xr_A_fr hA1 hf2) hM2 h4 (by omega) (by omega))

set_option maxRecDepth 20000 in
set_option maxHeartbeats 4000000 in
theorem s_law_fork {E : xk_E} {n : Nat} {m : xk_M} {r : xk_P} {Q : xk_Q} {s : xs_S} {i ce sl : Nat} (hL : E.2.2.2.2.2.1 ≤ 2048) (hi : i + 4 ≤ E.2.2.2.2.2.1) (hI : xl_I s i n ce sl m r) (hK : ∀ s' n' ce' sl' m' r', xl_I s' (i + 4) n' ce' sl' m' r' → xk_W E m_law 18 [some (.inr (some 0)), some (.inr (some 1)), some (.inr (some 53)), some (.inl (nI (i + 4)))] [] n' m' r' ce' sl' Q) : xk_W E m_law 544 [some (.inr (some 0)), some (.inr (some 1)), some (.inr (some 53)), some (.inl (nI i))] [] n m r ce sl Q := by
  obtain ⟨hA, hM, hS0, h4, h5, h6, h7⟩ := id hI
  have hok := hS0.1
  have hn : 74 ≤ n := hA.2.2.2.2.2
  have hsm : s.1.1.2.2.2.2.1 + 4 < 2 ^ 20 := by omega
  refine xk_aload_n (pc := 544) d_law_544 rfl ?_
  refine xk_aload_n (pc := 545) d_law_545 rfl ?_
  refine xk_iload_n (pc := 546) d_law_546 rfl ?_
  refine xk_iconst (pc := 547) (v := nI 1) d_law_547 (by decide) ?_
  first | refine xk_iaddN (pc := 548) d_law_548 ?_ | refine xk_iadd (pc := 548) d_law_548 ?_
  refine xk_sld (pc := 549) d_law_549 rfl (by omega) (by omega) ?_
  refine xk_cV1 (pc := 550) d_law_550 ml_L_64 cz_K_fork ⟨rfl, rfl⟩ rfl rfl (by omega) (by omega) (Nat.le_of_ble_eq_true rfl) ⟨(show ce ≤ 600000 by omega), (show sl ≤ 7302250 by omega)⟩ ?_
  refine c_K_fork hA hok hsm (fun n1 m1 r1 q1 q2 hA1 hf1 => ?_)
  obtain rfl : n1 = n := by omega
  have hM1 := xm_A_fr hM hf1
  refine xk_aload_n (pc := 553) d_law_553 rfl ?_
  refine xk_aload_n (pc := 554) d_law_554 rfl ?_
  refine xk_iload_n (pc := 555) d_law_555 rfl ?_
  refine xk_iconst (pc := 556) (v := nI 1) d_law_556 (by decide) ?_
  first | refine xk_iaddN (pc := 557) d_law_557 ?_ | refine xk_iadd (pc := 557) d_law_557 ?_
  refine xk_sld (pc := 558) d_law_558 rfl (by omega) (by omega) ?_
  refine xk_cV1 (pc := 559) d_law_559 ml_L_67 cz_M_fork ⟨rfl, rfl⟩ rfl rfl (by omega) (by omega) (Nat.le_of_ble_eq_true rfl) ⟨(show ce ≤ 600000 by omega), (show sl ≤ 7302250 by omega)⟩ ?_
  refine c_M_fork hn hA1.2.2.2.2.1 hM1 hok hsm (fun m2 hM2 hf2 => ?_)
  refine xk_icmp_eq (pc := 562) (tgt := 738) d_law_562 rfl (fun _ => ?_) (fun c => absurd rfl c)
  refine xk_iincN (pc := 738) (d := 4) d_law_738 rfl ?_
  refine xk_goto (pc := 741) (tgt := 18) d_law_741 rfl ?_
  exact hK _ _ _ _ _ _ (xl_step hI (xo_fork hS0 (E.2.2.2.2.2.2 (i + 1))) (xr_A_fr hA1 hf2) hM2 h4 (by omega) (by omega))

set_option maxRecDepth 20000 in
set_option maxHeartbeats 4000000 in
theorem s_law_exit {E : xk_E} {n : Nat} {m : xk_M} {r : xk_P} {Q : xk_Q} {s : xs_S} {i ce sl : Nat} (hL : E.2.2.2.2.2.1 ≤ 2048) (hi : i + 4 ≤ E.2.2.2.2.2.1) (hI : xl_I s i n ce sl m r) (hK : ∀ s' n' ce' sl' m' r', xl_I s' (i + 4) n' ce' sl' m' r' → xk_W E m_law 18 [some (.inr (some 0)), some (.inr (some 1)), some (.inr (some 53)), some (.inl (nI (i + 4)))] [] n' m' r' ce' sl' Q) : xk_W E m_law 567 [some (.inr (some 0)), some (.inr (some 1)), some (.inr (some 53)), some (.inl (nI i))] [] n m r ce sl Q := by
  obtain ⟨hA, hM, hS0, h4, h5, h6, h7⟩ := id hI
  have hok := hS0.1
  have hn : 74 ≤ n := hA.2.2.2.2.2
  have hsm : s.1.1.2.2.2.2.1 + 4 < 2 ^ 20 := by omega
  refine xk_aload_n (pc := 567) d_law_567 rfl ?_
  refine xk_aload_n (pc := 568) d_law_568 rfl ?_
  refine xk_iload_n (pc := 569) d_law_569 rfl ?_
  refine xk_iconst (pc := 570) (v := nI 1) d_law_570 (by decide) ?_
  first | refine xk_iaddN (pc := 571) d_law_571 ?_ | refine xk_iadd (pc := 571) d_law_571 ?_
  refine xk_sld (pc := 572) d_law_572 rfl (by omega) (by omega) ?_
  refine xk_aload_n (pc := 573) d_law_573 rfl ?_
  refine xk_iload_n (pc := 574) d_law_574 rfl ?_
  refine xk_iconst (pc := 575) (v := nI 2) d_law_575 (by decide) ?_
  first | refine xk_iaddN (pc := 576) d_law_576 ?_ | refine xk_iadd (pc := 576) d_law_576 ?_
  refine xk_sld (pc := 577) d_law_577 rfl (by omega) (by omega) ?_
  refine xk_cV2 (pc := 578) d_law_578 ml_L_68 cz_K_exit ⟨rfl, rfl⟩ rfl rfl (by omega) (by omega) (Nat.le_of_ble_eq_true rfl) ⟨(show ce ≤ 600000 by omega), (show sl ≤ 7302250 by omega)⟩ ?_
  refine c_K_exit hA hok hsm (fun n1 m1 r1 q1 q2 hA1 hf1 => ?_)
  obtain rfl : n1 = n := by omega
  have hM1 := xm_A_fr hM hf1
  refine xk_aload_n (pc := 581) d_law_581 rfl ?_
  refine xk_aload_n (pc := 582) d_law_582 rfl ?_
  refine xk_iload_n (pc := 583) d_law_583 rfl ?_
  refine xk_iconst (pc := 584) (v := nI 1) d_law_584 (by decide) ?_
  first | refine xk_iaddN (pc := 585) d_law_585 ?_ | refine xk_iadd (pc := 585) d_law_585 ?_
  refine xk_sld (pc := 586) d_law_586 rfl (by omega) (by omega) ?_
  refine xk_aload_n (pc := 587) d_law_587 rfl ?_
  refine xk_iload_n (pc := 588) d_law_588 rfl ?_
  refine xk_iconst (pc := 589) (v := nI 2) d_law_589 (by decide) ?_
  first | refine xk_iaddN (pc := 590) d_law_590 ?_ | refine xk_iadd (pc := 590) d_law_590 ?_
  refine xk_sld (pc := 591) d_law_591 rfl (by omega) (by omega) ?_
  refine xk_cV2 (pc := 592) d_law_592 ml_L_71 cz_M_exit ⟨rfl, rfl⟩ rfl rfl (by omega) (by omega) (Nat.le_of_ble_eq_true rfl) ⟨(show ce ≤ 600000 by omega), (show sl ≤ 7302250 by omega)⟩ ?_
  refine c_M_exit hn hA1.2.2.2.2.1 hM1 hok hsm (fun m2 hM2 hf2 => ?_)
  refine xk_icmp_eq (pc := 595) (tgt := 738) d_law_595 rfl (fun _ => ?_) (fun c => absurd rfl c)
  refine xk_iincN (pc := 738) (d := 4) d_law_738 rfl ?_
  refine xk_goto (pc := 741) (tgt := 18) d_law_741 rfl ?_
  exact hK _ _ _ _ _ _ (xl_step hI (xo_exit hS0 (E.2.2.2.2.2.2 (i + 1)) (E.2.2.2.2.2.2 (i + 2))) (xr_A_fr hA1 hf2) hM2 h4 (by omega) (by omega))

set_option maxRecDepth 20000 in
set_option maxHeartbeats 4000000 in
theorem s_law_wait {E : xk_E} {n : Nat} {m : xk_M} {r : xk_P} {Q : xk_Q} {s : xs_S} {i ce sl : Nat} (hL : E.2.2.2.2.2.1 ≤ 2048) (hi : i + 4 ≤ E.2.2.2.2.2.1) (hI : xl_I s i n ce sl m r) (hK : ∀ s' n' ce' sl' m' r', xl_I s' (i + 4) n' ce' sl' m' r' → xk_W E m_law 18 [some (.inr (some 0)), some (.inr (some 1)), some (.inr (some 53)), some (.inl (nI (i + 4)))] [] n' m' r' ce' sl' Q) : xk_W E m_law 600 [some (.inr (some 0)), some (.inr (some 1)), some (.inr (some 53)), some (.inl (nI i))] [] n m r ce sl Q := by
  obtain ⟨hA, hM, hS0, h4, h5, h6, h7⟩ := id hI
  have hok := hS0.1
  have hn : 74 ≤ n := hA.2.2.2.2.2
  have hsm : s.1.1.2.2.2.2.1 + 4 < 2 ^ 20 := by omega
  refine xk_aload_n (pc := 600) d_law_600 rfl ?_
  refine xk_aload_n (pc := 601) d_law_601 rfl ?_
  refine xk_iload_n (pc := 602) d_law_602 rfl ?_
  refine xk_iconst (pc := 603) (v := nI 1) d_law_603 (by decide) ?_
  first | refine xk_iaddN (pc := 604) d_law_604 ?_ | refine xk_iadd (pc := 604) d_law_604 ?_
  refine xk_sld (pc := 605) d_law_605 rfl (by omega) (by omega) ?_
  refine xk_cV1 (pc := 606) d_law_606 ml_L_72 cz_K_wait ⟨rfl, rfl⟩ rfl rfl (by omega) (by omega) (Nat.le_of_ble_eq_true rfl) ⟨(show ce ≤ 600000 by omega), (show sl ≤ 7302250 by omega)⟩ ?_
  refine c_K_wait hA hok hsm (fun n1 m1 r1 q1 q2 hA1 hf1 => ?_)
  obtain rfl : n1 = n := by omega
  have hM1 := xm_A_fr hM hf1
  refine xk_aload_n (pc := 609) d_law_609 rfl ?_
  refine xk_aload_n (pc := 610) d_law_610 rfl ?_
  refine xk_iload_n (pc := 611) d_law_611 rfl ?_
  refine xk_iconst (pc := 612) (v := nI 1) d_law_612 (by decide) ?_
  first | refine xk_iaddN (pc := 613) d_law_613 ?_ | refine xk_iadd (pc := 613) d_law_613 ?_
  refine xk_sld (pc := 614) d_law_614 rfl (by omega) (by omega) ?_
  refine xk_cV1 (pc := 615) d_law_615 ml_L_75 cz_M_wait ⟨rfl, rfl⟩ rfl rfl (by omega) (by omega) (Nat.le_of_ble_eq_true rfl) ⟨(show ce ≤ 600000 by omega), (show sl ≤ 7302250 by omega)⟩ ?_
  refine c_M_wait hn hA1.2.2.2.2.1 hM1 hok hsm (fun m2 hM2 hf2 => ?_)
  refine xk_icmp_eq (pc := 618) (tgt := 738) d_law_618 rfl (fun _ => ?_) (fun c => absurd rfl c)
  refine xk_iincN (pc := 738) (d := 4) d_law_738 rfl ?_
  refine xk_goto (pc := 741) (tgt := 18) d_law_741 rfl ?_
  exact hK _ _ _ _ _ _ (xl_step hI (xo_wait hS0 (E.2.2.2.2.2.2 (i + 1))) (xr_A_fr hA1 hf2) hM2 h4 (by omega) (by omega))

set_option maxRecDepth 20000 in
set_option maxHeartbeats 4000000 in
theorem s_law_crash {E : xk_E} {n : Nat} {m : xk_M} {r : xk_P} {Q : xk_Q} {s : xs_S} {i ce sl : Nat} (hL : E.2.2.2.2.2.1 ≤ 2048) (hi : i + 4 ≤ E.2.2.2.2.2.1) (hI : xl_I s i n ce sl m r) (hK : ∀ s' n' ce' sl' m' r', xl_I s' (i + 4) n' ce' sl' m' r' → xk_W E m_law 18 [some (.inr (some 0)), some (.inr (some 1)), some (.inr (some 53)), some (.inl (nI (i + 4)))] [] n' m' r' ce' sl' Q) : xk_W E m_law 623 [some (.inr (some 0)), some (.inr (some 1)), some (.inr (some 53)), some (.inl (nI i))] [] n m r ce sl Q := by
  obtain ⟨hA, hM, hS0, h4, h5, h6, h7⟩ := id hI
  have hok := hS0.1
  have hn : 74 ≤ n := hA.2.2.2.2.2
  have hsm : s.1.1.2.2.2.2.1 + 4 < 2 ^ 20 := by omega
  refine xk_aload_n (pc := 623) d_law_623 rfl ?_
  refine xk_cV0 (pc := 624) d_law_624 ml_L_76 cz_K_crash ⟨rfl, rfl⟩ rfl rfl (by omega) (by omega) (Nat.le_of_ble_eq_true rfl) ⟨(show ce ≤ 600000 by omega), (show sl ≤ 7302250 by omega)⟩ ?_
  refine c_K_crash hA hok hsm (fun n1 m1 r1 q1 q2 hA1 hf1 => ?_)
  obtain rfl : n1 = n := by omega
  have hM1 := xm_A_fr hM hf1
  refine xk_aload_n (pc := 627) d_law_627 rfl ?_
  refine xk_cV0 (pc := 628) d_law_628 ml_L_80 cz_M_crash ⟨rfl, rfl⟩ rfl rfl (by omega) (by omega) (Nat.le_of_ble_eq_true rfl) ⟨(show ce ≤ 600000 by omega), (show sl ≤ 7302250 by omega)⟩ ?_
  refine c_M_crash hn hA1.2.2.2.2.1 hM1 hok hsm (fun m2 hM2 hf2 => ?_)
  refine xk_icmp_eq (pc := 631) (tgt := 738) d_law_631 rfl (fun _ => ?_) (fun c => absurd rfl c)
  refine xk_iincN (pc := 738) (d := 4) d_law_738 rfl ?_
  refine xk_goto (pc := 741) (tgt := 18) d_law_741 rfl ?_
  exact hK _ _ _ _ _ _ (xl_step hI (xo_crash hS0) (xr_A_fr hA1 hf2) hM2 h4 (by omega) (by omega))

set_option maxRecDepth 20000 in
set_option maxHeartbeats 4000000 in
theorem s_law_host {E : xk_E} {n : Nat} {m : xk_M} {r : xk_P} {Q : xk_Q} {s : xs_S} {i ce sl : Nat} (hL : E.2.2.2.2.2.1 ≤ 2048) (hi : i + 4 ≤ E.2.2.2.2.2.1) (hI : xl_I s i n ce sl m r) (hK : ∀ s' n' ce' sl' m' r', xl_I s' (i + 4) n' ce' sl' m' r' → xk_W E m_law 18 [some (.inr (some 0)), some (.inr (some 1)), some (.inr (some 53)), some (.inl (nI (i + 4)))] [] n' m' r' ce' sl' Q) : xk_W E m_law 636 [some (.inr (some 0)), some (.inr (some 1)), some (.inr (some 53)), some (.inl (nI i))] [] n m r ce sl Q := by
  obtain ⟨hA, hM, hS0, h4, h5, h6, h7⟩ := id hI
  have hok := hS0.1
  have hn : 74 ≤ n := hA.2.2.2.2.2
  have hsm : s.1.1.2.2.2.2.1 + 4 < 2 ^ 20 := by omega
  refine xk_aload_n (pc := 636) d_law_636 rfl ?_
  refine xk_aload_n (pc := 637) d_law_637 rfl ?_
  refine xk_iload_n (pc := 638) d_law_638 rfl ?_
  refine xk_iconst (pc := 639) (v := nI 1) d_law_639 (by decide) ?_
  first | refine xk_iaddN (pc := 640) d_law_640 ?_ | refine xk_iadd (pc := 640) d_law_640 ?_
  refine xk_sld (pc := 641) d_law_641 rfl (by omega) (by omega) ?_
  refine xk_aload_n (pc := 642) d_law_642 rfl ?_
  refine xk_iload_n (pc := 643) d_law_643 rfl ?_
  refine xk_iconst (pc := 644) (v := nI 2) d_law_644 (by decide) ?_
  first | refine xk_iaddN (pc := 645) d_law_645 ?_ | refine xk_iadd (pc := 645) d_law_645 ?_
  refine xk_sld (pc := 646) d_law_646 rfl (by omega) (by omega) ?_
  refine xk_cV2 (pc := 647) d_law_647 ml_L_81 cz_K_host ⟨rfl, rfl⟩ rfl rfl (by omega) (by omega) (Nat.le_of_ble_eq_true rfl) ⟨(show ce ≤ 600000 by omega), (show sl ≤ 7302250 by omega)⟩ ?_
  refine c_K_host hA hok ?_
  refine xk_aload_n (pc := 650) d_law_650 rfl ?_
  refine xk_aload_n (pc := 651) d_law_651 rfl ?_
  refine xk_iload_n (pc := 652) d_law_652 rfl ?_
  refine xk_iconst (pc := 653) (v := nI 1) d_law_653 (by decide) ?_
  first | refine xk_iaddN (pc := 654) d_law_654 ?_ | refine xk_iadd (pc := 654) d_law_654 ?_
  refine xk_sld (pc := 655) d_law_655 rfl (by omega) (by omega) ?_
  refine xk_aload_n (pc := 656) d_law_656 rfl ?_
  refine xk_iload_n (pc := 657) d_law_657 rfl ?_
  refine xk_iconst (pc := 658) (v := nI 2) d_law_658 (by decide) ?_
  first | refine xk_iaddN (pc := 659) d_law_659 ?_ | refine xk_iadd (pc := 659) d_law_659 ?_
  refine xk_sld (pc := 660) d_law_660 rfl (by omega) (by omega) ?_
  refine xk_cV2 (pc := 661) d_law_661 ml_L_84 cz_M_host ⟨rfl, rfl⟩ rfl rfl (by omega) (by omega) (Nat.le_of_ble_eq_true rfl) ⟨(show ce ≤ 600000 by omega), (show sl ≤ 7302250 by omega)⟩ ?_
  refine c_M_host hn hA.2.2.2.2.1 hM hok ?_
  refine xk_icmp_eq (pc := 664) (tgt := 738) d_law_664 rfl (fun _ => ?_) (fun c => absurd rfl c)
  refine xk_iincN (pc := 738) (d := 4) d_law_738 rfl ?_
  refine xk_goto (pc := 741) (tgt := 18) d_law_741 rfl ?_
  exact hK _ _ _ _ _ _ (xl_step hI (xo_r hS0) hA hM h4 (by omega) (by omega))

set_option maxRecDepth 20000 in
set_option maxHeartbeats 4000000 in
theorem s_law_log {E : xk_E} {n : Nat} {m : xk_M} {r : xk_P} {Q : xk_Q} {s : xs_S} {i ce sl : Nat} (hL : E.2.2.2.2.2.1 ≤ 2048) (hi : i + 4 ≤ E.2.2.2.2.2.1) (hI : xl_I s i n ce sl m r) (hK : ∀ s' n' ce' sl' m' r', xl_I s' (i + 4) n' ce' sl' m' r' → xk_W E m_law 18 [some (.inr (some 0)), some (.inr (some 1)), some (.inr (some 53)), some (.inl (nI (i + 4)))] [] n' m' r' ce' sl' Q) : xk_W E m_law 669 [some (.inr (some 0)), some (.inr (some 1)), some (.inr (some 53)), some (.inl (nI i))] [] n m r ce sl Q := by
  obtain ⟨hA, hM, hS0, h4, h5, h6, h7⟩ := id hI
  have hok := hS0.1
  have hn : 74 ≤ n := hA.2.2.2.2.2
  have hsm : s.1.1.2.2.2.2.1 + 4 < 2 ^ 20 := by omega
  refine xk_aload_n (pc := 669) d_law_669 rfl ?_
  refine xk_aload_n (pc := 670) d_law_670 rfl ?_
  refine xk_iload_n (pc := 671) d_law_671 rfl ?_
  refine xk_iconst (pc := 672) (v := nI 1) d_law_672 (by decide) ?_
  first | refine xk_iaddN (pc := 673) d_law_673 ?_ | refine xk_iadd (pc := 673) d_law_673 ?_
  refine xk_sld (pc := 674) d_law_674 rfl (by omega) (by omega) ?_
  refine xk_cV1 (pc := 675) d_law_675 ml_L_85 cz_K_log ⟨rfl, rfl⟩ rfl rfl (by omega) (by omega) (Nat.le_of_ble_eq_true rfl) ⟨(show ce ≤ 600000 by omega), (show sl ≤ 7302250 by omega)⟩ ?_
  refine c_K_log hA hok hsm ?_
  refine xk_aload_n (pc := 678) d_law_678 rfl ?_
  refine xk_aload_n (pc := 679) d_law_679 rfl ?_
  refine xk_iload_n (pc := 680) d_law_680 rfl ?_
  refine xk_iconst (pc := 681) (v := nI 1) d_law_681 (by decide) ?_
  first | refine xk_iaddN (pc := 682) d_law_682 ?_ | refine xk_iadd (pc := 682) d_law_682 ?_
  refine xk_sld (pc := 683) d_law_683 rfl (by omega) (by omega) ?_
  refine xk_cV1 (pc := 684) d_law_684 ml_L_88 cz_M_log ⟨rfl, rfl⟩ rfl rfl (by omega) (by omega) (Nat.le_of_ble_eq_true rfl) ⟨(show ce ≤ 600000 by omega), (show sl ≤ 7302250 by omega)⟩ ?_
  refine c_M_log hn hA.2.2.2.2.1 hM hok hsm ?_
  refine xk_icmp_eq (pc := 687) (tgt := 738) d_law_687 rfl (fun _ => ?_) (fun c => absurd rfl c)
  refine xk_iincN (pc := 738) (d := 4) d_law_738 rfl ?_
  refine xk_goto (pc := 741) (tgt := 18) d_law_741 rfl ?_
  exact hK _ _ _ _ _ _ (xl_step hI (xo_r hS0) hA hM h4 (by omega) (by omega))

set_option maxRecDepth 20000 in
set_option maxHeartbeats 4000000 in
theorem s_law_cached {E : xk_E} {n : Nat} {m : xk_M} {r : xk_P} {Q : xk_Q} {s : xs_S} {i ce sl : Nat} (hL : E.2.2.2.2.2.1 ≤ 2048) (hi : i + 4 ≤ E.2.2.2.2.2.1) (hI : xl_I s i n ce sl m r) (hK : ∀ s' n' ce' sl' m' r', xl_I s' (i + 4) n' ce' sl' m' r' → xk_W E m_law 18 [some (.inr (some 0)), some (.inr (some 1)), some (.inr (some 53)), some (.inl (nI (i + 4)))] [] n' m' r' ce' sl' Q) : xk_W E m_law 692 [some (.inr (some 0)), some (.inr (some 1)), some (.inr (some 53)), some (.inl (nI i))] [] n m r ce sl Q := by
  obtain ⟨hA, hM, hS0, h4, h5, h6, h7⟩ := id hI
  have hok := hS0.1
  have hn : 74 ≤ n := hA.2.2.2.2.2
  have hsm : s.1.1.2.2.2.2.1 + 4 < 2 ^ 20 := by omega
  refine xk_aload_n (pc := 692) d_law_692 rfl ?_
  refine xk_aload_n (pc := 693) d_law_693 rfl ?_
  refine xk_iload_n (pc := 694) d_law_694 rfl ?_
  refine xk_iconst (pc := 695) (v := nI 1) d_law_695 (by decide) ?_
  first | refine xk_iaddN (pc := 696) d_law_696 ?_ | refine xk_iadd (pc := 696) d_law_696 ?_
  refine xk_sld (pc := 697) d_law_697 rfl (by omega) (by omega) ?_
  refine xk_cV1 (pc := 698) d_law_698 ml_L_89 cz_K_cached ⟨rfl, rfl⟩ rfl rfl (by omega) (by omega) (Nat.le_of_ble_eq_true rfl) ⟨(show ce ≤ 600000 by omega), (show sl ≤ 7302250 by omega)⟩ ?_
  refine c_K_cached hA hok ?_
  refine xk_aload_n (pc := 701) d_law_701 rfl ?_
  refine xk_aload_n (pc := 702) d_law_702 rfl ?_
  refine xk_iload_n (pc := 703) d_law_703 rfl ?_
  refine xk_iconst (pc := 704) (v := nI 1) d_law_704 (by decide) ?_
  first | refine xk_iaddN (pc := 705) d_law_705 ?_ | refine xk_iadd (pc := 705) d_law_705 ?_
  refine xk_sld (pc := 706) d_law_706 rfl (by omega) (by omega) ?_
  refine xk_cV1 (pc := 707) d_law_707 ml_L_92 cz_M_cached ⟨rfl, rfl⟩ rfl rfl (by omega) (by omega) (Nat.le_of_ble_eq_true rfl) ⟨(show ce ≤ 600000 by omega), (show sl ≤ 7302250 by omega)⟩ ?_
  refine c_M_cached hn hA.2.2.2.2.1 hM hok ?_
  refine xk_icmp_eq (pc := 710) (tgt := 738) d_law_710 rfl (fun _ => ?_) (fun c => absurd rfl c)
  refine xk_iincN (pc := 738) (d := 4) d_law_738 rfl ?_
  refine xk_goto (pc := 741) (tgt := 18) d_law_741 rfl ?_
  exact hK _ _ _ _ _ _ (xl_step hI (xo_r hS0) hA hM h4 (by omega) (by omega))

set_option maxRecDepth 20000 in
set_option maxHeartbeats 4000000 in
theorem s_law_count {E : xk_E} {n : Nat} {m : xk_M} {r : xk_P} {Q : xk_Q} {s : xs_S} {i ce sl : Nat} (hL : E.2.2.2.2.2.1 ≤ 2048) (hi : i + 4 ≤ E.2.2.2.2.2.1) (hI : xl_I s i n ce sl m r) (hK : ∀ s' n' ce' sl' m' r', xl_I s' (i + 4) n' ce' sl' m' r' → xk_W E m_law 18 [some (.inr (some 0)), some (.inr (some 1)), some (.inr (some 53)), some (.inl (nI (i + 4)))] [] n' m' r' ce' sl' Q) : xk_W E m_law 715 [some (.inr (some 0)), some (.inr (some 1)), some (.inr (some 53)), some (.inl (nI i))] [] n m r ce sl Q := by
  obtain ⟨hA, hM, hS0, h4, h5, h6, h7⟩ := id hI
  have hok := hS0.1
  have hn : 74 ≤ n := hA.2.2.2.2.2
  have hsm : s.1.1.2.2.2.2.1 + 4 < 2 ^ 20 := by omega
  refine xk_aload_n (pc := 715) d_law_715 rfl ?_
  refine xk_aload_n (pc := 716) d_law_716 rfl ?_
  refine xk_iload_n (pc := 717) d_law_717 rfl ?_
  refine xk_iconst (pc := 718) (v := nI 1) d_law_718 (by decide) ?_
  first | refine xk_iaddN (pc := 719) d_law_719 ?_ | refine xk_iadd (pc := 719) d_law_719 ?_
  refine xk_sld (pc := 720) d_law_720 rfl (by omega) (by omega) ?_
  refine xk_cV1 (pc := 721) d_law_721 ml_L_93 cz_K_count ⟨rfl, rfl⟩ rfl rfl (by omega) (by omega) (Nat.le_of_ble_eq_true rfl) ⟨(show ce ≤ 600000 by omega), (show sl ≤ 7302250 by omega)⟩ ?_
  refine c_K_count hA hok ?_
  refine xk_aload_n (pc := 724) d_law_724 rfl ?_
  refine xk_aload_n (pc := 725) d_law_725 rfl ?_
  refine xk_iload_n (pc := 726) d_law_726 rfl ?_
  refine xk_iconst (pc := 727) (v := nI 1) d_law_727 (by decide) ?_
  first | refine xk_iaddN (pc := 728) d_law_728 ?_ | refine xk_iadd (pc := 728) d_law_728 ?_
  refine xk_sld (pc := 729) d_law_729 rfl (by omega) (by omega) ?_
  refine xk_cV1 (pc := 730) d_law_730 ml_L_96 cz_M_count ⟨rfl, rfl⟩ rfl rfl (by omega) (by omega) (Nat.le_of_ble_eq_true rfl) ⟨(show ce ≤ 600000 by omega), (show sl ≤ 7302250 by omega)⟩ ?_
  refine c_M_count hn hA.2.2.2.2.1 hM hok ?_
  refine xk_icmp_eq (pc := 733) (tgt := 738) d_law_733 rfl (fun _ => ?_) (fun c => absurd rfl c)
  refine xk_iincN (pc := 738) (d := 4) d_law_738 rfl ?_
  refine xk_goto (pc := 741) (tgt := 18) d_law_741 rfl ?_
  exact hK _ _ _ _ _ _ (xl_step hI (xo_r hS0) hA hM h4 (by omega) (by omega))

set_option maxRecDepth 20000 in
set_option maxHeartbeats 4000000 in
theorem s_law738 {E : xk_E} {n : Nat} {m : xk_M} {r : xk_P} {Q : xk_Q} {s : xs_S} {i ce sl : Nat} (hL : E.2.2.2.2.2.1 ≤ 2048) (hi : i + 4 ≤ E.2.2.2.2.2.1) (hI : xl_I s i n ce sl m r) (hK : ∀ s' n' ce' sl' m' r', xl_I s' (i + 4) n' ce' sl' m' r' → xk_W E m_law 18 [some (.inr (some 0)), some (.inr (some 1)), some (.inr (some 53)), some (.inl (nI (i + 4)))] [] n' m' r' ce' sl' Q) : xk_W E m_law 738 [some (.inr (some 0)), some (.inr (some 1)), some (.inr (some 53)), some (.inl (nI i))] [] n m r ce sl Q := by
  refine xk_iincN (pc := 738) (d := 4) d_law_738 rfl ?_
  refine xk_goto (pc := 741) (tgt := 18) d_law_741 rfl ?_
  obtain ⟨hA, hM, hS0, h4, h5, h6, h7⟩ := id hI
  exact hK _ _ _ _ _ _ (xl_step hI (xo_r hS0) hA hM h4 (by omega) (by omega))
