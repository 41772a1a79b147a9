/-! arraycopy, the script -/
def xk_cp (m : xk_M) (a b sp dp k : Nat) : xk_M := fun c j => if c = b ∧ dp ≤ j ∧ j < dp + k then m a (sp + (j - dp)) else m c j
section XD
variable {E : xk_E} {y : xk_Y} {pc n ce sl : Nat} {Lc : List (Option xk_V)} {st : List xk_V} {m : xk_M} {r : xk_P} {Q : xk_Q}
theorem xk_copyi {idx a b la lb sp dp k : Nat} {x1 x2 x3 : Int32} (hd : decode (xk_B y) pc = .ok (.invokestatic idx, 3)) (h1 : Cond.methodLink (xk_cls y) idx arraycopyName ∈ xk_kt) (h2 : Cond.native arraycopyName ∈ xk_kt) (h3 : Cond.static arraycopyName ∈ xk_kt) (h4 : Cond.initialized "java/lang/System" ∈ xk_kt)
    (hka : xk_kd a = .inr (0, la)) (hkb : xk_kd b = .inr (0, lb)) (ha : 1 ≤ a) (han : a < n) (hb1 : 1 ≤ b) (hbn : b < n) (e1 : x1 = nI sp) (e2 : x2 = nI dp) (e3 : x3 = nI k) (hla : sp + k ≤ la) (hlb : dp + k ≤ lb) (hla2 : la < 2 ^ 20) (hlb2 : lb < 2 ^ 20)
    (hfr : 1 ≤ (xk_Rm y).frames) (hlo : st.length + (nativeFrameWords "java/lang/System" "arraycopy" 5 + 11) ≤ (xk_Rm y).locals)
    (K : xk_W E y (pc + 3) Lc st n (xk_cp m a b sp dp k) r ce sl Q) : xk_W E y pc Lc (.inl x3 :: .inl x2 :: .inr (some b) :: .inl x1 :: .inr (some a) :: st) n m r ce sl Q := by
  intro p l e s mid args below meth c H locs ls C R hf hL
  subst e1; subst e2; subst e3
  obtain ⟨hx, hb, -, hml, hown, hts, -, -, ⟨hK, -⟩, -⟩ := id C
  have hc0 : H[xk_ad E a]? = some (arrV (E.2.1 0) la (fun j => .int (m a j))) := xk_arr R hka ha han
  have hc1 : H[xk_ad E b]? = some (arrV (E.2.1 0) lb (fun j => .int (m b j))) := xk_arr R hkb hb1 hbn
  obtain ⟨-, k0, hk0, cm0, hkk0⟩ := (hK.2 0 _ rfl).1 la (fun j => .int (m a j))
  obtain ⟨-, k1, hk1, cm1, hkk1⟩ := (hK.2 0 _ rfl).1 lb (fun j => .int (m b j))
  have s1 := nI_clamp (n := sp) (by omega)
  have s2 := nI_clamp (n := dp) (by omega)
  have s3 := nI_clamp (n := k) (by omega)
  have t1 := nI_toInt (n := sp) (by omega)
  have t2 := nI_toInt (n := dp) (by omega)
  have t3 := nI_toInt (n := k) (by omega)
  intro T hT X
  obtain ⟨vm', X', step⟩ := X.arraycopy hx hown (hts _ h1) (hts _ h2) (hts _ h3) (hts _ h4) (src := xk_ad E a) (dst := xk_ad E b) (cs := arrV (E.2.1 0) la (fun j => .int (m a j))) (cd := arrV (E.2.1 0) lb (fun j => .int (m b j))) (srcPos := nI sp) (destPos := nI dp) (n := nI k) (by rw [hT]; exact hc0) (by rw [hT]; exact hc1)
    (fun _ h => by cases h) (fun _ h => by cases h) (fun h => by cases h) (fun h => by cases h) hk0 hk1 hkk0 hkk1 (by rfl) (nI_pos (by omega)) (nI_pos (by omega)) (nI_pos (by omega))
    (by rw [t1, t3, arrV_size]; omega) (by rw [t2, t3, arrV_size]; omega)
    (fun vm₁ _ i hi => by
      rw [s3] at hi
      have e : (arrV (E.2.1 0) la (fun j => .int (m a j))).slots.getD ((nI sp).toNatClampNeg + i) .null = .int (m a (sp + i)) := by
        rw [s1, Array.getD_eq_getD_getElem?, arrV_read _ _ (by omega)]
        rfl
      rw [e]
      exact ⟨rfl, trivial⟩)
    (g := F0 mid pc ls (.int (nI k) :: .int (nI dp) :: .ref (xk_ad E b) :: .int (nI sp) :: .ref (xk_ad E a) :: st.map (xk_v E))) rfl (by rw [hml]; exact hL.1) (rest := st.map (xk_v E)) rfl (by rw [hb]; exact hd) hfr (by
      have : (F0 mid pc ls (.int (nI k) :: .int (nI dp) :: .ref (xk_ad E b) :: .int (nI sp) :: .ref (xk_ad E a) :: st.map (xk_v E))).monitorRoom = 0 := rfl
      rw [this, xk_sum]
      omega)
  have ec : copied (arrV (E.2.1 0) la (fun j => .int (m a j))) (arrV (E.2.1 0) lb (fun j => .int (m b j))) (nI sp) (nI dp) (nI k) = arrV (E.2.1 0) lb (fun j => .int (va_cpy (m a) (m b) (nI sp).toNatClampNeg (nI dp).toNatClampNeg (nI k).toNatClampNeg j)) := va_copied (fun z => Value.int z) (E.2.1 0) (E.2.1 0) (m a) (m b) (by rw [s1, s3]; exact hla)
  rw [ec, s1, s2, s3] at X' step
  have hl : xk_ad E b < H.size := (Array.getElem?_eq_some_iff.mp hc1).1
  have hheap : ((T.setVm vm').setCell (xk_ad E b) (arrV (E.2.1 0) lb (fun j => .int (va_cpy (m a) (m b) sp dp k j)))).heap = H.setIfInBounds (xk_ad E b) (arrV (E.2.1 0) lb (fun j => .int (va_cpy (m a) (m b) sp dp k j))) := by rw [← hT]; rfl
  have hm' : ∀ j, xk_cp m a b sp dp k b j = va_cpy (m a) (m b) sp dp k j := fun j => by
    unfold xk_cp va_cpy
    by_cases h : dp ≤ j ∧ j < dp + k
    · rw [if_pos ⟨rfl, h⟩, if_pos h]
    · rw [if_neg (fun q => h q.2), if_neg h]
  obtain ⟨t, a1, b1⟩ := K p l e s mid args below meth c _ (locs ++ ((arrV (E.2.1 0) la (fun j => .int (m a j))).stretch sp k).zipIdx.map (fun q => (⟨xk_ad E b, dp + q.2⟩ : Loc))) ls C (R.upd (m' := xk_cp m a b sp dp k) (r' := r) hb1 hbn (H' := H.setIfInBounds (xk_ad E b) (arrV (E.2.1 0) lb (fun j => .int (va_cpy (m a) (m b) sp dp k j)))) (by simp) (fun q hq => by simp [Array.getElem?_setIfInBounds, Ne.symm hq]) (fun c hc => by funext j; unfold xk_cp; rw [if_neg (fun q => hc q.1)]) (fun _ _ => rfl) (by
      unfold xk_cell
      rw [hkb]
      show (H.setIfInBounds (xk_ad E b) _)[xk_ad E b]? = _
      rw [Array.getElem?_setIfInBounds, if_pos rfl, if_pos hl]
      congr 2
      funext j
      show Value.int _ = Value.int (xk_cp m a b sp dp k b j)
      rw [hm'])) (fun q hq => by
      rcases List.mem_append.mp hq with h | h
      · exact hf q h
      · obtain ⟨z, -, hz⟩ := List.mem_map.mp h
        rw [← hz]
        exact xk_ad_fr hb1) hL _ hheap X'
  exact ⟨t, step t a1, b1⟩
theorem xk_sld {i : Nat} {j : Int32} (hd : decode (xk_B y) pc = .ok (.iaload, 1)) (hj : j = nI i) (hi : i < E.2.2.2.2.2.1) (hlen : E.2.2.2.2.2.1 < 2 ^ 31) (K : xk_W E y (pc + 1) Lc (.inl (E.2.2.2.2.2.2 i) :: st) n m r ce sl Q) : xk_W E y pc Lc (.inl j :: .inr (some 0) :: st) n m r ce sl Q := by
  intro p l e s mid args below meth c H locs ls C R hf hL
  subst hj
  have hc := nI_clamp (n := i) (by omega)
  obtain ⟨h2, h3, h4, h5⟩ := C.2.2.2.2.2.2.2.2.1.2.1
  exact W.iald (v := .int (E.2.2.2.2.2.2 i)) C.1 C.2.1 R.2.2.2.1.1 h2 h3 (by rw [h4]; exact nI_in hi hlen) (by rw [hc]; exact h5 i hi) rfl rfl hd (K p l e s mid args below meth c H locs ls C R hf hL)
theorem xk_slen (hd : decode (xk_B y) pc = .ok (.arraylength, 1)) (K : xk_W E y (pc + 1) Lc (.inl (nI E.2.2.2.2.2.1) :: st) n m r ce sl Q) : xk_W E y pc Lc (.inr (some 0) :: st) n m r ce sl Q := by
  intro p l e s mid args below meth c H locs ls C R hf hL
  obtain ⟨h2, h3, h4, h5⟩ := C.2.2.2.2.2.2.2.2.1.2.1
  exact W.alen (n := nI E.2.2.2.2.2.1) C.1 C.2.1 R.2.2.2.1.1 h2 (by rw [h4]; rfl) rfl rfl hd (K p l e s mid args below meth c H locs ls C R hf hL)
theorem xk_alen {a t len : Nat} (hd : decode (xk_B y) pc = .ok (.arraylength, 1)) (hk : xk_kd a = .inr (t, len)) (ht : t < 5) (ha : 1 ≤ a) (hn : a < n) (K : xk_W E y (pc + 1) Lc (.inl (nI len) :: st) n m r ce sl Q) : xk_W E y pc Lc (.inr (some a) :: st) n m r ce sl Q := by
  intro p l e s mid args below meth c H locs ls C R hf hL
  have e1 : (xk_tys E)[t]? = some (E.2.1 t, xk_aty t) := by
    rcases (by omega : t = 0 ∨ t = 1 ∨ t = 2 ∨ t = 3 ∨ t = 4) with rfl | rfl | rfl | rfl | rfl <;> rfl
  exact W.alen (n := nI len) C.1 C.2.1 (xk_arr R hk ha hn) ((C.2.2.2.2.2.2.2.2.1.1.2 t _ e1).1 len _) (by rw [arrV_size]; rfl) rfl rfl hd (K p l e s mid args below meth c H locs ls C R hf hL)
end XD
