/-! the machine's heap: fields, arrays, new cells -/
def xk_up {α : Type} (f : Nat → Nat → α) (a k : Nat) (v : α) : Nat → Nat → α := fun b j => if b = a ∧ j = k then v else f b j
theorem xk_up_s {α : Type} {f : Nat → Nat → α} {a k : Nat} {v : α} : xk_up f a k v a k = v := by simp [xk_up]
theorem xk_up_a {α : Type} {f : Nat → Nat → α} {a k b j : Nat} {v : α} (h : b ≠ a) : xk_up f a k v b j = f b j := by simp [xk_up, h]
theorem xk_up_k {α : Type} {f : Nat → Nat → α} {a k b j : Nat} {v : α} (h : j ≠ k) : xk_up f a k v b j = f b j := by simp [xk_up, h]
theorem xk_ad_inj {E : xk_E} {a b : Nat} (ha : 1 ≤ a) (hb : 1 ≤ b) (h : xk_ad E a = xk_ad E b) : a = b := by
  unfold xk_ad at h
  rw [if_neg (by omega), if_neg (by omega)] at h
  omega
theorem xk_ad_fr {E : xk_E} {a : Nat} (ha : 1 ≤ a) : xk_fr E (xk_ad E a) := by
  unfold xk_ad xk_fr
  rw [if_neg (by omega)]
  omega
theorem xk_cell.kept {E : xk_E} {m m' : xk_M} {r r' : xk_P} {a : Nat} {H H' : Heap} (h : xk_cell E m r a H) (hH : H'[xk_ad E a]? = H[xk_ad E a]?) (hm : m' a = m a) (hr : r' a = r a) : xk_cell E m' r' a H' := by
  have hf : ∀ b k, xk_f E b m' r' a k = xk_f E b m r a k := fun b k => by unfold xk_f; rw [hm, hr]
  unfold xk_cell at h ⊢
  split at h
  · next ci hk =>
    obtain ⟨q, h1, h2⟩ := h
    exact ⟨q, h1, (h2.kept hH).to (fun k _ => (hf _ k).symm)⟩
  · next tn hk =>
    rw [hH, h]
    congr 2
    funext j
    exact (hf _ j).symm
theorem xk_R.upd {E : xk_E} {n a : Nat} {m m' : xk_M} {r r' : xk_P} {H H' : Heap} (h : xk_R E n m r H) (ha : 1 ≤ a) (hn : a < n) (hs : H'.size = H.size) (ho : ∀ q, q ≠ xk_ad E a → H'[q]? = H[q]?) (hm : ∀ b, b ≠ a → m' b = m b) (hr : ∀ b, b ≠ a → r' b = r b) (hc : xk_cell E m' r' a H') : xk_R E n m' r' H' := by
  obtain ⟨h1, h2, h3, ⟨h4, h5⟩, h6⟩ := h
  refine ⟨h1, hs.trans h2, fun b hb hbn => ?_, ⟨?_, h5⟩, fun b hb k => ?_⟩
  · by_cases hba : b = a
    · subst hba; exact hc
    · exact (h3 b hb hbn).kept (ho _ (fun e => hba (xk_ad_inj hb ha e))) (hm b hba) (hr b hba)
  · rw [ho _ ?_]
    · exact h4
    · have := xk_ad_fr (E := E) ha
      unfold xk_fr at this
      omega
  · rw [hm b (by omega), hr b (by omega)]
    exact h6 b hb k
theorem xk_loc {E : xk_E} {locs : List Loc} {a k : Nat} (h : ∀ q ∈ locs, xk_fr E q.base) (ha : 1 ≤ a) : ∀ q ∈ locs ++ [⟨xk_ad E a, k⟩], xk_fr E q.base := t_lc h (xk_ad_fr ha)
/-- where a field of class number ci, place k, is linked from 'own' at 'idx' -/
def xk_FL (own : String) (idx ci k : Nat) : Prop := ∃ q : vw_C, xk_cl[ci]? = some q ∧ k < q.2.2 ∧ (Cond.fieldLink own idx (q.2.1 k).1 (q.2.1 k).2.1 (q.2.1 k).2.2.1 ∈ xk_kt ∨ ∃ host, Cond.fieldLinkNest own idx (q.2.1 k).1 (q.2.1 k).2.1 (q.2.1 k).2.2.1 host ∈ xk_nw)
section XH
variable {E : xk_E} {y : xk_Y} {pc n ce sl : Nat} {Lc : List (Option xk_V)} {st : List xk_V} {m : xk_M} {r : xk_P} {Q : xk_Q}
theorem xk_getf {idx ci k a : Nat} {v : xk_V} (hd : decode (xk_B y) pc = .ok (.getfield idx, 3)) (hl : xk_FL (xk_cls y) idx ci k) (hk : xk_kd a = .inl ci) (ha : 1 ≤ a) (hn : a < n) (hv : xk_f E (xk_rf ci k) m r a k = xk_v E v) (K : xk_W E y (pc + 3) Lc (v :: st) n m r ce sl Q) : xk_W E y pc Lc (.inr (some a) :: st) n m r ce sl Q := by
  intro p l e s mid args below meth c H locs ls C R hf hL
  have K' := K p l e s mid args below meth c H locs ls C R hf hL
  obtain ⟨q, hq, hkN, hlk⟩ := hl
  have hc := R.2.2.1 a ha hn
  unfold xk_cell at hc
  rw [hk] at hc
  obtain ⟨q', hq', cell, c1, c2, c3, c4⟩ := hc
  cases hq.symm.trans hq'
  obtain ⟨hx, hb, -, -, hown, hts, -, -, ⟨hK, -, hnw, -⟩, -⟩ := C
  obtain ⟨hS, hfc, kC, hkC, hkind⟩ := hK.1 ci q hq
  obtain ⟨cf, kf, fi, f, hi, hsl⟩ := hS k hkN
  have hst := (u_facts hfc hkC (u_lays hts (xk_clall ci q hq).1 hkN) hi).1
  have hv2 : cell.slots[f.slot]? = some (xk_v E v) := by rw [hsl, c4 k hkN]; exact congrArg some hv
  rcases hlk with hlk | ⟨host, hlk⟩
  · exact W.getf hx hb hown (hts _ hlk) hi hst c1 (by rw [c3]; exact fun h => by cases h) hv2 rfl rfl hd K'
  · exact va_Wgetf hx hb hown (va_Nw.use rfl (hnw _ hlk)) hi hst c1 (by rw [c3]; exact fun h => by cases h) hv2 rfl rfl hd K'
theorem xk_getI {idx ci k a : Nat} (hd : decode (xk_B y) pc = .ok (.getfield idx, 3)) (hl : xk_FL (xk_cls y) idx ci k) (hk : xk_kd a = .inl ci) (hr : xk_rf ci k = false) (ha : 1 ≤ a) (hn : a < n) (K : xk_W E y (pc + 3) Lc (.inl (m a k) :: st) n m r ce sl Q) : xk_W E y pc Lc (.inr (some a) :: st) n m r ce sl Q :=
  xk_getf hd hl hk ha hn (v := .inl (m a k)) (by rw [hr]; rfl) K
theorem xk_getR {idx ci k a : Nat} (hd : decode (xk_B y) pc = .ok (.getfield idx, 3)) (hl : xk_FL (xk_cls y) idx ci k) (hk : xk_kd a = .inl ci) (hr : xk_rf ci k = true) (ha : 1 ≤ a) (hn : a < n) (K : xk_W E y (pc + 3) Lc (.inr (r a k) :: st) n m r ce sl Q) : xk_W E y pc Lc (.inr (some a) :: st) n m r ce sl Q :=
  xk_getf hd hl hk ha hn (v := .inr (r a k)) (by rw [hr]; rfl) K
theorem xk_putf {idx ci k a : Nat} {v : xk_V} {m' : xk_M} {r' : xk_P} (hd : decode (xk_B y) pc = .ok (.putfield idx, 3)) (hl : xk_FL (xk_cls y) idx ci k) (hk : xk_kd a = .inl ci) (ha : 1 ≤ a) (hn : a < n)
    (hfin : ∀ q : vw_C, xk_cl[ci]? = some q → (q.2.1 k).2.2.2 = true → (xk_N y).name = "<init>" ∧ (q.2.1 k).1 = xk_cls y ∧ y.1 = false)
    (hty : narrow (xk_ty ci k) (xk_v E v) = xk_v E v ∧ fits (xk_ty ci k) (xk_v E v) = true)
    (hm : ∀ b, b ≠ a → m' b = m b) (hr : ∀ b, b ≠ a → r' b = r b) (hs : xk_f E (xk_rf ci k) m' r' a k = xk_v E v) (ho : ∀ j, j ≠ k → m' a j = m a j ∧ r' a j = r a j)
    (K : xk_W E y (pc + 3) Lc st n m' r' ce sl Q) : xk_W E y pc Lc (v :: .inr (some a) :: st) n m r ce sl Q := by
  intro p l e s mid args below meth c H locs ls C R hf hL
  have C0 := C
  obtain ⟨q, hq, hkN, hlk⟩ := hl
  have hc := R.2.2.1 a ha hn
  unfold xk_cell at hc
  rw [hk] at hc
  obtain ⟨q', hq', cell, c1, c2, c3, c4⟩ := hc
  cases hq.symm.trans hq'
  obtain ⟨hx, hb, -, -, hown, hts, -, hname, ⟨hK, -, hnw, -⟩, -⟩ := C
  obtain ⟨hin, hpt, hnm⟩ := xk_clall ci q hq
  obtain ⟨hS, hfc, kC, hkC, hkind⟩ := hK.1 ci q hq
  obtain ⟨cf, kf, fi, f, hi, hsl⟩ := hS k hkN
  have hst := (u_facts hfc hkC (u_lays hts hin hkN) hi).1
  have hap := va_apart (own := xk_cls y) hts hin (xk_ty ci) hpt hnm hK hq
  have fin : ∀ H' : Heap, H'[xk_ad E a]? = some (cell.setSlot (E.1.2 ci k) (xk_v E v)) → H'.size = H.size → (∀ q, q ≠ xk_ad E a → H'[q]? = H[q]?) → W p l e (xk_Rm y) s mid args below meth c H' (locs ++ [⟨xk_ad E a, E.1.2 ci k⟩]) ce sl (xk_Fin E y Q below args s) (F0 mid (pc + 3) ls (st.map (xk_v E))) := by
    intro H' e1 e2 e3
    refine K p l e s mid args below meth c H' _ ls C0 (R.upd ha hn e2 e3 hm hr ?_) (xk_loc hf ha) hL
    unfold xk_cell
    rw [hk]
    refine ⟨q, hq, t_OB.to (V := updV (fun j => xk_f E (xk_rf ci j) m r a j) k (xk_v E v)) ⟨_, e1, c2, c3, t_set c4 hap hkN (xk_v E v)⟩ (fun j _ => ?_)⟩
    by_cases hj : j = k
    · subst hj
      simp only [updV, if_true]
      exact hs.symm
    · obtain ⟨o1, o2⟩ := ho j hj
      simp only [updV, if_neg hj]
      unfold xk_f
      rw [o1, o2]
  have hslot : f.slot < cell.slots.size := by rw [hsl]; exact k2_hasslot (c4 k hkN)
  cases hF : (q.2.1 k).2.2.2 with
  | false =>
    have hlay := hts _ (hin _ (u_in_lay hkN))
    unfold u_lay at hlay
    rw [if_neg (by rw [hF]; decide)] at hlay
    have h6 := u_store hfc hkC hkind hlay hi (hpt k hkN) hty.1 hty.2
    rcases hlk with hlk | ⟨host, hlk⟩
    · refine W.putK hx hb (f := f) ⟨hown, hts _ hlk, ⟨_, _, _, hi⟩, hst⟩ (by rw [c2]; exact h6) c1 c3 hslot rfl rfl hd fun H' e1 e2 e3 => ?_
      rw [hsl] at e1 ⊢
      exact fin H' e1 e2 e3
    · refine va_WputK hx hb (f := f) hown (va_Nw.use rfl (hnw _ hlk)) hi hst (by rw [c2]; exact h6) c1 c3 hslot rfl rfl hd fun H' e1 e2 e3 => ?_
      rw [hsl] at e1 ⊢
      exact fin H' e1 e2 e3
  | true =>
    obtain ⟨hi1, hi2, hi3⟩ := hfin q hq hF
    have hlay := hts _ (hin _ (u_in_lay hkN))
    unfold u_lay at hlay
    rw [if_pos hF] at hlay
    have hcf : mid.cls = cf := by
      obtain ⟨_, _, c', _, _, _, -, -, hf', -, -, -, hown2, -⟩ := Cond.laysFinal_spec hlay
      have e1 : c' = cf := by have := hi.symm.trans hf'; simp at this; exact this.1.symm
      rw [hi2] at hown2
      rw [← e1]; exact Option.some.inj (hown.symm.trans hown2)
    have h6 := u_fits hfc hkC hkind (Or.inr hlay) hi (hpt k hkN) hty.1 hty.2
    rcases hlk with hlk | ⟨host, hlk⟩
    · refine W.putFinK hx hb hown (hts _ hlk) hi hst hcf ((hname hi3).trans hi1) (by rw [c2]; exact h6) c1 c3 hslot rfl rfl hd fun H' e1 e2 e3 => ?_
      rw [hsl] at e1 ⊢
      exact fin H' e1 e2 e3
    · refine va_Wputf hx hb hown (va_Nw.use rfl (hnw _ hlk)) hi hst (Or.inr ⟨hcf, (hname hi3).trans hi1⟩) c1 (by rw [c3]; exact fun h => by cases h) hslot h6.1 (by rw [c2, c3]; exact h6.2) rfl rfl hd ?_
      have ha' : xk_ad E a < H.size := (Array.getElem?_eq_some_iff.mp c1).1
      rw [hsl]
      refine fin _ ?_ ?_ ?_
      · simp [Array.getElem?_setIfInBounds, ha']
      · simp
      · intro q hq
        simp [Array.getElem?_setIfInBounds, Ne.symm hq]
theorem xk_putI {idx ci k a : Nat} {x : Int32} (hd : decode (xk_B y) pc = .ok (.putfield idx, 3)) (hl : xk_FL (xk_cls y) idx ci k) (hk : xk_kd a = .inl ci) (hrf : xk_rf ci k = false) (hfin : ∀ q : vw_C, xk_cl[ci]? = some q → (q.2.1 k).2.2.2 = true → (xk_N y).name = "<init>" ∧ (q.2.1 k).1 = xk_cls y ∧ y.1 = false)
    (hty : narrow (xk_ty ci k) (.int x) = .int x ∧ fits (xk_ty ci k) (.int x) = true) (ha : 1 ≤ a) (hn : a < n) (K : xk_W E y (pc + 3) Lc st n (xk_up m a k x) r ce sl Q) : xk_W E y pc Lc (.inl x :: .inr (some a) :: st) n m r ce sl Q :=
  xk_putf hd hl hk ha hn hfin hty (fun b hb => by funext j; exact xk_up_a hb) (fun _ _ => rfl) (by rw [hrf]; unfold xk_f; rw [if_neg (by decide), xk_up_s]; rfl) (fun j hj => ⟨xk_up_k hj, rfl⟩) K
theorem xk_putR {idx ci k a : Nat} {o : Option Nat} (hd : decode (xk_B y) pc = .ok (.putfield idx, 3)) (hl : xk_FL (xk_cls y) idx ci k) (hk : xk_kd a = .inl ci) (hrf : xk_rf ci k = true) (hfin : ∀ q : vw_C, xk_cl[ci]? = some q → (q.2.1 k).2.2.2 = true → (xk_N y).name = "<init>" ∧ (q.2.1 k).1 = xk_cls y ∧ y.1 = false)
    (hty : narrow (xk_ty ci k) (xk_v E (.inr o)) = xk_v E (.inr o) ∧ fits (xk_ty ci k) (xk_v E (.inr o)) = true) (ha : 1 ≤ a) (hn : a < n) (K : xk_W E y (pc + 3) Lc st n m (xk_up r a k o) ce sl Q) : xk_W E y pc Lc (.inr o :: .inr (some a) :: st) n m r ce sl Q :=
  xk_putf hd hl hk ha hn hfin hty (fun _ _ => rfl) (fun b hb => by funext j; exact xk_up_a hb) (by rw [hrf]; unfold xk_f; rw [if_pos rfl, xk_up_s]) (fun j hj => ⟨rfl, xk_up_k hj⟩) K
theorem xk_arr {a t len : Nat} {H : Heap} (R : xk_R E n m r H) (hk : xk_kd a = .inr (t, len)) (ha : 1 ≤ a) (hn : a < n) : H[xk_ad E a]? = some (arrV (E.2.1 t) len (fun j => xk_f E (decide (2 ≤ t)) m r a j)) := by
  have hc := R.2.2.1 a ha hn
  unfold xk_cell at hc
  rw [hk] at hc
  exact hc
theorem xk_iaload {a len i : Nat} {j : Int32} (hd : decode (xk_B y) pc = .ok (.iaload, 1)) (hk : xk_kd a = .inr (0, len)) (ha : 1 ≤ a) (hn : a < n) (hj : j = nI i) (hi : i < len) (hlen : len < 2 ^ 31) (K : xk_W E y (pc + 1) Lc (.inl (m a i) :: st) n m r ce sl Q) : xk_W E y pc Lc (.inl j :: .inr (some a) :: st) n m r ce sl Q := by
  intro p l e s mid args below meth c H locs ls C R hf hL
  subst hj
  have hc := nI_clamp (n := i) (by omega)
  exact W.iald (v := .int (m a i)) C.1 C.2.1 (xk_arr R hk ha hn) ((C.2.2.2.2.2.2.2.2.1.1.2 0 _ rfl).1 len _) (fun q => by cases q) (by rw [arrV_size]; exact nI_in hi hlen) (by rw [hc, arrV_read _ _ hi]; rfl) rfl rfl hd (K p l e s mid args below meth c H locs ls C R hf hL)
theorem xk_baload {a len i : Nat} {j : Int32} (hd : decode (xk_B y) pc = .ok (.baload, 1)) (hk : xk_kd a = .inr (1, len)) (ha : 1 ≤ a) (hn : a < n) (hj : j = nI i) (hi : i < len) (hlen : len < 2 ^ 31) (K : xk_W E y (pc + 1) Lc (.inl (m a i) :: st) n m r ce sl Q) : xk_W E y pc Lc (.inl j :: .inr (some a) :: st) n m r ce sl Q := by
  intro p l e s mid args below meth c H locs ls C R hf hL
  subst hj
  have hc := nI_clamp (n := i) (by omega)
  exact W.zald (v := .int (m a i)) C.1 C.2.1 (xk_arr R hk ha hn) ((C.2.2.2.2.2.2.2.2.1.1.2 1 _ rfl).1 len _) (fun q => by cases q) (by rw [arrV_size]; exact nI_in hi hlen) (by rw [hc, arrV_read _ _ hi]; rfl) rfl rfl hd (K p l e s mid args below meth c H locs ls C R hf hL)
theorem xk_tyr {t : Nat} (h2 : 2 ≤ t) (h5 : t < 5) : (xk_tys E)[t]? = some (E.2.1 t, xk_aty t) ∧ ∃ C, xk_aty t = .object C := by
  rcases (by omega : t = 2 ∨ t = 3 ∨ t = 4) with rfl | rfl | rfl <;> exact ⟨rfl, _, rfl⟩
theorem xk_aaload {a t len i : Nat} {j : Int32} (hd : decode (xk_B y) pc = .ok (.aaload, 1)) (hk : xk_kd a = .inr (t, len)) (h2 : 2 ≤ t) (h5 : t < 5) (ha : 1 ≤ a) (hn : a < n) (hj : j = nI i) (hi : i < len) (hlen : len < 2 ^ 31) (K : xk_W E y (pc + 1) Lc (.inr (r a i) :: st) n m r ce sl Q) : xk_W E y pc Lc (.inl j :: .inr (some a) :: st) n m r ce sl Q := by
  intro p l e s mid args below meth c H locs ls C R hf hL
  subst hj
  have hc := nI_clamp (n := i) (by omega)
  obtain ⟨e1, D, e2⟩ := xk_tyr (E := E) h2 h5
  have hA := (C.2.2.2.2.2.2.2.2.1.1.2 t _ e1).1 len
  exact W.aald (v := xk_v E (.inr (r a i))) (ty := xk_aty t) C.1 C.2.1 (xk_arr R hk ha hn) (hA _) (by rw [e2]; rfl) (fun q => by cases q) (by rw [arrV_size]; exact nI_in hi hlen) (by rw [hc, arrV_read _ _ hi, show decide (2 ≤ t) = true from decide_eq_true h2]; rfl) rfl rfl hd (K p l e s mid args below meth c H locs ls C R hf hL)
theorem xk_updV {E : xk_E} {b : Bool} {m m' : xk_M} {r r' : xk_P} {a i : Nat} {w : Value} (hs : xk_f E b m' r' a i = w) (ho : ∀ j, j ≠ i → m' a j = m a j ∧ r' a j = r a j) : updV (fun j => xk_f E b m r a j) i w = fun j => xk_f E b m' r' a j := by
  funext j
  by_cases hj : j = i
  · subst hj
    simp only [updV, if_true]
    exact hs.symm
  · obtain ⟨o1, o2⟩ := ho j hj
    simp only [updV, if_neg hj]
    unfold xk_f
    rw [o1, o2]
theorem xk_iastore {a len i : Nat} {j x : Int32} (hd : decode (xk_B y) pc = .ok (.iastore, 1)) (hk : xk_kd a = .inr (0, len)) (ha : 1 ≤ a) (hn : a < n) (hj : j = nI i) (hi : i < len) (hlen : len < 2 ^ 31) (K : xk_W E y (pc + 1) Lc st n (xk_up m a i x) r ce sl Q) : xk_W E y pc Lc (.inl x :: .inl j :: .inr (some a) :: st) n m r ce sl Q := by
  intro p l e s mid args below meth c H locs ls C R hf hL
  subst hj
  have hc := nI_clamp (n := i) (by omega)
  refine W.iast C.1 C.2.1 (xk_arr R hk ha hn) ((C.2.2.2.2.2.2.2.2.1.1.2 0 _ rfl).1 len _) (fun q => by cases q) (by rw [arrV_size]; exact nI_in hi hlen) rfl rfl hd fun H' e1 e2 e3 => ?_
  rw [hc, arrV_store] at e1
  refine K p l e s mid args below meth c H' _ ls C (R.upd ha hn e2 e3 (fun b hb => by funext q; exact xk_up_a hb) (fun _ _ => rfl) ?_) (xk_loc hf ha) hL
  unfold xk_cell
  rw [hk, e1]
  exact congrArg (fun f => some (arrV (E.2.1 0) len f)) (xk_updV (by unfold xk_f; rw [if_neg (by decide), xk_up_s]) (fun q hq => ⟨xk_up_k hq, rfl⟩))
theorem xk_bastore {a len i : Nat} {j x : Int32} (hd : decode (xk_B y) pc = .ok (.bastore, 1)) (hk : xk_kd a = .inr (1, len)) (ha : 1 ≤ a) (hn : a < n) (hj : j = nI i) (hi : i < len) (hlen : len < 2 ^ 31) (hx : narrow .boolean (.int x) = .int x) (K : xk_W E y (pc + 1) Lc st n (xk_up m a i x) r ce sl Q) : xk_W E y pc Lc (.inl x :: .inl j :: .inr (some a) :: st) n m r ce sl Q := by
  intro p l e s mid args below meth c H locs ls C R hf hL
  subst hj
  have hc := nI_clamp (n := i) (by omega)
  refine W.zast C.1 C.2.1 (xk_arr R hk ha hn) ((C.2.2.2.2.2.2.2.2.1.1.2 1 _ rfl).1 len _) (fun q => by cases q) (by rw [arrV_size]; exact nI_in hi hlen) rfl rfl hd fun H' e1 e2 e3 => ?_
  rw [hc, hx, arrV_store] at e1
  refine K p l e s mid args below meth c H' _ ls C (R.upd ha hn e2 e3 (fun b hb => by funext q; exact xk_up_a hb) (fun _ _ => rfl) ?_) (xk_loc hf ha) hL
  unfold xk_cell
  rw [hk, e1]
  exact congrArg (fun f => some (arrV (E.2.1 1) len f)) (xk_updV (by unfold xk_f; rw [if_neg (by decide), xk_up_s]) (fun q hq => ⟨xk_up_k hq, rfl⟩))
theorem xk_aastore {a b t len i ci : Nat} {j : Int32} {q : vw_C} (hd : decode (xk_B y) pc = .ok (.aastore, 1)) (hk : xk_kd a = .inr (t, len)) (h2 : 2 ≤ t) (h5 : t < 5) (ha : 1 ≤ a) (hn : a < n) (hj : j = nI i) (hi : i < len) (hlen : len < 2 ^ 31) (hkb : xk_kd b = .inl ci) (hq : xk_cl[ci]? = some q) (hq1 : xk_aty t = .object q.1) (hb1 : 1 ≤ b) (hbn : b < n)
    (K : xk_W E y (pc + 1) Lc st n m (xk_up r a i (some b)) ce sl Q) : xk_W E y pc Lc (.inr (some b) :: .inl j :: .inr (some a) :: st) n m r ce sl Q := by
  intro p l e s mid args below meth c H locs ls C R hf hL
  subst hj
  have hc := nI_clamp (n := i) (by omega)
  obtain ⟨e1, D, e2⟩ := xk_tyr (E := E) h2 h5
  obtain ⟨hK1, hK2⟩ := C.2.2.2.2.2.2.2.2.1.1
  have hcb := R.2.2.1 b hb1 hbn
  unfold xk_cell at hcb
  rw [hkb] at hcb
  obtain ⟨q', hq', cellV, g1, g2, g3, -⟩ := hcb
  cases hq.symm.trans hq'
  have hcls := (hK1 ci q hq).2
  have hRA := (hK2 t _ e1).2
  rw [hq1] at hRA
  obtain ⟨kA, comp, k1, k2, k3, -⟩ := hRA
  have hcomp : comp = E.1.1 ci := Option.some.inj (k3.symm.trans hcls.1)
  subst hcomp
  obtain ⟨kC, hkC, -⟩ := hcls.2
  refine W.aast C.1 C.2.1 (xk_arr R hk ha hn) (fun q h => by cases h) (fun h => by cases h) k1 k2 rfl hkC ⟨nI_pos (by omega), by rw [hc, arrV_size]; exact hi⟩ g1 (fun q h => by rw [g3] at h; cases h) (by rw [g2]; exact hkC) (by rw [g2]; exact va_assign hcls) rfl rfl hd fun H' e1 e2 e3 => ?_
  rw [hc, arrV_store] at e1
  refine K p l e s mid args below meth c H' _ ls C (R.upd ha hn e2 e3 (fun _ _ => rfl) (fun b hb => by funext q; exact xk_up_a hb) ?_) (xk_loc hf ha) hL
  unfold xk_cell
  rw [hk, e1]
  exact congrArg (fun f => some (arrV (E.2.1 t) len f)) (xk_updV (by unfold xk_f; rw [if_pos (decide_eq_true h2), xk_up_s]; rfl) (fun q hq => ⟨rfl, xk_up_k hq⟩))
theorem xk_aastoreN {a t len i : Nat} {j : Int32} (hd : decode (xk_B y) pc = .ok (.aastore, 1)) (hk : xk_kd a = .inr (t, len)) (h2 : 2 ≤ t) (h5 : t < 5) (ha : 1 ≤ a) (hn : a < n) (hj : j = nI i) (hi : i < len) (hlen : len < 2 ^ 31)
    (K : xk_W E y (pc + 1) Lc st n m (xk_up r a i none) ce sl Q) : xk_W E y pc Lc (.inr none :: .inl j :: .inr (some a) :: st) n m r ce sl Q := by
  intro p l e s mid args below meth c H locs ls C R hf hL
  subst hj
  have hc := nI_clamp (n := i) (by omega)
  obtain ⟨e1, D, e2⟩ := xk_tyr (E := E) h2 h5
  have hA := (C.2.2.2.2.2.2.2.2.1.1.2 t _ e1).1 len
  rw [e2] at hA
  refine va_WaastN (C := D) C.1 C.2.1 (xk_arr R hk ha hn) (hA _) (fun h => by cases h) (by rw [arrV_size]; exact nI_in hi hlen) rfl rfl hd fun H' e1 e2 e3 => ?_
  rw [hc, arrV_store] at e1
  refine K p l e s mid args below meth c H' _ ls C (R.upd ha hn e2 e3 (fun _ _ => rfl) (fun b hb => by funext q; exact xk_up_a hb) ?_) (xk_loc hf ha) hL
  unfold xk_cell
  rw [hk, e1]
  exact congrArg (fun f => some (arrV (E.2.1 t) len f)) (xk_updV (by unfold xk_f; rw [if_pos (decide_eq_true h2), xk_up_s]; rfl) (fun q hq => ⟨rfl, xk_up_k hq⟩))
/-- a cell is made -/
theorem xk_R.push {E : xk_E} {n : Nat} {m : xk_M} {r : xk_P} {H H' : Heap} (h : xk_R E n m r H) (hs : H'.size = H.size + 1) (ho : ∀ q, q < H.size → H'[q]? = H[q]?) (hc : xk_cell E m r n H') : xk_R E (n + 1) m r H' := by
  obtain ⟨h1, h2, h3, ⟨h4, h5⟩, h6⟩ := h
  refine ⟨by omega, by omega, fun b hb hbn => ?_, ⟨?_, h5⟩, fun b hb k => h6 b (by omega) k⟩
  · by_cases hba : b = n
    · subst hba; exact hc
    · refine (h3 b hb (by omega)).kept (ho _ ?_) rfl rfl
      unfold xk_ad
      rw [if_neg (by omega)]
      omega
  · rw [ho _ (by omega)]
    exact h4
theorem xk_ad_n {n : Nat} {H : Heap} (h : xk_R E n m r H) : xk_ad E n = H.size := by
  unfold xk_ad
  rw [if_neg (by have := h.1; omega), h.2.1]
theorem xk_dfl {ci k : Nat} (hz : m n k = 0 ∧ r n k = none) (hd : defaultValue (xk_ty ci k) = if xk_rf ci k = true then Value.null else .int 0) : defaultValue (xk_ty ci k) = xk_f E (xk_rf ci k) m r n k := by
  rw [hd]
  unfold xk_f
  rw [hz.1, hz.2]
  rfl
theorem xk_new {idx ci : Nat} {q : vw_C} (hd : decode (xk_B y) pc = .ok (.new idx, 3)) (hk : xk_kd n = .inl ci) (hq : xk_cl[ci]? = some q) (hdf : ∀ k, k < q.2.2 → defaultValue (xk_ty ci k) = if xk_rf ci k = true then Value.null else .int 0)
    (h1 : Cond.classLink (xk_cls y) idx q.1 ∈ xk_kt) (h2 : Cond.instantiable q.1 q.2.2 ∈ xk_kt) (h3 : Cond.initialized q.1 ∈ xk_kt) (hc : ce + 1 ≤ (xk_Rm y).cells) (hs : sl + q.2.2 ≤ (xk_Rm y).slots)
    (K : (∀ k, m n k = 0 ∧ r n k = none) → xk_W E y (pc + 3) Lc (.inr (some n) :: st) (n + 1) m r (ce + 1) (sl + q.2.2) Q) : xk_W E y pc Lc st n m r ce sl Q := by
  intro p l e s mid args below meth c H locs ls C R hf hL
  have C0 := C
  obtain ⟨hx, hb, -, -, hown, hts, -, -, ⟨hK, -, -, -⟩, -⟩ := C
  obtain ⟨hin, hpt, hnm⟩ := xk_clall ci q hq
  have hKn := hK.1 ci q hq
  refine W.newcK hx hb hown (hts _ h1) (hts _ h2) (hts _ h3) rfl hd hc hs hKn.2.1 rfl fun H1 kC hkC e1 z1 o1 => ?_
  have hz := R.2.2.2.2 n (Nat.le_refl n)
  have K' := K hz p l e s mid args below meth c H1 locs ls C0 (R.push z1 o1 ?_) hf hL
  · have e : ((Sum.inr (some n) :: st : List xk_V).map (xk_v E)) = .ref H.size :: st.map (xk_v E) := by
      rw [List.map_cons, ← xk_ad_n R]
      rfl
    rw [e] at K'
    exact K'
  · unfold xk_cell
    rw [hk]
    rw [← xk_ad_n R] at e1
    exact ⟨q, hq, (u_born (xk_ty ci) hts hin hKn hkC e1 hpt).to (fun j hj => xk_dfl (hz j) (hdf j hj))⟩
theorem xk_newarr {t len : Nat} {at_ : ArrayType} {x : Int32} (hd : decode (xk_B y) pc = .ok (.newarray at_, 2)) (hk : xk_kd n = .inr (t, len)) (ht : t < 2) (hty : newarray.typeOf at_ = xk_aty t) (hw : Cond.arrayClass (newarray.typeOf at_) ∈ xk_kt) (hx : x = nI len) (hlen : len < 2 ^ 20) (hc : ce + 1 ≤ (xk_Rm y).cells) (hs : sl + len ≤ (xk_Rm y).slots)
    (K : (∀ k, m n k = 0 ∧ r n k = none) → xk_W E y (pc + 2) Lc (.inr (some n) :: st) (n + 1) m r (ce + 1) (sl + len) Q) : xk_W E y pc Lc (.inl x :: st) n m r ce sl Q := by
  intro p l e s mid args below meth c H locs ls C R hf hL
  subst hx
  have C0 := C
  obtain ⟨hx, hb, -, -, hown, hts, -, -, ⟨hK, -, -, -⟩, -⟩ := C
  refine va_newaK hx hb (hts _ hw) rfl hd rfl (nI_pos (by omega)) (nI_clamp (by omega)) (by rw [hty]; rcases (by omega : t = 0 ∨ t = 1) with rfl | rfl <;> simp [xk_aty, componentBytes] <;> omega) hc hs rfl fun H1 cA e1 z1 o1 hAr hNm => ?_
  have hz := R.2.2.2.2 n (Nat.le_refl n)
  have hcA : E.2.1 t = cA := by
    rcases (by omega : t = 0 ∨ t = 1) with rfl | rfl
    · have h := (hK.2 0 _ rfl).2
      rw [hty] at hNm
      exact Option.some.inj (h.symm.trans hNm)
    · have h := (hK.2 1 _ rfl).2
      rw [hty] at hNm
      exact Option.some.inj (h.symm.trans hNm)
  have K' := K hz p l e s mid args below meth c H1 locs ls C0 (R.push z1 o1 ?_) hf hL
  · have e : ((Sum.inr (some n) :: st : List xk_V).map (xk_v E)) = .ref H.size :: st.map (xk_v E) := by
      rw [List.map_cons, ← xk_ad_n R]
      rfl
    rw [e] at K'
    exact K'
  · unfold xk_cell
    rw [hk]
    rw [← xk_ad_n R] at e1
    show H1[xk_ad E n]? = _
    rw [e1, hcA]
    congr 2
    funext j
    rw [hty]
    unfold xk_f
    rw [(hz j).1, if_neg (by simp; omega)]
    rcases (by omega : t = 0 ∨ t = 1) with rfl | rfl <;> rfl
theorem xk_anew {idx t len : Nat} {D : String} {x : Int32} (hd : decode (xk_B y) pc = .ok (.anewarray idx, 3)) (hk : xk_kd n = .inr (t, len)) (h2 : 2 ≤ t) (h5 : t < 5) (hty : xk_aty t = .object D) (hw : Cond.classLink (xk_cls y) idx D ∈ xk_kt) (hao : D ∈ xk_ao) (hx : x = nI len) (hlen : len < 2 ^ 20) (hc : ce + 1 ≤ (xk_Rm y).cells) (hs : sl + len ≤ (xk_Rm y).slots)
    (K : (∀ k, m n k = 0 ∧ r n k = none) → xk_W E y (pc + 3) Lc (.inr (some n) :: st) (n + 1) m r (ce + 1) (sl + len) Q) : xk_W E y pc Lc (.inl x :: st) n m r ce sl Q := by
  intro p l e s mid args below meth c H locs ls C R hf hL
  subst hx
  have C0 := C
  obtain ⟨hx, hb, -, -, hown, hts, -, -, ⟨hK, -, -, hAO⟩, -⟩ := C
  have hcl := nI_clamp (n := len) (by omega)
  refine W.anew hx hb hown (hts _ hw) (va_AO.use (hAO D hao)) rfl hd rfl (nI_pos (by omega)) (by rw [hcl]; omega) hc (by rw [hcl]; exact hs) fun cA kA comp f1 f2 f3 f4 => ?_
  rw [hcl]
  generalize hH1 : H.push ({ cls := cA, slots := Array.replicate len .null, vm := .none } : Cell) = H1
  have z1 : H1.size = H.size + 1 := by rw [← hH1, Array.size_push]
  have e1 : H1[H.size]? = some (arrV cA len (fun _ => .null)) := by rw [← hH1, Array.getElem?_push_size, ← arrV_new]
  have o1 : ∀ q : Nat, q < H.size → H1[q]? = H[q]? := fun q hq => by rw [← hH1, Array.getElem?_push, if_neg (Nat.ne_of_lt hq)]
  have hz := R.2.2.2.2 n (Nat.le_refl n)
  have hcA : E.2.1 t = cA := by
    have h := (hK.2 t _ (xk_tyr (E := E) h2 h5).1).2
    rw [hty] at h
    obtain ⟨_, _, -, -, -, h⟩ := h
    exact Option.some.inj (h.symm.trans f1)
  have K' := K hz p l e s mid args below meth c H1 locs ls C0 (R.push z1 o1 ?_) hf hL
  · have e : ((Sum.inr (some n) :: st : List xk_V).map (xk_v E)) = .ref H.size :: st.map (xk_v E) := by
      rw [List.map_cons, ← xk_ad_n R]
      rfl
    rw [e] at K'
    exact K'
  · unfold xk_cell
    rw [hk]
    rw [← xk_ad_n R] at e1
    show H1[xk_ad E n]? = _
    rw [e1, hcA]
    congr 2
    funext j
    unfold xk_f
    rw [(hz j).2, if_pos (decide_eq_true h2)]
    rfl
end XH
