/-! where things lie: the references that never change, and the cells by number -/
def xr_st (a k : Nat) : Option Nat :=
  bif Nat.beq a 1 then [2, 7, 20, 21, 38][k]? else bif Nat.beq a 2 then [3, 4, 5, 6][k]? else bif Nat.beq a 7 then [2, 8, 9][k]?
  else bif Nat.beq a 21 then (bif Nat.blt k 16 then some (22 + k) else none) else bif Nat.beq a 38 then (bif Nat.blt k 7 then some (39 + 2 * k) else none)
  else bif Nat.beq a 53 then (bif Nat.blt k 8 then some (54 + k) else bif Nat.blt k 9 then none else bif Nat.blt k 20 then some (53 + k) else bif Nat.beq k 22 then some 73 else none)
  else bif (Nat.ble 10 a && Nat.blt a 20 && Nat.beq (a % 2) 0 && Nat.beq k 3) then some (a + 1)
  else bif (Nat.ble 39 a && Nat.blt a 53 && Nat.beq (a % 2) 1 && Nat.beq k 3) then some (a + 1)
  else bif (Nat.ble 74 a && Nat.beq (a % 2) 0 && Nat.beq k 0) then some (a + 1) else none
def xr_S (r : xk_P) (n : Nat) : Prop := ∀ a k v, xr_st a k = some v → a < n → r a k = some v
theorem xr_S.up {r : xk_P} {n a k : Nat} {v : Option Nat} (h : xr_S r n) (h0 : xr_st a k = none) : xr_S (xk_up r a k v) n := by
  intro b j w hw hb
  unfold xk_up
  by_cases hq : b = a ∧ j = k
  · obtain ⟨rfl, rfl⟩ := hq
    rw [h0] at hw
    cases hw
  · rw [if_neg hq]
    exact h b j w hw hb
theorem xr_kd_blk : ∀ j, j < 5 → xk_kd (10 + 2 * j) = .inl 0 := by decide
theorem xr_kd_bc : ∀ j, j < 5 → xk_kd (11 + 2 * j) = .inr (0, 8) := by decide
theorem xr_kd_op : ∀ j, j < 16 → xk_kd (22 + j) = .inl 3 := by decide
theorem xr_kd_ta : ∀ j, j < 7 → xk_kd (39 + 2 * j) = .inl 5 := by decide
theorem xr_kd_de : ∀ j, j < 7 → xk_kd (40 + 2 * j) = .inr (3, 6) := by decide
theorem xr_st_blk : ∀ j, j < 5 → xr_st (10 + 2 * j) 3 = some (11 + 2 * j) := by decide
theorem xr_st_op : ∀ j, j < 16 → xr_st 21 j = some (22 + j) := by decide
theorem xr_st_ts : ∀ j, j < 7 → xr_st 38 j = some (39 + 2 * j) := by decide
theorem xr_st_ta : ∀ j, j < 7 → xr_st (39 + 2 * j) 3 = some (40 + 2 * j) := by decide
theorem xr_0_9 : ∀ k, k < 5 → xr_st 9 k = none := by decide
theorem xr_0_op : ∀ j, j < 16 → xr_st (22 + j) 4 = none := by decide
theorem xr_0_de : ∀ j, j < 7 → ∀ k, k < 6 → xr_st (40 + 2 * j) k = none := by decide
theorem xr_kd_pi {a : Nat} (h : 74 ≤ a) (h2 : a % 2 = 0) : xk_kd a = .inl 4 := by
  have h1 : Nat.blt a 74 = false := by
    cases hb : Nat.blt a 74 with
    | false => rfl
    | true => have := Nat.le_of_ble_eq_true hb; omega
  unfold xk_kd
  rw [h1, h2]
  rfl
theorem xr_kd_pc {a : Nat} (h : 74 ≤ a) (h2 : a % 2 = 1) : xk_kd a = .inr (0, 4) := by
  have h1 : Nat.blt a 74 = false := by
    cases hb : Nat.blt a 74 with
    | false => rfl
    | true => have := Nat.le_of_ble_eq_true hb; omega
  unfold xk_kd
  rw [h1, h2]
  rfl
theorem xr_beq {a b : Nat} (h : a ≠ b) : Nat.beq a b = false := by
  cases hb : Nat.beq a b with
  | false => rfl
  | true => exact absurd (Nat.eq_of_beq_eq_true hb) h
theorem xr_blt {a b : Nat} (h : b ≤ a) : Nat.blt a b = false := by
  cases hb : Nat.blt a b with
  | false => rfl
  | true => have := Nat.le_of_ble_eq_true hb; omega
theorem xr_st_pi {a : Nat} (h : 74 ≤ a) (h2 : a % 2 = 0) : xr_st a 0 = some (a + 1) := by
  unfold xr_st
  rw [xr_beq (by omega : a ≠ 1), xr_beq (by omega : a ≠ 2), xr_beq (by omega : a ≠ 7), xr_beq (by omega : a ≠ 21), xr_beq (by omega : a ≠ 38), xr_beq (by omega : a ≠ 53), xr_blt (by omega : 20 ≤ a), xr_blt (by omega : 53 ≤ a), Nat.ble_eq_true_of_le h, h2]
  simp
