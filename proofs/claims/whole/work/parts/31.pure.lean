/-! small pure facts -/
theorem xs_nat_lt {x : Int32} {k : Nat} (h : x < 0) : xs_nat x k = none := by
  rw [Int32.lt_iff_toInt_lt, Int32.toInt_zero] at h
  exact if_neg (fun q => by omega)
theorem xs_nat_ge {x : Int32} {k : Nat} (hk : k < 2 ^ 31) (h : nI k ≤ x) : xs_nat x k = none := by
  rw [Int32.le_iff_toInt_le, nI_toInt hk] at h
  exact if_neg (fun q => by omega)
theorem xs_nat_nI {f k : Nat} (hf : f < k) (hk : k < 2 ^ 31) : xs_nat (nI f) k = some f := by
  unfold xs_nat
  rw [nI_toInt (by omega), if_pos ⟨by omega, by omega⟩]
  rfl
theorem xs_nat_in {x : Int32} {k : Nat} (hk : k < 2 ^ 31) (h0 : ¬ x < 0) (h : ¬ nI k ≤ x) : ∃ f, f < k ∧ x = nI f ∧ xs_nat x k = some f := by
  obtain ⟨j, hj, rfl⟩ := nI_of h0
  have hjk : j < k := Nat.lt_of_not_le (fun q => h (nI_le q hj))
  exact ⟨j, hjk, rfl, xs_nat_nI hjk hk⟩
theorem xs_bi_b (b : Bool) : narrow .boolean (.int (xs_bi b)) = .int (xs_bi b) := by cases b <;> rfl
theorem xs_bi_0 {b : Bool} (h : xs_bi b = nI 0) : b = false := by
  cases b
  · rfl
  · exact absurd h (by decide)
theorem xs_bi_z {b : Bool} : xs_bi b = 0 ↔ b = false := by
  cases b
  · exact ⟨fun _ => rfl, fun _ => by decide⟩
  · exact ⟨fun h => absurd h (by decide), fun h => by cases h⟩
theorem xs_btw {x : Int32} {lo hi : Nat} (hlo : lo < 2 ^ 30) (hhi : hi < 2 ^ 30) (h1 : ¬ x < nI lo) (h2 : ¬ nI hi < x) : ∃ f, lo ≤ f ∧ f ≤ hi ∧ x = nI f := by
  rw [Int32.lt_iff_toInt_lt, nI_toInt (by omega)] at h1 h2
  have h0 : ¬ x < 0 := by rw [Int32.lt_iff_toInt_lt, Int32.toInt_zero]; omega
  obtain ⟨j, hj, rfl⟩ := nI_of h0
  rw [nI_toInt hj] at h1 h2
  exact ⟨j, by omega, by omega, rfl⟩
