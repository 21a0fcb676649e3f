/-! the cost is small -/
theorem cost_n {w : Nat} (h : w < 2 ^ 24) : (-2000000000 ≤ nI w + 7 ∧ nI w + 7 ≤ 2000000000) ∧ (-2000000000 ≤ nI w + nI w / 10 ∧ nI w + nI w / 10 ≤ 2000000000) := by
  have e2 : (-2000000000 : Int32).toInt = -2000000000 := rfl
  have e3 : (2000000000 : Int32).toInt = 2000000000 := rfl
  rw [show (7 : Int32) = nI 7 from rfl, show (10 : Int32) = nI 10 from rfl, pk_div (by omega) (by decide) (by decide), nI_add, nI_add]
  simp only [Int32.le_iff_toInt_le]
  rw [nI_toInt (by omega), nI_toInt (by omega), e2, e3]
  refine ⟨⟨by omega, by omega⟩, by omega, by omega⟩
theorem worth_n {b kd i : Nat} {σ : St} (h : Inv b σ) (hk : ¬ kd = 6) : ∃ w, w < 2 ^ 24 ∧ vWorth kd i σ = nI w := by
  obtain ⟨fo, hfo, e5⟩ := h.2.2.2.2.2.2.2.2.1 i
  obtain ⟨ma, hma, e3⟩ := h.2.2.2.2.2.2.2.2.2 i
  obtain ⟨ac, hac, e6⟩ := h.2.2.2.1 i
  have hN := h.2.2.2.2.1
  have v0 : vW0 i σ = nI (ma / 10 + 2 * fo) := by
    unfold vW0
    rw [e3, e5, show (10 : Int32) = nI 10 from rfl, pk_div (by omega) (by decide) (by decide), show (2 : Int32) = nI 2 from rfl, pk_mul, nI_add]
  unfold vWorth
  split
  · exact ⟨ma / 10 + 2 * fo + ac, by omega, by rw [v0, e6, nI_add]⟩
  split
  · split
    · exact ⟨ma / 10 + 2 * fo + ac + 5, by omega, by rw [v0, e6, nI_add, show (5 : Int32) = nI 5 from rfl, nI_add]⟩
    · exact ⟨ma / 10 + 2 * fo + ac, by omega, by rw [v0, e6, nI_add, Int32.add_zero]⟩
  split
  · exact ⟨2 * (ma / 10 + 2 * fo), by omega, by rw [v0, show (2 : Int32) = nI 2 from rfl, pk_mul]⟩
  exact ⟨ma / 10 + 2 * fo, by omega, v0⟩
theorem div_b (a x : Int32) (n : Nat) (hn : n < 2 ^ 30) (h : a.toInt.natAbs ≤ n) : (a / x).toInt.natAbs ≤ n := by
  rw [Int32.toInt_div]
  have h1 : (a.toInt.tdiv x.toInt).natAbs ≤ a.toInt.natAbs := Int.natAbs_tdiv_le_natAbs _ _
  rw [Int.bmod_eq_of_le (by omega) (by omega)]
  omega
theorem cost_6 {i : Nat} {σ : St} : -2000000000 ≤ vCost 6 i σ ∧ vCost 6 i σ ≤ 2000000000 := by
  have hv : (vWorth 6 i σ).toInt.natAbs ≤ 1000 := by
    by_cases h : s_F σ 7 i = 0
    · rw [(worth6p h).2]; decide
    · rw [(worth6n h).2]
      exact div_b 1000 _ 1000 (by decide) (by decide)
  have h10 := div_b (vWorth 6 i σ) 10 1000 (by decide) hv
  show -2000000000 ≤ vWorth 6 i σ + vWorth 6 i σ / 10 ∧ vWorth 6 i σ + vWorth 6 i σ / 10 ≤ 2000000000
  have e2 : (-2000000000 : Int32).toInt = -2000000000 := rfl
  have e3 : (2000000000 : Int32).toInt = 2000000000 := rfl
  simp only [Int32.le_iff_toInt_le]
  rw [Int32.toInt_add, Int.bmod_eq_of_le (by omega) (by omega), e2, e3]
  omega
theorem cost_b {b : Nat} {σ : St} (h : Inv b σ) : ∀ i, i < s_n σ → -2000000000 ≤ vCost (s_k σ i) i σ ∧ vCost (s_k σ i) i σ ≤ 2000000000 := by
  intro i _
  by_cases hk : s_k σ i = 6
  · rw [hk]; exact cost_6
  · obtain ⟨w, hw, e⟩ := worth_n (i := i) h hk
    unfold vCost
    rw [e]
    split
    · exact (cost_n hw).1
    · exact (cost_n hw).2
