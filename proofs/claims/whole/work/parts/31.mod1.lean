theorem rest5p {i : Nat} {mi : Int32} {σ : St} (h : 90 ≤ s_F (pR5a i mi σ) 4 i) : rRest 5 i mi σ = pR5f i mi σ := by unfold rRest; rw [if_neg (by decide), if_neg (by decide), if_neg (by decide), if_pos rfl, if_pos h]
theorem rest5n {i : Nat} {mi : Int32} {σ : St} (h : ¬ 90 ≤ s_F (pR5a i mi σ) 4 i) : rRest 5 i mi σ = pR5a i mi σ := by unfold rRest; rw [if_neg (by decide), if_neg (by decide), if_neg (by decide), if_pos rfl, if_neg h]
theorem fR0 {kd i : Nat} {mi : Int32} {σ : St} (h : ¬ kd = 5) : (0 : Int32) = b01 (fRest kd i mi σ) := b01_0 (fun g => h g.1)
theorem fW0 {kd i : Nat} {σ : St} (h : ¬ kd = 6) : (0 : Int32) = b01 (fWorth kd i σ) := b01_0 (fun g => h g.1)
theorem worth6p {i : Nat} {σ : St} (h : s_F σ 7 i = 0) : rWorth 6 i σ = pW6f σ ∧ vWorth 6 i σ = 0 := by
  unfold rWorth vWorth; rw [if_neg (by decide), if_neg (by decide), if_neg (by decide), if_pos rfl, if_pos h, if_neg (by decide), if_neg (by decide), if_neg (by decide), if_pos rfl, if_pos h]; exact ⟨rfl, rfl⟩
theorem worth6n {i : Nat} {σ : St} (h : ¬ s_F σ 7 i = 0) : rWorth 6 i σ = sBeg 4 6 σ ∧ vWorth 6 i σ = 1000 / s_F σ 7 i := by
  unfold rWorth vWorth; rw [if_neg (by decide), if_neg (by decide), if_neg (by decide), if_pos rfl, if_neg h, if_neg (by decide), if_neg (by decide), if_neg (by decide), if_pos rfl, if_neg h]; exact ⟨rfl, rfl⟩
theorem i8 {k j : Nat} : (8 : Int32) * nI k + nI j = nI (8 * k + j) := by rw [show (8 : Int32) = nI 8 from rfl, pk_mul, nI_add]
theorem layW_1 {z pl : Int32} (h : z = -1) : layW z pl = 1 := by simp [layW, h]
theorem layW_2 {z pl : Int32} (h : ¬ z = -1) (h2 : ¬ hasP z pl) : layW z pl = 2 := by simp [layW, h, h2]
theorem layW_le {z pl : Int32} : layW z pl ≤ 2 := by unfold layW; split; · decide
                                                     split <;> decide
