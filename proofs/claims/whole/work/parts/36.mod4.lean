/-- isFallen of the reference, in the night -/
def nfl (mi : Int32) (σ : St) (fl : Int32) : Nat → Int32
  | 0 => fl
  | j + 1 => b01 (fRest (s_k (niI mi σ j).2 j) j mi (niI mi σ j).2)
theorem lfAt_in {σ : St} {k j : Nat} (h : okZ (s_z σ k)) (hj : j < zc (s_z σ k)) : lfAt σ k j = s_r σ k j := by unfold lfAt; rw [if_pos (zc_has h hj)]
theorem d8 {k j : Nat} (h : j < 8) : (8 * k + j) / 8 = k ∧ (8 * k + j) % 8 = j := ⟨by omega, by omega⟩
theorem fiI_s {ht : Int32} {σ : St} {k : Nat} (h : okZ (s_z (fiI ht σ k).2 k)) : fiI ht σ (k + 1) = ((fiI ht σ k).1 + (bkI k ht (0, (fiI ht σ k).2) (zc (s_z (fiI ht σ k).2 k))).1, (bkI k ht (0, (fiI ht σ k).2) (zc (s_z (fiI ht σ k).2 k))).2) := by
  rw [fiI, bkI_zc (q := (0, (fiI ht σ k).2)) h]
