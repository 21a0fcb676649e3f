/-! places of a shelf, as a number -/
def zc (z : Int32) : Nat := if z = -1 then 0 else z.toNatClampNeg
def okZ (z : Int32) : Prop := z = -1 ∨ ∃ j, j ≤ 8 ∧ z = nI j
theorem zc_n {j : Nat} (h : j ≤ 8) : zc (nI j) = j := by
  unfold zc
  rw [if_neg (fun e => by have h2 := congrArg Int32.toInt e; rw [nI_toInt (by omega)] at h2; have : (-1 : Int32).toInt = -1 := rfl; omega), nI_clamp (by omega)]
theorem zc_le {z : Int32} (h : okZ z) : zc z ≤ 8 := by
  rcases h with rfl | ⟨j, hj, rfl⟩
  · decide
  · rw [zc_n hj]; exact hj
theorem zc_out {z : Int32} (h : okZ z) : z ≤ nI (zc z) := by
  rcases h with rfl | ⟨j, hj, rfl⟩
  · decide
  · rw [zc_n hj]; exact nI_le (Nat.le_refl _) (by omega)
theorem zc_in {z : Int32} (h : okZ z) {j : Nat} (hj : j < zc z) : ¬ z ≤ nI j := by
  rcases h with rfl | ⟨m, hm, rfl⟩
  · exact absurd hj (Nat.not_lt_zero _)
  · rw [zc_n hm] at hj; exact nI_ge hj (by omega)
theorem zc_has {z : Int32} (h : okZ z) {j : Nat} (hj : j < zc z) : hasP z (nI j) :=
  ⟨nI_pos' (by have := zc_le h; omega), Int32.not_le.mp (zc_in h hj), nI_lt (b := 8) (by have := zc_le h; omega) (by decide)⟩
theorem zc_no {z : Int32} (h : okZ z) {j : Nat} (hj : zc z ≤ j) (h8 : j < 8) : ¬ hasP z (nI j) := by
  intro g
  rcases h with rfl | ⟨m, hm, rfl⟩
  · exact absurd g.2.1 (Int32.not_lt.mpr (Int32.le_trans (by decide) g.1))
  · rw [zc_n hm] at hj; exact nI_nlt hj (by omega) g.2.1
theorem nI_nm {i : Nat} (h : i < 2 ^ 31) : ¬ (-1 : Int32) = nI i := by
  intro e
  have h2 := congrArg Int32.toInt e
  rw [nI_toInt h] at h2
  have : (-1 : Int32).toInt = -1 := rfl
  omega
theorem tO_zc {σ : St} {k i : Nat} (hi : i < 20) (h : okZ (s_z σ k)) : tO σ k (nI i) 8 = tO σ k (nI i) (zc (s_z σ k)) := by
  have key : ∀ d, zc (s_z σ k) + d ≤ 8 → tO σ k (nI i) (zc (s_z σ k) + d) = tO σ k (nI i) (zc (s_z σ k)) := by
    intro d
    induction d with
    | zero => intro _; rfl
    | succ d ih =>
      intro hd
      rw [show zc (s_z σ k) + (d + 1) = (zc (s_z σ k) + d) + 1 from rfl, tO, if_neg (zc_no h (by omega) (by omega)), if_neg (nI_nm (by omega))]
      exact ih (by omega)
  have := key (8 - zc (s_z σ k)) (by have := zc_le h; omega)
  rw [show zc (s_z σ k) + (8 - zc (s_z σ k)) = 8 by have := zc_le h; omega] at this
  exact this
theorem sBeg_z {a k : Int32} {σ : St} : s_z (sBeg a k σ) = s_z σ := rfl
theorem lay0_z {i k : Nat} {pl : Int32} {σ : St} : s_z (lay0 i k pl σ) = s_z σ := by unfold lay0; split <;> rfl
theorem sLay_z {kd i k : Nat} {pl : Int32} {σ : St} : s_z (sLay kd i k pl σ) = s_z σ := by
  unfold sLay; split
  · split
    · rw [lay0_z, lay0_z]; rfl
    · rw [lay0_z]; rfl
  · split
    · rw [lay0_z]; rfl
    · split
      · rw [lay0_z]; rfl
      · rw [lay0_z]
theorem wLay_le {kd : Nat} {z pl : Int32} : wLay kd z pl ≤ 2 := by
  unfold wLay; split
  · split <;> exact layW_le
  · split <;> exact layW_le
theorem nI_0le {w : Nat} (h : w ≤ 2) : nI w ≤ 0 ↔ w = 0 := by
  rw [show (0 : Int32) = nI 0 from rfl, nI_leI (by omega) (by decide)]; omega
/-- what an act leaves, and how many rules it begins at most -/
def Ste (n : Nat) (σ u : St) : Prop := geo u σ ∧ s_z u = s_z σ ∧ s_r u = s_r σ ∧ s_N u ≤ s_N σ + n
theorem Ste.rf {σ : St} {n : Nat} : Ste n σ σ := ⟨geo.rf, rfl, rfl, by omega⟩
theorem Ste.tr {a b : Nat} {σ u v : St} (h : Ste a σ u) (g : Ste b u v) : Ste (a + b) σ v := ⟨g.1.tr h.1, g.2.1.trans h.2.1, g.2.2.1.trans h.2.2.1, by have := h.2.2.2; have := g.2.2.2; omega⟩
theorem Ste.mono {a b : Nat} {σ u : St} (h : Ste a σ u) (hab : a ≤ b) : Ste b σ u := ⟨h.1, h.2.1, h.2.2.1, by have := h.2.2.2; omega⟩
theorem ste_B (kd i : Nat) (ht : Int32) (σ : St) : Ste 3 σ (rBake kd i ht σ) := by
  unfold rBake
  split
  · exact ⟨⟨rfl, rfl, rfl⟩, rfl, rfl, Nat.le_add_right (s_N σ + 2) 1⟩
  split
  · exact ⟨⟨rfl, rfl, rfl⟩, rfl, rfl, Nat.le_add_right (s_N σ + 2) 1⟩
  split
  · exact ⟨⟨rfl, rfl, rfl⟩, rfl, rfl, Nat.le_refl _⟩
  split
  · exact ⟨⟨rfl, rfl, rfl⟩, rfl, rfl, Nat.le_add_right (s_N σ + 2) 1⟩
  exact ⟨⟨rfl, rfl, rfl⟩, rfl, rfl, Nat.le_add_right (s_N σ + 1) 2⟩
theorem ste_R (kd i : Nat) (mi : Int32) (σ : St) : Ste 4 σ (rRest kd i mi σ) := by
  unfold rRest
  split
  · exact ⟨⟨rfl, rfl, rfl⟩, rfl, rfl, Nat.le_add_right (s_N σ + 2) 2⟩
  split
  · exact ⟨⟨rfl, rfl, rfl⟩, rfl, rfl, Nat.le_add_right (s_N σ + 3) 1⟩
  split
  · exact ⟨⟨rfl, rfl, rfl⟩, rfl, rfl, Nat.le_refl _⟩
  split
  · split
    · exact ⟨⟨rfl, rfl, rfl⟩, rfl, rfl, Nat.le_add_right (s_N σ + 2) 2⟩
    · exact ⟨⟨rfl, rfl, rfl⟩, rfl, rfl, Nat.le_add_right (s_N σ + 2) 2⟩
  exact ⟨⟨rfl, rfl, rfl⟩, rfl, rfl, Nat.le_add_right (s_N σ + 1) 3⟩
theorem ste_bkS (k j : Nat) (ht : Int32) (q : Int32 × St) : Ste 3 q.2 (bkS k j ht q).2 := by
  unfold bkS; split
  · exact ste_B _ _ _ _
  · exact Ste.rf
theorem ste_bkI (k : Nat) (ht : Int32) (q : Int32 × St) (j : Nat) : Ste (3 * j) q.2 (bkI k ht q j).2 := by
  induction j with
  | zero => exact Ste.rf
  | succ j ih => exact ih.tr (ste_bkS k j ht _)
theorem ste_fiI (ht : Int32) (σ : St) (k : Nat) : Ste (24 * k) σ (fiI ht σ k).2 := by
  induction k with
  | zero => exact Ste.rf
  | succ k ih =>
    have h := ste_bkI k ht (0, (fiI ht σ k).2) 8
    rw [fiI]
    generalize bkI k ht (0, (fiI ht σ k).2) 8 = w at h ⊢
    exact (ih.tr h).mono (by omega)
theorem ste_niS (j : Nat) (mi : Int32) (q : Int32 × St) : Ste 4 q.2 (niS j mi q).2 := by
  unfold niS; split
  · exact ste_R _ _ _ _
  · exact Ste.rf
theorem ste_niI (mi : Int32) (σ : St) (j : Nat) : Ste (4 * j) σ (niI mi σ j).2 := by
  induction j with
  | zero => exact Ste.rf
  | succ j ih => exact ih.tr (ste_niS j mi _)
theorem bkI_zc {k : Nat} {ht : Int32} {q : Int32 × St} (h : okZ (s_z q.2 k)) : bkI k ht q 8 = bkI k ht q (zc (s_z q.2 k)) := by
  have key : ∀ d, zc (s_z q.2 k) + d ≤ 8 → bkI k ht q (zc (s_z q.2 k) + d) = bkI k ht q (zc (s_z q.2 k)) := by
    intro d
    induction d with
    | zero => intro _; rfl
    | succ d ih =>
      intro hd
      have hz := (ste_bkI k ht q (zc (s_z q.2 k) + d)).2.1
      rw [show zc (s_z q.2 k) + (d + 1) = (zc (s_z q.2 k) + d) + 1 from rfl, bkI, bkS_n, ih (by omega)]
      intro g
      unfold lfAt at g
      rw [hz, if_neg (zc_no h (by omega) (by omega))] at g
      exact absurd g.1 (by decide)
  have := key (8 - zc (s_z q.2 k)) (by have := zc_le h; omega)
  rw [show zc (s_z q.2 k) + (8 - zc (s_z q.2 k)) = 8 by have := zc_le h; omega] at this
  exact this
theorem niI_n {mi : Int32} {σ : St} (h : s_n σ ≤ 20) : niI mi σ 20 = niI mi σ (s_n σ) := by
  have key : ∀ d, s_n σ + d ≤ 20 → niI mi σ (s_n σ + d) = niI mi σ (s_n σ) := by
    intro d
    induction d with
    | zero => intro _; rfl
    | succ d ih =>
      intro hd
      have hg := (niI_geo mi σ (s_n σ + d)).1
      rw [show s_n σ + (d + 1) = (s_n σ + d) + 1 from rfl, niI, niS_n (by rw [hg]; omega), ih (by omega)]
  have := key (20 - s_n σ) (by omega)
  rw [show s_n σ + (20 - s_n σ) = 20 by omega] at this
  exact this
