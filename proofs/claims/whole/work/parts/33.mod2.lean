def okM (o : Ans) (r : Int32) (u : Sm) : Prop := (o.2.1 = 0 → r = o.1) ∧ u.1 = o.2.2 ∧ u.2.1 = nI o.2.1
theorem okM_0 {o : Ans} {r : Int32} {s : St} {f d : Int32} (e : o = (r, 0, s)) : okM o r (s, 0, f, d) := by subst e; exact ⟨fun _ => rfl, rfl, rfl⟩
theorem okM_1 {o : Ans} {r a t : Int32} {n : Nat} {s : St} {f d : Int32} (e : o = (a, n, s)) (hn : ¬ n = 0) (ht : t = nI n) : okM o r (s, t, f, d) := by subst e; exact ⟨fun h => absurd h hn, rfl, ht⟩
theorem isS {ks : Int32} : wth ks 0 3 = 0 ↔ ¬ okS ks := by
  rw [wth_eq0]
  have key : ks ≤ 3 ↔ ks < 4 := by
    rw [Int32.le_iff_toInt_le, Int32.lt_iff_toInt_lt]
    have e3 : (3 : Int32).toInt = 3 := rfl
    have e4 : (4 : Int32).toInt = 4 := rfl
    omega
  rw [key]
theorem sZ_self {σ : St} {k : Nat} (h : s_z σ k = -1) : sZ k (-1) σ = σ := by
  have e : upd (s_z σ) k (-1) = s_z σ := by
    funext x
    by_cases hx : x = k
    · subst hx; simp [upd, h]
    · simp [upd, hx]
  show (s_n σ, s_k σ, s_F σ, s_a σ, upd (s_z σ) k (-1), s_r σ, s_g σ, s_N σ, s_c σ) = σ
  rw [e]; rfl
theorem bk_i {N : Nat} {ix : Int32} (hN : N < 2 ^ 30) : (0 ≤ ix ∧ ix < kp N) ↔ (¬ ix < 0 ∧ ¬ nI N ≤ ix ∧ ¬ 100 ≤ ix) := by
  unfold kp
  rw [show (100 : Int32) = nI 100 from rfl, Int32.not_lt]
  constructor
  · intro ⟨h1, h2⟩
    obtain ⟨t, ht, rfl⟩ := nI_of (x := ix) (Int32.not_lt.mpr h1)
    rw [nI_ltI (by omega) (by omega)] at h2
    exact ⟨h1, by rw [nI_leI (by omega) (by omega)]; omega, by rw [nI_leI (by omega) (by omega)]; omega⟩
  · intro ⟨h1, h2, h3⟩
    obtain ⟨t, ht, rfl⟩ := nI_of (x := ix) (Int32.not_lt.mpr h1)
    rw [nI_leI (by omega) (by omega)] at h2 h3
    exact ⟨h1, by rw [nI_ltI (by omega) (by omega)]; omega⟩
theorem bk_j {N t : Nat} (hN : N < 2 ^ 30) (h : t < min N 100) : nI N - 1 - nI t - (nI N - 1 - nI t) / 100 * 100 = nI ((N - 1 - t) % 100) := by
  have e : nI N - 1 - nI t = nI (N - 1 - t) := by
    have e1 : nI N - 1 = nI (N - 1) := by
      cases N with
      | zero => omega
      | succ n => rw [nI_pred]; rfl
    rw [e1, pk_sub (by omega)]
  rw [e, show (100 : Int32) = nI 100 from rfl]; exact pk_rem (by omega) (by decide) (by decide)
theorem chg_lt {co v : Int32} (h0 : 0 ≤ co ∧ co ≤ 100000) (hv : -2000000000 ≤ v ∧ v ≤ 2000000000) : (v ≤ co ↔ 0 ≤ co - v) := by
  rw [Int32.le_iff_toInt_le, Int32.le_iff_toInt_le] at h0 hv
  rw [Int32.le_iff_toInt_le, Int32.le_iff_toInt_le, Int32.toInt_sub]
  have e0 : (0 : Int32).toInt = 0 := rfl
  have e1 : (100000 : Int32).toInt = 100000 := rfl
  have e2 : (-2000000000 : Int32).toInt = -2000000000 := rfl
  have e3 : (2000000000 : Int32).toInt = 2000000000 := rfl
  rw [Int.bmod_eq_of_le (by omega) (by omega)]
  omega
