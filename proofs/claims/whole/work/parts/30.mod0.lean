def sG (j : Nat) (v : Int32) (σ : St) : St := (s_n σ, s_k σ, s_F σ, s_a σ, s_z σ, s_r σ, upd (s_g σ) j v, s_N σ, s_c σ)
def sN1 (σ : St) : St := (s_n σ, s_k σ, s_F σ, s_a σ, s_z σ, s_r σ, s_g σ, s_N σ + 1, s_c σ)
theorem sBeg_eq {a k : Int32} {σ : St} : sN1 (sG (s_N σ % 100) (10 * a + k) σ) = sBeg a k σ := rfl
theorem mw_h {M : Nat → Nat} {Q : Nat → ClassId} (σ : St) (t f d : Int32) : (mw M Q (σ, t, f, d))[0]? = some (M 0, .inr (3, [.int t, .int (nI (s_n σ)), .ref (M 1), .ref (M 2), .ref (M 3), .ref (M 4), .ref (M 5), .ref (M 6), .ref (M 7), .ref (M 8), .ref (M 9), .int (nI (s_N σ)), .int (s_c σ 4), .int (s_c σ 5), .int (s_c σ 6), .int f, .int d])) := rfl
theorem mw_p0 {M : Nat → Nat} {Q : Nat → ClassId} {σ : St} {t f d v : Int32} : (mw M Q (σ, t, f, d)).set 0 (M 0, .inr (3, [.int t, .int (nI (s_n σ)), .ref (M 1), .ref (M 2), .ref (M 3), .ref (M 4), .ref (M 5), .ref (M 6), .ref (M 7), .ref (M 8), .ref (M 9), .int (nI (s_N σ)), .int (s_c σ 4), .int (s_c σ 5), .int (s_c σ 6), .int f, .int d].set 0 (.int v))) = mw M Q (σ, v, f, d) := rfl
theorem mw_p15 {M : Nat → Nat} {Q : Nat → ClassId} {σ : St} {t f d v : Int32} : (mw M Q (σ, t, f, d)).set 0 (M 0, .inr (3, [.int t, .int (nI (s_n σ)), .ref (M 1), .ref (M 2), .ref (M 3), .ref (M 4), .ref (M 5), .ref (M 6), .ref (M 7), .ref (M 8), .ref (M 9), .int (nI (s_N σ)), .int (s_c σ 4), .int (s_c σ 5), .int (s_c σ 6), .int f, .int d].set 15 (.int v))) = mw M Q (σ, t, v, d) := rfl
theorem mw_p16 {M : Nat → Nat} {Q : Nat → ClassId} {σ : St} {t f d v : Int32} : (mw M Q (σ, t, f, d)).set 0 (M 0, .inr (3, [.int t, .int (nI (s_n σ)), .ref (M 1), .ref (M 2), .ref (M 3), .ref (M 4), .ref (M 5), .ref (M 6), .ref (M 7), .ref (M 8), .ref (M 9), .int (nI (s_N σ)), .int (s_c σ 4), .int (s_c σ 5), .int (s_c σ 6), .int f, .int d].set 16 (.int v))) = mw M Q (σ, t, f, v) := rfl
theorem mw_p12 {M : Nat → Nat} {Q : Nat → ClassId} {σ : St} {t f d v : Int32} : (mw M Q (σ, t, f, d)).set 0 (M 0, .inr (3, [.int t, .int (nI (s_n σ)), .ref (M 1), .ref (M 2), .ref (M 3), .ref (M 4), .ref (M 5), .ref (M 6), .ref (M 7), .ref (M 8), .ref (M 9), .int (nI (s_N σ)), .int (s_c σ 4), .int (s_c σ 5), .int (s_c σ 6), .int f, .int d].set 12 (.int v))) = mw M Q (sC 4 v σ, t, f, d) := rfl
theorem mw_p13 {M : Nat → Nat} {Q : Nat → ClassId} {σ : St} {t f d v : Int32} : (mw M Q (σ, t, f, d)).set 0 (M 0, .inr (3, [.int t, .int (nI (s_n σ)), .ref (M 1), .ref (M 2), .ref (M 3), .ref (M 4), .ref (M 5), .ref (M 6), .ref (M 7), .ref (M 8), .ref (M 9), .int (nI (s_N σ)), .int (s_c σ 4), .int (s_c σ 5), .int (s_c σ 6), .int f, .int d].set 13 (.int v))) = mw M Q (sC 5 v σ, t, f, d) := rfl
theorem mw_p14 {M : Nat → Nat} {Q : Nat → ClassId} {σ : St} {t f d v : Int32} : (mw M Q (σ, t, f, d)).set 0 (M 0, .inr (3, [.int t, .int (nI (s_n σ)), .ref (M 1), .ref (M 2), .ref (M 3), .ref (M 4), .ref (M 5), .ref (M 6), .ref (M 7), .ref (M 8), .ref (M 9), .int (nI (s_N σ)), .int (s_c σ 4), .int (s_c σ 5), .int (s_c σ 6), .int f, .int d].set 14 (.int v))) = mw M Q (sC 6 v σ, t, f, d) := rfl
theorem mw_p11 {M : Nat → Nat} {Q : Nat → ClassId} {σ : St} {t f d v : Int32} : (mw M Q (σ, t, f, d)).set 0 (M 0, .inr (3, [.int t, .int (nI (s_n σ)), .ref (M 1), .ref (M 2), .ref (M 3), .ref (M 4), .ref (M 5), .ref (M 6), .ref (M 7), .ref (M 8), .ref (M 9), .int (nI (s_N σ)), .int (s_c σ 4), .int (s_c σ 5), .int (s_c σ 6), .int f, .int d].set 11 (.int (nI (s_N σ) + 1)))) = mw M Q (sN1 σ, t, f, d) := by rw [nI_1]; rfl
theorem mw_a2 {M : Nat → Nat} {Q : Nat → ClassId} {σ : St} {t f d v : Int32} {i : Nat} : (mw M Q (σ, t, f, d)).set 2 (M 2, arI (Q 0) 20 (upd (s_F σ 3) i v)) = mw M Q (sF 3 i v σ, t, f, d) := rfl
theorem mw_a3 {M : Nat → Nat} {Q : Nat → ClassId} {σ : St} {t f d v : Int32} {i : Nat} : (mw M Q (σ, t, f, d)).set 3 (M 3, arI (Q 0) 20 (upd (s_F σ 4) i v)) = mw M Q (sF 4 i v σ, t, f, d) := rfl
theorem mw_a4 {M : Nat → Nat} {Q : Nat → ClassId} {σ : St} {t f d v : Int32} {i : Nat} : (mw M Q (σ, t, f, d)).set 4 (M 4, arI (Q 0) 20 (upd (s_F σ 5) i v)) = mw M Q (sF 5 i v σ, t, f, d) := rfl
theorem mw_a5 {M : Nat → Nat} {Q : Nat → ClassId} {σ : St} {t f d v : Int32} {i : Nat} : (mw M Q (σ, t, f, d)).set 5 (M 5, arI (Q 0) 20 (upd (s_F σ 6) i v)) = mw M Q (sF 6 i v σ, t, f, d) := rfl
theorem mw_a6 {M : Nat → Nat} {Q : Nat → ClassId} {σ : St} {t f d v : Int32} {i : Nat} : (mw M Q (σ, t, f, d)).set 6 (M 6, arI (Q 0) 20 (upd (s_F σ 7) i v)) = mw M Q (sF 7 i v σ, t, f, d) := rfl
theorem mw_a7 {M : Nat → Nat} {Q : Nat → ClassId} {σ : St} {t f d v : Int32} {i : Nat} : (mw M Q (σ, t, f, d)).set 7 (M 7, arI (Q 0) 4 (upd (s_z σ) i v)) = mw M Q (sZ i v σ, t, f, d) := rfl
theorem mw_a9 {M : Nat → Nat} {Q : Nat → ClassId} {σ : St} {t f d v : Int32} {i : Nat} : (mw M Q (σ, t, f, d)).set 9 (M 9, arI (Q 0) 100 (upd (s_g σ) i v)) = mw M Q (sG i v σ, t, f, d) := rfl
theorem mw_a8 {M : Nat → Nat} {Q : Nat → ClassId} {σ : St} {t f d v : Int32} {k j : Nat} (hj : j < 8) : (mw M Q (σ, t, f, d)).set 8 (M 8, arI (Q 0) 32 (upd (fun x => s_r σ (x / 8) (x % 8)) (8 * k + j) v)) = mw M Q (sR k j v σ, t, f, d) := by
  have e : upd (fun x => s_r σ (x / 8) (x % 8)) (8 * k + j) v = fun x => s_r (sR k j v σ) (x / 8) (x % 8) := by
    funext x
    show (if x = 8 * k + j then v else s_r σ (x / 8) (x % 8)) = (if x / 8 = k then upd (s_r σ k) j v else s_r σ (x / 8)) (x % 8)
    by_cases h : x / 8 = k
    · rw [if_pos h]
      by_cases h2 : x % 8 = j
      · rw [if_pos (by omega)]; simp [upd, h2]
      · rw [if_neg (by omega), h]; simp [upd, h2]
    · rw [if_neg h, if_neg (by omega)]
  rw [e]; rfl
theorem sC_self {σ : St} : sC 6 (s_c σ 6 + 0) σ = σ := by
  have e : upd (s_c σ) 6 (s_c σ 6 + 0) = s_c σ := by
    funext x
    by_cases h : x = 6
    · subst h; simp [upd]
    · simp [upd, h]
  show (s_n σ, s_k σ, s_F σ, s_a σ, s_z σ, s_r σ, s_g σ, s_N σ, upd (s_c σ) 6 (s_c σ 6 + 0)) = σ
  rw [e]; rfl
theorem m100_gt {x : Int32} (h : ¬ x ≤ 100) : (100 : Int32) = m100 x := by unfold m100; rw [if_pos (Int32.not_le.mp h)]
theorem m100_le {x : Int32} (h : x ≤ 100) : x = m100 x := by unfold m100; rw [if_neg (Int32.not_lt.mpr h)]
theorem dec0_p {x : Int32} (h : ¬ x ≤ 0) : x - 1 = dec0 x := by unfold dec0; rw [if_pos (Int32.not_le.mp h)]
theorem dec0_n {x : Int32} (h : x ≤ 0) : 0 = dec0 x := by unfold dec0; rw [if_neg (Int32.not_lt.mpr h)]
theorem rem100 {N : Nat} (h : N < 2 ^ 30) : nI N - nI N / 100 * 100 = nI (N % 100) := by
  rw [show (100 : Int32) = nI 100 from rfl]; exact pk_rem (by omega) (by decide) (by decide)
theorem isL {σ : St} {lo : Int32} (hN : s_n σ ≤ 20) : wth lo 0 (nI (s_n σ) - 1) = 0 ↔ ¬ okL σ lo := by
  rw [wth_eq0]
  have key : lo ≤ nI (s_n σ) - 1 ↔ lo < nI (s_n σ) := by
    rw [Int32.le_iff_toInt_le, Int32.lt_iff_toInt_lt]
    have e : (nI (s_n σ) - 1).toInt = (s_n σ : Int) - 1 := by
      have := pk_sub_toInt (a := s_n σ) (b := 1) (by omega) (by decide)
      exact this
    rw [e, nI_toInt (by omega)]
    omega
  rw [key]
theorem isP {z pl : Int32} (hz : ∃ j, j ≤ 8 ∧ z = nI j) : wth pl 0 (z - 1) = 0 ↔ ¬ hasP z pl := by
  obtain ⟨j, hj, rfl⟩ := hz
  rw [wth_eq0]
  have e : (nI j - 1).toInt = (j : Int) - 1 := pk_sub_toInt (a := j) (b := 1) (by omega) (by decide)
  have e8 : (8 : Int32).toInt = 8 := rfl
  have key : (0 ≤ pl ∧ pl ≤ nI j - 1) ↔ hasP (nI j) pl := by
    unfold hasP
    simp only [Int32.le_iff_toInt_le, Int32.lt_iff_toInt_lt]
    rw [e, nI_toInt (by omega), e8]
    constructor
    · intro ⟨h1, h2⟩; exact ⟨h1, by omega, by omega⟩
    · intro ⟨h1, h2, h3⟩; exact ⟨h1, by omega⟩
  rw [key]
