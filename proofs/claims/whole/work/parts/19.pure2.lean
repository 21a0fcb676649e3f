/-! the rules, as functions of the state (class and reference alike) -/
def m100 (x : Int32) : Int32 := if 100 < x then 100 else x
def pR0 (i : Nat) (mi : Int32) (σ : St) : St := sF 4 i (m100 (s_F σ 4 i + mi / 6)) (sBeg 0 0 σ)
def pR2 (i : Nat) (mi : Int32) (σ : St) : St := pR0 i (mi / 2) (sBeg 0 2 σ)
def pR4 (i : Nat) (mi : Int32) (σ : St) : St := pR2 i mi (sF 6 i (s_F σ 6 i + 1) (sBeg 0 4 σ))
def pR7 (i : Nat) (mi : Int32) (σ : St) : St := pR4 i (mi + s_F σ 6 i) (sBeg 0 7 σ)
def pR5a (i : Nat) (mi : Int32) (σ : St) : St := pR0 i mi (sBeg 0 5 σ)
def pR5f (i : Nat) (mi : Int32) (σ : St) : St := sC 4 (s_c σ 4 + 1) (sF 4 i 10 (pR5a i mi σ))
def pF0 (i : Nat) (σ : St) : St := sF 5 i (s_F σ 5 i + 1) (sF 4 i (s_F σ 4 i / 2) (sBeg 1 0 σ))
def pF3 (i : Nat) (σ : St) : St := pF0 i (pF0 i (sBeg 1 3 σ))
def dec0 (x : Int32) : Int32 := if 0 < x then x - 1 else 0
def pF4 (i : Nat) (σ : St) : St := sF 6 i (dec0 (s_F σ 6 i)) (pF0 i (sBeg 1 4 σ))
def pF6 (i : Nat) (σ : St) : St := sF 5 i (s_F σ 5 i + 1) (sBeg 1 6 σ)
def pB0 (i : Nat) (ht : Int32) (σ : St) : St := sF 7 i (s_F σ 7 i + (ht + s_F σ 4 i) / 10) (sBeg 3 0 σ)
def b01 (b : Prop) [Decidable b] : Int32 := if b then 1 else 0
theorem b01_nar {b : Prop} [Decidable b] : narrow .boolean (.int (b01 b)) = .int (b01 b) := by unfold b01; split <;> rfl
theorem b01_1 {b : Prop} [Decidable b] (h : b) : (1 : Int32) = b01 b := by simp [b01, h]
theorem b01_0 {b : Prop} [Decidable b] (h : ¬ b) : (0 : Int32) = b01 b := by simp [b01, h]
theorem b01_eq0 {b : Prop} [Decidable b] : b01 b = 0 ↔ ¬ b := by unfold b01; split <;> simp_all
def pB2 (i : Nat) (ht : Int32) (σ : St) : St := pB0 i (ht - 30) (sBeg 3 2 σ)
def pB3 (i : Nat) (ht : Int32) (σ : St) : St := pB0 i ht (sBeg 3 3 σ)
def pB4 (i : Nat) (ht : Int32) (σ : St) : St := pB2 i ht (sBeg 3 4 σ)
def pB6 (i : Nat) (ht : Int32) (σ : St) : St := pB0 i (2 * ht) (sBeg 3 6 σ)
def vW0 (i : Nat) (σ : St) : Int32 := s_F σ 3 i / 10 + 2 * s_F σ 5 i
def pW4 (σ : St) : St := sBeg 4 0 (sBeg 4 4 σ)
def pW5 (σ : St) : St := sBeg 4 0 (sBeg 4 5 σ)
def pW7 (σ : St) : St := pW4 (sBeg 4 7 σ)
def pW6f (σ : St) : St := sC 6 (s_c σ 6 + 1) (sBeg 4 6 σ)
/-- whether a shelf has a place -/
abbrev hasP (z pl : Int32) : Prop := 0 ≤ pl ∧ pl < z ∧ pl < 8
def pL0 (i k : Nat) (pl : Int32) (σ : St) : St := sR k pl.toNatClampNeg (nI i) (sBeg 2 0 σ)
def pLf (σ : St) : St := sC 5 (s_c σ 5 + 1) (sBeg 2 0 σ)
theorem acid_max {a : Nat} (h : a < 2 ^ 30) : (if nI a - 1 < 0 then 0 else nI a - 1) = dec0 (nI a) := by
  unfold dec0
  cases a with
  | zero => decide
  | succ a =>
    rw [nI_pred, if_neg (nI_pos (by omega)), if_pos (show (0 : Int32) < nI (a + 1) from nI_lt (a := 0) (b := a + 1) (by omega) (by omega))]
theorem hasP_nI {z pl : Int32} (h : hasP z pl) : ∃ j : Nat, j < 8 ∧ pl = nI j ∧ nI j < z := by
  obtain ⟨j, hj, rfl⟩ := nI_of2 (x := pl) (M := 7) (n := 7) rfl (Int32.not_lt.mpr h.1) (by
    have h2 := h.2.2
    rw [Int32.lt_iff_toInt_lt] at h2
    rw [Int32.le_iff_toInt_le]
    have e8 : (8 : Int32).toInt = 8 := rfl
    have e7 : (7 : Int32).toInt = 7 := rfl
    omega)
  exact ⟨j, by omega, rfl, h.2.1⟩
theorem kw_sC {G : Nat → Nat} {Q : Nat → ClassId} {σ : St} {k : Nat} {v : Int32} (h : k = 4 ∨ k = 5 ∨ k = 6) : (kw G Q σ).set 1 (G 1, .inr (0, [.ref (G 2), .int (nx (s_N σ)), .int (kp (s_N σ)), .int (nI (s_N σ)), .int (s_c σ 4), .int (s_c σ 5), .int (s_c σ 6)].set k (.int v))) = kw G Q (sC k v σ) := by
  rcases h with rfl | rfl | rfl <;> rfl
theorem kw_b {G : Nat → Nat} {Q : Nat → ClassId} (σ : St) : (kw G Q σ)[1]? = some (G 1, .inr (0, [.ref (G 2), .int (nx (s_N σ)), .int (kp (s_N σ)), .int (nI (s_N σ)), .int (s_c σ 4), .int (s_c σ 5), .int (s_c σ 6)])) := rfl
theorem kw_h {G : Nat → Nat} {Q : Nat → ClassId} (σ : St) : (kw G Q σ)[0]? = some (G 0, .inr (2, [.ref (G 1), .ref (G 3), .ref (G 4), .int (nI (s_n σ))])) := rfl
