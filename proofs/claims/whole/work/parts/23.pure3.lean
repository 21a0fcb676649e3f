/-! the acts by the kinds, and what the calls answer -/
abbrev fRest (kd i : Nat) (mi : Int32) (σ : St) : Prop := kd = 5 ∧ 90 ≤ s_F (pR5a i mi σ) 4 i
def rRest (kd i : Nat) (mi : Int32) (σ : St) : St := if kd = 2 then pR2 i mi σ else if kd = 4 then pR4 i mi σ else if kd = 7 then pR7 i mi σ else if kd = 5 then (if 90 ≤ s_F (pR5a i mi σ) 4 i then pR5f i mi σ else pR5a i mi σ) else pR0 i mi σ
def rFold (kd i : Nat) (σ : St) : St := if kd = 3 ∨ kd = 5 then pF3 i σ else if kd = 4 ∨ kd = 7 then pF4 i σ else if kd = 6 then pF6 i σ else pF0 i σ
def rBake (kd i : Nat) (ht : Int32) (σ : St) : St := if kd = 2 then pB2 i ht σ else if kd = 3 ∨ kd = 5 then pB3 i ht σ else if kd = 4 ∨ kd = 7 then pB4 i ht σ else if kd = 6 then pB6 i ht σ else pB0 i ht σ
def vBake (kd i : Nat) (ht : Int32) (σ : St) : Int32 := if kd = 3 ∨ kd = 5 then b01 (20 ≤ s_F (pB3 i ht σ) 7 i ∧ s_F (pB3 i ht σ) 7 i ≤ 60) else if kd = 4 ∨ kd = 7 then b01 (20 ≤ s_F (pB4 i ht σ) 7 i ∨ 5 < s_F (pB4 i ht σ) 6 i) else b01 (20 ≤ s_F (rBake kd i ht σ) 7 i)
theorem vBake_nar {kd i : Nat} {ht : Int32} {σ : St} : narrow .boolean (.int (vBake kd i ht σ)) = .int (vBake kd i ht σ) := by
  unfold vBake; split
  · exact b01_nar
  · split <;> exact b01_nar
abbrev fWorth (kd i : Nat) (σ : St) : Prop := kd = 6 ∧ s_F σ 7 i = 0
def rWorth (kd i : Nat) (σ : St) : St := if kd = 4 then pW4 σ else if kd = 7 then pW7 σ else if kd = 5 then pW5 σ else if kd = 6 then (if s_F σ 7 i = 0 then pW6f σ else sBeg 4 6 σ) else sBeg 4 0 σ
def vWorth (kd i : Nat) (σ : St) : Int32 := if kd = 4 then vW0 i σ + s_F σ 6 i else if kd = 7 then vW0 i σ + s_F σ 6 i + (if 20 ≤ s_F σ 7 i then 5 else 0) else if kd = 5 then 2 * vW0 i σ else if kd = 6 then (if s_F σ 7 i = 0 then 0 else 1000 / s_F σ 7 i) else vW0 i σ
def layW (z pl : Int32) : Nat := if z = -1 then 1 else if hasP z pl then 0 else 2
def wLay (kd : Nat) (z pl : Int32) : Nat := if kd = 5 then (if layW z pl = 0 then layW z (pl + 1) else layW z pl) else if kd = 6 then layW z (pl / 2) else layW z pl
def lay0 (i k : Nat) (pl : Int32) (σ : St) : St := if layW (s_z σ k) pl = 0 then pL0 i k pl σ else sBeg 2 0 σ
def sLay (kd i k : Nat) (pl : Int32) (σ : St) : St := if kd = 5 then (if layW (s_z σ k) pl = 0 then lay0 i k (pl + 1) (lay0 i k pl (sBeg 2 5 σ)) else lay0 i k pl (sBeg 2 5 σ)) else if kd = 6 then lay0 i k (pl / 2) (sBeg 2 6 σ) else if kd = 7 then lay0 i k pl (pF4 i (sBeg 2 7 σ)) else lay0 i k pl σ
def missd (σ : St) : St := sC 5 (s_c σ 5 + 1) σ
theorem layW_0 {z pl : Int32} (h1 : ¬ z = -1) (h2 : hasP z pl) : layW z pl = 0 := by simp [layW, h1, h2]
theorem layE_1 {z pl : Int32} {E : String} (h : layE z pl E) : (layW z pl = 1 ∧ E = "java/lang/NullPointerException") ∨ (layW z pl = 2 ∧ E = "java/lang/ArrayIndexOutOfBoundsException") := by
  rcases h with ⟨h1, h2⟩ | ⟨h1, h2, h3⟩
  · exact Or.inl ⟨by simp [layW, h1], h2⟩
  · exact Or.inr ⟨by simp [layW, h1, h2], h3⟩
theorem layE_n {z pl : Int32} {E : String} (h : layE z pl E) : ¬ layW z pl = 0 := by
  rcases layE_1 h with ⟨h, -⟩ | ⟨h, -⟩ <;> omega
abbrev ecode (w : Nat) (E : String) : Prop := (w = 1 ∧ E = "java/lang/NullPointerException") ∨ (w = 2 ∧ E = "java/lang/ArrayIndexOutOfBoundsException")
/-- what always holds; b rules may still begin -/
def Inv (b : Nat) (σ : St) : Prop := s_n σ ≤ 20 ∧ (∀ i, i < s_n σ → s_k σ i < 8) ∧ (∀ k, k < 4 → s_z σ k = -1 ∨ ∃ j, j ≤ 8 ∧ s_z σ k = nI j) ∧ (∀ i, ∃ a, a ≤ s_N σ ∧ s_F σ 6 i = nI a) ∧ s_N σ + b < 2 ^ 20 ∧ (∀ k, k < 4 → ∀ j, j < 8 → ¬ s_z σ k = -1 → s_r σ k j = -1 ∨ ∃ i, i < s_n σ ∧ s_r σ k j = nI i) ∧ (∀ f i, s_n σ ≤ i → 4 ≤ f → s_F σ f i = 0) ∧ (∀ i, s_n σ ≤ i → s_k σ i = 0) ∧ (∀ i, ∃ a, a ≤ s_N σ ∧ s_F σ 5 i = nI a) ∧ (∀ i, ∃ a, a ≤ 2000 ∧ s_F σ 3 i = nI a)
theorem Inv.n {b : Nat} {σ : St} (h : Inv b σ) : s_n σ ≤ 20 := h.1
theorem Inv.k {b : Nat} {σ : St} (h : Inv b σ) {i : Nat} (hi : i < s_n σ) : s_k σ i < 8 := h.2.1 i hi
theorem Inv.ac {b : Nat} {σ : St} (h : Inv b σ) (i : Nat) : ∃ a, s_F σ 6 i = nI a ∧ a < 2 ^ 30 := by
  obtain ⟨a, h1, h2⟩ := h.2.2.2.1 i
  exact ⟨a, h2, by have := h.2.2.2.2.1; omega⟩
theorem vp_no {x : Int32} {n : Nat} (hn : n < 2 ^ 31) : ¬ vp_in x n ↔ x < 0 ∨ nI n ≤ x := by
  constructor
  · intro h
    rcases pk_ix x hn with h1 | h1 | ⟨j, hj, rfl⟩
    · exact Or.inl h1
    · exact Or.inr h1
    · exact absurd (vp_in_nI hj hn) h
  · intro h h2
    obtain ⟨j, hj, rfl⟩ := vp_in_of h2 hn
    rcases h with h | h
    · exact nI_pos (by omega) h
    · exact nI_ge hj hn h
theorem wth_nI {j a b : Nat} (h1 : a ≤ j) (h2 : j ≤ b) (hb : b < 2 ^ 31) : ¬ wth (nI j) (nI a) (nI b) = 0 := by
  rw [wth_eq0]; exact fun h => h ⟨nI_le h1 (by omega), nI_le h2 hb⟩
theorem wth_of {x : Int32} {b : Nat} (hb : b + 1 < 2 ^ 31) (h : ¬ vp_in x (b + 1)) : wth x 0 (nI b) = 0 := by
  rw [wth_eq0]
  rw [vp_no hb] at h
  intro ⟨h1, h2⟩
  rcases h with h | h
  · exact Int32.not_lt.mpr h1 h
  · obtain ⟨j, hj, rfl⟩ := nI_of (x := x) (Int32.not_lt.mpr h1)
    rw [nI_leI (by omega) (by omega)] at h2
    rw [nI_leI (by omega) (by omega)] at h
    omega
theorem lay0_p {i k : Nat} {pl : Int32} {σ : St} (h : layW (s_z σ k) pl = 0) : lay0 i k pl σ = pL0 i k pl σ := by unfold lay0; rw [if_pos h]
theorem lay0_n {i k : Nat} {pl : Int32} {σ : St} (h : ¬ layW (s_z σ k) pl = 0) : lay0 i k pl σ = sBeg 2 0 σ := by unfold lay0; rw [if_neg h]
theorem wLay_o {kd : Nat} {z pl : Int32} (h5 : ¬ kd = 5) (h6 : ¬ kd = 6) : wLay kd z pl = layW z pl := by unfold wLay; rw [if_neg h5, if_neg h6]
theorem wLay_6 {z pl : Int32} : wLay 6 z pl = layW z (pl / 2) := rfl
theorem wLay_5p {z pl : Int32} (h : layW z pl = 0) : wLay 5 z pl = layW z (pl + 1) := by unfold wLay; rw [if_pos rfl, if_pos h]
theorem wLay_5n {z pl : Int32} (h : ¬ layW z pl = 0) : wLay 5 z pl = layW z pl := by unfold wLay; rw [if_pos rfl, if_neg h]
theorem sLay_o {kd i k : Nat} {pl : Int32} {σ : St} (h5 : ¬ kd = 5) (h6 : ¬ kd = 6) (h7 : ¬ kd = 7) : sLay kd i k pl σ = lay0 i k pl σ := by unfold sLay; rw [if_neg h5, if_neg h6, if_neg h7]
theorem sLay_6 {i k : Nat} {pl : Int32} {σ : St} : sLay 6 i k pl σ = lay0 i k (pl / 2) (sBeg 2 6 σ) := rfl
theorem sLay_7 {i k : Nat} {pl : Int32} {σ : St} : sLay 7 i k pl σ = lay0 i k pl (pF4 i (sBeg 2 7 σ)) := rfl
theorem sLay_5p {i k : Nat} {pl : Int32} {σ : St} (h : layW (s_z σ k) pl = 0) : sLay 5 i k pl σ = lay0 i k (pl + 1) (pL0 i k pl (sBeg 2 5 σ)) := by
  unfold sLay; rw [if_pos rfl, if_pos h, lay0_p (σ := sBeg 2 5 σ) h]
theorem sLay_5n {i k : Nat} {pl : Int32} {σ : St} (h : ¬ layW (s_z σ k) pl = 0) : sLay 5 i k pl σ = sBeg 2 0 (sBeg 2 5 σ) := by
  unfold sLay; rw [if_pos rfl, if_neg h, lay0_n (σ := sBeg 2 5 σ) h]
theorem pLf_eq {σ : St} : pLf σ = missd (sBeg 2 0 σ) := rfl
section WideV
variable {p : Program} {l : Launch} {e : Env} {R : Room} {s : State} {m : MethodId} {args : Array Value} {below : List Frame} {meth : Method} {c : Code} {H : Heap} {locs : List Loc} {cells slots : Nat}
theorem i0 : (0 : Int32) = nI 0 := rfl
end WideV
