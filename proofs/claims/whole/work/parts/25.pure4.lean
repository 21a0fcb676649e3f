abbrev Ans : Type := Int32 × Nat × St
abbrev okL (σ : St) (lo : Int32) : Prop := 0 ≤ lo ∧ lo < nI (s_n σ)
abbrev okS (ks : Int32) : Prop := 0 ≤ ks ∧ ks < 4
theorem okL_iff {σ : St} {lo : Int32} (h : s_n σ ≤ 20) : okL σ lo ↔ vp_in lo (s_n σ) := by
  constructor
  · intro h2
    exact Classical.byContradiction (fun h3 => by
      have h3 : ¬ vp_in lo (s_n σ) := h3
      rw [vp_no (by omega)] at h3
      rcases h3 with h3 | h3
      · exact Int32.not_lt.mpr h2.1 h3
      · exact Int32.not_le.mpr h2.2 h3)
  · intro h2
    obtain ⟨j, hj, rfl⟩ := vp_in_of h2 (by omega)
    exact ⟨nI_pos' (by omega), nI_lt hj (by omega)⟩
theorem okL_i {σ : St} {lo : Int32} (h : s_n σ ≤ 20) (h2 : okL σ lo) : ∃ i, i < s_n σ ∧ lo = nI i := vp_in_of ((okL_iff h).mp h2) (by omega)
theorem okL_n {σ : St} {lo : Int32} (h : s_n σ ≤ 20) (h2 : ¬ okL σ lo) : ¬ vp_in lo (s_n σ) := fun h3 => h2 ((okL_iff h).mpr h3)
theorem okS_iff {ks : Int32} : okS ks ↔ vp_in ks 4 := by
  constructor
  · intro h2
    exact Classical.byContradiction (fun h3 => by
      have h3 : ¬ vp_in ks 4 := h3
      rw [vp_no (by omega)] at h3
      rcases h3 with h3 | h3
      · exact Int32.not_lt.mpr h2.1 h3
      · exact Int32.not_le.mpr h2.2 h3)
  · intro h2
    obtain ⟨j, hj, rfl⟩ := vp_in_of h2 (by omega)
    exact ⟨nI_pos' (by omega), nI_lt (b := 4) hj (by omega)⟩
theorem okS_k {ks : Int32} (h2 : okS ks) : ∃ k, k < 4 ∧ ks = nI k := vp_in_of (okS_iff.mp h2) (by omega)
theorem okS_n {ks : Int32} (h2 : ¬ okS ks) : ¬ vp_in ks 4 := fun h3 => h2 (okS_iff.mpr h3)
theorem cl20 {σ : St} {i : Nat} (h : s_n σ ≤ 20) (hi : i < s_n σ) : (nI i).toNatClampNeg = i := nI_clamp (by omega)
theorem cl4 {k : Nat} (h : k < 4) : (nI k).toNatClampNeg = k := nI_clamp (by omega)
def okA (o : Ans) (r : Int32) (u : St) : Prop := o.2.1 = 0 ∧ r = o.1 ∧ u = o.2.2
def exA (X : Nat → String → Prop) (o : Ans) (E : String) (u : St) : Prop := X o.2.1 E ∧ u = o.2.2
theorem okA_of {o : Ans} {r : Int32} {u : St} (e : o = (r, 0, u)) : okA o r u := by subst e; exact ⟨rfl, rfl, rfl⟩
theorem exA_of {X : Nat → String → Prop} {o : Ans} {E : String} {u : St} {a : Int32} {n : Nat} (e : o = (a, n, u)) (h : X n E) : exA X o E u := by subst e; exact ⟨h, rfl⟩
def eISE (w : Nat) (E : String) : Prop := w = 1 ∧ E = "java/lang/IllegalStateException"
def eARI (w : Nat) (E : String) : Prop := w = 1 ∧ E = "java/lang/ArithmeticException"
def eNAS (w : Nat) (E : String) : Prop := w = 1 ∧ E = "java/lang/NegativeArraySizeException"
abbrev w600 (m : Int32) : Prop := 0 ≤ m ∧ m ≤ 600
abbrev w400 (m : Int32) : Prop := 0 ≤ m ∧ m ≤ 400
def aRest (σ : St) (lo mi : Int32) : Ans := if okL σ lo then (if w600 mi then (if fRest (s_k σ lo.toNatClampNeg) lo.toNatClampNeg mi σ then (0, 1, rRest (s_k σ lo.toNatClampNeg) lo.toNatClampNeg mi σ) else (s_F (rRest (s_k σ lo.toNatClampNeg) lo.toNatClampNeg mi σ) 4 lo.toNatClampNeg, 0, rRest (s_k σ lo.toNatClampNeg) lo.toNatClampNeg mi σ)) else (-102, 0, σ)) else (-101, 0, σ)
def aFold (σ : St) (lo : Int32) : Ans := if okL σ lo then (s_F (rFold (s_k σ lo.toNatClampNeg) lo.toNatClampNeg σ) 5 lo.toNatClampNeg, 0, rFold (s_k σ lo.toNatClampNeg) lo.toNatClampNeg σ) else (-101, 0, σ)
def aBake (σ : St) (lo ht : Int32) : Ans := if okL σ lo then (if w400 ht then (vBake (s_k σ lo.toNatClampNeg) lo.toNatClampNeg ht σ, 0, rBake (s_k σ lo.toNatClampNeg) lo.toNatClampNeg ht σ) else (-102, 0, σ)) else (-101, 0, σ)
def aWorth (σ : St) (lo : Int32) : Ans := if okL σ lo then (if fWorth (s_k σ lo.toNatClampNeg) lo.toNatClampNeg σ then (0, 1, rWorth (s_k σ lo.toNatClampNeg) lo.toNatClampNeg σ) else (vWorth (s_k σ lo.toNatClampNeg) lo.toNatClampNeg σ, 0, rWorth (s_k σ lo.toNatClampNeg) lo.toNatClampNeg σ)) else (-101, 0, σ)
def vCost (kd i : Nat) (σ : St) : Int32 := if kd = 5 then vWorth kd i σ + 7 else vWorth kd i σ + vWorth kd i σ / 10
abbrev sold (kd : Nat) : Prop := 4 ≤ kd
def aCost (σ : St) (lo : Int32) : Ans := if okL σ lo then (if sold (s_k σ lo.toNatClampNeg) then (if fWorth (s_k σ lo.toNatClampNeg) lo.toNatClampNeg σ then (0, 1, rWorth (s_k σ lo.toNatClampNeg) lo.toNatClampNeg σ) else (vCost (s_k σ lo.toNatClampNeg) lo.toNatClampNeg σ, 0, rWorth (s_k σ lo.toNatClampNeg) lo.toNatClampNeg σ)) else (-103, 0, σ)) else (-101, 0, σ)
def chg (co v : Int32) : Int32 := if 0 ≤ co - v then co - v else -1
def aChange (σ : St) (lo co : Int32) : Ans := if okL σ lo then (if 0 ≤ co ∧ co ≤ 100000 then (if sold (s_k σ lo.toNatClampNeg) then (if fWorth (s_k σ lo.toNatClampNeg) lo.toNatClampNeg σ then (0, 1, rWorth (s_k σ lo.toNatClampNeg) lo.toNatClampNeg σ) else (chg co (vCost (s_k σ lo.toNatClampNeg) lo.toNatClampNeg σ), 0, rWorth (s_k σ lo.toNatClampNeg) lo.toNatClampNeg σ)) else (-103, 0, σ)) else (-102, 0, σ)) else (-101, 0, σ)
def aAt (σ : St) (ks pl : Int32) : Ans := if okS ks then (if hasP (s_z σ ks.toNatClampNeg) pl then s_r σ ks.toNatClampNeg pl.toNatClampNeg else -1, 0, σ) else (-102, 0, σ)
def aPlaces (σ : St) (ks : Int32) : Ans := if okS ks then (s_z σ ks.toNatClampNeg, 0, σ) else (-102, 0, σ)
def aTell (σ : St) (lo wh : Int32) : Ans := if okL σ lo then (if wh = 0 then nI (s_k σ lo.toNatClampNeg) else if wh = 1 then s_F σ 3 lo.toNatClampNeg else if wh = 2 then s_F σ 4 lo.toNatClampNeg else if wh = 3 then s_F σ 5 lo.toNatClampNeg else if wh = 4 then s_F σ 6 lo.toNatClampNeg else if wh = 5 then s_F σ 7 lo.toNatClampNeg else -102, 0, σ) else (-101, 0, σ)
def aCount (σ : St) (wh : Int32) : Ans := (if wh = 0 then nI (s_n σ) else if wh = 1 then nI (s_N σ) else if wh = 2 then s_c σ 4 else if wh = 3 then s_c σ 5 else if wh = 4 then s_c σ 6 else -102, 0, σ)
def aOut (σ : St) (ks : Int32) : Ans := if okS ks then (if s_z σ ks.toNatClampNeg = -1 then (0, 0, σ) else (1, 0, sZ ks.toNatClampNeg (-1) σ)) else (-102, 0, σ)
def aShelf (σ : St) (ks nn : Int32) : Ans := if okS ks ∧ nn ≤ 8 then (if nn < 0 then (0, 1, σ) else (nn, 0, clr ks.toNatClampNeg (sZ ks.toNatClampNeg nn σ) 8)) else (-102, 0, σ)
def aBook (σ : St) (ix : Int32) : Ans := (if 0 ≤ ix ∧ ix < kp (s_N σ) then s_g σ ((s_N σ - 1 - ix.toNatClampNeg) % 100) else -1, 0, σ)
theorem geoF (kd i : Nat) (σ : St) : s_n (rFold kd i σ) = s_n σ ∧ s_k (rFold kd i σ) = s_k σ ∧ s_a (rFold kd i σ) = s_a σ := by
  unfold rFold; split
  · exact ⟨rfl, rfl, rfl⟩
  · split
    · exact ⟨rfl, rfl, rfl⟩
    · split <;> exact ⟨rfl, rfl, rfl⟩
theorem geoW (kd i : Nat) (σ : St) : s_n (rWorth kd i σ) = s_n σ ∧ s_k (rWorth kd i σ) = s_k σ ∧ s_a (rWorth kd i σ) = s_a σ := by
  unfold rWorth; split
  · exact ⟨rfl, rfl, rfl⟩
  · split
    · exact ⟨rfl, rfl, rfl⟩
    · split
      · exact ⟨rfl, rfl, rfl⟩
      · split
        · split <;> exact ⟨rfl, rfl, rfl⟩
        · exact ⟨rfl, rfl, rfl⟩
theorem geoB (kd i : Nat) (ht : Int32) (σ : St) : s_n (rBake kd i ht σ) = s_n σ ∧ s_k (rBake kd i ht σ) = s_k σ ∧ s_a (rBake kd i ht σ) = s_a σ := by
  unfold rBake; split
  · exact ⟨rfl, rfl, rfl⟩
  · split
    · exact ⟨rfl, rfl, rfl⟩
    · split
      · exact ⟨rfl, rfl, rfl⟩
      · split <;> exact ⟨rfl, rfl, rfl⟩
theorem geoR (kd i : Nat) (mi : Int32) (σ : St) : s_n (rRest kd i mi σ) = s_n σ ∧ s_k (rRest kd i mi σ) = s_k σ ∧ s_a (rRest kd i mi σ) = s_a σ := by
  unfold rRest; split
  · exact ⟨rfl, rfl, rfl⟩
  · split
    · exact ⟨rfl, rfl, rfl⟩
    · split
      · exact ⟨rfl, rfl, rfl⟩
      · split
        · split <;> exact ⟨rfl, rfl, rfl⟩
        · exact ⟨rfl, rfl, rfl⟩
theorem kw_dg {G : Nat → Nat} {Q : Nat → ClassId} {σ u : St} {i : Nat} (e : s_n u = s_n σ ∧ s_k u = s_k σ ∧ s_a u = s_a σ) (h : i < s_n σ) : (kw G Q u)[13 + i]? = some (s_a σ i, .inr (4 + s_k σ i, [.ref (G 1), .int (nI i), .int (nI (s_k σ i)), .int (s_F u 3 i), .int (s_F u 4 i), .int (s_F u 5 i), .int (s_F u 6 i), .int (s_F u 7 i)])) := by
  rw [kw_d u (by rw [e.1]; exact h), ← e.2.1, ← e.2.2]; rfl
theorem sold_w {kd : Nat} (h : kd < 8) : wth (nI kd) 4 7 = 0 ↔ ¬ sold kd := by
  rw [wth_eq0, show (4 : Int32) = nI 4 from rfl, show (7 : Int32) = nI 7 from rfl, nI_leI (by decide) (by omega), nI_leI (by omega) (by decide)]
  constructor <;> intro h2 h3 <;> omega
theorem i_ne {x : Int32} {n : Int} (y : Int32) (hy : y.toInt = n) (h : ¬ x = y) : x.toInt ≠ n := fun e => h (Int32.toInt_inj.mp (e.trans hy.symm))
theorem sw_o5 {x : Int32} (h0 : ¬ x = 0) (h1 : ¬ x = 1) (h2 : ¬ x = 2) (h3 : ¬ x = 3) (h4 : ¬ x = 4) (h5 : ¬ x = 5) : x.toInt < 0 ∨ 5 < x.toInt := by
  have a0 := i_ne (n := 0) 0 rfl h0
  have a1 := i_ne (n := 1) 1 rfl h1
  have a2 := i_ne (n := 2) 2 rfl h2
  have a3 := i_ne (n := 3) 3 rfl h3
  have a4 := i_ne (n := 4) 4 rfl h4
  have a5 := i_ne (n := 5) 5 rfl h5
  omega
theorem sw_o4 {x : Int32} (h0 : ¬ x = 0) (h1 : ¬ x = 1) (h2 : ¬ x = 2) (h3 : ¬ x = 3) (h4 : ¬ x = 4) : x.toInt < 0 ∨ 4 < x.toInt := by
  have a0 := i_ne (n := 0) 0 rfl h0
  have a1 := i_ne (n := 1) 1 rfl h1
  have a2 := i_ne (n := 2) 2 rfl h2
  have a3 := i_ne (n := 3) 3 rfl h3
  have a4 := i_ne (n := 4) 4 rfl h4
  omega
theorem b01_or {b : Prop} [Decidable b] : b01 b = 0 ∨ b01 b = 1 := by unfold b01; split <;> simp
theorem vBake_or {kd i : Nat} {ht : Int32} {σ : St} : vBake kd i ht σ = 0 ∨ vBake kd i ht σ = 1 := by
  unfold vBake; split
  · exact b01_or
  · split <;> exact b01_or
theorem k5 {kd : Nat} (h : kd < 8) : nI kd = 5 ↔ kd = 5 := nI_eq (b := 5) (by omega) (by decide)
theorem row_a {N t : Nat} (h : t < min N 100) (ht : t ≤ (N - 1) % 100) : nx N - 1 - nI t = nI ((N - 1 - t) % 100) := by
  rw [nx_of, if_neg (by omega), nI_pred, pk_sub ht]; congr 1; omega
theorem row_b {N t : Nat} (h : t < min N 100) (ht : ¬ t ≤ (N - 1) % 100) : nx N - 1 - nI t < 0 ∧ nx N - 1 - nI t + 100 = nI ((N - 1 - t) % 100) := by
  rw [nx_of, if_neg (by omega), nI_pred]
  refine ⟨pk_sneg (by omega) (by omega), ?_⟩
  rw [show nI ((N - 1) % 100) - nI t + 100 = nI ((N - 1) % 100) + nI 100 - nI t by
    rw [show (100 : Int32) = nI 100 from rfl]; simp only [Int32.sub_eq_add_neg]; rw [Int32.add_assoc, Int32.add_assoc, Int32.add_comm (-nI t)], nI_add, pk_sub (by omega)]
  congr 1; omega
theorem kp_i {N : Nat} {ix : Int32} (h : 0 ≤ ix ∧ ix < kp N) : ∃ t, t < min N 100 ∧ ix = nI t := by
  obtain ⟨t, ht, rfl⟩ := nI_of (x := ix) (Int32.not_lt.mpr h.1)
  have h2 := h.2
  unfold kp at h2
  rw [nI_ltI (by omega) (by omega)] at h2
  exact ⟨t, h2, rfl⟩
