def pO (σ : St) (lf : Int32) : Nat → Int32
  | 0 => 0
  | k + 1 => pO σ lf k + tO σ k lf 8
def aLay (σ : St) (lo ks pl : Int32) : Ans := if okL σ lo then (if okS ks then (if wLay (s_k σ lo.toNatClampNeg) (s_z σ ks.toNatClampNeg) pl = 0 then (pO (sLay (s_k σ lo.toNatClampNeg) lo.toNatClampNeg ks.toNatClampNeg pl σ) lo 4, 0, sLay (s_k σ lo.toNatClampNeg) lo.toNatClampNeg ks.toNatClampNeg pl σ) else (0, wLay (s_k σ lo.toNatClampNeg) (s_z σ ks.toNatClampNeg) pl, missd (sLay (s_k σ lo.toNatClampNeg) lo.toNatClampNeg ks.toNatClampNeg pl σ))) else (-102, 0, σ)) else (-101, 0, σ)
def eLAY (w : Nat) (E : String) : Prop := ecode w E
theorem ecode_n {w : Nat} {E : String} (h : ecode w E) : ¬ w = 0 := by rcases h with ⟨h, -⟩ | ⟨h, -⟩ <;> omega
def lfAt (σ : St) (k j : Nat) : Int32 := if hasP (s_z σ k) (nI j) then s_r σ k j else -1
def bkS (k j : Nat) (ht : Int32) (q : Int32 × St) : Int32 × St := if okL q.2 (lfAt q.2 k j) then (q.1 + vBake (s_k q.2 (lfAt q.2 k j).toNatClampNeg) (lfAt q.2 k j).toNatClampNeg ht q.2, rBake (s_k q.2 (lfAt q.2 k j).toNatClampNeg) (lfAt q.2 k j).toNatClampNeg ht q.2) else q
def bkI (k : Nat) (ht : Int32) (q : Int32 × St) : Nat → Int32 × St
  | 0 => q
  | j + 1 => bkS k j ht (bkI k ht q j)
def fiI (ht : Int32) (σ : St) : Nat → Int32 × St
  | 0 => (0, σ)
  | k + 1 => ((fiI ht σ k).1 + (bkI k ht (0, (fiI ht σ k).2) 8).1, (bkI k ht (0, (fiI ht σ k).2) 8).2)
def aFire (σ : St) (ht : Int32) : Ans := if w400 ht then ((fiI ht σ 4).1, 0, (fiI ht σ 4).2) else (-102, 0, σ)
def niS (j : Nat) (mi : Int32) (q : Int32 × St) : Int32 × St := if j < s_n q.2 then (q.1 + b01 (fRest (s_k q.2 j) j mi q.2), rRest (s_k q.2 j) j mi q.2) else q
def niI (mi : Int32) (σ : St) : Nat → Int32 × St
  | 0 => (0, σ)
  | j + 1 => niS j mi (niI mi σ j)
def aNight (σ : St) (mi : Int32) : Ans := if w600 mi then ((niI mi σ 20).1, 0, (niI mi σ 20).2) else (-102, 0, σ)
/-- the loaves, their kinds and addresses are the same -/
def geo (u σ : St) : Prop := s_n u = s_n σ ∧ s_k u = s_k σ ∧ s_a u = s_a σ
theorem geo.rf {σ : St} : geo σ σ := ⟨rfl, rfl, rfl⟩
theorem geo.tr {a b c : St} (h : geo a b) (g : geo b c) : geo a c := ⟨h.1.trans g.1, h.2.1.trans g.2.1, h.2.2.trans g.2.2⟩
theorem bkS_geo (k j : Nat) (ht : Int32) (q : Int32 × St) : geo (bkS k j ht q).2 q.2 := by
  unfold bkS; split
  · exact geoB _ _ _ _
  · exact geo.rf
theorem bkI_geo (k : Nat) (ht : Int32) (q : Int32 × St) (j : Nat) : geo (bkI k ht q j).2 q.2 := by
  induction j with
  | zero => exact geo.rf
  | succ j ih => exact (bkS_geo k j ht _).tr ih
theorem fiI_geo (ht : Int32) (σ : St) (k : Nat) : geo (fiI ht σ k).2 σ := by
  induction k with
  | zero => exact geo.rf
  | succ k ih =>
    have h := bkI_geo k ht (0, (fiI ht σ k).2) 8
    rw [fiI]
    generalize bkI k ht (0, (fiI ht σ k).2) 8 = w at h ⊢
    exact h.tr ih
theorem niS_geo (j : Nat) (mi : Int32) (q : Int32 × St) : geo (niS j mi q).2 q.2 := by
  unfold niS; split
  · exact geoR _ _ _ _
  · exact geo.rf
theorem niI_geo (mi : Int32) (σ : St) (j : Nat) : geo (niI mi σ j).2 σ := by
  induction j with
  | zero => exact geo.rf
  | succ j ih => exact (niS_geo j mi _).tr ih
theorem geo.N {u σ : St} (h : geo u σ) (hN : s_n σ ≤ 20) : s_n u ≤ 20 := by rw [h.1]; exact hN
theorem geo.K {u σ : St} (h : geo u σ) (hK : ∀ i, i < s_n σ → s_k σ i < 8) : ∀ i, i < s_n u → s_k u i < 8 := by rw [h.1, h.2.1]; exact hK
theorem bkS_p {k j i : Nat} {ht : Int32} {q : Int32 × St} (h : okL q.2 (lfAt q.2 k j)) (hx : lfAt q.2 k j = nI i) (hc : (nI i).toNatClampNeg = i) : bkS k j ht q = (q.1 + vBake (s_k q.2 i) i ht q.2, rBake (s_k q.2 i) i ht q.2) := by
  unfold bkS; rw [if_pos h, hx, hc]
theorem bkS_n {k j : Nat} {ht : Int32} {q : Int32 × St} (h : ¬ okL q.2 (lfAt q.2 k j)) : bkS k j ht q = q := by unfold bkS; rw [if_neg h]
theorem niS_p {j : Nat} {mi : Int32} {q : Int32 × St} (h : j < s_n q.2) : niS j mi q = (q.1 + b01 (fRest (s_k q.2 j) j mi q.2), rRest (s_k q.2 j) j mi q.2) := by unfold niS; rw [if_pos h]
theorem niS_n {j : Nat} {mi : Int32} {q : Int32 × St} (h : ¬ j < s_n q.2) : niS j mi q = q := by unfold niS; rw [if_neg h]
theorem lfAt_c {σ : St} {k j : Nat} (h : j < 8) : (if hasP (s_z σ k) (nI j) then s_r σ k (nI j).toNatClampNeg else -1) = lfAt σ k j := by rw [row_clamp h]; rfl
