/-! what always holds is kept -/
def Vr (σ : St) : Prop := ∀ k, k < 4 → ∀ j, j < 8 → ¬ s_z σ k = -1 → s_r σ k j = -1 ∨ ∃ i, i < s_n σ ∧ s_r σ k j = nI i
def Bd (f : Nat) (σ : St) : Prop := ∀ i, ∃ a, a ≤ s_N σ ∧ s_F σ f i = nI a
def Stf (n : Nat) (σ u : St) : Prop := geo u σ ∧ s_z u = s_z σ ∧ s_N u ≤ s_N σ + n ∧ (Bd 5 σ → Bd 5 u) ∧ (Bd 6 σ → Bd 6 u) ∧ s_F u 3 = s_F σ 3 ∧ (∀ f i, s_n σ ≤ i → 4 ≤ f → s_F σ f i = 0 → s_F u f i = 0) ∧ (Vr σ → Vr u)
theorem Stf.inv {b n : Nat} {σ u : St} (h : Inv (b + n) σ) (g : Stf n σ u) : Inv b u := by
  obtain ⟨h1, h2, h3, h4, h5, h6, h7, h8, h9, h10⟩ := h
  obtain ⟨g1, g2, g3, g4, g5, g6, g7, g8⟩ := g
  refine ⟨by rw [g1.1]; exact h1, by rw [g1.1, g1.2.1]; exact h2, by rw [g2]; exact h3, g5 h4, by omega, g8 h6, ?_, by rw [g1.1, g1.2.1]; exact h8, g4 h9, by rw [g6]; exact h10⟩
  intro f i hi hf
  rw [g1.1] at hi
  exact g7 f i hi hf (h7 f i hi hf)
theorem Stf.tr {a b : Nat} {σ u v : St} (h : Stf a σ u) (g : Stf b u v) : Stf (a + b) σ v := by
  obtain ⟨h1, h2, h3, h4, h5, h6, h7, h8⟩ := h
  obtain ⟨g1, g2, g3, g4, g5, g6, g7, g8⟩ := g
  refine ⟨g1.tr h1, g2.trans h2, by omega, fun x => g4 (h4 x), fun x => g5 (h5 x), g6.trans h6, fun f i hi hf e => ?_, fun x => g8 (h8 x)⟩
  exact g7 f i (by rw [h1.1]; exact hi) hf (h7 f i hi hf e)
theorem Stf.mono {a b : Nat} {σ u : St} (h : Stf a σ u) (hab : a ≤ b) : Stf b σ u := by
  obtain ⟨h1, h2, h3, h4⟩ := h
  exact ⟨h1, h2, by omega, h4⟩
theorem Stf.rf {σ : St} : Stf 0 σ σ := ⟨geo.rf, rfl, Nat.le_refl _, id, id, rfl, fun _ _ _ _ h => h, id⟩
theorem stf_beg {a k : Int32} {σ : St} : Stf 1 σ (sBeg a k σ) :=
  ⟨geo.rf, rfl, Nat.le_refl _, fun h i => by obtain ⟨a, h1, h2⟩ := h i; exact ⟨a, Nat.le_succ_of_le h1, h2⟩, fun h i => by obtain ⟨a, h1, h2⟩ := h i; exact ⟨a, Nat.le_succ_of_le h1, h2⟩, rfl, fun _ _ _ _ h => h, id⟩
theorem sF_o {f g i : Nat} {v : Int32} {σ : St} (h : ¬ g = f) : s_F (sF f i v σ) g = s_F σ g := if_neg h
theorem sF_s {f i j : Nat} {v : Int32} {σ : St} : s_F (sF f i v σ) f j = if j = i then v else s_F σ f j := by
  show (if f = f then upd (s_F σ f) i v else s_F σ f) j = _
  rw [if_pos rfl]; rfl
theorem sF_fresh {f i : Nat} {v : Int32} {σ : St} (hi : i < s_n σ) : ∀ g j, s_n σ ≤ j → 4 ≤ g → s_F σ g j = 0 → s_F (sF f i v σ) g j = 0 := by
  intro g j hj _ e
  by_cases h : g = f
  · subst h; rw [sF_s, if_neg (by omega)]; exact e
  · rw [sF_o h]; exact e
theorem stf_F {f i : Nat} {v : Int32} {σ : St} (hf : f = 4 ∨ f = 7) (hi : i < s_n σ) : Stf 0 σ (sF f i v σ) := by
  refine ⟨geo.rf, rfl, Nat.le_refl _, fun h => ?_, fun h => ?_, sF_o (by omega), sF_fresh hi, id⟩
  · unfold Bd; rw [sF_o (g := 5) (by omega)]; exact h
  · unfold Bd; rw [sF_o (g := 6) (by omega)]; exact h
theorem stf_C {j : Nat} {v : Int32} {σ : St} : Stf 0 σ (sC j v σ) := ⟨geo.rf, rfl, Nat.le_refl _, id, id, rfl, fun _ _ _ _ h => h, id⟩
/-- a count grows by one beside a rule that began -/
theorem stf_inc {f i n : Nat} {σ X : St} (hf : f = 5 ∨ f = 6) (hi : i < s_n σ) (h : Stf n σ X) (hs : s_F X f = s_F σ f) (hN : s_N σ + 1 ≤ s_N X) : Stf n σ (sF f i (s_F σ f i + 1) X) := by
  obtain ⟨h1, h2, h3, h4, h5, h6, h7, h8⟩ := h
  have hb : Bd f σ → Bd f (sF f i (s_F σ f i + 1) X) := by
    intro g j
    rw [sF_s]
    by_cases hj : j = i
    · subst hj
      obtain ⟨a, ha, e⟩ := g j
      exact ⟨a + 1, by show a + 1 ≤ s_N X; omega, by rw [if_pos rfl, e, nI_1]⟩
    · rw [if_neg hj, hs]
      obtain ⟨a, ha, e⟩ := g j
      exact ⟨a, by show a ≤ s_N X; omega, e⟩
  refine ⟨h1, h2, h3, ?_, ?_, (sF_o (by omega)).trans h6, fun g j hj hg e => sF_fresh (σ := X) (by rw [h1.1]; exact hi) g j (by rw [h1.1]; exact hj) hg (h7 g j hj hg e), h8⟩
  · rcases hf with rfl | rfl
    · exact hb
    · intro g; have := h4 g; unfold Bd; rw [sF_o (g := 5) (by omega)]; exact this
  · rcases hf with rfl | rfl
    · intro g; have := h5 g; unfold Bd; rw [sF_o (g := 6) (by omega)]; exact this
    · exact hb
theorem dec0_nI {a N : Nat} (h : a ≤ N) (hN : N < 2 ^ 30) : ∃ c, c ≤ N ∧ dec0 (nI a) = nI c := by
  unfold dec0
  cases a with
  | zero => exact ⟨0, by omega, by decide⟩
  | succ a => exact ⟨a, by omega, by rw [if_pos (show (0 : Int32) < nI (a + 1) from nI_lt (a := 0) (b := a + 1) (by omega) (by omega)), nI_pred]⟩
theorem stf_dec {i n : Nat} {σ X : St} (hi : i < s_n σ) (h : Stf n σ X) (hs : s_F X 6 = s_F σ 6) (hN : s_N σ ≤ s_N X) (hb : s_N σ < 2 ^ 30) : Stf n σ (sF 6 i (dec0 (s_F σ 6 i)) X) := by
  obtain ⟨h1, h2, h3, h4, h5, h6, h7, h8⟩ := h
  refine ⟨h1, h2, h3, fun g => ?_, ?_, (sF_o (by omega)).trans h6, fun g j hj hg e => sF_fresh (σ := X) (by rw [h1.1]; exact hi) g j (by rw [h1.1]; exact hj) hg (h7 g j hj hg e), h8⟩
  · have := h4 g; unfold Bd; rw [sF_o (g := 5) (by omega)]; exact this
  · intro g j
    rw [sF_s]
    by_cases hj : j = i
    · subst hj
      obtain ⟨a, ha, e⟩ := g j
      obtain ⟨c, hc, e2⟩ := dec0_nI ha hb
      exact ⟨c, by show c ≤ s_N X; omega, by rw [if_pos rfl, e, e2]⟩
    · rw [if_neg hj, hs]
      obtain ⟨a, ha, e⟩ := g j
      exact ⟨a, by show a ≤ s_N X; omega, e⟩
theorem stf_R0 {i : Nat} {mi : Int32} {σ : St} (hi : i < s_n σ) : Stf 1 σ (pR0 i mi σ) := stf_beg.tr (stf_F (Or.inl rfl) hi)
theorem stf_R2 {i : Nat} {mi : Int32} {σ : St} (hi : i < s_n σ) : Stf 2 σ (pR2 i mi σ) := stf_beg.tr (stf_R0 hi)
theorem stf_R4 {i : Nat} {mi : Int32} {σ : St} (hi : i < s_n σ) : Stf 3 σ (pR4 i mi σ) := (stf_inc (f := 6) (Or.inr rfl) hi (stf_beg (a := 0) (k := 4)) rfl (Nat.le_refl _)).tr (stf_R2 hi)
theorem stf_R7 {i : Nat} {mi : Int32} {σ : St} (hi : i < s_n σ) : Stf 4 σ (pR7 i mi σ) := stf_beg.tr (stf_R4 hi)
theorem stf_R5a {i : Nat} {mi : Int32} {σ : St} (hi : i < s_n σ) : Stf 2 σ (pR5a i mi σ) := stf_beg.tr (stf_R0 hi)
theorem stf_R5f {i : Nat} {mi : Int32} {σ : St} (hi : i < s_n σ) : Stf 2 σ (pR5f i mi σ) := ((stf_R5a hi).tr (stf_F (Or.inl rfl) hi)).tr stf_C
theorem stf_F0 {i : Nat} {σ : St} (hi : i < s_n σ) : Stf 1 σ (pF0 i σ) := stf_inc (f := 5) (Or.inl rfl) hi (stf_beg.tr (stf_F (Or.inl rfl) hi)) rfl (Nat.le_refl _)
theorem stf_F3 {i : Nat} {σ : St} (hi : i < s_n σ) : Stf 3 σ (pF3 i σ) := (stf_beg.tr (stf_F0 hi)).tr (stf_F0 hi)
theorem stf_F4 {i : Nat} {σ : St} (hi : i < s_n σ) (hb : s_N σ < 2 ^ 30) : Stf 2 σ (pF4 i σ) := stf_dec hi (stf_beg.tr (stf_F0 hi)) rfl (Nat.le_add_right _ 2) hb
theorem stf_F6 {i : Nat} {σ : St} (hi : i < s_n σ) : Stf 1 σ (pF6 i σ) := stf_inc (f := 5) (Or.inl rfl) hi stf_beg rfl (Nat.le_refl _)
theorem stf_B0 {i : Nat} {ht : Int32} {σ : St} (hi : i < s_n σ) : Stf 1 σ (pB0 i ht σ) := stf_beg.tr (stf_F (Or.inr rfl) hi)
theorem stf_rest {kd i : Nat} {mi : Int32} {σ : St} (hi : i < s_n σ) : Stf 4 σ (rRest kd i mi σ) := by
  unfold rRest
  split
  · exact (stf_R2 hi).mono (by decide)
  split
  · exact (stf_R4 hi).mono (by decide)
  split
  · exact stf_R7 hi
  split
  · split
    · exact (stf_R5f hi).mono (by decide)
    · exact (stf_R5a hi).mono (by decide)
  exact (stf_R0 hi).mono (by decide)
theorem stf_fold {kd i : Nat} {σ : St} (hi : i < s_n σ) (hb : s_N σ < 2 ^ 30) : Stf 3 σ (rFold kd i σ) := by
  unfold rFold
  split
  · exact stf_F3 hi
  split
  · exact (stf_F4 hi hb).mono (by decide)
  split
  · exact (stf_F6 hi).mono (by decide)
  exact (stf_F0 hi).mono (by decide)
theorem stf_bake {kd i : Nat} {ht : Int32} {σ : St} (hi : i < s_n σ) : Stf 3 σ (rBake kd i ht σ) := by
  unfold rBake
  split
  · exact ((stf_beg (a := 3) (k := 2)).tr (stf_B0 hi)).mono (by decide)
  split
  · exact ((stf_beg (a := 3) (k := 3)).tr (stf_B0 hi)).mono (by decide)
  split
  · exact ((stf_beg (a := 3) (k := 4)).tr ((stf_beg (a := 3) (k := 2)).tr (stf_B0 hi)))
  split
  · exact ((stf_beg (a := 3) (k := 6)).tr (stf_B0 hi)).mono (by decide)
  exact (stf_B0 hi).mono (by decide)
theorem stf_worth {kd i : Nat} {σ : St} : Stf 3 σ (rWorth kd i σ) := by
  unfold rWorth
  split
  · exact ((stf_beg (a := 4) (k := 4)).tr (stf_beg (a := 4) (k := 0))).mono (by decide)
  split
  · exact ((stf_beg (a := 4) (k := 7)).tr ((stf_beg (a := 4) (k := 4)).tr (stf_beg (a := 4) (k := 0))))
  split
  · exact ((stf_beg (a := 4) (k := 5)).tr (stf_beg (a := 4) (k := 0))).mono (by decide)
  split
  · split
    · exact ((stf_beg (a := 4) (k := 6)).tr stf_C).mono (by decide)
    · exact (stf_beg (a := 4) (k := 6)).mono (by decide)
  exact (stf_beg (a := 4) (k := 0)).mono (by decide)
theorem stf_R {i k j : Nat} {σ : St} (hi : i < s_n σ) : Stf 0 σ (sR k j (nI i) σ) := by
  refine ⟨geo.rf, rfl, Nat.le_refl _, id, id, rfl, fun _ _ _ _ h => h, fun h k' hk' j' hj' hz => ?_⟩
  show (if k' = k then upd (s_r σ k) j (nI i) else s_r σ k') j' = -1 ∨ ∃ i', i' < s_n σ ∧ (if k' = k then upd (s_r σ k) j (nI i) else s_r σ k') j' = nI i'
  by_cases e : k' = k
  · subst e
    rw [if_pos rfl]
    by_cases e2 : j' = j
    · subst e2; exact Or.inr ⟨i, hi, by simp [upd]⟩
    · have := h k' hk' j' hj' hz
      simpa [upd, e2] using this
  · rw [if_neg e]; exact h k' hk' j' hj' hz
theorem stf_lay0 {i k : Nat} {pl : Int32} {σ : St} (hi : i < s_n σ) : Stf 1 σ (lay0 i k pl σ) := by
  unfold lay0; split
  · exact (stf_beg (a := 2) (k := 0)).tr (stf_R hi)
  · exact stf_beg
theorem stf_lay {kd i k : Nat} {pl : Int32} {σ : St} (hi : i < s_n σ) (hb : s_N σ + 1 < 2 ^ 30) : Stf 4 σ (sLay kd i k pl σ) := by
  unfold sLay
  split
  · split
    · exact (((stf_beg (a := 2) (k := 5)).tr (stf_lay0 hi)).tr (stf_lay0 (by rw [(stf_lay0 (σ := sBeg 2 5 σ) hi).1.1]; exact hi))).mono (by decide)
    · exact ((stf_beg (a := 2) (k := 5)).tr (stf_lay0 hi)).mono (by decide)
  split
  · exact ((stf_beg (a := 2) (k := 6)).tr (stf_lay0 hi)).mono (by decide)
  split
  · exact ((stf_beg (a := 2) (k := 7)).tr (stf_F4 hi hb)).tr (stf_lay0 hi)
  exact (stf_lay0 hi).mono (by decide)
theorem stf_bkS {k j : Nat} {ht : Int32} {q : Int32 × St} (hN : s_n q.2 ≤ 20) : Stf 3 q.2 (bkS k j ht q).2 := by
  unfold bkS; split
  · rename_i h
    obtain ⟨i, hi, e⟩ := okL_i hN h
    rw [e, cl20 hN hi]
    exact stf_bake hi
  · exact Stf.rf.mono (by decide)
theorem stf_bkI {k : Nat} {ht : Int32} {q : Int32 × St} (hN : s_n q.2 ≤ 20) (j : Nat) : Stf (3 * j) q.2 (bkI k ht q j).2 := by
  induction j with
  | zero => exact Stf.rf
  | succ j ih => exact ih.tr (stf_bkS ((bkI_geo k ht q j).N hN))
theorem stf_fiI {ht : Int32} {σ : St} (hN : s_n σ ≤ 20) (k : Nat) : Stf (24 * k) σ (fiI ht σ k).2 := by
  induction k with
  | zero => exact Stf.rf
  | succ k ih =>
    have h := stf_bkI (k := k) (ht := ht) (q := (0, (fiI ht σ k).2)) ((fiI_geo ht σ k).N hN) 8
    rw [fiI]
    generalize bkI k ht (0, (fiI ht σ k).2) 8 = w at h ⊢
    exact (ih.tr h).mono (by omega)
theorem stf_niS {j : Nat} {mi : Int32} {q : Int32 × St} : Stf 4 q.2 (niS j mi q).2 := by
  unfold niS; split
  · rename_i h; exact stf_rest h
  · exact Stf.rf.mono (by decide)
theorem stf_niI {mi : Int32} {σ : St} (j : Nat) : Stf (4 * j) σ (niI mi σ j).2 := by
  induction j with
  | zero => exact Stf.rf
  | succ j ih => exact ih.tr stf_niS
/-! every answer's state -/
theorem inv_rest {b : Nat} {σ : St} {lo mi : Int32} (h : Inv (b + 100) σ) : Inv b (aRest σ lo mi).2.2 := by
  unfold aRest
  split
  · rename_i hv
    obtain ⟨i, hi, rfl⟩ := okL_i h.n hv
    rw [cl20 h.n hi]
    split
    · split <;> exact ((stf_rest hi).mono (by decide)).inv h
    · exact (Stf.rf.mono (by decide)).inv h
  · exact (Stf.rf.mono (by decide)).inv h
theorem inv_fold {b : Nat} {σ : St} {lo : Int32} (h : Inv (b + 100) σ) : Inv b (aFold σ lo).2.2 := by
  unfold aFold
  split
  · rename_i hv
    obtain ⟨i, hi, rfl⟩ := okL_i h.n hv
    rw [cl20 h.n hi]
    exact ((stf_fold hi (by have := h.2.2.2.2.1; omega)).mono (by decide)).inv h
  · exact (Stf.rf.mono (by decide)).inv h
theorem inv_bake {b : Nat} {σ : St} {lo ht : Int32} (h : Inv (b + 100) σ) : Inv b (aBake σ lo ht).2.2 := by
  unfold aBake
  split
  · rename_i hv
    obtain ⟨i, hi, rfl⟩ := okL_i h.n hv
    rw [cl20 h.n hi]
    split
    · exact ((stf_bake hi).mono (by decide)).inv h
    · exact (Stf.rf.mono (by decide)).inv h
  · exact (Stf.rf.mono (by decide)).inv h
theorem inv_worth {b : Nat} {σ : St} {lo : Int32} (h : Inv (b + 100) σ) : Inv b (aWorth σ lo).2.2 := by
  unfold aWorth
  split
  · split <;> exact (stf_worth.mono (by decide)).inv h
  · exact (Stf.rf.mono (by decide)).inv h
theorem inv_cost {b : Nat} {σ : St} {lo : Int32} (h : Inv (b + 100) σ) : Inv b (aCost σ lo).2.2 := by
  unfold aCost
  split
  · split
    · split <;> exact (stf_worth.mono (by decide)).inv h
    · exact (Stf.rf.mono (by decide)).inv h
  · exact (Stf.rf.mono (by decide)).inv h
theorem inv_change {b : Nat} {σ : St} {lo co : Int32} (h : Inv (b + 100) σ) : Inv b (aChange σ lo co).2.2 := by
  unfold aChange
  split
  · split
    · split
      · split <;> exact (stf_worth.mono (by decide)).inv h
      · exact (Stf.rf.mono (by decide)).inv h
    · exact (Stf.rf.mono (by decide)).inv h
  · exact (Stf.rf.mono (by decide)).inv h
theorem inv_lay {b : Nat} {σ : St} {lo ks pl : Int32} (h : Inv (b + 100) σ) : Inv b (aLay σ lo ks pl).2.2 := by
  unfold aLay
  split
  · rename_i hv
    obtain ⟨i, hi, rfl⟩ := okL_i h.n hv
    rw [cl20 h.n hi]
    have hb : s_N σ + 1 < 2 ^ 30 := by have := h.2.2.2.2.1; omega
    split
    · split
      · exact ((stf_lay hi hb).mono (by decide)).inv h
      · exact (((stf_lay hi hb).tr stf_C).mono (by decide)).inv h
    · exact (Stf.rf.mono (by decide)).inv h
  · exact (Stf.rf.mono (by decide)).inv h
theorem inv_fire {b : Nat} {σ : St} {ht : Int32} (h : Inv (b + 100) σ) : Inv b (aFire σ ht).2.2 := by
  unfold aFire
  split
  · have hs : Stf 100 σ (fiI ht σ 4).2 := (stf_fiI (ht := ht) h.n 4).mono (by decide)
    generalize fiI ht σ 4 = w at hs ⊢
    exact hs.inv h
  · exact (Stf.rf.mono (by decide)).inv h
theorem inv_night {b : Nat} {σ : St} {mi : Int32} (h : Inv (b + 100) σ) : Inv b (aNight σ mi).2.2 := by
  unfold aNight
  split
  · have hs : Stf 100 σ (niI mi σ 20).2 := (stf_niI (mi := mi) (σ := σ) 20).mono (by decide)
    generalize niI mi σ 20 = w at hs ⊢
    exact hs.inv h
  · exact (Stf.rf.mono (by decide)).inv h
theorem inv_same {b : Nat} {σ : St} (h : Inv (b + 100) σ) : Inv b σ := (Stf.rf.mono (by decide)).inv h
theorem inv_at {b : Nat} {σ : St} {ks pl : Int32} (h : Inv (b + 100) σ) : Inv b (aAt σ ks pl).2.2 := by
  unfold aAt; split <;> exact inv_same h
theorem inv_places {b : Nat} {σ : St} {ks : Int32} (h : Inv (b + 100) σ) : Inv b (aPlaces σ ks).2.2 := by
  unfold aPlaces; split <;> exact inv_same h
theorem inv_tell {b : Nat} {σ : St} {lo wh : Int32} (h : Inv (b + 100) σ) : Inv b (aTell σ lo wh).2.2 := by
  unfold aTell; split <;> exact inv_same h
theorem inv_out {b : Nat} {σ : St} {ks : Int32} (h : Inv (b + 100) σ) : Inv b (aOut σ ks).2.2 := by
  unfold aOut
  split
  · split
    · exact inv_same h
    · obtain ⟨h1, h2, h3, h4, h5, h6, h7⟩ := inv_same h
      refine ⟨h1, h2, fun k hk => ?_, h4, h5, fun k hk j hj hz => ?_, h7⟩
      · show upd (s_z σ) _ (-1) k = -1 ∨ ∃ j, j ≤ 8 ∧ upd (s_z σ) _ (-1) k = nI j
        by_cases e : k = ks.toNatClampNeg
        · left; simp [upd, e]
        · simpa [upd, e] using h3 k hk
      · have hz : ¬ upd (s_z σ) ks.toNatClampNeg (-1) k = -1 := hz
        by_cases e : k = ks.toNatClampNeg
        · exact absurd (by simp [upd, e]) hz
        · exact h6 k hk j hj (by simpa [upd, e] using hz)
  · exact inv_same h
theorem clr_r {k : Nat} {σ : St} (n : Nat) : ∀ k' j, s_r (clr k σ n) k' j = if k' = k ∧ j < n then -1 else s_r σ k' j := by
  induction n with
  | zero => intro k' j; rw [if_neg (by omega)]; rfl
  | succ n ih =>
    intro k' j
    show (if k' = k then upd (s_r (clr k σ n) k) n (-1) else s_r (clr k σ n) k') j = _
    by_cases e : k' = k
    · subst e
      rw [if_pos rfl]
      by_cases e2 : j = n
      · subst e2; rw [if_pos ⟨rfl, by omega⟩]; simp [upd]
      · have e4 : upd (s_r (clr k' σ n) k') n (-1) j = s_r (clr k' σ n) k' j := by simp [upd, e2]
        rw [e4, ih]
        by_cases e3 : j < n
        · rw [if_pos ⟨rfl, e3⟩, if_pos ⟨rfl, by omega⟩]
        · rw [if_neg (by omega), if_neg (by omega)]
    · rw [if_neg e, ih, if_neg (by omega), if_neg (by omega)]
theorem clr_o {k : Nat} {σ : St} (n : Nat) : s_n (clr k σ n) = s_n σ ∧ s_k (clr k σ n) = s_k σ ∧ s_F (clr k σ n) = s_F σ ∧ s_z (clr k σ n) = s_z σ ∧ s_N (clr k σ n) = s_N σ := by
  induction n with
  | zero => exact ⟨rfl, rfl, rfl, rfl, rfl⟩
  | succ n ih => exact ih
theorem inv_shelf {b : Nat} {σ : St} {ks nn : Int32} (h : Inv (b + 100) σ) : Inv b (aShelf σ ks nn).2.2 := by
  unfold aShelf
  split
  · rename_i hv
    split
    · exact inv_same h
    · rename_i hn
      obtain ⟨j, hj, rfl⟩ := nI_of2 (x := nn) (M := 8) (n := 8) rfl hn hv.2
      obtain ⟨h1, h2, h3, h4, h5, h6, h7, h8, h9, h10⟩ := inv_same h
      obtain ⟨c1, c2, c3, c4, c5⟩ := clr_o (k := ks.toNatClampNeg) (σ := sZ ks.toNatClampNeg (nI j) σ) 8
      show Inv b (clr ks.toNatClampNeg (sZ ks.toNatClampNeg (nI j) σ) 8)
      refine ⟨by rw [c1]; exact h1, by rw [c1, c2]; exact h2, ?_, by rw [c3, c5]; exact h4, by rw [c5]; exact h5, ?_, by rw [c1, c3]; exact h7, by rw [c1, c2]; exact h8, by rw [c3, c5]; exact h9, by rw [c3]; exact h10⟩
      · intro k hk
        rw [c4]
        show upd (s_z σ) _ (nI j) k = -1 ∨ ∃ j', j' ≤ 8 ∧ upd (s_z σ) _ (nI j) k = nI j'
        by_cases e : k = ks.toNatClampNeg
        · right; exact ⟨j, hj, by simp [upd, e]⟩
        · simpa [upd, e] using h3 k hk
      · intro k hk j' hj' hz
        rw [clr_r, c1]
        rw [c4] at hz
        have hz : ¬ upd (s_z σ) ks.toNatClampNeg (nI j) k = -1 := hz
        by_cases e : k = ks.toNatClampNeg
        · rw [if_pos ⟨e, hj'⟩]; exact Or.inl rfl
        · rw [if_neg (fun g => e g.1)]
          exact h6 k hk j' hj' (by simpa [upd, e] using hz)
  · exact inv_same h
