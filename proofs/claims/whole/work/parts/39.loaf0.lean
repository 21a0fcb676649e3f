def sK (n kd : Nat) (σ : St) : St := (s_n σ, va_up (s_k σ) n kd, s_F σ, s_a σ, s_z σ, s_r σ, s_g σ, s_N σ, s_c σ)
def sNn (σ : St) : St := (s_n σ + 1, s_k σ, s_F σ, s_a σ, s_z σ, s_r σ, s_g σ, s_N σ, s_c σ)
theorem mw_a1 {M : Nat → Nat} {Q : Nat → ClassId} {σ : St} {t f d : Int32} {n kd : Nat} : (mw M Q (σ, t, f, d)).set 1 (M 1, arI (Q 0) 20 (upd (fun x => nI (s_k σ x)) n (nI kd))) = mw M Q (sK n kd σ, t, f, d) := by
  have e : upd (fun x => nI (s_k σ x)) n (nI kd) = fun x => nI (s_k (sK n kd σ) x) := by
    funext x
    show (if x = n then nI kd else nI (s_k σ x)) = nI (va_up (s_k σ) n kd x)
    by_cases h : x = n
    · subst h; rw [if_pos rfl, va_up_self]
    · rw [if_neg h, va_up_ne _ _ h]
  rw [e]; rfl
theorem mw_p1 {M : Nat → Nat} {Q : Nat → ClassId} {σ : St} {t f d : Int32} : (mw M Q (σ, t, f, d)).set 0 (M 0, .inr (3, [.int t, .int (nI (s_n σ)), .ref (M 1), .ref (M 2), .ref (M 3), .ref (M 4), .ref (M 5), .ref (M 6), .ref (M 7), .ref (M 8), .ref (M 9), .int (nI (s_N σ)), .int (s_c σ 4), .int (s_c σ 5), .int (s_c σ 6), .int f, .int d].set 1 (.int (nI (s_n σ) + 1)))) = mw M Q (sNn σ, t, f, d) := by rw [nI_1]; rfl
abbrev w7 (ki : Int32) : Prop := 0 ≤ ki ∧ ki ≤ 7
abbrev w2000 (ma : Int32) : Prop := 1 ≤ ma ∧ ma ≤ 2000
def aLoaf (σ : St) (ki ma : Int32) (q : Nat) : Ans := if w7 ki ∧ w2000 ma then (if s_n σ = 20 then (-104, 0, σ) else (nI (s_n σ), 0, sNew ki.toNatClampNeg ma q σ)) else (-102, 0, σ)
theorem w7_k {ki : Int32} (h : w7 ki) : ∃ kd, kd < 8 ∧ ki = nI kd := by
  obtain ⟨j, hj, e⟩ := nI_of2 (x := ki) (M := 7) (n := 7) rfl (Int32.not_lt.mpr h.1) h.2
  exact ⟨j, by omega, e⟩
theorem n20 {n : Nat} (h : n ≤ 20) : nI n = 20 ↔ n = 20 := nI_eq (b := 20) (by omega) (by decide)
theorem inv_loaf {b : Nat} {σ : St} {ki ma : Int32} {q : Nat} (h : Inv (b + 100) σ) : Inv b (aLoaf σ ki ma q).2.2 := by
  unfold aLoaf
  split
  · rename_i hv
    split
    · exact inv_same h
    · rename_i hn
      obtain ⟨kd, hkd, rfl⟩ := w7_k hv.1
      obtain ⟨mm, hmm, rfl⟩ := nI_of2 (x := ma) (M := 2000) (n := 2000) rfl (Int32.not_lt.mpr (Int32.le_trans (by decide) hv.2.1)) hv.2.2
      rw [nI_clamp (by omega)]
      obtain ⟨h1, h2, h3, h4, h5, h6, h7, h8, h9, h10⟩ := inv_same h
      refine ⟨by show s_n σ + 1 ≤ 20; omega, fun i hi => ?_, h3, fun i => ?_, h5, fun k hk j hj hz => ?_, fun f i hi hf => ?_, fun i hi => ?_, fun i => ?_, fun i => ?_⟩
      · show va_up (s_k σ) (s_n σ) kd i < 8
        have hi : i < s_n σ + 1 := hi
        by_cases e : i = s_n σ
        · subst e; rw [va_up_self]; exact hkd
        · rw [va_up_ne _ _ e]; exact h2 i (by omega)
      · exact h4 i
      · rcases h6 k hk j hj hz with g | ⟨i, hi, g⟩
        · exact Or.inl g
        · exact Or.inr ⟨i, by show i < s_n σ + 1; omega, g⟩
      · have hi : s_n σ + 1 ≤ i := hi
        show (if f = 3 then upd (s_F σ 3) (s_n σ) (nI mm) else s_F σ f) i = 0
        rw [if_neg (by omega)]; exact h7 f i (by omega) hf
      · have hi : s_n σ + 1 ≤ i := hi
        show va_up (s_k σ) (s_n σ) kd i = 0
        rw [va_up_ne _ _ (by omega)]; exact h8 i (by omega)
      · exact h9 i
      · show ∃ a, a ≤ 2000 ∧ upd (s_F σ 3) (s_n σ) (nI mm) i = nI a
        by_cases e : i = s_n σ
        · exact ⟨mm, hmm, by simp [upd, e]⟩
        · obtain ⟨a, ha, g⟩ := h10 i
          exact ⟨a, ha, by simp [upd, e, g]⟩
  · exact inv_same h
