theorem i100 : (100 : Int32) = nI 100 := rfl
theorem nx_of {N : Nat} : nx N = nI (if N = 0 then 0 else (N - 1) % 100 + 1) := by
  unfold nx; split <;> rfl
theorem nx_le {N : Nat} : (if N = 0 then 0 else (N - 1) % 100 + 1) ≤ 100 := by
  split <;> omega
theorem nx_lt0 {N : Nat} : ¬ nx N < 0 := by rw [nx_of]; exact nI_pos (by have := @nx_le N; omega)
theorem nx_lt {N : Nat} : nx N < 100 ↔ (if N = 0 then 0 else (N - 1) % 100 + 1) < 100 := by
  rw [nx_of, i100]; exact nI_ltI (by have := @nx_le N; omega) (by decide)
theorem nx_a {N : Nat} (h : nx N < 100) : nx N = nI (N % 100) := by
  rw [nx_lt] at h
  rw [nx_of]
  congr 1
  split at h <;> rename_i h0
  · rw [if_pos h0, h0]
  · rw [if_neg h0]; omega
theorem nx_b {N : Nat} (h : ¬ nx N < 100) : N % 100 = 0 := by
  rw [nx_lt] at h
  split at h <;> rename_i h0
  · omega
  · omega
theorem nx_s {N : Nat} : nI (N % 100) + 1 = nx (N + 1) := by
  rw [nI_1, nx_of, if_neg (by omega)]; rfl
theorem kp_le {N : Nat} : 100 ≤ kp N ↔ 100 ≤ N := by
  unfold kp; rw [i100, nI_leI (by decide) (by omega)]; omega
theorem kp_a {N : Nat} (h : 100 ≤ kp N) : kp (N + 1) = kp N := by
  rw [kp_le] at h; unfold kp; congr 1; omega
theorem kp_b {N : Nat} (h : ¬ 100 ≤ kp N) : kp N + 1 = kp (N + 1) := by
  rw [kp_le] at h; unfold kp; rw [nI_1]; congr 1; omega
def kwB (G : Nat → Nat) (Q : Nat → ClassId) (σ : St) (v : Int32 × Int32 × Int32 × (Nat → Int32)) : va_W := [
  (G 0, .inr (2, [.ref (G 1), .ref (G 3), .ref (G 4), .int (nI (s_n σ))])),
  (G 1, .inr (0, [.ref (G 2), .int v.1, .int v.2.1, .int v.2.2.1, .int (s_c σ 4), .int (s_c σ 5), .int (s_c σ 6)])),
  (G 2, arI (Q 0) 100 v.2.2.2),
  (G 3, arR (Q 1) 4 (fun k => if k < 4 then some (G (5 + k)) else none)),
  (G 4, arR (Q 2) 20 (fun i => if i < s_n σ then some (s_a σ i) else none)),
  (G 5, .inr (1, [.ref (G 9), .int (s_z σ 0)])),
  (G 6, .inr (1, [.ref (G 10), .int (s_z σ 1)])),
  (G 7, .inr (1, [.ref (G 11), .int (s_z σ 2)])),
  (G 8, .inr (1, [.ref (G 12), .int (s_z σ 3)])),
  (G 9, arI (Q 0) 8 (s_r σ 0)),
  (G 10, arI (Q 0) 8 (s_r σ 1)),
  (G 11, arI (Q 0) 8 (s_r σ 2)),
  (G 12, arI (Q 0) 8 (s_r σ 3))] ++ kLv (G 1) σ
theorem kwB_beg {G : Nat → Nat} {Q : Nat → ClassId} {σ : St} {a k v1 v2 v3 : Int32} {g : Nat → Int32} (h1 : v1 = nx (s_N σ + 1)) (h2 : v2 = kp (s_N σ + 1)) (h3 : v3 = nI (s_N σ + 1)) (hg : g = upd (s_g σ) (s_N σ % 100) (10 * a + k)) : kwB G Q σ (v1, v2, v3, g) = kw G Q (sBeg a k σ) := by
  subst h1; subst h2; subst h3; subst hg; rfl
/-- within, as a number -/
def wth (v a b : Int32) : Int32 := if a ≤ v ∧ v ≤ b then 1 else 0
theorem wth_nar {v a b : Int32} : narrow .boolean (.int (wth v a b)) = .int (wth v a b) := by unfold wth; split <;> rfl
theorem wth_1 {v a b : Int32} (h1 : a ≤ v) (h2 : v ≤ b) : (1 : Int32) = wth v a b := by simp [wth, h1, h2]
theorem wth_0a {v a b : Int32} (h1 : ¬ a ≤ v) : (0 : Int32) = wth v a b := by simp [wth, h1]
theorem wth_0b {v a b : Int32} (h1 : ¬ v ≤ b) : (0 : Int32) = wth v a b := by simp [wth, h1]
theorem wth_eq0 {v a b : Int32} : wth v a b = 0 ↔ ¬ (a ≤ v ∧ v ≤ b) := by unfold wth; split <;> simp_all
theorem i32_lt {x y : Int32} : x < y ↔ ¬ y ≤ x := by rw [Int32.not_le]
