def TX0 : u_T := fun k => match k with
  | 0 => ("BakeHouse$Book", "rows", "[I", true)
  | 1 => ("BakeHouse$Book", "next", "I", false)
  | 2 => ("BakeHouse$Book", "kept", "I", false)
  | 3 => ("BakeHouse$Book", "begun", "I", false)
  | 4 => ("BakeHouse$Book", "fallen", "I", false)
  | 5 => ("BakeHouse$Book", "missed", "I", false)
  | _ => ("BakeHouse$Book", "byZero", "I", false)
def tyX0 : Nat → FieldType := fun k => match k with
  | 0 => .array .int
  | 1 => .int
  | 2 => .int
  | 3 => .int
  | 4 => .int
  | 5 => .int
  | _ => .int
theorem nmX0 : ∀ a, a < 7 → ∀ b, b < 7 → a ≠ b → (TX0 a).2.1 ≠ (TX0 b).2.1 := by decide +kernel
theorem tyX0_ok : ∀ j, j < 7 → parseFieldDescriptor (TX0 j).2.2.1 = some (tyX0 j) := by decide +kernel
def TX2 : u_T := fun k => match k with
  | 0 => ("BakeHouse$Dough", "book", "LBakeHouse$Book;", true)
  | 1 => ("BakeHouse$Dough", "number", "I", true)
  | 2 => ("BakeHouse$Dough", "kind", "I", true)
  | 3 => ("BakeHouse$Dough", "mass", "I", true)
  | 4 => ("BakeHouse$Dough", "air", "I", false)
  | 5 => ("BakeHouse$Dough", "folds", "I", false)
  | 6 => ("BakeHouse$Dough", "acid", "I", false)
  | _ => ("BakeHouse$Dough", "crust", "I", false)
def tyX2 : Nat → FieldType := fun k => match k with
  | 0 => .object "BakeHouse$Book"
  | 1 => .int
  | 2 => .int
  | 3 => .int
  | 4 => .int
  | 5 => .int
  | 6 => .int
  | _ => .int
theorem nmX2 : ∀ a, a < 8 → ∀ b, b < 8 → a ≠ b → (TX2 a).2.1 ≠ (TX2 b).2.1 := by decide +kernel
theorem tyX2_ok : ∀ j, j < 8 → parseFieldDescriptor (TX2 j).2.2.1 = some (tyX2 j) := by decide +kernel
def TX7 : u_T := fun k => match k with
  | 0 => ("BakeHouse$Shelf", "row", "[I", true)
  | _ => ("BakeHouse$Shelf", "size", "I", false)
def tyX7 : Nat → FieldType := fun k => match k with
  | 0 => .array .int
  | _ => .int
theorem nmX7 : ∀ a, a < 2 → ∀ b, b < 2 → a ≠ b → (TX7 a).2.1 ≠ (TX7 b).2.1 := by decide +kernel
theorem tyX7_ok : ∀ j, j < 2 → parseFieldDescriptor (TX7 j).2.2.1 = some (tyX7 j) := by decide +kernel
def TX10 : u_T := fun k => match k with
  | 0 => ("BakeHouse", "book", "LBakeHouse$Book;", true)
  | 1 => ("BakeHouse", "oven", "[LBakeHouse$Shelf;", true)
  | 2 => ("BakeHouse", "loaves", "[LBakeHouse$Dough;", true)
  | _ => ("BakeHouse", "loafCount", "I", false)
def tyX10 : Nat → FieldType := fun k => match k with
  | 0 => .object "BakeHouse$Book"
  | 1 => .array (.object "BakeHouse$Shelf")
  | 2 => .array (.object "BakeHouse$Dough")
  | _ => .int
theorem nmX10 : ∀ a, a < 4 → ∀ b, b < 4 → a ≠ b → (TX10 a).2.1 ≠ (TX10 b).2.1 := by decide +kernel
theorem tyX10_ok : ∀ j, j < 4 → parseFieldDescriptor (TX10 j).2.2.1 = some (tyX10 j) := by decide +kernel
def TX11 : u_T := fun k => match k with
  | 0 => ("BakeHouseModel", "thrown", "I", false)
  | 1 => ("BakeHouseModel", "many", "I", false)
  | 2 => ("BakeHouseModel", "kind", "[I", true)
  | 3 => ("BakeHouseModel", "mass", "[I", true)
  | 4 => ("BakeHouseModel", "air", "[I", true)
  | 5 => ("BakeHouseModel", "folds", "[I", true)
  | 6 => ("BakeHouseModel", "acid", "[I", true)
  | 7 => ("BakeHouseModel", "crust", "[I", true)
  | 8 => ("BakeHouseModel", "places", "[I", true)
  | 9 => ("BakeHouseModel", "lies", "[I", true)
  | 10 => ("BakeHouseModel", "book", "[I", true)
  | 11 => ("BakeHouseModel", "began", "I", false)
  | 12 => ("BakeHouseModel", "fallen", "I", false)
  | 13 => ("BakeHouseModel", "missed", "I", false)
  | 14 => ("BakeHouseModel", "divided", "I", false)
  | 15 => ("BakeHouseModel", "isFallen", "Z", false)
  | _ => ("BakeHouseModel", "isDivided", "Z", false)
def tyX11 : Nat → FieldType := fun k => match k with
  | 0 => .int
  | 1 => .int
  | 2 => .array .int
  | 3 => .array .int
  | 4 => .array .int
  | 5 => .array .int
  | 6 => .array .int
  | 7 => .array .int
  | 8 => .array .int
  | 9 => .array .int
  | 10 => .array .int
  | 11 => .int
  | 12 => .int
  | 13 => .int
  | 14 => .int
  | 15 => .boolean
  | _ => .boolean
theorem nmX11 : ∀ a, a < 17 → ∀ b, b < 17 → a ≠ b → (TX11 a).2.1 ≠ (TX11 b).2.1 := by decide +kernel
theorem tyX11_ok : ∀ j, j < 17 → parseFieldDescriptor (TX11 j).2.2.1 = some (tyX11 j) := by decide +kernel
def kR : Nat → String := fun k => match k with
  | 0 => "BakeHouse$Dough"
  | 1 => "BakeHouse$Leavened"
  | 2 => "BakeHouse$Rye"
  | 3 => "BakeHouse$Sweet"
  | 4 => "BakeHouse$Sour"
  | 5 => "BakeHouse$Brioche"
  | 6 => "BakeHouse$Flat"
  | _ => "BakeHouse$Levain"
def cls : List vw_C := [("BakeHouse$Book", TX0, 7), ("BakeHouse$Shelf", TX7, 2), ("BakeHouse", TX10, 4), ("BakeHouseModel", TX11, 17), (kR 0, TX2, 8), (kR 1, TX2, 8), (kR 2, TX2, 8), (kR 3, TX2, 8), (kR 4, TX2, 8), (kR 5, TX2, 8), (kR 6, TX2, 8), (kR 7, TX2, 8)]
theorem inX0 : ∀ x ∈ u_ws "BakeHouse$Book" TX0 7, x ∈ tg := by decide +kernel
theorem inX7 : ∀ x ∈ u_ws "BakeHouse$Shelf" TX7 2, x ∈ tg := by decide +kernel
theorem inX10 : ∀ x ∈ u_ws "BakeHouse" TX10 4, x ∈ tg := by decide +kernel
theorem inX11 : ∀ x ∈ u_ws "BakeHouseModel" TX11 17, x ∈ tg := by decide +kernel
theorem inD_all : ∀ k, k < 8 → ∀ x ∈ u_ws (kR k) TX2 8, x ∈ tg := by decide +kernel
theorem cls_d {k : Nat} (h : k < 8) : cls[4 + k]? = some (kR k, TX2, 8) := by
  rcases (show k = 0 ∨ k = 1 ∨ k = 2 ∨ k = 3 ∨ k = 4 ∨ k = 5 ∨ k = 6 ∨ k = 7 by omega) with rfl | rfl | rfl | rfl | rfl | rfl | rfl | rfl <;> rfl

/-! the state that class and reference share: how many loaves, their kinds, their fields (by the slots of Dough), their addresses; the shelves' sizes and rows; the ring of the book, how many rules began; the counters (by the slots of Book) -/
abbrev St : Type := Nat × (Nat → Nat) × (Nat → Nat → Int32) × (Nat → Nat) × (Nat → Int32) × (Nat → Nat → Int32) × (Nat → Int32) × Nat × (Nat → Int32)
def s_n (σ : St) : Nat := σ.1
def s_k (σ : St) : Nat → Nat := σ.2.1
def s_F (σ : St) : Nat → Nat → Int32 := σ.2.2.1
def s_a (σ : St) : Nat → Nat := σ.2.2.2.1
def s_z (σ : St) : Nat → Int32 := σ.2.2.2.2.1
def s_r (σ : St) : Nat → Nat → Int32 := σ.2.2.2.2.2.1
def s_g (σ : St) : Nat → Int32 := σ.2.2.2.2.2.2.1
def s_N (σ : St) : Nat := σ.2.2.2.2.2.2.2.1
def s_c (σ : St) : Nat → Int32 := σ.2.2.2.2.2.2.2.2
def sBeg (a k : Int32) (σ : St) : St := (s_n σ, s_k σ, s_F σ, s_a σ, s_z σ, s_r σ, upd (s_g σ) (s_N σ % 100) (10 * a + k), s_N σ + 1, s_c σ)
def sF (f i : Nat) (v : Int32) (σ : St) : St := (s_n σ, s_k σ, (fun f' => if f' = f then upd (s_F σ f) i v else s_F σ f'), s_a σ, s_z σ, s_r σ, s_g σ, s_N σ, s_c σ)
def sC (j : Nat) (v : Int32) (σ : St) : St := (s_n σ, s_k σ, s_F σ, s_a σ, s_z σ, s_r σ, s_g σ, s_N σ, upd (s_c σ) j v)
def sZ (k : Nat) (v : Int32) (σ : St) : St := (s_n σ, s_k σ, s_F σ, s_a σ, upd (s_z σ) k v, s_r σ, s_g σ, s_N σ, s_c σ)
def sR (k j : Nat) (v : Int32) (σ : St) : St := (s_n σ, s_k σ, s_F σ, s_a σ, s_z σ, (fun k' => if k' = k then upd (s_r σ k) j v else s_r σ k'), s_g σ, s_N σ, s_c σ)
/-- a new loaf at the address q -/
def sNew (k : Nat) (ma : Int32) (q : Nat) (σ : St) : St := (s_n σ + 1, va_up (s_k σ) (s_n σ) k, (fun f' => if f' = 3 then upd (s_F σ 3) (s_n σ) ma else s_F σ f'), va_up (s_a σ) (s_n σ) q, s_z σ, s_r σ, s_g σ, s_N σ, s_c σ)
def nx (N : Nat) : Int32 := if N = 0 then 0 else nI ((N - 1) % 100 + 1)
def kp (N : Nat) : Int32 := nI (min N 100)
abbrev arI (c : ClassId) (n : Nat) (f : Nat → Int32) : va_E := .inl (c, n, .inl f)
abbrev arR (c : ClassId) (n : Nat) (f : Nat → Option Nat) : va_E := .inl (c, n, .inr (.inr (.inr (.inr f))))
def kCell (bk : Nat) (σ : St) (i : Nat) : va_E := .inr (4 + s_k σ i, [.ref bk, .int (nI i), .int (nI (s_k σ i)), .int (s_F σ 3 i), .int (s_F σ 4 i), .int (s_F σ 5 i), .int (s_F σ 6 i), .int (s_F σ 7 i)])
def kLv (bk : Nat) (σ : St) : va_W := (List.range (s_n σ)).map (fun i => (s_a σ i, kCell bk σ i))
def kFix (G : Nat → Nat) (Q : Nat → ClassId) (σ : St) : va_W := [
  (G 0, .inr (2, [.ref (G 1), .ref (G 3), .ref (G 4), .int (nI (s_n σ))])),
  (G 1, .inr (0, [.ref (G 2), .int (nx (s_N σ)), .int (kp (s_N σ)), .int (nI (s_N σ)), .int (s_c σ 4), .int (s_c σ 5), .int (s_c σ 6)])),
  (G 2, arI (Q 0) 100 (s_g σ)),
  (G 3, arR (Q 1) 4 (fun k => if k < 4 then some (G (5 + k)) else none)),
  (G 4, arR (Q 2) 20 (fun i => if i < s_n σ then some (s_a σ i) else none)),
  (G 5, .inr (1, [.ref (G 9), .int (s_z σ 0)])),
  (G 6, .inr (1, [.ref (G 10), .int (s_z σ 1)])),
  (G 7, .inr (1, [.ref (G 11), .int (s_z σ 2)])),
  (G 8, .inr (1, [.ref (G 12), .int (s_z σ 3)])),
  (G 9, arI (Q 0) 8 (s_r σ 0)),
  (G 10, arI (Q 0) 8 (s_r σ 1)),
  (G 11, arI (Q 0) 8 (s_r σ 2)),
  (G 12, arI (Q 0) 8 (s_r σ 3))]
/-- the class' world -/
def kw (G : Nat → Nat) (Q : Nat → ClassId) (σ : St) : va_W := kFix G Q σ ++ kLv (G 1) σ
/-- the reference's world; beside the state: thrown, isFallen, isDivided -/
abbrev Sm : Type := St × Int32 × Int32 × Int32
def mw (M : Nat → Nat) (Q : Nat → ClassId) (τ : Sm) : va_W := [
  (M 0, .inr (3, [.int τ.2.1, .int (nI (s_n τ.1)), .ref (M 1), .ref (M 2), .ref (M 3), .ref (M 4), .ref (M 5), .ref (M 6), .ref (M 7), .ref (M 8), .ref (M 9), .int (nI (s_N τ.1)), .int (s_c τ.1 4), .int (s_c τ.1 5), .int (s_c τ.1 6), .int τ.2.2.1, .int τ.2.2.2])),
  (M 1, arI (Q 0) 20 (fun i => nI (s_k τ.1 i))),
  (M 2, arI (Q 0) 20 (s_F τ.1 3)),
  (M 3, arI (Q 0) 20 (s_F τ.1 4)),
  (M 4, arI (Q 0) 20 (s_F τ.1 5)),
  (M 5, arI (Q 0) 20 (s_F τ.1 6)),
  (M 6, arI (Q 0) 20 (s_F τ.1 7)),
  (M 7, arI (Q 0) 4 (s_z τ.1)),
  (M 8, arI (Q 0) 32 (fun j => s_r τ.1 (j / 8) (j % 8))),
  (M 9, arI (Q 0) 100 (s_g τ.1))]
def tyl (Q : Nat → ClassId) : List (ClassId × FieldType) := [(Q 0, .int), (Q 1, .object "BakeHouse$Shelf"), (Q 2, .object "BakeHouse$Dough"), (Q 3, .long)]
theorem kw_d {G : Nat → Nat} {Q : Nat → ClassId} (σ : St) {i : Nat} (h : i < s_n σ) : (kw G Q σ)[13 + i]? = some (s_a σ i, kCell (G 1) σ i) := by
  unfold kw
  rw [List.getElem?_append_right (by show 13 ≤ 13 + i; omega)]
  show (kLv (G 1) σ)[13 + i - 13]? = _
  rw [Nat.add_sub_cancel_left]
  simp [kLv, h]
theorem kLv_set {bk : Nat} {σ σ' : St} {i : Nat} {ce : va_E} (hn : s_n σ' = s_n σ) (hi : s_a σ' i = s_a σ i ∧ kCell bk σ' i = ce) (ho : ∀ j, j ≠ i → s_a σ' j = s_a σ j ∧ kCell bk σ' j = kCell bk σ j) : (kLv bk σ).set i (s_a σ i, ce) = kLv bk σ' := by
  apply List.ext_getElem?
  intro j
  by_cases hj : j = i
  · subst hj
    by_cases hl : j < s_n σ
    · simp [kLv, hl, hn, hi.1, hi.2]
    · simp [kLv, hl, hn]
  · rw [List.getElem?_set_ne (fun h => hj h.symm)]
    by_cases hl : j < s_n σ
    · simp [kLv, hl, hn, (ho j hj).1, (ho j hj).2]
    · simp [kLv, hl, hn]
theorem kw_set {G : Nat → Nat} {Q : Nat → ClassId} {σ σ' : St} {i : Nat} {ce : va_E} (hf : kFix G Q σ' = kFix G Q σ) (hn : s_n σ' = s_n σ) (hi : s_a σ' i = s_a σ i ∧ kCell (G 1) σ' i = ce) (ho : ∀ j, j ≠ i → s_a σ' j = s_a σ j ∧ kCell (G 1) σ' j = kCell (G 1) σ j) : (kw G Q σ).set (13 + i) (s_a σ i, ce) = kw G Q σ' := by
  unfold kw
  have h := List.set_append (s := kFix G Q σ) (t := kLv (G 1) σ) (i := 13 + i) (x := (s_a σ i, ce))
  rw [if_neg (by show ¬ 13 + i < 13; omega), show 13 + i - (kFix G Q σ).length = i from Nat.add_sub_cancel_left 13 i, kLv_set hn hi ho] at h
  rw [hf]
  exact h
theorem kCell_o {bk f i j : Nat} {v : Int32} {σ : St} (h : j ≠ i) : kCell bk (sF f i v σ) j = kCell bk σ j := by
  have e : ∀ g, s_F (sF f i v σ) g j = s_F σ g j := by
    intro g
    show (if g = f then upd (s_F σ f) i v else s_F σ g) j = _
    by_cases hg : g = f
    · subst hg; simp [upd, h]
    · simp [hg]
  have e1 : s_k (sF f i v σ) j = s_k σ j := rfl
  simp only [kCell, e, e1]
theorem kw_sF {G : Nat → Nat} {Q : Nat → ClassId} {σ : St} {i f : Nat} {v : Int32} (hf : f = 4 ∨ f = 5 ∨ f = 6 ∨ f = 7) : (kw G Q σ).set (13 + i) (s_a σ i, .inr (4 + s_k σ i, [.ref (G 1), .int (nI i), .int (nI (s_k σ i)), .int (s_F σ 3 i), .int (s_F σ 4 i), .int (s_F σ 5 i), .int (s_F σ 6 i), .int (s_F σ 7 i)].set f (.int v))) = kw G Q (sF f i v σ) := by
  refine kw_set rfl rfl ⟨rfl, ?_⟩ (fun j hj => ⟨rfl, kCell_o hj⟩)
  rcases hf with rfl | rfl | rfl | rfl <;> simp [kCell, sF, s_F, s_k, upd]
theorem kw_s {G : Nat → Nat} {Q : Nat → ClassId} (σ : St) {k : Nat} (h : k < 4) : (kw G Q σ)[5 + k]? = some (G (5 + k), .inr (1, [.ref (G (9 + k)), .int (s_z σ k)])) := by
  rcases (show k = 0 ∨ k = 1 ∨ k = 2 ∨ k = 3 by omega) with rfl | rfl | rfl | rfl <;> rfl
theorem kw_row {G : Nat → Nat} {Q : Nat → ClassId} (σ : St) {k : Nat} (h : k < 4) : (kw G Q σ)[9 + k]? = some (G (9 + k), arI (Q 0) 8 (s_r σ k)) := by
  rcases (show k = 0 ∨ k = 1 ∨ k = 2 ∨ k = 3 by omega) with rfl | rfl | rfl | rfl <;> rfl
theorem kw_sZ {G : Nat → Nat} {Q : Nat → ClassId} {σ : St} {k : Nat} {v : Int32} (h : k < 4) : (kw G Q σ).set (5 + k) (G (5 + k), .inr (1, [.ref (G (9 + k)), .int (s_z σ k)].set 1 (.int v))) = kw G Q (sZ k v σ) := by
  rcases (show k = 0 ∨ k = 1 ∨ k = 2 ∨ k = 3 by omega) with rfl | rfl | rfl | rfl <;> rfl
theorem kw_sR {G : Nat → Nat} {Q : Nat → ClassId} {σ : St} {k j : Nat} {v : Int32} (h : k < 4) : (kw G Q σ).set (9 + k) (G (9 + k), arI (Q 0) 8 (upd (s_r σ k) j v)) = kw G Q (sR k j v σ) := by
  rcases (show k = 0 ∨ k = 1 ∨ k = 2 ∨ k = 3 by omega) with rfl | rfl | rfl | rfl <;> rfl

