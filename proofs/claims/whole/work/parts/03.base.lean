/-! the words that every contract takes along: the good ones of the tables -/
def tg : List Cond := lw_tbl.filter goodWord
theorem tg_of {w : Cond} (h : w ∈ lw_tbl) (g : goodWord w = true) : w ∈ tg := List.mem_filter.mpr ⟨h, g⟩
theorem tgT {w : Cond} (i : Nat) (h : tables_1[i]? = some w) (g : goodWord w = true) : w ∈ tg := tg_of (List.mem_append_right _ (List.mem_of_getElem? h)) g
theorem tgS {w : Cond} (i : Nat) (h : (k2_sels lw_privs)[i]? = some w) (g : goodWord w = true) : w ∈ tg := tg_of (List.mem_append_left _ (List.mem_of_getElem? h)) g
theorem tg_good {w : Cond} (h : w ∈ tg) : (w.onTables && w.keeps) = true ∨ ∃ ty, w = .arrayClass ty := good_of_word (List.mem_filter.mp h).2
theorem tg_in {ws : List Cond} (h : ∀ w ∈ ws, w ∈ tg) : GoodIn tg ws := fun w hw => ⟨h w hw, tg_good (h w hw)⟩
theorem tg_c {w : Cond} {ws : List Cond} (h : w ∈ tg) (t : ∀ w' ∈ ws, w' ∈ tg) : ∀ w' ∈ w :: ws, w' ∈ tg := fun w' h' => (List.mem_cons.mp h').elim (fun e => by rw [e]; exact h) (t w')
theorem tg_s : ∀ w ∈ tg, w ∈ tg := fun _ h => h
theorem gd_V {own C : String} {idx n : Nat} {y : MethodName} {b : ByteArray} {r : Option FieldType} (h1 : Cond.methodLink own idx y ∈ tg) (h2 : Cond.instanceMethod y ∈ tg) (h3 : Cond.selects C y y ∈ tg) (h4 : Cond.initialized C ∈ tg) (h5 : Cond.code y b n r ∈ tg) : GoodIn tg (wsV own idx C y (Cond.code y b n r :: tg)) :=
  tg_in (tg_c h1 (tg_c h2 (tg_c h3 (tg_c h4 (tg_c h5 tg_s)))))
theorem gd_S {own : String} {idx n : Nat} {y : MethodName} {b : ByteArray} {r : Option FieldType} (h1 : Cond.methodLink own idx y ∈ tg) (h2 : Cond.static y ∈ tg) (h3 : Cond.initialized y.cls ∈ tg) (h5 : Cond.code y b n r ∈ tg) : GoodIn tg (va_wsS own idx y (Cond.code y b n r :: tg)) :=
  tg_in (tg_c h1 (tg_c h2 (tg_c h3 (tg_c h5 tg_s))))
theorem gd_C {n : Nat} {y : MethodName} {b : ByteArray} {r : Option FieldType} (h5 : Cond.code y b n r ∈ tg) : GoodIn tg (Cond.code y b n r :: tg) := tg_in (tg_c h5 tg_s)
theorem gd_SU {own : String} {idx n : Nat} {y : MethodName} {b : ByteArray} {r : Option FieldType} (h1 : Cond.methodLink own idx y ∈ tg) (h2 : Cond.sameMethod y.cls y.cls y.name y.desc ∈ tg) (h3 : Cond.superclass own y.cls ∈ tg) (h4 : Cond.instanceMethod y ∈ tg) (h6 : Cond.initialized y.cls ∈ tg) (h5 : Cond.code y b n r ∈ tg) : GoodIn tg (va_wsSU own idx y (Cond.code y b n r :: tg)) :=
  tg_in (tg_c h1 (tg_c h2 (tg_c h3 (tg_c h4 (tg_c h6 (tg_c h5 tg_s))))))
theorem gd_U {own C owner : String} {idx n : Nat} {x y : MethodName} {b : ByteArray} {r : Option FieldType} (h1 : Cond.methodLink own idx x ∈ tg) (h2 : Cond.sameMethod x.cls owner x.name x.desc ∈ tg) (h3 : Cond.selects C x y ∈ tg) (h4 : Cond.instanceMethod y ∈ tg) (h6 : Cond.initialized y.cls ∈ tg) (h5 : Cond.code y b n r ∈ tg) : GoodIn tg (va_wsU own idx C owner x y (Cond.code y b n r :: tg)) :=
  tg_in (tg_c h1 (tg_c h2 (tg_c h3 (tg_c h4 (tg_c h6 (tg_c h5 tg_s))))))
theorem gd_O {own C owner : String} {idx n : Nat} {x y : MethodName} {b : ByteArray} {r : Option FieldType} (h1 : Cond.methodLink own idx x ∈ tg) (h2 : Cond.sameMethod x.cls owner x.name x.desc ∈ tg) (h0 : Cond.instanceMethod ⟨owner, x.name, x.desc⟩ ∈ tg) (h3 : Cond.selects C x y ∈ tg) (h4 : Cond.instanceMethod y ∈ tg) (h6 : Cond.initialized y.cls ∈ tg) (h5 : Cond.code y b n r ∈ tg) : GoodIn tg (va_wsO own idx C owner x y (Cond.code y b n r :: tg)) :=
  tg_in (tg_c h1 (tg_c h2 (tg_c h0 (tg_c h3 (tg_c h4 (tg_c h6 (tg_c h5 tg_s)))))))
/-! what the tables alone don't say of a state: two statics of Throwable, the five texts, the links across the nest -/
def en_T (U : State) : Prop := (∃ a, vk_R "BakeHouse$Brioche" 34 "the brioche is fallen" a U) ∧ (∃ a, vk_R "BakeHouse" 47 "a shelf of less than no places" a U) ∧ (∃ a, vk_R "BakeHouse$Dough" 60 "the shelf is out" a U) ∧ (∃ a, vk_R "BakeHouse$Dough" 71 "the shelf has no such place" a U) ∧ (∃ a, vk_R "BakeHouse$Flat" 41 "a flat bread without a crust" a U)
theorem en_T.warm {s U : State} (hW : s.WarmedH U.vm) (h : en_T s) : en_T U := by
  obtain ⟨⟨a1, h1⟩, ⟨a2, h2⟩, ⟨a3, h3⟩, ⟨a4, h4⟩, ⟨a5, h5⟩⟩ := h
  exact ⟨⟨a1, h1.warm hW⟩, ⟨a2, h2.warm hW⟩, ⟨a3, h3.warm hW⟩, ⟨a4, h4.warm hW⟩, ⟨a5, h5.warm hW⟩⟩
theorem en_T.same {s U : State} (hv : U.vm = s.vm) (h : en_T s) : en_T U := by
  obtain ⟨⟨a1, h1⟩, ⟨a2, h2⟩, ⟨a3, h3⟩, ⟨a4, h4⟩, ⟨a5, h5⟩⟩ := h
  exact ⟨⟨a1, h1.same hv⟩, ⟨a2, h2.same hv⟩, ⟨a3, h3.same hv⟩, ⟨a4, h4.same hv⟩, ⟨a5, h5.same hv⟩⟩
