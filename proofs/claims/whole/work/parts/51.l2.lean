theorem Inv.N30 {b : Nat} {σ : St} (h : Inv b σ) : s_N σ < 2 ^ 30 := by have := h.2.2.2.2.1; omega
set_option maxHeartbeats 4000000 in
set_option maxRecDepth 100000 in
theorem lw_c0 {p : Program} {e : Env} {s : State} {m : MethodId} {args : Array Value} {below : List Frame} {meth : Method} {c : Code} {H : Heap} {locs : List Loc} {cells slots : Nat} {Qp : State → Prop} {A : Nat → Prop} {ret : Option FieldType} {ls : Array Slot} (l : Launch) (hl0 : l.stackTraces = false) (D : va_G) (G M : Nat → Nat) (Q : Nat → ClassId) {σ : St} {fo : Nat → Int64} {th fl dv : Int32} {b L ou j b0 : Nat} {xs : Nat → Int32} (cx : Fx p s m args meth c A D cls (tyl Q) cL_law 7 "BakeHouseLaw" ret) (hX : va_X b L xs s s.heap ∧ b < s.heap.size ∧ ¬ A b ∧ L ≤ 2048) (hj : 4 * j + 3 < L) (hI : Inv (b0 + 100) σ) (hw : Wd D cls A s H locs (mw M Q (σ, th, fl, dv) ++ kwO G Q ou (σ, fo))) (hl : lv_has ls 7 [(0, .ref b), (1, .ref (G 0)), (2, .ref (M 0)), (3, .ref ou), (4, .int (nI (4 * j)))]) (hc : cells + 20 ≤ room_1.cells) (hs : slots + 120 ≤ room_1.slots)
    (kk : ∀ (σ2 : St) (fo2 : Nat → Int64) (t1 t2 t3 : Int32) (H : Heap) (locs : List Loc) (ls : Array Slot), Inv b0 σ2 → Wd D cls A s H locs (mw M Q (σ2, t1, t2, t3) ++ kwO G Q ou (σ2, fo2)) → lv_has ls 7 [(0, .ref b), (1, .ref (G 0)), (2, .ref (M 0)), (3, .ref ou), (4, .int (nI (4 * j)))] → W p l e room_1 s m args below meth c H locs (cells + 20) (slots + 120) Qp (F0 m 839 ls [])) : W p l e room_1 s m args below meth c H locs cells slots Qp (F0 m 120 ls []) := by
  refine lv_aload_n cx.x cx.b dL_law_120 rfl (lv_at hl 1 rfl) ?_
  refine lv_aload_n cx.x cx.b dL_law_121 rfl (lv_at hl 0 rfl) ?_
  refine lv_iload cx.x cx.b dL_law_122 (lv_at hl 4 rfl) ?_
  refine lv_iconst (v := 1) cx.x cx.b dL_law_124 (by decide) ?_
  refine lv_iadd cx.x cx.b dL_law_125 ?_
  refine sld cx hw hX (4 * j + 1) (nI_add (4 * j) 1) (by omega) dL_law_126 ?_
  refine lv_aload_n cx.x cx.b dL_law_127 rfl (lv_at hl 0 rfl) ?_
  refine lv_iload cx.x cx.b dL_law_128 (lv_at hl 4 rfl) ?_
  refine lv_iconst (v := 2) cx.x cx.b dL_law_130 (by decide) ?_
  refine lv_iadd cx.x cx.b dL_law_131 ?_
  refine sld cx hw hX (4 * j + 2) (nI_add (4 * j) 2) (by omega) dL_law_132 ?_
  have hw : Wd D cls A s H locs ((mw M Q (σ, th, fl, dv) ++ oE Q ou fo) ++ kw G Q σ) := hw.asc
  refine cgoF_i cx hw (rV_i (q0 := 0) (n := 2) (As := [.int (xs (4 * j + 1)), .int (xs (4 * j + 2))]) (rest := []) cx hw.r (c_X10_loaf l D G Q σ hI (xs (4 * j + 1)) (xs (4 * j + 2))) (gd_V tw_98 tw_99 tw_100 tw_1 tw_101) rfl ⟨by decide +kernel, rfl, hl.1, (Nat.le_of_ble_eq_true rfl), ⟨(Nat.le_of_ble_eq_true rfl), (Nat.le_of_ble_eq_true rfl)⟩, ⟨by omega, by omega⟩, rfl, rfl⟩ rfl (kw_h σ) rfl dL_law_133) (fun r u H locs hp hw => ?_)
  have hw : Wd D cls A s H locs (kwO G Q ou (u, fo) ++ mw M Q (σ, th, fl, dv)) := hw.as2.sw2
  obtain ⟨q, hp⟩ := hp
  obtain ⟨g1, g2, g3⟩ := hp
  refine lv_aload_n cx.x cx.b dL_law_136 rfl (lv_at hl 2 rfl) ?_
  refine lv_aload_n cx.x cx.b dL_law_137 rfl (lv_at hl 0 rfl) ?_
  refine lv_iload cx.x cx.b dL_law_138 (lv_at hl 4 rfl) ?_
  refine lv_iconst (v := 1) cx.x cx.b dL_law_140 (by decide) ?_
  refine lv_iadd cx.x cx.b dL_law_141 ?_
  refine sld cx hw hX (4 * j + 1) (nI_add (4 * j) 1) (by omega) dL_law_142 ?_
  refine lv_aload_n cx.x cx.b dL_law_143 rfl (lv_at hl 0 rfl) ?_
  refine lv_iload cx.x cx.b dL_law_144 (lv_at hl 4 rfl) ?_
  refine lv_iconst (v := 2) cx.x cx.b dL_law_146 (by decide) ?_
  refine lv_iadd cx.x cx.b dL_law_147 ?_
  refine sld cx hw hX (4 * j + 2) (nI_add (4 * j) 2) (by omega) dL_law_148 ?_
  refine cgoF_i cx hw (rV_i (q0 := 0) (n := 2) (As := [.int (xs (4 * j + 1)), .int (xs (4 * j + 2))]) (rest := [.int r]) cx hw.r (c_X11_loaf l D M Q σ th fl dv hI q (xs (4 * j + 1)) (xs (4 * j + 2))) (gd_V tw_813 tw_814 tw_815 tw_4 tw_816) rfl ⟨by decide +kernel, rfl, hl.1, (Nat.le_of_ble_eq_true rfl), ⟨(Nat.le_of_ble_eq_true rfl), (Nat.le_of_ble_eq_true rfl)⟩, ⟨by omega, by omega⟩, rfl, rfl⟩ rfl (mw_h σ th fl dv) rfl dL_law_149) (fun r2 u2 H locs hp2 hw => ?_)
  obtain ⟨σ2, th2, fl2, dv2⟩ := u2
  obtain ⟨k1, k2, k3⟩ := hp2
  have e1 : u = σ2 := g3.trans k2.symm
  subst e1
  refine lv_icmp_eq (tgt := 839) cx.x cx.b dL_law_152 (by decide) (fun _ => ?_) (fun h9 => absurd (g2.trans (k1 g1).symm) h9)
  exact W.widen (by omega) (by omega) (kk u fo th2 fl2 dv2 H locs ls (by rw [g3]; exact inv_loaf hI) hw.sw2 hl)
set_option maxHeartbeats 4000000 in
set_option maxRecDepth 100000 in
theorem lw_c1 {p : Program} {e : Env} {s : State} {m : MethodId} {args : Array Value} {below : List Frame} {meth : Method} {c : Code} {H : Heap} {locs : List Loc} {cells slots : Nat} {Qp : State → Prop} {A : Nat → Prop} {ret : Option FieldType} {ls : Array Slot} (l : Launch) (hl0 : l.stackTraces = false) (D : va_G) (G M : Nat → Nat) (Q : Nat → ClassId) {σ : St} {fo : Nat → Int64} {th fl dv : Int32} {b L ou j b0 : Nat} {xs : Nat → Int32} (cx : Fx p s m args meth c A D cls (tyl Q) cL_law 7 "BakeHouseLaw" ret) (hX : va_X b L xs s s.heap ∧ b < s.heap.size ∧ ¬ A b ∧ L ≤ 2048) (hj : 4 * j + 3 < L) (hI : Inv (b0 + 100) σ) (hw : Wd D cls A s H locs (mw M Q (σ, th, fl, dv) ++ kwO G Q ou (σ, fo))) (hl : lv_has ls 7 [(0, .ref b), (1, .ref (G 0)), (2, .ref (M 0)), (3, .ref ou), (4, .int (nI (4 * j)))]) (hc : cells + 20 ≤ room_1.cells) (hs : slots + 120 ≤ room_1.slots)
    (kk : ∀ (σ2 : St) (fo2 : Nat → Int64) (t1 t2 t3 : Int32) (H : Heap) (locs : List Loc) (ls : Array Slot), Inv b0 σ2 → Wd D cls A s H locs (mw M Q (σ2, t1, t2, t3) ++ kwO G Q ou (σ2, fo2)) → lv_has ls 7 [(0, .ref b), (1, .ref (G 0)), (2, .ref (M 0)), (3, .ref ou), (4, .int (nI (4 * j)))] → W p l e room_1 s m args below meth c H locs (cells + 20) (slots + 120) Qp (F0 m 839 ls [])) : W p l e room_1 s m args below meth c H locs cells slots Qp (F0 m 157 ls []) := by
  refine lv_aload_n cx.x cx.b dL_law_157 rfl (lv_at hl 1 rfl) ?_
  refine lv_aload_n cx.x cx.b dL_law_158 rfl (lv_at hl 0 rfl) ?_
  refine lv_iload cx.x cx.b dL_law_159 (lv_at hl 4 rfl) ?_
  refine lv_iconst (v := 1) cx.x cx.b dL_law_161 (by decide) ?_
  refine lv_iadd cx.x cx.b dL_law_162 ?_
  refine sld cx hw hX (4 * j + 1) (nI_add (4 * j) 1) (by omega) dL_law_163 ?_
  refine lv_aload_n cx.x cx.b dL_law_164 rfl (lv_at hl 0 rfl) ?_
  refine lv_iload cx.x cx.b dL_law_165 (lv_at hl 4 rfl) ?_
  refine lv_iconst (v := 2) cx.x cx.b dL_law_167 (by decide) ?_
  refine lv_iadd cx.x cx.b dL_law_168 ?_
  refine sld cx hw hX (4 * j + 2) (nI_add (4 * j) 2) (by omega) dL_law_169 ?_
  refine lv_aload_n cx.x cx.b dL_law_170 rfl (lv_at hl 3 rfl) ?_
  refine cgoF_i cx hw (rSW_i (n := 4) (As := [.ref (G 0), .int (xs (4 * j + 1)), .int (xs (4 * j + 2)), .ref ou]) (rest := []) cx hw.r (c_L_shelf l hl0 D G Q σ fo ou (xs (4 * j + 1)) (xs (4 * j + 2))) tw_536 tw_537 tw_0 tw_538 ⟨by decide +kernel, rfl, hl.1, (Nat.le_of_ble_eq_true rfl), ⟨(Nat.le_of_ble_eq_true rfl), (Nat.le_of_ble_eq_true rfl)⟩, ⟨by omega, by omega⟩, rfl, rfl⟩ rfl dL_law_171) (fun r u H locs hp hw => ?_)
  obtain ⟨u1, fo1⟩ := u
  obtain ⟨g1, g4, g2, g3⟩ := hp
  have g2 : u1 = _ := g2
  have hw : Wd D cls A s H locs (kwO G Q ou (u1, fo1) ++ mw M Q (σ, th, fl, dv)) := hw.sw2
  refine lv_istore (lv' := [(5, .int r), (0, .ref b), (1, .ref (G 0)), (2, .ref (M 0)), (3, .ref ou), (4, .int (nI (4 * j)))]) cx.x cx.b dL_law_174 hl (by decide) rfl (fun ls hl => ?_)
  refine lv_aload_n cx.x cx.b dL_law_176 rfl (lv_at hl 3 rfl) ?_
  refine lv_aload_n cx.x cx.b dL_law_177 rfl (lv_at hl 1 rfl) ?_
  refine lv_iload cx.x cx.b dL_law_178 (lv_at hl 5 rfl) ?_
  refine lv_iconst (v := 1) cx.x cx.b dL_law_180 (by decide) ?_
  refine lv_iadd cx.x cx.b dL_law_181 ?_
  refine sld cx hw hX (4 * j + 1) (nI_add (4 * j) 1) (by omega) dL_law_182 ?_
  refine lv_aload_n cx.x cx.b dL_law_183 rfl (lv_at hl 1 rfl) ?_
  refine lv_iload cx.x cx.b dL_law_184 (lv_at hl 5 rfl) ?_
  refine lv_iconst (v := 2) cx.x cx.b dL_law_186 (by decide) ?_
  refine lv_iadd cx.x cx.b dL_law_187 ?_
  refine sld cx hw hX (4 * j + 2) (nI_add (4 * j) 2) (by omega) dL_law_188 ?_
  refine cgoF_i cx hw (rV_i (q0 := 0) (n := 2) (As := [.int (xs (4 * j + 1)), .int (xs (4 * j + 2))]) (rest := []) cx hw.r (c_X11_shelf l D M Q σ th fl dv (xs (4 * j + 1)) (xs (4 * j + 2))) (gd_V tw_820 tw_821 tw_822 tw_4 tw_823) rfl ⟨by decide +kernel, rfl, hl.1, (Nat.le_of_ble_eq_true rfl), ⟨(Nat.le_of_ble_eq_true rfl), (Nat.le_of_ble_eq_true rfl)⟩, ⟨by omega, by omega⟩, rfl, rfl⟩ rfl (mw_h σ th fl dv) rfl dL_law_189) (fun r2 u2 H locs hp2 hw => ?_)
  obtain ⟨σ2, th2, fl2, dv2⟩ := u2
  obtain ⟨k1, k2, k3⟩ := hp2
  have e1 : u1 = σ2 := g2.trans k2.symm
  subst e1
  refine lv_istore (lv' := [(6, .int r2), (5, .int r), (0, .ref b), (1, .ref (G 0)), (2, .ref (M 0)), (3, .ref ou), (4, .int (nI (4 * j)))]) cx.x cx.b dL_law_192 hl (by decide) rfl (fun ls hl => ?_)
  refine lv_aload_n cx.x cx.b dL_law_194 rfl (lv_at hl 4 rfl) ?_
  refine cgoF_i cx hw (rV_i (q0 := 0) (n := 0) (As := []) (rest := []) cx hw.r (c_X11_thrown l D M Q u1 th2 fl2 dv2) (gd_V tw_809 tw_810 tw_811 tw_4 tw_812) rfl ⟨by decide +kernel, rfl, hl.1, (Nat.le_of_ble_eq_true rfl), ⟨(Nat.le_of_ble_eq_true rfl), (Nat.le_of_ble_eq_true rfl)⟩, ⟨by omega, by omega⟩, rfl, rfl⟩ rfl (mw_h u1 th2 fl2 dv2) rfl dL_law_195) (fun r3 u3 H locs hp3 hw => ?_)
  obtain ⟨f1, f2⟩ := hp3
  subst f2
  refine lv_iload cx.x cx.b dL_law_198 (lv_at hl 1 rfl) ?_
  refine lv_icmp_eq (tgt := 205) cx.x cx.b dL_law_200 (by decide) (fun _ => ?_) (fun h9 => absurd (f1.trans (k3.trans g1.symm)) h9)
  refine lv_iload cx.x cx.b dL_law_205 (lv_at hl 1 rfl) ?_
  refine lv_if_ne (tgt := 222) cx.x cx.b dL_law_207 (by decide) (fun h9 => ?_) (fun h9 => ?_)
  · refine lv_goto (tgt := 839) cx.x cx.b dL_law_222 (by decide) ?_
    exact W.widen (by omega) (by omega) (kk u1 fo1 th2 fl2 dv2 H locs ls (by rw [g2]; exact inv_shelf hI) hw.sw2 (lv_sub hl [2, 3, 4, 5, 6] rfl))
  · have z0 := (nI_eq (b := 0) (by omega) (by decide)).mp (g1.symm.trans h9)
    refine lv_aload_n cx.x cx.b dL_law_210 rfl (lv_at hl 5 rfl) ?_
    refine lv_iconst (v := 0) cx.x cx.b dL_law_211 (by decide) ?_
    refine ald_l (f := fo1) cx hw 0 3 rfl rfl 0 rfl (by decide) (by decide) dL_law_212 ?_
    refine lv_iload cx.x cx.b dL_law_213 (lv_at hl 0 rfl) ?_
    refine lv_i2l (v := fo1 0) cx.x cx.b dL_law_215 (by rw [k1 z0]; exact (g3 z0).symm) ?_
    refine lc_eq cx dL_law_216 ?_
    refine lv_if_eq (tgt := 222) cx.x cx.b dL_law_217 (by decide) (fun _ => ?_) (fun h9 => absurd rfl h9)
    refine lv_goto (tgt := 839) cx.x cx.b dL_law_222 (by decide) ?_
    exact W.widen (by omega) (by omega) (kk u1 fo1 th2 fl2 dv2 H locs ls (by rw [g2]; exact inv_shelf hI) hw.sw2 (lv_sub hl [2, 3, 4, 5, 6] rfl))
set_option maxHeartbeats 4000000 in
set_option maxRecDepth 100000 in
theorem lw_c2 {p : Program} {e : Env} {s : State} {m : MethodId} {args : Array Value} {below : List Frame} {meth : Method} {c : Code} {H : Heap} {locs : List Loc} {cells slots : Nat} {Qp : State → Prop} {A : Nat → Prop} {ret : Option FieldType} {ls : Array Slot} (l : Launch) (hl0 : l.stackTraces = false) (D : va_G) (G M : Nat → Nat) (Q : Nat → ClassId) {σ : St} {fo : Nat → Int64} {th fl dv : Int32} {b L ou j b0 : Nat} {xs : Nat → Int32} (cx : Fx p s m args meth c A D cls (tyl Q) cL_law 7 "BakeHouseLaw" ret) (hX : va_X b L xs s s.heap ∧ b < s.heap.size ∧ ¬ A b ∧ L ≤ 2048) (hj : 4 * j + 3 < L) (hI : Inv (b0 + 100) σ) (hw : Wd D cls A s H locs (mw M Q (σ, th, fl, dv) ++ kwO G Q ou (σ, fo))) (hl : lv_has ls 7 [(0, .ref b), (1, .ref (G 0)), (2, .ref (M 0)), (3, .ref ou), (4, .int (nI (4 * j)))]) (hc : cells + 20 ≤ room_1.cells) (hs : slots + 120 ≤ room_1.slots)
    (kk : ∀ (σ2 : St) (fo2 : Nat → Int64) (t1 t2 t3 : Int32) (H : Heap) (locs : List Loc) (ls : Array Slot), Inv b0 σ2 → Wd D cls A s H locs (mw M Q (σ2, t1, t2, t3) ++ kwO G Q ou (σ2, fo2)) → lv_has ls 7 [(0, .ref b), (1, .ref (G 0)), (2, .ref (M 0)), (3, .ref ou), (4, .int (nI (4 * j)))] → W p l e room_1 s m args below meth c H locs (cells + 20) (slots + 120) Qp (F0 m 839 ls [])) : W p l e room_1 s m args below meth c H locs cells slots Qp (F0 m 225 ls []) := by
  refine lv_aload_n cx.x cx.b dL_law_225 rfl (lv_at hl 1 rfl) ?_
  refine lv_aload_n cx.x cx.b dL_law_226 rfl (lv_at hl 0 rfl) ?_
  refine lv_iload cx.x cx.b dL_law_227 (lv_at hl 4 rfl) ?_
  refine lv_iconst (v := 1) cx.x cx.b dL_law_229 (by decide) ?_
  refine lv_iadd cx.x cx.b dL_law_230 ?_
  refine sld cx hw hX (4 * j + 1) (nI_add (4 * j) 1) (by omega) dL_law_231 ?_
  have hw : Wd D cls A s H locs ((mw M Q (σ, th, fl, dv) ++ oE Q ou fo) ++ kw G Q σ) := hw.asc
  refine cgoF_i cx hw (rV_i (q0 := 0) (n := 1) (As := [.int (xs (4 * j + 1))]) (rest := []) cx hw.r (c_X10_out l D G Q σ (xs (4 * j + 1))) (gd_V tw_274 tw_275 tw_276 tw_1 tw_277) rfl ⟨by decide +kernel, rfl, hl.1, (Nat.le_of_ble_eq_true rfl), ⟨(Nat.le_of_ble_eq_true rfl), (Nat.le_of_ble_eq_true rfl)⟩, ⟨by omega, by omega⟩, rfl, rfl⟩ rfl (kw_h σ) rfl dL_law_232) (fun r u H locs hp hw => ?_)
  have hw : Wd D cls A s H locs (kwO G Q ou (u, fo) ++ mw M Q (σ, th, fl, dv)) := hw.as2.sw2
  obtain ⟨g1, g2, g3⟩ := hp
  refine lv_aload_n cx.x cx.b dL_law_235 rfl (lv_at hl 2 rfl) ?_
  refine lv_aload_n cx.x cx.b dL_law_236 rfl (lv_at hl 0 rfl) ?_
  refine lv_iload cx.x cx.b dL_law_237 (lv_at hl 4 rfl) ?_
  refine lv_iconst (v := 1) cx.x cx.b dL_law_239 (by decide) ?_
  refine lv_iadd cx.x cx.b dL_law_240 ?_
  refine sld cx hw hX (4 * j + 1) (nI_add (4 * j) 1) (by omega) dL_law_241 ?_
  refine cgoF_i cx hw (rV_i (q0 := 0) (n := 1) (As := [.int (xs (4 * j + 1))]) (rest := [.int r]) cx hw.r (c_X11_out l D M Q σ th fl dv (xs (4 * j + 1))) (gd_V tw_827 tw_828 tw_829 tw_4 tw_830) rfl ⟨by decide +kernel, rfl, hl.1, (Nat.le_of_ble_eq_true rfl), ⟨(Nat.le_of_ble_eq_true rfl), (Nat.le_of_ble_eq_true rfl)⟩, ⟨by omega, by omega⟩, rfl, rfl⟩ rfl (mw_h σ th fl dv) rfl dL_law_242) (fun r2 u2 H locs hp2 hw => ?_)
  obtain ⟨σ2, th2, fl2, dv2⟩ := u2
  obtain ⟨k1, k2, k3⟩ := hp2
  have e1 : u = σ2 := g3.trans k2.symm
  subst e1
  refine lv_icmp_eq (tgt := 839) cx.x cx.b dL_law_245 (by decide) (fun _ => ?_) (fun h9 => absurd (g2.trans (k1 g1).symm) h9)
  exact W.widen (by omega) (by omega) (kk u fo th2 fl2 dv2 H locs ls (by rw [g3]; exact inv_out hI) hw.sw2 hl)
set_option maxHeartbeats 4000000 in
set_option maxRecDepth 100000 in
theorem lw_c3 {p : Program} {e : Env} {s : State} {m : MethodId} {args : Array Value} {below : List Frame} {meth : Method} {c : Code} {H : Heap} {locs : List Loc} {cells slots : Nat} {Qp : State → Prop} {A : Nat → Prop} {ret : Option FieldType} {ls : Array Slot} (l : Launch) (hl0 : l.stackTraces = false) (D : va_G) (G M : Nat → Nat) (Q : Nat → ClassId) {σ : St} {fo : Nat → Int64} {th fl dv : Int32} {b L ou j b0 : Nat} {xs : Nat → Int32} (cx : Fx p s m args meth c A D cls (tyl Q) cL_law 7 "BakeHouseLaw" ret) (hX : va_X b L xs s s.heap ∧ b < s.heap.size ∧ ¬ A b ∧ L ≤ 2048) (hj : 4 * j + 3 < L) (hI : Inv (b0 + 100) σ) (hw : Wd D cls A s H locs (mw M Q (σ, th, fl, dv) ++ kwO G Q ou (σ, fo))) (hl : lv_has ls 7 [(0, .ref b), (1, .ref (G 0)), (2, .ref (M 0)), (3, .ref ou), (4, .int (nI (4 * j)))]) (hc : cells + 20 ≤ room_1.cells) (hs : slots + 120 ≤ room_1.slots)
    (kk : ∀ (σ2 : St) (fo2 : Nat → Int64) (t1 t2 t3 : Int32) (H : Heap) (locs : List Loc) (ls : Array Slot), Inv b0 σ2 → Wd D cls A s H locs (mw M Q (σ2, t1, t2, t3) ++ kwO G Q ou (σ2, fo2)) → lv_has ls 7 [(0, .ref b), (1, .ref (G 0)), (2, .ref (M 0)), (3, .ref ou), (4, .int (nI (4 * j)))] → W p l e room_1 s m args below meth c H locs (cells + 20) (slots + 120) Qp (F0 m 839 ls [])) : W p l e room_1 s m args below meth c H locs cells slots Qp (F0 m 250 ls []) := by
  refine lv_aload_n cx.x cx.b dL_law_250 rfl (lv_at hl 1 rfl) ?_
  refine lv_aload_n cx.x cx.b dL_law_251 rfl (lv_at hl 0 rfl) ?_
  refine lv_iload cx.x cx.b dL_law_252 (lv_at hl 4 rfl) ?_
  refine lv_iconst (v := 1) cx.x cx.b dL_law_254 (by decide) ?_
  refine lv_iadd cx.x cx.b dL_law_255 ?_
  refine sld cx hw hX (4 * j + 1) (nI_add (4 * j) 1) (by omega) dL_law_256 ?_
  refine lv_aload_n cx.x cx.b dL_law_257 rfl (lv_at hl 0 rfl) ?_
  refine lv_iload cx.x cx.b dL_law_258 (lv_at hl 4 rfl) ?_
  refine lv_iconst (v := 2) cx.x cx.b dL_law_260 (by decide) ?_
  refine lv_iadd cx.x cx.b dL_law_261 ?_
  refine sld cx hw hX (4 * j + 2) (nI_add (4 * j) 2) (by omega) dL_law_262 ?_
  refine lv_aload_n cx.x cx.b dL_law_263 rfl (lv_at hl 3 rfl) ?_
  refine cgoF_i cx hw (rSW_i (n := 4) (As := [.ref (G 0), .int (xs (4 * j + 1)), .int (xs (4 * j + 2)), .ref ou]) (rest := []) cx hw.r (c_L_rest l hl0 D G Q σ fo ou hI (xs (4 * j + 1)) (xs (4 * j + 2))) tw_569 tw_570 tw_0 tw_571 ⟨by decide +kernel, rfl, hl.1, (Nat.le_of_ble_eq_true rfl), ⟨(Nat.le_of_ble_eq_true rfl), (Nat.le_of_ble_eq_true rfl)⟩, ⟨by omega, by omega⟩, rfl, rfl⟩ rfl dL_law_264) (fun r u H locs hp hw => ?_)
  obtain ⟨u1, fo1⟩ := u
  obtain ⟨g1, g4, g2, g3⟩ := hp
  have g2 : u1 = _ := g2
  have hw : Wd D cls A s H locs (kwO G Q ou (u1, fo1) ++ mw M Q (σ, th, fl, dv)) := hw.sw2
  refine lv_istore (lv' := [(5, .int r), (0, .ref b), (1, .ref (G 0)), (2, .ref (M 0)), (3, .ref ou), (4, .int (nI (4 * j)))]) cx.x cx.b dL_law_267 hl (by decide) rfl (fun ls hl => ?_)
  refine lv_aload_n cx.x cx.b dL_law_269 rfl (lv_at hl 3 rfl) ?_
  refine lv_aload_n cx.x cx.b dL_law_270 rfl (lv_at hl 1 rfl) ?_
  refine lv_iload cx.x cx.b dL_law_271 (lv_at hl 5 rfl) ?_
  refine lv_iconst (v := 1) cx.x cx.b dL_law_273 (by decide) ?_
  refine lv_iadd cx.x cx.b dL_law_274 ?_
  refine sld cx hw hX (4 * j + 1) (nI_add (4 * j) 1) (by omega) dL_law_275 ?_
  refine lv_aload_n cx.x cx.b dL_law_276 rfl (lv_at hl 1 rfl) ?_
  refine lv_iload cx.x cx.b dL_law_277 (lv_at hl 5 rfl) ?_
  refine lv_iconst (v := 2) cx.x cx.b dL_law_279 (by decide) ?_
  refine lv_iadd cx.x cx.b dL_law_280 ?_
  refine sld cx hw hX (4 * j + 2) (nI_add (4 * j) 2) (by omega) dL_law_281 ?_
  refine cgoF_i cx hw (rV_i (q0 := 0) (n := 2) (As := [.int (xs (4 * j + 1)), .int (xs (4 * j + 2))]) (rest := []) cx hw.r (c_X11_rest l D M Q σ th fl dv hI (xs (4 * j + 1)) (xs (4 * j + 2))) (gd_V tw_831 tw_832 tw_833 tw_4 tw_834) rfl ⟨by decide +kernel, rfl, hl.1, (Nat.le_of_ble_eq_true rfl), ⟨(Nat.le_of_ble_eq_true rfl), (Nat.le_of_ble_eq_true rfl)⟩, ⟨by omega, by omega⟩, rfl, rfl⟩ rfl (mw_h σ th fl dv) rfl dL_law_282) (fun r2 u2 H locs hp2 hw => ?_)
  obtain ⟨σ2, th2, fl2, dv2⟩ := u2
  obtain ⟨k1, k2, k3⟩ := hp2
  have e1 : u1 = σ2 := g2.trans k2.symm
  subst e1
  refine lv_istore (lv' := [(6, .int r2), (5, .int r), (0, .ref b), (1, .ref (G 0)), (2, .ref (M 0)), (3, .ref ou), (4, .int (nI (4 * j)))]) cx.x cx.b dL_law_285 hl (by decide) rfl (fun ls hl => ?_)
  refine lv_aload_n cx.x cx.b dL_law_287 rfl (lv_at hl 4 rfl) ?_
  refine cgoF_i cx hw (rV_i (q0 := 0) (n := 0) (As := []) (rest := []) cx hw.r (c_X11_thrown l D M Q u1 th2 fl2 dv2) (gd_V tw_809 tw_810 tw_811 tw_4 tw_812) rfl ⟨by decide +kernel, rfl, hl.1, (Nat.le_of_ble_eq_true rfl), ⟨(Nat.le_of_ble_eq_true rfl), (Nat.le_of_ble_eq_true rfl)⟩, ⟨by omega, by omega⟩, rfl, rfl⟩ rfl (mw_h u1 th2 fl2 dv2) rfl dL_law_288) (fun r3 u3 H locs hp3 hw => ?_)
  obtain ⟨f1, f2⟩ := hp3
  subst f2
  refine lv_iload cx.x cx.b dL_law_291 (lv_at hl 1 rfl) ?_
  refine lv_icmp_eq (tgt := 298) cx.x cx.b dL_law_293 (by decide) (fun _ => ?_) (fun h9 => absurd (f1.trans (k3.trans g1.symm)) h9)
  refine lv_iload cx.x cx.b dL_law_298 (lv_at hl 1 rfl) ?_
  refine lv_if_ne (tgt := 315) cx.x cx.b dL_law_300 (by decide) (fun h9 => ?_) (fun h9 => ?_)
  · refine lv_goto (tgt := 839) cx.x cx.b dL_law_315 (by decide) ?_
    exact W.widen (by omega) (by omega) (kk u1 fo1 th2 fl2 dv2 H locs ls (by rw [g2]; exact inv_rest hI) hw.sw2 (lv_sub hl [2, 3, 4, 5, 6] rfl))
  · have z0 := (nI_eq (b := 0) (by omega) (by decide)).mp (g1.symm.trans h9)
    refine lv_aload_n cx.x cx.b dL_law_303 rfl (lv_at hl 5 rfl) ?_
    refine lv_iconst (v := 0) cx.x cx.b dL_law_304 (by decide) ?_
    refine ald_l (f := fo1) cx hw 0 3 rfl rfl 0 rfl (by decide) (by decide) dL_law_305 ?_
    refine lv_iload cx.x cx.b dL_law_306 (lv_at hl 0 rfl) ?_
    refine lv_i2l (v := fo1 0) cx.x cx.b dL_law_308 (by rw [k1 z0]; exact (g3 z0).symm) ?_
    refine lc_eq cx dL_law_309 ?_
    refine lv_if_eq (tgt := 315) cx.x cx.b dL_law_310 (by decide) (fun _ => ?_) (fun h9 => absurd rfl h9)
    refine lv_goto (tgt := 839) cx.x cx.b dL_law_315 (by decide) ?_
    exact W.widen (by omega) (by omega) (kk u1 fo1 th2 fl2 dv2 H locs ls (by rw [g2]; exact inv_rest hI) hw.sw2 (lv_sub hl [2, 3, 4, 5, 6] rfl))
set_option maxHeartbeats 4000000 in
set_option maxRecDepth 100000 in
theorem lw_c4 {p : Program} {e : Env} {s : State} {m : MethodId} {args : Array Value} {below : List Frame} {meth : Method} {c : Code} {H : Heap} {locs : List Loc} {cells slots : Nat} {Qp : State → Prop} {A : Nat → Prop} {ret : Option FieldType} {ls : Array Slot} (l : Launch) (hl0 : l.stackTraces = false) (D : va_G) (G M : Nat → Nat) (Q : Nat → ClassId) {σ : St} {fo : Nat → Int64} {th fl dv : Int32} {b L ou j b0 : Nat} {xs : Nat → Int32} (cx : Fx p s m args meth c A D cls (tyl Q) cL_law 7 "BakeHouseLaw" ret) (hX : va_X b L xs s s.heap ∧ b < s.heap.size ∧ ¬ A b ∧ L ≤ 2048) (hj : 4 * j + 3 < L) (hI : Inv (b0 + 100) σ) (hw : Wd D cls A s H locs (mw M Q (σ, th, fl, dv) ++ kwO G Q ou (σ, fo))) (hl : lv_has ls 7 [(0, .ref b), (1, .ref (G 0)), (2, .ref (M 0)), (3, .ref ou), (4, .int (nI (4 * j)))]) (hc : cells + 20 ≤ room_1.cells) (hs : slots + 120 ≤ room_1.slots)
    (kk : ∀ (σ2 : St) (fo2 : Nat → Int64) (t1 t2 t3 : Int32) (H : Heap) (locs : List Loc) (ls : Array Slot), Inv b0 σ2 → Wd D cls A s H locs (mw M Q (σ2, t1, t2, t3) ++ kwO G Q ou (σ2, fo2)) → lv_has ls 7 [(0, .ref b), (1, .ref (G 0)), (2, .ref (M 0)), (3, .ref ou), (4, .int (nI (4 * j)))] → W p l e room_1 s m args below meth c H locs (cells + 20) (slots + 120) Qp (F0 m 839 ls [])) : W p l e room_1 s m args below meth c H locs cells slots Qp (F0 m 318 ls []) := by
  refine lv_aload_n cx.x cx.b dL_law_318 rfl (lv_at hl 1 rfl) ?_
  refine lv_aload_n cx.x cx.b dL_law_319 rfl (lv_at hl 0 rfl) ?_
  refine lv_iload cx.x cx.b dL_law_320 (lv_at hl 4 rfl) ?_
  refine lv_iconst (v := 1) cx.x cx.b dL_law_322 (by decide) ?_
  refine lv_iadd cx.x cx.b dL_law_323 ?_
  refine sld cx hw hX (4 * j + 1) (nI_add (4 * j) 1) (by omega) dL_law_324 ?_
  have hw : Wd D cls A s H locs ((mw M Q (σ, th, fl, dv) ++ oE Q ou fo) ++ kw G Q σ) := hw.asc
  refine cgoF_i cx hw (rV_i (q0 := 0) (n := 1) (As := [.int (xs (4 * j + 1))]) (rest := []) cx hw.r (c_X10_fold l D G Q σ hI (xs (4 * j + 1))) (gd_V tw_290 tw_291 tw_292 tw_1 tw_293) rfl ⟨by decide +kernel, rfl, hl.1, (Nat.le_of_ble_eq_true rfl), ⟨(Nat.le_of_ble_eq_true rfl), (Nat.le_of_ble_eq_true rfl)⟩, ⟨by omega, by omega⟩, rfl, rfl⟩ rfl (kw_h σ) rfl dL_law_325) (fun r u H locs hp hw => ?_)
  have hw : Wd D cls A s H locs (kwO G Q ou (u, fo) ++ mw M Q (σ, th, fl, dv)) := hw.as2.sw2
  obtain ⟨g1, g2, g3⟩ := hp
  refine lv_aload_n cx.x cx.b dL_law_328 rfl (lv_at hl 2 rfl) ?_
  refine lv_aload_n cx.x cx.b dL_law_329 rfl (lv_at hl 0 rfl) ?_
  refine lv_iload cx.x cx.b dL_law_330 (lv_at hl 4 rfl) ?_
  refine lv_iconst (v := 1) cx.x cx.b dL_law_332 (by decide) ?_
  refine lv_iadd cx.x cx.b dL_law_333 ?_
  refine sld cx hw hX (4 * j + 1) (nI_add (4 * j) 1) (by omega) dL_law_334 ?_
  refine cgoF_i cx hw (rV_i (q0 := 0) (n := 1) (As := [.int (xs (4 * j + 1))]) (rest := [.int r]) cx hw.r (c_X11_fold l D M Q σ th fl dv hI (xs (4 * j + 1))) (gd_V tw_859 tw_860 tw_861 tw_4 tw_862) rfl ⟨by decide +kernel, rfl, hl.1, (Nat.le_of_ble_eq_true rfl), ⟨(Nat.le_of_ble_eq_true rfl), (Nat.le_of_ble_eq_true rfl)⟩, ⟨by omega, by omega⟩, rfl, rfl⟩ rfl (mw_h σ th fl dv) rfl dL_law_335) (fun r2 u2 H locs hp2 hw => ?_)
  obtain ⟨σ2, th2, fl2, dv2⟩ := u2
  obtain ⟨k1, k2, k3⟩ := hp2
  have e1 : u = σ2 := g3.trans k2.symm
  subst e1
  refine lv_icmp_eq (tgt := 839) cx.x cx.b dL_law_338 (by decide) (fun _ => ?_) (fun h9 => absurd (g2.trans (k1 g1).symm) h9)
  exact W.widen (by omega) (by omega) (kk u fo th2 fl2 dv2 H locs ls (by rw [g3]; exact inv_fold hI) hw.sw2 hl)
set_option maxHeartbeats 4000000 in
set_option maxRecDepth 100000 in
theorem lw_c5 {p : Program} {e : Env} {s : State} {m : MethodId} {args : Array Value} {below : List Frame} {meth : Method} {c : Code} {H : Heap} {locs : List Loc} {cells slots : Nat} {Qp : State → Prop} {A : Nat → Prop} {ret : Option FieldType} {ls : Array Slot} (l : Launch) (hl0 : l.stackTraces = false) (D : va_G) (G M : Nat → Nat) (Q : Nat → ClassId) {σ : St} {fo : Nat → Int64} {th fl dv : Int32} {b L ou j b0 : Nat} {xs : Nat → Int32} (cx : Fx p s m args meth c A D cls (tyl Q) cL_law 7 "BakeHouseLaw" ret) (hX : va_X b L xs s s.heap ∧ b < s.heap.size ∧ ¬ A b ∧ L ≤ 2048) (hj : 4 * j + 3 < L) (hI : Inv (b0 + 100) σ) (hw : Wd D cls A s H locs (mw M Q (σ, th, fl, dv) ++ kwO G Q ou (σ, fo))) (hl : lv_has ls 7 [(0, .ref b), (1, .ref (G 0)), (2, .ref (M 0)), (3, .ref ou), (4, .int (nI (4 * j)))]) (hc : cells + 20 ≤ room_1.cells) (hs : slots + 120 ≤ room_1.slots)
    (kk : ∀ (σ2 : St) (fo2 : Nat → Int64) (t1 t2 t3 : Int32) (H : Heap) (locs : List Loc) (ls : Array Slot), Inv b0 σ2 → Wd D cls A s H locs (mw M Q (σ2, t1, t2, t3) ++ kwO G Q ou (σ2, fo2)) → lv_has ls 7 [(0, .ref b), (1, .ref (G 0)), (2, .ref (M 0)), (3, .ref ou), (4, .int (nI (4 * j)))] → W p l e room_1 s m args below meth c H locs (cells + 20) (slots + 120) Qp (F0 m 839 ls [])) : W p l e room_1 s m args below meth c H locs cells slots Qp (F0 m 343 ls []) := by
  refine lv_aload_n cx.x cx.b dL_law_343 rfl (lv_at hl 1 rfl) ?_
  refine lv_aload_n cx.x cx.b dL_law_344 rfl (lv_at hl 0 rfl) ?_
  refine lv_iload cx.x cx.b dL_law_345 (lv_at hl 4 rfl) ?_
  refine lv_iconst (v := 1) cx.x cx.b dL_law_347 (by decide) ?_
  refine lv_iadd cx.x cx.b dL_law_348 ?_
  refine sld cx hw hX (4 * j + 1) (nI_add (4 * j) 1) (by omega) dL_law_349 ?_
  refine lv_aload_n cx.x cx.b dL_law_350 rfl (lv_at hl 0 rfl) ?_
  refine lv_iload cx.x cx.b dL_law_351 (lv_at hl 4 rfl) ?_
  refine lv_iconst (v := 2) cx.x cx.b dL_law_353 (by decide) ?_
  refine lv_iadd cx.x cx.b dL_law_354 ?_
  refine sld cx hw hX (4 * j + 2) (nI_add (4 * j) 2) (by omega) dL_law_355 ?_
  refine lv_aload_n cx.x cx.b dL_law_356 rfl (lv_at hl 0 rfl) ?_
  refine lv_iload cx.x cx.b dL_law_357 (lv_at hl 4 rfl) ?_
  refine lv_iconst (v := 3) cx.x cx.b dL_law_359 (by decide) ?_
  refine lv_iadd cx.x cx.b dL_law_360 ?_
  refine sld cx hw hX (4 * j + 3) (nI_add (4 * j) 3) (by omega) dL_law_361 ?_
  refine lv_aload_n cx.x cx.b dL_law_362 rfl (lv_at hl 3 rfl) ?_
  refine cgoF_i cx hw (rSW_i (n := 5) (As := [.ref (G 0), .int (xs (4 * j + 1)), .int (xs (4 * j + 2)), .int (xs (4 * j + 3)), .ref ou]) (rest := []) cx hw.r (c_L_lay l hl0 D G Q σ fo ou hI (xs (4 * j + 1)) (xs (4 * j + 2)) (xs (4 * j + 3))) tw_577 tw_578 tw_0 tw_579 ⟨by decide +kernel, rfl, hl.1, (Nat.le_of_ble_eq_true rfl), ⟨(Nat.le_of_ble_eq_true rfl), (Nat.le_of_ble_eq_true rfl)⟩, ⟨by omega, by omega⟩, rfl, rfl⟩ rfl dL_law_363) (fun r u H locs hp hw => ?_)
  obtain ⟨u1, fo1⟩ := u
  obtain ⟨g1, g4, g2, g3⟩ := hp
  have g2 : u1 = _ := g2
  have hw : Wd D cls A s H locs (kwO G Q ou (u1, fo1) ++ mw M Q (σ, th, fl, dv)) := hw.sw2
  refine lv_istore (lv' := [(5, .int r), (0, .ref b), (1, .ref (G 0)), (2, .ref (M 0)), (3, .ref ou), (4, .int (nI (4 * j)))]) cx.x cx.b dL_law_366 hl (by decide) rfl (fun ls hl => ?_)
  refine lv_aload_n cx.x cx.b dL_law_368 rfl (lv_at hl 3 rfl) ?_
  refine lv_aload_n cx.x cx.b dL_law_369 rfl (lv_at hl 1 rfl) ?_
  refine lv_iload cx.x cx.b dL_law_370 (lv_at hl 5 rfl) ?_
  refine lv_iconst (v := 1) cx.x cx.b dL_law_372 (by decide) ?_
  refine lv_iadd cx.x cx.b dL_law_373 ?_
  refine sld cx hw hX (4 * j + 1) (nI_add (4 * j) 1) (by omega) dL_law_374 ?_
  refine lv_aload_n cx.x cx.b dL_law_375 rfl (lv_at hl 1 rfl) ?_
  refine lv_iload cx.x cx.b dL_law_376 (lv_at hl 5 rfl) ?_
  refine lv_iconst (v := 2) cx.x cx.b dL_law_378 (by decide) ?_
  refine lv_iadd cx.x cx.b dL_law_379 ?_
  refine sld cx hw hX (4 * j + 2) (nI_add (4 * j) 2) (by omega) dL_law_380 ?_
  refine lv_aload_n cx.x cx.b dL_law_381 rfl (lv_at hl 1 rfl) ?_
  refine lv_iload cx.x cx.b dL_law_382 (lv_at hl 5 rfl) ?_
  refine lv_iconst (v := 3) cx.x cx.b dL_law_384 (by decide) ?_
  refine lv_iadd cx.x cx.b dL_law_385 ?_
  refine sld cx hw hX (4 * j + 3) (nI_add (4 * j) 3) (by omega) dL_law_386 ?_
  refine cgoF_i cx hw (rV_i (q0 := 0) (n := 3) (As := [.int (xs (4 * j + 1)), .int (xs (4 * j + 2)), .int (xs (4 * j + 3))]) (rest := []) cx hw.r (c_X11_lay l D M Q σ th fl dv hI (xs (4 * j + 1)) (xs (4 * j + 2)) (xs (4 * j + 3))) (gd_V tw_871 tw_872 tw_873 tw_4 tw_874) rfl ⟨by decide +kernel, rfl, hl.1, (Nat.le_of_ble_eq_true rfl), ⟨(Nat.le_of_ble_eq_true rfl), (Nat.le_of_ble_eq_true rfl)⟩, ⟨by omega, by omega⟩, rfl, rfl⟩ rfl (mw_h σ th fl dv) rfl dL_law_387) (fun r2 u2 H locs hp2 hw => ?_)
  obtain ⟨σ2, th2, fl2, dv2⟩ := u2
  obtain ⟨k1, k2, k3⟩ := hp2
  have e1 : u1 = σ2 := g2.trans k2.symm
  subst e1
  refine lv_istore (lv' := [(6, .int r2), (5, .int r), (0, .ref b), (1, .ref (G 0)), (2, .ref (M 0)), (3, .ref ou), (4, .int (nI (4 * j)))]) cx.x cx.b dL_law_390 hl (by decide) rfl (fun ls hl => ?_)
  refine lv_aload_n cx.x cx.b dL_law_392 rfl (lv_at hl 4 rfl) ?_
  refine cgoF_i cx hw (rV_i (q0 := 0) (n := 0) (As := []) (rest := []) cx hw.r (c_X11_thrown l D M Q u1 th2 fl2 dv2) (gd_V tw_809 tw_810 tw_811 tw_4 tw_812) rfl ⟨by decide +kernel, rfl, hl.1, (Nat.le_of_ble_eq_true rfl), ⟨(Nat.le_of_ble_eq_true rfl), (Nat.le_of_ble_eq_true rfl)⟩, ⟨by omega, by omega⟩, rfl, rfl⟩ rfl (mw_h u1 th2 fl2 dv2) rfl dL_law_393) (fun r3 u3 H locs hp3 hw => ?_)
  obtain ⟨f1, f2⟩ := hp3
  subst f2
  refine lv_iload cx.x cx.b dL_law_396 (lv_at hl 1 rfl) ?_
  refine lv_icmp_eq (tgt := 403) cx.x cx.b dL_law_398 (by decide) (fun _ => ?_) (fun h9 => absurd (f1.trans (k3.trans g1.symm)) h9)
  refine lv_iload cx.x cx.b dL_law_403 (lv_at hl 1 rfl) ?_
  refine lv_if_ne (tgt := 420) cx.x cx.b dL_law_405 (by decide) (fun h9 => ?_) (fun h9 => ?_)
  · refine lv_goto (tgt := 839) cx.x cx.b dL_law_420 (by decide) ?_
    exact W.widen (by omega) (by omega) (kk u1 fo1 th2 fl2 dv2 H locs ls (by rw [g2]; exact inv_lay hI) hw.sw2 (lv_sub hl [2, 3, 4, 5, 6] rfl))
  · have z0 := (nI_eq (b := 0) (by omega) (by decide)).mp (g1.symm.trans h9)
    refine lv_aload_n cx.x cx.b dL_law_408 rfl (lv_at hl 5 rfl) ?_
    refine lv_iconst (v := 0) cx.x cx.b dL_law_409 (by decide) ?_
    refine ald_l (f := fo1) cx hw 0 3 rfl rfl 0 rfl (by decide) (by decide) dL_law_410 ?_
    refine lv_iload cx.x cx.b dL_law_411 (lv_at hl 0 rfl) ?_
    refine lv_i2l (v := fo1 0) cx.x cx.b dL_law_413 (by rw [k1 z0]; exact (g3 z0).symm) ?_
    refine lc_eq cx dL_law_414 ?_
    refine lv_if_eq (tgt := 420) cx.x cx.b dL_law_415 (by decide) (fun _ => ?_) (fun h9 => absurd rfl h9)
    refine lv_goto (tgt := 839) cx.x cx.b dL_law_420 (by decide) ?_
    exact W.widen (by omega) (by omega) (kk u1 fo1 th2 fl2 dv2 H locs ls (by rw [g2]; exact inv_lay hI) hw.sw2 (lv_sub hl [2, 3, 4, 5, 6] rfl))
set_option maxHeartbeats 4000000 in
set_option maxRecDepth 100000 in
theorem lw_c6 {p : Program} {e : Env} {s : State} {m : MethodId} {args : Array Value} {below : List Frame} {meth : Method} {c : Code} {H : Heap} {locs : List Loc} {cells slots : Nat} {Qp : State → Prop} {A : Nat → Prop} {ret : Option FieldType} {ls : Array Slot} (l : Launch) (hl0 : l.stackTraces = false) (D : va_G) (G M : Nat → Nat) (Q : Nat → ClassId) {σ : St} {fo : Nat → Int64} {th fl dv : Int32} {b L ou j b0 : Nat} {xs : Nat → Int32} (cx : Fx p s m args meth c A D cls (tyl Q) cL_law 7 "BakeHouseLaw" ret) (hX : va_X b L xs s s.heap ∧ b < s.heap.size ∧ ¬ A b ∧ L ≤ 2048) (hj : 4 * j + 3 < L) (hI : Inv (b0 + 100) σ) (hw : Wd D cls A s H locs (mw M Q (σ, th, fl, dv) ++ kwO G Q ou (σ, fo))) (hl : lv_has ls 7 [(0, .ref b), (1, .ref (G 0)), (2, .ref (M 0)), (3, .ref ou), (4, .int (nI (4 * j)))]) (hc : cells + 20 ≤ room_1.cells) (hs : slots + 120 ≤ room_1.slots)
    (kk : ∀ (σ2 : St) (fo2 : Nat → Int64) (t1 t2 t3 : Int32) (H : Heap) (locs : List Loc) (ls : Array Slot), Inv b0 σ2 → Wd D cls A s H locs (mw M Q (σ2, t1, t2, t3) ++ kwO G Q ou (σ2, fo2)) → lv_has ls 7 [(0, .ref b), (1, .ref (G 0)), (2, .ref (M 0)), (3, .ref ou), (4, .int (nI (4 * j)))] → W p l e room_1 s m args below meth c H locs (cells + 20) (slots + 120) Qp (F0 m 839 ls [])) : W p l e room_1 s m args below meth c H locs cells slots Qp (F0 m 423 ls []) := by
  refine lv_aload_n cx.x cx.b dL_law_423 rfl (lv_at hl 1 rfl) ?_
  refine lv_aload_n cx.x cx.b dL_law_424 rfl (lv_at hl 0 rfl) ?_
  refine lv_iload cx.x cx.b dL_law_425 (lv_at hl 4 rfl) ?_
  refine lv_iconst (v := 1) cx.x cx.b dL_law_427 (by decide) ?_
  refine lv_iadd cx.x cx.b dL_law_428 ?_
  refine sld cx hw hX (4 * j + 1) (nI_add (4 * j) 1) (by omega) dL_law_429 ?_
  refine lv_aload_n cx.x cx.b dL_law_430 rfl (lv_at hl 0 rfl) ?_
  refine lv_iload cx.x cx.b dL_law_431 (lv_at hl 4 rfl) ?_
  refine lv_iconst (v := 2) cx.x cx.b dL_law_433 (by decide) ?_
  refine lv_iadd cx.x cx.b dL_law_434 ?_
  refine sld cx hw hX (4 * j + 2) (nI_add (4 * j) 2) (by omega) dL_law_435 ?_
  have hw : Wd D cls A s H locs ((mw M Q (σ, th, fl, dv) ++ oE Q ou fo) ++ kw G Q σ) := hw.asc
  refine cgoF_i cx hw (rV_i (q0 := 0) (n := 2) (As := [.int (xs (4 * j + 1)), .int (xs (4 * j + 2))]) (rest := []) cx hw.r (c_X10_bake l D G Q σ hI (xs (4 * j + 1)) (xs (4 * j + 2))) (gd_V tw_331 tw_332 tw_333 tw_1 tw_334) rfl ⟨by decide +kernel, rfl, hl.1, (Nat.le_of_ble_eq_true rfl), ⟨(Nat.le_of_ble_eq_true rfl), (Nat.le_of_ble_eq_true rfl)⟩, ⟨by omega, by omega⟩, rfl, rfl⟩ rfl (kw_h σ) rfl dL_law_436) (fun r u H locs hp hw => ?_)
  have hw : Wd D cls A s H locs (kwO G Q ou (u, fo) ++ mw M Q (σ, th, fl, dv)) := hw.as2.sw2
  obtain ⟨g1, g2, g3⟩ := hp
  refine lv_aload_n cx.x cx.b dL_law_439 rfl (lv_at hl 2 rfl) ?_
  refine lv_aload_n cx.x cx.b dL_law_440 rfl (lv_at hl 0 rfl) ?_
  refine lv_iload cx.x cx.b dL_law_441 (lv_at hl 4 rfl) ?_
  refine lv_iconst (v := 1) cx.x cx.b dL_law_443 (by decide) ?_
  refine lv_iadd cx.x cx.b dL_law_444 ?_
  refine sld cx hw hX (4 * j + 1) (nI_add (4 * j) 1) (by omega) dL_law_445 ?_
  refine lv_aload_n cx.x cx.b dL_law_446 rfl (lv_at hl 0 rfl) ?_
  refine lv_iload cx.x cx.b dL_law_447 (lv_at hl 4 rfl) ?_
  refine lv_iconst (v := 2) cx.x cx.b dL_law_449 (by decide) ?_
  refine lv_iadd cx.x cx.b dL_law_450 ?_
  refine sld cx hw hX (4 * j + 2) (nI_add (4 * j) 2) (by omega) dL_law_451 ?_
  refine cgoF_i cx hw (rV_i (q0 := 0) (n := 2) (As := [.int (xs (4 * j + 1)), .int (xs (4 * j + 2))]) (rest := [.int r]) cx hw.r (c_X11_bake l D M Q σ th fl dv hI (xs (4 * j + 1)) (xs (4 * j + 2))) (gd_V tw_883 tw_884 tw_885 tw_4 tw_886) rfl ⟨by decide +kernel, rfl, hl.1, (Nat.le_of_ble_eq_true rfl), ⟨(Nat.le_of_ble_eq_true rfl), (Nat.le_of_ble_eq_true rfl)⟩, ⟨by omega, by omega⟩, rfl, rfl⟩ rfl (mw_h σ th fl dv) rfl dL_law_452) (fun r2 u2 H locs hp2 hw => ?_)
  obtain ⟨σ2, th2, fl2, dv2⟩ := u2
  obtain ⟨k1, k2, k3⟩ := hp2
  have e1 : u = σ2 := g3.trans k2.symm
  subst e1
  refine lv_icmp_eq (tgt := 839) cx.x cx.b dL_law_455 (by decide) (fun _ => ?_) (fun h9 => absurd (g2.trans (k1 g1).symm) h9)
  exact W.widen (by omega) (by omega) (kk u fo th2 fl2 dv2 H locs ls (by rw [g3]; exact inv_bake hI) hw.sw2 hl)
set_option maxHeartbeats 4000000 in
set_option maxRecDepth 100000 in
theorem lw_c7 {p : Program} {e : Env} {s : State} {m : MethodId} {args : Array Value} {below : List Frame} {meth : Method} {c : Code} {H : Heap} {locs : List Loc} {cells slots : Nat} {Qp : State → Prop} {A : Nat → Prop} {ret : Option FieldType} {ls : Array Slot} (l : Launch) (hl0 : l.stackTraces = false) (D : va_G) (G M : Nat → Nat) (Q : Nat → ClassId) {σ : St} {fo : Nat → Int64} {th fl dv : Int32} {b L ou j b0 : Nat} {xs : Nat → Int32} (cx : Fx p s m args meth c A D cls (tyl Q) cL_law 7 "BakeHouseLaw" ret) (hX : va_X b L xs s s.heap ∧ b < s.heap.size ∧ ¬ A b ∧ L ≤ 2048) (hj : 4 * j + 3 < L) (hI : Inv (b0 + 100) σ) (hw : Wd D cls A s H locs (mw M Q (σ, th, fl, dv) ++ kwO G Q ou (σ, fo))) (hl : lv_has ls 7 [(0, .ref b), (1, .ref (G 0)), (2, .ref (M 0)), (3, .ref ou), (4, .int (nI (4 * j)))]) (hc : cells + 20 ≤ room_1.cells) (hs : slots + 120 ≤ room_1.slots)
    (kk : ∀ (σ2 : St) (fo2 : Nat → Int64) (t1 t2 t3 : Int32) (H : Heap) (locs : List Loc) (ls : Array Slot), Inv b0 σ2 → Wd D cls A s H locs (mw M Q (σ2, t1, t2, t3) ++ kwO G Q ou (σ2, fo2)) → lv_has ls 7 [(0, .ref b), (1, .ref (G 0)), (2, .ref (M 0)), (3, .ref ou), (4, .int (nI (4 * j)))] → W p l e room_1 s m args below meth c H locs (cells + 20) (slots + 120) Qp (F0 m 839 ls [])) : W p l e room_1 s m args below meth c H locs cells slots Qp (F0 m 460 ls []) := by
  refine lv_aload_n cx.x cx.b dL_law_460 rfl (lv_at hl 1 rfl) ?_
  refine lv_aload_n cx.x cx.b dL_law_461 rfl (lv_at hl 0 rfl) ?_
  refine lv_iload cx.x cx.b dL_law_462 (lv_at hl 4 rfl) ?_
  refine lv_iconst (v := 1) cx.x cx.b dL_law_464 (by decide) ?_
  refine lv_iadd cx.x cx.b dL_law_465 ?_
  refine sld cx hw hX (4 * j + 1) (nI_add (4 * j) 1) (by omega) dL_law_466 ?_
  refine lv_aload_n cx.x cx.b dL_law_467 rfl (lv_at hl 3 rfl) ?_
  refine cgoF_i cx hw (rSW_i (n := 3) (As := [.ref (G 0), .int (xs (4 * j + 1)), .ref ou]) (rest := []) cx hw.r (c_L_worth l hl0 D G Q σ fo ou hI (xs (4 * j + 1))) tw_676 tw_677 tw_0 tw_678 ⟨by decide +kernel, rfl, hl.1, (Nat.le_of_ble_eq_true rfl), ⟨(Nat.le_of_ble_eq_true rfl), (Nat.le_of_ble_eq_true rfl)⟩, ⟨by omega, by omega⟩, rfl, rfl⟩ rfl dL_law_468) (fun r u H locs hp hw => ?_)
  obtain ⟨u1, fo1⟩ := u
  obtain ⟨g1, g4, g2, g3⟩ := hp
  have g2 : u1 = _ := g2
  have hw : Wd D cls A s H locs (kwO G Q ou (u1, fo1) ++ mw M Q (σ, th, fl, dv)) := hw.sw2
  refine lv_istore (lv' := [(5, .int r), (0, .ref b), (1, .ref (G 0)), (2, .ref (M 0)), (3, .ref ou), (4, .int (nI (4 * j)))]) cx.x cx.b dL_law_471 hl (by decide) rfl (fun ls hl => ?_)
  refine lv_aload_n cx.x cx.b dL_law_473 rfl (lv_at hl 3 rfl) ?_
  refine lv_aload_n cx.x cx.b dL_law_474 rfl (lv_at hl 1 rfl) ?_
  refine lv_iload cx.x cx.b dL_law_475 (lv_at hl 5 rfl) ?_
  refine lv_iconst (v := 1) cx.x cx.b dL_law_477 (by decide) ?_
  refine lv_iadd cx.x cx.b dL_law_478 ?_
  refine sld cx hw hX (4 * j + 1) (nI_add (4 * j) 1) (by omega) dL_law_479 ?_
  refine cgoF_i cx hw (rV_i (q0 := 0) (n := 1) (As := [.int (xs (4 * j + 1))]) (rest := []) cx hw.r (c_X11_worth l D M Q σ th fl dv hI (xs (4 * j + 1))) (gd_V tw_895 tw_896 tw_897 tw_4 tw_898) rfl ⟨by decide +kernel, rfl, hl.1, (Nat.le_of_ble_eq_true rfl), ⟨(Nat.le_of_ble_eq_true rfl), (Nat.le_of_ble_eq_true rfl)⟩, ⟨by omega, by omega⟩, rfl, rfl⟩ rfl (mw_h σ th fl dv) rfl dL_law_480) (fun r2 u2 H locs hp2 hw => ?_)
  obtain ⟨σ2, th2, fl2, dv2⟩ := u2
  obtain ⟨k1, k2, k3⟩ := hp2
  have e1 : u1 = σ2 := g2.trans k2.symm
  subst e1
  refine lv_istore (lv' := [(6, .int r2), (5, .int r), (0, .ref b), (1, .ref (G 0)), (2, .ref (M 0)), (3, .ref ou), (4, .int (nI (4 * j)))]) cx.x cx.b dL_law_483 hl (by decide) rfl (fun ls hl => ?_)
  refine lv_aload_n cx.x cx.b dL_law_485 rfl (lv_at hl 4 rfl) ?_
  refine cgoF_i cx hw (rV_i (q0 := 0) (n := 0) (As := []) (rest := []) cx hw.r (c_X11_thrown l D M Q u1 th2 fl2 dv2) (gd_V tw_809 tw_810 tw_811 tw_4 tw_812) rfl ⟨by decide +kernel, rfl, hl.1, (Nat.le_of_ble_eq_true rfl), ⟨(Nat.le_of_ble_eq_true rfl), (Nat.le_of_ble_eq_true rfl)⟩, ⟨by omega, by omega⟩, rfl, rfl⟩ rfl (mw_h u1 th2 fl2 dv2) rfl dL_law_486) (fun r3 u3 H locs hp3 hw => ?_)
  obtain ⟨f1, f2⟩ := hp3
  subst f2
  refine lv_iload cx.x cx.b dL_law_489 (lv_at hl 1 rfl) ?_
  refine lv_icmp_eq (tgt := 496) cx.x cx.b dL_law_491 (by decide) (fun _ => ?_) (fun h9 => absurd (f1.trans (k3.trans g1.symm)) h9)
  refine lv_iload cx.x cx.b dL_law_496 (lv_at hl 1 rfl) ?_
  refine lv_if_ne (tgt := 513) cx.x cx.b dL_law_498 (by decide) (fun h9 => ?_) (fun h9 => ?_)
  · refine lv_goto (tgt := 839) cx.x cx.b dL_law_513 (by decide) ?_
    exact W.widen (by omega) (by omega) (kk u1 fo1 th2 fl2 dv2 H locs ls (by rw [g2]; exact inv_worth hI) hw.sw2 (lv_sub hl [2, 3, 4, 5, 6] rfl))
  · have z0 := (nI_eq (b := 0) (by omega) (by decide)).mp (g1.symm.trans h9)
    refine lv_aload_n cx.x cx.b dL_law_501 rfl (lv_at hl 5 rfl) ?_
    refine lv_iconst (v := 0) cx.x cx.b dL_law_502 (by decide) ?_
    refine ald_l (f := fo1) cx hw 0 3 rfl rfl 0 rfl (by decide) (by decide) dL_law_503 ?_
    refine lv_iload cx.x cx.b dL_law_504 (lv_at hl 0 rfl) ?_
    refine lv_i2l (v := fo1 0) cx.x cx.b dL_law_506 (by rw [k1 z0]; exact (g3 z0).symm) ?_
    refine lc_eq cx dL_law_507 ?_
    refine lv_if_eq (tgt := 513) cx.x cx.b dL_law_508 (by decide) (fun _ => ?_) (fun h9 => absurd rfl h9)
    refine lv_goto (tgt := 839) cx.x cx.b dL_law_513 (by decide) ?_
    exact W.widen (by omega) (by omega) (kk u1 fo1 th2 fl2 dv2 H locs ls (by rw [g2]; exact inv_worth hI) hw.sw2 (lv_sub hl [2, 3, 4, 5, 6] rfl))
set_option maxHeartbeats 4000000 in
set_option maxRecDepth 100000 in
theorem lw_c8 {p : Program} {e : Env} {s : State} {m : MethodId} {args : Array Value} {below : List Frame} {meth : Method} {c : Code} {H : Heap} {locs : List Loc} {cells slots : Nat} {Qp : State → Prop} {A : Nat → Prop} {ret : Option FieldType} {ls : Array Slot} (l : Launch) (hl0 : l.stackTraces = false) (D : va_G) (G M : Nat → Nat) (Q : Nat → ClassId) {σ : St} {fo : Nat → Int64} {th fl dv : Int32} {b L ou j b0 : Nat} {xs : Nat → Int32} (cx : Fx p s m args meth c A D cls (tyl Q) cL_law 7 "BakeHouseLaw" ret) (hX : va_X b L xs s s.heap ∧ b < s.heap.size ∧ ¬ A b ∧ L ≤ 2048) (hj : 4 * j + 3 < L) (hI : Inv (b0 + 100) σ) (hw : Wd D cls A s H locs (mw M Q (σ, th, fl, dv) ++ kwO G Q ou (σ, fo))) (hl : lv_has ls 7 [(0, .ref b), (1, .ref (G 0)), (2, .ref (M 0)), (3, .ref ou), (4, .int (nI (4 * j)))]) (hc : cells + 20 ≤ room_1.cells) (hs : slots + 120 ≤ room_1.slots)
    (kk : ∀ (σ2 : St) (fo2 : Nat → Int64) (t1 t2 t3 : Int32) (H : Heap) (locs : List Loc) (ls : Array Slot), Inv b0 σ2 → Wd D cls A s H locs (mw M Q (σ2, t1, t2, t3) ++ kwO G Q ou (σ2, fo2)) → lv_has ls 7 [(0, .ref b), (1, .ref (G 0)), (2, .ref (M 0)), (3, .ref ou), (4, .int (nI (4 * j)))] → W p l e room_1 s m args below meth c H locs (cells + 20) (slots + 120) Qp (F0 m 839 ls [])) : W p l e room_1 s m args below meth c H locs cells slots Qp (F0 m 516 ls []) := by
  refine lv_aload_n cx.x cx.b dL_law_516 rfl (lv_at hl 1 rfl) ?_
  refine lv_aload_n cx.x cx.b dL_law_517 rfl (lv_at hl 0 rfl) ?_
  refine lv_iload cx.x cx.b dL_law_518 (lv_at hl 4 rfl) ?_
  refine lv_iconst (v := 1) cx.x cx.b dL_law_520 (by decide) ?_
  refine lv_iadd cx.x cx.b dL_law_521 ?_
  refine sld cx hw hX (4 * j + 1) (nI_add (4 * j) 1) (by omega) dL_law_522 ?_
  refine lv_aload_n cx.x cx.b dL_law_523 rfl (lv_at hl 3 rfl) ?_
  refine cgoF_i cx hw (rSW_i (n := 3) (As := [.ref (G 0), .int (xs (4 * j + 1)), .ref ou]) (rest := []) cx hw.r (c_L_cost l hl0 D G Q σ fo ou hI (xs (4 * j + 1))) tw_730 tw_731 tw_0 tw_732 ⟨by decide +kernel, rfl, hl.1, (Nat.le_of_ble_eq_true rfl), ⟨(Nat.le_of_ble_eq_true rfl), (Nat.le_of_ble_eq_true rfl)⟩, ⟨by omega, by omega⟩, rfl, rfl⟩ rfl dL_law_524) (fun r u H locs hp hw => ?_)
  obtain ⟨u1, fo1⟩ := u
  obtain ⟨g1, g4, g2, g3⟩ := hp
  have g2 : u1 = _ := g2
  have hw : Wd D cls A s H locs (kwO G Q ou (u1, fo1) ++ mw M Q (σ, th, fl, dv)) := hw.sw2
  refine lv_istore (lv' := [(5, .int r), (0, .ref b), (1, .ref (G 0)), (2, .ref (M 0)), (3, .ref ou), (4, .int (nI (4 * j)))]) cx.x cx.b dL_law_527 hl (by decide) rfl (fun ls hl => ?_)
  refine lv_aload_n cx.x cx.b dL_law_529 rfl (lv_at hl 3 rfl) ?_
  refine lv_aload_n cx.x cx.b dL_law_530 rfl (lv_at hl 1 rfl) ?_
  refine lv_iload cx.x cx.b dL_law_531 (lv_at hl 5 rfl) ?_
  refine lv_iconst (v := 1) cx.x cx.b dL_law_533 (by decide) ?_
  refine lv_iadd cx.x cx.b dL_law_534 ?_
  refine sld cx hw hX (4 * j + 1) (nI_add (4 * j) 1) (by omega) dL_law_535 ?_
  refine cgoF_i cx hw (rV_i (q0 := 0) (n := 1) (As := [.int (xs (4 * j + 1))]) (rest := []) cx hw.r (c_X11_cost l D M Q σ th fl dv hI (xs (4 * j + 1))) (gd_V tw_907 tw_908 tw_909 tw_4 tw_910) rfl ⟨by decide +kernel, rfl, hl.1, (Nat.le_of_ble_eq_true rfl), ⟨(Nat.le_of_ble_eq_true rfl), (Nat.le_of_ble_eq_true rfl)⟩, ⟨by omega, by omega⟩, rfl, rfl⟩ rfl (mw_h σ th fl dv) rfl dL_law_536) (fun r2 u2 H locs hp2 hw => ?_)
  obtain ⟨σ2, th2, fl2, dv2⟩ := u2
  obtain ⟨k1, k2, k3⟩ := hp2
  have e1 : u1 = σ2 := g2.trans k2.symm
  subst e1
  refine lv_istore (lv' := [(6, .int r2), (5, .int r), (0, .ref b), (1, .ref (G 0)), (2, .ref (M 0)), (3, .ref ou), (4, .int (nI (4 * j)))]) cx.x cx.b dL_law_539 hl (by decide) rfl (fun ls hl => ?_)
  refine lv_aload_n cx.x cx.b dL_law_541 rfl (lv_at hl 4 rfl) ?_
  refine cgoF_i cx hw (rV_i (q0 := 0) (n := 0) (As := []) (rest := []) cx hw.r (c_X11_thrown l D M Q u1 th2 fl2 dv2) (gd_V tw_809 tw_810 tw_811 tw_4 tw_812) rfl ⟨by decide +kernel, rfl, hl.1, (Nat.le_of_ble_eq_true rfl), ⟨(Nat.le_of_ble_eq_true rfl), (Nat.le_of_ble_eq_true rfl)⟩, ⟨by omega, by omega⟩, rfl, rfl⟩ rfl (mw_h u1 th2 fl2 dv2) rfl dL_law_542) (fun r3 u3 H locs hp3 hw => ?_)
  obtain ⟨f1, f2⟩ := hp3
  subst f2
  refine lv_iload cx.x cx.b dL_law_545 (lv_at hl 1 rfl) ?_
  refine lv_icmp_eq (tgt := 552) cx.x cx.b dL_law_547 (by decide) (fun _ => ?_) (fun h9 => absurd (f1.trans (k3.trans g1.symm)) h9)
  refine lv_iload cx.x cx.b dL_law_552 (lv_at hl 1 rfl) ?_
  refine lv_if_ne (tgt := 569) cx.x cx.b dL_law_554 (by decide) (fun h9 => ?_) (fun h9 => ?_)
  · refine lv_goto (tgt := 839) cx.x cx.b dL_law_569 (by decide) ?_
    exact W.widen (by omega) (by omega) (kk u1 fo1 th2 fl2 dv2 H locs ls (by rw [g2]; exact inv_cost hI) hw.sw2 (lv_sub hl [2, 3, 4, 5, 6] rfl))
  · have z0 := (nI_eq (b := 0) (by omega) (by decide)).mp (g1.symm.trans h9)
    refine lv_aload_n cx.x cx.b dL_law_557 rfl (lv_at hl 5 rfl) ?_
    refine lv_iconst (v := 0) cx.x cx.b dL_law_558 (by decide) ?_
    refine ald_l (f := fo1) cx hw 0 3 rfl rfl 0 rfl (by decide) (by decide) dL_law_559 ?_
    refine lv_iload cx.x cx.b dL_law_560 (lv_at hl 0 rfl) ?_
    refine lv_i2l (v := fo1 0) cx.x cx.b dL_law_562 (by rw [k1 z0]; exact (g3 z0).symm) ?_
    refine lc_eq cx dL_law_563 ?_
    refine lv_if_eq (tgt := 569) cx.x cx.b dL_law_564 (by decide) (fun _ => ?_) (fun h9 => absurd rfl h9)
    refine lv_goto (tgt := 839) cx.x cx.b dL_law_569 (by decide) ?_
    exact W.widen (by omega) (by omega) (kk u1 fo1 th2 fl2 dv2 H locs ls (by rw [g2]; exact inv_cost hI) hw.sw2 (lv_sub hl [2, 3, 4, 5, 6] rfl))
set_option maxHeartbeats 4000000 in
set_option maxRecDepth 100000 in
theorem lw_c9 {p : Program} {e : Env} {s : State} {m : MethodId} {args : Array Value} {below : List Frame} {meth : Method} {c : Code} {H : Heap} {locs : List Loc} {cells slots : Nat} {Qp : State → Prop} {A : Nat → Prop} {ret : Option FieldType} {ls : Array Slot} (l : Launch) (hl0 : l.stackTraces = false) (D : va_G) (G M : Nat → Nat) (Q : Nat → ClassId) {σ : St} {fo : Nat → Int64} {th fl dv : Int32} {b L ou j b0 : Nat} {xs : Nat → Int32} (cx : Fx p s m args meth c A D cls (tyl Q) cL_law 7 "BakeHouseLaw" ret) (hX : va_X b L xs s s.heap ∧ b < s.heap.size ∧ ¬ A b ∧ L ≤ 2048) (hj : 4 * j + 3 < L) (hI : Inv (b0 + 100) σ) (hw : Wd D cls A s H locs (mw M Q (σ, th, fl, dv) ++ kwO G Q ou (σ, fo))) (hl : lv_has ls 7 [(0, .ref b), (1, .ref (G 0)), (2, .ref (M 0)), (3, .ref ou), (4, .int (nI (4 * j)))]) (hc : cells + 20 ≤ room_1.cells) (hs : slots + 120 ≤ room_1.slots)
    (kk : ∀ (σ2 : St) (fo2 : Nat → Int64) (t1 t2 t3 : Int32) (H : Heap) (locs : List Loc) (ls : Array Slot), Inv b0 σ2 → Wd D cls A s H locs (mw M Q (σ2, t1, t2, t3) ++ kwO G Q ou (σ2, fo2)) → lv_has ls 7 [(0, .ref b), (1, .ref (G 0)), (2, .ref (M 0)), (3, .ref ou), (4, .int (nI (4 * j)))] → W p l e room_1 s m args below meth c H locs (cells + 20) (slots + 120) Qp (F0 m 839 ls [])) : W p l e room_1 s m args below meth c H locs cells slots Qp (F0 m 572 ls []) := by
  refine lv_aload_n cx.x cx.b dL_law_572 rfl (lv_at hl 1 rfl) ?_
  refine lv_aload_n cx.x cx.b dL_law_573 rfl (lv_at hl 0 rfl) ?_
  refine lv_iload cx.x cx.b dL_law_574 (lv_at hl 4 rfl) ?_
  refine lv_iconst (v := 1) cx.x cx.b dL_law_576 (by decide) ?_
  refine lv_iadd cx.x cx.b dL_law_577 ?_
  refine sld cx hw hX (4 * j + 1) (nI_add (4 * j) 1) (by omega) dL_law_578 ?_
  refine lv_aload_n cx.x cx.b dL_law_579 rfl (lv_at hl 0 rfl) ?_
  refine lv_iload cx.x cx.b dL_law_580 (lv_at hl 4 rfl) ?_
  refine lv_iconst (v := 2) cx.x cx.b dL_law_582 (by decide) ?_
  refine lv_iadd cx.x cx.b dL_law_583 ?_
  refine sld cx hw hX (4 * j + 2) (nI_add (4 * j) 2) (by omega) dL_law_584 ?_
  refine lv_aload_n cx.x cx.b dL_law_585 rfl (lv_at hl 3 rfl) ?_
  refine cgoF_i cx hw (rSW_i (n := 4) (As := [.ref (G 0), .int (xs (4 * j + 1)), .int (xs (4 * j + 2)), .ref ou]) (rest := []) cx hw.r (c_L_change l hl0 D G Q σ fo ou hI (xs (4 * j + 1)) (xs (4 * j + 2))) tw_743 tw_744 tw_0 tw_745 ⟨by decide +kernel, rfl, hl.1, (Nat.le_of_ble_eq_true rfl), ⟨(Nat.le_of_ble_eq_true rfl), (Nat.le_of_ble_eq_true rfl)⟩, ⟨by omega, by omega⟩, rfl, rfl⟩ rfl dL_law_586) (fun r u H locs hp hw => ?_)
  obtain ⟨u1, fo1⟩ := u
  obtain ⟨g1, g4, g2, g3⟩ := hp
  have g2 : u1 = _ := g2
  have hw : Wd D cls A s H locs (kwO G Q ou (u1, fo1) ++ mw M Q (σ, th, fl, dv)) := hw.sw2
  refine lv_istore (lv' := [(5, .int r), (0, .ref b), (1, .ref (G 0)), (2, .ref (M 0)), (3, .ref ou), (4, .int (nI (4 * j)))]) cx.x cx.b dL_law_589 hl (by decide) rfl (fun ls hl => ?_)
  refine lv_aload_n cx.x cx.b dL_law_591 rfl (lv_at hl 3 rfl) ?_
  refine lv_aload_n cx.x cx.b dL_law_592 rfl (lv_at hl 1 rfl) ?_
  refine lv_iload cx.x cx.b dL_law_593 (lv_at hl 5 rfl) ?_
  refine lv_iconst (v := 1) cx.x cx.b dL_law_595 (by decide) ?_
  refine lv_iadd cx.x cx.b dL_law_596 ?_
  refine sld cx hw hX (4 * j + 1) (nI_add (4 * j) 1) (by omega) dL_law_597 ?_
  refine lv_aload_n cx.x cx.b dL_law_598 rfl (lv_at hl 1 rfl) ?_
  refine lv_iload cx.x cx.b dL_law_599 (lv_at hl 5 rfl) ?_
  refine lv_iconst (v := 2) cx.x cx.b dL_law_601 (by decide) ?_
  refine lv_iadd cx.x cx.b dL_law_602 ?_
  refine sld cx hw hX (4 * j + 2) (nI_add (4 * j) 2) (by omega) dL_law_603 ?_
  refine cgoF_i cx hw (rV_i (q0 := 0) (n := 2) (As := [.int (xs (4 * j + 1)), .int (xs (4 * j + 2))]) (rest := []) cx hw.r (c_X11_change l D M Q σ th fl dv hI (cost_b hI) (xs (4 * j + 1)) (xs (4 * j + 2))) (gd_V tw_919 tw_920 tw_921 tw_4 tw_922) rfl ⟨by decide +kernel, rfl, hl.1, (Nat.le_of_ble_eq_true rfl), ⟨(Nat.le_of_ble_eq_true rfl), (Nat.le_of_ble_eq_true rfl)⟩, ⟨by omega, by omega⟩, rfl, rfl⟩ rfl (mw_h σ th fl dv) rfl dL_law_604) (fun r2 u2 H locs hp2 hw => ?_)
  obtain ⟨σ2, th2, fl2, dv2⟩ := u2
  obtain ⟨k1, k2, k3⟩ := hp2
  have e1 : u1 = σ2 := g2.trans k2.symm
  subst e1
  refine lv_istore (lv' := [(6, .int r2), (5, .int r), (0, .ref b), (1, .ref (G 0)), (2, .ref (M 0)), (3, .ref ou), (4, .int (nI (4 * j)))]) cx.x cx.b dL_law_607 hl (by decide) rfl (fun ls hl => ?_)
  refine lv_aload_n cx.x cx.b dL_law_609 rfl (lv_at hl 4 rfl) ?_
  refine cgoF_i cx hw (rV_i (q0 := 0) (n := 0) (As := []) (rest := []) cx hw.r (c_X11_thrown l D M Q u1 th2 fl2 dv2) (gd_V tw_809 tw_810 tw_811 tw_4 tw_812) rfl ⟨by decide +kernel, rfl, hl.1, (Nat.le_of_ble_eq_true rfl), ⟨(Nat.le_of_ble_eq_true rfl), (Nat.le_of_ble_eq_true rfl)⟩, ⟨by omega, by omega⟩, rfl, rfl⟩ rfl (mw_h u1 th2 fl2 dv2) rfl dL_law_610) (fun r3 u3 H locs hp3 hw => ?_)
  obtain ⟨f1, f2⟩ := hp3
  subst f2
  refine lv_iload cx.x cx.b dL_law_613 (lv_at hl 1 rfl) ?_
  refine lv_icmp_eq (tgt := 620) cx.x cx.b dL_law_615 (by decide) (fun _ => ?_) (fun h9 => absurd (f1.trans (k3.trans g1.symm)) h9)
  refine lv_iload cx.x cx.b dL_law_620 (lv_at hl 1 rfl) ?_
  refine lv_if_ne (tgt := 637) cx.x cx.b dL_law_622 (by decide) (fun h9 => ?_) (fun h9 => ?_)
  · refine lv_goto (tgt := 839) cx.x cx.b dL_law_637 (by decide) ?_
    exact W.widen (by omega) (by omega) (kk u1 fo1 th2 fl2 dv2 H locs ls (by rw [g2]; exact inv_change hI) hw.sw2 (lv_sub hl [2, 3, 4, 5, 6] rfl))
  · have z0 := (nI_eq (b := 0) (by omega) (by decide)).mp (g1.symm.trans h9)
    refine lv_aload_n cx.x cx.b dL_law_625 rfl (lv_at hl 5 rfl) ?_
    refine lv_iconst (v := 0) cx.x cx.b dL_law_626 (by decide) ?_
    refine ald_l (f := fo1) cx hw 0 3 rfl rfl 0 rfl (by decide) (by decide) dL_law_627 ?_
    refine lv_iload cx.x cx.b dL_law_628 (lv_at hl 0 rfl) ?_
    refine lv_i2l (v := fo1 0) cx.x cx.b dL_law_630 (by rw [k1 z0]; exact (g3 z0).symm) ?_
    refine lc_eq cx dL_law_631 ?_
    refine lv_if_eq (tgt := 637) cx.x cx.b dL_law_632 (by decide) (fun _ => ?_) (fun h9 => absurd rfl h9)
    refine lv_goto (tgt := 839) cx.x cx.b dL_law_637 (by decide) ?_
    exact W.widen (by omega) (by omega) (kk u1 fo1 th2 fl2 dv2 H locs ls (by rw [g2]; exact inv_change hI) hw.sw2 (lv_sub hl [2, 3, 4, 5, 6] rfl))
set_option maxHeartbeats 4000000 in
set_option maxRecDepth 100000 in
theorem lw_c10 {p : Program} {e : Env} {s : State} {m : MethodId} {args : Array Value} {below : List Frame} {meth : Method} {c : Code} {H : Heap} {locs : List Loc} {cells slots : Nat} {Qp : State → Prop} {A : Nat → Prop} {ret : Option FieldType} {ls : Array Slot} (l : Launch) (hl0 : l.stackTraces = false) (D : va_G) (G M : Nat → Nat) (Q : Nat → ClassId) {σ : St} {fo : Nat → Int64} {th fl dv : Int32} {b L ou j b0 : Nat} {xs : Nat → Int32} (cx : Fx p s m args meth c A D cls (tyl Q) cL_law 7 "BakeHouseLaw" ret) (hX : va_X b L xs s s.heap ∧ b < s.heap.size ∧ ¬ A b ∧ L ≤ 2048) (hj : 4 * j + 3 < L) (hI : Inv (b0 + 100) σ) (hw : Wd D cls A s H locs (mw M Q (σ, th, fl, dv) ++ kwO G Q ou (σ, fo))) (hl : lv_has ls 7 [(0, .ref b), (1, .ref (G 0)), (2, .ref (M 0)), (3, .ref ou), (4, .int (nI (4 * j)))]) (hc : cells + 20 ≤ room_1.cells) (hs : slots + 120 ≤ room_1.slots)
    (kk : ∀ (σ2 : St) (fo2 : Nat → Int64) (t1 t2 t3 : Int32) (H : Heap) (locs : List Loc) (ls : Array Slot), Inv b0 σ2 → Wd D cls A s H locs (mw M Q (σ2, t1, t2, t3) ++ kwO G Q ou (σ2, fo2)) → lv_has ls 7 [(0, .ref b), (1, .ref (G 0)), (2, .ref (M 0)), (3, .ref ou), (4, .int (nI (4 * j)))] → W p l e room_1 s m args below meth c H locs (cells + 20) (slots + 120) Qp (F0 m 839 ls [])) : W p l e room_1 s m args below meth c H locs cells slots Qp (F0 m 640 ls []) := by
  refine lv_aload_n cx.x cx.b dL_law_640 rfl (lv_at hl 1 rfl) ?_
  refine lv_aload_n cx.x cx.b dL_law_641 rfl (lv_at hl 0 rfl) ?_
  refine lv_iload cx.x cx.b dL_law_642 (lv_at hl 4 rfl) ?_
  refine lv_iconst (v := 1) cx.x cx.b dL_law_644 (by decide) ?_
  refine lv_iadd cx.x cx.b dL_law_645 ?_
  refine sld cx hw hX (4 * j + 1) (nI_add (4 * j) 1) (by omega) dL_law_646 ?_
  have hw : Wd D cls A s H locs ((mw M Q (σ, th, fl, dv) ++ oE Q ou fo) ++ kw G Q σ) := hw.asc
  refine cgoF_i cx hw (rV_i (q0 := 0) (n := 1) (As := [.int (xs (4 * j + 1))]) (rest := []) cx hw.r (c_X10_fire l D G Q σ hI (xs (4 * j + 1))) (gd_V tw_374 tw_375 tw_376 tw_1 tw_377) rfl ⟨by decide +kernel, rfl, hl.1, (Nat.le_of_ble_eq_true rfl), ⟨(Nat.le_of_ble_eq_true rfl), (Nat.le_of_ble_eq_true rfl)⟩, ⟨by omega, by omega⟩, rfl, rfl⟩ rfl (kw_h σ) rfl dL_law_647) (fun r u H locs hp hw => ?_)
  have hw : Wd D cls A s H locs (kwO G Q ou (u, fo) ++ mw M Q (σ, th, fl, dv)) := hw.as2.sw2
  obtain ⟨g1, g2, g3⟩ := hp
  refine lv_aload_n cx.x cx.b dL_law_650 rfl (lv_at hl 2 rfl) ?_
  refine lv_aload_n cx.x cx.b dL_law_651 rfl (lv_at hl 0 rfl) ?_
  refine lv_iload cx.x cx.b dL_law_652 (lv_at hl 4 rfl) ?_
  refine lv_iconst (v := 1) cx.x cx.b dL_law_654 (by decide) ?_
  refine lv_iadd cx.x cx.b dL_law_655 ?_
  refine sld cx hw hX (4 * j + 1) (nI_add (4 * j) 1) (by omega) dL_law_656 ?_
  refine cgoF_i cx hw (rV_i (q0 := 0) (n := 1) (As := [.int (xs (4 * j + 1))]) (rest := [.int r]) cx hw.r (c_X11_fire l D M Q σ th fl dv hI (xs (4 * j + 1))) (gd_V tw_924 tw_925 tw_926 tw_4 tw_927) rfl ⟨by decide +kernel, rfl, hl.1, (Nat.le_of_ble_eq_true rfl), ⟨(Nat.le_of_ble_eq_true rfl), (Nat.le_of_ble_eq_true rfl)⟩, ⟨by omega, by omega⟩, rfl, rfl⟩ rfl (mw_h σ th fl dv) rfl dL_law_657) (fun r2 u2 H locs hp2 hw => ?_)
  obtain ⟨σ2, th2, fl2, dv2⟩ := u2
  obtain ⟨k1, k2, k3⟩ := hp2
  have e1 : u = σ2 := g3.trans k2.symm
  subst e1
  refine lv_icmp_eq (tgt := 839) cx.x cx.b dL_law_660 (by decide) (fun _ => ?_) (fun h9 => absurd (g2.trans (k1 g1).symm) h9)
  exact W.widen (by omega) (by omega) (kk u fo th2 fl2 dv2 H locs ls (by rw [g3]; exact inv_fire hI) hw.sw2 hl)
set_option maxHeartbeats 4000000 in
set_option maxRecDepth 100000 in
theorem lw_c11 {p : Program} {e : Env} {s : State} {m : MethodId} {args : Array Value} {below : List Frame} {meth : Method} {c : Code} {H : Heap} {locs : List Loc} {cells slots : Nat} {Qp : State → Prop} {A : Nat → Prop} {ret : Option FieldType} {ls : Array Slot} (l : Launch) (hl0 : l.stackTraces = false) (D : va_G) (G M : Nat → Nat) (Q : Nat → ClassId) {σ : St} {fo : Nat → Int64} {th fl dv : Int32} {b L ou j b0 : Nat} {xs : Nat → Int32} (cx : Fx p s m args meth c A D cls (tyl Q) cL_law 7 "BakeHouseLaw" ret) (hX : va_X b L xs s s.heap ∧ b < s.heap.size ∧ ¬ A b ∧ L ≤ 2048) (hj : 4 * j + 3 < L) (hI : Inv (b0 + 100) σ) (hw : Wd D cls A s H locs (mw M Q (σ, th, fl, dv) ++ kwO G Q ou (σ, fo))) (hl : lv_has ls 7 [(0, .ref b), (1, .ref (G 0)), (2, .ref (M 0)), (3, .ref ou), (4, .int (nI (4 * j)))]) (hc : cells + 20 ≤ room_1.cells) (hs : slots + 120 ≤ room_1.slots)
    (kk : ∀ (σ2 : St) (fo2 : Nat → Int64) (t1 t2 t3 : Int32) (H : Heap) (locs : List Loc) (ls : Array Slot), Inv b0 σ2 → Wd D cls A s H locs (mw M Q (σ2, t1, t2, t3) ++ kwO G Q ou (σ2, fo2)) → lv_has ls 7 [(0, .ref b), (1, .ref (G 0)), (2, .ref (M 0)), (3, .ref ou), (4, .int (nI (4 * j)))] → W p l e room_1 s m args below meth c H locs (cells + 20) (slots + 120) Qp (F0 m 839 ls [])) : W p l e room_1 s m args below meth c H locs cells slots Qp (F0 m 665 ls []) := by
  refine lv_aload_n cx.x cx.b dL_law_665 rfl (lv_at hl 1 rfl) ?_
  refine lv_aload_n cx.x cx.b dL_law_666 rfl (lv_at hl 0 rfl) ?_
  refine lv_iload cx.x cx.b dL_law_667 (lv_at hl 4 rfl) ?_
  refine lv_iconst (v := 1) cx.x cx.b dL_law_669 (by decide) ?_
  refine lv_iadd cx.x cx.b dL_law_670 ?_
  refine sld cx hw hX (4 * j + 1) (nI_add (4 * j) 1) (by omega) dL_law_671 ?_
  have hw : Wd D cls A s H locs ((mw M Q (σ, th, fl, dv) ++ oE Q ou fo) ++ kw G Q σ) := hw.asc
  refine cgoF_i cx hw (rV_i (q0 := 0) (n := 1) (As := [.int (xs (4 * j + 1))]) (rest := []) cx hw.r (c_X10_night l D G Q σ hl0 hI (xs (4 * j + 1))) (gd_V tw_394 tw_395 tw_396 tw_1 tw_397) rfl ⟨by decide +kernel, rfl, hl.1, (Nat.le_of_ble_eq_true rfl), ⟨(Nat.le_of_ble_eq_true rfl), (Nat.le_of_ble_eq_true rfl)⟩, ⟨by omega, by omega⟩, rfl, rfl⟩ rfl (kw_h σ) rfl dL_law_672) (fun r u H locs hp hw => ?_)
  have hw : Wd D cls A s H locs (kwO G Q ou (u, fo) ++ mw M Q (σ, th, fl, dv)) := hw.as2.sw2
  obtain ⟨g1, g2, g3⟩ := hp
  refine lv_aload_n cx.x cx.b dL_law_675 rfl (lv_at hl 2 rfl) ?_
  refine lv_aload_n cx.x cx.b dL_law_676 rfl (lv_at hl 0 rfl) ?_
  refine lv_iload cx.x cx.b dL_law_677 (lv_at hl 4 rfl) ?_
  refine lv_iconst (v := 1) cx.x cx.b dL_law_679 (by decide) ?_
  refine lv_iadd cx.x cx.b dL_law_680 ?_
  refine sld cx hw hX (4 * j + 1) (nI_add (4 * j) 1) (by omega) dL_law_681 ?_
  refine cgoF_i cx hw (rV_i (q0 := 0) (n := 1) (As := [.int (xs (4 * j + 1))]) (rest := [.int r]) cx hw.r (c_X11_night l D M Q σ th fl dv hI (xs (4 * j + 1))) (gd_V tw_928 tw_929 tw_930 tw_4 tw_931) rfl ⟨by decide +kernel, rfl, hl.1, (Nat.le_of_ble_eq_true rfl), ⟨(Nat.le_of_ble_eq_true rfl), (Nat.le_of_ble_eq_true rfl)⟩, ⟨by omega, by omega⟩, rfl, rfl⟩ rfl (mw_h σ th fl dv) rfl dL_law_682) (fun r2 u2 H locs hp2 hw => ?_)
  obtain ⟨σ2, th2, fl2, dv2⟩ := u2
  obtain ⟨k1, k2, k3⟩ := hp2
  have e1 : u = σ2 := g3.trans k2.symm
  subst e1
  refine lv_icmp_eq (tgt := 839) cx.x cx.b dL_law_685 (by decide) (fun _ => ?_) (fun h9 => absurd (g2.trans (k1 g1).symm) h9)
  exact W.widen (by omega) (by omega) (kk u fo th2 fl2 dv2 H locs ls (by rw [g3]; exact inv_night hI) hw.sw2 hl)
set_option maxHeartbeats 4000000 in
set_option maxRecDepth 100000 in
theorem lw_c12 {p : Program} {e : Env} {s : State} {m : MethodId} {args : Array Value} {below : List Frame} {meth : Method} {c : Code} {H : Heap} {locs : List Loc} {cells slots : Nat} {Qp : State → Prop} {A : Nat → Prop} {ret : Option FieldType} {ls : Array Slot} (l : Launch) (hl0 : l.stackTraces = false) (D : va_G) (G M : Nat → Nat) (Q : Nat → ClassId) {σ : St} {fo : Nat → Int64} {th fl dv : Int32} {b L ou j b0 : Nat} {xs : Nat → Int32} (cx : Fx p s m args meth c A D cls (tyl Q) cL_law 7 "BakeHouseLaw" ret) (hX : va_X b L xs s s.heap ∧ b < s.heap.size ∧ ¬ A b ∧ L ≤ 2048) (hj : 4 * j + 3 < L) (hI : Inv (b0 + 100) σ) (hw : Wd D cls A s H locs (mw M Q (σ, th, fl, dv) ++ kwO G Q ou (σ, fo))) (hl : lv_has ls 7 [(0, .ref b), (1, .ref (G 0)), (2, .ref (M 0)), (3, .ref ou), (4, .int (nI (4 * j)))]) (hc : cells + 20 ≤ room_1.cells) (hs : slots + 120 ≤ room_1.slots)
    (kk : ∀ (σ2 : St) (fo2 : Nat → Int64) (t1 t2 t3 : Int32) (H : Heap) (locs : List Loc) (ls : Array Slot), Inv b0 σ2 → Wd D cls A s H locs (mw M Q (σ2, t1, t2, t3) ++ kwO G Q ou (σ2, fo2)) → lv_has ls 7 [(0, .ref b), (1, .ref (G 0)), (2, .ref (M 0)), (3, .ref ou), (4, .int (nI (4 * j)))] → W p l e room_1 s m args below meth c H locs (cells + 20) (slots + 120) Qp (F0 m 839 ls [])) : W p l e room_1 s m args below meth c H locs cells slots Qp (F0 m 690 ls []) := by
  refine lv_aload_n cx.x cx.b dL_law_690 rfl (lv_at hl 1 rfl) ?_
  refine lv_aload_n cx.x cx.b dL_law_691 rfl (lv_at hl 0 rfl) ?_
  refine lv_iload cx.x cx.b dL_law_692 (lv_at hl 4 rfl) ?_
  refine lv_iconst (v := 1) cx.x cx.b dL_law_694 (by decide) ?_
  refine lv_iadd cx.x cx.b dL_law_695 ?_
  refine sld cx hw hX (4 * j + 1) (nI_add (4 * j) 1) (by omega) dL_law_696 ?_
  refine lv_aload_n cx.x cx.b dL_law_697 rfl (lv_at hl 0 rfl) ?_
  refine lv_iload cx.x cx.b dL_law_698 (lv_at hl 4 rfl) ?_
  refine lv_iconst (v := 2) cx.x cx.b dL_law_700 (by decide) ?_
  refine lv_iadd cx.x cx.b dL_law_701 ?_
  refine sld cx hw hX (4 * j + 2) (nI_add (4 * j) 2) (by omega) dL_law_702 ?_
  have hw : Wd D cls A s H locs ((mw M Q (σ, th, fl, dv) ++ oE Q ou fo) ++ kw G Q σ) := hw.asc
  refine cgoF_i cx hw (rV_i (q0 := 0) (n := 2) (As := [.int (xs (4 * j + 1)), .int (xs (4 * j + 2))]) (rest := []) cx hw.r (c_X10_at l D G Q σ (xs (4 * j + 1)) (xs (4 * j + 2))) (gd_V tw_514 tw_383 tw_384 tw_1 tw_385) rfl ⟨by decide +kernel, rfl, hl.1, (Nat.le_of_ble_eq_true rfl), ⟨(Nat.le_of_ble_eq_true rfl), (Nat.le_of_ble_eq_true rfl)⟩, ⟨by omega, by omega⟩, rfl, rfl⟩ rfl (kw_h σ) rfl dL_law_703) (fun r u H locs hp hw => ?_)
  have hw : Wd D cls A s H locs (kwO G Q ou (u, fo) ++ mw M Q (σ, th, fl, dv)) := hw.as2.sw2
  obtain ⟨g1, g2, g3⟩ := hp
  refine lv_aload_n cx.x cx.b dL_law_706 rfl (lv_at hl 2 rfl) ?_
  refine lv_aload_n cx.x cx.b dL_law_707 rfl (lv_at hl 0 rfl) ?_
  refine lv_iload cx.x cx.b dL_law_708 (lv_at hl 4 rfl) ?_
  refine lv_iconst (v := 1) cx.x cx.b dL_law_710 (by decide) ?_
  refine lv_iadd cx.x cx.b dL_law_711 ?_
  refine sld cx hw hX (4 * j + 1) (nI_add (4 * j) 1) (by omega) dL_law_712 ?_
  refine lv_aload_n cx.x cx.b dL_law_713 rfl (lv_at hl 0 rfl) ?_
  refine lv_iload cx.x cx.b dL_law_714 (lv_at hl 4 rfl) ?_
  refine lv_iconst (v := 2) cx.x cx.b dL_law_716 (by decide) ?_
  refine lv_iadd cx.x cx.b dL_law_717 ?_
  refine sld cx hw hX (4 * j + 2) (nI_add (4 * j) 2) (by omega) dL_law_718 ?_
  refine cgoF_i cx hw (rV_i (q0 := 0) (n := 2) (As := [.int (xs (4 * j + 1)), .int (xs (4 * j + 2))]) (rest := [.int r]) cx hw.r (c_X11_at l D M Q σ th fl dv hI.2.2.1 (xs (4 * j + 1)) (xs (4 * j + 2))) (gd_V tw_932 tw_933 tw_934 tw_4 tw_935) rfl ⟨by decide +kernel, rfl, hl.1, (Nat.le_of_ble_eq_true rfl), ⟨(Nat.le_of_ble_eq_true rfl), (Nat.le_of_ble_eq_true rfl)⟩, ⟨by omega, by omega⟩, rfl, rfl⟩ rfl (mw_h σ th fl dv) rfl dL_law_719) (fun r2 u2 H locs hp2 hw => ?_)
  obtain ⟨σ2, th2, fl2, dv2⟩ := u2
  obtain ⟨k1, k2, k3⟩ := hp2
  have e1 : u = σ2 := g3.trans k2.symm
  subst e1
  refine lv_icmp_eq (tgt := 839) cx.x cx.b dL_law_722 (by decide) (fun _ => ?_) (fun h9 => absurd (g2.trans (k1 g1).symm) h9)
  exact W.widen (by omega) (by omega) (kk u fo th2 fl2 dv2 H locs ls (by rw [g3]; exact inv_at hI) hw.sw2 hl)
set_option maxHeartbeats 4000000 in
set_option maxRecDepth 100000 in
theorem lw_c13 {p : Program} {e : Env} {s : State} {m : MethodId} {args : Array Value} {below : List Frame} {meth : Method} {c : Code} {H : Heap} {locs : List Loc} {cells slots : Nat} {Qp : State → Prop} {A : Nat → Prop} {ret : Option FieldType} {ls : Array Slot} (l : Launch) (hl0 : l.stackTraces = false) (D : va_G) (G M : Nat → Nat) (Q : Nat → ClassId) {σ : St} {fo : Nat → Int64} {th fl dv : Int32} {b L ou j b0 : Nat} {xs : Nat → Int32} (cx : Fx p s m args meth c A D cls (tyl Q) cL_law 7 "BakeHouseLaw" ret) (hX : va_X b L xs s s.heap ∧ b < s.heap.size ∧ ¬ A b ∧ L ≤ 2048) (hj : 4 * j + 3 < L) (hI : Inv (b0 + 100) σ) (hw : Wd D cls A s H locs (mw M Q (σ, th, fl, dv) ++ kwO G Q ou (σ, fo))) (hl : lv_has ls 7 [(0, .ref b), (1, .ref (G 0)), (2, .ref (M 0)), (3, .ref ou), (4, .int (nI (4 * j)))]) (hc : cells + 20 ≤ room_1.cells) (hs : slots + 120 ≤ room_1.slots)
    (kk : ∀ (σ2 : St) (fo2 : Nat → Int64) (t1 t2 t3 : Int32) (H : Heap) (locs : List Loc) (ls : Array Slot), Inv b0 σ2 → Wd D cls A s H locs (mw M Q (σ2, t1, t2, t3) ++ kwO G Q ou (σ2, fo2)) → lv_has ls 7 [(0, .ref b), (1, .ref (G 0)), (2, .ref (M 0)), (3, .ref ou), (4, .int (nI (4 * j)))] → W p l e room_1 s m args below meth c H locs (cells + 20) (slots + 120) Qp (F0 m 839 ls [])) : W p l e room_1 s m args below meth c H locs cells slots Qp (F0 m 727 ls []) := by
  refine lv_aload_n cx.x cx.b dL_law_727 rfl (lv_at hl 1 rfl) ?_
  refine lv_aload_n cx.x cx.b dL_law_728 rfl (lv_at hl 0 rfl) ?_
  refine lv_iload cx.x cx.b dL_law_729 (lv_at hl 4 rfl) ?_
  refine lv_iconst (v := 1) cx.x cx.b dL_law_731 (by decide) ?_
  refine lv_iadd cx.x cx.b dL_law_732 ?_
  refine sld cx hw hX (4 * j + 1) (nI_add (4 * j) 1) (by omega) dL_law_733 ?_
  have hw : Wd D cls A s H locs ((mw M Q (σ, th, fl, dv) ++ oE Q ou fo) ++ kw G Q σ) := hw.asc
  refine cgoF_i cx hw (rV_i (q0 := 0) (n := 1) (As := [.int (xs (4 * j + 1))]) (rest := []) cx hw.r (c_X10_places l D G Q σ (xs (4 * j + 1))) (gd_V tw_515 tw_516 tw_517 tw_1 tw_518) rfl ⟨by decide +kernel, rfl, hl.1, (Nat.le_of_ble_eq_true rfl), ⟨(Nat.le_of_ble_eq_true rfl), (Nat.le_of_ble_eq_true rfl)⟩, ⟨by omega, by omega⟩, rfl, rfl⟩ rfl (kw_h σ) rfl dL_law_734) (fun r u H locs hp hw => ?_)
  have hw : Wd D cls A s H locs (kwO G Q ou (u, fo) ++ mw M Q (σ, th, fl, dv)) := hw.as2.sw2
  obtain ⟨g1, g2, g3⟩ := hp
  refine lv_aload_n cx.x cx.b dL_law_737 rfl (lv_at hl 2 rfl) ?_
  refine lv_aload_n cx.x cx.b dL_law_738 rfl (lv_at hl 0 rfl) ?_
  refine lv_iload cx.x cx.b dL_law_739 (lv_at hl 4 rfl) ?_
  refine lv_iconst (v := 1) cx.x cx.b dL_law_741 (by decide) ?_
  refine lv_iadd cx.x cx.b dL_law_742 ?_
  refine sld cx hw hX (4 * j + 1) (nI_add (4 * j) 1) (by omega) dL_law_743 ?_
  refine cgoF_i cx hw (rV_i (q0 := 0) (n := 1) (As := [.int (xs (4 * j + 1))]) (rest := [.int r]) cx hw.r (c_X11_places l D M Q σ th fl dv (xs (4 * j + 1))) (gd_V tw_936 tw_937 tw_938 tw_4 tw_939) rfl ⟨by decide +kernel, rfl, hl.1, (Nat.le_of_ble_eq_true rfl), ⟨(Nat.le_of_ble_eq_true rfl), (Nat.le_of_ble_eq_true rfl)⟩, ⟨by omega, by omega⟩, rfl, rfl⟩ rfl (mw_h σ th fl dv) rfl dL_law_744) (fun r2 u2 H locs hp2 hw => ?_)
  obtain ⟨σ2, th2, fl2, dv2⟩ := u2
  obtain ⟨k1, k2, k3⟩ := hp2
  have e1 : u = σ2 := g3.trans k2.symm
  subst e1
  refine lv_icmp_eq (tgt := 839) cx.x cx.b dL_law_747 (by decide) (fun _ => ?_) (fun h9 => absurd (g2.trans (k1 g1).symm) h9)
  exact W.widen (by omega) (by omega) (kk u fo th2 fl2 dv2 H locs ls (by rw [g3]; exact inv_places hI) hw.sw2 hl)
set_option maxHeartbeats 4000000 in
set_option maxRecDepth 100000 in
theorem lw_c14 {p : Program} {e : Env} {s : State} {m : MethodId} {args : Array Value} {below : List Frame} {meth : Method} {c : Code} {H : Heap} {locs : List Loc} {cells slots : Nat} {Qp : State → Prop} {A : Nat → Prop} {ret : Option FieldType} {ls : Array Slot} (l : Launch) (hl0 : l.stackTraces = false) (D : va_G) (G M : Nat → Nat) (Q : Nat → ClassId) {σ : St} {fo : Nat → Int64} {th fl dv : Int32} {b L ou j b0 : Nat} {xs : Nat → Int32} (cx : Fx p s m args meth c A D cls (tyl Q) cL_law 7 "BakeHouseLaw" ret) (hX : va_X b L xs s s.heap ∧ b < s.heap.size ∧ ¬ A b ∧ L ≤ 2048) (hj : 4 * j + 3 < L) (hI : Inv (b0 + 100) σ) (hw : Wd D cls A s H locs (mw M Q (σ, th, fl, dv) ++ kwO G Q ou (σ, fo))) (hl : lv_has ls 7 [(0, .ref b), (1, .ref (G 0)), (2, .ref (M 0)), (3, .ref ou), (4, .int (nI (4 * j)))]) (hc : cells + 20 ≤ room_1.cells) (hs : slots + 120 ≤ room_1.slots)
    (kk : ∀ (σ2 : St) (fo2 : Nat → Int64) (t1 t2 t3 : Int32) (H : Heap) (locs : List Loc) (ls : Array Slot), Inv b0 σ2 → Wd D cls A s H locs (mw M Q (σ2, t1, t2, t3) ++ kwO G Q ou (σ2, fo2)) → lv_has ls 7 [(0, .ref b), (1, .ref (G 0)), (2, .ref (M 0)), (3, .ref ou), (4, .int (nI (4 * j)))] → W p l e room_1 s m args below meth c H locs (cells + 20) (slots + 120) Qp (F0 m 839 ls [])) : W p l e room_1 s m args below meth c H locs cells slots Qp (F0 m 752 ls []) := by
  refine lv_aload_n cx.x cx.b dL_law_752 rfl (lv_at hl 1 rfl) ?_
  refine lv_aload_n cx.x cx.b dL_law_753 rfl (lv_at hl 0 rfl) ?_
  refine lv_iload cx.x cx.b dL_law_754 (lv_at hl 4 rfl) ?_
  refine lv_iconst (v := 1) cx.x cx.b dL_law_756 (by decide) ?_
  refine lv_iadd cx.x cx.b dL_law_757 ?_
  refine sld cx hw hX (4 * j + 1) (nI_add (4 * j) 1) (by omega) dL_law_758 ?_
  refine lv_aload_n cx.x cx.b dL_law_759 rfl (lv_at hl 0 rfl) ?_
  refine lv_iload cx.x cx.b dL_law_760 (lv_at hl 4 rfl) ?_
  refine lv_iconst (v := 2) cx.x cx.b dL_law_762 (by decide) ?_
  refine lv_iadd cx.x cx.b dL_law_763 ?_
  refine sld cx hw hX (4 * j + 2) (nI_add (4 * j) 2) (by omega) dL_law_764 ?_
  have hw : Wd D cls A s H locs ((mw M Q (σ, th, fl, dv) ++ oE Q ou fo) ++ kw G Q σ) := hw.asc
  refine cgoF_i cx hw (rV_i (q0 := 0) (n := 2) (As := [.int (xs (4 * j + 1)), .int (xs (4 * j + 2))]) (rest := []) cx hw.r (c_X10_tell l D G Q σ hI (xs (4 * j + 1)) (xs (4 * j + 2))) (gd_V tw_519 tw_520 tw_521 tw_1 tw_522) rfl ⟨by decide +kernel, rfl, hl.1, (Nat.le_of_ble_eq_true rfl), ⟨(Nat.le_of_ble_eq_true rfl), (Nat.le_of_ble_eq_true rfl)⟩, ⟨by omega, by omega⟩, rfl, rfl⟩ rfl (kw_h σ) rfl dL_law_765) (fun r u H locs hp hw => ?_)
  have hw : Wd D cls A s H locs (kwO G Q ou (u, fo) ++ mw M Q (σ, th, fl, dv)) := hw.as2.sw2
  obtain ⟨g1, g2, g3⟩ := hp
  refine lv_aload_n cx.x cx.b dL_law_768 rfl (lv_at hl 2 rfl) ?_
  refine lv_aload_n cx.x cx.b dL_law_769 rfl (lv_at hl 0 rfl) ?_
  refine lv_iload cx.x cx.b dL_law_770 (lv_at hl 4 rfl) ?_
  refine lv_iconst (v := 1) cx.x cx.b dL_law_772 (by decide) ?_
  refine lv_iadd cx.x cx.b dL_law_773 ?_
  refine sld cx hw hX (4 * j + 1) (nI_add (4 * j) 1) (by omega) dL_law_774 ?_
  refine lv_aload_n cx.x cx.b dL_law_775 rfl (lv_at hl 0 rfl) ?_
  refine lv_iload cx.x cx.b dL_law_776 (lv_at hl 4 rfl) ?_
  refine lv_iconst (v := 2) cx.x cx.b dL_law_778 (by decide) ?_
  refine lv_iadd cx.x cx.b dL_law_779 ?_
  refine sld cx hw hX (4 * j + 2) (nI_add (4 * j) 2) (by omega) dL_law_780 ?_
  refine cgoF_i cx hw (rV_i (q0 := 0) (n := 2) (As := [.int (xs (4 * j + 1)), .int (xs (4 * j + 2))]) (rest := [.int r]) cx hw.r (c_X11_tell l D M Q σ th fl dv hI (xs (4 * j + 1)) (xs (4 * j + 2))) (gd_V tw_940 tw_941 tw_942 tw_4 tw_943) rfl ⟨by decide +kernel, rfl, hl.1, (Nat.le_of_ble_eq_true rfl), ⟨(Nat.le_of_ble_eq_true rfl), (Nat.le_of_ble_eq_true rfl)⟩, ⟨by omega, by omega⟩, rfl, rfl⟩ rfl (mw_h σ th fl dv) rfl dL_law_781) (fun r2 u2 H locs hp2 hw => ?_)
  obtain ⟨σ2, th2, fl2, dv2⟩ := u2
  obtain ⟨k1, k2, k3⟩ := hp2
  have e1 : u = σ2 := g3.trans k2.symm
  subst e1
  refine lv_icmp_eq (tgt := 839) cx.x cx.b dL_law_784 (by decide) (fun _ => ?_) (fun h9 => absurd (g2.trans (k1 g1).symm) h9)
  exact W.widen (by omega) (by omega) (kk u fo th2 fl2 dv2 H locs ls (by rw [g3]; exact inv_tell hI) hw.sw2 hl)
set_option maxHeartbeats 4000000 in
set_option maxRecDepth 100000 in
theorem lw_c15 {p : Program} {e : Env} {s : State} {m : MethodId} {args : Array Value} {below : List Frame} {meth : Method} {c : Code} {H : Heap} {locs : List Loc} {cells slots : Nat} {Qp : State → Prop} {A : Nat → Prop} {ret : Option FieldType} {ls : Array Slot} (l : Launch) (hl0 : l.stackTraces = false) (D : va_G) (G M : Nat → Nat) (Q : Nat → ClassId) {σ : St} {fo : Nat → Int64} {th fl dv : Int32} {b L ou j b0 : Nat} {xs : Nat → Int32} (cx : Fx p s m args meth c A D cls (tyl Q) cL_law 7 "BakeHouseLaw" ret) (hX : va_X b L xs s s.heap ∧ b < s.heap.size ∧ ¬ A b ∧ L ≤ 2048) (hj : 4 * j + 3 < L) (hI : Inv (b0 + 100) σ) (hw : Wd D cls A s H locs (mw M Q (σ, th, fl, dv) ++ kwO G Q ou (σ, fo))) (hl : lv_has ls 7 [(0, .ref b), (1, .ref (G 0)), (2, .ref (M 0)), (3, .ref ou), (4, .int (nI (4 * j)))]) (hc : cells + 20 ≤ room_1.cells) (hs : slots + 120 ≤ room_1.slots)
    (kk : ∀ (σ2 : St) (fo2 : Nat → Int64) (t1 t2 t3 : Int32) (H : Heap) (locs : List Loc) (ls : Array Slot), Inv b0 σ2 → Wd D cls A s H locs (mw M Q (σ2, t1, t2, t3) ++ kwO G Q ou (σ2, fo2)) → lv_has ls 7 [(0, .ref b), (1, .ref (G 0)), (2, .ref (M 0)), (3, .ref ou), (4, .int (nI (4 * j)))] → W p l e room_1 s m args below meth c H locs (cells + 20) (slots + 120) Qp (F0 m 839 ls [])) : W p l e room_1 s m args below meth c H locs cells slots Qp (F0 m 789 ls []) := by
  refine lv_aload_n cx.x cx.b dL_law_789 rfl (lv_at hl 1 rfl) ?_
  refine lv_aload_n cx.x cx.b dL_law_790 rfl (lv_at hl 0 rfl) ?_
  refine lv_iload cx.x cx.b dL_law_791 (lv_at hl 4 rfl) ?_
  refine lv_iconst (v := 1) cx.x cx.b dL_law_793 (by decide) ?_
  refine lv_iadd cx.x cx.b dL_law_794 ?_
  refine sld cx hw hX (4 * j + 1) (nI_add (4 * j) 1) (by omega) dL_law_795 ?_
  have hw : Wd D cls A s H locs ((mw M Q (σ, th, fl, dv) ++ oE Q ou fo) ++ kw G Q σ) := hw.asc
  refine cgoF_i cx hw (rV_i (q0 := 0) (n := 1) (As := [.int (xs (4 * j + 1))]) (rest := []) cx hw.r (c_X10_book l D G Q σ (xs (4 * j + 1))) (gd_V tw_523 tw_524 tw_525 tw_1 tw_526) rfl ⟨by decide +kernel, rfl, hl.1, (Nat.le_of_ble_eq_true rfl), ⟨(Nat.le_of_ble_eq_true rfl), (Nat.le_of_ble_eq_true rfl)⟩, ⟨by omega, by omega⟩, rfl, rfl⟩ rfl (kw_h σ) rfl dL_law_796) (fun r u H locs hp hw => ?_)
  have hw : Wd D cls A s H locs (kwO G Q ou (u, fo) ++ mw M Q (σ, th, fl, dv)) := hw.as2.sw2
  obtain ⟨g1, g2, g3⟩ := hp
  refine lv_aload_n cx.x cx.b dL_law_799 rfl (lv_at hl 2 rfl) ?_
  refine lv_aload_n cx.x cx.b dL_law_800 rfl (lv_at hl 0 rfl) ?_
  refine lv_iload cx.x cx.b dL_law_801 (lv_at hl 4 rfl) ?_
  refine lv_iconst (v := 1) cx.x cx.b dL_law_803 (by decide) ?_
  refine lv_iadd cx.x cx.b dL_law_804 ?_
  refine sld cx hw hX (4 * j + 1) (nI_add (4 * j) 1) (by omega) dL_law_805 ?_
  refine cgoF_i cx hw (rV_i (q0 := 0) (n := 1) (As := [.int (xs (4 * j + 1))]) (rest := [.int r]) cx hw.r (c_X11_book l D M Q σ th fl dv (hI.N30) (xs (4 * j + 1))) (gd_V tw_944 tw_945 tw_946 tw_4 tw_947) rfl ⟨by decide +kernel, rfl, hl.1, (Nat.le_of_ble_eq_true rfl), ⟨(Nat.le_of_ble_eq_true rfl), (Nat.le_of_ble_eq_true rfl)⟩, ⟨by omega, by omega⟩, rfl, rfl⟩ rfl (mw_h σ th fl dv) rfl dL_law_806) (fun r2 u2 H locs hp2 hw => ?_)
  obtain ⟨σ2, th2, fl2, dv2⟩ := u2
  obtain ⟨k1, k2, k3⟩ := hp2
  have e1 : u = σ2 := g3.trans k2.symm
  subst e1
  refine lv_icmp_eq (tgt := 839) cx.x cx.b dL_law_809 (by decide) (fun _ => ?_) (fun h9 => absurd (g2.trans (k1 g1).symm) h9)
  exact W.widen (by omega) (by omega) (kk u fo th2 fl2 dv2 H locs ls (by rw [g3]; exact inv_same hI) hw.sw2 hl)
set_option maxHeartbeats 4000000 in
set_option maxRecDepth 100000 in
theorem lw_c16 {p : Program} {e : Env} {s : State} {m : MethodId} {args : Array Value} {below : List Frame} {meth : Method} {c : Code} {H : Heap} {locs : List Loc} {cells slots : Nat} {Qp : State → Prop} {A : Nat → Prop} {ret : Option FieldType} {ls : Array Slot} (l : Launch) (hl0 : l.stackTraces = false) (D : va_G) (G M : Nat → Nat) (Q : Nat → ClassId) {σ : St} {fo : Nat → Int64} {th fl dv : Int32} {b L ou j b0 : Nat} {xs : Nat → Int32} (cx : Fx p s m args meth c A D cls (tyl Q) cL_law 7 "BakeHouseLaw" ret) (hX : va_X b L xs s s.heap ∧ b < s.heap.size ∧ ¬ A b ∧ L ≤ 2048) (hj : 4 * j + 3 < L) (hI : Inv (b0 + 100) σ) (hw : Wd D cls A s H locs (mw M Q (σ, th, fl, dv) ++ kwO G Q ou (σ, fo))) (hl : lv_has ls 7 [(0, .ref b), (1, .ref (G 0)), (2, .ref (M 0)), (3, .ref ou), (4, .int (nI (4 * j)))]) (hc : cells + 20 ≤ room_1.cells) (hs : slots + 120 ≤ room_1.slots)
    (kk : ∀ (σ2 : St) (fo2 : Nat → Int64) (t1 t2 t3 : Int32) (H : Heap) (locs : List Loc) (ls : Array Slot), Inv b0 σ2 → Wd D cls A s H locs (mw M Q (σ2, t1, t2, t3) ++ kwO G Q ou (σ2, fo2)) → lv_has ls 7 [(0, .ref b), (1, .ref (G 0)), (2, .ref (M 0)), (3, .ref ou), (4, .int (nI (4 * j)))] → W p l e room_1 s m args below meth c H locs (cells + 20) (slots + 120) Qp (F0 m 839 ls [])) : W p l e room_1 s m args below meth c H locs cells slots Qp (F0 m 814 ls []) := by
  refine lv_aload_n cx.x cx.b dL_law_814 rfl (lv_at hl 1 rfl) ?_
  refine lv_aload_n cx.x cx.b dL_law_815 rfl (lv_at hl 0 rfl) ?_
  refine lv_iload cx.x cx.b dL_law_816 (lv_at hl 4 rfl) ?_
  refine lv_iconst (v := 1) cx.x cx.b dL_law_818 (by decide) ?_
  refine lv_iadd cx.x cx.b dL_law_819 ?_
  refine sld cx hw hX (4 * j + 1) (nI_add (4 * j) 1) (by omega) dL_law_820 ?_
  have hw : Wd D cls A s H locs ((mw M Q (σ, th, fl, dv) ++ oE Q ou fo) ++ kw G Q σ) := hw.asc
  refine cgoF_i cx hw (rV_i (q0 := 0) (n := 1) (As := [.int (xs (4 * j + 1))]) (rest := []) cx hw.r (c_X10_count l D G Q σ (xs (4 * j + 1))) (gd_V tw_532 tw_533 tw_534 tw_1 tw_535) rfl ⟨by decide +kernel, rfl, hl.1, (Nat.le_of_ble_eq_true rfl), ⟨(Nat.le_of_ble_eq_true rfl), (Nat.le_of_ble_eq_true rfl)⟩, ⟨by omega, by omega⟩, rfl, rfl⟩ rfl (kw_h σ) rfl dL_law_821) (fun r u H locs hp hw => ?_)
  have hw : Wd D cls A s H locs (kwO G Q ou (u, fo) ++ mw M Q (σ, th, fl, dv)) := hw.as2.sw2
  obtain ⟨g1, g2, g3⟩ := hp
  refine lv_aload_n cx.x cx.b dL_law_824 rfl (lv_at hl 2 rfl) ?_
  refine lv_aload_n cx.x cx.b dL_law_825 rfl (lv_at hl 0 rfl) ?_
  refine lv_iload cx.x cx.b dL_law_826 (lv_at hl 4 rfl) ?_
  refine lv_iconst (v := 1) cx.x cx.b dL_law_828 (by decide) ?_
  refine lv_iadd cx.x cx.b dL_law_829 ?_
  refine sld cx hw hX (4 * j + 1) (nI_add (4 * j) 1) (by omega) dL_law_830 ?_
  refine cgoF_i cx hw (rV_i (q0 := 0) (n := 1) (As := [.int (xs (4 * j + 1))]) (rest := [.int r]) cx hw.r (c_X11_count l D M Q σ th fl dv (xs (4 * j + 1))) (gd_V tw_948 tw_949 tw_950 tw_4 tw_951) rfl ⟨by decide +kernel, rfl, hl.1, (Nat.le_of_ble_eq_true rfl), ⟨(Nat.le_of_ble_eq_true rfl), (Nat.le_of_ble_eq_true rfl)⟩, ⟨by omega, by omega⟩, rfl, rfl⟩ rfl (mw_h σ th fl dv) rfl dL_law_831) (fun r2 u2 H locs hp2 hw => ?_)
  obtain ⟨σ2, th2, fl2, dv2⟩ := u2
  obtain ⟨k1, k2, k3⟩ := hp2
  have e1 : u = σ2 := g3.trans k2.symm
  subst e1
  refine lv_icmp_eq (tgt := 839) cx.x cx.b dL_law_834 (by decide) (fun _ => ?_) (fun h9 => absurd (g2.trans (k1 g1).symm) h9)
  exact W.widen (by omega) (by omega) (kk u fo th2 fl2 dv2 H locs ls (by rw [g3]; exact inv_same hI) hw.sw2 hl)
