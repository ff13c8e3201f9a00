def lmR (r : Nat → Nat → Int32) (n i0 j0 : Nat) (z : Int32) : Nat → Nat → Int32 := (rU (plR (plR (shR r (((mx ((r 13) (30 + n)) (mx (if ((r 5) n) = -1 then 0 else (r 13) ((r 5) n).toNatClampNeg) (if ((r 6) n) = -1 then 0 else (r 13) ((r 6) n).toNatClampNeg))) - ((r 13) (30 + n))) / 2) 0 i0 j0) (30 + n) ((r 5) n) (((mx ((r 13) (30 + n)) (mx (if ((r 5) n) = -1 then 0 else (r 13) ((r 5) n).toNatClampNeg) (if ((r 6) n) = -1 then 0 else (r 13) ((r 6) n).toNatClampNeg))) - (if ((r 5) n) = -1 then 0 else (r 13) ((r 5) n).toNatClampNeg)) / 2) ((((r 14) (30 + n)) + z) + (if ((r 5) n) = -1 then 0 else (r 15) ((r 5) n).toNatClampNeg))) (30 + n) ((r 6) n) (((mx ((r 13) (30 + n)) (mx (if ((r 5) n) = -1 then 0 else (r 13) ((r 5) n).toNatClampNeg) (if ((r 6) n) = -1 then 0 else (r 13) ((r 6) n).toNatClampNeg))) - (if ((r 6) n) = -1 then 0 else (r 13) ((r 6) n).toNatClampNeg)) / 2) (-((((r 15) (30 + n)) + z) + (if ((r 6) n) = -1 then 0 else (r 14) ((r 6) n).toNatClampNeg)))) 13 (upd (r 13) (30 + n) (mx ((r 13) (30 + n)) (mx (if ((r 5) n) = -1 then 0 else (r 13) ((r 5) n).toNatClampNeg) (if ((r 6) n) = -1 then 0 else (r 13) ((r 6) n).toNatClampNeg)))))
def scR (r : Nat → Nat → Int32) (n : Nat) (z cr : Int32) : Nat → Nat → Int32 := (rU (plR (plR r (30 + n) ((r 5) n) ((r 13) (30 + n)) (mx (mx (((r 14) (30 + n)) - (2 * z)) (if cr = 0 then (4 * z) else (3 * z))) ((if ((r 5) n) = -1 then 0 else (r 15) ((r 5) n).toNatClampNeg) + z))) (30 + n) ((r 6) n) ((r 13) (30 + n)) (-(if ((r 5) n) = (-1) then (mx (mx (((r 15) (30 + n)) + z) (2 * z)) ((if ((r 6) n) = -1 then 0 else (r 14) ((r 6) n).toNatClampNeg) - (4 * z))) else (if ((r 6) n) = (-1) then (mx (mx (((r 15) (30 + n)) + z) (2 * z)) ((if ((r 6) n) = -1 then 0 else (r 14) ((r 6) n).toNatClampNeg) - (4 * z))) else ((mx (mx (((r 15) (30 + n)) + z) (2 * z)) ((if ((r 6) n) = -1 then 0 else (r 14) ((r 6) n).toNatClampNeg) - (4 * z))) + (mx 0 (z - (((mx (mx (((r 14) (30 + n)) - (2 * z)) (if cr = 0 then (4 * z) else (3 * z))) ((if ((r 5) n) = -1 then 0 else (r 15) ((r 5) n).toNatClampNeg) + z)) - (if ((r 5) n) = -1 then 0 else (r 15) ((r 5) n).toNatClampNeg)) - ((if ((r 6) n) = -1 then 0 else (r 14) ((r 6) n).toNatClampNeg) - (mx (mx (((r 15) (30 + n)) + z) (2 * z)) ((if ((r 6) n) = -1 then 0 else (r 14) ((r 6) n).toNatClampNeg) - (4 * z)))))))))))) 13 (upd (r 13) (30 + n) ((((r 13) (30 + n)) + (mx (if ((r 5) n) = -1 then 0 else (r 13) ((r 5) n).toNatClampNeg) (if ((r 6) n) = -1 then 0 else (r 13) ((r 6) n).toNatClampNeg))) + (z / 2))))
set_option maxHeartbeats 1500000 in
set_option maxRecDepth 100000 in
theorem c_X3_placeLimits (l : Launch) (D : va_G) (cI : ClassId) (a : Nat → Nat) (v : Nat → Int32) (r : Nat → Nat → Int32) (n i0 j0 ct : Nat) (z : Int32) (hct : v 4 = nI ct) (hct1 : ct ≤ 150) (hn : n < 120) (hup : r 5 n = -1 ∨ ∃ j i1 j1, j < 150 ∧ r 5 n = nI j ∧ r 16 j = nI i1 ∧ r 17 j = nI j1 ∧ i1 ≤ j1 ∧ j1 ≤ ct) (hlo : r 6 n = -1 ∨ ∃ j i1 j1, j < 150 ∧ r 6 n = nI j ∧ r 16 j = nI i1 ∧ r 17 j = nI j1 ∧ i1 ≤ j1 ∧ j1 ≤ ct) (h16 : r 16 (30 + n) = nI i0) (h17 : r 17 (30 + n) = nI j0) (hij : i0 ≤ j0) (hj : j0 ≤ ct) : KDv l D cI yX3_placeLimits wsX3_placeLimits ({ frames := 3, cells := 0, slots := 0, locals := 70 }) [.ref (a 20), .int (nI n), .int z] (wX cI a v r) (wX cI a v (rU (plR (plR (shR r (((mx ((r 13) (30 + n)) (mx (if ((r 5) n) = -1 then 0 else (r 13) ((r 5) n).toNatClampNeg) (if ((r 6) n) = -1 then 0 else (r 13) ((r 6) n).toNatClampNeg))) - ((r 13) (30 + n))) / 2) 0 i0 j0) (30 + n) ((r 5) n) (((mx ((r 13) (30 + n)) (mx (if ((r 5) n) = -1 then 0 else (r 13) ((r 5) n).toNatClampNeg) (if ((r 6) n) = -1 then 0 else (r 13) ((r 6) n).toNatClampNeg))) - (if ((r 5) n) = -1 then 0 else (r 13) ((r 5) n).toNatClampNeg)) / 2) ((((r 14) (30 + n)) + z) + (if ((r 5) n) = -1 then 0 else (r 15) ((r 5) n).toNatClampNeg))) (30 + n) ((r 6) n) (((mx ((r 13) (30 + n)) (mx (if ((r 5) n) = -1 then 0 else (r 13) ((r 5) n).toNatClampNeg) (if ((r 6) n) = -1 then 0 else (r 13) ((r 6) n).toNatClampNeg))) - (if ((r 6) n) = -1 then 0 else (r 13) ((r 6) n).toNatClampNeg)) / 2) (-((((r 15) (30 + n)) + z) + (if ((r 6) n) = -1 then 0 else (r 14) ((r 6) n).toNatClampNeg)))) 13 (upd (r 13) (30 + n) (mx ((r 13) (30 + n)) (mx (if ((r 5) n) = -1 then 0 else (r 13) ((r 5) n).toNatClampNeg) (if ((r 6) n) = -1 then 0 else (r 13) ((r 6) n).toNatClampNeg)))))) := by
  refine KV.of (cc := cX3_placeLimits) (nL := 10) (ret := none) (by decide) rfl (Nat.le_of_ble_eq_true rfl) ?_
  intro pg9 en9 s m args below meth cd9 A ls C0 hP hD hS hl
  have hx := C0.1.1
  have hb := C0.1.2.1
  have hml := C0.1.2.2.1
  have hown : s.vm.findClass RX3 = some m.cls := C0.1.2.2.2.1
  have hts : ∀ w ∈ wsX3_placeLimits, w.before args s = true := C0.1.2.2.2.2
  have hK := C0.2.2.2.1
  have hin_X3 : ∀ w ∈ wsX30, w ∈ wsX3_placeLimits := fun w h => List.mem_cons_of_mem _ (List.mem_append_left _ (List.mem_append_left _ (List.mem_append_left _ (List.mem_append_right _ h))))
  have hf35 : (Cond.fieldLink RX3 35 "FormulaLists$Layout" "book" "LFormulaLists$Book;").before args s = true := hts _ (by decide +kernel)
  have hin_X0 : ∀ w ∈ wsX00, w ∈ wsX3_placeLimits := fun w h => List.mem_cons_of_mem _ (List.mem_append_left _ (List.mem_append_left _ (List.mem_append_right _ h)))
  have hf140 : (Cond.fieldLink RX3 140 "FormulaLists$Book" "upper" "[I").before args s = true := hts _ (by decide +kernel)
  have hf143 : (Cond.fieldLink RX3 143 "FormulaLists$Book" "lower" "[I").before args s = true := hts _ (by decide +kernel)
  have hf12 : (Cond.fieldLink RX3 12 "FormulaLists$Layout" "boxes" "LFormulaLists$Boxes;").before args s = true := hts _ (by decide +kernel)
  have hin_X1 : ∀ w ∈ wsX10, w ∈ wsX3_placeLimits := fun w h => List.mem_cons_of_mem _ (List.mem_append_left _ (List.mem_append_right _ h))
  have hf46 : (Cond.fieldLink RX3 46 "FormulaLists$Boxes" "width" "[I").before args s = true := hts _ (by decide +kernel)
  have hf49 : (Cond.fieldLink RX3 49 "FormulaLists$Boxes" "height" "[I").before args s = true := hts _ (by decide +kernel)
  have hf51 : (Cond.fieldLink RX3 51 "FormulaLists$Boxes" "depth" "[I").before args s = true := hts _ (by decide +kernel)
  have hf21 : (Cond.fieldLink RX3 21 "FormulaLists$Layout" "items" "LFormulaLists$Items;").before args s = true := hts _ (by decide +kernel)
  have hf99 : (Cond.fieldLink RX3 99 "FormulaLists$Boxes" "start" "[I").before args s = true := hts _ (by decide +kernel)
  have hf93 : (Cond.fieldLink RX3 93 "FormulaLists$Boxes" "end" "[I").before args s = true := hts _ (by decide +kernel)
  have hl : lv_has ls 10 [(0, .ref (a 20)), (1, .int (nI n)), (2, .int z)] := hl
  have hP : va_P D vwCl (wX cI a v r) s.heap := hP
  refine lv_iload_n hx hb dX3_placeLimits_0 rfl (lv_at hl 1 rfl) ?_
  refine kcS (ans := (nI (30 + n))) C0 hP hS (c_X1_ofAtom l D cI n) (va_cwS 1 hts gX3_placeLimits_X1_ofAtom rfl rfl rfl (by decide +kernel) ⟨Nat.le_of_ble_eq_true rfl, Nat.le_of_ble_eq_true rfl⟩) rfl hl.1 rfl (Nat.le_of_ble_eq_true rfl) dX3_placeLimits_1 ⟨Nat.zero_le _, Nat.zero_le _⟩ (fun H locs hP hS => ?_)
  refine lv_istore_n (lv' := [(3, .int (nI (30 + n))), (0, .ref (a 20)), (1, .int (nI n)), (2, .int z)]) hx hb dX3_placeLimits_4 rfl hl (by decide) rfl (fun ls hl => ?_)
  refine lv_aload_n hx hb dX3_placeLimits_5 rfl (lv_at hl 1 rfl) ?_
  refine va_get (D := D) (ci := 3) (v := .ref (a 1)) (C := RX3) (T := TX3) (N := 6) hx hb hts hin_X3 hown hK hP 20 rfl rfl 0 (by decide) hf35 (fun _ h9 => h9) rfl dX3_placeLimits_6 ?_
  refine va_get (D := D) (ci := 0) (v := .ref (a 5)) (C := RX0) (T := TX0) (N := 14) hx hb hts hin_X0 hown hK hP 1 rfl rfl 6 (by decide) hf140 (fun _ h9 => h9) rfl dX3_placeLimits_9 ?_
  refine lv_iload_n hx hb dX3_placeLimits_12 rfl (lv_at hl 2 rfl) ?_
  refine ra_ld (f := (r 5)) C0 hP 5 rfl n rfl (by omega) (by decide) dX3_placeLimits_13 ?_
  refine lv_istore (lv' := [(4, .int ((r 5) n)), (3, .int (nI (30 + n))), (0, .ref (a 20)), (1, .int (nI n)), (2, .int z)]) hx hb dX3_placeLimits_14 hl (by decide) rfl (fun ls hl => ?_)
  refine lv_aload_n hx hb dX3_placeLimits_16 rfl (lv_at hl 2 rfl) ?_
  refine va_get (D := D) (ci := 3) (v := .ref (a 1)) (C := RX3) (T := TX3) (N := 6) hx hb hts hin_X3 hown hK hP 20 rfl rfl 0 (by decide) hf35 (fun _ h9 => h9) rfl dX3_placeLimits_17 ?_
  refine va_get (D := D) (ci := 0) (v := .ref (a 6)) (C := RX0) (T := TX0) (N := 14) hx hb hts hin_X0 hown hK hP 1 rfl rfl 7 (by decide) hf143 (fun _ h9 => h9) rfl dX3_placeLimits_20 ?_
  refine lv_iload_n hx hb dX3_placeLimits_23 rfl (lv_at hl 3 rfl) ?_
  refine ra_ld (f := (r 6)) C0 hP 6 rfl n rfl (by omega) (by decide) dX3_placeLimits_24 ?_
  refine lv_istore (lv' := [(5, .int ((r 6) n)), (4, .int ((r 5) n)), (3, .int (nI (30 + n))), (0, .ref (a 20)), (1, .int (nI n)), (2, .int z)]) hx hb dX3_placeLimits_25 hl (by decide) rfl (fun ls hl => ?_)
  refine lv_aload_n hx hb dX3_placeLimits_27 rfl (lv_at hl 3 rfl) ?_
  refine va_get (D := D) (ci := 3) (v := .ref (a 12)) (C := RX3) (T := TX3) (N := 6) hx hb hts hin_X3 hown hK hP 20 rfl rfl 1 (by decide) hf12 (fun _ h9 => h9) rfl dX3_placeLimits_28 ?_
  refine va_get (D := D) (ci := 1) (v := .ref (a 13)) (C := RX1) (T := TX1) (N := 5) hx hb hts hin_X1 hown hK hP 12 rfl rfl 0 (by decide) hf46 (fun _ h9 => h9) rfl dX3_placeLimits_31 ?_
  refine lv_iload_n hx hb dX3_placeLimits_34 rfl (lv_at hl 2 rfl) ?_
  refine ra_ld (f := (r 13)) C0 hP 13 rfl (30 + n) rfl (by omega) (by decide) dX3_placeLimits_35 ?_
  refine lv_istore (lv' := [(6, .int ((r 13) (30 + n))), (5, .int ((r 6) n)), (4, .int ((r 5) n)), (3, .int (nI (30 + n))), (0, .ref (a 20)), (1, .int (nI n)), (2, .int z)]) hx hb dX3_placeLimits_36 hl (by decide) rfl (fun ls hl => ?_)
  refine lv_iload hx hb dX3_placeLimits_38 (lv_at hl 0 rfl) ?_
  refine lv_aload_n hx hb dX3_placeLimits_40 rfl (lv_at hl 4 rfl) ?_
  refine va_get (D := D) (ci := 3) (v := .ref (a 12)) (C := RX3) (T := TX3) (N := 6) hx hb hts hin_X3 hown hK hP 20 rfl rfl 1 (by decide) hf12 (fun _ h9 => h9) rfl dX3_placeLimits_41 ?_
  refine lv_iload hx hb dX3_placeLimits_44 (lv_at hl 2 rfl) ?_
  refine kcD (ans := (if ((r 5) n) = -1 then 0 else (r 13) ((r 5) n).toNatClampNeg)) C0 hP hD hS (c_X1_widthOf l D cI a v r ((r 5) n) (hup.imp id (fun ⟨j, i1, j1, h1, h2, _⟩ => ⟨j, h1, h2⟩))) (cwV 1 hts gX3_placeLimits_X1_widthOf rfl rfl rfl (by decide +kernel) ⟨Nat.le_of_ble_eq_true rfl, Nat.le_of_ble_eq_true rfl⟩) 12 1 rfl rfl rfl hl.1 rfl (Nat.le_of_ble_eq_true rfl) dX3_placeLimits_46 ⟨Nat.zero_le _, Nat.zero_le _⟩ (fun H locs hP hD hS => ?_)
  refine lv_aload_n hx hb dX3_placeLimits_49 rfl (lv_at hl 4 rfl) ?_
  refine va_get (D := D) (ci := 3) (v := .ref (a 12)) (C := RX3) (T := TX3) (N := 6) hx hb hts hin_X3 hown hK hP 20 rfl rfl 1 (by decide) hf12 (fun _ h9 => h9) rfl dX3_placeLimits_50 ?_
  refine lv_iload hx hb dX3_placeLimits_53 (lv_at hl 1 rfl) ?_
  refine kcD (ans := (if ((r 6) n) = -1 then 0 else (r 13) ((r 6) n).toNatClampNeg)) C0 hP hD hS (c_X1_widthOf l D cI a v r ((r 6) n) (hlo.imp id (fun ⟨j, i1, j1, h1, h2, _⟩ => ⟨j, h1, h2⟩))) (cwV 1 hts gX3_placeLimits_X1_widthOf rfl rfl rfl (by decide +kernel) ⟨Nat.le_of_ble_eq_true rfl, Nat.le_of_ble_eq_true rfl⟩) 12 1 rfl rfl rfl hl.1 rfl (Nat.le_of_ble_eq_true rfl) dX3_placeLimits_55 ⟨Nat.zero_le _, Nat.zero_le _⟩ (fun H locs hP hD hS => ?_)
  refine va_mmax hx hb (hml.trans hl.1.symm) hown (hts (.methodLink RX3 156 Lib.Math.max.name) (by decide +kernel)) (hts (.static Lib.Math.max.name) (by decide +kernel)) (hts (.initialized "java/lang/Math") (by decide +kernel)) (hts (.code Lib.Math.max.name Lib.Math.max.code 2 (some .int)) (by decide +kernel)) (Nat.le_of_ble_eq_true rfl) (Nat.le_of_ble_eq_true rfl) (Nat.zero_le _) (Nat.zero_le _) dX3_placeLimits_58 ?_
  refine lv_eqi (mx_lt (if ((r 5) n) = -1 then 0 else (r 13) ((r 5) n).toNatClampNeg) (if ((r 6) n) = -1 then 0 else (r 13) ((r 6) n).toNatClampNeg)) ?_
  refine va_mmax hx hb (hml.trans hl.1.symm) hown (hts (.methodLink RX3 156 Lib.Math.max.name) (by decide +kernel)) (hts (.static Lib.Math.max.name) (by decide +kernel)) (hts (.initialized "java/lang/Math") (by decide +kernel)) (hts (.code Lib.Math.max.name Lib.Math.max.code 2 (some .int)) (by decide +kernel)) (Nat.le_of_ble_eq_true rfl) (Nat.le_of_ble_eq_true rfl) (Nat.zero_le _) (Nat.zero_le _) dX3_placeLimits_61 ?_
  refine lv_eqi (mx_lt ((r 13) (30 + n)) (mx (if ((r 5) n) = -1 then 0 else (r 13) ((r 5) n).toNatClampNeg) (if ((r 6) n) = -1 then 0 else (r 13) ((r 6) n).toNatClampNeg))) ?_
  refine lv_istore (lv' := [(7, .int (mx ((r 13) (30 + n)) (mx (if ((r 5) n) = -1 then 0 else (r 13) ((r 5) n).toNatClampNeg) (if ((r 6) n) = -1 then 0 else (r 13) ((r 6) n).toNatClampNeg)))), (6, .int ((r 13) (30 + n))), (5, .int ((r 6) n)), (4, .int ((r 5) n)), (3, .int (nI (30 + n))), (0, .ref (a 20)), (1, .int (nI n)), (2, .int z)]) hx hb dX3_placeLimits_64 hl (by decide) rfl (fun ls hl => ?_)
  refine lv_aload_n hx hb dX3_placeLimits_66 rfl (lv_at hl 5 rfl) ?_
  refine va_get (D := D) (ci := 3) (v := .ref (a 12)) (C := RX3) (T := TX3) (N := 6) hx hb hts hin_X3 hown hK hP 20 rfl rfl 1 (by decide) hf12 (fun _ h9 => h9) rfl dX3_placeLimits_67 ?_
  refine va_get (D := D) (ci := 1) (v := .ref (a 14)) (C := RX1) (T := TX1) (N := 5) hx hb hts hin_X1 hown hK hP 12 rfl rfl 1 (by decide) hf49 (fun _ h9 => h9) rfl dX3_placeLimits_70 ?_
  refine lv_iload_n hx hb dX3_placeLimits_73 rfl (lv_at hl 4 rfl) ?_
  refine ra_ld (f := (r 14)) C0 hP 14 rfl (30 + n) rfl (by omega) (by decide) dX3_placeLimits_74 ?_
  refine lv_iload_n hx hb dX3_placeLimits_75 rfl (lv_at hl 7 rfl) ?_
  refine lv_iadd hx hb dX3_placeLimits_76 ?_
  refine lv_aload_n hx hb dX3_placeLimits_77 rfl (lv_at hl 5 rfl) ?_
  refine va_get (D := D) (ci := 3) (v := .ref (a 12)) (C := RX3) (T := TX3) (N := 6) hx hb hts hin_X3 hown hK hP 20 rfl rfl 1 (by decide) hf12 (fun _ h9 => h9) rfl dX3_placeLimits_78 ?_
  refine lv_iload hx hb dX3_placeLimits_81 (lv_at hl 3 rfl) ?_
  refine kcD (ans := (if ((r 5) n) = -1 then 0 else (r 15) ((r 5) n).toNatClampNeg)) C0 hP hD hS (c_X1_depthOf l D cI a v r ((r 5) n) (hup.imp id (fun ⟨j, i1, j1, h1, h2, _⟩ => ⟨j, h1, h2⟩))) (cwV 1 hts gX3_placeLimits_X1_depthOf rfl rfl rfl (by decide +kernel) ⟨Nat.le_of_ble_eq_true rfl, Nat.le_of_ble_eq_true rfl⟩) 12 1 rfl rfl rfl hl.1 rfl (Nat.le_of_ble_eq_true rfl) dX3_placeLimits_83 ⟨Nat.zero_le _, Nat.zero_le _⟩ (fun H locs hP hD hS => ?_)
  refine lv_iadd hx hb dX3_placeLimits_86 ?_
  refine lv_istore (lv' := [(8, .int ((((r 14) (30 + n)) + z) + (if ((r 5) n) = -1 then 0 else (r 15) ((r 5) n).toNatClampNeg))), (7, .int (mx ((r 13) (30 + n)) (mx (if ((r 5) n) = -1 then 0 else (r 13) ((r 5) n).toNatClampNeg) (if ((r 6) n) = -1 then 0 else (r 13) ((r 6) n).toNatClampNeg)))), (6, .int ((r 13) (30 + n))), (5, .int ((r 6) n)), (4, .int ((r 5) n)), (3, .int (nI (30 + n))), (0, .ref (a 20)), (1, .int (nI n)), (2, .int z)]) hx hb dX3_placeLimits_87 hl (by decide) rfl (fun ls hl => ?_)
  refine lv_aload_n hx hb dX3_placeLimits_89 rfl (lv_at hl 6 rfl) ?_
  refine va_get (D := D) (ci := 3) (v := .ref (a 12)) (C := RX3) (T := TX3) (N := 6) hx hb hts hin_X3 hown hK hP 20 rfl rfl 1 (by decide) hf12 (fun _ h9 => h9) rfl dX3_placeLimits_90 ?_
  refine va_get (D := D) (ci := 1) (v := .ref (a 15)) (C := RX1) (T := TX1) (N := 5) hx hb hts hin_X1 hown hK hP 12 rfl rfl 2 (by decide) hf51 (fun _ h9 => h9) rfl dX3_placeLimits_93 ?_
  refine lv_iload_n hx hb dX3_placeLimits_96 rfl (lv_at hl 5 rfl) ?_
  refine ra_ld (f := (r 15)) C0 hP 15 rfl (30 + n) rfl (by omega) (by decide) dX3_placeLimits_97 ?_
  refine lv_iload_n hx hb dX3_placeLimits_98 rfl (lv_at hl 8 rfl) ?_
  refine lv_iadd hx hb dX3_placeLimits_99 ?_
  refine lv_aload_n hx hb dX3_placeLimits_100 rfl (lv_at hl 6 rfl) ?_
  refine va_get (D := D) (ci := 3) (v := .ref (a 12)) (C := RX3) (T := TX3) (N := 6) hx hb hts hin_X3 hown hK hP 20 rfl rfl 1 (by decide) hf12 (fun _ h9 => h9) rfl dX3_placeLimits_101 ?_
  refine lv_iload hx hb dX3_placeLimits_104 (lv_at hl 3 rfl) ?_
  refine kcD (ans := (if ((r 6) n) = -1 then 0 else (r 14) ((r 6) n).toNatClampNeg)) C0 hP hD hS (c_X1_heightOf l D cI a v r ((r 6) n) (hlo.imp id (fun ⟨j, i1, j1, h1, h2, _⟩ => ⟨j, h1, h2⟩))) (cwV 1 hts gX3_placeLimits_X1_heightOf rfl rfl rfl (by decide +kernel) ⟨Nat.le_of_ble_eq_true rfl, Nat.le_of_ble_eq_true rfl⟩) 12 1 rfl rfl rfl hl.1 rfl (Nat.le_of_ble_eq_true rfl) dX3_placeLimits_106 ⟨Nat.zero_le _, Nat.zero_le _⟩ (fun H locs hP hD hS => ?_)
  refine lv_iadd hx hb dX3_placeLimits_109 ?_
  refine lv_istore (lv' := [(9, .int ((((r 15) (30 + n)) + z) + (if ((r 6) n) = -1 then 0 else (r 14) ((r 6) n).toNatClampNeg))), (8, .int ((((r 14) (30 + n)) + z) + (if ((r 5) n) = -1 then 0 else (r 15) ((r 5) n).toNatClampNeg))), (7, .int (mx ((r 13) (30 + n)) (mx (if ((r 5) n) = -1 then 0 else (r 13) ((r 5) n).toNatClampNeg) (if ((r 6) n) = -1 then 0 else (r 13) ((r 6) n).toNatClampNeg)))), (6, .int ((r 13) (30 + n))), (5, .int ((r 6) n)), (4, .int ((r 5) n)), (3, .int (nI (30 + n))), (0, .ref (a 20)), (1, .int (nI n)), (2, .int z)]) hx hb dX3_placeLimits_110 hl (by decide) rfl (fun ls hl => ?_)
  refine lv_aload_n hx hb dX3_placeLimits_112 rfl (lv_at hl 7 rfl) ?_
  refine va_get (D := D) (ci := 3) (v := .ref (a 18)) (C := RX3) (T := TX3) (N := 6) hx hb hts hin_X3 hown hK hP 20 rfl rfl 2 (by decide) hf21 (fun _ h9 => h9) rfl dX3_placeLimits_113 ?_
  refine lv_aload_n hx hb dX3_placeLimits_116 rfl (lv_at hl 7 rfl) ?_
  refine va_get (D := D) (ci := 3) (v := .ref (a 12)) (C := RX3) (T := TX3) (N := 6) hx hb hts hin_X3 hown hK hP 20 rfl rfl 1 (by decide) hf12 (fun _ h9 => h9) rfl dX3_placeLimits_117 ?_
  refine va_get (D := D) (ci := 1) (v := .ref (a 16)) (C := RX1) (T := TX1) (N := 5) hx hb hts hin_X1 hown hK hP 12 rfl rfl 3 (by decide) hf99 (fun _ h9 => h9) rfl dX3_placeLimits_120 ?_
  refine lv_iload_n hx hb dX3_placeLimits_123 rfl (lv_at hl 6 rfl) ?_
  refine ra_ld (f := (r 16)) C0 hP 16 rfl (30 + n) rfl (by omega) (by decide) dX3_placeLimits_124 ?_
  refine lv_eqi h16 ?_
  refine lv_aload_n hx hb dX3_placeLimits_125 rfl (lv_at hl 7 rfl) ?_
  refine va_get (D := D) (ci := 3) (v := .ref (a 12)) (C := RX3) (T := TX3) (N := 6) hx hb hts hin_X3 hown hK hP 20 rfl rfl 1 (by decide) hf12 (fun _ h9 => h9) rfl dX3_placeLimits_126 ?_
  refine va_get (D := D) (ci := 1) (v := .ref (a 17)) (C := RX1) (T := TX1) (N := 5) hx hb hts hin_X1 hown hK hP 12 rfl rfl 4 (by decide) hf93 (fun _ h9 => h9) rfl dX3_placeLimits_129 ?_
  refine lv_iload_n hx hb dX3_placeLimits_132 rfl (lv_at hl 6 rfl) ?_
  refine ra_ld (f := (r 17)) C0 hP 17 rfl (30 + n) rfl (by omega) (by decide) dX3_placeLimits_133 ?_
  refine lv_eqi h17 ?_
  refine lv_iload hx hb dX3_placeLimits_134 (lv_at hl 2 rfl) ?_
  refine lv_iload hx hb dX3_placeLimits_136 (lv_at hl 3 rfl) ?_
  refine lv_isub hx hb dX3_placeLimits_138 ?_
  refine lv_iconst (v := 2) hx hb dX3_placeLimits_139 (by decide) ?_
  refine lv_idiv hx hb dX3_placeLimits_140 (by decide) ?_
  refine lv_iconst (v := 0) hx hb dX3_placeLimits_141 (by decide) ?_
  refine kcDv C0 hP hD hS (c_X2_shift l D cI a v r i0 j0 ct (((mx ((r 13) (30 + n)) (mx (if ((r 5) n) = -1 then 0 else (r 13) ((r 5) n).toNatClampNeg) (if ((r 6) n) = -1 then 0 else (r 13) ((r 6) n).toNatClampNeg))) - ((r 13) (30 + n))) / 2) 0 hct hct1 (by omega) (by omega)) (cwV 4 hts gX3_placeLimits_X2_shift rfl rfl rfl (by decide +kernel) ⟨Nat.le_of_ble_eq_true rfl, Nat.le_of_ble_eq_true rfl⟩) 18 2 rfl rfl rfl hl.1 rfl (Nat.le_of_ble_eq_true rfl) dX3_placeLimits_142 ⟨Nat.zero_le _, Nat.zero_le _⟩ (fun H locs hP hD hS => ?_)
  have hP : va_P D vwCl (wX cI a v (shR r (((mx ((r 13) (30 + n)) (mx (if ((r 5) n) = -1 then 0 else (r 13) ((r 5) n).toNatClampNeg) (if ((r 6) n) = -1 then 0 else (r 13) ((r 6) n).toNatClampNeg))) - ((r 13) (30 + n))) / 2) 0 i0 j0)) H := hP
  have hD : va_D A (wX cI a v (shR r (((mx ((r 13) (30 + n)) (mx (if ((r 5) n) = -1 then 0 else (r 13) ((r 5) n).toNatClampNeg) (if ((r 6) n) = -1 then 0 else (r 13) ((r 6) n).toNatClampNeg))) - ((r 13) (30 + n))) / 2) 0 i0 j0)) := hD
  refine lv_aload_n hx hb dX3_placeLimits_145 rfl (lv_at hl 7 rfl) ?_
  refine lv_iload_n hx hb dX3_placeLimits_146 rfl (lv_at hl 6 rfl) ?_
  refine lv_iload hx hb dX3_placeLimits_147 (lv_at hl 5 rfl) ?_
  refine lv_iload hx hb dX3_placeLimits_149 (lv_at hl 2 rfl) ?_
  refine lv_aload_n hx hb dX3_placeLimits_151 rfl (lv_at hl 7 rfl) ?_
  refine va_get (D := D) (ci := 3) (v := .ref (a 12)) (C := RX3) (T := TX3) (N := 6) hx hb hts hin_X3 hown hK hP 20 rfl rfl 1 (by decide) hf12 (fun _ h9 => h9) rfl dX3_placeLimits_152 ?_
  refine lv_iload hx hb dX3_placeLimits_155 (lv_at hl 5 rfl) ?_
  refine kcD (ans := (if ((r 5) n) = -1 then 0 else (r 13) ((r 5) n).toNatClampNeg)) C0 hP hD hS (c_X1_widthOf l D cI a v (shR r (((mx ((r 13) (30 + n)) (mx (if ((r 5) n) = -1 then 0 else (r 13) ((r 5) n).toNatClampNeg) (if ((r 6) n) = -1 then 0 else (r 13) ((r 6) n).toNatClampNeg))) - ((r 13) (30 + n))) / 2) 0 i0 j0) ((r 5) n) (hup.imp id (fun ⟨j, i1, j1, h1, h2, _⟩ => ⟨j, h1, h2⟩))) (cwV 1 hts gX3_placeLimits_X1_widthOf rfl rfl rfl (by decide +kernel) ⟨Nat.le_of_ble_eq_true rfl, Nat.le_of_ble_eq_true rfl⟩) 12 1 rfl rfl rfl hl.1 rfl (Nat.le_of_ble_eq_true rfl) dX3_placeLimits_157 ⟨Nat.zero_le _, Nat.zero_le _⟩ (fun H locs hP hD hS => ?_)
  refine lv_isub hx hb dX3_placeLimits_160 ?_
  refine lv_iconst (v := 2) hx hb dX3_placeLimits_161 (by decide) ?_
  refine lv_idiv hx hb dX3_placeLimits_162 (by decide) ?_
  refine lv_iload hx hb dX3_placeLimits_163 (lv_at hl 1 rfl) ?_
  refine kcDv C0 hP hD hS (c_X3_place l D cI a v (shR r (((mx ((r 13) (30 + n)) (mx (if ((r 5) n) = -1 then 0 else (r 13) ((r 5) n).toNatClampNeg) (if ((r 6) n) = -1 then 0 else (r 13) ((r 6) n).toNatClampNeg))) - ((r 13) (30 + n))) / 2) 0 i0 j0) (30 + n) ct ((r 5) n) (((mx ((r 13) (30 + n)) (mx (if ((r 5) n) = -1 then 0 else (r 13) ((r 5) n).toNatClampNeg) (if ((r 6) n) = -1 then 0 else (r 13) ((r 6) n).toNatClampNeg))) - (if ((r 5) n) = -1 then 0 else (r 13) ((r 5) n).toNatClampNeg)) / 2) ((((r 14) (30 + n)) + z) + (if ((r 5) n) = -1 then 0 else (r 15) ((r 5) n).toNatClampNeg)) hct hct1 (by omega) hup) (cwV 4 hts gX3_placeLimits_X3_place rfl rfl rfl (by decide +kernel) ⟨Nat.le_of_ble_eq_true rfl, Nat.le_of_ble_eq_true rfl⟩) 20 3 rfl rfl rfl hl.1 rfl (Nat.le_of_ble_eq_true rfl) dX3_placeLimits_165 ⟨Nat.zero_le _, Nat.zero_le _⟩ (fun H locs hP hD hS => ?_)
  have hP : va_P D vwCl (wX cI a v (plR (shR r (((mx ((r 13) (30 + n)) (mx (if ((r 5) n) = -1 then 0 else (r 13) ((r 5) n).toNatClampNeg) (if ((r 6) n) = -1 then 0 else (r 13) ((r 6) n).toNatClampNeg))) - ((r 13) (30 + n))) / 2) 0 i0 j0) (30 + n) ((r 5) n) (((mx ((r 13) (30 + n)) (mx (if ((r 5) n) = -1 then 0 else (r 13) ((r 5) n).toNatClampNeg) (if ((r 6) n) = -1 then 0 else (r 13) ((r 6) n).toNatClampNeg))) - (if ((r 5) n) = -1 then 0 else (r 13) ((r 5) n).toNatClampNeg)) / 2) ((((r 14) (30 + n)) + z) + (if ((r 5) n) = -1 then 0 else (r 15) ((r 5) n).toNatClampNeg)))) H := hP
  have hD : va_D A (wX cI a v (plR (shR r (((mx ((r 13) (30 + n)) (mx (if ((r 5) n) = -1 then 0 else (r 13) ((r 5) n).toNatClampNeg) (if ((r 6) n) = -1 then 0 else (r 13) ((r 6) n).toNatClampNeg))) - ((r 13) (30 + n))) / 2) 0 i0 j0) (30 + n) ((r 5) n) (((mx ((r 13) (30 + n)) (mx (if ((r 5) n) = -1 then 0 else (r 13) ((r 5) n).toNatClampNeg) (if ((r 6) n) = -1 then 0 else (r 13) ((r 6) n).toNatClampNeg))) - (if ((r 5) n) = -1 then 0 else (r 13) ((r 5) n).toNatClampNeg)) / 2) ((((r 14) (30 + n)) + z) + (if ((r 5) n) = -1 then 0 else (r 15) ((r 5) n).toNatClampNeg)))) := hD
  refine lv_aload_n hx hb dX3_placeLimits_168 rfl (lv_at hl 7 rfl) ?_
  refine lv_iload_n hx hb dX3_placeLimits_169 rfl (lv_at hl 6 rfl) ?_
  refine lv_iload hx hb dX3_placeLimits_170 (lv_at hl 4 rfl) ?_
  refine lv_iload hx hb dX3_placeLimits_172 (lv_at hl 2 rfl) ?_
  refine lv_aload_n hx hb dX3_placeLimits_174 rfl (lv_at hl 7 rfl) ?_
  refine va_get (D := D) (ci := 3) (v := .ref (a 12)) (C := RX3) (T := TX3) (N := 6) hx hb hts hin_X3 hown hK hP 20 rfl rfl 1 (by decide) hf12 (fun _ h9 => h9) rfl dX3_placeLimits_175 ?_
  refine lv_iload hx hb dX3_placeLimits_178 (lv_at hl 4 rfl) ?_
  refine kcD (ans := (if ((r 6) n) = -1 then 0 else (r 13) ((r 6) n).toNatClampNeg)) C0 hP hD hS (c_X1_widthOf l D cI a v (plR (shR r (((mx ((r 13) (30 + n)) (mx (if ((r 5) n) = -1 then 0 else (r 13) ((r 5) n).toNatClampNeg) (if ((r 6) n) = -1 then 0 else (r 13) ((r 6) n).toNatClampNeg))) - ((r 13) (30 + n))) / 2) 0 i0 j0) (30 + n) ((r 5) n) (((mx ((r 13) (30 + n)) (mx (if ((r 5) n) = -1 then 0 else (r 13) ((r 5) n).toNatClampNeg) (if ((r 6) n) = -1 then 0 else (r 13) ((r 6) n).toNatClampNeg))) - (if ((r 5) n) = -1 then 0 else (r 13) ((r 5) n).toNatClampNeg)) / 2) ((((r 14) (30 + n)) + z) + (if ((r 5) n) = -1 then 0 else (r 15) ((r 5) n).toNatClampNeg))) ((r 6) n) (hlo.imp id (fun ⟨j, i1, j1, h1, h2, _⟩ => ⟨j, h1, h2⟩))) (cwV 1 hts gX3_placeLimits_X1_widthOf rfl rfl rfl (by decide +kernel) ⟨Nat.le_of_ble_eq_true rfl, Nat.le_of_ble_eq_true rfl⟩) 12 1 rfl rfl rfl hl.1 rfl (Nat.le_of_ble_eq_true rfl) dX3_placeLimits_180 ⟨Nat.zero_le _, Nat.zero_le _⟩ (fun H locs hP hD hS => ?_)
  refine lv_isub hx hb dX3_placeLimits_183 ?_
  refine lv_iconst (v := 2) hx hb dX3_placeLimits_184 (by decide) ?_
  refine lv_idiv hx hb dX3_placeLimits_185 (by decide) ?_
  refine lv_iload hx hb dX3_placeLimits_186 (lv_at hl 0 rfl) ?_
  refine lv_ineg hx hb dX3_placeLimits_188 ?_
  refine kcDv C0 hP hD hS (c_X3_place l D cI a v (plR (shR r (((mx ((r 13) (30 + n)) (mx (if ((r 5) n) = -1 then 0 else (r 13) ((r 5) n).toNatClampNeg) (if ((r 6) n) = -1 then 0 else (r 13) ((r 6) n).toNatClampNeg))) - ((r 13) (30 + n))) / 2) 0 i0 j0) (30 + n) ((r 5) n) (((mx ((r 13) (30 + n)) (mx (if ((r 5) n) = -1 then 0 else (r 13) ((r 5) n).toNatClampNeg) (if ((r 6) n) = -1 then 0 else (r 13) ((r 6) n).toNatClampNeg))) - (if ((r 5) n) = -1 then 0 else (r 13) ((r 5) n).toNatClampNeg)) / 2) ((((r 14) (30 + n)) + z) + (if ((r 5) n) = -1 then 0 else (r 15) ((r 5) n).toNatClampNeg))) (30 + n) ct ((r 6) n) (((mx ((r 13) (30 + n)) (mx (if ((r 5) n) = -1 then 0 else (r 13) ((r 5) n).toNatClampNeg) (if ((r 6) n) = -1 then 0 else (r 13) ((r 6) n).toNatClampNeg))) - (if ((r 6) n) = -1 then 0 else (r 13) ((r 6) n).toNatClampNeg)) / 2) (-((((r 15) (30 + n)) + z) + (if ((r 6) n) = -1 then 0 else (r 14) ((r 6) n).toNatClampNeg))) hct hct1 (by omega) hlo) (cwV 4 hts gX3_placeLimits_X3_place rfl rfl rfl (by decide +kernel) ⟨Nat.le_of_ble_eq_true rfl, Nat.le_of_ble_eq_true rfl⟩) 20 3 rfl rfl rfl hl.1 rfl (Nat.le_of_ble_eq_true rfl) dX3_placeLimits_189 ⟨Nat.zero_le _, Nat.zero_le _⟩ (fun H locs hP hD hS => ?_)
  have hP : va_P D vwCl (wX cI a v (plR (plR (shR r (((mx ((r 13) (30 + n)) (mx (if ((r 5) n) = -1 then 0 else (r 13) ((r 5) n).toNatClampNeg) (if ((r 6) n) = -1 then 0 else (r 13) ((r 6) n).toNatClampNeg))) - ((r 13) (30 + n))) / 2) 0 i0 j0) (30 + n) ((r 5) n) (((mx ((r 13) (30 + n)) (mx (if ((r 5) n) = -1 then 0 else (r 13) ((r 5) n).toNatClampNeg) (if ((r 6) n) = -1 then 0 else (r 13) ((r 6) n).toNatClampNeg))) - (if ((r 5) n) = -1 then 0 else (r 13) ((r 5) n).toNatClampNeg)) / 2) ((((r 14) (30 + n)) + z) + (if ((r 5) n) = -1 then 0 else (r 15) ((r 5) n).toNatClampNeg))) (30 + n) ((r 6) n) (((mx ((r 13) (30 + n)) (mx (if ((r 5) n) = -1 then 0 else (r 13) ((r 5) n).toNatClampNeg) (if ((r 6) n) = -1 then 0 else (r 13) ((r 6) n).toNatClampNeg))) - (if ((r 6) n) = -1 then 0 else (r 13) ((r 6) n).toNatClampNeg)) / 2) (-((((r 15) (30 + n)) + z) + (if ((r 6) n) = -1 then 0 else (r 14) ((r 6) n).toNatClampNeg))))) H := hP
  have hD : va_D A (wX cI a v (plR (plR (shR r (((mx ((r 13) (30 + n)) (mx (if ((r 5) n) = -1 then 0 else (r 13) ((r 5) n).toNatClampNeg) (if ((r 6) n) = -1 then 0 else (r 13) ((r 6) n).toNatClampNeg))) - ((r 13) (30 + n))) / 2) 0 i0 j0) (30 + n) ((r 5) n) (((mx ((r 13) (30 + n)) (mx (if ((r 5) n) = -1 then 0 else (r 13) ((r 5) n).toNatClampNeg) (if ((r 6) n) = -1 then 0 else (r 13) ((r 6) n).toNatClampNeg))) - (if ((r 5) n) = -1 then 0 else (r 13) ((r 5) n).toNatClampNeg)) / 2) ((((r 14) (30 + n)) + z) + (if ((r 5) n) = -1 then 0 else (r 15) ((r 5) n).toNatClampNeg))) (30 + n) ((r 6) n) (((mx ((r 13) (30 + n)) (mx (if ((r 5) n) = -1 then 0 else (r 13) ((r 5) n).toNatClampNeg) (if ((r 6) n) = -1 then 0 else (r 13) ((r 6) n).toNatClampNeg))) - (if ((r 6) n) = -1 then 0 else (r 13) ((r 6) n).toNatClampNeg)) / 2) (-((((r 15) (30 + n)) + z) + (if ((r 6) n) = -1 then 0 else (r 14) ((r 6) n).toNatClampNeg))))) := hD
  refine lv_aload_n hx hb dX3_placeLimits_192 rfl (lv_at hl 7 rfl) ?_
  refine va_get (D := D) (ci := 3) (v := .ref (a 12)) (C := RX3) (T := TX3) (N := 6) hx hb hts hin_X3 hown hK hP 20 rfl rfl 1 (by decide) hf12 (fun _ h9 => h9) rfl dX3_placeLimits_193 ?_
  refine va_get (D := D) (ci := 1) (v := .ref (a 13)) (C := RX1) (T := TX1) (N := 5) hx hb hts hin_X1 hown hK hP 12 rfl rfl 0 (by decide) hf46 (fun _ h9 => h9) rfl dX3_placeLimits_196 ?_
  refine lv_iload_n hx hb dX3_placeLimits_199 rfl (lv_at hl 6 rfl) ?_
  refine lv_iload hx hb dX3_placeLimits_200 (lv_at hl 2 rfl) ?_
  refine ra_st (f := (r 13)) C0 hP hD hS 13 rfl (30 + n) rfl (by omega) (by decide) dX3_placeLimits_202 (fun H locs hP hD hS => ?_)
  have hset : ∀ (R_ : Nat → Nat → Int32) (g_ : Nat → Int32), (wX cI a v R_).set 13 (a 13, .inl (cI, 150, .inl g_)) = (wX cI a v (rU R_ 13 g_)) := fun _ _ => rfl
  rw [hset] at hP hD
  exact k_vret C0 () hP hD hS trivial dX3_placeLimits_203

set_option maxHeartbeats 1500000 in
set_option maxRecDepth 100000 in
theorem c_X3_placeScripts (l : Launch) (D : va_G) (cI : ClassId) (a : Nat → Nat) (v : Nat → Int32) (r : Nat → Nat → Int32) (n ct : Nat) (z cr : Int32) (hct : v 4 = nI ct) (hct1 : ct ≤ 150) (hn : n < 120) (hup : r 5 n = -1 ∨ ∃ j i1 j1, j < 150 ∧ r 5 n = nI j ∧ r 16 j = nI i1 ∧ r 17 j = nI j1 ∧ i1 ≤ j1 ∧ j1 ≤ ct) (hlo : r 6 n = -1 ∨ ∃ j i1 j1, j < 150 ∧ r 6 n = nI j ∧ r 16 j = nI i1 ∧ r 17 j = nI j1 ∧ i1 ≤ j1 ∧ j1 ≤ ct) : KDv l D cI yX3_placeScripts wsX3_placeScripts ({ frames := 3, cells := 0, slots := 0, locals := 70 }) [.ref (a 20), .int (nI n), .int z, .int cr] (wX cI a v r) (wX cI a v (rU (plR (plR r (30 + n) ((r 5) n) ((r 13) (30 + n)) (mx (mx (((r 14) (30 + n)) - (2 * z)) (if cr = 0 then (4 * z) else (3 * z))) ((if ((r 5) n) = -1 then 0 else (r 15) ((r 5) n).toNatClampNeg) + z))) (30 + n) ((r 6) n) ((r 13) (30 + n)) (-(if ((r 5) n) = (-1) then (mx (mx (((r 15) (30 + n)) + z) (2 * z)) ((if ((r 6) n) = -1 then 0 else (r 14) ((r 6) n).toNatClampNeg) - (4 * z))) else (if ((r 6) n) = (-1) then (mx (mx (((r 15) (30 + n)) + z) (2 * z)) ((if ((r 6) n) = -1 then 0 else (r 14) ((r 6) n).toNatClampNeg) - (4 * z))) else ((mx (mx (((r 15) (30 + n)) + z) (2 * z)) ((if ((r 6) n) = -1 then 0 else (r 14) ((r 6) n).toNatClampNeg) - (4 * z))) + (mx 0 (z - (((mx (mx (((r 14) (30 + n)) - (2 * z)) (if cr = 0 then (4 * z) else (3 * z))) ((if ((r 5) n) = -1 then 0 else (r 15) ((r 5) n).toNatClampNeg) + z)) - (if ((r 5) n) = -1 then 0 else (r 15) ((r 5) n).toNatClampNeg)) - ((if ((r 6) n) = -1 then 0 else (r 14) ((r 6) n).toNatClampNeg) - (mx (mx (((r 15) (30 + n)) + z) (2 * z)) ((if ((r 6) n) = -1 then 0 else (r 14) ((r 6) n).toNatClampNeg) - (4 * z)))))))))))) 13 (upd (r 13) (30 + n) ((((r 13) (30 + n)) + (mx (if ((r 5) n) = -1 then 0 else (r 13) ((r 5) n).toNatClampNeg) (if ((r 6) n) = -1 then 0 else (r 13) ((r 6) n).toNatClampNeg))) + (z / 2))))) := by
  refine KV.of (cc := cX3_placeScripts) (nL := 10) (ret := none) (by decide) rfl (Nat.le_of_ble_eq_true rfl) ?_
  intro pg9 en9 s m args below meth cd9 A ls C0 hP hD hS hl
  have hx := C0.1.1
  have hb := C0.1.2.1
  have hml := C0.1.2.2.1
  have hown : s.vm.findClass RX3 = some m.cls := C0.1.2.2.2.1
  have hts : ∀ w ∈ wsX3_placeScripts, w.before args s = true := C0.1.2.2.2.2
  have hK := C0.2.2.2.1
  have hin_X3 : ∀ w ∈ wsX30, w ∈ wsX3_placeScripts := fun w h => List.mem_cons_of_mem _ (List.mem_append_left _ (List.mem_append_left _ (List.mem_append_left _ (List.mem_append_right _ h))))
  have hf35 : (Cond.fieldLink RX3 35 "FormulaLists$Layout" "book" "LFormulaLists$Book;").before args s = true := hts _ (by decide +kernel)
  have hin_X0 : ∀ w ∈ wsX00, w ∈ wsX3_placeScripts := fun w h => List.mem_cons_of_mem _ (List.mem_append_left _ (List.mem_append_left _ (List.mem_append_right _ h)))
  have hf140 : (Cond.fieldLink RX3 140 "FormulaLists$Book" "upper" "[I").before args s = true := hts _ (by decide +kernel)
  have hf143 : (Cond.fieldLink RX3 143 "FormulaLists$Book" "lower" "[I").before args s = true := hts _ (by decide +kernel)
  have hf12 : (Cond.fieldLink RX3 12 "FormulaLists$Layout" "boxes" "LFormulaLists$Boxes;").before args s = true := hts _ (by decide +kernel)
  have hin_X1 : ∀ w ∈ wsX10, w ∈ wsX3_placeScripts := fun w h => List.mem_cons_of_mem _ (List.mem_append_left _ (List.mem_append_right _ h))
  have hf49 : (Cond.fieldLink RX3 49 "FormulaLists$Boxes" "height" "[I").before args s = true := hts _ (by decide +kernel)
  have hf51 : (Cond.fieldLink RX3 51 "FormulaLists$Boxes" "depth" "[I").before args s = true := hts _ (by decide +kernel)
  have hf46 : (Cond.fieldLink RX3 46 "FormulaLists$Boxes" "width" "[I").before args s = true := hts _ (by decide +kernel)
  have hl : lv_has ls 10 [(0, .ref (a 20)), (1, .int (nI n)), (2, .int z), (3, .int cr)] := hl
  have hP : va_P D vwCl (wX cI a v r) s.heap := hP
  refine lv_iload_n hx hb dX3_placeScripts_0 rfl (lv_at hl 1 rfl) ?_
  refine kcS (ans := (nI (30 + n))) C0 hP hS (c_X1_ofAtom l D cI n) (va_cwS 1 hts gX3_placeScripts_X1_ofAtom rfl rfl rfl (by decide +kernel) ⟨Nat.le_of_ble_eq_true rfl, Nat.le_of_ble_eq_true rfl⟩) rfl hl.1 rfl (Nat.le_of_ble_eq_true rfl) dX3_placeScripts_1 ⟨Nat.zero_le _, Nat.zero_le _⟩ (fun H locs hP hS => ?_)
  refine lv_istore (lv' := [(4, .int (nI (30 + n))), (0, .ref (a 20)), (1, .int (nI n)), (2, .int z), (3, .int cr)]) hx hb dX3_placeScripts_4 hl (by decide) rfl (fun ls hl => ?_)
  refine lv_aload_n hx hb dX3_placeScripts_6 rfl (lv_at hl 1 rfl) ?_
  refine va_get (D := D) (ci := 3) (v := .ref (a 1)) (C := RX3) (T := TX3) (N := 6) hx hb hts hin_X3 hown hK hP 20 rfl rfl 0 (by decide) hf35 (fun _ h9 => h9) rfl dX3_placeScripts_7 ?_
  refine va_get (D := D) (ci := 0) (v := .ref (a 5)) (C := RX0) (T := TX0) (N := 14) hx hb hts hin_X0 hown hK hP 1 rfl rfl 6 (by decide) hf140 (fun _ h9 => h9) rfl dX3_placeScripts_10 ?_
  refine lv_iload_n hx hb dX3_placeScripts_13 rfl (lv_at hl 2 rfl) ?_
  refine ra_ld (f := (r 5)) C0 hP 5 rfl n rfl (by omega) (by decide) dX3_placeScripts_14 ?_
  refine lv_istore (lv' := [(5, .int ((r 5) n)), (4, .int (nI (30 + n))), (0, .ref (a 20)), (1, .int (nI n)), (2, .int z), (3, .int cr)]) hx hb dX3_placeScripts_15 hl (by decide) rfl (fun ls hl => ?_)
  refine lv_aload_n hx hb dX3_placeScripts_17 rfl (lv_at hl 2 rfl) ?_
  refine va_get (D := D) (ci := 3) (v := .ref (a 1)) (C := RX3) (T := TX3) (N := 6) hx hb hts hin_X3 hown hK hP 20 rfl rfl 0 (by decide) hf35 (fun _ h9 => h9) rfl dX3_placeScripts_18 ?_
  refine va_get (D := D) (ci := 0) (v := .ref (a 6)) (C := RX0) (T := TX0) (N := 14) hx hb hts hin_X0 hown hK hP 1 rfl rfl 7 (by decide) hf143 (fun _ h9 => h9) rfl dX3_placeScripts_21 ?_
  refine lv_iload_n hx hb dX3_placeScripts_24 rfl (lv_at hl 3 rfl) ?_
  refine ra_ld (f := (r 6)) C0 hP 6 rfl n rfl (by omega) (by decide) dX3_placeScripts_25 ?_
  refine lv_istore (lv' := [(6, .int ((r 6) n)), (5, .int ((r 5) n)), (4, .int (nI (30 + n))), (0, .ref (a 20)), (1, .int (nI n)), (2, .int z), (3, .int cr)]) hx hb dX3_placeScripts_26 hl (by decide) rfl (fun ls hl => ?_)
  refine lv_aload_n hx hb dX3_placeScripts_28 rfl (lv_at hl 3 rfl) ?_
  refine va_get (D := D) (ci := 3) (v := .ref (a 12)) (C := RX3) (T := TX3) (N := 6) hx hb hts hin_X3 hown hK hP 20 rfl rfl 1 (by decide) hf12 (fun _ h9 => h9) rfl dX3_placeScripts_29 ?_
  refine va_get (D := D) (ci := 1) (v := .ref (a 14)) (C := RX1) (T := TX1) (N := 5) hx hb hts hin_X1 hown hK hP 12 rfl rfl 1 (by decide) hf49 (fun _ h9 => h9) rfl dX3_placeScripts_32 ?_
  refine lv_iload hx hb dX3_placeScripts_35 (lv_at hl 2 rfl) ?_
  refine ra_ld (f := (r 14)) C0 hP 14 rfl (30 + n) rfl (by omega) (by decide) dX3_placeScripts_37 ?_
  refine lv_iconst (v := 2) hx hb dX3_placeScripts_38 (by decide) ?_
  refine lv_iload_n hx hb dX3_placeScripts_39 rfl (lv_at hl 5 rfl) ?_
  refine lv_imul hx hb dX3_placeScripts_40 ?_
  refine lv_isub hx hb dX3_placeScripts_41 ?_
  refine lv_iload_n hx hb dX3_placeScripts_42 rfl (lv_at hl 6 rfl) ?_
  obtain ⟨x_1, ex_1⟩ : ∃ zz_ : Int32, zz_ = (if cr = 0 then (4 * z) else (3 * z)) := ⟨_, rfl⟩
  refine jW (D := D) hD hl 55 (wX cI a v r) [(6, .int ((r 6) n)), (5, .int ((r 5) n)), (4, .int (nI (30 + n))), (0, .ref (a 20)), (1, .int (nI n)), (2, .int z), (3, .int cr)] [.int x_1, .int (((r 14) (30 + n)) - (2 * z))] (fun hJ => ?_) (fun H locs ls hP hD hS hl => ?_)
  · skip
    refine lv_if_eq (tgt := 52) hx hb dX3_placeScripts_43 (by decide) (fun c_43 => ?_) (fun c_43 => ?_)
    · skip
      refine lv_iconst (v := 4) hx hb dX3_placeScripts_52 (by decide) ?_
      refine lv_iload_n hx hb dX3_placeScripts_53 rfl (lv_at hl 5 rfl) ?_
      refine lv_imul hx hb dX3_placeScripts_54 ?_
      have gx_1 : x_1 = (4 * z) := by rw [ex_1]; simp only [if_pos c_43]
      simp only [gx_1] at hJ
      exact hJ _ _ _ hP hD hS (lv_sub hl [0, 1, 2, 3, 4, 5, 6] rfl)
    · skip
      refine lv_iconst (v := 3) hx hb dX3_placeScripts_46 (by decide) ?_
      refine lv_iload_n hx hb dX3_placeScripts_47 rfl (lv_at hl 5 rfl) ?_
      refine lv_imul hx hb dX3_placeScripts_48 ?_
      refine lv_goto (tgt := 55) hx hb dX3_placeScripts_49 (by decide) ?_
      have gx_1 : x_1 = (3 * z) := by rw [ex_1]; simp only [if_neg c_43]
      simp only [gx_1] at hJ
      exact hJ _ _ _ hP hD hS (lv_sub hl [0, 1, 2, 3, 4, 5, 6] rfl)
  · skip
    refine lv_eqi ex_1 ?_
    refine va_mmax hx hb (hml.trans hl.1.symm) hown (hts (.methodLink RX3 156 Lib.Math.max.name) (by decide +kernel)) (hts (.static Lib.Math.max.name) (by decide +kernel)) (hts (.initialized "java/lang/Math") (by decide +kernel)) (hts (.code Lib.Math.max.name Lib.Math.max.code 2 (some .int)) (by decide +kernel)) (Nat.le_of_ble_eq_true rfl) (Nat.le_of_ble_eq_true rfl) (Nat.zero_le _) (Nat.zero_le _) dX3_placeScripts_55 ?_
    refine lv_eqi (mx_lt (((r 14) (30 + n)) - (2 * z)) (if cr = 0 then (4 * z) else (3 * z))) ?_
    refine lv_istore (lv' := [(7, .int (mx (((r 14) (30 + n)) - (2 * z)) (if cr = 0 then (4 * z) else (3 * z)))), (6, .int ((r 6) n)), (5, .int ((r 5) n)), (4, .int (nI (30 + n))), (0, .ref (a 20)), (1, .int (nI n)), (2, .int z), (3, .int cr)]) hx hb dX3_placeScripts_58 hl (by decide) rfl (fun ls hl => ?_)
    refine lv_iload hx hb dX3_placeScripts_60 (lv_at hl 0 rfl) ?_
    refine lv_aload_n hx hb dX3_placeScripts_62 rfl (lv_at hl 4 rfl) ?_
    refine va_get (D := D) (ci := 3) (v := .ref (a 12)) (C := RX3) (T := TX3) (N := 6) hx hb hts hin_X3 hown hK hP 20 rfl rfl 1 (by decide) hf12 (fun _ h9 => h9) rfl dX3_placeScripts_63 ?_
    refine lv_iload hx hb dX3_placeScripts_66 (lv_at hl 2 rfl) ?_
    refine kcD (ans := (if ((r 5) n) = -1 then 0 else (r 15) ((r 5) n).toNatClampNeg)) C0 hP hD hS (c_X1_depthOf l D cI a v r ((r 5) n) (hup.imp id (fun ⟨j, i1, j1, h1, h2, _⟩ => ⟨j, h1, h2⟩))) (cwV 1 hts gX3_placeScripts_X1_depthOf rfl rfl rfl (by decide +kernel) ⟨Nat.le_of_ble_eq_true rfl, Nat.le_of_ble_eq_true rfl⟩) 12 1 rfl rfl rfl hl.1 rfl (Nat.le_of_ble_eq_true rfl) dX3_placeScripts_68 ⟨Nat.zero_le _, Nat.zero_le _⟩ (fun H locs hP hD hS => ?_)
    refine lv_iload_n hx hb dX3_placeScripts_71 rfl (lv_at hl 6 rfl) ?_
    refine lv_iadd hx hb dX3_placeScripts_72 ?_
    refine va_mmax hx hb (hml.trans hl.1.symm) hown (hts (.methodLink RX3 156 Lib.Math.max.name) (by decide +kernel)) (hts (.static Lib.Math.max.name) (by decide +kernel)) (hts (.initialized "java/lang/Math") (by decide +kernel)) (hts (.code Lib.Math.max.name Lib.Math.max.code 2 (some .int)) (by decide +kernel)) (Nat.le_of_ble_eq_true rfl) (Nat.le_of_ble_eq_true rfl) (Nat.zero_le _) (Nat.zero_le _) dX3_placeScripts_73 ?_
    refine lv_eqi (mx_lt (mx (((r 14) (30 + n)) - (2 * z)) (if cr = 0 then (4 * z) else (3 * z))) ((if ((r 5) n) = -1 then 0 else (r 15) ((r 5) n).toNatClampNeg) + z)) ?_
    refine lv_istore (lv' := [(7, .int (mx (mx (((r 14) (30 + n)) - (2 * z)) (if cr = 0 then (4 * z) else (3 * z))) ((if ((r 5) n) = -1 then 0 else (r 15) ((r 5) n).toNatClampNeg) + z))), (6, .int ((r 6) n)), (5, .int ((r 5) n)), (4, .int (nI (30 + n))), (0, .ref (a 20)), (1, .int (nI n)), (2, .int z), (3, .int cr)]) hx hb dX3_placeScripts_76 hl (by decide) rfl (fun ls hl => ?_)
    refine lv_aload_n hx hb dX3_placeScripts_78 rfl (lv_at hl 4 rfl) ?_
    refine va_get (D := D) (ci := 3) (v := .ref (a 12)) (C := RX3) (T := TX3) (N := 6) hx hb hts hin_X3 hown hK hP 20 rfl rfl 1 (by decide) hf12 (fun _ h9 => h9) rfl dX3_placeScripts_79 ?_
    refine va_get (D := D) (ci := 1) (v := .ref (a 15)) (C := RX1) (T := TX1) (N := 5) hx hb hts hin_X1 hown hK hP 12 rfl rfl 2 (by decide) hf51 (fun _ h9 => h9) rfl dX3_placeScripts_82 ?_
    refine lv_iload hx hb dX3_placeScripts_85 (lv_at hl 3 rfl) ?_
    refine ra_ld (f := (r 15)) C0 hP 15 rfl (30 + n) rfl (by omega) (by decide) dX3_placeScripts_87 ?_
    refine lv_iload_n hx hb dX3_placeScripts_88 rfl (lv_at hl 6 rfl) ?_
    refine lv_iadd hx hb dX3_placeScripts_89 ?_
    refine lv_iconst (v := 2) hx hb dX3_placeScripts_90 (by decide) ?_
    refine lv_iload_n hx hb dX3_placeScripts_91 rfl (lv_at hl 6 rfl) ?_
    refine lv_imul hx hb dX3_placeScripts_92 ?_
    refine va_mmax hx hb (hml.trans hl.1.symm) hown (hts (.methodLink RX3 156 Lib.Math.max.name) (by decide +kernel)) (hts (.static Lib.Math.max.name) (by decide +kernel)) (hts (.initialized "java/lang/Math") (by decide +kernel)) (hts (.code Lib.Math.max.name Lib.Math.max.code 2 (some .int)) (by decide +kernel)) (Nat.le_of_ble_eq_true rfl) (Nat.le_of_ble_eq_true rfl) (Nat.zero_le _) (Nat.zero_le _) dX3_placeScripts_93 ?_
    refine lv_eqi (mx_lt (((r 15) (30 + n)) + z) (2 * z)) ?_
    refine lv_istore (lv' := [(8, .int (mx (((r 15) (30 + n)) + z) (2 * z))), (7, .int (mx (mx (((r 14) (30 + n)) - (2 * z)) (if cr = 0 then (4 * z) else (3 * z))) ((if ((r 5) n) = -1 then 0 else (r 15) ((r 5) n).toNatClampNeg) + z))), (6, .int ((r 6) n)), (5, .int ((r 5) n)), (4, .int (nI (30 + n))), (0, .ref (a 20)), (1, .int (nI n)), (2, .int z), (3, .int cr)]) hx hb dX3_placeScripts_96 hl (by decide) rfl (fun ls hl => ?_)
    refine lv_iload hx hb dX3_placeScripts_98 (lv_at hl 0 rfl) ?_
    refine lv_aload_n hx hb dX3_placeScripts_100 rfl (lv_at hl 5 rfl) ?_
    refine va_get (D := D) (ci := 3) (v := .ref (a 12)) (C := RX3) (T := TX3) (N := 6) hx hb hts hin_X3 hown hK hP 20 rfl rfl 1 (by decide) hf12 (fun _ h9 => h9) rfl dX3_placeScripts_101 ?_
    refine lv_iload hx hb dX3_placeScripts_104 (lv_at hl 2 rfl) ?_
    refine kcD (ans := (if ((r 6) n) = -1 then 0 else (r 14) ((r 6) n).toNatClampNeg)) C0 hP hD hS (c_X1_heightOf l D cI a v r ((r 6) n) (hlo.imp id (fun ⟨j, i1, j1, h1, h2, _⟩ => ⟨j, h1, h2⟩))) (cwV 1 hts gX3_placeScripts_X1_heightOf rfl rfl rfl (by decide +kernel) ⟨Nat.le_of_ble_eq_true rfl, Nat.le_of_ble_eq_true rfl⟩) 12 1 rfl rfl rfl hl.1 rfl (Nat.le_of_ble_eq_true rfl) dX3_placeScripts_106 ⟨Nat.zero_le _, Nat.zero_le _⟩ (fun H locs hP hD hS => ?_)
    refine lv_iconst (v := 4) hx hb dX3_placeScripts_109 (by decide) ?_
    refine lv_iload_n hx hb dX3_placeScripts_110 rfl (lv_at hl 7 rfl) ?_
    refine lv_imul hx hb dX3_placeScripts_111 ?_
    refine lv_isub hx hb dX3_placeScripts_112 ?_
    refine va_mmax hx hb (hml.trans hl.1.symm) hown (hts (.methodLink RX3 156 Lib.Math.max.name) (by decide +kernel)) (hts (.static Lib.Math.max.name) (by decide +kernel)) (hts (.initialized "java/lang/Math") (by decide +kernel)) (hts (.code Lib.Math.max.name Lib.Math.max.code 2 (some .int)) (by decide +kernel)) (Nat.le_of_ble_eq_true rfl) (Nat.le_of_ble_eq_true rfl) (Nat.zero_le _) (Nat.zero_le _) dX3_placeScripts_113 ?_
    refine lv_eqi (mx_lt (mx (((r 15) (30 + n)) + z) (2 * z)) ((if ((r 6) n) = -1 then 0 else (r 14) ((r 6) n).toNatClampNeg) - (4 * z))) ?_
    refine lv_istore (lv' := [(8, .int (mx (mx (((r 15) (30 + n)) + z) (2 * z)) ((if ((r 6) n) = -1 then 0 else (r 14) ((r 6) n).toNatClampNeg) - (4 * z)))), (7, .int (mx (mx (((r 14) (30 + n)) - (2 * z)) (if cr = 0 then (4 * z) else (3 * z))) ((if ((r 5) n) = -1 then 0 else (r 15) ((r 5) n).toNatClampNeg) + z))), (6, .int ((r 6) n)), (5, .int ((r 5) n)), (4, .int (nI (30 + n))), (0, .ref (a 20)), (1, .int (nI n)), (2, .int z), (3, .int cr)]) hx hb dX3_placeScripts_116 hl (by decide) rfl (fun ls hl => ?_)
    refine lv_iload hx hb dX3_placeScripts_118 (lv_at hl 3 rfl) ?_
    refine lv_iconst (v := (-1)) hx hb dX3_placeScripts_120 (by decide) ?_
    obtain ⟨x_2, ex_2⟩ : ∃ zz_ : Int32, zz_ = (if ((r 5) n) = (-1) then (mx (mx (((r 15) (30 + n)) + z) (2 * z)) ((if ((r 6) n) = -1 then 0 else (r 14) ((r 6) n).toNatClampNeg) - (4 * z))) else (if ((r 6) n) = (-1) then (mx (mx (((r 15) (30 + n)) + z) (2 * z)) ((if ((r 6) n) = -1 then 0 else (r 14) ((r 6) n).toNatClampNeg) - (4 * z))) else ((mx (mx (((r 15) (30 + n)) + z) (2 * z)) ((if ((r 6) n) = -1 then 0 else (r 14) ((r 6) n).toNatClampNeg) - (4 * z))) + (mx 0 (z - (((mx (mx (((r 14) (30 + n)) - (2 * z)) (if cr = 0 then (4 * z) else (3 * z))) ((if ((r 5) n) = -1 then 0 else (r 15) ((r 5) n).toNatClampNeg) + z)) - (if ((r 5) n) = -1 then 0 else (r 15) ((r 5) n).toNatClampNeg)) - ((if ((r 6) n) = -1 then 0 else (r 14) ((r 6) n).toNatClampNeg) - (mx (mx (((r 15) (30 + n)) + z) (2 * z)) ((if ((r 6) n) = -1 then 0 else (r 14) ((r 6) n).toNatClampNeg) - (4 * z)))))))))) := ⟨_, rfl⟩
    refine jW (D := D) hD hl 170 (wX cI a v r) [(8, .int x_2), (7, .int (mx (mx (((r 14) (30 + n)) - (2 * z)) (if cr = 0 then (4 * z) else (3 * z))) ((if ((r 5) n) = -1 then 0 else (r 15) ((r 5) n).toNatClampNeg) + z))), (6, .int ((r 6) n)), (5, .int ((r 5) n)), (4, .int (nI (30 + n))), (0, .ref (a 20)), (1, .int (nI n)), (2, .int z), (3, .int cr)] [] (fun hJ => ?_) (fun H locs ls hP hD hS hl => ?_)
    · skip
      refine lv_icmp_eq (tgt := 170) hx hb dX3_placeScripts_121 (by decide) (fun c_121 => ?_) (fun c_121 => ?_)
      · skip
        have gx_2 : x_2 = (mx (mx (((r 15) (30 + n)) + z) (2 * z)) ((if ((r 6) n) = -1 then 0 else (r 14) ((r 6) n).toNatClampNeg) - (4 * z))) := by rw [ex_2]; simp only [if_pos c_121]
        simp only [gx_2] at hJ
        exact hJ _ _ _ hP hD hS (lv_sub hl [0, 1, 2, 3, 4, 5, 6, 7, 8] rfl)
      · skip
        refine lv_iload hx hb dX3_placeScripts_124 (lv_at hl 2 rfl) ?_
        refine lv_iconst (v := (-1)) hx hb dX3_placeScripts_126 (by decide) ?_
        refine lv_icmp_eq (tgt := 170) hx hb dX3_placeScripts_127 (by decide) (fun c_127 => ?_) (fun c_127 => ?_)
        · skip
          have gx_2 : x_2 = (mx (mx (((r 15) (30 + n)) + z) (2 * z)) ((if ((r 6) n) = -1 then 0 else (r 14) ((r 6) n).toNatClampNeg) - (4 * z))) := by rw [ex_2]; simp only [if_neg c_121, if_pos c_127]
          simp only [gx_2] at hJ
          exact hJ _ _ _ hP hD hS (lv_sub hl [0, 1, 2, 3, 4, 5, 6, 7, 8] rfl)
        · skip
          refine lv_iload hx hb dX3_placeScripts_130 (lv_at hl 1 rfl) ?_
          refine lv_aload_n hx hb dX3_placeScripts_132 rfl (lv_at hl 5 rfl) ?_
          refine va_get (D := D) (ci := 3) (v := .ref (a 12)) (C := RX3) (T := TX3) (N := 6) hx hb hts hin_X3 hown hK hP 20 rfl rfl 1 (by decide) hf12 (fun _ h9 => h9) rfl dX3_placeScripts_133 ?_
          refine lv_iload hx hb dX3_placeScripts_136 (lv_at hl 3 rfl) ?_
          refine kcD (ans := (if ((r 5) n) = -1 then 0 else (r 15) ((r 5) n).toNatClampNeg)) C0 hP hD hS (c_X1_depthOf l D cI a v r ((r 5) n) (hup.imp id (fun ⟨j, i1, j1, h1, h2, _⟩ => ⟨j, h1, h2⟩))) (cwV 1 hts gX3_placeScripts_X1_depthOf rfl rfl rfl (by decide +kernel) ⟨Nat.le_of_ble_eq_true rfl, Nat.le_of_ble_eq_true rfl⟩) 12 1 rfl rfl rfl hl.1 rfl (Nat.le_of_ble_eq_true rfl) dX3_placeScripts_138 ⟨Nat.zero_le _, Nat.zero_le _⟩ (fun H locs hP hD hS => ?_)
          refine lv_isub hx hb dX3_placeScripts_141 ?_
          refine lv_aload_n hx hb dX3_placeScripts_142 rfl (lv_at hl 5 rfl) ?_
          refine va_get (D := D) (ci := 3) (v := .ref (a 12)) (C := RX3) (T := TX3) (N := 6) hx hb hts hin_X3 hown hK hP 20 rfl rfl 1 (by decide) hf12 (fun _ h9 => h9) rfl dX3_placeScripts_143 ?_
          refine lv_iload hx hb dX3_placeScripts_146 (lv_at hl 2 rfl) ?_
          refine kcD (ans := (if ((r 6) n) = -1 then 0 else (r 14) ((r 6) n).toNatClampNeg)) C0 hP hD hS (c_X1_heightOf l D cI a v r ((r 6) n) (hlo.imp id (fun ⟨j, i1, j1, h1, h2, _⟩ => ⟨j, h1, h2⟩))) (cwV 1 hts gX3_placeScripts_X1_heightOf rfl rfl rfl (by decide +kernel) ⟨Nat.le_of_ble_eq_true rfl, Nat.le_of_ble_eq_true rfl⟩) 12 1 rfl rfl rfl hl.1 rfl (Nat.le_of_ble_eq_true rfl) dX3_placeScripts_148 ⟨Nat.zero_le _, Nat.zero_le _⟩ (fun H locs hP hD hS => ?_)
          refine lv_iload hx hb dX3_placeScripts_151 (lv_at hl 0 rfl) ?_
          refine lv_isub hx hb dX3_placeScripts_153 ?_
          refine lv_isub hx hb dX3_placeScripts_154 ?_
          refine lv_istore (lv' := [(9, .int (((mx (mx (((r 14) (30 + n)) - (2 * z)) (if cr = 0 then (4 * z) else (3 * z))) ((if ((r 5) n) = -1 then 0 else (r 15) ((r 5) n).toNatClampNeg) + z)) - (if ((r 5) n) = -1 then 0 else (r 15) ((r 5) n).toNatClampNeg)) - ((if ((r 6) n) = -1 then 0 else (r 14) ((r 6) n).toNatClampNeg) - (mx (mx (((r 15) (30 + n)) + z) (2 * z)) ((if ((r 6) n) = -1 then 0 else (r 14) ((r 6) n).toNatClampNeg) - (4 * z)))))), (8, .int (mx (mx (((r 15) (30 + n)) + z) (2 * z)) ((if ((r 6) n) = -1 then 0 else (r 14) ((r 6) n).toNatClampNeg) - (4 * z)))), (7, .int (mx (mx (((r 14) (30 + n)) - (2 * z)) (if cr = 0 then (4 * z) else (3 * z))) ((if ((r 5) n) = -1 then 0 else (r 15) ((r 5) n).toNatClampNeg) + z))), (6, .int ((r 6) n)), (5, .int ((r 5) n)), (4, .int (nI (30 + n))), (0, .ref (a 20)), (1, .int (nI n)), (2, .int z), (3, .int cr)]) hx hb dX3_placeScripts_155 hl (by decide) rfl (fun ls hl => ?_)
          refine lv_iload hx hb dX3_placeScripts_157 (lv_at hl 1 rfl) ?_
          refine lv_iconst (v := 0) hx hb dX3_placeScripts_159 (by decide) ?_
          refine lv_iload_n hx hb dX3_placeScripts_160 rfl (lv_at hl 8 rfl) ?_
          refine lv_iload hx hb dX3_placeScripts_161 (lv_at hl 0 rfl) ?_
          refine lv_isub hx hb dX3_placeScripts_163 ?_
          refine va_mmax hx hb (hml.trans hl.1.symm) hown (hts (.methodLink RX3 156 Lib.Math.max.name) (by decide +kernel)) (hts (.static Lib.Math.max.name) (by decide +kernel)) (hts (.initialized "java/lang/Math") (by decide +kernel)) (hts (.code Lib.Math.max.name Lib.Math.max.code 2 (some .int)) (by decide +kernel)) (Nat.le_of_ble_eq_true rfl) (Nat.le_of_ble_eq_true rfl) (Nat.zero_le _) (Nat.zero_le _) dX3_placeScripts_164 ?_
          refine lv_eqi (mx_lt 0 (z - (((mx (mx (((r 14) (30 + n)) - (2 * z)) (if cr = 0 then (4 * z) else (3 * z))) ((if ((r 5) n) = -1 then 0 else (r 15) ((r 5) n).toNatClampNeg) + z)) - (if ((r 5) n) = -1 then 0 else (r 15) ((r 5) n).toNatClampNeg)) - ((if ((r 6) n) = -1 then 0 else (r 14) ((r 6) n).toNatClampNeg) - (mx (mx (((r 15) (30 + n)) + z) (2 * z)) ((if ((r 6) n) = -1 then 0 else (r 14) ((r 6) n).toNatClampNeg) - (4 * z))))))) ?_
          refine lv_iadd hx hb dX3_placeScripts_167 ?_
          refine lv_istore (lv' := [(8, .int ((mx (mx (((r 15) (30 + n)) + z) (2 * z)) ((if ((r 6) n) = -1 then 0 else (r 14) ((r 6) n).toNatClampNeg) - (4 * z))) + (mx 0 (z - (((mx (mx (((r 14) (30 + n)) - (2 * z)) (if cr = 0 then (4 * z) else (3 * z))) ((if ((r 5) n) = -1 then 0 else (r 15) ((r 5) n).toNatClampNeg) + z)) - (if ((r 5) n) = -1 then 0 else (r 15) ((r 5) n).toNatClampNeg)) - ((if ((r 6) n) = -1 then 0 else (r 14) ((r 6) n).toNatClampNeg) - (mx (mx (((r 15) (30 + n)) + z) (2 * z)) ((if ((r 6) n) = -1 then 0 else (r 14) ((r 6) n).toNatClampNeg) - (4 * z))))))))), (9, .int (((mx (mx (((r 14) (30 + n)) - (2 * z)) (if cr = 0 then (4 * z) else (3 * z))) ((if ((r 5) n) = -1 then 0 else (r 15) ((r 5) n).toNatClampNeg) + z)) - (if ((r 5) n) = -1 then 0 else (r 15) ((r 5) n).toNatClampNeg)) - ((if ((r 6) n) = -1 then 0 else (r 14) ((r 6) n).toNatClampNeg) - (mx (mx (((r 15) (30 + n)) + z) (2 * z)) ((if ((r 6) n) = -1 then 0 else (r 14) ((r 6) n).toNatClampNeg) - (4 * z)))))), (7, .int (mx (mx (((r 14) (30 + n)) - (2 * z)) (if cr = 0 then (4 * z) else (3 * z))) ((if ((r 5) n) = -1 then 0 else (r 15) ((r 5) n).toNatClampNeg) + z))), (6, .int ((r 6) n)), (5, .int ((r 5) n)), (4, .int (nI (30 + n))), (0, .ref (a 20)), (1, .int (nI n)), (2, .int z), (3, .int cr)]) hx hb dX3_placeScripts_168 hl (by decide) rfl (fun ls hl => ?_)
          have gx_2 : x_2 = ((mx (mx (((r 15) (30 + n)) + z) (2 * z)) ((if ((r 6) n) = -1 then 0 else (r 14) ((r 6) n).toNatClampNeg) - (4 * z))) + (mx 0 (z - (((mx (mx (((r 14) (30 + n)) - (2 * z)) (if cr = 0 then (4 * z) else (3 * z))) ((if ((r 5) n) = -1 then 0 else (r 15) ((r 5) n).toNatClampNeg) + z)) - (if ((r 5) n) = -1 then 0 else (r 15) ((r 5) n).toNatClampNeg)) - ((if ((r 6) n) = -1 then 0 else (r 14) ((r 6) n).toNatClampNeg) - (mx (mx (((r 15) (30 + n)) + z) (2 * z)) ((if ((r 6) n) = -1 then 0 else (r 14) ((r 6) n).toNatClampNeg) - (4 * z)))))))) := by rw [ex_2]; simp only [if_neg c_121, if_neg c_127]
          simp only [gx_2] at hJ
          exact hJ _ _ _ hP hD hS (lv_sub hl [0, 2, 3, 4, 5, 6, 7, 8, 9] rfl)
    · skip
      rw [ex_2] at hl
      refine lv_aload_n hx hb dX3_placeScripts_170 rfl (lv_at hl 5 rfl) ?_
      refine va_get (D := D) (ci := 3) (v := .ref (a 12)) (C := RX3) (T := TX3) (N := 6) hx hb hts hin_X3 hown hK hP 20 rfl rfl 1 (by decide) hf12 (fun _ h9 => h9) rfl dX3_placeScripts_171 ?_
      refine va_get (D := D) (ci := 1) (v := .ref (a 13)) (C := RX1) (T := TX1) (N := 5) hx hb hts hin_X1 hown hK hP 12 rfl rfl 0 (by decide) hf46 (fun _ h9 => h9) rfl dX3_placeScripts_174 ?_
      refine lv_iload hx hb dX3_placeScripts_177 (lv_at hl 4 rfl) ?_
      refine ra_ld (f := (r 13)) C0 hP 13 rfl (30 + n) rfl (by omega) (by decide) dX3_placeScripts_179 ?_
      refine lv_istore (lv' := [(9, .int ((r 13) (30 + n))), (8, .int (if ((r 5) n) = (-1) then (mx (mx (((r 15) (30 + n)) + z) (2 * z)) ((if ((r 6) n) = -1 then 0 else (r 14) ((r 6) n).toNatClampNeg) - (4 * z))) else (if ((r 6) n) = (-1) then (mx (mx (((r 15) (30 + n)) + z) (2 * z)) ((if ((r 6) n) = -1 then 0 else (r 14) ((r 6) n).toNatClampNeg) - (4 * z))) else ((mx (mx (((r 15) (30 + n)) + z) (2 * z)) ((if ((r 6) n) = -1 then 0 else (r 14) ((r 6) n).toNatClampNeg) - (4 * z))) + (mx 0 (z - (((mx (mx (((r 14) (30 + n)) - (2 * z)) (if cr = 0 then (4 * z) else (3 * z))) ((if ((r 5) n) = -1 then 0 else (r 15) ((r 5) n).toNatClampNeg) + z)) - (if ((r 5) n) = -1 then 0 else (r 15) ((r 5) n).toNatClampNeg)) - ((if ((r 6) n) = -1 then 0 else (r 14) ((r 6) n).toNatClampNeg) - (mx (mx (((r 15) (30 + n)) + z) (2 * z)) ((if ((r 6) n) = -1 then 0 else (r 14) ((r 6) n).toNatClampNeg) - (4 * z))))))))))), (7, .int (mx (mx (((r 14) (30 + n)) - (2 * z)) (if cr = 0 then (4 * z) else (3 * z))) ((if ((r 5) n) = -1 then 0 else (r 15) ((r 5) n).toNatClampNeg) + z))), (6, .int ((r 6) n)), (5, .int ((r 5) n)), (4, .int (nI (30 + n))), (0, .ref (a 20)), (1, .int (nI n)), (2, .int z), (3, .int cr)]) hx hb dX3_placeScripts_180 hl (by decide) rfl (fun ls hl => ?_)
      refine lv_aload_n hx hb dX3_placeScripts_182 rfl (lv_at hl 6 rfl) ?_
      refine lv_iload hx hb dX3_placeScripts_183 (lv_at hl 5 rfl) ?_
      refine lv_iload hx hb dX3_placeScripts_185 (lv_at hl 4 rfl) ?_
      refine lv_iload hx hb dX3_placeScripts_187 (lv_at hl 0 rfl) ?_
      refine lv_iload hx hb dX3_placeScripts_189 (lv_at hl 2 rfl) ?_
      refine kcDv C0 hP hD hS (c_X3_place l D cI a v r (30 + n) ct ((r 5) n) ((r 13) (30 + n)) (mx (mx (((r 14) (30 + n)) - (2 * z)) (if cr = 0 then (4 * z) else (3 * z))) ((if ((r 5) n) = -1 then 0 else (r 15) ((r 5) n).toNatClampNeg) + z)) hct hct1 (by omega) hup) (cwV 4 hts gX3_placeScripts_X3_place rfl rfl rfl (by decide +kernel) ⟨Nat.le_of_ble_eq_true rfl, Nat.le_of_ble_eq_true rfl⟩) 20 3 rfl rfl rfl hl.1 rfl (Nat.le_of_ble_eq_true rfl) dX3_placeScripts_191 ⟨Nat.zero_le _, Nat.zero_le _⟩ (fun H locs hP hD hS => ?_)
      have hP : va_P D vwCl (wX cI a v (plR r (30 + n) ((r 5) n) ((r 13) (30 + n)) (mx (mx (((r 14) (30 + n)) - (2 * z)) (if cr = 0 then (4 * z) else (3 * z))) ((if ((r 5) n) = -1 then 0 else (r 15) ((r 5) n).toNatClampNeg) + z)))) H := hP
      have hD : va_D A (wX cI a v (plR r (30 + n) ((r 5) n) ((r 13) (30 + n)) (mx (mx (((r 14) (30 + n)) - (2 * z)) (if cr = 0 then (4 * z) else (3 * z))) ((if ((r 5) n) = -1 then 0 else (r 15) ((r 5) n).toNatClampNeg) + z)))) := hD
      refine lv_aload_n hx hb dX3_placeScripts_194 rfl (lv_at hl 6 rfl) ?_
      refine lv_iload hx hb dX3_placeScripts_195 (lv_at hl 5 rfl) ?_
      refine lv_iload hx hb dX3_placeScripts_197 (lv_at hl 3 rfl) ?_
      refine lv_iload hx hb dX3_placeScripts_199 (lv_at hl 0 rfl) ?_
      refine lv_iload hx hb dX3_placeScripts_201 (lv_at hl 1 rfl) ?_
      refine lv_ineg hx hb dX3_placeScripts_203 ?_
      refine kcDv C0 hP hD hS (c_X3_place l D cI a v (plR r (30 + n) ((r 5) n) ((r 13) (30 + n)) (mx (mx (((r 14) (30 + n)) - (2 * z)) (if cr = 0 then (4 * z) else (3 * z))) ((if ((r 5) n) = -1 then 0 else (r 15) ((r 5) n).toNatClampNeg) + z))) (30 + n) ct ((r 6) n) ((r 13) (30 + n)) (-(if ((r 5) n) = (-1) then (mx (mx (((r 15) (30 + n)) + z) (2 * z)) ((if ((r 6) n) = -1 then 0 else (r 14) ((r 6) n).toNatClampNeg) - (4 * z))) else (if ((r 6) n) = (-1) then (mx (mx (((r 15) (30 + n)) + z) (2 * z)) ((if ((r 6) n) = -1 then 0 else (r 14) ((r 6) n).toNatClampNeg) - (4 * z))) else ((mx (mx (((r 15) (30 + n)) + z) (2 * z)) ((if ((r 6) n) = -1 then 0 else (r 14) ((r 6) n).toNatClampNeg) - (4 * z))) + (mx 0 (z - (((mx (mx (((r 14) (30 + n)) - (2 * z)) (if cr = 0 then (4 * z) else (3 * z))) ((if ((r 5) n) = -1 then 0 else (r 15) ((r 5) n).toNatClampNeg) + z)) - (if ((r 5) n) = -1 then 0 else (r 15) ((r 5) n).toNatClampNeg)) - ((if ((r 6) n) = -1 then 0 else (r 14) ((r 6) n).toNatClampNeg) - (mx (mx (((r 15) (30 + n)) + z) (2 * z)) ((if ((r 6) n) = -1 then 0 else (r 14) ((r 6) n).toNatClampNeg) - (4 * z))))))))))) hct hct1 (by omega) hlo) (cwV 4 hts gX3_placeScripts_X3_place rfl rfl rfl (by decide +kernel) ⟨Nat.le_of_ble_eq_true rfl, Nat.le_of_ble_eq_true rfl⟩) 20 3 rfl rfl rfl hl.1 rfl (Nat.le_of_ble_eq_true rfl) dX3_placeScripts_204 ⟨Nat.zero_le _, Nat.zero_le _⟩ (fun H locs hP hD hS => ?_)
      have hP : va_P D vwCl (wX cI a v (plR (plR r (30 + n) ((r 5) n) ((r 13) (30 + n)) (mx (mx (((r 14) (30 + n)) - (2 * z)) (if cr = 0 then (4 * z) else (3 * z))) ((if ((r 5) n) = -1 then 0 else (r 15) ((r 5) n).toNatClampNeg) + z))) (30 + n) ((r 6) n) ((r 13) (30 + n)) (-(if ((r 5) n) = (-1) then (mx (mx (((r 15) (30 + n)) + z) (2 * z)) ((if ((r 6) n) = -1 then 0 else (r 14) ((r 6) n).toNatClampNeg) - (4 * z))) else (if ((r 6) n) = (-1) then (mx (mx (((r 15) (30 + n)) + z) (2 * z)) ((if ((r 6) n) = -1 then 0 else (r 14) ((r 6) n).toNatClampNeg) - (4 * z))) else ((mx (mx (((r 15) (30 + n)) + z) (2 * z)) ((if ((r 6) n) = -1 then 0 else (r 14) ((r 6) n).toNatClampNeg) - (4 * z))) + (mx 0 (z - (((mx (mx (((r 14) (30 + n)) - (2 * z)) (if cr = 0 then (4 * z) else (3 * z))) ((if ((r 5) n) = -1 then 0 else (r 15) ((r 5) n).toNatClampNeg) + z)) - (if ((r 5) n) = -1 then 0 else (r 15) ((r 5) n).toNatClampNeg)) - ((if ((r 6) n) = -1 then 0 else (r 14) ((r 6) n).toNatClampNeg) - (mx (mx (((r 15) (30 + n)) + z) (2 * z)) ((if ((r 6) n) = -1 then 0 else (r 14) ((r 6) n).toNatClampNeg) - (4 * z))))))))))))) H := hP
      have hD : va_D A (wX cI a v (plR (plR r (30 + n) ((r 5) n) ((r 13) (30 + n)) (mx (mx (((r 14) (30 + n)) - (2 * z)) (if cr = 0 then (4 * z) else (3 * z))) ((if ((r 5) n) = -1 then 0 else (r 15) ((r 5) n).toNatClampNeg) + z))) (30 + n) ((r 6) n) ((r 13) (30 + n)) (-(if ((r 5) n) = (-1) then (mx (mx (((r 15) (30 + n)) + z) (2 * z)) ((if ((r 6) n) = -1 then 0 else (r 14) ((r 6) n).toNatClampNeg) - (4 * z))) else (if ((r 6) n) = (-1) then (mx (mx (((r 15) (30 + n)) + z) (2 * z)) ((if ((r 6) n) = -1 then 0 else (r 14) ((r 6) n).toNatClampNeg) - (4 * z))) else ((mx (mx (((r 15) (30 + n)) + z) (2 * z)) ((if ((r 6) n) = -1 then 0 else (r 14) ((r 6) n).toNatClampNeg) - (4 * z))) + (mx 0 (z - (((mx (mx (((r 14) (30 + n)) - (2 * z)) (if cr = 0 then (4 * z) else (3 * z))) ((if ((r 5) n) = -1 then 0 else (r 15) ((r 5) n).toNatClampNeg) + z)) - (if ((r 5) n) = -1 then 0 else (r 15) ((r 5) n).toNatClampNeg)) - ((if ((r 6) n) = -1 then 0 else (r 14) ((r 6) n).toNatClampNeg) - (mx (mx (((r 15) (30 + n)) + z) (2 * z)) ((if ((r 6) n) = -1 then 0 else (r 14) ((r 6) n).toNatClampNeg) - (4 * z))))))))))))) := hD
      refine lv_aload_n hx hb dX3_placeScripts_207 rfl (lv_at hl 6 rfl) ?_
      refine va_get (D := D) (ci := 3) (v := .ref (a 12)) (C := RX3) (T := TX3) (N := 6) hx hb hts hin_X3 hown hK hP 20 rfl rfl 1 (by decide) hf12 (fun _ h9 => h9) rfl dX3_placeScripts_208 ?_
      refine va_get (D := D) (ci := 1) (v := .ref (a 13)) (C := RX1) (T := TX1) (N := 5) hx hb hts hin_X1 hown hK hP 12 rfl rfl 0 (by decide) hf46 (fun _ h9 => h9) rfl dX3_placeScripts_211 ?_
      refine lv_iload hx hb dX3_placeScripts_214 (lv_at hl 5 rfl) ?_
      refine lv_iload hx hb dX3_placeScripts_216 (lv_at hl 0 rfl) ?_
      refine lv_aload_n hx hb dX3_placeScripts_218 rfl (lv_at hl 6 rfl) ?_
      refine va_get (D := D) (ci := 3) (v := .ref (a 12)) (C := RX3) (T := TX3) (N := 6) hx hb hts hin_X3 hown hK hP 20 rfl rfl 1 (by decide) hf12 (fun _ h9 => h9) rfl dX3_placeScripts_219 ?_
      refine lv_iload hx hb dX3_placeScripts_222 (lv_at hl 4 rfl) ?_
      refine kcD (ans := (if ((r 5) n) = -1 then 0 else (r 13) ((r 5) n).toNatClampNeg)) C0 hP hD hS (c_X1_widthOf l D cI a v (plR (plR r (30 + n) ((r 5) n) ((r 13) (30 + n)) (mx (mx (((r 14) (30 + n)) - (2 * z)) (if cr = 0 then (4 * z) else (3 * z))) ((if ((r 5) n) = -1 then 0 else (r 15) ((r 5) n).toNatClampNeg) + z))) (30 + n) ((r 6) n) ((r 13) (30 + n)) (-(if ((r 5) n) = (-1) then (mx (mx (((r 15) (30 + n)) + z) (2 * z)) ((if ((r 6) n) = -1 then 0 else (r 14) ((r 6) n).toNatClampNeg) - (4 * z))) else (if ((r 6) n) = (-1) then (mx (mx (((r 15) (30 + n)) + z) (2 * z)) ((if ((r 6) n) = -1 then 0 else (r 14) ((r 6) n).toNatClampNeg) - (4 * z))) else ((mx (mx (((r 15) (30 + n)) + z) (2 * z)) ((if ((r 6) n) = -1 then 0 else (r 14) ((r 6) n).toNatClampNeg) - (4 * z))) + (mx 0 (z - (((mx (mx (((r 14) (30 + n)) - (2 * z)) (if cr = 0 then (4 * z) else (3 * z))) ((if ((r 5) n) = -1 then 0 else (r 15) ((r 5) n).toNatClampNeg) + z)) - (if ((r 5) n) = -1 then 0 else (r 15) ((r 5) n).toNatClampNeg)) - ((if ((r 6) n) = -1 then 0 else (r 14) ((r 6) n).toNatClampNeg) - (mx (mx (((r 15) (30 + n)) + z) (2 * z)) ((if ((r 6) n) = -1 then 0 else (r 14) ((r 6) n).toNatClampNeg) - (4 * z)))))))))))) ((r 5) n) (hup.imp id (fun ⟨j, i1, j1, h1, h2, _⟩ => ⟨j, h1, h2⟩))) (cwV 1 hts gX3_placeScripts_X1_widthOf rfl rfl rfl (by decide +kernel) ⟨Nat.le_of_ble_eq_true rfl, Nat.le_of_ble_eq_true rfl⟩) 12 1 rfl rfl rfl hl.1 rfl (Nat.le_of_ble_eq_true rfl) dX3_placeScripts_224 ⟨Nat.zero_le _, Nat.zero_le _⟩ (fun H locs hP hD hS => ?_)
      refine lv_aload_n hx hb dX3_placeScripts_227 rfl (lv_at hl 6 rfl) ?_
      refine va_get (D := D) (ci := 3) (v := .ref (a 12)) (C := RX3) (T := TX3) (N := 6) hx hb hts hin_X3 hown hK hP 20 rfl rfl 1 (by decide) hf12 (fun _ h9 => h9) rfl dX3_placeScripts_228 ?_
      refine lv_iload hx hb dX3_placeScripts_231 (lv_at hl 3 rfl) ?_
      refine kcD (ans := (if ((r 6) n) = -1 then 0 else (r 13) ((r 6) n).toNatClampNeg)) C0 hP hD hS (c_X1_widthOf l D cI a v (plR (plR r (30 + n) ((r 5) n) ((r 13) (30 + n)) (mx (mx (((r 14) (30 + n)) - (2 * z)) (if cr = 0 then (4 * z) else (3 * z))) ((if ((r 5) n) = -1 then 0 else (r 15) ((r 5) n).toNatClampNeg) + z))) (30 + n) ((r 6) n) ((r 13) (30 + n)) (-(if ((r 5) n) = (-1) then (mx (mx (((r 15) (30 + n)) + z) (2 * z)) ((if ((r 6) n) = -1 then 0 else (r 14) ((r 6) n).toNatClampNeg) - (4 * z))) else (if ((r 6) n) = (-1) then (mx (mx (((r 15) (30 + n)) + z) (2 * z)) ((if ((r 6) n) = -1 then 0 else (r 14) ((r 6) n).toNatClampNeg) - (4 * z))) else ((mx (mx (((r 15) (30 + n)) + z) (2 * z)) ((if ((r 6) n) = -1 then 0 else (r 14) ((r 6) n).toNatClampNeg) - (4 * z))) + (mx 0 (z - (((mx (mx (((r 14) (30 + n)) - (2 * z)) (if cr = 0 then (4 * z) else (3 * z))) ((if ((r 5) n) = -1 then 0 else (r 15) ((r 5) n).toNatClampNeg) + z)) - (if ((r 5) n) = -1 then 0 else (r 15) ((r 5) n).toNatClampNeg)) - ((if ((r 6) n) = -1 then 0 else (r 14) ((r 6) n).toNatClampNeg) - (mx (mx (((r 15) (30 + n)) + z) (2 * z)) ((if ((r 6) n) = -1 then 0 else (r 14) ((r 6) n).toNatClampNeg) - (4 * z)))))))))))) ((r 6) n) (hlo.imp id (fun ⟨j, i1, j1, h1, h2, _⟩ => ⟨j, h1, h2⟩))) (cwV 1 hts gX3_placeScripts_X1_widthOf rfl rfl rfl (by decide +kernel) ⟨Nat.le_of_ble_eq_true rfl, Nat.le_of_ble_eq_true rfl⟩) 12 1 rfl rfl rfl hl.1 rfl (Nat.le_of_ble_eq_true rfl) dX3_placeScripts_233 ⟨Nat.zero_le _, Nat.zero_le _⟩ (fun H locs hP hD hS => ?_)
      refine va_mmax hx hb (hml.trans hl.1.symm) hown (hts (.methodLink RX3 156 Lib.Math.max.name) (by decide +kernel)) (hts (.static Lib.Math.max.name) (by decide +kernel)) (hts (.initialized "java/lang/Math") (by decide +kernel)) (hts (.code Lib.Math.max.name Lib.Math.max.code 2 (some .int)) (by decide +kernel)) (Nat.le_of_ble_eq_true rfl) (Nat.le_of_ble_eq_true rfl) (Nat.zero_le _) (Nat.zero_le _) dX3_placeScripts_236 ?_
      refine lv_eqi (mx_lt (if ((r 5) n) = -1 then 0 else (r 13) ((r 5) n).toNatClampNeg) (if ((r 6) n) = -1 then 0 else (r 13) ((r 6) n).toNatClampNeg)) ?_
      refine lv_iadd hx hb dX3_placeScripts_239 ?_
      refine lv_iload_n hx hb dX3_placeScripts_240 rfl (lv_at hl 8 rfl) ?_
      refine lv_iconst (v := 2) hx hb dX3_placeScripts_241 (by decide) ?_
      refine lv_idiv hx hb dX3_placeScripts_242 (by decide) ?_
      refine lv_iadd hx hb dX3_placeScripts_243 ?_
      refine ra_st (f := (r 13)) C0 hP hD hS 13 rfl (30 + n) rfl (by omega) (by decide) dX3_placeScripts_244 (fun H locs hP hD hS => ?_)
      have hset : ∀ (R_ : Nat → Nat → Int32) (g_ : Nat → Int32), (wX cI a v R_).set 13 (a 13, .inl (cI, 150, .inl g_)) = (wX cI a v (rU R_ 13 g_)) := fun _ _ => rfl
      rw [hset] at hP hD
      exact k_vret C0 () hP hD hS trivial dX3_placeScripts_245
