set_option maxHeartbeats 1500000 in
set_option maxRecDepth 100000 in
theorem c_X1_init (l : Launch) (D : va_G) (cI : ClassId) (b : Nat) : KA l D cI yX1_init wsX1_init ({ frames := 1, cells := 5, slots := 750, locals := 20 }) [.ref b] [(b, .inr (1, [.null, .null, .null, .null, .null]))] 5 750 (fun q : Nat × Nat × Nat × Nat × Nat => [(b, .inr (1, [.ref q.1, .ref q.2.1, .ref q.2.2.1, .ref q.2.2.2.1, .ref q.2.2.2.2])), (q.1, .inl (cI, 150, .inl fun _ => 0)), (q.2.1, .inl (cI, 150, .inl fun _ => 0)), (q.2.2.1, .inl (cI, 150, .inl fun _ => 0)), (q.2.2.2.1, .inl (cI, 150, .inl fun _ => 0)), (q.2.2.2.2, .inl (cI, 150, .inl fun _ => 0))]) (fun _ => True) := by
  refine KA.of (cc := cX1_init) (nL := 1) (ret := none) (by decide) rfl (Nat.le_of_ble_eq_true rfl) ?_
  intro pg9 en9 s m args below meth cd9 A ls C0 hnm9 hP hD hS hl
  have hx := C0.1.1
  have hb := C0.1.2.1
  have hml := C0.1.2.2.1
  have hown : s.vm.findClass RX1 = some m.cls := C0.1.2.2.2.1
  have hts : ∀ w ∈ wsX1_init, w.before args s = true := C0.1.2.2.2.2
  have hK := C0.2.2.2.1
  have hin_X1 : ∀ w ∈ wsX10, w ∈ wsX1_init := fun w h => List.mem_cons_of_mem _ (List.mem_append_right _ h)
  have hf9 : (Cond.fieldLink RX1 9 "FormulaLists$Boxes" "width" "[I").before args s = true := hts _ (by decide +kernel)
  have hf15 : (Cond.fieldLink RX1 15 "FormulaLists$Boxes" "height" "[I").before args s = true := hts _ (by decide +kernel)
  have hf18 : (Cond.fieldLink RX1 18 "FormulaLists$Boxes" "depth" "[I").before args s = true := hts _ (by decide +kernel)
  have hf21 : (Cond.fieldLink RX1 21 "FormulaLists$Boxes" "start" "[I").before args s = true := hts _ (by decide +kernel)
  have hf24 : (Cond.fieldLink RX1 24 "FormulaLists$Boxes" "end" "[I").before args s = true := hts _ (by decide +kernel)
  have ha : (Cond.arrayClass .int).before args s = true := hts _ (by decide +kernel)
  have ho1 : (Cond.methodLink RX1 3 Lib.objectInit).before args s = true := hts _ (by decide +kernel)
  have ho2 : (Cond.instanceMethod Lib.objectInit).before args s = true := hts _ (by decide +kernel)
  have ho3 : (Cond.code Lib.objectInit ⟨#[0xb1]⟩ 1 none).before args s = true := hts _ (by decide +kernel)
  have hl : lv_has ls 1 [(0, .ref b)] := hl
  refine lv_aload_n hx hb dX1_init_0 rfl (lv_at hl 0 rfl) ?_
  refine W.objInit hx hb hown ho1 ho2 ho3 rfl (hl.1.trans hml.symm) rfl dX1_init_1 (by decide) (Nat.le_of_ble_eq_true rfl) ?_
  refine lv_aload_n hx hb dX1_init_4 rfl (lv_at hl 0 rfl) ?_
  refine lv_sipush hx hb dX1_init_5 rfl ?_
  refine ka_newa C0 hP hD hS ha (n := 150) (N' := 150) (by decide) (by decide) (by decide) (by decide) (by decide) dX1_init_8 (fun q0 H hP hD hS => ?_)
  refine va_putF (D := D) (ci := 1) (v := .ref q0) (ty := .array .int) (C := RX1) (T := TX1) (N := 5) hx hb hts hin_X1 tyX1 tyX1_ok nmX1 hown hK hP hD hS 0 rfl rfl 0 (by decide) hf9 (fun _ h9 => h9) rfl hnm9 rfl (by decide +kernel) rfl rfl (Nat.le_of_ble_eq_true rfl) dX1_init_10 (fun H locs hP hD hS => ?_)
  refine lv_aload_n hx hb dX1_init_13 rfl (lv_at hl 0 rfl) ?_
  refine lv_sipush hx hb dX1_init_14 rfl ?_
  refine ka_newa C0 hP hD hS ha (n := 150) (N' := 150) (by decide) (by decide) (by decide) (by decide) (by decide) dX1_init_17 (fun q1 H hP hD hS => ?_)
  refine va_putF (D := D) (ci := 1) (v := .ref q1) (ty := .array .int) (C := RX1) (T := TX1) (N := 5) hx hb hts hin_X1 tyX1 tyX1_ok nmX1 hown hK hP hD hS 0 rfl rfl 1 (by decide) hf15 (fun _ h9 => h9) rfl hnm9 rfl (by decide +kernel) rfl rfl (Nat.le_of_ble_eq_true rfl) dX1_init_19 (fun H locs hP hD hS => ?_)
  refine lv_aload_n hx hb dX1_init_22 rfl (lv_at hl 0 rfl) ?_
  refine lv_sipush hx hb dX1_init_23 rfl ?_
  refine ka_newa C0 hP hD hS ha (n := 150) (N' := 150) (by decide) (by decide) (by decide) (by decide) (by decide) dX1_init_26 (fun q2 H hP hD hS => ?_)
  refine va_putF (D := D) (ci := 1) (v := .ref q2) (ty := .array .int) (C := RX1) (T := TX1) (N := 5) hx hb hts hin_X1 tyX1 tyX1_ok nmX1 hown hK hP hD hS 0 rfl rfl 2 (by decide) hf18 (fun _ h9 => h9) rfl hnm9 rfl (by decide +kernel) rfl rfl (Nat.le_of_ble_eq_true rfl) dX1_init_28 (fun H locs hP hD hS => ?_)
  refine lv_aload_n hx hb dX1_init_31 rfl (lv_at hl 0 rfl) ?_
  refine lv_sipush hx hb dX1_init_32 rfl ?_
  refine ka_newa C0 hP hD hS ha (n := 150) (N' := 150) (by decide) (by decide) (by decide) (by decide) (by decide) dX1_init_35 (fun q3 H hP hD hS => ?_)
  refine va_putF (D := D) (ci := 1) (v := .ref q3) (ty := .array .int) (C := RX1) (T := TX1) (N := 5) hx hb hts hin_X1 tyX1 tyX1_ok nmX1 hown hK hP hD hS 0 rfl rfl 3 (by decide) hf21 (fun _ h9 => h9) rfl hnm9 rfl (by decide +kernel) rfl rfl (Nat.le_of_ble_eq_true rfl) dX1_init_37 (fun H locs hP hD hS => ?_)
  refine lv_aload_n hx hb dX1_init_40 rfl (lv_at hl 0 rfl) ?_
  refine lv_sipush hx hb dX1_init_41 rfl ?_
  refine ka_newa C0 hP hD hS ha (n := 150) (N' := 150) (by decide) (by decide) (by decide) (by decide) (by decide) dX1_init_44 (fun q4 H hP hD hS => ?_)
  refine va_putF (D := D) (ci := 1) (v := .ref q4) (ty := .array .int) (C := RX1) (T := TX1) (N := 5) hx hb hts hin_X1 tyX1 tyX1_ok nmX1 hown hK hP hD hS 0 rfl rfl 4 (by decide) hf24 (fun _ h9 => h9) rfl hnm9 rfl (by decide +kernel) rfl rfl (Nat.le_of_ble_eq_true rfl) dX1_init_46 (fun H locs hP hD hS => ?_)
  exact ka_vret C0 (q0, q1, q2, q3, q4) hP hD hS trivial (by decide) (by decide) dX1_init_49
