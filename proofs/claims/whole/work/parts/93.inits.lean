set_option maxHeartbeats 1500000 in
set_option maxRecDepth 100000 in
theorem c_X2_init (l : Launch) (D : va_G) (cI : ClassId) (b : Nat) : KA l D cI yX2_init wsX2_init ({ frames := 1, cells := 1, slots := 1200, locals := 20 }) [.ref b] [(b, .inr (2, [.int 0, .null]))] 1 1200 (fun q : Nat => [(b, .inr (2, [.int 0, .ref q])), (q, .inl (cI, 1200, .inl fun _ => 0))]) (fun _ => True) := by
  refine KA.of (cc := cX2_init) (nL := 1) (ret := none) (by decide) rfl (Nat.le_of_ble_eq_true rfl) ?_
  intro pg9 en9 s m args below meth cd9 A ls C0 hnm9 hP hD hS hl
  have hx := C0.1.1
  have hb := C0.1.2.1
  have hml := C0.1.2.2.1
  have hown : s.vm.findClass RX2 = some m.cls := C0.1.2.2.2.1
  have hts : ∀ w ∈ wsX2_init, w.before args s = true := C0.1.2.2.2.2
  have hK := C0.2.2.2.1
  have hin_X2 : ∀ w ∈ wsX20, w ∈ wsX2_init := fun w h => List.mem_cons_of_mem _ (List.mem_append_right _ h)
  have hf9 : (Cond.fieldLink RX2 9 "FormulaLists$Items" "count" "I").before args s = true := hts _ (by decide +kernel)
  have hf15 : (Cond.fieldLink RX2 15 "FormulaLists$Items" "parts" "[I").before args s = true := hts _ (by decide +kernel)
  have ha : (Cond.arrayClass .int).before args s = true := hts _ (by decide +kernel)
  have ho1 : (Cond.methodLink RX2 3 Lib.objectInit).before args s = true := hts _ (by decide +kernel)
  have ho2 : (Cond.instanceMethod Lib.objectInit).before args s = true := hts _ (by decide +kernel)
  have ho3 : (Cond.code Lib.objectInit ⟨#[0xb1]⟩ 1 none).before args s = true := hts _ (by decide +kernel)
  have hl : lv_has ls 1 [(0, .ref b)] := hl
  refine lv_aload_n hx hb dX2_init_0 rfl (lv_at hl 0 rfl) ?_
  refine W.objInit hx hb hown ho1 ho2 ho3 rfl (hl.1.trans hml.symm) rfl dX2_init_1 (by decide) (Nat.le_of_ble_eq_true rfl) ?_
  refine lv_aload_n hx hb dX2_init_4 rfl (lv_at hl 0 rfl) ?_
  refine lv_iconst hx hb dX2_init_5 rfl ?_
  refine va_put (D := D) (ci := 2) (v := .int 0) (ty := .int) (C := RX2) (T := TX2) (N := 2) hx hb hts hin_X2 tyX2 tyX2_ok nmX2 hown hK hP hD hS 0 rfl rfl 0 (by decide) hf9 (fun _ h9 => h9) rfl (by decide +kernel) rfl rfl (Nat.le_of_ble_eq_true rfl) dX2_init_6 (fun H locs hP hD hS => ?_)
  refine lv_aload_n hx hb dX2_init_9 rfl (lv_at hl 0 rfl) ?_
  refine lv_sipush hx hb dX2_init_10 rfl ?_
  refine ka_newa C0 hP hD hS ha (n := 1200) (N' := 1200) (by decide) (by decide) (by decide) (by decide) (by decide) dX2_init_13 (fun q H hP hD hS => ?_)
  refine va_putF (D := D) (ci := 2) (v := .ref q) (ty := .array .int) (C := RX2) (T := TX2) (N := 2) hx hb hts hin_X2 tyX2 tyX2_ok nmX2 hown hK hP hD hS 0 rfl rfl 1 (by decide) hf15 (fun _ h9 => h9) rfl hnm9 rfl (by decide +kernel) rfl rfl (Nat.le_of_ble_eq_true rfl) dX2_init_15 (fun H locs hP hD hS => ?_)
  exact ka_vret C0 q hP hD hS trivial (by decide) (by decide) dX2_init_18
