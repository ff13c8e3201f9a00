theorem tno_44 : ∀ w ∈ (vx_atS RX4 44 "java/lang/IllegalArgumentException" ["java/lang/RuntimeException", "java/lang/Exception"]).filter (fun w => !goodWord w), w ∈ gsW := by decide +kernel
theorem tgd_44 : ∀ w ∈ Cond.classLink RX4 40 "java/lang/IllegalArgumentException" :: Cond.initialized "java/lang/IllegalArgumentException" :: vx_atS RX4 44 "java/lang/IllegalArgumentException" ["java/lang/RuntimeException", "java/lang/Exception"], vx_ot w = true := by decide +kernel
theorem tno_171 : ∀ w ∈ (vx_atX RX4 171 "java/util/NoSuchElementException" 13 rxN ["java/lang/RuntimeException", "java/lang/Exception"]).filter (fun w => !goodWord w), w ∈ gsW := by decide +kernel
theorem tgd_171 : ∀ w ∈ Cond.classLink RX4 167 "java/util/NoSuchElementException" :: Cond.initialized "java/util/NoSuchElementException" :: vx_atX RX4 171 "java/util/NoSuchElementException" 13 rxN ["java/lang/RuntimeException", "java/lang/Exception"], vx_ot w = true := by decide +kernel
theorem tno_74 : ∀ w ∈ (vx_atS RX4 74 "java/lang/IllegalStateException" ["java/lang/RuntimeException", "java/lang/Exception"]).filter (fun w => !goodWord w), w ∈ gsW := by decide +kernel
theorem tgd_74 : ∀ w ∈ Cond.classLink RX4 70 "java/lang/IllegalStateException" :: Cond.initialized "java/lang/IllegalStateException" :: vx_atS RX4 74 "java/lang/IllegalStateException" ["java/lang/RuntimeException", "java/lang/Exception"], vx_ot w = true := by decide +kernel
theorem tno_194 : ∀ w ∈ (vx_atS RX4 194 "java/lang/UnsupportedOperationException" ["java/lang/RuntimeException", "java/lang/Exception"]).filter (fun w => !goodWord w), w ∈ gsW := by decide +kernel
theorem tgd_194 : ∀ w ∈ Cond.classLink RX4 190 "java/lang/UnsupportedOperationException" :: Cond.initialized "java/lang/UnsupportedOperationException" :: vx_atS RX4 194 "java/lang/UnsupportedOperationException" ["java/lang/RuntimeException", "java/lang/Exception"], vx_ot w = true := by decide +kernel
theorem tno_143 : ∀ w ∈ (vx_atS RX4 143 "java/lang/IndexOutOfBoundsException" ["java/lang/RuntimeException", "java/lang/Exception"]).filter (fun w => !goodWord w), w ∈ gsW := by decide +kernel
theorem tgd_143 : ∀ w ∈ Cond.classLink RX4 139 "java/lang/IndexOutOfBoundsException" :: Cond.initialized "java/lang/IndexOutOfBoundsException" :: vx_atS RX4 143 "java/lang/IndexOutOfBoundsException" ["java/lang/RuntimeException", "java/lang/Exception"], vx_ot w = true := by decide +kernel
set_option maxHeartbeats 1500000 in
set_option maxRecDepth 100000 in
theorem c_X4_needList (l : Launch) (D : va_G) (cI : ClassId) (a : Nat → Nat) (v : Nat → Int32) (r : Nat → Nat → Int32) (x : Int32) (hst : l.stackTraces = false) : KXv l D cI yX4_needList wsX4_needList ({ frames := 6, cells := 1, slots := 6, locals := 82 }) [.ref (a 0), .int x] (wX cI a v r) 1 6 (fun _ : Unit => wX cI a v r) (fun _ => 0 ≤ x ∧ x < v 1) (fun E => E = "java/util/NoSuchElementException" ∧ ¬ (0 ≤ x ∧ x < v 1)) := by
  refine KXv.of (cc := cX4_needList) (nL := 2) (ret := none) (by decide) rfl (Nat.le_of_ble_eq_true rfl) ?_
  intro pg9 en9 s m args below meth cd9 A ls C0 hex hP hD hS hl
  have hx := C0.1.1
  have hb := C0.1.2.1
  have hml := C0.1.2.2.1
  have hown : s.vm.findClass RX4 = some m.cls := C0.1.2.2.2.1
  have hts : ∀ w ∈ wsX4_needList, w.before args s = true := C0.1.2.2.2.2
  have hK := C0.2.2.2.1
  have hin_X4 : ∀ w ∈ wsX40, w ∈ wsX4_needList := fun w h => List.mem_cons_of_mem _ (List.mem_append_left _ (List.mem_append_left _ (List.mem_append_right _ h)))
  have hf12 : (Cond.fieldLink RX4 12 "FormulaLists" "book" "LFormulaLists$Book;").before args s = true := hts _ (by decide +kernel)
  have hl : lv_has ls 2 [(0, .ref (a 0)), (1, .int x)] := hl
  have hP : va_P D vwCl (wX cI a v r) s.heap := hP
  refine lv_aload_n hx hb dX4_needList_0 rfl (lv_at hl 0 rfl) ?_
  refine va_get (D := D) (ci := 4) (v := .ref (a 1)) (C := RX4) (T := TX4) (N := 2) hx hb hts hin_X4 hown hK hP 0 rfl rfl 0 (by decide) hf12 (fun _ h9 => h9) rfl dX4_needList_1 ?_
  refine lv_iload_n hx hb dX4_needList_4 rfl (lv_at hl 1 rfl) ?_
  refine kcD (ans := (bI (0 ≤ x ∧ x < v 1))) C0 hP hD hS (c_X0_hasList l D cI a v r x ) (cwV 1 hts gX4_needList_X0_hasList rfl rfl rfl (by decide +kernel) ⟨Nat.le_of_ble_eq_true rfl, Nat.le_of_ble_eq_true rfl⟩) 1 0 rfl rfl rfl hl.1 rfl (Nat.le_of_ble_eq_true rfl) dX4_needList_5 ⟨Nat.le_of_ble_eq_true rfl, Nat.le_of_ble_eq_true rfl⟩ (fun H locs hP hD hS => ?_)
  refine lv_if_ne (tgt := 21) hx hb dX4_needList_8 (by decide) (fun c_8 => ?_) (fun c_8 => ?_)
  · skip
    exact kx_vret C0 () hP hD hS (bI_nz.mp c_8) (Nat.le_of_ble_eq_true rfl) (Nat.le_of_ble_eq_true rfl) dX4_needList_21
  · skip
    exact kx_throwX (by decide +kernel) (by decide +kernel) (by decide +kernel) (by decide +kernel) (cls := "java/util/NoSuchElementException") (text := "no such list") C0 hex hst hP hD hS hl.1 (by decide) (by decide +kernel) (by decide +kernel) (by decide) (fun w h => List.mem_cons_of_mem _ (List.mem_append_right _ h)) tno_171 tgd_171 dX4_needList_11 dX4_needList_14 dX4_needList_15 dX4_needList_17 dX4_needList_20 (Nat.le_of_ble_eq_true rfl) (Nat.le_of_ble_eq_true rfl) (Nat.le_of_ble_eq_true rfl) (Nat.le_of_ble_eq_true rfl) (Nat.le_of_ble_eq_true rfl) (Nat.le_of_ble_eq_true rfl) ⟨rfl, bI_z.mp c_8⟩

set_option maxHeartbeats 1500000 in
set_option maxRecDepth 100000 in
theorem c_X4_needAtom (l : Launch) (D : va_G) (cI : ClassId) (a : Nat → Nat) (v : Nat → Int32) (r : Nat → Nat → Int32) (x : Int32) (N : Nat) (hst : l.stackTraces = false) (hN : v 0 = nI N) (hN1 : N ≤ 120) : KXv l D cI yX4_needAtom wsX4_needAtom ({ frames := 6, cells := 1, slots := 6, locals := 82 }) [.ref (a 0), .int x] (wX cI a v r) 1 6 (fun _ : Unit => wX cI a v r) (fun _ => 0 ≤ x ∧ x < nI N ∧ ¬ r 3 x.toNatClampNeg = 4) (fun E => E = "java/util/NoSuchElementException" ∧ ¬ (0 ≤ x ∧ x < nI N ∧ ¬ r 3 x.toNatClampNeg = 4)) := by
  refine KXv.of (cc := cX4_needAtom) (nL := 2) (ret := none) (by decide) rfl (Nat.le_of_ble_eq_true rfl) ?_
  intro pg9 en9 s m args below meth cd9 A ls C0 hex hP hD hS hl
  have hx := C0.1.1
  have hb := C0.1.2.1
  have hml := C0.1.2.2.1
  have hown : s.vm.findClass RX4 = some m.cls := C0.1.2.2.2.1
  have hts : ∀ w ∈ wsX4_needAtom, w.before args s = true := C0.1.2.2.2.2
  have hK := C0.2.2.2.1
  have hin_X4 : ∀ w ∈ wsX40, w ∈ wsX4_needAtom := fun w h => List.mem_cons_of_mem _ (List.mem_append_left _ (List.mem_append_left _ (List.mem_append_right _ h)))
  have hf12 : (Cond.fieldLink RX4 12 "FormulaLists" "book" "LFormulaLists$Book;").before args s = true := hts _ (by decide +kernel)
  have hl : lv_has ls 2 [(0, .ref (a 0)), (1, .int x)] := hl
  have hP : va_P D vwCl (wX cI a v r) s.heap := hP
  refine lv_aload_n hx hb dX4_needAtom_0 rfl (lv_at hl 0 rfl) ?_
  refine va_get (D := D) (ci := 4) (v := .ref (a 1)) (C := RX4) (T := TX4) (N := 2) hx hb hts hin_X4 hown hK hP 0 rfl rfl 0 (by decide) hf12 (fun _ h9 => h9) rfl dX4_needAtom_1 ?_
  refine lv_iload_n hx hb dX4_needAtom_4 rfl (lv_at hl 1 rfl) ?_
  refine kcD (ans := (bI (0 ≤ x ∧ x < nI N ∧ ¬ r 3 x.toNatClampNeg = 4))) C0 hP hD hS (c_X0_hasAtom l D cI a v r x N hN hN1) (cwV 1 hts gX4_needAtom_X0_hasAtom rfl rfl rfl (by decide +kernel) ⟨Nat.le_of_ble_eq_true rfl, Nat.le_of_ble_eq_true rfl⟩) 1 0 rfl rfl rfl hl.1 rfl (Nat.le_of_ble_eq_true rfl) dX4_needAtom_5 ⟨Nat.le_of_ble_eq_true rfl, Nat.le_of_ble_eq_true rfl⟩ (fun H locs hP hD hS => ?_)
  refine lv_if_ne (tgt := 21) hx hb dX4_needAtom_8 (by decide) (fun c_8 => ?_) (fun c_8 => ?_)
  · skip
    exact kx_vret C0 () hP hD hS (bI_nz.mp c_8) (Nat.le_of_ble_eq_true rfl) (Nat.le_of_ble_eq_true rfl) dX4_needAtom_21
  · skip
    exact kx_throwX (by decide +kernel) (by decide +kernel) (by decide +kernel) (by decide +kernel) (cls := "java/util/NoSuchElementException") (text := "no such atom") C0 hex hst hP hD hS hl.1 (by decide) (by decide +kernel) (by decide +kernel) (by decide) (fun w h => List.mem_cons_of_mem _ (List.mem_append_right _ h)) tno_171 tgd_171 dX4_needAtom_11 dX4_needAtom_14 dX4_needAtom_15 dX4_needAtom_17 dX4_needAtom_20 (Nat.le_of_ble_eq_true rfl) (Nat.le_of_ble_eq_true rfl) (Nat.le_of_ble_eq_true rfl) (Nat.le_of_ble_eq_true rfl) (Nat.le_of_ble_eq_true rfl) (Nat.le_of_ble_eq_true rfl) ⟨rfl, bI_z.mp c_8⟩

set_option maxHeartbeats 1500000 in
set_option maxRecDepth 100000 in
theorem c_X4_needRoomForNode (l : Launch) (D : va_G) (cI : ClassId) (a : Nat → Nat) (v : Nat → Int32) (r : Nat → Nat → Int32)  (hst : l.stackTraces = false) : KXv l D cI yX4_needRoomForNode wsX4_needRoomForNode ({ frames := 6, cells := 1, slots := 6, locals := 82 }) [.ref (a 0)] (wX cI a v r) 1 6 (fun _ : Unit => wX cI a v r) (fun _ => v 0 < 120) (fun E => E = "java/lang/UnsupportedOperationException" ∧ ¬ v 0 < 120) := by
  refine KXv.of (cc := cX4_needRoomForNode) (nL := 1) (ret := none) (by decide) rfl (Nat.le_of_ble_eq_true rfl) ?_
  intro pg9 en9 s m args below meth cd9 A ls C0 hex hP hD hS hl
  have hx := C0.1.1
  have hb := C0.1.2.1
  have hml := C0.1.2.2.1
  have hown : s.vm.findClass RX4 = some m.cls := C0.1.2.2.2.1
  have hts : ∀ w ∈ wsX4_needRoomForNode, w.before args s = true := C0.1.2.2.2.2
  have hK := C0.2.2.2.1
  have hin_X4 : ∀ w ∈ wsX40, w ∈ wsX4_needRoomForNode := fun w h => List.mem_cons_of_mem _ (List.mem_append_left _ (List.mem_append_left _ (List.mem_append_right _ h)))
  have hf12 : (Cond.fieldLink RX4 12 "FormulaLists" "book" "LFormulaLists$Book;").before args s = true := hts _ (by decide +kernel)
  have hin_X0 : ∀ w ∈ wsX00, w ∈ wsX4_needRoomForNode := fun w h => List.mem_cons_of_mem _ (List.mem_append_left _ (List.mem_append_right _ h))
  have hf187 : (Cond.fieldLink RX4 187 "FormulaLists$Book" "nodes" "I").before args s = true := hts _ (by decide +kernel)
  have hl : lv_has ls 1 [(0, .ref (a 0))] := hl
  have hP : va_P D vwCl (wX cI a v r) s.heap := hP
  refine lv_aload_n hx hb dX4_needRoomForNode_0 rfl (lv_at hl 0 rfl) ?_
  refine va_get (D := D) (ci := 4) (v := .ref (a 1)) (C := RX4) (T := TX4) (N := 2) hx hb hts hin_X4 hown hK hP 0 rfl rfl 0 (by decide) hf12 (fun _ h9 => h9) rfl dX4_needRoomForNode_1 ?_
  refine va_get (D := D) (ci := 0) (v := .int (v 0)) (C := RX0) (T := TX0) (N := 14) hx hb hts hin_X0 hown hK hP 1 rfl rfl 0 (by decide) hf187 (fun _ h9 => h9) rfl dX4_needRoomForNode_4 ?_
  refine lv_bipush (v := 120) hx hb dX4_needRoomForNode_7 (by decide) ?_
  refine lv_icmp_lt (tgt := 22) hx hb dX4_needRoomForNode_9 (by decide) (fun c_9 => ?_) (fun c_9 => ?_)
  · skip
    exact kx_vret C0 () hP hD hS c_9 (Nat.le_of_ble_eq_true rfl) (Nat.le_of_ble_eq_true rfl) dX4_needRoomForNode_22
  · skip
    exact kx_throw (cls := "java/lang/UnsupportedOperationException") (text := "too many nodes") C0 hex hst hP hD hS hl.1 (by decide) (by decide +kernel) (by decide +kernel) (by decide) (fun w h => List.mem_cons_of_mem _ (List.mem_append_right _ h)) tno_194 tgd_194 dX4_needRoomForNode_12 dX4_needRoomForNode_15 dX4_needRoomForNode_16 dX4_needRoomForNode_18 dX4_needRoomForNode_21 (Nat.le_of_ble_eq_true rfl) (Nat.le_of_ble_eq_true rfl) (Nat.le_of_ble_eq_true rfl) (Nat.le_of_ble_eq_true rfl) (Nat.le_of_ble_eq_true rfl) (Nat.le_of_ble_eq_true rfl) ⟨rfl, c_9⟩

set_option maxHeartbeats 1500000 in
set_option maxRecDepth 100000 in
theorem c_X4_needRoomForList (l : Launch) (D : va_G) (cI : ClassId) (a : Nat → Nat) (v : Nat → Int32) (r : Nat → Nat → Int32)  (hst : l.stackTraces = false) : KXv l D cI yX4_needRoomForList wsX4_needRoomForList ({ frames := 6, cells := 1, slots := 6, locals := 82 }) [.ref (a 0)] (wX cI a v r) 1 6 (fun _ : Unit => wX cI a v r) (fun _ => v 1 < 30) (fun E => E = "java/lang/UnsupportedOperationException" ∧ ¬ v 1 < 30) := by
  refine KXv.of (cc := cX4_needRoomForList) (nL := 1) (ret := none) (by decide) rfl (Nat.le_of_ble_eq_true rfl) ?_
  intro pg9 en9 s m args below meth cd9 A ls C0 hex hP hD hS hl
  have hx := C0.1.1
  have hb := C0.1.2.1
  have hml := C0.1.2.2.1
  have hown : s.vm.findClass RX4 = some m.cls := C0.1.2.2.2.1
  have hts : ∀ w ∈ wsX4_needRoomForList, w.before args s = true := C0.1.2.2.2.2
  have hK := C0.2.2.2.1
  have hin_X4 : ∀ w ∈ wsX40, w ∈ wsX4_needRoomForList := fun w h => List.mem_cons_of_mem _ (List.mem_append_left _ (List.mem_append_left _ (List.mem_append_right _ h)))
  have hf12 : (Cond.fieldLink RX4 12 "FormulaLists" "book" "LFormulaLists$Book;").before args s = true := hts _ (by decide +kernel)
  have hin_X0 : ∀ w ∈ wsX00, w ∈ wsX4_needRoomForList := fun w h => List.mem_cons_of_mem _ (List.mem_append_left _ (List.mem_append_right _ h))
  have hf195 : (Cond.fieldLink RX4 195 "FormulaLists$Book" "lists" "I").before args s = true := hts _ (by decide +kernel)
  have hl : lv_has ls 1 [(0, .ref (a 0))] := hl
  have hP : va_P D vwCl (wX cI a v r) s.heap := hP
  refine lv_aload_n hx hb dX4_needRoomForList_0 rfl (lv_at hl 0 rfl) ?_
  refine va_get (D := D) (ci := 4) (v := .ref (a 1)) (C := RX4) (T := TX4) (N := 2) hx hb hts hin_X4 hown hK hP 0 rfl rfl 0 (by decide) hf12 (fun _ h9 => h9) rfl dX4_needRoomForList_1 ?_
  refine va_get (D := D) (ci := 0) (v := .int (v 1)) (C := RX0) (T := TX0) (N := 14) hx hb hts hin_X0 hown hK hP 1 rfl rfl 1 (by decide) hf195 (fun _ h9 => h9) rfl dX4_needRoomForList_4 ?_
  refine lv_bipush (v := 30) hx hb dX4_needRoomForList_7 (by decide) ?_
  refine lv_icmp_lt (tgt := 22) hx hb dX4_needRoomForList_9 (by decide) (fun c_9 => ?_) (fun c_9 => ?_)
  · skip
    exact kx_vret C0 () hP hD hS c_9 (Nat.le_of_ble_eq_true rfl) (Nat.le_of_ble_eq_true rfl) dX4_needRoomForList_22
  · skip
    exact kx_throw (cls := "java/lang/UnsupportedOperationException") (text := "too many lists") C0 hex hst hP hD hS hl.1 (by decide) (by decide +kernel) (by decide +kernel) (by decide) (fun w h => List.mem_cons_of_mem _ (List.mem_append_right _ h)) tno_194 tgd_194 dX4_needRoomForList_12 dX4_needRoomForList_15 dX4_needRoomForList_16 dX4_needRoomForList_18 dX4_needRoomForList_21 (Nat.le_of_ble_eq_true rfl) (Nat.le_of_ble_eq_true rfl) (Nat.le_of_ble_eq_true rfl) (Nat.le_of_ble_eq_true rfl) (Nat.le_of_ble_eq_true rfl) (Nat.le_of_ble_eq_true rfl) ⟨rfl, c_9⟩

set_option maxHeartbeats 1500000 in
set_option maxRecDepth 100000 in
theorem c_X4_needFree (l : Launch) (D : va_G) (cI : ClassId) (a : Nat → Nat) (v : Nat → Int32) (r : Nat → Nat → Int32) (x : Int32) (o : Nat) (dp : Nat → Nat) (hst : l.stackTraces = false) (hxe : x = nI x.toNatClampNeg) (hx1 : x.toNatClampNeg < 30) (ho1 : o < 30) (hdo : dp o ≤ 29) (hdp : ∀ j, j < 30 → r 10 j = -1 ∨ ∃ n i, r 10 j = nI n ∧ n < 120 ∧ r 2 n = nI i ∧ i < 30 ∧ dp i < dp j) : KXv l D cI yX4_needFree wsX4_needFree ({ frames := 6, cells := 1, slots := 6, locals := 82 }) [.ref (a 0), .int x, .int (nI o)] (wX cI a v r) 1 6 (fun _ : Unit => wX cI a v r) (fun _ => ((¬ nI x.toNatClampNeg = 0 ∧ r 10 x.toNatClampNeg = -1) ∧ ¬ wiF (r 10) (r 2) x 30 (nI o) = true)) (fun E => E = "java/lang/IllegalStateException" ∧ ¬ ((¬ nI x.toNatClampNeg = 0 ∧ r 10 x.toNatClampNeg = -1) ∧ ¬ wiF (r 10) (r 2) x 30 (nI o) = true)) := by
  refine KXv.of (cc := cX4_needFree) (nL := 3) (ret := none) (by decide) rfl (Nat.le_of_ble_eq_true rfl) ?_
  intro pg9 en9 s m args below meth cd9 A ls C0 hex hP hD hS hl
  have hx := C0.1.1
  have hb := C0.1.2.1
  have hml := C0.1.2.2.1
  have hown : s.vm.findClass RX4 = some m.cls := C0.1.2.2.2.1
  have hts : ∀ w ∈ wsX4_needFree, w.before args s = true := C0.1.2.2.2.2
  have hK := C0.2.2.2.1
  have hin_X4 : ∀ w ∈ wsX40, w ∈ wsX4_needFree := fun w h => List.mem_cons_of_mem _ (List.mem_append_left _ (List.mem_append_left _ (List.mem_append_right _ h)))
  have hf12 : (Cond.fieldLink RX4 12 "FormulaLists" "book" "LFormulaLists$Book;").before args s = true := hts _ (by decide +kernel)
  have hl : lv_has ls 3 [(0, .ref (a 0)), (1, .int x), (2, .int (nI o))] := hl
  have hP : va_P D vwCl (wX cI a v r) s.heap := hP
  refine lv_aload_n hx hb dX4_needFree_0 rfl (lv_at hl 0 rfl) ?_
  refine va_get (D := D) (ci := 4) (v := .ref (a 1)) (C := RX4) (T := TX4) (N := 2) hx hb hts hin_X4 hown hK hP 0 rfl rfl 0 (by decide) hf12 (fun _ h9 => h9) rfl dX4_needFree_1 ?_
  refine lv_iload_n hx hb dX4_needFree_4 rfl (lv_at hl 1 rfl) ?_
  refine lv_eqi hxe ?_
  refine kcD (ans := (bI (¬ nI x.toNatClampNeg = 0 ∧ (r 10) x.toNatClampNeg = -1))) C0 hP hD hS (c_X0_isFree l D cI a v r x.toNatClampNeg hx1) (cwV 1 hts gX4_needFree_X0_isFree rfl rfl rfl (by decide +kernel) ⟨Nat.le_of_ble_eq_true rfl, Nat.le_of_ble_eq_true rfl⟩) 1 0 rfl rfl rfl hl.1 rfl (Nat.le_of_ble_eq_true rfl) dX4_needFree_5 ⟨Nat.le_of_ble_eq_true rfl, Nat.le_of_ble_eq_true rfl⟩ (fun H locs hP hD hS => ?_)
  refine lv_if_ne (tgt := 21) hx hb dX4_needFree_8 (by decide) (fun c_8 => ?_) (fun c_8 => ?_)
  · skip
    refine lv_aload_n hx hb dX4_needFree_21 rfl (lv_at hl 0 rfl) ?_
    refine va_get (D := D) (ci := 4) (v := .ref (a 1)) (C := RX4) (T := TX4) (N := 2) hx hb hts hin_X4 hown hK hP 0 rfl rfl 0 (by decide) hf12 (fun _ h9 => h9) rfl dX4_needFree_22 ?_
    refine lv_iload_n hx hb dX4_needFree_25 rfl (lv_at hl 1 rfl) ?_
    refine lv_iload_n hx hb dX4_needFree_26 rfl (lv_at hl 2 rfl) ?_
    refine kcD (ans := (bI (wiF (r 10) (r 2) x 30 (nI o) = true))) C0 hP hD hS (c_X0_wouldRing l D cI a v r o x dp ho1 hdo hdp) (cwV 2 hts gX4_needFree_X0_wouldRing rfl rfl rfl (by decide +kernel) ⟨Nat.le_of_ble_eq_true rfl, Nat.le_of_ble_eq_true rfl⟩) 1 0 rfl rfl rfl hl.1 rfl (Nat.le_of_ble_eq_true rfl) dX4_needFree_27 ⟨Nat.le_of_ble_eq_true rfl, Nat.le_of_ble_eq_true rfl⟩ (fun H locs hP hD hS => ?_)
    refine lv_if_eq (tgt := 43) hx hb dX4_needFree_30 (by decide) (fun c_30 => ?_) (fun c_30 => ?_)
    · skip
      exact kx_vret C0 () hP hD hS ⟨bI_nz.mp c_8, bI_z.mp c_30⟩ (Nat.le_of_ble_eq_true rfl) (Nat.le_of_ble_eq_true rfl) dX4_needFree_43
    · skip
      exact kx_throw (cls := "java/lang/IllegalStateException") (text := "a ring") C0 hex hst hP hD hS hl.1 (by decide) (by decide +kernel) (by decide +kernel) (by decide) (fun w h => List.mem_cons_of_mem _ (List.mem_append_right _ h)) tno_74 tgd_74 dX4_needFree_33 dX4_needFree_36 dX4_needFree_37 dX4_needFree_39 dX4_needFree_42 (Nat.le_of_ble_eq_true rfl) (Nat.le_of_ble_eq_true rfl) (Nat.le_of_ble_eq_true rfl) (Nat.le_of_ble_eq_true rfl) (Nat.le_of_ble_eq_true rfl) (Nat.le_of_ble_eq_true rfl) ⟨rfl, fun h => h.2 (bI_nz.mp c_30)⟩
  · skip
    exact kx_throw (cls := "java/lang/IllegalStateException") (text := "the list is not free") C0 hex hst hP hD hS hl.1 (by decide) (by decide +kernel) (by decide +kernel) (by decide) (fun w h => List.mem_cons_of_mem _ (List.mem_append_right _ h)) tno_74 tgd_74 dX4_needFree_11 dX4_needFree_14 dX4_needFree_15 dX4_needFree_17 dX4_needFree_20 (Nat.le_of_ble_eq_true rfl) (Nat.le_of_ble_eq_true rfl) (Nat.le_of_ble_eq_true rfl) (Nat.le_of_ble_eq_true rfl) (Nat.le_of_ble_eq_true rfl) (Nat.le_of_ble_eq_true rfl) ⟨rfl, fun h => bI_z.mp c_8 h.1⟩
