set_option maxHeartbeats 1500000 in
theorem pf_X4_fraction_0 (a : Nat → Nat) (v : Nat → Int32) (r : Nat → Nat → Int32) (x y : Int32) (z : Int64) (N L o : Nat) (dp : Nat → Nat) (hN : v 0 = nI N) (hN1 : N ≤ 120) (hL : v 1 = nI L) (hL1 : L ≤ 30) (hO : v 2 = nI o) (ho1 : o < 30) (hdo : ∀ j, j < L → dp j ≤ 29) (hoL : o < L) (hdp : ∀ j, j < 30 → r 10 j = -1 ∨ ∃ n i, r 10 j = nI n ∧ n < 120 ∧ r 2 n = nI i ∧ i < 30 ∧ dp i < dp j) (hz9 : ¬ (0 ≤ x ∧ x < v 1)) : cF v r x y z = 1 := by
  unfold cF; (repeat' split) <;> first | rfl | (exfalso; simp_all; done)
set_option maxHeartbeats 1500000 in
theorem pf_X4_fraction_1 (a : Nat → Nat) (v : Nat → Int32) (r : Nat → Nat → Int32) (x y : Int32) (z : Int64) (N L o : Nat) (dp : Nat → Nat) (hN : v 0 = nI N) (hN1 : N ≤ 120) (hL : v 1 = nI L) (hL1 : L ≤ 30) (hO : v 2 = nI o) (ho1 : o < 30) (hdo : ∀ j, j < L → dp j ≤ 29) (hoL : o < L) (hdp : ∀ j, j < 30 → r 10 j = -1 ∨ ∃ n i, r 10 j = nI n ∧ n < 120 ∧ r 2 n = nI i ∧ i < 30 ∧ dp i < dp j) (hq_5 : 0 ≤ x ∧ x < v 1) (hz9 : ¬ (0 ≤ y ∧ y < v 1)) : cF v r x y z = 1 := by
  unfold cF; (repeat' split) <;> first | rfl | (exfalso; simp_all; done)
set_option maxHeartbeats 1500000 in
theorem pf_X4_fraction_2 (a : Nat → Nat) (v : Nat → Int32) (r : Nat → Nat → Int32) (x y : Int32) (z : Int64) (N L o : Nat) (dp : Nat → Nat) (hN : v 0 = nI N) (hN1 : N ≤ 120) (hL : v 1 = nI L) (hL1 : L ≤ 30) (hO : v 2 = nI o) (ho1 : o < 30) (hdo : ∀ j, j < L → dp j ≤ 29) (hoL : o < L) (hdp : ∀ j, j < 30 → r 10 j = -1 ∨ ∃ n i, r 10 j = nI n ∧ n < 120 ∧ r 2 n = nI i ∧ i < 30 ∧ dp i < dp j) (hq_5 : 0 ≤ x ∧ x < v 1) (hq_10 : 0 ≤ y ∧ y < v 1) (c_15 : (lg_cmp z 1000) ≤ 0) (c_30 : ¬ (x = y)) (hz9 : ¬ ((¬ nI x.toNatClampNeg = 0 ∧ r 10 x.toNatClampNeg = -1) ∧ ¬ wiF (r 10) (r 2) x 30 (v 2) = true)) : cF v r x y z = 3 := by
  unfold cF; (repeat' split) <;> first | rfl | (exfalso; simp_all; done)
set_option maxHeartbeats 1500000 in
theorem pf_X4_fraction_3 (a : Nat → Nat) (v : Nat → Int32) (r : Nat → Nat → Int32) (x y : Int32) (z : Int64) (N L o : Nat) (dp : Nat → Nat) (hN : v 0 = nI N) (hN1 : N ≤ 120) (hL : v 1 = nI L) (hL1 : L ≤ 30) (hO : v 2 = nI o) (ho1 : o < 30) (hdo : ∀ j, j < L → dp j ≤ 29) (hoL : o < L) (hdp : ∀ j, j < 30 → r 10 j = -1 ∨ ∃ n i, r 10 j = nI n ∧ n < 120 ∧ r 2 n = nI i ∧ i < 30 ∧ dp i < dp j) (hq_5 : 0 ≤ x ∧ x < v 1) (hq_10 : 0 ≤ y ∧ y < v 1) (c_15 : (lg_cmp z 1000) ≤ 0) (c_30 : ¬ (x = y)) (hq_55 : (¬ nI x.toNatClampNeg = 0 ∧ r 10 x.toNatClampNeg = -1) ∧ ¬ wiF (r 10) (r 2) x 30 (v 2) = true) (hz9 : ¬ ((¬ nI y.toNatClampNeg = 0 ∧ r 10 y.toNatClampNeg = -1) ∧ ¬ wiF (r 10) (r 2) y 30 (v 2) = true)) : cF v r x y z = 3 := by
  unfold cF; (repeat' split) <;> first | rfl | (exfalso; simp_all; done)
set_option maxHeartbeats 1500000 in
theorem pf_X4_fraction_4 (a : Nat → Nat) (v : Nat → Int32) (r : Nat → Nat → Int32) (x y : Int32) (z : Int64) (N L o : Nat) (dp : Nat → Nat) (hN : v 0 = nI N) (hN1 : N ≤ 120) (hL : v 1 = nI L) (hL1 : L ≤ 30) (hO : v 2 = nI o) (ho1 : o < 30) (hdo : ∀ j, j < L → dp j ≤ 29) (hoL : o < L) (hdp : ∀ j, j < 30 → r 10 j = -1 ∨ ∃ n i, r 10 j = nI n ∧ n < 120 ∧ r 2 n = nI i ∧ i < 30 ∧ dp i < dp j) (hq_5 : 0 ≤ x ∧ x < v 1) (hq_10 : 0 ≤ y ∧ y < v 1) (c_15 : (lg_cmp z 1000) ≤ 0) (c_30 : ¬ (x = y)) (hq_55 : (¬ nI x.toNatClampNeg = 0 ∧ r 10 x.toNatClampNeg = -1) ∧ ¬ wiF (r 10) (r 2) x 30 (v 2) = true) (hq_67 : (¬ nI y.toNatClampNeg = 0 ∧ r 10 y.toNatClampNeg = -1) ∧ ¬ wiF (r 10) (r 2) y 30 (v 2) = true) (hz9 : ¬ (v 0 < 120)) : cF v r x y z = 4 := by
  unfold cF; (repeat' split) <;> first | rfl | (exfalso; simp_all; done)
set_option maxHeartbeats 1500000 in
theorem pf_X4_fraction_5 (a : Nat → Nat) (v : Nat → Int32) (r : Nat → Nat → Int32) (x y : Int32) (z : Int64) (N L o : Nat) (dp : Nat → Nat) (hN : v 0 = nI N) (hN1 : N ≤ 120) (hL : v 1 = nI L) (hL1 : L ≤ 30) (hO : v 2 = nI o) (ho1 : o < 30) (hdo : ∀ j, j < L → dp j ≤ 29) (hoL : o < L) (hdp : ∀ j, j < 30 → r 10 j = -1 ∨ ∃ n i, r 10 j = nI n ∧ n < 120 ∧ r 2 n = nI i ∧ i < 30 ∧ dp i < dp j) (hq_5 : 0 ≤ x ∧ x < v 1) (hq_10 : 0 ≤ y ∧ y < v 1) (c_15 : (lg_cmp z 1000) ≤ 0) (c_30 : ¬ (x = y)) (hq_55 : (¬ nI x.toNatClampNeg = 0 ∧ r 10 x.toNatClampNeg = -1) ∧ ¬ wiF (r 10) (r 2) x 30 (v 2) = true) (hq_67 : (¬ nI y.toNatClampNeg = 0 ∧ r 10 y.toNatClampNeg = -1) ∧ ¬ wiF (r 10) (r 2) y 30 (v 2) = true) (hq_71 : v 0 < 120) (x_1 : Int32) (ex_1 : x_1 = (if 0 ≤ (lg_cmp z 0) then z.toInt32 else (-1 : Int32))) : cF v r x y z = 0 := by
  unfold cF; (repeat' split) <;> first | rfl | (exfalso; simp_all; done)
set_option maxHeartbeats 1500000 in
theorem pf_X4_fraction_6 (a : Nat → Nat) (v : Nat → Int32) (r : Nat → Nat → Int32) (x y : Int32) (z : Int64) (N L o : Nat) (dp : Nat → Nat) (hN : v 0 = nI N) (hN1 : N ≤ 120) (hL : v 1 = nI L) (hL1 : L ≤ 30) (hO : v 2 = nI o) (ho1 : o < 30) (hdo : ∀ j, j < L → dp j ≤ 29) (hoL : o < L) (hdp : ∀ j, j < 30 → r 10 j = -1 ∨ ∃ n i, r 10 j = nI n ∧ n < 120 ∧ r 2 n = nI i ∧ i < 30 ∧ dp i < dp j) (hq_5 : 0 ≤ x ∧ x < v 1) (hq_10 : 0 ≤ y ∧ y < v 1) (c_15 : (lg_cmp z 1000) ≤ 0) (c_30 : x = y) : cF v r x y z = 3 := by
  unfold cF; (repeat' split) <;> first | rfl | (exfalso; simp_all; done)
set_option maxHeartbeats 1500000 in
theorem pf_X4_fraction_7 (a : Nat → Nat) (v : Nat → Int32) (r : Nat → Nat → Int32) (x y : Int32) (z : Int64) (N L o : Nat) (dp : Nat → Nat) (hN : v 0 = nI N) (hN1 : N ≤ 120) (hL : v 1 = nI L) (hL1 : L ≤ 30) (hO : v 2 = nI o) (ho1 : o < 30) (hdo : ∀ j, j < L → dp j ≤ 29) (hoL : o < L) (hdp : ∀ j, j < 30 → r 10 j = -1 ∨ ∃ n i, r 10 j = nI n ∧ n < 120 ∧ r 2 n = nI i ∧ i < 30 ∧ dp i < dp j) (hq_5 : 0 ≤ x ∧ x < v 1) (hq_10 : 0 ≤ y ∧ y < v 1) (c_15 : ¬ ((lg_cmp z 1000) ≤ 0)) : cF v r x y z = 2 := by
  unfold cF; (repeat' split) <;> first | rfl | (exfalso; simp_all; done)
set_option maxHeartbeats 1500000 in
set_option maxRecDepth 100000 in
theorem c_X4_fraction (l : Launch) (D : va_G) (cI : ClassId) (a : Nat → Nat) (v : Nat → Int32) (r : Nat → Nat → Int32) (x y : Int32) (z : Int64) (N L o : Nat) (dp : Nat → Nat) (hst : l.stackTraces = false) (hN : v 0 = nI N) (hN1 : N ≤ 120) (hL : v 1 = nI L) (hL1 : L ≤ 30) (hO : v 2 = nI o) (ho1 : o < 30) (hdo : ∀ j, j < L → dp j ≤ 29) (hoL : o < L) (hdp : ∀ j, j < 30 → r 10 j = -1 ∨ ∃ n i, r 10 j = nI n ∧ n < 120 ∧ r 2 n = nI i ∧ i < 30 ∧ dp i < dp j) : KX l D cI yX4_fraction wsX4_fraction ({ frames := 7, cells := 6, slots := 36, locals := 104 }) [.ref (a 0), .int x, .int y, .long z] (wX cI a v r) 6 36 (fun u : (Nat → Int32) × Rw => wX cI a u.1 u.2) (fun q u => cF v r x y z = 0 ∧ (q, u.1, u.2) = (v 0, vU v 0 (v 0 + 1), rU (clR r N (v 2) 1 7 x y (if 0 ≤ lg_cmp z 0 then z.toInt32 else (-1))) 10 (upd (upd (r 10) x.toNatClampNeg (v 0)) y.toNatClampNeg (v 0)))) (fun E => (cF v r x y z = 1 ∧ E = "java/util/NoSuchElementException") ∨ (cF v r x y z = 2 ∧ E = "java/lang/IllegalArgumentException") ∨ (cF v r x y z = 3 ∧ E = "java/lang/IllegalStateException") ∨ (cF v r x y z = 4 ∧ E = "java/lang/UnsupportedOperationException")) := by
  refine KX.of (cc := cX4_fraction) (nL := 6) (ret := (some .int)) (by decide) rfl (Nat.le_of_ble_eq_true rfl) ?_
  intro pg9 en9 s m args below meth cd9 A ls C0 hex hP hD hS hl
  have hx := C0.1.1
  have hb := C0.1.2.1
  have hml := C0.1.2.2.1
  have hown : s.vm.findClass RX4 = some m.cls := C0.1.2.2.2.1
  have hts : ∀ w ∈ wsX4_fraction, w.before args s = true := C0.1.2.2.2.2
  have hK := C0.2.2.2.1
  have hin_X4 : ∀ w ∈ wsX40, w ∈ wsX4_fraction := fun w h => List.mem_cons_of_mem _ (List.mem_append_left _ (List.mem_append_left _ (List.mem_append_left _ (List.mem_append_left _ (List.mem_append_left _ (List.mem_append_right _ h))))))
  have hf12 : (Cond.fieldLink RX4 12 "FormulaLists" "book" "LFormulaLists$Book;").before args s = true := hts _ (by decide +kernel)
  have hin_X0 : ∀ w ∈ wsX00, w ∈ wsX4_fraction := fun w h => List.mem_cons_of_mem _ (List.mem_append_left _ (List.mem_append_left _ (List.mem_append_left _ (List.mem_append_left _ (List.mem_append_right _ h)))))
  have hf32 : (Cond.fieldLink RX4 32 "FormulaLists$Book" "open" "I").before args s = true := hts _ (by decide +kernel)
  have hf82 : (Cond.fieldLink RX4 82 "FormulaLists$Book" "holder" "[I").before args s = true := hts _ (by decide +kernel)
  have hl : lv_has ls 6 [(0, .ref (a 0)), (1, .int x), (2, .int y), (3, .long z)] := hl
  have hP : va_P D vwCl (wX cI a v r) s.heap := hP
  refine lv_aload_n hx hb dX4_fraction_0 rfl (lv_at hl 0 rfl) ?_
  refine lv_iload_n hx hb dX4_fraction_1 rfl (lv_at hl 1 rfl) ?_
  refine kcXv C0 hex hP hD hS (c_X4_needList l D cI a v r x  hst ) (cwV 1 hts gX4_fraction_X4_needList rfl rfl rfl (by decide +kernel) ⟨Nat.le_of_ble_eq_true rfl, Nat.le_of_ble_eq_true rfl⟩) 0 4 rfl rfl rfl hl.1 rfl (Nat.le_of_ble_eq_true rfl) dX4_fraction_2 ⟨Nat.le_of_ble_eq_true rfl, Nat.le_of_ble_eq_true rfl⟩ (Nat.le_of_ble_eq_true rfl) (Nat.le_of_ble_eq_true rfl) (fun E h9 => (Or.inl ⟨(pf_X4_fraction_0 a v r x y z N L o dp hN hN1 hL hL1 hO ho1 hdo hoL hdp h9.2), h9.1⟩)) (fun _ H locs hq hP hD hS => ?_)
  have hq_5 : 0 ≤ x ∧ x < v 1 := hq
  have hP : va_P D vwCl (wX cI a v r) H := hP
  have hD : va_D A (wX cI a v r) := hD
  refine lv_aload_n hx hb dX4_fraction_5 rfl (lv_at hl 0 rfl) ?_
  refine lv_iload_n hx hb dX4_fraction_6 rfl (lv_at hl 2 rfl) ?_
  refine kcXv C0 hex hP hD hS (c_X4_needList l D cI a v r y  hst ) (cwV 1 hts gX4_fraction_X4_needList rfl rfl rfl (by decide +kernel) ⟨Nat.le_of_ble_eq_true rfl, Nat.le_of_ble_eq_true rfl⟩) 0 4 rfl rfl rfl hl.1 rfl (Nat.le_of_ble_eq_true rfl) dX4_fraction_7 ⟨Nat.le_of_ble_eq_true rfl, Nat.le_of_ble_eq_true rfl⟩ (Nat.le_of_ble_eq_true rfl) (Nat.le_of_ble_eq_true rfl) (fun E h9 => (Or.inl ⟨(pf_X4_fraction_1 a v r x y z N L o dp hN hN1 hL hL1 hO ho1 hdo hoL hdp hq_5 h9.2), h9.1⟩)) (fun _ H locs hq hP hD hS => ?_)
  have hq_10 : 0 ≤ y ∧ y < v 1 := hq
  have hP : va_P D vwCl (wX cI a v r) H := hP
  have hD : va_D A (wX cI a v r) := hD
  refine lv_lload_n hx hb dX4_fraction_10 rfl (lv_at hl 3 rfl) ?_
  refine lv_ldc2 (v := 1000) hx hb hown (hts (.constantLong RX4 89 1000) (by decide +kernel)) dX4_fraction_11 ?_
  refine W.lcmp hx hb dX4_fraction_14 ?_
  refine lv_if_le (tgt := 28) hx hb dX4_fraction_15 (by decide) (fun c_15 => ?_) (fun c_15 => ?_)
  · skip
    refine lv_iload_n hx hb dX4_fraction_28 rfl (lv_at hl 1 rfl) ?_
    refine lv_iload_n hx hb dX4_fraction_29 rfl (lv_at hl 2 rfl) ?_
    refine lv_icmp_ne (tgt := 43) hx hb dX4_fraction_30 (by decide) (fun c_30 => ?_) (fun c_30 => ?_)
    · skip
      refine lv_aload_n hx hb dX4_fraction_43 rfl (lv_at hl 0 rfl) ?_
      refine lv_iload_n hx hb dX4_fraction_44 rfl (lv_at hl 1 rfl) ?_
      refine lv_aload_n hx hb dX4_fraction_45 rfl (lv_at hl 0 rfl) ?_
      refine va_get (D := D) (ci := 4) (v := .ref (a 1)) (C := RX4) (T := TX4) (N := 2) hx hb hts hin_X4 hown hK hP 0 rfl rfl 0 (by decide) hf12 (fun _ h9 => h9) rfl dX4_fraction_46 ?_
      refine va_get (D := D) (ci := 0) (v := .int (v 2)) (C := RX0) (T := TX0) (N := 14) hx hb hts hin_X0 hown hK hP 1 rfl rfl 2 (by decide) hf32 (fun _ h9 => h9) rfl dX4_fraction_49 ?_
      refine lv_eqi hO ?_
      refine kcXv C0 hex hP hD hS (c_X4_needFree l D cI a v r x o dp hst (ls_ix hq_5 hL hL1).1 (ls_ix hq_5 hL hL1).2 ho1 (hdo o hoL) hdp) (cwV 2 hts gX4_fraction_X4_needFree rfl rfl rfl (by decide +kernel) ⟨Nat.le_of_ble_eq_true rfl, Nat.le_of_ble_eq_true rfl⟩) 0 4 rfl rfl rfl hl.1 rfl (Nat.le_of_ble_eq_true rfl) dX4_fraction_52 ⟨Nat.le_of_ble_eq_true rfl, Nat.le_of_ble_eq_true rfl⟩ (Nat.le_of_ble_eq_true rfl) (Nat.le_of_ble_eq_true rfl) (fun E h9 => (Or.inr (Or.inr (Or.inl ⟨(pf_X4_fraction_2 a v r x y z N L o dp hN hN1 hL hL1 hO ho1 hdo hoL hdp hq_5 hq_10 c_15 c_30 (by have h8 := h9.2; rw [← hO] at h8; exact h8)), h9.1⟩)))) (fun _ H locs hq hP hD hS => ?_)
      have hq_55 : (¬ nI x.toNatClampNeg = 0 ∧ r 10 x.toNatClampNeg = -1) ∧ ¬ wiF (r 10) (r 2) x 30 (v 2) = true := by rw [hO]; exact hq
      have hP : va_P D vwCl (wX cI a v r) H := hP
      have hD : va_D A (wX cI a v r) := hD
      refine lv_aload_n hx hb dX4_fraction_55 rfl (lv_at hl 0 rfl) ?_
      refine lv_iload_n hx hb dX4_fraction_56 rfl (lv_at hl 2 rfl) ?_
      refine lv_aload_n hx hb dX4_fraction_57 rfl (lv_at hl 0 rfl) ?_
      refine va_get (D := D) (ci := 4) (v := .ref (a 1)) (C := RX4) (T := TX4) (N := 2) hx hb hts hin_X4 hown hK hP 0 rfl rfl 0 (by decide) hf12 (fun _ h9 => h9) rfl dX4_fraction_58 ?_
      refine va_get (D := D) (ci := 0) (v := .int (v 2)) (C := RX0) (T := TX0) (N := 14) hx hb hts hin_X0 hown hK hP 1 rfl rfl 2 (by decide) hf32 (fun _ h9 => h9) rfl dX4_fraction_61 ?_
      refine lv_eqi hO ?_
      refine kcXv C0 hex hP hD hS (c_X4_needFree l D cI a v r y o dp hst (ls_ix hq_10 hL hL1).1 (ls_ix hq_10 hL hL1).2 ho1 (hdo o hoL) hdp) (cwV 2 hts gX4_fraction_X4_needFree rfl rfl rfl (by decide +kernel) ⟨Nat.le_of_ble_eq_true rfl, Nat.le_of_ble_eq_true rfl⟩) 0 4 rfl rfl rfl hl.1 rfl (Nat.le_of_ble_eq_true rfl) dX4_fraction_64 ⟨Nat.le_of_ble_eq_true rfl, Nat.le_of_ble_eq_true rfl⟩ (Nat.le_of_ble_eq_true rfl) (Nat.le_of_ble_eq_true rfl) (fun E h9 => (Or.inr (Or.inr (Or.inl ⟨(pf_X4_fraction_3 a v r x y z N L o dp hN hN1 hL hL1 hO ho1 hdo hoL hdp hq_5 hq_10 c_15 c_30 hq_55 (by have h8 := h9.2; rw [← hO] at h8; exact h8)), h9.1⟩)))) (fun _ H locs hq hP hD hS => ?_)
      have hq_67 : (¬ nI y.toNatClampNeg = 0 ∧ r 10 y.toNatClampNeg = -1) ∧ ¬ wiF (r 10) (r 2) y 30 (v 2) = true := by rw [hO]; exact hq
      have hP : va_P D vwCl (wX cI a v r) H := hP
      have hD : va_D A (wX cI a v r) := hD
      refine lv_aload_n hx hb dX4_fraction_67 rfl (lv_at hl 0 rfl) ?_
      refine kcXv C0 hex hP hD hS (c_X4_needRoomForNode l D cI a v r   hst ) (cwV 0 hts gX4_fraction_X4_needRoomForNode rfl rfl rfl (by decide +kernel) ⟨Nat.le_of_ble_eq_true rfl, Nat.le_of_ble_eq_true rfl⟩) 0 4 rfl rfl rfl hl.1 rfl (Nat.le_of_ble_eq_true rfl) dX4_fraction_68 ⟨Nat.le_of_ble_eq_true rfl, Nat.le_of_ble_eq_true rfl⟩ (Nat.le_of_ble_eq_true rfl) (Nat.le_of_ble_eq_true rfl) (fun E h9 => (Or.inr (Or.inr (Or.inr ⟨(pf_X4_fraction_4 a v r x y z N L o dp hN hN1 hL hL1 hO ho1 hdo hoL hdp hq_5 hq_10 c_15 c_30 hq_55 hq_67 h9.2), h9.1⟩)))) (fun _ H locs hq hP hD hS => ?_)
      have hq_71 : v 0 < 120 := hq
      have hP : va_P D vwCl (wX cI a v r) H := hP
      have hD : va_D A (wX cI a v r) := hD
      refine lv_aload_n hx hb dX4_fraction_71 rfl (lv_at hl 0 rfl) ?_
      refine va_get (D := D) (ci := 4) (v := .ref (a 1)) (C := RX4) (T := TX4) (N := 2) hx hb hts hin_X4 hown hK hP 0 rfl rfl 0 (by decide) hf12 (fun _ h9 => h9) rfl dX4_fraction_72 ?_
      refine lv_iconst (v := 1) hx hb dX4_fraction_75 (by decide) ?_
      refine lv_bipush (v := 7) hx hb dX4_fraction_76 (by decide) ?_
      refine lv_iload_n hx hb dX4_fraction_78 rfl (lv_at hl 1 rfl) ?_
      refine lv_iload_n hx hb dX4_fraction_79 rfl (lv_at hl 2 rfl) ?_
      refine lv_lload_n hx hb dX4_fraction_80 rfl (lv_at hl 3 rfl) ?_
      refine lv_lconst (v := 0) hx hb dX4_fraction_81 (by decide) ?_
      refine W.lcmp hx hb dX4_fraction_82 ?_
      obtain ⟨x_1, ex_1⟩ : ∃ zz_ : Int32, zz_ = (if 0 ≤ (lg_cmp z 0) then z.toInt32 else (-1 : Int32)) := ⟨_, rfl⟩
      refine jW (D := D) hD hl 92 (wX cI a v r) [(0, .ref (a 0)), (1, .int x), (2, .int y), (3, .long z)] [.int x_1, .int y, .int x, .int 7, .int 1, .ref (a 1)] (fun hJ => ?_) (fun H locs ls hP hD hS hl => ?_)
      · skip
        refine lv_if_ge (tgt := 90) hx hb dX4_fraction_83 (by decide) (fun c_83 => ?_) (fun c_83 => ?_)
        · skip
          refine lv_lload_n hx hb dX4_fraction_90 rfl (lv_at hl 3 rfl) ?_
          refine lv_l2i hx hb dX4_fraction_91 rfl ?_
          have gx_1 : x_1 = z.toInt32 := by rw [ex_1]; simp only [if_pos c_83]
          simp only [gx_1] at hJ
          exact hJ _ _ _ hP hD hS (lv_sub hl [0, 1, 2, 3] rfl)
        · skip
          refine lv_iconst (v := (-1)) hx hb dX4_fraction_86 (by decide) ?_
          refine lv_goto (tgt := 92) hx hb dX4_fraction_87 (by decide) ?_
          have gx_1 : x_1 = (-1) := by rw [ex_1]; simp only [if_neg c_83]
          simp only [gx_1] at hJ
          exact hJ _ _ _ hP hD hS (lv_sub hl [0, 1, 2, 3] rfl)
      · skip
        refine lv_eqi ex_1 ?_
        refine kcD (ans := (v 0)) C0 hP hD hS (c_X0_addNode l D cI a v r 1 7 x y (if 0 ≤ (lg_cmp z 0) then z.toInt32 else (-1 : Int32)) N hN (nd_lt hq_71 hN hN1)) (cwV 5 hts gX4_fraction_X0_addNode rfl rfl rfl (by decide +kernel) ⟨Nat.le_of_ble_eq_true rfl, Nat.le_of_ble_eq_true rfl⟩) 1 0 rfl rfl rfl hl.1 rfl (Nat.le_of_ble_eq_true rfl) dX4_fraction_92 ⟨Nat.le_of_ble_eq_true rfl, Nat.le_of_ble_eq_true rfl⟩ (fun H locs hP hD hS => ?_)
        have hP : va_P D vwCl (wX cI a (vU v 0 ((v 0) + 1)) (clR r N (v 2) 1 7 x y (if 0 ≤ (lg_cmp z 0) then z.toInt32 else (-1 : Int32)))) H := hP
        have hD : va_D A (wX cI a (vU v 0 ((v 0) + 1)) (clR r N (v 2) 1 7 x y (if 0 ≤ (lg_cmp z 0) then z.toInt32 else (-1 : Int32)))) := hD
        refine lv_istore (lv' := [(5, .int (v 0)), (0, .ref (a 0)), (1, .int x), (2, .int y), (3, .long z)]) hx hb dX4_fraction_95 hl (by decide) rfl (fun ls hl => ?_)
        refine lv_aload_n hx hb dX4_fraction_97 rfl (lv_at hl 1 rfl) ?_
        refine va_get (D := D) (ci := 4) (v := .ref (a 1)) (C := RX4) (T := TX4) (N := 2) hx hb hts hin_X4 hown hK hP 0 rfl rfl 0 (by decide) hf12 (fun _ h9 => h9) rfl dX4_fraction_98 ?_
        refine va_get (D := D) (ci := 0) (v := .ref (a 10)) (C := RX0) (T := TX0) (N := 14) hx hb hts hin_X0 hown hK hP 1 rfl rfl 11 (by decide) hf82 (fun _ h9 => h9) rfl dX4_fraction_101 ?_
        refine lv_iload_n hx hb dX4_fraction_104 rfl (lv_at hl 2 rfl) ?_
        refine lv_iload hx hb dX4_fraction_105 (lv_at hl 0 rfl) ?_
        refine ra_st (f := (r 10)) C0 hP hD hS 10 rfl x.toNatClampNeg (ls_ix hq_5 hL hL1).1 (ls_ix hq_5 hL hL1).2 (by decide) dX4_fraction_107 (fun H locs hP hD hS => ?_)
        have hset : ∀ (R_ : Nat → Nat → Int32) (y0_ : Int32) (g_ : Nat → Int32), (wX cI a (vU v 0 y0_) R_).set 10 (a 10, .inl (cI, 30, .inl g_)) = (wX cI a (vU v 0 y0_) (rU R_ 10 g_)) := fun _ _ _ => rfl
        rw [hset] at hP hD
        refine lv_aload_n hx hb dX4_fraction_108 rfl (lv_at hl 1 rfl) ?_
        refine va_get (D := D) (ci := 4) (v := .ref (a 1)) (C := RX4) (T := TX4) (N := 2) hx hb hts hin_X4 hown hK hP 0 rfl rfl 0 (by decide) hf12 (fun _ h9 => h9) rfl dX4_fraction_109 ?_
        refine va_get (D := D) (ci := 0) (v := .ref (a 10)) (C := RX0) (T := TX0) (N := 14) hx hb hts hin_X0 hown hK hP 1 rfl rfl 11 (by decide) hf82 (fun _ h9 => h9) rfl dX4_fraction_112 ?_
        refine lv_iload_n hx hb dX4_fraction_115 rfl (lv_at hl 3 rfl) ?_
        refine lv_iload hx hb dX4_fraction_116 (lv_at hl 0 rfl) ?_
        refine ra_st (f := (upd (r 10) x.toNatClampNeg (v 0))) C0 hP hD hS 10 rfl y.toNatClampNeg (ls_ix hq_10 hL hL1).1 (ls_ix hq_10 hL hL1).2 (by decide) dX4_fraction_118 (fun H locs hP hD hS => ?_)
        have hset : ∀ (R_ : Nat → Nat → Int32) (y0_ : Int32) (f10_ : Nat → Int32) (g_ : Nat → Int32), (wX cI a (vU v 0 y0_) (rU R_ 10 f10_)).set 10 (a 10, .inl (cI, 30, .inl g_)) = (wX cI a (vU v 0 y0_) (rU R_ 10 g_)) := fun _ _ _ _ => rfl
        rw [hset] at hP hD
        refine lv_iload hx hb dX4_fraction_119 (lv_at hl 0 rfl) ?_
        exact kx_iret C0 ((vU v 0 ((v 0) + 1)), (rU (clR r N (v 2) 1 7 x y (if 0 ≤ (lg_cmp z 0) then z.toInt32 else (-1 : Int32))) 10 (upd (upd (r 10) x.toNatClampNeg (v 0)) y.toNatClampNeg (v 0)))) hP hD hS ⟨(pf_X4_fraction_5 a v r x y z N L o dp hN hN1 hL hL1 hO ho1 hdo hoL hdp hq_5 hq_10 c_15 c_30 hq_55 hq_67 hq_71 x_1 ex_1), rfl⟩ (Nat.le_of_ble_eq_true rfl) (Nat.le_of_ble_eq_true rfl) dX4_fraction_121
    · skip
      exact kx_throw (cls := "java/lang/IllegalStateException") (text := "a fraction of one list") C0 hex hst hP hD hS hl.1 (by decide) (by decide +kernel) (by decide +kernel) (by decide) (fun w h => List.mem_cons_of_mem _ (List.mem_append_left _ (List.mem_append_left _ (List.mem_append_right _ h)))) tno_74 tgd_74 dX4_fraction_33 dX4_fraction_36 dX4_fraction_37 dX4_fraction_39 dX4_fraction_42 (Nat.le_of_ble_eq_true rfl) (Nat.le_of_ble_eq_true rfl) (Nat.le_of_ble_eq_true rfl) (Nat.le_of_ble_eq_true rfl) (Nat.le_of_ble_eq_true rfl) (Nat.le_of_ble_eq_true rfl) (Or.inr (Or.inr (Or.inl ⟨(pf_X4_fraction_6 a v r x y z N L o dp hN hN1 hL hL1 hO ho1 hdo hoL hdp hq_5 hq_10 c_15 c_30), rfl⟩)))
  · skip
    exact kx_throw (cls := "java/lang/IllegalArgumentException") (text := "the rule is too high") C0 hex hst hP hD hS hl.1 (by decide) (by decide +kernel) (by decide +kernel) (by decide) (fun w h => List.mem_cons_of_mem _ (List.mem_append_left _ (List.mem_append_left _ (List.mem_append_left _ (List.mem_append_right _ h))))) tno_44 tgd_44 dX4_fraction_18 dX4_fraction_21 dX4_fraction_22 dX4_fraction_24 dX4_fraction_27 (Nat.le_of_ble_eq_true rfl) (Nat.le_of_ble_eq_true rfl) (Nat.le_of_ble_eq_true rfl) (Nat.le_of_ble_eq_true rfl) (Nat.le_of_ble_eq_true rfl) (Nat.le_of_ble_eq_true rfl) (Or.inr (Or.inl ⟨(pf_X4_fraction_7 a v r x y z N L o dp hN hN1 hL hL1 hO ho1 hdo hoL hdp hq_5 hq_10 c_15), rfl⟩))

set_option maxHeartbeats 1500000 in
theorem pf_X4_fence_0 (a : Nat → Nat) (v : Nat → Int32) (r : Nat → Nat → Int32) (x y z : Int32) (N L o : Nat) (dp : Nat → Nat) (hN : v 0 = nI N) (hN1 : N ≤ 120) (hL : v 1 = nI L) (hL1 : L ≤ 30) (hO : v 2 = nI o) (ho1 : o < 30) (hdo : ∀ j, j < L → dp j ≤ 29) (hoL : o < L) (hdp : ∀ j, j < 30 → r 10 j = -1 ∨ ∃ n i, r 10 j = nI n ∧ n < 120 ∧ r 2 n = nI i ∧ i < 30 ∧ dp i < dp j) (hz9 : ¬ (0 ≤ y ∧ y < v 1)) : cE v r x y z = 1 := by
  unfold cE; (repeat' split) <;> first | rfl | (exfalso; simp_all; done) | (exfalso; simp only [i_lt, i_le, i_eq, tI0, tI1, tI2, tI3, tI4, tI5, tI6, tI7, tI8, tI9, tI10, tI11, tI12, tI13, tI14, tI15, tI16, tI30, tI120, tI255, tI256, tI1000, tIm1] at *; omega)
set_option maxHeartbeats 1500000 in
theorem pf_X4_fence_1 (a : Nat → Nat) (v : Nat → Int32) (r : Nat → Nat → Int32) (x y z : Int32) (N L o : Nat) (dp : Nat → Nat) (hN : v 0 = nI N) (hN1 : N ≤ 120) (hL : v 1 = nI L) (hL1 : L ≤ 30) (hO : v 2 = nI o) (ho1 : o < 30) (hdo : ∀ j, j < L → dp j ≤ 29) (hoL : o < L) (hdp : ∀ j, j < 30 → r 10 j = -1 ∨ ∃ n i, r 10 j = nI n ∧ n < 120 ∧ r 2 n = nI i ∧ i < 30 ∧ dp i < dp j) (hq_5 : 0 ≤ y ∧ y < v 1) (c_6 : x < 0) : cE v r x y z = 2 := by
  unfold cE; (repeat' split) <;> first | rfl | (exfalso; simp_all; done) | (exfalso; simp only [i_lt, i_le, i_eq, tI0, tI1, tI2, tI3, tI4, tI5, tI6, tI7, tI8, tI9, tI10, tI11, tI12, tI13, tI14, tI15, tI16, tI30, tI120, tI255, tI256, tI1000, tIm1] at *; omega)
set_option maxHeartbeats 1500000 in
theorem pf_X4_fence_2 (a : Nat → Nat) (v : Nat → Int32) (r : Nat → Nat → Int32) (x y z : Int32) (N L o : Nat) (dp : Nat → Nat) (hN : v 0 = nI N) (hN1 : N ≤ 120) (hL : v 1 = nI L) (hL1 : L ≤ 30) (hO : v 2 = nI o) (ho1 : o < 30) (hdo : ∀ j, j < L → dp j ≤ 29) (hoL : o < L) (hdp : ∀ j, j < 30 → r 10 j = -1 ∨ ∃ n i, r 10 j = nI n ∧ n < 120 ∧ r 2 n = nI i ∧ i < 30 ∧ dp i < dp j) (hq_5 : 0 ≤ y ∧ y < v 1) (c_6 : ¬ (x < 0)) (c_11 : 5 < x) : cE v r x y z = 2 := by
  unfold cE; (repeat' split) <;> first | rfl | (exfalso; simp_all; done) | (exfalso; simp only [i_lt, i_le, i_eq, tI0, tI1, tI2, tI3, tI4, tI5, tI6, tI7, tI8, tI9, tI10, tI11, tI12, tI13, tI14, tI15, tI16, tI30, tI120, tI255, tI256, tI1000, tIm1] at *; omega)
set_option maxHeartbeats 1500000 in
theorem pf_X4_fence_3 (a : Nat → Nat) (v : Nat → Int32) (r : Nat → Nat → Int32) (x y z : Int32) (N L o : Nat) (dp : Nat → Nat) (hN : v 0 = nI N) (hN1 : N ≤ 120) (hL : v 1 = nI L) (hL1 : L ≤ 30) (hO : v 2 = nI o) (ho1 : o < 30) (hdo : ∀ j, j < L → dp j ≤ 29) (hoL : o < L) (hdp : ∀ j, j < 30 → r 10 j = -1 ∨ ∃ n i, r 10 j = nI n ∧ n < 120 ∧ r 2 n = nI i ∧ i < 30 ∧ dp i < dp j) (hq_5 : 0 ≤ y ∧ y < v 1) (c_6 : ¬ (x < 0)) (c_11 : ¬ (5 < x)) (c_15 : z < 0) : cE v r x y z = 2 := by
  unfold cE; (repeat' split) <;> first | rfl | (exfalso; simp_all; done) | (exfalso; simp only [i_lt, i_le, i_eq, tI0, tI1, tI2, tI3, tI4, tI5, tI6, tI7, tI8, tI9, tI10, tI11, tI12, tI13, tI14, tI15, tI16, tI30, tI120, tI255, tI256, tI1000, tIm1] at *; omega)
set_option maxHeartbeats 1500000 in
theorem pf_X4_fence_4 (a : Nat → Nat) (v : Nat → Int32) (r : Nat → Nat → Int32) (x y z : Int32) (N L o : Nat) (dp : Nat → Nat) (hN : v 0 = nI N) (hN1 : N ≤ 120) (hL : v 1 = nI L) (hL1 : L ≤ 30) (hO : v 2 = nI o) (ho1 : o < 30) (hdo : ∀ j, j < L → dp j ≤ 29) (hoL : o < L) (hdp : ∀ j, j < 30 → r 10 j = -1 ∨ ∃ n i, r 10 j = nI n ∧ n < 120 ∧ r 2 n = nI i ∧ i < 30 ∧ dp i < dp j) (hq_5 : 0 ≤ y ∧ y < v 1) (c_6 : ¬ (x < 0)) (c_11 : ¬ (5 < x)) (c_15 : ¬ (z < 0)) (c_20 : z ≤ 5) (hz9 : ¬ ((¬ nI y.toNatClampNeg = 0 ∧ r 10 y.toNatClampNeg = -1) ∧ ¬ wiF (r 10) (r 2) y 30 (v 2) = true)) : cE v r x y z = 3 := by
  unfold cE; (repeat' split) <;> first | rfl | (exfalso; simp_all; done) | (exfalso; simp only [i_lt, i_le, i_eq, tI0, tI1, tI2, tI3, tI4, tI5, tI6, tI7, tI8, tI9, tI10, tI11, tI12, tI13, tI14, tI15, tI16, tI30, tI120, tI255, tI256, tI1000, tIm1] at *; omega)
set_option maxHeartbeats 1500000 in
theorem pf_X4_fence_5 (a : Nat → Nat) (v : Nat → Int32) (r : Nat → Nat → Int32) (x y z : Int32) (N L o : Nat) (dp : Nat → Nat) (hN : v 0 = nI N) (hN1 : N ≤ 120) (hL : v 1 = nI L) (hL1 : L ≤ 30) (hO : v 2 = nI o) (ho1 : o < 30) (hdo : ∀ j, j < L → dp j ≤ 29) (hoL : o < L) (hdp : ∀ j, j < 30 → r 10 j = -1 ∨ ∃ n i, r 10 j = nI n ∧ n < 120 ∧ r 2 n = nI i ∧ i < 30 ∧ dp i < dp j) (hq_5 : 0 ≤ y ∧ y < v 1) (c_6 : ¬ (x < 0)) (c_11 : ¬ (5 < x)) (c_15 : ¬ (z < 0)) (c_20 : z ≤ 5) (hq_45 : (¬ nI y.toNatClampNeg = 0 ∧ r 10 y.toNatClampNeg = -1) ∧ ¬ wiF (r 10) (r 2) y 30 (v 2) = true) (hz9 : ¬ (v 0 < 120)) : cE v r x y z = 4 := by
  unfold cE; (repeat' split) <;> first | rfl | (exfalso; simp_all; done) | (exfalso; simp only [i_lt, i_le, i_eq, tI0, tI1, tI2, tI3, tI4, tI5, tI6, tI7, tI8, tI9, tI10, tI11, tI12, tI13, tI14, tI15, tI16, tI30, tI120, tI255, tI256, tI1000, tIm1] at *; omega)
set_option maxHeartbeats 1500000 in
theorem pf_X4_fence_6 (a : Nat → Nat) (v : Nat → Int32) (r : Nat → Nat → Int32) (x y z : Int32) (N L o : Nat) (dp : Nat → Nat) (hN : v 0 = nI N) (hN1 : N ≤ 120) (hL : v 1 = nI L) (hL1 : L ≤ 30) (hO : v 2 = nI o) (ho1 : o < 30) (hdo : ∀ j, j < L → dp j ≤ 29) (hoL : o < L) (hdp : ∀ j, j < 30 → r 10 j = -1 ∨ ∃ n i, r 10 j = nI n ∧ n < 120 ∧ r 2 n = nI i ∧ i < 30 ∧ dp i < dp j) (hq_5 : 0 ≤ y ∧ y < v 1) (c_6 : ¬ (x < 0)) (c_11 : ¬ (5 < x)) (c_15 : ¬ (z < 0)) (c_20 : z ≤ 5) (hq_45 : (¬ nI y.toNatClampNeg = 0 ∧ r 10 y.toNatClampNeg = -1) ∧ ¬ wiF (r 10) (r 2) y 30 (v 2) = true) (hq_49 : v 0 < 120) (c_54 : ¬ ((bI ((x = z ∧ ¬ x = 0) ∨ (¬ x = z ∧ (x = 0 ∨ z = 0)))) = 0)) : cE v r x y z = 0 := by
  unfold cE; (repeat' split) <;> first | rfl | (exfalso; simp_all; done) | (exfalso; simp only [i_lt, i_le, i_eq, tI0, tI1, tI2, tI3, tI4, tI5, tI6, tI7, tI8, tI9, tI10, tI11, tI12, tI13, tI14, tI15, tI16, tI30, tI120, tI255, tI256, tI1000, tIm1] at *; omega)
set_option maxHeartbeats 1500000 in
theorem pf_X4_fence_7 (a : Nat → Nat) (v : Nat → Int32) (r : Nat → Nat → Int32) (x y z : Int32) (N L o : Nat) (dp : Nat → Nat) (hN : v 0 = nI N) (hN1 : N ≤ 120) (hL : v 1 = nI L) (hL1 : L ≤ 30) (hO : v 2 = nI o) (ho1 : o < 30) (hdo : ∀ j, j < L → dp j ≤ 29) (hoL : o < L) (hdp : ∀ j, j < 30 → r 10 j = -1 ∨ ∃ n i, r 10 j = nI n ∧ n < 120 ∧ r 2 n = nI i ∧ i < 30 ∧ dp i < dp j) (hq_5 : 0 ≤ y ∧ y < v 1) (c_6 : ¬ (x < 0)) (c_11 : ¬ (5 < x)) (c_15 : ¬ (z < 0)) (c_20 : z ≤ 5) (hq_45 : (¬ nI y.toNatClampNeg = 0 ∧ r 10 y.toNatClampNeg = -1) ∧ ¬ wiF (r 10) (r 2) y 30 (v 2) = true) (hq_49 : v 0 < 120) (c_54 : (bI ((x = z ∧ ¬ x = 0) ∨ (¬ x = z ∧ (x = 0 ∨ z = 0)))) = 0) : cE v r x y z = 0 := by
  unfold cE; (repeat' split) <;> first | rfl | (exfalso; simp_all; done) | (exfalso; simp only [i_lt, i_le, i_eq, tI0, tI1, tI2, tI3, tI4, tI5, tI6, tI7, tI8, tI9, tI10, tI11, tI12, tI13, tI14, tI15, tI16, tI30, tI120, tI255, tI256, tI1000, tIm1] at *; omega)
set_option maxHeartbeats 1500000 in
theorem pf_X4_fence_8 (a : Nat → Nat) (v : Nat → Int32) (r : Nat → Nat → Int32) (x y z : Int32) (N L o : Nat) (dp : Nat → Nat) (hN : v 0 = nI N) (hN1 : N ≤ 120) (hL : v 1 = nI L) (hL1 : L ≤ 30) (hO : v 2 = nI o) (ho1 : o < 30) (hdo : ∀ j, j < L → dp j ≤ 29) (hoL : o < L) (hdp : ∀ j, j < 30 → r 10 j = -1 ∨ ∃ n i, r 10 j = nI n ∧ n < 120 ∧ r 2 n = nI i ∧ i < 30 ∧ dp i < dp j) (hq_5 : 0 ≤ y ∧ y < v 1) (c_6 : ¬ (x < 0)) (c_11 : ¬ (5 < x)) (c_15 : ¬ (z < 0)) (c_20 : ¬ (z ≤ 5)) : cE v r x y z = 2 := by
  unfold cE; (repeat' split) <;> first | rfl | (exfalso; simp_all; done) | (exfalso; simp only [i_lt, i_le, i_eq, tI0, tI1, tI2, tI3, tI4, tI5, tI6, tI7, tI8, tI9, tI10, tI11, tI12, tI13, tI14, tI15, tI16, tI30, tI120, tI255, tI256, tI1000, tIm1] at *; omega)
set_option maxHeartbeats 1500000 in
set_option maxRecDepth 100000 in
theorem c_X4_fence (l : Launch) (D : va_G) (cI : ClassId) (a : Nat → Nat) (v : Nat → Int32) (r : Nat → Nat → Int32) (x y z : Int32) (N L o : Nat) (dp : Nat → Nat) (hst : l.stackTraces = false) (hN : v 0 = nI N) (hN1 : N ≤ 120) (hL : v 1 = nI L) (hL1 : L ≤ 30) (hO : v 2 = nI o) (ho1 : o < 30) (hdo : ∀ j, j < L → dp j ≤ 29) (hoL : o < L) (hdp : ∀ j, j < 30 → r 10 j = -1 ∨ ∃ n i, r 10 j = nI n ∧ n < 120 ∧ r 2 n = nI i ∧ i < 30 ∧ dp i < dp j) : KX l D cI yX4_fence wsX4_fence ({ frames := 7, cells := 4, slots := 24, locals := 104 }) [.ref (a 0), .int x, .int y, .int z] (wX cI a v r) 4 24 (fun u : (Nat → Int32) × Rw => wX cI a u.1 u.2) (fun q u => cE v r x y z = 0 ∧ (q, u.1, u.2) = (if (x = z ∧ ¬ x = 0) ∨ (¬ x = z ∧ (x = 0 ∨ z = 0)) then (v 0 + 1, vU v 0 (v 0 + 1), rU (clR r N (v 2) 2 7 x y z) 10 (upd (r 10) y.toNatClampNeg (v 0))) else (0, v, r))) (fun E => (cE v r x y z = 1 ∧ E = "java/util/NoSuchElementException") ∨ (cE v r x y z = 2 ∧ E = "java/lang/IllegalArgumentException") ∨ (cE v r x y z = 3 ∧ E = "java/lang/IllegalStateException") ∨ (cE v r x y z = 4 ∧ E = "java/lang/UnsupportedOperationException")) := by
  refine KX.of (cc := cX4_fence) (nL := 5) (ret := (some .int)) (by decide) rfl (Nat.le_of_ble_eq_true rfl) ?_
  intro pg9 en9 s m args below meth cd9 A ls C0 hex hP hD hS hl
  have hx := C0.1.1
  have hb := C0.1.2.1
  have hml := C0.1.2.2.1
  have hown : s.vm.findClass RX4 = some m.cls := C0.1.2.2.2.1
  have hts : ∀ w ∈ wsX4_fence, w.before args s = true := C0.1.2.2.2.2
  have hK := C0.2.2.2.1
  have hin_X4 : ∀ w ∈ wsX40, w ∈ wsX4_fence := fun w h => List.mem_cons_of_mem _ (List.mem_append_left _ (List.mem_append_left _ (List.mem_append_left _ (List.mem_append_left _ (List.mem_append_left _ (List.mem_append_right _ h))))))
  have hf12 : (Cond.fieldLink RX4 12 "FormulaLists" "book" "LFormulaLists$Book;").before args s = true := hts _ (by decide +kernel)
  have hin_X0 : ∀ w ∈ wsX00, w ∈ wsX4_fence := fun w h => List.mem_cons_of_mem _ (List.mem_append_left _ (List.mem_append_left _ (List.mem_append_left _ (List.mem_append_left _ (List.mem_append_right _ h)))))
  have hf32 : (Cond.fieldLink RX4 32 "FormulaLists$Book" "open" "I").before args s = true := hts _ (by decide +kernel)
  have hf82 : (Cond.fieldLink RX4 82 "FormulaLists$Book" "holder" "[I").before args s = true := hts _ (by decide +kernel)
  have hl : lv_has ls 5 [(0, .ref (a 0)), (1, .int x), (2, .int y), (3, .int z)] := hl
  have hP : va_P D vwCl (wX cI a v r) s.heap := hP
  refine lv_aload_n hx hb dX4_fence_0 rfl (lv_at hl 0 rfl) ?_
  refine lv_iload_n hx hb dX4_fence_1 rfl (lv_at hl 2 rfl) ?_
  refine kcXv C0 hex hP hD hS (c_X4_needList l D cI a v r y  hst ) (cwV 1 hts gX4_fence_X4_needList rfl rfl rfl (by decide +kernel) ⟨Nat.le_of_ble_eq_true rfl, Nat.le_of_ble_eq_true rfl⟩) 0 4 rfl rfl rfl hl.1 rfl (Nat.le_of_ble_eq_true rfl) dX4_fence_2 ⟨Nat.le_of_ble_eq_true rfl, Nat.le_of_ble_eq_true rfl⟩ (Nat.le_of_ble_eq_true rfl) (Nat.le_of_ble_eq_true rfl) (fun E h9 => (Or.inl ⟨(pf_X4_fence_0 a v r x y z N L o dp hN hN1 hL hL1 hO ho1 hdo hoL hdp h9.2), h9.1⟩)) (fun _ H locs hq hP hD hS => ?_)
  have hq_5 : 0 ≤ y ∧ y < v 1 := hq
  have hP : va_P D vwCl (wX cI a v r) H := hP
  have hD : va_D A (wX cI a v r) := hD
  refine lv_iload_n hx hb dX4_fence_5 rfl (lv_at hl 1 rfl) ?_
  refine lv_if_lt (tgt := 23) hx hb dX4_fence_6 (by decide) (fun c_6 => ?_) (fun c_6 => ?_)
  · skip
    exact kx_throw (cls := "java/lang/IllegalArgumentException") (text := "no such delimiter") C0 hex hst hP hD hS hl.1 (by decide) (by decide +kernel) (by decide +kernel) (by decide) (fun w h => List.mem_cons_of_mem _ (List.mem_append_left _ (List.mem_append_left _ (List.mem_append_left _ (List.mem_append_right _ h))))) tno_44 tgd_44 dX4_fence_23 dX4_fence_26 dX4_fence_27 dX4_fence_29 dX4_fence_32 (Nat.le_of_ble_eq_true rfl) (Nat.le_of_ble_eq_true rfl) (Nat.le_of_ble_eq_true rfl) (Nat.le_of_ble_eq_true rfl) (Nat.le_of_ble_eq_true rfl) (Nat.le_of_ble_eq_true rfl) (Or.inr (Or.inl ⟨(pf_X4_fence_1 a v r x y z N L o dp hN hN1 hL hL1 hO ho1 hdo hoL hdp hq_5 c_6), rfl⟩))
  · skip
    refine lv_iload_n hx hb dX4_fence_9 rfl (lv_at hl 1 rfl) ?_
    refine lv_iconst (v := 5) hx hb dX4_fence_10 (by decide) ?_
    refine lv_icmp_gt (tgt := 23) hx hb dX4_fence_11 (by decide) (fun c_11 => ?_) (fun c_11 => ?_)
    · skip
      exact kx_throw (cls := "java/lang/IllegalArgumentException") (text := "no such delimiter") C0 hex hst hP hD hS hl.1 (by decide) (by decide +kernel) (by decide +kernel) (by decide) (fun w h => List.mem_cons_of_mem _ (List.mem_append_left _ (List.mem_append_left _ (List.mem_append_left _ (List.mem_append_right _ h))))) tno_44 tgd_44 dX4_fence_23 dX4_fence_26 dX4_fence_27 dX4_fence_29 dX4_fence_32 (Nat.le_of_ble_eq_true rfl) (Nat.le_of_ble_eq_true rfl) (Nat.le_of_ble_eq_true rfl) (Nat.le_of_ble_eq_true rfl) (Nat.le_of_ble_eq_true rfl) (Nat.le_of_ble_eq_true rfl) (Or.inr (Or.inl ⟨(pf_X4_fence_2 a v r x y z N L o dp hN hN1 hL hL1 hO ho1 hdo hoL hdp hq_5 c_6 c_11), rfl⟩))
    · skip
      refine lv_iload_n hx hb dX4_fence_14 rfl (lv_at hl 3 rfl) ?_
      refine lv_if_lt (tgt := 23) hx hb dX4_fence_15 (by decide) (fun c_15 => ?_) (fun c_15 => ?_)
      · skip
        exact kx_throw (cls := "java/lang/IllegalArgumentException") (text := "no such delimiter") C0 hex hst hP hD hS hl.1 (by decide) (by decide +kernel) (by decide +kernel) (by decide) (fun w h => List.mem_cons_of_mem _ (List.mem_append_left _ (List.mem_append_left _ (List.mem_append_left _ (List.mem_append_right _ h))))) tno_44 tgd_44 dX4_fence_23 dX4_fence_26 dX4_fence_27 dX4_fence_29 dX4_fence_32 (Nat.le_of_ble_eq_true rfl) (Nat.le_of_ble_eq_true rfl) (Nat.le_of_ble_eq_true rfl) (Nat.le_of_ble_eq_true rfl) (Nat.le_of_ble_eq_true rfl) (Nat.le_of_ble_eq_true rfl) (Or.inr (Or.inl ⟨(pf_X4_fence_3 a v r x y z N L o dp hN hN1 hL hL1 hO ho1 hdo hoL hdp hq_5 c_6 c_11 c_15), rfl⟩))
      · skip
        refine lv_iload_n hx hb dX4_fence_18 rfl (lv_at hl 3 rfl) ?_
        refine lv_iconst (v := 5) hx hb dX4_fence_19 (by decide) ?_
        refine lv_icmp_le (tgt := 33) hx hb dX4_fence_20 (by decide) (fun c_20 => ?_) (fun c_20 => ?_)
        · skip
          refine lv_aload_n hx hb dX4_fence_33 rfl (lv_at hl 0 rfl) ?_
          refine lv_iload_n hx hb dX4_fence_34 rfl (lv_at hl 2 rfl) ?_
          refine lv_aload_n hx hb dX4_fence_35 rfl (lv_at hl 0 rfl) ?_
          refine va_get (D := D) (ci := 4) (v := .ref (a 1)) (C := RX4) (T := TX4) (N := 2) hx hb hts hin_X4 hown hK hP 0 rfl rfl 0 (by decide) hf12 (fun _ h9 => h9) rfl dX4_fence_36 ?_
          refine va_get (D := D) (ci := 0) (v := .int (v 2)) (C := RX0) (T := TX0) (N := 14) hx hb hts hin_X0 hown hK hP 1 rfl rfl 2 (by decide) hf32 (fun _ h9 => h9) rfl dX4_fence_39 ?_
          refine lv_eqi hO ?_
          refine kcXv C0 hex hP hD hS (c_X4_needFree l D cI a v r y o dp hst (ls_ix hq_5 hL hL1).1 (ls_ix hq_5 hL hL1).2 ho1 (hdo o hoL) hdp) (cwV 2 hts gX4_fence_X4_needFree rfl rfl rfl (by decide +kernel) ⟨Nat.le_of_ble_eq_true rfl, Nat.le_of_ble_eq_true rfl⟩) 0 4 rfl rfl rfl hl.1 rfl (Nat.le_of_ble_eq_true rfl) dX4_fence_42 ⟨Nat.le_of_ble_eq_true rfl, Nat.le_of_ble_eq_true rfl⟩ (Nat.le_of_ble_eq_true rfl) (Nat.le_of_ble_eq_true rfl) (fun E h9 => (Or.inr (Or.inr (Or.inl ⟨(pf_X4_fence_4 a v r x y z N L o dp hN hN1 hL hL1 hO ho1 hdo hoL hdp hq_5 c_6 c_11 c_15 c_20 (by have h8 := h9.2; rw [← hO] at h8; exact h8)), h9.1⟩)))) (fun _ H locs hq hP hD hS => ?_)
          have hq_45 : (¬ nI y.toNatClampNeg = 0 ∧ r 10 y.toNatClampNeg = -1) ∧ ¬ wiF (r 10) (r 2) y 30 (v 2) = true := by rw [hO]; exact hq
          have hP : va_P D vwCl (wX cI a v r) H := hP
          have hD : va_D A (wX cI a v r) := hD
          refine lv_aload_n hx hb dX4_fence_45 rfl (lv_at hl 0 rfl) ?_
          refine kcXv C0 hex hP hD hS (c_X4_needRoomForNode l D cI a v r   hst ) (cwV 0 hts gX4_fence_X4_needRoomForNode rfl rfl rfl (by decide +kernel) ⟨Nat.le_of_ble_eq_true rfl, Nat.le_of_ble_eq_true rfl⟩) 0 4 rfl rfl rfl hl.1 rfl (Nat.le_of_ble_eq_true rfl) dX4_fence_46 ⟨Nat.le_of_ble_eq_true rfl, Nat.le_of_ble_eq_true rfl⟩ (Nat.le_of_ble_eq_true rfl) (Nat.le_of_ble_eq_true rfl) (fun E h9 => (Or.inr (Or.inr (Or.inr ⟨(pf_X4_fence_5 a v r x y z N L o dp hN hN1 hL hL1 hO ho1 hdo hoL hdp hq_5 c_6 c_11 c_15 c_20 hq_45 h9.2), h9.1⟩)))) (fun _ H locs hq hP hD hS => ?_)
          have hq_49 : v 0 < 120 := hq
          have hP : va_P D vwCl (wX cI a v r) H := hP
          have hD : va_D A (wX cI a v r) := hD
          refine lv_iload_n hx hb dX4_fence_49 rfl (lv_at hl 1 rfl) ?_
          refine lv_iload_n hx hb dX4_fence_50 rfl (lv_at hl 3 rfl) ?_
          refine kcS (ans := (bI ((x = z ∧ ¬ x = 0) ∨ (¬ x = z ∧ (x = 0 ∨ z = 0))))) C0 hP hS (c_X4_isBalanced l D cI x z ) (va_cwS 2 hts gX4_fence_X4_isBalanced rfl rfl rfl (by decide +kernel) ⟨Nat.le_of_ble_eq_true rfl, Nat.le_of_ble_eq_true rfl⟩) rfl hl.1 rfl (Nat.le_of_ble_eq_true rfl) dX4_fence_51 ⟨Nat.le_of_ble_eq_true rfl, Nat.le_of_ble_eq_true rfl⟩ (fun H locs hP hS => ?_)
          refine lv_if_ne (tgt := 59) hx hb dX4_fence_54 (by decide) (fun c_54 => ?_) (fun c_54 => ?_)
          · skip
            refine lv_aload_n hx hb dX4_fence_59 rfl (lv_at hl 0 rfl) ?_
            refine va_get (D := D) (ci := 4) (v := .ref (a 1)) (C := RX4) (T := TX4) (N := 2) hx hb hts hin_X4 hown hK hP 0 rfl rfl 0 (by decide) hf12 (fun _ h9 => h9) rfl dX4_fence_60 ?_
            refine lv_iconst (v := 2) hx hb dX4_fence_63 (by decide) ?_
            refine lv_bipush (v := 7) hx hb dX4_fence_64 (by decide) ?_
            refine lv_iload_n hx hb dX4_fence_66 rfl (lv_at hl 1 rfl) ?_
            refine lv_iload_n hx hb dX4_fence_67 rfl (lv_at hl 2 rfl) ?_
            refine lv_iload_n hx hb dX4_fence_68 rfl (lv_at hl 3 rfl) ?_
            refine kcD (ans := (v 0)) C0 hP hD hS (c_X0_addNode l D cI a v r 2 7 x y z N hN (nd_lt hq_49 hN hN1)) (cwV 5 hts gX4_fence_X0_addNode rfl rfl rfl (by decide +kernel) ⟨Nat.le_of_ble_eq_true rfl, Nat.le_of_ble_eq_true rfl⟩) 1 0 rfl rfl rfl hl.1 rfl (Nat.le_of_ble_eq_true rfl) dX4_fence_69 ⟨Nat.le_of_ble_eq_true rfl, Nat.le_of_ble_eq_true rfl⟩ (fun H locs hP hD hS => ?_)
            have hP : va_P D vwCl (wX cI a (vU v 0 ((v 0) + 1)) (clR r N (v 2) 2 7 x y z)) H := hP
            have hD : va_D A (wX cI a (vU v 0 ((v 0) + 1)) (clR r N (v 2) 2 7 x y z)) := hD
            refine lv_istore (lv' := [(4, .int (v 0)), (0, .ref (a 0)), (1, .int x), (2, .int y), (3, .int z)]) hx hb dX4_fence_72 hl (by decide) rfl (fun ls hl => ?_)
            refine lv_aload_n hx hb dX4_fence_74 rfl (lv_at hl 1 rfl) ?_
            refine va_get (D := D) (ci := 4) (v := .ref (a 1)) (C := RX4) (T := TX4) (N := 2) hx hb hts hin_X4 hown hK hP 0 rfl rfl 0 (by decide) hf12 (fun _ h9 => h9) rfl dX4_fence_75 ?_
            refine va_get (D := D) (ci := 0) (v := .ref (a 10)) (C := RX0) (T := TX0) (N := 14) hx hb hts hin_X0 hown hK hP 1 rfl rfl 11 (by decide) hf82 (fun _ h9 => h9) rfl dX4_fence_78 ?_
            refine lv_iload_n hx hb dX4_fence_81 rfl (lv_at hl 3 rfl) ?_
            refine lv_iload hx hb dX4_fence_82 (lv_at hl 0 rfl) ?_
            refine ra_st (f := (r 10)) C0 hP hD hS 10 rfl y.toNatClampNeg (ls_ix hq_5 hL hL1).1 (ls_ix hq_5 hL hL1).2 (by decide) dX4_fence_84 (fun H locs hP hD hS => ?_)
            have hset : ∀ (R_ : Nat → Nat → Int32) (y0_ : Int32) (g_ : Nat → Int32), (wX cI a (vU v 0 y0_) R_).set 10 (a 10, .inl (cI, 30, .inl g_)) = (wX cI a (vU v 0 y0_) (rU R_ 10 g_)) := fun _ _ _ => rfl
            rw [hset] at hP hD
            refine lv_iload hx hb dX4_fence_85 (lv_at hl 0 rfl) ?_
            refine lv_iconst (v := 1) hx hb dX4_fence_87 (by decide) ?_
            refine lv_iadd hx hb dX4_fence_88 ?_
            exact kx_iret C0 ((vU v 0 ((v 0) + 1)), (rU (clR r N (v 2) 2 7 x y z) 10 (upd (r 10) y.toNatClampNeg (v 0)))) hP hD hS ⟨(pf_X4_fence_6 a v r x y z N L o dp hN hN1 hL hL1 hO ho1 hdo hoL hdp hq_5 c_6 c_11 c_15 c_20 hq_45 hq_49 c_54), (by rw [if_pos (bI_nz.mp c_54)])⟩ (Nat.le_of_ble_eq_true rfl) (Nat.le_of_ble_eq_true rfl) dX4_fence_89
          · skip
            refine lv_iconst (v := 0) hx hb dX4_fence_57 (by decide) ?_
            exact kx_iret C0 (v, r) hP hD hS ⟨(pf_X4_fence_7 a v r x y z N L o dp hN hN1 hL hL1 hO ho1 hdo hoL hdp hq_5 c_6 c_11 c_15 c_20 hq_45 hq_49 c_54), (by rw [if_neg (bI_z.mp c_54)])⟩ (Nat.le_of_ble_eq_true rfl) (Nat.le_of_ble_eq_true rfl) dX4_fence_58
        · skip
          exact kx_throw (cls := "java/lang/IllegalArgumentException") (text := "no such delimiter") C0 hex hst hP hD hS hl.1 (by decide) (by decide +kernel) (by decide +kernel) (by decide) (fun w h => List.mem_cons_of_mem _ (List.mem_append_left _ (List.mem_append_left _ (List.mem_append_left _ (List.mem_append_right _ h))))) tno_44 tgd_44 dX4_fence_23 dX4_fence_26 dX4_fence_27 dX4_fence_29 dX4_fence_32 (Nat.le_of_ble_eq_true rfl) (Nat.le_of_ble_eq_true rfl) (Nat.le_of_ble_eq_true rfl) (Nat.le_of_ble_eq_true rfl) (Nat.le_of_ble_eq_true rfl) (Nat.le_of_ble_eq_true rfl) (Or.inr (Or.inl ⟨(pf_X4_fence_8 a v r x y z N L o dp hN hN1 hL hL1 hO ho1 hdo hoL hdp hq_5 c_6 c_11 c_15 c_20), rfl⟩))

set_option maxHeartbeats 1500000 in
theorem pf_X4_split_0 (a : Nat → Nat) (v : Nat → Int32) (r : Nat → Nat → Int32) (x y : Int32) (N L : Nat) (hN : v 0 = nI N) (hN1 : N ≤ 120) (hL : v 1 = nI L) (hL1 : L ≤ 30) (hz9 : ¬ (0 ≤ x ∧ x < v 1)) : cL v r N x y = 1 := by
  unfold cL; (repeat' split) <;> first | rfl | (exfalso; simp_all; done)
set_option maxHeartbeats 1500000 in
theorem pf_X4_split_1 (a : Nat → Nat) (v : Nat → Int32) (r : Nat → Nat → Int32) (x y : Int32) (N L : Nat) (hN : v 0 = nI N) (hN1 : N ≤ 120) (hL : v 1 = nI L) (hL1 : L ≤ 30) (hq_5 : 0 ≤ x ∧ x < v 1) (c_17 : ¬ ((rlS r x y N).2 = (-1))) (hz9 : ¬ (v 1 < 30)) : cL v r N x y = 3 := by
  unfold cL; (repeat' split) <;> first | rfl | (exfalso; simp_all; done)
set_option maxHeartbeats 1500000 in
theorem pf_X4_split_2 (a : Nat → Nat) (v : Nat → Int32) (r : Nat → Nat → Int32) (x y : Int32) (N L : Nat) (hN : v 0 = nI N) (hN1 : N ≤ 120) (hL : v 1 = nI L) (hL1 : L ≤ 30) (hq_5 : 0 ≤ x ∧ x < v 1) (c_17 : ¬ ((rlS r x y N).2 = (-1))) (hq_34 : v 1 < 30) (x_1 : Int32) (ex_1 : x_1 = (if (v 2) = x then (v 1) else (v 2))) : cL v r N x y = 0 := by
  unfold cL; (repeat' split) <;> first | rfl | (exfalso; simp_all; done)
set_option maxHeartbeats 1500000 in
theorem pf_X4_split_3 (a : Nat → Nat) (v : Nat → Int32) (r : Nat → Nat → Int32) (x y : Int32) (N L : Nat) (hN : v 0 = nI N) (hN1 : N ≤ 120) (hL : v 1 = nI L) (hL1 : L ≤ 30) (hq_5 : 0 ≤ x ∧ x < v 1) (c_17 : (rlS r x y N).2 = (-1)) : cL v r N x y = 2 := by
  unfold cL; (repeat' split) <;> first | rfl | (exfalso; simp_all; done)
set_option maxHeartbeats 1500000 in
set_option maxRecDepth 100000 in
theorem c_X4_split (l : Launch) (D : va_G) (cI : ClassId) (a : Nat → Nat) (v : Nat → Int32) (r : Nat → Nat → Int32) (x y : Int32) (N L : Nat) (hst : l.stackTraces = false) (hN : v 0 = nI N) (hN1 : N ≤ 120) (hL : v 1 = nI L) (hL1 : L ≤ 30) : KX l D cI yX4_split wsX4_split ({ frames := 7, cells := 3, slots := 18, locals := 103 }) [.ref (a 0), .int x, .int y] (wX cI a v r) 3 18 (fun u : (Nat → Int32) × Rw => wX cI a u.1 u.2) (fun q u => cL v r N x y = 0 ∧ (q, u.1, u.2) = (v 1, vU (vU v 1 (v 1 + 1)) 2 (if v 2 = x then v 1 else v 2), rU (rU r 2 (mvF (r 2) x (v 1) (rlS r x y N).2.toNatClampNeg N)) 10 (upd (r 10) L (-1)))) (fun E => (cL v r N x y = 1 ∧ E = "java/util/NoSuchElementException") ∨ (cL v r N x y = 2 ∧ E = "java/lang/IndexOutOfBoundsException") ∨ (cL v r N x y = 3 ∧ E = "java/lang/UnsupportedOperationException")) := by
  refine KX.of (cc := cX4_split) (nL := 5) (ret := (some .int)) (by decide) rfl (Nat.le_of_ble_eq_true rfl) ?_
  intro pg9 en9 s m args below meth cd9 A ls C0 hex hP hD hS hl
  have hx := C0.1.1
  have hb := C0.1.2.1
  have hml := C0.1.2.2.1
  have hown : s.vm.findClass RX4 = some m.cls := C0.1.2.2.2.1
  have hts : ∀ w ∈ wsX4_split, w.before args s = true := C0.1.2.2.2.2
  have hK := C0.2.2.2.1
  have hin_X4 : ∀ w ∈ wsX40, w ∈ wsX4_split := fun w h => List.mem_cons_of_mem _ (List.mem_append_left _ (List.mem_append_left _ (List.mem_append_left _ (List.mem_append_left _ (List.mem_append_right _ h)))))
  have hf12 : (Cond.fieldLink RX4 12 "FormulaLists" "book" "LFormulaLists$Book;").before args s = true := hts _ (by decide +kernel)
  have hin_X0 : ∀ w ∈ wsX00, w ∈ wsX4_split := fun w h => List.mem_cons_of_mem _ (List.mem_append_left _ (List.mem_append_left _ (List.mem_append_left _ (List.mem_append_right _ h))))
  have hf32 : (Cond.fieldLink RX4 32 "FormulaLists$Book" "open" "I").before args s = true := hts _ (by decide +kernel)
  have hl : lv_has ls 5 [(0, .ref (a 0)), (1, .int x), (2, .int y)] := hl
  have hP : va_P D vwCl (wX cI a v r) s.heap := hP
  refine lv_aload_n hx hb dX4_split_0 rfl (lv_at hl 0 rfl) ?_
  refine lv_iload_n hx hb dX4_split_1 rfl (lv_at hl 1 rfl) ?_
  refine kcXv C0 hex hP hD hS (c_X4_needList l D cI a v r x  hst ) (cwV 1 hts gX4_split_X4_needList rfl rfl rfl (by decide +kernel) ⟨Nat.le_of_ble_eq_true rfl, Nat.le_of_ble_eq_true rfl⟩) 0 4 rfl rfl rfl hl.1 rfl (Nat.le_of_ble_eq_true rfl) dX4_split_2 ⟨Nat.le_of_ble_eq_true rfl, Nat.le_of_ble_eq_true rfl⟩ (Nat.le_of_ble_eq_true rfl) (Nat.le_of_ble_eq_true rfl) (fun E h9 => (Or.inl ⟨(pf_X4_split_0 a v r x y N L hN hN1 hL hL1 h9.2), h9.1⟩)) (fun _ H locs hq hP hD hS => ?_)
  have hq_5 : 0 ≤ x ∧ x < v 1 := hq
  have hP : va_P D vwCl (wX cI a v r) H := hP
  have hD : va_D A (wX cI a v r) := hD
  refine lv_aload_n hx hb dX4_split_5 rfl (lv_at hl 0 rfl) ?_
  refine va_get (D := D) (ci := 4) (v := .ref (a 1)) (C := RX4) (T := TX4) (N := 2) hx hb hts hin_X4 hown hK hP 0 rfl rfl 0 (by decide) hf12 (fun _ h9 => h9) rfl dX4_split_6 ?_
  refine lv_iload_n hx hb dX4_split_9 rfl (lv_at hl 1 rfl) ?_
  refine lv_iload_n hx hb dX4_split_10 rfl (lv_at hl 2 rfl) ?_
  refine kcD (ans := (rlS r x y N).2) C0 hP hD hS (c_X0_relationOf l D cI a v r x y N hN hN1) (cwV 2 hts gX4_split_X0_relationOf rfl rfl rfl (by decide +kernel) ⟨Nat.le_of_ble_eq_true rfl, Nat.le_of_ble_eq_true rfl⟩) 1 0 rfl rfl rfl hl.1 rfl (Nat.le_of_ble_eq_true rfl) dX4_split_11 ⟨Nat.le_of_ble_eq_true rfl, Nat.le_of_ble_eq_true rfl⟩ (fun H locs hP hD hS => ?_)
  refine lv_istore_n (lv' := [(3, .int ((rlS r x y N).2)), (0, .ref (a 0)), (1, .int x), (2, .int y)]) hx hb dX4_split_14 rfl hl (by decide) rfl (fun ls hl => ?_)
  refine lv_iload_n hx hb dX4_split_15 rfl (lv_at hl 0 rfl) ?_
  refine lv_iconst (v := (-1)) hx hb dX4_split_16 (by decide) ?_
  refine lv_icmp_ne (tgt := 30) hx hb dX4_split_17 (by decide) (fun c_17 => ?_) (fun c_17 => ?_)
  · skip
    obtain ⟨jr, hjr, ejr⟩ := (rl_rg (r := r) (x := x) (i := y) N).resolve_left c_17
    have ejc : (rlS r x y N).2 = nI (rlS r x y N).2.toNatClampNeg := by rw [ejr, nI_clamp (by omega)]
    have ejl : (rlS r x y N).2.toNatClampNeg ≤ N := by rw [ejr, nI_clamp (by omega)]; omega
    refine lv_aload_n hx hb dX4_split_30 rfl (lv_at hl 1 rfl) ?_
    refine kcXv C0 hex hP hD hS (c_X4_needRoomForList l D cI a v r   hst ) (cwV 0 hts gX4_split_X4_needRoomForList rfl rfl rfl (by decide +kernel) ⟨Nat.le_of_ble_eq_true rfl, Nat.le_of_ble_eq_true rfl⟩) 0 4 rfl rfl rfl hl.1 rfl (Nat.le_of_ble_eq_true rfl) dX4_split_31 ⟨Nat.le_of_ble_eq_true rfl, Nat.le_of_ble_eq_true rfl⟩ (Nat.le_of_ble_eq_true rfl) (Nat.le_of_ble_eq_true rfl) (fun E h9 => (Or.inr (Or.inr ⟨(pf_X4_split_1 a v r x y N L hN hN1 hL hL1 hq_5 c_17 h9.2), h9.1⟩))) (fun _ H locs hq hP hD hS => ?_)
    have hq_34 : v 1 < 30 := hq
    have hP : va_P D vwCl (wX cI a v r) H := hP
    have hD : va_D A (wX cI a v r) := hD
    refine lv_aload_n hx hb dX4_split_34 rfl (lv_at hl 1 rfl) ?_
    refine va_get (D := D) (ci := 4) (v := .ref (a 1)) (C := RX4) (T := TX4) (N := 2) hx hb hts hin_X4 hown hK hP 0 rfl rfl 0 (by decide) hf12 (fun _ h9 => h9) rfl dX4_split_35 ?_
    refine kcD (ans := (v 1)) C0 hP hD hS (c_X0_beginList l D cI a v r L hL (ls_lt hq_34 hL hL1)) (cwV 0 hts gX4_split_X0_beginList rfl rfl rfl (by decide +kernel) ⟨Nat.le_of_ble_eq_true rfl, Nat.le_of_ble_eq_true rfl⟩) 1 0 rfl rfl rfl hl.1 rfl (Nat.le_of_ble_eq_true rfl) dX4_split_38 ⟨Nat.le_of_ble_eq_true rfl, Nat.le_of_ble_eq_true rfl⟩ (fun H locs hP hD hS => ?_)
    have hP : va_P D vwCl (wX cI a (vU v 1 ((v 1) + 1)) (rU r 10 (upd (r 10) L (-1)))) H := hP
    have hD : va_D A (wX cI a (vU v 1 ((v 1) + 1)) (rU r 10 (upd (r 10) L (-1)))) := hD
    refine lv_istore (lv' := [(4, .int (v 1)), (3, .int ((rlS r x y N).2)), (0, .ref (a 0)), (1, .int x), (2, .int y)]) hx hb dX4_split_41 hl (by decide) rfl (fun ls hl => ?_)
    refine lv_aload_n hx hb dX4_split_43 rfl (lv_at hl 2 rfl) ?_
    refine va_get (D := D) (ci := 4) (v := .ref (a 1)) (C := RX4) (T := TX4) (N := 2) hx hb hts hin_X4 hown hK hP 0 rfl rfl 0 (by decide) hf12 (fun _ h9 => h9) rfl dX4_split_44 ?_
    refine lv_iload_n hx hb dX4_split_47 rfl (lv_at hl 1 rfl) ?_
    refine lv_eqi ejc ?_
    refine lv_iload_n hx hb dX4_split_48 rfl (lv_at hl 3 rfl) ?_
    refine lv_iload hx hb dX4_split_49 (lv_at hl 0 rfl) ?_
    refine kcDv C0 hP hD hS (c_X0_moveFrom l D cI a (vU v 1 ((v 1) + 1)) (rU r 10 (upd (r 10) L (-1))) ((rlS r x y N).2.toNatClampNeg) N x (v 1) hN hN1 (by omega)) (cwV 3 hts gX4_split_X0_moveFrom rfl rfl rfl (by decide +kernel) ⟨Nat.le_of_ble_eq_true rfl, Nat.le_of_ble_eq_true rfl⟩) 1 0 rfl rfl rfl hl.1 rfl (Nat.le_of_ble_eq_true rfl) dX4_split_51 ⟨Nat.le_of_ble_eq_true rfl, Nat.le_of_ble_eq_true rfl⟩ (fun H locs hP hD hS => ?_)
    have hP : va_P D vwCl (wX cI a (vU v 1 ((v 1) + 1)) (rU (rU r 2 (mvF (r 2) x (v 1) ((rlS r x y N).2.toNatClampNeg) N)) 10 (upd (r 10) L (-1)))) H := hP
    have hD : va_D A (wX cI a (vU v 1 ((v 1) + 1)) (rU (rU r 2 (mvF (r 2) x (v 1) ((rlS r x y N).2.toNatClampNeg) N)) 10 (upd (r 10) L (-1)))) := hD
    refine lv_aload_n hx hb dX4_split_54 rfl (lv_at hl 2 rfl) ?_
    refine va_get (D := D) (ci := 4) (v := .ref (a 1)) (C := RX4) (T := TX4) (N := 2) hx hb hts hin_X4 hown hK hP 0 rfl rfl 0 (by decide) hf12 (fun _ h9 => h9) rfl dX4_split_55 ?_
    refine va_get (D := D) (ci := 0) (v := .int (v 2)) (C := RX0) (T := TX0) (N := 14) hx hb hts hin_X0 hown hK hP 1 rfl rfl 2 (by decide) hf32 (fun _ h9 => h9) rfl dX4_split_58 ?_
    refine lv_iload_n hx hb dX4_split_61 rfl (lv_at hl 3 rfl) ?_
    obtain ⟨x_1, ex_1⟩ : ∃ zz_ : Int32, zz_ = (if (v 2) = x then (v 1) else (v 2)) := ⟨_, rfl⟩
    refine jW (D := D) hD hl 74 (wX cI a (vU (vU v 1 ((v 1) + 1)) 2 x_1) (rU (rU r 2 (mvF (r 2) x (v 1) ((rlS r x y N).2.toNatClampNeg) N)) 10 (upd (r 10) L (-1)))) [(4, .int (v 1)), (3, .int ((rlS r x y N).2)), (0, .ref (a 0)), (1, .int x), (2, .int y)] [] (fun hJ => ?_) (fun H locs ls hP hD hS hl => ?_)
    · skip
      refine lv_icmp_ne (tgt := 74) hx hb dX4_split_62 (by decide) (fun c_62 => ?_) (fun c_62 => ?_)
      · skip
        have gx_1 : x_1 = (v 2) := by rw [ex_1]; simp only [if_neg c_62]
        simp only [gx_1] at hJ
        exact hJ _ _ _ hP hD hS (lv_sub hl [0, 1, 2, 3, 4] rfl)
      · skip
        refine lv_aload_n hx hb dX4_split_65 rfl (lv_at hl 2 rfl) ?_
        refine va_get (D := D) (ci := 4) (v := .ref (a 1)) (C := RX4) (T := TX4) (N := 2) hx hb hts hin_X4 hown hK hP 0 rfl rfl 0 (by decide) hf12 (fun _ h9 => h9) rfl dX4_split_66 ?_
        refine lv_iload hx hb dX4_split_69 (lv_at hl 0 rfl) ?_
        refine va_put (D := D) (ci := 0) (v := .int (v 1)) (ty := .int) (C := RX0) (T := TX0) (N := 14) hx hb hts hin_X0 tyX0 tyX0_ok nmX0 hown hK hP hD hS 1 rfl rfl 2 (by decide) hf32 (fun _ h9 => h9) rfl (by decide +kernel) rfl rfl (Nat.le_of_ble_eq_true rfl) dX4_split_71 (fun H locs hP hD hS => ?_)
        have hP : va_P D vwCl (wX cI a (vU (vU v 1 ((v 1) + 1)) 2 (v 1)) (rU (rU r 2 (mvF (r 2) x (v 1) ((rlS r x y N).2.toNatClampNeg) N)) 10 (upd (r 10) L (-1)))) H := hP
        have hD : va_D A (wX cI a (vU (vU v 1 ((v 1) + 1)) 2 (v 1)) (rU (rU r 2 (mvF (r 2) x (v 1) ((rlS r x y N).2.toNatClampNeg) N)) 10 (upd (r 10) L (-1)))) := hD
        have gx_1 : x_1 = (v 1) := by rw [ex_1]; simp only [if_pos c_62]
        simp only [gx_1] at hJ
        exact hJ _ _ _ hP hD hS (lv_sub hl [0, 1, 2, 3, 4] rfl)
    · skip
      refine lv_iload hx hb dX4_split_74 (lv_at hl 0 rfl) ?_
      exact kx_iret C0 ((vU (vU v 1 ((v 1) + 1)) 2 x_1), (rU (rU r 2 (mvF (r 2) x (v 1) ((rlS r x y N).2.toNatClampNeg) N)) 10 (upd (r 10) L (-1)))) hP hD hS ⟨(pf_X4_split_2 a v r x y N L hN hN1 hL hL1 hq_5 c_17 hq_34 x_1 ex_1), (by rw [ex_1])⟩ (Nat.le_of_ble_eq_true rfl) (Nat.le_of_ble_eq_true rfl) dX4_split_76
  · skip
    exact kx_throw (cls := "java/lang/IndexOutOfBoundsException") (text := "no such relation") C0 hex hst hP hD hS hl.1 (by decide) (by decide +kernel) (by decide +kernel) (by decide) (fun w h => List.mem_cons_of_mem _ (List.mem_append_left _ (List.mem_append_left _ (List.mem_append_right _ h)))) tno_143 tgd_143 dX4_split_20 dX4_split_23 dX4_split_24 dX4_split_26 dX4_split_29 (Nat.le_of_ble_eq_true rfl) (Nat.le_of_ble_eq_true rfl) (Nat.le_of_ble_eq_true rfl) (Nat.le_of_ble_eq_true rfl) (Nat.le_of_ble_eq_true rfl) (Nat.le_of_ble_eq_true rfl) (Or.inr (Or.inl ⟨(pf_X4_split_3 a v r x y N L hN hN1 hL hL1 hq_5 c_17), rfl⟩))
