set_option maxHeartbeats 1500000 in
theorem pf_X5_greater_0 (x : Int32) (y : Int32)  (x_1 : Int32) (ex_1 : x_1 = (if x ≤ y then y else x)) : x_1 = mx x y := by
  subst_vars <;> simp only [mx] <;> (repeat' split) <;> first | (with_reducible rfl) | (simp_all; done) | (simp only [i_lt, i_le, i_eq, tI0, tI1, tI2, tI3, tI4, tI5, tI6, tI7, tI8, tI9, tI10, tI11, tI12, tI13, tI14, tI15, tI16, tI30, tI120, tI255, tI256, tI1000, tIm1] at * <;> omega)
set_option maxHeartbeats 1500000 in
set_option maxRecDepth 100000 in
theorem c_X5_greater (l : Launch) (D : va_G) (cI : ClassId) (x : Int32) (y : Int32) : KD l D cI yX5_greater wsX5_greater ({ frames := 0, cells := 0, slots := 0, locals := 0 }) [.int x, .int y] [] [] (mx x y) := by
  refine KI.of (cc := cX5_greater) (nL := 2) (ret := (some .int)) (by decide) rfl (Nat.le_of_ble_eq_true rfl) ?_
  intro pg9 en9 s m args below meth cd9 A ls C0 hP hD hS hl
  have hx := C0.1.1
  have hb := C0.1.2.1
  have hml := C0.1.2.2.1
  have hown : s.vm.findClass RX5 = some m.cls := C0.1.2.2.2.1
  have hts : ∀ w ∈ wsX5_greater, w.before args s = true := C0.1.2.2.2.2
  have hK := C0.2.2.2.1
  have hl : lv_has ls 2 [(0, .int x), (1, .int y)] := hl
  have hP : va_P D vwCl [] s.heap := hP
  refine lv_iload_n hx hb dX5_greater_0 rfl (lv_at hl 0 rfl) ?_
  refine lv_iload_n hx hb dX5_greater_1 rfl (lv_at hl 1 rfl) ?_
  obtain ⟨x_1, ex_1⟩ : ∃ zz_ : Int32, zz_ = (if x ≤ y then y else x) := ⟨_, rfl⟩
  refine jW (D := D) hD hl 10 [] [(0, .int x), (1, .int y)] [.int x_1] (fun hJ => ?_) (fun H locs ls hP hD hS hl => ?_)
  · skip
    refine lv_icmp_le (tgt := 9) hx hb dX5_greater_2 (by decide) (fun c_2 => ?_) (fun c_2 => ?_)
    · skip
      refine lv_iload_n hx hb dX5_greater_9 rfl (lv_at hl 1 rfl) ?_
      have gx_1 : x_1 = y := by rw [ex_1]; simp only [if_pos c_2]
      simp only [gx_1] at hJ
      exact hJ _ _ _ hP hD hS (lv_sub hl [0, 1] rfl)
    · skip
      refine lv_iload_n hx hb dX5_greater_5 rfl (lv_at hl 0 rfl) ?_
      refine lv_goto (tgt := 10) hx hb dX5_greater_6 (by decide) ?_
      have gx_1 : x_1 = x := by rw [ex_1]; simp only [if_neg c_2]
      simp only [gx_1] at hJ
      exact hJ _ _ _ hP hD hS (lv_sub hl [0, 1] rfl)
  · skip
    exact k_iret C0 () hP hD hS (pf_X5_greater_0 x y x_1 ex_1) dX5_greater_10

set_option maxHeartbeats 1500000 in
set_option maxRecDepth 100000 in
theorem c_X5_half (l : Launch) (D : va_G) (cI : ClassId) (x : Int32) : KD l D cI yX5_half wsX5_half ({ frames := 0, cells := 0, slots := 0, locals := 0 }) [.int x] [] [] (x / 2) := by
  refine KI.of (cc := cX5_half) (nL := 1) (ret := (some .int)) (by decide) rfl (Nat.le_of_ble_eq_true rfl) ?_
  intro pg9 en9 s m args below meth cd9 A ls C0 hP hD hS hl
  have hx := C0.1.1
  have hb := C0.1.2.1
  have hml := C0.1.2.2.1
  have hown : s.vm.findClass RX5 = some m.cls := C0.1.2.2.2.1
  have hts : ∀ w ∈ wsX5_half, w.before args s = true := C0.1.2.2.2.2
  have hK := C0.2.2.2.1
  have hl : lv_has ls 1 [(0, .int x)] := hl
  have hP : va_P D vwCl [] s.heap := hP
  refine lv_iload_n hx hb dX5_half_0 rfl (lv_at hl 0 rfl) ?_
  refine lv_iconst (v := 2) hx hb dX5_half_1 (by decide) ?_
  refine lv_idiv hx hb dX5_half_2 (by decide) ?_
  exact k_iret C0 () hP hD hS rfl dX5_half_3

set_option maxHeartbeats 1500000 in
theorem pf_X5_unit_0 (x : Int32)  (x_1 : Int32) (ex_1 : x_1 = (if 2 ≤ x then (if x = 2 then (7 : Int32) else (5 : Int32)) else (10 : Int32))) : x_1 = uni x := by
  subst_vars <;> simp only [uni] <;> (repeat' split) <;> first | (with_reducible rfl) | (simp_all; done) | (simp only [i_lt, i_le, i_eq, tI0, tI1, tI2, tI3, tI4, tI5, tI6, tI7, tI8, tI9, tI10, tI11, tI12, tI13, tI14, tI15, tI16, tI30, tI120, tI255, tI256, tI1000, tIm1] at * <;> omega)
set_option maxHeartbeats 1500000 in
set_option maxRecDepth 100000 in
theorem c_X5_unit (l : Launch) (D : va_G) (cI : ClassId) (x : Int32) : KD l D cI yX5_unit wsX5_unit ({ frames := 0, cells := 0, slots := 0, locals := 0 }) [.int x] [] [] (uni x) := by
  refine KI.of (cc := cX5_unit) (nL := 1) (ret := (some .int)) (by decide) rfl (Nat.le_of_ble_eq_true rfl) ?_
  intro pg9 en9 s m args below meth cd9 A ls C0 hP hD hS hl
  have hx := C0.1.1
  have hb := C0.1.2.1
  have hml := C0.1.2.2.1
  have hown : s.vm.findClass RX5 = some m.cls := C0.1.2.2.2.1
  have hts : ∀ w ∈ wsX5_unit, w.before args s = true := C0.1.2.2.2.2
  have hK := C0.2.2.2.1
  have hl : lv_has ls 1 [(0, .int x)] := hl
  have hP : va_P D vwCl [] s.heap := hP
  refine lv_iload_n hx hb dX5_unit_0 rfl (lv_at hl 0 rfl) ?_
  refine lv_iconst (v := 2) hx hb dX5_unit_1 (by decide) ?_
  obtain ⟨x_1, ex_1⟩ : ∃ zz_ : Int32, zz_ = (if 2 ≤ x then (if x = 2 then (7 : Int32) else (5 : Int32)) else (10 : Int32)) := ⟨_, rfl⟩
  refine jW (D := D) hD hl 21 [] [(0, .int x)] [.int x_1] (fun hJ => ?_) (fun H locs ls hP hD hS hl => ?_)
  · skip
    refine lv_icmp_ge (tgt := 10) hx hb dX5_unit_2 (by decide) (fun c_2 => ?_) (fun c_2 => ?_)
    · skip
      refine lv_iload_n hx hb dX5_unit_10 rfl (lv_at hl 0 rfl) ?_
      refine lv_iconst (v := 2) hx hb dX5_unit_11 (by decide) ?_
      refine lv_icmp_ne (tgt := 20) hx hb dX5_unit_12 (by decide) (fun c_12 => ?_) (fun c_12 => ?_)
      · skip
        refine lv_iconst (v := 5) hx hb dX5_unit_20 (by decide) ?_
        have gx_1 : x_1 = 5 := by rw [ex_1]; simp only [if_pos c_2, if_neg c_12]
        simp only [gx_1] at hJ
        exact hJ _ _ _ hP hD hS (lv_sub hl [0] rfl)
      · skip
        refine lv_bipush (v := 7) hx hb dX5_unit_15 (by decide) ?_
        refine lv_goto (tgt := 21) hx hb dX5_unit_17 (by decide) ?_
        have gx_1 : x_1 = 7 := by rw [ex_1]; simp only [if_pos c_2, if_pos c_12]
        simp only [gx_1] at hJ
        exact hJ _ _ _ hP hD hS (lv_sub hl [0] rfl)
    · skip
      refine lv_bipush (v := 10) hx hb dX5_unit_5 (by decide) ?_
      refine lv_goto (tgt := 21) hx hb dX5_unit_7 (by decide) ?_
      have gx_1 : x_1 = 10 := by rw [ex_1]; simp only [if_neg c_2]
      simp only [gx_1] at hJ
      exact hJ _ _ _ hP hD hS (lv_sub hl [0] rfl)
  · skip
    exact k_iret C0 () hP hD hS (pf_X5_unit_0 x x_1 ex_1) dX5_unit_21

set_option maxHeartbeats 1500000 in
theorem pf_X5_letterOf_0 (x : Int32) (y : Int32)  (x_1 : Int32) (ex_1 : x_1 = (if x = 0 then (1 : Int32) else (if x = 5 then (1 : Int32) else (if x = 7 then (1 : Int32) else (0 : Int32))))) (c_23 : ¬ (x = 4)) (c_31 : ¬ (x = 6)) (c_47 : ¬ (y = 1)) (c_77 : ¬ (y = 7)) (c_102 : ¬ (x = 2)) (c_122 : ¬ (x = 3)) (c_142 : ¬ (y = 3)) (c_149 : ¬ (y = 2)) (c_165 : ¬ (x = 1)) (x_2 : Int32) (ex_2 : x_2 = (if x = 7 then (if y = 5 then (0 : Int32) else (2 : Int32)) else (0 : Int32))) : x_2 = ltr x y := by
  subst_vars <;> simp only [ltr] <;> (repeat' split) <;> first | (with_reducible rfl) | (simp_all; done) | (simp only [i_lt, i_le, i_eq, tI0, tI1, tI2, tI3, tI4, tI5, tI6, tI7, tI8, tI9, tI10, tI11, tI12, tI13, tI14, tI15, tI16, tI30, tI120, tI255, tI256, tI1000, tIm1] at * <;> omega)
set_option maxHeartbeats 1500000 in
theorem pf_X5_letterOf_1 (x : Int32) (y : Int32)  (x_1 : Int32) (ex_1 : x_1 = (if x = 0 then (1 : Int32) else (if x = 5 then (1 : Int32) else (if x = 7 then (1 : Int32) else (0 : Int32))))) (c_23 : ¬ (x = 4)) (c_31 : ¬ (x = 6)) (c_47 : ¬ (y = 1)) (c_77 : ¬ (y = 7)) (c_102 : ¬ (x = 2)) (c_122 : ¬ (x = 3)) (c_142 : ¬ (y = 3)) (c_149 : ¬ (y = 2)) (c_165 : x = 1) (x_3 : Int32) (ex_3 : x_3 = (if y = 0 then (1 : Int32) else (0 : Int32))) : x_3 = ltr x y := by
  subst_vars <;> simp only [ltr] <;> (repeat' split) <;> first | (with_reducible rfl) | (simp_all; done) | (simp only [i_lt, i_le, i_eq, tI0, tI1, tI2, tI3, tI4, tI5, tI6, tI7, tI8, tI9, tI10, tI11, tI12, tI13, tI14, tI15, tI16, tI30, tI120, tI255, tI256, tI1000, tIm1] at * <;> omega)
set_option maxHeartbeats 1500000 in
theorem pf_X5_letterOf_2 (x : Int32) (y : Int32)  (x_1 : Int32) (ex_1 : x_1 = (if x = 0 then (1 : Int32) else (if x = 5 then (1 : Int32) else (if x = 7 then (1 : Int32) else (0 : Int32))))) (c_23 : ¬ (x = 4)) (c_31 : ¬ (x = 6)) (c_47 : ¬ (y = 1)) (c_77 : ¬ (y = 7)) (c_102 : ¬ (x = 2)) (c_122 : ¬ (x = 3)) (c_142 : ¬ (y = 3)) (c_149 : y = 2) (x_4 : Int32) (ex_4 : x_4 = (if x = 1 then (0 : Int32) else (3 : Int32))) : x_4 = ltr x y := by
  subst_vars <;> simp only [ltr] <;> (repeat' split) <;> first | (with_reducible rfl) | (simp_all; done) | (simp only [i_lt, i_le, i_eq, tI0, tI1, tI2, tI3, tI4, tI5, tI6, tI7, tI8, tI9, tI10, tI11, tI12, tI13, tI14, tI15, tI16, tI30, tI120, tI255, tI256, tI1000, tIm1] at * <;> omega)
set_option maxHeartbeats 1500000 in
theorem pf_X5_letterOf_3 (x : Int32) (y : Int32)  (x_1 : Int32) (ex_1 : x_1 = (if x = 0 then (1 : Int32) else (if x = 5 then (1 : Int32) else (if x = 7 then (1 : Int32) else (0 : Int32))))) (c_23 : ¬ (x = 4)) (c_31 : ¬ (x = 6)) (c_47 : ¬ (y = 1)) (c_77 : ¬ (y = 7)) (c_102 : ¬ (x = 2)) (c_122 : ¬ (x = 3)) (c_142 : y = 3) : 4 = ltr x y := by
  subst_vars <;> simp only [ltr] <;> (repeat' split) <;> first | (with_reducible rfl) | (simp_all; done) | (simp only [i_lt, i_le, i_eq, tI0, tI1, tI2, tI3, tI4, tI5, tI6, tI7, tI8, tI9, tI10, tI11, tI12, tI13, tI14, tI15, tI16, tI30, tI120, tI255, tI256, tI1000, tIm1] at * <;> omega)
set_option maxHeartbeats 1500000 in
theorem pf_X5_letterOf_4 (x : Int32) (y : Int32)  (x_1 : Int32) (ex_1 : x_1 = (if x = 0 then (1 : Int32) else (if x = 5 then (1 : Int32) else (if x = 7 then (1 : Int32) else (0 : Int32))))) (c_23 : ¬ (x = 4)) (c_31 : ¬ (x = 6)) (c_47 : ¬ (y = 1)) (c_77 : ¬ (y = 7)) (c_102 : ¬ (x = 2)) (c_122 : x = 3) (x_5 : Int32) (ex_5 : x_5 = (if y = 0 then (4 : Int32) else (if y = 4 then (4 : Int32) else (0 : Int32)))) : x_5 = ltr x y := by
  subst_vars <;> simp only [ltr] <;> (repeat' split) <;> first | (with_reducible rfl) | (simp_all; done) | (simp only [i_lt, i_le, i_eq, tI0, tI1, tI2, tI3, tI4, tI5, tI6, tI7, tI8, tI9, tI10, tI11, tI12, tI13, tI14, tI15, tI16, tI30, tI120, tI255, tI256, tI1000, tIm1] at * <;> omega)
set_option maxHeartbeats 1500000 in
theorem pf_X5_letterOf_5 (x : Int32) (y : Int32)  (x_1 : Int32) (ex_1 : x_1 = (if x = 0 then (1 : Int32) else (if x = 5 then (1 : Int32) else (if x = 7 then (1 : Int32) else (0 : Int32))))) (c_23 : ¬ (x = 4)) (c_31 : ¬ (x = 6)) (c_47 : ¬ (y = 1)) (c_77 : ¬ (y = 7)) (c_102 : x = 2) (x_6 : Int32) (ex_6 : x_6 = (if y = 0 then (3 : Int32) else (if y = 4 then (3 : Int32) else (0 : Int32)))) : x_6 = ltr x y := by
  subst_vars <;> simp only [ltr] <;> (repeat' split) <;> first | (with_reducible rfl) | (simp_all; done) | (simp only [i_lt, i_le, i_eq, tI0, tI1, tI2, tI3, tI4, tI5, tI6, tI7, tI8, tI9, tI10, tI11, tI12, tI13, tI14, tI15, tI16, tI30, tI120, tI255, tI256, tI1000, tIm1] at * <;> omega)
set_option maxHeartbeats 1500000 in
theorem pf_X5_letterOf_6 (x : Int32) (y : Int32)  (x_1 : Int32) (ex_1 : x_1 = (if x = 0 then (1 : Int32) else (if x = 5 then (1 : Int32) else (if x = 7 then (1 : Int32) else (0 : Int32))))) (c_23 : ¬ (x = 4)) (c_31 : ¬ (x = 6)) (c_47 : ¬ (y = 1)) (c_77 : y = 7) (x_7 : Int32) (ex_7 : x_7 = (if x = 2 then (3 : Int32) else (if x = 3 then (4 : Int32) else (2 : Int32)))) : x_7 = ltr x y := by
  subst_vars <;> simp only [ltr] <;> (repeat' split) <;> first | (with_reducible rfl) | (simp_all; done) | (simp only [i_lt, i_le, i_eq, tI0, tI1, tI2, tI3, tI4, tI5, tI6, tI7, tI8, tI9, tI10, tI11, tI12, tI13, tI14, tI15, tI16, tI30, tI120, tI255, tI256, tI1000, tIm1] at * <;> omega)
set_option maxHeartbeats 1500000 in
theorem pf_X5_letterOf_7 (x : Int32) (y : Int32)  (x_1 : Int32) (ex_1 : x_1 = (if x = 0 then (1 : Int32) else (if x = 5 then (1 : Int32) else (if x = 7 then (1 : Int32) else (0 : Int32))))) (c_23 : ¬ (x = 4)) (c_31 : ¬ (x = 6)) (c_47 : y = 1) (x_8 : Int32) (ex_8 : x_8 = (if x_1 = 0 then (if x = 1 then (1 : Int32) else (if x = 2 then (3 : Int32) else (4 : Int32))) else (1 : Int32))) : x_8 = ltr x y := by
  subst_vars <;> simp only [ltr] <;> (repeat' split) <;> first | (with_reducible rfl) | (simp_all; done) | (simp only [i_lt, i_le, i_eq, tI0, tI1, tI2, tI3, tI4, tI5, tI6, tI7, tI8, tI9, tI10, tI11, tI12, tI13, tI14, tI15, tI16, tI30, tI120, tI255, tI256, tI1000, tIm1] at * <;> omega)
set_option maxHeartbeats 1500000 in
theorem pf_X5_letterOf_8 (x : Int32) (y : Int32)  (x_1 : Int32) (ex_1 : x_1 = (if x = 0 then (1 : Int32) else (if x = 5 then (1 : Int32) else (if x = 7 then (1 : Int32) else (0 : Int32))))) (c_23 : ¬ (x = 4)) (c_31 : x = 6) (x_9 : Int32) (ex_9 : x_9 = (if y = 2 then (0 : Int32) else (2 : Int32))) : x_9 = ltr x y := by
  subst_vars <;> simp only [ltr] <;> (repeat' split) <;> first | (with_reducible rfl) | (simp_all; done) | (simp only [i_lt, i_le, i_eq, tI0, tI1, tI2, tI3, tI4, tI5, tI6, tI7, tI8, tI9, tI10, tI11, tI12, tI13, tI14, tI15, tI16, tI30, tI120, tI255, tI256, tI1000, tIm1] at * <;> omega)
set_option maxHeartbeats 1500000 in
theorem pf_X5_letterOf_9 (x : Int32) (y : Int32)  (x_1 : Int32) (ex_1 : x_1 = (if x = 0 then (1 : Int32) else (if x = 5 then (1 : Int32) else (if x = 7 then (1 : Int32) else (0 : Int32))))) (c_23 : x = 4) : 0 = ltr x y := by
  subst_vars <;> simp only [ltr] <;> (repeat' split) <;> first | (with_reducible rfl) | (simp_all; done) | (simp only [i_lt, i_le, i_eq, tI0, tI1, tI2, tI3, tI4, tI5, tI6, tI7, tI8, tI9, tI10, tI11, tI12, tI13, tI14, tI15, tI16, tI30, tI120, tI255, tI256, tI1000, tIm1] at * <;> omega)
set_option maxHeartbeats 1500000 in
set_option maxRecDepth 100000 in
theorem c_X5_letterOf (l : Launch) (D : va_G) (cI : ClassId) (x : Int32) (y : Int32) : KD l D cI yX5_letterOf wsX5_letterOf ({ frames := 0, cells := 0, slots := 0, locals := 0 }) [.int x, .int y] [] [] (ltr x y) := by
  refine KI.of (cc := cX5_letterOf) (nL := 3) (ret := (some .int)) (by decide) rfl (Nat.le_of_ble_eq_true rfl) ?_
  intro pg9 en9 s m args below meth cd9 A ls C0 hP hD hS hl
  have hx := C0.1.1
  have hb := C0.1.2.1
  have hml := C0.1.2.2.1
  have hown : s.vm.findClass RX5 = some m.cls := C0.1.2.2.2.1
  have hts : ∀ w ∈ wsX5_letterOf, w.before args s = true := C0.1.2.2.2.2
  have hK := C0.2.2.2.1
  have hl : lv_has ls 3 [(0, .int x), (1, .int y)] := hl
  have hP : va_P D vwCl [] s.heap := hP
  refine lv_iload_n hx hb dX5_letterOf_0 rfl (lv_at hl 0 rfl) ?_
  obtain ⟨x_1, ex_1⟩ : ∃ zz_ : Int32, zz_ = (if x = 0 then (1 : Int32) else (if x = 5 then (1 : Int32) else (if x = 7 then (1 : Int32) else (0 : Int32)))) := ⟨_, rfl⟩
  refine jW (D := D) hD hl 20 [] [(0, .int x), (1, .int y)] [.int x_1] (fun hJ => ?_) (fun H locs ls hP hD hS hl => ?_)
  · skip
    refine lv_if_eq (tgt := 15) hx hb dX5_letterOf_1 (by decide) (fun c_1 => ?_) (fun c_1 => ?_)
    · skip
      refine lv_iconst (v := 1) hx hb dX5_letterOf_15 (by decide) ?_
      refine lv_goto (tgt := 20) hx hb dX5_letterOf_16 (by decide) ?_
      have gx_1 : x_1 = 1 := by rw [ex_1]; simp only [if_pos c_1]
      simp only [gx_1] at hJ
      exact hJ _ _ _ hP hD hS (lv_sub hl [0, 1] rfl)
    · skip
      refine lv_iload_n hx hb dX5_letterOf_4 rfl (lv_at hl 0 rfl) ?_
      refine lv_iconst (v := 5) hx hb dX5_letterOf_5 (by decide) ?_
      refine lv_icmp_eq (tgt := 15) hx hb dX5_letterOf_6 (by decide) (fun c_6 => ?_) (fun c_6 => ?_)
      · skip
        refine lv_iconst (v := 1) hx hb dX5_letterOf_15 (by decide) ?_
        refine lv_goto (tgt := 20) hx hb dX5_letterOf_16 (by decide) ?_
        have gx_1 : x_1 = 1 := by rw [ex_1]; simp only [if_neg c_1, if_pos c_6]
        simp only [gx_1] at hJ
        exact hJ _ _ _ hP hD hS (lv_sub hl [0, 1] rfl)
      · skip
        refine lv_iload_n hx hb dX5_letterOf_9 rfl (lv_at hl 0 rfl) ?_
        refine lv_bipush (v := 7) hx hb dX5_letterOf_10 (by decide) ?_
        refine lv_icmp_ne (tgt := 19) hx hb dX5_letterOf_12 (by decide) (fun c_12 => ?_) (fun c_12 => ?_)
        · skip
          refine lv_iconst (v := 0) hx hb dX5_letterOf_19 (by decide) ?_
          have gx_1 : x_1 = 0 := by rw [ex_1]; simp only [if_neg c_1, if_neg c_6, if_neg c_12]
          simp only [gx_1] at hJ
          exact hJ _ _ _ hP hD hS (lv_sub hl [0, 1] rfl)
        · skip
          refine lv_iconst (v := 1) hx hb dX5_letterOf_15 (by decide) ?_
          refine lv_goto (tgt := 20) hx hb dX5_letterOf_16 (by decide) ?_
          have gx_1 : x_1 = 1 := by rw [ex_1]; simp only [if_neg c_1, if_neg c_6, if_pos c_12]
          simp only [gx_1] at hJ
          exact hJ _ _ _ hP hD hS (lv_sub hl [0, 1] rfl)
  · skip
    refine lv_istore_n (lv' := [(2, .int x_1), (0, .int x), (1, .int y)]) hx hb dX5_letterOf_20 rfl hl (by decide) rfl (fun ls hl => ?_)
    refine lv_iload_n hx hb dX5_letterOf_21 rfl (lv_at hl 1 rfl) ?_
    refine lv_iconst (v := 4) hx hb dX5_letterOf_22 (by decide) ?_
    refine lv_icmp_ne (tgt := 28) hx hb dX5_letterOf_23 (by decide) (fun c_23 => ?_) (fun c_23 => ?_)
    · skip
      refine lv_iload_n hx hb dX5_letterOf_28 rfl (lv_at hl 1 rfl) ?_
      refine lv_bipush (v := 6) hx hb dX5_letterOf_29 (by decide) ?_
      refine lv_icmp_ne (tgt := 45) hx hb dX5_letterOf_31 (by decide) (fun c_31 => ?_) (fun c_31 => ?_)
      · skip
        refine lv_iload_n hx hb dX5_letterOf_45 rfl (lv_at hl 2 rfl) ?_
        refine lv_iconst (v := 1) hx hb dX5_letterOf_46 (by decide) ?_
        refine lv_icmp_ne (tgt := 74) hx hb dX5_letterOf_47 (by decide) (fun c_47 => ?_) (fun c_47 => ?_)
        · skip
          refine lv_iload_n hx hb dX5_letterOf_74 rfl (lv_at hl 2 rfl) ?_
          refine lv_bipush (v := 7) hx hb dX5_letterOf_75 (by decide) ?_
          refine lv_icmp_ne (tgt := 100) hx hb dX5_letterOf_77 (by decide) (fun c_77 => ?_) (fun c_77 => ?_)
          · skip
            refine lv_iload_n hx hb dX5_letterOf_100 rfl (lv_at hl 1 rfl) ?_
            refine lv_iconst (v := 2) hx hb dX5_letterOf_101 (by decide) ?_
            refine lv_icmp_ne (tgt := 120) hx hb dX5_letterOf_102 (by decide) (fun c_102 => ?_) (fun c_102 => ?_)
            · skip
              refine lv_iload_n hx hb dX5_letterOf_120 rfl (lv_at hl 1 rfl) ?_
              refine lv_iconst (v := 3) hx hb dX5_letterOf_121 (by decide) ?_
              refine lv_icmp_ne (tgt := 140) hx hb dX5_letterOf_122 (by decide) (fun c_122 => ?_) (fun c_122 => ?_)
              · skip
                refine lv_iload_n hx hb dX5_letterOf_140 rfl (lv_at hl 2 rfl) ?_
                refine lv_iconst (v := 3) hx hb dX5_letterOf_141 (by decide) ?_
                refine lv_icmp_ne (tgt := 147) hx hb dX5_letterOf_142 (by decide) (fun c_142 => ?_) (fun c_142 => ?_)
                · skip
                  refine lv_iload_n hx hb dX5_letterOf_147 rfl (lv_at hl 2 rfl) ?_
                  refine lv_iconst (v := 2) hx hb dX5_letterOf_148 (by decide) ?_
                  refine lv_icmp_ne (tgt := 163) hx hb dX5_letterOf_149 (by decide) (fun c_149 => ?_) (fun c_149 => ?_)
                  · skip
                    refine lv_iload_n hx hb dX5_letterOf_163 rfl (lv_at hl 1 rfl) ?_
                    refine lv_iconst (v := 1) hx hb dX5_letterOf_164 (by decide) ?_
                    refine lv_icmp_ne (tgt := 178) hx hb dX5_letterOf_165 (by decide) (fun c_165 => ?_) (fun c_165 => ?_)
                    · skip
                      refine lv_iload_n hx hb dX5_letterOf_178 rfl (lv_at hl 1 rfl) ?_
                      refine lv_bipush (v := 7) hx hb dX5_letterOf_179 (by decide) ?_
                      obtain ⟨x_2, ex_2⟩ : ∃ zz_ : Int32, zz_ = (if x = 7 then (if y = 5 then (0 : Int32) else (2 : Int32)) else (0 : Int32)) := ⟨_, rfl⟩
                      refine jW (D := D) hD hl 198 [] [(2, .int x_1), (0, .int x), (1, .int y)] [.int x_2] (fun hJ => ?_) (fun H locs ls hP hD hS hl => ?_)
                      · skip
                        refine lv_icmp_ne (tgt := 197) hx hb dX5_letterOf_181 (by decide) (fun c_181 => ?_) (fun c_181 => ?_)
                        · skip
                          refine lv_iconst (v := 0) hx hb dX5_letterOf_197 (by decide) ?_
                          have gx_2 : x_2 = 0 := by rw [ex_2]; simp only [if_neg c_181]
                          simp only [gx_2] at hJ
                          exact hJ _ _ _ hP hD hS (lv_sub hl [0, 1, 2] rfl)
                        · skip
                          refine lv_iload_n hx hb dX5_letterOf_184 rfl (lv_at hl 2 rfl) ?_
                          refine lv_iconst (v := 5) hx hb dX5_letterOf_185 (by decide) ?_
                          refine lv_icmp_ne (tgt := 193) hx hb dX5_letterOf_186 (by decide) (fun c_186 => ?_) (fun c_186 => ?_)
                          · skip
                            refine lv_iconst (v := 2) hx hb dX5_letterOf_193 (by decide) ?_
                            refine lv_goto (tgt := 198) hx hb dX5_letterOf_194 (by decide) ?_
                            have gx_2 : x_2 = 2 := by rw [ex_2]; simp only [if_pos c_181, if_neg c_186]
                            simp only [gx_2] at hJ
                            exact hJ _ _ _ hP hD hS (lv_sub hl [0, 1, 2] rfl)
                          · skip
                            refine lv_iconst (v := 0) hx hb dX5_letterOf_189 (by decide) ?_
                            refine lv_goto (tgt := 198) hx hb dX5_letterOf_190 (by decide) ?_
                            have gx_2 : x_2 = 0 := by rw [ex_2]; simp only [if_pos c_181, if_pos c_186]
                            simp only [gx_2] at hJ
                            exact hJ _ _ _ hP hD hS (lv_sub hl [0, 1, 2] rfl)
                      · skip
                        exact k_iret C0 () hP hD hS (pf_X5_letterOf_0 x y x_1 ex_1 c_23 c_31 c_47 c_77 c_102 c_122 c_142 c_149 c_165 x_2 ex_2) dX5_letterOf_198
                    · skip
                      refine lv_iload_n hx hb dX5_letterOf_168 rfl (lv_at hl 2 rfl) ?_
                      obtain ⟨x_3, ex_3⟩ : ∃ zz_ : Int32, zz_ = (if y = 0 then (1 : Int32) else (0 : Int32)) := ⟨_, rfl⟩
                      refine jW (D := D) hD hl 177 [] [(2, .int x_1), (0, .int x), (1, .int y)] [.int x_3] (fun hJ => ?_) (fun H locs ls hP hD hS hl => ?_)
                      · skip
                        refine lv_if_ne (tgt := 176) hx hb dX5_letterOf_169 (by decide) (fun c_169 => ?_) (fun c_169 => ?_)
                        · skip
                          refine lv_iconst (v := 0) hx hb dX5_letterOf_176 (by decide) ?_
                          have gx_3 : x_3 = 0 := by rw [ex_3]; simp only [if_neg c_169]
                          simp only [gx_3] at hJ
                          exact hJ _ _ _ hP hD hS (lv_sub hl [0, 1, 2] rfl)
                        · skip
                          refine lv_iconst (v := 1) hx hb dX5_letterOf_172 (by decide) ?_
                          refine lv_goto (tgt := 177) hx hb dX5_letterOf_173 (by decide) ?_
                          have gx_3 : x_3 = 1 := by rw [ex_3]; simp only [if_pos c_169]
                          simp only [gx_3] at hJ
                          exact hJ _ _ _ hP hD hS (lv_sub hl [0, 1, 2] rfl)
                      · skip
                        exact k_iret C0 () hP hD hS (pf_X5_letterOf_1 x y x_1 ex_1 c_23 c_31 c_47 c_77 c_102 c_122 c_142 c_149 c_165 x_3 ex_3) dX5_letterOf_177
                  · skip
                    refine lv_iload_n hx hb dX5_letterOf_152 rfl (lv_at hl 1 rfl) ?_
                    refine lv_iconst (v := 1) hx hb dX5_letterOf_153 (by decide) ?_
                    obtain ⟨x_4, ex_4⟩ : ∃ zz_ : Int32, zz_ = (if x = 1 then (0 : Int32) else (3 : Int32)) := ⟨_, rfl⟩
                    refine jW (D := D) hD hl 162 [] [(2, .int x_1), (0, .int x), (1, .int y)] [.int x_4] (fun hJ => ?_) (fun H locs ls hP hD hS hl => ?_)
                    · skip
                      refine lv_icmp_ne (tgt := 161) hx hb dX5_letterOf_154 (by decide) (fun c_154 => ?_) (fun c_154 => ?_)
                      · skip
                        refine lv_iconst (v := 3) hx hb dX5_letterOf_161 (by decide) ?_
                        have gx_4 : x_4 = 3 := by rw [ex_4]; simp only [if_neg c_154]
                        simp only [gx_4] at hJ
                        exact hJ _ _ _ hP hD hS (lv_sub hl [0, 1, 2] rfl)
                      · skip
                        refine lv_iconst (v := 0) hx hb dX5_letterOf_157 (by decide) ?_
                        refine lv_goto (tgt := 162) hx hb dX5_letterOf_158 (by decide) ?_
                        have gx_4 : x_4 = 0 := by rw [ex_4]; simp only [if_pos c_154]
                        simp only [gx_4] at hJ
                        exact hJ _ _ _ hP hD hS (lv_sub hl [0, 1, 2] rfl)
                    · skip
                      exact k_iret C0 () hP hD hS (pf_X5_letterOf_2 x y x_1 ex_1 c_23 c_31 c_47 c_77 c_102 c_122 c_142 c_149 x_4 ex_4) dX5_letterOf_162
                · skip
                  refine lv_iconst (v := 4) hx hb dX5_letterOf_145 (by decide) ?_
                  exact k_iret C0 () hP hD hS (pf_X5_letterOf_3 x y x_1 ex_1 c_23 c_31 c_47 c_77 c_102 c_122 c_142) dX5_letterOf_146
              · skip
                refine lv_iload_n hx hb dX5_letterOf_125 rfl (lv_at hl 2 rfl) ?_
                obtain ⟨x_5, ex_5⟩ : ∃ zz_ : Int32, zz_ = (if y = 0 then (4 : Int32) else (if y = 4 then (4 : Int32) else (0 : Int32))) := ⟨_, rfl⟩
                refine jW (D := D) hD hl 139 [] [(2, .int x_1), (0, .int x), (1, .int y)] [.int x_5] (fun hJ => ?_) (fun H locs ls hP hD hS hl => ?_)
                · skip
                  refine lv_if_eq (tgt := 134) hx hb dX5_letterOf_126 (by decide) (fun c_126 => ?_) (fun c_126 => ?_)
                  · skip
                    refine lv_iconst (v := 4) hx hb dX5_letterOf_134 (by decide) ?_
                    refine lv_goto (tgt := 139) hx hb dX5_letterOf_135 (by decide) ?_
                    have gx_5 : x_5 = 4 := by rw [ex_5]; simp only [if_pos c_126]
                    simp only [gx_5] at hJ
                    exact hJ _ _ _ hP hD hS (lv_sub hl [0, 1, 2] rfl)
                  · skip
                    refine lv_iload_n hx hb dX5_letterOf_129 rfl (lv_at hl 2 rfl) ?_
                    refine lv_iconst (v := 4) hx hb dX5_letterOf_130 (by decide) ?_
                    refine lv_icmp_ne (tgt := 138) hx hb dX5_letterOf_131 (by decide) (fun c_131 => ?_) (fun c_131 => ?_)
                    · skip
                      refine lv_iconst (v := 0) hx hb dX5_letterOf_138 (by decide) ?_
                      have gx_5 : x_5 = 0 := by rw [ex_5]; simp only [if_neg c_126, if_neg c_131]
                      simp only [gx_5] at hJ
                      exact hJ _ _ _ hP hD hS (lv_sub hl [0, 1, 2] rfl)
                    · skip
                      refine lv_iconst (v := 4) hx hb dX5_letterOf_134 (by decide) ?_
                      refine lv_goto (tgt := 139) hx hb dX5_letterOf_135 (by decide) ?_
                      have gx_5 : x_5 = 4 := by rw [ex_5]; simp only [if_neg c_126, if_pos c_131]
                      simp only [gx_5] at hJ
                      exact hJ _ _ _ hP hD hS (lv_sub hl [0, 1, 2] rfl)
                · skip
                  exact k_iret C0 () hP hD hS (pf_X5_letterOf_4 x y x_1 ex_1 c_23 c_31 c_47 c_77 c_102 c_122 x_5 ex_5) dX5_letterOf_139
            · skip
              refine lv_iload_n hx hb dX5_letterOf_105 rfl (lv_at hl 2 rfl) ?_
              obtain ⟨x_6, ex_6⟩ : ∃ zz_ : Int32, zz_ = (if y = 0 then (3 : Int32) else (if y = 4 then (3 : Int32) else (0 : Int32))) := ⟨_, rfl⟩
              refine jW (D := D) hD hl 119 [] [(2, .int x_1), (0, .int x), (1, .int y)] [.int x_6] (fun hJ => ?_) (fun H locs ls hP hD hS hl => ?_)
              · skip
                refine lv_if_eq (tgt := 114) hx hb dX5_letterOf_106 (by decide) (fun c_106 => ?_) (fun c_106 => ?_)
                · skip
                  refine lv_iconst (v := 3) hx hb dX5_letterOf_114 (by decide) ?_
                  refine lv_goto (tgt := 119) hx hb dX5_letterOf_115 (by decide) ?_
                  have gx_6 : x_6 = 3 := by rw [ex_6]; simp only [if_pos c_106]
                  simp only [gx_6] at hJ
                  exact hJ _ _ _ hP hD hS (lv_sub hl [0, 1, 2] rfl)
                · skip
                  refine lv_iload_n hx hb dX5_letterOf_109 rfl (lv_at hl 2 rfl) ?_
                  refine lv_iconst (v := 4) hx hb dX5_letterOf_110 (by decide) ?_
                  refine lv_icmp_ne (tgt := 118) hx hb dX5_letterOf_111 (by decide) (fun c_111 => ?_) (fun c_111 => ?_)
                  · skip
                    refine lv_iconst (v := 0) hx hb dX5_letterOf_118 (by decide) ?_
                    have gx_6 : x_6 = 0 := by rw [ex_6]; simp only [if_neg c_106, if_neg c_111]
                    simp only [gx_6] at hJ
                    exact hJ _ _ _ hP hD hS (lv_sub hl [0, 1, 2] rfl)
                  · skip
                    refine lv_iconst (v := 3) hx hb dX5_letterOf_114 (by decide) ?_
                    refine lv_goto (tgt := 119) hx hb dX5_letterOf_115 (by decide) ?_
                    have gx_6 : x_6 = 3 := by rw [ex_6]; simp only [if_neg c_106, if_pos c_111]
                    simp only [gx_6] at hJ
                    exact hJ _ _ _ hP hD hS (lv_sub hl [0, 1, 2] rfl)
              · skip
                exact k_iret C0 () hP hD hS (pf_X5_letterOf_5 x y x_1 ex_1 c_23 c_31 c_47 c_77 c_102 x_6 ex_6) dX5_letterOf_119
          · skip
            refine lv_iload_n hx hb dX5_letterOf_80 rfl (lv_at hl 1 rfl) ?_
            refine lv_iconst (v := 2) hx hb dX5_letterOf_81 (by decide) ?_
            obtain ⟨x_7, ex_7⟩ : ∃ zz_ : Int32, zz_ = (if x = 2 then (3 : Int32) else (if x = 3 then (4 : Int32) else (2 : Int32))) := ⟨_, rfl⟩
            refine jW (D := D) hD hl 99 [] [(2, .int x_1), (0, .int x), (1, .int y)] [.int x_7] (fun hJ => ?_) (fun H locs ls hP hD hS hl => ?_)
            · skip
              refine lv_icmp_ne (tgt := 89) hx hb dX5_letterOf_82 (by decide) (fun c_82 => ?_) (fun c_82 => ?_)
              · skip
                refine lv_iload_n hx hb dX5_letterOf_89 rfl (lv_at hl 1 rfl) ?_
                refine lv_iconst (v := 3) hx hb dX5_letterOf_90 (by decide) ?_
                refine lv_icmp_ne (tgt := 98) hx hb dX5_letterOf_91 (by decide) (fun c_91 => ?_) (fun c_91 => ?_)
                · skip
                  refine lv_iconst (v := 2) hx hb dX5_letterOf_98 (by decide) ?_
                  have gx_7 : x_7 = 2 := by rw [ex_7]; simp only [if_neg c_82, if_neg c_91]
                  simp only [gx_7] at hJ
                  exact hJ _ _ _ hP hD hS (lv_sub hl [0, 1, 2] rfl)
                · skip
                  refine lv_iconst (v := 4) hx hb dX5_letterOf_94 (by decide) ?_
                  refine lv_goto (tgt := 99) hx hb dX5_letterOf_95 (by decide) ?_
                  have gx_7 : x_7 = 4 := by rw [ex_7]; simp only [if_neg c_82, if_pos c_91]
                  simp only [gx_7] at hJ
                  exact hJ _ _ _ hP hD hS (lv_sub hl [0, 1, 2] rfl)
              · skip
                refine lv_iconst (v := 3) hx hb dX5_letterOf_85 (by decide) ?_
                refine lv_goto (tgt := 99) hx hb dX5_letterOf_86 (by decide) ?_
                have gx_7 : x_7 = 3 := by rw [ex_7]; simp only [if_pos c_82]
                simp only [gx_7] at hJ
                exact hJ _ _ _ hP hD hS (lv_sub hl [0, 1, 2] rfl)
            · skip
              exact k_iret C0 () hP hD hS (pf_X5_letterOf_6 x y x_1 ex_1 c_23 c_31 c_47 c_77 x_7 ex_7) dX5_letterOf_99
        · skip
          refine lv_iload_n hx hb dX5_letterOf_50 rfl (lv_at hl 0 rfl) ?_
          obtain ⟨x_8, ex_8⟩ : ∃ zz_ : Int32, zz_ = (if x_1 = 0 then (if x = 1 then (1 : Int32) else (if x = 2 then (3 : Int32) else (4 : Int32))) else (1 : Int32)) := ⟨_, rfl⟩
          refine jW (D := D) hD hl 73 [] [(2, .int x_1), (0, .int x), (1, .int y)] [.int x_8] (fun hJ => ?_) (fun H locs ls hP hD hS hl => ?_)
          · skip
            refine lv_if_ne (tgt := 59) hx hb dX5_letterOf_51 (by decide) (fun c_51 => ?_) (fun c_51 => ?_)
            · skip
              refine lv_iconst (v := 1) hx hb dX5_letterOf_59 (by decide) ?_
              refine lv_goto (tgt := 73) hx hb dX5_letterOf_60 (by decide) ?_
              have gx_8 : x_8 = 1 := by rw [ex_8]; simp only [if_neg c_51]
              simp only [gx_8] at hJ
              exact hJ _ _ _ hP hD hS (lv_sub hl [0, 1, 2] rfl)
            · skip
              refine lv_iload_n hx hb dX5_letterOf_54 rfl (lv_at hl 1 rfl) ?_
              refine lv_iconst (v := 1) hx hb dX5_letterOf_55 (by decide) ?_
              refine lv_icmp_ne (tgt := 63) hx hb dX5_letterOf_56 (by decide) (fun c_56 => ?_) (fun c_56 => ?_)
              · skip
                refine lv_iload_n hx hb dX5_letterOf_63 rfl (lv_at hl 1 rfl) ?_
                refine lv_iconst (v := 2) hx hb dX5_letterOf_64 (by decide) ?_
                refine lv_icmp_ne (tgt := 72) hx hb dX5_letterOf_65 (by decide) (fun c_65 => ?_) (fun c_65 => ?_)
                · skip
                  refine lv_iconst (v := 4) hx hb dX5_letterOf_72 (by decide) ?_
                  have gx_8 : x_8 = 4 := by rw [ex_8]; simp only [if_pos c_51, if_neg c_56, if_neg c_65]
                  simp only [gx_8] at hJ
                  exact hJ _ _ _ hP hD hS (lv_sub hl [0, 1, 2] rfl)
                · skip
                  refine lv_iconst (v := 3) hx hb dX5_letterOf_68 (by decide) ?_
                  refine lv_goto (tgt := 73) hx hb dX5_letterOf_69 (by decide) ?_
                  have gx_8 : x_8 = 3 := by rw [ex_8]; simp only [if_pos c_51, if_neg c_56, if_pos c_65]
                  simp only [gx_8] at hJ
                  exact hJ _ _ _ hP hD hS (lv_sub hl [0, 1, 2] rfl)
              · skip
                refine lv_iconst (v := 1) hx hb dX5_letterOf_59 (by decide) ?_
                refine lv_goto (tgt := 73) hx hb dX5_letterOf_60 (by decide) ?_
                have gx_8 : x_8 = 1 := by rw [ex_8]; simp only [if_pos c_51, if_pos c_56]
                simp only [gx_8] at hJ
                exact hJ _ _ _ hP hD hS (lv_sub hl [0, 1, 2] rfl)
          · skip
            exact k_iret C0 () hP hD hS (pf_X5_letterOf_7 x y x_1 ex_1 c_23 c_31 c_47 x_8 ex_8) dX5_letterOf_73
      · skip
        refine lv_iload_n hx hb dX5_letterOf_34 rfl (lv_at hl 2 rfl) ?_
        refine lv_iconst (v := 2) hx hb dX5_letterOf_35 (by decide) ?_
        obtain ⟨x_9, ex_9⟩ : ∃ zz_ : Int32, zz_ = (if y = 2 then (0 : Int32) else (2 : Int32)) := ⟨_, rfl⟩
        refine jW (D := D) hD hl 44 [] [(2, .int x_1), (0, .int x), (1, .int y)] [.int x_9] (fun hJ => ?_) (fun H locs ls hP hD hS hl => ?_)
        · skip
          refine lv_icmp_ne (tgt := 43) hx hb dX5_letterOf_36 (by decide) (fun c_36 => ?_) (fun c_36 => ?_)
          · skip
            refine lv_iconst (v := 2) hx hb dX5_letterOf_43 (by decide) ?_
            have gx_9 : x_9 = 2 := by rw [ex_9]; simp only [if_neg c_36]
            simp only [gx_9] at hJ
            exact hJ _ _ _ hP hD hS (lv_sub hl [0, 1, 2] rfl)
          · skip
            refine lv_iconst (v := 0) hx hb dX5_letterOf_39 (by decide) ?_
            refine lv_goto (tgt := 44) hx hb dX5_letterOf_40 (by decide) ?_
            have gx_9 : x_9 = 0 := by rw [ex_9]; simp only [if_pos c_36]
            simp only [gx_9] at hJ
            exact hJ _ _ _ hP hD hS (lv_sub hl [0, 1, 2] rfl)
        · skip
          exact k_iret C0 () hP hD hS (pf_X5_letterOf_8 x y x_1 ex_1 c_23 c_31 x_9 ex_9) dX5_letterOf_44
    · skip
      refine lv_iconst (v := 0) hx hb dX5_letterOf_26 (by decide) ?_
      exact k_iret C0 () hP hD hS (pf_X5_letterOf_9 x y x_1 ex_1 c_23) dX5_letterOf_27

set_option maxHeartbeats 1500000 in
theorem pf_X5_spaceOf_0 (x : Int32) (y : Int32) (z : Int32)  (c_8 : ¬ ((ltr x y) = 1)) (x_1 : Int32) (ex_1 : x_1 = (if 1 < z then (0 : Int32) else (if (ltr x y) = 0 then (0 : Int32) else (((ltr x y) - 1) * (uni z))))) : x_1 = spO x y z := by
  subst_vars <;> simp only [spO] <;> (repeat' split) <;> first | (with_reducible rfl) | (simp_all; done) | (simp only [i_lt, i_le, i_eq, tI0, tI1, tI2, tI3, tI4, tI5, tI6, tI7, tI8, tI9, tI10, tI11, tI12, tI13, tI14, tI15, tI16, tI30, tI120, tI255, tI256, tI1000, tIm1] at * <;> omega)
set_option maxHeartbeats 1500000 in
theorem pf_X5_spaceOf_1 (x : Int32) (y : Int32) (z : Int32)  (c_8 : (ltr x y) = 1) : (uni z) = spO x y z := by
  subst_vars <;> simp only [spO] <;> (repeat' split) <;> first | (with_reducible rfl) | (simp_all; done) | (simp only [i_lt, i_le, i_eq, tI0, tI1, tI2, tI3, tI4, tI5, tI6, tI7, tI8, tI9, tI10, tI11, tI12, tI13, tI14, tI15, tI16, tI30, tI120, tI255, tI256, tI1000, tIm1] at * <;> omega)
set_option maxHeartbeats 1500000 in
set_option maxRecDepth 100000 in
theorem c_X5_spaceOf (l : Launch) (D : va_G) (cI : ClassId) (x : Int32) (y : Int32) (z : Int32) : KD l D cI yX5_spaceOf wsX5_spaceOf ({ frames := 1, cells := 0, slots := 0, locals := 22 }) [.int x, .int y, .int z] [] [] (spO x y z) := by
  refine KI.of (cc := cX5_spaceOf) (nL := 4) (ret := (some .int)) (by decide) rfl (Nat.le_of_ble_eq_true rfl) ?_
  intro pg9 en9 s m args below meth cd9 A ls C0 hP hD hS hl
  have hx := C0.1.1
  have hb := C0.1.2.1
  have hml := C0.1.2.2.1
  have hown : s.vm.findClass RX5 = some m.cls := C0.1.2.2.2.1
  have hts : ∀ w ∈ wsX5_spaceOf, w.before args s = true := C0.1.2.2.2.2
  have hK := C0.2.2.2.1
  have hl : lv_has ls 4 [(0, .int x), (1, .int y), (2, .int z)] := hl
  have hP : va_P D vwCl [] s.heap := hP
  refine lv_iload_n hx hb dX5_spaceOf_0 rfl (lv_at hl 0 rfl) ?_
  refine lv_iload_n hx hb dX5_spaceOf_1 rfl (lv_at hl 1 rfl) ?_
  refine kcS (ans := (ltr x y)) C0 hP hS (c_X5_letterOf l D cI x y ) (va_cwS 2 hts gX5_spaceOf_X5_letterOf rfl rfl rfl (by decide +kernel) ⟨Nat.le_of_ble_eq_true rfl, Nat.le_of_ble_eq_true rfl⟩) rfl hl.1 rfl (Nat.le_of_ble_eq_true rfl) dX5_spaceOf_2 ⟨Nat.zero_le _, Nat.zero_le _⟩ (fun H locs hP hS => ?_)
  refine lv_istore_n (lv' := [(3, .int (ltr x y)), (0, .int x), (1, .int y), (2, .int z)]) hx hb dX5_spaceOf_5 rfl hl (by decide) rfl (fun ls hl => ?_)
  refine lv_iload_n hx hb dX5_spaceOf_6 rfl (lv_at hl 0 rfl) ?_
  refine lv_iconst (v := 1) hx hb dX5_spaceOf_7 (by decide) ?_
  refine lv_icmp_ne (tgt := 16) hx hb dX5_spaceOf_8 (by decide) (fun c_8 => ?_) (fun c_8 => ?_)
  · skip
    refine lv_iload_n hx hb dX5_spaceOf_16 rfl (lv_at hl 3 rfl) ?_
    refine lv_iconst (v := 1) hx hb dX5_spaceOf_17 (by decide) ?_
    obtain ⟨x_1, ex_1⟩ : ∃ zz_ : Int32, zz_ = (if 1 < z then (0 : Int32) else (if (ltr x y) = 0 then (0 : Int32) else (((ltr x y) - 1) * (uni z)))) := ⟨_, rfl⟩
    refine jW (D := D) hD hl 37 [] [(3, .int (ltr x y)), (0, .int x), (1, .int y), (2, .int z)] [.int x_1] (fun hJ => ?_) (fun H locs ls hP hD hS hl => ?_)
    · skip
      refine lv_icmp_gt (tgt := 25) hx hb dX5_spaceOf_18 (by decide) (fun c_18 => ?_) (fun c_18 => ?_)
      · skip
        refine lv_iconst (v := 0) hx hb dX5_spaceOf_25 (by decide) ?_
        refine lv_goto (tgt := 37) hx hb dX5_spaceOf_26 (by decide) ?_
        have gx_1 : x_1 = 0 := by rw [ex_1]; simp only [if_pos c_18]
        simp only [gx_1] at hJ
        exact hJ _ _ _ hP hD hS (lv_sub hl [0, 1, 2, 3] rfl)
      · skip
        refine lv_iload_n hx hb dX5_spaceOf_21 rfl (lv_at hl 0 rfl) ?_
        refine lv_if_ne (tgt := 29) hx hb dX5_spaceOf_22 (by decide) (fun c_22 => ?_) (fun c_22 => ?_)
        · skip
          refine lv_iload_n hx hb dX5_spaceOf_29 rfl (lv_at hl 0 rfl) ?_
          refine lv_iconst (v := 1) hx hb dX5_spaceOf_30 (by decide) ?_
          refine lv_isub hx hb dX5_spaceOf_31 ?_
          refine lv_iload_n hx hb dX5_spaceOf_32 rfl (lv_at hl 3 rfl) ?_
          refine kcS (ans := (uni z)) C0 hP hS (c_X5_unit l D cI z ) (va_cwS 1 hts gX5_spaceOf_X5_unit rfl rfl rfl (by decide +kernel) ⟨Nat.le_of_ble_eq_true rfl, Nat.le_of_ble_eq_true rfl⟩) rfl hl.1 rfl (Nat.le_of_ble_eq_true rfl) dX5_spaceOf_33 ⟨Nat.zero_le _, Nat.zero_le _⟩ (fun H locs hP hS => ?_)
          refine lv_imul hx hb dX5_spaceOf_36 ?_
          have gx_1 : x_1 = (((ltr x y) - 1) * (uni z)) := by rw [ex_1]; simp only [if_neg c_18, if_neg c_22]
          simp only [gx_1] at hJ
          exact hJ _ _ _ hP hD hS (lv_sub hl [0, 1, 2, 3] rfl)
        · skip
          refine lv_iconst (v := 0) hx hb dX5_spaceOf_25 (by decide) ?_
          refine lv_goto (tgt := 37) hx hb dX5_spaceOf_26 (by decide) ?_
          have gx_1 : x_1 = 0 := by rw [ex_1]; simp only [if_neg c_18, if_pos c_22]
          simp only [gx_1] at hJ
          exact hJ _ _ _ hP hD hS (lv_sub hl [0, 1, 2, 3] rfl)
    · skip
      exact k_iret C0 () hP hD hS (pf_X5_spaceOf_0 x y z c_8 x_1 ex_1) dX5_spaceOf_37
  · skip
    refine lv_iload_n hx hb dX5_spaceOf_11 rfl (lv_at hl 3 rfl) ?_
    refine kcS (ans := (uni z)) C0 hP hS (c_X5_unit l D cI z ) (va_cwS 1 hts gX5_spaceOf_X5_unit rfl rfl rfl (by decide +kernel) ⟨Nat.le_of_ble_eq_true rfl, Nat.le_of_ble_eq_true rfl⟩) rfl hl.1 rfl (Nat.le_of_ble_eq_true rfl) dX5_spaceOf_12 ⟨Nat.zero_le _, Nat.zero_le _⟩ (fun H locs hP hS => ?_)
    exact k_iret C0 () hP hD hS (pf_X5_spaceOf_1 x y z c_8) dX5_spaceOf_15

set_option maxHeartbeats 1500000 in
theorem pf_X5_partLevel_0 (x : Int32)  (x_1 : Int32) (ex_1 : x_1 = (if x = 3 then (3 : Int32) else (x + 1))) : x_1 = ptl x := by
  subst_vars <;> simp only [ptl] <;> (repeat' split) <;> first | (with_reducible rfl) | (simp_all; done) | (simp only [i_lt, i_le, i_eq, tI0, tI1, tI2, tI3, tI4, tI5, tI6, tI7, tI8, tI9, tI10, tI11, tI12, tI13, tI14, tI15, tI16, tI30, tI120, tI255, tI256, tI1000, tIm1] at * <;> omega)
set_option maxHeartbeats 1500000 in
set_option maxRecDepth 100000 in
theorem c_X5_partLevel (l : Launch) (D : va_G) (cI : ClassId) (x : Int32) : KD l D cI yX5_partLevel wsX5_partLevel ({ frames := 0, cells := 0, slots := 0, locals := 0 }) [.int x] [] [] (ptl x) := by
  refine KI.of (cc := cX5_partLevel) (nL := 1) (ret := (some .int)) (by decide) rfl (Nat.le_of_ble_eq_true rfl) ?_
  intro pg9 en9 s m args below meth cd9 A ls C0 hP hD hS hl
  have hx := C0.1.1
  have hb := C0.1.2.1
  have hml := C0.1.2.2.1
  have hown : s.vm.findClass RX5 = some m.cls := C0.1.2.2.2.1
  have hts : ∀ w ∈ wsX5_partLevel, w.before args s = true := C0.1.2.2.2.2
  have hK := C0.2.2.2.1
  have hl : lv_has ls 1 [(0, .int x)] := hl
  have hP : va_P D vwCl [] s.heap := hP
  refine lv_iload_n hx hb dX5_partLevel_0 rfl (lv_at hl 0 rfl) ?_
  refine lv_iconst (v := 3) hx hb dX5_partLevel_1 (by decide) ?_
  obtain ⟨x_1, ex_1⟩ : ∃ zz_ : Int32, zz_ = (if x = 3 then (3 : Int32) else (x + 1)) := ⟨_, rfl⟩
  refine jW (D := D) hD hl 12 [] [(0, .int x)] [.int x_1] (fun hJ => ?_) (fun H locs ls hP hD hS hl => ?_)
  · skip
    refine lv_icmp_ne (tgt := 9) hx hb dX5_partLevel_2 (by decide) (fun c_2 => ?_) (fun c_2 => ?_)
    · skip
      refine lv_iload_n hx hb dX5_partLevel_9 rfl (lv_at hl 0 rfl) ?_
      refine lv_iconst (v := 1) hx hb dX5_partLevel_10 (by decide) ?_
      refine lv_iadd hx hb dX5_partLevel_11 ?_
      have gx_1 : x_1 = (x + 1) := by rw [ex_1]; simp only [if_neg c_2]
      simp only [gx_1] at hJ
      exact hJ _ _ _ hP hD hS (lv_sub hl [0] rfl)
    · skip
      refine lv_iconst (v := 3) hx hb dX5_partLevel_5 (by decide) ?_
      refine lv_goto (tgt := 12) hx hb dX5_partLevel_6 (by decide) ?_
      have gx_1 : x_1 = 3 := by rw [ex_1]; simp only [if_pos c_2]
      simp only [gx_1] at hJ
      exact hJ _ _ _ hP hD hS (lv_sub hl [0] rfl)
  · skip
    exact k_iret C0 () hP hD hS (pf_X5_partLevel_0 x x_1 ex_1) dX5_partLevel_12

set_option maxHeartbeats 1500000 in
theorem pf_X5_scriptLevel_0 (x : Int32)  (x_1 : Int32) (ex_1 : x_1 = (if 2 ≤ x then (3 : Int32) else (2 : Int32))) : x_1 = scl x := by
  subst_vars <;> simp only [scl] <;> (repeat' split) <;> first | (with_reducible rfl) | (simp_all; done) | (simp only [i_lt, i_le, i_eq, tI0, tI1, tI2, tI3, tI4, tI5, tI6, tI7, tI8, tI9, tI10, tI11, tI12, tI13, tI14, tI15, tI16, tI30, tI120, tI255, tI256, tI1000, tIm1] at * <;> omega)
set_option maxHeartbeats 1500000 in
set_option maxRecDepth 100000 in
theorem c_X5_scriptLevel (l : Launch) (D : va_G) (cI : ClassId) (x : Int32) : KD l D cI yX5_scriptLevel wsX5_scriptLevel ({ frames := 0, cells := 0, slots := 0, locals := 0 }) [.int x] [] [] (scl x) := by
  refine KI.of (cc := cX5_scriptLevel) (nL := 1) (ret := (some .int)) (by decide) rfl (Nat.le_of_ble_eq_true rfl) ?_
  intro pg9 en9 s m args below meth cd9 A ls C0 hP hD hS hl
  have hx := C0.1.1
  have hb := C0.1.2.1
  have hml := C0.1.2.2.1
  have hown : s.vm.findClass RX5 = some m.cls := C0.1.2.2.2.1
  have hts : ∀ w ∈ wsX5_scriptLevel, w.before args s = true := C0.1.2.2.2.2
  have hK := C0.2.2.2.1
  have hl : lv_has ls 1 [(0, .int x)] := hl
  have hP : va_P D vwCl [] s.heap := hP
  refine lv_iload_n hx hb dX5_scriptLevel_0 rfl (lv_at hl 0 rfl) ?_
  refine lv_iconst (v := 2) hx hb dX5_scriptLevel_1 (by decide) ?_
  obtain ⟨x_1, ex_1⟩ : ∃ zz_ : Int32, zz_ = (if 2 ≤ x then (3 : Int32) else (2 : Int32)) := ⟨_, rfl⟩
  refine jW (D := D) hD hl 10 [] [(0, .int x)] [.int x_1] (fun hJ => ?_) (fun H locs ls hP hD hS hl => ?_)
  · skip
    refine lv_icmp_ge (tgt := 9) hx hb dX5_scriptLevel_2 (by decide) (fun c_2 => ?_) (fun c_2 => ?_)
    · skip
      refine lv_iconst (v := 3) hx hb dX5_scriptLevel_9 (by decide) ?_
      have gx_1 : x_1 = 3 := by rw [ex_1]; simp only [if_pos c_2]
      simp only [gx_1] at hJ
      exact hJ _ _ _ hP hD hS (lv_sub hl [0] rfl)
    · skip
      refine lv_iconst (v := 2) hx hb dX5_scriptLevel_5 (by decide) ?_
      refine lv_goto (tgt := 10) hx hb dX5_scriptLevel_6 (by decide) ?_
      have gx_1 : x_1 = 2 := by rw [ex_1]; simp only [if_neg c_2]
      simp only [gx_1] at hJ
      exact hJ _ _ _ hP hD hS (lv_sub hl [0] rfl)
  · skip
    exact k_iret C0 () hP hD hS (pf_X5_scriptLevel_0 x x_1 ex_1) dX5_scriptLevel_10

set_option maxHeartbeats 1500000 in
theorem pf_X5_signSize_0 (x : Int32) (y : Int32)  (x_1 : Int32) (ex_1 : x_1 = (if x = 1 then (if y = 0 then (14 : Int32) else (uni y)) else (uni y))) : x_1 = sgz x y := by
  subst_vars <;> simp only [sgz] <;> (repeat' split) <;> first | (with_reducible rfl) | (simp_all; done) | (simp only [i_lt, i_le, i_eq, tI0, tI1, tI2, tI3, tI4, tI5, tI6, tI7, tI8, tI9, tI10, tI11, tI12, tI13, tI14, tI15, tI16, tI30, tI120, tI255, tI256, tI1000, tIm1] at * <;> omega)
set_option maxHeartbeats 1500000 in
set_option maxRecDepth 100000 in
theorem c_X5_signSize (l : Launch) (D : va_G) (cI : ClassId) (x : Int32) (y : Int32) : KD l D cI yX5_signSize wsX5_signSize ({ frames := 1, cells := 0, slots := 0, locals := 20 }) [.int x, .int y] [] [] (sgz x y) := by
  refine KI.of (cc := cX5_signSize) (nL := 2) (ret := (some .int)) (by decide) rfl (Nat.le_of_ble_eq_true rfl) ?_
  intro pg9 en9 s m args below meth cd9 A ls C0 hP hD hS hl
  have hx := C0.1.1
  have hb := C0.1.2.1
  have hml := C0.1.2.2.1
  have hown : s.vm.findClass RX5 = some m.cls := C0.1.2.2.2.1
  have hts : ∀ w ∈ wsX5_signSize, w.before args s = true := C0.1.2.2.2.2
  have hK := C0.2.2.2.1
  have hl : lv_has ls 2 [(0, .int x), (1, .int y)] := hl
  have hP : va_P D vwCl [] s.heap := hP
  refine lv_iload_n hx hb dX5_signSize_0 rfl (lv_at hl 0 rfl) ?_
  refine lv_iconst (v := 1) hx hb dX5_signSize_1 (by decide) ?_
  obtain ⟨x_1, ex_1⟩ : ∃ zz_ : Int32, zz_ = (if x = 1 then (if y = 0 then (14 : Int32) else (uni y)) else (uni y)) := ⟨_, rfl⟩
  refine jW (D := D) hD hl 18 [] [(0, .int x), (1, .int y)] [.int x_1] (fun hJ => ?_) (fun H locs ls hP hD hS hl => ?_)
  · skip
    refine lv_icmp_ne (tgt := 14) hx hb dX5_signSize_2 (by decide) (fun c_2 => ?_) (fun c_2 => ?_)
    · skip
      refine lv_iload_n hx hb dX5_signSize_14 rfl (lv_at hl 1 rfl) ?_
      refine kcS (ans := (uni y)) C0 hP hS (c_X5_unit l D cI y ) (va_cwS 1 hts gX5_signSize_X5_unit rfl rfl rfl (by decide +kernel) ⟨Nat.le_of_ble_eq_true rfl, Nat.le_of_ble_eq_true rfl⟩) rfl hl.1 rfl (Nat.le_of_ble_eq_true rfl) dX5_signSize_15 ⟨Nat.zero_le _, Nat.zero_le _⟩ (fun H locs hP hS => ?_)
      have gx_1 : x_1 = (uni y) := by rw [ex_1]; simp only [if_neg c_2]
      simp only [gx_1] at hJ
      exact hJ _ _ _ hP hD hS (lv_sub hl [0, 1] rfl)
    · skip
      refine lv_iload_n hx hb dX5_signSize_5 rfl (lv_at hl 1 rfl) ?_
      refine lv_if_ne (tgt := 14) hx hb dX5_signSize_6 (by decide) (fun c_6 => ?_) (fun c_6 => ?_)
      · skip
        refine lv_iload_n hx hb dX5_signSize_14 rfl (lv_at hl 1 rfl) ?_
        refine kcS (ans := (uni y)) C0 hP hS (c_X5_unit l D cI y ) (va_cwS 1 hts gX5_signSize_X5_unit rfl rfl rfl (by decide +kernel) ⟨Nat.le_of_ble_eq_true rfl, Nat.le_of_ble_eq_true rfl⟩) rfl hl.1 rfl (Nat.le_of_ble_eq_true rfl) dX5_signSize_15 ⟨Nat.zero_le _, Nat.zero_le _⟩ (fun H locs hP hS => ?_)
        have gx_1 : x_1 = (uni y) := by rw [ex_1]; simp only [if_pos c_2, if_neg c_6]
        simp only [gx_1] at hJ
        exact hJ _ _ _ hP hD hS (lv_sub hl [0, 1] rfl)
      · skip
        refine lv_bipush (v := 14) hx hb dX5_signSize_9 (by decide) ?_
        refine lv_goto (tgt := 18) hx hb dX5_signSize_11 (by decide) ?_
        have gx_1 : x_1 = 14 := by rw [ex_1]; simp only [if_pos c_2, if_pos c_6]
        simp only [gx_1] at hJ
        exact hJ _ _ _ hP hD hS (lv_sub hl [0, 1] rfl)
  · skip
    exact k_iret C0 () hP hD hS (pf_X5_signSize_0 x y x_1 ex_1) dX5_signSize_18

set_option maxHeartbeats 1500000 in
set_option maxRecDepth 100000 in
theorem c_X5_tall (l : Launch) (D : va_G) (cI : ClassId) (x : Int32) (y : Int32) : KD l D cI yX5_tall wsX5_tall ({ frames := 1, cells := 0, slots := 0, locals := 20 }) [.int x, .int y] [] [] (tal x y) := by
  refine KI.of (cc := cX5_tall) (nL := 2) (ret := (some .int)) (by decide) rfl (Nat.le_of_ble_eq_true rfl) ?_
  intro pg9 en9 s m args below meth cd9 A ls C0 hP hD hS hl
  have hx := C0.1.1
  have hb := C0.1.2.1
  have hml := C0.1.2.2.1
  have hown : s.vm.findClass RX5 = some m.cls := C0.1.2.2.2.1
  have hts : ∀ w ∈ wsX5_tall, w.before args s = true := C0.1.2.2.2.2
  have hK := C0.2.2.2.1
  have hl : lv_has ls 2 [(0, .int x), (1, .int y)] := hl
  have hP : va_P D vwCl [] s.heap := hP
  refine lv_iload_n hx hb dX5_tall_0 rfl (lv_at hl 1 rfl) ?_
  refine kcS (ans := (uni y)) C0 hP hS (c_X5_unit l D cI y ) (va_cwS 1 hts gX5_tall_X5_unit rfl rfl rfl (by decide +kernel) ⟨Nat.le_of_ble_eq_true rfl, Nat.le_of_ble_eq_true rfl⟩) rfl hl.1 rfl (Nat.le_of_ble_eq_true rfl) dX5_tall_1 ⟨Nat.zero_le _, Nat.zero_le _⟩ (fun H locs hP hS => ?_)
  refine lv_bipush (v := 6) hx hb dX5_tall_4 (by decide) ?_
  refine lv_iconst (v := 4) hx hb dX5_tall_6 (by decide) ?_
  refine lv_iload_n hx hb dX5_tall_7 rfl (lv_at hl 0 rfl) ?_
  refine lv_imul hx hb dX5_tall_8 ?_
  refine lv_iadd hx hb dX5_tall_9 ?_
  refine lv_imul hx hb dX5_tall_10 ?_
  exact k_iret C0 () hP hD hS rfl dX5_tall_11

set_option maxHeartbeats 1500000 in
theorem pf_X5_delimiterWidth_0 (x : Int32) (y : Int32)  (x_1 : Int32) (ex_1 : x_1 = (if x = 0 then ((uni y) / 2) else ((uni y) * (2 + (x - x / 3 * 3))))) : x_1 = dlw x y := by
  subst_vars <;> simp only [dlw, rmd] <;> (repeat' split) <;> first | (with_reducible rfl) | (simp_all; done) | (simp only [i_lt, i_le, i_eq, tI0, tI1, tI2, tI3, tI4, tI5, tI6, tI7, tI8, tI9, tI10, tI11, tI12, tI13, tI14, tI15, tI16, tI30, tI120, tI255, tI256, tI1000, tIm1] at * <;> omega)
set_option maxHeartbeats 1500000 in
set_option maxRecDepth 100000 in
theorem c_X5_delimiterWidth (l : Launch) (D : va_G) (cI : ClassId) (x : Int32) (y : Int32) : KD l D cI yX5_delimiterWidth wsX5_delimiterWidth ({ frames := 1, cells := 0, slots := 0, locals := 20 }) [.int x, .int y] [] [] (dlw x y) := by
  refine KI.of (cc := cX5_delimiterWidth) (nL := 2) (ret := (some .int)) (by decide) rfl (Nat.le_of_ble_eq_true rfl) ?_
  intro pg9 en9 s m args below meth cd9 A ls C0 hP hD hS hl
  have hx := C0.1.1
  have hb := C0.1.2.1
  have hml := C0.1.2.2.1
  have hown : s.vm.findClass RX5 = some m.cls := C0.1.2.2.2.1
  have hts : ∀ w ∈ wsX5_delimiterWidth, w.before args s = true := C0.1.2.2.2.2
  have hK := C0.2.2.2.1
  have hl : lv_has ls 2 [(0, .int x), (1, .int y)] := hl
  have hP : va_P D vwCl [] s.heap := hP
  refine lv_iload_n hx hb dX5_delimiterWidth_0 rfl (lv_at hl 0 rfl) ?_
  obtain ⟨x_1, ex_1⟩ : ∃ zz_ : Int32, zz_ = (if x = 0 then ((uni y) / 2) else ((uni y) * (2 + (x - x / 3 * 3)))) := ⟨_, rfl⟩
  refine jW (D := D) hD hl 24 [] [(0, .int x), (1, .int y)] [.int x_1] (fun hJ => ?_) (fun H locs ls hP hD hS hl => ?_)
  · skip
    refine lv_if_ne (tgt := 14) hx hb dX5_delimiterWidth_1 (by decide) (fun c_1 => ?_) (fun c_1 => ?_)
    · skip
      refine lv_iload_n hx hb dX5_delimiterWidth_14 rfl (lv_at hl 1 rfl) ?_
      refine kcS (ans := (uni y)) C0 hP hS (c_X5_unit l D cI y ) (va_cwS 1 hts gX5_delimiterWidth_X5_unit rfl rfl rfl (by decide +kernel) ⟨Nat.le_of_ble_eq_true rfl, Nat.le_of_ble_eq_true rfl⟩) rfl hl.1 rfl (Nat.le_of_ble_eq_true rfl) dX5_delimiterWidth_15 ⟨Nat.zero_le _, Nat.zero_le _⟩ (fun H locs hP hS => ?_)
      refine lv_iconst (v := 2) hx hb dX5_delimiterWidth_18 (by decide) ?_
      refine lv_iload_n hx hb dX5_delimiterWidth_19 rfl (lv_at hl 0 rfl) ?_
      refine lv_iconst (v := 3) hx hb dX5_delimiterWidth_20 (by decide) ?_
      refine lv_irem hx hb dX5_delimiterWidth_21 (by decide) ?_
      refine lv_iadd hx hb dX5_delimiterWidth_22 ?_
      refine lv_imul hx hb dX5_delimiterWidth_23 ?_
      have gx_1 : x_1 = ((uni y) * (2 + (x - x / 3 * 3))) := by rw [ex_1]; simp only [if_neg c_1]
      simp only [gx_1] at hJ
      exact hJ _ _ _ hP hD hS (lv_sub hl [0, 1] rfl)
    · skip
      refine lv_iload_n hx hb dX5_delimiterWidth_4 rfl (lv_at hl 1 rfl) ?_
      refine kcS (ans := (uni y)) C0 hP hS (c_X5_unit l D cI y ) (va_cwS 1 hts gX5_delimiterWidth_X5_unit rfl rfl rfl (by decide +kernel) ⟨Nat.le_of_ble_eq_true rfl, Nat.le_of_ble_eq_true rfl⟩) rfl hl.1 rfl (Nat.le_of_ble_eq_true rfl) dX5_delimiterWidth_5 ⟨Nat.zero_le _, Nat.zero_le _⟩ (fun H locs hP hS => ?_)
      refine kcS (ans := ((uni y) / 2)) C0 hP hS (c_X5_half l D cI (uni y) ) (va_cwS 1 hts gX5_delimiterWidth_X5_half rfl rfl rfl (by decide +kernel) ⟨Nat.le_of_ble_eq_true rfl, Nat.le_of_ble_eq_true rfl⟩) rfl hl.1 rfl (Nat.le_of_ble_eq_true rfl) dX5_delimiterWidth_8 ⟨Nat.zero_le _, Nat.zero_le _⟩ (fun H locs hP hS => ?_)
      refine lv_goto (tgt := 24) hx hb dX5_delimiterWidth_11 (by decide) ?_
      have gx_1 : x_1 = ((uni y) / 2) := by rw [ex_1]; simp only [if_pos c_1]
      simp only [gx_1] at hJ
      exact hJ _ _ _ hP hD hS (lv_sub hl [0, 1] rfl)
  · skip
    exact k_iret C0 () hP hD hS (pf_X5_delimiterWidth_0 x y x_1 ex_1) dX5_delimiterWidth_24

set_option maxHeartbeats 1500000 in
set_option maxRecDepth 100000 in
theorem c_X5_stepOf (l : Launch) (D : va_G) (cI : ClassId) (x : Int32) (y : Int32) : KD l D cI yX5_stepOf wsX5_stepOf ({ frames := 2, cells := 0, slots := 0, locals := 41 }) [.int x, .int y] [] [] (stp x y) := by
  refine KI.of (cc := cX5_stepOf) (nL := 3) (ret := (some .int)) (by decide) rfl (Nat.le_of_ble_eq_true rfl) ?_
  intro pg9 en9 s m args below meth cd9 A ls C0 hP hD hS hl
  have hx := C0.1.1
  have hb := C0.1.2.1
  have hml := C0.1.2.2.1
  have hown : s.vm.findClass RX5 = some m.cls := C0.1.2.2.2.1
  have hts : ∀ w ∈ wsX5_stepOf, w.before args s = true := C0.1.2.2.2.2
  have hK := C0.2.2.2.1
  have hl : lv_has ls 3 [(0, .int x), (1, .int y)] := hl
  have hP : va_P D vwCl [] s.heap := hP
  refine lv_iconst (v := 0) hx hb dX5_stepOf_0 (by decide) ?_
  refine lv_istore_n (lv' := [(2, .int 0), (0, .int x), (1, .int y)]) hx hb dX5_stepOf_1 rfl hl (by decide) rfl (fun ls hl => ?_)
  refine lpW (nL := 3) (A := A) (D := D) (fun z : Nat => []) (fun z : Nat => [(2, .int (nI z)), (0, .int x), (1, .int y)]) (fun z : Nat => z ≤ 4 ∧ ∀ j, j < z → stc x y j) (fun z : Nat => 4 - z) 0 hP hD hS (lv_sub hl [0, 1, 2] rfl) ⟨Nat.zero_le _, fun j h => absurd h (Nat.not_lt_zero j)⟩ ?_
  intro i H locs ls hP hD hS hl hf ih
  have hl : lv_has ls 3 [(2, .int (nI i)), (0, .int x), (1, .int y)] := hl
  have hf : i ≤ 4 ∧ ∀ j, j < i → stc x y j := hf
  obtain ⟨hi, hc⟩ := hf
  refine lv_iload_n hx hb dX5_stepOf_2 rfl (lv_at hl 0 rfl) ?_
  refine lv_iconst (v := 4) hx hb dX5_stepOf_3 (by decide) ?_
  refine lv_icmp_ge (tgt := 28) hx hb dX5_stepOf_4 (by decide) (fun c_4 => ?_) (fun c_4 => ?_)
  · skip
    refine lv_iload_n hx hb dX5_stepOf_28 rfl (lv_at hl 0 rfl) ?_
    exact k_iret C0 () hP hD hS (stp_of hi hc (Or.inl (by have h4 : ¬ i < 4 := (fun q => nI_ge (a := i) (b := 4) q (by omega) c_4); omega))) dX5_stepOf_29
  · skip
    have hlt : i < 4 := Nat.not_le.mp (fun q => c_4 (nI_le (a := 4) q (by omega)))
    refine lv_bipush (v := 10) hx hb dX5_stepOf_7 (by decide) ?_
    refine lv_iload_n hx hb dX5_stepOf_9 rfl (lv_at hl 0 rfl) ?_
    refine lv_iload_n hx hb dX5_stepOf_10 rfl (lv_at hl 2 rfl) ?_
    refine kcS (ans := (tal (nI i) y)) C0 hP hS (c_X5_tall l D cI (nI i) y ) (va_cwS 2 hts gX5_stepOf_X5_tall rfl rfl rfl (by decide +kernel) ⟨Nat.le_of_ble_eq_true rfl, Nat.le_of_ble_eq_true rfl⟩) rfl hl.1 rfl (Nat.le_of_ble_eq_true rfl) dX5_stepOf_11 ⟨Nat.zero_le _, Nat.zero_le _⟩ (fun H locs hP hS => ?_)
    refine lv_imul hx hb dX5_stepOf_14 ?_
    refine lv_bipush (v := 9) hx hb dX5_stepOf_15 (by decide) ?_
    refine lv_iload_n hx hb dX5_stepOf_17 rfl (lv_at hl 1 rfl) ?_
    refine lv_imul hx hb dX5_stepOf_18 ?_
    refine lv_icmp_ge (tgt := 28) hx hb dX5_stepOf_19 (by decide) (fun c_19 => ?_) (fun c_19 => ?_)
    · skip
      refine lv_iload_n hx hb dX5_stepOf_28 rfl (lv_at hl 0 rfl) ?_
      exact k_iret C0 () hP hD hS (stp_of hi hc (Or.inr (by simpa [stc] using c_19))) dX5_stepOf_29
    · skip
      have c_19n : stc x y i := (by simpa [stc] using c_19)
      refine lv_iinc (v := (nI (i + 1))) (lv' := [(2, .int (nI (i + 1))), (0, .int x), (1, .int y)]) hx hb dX5_stepOf_22 hl (k := 0) rfl (k_inc i) (by decide) rfl (fun ls hl => ?_)
      refine lv_goto (tgt := 2) hx hb dX5_stepOf_25 (by decide) ?_
      exact ih (i + 1) _ _ _ hP hD hS (lv_sub hl [0, 1, 2] rfl) ⟨by have := hlt; omega, fun j h => (by rcases (show j < i ∨ j = i by omega) with q | q; exact hc j q; subst q; exact c_19n)⟩ (by have := hlt; omega)
