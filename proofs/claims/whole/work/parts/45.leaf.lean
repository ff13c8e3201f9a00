set_option maxHeartbeats 1500000 in
theorem pf_X4_isKind_0 (x : Int32)  (x_1 : Int32) (ex_1 : x_1 = (if x < 0 then (0 : Int32) else (if 8 ≤ x then (0 : Int32) else (1 : Int32)))) : x_1 = bI (0 ≤ x ∧ x < 8) := by
  subst_vars <;> simp only [bI] <;> (repeat' split) <;> first | (with_reducible rfl) | (simp_all; done) | (simp only [i_lt, i_le, i_eq, tI0, tI1, tI2, tI3, tI4, tI5, tI6, tI7, tI8, tI9, tI10, tI11, tI12, tI13, tI14, tI15, tI16, tI30, tI120, tI255, tI256, tI1000, tIm1] at * <;> omega)
set_option maxHeartbeats 1500000 in
theorem pf_X4_isKind_1 (x : Int32)  (x_1 : Int32) (ex_1 : x_1 = (if x < 0 then (0 : Int32) else (if 8 ≤ x then (0 : Int32) else (1 : Int32)))) : narrow .boolean (.int x_1) = .int x_1 := by
  subst_vars; (repeat' split) <;> rfl
set_option maxHeartbeats 1500000 in
set_option maxRecDepth 100000 in
theorem c_X4_isKind (l : Launch) (D : va_G) (cI : ClassId) (x : Int32) : KD l D cI yX4_isKind wsX4_isKind ({ frames := 0, cells := 0, slots := 0, locals := 0 }) [.int x] [] [] (bI (0 ≤ x ∧ x < 8)) := by
  refine KI.of (cc := cX4_isKind) (nL := 1) (ret := (some .boolean)) (by decide) rfl (Nat.le_of_ble_eq_true rfl) ?_
  intro pg9 en9 s m args below meth cd9 A ls C0 hP hD hS hl
  have hx := C0.1.1
  have hb := C0.1.2.1
  have hml := C0.1.2.2.1
  have hown : s.vm.findClass RX4 = some m.cls := C0.1.2.2.2.1
  have hts : ∀ w ∈ wsX4_isKind, w.before args s = true := C0.1.2.2.2.2
  have hK := C0.2.2.2.1
  have hl : lv_has ls 1 [(0, .int x)] := hl
  have hP : va_P D vwCl [] s.heap := hP
  refine lv_iload_n hx hb dX4_isKind_0 rfl (lv_at hl 0 rfl) ?_
  obtain ⟨x_1, ex_1⟩ : ∃ zz_ : Int32, zz_ = (if x < 0 then (0 : Int32) else (if 8 ≤ x then (0 : Int32) else (1 : Int32))) := ⟨_, rfl⟩
  refine jW (D := D) hD hl 15 [] [(0, .int x)] [.int x_1] (fun hJ => ?_) (fun H locs ls hP hD hS hl => ?_)
  · skip
    refine lv_if_lt (tgt := 14) hx hb dX4_isKind_1 (by decide) (fun c_1 => ?_) (fun c_1 => ?_)
    · skip
      refine lv_iconst (v := 0) hx hb dX4_isKind_14 (by decide) ?_
      have gx_1 : x_1 = 0 := by rw [ex_1]; simp only [if_pos c_1]
      simp only [gx_1] at hJ
      exact hJ _ _ _ hP hD hS (lv_sub hl [0] rfl)
    · skip
      refine lv_iload_n hx hb dX4_isKind_4 rfl (lv_at hl 0 rfl) ?_
      refine lv_bipush (v := 8) hx hb dX4_isKind_5 (by decide) ?_
      refine lv_icmp_ge (tgt := 14) hx hb dX4_isKind_7 (by decide) (fun c_7 => ?_) (fun c_7 => ?_)
      · skip
        refine lv_iconst (v := 0) hx hb dX4_isKind_14 (by decide) ?_
        have gx_1 : x_1 = 0 := by rw [ex_1]; simp only [if_neg c_1, if_pos c_7]
        simp only [gx_1] at hJ
        exact hJ _ _ _ hP hD hS (lv_sub hl [0] rfl)
      · skip
        refine lv_iconst (v := 1) hx hb dX4_isKind_10 (by decide) ?_
        refine lv_goto (tgt := 15) hx hb dX4_isKind_11 (by decide) ?_
        have gx_1 : x_1 = 1 := by rw [ex_1]; simp only [if_neg c_1, if_neg c_7]
        simp only [gx_1] at hJ
        exact hJ _ _ _ hP hD hS (lv_sub hl [0] rfl)
  · skip
    exact k_zret C0 () hP hD hS (pf_X4_isKind_1 x x_1 ex_1) (pf_X4_isKind_0 x x_1 ex_1) dX4_isKind_15

set_option maxHeartbeats 1500000 in
theorem pf_X4_isBalanced_0 (x : Int32) (y : Int32)  (x_1 : Int32) (ex_1 : x_1 = (if x = y then (if x = 0 then (0 : Int32) else (1 : Int32)) else (if x = 0 then (1 : Int32) else (if y = 0 then (1 : Int32) else (0 : Int32))))) : x_1 = bI ((x = y ∧ ¬ x = 0) ∨ (¬ x = y ∧ (x = 0 ∨ y = 0))) := by
  subst_vars <;> simp only [bI] <;> (repeat' split) <;> first | (with_reducible rfl) | (simp_all; done) | (simp only [i_lt, i_le, i_eq, tI0, tI1, tI2, tI3, tI4, tI5, tI6, tI7, tI8, tI9, tI10, tI11, tI12, tI13, tI14, tI15, tI16, tI30, tI120, tI255, tI256, tI1000, tIm1] at * <;> omega)
set_option maxHeartbeats 1500000 in
theorem pf_X4_isBalanced_1 (x : Int32) (y : Int32)  (x_1 : Int32) (ex_1 : x_1 = (if x = y then (if x = 0 then (0 : Int32) else (1 : Int32)) else (if x = 0 then (1 : Int32) else (if y = 0 then (1 : Int32) else (0 : Int32))))) : narrow .boolean (.int x_1) = .int x_1 := by
  subst_vars; (repeat' split) <;> rfl
set_option maxHeartbeats 1500000 in
set_option maxRecDepth 100000 in
theorem c_X4_isBalanced (l : Launch) (D : va_G) (cI : ClassId) (x : Int32) (y : Int32) : KD l D cI yX4_isBalanced wsX4_isBalanced ({ frames := 0, cells := 0, slots := 0, locals := 0 }) [.int x, .int y] [] [] (bI ((x = y ∧ ¬ x = 0) ∨ (¬ x = y ∧ (x = 0 ∨ y = 0)))) := by
  refine KI.of (cc := cX4_isBalanced) (nL := 2) (ret := (some .boolean)) (by decide) rfl (Nat.le_of_ble_eq_true rfl) ?_
  intro pg9 en9 s m args below meth cd9 A ls C0 hP hD hS hl
  have hx := C0.1.1
  have hb := C0.1.2.1
  have hml := C0.1.2.2.1
  have hown : s.vm.findClass RX4 = some m.cls := C0.1.2.2.2.1
  have hts : ∀ w ∈ wsX4_isBalanced, w.before args s = true := C0.1.2.2.2.2
  have hK := C0.2.2.2.1
  have hl : lv_has ls 2 [(0, .int x), (1, .int y)] := hl
  have hP : va_P D vwCl [] s.heap := hP
  refine lv_iload_n hx hb dX4_isBalanced_0 rfl (lv_at hl 0 rfl) ?_
  refine lv_iload_n hx hb dX4_isBalanced_1 rfl (lv_at hl 1 rfl) ?_
  obtain ⟨x_1, ex_1⟩ : ∃ zz_ : Int32, zz_ = (if x = y then (if x = 0 then (0 : Int32) else (1 : Int32)) else (if x = 0 then (1 : Int32) else (if y = 0 then (1 : Int32) else (0 : Int32)))) := ⟨_, rfl⟩
  refine jW (D := D) hD hl 30 [] [(0, .int x), (1, .int y)] [.int x_1] (fun hJ => ?_) (fun H locs ls hP hD hS hl => ?_)
  · skip
    refine lv_icmp_ne (tgt := 17) hx hb dX4_isBalanced_2 (by decide) (fun c_2 => ?_) (fun c_2 => ?_)
    · skip
      refine lv_iload_n hx hb dX4_isBalanced_17 rfl (lv_at hl 0 rfl) ?_
      refine lv_if_eq (tgt := 25) hx hb dX4_isBalanced_18 (by decide) (fun c_18 => ?_) (fun c_18 => ?_)
      · skip
        refine lv_iconst (v := 1) hx hb dX4_isBalanced_25 (by decide) ?_
        refine lv_goto (tgt := 30) hx hb dX4_isBalanced_26 (by decide) ?_
        have gx_1 : x_1 = 1 := by rw [ex_1]; simp only [if_neg c_2, if_pos c_18]
        simp only [gx_1] at hJ
        exact hJ _ _ _ hP hD hS (lv_sub hl [0, 1] rfl)
      · skip
        refine lv_iload_n hx hb dX4_isBalanced_21 rfl (lv_at hl 1 rfl) ?_
        refine lv_if_ne (tgt := 29) hx hb dX4_isBalanced_22 (by decide) (fun c_22 => ?_) (fun c_22 => ?_)
        · skip
          refine lv_iconst (v := 0) hx hb dX4_isBalanced_29 (by decide) ?_
          have gx_1 : x_1 = 0 := by rw [ex_1]; simp only [if_neg c_2, if_neg c_18, if_neg c_22]
          simp only [gx_1] at hJ
          exact hJ _ _ _ hP hD hS (lv_sub hl [0, 1] rfl)
        · skip
          refine lv_iconst (v := 1) hx hb dX4_isBalanced_25 (by decide) ?_
          refine lv_goto (tgt := 30) hx hb dX4_isBalanced_26 (by decide) ?_
          have gx_1 : x_1 = 1 := by rw [ex_1]; simp only [if_neg c_2, if_neg c_18, if_pos c_22]
          simp only [gx_1] at hJ
          exact hJ _ _ _ hP hD hS (lv_sub hl [0, 1] rfl)
    · skip
      refine lv_iload_n hx hb dX4_isBalanced_5 rfl (lv_at hl 0 rfl) ?_
      refine lv_if_eq (tgt := 13) hx hb dX4_isBalanced_6 (by decide) (fun c_6 => ?_) (fun c_6 => ?_)
      · skip
        refine lv_iconst (v := 0) hx hb dX4_isBalanced_13 (by decide) ?_
        refine lv_goto (tgt := 30) hx hb dX4_isBalanced_14 (by decide) ?_
        have gx_1 : x_1 = 0 := by rw [ex_1]; simp only [if_pos c_2, if_pos c_6]
        simp only [gx_1] at hJ
        exact hJ _ _ _ hP hD hS (lv_sub hl [0, 1] rfl)
      · skip
        refine lv_iconst (v := 1) hx hb dX4_isBalanced_9 (by decide) ?_
        refine lv_goto (tgt := 30) hx hb dX4_isBalanced_10 (by decide) ?_
        have gx_1 : x_1 = 1 := by rw [ex_1]; simp only [if_pos c_2, if_neg c_6]
        simp only [gx_1] at hJ
        exact hJ _ _ _ hP hD hS (lv_sub hl [0, 1] rfl)
  · skip
    exact k_zret C0 () hP hD hS (pf_X4_isBalanced_1 x y x_1 ex_1) (pf_X4_isBalanced_0 x y x_1 ex_1) dX4_isBalanced_30

set_option maxHeartbeats 1500000 in
theorem pf_X4_unit_0 (x : Int32)  (x_1 : Int32) (ex_1 : x_1 = (if 1 < x then (if x = 2 then (7 : Int32) else (5 : Int32)) else (10 : Int32))) : x_1 = uni x := by
  subst_vars <;> simp only [uni] <;> (repeat' split) <;> first | (with_reducible rfl) | (simp_all; done) | (simp only [i_lt, i_le, i_eq, tI0, tI1, tI2, tI3, tI4, tI5, tI6, tI7, tI8, tI9, tI10, tI11, tI12, tI13, tI14, tI15, tI16, tI30, tI120, tI255, tI256, tI1000, tIm1] at * <;> omega)
set_option maxHeartbeats 1500000 in
set_option maxRecDepth 100000 in
theorem c_X4_unit (l : Launch) (D : va_G) (cI : ClassId) (x : Int32) : KD l D cI yX4_unit wsX4_unit ({ frames := 0, cells := 0, slots := 0, locals := 0 }) [.int x] [] [] (uni x) := by
  refine KI.of (cc := cX4_unit) (nL := 1) (ret := (some .int)) (by decide) rfl (Nat.le_of_ble_eq_true rfl) ?_
  intro pg9 en9 s m args below meth cd9 A ls C0 hP hD hS hl
  have hx := C0.1.1
  have hb := C0.1.2.1
  have hml := C0.1.2.2.1
  have hown : s.vm.findClass RX4 = some m.cls := C0.1.2.2.2.1
  have hts : ∀ w ∈ wsX4_unit, w.before args s = true := C0.1.2.2.2.2
  have hK := C0.2.2.2.1
  have hl : lv_has ls 1 [(0, .int x)] := hl
  have hP : va_P D vwCl [] s.heap := hP
  refine lv_iload_n hx hb dX4_unit_0 rfl (lv_at hl 0 rfl) ?_
  refine lv_iconst (v := 1) hx hb dX4_unit_1 (by decide) ?_
  obtain ⟨x_1, ex_1⟩ : ∃ zz_ : Int32, zz_ = (if 1 < x then (if x = 2 then (7 : Int32) else (5 : Int32)) else (10 : Int32)) := ⟨_, rfl⟩
  refine jW (D := D) hD hl 21 [] [(0, .int x)] [.int x_1] (fun hJ => ?_) (fun H locs ls hP hD hS hl => ?_)
  · skip
    refine lv_icmp_gt (tgt := 10) hx hb dX4_unit_2 (by decide) (fun c_2 => ?_) (fun c_2 => ?_)
    · skip
      refine lv_iload_n hx hb dX4_unit_10 rfl (lv_at hl 0 rfl) ?_
      refine lv_iconst (v := 2) hx hb dX4_unit_11 (by decide) ?_
      refine lv_icmp_ne (tgt := 20) hx hb dX4_unit_12 (by decide) (fun c_12 => ?_) (fun c_12 => ?_)
      · skip
        refine lv_iconst (v := 5) hx hb dX4_unit_20 (by decide) ?_
        have gx_1 : x_1 = 5 := by rw [ex_1]; simp only [if_pos c_2, if_neg c_12]
        simp only [gx_1] at hJ
        exact hJ _ _ _ hP hD hS (lv_sub hl [0] rfl)
      · skip
        refine lv_bipush (v := 7) hx hb dX4_unit_15 (by decide) ?_
        refine lv_goto (tgt := 21) hx hb dX4_unit_17 (by decide) ?_
        have gx_1 : x_1 = 7 := by rw [ex_1]; simp only [if_pos c_2, if_pos c_12]
        simp only [gx_1] at hJ
        exact hJ _ _ _ hP hD hS (lv_sub hl [0] rfl)
    · skip
      refine lv_bipush (v := 10) hx hb dX4_unit_5 (by decide) ?_
      refine lv_goto (tgt := 21) hx hb dX4_unit_7 (by decide) ?_
      have gx_1 : x_1 = 10 := by rw [ex_1]; simp only [if_neg c_2]
      simp only [gx_1] at hJ
      exact hJ _ _ _ hP hD hS (lv_sub hl [0] rfl)
  · skip
    exact k_iret C0 () hP hD hS (pf_X4_unit_0 x x_1 ex_1) dX4_unit_21

set_option maxHeartbeats 1500000 in
set_option maxRecDepth 100000 in
theorem c_X4_axis (l : Launch) (D : va_G) (cI : ClassId) (x : Int32) : KD l D cI yX4_axis wsX4_axis ({ frames := 1, cells := 0, slots := 0, locals := 20 }) [.int x] [] [] (2 * uni x) := by
  refine KI.of (cc := cX4_axis) (nL := 1) (ret := (some .int)) (by decide) rfl (Nat.le_of_ble_eq_true rfl) ?_
  intro pg9 en9 s m args below meth cd9 A ls C0 hP hD hS hl
  have hx := C0.1.1
  have hb := C0.1.2.1
  have hml := C0.1.2.2.1
  have hown : s.vm.findClass RX4 = some m.cls := C0.1.2.2.2.1
  have hts : ∀ w ∈ wsX4_axis, w.before args s = true := C0.1.2.2.2.2
  have hK := C0.2.2.2.1
  have hl : lv_has ls 1 [(0, .int x)] := hl
  have hP : va_P D vwCl [] s.heap := hP
  refine lv_iconst (v := 2) hx hb dX4_axis_0 (by decide) ?_
  refine lv_iload_n hx hb dX4_axis_1 rfl (lv_at hl 0 rfl) ?_
  refine kcS (ans := (uni x)) C0 hP hS (c_X4_unit l D cI x ) (va_cwS 1 hts gX4_axis_X4_unit rfl rfl rfl (by decide +kernel) ⟨Nat.le_of_ble_eq_true rfl, Nat.le_of_ble_eq_true rfl⟩) rfl hl.1 rfl (Nat.le_of_ble_eq_true rfl) dX4_axis_2 ⟨Nat.zero_le _, Nat.zero_le _⟩ (fun H locs hP hS => ?_)
  refine lv_imul hx hb dX4_axis_5 ?_
  exact k_iret C0 () hP hD hS rfl dX4_axis_6

set_option maxHeartbeats 1500000 in
set_option maxRecDepth 100000 in
theorem c_X4_spaceUnits (l : Launch) (D : va_G) (cI : ClassId) (x : Int32) (y : Int32) (z : Int32) : KD l D cI yX4_spaceUnits wsX4_spaceUnits ({ frames := 1, cells := 0, slots := 0, locals := 20 }) [.int x, .int y, .int z] [] [] (spU x y z) := by
  refine KI.of (cc := cX4_spaceUnits) (nL := 4) (ret := (some .int)) (by decide) rfl (Nat.le_of_ble_eq_true rfl) ?_
  intro pg9 en9 s m args below meth cd9 A ls C0 hP hD hS hl
  have hx := C0.1.1
  have hb := C0.1.2.1
  have hml := C0.1.2.2.1
  have hown : s.vm.findClass RX4 = some m.cls := C0.1.2.2.2.1
  have hts : ∀ w ∈ wsX4_spaceUnits, w.before args s = true := C0.1.2.2.2.2
  have hK := C0.2.2.2.1
  have hSt : ∃ t : Nat, va_Z RX4 "SPACES" "[I" (.ref t) A s s.heap ∧ va_T .int t 64 (fun j => .int (spT.getD j 0)) A s s.heap := C0.2.2.2.2.2.2.1
  obtain ⟨tS, hZs, hTs⟩ := hSt
  have hf200 : (Cond.fieldLink RX4 200 "FormulaLists" "SPACES" "[I").before args s = true := hts _ (by decide +kernel)
  have hl : lv_has ls 4 [(0, .int x), (1, .int y), (2, .int z)] := hl
  have hP : va_P D vwCl [] s.heap := hP
  refine lv_iload_n hx hb dX4_spaceUnits_0 rfl (lv_at hl 0 rfl) ?_
  refine kcS (ans := (bI (0 ≤ x ∧ x < 8))) C0 hP hS (c_X4_isKind l D cI x ) (va_cwS 1 hts gX4_spaceUnits_X4_isKind rfl rfl rfl (by decide +kernel) ⟨Nat.le_of_ble_eq_true rfl, Nat.le_of_ble_eq_true rfl⟩) rfl hl.1 rfl (Nat.le_of_ble_eq_true rfl) dX4_spaceUnits_1 ⟨Nat.zero_le _, Nat.zero_le _⟩ (fun H locs hP hS => ?_)
  refine lv_if_eq (tgt := 14) hx hb dX4_spaceUnits_4 (by decide) (fun c_4 => ?_) (fun c_4 => ?_)
  · skip
    refine lv_iconst (v := 0) hx hb dX4_spaceUnits_14 (by decide) ?_
    exact k_iret C0 () hP hD hS (by rw [spU, if_neg (fun q => bI_z.mp c_4 q.1)]) dX4_spaceUnits_15
  · skip
    refine lv_iload_n hx hb dX4_spaceUnits_7 rfl (lv_at hl 1 rfl) ?_
    refine kcS (ans := (bI (0 ≤ y ∧ y < 8))) C0 hP hS (c_X4_isKind l D cI y ) (va_cwS 1 hts gX4_spaceUnits_X4_isKind rfl rfl rfl (by decide +kernel) ⟨Nat.le_of_ble_eq_true rfl, Nat.le_of_ble_eq_true rfl⟩) rfl hl.1 rfl (Nat.le_of_ble_eq_true rfl) dX4_spaceUnits_8 ⟨Nat.zero_le _, Nat.zero_le _⟩ (fun H locs hP hS => ?_)
    refine lv_if_ne (tgt := 16) hx hb dX4_spaceUnits_11 (by decide) (fun c_11 => ?_) (fun c_11 => ?_)
    · skip
      obtain ⟨hi9, hsp⟩ := spT_at (bI_nz.mp c_4) (bI_nz.mp c_11)
      refine va_gets hx hb hZs hS hown hf200 (fun _ h9 => h9) dX4_spaceUnits_16 ?_
      refine lv_iload_n hx hb dX4_spaceUnits_19 rfl (lv_at hl 0 rfl) ?_
      refine lv_bipush (v := 8) hx hb dX4_spaceUnits_20 (by decide) ?_
      refine lv_imul hx hb dX4_spaceUnits_22 ?_
      refine lv_iload_n hx hb dX4_spaceUnits_23 rfl (lv_at hl 1 rfl) ?_
      refine lv_iadd hx hb dX4_spaceUnits_24 ?_
      refine lv_eqi hi9.1 ?_
      refine va_ti (v := .int (spT.getD (8 * x.toNatClampNeg + y.toNatClampNeg) 0)) hx hb hTs hS (vp_in_nI (n := (8 * x.toNatClampNeg + y.toNatClampNeg)) (by omega) (by decide)) (by rw [nI_clamp (by omega)]) dX4_spaceUnits_25 ?_
      refine lv_eqi hsp ?_
      refine lv_istore_n (lv' := [(3, .int (ltr x y)), (0, .int x), (1, .int y), (2, .int z)]) hx hb dX4_spaceUnits_26 rfl hl (by decide) rfl (fun ls hl => ?_)
      refine lv_iload_n hx hb dX4_spaceUnits_27 rfl (lv_at hl 0 rfl) ?_
      refine lv_iconst (v := 1) hx hb dX4_spaceUnits_28 (by decide) ?_
      refine lv_icmp_gt (tgt := 34) hx hb dX4_spaceUnits_29 (by decide) (fun c_29 => ?_) (fun c_29 => ?_)
      · skip
        refine lv_iload_n hx hb dX4_spaceUnits_34 rfl (lv_at hl 3 rfl) ?_
        refine lv_iconst (v := 1) hx hb dX4_spaceUnits_35 (by decide) ?_
        refine lv_icmp_gt (tgt := 45) hx hb dX4_spaceUnits_36 (by decide) (fun c_36 => ?_) (fun c_36 => ?_)
        · skip
          refine lv_iconst (v := 0) hx hb dX4_spaceUnits_45 (by decide) ?_
          exact k_iret C0 () hP hD hS (by rw [spU, if_pos ⟨bI_nz.mp c_4, bI_nz.mp c_11⟩, if_neg (Int32.not_le.mpr c_29), if_neg (Int32.not_le.mpr c_36)]) dX4_spaceUnits_46
        · skip
          refine lv_iload_n hx hb dX4_spaceUnits_39 rfl (lv_at hl 0 rfl) ?_
          refine lv_iconst (v := 1) hx hb dX4_spaceUnits_40 (by decide) ?_
          refine lv_isub hx hb dX4_spaceUnits_41 ?_
          refine lv_goto (tgt := 46) hx hb dX4_spaceUnits_42 (by decide) ?_
          exact k_iret C0 () hP hD hS (by rw [spU, if_pos ⟨bI_nz.mp c_4, bI_nz.mp c_11⟩, if_neg (Int32.not_le.mpr c_29), if_pos (Int32.not_lt.mp c_36)]) dX4_spaceUnits_46
      · skip
        refine lv_iload_n hx hb dX4_spaceUnits_32 rfl (lv_at hl 0 rfl) ?_
        exact k_iret C0 () hP hD hS (by rw [spU, if_pos ⟨bI_nz.mp c_4, bI_nz.mp c_11⟩, if_pos (Int32.not_lt.mp c_29)]) dX4_spaceUnits_33
    · skip
      refine lv_iconst (v := 0) hx hb dX4_spaceUnits_14 (by decide) ?_
      exact k_iret C0 () hP hD hS (by rw [spU, if_neg (fun q => bI_z.mp c_11 q.2)]) dX4_spaceUnits_15

set_option maxHeartbeats 1500000 in
set_option maxRecDepth 100000 in
theorem c_X3_stepHeight (l : Launch) (D : va_G) (cI : ClassId) (x : Int32) (y : Int32) : KD l D cI yX3_stepHeight wsX3_stepHeight ({ frames := 0, cells := 0, slots := 0, locals := 0 }) [.int x, .int y] [] [] (x * (6 + 4 * y)) := by
  refine KI.of (cc := cX3_stepHeight) (nL := 2) (ret := (some .int)) (by decide) rfl (Nat.le_of_ble_eq_true rfl) ?_
  intro pg9 en9 s m args below meth cd9 A ls C0 hP hD hS hl
  have hx := C0.1.1
  have hb := C0.1.2.1
  have hml := C0.1.2.2.1
  have hown : s.vm.findClass RX3 = some m.cls := C0.1.2.2.2.1
  have hts : ∀ w ∈ wsX3_stepHeight, w.before args s = true := C0.1.2.2.2.2
  have hK := C0.2.2.2.1
  have hl : lv_has ls 2 [(0, .int x), (1, .int y)] := hl
  have hP : va_P D vwCl [] s.heap := hP
  refine lv_iload_n hx hb dX3_stepHeight_0 rfl (lv_at hl 0 rfl) ?_
  refine lv_bipush (v := 6) hx hb dX3_stepHeight_1 (by decide) ?_
  refine lv_iconst (v := 4) hx hb dX3_stepHeight_3 (by decide) ?_
  refine lv_iload_n hx hb dX3_stepHeight_4 rfl (lv_at hl 1 rfl) ?_
  refine lv_imul hx hb dX3_stepHeight_5 ?_
  refine lv_iadd hx hb dX3_stepHeight_6 ?_
  refine lv_imul hx hb dX3_stepHeight_7 ?_
  exact k_iret C0 () hP hD hS rfl dX3_stepHeight_8

set_option maxHeartbeats 1500000 in
theorem pf_X3_reaches_0 (x : Int32) (y : Int32) (z : Int32)  (x_1 : Int32) (ex_1 : x_1 = (if (10 * (x * (6 + 4 * y))) < (9 * z) then (0 : Int32) else (1 : Int32))) : x_1 = bI (9 * z ≤ 10 * (x * (6 + 4 * y))) := by
  subst_vars; simp only [bI]; (repeat' split) <;> first | rfl | (exfalso; simp only [i_lt, i_le] at *; omega)
set_option maxHeartbeats 1500000 in
theorem pf_X3_reaches_1 (x : Int32) (y : Int32) (z : Int32)  (x_1 : Int32) (ex_1 : x_1 = (if (10 * (x * (6 + 4 * y))) < (9 * z) then (0 : Int32) else (1 : Int32))) : narrow .boolean (.int x_1) = .int x_1 := by
  subst_vars; (repeat' split) <;> rfl
set_option maxHeartbeats 1500000 in
set_option maxRecDepth 100000 in
theorem c_X3_reaches (l : Launch) (D : va_G) (cI : ClassId) (x : Int32) (y : Int32) (z : Int32) : KD l D cI yX3_reaches wsX3_reaches ({ frames := 1, cells := 0, slots := 0, locals := 21 }) [.int x, .int y, .int z] [] [] (bI (9 * z ≤ 10 * (x * (6 + 4 * y)))) := by
  refine KI.of (cc := cX3_reaches) (nL := 3) (ret := (some .boolean)) (by decide) rfl (Nat.le_of_ble_eq_true rfl) ?_
  intro pg9 en9 s m args below meth cd9 A ls C0 hP hD hS hl
  have hx := C0.1.1
  have hb := C0.1.2.1
  have hml := C0.1.2.2.1
  have hown : s.vm.findClass RX3 = some m.cls := C0.1.2.2.2.1
  have hts : ∀ w ∈ wsX3_reaches, w.before args s = true := C0.1.2.2.2.2
  have hK := C0.2.2.2.1
  have hl : lv_has ls 3 [(0, .int x), (1, .int y), (2, .int z)] := hl
  have hP : va_P D vwCl [] s.heap := hP
  refine lv_bipush (v := 10) hx hb dX3_reaches_0 (by decide) ?_
  refine lv_iload_n hx hb dX3_reaches_2 rfl (lv_at hl 0 rfl) ?_
  refine lv_iload_n hx hb dX3_reaches_3 rfl (lv_at hl 1 rfl) ?_
  refine kcS (ans := (x * (6 + 4 * y))) C0 hP hS (c_X3_stepHeight l D cI x y ) (va_cwS 2 hts gX3_reaches_X3_stepHeight rfl rfl rfl (by decide +kernel) ⟨Nat.le_of_ble_eq_true rfl, Nat.le_of_ble_eq_true rfl⟩) rfl hl.1 rfl (Nat.le_of_ble_eq_true rfl) dX3_reaches_4 ⟨Nat.zero_le _, Nat.zero_le _⟩ (fun H locs hP hS => ?_)
  refine lv_imul hx hb dX3_reaches_7 ?_
  refine lv_bipush (v := 9) hx hb dX3_reaches_8 (by decide) ?_
  refine lv_iload_n hx hb dX3_reaches_10 rfl (lv_at hl 2 rfl) ?_
  refine lv_imul hx hb dX3_reaches_11 ?_
  obtain ⟨x_1, ex_1⟩ : ∃ zz_ : Int32, zz_ = (if (10 * (x * (6 + 4 * y))) < (9 * z) then (0 : Int32) else (1 : Int32)) := ⟨_, rfl⟩
  refine jW (D := D) hD hl 20 [] [(0, .int x), (1, .int y), (2, .int z)] [.int x_1] (fun hJ => ?_) (fun H locs ls hP hD hS hl => ?_)
  · skip
    refine lv_icmp_lt (tgt := 19) hx hb dX3_reaches_12 (by decide) (fun c_12 => ?_) (fun c_12 => ?_)
    · skip
      refine lv_iconst (v := 0) hx hb dX3_reaches_19 (by decide) ?_
      have gx_1 : x_1 = 0 := by rw [ex_1]; simp only [if_pos c_12]
      simp only [gx_1] at hJ
      exact hJ _ _ _ hP hD hS (lv_sub hl [0, 1, 2] rfl)
    · skip
      refine lv_iconst (v := 1) hx hb dX3_reaches_15 (by decide) ?_
      refine lv_goto (tgt := 20) hx hb dX3_reaches_16 (by decide) ?_
      have gx_1 : x_1 = 1 := by rw [ex_1]; simp only [if_neg c_12]
      simp only [gx_1] at hJ
      exact hJ _ _ _ hP hD hS (lv_sub hl [0, 1, 2] rfl)
  · skip
    exact k_zret C0 () hP hD hS (pf_X3_reaches_1 x y z x_1 ex_1) (pf_X3_reaches_0 x y z x_1 ex_1) dX3_reaches_20

set_option maxHeartbeats 1500000 in
theorem pf_X3_isBigOperator_0 (a : Nat → Nat) (v : Nat → Int32) (r : Nat → Nat → Int32) (n : Nat) (x : Int32) (hn : n < 120) (x_1 : Int32) (ex_1 : x_1 = (if ((r 4) n) = 1 then (if x = 0 then (1 : Int32) else (0 : Int32)) else (0 : Int32))) : x_1 = bI (r 4 n = 1 ∧ x = 0) := by
  subst_vars <;> simp only [bI] <;> (repeat' split) <;> first | (with_reducible rfl) | (simp_all; done) | (simp only [i_lt, i_le, i_eq, tI0, tI1, tI2, tI3, tI4, tI5, tI6, tI7, tI8, tI9, tI10, tI11, tI12, tI13, tI14, tI15, tI16, tI30, tI120, tI255, tI256, tI1000, tIm1] at * <;> omega)
set_option maxHeartbeats 1500000 in
theorem pf_X3_isBigOperator_1 (a : Nat → Nat) (v : Nat → Int32) (r : Nat → Nat → Int32) (n : Nat) (x : Int32) (hn : n < 120) (x_1 : Int32) (ex_1 : x_1 = (if ((r 4) n) = 1 then (if x = 0 then (1 : Int32) else (0 : Int32)) else (0 : Int32))) : narrow .boolean (.int x_1) = .int x_1 := by
  subst_vars; (repeat' split) <;> rfl
set_option maxHeartbeats 1500000 in
set_option maxRecDepth 100000 in
theorem c_X3_isBigOperator (l : Launch) (D : va_G) (cI : ClassId) (a : Nat → Nat) (v : Nat → Int32) (r : Nat → Nat → Int32) (n : Nat) (x : Int32) (hn : n < 120) : KD l D cI yX3_isBigOperator wsX3_isBigOperator ({ frames := 0, cells := 0, slots := 0, locals := 0 }) [.ref (a 20), .int (nI n), .int x] (wX cI a v r) (wX cI a v r) (bI (r 4 n = 1 ∧ x = 0)) := by
  refine KI.of (cc := cX3_isBigOperator) (nL := 3) (ret := (some .boolean)) (by decide) rfl (Nat.le_of_ble_eq_true rfl) ?_
  intro pg9 en9 s m args below meth cd9 A ls C0 hP hD hS hl
  have hx := C0.1.1
  have hb := C0.1.2.1
  have hml := C0.1.2.2.1
  have hown : s.vm.findClass RX3 = some m.cls := C0.1.2.2.2.1
  have hts : ∀ w ∈ wsX3_isBigOperator, w.before args s = true := C0.1.2.2.2.2
  have hK := C0.2.2.2.1
  have hin_X3 : ∀ w ∈ wsX30, w ∈ wsX3_isBigOperator := fun w h => List.mem_cons_of_mem _ (List.mem_append_left _ (List.mem_append_right _ h))
  have hf35 : (Cond.fieldLink RX3 35 "FormulaLists$Layout" "book" "LFormulaLists$Book;").before args s = true := hts _ (by decide +kernel)
  have hin_X0 : ∀ w ∈ wsX00, w ∈ wsX3_isBigOperator := fun w h => List.mem_cons_of_mem _ (List.mem_append_right _ h)
  have hf127 : (Cond.fieldLink RX3 127 "FormulaLists$Book" "ownKind" "[I").before args s = true := hts _ (by decide +kernel)
  have hl : lv_has ls 3 [(0, .ref (a 20)), (1, .int (nI n)), (2, .int x)] := hl
  have hP : va_P D vwCl (wX cI a v r) s.heap := hP
  refine lv_aload_n hx hb dX3_isBigOperator_0 rfl (lv_at hl 0 rfl) ?_
  refine va_get (D := D) (ci := 3) (v := .ref (a 1)) (C := RX3) (T := TX3) (N := 6) hx hb hts hin_X3 hown hK hP 20 rfl rfl 0 (by decide) hf35 (fun _ h9 => h9) rfl dX3_isBigOperator_1 ?_
  refine va_get (D := D) (ci := 0) (v := .ref (a 4)) (C := RX0) (T := TX0) (N := 14) hx hb hts hin_X0 hown hK hP 1 rfl rfl 5 (by decide) hf127 (fun _ h9 => h9) rfl dX3_isBigOperator_4 ?_
  refine lv_iload_n hx hb dX3_isBigOperator_7 rfl (lv_at hl 1 rfl) ?_
  refine ra_ld (f := (r 4)) C0 hP 4 rfl n rfl (by omega) (by decide) dX3_isBigOperator_8 ?_
  refine lv_iconst (v := 1) hx hb dX3_isBigOperator_9 (by decide) ?_
  obtain ⟨x_1, ex_1⟩ : ∃ zz_ : Int32, zz_ = (if ((r 4) n) = 1 then (if x = 0 then (1 : Int32) else (0 : Int32)) else (0 : Int32)) := ⟨_, rfl⟩
  refine jW (D := D) hD hl 22 (wX cI a v r) [(0, .ref (a 20)), (1, .int (nI n)), (2, .int x)] [.int x_1] (fun hJ => ?_) (fun H locs ls hP hD hS hl => ?_)
  · skip
    refine lv_icmp_ne (tgt := 21) hx hb dX3_isBigOperator_10 (by decide) (fun c_10 => ?_) (fun c_10 => ?_)
    · skip
      refine lv_iconst (v := 0) hx hb dX3_isBigOperator_21 (by decide) ?_
      have gx_1 : x_1 = 0 := by rw [ex_1]; simp only [if_neg c_10]
      simp only [gx_1] at hJ
      exact hJ _ _ _ hP hD hS (lv_sub hl [0, 1, 2] rfl)
    · skip
      refine lv_iload_n hx hb dX3_isBigOperator_13 rfl (lv_at hl 2 rfl) ?_
      refine lv_if_ne (tgt := 21) hx hb dX3_isBigOperator_14 (by decide) (fun c_14 => ?_) (fun c_14 => ?_)
      · skip
        refine lv_iconst (v := 0) hx hb dX3_isBigOperator_21 (by decide) ?_
        have gx_1 : x_1 = 0 := by rw [ex_1]; simp only [if_pos c_10, if_neg c_14]
        simp only [gx_1] at hJ
        exact hJ _ _ _ hP hD hS (lv_sub hl [0, 1, 2] rfl)
      · skip
        refine lv_iconst (v := 1) hx hb dX3_isBigOperator_17 (by decide) ?_
        refine lv_goto (tgt := 22) hx hb dX3_isBigOperator_18 (by decide) ?_
        have gx_1 : x_1 = 1 := by rw [ex_1]; simp only [if_pos c_10, if_pos c_14]
        simp only [gx_1] at hJ
        exact hJ _ _ _ hP hD hS (lv_sub hl [0, 1, 2] rfl)
  · skip
    exact k_zret C0 () hP hD hS (pf_X3_isBigOperator_1 a v r n x hn x_1 ex_1) (pf_X3_isBigOperator_0 a v r n x hn x_1 ex_1) dX3_isBigOperator_22

set_option maxHeartbeats 1500000 in
set_option maxRecDepth 100000 in
theorem c_X3_cellAt (l : Launch) (D : va_G) (cI : ClassId) (a : Nat → Nat) (v : Nat → Int32) (r : Nat → Nat → Int32) (n k F K : Nat) (hn : n < 120) (hF : r 7 n = nI F) (hkc : v 3 = nI K) (hK3 : K ≤ 30) (hk : F + k < K) : KD l D cI yX3_cellAt wsX3_cellAt ({ frames := 0, cells := 0, slots := 0, locals := 0 }) [.ref (a 20), .int (nI n), .int (nI k)] (wX cI a v r) (wX cI a v r) (r 11 (F + k)) := by
  refine KI.of (cc := cX3_cellAt) (nL := 4) (ret := (some .int)) (by decide) rfl (Nat.le_of_ble_eq_true rfl) ?_
  intro pg9 en9 s m args below meth cd9 A ls C0 hP hD hS hl
  have hx := C0.1.1
  have hb := C0.1.2.1
  have hml := C0.1.2.2.1
  have hown : s.vm.findClass RX3 = some m.cls := C0.1.2.2.2.1
  have hts : ∀ w ∈ wsX3_cellAt, w.before args s = true := C0.1.2.2.2.2
  have hK := C0.2.2.2.1
  have hin_X3 : ∀ w ∈ wsX30, w ∈ wsX3_cellAt := fun w h => List.mem_cons_of_mem _ (List.mem_append_left _ (List.mem_append_right _ h))
  have hf35 : (Cond.fieldLink RX3 35 "FormulaLists$Layout" "book" "LFormulaLists$Book;").before args s = true := hts _ (by decide +kernel)
  have hin_X0 : ∀ w ∈ wsX00, w ∈ wsX3_cellAt := fun w h => List.mem_cons_of_mem _ (List.mem_append_right _ h)
  have hf68 : (Cond.fieldLink RX3 68 "FormulaLists$Book" "first" "[I").before args s = true := hts _ (by decide +kernel)
  have hf212 : (Cond.fieldLink RX3 212 "FormulaLists$Book" "cellCount" "I").before args s = true := hts _ (by decide +kernel)
  have hf215 : (Cond.fieldLink RX3 215 "FormulaLists$Book" "cells" "[I").before args s = true := hts _ (by decide +kernel)
  have hl : lv_has ls 4 [(0, .ref (a 20)), (1, .int (nI n)), (2, .int (nI k))] := hl
  have hP : va_P D vwCl (wX cI a v r) s.heap := hP
  refine lv_aload_n hx hb dX3_cellAt_0 rfl (lv_at hl 0 rfl) ?_
  refine va_get (D := D) (ci := 3) (v := .ref (a 1)) (C := RX3) (T := TX3) (N := 6) hx hb hts hin_X3 hown hK hP 20 rfl rfl 0 (by decide) hf35 (fun _ h9 => h9) rfl dX3_cellAt_1 ?_
  refine va_get (D := D) (ci := 0) (v := .ref (a 7)) (C := RX0) (T := TX0) (N := 14) hx hb hts hin_X0 hown hK hP 1 rfl rfl 8 (by decide) hf68 (fun _ h9 => h9) rfl dX3_cellAt_4 ?_
  refine lv_iload_n hx hb dX3_cellAt_7 rfl (lv_at hl 1 rfl) ?_
  refine ra_ld (f := (r 7)) C0 hP 7 rfl n rfl (by omega) (by decide) dX3_cellAt_8 ?_
  refine lv_eqi hF ?_
  refine lv_iload_n hx hb dX3_cellAt_9 rfl (lv_at hl 2 rfl) ?_
  refine lv_iadd hx hb dX3_cellAt_10 ?_
  refine lv_eqi (nI_add F k) ?_
  refine lv_istore_n (lv' := [(3, .int (nI (F + k))), (0, .ref (a 20)), (1, .int (nI n)), (2, .int (nI k))]) hx hb dX3_cellAt_11 rfl hl (by decide) rfl (fun ls hl => ?_)
  refine lv_iload_n hx hb dX3_cellAt_12 rfl (lv_at hl 0 rfl) ?_
  refine lv_aload_n hx hb dX3_cellAt_13 rfl (lv_at hl 1 rfl) ?_
  refine va_get (D := D) (ci := 3) (v := .ref (a 1)) (C := RX3) (T := TX3) (N := 6) hx hb hts hin_X3 hown hK hP 20 rfl rfl 0 (by decide) hf35 (fun _ h9 => h9) rfl dX3_cellAt_14 ?_
  refine va_get (D := D) (ci := 0) (v := .int (v 3)) (C := RX0) (T := TX0) (N := 14) hx hb hts hin_X0 hown hK hP 1 rfl rfl 13 (by decide) hf212 (fun _ h9 => h9) rfl dX3_cellAt_17 ?_
  refine lv_eqi hkc ?_
  refine lv_icmp_ge (tgt := 35) hx hb dX3_cellAt_20 (by decide) (fun c_20 => absurd c_20 (nI_ge hk (by omega))) (fun c_20 => ?_)
  refine lv_aload_n hx hb dX3_cellAt_23 rfl (lv_at hl 1 rfl) ?_
  refine va_get (D := D) (ci := 3) (v := .ref (a 1)) (C := RX3) (T := TX3) (N := 6) hx hb hts hin_X3 hown hK hP 20 rfl rfl 0 (by decide) hf35 (fun _ h9 => h9) rfl dX3_cellAt_24 ?_
  refine va_get (D := D) (ci := 0) (v := .ref (a 11)) (C := RX0) (T := TX0) (N := 14) hx hb hts hin_X0 hown hK hP 1 rfl rfl 12 (by decide) hf215 (fun _ h9 => h9) rfl dX3_cellAt_27 ?_
  refine lv_iload_n hx hb dX3_cellAt_30 rfl (lv_at hl 0 rfl) ?_
  refine ra_ld (f := (r 11)) C0 hP 11 rfl (F + k) rfl (by omega) (by decide) dX3_cellAt_31 ?_
  refine lv_goto (tgt := 36) hx hb dX3_cellAt_32 (by decide) ?_
  exact k_iret C0 () hP hD hS rfl dX3_cellAt_36

set_option maxHeartbeats 1500000 in
set_option maxRecDepth 100000 in
theorem c_X3_mostInRow_14 (l : Launch) (D : va_G) (cI : ClassId) (a : Nat → Nat) (v : Nat → Int32) (r : Nat → Nat → Int32) (n F R C K i : Nat) (hn : n < 120) (hF : r 7 n = nI F) (hR : r 8 n = nI R) (hC : r 9 n = nI C) (hR5 : R ≤ 5) (hC5 : C ≤ 5) (hFR : F + R * C ≤ K) (hce : ∀ k, k < R * C → r 11 (F + k) = nI (r 11 (F + k)).toNatClampNeg ∧ (r 11 (F + k)).toNatClampNeg < 30) (hkc : v 3 = nI K) (hK3 : K ≤ 30) (hi : i < R) : KD l D cI yX3_mostInRow wsX3_mostInRow ({ frames := 1, cells := 0, slots := 0, locals := 23 }) [.ref (a 20), .int (nI n), .int (nI i), .ref (a 14)] (wX cI a v r) (wX cI a v r) (mrF (r 14) (fun k => (r 11 (F + (i * C + k))).toNatClampNeg) C) := by
  refine KI.of (cc := cX3_mostInRow) (nL := 7) (ret := (some .int)) (by decide) rfl (Nat.le_of_ble_eq_true rfl) ?_
  intro pg9 en9 s m args below meth cd9 A ls C0 hP hD hS hl
  have hx := C0.1.1
  have hb := C0.1.2.1
  have hml := C0.1.2.2.1
  have hown : s.vm.findClass RX3 = some m.cls := C0.1.2.2.2.1
  have hts : ∀ w ∈ wsX3_mostInRow, w.before args s = true := C0.1.2.2.2.2
  have hK := C0.2.2.2.1
  have hin_X3 : ∀ w ∈ wsX30, w ∈ wsX3_mostInRow := fun w h => List.mem_cons_of_mem _ (List.mem_append_left _ (List.mem_append_right _ h))
  have hf35 : (Cond.fieldLink RX3 35 "FormulaLists$Layout" "book" "LFormulaLists$Book;").before args s = true := hts _ (by decide +kernel)
  have hin_X0 : ∀ w ∈ wsX00, w ∈ wsX3_mostInRow := fun w h => List.mem_cons_of_mem _ (List.mem_append_right _ h)
  have hf170 : (Cond.fieldLink RX3 170 "FormulaLists$Book" "third" "[I").before args s = true := hts _ (by decide +kernel)
  have hl : lv_has ls 7 [(0, .ref (a 20)), (1, .int (nI n)), (2, .int (nI i)), (3, .ref (a 14))] := hl
  have hP : va_P D vwCl (wX cI a v r) s.heap := hP
  refine lv_aload_n hx hb dX3_mostInRow_0 rfl (lv_at hl 0 rfl) ?_
  refine va_get (D := D) (ci := 3) (v := .ref (a 1)) (C := RX3) (T := TX3) (N := 6) hx hb hts hin_X3 hown hK hP 20 rfl rfl 0 (by decide) hf35 (fun _ h9 => h9) rfl dX3_mostInRow_1 ?_
  refine va_get (D := D) (ci := 0) (v := .ref (a 9)) (C := RX0) (T := TX0) (N := 14) hx hb hts hin_X0 hown hK hP 1 rfl rfl 10 (by decide) hf170 (fun _ h9 => h9) rfl dX3_mostInRow_4 ?_
  refine lv_iload_n hx hb dX3_mostInRow_7 rfl (lv_at hl 1 rfl) ?_
  refine ra_ld (f := (r 9)) C0 hP 9 rfl n rfl (by omega) (by decide) dX3_mostInRow_8 ?_
  refine lv_eqi hC ?_
  refine lv_istore (lv' := [(4, .int (nI C)), (0, .ref (a 20)), (1, .int (nI n)), (2, .int (nI i)), (3, .ref (a 14))]) hx hb dX3_mostInRow_9 hl (by decide) rfl (fun ls hl => ?_)
  refine lv_iconst (v := 0) hx hb dX3_mostInRow_11 (by decide) ?_
  refine lv_istore (lv' := [(5, .int 0), (4, .int (nI C)), (0, .ref (a 20)), (1, .int (nI n)), (2, .int (nI i)), (3, .ref (a 14))]) hx hb dX3_mostInRow_12 hl (by decide) rfl (fun ls hl => ?_)
  refine lv_iconst (v := 0) hx hb dX3_mostInRow_14 (by decide) ?_
  refine lv_istore (lv' := [(6, .int 0), (5, .int 0), (4, .int (nI C)), (0, .ref (a 20)), (1, .int (nI n)), (2, .int (nI i)), (3, .ref (a 14))]) hx hb dX3_mostInRow_15 hl (by decide) rfl (fun ls hl => ?_)
  refine lpW (nL := 7) (A := A) (D := D) (fun z : Nat => (wX cI a v r)) (fun z : Nat => [(6, .int (nI z)), (5, .int (mrF (r 14) (fun z => (r 11 (F + (i * C + z))).toNatClampNeg) z)), (4, .int (nI C)), (0, .ref (a 20)), (1, .int (nI n)), (2, .int (nI i)), (3, .ref (a 14))]) (fun z : Nat => z ≤ C) (fun z : Nat => C - z) 0 hP hD hS (lv_sub hl [0, 1, 2, 3, 4, 5, 6] rfl) (Nat.zero_le _) ?_
  intro k H locs ls hP hD hS hl hf ih
  have hP : va_P D vwCl (wX cI a v r) H := hP
  have hD : va_D A (wX cI a v r) := hD
  have hl : lv_has ls 7 [(6, .int (nI k)), (5, .int (mrF (r 14) (fun k => (r 11 (F + (i * C + k))).toNatClampNeg) k)), (4, .int (nI C)), (0, .ref (a 20)), (1, .int (nI n)), (2, .int (nI i)), (3, .ref (a 14))] := hl
  have hf : k ≤ C := hf
  have hk1 := hf
  refine lv_iload hx hb dX3_mostInRow_17 (lv_at hl 0 rfl) ?_
  refine lv_iload hx hb dX3_mostInRow_19 (lv_at hl 2 rfl) ?_
  refine lv_icmp_ge (tgt := 51) hx hb dX3_mostInRow_21 (by decide) (fun c_21 => ?_) (fun c_21 => ?_)
  · skip
    have hkC : k = C := by have := (nI_leI (by omega) (by omega)).mp c_21; omega
    refine lv_iload hx hb dX3_mostInRow_51 (lv_at hl 1 rfl) ?_
    exact k_iret C0 () hP hD hS (by rw [hkC]) dX3_mostInRow_53
  · skip
    have hlt : k < C := Nat.not_le.mp (fun q => c_21 (nI_le q (by omega)))
    refine lv_iload hx hb dX3_mostInRow_24 (lv_at hl 1 rfl) ?_
    refine lv_aload_n hx hb dX3_mostInRow_26 rfl (lv_at hl 6 rfl) ?_
    refine lv_aload_n hx hb dX3_mostInRow_27 rfl (lv_at hl 3 rfl) ?_
    refine lv_iload_n hx hb dX3_mostInRow_28 rfl (lv_at hl 4 rfl) ?_
    refine lv_iload_n hx hb dX3_mostInRow_29 rfl (lv_at hl 5 rfl) ?_
    refine lv_iload hx hb dX3_mostInRow_30 (lv_at hl 2 rfl) ?_
    refine lv_imul hx hb dX3_mostInRow_32 ?_
    refine lv_iload hx hb dX3_mostInRow_33 (lv_at hl 0 rfl) ?_
    refine lv_iadd hx hb dX3_mostInRow_35 ?_
    refine lv_eqi (show nI i * nI C + nI k = nI (i * C + k) by rw [pk_mul, nI_add]) ?_
    refine kcD (ans := (r 11 (F + (i * C + k)))) C0 hP hD hS (c_X3_cellAt l D cI a v r n (i * C + k) F K hn hF hkc hK3 (by have := rc_lt hi hlt; omega)) (cwV 2 hts gX3_mostInRow_X3_cellAt rfl rfl rfl (by decide +kernel) ⟨Nat.le_of_ble_eq_true rfl, Nat.le_of_ble_eq_true rfl⟩) 20 3 rfl rfl rfl hl.1 rfl (Nat.le_of_ble_eq_true rfl) dX3_mostInRow_36 ⟨Nat.zero_le _, Nat.zero_le _⟩ (fun H locs hP hD hS => ?_)
    refine ra_ld (f := (r 14)) C0 hP 14 rfl ((r 11 (F + (i * C + k))).toNatClampNeg) (hce _ (rc_lt hi hlt)).1 (by have := (hce _ (rc_lt hi hlt)).2; omega) (by decide) dX3_mostInRow_39 ?_
    refine va_mmax hx hb (hml.trans hl.1.symm) hown (hts (.methodLink RX3 156 Lib.Math.max.name) (by decide +kernel)) (hts (.static Lib.Math.max.name) (by decide +kernel)) (hts (.initialized "java/lang/Math") (by decide +kernel)) (hts (.code Lib.Math.max.name Lib.Math.max.code 2 (some .int)) (by decide +kernel)) (Nat.le_of_ble_eq_true rfl) (Nat.le_of_ble_eq_true rfl) (Nat.zero_le _) (Nat.zero_le _) dX3_mostInRow_40 ?_
    refine lv_eqi (mx_lt (mrF (r 14) (fun k => (r 11 (F + (i * C + k))).toNatClampNeg) k) ((r 14) ((r 11 (F + (i * C + k))).toNatClampNeg))) ?_
    refine lv_istore (lv' := [(5, .int (mx (mrF (r 14) (fun k => (r 11 (F + (i * C + k))).toNatClampNeg) k) ((r 14) ((r 11 (F + (i * C + k))).toNatClampNeg)))), (6, .int (nI k)), (4, .int (nI C)), (0, .ref (a 20)), (1, .int (nI n)), (2, .int (nI i)), (3, .ref (a 14))]) hx hb dX3_mostInRow_43 hl (by decide) rfl (fun ls hl => ?_)
    refine lv_iinc (v := (nI (k + 1))) (lv' := [(6, .int (nI (k + 1))), (5, .int (mx (mrF (r 14) (fun k => (r 11 (F + (i * C + k))).toNatClampNeg) k) ((r 14) ((r 11 (F + (i * C + k))).toNatClampNeg)))), (4, .int (nI C)), (0, .ref (a 20)), (1, .int (nI n)), (2, .int (nI i)), (3, .ref (a 14))]) hx hb dX3_mostInRow_45 hl (k := 1) rfl (k_inc k) (by decide) rfl (fun ls hl => ?_)
    refine lv_goto (tgt := 17) hx hb dX3_mostInRow_48 (by decide) ?_
    exact ih (k + 1) _ _ _ hP hD hS (lv_sub hl [0, 1, 2, 3, 4, 5, 6] rfl) hlt (show C - (k + 1) < C - k by omega)

set_option maxHeartbeats 1500000 in
set_option maxRecDepth 100000 in
theorem c_X3_mostInRow_15 (l : Launch) (D : va_G) (cI : ClassId) (a : Nat → Nat) (v : Nat → Int32) (r : Nat → Nat → Int32) (n F R C K i : Nat) (hn : n < 120) (hF : r 7 n = nI F) (hR : r 8 n = nI R) (hC : r 9 n = nI C) (hR5 : R ≤ 5) (hC5 : C ≤ 5) (hFR : F + R * C ≤ K) (hce : ∀ k, k < R * C → r 11 (F + k) = nI (r 11 (F + k)).toNatClampNeg ∧ (r 11 (F + k)).toNatClampNeg < 30) (hkc : v 3 = nI K) (hK3 : K ≤ 30) (hi : i < R) : KD l D cI yX3_mostInRow wsX3_mostInRow ({ frames := 1, cells := 0, slots := 0, locals := 23 }) [.ref (a 20), .int (nI n), .int (nI i), .ref (a 15)] (wX cI a v r) (wX cI a v r) (mrF (r 15) (fun k => (r 11 (F + (i * C + k))).toNatClampNeg) C) := by
  refine KI.of (cc := cX3_mostInRow) (nL := 7) (ret := (some .int)) (by decide) rfl (Nat.le_of_ble_eq_true rfl) ?_
  intro pg9 en9 s m args below meth cd9 A ls C0 hP hD hS hl
  have hx := C0.1.1
  have hb := C0.1.2.1
  have hml := C0.1.2.2.1
  have hown : s.vm.findClass RX3 = some m.cls := C0.1.2.2.2.1
  have hts : ∀ w ∈ wsX3_mostInRow, w.before args s = true := C0.1.2.2.2.2
  have hK := C0.2.2.2.1
  have hin_X3 : ∀ w ∈ wsX30, w ∈ wsX3_mostInRow := fun w h => List.mem_cons_of_mem _ (List.mem_append_left _ (List.mem_append_right _ h))
  have hf35 : (Cond.fieldLink RX3 35 "FormulaLists$Layout" "book" "LFormulaLists$Book;").before args s = true := hts _ (by decide +kernel)
  have hin_X0 : ∀ w ∈ wsX00, w ∈ wsX3_mostInRow := fun w h => List.mem_cons_of_mem _ (List.mem_append_right _ h)
  have hf170 : (Cond.fieldLink RX3 170 "FormulaLists$Book" "third" "[I").before args s = true := hts _ (by decide +kernel)
  have hl : lv_has ls 7 [(0, .ref (a 20)), (1, .int (nI n)), (2, .int (nI i)), (3, .ref (a 15))] := hl
  have hP : va_P D vwCl (wX cI a v r) s.heap := hP
  refine lv_aload_n hx hb dX3_mostInRow_0 rfl (lv_at hl 0 rfl) ?_
  refine va_get (D := D) (ci := 3) (v := .ref (a 1)) (C := RX3) (T := TX3) (N := 6) hx hb hts hin_X3 hown hK hP 20 rfl rfl 0 (by decide) hf35 (fun _ h9 => h9) rfl dX3_mostInRow_1 ?_
  refine va_get (D := D) (ci := 0) (v := .ref (a 9)) (C := RX0) (T := TX0) (N := 14) hx hb hts hin_X0 hown hK hP 1 rfl rfl 10 (by decide) hf170 (fun _ h9 => h9) rfl dX3_mostInRow_4 ?_
  refine lv_iload_n hx hb dX3_mostInRow_7 rfl (lv_at hl 1 rfl) ?_
  refine ra_ld (f := (r 9)) C0 hP 9 rfl n rfl (by omega) (by decide) dX3_mostInRow_8 ?_
  refine lv_eqi hC ?_
  refine lv_istore (lv' := [(4, .int (nI C)), (0, .ref (a 20)), (1, .int (nI n)), (2, .int (nI i)), (3, .ref (a 15))]) hx hb dX3_mostInRow_9 hl (by decide) rfl (fun ls hl => ?_)
  refine lv_iconst (v := 0) hx hb dX3_mostInRow_11 (by decide) ?_
  refine lv_istore (lv' := [(5, .int 0), (4, .int (nI C)), (0, .ref (a 20)), (1, .int (nI n)), (2, .int (nI i)), (3, .ref (a 15))]) hx hb dX3_mostInRow_12 hl (by decide) rfl (fun ls hl => ?_)
  refine lv_iconst (v := 0) hx hb dX3_mostInRow_14 (by decide) ?_
  refine lv_istore (lv' := [(6, .int 0), (5, .int 0), (4, .int (nI C)), (0, .ref (a 20)), (1, .int (nI n)), (2, .int (nI i)), (3, .ref (a 15))]) hx hb dX3_mostInRow_15 hl (by decide) rfl (fun ls hl => ?_)
  refine lpW (nL := 7) (A := A) (D := D) (fun z : Nat => (wX cI a v r)) (fun z : Nat => [(6, .int (nI z)), (5, .int (mrF (r 15) (fun z => (r 11 (F + (i * C + z))).toNatClampNeg) z)), (4, .int (nI C)), (0, .ref (a 20)), (1, .int (nI n)), (2, .int (nI i)), (3, .ref (a 15))]) (fun z : Nat => z ≤ C) (fun z : Nat => C - z) 0 hP hD hS (lv_sub hl [0, 1, 2, 3, 4, 5, 6] rfl) (Nat.zero_le _) ?_
  intro k H locs ls hP hD hS hl hf ih
  have hP : va_P D vwCl (wX cI a v r) H := hP
  have hD : va_D A (wX cI a v r) := hD
  have hl : lv_has ls 7 [(6, .int (nI k)), (5, .int (mrF (r 15) (fun k => (r 11 (F + (i * C + k))).toNatClampNeg) k)), (4, .int (nI C)), (0, .ref (a 20)), (1, .int (nI n)), (2, .int (nI i)), (3, .ref (a 15))] := hl
  have hf : k ≤ C := hf
  have hk1 := hf
  refine lv_iload hx hb dX3_mostInRow_17 (lv_at hl 0 rfl) ?_
  refine lv_iload hx hb dX3_mostInRow_19 (lv_at hl 2 rfl) ?_
  refine lv_icmp_ge (tgt := 51) hx hb dX3_mostInRow_21 (by decide) (fun c_21 => ?_) (fun c_21 => ?_)
  · skip
    have hkC : k = C := by have := (nI_leI (by omega) (by omega)).mp c_21; omega
    refine lv_iload hx hb dX3_mostInRow_51 (lv_at hl 1 rfl) ?_
    exact k_iret C0 () hP hD hS (by rw [hkC]) dX3_mostInRow_53
  · skip
    have hlt : k < C := Nat.not_le.mp (fun q => c_21 (nI_le q (by omega)))
    refine lv_iload hx hb dX3_mostInRow_24 (lv_at hl 1 rfl) ?_
    refine lv_aload_n hx hb dX3_mostInRow_26 rfl (lv_at hl 6 rfl) ?_
    refine lv_aload_n hx hb dX3_mostInRow_27 rfl (lv_at hl 3 rfl) ?_
    refine lv_iload_n hx hb dX3_mostInRow_28 rfl (lv_at hl 4 rfl) ?_
    refine lv_iload_n hx hb dX3_mostInRow_29 rfl (lv_at hl 5 rfl) ?_
    refine lv_iload hx hb dX3_mostInRow_30 (lv_at hl 2 rfl) ?_
    refine lv_imul hx hb dX3_mostInRow_32 ?_
    refine lv_iload hx hb dX3_mostInRow_33 (lv_at hl 0 rfl) ?_
    refine lv_iadd hx hb dX3_mostInRow_35 ?_
    refine lv_eqi (show nI i * nI C + nI k = nI (i * C + k) by rw [pk_mul, nI_add]) ?_
    refine kcD (ans := (r 11 (F + (i * C + k)))) C0 hP hD hS (c_X3_cellAt l D cI a v r n (i * C + k) F K hn hF hkc hK3 (by have := rc_lt hi hlt; omega)) (cwV 2 hts gX3_mostInRow_X3_cellAt rfl rfl rfl (by decide +kernel) ⟨Nat.le_of_ble_eq_true rfl, Nat.le_of_ble_eq_true rfl⟩) 20 3 rfl rfl rfl hl.1 rfl (Nat.le_of_ble_eq_true rfl) dX3_mostInRow_36 ⟨Nat.zero_le _, Nat.zero_le _⟩ (fun H locs hP hD hS => ?_)
    refine ra_ld (f := (r 15)) C0 hP 15 rfl ((r 11 (F + (i * C + k))).toNatClampNeg) (hce _ (rc_lt hi hlt)).1 (by have := (hce _ (rc_lt hi hlt)).2; omega) (by decide) dX3_mostInRow_39 ?_
    refine va_mmax hx hb (hml.trans hl.1.symm) hown (hts (.methodLink RX3 156 Lib.Math.max.name) (by decide +kernel)) (hts (.static Lib.Math.max.name) (by decide +kernel)) (hts (.initialized "java/lang/Math") (by decide +kernel)) (hts (.code Lib.Math.max.name Lib.Math.max.code 2 (some .int)) (by decide +kernel)) (Nat.le_of_ble_eq_true rfl) (Nat.le_of_ble_eq_true rfl) (Nat.zero_le _) (Nat.zero_le _) dX3_mostInRow_40 ?_
    refine lv_eqi (mx_lt (mrF (r 15) (fun k => (r 11 (F + (i * C + k))).toNatClampNeg) k) ((r 15) ((r 11 (F + (i * C + k))).toNatClampNeg))) ?_
    refine lv_istore (lv' := [(5, .int (mx (mrF (r 15) (fun k => (r 11 (F + (i * C + k))).toNatClampNeg) k) ((r 15) ((r 11 (F + (i * C + k))).toNatClampNeg)))), (6, .int (nI k)), (4, .int (nI C)), (0, .ref (a 20)), (1, .int (nI n)), (2, .int (nI i)), (3, .ref (a 15))]) hx hb dX3_mostInRow_43 hl (by decide) rfl (fun ls hl => ?_)
    refine lv_iinc (v := (nI (k + 1))) (lv' := [(6, .int (nI (k + 1))), (5, .int (mx (mrF (r 15) (fun k => (r 11 (F + (i * C + k))).toNatClampNeg) k) ((r 15) ((r 11 (F + (i * C + k))).toNatClampNeg)))), (4, .int (nI C)), (0, .ref (a 20)), (1, .int (nI n)), (2, .int (nI i)), (3, .ref (a 15))]) hx hb dX3_mostInRow_45 hl (k := 1) rfl (k_inc k) (by decide) rfl (fun ls hl => ?_)
    refine lv_goto (tgt := 17) hx hb dX3_mostInRow_48 (by decide) ?_
    exact ih (k + 1) _ _ _ hP hD hS (lv_sub hl [0, 1, 2, 3, 4, 5, 6] rfl) hlt (show C - (k + 1) < C - k by omega)

set_option maxHeartbeats 1500000 in
set_option maxRecDepth 100000 in
theorem c_X3_rowHeight (l : Launch) (D : va_G) (cI : ClassId) (a : Nat → Nat) (v : Nat → Int32) (r : Nat → Nat → Int32) (n F R C K i : Nat) (hn : n < 120) (hF : r 7 n = nI F) (hR : r 8 n = nI R) (hC : r 9 n = nI C) (hR5 : R ≤ 5) (hC5 : C ≤ 5) (hFR : F + R * C ≤ K) (hce : ∀ k, k < R * C → r 11 (F + k) = nI (r 11 (F + k)).toNatClampNeg ∧ (r 11 (F + k)).toNatClampNeg < 30) (hkc : v 3 = nI K) (hK3 : K ≤ 30) (hi : i < R) : KD l D cI yX3_rowHeight wsX3_rowHeight ({ frames := 2, cells := 0, slots := 0, locals := 49 }) [.ref (a 20), .int (nI n), .int (nI i)] (wX cI a v r) (wX cI a v r) (mrF (r 14) (fun k => (r 11 (F + (i * C + k))).toNatClampNeg) C) := by
  refine KI.of (cc := cX3_rowHeight) (nL := 3) (ret := (some .int)) (by decide) rfl (Nat.le_of_ble_eq_true rfl) ?_
  intro pg9 en9 s m args below meth cd9 A ls C0 hP hD hS hl
  have hx := C0.1.1
  have hb := C0.1.2.1
  have hml := C0.1.2.2.1
  have hown : s.vm.findClass RX3 = some m.cls := C0.1.2.2.2.1
  have hts : ∀ w ∈ wsX3_rowHeight, w.before args s = true := C0.1.2.2.2.2
  have hK := C0.2.2.2.1
  have hin_X3 : ∀ w ∈ wsX30, w ∈ wsX3_rowHeight := fun w h => List.mem_cons_of_mem _ (List.mem_append_left _ (List.mem_append_left _ (List.mem_append_right _ h)))
  have hf12 : (Cond.fieldLink RX3 12 "FormulaLists$Layout" "boxes" "LFormulaLists$Boxes;").before args s = true := hts _ (by decide +kernel)
  have hin_X1 : ∀ w ∈ wsX10, w ∈ wsX3_rowHeight := fun w h => List.mem_cons_of_mem _ (List.mem_append_left _ (List.mem_append_right _ h))
  have hf49 : (Cond.fieldLink RX3 49 "FormulaLists$Boxes" "height" "[I").before args s = true := hts _ (by decide +kernel)
  have hl : lv_has ls 3 [(0, .ref (a 20)), (1, .int (nI n)), (2, .int (nI i))] := hl
  have hP : va_P D vwCl (wX cI a v r) s.heap := hP
  refine lv_aload_n hx hb dX3_rowHeight_0 rfl (lv_at hl 0 rfl) ?_
  refine lv_iload_n hx hb dX3_rowHeight_1 rfl (lv_at hl 1 rfl) ?_
  refine lv_iload_n hx hb dX3_rowHeight_2 rfl (lv_at hl 2 rfl) ?_
  refine lv_aload_n hx hb dX3_rowHeight_3 rfl (lv_at hl 0 rfl) ?_
  refine va_get (D := D) (ci := 3) (v := .ref (a 12)) (C := RX3) (T := TX3) (N := 6) hx hb hts hin_X3 hown hK hP 20 rfl rfl 1 (by decide) hf12 (fun _ h9 => h9) rfl dX3_rowHeight_4 ?_
  refine va_get (D := D) (ci := 1) (v := .ref (a 14)) (C := RX1) (T := TX1) (N := 5) hx hb hts hin_X1 hown hK hP 12 rfl rfl 1 (by decide) hf49 (fun _ h9 => h9) rfl dX3_rowHeight_7 ?_
  refine kcD (ans := (mrF (r 14) (fun k => (r 11 (F + (i * C + k))).toNatClampNeg) C)) C0 hP hD hS (c_X3_mostInRow_14 l D cI a v r n F R C K i hn hF hR hC hR5 hC5 hFR hce hkc hK3 hi) (cwV 3 hts gX3_rowHeight_X3_mostInRow rfl rfl rfl (by decide +kernel) ⟨Nat.le_of_ble_eq_true rfl, Nat.le_of_ble_eq_true rfl⟩) 20 3 rfl rfl rfl hl.1 rfl (Nat.le_of_ble_eq_true rfl) dX3_rowHeight_10 ⟨Nat.zero_le _, Nat.zero_le _⟩ (fun H locs hP hD hS => ?_)
  exact k_iret C0 () hP hD hS rfl dX3_rowHeight_13

set_option maxHeartbeats 1500000 in
set_option maxRecDepth 100000 in
theorem c_X3_rowDepth (l : Launch) (D : va_G) (cI : ClassId) (a : Nat → Nat) (v : Nat → Int32) (r : Nat → Nat → Int32) (n F R C K i : Nat) (hn : n < 120) (hF : r 7 n = nI F) (hR : r 8 n = nI R) (hC : r 9 n = nI C) (hR5 : R ≤ 5) (hC5 : C ≤ 5) (hFR : F + R * C ≤ K) (hce : ∀ k, k < R * C → r 11 (F + k) = nI (r 11 (F + k)).toNatClampNeg ∧ (r 11 (F + k)).toNatClampNeg < 30) (hkc : v 3 = nI K) (hK3 : K ≤ 30) (hi : i < R) : KD l D cI yX3_rowDepth wsX3_rowDepth ({ frames := 2, cells := 0, slots := 0, locals := 49 }) [.ref (a 20), .int (nI n), .int (nI i)] (wX cI a v r) (wX cI a v r) (mrF (r 15) (fun k => (r 11 (F + (i * C + k))).toNatClampNeg) C) := by
  refine KI.of (cc := cX3_rowDepth) (nL := 3) (ret := (some .int)) (by decide) rfl (Nat.le_of_ble_eq_true rfl) ?_
  intro pg9 en9 s m args below meth cd9 A ls C0 hP hD hS hl
  have hx := C0.1.1
  have hb := C0.1.2.1
  have hml := C0.1.2.2.1
  have hown : s.vm.findClass RX3 = some m.cls := C0.1.2.2.2.1
  have hts : ∀ w ∈ wsX3_rowDepth, w.before args s = true := C0.1.2.2.2.2
  have hK := C0.2.2.2.1
  have hin_X3 : ∀ w ∈ wsX30, w ∈ wsX3_rowDepth := fun w h => List.mem_cons_of_mem _ (List.mem_append_left _ (List.mem_append_left _ (List.mem_append_right _ h)))
  have hf12 : (Cond.fieldLink RX3 12 "FormulaLists$Layout" "boxes" "LFormulaLists$Boxes;").before args s = true := hts _ (by decide +kernel)
  have hin_X1 : ∀ w ∈ wsX10, w ∈ wsX3_rowDepth := fun w h => List.mem_cons_of_mem _ (List.mem_append_left _ (List.mem_append_right _ h))
  have hf51 : (Cond.fieldLink RX3 51 "FormulaLists$Boxes" "depth" "[I").before args s = true := hts _ (by decide +kernel)
  have hl : lv_has ls 3 [(0, .ref (a 20)), (1, .int (nI n)), (2, .int (nI i))] := hl
  have hP : va_P D vwCl (wX cI a v r) s.heap := hP
  refine lv_aload_n hx hb dX3_rowDepth_0 rfl (lv_at hl 0 rfl) ?_
  refine lv_iload_n hx hb dX3_rowDepth_1 rfl (lv_at hl 1 rfl) ?_
  refine lv_iload_n hx hb dX3_rowDepth_2 rfl (lv_at hl 2 rfl) ?_
  refine lv_aload_n hx hb dX3_rowDepth_3 rfl (lv_at hl 0 rfl) ?_
  refine va_get (D := D) (ci := 3) (v := .ref (a 12)) (C := RX3) (T := TX3) (N := 6) hx hb hts hin_X3 hown hK hP 20 rfl rfl 1 (by decide) hf12 (fun _ h9 => h9) rfl dX3_rowDepth_4 ?_
  refine va_get (D := D) (ci := 1) (v := .ref (a 15)) (C := RX1) (T := TX1) (N := 5) hx hb hts hin_X1 hown hK hP 12 rfl rfl 2 (by decide) hf51 (fun _ h9 => h9) rfl dX3_rowDepth_7 ?_
  refine kcD (ans := (mrF (r 15) (fun k => (r 11 (F + (i * C + k))).toNatClampNeg) C)) C0 hP hD hS (c_X3_mostInRow_15 l D cI a v r n F R C K i hn hF hR hC hR5 hC5 hFR hce hkc hK3 hi) (cwV 3 hts gX3_rowDepth_X3_mostInRow rfl rfl rfl (by decide +kernel) ⟨Nat.le_of_ble_eq_true rfl, Nat.le_of_ble_eq_true rfl⟩) 20 3 rfl rfl rfl hl.1 rfl (Nat.le_of_ble_eq_true rfl) dX3_rowDepth_10 ⟨Nat.zero_le _, Nat.zero_le _⟩ (fun H locs hP hD hS => ?_)
  exact k_iret C0 () hP hD hS rfl dX3_rowDepth_13

set_option maxHeartbeats 1500000 in
set_option maxRecDepth 100000 in
theorem c_X3_columnWidth (l : Launch) (D : va_G) (cI : ClassId) (a : Nat → Nat) (v : Nat → Int32) (r : Nat → Nat → Int32) (n F R C K c : Nat) (hn : n < 120) (hF : r 7 n = nI F) (hR : r 8 n = nI R) (hC : r 9 n = nI C) (hR5 : R ≤ 5) (hC5 : C ≤ 5) (hFR : F + R * C ≤ K) (hce : ∀ k, k < R * C → r 11 (F + k) = nI (r 11 (F + k)).toNatClampNeg ∧ (r 11 (F + k)).toNatClampNeg < 30) (hkc : v 3 = nI K) (hK3 : K ≤ 30) (hc : c < C) : KD l D cI yX3_columnWidth wsX3_columnWidth ({ frames := 1, cells := 0, slots := 0, locals := 23 }) [.ref (a 20), .int (nI n), .int (nI c)] (wX cI a v r) (wX cI a v r) (mrF (r 13) (fun k => (r 11 (F + (k * C + c))).toNatClampNeg) R) := by
  refine KI.of (cc := cX3_columnWidth) (nL := 7) (ret := (some .int)) (by decide) rfl (Nat.le_of_ble_eq_true rfl) ?_
  intro pg9 en9 s m args below meth cd9 A ls C0 hP hD hS hl
  have hx := C0.1.1
  have hb := C0.1.2.1
  have hml := C0.1.2.2.1
  have hown : s.vm.findClass RX3 = some m.cls := C0.1.2.2.2.1
  have hts : ∀ w ∈ wsX3_columnWidth, w.before args s = true := C0.1.2.2.2.2
  have hK := C0.2.2.2.1
  have hin_X3 : ∀ w ∈ wsX30, w ∈ wsX3_columnWidth := fun w h => List.mem_cons_of_mem _ (List.mem_append_left _ (List.mem_append_left _ (List.mem_append_right _ h)))
  have hf35 : (Cond.fieldLink RX3 35 "FormulaLists$Layout" "book" "LFormulaLists$Book;").before args s = true := hts _ (by decide +kernel)
  have hin_X0 : ∀ w ∈ wsX00, w ∈ wsX3_columnWidth := fun w h => List.mem_cons_of_mem _ (List.mem_append_left _ (List.mem_append_right _ h))
  have hf71 : (Cond.fieldLink RX3 71 "FormulaLists$Book" "second" "[I").before args s = true := hts _ (by decide +kernel)
  have hf170 : (Cond.fieldLink RX3 170 "FormulaLists$Book" "third" "[I").before args s = true := hts _ (by decide +kernel)
  have hf12 : (Cond.fieldLink RX3 12 "FormulaLists$Layout" "boxes" "LFormulaLists$Boxes;").before args s = true := hts _ (by decide +kernel)
  have hin_X1 : ∀ w ∈ wsX10, w ∈ wsX3_columnWidth := fun w h => List.mem_cons_of_mem _ (List.mem_append_right _ h)
  have hf46 : (Cond.fieldLink RX3 46 "FormulaLists$Boxes" "width" "[I").before args s = true := hts _ (by decide +kernel)
  have hl : lv_has ls 7 [(0, .ref (a 20)), (1, .int (nI n)), (2, .int (nI c))] := hl
  have hP : va_P D vwCl (wX cI a v r) s.heap := hP
  refine lv_aload_n hx hb dX3_columnWidth_0 rfl (lv_at hl 0 rfl) ?_
  refine va_get (D := D) (ci := 3) (v := .ref (a 1)) (C := RX3) (T := TX3) (N := 6) hx hb hts hin_X3 hown hK hP 20 rfl rfl 0 (by decide) hf35 (fun _ h9 => h9) rfl dX3_columnWidth_1 ?_
  refine va_get (D := D) (ci := 0) (v := .ref (a 8)) (C := RX0) (T := TX0) (N := 14) hx hb hts hin_X0 hown hK hP 1 rfl rfl 9 (by decide) hf71 (fun _ h9 => h9) rfl dX3_columnWidth_4 ?_
  refine lv_iload_n hx hb dX3_columnWidth_7 rfl (lv_at hl 1 rfl) ?_
  refine ra_ld (f := (r 8)) C0 hP 8 rfl n rfl (by omega) (by decide) dX3_columnWidth_8 ?_
  refine lv_eqi hR ?_
  refine lv_istore_n (lv' := [(3, .int (nI R)), (0, .ref (a 20)), (1, .int (nI n)), (2, .int (nI c))]) hx hb dX3_columnWidth_9 rfl hl (by decide) rfl (fun ls hl => ?_)
  refine lv_aload_n hx hb dX3_columnWidth_10 rfl (lv_at hl 1 rfl) ?_
  refine va_get (D := D) (ci := 3) (v := .ref (a 1)) (C := RX3) (T := TX3) (N := 6) hx hb hts hin_X3 hown hK hP 20 rfl rfl 0 (by decide) hf35 (fun _ h9 => h9) rfl dX3_columnWidth_11 ?_
  refine va_get (D := D) (ci := 0) (v := .ref (a 9)) (C := RX0) (T := TX0) (N := 14) hx hb hts hin_X0 hown hK hP 1 rfl rfl 10 (by decide) hf170 (fun _ h9 => h9) rfl dX3_columnWidth_14 ?_
  refine lv_iload_n hx hb dX3_columnWidth_17 rfl (lv_at hl 2 rfl) ?_
  refine ra_ld (f := (r 9)) C0 hP 9 rfl n rfl (by omega) (by decide) dX3_columnWidth_18 ?_
  refine lv_eqi hC ?_
  refine lv_istore (lv' := [(4, .int (nI C)), (3, .int (nI R)), (0, .ref (a 20)), (1, .int (nI n)), (2, .int (nI c))]) hx hb dX3_columnWidth_19 hl (by decide) rfl (fun ls hl => ?_)
  refine lv_iconst (v := 0) hx hb dX3_columnWidth_21 (by decide) ?_
  refine lv_istore (lv' := [(5, .int 0), (4, .int (nI C)), (3, .int (nI R)), (0, .ref (a 20)), (1, .int (nI n)), (2, .int (nI c))]) hx hb dX3_columnWidth_22 hl (by decide) rfl (fun ls hl => ?_)
  refine lv_iconst (v := 0) hx hb dX3_columnWidth_24 (by decide) ?_
  refine lv_istore (lv' := [(6, .int 0), (5, .int 0), (4, .int (nI C)), (3, .int (nI R)), (0, .ref (a 20)), (1, .int (nI n)), (2, .int (nI c))]) hx hb dX3_columnWidth_25 hl (by decide) rfl (fun ls hl => ?_)
  refine lpW (nL := 7) (A := A) (D := D) (fun z : Nat => (wX cI a v r)) (fun z : Nat => [(6, .int (nI z)), (5, .int (mrF (r 13) (fun z => (r 11 (F + (z * C + c))).toNatClampNeg) z)), (4, .int (nI C)), (3, .int (nI R)), (0, .ref (a 20)), (1, .int (nI n)), (2, .int (nI c))]) (fun z : Nat => z ≤ R) (fun z : Nat => R - z) 0 hP hD hS (lv_sub hl [0, 1, 2, 3, 4, 5, 6] rfl) (Nat.zero_le _) ?_
  intro k H locs ls hP hD hS hl hf ih
  have hP : va_P D vwCl (wX cI a v r) H := hP
  have hD : va_D A (wX cI a v r) := hD
  have hl : lv_has ls 7 [(6, .int (nI k)), (5, .int (mrF (r 13) (fun k => (r 11 (F + (k * C + c))).toNatClampNeg) k)), (4, .int (nI C)), (3, .int (nI R)), (0, .ref (a 20)), (1, .int (nI n)), (2, .int (nI c))] := hl
  have hf : k ≤ R := hf
  have hk1 := hf
  refine lv_iload hx hb dX3_columnWidth_27 (lv_at hl 0 rfl) ?_
  refine lv_iload_n hx hb dX3_columnWidth_29 rfl (lv_at hl 3 rfl) ?_
  refine lv_icmp_ge (tgt := 66) hx hb dX3_columnWidth_30 (by decide) (fun c_30 => ?_) (fun c_30 => ?_)
  · skip
    have hkC : k = R := by have := (nI_leI (by omega) (by omega)).mp c_30; omega
    refine lv_iload hx hb dX3_columnWidth_66 (lv_at hl 1 rfl) ?_
    exact k_iret C0 () hP hD hS (by rw [hkC]) dX3_columnWidth_68
  · skip
    have hlt : k < R := Nat.not_le.mp (fun q => c_30 (nI_le q (by omega)))
    refine lv_iload hx hb dX3_columnWidth_33 (lv_at hl 1 rfl) ?_
    refine lv_aload_n hx hb dX3_columnWidth_35 rfl (lv_at hl 4 rfl) ?_
    refine va_get (D := D) (ci := 3) (v := .ref (a 12)) (C := RX3) (T := TX3) (N := 6) hx hb hts hin_X3 hown hK hP 20 rfl rfl 1 (by decide) hf12 (fun _ h9 => h9) rfl dX3_columnWidth_36 ?_
    refine va_get (D := D) (ci := 1) (v := .ref (a 13)) (C := RX1) (T := TX1) (N := 5) hx hb hts hin_X1 hown hK hP 12 rfl rfl 0 (by decide) hf46 (fun _ h9 => h9) rfl dX3_columnWidth_39 ?_
    refine lv_aload_n hx hb dX3_columnWidth_42 rfl (lv_at hl 4 rfl) ?_
    refine lv_iload_n hx hb dX3_columnWidth_43 rfl (lv_at hl 5 rfl) ?_
    refine lv_iload hx hb dX3_columnWidth_44 (lv_at hl 0 rfl) ?_
    refine lv_iload hx hb dX3_columnWidth_46 (lv_at hl 2 rfl) ?_
    refine lv_imul hx hb dX3_columnWidth_48 ?_
    refine lv_iload_n hx hb dX3_columnWidth_49 rfl (lv_at hl 6 rfl) ?_
    refine lv_iadd hx hb dX3_columnWidth_50 ?_
    refine lv_eqi (show nI k * nI C + nI c = nI (k * C + c) by rw [pk_mul, nI_add]) ?_
    refine kcD (ans := (r 11 (F + (k * C + c)))) C0 hP hD hS (c_X3_cellAt l D cI a v r n (k * C + c) F K hn hF hkc hK3 (by have := rc_lt hlt hc; omega)) (cwV 2 hts gX3_columnWidth_X3_cellAt rfl rfl rfl (by decide +kernel) ⟨Nat.le_of_ble_eq_true rfl, Nat.le_of_ble_eq_true rfl⟩) 20 3 rfl rfl rfl hl.1 rfl (Nat.le_of_ble_eq_true rfl) dX3_columnWidth_51 ⟨Nat.zero_le _, Nat.zero_le _⟩ (fun H locs hP hD hS => ?_)
    refine ra_ld (f := (r 13)) C0 hP 13 rfl ((r 11 (F + (k * C + c))).toNatClampNeg) (hce _ (rc_lt hlt hc)).1 (by have := (hce _ (rc_lt hlt hc)).2; omega) (by decide) dX3_columnWidth_54 ?_
    refine va_mmax hx hb (hml.trans hl.1.symm) hown (hts (.methodLink RX3 156 Lib.Math.max.name) (by decide +kernel)) (hts (.static Lib.Math.max.name) (by decide +kernel)) (hts (.initialized "java/lang/Math") (by decide +kernel)) (hts (.code Lib.Math.max.name Lib.Math.max.code 2 (some .int)) (by decide +kernel)) (Nat.le_of_ble_eq_true rfl) (Nat.le_of_ble_eq_true rfl) (Nat.zero_le _) (Nat.zero_le _) dX3_columnWidth_55 ?_
    refine lv_eqi (mx_lt (mrF (r 13) (fun k => (r 11 (F + (k * C + c))).toNatClampNeg) k) ((r 13) ((r 11 (F + (k * C + c))).toNatClampNeg))) ?_
    refine lv_istore (lv' := [(5, .int (mx (mrF (r 13) (fun k => (r 11 (F + (k * C + c))).toNatClampNeg) k) ((r 13) ((r 11 (F + (k * C + c))).toNatClampNeg)))), (6, .int (nI k)), (4, .int (nI C)), (3, .int (nI R)), (0, .ref (a 20)), (1, .int (nI n)), (2, .int (nI c))]) hx hb dX3_columnWidth_58 hl (by decide) rfl (fun ls hl => ?_)
    refine lv_iinc (v := (nI (k + 1))) (lv' := [(6, .int (nI (k + 1))), (5, .int (mx (mrF (r 13) (fun k => (r 11 (F + (k * C + c))).toNatClampNeg) k) ((r 13) ((r 11 (F + (k * C + c))).toNatClampNeg)))), (4, .int (nI C)), (3, .int (nI R)), (0, .ref (a 20)), (1, .int (nI n)), (2, .int (nI c))]) hx hb dX3_columnWidth_60 hl (k := 1) rfl (k_inc k) (by decide) rfl (fun ls hl => ?_)
    refine lv_goto (tgt := 27) hx hb dX3_columnWidth_63 (by decide) ?_
    exact ih (k + 1) _ _ _ hP hD hS (lv_sub hl [0, 1, 2, 3, 4, 5, 6] rfl) hlt (show R - (k + 1) < R - k by omega)
