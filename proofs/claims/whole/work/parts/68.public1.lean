/-! THE CLASS'S PUBLIC METHODS: which exception (0: none), what is answered, the state behind it -/
def clR (r : Nat → Nat → Int32) (N : Nat) (o x0 x1 x2 x3 x4 : Int32) : Nat → Nat → Int32 := rU (rU (rU (rU (rU (rU (rU (rU r 2 (upd (r 2) N o)) 3 (upd (r 3) N x0)) 4 (upd (r 4) N x1)) 5 (upd (r 5) N (-1))) 6 (upd (r 6) N (-1))) 7 (upd (r 7) N x2)) 8 (upd (r 8) N x3)) 9 (upd (r 9) N x4)
def cA (v : Nat → Int32) (x y : Int32) : Int32 := if x = 8 then (if v 1 < 30 then 0 else 2) else if ¬ (0 ≤ x ∧ x < 8) then 1 else if y < 0 ∨ 255 < y then 1 else if v 0 < 120 then 0 else 2
def cT (v : Nat → Int32) (x : Int32) : Int32 := if x < 0 ∨ 3 < x then 1 else if v 0 < 120 then 0 else 2
def cP (x y : Int32) : Int32 := if (0 ≤ x ∧ x < 8) ∧ (0 ≤ y ∧ y < 8) then 0 else 1
def cK (r : Nat → Nat → Int32) (N : Nat) (x : Int32) : Int32 := if 0 ≤ x ∧ x < nI N ∧ ¬ r 3 x.toNatClampNeg = 4 then 0 else 1
def cR (v : Nat → Int32) (x : Int32) : Int32 := if 0 ≤ x ∧ x < v 1 then 0 else 1
def cI9 (v : Nat → Int32) (x y : Int32) : Int32 := if (x = -1 ∧ 0 ≤ y ∧ y ≤ 2) ∨ (0 ≤ x ∧ x < v 4 ∧ 0 ≤ y ∧ y < 8) then 0 else 1
def cL (v : Nat → Int32) (r : Nat → Nat → Int32) (N : Nat) (x y : Int32) : Int32 := if ¬ (0 ≤ x ∧ x < v 1) then 1 else if (rlS r x y N).2 = -1 then 2 else if v 1 < 30 then 0 else 3
def fR (r : Nat → Nat → Int32) (x o : Int32) : Prop := (¬ nI x.toNatClampNeg = 0 ∧ r 10 x.toNatClampNeg = -1) ∧ ¬ wiF (r 10) (r 2) x 30 o = true
def cS (v : Nat → Int32) (r : Nat → Nat → Int32) (N : Nat) (x y z : Int32) : Int32 := if ¬ (0 ≤ x ∧ x < nI N ∧ ¬ r 3 x.toNatClampNeg = 4) ∨ ¬ (0 ≤ z ∧ z < v 1) then 1 else if ¬ (if y = 0 then r 6 x.toNatClampNeg else r 5 x.toNatClampNeg) = -1 then 2 else if (¬ nI z.toNatClampNeg = 0 ∧ r 10 z.toNatClampNeg = -1) ∧ ¬ wiF (r 10) (r 2) z 30 (r 2 x.toNatClampNeg) = true then 0 else 2
def cF (v : Nat → Int32) (r : Nat → Nat → Int32) (x y : Int32) (z : Int64) : Int32 := if ¬ (0 ≤ x ∧ x < v 1) then 1 else if ¬ (0 ≤ y ∧ y < v 1) then 1 else if ¬ lg_cmp z 1000 ≤ 0 then 2 else if x = y then 3 else if (¬ nI x.toNatClampNeg = 0 ∧ r 10 x.toNatClampNeg = -1) ∧ ¬ wiF (r 10) (r 2) x 30 (v 2) = true then (if (¬ nI y.toNatClampNeg = 0 ∧ r 10 y.toNatClampNeg = -1) ∧ ¬ wiF (r 10) (r 2) y 30 (v 2) = true then (if v 0 < 120 then 0 else 4) else 3) else 3
def cE (v : Nat → Int32) (r : Nat → Nat → Int32) (x y z : Int32) : Int32 := if ¬ (0 ≤ y ∧ y < v 1) then 1 else if x < 0 ∨ 5 < x ∨ z < 0 ∨ 5 < z then 2 else if (¬ nI y.toNatClampNeg = 0 ∧ r 10 y.toNatClampNeg = -1) ∧ ¬ wiF (r 10) (r 2) y 30 (v 2) = true then (if v 0 < 120 then 0 else 4) else 3
theorem ls_ix {x : Int32} {v : Nat → Int32} {L : Nat} (h : 0 ≤ x ∧ x < v 1) (hL : v 1 = nI L) (hL1 : L ≤ 30) : x = nI x.toNatClampNeg ∧ x.toNatClampNeg < 30 := ix_of (N := L) (M := 30) (Int32.not_lt.mpr h.1) h.2 hL hL1 (by decide)
theorem at_ix {x : Int32} {N : Nat} {r : Nat → Nat → Int32} (h : 0 ≤ x ∧ x < nI N ∧ ¬ r 3 x.toNatClampNeg = 4) (hN1 : N ≤ 120) : x = nI x.toNatClampNeg ∧ x.toNatClampNeg < N := by
  have h1 := ix_of (N := N) (M := 120) (Int32.not_lt.mpr h.1) h.2.1 rfl hN1 (by decide)
  refine ⟨h1.1, ?_⟩
  have h2 := h.2.1
  rw [h1.1, nI_ltI (by omega) (by omega)] at h2
  exact h2
theorem nd_lt {v : Nat → Int32} {N : Nat} (h : v 0 < 120) (hN : v 0 = nI N) (hN1 : N ≤ 120) : N < 120 := by
  rw [hN] at h; exact (nI_ltI (b := 120) (by omega) (by decide)).mp h
theorem ls_lt {v : Nat → Int32} {L : Nat} (h : v 1 < 30) (hL : v 1 = nI L) (hL1 : L ≤ 30) : L < 30 := by
  rw [hL] at h; exact (nI_ltI (b := 30) (by omega) (by decide)).mp h

set_option maxHeartbeats 1500000 in
theorem pf_X4_atom_0 (a : Nat → Nat) (v : Nat → Int32) (r : Nat → Nat → Int32) (x y : Int32) (N L : Nat) (hN : v 0 = nI N) (hN1 : N ≤ 120) (hL : v 1 = nI L) (hL1 : L ≤ 30) (c_3 : ¬ (x = 8)) (c_32 : ¬ ((bI (0 ≤ x ∧ x < 8)) = 0)) (c_46 : y < 0) : cA v x y = 1 := by
  unfold cA; (repeat' split) <;> first | rfl | (exfalso; simp only [bI_z, bI_nz] at *; simp_all; done) | (exfalso; simp only [bI_z, bI_nz, i_lt, i_le, i_eq, tI0, tI1, tI2, tI3, tI4, tI5, tI6, tI7, tI8, tI9, tI10, tI11, tI12, tI13, tI14, tI15, tI16, tI30, tI120, tI255, tI256, tI1000, tIm1] at *; omega)
set_option maxHeartbeats 1500000 in
theorem pf_X4_atom_1 (a : Nat → Nat) (v : Nat → Int32) (r : Nat → Nat → Int32) (x y : Int32) (N L : Nat) (hN : v 0 = nI N) (hN1 : N ≤ 120) (hL : v 1 = nI L) (hL1 : L ≤ 30) (c_3 : ¬ (x = 8)) (c_32 : ¬ ((bI (0 ≤ x ∧ x < 8)) = 0)) (c_46 : ¬ (y < 0)) (c_53 : y ≤ 255) (hz9 : ¬ (v 0 < 120)) : cA v x y = 2 := by
  unfold cA; (repeat' split) <;> first | rfl | (exfalso; simp only [bI_z, bI_nz] at *; simp_all; done) | (exfalso; simp only [bI_z, bI_nz, i_lt, i_le, i_eq, tI0, tI1, tI2, tI3, tI4, tI5, tI6, tI7, tI8, tI9, tI10, tI11, tI12, tI13, tI14, tI15, tI16, tI30, tI120, tI255, tI256, tI1000, tIm1] at *; omega)
set_option maxHeartbeats 1500000 in
theorem pf_X4_atom_2 (a : Nat → Nat) (v : Nat → Int32) (r : Nat → Nat → Int32) (x y : Int32) (N L : Nat) (hN : v 0 = nI N) (hN1 : N ≤ 120) (hL : v 1 = nI L) (hL1 : L ≤ 30) (c_3 : ¬ (x = 8)) (c_32 : ¬ ((bI (0 ≤ x ∧ x < 8)) = 0)) (c_46 : ¬ (y < 0)) (c_53 : y ≤ 255) (hq_70 : v 0 < 120) : cA v x y = 0 := by
  unfold cA; (repeat' split) <;> first | rfl | (exfalso; simp only [bI_z, bI_nz] at *; simp_all; done) | (exfalso; simp only [bI_z, bI_nz, i_lt, i_le, i_eq, tI0, tI1, tI2, tI3, tI4, tI5, tI6, tI7, tI8, tI9, tI10, tI11, tI12, tI13, tI14, tI15, tI16, tI30, tI120, tI255, tI256, tI1000, tIm1] at *; omega)
set_option maxHeartbeats 1500000 in
theorem pf_X4_atom_3 (a : Nat → Nat) (v : Nat → Int32) (r : Nat → Nat → Int32) (x y : Int32) (N L : Nat) (hN : v 0 = nI N) (hN1 : N ≤ 120) (hL : v 1 = nI L) (hL1 : L ≤ 30) (c_3 : ¬ (x = 8)) (c_32 : ¬ ((bI (0 ≤ x ∧ x < 8)) = 0)) (c_46 : ¬ (y < 0)) (c_53 : ¬ (y ≤ 255)) : cA v x y = 1 := by
  unfold cA; (repeat' split) <;> first | rfl | (exfalso; simp only [bI_z, bI_nz] at *; simp_all; done) | (exfalso; simp only [bI_z, bI_nz, i_lt, i_le, i_eq, tI0, tI1, tI2, tI3, tI4, tI5, tI6, tI7, tI8, tI9, tI10, tI11, tI12, tI13, tI14, tI15, tI16, tI30, tI120, tI255, tI256, tI1000, tIm1] at *; omega)
set_option maxHeartbeats 1500000 in
theorem pf_X4_atom_4 (a : Nat → Nat) (v : Nat → Int32) (r : Nat → Nat → Int32) (x y : Int32) (N L : Nat) (hN : v 0 = nI N) (hN1 : N ≤ 120) (hL : v 1 = nI L) (hL1 : L ≤ 30) (c_3 : ¬ (x = 8)) (c_32 : (bI (0 ≤ x ∧ x < 8)) = 0) : cA v x y = 1 := by
  unfold cA; (repeat' split) <;> first | rfl | (exfalso; simp only [bI_z, bI_nz] at *; simp_all; done) | (exfalso; simp only [bI_z, bI_nz, i_lt, i_le, i_eq, tI0, tI1, tI2, tI3, tI4, tI5, tI6, tI7, tI8, tI9, tI10, tI11, tI12, tI13, tI14, tI15, tI16, tI30, tI120, tI255, tI256, tI1000, tIm1] at *; omega)
set_option maxHeartbeats 1500000 in
theorem pf_X4_atom_5 (a : Nat → Nat) (v : Nat → Int32) (r : Nat → Nat → Int32) (x y : Int32) (N L : Nat) (hN : v 0 = nI N) (hN1 : N ≤ 120) (hL : v 1 = nI L) (hL1 : L ≤ 30) (c_3 : x = 8) (hz9 : ¬ (v 1 < 30)) : cA v x y = 2 := by
  unfold cA; (repeat' split) <;> first | rfl | (exfalso; simp only [bI_z, bI_nz] at *; simp_all; done) | (exfalso; simp only [bI_z, bI_nz, i_lt, i_le, i_eq, tI0, tI1, tI2, tI3, tI4, tI5, tI6, tI7, tI8, tI9, tI10, tI11, tI12, tI13, tI14, tI15, tI16, tI30, tI120, tI255, tI256, tI1000, tIm1] at *; omega)
set_option maxHeartbeats 1500000 in
theorem pf_X4_atom_6 (a : Nat → Nat) (v : Nat → Int32) (r : Nat → Nat → Int32) (x y : Int32) (N L : Nat) (hN : v 0 = nI N) (hN1 : N ≤ 120) (hL : v 1 = nI L) (hL1 : L ≤ 30) (c_3 : x = 8) (hq_10 : v 1 < 30) : cA v x y = 0 := by
  unfold cA; (repeat' split) <;> first | rfl | (exfalso; simp only [bI_z, bI_nz] at *; simp_all; done) | (exfalso; simp only [bI_z, bI_nz, i_lt, i_le, i_eq, tI0, tI1, tI2, tI3, tI4, tI5, tI6, tI7, tI8, tI9, tI10, tI11, tI12, tI13, tI14, tI15, tI16, tI30, tI120, tI255, tI256, tI1000, tIm1] at *; omega)
set_option maxHeartbeats 1500000 in
set_option maxRecDepth 100000 in
theorem c_X4_atom (l : Launch) (D : va_G) (cI : ClassId) (a : Nat → Nat) (v : Nat → Int32) (r : Nat → Nat → Int32) (x y : Int32) (N L : Nat) (hst : l.stackTraces = false) (hN : v 0 = nI N) (hN1 : N ≤ 120) (hL : v 1 = nI L) (hL1 : L ≤ 30) : KX l D cI yX4_atom wsX4_atom ({ frames := 7, cells := 2, slots := 12, locals := 102 }) [.ref (a 0), .int x, .int y] (wX cI a v r) 2 12 (fun u : (Nat → Int32) × Rw => wX cI a u.1 u.2) (fun q u => cA v x y = 0 ∧ (q, u.1, u.2) = (if x = 8 then (v 1, vU (vU v 1 (v 1 + 1)) 2 (v 1), rU r 10 (upd (r 10) L (-1))) else (v 0, vU v 0 (v 0 + 1), clR r N (v 2) 0 x y 0 0))) (fun E => (cA v x y = 1 ∧ E = "java/lang/IllegalArgumentException") ∨ (cA v x y = 2 ∧ E = "java/lang/UnsupportedOperationException")) := by
  refine KX.of (cc := cX4_atom) (nL := 4) (ret := (some .int)) (by decide) rfl (Nat.le_of_ble_eq_true rfl) ?_
  intro pg9 en9 s m args below meth cd9 A ls C0 hex hP hD hS hl
  have hx := C0.1.1
  have hb := C0.1.2.1
  have hml := C0.1.2.2.1
  have hown : s.vm.findClass RX4 = some m.cls := C0.1.2.2.2.1
  have hts : ∀ w ∈ wsX4_atom, w.before args s = true := C0.1.2.2.2.2
  have hK := C0.2.2.2.1
  have hin_X4 : ∀ w ∈ wsX40, w ∈ wsX4_atom := fun w h => List.mem_cons_of_mem _ (List.mem_append_left _ (List.mem_append_left _ (List.mem_append_left _ (List.mem_append_right _ h))))
  have hf12 : (Cond.fieldLink RX4 12 "FormulaLists" "book" "LFormulaLists$Book;").before args s = true := hts _ (by decide +kernel)
  have hin_X0 : ∀ w ∈ wsX00, w ∈ wsX4_atom := fun w h => List.mem_cons_of_mem _ (List.mem_append_left _ (List.mem_append_left _ (List.mem_append_right _ h)))
  have hf32 : (Cond.fieldLink RX4 32 "FormulaLists$Book" "open" "I").before args s = true := hts _ (by decide +kernel)
  have hl : lv_has ls 4 [(0, .ref (a 0)), (1, .int x), (2, .int y)] := hl
  have hP : va_P D vwCl (wX cI a v r) s.heap := hP
  refine lv_iload_n hx hb dX4_atom_0 rfl (lv_at hl 1 rfl) ?_
  refine lv_bipush (v := 8) hx hb dX4_atom_1 (by decide) ?_
  refine lv_icmp_ne (tgt := 28) hx hb dX4_atom_3 (by decide) (fun c_3 => ?_) (fun c_3 => ?_)
  · skip
    refine lv_iload_n hx hb dX4_atom_28 rfl (lv_at hl 1 rfl) ?_
    refine kcS (ans := (bI (0 ≤ x ∧ x < 8))) C0 hP hS (c_X4_isKind l D cI x ) (va_cwS 1 hts gX4_atom_X4_isKind rfl rfl rfl (by decide +kernel) ⟨Nat.le_of_ble_eq_true rfl, Nat.le_of_ble_eq_true rfl⟩) rfl hl.1 rfl (Nat.le_of_ble_eq_true rfl) dX4_atom_29 ⟨Nat.le_of_ble_eq_true rfl, Nat.le_of_ble_eq_true rfl⟩ (fun H locs hP hS => ?_)
    refine lv_if_ne (tgt := 45) hx hb dX4_atom_32 (by decide) (fun c_32 => ?_) (fun c_32 => ?_)
    · skip
      refine lv_iload_n hx hb dX4_atom_45 rfl (lv_at hl 2 rfl) ?_
      refine lv_if_lt (tgt := 56) hx hb dX4_atom_46 (by decide) (fun c_46 => ?_) (fun c_46 => ?_)
      · skip
        exact kx_throw (cls := "java/lang/IllegalArgumentException") (text := "no such sign") C0 hex hst hP hD hS hl.1 (by decide) (by decide +kernel) (by decide +kernel) (by decide) (fun w h => List.mem_cons_of_mem _ (List.mem_append_left _ (List.mem_append_right _ h))) tno_44 tgd_44 dX4_atom_56 dX4_atom_59 dX4_atom_60 dX4_atom_62 dX4_atom_65 (Nat.le_of_ble_eq_true rfl) (Nat.le_of_ble_eq_true rfl) (Nat.le_of_ble_eq_true rfl) (Nat.le_of_ble_eq_true rfl) (Nat.le_of_ble_eq_true rfl) (Nat.le_of_ble_eq_true rfl) (Or.inl ⟨(pf_X4_atom_0 a v r x y N L hN hN1 hL hL1 c_3 c_32 c_46), rfl⟩)
      · skip
        refine lv_iload_n hx hb dX4_atom_49 rfl (lv_at hl 2 rfl) ?_
        refine lv_sipush (v := 255) hx hb dX4_atom_50 (by decide) ?_
        refine lv_icmp_le (tgt := 66) hx hb dX4_atom_53 (by decide) (fun c_53 => ?_) (fun c_53 => ?_)
        · skip
          refine lv_aload_n hx hb dX4_atom_66 rfl (lv_at hl 0 rfl) ?_
          refine kcXv C0 hex hP hD hS (c_X4_needRoomForNode l D cI a v r   hst ) (cwV 0 hts gX4_atom_X4_needRoomForNode rfl rfl rfl (by decide +kernel) ⟨Nat.le_of_ble_eq_true rfl, Nat.le_of_ble_eq_true rfl⟩) 0 4 rfl rfl rfl hl.1 rfl (Nat.le_of_ble_eq_true rfl) dX4_atom_67 ⟨Nat.le_of_ble_eq_true rfl, Nat.le_of_ble_eq_true rfl⟩ (Nat.le_of_ble_eq_true rfl) (Nat.le_of_ble_eq_true rfl) (fun E h9 => (Or.inr ⟨(pf_X4_atom_1 a v r x y N L hN hN1 hL hL1 c_3 c_32 c_46 c_53 h9.2), h9.1⟩)) (fun _ H locs hq hP hD hS => ?_)
          have hq_70 : v 0 < 120 := hq
          have hP : va_P D vwCl (wX cI a v r) H := hP
          have hD : va_D A (wX cI a v r) := hD
          refine lv_aload_n hx hb dX4_atom_70 rfl (lv_at hl 0 rfl) ?_
          refine va_get (D := D) (ci := 4) (v := .ref (a 1)) (C := RX4) (T := TX4) (N := 2) hx hb hts hin_X4 hown hK hP 0 rfl rfl 0 (by decide) hf12 (fun _ h9 => h9) rfl dX4_atom_71 ?_
          refine lv_iconst (v := 0) hx hb dX4_atom_74 (by decide) ?_
          refine lv_iload_n hx hb dX4_atom_75 rfl (lv_at hl 1 rfl) ?_
          refine lv_iload_n hx hb dX4_atom_76 rfl (lv_at hl 2 rfl) ?_
          refine lv_iconst (v := 0) hx hb dX4_atom_77 (by decide) ?_
          refine lv_iconst (v := 0) hx hb dX4_atom_78 (by decide) ?_
          refine kcD (ans := (v 0)) C0 hP hD hS (c_X0_addNode l D cI a v r 0 x y 0 0 N hN (nd_lt hq_70 hN hN1)) (cwV 5 hts gX4_atom_X0_addNode rfl rfl rfl (by decide +kernel) ⟨Nat.le_of_ble_eq_true rfl, Nat.le_of_ble_eq_true rfl⟩) 1 0 rfl rfl rfl hl.1 rfl (Nat.le_of_ble_eq_true rfl) dX4_atom_79 ⟨Nat.le_of_ble_eq_true rfl, Nat.le_of_ble_eq_true rfl⟩ (fun H locs hP hD hS => ?_)
          have hP : va_P D vwCl (wX cI a (vU v 0 ((v 0) + 1)) (clR r N (v 2) 0 x y 0 0)) H := hP
          have hD : va_D A (wX cI a (vU v 0 ((v 0) + 1)) (clR r N (v 2) 0 x y 0 0)) := hD
          exact kx_iret C0 ((vU v 0 ((v 0) + 1)), (clR r N (v 2) 0 x y 0 0)) hP hD hS ⟨(pf_X4_atom_2 a v r x y N L hN hN1 hL hL1 c_3 c_32 c_46 c_53 hq_70), (by rw [if_neg c_3])⟩ (Nat.le_of_ble_eq_true rfl) (Nat.le_of_ble_eq_true rfl) dX4_atom_82
        · skip
          exact kx_throw (cls := "java/lang/IllegalArgumentException") (text := "no such sign") C0 hex hst hP hD hS hl.1 (by decide) (by decide +kernel) (by decide +kernel) (by decide) (fun w h => List.mem_cons_of_mem _ (List.mem_append_left _ (List.mem_append_right _ h))) tno_44 tgd_44 dX4_atom_56 dX4_atom_59 dX4_atom_60 dX4_atom_62 dX4_atom_65 (Nat.le_of_ble_eq_true rfl) (Nat.le_of_ble_eq_true rfl) (Nat.le_of_ble_eq_true rfl) (Nat.le_of_ble_eq_true rfl) (Nat.le_of_ble_eq_true rfl) (Nat.le_of_ble_eq_true rfl) (Or.inl ⟨(pf_X4_atom_3 a v r x y N L hN hN1 hL hL1 c_3 c_32 c_46 c_53), rfl⟩)
    · skip
      exact kx_throw (cls := "java/lang/IllegalArgumentException") (text := "no such kind") C0 hex hst hP hD hS hl.1 (by decide) (by decide +kernel) (by decide +kernel) (by decide) (fun w h => List.mem_cons_of_mem _ (List.mem_append_left _ (List.mem_append_right _ h))) tno_44 tgd_44 dX4_atom_35 dX4_atom_38 dX4_atom_39 dX4_atom_41 dX4_atom_44 (Nat.le_of_ble_eq_true rfl) (Nat.le_of_ble_eq_true rfl) (Nat.le_of_ble_eq_true rfl) (Nat.le_of_ble_eq_true rfl) (Nat.le_of_ble_eq_true rfl) (Nat.le_of_ble_eq_true rfl) (Or.inl ⟨(pf_X4_atom_4 a v r x y N L hN hN1 hL hL1 c_3 c_32), rfl⟩)
  · skip
    refine lv_aload_n hx hb dX4_atom_6 rfl (lv_at hl 0 rfl) ?_
    refine kcXv C0 hex hP hD hS (c_X4_needRoomForList l D cI a v r   hst ) (cwV 0 hts gX4_atom_X4_needRoomForList rfl rfl rfl (by decide +kernel) ⟨Nat.le_of_ble_eq_true rfl, Nat.le_of_ble_eq_true rfl⟩) 0 4 rfl rfl rfl hl.1 rfl (Nat.le_of_ble_eq_true rfl) dX4_atom_7 ⟨Nat.le_of_ble_eq_true rfl, Nat.le_of_ble_eq_true rfl⟩ (Nat.le_of_ble_eq_true rfl) (Nat.le_of_ble_eq_true rfl) (fun E h9 => (Or.inr ⟨(pf_X4_atom_5 a v r x y N L hN hN1 hL hL1 c_3 h9.2), h9.1⟩)) (fun _ H locs hq hP hD hS => ?_)
    have hq_10 : v 1 < 30 := hq
    have hP : va_P D vwCl (wX cI a v r) H := hP
    have hD : va_D A (wX cI a v r) := hD
    refine lv_aload_n hx hb dX4_atom_10 rfl (lv_at hl 0 rfl) ?_
    refine va_get (D := D) (ci := 4) (v := .ref (a 1)) (C := RX4) (T := TX4) (N := 2) hx hb hts hin_X4 hown hK hP 0 rfl rfl 0 (by decide) hf12 (fun _ h9 => h9) rfl dX4_atom_11 ?_
    refine kcD (ans := (v 1)) C0 hP hD hS (c_X0_beginList l D cI a v r L hL (ls_lt hq_10 hL hL1)) (cwV 0 hts gX4_atom_X0_beginList rfl rfl rfl (by decide +kernel) ⟨Nat.le_of_ble_eq_true rfl, Nat.le_of_ble_eq_true rfl⟩) 1 0 rfl rfl rfl hl.1 rfl (Nat.le_of_ble_eq_true rfl) dX4_atom_14 ⟨Nat.le_of_ble_eq_true rfl, Nat.le_of_ble_eq_true rfl⟩ (fun H locs hP hD hS => ?_)
    have hP : va_P D vwCl (wX cI a (vU v 1 ((v 1) + 1)) (rU r 10 (upd (r 10) L (-1)))) H := hP
    have hD : va_D A (wX cI a (vU v 1 ((v 1) + 1)) (rU r 10 (upd (r 10) L (-1)))) := hD
    refine lv_istore_n (lv' := [(3, .int (v 1)), (0, .ref (a 0)), (1, .int x), (2, .int y)]) hx hb dX4_atom_17 rfl hl (by decide) rfl (fun ls hl => ?_)
    refine lv_aload_n hx hb dX4_atom_18 rfl (lv_at hl 1 rfl) ?_
    refine va_get (D := D) (ci := 4) (v := .ref (a 1)) (C := RX4) (T := TX4) (N := 2) hx hb hts hin_X4 hown hK hP 0 rfl rfl 0 (by decide) hf12 (fun _ h9 => h9) rfl dX4_atom_19 ?_
    refine lv_iload_n hx hb dX4_atom_22 rfl (lv_at hl 0 rfl) ?_
    refine va_put (D := D) (ci := 0) (v := .int (v 1)) (ty := .int) (C := RX0) (T := TX0) (N := 14) hx hb hts hin_X0 tyX0 tyX0_ok nmX0 hown hK hP hD hS 1 rfl rfl 2 (by decide) hf32 (fun _ h9 => h9) rfl (by decide +kernel) rfl rfl (Nat.le_of_ble_eq_true rfl) dX4_atom_23 (fun H locs hP hD hS => ?_)
    have hP : va_P D vwCl (wX cI a (vU (vU v 1 ((v 1) + 1)) 2 (v 1)) (rU r 10 (upd (r 10) L (-1)))) H := hP
    have hD : va_D A (wX cI a (vU (vU v 1 ((v 1) + 1)) 2 (v 1)) (rU r 10 (upd (r 10) L (-1)))) := hD
    refine lv_iload_n hx hb dX4_atom_26 rfl (lv_at hl 0 rfl) ?_
    exact kx_iret C0 ((vU (vU v 1 ((v 1) + 1)) 2 (v 1)), (rU r 10 (upd (r 10) L (-1)))) hP hD hS ⟨(pf_X4_atom_6 a v r x y N L hN hN1 hL hL1 c_3 hq_10), (by rw [if_pos c_3])⟩ (Nat.le_of_ble_eq_true rfl) (Nat.le_of_ble_eq_true rfl) dX4_atom_27

set_option maxHeartbeats 1500000 in
theorem pf_X4_style_0 (a : Nat → Nat) (v : Nat → Int32) (r : Nat → Nat → Int32) (x y : Int32) (N : Nat) (hN : v 0 = nI N) (hN1 : N ≤ 120) (c_1 : x < 0) : cT v x = 1 := by
  unfold cT; (repeat' split) <;> first | rfl | (exfalso; simp_all; done) | (exfalso; simp only [i_lt, i_le, i_eq, tI0, tI1, tI2, tI3, tI4, tI5, tI6, tI7, tI8, tI9, tI10, tI11, tI12, tI13, tI14, tI15, tI16, tI30, tI120, tI255, tI256, tI1000, tIm1] at *; omega)
set_option maxHeartbeats 1500000 in
theorem pf_X4_style_1 (a : Nat → Nat) (v : Nat → Int32) (r : Nat → Nat → Int32) (x y : Int32) (N : Nat) (hN : v 0 = nI N) (hN1 : N ≤ 120) (c_1 : ¬ (x < 0)) (c_6 : x ≤ 3) (hz9 : ¬ (v 0 < 120)) : cT v x = 2 := by
  unfold cT; (repeat' split) <;> first | rfl | (exfalso; simp_all; done) | (exfalso; simp only [i_lt, i_le, i_eq, tI0, tI1, tI2, tI3, tI4, tI5, tI6, tI7, tI8, tI9, tI10, tI11, tI12, tI13, tI14, tI15, tI16, tI30, tI120, tI255, tI256, tI1000, tIm1] at *; omega)
set_option maxHeartbeats 1500000 in
theorem pf_X4_style_2 (a : Nat → Nat) (v : Nat → Int32) (r : Nat → Nat → Int32) (x y : Int32) (N : Nat) (hN : v 0 = nI N) (hN1 : N ≤ 120) (c_1 : ¬ (x < 0)) (c_6 : x ≤ 3) (hq_23 : v 0 < 120) (x_1 : Int32) (ex_1 : x_1 = (if y = 0 then (0 : Int32) else (1 : Int32))) : cT v x = 0 := by
  unfold cT; (repeat' split) <;> first | rfl | (exfalso; simp_all; done) | (exfalso; simp only [i_lt, i_le, i_eq, tI0, tI1, tI2, tI3, tI4, tI5, tI6, tI7, tI8, tI9, tI10, tI11, tI12, tI13, tI14, tI15, tI16, tI30, tI120, tI255, tI256, tI1000, tIm1] at *; omega)
set_option maxHeartbeats 1500000 in
theorem pf_X4_style_3 (a : Nat → Nat) (v : Nat → Int32) (r : Nat → Nat → Int32) (x y : Int32) (N : Nat) (hN : v 0 = nI N) (hN1 : N ≤ 120) (c_1 : ¬ (x < 0)) (c_6 : ¬ (x ≤ 3)) : cT v x = 1 := by
  unfold cT; (repeat' split) <;> first | rfl | (exfalso; simp_all; done) | (exfalso; simp only [i_lt, i_le, i_eq, tI0, tI1, tI2, tI3, tI4, tI5, tI6, tI7, tI8, tI9, tI10, tI11, tI12, tI13, tI14, tI15, tI16, tI30, tI120, tI255, tI256, tI1000, tIm1] at *; omega)
set_option maxHeartbeats 1500000 in
set_option maxRecDepth 100000 in
theorem c_X4_style (l : Launch) (D : va_G) (cI : ClassId) (a : Nat → Nat) (v : Nat → Int32) (r : Nat → Nat → Int32) (x y : Int32) (N : Nat) (hst : l.stackTraces = false) (hN : v 0 = nI N) (hN1 : N ≤ 120) : KX l D cI yX4_style wsX4_style ({ frames := 7, cells := 2, slots := 12, locals := 102 }) [.ref (a 0), .int x, .int y] (wX cI a v r) 2 12 (fun u : (Nat → Int32) × Rw => wX cI a u.1 u.2) (fun q u => cT v x = 0 ∧ (q, u.1, u.2) = (v 0, vU v 0 (v 0 + 1), clR r N (v 2) 4 0 x (if y = 0 then 0 else 1) 0)) (fun E => (cT v x = 1 ∧ E = "java/lang/IllegalArgumentException") ∨ (cT v x = 2 ∧ E = "java/lang/UnsupportedOperationException")) := by
  refine KX.of (cc := cX4_style) (nL := 3) (ret := (some .int)) (by decide) rfl (Nat.le_of_ble_eq_true rfl) ?_
  intro pg9 en9 s m args below meth cd9 A ls C0 hex hP hD hS hl
  have hx := C0.1.1
  have hb := C0.1.2.1
  have hml := C0.1.2.2.1
  have hown : s.vm.findClass RX4 = some m.cls := C0.1.2.2.2.1
  have hts : ∀ w ∈ wsX4_style, w.before args s = true := C0.1.2.2.2.2
  have hK := C0.2.2.2.1
  have hin_X4 : ∀ w ∈ wsX40, w ∈ wsX4_style := fun w h => List.mem_cons_of_mem _ (List.mem_append_left _ (List.mem_append_left _ (List.mem_append_left _ (List.mem_append_right _ h))))
  have hf12 : (Cond.fieldLink RX4 12 "FormulaLists" "book" "LFormulaLists$Book;").before args s = true := hts _ (by decide +kernel)
  have hl : lv_has ls 3 [(0, .ref (a 0)), (1, .int x), (2, .int y)] := hl
  have hP : va_P D vwCl (wX cI a v r) s.heap := hP
  refine lv_iload_n hx hb dX4_style_0 rfl (lv_at hl 1 rfl) ?_
  refine lv_if_lt (tgt := 9) hx hb dX4_style_1 (by decide) (fun c_1 => ?_) (fun c_1 => ?_)
  · skip
    exact kx_throw (cls := "java/lang/IllegalArgumentException") (text := "no such style") C0 hex hst hP hD hS hl.1 (by decide) (by decide +kernel) (by decide +kernel) (by decide) (fun w h => List.mem_cons_of_mem _ (List.mem_append_left _ (List.mem_append_right _ h))) tno_44 tgd_44 dX4_style_9 dX4_style_12 dX4_style_13 dX4_style_15 dX4_style_18 (Nat.le_of_ble_eq_true rfl) (Nat.le_of_ble_eq_true rfl) (Nat.le_of_ble_eq_true rfl) (Nat.le_of_ble_eq_true rfl) (Nat.le_of_ble_eq_true rfl) (Nat.le_of_ble_eq_true rfl) (Or.inl ⟨(pf_X4_style_0 a v r x y N hN hN1 c_1), rfl⟩)
  · skip
    refine lv_iload_n hx hb dX4_style_4 rfl (lv_at hl 1 rfl) ?_
    refine lv_iconst (v := 3) hx hb dX4_style_5 (by decide) ?_
    refine lv_icmp_le (tgt := 19) hx hb dX4_style_6 (by decide) (fun c_6 => ?_) (fun c_6 => ?_)
    · skip
      refine lv_aload_n hx hb dX4_style_19 rfl (lv_at hl 0 rfl) ?_
      refine kcXv C0 hex hP hD hS (c_X4_needRoomForNode l D cI a v r   hst ) (cwV 0 hts gX4_style_X4_needRoomForNode rfl rfl rfl (by decide +kernel) ⟨Nat.le_of_ble_eq_true rfl, Nat.le_of_ble_eq_true rfl⟩) 0 4 rfl rfl rfl hl.1 rfl (Nat.le_of_ble_eq_true rfl) dX4_style_20 ⟨Nat.le_of_ble_eq_true rfl, Nat.le_of_ble_eq_true rfl⟩ (Nat.le_of_ble_eq_true rfl) (Nat.le_of_ble_eq_true rfl) (fun E h9 => (Or.inr ⟨(pf_X4_style_1 a v r x y N hN hN1 c_1 c_6 h9.2), h9.1⟩)) (fun _ H locs hq hP hD hS => ?_)
      have hq_23 : v 0 < 120 := hq
      have hP : va_P D vwCl (wX cI a v r) H := hP
      have hD : va_D A (wX cI a v r) := hD
      refine lv_aload_n hx hb dX4_style_23 rfl (lv_at hl 0 rfl) ?_
      refine va_get (D := D) (ci := 4) (v := .ref (a 1)) (C := RX4) (T := TX4) (N := 2) hx hb hts hin_X4 hown hK hP 0 rfl rfl 0 (by decide) hf12 (fun _ h9 => h9) rfl dX4_style_24 ?_
      refine lv_iconst (v := 4) hx hb dX4_style_27 (by decide) ?_
      refine lv_iconst (v := 0) hx hb dX4_style_28 (by decide) ?_
      refine lv_iload_n hx hb dX4_style_29 rfl (lv_at hl 1 rfl) ?_
      refine lv_iload_n hx hb dX4_style_30 rfl (lv_at hl 2 rfl) ?_
      obtain ⟨x_1, ex_1⟩ : ∃ zz_ : Int32, zz_ = (if y = 0 then (0 : Int32) else (1 : Int32)) := ⟨_, rfl⟩
      refine jW (D := D) hD hl 39 (wX cI a v r) [(0, .ref (a 0)), (1, .int x), (2, .int y)] [.int x_1, .int x, .int 0, .int 4, .ref (a 1)] (fun hJ => ?_) (fun H locs ls hP hD hS hl => ?_)
      · skip
        refine lv_if_eq (tgt := 38) hx hb dX4_style_31 (by decide) (fun c_31 => ?_) (fun c_31 => ?_)
        · skip
          refine lv_iconst (v := 0) hx hb dX4_style_38 (by decide) ?_
          have gx_1 : x_1 = 0 := by rw [ex_1]; simp only [if_pos c_31]
          simp only [gx_1] at hJ
          exact hJ _ _ _ hP hD hS (lv_sub hl [0, 1, 2] rfl)
        · skip
          refine lv_iconst (v := 1) hx hb dX4_style_34 (by decide) ?_
          refine lv_goto (tgt := 39) hx hb dX4_style_35 (by decide) ?_
          have gx_1 : x_1 = 1 := by rw [ex_1]; simp only [if_neg c_31]
          simp only [gx_1] at hJ
          exact hJ _ _ _ hP hD hS (lv_sub hl [0, 1, 2] rfl)
      · skip
        refine lv_eqi ex_1 ?_
        refine lv_iconst (v := 0) hx hb dX4_style_39 (by decide) ?_
        refine kcD (ans := (v 0)) C0 hP hD hS (c_X0_addNode l D cI a v r 4 0 x (if y = 0 then (0 : Int32) else (1 : Int32)) 0 N hN (nd_lt hq_23 hN hN1)) (cwV 5 hts gX4_style_X0_addNode rfl rfl rfl (by decide +kernel) ⟨Nat.le_of_ble_eq_true rfl, Nat.le_of_ble_eq_true rfl⟩) 1 0 rfl rfl rfl hl.1 rfl (Nat.le_of_ble_eq_true rfl) dX4_style_40 ⟨Nat.le_of_ble_eq_true rfl, Nat.le_of_ble_eq_true rfl⟩ (fun H locs hP hD hS => ?_)
        have hP : va_P D vwCl (wX cI a (vU v 0 ((v 0) + 1)) (clR r N (v 2) 4 0 x (if y = 0 then (0 : Int32) else (1 : Int32)) 0)) H := hP
        have hD : va_D A (wX cI a (vU v 0 ((v 0) + 1)) (clR r N (v 2) 4 0 x (if y = 0 then (0 : Int32) else (1 : Int32)) 0)) := hD
        exact kx_iret C0 ((vU v 0 ((v 0) + 1)), (clR r N (v 2) 4 0 x (if y = 0 then (0 : Int32) else (1 : Int32)) 0)) hP hD hS ⟨(pf_X4_style_2 a v r x y N hN hN1 c_1 c_6 hq_23 x_1 ex_1), rfl⟩ (Nat.le_of_ble_eq_true rfl) (Nat.le_of_ble_eq_true rfl) dX4_style_43
    · skip
      exact kx_throw (cls := "java/lang/IllegalArgumentException") (text := "no such style") C0 hex hst hP hD hS hl.1 (by decide) (by decide +kernel) (by decide +kernel) (by decide) (fun w h => List.mem_cons_of_mem _ (List.mem_append_left _ (List.mem_append_right _ h))) tno_44 tgd_44 dX4_style_9 dX4_style_12 dX4_style_13 dX4_style_15 dX4_style_18 (Nat.le_of_ble_eq_true rfl) (Nat.le_of_ble_eq_true rfl) (Nat.le_of_ble_eq_true rfl) (Nat.le_of_ble_eq_true rfl) (Nat.le_of_ble_eq_true rfl) (Nat.le_of_ble_eq_true rfl) (Or.inl ⟨(pf_X4_style_3 a v r x y N hN hN1 c_1 c_6), rfl⟩)

set_option maxHeartbeats 1500000 in
theorem pf_X4_space_0 (a : Nat → Nat) (v : Nat → Int32) (r : Nat → Nat → Int32) (x y : Int32)  (c_4 : (bI (0 ≤ x ∧ x < 8)) = 0) : cP x y = 1 := by
  unfold cP; (repeat' split) <;> first | rfl | (exfalso; simp only [bI_z, bI_nz] at *; simp_all; done)
set_option maxHeartbeats 1500000 in
theorem pf_X4_space_1 (a : Nat → Nat) (v : Nat → Int32) (r : Nat → Nat → Int32) (x y : Int32)  (c_4 : ¬ ((bI (0 ≤ x ∧ x < 8)) = 0)) (c_11 : ¬ ((bI (0 ≤ y ∧ y < 8)) = 0)) : cP x y = 0 := by
  unfold cP; (repeat' split) <;> first | rfl | (exfalso; simp only [bI_z, bI_nz] at *; simp_all; done)
set_option maxHeartbeats 1500000 in
theorem pf_X4_space_2 (a : Nat → Nat) (v : Nat → Int32) (r : Nat → Nat → Int32) (x y : Int32)  (c_4 : ¬ ((bI (0 ≤ x ∧ x < 8)) = 0)) (c_11 : (bI (0 ≤ y ∧ y < 8)) = 0) : cP x y = 1 := by
  unfold cP; (repeat' split) <;> first | rfl | (exfalso; simp only [bI_z, bI_nz] at *; simp_all; done)
set_option maxHeartbeats 1500000 in
set_option maxRecDepth 100000 in
theorem c_X4_space (l : Launch) (D : va_G) (cI : ClassId) (a : Nat → Nat) (v : Nat → Int32) (r : Nat → Nat → Int32) (x y : Int32) (hst : l.stackTraces = false)  : KX l D cI yX4_space wsX4_space ({ frames := 6, cells := 1, slots := 6, locals := 82 }) [.ref (a 0), .int x, .int y] (wX cI a v r) 1 6 (fun u : (Nat → Int32) × Rw => wX cI a u.1 u.2) (fun q u => cP x y = 0 ∧ (q, u.1, u.2) = (spU x y 0, v, r)) (fun E => (cP x y = 1 ∧ E = "java/lang/IllegalArgumentException")) := by
  refine KX.of (cc := cX4_space) (nL := 3) (ret := (some .int)) (by decide) rfl (Nat.le_of_ble_eq_true rfl) ?_
  intro pg9 en9 s m args below meth cd9 A ls C0 hex hP hD hS hl
  have hx := C0.1.1
  have hb := C0.1.2.1
  have hml := C0.1.2.2.1
  have hown : s.vm.findClass RX4 = some m.cls := C0.1.2.2.2.1
  have hts : ∀ w ∈ wsX4_space, w.before args s = true := C0.1.2.2.2.2
  have hK := C0.2.2.2.1
  have hl : lv_has ls 3 [(0, .ref (a 0)), (1, .int x), (2, .int y)] := hl
  have hP : va_P D vwCl (wX cI a v r) s.heap := hP
  refine lv_iload_n hx hb dX4_space_0 rfl (lv_at hl 1 rfl) ?_
  refine kcS (ans := (bI (0 ≤ x ∧ x < 8))) C0 hP hS (c_X4_isKind l D cI x ) (va_cwS 1 hts gX4_space_X4_isKind rfl rfl rfl (by decide +kernel) ⟨Nat.le_of_ble_eq_true rfl, Nat.le_of_ble_eq_true rfl⟩) rfl hl.1 rfl (Nat.le_of_ble_eq_true rfl) dX4_space_1 ⟨Nat.le_of_ble_eq_true rfl, Nat.le_of_ble_eq_true rfl⟩ (fun H locs hP hS => ?_)
  refine lv_if_eq (tgt := 14) hx hb dX4_space_4 (by decide) (fun c_4 => ?_) (fun c_4 => ?_)
  · skip
    exact kx_throw (cls := "java/lang/IllegalArgumentException") (text := "no such kind") C0 hex hst hP hD hS hl.1 (by decide) (by decide +kernel) (by decide +kernel) (by decide) (fun w h => List.mem_cons_of_mem _ (List.mem_append_right _ h)) tno_44 tgd_44 dX4_space_14 dX4_space_17 dX4_space_18 dX4_space_20 dX4_space_23 (Nat.le_of_ble_eq_true rfl) (Nat.le_of_ble_eq_true rfl) (Nat.le_of_ble_eq_true rfl) (Nat.le_of_ble_eq_true rfl) (Nat.le_of_ble_eq_true rfl) (Nat.le_of_ble_eq_true rfl) ⟨(pf_X4_space_0 a v r x y c_4), rfl⟩
  · skip
    refine lv_iload_n hx hb dX4_space_7 rfl (lv_at hl 2 rfl) ?_
    refine kcS (ans := (bI (0 ≤ y ∧ y < 8))) C0 hP hS (c_X4_isKind l D cI y ) (va_cwS 1 hts gX4_space_X4_isKind rfl rfl rfl (by decide +kernel) ⟨Nat.le_of_ble_eq_true rfl, Nat.le_of_ble_eq_true rfl⟩) rfl hl.1 rfl (Nat.le_of_ble_eq_true rfl) dX4_space_8 ⟨Nat.le_of_ble_eq_true rfl, Nat.le_of_ble_eq_true rfl⟩ (fun H locs hP hS => ?_)
    refine lv_if_ne (tgt := 24) hx hb dX4_space_11 (by decide) (fun c_11 => ?_) (fun c_11 => ?_)
    · skip
      refine lv_iload_n hx hb dX4_space_24 rfl (lv_at hl 1 rfl) ?_
      refine lv_iload_n hx hb dX4_space_25 rfl (lv_at hl 2 rfl) ?_
      refine lv_iconst (v := 0) hx hb dX4_space_26 (by decide) ?_
      refine kcS (ans := (spU x y 0)) C0 hP hS (c_X4_spaceUnits l D cI x y 0 ) (va_cwS 3 hts gX4_space_X4_spaceUnits rfl rfl rfl (by decide +kernel) ⟨Nat.le_of_ble_eq_true rfl, Nat.le_of_ble_eq_true rfl⟩) rfl hl.1 rfl (Nat.le_of_ble_eq_true rfl) dX4_space_27 ⟨Nat.le_of_ble_eq_true rfl, Nat.le_of_ble_eq_true rfl⟩ (fun H locs hP hS => ?_)
      exact kx_iret C0 (v, r) hP hD hS ⟨(pf_X4_space_1 a v r x y c_4 c_11), rfl⟩ (Nat.le_of_ble_eq_true rfl) (Nat.le_of_ble_eq_true rfl) dX4_space_30
    · skip
      exact kx_throw (cls := "java/lang/IllegalArgumentException") (text := "no such kind") C0 hex hst hP hD hS hl.1 (by decide) (by decide +kernel) (by decide +kernel) (by decide) (fun w h => List.mem_cons_of_mem _ (List.mem_append_right _ h)) tno_44 tgd_44 dX4_space_14 dX4_space_17 dX4_space_18 dX4_space_20 dX4_space_23 (Nat.le_of_ble_eq_true rfl) (Nat.le_of_ble_eq_true rfl) (Nat.le_of_ble_eq_true rfl) (Nat.le_of_ble_eq_true rfl) (Nat.le_of_ble_eq_true rfl) (Nat.le_of_ble_eq_true rfl) ⟨(pf_X4_space_2 a v r x y c_4 c_11), rfl⟩

set_option maxHeartbeats 1500000 in
theorem pf_X4_kind_0 (a : Nat → Nat) (v : Nat → Int32) (r : Nat → Nat → Int32) (x : Int32) (N : Nat) (hN : v 0 = nI N) (hN1 : N ≤ 120) (hz9 : ¬ (0 ≤ x ∧ x < nI N ∧ ¬ r 3 x.toNatClampNeg = 4)) : cK r N x = 1 := by
  unfold cK; (repeat' split) <;> first | rfl | (exfalso; simp_all; done) | (exfalso; simp only [i_lt, i_le, i_eq, tI0, tI1, tI2, tI3, tI4, tI5, tI6, tI7, tI8, tI9, tI10, tI11, tI12, tI13, tI14, tI15, tI16, tI30, tI120, tI255, tI256, tI1000, tIm1] at *; omega)
set_option maxHeartbeats 1500000 in
theorem pf_X4_kind_1 (a : Nat → Nat) (v : Nat → Int32) (r : Nat → Nat → Int32) (x : Int32) (N : Nat) (hN : v 0 = nI N) (hN1 : N ≤ 120) (hq_5 : 0 ≤ x ∧ x < nI N ∧ ¬ r 3 x.toNatClampNeg = 4) : cK r N x = 0 := by
  unfold cK; (repeat' split) <;> first | rfl | (exfalso; simp_all; done) | (exfalso; simp only [i_lt, i_le, i_eq, tI0, tI1, tI2, tI3, tI4, tI5, tI6, tI7, tI8, tI9, tI10, tI11, tI12, tI13, tI14, tI15, tI16, tI30, tI120, tI255, tI256, tI1000, tIm1] at *; omega)
set_option maxHeartbeats 1500000 in
set_option maxRecDepth 100000 in
theorem c_X4_kind (l : Launch) (D : va_G) (cI : ClassId) (a : Nat → Nat) (v : Nat → Int32) (r : Nat → Nat → Int32) (x : Int32) (N : Nat) (hst : l.stackTraces = false) (hN : v 0 = nI N) (hN1 : N ≤ 120) : KX l D cI yX4_kind wsX4_kind ({ frames := 7, cells := 1, slots := 6, locals := 103 }) [.ref (a 0), .int x] (wX cI a v r) 1 6 (fun u : (Nat → Int32) × Rw => wX cI a u.1 u.2) (fun q u => cK r N x = 0 ∧ (q, u.1, u.2) = (cnA (r 2) (r 3) (r 4) N x.toNatClampNeg, v, r)) (fun E => (cK r N x = 1 ∧ E = "java/util/NoSuchElementException")) := by
  refine KX.of (cc := cX4_kind) (nL := 2) (ret := (some .int)) (by decide) rfl (Nat.le_of_ble_eq_true rfl) ?_
  intro pg9 en9 s m args below meth cd9 A ls C0 hex hP hD hS hl
  have hx := C0.1.1
  have hb := C0.1.2.1
  have hml := C0.1.2.2.1
  have hown : s.vm.findClass RX4 = some m.cls := C0.1.2.2.2.1
  have hts : ∀ w ∈ wsX4_kind, w.before args s = true := C0.1.2.2.2.2
  have hK := C0.2.2.2.1
  have hin_X4 : ∀ w ∈ wsX40, w ∈ wsX4_kind := fun w h => List.mem_cons_of_mem _ (List.mem_append_left _ (List.mem_append_left _ (List.mem_append_right _ h)))
  have hf12 : (Cond.fieldLink RX4 12 "FormulaLists" "book" "LFormulaLists$Book;").before args s = true := hts _ (by decide +kernel)
  have hl : lv_has ls 2 [(0, .ref (a 0)), (1, .int x)] := hl
  have hP : va_P D vwCl (wX cI a v r) s.heap := hP
  refine lv_aload_n hx hb dX4_kind_0 rfl (lv_at hl 0 rfl) ?_
  refine lv_iload_n hx hb dX4_kind_1 rfl (lv_at hl 1 rfl) ?_
  refine kcXv C0 hex hP hD hS (c_X4_needAtom l D cI a v r x N hst hN hN1) (cwV 1 hts gX4_kind_X4_needAtom rfl rfl rfl (by decide +kernel) ⟨Nat.le_of_ble_eq_true rfl, Nat.le_of_ble_eq_true rfl⟩) 0 4 rfl rfl rfl hl.1 rfl (Nat.le_of_ble_eq_true rfl) dX4_kind_2 ⟨Nat.le_of_ble_eq_true rfl, Nat.le_of_ble_eq_true rfl⟩ (Nat.le_of_ble_eq_true rfl) (Nat.le_of_ble_eq_true rfl) (fun E h9 => ⟨(pf_X4_kind_0 a v r x N hN hN1 h9.2), h9.1⟩) (fun _ H locs hq hP hD hS => ?_)
  have hq_5 : 0 ≤ x ∧ x < nI N ∧ ¬ r 3 x.toNatClampNeg = 4 := hq
  have hP : va_P D vwCl (wX cI a v r) H := hP
  have hD : va_D A (wX cI a v r) := hD
  refine lv_aload_n hx hb dX4_kind_5 rfl (lv_at hl 0 rfl) ?_
  refine va_get (D := D) (ci := 4) (v := .ref (a 1)) (C := RX4) (T := TX4) (N := 2) hx hb hts hin_X4 hown hK hP 0 rfl rfl 0 (by decide) hf12 (fun _ h9 => h9) rfl dX4_kind_6 ?_
  refine lv_iload_n hx hb dX4_kind_9 rfl (lv_at hl 1 rfl) ?_
  refine lv_eqi (at_ix hq_5 hN1).1 ?_
  refine kcD (ans := (cnA (r 2) (r 3) (r 4) N x.toNatClampNeg)) C0 hP hD hS (c_X0_countedKind l D cI a v r x.toNatClampNeg N hN hN1 (at_ix hq_5 hN1).2) (cwV 1 hts gX4_kind_X0_countedKind rfl rfl rfl (by decide +kernel) ⟨Nat.le_of_ble_eq_true rfl, Nat.le_of_ble_eq_true rfl⟩) 1 0 rfl rfl rfl hl.1 rfl (Nat.le_of_ble_eq_true rfl) dX4_kind_10 ⟨Nat.le_of_ble_eq_true rfl, Nat.le_of_ble_eq_true rfl⟩ (fun H locs hP hD hS => ?_)
  exact kx_iret C0 (v, r) hP hD hS ⟨(pf_X4_kind_1 a v r x N hN hN1 hq_5), rfl⟩ (Nat.le_of_ble_eq_true rfl) (Nat.le_of_ble_eq_true rfl) dX4_kind_13

set_option maxHeartbeats 1500000 in
theorem pf_X4_item_0 (a : Nat → Nat) (v : Nat → Int32) (r : Nat → Nat → Int32) (x y : Int32) (c : Nat) (hc : v 4 = nI c) (hc1 : c ≤ 150) (c_2 : ¬ (x = (-1))) (c_62 : (bI (0 ≤ x ∧ x < v 4)) = 0) : cI9 v x y = 1 := by
  unfold cI9; (repeat' split) <;> first | rfl | (exfalso; (try simp only [bI_z, bI_nz] at *); simp only [i_lt, i_le, i_eq, tI0, tI1, tI2, tI3, tI4, tI5, tI6, tI7, tI8, tI9, tI10, tI11, tI12, tI13, tI14, tI15, tI16, tI30, tI120, tI255, tI256, tI1000, tIm1] at *; omega)
set_option maxHeartbeats 1500000 in
theorem pf_X4_item_1 (a : Nat → Nat) (v : Nat → Int32) (r : Nat → Nat → Int32) (x y : Int32) (c : Nat) (hc : v 4 = nI c) (hc1 : c ≤ 150) (c_2 : ¬ (x = (-1))) (c_62 : ¬ ((bI (0 ≤ x ∧ x < v 4)) = 0)) (c_66 : y < 0) : cI9 v x y = 1 := by
  unfold cI9; (repeat' split) <;> first | rfl | (exfalso; (try simp only [bI_z, bI_nz] at *); simp only [i_lt, i_le, i_eq, tI0, tI1, tI2, tI3, tI4, tI5, tI6, tI7, tI8, tI9, tI10, tI11, tI12, tI13, tI14, tI15, tI16, tI30, tI120, tI255, tI256, tI1000, tIm1] at *; omega)
set_option maxHeartbeats 1500000 in
theorem pf_X4_item_2 (a : Nat → Nat) (v : Nat → Int32) (r : Nat → Nat → Int32) (x y : Int32) (c : Nat) (hc : v 4 = nI c) (hc1 : c ≤ 150) (c_2 : ¬ (x = (-1))) (c_62 : ¬ ((bI (0 ≤ x ∧ x < v 4)) = 0)) (c_66 : ¬ (y < 0)) (c_72 : y < 8) : cI9 v x y = 0 := by
  unfold cI9; (repeat' split) <;> first | rfl | (exfalso; (try simp only [bI_z, bI_nz] at *); simp only [i_lt, i_le, i_eq, tI0, tI1, tI2, tI3, tI4, tI5, tI6, tI7, tI8, tI9, tI10, tI11, tI12, tI13, tI14, tI15, tI16, tI30, tI120, tI255, tI256, tI1000, tIm1] at *; omega)
set_option maxHeartbeats 1500000 in
theorem pf_X4_item_3 (a : Nat → Nat) (v : Nat → Int32) (r : Nat → Nat → Int32) (x y : Int32) (c : Nat) (hc : v 4 = nI c) (hc1 : c ≤ 150) (c_2 : ¬ (x = (-1))) (c_62 : ¬ ((bI (0 ≤ x ∧ x < v 4)) = 0)) (c_66 : ¬ (y < 0)) (c_72 : ¬ (y < 8)) : cI9 v x y = 1 := by
  unfold cI9; (repeat' split) <;> first | rfl | (exfalso; (try simp only [bI_z, bI_nz] at *); simp only [i_lt, i_le, i_eq, tI0, tI1, tI2, tI3, tI4, tI5, tI6, tI7, tI8, tI9, tI10, tI11, tI12, tI13, tI14, tI15, tI16, tI30, tI120, tI255, tI256, tI1000, tIm1] at *; omega)
set_option maxHeartbeats 1500000 in
theorem pf_X4_item_4 (a : Nat → Nat) (v : Nat → Int32) (r : Nat → Nat → Int32) (x y : Int32) (c : Nat) (hc : v 4 = nI c) (hc1 : c ≤ 150) (c_2 : x = (-1)) (c_6 : y < 0) (c_62 : (bI (0 ≤ x ∧ x < v 4)) = 0) : cI9 v x y = 1 := by
  unfold cI9; (repeat' split) <;> first | rfl | (exfalso; (try simp only [bI_z, bI_nz] at *); simp only [i_lt, i_le, i_eq, tI0, tI1, tI2, tI3, tI4, tI5, tI6, tI7, tI8, tI9, tI10, tI11, tI12, tI13, tI14, tI15, tI16, tI30, tI120, tI255, tI256, tI1000, tIm1] at *; omega)
set_option maxHeartbeats 1500000 in
theorem pf_X4_item_5 (a : Nat → Nat) (v : Nat → Int32) (r : Nat → Nat → Int32) (x y : Int32) (c : Nat) (hc : v 4 = nI c) (hc1 : c ≤ 150) (c_2 : x = (-1)) (c_6 : y < 0) (c_62 : ¬ ((bI (0 ≤ x ∧ x < v 4)) = 0)) (c_66 : y < 0) : cI9 v x y = 1 := by
  unfold cI9; (repeat' split) <;> first | rfl | (exfalso; (try simp only [bI_z, bI_nz] at *); simp only [i_lt, i_le, i_eq, tI0, tI1, tI2, tI3, tI4, tI5, tI6, tI7, tI8, tI9, tI10, tI11, tI12, tI13, tI14, tI15, tI16, tI30, tI120, tI255, tI256, tI1000, tIm1] at *; omega)
set_option maxHeartbeats 1500000 in
theorem pf_X4_item_6 (a : Nat → Nat) (v : Nat → Int32) (r : Nat → Nat → Int32) (x y : Int32) (c : Nat) (hc : v 4 = nI c) (hc1 : c ≤ 150) (c_2 : x = (-1)) (c_6 : y < 0) (c_62 : ¬ ((bI (0 ≤ x ∧ x < v 4)) = 0)) (c_66 : ¬ (y < 0)) (c_72 : y < 8) : cI9 v x y = 0 := by
  unfold cI9; (repeat' split) <;> first | rfl | (exfalso; (try simp only [bI_z, bI_nz] at *); simp only [i_lt, i_le, i_eq, tI0, tI1, tI2, tI3, tI4, tI5, tI6, tI7, tI8, tI9, tI10, tI11, tI12, tI13, tI14, tI15, tI16, tI30, tI120, tI255, tI256, tI1000, tIm1] at *; omega)
set_option maxHeartbeats 1500000 in
theorem pf_X4_item_7 (a : Nat → Nat) (v : Nat → Int32) (r : Nat → Nat → Int32) (x y : Int32) (c : Nat) (hc : v 4 = nI c) (hc1 : c ≤ 150) (c_2 : x = (-1)) (c_6 : y < 0) (c_62 : ¬ ((bI (0 ≤ x ∧ x < v 4)) = 0)) (c_66 : ¬ (y < 0)) (c_72 : ¬ (y < 8)) : cI9 v x y = 1 := by
  unfold cI9; (repeat' split) <;> first | rfl | (exfalso; (try simp only [bI_z, bI_nz] at *); simp only [i_lt, i_le, i_eq, tI0, tI1, tI2, tI3, tI4, tI5, tI6, tI7, tI8, tI9, tI10, tI11, tI12, tI13, tI14, tI15, tI16, tI30, tI120, tI255, tI256, tI1000, tIm1] at *; omega)
set_option maxHeartbeats 1500000 in
theorem pf_X4_item_8 (a : Nat → Nat) (v : Nat → Int32) (r : Nat → Nat → Int32) (x y : Int32) (c : Nat) (hc : v 4 = nI c) (hc1 : c ≤ 150) (c_2 : x = (-1)) (c_6 : ¬ (y < 0)) (c_11 : 2 < y) (c_62 : (bI (0 ≤ x ∧ x < v 4)) = 0) : cI9 v x y = 1 := by
  unfold cI9; (repeat' split) <;> first | rfl | (exfalso; (try simp only [bI_z, bI_nz] at *); simp only [i_lt, i_le, i_eq, tI0, tI1, tI2, tI3, tI4, tI5, tI6, tI7, tI8, tI9, tI10, tI11, tI12, tI13, tI14, tI15, tI16, tI30, tI120, tI255, tI256, tI1000, tIm1] at *; omega)
set_option maxHeartbeats 1500000 in
theorem pf_X4_item_9 (a : Nat → Nat) (v : Nat → Int32) (r : Nat → Nat → Int32) (x y : Int32) (c : Nat) (hc : v 4 = nI c) (hc1 : c ≤ 150) (c_2 : x = (-1)) (c_6 : ¬ (y < 0)) (c_11 : 2 < y) (c_62 : ¬ ((bI (0 ≤ x ∧ x < v 4)) = 0)) (c_66 : y < 0) : cI9 v x y = 1 := by
  unfold cI9; (repeat' split) <;> first | rfl | (exfalso; (try simp only [bI_z, bI_nz] at *); simp only [i_lt, i_le, i_eq, tI0, tI1, tI2, tI3, tI4, tI5, tI6, tI7, tI8, tI9, tI10, tI11, tI12, tI13, tI14, tI15, tI16, tI30, tI120, tI255, tI256, tI1000, tIm1] at *; omega)
set_option maxHeartbeats 1500000 in
theorem pf_X4_item_10 (a : Nat → Nat) (v : Nat → Int32) (r : Nat → Nat → Int32) (x y : Int32) (c : Nat) (hc : v 4 = nI c) (hc1 : c ≤ 150) (c_2 : x = (-1)) (c_6 : ¬ (y < 0)) (c_11 : 2 < y) (c_62 : ¬ ((bI (0 ≤ x ∧ x < v 4)) = 0)) (c_66 : ¬ (y < 0)) (c_72 : y < 8) : cI9 v x y = 0 := by
  unfold cI9; (repeat' split) <;> first | rfl | (exfalso; (try simp only [bI_z, bI_nz] at *); simp only [i_lt, i_le, i_eq, tI0, tI1, tI2, tI3, tI4, tI5, tI6, tI7, tI8, tI9, tI10, tI11, tI12, tI13, tI14, tI15, tI16, tI30, tI120, tI255, tI256, tI1000, tIm1] at *; omega)
set_option maxHeartbeats 1500000 in
theorem pf_X4_item_11 (a : Nat → Nat) (v : Nat → Int32) (r : Nat → Nat → Int32) (x y : Int32) (c : Nat) (hc : v 4 = nI c) (hc1 : c ≤ 150) (c_2 : x = (-1)) (c_6 : ¬ (y < 0)) (c_11 : 2 < y) (c_62 : ¬ ((bI (0 ≤ x ∧ x < v 4)) = 0)) (c_66 : ¬ (y < 0)) (c_72 : ¬ (y < 8)) : cI9 v x y = 1 := by
  unfold cI9; (repeat' split) <;> first | rfl | (exfalso; (try simp only [bI_z, bI_nz] at *); simp only [i_lt, i_le, i_eq, tI0, tI1, tI2, tI3, tI4, tI5, tI6, tI7, tI8, tI9, tI10, tI11, tI12, tI13, tI14, tI15, tI16, tI30, tI120, tI255, tI256, tI1000, tIm1] at *; omega)
set_option maxHeartbeats 1500000 in
theorem pf_X4_item_12 (a : Nat → Nat) (v : Nat → Int32) (r : Nat → Nat → Int32) (x y : Int32) (c : Nat) (hc : v 4 = nI c) (hc1 : c ≤ 150) (c_2 : x = (-1)) (c_6 : ¬ (y < 0)) (c_11 : ¬ (2 < y)) (c_15 : ¬ (y = 0)) (c_30 : ¬ (y = 1)) : cI9 v x y = 0 := by
  unfold cI9; (repeat' split) <;> first | rfl | (exfalso; (try simp only [bI_z, bI_nz] at *); simp only [i_lt, i_le, i_eq, tI0, tI1, tI2, tI3, tI4, tI5, tI6, tI7, tI8, tI9, tI10, tI11, tI12, tI13, tI14, tI15, tI16, tI30, tI120, tI255, tI256, tI1000, tIm1] at *; omega)
set_option maxHeartbeats 1500000 in
theorem pf_X4_item_13 (a : Nat → Nat) (v : Nat → Int32) (r : Nat → Nat → Int32) (x y : Int32) (c : Nat) (hc : v 4 = nI c) (hc1 : c ≤ 150) (c_2 : x = (-1)) (c_6 : ¬ (y < 0)) (c_11 : ¬ (2 < y)) (c_15 : ¬ (y = 0)) (c_30 : y = 1) : cI9 v x y = 0 := by
  unfold cI9; (repeat' split) <;> first | rfl | (exfalso; (try simp only [bI_z, bI_nz] at *); simp only [i_lt, i_le, i_eq, tI0, tI1, tI2, tI3, tI4, tI5, tI6, tI7, tI8, tI9, tI10, tI11, tI12, tI13, tI14, tI15, tI16, tI30, tI120, tI255, tI256, tI1000, tIm1] at *; omega)
set_option maxHeartbeats 1500000 in
theorem pf_X4_item_14 (a : Nat → Nat) (v : Nat → Int32) (r : Nat → Nat → Int32) (x y : Int32) (c : Nat) (hc : v 4 = nI c) (hc1 : c ≤ 150) (c_2 : x = (-1)) (c_6 : ¬ (y < 0)) (c_11 : ¬ (2 < y)) (c_15 : y = 0) : cI9 v x y = 0 := by
  unfold cI9; (repeat' split) <;> first | rfl | (exfalso; (try simp only [bI_z, bI_nz] at *); simp only [i_lt, i_le, i_eq, tI0, tI1, tI2, tI3, tI4, tI5, tI6, tI7, tI8, tI9, tI10, tI11, tI12, tI13, tI14, tI15, tI16, tI30, tI120, tI255, tI256, tI1000, tIm1] at *; omega)
set_option maxHeartbeats 1500000 in
set_option maxRecDepth 100000 in
theorem c_X4_item (l : Launch) (D : va_G) (cI : ClassId) (a : Nat → Nat) (v : Nat → Int32) (r : Nat → Nat → Int32) (x y : Int32) (c : Nat) (hst : l.stackTraces = false) (hc : v 4 = nI c) (hc1 : c ≤ 150) : KX l D cI yX4_item wsX4_item ({ frames := 6, cells := 1, slots := 6, locals := 82 }) [.ref (a 0), .int x, .int y] (wX cI a v r) 1 6 (fun u : (Nat → Int32) × Rw => wX cI a u.1 u.2) (fun q u => cI9 v x y = 0 ∧ (q, u.1, u.2) = ((if x = -1 then (if y = 0 then v 5 else if y = 1 then v 6 else v 7) else r 19 (8 * x.toNatClampNeg + y.toNatClampNeg)), v, r)) (fun E => (cI9 v x y = 1 ∧ E = "java/lang/IndexOutOfBoundsException")) := by
  refine KX.of (cc := cX4_item) (nL := 3) (ret := (some .int)) (by decide) rfl (Nat.le_of_ble_eq_true rfl) ?_
  intro pg9 en9 s m args below meth cd9 A ls C0 hex hP hD hS hl
  have hx := C0.1.1
  have hb := C0.1.2.1
  have hml := C0.1.2.2.1
  have hown : s.vm.findClass RX4 = some m.cls := C0.1.2.2.2.1
  have hts : ∀ w ∈ wsX4_item, w.before args s = true := C0.1.2.2.2.2
  have hK := C0.2.2.2.1
  have hin_X4 : ∀ w ∈ wsX40, w ∈ wsX4_item := fun w h => List.mem_cons_of_mem _ (List.mem_append_left _ (List.mem_append_left _ (List.mem_append_left _ (List.mem_append_right _ h))))
  have hf21 : (Cond.fieldLink RX4 21 "FormulaLists" "layout" "LFormulaLists$Layout;").before args s = true := hts _ (by decide +kernel)
  have hin_X3 : ∀ w ∈ wsX30, w ∈ wsX4_item := fun w h => List.mem_cons_of_mem _ (List.mem_append_left _ (List.mem_append_left _ (List.mem_append_right _ h)))
  have hf118 : (Cond.fieldLink RX4 118 "FormulaLists$Layout" "items" "LFormulaLists$Items;").before args s = true := hts _ (by decide +kernel)
  have hf133 : (Cond.fieldLink RX4 133 "FormulaLists$Layout" "depth" "I").before args s = true := hts _ (by decide +kernel)
  have hf130 : (Cond.fieldLink RX4 130 "FormulaLists$Layout" "height" "I").before args s = true := hts _ (by decide +kernel)
  have hf127 : (Cond.fieldLink RX4 127 "FormulaLists$Layout" "width" "I").before args s = true := hts _ (by decide +kernel)
  have hl : lv_has ls 3 [(0, .ref (a 0)), (1, .int x), (2, .int y)] := hl
  have hP : va_P D vwCl (wX cI a v r) s.heap := hP
  refine lv_iload_n hx hb dX4_item_0 rfl (lv_at hl 1 rfl) ?_
  refine lv_iconst (v := (-1)) hx hb dX4_item_1 (by decide) ?_
  refine lv_icmp_ne (tgt := 51) hx hb dX4_item_2 (by decide) (fun c_2 => ?_) (fun c_2 => ?_)
  · skip
    refine lv_aload_n hx hb dX4_item_51 rfl (lv_at hl 0 rfl) ?_
    refine va_get (D := D) (ci := 4) (v := .ref (a 20)) (C := RX4) (T := TX4) (N := 2) hx hb hts hin_X4 hown hK hP 0 rfl rfl 1 (by decide) hf21 (fun _ h9 => h9) rfl dX4_item_52 ?_
    refine va_get (D := D) (ci := 3) (v := .ref (a 18)) (C := RX3) (T := TX3) (N := 6) hx hb hts hin_X3 hown hK hP 20 rfl rfl 2 (by decide) hf118 (fun _ h9 => h9) rfl dX4_item_55 ?_
    refine lv_iload_n hx hb dX4_item_58 rfl (lv_at hl 1 rfl) ?_
    refine kcD (ans := (bI (0 ≤ x ∧ x < v 4))) C0 hP hD hS (c_X2_has l D cI a v r x ) (cwV 1 hts gX4_item_X2_has rfl rfl rfl (by decide +kernel) ⟨Nat.le_of_ble_eq_true rfl, Nat.le_of_ble_eq_true rfl⟩) 18 2 rfl rfl rfl hl.1 rfl (Nat.le_of_ble_eq_true rfl) dX4_item_59 ⟨Nat.le_of_ble_eq_true rfl, Nat.le_of_ble_eq_true rfl⟩ (fun H locs hP hD hS => ?_)
    refine lv_if_eq (tgt := 75) hx hb dX4_item_62 (by decide) (fun c_62 => ?_) (fun c_62 => ?_)
    · skip
      exact kx_throw (cls := "java/lang/IndexOutOfBoundsException") (text := "no such item") C0 hex hst hP hD hS hl.1 (by decide) (by decide +kernel) (by decide +kernel) (by decide) (fun w h => List.mem_cons_of_mem _ (List.mem_append_right _ h)) tno_143 tgd_143 dX4_item_75 dX4_item_78 dX4_item_79 dX4_item_81 dX4_item_84 (Nat.le_of_ble_eq_true rfl) (Nat.le_of_ble_eq_true rfl) (Nat.le_of_ble_eq_true rfl) (Nat.le_of_ble_eq_true rfl) (Nat.le_of_ble_eq_true rfl) (Nat.le_of_ble_eq_true rfl) ⟨(pf_X4_item_0 a v r x y c hc hc1 c_2 c_62), rfl⟩
    · skip
      refine lv_iload_n hx hb dX4_item_65 rfl (lv_at hl 2 rfl) ?_
      refine lv_if_lt (tgt := 75) hx hb dX4_item_66 (by decide) (fun c_66 => ?_) (fun c_66 => ?_)
      · skip
        exact kx_throw (cls := "java/lang/IndexOutOfBoundsException") (text := "no such item") C0 hex hst hP hD hS hl.1 (by decide) (by decide +kernel) (by decide +kernel) (by decide) (fun w h => List.mem_cons_of_mem _ (List.mem_append_right _ h)) tno_143 tgd_143 dX4_item_75 dX4_item_78 dX4_item_79 dX4_item_81 dX4_item_84 (Nat.le_of_ble_eq_true rfl) (Nat.le_of_ble_eq_true rfl) (Nat.le_of_ble_eq_true rfl) (Nat.le_of_ble_eq_true rfl) (Nat.le_of_ble_eq_true rfl) (Nat.le_of_ble_eq_true rfl) ⟨(pf_X4_item_1 a v r x y c hc hc1 c_2 c_62 c_66), rfl⟩
      · skip
        refine lv_iload_n hx hb dX4_item_69 rfl (lv_at hl 2 rfl) ?_
        refine lv_bipush (v := 8) hx hb dX4_item_70 (by decide) ?_
        refine lv_icmp_lt (tgt := 85) hx hb dX4_item_72 (by decide) (fun c_72 => ?_) (fun c_72 => ?_)
        · skip
          have hh := bI_nz.mp c_62
          have hix := ix_of (N := c) (M := 150) (Int32.not_lt.mpr hh.1) hh.2 hc hc1 (by decide)
          have hxc : x.toNatClampNeg < c := by have h2 := hh.2; rw [hc, hix.1, nI_ltI (by omega) (by omega)] at h2; exact h2
          have hiy := ix_of (N := 8) (M := 8) c_66 c_72 rfl (by omega) (by decide)
          refine lv_aload_n hx hb dX4_item_85 rfl (lv_at hl 0 rfl) ?_
          refine va_get (D := D) (ci := 4) (v := .ref (a 20)) (C := RX4) (T := TX4) (N := 2) hx hb hts hin_X4 hown hK hP 0 rfl rfl 1 (by decide) hf21 (fun _ h9 => h9) rfl dX4_item_86 ?_
          refine va_get (D := D) (ci := 3) (v := .ref (a 18)) (C := RX3) (T := TX3) (N := 6) hx hb hts hin_X3 hown hK hP 20 rfl rfl 2 (by decide) hf118 (fun _ h9 => h9) rfl dX4_item_89 ?_
          refine lv_iload_n hx hb dX4_item_92 rfl (lv_at hl 1 rfl) ?_
          refine lv_eqi hix.1 ?_
          refine lv_iload_n hx hb dX4_item_93 rfl (lv_at hl 2 rfl) ?_
          refine lv_eqi hiy.1 ?_
          refine kcD (ans := (r 19 (8 * x.toNatClampNeg + y.toNatClampNeg))) C0 hP hD hS (c_X2_part l D cI a v r x.toNatClampNeg y.toNatClampNeg c hc hc1 hxc hiy.2) (cwV 2 hts gX4_item_X2_part rfl rfl rfl (by decide +kernel) ⟨Nat.le_of_ble_eq_true rfl, Nat.le_of_ble_eq_true rfl⟩) 18 2 rfl rfl rfl hl.1 rfl (Nat.le_of_ble_eq_true rfl) dX4_item_94 ⟨Nat.le_of_ble_eq_true rfl, Nat.le_of_ble_eq_true rfl⟩ (fun H locs hP hD hS => ?_)
          exact kx_iret C0 (v, r) hP hD hS ⟨(pf_X4_item_2 a v r x y c hc hc1 c_2 c_62 c_66 c_72), (by rw [if_neg (show ¬ x = -1 from (fun e => absurd (e ▸ (bI_nz.mp c_62).1) (by decide)))])⟩ (Nat.le_of_ble_eq_true rfl) (Nat.le_of_ble_eq_true rfl) dX4_item_97
        · skip
          exact kx_throw (cls := "java/lang/IndexOutOfBoundsException") (text := "no such item") C0 hex hst hP hD hS hl.1 (by decide) (by decide +kernel) (by decide +kernel) (by decide) (fun w h => List.mem_cons_of_mem _ (List.mem_append_right _ h)) tno_143 tgd_143 dX4_item_75 dX4_item_78 dX4_item_79 dX4_item_81 dX4_item_84 (Nat.le_of_ble_eq_true rfl) (Nat.le_of_ble_eq_true rfl) (Nat.le_of_ble_eq_true rfl) (Nat.le_of_ble_eq_true rfl) (Nat.le_of_ble_eq_true rfl) (Nat.le_of_ble_eq_true rfl) ⟨(pf_X4_item_3 a v r x y c hc hc1 c_2 c_62 c_66 c_72), rfl⟩
  · skip
    refine lv_iload_n hx hb dX4_item_5 rfl (lv_at hl 2 rfl) ?_
    refine lv_if_lt (tgt := 51) hx hb dX4_item_6 (by decide) (fun c_6 => ?_) (fun c_6 => ?_)
    · skip
      refine lv_aload_n hx hb dX4_item_51 rfl (lv_at hl 0 rfl) ?_
      refine va_get (D := D) (ci := 4) (v := .ref (a 20)) (C := RX4) (T := TX4) (N := 2) hx hb hts hin_X4 hown hK hP 0 rfl rfl 1 (by decide) hf21 (fun _ h9 => h9) rfl dX4_item_52 ?_
      refine va_get (D := D) (ci := 3) (v := .ref (a 18)) (C := RX3) (T := TX3) (N := 6) hx hb hts hin_X3 hown hK hP 20 rfl rfl 2 (by decide) hf118 (fun _ h9 => h9) rfl dX4_item_55 ?_
      refine lv_iload_n hx hb dX4_item_58 rfl (lv_at hl 1 rfl) ?_
      refine kcD (ans := (bI (0 ≤ x ∧ x < v 4))) C0 hP hD hS (c_X2_has l D cI a v r x ) (cwV 1 hts gX4_item_X2_has rfl rfl rfl (by decide +kernel) ⟨Nat.le_of_ble_eq_true rfl, Nat.le_of_ble_eq_true rfl⟩) 18 2 rfl rfl rfl hl.1 rfl (Nat.le_of_ble_eq_true rfl) dX4_item_59 ⟨Nat.le_of_ble_eq_true rfl, Nat.le_of_ble_eq_true rfl⟩ (fun H locs hP hD hS => ?_)
      refine lv_if_eq (tgt := 75) hx hb dX4_item_62 (by decide) (fun c_62 => ?_) (fun c_62 => ?_)
      · skip
        exact kx_throw (cls := "java/lang/IndexOutOfBoundsException") (text := "no such item") C0 hex hst hP hD hS hl.1 (by decide) (by decide +kernel) (by decide +kernel) (by decide) (fun w h => List.mem_cons_of_mem _ (List.mem_append_right _ h)) tno_143 tgd_143 dX4_item_75 dX4_item_78 dX4_item_79 dX4_item_81 dX4_item_84 (Nat.le_of_ble_eq_true rfl) (Nat.le_of_ble_eq_true rfl) (Nat.le_of_ble_eq_true rfl) (Nat.le_of_ble_eq_true rfl) (Nat.le_of_ble_eq_true rfl) (Nat.le_of_ble_eq_true rfl) ⟨(pf_X4_item_4 a v r x y c hc hc1 c_2 c_6 c_62), rfl⟩
      · skip
        refine lv_iload_n hx hb dX4_item_65 rfl (lv_at hl 2 rfl) ?_
        refine lv_if_lt (tgt := 75) hx hb dX4_item_66 (by decide) (fun c_66 => ?_) (fun c_66 => ?_)
        · skip
          exact kx_throw (cls := "java/lang/IndexOutOfBoundsException") (text := "no such item") C0 hex hst hP hD hS hl.1 (by decide) (by decide +kernel) (by decide +kernel) (by decide) (fun w h => List.mem_cons_of_mem _ (List.mem_append_right _ h)) tno_143 tgd_143 dX4_item_75 dX4_item_78 dX4_item_79 dX4_item_81 dX4_item_84 (Nat.le_of_ble_eq_true rfl) (Nat.le_of_ble_eq_true rfl) (Nat.le_of_ble_eq_true rfl) (Nat.le_of_ble_eq_true rfl) (Nat.le_of_ble_eq_true rfl) (Nat.le_of_ble_eq_true rfl) ⟨(pf_X4_item_5 a v r x y c hc hc1 c_2 c_6 c_62 c_66), rfl⟩
        · skip
          refine lv_iload_n hx hb dX4_item_69 rfl (lv_at hl 2 rfl) ?_
          refine lv_bipush (v := 8) hx hb dX4_item_70 (by decide) ?_
          refine lv_icmp_lt (tgt := 85) hx hb dX4_item_72 (by decide) (fun c_72 => ?_) (fun c_72 => ?_)
          · skip
            have hh := bI_nz.mp c_62
            have hix := ix_of (N := c) (M := 150) (Int32.not_lt.mpr hh.1) hh.2 hc hc1 (by decide)
            have hxc : x.toNatClampNeg < c := by have h2 := hh.2; rw [hc, hix.1, nI_ltI (by omega) (by omega)] at h2; exact h2
            have hiy := ix_of (N := 8) (M := 8) c_66 c_72 rfl (by omega) (by decide)
            refine lv_aload_n hx hb dX4_item_85 rfl (lv_at hl 0 rfl) ?_
            refine va_get (D := D) (ci := 4) (v := .ref (a 20)) (C := RX4) (T := TX4) (N := 2) hx hb hts hin_X4 hown hK hP 0 rfl rfl 1 (by decide) hf21 (fun _ h9 => h9) rfl dX4_item_86 ?_
            refine va_get (D := D) (ci := 3) (v := .ref (a 18)) (C := RX3) (T := TX3) (N := 6) hx hb hts hin_X3 hown hK hP 20 rfl rfl 2 (by decide) hf118 (fun _ h9 => h9) rfl dX4_item_89 ?_
            refine lv_iload_n hx hb dX4_item_92 rfl (lv_at hl 1 rfl) ?_
            refine lv_eqi hix.1 ?_
            refine lv_iload_n hx hb dX4_item_93 rfl (lv_at hl 2 rfl) ?_
            refine lv_eqi hiy.1 ?_
            refine kcD (ans := (r 19 (8 * x.toNatClampNeg + y.toNatClampNeg))) C0 hP hD hS (c_X2_part l D cI a v r x.toNatClampNeg y.toNatClampNeg c hc hc1 hxc hiy.2) (cwV 2 hts gX4_item_X2_part rfl rfl rfl (by decide +kernel) ⟨Nat.le_of_ble_eq_true rfl, Nat.le_of_ble_eq_true rfl⟩) 18 2 rfl rfl rfl hl.1 rfl (Nat.le_of_ble_eq_true rfl) dX4_item_94 ⟨Nat.le_of_ble_eq_true rfl, Nat.le_of_ble_eq_true rfl⟩ (fun H locs hP hD hS => ?_)
            exact kx_iret C0 (v, r) hP hD hS ⟨(pf_X4_item_6 a v r x y c hc hc1 c_2 c_6 c_62 c_66 c_72), (by rw [if_neg (show ¬ x = -1 from (fun e => absurd (e ▸ (bI_nz.mp c_62).1) (by decide)))])⟩ (Nat.le_of_ble_eq_true rfl) (Nat.le_of_ble_eq_true rfl) dX4_item_97
          · skip
            exact kx_throw (cls := "java/lang/IndexOutOfBoundsException") (text := "no such item") C0 hex hst hP hD hS hl.1 (by decide) (by decide +kernel) (by decide +kernel) (by decide) (fun w h => List.mem_cons_of_mem _ (List.mem_append_right _ h)) tno_143 tgd_143 dX4_item_75 dX4_item_78 dX4_item_79 dX4_item_81 dX4_item_84 (Nat.le_of_ble_eq_true rfl) (Nat.le_of_ble_eq_true rfl) (Nat.le_of_ble_eq_true rfl) (Nat.le_of_ble_eq_true rfl) (Nat.le_of_ble_eq_true rfl) (Nat.le_of_ble_eq_true rfl) ⟨(pf_X4_item_7 a v r x y c hc hc1 c_2 c_6 c_62 c_66 c_72), rfl⟩
    · skip
      refine lv_iload_n hx hb dX4_item_9 rfl (lv_at hl 2 rfl) ?_
      refine lv_iconst (v := 2) hx hb dX4_item_10 (by decide) ?_
      refine lv_icmp_gt (tgt := 51) hx hb dX4_item_11 (by decide) (fun c_11 => ?_) (fun c_11 => ?_)
      · skip
        refine lv_aload_n hx hb dX4_item_51 rfl (lv_at hl 0 rfl) ?_
        refine va_get (D := D) (ci := 4) (v := .ref (a 20)) (C := RX4) (T := TX4) (N := 2) hx hb hts hin_X4 hown hK hP 0 rfl rfl 1 (by decide) hf21 (fun _ h9 => h9) rfl dX4_item_52 ?_
        refine va_get (D := D) (ci := 3) (v := .ref (a 18)) (C := RX3) (T := TX3) (N := 6) hx hb hts hin_X3 hown hK hP 20 rfl rfl 2 (by decide) hf118 (fun _ h9 => h9) rfl dX4_item_55 ?_
        refine lv_iload_n hx hb dX4_item_58 rfl (lv_at hl 1 rfl) ?_
        refine kcD (ans := (bI (0 ≤ x ∧ x < v 4))) C0 hP hD hS (c_X2_has l D cI a v r x ) (cwV 1 hts gX4_item_X2_has rfl rfl rfl (by decide +kernel) ⟨Nat.le_of_ble_eq_true rfl, Nat.le_of_ble_eq_true rfl⟩) 18 2 rfl rfl rfl hl.1 rfl (Nat.le_of_ble_eq_true rfl) dX4_item_59 ⟨Nat.le_of_ble_eq_true rfl, Nat.le_of_ble_eq_true rfl⟩ (fun H locs hP hD hS => ?_)
        refine lv_if_eq (tgt := 75) hx hb dX4_item_62 (by decide) (fun c_62 => ?_) (fun c_62 => ?_)
        · skip
          exact kx_throw (cls := "java/lang/IndexOutOfBoundsException") (text := "no such item") C0 hex hst hP hD hS hl.1 (by decide) (by decide +kernel) (by decide +kernel) (by decide) (fun w h => List.mem_cons_of_mem _ (List.mem_append_right _ h)) tno_143 tgd_143 dX4_item_75 dX4_item_78 dX4_item_79 dX4_item_81 dX4_item_84 (Nat.le_of_ble_eq_true rfl) (Nat.le_of_ble_eq_true rfl) (Nat.le_of_ble_eq_true rfl) (Nat.le_of_ble_eq_true rfl) (Nat.le_of_ble_eq_true rfl) (Nat.le_of_ble_eq_true rfl) ⟨(pf_X4_item_8 a v r x y c hc hc1 c_2 c_6 c_11 c_62), rfl⟩
        · skip
          refine lv_iload_n hx hb dX4_item_65 rfl (lv_at hl 2 rfl) ?_
          refine lv_if_lt (tgt := 75) hx hb dX4_item_66 (by decide) (fun c_66 => ?_) (fun c_66 => ?_)
          · skip
            exact kx_throw (cls := "java/lang/IndexOutOfBoundsException") (text := "no such item") C0 hex hst hP hD hS hl.1 (by decide) (by decide +kernel) (by decide +kernel) (by decide) (fun w h => List.mem_cons_of_mem _ (List.mem_append_right _ h)) tno_143 tgd_143 dX4_item_75 dX4_item_78 dX4_item_79 dX4_item_81 dX4_item_84 (Nat.le_of_ble_eq_true rfl) (Nat.le_of_ble_eq_true rfl) (Nat.le_of_ble_eq_true rfl) (Nat.le_of_ble_eq_true rfl) (Nat.le_of_ble_eq_true rfl) (Nat.le_of_ble_eq_true rfl) ⟨(pf_X4_item_9 a v r x y c hc hc1 c_2 c_6 c_11 c_62 c_66), rfl⟩
          · skip
            refine lv_iload_n hx hb dX4_item_69 rfl (lv_at hl 2 rfl) ?_
            refine lv_bipush (v := 8) hx hb dX4_item_70 (by decide) ?_
            refine lv_icmp_lt (tgt := 85) hx hb dX4_item_72 (by decide) (fun c_72 => ?_) (fun c_72 => ?_)
            · skip
              have hh := bI_nz.mp c_62
              have hix := ix_of (N := c) (M := 150) (Int32.not_lt.mpr hh.1) hh.2 hc hc1 (by decide)
              have hxc : x.toNatClampNeg < c := by have h2 := hh.2; rw [hc, hix.1, nI_ltI (by omega) (by omega)] at h2; exact h2
              have hiy := ix_of (N := 8) (M := 8) c_66 c_72 rfl (by omega) (by decide)
              refine lv_aload_n hx hb dX4_item_85 rfl (lv_at hl 0 rfl) ?_
              refine va_get (D := D) (ci := 4) (v := .ref (a 20)) (C := RX4) (T := TX4) (N := 2) hx hb hts hin_X4 hown hK hP 0 rfl rfl 1 (by decide) hf21 (fun _ h9 => h9) rfl dX4_item_86 ?_
              refine va_get (D := D) (ci := 3) (v := .ref (a 18)) (C := RX3) (T := TX3) (N := 6) hx hb hts hin_X3 hown hK hP 20 rfl rfl 2 (by decide) hf118 (fun _ h9 => h9) rfl dX4_item_89 ?_
              refine lv_iload_n hx hb dX4_item_92 rfl (lv_at hl 1 rfl) ?_
              refine lv_eqi hix.1 ?_
              refine lv_iload_n hx hb dX4_item_93 rfl (lv_at hl 2 rfl) ?_
              refine lv_eqi hiy.1 ?_
              refine kcD (ans := (r 19 (8 * x.toNatClampNeg + y.toNatClampNeg))) C0 hP hD hS (c_X2_part l D cI a v r x.toNatClampNeg y.toNatClampNeg c hc hc1 hxc hiy.2) (cwV 2 hts gX4_item_X2_part rfl rfl rfl (by decide +kernel) ⟨Nat.le_of_ble_eq_true rfl, Nat.le_of_ble_eq_true rfl⟩) 18 2 rfl rfl rfl hl.1 rfl (Nat.le_of_ble_eq_true rfl) dX4_item_94 ⟨Nat.le_of_ble_eq_true rfl, Nat.le_of_ble_eq_true rfl⟩ (fun H locs hP hD hS => ?_)
              exact kx_iret C0 (v, r) hP hD hS ⟨(pf_X4_item_10 a v r x y c hc hc1 c_2 c_6 c_11 c_62 c_66 c_72), (by rw [if_neg (show ¬ x = -1 from (fun e => absurd (e ▸ (bI_nz.mp c_62).1) (by decide)))])⟩ (Nat.le_of_ble_eq_true rfl) (Nat.le_of_ble_eq_true rfl) dX4_item_97
            · skip
              exact kx_throw (cls := "java/lang/IndexOutOfBoundsException") (text := "no such item") C0 hex hst hP hD hS hl.1 (by decide) (by decide +kernel) (by decide +kernel) (by decide) (fun w h => List.mem_cons_of_mem _ (List.mem_append_right _ h)) tno_143 tgd_143 dX4_item_75 dX4_item_78 dX4_item_79 dX4_item_81 dX4_item_84 (Nat.le_of_ble_eq_true rfl) (Nat.le_of_ble_eq_true rfl) (Nat.le_of_ble_eq_true rfl) (Nat.le_of_ble_eq_true rfl) (Nat.le_of_ble_eq_true rfl) (Nat.le_of_ble_eq_true rfl) ⟨(pf_X4_item_11 a v r x y c hc hc1 c_2 c_6 c_11 c_62 c_66 c_72), rfl⟩
      · skip
        refine lv_iload_n hx hb dX4_item_14 rfl (lv_at hl 2 rfl) ?_
        refine lv_if_ne (tgt := 28) hx hb dX4_item_15 (by decide) (fun c_15 => ?_) (fun c_15 => ?_)
        · skip
          refine lv_iload_n hx hb dX4_item_28 rfl (lv_at hl 2 rfl) ?_
          refine lv_iconst (v := 1) hx hb dX4_item_29 (by decide) ?_
          refine lv_icmp_ne (tgt := 43) hx hb dX4_item_30 (by decide) (fun c_30 => ?_) (fun c_30 => ?_)
          · skip
            refine lv_aload_n hx hb dX4_item_43 rfl (lv_at hl 0 rfl) ?_
            refine va_get (D := D) (ci := 4) (v := .ref (a 20)) (C := RX4) (T := TX4) (N := 2) hx hb hts hin_X4 hown hK hP 0 rfl rfl 1 (by decide) hf21 (fun _ h9 => h9) rfl dX4_item_44 ?_
            refine va_get (D := D) (ci := 3) (v := .int (v 7)) (C := RX3) (T := TX3) (N := 6) hx hb hts hin_X3 hown hK hP 20 rfl rfl 5 (by decide) hf133 (fun _ h9 => h9) rfl dX4_item_47 ?_
            exact kx_iret C0 (v, r) hP hD hS ⟨(pf_X4_item_12 a v r x y c hc hc1 c_2 c_6 c_11 c_15 c_30), (by rw [if_pos c_2, if_neg c_15, if_neg c_30])⟩ (Nat.le_of_ble_eq_true rfl) (Nat.le_of_ble_eq_true rfl) dX4_item_50
          · skip
            refine lv_aload_n hx hb dX4_item_33 rfl (lv_at hl 0 rfl) ?_
            refine va_get (D := D) (ci := 4) (v := .ref (a 20)) (C := RX4) (T := TX4) (N := 2) hx hb hts hin_X4 hown hK hP 0 rfl rfl 1 (by decide) hf21 (fun _ h9 => h9) rfl dX4_item_34 ?_
            refine va_get (D := D) (ci := 3) (v := .int (v 6)) (C := RX3) (T := TX3) (N := 6) hx hb hts hin_X3 hown hK hP 20 rfl rfl 4 (by decide) hf130 (fun _ h9 => h9) rfl dX4_item_37 ?_
            refine lv_goto (tgt := 50) hx hb dX4_item_40 (by decide) ?_
            exact kx_iret C0 (v, r) hP hD hS ⟨(pf_X4_item_13 a v r x y c hc hc1 c_2 c_6 c_11 c_15 c_30), (by rw [if_pos c_2, if_neg c_15, if_pos c_30])⟩ (Nat.le_of_ble_eq_true rfl) (Nat.le_of_ble_eq_true rfl) dX4_item_50
        · skip
          refine lv_aload_n hx hb dX4_item_18 rfl (lv_at hl 0 rfl) ?_
          refine va_get (D := D) (ci := 4) (v := .ref (a 20)) (C := RX4) (T := TX4) (N := 2) hx hb hts hin_X4 hown hK hP 0 rfl rfl 1 (by decide) hf21 (fun _ h9 => h9) rfl dX4_item_19 ?_
          refine va_get (D := D) (ci := 3) (v := .int (v 5)) (C := RX3) (T := TX3) (N := 6) hx hb hts hin_X3 hown hK hP 20 rfl rfl 3 (by decide) hf127 (fun _ h9 => h9) rfl dX4_item_22 ?_
          refine lv_goto (tgt := 50) hx hb dX4_item_25 (by decide) ?_
          exact kx_iret C0 (v, r) hP hD hS ⟨(pf_X4_item_14 a v r x y c hc hc1 c_2 c_6 c_11 c_15), (by rw [if_pos c_2, if_pos c_15])⟩ (Nat.le_of_ble_eq_true rfl) (Nat.le_of_ble_eq_true rfl) dX4_item_50
