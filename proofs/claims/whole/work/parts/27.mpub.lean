/-! THE REFERENCE'S PUBLIC METHODS: what each answers, and the state behind it -/
abbrev SV : Type := Int32 × (Nat → Int32) × (Nat → Nat → Int32)
def adR (r : Nat → Nat → Int32) (N : Nat) (o w k x y z : Int32) : Nat → Nat → Int32 := rU (rU (rU (rU (rU (rU (rU (rU r 2 (upd (r 2) N o)) 3 (upd (r 3) N w)) 4 (upd (r 4) N k)) 5 (upd (r 5) N x)) 6 (upd (r 6) N y)) 7 (upd (r 7) N z)) 8 (upd (r 8) N (-1))) 9 (upd (r 9) N (-1))
def thA (v : Nat → Int32) (k n : Int32) : Int32 := if k = 8 ∨ (0 ≤ k ∧ k < 8 ∧ 0 ≤ n ∧ n < 256) then (if (k = 8 ∧ v 1 = 30) ∨ (¬ k = 8 ∧ v 4 = 120) then 2 else 0) else 1
def spAt (v : Nat → Int32) (r : Nat → Nat → Int32) (N : Nat) (k n : Int32) : SV :=
  if thA v k n = 0 then (if k = 8 then (v 1, vU (vU (vU v 0 0) 1 (v 1 + 1)) 2 (v 1), r) else (v 4, vU (vU v 0 0) 4 (v 4 + 1), adR r N (v 2) 0 k n 0 0)) else (0, vU v 0 (thA v k n), r)
def thS (v : Nat → Int32) (s : Int32) : Int32 := if s < 0 ∨ 3 < s then 1 else if v 4 = 120 then 2 else 0
def spSt (v : Nat → Int32) (r : Nat → Nat → Int32) (N : Nat) (s cr : Int32) : SV :=
  if thS v s = 0 then (v 4, vU (vU v 0 0) 4 (v 4 + 1), adR r N (v 2) 4 0 s (if cr = 0 then 0 else 1) 0) else (0, vU v 0 (thS v s), r)
def thP (x y : Int32) : Int32 := if x < 0 ∨ 7 < x ∨ y < 0 ∨ 7 < y then 1 else 0
def spSp (v : Nat → Int32) (r : Nat → Nat → Int32) (x y : Int32) : SV :=
  if thP x y = 0 then ((if 2 ≤ ltr x y then ltr x y - 1 else ltr x y), vU v 0 0, r) else (0, vU v 0 1, r)
def aMo (r : Nat → Nat → Int32) (N : Nat) (x : Int32) : Prop := 0 ≤ x ∧ x < nI N ∧ ¬ r 3 x.toNatClampNeg = 4
def spKi (v : Nat → Int32) (r : Nat → Nat → Int32) (N : Nat) (x : Int32) : SV :=
  if bI (0 ≤ x ∧ x < nI N ∧ ¬ r 3 x.toNatClampNeg = 4) = 0 then (0, vU v 0 1, r) else (cnA (r 2) (r 3) (r 4) N x.toNatClampNeg, vU v 0 0, r)

set_option maxHeartbeats 1500000 in
theorem pf_X5_atom_0 (a : Nat → Nat) (v : Nat → Int32) (r : Nat → Nat → Int32) (x y : Int32) (N : Nat) (hN : v 4 = nI N) (hN1 : N ≤ 120) (c_3 : x = 8) (c_36 : x = 8) (c_45 : ¬ ((v 1) = 30)) (c_106 : 8 ≤ x) : thA v x y = 0 := by
  unfold thA; (repeat' split) <;> first | rfl | (exfalso; simp only [i_lt, i_le, i_eq, tI0, tI1, tI2, tI3, tI4, tI5, tI6, tI7, tI8, tI9, tI10, tI11, tI12, tI13, tI14, tI15, tI16, tI30, tI120, tI255, tI256, tI1000, tIm1] at *; omega)
set_option maxHeartbeats 1500000 in
theorem pf_X5_atom_1 (a : Nat → Nat) (v : Nat → Int32) (r : Nat → Nat → Int32) (x y : Int32) (N : Nat) (hN : v 4 = nI N) (hN1 : N ≤ 120) (c_3 : x = 8) (c_36 : x = 8) (c_45 : (v 1) = 30) : thA v x y = 2 := by
  unfold thA; (repeat' split) <;> first | rfl | (exfalso; simp only [i_lt, i_le, i_eq, tI0, tI1, tI2, tI3, tI4, tI5, tI6, tI7, tI8, tI9, tI10, tI11, tI12, tI13, tI14, tI15, tI16, tI30, tI120, tI255, tI256, tI1000, tIm1] at *; omega)
set_option maxHeartbeats 1500000 in
theorem pf_X5_atom_2 (a : Nat → Nat) (v : Nat → Int32) (r : Nat → Nat → Int32) (x y : Int32) (N : Nat) (hN : v 4 = nI N) (hN1 : N ≤ 120) (c_3 : ¬ (x = 8)) (c_7 : x < 0) (c_36 : ¬ (x = 8)) (c_62 : ¬ ((v 4) = 120)) : thA v x y = 1 := by
  unfold thA; (repeat' split) <;> first | rfl | (exfalso; simp only [i_lt, i_le, i_eq, tI0, tI1, tI2, tI3, tI4, tI5, tI6, tI7, tI8, tI9, tI10, tI11, tI12, tI13, tI14, tI15, tI16, tI30, tI120, tI255, tI256, tI1000, tIm1] at *; omega)
set_option maxHeartbeats 1500000 in
theorem pf_X5_atom_3 (a : Nat → Nat) (v : Nat → Int32) (r : Nat → Nat → Int32) (x y : Int32) (N : Nat) (hN : v 4 = nI N) (hN1 : N ≤ 120) (c_3 : ¬ (x = 8)) (c_7 : x < 0) (c_36 : ¬ (x = 8)) (c_62 : (v 4) = 120) : thA v x y = 1 := by
  unfold thA; (repeat' split) <;> first | rfl | (exfalso; simp only [i_lt, i_le, i_eq, tI0, tI1, tI2, tI3, tI4, tI5, tI6, tI7, tI8, tI9, tI10, tI11, tI12, tI13, tI14, tI15, tI16, tI30, tI120, tI255, tI256, tI1000, tIm1] at *; omega)
set_option maxHeartbeats 1500000 in
theorem pf_X5_atom_4 (a : Nat → Nat) (v : Nat → Int32) (r : Nat → Nat → Int32) (x y : Int32) (N : Nat) (hN : v 4 = nI N) (hN1 : N ≤ 120) (c_3 : ¬ (x = 8)) (c_7 : ¬ (x < 0)) (c_13 : 8 ≤ x) (c_36 : ¬ (x = 8)) (c_62 : ¬ ((v 4) = 120)) : thA v x y = 1 := by
  unfold thA; (repeat' split) <;> first | rfl | (exfalso; simp only [i_lt, i_le, i_eq, tI0, tI1, tI2, tI3, tI4, tI5, tI6, tI7, tI8, tI9, tI10, tI11, tI12, tI13, tI14, tI15, tI16, tI30, tI120, tI255, tI256, tI1000, tIm1] at *; omega)
set_option maxHeartbeats 1500000 in
theorem pf_X5_atom_5 (a : Nat → Nat) (v : Nat → Int32) (r : Nat → Nat → Int32) (x y : Int32) (N : Nat) (hN : v 4 = nI N) (hN1 : N ≤ 120) (c_3 : ¬ (x = 8)) (c_7 : ¬ (x < 0)) (c_13 : 8 ≤ x) (c_36 : ¬ (x = 8)) (c_62 : (v 4) = 120) : thA v x y = 1 := by
  unfold thA; (repeat' split) <;> first | rfl | (exfalso; simp only [i_lt, i_le, i_eq, tI0, tI1, tI2, tI3, tI4, tI5, tI6, tI7, tI8, tI9, tI10, tI11, tI12, tI13, tI14, tI15, tI16, tI30, tI120, tI255, tI256, tI1000, tIm1] at *; omega)
set_option maxHeartbeats 1500000 in
theorem pf_X5_atom_6 (a : Nat → Nat) (v : Nat → Int32) (r : Nat → Nat → Int32) (x y : Int32) (N : Nat) (hN : v 4 = nI N) (hN1 : N ≤ 120) (c_3 : ¬ (x = 8)) (c_7 : ¬ (x < 0)) (c_13 : ¬ (8 ≤ x)) (c_17 : y < 0) (c_36 : ¬ (x = 8)) (c_62 : ¬ ((v 4) = 120)) : thA v x y = 1 := by
  unfold thA; (repeat' split) <;> first | rfl | (exfalso; simp only [i_lt, i_le, i_eq, tI0, tI1, tI2, tI3, tI4, tI5, tI6, tI7, tI8, tI9, tI10, tI11, tI12, tI13, tI14, tI15, tI16, tI30, tI120, tI255, tI256, tI1000, tIm1] at *; omega)
set_option maxHeartbeats 1500000 in
theorem pf_X5_atom_7 (a : Nat → Nat) (v : Nat → Int32) (r : Nat → Nat → Int32) (x y : Int32) (N : Nat) (hN : v 4 = nI N) (hN1 : N ≤ 120) (c_3 : ¬ (x = 8)) (c_7 : ¬ (x < 0)) (c_13 : ¬ (8 ≤ x)) (c_17 : y < 0) (c_36 : ¬ (x = 8)) (c_62 : (v 4) = 120) : thA v x y = 1 := by
  unfold thA; (repeat' split) <;> first | rfl | (exfalso; simp only [i_lt, i_le, i_eq, tI0, tI1, tI2, tI3, tI4, tI5, tI6, tI7, tI8, tI9, tI10, tI11, tI12, tI13, tI14, tI15, tI16, tI30, tI120, tI255, tI256, tI1000, tIm1] at *; omega)
set_option maxHeartbeats 1500000 in
theorem pf_X5_atom_8 (a : Nat → Nat) (v : Nat → Int32) (r : Nat → Nat → Int32) (x y : Int32) (N : Nat) (hN : v 4 = nI N) (hN1 : N ≤ 120) (c_3 : ¬ (x = 8)) (c_7 : ¬ (x < 0)) (c_13 : ¬ (8 ≤ x)) (c_17 : ¬ (y < 0)) (c_24 : 256 ≤ y) (c_36 : ¬ (x = 8)) (c_62 : ¬ ((v 4) = 120)) : thA v x y = 1 := by
  unfold thA; (repeat' split) <;> first | rfl | (exfalso; simp only [i_lt, i_le, i_eq, tI0, tI1, tI2, tI3, tI4, tI5, tI6, tI7, tI8, tI9, tI10, tI11, tI12, tI13, tI14, tI15, tI16, tI30, tI120, tI255, tI256, tI1000, tIm1] at *; omega)
set_option maxHeartbeats 1500000 in
theorem pf_X5_atom_9 (a : Nat → Nat) (v : Nat → Int32) (r : Nat → Nat → Int32) (x y : Int32) (N : Nat) (hN : v 4 = nI N) (hN1 : N ≤ 120) (c_3 : ¬ (x = 8)) (c_7 : ¬ (x < 0)) (c_13 : ¬ (8 ≤ x)) (c_17 : ¬ (y < 0)) (c_24 : 256 ≤ y) (c_36 : ¬ (x = 8)) (c_62 : (v 4) = 120) : thA v x y = 1 := by
  unfold thA; (repeat' split) <;> first | rfl | (exfalso; simp only [i_lt, i_le, i_eq, tI0, tI1, tI2, tI3, tI4, tI5, tI6, tI7, tI8, tI9, tI10, tI11, tI12, tI13, tI14, tI15, tI16, tI30, tI120, tI255, tI256, tI1000, tIm1] at *; omega)
set_option maxHeartbeats 1500000 in
theorem pf_X5_atom_10 (a : Nat → Nat) (v : Nat → Int32) (r : Nat → Nat → Int32) (x y : Int32) (N : Nat) (hN : v 4 = nI N) (hN1 : N ≤ 120) (c_3 : ¬ (x = 8)) (c_7 : ¬ (x < 0)) (c_13 : ¬ (8 ≤ x)) (c_17 : ¬ (y < 0)) (c_24 : ¬ (256 ≤ y)) (c_36 : ¬ (x = 8)) (c_62 : ¬ ((v 4) = 120)) (c_106 : ¬ (8 ≤ x)) : thA v x y = 0 := by
  unfold thA; (repeat' split) <;> first | rfl | (exfalso; simp only [i_lt, i_le, i_eq, tI0, tI1, tI2, tI3, tI4, tI5, tI6, tI7, tI8, tI9, tI10, tI11, tI12, tI13, tI14, tI15, tI16, tI30, tI120, tI255, tI256, tI1000, tIm1] at *; omega)
set_option maxHeartbeats 1500000 in
theorem pf_X5_atom_11 (a : Nat → Nat) (v : Nat → Int32) (r : Nat → Nat → Int32) (x y : Int32) (N : Nat) (hN : v 4 = nI N) (hN1 : N ≤ 120) (c_3 : ¬ (x = 8)) (c_7 : ¬ (x < 0)) (c_13 : ¬ (8 ≤ x)) (c_17 : ¬ (y < 0)) (c_24 : ¬ (256 ≤ y)) (c_36 : ¬ (x = 8)) (c_62 : (v 4) = 120) : thA v x y = 2 := by
  unfold thA; (repeat' split) <;> first | rfl | (exfalso; simp only [i_lt, i_le, i_eq, tI0, tI1, tI2, tI3, tI4, tI5, tI6, tI7, tI8, tI9, tI10, tI11, tI12, tI13, tI14, tI15, tI16, tI30, tI120, tI255, tI256, tI1000, tIm1] at *; omega)
set_option maxHeartbeats 1500000 in
set_option maxRecDepth 100000 in
theorem c_X5_atom (l : Launch) (D : va_G) (cI : ClassId) (a : Nat → Nat) (v : Nat → Int32) (r : Nat → Nat → Int32) (x y : Int32) (N : Nat) (hN : v 4 = nI N) (hN1 : N ≤ 120) : KI l D cI yX5_atom wsX5_atom ({ frames := 1, cells := 0, slots := 0, locals := 26 }) [.ref (a 0), .int x, .int y] (wM cI a v r) (fun u : (Nat → Int32) × (Nat → Nat → Int32) => wM cI a u.1 u.2) (fun q u => (q, u.1, u.2) = spAt v r N x y) := by
  refine KI.of (cc := cX5_atom) (nL := 5) (ret := (some .int)) (by decide) rfl (Nat.le_of_ble_eq_true rfl) ?_
  intro pg9 en9 s m args below meth cd9 A ls C0 hP hD hS hl
  have hx := C0.1.1
  have hb := C0.1.2.1
  have hml := C0.1.2.2.1
  have hown : s.vm.findClass RX5 = some m.cls := C0.1.2.2.2.1
  have hts : ∀ w ∈ wsX5_atom, w.before args s = true := C0.1.2.2.2.2
  have hK := C0.2.2.2.1
  have hin_X5 : ∀ w ∈ wsX50, w ∈ wsX5_atom := fun w h => List.mem_cons_of_mem _ (List.mem_append_right _ h)
  have hf7 : (Cond.fieldLink RX5 7 "FormulaListsModel" "lists" "I").before args s = true := hts _ (by decide +kernel)
  have hf50 : (Cond.fieldLink RX5 50 "FormulaListsModel" "thrown" "I").before args s = true := hts _ (by decide +kernel)
  have hf56 : (Cond.fieldLink RX5 56 "FormulaListsModel" "open" "I").before args s = true := hts _ (by decide +kernel)
  have hf53 : (Cond.fieldLink RX5 53 "FormulaListsModel" "nodes" "I").before args s = true := hts _ (by decide +kernel)
  have hl : lv_has ls 5 [(0, .ref (a 0)), (1, .int x), (2, .int y)] := hl
  have hP : va_P D vwCl (wM cI a v r) s.heap := hP
  refine lv_iload_n hx hb dX5_atom_0 rfl (lv_at hl 1 rfl) ?_
  refine lv_bipush (v := 8) hx hb dX5_atom_1 (by decide) ?_
  refine lv_icmp_eq (tgt := 27) hx hb dX5_atom_3 (by decide) (fun c_3 => ?_) (fun c_3 => ?_)
  · skip
    refine lv_iconst (v := 1) hx hb dX5_atom_27 (by decide) ?_
    refine lv_goto (tgt := 32) hx hb dX5_atom_28 (by decide) ?_
    refine lv_istore_n (lv' := [(3, .int 1), (0, .ref (a 0)), (1, .int x), (2, .int y)]) hx hb dX5_atom_32 rfl hl (by decide) rfl (fun ls hl => ?_)
    refine lv_iload_n hx hb dX5_atom_33 rfl (lv_at hl 2 rfl) ?_
    refine lv_bipush (v := 8) hx hb dX5_atom_34 (by decide) ?_
    refine lv_icmp_ne (tgt := 56) hx hb dX5_atom_36 (by decide) (fun c_36 => absurd c_3 c_36) (fun c_36 => ?_)
    refine lv_aload_n hx hb dX5_atom_39 rfl (lv_at hl 1 rfl) ?_
    refine va_get (D := D) (ci := 5) (v := .int (v 1)) (C := RX5) (T := TX5) (N := 25) hx hb hts hin_X5 hown hK hP 0 rfl rfl 1 (by decide) hf7 (fun _ h9 => h9) rfl dX5_atom_40 ?_
    refine lv_bipush (v := 30) hx hb dX5_atom_43 (by decide) ?_
    refine lv_icmp_ne (tgt := 52) hx hb dX5_atom_45 (by decide) (fun c_45 => ?_) (fun c_45 => ?_)
    · skip
      refine lv_iconst (v := 0) hx hb dX5_atom_52 (by decide) ?_
      refine lv_goto (tgt := 70) hx hb dX5_atom_53 (by decide) ?_
      refine lv_istore (lv' := [(4, .int 0), (3, .int 1), (0, .ref (a 0)), (1, .int x), (2, .int y)]) hx hb dX5_atom_70 hl (by decide) rfl (fun ls hl => ?_)
      refine lv_aload_n hx hb dX5_atom_72 rfl (lv_at hl 2 rfl) ?_
      refine lv_iload_n hx hb dX5_atom_73 rfl (lv_at hl 1 rfl) ?_
      refine lv_if_ne (tgt := 81) hx hb dX5_atom_74 (by decide) (fun c_74 => ?_) (fun c_74 => absurd c_74 (by decide))
      refine lv_iload hx hb dX5_atom_81 (lv_at hl 0 rfl) ?_
      refine lv_if_eq (tgt := 90) hx hb dX5_atom_83 (by decide) (fun c_83 => ?_) (fun c_83 => absurd (by decide) c_83)
      refine lv_iconst (v := 0) hx hb dX5_atom_90 (by decide) ?_
      refine va_put (D := D) (ci := 5) (v := .int 0) (ty := .int) (C := RX5) (T := TX5) (N := 25) hx hb hts hin_X5 tyX5 tyX5_ok nmX5 hown hK hP hD hS 0 rfl rfl 0 (by decide) hf50 (fun _ h9 => h9) rfl (by decide +kernel) rfl rfl (Nat.le_of_ble_eq_true rfl) dX5_atom_91 (fun H locs hP hD hS => ?_)
      have hP : va_P D vwCl (wM cI a (vU v 0 0) r) H := hP
      have hD : va_D A (wM cI a (vU v 0 0) r) := hD
      refine lv_aload_n hx hb dX5_atom_94 rfl (lv_at hl 2 rfl) ?_
      refine va_get (D := D) (ci := 5) (v := .int 0) (C := RX5) (T := TX5) (N := 25) hx hb hts hin_X5 hown hK hP 0 rfl rfl 0 (by decide) hf50 (fun _ h9 => h9) rfl dX5_atom_95 ?_
      refine lv_if_le (tgt := 103) hx hb dX5_atom_98 (by decide) (fun c_98 => ?_) (fun c_98 => absurd (by decide) c_98)
      refine lv_iload_n hx hb dX5_atom_103 rfl (lv_at hl 3 rfl) ?_
      refine lv_bipush (v := 8) hx hb dX5_atom_104 (by decide) ?_
      refine lv_icmp_ge (tgt := 119) hx hb dX5_atom_106 (by decide) (fun c_106 => ?_) (fun c_106 => absurd (by rw [c_3]; decide) c_106)
      refine lv_aload_n hx hb dX5_atom_119 rfl (lv_at hl 2 rfl) ?_
      refine lv_aload_n hx hb dX5_atom_120 rfl (lv_at hl 2 rfl) ?_
      refine va_get (D := D) (ci := 5) (v := .int (v 1)) (C := RX5) (T := TX5) (N := 25) hx hb hts hin_X5 hown hK hP 0 rfl rfl 1 (by decide) hf7 (fun _ h9 => h9) rfl dX5_atom_121 ?_
      refine va_put (D := D) (ci := 5) (v := .int (v 1)) (ty := .int) (C := RX5) (T := TX5) (N := 25) hx hb hts hin_X5 tyX5 tyX5_ok nmX5 hown hK hP hD hS 0 rfl rfl 2 (by decide) hf56 (fun _ h9 => h9) rfl (by decide +kernel) rfl rfl (Nat.le_of_ble_eq_true rfl) dX5_atom_124 (fun H locs hP hD hS => ?_)
      have hP : va_P D vwCl (wM cI a (vU (vU v 0 0) 2 (v 1)) r) H := hP
      have hD : va_D A (wM cI a (vU (vU v 0 0) 2 (v 1)) r) := hD
      refine lv_aload_n hx hb dX5_atom_127 rfl (lv_at hl 2 rfl) ?_
      refine lv_dup hx hb dX5_atom_128 rfl ?_
      refine va_get (D := D) (ci := 5) (v := .int (v 1)) (C := RX5) (T := TX5) (N := 25) hx hb hts hin_X5 hown hK hP 0 rfl rfl 1 (by decide) hf7 (fun _ h9 => h9) rfl dX5_atom_129 ?_
      refine lv_iconst (v := 1) hx hb dX5_atom_132 (by decide) ?_
      refine lv_iadd hx hb dX5_atom_133 ?_
      refine va_put (D := D) (ci := 5) (v := .int ((v 1) + 1)) (ty := .int) (C := RX5) (T := TX5) (N := 25) hx hb hts hin_X5 tyX5 tyX5_ok nmX5 hown hK hP hD hS 0 rfl rfl 1 (by decide) hf7 (fun _ h9 => h9) rfl (by decide +kernel) rfl rfl (Nat.le_of_ble_eq_true rfl) dX5_atom_134 (fun H locs hP hD hS => ?_)
      have hP : va_P D vwCl (wM cI a (vU (vU (vU v 0 0) 1 ((v 1) + 1)) 2 (v 1)) r) H := hP
      have hD : va_D A (wM cI a (vU (vU (vU v 0 0) 1 ((v 1) + 1)) 2 (v 1)) r) := hD
      refine lv_aload_n hx hb dX5_atom_137 rfl (lv_at hl 2 rfl) ?_
      refine va_get (D := D) (ci := 5) (v := .int (v 1)) (C := RX5) (T := TX5) (N := 25) hx hb hts hin_X5 hown hK hP 0 rfl rfl 2 (by decide) hf56 (fun _ h9 => h9) rfl dX5_atom_138 ?_
      exact k_iret C0 ((vU (vU (vU v 0 0) 1 ((v 1) + 1)) 2 (v 1)), r) hP hD hS (by rw [spAt, (pf_X5_atom_0 a v r x y N hN hN1 c_3 c_36 c_45 c_106), if_pos rfl, if_pos c_3] <;> rfl) dX5_atom_141
    · skip
      refine lv_iconst (v := 1) hx hb dX5_atom_48 (by decide) ?_
      refine lv_goto (tgt := 70) hx hb dX5_atom_49 (by decide) ?_
      refine lv_istore (lv' := [(4, .int 1), (3, .int 1), (0, .ref (a 0)), (1, .int x), (2, .int y)]) hx hb dX5_atom_70 hl (by decide) rfl (fun ls hl => ?_)
      refine lv_aload_n hx hb dX5_atom_72 rfl (lv_at hl 2 rfl) ?_
      refine lv_iload_n hx hb dX5_atom_73 rfl (lv_at hl 1 rfl) ?_
      refine lv_if_ne (tgt := 81) hx hb dX5_atom_74 (by decide) (fun c_74 => ?_) (fun c_74 => absurd c_74 (by decide))
      refine lv_iload hx hb dX5_atom_81 (lv_at hl 0 rfl) ?_
      refine lv_if_eq (tgt := 90) hx hb dX5_atom_83 (by decide) (fun c_83 => absurd c_83 (by decide)) (fun c_83 => ?_)
      refine lv_iconst (v := 2) hx hb dX5_atom_86 (by decide) ?_
      refine lv_goto (tgt := 91) hx hb dX5_atom_87 (by decide) ?_
      refine va_put (D := D) (ci := 5) (v := .int 2) (ty := .int) (C := RX5) (T := TX5) (N := 25) hx hb hts hin_X5 tyX5 tyX5_ok nmX5 hown hK hP hD hS 0 rfl rfl 0 (by decide) hf50 (fun _ h9 => h9) rfl (by decide +kernel) rfl rfl (Nat.le_of_ble_eq_true rfl) dX5_atom_91 (fun H locs hP hD hS => ?_)
      have hP : va_P D vwCl (wM cI a (vU v 0 2) r) H := hP
      have hD : va_D A (wM cI a (vU v 0 2) r) := hD
      refine lv_aload_n hx hb dX5_atom_94 rfl (lv_at hl 2 rfl) ?_
      refine va_get (D := D) (ci := 5) (v := .int 2) (C := RX5) (T := TX5) (N := 25) hx hb hts hin_X5 hown hK hP 0 rfl rfl 0 (by decide) hf50 (fun _ h9 => h9) rfl dX5_atom_95 ?_
      refine lv_if_le (tgt := 103) hx hb dX5_atom_98 (by decide) (fun c_98 => absurd c_98 (by decide)) (fun c_98 => ?_)
      refine lv_iconst (v := 0) hx hb dX5_atom_101 (by decide) ?_
      exact k_iret C0 ((vU v 0 2), r) hP hD hS (by rw [spAt, (pf_X5_atom_1 a v r x y N hN hN1 c_3 c_36 c_45), if_neg (by decide)] <;> rfl) dX5_atom_102
  · skip
    refine lv_iload_n hx hb dX5_atom_6 rfl (lv_at hl 1 rfl) ?_
    refine lv_if_lt (tgt := 31) hx hb dX5_atom_7 (by decide) (fun c_7 => ?_) (fun c_7 => ?_)
    · skip
      refine lv_iconst (v := 0) hx hb dX5_atom_31 (by decide) ?_
      refine lv_istore_n (lv' := [(3, .int 0), (0, .ref (a 0)), (1, .int x), (2, .int y)]) hx hb dX5_atom_32 rfl hl (by decide) rfl (fun ls hl => ?_)
      refine lv_iload_n hx hb dX5_atom_33 rfl (lv_at hl 2 rfl) ?_
      refine lv_bipush (v := 8) hx hb dX5_atom_34 (by decide) ?_
      refine lv_icmp_ne (tgt := 56) hx hb dX5_atom_36 (by decide) (fun c_36 => ?_) (fun c_36 => absurd c_36 c_3)
      refine lv_aload_n hx hb dX5_atom_56 rfl (lv_at hl 1 rfl) ?_
      refine va_get (D := D) (ci := 5) (v := .int (v 4)) (C := RX5) (T := TX5) (N := 25) hx hb hts hin_X5 hown hK hP 0 rfl rfl 4 (by decide) hf53 (fun _ h9 => h9) rfl dX5_atom_57 ?_
      refine lv_bipush (v := 120) hx hb dX5_atom_60 (by decide) ?_
      refine lv_icmp_ne (tgt := 69) hx hb dX5_atom_62 (by decide) (fun c_62 => ?_) (fun c_62 => ?_)
      · skip
        refine lv_iconst (v := 0) hx hb dX5_atom_69 (by decide) ?_
        refine lv_istore (lv' := [(4, .int 0), (3, .int 0), (0, .ref (a 0)), (1, .int x), (2, .int y)]) hx hb dX5_atom_70 hl (by decide) rfl (fun ls hl => ?_)
        refine lv_aload_n hx hb dX5_atom_72 rfl (lv_at hl 2 rfl) ?_
        refine lv_iload_n hx hb dX5_atom_73 rfl (lv_at hl 1 rfl) ?_
        refine lv_if_ne (tgt := 81) hx hb dX5_atom_74 (by decide) (fun c_74 => absurd (by decide) c_74) (fun c_74 => ?_)
        refine lv_iconst (v := 1) hx hb dX5_atom_77 (by decide) ?_
        refine lv_goto (tgt := 91) hx hb dX5_atom_78 (by decide) ?_
        refine va_put (D := D) (ci := 5) (v := .int 1) (ty := .int) (C := RX5) (T := TX5) (N := 25) hx hb hts hin_X5 tyX5 tyX5_ok nmX5 hown hK hP hD hS 0 rfl rfl 0 (by decide) hf50 (fun _ h9 => h9) rfl (by decide +kernel) rfl rfl (Nat.le_of_ble_eq_true rfl) dX5_atom_91 (fun H locs hP hD hS => ?_)
        have hP : va_P D vwCl (wM cI a (vU v 0 1) r) H := hP
        have hD : va_D A (wM cI a (vU v 0 1) r) := hD
        refine lv_aload_n hx hb dX5_atom_94 rfl (lv_at hl 2 rfl) ?_
        refine va_get (D := D) (ci := 5) (v := .int 1) (C := RX5) (T := TX5) (N := 25) hx hb hts hin_X5 hown hK hP 0 rfl rfl 0 (by decide) hf50 (fun _ h9 => h9) rfl dX5_atom_95 ?_
        refine lv_if_le (tgt := 103) hx hb dX5_atom_98 (by decide) (fun c_98 => absurd c_98 (by decide)) (fun c_98 => ?_)
        refine lv_iconst (v := 0) hx hb dX5_atom_101 (by decide) ?_
        exact k_iret C0 ((vU v 0 1), r) hP hD hS (by rw [spAt, (pf_X5_atom_2 a v r x y N hN hN1 c_3 c_7 c_36 c_62), if_neg (by decide)] <;> rfl) dX5_atom_102
      · skip
        refine lv_iconst (v := 1) hx hb dX5_atom_65 (by decide) ?_
        refine lv_goto (tgt := 70) hx hb dX5_atom_66 (by decide) ?_
        refine lv_istore (lv' := [(4, .int 1), (3, .int 0), (0, .ref (a 0)), (1, .int x), (2, .int y)]) hx hb dX5_atom_70 hl (by decide) rfl (fun ls hl => ?_)
        refine lv_aload_n hx hb dX5_atom_72 rfl (lv_at hl 2 rfl) ?_
        refine lv_iload_n hx hb dX5_atom_73 rfl (lv_at hl 1 rfl) ?_
        refine lv_if_ne (tgt := 81) hx hb dX5_atom_74 (by decide) (fun c_74 => absurd (by decide) c_74) (fun c_74 => ?_)
        refine lv_iconst (v := 1) hx hb dX5_atom_77 (by decide) ?_
        refine lv_goto (tgt := 91) hx hb dX5_atom_78 (by decide) ?_
        refine va_put (D := D) (ci := 5) (v := .int 1) (ty := .int) (C := RX5) (T := TX5) (N := 25) hx hb hts hin_X5 tyX5 tyX5_ok nmX5 hown hK hP hD hS 0 rfl rfl 0 (by decide) hf50 (fun _ h9 => h9) rfl (by decide +kernel) rfl rfl (Nat.le_of_ble_eq_true rfl) dX5_atom_91 (fun H locs hP hD hS => ?_)
        have hP : va_P D vwCl (wM cI a (vU v 0 1) r) H := hP
        have hD : va_D A (wM cI a (vU v 0 1) r) := hD
        refine lv_aload_n hx hb dX5_atom_94 rfl (lv_at hl 2 rfl) ?_
        refine va_get (D := D) (ci := 5) (v := .int 1) (C := RX5) (T := TX5) (N := 25) hx hb hts hin_X5 hown hK hP 0 rfl rfl 0 (by decide) hf50 (fun _ h9 => h9) rfl dX5_atom_95 ?_
        refine lv_if_le (tgt := 103) hx hb dX5_atom_98 (by decide) (fun c_98 => absurd c_98 (by decide)) (fun c_98 => ?_)
        refine lv_iconst (v := 0) hx hb dX5_atom_101 (by decide) ?_
        exact k_iret C0 ((vU v 0 1), r) hP hD hS (by rw [spAt, (pf_X5_atom_3 a v r x y N hN hN1 c_3 c_7 c_36 c_62), if_neg (by decide)] <;> rfl) dX5_atom_102
    · skip
      refine lv_iload_n hx hb dX5_atom_10 rfl (lv_at hl 1 rfl) ?_
      refine lv_bipush (v := 8) hx hb dX5_atom_11 (by decide) ?_
      refine lv_icmp_ge (tgt := 31) hx hb dX5_atom_13 (by decide) (fun c_13 => ?_) (fun c_13 => ?_)
      · skip
        refine lv_iconst (v := 0) hx hb dX5_atom_31 (by decide) ?_
        refine lv_istore_n (lv' := [(3, .int 0), (0, .ref (a 0)), (1, .int x), (2, .int y)]) hx hb dX5_atom_32 rfl hl (by decide) rfl (fun ls hl => ?_)
        refine lv_iload_n hx hb dX5_atom_33 rfl (lv_at hl 2 rfl) ?_
        refine lv_bipush (v := 8) hx hb dX5_atom_34 (by decide) ?_
        refine lv_icmp_ne (tgt := 56) hx hb dX5_atom_36 (by decide) (fun c_36 => ?_) (fun c_36 => absurd c_36 c_3)
        refine lv_aload_n hx hb dX5_atom_56 rfl (lv_at hl 1 rfl) ?_
        refine va_get (D := D) (ci := 5) (v := .int (v 4)) (C := RX5) (T := TX5) (N := 25) hx hb hts hin_X5 hown hK hP 0 rfl rfl 4 (by decide) hf53 (fun _ h9 => h9) rfl dX5_atom_57 ?_
        refine lv_bipush (v := 120) hx hb dX5_atom_60 (by decide) ?_
        refine lv_icmp_ne (tgt := 69) hx hb dX5_atom_62 (by decide) (fun c_62 => ?_) (fun c_62 => ?_)
        · skip
          refine lv_iconst (v := 0) hx hb dX5_atom_69 (by decide) ?_
          refine lv_istore (lv' := [(4, .int 0), (3, .int 0), (0, .ref (a 0)), (1, .int x), (2, .int y)]) hx hb dX5_atom_70 hl (by decide) rfl (fun ls hl => ?_)
          refine lv_aload_n hx hb dX5_atom_72 rfl (lv_at hl 2 rfl) ?_
          refine lv_iload_n hx hb dX5_atom_73 rfl (lv_at hl 1 rfl) ?_
          refine lv_if_ne (tgt := 81) hx hb dX5_atom_74 (by decide) (fun c_74 => absurd (by decide) c_74) (fun c_74 => ?_)
          refine lv_iconst (v := 1) hx hb dX5_atom_77 (by decide) ?_
          refine lv_goto (tgt := 91) hx hb dX5_atom_78 (by decide) ?_
          refine va_put (D := D) (ci := 5) (v := .int 1) (ty := .int) (C := RX5) (T := TX5) (N := 25) hx hb hts hin_X5 tyX5 tyX5_ok nmX5 hown hK hP hD hS 0 rfl rfl 0 (by decide) hf50 (fun _ h9 => h9) rfl (by decide +kernel) rfl rfl (Nat.le_of_ble_eq_true rfl) dX5_atom_91 (fun H locs hP hD hS => ?_)
          have hP : va_P D vwCl (wM cI a (vU v 0 1) r) H := hP
          have hD : va_D A (wM cI a (vU v 0 1) r) := hD
          refine lv_aload_n hx hb dX5_atom_94 rfl (lv_at hl 2 rfl) ?_
          refine va_get (D := D) (ci := 5) (v := .int 1) (C := RX5) (T := TX5) (N := 25) hx hb hts hin_X5 hown hK hP 0 rfl rfl 0 (by decide) hf50 (fun _ h9 => h9) rfl dX5_atom_95 ?_
          refine lv_if_le (tgt := 103) hx hb dX5_atom_98 (by decide) (fun c_98 => absurd c_98 (by decide)) (fun c_98 => ?_)
          refine lv_iconst (v := 0) hx hb dX5_atom_101 (by decide) ?_
          exact k_iret C0 ((vU v 0 1), r) hP hD hS (by rw [spAt, (pf_X5_atom_4 a v r x y N hN hN1 c_3 c_7 c_13 c_36 c_62), if_neg (by decide)] <;> rfl) dX5_atom_102
        · skip
          refine lv_iconst (v := 1) hx hb dX5_atom_65 (by decide) ?_
          refine lv_goto (tgt := 70) hx hb dX5_atom_66 (by decide) ?_
          refine lv_istore (lv' := [(4, .int 1), (3, .int 0), (0, .ref (a 0)), (1, .int x), (2, .int y)]) hx hb dX5_atom_70 hl (by decide) rfl (fun ls hl => ?_)
          refine lv_aload_n hx hb dX5_atom_72 rfl (lv_at hl 2 rfl) ?_
          refine lv_iload_n hx hb dX5_atom_73 rfl (lv_at hl 1 rfl) ?_
          refine lv_if_ne (tgt := 81) hx hb dX5_atom_74 (by decide) (fun c_74 => absurd (by decide) c_74) (fun c_74 => ?_)
          refine lv_iconst (v := 1) hx hb dX5_atom_77 (by decide) ?_
          refine lv_goto (tgt := 91) hx hb dX5_atom_78 (by decide) ?_
          refine va_put (D := D) (ci := 5) (v := .int 1) (ty := .int) (C := RX5) (T := TX5) (N := 25) hx hb hts hin_X5 tyX5 tyX5_ok nmX5 hown hK hP hD hS 0 rfl rfl 0 (by decide) hf50 (fun _ h9 => h9) rfl (by decide +kernel) rfl rfl (Nat.le_of_ble_eq_true rfl) dX5_atom_91 (fun H locs hP hD hS => ?_)
          have hP : va_P D vwCl (wM cI a (vU v 0 1) r) H := hP
          have hD : va_D A (wM cI a (vU v 0 1) r) := hD
          refine lv_aload_n hx hb dX5_atom_94 rfl (lv_at hl 2 rfl) ?_
          refine va_get (D := D) (ci := 5) (v := .int 1) (C := RX5) (T := TX5) (N := 25) hx hb hts hin_X5 hown hK hP 0 rfl rfl 0 (by decide) hf50 (fun _ h9 => h9) rfl dX5_atom_95 ?_
          refine lv_if_le (tgt := 103) hx hb dX5_atom_98 (by decide) (fun c_98 => absurd c_98 (by decide)) (fun c_98 => ?_)
          refine lv_iconst (v := 0) hx hb dX5_atom_101 (by decide) ?_
          exact k_iret C0 ((vU v 0 1), r) hP hD hS (by rw [spAt, (pf_X5_atom_5 a v r x y N hN hN1 c_3 c_7 c_13 c_36 c_62), if_neg (by decide)] <;> rfl) dX5_atom_102
      · skip
        refine lv_iload_n hx hb dX5_atom_16 rfl (lv_at hl 2 rfl) ?_
        refine lv_if_lt (tgt := 31) hx hb dX5_atom_17 (by decide) (fun c_17 => ?_) (fun c_17 => ?_)
        · skip
          refine lv_iconst (v := 0) hx hb dX5_atom_31 (by decide) ?_
          refine lv_istore_n (lv' := [(3, .int 0), (0, .ref (a 0)), (1, .int x), (2, .int y)]) hx hb dX5_atom_32 rfl hl (by decide) rfl (fun ls hl => ?_)
          refine lv_iload_n hx hb dX5_atom_33 rfl (lv_at hl 2 rfl) ?_
          refine lv_bipush (v := 8) hx hb dX5_atom_34 (by decide) ?_
          refine lv_icmp_ne (tgt := 56) hx hb dX5_atom_36 (by decide) (fun c_36 => ?_) (fun c_36 => absurd c_36 c_3)
          refine lv_aload_n hx hb dX5_atom_56 rfl (lv_at hl 1 rfl) ?_
          refine va_get (D := D) (ci := 5) (v := .int (v 4)) (C := RX5) (T := TX5) (N := 25) hx hb hts hin_X5 hown hK hP 0 rfl rfl 4 (by decide) hf53 (fun _ h9 => h9) rfl dX5_atom_57 ?_
          refine lv_bipush (v := 120) hx hb dX5_atom_60 (by decide) ?_
          refine lv_icmp_ne (tgt := 69) hx hb dX5_atom_62 (by decide) (fun c_62 => ?_) (fun c_62 => ?_)
          · skip
            refine lv_iconst (v := 0) hx hb dX5_atom_69 (by decide) ?_
            refine lv_istore (lv' := [(4, .int 0), (3, .int 0), (0, .ref (a 0)), (1, .int x), (2, .int y)]) hx hb dX5_atom_70 hl (by decide) rfl (fun ls hl => ?_)
            refine lv_aload_n hx hb dX5_atom_72 rfl (lv_at hl 2 rfl) ?_
            refine lv_iload_n hx hb dX5_atom_73 rfl (lv_at hl 1 rfl) ?_
            refine lv_if_ne (tgt := 81) hx hb dX5_atom_74 (by decide) (fun c_74 => absurd (by decide) c_74) (fun c_74 => ?_)
            refine lv_iconst (v := 1) hx hb dX5_atom_77 (by decide) ?_
            refine lv_goto (tgt := 91) hx hb dX5_atom_78 (by decide) ?_
            refine va_put (D := D) (ci := 5) (v := .int 1) (ty := .int) (C := RX5) (T := TX5) (N := 25) hx hb hts hin_X5 tyX5 tyX5_ok nmX5 hown hK hP hD hS 0 rfl rfl 0 (by decide) hf50 (fun _ h9 => h9) rfl (by decide +kernel) rfl rfl (Nat.le_of_ble_eq_true rfl) dX5_atom_91 (fun H locs hP hD hS => ?_)
            have hP : va_P D vwCl (wM cI a (vU v 0 1) r) H := hP
            have hD : va_D A (wM cI a (vU v 0 1) r) := hD
            refine lv_aload_n hx hb dX5_atom_94 rfl (lv_at hl 2 rfl) ?_
            refine va_get (D := D) (ci := 5) (v := .int 1) (C := RX5) (T := TX5) (N := 25) hx hb hts hin_X5 hown hK hP 0 rfl rfl 0 (by decide) hf50 (fun _ h9 => h9) rfl dX5_atom_95 ?_
            refine lv_if_le (tgt := 103) hx hb dX5_atom_98 (by decide) (fun c_98 => absurd c_98 (by decide)) (fun c_98 => ?_)
            refine lv_iconst (v := 0) hx hb dX5_atom_101 (by decide) ?_
            exact k_iret C0 ((vU v 0 1), r) hP hD hS (by rw [spAt, (pf_X5_atom_6 a v r x y N hN hN1 c_3 c_7 c_13 c_17 c_36 c_62), if_neg (by decide)] <;> rfl) dX5_atom_102
          · skip
            refine lv_iconst (v := 1) hx hb dX5_atom_65 (by decide) ?_
            refine lv_goto (tgt := 70) hx hb dX5_atom_66 (by decide) ?_
            refine lv_istore (lv' := [(4, .int 1), (3, .int 0), (0, .ref (a 0)), (1, .int x), (2, .int y)]) hx hb dX5_atom_70 hl (by decide) rfl (fun ls hl => ?_)
            refine lv_aload_n hx hb dX5_atom_72 rfl (lv_at hl 2 rfl) ?_
            refine lv_iload_n hx hb dX5_atom_73 rfl (lv_at hl 1 rfl) ?_
            refine lv_if_ne (tgt := 81) hx hb dX5_atom_74 (by decide) (fun c_74 => absurd (by decide) c_74) (fun c_74 => ?_)
            refine lv_iconst (v := 1) hx hb dX5_atom_77 (by decide) ?_
            refine lv_goto (tgt := 91) hx hb dX5_atom_78 (by decide) ?_
            refine va_put (D := D) (ci := 5) (v := .int 1) (ty := .int) (C := RX5) (T := TX5) (N := 25) hx hb hts hin_X5 tyX5 tyX5_ok nmX5 hown hK hP hD hS 0 rfl rfl 0 (by decide) hf50 (fun _ h9 => h9) rfl (by decide +kernel) rfl rfl (Nat.le_of_ble_eq_true rfl) dX5_atom_91 (fun H locs hP hD hS => ?_)
            have hP : va_P D vwCl (wM cI a (vU v 0 1) r) H := hP
            have hD : va_D A (wM cI a (vU v 0 1) r) := hD
            refine lv_aload_n hx hb dX5_atom_94 rfl (lv_at hl 2 rfl) ?_
            refine va_get (D := D) (ci := 5) (v := .int 1) (C := RX5) (T := TX5) (N := 25) hx hb hts hin_X5 hown hK hP 0 rfl rfl 0 (by decide) hf50 (fun _ h9 => h9) rfl dX5_atom_95 ?_
            refine lv_if_le (tgt := 103) hx hb dX5_atom_98 (by decide) (fun c_98 => absurd c_98 (by decide)) (fun c_98 => ?_)
            refine lv_iconst (v := 0) hx hb dX5_atom_101 (by decide) ?_
            exact k_iret C0 ((vU v 0 1), r) hP hD hS (by rw [spAt, (pf_X5_atom_7 a v r x y N hN hN1 c_3 c_7 c_13 c_17 c_36 c_62), if_neg (by decide)] <;> rfl) dX5_atom_102
        · skip
          refine lv_iload_n hx hb dX5_atom_20 rfl (lv_at hl 2 rfl) ?_
          refine lv_sipush (v := 256) hx hb dX5_atom_21 (by decide) ?_
          refine lv_icmp_ge (tgt := 31) hx hb dX5_atom_24 (by decide) (fun c_24 => ?_) (fun c_24 => ?_)
          · skip
            refine lv_iconst (v := 0) hx hb dX5_atom_31 (by decide) ?_
            refine lv_istore_n (lv' := [(3, .int 0), (0, .ref (a 0)), (1, .int x), (2, .int y)]) hx hb dX5_atom_32 rfl hl (by decide) rfl (fun ls hl => ?_)
            refine lv_iload_n hx hb dX5_atom_33 rfl (lv_at hl 2 rfl) ?_
            refine lv_bipush (v := 8) hx hb dX5_atom_34 (by decide) ?_
            refine lv_icmp_ne (tgt := 56) hx hb dX5_atom_36 (by decide) (fun c_36 => ?_) (fun c_36 => absurd c_36 c_3)
            refine lv_aload_n hx hb dX5_atom_56 rfl (lv_at hl 1 rfl) ?_
            refine va_get (D := D) (ci := 5) (v := .int (v 4)) (C := RX5) (T := TX5) (N := 25) hx hb hts hin_X5 hown hK hP 0 rfl rfl 4 (by decide) hf53 (fun _ h9 => h9) rfl dX5_atom_57 ?_
            refine lv_bipush (v := 120) hx hb dX5_atom_60 (by decide) ?_
            refine lv_icmp_ne (tgt := 69) hx hb dX5_atom_62 (by decide) (fun c_62 => ?_) (fun c_62 => ?_)
            · skip
              refine lv_iconst (v := 0) hx hb dX5_atom_69 (by decide) ?_
              refine lv_istore (lv' := [(4, .int 0), (3, .int 0), (0, .ref (a 0)), (1, .int x), (2, .int y)]) hx hb dX5_atom_70 hl (by decide) rfl (fun ls hl => ?_)
              refine lv_aload_n hx hb dX5_atom_72 rfl (lv_at hl 2 rfl) ?_
              refine lv_iload_n hx hb dX5_atom_73 rfl (lv_at hl 1 rfl) ?_
              refine lv_if_ne (tgt := 81) hx hb dX5_atom_74 (by decide) (fun c_74 => absurd (by decide) c_74) (fun c_74 => ?_)
              refine lv_iconst (v := 1) hx hb dX5_atom_77 (by decide) ?_
              refine lv_goto (tgt := 91) hx hb dX5_atom_78 (by decide) ?_
              refine va_put (D := D) (ci := 5) (v := .int 1) (ty := .int) (C := RX5) (T := TX5) (N := 25) hx hb hts hin_X5 tyX5 tyX5_ok nmX5 hown hK hP hD hS 0 rfl rfl 0 (by decide) hf50 (fun _ h9 => h9) rfl (by decide +kernel) rfl rfl (Nat.le_of_ble_eq_true rfl) dX5_atom_91 (fun H locs hP hD hS => ?_)
              have hP : va_P D vwCl (wM cI a (vU v 0 1) r) H := hP
              have hD : va_D A (wM cI a (vU v 0 1) r) := hD
              refine lv_aload_n hx hb dX5_atom_94 rfl (lv_at hl 2 rfl) ?_
              refine va_get (D := D) (ci := 5) (v := .int 1) (C := RX5) (T := TX5) (N := 25) hx hb hts hin_X5 hown hK hP 0 rfl rfl 0 (by decide) hf50 (fun _ h9 => h9) rfl dX5_atom_95 ?_
              refine lv_if_le (tgt := 103) hx hb dX5_atom_98 (by decide) (fun c_98 => absurd c_98 (by decide)) (fun c_98 => ?_)
              refine lv_iconst (v := 0) hx hb dX5_atom_101 (by decide) ?_
              exact k_iret C0 ((vU v 0 1), r) hP hD hS (by rw [spAt, (pf_X5_atom_8 a v r x y N hN hN1 c_3 c_7 c_13 c_17 c_24 c_36 c_62), if_neg (by decide)] <;> rfl) dX5_atom_102
            · skip
              refine lv_iconst (v := 1) hx hb dX5_atom_65 (by decide) ?_
              refine lv_goto (tgt := 70) hx hb dX5_atom_66 (by decide) ?_
              refine lv_istore (lv' := [(4, .int 1), (3, .int 0), (0, .ref (a 0)), (1, .int x), (2, .int y)]) hx hb dX5_atom_70 hl (by decide) rfl (fun ls hl => ?_)
              refine lv_aload_n hx hb dX5_atom_72 rfl (lv_at hl 2 rfl) ?_
              refine lv_iload_n hx hb dX5_atom_73 rfl (lv_at hl 1 rfl) ?_
              refine lv_if_ne (tgt := 81) hx hb dX5_atom_74 (by decide) (fun c_74 => absurd (by decide) c_74) (fun c_74 => ?_)
              refine lv_iconst (v := 1) hx hb dX5_atom_77 (by decide) ?_
              refine lv_goto (tgt := 91) hx hb dX5_atom_78 (by decide) ?_
              refine va_put (D := D) (ci := 5) (v := .int 1) (ty := .int) (C := RX5) (T := TX5) (N := 25) hx hb hts hin_X5 tyX5 tyX5_ok nmX5 hown hK hP hD hS 0 rfl rfl 0 (by decide) hf50 (fun _ h9 => h9) rfl (by decide +kernel) rfl rfl (Nat.le_of_ble_eq_true rfl) dX5_atom_91 (fun H locs hP hD hS => ?_)
              have hP : va_P D vwCl (wM cI a (vU v 0 1) r) H := hP
              have hD : va_D A (wM cI a (vU v 0 1) r) := hD
              refine lv_aload_n hx hb dX5_atom_94 rfl (lv_at hl 2 rfl) ?_
              refine va_get (D := D) (ci := 5) (v := .int 1) (C := RX5) (T := TX5) (N := 25) hx hb hts hin_X5 hown hK hP 0 rfl rfl 0 (by decide) hf50 (fun _ h9 => h9) rfl dX5_atom_95 ?_
              refine lv_if_le (tgt := 103) hx hb dX5_atom_98 (by decide) (fun c_98 => absurd c_98 (by decide)) (fun c_98 => ?_)
              refine lv_iconst (v := 0) hx hb dX5_atom_101 (by decide) ?_
              exact k_iret C0 ((vU v 0 1), r) hP hD hS (by rw [spAt, (pf_X5_atom_9 a v r x y N hN hN1 c_3 c_7 c_13 c_17 c_24 c_36 c_62), if_neg (by decide)] <;> rfl) dX5_atom_102
          · skip
            refine lv_iconst (v := 1) hx hb dX5_atom_27 (by decide) ?_
            refine lv_goto (tgt := 32) hx hb dX5_atom_28 (by decide) ?_
            refine lv_istore_n (lv' := [(3, .int 1), (0, .ref (a 0)), (1, .int x), (2, .int y)]) hx hb dX5_atom_32 rfl hl (by decide) rfl (fun ls hl => ?_)
            refine lv_iload_n hx hb dX5_atom_33 rfl (lv_at hl 2 rfl) ?_
            refine lv_bipush (v := 8) hx hb dX5_atom_34 (by decide) ?_
            refine lv_icmp_ne (tgt := 56) hx hb dX5_atom_36 (by decide) (fun c_36 => ?_) (fun c_36 => absurd c_36 c_3)
            refine lv_aload_n hx hb dX5_atom_56 rfl (lv_at hl 1 rfl) ?_
            refine va_get (D := D) (ci := 5) (v := .int (v 4)) (C := RX5) (T := TX5) (N := 25) hx hb hts hin_X5 hown hK hP 0 rfl rfl 4 (by decide) hf53 (fun _ h9 => h9) rfl dX5_atom_57 ?_
            refine lv_bipush (v := 120) hx hb dX5_atom_60 (by decide) ?_
            refine lv_icmp_ne (tgt := 69) hx hb dX5_atom_62 (by decide) (fun c_62 => ?_) (fun c_62 => ?_)
            · skip
              refine lv_iconst (v := 0) hx hb dX5_atom_69 (by decide) ?_
              refine lv_istore (lv' := [(4, .int 0), (3, .int 1), (0, .ref (a 0)), (1, .int x), (2, .int y)]) hx hb dX5_atom_70 hl (by decide) rfl (fun ls hl => ?_)
              refine lv_aload_n hx hb dX5_atom_72 rfl (lv_at hl 2 rfl) ?_
              refine lv_iload_n hx hb dX5_atom_73 rfl (lv_at hl 1 rfl) ?_
              refine lv_if_ne (tgt := 81) hx hb dX5_atom_74 (by decide) (fun c_74 => ?_) (fun c_74 => absurd c_74 (by decide))
              refine lv_iload hx hb dX5_atom_81 (lv_at hl 0 rfl) ?_
              refine lv_if_eq (tgt := 90) hx hb dX5_atom_83 (by decide) (fun c_83 => ?_) (fun c_83 => absurd (by decide) c_83)
              refine lv_iconst (v := 0) hx hb dX5_atom_90 (by decide) ?_
              refine va_put (D := D) (ci := 5) (v := .int 0) (ty := .int) (C := RX5) (T := TX5) (N := 25) hx hb hts hin_X5 tyX5 tyX5_ok nmX5 hown hK hP hD hS 0 rfl rfl 0 (by decide) hf50 (fun _ h9 => h9) rfl (by decide +kernel) rfl rfl (Nat.le_of_ble_eq_true rfl) dX5_atom_91 (fun H locs hP hD hS => ?_)
              have hP : va_P D vwCl (wM cI a (vU v 0 0) r) H := hP
              have hD : va_D A (wM cI a (vU v 0 0) r) := hD
              refine lv_aload_n hx hb dX5_atom_94 rfl (lv_at hl 2 rfl) ?_
              refine va_get (D := D) (ci := 5) (v := .int 0) (C := RX5) (T := TX5) (N := 25) hx hb hts hin_X5 hown hK hP 0 rfl rfl 0 (by decide) hf50 (fun _ h9 => h9) rfl dX5_atom_95 ?_
              refine lv_if_le (tgt := 103) hx hb dX5_atom_98 (by decide) (fun c_98 => ?_) (fun c_98 => absurd (by decide) c_98)
              refine lv_iload_n hx hb dX5_atom_103 rfl (lv_at hl 3 rfl) ?_
              refine lv_bipush (v := 8) hx hb dX5_atom_104 (by decide) ?_
              refine lv_icmp_ge (tgt := 119) hx hb dX5_atom_106 (by decide) (fun c_106 => absurd c_106 c_13) (fun c_106 => ?_)
              have hNlt : N < 120 := by rcases Nat.lt_or_ge N 120 with q | q; exact q; exact absurd (show v 4 = 120 by rw [hN, show N = 120 by omega]; rfl) c_62
              refine lv_aload_n hx hb dX5_atom_109 rfl (lv_at hl 2 rfl) ?_
              refine lv_iconst (v := 0) hx hb dX5_atom_110 (by decide) ?_
              refine lv_iload_n hx hb dX5_atom_111 rfl (lv_at hl 3 rfl) ?_
              refine lv_iload_n hx hb dX5_atom_112 rfl (lv_at hl 4 rfl) ?_
              refine lv_iconst (v := 0) hx hb dX5_atom_113 (by decide) ?_
              refine lv_iconst (v := 0) hx hb dX5_atom_114 (by decide) ?_
              refine kcD (ans := (v 4)) C0 hP hD hS (c_X5_add l D cI a (vU v 0 0) r 0 x y 0 0 N hN hNlt) (cwV 5 hts gX5_atom_X5_add rfl rfl rfl (by decide +kernel) ⟨Nat.le_of_ble_eq_true rfl, Nat.le_of_ble_eq_true rfl⟩) 0 5 rfl rfl rfl hl.1 rfl (Nat.le_of_ble_eq_true rfl) dX5_atom_115 ⟨Nat.zero_le _, Nat.zero_le _⟩ (fun H locs hP hD hS => ?_)
              have hP : va_P D vwCl (wM cI a (vU (vU v 0 0) 4 ((v 4) + 1)) (rU (rU (rU (rU (rU (rU (rU (rU r 2 (upd (r 2) N (v 2))) 3 (upd (r 3) N 0)) 4 (upd (r 4) N x)) 5 (upd (r 5) N y)) 6 (upd (r 6) N 0)) 7 (upd (r 7) N 0)) 8 (upd (r 8) N (-1))) 9 (upd (r 9) N (-1)))) H := hP
              have hD : va_D A (wM cI a (vU (vU v 0 0) 4 ((v 4) + 1)) (rU (rU (rU (rU (rU (rU (rU (rU r 2 (upd (r 2) N (v 2))) 3 (upd (r 3) N 0)) 4 (upd (r 4) N x)) 5 (upd (r 5) N y)) 6 (upd (r 6) N 0)) 7 (upd (r 7) N 0)) 8 (upd (r 8) N (-1))) 9 (upd (r 9) N (-1)))) := hD
              exact k_iret C0 ((vU (vU v 0 0) 4 ((v 4) + 1)), (rU (rU (rU (rU (rU (rU (rU (rU r 2 (upd (r 2) N (v 2))) 3 (upd (r 3) N 0)) 4 (upd (r 4) N x)) 5 (upd (r 5) N y)) 6 (upd (r 6) N 0)) 7 (upd (r 7) N 0)) 8 (upd (r 8) N (-1))) 9 (upd (r 9) N (-1)))) hP hD hS (by rw [spAt, (pf_X5_atom_10 a v r x y N hN hN1 c_3 c_7 c_13 c_17 c_24 c_36 c_62 c_106), if_pos rfl, if_neg c_3] <;> rfl) dX5_atom_118
            · skip
              refine lv_iconst (v := 1) hx hb dX5_atom_65 (by decide) ?_
              refine lv_goto (tgt := 70) hx hb dX5_atom_66 (by decide) ?_
              refine lv_istore (lv' := [(4, .int 1), (3, .int 1), (0, .ref (a 0)), (1, .int x), (2, .int y)]) hx hb dX5_atom_70 hl (by decide) rfl (fun ls hl => ?_)
              refine lv_aload_n hx hb dX5_atom_72 rfl (lv_at hl 2 rfl) ?_
              refine lv_iload_n hx hb dX5_atom_73 rfl (lv_at hl 1 rfl) ?_
              refine lv_if_ne (tgt := 81) hx hb dX5_atom_74 (by decide) (fun c_74 => ?_) (fun c_74 => absurd c_74 (by decide))
              refine lv_iload hx hb dX5_atom_81 (lv_at hl 0 rfl) ?_
              refine lv_if_eq (tgt := 90) hx hb dX5_atom_83 (by decide) (fun c_83 => absurd c_83 (by decide)) (fun c_83 => ?_)
              refine lv_iconst (v := 2) hx hb dX5_atom_86 (by decide) ?_
              refine lv_goto (tgt := 91) hx hb dX5_atom_87 (by decide) ?_
              refine va_put (D := D) (ci := 5) (v := .int 2) (ty := .int) (C := RX5) (T := TX5) (N := 25) hx hb hts hin_X5 tyX5 tyX5_ok nmX5 hown hK hP hD hS 0 rfl rfl 0 (by decide) hf50 (fun _ h9 => h9) rfl (by decide +kernel) rfl rfl (Nat.le_of_ble_eq_true rfl) dX5_atom_91 (fun H locs hP hD hS => ?_)
              have hP : va_P D vwCl (wM cI a (vU v 0 2) r) H := hP
              have hD : va_D A (wM cI a (vU v 0 2) r) := hD
              refine lv_aload_n hx hb dX5_atom_94 rfl (lv_at hl 2 rfl) ?_
              refine va_get (D := D) (ci := 5) (v := .int 2) (C := RX5) (T := TX5) (N := 25) hx hb hts hin_X5 hown hK hP 0 rfl rfl 0 (by decide) hf50 (fun _ h9 => h9) rfl dX5_atom_95 ?_
              refine lv_if_le (tgt := 103) hx hb dX5_atom_98 (by decide) (fun c_98 => absurd c_98 (by decide)) (fun c_98 => ?_)
              refine lv_iconst (v := 0) hx hb dX5_atom_101 (by decide) ?_
              exact k_iret C0 ((vU v 0 2), r) hP hD hS (by rw [spAt, (pf_X5_atom_11 a v r x y N hN hN1 c_3 c_7 c_13 c_17 c_24 c_36 c_62), if_neg (by decide)] <;> rfl) dX5_atom_102

set_option maxHeartbeats 1500000 in
theorem pf_X5_style_0 (a : Nat → Nat) (v : Nat → Int32) (r : Nat → Nat → Int32) (x y : Int32) (N : Nat) (hN : v 4 = nI N) (hN1 : N ≤ 120) (c_2 : x < 0) : thS v x = 1 := by
  unfold thS; (repeat' split) <;> first | rfl | (exfalso; simp only [i_lt, i_le, i_eq, tI0, tI1, tI2, tI3, tI4, tI5, tI6, tI7, tI8, tI9, tI10, tI11, tI12, tI13, tI14, tI15, tI16, tI30, tI120, tI255, tI256, tI1000, tIm1] at *; omega)
set_option maxHeartbeats 1500000 in
theorem pf_X5_style_1 (a : Nat → Nat) (v : Nat → Int32) (r : Nat → Nat → Int32) (x y : Int32) (N : Nat) (hN : v 4 = nI N) (hN1 : N ≤ 120) (c_2 : ¬ (x < 0)) (c_7 : x ≤ 3) (c_20 : ¬ ((v 4) = 120)) (c_47 : y = 0) : thS v x = 0 := by
  unfold thS; (repeat' split) <;> first | rfl | (exfalso; simp only [i_lt, i_le, i_eq, tI0, tI1, tI2, tI3, tI4, tI5, tI6, tI7, tI8, tI9, tI10, tI11, tI12, tI13, tI14, tI15, tI16, tI30, tI120, tI255, tI256, tI1000, tIm1] at *; omega)
set_option maxHeartbeats 1500000 in
theorem pf_X5_style_2 (a : Nat → Nat) (v : Nat → Int32) (r : Nat → Nat → Int32) (x y : Int32) (N : Nat) (hN : v 4 = nI N) (hN1 : N ≤ 120) (c_2 : ¬ (x < 0)) (c_7 : x ≤ 3) (c_20 : ¬ ((v 4) = 120)) (c_47 : ¬ (y = 0)) : thS v x = 0 := by
  unfold thS; (repeat' split) <;> first | rfl | (exfalso; simp only [i_lt, i_le, i_eq, tI0, tI1, tI2, tI3, tI4, tI5, tI6, tI7, tI8, tI9, tI10, tI11, tI12, tI13, tI14, tI15, tI16, tI30, tI120, tI255, tI256, tI1000, tIm1] at *; omega)
set_option maxHeartbeats 1500000 in
theorem pf_X5_style_3 (a : Nat → Nat) (v : Nat → Int32) (r : Nat → Nat → Int32) (x y : Int32) (N : Nat) (hN : v 4 = nI N) (hN1 : N ≤ 120) (c_2 : ¬ (x < 0)) (c_7 : x ≤ 3) (c_20 : (v 4) = 120) : thS v x = 2 := by
  unfold thS; (repeat' split) <;> first | rfl | (exfalso; simp only [i_lt, i_le, i_eq, tI0, tI1, tI2, tI3, tI4, tI5, tI6, tI7, tI8, tI9, tI10, tI11, tI12, tI13, tI14, tI15, tI16, tI30, tI120, tI255, tI256, tI1000, tIm1] at *; omega)
set_option maxHeartbeats 1500000 in
theorem pf_X5_style_4 (a : Nat → Nat) (v : Nat → Int32) (r : Nat → Nat → Int32) (x y : Int32) (N : Nat) (hN : v 4 = nI N) (hN1 : N ≤ 120) (c_2 : ¬ (x < 0)) (c_7 : ¬ (x ≤ 3)) : thS v x = 1 := by
  unfold thS; (repeat' split) <;> first | rfl | (exfalso; simp only [i_lt, i_le, i_eq, tI0, tI1, tI2, tI3, tI4, tI5, tI6, tI7, tI8, tI9, tI10, tI11, tI12, tI13, tI14, tI15, tI16, tI30, tI120, tI255, tI256, tI1000, tIm1] at *; omega)
set_option maxHeartbeats 1500000 in
set_option maxRecDepth 100000 in
theorem c_X5_style (l : Launch) (D : va_G) (cI : ClassId) (a : Nat → Nat) (v : Nat → Int32) (r : Nat → Nat → Int32) (x y : Int32) (N : Nat) (hN : v 4 = nI N) (hN1 : N ≤ 120) : KI l D cI yX5_style wsX5_style ({ frames := 1, cells := 0, slots := 0, locals := 26 }) [.ref (a 0), .int x, .int y] (wM cI a v r) (fun u : (Nat → Int32) × (Nat → Nat → Int32) => wM cI a u.1 u.2) (fun q u => (q, u.1, u.2) = spSt v r N x y) := by
  refine KI.of (cc := cX5_style) (nL := 3) (ret := (some .int)) (by decide) rfl (Nat.le_of_ble_eq_true rfl) ?_
  intro pg9 en9 s m args below meth cd9 A ls C0 hP hD hS hl
  have hx := C0.1.1
  have hb := C0.1.2.1
  have hml := C0.1.2.2.1
  have hown : s.vm.findClass RX5 = some m.cls := C0.1.2.2.2.1
  have hts : ∀ w ∈ wsX5_style, w.before args s = true := C0.1.2.2.2.2
  have hK := C0.2.2.2.1
  have hin_X5 : ∀ w ∈ wsX50, w ∈ wsX5_style := fun w h => List.mem_cons_of_mem _ (List.mem_append_right _ h)
  have hf50 : (Cond.fieldLink RX5 50 "FormulaListsModel" "thrown" "I").before args s = true := hts _ (by decide +kernel)
  have hf53 : (Cond.fieldLink RX5 53 "FormulaListsModel" "nodes" "I").before args s = true := hts _ (by decide +kernel)
  have hl : lv_has ls 3 [(0, .ref (a 0)), (1, .int x), (2, .int y)] := hl
  have hP : va_P D vwCl (wM cI a v r) s.heap := hP
  refine lv_aload_n hx hb dX5_style_0 rfl (lv_at hl 0 rfl) ?_
  refine lv_iload_n hx hb dX5_style_1 rfl (lv_at hl 1 rfl) ?_
  refine lv_if_lt (tgt := 10) hx hb dX5_style_2 (by decide) (fun c_2 => ?_) (fun c_2 => ?_)
  · skip
    refine lv_iconst (v := 1) hx hb dX5_style_10 (by decide) ?_
    refine lv_goto (tgt := 28) hx hb dX5_style_11 (by decide) ?_
    refine va_put (D := D) (ci := 5) (v := .int 1) (ty := .int) (C := RX5) (T := TX5) (N := 25) hx hb hts hin_X5 tyX5 tyX5_ok nmX5 hown hK hP hD hS 0 rfl rfl 0 (by decide) hf50 (fun _ h9 => h9) rfl (by decide +kernel) rfl rfl (Nat.le_of_ble_eq_true rfl) dX5_style_28 (fun H locs hP hD hS => ?_)
    have hP : va_P D vwCl (wM cI a (vU v 0 1) r) H := hP
    have hD : va_D A (wM cI a (vU v 0 1) r) := hD
    refine lv_aload_n hx hb dX5_style_31 rfl (lv_at hl 0 rfl) ?_
    refine va_get (D := D) (ci := 5) (v := .int 1) (C := RX5) (T := TX5) (N := 25) hx hb hts hin_X5 hown hK hP 0 rfl rfl 0 (by decide) hf50 (fun _ h9 => h9) rfl dX5_style_32 ?_
    refine lv_if_le (tgt := 42) hx hb dX5_style_35 (by decide) (fun c_35 => absurd c_35 (by decide)) (fun c_35 => ?_)
    refine lv_iconst (v := 0) hx hb dX5_style_38 (by decide) ?_
    refine lv_goto (tgt := 59) hx hb dX5_style_39 (by decide) ?_
    exact k_iret C0 ((vU v 0 1), r) hP hD hS (by rw [spSt, (pf_X5_style_0 a v r x y N hN hN1 c_2), if_neg (by decide)] <;> rfl) dX5_style_59
  · skip
    refine lv_iload_n hx hb dX5_style_5 rfl (lv_at hl 1 rfl) ?_
    refine lv_iconst (v := 3) hx hb dX5_style_6 (by decide) ?_
    refine lv_icmp_le (tgt := 14) hx hb dX5_style_7 (by decide) (fun c_7 => ?_) (fun c_7 => ?_)
    · skip
      refine lv_aload_n hx hb dX5_style_14 rfl (lv_at hl 0 rfl) ?_
      refine va_get (D := D) (ci := 5) (v := .int (v 4)) (C := RX5) (T := TX5) (N := 25) hx hb hts hin_X5 hown hK hP 0 rfl rfl 4 (by decide) hf53 (fun _ h9 => h9) rfl dX5_style_15 ?_
      refine lv_bipush (v := 120) hx hb dX5_style_18 (by decide) ?_
      refine lv_icmp_ne (tgt := 27) hx hb dX5_style_20 (by decide) (fun c_20 => ?_) (fun c_20 => ?_)
      · skip
        refine lv_iconst (v := 0) hx hb dX5_style_27 (by decide) ?_
        refine va_put (D := D) (ci := 5) (v := .int 0) (ty := .int) (C := RX5) (T := TX5) (N := 25) hx hb hts hin_X5 tyX5 tyX5_ok nmX5 hown hK hP hD hS 0 rfl rfl 0 (by decide) hf50 (fun _ h9 => h9) rfl (by decide +kernel) rfl rfl (Nat.le_of_ble_eq_true rfl) dX5_style_28 (fun H locs hP hD hS => ?_)
        have hP : va_P D vwCl (wM cI a (vU v 0 0) r) H := hP
        have hD : va_D A (wM cI a (vU v 0 0) r) := hD
        refine lv_aload_n hx hb dX5_style_31 rfl (lv_at hl 0 rfl) ?_
        refine va_get (D := D) (ci := 5) (v := .int 0) (C := RX5) (T := TX5) (N := 25) hx hb hts hin_X5 hown hK hP 0 rfl rfl 0 (by decide) hf50 (fun _ h9 => h9) rfl dX5_style_32 ?_
        refine lv_if_le (tgt := 42) hx hb dX5_style_35 (by decide) (fun c_35 => ?_) (fun c_35 => absurd (by decide) c_35)
        have hNlt : N < 120 := by rcases Nat.lt_or_ge N 120 with q | q; exact q; exact absurd (show v 4 = 120 by rw [hN, show N = 120 by omega]; rfl) c_20
        refine lv_aload_n hx hb dX5_style_42 rfl (lv_at hl 0 rfl) ?_
        refine lv_iconst (v := 4) hx hb dX5_style_43 (by decide) ?_
        refine lv_iconst (v := 0) hx hb dX5_style_44 (by decide) ?_
        refine lv_iload_n hx hb dX5_style_45 rfl (lv_at hl 1 rfl) ?_
        refine lv_iload_n hx hb dX5_style_46 rfl (lv_at hl 2 rfl) ?_
        refine lv_if_eq (tgt := 54) hx hb dX5_style_47 (by decide) (fun c_47 => ?_) (fun c_47 => ?_)
        · skip
          refine lv_iconst (v := 0) hx hb dX5_style_54 (by decide) ?_
          refine lv_iconst (v := 0) hx hb dX5_style_55 (by decide) ?_
          refine kcD (ans := (v 4)) C0 hP hD hS (c_X5_add l D cI a (vU v 0 0) r 4 0 x 0 0 N hN hNlt) (cwV 5 hts gX5_style_X5_add rfl rfl rfl (by decide +kernel) ⟨Nat.le_of_ble_eq_true rfl, Nat.le_of_ble_eq_true rfl⟩) 0 5 rfl rfl rfl hl.1 rfl (Nat.le_of_ble_eq_true rfl) dX5_style_56 ⟨Nat.zero_le _, Nat.zero_le _⟩ (fun H locs hP hD hS => ?_)
          have hP : va_P D vwCl (wM cI a (vU (vU v 0 0) 4 ((v 4) + 1)) (rU (rU (rU (rU (rU (rU (rU (rU r 2 (upd (r 2) N (v 2))) 3 (upd (r 3) N 4)) 4 (upd (r 4) N 0)) 5 (upd (r 5) N x)) 6 (upd (r 6) N 0)) 7 (upd (r 7) N 0)) 8 (upd (r 8) N (-1))) 9 (upd (r 9) N (-1)))) H := hP
          have hD : va_D A (wM cI a (vU (vU v 0 0) 4 ((v 4) + 1)) (rU (rU (rU (rU (rU (rU (rU (rU r 2 (upd (r 2) N (v 2))) 3 (upd (r 3) N 4)) 4 (upd (r 4) N 0)) 5 (upd (r 5) N x)) 6 (upd (r 6) N 0)) 7 (upd (r 7) N 0)) 8 (upd (r 8) N (-1))) 9 (upd (r 9) N (-1)))) := hD
          exact k_iret C0 ((vU (vU v 0 0) 4 ((v 4) + 1)), (rU (rU (rU (rU (rU (rU (rU (rU r 2 (upd (r 2) N (v 2))) 3 (upd (r 3) N 4)) 4 (upd (r 4) N 0)) 5 (upd (r 5) N x)) 6 (upd (r 6) N 0)) 7 (upd (r 7) N 0)) 8 (upd (r 8) N (-1))) 9 (upd (r 9) N (-1)))) hP hD hS (by rw [spSt, (pf_X5_style_1 a v r x y N hN hN1 c_2 c_7 c_20 c_47), if_pos rfl, if_pos c_47] <;> rfl) dX5_style_59
        · skip
          refine lv_iconst (v := 1) hx hb dX5_style_50 (by decide) ?_
          refine lv_goto (tgt := 55) hx hb dX5_style_51 (by decide) ?_
          refine lv_iconst (v := 0) hx hb dX5_style_55 (by decide) ?_
          refine kcD (ans := (v 4)) C0 hP hD hS (c_X5_add l D cI a (vU v 0 0) r 4 0 x 1 0 N hN hNlt) (cwV 5 hts gX5_style_X5_add rfl rfl rfl (by decide +kernel) ⟨Nat.le_of_ble_eq_true rfl, Nat.le_of_ble_eq_true rfl⟩) 0 5 rfl rfl rfl hl.1 rfl (Nat.le_of_ble_eq_true rfl) dX5_style_56 ⟨Nat.zero_le _, Nat.zero_le _⟩ (fun H locs hP hD hS => ?_)
          have hP : va_P D vwCl (wM cI a (vU (vU v 0 0) 4 ((v 4) + 1)) (rU (rU (rU (rU (rU (rU (rU (rU r 2 (upd (r 2) N (v 2))) 3 (upd (r 3) N 4)) 4 (upd (r 4) N 0)) 5 (upd (r 5) N x)) 6 (upd (r 6) N 1)) 7 (upd (r 7) N 0)) 8 (upd (r 8) N (-1))) 9 (upd (r 9) N (-1)))) H := hP
          have hD : va_D A (wM cI a (vU (vU v 0 0) 4 ((v 4) + 1)) (rU (rU (rU (rU (rU (rU (rU (rU r 2 (upd (r 2) N (v 2))) 3 (upd (r 3) N 4)) 4 (upd (r 4) N 0)) 5 (upd (r 5) N x)) 6 (upd (r 6) N 1)) 7 (upd (r 7) N 0)) 8 (upd (r 8) N (-1))) 9 (upd (r 9) N (-1)))) := hD
          exact k_iret C0 ((vU (vU v 0 0) 4 ((v 4) + 1)), (rU (rU (rU (rU (rU (rU (rU (rU r 2 (upd (r 2) N (v 2))) 3 (upd (r 3) N 4)) 4 (upd (r 4) N 0)) 5 (upd (r 5) N x)) 6 (upd (r 6) N 1)) 7 (upd (r 7) N 0)) 8 (upd (r 8) N (-1))) 9 (upd (r 9) N (-1)))) hP hD hS (by rw [spSt, (pf_X5_style_2 a v r x y N hN hN1 c_2 c_7 c_20 c_47), if_pos rfl, if_neg c_47] <;> rfl) dX5_style_59
      · skip
        refine lv_iconst (v := 2) hx hb dX5_style_23 (by decide) ?_
        refine lv_goto (tgt := 28) hx hb dX5_style_24 (by decide) ?_
        refine va_put (D := D) (ci := 5) (v := .int 2) (ty := .int) (C := RX5) (T := TX5) (N := 25) hx hb hts hin_X5 tyX5 tyX5_ok nmX5 hown hK hP hD hS 0 rfl rfl 0 (by decide) hf50 (fun _ h9 => h9) rfl (by decide +kernel) rfl rfl (Nat.le_of_ble_eq_true rfl) dX5_style_28 (fun H locs hP hD hS => ?_)
        have hP : va_P D vwCl (wM cI a (vU v 0 2) r) H := hP
        have hD : va_D A (wM cI a (vU v 0 2) r) := hD
        refine lv_aload_n hx hb dX5_style_31 rfl (lv_at hl 0 rfl) ?_
        refine va_get (D := D) (ci := 5) (v := .int 2) (C := RX5) (T := TX5) (N := 25) hx hb hts hin_X5 hown hK hP 0 rfl rfl 0 (by decide) hf50 (fun _ h9 => h9) rfl dX5_style_32 ?_
        refine lv_if_le (tgt := 42) hx hb dX5_style_35 (by decide) (fun c_35 => absurd c_35 (by decide)) (fun c_35 => ?_)
        refine lv_iconst (v := 0) hx hb dX5_style_38 (by decide) ?_
        refine lv_goto (tgt := 59) hx hb dX5_style_39 (by decide) ?_
        exact k_iret C0 ((vU v 0 2), r) hP hD hS (by rw [spSt, (pf_X5_style_3 a v r x y N hN hN1 c_2 c_7 c_20), if_neg (by decide)] <;> rfl) dX5_style_59
    · skip
      refine lv_iconst (v := 1) hx hb dX5_style_10 (by decide) ?_
      refine lv_goto (tgt := 28) hx hb dX5_style_11 (by decide) ?_
      refine va_put (D := D) (ci := 5) (v := .int 1) (ty := .int) (C := RX5) (T := TX5) (N := 25) hx hb hts hin_X5 tyX5 tyX5_ok nmX5 hown hK hP hD hS 0 rfl rfl 0 (by decide) hf50 (fun _ h9 => h9) rfl (by decide +kernel) rfl rfl (Nat.le_of_ble_eq_true rfl) dX5_style_28 (fun H locs hP hD hS => ?_)
      have hP : va_P D vwCl (wM cI a (vU v 0 1) r) H := hP
      have hD : va_D A (wM cI a (vU v 0 1) r) := hD
      refine lv_aload_n hx hb dX5_style_31 rfl (lv_at hl 0 rfl) ?_
      refine va_get (D := D) (ci := 5) (v := .int 1) (C := RX5) (T := TX5) (N := 25) hx hb hts hin_X5 hown hK hP 0 rfl rfl 0 (by decide) hf50 (fun _ h9 => h9) rfl dX5_style_32 ?_
      refine lv_if_le (tgt := 42) hx hb dX5_style_35 (by decide) (fun c_35 => absurd c_35 (by decide)) (fun c_35 => ?_)
      refine lv_iconst (v := 0) hx hb dX5_style_38 (by decide) ?_
      refine lv_goto (tgt := 59) hx hb dX5_style_39 (by decide) ?_
      exact k_iret C0 ((vU v 0 1), r) hP hD hS (by rw [spSt, (pf_X5_style_4 a v r x y N hN hN1 c_2 c_7), if_neg (by decide)] <;> rfl) dX5_style_59

set_option maxHeartbeats 1500000 in
theorem pf_X5_space_0 (a : Nat → Nat) (v : Nat → Int32) (r : Nat → Nat → Int32) (x y : Int32)  (c_2 : x < 0) : thP x y = 1 := by
  unfold thP; (repeat' split) <;> first | rfl | (exfalso; simp only [i_lt, i_le, i_eq, tI0, tI1, tI2, tI3, tI4, tI5, tI6, tI7, tI8, tI9, tI10, tI11, tI12, tI13, tI14, tI15, tI16, tI30, tI120, tI255, tI256, tI1000, tIm1] at *; omega)
set_option maxHeartbeats 1500000 in
theorem pf_X5_space_1 (a : Nat → Nat) (v : Nat → Int32) (r : Nat → Nat → Int32) (x y : Int32)  (c_2 : ¬ (x < 0)) (c_8 : 7 < x) : thP x y = 1 := by
  unfold thP; (repeat' split) <;> first | rfl | (exfalso; simp only [i_lt, i_le, i_eq, tI0, tI1, tI2, tI3, tI4, tI5, tI6, tI7, tI8, tI9, tI10, tI11, tI12, tI13, tI14, tI15, tI16, tI30, tI120, tI255, tI256, tI1000, tIm1] at *; omega)
set_option maxHeartbeats 1500000 in
theorem pf_X5_space_2 (a : Nat → Nat) (v : Nat → Int32) (r : Nat → Nat → Int32) (x y : Int32)  (c_2 : ¬ (x < 0)) (c_8 : ¬ (7 < x)) (c_12 : y < 0) : thP x y = 1 := by
  unfold thP; (repeat' split) <;> first | rfl | (exfalso; simp only [i_lt, i_le, i_eq, tI0, tI1, tI2, tI3, tI4, tI5, tI6, tI7, tI8, tI9, tI10, tI11, tI12, tI13, tI14, tI15, tI16, tI30, tI120, tI255, tI256, tI1000, tIm1] at *; omega)
set_option maxHeartbeats 1500000 in
theorem pf_X5_space_3 (a : Nat → Nat) (v : Nat → Int32) (r : Nat → Nat → Int32) (x y : Int32)  (c_2 : ¬ (x < 0)) (c_8 : ¬ (7 < x)) (c_12 : ¬ (y < 0)) (c_18 : y ≤ 7) (c_46 : 2 ≤ (ltr x y)) : thP x y = 0 := by
  unfold thP; (repeat' split) <;> first | rfl | (exfalso; simp only [i_lt, i_le, i_eq, tI0, tI1, tI2, tI3, tI4, tI5, tI6, tI7, tI8, tI9, tI10, tI11, tI12, tI13, tI14, tI15, tI16, tI30, tI120, tI255, tI256, tI1000, tIm1] at *; omega)
set_option maxHeartbeats 1500000 in
theorem pf_X5_space_4 (a : Nat → Nat) (v : Nat → Int32) (r : Nat → Nat → Int32) (x y : Int32)  (c_2 : ¬ (x < 0)) (c_8 : ¬ (7 < x)) (c_12 : ¬ (y < 0)) (c_18 : y ≤ 7) (c_46 : ¬ (2 ≤ (ltr x y))) : thP x y = 0 := by
  unfold thP; (repeat' split) <;> first | rfl | (exfalso; simp only [i_lt, i_le, i_eq, tI0, tI1, tI2, tI3, tI4, tI5, tI6, tI7, tI8, tI9, tI10, tI11, tI12, tI13, tI14, tI15, tI16, tI30, tI120, tI255, tI256, tI1000, tIm1] at *; omega)
set_option maxHeartbeats 1500000 in
theorem pf_X5_space_5 (a : Nat → Nat) (v : Nat → Int32) (r : Nat → Nat → Int32) (x y : Int32)  (c_2 : ¬ (x < 0)) (c_8 : ¬ (7 < x)) (c_12 : ¬ (y < 0)) (c_18 : ¬ (y ≤ 7)) : thP x y = 1 := by
  unfold thP; (repeat' split) <;> first | rfl | (exfalso; simp only [i_lt, i_le, i_eq, tI0, tI1, tI2, tI3, tI4, tI5, tI6, tI7, tI8, tI9, tI10, tI11, tI12, tI13, tI14, tI15, tI16, tI30, tI120, tI255, tI256, tI1000, tIm1] at *; omega)
set_option maxHeartbeats 1500000 in
set_option maxRecDepth 100000 in
theorem c_X5_space (l : Launch) (D : va_G) (cI : ClassId) (a : Nat → Nat) (v : Nat → Int32) (r : Nat → Nat → Int32) (x y : Int32) : KI l D cI yX5_space wsX5_space ({ frames := 1, cells := 0, slots := 0, locals := 22 }) [.ref (a 0), .int x, .int y] (wM cI a v r) (fun u : (Nat → Int32) × (Nat → Nat → Int32) => wM cI a u.1 u.2) (fun q u => (q, u.1, u.2) = spSp v r x y) := by
  refine KI.of (cc := cX5_space) (nL := 4) (ret := (some .int)) (by decide) rfl (Nat.le_of_ble_eq_true rfl) ?_
  intro pg9 en9 s m args below meth cd9 A ls C0 hP hD hS hl
  have hx := C0.1.1
  have hb := C0.1.2.1
  have hml := C0.1.2.2.1
  have hown : s.vm.findClass RX5 = some m.cls := C0.1.2.2.2.1
  have hts : ∀ w ∈ wsX5_space, w.before args s = true := C0.1.2.2.2.2
  have hK := C0.2.2.2.1
  have hin_X5 : ∀ w ∈ wsX50, w ∈ wsX5_space := fun w h => List.mem_cons_of_mem _ (List.mem_append_right _ h)
  have hf50 : (Cond.fieldLink RX5 50 "FormulaListsModel" "thrown" "I").before args s = true := hts _ (by decide +kernel)
  have hl : lv_has ls 4 [(0, .ref (a 0)), (1, .int x), (2, .int y)] := hl
  have hP : va_P D vwCl (wM cI a v r) s.heap := hP
  refine lv_aload_n hx hb dX5_space_0 rfl (lv_at hl 0 rfl) ?_
  refine lv_iload_n hx hb dX5_space_1 rfl (lv_at hl 1 rfl) ?_
  refine lv_if_lt (tgt := 21) hx hb dX5_space_2 (by decide) (fun c_2 => ?_) (fun c_2 => ?_)
  · skip
    refine lv_iconst (v := 1) hx hb dX5_space_21 (by decide) ?_
    refine lv_goto (tgt := 26) hx hb dX5_space_22 (by decide) ?_
    refine va_put (D := D) (ci := 5) (v := .int 1) (ty := .int) (C := RX5) (T := TX5) (N := 25) hx hb hts hin_X5 tyX5 tyX5_ok nmX5 hown hK hP hD hS 0 rfl rfl 0 (by decide) hf50 (fun _ h9 => h9) rfl (by decide +kernel) rfl rfl (Nat.le_of_ble_eq_true rfl) dX5_space_26 (fun H locs hP hD hS => ?_)
    have hP : va_P D vwCl (wM cI a (vU v 0 1) r) H := hP
    have hD : va_D A (wM cI a (vU v 0 1) r) := hD
    refine lv_aload_n hx hb dX5_space_29 rfl (lv_at hl 0 rfl) ?_
    refine va_get (D := D) (ci := 5) (v := .int 1) (C := RX5) (T := TX5) (N := 25) hx hb hts hin_X5 hown hK hP 0 rfl rfl 0 (by decide) hf50 (fun _ h9 => h9) rfl dX5_space_30 ?_
    refine lv_if_le (tgt := 38) hx hb dX5_space_33 (by decide) (fun c_33 => absurd c_33 (by decide)) (fun c_33 => ?_)
    refine lv_iconst (v := 0) hx hb dX5_space_36 (by decide) ?_
    exact k_iret C0 ((vU v 0 1), r) hP hD hS (by rw [spSp, (pf_X5_space_0 a v r x y c_2), if_neg (by decide)] <;> rfl) dX5_space_37
  · skip
    refine lv_iload_n hx hb dX5_space_5 rfl (lv_at hl 1 rfl) ?_
    refine lv_bipush (v := 7) hx hb dX5_space_6 (by decide) ?_
    refine lv_icmp_gt (tgt := 21) hx hb dX5_space_8 (by decide) (fun c_8 => ?_) (fun c_8 => ?_)
    · skip
      refine lv_iconst (v := 1) hx hb dX5_space_21 (by decide) ?_
      refine lv_goto (tgt := 26) hx hb dX5_space_22 (by decide) ?_
      refine va_put (D := D) (ci := 5) (v := .int 1) (ty := .int) (C := RX5) (T := TX5) (N := 25) hx hb hts hin_X5 tyX5 tyX5_ok nmX5 hown hK hP hD hS 0 rfl rfl 0 (by decide) hf50 (fun _ h9 => h9) rfl (by decide +kernel) rfl rfl (Nat.le_of_ble_eq_true rfl) dX5_space_26 (fun H locs hP hD hS => ?_)
      have hP : va_P D vwCl (wM cI a (vU v 0 1) r) H := hP
      have hD : va_D A (wM cI a (vU v 0 1) r) := hD
      refine lv_aload_n hx hb dX5_space_29 rfl (lv_at hl 0 rfl) ?_
      refine va_get (D := D) (ci := 5) (v := .int 1) (C := RX5) (T := TX5) (N := 25) hx hb hts hin_X5 hown hK hP 0 rfl rfl 0 (by decide) hf50 (fun _ h9 => h9) rfl dX5_space_30 ?_
      refine lv_if_le (tgt := 38) hx hb dX5_space_33 (by decide) (fun c_33 => absurd c_33 (by decide)) (fun c_33 => ?_)
      refine lv_iconst (v := 0) hx hb dX5_space_36 (by decide) ?_
      exact k_iret C0 ((vU v 0 1), r) hP hD hS (by rw [spSp, (pf_X5_space_1 a v r x y c_2 c_8), if_neg (by decide)] <;> rfl) dX5_space_37
    · skip
      refine lv_iload_n hx hb dX5_space_11 rfl (lv_at hl 2 rfl) ?_
      refine lv_if_lt (tgt := 21) hx hb dX5_space_12 (by decide) (fun c_12 => ?_) (fun c_12 => ?_)
      · skip
        refine lv_iconst (v := 1) hx hb dX5_space_21 (by decide) ?_
        refine lv_goto (tgt := 26) hx hb dX5_space_22 (by decide) ?_
        refine va_put (D := D) (ci := 5) (v := .int 1) (ty := .int) (C := RX5) (T := TX5) (N := 25) hx hb hts hin_X5 tyX5 tyX5_ok nmX5 hown hK hP hD hS 0 rfl rfl 0 (by decide) hf50 (fun _ h9 => h9) rfl (by decide +kernel) rfl rfl (Nat.le_of_ble_eq_true rfl) dX5_space_26 (fun H locs hP hD hS => ?_)
        have hP : va_P D vwCl (wM cI a (vU v 0 1) r) H := hP
        have hD : va_D A (wM cI a (vU v 0 1) r) := hD
        refine lv_aload_n hx hb dX5_space_29 rfl (lv_at hl 0 rfl) ?_
        refine va_get (D := D) (ci := 5) (v := .int 1) (C := RX5) (T := TX5) (N := 25) hx hb hts hin_X5 hown hK hP 0 rfl rfl 0 (by decide) hf50 (fun _ h9 => h9) rfl dX5_space_30 ?_
        refine lv_if_le (tgt := 38) hx hb dX5_space_33 (by decide) (fun c_33 => absurd c_33 (by decide)) (fun c_33 => ?_)
        refine lv_iconst (v := 0) hx hb dX5_space_36 (by decide) ?_
        exact k_iret C0 ((vU v 0 1), r) hP hD hS (by rw [spSp, (pf_X5_space_2 a v r x y c_2 c_8 c_12), if_neg (by decide)] <;> rfl) dX5_space_37
      · skip
        refine lv_iload_n hx hb dX5_space_15 rfl (lv_at hl 2 rfl) ?_
        refine lv_bipush (v := 7) hx hb dX5_space_16 (by decide) ?_
        refine lv_icmp_le (tgt := 25) hx hb dX5_space_18 (by decide) (fun c_18 => ?_) (fun c_18 => ?_)
        · skip
          refine lv_iconst (v := 0) hx hb dX5_space_25 (by decide) ?_
          refine va_put (D := D) (ci := 5) (v := .int 0) (ty := .int) (C := RX5) (T := TX5) (N := 25) hx hb hts hin_X5 tyX5 tyX5_ok nmX5 hown hK hP hD hS 0 rfl rfl 0 (by decide) hf50 (fun _ h9 => h9) rfl (by decide +kernel) rfl rfl (Nat.le_of_ble_eq_true rfl) dX5_space_26 (fun H locs hP hD hS => ?_)
          have hP : va_P D vwCl (wM cI a (vU v 0 0) r) H := hP
          have hD : va_D A (wM cI a (vU v 0 0) r) := hD
          refine lv_aload_n hx hb dX5_space_29 rfl (lv_at hl 0 rfl) ?_
          refine va_get (D := D) (ci := 5) (v := .int 0) (C := RX5) (T := TX5) (N := 25) hx hb hts hin_X5 hown hK hP 0 rfl rfl 0 (by decide) hf50 (fun _ h9 => h9) rfl dX5_space_30 ?_
          refine lv_if_le (tgt := 38) hx hb dX5_space_33 (by decide) (fun c_33 => ?_) (fun c_33 => absurd (by decide) c_33)
          refine lv_iload_n hx hb dX5_space_38 rfl (lv_at hl 1 rfl) ?_
          refine lv_iload_n hx hb dX5_space_39 rfl (lv_at hl 2 rfl) ?_
          refine kcS (ans := (ltr x y)) C0 hP hS (c_X5_letterOf l D cI x y ) (va_cwS 2 hts gX5_space_X5_letterOf rfl rfl rfl (by decide +kernel) ⟨Nat.le_of_ble_eq_true rfl, Nat.le_of_ble_eq_true rfl⟩) rfl hl.1 rfl (Nat.le_of_ble_eq_true rfl) dX5_space_40 ⟨Nat.zero_le _, Nat.zero_le _⟩ (fun H locs hP hS => ?_)
          refine lv_istore_n (lv' := [(3, .int (ltr x y)), (0, .ref (a 0)), (1, .int x), (2, .int y)]) hx hb dX5_space_43 rfl hl (by decide) rfl (fun ls hl => ?_)
          refine lv_iload_n hx hb dX5_space_44 rfl (lv_at hl 0 rfl) ?_
          refine lv_iconst (v := 2) hx hb dX5_space_45 (by decide) ?_
          refine lv_icmp_ge (tgt := 53) hx hb dX5_space_46 (by decide) (fun c_46 => ?_) (fun c_46 => ?_)
          · skip
            refine lv_iload_n hx hb dX5_space_53 rfl (lv_at hl 0 rfl) ?_
            refine lv_iconst (v := 1) hx hb dX5_space_54 (by decide) ?_
            refine lv_isub hx hb dX5_space_55 ?_
            exact k_iret C0 ((vU v 0 0), r) hP hD hS (by rw [spSp, (pf_X5_space_3 a v r x y c_2 c_8 c_12 c_18 c_46), if_pos rfl, if_pos c_46] <;> rfl) dX5_space_56
          · skip
            refine lv_iload_n hx hb dX5_space_49 rfl (lv_at hl 0 rfl) ?_
            refine lv_goto (tgt := 56) hx hb dX5_space_50 (by decide) ?_
            exact k_iret C0 ((vU v 0 0), r) hP hD hS (by rw [spSp, (pf_X5_space_4 a v r x y c_2 c_8 c_12 c_18 c_46), if_pos rfl, if_neg c_46] <;> rfl) dX5_space_56
        · skip
          refine lv_iconst (v := 1) hx hb dX5_space_21 (by decide) ?_
          refine lv_goto (tgt := 26) hx hb dX5_space_22 (by decide) ?_
          refine va_put (D := D) (ci := 5) (v := .int 1) (ty := .int) (C := RX5) (T := TX5) (N := 25) hx hb hts hin_X5 tyX5 tyX5_ok nmX5 hown hK hP hD hS 0 rfl rfl 0 (by decide) hf50 (fun _ h9 => h9) rfl (by decide +kernel) rfl rfl (Nat.le_of_ble_eq_true rfl) dX5_space_26 (fun H locs hP hD hS => ?_)
          have hP : va_P D vwCl (wM cI a (vU v 0 1) r) H := hP
          have hD : va_D A (wM cI a (vU v 0 1) r) := hD
          refine lv_aload_n hx hb dX5_space_29 rfl (lv_at hl 0 rfl) ?_
          refine va_get (D := D) (ci := 5) (v := .int 1) (C := RX5) (T := TX5) (N := 25) hx hb hts hin_X5 hown hK hP 0 rfl rfl 0 (by decide) hf50 (fun _ h9 => h9) rfl dX5_space_30 ?_
          refine lv_if_le (tgt := 38) hx hb dX5_space_33 (by decide) (fun c_33 => absurd c_33 (by decide)) (fun c_33 => ?_)
          refine lv_iconst (v := 0) hx hb dX5_space_36 (by decide) ?_
          exact k_iret C0 ((vU v 0 1), r) hP hD hS (by rw [spSp, (pf_X5_space_5 a v r x y c_2 c_8 c_12 c_18), if_neg (by decide)] <;> rfl) dX5_space_37

set_option maxHeartbeats 1500000 in
set_option maxRecDepth 100000 in
theorem c_X5_kind (l : Launch) (D : va_G) (cI : ClassId) (a : Nat → Nat) (v : Nat → Int32) (r : Nat → Nat → Int32) (x : Int32) (N : Nat) (hN : v 4 = nI N) (hN1 : N ≤ 120) (hki : ∀ i, i < N → ¬ r 4 i = -1) : KI l D cI yX5_kind wsX5_kind ({ frames := 2, cells := 0, slots := 0, locals := 52 }) [.ref (a 0), .int x] (wM cI a v r) (fun u : (Nat → Int32) × (Nat → Nat → Int32) => wM cI a u.1 u.2) (fun q u => (q, u.1, u.2) = spKi v r N x) := by
  refine KI.of (cc := cX5_kind) (nL := 2) (ret := (some .int)) (by decide) rfl (Nat.le_of_ble_eq_true rfl) ?_
  intro pg9 en9 s m args below meth cd9 A ls C0 hP hD hS hl
  have hx := C0.1.1
  have hb := C0.1.2.1
  have hml := C0.1.2.2.1
  have hown : s.vm.findClass RX5 = some m.cls := C0.1.2.2.2.1
  have hts : ∀ w ∈ wsX5_kind, w.before args s = true := C0.1.2.2.2.2
  have hK := C0.2.2.2.1
  have hin_X5 : ∀ w ∈ wsX50, w ∈ wsX5_kind := fun w h => List.mem_cons_of_mem _ (List.mem_append_right _ h)
  have hf50 : (Cond.fieldLink RX5 50 "FormulaListsModel" "thrown" "I").before args s = true := hts _ (by decide +kernel)
  have hl : lv_has ls 2 [(0, .ref (a 0)), (1, .int x)] := hl
  have hP : va_P D vwCl (wM cI a v r) s.heap := hP
  refine lv_aload_n hx hb dX5_kind_0 rfl (lv_at hl 0 rfl) ?_
  refine lv_aload_n hx hb dX5_kind_1 rfl (lv_at hl 0 rfl) ?_
  refine lv_iload_n hx hb dX5_kind_2 rfl (lv_at hl 1 rfl) ?_
  refine kcD (ans := (bI (0 ≤ x ∧ x < nI N ∧ ¬ r 3 x.toNatClampNeg = 4))) C0 hP hD hS (c_X5_isAtom l D cI a v r x N hN hN1) (cwV 1 hts gX5_kind_X5_isAtom rfl rfl rfl (by decide +kernel) ⟨Nat.le_of_ble_eq_true rfl, Nat.le_of_ble_eq_true rfl⟩) 0 5 rfl rfl rfl hl.1 rfl (Nat.le_of_ble_eq_true rfl) dX5_kind_3 ⟨Nat.zero_le _, Nat.zero_le _⟩ (fun H locs hP hD hS => ?_)
  refine lv_if_eq (tgt := 13) hx hb dX5_kind_6 (by decide) (fun c_6 => ?_) (fun c_6 => ?_)
  · skip
    refine lv_iconst (v := 1) hx hb dX5_kind_13 (by decide) ?_
    refine va_put (D := D) (ci := 5) (v := .int 1) (ty := .int) (C := RX5) (T := TX5) (N := 25) hx hb hts hin_X5 tyX5 tyX5_ok nmX5 hown hK hP hD hS 0 rfl rfl 0 (by decide) hf50 (fun _ h9 => h9) rfl (by decide +kernel) rfl rfl (Nat.le_of_ble_eq_true rfl) dX5_kind_14 (fun H locs hP hD hS => ?_)
    have hP : va_P D vwCl (wM cI a (vU v 0 1) r) H := hP
    have hD : va_D A (wM cI a (vU v 0 1) r) := hD
    refine lv_aload_n hx hb dX5_kind_17 rfl (lv_at hl 0 rfl) ?_
    refine va_get (D := D) (ci := 5) (v := .int 1) (C := RX5) (T := TX5) (N := 25) hx hb hts hin_X5 hown hK hP 0 rfl rfl 0 (by decide) hf50 (fun _ h9 => h9) rfl dX5_kind_18 ?_
    refine lv_if_le (tgt := 28) hx hb dX5_kind_21 (by decide) (fun c_21 => absurd c_21 (by decide)) (fun c_21 => ?_)
    refine lv_iconst (v := 0) hx hb dX5_kind_24 (by decide) ?_
    refine lv_goto (tgt := 33) hx hb dX5_kind_25 (by decide) ?_
    exact k_iret C0 ((vU v 0 1), r) hP hD hS (by rw [spKi, if_pos c_6] <;> rfl) dX5_kind_33
  · skip
    refine lv_iconst (v := 0) hx hb dX5_kind_9 (by decide) ?_
    refine lv_goto (tgt := 14) hx hb dX5_kind_10 (by decide) ?_
    refine va_put (D := D) (ci := 5) (v := .int 0) (ty := .int) (C := RX5) (T := TX5) (N := 25) hx hb hts hin_X5 tyX5 tyX5_ok nmX5 hown hK hP hD hS 0 rfl rfl 0 (by decide) hf50 (fun _ h9 => h9) rfl (by decide +kernel) rfl rfl (Nat.le_of_ble_eq_true rfl) dX5_kind_14 (fun H locs hP hD hS => ?_)
    have hP : va_P D vwCl (wM cI a (vU v 0 0) r) H := hP
    have hD : va_D A (wM cI a (vU v 0 0) r) := hD
    refine lv_aload_n hx hb dX5_kind_17 rfl (lv_at hl 0 rfl) ?_
    refine va_get (D := D) (ci := 5) (v := .int 0) (C := RX5) (T := TX5) (N := 25) hx hb hts hin_X5 hown hK hP 0 rfl rfl 0 (by decide) hf50 (fun _ h9 => h9) rfl dX5_kind_18 ?_
    refine lv_if_le (tgt := 28) hx hb dX5_kind_21 (by decide) (fun c_21 => ?_) (fun c_21 => absurd (by decide) c_21)
    obtain ⟨hx0, hxN, hx3⟩ := bI_nz.mp c_6
    have hxi := ix_of (Int32.not_lt.mpr hx0) hxN rfl hN1 (by decide)
    have hxl : x.toNatClampNeg < N := by have h := hxN; rw [hxi.1] at h; exact (nI_ltI (by omega) (by omega)).mp h
    refine lv_aload_n hx hb dX5_kind_28 rfl (lv_at hl 0 rfl) ?_
    refine lv_iload_n hx hb dX5_kind_29 rfl (lv_at hl 1 rfl) ?_
    refine lv_eqi hxi.1 ?_
    refine kcD (ans := (cnA (r 2) (r 3) (r 4) N x.toNatClampNeg)) C0 hP hD hS (c_X5_countsAs l D cI a (vU v 0 0) r x.toNatClampNeg N hN hN1 hxl hx3 hki) (cwV 1 hts gX5_kind_X5_countsAs rfl rfl rfl (by decide +kernel) ⟨Nat.le_of_ble_eq_true rfl, Nat.le_of_ble_eq_true rfl⟩) 0 5 rfl rfl rfl hl.1 rfl (Nat.le_of_ble_eq_true rfl) dX5_kind_30 ⟨Nat.zero_le _, Nat.zero_le _⟩ (fun H locs hP hD hS => ?_)
    exact k_iret C0 ((vU v 0 0), r) hP hD hS (by rw [spKi, if_neg c_6] <;> rfl) dX5_kind_33
