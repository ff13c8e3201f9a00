/-! what the class's small steps of layout make of the rows -/
def shR (r : Nat → Nat → Int32) (X Y : Int32) (i j : Nat) : Nat → Nat → Int32 := rU r 19 (shF (r 19) X Y i j)
def cvR (r : Nat → Nat → Int32) (b : Nat) (y h d : Int32) : Nat → Nat → Int32 := rU (rU r 14 (upd (r 14) b (mx (y + h) (r 14 b)))) 15 (upd (r 15) b (mx (d - y) (r 15 b)))
def plR (r : Nat → Nat → Int32) (b : Nat) (x X Y : Int32) : Nat → Nat → Int32 := rU (rU (rU r 14 (pl14 r b x Y)) 15 (pl15 r b x Y)) 19 (pl19 r x X Y)
def msR (r : Nat → Nat → Int32) (i : Nat) (s w : Int32) : Nat → Nat → Int32 := rU r 19 (upd (upd (r 19) (8 * i + 3) s) (8 * i + 4) w)
def itR (r : Nat → Nat → Int32) (c : Nat) (x y z : Int32) : Nat → Nat → Int32 := rU r 19 (upd (upd (upd (upd (upd (upd (r 19) (8 * c) x) (8 * c + 1) 0) (8 * c + 2) 0) (8 * c + 5) z) (8 * c + 6) y) (8 * c + 7) 0)
def wdR (r : Nat → Nat → Int32) (b : Nat) (x : Int32) : Nat → Nat → Int32 := rU r 13 (upd (r 13) b x)
def enR (r : Nat → Nat → Int32) (b : Nat) (x : Int32) : Nat → Nat → Int32 := rU r 17 (upd (r 17) b x)
def bgR (r : Nat → Nat → Int32) (b : Nat) (x : Int32) : Nat → Nat → Int32 := rU (rU (rU (rU (rU r 13 (upd (r 13) b 0)) 14 (upd (r 14) b 0)) 15 (upd (r 15) b 0)) 16 (upd (r 16) b x)) 17 (upd (r 17) b x)
def shP (must lev : Int32) : Prop := 9 * must ≤ 10 * (uni lev * (6 + 4 * stp must lev))
def mkR (r : Nat → Nat → Int32) (i : Nat) (must lev : Int32) : Nat → Nat → Int32 := rU r 19 (if 9 * must ≤ 10 * (uni lev * (6 + 4 * stp must lev)) then r 19 else upd (r 19) (8 * i + 7) 1)
theorem rU_c {r : Nat → Nat → Int32} {j k : Nat} {f g : Nat → Int32} (h : ¬ j = k) : rU (rU r j f) k g = rU (rU r k g) j f := by
  funext i
  unfold rU
  by_cases e1 : i = j
  · have h1 : Nat.beq i j = true := by rw [e1]; exact Nat.beq_refl j
    have h2 : Nat.beq i k = false := by cases q : Nat.beq i k; rfl; exact absurd (e1.symm.trans (Nat.eq_of_beq_eq_true q)) h
    rw [h1, h2]; rfl
  · have h1 : Nat.beq i j = false := by cases q : Nat.beq i j; rfl; exact absurd (Nat.eq_of_beq_eq_true q) e1
    rw [h1]
    cases Nat.beq i k <;> rfl
theorem cv_sh {r : Nat → Nat → Int32} {X Y y h d : Int32} {i j b : Nat} : cvR (shR r X Y i j) b y h d = rU (rU (rU r 14 (upd (r 14) b (mx (y + h) (r 14 b)))) 15 (upd (r 15) b (mx (d - y) (r 15 b)))) 19 (shF (r 19) X Y i j) := by
  show rU (rU (rU r 19 (shF (r 19) X Y i j)) 14 (upd (r 14) b (mx (y + h) (r 14 b)))) 15 (upd (r 15) b (mx (d - y) (r 15 b))) = _
  rw [rU_c (j := 19) (k := 14) (by decide), rU_c (j := 19) (k := 15) (by decide)]
theorem rU_id (r : Nat → Nat → Int32) (j : Nat) : rU r j (r j) = r := by
  funext i
  unfold rU
  cases q : Nat.beq i j
  · rfl
  · rw [Nat.eq_of_beq_eq_true q]; rfl
theorem plR_n {r : Nat → Nat → Int32} {b : Nat} {x X Y : Int32} (h : x = -1) : plR r b x X Y = r := by
  unfold plR pl14 pl15 pl19
  rw [if_pos h, if_pos h, if_pos h, rU_id, rU_id, rU_id]
theorem plR_y {r : Nat → Nat → Int32} {b : Nat} {x X Y : Int32} (h : ¬ x = -1) : plR r b x X Y = cvR (shR r X Y (r 16 x.toNatClampNeg).toNatClampNeg (r 17 x.toNatClampNeg).toNatClampNeg) b Y (r 14 x.toNatClampNeg) (r 15 x.toNatClampNeg) := by
  rw [cv_sh]
  unfold plR pl14 pl15 pl19
  rw [if_neg h, if_neg h, if_neg h]
theorem stc_u {must lev : Int32} {i : Nat} : stc must lev i ↔ ¬ 9 * must ≤ 10 * (uni lev * (6 + 4 * nI i)) := by
  unfold stc tal
  rw [Int32.not_le]

set_option maxHeartbeats 1500000 in
set_option maxRecDepth 100000 in
theorem c_X3_append (l : Launch) (D : va_G) (cI : ClassId) (a : Nat → Nat) (v : Nat → Int32) (r : Nat → Nat → Int32) (k n i0 j0 ct : Nat) (x : Int32) (hk : k < 30) (hn : n < 120) (h16 : r 16 (30 + n) = nI i0) (h17 : r 17 (30 + n) = nI j0) (hij : i0 ≤ j0) (hj : j0 ≤ ct) (hct : v 4 = nI ct) (hct1 : ct ≤ 150) : KDv l D cI yX3_append wsX3_append ({ frames := 2, cells := 0, slots := 0, locals := 46 }) [.ref (a 20), .int (nI k), .int (nI n), .int x] (wX cI a v r) (wX cI a v (wdR (cvR (shR r (r 13 k + x) 0 i0 j0) k 0 (r 14 (30 + n)) (r 15 (30 + n))) k (r 13 k + x + r 13 (30 + n)))) := by
  refine KV.of (cc := cX3_append) (nL := 6) (ret := none) (by decide) rfl (Nat.le_of_ble_eq_true rfl) ?_
  intro pg9 en9 s m args below meth cd9 A ls C0 hP hD hS hl
  have hx := C0.1.1
  have hb := C0.1.2.1
  have hml := C0.1.2.2.1
  have hown : s.vm.findClass RX3 = some m.cls := C0.1.2.2.2.1
  have hts : ∀ w ∈ wsX3_append, w.before args s = true := C0.1.2.2.2.2
  have hK := C0.2.2.2.1
  have hin_X3 : ∀ w ∈ wsX30, w ∈ wsX3_append := fun w h => List.mem_cons_of_mem _ (List.mem_append_left _ (List.mem_append_left _ (List.mem_append_right _ h)))
  have hf12 : (Cond.fieldLink RX3 12 "FormulaLists$Layout" "boxes" "LFormulaLists$Boxes;").before args s = true := hts _ (by decide +kernel)
  have hin_X1 : ∀ w ∈ wsX10, w ∈ wsX3_append := fun w h => List.mem_cons_of_mem _ (List.mem_append_left _ (List.mem_append_right _ h))
  have hf46 : (Cond.fieldLink RX3 46 "FormulaLists$Boxes" "width" "[I").before args s = true := hts _ (by decide +kernel)
  have hf21 : (Cond.fieldLink RX3 21 "FormulaLists$Layout" "items" "LFormulaLists$Items;").before args s = true := hts _ (by decide +kernel)
  have hf99 : (Cond.fieldLink RX3 99 "FormulaLists$Boxes" "start" "[I").before args s = true := hts _ (by decide +kernel)
  have hf93 : (Cond.fieldLink RX3 93 "FormulaLists$Boxes" "end" "[I").before args s = true := hts _ (by decide +kernel)
  have hf49 : (Cond.fieldLink RX3 49 "FormulaLists$Boxes" "height" "[I").before args s = true := hts _ (by decide +kernel)
  have hf51 : (Cond.fieldLink RX3 51 "FormulaLists$Boxes" "depth" "[I").before args s = true := hts _ (by decide +kernel)
  have hl : lv_has ls 6 [(0, .ref (a 20)), (1, .int (nI k)), (2, .int (nI n)), (3, .int x)] := hl
  have hP : va_P D vwCl (wX cI a v r) s.heap := hP
  refine lv_iload_n hx hb dX3_append_0 rfl (lv_at hl 2 rfl) ?_
  refine kcS (ans := (nI (30 + n))) C0 hP hS (c_X1_ofAtom l D cI n) (va_cwS 1 hts gX3_append_X1_ofAtom rfl rfl rfl (by decide +kernel) ⟨Nat.le_of_ble_eq_true rfl, Nat.le_of_ble_eq_true rfl⟩) rfl hl.1 rfl (Nat.le_of_ble_eq_true rfl) dX3_append_1 ⟨Nat.zero_le _, Nat.zero_le _⟩ (fun H locs hP hS => ?_)
  refine lv_istore (lv' := [(4, .int (nI (30 + n))), (0, .ref (a 20)), (1, .int (nI k)), (2, .int (nI n)), (3, .int x)]) hx hb dX3_append_4 hl (by decide) rfl (fun ls hl => ?_)
  refine lv_aload_n hx hb dX3_append_6 rfl (lv_at hl 1 rfl) ?_
  refine va_get (D := D) (ci := 3) (v := .ref (a 12)) (C := RX3) (T := TX3) (N := 6) hx hb hts hin_X3 hown hK hP 20 rfl rfl 1 (by decide) hf12 (fun _ h9 => h9) rfl dX3_append_7 ?_
  refine va_get (D := D) (ci := 1) (v := .ref (a 13)) (C := RX1) (T := TX1) (N := 5) hx hb hts hin_X1 hown hK hP 12 rfl rfl 0 (by decide) hf46 (fun _ h9 => h9) rfl dX3_append_10 ?_
  refine lv_iload_n hx hb dX3_append_13 rfl (lv_at hl 2 rfl) ?_
  refine ra_ld (f := (r 13)) C0 hP 13 rfl k rfl (by omega) (by decide) dX3_append_14 ?_
  refine lv_iload_n hx hb dX3_append_15 rfl (lv_at hl 4 rfl) ?_
  refine lv_iadd hx hb dX3_append_16 ?_
  refine lv_istore (lv' := [(5, .int (((r 13) k) + x)), (4, .int (nI (30 + n))), (0, .ref (a 20)), (1, .int (nI k)), (2, .int (nI n)), (3, .int x)]) hx hb dX3_append_17 hl (by decide) rfl (fun ls hl => ?_)
  refine lv_aload_n hx hb dX3_append_19 rfl (lv_at hl 2 rfl) ?_
  refine va_get (D := D) (ci := 3) (v := .ref (a 18)) (C := RX3) (T := TX3) (N := 6) hx hb hts hin_X3 hown hK hP 20 rfl rfl 2 (by decide) hf21 (fun _ h9 => h9) rfl dX3_append_20 ?_
  refine lv_aload_n hx hb dX3_append_23 rfl (lv_at hl 2 rfl) ?_
  refine va_get (D := D) (ci := 3) (v := .ref (a 12)) (C := RX3) (T := TX3) (N := 6) hx hb hts hin_X3 hown hK hP 20 rfl rfl 1 (by decide) hf12 (fun _ h9 => h9) rfl dX3_append_24 ?_
  refine va_get (D := D) (ci := 1) (v := .ref (a 16)) (C := RX1) (T := TX1) (N := 5) hx hb hts hin_X1 hown hK hP 12 rfl rfl 3 (by decide) hf99 (fun _ h9 => h9) rfl dX3_append_27 ?_
  refine lv_iload hx hb dX3_append_30 (lv_at hl 1 rfl) ?_
  refine ra_ld (f := (r 16)) C0 hP 16 rfl (30 + n) rfl (by omega) (by decide) dX3_append_32 ?_
  refine lv_eqi h16 ?_
  refine lv_aload_n hx hb dX3_append_33 rfl (lv_at hl 2 rfl) ?_
  refine va_get (D := D) (ci := 3) (v := .ref (a 12)) (C := RX3) (T := TX3) (N := 6) hx hb hts hin_X3 hown hK hP 20 rfl rfl 1 (by decide) hf12 (fun _ h9 => h9) rfl dX3_append_34 ?_
  refine va_get (D := D) (ci := 1) (v := .ref (a 17)) (C := RX1) (T := TX1) (N := 5) hx hb hts hin_X1 hown hK hP 12 rfl rfl 4 (by decide) hf93 (fun _ h9 => h9) rfl dX3_append_37 ?_
  refine lv_iload hx hb dX3_append_40 (lv_at hl 1 rfl) ?_
  refine ra_ld (f := (r 17)) C0 hP 17 rfl (30 + n) rfl (by omega) (by decide) dX3_append_42 ?_
  refine lv_eqi h17 ?_
  refine lv_iload hx hb dX3_append_43 (lv_at hl 0 rfl) ?_
  refine lv_iconst (v := 0) hx hb dX3_append_45 (by decide) ?_
  refine kcDv C0 hP hD hS (c_X2_shift l D cI a v r i0 j0 ct (((r 13) k) + x) 0 hct hct1 (by omega) (by omega)) (cwV 4 hts gX3_append_X2_shift rfl rfl rfl (by decide +kernel) ⟨Nat.le_of_ble_eq_true rfl, Nat.le_of_ble_eq_true rfl⟩) 18 2 rfl rfl rfl hl.1 rfl (Nat.le_of_ble_eq_true rfl) dX3_append_46 ⟨Nat.zero_le _, Nat.zero_le _⟩ (fun H locs hP hD hS => ?_)
  have hP : va_P D vwCl (wX cI a v (shR r (((r 13) k) + x) 0 i0 j0)) H := hP
  have hD : va_D A (wX cI a v (shR r (((r 13) k) + x) 0 i0 j0)) := hD
  refine lv_aload_n hx hb dX3_append_49 rfl (lv_at hl 2 rfl) ?_
  refine va_get (D := D) (ci := 3) (v := .ref (a 12)) (C := RX3) (T := TX3) (N := 6) hx hb hts hin_X3 hown hK hP 20 rfl rfl 1 (by decide) hf12 (fun _ h9 => h9) rfl dX3_append_50 ?_
  refine lv_iload_n hx hb dX3_append_53 rfl (lv_at hl 3 rfl) ?_
  refine lv_iconst (v := 0) hx hb dX3_append_54 (by decide) ?_
  refine lv_aload_n hx hb dX3_append_55 rfl (lv_at hl 2 rfl) ?_
  refine va_get (D := D) (ci := 3) (v := .ref (a 12)) (C := RX3) (T := TX3) (N := 6) hx hb hts hin_X3 hown hK hP 20 rfl rfl 1 (by decide) hf12 (fun _ h9 => h9) rfl dX3_append_56 ?_
  refine va_get (D := D) (ci := 1) (v := .ref (a 14)) (C := RX1) (T := TX1) (N := 5) hx hb hts hin_X1 hown hK hP 12 rfl rfl 1 (by decide) hf49 (fun _ h9 => h9) rfl dX3_append_59 ?_
  refine lv_iload hx hb dX3_append_62 (lv_at hl 1 rfl) ?_
  refine ra_ld (f := (r 14)) C0 hP 14 rfl (30 + n) rfl (by omega) (by decide) dX3_append_64 ?_
  refine lv_aload_n hx hb dX3_append_65 rfl (lv_at hl 2 rfl) ?_
  refine va_get (D := D) (ci := 3) (v := .ref (a 12)) (C := RX3) (T := TX3) (N := 6) hx hb hts hin_X3 hown hK hP 20 rfl rfl 1 (by decide) hf12 (fun _ h9 => h9) rfl dX3_append_66 ?_
  refine va_get (D := D) (ci := 1) (v := .ref (a 15)) (C := RX1) (T := TX1) (N := 5) hx hb hts hin_X1 hown hK hP 12 rfl rfl 2 (by decide) hf51 (fun _ h9 => h9) rfl dX3_append_69 ?_
  refine lv_iload hx hb dX3_append_72 (lv_at hl 1 rfl) ?_
  refine ra_ld (f := (r 15)) C0 hP 15 rfl (30 + n) rfl (by omega) (by decide) dX3_append_74 ?_
  refine kcDv C0 hP hD hS (c_X1_cover l D cI a v (shR r (((r 13) k) + x) 0 i0 j0) k 0 ((r 14) (30 + n)) ((r 15) (30 + n)) (by omega)) (cwV 4 hts gX3_append_X1_cover rfl rfl rfl (by decide +kernel) ⟨Nat.le_of_ble_eq_true rfl, Nat.le_of_ble_eq_true rfl⟩) 12 1 rfl rfl rfl hl.1 rfl (Nat.le_of_ble_eq_true rfl) dX3_append_75 ⟨Nat.zero_le _, Nat.zero_le _⟩ (fun H locs hP hD hS => ?_)
  have hP : va_P D vwCl (wX cI a v (cvR (shR r (((r 13) k) + x) 0 i0 j0) k 0 ((r 14) (30 + n)) ((r 15) (30 + n)))) H := hP
  have hD : va_D A (wX cI a v (cvR (shR r (((r 13) k) + x) 0 i0 j0) k 0 ((r 14) (30 + n)) ((r 15) (30 + n)))) := hD
  refine lv_aload_n hx hb dX3_append_78 rfl (lv_at hl 2 rfl) ?_
  refine va_get (D := D) (ci := 3) (v := .ref (a 12)) (C := RX3) (T := TX3) (N := 6) hx hb hts hin_X3 hown hK hP 20 rfl rfl 1 (by decide) hf12 (fun _ h9 => h9) rfl dX3_append_79 ?_
  refine va_get (D := D) (ci := 1) (v := .ref (a 13)) (C := RX1) (T := TX1) (N := 5) hx hb hts hin_X1 hown hK hP 12 rfl rfl 0 (by decide) hf46 (fun _ h9 => h9) rfl dX3_append_82 ?_
  refine lv_iload_n hx hb dX3_append_85 rfl (lv_at hl 3 rfl) ?_
  refine lv_iload hx hb dX3_append_86 (lv_at hl 0 rfl) ?_
  refine lv_aload_n hx hb dX3_append_88 rfl (lv_at hl 2 rfl) ?_
  refine va_get (D := D) (ci := 3) (v := .ref (a 12)) (C := RX3) (T := TX3) (N := 6) hx hb hts hin_X3 hown hK hP 20 rfl rfl 1 (by decide) hf12 (fun _ h9 => h9) rfl dX3_append_89 ?_
  refine va_get (D := D) (ci := 1) (v := .ref (a 13)) (C := RX1) (T := TX1) (N := 5) hx hb hts hin_X1 hown hK hP 12 rfl rfl 0 (by decide) hf46 (fun _ h9 => h9) rfl dX3_append_92 ?_
  refine lv_iload hx hb dX3_append_95 (lv_at hl 1 rfl) ?_
  refine ra_ld (f := (r 13)) C0 hP 13 rfl (30 + n) rfl (by omega) (by decide) dX3_append_97 ?_
  refine lv_iadd hx hb dX3_append_98 ?_
  refine ra_st (f := (r 13)) C0 hP hD hS 13 rfl k rfl (by omega) (by decide) dX3_append_99 (fun H locs hP hD hS => ?_)
  have hset : ∀ (R_ : Nat → Nat → Int32) (g_ : Nat → Int32), (wX cI a v R_).set 13 (a 13, .inl (cI, 150, .inl g_)) = (wX cI a v (rU R_ 13 g_)) := fun _ _ => rfl
  rw [hset] at hP hD
  exact k_vret C0 () hP hD hS trivial dX3_append_100

set_option maxHeartbeats 1500000 in
set_option maxRecDepth 100000 in
theorem c_X3_place (l : Launch) (D : va_G) (cI : ClassId) (a : Nat → Nat) (v : Nat → Int32) (r : Nat → Nat → Int32) (b ct : Nat) (x X Y : Int32) (hct : v 4 = nI ct) (hct1 : ct ≤ 150) (hb0 : b < 150) (hx9 : x = -1 ∨ ∃ j i0 j0, j < 150 ∧ x = nI j ∧ r 16 j = nI i0 ∧ r 17 j = nI j0 ∧ i0 ≤ j0 ∧ j0 ≤ ct) : KDv l D cI yX3_place wsX3_place ({ frames := 2, cells := 0, slots := 0, locals := 46 }) [.ref (a 20), .int (nI b), .int x, .int X, .int Y] (wX cI a v r) (wX cI a v (plR r b x X Y)) := by
  refine KV.of (cc := cX3_place) (nL := 5) (ret := none) (by decide) rfl (Nat.le_of_ble_eq_true rfl) ?_
  intro pg9 en9 s m args below meth cd9 A ls C0 hP hD hS hl
  have hx := C0.1.1
  have hb := C0.1.2.1
  have hml := C0.1.2.2.1
  have hown : s.vm.findClass RX3 = some m.cls := C0.1.2.2.2.1
  have hts : ∀ w ∈ wsX3_place, w.before args s = true := C0.1.2.2.2.2
  have hK := C0.2.2.2.1
  have hin_X3 : ∀ w ∈ wsX30, w ∈ wsX3_place := fun w h => List.mem_cons_of_mem _ (List.mem_append_left _ (List.mem_append_left _ (List.mem_append_right _ h)))
  have hf21 : (Cond.fieldLink RX3 21 "FormulaLists$Layout" "items" "LFormulaLists$Items;").before args s = true := hts _ (by decide +kernel)
  have hf12 : (Cond.fieldLink RX3 12 "FormulaLists$Layout" "boxes" "LFormulaLists$Boxes;").before args s = true := hts _ (by decide +kernel)
  have hin_X1 : ∀ w ∈ wsX10, w ∈ wsX3_place := fun w h => List.mem_cons_of_mem _ (List.mem_append_left _ (List.mem_append_right _ h))
  have hf99 : (Cond.fieldLink RX3 99 "FormulaLists$Boxes" "start" "[I").before args s = true := hts _ (by decide +kernel)
  have hf93 : (Cond.fieldLink RX3 93 "FormulaLists$Boxes" "end" "[I").before args s = true := hts _ (by decide +kernel)
  have hf49 : (Cond.fieldLink RX3 49 "FormulaLists$Boxes" "height" "[I").before args s = true := hts _ (by decide +kernel)
  have hf51 : (Cond.fieldLink RX3 51 "FormulaLists$Boxes" "depth" "[I").before args s = true := hts _ (by decide +kernel)
  have hl : lv_has ls 5 [(0, .ref (a 20)), (1, .int (nI b)), (2, .int x), (3, .int X), (4, .int Y)] := hl
  have hP : va_P D vwCl (wX cI a v r) s.heap := hP
  refine lv_iload_n hx hb dX3_place_0 rfl (lv_at hl 2 rfl) ?_
  refine lv_iconst (v := (-1)) hx hb dX3_place_1 (by decide) ?_
  refine lv_icmp_ne (tgt := 6) hx hb dX3_place_2 (by decide) (fun c_2 => ?_) (fun c_2 => ?_)
  · skip
    obtain ⟨j, i0, j0, hj, ej, h16, h17, hij, hj0⟩ := hx9.resolve_left c_2
    have hxc : x.toNatClampNeg = j := by rw [ej, nI_clamp (by omega)]
    have g16 : r 16 x.toNatClampNeg = nI (r 16 x.toNatClampNeg).toNatClampNeg := by rw [hxc, h16, nI_clamp (by omega)]
    have g17 : r 17 x.toNatClampNeg = nI (r 17 x.toNatClampNeg).toNatClampNeg := by rw [hxc, h17, nI_clamp (by omega)]
    have g0 : (r 16 x.toNatClampNeg).toNatClampNeg ≤ (r 17 x.toNatClampNeg).toNatClampNeg ∧ (r 17 x.toNatClampNeg).toNatClampNeg ≤ ct := by rw [hxc, h16, h17, nI_clamp (by omega), nI_clamp (by omega)]; exact ⟨hij, hj0⟩
    refine lv_aload_n hx hb dX3_place_6 rfl (lv_at hl 0 rfl) ?_
    refine va_get (D := D) (ci := 3) (v := .ref (a 18)) (C := RX3) (T := TX3) (N := 6) hx hb hts hin_X3 hown hK hP 20 rfl rfl 2 (by decide) hf21 (fun _ h9 => h9) rfl dX3_place_7 ?_
    refine lv_aload_n hx hb dX3_place_10 rfl (lv_at hl 0 rfl) ?_
    refine va_get (D := D) (ci := 3) (v := .ref (a 12)) (C := RX3) (T := TX3) (N := 6) hx hb hts hin_X3 hown hK hP 20 rfl rfl 1 (by decide) hf12 (fun _ h9 => h9) rfl dX3_place_11 ?_
    refine va_get (D := D) (ci := 1) (v := .ref (a 16)) (C := RX1) (T := TX1) (N := 5) hx hb hts hin_X1 hown hK hP 12 rfl rfl 3 (by decide) hf99 (fun _ h9 => h9) rfl dX3_place_14 ?_
    refine lv_iload_n hx hb dX3_place_17 rfl (lv_at hl 2 rfl) ?_
    refine ra_ld (f := (r 16)) C0 hP 16 rfl x.toNatClampNeg (by rw [hxc]; exact ej) (by rw [hxc]; exact hj) (by decide) dX3_place_18 ?_
    refine lv_eqi g16 ?_
    refine lv_aload_n hx hb dX3_place_19 rfl (lv_at hl 0 rfl) ?_
    refine va_get (D := D) (ci := 3) (v := .ref (a 12)) (C := RX3) (T := TX3) (N := 6) hx hb hts hin_X3 hown hK hP 20 rfl rfl 1 (by decide) hf12 (fun _ h9 => h9) rfl dX3_place_20 ?_
    refine va_get (D := D) (ci := 1) (v := .ref (a 17)) (C := RX1) (T := TX1) (N := 5) hx hb hts hin_X1 hown hK hP 12 rfl rfl 4 (by decide) hf93 (fun _ h9 => h9) rfl dX3_place_23 ?_
    refine lv_iload_n hx hb dX3_place_26 rfl (lv_at hl 2 rfl) ?_
    refine ra_ld (f := (r 17)) C0 hP 17 rfl x.toNatClampNeg (by rw [hxc]; exact ej) (by rw [hxc]; exact hj) (by decide) dX3_place_27 ?_
    refine lv_eqi g17 ?_
    refine lv_iload_n hx hb dX3_place_28 rfl (lv_at hl 3 rfl) ?_
    refine lv_iload hx hb dX3_place_29 (lv_at hl 4 rfl) ?_
    refine kcDv C0 hP hD hS (c_X2_shift l D cI a v r ((r 16 x.toNatClampNeg).toNatClampNeg) ((r 17 x.toNatClampNeg).toNatClampNeg) ct X Y hct hct1 g0.1 g0.2) (cwV 4 hts gX3_place_X2_shift rfl rfl rfl (by decide +kernel) ⟨Nat.le_of_ble_eq_true rfl, Nat.le_of_ble_eq_true rfl⟩) 18 2 rfl rfl rfl hl.1 rfl (Nat.le_of_ble_eq_true rfl) dX3_place_31 ⟨Nat.zero_le _, Nat.zero_le _⟩ (fun H locs hP hD hS => ?_)
    have hP : va_P D vwCl (wX cI a v (shR r X Y ((r 16 x.toNatClampNeg).toNatClampNeg) ((r 17 x.toNatClampNeg).toNatClampNeg))) H := hP
    have hD : va_D A (wX cI a v (shR r X Y ((r 16 x.toNatClampNeg).toNatClampNeg) ((r 17 x.toNatClampNeg).toNatClampNeg))) := hD
    refine lv_aload_n hx hb dX3_place_34 rfl (lv_at hl 0 rfl) ?_
    refine va_get (D := D) (ci := 3) (v := .ref (a 12)) (C := RX3) (T := TX3) (N := 6) hx hb hts hin_X3 hown hK hP 20 rfl rfl 1 (by decide) hf12 (fun _ h9 => h9) rfl dX3_place_35 ?_
    refine lv_iload_n hx hb dX3_place_38 rfl (lv_at hl 1 rfl) ?_
    refine lv_iload hx hb dX3_place_39 (lv_at hl 4 rfl) ?_
    refine lv_aload_n hx hb dX3_place_41 rfl (lv_at hl 0 rfl) ?_
    refine va_get (D := D) (ci := 3) (v := .ref (a 12)) (C := RX3) (T := TX3) (N := 6) hx hb hts hin_X3 hown hK hP 20 rfl rfl 1 (by decide) hf12 (fun _ h9 => h9) rfl dX3_place_42 ?_
    refine va_get (D := D) (ci := 1) (v := .ref (a 14)) (C := RX1) (T := TX1) (N := 5) hx hb hts hin_X1 hown hK hP 12 rfl rfl 1 (by decide) hf49 (fun _ h9 => h9) rfl dX3_place_45 ?_
    refine lv_iload_n hx hb dX3_place_48 rfl (lv_at hl 2 rfl) ?_
    refine ra_ld (f := (r 14)) C0 hP 14 rfl x.toNatClampNeg (by rw [hxc]; exact ej) (by rw [hxc]; exact hj) (by decide) dX3_place_49 ?_
    refine lv_aload_n hx hb dX3_place_50 rfl (lv_at hl 0 rfl) ?_
    refine va_get (D := D) (ci := 3) (v := .ref (a 12)) (C := RX3) (T := TX3) (N := 6) hx hb hts hin_X3 hown hK hP 20 rfl rfl 1 (by decide) hf12 (fun _ h9 => h9) rfl dX3_place_51 ?_
    refine va_get (D := D) (ci := 1) (v := .ref (a 15)) (C := RX1) (T := TX1) (N := 5) hx hb hts hin_X1 hown hK hP 12 rfl rfl 2 (by decide) hf51 (fun _ h9 => h9) rfl dX3_place_54 ?_
    refine lv_iload_n hx hb dX3_place_57 rfl (lv_at hl 2 rfl) ?_
    refine ra_ld (f := (r 15)) C0 hP 15 rfl x.toNatClampNeg (by rw [hxc]; exact ej) (by rw [hxc]; exact hj) (by decide) dX3_place_58 ?_
    refine kcDv C0 hP hD hS (c_X1_cover l D cI a v (shR r X Y ((r 16 x.toNatClampNeg).toNatClampNeg) ((r 17 x.toNatClampNeg).toNatClampNeg)) b Y ((r 14) x.toNatClampNeg) ((r 15) x.toNatClampNeg) (by omega)) (cwV 4 hts gX3_place_X1_cover rfl rfl rfl (by decide +kernel) ⟨Nat.le_of_ble_eq_true rfl, Nat.le_of_ble_eq_true rfl⟩) 12 1 rfl rfl rfl hl.1 rfl (Nat.le_of_ble_eq_true rfl) dX3_place_59 ⟨Nat.zero_le _, Nat.zero_le _⟩ (fun H locs hP hD hS => ?_)
    have hP : va_P D vwCl (wX cI a v (cvR (shR r X Y ((r 16 x.toNatClampNeg).toNatClampNeg) ((r 17 x.toNatClampNeg).toNatClampNeg)) b Y ((r 14) x.toNatClampNeg) ((r 15) x.toNatClampNeg))) H := hP
    have hD : va_D A (wX cI a v (cvR (shR r X Y ((r 16 x.toNatClampNeg).toNatClampNeg) ((r 17 x.toNatClampNeg).toNatClampNeg)) b Y ((r 14) x.toNatClampNeg) ((r 15) x.toNatClampNeg))) := hD
    have hpl : wX cI a v (cvR (shR r X Y ((r 16 x.toNatClampNeg).toNatClampNeg) ((r 17 x.toNatClampNeg).toNatClampNeg)) b Y ((r 14) x.toNatClampNeg) ((r 15) x.toNatClampNeg)) = wX cI a v (plR r b x X Y) := by rw [plR_y c_2]
    rw [hpl] at hP hD
    exact k_vret C0 () hP hD hS trivial dX3_place_62
  · skip
    have hpl : wX cI a v r = wX cI a v (plR r b x X Y) := by rw [plR_n c_2]
    rw [hpl] at hP hD
    exact k_vret C0 () hP hD hS trivial dX3_place_5
