theorem i_8 (a : Nat) : nI a * 8 = nI (8 * a) := by rw [show nI a * 8 = nI (a * 8) from pk_mul a 8, Nat.mul_comm]
theorem i_8p (a b : Nat) : nI a * 8 + nI b = nI (8 * a + b) := by rw [i_8, nI_add]
theorem i_81 (a : Nat) : nI a * 8 + 1 = nI (8 * a + 1) := i_8p a 1
theorem i_82 (a : Nat) : nI a * 8 + 2 = nI (8 * a + 2) := i_8p a 2
theorem i_83 (a : Nat) : nI a * 8 + 3 = nI (8 * a + 3) := i_8p a 3
theorem i_84 (a : Nat) : nI a * 8 + 4 = nI (8 * a + 4) := i_8p a 4
theorem i_87 (a : Nat) : nI a * 8 + 7 = nI (8 * a + 7) := i_8p a 7
/-- items from a on, below b, moved to the right and up -/
def shF (f : Nat → Int32) (x y : Int32) (a b : Nat) : Nat → Int32 := fun j => if 8 * a ≤ j ∧ j < 8 * b then (if j % 8 = 1 then f j + x else if j % 8 = 2 then f j + y else f j) else f j
theorem sh_0 (f : Nat → Int32) (x y : Int32) (a : Nat) : shF f x y a a = f := by
  funext j
  unfold shF
  rw [if_neg (by omega)]
theorem sh_at (f : Nat → Int32) (x y : Int32) (a b c : Nat) (h : 8 * b ≤ c) : shF f x y a b c = f c := by
  unfold shF
  rw [if_neg (by omega)]
theorem sh_s (f : Nat → Int32) (x y : Int32) {a b : Nat} (h : a ≤ b) : upd (upd (shF f x y a b) (8 * b + 1) (shF f x y a b (8 * b + 1) + x)) (8 * b + 2) (upd (shF f x y a b) (8 * b + 1) (shF f x y a b (8 * b + 1) + x) (8 * b + 2) + y) = shF f x y a (b + 1) := by
  funext j
  rw [pk_un (show 8 * b + 2 ≠ 8 * b + 1 by omega), sh_at f x y a b (8 * b + 1) (by omega), sh_at f x y a b (8 * b + 2) (by omega)]
  by_cases e2 : j = 8 * b + 2
  · rw [e2, pk_us]
    unfold shF
    rw [if_pos (by omega), if_neg (by omega), if_pos (by omega)]
  · rw [pk_un e2]
    by_cases e1 : j = 8 * b + 1
    · rw [e1, pk_us]
      unfold shF
      rw [if_pos (by omega), if_pos (by omega)]
    · rw [pk_un e1]
      unfold shF
      by_cases c : 8 * a ≤ j ∧ j < 8 * b
      · rw [if_pos c, if_pos (show 8 * a ≤ j ∧ j < 8 * (b + 1) by omega)]
      · rw [if_neg c]
        by_cases c2 : 8 * a ≤ j ∧ j < 8 * (b + 1)
        · rw [if_pos c2, if_neg (by omega), if_neg (by omega)]
        · rw [if_neg c2]

theorem mm_max {i : Nat} (h : i < 2 ^ 31) : (if nI i < 0 then (0 : Int32) else nI i) = nI i := if_neg (fun q => absurd ((nI_ltI (a := i) (b := 0) h (by decide)).mp q) (Nat.not_lt_zero _))
theorem mm_min {j c : Nat} (h : j ≤ c) (hc : c < 2 ^ 31) : (if nI c < nI j then nI c else nI j) = nI j := if_neg (fun q => by have := (nI_ltI (a := c) (b := j) hc (by omega)).mp q; omega)
/-- the item is there -/
theorem hs_in {i c : Nat} {x : Int32} (hx : x = nI c) (hc : c ≤ 150) (h : i < c) : 0 ≤ nI i ∧ nI i < x := by
  rw [hx]
  exact ⟨nI_le (a := 0) (Nat.zero_le _) (by omega), nI_lt h (by omega)⟩

set_option maxHeartbeats 1500000 in
theorem pf_X2_has_0 (a : Nat → Nat) (v : Nat → Int32) (r : Nat → Nat → Int32) (x : Int32)  (x_1 : Int32) (ex_1 : x_1 = (if x < 0 then (0 : Int32) else (if (v 4) ≤ x then (0 : Int32) else (1 : Int32)))) : x_1 = bI (0 ≤ x ∧ x < v 4) := by
  subst_vars <;> simp only [bI] <;> (repeat' split) <;> first | (with_reducible rfl) | (simp_all; done) | (simp only [i_lt, i_le, i_eq, tI0, tI1, tI2, tI3, tI4, tI5, tI6, tI7, tI8, tI9, tI10, tI11, tI12, tI13, tI14, tI15, tI16, tI30, tI120, tI255, tI256, tI1000, tIm1] at * <;> omega)
set_option maxHeartbeats 1500000 in
theorem pf_X2_has_1 (a : Nat → Nat) (v : Nat → Int32) (r : Nat → Nat → Int32) (x : Int32)  (x_1 : Int32) (ex_1 : x_1 = (if x < 0 then (0 : Int32) else (if (v 4) ≤ x then (0 : Int32) else (1 : Int32)))) : narrow .boolean (.int x_1) = .int x_1 := by
  subst_vars; (repeat' split) <;> rfl
set_option maxHeartbeats 1500000 in
set_option maxRecDepth 100000 in
theorem c_X2_has (l : Launch) (D : va_G) (cI : ClassId) (a : Nat → Nat) (v : Nat → Int32) (r : Nat → Nat → Int32) (x : Int32) : KD l D cI yX2_has wsX2_has ({ frames := 0, cells := 0, slots := 0, locals := 0 }) [.ref (a 18), .int x] (wX cI a v r) (wX cI a v r) (bI (0 ≤ x ∧ x < v 4)) := by
  refine KI.of (cc := cX2_has) (nL := 2) (ret := (some .boolean)) (by decide) rfl (Nat.le_of_ble_eq_true rfl) ?_
  intro pg9 en9 s m args below meth cd9 A ls C0 hP hD hS hl
  have hx := C0.1.1
  have hb := C0.1.2.1
  have hml := C0.1.2.2.1
  have hown : s.vm.findClass RX2 = some m.cls := C0.1.2.2.2.1
  have hts : ∀ w ∈ wsX2_has, w.before args s = true := C0.1.2.2.2.2
  have hK := C0.2.2.2.1
  have hin_X2 : ∀ w ∈ wsX20, w ∈ wsX2_has := fun w h => List.mem_cons_of_mem _ (List.mem_append_right _ h)
  have hf9 : (Cond.fieldLink RX2 9 "FormulaLists$Items" "count" "I").before args s = true := hts _ (by decide +kernel)
  have hl : lv_has ls 2 [(0, .ref (a 18)), (1, .int x)] := hl
  have hP : va_P D vwCl (wX cI a v r) s.heap := hP
  refine lv_iload_n hx hb dX2_has_0 rfl (lv_at hl 1 rfl) ?_
  obtain ⟨x_1, ex_1⟩ : ∃ zz_ : Int32, zz_ = (if x < 0 then (0 : Int32) else (if (v 4) ≤ x then (0 : Int32) else (1 : Int32))) := ⟨_, rfl⟩
  refine jW (D := D) hD hl 17 (wX cI a v r) [(0, .ref (a 18)), (1, .int x)] [.int x_1] (fun hJ => ?_) (fun H locs ls hP hD hS hl => ?_)
  · skip
    refine lv_if_lt (tgt := 16) hx hb dX2_has_1 (by decide) (fun c_1 => ?_) (fun c_1 => ?_)
    · skip
      refine lv_iconst (v := 0) hx hb dX2_has_16 (by decide) ?_
      have gx_1 : x_1 = 0 := by rw [ex_1]; simp only [if_pos c_1]
      simp only [gx_1] at hJ
      exact hJ _ _ _ hP hD hS (lv_sub hl [0, 1] rfl)
    · skip
      refine lv_iload_n hx hb dX2_has_4 rfl (lv_at hl 1 rfl) ?_
      refine lv_aload_n hx hb dX2_has_5 rfl (lv_at hl 0 rfl) ?_
      refine va_get (D := D) (ci := 2) (v := .int (v 4)) (C := RX2) (T := TX2) (N := 2) hx hb hts hin_X2 hown hK hP 18 rfl rfl 0 (by decide) hf9 (fun _ h9 => h9) rfl dX2_has_6 ?_
      refine lv_icmp_ge (tgt := 16) hx hb dX2_has_9 (by decide) (fun c_9 => ?_) (fun c_9 => ?_)
      · skip
        refine lv_iconst (v := 0) hx hb dX2_has_16 (by decide) ?_
        have gx_1 : x_1 = 0 := by rw [ex_1]; simp only [if_neg c_1, if_pos c_9]
        simp only [gx_1] at hJ
        exact hJ _ _ _ hP hD hS (lv_sub hl [0, 1] rfl)
      · skip
        refine lv_iconst (v := 1) hx hb dX2_has_12 (by decide) ?_
        refine lv_goto (tgt := 17) hx hb dX2_has_13 (by decide) ?_
        have gx_1 : x_1 = 1 := by rw [ex_1]; simp only [if_neg c_1, if_neg c_9]
        simp only [gx_1] at hJ
        exact hJ _ _ _ hP hD hS (lv_sub hl [0, 1] rfl)
  · skip
    exact k_zret C0 () hP hD hS (pf_X2_has_1 a v r x x_1 ex_1) (pf_X2_has_0 a v r x x_1 ex_1) dX2_has_17

set_option maxHeartbeats 1500000 in
set_option maxRecDepth 100000 in
theorem c_X2_part (l : Launch) (D : va_G) (cI : ClassId) (a : Nat → Nat) (v : Nat → Int32) (r : Nat → Nat → Int32) (i w c9 : Nat) (hc9 : v 4 = nI c9) (hc91 : c9 ≤ 150) (hi : i < c9) (hw : w < 8) : KD l D cI yX2_part wsX2_part ({ frames := 1, cells := 0, slots := 0, locals := 21 }) [.ref (a 18), .int (nI i), .int (nI w)] (wX cI a v r) (wX cI a v r) (r 19 (8 * i + w)) := by
  refine KI.of (cc := cX2_part) (nL := 3) (ret := (some .int)) (by decide) rfl (Nat.le_of_ble_eq_true rfl) ?_
  intro pg9 en9 s m args below meth cd9 A ls C0 hP hD hS hl
  have hx := C0.1.1
  have hb := C0.1.2.1
  have hml := C0.1.2.2.1
  have hown : s.vm.findClass RX2 = some m.cls := C0.1.2.2.2.1
  have hts : ∀ w ∈ wsX2_part, w.before args s = true := C0.1.2.2.2.2
  have hK := C0.2.2.2.1
  have hin_X2 : ∀ w ∈ wsX20, w ∈ wsX2_part := fun w h => List.mem_cons_of_mem _ (List.mem_append_right _ h)
  have hf15 : (Cond.fieldLink RX2 15 "FormulaLists$Items" "parts" "[I").before args s = true := hts _ (by decide +kernel)
  have hl : lv_has ls 3 [(0, .ref (a 18)), (1, .int (nI i)), (2, .int (nI w))] := hl
  have hP : va_P D vwCl (wX cI a v r) s.heap := hP
  refine lv_aload_n hx hb dX2_part_0 rfl (lv_at hl 0 rfl) ?_
  refine lv_iload_n hx hb dX2_part_1 rfl (lv_at hl 1 rfl) ?_
  refine kcD (ans := (bI (0 ≤ (nI i) ∧ (nI i) < v 4))) C0 hP hD hS (c_X2_has l D cI a v r (nI i) ) (cwV 1 hts gX2_part_X2_has rfl rfl rfl (by decide +kernel) ⟨Nat.le_of_ble_eq_true rfl, Nat.le_of_ble_eq_true rfl⟩) 18 2 rfl rfl rfl hl.1 rfl (Nat.le_of_ble_eq_true rfl) dX2_part_2 ⟨Nat.zero_le _, Nat.zero_le _⟩ (fun H locs hP hD hS => ?_)
  refine lv_if_eq (tgt := 22) hx hb dX2_part_5 (by decide) (fun c_5 => absurd (hs_in hc9 hc91 hi) (bI_z.mp c_5)) (fun c_5 => ?_)
  refine lv_aload_n hx hb dX2_part_8 rfl (lv_at hl 0 rfl) ?_
  refine va_get (D := D) (ci := 2) (v := .ref (a 19)) (C := RX2) (T := TX2) (N := 2) hx hb hts hin_X2 hown hK hP 18 rfl rfl 1 (by decide) hf15 (fun _ h9 => h9) rfl dX2_part_9 ?_
  refine lv_iload_n hx hb dX2_part_12 rfl (lv_at hl 1 rfl) ?_
  refine lv_bipush (v := 8) hx hb dX2_part_13 (by decide) ?_
  refine lv_imul hx hb dX2_part_15 ?_
  refine lv_iload_n hx hb dX2_part_16 rfl (lv_at hl 2 rfl) ?_
  refine lv_iadd hx hb dX2_part_17 ?_
  refine ra_ld (f := (r 19)) C0 hP 19 rfl (8 * i + w) (i_8p i w) (by omega) (by decide) dX2_part_18 ?_
  refine lv_goto (tgt := 23) hx hb dX2_part_19 (by decide) ?_
  exact k_iret C0 () hP hD hS rfl dX2_part_23

set_option maxHeartbeats 1500000 in
set_option maxRecDepth 100000 in
theorem c_X2_add (l : Launch) (D : va_G) (cI : ClassId) (a : Nat → Nat) (v : Nat → Int32) (r : Nat → Nat → Int32) (x y z : Int32) (c : Nat) (hc : v 4 = nI c) (hc1 : c < 150) : KD l D cI yX2_add wsX2_add ({ frames := 0, cells := 0, slots := 0, locals := 0 }) [.ref (a 18), .int x, .int y, .int z] (wX cI a v r) (wX cI a (vU v 4 ((v 4) + 1)) (rU r 19 (upd (upd (upd (upd (upd (upd (r 19) (8 * c) x) (8 * c + 1) 0) (8 * c + 2) 0) (8 * c + 5) z) (8 * c + 6) y) (8 * c + 7) 0))) (v 4) := by
  refine KI.of (cc := cX2_add) (nL := 6) (ret := (some .int)) (by decide) rfl (Nat.le_of_ble_eq_true rfl) ?_
  intro pg9 en9 s m args below meth cd9 A ls C0 hP hD hS hl
  have hx := C0.1.1
  have hb := C0.1.2.1
  have hml := C0.1.2.2.1
  have hown : s.vm.findClass RX2 = some m.cls := C0.1.2.2.2.1
  have hts : ∀ w ∈ wsX2_add, w.before args s = true := C0.1.2.2.2.2
  have hK := C0.2.2.2.1
  have hin_X2 : ∀ w ∈ wsX20, w ∈ wsX2_add := fun w h => List.mem_cons_of_mem _ (List.mem_append_right _ h)
  have hf9 : (Cond.fieldLink RX2 9 "FormulaLists$Items" "count" "I").before args s = true := hts _ (by decide +kernel)
  have hf15 : (Cond.fieldLink RX2 15 "FormulaLists$Items" "parts" "[I").before args s = true := hts _ (by decide +kernel)
  have hl : lv_has ls 6 [(0, .ref (a 18)), (1, .int x), (2, .int y), (3, .int z)] := hl
  have hP : va_P D vwCl (wX cI a v r) s.heap := hP
  refine lv_aload_n hx hb dX2_add_0 rfl (lv_at hl 0 rfl) ?_
  refine va_get (D := D) (ci := 2) (v := .int (v 4)) (C := RX2) (T := TX2) (N := 2) hx hb hts hin_X2 hown hK hP 18 rfl rfl 0 (by decide) hf9 (fun _ h9 => h9) rfl dX2_add_1 ?_
  refine lv_sipush (v := 150) hx hb dX2_add_4 (by decide) ?_
  refine lv_icmp_lt (tgt := 12) hx hb dX2_add_7 (by decide) (fun c_7 => ?_) (fun c_7 => absurd (show (v 4) < 150 by rw [hc]; exact nI_lt (b := 150) hc1 (by decide)) c_7)
  refine lv_aload_n hx hb dX2_add_12 rfl (lv_at hl 0 rfl) ?_
  refine va_get (D := D) (ci := 2) (v := .int (v 4)) (C := RX2) (T := TX2) (N := 2) hx hb hts hin_X2 hown hK hP 18 rfl rfl 0 (by decide) hf9 (fun _ h9 => h9) rfl dX2_add_13 ?_
  refine lv_istore (lv' := [(4, .int (v 4)), (0, .ref (a 18)), (1, .int x), (2, .int y), (3, .int z)]) hx hb dX2_add_16 hl (by decide) rfl (fun ls hl => ?_)
  refine lv_iload hx hb dX2_add_18 (lv_at hl 0 rfl) ?_
  refine lv_bipush (v := 8) hx hb dX2_add_20 (by decide) ?_
  refine lv_imul hx hb dX2_add_22 ?_
  refine lv_eqi (show (v 4) * 8 = nI (8 * c) by rw [hc]; exact i_8 c) ?_
  refine lv_istore (lv' := [(5, .int (nI (8 * c))), (4, .int (v 4)), (0, .ref (a 18)), (1, .int x), (2, .int y), (3, .int z)]) hx hb dX2_add_23 hl (by decide) rfl (fun ls hl => ?_)
  refine lv_aload_n hx hb dX2_add_25 rfl (lv_at hl 2 rfl) ?_
  refine va_get (D := D) (ci := 2) (v := .ref (a 19)) (C := RX2) (T := TX2) (N := 2) hx hb hts hin_X2 hown hK hP 18 rfl rfl 1 (by decide) hf15 (fun _ h9 => h9) rfl dX2_add_26 ?_
  refine lv_iload hx hb dX2_add_29 (lv_at hl 0 rfl) ?_
  refine lv_iload_n hx hb dX2_add_31 rfl (lv_at hl 3 rfl) ?_
  refine ra_st (f := (r 19)) C0 hP hD hS 19 rfl (8 * c) rfl (by omega) (by decide) dX2_add_32 (fun H locs hP hD hS => ?_)
  have hset : ∀ (g_ : Nat → Int32), (wX cI a v r).set 19 (a 19, .inl (cI, 1200, .inl g_)) = (wX cI a v (rU r 19 g_)) := fun _ => rfl
  rw [hset] at hP hD
  refine lv_aload_n hx hb dX2_add_33 rfl (lv_at hl 2 rfl) ?_
  refine va_get (D := D) (ci := 2) (v := .ref (a 19)) (C := RX2) (T := TX2) (N := 2) hx hb hts hin_X2 hown hK hP 18 rfl rfl 1 (by decide) hf15 (fun _ h9 => h9) rfl dX2_add_34 ?_
  refine lv_iload hx hb dX2_add_37 (lv_at hl 0 rfl) ?_
  refine lv_iconst (v := 1) hx hb dX2_add_39 (by decide) ?_
  refine lv_iadd hx hb dX2_add_40 ?_
  refine lv_iconst (v := 0) hx hb dX2_add_41 (by decide) ?_
  refine ra_st (f := (upd (r 19) (8 * c) x)) C0 hP hD hS 19 rfl (8 * c + 1) (i_p1 _) (by omega) (by decide) dX2_add_42 (fun H locs hP hD hS => ?_)
  have hset : ∀ (f19_ : Nat → Int32) (g_ : Nat → Int32), (wX cI a v (rU r 19 f19_)).set 19 (a 19, .inl (cI, 1200, .inl g_)) = (wX cI a v (rU r 19 g_)) := fun _ _ => rfl
  rw [hset] at hP hD
  refine lv_aload_n hx hb dX2_add_43 rfl (lv_at hl 2 rfl) ?_
  refine va_get (D := D) (ci := 2) (v := .ref (a 19)) (C := RX2) (T := TX2) (N := 2) hx hb hts hin_X2 hown hK hP 18 rfl rfl 1 (by decide) hf15 (fun _ h9 => h9) rfl dX2_add_44 ?_
  refine lv_iload hx hb dX2_add_47 (lv_at hl 0 rfl) ?_
  refine lv_iconst (v := 2) hx hb dX2_add_49 (by decide) ?_
  refine lv_iadd hx hb dX2_add_50 ?_
  refine lv_iconst (v := 0) hx hb dX2_add_51 (by decide) ?_
  refine ra_st (f := (upd (upd (r 19) (8 * c) x) (8 * c + 1) 0)) C0 hP hD hS 19 rfl (8 * c + 2) (i_p2 _) (by omega) (by decide) dX2_add_52 (fun H locs hP hD hS => ?_)
  have hset : ∀ (f19_ : Nat → Int32) (g_ : Nat → Int32), (wX cI a v (rU r 19 f19_)).set 19 (a 19, .inl (cI, 1200, .inl g_)) = (wX cI a v (rU r 19 g_)) := fun _ _ => rfl
  rw [hset] at hP hD
  refine lv_aload_n hx hb dX2_add_53 rfl (lv_at hl 2 rfl) ?_
  refine va_get (D := D) (ci := 2) (v := .ref (a 19)) (C := RX2) (T := TX2) (N := 2) hx hb hts hin_X2 hown hK hP 18 rfl rfl 1 (by decide) hf15 (fun _ h9 => h9) rfl dX2_add_54 ?_
  refine lv_iload hx hb dX2_add_57 (lv_at hl 0 rfl) ?_
  refine lv_iconst (v := 5) hx hb dX2_add_59 (by decide) ?_
  refine lv_iadd hx hb dX2_add_60 ?_
  refine lv_iload_n hx hb dX2_add_61 rfl (lv_at hl 5 rfl) ?_
  refine ra_st (f := (upd (upd (upd (r 19) (8 * c) x) (8 * c + 1) 0) (8 * c + 2) 0)) C0 hP hD hS 19 rfl (8 * c + 5) (i_p5 _) (by omega) (by decide) dX2_add_62 (fun H locs hP hD hS => ?_)
  have hset : ∀ (f19_ : Nat → Int32) (g_ : Nat → Int32), (wX cI a v (rU r 19 f19_)).set 19 (a 19, .inl (cI, 1200, .inl g_)) = (wX cI a v (rU r 19 g_)) := fun _ _ => rfl
  rw [hset] at hP hD
  refine lv_aload_n hx hb dX2_add_63 rfl (lv_at hl 2 rfl) ?_
  refine va_get (D := D) (ci := 2) (v := .ref (a 19)) (C := RX2) (T := TX2) (N := 2) hx hb hts hin_X2 hown hK hP 18 rfl rfl 1 (by decide) hf15 (fun _ h9 => h9) rfl dX2_add_64 ?_
  refine lv_iload hx hb dX2_add_67 (lv_at hl 0 rfl) ?_
  refine lv_bipush (v := 6) hx hb dX2_add_69 (by decide) ?_
  refine lv_iadd hx hb dX2_add_71 ?_
  refine lv_iload_n hx hb dX2_add_72 rfl (lv_at hl 4 rfl) ?_
  refine ra_st (f := (upd (upd (upd (upd (r 19) (8 * c) x) (8 * c + 1) 0) (8 * c + 2) 0) (8 * c + 5) z)) C0 hP hD hS 19 rfl (8 * c + 6) (i_p6 _) (by omega) (by decide) dX2_add_73 (fun H locs hP hD hS => ?_)
  have hset : ∀ (f19_ : Nat → Int32) (g_ : Nat → Int32), (wX cI a v (rU r 19 f19_)).set 19 (a 19, .inl (cI, 1200, .inl g_)) = (wX cI a v (rU r 19 g_)) := fun _ _ => rfl
  rw [hset] at hP hD
  refine lv_aload_n hx hb dX2_add_74 rfl (lv_at hl 2 rfl) ?_
  refine va_get (D := D) (ci := 2) (v := .ref (a 19)) (C := RX2) (T := TX2) (N := 2) hx hb hts hin_X2 hown hK hP 18 rfl rfl 1 (by decide) hf15 (fun _ h9 => h9) rfl dX2_add_75 ?_
  refine lv_iload hx hb dX2_add_78 (lv_at hl 0 rfl) ?_
  refine lv_bipush (v := 7) hx hb dX2_add_80 (by decide) ?_
  refine lv_iadd hx hb dX2_add_82 ?_
  refine lv_iconst (v := 0) hx hb dX2_add_83 (by decide) ?_
  refine ra_st (f := (upd (upd (upd (upd (upd (r 19) (8 * c) x) (8 * c + 1) 0) (8 * c + 2) 0) (8 * c + 5) z) (8 * c + 6) y)) C0 hP hD hS 19 rfl (8 * c + 7) (i_p7 _) (by omega) (by decide) dX2_add_84 (fun H locs hP hD hS => ?_)
  have hset : ∀ (f19_ : Nat → Int32) (g_ : Nat → Int32), (wX cI a v (rU r 19 f19_)).set 19 (a 19, .inl (cI, 1200, .inl g_)) = (wX cI a v (rU r 19 g_)) := fun _ _ => rfl
  rw [hset] at hP hD
  refine lv_aload_n hx hb dX2_add_85 rfl (lv_at hl 2 rfl) ?_
  refine lv_dup hx hb dX2_add_86 rfl ?_
  refine va_get (D := D) (ci := 2) (v := .int (v 4)) (C := RX2) (T := TX2) (N := 2) hx hb hts hin_X2 hown hK hP 18 rfl rfl 0 (by decide) hf9 (fun _ h9 => h9) rfl dX2_add_87 ?_
  refine lv_iconst (v := 1) hx hb dX2_add_90 (by decide) ?_
  refine lv_iadd hx hb dX2_add_91 ?_
  refine va_put (D := D) (ci := 2) (v := .int ((v 4) + 1)) (ty := .int) (C := RX2) (T := TX2) (N := 2) hx hb hts hin_X2 tyX2 tyX2_ok nmX2 hown hK hP hD hS 18 rfl rfl 0 (by decide) hf9 (fun _ h9 => h9) rfl (by decide +kernel) rfl rfl (Nat.le_of_ble_eq_true rfl) dX2_add_92 (fun H locs hP hD hS => ?_)
  have hP : va_P D vwCl (wX cI a (vU v 4 ((v 4) + 1)) (rU r 19 (upd (upd (upd (upd (upd (upd (r 19) (8 * c) x) (8 * c + 1) 0) (8 * c + 2) 0) (8 * c + 5) z) (8 * c + 6) y) (8 * c + 7) 0))) H := hP
  have hD : va_D A (wX cI a (vU v 4 ((v 4) + 1)) (rU r 19 (upd (upd (upd (upd (upd (upd (r 19) (8 * c) x) (8 * c + 1) 0) (8 * c + 2) 0) (8 * c + 5) z) (8 * c + 6) y) (8 * c + 7) 0))) := hD
  refine lv_iload hx hb dX2_add_95 (lv_at hl 1 rfl) ?_
  exact k_iret C0 () hP hD hS rfl dX2_add_97

set_option maxHeartbeats 1500000 in
set_option maxRecDepth 100000 in
theorem c_X2_measure (l : Launch) (D : va_G) (cI : ClassId) (a : Nat → Nat) (v : Nat → Int32) (r : Nat → Nat → Int32) (i c9 : Nat) (x y : Int32) (hc9 : v 4 = nI c9) (hc91 : c9 ≤ 150) (hi : i < c9) : KDv l D cI yX2_measure wsX2_measure ({ frames := 1, cells := 0, slots := 0, locals := 21 }) [.ref (a 18), .int (nI i), .int x, .int y] (wX cI a v r) (wX cI a v (rU r 19 (upd (upd (r 19) (8 * i + 3) x) (8 * i + 4) y))) := by
  refine KV.of (cc := cX2_measure) (nL := 4) (ret := none) (by decide) rfl (Nat.le_of_ble_eq_true rfl) ?_
  intro pg9 en9 s m args below meth cd9 A ls C0 hP hD hS hl
  have hx := C0.1.1
  have hb := C0.1.2.1
  have hml := C0.1.2.2.1
  have hown : s.vm.findClass RX2 = some m.cls := C0.1.2.2.2.1
  have hts : ∀ w ∈ wsX2_measure, w.before args s = true := C0.1.2.2.2.2
  have hK := C0.2.2.2.1
  have hin_X2 : ∀ w ∈ wsX20, w ∈ wsX2_measure := fun w h => List.mem_cons_of_mem _ (List.mem_append_right _ h)
  have hf15 : (Cond.fieldLink RX2 15 "FormulaLists$Items" "parts" "[I").before args s = true := hts _ (by decide +kernel)
  have hl : lv_has ls 4 [(0, .ref (a 18)), (1, .int (nI i)), (2, .int x), (3, .int y)] := hl
  have hP : va_P D vwCl (wX cI a v r) s.heap := hP
  refine lv_aload_n hx hb dX2_measure_0 rfl (lv_at hl 0 rfl) ?_
  refine lv_iload_n hx hb dX2_measure_1 rfl (lv_at hl 1 rfl) ?_
  refine kcD (ans := (bI (0 ≤ (nI i) ∧ (nI i) < v 4))) C0 hP hD hS (c_X2_has l D cI a v r (nI i) ) (cwV 1 hts gX2_measure_X2_has rfl rfl rfl (by decide +kernel) ⟨Nat.le_of_ble_eq_true rfl, Nat.le_of_ble_eq_true rfl⟩) 18 2 rfl rfl rfl hl.1 rfl (Nat.le_of_ble_eq_true rfl) dX2_measure_2 ⟨Nat.zero_le _, Nat.zero_le _⟩ (fun H locs hP hD hS => ?_)
  refine lv_if_eq (tgt := 32) hx hb dX2_measure_5 (by decide) (fun c_5 => absurd (hs_in hc9 hc91 hi) (bI_z.mp c_5)) (fun c_5 => ?_)
  refine lv_aload_n hx hb dX2_measure_8 rfl (lv_at hl 0 rfl) ?_
  refine va_get (D := D) (ci := 2) (v := .ref (a 19)) (C := RX2) (T := TX2) (N := 2) hx hb hts hin_X2 hown hK hP 18 rfl rfl 1 (by decide) hf15 (fun _ h9 => h9) rfl dX2_measure_9 ?_
  refine lv_iload_n hx hb dX2_measure_12 rfl (lv_at hl 1 rfl) ?_
  refine lv_bipush (v := 8) hx hb dX2_measure_13 (by decide) ?_
  refine lv_imul hx hb dX2_measure_15 ?_
  refine lv_iconst (v := 3) hx hb dX2_measure_16 (by decide) ?_
  refine lv_iadd hx hb dX2_measure_17 ?_
  refine lv_iload_n hx hb dX2_measure_18 rfl (lv_at hl 2 rfl) ?_
  refine ra_st (f := (r 19)) C0 hP hD hS 19 rfl (8 * i + 3) (i_83 i) (by omega) (by decide) dX2_measure_19 (fun H locs hP hD hS => ?_)
  have hset : ∀ (g_ : Nat → Int32), (wX cI a v r).set 19 (a 19, .inl (cI, 1200, .inl g_)) = (wX cI a v (rU r 19 g_)) := fun _ => rfl
  rw [hset] at hP hD
  refine lv_aload_n hx hb dX2_measure_20 rfl (lv_at hl 0 rfl) ?_
  refine va_get (D := D) (ci := 2) (v := .ref (a 19)) (C := RX2) (T := TX2) (N := 2) hx hb hts hin_X2 hown hK hP 18 rfl rfl 1 (by decide) hf15 (fun _ h9 => h9) rfl dX2_measure_21 ?_
  refine lv_iload_n hx hb dX2_measure_24 rfl (lv_at hl 1 rfl) ?_
  refine lv_bipush (v := 8) hx hb dX2_measure_25 (by decide) ?_
  refine lv_imul hx hb dX2_measure_27 ?_
  refine lv_iconst (v := 4) hx hb dX2_measure_28 (by decide) ?_
  refine lv_iadd hx hb dX2_measure_29 ?_
  refine lv_iload_n hx hb dX2_measure_30 rfl (lv_at hl 3 rfl) ?_
  refine ra_st (f := (upd (r 19) (8 * i + 3) x)) C0 hP hD hS 19 rfl (8 * i + 4) (i_84 i) (by omega) (by decide) dX2_measure_31 (fun H locs hP hD hS => ?_)
  have hset : ∀ (f19_ : Nat → Int32) (g_ : Nat → Int32), (wX cI a v (rU r 19 f19_)).set 19 (a 19, .inl (cI, 1200, .inl g_)) = (wX cI a v (rU r 19 g_)) := fun _ _ => rfl
  rw [hset] at hP hD
  exact k_vret C0 () hP hD hS trivial dX2_measure_32

set_option maxHeartbeats 1500000 in
set_option maxRecDepth 100000 in
theorem c_X2_markShort (l : Launch) (D : va_G) (cI : ClassId) (a : Nat → Nat) (v : Nat → Int32) (r : Nat → Nat → Int32) (i c9 : Nat) (hc9 : v 4 = nI c9) (hc91 : c9 ≤ 150) (hi : i < c9) : KDv l D cI yX2_markShort wsX2_markShort ({ frames := 1, cells := 0, slots := 0, locals := 21 }) [.ref (a 18), .int (nI i)] (wX cI a v r) (wX cI a v (rU r 19 (upd (r 19) (8 * i + 7) 1))) := by
  refine KV.of (cc := cX2_markShort) (nL := 2) (ret := none) (by decide) rfl (Nat.le_of_ble_eq_true rfl) ?_
  intro pg9 en9 s m args below meth cd9 A ls C0 hP hD hS hl
  have hx := C0.1.1
  have hb := C0.1.2.1
  have hml := C0.1.2.2.1
  have hown : s.vm.findClass RX2 = some m.cls := C0.1.2.2.2.1
  have hts : ∀ w ∈ wsX2_markShort, w.before args s = true := C0.1.2.2.2.2
  have hK := C0.2.2.2.1
  have hin_X2 : ∀ w ∈ wsX20, w ∈ wsX2_markShort := fun w h => List.mem_cons_of_mem _ (List.mem_append_right _ h)
  have hf15 : (Cond.fieldLink RX2 15 "FormulaLists$Items" "parts" "[I").before args s = true := hts _ (by decide +kernel)
  have hl : lv_has ls 2 [(0, .ref (a 18)), (1, .int (nI i))] := hl
  have hP : va_P D vwCl (wX cI a v r) s.heap := hP
  refine lv_aload_n hx hb dX2_markShort_0 rfl (lv_at hl 0 rfl) ?_
  refine lv_iload_n hx hb dX2_markShort_1 rfl (lv_at hl 1 rfl) ?_
  refine kcD (ans := (bI (0 ≤ (nI i) ∧ (nI i) < v 4))) C0 hP hD hS (c_X2_has l D cI a v r (nI i) ) (cwV 1 hts gX2_markShort_X2_has rfl rfl rfl (by decide +kernel) ⟨Nat.le_of_ble_eq_true rfl, Nat.le_of_ble_eq_true rfl⟩) 18 2 rfl rfl rfl hl.1 rfl (Nat.le_of_ble_eq_true rfl) dX2_markShort_2 ⟨Nat.zero_le _, Nat.zero_le _⟩ (fun H locs hP hD hS => ?_)
  refine lv_if_eq (tgt := 21) hx hb dX2_markShort_5 (by decide) (fun c_5 => absurd (hs_in hc9 hc91 hi) (bI_z.mp c_5)) (fun c_5 => ?_)
  refine lv_aload_n hx hb dX2_markShort_8 rfl (lv_at hl 0 rfl) ?_
  refine va_get (D := D) (ci := 2) (v := .ref (a 19)) (C := RX2) (T := TX2) (N := 2) hx hb hts hin_X2 hown hK hP 18 rfl rfl 1 (by decide) hf15 (fun _ h9 => h9) rfl dX2_markShort_9 ?_
  refine lv_iload_n hx hb dX2_markShort_12 rfl (lv_at hl 1 rfl) ?_
  refine lv_bipush (v := 8) hx hb dX2_markShort_13 (by decide) ?_
  refine lv_imul hx hb dX2_markShort_15 ?_
  refine lv_bipush (v := 7) hx hb dX2_markShort_16 (by decide) ?_
  refine lv_iadd hx hb dX2_markShort_18 ?_
  refine lv_iconst (v := 1) hx hb dX2_markShort_19 (by decide) ?_
  refine ra_st (f := (r 19)) C0 hP hD hS 19 rfl (8 * i + 7) (i_87 i) (by omega) (by decide) dX2_markShort_20 (fun H locs hP hD hS => ?_)
  have hset : ∀ (g_ : Nat → Int32), (wX cI a v r).set 19 (a 19, .inl (cI, 1200, .inl g_)) = (wX cI a v (rU r 19 g_)) := fun _ => rfl
  rw [hset] at hP hD
  exact k_vret C0 () hP hD hS trivial dX2_markShort_21

set_option maxHeartbeats 1500000 in
set_option maxRecDepth 100000 in
theorem c_X2_shift (l : Launch) (D : va_G) (cI : ClassId) (a : Nat → Nat) (v : Nat → Int32) (r : Nat → Nat → Int32) (i0 j0 c9 : Nat) (x y : Int32) (hc9 : v 4 = nI c9) (hc91 : c9 ≤ 150) (hi : i0 ≤ j0) (hj : j0 ≤ c9) : KDv l D cI yX2_shift wsX2_shift ({ frames := 1, cells := 0, slots := 0, locals := 21 }) [.ref (a 18), .int (nI i0), .int (nI j0), .int x, .int y] (wX cI a v r) (wX cI a v (rU r 19 (shF (r 19) x y i0 j0))) := by
  refine KV.of (cc := cX2_shift) (nL := 6) (ret := none) (by decide) rfl (Nat.le_of_ble_eq_true rfl) ?_
  intro pg9 en9 s m args below meth cd9 A ls C0 hP hD hS hl
  have hx := C0.1.1
  have hb := C0.1.2.1
  have hml := C0.1.2.2.1
  have hown : s.vm.findClass RX2 = some m.cls := C0.1.2.2.2.1
  have hts : ∀ w ∈ wsX2_shift, w.before args s = true := C0.1.2.2.2.2
  have hK := C0.2.2.2.1
  have hin_X2 : ∀ w ∈ wsX20, w ∈ wsX2_shift := fun w h => List.mem_cons_of_mem _ (List.mem_append_right _ h)
  have hf9 : (Cond.fieldLink RX2 9 "FormulaLists$Items" "count" "I").before args s = true := hts _ (by decide +kernel)
  have hf15 : (Cond.fieldLink RX2 15 "FormulaLists$Items" "parts" "[I").before args s = true := hts _ (by decide +kernel)
  have hl : lv_has ls 6 [(0, .ref (a 18)), (1, .int (nI i0)), (2, .int (nI j0)), (3, .int x), (4, .int y)] := hl
  have hP : va_P D vwCl (wX cI a v r) s.heap := hP
  refine lv_iload_n hx hb dX2_shift_0 rfl (lv_at hl 1 rfl) ?_
  refine lv_iconst (v := 0) hx hb dX2_shift_1 (by decide) ?_
  refine va_mmax hx hb (hml.trans hl.1.symm) hown (hts (.methodLink RX2 23 Lib.Math.max.name) (by decide +kernel)) (hts (.static Lib.Math.max.name) (by decide +kernel)) (hts (.initialized "java/lang/Math") (by decide +kernel)) (hts (.code Lib.Math.max.name Lib.Math.max.code 2 (some .int)) (by decide +kernel)) (Nat.le_of_ble_eq_true rfl) (Nat.le_of_ble_eq_true rfl) (Nat.zero_le _) (Nat.zero_le _) dX2_shift_2 ?_
  refine lv_eqi (mm_max (by omega)) ?_
  refine lv_istore (lv' := [(5, .int (nI i0)), (0, .ref (a 18)), (1, .int (nI i0)), (2, .int (nI j0)), (3, .int x), (4, .int y)]) hx hb dX2_shift_5 hl (by decide) rfl (fun ls hl => ?_)
  refine lpW (nL := 6) (A := A) (D := D) (fun z : Nat => (wX cI a v (rU r 19 (shF (r 19) x y i0 z)))) (fun z : Nat => [(5, .int (nI z)), (0, .ref (a 18)), (1, .int (nI i0)), (2, .int (nI j0)), (3, .int x), (4, .int y)]) (fun z : Nat => i0 ≤ z ∧ z ≤ j0) (fun z : Nat => j0 - z) i0 (by rw [sh_0]; exact hP) (by rw [sh_0]; exact hD) hS (lv_sub hl [0, 1, 2, 3, 4, 5] rfl) ⟨Nat.le_refl _, hi⟩ ?_
  intro k H locs ls hP hD hS hl hf ih
  have hP : va_P D vwCl (wX cI a v (rU r 19 (shF (r 19) x y i0 k))) H := hP
  have hD : va_D A (wX cI a v (rU r 19 (shF (r 19) x y i0 k))) := hD
  have hl : lv_has ls 6 [(5, .int (nI k)), (0, .ref (a 18)), (1, .int (nI i0)), (2, .int (nI j0)), (3, .int x), (4, .int y)] := hl
  have hf : i0 ≤ k ∧ k ≤ j0 := hf
  obtain ⟨hka, hk2⟩ := hf
  refine lv_iload hx hb dX2_shift_7 (lv_at hl 0 rfl) ?_
  refine lv_iload_n hx hb dX2_shift_9 rfl (lv_at hl 3 rfl) ?_
  refine lv_aload_n hx hb dX2_shift_10 rfl (lv_at hl 1 rfl) ?_
  refine va_get (D := D) (ci := 2) (v := .int (v 4)) (C := RX2) (T := TX2) (N := 2) hx hb hts hin_X2 hown hK hP 18 rfl rfl 0 (by decide) hf9 (fun _ h9 => h9) rfl dX2_shift_11 ?_
  refine lv_eqi hc9 ?_
  refine va_mmin hx hb (hml.trans hl.1.symm) hown (hts (.methodLink RX2 29 Lib.Math.min.name) (by decide +kernel)) (hts (.static Lib.Math.min.name) (by decide +kernel)) (hts (.initialized "java/lang/Math") (by decide +kernel)) (hts (.code Lib.Math.min.name Lib.Math.min.code 2 (some .int)) (by decide +kernel)) (Nat.le_of_ble_eq_true rfl) (Nat.le_of_ble_eq_true rfl) (Nat.zero_le _) (Nat.zero_le _) dX2_shift_14 ?_
  refine lv_eqi (mm_min hj (by omega)) ?_
  refine lv_icmp_ge (tgt := 59) hx hb dX2_shift_17 (by decide) (fun c_17 => ?_) (fun c_17 => ?_)
  · skip
    have hkN : k = j0 := by have := (nI_leI (by omega) (by omega)).mp c_17; omega
    have q19 : (shF (r 19) x y i0 k) = (shF (r 19) x y i0 j0) := (by rw [hkN])
    have hw : (wX cI a v (rU r 19 (shF (r 19) x y i0 k))) = (wX cI a v (rU r 19 (shF (r 19) x y i0 j0))) := by rw [q19]
    have hP : va_P D vwCl (wX cI a v (rU r 19 (shF (r 19) x y i0 j0))) H := hw ▸ hP
    have hD : va_D A (wX cI a v (rU r 19 (shF (r 19) x y i0 j0))) := hw ▸ hD
    exact k_vret C0 () hP hD hS trivial dX2_shift_59
  · skip
    have hlt : k < j0 := Nat.not_le.mp (fun q => c_17 (nI_le q (by omega)))
    refine lv_aload_n hx hb dX2_shift_20 rfl (lv_at hl 1 rfl) ?_
    refine va_get (D := D) (ci := 2) (v := .ref (a 19)) (C := RX2) (T := TX2) (N := 2) hx hb hts hin_X2 hown hK hP 18 rfl rfl 1 (by decide) hf15 (fun _ h9 => h9) rfl dX2_shift_21 ?_
    refine lv_iload hx hb dX2_shift_24 (lv_at hl 0 rfl) ?_
    refine lv_bipush (v := 8) hx hb dX2_shift_26 (by decide) ?_
    refine lv_imul hx hb dX2_shift_28 ?_
    refine lv_iconst (v := 1) hx hb dX2_shift_29 (by decide) ?_
    refine lv_iadd hx hb dX2_shift_30 ?_
    refine lv_dup2_11 hx hb dX2_shift_31 rfl rfl ?_
    refine ra_ld (f := (shF (r 19) x y i0 k)) C0 hP 19 rfl (8 * k + 1) (i_81 k) (by omega) (by decide) dX2_shift_32 ?_
    refine lv_iload_n hx hb dX2_shift_33 rfl (lv_at hl 4 rfl) ?_
    refine lv_iadd hx hb dX2_shift_34 ?_
    refine ra_st (f := (shF (r 19) x y i0 k)) C0 hP hD hS 19 rfl (8 * k + 1) (i_81 k) (by omega) (by decide) dX2_shift_35 (fun H locs hP hD hS => ?_)
    have hset : ∀ (f19_ : Nat → Int32) (g_ : Nat → Int32), (wX cI a v (rU r 19 f19_)).set 19 (a 19, .inl (cI, 1200, .inl g_)) = (wX cI a v (rU r 19 g_)) := fun _ _ => rfl
    rw [hset] at hP hD
    refine lv_aload_n hx hb dX2_shift_36 rfl (lv_at hl 1 rfl) ?_
    refine va_get (D := D) (ci := 2) (v := .ref (a 19)) (C := RX2) (T := TX2) (N := 2) hx hb hts hin_X2 hown hK hP 18 rfl rfl 1 (by decide) hf15 (fun _ h9 => h9) rfl dX2_shift_37 ?_
    refine lv_iload hx hb dX2_shift_40 (lv_at hl 0 rfl) ?_
    refine lv_bipush (v := 8) hx hb dX2_shift_42 (by decide) ?_
    refine lv_imul hx hb dX2_shift_44 ?_
    refine lv_iconst (v := 2) hx hb dX2_shift_45 (by decide) ?_
    refine lv_iadd hx hb dX2_shift_46 ?_
    refine lv_dup2_11 hx hb dX2_shift_47 rfl rfl ?_
    refine ra_ld (f := (upd (shF (r 19) x y i0 k) (8 * k + 1) (((shF (r 19) x y i0 k) (8 * k + 1)) + x))) C0 hP 19 rfl (8 * k + 2) (i_82 k) (by omega) (by decide) dX2_shift_48 ?_
    refine lv_iload hx hb dX2_shift_49 (lv_at hl 5 rfl) ?_
    refine lv_iadd hx hb dX2_shift_51 ?_
    refine ra_st (f := (upd (shF (r 19) x y i0 k) (8 * k + 1) (((shF (r 19) x y i0 k) (8 * k + 1)) + x))) C0 hP hD hS 19 rfl (8 * k + 2) (i_82 k) (by omega) (by decide) dX2_shift_52 (fun H locs hP hD hS => ?_)
    have hset : ∀ (f19_ : Nat → Int32) (g_ : Nat → Int32), (wX cI a v (rU r 19 f19_)).set 19 (a 19, .inl (cI, 1200, .inl g_)) = (wX cI a v (rU r 19 g_)) := fun _ _ => rfl
    rw [hset] at hP hD
    refine lv_iinc (v := (nI (k + 1))) (lv' := [(5, .int (nI (k + 1))), (0, .ref (a 18)), (1, .int (nI i0)), (2, .int (nI j0)), (3, .int x), (4, .int y)]) hx hb dX2_shift_53 hl (k := 0) rfl (k_inc k) (by decide) rfl (fun ls hl => ?_)
    refine lv_goto (tgt := 7) hx hb dX2_shift_56 (by decide) ?_
    have hw : (wX cI a v (rU r 19 (upd (upd (shF (r 19) x y i0 k) (8 * k + 1) (((shF (r 19) x y i0 k) (8 * k + 1)) + x)) (8 * k + 2) (((upd (shF (r 19) x y i0 k) (8 * k + 1) (((shF (r 19) x y i0 k) (8 * k + 1)) + x)) (8 * k + 2)) + y)))) = (wX cI a v (rU r 19 (shF (r 19) x y i0 (k + 1)))) := by rw [sh_s _ _ _ hka]
    have hP : va_P D vwCl (wX cI a v (rU r 19 (shF (r 19) x y i0 (k + 1)))) _ := hw ▸ hP
    have hD : va_D A (wX cI a v (rU r 19 (shF (r 19) x y i0 (k + 1)))) := hw ▸ hD
    exact ih (k + 1) _ _ _ hP hD hS (lv_sub hl [0, 1, 2, 3, 4, 5] rfl) ⟨by omega, hlt⟩ (show j0 - (k + 1) < j0 - k by omega)

set_option maxHeartbeats 1500000 in
set_option maxRecDepth 100000 in
theorem c_X1_ofAtom (l : Launch) (D : va_G) (cI : ClassId) (n : Nat) : KD l D cI yX1_ofAtom wsX1_ofAtom ({ frames := 0, cells := 0, slots := 0, locals := 0 }) [.int (nI n)] [] [] (nI (30 + n)) := by
  refine KI.of (cc := cX1_ofAtom) (nL := 1) (ret := (some .int)) (by decide) rfl (Nat.le_of_ble_eq_true rfl) ?_
  intro pg9 en9 s m args below meth cd9 A ls C0 hP hD hS hl
  have hx := C0.1.1
  have hb := C0.1.2.1
  have hml := C0.1.2.2.1
  have hown : s.vm.findClass RX1 = some m.cls := C0.1.2.2.2.1
  have hts : ∀ w ∈ wsX1_ofAtom, w.before args s = true := C0.1.2.2.2.2
  have hK := C0.2.2.2.1
  have hl : lv_has ls 1 [(0, .int (nI n))] := hl
  have hP : va_P D vwCl [] s.heap := hP
  refine lv_bipush (v := 30) hx hb dX1_ofAtom_0 (by decide) ?_
  refine lv_iload_n hx hb dX1_ofAtom_2 rfl (lv_at hl 0 rfl) ?_
  refine lv_iadd hx hb dX1_ofAtom_3 ?_
  exact k_iret C0 () hP hD hS (nI_add 30 n) dX1_ofAtom_4

set_option maxHeartbeats 1500000 in
set_option maxRecDepth 100000 in
theorem c_X1_begin (l : Launch) (D : va_G) (cI : ClassId) (a : Nat → Nat) (v : Nat → Int32) (r : Nat → Nat → Int32) (b : Nat) (x : Int32) (hb0 : b < 150) : KDv l D cI yX1_begin wsX1_begin ({ frames := 0, cells := 0, slots := 0, locals := 0 }) [.ref (a 12), .int (nI b), .int x] (wX cI a v r) (wX cI a v (rU (rU (rU (rU (rU r 13 (upd (r 13) b 0)) 14 (upd (r 14) b 0)) 15 (upd (r 15) b 0)) 16 (upd (r 16) b x)) 17 (upd (r 17) b x))) := by
  refine KV.of (cc := cX1_begin) (nL := 3) (ret := none) (by decide) rfl (Nat.le_of_ble_eq_true rfl) ?_
  intro pg9 en9 s m args below meth cd9 A ls C0 hP hD hS hl
  have hx := C0.1.1
  have hb := C0.1.2.1
  have hml := C0.1.2.2.1
  have hown : s.vm.findClass RX1 = some m.cls := C0.1.2.2.2.1
  have hts : ∀ w ∈ wsX1_begin, w.before args s = true := C0.1.2.2.2.2
  have hK := C0.2.2.2.1
  have hin_X1 : ∀ w ∈ wsX10, w ∈ wsX1_begin := fun w h => List.mem_cons_of_mem _ (List.mem_append_right _ h)
  have hf9 : (Cond.fieldLink RX1 9 "FormulaLists$Boxes" "width" "[I").before args s = true := hts _ (by decide +kernel)
  have hf15 : (Cond.fieldLink RX1 15 "FormulaLists$Boxes" "height" "[I").before args s = true := hts _ (by decide +kernel)
  have hf18 : (Cond.fieldLink RX1 18 "FormulaLists$Boxes" "depth" "[I").before args s = true := hts _ (by decide +kernel)
  have hf21 : (Cond.fieldLink RX1 21 "FormulaLists$Boxes" "start" "[I").before args s = true := hts _ (by decide +kernel)
  have hf24 : (Cond.fieldLink RX1 24 "FormulaLists$Boxes" "end" "[I").before args s = true := hts _ (by decide +kernel)
  have hl : lv_has ls 3 [(0, .ref (a 12)), (1, .int (nI b)), (2, .int x)] := hl
  have hP : va_P D vwCl (wX cI a v r) s.heap := hP
  refine lv_aload_n hx hb dX1_begin_0 rfl (lv_at hl 0 rfl) ?_
  refine va_get (D := D) (ci := 1) (v := .ref (a 13)) (C := RX1) (T := TX1) (N := 5) hx hb hts hin_X1 hown hK hP 12 rfl rfl 0 (by decide) hf9 (fun _ h9 => h9) rfl dX1_begin_1 ?_
  refine lv_iload_n hx hb dX1_begin_4 rfl (lv_at hl 1 rfl) ?_
  refine lv_iconst (v := 0) hx hb dX1_begin_5 (by decide) ?_
  refine ra_st (f := (r 13)) C0 hP hD hS 13 rfl b rfl (by omega) (by decide) dX1_begin_6 (fun H locs hP hD hS => ?_)
  have hset : ∀ (g_ : Nat → Int32), (wX cI a v r).set 13 (a 13, .inl (cI, 150, .inl g_)) = (wX cI a v (rU r 13 g_)) := fun _ => rfl
  rw [hset] at hP hD
  refine lv_aload_n hx hb dX1_begin_7 rfl (lv_at hl 0 rfl) ?_
  refine va_get (D := D) (ci := 1) (v := .ref (a 14)) (C := RX1) (T := TX1) (N := 5) hx hb hts hin_X1 hown hK hP 12 rfl rfl 1 (by decide) hf15 (fun _ h9 => h9) rfl dX1_begin_8 ?_
  refine lv_iload_n hx hb dX1_begin_11 rfl (lv_at hl 1 rfl) ?_
  refine lv_iconst (v := 0) hx hb dX1_begin_12 (by decide) ?_
  refine ra_st (f := (r 14)) C0 hP hD hS 14 rfl b rfl (by omega) (by decide) dX1_begin_13 (fun H locs hP hD hS => ?_)
  have hset : ∀ (f13_ : Nat → Int32) (g_ : Nat → Int32), (wX cI a v (rU r 13 f13_)).set 14 (a 14, .inl (cI, 150, .inl g_)) = (wX cI a v (rU (rU r 13 f13_) 14 g_)) := fun _ _ => rfl
  rw [hset] at hP hD
  refine lv_aload_n hx hb dX1_begin_14 rfl (lv_at hl 0 rfl) ?_
  refine va_get (D := D) (ci := 1) (v := .ref (a 15)) (C := RX1) (T := TX1) (N := 5) hx hb hts hin_X1 hown hK hP 12 rfl rfl 2 (by decide) hf18 (fun _ h9 => h9) rfl dX1_begin_15 ?_
  refine lv_iload_n hx hb dX1_begin_18 rfl (lv_at hl 1 rfl) ?_
  refine lv_iconst (v := 0) hx hb dX1_begin_19 (by decide) ?_
  refine ra_st (f := (r 15)) C0 hP hD hS 15 rfl b rfl (by omega) (by decide) dX1_begin_20 (fun H locs hP hD hS => ?_)
  have hset : ∀ (f13_ f14_ : Nat → Int32) (g_ : Nat → Int32), (wX cI a v (rU (rU r 13 f13_) 14 f14_)).set 15 (a 15, .inl (cI, 150, .inl g_)) = (wX cI a v (rU (rU (rU r 13 f13_) 14 f14_) 15 g_)) := fun _ _ _ => rfl
  rw [hset] at hP hD
  refine lv_aload_n hx hb dX1_begin_21 rfl (lv_at hl 0 rfl) ?_
  refine va_get (D := D) (ci := 1) (v := .ref (a 16)) (C := RX1) (T := TX1) (N := 5) hx hb hts hin_X1 hown hK hP 12 rfl rfl 3 (by decide) hf21 (fun _ h9 => h9) rfl dX1_begin_22 ?_
  refine lv_iload_n hx hb dX1_begin_25 rfl (lv_at hl 1 rfl) ?_
  refine lv_iload_n hx hb dX1_begin_26 rfl (lv_at hl 2 rfl) ?_
  refine ra_st (f := (r 16)) C0 hP hD hS 16 rfl b rfl (by omega) (by decide) dX1_begin_27 (fun H locs hP hD hS => ?_)
  have hset : ∀ (f13_ f14_ f15_ : Nat → Int32) (g_ : Nat → Int32), (wX cI a v (rU (rU (rU r 13 f13_) 14 f14_) 15 f15_)).set 16 (a 16, .inl (cI, 150, .inl g_)) = (wX cI a v (rU (rU (rU (rU r 13 f13_) 14 f14_) 15 f15_) 16 g_)) := fun _ _ _ _ => rfl
  rw [hset] at hP hD
  refine lv_aload_n hx hb dX1_begin_28 rfl (lv_at hl 0 rfl) ?_
  refine va_get (D := D) (ci := 1) (v := .ref (a 17)) (C := RX1) (T := TX1) (N := 5) hx hb hts hin_X1 hown hK hP 12 rfl rfl 4 (by decide) hf24 (fun _ h9 => h9) rfl dX1_begin_29 ?_
  refine lv_iload_n hx hb dX1_begin_32 rfl (lv_at hl 1 rfl) ?_
  refine lv_iload_n hx hb dX1_begin_33 rfl (lv_at hl 2 rfl) ?_
  refine ra_st (f := (r 17)) C0 hP hD hS 17 rfl b rfl (by omega) (by decide) dX1_begin_34 (fun H locs hP hD hS => ?_)
  have hset : ∀ (f13_ f14_ f15_ f16_ : Nat → Int32) (g_ : Nat → Int32), (wX cI a v (rU (rU (rU (rU r 13 f13_) 14 f14_) 15 f15_) 16 f16_)).set 17 (a 17, .inl (cI, 150, .inl g_)) = (wX cI a v (rU (rU (rU (rU (rU r 13 f13_) 14 f14_) 15 f15_) 16 f16_) 17 g_)) := fun _ _ _ _ _ => rfl
  rw [hset] at hP hD
  exact k_vret C0 () hP hD hS trivial dX1_begin_35

set_option maxHeartbeats 1500000 in
set_option maxRecDepth 100000 in
theorem c_X1_widthOf (l : Launch) (D : va_G) (cI : ClassId) (a : Nat → Nat) (v : Nat → Int32) (r : Nat → Nat → Int32) (x : Int32) (hx9 : x = -1 ∨ ∃ b, b < 150 ∧ x = nI b) : KD l D cI yX1_widthOf wsX1_widthOf ({ frames := 0, cells := 0, slots := 0, locals := 0 }) [.ref (a 12), .int x] (wX cI a v r) (wX cI a v r) ((if x = -1 then 0 else r 13 x.toNatClampNeg)) := by
  refine KI.of (cc := cX1_widthOf) (nL := 2) (ret := (some .int)) (by decide) rfl (Nat.le_of_ble_eq_true rfl) ?_
  intro pg9 en9 s m args below meth cd9 A ls C0 hP hD hS hl
  have hx := C0.1.1
  have hb := C0.1.2.1
  have hml := C0.1.2.2.1
  have hown : s.vm.findClass RX1 = some m.cls := C0.1.2.2.2.1
  have hts : ∀ w ∈ wsX1_widthOf, w.before args s = true := C0.1.2.2.2.2
  have hK := C0.2.2.2.1
  have hin_X1 : ∀ w ∈ wsX10, w ∈ wsX1_widthOf := fun w h => List.mem_cons_of_mem _ (List.mem_append_right _ h)
  have hf9 : (Cond.fieldLink RX1 9 "FormulaLists$Boxes" "width" "[I").before args s = true := hts _ (by decide +kernel)
  have hl : lv_has ls 2 [(0, .ref (a 12)), (1, .int x)] := hl
  have hP : va_P D vwCl (wX cI a v r) s.heap := hP
  refine lv_iload_n hx hb dX1_widthOf_0 rfl (lv_at hl 1 rfl) ?_
  refine lv_iconst (v := (-1)) hx hb dX1_widthOf_1 (by decide) ?_
  refine lv_icmp_ne (tgt := 9) hx hb dX1_widthOf_2 (by decide) (fun c_2 => ?_) (fun c_2 => ?_)
  · skip
    obtain ⟨b, hb1, ebx⟩ := hx9.resolve_left c_2
    have hxc : x.toNatClampNeg = b := by rw [ebx, nI_clamp (by omega)]
    refine lv_aload_n hx hb dX1_widthOf_9 rfl (lv_at hl 0 rfl) ?_
    refine va_get (D := D) (ci := 1) (v := .ref (a 13)) (C := RX1) (T := TX1) (N := 5) hx hb hts hin_X1 hown hK hP 12 rfl rfl 0 (by decide) hf9 (fun _ h9 => h9) rfl dX1_widthOf_10 ?_
    refine lv_iload_n hx hb dX1_widthOf_13 rfl (lv_at hl 1 rfl) ?_
    refine ra_ld (f := (r 13)) C0 hP 13 rfl x.toNatClampNeg (by rw [hxc]; exact ebx) (by rw [hxc]; exact hb1) (by decide) dX1_widthOf_14 ?_
    exact k_iret C0 () hP hD hS (by rw [if_neg c_2]) dX1_widthOf_15
  · skip
    refine lv_iconst (v := 0) hx hb dX1_widthOf_5 (by decide) ?_
    refine lv_goto (tgt := 15) hx hb dX1_widthOf_6 (by decide) ?_
    exact k_iret C0 () hP hD hS (by rw [if_pos c_2]) dX1_widthOf_15

set_option maxHeartbeats 1500000 in
set_option maxRecDepth 100000 in
theorem c_X1_heightOf (l : Launch) (D : va_G) (cI : ClassId) (a : Nat → Nat) (v : Nat → Int32) (r : Nat → Nat → Int32) (x : Int32) (hx9 : x = -1 ∨ ∃ b, b < 150 ∧ x = nI b) : KD l D cI yX1_heightOf wsX1_heightOf ({ frames := 0, cells := 0, slots := 0, locals := 0 }) [.ref (a 12), .int x] (wX cI a v r) (wX cI a v r) ((if x = -1 then 0 else r 14 x.toNatClampNeg)) := by
  refine KI.of (cc := cX1_heightOf) (nL := 2) (ret := (some .int)) (by decide) rfl (Nat.le_of_ble_eq_true rfl) ?_
  intro pg9 en9 s m args below meth cd9 A ls C0 hP hD hS hl
  have hx := C0.1.1
  have hb := C0.1.2.1
  have hml := C0.1.2.2.1
  have hown : s.vm.findClass RX1 = some m.cls := C0.1.2.2.2.1
  have hts : ∀ w ∈ wsX1_heightOf, w.before args s = true := C0.1.2.2.2.2
  have hK := C0.2.2.2.1
  have hin_X1 : ∀ w ∈ wsX10, w ∈ wsX1_heightOf := fun w h => List.mem_cons_of_mem _ (List.mem_append_right _ h)
  have hf15 : (Cond.fieldLink RX1 15 "FormulaLists$Boxes" "height" "[I").before args s = true := hts _ (by decide +kernel)
  have hl : lv_has ls 2 [(0, .ref (a 12)), (1, .int x)] := hl
  have hP : va_P D vwCl (wX cI a v r) s.heap := hP
  refine lv_iload_n hx hb dX1_heightOf_0 rfl (lv_at hl 1 rfl) ?_
  refine lv_iconst (v := (-1)) hx hb dX1_heightOf_1 (by decide) ?_
  refine lv_icmp_ne (tgt := 9) hx hb dX1_heightOf_2 (by decide) (fun c_2 => ?_) (fun c_2 => ?_)
  · skip
    obtain ⟨b, hb1, ebx⟩ := hx9.resolve_left c_2
    have hxc : x.toNatClampNeg = b := by rw [ebx, nI_clamp (by omega)]
    refine lv_aload_n hx hb dX1_heightOf_9 rfl (lv_at hl 0 rfl) ?_
    refine va_get (D := D) (ci := 1) (v := .ref (a 14)) (C := RX1) (T := TX1) (N := 5) hx hb hts hin_X1 hown hK hP 12 rfl rfl 1 (by decide) hf15 (fun _ h9 => h9) rfl dX1_heightOf_10 ?_
    refine lv_iload_n hx hb dX1_heightOf_13 rfl (lv_at hl 1 rfl) ?_
    refine ra_ld (f := (r 14)) C0 hP 14 rfl x.toNatClampNeg (by rw [hxc]; exact ebx) (by rw [hxc]; exact hb1) (by decide) dX1_heightOf_14 ?_
    exact k_iret C0 () hP hD hS (by rw [if_neg c_2]) dX1_heightOf_15
  · skip
    refine lv_iconst (v := 0) hx hb dX1_heightOf_5 (by decide) ?_
    refine lv_goto (tgt := 15) hx hb dX1_heightOf_6 (by decide) ?_
    exact k_iret C0 () hP hD hS (by rw [if_pos c_2]) dX1_heightOf_15

set_option maxHeartbeats 1500000 in
set_option maxRecDepth 100000 in
theorem c_X1_depthOf (l : Launch) (D : va_G) (cI : ClassId) (a : Nat → Nat) (v : Nat → Int32) (r : Nat → Nat → Int32) (x : Int32) (hx9 : x = -1 ∨ ∃ b, b < 150 ∧ x = nI b) : KD l D cI yX1_depthOf wsX1_depthOf ({ frames := 0, cells := 0, slots := 0, locals := 0 }) [.ref (a 12), .int x] (wX cI a v r) (wX cI a v r) ((if x = -1 then 0 else r 15 x.toNatClampNeg)) := by
  refine KI.of (cc := cX1_depthOf) (nL := 2) (ret := (some .int)) (by decide) rfl (Nat.le_of_ble_eq_true rfl) ?_
  intro pg9 en9 s m args below meth cd9 A ls C0 hP hD hS hl
  have hx := C0.1.1
  have hb := C0.1.2.1
  have hml := C0.1.2.2.1
  have hown : s.vm.findClass RX1 = some m.cls := C0.1.2.2.2.1
  have hts : ∀ w ∈ wsX1_depthOf, w.before args s = true := C0.1.2.2.2.2
  have hK := C0.2.2.2.1
  have hin_X1 : ∀ w ∈ wsX10, w ∈ wsX1_depthOf := fun w h => List.mem_cons_of_mem _ (List.mem_append_right _ h)
  have hf18 : (Cond.fieldLink RX1 18 "FormulaLists$Boxes" "depth" "[I").before args s = true := hts _ (by decide +kernel)
  have hl : lv_has ls 2 [(0, .ref (a 12)), (1, .int x)] := hl
  have hP : va_P D vwCl (wX cI a v r) s.heap := hP
  refine lv_iload_n hx hb dX1_depthOf_0 rfl (lv_at hl 1 rfl) ?_
  refine lv_iconst (v := (-1)) hx hb dX1_depthOf_1 (by decide) ?_
  refine lv_icmp_ne (tgt := 9) hx hb dX1_depthOf_2 (by decide) (fun c_2 => ?_) (fun c_2 => ?_)
  · skip
    obtain ⟨b, hb1, ebx⟩ := hx9.resolve_left c_2
    have hxc : x.toNatClampNeg = b := by rw [ebx, nI_clamp (by omega)]
    refine lv_aload_n hx hb dX1_depthOf_9 rfl (lv_at hl 0 rfl) ?_
    refine va_get (D := D) (ci := 1) (v := .ref (a 15)) (C := RX1) (T := TX1) (N := 5) hx hb hts hin_X1 hown hK hP 12 rfl rfl 2 (by decide) hf18 (fun _ h9 => h9) rfl dX1_depthOf_10 ?_
    refine lv_iload_n hx hb dX1_depthOf_13 rfl (lv_at hl 1 rfl) ?_
    refine ra_ld (f := (r 15)) C0 hP 15 rfl x.toNatClampNeg (by rw [hxc]; exact ebx) (by rw [hxc]; exact hb1) (by decide) dX1_depthOf_14 ?_
    exact k_iret C0 () hP hD hS (by rw [if_neg c_2]) dX1_depthOf_15
  · skip
    refine lv_iconst (v := 0) hx hb dX1_depthOf_5 (by decide) ?_
    refine lv_goto (tgt := 15) hx hb dX1_depthOf_6 (by decide) ?_
    exact k_iret C0 () hP hD hS (by rw [if_pos c_2]) dX1_depthOf_15
