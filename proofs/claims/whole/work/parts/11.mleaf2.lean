set_option maxHeartbeats 1500000 in
set_option maxRecDepth 100000 in
theorem c_X5_thrown (l : Launch) (D : va_G) (cI : ClassId) (a : Nat → Nat) (v : Nat → Int32) (r : Nat → Nat → Int32) : KD l D cI yX5_thrown wsX5_thrown ({ frames := 0, cells := 0, slots := 0, locals := 0 }) [.ref (a 0)] (wM cI a v r) (wM cI a v r) (v 0) := by
  refine KI.of (cc := cX5_thrown) (nL := 1) (ret := (some .int)) (by decide) rfl (Nat.le_of_ble_eq_true rfl) ?_
  intro pg9 en9 s m args below meth cd9 A ls C0 hP hD hS hl
  have hx := C0.1.1
  have hb := C0.1.2.1
  have hml := C0.1.2.2.1
  have hown : s.vm.findClass RX5 = some m.cls := C0.1.2.2.2.1
  have hts : ∀ w ∈ wsX5_thrown, w.before args s = true := C0.1.2.2.2.2
  have hK := C0.2.2.2.1
  have hin_X5 : ∀ w ∈ wsX50, w ∈ wsX5_thrown := fun w h => List.mem_cons_of_mem _ (List.mem_append_right _ h)
  have hf50 : (Cond.fieldLink RX5 50 "FormulaListsModel" "thrown" "I").before args s = true := hts _ (by decide +kernel)
  have hl : lv_has ls 1 [(0, .ref (a 0))] := hl
  have hP : va_P D vwCl (wM cI a v r) s.heap := hP
  refine lv_aload_n hx hb dX5_thrown_0 rfl (lv_at hl 0 rfl) ?_
  refine va_get (D := D) (ci := 5) (v := .int (v 0)) (C := RX5) (T := TX5) (N := 25) hx hb hts hin_X5 hown hK hP 0 rfl rfl 0 (by decide) hf50 (fun _ h9 => h9) rfl dX5_thrown_1 ?_
  exact k_iret C0 () hP hD hS rfl dX5_thrown_4

set_option maxHeartbeats 1500000 in
theorem pf_X5_isList_0 (a : Nat → Nat) (v : Nat → Int32) (r : Nat → Nat → Int32) (x : Int32)  (x_1 : Int32) (ex_1 : x_1 = (if x < 0 then (0 : Int32) else (if (v 1) ≤ x then (0 : Int32) else (1 : Int32)))) : x_1 = bI (0 ≤ x ∧ x < v 1) := by
  subst_vars <;> simp only [bI] <;> (repeat' split) <;> first | (with_reducible rfl) | (simp_all; done) | (simp only [i_lt, i_le, i_eq, tI0, tI1, tI2, tI3, tI4, tI5, tI6, tI7, tI8, tI9, tI10, tI11, tI12, tI13, tI14, tI15, tI16, tI30, tI120, tI255, tI256, tI1000, tIm1] at * <;> omega)
set_option maxHeartbeats 1500000 in
theorem pf_X5_isList_1 (a : Nat → Nat) (v : Nat → Int32) (r : Nat → Nat → Int32) (x : Int32)  (x_1 : Int32) (ex_1 : x_1 = (if x < 0 then (0 : Int32) else (if (v 1) ≤ x then (0 : Int32) else (1 : Int32)))) : narrow .boolean (.int x_1) = .int x_1 := by
  subst_vars; (repeat' split) <;> rfl
set_option maxHeartbeats 1500000 in
set_option maxRecDepth 100000 in
theorem c_X5_isList (l : Launch) (D : va_G) (cI : ClassId) (a : Nat → Nat) (v : Nat → Int32) (r : Nat → Nat → Int32) (x : Int32) : KD l D cI yX5_isList wsX5_isList ({ frames := 0, cells := 0, slots := 0, locals := 0 }) [.ref (a 0), .int x] (wM cI a v r) (wM cI a v r) (bI (0 ≤ x ∧ x < v 1)) := by
  refine KI.of (cc := cX5_isList) (nL := 2) (ret := (some .boolean)) (by decide) rfl (Nat.le_of_ble_eq_true rfl) ?_
  intro pg9 en9 s m args below meth cd9 A ls C0 hP hD hS hl
  have hx := C0.1.1
  have hb := C0.1.2.1
  have hml := C0.1.2.2.1
  have hown : s.vm.findClass RX5 = some m.cls := C0.1.2.2.2.1
  have hts : ∀ w ∈ wsX5_isList, w.before args s = true := C0.1.2.2.2.2
  have hK := C0.2.2.2.1
  have hin_X5 : ∀ w ∈ wsX50, w ∈ wsX5_isList := fun w h => List.mem_cons_of_mem _ (List.mem_append_right _ h)
  have hf7 : (Cond.fieldLink RX5 7 "FormulaListsModel" "lists" "I").before args s = true := hts _ (by decide +kernel)
  have hl : lv_has ls 2 [(0, .ref (a 0)), (1, .int x)] := hl
  have hP : va_P D vwCl (wM cI a v r) s.heap := hP
  refine lv_iload_n hx hb dX5_isList_0 rfl (lv_at hl 1 rfl) ?_
  obtain ⟨x_1, ex_1⟩ : ∃ zz_ : Int32, zz_ = (if x < 0 then (0 : Int32) else (if (v 1) ≤ x then (0 : Int32) else (1 : Int32))) := ⟨_, rfl⟩
  refine jW (D := D) hD hl 17 (wM cI a v r) [(0, .ref (a 0)), (1, .int x)] [.int x_1] (fun hJ => ?_) (fun H locs ls hP hD hS hl => ?_)
  · skip
    refine lv_if_lt (tgt := 16) hx hb dX5_isList_1 (by decide) (fun c_1 => ?_) (fun c_1 => ?_)
    · skip
      refine lv_iconst (v := 0) hx hb dX5_isList_16 (by decide) ?_
      have gx_1 : x_1 = 0 := by rw [ex_1]; simp only [if_pos c_1]
      simp only [gx_1] at hJ
      exact hJ _ _ _ hP hD hS (lv_sub hl [0, 1] rfl)
    · skip
      refine lv_iload_n hx hb dX5_isList_4 rfl (lv_at hl 1 rfl) ?_
      refine lv_aload_n hx hb dX5_isList_5 rfl (lv_at hl 0 rfl) ?_
      refine va_get (D := D) (ci := 5) (v := .int (v 1)) (C := RX5) (T := TX5) (N := 25) hx hb hts hin_X5 hown hK hP 0 rfl rfl 1 (by decide) hf7 (fun _ h9 => h9) rfl dX5_isList_6 ?_
      refine lv_icmp_ge (tgt := 16) hx hb dX5_isList_9 (by decide) (fun c_9 => ?_) (fun c_9 => ?_)
      · skip
        refine lv_iconst (v := 0) hx hb dX5_isList_16 (by decide) ?_
        have gx_1 : x_1 = 0 := by rw [ex_1]; simp only [if_neg c_1, if_pos c_9]
        simp only [gx_1] at hJ
        exact hJ _ _ _ hP hD hS (lv_sub hl [0, 1] rfl)
      · skip
        refine lv_iconst (v := 1) hx hb dX5_isList_12 (by decide) ?_
        refine lv_goto (tgt := 17) hx hb dX5_isList_13 (by decide) ?_
        have gx_1 : x_1 = 1 := by rw [ex_1]; simp only [if_neg c_1, if_neg c_9]
        simp only [gx_1] at hJ
        exact hJ _ _ _ hP hD hS (lv_sub hl [0, 1] rfl)
  · skip
    exact k_zret C0 () hP hD hS (pf_X5_isList_1 a v r x x_1 ex_1) (pf_X5_isList_0 a v r x x_1 ex_1) dX5_isList_17

set_option maxHeartbeats 1500000 in
theorem pf_X5_isAtom_0 (a : Nat → Nat) (v : Nat → Int32) (r : Nat → Nat → Int32) (x : Int32) (N : Nat) (hN : v 4 = nI N) (hN1 : N ≤ 120) (x_1 : Int32) (ex_1 : x_1 = (if x < 0 then (0 : Int32) else (if (nI N) ≤ x then (0 : Int32) else (if ((r 3) x.toNatClampNeg) = 4 then (0 : Int32) else (1 : Int32))))) : x_1 = bI (0 ≤ x ∧ x < nI N ∧ ¬ r 3 x.toNatClampNeg = 4) := by
  subst_vars <;> simp only [bI] <;> (repeat' split) <;> first | (with_reducible rfl) | (simp_all; done) | (simp only [i_lt, i_le, i_eq, tI0, tI1, tI2, tI3, tI4, tI5, tI6, tI7, tI8, tI9, tI10, tI11, tI12, tI13, tI14, tI15, tI16, tI30, tI120, tI255, tI256, tI1000, tIm1] at * <;> omega)
set_option maxHeartbeats 1500000 in
theorem pf_X5_isAtom_1 (a : Nat → Nat) (v : Nat → Int32) (r : Nat → Nat → Int32) (x : Int32) (N : Nat) (hN : v 4 = nI N) (hN1 : N ≤ 120) (x_1 : Int32) (ex_1 : x_1 = (if x < 0 then (0 : Int32) else (if (nI N) ≤ x then (0 : Int32) else (if ((r 3) x.toNatClampNeg) = 4 then (0 : Int32) else (1 : Int32))))) : narrow .boolean (.int x_1) = .int x_1 := by
  subst_vars; (repeat' split) <;> rfl
set_option maxHeartbeats 1500000 in
set_option maxRecDepth 100000 in
theorem c_X5_isAtom (l : Launch) (D : va_G) (cI : ClassId) (a : Nat → Nat) (v : Nat → Int32) (r : Nat → Nat → Int32) (x : Int32) (N : Nat) (hN : v 4 = nI N) (hN1 : N ≤ 120) : KD l D cI yX5_isAtom wsX5_isAtom ({ frames := 0, cells := 0, slots := 0, locals := 0 }) [.ref (a 0), .int x] (wM cI a v r) (wM cI a v r) (bI (0 ≤ x ∧ x < nI N ∧ ¬ r 3 x.toNatClampNeg = 4)) := by
  refine KI.of (cc := cX5_isAtom) (nL := 2) (ret := (some .boolean)) (by decide) rfl (Nat.le_of_ble_eq_true rfl) ?_
  intro pg9 en9 s m args below meth cd9 A ls C0 hP hD hS hl
  have hx := C0.1.1
  have hb := C0.1.2.1
  have hml := C0.1.2.2.1
  have hown : s.vm.findClass RX5 = some m.cls := C0.1.2.2.2.1
  have hts : ∀ w ∈ wsX5_isAtom, w.before args s = true := C0.1.2.2.2.2
  have hK := C0.2.2.2.1
  have hin_X5 : ∀ w ∈ wsX50, w ∈ wsX5_isAtom := fun w h => List.mem_cons_of_mem _ (List.mem_append_right _ h)
  have hf53 : (Cond.fieldLink RX5 53 "FormulaListsModel" "nodes" "I").before args s = true := hts _ (by decide +kernel)
  have hf20 : (Cond.fieldLink RX5 20 "FormulaListsModel" "what" "[I").before args s = true := hts _ (by decide +kernel)
  have hl : lv_has ls 2 [(0, .ref (a 0)), (1, .int x)] := hl
  have hP : va_P D vwCl (wM cI a v r) s.heap := hP
  refine lv_iload_n hx hb dX5_isAtom_0 rfl (lv_at hl 1 rfl) ?_
  obtain ⟨x_1, ex_1⟩ : ∃ zz_ : Int32, zz_ = (if x < 0 then (0 : Int32) else (if (nI N) ≤ x then (0 : Int32) else (if ((r 3) x.toNatClampNeg) = 4 then (0 : Int32) else (1 : Int32)))) := ⟨_, rfl⟩
  refine jW (D := D) hD hl 27 (wM cI a v r) [(0, .ref (a 0)), (1, .int x)] [.int x_1] (fun hJ => ?_) (fun H locs ls hP hD hS hl => ?_)
  · skip
    refine lv_if_lt (tgt := 26) hx hb dX5_isAtom_1 (by decide) (fun c_1 => ?_) (fun c_1 => ?_)
    · skip
      refine lv_iconst (v := 0) hx hb dX5_isAtom_26 (by decide) ?_
      have gx_1 : x_1 = 0 := by rw [ex_1]; simp only [if_pos c_1]
      simp only [gx_1] at hJ
      exact hJ _ _ _ hP hD hS (lv_sub hl [0, 1] rfl)
    · skip
      refine lv_iload_n hx hb dX5_isAtom_4 rfl (lv_at hl 1 rfl) ?_
      refine lv_aload_n hx hb dX5_isAtom_5 rfl (lv_at hl 0 rfl) ?_
      refine va_get (D := D) (ci := 5) (v := .int (v 4)) (C := RX5) (T := TX5) (N := 25) hx hb hts hin_X5 hown hK hP 0 rfl rfl 4 (by decide) hf53 (fun _ h9 => h9) rfl dX5_isAtom_6 ?_
      refine lv_eqi hN ?_
      refine lv_icmp_ge (tgt := 26) hx hb dX5_isAtom_9 (by decide) (fun c_9 => ?_) (fun c_9 => ?_)
      · skip
        refine lv_iconst (v := 0) hx hb dX5_isAtom_26 (by decide) ?_
        have gx_1 : x_1 = 0 := by rw [ex_1]; simp only [if_neg c_1, if_pos c_9]
        simp only [gx_1] at hJ
        exact hJ _ _ _ hP hD hS (lv_sub hl [0, 1] rfl)
      · skip
        refine lv_aload_n hx hb dX5_isAtom_12 rfl (lv_at hl 0 rfl) ?_
        refine va_get (D := D) (ci := 5) (v := .ref (a 3)) (C := RX5) (T := TX5) (N := 25) hx hb hts hin_X5 hown hK hP 0 rfl rfl 6 (by decide) hf20 (fun _ h9 => h9) rfl dX5_isAtom_13 ?_
        refine lv_iload_n hx hb dX5_isAtom_16 rfl (lv_at hl 1 rfl) ?_
        refine ra_ld (f := (r 3)) C0 hP 3 rfl x.toNatClampNeg (ix_of c_1 (Int32.not_le.mp c_9) rfl hN1 (by decide)).1 (ix_of c_1 (Int32.not_le.mp c_9) rfl hN1 (by decide)).2 (by decide) dX5_isAtom_17 ?_
        refine lv_iconst (v := 4) hx hb dX5_isAtom_18 (by decide) ?_
        refine lv_icmp_eq (tgt := 26) hx hb dX5_isAtom_19 (by decide) (fun c_19 => ?_) (fun c_19 => ?_)
        · skip
          refine lv_iconst (v := 0) hx hb dX5_isAtom_26 (by decide) ?_
          have gx_1 : x_1 = 0 := by rw [ex_1]; simp only [if_neg c_1, if_neg c_9, if_pos c_19]
          simp only [gx_1] at hJ
          exact hJ _ _ _ hP hD hS (lv_sub hl [0, 1] rfl)
        · skip
          refine lv_iconst (v := 1) hx hb dX5_isAtom_22 (by decide) ?_
          refine lv_goto (tgt := 27) hx hb dX5_isAtom_23 (by decide) ?_
          have gx_1 : x_1 = 1 := by rw [ex_1]; simp only [if_neg c_1, if_neg c_9, if_neg c_19]
          simp only [gx_1] at hJ
          exact hJ _ _ _ hP hD hS (lv_sub hl [0, 1] rfl)
  · skip
    exact k_zret C0 () hP hD hS (pf_X5_isAtom_1 a v r x N hN hN1 x_1 ex_1) (pf_X5_isAtom_0 a v r x N hN hN1 x_1 ex_1) dX5_isAtom_27

set_option maxHeartbeats 1500000 in
theorem pf_X5_isFree_0 (a : Nat → Nat) (v : Nat → Int32) (r : Nat → Nat → Int32) (k : Nat) (hk : k < 30) (x_1 : Int32) (ex_1 : x_1 = (if (nI k) ≤ 0 then (0 : Int32) else (if ((r 1) k) = (-1) then (1 : Int32) else (0 : Int32)))) : x_1 = bI (0 < nI k ∧ r 1 k = -1) := by
  subst_vars <;> simp only [bI] <;> (repeat' split) <;> first | (with_reducible rfl) | (simp_all; done) | (simp only [i_lt, i_le, i_eq, tI0, tI1, tI2, tI3, tI4, tI5, tI6, tI7, tI8, tI9, tI10, tI11, tI12, tI13, tI14, tI15, tI16, tI30, tI120, tI255, tI256, tI1000, tIm1] at * <;> omega)
set_option maxHeartbeats 1500000 in
theorem pf_X5_isFree_1 (a : Nat → Nat) (v : Nat → Int32) (r : Nat → Nat → Int32) (k : Nat) (hk : k < 30) (x_1 : Int32) (ex_1 : x_1 = (if (nI k) ≤ 0 then (0 : Int32) else (if ((r 1) k) = (-1) then (1 : Int32) else (0 : Int32)))) : narrow .boolean (.int x_1) = .int x_1 := by
  subst_vars; (repeat' split) <;> rfl
set_option maxHeartbeats 1500000 in
set_option maxRecDepth 100000 in
theorem c_X5_isFree (l : Launch) (D : va_G) (cI : ClassId) (a : Nat → Nat) (v : Nat → Int32) (r : Nat → Nat → Int32) (k : Nat) (hk : k < 30) : KD l D cI yX5_isFree wsX5_isFree ({ frames := 0, cells := 0, slots := 0, locals := 0 }) [.ref (a 0), .int (nI k)] (wM cI a v r) (wM cI a v r) (bI (0 < nI k ∧ r 1 k = -1)) := by
  refine KI.of (cc := cX5_isFree) (nL := 2) (ret := (some .boolean)) (by decide) rfl (Nat.le_of_ble_eq_true rfl) ?_
  intro pg9 en9 s m args below meth cd9 A ls C0 hP hD hS hl
  have hx := C0.1.1
  have hb := C0.1.2.1
  have hml := C0.1.2.2.1
  have hown : s.vm.findClass RX5 = some m.cls := C0.1.2.2.2.1
  have hts : ∀ w ∈ wsX5_isFree, w.before args s = true := C0.1.2.2.2.2
  have hK := C0.2.2.2.1
  have hin_X5 : ∀ w ∈ wsX50, w ∈ wsX5_isFree := fun w h => List.mem_cons_of_mem _ (List.mem_append_right _ h)
  have hf13 : (Cond.fieldLink RX5 13 "FormulaListsModel" "in" "[I").before args s = true := hts _ (by decide +kernel)
  have hl : lv_has ls 2 [(0, .ref (a 0)), (1, .int (nI k))] := hl
  have hP : va_P D vwCl (wM cI a v r) s.heap := hP
  refine lv_iload_n hx hb dX5_isFree_0 rfl (lv_at hl 1 rfl) ?_
  obtain ⟨x_1, ex_1⟩ : ∃ zz_ : Int32, zz_ = (if (nI k) ≤ 0 then (0 : Int32) else (if ((r 1) k) = (-1) then (1 : Int32) else (0 : Int32))) := ⟨_, rfl⟩
  refine jW (D := D) hD hl 19 (wM cI a v r) [(0, .ref (a 0)), (1, .int (nI k))] [.int x_1] (fun hJ => ?_) (fun H locs ls hP hD hS hl => ?_)
  · skip
    refine lv_if_le (tgt := 18) hx hb dX5_isFree_1 (by decide) (fun c_1 => ?_) (fun c_1 => ?_)
    · skip
      refine lv_iconst (v := 0) hx hb dX5_isFree_18 (by decide) ?_
      have gx_1 : x_1 = 0 := by rw [ex_1]; simp only [if_pos c_1]
      simp only [gx_1] at hJ
      exact hJ _ _ _ hP hD hS (lv_sub hl [0, 1] rfl)
    · skip
      refine lv_aload_n hx hb dX5_isFree_4 rfl (lv_at hl 0 rfl) ?_
      refine va_get (D := D) (ci := 5) (v := .ref (a 1)) (C := RX5) (T := TX5) (N := 25) hx hb hts hin_X5 hown hK hP 0 rfl rfl 3 (by decide) hf13 (fun _ h9 => h9) rfl dX5_isFree_5 ?_
      refine lv_iload_n hx hb dX5_isFree_8 rfl (lv_at hl 1 rfl) ?_
      refine ra_ld (f := (r 1)) C0 hP 1 rfl k rfl (by omega) (by decide) dX5_isFree_9 ?_
      refine lv_iconst (v := (-1)) hx hb dX5_isFree_10 (by decide) ?_
      refine lv_icmp_ne (tgt := 18) hx hb dX5_isFree_11 (by decide) (fun c_11 => ?_) (fun c_11 => ?_)
      · skip
        refine lv_iconst (v := 0) hx hb dX5_isFree_18 (by decide) ?_
        have gx_1 : x_1 = 0 := by rw [ex_1]; simp only [if_neg c_1, if_neg c_11]
        simp only [gx_1] at hJ
        exact hJ _ _ _ hP hD hS (lv_sub hl [0, 1] rfl)
      · skip
        refine lv_iconst (v := 1) hx hb dX5_isFree_14 (by decide) ?_
        refine lv_goto (tgt := 19) hx hb dX5_isFree_15 (by decide) ?_
        have gx_1 : x_1 = 1 := by rw [ex_1]; simp only [if_neg c_1, if_pos c_11]
        simp only [gx_1] at hJ
        exact hJ _ _ _ hP hD hS (lv_sub hl [0, 1] rfl)
  · skip
    exact k_zret C0 () hP hD hS (pf_X5_isFree_1 a v r k hk x_1 ex_1) (pf_X5_isFree_0 a v r k hk x_1 ex_1) dX5_isFree_19

set_option maxHeartbeats 1500000 in
theorem pf_X5_isWithin_0 (a : Nat → Nat) (v : Nat → Int32) (r : Nat → Nat → Int32) (k : Nat) (o : Int32) (dp : Nat → Nat) (hk : k < 30) (hd : dp k ≤ 30) (hdp : ∀ j, j < 30 → r 1 j = -1 ∨ ∃ n i, r 1 j = nI n ∧ n < 120 ∧ r 2 n = nI i ∧ i < 30 ∧ dp i < dp j) (d j : Nat) (hj : j < 30) (hw : wiF (r 1) (r 2) o 30 (nI k) = wiF (r 1) (r 2) o d (nI j)) (c_4 : (nI j) = o) (x_1 : Int32) (ex_1 : x_1 = (if (nI j) = o then (1 : Int32) else (0 : Int32))) : x_1 = bI (wiF (r 1) (r 2) o 30 (nI k) = true) := by
  rw [ex_1, if_pos c_4, hw, c_4, wiF_eq d]; rfl
set_option maxHeartbeats 1500000 in
theorem pf_X5_isWithin_1 (a : Nat → Nat) (v : Nat → Int32) (r : Nat → Nat → Int32) (k : Nat) (o : Int32) (dp : Nat → Nat) (hk : k < 30) (hd : dp k ≤ 30) (hdp : ∀ j, j < 30 → r 1 j = -1 ∨ ∃ n i, r 1 j = nI n ∧ n < 120 ∧ r 2 n = nI i ∧ i < 30 ∧ dp i < dp j) (d j : Nat) (hj : j < 30) (hw : wiF (r 1) (r 2) o 30 (nI k) = wiF (r 1) (r 2) o d (nI j)) (c_4 : (nI j) = o) (x_1 : Int32) (ex_1 : x_1 = (if (nI j) = o then (1 : Int32) else (0 : Int32))) : narrow .boolean (.int x_1) = .int x_1 := by
  subst_vars; (repeat' split) <;> rfl
set_option maxHeartbeats 1500000 in
theorem pf_X5_isWithin_2 (a : Nat → Nat) (v : Nat → Int32) (r : Nat → Nat → Int32) (k : Nat) (o : Int32) (dp : Nat → Nat) (hk : k < 30) (hd : dp k ≤ 30) (hdp : ∀ j, j < 30 → r 1 j = -1 ∨ ∃ n i, r 1 j = nI n ∧ n < 120 ∧ r 2 n = nI i ∧ i < 30 ∧ dp i < dp j) (d j : Nat) (hj : j < 30) (hw : wiF (r 1) (r 2) o 30 (nI k) = wiF (r 1) (r 2) o d (nI j)) (c_4 : ¬ ((nI j) = o)) (c_14 : ((r 1) j) = (-1)) (x_2 : Int32) (ex_2 : x_2 = (if (nI j) = o then (1 : Int32) else (0 : Int32))) : x_2 = bI (wiF (r 1) (r 2) o 30 (nI k) = true) := by
  rw [ex_2, if_neg c_4, hw, wiF_no d (by omega) c_4 c_14]; rfl
set_option maxHeartbeats 1500000 in
theorem pf_X5_isWithin_3 (a : Nat → Nat) (v : Nat → Int32) (r : Nat → Nat → Int32) (k : Nat) (o : Int32) (dp : Nat → Nat) (hk : k < 30) (hd : dp k ≤ 30) (hdp : ∀ j, j < 30 → r 1 j = -1 ∨ ∃ n i, r 1 j = nI n ∧ n < 120 ∧ r 2 n = nI i ∧ i < 30 ∧ dp i < dp j) (d j : Nat) (hj : j < 30) (hw : wiF (r 1) (r 2) o 30 (nI k) = wiF (r 1) (r 2) o d (nI j)) (c_4 : ¬ ((nI j) = o)) (c_14 : ((r 1) j) = (-1)) (x_2 : Int32) (ex_2 : x_2 = (if (nI j) = o then (1 : Int32) else (0 : Int32))) : narrow .boolean (.int x_2) = .int x_2 := by
  subst_vars; (repeat' split) <;> rfl
set_option maxHeartbeats 1500000 in
set_option maxRecDepth 100000 in
theorem c_X5_isWithin (l : Launch) (D : va_G) (cI : ClassId) (a : Nat → Nat) (v : Nat → Int32) (r : Nat → Nat → Int32) (k : Nat) (o : Int32) (dp : Nat → Nat) (hk : k < 30) (hd : dp k ≤ 30) (hdp : ∀ j, j < 30 → r 1 j = -1 ∨ ∃ n i, r 1 j = nI n ∧ n < 120 ∧ r 2 n = nI i ∧ i < 30 ∧ dp i < dp j) : KD l D cI yX5_isWithin wsX5_isWithin ({ frames := 0, cells := 0, slots := 0, locals := 0 }) [.ref (a 0), .int (nI k), .int o] (wM cI a v r) (wM cI a v r) (bI (wiF (r 1) (r 2) o 30 (nI k) = true)) := by
  refine KI.of (cc := cX5_isWithin) (nL := 4) (ret := (some .boolean)) (by decide) rfl (Nat.le_of_ble_eq_true rfl) ?_
  intro pg9 en9 s m args below meth cd9 A ls C0 hP hD hS hl
  have hx := C0.1.1
  have hb := C0.1.2.1
  have hml := C0.1.2.2.1
  have hown : s.vm.findClass RX5 = some m.cls := C0.1.2.2.2.1
  have hts : ∀ w ∈ wsX5_isWithin, w.before args s = true := C0.1.2.2.2.2
  have hK := C0.2.2.2.1
  have hin_X5 : ∀ w ∈ wsX50, w ∈ wsX5_isWithin := fun w h => List.mem_cons_of_mem _ (List.mem_append_right _ h)
  have hf13 : (Cond.fieldLink RX5 13 "FormulaListsModel" "in" "[I").before args s = true := hts _ (by decide +kernel)
  have hf17 : (Cond.fieldLink RX5 17 "FormulaListsModel" "listOf" "[I").before args s = true := hts _ (by decide +kernel)
  have hl : lv_has ls 4 [(0, .ref (a 0)), (1, .int (nI k)), (2, .int o)] := hl
  have hP : va_P D vwCl (wM cI a v r) s.heap := hP
  refine lv_iload_n hx hb dX5_isWithin_0 rfl (lv_at hl 1 rfl) ?_
  refine lv_istore_n (lv' := [(3, .int (nI k)), (0, .ref (a 0)), (1, .int (nI k)), (2, .int o)]) hx hb dX5_isWithin_1 rfl hl (by decide) rfl (fun ls hl => ?_)
  refine lpW (nL := 4) (A := A) (D := D) (fun z : Nat × Nat => (wM cI a v r)) (fun z : Nat × Nat => [(3, .int (nI z.2)), (0, .ref (a 0)), (1, .int (nI k)), (2, .int o)]) (fun z : Nat × Nat => z.2 < 30 ∧ dp z.2 ≤ z.1 ∧ wiF (r 1) (r 2) o 30 (nI k) = wiF (r 1) (r 2) o z.1 (nI z.2)) (fun z : Nat × Nat => dp z.2) (30, k) hP hD hS (lv_sub hl [0, 1, 2, 3] rfl) ⟨hk, hd, rfl⟩ ?_
  rintro ⟨d, j⟩ H locs ls hP hD hS hl hf ih
  have hP : va_P D vwCl (wM cI a v r) H := hP
  have hD : va_D A (wM cI a v r) := hD
  have hl : lv_has ls 4 [(3, .int (nI j)), (0, .ref (a 0)), (1, .int (nI k)), (2, .int o)] := hl
  have hf : j < 30 ∧ dp j ≤ d ∧ wiF (r 1) (r 2) o 30 (nI k) = wiF (r 1) (r 2) o d (nI j) := hf
  obtain ⟨hj, hdj, hw⟩ := hf
  refine lv_iload_n hx hb dX5_isWithin_2 rfl (lv_at hl 0 rfl) ?_
  refine lv_iload_n hx hb dX5_isWithin_3 rfl (lv_at hl 3 rfl) ?_
  refine lv_icmp_eq (tgt := 32) hx hb dX5_isWithin_4 (by decide) (fun c_4 => ?_) (fun c_4 => ?_)
  · skip
    refine lv_iload_n hx hb dX5_isWithin_32 rfl (lv_at hl 0 rfl) ?_
    refine lv_iload_n hx hb dX5_isWithin_33 rfl (lv_at hl 3 rfl) ?_
    obtain ⟨x_1, ex_1⟩ : ∃ zz_ : Int32, zz_ = (if (nI j) = o then (1 : Int32) else (0 : Int32)) := ⟨_, rfl⟩
    refine jW (D := D) hD hl 42 (wM cI a v r) [(3, .int (nI j)), (0, .ref (a 0)), (1, .int (nI k)), (2, .int o)] [.int x_1] (fun hJ => ?_) (fun H locs ls hP hD hS hl => ?_)
    · skip
      refine lv_icmp_ne (tgt := 41) hx hb dX5_isWithin_34 (by decide) (fun c_34 => ?_) (fun c_34 => ?_)
      · skip
        refine lv_iconst (v := 0) hx hb dX5_isWithin_41 (by decide) ?_
        have gx_1 : x_1 = 0 := by rw [ex_1]; simp only [if_neg c_34]
        simp only [gx_1] at hJ
        exact hJ _ _ _ hP hD hS (lv_sub hl [0, 1, 2, 3] rfl)
      · skip
        refine lv_iconst (v := 1) hx hb dX5_isWithin_37 (by decide) ?_
        refine lv_goto (tgt := 42) hx hb dX5_isWithin_38 (by decide) ?_
        have gx_1 : x_1 = 1 := by rw [ex_1]; simp only [if_pos c_34]
        simp only [gx_1] at hJ
        exact hJ _ _ _ hP hD hS (lv_sub hl [0, 1, 2, 3] rfl)
    · skip
      exact k_zret C0 () hP hD hS (pf_X5_isWithin_1 a v r k o dp hk hd hdp d j hj hw c_4 x_1 ex_1) (pf_X5_isWithin_0 a v r k o dp hk hd hdp d j hj hw c_4 x_1 ex_1) dX5_isWithin_42
  · skip
    refine lv_aload_n hx hb dX5_isWithin_7 rfl (lv_at hl 1 rfl) ?_
    refine va_get (D := D) (ci := 5) (v := .ref (a 1)) (C := RX5) (T := TX5) (N := 25) hx hb hts hin_X5 hown hK hP 0 rfl rfl 3 (by decide) hf13 (fun _ h9 => h9) rfl dX5_isWithin_8 ?_
    refine lv_iload_n hx hb dX5_isWithin_11 rfl (lv_at hl 0 rfl) ?_
    refine ra_ld (f := (r 1)) C0 hP 1 rfl j rfl (by omega) (by decide) dX5_isWithin_12 ?_
    refine lv_iconst (v := (-1)) hx hb dX5_isWithin_13 (by decide) ?_
    refine lv_icmp_eq (tgt := 32) hx hb dX5_isWithin_14 (by decide) (fun c_14 => ?_) (fun c_14 => ?_)
    · skip
      refine lv_iload_n hx hb dX5_isWithin_32 rfl (lv_at hl 0 rfl) ?_
      refine lv_iload_n hx hb dX5_isWithin_33 rfl (lv_at hl 3 rfl) ?_
      obtain ⟨x_2, ex_2⟩ : ∃ zz_ : Int32, zz_ = (if (nI j) = o then (1 : Int32) else (0 : Int32)) := ⟨_, rfl⟩
      refine jW (D := D) hD hl 42 (wM cI a v r) [(3, .int (nI j)), (0, .ref (a 0)), (1, .int (nI k)), (2, .int o)] [.int x_2] (fun hJ => ?_) (fun H locs ls hP hD hS hl => ?_)
      · skip
        refine lv_icmp_ne (tgt := 41) hx hb dX5_isWithin_34 (by decide) (fun c_34 => ?_) (fun c_34 => ?_)
        · skip
          refine lv_iconst (v := 0) hx hb dX5_isWithin_41 (by decide) ?_
          have gx_2 : x_2 = 0 := by rw [ex_2]; simp only [if_neg c_34]
          simp only [gx_2] at hJ
          exact hJ _ _ _ hP hD hS (lv_sub hl [0, 1, 2, 3] rfl)
        · skip
          refine lv_iconst (v := 1) hx hb dX5_isWithin_37 (by decide) ?_
          refine lv_goto (tgt := 42) hx hb dX5_isWithin_38 (by decide) ?_
          have gx_2 : x_2 = 1 := by rw [ex_2]; simp only [if_pos c_34]
          simp only [gx_2] at hJ
          exact hJ _ _ _ hP hD hS (lv_sub hl [0, 1, 2, 3] rfl)
      · skip
        exact k_zret C0 () hP hD hS (pf_X5_isWithin_3 a v r k o dp hk hd hdp d j hj hw c_4 c_14 x_2 ex_2) (pf_X5_isWithin_2 a v r k o dp hk hd hdp d j hj hw c_4 c_14 x_2 ex_2) dX5_isWithin_42
    · skip
      obtain ⟨n, i, e1, hn, e2, hi, hlt⟩ := (hdp j hj).resolve_left c_14
      refine lv_aload_n hx hb dX5_isWithin_17 rfl (lv_at hl 1 rfl) ?_
      refine va_get (D := D) (ci := 5) (v := .ref (a 2)) (C := RX5) (T := TX5) (N := 25) hx hb hts hin_X5 hown hK hP 0 rfl rfl 5 (by decide) hf17 (fun _ h9 => h9) rfl dX5_isWithin_18 ?_
      refine lv_aload_n hx hb dX5_isWithin_21 rfl (lv_at hl 1 rfl) ?_
      refine va_get (D := D) (ci := 5) (v := .ref (a 1)) (C := RX5) (T := TX5) (N := 25) hx hb hts hin_X5 hown hK hP 0 rfl rfl 3 (by decide) hf13 (fun _ h9 => h9) rfl dX5_isWithin_22 ?_
      refine lv_iload_n hx hb dX5_isWithin_25 rfl (lv_at hl 0 rfl) ?_
      refine ra_ld (f := (r 1)) C0 hP 1 rfl j rfl (by omega) (by decide) dX5_isWithin_26 ?_
      refine ra_ld (f := (r 2)) C0 hP 2 rfl n e1 hn (by decide) dX5_isWithin_27 ?_
      refine lv_eqi e2 ?_
      refine lv_istore_n (lv' := [(3, .int (nI i)), (0, .ref (a 0)), (1, .int (nI k)), (2, .int o)]) hx hb dX5_isWithin_28 rfl hl (by decide) rfl (fun ls hl => ?_)
      refine lv_goto (tgt := 2) hx hb dX5_isWithin_29 (by decide) ?_
      exact ih ((d - 1), i) _ _ _ hP hD hS (lv_sub hl [0, 1, 2, 3] rfl) ⟨hi, (show dp i ≤ d - 1 by omega), (by rw [hw, show d = (d - 1) + 1 by omega]; exact wiF_st _ (by omega) (by omega) c_4 c_14 e1 e2)⟩ hlt

set_option maxHeartbeats 1500000 in
set_option maxRecDepth 100000 in
theorem c_X5_set (l : Launch) (D : va_G) (cI : ClassId) (a : Nat → Nat) (v : Nat → Int32) (r : Nat → Nat → Int32) (x : Int32) (y : Int32) (z : Int32) : KDv l D cI yX5_set wsX5_set ({ frames := 0, cells := 0, slots := 0, locals := 0 }) [.ref (a 0), .int x, .int y, .int z] (wM cI a v r) (wM cI a (vU (vU (vU v 19 x) 20 y) 21 z) r) := by
  refine KV.of (cc := cX5_set) (nL := 4) (ret := none) (by decide) rfl (Nat.le_of_ble_eq_true rfl) ?_
  intro pg9 en9 s m args below meth cd9 A ls C0 hP hD hS hl
  have hx := C0.1.1
  have hb := C0.1.2.1
  have hml := C0.1.2.2.1
  have hown : s.vm.findClass RX5 = some m.cls := C0.1.2.2.2.1
  have hts : ∀ w ∈ wsX5_set, w.before args s = true := C0.1.2.2.2.2
  have hK := C0.2.2.2.1
  have hin_X5 : ∀ w ∈ wsX50, w ∈ wsX5_set := fun w h => List.mem_cons_of_mem _ (List.mem_append_right _ h)
  have hf96 : (Cond.fieldLink RX5 96 "FormulaListsModel" "width" "I").before args s = true := hts _ (by decide +kernel)
  have hf99 : (Cond.fieldLink RX5 99 "FormulaListsModel" "height" "I").before args s = true := hts _ (by decide +kernel)
  have hf102 : (Cond.fieldLink RX5 102 "FormulaListsModel" "depth" "I").before args s = true := hts _ (by decide +kernel)
  have hl : lv_has ls 4 [(0, .ref (a 0)), (1, .int x), (2, .int y), (3, .int z)] := hl
  have hP : va_P D vwCl (wM cI a v r) s.heap := hP
  refine lv_aload_n hx hb dX5_set_0 rfl (lv_at hl 0 rfl) ?_
  refine lv_iload_n hx hb dX5_set_1 rfl (lv_at hl 1 rfl) ?_
  refine va_put (D := D) (ci := 5) (v := .int x) (ty := .int) (C := RX5) (T := TX5) (N := 25) hx hb hts hin_X5 tyX5 tyX5_ok nmX5 hown hK hP hD hS 0 rfl rfl 19 (by decide) hf96 (fun _ h9 => h9) rfl (by decide +kernel) rfl rfl (Nat.le_of_ble_eq_true rfl) dX5_set_2 (fun H locs hP hD hS => ?_)
  have hP : va_P D vwCl (wM cI a (vU v 19 x) r) H := hP
  have hD : va_D A (wM cI a (vU v 19 x) r) := hD
  refine lv_aload_n hx hb dX5_set_5 rfl (lv_at hl 0 rfl) ?_
  refine lv_iload_n hx hb dX5_set_6 rfl (lv_at hl 2 rfl) ?_
  refine va_put (D := D) (ci := 5) (v := .int y) (ty := .int) (C := RX5) (T := TX5) (N := 25) hx hb hts hin_X5 tyX5 tyX5_ok nmX5 hown hK hP hD hS 0 rfl rfl 20 (by decide) hf99 (fun _ h9 => h9) rfl (by decide +kernel) rfl rfl (Nat.le_of_ble_eq_true rfl) dX5_set_7 (fun H locs hP hD hS => ?_)
  have hP : va_P D vwCl (wM cI a (vU (vU v 19 x) 20 y) r) H := hP
  have hD : va_D A (wM cI a (vU (vU v 19 x) 20 y) r) := hD
  refine lv_aload_n hx hb dX5_set_10 rfl (lv_at hl 0 rfl) ?_
  refine lv_iload_n hx hb dX5_set_11 rfl (lv_at hl 3 rfl) ?_
  refine va_put (D := D) (ci := 5) (v := .int z) (ty := .int) (C := RX5) (T := TX5) (N := 25) hx hb hts hin_X5 tyX5 tyX5_ok nmX5 hown hK hP hD hS 0 rfl rfl 21 (by decide) hf102 (fun _ h9 => h9) rfl (by decide +kernel) rfl rfl (Nat.le_of_ble_eq_true rfl) dX5_set_12 (fun H locs hP hD hS => ?_)
  have hP : va_P D vwCl (wM cI a (vU (vU (vU v 19 x) 20 y) 21 z) r) H := hP
  have hD : va_D A (wM cI a (vU (vU (vU v 19 x) 20 y) 21 z) r) := hD
  exact k_vret C0 () hP hD hS trivial dX5_set_15

set_option maxHeartbeats 1500000 in
set_option maxRecDepth 100000 in
theorem c_X5_need (l : Launch) (D : va_G) (cI : ClassId) (a : Nat → Nat) (v : Nat → Int32) (r : Nat → Nat → Int32) (x : Int32) : KD l D cI yX5_need wsX5_need ({ frames := 1, cells := 0, slots := 0, locals := 21 }) [.ref (a 0), .int x] (wM cI a v r) (wM cI a v r) (2 * mx (v 20 - 2 * uni x) (v 21 + 2 * uni x)) := by
  refine KI.of (cc := cX5_need) (nL := 2) (ret := (some .int)) (by decide) rfl (Nat.le_of_ble_eq_true rfl) ?_
  intro pg9 en9 s m args below meth cd9 A ls C0 hP hD hS hl
  have hx := C0.1.1
  have hb := C0.1.2.1
  have hml := C0.1.2.2.1
  have hown : s.vm.findClass RX5 = some m.cls := C0.1.2.2.2.1
  have hts : ∀ w ∈ wsX5_need, w.before args s = true := C0.1.2.2.2.2
  have hK := C0.2.2.2.1
  have hin_X5 : ∀ w ∈ wsX50, w ∈ wsX5_need := fun w h => List.mem_cons_of_mem _ (List.mem_append_right _ h)
  have hf99 : (Cond.fieldLink RX5 99 "FormulaListsModel" "height" "I").before args s = true := hts _ (by decide +kernel)
  have hf102 : (Cond.fieldLink RX5 102 "FormulaListsModel" "depth" "I").before args s = true := hts _ (by decide +kernel)
  have hl : lv_has ls 2 [(0, .ref (a 0)), (1, .int x)] := hl
  have hP : va_P D vwCl (wM cI a v r) s.heap := hP
  refine lv_iconst (v := 2) hx hb dX5_need_0 (by decide) ?_
  refine lv_aload_n hx hb dX5_need_1 rfl (lv_at hl 0 rfl) ?_
  refine va_get (D := D) (ci := 5) (v := .int (v 20)) (C := RX5) (T := TX5) (N := 25) hx hb hts hin_X5 hown hK hP 0 rfl rfl 20 (by decide) hf99 (fun _ h9 => h9) rfl dX5_need_2 ?_
  refine lv_iconst (v := 2) hx hb dX5_need_5 (by decide) ?_
  refine lv_iload_n hx hb dX5_need_6 rfl (lv_at hl 1 rfl) ?_
  refine kcS (ans := (uni x)) C0 hP hS (c_X5_unit l D cI x ) (va_cwS 1 hts gX5_need_X5_unit rfl rfl rfl (by decide +kernel) ⟨Nat.le_of_ble_eq_true rfl, Nat.le_of_ble_eq_true rfl⟩) rfl hl.1 rfl (Nat.le_of_ble_eq_true rfl) dX5_need_7 ⟨Nat.zero_le _, Nat.zero_le _⟩ (fun H locs hP hS => ?_)
  refine lv_imul hx hb dX5_need_10 ?_
  refine lv_isub hx hb dX5_need_11 ?_
  refine lv_aload_n hx hb dX5_need_12 rfl (lv_at hl 0 rfl) ?_
  refine va_get (D := D) (ci := 5) (v := .int (v 21)) (C := RX5) (T := TX5) (N := 25) hx hb hts hin_X5 hown hK hP 0 rfl rfl 21 (by decide) hf102 (fun _ h9 => h9) rfl dX5_need_13 ?_
  refine lv_iconst (v := 2) hx hb dX5_need_16 (by decide) ?_
  refine lv_iload_n hx hb dX5_need_17 rfl (lv_at hl 1 rfl) ?_
  refine kcS (ans := (uni x)) C0 hP hS (c_X5_unit l D cI x ) (va_cwS 1 hts gX5_need_X5_unit rfl rfl rfl (by decide +kernel) ⟨Nat.le_of_ble_eq_true rfl, Nat.le_of_ble_eq_true rfl⟩) rfl hl.1 rfl (Nat.le_of_ble_eq_true rfl) dX5_need_18 ⟨Nat.zero_le _, Nat.zero_le _⟩ (fun H locs hP hS => ?_)
  refine lv_imul hx hb dX5_need_21 ?_
  refine lv_iadd hx hb dX5_need_22 ?_
  refine kcS (ans := (mx ((v 20) - (2 * (uni x))) ((v 21) + (2 * (uni x))))) C0 hP hS (c_X5_greater l D cI ((v 20) - (2 * (uni x))) ((v 21) + (2 * (uni x))) ) (va_cwS 2 hts gX5_need_X5_greater rfl rfl rfl (by decide +kernel) ⟨Nat.le_of_ble_eq_true rfl, Nat.le_of_ble_eq_true rfl⟩) rfl hl.1 rfl (Nat.le_of_ble_eq_true rfl) dX5_need_23 ⟨Nat.zero_le _, Nat.zero_le _⟩ (fun H locs hP hS => ?_)
  refine lv_imul hx hb dX5_need_26 ?_
  exact k_iret C0 () hP hD hS rfl dX5_need_27

set_option maxHeartbeats 1500000 in
set_option maxRecDepth 100000 in
theorem c_X5_add (l : Launch) (D : va_G) (cI : ClassId) (a : Nat → Nat) (v : Nat → Int32) (r : Nat → Nat → Int32) (x0 x1 x2 x3 x4 : Int32) (N : Nat) (hN : v 4 = nI N) (hN1 : N < 120) : KD l D cI yX5_add wsX5_add ({ frames := 0, cells := 0, slots := 0, locals := 0 }) [.ref (a 0), .int x0, .int x1, .int x2, .int x3, .int x4] (wM cI a v r) (wM cI a (vU v 4 ((v 4) + 1)) (rU (rU (rU (rU (rU (rU (rU (rU r 2 (upd (r 2) N (v 2))) 3 (upd (r 3) N x0)) 4 (upd (r 4) N x1)) 5 (upd (r 5) N x2)) 6 (upd (r 6) N x3)) 7 (upd (r 7) N x4)) 8 (upd (r 8) N (-1))) 9 (upd (r 9) N (-1)))) (v 4) := by
  refine KI.of (cc := cX5_add) (nL := 7) (ret := (some .int)) (by decide) rfl (Nat.le_of_ble_eq_true rfl) ?_
  intro pg9 en9 s m args below meth cd9 A ls C0 hP hD hS hl
  have hx := C0.1.1
  have hb := C0.1.2.1
  have hml := C0.1.2.2.1
  have hown : s.vm.findClass RX5 = some m.cls := C0.1.2.2.2.1
  have hts : ∀ w ∈ wsX5_add, w.before args s = true := C0.1.2.2.2.2
  have hK := C0.2.2.2.1
  have hin_X5 : ∀ w ∈ wsX50, w ∈ wsX5_add := fun w h => List.mem_cons_of_mem _ (List.mem_append_right _ h)
  have hf53 : (Cond.fieldLink RX5 53 "FormulaListsModel" "nodes" "I").before args s = true := hts _ (by decide +kernel)
  have hf17 : (Cond.fieldLink RX5 17 "FormulaListsModel" "listOf" "[I").before args s = true := hts _ (by decide +kernel)
  have hf56 : (Cond.fieldLink RX5 56 "FormulaListsModel" "open" "I").before args s = true := hts _ (by decide +kernel)
  have hf20 : (Cond.fieldLink RX5 20 "FormulaListsModel" "what" "[I").before args s = true := hts _ (by decide +kernel)
  have hf23 : (Cond.fieldLink RX5 23 "FormulaListsModel" "kinds" "[I").before args s = true := hts _ (by decide +kernel)
  have hf26 : (Cond.fieldLink RX5 26 "FormulaListsModel" "one" "[I").before args s = true := hts _ (by decide +kernel)
  have hf29 : (Cond.fieldLink RX5 29 "FormulaListsModel" "two" "[I").before args s = true := hts _ (by decide +kernel)
  have hf32 : (Cond.fieldLink RX5 32 "FormulaListsModel" "three" "[I").before args s = true := hts _ (by decide +kernel)
  have hf35 : (Cond.fieldLink RX5 35 "FormulaListsModel" "upper" "[I").before args s = true := hts _ (by decide +kernel)
  have hf38 : (Cond.fieldLink RX5 38 "FormulaListsModel" "lower" "[I").before args s = true := hts _ (by decide +kernel)
  have hl : lv_has ls 7 [(0, .ref (a 0)), (1, .int x0), (2, .int x1), (3, .int x2), (4, .int x3), (5, .int x4)] := hl
  have hP : va_P D vwCl (wM cI a v r) s.heap := hP
  refine lv_aload_n hx hb dX5_add_0 rfl (lv_at hl 0 rfl) ?_
  refine va_get (D := D) (ci := 5) (v := .int (v 4)) (C := RX5) (T := TX5) (N := 25) hx hb hts hin_X5 hown hK hP 0 rfl rfl 4 (by decide) hf53 (fun _ h9 => h9) rfl dX5_add_1 ?_
  refine lv_istore (lv' := [(6, .int (v 4)), (0, .ref (a 0)), (1, .int x0), (2, .int x1), (3, .int x2), (4, .int x3), (5, .int x4)]) hx hb dX5_add_4 hl (by decide) rfl (fun ls hl => ?_)
  refine lv_aload_n hx hb dX5_add_6 rfl (lv_at hl 1 rfl) ?_
  refine lv_dup hx hb dX5_add_7 rfl ?_
  refine va_get (D := D) (ci := 5) (v := .int (v 4)) (C := RX5) (T := TX5) (N := 25) hx hb hts hin_X5 hown hK hP 0 rfl rfl 4 (by decide) hf53 (fun _ h9 => h9) rfl dX5_add_8 ?_
  refine lv_iconst (v := 1) hx hb dX5_add_11 (by decide) ?_
  refine lv_iadd hx hb dX5_add_12 ?_
  refine va_put (D := D) (ci := 5) (v := .int ((v 4) + 1)) (ty := .int) (C := RX5) (T := TX5) (N := 25) hx hb hts hin_X5 tyX5 tyX5_ok nmX5 hown hK hP hD hS 0 rfl rfl 4 (by decide) hf53 (fun _ h9 => h9) rfl (by decide +kernel) rfl rfl (Nat.le_of_ble_eq_true rfl) dX5_add_13 (fun H locs hP hD hS => ?_)
  have hP : va_P D vwCl (wM cI a (vU v 4 ((v 4) + 1)) r) H := hP
  have hD : va_D A (wM cI a (vU v 4 ((v 4) + 1)) r) := hD
  refine lv_aload_n hx hb dX5_add_16 rfl (lv_at hl 1 rfl) ?_
  refine va_get (D := D) (ci := 5) (v := .ref (a 2)) (C := RX5) (T := TX5) (N := 25) hx hb hts hin_X5 hown hK hP 0 rfl rfl 5 (by decide) hf17 (fun _ h9 => h9) rfl dX5_add_17 ?_
  refine lv_iload hx hb dX5_add_20 (lv_at hl 0 rfl) ?_
  refine lv_aload_n hx hb dX5_add_22 rfl (lv_at hl 1 rfl) ?_
  refine va_get (D := D) (ci := 5) (v := .int (v 2)) (C := RX5) (T := TX5) (N := 25) hx hb hts hin_X5 hown hK hP 0 rfl rfl 2 (by decide) hf56 (fun _ h9 => h9) rfl dX5_add_23 ?_
  refine ra_st (f := (r 2)) C0 hP hD hS 2 rfl N hN hN1 (by decide) dX5_add_26 (fun H locs hP hD hS => ?_)
  have hset : ∀ (y4_ : Int32) (g_ : Nat → Int32), (wM cI a (vU v 4 y4_) r).set 2 (a 2, .inl (cI, 120, .inl g_)) = (wM cI a (vU v 4 y4_) (rU r 2 g_)) := fun _ _ => rfl
  rw [hset] at hP hD
  refine lv_aload_n hx hb dX5_add_27 rfl (lv_at hl 1 rfl) ?_
  refine va_get (D := D) (ci := 5) (v := .ref (a 3)) (C := RX5) (T := TX5) (N := 25) hx hb hts hin_X5 hown hK hP 0 rfl rfl 6 (by decide) hf20 (fun _ h9 => h9) rfl dX5_add_28 ?_
  refine lv_iload hx hb dX5_add_31 (lv_at hl 0 rfl) ?_
  refine lv_iload_n hx hb dX5_add_33 rfl (lv_at hl 2 rfl) ?_
  refine ra_st (f := (r 3)) C0 hP hD hS 3 rfl N hN hN1 (by decide) dX5_add_34 (fun H locs hP hD hS => ?_)
  have hset : ∀ (y4_ : Int32) (f2_ : Nat → Int32) (g_ : Nat → Int32), (wM cI a (vU v 4 y4_) (rU r 2 f2_)).set 3 (a 3, .inl (cI, 120, .inl g_)) = (wM cI a (vU v 4 y4_) (rU (rU r 2 f2_) 3 g_)) := fun _ _ _ => rfl
  rw [hset] at hP hD
  refine lv_aload_n hx hb dX5_add_35 rfl (lv_at hl 1 rfl) ?_
  refine va_get (D := D) (ci := 5) (v := .ref (a 4)) (C := RX5) (T := TX5) (N := 25) hx hb hts hin_X5 hown hK hP 0 rfl rfl 7 (by decide) hf23 (fun _ h9 => h9) rfl dX5_add_36 ?_
  refine lv_iload hx hb dX5_add_39 (lv_at hl 0 rfl) ?_
  refine lv_iload_n hx hb dX5_add_41 rfl (lv_at hl 3 rfl) ?_
  refine ra_st (f := (r 4)) C0 hP hD hS 4 rfl N hN hN1 (by decide) dX5_add_42 (fun H locs hP hD hS => ?_)
  have hset : ∀ (y4_ : Int32) (f2_ f3_ : Nat → Int32) (g_ : Nat → Int32), (wM cI a (vU v 4 y4_) (rU (rU r 2 f2_) 3 f3_)).set 4 (a 4, .inl (cI, 120, .inl g_)) = (wM cI a (vU v 4 y4_) (rU (rU (rU r 2 f2_) 3 f3_) 4 g_)) := fun _ _ _ _ => rfl
  rw [hset] at hP hD
  refine lv_aload_n hx hb dX5_add_43 rfl (lv_at hl 1 rfl) ?_
  refine va_get (D := D) (ci := 5) (v := .ref (a 5)) (C := RX5) (T := TX5) (N := 25) hx hb hts hin_X5 hown hK hP 0 rfl rfl 8 (by decide) hf26 (fun _ h9 => h9) rfl dX5_add_44 ?_
  refine lv_iload hx hb dX5_add_47 (lv_at hl 0 rfl) ?_
  refine lv_iload_n hx hb dX5_add_49 rfl (lv_at hl 4 rfl) ?_
  refine ra_st (f := (r 5)) C0 hP hD hS 5 rfl N hN hN1 (by decide) dX5_add_50 (fun H locs hP hD hS => ?_)
  have hset : ∀ (y4_ : Int32) (f2_ f3_ f4_ : Nat → Int32) (g_ : Nat → Int32), (wM cI a (vU v 4 y4_) (rU (rU (rU r 2 f2_) 3 f3_) 4 f4_)).set 5 (a 5, .inl (cI, 120, .inl g_)) = (wM cI a (vU v 4 y4_) (rU (rU (rU (rU r 2 f2_) 3 f3_) 4 f4_) 5 g_)) := fun _ _ _ _ _ => rfl
  rw [hset] at hP hD
  refine lv_aload_n hx hb dX5_add_51 rfl (lv_at hl 1 rfl) ?_
  refine va_get (D := D) (ci := 5) (v := .ref (a 6)) (C := RX5) (T := TX5) (N := 25) hx hb hts hin_X5 hown hK hP 0 rfl rfl 9 (by decide) hf29 (fun _ h9 => h9) rfl dX5_add_52 ?_
  refine lv_iload hx hb dX5_add_55 (lv_at hl 0 rfl) ?_
  refine lv_iload hx hb dX5_add_57 (lv_at hl 5 rfl) ?_
  refine ra_st (f := (r 6)) C0 hP hD hS 6 rfl N hN hN1 (by decide) dX5_add_59 (fun H locs hP hD hS => ?_)
  have hset : ∀ (y4_ : Int32) (f2_ f3_ f4_ f5_ : Nat → Int32) (g_ : Nat → Int32), (wM cI a (vU v 4 y4_) (rU (rU (rU (rU r 2 f2_) 3 f3_) 4 f4_) 5 f5_)).set 6 (a 6, .inl (cI, 120, .inl g_)) = (wM cI a (vU v 4 y4_) (rU (rU (rU (rU (rU r 2 f2_) 3 f3_) 4 f4_) 5 f5_) 6 g_)) := fun _ _ _ _ _ _ => rfl
  rw [hset] at hP hD
  refine lv_aload_n hx hb dX5_add_60 rfl (lv_at hl 1 rfl) ?_
  refine va_get (D := D) (ci := 5) (v := .ref (a 7)) (C := RX5) (T := TX5) (N := 25) hx hb hts hin_X5 hown hK hP 0 rfl rfl 10 (by decide) hf32 (fun _ h9 => h9) rfl dX5_add_61 ?_
  refine lv_iload hx hb dX5_add_64 (lv_at hl 0 rfl) ?_
  refine lv_iload hx hb dX5_add_66 (lv_at hl 6 rfl) ?_
  refine ra_st (f := (r 7)) C0 hP hD hS 7 rfl N hN hN1 (by decide) dX5_add_68 (fun H locs hP hD hS => ?_)
  have hset : ∀ (y4_ : Int32) (f2_ f3_ f4_ f5_ f6_ : Nat → Int32) (g_ : Nat → Int32), (wM cI a (vU v 4 y4_) (rU (rU (rU (rU (rU r 2 f2_) 3 f3_) 4 f4_) 5 f5_) 6 f6_)).set 7 (a 7, .inl (cI, 120, .inl g_)) = (wM cI a (vU v 4 y4_) (rU (rU (rU (rU (rU (rU r 2 f2_) 3 f3_) 4 f4_) 5 f5_) 6 f6_) 7 g_)) := fun _ _ _ _ _ _ _ => rfl
  rw [hset] at hP hD
  refine lv_aload_n hx hb dX5_add_69 rfl (lv_at hl 1 rfl) ?_
  refine va_get (D := D) (ci := 5) (v := .ref (a 8)) (C := RX5) (T := TX5) (N := 25) hx hb hts hin_X5 hown hK hP 0 rfl rfl 11 (by decide) hf35 (fun _ h9 => h9) rfl dX5_add_70 ?_
  refine lv_iload hx hb dX5_add_73 (lv_at hl 0 rfl) ?_
  refine lv_iconst (v := (-1)) hx hb dX5_add_75 (by decide) ?_
  refine ra_st (f := (r 8)) C0 hP hD hS 8 rfl N hN hN1 (by decide) dX5_add_76 (fun H locs hP hD hS => ?_)
  have hset : ∀ (y4_ : Int32) (f2_ f3_ f4_ f5_ f6_ f7_ : Nat → Int32) (g_ : Nat → Int32), (wM cI a (vU v 4 y4_) (rU (rU (rU (rU (rU (rU r 2 f2_) 3 f3_) 4 f4_) 5 f5_) 6 f6_) 7 f7_)).set 8 (a 8, .inl (cI, 120, .inl g_)) = (wM cI a (vU v 4 y4_) (rU (rU (rU (rU (rU (rU (rU r 2 f2_) 3 f3_) 4 f4_) 5 f5_) 6 f6_) 7 f7_) 8 g_)) := fun _ _ _ _ _ _ _ _ => rfl
  rw [hset] at hP hD
  refine lv_aload_n hx hb dX5_add_77 rfl (lv_at hl 1 rfl) ?_
  refine va_get (D := D) (ci := 5) (v := .ref (a 9)) (C := RX5) (T := TX5) (N := 25) hx hb hts hin_X5 hown hK hP 0 rfl rfl 12 (by decide) hf38 (fun _ h9 => h9) rfl dX5_add_78 ?_
  refine lv_iload hx hb dX5_add_81 (lv_at hl 0 rfl) ?_
  refine lv_iconst (v := (-1)) hx hb dX5_add_83 (by decide) ?_
  refine ra_st (f := (r 9)) C0 hP hD hS 9 rfl N hN hN1 (by decide) dX5_add_84 (fun H locs hP hD hS => ?_)
  have hset : ∀ (y4_ : Int32) (f2_ f3_ f4_ f5_ f6_ f7_ f8_ : Nat → Int32) (g_ : Nat → Int32), (wM cI a (vU v 4 y4_) (rU (rU (rU (rU (rU (rU (rU r 2 f2_) 3 f3_) 4 f4_) 5 f5_) 6 f6_) 7 f7_) 8 f8_)).set 9 (a 9, .inl (cI, 120, .inl g_)) = (wM cI a (vU v 4 y4_) (rU (rU (rU (rU (rU (rU (rU (rU r 2 f2_) 3 f3_) 4 f4_) 5 f5_) 6 f6_) 7 f7_) 8 f8_) 9 g_)) := fun _ _ _ _ _ _ _ _ _ => rfl
  rw [hset] at hP hD
  refine lv_iload hx hb dX5_add_85 (lv_at hl 0 rfl) ?_
  exact k_iret C0 () hP hD hS rfl dX5_add_87

set_option maxHeartbeats 1500000 in
theorem pf_X5_nextAtom_0 (a : Nat → Nat) (v : Nat → Int32) (r : Nat → Nat → Int32) (x y : Int32) (N k0 : Nat) (hN : v 4 = nI N) (hN1 : N ≤ 120) (hk : y + 1 = nI k0) (hk0 : k0 ≤ N) (k : Nat) (hk1 : k ≤ N) (hw : nxF (r 2) (r 3) x (N - k0) k0 = nxF (r 2) (r 3) x (N - k) k) (c_9 : (nI N) ≤ (nI k)) (x_1 : Int32) (ex_1 : x_1 = (if (nI N) ≤ (nI k) then (-1 : Int32) else (nI k))) : x_1 = nxF (r 2) (r 3) x (N - k0) k0 := by
  rw [hw]; exact nx_e0 hk1 hN1 c_9 ex_1
set_option maxHeartbeats 1500000 in
theorem pf_X5_nextAtom_1 (a : Nat → Nat) (v : Nat → Int32) (r : Nat → Nat → Int32) (x y : Int32) (N k0 : Nat) (hN : v 4 = nI N) (hN1 : N ≤ 120) (hk : y + 1 = nI k0) (hk0 : k0 ≤ N) (k : Nat) (hk1 : k ≤ N) (hw : nxF (r 2) (r 3) x (N - k0) k0 = nxF (r 2) (r 3) x (N - k) k) (c_9 : ¬ ((nI N) ≤ (nI k))) (c_19 : ((r 2) k) = x) (c_29 : ¬ (((r 3) k) = 4)) (x_2 : Int32) (ex_2 : x_2 = (if (nI N) ≤ (nI k) then (-1 : Int32) else (nI k))) : x_2 = nxF (r 2) (r 3) x (N - k0) k0 := by
  rw [hw]; exact nx_e1 hk1 hN1 c_9 c_19 c_29 ex_2
set_option maxHeartbeats 1500000 in
set_option maxRecDepth 100000 in
theorem c_X5_nextAtom (l : Launch) (D : va_G) (cI : ClassId) (a : Nat → Nat) (v : Nat → Int32) (r : Nat → Nat → Int32) (x y : Int32) (N k0 : Nat) (hN : v 4 = nI N) (hN1 : N ≤ 120) (hk : y + 1 = nI k0) (hk0 : k0 ≤ N) : KD l D cI yX5_nextAtom wsX5_nextAtom ({ frames := 0, cells := 0, slots := 0, locals := 0 }) [.ref (a 0), .int x, .int y] (wM cI a v r) (wM cI a v r) (nxF (r 2) (r 3) x (N - k0) k0) := by
  refine KI.of (cc := cX5_nextAtom) (nL := 4) (ret := (some .int)) (by decide) rfl (Nat.le_of_ble_eq_true rfl) ?_
  intro pg9 en9 s m args below meth cd9 A ls C0 hP hD hS hl
  have hx := C0.1.1
  have hb := C0.1.2.1
  have hml := C0.1.2.2.1
  have hown : s.vm.findClass RX5 = some m.cls := C0.1.2.2.2.1
  have hts : ∀ w ∈ wsX5_nextAtom, w.before args s = true := C0.1.2.2.2.2
  have hK := C0.2.2.2.1
  have hin_X5 : ∀ w ∈ wsX50, w ∈ wsX5_nextAtom := fun w h => List.mem_cons_of_mem _ (List.mem_append_right _ h)
  have hf53 : (Cond.fieldLink RX5 53 "FormulaListsModel" "nodes" "I").before args s = true := hts _ (by decide +kernel)
  have hf17 : (Cond.fieldLink RX5 17 "FormulaListsModel" "listOf" "[I").before args s = true := hts _ (by decide +kernel)
  have hf20 : (Cond.fieldLink RX5 20 "FormulaListsModel" "what" "[I").before args s = true := hts _ (by decide +kernel)
  have hl : lv_has ls 4 [(0, .ref (a 0)), (1, .int x), (2, .int y)] := hl
  have hP : va_P D vwCl (wM cI a v r) s.heap := hP
  refine lv_iload_n hx hb dX5_nextAtom_0 rfl (lv_at hl 2 rfl) ?_
  refine lv_iconst (v := 1) hx hb dX5_nextAtom_1 (by decide) ?_
  refine lv_iadd hx hb dX5_nextAtom_2 ?_
  refine lv_eqi hk ?_
  refine lv_istore_n (lv' := [(3, .int (nI k0)), (0, .ref (a 0)), (1, .int x), (2, .int y)]) hx hb dX5_nextAtom_3 rfl hl (by decide) rfl (fun ls hl => ?_)
  refine lpW (nL := 4) (A := A) (D := D) (fun z : Nat => (wM cI a v r)) (fun z : Nat => [(3, .int (nI z)), (0, .ref (a 0)), (1, .int x), (2, .int y)]) (fun z : Nat => z ≤ N ∧ nxF (r 2) (r 3) x (N - k0) k0 = nxF (r 2) (r 3) x (N - z) z) (fun z : Nat => N - z) k0 hP hD hS (lv_sub hl [0, 1, 2, 3] rfl) ⟨hk0, rfl⟩ ?_
  intro k H locs ls hP hD hS hl hf ih
  have hP : va_P D vwCl (wM cI a v r) H := hP
  have hD : va_D A (wM cI a v r) := hD
  have hl : lv_has ls 4 [(3, .int (nI k)), (0, .ref (a 0)), (1, .int x), (2, .int y)] := hl
  have hf : k ≤ N ∧ nxF (r 2) (r 3) x (N - k0) k0 = nxF (r 2) (r 3) x (N - k) k := hf
  obtain ⟨hk1, hw⟩ := hf
  refine lv_iload_n hx hb dX5_nextAtom_4 rfl (lv_at hl 0 rfl) ?_
  refine lv_aload_n hx hb dX5_nextAtom_5 rfl (lv_at hl 1 rfl) ?_
  refine va_get (D := D) (ci := 5) (v := .int (v 4)) (C := RX5) (T := TX5) (N := 25) hx hb hts hin_X5 hown hK hP 0 rfl rfl 4 (by decide) hf53 (fun _ h9 => h9) rfl dX5_nextAtom_6 ?_
  refine lv_eqi hN ?_
  refine lv_icmp_ge (tgt := 38) hx hb dX5_nextAtom_9 (by decide) (fun c_9 => ?_) (fun c_9 => ?_)
  · skip
    refine lv_iload_n hx hb dX5_nextAtom_38 rfl (lv_at hl 0 rfl) ?_
    refine lv_aload_n hx hb dX5_nextAtom_39 rfl (lv_at hl 1 rfl) ?_
    refine va_get (D := D) (ci := 5) (v := .int (v 4)) (C := RX5) (T := TX5) (N := 25) hx hb hts hin_X5 hown hK hP 0 rfl rfl 4 (by decide) hf53 (fun _ h9 => h9) rfl dX5_nextAtom_40 ?_
    refine lv_eqi hN ?_
    obtain ⟨x_1, ex_1⟩ : ∃ zz_ : Int32, zz_ = (if (nI N) ≤ (nI k) then (-1 : Int32) else (nI k)) := ⟨_, rfl⟩
    refine jW (D := D) hD hl 51 (wM cI a v r) [(3, .int (nI k)), (0, .ref (a 0)), (1, .int x), (2, .int y)] [.int x_1] (fun hJ => ?_) (fun H locs ls hP hD hS hl => ?_)
    · skip
      refine lv_icmp_ge (tgt := 50) hx hb dX5_nextAtom_43 (by decide) (fun c_43 => ?_) (fun c_43 => ?_)
      · skip
        refine lv_iconst (v := (-1)) hx hb dX5_nextAtom_50 (by decide) ?_
        have gx_1 : x_1 = (-1) := by rw [ex_1]; simp only [if_pos c_43]
        simp only [gx_1] at hJ
        exact hJ _ _ _ hP hD hS (lv_sub hl [0, 1, 2, 3] rfl)
      · skip
        refine lv_iload_n hx hb dX5_nextAtom_46 rfl (lv_at hl 0 rfl) ?_
        refine lv_goto (tgt := 51) hx hb dX5_nextAtom_47 (by decide) ?_
        have gx_1 : x_1 = (nI k) := by rw [ex_1]; simp only [if_neg c_43]
        simp only [gx_1] at hJ
        exact hJ _ _ _ hP hD hS (lv_sub hl [0, 1, 2, 3] rfl)
    · skip
      exact k_iret C0 () hP hD hS (pf_X5_nextAtom_0 a v r x y N k0 hN hN1 hk hk0 k hk1 hw c_9 x_1 ex_1) dX5_nextAtom_51
  · skip
    have hlt : k < N := Nat.not_le.mp (fun q => c_9 (nI_le q (by omega)))
    refine lv_aload_n hx hb dX5_nextAtom_12 rfl (lv_at hl 1 rfl) ?_
    refine va_get (D := D) (ci := 5) (v := .ref (a 2)) (C := RX5) (T := TX5) (N := 25) hx hb hts hin_X5 hown hK hP 0 rfl rfl 5 (by decide) hf17 (fun _ h9 => h9) rfl dX5_nextAtom_13 ?_
    refine lv_iload_n hx hb dX5_nextAtom_16 rfl (lv_at hl 0 rfl) ?_
    refine ra_ld (f := (r 2)) C0 hP 2 rfl k rfl (by omega) (by decide) dX5_nextAtom_17 ?_
    refine lv_iload_n hx hb dX5_nextAtom_18 rfl (lv_at hl 2 rfl) ?_
    refine lv_icmp_ne (tgt := 32) hx hb dX5_nextAtom_19 (by decide) (fun c_19 => ?_) (fun c_19 => ?_)
    · skip
      refine lv_iinc (v := (nI (k + 1))) (lv' := [(3, .int (nI (k + 1))), (0, .ref (a 0)), (1, .int x), (2, .int y)]) hx hb dX5_nextAtom_32 hl (k := 0) rfl (k_inc k) (by decide) rfl (fun ls hl => ?_)
      refine lv_goto (tgt := 4) hx hb dX5_nextAtom_35 (by decide) ?_
      exact ih (k + 1) _ _ _ hP hD hS (lv_sub hl [0, 1, 2, 3] rfl) ⟨hlt, (by rw [hw]; exact nx_no hlt (fun q => c_19 q.1))⟩ (by omega)
    · skip
      refine lv_aload_n hx hb dX5_nextAtom_22 rfl (lv_at hl 1 rfl) ?_
      refine va_get (D := D) (ci := 5) (v := .ref (a 3)) (C := RX5) (T := TX5) (N := 25) hx hb hts hin_X5 hown hK hP 0 rfl rfl 6 (by decide) hf20 (fun _ h9 => h9) rfl dX5_nextAtom_23 ?_
      refine lv_iload_n hx hb dX5_nextAtom_26 rfl (lv_at hl 0 rfl) ?_
      refine ra_ld (f := (r 3)) C0 hP 3 rfl k rfl (by omega) (by decide) dX5_nextAtom_27 ?_
      refine lv_iconst (v := 4) hx hb dX5_nextAtom_28 (by decide) ?_
      refine lv_icmp_ne (tgt := 38) hx hb dX5_nextAtom_29 (by decide) (fun c_29 => ?_) (fun c_29 => ?_)
      · skip
        refine lv_iload_n hx hb dX5_nextAtom_38 rfl (lv_at hl 0 rfl) ?_
        refine lv_aload_n hx hb dX5_nextAtom_39 rfl (lv_at hl 1 rfl) ?_
        refine va_get (D := D) (ci := 5) (v := .int (v 4)) (C := RX5) (T := TX5) (N := 25) hx hb hts hin_X5 hown hK hP 0 rfl rfl 4 (by decide) hf53 (fun _ h9 => h9) rfl dX5_nextAtom_40 ?_
        refine lv_eqi hN ?_
        obtain ⟨x_2, ex_2⟩ : ∃ zz_ : Int32, zz_ = (if (nI N) ≤ (nI k) then (-1 : Int32) else (nI k)) := ⟨_, rfl⟩
        refine jW (D := D) hD hl 51 (wM cI a v r) [(3, .int (nI k)), (0, .ref (a 0)), (1, .int x), (2, .int y)] [.int x_2] (fun hJ => ?_) (fun H locs ls hP hD hS hl => ?_)
        · skip
          refine lv_icmp_ge (tgt := 50) hx hb dX5_nextAtom_43 (by decide) (fun c_43 => ?_) (fun c_43 => ?_)
          · skip
            refine lv_iconst (v := (-1)) hx hb dX5_nextAtom_50 (by decide) ?_
            have gx_2 : x_2 = (-1) := by rw [ex_2]; simp only [if_pos c_43]
            simp only [gx_2] at hJ
            exact hJ _ _ _ hP hD hS (lv_sub hl [0, 1, 2, 3] rfl)
          · skip
            refine lv_iload_n hx hb dX5_nextAtom_46 rfl (lv_at hl 0 rfl) ?_
            refine lv_goto (tgt := 51) hx hb dX5_nextAtom_47 (by decide) ?_
            have gx_2 : x_2 = (nI k) := by rw [ex_2]; simp only [if_neg c_43]
            simp only [gx_2] at hJ
            exact hJ _ _ _ hP hD hS (lv_sub hl [0, 1, 2, 3] rfl)
        · skip
          exact k_iret C0 () hP hD hS (pf_X5_nextAtom_1 a v r x y N k0 hN hN1 hk hk0 k hk1 hw c_9 c_19 c_29 x_2 ex_2) dX5_nextAtom_51
      · skip
        refine lv_iinc (v := (nI (k + 1))) (lv' := [(3, .int (nI (k + 1))), (0, .ref (a 0)), (1, .int x), (2, .int y)]) hx hb dX5_nextAtom_32 hl (k := 0) rfl (k_inc k) (by decide) rfl (fun ls hl => ?_)
        refine lv_goto (tgt := 4) hx hb dX5_nextAtom_35 (by decide) ?_
        exact ih (k + 1) _ _ _ hP hD hS (lv_sub hl [0, 1, 2, 3] rfl) ⟨hlt, (by rw [hw]; exact nx_no hlt (fun q => q.2 c_29))⟩ (by omega)
