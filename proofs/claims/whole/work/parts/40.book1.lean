set_option maxHeartbeats 1500000 in
theorem pf_X0_hasList_0 (a : Nat → Nat) (v : Nat → Int32) (r : Nat → Nat → Int32) (x : Int32)  (x_1 : Int32) (ex_1 : x_1 = (if x < 0 then (0 : Int32) else (if (v 1) ≤ x then (0 : Int32) else (1 : Int32)))) : x_1 = bI (0 ≤ x ∧ x < v 1) := by
  subst_vars <;> simp only [bI] <;> (repeat' split) <;> first | (with_reducible rfl) | (simp_all; done) | (simp only [i_lt, i_le, i_eq, tI0, tI1, tI2, tI3, tI4, tI5, tI6, tI7, tI8, tI9, tI10, tI11, tI12, tI13, tI14, tI15, tI16, tI30, tI120, tI255, tI256, tI1000, tIm1] at * <;> omega)
set_option maxHeartbeats 1500000 in
theorem pf_X0_hasList_1 (a : Nat → Nat) (v : Nat → Int32) (r : Nat → Nat → Int32) (x : Int32)  (x_1 : Int32) (ex_1 : x_1 = (if x < 0 then (0 : Int32) else (if (v 1) ≤ x then (0 : Int32) else (1 : Int32)))) : narrow .boolean (.int x_1) = .int x_1 := by
  subst_vars; (repeat' split) <;> rfl
set_option maxHeartbeats 1500000 in
set_option maxRecDepth 100000 in
theorem c_X0_hasList (l : Launch) (D : va_G) (cI : ClassId) (a : Nat → Nat) (v : Nat → Int32) (r : Nat → Nat → Int32) (x : Int32) : KD l D cI yX0_hasList wsX0_hasList ({ frames := 0, cells := 0, slots := 0, locals := 0 }) [.ref (a 1), .int x] (wX cI a v r) (wX cI a v r) (bI (0 ≤ x ∧ x < v 1)) := by
  refine KI.of (cc := cX0_hasList) (nL := 2) (ret := (some .boolean)) (by decide) rfl (Nat.le_of_ble_eq_true rfl) ?_
  intro pg9 en9 s m args below meth cd9 A ls C0 hP hD hS hl
  have hx := C0.1.1
  have hb := C0.1.2.1
  have hml := C0.1.2.2.1
  have hown : s.vm.findClass RX0 = some m.cls := C0.1.2.2.2.1
  have hts : ∀ w ∈ wsX0_hasList, w.before args s = true := C0.1.2.2.2.2
  have hK := C0.2.2.2.1
  have hin_X0 : ∀ w ∈ wsX00, w ∈ wsX0_hasList := fun w h => List.mem_cons_of_mem _ (List.mem_append_right _ h)
  have hf15 : (Cond.fieldLink RX0 15 "FormulaLists$Book" "lists" "I").before args s = true := hts _ (by decide +kernel)
  have hl : lv_has ls 2 [(0, .ref (a 1)), (1, .int x)] := hl
  have hP : va_P D vwCl (wX cI a v r) s.heap := hP
  refine lv_iload_n hx hb dX0_hasList_0 rfl (lv_at hl 1 rfl) ?_
  obtain ⟨x_1, ex_1⟩ : ∃ zz_ : Int32, zz_ = (if x < 0 then (0 : Int32) else (if (v 1) ≤ x then (0 : Int32) else (1 : Int32))) := ⟨_, rfl⟩
  refine jW (D := D) hD hl 17 (wX cI a v r) [(0, .ref (a 1)), (1, .int x)] [.int x_1] (fun hJ => ?_) (fun H locs ls hP hD hS hl => ?_)
  · skip
    refine lv_if_lt (tgt := 16) hx hb dX0_hasList_1 (by decide) (fun c_1 => ?_) (fun c_1 => ?_)
    · skip
      refine lv_iconst (v := 0) hx hb dX0_hasList_16 (by decide) ?_
      have gx_1 : x_1 = 0 := by rw [ex_1]; simp only [if_pos c_1]
      simp only [gx_1] at hJ
      exact hJ _ _ _ hP hD hS (lv_sub hl [0, 1] rfl)
    · skip
      refine lv_iload_n hx hb dX0_hasList_4 rfl (lv_at hl 1 rfl) ?_
      refine lv_aload_n hx hb dX0_hasList_5 rfl (lv_at hl 0 rfl) ?_
      refine va_get (D := D) (ci := 0) (v := .int (v 1)) (C := RX0) (T := TX0) (N := 14) hx hb hts hin_X0 hown hK hP 1 rfl rfl 1 (by decide) hf15 (fun _ h9 => h9) rfl dX0_hasList_6 ?_
      refine lv_icmp_ge (tgt := 16) hx hb dX0_hasList_9 (by decide) (fun c_9 => ?_) (fun c_9 => ?_)
      · skip
        refine lv_iconst (v := 0) hx hb dX0_hasList_16 (by decide) ?_
        have gx_1 : x_1 = 0 := by rw [ex_1]; simp only [if_neg c_1, if_pos c_9]
        simp only [gx_1] at hJ
        exact hJ _ _ _ hP hD hS (lv_sub hl [0, 1] rfl)
      · skip
        refine lv_iconst (v := 1) hx hb dX0_hasList_12 (by decide) ?_
        refine lv_goto (tgt := 17) hx hb dX0_hasList_13 (by decide) ?_
        have gx_1 : x_1 = 1 := by rw [ex_1]; simp only [if_neg c_1, if_neg c_9]
        simp only [gx_1] at hJ
        exact hJ _ _ _ hP hD hS (lv_sub hl [0, 1] rfl)
  · skip
    exact k_zret C0 () hP hD hS (pf_X0_hasList_1 a v r x x_1 ex_1) (pf_X0_hasList_0 a v r x x_1 ex_1) dX0_hasList_17

set_option maxHeartbeats 1500000 in
theorem pf_X0_hasAtom_0 (a : Nat → Nat) (v : Nat → Int32) (r : Nat → Nat → Int32) (x : Int32) (N : Nat) (hN : v 0 = nI N) (hN1 : N ≤ 120) (x_1 : Int32) (ex_1 : x_1 = (if x < 0 then (0 : Int32) else (if (nI N) ≤ x then (0 : Int32) else (if ((r 3) x.toNatClampNeg) = 4 then (0 : Int32) else (1 : Int32))))) : x_1 = bI (0 ≤ x ∧ x < nI N ∧ ¬ r 3 x.toNatClampNeg = 4) := by
  subst_vars <;> simp only [bI] <;> (repeat' split) <;> first | (with_reducible rfl) | (simp_all; done) | (simp only [i_lt, i_le, i_eq, tI0, tI1, tI2, tI3, tI4, tI5, tI6, tI7, tI8, tI9, tI10, tI11, tI12, tI13, tI14, tI15, tI16, tI30, tI120, tI255, tI256, tI1000, tIm1] at * <;> omega)
set_option maxHeartbeats 1500000 in
theorem pf_X0_hasAtom_1 (a : Nat → Nat) (v : Nat → Int32) (r : Nat → Nat → Int32) (x : Int32) (N : Nat) (hN : v 0 = nI N) (hN1 : N ≤ 120) (x_1 : Int32) (ex_1 : x_1 = (if x < 0 then (0 : Int32) else (if (nI N) ≤ x then (0 : Int32) else (if ((r 3) x.toNatClampNeg) = 4 then (0 : Int32) else (1 : Int32))))) : narrow .boolean (.int x_1) = .int x_1 := by
  subst_vars; (repeat' split) <;> rfl
set_option maxHeartbeats 1500000 in
set_option maxRecDepth 100000 in
theorem c_X0_hasAtom (l : Launch) (D : va_G) (cI : ClassId) (a : Nat → Nat) (v : Nat → Int32) (r : Nat → Nat → Int32) (x : Int32) (N : Nat) (hN : v 0 = nI N) (hN1 : N ≤ 120) : KD l D cI yX0_hasAtom wsX0_hasAtom ({ frames := 0, cells := 0, slots := 0, locals := 0 }) [.ref (a 1), .int x] (wX cI a v r) (wX cI a v r) (bI (0 ≤ x ∧ x < nI N ∧ ¬ r 3 x.toNatClampNeg = 4)) := by
  refine KI.of (cc := cX0_hasAtom) (nL := 2) (ret := (some .boolean)) (by decide) rfl (Nat.le_of_ble_eq_true rfl) ?_
  intro pg9 en9 s m args below meth cd9 A ls C0 hP hD hS hl
  have hx := C0.1.1
  have hb := C0.1.2.1
  have hml := C0.1.2.2.1
  have hown : s.vm.findClass RX0 = some m.cls := C0.1.2.2.2.1
  have hts : ∀ w ∈ wsX0_hasAtom, w.before args s = true := C0.1.2.2.2.2
  have hK := C0.2.2.2.1
  have hin_X0 : ∀ w ∈ wsX00, w ∈ wsX0_hasAtom := fun w h => List.mem_cons_of_mem _ (List.mem_append_right _ h)
  have hf9 : (Cond.fieldLink RX0 9 "FormulaLists$Book" "nodes" "I").before args s = true := hts _ (by decide +kernel)
  have hf25 : (Cond.fieldLink RX0 25 "FormulaLists$Book" "form" "[I").before args s = true := hts _ (by decide +kernel)
  have hl : lv_has ls 2 [(0, .ref (a 1)), (1, .int x)] := hl
  have hP : va_P D vwCl (wX cI a v r) s.heap := hP
  refine lv_iload_n hx hb dX0_hasAtom_0 rfl (lv_at hl 1 rfl) ?_
  obtain ⟨x_1, ex_1⟩ : ∃ zz_ : Int32, zz_ = (if x < 0 then (0 : Int32) else (if (nI N) ≤ x then (0 : Int32) else (if ((r 3) x.toNatClampNeg) = 4 then (0 : Int32) else (1 : Int32)))) := ⟨_, rfl⟩
  refine jW (D := D) hD hl 27 (wX cI a v r) [(0, .ref (a 1)), (1, .int x)] [.int x_1] (fun hJ => ?_) (fun H locs ls hP hD hS hl => ?_)
  · skip
    refine lv_if_lt (tgt := 26) hx hb dX0_hasAtom_1 (by decide) (fun c_1 => ?_) (fun c_1 => ?_)
    · skip
      refine lv_iconst (v := 0) hx hb dX0_hasAtom_26 (by decide) ?_
      have gx_1 : x_1 = 0 := by rw [ex_1]; simp only [if_pos c_1]
      simp only [gx_1] at hJ
      exact hJ _ _ _ hP hD hS (lv_sub hl [0, 1] rfl)
    · skip
      refine lv_iload_n hx hb dX0_hasAtom_4 rfl (lv_at hl 1 rfl) ?_
      refine lv_aload_n hx hb dX0_hasAtom_5 rfl (lv_at hl 0 rfl) ?_
      refine va_get (D := D) (ci := 0) (v := .int (v 0)) (C := RX0) (T := TX0) (N := 14) hx hb hts hin_X0 hown hK hP 1 rfl rfl 0 (by decide) hf9 (fun _ h9 => h9) rfl dX0_hasAtom_6 ?_
      refine lv_eqi hN ?_
      refine lv_icmp_ge (tgt := 26) hx hb dX0_hasAtom_9 (by decide) (fun c_9 => ?_) (fun c_9 => ?_)
      · skip
        refine lv_iconst (v := 0) hx hb dX0_hasAtom_26 (by decide) ?_
        have gx_1 : x_1 = 0 := by rw [ex_1]; simp only [if_neg c_1, if_pos c_9]
        simp only [gx_1] at hJ
        exact hJ _ _ _ hP hD hS (lv_sub hl [0, 1] rfl)
      · skip
        refine lv_aload_n hx hb dX0_hasAtom_12 rfl (lv_at hl 0 rfl) ?_
        refine va_get (D := D) (ci := 0) (v := .ref (a 3)) (C := RX0) (T := TX0) (N := 14) hx hb hts hin_X0 hown hK hP 1 rfl rfl 4 (by decide) hf25 (fun _ h9 => h9) rfl dX0_hasAtom_13 ?_
        refine lv_iload_n hx hb dX0_hasAtom_16 rfl (lv_at hl 1 rfl) ?_
        refine ra_ld (f := (r 3)) C0 hP 3 rfl x.toNatClampNeg (ix_of c_1 (Int32.not_le.mp c_9) rfl hN1 (by decide)).1 (ix_of c_1 (Int32.not_le.mp c_9) rfl hN1 (by decide)).2 (by decide) dX0_hasAtom_17 ?_
        refine lv_iconst (v := 4) hx hb dX0_hasAtom_18 (by decide) ?_
        refine lv_icmp_eq (tgt := 26) hx hb dX0_hasAtom_19 (by decide) (fun c_19 => ?_) (fun c_19 => ?_)
        · skip
          refine lv_iconst (v := 0) hx hb dX0_hasAtom_26 (by decide) ?_
          have gx_1 : x_1 = 0 := by rw [ex_1]; simp only [if_neg c_1, if_neg c_9, if_pos c_19]
          simp only [gx_1] at hJ
          exact hJ _ _ _ hP hD hS (lv_sub hl [0, 1] rfl)
        · skip
          refine lv_iconst (v := 1) hx hb dX0_hasAtom_22 (by decide) ?_
          refine lv_goto (tgt := 27) hx hb dX0_hasAtom_23 (by decide) ?_
          have gx_1 : x_1 = 1 := by rw [ex_1]; simp only [if_neg c_1, if_neg c_9, if_neg c_19]
          simp only [gx_1] at hJ
          exact hJ _ _ _ hP hD hS (lv_sub hl [0, 1] rfl)
  · skip
    exact k_zret C0 () hP hD hS (pf_X0_hasAtom_1 a v r x N hN hN1 x_1 ex_1) (pf_X0_hasAtom_0 a v r x N hN hN1 x_1 ex_1) dX0_hasAtom_27

set_option maxHeartbeats 1500000 in
theorem pf_X0_isFree_0 (a : Nat → Nat) (v : Nat → Int32) (r : Nat → Nat → Int32) (k : Nat) (hk : k < 30) (x_1 : Int32) (ex_1 : x_1 = (if (nI k) = 0 then (0 : Int32) else (if ((r 10) k) = (-1) then (1 : Int32) else (0 : Int32)))) : x_1 = bI (¬ nI k = 0 ∧ r 10 k = -1) := by
  subst_vars <;> simp only [bI] <;> (repeat' split) <;> first | (with_reducible rfl) | (simp_all; done) | (simp only [i_lt, i_le, i_eq, tI0, tI1, tI2, tI3, tI4, tI5, tI6, tI7, tI8, tI9, tI10, tI11, tI12, tI13, tI14, tI15, tI16, tI30, tI120, tI255, tI256, tI1000, tIm1] at * <;> omega)
set_option maxHeartbeats 1500000 in
theorem pf_X0_isFree_1 (a : Nat → Nat) (v : Nat → Int32) (r : Nat → Nat → Int32) (k : Nat) (hk : k < 30) (x_1 : Int32) (ex_1 : x_1 = (if (nI k) = 0 then (0 : Int32) else (if ((r 10) k) = (-1) then (1 : Int32) else (0 : Int32)))) : narrow .boolean (.int x_1) = .int x_1 := by
  subst_vars; (repeat' split) <;> rfl
set_option maxHeartbeats 1500000 in
set_option maxRecDepth 100000 in
theorem c_X0_isFree (l : Launch) (D : va_G) (cI : ClassId) (a : Nat → Nat) (v : Nat → Int32) (r : Nat → Nat → Int32) (k : Nat) (hk : k < 30) : KD l D cI yX0_isFree wsX0_isFree ({ frames := 0, cells := 0, slots := 0, locals := 0 }) [.ref (a 1), .int (nI k)] (wX cI a v r) (wX cI a v r) (bI (¬ nI k = 0 ∧ r 10 k = -1)) := by
  refine KI.of (cc := cX0_isFree) (nL := 2) (ret := (some .boolean)) (by decide) rfl (Nat.le_of_ble_eq_true rfl) ?_
  intro pg9 en9 s m args below meth cd9 A ls C0 hP hD hS hl
  have hx := C0.1.1
  have hb := C0.1.2.1
  have hml := C0.1.2.2.1
  have hown : s.vm.findClass RX0 = some m.cls := C0.1.2.2.2.1
  have hts : ∀ w ∈ wsX0_isFree, w.before args s = true := C0.1.2.2.2.2
  have hK := C0.2.2.2.1
  have hin_X0 : ∀ w ∈ wsX00, w ∈ wsX0_isFree := fun w h => List.mem_cons_of_mem _ (List.mem_append_right _ h)
  have hf46 : (Cond.fieldLink RX0 46 "FormulaLists$Book" "holder" "[I").before args s = true := hts _ (by decide +kernel)
  have hl : lv_has ls 2 [(0, .ref (a 1)), (1, .int (nI k))] := hl
  have hP : va_P D vwCl (wX cI a v r) s.heap := hP
  refine lv_iload_n hx hb dX0_isFree_0 rfl (lv_at hl 1 rfl) ?_
  obtain ⟨x_1, ex_1⟩ : ∃ zz_ : Int32, zz_ = (if (nI k) = 0 then (0 : Int32) else (if ((r 10) k) = (-1) then (1 : Int32) else (0 : Int32))) := ⟨_, rfl⟩
  refine jW (D := D) hD hl 19 (wX cI a v r) [(0, .ref (a 1)), (1, .int (nI k))] [.int x_1] (fun hJ => ?_) (fun H locs ls hP hD hS hl => ?_)
  · skip
    refine lv_if_eq (tgt := 18) hx hb dX0_isFree_1 (by decide) (fun c_1 => ?_) (fun c_1 => ?_)
    · skip
      refine lv_iconst (v := 0) hx hb dX0_isFree_18 (by decide) ?_
      have gx_1 : x_1 = 0 := by rw [ex_1]; simp only [if_pos c_1]
      simp only [gx_1] at hJ
      exact hJ _ _ _ hP hD hS (lv_sub hl [0, 1] rfl)
    · skip
      refine lv_aload_n hx hb dX0_isFree_4 rfl (lv_at hl 0 rfl) ?_
      refine va_get (D := D) (ci := 0) (v := .ref (a 10)) (C := RX0) (T := TX0) (N := 14) hx hb hts hin_X0 hown hK hP 1 rfl rfl 11 (by decide) hf46 (fun _ h9 => h9) rfl dX0_isFree_5 ?_
      refine lv_iload_n hx hb dX0_isFree_8 rfl (lv_at hl 1 rfl) ?_
      refine ra_ld (f := (r 10)) C0 hP 10 rfl k rfl (by omega) (by decide) dX0_isFree_9 ?_
      refine lv_iconst (v := (-1)) hx hb dX0_isFree_10 (by decide) ?_
      refine lv_icmp_ne (tgt := 18) hx hb dX0_isFree_11 (by decide) (fun c_11 => ?_) (fun c_11 => ?_)
      · skip
        refine lv_iconst (v := 0) hx hb dX0_isFree_18 (by decide) ?_
        have gx_1 : x_1 = 0 := by rw [ex_1]; simp only [if_neg c_1, if_neg c_11]
        simp only [gx_1] at hJ
        exact hJ _ _ _ hP hD hS (lv_sub hl [0, 1] rfl)
      · skip
        refine lv_iconst (v := 1) hx hb dX0_isFree_14 (by decide) ?_
        refine lv_goto (tgt := 19) hx hb dX0_isFree_15 (by decide) ?_
        have gx_1 : x_1 = 1 := by rw [ex_1]; simp only [if_neg c_1, if_pos c_11]
        simp only [gx_1] at hJ
        exact hJ _ _ _ hP hD hS (lv_sub hl [0, 1] rfl)
  · skip
    exact k_zret C0 () hP hD hS (pf_X0_isFree_1 a v r k hk x_1 ex_1) (pf_X0_isFree_0 a v r k hk x_1 ex_1) dX0_isFree_19

set_option maxHeartbeats 1500000 in
set_option maxRecDepth 100000 in
theorem c_X0_wouldRing (l : Launch) (D : va_G) (cI : ClassId) (a : Nat → Nat) (v : Nat → Int32) (r : Nat → Nat → Int32) (k : Nat) (o : Int32) (dp : Nat → Nat) (hk : k < 30) (hd : dp k ≤ 29) (hdp : ∀ j, j < 30 → r 10 j = -1 ∨ ∃ n i, r 10 j = nI n ∧ n < 120 ∧ r 2 n = nI i ∧ i < 30 ∧ dp i < dp j) : KD l D cI yX0_wouldRing wsX0_wouldRing ({ frames := 0, cells := 0, slots := 0, locals := 0 }) [.ref (a 1), .int o, .int (nI k)] (wX cI a v r) (wX cI a v r) (bI (wiF (r 10) (r 2) o 30 (nI k) = true)) := by
  refine KI.of (cc := cX0_wouldRing) (nL := 6) (ret := (some .boolean)) (by decide) rfl (Nat.le_of_ble_eq_true rfl) ?_
  intro pg9 en9 s m args below meth cd9 A ls C0 hP hD hS hl
  have hx := C0.1.1
  have hb := C0.1.2.1
  have hml := C0.1.2.2.1
  have hown : s.vm.findClass RX0 = some m.cls := C0.1.2.2.2.1
  have hts : ∀ w ∈ wsX0_wouldRing, w.before args s = true := C0.1.2.2.2.2
  have hK := C0.2.2.2.1
  have hin_X0 : ∀ w ∈ wsX00, w ∈ wsX0_wouldRing := fun w h => List.mem_cons_of_mem _ (List.mem_append_right _ h)
  have hf46 : (Cond.fieldLink RX0 46 "FormulaLists$Book" "holder" "[I").before args s = true := hts _ (by decide +kernel)
  have hf21 : (Cond.fieldLink RX0 21 "FormulaLists$Book" "home" "[I").before args s = true := hts _ (by decide +kernel)
  have hl : lv_has ls 6 [(0, .ref (a 1)), (1, .int o), (2, .int (nI k))] := hl
  have hP : va_P D vwCl (wX cI a v r) s.heap := hP
  refine lv_iload_n hx hb dX0_wouldRing_0 rfl (lv_at hl 2 rfl) ?_
  refine lv_istore_n (lv' := [(3, .int (nI k)), (0, .ref (a 1)), (1, .int o), (2, .int (nI k))]) hx hb dX0_wouldRing_1 rfl hl (by decide) rfl (fun ls hl => ?_)
  refine lv_iconst (v := 0) hx hb dX0_wouldRing_2 (by decide) ?_
  refine lv_istore (lv' := [(4, .int 0), (3, .int (nI k)), (0, .ref (a 1)), (1, .int o), (2, .int (nI k))]) hx hb dX0_wouldRing_3 hl (by decide) rfl (fun ls hl => ?_)
  refine lpW (nL := 6) (A := A) (D := D) (fun z : Nat × Nat => (wX cI a v r)) (fun z : Nat × Nat => [(4, .int (nI z.1)), (3, .int (nI z.2)), (0, .ref (a 1)), (1, .int o), (2, .int (nI k))]) (fun z : Nat × Nat => z.2 < 30 ∧ z.1 ≤ 29 ∧ dp z.2 + z.1 ≤ 29 ∧ wiF (r 10) (r 2) o 30 (nI k) = wiF (r 10) (r 2) o (30 - z.1) (nI z.2)) (fun z : Nat × Nat => dp z.2) (0, k) hP hD hS (lv_sub hl [0, 1, 2, 3, 4] rfl) ⟨hk, by omega, by omega, rfl⟩ ?_
  rintro ⟨t, j⟩ H locs ls hP hD hS hl hf ih
  have hP : va_P D vwCl (wX cI a v r) H := hP
  have hD : va_D A (wX cI a v r) := hD
  have hl : lv_has ls 6 [(4, .int (nI t)), (3, .int (nI j)), (0, .ref (a 1)), (1, .int o), (2, .int (nI k))] := hl
  have hf : j < 30 ∧ t ≤ 29 ∧ dp j + t ≤ 29 ∧ wiF (r 10) (r 2) o 30 (nI k) = wiF (r 10) (r 2) o (30 - t) (nI j) := hf
  obtain ⟨hj, ht, hdj, hw⟩ := hf
  refine lv_iload hx hb dX0_wouldRing_5 (lv_at hl 0 rfl) ?_
  refine lv_bipush (v := 30) hx hb dX0_wouldRing_7 (by decide) ?_
  refine lv_icmp_ge (tgt := 49) hx hb dX0_wouldRing_9 (by decide) (fun c_9 => absurd ((nI_leI (a := 30) (by omega) (by omega)).mp c_9) (by omega)) (fun c_9 => ?_)
  refine lv_iload_n hx hb dX0_wouldRing_12 rfl (lv_at hl 1 rfl) ?_
  refine lv_iload_n hx hb dX0_wouldRing_13 rfl (lv_at hl 3 rfl) ?_
  refine lv_icmp_ne (tgt := 19) hx hb dX0_wouldRing_14 (by decide) (fun c_14 => ?_) (fun c_14 => ?_)
  · skip
    refine lv_aload_n hx hb dX0_wouldRing_19 rfl (lv_at hl 2 rfl) ?_
    refine va_get (D := D) (ci := 0) (v := .ref (a 10)) (C := RX0) (T := TX0) (N := 14) hx hb hts hin_X0 hown hK hP 1 rfl rfl 11 (by decide) hf46 (fun _ h9 => h9) rfl dX0_wouldRing_20 ?_
    refine lv_iload_n hx hb dX0_wouldRing_23 rfl (lv_at hl 1 rfl) ?_
    refine ra_ld (f := (r 10)) C0 hP 10 rfl j rfl (by omega) (by decide) dX0_wouldRing_24 ?_
    refine lv_istore (lv' := [(5, .int ((r 10) j)), (4, .int (nI t)), (3, .int (nI j)), (0, .ref (a 1)), (1, .int o), (2, .int (nI k))]) hx hb dX0_wouldRing_25 hl (by decide) rfl (fun ls hl => ?_)
    refine lv_iload hx hb dX0_wouldRing_27 (lv_at hl 0 rfl) ?_
    refine lv_iconst (v := (-1)) hx hb dX0_wouldRing_29 (by decide) ?_
    refine lv_icmp_ne (tgt := 35) hx hb dX0_wouldRing_30 (by decide) (fun c_30 => ?_) (fun c_30 => ?_)
    · skip
      obtain ⟨n, i, e1, hn, e2, hi, hlt⟩ := (hdp j hj).resolve_left c_30
      refine lv_aload_n hx hb dX0_wouldRing_35 rfl (lv_at hl 3 rfl) ?_
      refine va_get (D := D) (ci := 0) (v := .ref (a 2)) (C := RX0) (T := TX0) (N := 14) hx hb hts hin_X0 hown hK hP 1 rfl rfl 3 (by decide) hf21 (fun _ h9 => h9) rfl dX0_wouldRing_36 ?_
      refine lv_iload hx hb dX0_wouldRing_39 (lv_at hl 0 rfl) ?_
      refine ra_ld (f := (r 2)) C0 hP 2 rfl n e1 hn (by decide) dX0_wouldRing_41 ?_
      refine lv_eqi e2 ?_
      refine lv_istore_n (lv' := [(3, .int (nI i)), (5, .int ((r 10) j)), (4, .int (nI t)), (0, .ref (a 1)), (1, .int o), (2, .int (nI k))]) hx hb dX0_wouldRing_42 rfl hl (by decide) rfl (fun ls hl => ?_)
      refine lv_iinc (v := (nI (t + 1))) (lv' := [(4, .int (nI (t + 1))), (3, .int (nI i)), (5, .int ((r 10) j)), (0, .ref (a 1)), (1, .int o), (2, .int (nI k))]) hx hb dX0_wouldRing_43 hl (k := 2) rfl (k_inc t) (by decide) rfl (fun ls hl => ?_)
      refine lv_goto (tgt := 5) hx hb dX0_wouldRing_46 (by decide) ?_
      exact ih ((t + 1), i) _ _ _ hP hD hS (lv_sub hl [0, 1, 3, 4, 5] rfl) ⟨hi, (show t + 1 ≤ 29 by omega), (show dp i + (t + 1) ≤ 29 by omega), (by rw [hw, show 30 - t = (30 - (t + 1)) + 1 by omega]; exact wiF_st _ (by omega) (by omega) c_14 c_30 e1 e2)⟩ hlt
    · skip
      refine lv_iconst (v := 0) hx hb dX0_wouldRing_33 (by decide) ?_
      exact k_zret C0 () hP hD hS rfl (by rw [hw, wiF_no _ (by omega) c_14 c_30]; rfl) dX0_wouldRing_34
  · skip
    refine lv_iconst (v := 1) hx hb dX0_wouldRing_17 (by decide) ?_
    exact k_zret C0 () hP hD hS rfl (by rw [hw, show nI j = o from c_14, wiF_eq]; rfl) dX0_wouldRing_18

set_option maxHeartbeats 1500000 in
set_option maxRecDepth 100000 in
theorem c_X0_beginList (l : Launch) (D : va_G) (cI : ClassId) (a : Nat → Nat) (v : Nat → Int32) (r : Nat → Nat → Int32) (L : Nat) (hL : v 1 = nI L) (hL1 : L < 30) : KD l D cI yX0_beginList wsX0_beginList ({ frames := 0, cells := 0, slots := 0, locals := 0 }) [.ref (a 1)] (wX cI a v r) (wX cI a (vU v 1 ((v 1) + 1)) (rU r 10 (upd (r 10) L (-1)))) (v 1) := by
  refine KI.of (cc := cX0_beginList) (nL := 2) (ret := (some .int)) (by decide) rfl (Nat.le_of_ble_eq_true rfl) ?_
  intro pg9 en9 s m args below meth cd9 A ls C0 hP hD hS hl
  have hx := C0.1.1
  have hb := C0.1.2.1
  have hml := C0.1.2.2.1
  have hown : s.vm.findClass RX0 = some m.cls := C0.1.2.2.2.1
  have hts : ∀ w ∈ wsX0_beginList, w.before args s = true := C0.1.2.2.2.2
  have hK := C0.2.2.2.1
  have hin_X0 : ∀ w ∈ wsX00, w ∈ wsX0_beginList := fun w h => List.mem_cons_of_mem _ (List.mem_append_right _ h)
  have hf15 : (Cond.fieldLink RX0 15 "FormulaLists$Book" "lists" "I").before args s = true := hts _ (by decide +kernel)
  have hf46 : (Cond.fieldLink RX0 46 "FormulaLists$Book" "holder" "[I").before args s = true := hts _ (by decide +kernel)
  have hl : lv_has ls 2 [(0, .ref (a 1))] := hl
  have hP : va_P D vwCl (wX cI a v r) s.heap := hP
  refine lv_aload_n hx hb dX0_beginList_0 rfl (lv_at hl 0 rfl) ?_
  refine va_get (D := D) (ci := 0) (v := .int (v 1)) (C := RX0) (T := TX0) (N := 14) hx hb hts hin_X0 hown hK hP 1 rfl rfl 1 (by decide) hf15 (fun _ h9 => h9) rfl dX0_beginList_1 ?_
  refine lv_istore_n (lv' := [(1, .int (v 1)), (0, .ref (a 1))]) hx hb dX0_beginList_4 rfl hl (by decide) rfl (fun ls hl => ?_)
  refine lv_aload_n hx hb dX0_beginList_5 rfl (lv_at hl 1 rfl) ?_
  refine va_get (D := D) (ci := 0) (v := .ref (a 10)) (C := RX0) (T := TX0) (N := 14) hx hb hts hin_X0 hown hK hP 1 rfl rfl 11 (by decide) hf46 (fun _ h9 => h9) rfl dX0_beginList_6 ?_
  refine lv_iload_n hx hb dX0_beginList_9 rfl (lv_at hl 0 rfl) ?_
  refine lv_iconst (v := (-1)) hx hb dX0_beginList_10 (by decide) ?_
  refine ra_st (f := (r 10)) C0 hP hD hS 10 rfl L hL hL1 (by decide) dX0_beginList_11 (fun H locs hP hD hS => ?_)
  have hset : ∀ (g_ : Nat → Int32), (wX cI a v r).set 10 (a 10, .inl (cI, 30, .inl g_)) = (wX cI a v (rU r 10 g_)) := fun _ => rfl
  rw [hset] at hP hD
  refine lv_aload_n hx hb dX0_beginList_12 rfl (lv_at hl 1 rfl) ?_
  refine lv_dup hx hb dX0_beginList_13 rfl ?_
  refine va_get (D := D) (ci := 0) (v := .int (v 1)) (C := RX0) (T := TX0) (N := 14) hx hb hts hin_X0 hown hK hP 1 rfl rfl 1 (by decide) hf15 (fun _ h9 => h9) rfl dX0_beginList_14 ?_
  refine lv_iconst (v := 1) hx hb dX0_beginList_17 (by decide) ?_
  refine lv_iadd hx hb dX0_beginList_18 ?_
  refine va_put (D := D) (ci := 0) (v := .int ((v 1) + 1)) (ty := .int) (C := RX0) (T := TX0) (N := 14) hx hb hts hin_X0 tyX0 tyX0_ok nmX0 hown hK hP hD hS 1 rfl rfl 1 (by decide) hf15 (fun _ h9 => h9) rfl (by decide +kernel) rfl rfl (Nat.le_of_ble_eq_true rfl) dX0_beginList_19 (fun H locs hP hD hS => ?_)
  have hP : va_P D vwCl (wX cI a (vU v 1 ((v 1) + 1)) (rU r 10 (upd (r 10) L (-1)))) H := hP
  have hD : va_D A (wX cI a (vU v 1 ((v 1) + 1)) (rU r 10 (upd (r 10) L (-1)))) := hD
  refine lv_iload_n hx hb dX0_beginList_22 rfl (lv_at hl 0 rfl) ?_
  exact k_iret C0 () hP hD hS rfl dX0_beginList_23

set_option maxHeartbeats 1500000 in
set_option maxRecDepth 100000 in
theorem c_X0_addNode (l : Launch) (D : va_G) (cI : ClassId) (a : Nat → Nat) (v : Nat → Int32) (r : Nat → Nat → Int32) (x0 x1 x2 x3 x4 : Int32) (N : Nat) (hN : v 0 = nI N) (hN1 : N < 120) : KD l D cI yX0_addNode wsX0_addNode ({ frames := 0, cells := 0, slots := 0, locals := 0 }) [.ref (a 1), .int x0, .int x1, .int x2, .int x3, .int x4] (wX cI a v r) (wX cI a (vU v 0 ((v 0) + 1)) (rU (rU (rU (rU (rU (rU (rU (rU r 2 (upd (r 2) N (v 2))) 3 (upd (r 3) N x0)) 4 (upd (r 4) N x1)) 5 (upd (r 5) N (-1))) 6 (upd (r 6) N (-1))) 7 (upd (r 7) N x2)) 8 (upd (r 8) N x3)) 9 (upd (r 9) N x4))) (v 0) := by
  refine KI.of (cc := cX0_addNode) (nL := 7) (ret := (some .int)) (by decide) rfl (Nat.le_of_ble_eq_true rfl) ?_
  intro pg9 en9 s m args below meth cd9 A ls C0 hP hD hS hl
  have hx := C0.1.1
  have hb := C0.1.2.1
  have hml := C0.1.2.2.1
  have hown : s.vm.findClass RX0 = some m.cls := C0.1.2.2.2.1
  have hts : ∀ w ∈ wsX0_addNode, w.before args s = true := C0.1.2.2.2.2
  have hK := C0.2.2.2.1
  have hin_X0 : ∀ w ∈ wsX00, w ∈ wsX0_addNode := fun w h => List.mem_cons_of_mem _ (List.mem_append_right _ h)
  have hf9 : (Cond.fieldLink RX0 9 "FormulaLists$Book" "nodes" "I").before args s = true := hts _ (by decide +kernel)
  have hf21 : (Cond.fieldLink RX0 21 "FormulaLists$Book" "home" "[I").before args s = true := hts _ (by decide +kernel)
  have hf18 : (Cond.fieldLink RX0 18 "FormulaLists$Book" "open" "I").before args s = true := hts _ (by decide +kernel)
  have hf25 : (Cond.fieldLink RX0 25 "FormulaLists$Book" "form" "[I").before args s = true := hts _ (by decide +kernel)
  have hf28 : (Cond.fieldLink RX0 28 "FormulaLists$Book" "ownKind" "[I").before args s = true := hts _ (by decide +kernel)
  have hf31 : (Cond.fieldLink RX0 31 "FormulaLists$Book" "upper" "[I").before args s = true := hts _ (by decide +kernel)
  have hf34 : (Cond.fieldLink RX0 34 "FormulaLists$Book" "lower" "[I").before args s = true := hts _ (by decide +kernel)
  have hf37 : (Cond.fieldLink RX0 37 "FormulaLists$Book" "first" "[I").before args s = true := hts _ (by decide +kernel)
  have hf40 : (Cond.fieldLink RX0 40 "FormulaLists$Book" "second" "[I").before args s = true := hts _ (by decide +kernel)
  have hf43 : (Cond.fieldLink RX0 43 "FormulaLists$Book" "third" "[I").before args s = true := hts _ (by decide +kernel)
  have hl : lv_has ls 7 [(0, .ref (a 1)), (1, .int x0), (2, .int x1), (3, .int x2), (4, .int x3), (5, .int x4)] := hl
  have hP : va_P D vwCl (wX cI a v r) s.heap := hP
  refine lv_aload_n hx hb dX0_addNode_0 rfl (lv_at hl 0 rfl) ?_
  refine va_get (D := D) (ci := 0) (v := .int (v 0)) (C := RX0) (T := TX0) (N := 14) hx hb hts hin_X0 hown hK hP 1 rfl rfl 0 (by decide) hf9 (fun _ h9 => h9) rfl dX0_addNode_1 ?_
  refine lv_istore (lv' := [(6, .int (v 0)), (0, .ref (a 1)), (1, .int x0), (2, .int x1), (3, .int x2), (4, .int x3), (5, .int x4)]) hx hb dX0_addNode_4 hl (by decide) rfl (fun ls hl => ?_)
  refine lv_aload_n hx hb dX0_addNode_6 rfl (lv_at hl 1 rfl) ?_
  refine va_get (D := D) (ci := 0) (v := .ref (a 2)) (C := RX0) (T := TX0) (N := 14) hx hb hts hin_X0 hown hK hP 1 rfl rfl 3 (by decide) hf21 (fun _ h9 => h9) rfl dX0_addNode_7 ?_
  refine lv_iload hx hb dX0_addNode_10 (lv_at hl 0 rfl) ?_
  refine lv_aload_n hx hb dX0_addNode_12 rfl (lv_at hl 1 rfl) ?_
  refine va_get (D := D) (ci := 0) (v := .int (v 2)) (C := RX0) (T := TX0) (N := 14) hx hb hts hin_X0 hown hK hP 1 rfl rfl 2 (by decide) hf18 (fun _ h9 => h9) rfl dX0_addNode_13 ?_
  refine ra_st (f := (r 2)) C0 hP hD hS 2 rfl N hN hN1 (by decide) dX0_addNode_16 (fun H locs hP hD hS => ?_)
  have hset : ∀ (g_ : Nat → Int32), (wX cI a v r).set 2 (a 2, .inl (cI, 120, .inl g_)) = (wX cI a v (rU r 2 g_)) := fun _ => rfl
  rw [hset] at hP hD
  refine lv_aload_n hx hb dX0_addNode_17 rfl (lv_at hl 1 rfl) ?_
  refine va_get (D := D) (ci := 0) (v := .ref (a 3)) (C := RX0) (T := TX0) (N := 14) hx hb hts hin_X0 hown hK hP 1 rfl rfl 4 (by decide) hf25 (fun _ h9 => h9) rfl dX0_addNode_18 ?_
  refine lv_iload hx hb dX0_addNode_21 (lv_at hl 0 rfl) ?_
  refine lv_iload_n hx hb dX0_addNode_23 rfl (lv_at hl 2 rfl) ?_
  refine ra_st (f := (r 3)) C0 hP hD hS 3 rfl N hN hN1 (by decide) dX0_addNode_24 (fun H locs hP hD hS => ?_)
  have hset : ∀ (f2_ : Nat → Int32) (g_ : Nat → Int32), (wX cI a v (rU r 2 f2_)).set 3 (a 3, .inl (cI, 120, .inl g_)) = (wX cI a v (rU (rU r 2 f2_) 3 g_)) := fun _ _ => rfl
  rw [hset] at hP hD
  refine lv_aload_n hx hb dX0_addNode_25 rfl (lv_at hl 1 rfl) ?_
  refine va_get (D := D) (ci := 0) (v := .ref (a 4)) (C := RX0) (T := TX0) (N := 14) hx hb hts hin_X0 hown hK hP 1 rfl rfl 5 (by decide) hf28 (fun _ h9 => h9) rfl dX0_addNode_26 ?_
  refine lv_iload hx hb dX0_addNode_29 (lv_at hl 0 rfl) ?_
  refine lv_iload_n hx hb dX0_addNode_31 rfl (lv_at hl 3 rfl) ?_
  refine ra_st (f := (r 4)) C0 hP hD hS 4 rfl N hN hN1 (by decide) dX0_addNode_32 (fun H locs hP hD hS => ?_)
  have hset : ∀ (f2_ f3_ : Nat → Int32) (g_ : Nat → Int32), (wX cI a v (rU (rU r 2 f2_) 3 f3_)).set 4 (a 4, .inl (cI, 120, .inl g_)) = (wX cI a v (rU (rU (rU r 2 f2_) 3 f3_) 4 g_)) := fun _ _ _ => rfl
  rw [hset] at hP hD
  refine lv_aload_n hx hb dX0_addNode_33 rfl (lv_at hl 1 rfl) ?_
  refine va_get (D := D) (ci := 0) (v := .ref (a 5)) (C := RX0) (T := TX0) (N := 14) hx hb hts hin_X0 hown hK hP 1 rfl rfl 6 (by decide) hf31 (fun _ h9 => h9) rfl dX0_addNode_34 ?_
  refine lv_iload hx hb dX0_addNode_37 (lv_at hl 0 rfl) ?_
  refine lv_iconst (v := (-1)) hx hb dX0_addNode_39 (by decide) ?_
  refine ra_st (f := (r 5)) C0 hP hD hS 5 rfl N hN hN1 (by decide) dX0_addNode_40 (fun H locs hP hD hS => ?_)
  have hset : ∀ (f2_ f3_ f4_ : Nat → Int32) (g_ : Nat → Int32), (wX cI a v (rU (rU (rU r 2 f2_) 3 f3_) 4 f4_)).set 5 (a 5, .inl (cI, 120, .inl g_)) = (wX cI a v (rU (rU (rU (rU r 2 f2_) 3 f3_) 4 f4_) 5 g_)) := fun _ _ _ _ => rfl
  rw [hset] at hP hD
  refine lv_aload_n hx hb dX0_addNode_41 rfl (lv_at hl 1 rfl) ?_
  refine va_get (D := D) (ci := 0) (v := .ref (a 6)) (C := RX0) (T := TX0) (N := 14) hx hb hts hin_X0 hown hK hP 1 rfl rfl 7 (by decide) hf34 (fun _ h9 => h9) rfl dX0_addNode_42 ?_
  refine lv_iload hx hb dX0_addNode_45 (lv_at hl 0 rfl) ?_
  refine lv_iconst (v := (-1)) hx hb dX0_addNode_47 (by decide) ?_
  refine ra_st (f := (r 6)) C0 hP hD hS 6 rfl N hN hN1 (by decide) dX0_addNode_48 (fun H locs hP hD hS => ?_)
  have hset : ∀ (f2_ f3_ f4_ f5_ : Nat → Int32) (g_ : Nat → Int32), (wX cI a v (rU (rU (rU (rU r 2 f2_) 3 f3_) 4 f4_) 5 f5_)).set 6 (a 6, .inl (cI, 120, .inl g_)) = (wX cI a v (rU (rU (rU (rU (rU r 2 f2_) 3 f3_) 4 f4_) 5 f5_) 6 g_)) := fun _ _ _ _ _ => rfl
  rw [hset] at hP hD
  refine lv_aload_n hx hb dX0_addNode_49 rfl (lv_at hl 1 rfl) ?_
  refine va_get (D := D) (ci := 0) (v := .ref (a 7)) (C := RX0) (T := TX0) (N := 14) hx hb hts hin_X0 hown hK hP 1 rfl rfl 8 (by decide) hf37 (fun _ h9 => h9) rfl dX0_addNode_50 ?_
  refine lv_iload hx hb dX0_addNode_53 (lv_at hl 0 rfl) ?_
  refine lv_iload_n hx hb dX0_addNode_55 rfl (lv_at hl 4 rfl) ?_
  refine ra_st (f := (r 7)) C0 hP hD hS 7 rfl N hN hN1 (by decide) dX0_addNode_56 (fun H locs hP hD hS => ?_)
  have hset : ∀ (f2_ f3_ f4_ f5_ f6_ : Nat → Int32) (g_ : Nat → Int32), (wX cI a v (rU (rU (rU (rU (rU r 2 f2_) 3 f3_) 4 f4_) 5 f5_) 6 f6_)).set 7 (a 7, .inl (cI, 120, .inl g_)) = (wX cI a v (rU (rU (rU (rU (rU (rU r 2 f2_) 3 f3_) 4 f4_) 5 f5_) 6 f6_) 7 g_)) := fun _ _ _ _ _ _ => rfl
  rw [hset] at hP hD
  refine lv_aload_n hx hb dX0_addNode_57 rfl (lv_at hl 1 rfl) ?_
  refine va_get (D := D) (ci := 0) (v := .ref (a 8)) (C := RX0) (T := TX0) (N := 14) hx hb hts hin_X0 hown hK hP 1 rfl rfl 9 (by decide) hf40 (fun _ h9 => h9) rfl dX0_addNode_58 ?_
  refine lv_iload hx hb dX0_addNode_61 (lv_at hl 0 rfl) ?_
  refine lv_iload hx hb dX0_addNode_63 (lv_at hl 5 rfl) ?_
  refine ra_st (f := (r 8)) C0 hP hD hS 8 rfl N hN hN1 (by decide) dX0_addNode_65 (fun H locs hP hD hS => ?_)
  have hset : ∀ (f2_ f3_ f4_ f5_ f6_ f7_ : Nat → Int32) (g_ : Nat → Int32), (wX cI a v (rU (rU (rU (rU (rU (rU r 2 f2_) 3 f3_) 4 f4_) 5 f5_) 6 f6_) 7 f7_)).set 8 (a 8, .inl (cI, 120, .inl g_)) = (wX cI a v (rU (rU (rU (rU (rU (rU (rU r 2 f2_) 3 f3_) 4 f4_) 5 f5_) 6 f6_) 7 f7_) 8 g_)) := fun _ _ _ _ _ _ _ => rfl
  rw [hset] at hP hD
  refine lv_aload_n hx hb dX0_addNode_66 rfl (lv_at hl 1 rfl) ?_
  refine va_get (D := D) (ci := 0) (v := .ref (a 9)) (C := RX0) (T := TX0) (N := 14) hx hb hts hin_X0 hown hK hP 1 rfl rfl 10 (by decide) hf43 (fun _ h9 => h9) rfl dX0_addNode_67 ?_
  refine lv_iload hx hb dX0_addNode_70 (lv_at hl 0 rfl) ?_
  refine lv_iload hx hb dX0_addNode_72 (lv_at hl 6 rfl) ?_
  refine ra_st (f := (r 9)) C0 hP hD hS 9 rfl N hN hN1 (by decide) dX0_addNode_74 (fun H locs hP hD hS => ?_)
  have hset : ∀ (f2_ f3_ f4_ f5_ f6_ f7_ f8_ : Nat → Int32) (g_ : Nat → Int32), (wX cI a v (rU (rU (rU (rU (rU (rU (rU r 2 f2_) 3 f3_) 4 f4_) 5 f5_) 6 f6_) 7 f7_) 8 f8_)).set 9 (a 9, .inl (cI, 120, .inl g_)) = (wX cI a v (rU (rU (rU (rU (rU (rU (rU (rU r 2 f2_) 3 f3_) 4 f4_) 5 f5_) 6 f6_) 7 f7_) 8 f8_) 9 g_)) := fun _ _ _ _ _ _ _ _ => rfl
  rw [hset] at hP hD
  refine lv_aload_n hx hb dX0_addNode_75 rfl (lv_at hl 1 rfl) ?_
  refine lv_dup hx hb dX0_addNode_76 rfl ?_
  refine va_get (D := D) (ci := 0) (v := .int (v 0)) (C := RX0) (T := TX0) (N := 14) hx hb hts hin_X0 hown hK hP 1 rfl rfl 0 (by decide) hf9 (fun _ h9 => h9) rfl dX0_addNode_77 ?_
  refine lv_iconst (v := 1) hx hb dX0_addNode_80 (by decide) ?_
  refine lv_iadd hx hb dX0_addNode_81 ?_
  refine va_put (D := D) (ci := 0) (v := .int ((v 0) + 1)) (ty := .int) (C := RX0) (T := TX0) (N := 14) hx hb hts hin_X0 tyX0 tyX0_ok nmX0 hown hK hP hD hS 1 rfl rfl 0 (by decide) hf9 (fun _ h9 => h9) rfl (by decide +kernel) rfl rfl (Nat.le_of_ble_eq_true rfl) dX0_addNode_82 (fun H locs hP hD hS => ?_)
  have hP : va_P D vwCl (wX cI a (vU v 0 ((v 0) + 1)) (rU (rU (rU (rU (rU (rU (rU (rU r 2 (upd (r 2) N (v 2))) 3 (upd (r 3) N x0)) 4 (upd (r 4) N x1)) 5 (upd (r 5) N (-1))) 6 (upd (r 6) N (-1))) 7 (upd (r 7) N x2)) 8 (upd (r 8) N x3)) 9 (upd (r 9) N x4))) H := hP
  have hD : va_D A (wX cI a (vU v 0 ((v 0) + 1)) (rU (rU (rU (rU (rU (rU (rU (rU r 2 (upd (r 2) N (v 2))) 3 (upd (r 3) N x0)) 4 (upd (r 4) N x1)) 5 (upd (r 5) N (-1))) 6 (upd (r 6) N (-1))) 7 (upd (r 7) N x2)) 8 (upd (r 8) N x3)) 9 (upd (r 9) N x4))) := hD
  refine lv_iload hx hb dX0_addNode_85 (lv_at hl 0 rfl) ?_
  exact k_iret C0 () hP hD hS rfl dX0_addNode_87

set_option maxHeartbeats 1500000 in
theorem pf_X0_scriptsOf_0 (a : Nat → Nat) (v : Nat → Int32) (r : Nat → Nat → Int32) (n : Nat) (hn : n < 120) (x_1 : Int32) (ex_1 : x_1 = (if ((r 5) n) = (-1) then (0 : Int32) else (1 : Int32))) (x_2 : Int32) (ex_2 : x_2 = (if ((r 6) n) = (-1) then (0 : Int32) else (1 : Int32))) : (x_1 + x_2) = (if r 5 n = -1 then 0 else 1) + (if r 6 n = -1 then 0 else 1) := by
  subst_vars; rfl
set_option maxHeartbeats 1500000 in
set_option maxRecDepth 100000 in
theorem c_X0_scriptsOf (l : Launch) (D : va_G) (cI : ClassId) (a : Nat → Nat) (v : Nat → Int32) (r : Nat → Nat → Int32) (n : Nat) (hn : n < 120) : KD l D cI yX0_scriptsOf wsX0_scriptsOf ({ frames := 0, cells := 0, slots := 0, locals := 0 }) [.ref (a 1), .int (nI n)] (wX cI a v r) (wX cI a v r) ((if r 5 n = -1 then 0 else 1) + (if r 6 n = -1 then 0 else 1)) := by
  refine KI.of (cc := cX0_scriptsOf) (nL := 2) (ret := (some .int)) (by decide) rfl (Nat.le_of_ble_eq_true rfl) ?_
  intro pg9 en9 s m args below meth cd9 A ls C0 hP hD hS hl
  have hx := C0.1.1
  have hb := C0.1.2.1
  have hml := C0.1.2.2.1
  have hown : s.vm.findClass RX0 = some m.cls := C0.1.2.2.2.1
  have hts : ∀ w ∈ wsX0_scriptsOf, w.before args s = true := C0.1.2.2.2.2
  have hK := C0.2.2.2.1
  have hin_X0 : ∀ w ∈ wsX00, w ∈ wsX0_scriptsOf := fun w h => List.mem_cons_of_mem _ (List.mem_append_right _ h)
  have hf31 : (Cond.fieldLink RX0 31 "FormulaLists$Book" "upper" "[I").before args s = true := hts _ (by decide +kernel)
  have hf34 : (Cond.fieldLink RX0 34 "FormulaLists$Book" "lower" "[I").before args s = true := hts _ (by decide +kernel)
  have hl : lv_has ls 2 [(0, .ref (a 1)), (1, .int (nI n))] := hl
  have hP : va_P D vwCl (wX cI a v r) s.heap := hP
  refine lv_aload_n hx hb dX0_scriptsOf_0 rfl (lv_at hl 0 rfl) ?_
  refine va_get (D := D) (ci := 0) (v := .ref (a 5)) (C := RX0) (T := TX0) (N := 14) hx hb hts hin_X0 hown hK hP 1 rfl rfl 6 (by decide) hf31 (fun _ h9 => h9) rfl dX0_scriptsOf_1 ?_
  refine lv_iload_n hx hb dX0_scriptsOf_4 rfl (lv_at hl 1 rfl) ?_
  refine ra_ld (f := (r 5)) C0 hP 5 rfl n rfl (by omega) (by decide) dX0_scriptsOf_5 ?_
  refine lv_iconst (v := (-1)) hx hb dX0_scriptsOf_6 (by decide) ?_
  obtain ⟨x_1, ex_1⟩ : ∃ zz_ : Int32, zz_ = (if ((r 5) n) = (-1) then (0 : Int32) else (1 : Int32)) := ⟨_, rfl⟩
  refine jW (D := D) hD hl 15 (wX cI a v r) [(0, .ref (a 1)), (1, .int (nI n))] [.int x_1] (fun hJ => ?_) (fun H locs ls hP hD hS hl => ?_)
  · skip
    refine lv_icmp_eq (tgt := 14) hx hb dX0_scriptsOf_7 (by decide) (fun c_7 => ?_) (fun c_7 => ?_)
    · skip
      refine lv_iconst (v := 0) hx hb dX0_scriptsOf_14 (by decide) ?_
      have gx_1 : x_1 = 0 := by rw [ex_1]; simp only [if_pos c_7]
      simp only [gx_1] at hJ
      exact hJ _ _ _ hP hD hS (lv_sub hl [0, 1] rfl)
    · skip
      refine lv_iconst (v := 1) hx hb dX0_scriptsOf_10 (by decide) ?_
      refine lv_goto (tgt := 15) hx hb dX0_scriptsOf_11 (by decide) ?_
      have gx_1 : x_1 = 1 := by rw [ex_1]; simp only [if_neg c_7]
      simp only [gx_1] at hJ
      exact hJ _ _ _ hP hD hS (lv_sub hl [0, 1] rfl)
  · skip
    refine lv_aload_n hx hb dX0_scriptsOf_15 rfl (lv_at hl 0 rfl) ?_
    refine va_get (D := D) (ci := 0) (v := .ref (a 6)) (C := RX0) (T := TX0) (N := 14) hx hb hts hin_X0 hown hK hP 1 rfl rfl 7 (by decide) hf34 (fun _ h9 => h9) rfl dX0_scriptsOf_16 ?_
    refine lv_iload_n hx hb dX0_scriptsOf_19 rfl (lv_at hl 1 rfl) ?_
    refine ra_ld (f := (r 6)) C0 hP 6 rfl n rfl (by omega) (by decide) dX0_scriptsOf_20 ?_
    refine lv_iconst (v := (-1)) hx hb dX0_scriptsOf_21 (by decide) ?_
    obtain ⟨x_2, ex_2⟩ : ∃ zz_ : Int32, zz_ = (if ((r 6) n) = (-1) then (0 : Int32) else (1 : Int32)) := ⟨_, rfl⟩
    refine jW (D := D) hD hl 30 (wX cI a v r) [(0, .ref (a 1)), (1, .int (nI n))] [.int x_2, .int x_1] (fun hJ => ?_) (fun H locs ls hP hD hS hl => ?_)
    · skip
      refine lv_icmp_eq (tgt := 29) hx hb dX0_scriptsOf_22 (by decide) (fun c_22 => ?_) (fun c_22 => ?_)
      · skip
        refine lv_iconst (v := 0) hx hb dX0_scriptsOf_29 (by decide) ?_
        have gx_2 : x_2 = 0 := by rw [ex_2]; simp only [if_pos c_22]
        simp only [gx_2] at hJ
        exact hJ _ _ _ hP hD hS (lv_sub hl [0, 1] rfl)
      · skip
        refine lv_iconst (v := 1) hx hb dX0_scriptsOf_25 (by decide) ?_
        refine lv_goto (tgt := 30) hx hb dX0_scriptsOf_26 (by decide) ?_
        have gx_2 : x_2 = 1 := by rw [ex_2]; simp only [if_neg c_22]
        simp only [gx_2] at hJ
        exact hJ _ _ _ hP hD hS (lv_sub hl [0, 1] rfl)
    · skip
      refine lv_iadd hx hb dX0_scriptsOf_30 ?_
      exact k_iret C0 () hP hD hS (pf_X0_scriptsOf_0 a v r n hn x_1 ex_1 x_2 ex_2) dX0_scriptsOf_31

set_option maxHeartbeats 1500000 in
theorem pf_X0_mayBeCell_0 (a : Nat → Nat) (v : Nat → Int32) (r : Nat → Nat → Int32) (k : Nat) (hk : k < 30) (x_1 : Int32) (ex_1 : x_1 = (if (nI k) = (v 2) then (0 : Int32) else (if (bI (¬ nI k = 0 ∧ (r 10) k = -1)) = 0 then (0 : Int32) else (1 : Int32)))) : x_1 = bI (¬ nI k = v 2 ∧ ¬ nI k = 0 ∧ r 10 k = -1) := by
  subst_vars; simp only [bI]; (repeat' split) <;> simp_all
set_option maxHeartbeats 1500000 in
theorem pf_X0_mayBeCell_1 (a : Nat → Nat) (v : Nat → Int32) (r : Nat → Nat → Int32) (k : Nat) (hk : k < 30) (x_1 : Int32) (ex_1 : x_1 = (if (nI k) = (v 2) then (0 : Int32) else (if (bI (¬ nI k = 0 ∧ (r 10) k = -1)) = 0 then (0 : Int32) else (1 : Int32)))) : narrow .boolean (.int x_1) = .int x_1 := by
  subst_vars; (repeat' split) <;> rfl
set_option maxHeartbeats 1500000 in
set_option maxRecDepth 100000 in
theorem c_X0_mayBeCell (l : Launch) (D : va_G) (cI : ClassId) (a : Nat → Nat) (v : Nat → Int32) (r : Nat → Nat → Int32) (k : Nat) (hk : k < 30) : KD l D cI yX0_mayBeCell wsX0_mayBeCell ({ frames := 1, cells := 0, slots := 0, locals := 21 }) [.ref (a 1), .int (nI k)] (wX cI a v r) (wX cI a v r) (bI (¬ nI k = v 2 ∧ ¬ nI k = 0 ∧ r 10 k = -1)) := by
  refine KI.of (cc := cX0_mayBeCell) (nL := 2) (ret := (some .boolean)) (by decide) rfl (Nat.le_of_ble_eq_true rfl) ?_
  intro pg9 en9 s m args below meth cd9 A ls C0 hP hD hS hl
  have hx := C0.1.1
  have hb := C0.1.2.1
  have hml := C0.1.2.2.1
  have hown : s.vm.findClass RX0 = some m.cls := C0.1.2.2.2.1
  have hts : ∀ w ∈ wsX0_mayBeCell, w.before args s = true := C0.1.2.2.2.2
  have hK := C0.2.2.2.1
  have hin_X0 : ∀ w ∈ wsX00, w ∈ wsX0_mayBeCell := fun w h => List.mem_cons_of_mem _ (List.mem_append_right _ h)
  have hf18 : (Cond.fieldLink RX0 18 "FormulaLists$Book" "open" "I").before args s = true := hts _ (by decide +kernel)
  have hl : lv_has ls 2 [(0, .ref (a 1)), (1, .int (nI k))] := hl
  have hP : va_P D vwCl (wX cI a v r) s.heap := hP
  refine lv_iload_n hx hb dX0_mayBeCell_0 rfl (lv_at hl 1 rfl) ?_
  refine lv_aload_n hx hb dX0_mayBeCell_1 rfl (lv_at hl 0 rfl) ?_
  refine va_get (D := D) (ci := 0) (v := .int (v 2)) (C := RX0) (T := TX0) (N := 14) hx hb hts hin_X0 hown hK hP 1 rfl rfl 2 (by decide) hf18 (fun _ h9 => h9) rfl dX0_mayBeCell_2 ?_
  obtain ⟨x_1, ex_1⟩ : ∃ zz_ : Int32, zz_ = (if (nI k) = (v 2) then (0 : Int32) else (if (bI (¬ nI k = 0 ∧ (r 10) k = -1)) = 0 then (0 : Int32) else (1 : Int32))) := ⟨_, rfl⟩
  refine jW (D := D) hD hl 21 (wX cI a v r) [(0, .ref (a 1)), (1, .int (nI k))] [.int x_1] (fun hJ => ?_) (fun H locs ls hP hD hS hl => ?_)
  · skip
    refine lv_icmp_eq (tgt := 20) hx hb dX0_mayBeCell_5 (by decide) (fun c_5 => ?_) (fun c_5 => ?_)
    · skip
      refine lv_iconst (v := 0) hx hb dX0_mayBeCell_20 (by decide) ?_
      have gx_1 : x_1 = 0 := by rw [ex_1]; simp only [if_pos c_5]
      simp only [gx_1] at hJ
      exact hJ _ _ _ hP hD hS (lv_sub hl [0, 1] rfl)
    · skip
      refine lv_aload_n hx hb dX0_mayBeCell_8 rfl (lv_at hl 0 rfl) ?_
      refine lv_iload_n hx hb dX0_mayBeCell_9 rfl (lv_at hl 1 rfl) ?_
      refine kcD (ans := (bI (¬ nI k = 0 ∧ (r 10) k = -1))) C0 hP hD hS (c_X0_isFree l D cI a v r k hk) (cwV 1 hts gX0_mayBeCell_X0_isFree rfl rfl rfl (by decide +kernel) ⟨Nat.le_of_ble_eq_true rfl, Nat.le_of_ble_eq_true rfl⟩) 1 0 rfl rfl rfl hl.1 rfl (Nat.le_of_ble_eq_true rfl) dX0_mayBeCell_10 ⟨Nat.zero_le _, Nat.zero_le _⟩ (fun H locs hP hD hS => ?_)
      refine lv_if_eq (tgt := 20) hx hb dX0_mayBeCell_13 (by decide) (fun c_13 => ?_) (fun c_13 => ?_)
      · skip
        refine lv_iconst (v := 0) hx hb dX0_mayBeCell_20 (by decide) ?_
        have gx_1 : x_1 = 0 := by rw [ex_1]; simp only [if_neg c_5, if_pos c_13]
        simp only [gx_1] at hJ
        exact hJ _ _ _ hP hD hS (lv_sub hl [0, 1] rfl)
      · skip
        refine lv_iconst (v := 1) hx hb dX0_mayBeCell_16 (by decide) ?_
        refine lv_goto (tgt := 21) hx hb dX0_mayBeCell_17 (by decide) ?_
        have gx_1 : x_1 = 1 := by rw [ex_1]; simp only [if_neg c_5, if_neg c_13]
        simp only [gx_1] at hJ
        exact hJ _ _ _ hP hD hS (lv_sub hl [0, 1] rfl)
  · skip
    exact k_zret C0 () hP hD hS (pf_X0_mayBeCell_1 a v r k hk x_1 ex_1) (pf_X0_mayBeCell_0 a v r k hk x_1 ex_1) dX0_mayBeCell_21

set_option maxHeartbeats 1500000 in
theorem pf_X0_bindsBehind_0 (x : Int32)  (x_1 : Int32) (ex_1 : x_1 = (if x = 0 then (1 : Int32) else (if x = 5 then (1 : Int32) else (if x = 7 then (1 : Int32) else (0 : Int32))))) : x_1 = bI (x = 0 ∨ x = 5 ∨ x = 7) := by
  subst_vars <;> simp only [bI] <;> (repeat' split) <;> first | (with_reducible rfl) | (simp_all; done) | (simp only [i_lt, i_le, i_eq, tI0, tI1, tI2, tI3, tI4, tI5, tI6, tI7, tI8, tI9, tI10, tI11, tI12, tI13, tI14, tI15, tI16, tI30, tI120, tI255, tI256, tI1000, tIm1] at * <;> omega)
set_option maxHeartbeats 1500000 in
theorem pf_X0_bindsBehind_1 (x : Int32)  (x_1 : Int32) (ex_1 : x_1 = (if x = 0 then (1 : Int32) else (if x = 5 then (1 : Int32) else (if x = 7 then (1 : Int32) else (0 : Int32))))) : narrow .boolean (.int x_1) = .int x_1 := by
  subst_vars; (repeat' split) <;> rfl
set_option maxHeartbeats 1500000 in
set_option maxRecDepth 100000 in
theorem c_X0_bindsBehind (l : Launch) (D : va_G) (cI : ClassId) (x : Int32) : KD l D cI yX0_bindsBehind wsX0_bindsBehind ({ frames := 0, cells := 0, slots := 0, locals := 0 }) [.int x] [] [] (bI (x = 0 ∨ x = 5 ∨ x = 7)) := by
  refine KI.of (cc := cX0_bindsBehind) (nL := 1) (ret := (some .boolean)) (by decide) rfl (Nat.le_of_ble_eq_true rfl) ?_
  intro pg9 en9 s m args below meth cd9 A ls C0 hP hD hS hl
  have hx := C0.1.1
  have hb := C0.1.2.1
  have hml := C0.1.2.2.1
  have hown : s.vm.findClass RX0 = some m.cls := C0.1.2.2.2.1
  have hts : ∀ w ∈ wsX0_bindsBehind, w.before args s = true := C0.1.2.2.2.2
  have hK := C0.2.2.2.1
  have hl : lv_has ls 1 [(0, .int x)] := hl
  have hP : va_P D vwCl [] s.heap := hP
  refine lv_iload_n hx hb dX0_bindsBehind_0 rfl (lv_at hl 0 rfl) ?_
  obtain ⟨x_1, ex_1⟩ : ∃ zz_ : Int32, zz_ = (if x = 0 then (1 : Int32) else (if x = 5 then (1 : Int32) else (if x = 7 then (1 : Int32) else (0 : Int32)))) := ⟨_, rfl⟩
  refine jW (D := D) hD hl 20 [] [(0, .int x)] [.int x_1] (fun hJ => ?_) (fun H locs ls hP hD hS hl => ?_)
  · skip
    refine lv_if_eq (tgt := 15) hx hb dX0_bindsBehind_1 (by decide) (fun c_1 => ?_) (fun c_1 => ?_)
    · skip
      refine lv_iconst (v := 1) hx hb dX0_bindsBehind_15 (by decide) ?_
      refine lv_goto (tgt := 20) hx hb dX0_bindsBehind_16 (by decide) ?_
      have gx_1 : x_1 = 1 := by rw [ex_1]; simp only [if_pos c_1]
      simp only [gx_1] at hJ
      exact hJ _ _ _ hP hD hS (lv_sub hl [0] rfl)
    · skip
      refine lv_iload_n hx hb dX0_bindsBehind_4 rfl (lv_at hl 0 rfl) ?_
      refine lv_iconst (v := 5) hx hb dX0_bindsBehind_5 (by decide) ?_
      refine lv_icmp_eq (tgt := 15) hx hb dX0_bindsBehind_6 (by decide) (fun c_6 => ?_) (fun c_6 => ?_)
      · skip
        refine lv_iconst (v := 1) hx hb dX0_bindsBehind_15 (by decide) ?_
        refine lv_goto (tgt := 20) hx hb dX0_bindsBehind_16 (by decide) ?_
        have gx_1 : x_1 = 1 := by rw [ex_1]; simp only [if_neg c_1, if_pos c_6]
        simp only [gx_1] at hJ
        exact hJ _ _ _ hP hD hS (lv_sub hl [0] rfl)
      · skip
        refine lv_iload_n hx hb dX0_bindsBehind_9 rfl (lv_at hl 0 rfl) ?_
        refine lv_bipush (v := 7) hx hb dX0_bindsBehind_10 (by decide) ?_
        refine lv_icmp_ne (tgt := 19) hx hb dX0_bindsBehind_12 (by decide) (fun c_12 => ?_) (fun c_12 => ?_)
        · skip
          refine lv_iconst (v := 0) hx hb dX0_bindsBehind_19 (by decide) ?_
          have gx_1 : x_1 = 0 := by rw [ex_1]; simp only [if_neg c_1, if_neg c_6, if_neg c_12]
          simp only [gx_1] at hJ
          exact hJ _ _ _ hP hD hS (lv_sub hl [0] rfl)
        · skip
          refine lv_iconst (v := 1) hx hb dX0_bindsBehind_15 (by decide) ?_
          refine lv_goto (tgt := 20) hx hb dX0_bindsBehind_16 (by decide) ?_
          have gx_1 : x_1 = 1 := by rw [ex_1]; simp only [if_neg c_1, if_neg c_6, if_pos c_12]
          simp only [gx_1] at hJ
          exact hJ _ _ _ hP hD hS (lv_sub hl [0] rfl)
  · skip
    exact k_zret C0 () hP hD hS (pf_X0_bindsBehind_1 x x_1 ex_1) (pf_X0_bindsBehind_0 x x_1 ex_1) dX0_bindsBehind_20

set_option maxHeartbeats 1500000 in
theorem pf_X0_bindsAhead_0 (x : Int32)  (x_1 : Int32) (ex_1 : x_1 = (if x = (-1) then (0 : Int32) else (if x = 3 then (0 : Int32) else (if x = 5 then (0 : Int32) else (if x = 6 then (0 : Int32) else (1 : Int32)))))) : x_1 = bI (¬ x = -1 ∧ ¬ x = 3 ∧ ¬ x = 5 ∧ ¬ x = 6) := by
  subst_vars <;> simp only [bI] <;> (repeat' split) <;> first | (with_reducible rfl) | (simp_all; done) | (simp only [i_lt, i_le, i_eq, tI0, tI1, tI2, tI3, tI4, tI5, tI6, tI7, tI8, tI9, tI10, tI11, tI12, tI13, tI14, tI15, tI16, tI30, tI120, tI255, tI256, tI1000, tIm1] at * <;> omega)
set_option maxHeartbeats 1500000 in
theorem pf_X0_bindsAhead_1 (x : Int32)  (x_1 : Int32) (ex_1 : x_1 = (if x = (-1) then (0 : Int32) else (if x = 3 then (0 : Int32) else (if x = 5 then (0 : Int32) else (if x = 6 then (0 : Int32) else (1 : Int32)))))) : narrow .boolean (.int x_1) = .int x_1 := by
  subst_vars; (repeat' split) <;> rfl
set_option maxHeartbeats 1500000 in
set_option maxRecDepth 100000 in
theorem c_X0_bindsAhead (l : Launch) (D : va_G) (cI : ClassId) (x : Int32) : KD l D cI yX0_bindsAhead wsX0_bindsAhead ({ frames := 0, cells := 0, slots := 0, locals := 0 }) [.int x] [] [] (bI (¬ x = -1 ∧ ¬ x = 3 ∧ ¬ x = 5 ∧ ¬ x = 6)) := by
  refine KI.of (cc := cX0_bindsAhead) (nL := 1) (ret := (some .boolean)) (by decide) rfl (Nat.le_of_ble_eq_true rfl) ?_
  intro pg9 en9 s m args below meth cd9 A ls C0 hP hD hS hl
  have hx := C0.1.1
  have hb := C0.1.2.1
  have hml := C0.1.2.2.1
  have hown : s.vm.findClass RX0 = some m.cls := C0.1.2.2.2.1
  have hts : ∀ w ∈ wsX0_bindsAhead, w.before args s = true := C0.1.2.2.2.2
  have hK := C0.2.2.2.1
  have hl : lv_has ls 1 [(0, .int x)] := hl
  have hP : va_P D vwCl [] s.heap := hP
  refine lv_iload_n hx hb dX0_bindsAhead_0 rfl (lv_at hl 0 rfl) ?_
  refine lv_iconst (v := (-1)) hx hb dX0_bindsAhead_1 (by decide) ?_
  obtain ⟨x_1, ex_1⟩ : ∃ zz_ : Int32, zz_ = (if x = (-1) then (0 : Int32) else (if x = 3 then (0 : Int32) else (if x = 5 then (0 : Int32) else (if x = 6 then (0 : Int32) else (1 : Int32))))) := ⟨_, rfl⟩
  refine jW (D := D) hD hl 26 [] [(0, .int x)] [.int x_1] (fun hJ => ?_) (fun H locs ls hP hD hS hl => ?_)
  · skip
    refine lv_icmp_eq (tgt := 25) hx hb dX0_bindsAhead_2 (by decide) (fun c_2 => ?_) (fun c_2 => ?_)
    · skip
      refine lv_iconst (v := 0) hx hb dX0_bindsAhead_25 (by decide) ?_
      have gx_1 : x_1 = 0 := by rw [ex_1]; simp only [if_pos c_2]
      simp only [gx_1] at hJ
      exact hJ _ _ _ hP hD hS (lv_sub hl [0] rfl)
    · skip
      refine lv_iload_n hx hb dX0_bindsAhead_5 rfl (lv_at hl 0 rfl) ?_
      refine lv_iconst (v := 3) hx hb dX0_bindsAhead_6 (by decide) ?_
      refine lv_icmp_eq (tgt := 25) hx hb dX0_bindsAhead_7 (by decide) (fun c_7 => ?_) (fun c_7 => ?_)
      · skip
        refine lv_iconst (v := 0) hx hb dX0_bindsAhead_25 (by decide) ?_
        have gx_1 : x_1 = 0 := by rw [ex_1]; simp only [if_neg c_2, if_pos c_7]
        simp only [gx_1] at hJ
        exact hJ _ _ _ hP hD hS (lv_sub hl [0] rfl)
      · skip
        refine lv_iload_n hx hb dX0_bindsAhead_10 rfl (lv_at hl 0 rfl) ?_
        refine lv_iconst (v := 5) hx hb dX0_bindsAhead_11 (by decide) ?_
        refine lv_icmp_eq (tgt := 25) hx hb dX0_bindsAhead_12 (by decide) (fun c_12 => ?_) (fun c_12 => ?_)
        · skip
          refine lv_iconst (v := 0) hx hb dX0_bindsAhead_25 (by decide) ?_
          have gx_1 : x_1 = 0 := by rw [ex_1]; simp only [if_neg c_2, if_neg c_7, if_pos c_12]
          simp only [gx_1] at hJ
          exact hJ _ _ _ hP hD hS (lv_sub hl [0] rfl)
        · skip
          refine lv_iload_n hx hb dX0_bindsAhead_15 rfl (lv_at hl 0 rfl) ?_
          refine lv_bipush (v := 6) hx hb dX0_bindsAhead_16 (by decide) ?_
          refine lv_icmp_eq (tgt := 25) hx hb dX0_bindsAhead_18 (by decide) (fun c_18 => ?_) (fun c_18 => ?_)
          · skip
            refine lv_iconst (v := 0) hx hb dX0_bindsAhead_25 (by decide) ?_
            have gx_1 : x_1 = 0 := by rw [ex_1]; simp only [if_neg c_2, if_neg c_7, if_neg c_12, if_pos c_18]
            simp only [gx_1] at hJ
            exact hJ _ _ _ hP hD hS (lv_sub hl [0] rfl)
          · skip
            refine lv_iconst (v := 1) hx hb dX0_bindsAhead_21 (by decide) ?_
            refine lv_goto (tgt := 26) hx hb dX0_bindsAhead_22 (by decide) ?_
            have gx_1 : x_1 = 1 := by rw [ex_1]; simp only [if_neg c_2, if_neg c_7, if_neg c_12, if_neg c_18]
            simp only [gx_1] at hJ
            exact hJ _ _ _ hP hD hS (lv_sub hl [0] rfl)
  · skip
    exact k_zret C0 () hP hD hS (pf_X0_bindsAhead_1 x x_1 ex_1) (pf_X0_bindsAhead_0 x x_1 ex_1) dX0_bindsAhead_26
