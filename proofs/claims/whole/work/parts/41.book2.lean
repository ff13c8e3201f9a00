theorem kd_f {lof wh ki : Nat → Int32} {N n k : Nat} {l : Int32} (hN : N ≤ 120) (hk : k < N) (hw : nxF lof wh l (N - (n + 1)) (n + 1) = nxF lof wh l (N - k) k) (h1 : lof k = l) (h2 : ¬ wh k = 4) : ki k = kdA lof wh ki N l n := by
  have e : nxF lof wh l (N - k) k = nI k := by rw [show N - k = (N - (k + 1)) + 1 by omega, nxF, if_pos ⟨h1, h2⟩]
  rw [kdA, hw, e, if_neg (nI_ne_m1 (by omega)), nI_clamp (by omega)]
theorem kd_e {lof wh ki : Nat → Int32} {N n k : Nat} {l : Int32} (hk : N ≤ k) (hw : nxF lof wh l (N - (n + 1)) (n + 1) = nxF lof wh l (N - k) k) : -1 = kdA lof wh ki N l n := by
  rw [kdA, hw, show N - k = 0 by omega, nxF, if_pos rfl]
theorem rl_cn {r : Nat → Nat → Int32} {x i : Int32} : ∀ k : Nat, ∃ c, c ≤ k ∧ (rlS r x i k).1 = nI c
  | 0 => ⟨0, Nat.le_refl _, rfl⟩
  | k + 1 => by
    obtain ⟨c, h1, h2⟩ := rl_cn (r := r) (x := x) (i := i) k
    by_cases h : r 2 k = x ∧ ¬ r 3 k = 4 ∧ r 4 k = 3
    · exact ⟨c + 1, by omega, by rw [rl_ye h]; show (rlS r x i k).1 + 1 = _; rw [h2, nI_1]⟩
    · exact ⟨c, by omega, by rw [rl_no h]; exact h2⟩
theorem rl_fi {r : Nat → Nat → Int32} {x i : Int32} {k : Nat} (h : r 2 k = x ∧ ¬ r 3 k = 4 ∧ r 4 k = 3) (hi : (rlS r x i k).1 = i) : ∀ j, k < j → j ≤ 120 → (rlS r x i j).2 = nI k ∧ ∃ c d, i = nI c ∧ (rlS r x i j).1 = nI d ∧ c < d ∧ d ≤ j := by
  intro j
  induction j with
  | zero => intro h1; exact absurd h1 (Nat.not_lt_zero _)
  | succ j ih =>
    intro h1 h2
    by_cases e : j = k
    · subst e
      obtain ⟨c, q1, q2⟩ := rl_cn (r := r) (x := x) (i := i) j
      rw [rl_ye h]
      exact ⟨if_pos hi, c, c + 1, by rw [← hi, q2], by show (rlS r x i j).1 + 1 = _; rw [q2, nI_1], by omega, by omega⟩
    · obtain ⟨q1, c, d, q2, q3, q4, q5⟩ := ih (by omega) (by omega)
      by_cases h3 : r 2 j = x ∧ ¬ r 3 j = 4 ∧ r 4 j = 3
      · rw [rl_ye h3]
        refine ⟨?_, c, d + 1, q2, by show (rlS r x i j).1 + 1 = _; rw [q3, nI_1], by omega, by omega⟩
        show (if (rlS r x i j).1 = i then nI j else (rlS r x i j).2) = nI k
        rw [if_neg (fun q => by rw [q3, q2] at q; have := nI_inj (by omega) (by omega) q; omega), q1]
      · rw [rl_no h3]
        exact ⟨q1, c, d, q2, q3, q4, by omega⟩
theorem mv_y {f : Nat → Int32} {x y : Int32} {a b : Nat} (h : a ≤ b) (c : mvF f x y a b b = x) : upd (mvF f x y a b) b y = mvF f x y a (b + 1) := by
  rw [← mv_s f x y h, if_pos c]
theorem mv_n {f : Nat → Int32} {x y : Int32} {a b : Nat} (h : a ≤ b) (c : ¬ mvF f x y a b b = x) : mvF f x y a b = mvF f x y a (b + 1) := by
  rw [← mv_s f x y h, if_neg c]
  funext j
  unfold upd
  by_cases e : j = b
  · rw [if_pos e, e]
  · rw [if_neg e]

set_option maxHeartbeats 1500000 in
set_option maxRecDepth 100000 in
theorem c_X0_kindAfter (l : Launch) (D : va_G) (cI : ClassId) (a : Nat → Nat) (v : Nat → Int32) (r : Nat → Nat → Int32) (n N : Nat) (hN : v 0 = nI N) (hN1 : N ≤ 120) (hn : n < N) : KD l D cI yX0_kindAfter wsX0_kindAfter ({ frames := 0, cells := 0, slots := 0, locals := 0 }) [.ref (a 1), .int (nI n)] (wX cI a v r) (wX cI a v r) (kdA (r 2) (r 3) (r 4) N (r 2 n) n) := by
  refine KI.of (cc := cX0_kindAfter) (nL := 3) (ret := (some .int)) (by decide) rfl (Nat.le_of_ble_eq_true rfl) ?_
  intro pg9 en9 s m args below meth cd9 A ls C0 hP hD hS hl
  have hx := C0.1.1
  have hb := C0.1.2.1
  have hml := C0.1.2.2.1
  have hown : s.vm.findClass RX0 = some m.cls := C0.1.2.2.2.1
  have hts : ∀ w ∈ wsX0_kindAfter, w.before args s = true := C0.1.2.2.2.2
  have hK := C0.2.2.2.1
  have hin_X0 : ∀ w ∈ wsX00, w ∈ wsX0_kindAfter := fun w h => List.mem_cons_of_mem _ (List.mem_append_right _ h)
  have hf9 : (Cond.fieldLink RX0 9 "FormulaLists$Book" "nodes" "I").before args s = true := hts _ (by decide +kernel)
  have hf21 : (Cond.fieldLink RX0 21 "FormulaLists$Book" "home" "[I").before args s = true := hts _ (by decide +kernel)
  have hf25 : (Cond.fieldLink RX0 25 "FormulaLists$Book" "form" "[I").before args s = true := hts _ (by decide +kernel)
  have hf28 : (Cond.fieldLink RX0 28 "FormulaLists$Book" "ownKind" "[I").before args s = true := hts _ (by decide +kernel)
  have hl : lv_has ls 3 [(0, .ref (a 1)), (1, .int (nI n))] := hl
  have hP : va_P D vwCl (wX cI a v r) s.heap := hP
  refine lv_iload_n hx hb dX0_kindAfter_0 rfl (lv_at hl 1 rfl) ?_
  refine lv_iconst (v := 1) hx hb dX0_kindAfter_1 (by decide) ?_
  refine lv_iadd hx hb dX0_kindAfter_2 ?_
  refine lv_eqi (nI_1 n) ?_
  refine lv_istore_n (lv' := [(2, .int (nI (n + 1))), (0, .ref (a 1)), (1, .int (nI n))]) hx hb dX0_kindAfter_3 rfl hl (by decide) rfl (fun ls hl => ?_)
  refine lpW (nL := 3) (A := A) (D := D) (fun z : Nat => (wX cI a v r)) (fun z : Nat => [(2, .int (nI z)), (0, .ref (a 1)), (1, .int (nI n))]) (fun z : Nat => z ≤ N ∧ nxF (r 2) (r 3) (r 2 n) (N - (n + 1)) (n + 1) = nxF (r 2) (r 3) (r 2 n) (N - z) z) (fun z : Nat => N - z) (n + 1) hP hD hS (lv_sub hl [0, 1, 2] rfl) ⟨hn, rfl⟩ ?_
  intro k H locs ls hP hD hS hl hf ih
  have hP : va_P D vwCl (wX cI a v r) H := hP
  have hD : va_D A (wX cI a v r) := hD
  have hl : lv_has ls 3 [(2, .int (nI k)), (0, .ref (a 1)), (1, .int (nI n))] := hl
  have hf : k ≤ N ∧ nxF (r 2) (r 3) (r 2 n) (N - (n + 1)) (n + 1) = nxF (r 2) (r 3) (r 2 n) (N - k) k := hf
  obtain ⟨hk1, hw⟩ := hf
  refine lv_iload_n hx hb dX0_kindAfter_4 rfl (lv_at hl 0 rfl) ?_
  refine lv_aload_n hx hb dX0_kindAfter_5 rfl (lv_at hl 1 rfl) ?_
  refine va_get (D := D) (ci := 0) (v := .int (v 0)) (C := RX0) (T := TX0) (N := 14) hx hb hts hin_X0 hown hK hP 1 rfl rfl 0 (by decide) hf9 (fun _ h9 => h9) rfl dX0_kindAfter_6 ?_
  refine lv_eqi hN ?_
  refine lv_icmp_ge (tgt := 50) hx hb dX0_kindAfter_9 (by decide) (fun c_9 => ?_) (fun c_9 => ?_)
  · skip
    have hkN : N ≤ k := (nI_leI (by omega) (by omega)).mp c_9
    refine lv_iconst (v := (-1)) hx hb dX0_kindAfter_50 (by decide) ?_
    exact k_iret C0 () hP hD hS (kd_e hkN hw) dX0_kindAfter_51
  · skip
    have hlt : k < N := Nat.not_le.mp (fun q => c_9 (nI_le q (by omega)))
    refine lv_aload_n hx hb dX0_kindAfter_12 rfl (lv_at hl 1 rfl) ?_
    refine va_get (D := D) (ci := 0) (v := .ref (a 2)) (C := RX0) (T := TX0) (N := 14) hx hb hts hin_X0 hown hK hP 1 rfl rfl 3 (by decide) hf21 (fun _ h9 => h9) rfl dX0_kindAfter_13 ?_
    refine lv_iload_n hx hb dX0_kindAfter_16 rfl (lv_at hl 0 rfl) ?_
    refine ra_ld (f := (r 2)) C0 hP 2 rfl k rfl (by omega) (by decide) dX0_kindAfter_17 ?_
    refine lv_aload_n hx hb dX0_kindAfter_18 rfl (lv_at hl 1 rfl) ?_
    refine va_get (D := D) (ci := 0) (v := .ref (a 2)) (C := RX0) (T := TX0) (N := 14) hx hb hts hin_X0 hown hK hP 1 rfl rfl 3 (by decide) hf21 (fun _ h9 => h9) rfl dX0_kindAfter_19 ?_
    refine lv_iload_n hx hb dX0_kindAfter_22 rfl (lv_at hl 2 rfl) ?_
    refine ra_ld (f := (r 2)) C0 hP 2 rfl n rfl (by omega) (by decide) dX0_kindAfter_23 ?_
    refine lv_icmp_ne (tgt := 44) hx hb dX0_kindAfter_24 (by decide) (fun c_24 => ?_) (fun c_24 => ?_)
    · skip
      refine lv_iinc (v := (nI (k + 1))) (lv' := [(2, .int (nI (k + 1))), (0, .ref (a 1)), (1, .int (nI n))]) hx hb dX0_kindAfter_44 hl (k := 0) rfl (k_inc k) (by decide) rfl (fun ls hl => ?_)
      refine lv_goto (tgt := 4) hx hb dX0_kindAfter_47 (by decide) ?_
      exact ih (k + 1) _ _ _ hP hD hS (lv_sub hl [0, 1, 2] rfl) ⟨hlt, (by rw [hw]; exact nx_no hlt (fun q => c_24 q.1))⟩ (show N - (k + 1) < N - k by omega)
    · skip
      refine lv_aload_n hx hb dX0_kindAfter_27 rfl (lv_at hl 1 rfl) ?_
      refine va_get (D := D) (ci := 0) (v := .ref (a 3)) (C := RX0) (T := TX0) (N := 14) hx hb hts hin_X0 hown hK hP 1 rfl rfl 4 (by decide) hf25 (fun _ h9 => h9) rfl dX0_kindAfter_28 ?_
      refine lv_iload_n hx hb dX0_kindAfter_31 rfl (lv_at hl 0 rfl) ?_
      refine ra_ld (f := (r 3)) C0 hP 3 rfl k rfl (by omega) (by decide) dX0_kindAfter_32 ?_
      refine lv_iconst (v := 4) hx hb dX0_kindAfter_33 (by decide) ?_
      refine lv_icmp_eq (tgt := 44) hx hb dX0_kindAfter_34 (by decide) (fun c_34 => ?_) (fun c_34 => ?_)
      · skip
        refine lv_iinc (v := (nI (k + 1))) (lv' := [(2, .int (nI (k + 1))), (0, .ref (a 1)), (1, .int (nI n))]) hx hb dX0_kindAfter_44 hl (k := 0) rfl (k_inc k) (by decide) rfl (fun ls hl => ?_)
        refine lv_goto (tgt := 4) hx hb dX0_kindAfter_47 (by decide) ?_
        exact ih (k + 1) _ _ _ hP hD hS (lv_sub hl [0, 1, 2] rfl) ⟨hlt, (by rw [hw]; exact nx_no hlt (fun q => q.2 c_34))⟩ (show N - (k + 1) < N - k by omega)
      · skip
        refine lv_aload_n hx hb dX0_kindAfter_37 rfl (lv_at hl 1 rfl) ?_
        refine va_get (D := D) (ci := 0) (v := .ref (a 4)) (C := RX0) (T := TX0) (N := 14) hx hb hts hin_X0 hown hK hP 1 rfl rfl 5 (by decide) hf28 (fun _ h9 => h9) rfl dX0_kindAfter_38 ?_
        refine lv_iload_n hx hb dX0_kindAfter_41 rfl (lv_at hl 0 rfl) ?_
        refine ra_ld (f := (r 4)) C0 hP 4 rfl k rfl (by omega) (by decide) dX0_kindAfter_42 ?_
        exact k_iret C0 () hP hD hS (kd_f hN1 hlt hw c_24 c_34) dX0_kindAfter_43

set_option maxHeartbeats 1500000 in
set_option maxRecDepth 100000 in
theorem c_X0_countsAs (l : Launch) (D : va_G) (cI : ClassId) (a : Nat → Nat) (v : Nat → Int32) (r : Nat → Nat → Int32) (n N : Nat) (x : Int32) (hN : v 0 = nI N) (hN1 : N ≤ 120) (hn : n < N) : KD l D cI yX0_countsAs wsX0_countsAs ({ frames := 1, cells := 0, slots := 0, locals := 22 }) [.ref (a 1), .int (nI n), .int x] (wX cI a v r) (wX cI a v r) (caK (r 4 n) x (kdA (r 2) (r 3) (r 4) N (r 2 n) n)) := by
  refine KI.of (cc := cX0_countsAs) (nL := 3) (ret := (some .int)) (by decide) rfl (Nat.le_of_ble_eq_true rfl) ?_
  intro pg9 en9 s m args below meth cd9 A ls C0 hP hD hS hl
  have hx := C0.1.1
  have hb := C0.1.2.1
  have hml := C0.1.2.2.1
  have hown : s.vm.findClass RX0 = some m.cls := C0.1.2.2.2.1
  have hts : ∀ w ∈ wsX0_countsAs, w.before args s = true := C0.1.2.2.2.2
  have hK := C0.2.2.2.1
  have hin_X0 : ∀ w ∈ wsX00, w ∈ wsX0_countsAs := fun w h => List.mem_cons_of_mem _ (List.mem_append_right _ h)
  have hf28 : (Cond.fieldLink RX0 28 "FormulaLists$Book" "ownKind" "[I").before args s = true := hts _ (by decide +kernel)
  have hl : lv_has ls 3 [(0, .ref (a 1)), (1, .int (nI n)), (2, .int x)] := hl
  have hP : va_P D vwCl (wX cI a v r) s.heap := hP
  refine lv_aload_n hx hb dX0_countsAs_0 rfl (lv_at hl 0 rfl) ?_
  refine va_get (D := D) (ci := 0) (v := .ref (a 4)) (C := RX0) (T := TX0) (N := 14) hx hb hts hin_X0 hown hK hP 1 rfl rfl 5 (by decide) hf28 (fun _ h9 => h9) rfl dX0_countsAs_1 ?_
  refine lv_iload_n hx hb dX0_countsAs_4 rfl (lv_at hl 1 rfl) ?_
  refine ra_ld (f := (r 4)) C0 hP 4 rfl n rfl (by omega) (by decide) dX0_countsAs_5 ?_
  refine lv_iconst (v := 2) hx hb dX0_countsAs_6 (by decide) ?_
  refine lv_icmp_eq (tgt := 17) hx hb dX0_countsAs_7 (by decide) (fun c_7 => ?_) (fun c_7 => ?_)
  · skip
    refine lv_iload_n hx hb dX0_countsAs_17 rfl (lv_at hl 2 rfl) ?_
    refine kcS (ans := (bI (x = 0 ∨ x = 5 ∨ x = 7))) C0 hP hS (c_X0_bindsBehind l D cI x ) (va_cwS 1 hts gX0_countsAs_X0_bindsBehind rfl rfl rfl (by decide +kernel) ⟨Nat.le_of_ble_eq_true rfl, Nat.le_of_ble_eq_true rfl⟩) rfl hl.1 rfl (Nat.le_of_ble_eq_true rfl) dX0_countsAs_18 ⟨Nat.zero_le _, Nat.zero_le _⟩ (fun H locs hP hS => ?_)
    refine lv_if_eq (tgt := 39) hx hb dX0_countsAs_21 (by decide) (fun c_21 => ?_) (fun c_21 => ?_)
    · skip
      refine lv_iconst (v := 0) hx hb dX0_countsAs_39 (by decide) ?_
      exact k_iret C0 () hP hD hS (by rw [caK, if_pos c_7, if_neg (fun q => bI_z.mp c_21 q.1)]) dX0_countsAs_40
    · skip
      refine lv_aload_n hx hb dX0_countsAs_24 rfl (lv_at hl 0 rfl) ?_
      refine lv_iload_n hx hb dX0_countsAs_25 rfl (lv_at hl 1 rfl) ?_
      refine kcD (ans := (kdA (r 2) (r 3) (r 4) N (r 2 n) n)) C0 hP hD hS (c_X0_kindAfter l D cI a v r n N hN hN1 hn) (cwV 1 hts gX0_countsAs_X0_kindAfter rfl rfl rfl (by decide +kernel) ⟨Nat.le_of_ble_eq_true rfl, Nat.le_of_ble_eq_true rfl⟩) 1 0 rfl rfl rfl hl.1 rfl (Nat.le_of_ble_eq_true rfl) dX0_countsAs_26 ⟨Nat.zero_le _, Nat.zero_le _⟩ (fun H locs hP hD hS => ?_)
      refine kcS (ans := (bI (¬ (kdA (r 2) (r 3) (r 4) N (r 2 n) n) = -1 ∧ ¬ (kdA (r 2) (r 3) (r 4) N (r 2 n) n) = 3 ∧ ¬ (kdA (r 2) (r 3) (r 4) N (r 2 n) n) = 5 ∧ ¬ (kdA (r 2) (r 3) (r 4) N (r 2 n) n) = 6))) C0 hP hS (c_X0_bindsAhead l D cI (kdA (r 2) (r 3) (r 4) N (r 2 n) n) ) (va_cwS 1 hts gX0_countsAs_X0_bindsAhead rfl rfl rfl (by decide +kernel) ⟨Nat.le_of_ble_eq_true rfl, Nat.le_of_ble_eq_true rfl⟩) rfl hl.1 rfl (Nat.le_of_ble_eq_true rfl) dX0_countsAs_29 ⟨Nat.zero_le _, Nat.zero_le _⟩ (fun H locs hP hS => ?_)
      refine lv_if_eq (tgt := 39) hx hb dX0_countsAs_32 (by decide) (fun c_32 => ?_) (fun c_32 => ?_)
      · skip
        refine lv_iconst (v := 0) hx hb dX0_countsAs_39 (by decide) ?_
        exact k_iret C0 () hP hD hS (by rw [caK, if_pos c_7, if_neg (fun q => bI_z.mp c_32 q.2)]) dX0_countsAs_40
      · skip
        refine lv_iconst (v := 2) hx hb dX0_countsAs_35 (by decide) ?_
        refine lv_goto (tgt := 40) hx hb dX0_countsAs_36 (by decide) ?_
        exact k_iret C0 () hP hD hS (by rw [caK, if_pos c_7, if_pos ⟨bI_nz.mp c_21, bI_nz.mp c_32⟩]) dX0_countsAs_40
  · skip
    refine lv_aload_n hx hb dX0_countsAs_10 rfl (lv_at hl 0 rfl) ?_
    refine va_get (D := D) (ci := 0) (v := .ref (a 4)) (C := RX0) (T := TX0) (N := 14) hx hb hts hin_X0 hown hK hP 1 rfl rfl 5 (by decide) hf28 (fun _ h9 => h9) rfl dX0_countsAs_11 ?_
    refine lv_iload_n hx hb dX0_countsAs_14 rfl (lv_at hl 1 rfl) ?_
    refine ra_ld (f := (r 4)) C0 hP 4 rfl n rfl (by omega) (by decide) dX0_countsAs_15 ?_
    exact k_iret C0 () hP hD hS (by rw [caK, if_neg c_7]) dX0_countsAs_16

set_option maxHeartbeats 1500000 in
set_option maxRecDepth 100000 in
theorem c_X0_countedKind (l : Launch) (D : va_G) (cI : ClassId) (a : Nat → Nat) (v : Nat → Int32) (r : Nat → Nat → Int32) (n N : Nat) (hN : v 0 = nI N) (hN1 : N ≤ 120) (hn : n < N) : KD l D cI yX0_countedKind wsX0_countedKind ({ frames := 2, cells := 0, slots := 0, locals := 44 }) [.ref (a 1), .int (nI n)] (wX cI a v r) (wX cI a v r) (cnA (r 2) (r 3) (r 4) N n) := by
  refine KI.of (cc := cX0_countedKind) (nL := 4) (ret := (some .int)) (by decide) rfl (Nat.le_of_ble_eq_true rfl) ?_
  intro pg9 en9 s m args below meth cd9 A ls C0 hP hD hS hl
  have hx := C0.1.1
  have hb := C0.1.2.1
  have hml := C0.1.2.2.1
  have hown : s.vm.findClass RX0 = some m.cls := C0.1.2.2.2.1
  have hts : ∀ w ∈ wsX0_countedKind, w.before args s = true := C0.1.2.2.2.2
  have hK := C0.2.2.2.1
  have hin_X0 : ∀ w ∈ wsX00, w ∈ wsX0_countedKind := fun w h => List.mem_cons_of_mem _ (List.mem_append_right _ h)
  have hf21 : (Cond.fieldLink RX0 21 "FormulaLists$Book" "home" "[I").before args s = true := hts _ (by decide +kernel)
  have hf25 : (Cond.fieldLink RX0 25 "FormulaLists$Book" "form" "[I").before args s = true := hts _ (by decide +kernel)
  have hl : lv_has ls 4 [(0, .ref (a 1)), (1, .int (nI n))] := hl
  have hP : va_P D vwCl (wX cI a v r) s.heap := hP
  refine lv_iconst (v := (-1)) hx hb dX0_countedKind_0 (by decide) ?_
  refine lv_istore_n (lv' := [(2, .int (-1)), (0, .ref (a 1)), (1, .int (nI n))]) hx hb dX0_countedKind_1 rfl hl (by decide) rfl (fun ls hl => ?_)
  refine lv_iconst (v := 0) hx hb dX0_countedKind_2 (by decide) ?_
  refine lv_istore_n (lv' := [(3, .int 0), (2, .int (-1)), (0, .ref (a 1)), (1, .int (nI n))]) hx hb dX0_countedKind_3 rfl hl (by decide) rfl (fun ls hl => ?_)
  refine lpW (nL := 4) (A := A) (D := D) (fun z : Nat => (wX cI a v r)) (fun z : Nat => [(3, .int (nI z)), (2, .int (bfr (r 2) (r 3) (r 4) N (r 2 n) z)), (0, .ref (a 1)), (1, .int (nI n))]) (fun z : Nat => z ≤ n) (fun z : Nat => n - z) 0 hP hD hS (lv_sub hl [0, 1, 2, 3] rfl) (Nat.zero_le _) ?_
  intro k H locs ls hP hD hS hl hf ih
  have hP : va_P D vwCl (wX cI a v r) H := hP
  have hD : va_D A (wX cI a v r) := hD
  have hl : lv_has ls 4 [(3, .int (nI k)), (2, .int (bfr (r 2) (r 3) (r 4) N (r 2 n) k)), (0, .ref (a 1)), (1, .int (nI n))] := hl
  have hf : k ≤ n := hf
  have hk1 := hf
  refine lv_iload_n hx hb dX0_countedKind_4 rfl (lv_at hl 0 rfl) ?_
  refine lv_iload_n hx hb dX0_countedKind_5 rfl (lv_at hl 3 rfl) ?_
  refine lv_icmp_ge (tgt := 47) hx hb dX0_countedKind_6 (by decide) (fun c_6 => ?_) (fun c_6 => ?_)
  · skip
    have hkn : k = n := by have := (nI_leI (by omega) (by omega)).mp c_6; omega
    refine lv_aload_n hx hb dX0_countedKind_47 rfl (lv_at hl 2 rfl) ?_
    refine lv_iload_n hx hb dX0_countedKind_48 rfl (lv_at hl 3 rfl) ?_
    refine lv_iload_n hx hb dX0_countedKind_49 rfl (lv_at hl 1 rfl) ?_
    refine kcD (ans := (caK (r 4 n) (bfr (r 2) (r 3) (r 4) N (r 2 n) k) (kdA (r 2) (r 3) (r 4) N (r 2 n) n))) C0 hP hD hS (c_X0_countsAs l D cI a v r n N (bfr (r 2) (r 3) (r 4) N (r 2 n) k) hN hN1 hn) (cwV 2 hts gX0_countedKind_X0_countsAs rfl rfl rfl (by decide +kernel) ⟨Nat.le_of_ble_eq_true rfl, Nat.le_of_ble_eq_true rfl⟩) 1 0 rfl rfl rfl hl.1 rfl (Nat.le_of_ble_eq_true rfl) dX0_countedKind_50 ⟨Nat.zero_le _, Nat.zero_le _⟩ (fun H locs hP hD hS => ?_)
    exact k_iret C0 () hP hD hS (by rw [cnA, hkn]) dX0_countedKind_53
  · skip
    have hlt : k < n := Nat.not_le.mp (fun q => c_6 (nI_le q (by omega)))
    refine lv_aload_n hx hb dX0_countedKind_9 rfl (lv_at hl 2 rfl) ?_
    refine va_get (D := D) (ci := 0) (v := .ref (a 2)) (C := RX0) (T := TX0) (N := 14) hx hb hts hin_X0 hown hK hP 1 rfl rfl 3 (by decide) hf21 (fun _ h9 => h9) rfl dX0_countedKind_10 ?_
    refine lv_iload_n hx hb dX0_countedKind_13 rfl (lv_at hl 0 rfl) ?_
    refine ra_ld (f := (r 2)) C0 hP 2 rfl k rfl (by omega) (by decide) dX0_countedKind_14 ?_
    refine lv_aload_n hx hb dX0_countedKind_15 rfl (lv_at hl 2 rfl) ?_
    refine va_get (D := D) (ci := 0) (v := .ref (a 2)) (C := RX0) (T := TX0) (N := 14) hx hb hts hin_X0 hown hK hP 1 rfl rfl 3 (by decide) hf21 (fun _ h9 => h9) rfl dX0_countedKind_16 ?_
    refine lv_iload_n hx hb dX0_countedKind_19 rfl (lv_at hl 3 rfl) ?_
    refine ra_ld (f := (r 2)) C0 hP 2 rfl n rfl (by omega) (by decide) dX0_countedKind_20 ?_
    refine lv_icmp_ne (tgt := 41) hx hb dX0_countedKind_21 (by decide) (fun c_21 => ?_) (fun c_21 => ?_)
    · skip
      refine lv_iinc (v := (nI (k + 1))) (lv' := [(3, .int (nI (k + 1))), (2, .int (bfr (r 2) (r 3) (r 4) N (r 2 n) k)), (0, .ref (a 1)), (1, .int (nI n))]) hx hb dX0_countedKind_41 hl (k := 0) rfl (k_inc k) (by decide) rfl (fun ls hl => ?_)
      refine lv_goto (tgt := 4) hx hb dX0_countedKind_44 (by decide) ?_
      have hl2 : lv_has ls 4 [(3, .int (nI (k + 1))), (2, .int (bfr (r 2) (r 3) (r 4) N (r 2 n) (k + 1))), (0, .ref (a 1)), (1, .int (nI n))] := by rw [bf_no (fun q => c_21 q.1)]; exact lv_sub hl [0, 1, 2, 3] rfl
      exact ih (k + 1) _ _ _ hP hD hS hl2 hlt (show n - (k + 1) < n - k by omega)
    · skip
      refine lv_aload_n hx hb dX0_countedKind_24 rfl (lv_at hl 2 rfl) ?_
      refine va_get (D := D) (ci := 0) (v := .ref (a 3)) (C := RX0) (T := TX0) (N := 14) hx hb hts hin_X0 hown hK hP 1 rfl rfl 4 (by decide) hf25 (fun _ h9 => h9) rfl dX0_countedKind_25 ?_
      refine lv_iload_n hx hb dX0_countedKind_28 rfl (lv_at hl 0 rfl) ?_
      refine ra_ld (f := (r 3)) C0 hP 3 rfl k rfl (by omega) (by decide) dX0_countedKind_29 ?_
      refine lv_iconst (v := 4) hx hb dX0_countedKind_30 (by decide) ?_
      refine lv_icmp_eq (tgt := 41) hx hb dX0_countedKind_31 (by decide) (fun c_31 => ?_) (fun c_31 => ?_)
      · skip
        refine lv_iinc (v := (nI (k + 1))) (lv' := [(3, .int (nI (k + 1))), (2, .int (bfr (r 2) (r 3) (r 4) N (r 2 n) k)), (0, .ref (a 1)), (1, .int (nI n))]) hx hb dX0_countedKind_41 hl (k := 0) rfl (k_inc k) (by decide) rfl (fun ls hl => ?_)
        refine lv_goto (tgt := 4) hx hb dX0_countedKind_44 (by decide) ?_
        have hl2 : lv_has ls 4 [(3, .int (nI (k + 1))), (2, .int (bfr (r 2) (r 3) (r 4) N (r 2 n) (k + 1))), (0, .ref (a 1)), (1, .int (nI n))] := by rw [bf_no (fun q => q.2 c_31)]; exact lv_sub hl [0, 1, 2, 3] rfl
        exact ih (k + 1) _ _ _ hP hD hS hl2 hlt (show n - (k + 1) < n - k by omega)
      · skip
        refine lv_aload_n hx hb dX0_countedKind_34 rfl (lv_at hl 2 rfl) ?_
        refine lv_iload_n hx hb dX0_countedKind_35 rfl (lv_at hl 0 rfl) ?_
        refine lv_iload_n hx hb dX0_countedKind_36 rfl (lv_at hl 1 rfl) ?_
        refine kcD (ans := (caK (r 4 k) (bfr (r 2) (r 3) (r 4) N (r 2 n) k) (kdA (r 2) (r 3) (r 4) N (r 2 k) k))) C0 hP hD hS (c_X0_countsAs l D cI a v r k N (bfr (r 2) (r 3) (r 4) N (r 2 n) k) hN hN1 (show k < N by omega)) (cwV 2 hts gX0_countedKind_X0_countsAs rfl rfl rfl (by decide +kernel) ⟨Nat.le_of_ble_eq_true rfl, Nat.le_of_ble_eq_true rfl⟩) 1 0 rfl rfl rfl hl.1 rfl (Nat.le_of_ble_eq_true rfl) dX0_countedKind_37 ⟨Nat.zero_le _, Nat.zero_le _⟩ (fun H locs hP hD hS => ?_)
        refine lv_istore_n (lv' := [(2, .int (caK (r 4 k) (bfr (r 2) (r 3) (r 4) N (r 2 n) k) (kdA (r 2) (r 3) (r 4) N (r 2 k) k))), (3, .int (nI k)), (0, .ref (a 1)), (1, .int (nI n))]) hx hb dX0_countedKind_40 rfl hl (by decide) rfl (fun ls hl => ?_)
        refine lv_iinc (v := (nI (k + 1))) (lv' := [(3, .int (nI (k + 1))), (2, .int (caK (r 4 k) (bfr (r 2) (r 3) (r 4) N (r 2 n) k) (kdA (r 2) (r 3) (r 4) N (r 2 k) k))), (0, .ref (a 1)), (1, .int (nI n))]) hx hb dX0_countedKind_41 hl (k := 1) rfl (k_inc k) (by decide) rfl (fun ls hl => ?_)
        refine lv_goto (tgt := 4) hx hb dX0_countedKind_44 (by decide) ?_
        have hl2 : lv_has ls 4 [(3, .int (nI (k + 1))), (2, .int (bfr (r 2) (r 3) (r 4) N (r 2 n) (k + 1))), (0, .ref (a 1)), (1, .int (nI n))] := by rw [show bfr (r 2) (r 3) (r 4) N (r 2 n) (k + 1) = caK (r 4 k) (bfr (r 2) (r 3) (r 4) N (r 2 n) k) (kdA (r 2) (r 3) (r 4) N (r 2 k) k) by rw [bfr, if_pos ⟨c_21, c_31⟩, c_21]]; exact lv_sub hl [0, 1, 2, 3] rfl
        exact ih (k + 1) _ _ _ hP hD hS hl2 hlt (show n - (k + 1) < n - k by omega)

set_option maxHeartbeats 1500000 in
set_option maxRecDepth 100000 in
theorem c_X0_relationOf (l : Launch) (D : va_G) (cI : ClassId) (a : Nat → Nat) (v : Nat → Int32) (r : Nat → Nat → Int32) (x y : Int32) (N : Nat) (hN : v 0 = nI N) (hN1 : N ≤ 120) : KD l D cI yX0_relationOf wsX0_relationOf ({ frames := 0, cells := 0, slots := 0, locals := 0 }) [.ref (a 1), .int x, .int y] (wX cI a v r) (wX cI a v r) ((rlS r x y N).2) := by
  refine KI.of (cc := cX0_relationOf) (nL := 5) (ret := (some .int)) (by decide) rfl (Nat.le_of_ble_eq_true rfl) ?_
  intro pg9 en9 s m args below meth cd9 A ls C0 hP hD hS hl
  have hx := C0.1.1
  have hb := C0.1.2.1
  have hml := C0.1.2.2.1
  have hown : s.vm.findClass RX0 = some m.cls := C0.1.2.2.2.1
  have hts : ∀ w ∈ wsX0_relationOf, w.before args s = true := C0.1.2.2.2.2
  have hK := C0.2.2.2.1
  have hin_X0 : ∀ w ∈ wsX00, w ∈ wsX0_relationOf := fun w h => List.mem_cons_of_mem _ (List.mem_append_right _ h)
  have hf9 : (Cond.fieldLink RX0 9 "FormulaLists$Book" "nodes" "I").before args s = true := hts _ (by decide +kernel)
  have hf21 : (Cond.fieldLink RX0 21 "FormulaLists$Book" "home" "[I").before args s = true := hts _ (by decide +kernel)
  have hf25 : (Cond.fieldLink RX0 25 "FormulaLists$Book" "form" "[I").before args s = true := hts _ (by decide +kernel)
  have hf28 : (Cond.fieldLink RX0 28 "FormulaLists$Book" "ownKind" "[I").before args s = true := hts _ (by decide +kernel)
  have hl : lv_has ls 5 [(0, .ref (a 1)), (1, .int x), (2, .int y)] := hl
  have hP : va_P D vwCl (wX cI a v r) s.heap := hP
  refine lv_iconst (v := 0) hx hb dX0_relationOf_0 (by decide) ?_
  refine lv_istore_n (lv' := [(3, .int 0), (0, .ref (a 1)), (1, .int x), (2, .int y)]) hx hb dX0_relationOf_1 rfl hl (by decide) rfl (fun ls hl => ?_)
  refine lv_iconst (v := 0) hx hb dX0_relationOf_2 (by decide) ?_
  refine lv_istore (lv' := [(4, .int 0), (3, .int 0), (0, .ref (a 1)), (1, .int x), (2, .int y)]) hx hb dX0_relationOf_3 hl (by decide) rfl (fun ls hl => ?_)
  refine lpW (nL := 5) (A := A) (D := D) (fun z : Nat => (wX cI a v r)) (fun z : Nat => [(4, .int (nI z)), (3, .int ((rlS r x y z).1)), (0, .ref (a 1)), (1, .int x), (2, .int y)]) (fun z : Nat => z ≤ N ∧ (rlS r x y z).2 = -1) (fun z : Nat => N - z) 0 hP hD hS (lv_sub hl [0, 1, 2, 3, 4] rfl) ⟨Nat.zero_le _, rfl⟩ ?_
  intro k H locs ls hP hD hS hl hf ih
  have hP : va_P D vwCl (wX cI a v r) H := hP
  have hD : va_D A (wX cI a v r) := hD
  have hl : lv_has ls 5 [(4, .int (nI k)), (3, .int ((rlS r x y k).1)), (0, .ref (a 1)), (1, .int x), (2, .int y)] := hl
  have hf : k ≤ N ∧ (rlS r x y k).2 = -1 := hf
  obtain ⟨hk1, hm⟩ := hf
  refine lv_iload hx hb dX0_relationOf_5 (lv_at hl 0 rfl) ?_
  refine lv_aload_n hx hb dX0_relationOf_7 rfl (lv_at hl 2 rfl) ?_
  refine va_get (D := D) (ci := 0) (v := .int (v 0)) (C := RX0) (T := TX0) (N := 14) hx hb hts hin_X0 hown hK hP 1 rfl rfl 0 (by decide) hf9 (fun _ h9 => h9) rfl dX0_relationOf_8 ?_
  refine lv_eqi hN ?_
  refine lv_icmp_ge (tgt := 64) hx hb dX0_relationOf_11 (by decide) (fun c_11 => ?_) (fun c_11 => ?_)
  · skip
    have hkN : k = N := by have := (nI_leI (by omega) (by omega)).mp c_11; omega
    refine lv_iconst (v := (-1)) hx hb dX0_relationOf_64 (by decide) ?_
    exact k_iret C0 () hP hD hS (by rw [← hkN]; exact hm.symm) dX0_relationOf_65
  · skip
    have hlt : k < N := Nat.not_le.mp (fun q => c_11 (nI_le q (by omega)))
    refine lv_aload_n hx hb dX0_relationOf_14 rfl (lv_at hl 2 rfl) ?_
    refine va_get (D := D) (ci := 0) (v := .ref (a 2)) (C := RX0) (T := TX0) (N := 14) hx hb hts hin_X0 hown hK hP 1 rfl rfl 3 (by decide) hf21 (fun _ h9 => h9) rfl dX0_relationOf_15 ?_
    refine lv_iload hx hb dX0_relationOf_18 (lv_at hl 0 rfl) ?_
    refine ra_ld (f := (r 2)) C0 hP 2 rfl k rfl (by omega) (by decide) dX0_relationOf_20 ?_
    refine lv_iload_n hx hb dX0_relationOf_21 rfl (lv_at hl 3 rfl) ?_
    refine lv_icmp_ne (tgt := 58) hx hb dX0_relationOf_22 (by decide) (fun c_22 => ?_) (fun c_22 => ?_)
    · skip
      refine lv_iinc (v := (nI (k + 1))) (lv' := [(4, .int (nI (k + 1))), (3, .int ((rlS r x y k).1)), (0, .ref (a 1)), (1, .int x), (2, .int y)]) hx hb dX0_relationOf_58 hl (k := 0) rfl (k_inc k) (by decide) rfl (fun ls hl => ?_)
      refine lv_goto (tgt := 5) hx hb dX0_relationOf_61 (by decide) ?_
      have hl2 : lv_has ls 5 [(4, .int (nI (k + 1))), (3, .int ((rlS r x y (k + 1)).1)), (0, .ref (a 1)), (1, .int x), (2, .int y)] := by rw [rl_no (fun q => c_22 q.1)]; exact lv_sub hl [0, 1, 2, 3, 4] rfl
      exact ih (k + 1) _ _ _ hP hD hS hl2 ⟨hlt, by rw [rl_no (fun q => c_22 q.1)]; exact hm⟩ (show N - (k + 1) < N - k by omega)
    · skip
      refine lv_aload_n hx hb dX0_relationOf_25 rfl (lv_at hl 2 rfl) ?_
      refine va_get (D := D) (ci := 0) (v := .ref (a 3)) (C := RX0) (T := TX0) (N := 14) hx hb hts hin_X0 hown hK hP 1 rfl rfl 4 (by decide) hf25 (fun _ h9 => h9) rfl dX0_relationOf_26 ?_
      refine lv_iload hx hb dX0_relationOf_29 (lv_at hl 0 rfl) ?_
      refine ra_ld (f := (r 3)) C0 hP 3 rfl k rfl (by omega) (by decide) dX0_relationOf_31 ?_
      refine lv_iconst (v := 4) hx hb dX0_relationOf_32 (by decide) ?_
      refine lv_icmp_eq (tgt := 58) hx hb dX0_relationOf_33 (by decide) (fun c_33 => ?_) (fun c_33 => ?_)
      · skip
        refine lv_iinc (v := (nI (k + 1))) (lv' := [(4, .int (nI (k + 1))), (3, .int ((rlS r x y k).1)), (0, .ref (a 1)), (1, .int x), (2, .int y)]) hx hb dX0_relationOf_58 hl (k := 0) rfl (k_inc k) (by decide) rfl (fun ls hl => ?_)
        refine lv_goto (tgt := 5) hx hb dX0_relationOf_61 (by decide) ?_
        have hl2 : lv_has ls 5 [(4, .int (nI (k + 1))), (3, .int ((rlS r x y (k + 1)).1)), (0, .ref (a 1)), (1, .int x), (2, .int y)] := by rw [rl_no (fun q => q.2.1 c_33)]; exact lv_sub hl [0, 1, 2, 3, 4] rfl
        exact ih (k + 1) _ _ _ hP hD hS hl2 ⟨hlt, by rw [rl_no (fun q => q.2.1 c_33)]; exact hm⟩ (show N - (k + 1) < N - k by omega)
      · skip
        refine lv_aload_n hx hb dX0_relationOf_36 rfl (lv_at hl 2 rfl) ?_
        refine va_get (D := D) (ci := 0) (v := .ref (a 4)) (C := RX0) (T := TX0) (N := 14) hx hb hts hin_X0 hown hK hP 1 rfl rfl 5 (by decide) hf28 (fun _ h9 => h9) rfl dX0_relationOf_37 ?_
        refine lv_iload hx hb dX0_relationOf_40 (lv_at hl 0 rfl) ?_
        refine ra_ld (f := (r 4)) C0 hP 4 rfl k rfl (by omega) (by decide) dX0_relationOf_42 ?_
        refine lv_iconst (v := 3) hx hb dX0_relationOf_43 (by decide) ?_
        refine lv_icmp_ne (tgt := 58) hx hb dX0_relationOf_44 (by decide) (fun c_44 => ?_) (fun c_44 => ?_)
        · skip
          refine lv_iinc (v := (nI (k + 1))) (lv' := [(4, .int (nI (k + 1))), (3, .int ((rlS r x y k).1)), (0, .ref (a 1)), (1, .int x), (2, .int y)]) hx hb dX0_relationOf_58 hl (k := 0) rfl (k_inc k) (by decide) rfl (fun ls hl => ?_)
          refine lv_goto (tgt := 5) hx hb dX0_relationOf_61 (by decide) ?_
          have hl2 : lv_has ls 5 [(4, .int (nI (k + 1))), (3, .int ((rlS r x y (k + 1)).1)), (0, .ref (a 1)), (1, .int x), (2, .int y)] := by rw [rl_no (fun q => c_44 q.2.2)]; exact lv_sub hl [0, 1, 2, 3, 4] rfl
          exact ih (k + 1) _ _ _ hP hD hS hl2 ⟨hlt, by rw [rl_no (fun q => c_44 q.2.2)]; exact hm⟩ (show N - (k + 1) < N - k by omega)
        · skip
          refine lv_iload_n hx hb dX0_relationOf_47 rfl (lv_at hl 1 rfl) ?_
          refine lv_iload_n hx hb dX0_relationOf_48 rfl (lv_at hl 4 rfl) ?_
          refine lv_icmp_ne (tgt := 55) hx hb dX0_relationOf_49 (by decide) (fun c_49 => ?_) (fun c_49 => ?_)
          · skip
            refine lv_iinc (v := ((rlS r x y k).1 + 1)) (lv' := [(3, .int ((rlS r x y k).1 + 1)), (4, .int (nI k)), (0, .ref (a 1)), (1, .int x), (2, .int y)]) hx hb dX0_relationOf_55 hl (k := 1) rfl rfl (by decide) rfl (fun ls hl => ?_)
            refine lv_iinc (v := (nI (k + 1))) (lv' := [(4, .int (nI (k + 1))), (3, .int ((rlS r x y k).1 + 1)), (0, .ref (a 1)), (1, .int x), (2, .int y)]) hx hb dX0_relationOf_58 hl (k := 1) rfl (k_inc k) (by decide) rfl (fun ls hl => ?_)
            refine lv_goto (tgt := 5) hx hb dX0_relationOf_61 (by decide) ?_
            have hl2 : lv_has ls 5 [(4, .int (nI (k + 1))), (3, .int ((rlS r x y (k + 1)).1)), (0, .ref (a 1)), (1, .int x), (2, .int y)] := by rw [rl_ye ⟨c_22, c_33, c_44⟩]; exact lv_sub hl [0, 1, 2, 3, 4] rfl
            exact ih (k + 1) _ _ _ hP hD hS hl2 ⟨hlt, by rw [rl_ye ⟨c_22, c_33, c_44⟩]; show (if (rlS r x y k).1 = y then nI k else (rlS r x y k).2) = -1; rw [if_neg c_49]; exact hm⟩ (show N - (k + 1) < N - k by omega)
          · skip
            refine lv_iload hx hb dX0_relationOf_52 (lv_at hl 0 rfl) ?_
            exact k_iret C0 () hP hD hS ((rl_fi ⟨c_22, c_33, c_44⟩ c_49 N hlt hN1).1.symm) dX0_relationOf_54

set_option maxHeartbeats 1500000 in
set_option maxRecDepth 100000 in
theorem c_X0_moveFrom (l : Launch) (D : va_G) (cI : ClassId) (a : Nat → Nat) (v : Nat → Int32) (r : Nat → Nat → Int32) (a0 N : Nat) (x y : Int32) (hN : v 0 = nI N) (hN1 : N ≤ 120) (ha : a0 ≤ N) : KDv l D cI yX0_moveFrom wsX0_moveFrom ({ frames := 0, cells := 0, slots := 0, locals := 0 }) [.ref (a 1), .int (nI a0), .int x, .int y] (wX cI a v r) (wX cI a v (rU r 2 (mvF (r 2) x y a0 N))) := by
  refine KV.of (cc := cX0_moveFrom) (nL := 5) (ret := none) (by decide) rfl (Nat.le_of_ble_eq_true rfl) ?_
  intro pg9 en9 s m args below meth cd9 A ls C0 hP hD hS hl
  have hx := C0.1.1
  have hb := C0.1.2.1
  have hml := C0.1.2.2.1
  have hown : s.vm.findClass RX0 = some m.cls := C0.1.2.2.2.1
  have hts : ∀ w ∈ wsX0_moveFrom, w.before args s = true := C0.1.2.2.2.2
  have hK := C0.2.2.2.1
  have hin_X0 : ∀ w ∈ wsX00, w ∈ wsX0_moveFrom := fun w h => List.mem_cons_of_mem _ (List.mem_append_right _ h)
  have hf9 : (Cond.fieldLink RX0 9 "FormulaLists$Book" "nodes" "I").before args s = true := hts _ (by decide +kernel)
  have hf21 : (Cond.fieldLink RX0 21 "FormulaLists$Book" "home" "[I").before args s = true := hts _ (by decide +kernel)
  have hl : lv_has ls 5 [(0, .ref (a 1)), (1, .int (nI a0)), (2, .int x), (3, .int y)] := hl
  have hP : va_P D vwCl (wX cI a v r) s.heap := hP
  refine lv_iload_n hx hb dX0_moveFrom_0 rfl (lv_at hl 1 rfl) ?_
  refine lv_istore (lv' := [(4, .int (nI a0)), (0, .ref (a 1)), (1, .int (nI a0)), (2, .int x), (3, .int y)]) hx hb dX0_moveFrom_1 hl (by decide) rfl (fun ls hl => ?_)
  refine lpW (nL := 5) (A := A) (D := D) (fun z : Nat => (wX cI a v (rU r 2 (mvF (r 2) x y a0 z)))) (fun z : Nat => [(4, .int (nI z)), (0, .ref (a 1)), (1, .int (nI a0)), (2, .int x), (3, .int y)]) (fun z : Nat => a0 ≤ z ∧ z ≤ N) (fun z : Nat => N - z) a0 (by rw [mv_0]; exact hP) (by rw [mv_0]; exact hD) hS (lv_sub hl [0, 1, 2, 3, 4] rfl) ⟨Nat.le_refl _, ha⟩ ?_
  intro k H locs ls hP hD hS hl hf ih
  have hP : va_P D vwCl (wX cI a v (rU r 2 (mvF (r 2) x y a0 k))) H := hP
  have hD : va_D A (wX cI a v (rU r 2 (mvF (r 2) x y a0 k))) := hD
  have hl : lv_has ls 5 [(4, .int (nI k)), (0, .ref (a 1)), (1, .int (nI a0)), (2, .int x), (3, .int y)] := hl
  have hf : a0 ≤ k ∧ k ≤ N := hf
  obtain ⟨hka, hk2⟩ := hf
  refine lv_iload hx hb dX0_moveFrom_3 (lv_at hl 0 rfl) ?_
  refine lv_aload_n hx hb dX0_moveFrom_5 rfl (lv_at hl 1 rfl) ?_
  refine va_get (D := D) (ci := 0) (v := .int (v 0)) (C := RX0) (T := TX0) (N := 14) hx hb hts hin_X0 hown hK hP 1 rfl rfl 0 (by decide) hf9 (fun _ h9 => h9) rfl dX0_moveFrom_6 ?_
  refine lv_eqi hN ?_
  refine lv_icmp_ge (tgt := 37) hx hb dX0_moveFrom_9 (by decide) (fun c_9 => ?_) (fun c_9 => ?_)
  · skip
    have hkN : k = N := by have := (nI_leI (by omega) (by omega)).mp c_9; omega
    have q2 : (mvF (r 2) x y a0 k) = (mvF (r 2) x y a0 N) := (by rw [hkN])
    have hw : (wX cI a v (rU r 2 (mvF (r 2) x y a0 k))) = (wX cI a v (rU r 2 (mvF (r 2) x y a0 N))) := by rw [q2]
    have hP : va_P D vwCl (wX cI a v (rU r 2 (mvF (r 2) x y a0 N))) H := hw ▸ hP
    have hD : va_D A (wX cI a v (rU r 2 (mvF (r 2) x y a0 N))) := hw ▸ hD
    exact k_vret C0 () hP hD hS trivial dX0_moveFrom_37
  · skip
    have hlt : k < N := Nat.not_le.mp (fun q => c_9 (nI_le q (by omega)))
    refine lv_aload_n hx hb dX0_moveFrom_12 rfl (lv_at hl 1 rfl) ?_
    refine va_get (D := D) (ci := 0) (v := .ref (a 2)) (C := RX0) (T := TX0) (N := 14) hx hb hts hin_X0 hown hK hP 1 rfl rfl 3 (by decide) hf21 (fun _ h9 => h9) rfl dX0_moveFrom_13 ?_
    refine lv_iload hx hb dX0_moveFrom_16 (lv_at hl 0 rfl) ?_
    refine ra_ld (f := (mvF (r 2) x y a0 k)) C0 hP 2 rfl k rfl (by omega) (by decide) dX0_moveFrom_18 ?_
    refine lv_iload_n hx hb dX0_moveFrom_19 rfl (lv_at hl 3 rfl) ?_
    refine lv_icmp_ne (tgt := 31) hx hb dX0_moveFrom_20 (by decide) (fun c_20 => ?_) (fun c_20 => ?_)
    · skip
      refine lv_iinc (v := (nI (k + 1))) (lv' := [(4, .int (nI (k + 1))), (0, .ref (a 1)), (1, .int (nI a0)), (2, .int x), (3, .int y)]) hx hb dX0_moveFrom_31 hl (k := 0) rfl (k_inc k) (by decide) rfl (fun ls hl => ?_)
      refine lv_goto (tgt := 3) hx hb dX0_moveFrom_34 (by decide) ?_
      have hw : (wX cI a v (rU r 2 (mvF (r 2) x y a0 k))) = (wX cI a v (rU r 2 (mvF (r 2) x y a0 (k + 1)))) := by rw [mv_n hka c_20]
      have hP : va_P D vwCl (wX cI a v (rU r 2 (mvF (r 2) x y a0 (k + 1)))) _ := hw ▸ hP
      have hD : va_D A (wX cI a v (rU r 2 (mvF (r 2) x y a0 (k + 1)))) := hw ▸ hD
      exact ih (k + 1) _ _ _ hP hD hS (lv_sub hl [0, 1, 2, 3, 4] rfl) ⟨by omega, hlt⟩ (show N - (k + 1) < N - k by omega)
    · skip
      refine lv_aload_n hx hb dX0_moveFrom_23 rfl (lv_at hl 1 rfl) ?_
      refine va_get (D := D) (ci := 0) (v := .ref (a 2)) (C := RX0) (T := TX0) (N := 14) hx hb hts hin_X0 hown hK hP 1 rfl rfl 3 (by decide) hf21 (fun _ h9 => h9) rfl dX0_moveFrom_24 ?_
      refine lv_iload hx hb dX0_moveFrom_27 (lv_at hl 0 rfl) ?_
      refine lv_iload_n hx hb dX0_moveFrom_29 rfl (lv_at hl 4 rfl) ?_
      refine ra_st (f := (mvF (r 2) x y a0 k)) C0 hP hD hS 2 rfl k rfl (by omega) (by decide) dX0_moveFrom_30 (fun H locs hP hD hS => ?_)
      have hset : ∀ (f2_ : Nat → Int32) (g_ : Nat → Int32), (wX cI a v (rU r 2 f2_)).set 2 (a 2, .inl (cI, 120, .inl g_)) = (wX cI a v (rU r 2 g_)) := fun _ _ => rfl
      rw [hset] at hP hD
      refine lv_iinc (v := (nI (k + 1))) (lv' := [(4, .int (nI (k + 1))), (0, .ref (a 1)), (1, .int (nI a0)), (2, .int x), (3, .int y)]) hx hb dX0_moveFrom_31 hl (k := 0) rfl (k_inc k) (by decide) rfl (fun ls hl => ?_)
      refine lv_goto (tgt := 3) hx hb dX0_moveFrom_34 (by decide) ?_
      have hw : (wX cI a v (rU r 2 (upd (mvF (r 2) x y a0 k) k y))) = (wX cI a v (rU r 2 (mvF (r 2) x y a0 (k + 1)))) := by rw [mv_y hka c_20]
      have hP : va_P D vwCl (wX cI a v (rU r 2 (mvF (r 2) x y a0 (k + 1)))) _ := hw ▸ hP
      have hD : va_D A (wX cI a v (rU r 2 (mvF (r 2) x y a0 (k + 1)))) := hw ▸ hD
      exact ih (k + 1) _ _ _ hP hD hS (lv_sub hl [0, 1, 2, 3, 4] rfl) ⟨by omega, hlt⟩ (show N - (k + 1) < N - k by omega)
