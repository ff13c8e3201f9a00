theorem jx_lc {n j : Nat} {u w : Rw} {t : T3} {x y : Int32} (hl : LC n u w) (hj : j < 30) (h : BM u j t ∧ u 16 j = x ∧ u 17 j = y) : BM w j t ∧ w 16 j = x ∧ w 17 j = y := by
  have s := hl j (by omega)
  exact ⟨⟨s.1.trans h.1.1, s.2.1.trans h.1.2.1, s.2.2.1.trans h.1.2.2⟩, s.2.2.2.1.trans h.2.1, s.2.2.2.2.trans h.2.2⟩
theorem lc_it {n c : Nat} {u : Rw} {x y z : Int32} : LC n u (itR u c x y z) := by unfold itR; exact lc_19
theorem lc_rf {n : Nat} {u : Rw} : LC n u u := fun b _ => SX.rf u b

set_option maxHeartbeats 1500000 in
set_option maxRecDepth 100000 in
theorem c_X3_layFence_11 (l : Launch) (D : va_G) (cI : ClassId) (a : Nat → Nat) (v : Nat → Int32) (r : Nat → Nat → Int32) (q : Rw) (N n k d lv : Nat) (dp sl : Nat → Nat) (lev cr : Int32) (c : Nat) (hM : HLL l D cI a q N dp d) (hT : LY q N dp sl) (hr : RQ q N v r) (hN : v 0 = nI N) (hnN : n < N) (hk : k < 30) (e2 : q 2 n = nI k) (hd : 29 ≤ d + dp k) (hlv : lv ≤ dp k) (hlev : lvO lev) (hf3 : q 3 n = 2) (e13 : BM r (30 + n) (0, 0, 0)) (h16 : r 16 (30 + n) = nI c) (h17 : r 17 (30 + n) = nI c) (hcl : c + (pFe (ML q N d) (PL q N d) q n lev cr 0 0).length ≤ 150) (hl0 : ¬ q 5 n = 0) (hr0 : ¬ q 7 n = 0) : KV l D cI yX3_layFence wsX3_layFence (rxF d) [.ref (a 20), .int (nI n), .int lev, .int cr, .int (nI lv)] (wX cI a (vU v 4 (nI c)) r) (fun u : Rw => wX cI a (vU v 4 (nI (c + (pFe (ML q N d) (PL q N d) q n lev cr 0 0).length))) u) (fun u => ATP q r (r 19) n c (mFe (ML q N d) q n lev cr) (pFe (ML q N d) (PL q N d) q n lev cr 0 0) u) := by
  refine KV.of (cc := cX3_layFence) (nL := 12) (ret := none) (by decide) rfl (Nat.le_of_ble_eq_true rfl) ?_
  intro pg9 en9 s m args below meth cd9 A ls C0 hP hD hS hl
  have hx := C0.1.1
  have hb := C0.1.2.1
  have hml := C0.1.2.2.1
  have hown : s.vm.findClass RX3 = some m.cls := C0.1.2.2.2.1
  have hts : ∀ w ∈ wsX3_layFence, w.before args s = true := C0.1.2.2.2.2
  have hK := C0.2.2.2.1
  have hin_X3 : ∀ w ∈ wsX30, w ∈ wsX3_layFence := fun w h => List.mem_cons_of_mem _ (List.mem_append_left _ (List.mem_append_left _ (List.mem_append_left _ (List.mem_append_right _ h))))
  have hf35 : (Cond.fieldLink RX3 35 "FormulaLists$Layout" "book" "LFormulaLists$Book;").before args s = true := hts _ (by decide +kernel)
  have hin_X0 : ∀ w ∈ wsX00, w ∈ wsX3_layFence := fun w h => List.mem_cons_of_mem _ (List.mem_append_left _ (List.mem_append_right _ h))
  have hf71 : (Cond.fieldLink RX3 71 "FormulaLists$Book" "second" "[I").before args s = true := hts _ (by decide +kernel)
  have hf68 : (Cond.fieldLink RX3 68 "FormulaLists$Book" "first" "[I").before args s = true := hts _ (by decide +kernel)
  have hf170 : (Cond.fieldLink RX3 170 "FormulaLists$Book" "third" "[I").before args s = true := hts _ (by decide +kernel)
  have hf12 : (Cond.fieldLink RX3 12 "FormulaLists$Layout" "boxes" "LFormulaLists$Boxes;").before args s = true := hts _ (by decide +kernel)
  have hin_X1 : ∀ w ∈ wsX10, w ∈ wsX3_layFence := fun w h => List.mem_cons_of_mem _ (List.mem_append_right _ h)
  have hf49 : (Cond.fieldLink RX3 49 "FormulaLists$Boxes" "height" "[I").before args s = true := hts _ (by decide +kernel)
  have hf51 : (Cond.fieldLink RX3 51 "FormulaLists$Boxes" "depth" "[I").before args s = true := hts _ (by decide +kernel)
  have hf46 : (Cond.fieldLink RX3 46 "FormulaLists$Boxes" "width" "[I").before args s = true := hts _ (by decide +kernel)
  have hf21 : (Cond.fieldLink RX3 21 "FormulaLists$Layout" "items" "LFormulaLists$Items;").before args s = true := hts _ (by decide +kernel)
  have hl : lv_has ls 12 [(0, .ref (a 20)), (1, .int (nI n)), (2, .int lev), (3, .int cr), (4, .int (nI lv))] := hl
  have hP : va_P D vwCl (wX cI a (vU v 4 (nI c)) r) s.heap := hP
  have h9 := hT.1
  have hn : n < 120 := by omega
  have hnd := (hT.2.2.2.2 n hnN).2.2.2
  have hnm : ¬ q 3 n = 3 := by rw [hf3]; decide
  obtain ⟨⟨j, hj, ej⟩, hq0, hq1, hq2, hq3, hq4⟩ : isLs (q 6 n) ∧ 0 ≤ q 5 n ∧ q 5 n ≤ 5 ∧ 0 ≤ q 7 n ∧ q 7 n ≤ 5 ∧ ¬ (q 5 n = 0 ∧ q 7 n = 0) := by rcases hnd with h | h | h | h | h; exact absurd (hf3.symm.trans h.1) (by decide); exact absurd (hf3.symm.trans h.1) (by decide); exact h.2; exact absurd (hf3.symm.trans h.1) (by decide); exact absurd (hf3.symm.trans h.1) (by decide)
  obtain ⟨a7, a8, a9⟩ := hr.2.1 n hnN hnm
  have a8 : r 8 n = nI j := a8.trans ej
  have hfj : FLD q n 1 j := ⟨hj, Or.inr (Or.inl ⟨rfl, Or.inr hf3, ej⟩)⟩
  have hl1 : ¬ q 5 n ≤ 0 := not_le0 hq0 hl0
  have hr1 : ¬ q 7 n ≤ 0 := not_le0 hq2 hr0
  have hcl2 := hcl
  rw [pFe_len ej, if_neg hl1, if_neg hr1] at hcl2
  have hp0 := pb_0 (q := q) (c := c) e13 h16
  refine lv_aload_n hx hb dX3_layFence_0 rfl (lv_at hl 0 rfl) ?_
  refine va_get (D := D) (ci := 3) (v := .ref (a 1)) (C := RX3) (T := TX3) (N := 6) hx hb hts hin_X3 hown hK hP 20 rfl rfl 0 (by decide) hf35 (fun _ h9 => h9) rfl dX3_layFence_1 ?_
  refine va_get (D := D) (ci := 0) (v := .ref (a 8)) (C := RX0) (T := TX0) (N := 14) hx hb hts hin_X0 hown hK hP 1 rfl rfl 9 (by decide) hf71 (fun _ h9 => h9) rfl dX3_layFence_4 ?_
  refine lv_iload_n hx hb dX3_layFence_7 rfl (lv_at hl 1 rfl) ?_
  refine ra_ld (f := (r 8)) C0 hP 8 rfl n rfl (by omega) (by decide) dX3_layFence_8 ?_
  refine lv_eqi a8 ?_
  refine lv_istore (lv' := [(5, .int (nI j)), (0, .ref (a 20)), (1, .int (nI n)), (2, .int lev), (3, .int cr), (4, .int (nI lv))]) hx hb dX3_layFence_9 hl (by decide) rfl (fun ls hl => ?_)
  refine lv_aload_n hx hb dX3_layFence_11 rfl (lv_at hl 1 rfl) ?_
  refine lv_iload_n hx hb dX3_layFence_12 rfl (lv_at hl 2 rfl) ?_
  refine lv_aload_n hx hb dX3_layFence_13 rfl (lv_at hl 1 rfl) ?_
  refine va_get (D := D) (ci := 3) (v := .ref (a 1)) (C := RX3) (T := TX3) (N := 6) hx hb hts hin_X3 hown hK hP 20 rfl rfl 0 (by decide) hf35 (fun _ h9 => h9) rfl dX3_layFence_14 ?_
  refine va_get (D := D) (ci := 0) (v := .ref (a 7)) (C := RX0) (T := TX0) (N := 14) hx hb hts hin_X0 hown hK hP 1 rfl rfl 8 (by decide) hf68 (fun _ h9 => h9) rfl dX3_layFence_17 ?_
  refine lv_iload_n hx hb dX3_layFence_20 rfl (lv_at hl 2 rfl) ?_
  refine ra_ld (f := (r 7)) C0 hP 7 rfl n rfl (by omega) (by decide) dX3_layFence_21 ?_
  refine lv_eqi a7 ?_
  refine kcD (ans := (nI c)) C0 hP hD hS (c_X3_addDelimiter_1 l D cI a v r n c (q 5 n) hl0 (by omega)) (cwV 2 hts gX3_layFence_X3_addDelimiter rfl rfl rfl (by decide +kernel) ⟨by dsimp only [rxL, rxF, rxA]; omega, by dsimp only [rxL, rxF, rxA]; omega⟩) 20 3 rfl rfl rfl hl.1 rfl (Nat.le_of_ble_eq_true rfl) dX3_layFence_22 ⟨Nat.zero_le _, Nat.zero_le _⟩ (fun H locs hP hD hS => ?_)
  have hP : va_P D vwCl (wX cI a (vU v 4 (nI (c + 1))) (itR r c 2 (nI n) (q 5 n))) H := hP
  have hD : va_D A (wX cI a (vU v 4 (nI (c + 1))) (itR r c 2 (nI n) (q 5 n))) := hD
  refine lv_istore (lv' := [(6, .int (nI c)), (5, .int (nI j)), (0, .ref (a 20)), (1, .int (nI n)), (2, .int lev), (3, .int cr), (4, .int (nI lv))]) hx hb dX3_layFence_25 hl (by decide) rfl (fun ls hl => ?_)
  have hp1 := pb_it (c2 := c) (x := 2) (y := nI n) (z := q 5 n) hp0 rfl
  refine lv_aload_n hx hb dX3_layFence_27 rfl (lv_at hl 2 rfl) ?_
  refine lv_iload hx hb dX3_layFence_28 (lv_at hl 1 rfl) ?_
  refine lv_iload_n hx hb dX3_layFence_30 rfl (lv_at hl 4 rfl) ?_
  refine lv_iload_n hx hb dX3_layFence_31 rfl (lv_at hl 5 rfl) ?_
  refine lv_iload hx hb dX3_layFence_32 (lv_at hl 6 rfl) ?_
  refine lv_iconst (v := 1) hx hb dX3_layFence_34 (by decide) ?_
  refine lv_iadd hx hb dX3_layFence_35 ?_
  refine lv_eqi (nI_1 lv) ?_
  obtain ⟨hk9, hi9, hlt9⟩ := fl_dp hT hnN hk e2 hfj
  refine kcVv C0 hP hD hS (hM v (itR r c 2 (nI n) (q 5 n)) j (lv + 1) (c + 1) lev cr hk9 (by omega) (by omega) (hr.sb hp1.1) hN hlev (by omega)) (cwV 4 hts gX3_layFence_X3_layList rfl rfl rfl (by decide +kernel) ⟨by dsimp only [rxL, rxF, rxA]; omega, by dsimp only [rxL, rxF, rxA]; omega⟩) 20 3 rfl rfl rfl hl.1 rfl (Nat.le_of_ble_eq_true rfl) dX3_layFence_36 ⟨Nat.zero_le _, Nat.zero_le _⟩ (fun u H locs hq hP hD hS => ?_)
  obtain ⟨u_1, rfl⟩ : ∃ z9, z9 = u := ⟨_, rfl⟩
  have hq_u_1 : LLP q N d (itR r c 2 (nI n) (q 5 n)) j lev cr (c + 1) u_1 := hq
  have hP : va_P D vwCl (wX cI a (vU v 4 (nI ((c + 1) + (PL q N d (nI j) lev cr 0 0).length))) u_1) H := hP
  have hD : va_D A (wX cI a (vU v 4 (nI ((c + 1) + (PL q N d (nI j) lev cr 0 0).length))) u_1) := hD
  have hp2 := pb_ll hT hp1 hnN hk e2 hfj (c2 := c + 1) (by simp only [List.length_append, List.length_cons, List.length_nil, List.length_map] <;> omega) hq_u_1
  have hjx : BM u_1 j (ML q N d (nI j) lev cr) ∧ _ ∧ _ := ⟨hq_u_1.2.2.1, hq_u_1.2.2.2.1, hq_u_1.2.2.2.2.1⟩
  refine lv_aload_n hx hb dX3_layFence_39 rfl (lv_at hl 2 rfl) ?_
  refine lv_iload_n hx hb dX3_layFence_40 rfl (lv_at hl 3 rfl) ?_
  refine lv_aload_n hx hb dX3_layFence_41 rfl (lv_at hl 2 rfl) ?_
  refine va_get (D := D) (ci := 3) (v := .ref (a 1)) (C := RX3) (T := TX3) (N := 6) hx hb hts hin_X3 hown hK hP 20 rfl rfl 0 (by decide) hf35 (fun _ h9 => h9) rfl dX3_layFence_42 ?_
  refine va_get (D := D) (ci := 0) (v := .ref (a 9)) (C := RX0) (T := TX0) (N := 14) hx hb hts hin_X0 hown hK hP 1 rfl rfl 10 (by decide) hf170 (fun _ h9 => h9) rfl dX3_layFence_45 ?_
  refine lv_iload_n hx hb dX3_layFence_48 rfl (lv_at hl 3 rfl) ?_
  refine ra_ld (f := (u_1 9)) C0 hP 9 rfl n rfl (by omega) (by decide) dX3_layFence_49 ?_
  refine lv_eqi (show u_1 9 n = (q 7 n) by rw [(hp1.1.tr hq_u_1.1) 9 (by decide)]; exact a9) ?_
  refine kcD (ans := (nI ((c + 1) + (PL q N d (nI j) lev cr 0 0).length))) C0 hP hD hS (c_X3_addDelimiter_1 l D cI a v u_1 n ((c + 1) + (PL q N d (nI j) lev cr 0 0).length) (q 7 n) hr0 (by omega)) (cwV 2 hts gX3_layFence_X3_addDelimiter rfl rfl rfl (by decide +kernel) ⟨by dsimp only [rxL, rxF, rxA]; omega, by dsimp only [rxL, rxF, rxA]; omega⟩) 20 3 rfl rfl rfl hl.1 rfl (Nat.le_of_ble_eq_true rfl) dX3_layFence_50 ⟨Nat.zero_le _, Nat.zero_le _⟩ (fun H locs hP hD hS => ?_)
  have hP : va_P D vwCl (wX cI a (vU v 4 (nI (((c + 1) + (PL q N d (nI j) lev cr 0 0).length) + 1))) (itR u_1 ((c + 1) + (PL q N d (nI j) lev cr 0 0).length) 2 (nI n) (q 7 n))) H := hP
  have hD : va_D A (wX cI a (vU v 4 (nI (((c + 1) + (PL q N d (nI j) lev cr 0 0).length) + 1))) (itR u_1 ((c + 1) + (PL q N d (nI j) lev cr 0 0).length) 2 (nI n) (q 7 n))) := hD
  refine lv_istore (lv' := [(7, .int (nI ((c + 1) + (PL q N d (nI j) lev cr 0 0).length))), (6, .int (nI c)), (5, .int (nI j)), (0, .ref (a 20)), (1, .int (nI n)), (2, .int lev), (3, .int cr), (4, .int (nI lv))]) hx hb dX3_layFence_53 hl (by decide) rfl (fun ls hl => ?_)
  have hp3 := pb_it (c2 := ((c + 1) + (PL q N d (nI j) lev cr 0 0).length)) (x := 2) (y := nI n) (z := q 7 n) hp2 (by simp only [List.length_append, List.length_cons, List.length_nil, List.length_map] <;> omega)
  refine lv_iconst (v := 2) hx hb dX3_layFence_55 (by decide) ?_
  refine lv_aload_n hx hb dX3_layFence_56 rfl (lv_at hl 3 rfl) ?_
  refine va_get (D := D) (ci := 3) (v := .ref (a 12)) (C := RX3) (T := TX3) (N := 6) hx hb hts hin_X3 hown hK hP 20 rfl rfl 1 (by decide) hf12 (fun _ h9 => h9) rfl dX3_layFence_57 ?_
  refine va_get (D := D) (ci := 1) (v := .ref (a 14)) (C := RX1) (T := TX1) (N := 5) hx hb hts hin_X1 hown hK hP 12 rfl rfl 1 (by decide) hf49 (fun _ h9 => h9) rfl dX3_layFence_60 ?_
  refine lv_iload hx hb dX3_layFence_63 (lv_at hl 2 rfl) ?_
  refine ra_ld (f := (u_1 14)) C0 hP 14 rfl j rfl (by omega) (by decide) dX3_layFence_65 ?_
  refine lv_eqi hjx.1.2.1 ?_
  refine lv_iload_n hx hb dX3_layFence_66 rfl (lv_at hl 5 rfl) ?_
  refine kcSN (ans := (2 * uni lev)) C0 hP hS (c_X4_axis l D cI lev ) ⟨va_cnB 1 hts gX3_layFence_X4_axis_n173 rfl rfl rfl C0.2.2.2.2.2.1.2.2 (hts (.initialized RX4) (by decide +kernel)) (by decide +kernel) ⟨by dsimp only [rxL, rxF, rxA]; omega, by dsimp only [rxL, rxF, rxA]; omega⟩, hts (.static yX4_axis) (by decide +kernel), trivial⟩ rfl hl.1 rfl (Nat.le_of_ble_eq_true rfl) dX3_layFence_67 ⟨Nat.zero_le _, Nat.zero_le _⟩ (fun H locs hP hS => ?_)
  refine lv_isub hx hb dX3_layFence_70 ?_
  refine lv_aload_n hx hb dX3_layFence_71 rfl (lv_at hl 3 rfl) ?_
  refine va_get (D := D) (ci := 3) (v := .ref (a 12)) (C := RX3) (T := TX3) (N := 6) hx hb hts hin_X3 hown hK hP 20 rfl rfl 1 (by decide) hf12 (fun _ h9 => h9) rfl dX3_layFence_72 ?_
  refine va_get (D := D) (ci := 1) (v := .ref (a 15)) (C := RX1) (T := TX1) (N := 5) hx hb hts hin_X1 hown hK hP 12 rfl rfl 2 (by decide) hf51 (fun _ h9 => h9) rfl dX3_layFence_75 ?_
  refine lv_iload hx hb dX3_layFence_78 (lv_at hl 2 rfl) ?_
  refine ra_ld (f := (u_1 15)) C0 hP 15 rfl j rfl (by omega) (by decide) dX3_layFence_80 ?_
  refine lv_eqi hjx.1.2.2 ?_
  refine lv_iload_n hx hb dX3_layFence_81 rfl (lv_at hl 5 rfl) ?_
  refine kcSN (ans := (2 * uni lev)) C0 hP hS (c_X4_axis l D cI lev ) ⟨va_cnB 1 hts gX3_layFence_X4_axis_n173 rfl rfl rfl C0.2.2.2.2.2.1.2.2 (hts (.initialized RX4) (by decide +kernel)) (by decide +kernel) ⟨by dsimp only [rxL, rxF, rxA]; omega, by dsimp only [rxL, rxF, rxA]; omega⟩, hts (.static yX4_axis) (by decide +kernel), trivial⟩ rfl hl.1 rfl (Nat.le_of_ble_eq_true rfl) dX3_layFence_82 ⟨Nat.zero_le _, Nat.zero_le _⟩ (fun H locs hP hS => ?_)
  refine lv_iadd hx hb dX3_layFence_85 ?_
  refine va_mmax hx hb (hml.trans hl.1.symm) hown (hts (.methodLink RX3 156 Lib.Math.max.name) (by decide +kernel)) (hts (.static Lib.Math.max.name) (by decide +kernel)) (hts (.initialized "java/lang/Math") (by decide +kernel)) (hts (.code Lib.Math.max.name Lib.Math.max.code 2 (some .int)) (by decide +kernel)) (by dsimp only [rxF]; omega) (Nat.le_trans (m := 60) (Nat.le_of_ble_eq_true rfl) (by dsimp only [rxF]; omega)) (Nat.zero_le _) (Nat.zero_le _) dX3_layFence_86 ?_
  refine lv_eqi (mx_lt ((ML q N d (nI j) lev cr).2.1 - (2 * uni lev)) ((ML q N d (nI j) lev cr).2.2 + (2 * uni lev))) ?_
  refine lv_imul hx hb dX3_layFence_89 ?_
  refine lv_eqi (show _ = feN (ML q N d) q n lev cr by unfold feN; rw [ej]) ?_
  refine lv_istore (lv' := [(8, .int (feN (ML q N d) q n lev cr)), (7, .int (nI ((c + 1) + (PL q N d (nI j) lev cr 0 0).length))), (6, .int (nI c)), (5, .int (nI j)), (0, .ref (a 20)), (1, .int (nI n)), (2, .int lev), (3, .int cr), (4, .int (nI lv))]) hx hb dX3_layFence_90 hl (by decide) rfl (fun ls hl => ?_)
  refine lv_iload_n hx hb dX3_layFence_92 rfl (lv_at hl 5 rfl) ?_
  refine kcS (ans := (nI (30 + n))) C0 hP hS (c_X1_ofAtom l D cI n) (va_cwS 1 hts gX3_layFence_X1_ofAtom rfl rfl rfl (by decide +kernel) ⟨by dsimp only [rxL, rxF, rxA]; omega, by dsimp only [rxL, rxF, rxA]; omega⟩) rfl hl.1 rfl (Nat.le_of_ble_eq_true rfl) dX3_layFence_93 ⟨Nat.zero_le _, Nat.zero_le _⟩ (fun H locs hP hS => ?_)
  refine lv_istore (lv' := [(9, .int (nI (30 + n))), (8, .int (feN (ML q N d) q n lev cr)), (7, .int (nI ((c + 1) + (PL q N d (nI j) lev cr 0 0).length))), (6, .int (nI c)), (5, .int (nI j)), (0, .ref (a 20)), (1, .int (nI n)), (2, .int lev), (3, .int cr), (4, .int (nI lv))]) hx hb dX3_layFence_96 hl (by decide) rfl (fun ls hl => ?_)
  have hp3b := hp3.eq (L' := [] ++ (mkI 2 0 0 (r 19 (8 * c + 3)) (r 19 (8 * c + 4)) (q 5 n) (nI n) 0) :: ((PL q N d (nI j) lev cr 0 0) ++ [(mkI 2 0 0 (u_1 19 (8 * ((c + 1) + (PL q N d (nI j) lev cr 0 0).length) + 3)) (u_1 19 (8 * ((c + 1) + (PL q N d (nI j) lev cr 0 0).length) + 4)) (q 7 n) (nI n) 0)])) (by simp)
  have ht1 := pb_t hp3b (i := c) rfl
  refine lv_aload_n hx hb dX3_layFence_98 rfl (lv_at hl 5 rfl) ?_
  refine lv_iload hx hb dX3_layFence_99 (lv_at hl 0 rfl) ?_
  refine lv_iload hx hb dX3_layFence_101 (lv_at hl 3 rfl) ?_
  refine lv_iload_n hx hb dX3_layFence_103 rfl (lv_at hl 7 rfl) ?_
  refine lv_iload hx hb dX3_layFence_104 (lv_at hl 1 rfl) ?_
  refine kcD (ans := (uni lev * (2 + rmd (q 5 n) 3))) C0 hP hD hS (c_X3_setDelimiter_2 l D cI a (vU v 4 (nI (((c + 1) + (PL q N d (nI j) lev cr 0 0).length) + 1))) (itR u_1 ((c + 1) + (PL q N d (nI j) lev cr 0 0).length) 2 (nI n) (q 7 n)) (30 + n) c (((c + 1) + (PL q N d (nI j) lev cr 0 0).length) + 1) lev (feN (ML q N d) q n lev cr) (q 5 n) rfl (by omega) (by omega) (by omega) ht1) (cwV 4 hts gX3_layFence_X3_setDelimiter rfl rfl rfl (by decide +kernel) ⟨by dsimp only [rxL, rxF, rxA]; omega, by dsimp only [rxL, rxF, rxA]; omega⟩) 20 3 rfl rfl rfl hl.1 rfl (Nat.le_of_ble_eq_true rfl) dX3_layFence_106 ⟨Nat.zero_le _, Nat.zero_le _⟩ (fun H locs hP hD hS => ?_)
  have hP : va_P D vwCl (wX cI a (vU v 4 (nI (((c + 1) + (PL q N d (nI j) lev cr 0 0).length) + 1))) (cvR (msR (mkR (itR u_1 ((c + 1) + (PL q N d (nI j) lev cr 0 0).length) 2 (nI n) (q 7 n)) c (feN (ML q N d) q n lev cr) lev) c (stp (feN (ML q N d) q n lev cr) lev) (uni lev * (2 + rmd (q 5 n) 3))) (30 + n) 0 (2 * uni lev + tal (stp (feN (ML q N d) q n lev cr) lev) lev / 2) (tal (stp (feN (ML q N d) q n lev cr) lev) lev - (2 * uni lev + tal (stp (feN (ML q N d) q n lev cr) lev) lev / 2)))) H := hP
  have hD : va_D A (wX cI a (vU v 4 (nI (((c + 1) + (PL q N d (nI j) lev cr 0 0).length) + 1))) (cvR (msR (mkR (itR u_1 ((c + 1) + (PL q N d (nI j) lev cr 0 0).length) 2 (nI n) (q 7 n)) c (feN (ML q N d) q n lev cr) lev) c (stp (feN (ML q N d) q n lev cr) lev) (uni lev * (2 + rmd (q 5 n) 3))) (30 + n) 0 (2 * uni lev + tal (stp (feN (ML q N d) q n lev cr) lev) lev / 2) (tal (stp (feN (ML q N d) q n lev cr) lev) lev - (2 * uni lev + tal (stp (feN (ML q N d) q n lev cr) lev) lev / 2)))) := hD
  refine lv_istore (lv' := [(10, .int (uni lev * (2 + rmd (q 5 n) 3))), (9, .int (nI (30 + n))), (8, .int (feN (ML q N d) q n lev cr)), (7, .int (nI ((c + 1) + (PL q N d (nI j) lev cr 0 0).length))), (6, .int (nI c)), (5, .int (nI j)), (0, .ref (a 20)), (1, .int (nI n)), (2, .int lev), (3, .int cr), (4, .int (nI lv))]) hx hb dX3_layFence_109 hl (by decide) rfl (fun ls hl => ?_)
  have hp4 := pb_sd (must := (feN (ML q N d) q n lev cr)) (lev := lev) (w := (uni lev * (2 + rmd (q 5 n) 3))) (o := (2 * uni lev + tal (stp (feN (ML q N d) q n lev cr) lev) lev / 2)) (e := (tal (stp (feN (ML q N d) q n lev cr) lev) lev - (2 * uni lev + tal (stp (feN (ML q N d) q n lev cr) lev) lev / 2))) hp3b (i := c) rfl
  have hp4b := hp4.eq (L' := [(mkI 2 0 0 (stp (feN (ML q N d) q n lev cr) lev) (uni lev * (2 + rmd (q 5 n) 3)) (q 5 n) (nI n) (if 9 * (feN (ML q N d) q n lev cr) ≤ 10 * (uni lev * (6 + 4 * stp (feN (ML q N d) q n lev cr) lev)) then 0 else 1))] ++ ((PL q N d (nI j) lev cr 0 0) ++ [(mkI 2 0 0 (u_1 19 (8 * ((c + 1) + (PL q N d (nI j) lev cr 0 0).length) + 3)) (u_1 19 (8 * ((c + 1) + (PL q N d (nI j) lev cr 0 0).length) + 4)) (q 7 n) (nI n) 0)])) (by simp)
  have hjy := jx_lc (n := n) (w := (cvR (msR (mkR (itR u_1 ((c + 1) + (PL q N d (nI j) lev cr 0 0).length) 2 (nI n) (q 7 n)) c (feN (ML q N d) q n lev cr) lev) c (stp (feN (ML q N d) q n lev cr) lev) (uni lev * (2 + rmd (q 5 n) 3))) (30 + n) 0 (2 * uni lev + tal (stp (feN (ML q N d) q n lev cr) lev) lev / 2) (tal (stp (feN (ML q N d) q n lev cr) lev) lev - (2 * uni lev + tal (stp (feN (ML q N d) q n lev cr) lev) lev / 2)))) ((lc_rf.tr lc_it).tr lc_sd) hj hjx
  refine lv_aload_n hx hb dX3_layFence_111 rfl (lv_at hl 6 rfl) ?_
  refine lv_iload hx hb dX3_layFence_112 (lv_at hl 1 rfl) ?_
  refine lv_iload hx hb dX3_layFence_114 (lv_at hl 5 rfl) ?_
  refine lv_iload hx hb dX3_layFence_116 (lv_at hl 0 rfl) ?_
  refine lv_iconst (v := 0) hx hb dX3_layFence_118 (by decide) ?_
  refine kcDv C0 hP hD hS (c_X3_place l D cI a (vU v 4 (nI (((c + 1) + (PL q N d (nI j) lev cr 0 0).length) + 1))) (cvR (msR (mkR (itR u_1 ((c + 1) + (PL q N d (nI j) lev cr 0 0).length) 2 (nI n) (q 7 n)) c (feN (ML q N d) q n lev cr) lev) c (stp (feN (ML q N d) q n lev cr) lev) (uni lev * (2 + rmd (q 5 n) 3))) (30 + n) 0 (2 * uni lev + tal (stp (feN (ML q N d) q n lev cr) lev) lev / 2) (tal (stp (feN (ML q N d) q n lev cr) lev) lev - (2 * uni lev + tal (stp (feN (ML q N d) q n lev cr) lev) lev / 2))) (30 + n) (((c + 1) + (PL q N d (nI j) lev cr 0 0).length) + 1) (nI j) (uni lev * (2 + rmd (q 5 n) 3)) 0 rfl (by omega) (by omega) (Or.inr ⟨j, _, _, by omega, rfl, hjy.2.1, hjy.2.2, by omega, by omega⟩)) (cwV 4 hts gX3_layFence_X3_place rfl rfl rfl (by decide +kernel) ⟨by dsimp only [rxL, rxF, rxA]; omega, by dsimp only [rxL, rxF, rxA]; omega⟩) 20 3 rfl rfl rfl hl.1 rfl (Nat.le_of_ble_eq_true rfl) dX3_layFence_119 ⟨Nat.zero_le _, Nat.zero_le _⟩ (fun H locs hP hD hS => ?_)
  have hP : va_P D vwCl (wX cI a (vU v 4 (nI (((c + 1) + (PL q N d (nI j) lev cr 0 0).length) + 1))) (plR (cvR (msR (mkR (itR u_1 ((c + 1) + (PL q N d (nI j) lev cr 0 0).length) 2 (nI n) (q 7 n)) c (feN (ML q N d) q n lev cr) lev) c (stp (feN (ML q N d) q n lev cr) lev) (uni lev * (2 + rmd (q 5 n) 3))) (30 + n) 0 (2 * uni lev + tal (stp (feN (ML q N d) q n lev cr) lev) lev / 2) (tal (stp (feN (ML q N d) q n lev cr) lev) lev - (2 * uni lev + tal (stp (feN (ML q N d) q n lev cr) lev) lev / 2))) (30 + n) (nI j) (uni lev * (2 + rmd (q 5 n) 3)) 0)) H := hP
  have hD : va_D A (wX cI a (vU v 4 (nI (((c + 1) + (PL q N d (nI j) lev cr 0 0).length) + 1))) (plR (cvR (msR (mkR (itR u_1 ((c + 1) + (PL q N d (nI j) lev cr 0 0).length) 2 (nI n) (q 7 n)) c (feN (ML q N d) q n lev cr) lev) c (stp (feN (ML q N d) q n lev cr) lev) (uni lev * (2 + rmd (q 5 n) 3))) (30 + n) 0 (2 * uni lev + tal (stp (feN (ML q N d) q n lev cr) lev) lev / 2) (tal (stp (feN (ML q N d) q n lev cr) lev) lev - (2 * uni lev + tal (stp (feN (ML q N d) q n lev cr) lev) lev / 2))) (30 + n) (nI j) (uni lev * (2 + rmd (q 5 n) 3)) 0)) := hD
  have hp5 := pb_pl (X := (uni lev * (2 + rmd (q 5 n) 3))) (Y := 0) hp4b hj hjy.1 (by rw [hjy.2.1]; rfl) (by rw [hjy.2.2]; rfl) (by simp only [List.length_cons, List.length_nil]; omega)
  refine lv_iload hx hb dX3_layFence_122 (lv_at hl 0 rfl) ?_
  refine lv_aload_n hx hb dX3_layFence_124 rfl (lv_at hl 6 rfl) ?_
  refine va_get (D := D) (ci := 3) (v := .ref (a 12)) (C := RX3) (T := TX3) (N := 6) hx hb hts hin_X3 hown hK hP 20 rfl rfl 1 (by decide) hf12 (fun _ h9 => h9) rfl dX3_layFence_125 ?_
  refine va_get (D := D) (ci := 1) (v := .ref (a 13)) (C := RX1) (T := TX1) (N := 5) hx hb hts hin_X1 hown hK hP 12 rfl rfl 0 (by decide) hf46 (fun _ h9 => h9) rfl dX3_layFence_128 ?_
  refine lv_iload hx hb dX3_layFence_131 (lv_at hl 5 rfl) ?_
  refine ra_ld (f := (u_1 13)) C0 hP 13 rfl j rfl (by omega) (by decide) dX3_layFence_133 ?_
  refine lv_eqi hjx.1.1 ?_
  refine lv_iadd hx hb dX3_layFence_134 ?_
  refine lv_istore (lv' := [(10, .int ((uni lev * (2 + rmd (q 5 n) 3)) + (ML q N d (nI j) lev cr).1)), (9, .int (nI (30 + n))), (8, .int (feN (ML q N d) q n lev cr)), (7, .int (nI ((c + 1) + (PL q N d (nI j) lev cr 0 0).length))), (6, .int (nI c)), (5, .int (nI j)), (0, .ref (a 20)), (1, .int (nI n)), (2, .int lev), (3, .int cr), (4, .int (nI lv))]) hx hb dX3_layFence_135 hl (by decide) rfl (fun ls hl => ?_)
  have hp5b := hp5.eq (L' := ([(mkI 2 0 0 (stp (feN (ML q N d) q n lev cr) lev) (uni lev * (2 + rmd (q 5 n) 3)) (q 5 n) (nI n) (if 9 * (feN (ML q N d) q n lev cr) ≤ 10 * (uni lev * (6 + 4 * stp (feN (ML q N d) q n lev cr) lev)) then 0 else 1))] ++ (PL q N d (nI j) lev cr 0 0).map (sft (uni lev * (2 + rmd (q 5 n) 3)) 0)) ++ (mkI 2 0 0 (u_1 19 (8 * ((c + 1) + (PL q N d (nI j) lev cr 0 0).length) + 3)) (u_1 19 (8 * ((c + 1) + (PL q N d (nI j) lev cr 0 0).length) + 4)) (q 7 n) (nI n) 0) :: []) (by simp)
  have ht2 := pb_t hp5b (i := ((c + 1) + (PL q N d (nI j) lev cr 0 0).length)) (by simp only [List.length_append, List.length_cons, List.length_nil, List.length_map] <;> omega)
  refine lv_aload_n hx hb dX3_layFence_137 rfl (lv_at hl 6 rfl) ?_
  refine lv_iload hx hb dX3_layFence_138 (lv_at hl 1 rfl) ?_
  refine lv_iload hx hb dX3_layFence_140 (lv_at hl 3 rfl) ?_
  refine lv_iload_n hx hb dX3_layFence_142 rfl (lv_at hl 8 rfl) ?_
  refine lv_iload hx hb dX3_layFence_143 (lv_at hl 2 rfl) ?_
  refine kcD (ans := (uni lev * (2 + rmd (q 7 n) 3))) C0 hP hD hS (c_X3_setDelimiter_2 l D cI a (vU v 4 (nI (((c + 1) + (PL q N d (nI j) lev cr 0 0).length) + 1))) (plR (cvR (msR (mkR (itR u_1 ((c + 1) + (PL q N d (nI j) lev cr 0 0).length) 2 (nI n) (q 7 n)) c (feN (ML q N d) q n lev cr) lev) c (stp (feN (ML q N d) q n lev cr) lev) (uni lev * (2 + rmd (q 5 n) 3))) (30 + n) 0 (2 * uni lev + tal (stp (feN (ML q N d) q n lev cr) lev) lev / 2) (tal (stp (feN (ML q N d) q n lev cr) lev) lev - (2 * uni lev + tal (stp (feN (ML q N d) q n lev cr) lev) lev / 2))) (30 + n) (nI j) (uni lev * (2 + rmd (q 5 n) 3)) 0) (30 + n) ((c + 1) + (PL q N d (nI j) lev cr 0 0).length) (((c + 1) + (PL q N d (nI j) lev cr 0 0).length) + 1) lev (feN (ML q N d) q n lev cr) (q 7 n) rfl (by omega) (by omega) (by omega) ht2) (cwV 4 hts gX3_layFence_X3_setDelimiter rfl rfl rfl (by decide +kernel) ⟨by dsimp only [rxL, rxF, rxA]; omega, by dsimp only [rxL, rxF, rxA]; omega⟩) 20 3 rfl rfl rfl hl.1 rfl (Nat.le_of_ble_eq_true rfl) dX3_layFence_145 ⟨Nat.zero_le _, Nat.zero_le _⟩ (fun H locs hP hD hS => ?_)
  have hP : va_P D vwCl (wX cI a (vU v 4 (nI (((c + 1) + (PL q N d (nI j) lev cr 0 0).length) + 1))) (cvR (msR (mkR (plR (cvR (msR (mkR (itR u_1 ((c + 1) + (PL q N d (nI j) lev cr 0 0).length) 2 (nI n) (q 7 n)) c (feN (ML q N d) q n lev cr) lev) c (stp (feN (ML q N d) q n lev cr) lev) (uni lev * (2 + rmd (q 5 n) 3))) (30 + n) 0 (2 * uni lev + tal (stp (feN (ML q N d) q n lev cr) lev) lev / 2) (tal (stp (feN (ML q N d) q n lev cr) lev) lev - (2 * uni lev + tal (stp (feN (ML q N d) q n lev cr) lev) lev / 2))) (30 + n) (nI j) (uni lev * (2 + rmd (q 5 n) 3)) 0) ((c + 1) + (PL q N d (nI j) lev cr 0 0).length) (feN (ML q N d) q n lev cr) lev) ((c + 1) + (PL q N d (nI j) lev cr 0 0).length) (stp (feN (ML q N d) q n lev cr) lev) (uni lev * (2 + rmd (q 7 n) 3))) (30 + n) 0 (2 * uni lev + tal (stp (feN (ML q N d) q n lev cr) lev) lev / 2) (tal (stp (feN (ML q N d) q n lev cr) lev) lev - (2 * uni lev + tal (stp (feN (ML q N d) q n lev cr) lev) lev / 2)))) H := hP
  have hD : va_D A (wX cI a (vU v 4 (nI (((c + 1) + (PL q N d (nI j) lev cr 0 0).length) + 1))) (cvR (msR (mkR (plR (cvR (msR (mkR (itR u_1 ((c + 1) + (PL q N d (nI j) lev cr 0 0).length) 2 (nI n) (q 7 n)) c (feN (ML q N d) q n lev cr) lev) c (stp (feN (ML q N d) q n lev cr) lev) (uni lev * (2 + rmd (q 5 n) 3))) (30 + n) 0 (2 * uni lev + tal (stp (feN (ML q N d) q n lev cr) lev) lev / 2) (tal (stp (feN (ML q N d) q n lev cr) lev) lev - (2 * uni lev + tal (stp (feN (ML q N d) q n lev cr) lev) lev / 2))) (30 + n) (nI j) (uni lev * (2 + rmd (q 5 n) 3)) 0) ((c + 1) + (PL q N d (nI j) lev cr 0 0).length) (feN (ML q N d) q n lev cr) lev) ((c + 1) + (PL q N d (nI j) lev cr 0 0).length) (stp (feN (ML q N d) q n lev cr) lev) (uni lev * (2 + rmd (q 7 n) 3))) (30 + n) 0 (2 * uni lev + tal (stp (feN (ML q N d) q n lev cr) lev) lev / 2) (tal (stp (feN (ML q N d) q n lev cr) lev) lev - (2 * uni lev + tal (stp (feN (ML q N d) q n lev cr) lev) lev / 2)))) := hD
  refine lv_istore (lv' := [(11, .int (uni lev * (2 + rmd (q 7 n) 3))), (10, .int ((uni lev * (2 + rmd (q 5 n) 3)) + (ML q N d (nI j) lev cr).1)), (9, .int (nI (30 + n))), (8, .int (feN (ML q N d) q n lev cr)), (7, .int (nI ((c + 1) + (PL q N d (nI j) lev cr 0 0).length))), (6, .int (nI c)), (5, .int (nI j)), (0, .ref (a 20)), (1, .int (nI n)), (2, .int lev), (3, .int cr), (4, .int (nI lv))]) hx hb dX3_layFence_148 hl (by decide) rfl (fun ls hl => ?_)
  have hp6 := pb_sd (must := (feN (ML q N d) q n lev cr)) (lev := lev) (w := (uni lev * (2 + rmd (q 7 n) 3))) (o := (2 * uni lev + tal (stp (feN (ML q N d) q n lev cr) lev) lev / 2)) (e := (tal (stp (feN (ML q N d) q n lev cr) lev) lev - (2 * uni lev + tal (stp (feN (ML q N d) q n lev cr) lev) lev / 2))) hp5b (i := ((c + 1) + (PL q N d (nI j) lev cr 0 0).length)) (by simp only [List.length_append, List.length_cons, List.length_nil, List.length_map] <;> omega)
  have hp6b := hp6.eq (L' := ([(mkI 2 0 0 (stp (feN (ML q N d) q n lev cr) lev) (uni lev * (2 + rmd (q 5 n) 3)) (q 5 n) (nI n) (if 9 * (feN (ML q N d) q n lev cr) ≤ 10 * (uni lev * (6 + 4 * stp (feN (ML q N d) q n lev cr) lev)) then 0 else 1))] ++ (PL q N d (nI j) lev cr 0 0).map (sft (uni lev * (2 + rmd (q 5 n) 3)) 0)) ++ ([(mkI 2 0 0 (stp (feN (ML q N d) q n lev cr) lev) (uni lev * (2 + rmd (q 7 n) 3)) (q 7 n) (nI n) (if 9 * (feN (ML q N d) q n lev cr) ≤ 10 * (uni lev * (6 + 4 * stp (feN (ML q N d) q n lev cr) lev)) then 0 else 1))] ++ [])) (by simp)
  refine lv_iload hx hb dX3_layFence_150 (lv_at hl 4 rfl) ?_
  refine lv_iconst (v := (-1)) hx hb dX3_layFence_152 (by decide) ?_
  refine lv_icmp_eq (tgt := 172) hx hb dX3_layFence_153 (by decide) (fun c_153 => absurd c_153 (nI_ne_m1 (by omega))) (fun c_153 => ?_)
  refine lv_aload_n hx hb dX3_layFence_156 rfl (lv_at hl 7 rfl) ?_
  refine va_get (D := D) (ci := 3) (v := .ref (a 18)) (C := RX3) (T := TX3) (N := 6) hx hb hts hin_X3 hown hK hP 20 rfl rfl 2 (by decide) hf21 (fun _ h9 => h9) rfl dX3_layFence_157 ?_
  refine lv_iload hx hb dX3_layFence_160 (lv_at hl 4 rfl) ?_
  refine lv_iload hx hb dX3_layFence_162 (lv_at hl 4 rfl) ?_
  refine lv_iconst (v := 1) hx hb dX3_layFence_164 (by decide) ?_
  refine lv_iadd hx hb dX3_layFence_165 ?_
  refine lv_eqi (nI_1 _) ?_
  refine lv_iload hx hb dX3_layFence_166 (lv_at hl 1 rfl) ?_
  refine lv_iconst (v := 0) hx hb dX3_layFence_168 (by decide) ?_
  refine kcDv C0 hP hD hS (c_X2_shift l D cI a (vU v 4 (nI (((c + 1) + (PL q N d (nI j) lev cr 0 0).length) + 1))) (cvR (msR (mkR (plR (cvR (msR (mkR (itR u_1 ((c + 1) + (PL q N d (nI j) lev cr 0 0).length) 2 (nI n) (q 7 n)) c (feN (ML q N d) q n lev cr) lev) c (stp (feN (ML q N d) q n lev cr) lev) (uni lev * (2 + rmd (q 5 n) 3))) (30 + n) 0 (2 * uni lev + tal (stp (feN (ML q N d) q n lev cr) lev) lev / 2) (tal (stp (feN (ML q N d) q n lev cr) lev) lev - (2 * uni lev + tal (stp (feN (ML q N d) q n lev cr) lev) lev / 2))) (30 + n) (nI j) (uni lev * (2 + rmd (q 5 n) 3)) 0) ((c + 1) + (PL q N d (nI j) lev cr 0 0).length) (feN (ML q N d) q n lev cr) lev) ((c + 1) + (PL q N d (nI j) lev cr 0 0).length) (stp (feN (ML q N d) q n lev cr) lev) (uni lev * (2 + rmd (q 7 n) 3))) (30 + n) 0 (2 * uni lev + tal (stp (feN (ML q N d) q n lev cr) lev) lev / 2) (tal (stp (feN (ML q N d) q n lev cr) lev) lev - (2 * uni lev + tal (stp (feN (ML q N d) q n lev cr) lev) lev / 2))) ((c + 1) + (PL q N d (nI j) lev cr 0 0).length) (((c + 1) + (PL q N d (nI j) lev cr 0 0).length) + 1) (((c + 1) + (PL q N d (nI j) lev cr 0 0).length) + 1) ((uni lev * (2 + rmd (q 5 n) 3)) + (ML q N d (nI j) lev cr).1) 0 rfl (by omega) (by omega) (by omega)) (cwV 4 hts gX3_layFence_X2_shift rfl rfl rfl (by decide +kernel) ⟨by dsimp only [rxL, rxF, rxA]; omega, by dsimp only [rxL, rxF, rxA]; omega⟩) 18 2 rfl rfl rfl hl.1 rfl (Nat.le_of_ble_eq_true rfl) dX3_layFence_169 ⟨Nat.zero_le _, Nat.zero_le _⟩ (fun H locs hP hD hS => ?_)
  have hP : va_P D vwCl (wX cI a (vU v 4 (nI (((c + 1) + (PL q N d (nI j) lev cr 0 0).length) + 1))) (shR (cvR (msR (mkR (plR (cvR (msR (mkR (itR u_1 ((c + 1) + (PL q N d (nI j) lev cr 0 0).length) 2 (nI n) (q 7 n)) c (feN (ML q N d) q n lev cr) lev) c (stp (feN (ML q N d) q n lev cr) lev) (uni lev * (2 + rmd (q 5 n) 3))) (30 + n) 0 (2 * uni lev + tal (stp (feN (ML q N d) q n lev cr) lev) lev / 2) (tal (stp (feN (ML q N d) q n lev cr) lev) lev - (2 * uni lev + tal (stp (feN (ML q N d) q n lev cr) lev) lev / 2))) (30 + n) (nI j) (uni lev * (2 + rmd (q 5 n) 3)) 0) ((c + 1) + (PL q N d (nI j) lev cr 0 0).length) (feN (ML q N d) q n lev cr) lev) ((c + 1) + (PL q N d (nI j) lev cr 0 0).length) (stp (feN (ML q N d) q n lev cr) lev) (uni lev * (2 + rmd (q 7 n) 3))) (30 + n) 0 (2 * uni lev + tal (stp (feN (ML q N d) q n lev cr) lev) lev / 2) (tal (stp (feN (ML q N d) q n lev cr) lev) lev - (2 * uni lev + tal (stp (feN (ML q N d) q n lev cr) lev) lev / 2))) ((uni lev * (2 + rmd (q 5 n) 3)) + (ML q N d (nI j) lev cr).1) 0 ((c + 1) + (PL q N d (nI j) lev cr 0 0).length) (((c + 1) + (PL q N d (nI j) lev cr 0 0).length) + 1))) H := hP
  have hD : va_D A (wX cI a (vU v 4 (nI (((c + 1) + (PL q N d (nI j) lev cr 0 0).length) + 1))) (shR (cvR (msR (mkR (plR (cvR (msR (mkR (itR u_1 ((c + 1) + (PL q N d (nI j) lev cr 0 0).length) 2 (nI n) (q 7 n)) c (feN (ML q N d) q n lev cr) lev) c (stp (feN (ML q N d) q n lev cr) lev) (uni lev * (2 + rmd (q 5 n) 3))) (30 + n) 0 (2 * uni lev + tal (stp (feN (ML q N d) q n lev cr) lev) lev / 2) (tal (stp (feN (ML q N d) q n lev cr) lev) lev - (2 * uni lev + tal (stp (feN (ML q N d) q n lev cr) lev) lev / 2))) (30 + n) (nI j) (uni lev * (2 + rmd (q 5 n) 3)) 0) ((c + 1) + (PL q N d (nI j) lev cr 0 0).length) (feN (ML q N d) q n lev cr) lev) ((c + 1) + (PL q N d (nI j) lev cr 0 0).length) (stp (feN (ML q N d) q n lev cr) lev) (uni lev * (2 + rmd (q 7 n) 3))) (30 + n) 0 (2 * uni lev + tal (stp (feN (ML q N d) q n lev cr) lev) lev / 2) (tal (stp (feN (ML q N d) q n lev cr) lev) lev - (2 * uni lev + tal (stp (feN (ML q N d) q n lev cr) lev) lev / 2))) ((uni lev * (2 + rmd (q 5 n) 3)) + (ML q N d (nI j) lev cr).1) 0 ((c + 1) + (PL q N d (nI j) lev cr 0 0).length) (((c + 1) + (PL q N d (nI j) lev cr 0 0).length) + 1))) := hD
  have hp7 := pb_sh (X := (uni lev * (2 + rmd (q 5 n) 3)) + (ML q N d (nI j) lev cr).1) (Y := 0) hp6b (i := ((c + 1) + (PL q N d (nI j) lev cr 0 0).length)) (j := ((c + 1) + (PL q N d (nI j) lev cr 0 0).length) + 1) (by simp only [List.length_append, List.length_cons, List.length_nil, List.length_map] <;> omega) (by simp only [List.length_append, List.length_cons, List.length_nil, List.length_map] <;> omega)
  refine lv_aload_n hx hb dX3_layFence_172 rfl (lv_at hl 7 rfl) ?_
  refine va_get (D := D) (ci := 3) (v := .ref (a 12)) (C := RX3) (T := TX3) (N := 6) hx hb hts hin_X3 hown hK hP 20 rfl rfl 1 (by decide) hf12 (fun _ h9 => h9) rfl dX3_layFence_173 ?_
  refine va_get (D := D) (ci := 1) (v := .ref (a 13)) (C := RX1) (T := TX1) (N := 5) hx hb hts hin_X1 hown hK hP 12 rfl rfl 0 (by decide) hf46 (fun _ h9 => h9) rfl dX3_layFence_176 ?_
  refine lv_iload hx hb dX3_layFence_179 (lv_at hl 2 rfl) ?_
  refine lv_iload hx hb dX3_layFence_181 (lv_at hl 1 rfl) ?_
  refine lv_iload hx hb dX3_layFence_183 (lv_at hl 0 rfl) ?_
  refine lv_iadd hx hb dX3_layFence_185 ?_
  refine ra_st (f := (u_1 13)) C0 hP hD hS 13 rfl (30 + n) rfl (by omega) (by decide) dX3_layFence_186 (fun H locs hP hD hS => ?_)
  have hset : ∀ (R_ : Nat → Nat → Int32) (y4_ : Int32) (g_ : Nat → Int32), (wX cI a (vU v 4 y4_) R_).set 13 (a 13, .inl (cI, 150, .inl g_)) = (wX cI a (vU v 4 y4_) (rU R_ 13 g_)) := fun _ _ _ => rfl
  rw [hset] at hP hD
  have hw4 : (((c + 1) + (PL q N d (nI j) lev cr 0 0).length) + 1) = c + (pFe (ML q N d) (PL q N d) q n lev cr 0 0).length := by rw [pFe_len ej, if_neg hl1, if_neg hr1] <;> omega
  have hw5 : (wX cI a (vU v 4 (nI (((c + 1) + (PL q N d (nI j) lev cr 0 0).length) + 1))) (rU (shR (cvR (msR (mkR (plR (cvR (msR (mkR (itR u_1 ((c + 1) + (PL q N d (nI j) lev cr 0 0).length) 2 (nI n) (q 7 n)) c (feN (ML q N d) q n lev cr) lev) c (stp (feN (ML q N d) q n lev cr) lev) (uni lev * (2 + rmd (q 5 n) 3))) (30 + n) 0 (2 * uni lev + tal (stp (feN (ML q N d) q n lev cr) lev) lev / 2) (tal (stp (feN (ML q N d) q n lev cr) lev) lev - (2 * uni lev + tal (stp (feN (ML q N d) q n lev cr) lev) lev / 2))) (30 + n) (nI j) (uni lev * (2 + rmd (q 5 n) 3)) 0) ((c + 1) + (PL q N d (nI j) lev cr 0 0).length) (feN (ML q N d) q n lev cr) lev) ((c + 1) + (PL q N d (nI j) lev cr 0 0).length) (stp (feN (ML q N d) q n lev cr) lev) (uni lev * (2 + rmd (q 7 n) 3))) (30 + n) 0 (2 * uni lev + tal (stp (feN (ML q N d) q n lev cr) lev) lev / 2) (tal (stp (feN (ML q N d) q n lev cr) lev) lev - (2 * uni lev + tal (stp (feN (ML q N d) q n lev cr) lev) lev / 2))) ((uni lev * (2 + rmd (q 5 n) 3)) + (ML q N d (nI j) lev cr).1) 0 ((c + 1) + (PL q N d (nI j) lev cr 0 0).length) (((c + 1) + (PL q N d (nI j) lev cr 0 0).length) + 1)) 13 (upd (u_1 13) (30 + n) (((uni lev * (2 + rmd (q 5 n) 3)) + (ML q N d (nI j) lev cr).1) + (uni lev * (2 + rmd (q 7 n) 3)))))) = (wX cI a (vU v 4 (nI (c + (pFe (ML q N d) (PL q N d) q n lev cr 0 0).length))) (rU (shR (cvR (msR (mkR (plR (cvR (msR (mkR (itR u_1 ((c + 1) + (PL q N d (nI j) lev cr 0 0).length) 2 (nI n) (q 7 n)) c (feN (ML q N d) q n lev cr) lev) c (stp (feN (ML q N d) q n lev cr) lev) (uni lev * (2 + rmd (q 5 n) 3))) (30 + n) 0 (2 * uni lev + tal (stp (feN (ML q N d) q n lev cr) lev) lev / 2) (tal (stp (feN (ML q N d) q n lev cr) lev) lev - (2 * uni lev + tal (stp (feN (ML q N d) q n lev cr) lev) lev / 2))) (30 + n) (nI j) (uni lev * (2 + rmd (q 5 n) 3)) 0) ((c + 1) + (PL q N d (nI j) lev cr 0 0).length) (feN (ML q N d) q n lev cr) lev) ((c + 1) + (PL q N d (nI j) lev cr 0 0).length) (stp (feN (ML q N d) q n lev cr) lev) (uni lev * (2 + rmd (q 7 n) 3))) (30 + n) 0 (2 * uni lev + tal (stp (feN (ML q N d) q n lev cr) lev) lev / 2) (tal (stp (feN (ML q N d) q n lev cr) lev) lev - (2 * uni lev + tal (stp (feN (ML q N d) q n lev cr) lev) lev / 2))) ((uni lev * (2 + rmd (q 5 n) 3)) + (ML q N d (nI j) lev cr).1) 0 ((c + 1) + (PL q N d (nI j) lev cr 0 0).length) (((c + 1) + (PL q N d (nI j) lev cr 0 0).length) + 1)) 13 (upd (u_1 13) (30 + n) (((uni lev * (2 + rmd (q 5 n) 3)) + (ML q N d (nI j) lev cr).1) + (uni lev * (2 + rmd (q 7 n) 3)))))) := by rw [hw4]
  rw [hw5] at hP hD
  have hp8 := pb_at (W := (uni lev * (2 + rmd (q 5 n) 3)) + (ML q N d (nI j) lev cr).1 + (uni lev * (2 + rmd (q 7 n) 3))) hp7
  have h9 : ATP q r (r 19) n c (mFe (ML q N d) q n lev cr) (pFe (ML q N d) (PL q N d) q n lev cr 0 0) (rU (shR (cvR (msR (mkR (plR (cvR (msR (mkR (itR u_1 ((c + 1) + (PL q N d (nI j) lev cr 0 0).length) 2 (nI n) (q 7 n)) c (feN (ML q N d) q n lev cr) lev) c (stp (feN (ML q N d) q n lev cr) lev) (uni lev * (2 + rmd (q 5 n) 3))) (30 + n) 0 (2 * uni lev + tal (stp (feN (ML q N d) q n lev cr) lev) lev / 2) (tal (stp (feN (ML q N d) q n lev cr) lev) lev - (2 * uni lev + tal (stp (feN (ML q N d) q n lev cr) lev) lev / 2))) (30 + n) (nI j) (uni lev * (2 + rmd (q 5 n) 3)) 0) ((c + 1) + (PL q N d (nI j) lev cr 0 0).length) (feN (ML q N d) q n lev cr) lev) ((c + 1) + (PL q N d (nI j) lev cr 0 0).length) (stp (feN (ML q N d) q n lev cr) lev) (uni lev * (2 + rmd (q 7 n) 3))) (30 + n) 0 (2 * uni lev + tal (stp (feN (ML q N d) q n lev cr) lev) lev / 2) (tal (stp (feN (ML q N d) q n lev cr) lev) lev - (2 * uni lev + tal (stp (feN (ML q N d) q n lev cr) lev) lev / 2))) ((uni lev * (2 + rmd (q 5 n) 3)) + (ML q N d (nI j) lev cr).1) 0 ((c + 1) + (PL q N d (nI j) lev cr 0 0).length) (((c + 1) + (PL q N d (nI j) lev cr 0 0).length) + 1)) 13 (upd (u_1 13) (30 + n) (((uni lev * (2 + rmd (q 5 n) 3)) + (ML q N d (nI j) lev cr).1) + (uni lev * (2 + rmd (q 7 n) 3))))) := by
    have e1 : pFe (ML q N d) (PL q N d) q n lev cr 0 0 = _ := pFe_l ej
    rw [if_neg hl1, if_neg hr1, dlw_n hl0, dlw_n hr0] at e1
    have e2 : mFe (ML q N d) q n lev cr = ((uni lev * (2 + rmd (q 5 n) 3)) + (ML q N d (nI j) lev cr).1 + (uni lev * (2 + rmd (q 7 n) 3)), mx (mx (ML q N d (nI j) lev cr).2.1 (2 * uni lev + tal (stp (feN (ML q N d) q n lev cr) lev) lev / 2)) 0, mx (mx (ML q N d (nI j) lev cr).2.2 (tal (stp (feN (ML q N d) q n lev cr) lev) lev - (2 * uni lev + tal (stp (feN (ML q N d) q n lev cr) lev) lev / 2))) 0) := by unfold mFe feO feT; rw [ej, dlw_n hl0, dlw_n hr0, w_3]
    rw [mx_3a, mx_4a] at hp8
    rw [e2, e1]
    simp only [List.map_cons, List.map_nil, sft_mk, Int32.zero_add, List.append_nil, List.nil_append, List.cons_append, List.append_assoc] at hp8 ⊢
    exact hp8
  exact k_vret C0 (rU (shR (cvR (msR (mkR (plR (cvR (msR (mkR (itR u_1 ((c + 1) + (PL q N d (nI j) lev cr 0 0).length) 2 (nI n) (q 7 n)) c (feN (ML q N d) q n lev cr) lev) c (stp (feN (ML q N d) q n lev cr) lev) (uni lev * (2 + rmd (q 5 n) 3))) (30 + n) 0 (2 * uni lev + tal (stp (feN (ML q N d) q n lev cr) lev) lev / 2) (tal (stp (feN (ML q N d) q n lev cr) lev) lev - (2 * uni lev + tal (stp (feN (ML q N d) q n lev cr) lev) lev / 2))) (30 + n) (nI j) (uni lev * (2 + rmd (q 5 n) 3)) 0) ((c + 1) + (PL q N d (nI j) lev cr 0 0).length) (feN (ML q N d) q n lev cr) lev) ((c + 1) + (PL q N d (nI j) lev cr 0 0).length) (stp (feN (ML q N d) q n lev cr) lev) (uni lev * (2 + rmd (q 7 n) 3))) (30 + n) 0 (2 * uni lev + tal (stp (feN (ML q N d) q n lev cr) lev) lev / 2) (tal (stp (feN (ML q N d) q n lev cr) lev) lev - (2 * uni lev + tal (stp (feN (ML q N d) q n lev cr) lev) lev / 2))) ((uni lev * (2 + rmd (q 5 n) 3)) + (ML q N d (nI j) lev cr).1) 0 ((c + 1) + (PL q N d (nI j) lev cr 0 0).length) (((c + 1) + (PL q N d (nI j) lev cr 0 0).length) + 1)) 13 (upd (u_1 13) (30 + n) (((uni lev * (2 + rmd (q 5 n) 3)) + (ML q N d (nI j) lev cr).1) + (uni lev * (2 + rmd (q 7 n) 3))))) hP hD hS h9 dX3_layFence_187

set_option maxHeartbeats 1500000 in
set_option maxRecDepth 100000 in
theorem c_X3_layFence_10 (l : Launch) (D : va_G) (cI : ClassId) (a : Nat → Nat) (v : Nat → Int32) (r : Nat → Nat → Int32) (q : Rw) (N n k d lv : Nat) (dp sl : Nat → Nat) (lev cr : Int32) (c : Nat) (hM : HLL l D cI a q N dp d) (hT : LY q N dp sl) (hr : RQ q N v r) (hN : v 0 = nI N) (hnN : n < N) (hk : k < 30) (e2 : q 2 n = nI k) (hd : 29 ≤ d + dp k) (hlv : lv ≤ dp k) (hlev : lvO lev) (hf3 : q 3 n = 2) (e13 : BM r (30 + n) (0, 0, 0)) (h16 : r 16 (30 + n) = nI c) (h17 : r 17 (30 + n) = nI c) (hcl : c + (pFe (ML q N d) (PL q N d) q n lev cr 0 0).length ≤ 150) (hl0 : ¬ q 5 n = 0) (er0 : q 7 n = 0) : KV l D cI yX3_layFence wsX3_layFence (rxF d) [.ref (a 20), .int (nI n), .int lev, .int cr, .int (nI lv)] (wX cI a (vU v 4 (nI c)) r) (fun u : Rw => wX cI a (vU v 4 (nI (c + (pFe (ML q N d) (PL q N d) q n lev cr 0 0).length))) u) (fun u => ATP q r (r 19) n c (mFe (ML q N d) q n lev cr) (pFe (ML q N d) (PL q N d) q n lev cr 0 0) u) := by
  refine KV.of (cc := cX3_layFence) (nL := 12) (ret := none) (by decide) rfl (Nat.le_of_ble_eq_true rfl) ?_
  intro pg9 en9 s m args below meth cd9 A ls C0 hP hD hS hl
  have hx := C0.1.1
  have hb := C0.1.2.1
  have hml := C0.1.2.2.1
  have hown : s.vm.findClass RX3 = some m.cls := C0.1.2.2.2.1
  have hts : ∀ w ∈ wsX3_layFence, w.before args s = true := C0.1.2.2.2.2
  have hK := C0.2.2.2.1
  have hin_X3 : ∀ w ∈ wsX30, w ∈ wsX3_layFence := fun w h => List.mem_cons_of_mem _ (List.mem_append_left _ (List.mem_append_left _ (List.mem_append_left _ (List.mem_append_right _ h))))
  have hf35 : (Cond.fieldLink RX3 35 "FormulaLists$Layout" "book" "LFormulaLists$Book;").before args s = true := hts _ (by decide +kernel)
  have hin_X0 : ∀ w ∈ wsX00, w ∈ wsX3_layFence := fun w h => List.mem_cons_of_mem _ (List.mem_append_left _ (List.mem_append_right _ h))
  have hf71 : (Cond.fieldLink RX3 71 "FormulaLists$Book" "second" "[I").before args s = true := hts _ (by decide +kernel)
  have hf68 : (Cond.fieldLink RX3 68 "FormulaLists$Book" "first" "[I").before args s = true := hts _ (by decide +kernel)
  have hf170 : (Cond.fieldLink RX3 170 "FormulaLists$Book" "third" "[I").before args s = true := hts _ (by decide +kernel)
  have hf12 : (Cond.fieldLink RX3 12 "FormulaLists$Layout" "boxes" "LFormulaLists$Boxes;").before args s = true := hts _ (by decide +kernel)
  have hin_X1 : ∀ w ∈ wsX10, w ∈ wsX3_layFence := fun w h => List.mem_cons_of_mem _ (List.mem_append_right _ h)
  have hf49 : (Cond.fieldLink RX3 49 "FormulaLists$Boxes" "height" "[I").before args s = true := hts _ (by decide +kernel)
  have hf51 : (Cond.fieldLink RX3 51 "FormulaLists$Boxes" "depth" "[I").before args s = true := hts _ (by decide +kernel)
  have hf46 : (Cond.fieldLink RX3 46 "FormulaLists$Boxes" "width" "[I").before args s = true := hts _ (by decide +kernel)
  have hl : lv_has ls 12 [(0, .ref (a 20)), (1, .int (nI n)), (2, .int lev), (3, .int cr), (4, .int (nI lv))] := hl
  have hP : va_P D vwCl (wX cI a (vU v 4 (nI c)) r) s.heap := hP
  have h9 := hT.1
  have hn : n < 120 := by omega
  have hnd := (hT.2.2.2.2 n hnN).2.2.2
  have hnm : ¬ q 3 n = 3 := by rw [hf3]; decide
  obtain ⟨⟨j, hj, ej⟩, hq0, hq1, hq2, hq3, hq4⟩ : isLs (q 6 n) ∧ 0 ≤ q 5 n ∧ q 5 n ≤ 5 ∧ 0 ≤ q 7 n ∧ q 7 n ≤ 5 ∧ ¬ (q 5 n = 0 ∧ q 7 n = 0) := by rcases hnd with h | h | h | h | h; exact absurd (hf3.symm.trans h.1) (by decide); exact absurd (hf3.symm.trans h.1) (by decide); exact h.2; exact absurd (hf3.symm.trans h.1) (by decide); exact absurd (hf3.symm.trans h.1) (by decide)
  obtain ⟨a7, a8, a9⟩ := hr.2.1 n hnN hnm
  have a8 : r 8 n = nI j := a8.trans ej
  have hfj : FLD q n 1 j := ⟨hj, Or.inr (Or.inl ⟨rfl, Or.inr hf3, ej⟩)⟩
  have hl1 : ¬ q 5 n ≤ 0 := not_le0 hq0 hl0
  have hr1 : q 7 n ≤ 0 := by rw [er0]; decide
  have hcl2 := hcl
  rw [pFe_len ej, if_neg hl1, if_pos hr1] at hcl2
  have hp0 := pb_0 (q := q) (c := c) e13 h16
  refine lv_aload_n hx hb dX3_layFence_0 rfl (lv_at hl 0 rfl) ?_
  refine va_get (D := D) (ci := 3) (v := .ref (a 1)) (C := RX3) (T := TX3) (N := 6) hx hb hts hin_X3 hown hK hP 20 rfl rfl 0 (by decide) hf35 (fun _ h9 => h9) rfl dX3_layFence_1 ?_
  refine va_get (D := D) (ci := 0) (v := .ref (a 8)) (C := RX0) (T := TX0) (N := 14) hx hb hts hin_X0 hown hK hP 1 rfl rfl 9 (by decide) hf71 (fun _ h9 => h9) rfl dX3_layFence_4 ?_
  refine lv_iload_n hx hb dX3_layFence_7 rfl (lv_at hl 1 rfl) ?_
  refine ra_ld (f := (r 8)) C0 hP 8 rfl n rfl (by omega) (by decide) dX3_layFence_8 ?_
  refine lv_eqi a8 ?_
  refine lv_istore (lv' := [(5, .int (nI j)), (0, .ref (a 20)), (1, .int (nI n)), (2, .int lev), (3, .int cr), (4, .int (nI lv))]) hx hb dX3_layFence_9 hl (by decide) rfl (fun ls hl => ?_)
  refine lv_aload_n hx hb dX3_layFence_11 rfl (lv_at hl 1 rfl) ?_
  refine lv_iload_n hx hb dX3_layFence_12 rfl (lv_at hl 2 rfl) ?_
  refine lv_aload_n hx hb dX3_layFence_13 rfl (lv_at hl 1 rfl) ?_
  refine va_get (D := D) (ci := 3) (v := .ref (a 1)) (C := RX3) (T := TX3) (N := 6) hx hb hts hin_X3 hown hK hP 20 rfl rfl 0 (by decide) hf35 (fun _ h9 => h9) rfl dX3_layFence_14 ?_
  refine va_get (D := D) (ci := 0) (v := .ref (a 7)) (C := RX0) (T := TX0) (N := 14) hx hb hts hin_X0 hown hK hP 1 rfl rfl 8 (by decide) hf68 (fun _ h9 => h9) rfl dX3_layFence_17 ?_
  refine lv_iload_n hx hb dX3_layFence_20 rfl (lv_at hl 2 rfl) ?_
  refine ra_ld (f := (r 7)) C0 hP 7 rfl n rfl (by omega) (by decide) dX3_layFence_21 ?_
  refine lv_eqi a7 ?_
  refine kcD (ans := (nI c)) C0 hP hD hS (c_X3_addDelimiter_1 l D cI a v r n c (q 5 n) hl0 (by omega)) (cwV 2 hts gX3_layFence_X3_addDelimiter rfl rfl rfl (by decide +kernel) ⟨by dsimp only [rxL, rxF, rxA]; omega, by dsimp only [rxL, rxF, rxA]; omega⟩) 20 3 rfl rfl rfl hl.1 rfl (Nat.le_of_ble_eq_true rfl) dX3_layFence_22 ⟨Nat.zero_le _, Nat.zero_le _⟩ (fun H locs hP hD hS => ?_)
  have hP : va_P D vwCl (wX cI a (vU v 4 (nI (c + 1))) (itR r c 2 (nI n) (q 5 n))) H := hP
  have hD : va_D A (wX cI a (vU v 4 (nI (c + 1))) (itR r c 2 (nI n) (q 5 n))) := hD
  refine lv_istore (lv' := [(6, .int (nI c)), (5, .int (nI j)), (0, .ref (a 20)), (1, .int (nI n)), (2, .int lev), (3, .int cr), (4, .int (nI lv))]) hx hb dX3_layFence_25 hl (by decide) rfl (fun ls hl => ?_)
  have hp1 := pb_it (c2 := c) (x := 2) (y := nI n) (z := q 5 n) hp0 rfl
  refine lv_aload_n hx hb dX3_layFence_27 rfl (lv_at hl 2 rfl) ?_
  refine lv_iload hx hb dX3_layFence_28 (lv_at hl 1 rfl) ?_
  refine lv_iload_n hx hb dX3_layFence_30 rfl (lv_at hl 4 rfl) ?_
  refine lv_iload_n hx hb dX3_layFence_31 rfl (lv_at hl 5 rfl) ?_
  refine lv_iload hx hb dX3_layFence_32 (lv_at hl 6 rfl) ?_
  refine lv_iconst (v := 1) hx hb dX3_layFence_34 (by decide) ?_
  refine lv_iadd hx hb dX3_layFence_35 ?_
  refine lv_eqi (nI_1 lv) ?_
  obtain ⟨hk9, hi9, hlt9⟩ := fl_dp hT hnN hk e2 hfj
  refine kcVv C0 hP hD hS (hM v (itR r c 2 (nI n) (q 5 n)) j (lv + 1) (c + 1) lev cr hk9 (by omega) (by omega) (hr.sb hp1.1) hN hlev (by omega)) (cwV 4 hts gX3_layFence_X3_layList rfl rfl rfl (by decide +kernel) ⟨by dsimp only [rxL, rxF, rxA]; omega, by dsimp only [rxL, rxF, rxA]; omega⟩) 20 3 rfl rfl rfl hl.1 rfl (Nat.le_of_ble_eq_true rfl) dX3_layFence_36 ⟨Nat.zero_le _, Nat.zero_le _⟩ (fun u H locs hq hP hD hS => ?_)
  obtain ⟨u_1, rfl⟩ : ∃ z9, z9 = u := ⟨_, rfl⟩
  have hq_u_1 : LLP q N d (itR r c 2 (nI n) (q 5 n)) j lev cr (c + 1) u_1 := hq
  have hP : va_P D vwCl (wX cI a (vU v 4 (nI ((c + 1) + (PL q N d (nI j) lev cr 0 0).length))) u_1) H := hP
  have hD : va_D A (wX cI a (vU v 4 (nI ((c + 1) + (PL q N d (nI j) lev cr 0 0).length))) u_1) := hD
  have hp2 := pb_ll hT hp1 hnN hk e2 hfj (c2 := c + 1) (by simp only [List.length_append, List.length_cons, List.length_nil, List.length_map] <;> omega) hq_u_1
  have hjx : BM u_1 j (ML q N d (nI j) lev cr) ∧ _ ∧ _ := ⟨hq_u_1.2.2.1, hq_u_1.2.2.2.1, hq_u_1.2.2.2.2.1⟩
  refine lv_aload_n hx hb dX3_layFence_39 rfl (lv_at hl 2 rfl) ?_
  refine lv_iload_n hx hb dX3_layFence_40 rfl (lv_at hl 3 rfl) ?_
  refine lv_aload_n hx hb dX3_layFence_41 rfl (lv_at hl 2 rfl) ?_
  refine va_get (D := D) (ci := 3) (v := .ref (a 1)) (C := RX3) (T := TX3) (N := 6) hx hb hts hin_X3 hown hK hP 20 rfl rfl 0 (by decide) hf35 (fun _ h9 => h9) rfl dX3_layFence_42 ?_
  refine va_get (D := D) (ci := 0) (v := .ref (a 9)) (C := RX0) (T := TX0) (N := 14) hx hb hts hin_X0 hown hK hP 1 rfl rfl 10 (by decide) hf170 (fun _ h9 => h9) rfl dX3_layFence_45 ?_
  refine lv_iload_n hx hb dX3_layFence_48 rfl (lv_at hl 3 rfl) ?_
  refine ra_ld (f := (u_1 9)) C0 hP 9 rfl n rfl (by omega) (by decide) dX3_layFence_49 ?_
  refine lv_eqi (show u_1 9 n = 0 by rw [(hp1.1.tr hq_u_1.1) 9 (by decide)]; exact (a9.trans er0)) ?_
  refine kcD (ans := (-1)) C0 hP hD hS (c_X3_addDelimiter_0 l D cI a v u_1 n ((c + 1) + (PL q N d (nI j) lev cr 0 0).length)) (cwV 2 hts gX3_layFence_X3_addDelimiter rfl rfl rfl (by decide +kernel) ⟨by dsimp only [rxL, rxF, rxA]; omega, by dsimp only [rxL, rxF, rxA]; omega⟩) 20 3 rfl rfl rfl hl.1 rfl (Nat.le_of_ble_eq_true rfl) dX3_layFence_50 ⟨Nat.zero_le _, Nat.zero_le _⟩ (fun H locs hP hD hS => ?_)
  refine lv_istore (lv' := [(7, .int (-1)), (6, .int (nI c)), (5, .int (nI j)), (0, .ref (a 20)), (1, .int (nI n)), (2, .int lev), (3, .int cr), (4, .int (nI lv))]) hx hb dX3_layFence_53 hl (by decide) rfl (fun ls hl => ?_)
  have hp3 := hp2
  refine lv_iconst (v := 2) hx hb dX3_layFence_55 (by decide) ?_
  refine lv_aload_n hx hb dX3_layFence_56 rfl (lv_at hl 3 rfl) ?_
  refine va_get (D := D) (ci := 3) (v := .ref (a 12)) (C := RX3) (T := TX3) (N := 6) hx hb hts hin_X3 hown hK hP 20 rfl rfl 1 (by decide) hf12 (fun _ h9 => h9) rfl dX3_layFence_57 ?_
  refine va_get (D := D) (ci := 1) (v := .ref (a 14)) (C := RX1) (T := TX1) (N := 5) hx hb hts hin_X1 hown hK hP 12 rfl rfl 1 (by decide) hf49 (fun _ h9 => h9) rfl dX3_layFence_60 ?_
  refine lv_iload hx hb dX3_layFence_63 (lv_at hl 2 rfl) ?_
  refine ra_ld (f := (u_1 14)) C0 hP 14 rfl j rfl (by omega) (by decide) dX3_layFence_65 ?_
  refine lv_eqi hjx.1.2.1 ?_
  refine lv_iload_n hx hb dX3_layFence_66 rfl (lv_at hl 5 rfl) ?_
  refine kcSN (ans := (2 * uni lev)) C0 hP hS (c_X4_axis l D cI lev ) ⟨va_cnB 1 hts gX3_layFence_X4_axis_n173 rfl rfl rfl C0.2.2.2.2.2.1.2.2 (hts (.initialized RX4) (by decide +kernel)) (by decide +kernel) ⟨by dsimp only [rxL, rxF, rxA]; omega, by dsimp only [rxL, rxF, rxA]; omega⟩, hts (.static yX4_axis) (by decide +kernel), trivial⟩ rfl hl.1 rfl (Nat.le_of_ble_eq_true rfl) dX3_layFence_67 ⟨Nat.zero_le _, Nat.zero_le _⟩ (fun H locs hP hS => ?_)
  refine lv_isub hx hb dX3_layFence_70 ?_
  refine lv_aload_n hx hb dX3_layFence_71 rfl (lv_at hl 3 rfl) ?_
  refine va_get (D := D) (ci := 3) (v := .ref (a 12)) (C := RX3) (T := TX3) (N := 6) hx hb hts hin_X3 hown hK hP 20 rfl rfl 1 (by decide) hf12 (fun _ h9 => h9) rfl dX3_layFence_72 ?_
  refine va_get (D := D) (ci := 1) (v := .ref (a 15)) (C := RX1) (T := TX1) (N := 5) hx hb hts hin_X1 hown hK hP 12 rfl rfl 2 (by decide) hf51 (fun _ h9 => h9) rfl dX3_layFence_75 ?_
  refine lv_iload hx hb dX3_layFence_78 (lv_at hl 2 rfl) ?_
  refine ra_ld (f := (u_1 15)) C0 hP 15 rfl j rfl (by omega) (by decide) dX3_layFence_80 ?_
  refine lv_eqi hjx.1.2.2 ?_
  refine lv_iload_n hx hb dX3_layFence_81 rfl (lv_at hl 5 rfl) ?_
  refine kcSN (ans := (2 * uni lev)) C0 hP hS (c_X4_axis l D cI lev ) ⟨va_cnB 1 hts gX3_layFence_X4_axis_n173 rfl rfl rfl C0.2.2.2.2.2.1.2.2 (hts (.initialized RX4) (by decide +kernel)) (by decide +kernel) ⟨by dsimp only [rxL, rxF, rxA]; omega, by dsimp only [rxL, rxF, rxA]; omega⟩, hts (.static yX4_axis) (by decide +kernel), trivial⟩ rfl hl.1 rfl (Nat.le_of_ble_eq_true rfl) dX3_layFence_82 ⟨Nat.zero_le _, Nat.zero_le _⟩ (fun H locs hP hS => ?_)
  refine lv_iadd hx hb dX3_layFence_85 ?_
  refine va_mmax hx hb (hml.trans hl.1.symm) hown (hts (.methodLink RX3 156 Lib.Math.max.name) (by decide +kernel)) (hts (.static Lib.Math.max.name) (by decide +kernel)) (hts (.initialized "java/lang/Math") (by decide +kernel)) (hts (.code Lib.Math.max.name Lib.Math.max.code 2 (some .int)) (by decide +kernel)) (by dsimp only [rxF]; omega) (Nat.le_trans (m := 60) (Nat.le_of_ble_eq_true rfl) (by dsimp only [rxF]; omega)) (Nat.zero_le _) (Nat.zero_le _) dX3_layFence_86 ?_
  refine lv_eqi (mx_lt ((ML q N d (nI j) lev cr).2.1 - (2 * uni lev)) ((ML q N d (nI j) lev cr).2.2 + (2 * uni lev))) ?_
  refine lv_imul hx hb dX3_layFence_89 ?_
  refine lv_eqi (show _ = feN (ML q N d) q n lev cr by unfold feN; rw [ej]) ?_
  refine lv_istore (lv' := [(8, .int (feN (ML q N d) q n lev cr)), (7, .int (-1)), (6, .int (nI c)), (5, .int (nI j)), (0, .ref (a 20)), (1, .int (nI n)), (2, .int lev), (3, .int cr), (4, .int (nI lv))]) hx hb dX3_layFence_90 hl (by decide) rfl (fun ls hl => ?_)
  refine lv_iload_n hx hb dX3_layFence_92 rfl (lv_at hl 5 rfl) ?_
  refine kcS (ans := (nI (30 + n))) C0 hP hS (c_X1_ofAtom l D cI n) (va_cwS 1 hts gX3_layFence_X1_ofAtom rfl rfl rfl (by decide +kernel) ⟨by dsimp only [rxL, rxF, rxA]; omega, by dsimp only [rxL, rxF, rxA]; omega⟩) rfl hl.1 rfl (Nat.le_of_ble_eq_true rfl) dX3_layFence_93 ⟨Nat.zero_le _, Nat.zero_le _⟩ (fun H locs hP hS => ?_)
  refine lv_istore (lv' := [(9, .int (nI (30 + n))), (8, .int (feN (ML q N d) q n lev cr)), (7, .int (-1)), (6, .int (nI c)), (5, .int (nI j)), (0, .ref (a 20)), (1, .int (nI n)), (2, .int lev), (3, .int cr), (4, .int (nI lv))]) hx hb dX3_layFence_96 hl (by decide) rfl (fun ls hl => ?_)
  have hp3b := hp3.eq (L' := [] ++ (mkI 2 0 0 (r 19 (8 * c + 3)) (r 19 (8 * c + 4)) (q 5 n) (nI n) 0) :: (PL q N d (nI j) lev cr 0 0)) (by simp)
  have ht1 := pb_t hp3b (i := c) rfl
  refine lv_aload_n hx hb dX3_layFence_98 rfl (lv_at hl 5 rfl) ?_
  refine lv_iload hx hb dX3_layFence_99 (lv_at hl 0 rfl) ?_
  refine lv_iload hx hb dX3_layFence_101 (lv_at hl 3 rfl) ?_
  refine lv_iload_n hx hb dX3_layFence_103 rfl (lv_at hl 7 rfl) ?_
  refine lv_iload hx hb dX3_layFence_104 (lv_at hl 1 rfl) ?_
  refine kcD (ans := (uni lev * (2 + rmd (q 5 n) 3))) C0 hP hD hS (c_X3_setDelimiter_2 l D cI a (vU v 4 (nI ((c + 1) + (PL q N d (nI j) lev cr 0 0).length))) u_1 (30 + n) c ((c + 1) + (PL q N d (nI j) lev cr 0 0).length) lev (feN (ML q N d) q n lev cr) (q 5 n) rfl (by omega) (by omega) (by omega) ht1) (cwV 4 hts gX3_layFence_X3_setDelimiter rfl rfl rfl (by decide +kernel) ⟨by dsimp only [rxL, rxF, rxA]; omega, by dsimp only [rxL, rxF, rxA]; omega⟩) 20 3 rfl rfl rfl hl.1 rfl (Nat.le_of_ble_eq_true rfl) dX3_layFence_106 ⟨Nat.zero_le _, Nat.zero_le _⟩ (fun H locs hP hD hS => ?_)
  have hP : va_P D vwCl (wX cI a (vU v 4 (nI ((c + 1) + (PL q N d (nI j) lev cr 0 0).length))) (cvR (msR (mkR u_1 c (feN (ML q N d) q n lev cr) lev) c (stp (feN (ML q N d) q n lev cr) lev) (uni lev * (2 + rmd (q 5 n) 3))) (30 + n) 0 (2 * uni lev + tal (stp (feN (ML q N d) q n lev cr) lev) lev / 2) (tal (stp (feN (ML q N d) q n lev cr) lev) lev - (2 * uni lev + tal (stp (feN (ML q N d) q n lev cr) lev) lev / 2)))) H := hP
  have hD : va_D A (wX cI a (vU v 4 (nI ((c + 1) + (PL q N d (nI j) lev cr 0 0).length))) (cvR (msR (mkR u_1 c (feN (ML q N d) q n lev cr) lev) c (stp (feN (ML q N d) q n lev cr) lev) (uni lev * (2 + rmd (q 5 n) 3))) (30 + n) 0 (2 * uni lev + tal (stp (feN (ML q N d) q n lev cr) lev) lev / 2) (tal (stp (feN (ML q N d) q n lev cr) lev) lev - (2 * uni lev + tal (stp (feN (ML q N d) q n lev cr) lev) lev / 2)))) := hD
  refine lv_istore (lv' := [(10, .int (uni lev * (2 + rmd (q 5 n) 3))), (9, .int (nI (30 + n))), (8, .int (feN (ML q N d) q n lev cr)), (7, .int (-1)), (6, .int (nI c)), (5, .int (nI j)), (0, .ref (a 20)), (1, .int (nI n)), (2, .int lev), (3, .int cr), (4, .int (nI lv))]) hx hb dX3_layFence_109 hl (by decide) rfl (fun ls hl => ?_)
  have hp4 := pb_sd (must := (feN (ML q N d) q n lev cr)) (lev := lev) (w := (uni lev * (2 + rmd (q 5 n) 3))) (o := (2 * uni lev + tal (stp (feN (ML q N d) q n lev cr) lev) lev / 2)) (e := (tal (stp (feN (ML q N d) q n lev cr) lev) lev - (2 * uni lev + tal (stp (feN (ML q N d) q n lev cr) lev) lev / 2))) hp3b (i := c) rfl
  have hp4b := hp4.eq (L' := [(mkI 2 0 0 (stp (feN (ML q N d) q n lev cr) lev) (uni lev * (2 + rmd (q 5 n) 3)) (q 5 n) (nI n) (if 9 * (feN (ML q N d) q n lev cr) ≤ 10 * (uni lev * (6 + 4 * stp (feN (ML q N d) q n lev cr) lev)) then 0 else 1))] ++ ((PL q N d (nI j) lev cr 0 0) ++ [])) (by simp)
  have hjy := jx_lc (n := n) (w := (cvR (msR (mkR u_1 c (feN (ML q N d) q n lev cr) lev) c (stp (feN (ML q N d) q n lev cr) lev) (uni lev * (2 + rmd (q 5 n) 3))) (30 + n) 0 (2 * uni lev + tal (stp (feN (ML q N d) q n lev cr) lev) lev / 2) (tal (stp (feN (ML q N d) q n lev cr) lev) lev - (2 * uni lev + tal (stp (feN (ML q N d) q n lev cr) lev) lev / 2)))) (lc_rf.tr lc_sd) hj hjx
  refine lv_aload_n hx hb dX3_layFence_111 rfl (lv_at hl 6 rfl) ?_
  refine lv_iload hx hb dX3_layFence_112 (lv_at hl 1 rfl) ?_
  refine lv_iload hx hb dX3_layFence_114 (lv_at hl 5 rfl) ?_
  refine lv_iload hx hb dX3_layFence_116 (lv_at hl 0 rfl) ?_
  refine lv_iconst (v := 0) hx hb dX3_layFence_118 (by decide) ?_
  refine kcDv C0 hP hD hS (c_X3_place l D cI a (vU v 4 (nI ((c + 1) + (PL q N d (nI j) lev cr 0 0).length))) (cvR (msR (mkR u_1 c (feN (ML q N d) q n lev cr) lev) c (stp (feN (ML q N d) q n lev cr) lev) (uni lev * (2 + rmd (q 5 n) 3))) (30 + n) 0 (2 * uni lev + tal (stp (feN (ML q N d) q n lev cr) lev) lev / 2) (tal (stp (feN (ML q N d) q n lev cr) lev) lev - (2 * uni lev + tal (stp (feN (ML q N d) q n lev cr) lev) lev / 2))) (30 + n) ((c + 1) + (PL q N d (nI j) lev cr 0 0).length) (nI j) (uni lev * (2 + rmd (q 5 n) 3)) 0 rfl (by omega) (by omega) (Or.inr ⟨j, _, _, by omega, rfl, hjy.2.1, hjy.2.2, by omega, by omega⟩)) (cwV 4 hts gX3_layFence_X3_place rfl rfl rfl (by decide +kernel) ⟨by dsimp only [rxL, rxF, rxA]; omega, by dsimp only [rxL, rxF, rxA]; omega⟩) 20 3 rfl rfl rfl hl.1 rfl (Nat.le_of_ble_eq_true rfl) dX3_layFence_119 ⟨Nat.zero_le _, Nat.zero_le _⟩ (fun H locs hP hD hS => ?_)
  have hP : va_P D vwCl (wX cI a (vU v 4 (nI ((c + 1) + (PL q N d (nI j) lev cr 0 0).length))) (plR (cvR (msR (mkR u_1 c (feN (ML q N d) q n lev cr) lev) c (stp (feN (ML q N d) q n lev cr) lev) (uni lev * (2 + rmd (q 5 n) 3))) (30 + n) 0 (2 * uni lev + tal (stp (feN (ML q N d) q n lev cr) lev) lev / 2) (tal (stp (feN (ML q N d) q n lev cr) lev) lev - (2 * uni lev + tal (stp (feN (ML q N d) q n lev cr) lev) lev / 2))) (30 + n) (nI j) (uni lev * (2 + rmd (q 5 n) 3)) 0)) H := hP
  have hD : va_D A (wX cI a (vU v 4 (nI ((c + 1) + (PL q N d (nI j) lev cr 0 0).length))) (plR (cvR (msR (mkR u_1 c (feN (ML q N d) q n lev cr) lev) c (stp (feN (ML q N d) q n lev cr) lev) (uni lev * (2 + rmd (q 5 n) 3))) (30 + n) 0 (2 * uni lev + tal (stp (feN (ML q N d) q n lev cr) lev) lev / 2) (tal (stp (feN (ML q N d) q n lev cr) lev) lev - (2 * uni lev + tal (stp (feN (ML q N d) q n lev cr) lev) lev / 2))) (30 + n) (nI j) (uni lev * (2 + rmd (q 5 n) 3)) 0)) := hD
  have hp5 := pb_pl (X := (uni lev * (2 + rmd (q 5 n) 3))) (Y := 0) hp4b hj hjy.1 (by rw [hjy.2.1]; rfl) (by rw [hjy.2.2]; rfl) (by simp only [List.length_cons, List.length_nil]; omega)
  refine lv_iload hx hb dX3_layFence_122 (lv_at hl 0 rfl) ?_
  refine lv_aload_n hx hb dX3_layFence_124 rfl (lv_at hl 6 rfl) ?_
  refine va_get (D := D) (ci := 3) (v := .ref (a 12)) (C := RX3) (T := TX3) (N := 6) hx hb hts hin_X3 hown hK hP 20 rfl rfl 1 (by decide) hf12 (fun _ h9 => h9) rfl dX3_layFence_125 ?_
  refine va_get (D := D) (ci := 1) (v := .ref (a 13)) (C := RX1) (T := TX1) (N := 5) hx hb hts hin_X1 hown hK hP 12 rfl rfl 0 (by decide) hf46 (fun _ h9 => h9) rfl dX3_layFence_128 ?_
  refine lv_iload hx hb dX3_layFence_131 (lv_at hl 5 rfl) ?_
  refine ra_ld (f := (u_1 13)) C0 hP 13 rfl j rfl (by omega) (by decide) dX3_layFence_133 ?_
  refine lv_eqi hjx.1.1 ?_
  refine lv_iadd hx hb dX3_layFence_134 ?_
  refine lv_istore (lv' := [(10, .int ((uni lev * (2 + rmd (q 5 n) 3)) + (ML q N d (nI j) lev cr).1)), (9, .int (nI (30 + n))), (8, .int (feN (ML q N d) q n lev cr)), (7, .int (-1)), (6, .int (nI c)), (5, .int (nI j)), (0, .ref (a 20)), (1, .int (nI n)), (2, .int lev), (3, .int cr), (4, .int (nI lv))]) hx hb dX3_layFence_135 hl (by decide) rfl (fun ls hl => ?_)
  refine lv_aload_n hx hb dX3_layFence_137 rfl (lv_at hl 6 rfl) ?_
  refine lv_iload hx hb dX3_layFence_138 (lv_at hl 1 rfl) ?_
  refine lv_iload hx hb dX3_layFence_140 (lv_at hl 3 rfl) ?_
  refine lv_iload_n hx hb dX3_layFence_142 rfl (lv_at hl 8 rfl) ?_
  refine lv_iload hx hb dX3_layFence_143 (lv_at hl 2 rfl) ?_
  refine kcD (ans := (uni lev / 2)) C0 hP hD hS (c_X3_setDelimiter_0 l D cI a (vU v 4 (nI ((c + 1) + (PL q N d (nI j) lev cr 0 0).length))) (plR (cvR (msR (mkR u_1 c (feN (ML q N d) q n lev cr) lev) c (stp (feN (ML q N d) q n lev cr) lev) (uni lev * (2 + rmd (q 5 n) 3))) (30 + n) 0 (2 * uni lev + tal (stp (feN (ML q N d) q n lev cr) lev) lev / 2) (tal (stp (feN (ML q N d) q n lev cr) lev) lev - (2 * uni lev + tal (stp (feN (ML q N d) q n lev cr) lev) lev / 2))) (30 + n) (nI j) (uni lev * (2 + rmd (q 5 n) 3)) 0) (30 + n) lev (feN (ML q N d) q n lev cr)) (cwV 4 hts gX3_layFence_X3_setDelimiter rfl rfl rfl (by decide +kernel) ⟨by dsimp only [rxL, rxF, rxA]; omega, by dsimp only [rxL, rxF, rxA]; omega⟩) 20 3 rfl rfl rfl hl.1 rfl (Nat.le_of_ble_eq_true rfl) dX3_layFence_145 ⟨Nat.zero_le _, Nat.zero_le _⟩ (fun H locs hP hD hS => ?_)
  refine lv_istore (lv' := [(11, .int (uni lev / 2)), (10, .int ((uni lev * (2 + rmd (q 5 n) 3)) + (ML q N d (nI j) lev cr).1)), (9, .int (nI (30 + n))), (8, .int (feN (ML q N d) q n lev cr)), (7, .int (-1)), (6, .int (nI c)), (5, .int (nI j)), (0, .ref (a 20)), (1, .int (nI n)), (2, .int lev), (3, .int cr), (4, .int (nI lv))]) hx hb dX3_layFence_148 hl (by decide) rfl (fun ls hl => ?_)
  refine lv_iload hx hb dX3_layFence_150 (lv_at hl 4 rfl) ?_
  refine lv_iconst (v := (-1)) hx hb dX3_layFence_152 (by decide) ?_
  refine lv_icmp_eq (tgt := 172) hx hb dX3_layFence_153 (by decide) (fun c_153 => ?_) (fun c_153 => absurd (by decide) c_153)
  have hp7 := hp5
  refine lv_aload_n hx hb dX3_layFence_172 rfl (lv_at hl 7 rfl) ?_
  refine va_get (D := D) (ci := 3) (v := .ref (a 12)) (C := RX3) (T := TX3) (N := 6) hx hb hts hin_X3 hown hK hP 20 rfl rfl 1 (by decide) hf12 (fun _ h9 => h9) rfl dX3_layFence_173 ?_
  refine va_get (D := D) (ci := 1) (v := .ref (a 13)) (C := RX1) (T := TX1) (N := 5) hx hb hts hin_X1 hown hK hP 12 rfl rfl 0 (by decide) hf46 (fun _ h9 => h9) rfl dX3_layFence_176 ?_
  refine lv_iload hx hb dX3_layFence_179 (lv_at hl 2 rfl) ?_
  refine lv_iload hx hb dX3_layFence_181 (lv_at hl 1 rfl) ?_
  refine lv_iload hx hb dX3_layFence_183 (lv_at hl 0 rfl) ?_
  refine lv_iadd hx hb dX3_layFence_185 ?_
  refine ra_st (f := (u_1 13)) C0 hP hD hS 13 rfl (30 + n) rfl (by omega) (by decide) dX3_layFence_186 (fun H locs hP hD hS => ?_)
  have hset : ∀ (R_ : Nat → Nat → Int32) (y4_ : Int32) (g_ : Nat → Int32), (wX cI a (vU v 4 y4_) R_).set 13 (a 13, .inl (cI, 150, .inl g_)) = (wX cI a (vU v 4 y4_) (rU R_ 13 g_)) := fun _ _ _ => rfl
  rw [hset] at hP hD
  have hw4 : ((c + 1) + (PL q N d (nI j) lev cr 0 0).length) = c + (pFe (ML q N d) (PL q N d) q n lev cr 0 0).length := by rw [pFe_len ej, if_neg hl1, if_pos hr1] <;> omega
  have hw5 : (wX cI a (vU v 4 (nI ((c + 1) + (PL q N d (nI j) lev cr 0 0).length))) (rU (plR (cvR (msR (mkR u_1 c (feN (ML q N d) q n lev cr) lev) c (stp (feN (ML q N d) q n lev cr) lev) (uni lev * (2 + rmd (q 5 n) 3))) (30 + n) 0 (2 * uni lev + tal (stp (feN (ML q N d) q n lev cr) lev) lev / 2) (tal (stp (feN (ML q N d) q n lev cr) lev) lev - (2 * uni lev + tal (stp (feN (ML q N d) q n lev cr) lev) lev / 2))) (30 + n) (nI j) (uni lev * (2 + rmd (q 5 n) 3)) 0) 13 (upd (u_1 13) (30 + n) (((uni lev * (2 + rmd (q 5 n) 3)) + (ML q N d (nI j) lev cr).1) + (uni lev / 2))))) = (wX cI a (vU v 4 (nI (c + (pFe (ML q N d) (PL q N d) q n lev cr 0 0).length))) (rU (plR (cvR (msR (mkR u_1 c (feN (ML q N d) q n lev cr) lev) c (stp (feN (ML q N d) q n lev cr) lev) (uni lev * (2 + rmd (q 5 n) 3))) (30 + n) 0 (2 * uni lev + tal (stp (feN (ML q N d) q n lev cr) lev) lev / 2) (tal (stp (feN (ML q N d) q n lev cr) lev) lev - (2 * uni lev + tal (stp (feN (ML q N d) q n lev cr) lev) lev / 2))) (30 + n) (nI j) (uni lev * (2 + rmd (q 5 n) 3)) 0) 13 (upd (u_1 13) (30 + n) (((uni lev * (2 + rmd (q 5 n) 3)) + (ML q N d (nI j) lev cr).1) + (uni lev / 2))))) := by rw [hw4]
  rw [hw5] at hP hD
  have hp8 := pb_at (W := (uni lev * (2 + rmd (q 5 n) 3)) + (ML q N d (nI j) lev cr).1 + (uni lev / 2)) hp7
  have h9 : ATP q r (r 19) n c (mFe (ML q N d) q n lev cr) (pFe (ML q N d) (PL q N d) q n lev cr 0 0) (rU (plR (cvR (msR (mkR u_1 c (feN (ML q N d) q n lev cr) lev) c (stp (feN (ML q N d) q n lev cr) lev) (uni lev * (2 + rmd (q 5 n) 3))) (30 + n) 0 (2 * uni lev + tal (stp (feN (ML q N d) q n lev cr) lev) lev / 2) (tal (stp (feN (ML q N d) q n lev cr) lev) lev - (2 * uni lev + tal (stp (feN (ML q N d) q n lev cr) lev) lev / 2))) (30 + n) (nI j) (uni lev * (2 + rmd (q 5 n) 3)) 0) 13 (upd (u_1 13) (30 + n) (((uni lev * (2 + rmd (q 5 n) 3)) + (ML q N d (nI j) lev cr).1) + (uni lev / 2)))) := by
    have e1 : pFe (ML q N d) (PL q N d) q n lev cr 0 0 = _ := pFe_l ej
    rw [if_neg hl1, if_pos hr1, dlw_n hl0] at e1
    have e2 : mFe (ML q N d) q n lev cr = ((uni lev * (2 + rmd (q 5 n) 3)) + (ML q N d (nI j) lev cr).1 + (uni lev / 2), mx (mx (ML q N d (nI j) lev cr).2.1 (2 * uni lev + tal (stp (feN (ML q N d) q n lev cr) lev) lev / 2)) 0, mx (mx (ML q N d (nI j) lev cr).2.2 (tal (stp (feN (ML q N d) q n lev cr) lev) lev - (2 * uni lev + tal (stp (feN (ML q N d) q n lev cr) lev) lev / 2))) 0) := by unfold mFe feO feT; rw [ej, dlw_n hl0, er0, dlw_0, w_3]
    rw [mx_3b, mx_4b] at hp8
    rw [e2, e1]
    simp only [List.map_cons, List.map_nil, sft_mk, Int32.zero_add, List.append_nil, List.nil_append, List.cons_append, List.append_assoc] at hp8 ⊢
    exact hp8
  exact k_vret C0 (rU (plR (cvR (msR (mkR u_1 c (feN (ML q N d) q n lev cr) lev) c (stp (feN (ML q N d) q n lev cr) lev) (uni lev * (2 + rmd (q 5 n) 3))) (30 + n) 0 (2 * uni lev + tal (stp (feN (ML q N d) q n lev cr) lev) lev / 2) (tal (stp (feN (ML q N d) q n lev cr) lev) lev - (2 * uni lev + tal (stp (feN (ML q N d) q n lev cr) lev) lev / 2))) (30 + n) (nI j) (uni lev * (2 + rmd (q 5 n) 3)) 0) 13 (upd (u_1 13) (30 + n) (((uni lev * (2 + rmd (q 5 n) 3)) + (ML q N d (nI j) lev cr).1) + (uni lev / 2)))) hP hD hS h9 dX3_layFence_187

set_option maxHeartbeats 1500000 in
set_option maxRecDepth 100000 in
theorem c_X3_layFence_01 (l : Launch) (D : va_G) (cI : ClassId) (a : Nat → Nat) (v : Nat → Int32) (r : Nat → Nat → Int32) (q : Rw) (N n k d lv : Nat) (dp sl : Nat → Nat) (lev cr : Int32) (c : Nat) (hM : HLL l D cI a q N dp d) (hT : LY q N dp sl) (hr : RQ q N v r) (hN : v 0 = nI N) (hnN : n < N) (hk : k < 30) (e2 : q 2 n = nI k) (hd : 29 ≤ d + dp k) (hlv : lv ≤ dp k) (hlev : lvO lev) (hf3 : q 3 n = 2) (e13 : BM r (30 + n) (0, 0, 0)) (h16 : r 16 (30 + n) = nI c) (h17 : r 17 (30 + n) = nI c) (hcl : c + (pFe (ML q N d) (PL q N d) q n lev cr 0 0).length ≤ 150) (el0 : q 5 n = 0) (hr0 : ¬ q 7 n = 0) : KV l D cI yX3_layFence wsX3_layFence (rxF d) [.ref (a 20), .int (nI n), .int lev, .int cr, .int (nI lv)] (wX cI a (vU v 4 (nI c)) r) (fun u : Rw => wX cI a (vU v 4 (nI (c + (pFe (ML q N d) (PL q N d) q n lev cr 0 0).length))) u) (fun u => ATP q r (r 19) n c (mFe (ML q N d) q n lev cr) (pFe (ML q N d) (PL q N d) q n lev cr 0 0) u) := by
  refine KV.of (cc := cX3_layFence) (nL := 12) (ret := none) (by decide) rfl (Nat.le_of_ble_eq_true rfl) ?_
  intro pg9 en9 s m args below meth cd9 A ls C0 hP hD hS hl
  have hx := C0.1.1
  have hb := C0.1.2.1
  have hml := C0.1.2.2.1
  have hown : s.vm.findClass RX3 = some m.cls := C0.1.2.2.2.1
  have hts : ∀ w ∈ wsX3_layFence, w.before args s = true := C0.1.2.2.2.2
  have hK := C0.2.2.2.1
  have hin_X3 : ∀ w ∈ wsX30, w ∈ wsX3_layFence := fun w h => List.mem_cons_of_mem _ (List.mem_append_left _ (List.mem_append_left _ (List.mem_append_left _ (List.mem_append_right _ h))))
  have hf35 : (Cond.fieldLink RX3 35 "FormulaLists$Layout" "book" "LFormulaLists$Book;").before args s = true := hts _ (by decide +kernel)
  have hin_X0 : ∀ w ∈ wsX00, w ∈ wsX3_layFence := fun w h => List.mem_cons_of_mem _ (List.mem_append_left _ (List.mem_append_right _ h))
  have hf71 : (Cond.fieldLink RX3 71 "FormulaLists$Book" "second" "[I").before args s = true := hts _ (by decide +kernel)
  have hf68 : (Cond.fieldLink RX3 68 "FormulaLists$Book" "first" "[I").before args s = true := hts _ (by decide +kernel)
  have hf170 : (Cond.fieldLink RX3 170 "FormulaLists$Book" "third" "[I").before args s = true := hts _ (by decide +kernel)
  have hf12 : (Cond.fieldLink RX3 12 "FormulaLists$Layout" "boxes" "LFormulaLists$Boxes;").before args s = true := hts _ (by decide +kernel)
  have hin_X1 : ∀ w ∈ wsX10, w ∈ wsX3_layFence := fun w h => List.mem_cons_of_mem _ (List.mem_append_right _ h)
  have hf49 : (Cond.fieldLink RX3 49 "FormulaLists$Boxes" "height" "[I").before args s = true := hts _ (by decide +kernel)
  have hf51 : (Cond.fieldLink RX3 51 "FormulaLists$Boxes" "depth" "[I").before args s = true := hts _ (by decide +kernel)
  have hf46 : (Cond.fieldLink RX3 46 "FormulaLists$Boxes" "width" "[I").before args s = true := hts _ (by decide +kernel)
  have hf21 : (Cond.fieldLink RX3 21 "FormulaLists$Layout" "items" "LFormulaLists$Items;").before args s = true := hts _ (by decide +kernel)
  have hl : lv_has ls 12 [(0, .ref (a 20)), (1, .int (nI n)), (2, .int lev), (3, .int cr), (4, .int (nI lv))] := hl
  have hP : va_P D vwCl (wX cI a (vU v 4 (nI c)) r) s.heap := hP
  have h9 := hT.1
  have hn : n < 120 := by omega
  have hnd := (hT.2.2.2.2 n hnN).2.2.2
  have hnm : ¬ q 3 n = 3 := by rw [hf3]; decide
  obtain ⟨⟨j, hj, ej⟩, hq0, hq1, hq2, hq3, hq4⟩ : isLs (q 6 n) ∧ 0 ≤ q 5 n ∧ q 5 n ≤ 5 ∧ 0 ≤ q 7 n ∧ q 7 n ≤ 5 ∧ ¬ (q 5 n = 0 ∧ q 7 n = 0) := by rcases hnd with h | h | h | h | h; exact absurd (hf3.symm.trans h.1) (by decide); exact absurd (hf3.symm.trans h.1) (by decide); exact h.2; exact absurd (hf3.symm.trans h.1) (by decide); exact absurd (hf3.symm.trans h.1) (by decide)
  obtain ⟨a7, a8, a9⟩ := hr.2.1 n hnN hnm
  have a8 : r 8 n = nI j := a8.trans ej
  have hfj : FLD q n 1 j := ⟨hj, Or.inr (Or.inl ⟨rfl, Or.inr hf3, ej⟩)⟩
  have hl1 : q 5 n ≤ 0 := by rw [el0]; decide
  have hr1 : ¬ q 7 n ≤ 0 := not_le0 hq2 hr0
  have hcl2 := hcl
  rw [pFe_len ej, if_pos hl1, if_neg hr1] at hcl2
  have hp0 := pb_0 (q := q) (c := c) e13 h16
  refine lv_aload_n hx hb dX3_layFence_0 rfl (lv_at hl 0 rfl) ?_
  refine va_get (D := D) (ci := 3) (v := .ref (a 1)) (C := RX3) (T := TX3) (N := 6) hx hb hts hin_X3 hown hK hP 20 rfl rfl 0 (by decide) hf35 (fun _ h9 => h9) rfl dX3_layFence_1 ?_
  refine va_get (D := D) (ci := 0) (v := .ref (a 8)) (C := RX0) (T := TX0) (N := 14) hx hb hts hin_X0 hown hK hP 1 rfl rfl 9 (by decide) hf71 (fun _ h9 => h9) rfl dX3_layFence_4 ?_
  refine lv_iload_n hx hb dX3_layFence_7 rfl (lv_at hl 1 rfl) ?_
  refine ra_ld (f := (r 8)) C0 hP 8 rfl n rfl (by omega) (by decide) dX3_layFence_8 ?_
  refine lv_eqi a8 ?_
  refine lv_istore (lv' := [(5, .int (nI j)), (0, .ref (a 20)), (1, .int (nI n)), (2, .int lev), (3, .int cr), (4, .int (nI lv))]) hx hb dX3_layFence_9 hl (by decide) rfl (fun ls hl => ?_)
  refine lv_aload_n hx hb dX3_layFence_11 rfl (lv_at hl 1 rfl) ?_
  refine lv_iload_n hx hb dX3_layFence_12 rfl (lv_at hl 2 rfl) ?_
  refine lv_aload_n hx hb dX3_layFence_13 rfl (lv_at hl 1 rfl) ?_
  refine va_get (D := D) (ci := 3) (v := .ref (a 1)) (C := RX3) (T := TX3) (N := 6) hx hb hts hin_X3 hown hK hP 20 rfl rfl 0 (by decide) hf35 (fun _ h9 => h9) rfl dX3_layFence_14 ?_
  refine va_get (D := D) (ci := 0) (v := .ref (a 7)) (C := RX0) (T := TX0) (N := 14) hx hb hts hin_X0 hown hK hP 1 rfl rfl 8 (by decide) hf68 (fun _ h9 => h9) rfl dX3_layFence_17 ?_
  refine lv_iload_n hx hb dX3_layFence_20 rfl (lv_at hl 2 rfl) ?_
  refine ra_ld (f := (r 7)) C0 hP 7 rfl n rfl (by omega) (by decide) dX3_layFence_21 ?_
  refine lv_eqi (a7.trans el0) ?_
  refine kcD (ans := (-1)) C0 hP hD hS (c_X3_addDelimiter_0 l D cI a v r n c) (cwV 2 hts gX3_layFence_X3_addDelimiter rfl rfl rfl (by decide +kernel) ⟨by dsimp only [rxL, rxF, rxA]; omega, by dsimp only [rxL, rxF, rxA]; omega⟩) 20 3 rfl rfl rfl hl.1 rfl (Nat.le_of_ble_eq_true rfl) dX3_layFence_22 ⟨Nat.zero_le _, Nat.zero_le _⟩ (fun H locs hP hD hS => ?_)
  refine lv_istore (lv' := [(6, .int (-1)), (5, .int (nI j)), (0, .ref (a 20)), (1, .int (nI n)), (2, .int lev), (3, .int cr), (4, .int (nI lv))]) hx hb dX3_layFence_25 hl (by decide) rfl (fun ls hl => ?_)
  have hp1 := hp0
  refine lv_aload_n hx hb dX3_layFence_27 rfl (lv_at hl 2 rfl) ?_
  refine lv_iload hx hb dX3_layFence_28 (lv_at hl 1 rfl) ?_
  refine lv_iload_n hx hb dX3_layFence_30 rfl (lv_at hl 4 rfl) ?_
  refine lv_iload_n hx hb dX3_layFence_31 rfl (lv_at hl 5 rfl) ?_
  refine lv_iload hx hb dX3_layFence_32 (lv_at hl 6 rfl) ?_
  refine lv_iconst (v := 1) hx hb dX3_layFence_34 (by decide) ?_
  refine lv_iadd hx hb dX3_layFence_35 ?_
  refine lv_eqi (nI_1 lv) ?_
  obtain ⟨hk9, hi9, hlt9⟩ := fl_dp hT hnN hk e2 hfj
  refine kcVv C0 hP hD hS (hM v r j (lv + 1) c lev cr hk9 (by omega) (by omega) (hr.sb hp1.1) hN hlev (by omega)) (cwV 4 hts gX3_layFence_X3_layList rfl rfl rfl (by decide +kernel) ⟨by dsimp only [rxL, rxF, rxA]; omega, by dsimp only [rxL, rxF, rxA]; omega⟩) 20 3 rfl rfl rfl hl.1 rfl (Nat.le_of_ble_eq_true rfl) dX3_layFence_36 ⟨Nat.zero_le _, Nat.zero_le _⟩ (fun u H locs hq hP hD hS => ?_)
  obtain ⟨u_1, rfl⟩ : ∃ z9, z9 = u := ⟨_, rfl⟩
  have hq_u_1 : LLP q N d r j lev cr c u_1 := hq
  have hP : va_P D vwCl (wX cI a (vU v 4 (nI (c + (PL q N d (nI j) lev cr 0 0).length))) u_1) H := hP
  have hD : va_D A (wX cI a (vU v 4 (nI (c + (PL q N d (nI j) lev cr 0 0).length))) u_1) := hD
  have hp2 := pb_ll hT hp1 hnN hk e2 hfj (c2 := c) rfl hq_u_1
  have hjx : BM u_1 j (ML q N d (nI j) lev cr) ∧ _ ∧ _ := ⟨hq_u_1.2.2.1, hq_u_1.2.2.2.1, hq_u_1.2.2.2.2.1⟩
  refine lv_aload_n hx hb dX3_layFence_39 rfl (lv_at hl 2 rfl) ?_
  refine lv_iload_n hx hb dX3_layFence_40 rfl (lv_at hl 3 rfl) ?_
  refine lv_aload_n hx hb dX3_layFence_41 rfl (lv_at hl 2 rfl) ?_
  refine va_get (D := D) (ci := 3) (v := .ref (a 1)) (C := RX3) (T := TX3) (N := 6) hx hb hts hin_X3 hown hK hP 20 rfl rfl 0 (by decide) hf35 (fun _ h9 => h9) rfl dX3_layFence_42 ?_
  refine va_get (D := D) (ci := 0) (v := .ref (a 9)) (C := RX0) (T := TX0) (N := 14) hx hb hts hin_X0 hown hK hP 1 rfl rfl 10 (by decide) hf170 (fun _ h9 => h9) rfl dX3_layFence_45 ?_
  refine lv_iload_n hx hb dX3_layFence_48 rfl (lv_at hl 3 rfl) ?_
  refine ra_ld (f := (u_1 9)) C0 hP 9 rfl n rfl (by omega) (by decide) dX3_layFence_49 ?_
  refine lv_eqi (show u_1 9 n = (q 7 n) by rw [(hp1.1.tr hq_u_1.1) 9 (by decide)]; exact a9) ?_
  refine kcD (ans := (nI (c + (PL q N d (nI j) lev cr 0 0).length))) C0 hP hD hS (c_X3_addDelimiter_1 l D cI a v u_1 n (c + (PL q N d (nI j) lev cr 0 0).length) (q 7 n) hr0 (by omega)) (cwV 2 hts gX3_layFence_X3_addDelimiter rfl rfl rfl (by decide +kernel) ⟨by dsimp only [rxL, rxF, rxA]; omega, by dsimp only [rxL, rxF, rxA]; omega⟩) 20 3 rfl rfl rfl hl.1 rfl (Nat.le_of_ble_eq_true rfl) dX3_layFence_50 ⟨Nat.zero_le _, Nat.zero_le _⟩ (fun H locs hP hD hS => ?_)
  have hP : va_P D vwCl (wX cI a (vU v 4 (nI ((c + (PL q N d (nI j) lev cr 0 0).length) + 1))) (itR u_1 (c + (PL q N d (nI j) lev cr 0 0).length) 2 (nI n) (q 7 n))) H := hP
  have hD : va_D A (wX cI a (vU v 4 (nI ((c + (PL q N d (nI j) lev cr 0 0).length) + 1))) (itR u_1 (c + (PL q N d (nI j) lev cr 0 0).length) 2 (nI n) (q 7 n))) := hD
  refine lv_istore (lv' := [(7, .int (nI (c + (PL q N d (nI j) lev cr 0 0).length))), (6, .int (-1)), (5, .int (nI j)), (0, .ref (a 20)), (1, .int (nI n)), (2, .int lev), (3, .int cr), (4, .int (nI lv))]) hx hb dX3_layFence_53 hl (by decide) rfl (fun ls hl => ?_)
  have hp3 := pb_it (c2 := (c + (PL q N d (nI j) lev cr 0 0).length)) (x := 2) (y := nI n) (z := q 7 n) hp2 (by simp only [List.length_append, List.length_cons, List.length_nil, List.length_map] <;> omega)
  refine lv_iconst (v := 2) hx hb dX3_layFence_55 (by decide) ?_
  refine lv_aload_n hx hb dX3_layFence_56 rfl (lv_at hl 3 rfl) ?_
  refine va_get (D := D) (ci := 3) (v := .ref (a 12)) (C := RX3) (T := TX3) (N := 6) hx hb hts hin_X3 hown hK hP 20 rfl rfl 1 (by decide) hf12 (fun _ h9 => h9) rfl dX3_layFence_57 ?_
  refine va_get (D := D) (ci := 1) (v := .ref (a 14)) (C := RX1) (T := TX1) (N := 5) hx hb hts hin_X1 hown hK hP 12 rfl rfl 1 (by decide) hf49 (fun _ h9 => h9) rfl dX3_layFence_60 ?_
  refine lv_iload hx hb dX3_layFence_63 (lv_at hl 2 rfl) ?_
  refine ra_ld (f := (u_1 14)) C0 hP 14 rfl j rfl (by omega) (by decide) dX3_layFence_65 ?_
  refine lv_eqi hjx.1.2.1 ?_
  refine lv_iload_n hx hb dX3_layFence_66 rfl (lv_at hl 5 rfl) ?_
  refine kcSN (ans := (2 * uni lev)) C0 hP hS (c_X4_axis l D cI lev ) ⟨va_cnB 1 hts gX3_layFence_X4_axis_n173 rfl rfl rfl C0.2.2.2.2.2.1.2.2 (hts (.initialized RX4) (by decide +kernel)) (by decide +kernel) ⟨by dsimp only [rxL, rxF, rxA]; omega, by dsimp only [rxL, rxF, rxA]; omega⟩, hts (.static yX4_axis) (by decide +kernel), trivial⟩ rfl hl.1 rfl (Nat.le_of_ble_eq_true rfl) dX3_layFence_67 ⟨Nat.zero_le _, Nat.zero_le _⟩ (fun H locs hP hS => ?_)
  refine lv_isub hx hb dX3_layFence_70 ?_
  refine lv_aload_n hx hb dX3_layFence_71 rfl (lv_at hl 3 rfl) ?_
  refine va_get (D := D) (ci := 3) (v := .ref (a 12)) (C := RX3) (T := TX3) (N := 6) hx hb hts hin_X3 hown hK hP 20 rfl rfl 1 (by decide) hf12 (fun _ h9 => h9) rfl dX3_layFence_72 ?_
  refine va_get (D := D) (ci := 1) (v := .ref (a 15)) (C := RX1) (T := TX1) (N := 5) hx hb hts hin_X1 hown hK hP 12 rfl rfl 2 (by decide) hf51 (fun _ h9 => h9) rfl dX3_layFence_75 ?_
  refine lv_iload hx hb dX3_layFence_78 (lv_at hl 2 rfl) ?_
  refine ra_ld (f := (u_1 15)) C0 hP 15 rfl j rfl (by omega) (by decide) dX3_layFence_80 ?_
  refine lv_eqi hjx.1.2.2 ?_
  refine lv_iload_n hx hb dX3_layFence_81 rfl (lv_at hl 5 rfl) ?_
  refine kcSN (ans := (2 * uni lev)) C0 hP hS (c_X4_axis l D cI lev ) ⟨va_cnB 1 hts gX3_layFence_X4_axis_n173 rfl rfl rfl C0.2.2.2.2.2.1.2.2 (hts (.initialized RX4) (by decide +kernel)) (by decide +kernel) ⟨by dsimp only [rxL, rxF, rxA]; omega, by dsimp only [rxL, rxF, rxA]; omega⟩, hts (.static yX4_axis) (by decide +kernel), trivial⟩ rfl hl.1 rfl (Nat.le_of_ble_eq_true rfl) dX3_layFence_82 ⟨Nat.zero_le _, Nat.zero_le _⟩ (fun H locs hP hS => ?_)
  refine lv_iadd hx hb dX3_layFence_85 ?_
  refine va_mmax hx hb (hml.trans hl.1.symm) hown (hts (.methodLink RX3 156 Lib.Math.max.name) (by decide +kernel)) (hts (.static Lib.Math.max.name) (by decide +kernel)) (hts (.initialized "java/lang/Math") (by decide +kernel)) (hts (.code Lib.Math.max.name Lib.Math.max.code 2 (some .int)) (by decide +kernel)) (by dsimp only [rxF]; omega) (Nat.le_trans (m := 60) (Nat.le_of_ble_eq_true rfl) (by dsimp only [rxF]; omega)) (Nat.zero_le _) (Nat.zero_le _) dX3_layFence_86 ?_
  refine lv_eqi (mx_lt ((ML q N d (nI j) lev cr).2.1 - (2 * uni lev)) ((ML q N d (nI j) lev cr).2.2 + (2 * uni lev))) ?_
  refine lv_imul hx hb dX3_layFence_89 ?_
  refine lv_eqi (show _ = feN (ML q N d) q n lev cr by unfold feN; rw [ej]) ?_
  refine lv_istore (lv' := [(8, .int (feN (ML q N d) q n lev cr)), (7, .int (nI (c + (PL q N d (nI j) lev cr 0 0).length))), (6, .int (-1)), (5, .int (nI j)), (0, .ref (a 20)), (1, .int (nI n)), (2, .int lev), (3, .int cr), (4, .int (nI lv))]) hx hb dX3_layFence_90 hl (by decide) rfl (fun ls hl => ?_)
  refine lv_iload_n hx hb dX3_layFence_92 rfl (lv_at hl 5 rfl) ?_
  refine kcS (ans := (nI (30 + n))) C0 hP hS (c_X1_ofAtom l D cI n) (va_cwS 1 hts gX3_layFence_X1_ofAtom rfl rfl rfl (by decide +kernel) ⟨by dsimp only [rxL, rxF, rxA]; omega, by dsimp only [rxL, rxF, rxA]; omega⟩) rfl hl.1 rfl (Nat.le_of_ble_eq_true rfl) dX3_layFence_93 ⟨Nat.zero_le _, Nat.zero_le _⟩ (fun H locs hP hS => ?_)
  refine lv_istore (lv' := [(9, .int (nI (30 + n))), (8, .int (feN (ML q N d) q n lev cr)), (7, .int (nI (c + (PL q N d (nI j) lev cr 0 0).length))), (6, .int (-1)), (5, .int (nI j)), (0, .ref (a 20)), (1, .int (nI n)), (2, .int lev), (3, .int cr), (4, .int (nI lv))]) hx hb dX3_layFence_96 hl (by decide) rfl (fun ls hl => ?_)
  refine lv_aload_n hx hb dX3_layFence_98 rfl (lv_at hl 5 rfl) ?_
  refine lv_iload hx hb dX3_layFence_99 (lv_at hl 0 rfl) ?_
  refine lv_iload hx hb dX3_layFence_101 (lv_at hl 3 rfl) ?_
  refine lv_iload_n hx hb dX3_layFence_103 rfl (lv_at hl 7 rfl) ?_
  refine lv_iload hx hb dX3_layFence_104 (lv_at hl 1 rfl) ?_
  refine kcD (ans := (uni lev / 2)) C0 hP hD hS (c_X3_setDelimiter_0 l D cI a (vU v 4 (nI ((c + (PL q N d (nI j) lev cr 0 0).length) + 1))) (itR u_1 (c + (PL q N d (nI j) lev cr 0 0).length) 2 (nI n) (q 7 n)) (30 + n) lev (feN (ML q N d) q n lev cr)) (cwV 4 hts gX3_layFence_X3_setDelimiter rfl rfl rfl (by decide +kernel) ⟨by dsimp only [rxL, rxF, rxA]; omega, by dsimp only [rxL, rxF, rxA]; omega⟩) 20 3 rfl rfl rfl hl.1 rfl (Nat.le_of_ble_eq_true rfl) dX3_layFence_106 ⟨Nat.zero_le _, Nat.zero_le _⟩ (fun H locs hP hD hS => ?_)
  refine lv_istore (lv' := [(10, .int (uni lev / 2)), (9, .int (nI (30 + n))), (8, .int (feN (ML q N d) q n lev cr)), (7, .int (nI (c + (PL q N d (nI j) lev cr 0 0).length))), (6, .int (-1)), (5, .int (nI j)), (0, .ref (a 20)), (1, .int (nI n)), (2, .int lev), (3, .int cr), (4, .int (nI lv))]) hx hb dX3_layFence_109 hl (by decide) rfl (fun ls hl => ?_)
  have hp4 := hp3
  have hp4b := hp4.eq (L' := [] ++ ((PL q N d (nI j) lev cr 0 0) ++ [(mkI 2 0 0 (u_1 19 (8 * (c + (PL q N d (nI j) lev cr 0 0).length) + 3)) (u_1 19 (8 * (c + (PL q N d (nI j) lev cr 0 0).length) + 4)) (q 7 n) (nI n) 0)])) (by simp)
  have hjy := jx_lc (n := n) (w := (itR u_1 (c + (PL q N d (nI j) lev cr 0 0).length) 2 (nI n) (q 7 n))) (lc_rf.tr lc_it) hj hjx
  refine lv_aload_n hx hb dX3_layFence_111 rfl (lv_at hl 6 rfl) ?_
  refine lv_iload hx hb dX3_layFence_112 (lv_at hl 1 rfl) ?_
  refine lv_iload hx hb dX3_layFence_114 (lv_at hl 5 rfl) ?_
  refine lv_iload hx hb dX3_layFence_116 (lv_at hl 0 rfl) ?_
  refine lv_iconst (v := 0) hx hb dX3_layFence_118 (by decide) ?_
  refine kcDv C0 hP hD hS (c_X3_place l D cI a (vU v 4 (nI ((c + (PL q N d (nI j) lev cr 0 0).length) + 1))) (itR u_1 (c + (PL q N d (nI j) lev cr 0 0).length) 2 (nI n) (q 7 n)) (30 + n) ((c + (PL q N d (nI j) lev cr 0 0).length) + 1) (nI j) (uni lev / 2) 0 rfl (by omega) (by omega) (Or.inr ⟨j, _, _, by omega, rfl, hjy.2.1, hjy.2.2, by omega, by omega⟩)) (cwV 4 hts gX3_layFence_X3_place rfl rfl rfl (by decide +kernel) ⟨by dsimp only [rxL, rxF, rxA]; omega, by dsimp only [rxL, rxF, rxA]; omega⟩) 20 3 rfl rfl rfl hl.1 rfl (Nat.le_of_ble_eq_true rfl) dX3_layFence_119 ⟨Nat.zero_le _, Nat.zero_le _⟩ (fun H locs hP hD hS => ?_)
  have hP : va_P D vwCl (wX cI a (vU v 4 (nI ((c + (PL q N d (nI j) lev cr 0 0).length) + 1))) (plR (itR u_1 (c + (PL q N d (nI j) lev cr 0 0).length) 2 (nI n) (q 7 n)) (30 + n) (nI j) (uni lev / 2) 0)) H := hP
  have hD : va_D A (wX cI a (vU v 4 (nI ((c + (PL q N d (nI j) lev cr 0 0).length) + 1))) (plR (itR u_1 (c + (PL q N d (nI j) lev cr 0 0).length) 2 (nI n) (q 7 n)) (30 + n) (nI j) (uni lev / 2) 0)) := hD
  have hp5 := pb_pl (X := (uni lev / 2)) (Y := 0) hp4b hj hjy.1 (by rw [hjy.2.1]; rfl) (by rw [hjy.2.2]; rfl) (by simp only [List.length_cons, List.length_nil]; omega)
  refine lv_iload hx hb dX3_layFence_122 (lv_at hl 0 rfl) ?_
  refine lv_aload_n hx hb dX3_layFence_124 rfl (lv_at hl 6 rfl) ?_
  refine va_get (D := D) (ci := 3) (v := .ref (a 12)) (C := RX3) (T := TX3) (N := 6) hx hb hts hin_X3 hown hK hP 20 rfl rfl 1 (by decide) hf12 (fun _ h9 => h9) rfl dX3_layFence_125 ?_
  refine va_get (D := D) (ci := 1) (v := .ref (a 13)) (C := RX1) (T := TX1) (N := 5) hx hb hts hin_X1 hown hK hP 12 rfl rfl 0 (by decide) hf46 (fun _ h9 => h9) rfl dX3_layFence_128 ?_
  refine lv_iload hx hb dX3_layFence_131 (lv_at hl 5 rfl) ?_
  refine ra_ld (f := (u_1 13)) C0 hP 13 rfl j rfl (by omega) (by decide) dX3_layFence_133 ?_
  refine lv_eqi hjx.1.1 ?_
  refine lv_iadd hx hb dX3_layFence_134 ?_
  refine lv_istore (lv' := [(10, .int ((uni lev / 2) + (ML q N d (nI j) lev cr).1)), (9, .int (nI (30 + n))), (8, .int (feN (ML q N d) q n lev cr)), (7, .int (nI (c + (PL q N d (nI j) lev cr 0 0).length))), (6, .int (-1)), (5, .int (nI j)), (0, .ref (a 20)), (1, .int (nI n)), (2, .int lev), (3, .int cr), (4, .int (nI lv))]) hx hb dX3_layFence_135 hl (by decide) rfl (fun ls hl => ?_)
  have hp5b := hp5.eq (L' := ([] ++ (PL q N d (nI j) lev cr 0 0).map (sft (uni lev / 2) 0)) ++ (mkI 2 0 0 (u_1 19 (8 * (c + (PL q N d (nI j) lev cr 0 0).length) + 3)) (u_1 19 (8 * (c + (PL q N d (nI j) lev cr 0 0).length) + 4)) (q 7 n) (nI n) 0) :: []) (by simp)
  have ht2 := pb_t hp5b (i := (c + (PL q N d (nI j) lev cr 0 0).length)) (by simp only [List.length_append, List.length_cons, List.length_nil, List.length_map] <;> omega)
  refine lv_aload_n hx hb dX3_layFence_137 rfl (lv_at hl 6 rfl) ?_
  refine lv_iload hx hb dX3_layFence_138 (lv_at hl 1 rfl) ?_
  refine lv_iload hx hb dX3_layFence_140 (lv_at hl 3 rfl) ?_
  refine lv_iload_n hx hb dX3_layFence_142 rfl (lv_at hl 8 rfl) ?_
  refine lv_iload hx hb dX3_layFence_143 (lv_at hl 2 rfl) ?_
  refine kcD (ans := (uni lev * (2 + rmd (q 7 n) 3))) C0 hP hD hS (c_X3_setDelimiter_2 l D cI a (vU v 4 (nI ((c + (PL q N d (nI j) lev cr 0 0).length) + 1))) (plR (itR u_1 (c + (PL q N d (nI j) lev cr 0 0).length) 2 (nI n) (q 7 n)) (30 + n) (nI j) (uni lev / 2) 0) (30 + n) (c + (PL q N d (nI j) lev cr 0 0).length) ((c + (PL q N d (nI j) lev cr 0 0).length) + 1) lev (feN (ML q N d) q n lev cr) (q 7 n) rfl (by omega) (by omega) (by omega) ht2) (cwV 4 hts gX3_layFence_X3_setDelimiter rfl rfl rfl (by decide +kernel) ⟨by dsimp only [rxL, rxF, rxA]; omega, by dsimp only [rxL, rxF, rxA]; omega⟩) 20 3 rfl rfl rfl hl.1 rfl (Nat.le_of_ble_eq_true rfl) dX3_layFence_145 ⟨Nat.zero_le _, Nat.zero_le _⟩ (fun H locs hP hD hS => ?_)
  have hP : va_P D vwCl (wX cI a (vU v 4 (nI ((c + (PL q N d (nI j) lev cr 0 0).length) + 1))) (cvR (msR (mkR (plR (itR u_1 (c + (PL q N d (nI j) lev cr 0 0).length) 2 (nI n) (q 7 n)) (30 + n) (nI j) (uni lev / 2) 0) (c + (PL q N d (nI j) lev cr 0 0).length) (feN (ML q N d) q n lev cr) lev) (c + (PL q N d (nI j) lev cr 0 0).length) (stp (feN (ML q N d) q n lev cr) lev) (uni lev * (2 + rmd (q 7 n) 3))) (30 + n) 0 (2 * uni lev + tal (stp (feN (ML q N d) q n lev cr) lev) lev / 2) (tal (stp (feN (ML q N d) q n lev cr) lev) lev - (2 * uni lev + tal (stp (feN (ML q N d) q n lev cr) lev) lev / 2)))) H := hP
  have hD : va_D A (wX cI a (vU v 4 (nI ((c + (PL q N d (nI j) lev cr 0 0).length) + 1))) (cvR (msR (mkR (plR (itR u_1 (c + (PL q N d (nI j) lev cr 0 0).length) 2 (nI n) (q 7 n)) (30 + n) (nI j) (uni lev / 2) 0) (c + (PL q N d (nI j) lev cr 0 0).length) (feN (ML q N d) q n lev cr) lev) (c + (PL q N d (nI j) lev cr 0 0).length) (stp (feN (ML q N d) q n lev cr) lev) (uni lev * (2 + rmd (q 7 n) 3))) (30 + n) 0 (2 * uni lev + tal (stp (feN (ML q N d) q n lev cr) lev) lev / 2) (tal (stp (feN (ML q N d) q n lev cr) lev) lev - (2 * uni lev + tal (stp (feN (ML q N d) q n lev cr) lev) lev / 2)))) := hD
  refine lv_istore (lv' := [(11, .int (uni lev * (2 + rmd (q 7 n) 3))), (10, .int ((uni lev / 2) + (ML q N d (nI j) lev cr).1)), (9, .int (nI (30 + n))), (8, .int (feN (ML q N d) q n lev cr)), (7, .int (nI (c + (PL q N d (nI j) lev cr 0 0).length))), (6, .int (-1)), (5, .int (nI j)), (0, .ref (a 20)), (1, .int (nI n)), (2, .int lev), (3, .int cr), (4, .int (nI lv))]) hx hb dX3_layFence_148 hl (by decide) rfl (fun ls hl => ?_)
  have hp6 := pb_sd (must := (feN (ML q N d) q n lev cr)) (lev := lev) (w := (uni lev * (2 + rmd (q 7 n) 3))) (o := (2 * uni lev + tal (stp (feN (ML q N d) q n lev cr) lev) lev / 2)) (e := (tal (stp (feN (ML q N d) q n lev cr) lev) lev - (2 * uni lev + tal (stp (feN (ML q N d) q n lev cr) lev) lev / 2))) hp5b (i := (c + (PL q N d (nI j) lev cr 0 0).length)) (by simp only [List.length_append, List.length_cons, List.length_nil, List.length_map] <;> omega)
  have hp6b := hp6.eq (L' := ([] ++ (PL q N d (nI j) lev cr 0 0).map (sft (uni lev / 2) 0)) ++ ([(mkI 2 0 0 (stp (feN (ML q N d) q n lev cr) lev) (uni lev * (2 + rmd (q 7 n) 3)) (q 7 n) (nI n) (if 9 * (feN (ML q N d) q n lev cr) ≤ 10 * (uni lev * (6 + 4 * stp (feN (ML q N d) q n lev cr) lev)) then 0 else 1))] ++ [])) (by simp)
  refine lv_iload hx hb dX3_layFence_150 (lv_at hl 4 rfl) ?_
  refine lv_iconst (v := (-1)) hx hb dX3_layFence_152 (by decide) ?_
  refine lv_icmp_eq (tgt := 172) hx hb dX3_layFence_153 (by decide) (fun c_153 => absurd c_153 (nI_ne_m1 (by omega))) (fun c_153 => ?_)
  refine lv_aload_n hx hb dX3_layFence_156 rfl (lv_at hl 7 rfl) ?_
  refine va_get (D := D) (ci := 3) (v := .ref (a 18)) (C := RX3) (T := TX3) (N := 6) hx hb hts hin_X3 hown hK hP 20 rfl rfl 2 (by decide) hf21 (fun _ h9 => h9) rfl dX3_layFence_157 ?_
  refine lv_iload hx hb dX3_layFence_160 (lv_at hl 4 rfl) ?_
  refine lv_iload hx hb dX3_layFence_162 (lv_at hl 4 rfl) ?_
  refine lv_iconst (v := 1) hx hb dX3_layFence_164 (by decide) ?_
  refine lv_iadd hx hb dX3_layFence_165 ?_
  refine lv_eqi (nI_1 _) ?_
  refine lv_iload hx hb dX3_layFence_166 (lv_at hl 1 rfl) ?_
  refine lv_iconst (v := 0) hx hb dX3_layFence_168 (by decide) ?_
  refine kcDv C0 hP hD hS (c_X2_shift l D cI a (vU v 4 (nI ((c + (PL q N d (nI j) lev cr 0 0).length) + 1))) (cvR (msR (mkR (plR (itR u_1 (c + (PL q N d (nI j) lev cr 0 0).length) 2 (nI n) (q 7 n)) (30 + n) (nI j) (uni lev / 2) 0) (c + (PL q N d (nI j) lev cr 0 0).length) (feN (ML q N d) q n lev cr) lev) (c + (PL q N d (nI j) lev cr 0 0).length) (stp (feN (ML q N d) q n lev cr) lev) (uni lev * (2 + rmd (q 7 n) 3))) (30 + n) 0 (2 * uni lev + tal (stp (feN (ML q N d) q n lev cr) lev) lev / 2) (tal (stp (feN (ML q N d) q n lev cr) lev) lev - (2 * uni lev + tal (stp (feN (ML q N d) q n lev cr) lev) lev / 2))) (c + (PL q N d (nI j) lev cr 0 0).length) ((c + (PL q N d (nI j) lev cr 0 0).length) + 1) ((c + (PL q N d (nI j) lev cr 0 0).length) + 1) ((uni lev / 2) + (ML q N d (nI j) lev cr).1) 0 rfl (by omega) (by omega) (by omega)) (cwV 4 hts gX3_layFence_X2_shift rfl rfl rfl (by decide +kernel) ⟨by dsimp only [rxL, rxF, rxA]; omega, by dsimp only [rxL, rxF, rxA]; omega⟩) 18 2 rfl rfl rfl hl.1 rfl (Nat.le_of_ble_eq_true rfl) dX3_layFence_169 ⟨Nat.zero_le _, Nat.zero_le _⟩ (fun H locs hP hD hS => ?_)
  have hP : va_P D vwCl (wX cI a (vU v 4 (nI ((c + (PL q N d (nI j) lev cr 0 0).length) + 1))) (shR (cvR (msR (mkR (plR (itR u_1 (c + (PL q N d (nI j) lev cr 0 0).length) 2 (nI n) (q 7 n)) (30 + n) (nI j) (uni lev / 2) 0) (c + (PL q N d (nI j) lev cr 0 0).length) (feN (ML q N d) q n lev cr) lev) (c + (PL q N d (nI j) lev cr 0 0).length) (stp (feN (ML q N d) q n lev cr) lev) (uni lev * (2 + rmd (q 7 n) 3))) (30 + n) 0 (2 * uni lev + tal (stp (feN (ML q N d) q n lev cr) lev) lev / 2) (tal (stp (feN (ML q N d) q n lev cr) lev) lev - (2 * uni lev + tal (stp (feN (ML q N d) q n lev cr) lev) lev / 2))) ((uni lev / 2) + (ML q N d (nI j) lev cr).1) 0 (c + (PL q N d (nI j) lev cr 0 0).length) ((c + (PL q N d (nI j) lev cr 0 0).length) + 1))) H := hP
  have hD : va_D A (wX cI a (vU v 4 (nI ((c + (PL q N d (nI j) lev cr 0 0).length) + 1))) (shR (cvR (msR (mkR (plR (itR u_1 (c + (PL q N d (nI j) lev cr 0 0).length) 2 (nI n) (q 7 n)) (30 + n) (nI j) (uni lev / 2) 0) (c + (PL q N d (nI j) lev cr 0 0).length) (feN (ML q N d) q n lev cr) lev) (c + (PL q N d (nI j) lev cr 0 0).length) (stp (feN (ML q N d) q n lev cr) lev) (uni lev * (2 + rmd (q 7 n) 3))) (30 + n) 0 (2 * uni lev + tal (stp (feN (ML q N d) q n lev cr) lev) lev / 2) (tal (stp (feN (ML q N d) q n lev cr) lev) lev - (2 * uni lev + tal (stp (feN (ML q N d) q n lev cr) lev) lev / 2))) ((uni lev / 2) + (ML q N d (nI j) lev cr).1) 0 (c + (PL q N d (nI j) lev cr 0 0).length) ((c + (PL q N d (nI j) lev cr 0 0).length) + 1))) := hD
  have hp7 := pb_sh (X := (uni lev / 2) + (ML q N d (nI j) lev cr).1) (Y := 0) hp6b (i := (c + (PL q N d (nI j) lev cr 0 0).length)) (j := (c + (PL q N d (nI j) lev cr 0 0).length) + 1) (by simp only [List.length_append, List.length_cons, List.length_nil, List.length_map] <;> omega) (by simp only [List.length_append, List.length_cons, List.length_nil, List.length_map] <;> omega)
  refine lv_aload_n hx hb dX3_layFence_172 rfl (lv_at hl 7 rfl) ?_
  refine va_get (D := D) (ci := 3) (v := .ref (a 12)) (C := RX3) (T := TX3) (N := 6) hx hb hts hin_X3 hown hK hP 20 rfl rfl 1 (by decide) hf12 (fun _ h9 => h9) rfl dX3_layFence_173 ?_
  refine va_get (D := D) (ci := 1) (v := .ref (a 13)) (C := RX1) (T := TX1) (N := 5) hx hb hts hin_X1 hown hK hP 12 rfl rfl 0 (by decide) hf46 (fun _ h9 => h9) rfl dX3_layFence_176 ?_
  refine lv_iload hx hb dX3_layFence_179 (lv_at hl 2 rfl) ?_
  refine lv_iload hx hb dX3_layFence_181 (lv_at hl 1 rfl) ?_
  refine lv_iload hx hb dX3_layFence_183 (lv_at hl 0 rfl) ?_
  refine lv_iadd hx hb dX3_layFence_185 ?_
  refine ra_st (f := (u_1 13)) C0 hP hD hS 13 rfl (30 + n) rfl (by omega) (by decide) dX3_layFence_186 (fun H locs hP hD hS => ?_)
  have hset : ∀ (R_ : Nat → Nat → Int32) (y4_ : Int32) (g_ : Nat → Int32), (wX cI a (vU v 4 y4_) R_).set 13 (a 13, .inl (cI, 150, .inl g_)) = (wX cI a (vU v 4 y4_) (rU R_ 13 g_)) := fun _ _ _ => rfl
  rw [hset] at hP hD
  have hw4 : ((c + (PL q N d (nI j) lev cr 0 0).length) + 1) = c + (pFe (ML q N d) (PL q N d) q n lev cr 0 0).length := by rw [pFe_len ej, if_pos hl1, if_neg hr1] <;> omega
  have hw5 : (wX cI a (vU v 4 (nI ((c + (PL q N d (nI j) lev cr 0 0).length) + 1))) (rU (shR (cvR (msR (mkR (plR (itR u_1 (c + (PL q N d (nI j) lev cr 0 0).length) 2 (nI n) (q 7 n)) (30 + n) (nI j) (uni lev / 2) 0) (c + (PL q N d (nI j) lev cr 0 0).length) (feN (ML q N d) q n lev cr) lev) (c + (PL q N d (nI j) lev cr 0 0).length) (stp (feN (ML q N d) q n lev cr) lev) (uni lev * (2 + rmd (q 7 n) 3))) (30 + n) 0 (2 * uni lev + tal (stp (feN (ML q N d) q n lev cr) lev) lev / 2) (tal (stp (feN (ML q N d) q n lev cr) lev) lev - (2 * uni lev + tal (stp (feN (ML q N d) q n lev cr) lev) lev / 2))) ((uni lev / 2) + (ML q N d (nI j) lev cr).1) 0 (c + (PL q N d (nI j) lev cr 0 0).length) ((c + (PL q N d (nI j) lev cr 0 0).length) + 1)) 13 (upd (u_1 13) (30 + n) (((uni lev / 2) + (ML q N d (nI j) lev cr).1) + (uni lev * (2 + rmd (q 7 n) 3)))))) = (wX cI a (vU v 4 (nI (c + (pFe (ML q N d) (PL q N d) q n lev cr 0 0).length))) (rU (shR (cvR (msR (mkR (plR (itR u_1 (c + (PL q N d (nI j) lev cr 0 0).length) 2 (nI n) (q 7 n)) (30 + n) (nI j) (uni lev / 2) 0) (c + (PL q N d (nI j) lev cr 0 0).length) (feN (ML q N d) q n lev cr) lev) (c + (PL q N d (nI j) lev cr 0 0).length) (stp (feN (ML q N d) q n lev cr) lev) (uni lev * (2 + rmd (q 7 n) 3))) (30 + n) 0 (2 * uni lev + tal (stp (feN (ML q N d) q n lev cr) lev) lev / 2) (tal (stp (feN (ML q N d) q n lev cr) lev) lev - (2 * uni lev + tal (stp (feN (ML q N d) q n lev cr) lev) lev / 2))) ((uni lev / 2) + (ML q N d (nI j) lev cr).1) 0 (c + (PL q N d (nI j) lev cr 0 0).length) ((c + (PL q N d (nI j) lev cr 0 0).length) + 1)) 13 (upd (u_1 13) (30 + n) (((uni lev / 2) + (ML q N d (nI j) lev cr).1) + (uni lev * (2 + rmd (q 7 n) 3)))))) := by rw [hw4]
  rw [hw5] at hP hD
  have hp8 := pb_at (W := (uni lev / 2) + (ML q N d (nI j) lev cr).1 + (uni lev * (2 + rmd (q 7 n) 3))) hp7
  have h9 : ATP q r (r 19) n c (mFe (ML q N d) q n lev cr) (pFe (ML q N d) (PL q N d) q n lev cr 0 0) (rU (shR (cvR (msR (mkR (plR (itR u_1 (c + (PL q N d (nI j) lev cr 0 0).length) 2 (nI n) (q 7 n)) (30 + n) (nI j) (uni lev / 2) 0) (c + (PL q N d (nI j) lev cr 0 0).length) (feN (ML q N d) q n lev cr) lev) (c + (PL q N d (nI j) lev cr 0 0).length) (stp (feN (ML q N d) q n lev cr) lev) (uni lev * (2 + rmd (q 7 n) 3))) (30 + n) 0 (2 * uni lev + tal (stp (feN (ML q N d) q n lev cr) lev) lev / 2) (tal (stp (feN (ML q N d) q n lev cr) lev) lev - (2 * uni lev + tal (stp (feN (ML q N d) q n lev cr) lev) lev / 2))) ((uni lev / 2) + (ML q N d (nI j) lev cr).1) 0 (c + (PL q N d (nI j) lev cr 0 0).length) ((c + (PL q N d (nI j) lev cr 0 0).length) + 1)) 13 (upd (u_1 13) (30 + n) (((uni lev / 2) + (ML q N d (nI j) lev cr).1) + (uni lev * (2 + rmd (q 7 n) 3))))) := by
    have e1 : pFe (ML q N d) (PL q N d) q n lev cr 0 0 = _ := pFe_l ej
    rw [if_pos hl1, if_neg hr1, el0, dlw_0, dlw_n hr0] at e1
    have e2 : mFe (ML q N d) q n lev cr = ((uni lev / 2) + (ML q N d (nI j) lev cr).1 + (uni lev * (2 + rmd (q 7 n) 3)), mx (mx (ML q N d (nI j) lev cr).2.1 (2 * uni lev + tal (stp (feN (ML q N d) q n lev cr) lev) lev / 2)) 0, mx (mx (ML q N d (nI j) lev cr).2.2 (tal (stp (feN (ML q N d) q n lev cr) lev) lev - (2 * uni lev + tal (stp (feN (ML q N d) q n lev cr) lev) lev / 2))) 0) := by unfold mFe feO feT; rw [ej, el0, dlw_0, dlw_n hr0, w_3]
    rw [mx_3c, mx_4c] at hp8
    rw [e2, e1]
    simp only [List.map_cons, List.map_nil, sft_mk, Int32.zero_add, List.append_nil, List.nil_append, List.cons_append, List.append_assoc] at hp8 ⊢
    exact hp8
  exact k_vret C0 (rU (shR (cvR (msR (mkR (plR (itR u_1 (c + (PL q N d (nI j) lev cr 0 0).length) 2 (nI n) (q 7 n)) (30 + n) (nI j) (uni lev / 2) 0) (c + (PL q N d (nI j) lev cr 0 0).length) (feN (ML q N d) q n lev cr) lev) (c + (PL q N d (nI j) lev cr 0 0).length) (stp (feN (ML q N d) q n lev cr) lev) (uni lev * (2 + rmd (q 7 n) 3))) (30 + n) 0 (2 * uni lev + tal (stp (feN (ML q N d) q n lev cr) lev) lev / 2) (tal (stp (feN (ML q N d) q n lev cr) lev) lev - (2 * uni lev + tal (stp (feN (ML q N d) q n lev cr) lev) lev / 2))) ((uni lev / 2) + (ML q N d (nI j) lev cr).1) 0 (c + (PL q N d (nI j) lev cr 0 0).length) ((c + (PL q N d (nI j) lev cr 0 0).length) + 1)) 13 (upd (u_1 13) (30 + n) (((uni lev / 2) + (ML q N d (nI j) lev cr).1) + (uni lev * (2 + rmd (q 7 n) 3))))) hP hD hS h9 dX3_layFence_187
