set_option maxHeartbeats 1500000 in
theorem pf_X5_measureFraction_0 (a : Nat → Nat) (v : Nat → Int32) (r : Nat → Nat → Int32) (n N d : Nat) (rk : Int32 → Nat) (lev cr : Int32) (it sz : Nat → Int32) (w0 h0 d0 u0 e0 : Int32) (hN : v 4 = nI N) (hN1 : N ≤ 120) (hn : n < N) (hd : rk (r 2 n) ≤ d) (hr5 : rk (r 5 n) < rk (r 2 n)) (hr6 : rk (r 6 n) < rk (r 2 n)) (x_1 : Int32) (ex_1 : x_1 = (if 0 ≤ ((r 7) n) then ((r 7) n) else ((uni lev) / 2))) (x_2 : Int32) (ex_2 : x_2 = (if lev = 0 then (3 * (uni lev)) else (uni lev))) (u_3 e_3 : Int32) (z_3 : Nat → Int32) (x_4 : Int32) (ex_4 : x_4 = (ML r N d ((r 5) n) (ptl lev) cr).1) (x_5 : Int32) (ex_5 : x_5 = ((((2 * (uni lev)) + (x_1 / 2)) + x_2) + (ML r N d ((r 5) n) (ptl lev) cr).2.2)) (x_6 : Int32) (ex_6 : x_6 = (mx 0 (x_5 + (ML r N d ((r 5) n) (ptl lev) cr).2.1))) (x_7 : Int32) (ex_7 : x_7 = (mx 0 ((ML r N d ((r 5) n) (ptl lev) cr).2.2 - x_5))) (u_8 e_8 : Int32) (z_8 : Nat → Int32) (x_9 : Int32) (ex_9 : x_9 = (((((ML r N d ((r 6) n) (ptl lev) 1).2.1 + x_2) + x_1) - (x_1 / 2)) - (2 * (uni lev)))) (x_10 : Int32) (ex_10 : x_10 = (mx x_6 ((ML r N d ((r 6) n) (ptl lev) 1).2.1 - x_9))) (x_11 : Int32) (ex_11 : x_11 = (mx x_7 ((ML r N d ((r 6) n) (ptl lev) 1).2.2 + x_9))) (x_12 : Int32) (ex_12 : x_12 = ((2 * (uni lev)) - (x_1 - (x_1 / 2)))) (x_13 : Int32) (ex_13 : x_13 = (if x_1 ≤ 0 then x_11 else (mx x_11 (-x_12)))) (x_14 : Int32) (ex_14 : x_14 = (if x_1 ≤ 0 then x_10 else (mx x_10 (x_12 + x_1)))) (x_15 : Int32) (ex_15 : x_15 = ((mx x_4 ((ML r N d ((r 6) n) (ptl lev) 1).1)) + (uni lev))) : x_15 = (mFr (ML r N d) r n lev cr).1 := by
  subst_vars; rfl
set_option maxHeartbeats 1500000 in
theorem pf_X5_measureFraction_1 (a : Nat → Nat) (v : Nat → Int32) (r : Nat → Nat → Int32) (n N d : Nat) (rk : Int32 → Nat) (lev cr : Int32) (it sz : Nat → Int32) (w0 h0 d0 u0 e0 : Int32) (hN : v 4 = nI N) (hN1 : N ≤ 120) (hn : n < N) (hd : rk (r 2 n) ≤ d) (hr5 : rk (r 5 n) < rk (r 2 n)) (hr6 : rk (r 6 n) < rk (r 2 n)) (x_1 : Int32) (ex_1 : x_1 = (if 0 ≤ ((r 7) n) then ((r 7) n) else ((uni lev) / 2))) (x_2 : Int32) (ex_2 : x_2 = (if lev = 0 then (3 * (uni lev)) else (uni lev))) (u_3 e_3 : Int32) (z_3 : Nat → Int32) (x_4 : Int32) (ex_4 : x_4 = (ML r N d ((r 5) n) (ptl lev) cr).1) (x_5 : Int32) (ex_5 : x_5 = ((((2 * (uni lev)) + (x_1 / 2)) + x_2) + (ML r N d ((r 5) n) (ptl lev) cr).2.2)) (x_6 : Int32) (ex_6 : x_6 = (mx 0 (x_5 + (ML r N d ((r 5) n) (ptl lev) cr).2.1))) (x_7 : Int32) (ex_7 : x_7 = (mx 0 ((ML r N d ((r 5) n) (ptl lev) cr).2.2 - x_5))) (u_8 e_8 : Int32) (z_8 : Nat → Int32) (x_9 : Int32) (ex_9 : x_9 = (((((ML r N d ((r 6) n) (ptl lev) 1).2.1 + x_2) + x_1) - (x_1 / 2)) - (2 * (uni lev)))) (x_10 : Int32) (ex_10 : x_10 = (mx x_6 ((ML r N d ((r 6) n) (ptl lev) 1).2.1 - x_9))) (x_11 : Int32) (ex_11 : x_11 = (mx x_7 ((ML r N d ((r 6) n) (ptl lev) 1).2.2 + x_9))) (x_12 : Int32) (ex_12 : x_12 = ((2 * (uni lev)) - (x_1 - (x_1 / 2)))) (x_13 : Int32) (ex_13 : x_13 = (if x_1 ≤ 0 then x_11 else (mx x_11 (-x_12)))) (x_14 : Int32) (ex_14 : x_14 = (if x_1 ≤ 0 then x_10 else (mx x_10 (x_12 + x_1)))) (x_15 : Int32) (ex_15 : x_15 = ((mx x_4 ((ML r N d ((r 6) n) (ptl lev) 1).1)) + (uni lev))) : x_14 = (mFr (ML r N d) r n lev cr).2.1 := by
  subst_vars; rfl
set_option maxHeartbeats 1500000 in
theorem pf_X5_measureFraction_2 (a : Nat → Nat) (v : Nat → Int32) (r : Nat → Nat → Int32) (n N d : Nat) (rk : Int32 → Nat) (lev cr : Int32) (it sz : Nat → Int32) (w0 h0 d0 u0 e0 : Int32) (hN : v 4 = nI N) (hN1 : N ≤ 120) (hn : n < N) (hd : rk (r 2 n) ≤ d) (hr5 : rk (r 5 n) < rk (r 2 n)) (hr6 : rk (r 6 n) < rk (r 2 n)) (x_1 : Int32) (ex_1 : x_1 = (if 0 ≤ ((r 7) n) then ((r 7) n) else ((uni lev) / 2))) (x_2 : Int32) (ex_2 : x_2 = (if lev = 0 then (3 * (uni lev)) else (uni lev))) (u_3 e_3 : Int32) (z_3 : Nat → Int32) (x_4 : Int32) (ex_4 : x_4 = (ML r N d ((r 5) n) (ptl lev) cr).1) (x_5 : Int32) (ex_5 : x_5 = ((((2 * (uni lev)) + (x_1 / 2)) + x_2) + (ML r N d ((r 5) n) (ptl lev) cr).2.2)) (x_6 : Int32) (ex_6 : x_6 = (mx 0 (x_5 + (ML r N d ((r 5) n) (ptl lev) cr).2.1))) (x_7 : Int32) (ex_7 : x_7 = (mx 0 ((ML r N d ((r 5) n) (ptl lev) cr).2.2 - x_5))) (u_8 e_8 : Int32) (z_8 : Nat → Int32) (x_9 : Int32) (ex_9 : x_9 = (((((ML r N d ((r 6) n) (ptl lev) 1).2.1 + x_2) + x_1) - (x_1 / 2)) - (2 * (uni lev)))) (x_10 : Int32) (ex_10 : x_10 = (mx x_6 ((ML r N d ((r 6) n) (ptl lev) 1).2.1 - x_9))) (x_11 : Int32) (ex_11 : x_11 = (mx x_7 ((ML r N d ((r 6) n) (ptl lev) 1).2.2 + x_9))) (x_12 : Int32) (ex_12 : x_12 = ((2 * (uni lev)) - (x_1 - (x_1 / 2)))) (x_13 : Int32) (ex_13 : x_13 = (if x_1 ≤ 0 then x_11 else (mx x_11 (-x_12)))) (x_14 : Int32) (ex_14 : x_14 = (if x_1 ≤ 0 then x_10 else (mx x_10 (x_12 + x_1)))) (x_15 : Int32) (ex_15 : x_15 = ((mx x_4 ((ML r N d ((r 6) n) (ptl lev) 1).1)) + (uni lev))) : x_13 = (mFr (ML r N d) r n lev cr).2.2 := by
  subst_vars; rfl
set_option maxHeartbeats 1500000 in
theorem pf_X5_measureFraction_3 (a : Nat → Nat) (v : Nat → Int32) (r : Nat → Nat → Int32) (n N d : Nat) (rk : Int32 → Nat) (lev cr : Int32) (it sz : Nat → Int32) (w0 h0 d0 u0 e0 : Int32) (hN : v 4 = nI N) (hN1 : N ≤ 120) (hn : n < N) (hd : rk (r 2 n) ≤ d) (hr5 : rk (r 5 n) < rk (r 2 n)) (hr6 : rk (r 6 n) < rk (r 2 n)) (x_1 : Int32) (ex_1 : x_1 = (if 0 ≤ ((r 7) n) then ((r 7) n) else ((uni lev) / 2))) (x_2 : Int32) (ex_2 : x_2 = (if lev = 0 then (3 * (uni lev)) else (uni lev))) (u_3 e_3 : Int32) (z_3 : Nat → Int32) (x_4 : Int32) (ex_4 : x_4 = (ML r N d ((r 5) n) (ptl lev) cr).1) (x_5 : Int32) (ex_5 : x_5 = ((((2 * (uni lev)) + (x_1 / 2)) + x_2) + (ML r N d ((r 5) n) (ptl lev) cr).2.2)) (x_6 : Int32) (ex_6 : x_6 = (mx 0 (x_5 + (ML r N d ((r 5) n) (ptl lev) cr).2.1))) (x_7 : Int32) (ex_7 : x_7 = (mx 0 ((ML r N d ((r 5) n) (ptl lev) cr).2.2 - x_5))) (u_8 e_8 : Int32) (z_8 : Nat → Int32) (x_9 : Int32) (ex_9 : x_9 = (((((ML r N d ((r 6) n) (ptl lev) 1).2.1 + x_2) + x_1) - (x_1 / 2)) - (2 * (uni lev)))) (x_10 : Int32) (ex_10 : x_10 = (mx x_6 ((ML r N d ((r 6) n) (ptl lev) 1).2.1 - x_9))) (x_11 : Int32) (ex_11 : x_11 = (mx x_7 ((ML r N d ((r 6) n) (ptl lev) 1).2.2 + x_9))) (x_12 : Int32) (ex_12 : x_12 = ((2 * (uni lev)) - (x_1 - (x_1 / 2)))) (x_13 : Int32) (ex_13 : x_13 = (if x_1 ≤ 0 then x_11 else (mx x_11 (-x_12)))) (x_14 : Int32) (ex_14 : x_14 = (if x_1 ≤ 0 then x_10 else (mx x_10 (x_12 + x_1)))) (x_15 : Int32) (ex_15 : x_15 = ((mx x_4 ((ML r N d ((r 6) n) (ptl lev) 1).1)) + (uni lev))) : x_5 = (frU (ML r N d) r n lev cr) := by
  subst_vars; rfl
set_option maxHeartbeats 1500000 in
theorem pf_X5_measureFraction_4 (a : Nat → Nat) (v : Nat → Int32) (r : Nat → Nat → Int32) (n N d : Nat) (rk : Int32 → Nat) (lev cr : Int32) (it sz : Nat → Int32) (w0 h0 d0 u0 e0 : Int32) (hN : v 4 = nI N) (hN1 : N ≤ 120) (hn : n < N) (hd : rk (r 2 n) ≤ d) (hr5 : rk (r 5 n) < rk (r 2 n)) (hr6 : rk (r 6 n) < rk (r 2 n)) (x_1 : Int32) (ex_1 : x_1 = (if 0 ≤ ((r 7) n) then ((r 7) n) else ((uni lev) / 2))) (x_2 : Int32) (ex_2 : x_2 = (if lev = 0 then (3 * (uni lev)) else (uni lev))) (u_3 e_3 : Int32) (z_3 : Nat → Int32) (x_4 : Int32) (ex_4 : x_4 = (ML r N d ((r 5) n) (ptl lev) cr).1) (x_5 : Int32) (ex_5 : x_5 = ((((2 * (uni lev)) + (x_1 / 2)) + x_2) + (ML r N d ((r 5) n) (ptl lev) cr).2.2)) (x_6 : Int32) (ex_6 : x_6 = (mx 0 (x_5 + (ML r N d ((r 5) n) (ptl lev) cr).2.1))) (x_7 : Int32) (ex_7 : x_7 = (mx 0 ((ML r N d ((r 5) n) (ptl lev) cr).2.2 - x_5))) (u_8 e_8 : Int32) (z_8 : Nat → Int32) (x_9 : Int32) (ex_9 : x_9 = (((((ML r N d ((r 6) n) (ptl lev) 1).2.1 + x_2) + x_1) - (x_1 / 2)) - (2 * (uni lev)))) (x_10 : Int32) (ex_10 : x_10 = (mx x_6 ((ML r N d ((r 6) n) (ptl lev) 1).2.1 - x_9))) (x_11 : Int32) (ex_11 : x_11 = (mx x_7 ((ML r N d ((r 6) n) (ptl lev) 1).2.2 + x_9))) (x_12 : Int32) (ex_12 : x_12 = ((2 * (uni lev)) - (x_1 - (x_1 / 2)))) (x_13 : Int32) (ex_13 : x_13 = (if x_1 ≤ 0 then x_11 else (mx x_11 (-x_12)))) (x_14 : Int32) (ex_14 : x_14 = (if x_1 ≤ 0 then x_10 else (mx x_10 (x_12 + x_1)))) (x_15 : Int32) (ex_15 : x_15 = ((mx x_4 ((ML r N d ((r 6) n) (ptl lev) 1).1)) + (uni lev))) : x_9 = (frD (ML r N d) r n lev) := by
  subst_vars; rfl
set_option maxHeartbeats 1500000 in
set_option maxRecDepth 100000 in
theorem c_X5_measureFraction (l : Launch) (D : va_G) (cI : ClassId) (a : Nat → Nat) (v : Nat → Int32) (r : Nat → Nat → Int32) (n N d : Nat) (rk : Int32 → Nat) (lev cr : Int32) (it sz : Nat → Int32) (w0 h0 d0 u0 e0 : Int32) (hM : HML l D cI a v r N rk d) (hN : v 4 = nI N) (hN1 : N ≤ 120) (hn : n < N) (hd : rk (r 2 n) ≤ d) (hr5 : rk (r 5 n) < rk (r 2 n)) (hr6 : rk (r 6 n) < rk (r 2 n)) : KV l D cI yX5_measureFraction wsX5_measureFraction (rmF d) [.ref (a 0), .int (nI n), .int lev, .int cr] (wM cI a (vU (vU (vU (vU (vU v 19 w0) 20 h0) 21 d0) 22 u0) 23 e0) (rU (rU r 11 it) 12 sz)) (fun z : Nat → Int32 => wM cI a (v5 v (mFr (ML r N d) r n lev cr).1 (mFr (ML r N d) r n lev cr).2.1 (mFr (ML r N d) r n lev cr).2.2 (frU (ML r N d) r n lev cr) (frD (ML r N d) r n lev)) (r2 r it z)) (fun z => ∀ i, rk (r 2 n) < rk (r 2 i) → ∀ k, k < 16 → z (16 * i + k) = sz (16 * i + k)) := by
  refine KV.of (cc := cX5_measureFraction) (nL := 13) (ret := none) (by decide) rfl (Nat.le_of_ble_eq_true rfl) ?_
  intro pg9 en9 s m args below meth cd9 A ls C0 hP hD hS hl
  have hx := C0.1.1
  have hb := C0.1.2.1
  have hml := C0.1.2.2.1
  have hown : s.vm.findClass RX5 = some m.cls := C0.1.2.2.2.1
  have hts : ∀ w ∈ wsX5_measureFraction, w.before args s = true := C0.1.2.2.2.2
  have hK := C0.2.2.2.1
  have hin_X5 : ∀ w ∈ wsX50, w ∈ wsX5_measureFraction := fun w h => List.mem_cons_of_mem _ (List.mem_append_right _ h)
  have hf32 : (Cond.fieldLink RX5 32 "FormulaListsModel" "three" "[I").before args s = true := hts _ (by decide +kernel)
  have hf26 : (Cond.fieldLink RX5 26 "FormulaListsModel" "one" "[I").before args s = true := hts _ (by decide +kernel)
  have hf96 : (Cond.fieldLink RX5 96 "FormulaListsModel" "width" "I").before args s = true := hts _ (by decide +kernel)
  have hf102 : (Cond.fieldLink RX5 102 "FormulaListsModel" "depth" "I").before args s = true := hts _ (by decide +kernel)
  have hf99 : (Cond.fieldLink RX5 99 "FormulaListsModel" "height" "I").before args s = true := hts _ (by decide +kernel)
  have hf29 : (Cond.fieldLink RX5 29 "FormulaListsModel" "two" "[I").before args s = true := hts _ (by decide +kernel)
  have hf125 : (Cond.fieldLink RX5 125 "FormulaListsModel" "upAt" "I").before args s = true := hts _ (by decide +kernel)
  have hf128 : (Cond.fieldLink RX5 128 "FormulaListsModel" "downAt" "I").before args s = true := hts _ (by decide +kernel)
  have hl : lv_has ls 13 [(0, .ref (a 0)), (1, .int (nI n)), (2, .int lev), (3, .int cr)] := hl
  have hP : va_P D vwCl (wM cI a (vU (vU (vU (vU (vU v 19 w0) 20 h0) 21 d0) 22 u0) 23 e0) (rU (rU r 11 it) 12 sz)) s.heap := hP
  refine lv_iload_n hx hb dX5_measureFraction_0 rfl (lv_at hl 2 rfl) ?_
  refine kcS (ans := (uni lev)) C0 hP hS (c_X5_unit l D cI lev ) (va_cwS 1 hts gX5_measureFraction_X5_unit rfl rfl rfl (by decide +kernel) ⟨by dsimp only [rmL, rmF, rmN, rmA]; omega, by dsimp only [rmL, rmF, rmN, rmA]; omega⟩) rfl hl.1 rfl (Nat.le_of_ble_eq_true rfl) dX5_measureFraction_1 ⟨Nat.zero_le _, Nat.zero_le _⟩ (fun H locs hP hS => ?_)
  refine lv_istore (lv' := [(4, .int (uni lev)), (0, .ref (a 0)), (1, .int (nI n)), (2, .int lev), (3, .int cr)]) hx hb dX5_measureFraction_4 hl (by decide) rfl (fun ls hl => ?_)
  refine lv_aload_n hx hb dX5_measureFraction_6 rfl (lv_at hl 1 rfl) ?_
  refine va_get (D := D) (ci := 5) (v := .ref (a 7)) (C := RX5) (T := TX5) (N := 25) hx hb hts hin_X5 hown hK hP 0 rfl rfl 10 (by decide) hf32 (fun _ h9 => h9) rfl dX5_measureFraction_7 ?_
  refine lv_iload_n hx hb dX5_measureFraction_10 rfl (lv_at hl 2 rfl) ?_
  refine ra_ld (f := (r 7)) C0 hP 7 rfl n rfl (by omega) (by decide) dX5_measureFraction_11 ?_
  obtain ⟨x_1, ex_1⟩ : ∃ zz_ : Int32, zz_ = (if 0 ≤ ((r 7) n) then ((r 7) n) else ((uni lev) / 2)) := ⟨_, rfl⟩
  refine jW (D := D) hD hl 29 (wM cI a (vU (vU (vU (vU (vU v 19 w0) 20 h0) 21 d0) 22 u0) 23 e0) (rU (rU r 11 it) 12 sz)) [(4, .int (uni lev)), (0, .ref (a 0)), (1, .int (nI n)), (2, .int lev), (3, .int cr)] [.int x_1] (fun hJ => ?_) (fun H locs ls hP hD hS hl => ?_)
  · skip
    refine lv_if_ge (tgt := 23) hx hb dX5_measureFraction_12 (by decide) (fun c_12 => ?_) (fun c_12 => ?_)
    · skip
      refine lv_aload_n hx hb dX5_measureFraction_23 rfl (lv_at hl 1 rfl) ?_
      refine va_get (D := D) (ci := 5) (v := .ref (a 7)) (C := RX5) (T := TX5) (N := 25) hx hb hts hin_X5 hown hK hP 0 rfl rfl 10 (by decide) hf32 (fun _ h9 => h9) rfl dX5_measureFraction_24 ?_
      refine lv_iload_n hx hb dX5_measureFraction_27 rfl (lv_at hl 2 rfl) ?_
      refine ra_ld (f := (r 7)) C0 hP 7 rfl n rfl (by omega) (by decide) dX5_measureFraction_28 ?_
      have gx_1 : x_1 = ((r 7) n) := by rw [ex_1]; simp only [if_pos c_12]
      simp only [gx_1] at hJ
      exact hJ _ _ _ hP hD hS (lv_sub hl [0, 1, 2, 3, 4] rfl)
    · skip
      refine lv_iload hx hb dX5_measureFraction_15 (lv_at hl 0 rfl) ?_
      refine kcS (ans := ((uni lev) / 2)) C0 hP hS (c_X5_half l D cI (uni lev) ) (va_cwS 1 hts gX5_measureFraction_X5_half rfl rfl rfl (by decide +kernel) ⟨by dsimp only [rmL, rmF, rmN, rmA]; omega, by dsimp only [rmL, rmF, rmN, rmA]; omega⟩) rfl hl.1 rfl (Nat.le_of_ble_eq_true rfl) dX5_measureFraction_17 ⟨Nat.zero_le _, Nat.zero_le _⟩ (fun H locs hP hS => ?_)
      refine lv_goto (tgt := 29) hx hb dX5_measureFraction_20 (by decide) ?_
      have gx_1 : x_1 = ((uni lev) / 2) := by rw [ex_1]; simp only [if_neg c_12]
      simp only [gx_1] at hJ
      exact hJ _ _ _ hP hD hS (lv_sub hl [0, 1, 2, 3, 4] rfl)
  · skip
    refine lv_istore (lv' := [(5, .int x_1), (4, .int (uni lev)), (0, .ref (a 0)), (1, .int (nI n)), (2, .int lev), (3, .int cr)]) hx hb dX5_measureFraction_29 hl (by decide) rfl (fun ls hl => ?_)
    refine lv_iload_n hx hb dX5_measureFraction_31 rfl (lv_at hl 4 rfl) ?_
    obtain ⟨x_2, ex_2⟩ : ∃ zz_ : Int32, zz_ = (if lev = 0 then (3 * (uni lev)) else (uni lev)) := ⟨_, rfl⟩
    refine jW (D := D) hD hl 44 (wM cI a (vU (vU (vU (vU (vU v 19 w0) 20 h0) 21 d0) 22 u0) 23 e0) (rU (rU r 11 it) 12 sz)) [(5, .int x_1), (4, .int (uni lev)), (0, .ref (a 0)), (1, .int (nI n)), (2, .int lev), (3, .int cr)] [.int x_2] (fun hJ => ?_) (fun H locs ls hP hD hS hl => ?_)
    · skip
      refine lv_if_ne (tgt := 42) hx hb dX5_measureFraction_32 (by decide) (fun c_32 => ?_) (fun c_32 => ?_)
      · skip
        refine lv_iload hx hb dX5_measureFraction_42 (lv_at hl 1 rfl) ?_
        have gx_2 : x_2 = (uni lev) := by rw [ex_2]; simp only [if_neg c_32]
        simp only [gx_2] at hJ
        exact hJ _ _ _ hP hD hS (lv_sub hl [0, 1, 2, 3, 4, 5] rfl)
      · skip
        refine lv_iconst (v := 3) hx hb dX5_measureFraction_35 (by decide) ?_
        refine lv_iload hx hb dX5_measureFraction_36 (lv_at hl 1 rfl) ?_
        refine lv_imul hx hb dX5_measureFraction_38 ?_
        refine lv_goto (tgt := 44) hx hb dX5_measureFraction_39 (by decide) ?_
        have gx_2 : x_2 = (3 * (uni lev)) := by rw [ex_2]; simp only [if_pos c_32]
        simp only [gx_2] at hJ
        exact hJ _ _ _ hP hD hS (lv_sub hl [0, 1, 2, 3, 4, 5] rfl)
    · skip
      refine lv_istore (lv' := [(6, .int x_2), (5, .int x_1), (4, .int (uni lev)), (0, .ref (a 0)), (1, .int (nI n)), (2, .int lev), (3, .int cr)]) hx hb dX5_measureFraction_44 hl (by decide) rfl (fun ls hl => ?_)
      refine lv_aload_n hx hb dX5_measureFraction_46 rfl (lv_at hl 3 rfl) ?_
      refine lv_aload_n hx hb dX5_measureFraction_47 rfl (lv_at hl 3 rfl) ?_
      refine va_get (D := D) (ci := 5) (v := .ref (a 5)) (C := RX5) (T := TX5) (N := 25) hx hb hts hin_X5 hown hK hP 0 rfl rfl 8 (by decide) hf26 (fun _ h9 => h9) rfl dX5_measureFraction_48 ?_
      refine lv_iload_n hx hb dX5_measureFraction_51 rfl (lv_at hl 4 rfl) ?_
      refine ra_ld (f := (r 5)) C0 hP 5 rfl n rfl (by omega) (by decide) dX5_measureFraction_52 ?_
      refine lv_iload_n hx hb dX5_measureFraction_53 rfl (lv_at hl 5 rfl) ?_
      refine kcS (ans := (ptl lev)) C0 hP hS (c_X5_partLevel l D cI lev ) (va_cwS 1 hts gX5_measureFraction_X5_partLevel rfl rfl rfl (by decide +kernel) ⟨by dsimp only [rmL, rmF, rmN, rmA]; omega, by dsimp only [rmL, rmF, rmN, rmA]; omega⟩) rfl hl.1 rfl (Nat.le_of_ble_eq_true rfl) dX5_measureFraction_54 ⟨Nat.zero_le _, Nat.zero_le _⟩ (fun H locs hP hS => ?_)
      refine lv_iload_n hx hb dX5_measureFraction_57 rfl (lv_at hl 6 rfl) ?_
      refine kcVv C0 hP hD hS (hM ((r 5) n) (ptl lev) cr it sz w0 h0 d0 u0 e0 (by omega)) (cwV 3 hts gX5_measureFraction_X5_measureList rfl rfl rfl (by decide +kernel) ⟨by dsimp only [rmL, rmF, rmN, rmA]; omega, by dsimp only [rmL, rmF, rmN, rmA]; omega⟩) 0 5 rfl rfl rfl hl.1 rfl (Nat.le_of_ble_eq_true rfl) dX5_measureFraction_58 ⟨Nat.zero_le _, Nat.zero_le _⟩ (fun u H locs hq hP hD hS => ?_)
      obtain ⟨u_3, e_3, z_3⟩ := u
      have hz_3 : ∀ i2, rk ((r 5) n) < rk (r 2 i2) → ∀ k, k < 16 → z_3 (16 * i2 + k) = sz (16 * i2 + k) := hq
      have hP : va_P D vwCl (wM cI a (vU (vU (vU (vU (vU v 19 ((ML r N d ((r 5) n) (ptl lev) cr).1)) 20 ((ML r N d ((r 5) n) (ptl lev) cr).2.1)) 21 ((ML r N d ((r 5) n) (ptl lev) cr).2.2)) 22 u_3) 23 e_3) (rU (rU r 11 it) 12 z_3)) H := hP
      have hD : va_D A (wM cI a (vU (vU (vU (vU (vU v 19 ((ML r N d ((r 5) n) (ptl lev) cr).1)) 20 ((ML r N d ((r 5) n) (ptl lev) cr).2.1)) 21 ((ML r N d ((r 5) n) (ptl lev) cr).2.2)) 22 u_3) 23 e_3) (rU (rU r 11 it) 12 z_3)) := hD
      refine lv_aload_n hx hb dX5_measureFraction_61 rfl (lv_at hl 3 rfl) ?_
      refine va_get (D := D) (ci := 5) (v := .int ((ML r N d ((r 5) n) (ptl lev) cr).1)) (C := RX5) (T := TX5) (N := 25) hx hb hts hin_X5 hown hK hP 0 rfl rfl 19 (by decide) hf96 (fun _ h9 => h9) rfl dX5_measureFraction_62 ?_
      refine lv_topi (fun x_4 ex_4 => ?_)
      refine lv_istore (lv' := [(7, .int x_4), (6, .int x_2), (5, .int x_1), (4, .int (uni lev)), (0, .ref (a 0)), (1, .int (nI n)), (2, .int lev), (3, .int cr)]) hx hb dX5_measureFraction_65 hl (by decide) rfl (fun ls hl => ?_)
      refine lv_iconst (v := 2) hx hb dX5_measureFraction_67 (by decide) ?_
      refine lv_iload hx hb dX5_measureFraction_68 (lv_at hl 3 rfl) ?_
      refine lv_imul hx hb dX5_measureFraction_70 ?_
      refine lv_iload hx hb dX5_measureFraction_71 (lv_at hl 2 rfl) ?_
      refine kcS (ans := (x_1 / 2)) C0 hP hS (c_X5_half l D cI x_1 ) (va_cwS 1 hts gX5_measureFraction_X5_half rfl rfl rfl (by decide +kernel) ⟨by dsimp only [rmL, rmF, rmN, rmA]; omega, by dsimp only [rmL, rmF, rmN, rmA]; omega⟩) rfl hl.1 rfl (Nat.le_of_ble_eq_true rfl) dX5_measureFraction_73 ⟨Nat.zero_le _, Nat.zero_le _⟩ (fun H locs hP hS => ?_)
      refine lv_iadd hx hb dX5_measureFraction_76 ?_
      refine lv_iload hx hb dX5_measureFraction_77 (lv_at hl 1 rfl) ?_
      refine lv_iadd hx hb dX5_measureFraction_79 ?_
      refine lv_aload_n hx hb dX5_measureFraction_80 rfl (lv_at hl 4 rfl) ?_
      refine va_get (D := D) (ci := 5) (v := .int ((ML r N d ((r 5) n) (ptl lev) cr).2.2)) (C := RX5) (T := TX5) (N := 25) hx hb hts hin_X5 hown hK hP 0 rfl rfl 21 (by decide) hf102 (fun _ h9 => h9) rfl dX5_measureFraction_81 ?_
      refine lv_iadd hx hb dX5_measureFraction_84 ?_
      refine lv_topi (fun x_5 ex_5 => ?_)
      refine lv_istore (lv' := [(8, .int x_5), (7, .int x_4), (6, .int x_2), (5, .int x_1), (4, .int (uni lev)), (0, .ref (a 0)), (1, .int (nI n)), (2, .int lev), (3, .int cr)]) hx hb dX5_measureFraction_85 hl (by decide) rfl (fun ls hl => ?_)
      refine lv_iconst (v := 0) hx hb dX5_measureFraction_87 (by decide) ?_
      refine lv_iload hx hb dX5_measureFraction_88 (lv_at hl 0 rfl) ?_
      refine lv_aload_n hx hb dX5_measureFraction_90 rfl (lv_at hl 5 rfl) ?_
      refine va_get (D := D) (ci := 5) (v := .int ((ML r N d ((r 5) n) (ptl lev) cr).2.1)) (C := RX5) (T := TX5) (N := 25) hx hb hts hin_X5 hown hK hP 0 rfl rfl 20 (by decide) hf99 (fun _ h9 => h9) rfl dX5_measureFraction_91 ?_
      refine lv_iadd hx hb dX5_measureFraction_94 ?_
      refine kcS (ans := (mx 0 (x_5 + (ML r N d ((r 5) n) (ptl lev) cr).2.1))) C0 hP hS (c_X5_greater l D cI 0 (x_5 + (ML r N d ((r 5) n) (ptl lev) cr).2.1) ) (va_cwS 2 hts gX5_measureFraction_X5_greater rfl rfl rfl (by decide +kernel) ⟨by dsimp only [rmL, rmF, rmN, rmA]; omega, by dsimp only [rmL, rmF, rmN, rmA]; omega⟩) rfl hl.1 rfl (Nat.le_of_ble_eq_true rfl) dX5_measureFraction_95 ⟨Nat.zero_le _, Nat.zero_le _⟩ (fun H locs hP hS => ?_)
      refine lv_topi (fun x_6 ex_6 => ?_)
      refine lv_istore (lv' := [(9, .int x_6), (8, .int x_5), (7, .int x_4), (6, .int x_2), (5, .int x_1), (4, .int (uni lev)), (0, .ref (a 0)), (1, .int (nI n)), (2, .int lev), (3, .int cr)]) hx hb dX5_measureFraction_98 hl (by decide) rfl (fun ls hl => ?_)
      refine lv_iconst (v := 0) hx hb dX5_measureFraction_100 (by decide) ?_
      refine lv_aload_n hx hb dX5_measureFraction_101 rfl (lv_at hl 6 rfl) ?_
      refine va_get (D := D) (ci := 5) (v := .int ((ML r N d ((r 5) n) (ptl lev) cr).2.2)) (C := RX5) (T := TX5) (N := 25) hx hb hts hin_X5 hown hK hP 0 rfl rfl 21 (by decide) hf102 (fun _ h9 => h9) rfl dX5_measureFraction_102 ?_
      refine lv_iload hx hb dX5_measureFraction_105 (lv_at hl 1 rfl) ?_
      refine lv_isub hx hb dX5_measureFraction_107 ?_
      refine kcS (ans := (mx 0 ((ML r N d ((r 5) n) (ptl lev) cr).2.2 - x_5))) C0 hP hS (c_X5_greater l D cI 0 ((ML r N d ((r 5) n) (ptl lev) cr).2.2 - x_5) ) (va_cwS 2 hts gX5_measureFraction_X5_greater rfl rfl rfl (by decide +kernel) ⟨by dsimp only [rmL, rmF, rmN, rmA]; omega, by dsimp only [rmL, rmF, rmN, rmA]; omega⟩) rfl hl.1 rfl (Nat.le_of_ble_eq_true rfl) dX5_measureFraction_108 ⟨Nat.zero_le _, Nat.zero_le _⟩ (fun H locs hP hS => ?_)
      refine lv_topi (fun x_7 ex_7 => ?_)
      refine lv_istore (lv' := [(10, .int x_7), (9, .int x_6), (8, .int x_5), (7, .int x_4), (6, .int x_2), (5, .int x_1), (4, .int (uni lev)), (0, .ref (a 0)), (1, .int (nI n)), (2, .int lev), (3, .int cr)]) hx hb dX5_measureFraction_111 hl (by decide) rfl (fun ls hl => ?_)
      refine lv_aload_n hx hb dX5_measureFraction_113 rfl (lv_at hl 7 rfl) ?_
      refine lv_aload_n hx hb dX5_measureFraction_114 rfl (lv_at hl 7 rfl) ?_
      refine va_get (D := D) (ci := 5) (v := .ref (a 6)) (C := RX5) (T := TX5) (N := 25) hx hb hts hin_X5 hown hK hP 0 rfl rfl 9 (by decide) hf29 (fun _ h9 => h9) rfl dX5_measureFraction_115 ?_
      refine lv_iload_n hx hb dX5_measureFraction_118 rfl (lv_at hl 8 rfl) ?_
      refine ra_ld (f := (r 6)) C0 hP 6 rfl n rfl (by omega) (by decide) dX5_measureFraction_119 ?_
      refine lv_iload_n hx hb dX5_measureFraction_120 rfl (lv_at hl 9 rfl) ?_
      refine kcS (ans := (ptl lev)) C0 hP hS (c_X5_partLevel l D cI lev ) (va_cwS 1 hts gX5_measureFraction_X5_partLevel rfl rfl rfl (by decide +kernel) ⟨by dsimp only [rmL, rmF, rmN, rmA]; omega, by dsimp only [rmL, rmF, rmN, rmA]; omega⟩) rfl hl.1 rfl (Nat.le_of_ble_eq_true rfl) dX5_measureFraction_121 ⟨Nat.zero_le _, Nat.zero_le _⟩ (fun H locs hP hS => ?_)
      refine lv_iconst (v := 1) hx hb dX5_measureFraction_124 (by decide) ?_
      refine kcVv C0 hP hD hS (hM ((r 6) n) (ptl lev) 1 it z_3 ((ML r N d ((r 5) n) (ptl lev) cr).1) ((ML r N d ((r 5) n) (ptl lev) cr).2.1) ((ML r N d ((r 5) n) (ptl lev) cr).2.2) u_3 e_3 (by omega)) (cwV 3 hts gX5_measureFraction_X5_measureList rfl rfl rfl (by decide +kernel) ⟨by dsimp only [rmL, rmF, rmN, rmA]; omega, by dsimp only [rmL, rmF, rmN, rmA]; omega⟩) 0 5 rfl rfl rfl hl.1 rfl (Nat.le_of_ble_eq_true rfl) dX5_measureFraction_125 ⟨Nat.zero_le _, Nat.zero_le _⟩ (fun u H locs hq hP hD hS => ?_)
      obtain ⟨u_8, e_8, z_8⟩ := u
      have hz_8 : ∀ i2, rk ((r 6) n) < rk (r 2 i2) → ∀ k, k < 16 → z_8 (16 * i2 + k) = z_3 (16 * i2 + k) := hq
      have hP : va_P D vwCl (wM cI a (vU (vU (vU (vU (vU v 19 ((ML r N d ((r 6) n) (ptl lev) 1).1)) 20 ((ML r N d ((r 6) n) (ptl lev) 1).2.1)) 21 ((ML r N d ((r 6) n) (ptl lev) 1).2.2)) 22 u_8) 23 e_8) (rU (rU r 11 it) 12 z_8)) H := hP
      have hD : va_D A (wM cI a (vU (vU (vU (vU (vU v 19 ((ML r N d ((r 6) n) (ptl lev) 1).1)) 20 ((ML r N d ((r 6) n) (ptl lev) 1).2.1)) 21 ((ML r N d ((r 6) n) (ptl lev) 1).2.2)) 22 u_8) 23 e_8) (rU (rU r 11 it) 12 z_8)) := hD
      refine lv_aload_n hx hb dX5_measureFraction_128 rfl (lv_at hl 7 rfl) ?_
      refine va_get (D := D) (ci := 5) (v := .int ((ML r N d ((r 6) n) (ptl lev) 1).2.1)) (C := RX5) (T := TX5) (N := 25) hx hb hts hin_X5 hown hK hP 0 rfl rfl 20 (by decide) hf99 (fun _ h9 => h9) rfl dX5_measureFraction_129 ?_
      refine lv_iload hx hb dX5_measureFraction_132 (lv_at hl 4 rfl) ?_
      refine lv_iadd hx hb dX5_measureFraction_134 ?_
      refine lv_iload hx hb dX5_measureFraction_135 (lv_at hl 5 rfl) ?_
      refine lv_iadd hx hb dX5_measureFraction_137 ?_
      refine lv_iload hx hb dX5_measureFraction_138 (lv_at hl 5 rfl) ?_
      refine kcS (ans := (x_1 / 2)) C0 hP hS (c_X5_half l D cI x_1 ) (va_cwS 1 hts gX5_measureFraction_X5_half rfl rfl rfl (by decide +kernel) ⟨by dsimp only [rmL, rmF, rmN, rmA]; omega, by dsimp only [rmL, rmF, rmN, rmA]; omega⟩) rfl hl.1 rfl (Nat.le_of_ble_eq_true rfl) dX5_measureFraction_140 ⟨Nat.zero_le _, Nat.zero_le _⟩ (fun H locs hP hS => ?_)
      refine lv_isub hx hb dX5_measureFraction_143 ?_
      refine lv_iconst (v := 2) hx hb dX5_measureFraction_144 (by decide) ?_
      refine lv_iload hx hb dX5_measureFraction_145 (lv_at hl 6 rfl) ?_
      refine lv_imul hx hb dX5_measureFraction_147 ?_
      refine lv_isub hx hb dX5_measureFraction_148 ?_
      refine lv_topi (fun x_9 ex_9 => ?_)
      refine lv_istore (lv' := [(11, .int x_9), (10, .int x_7), (9, .int x_6), (8, .int x_5), (7, .int x_4), (6, .int x_2), (5, .int x_1), (4, .int (uni lev)), (0, .ref (a 0)), (1, .int (nI n)), (2, .int lev), (3, .int cr)]) hx hb dX5_measureFraction_149 hl (by decide) rfl (fun ls hl => ?_)
      refine lv_iload hx hb dX5_measureFraction_151 (lv_at hl 2 rfl) ?_
      refine lv_aload_n hx hb dX5_measureFraction_153 rfl (lv_at hl 8 rfl) ?_
      refine va_get (D := D) (ci := 5) (v := .int ((ML r N d ((r 6) n) (ptl lev) 1).2.1)) (C := RX5) (T := TX5) (N := 25) hx hb hts hin_X5 hown hK hP 0 rfl rfl 20 (by decide) hf99 (fun _ h9 => h9) rfl dX5_measureFraction_154 ?_
      refine lv_iload hx hb dX5_measureFraction_157 (lv_at hl 0 rfl) ?_
      refine lv_isub hx hb dX5_measureFraction_159 ?_
      refine kcS (ans := (mx x_6 ((ML r N d ((r 6) n) (ptl lev) 1).2.1 - x_9))) C0 hP hS (c_X5_greater l D cI x_6 ((ML r N d ((r 6) n) (ptl lev) 1).2.1 - x_9) ) (va_cwS 2 hts gX5_measureFraction_X5_greater rfl rfl rfl (by decide +kernel) ⟨by dsimp only [rmL, rmF, rmN, rmA]; omega, by dsimp only [rmL, rmF, rmN, rmA]; omega⟩) rfl hl.1 rfl (Nat.le_of_ble_eq_true rfl) dX5_measureFraction_160 ⟨Nat.zero_le _, Nat.zero_le _⟩ (fun H locs hP hS => ?_)
      refine lv_topi (fun x_10 ex_10 => ?_)
      refine lv_istore (lv' := [(9, .int x_10), (11, .int x_9), (10, .int x_7), (8, .int x_5), (7, .int x_4), (6, .int x_2), (5, .int x_1), (4, .int (uni lev)), (0, .ref (a 0)), (1, .int (nI n)), (2, .int lev), (3, .int cr)]) hx hb dX5_measureFraction_163 hl (by decide) rfl (fun ls hl => ?_)
      refine lv_iload hx hb dX5_measureFraction_165 (lv_at hl 2 rfl) ?_
      refine lv_aload_n hx hb dX5_measureFraction_167 rfl (lv_at hl 8 rfl) ?_
      refine va_get (D := D) (ci := 5) (v := .int ((ML r N d ((r 6) n) (ptl lev) 1).2.2)) (C := RX5) (T := TX5) (N := 25) hx hb hts hin_X5 hown hK hP 0 rfl rfl 21 (by decide) hf102 (fun _ h9 => h9) rfl dX5_measureFraction_168 ?_
      refine lv_iload hx hb dX5_measureFraction_171 (lv_at hl 1 rfl) ?_
      refine lv_iadd hx hb dX5_measureFraction_173 ?_
      refine kcS (ans := (mx x_7 ((ML r N d ((r 6) n) (ptl lev) 1).2.2 + x_9))) C0 hP hS (c_X5_greater l D cI x_7 ((ML r N d ((r 6) n) (ptl lev) 1).2.2 + x_9) ) (va_cwS 2 hts gX5_measureFraction_X5_greater rfl rfl rfl (by decide +kernel) ⟨by dsimp only [rmL, rmF, rmN, rmA]; omega, by dsimp only [rmL, rmF, rmN, rmA]; omega⟩) rfl hl.1 rfl (Nat.le_of_ble_eq_true rfl) dX5_measureFraction_174 ⟨Nat.zero_le _, Nat.zero_le _⟩ (fun H locs hP hS => ?_)
      refine lv_topi (fun x_11 ex_11 => ?_)
      refine lv_istore (lv' := [(10, .int x_11), (9, .int x_10), (11, .int x_9), (8, .int x_5), (7, .int x_4), (6, .int x_2), (5, .int x_1), (4, .int (uni lev)), (0, .ref (a 0)), (1, .int (nI n)), (2, .int lev), (3, .int cr)]) hx hb dX5_measureFraction_177 hl (by decide) rfl (fun ls hl => ?_)
      refine lv_iconst (v := 2) hx hb dX5_measureFraction_179 (by decide) ?_
      refine lv_iload hx hb dX5_measureFraction_180 (lv_at hl 7 rfl) ?_
      refine lv_imul hx hb dX5_measureFraction_182 ?_
      refine lv_iload hx hb dX5_measureFraction_183 (lv_at hl 6 rfl) ?_
      refine lv_iload hx hb dX5_measureFraction_185 (lv_at hl 6 rfl) ?_
      refine kcS (ans := (x_1 / 2)) C0 hP hS (c_X5_half l D cI x_1 ) (va_cwS 1 hts gX5_measureFraction_X5_half rfl rfl rfl (by decide +kernel) ⟨by dsimp only [rmL, rmF, rmN, rmA]; omega, by dsimp only [rmL, rmF, rmN, rmA]; omega⟩) rfl hl.1 rfl (Nat.le_of_ble_eq_true rfl) dX5_measureFraction_187 ⟨Nat.zero_le _, Nat.zero_le _⟩ (fun H locs hP hS => ?_)
      refine lv_isub hx hb dX5_measureFraction_190 ?_
      refine lv_isub hx hb dX5_measureFraction_191 ?_
      refine lv_topi (fun x_12 ex_12 => ?_)
      refine lv_istore (lv' := [(12, .int x_12), (10, .int x_11), (9, .int x_10), (11, .int x_9), (8, .int x_5), (7, .int x_4), (6, .int x_2), (5, .int x_1), (4, .int (uni lev)), (0, .ref (a 0)), (1, .int (nI n)), (2, .int lev), (3, .int cr)]) hx hb dX5_measureFraction_192 hl (by decide) rfl (fun ls hl => ?_)
      refine lv_iload hx hb dX5_measureFraction_194 (lv_at hl 7 rfl) ?_
      obtain ⟨x_13, ex_13⟩ : ∃ zz_ : Int32, zz_ = (if x_1 ≤ 0 then x_11 else (mx x_11 (-x_12))) := ⟨_, rfl⟩
      obtain ⟨x_14, ex_14⟩ : ∃ zz_ : Int32, zz_ = (if x_1 ≤ 0 then x_10 else (mx x_10 (x_12 + x_1))) := ⟨_, rfl⟩
      refine jW (D := D) hD hl 221 (wM cI a (vU (vU (vU (vU (vU v 19 ((ML r N d ((r 6) n) (ptl lev) 1).1)) 20 ((ML r N d ((r 6) n) (ptl lev) 1).2.1)) 21 ((ML r N d ((r 6) n) (ptl lev) 1).2.2)) 22 u_8) 23 e_8) (rU (rU r 11 it) 12 z_8)) [(12, .int x_12), (10, .int x_13), (9, .int x_14), (11, .int x_9), (8, .int x_5), (7, .int x_4), (6, .int x_2), (5, .int x_1), (4, .int (uni lev)), (0, .ref (a 0)), (1, .int (nI n)), (2, .int lev), (3, .int cr)] [] (fun hJ => ?_) (fun H locs ls hP hD hS hl => ?_)
      · skip
        refine lv_if_le (tgt := 221) hx hb dX5_measureFraction_196 (by decide) (fun c_196 => ?_) (fun c_196 => ?_)
        · skip
          have gx_13 : x_13 = x_11 := by rw [ex_13]; simp only [if_pos c_196]
          have gx_14 : x_14 = x_10 := by rw [ex_14]; simp only [if_pos c_196]
          simp only [gx_13, gx_14] at hJ
          exact hJ _ _ _ hP hD hS (lv_sub hl [0, 1, 2, 3, 4, 5, 6, 7, 8, 9, 10, 11, 12] rfl)
        · skip
          refine lv_iload hx hb dX5_measureFraction_199 (lv_at hl 2 rfl) ?_
          refine lv_iload hx hb dX5_measureFraction_201 (lv_at hl 0 rfl) ?_
          refine lv_iload hx hb dX5_measureFraction_203 (lv_at hl 7 rfl) ?_
          refine lv_iadd hx hb dX5_measureFraction_205 ?_
          refine kcS (ans := (mx x_10 (x_12 + x_1))) C0 hP hS (c_X5_greater l D cI x_10 (x_12 + x_1) ) (va_cwS 2 hts gX5_measureFraction_X5_greater rfl rfl rfl (by decide +kernel) ⟨by dsimp only [rmL, rmF, rmN, rmA]; omega, by dsimp only [rmL, rmF, rmN, rmA]; omega⟩) rfl hl.1 rfl (Nat.le_of_ble_eq_true rfl) dX5_measureFraction_206 ⟨Nat.zero_le _, Nat.zero_le _⟩ (fun H locs hP hS => ?_)
          refine lv_istore (lv' := [(9, .int (mx x_10 (x_12 + x_1))), (12, .int x_12), (10, .int x_11), (11, .int x_9), (8, .int x_5), (7, .int x_4), (6, .int x_2), (5, .int x_1), (4, .int (uni lev)), (0, .ref (a 0)), (1, .int (nI n)), (2, .int lev), (3, .int cr)]) hx hb dX5_measureFraction_209 hl (by decide) rfl (fun ls hl => ?_)
          refine lv_iload hx hb dX5_measureFraction_211 (lv_at hl 2 rfl) ?_
          refine lv_iload hx hb dX5_measureFraction_213 (lv_at hl 1 rfl) ?_
          refine lv_ineg hx hb dX5_measureFraction_215 ?_
          refine kcS (ans := (mx x_11 (-x_12))) C0 hP hS (c_X5_greater l D cI x_11 (-x_12) ) (va_cwS 2 hts gX5_measureFraction_X5_greater rfl rfl rfl (by decide +kernel) ⟨by dsimp only [rmL, rmF, rmN, rmA]; omega, by dsimp only [rmL, rmF, rmN, rmA]; omega⟩) rfl hl.1 rfl (Nat.le_of_ble_eq_true rfl) dX5_measureFraction_216 ⟨Nat.zero_le _, Nat.zero_le _⟩ (fun H locs hP hS => ?_)
          refine lv_istore (lv' := [(10, .int (mx x_11 (-x_12))), (9, .int (mx x_10 (x_12 + x_1))), (12, .int x_12), (11, .int x_9), (8, .int x_5), (7, .int x_4), (6, .int x_2), (5, .int x_1), (4, .int (uni lev)), (0, .ref (a 0)), (1, .int (nI n)), (2, .int lev), (3, .int cr)]) hx hb dX5_measureFraction_219 hl (by decide) rfl (fun ls hl => ?_)
          have gx_13 : x_13 = (mx x_11 (-x_12)) := by rw [ex_13]; simp only [if_neg c_196]
          have gx_14 : x_14 = (mx x_10 (x_12 + x_1)) := by rw [ex_14]; simp only [if_neg c_196]
          simp only [gx_13, gx_14] at hJ
          exact hJ _ _ _ hP hD hS (lv_sub hl [2, 0, 1, 3, 4, 5, 6, 7, 8, 9, 10, 11, 12] rfl)
      · skip
        refine lv_iload hx hb dX5_measureFraction_221 (lv_at hl 5 rfl) ?_
        refine lv_aload_n hx hb dX5_measureFraction_223 rfl (lv_at hl 9 rfl) ?_
        refine va_get (D := D) (ci := 5) (v := .int ((ML r N d ((r 6) n) (ptl lev) 1).1)) (C := RX5) (T := TX5) (N := 25) hx hb hts hin_X5 hown hK hP 0 rfl rfl 19 (by decide) hf96 (fun _ h9 => h9) rfl dX5_measureFraction_224 ?_
        refine kcS (ans := (mx x_4 ((ML r N d ((r 6) n) (ptl lev) 1).1))) C0 hP hS (c_X5_greater l D cI x_4 ((ML r N d ((r 6) n) (ptl lev) 1).1) ) (va_cwS 2 hts gX5_measureFraction_X5_greater rfl rfl rfl (by decide +kernel) ⟨by dsimp only [rmL, rmF, rmN, rmA]; omega, by dsimp only [rmL, rmF, rmN, rmA]; omega⟩) rfl hl.1 rfl (Nat.le_of_ble_eq_true rfl) dX5_measureFraction_227 ⟨Nat.zero_le _, Nat.zero_le _⟩ (fun H locs hP hS => ?_)
        refine lv_iload hx hb dX5_measureFraction_230 (lv_at hl 8 rfl) ?_
        refine lv_iadd hx hb dX5_measureFraction_232 ?_
        refine lv_topi (fun x_15 ex_15 => ?_)
        refine lv_istore (lv' := [(7, .int x_15), (12, .int x_12), (10, .int x_13), (9, .int x_14), (11, .int x_9), (8, .int x_5), (6, .int x_2), (5, .int x_1), (4, .int (uni lev)), (0, .ref (a 0)), (1, .int (nI n)), (2, .int lev), (3, .int cr)]) hx hb dX5_measureFraction_233 hl (by decide) rfl (fun ls hl => ?_)
        refine lv_aload_n hx hb dX5_measureFraction_235 rfl (lv_at hl 9 rfl) ?_
        refine lv_iload hx hb dX5_measureFraction_236 (lv_at hl 0 rfl) ?_
        refine lv_iload hx hb dX5_measureFraction_238 (lv_at hl 3 rfl) ?_
        refine lv_iload hx hb dX5_measureFraction_240 (lv_at hl 2 rfl) ?_
        refine kcDv C0 hP hD hS (c_X5_set l D cI a (vU (vU (vU (vU (vU v 19 ((ML r N d ((r 6) n) (ptl lev) 1).1)) 20 ((ML r N d ((r 6) n) (ptl lev) 1).2.1)) 21 ((ML r N d ((r 6) n) (ptl lev) 1).2.2)) 22 u_8) 23 e_8) (rU (rU r 11 it) 12 z_8) x_15 x_14 x_13) (cwV 3 hts gX5_measureFraction_X5_set rfl rfl rfl (by decide +kernel) ⟨by dsimp only [rmL, rmF, rmN, rmA]; omega, by dsimp only [rmL, rmF, rmN, rmA]; omega⟩) 0 5 rfl rfl rfl hl.1 rfl (Nat.le_of_ble_eq_true rfl) dX5_measureFraction_242 ⟨Nat.zero_le _, Nat.zero_le _⟩ (fun H locs hP hD hS => ?_)
        have hP : va_P D vwCl (wM cI a (vU (vU (vU (vU (vU v 19 x_15) 20 x_14) 21 x_13) 22 u_8) 23 e_8) (rU (rU r 11 it) 12 z_8)) H := hP
        have hD : va_D A (wM cI a (vU (vU (vU (vU (vU v 19 x_15) 20 x_14) 21 x_13) 22 u_8) 23 e_8) (rU (rU r 11 it) 12 z_8)) := hD
        refine lv_aload_n hx hb dX5_measureFraction_245 rfl (lv_at hl 9 rfl) ?_
        refine lv_iload hx hb dX5_measureFraction_246 (lv_at hl 5 rfl) ?_
        refine va_put (D := D) (ci := 5) (v := .int x_5) (ty := .int) (C := RX5) (T := TX5) (N := 25) hx hb hts hin_X5 tyX5 tyX5_ok nmX5 hown hK hP hD hS 0 rfl rfl 22 (by decide) hf125 (fun _ h9 => h9) rfl (by decide +kernel) rfl rfl (Nat.le_of_ble_eq_true rfl) dX5_measureFraction_248 (fun H locs hP hD hS => ?_)
        have hP : va_P D vwCl (wM cI a (vU (vU (vU (vU (vU v 19 x_15) 20 x_14) 21 x_13) 22 x_5) 23 e_8) (rU (rU r 11 it) 12 z_8)) H := hP
        have hD : va_D A (wM cI a (vU (vU (vU (vU (vU v 19 x_15) 20 x_14) 21 x_13) 22 x_5) 23 e_8) (rU (rU r 11 it) 12 z_8)) := hD
        refine lv_aload_n hx hb dX5_measureFraction_251 rfl (lv_at hl 9 rfl) ?_
        refine lv_iload hx hb dX5_measureFraction_252 (lv_at hl 4 rfl) ?_
        refine va_put (D := D) (ci := 5) (v := .int x_9) (ty := .int) (C := RX5) (T := TX5) (N := 25) hx hb hts hin_X5 tyX5 tyX5_ok nmX5 hown hK hP hD hS 0 rfl rfl 23 (by decide) hf128 (fun _ h9 => h9) rfl (by decide +kernel) rfl rfl (Nat.le_of_ble_eq_true rfl) dX5_measureFraction_254 (fun H locs hP hD hS => ?_)
        have hP : va_P D vwCl (wM cI a (vU (vU (vU (vU (vU v 19 x_15) 20 x_14) 21 x_13) 22 x_5) 23 x_9) (rU (rU r 11 it) 12 z_8)) H := hP
        have hD : va_D A (wM cI a (vU (vU (vU (vU (vU v 19 x_15) 20 x_14) 21 x_13) 22 x_5) 23 x_9) (rU (rU r 11 it) 12 z_8)) := hD
        have q19 : x_15 = (mFr (ML r N d) r n lev cr).1 := (pf_X5_measureFraction_0 a v r n N d rk lev cr it sz w0 h0 d0 u0 e0 hN hN1 hn hd hr5 hr6 x_1 ex_1 x_2 ex_2 u_3 e_3 z_3 x_4 ex_4 x_5 ex_5 x_6 ex_6 x_7 ex_7 u_8 e_8 z_8 x_9 ex_9 x_10 ex_10 x_11 ex_11 x_12 ex_12 x_13 ex_13 x_14 ex_14 x_15 ex_15)
        have q20 : x_14 = (mFr (ML r N d) r n lev cr).2.1 := (pf_X5_measureFraction_1 a v r n N d rk lev cr it sz w0 h0 d0 u0 e0 hN hN1 hn hd hr5 hr6 x_1 ex_1 x_2 ex_2 u_3 e_3 z_3 x_4 ex_4 x_5 ex_5 x_6 ex_6 x_7 ex_7 u_8 e_8 z_8 x_9 ex_9 x_10 ex_10 x_11 ex_11 x_12 ex_12 x_13 ex_13 x_14 ex_14 x_15 ex_15)
        have q21 : x_13 = (mFr (ML r N d) r n lev cr).2.2 := (pf_X5_measureFraction_2 a v r n N d rk lev cr it sz w0 h0 d0 u0 e0 hN hN1 hn hd hr5 hr6 x_1 ex_1 x_2 ex_2 u_3 e_3 z_3 x_4 ex_4 x_5 ex_5 x_6 ex_6 x_7 ex_7 u_8 e_8 z_8 x_9 ex_9 x_10 ex_10 x_11 ex_11 x_12 ex_12 x_13 ex_13 x_14 ex_14 x_15 ex_15)
        have q22 : x_5 = (frU (ML r N d) r n lev cr) := (pf_X5_measureFraction_3 a v r n N d rk lev cr it sz w0 h0 d0 u0 e0 hN hN1 hn hd hr5 hr6 x_1 ex_1 x_2 ex_2 u_3 e_3 z_3 x_4 ex_4 x_5 ex_5 x_6 ex_6 x_7 ex_7 u_8 e_8 z_8 x_9 ex_9 x_10 ex_10 x_11 ex_11 x_12 ex_12 x_13 ex_13 x_14 ex_14 x_15 ex_15)
        have q23 : x_9 = (frD (ML r N d) r n lev) := (pf_X5_measureFraction_4 a v r n N d rk lev cr it sz w0 h0 d0 u0 e0 hN hN1 hn hd hr5 hr6 x_1 ex_1 x_2 ex_2 u_3 e_3 z_3 x_4 ex_4 x_5 ex_5 x_6 ex_6 x_7 ex_7 u_8 e_8 z_8 x_9 ex_9 x_10 ex_10 x_11 ex_11 x_12 ex_12 x_13 ex_13 x_14 ex_14 x_15 ex_15)
        have hw : (wM cI a (vU (vU (vU (vU (vU v 19 x_15) 20 x_14) 21 x_13) 22 x_5) 23 x_9) (rU (rU r 11 it) 12 z_8)) = (wM cI a (vU (vU (vU (vU (vU v 19 ((mFr (ML r N d) r n lev cr).1)) 20 ((mFr (ML r N d) r n lev cr).2.1)) 21 ((mFr (ML r N d) r n lev cr).2.2)) 22 (frU (ML r N d) r n lev cr)) 23 (frD (ML r N d) r n lev)) (rU (rU r 11 it) 12 z_8)) := by rw [q19, q20, q21, q22, q23]
        have hP : va_P D vwCl (wM cI a (vU (vU (vU (vU (vU v 19 ((mFr (ML r N d) r n lev cr).1)) 20 ((mFr (ML r N d) r n lev cr).2.1)) 21 ((mFr (ML r N d) r n lev cr).2.2)) 22 (frU (ML r N d) r n lev cr)) 23 (frD (ML r N d) r n lev)) (rU (rU r 11 it) 12 z_8)) H := hw ▸ hP
        have hD : va_D A (wM cI a (vU (vU (vU (vU (vU v 19 ((mFr (ML r N d) r n lev cr).1)) 20 ((mFr (ML r N d) r n lev cr).2.1)) 21 ((mFr (ML r N d) r n lev cr).2.2)) 22 (frU (ML r N d) r n lev cr)) 23 (frD (ML r N d) r n lev)) (rU (rU r 11 it) 12 z_8)) := hw ▸ hD
        exact k_vret C0 z_8 hP hD hS (fun i hi k hk => by show z_8 (16 * i + k) = sz (16 * i + k); rw [hz_8 i (by omega) k hk, hz_3 i (by omega) k hk]) dX5_measureFraction_257

set_option maxHeartbeats 1500000 in
theorem pf_X5_measureFence_0 (a : Nat → Nat) (v : Nat → Int32) (r : Nat → Nat → Int32) (n N d : Nat) (rk : Int32 → Nat) (lev cr : Int32) (it sz : Nat → Int32) (w0 h0 d0 u0 e0 : Int32) (hN : v 4 = nI N) (hN1 : N ≤ 120) (hn : n < N) (hd : rk (r 2 n) ≤ d) (hr6 : rk (r 6 n) < rk (r 2 n)) (u_1 e_1 : Int32) (z_1 : Nat → Int32) (x_2 : Int32) (ex_2 : x_2 = (2 * mx ((vU (vU (vU (vU (vU v 19 ((ML r N d ((r 6) n) lev cr).1)) 20 ((ML r N d ((r 6) n) lev cr).2.1)) 21 ((ML r N d ((r 6) n) lev cr).2.2)) 22 u_1) 23 e_1) 20 - 2 * uni lev) ((vU (vU (vU (vU (vU v 19 ((ML r N d ((r 6) n) lev cr).1)) 20 ((ML r N d ((r 6) n) lev cr).2.1)) 21 ((ML r N d ((r 6) n) lev cr).2.2)) 22 u_1) 23 e_1) 21 + 2 * uni lev))) (x_3 : Int32) (ex_3 : x_3 = (((ML r N d ((r 6) n) lev cr).1 + (dlw ((r 5) n) lev)) + (dlw ((r 7) n) lev))) (x_4 : Int32) (ex_4 : x_4 = ((2 * (uni lev)) + ((tal (stp x_2 lev) lev) / 2))) : x_3 = (mFe (ML r N d) r n lev cr).1 := by
  subst_vars; rfl
set_option maxHeartbeats 1500000 in
theorem pf_X5_measureFence_1 (a : Nat → Nat) (v : Nat → Int32) (r : Nat → Nat → Int32) (n N d : Nat) (rk : Int32 → Nat) (lev cr : Int32) (it sz : Nat → Int32) (w0 h0 d0 u0 e0 : Int32) (hN : v 4 = nI N) (hN1 : N ≤ 120) (hn : n < N) (hd : rk (r 2 n) ≤ d) (hr6 : rk (r 6 n) < rk (r 2 n)) (u_1 e_1 : Int32) (z_1 : Nat → Int32) (x_2 : Int32) (ex_2 : x_2 = (2 * mx ((vU (vU (vU (vU (vU v 19 ((ML r N d ((r 6) n) lev cr).1)) 20 ((ML r N d ((r 6) n) lev cr).2.1)) 21 ((ML r N d ((r 6) n) lev cr).2.2)) 22 u_1) 23 e_1) 20 - 2 * uni lev) ((vU (vU (vU (vU (vU v 19 ((ML r N d ((r 6) n) lev cr).1)) 20 ((ML r N d ((r 6) n) lev cr).2.1)) 21 ((ML r N d ((r 6) n) lev cr).2.2)) 22 u_1) 23 e_1) 21 + 2 * uni lev))) (x_3 : Int32) (ex_3 : x_3 = (((ML r N d ((r 6) n) lev cr).1 + (dlw ((r 5) n) lev)) + (dlw ((r 7) n) lev))) (x_4 : Int32) (ex_4 : x_4 = ((2 * (uni lev)) + ((tal (stp x_2 lev) lev) / 2))) : (mx (mx ((ML r N d ((r 6) n) lev cr).2.1) x_4) 0) = (mFe (ML r N d) r n lev cr).2.1 := by
  subst_vars; rfl
set_option maxHeartbeats 1500000 in
theorem pf_X5_measureFence_2 (a : Nat → Nat) (v : Nat → Int32) (r : Nat → Nat → Int32) (n N d : Nat) (rk : Int32 → Nat) (lev cr : Int32) (it sz : Nat → Int32) (w0 h0 d0 u0 e0 : Int32) (hN : v 4 = nI N) (hN1 : N ≤ 120) (hn : n < N) (hd : rk (r 2 n) ≤ d) (hr6 : rk (r 6 n) < rk (r 2 n)) (u_1 e_1 : Int32) (z_1 : Nat → Int32) (x_2 : Int32) (ex_2 : x_2 = (2 * mx ((vU (vU (vU (vU (vU v 19 ((ML r N d ((r 6) n) lev cr).1)) 20 ((ML r N d ((r 6) n) lev cr).2.1)) 21 ((ML r N d ((r 6) n) lev cr).2.2)) 22 u_1) 23 e_1) 20 - 2 * uni lev) ((vU (vU (vU (vU (vU v 19 ((ML r N d ((r 6) n) lev cr).1)) 20 ((ML r N d ((r 6) n) lev cr).2.1)) 21 ((ML r N d ((r 6) n) lev cr).2.2)) 22 u_1) 23 e_1) 21 + 2 * uni lev))) (x_3 : Int32) (ex_3 : x_3 = (((ML r N d ((r 6) n) lev cr).1 + (dlw ((r 5) n) lev)) + (dlw ((r 7) n) lev))) (x_4 : Int32) (ex_4 : x_4 = ((2 * (uni lev)) + ((tal (stp x_2 lev) lev) / 2))) : (mx (mx ((ML r N d ((r 6) n) lev cr).2.2) ((tal (stp x_2 lev) lev) - x_4)) 0) = (mFe (ML r N d) r n lev cr).2.2 := by
  subst_vars; rfl
set_option maxHeartbeats 1500000 in
set_option maxRecDepth 100000 in
theorem c_X5_measureFence (l : Launch) (D : va_G) (cI : ClassId) (a : Nat → Nat) (v : Nat → Int32) (r : Nat → Nat → Int32) (n N d : Nat) (rk : Int32 → Nat) (lev cr : Int32) (it sz : Nat → Int32) (w0 h0 d0 u0 e0 : Int32) (hM : HML l D cI a v r N rk d) (hN : v 4 = nI N) (hN1 : N ≤ 120) (hn : n < N) (hd : rk (r 2 n) ≤ d) (hr6 : rk (r 6 n) < rk (r 2 n)) : KV l D cI yX5_measureFence wsX5_measureFence (rmF d) [.ref (a 0), .int (nI n), .int lev, .int cr] (wM cI a (vU (vU (vU (vU (vU v 19 w0) 20 h0) 21 d0) 22 u0) 23 e0) (rU (rU r 11 it) 12 sz)) (fun z : Int32 × Int32 × (Nat → Int32) => wM cI a (v5 v (mFe (ML r N d) r n lev cr).1 (mFe (ML r N d) r n lev cr).2.1 (mFe (ML r N d) r n lev cr).2.2 z.1 z.2.1) (r2 r it z.2.2)) (fun z => ∀ i, rk (r 2 n) < rk (r 2 i) → ∀ k, k < 16 → z.2.2 (16 * i + k) = sz (16 * i + k)) := by
  refine KV.of (cc := cX5_measureFence) (nL := 8) (ret := none) (by decide) rfl (Nat.le_of_ble_eq_true rfl) ?_
  intro pg9 en9 s m args below meth cd9 A ls C0 hP hD hS hl
  have hx := C0.1.1
  have hb := C0.1.2.1
  have hml := C0.1.2.2.1
  have hown : s.vm.findClass RX5 = some m.cls := C0.1.2.2.2.1
  have hts : ∀ w ∈ wsX5_measureFence, w.before args s = true := C0.1.2.2.2.2
  have hK := C0.2.2.2.1
  have hin_X5 : ∀ w ∈ wsX50, w ∈ wsX5_measureFence := fun w h => List.mem_cons_of_mem _ (List.mem_append_right _ h)
  have hf29 : (Cond.fieldLink RX5 29 "FormulaListsModel" "two" "[I").before args s = true := hts _ (by decide +kernel)
  have hf96 : (Cond.fieldLink RX5 96 "FormulaListsModel" "width" "I").before args s = true := hts _ (by decide +kernel)
  have hf26 : (Cond.fieldLink RX5 26 "FormulaListsModel" "one" "[I").before args s = true := hts _ (by decide +kernel)
  have hf32 : (Cond.fieldLink RX5 32 "FormulaListsModel" "three" "[I").before args s = true := hts _ (by decide +kernel)
  have hf99 : (Cond.fieldLink RX5 99 "FormulaListsModel" "height" "I").before args s = true := hts _ (by decide +kernel)
  have hf102 : (Cond.fieldLink RX5 102 "FormulaListsModel" "depth" "I").before args s = true := hts _ (by decide +kernel)
  have hl : lv_has ls 8 [(0, .ref (a 0)), (1, .int (nI n)), (2, .int lev), (3, .int cr)] := hl
  have hP : va_P D vwCl (wM cI a (vU (vU (vU (vU (vU v 19 w0) 20 h0) 21 d0) 22 u0) 23 e0) (rU (rU r 11 it) 12 sz)) s.heap := hP
  refine lv_aload_n hx hb dX5_measureFence_0 rfl (lv_at hl 0 rfl) ?_
  refine lv_aload_n hx hb dX5_measureFence_1 rfl (lv_at hl 0 rfl) ?_
  refine va_get (D := D) (ci := 5) (v := .ref (a 6)) (C := RX5) (T := TX5) (N := 25) hx hb hts hin_X5 hown hK hP 0 rfl rfl 9 (by decide) hf29 (fun _ h9 => h9) rfl dX5_measureFence_2 ?_
  refine lv_iload_n hx hb dX5_measureFence_5 rfl (lv_at hl 1 rfl) ?_
  refine ra_ld (f := (r 6)) C0 hP 6 rfl n rfl (by omega) (by decide) dX5_measureFence_6 ?_
  refine lv_iload_n hx hb dX5_measureFence_7 rfl (lv_at hl 2 rfl) ?_
  refine lv_iload_n hx hb dX5_measureFence_8 rfl (lv_at hl 3 rfl) ?_
  refine kcVv C0 hP hD hS (hM ((r 6) n) lev cr it sz w0 h0 d0 u0 e0 (by omega)) (cwV 3 hts gX5_measureFence_X5_measureList rfl rfl rfl (by decide +kernel) ⟨by dsimp only [rmL, rmF, rmN, rmA]; omega, by dsimp only [rmL, rmF, rmN, rmA]; omega⟩) 0 5 rfl rfl rfl hl.1 rfl (Nat.le_of_ble_eq_true rfl) dX5_measureFence_9 ⟨Nat.zero_le _, Nat.zero_le _⟩ (fun u H locs hq hP hD hS => ?_)
  obtain ⟨u_1, e_1, z_1⟩ := u
  have hz_1 : ∀ i2, rk ((r 6) n) < rk (r 2 i2) → ∀ k, k < 16 → z_1 (16 * i2 + k) = sz (16 * i2 + k) := hq
  have hP : va_P D vwCl (wM cI a (vU (vU (vU (vU (vU v 19 ((ML r N d ((r 6) n) lev cr).1)) 20 ((ML r N d ((r 6) n) lev cr).2.1)) 21 ((ML r N d ((r 6) n) lev cr).2.2)) 22 u_1) 23 e_1) (rU (rU r 11 it) 12 z_1)) H := hP
  have hD : va_D A (wM cI a (vU (vU (vU (vU (vU v 19 ((ML r N d ((r 6) n) lev cr).1)) 20 ((ML r N d ((r 6) n) lev cr).2.1)) 21 ((ML r N d ((r 6) n) lev cr).2.2)) 22 u_1) 23 e_1) (rU (rU r 11 it) 12 z_1)) := hD
  refine lv_aload_n hx hb dX5_measureFence_12 rfl (lv_at hl 0 rfl) ?_
  refine lv_iload_n hx hb dX5_measureFence_13 rfl (lv_at hl 2 rfl) ?_
  refine kcD (ans := (2 * mx ((vU (vU (vU (vU (vU v 19 ((ML r N d ((r 6) n) lev cr).1)) 20 ((ML r N d ((r 6) n) lev cr).2.1)) 21 ((ML r N d ((r 6) n) lev cr).2.2)) 22 u_1) 23 e_1) 20 - 2 * uni lev) ((vU (vU (vU (vU (vU v 19 ((ML r N d ((r 6) n) lev cr).1)) 20 ((ML r N d ((r 6) n) lev cr).2.1)) 21 ((ML r N d ((r 6) n) lev cr).2.2)) 22 u_1) 23 e_1) 21 + 2 * uni lev))) C0 hP hD hS (c_X5_need l D cI a (vU (vU (vU (vU (vU v 19 ((ML r N d ((r 6) n) lev cr).1)) 20 ((ML r N d ((r 6) n) lev cr).2.1)) 21 ((ML r N d ((r 6) n) lev cr).2.2)) 22 u_1) 23 e_1) (rU (rU r 11 it) 12 z_1) lev ) (cwV 1 hts gX5_measureFence_X5_need rfl rfl rfl (by decide +kernel) ⟨by dsimp only [rmL, rmF, rmN, rmA]; omega, by dsimp only [rmL, rmF, rmN, rmA]; omega⟩) 0 5 rfl rfl rfl hl.1 rfl (Nat.le_of_ble_eq_true rfl) dX5_measureFence_14 ⟨Nat.zero_le _, Nat.zero_le _⟩ (fun H locs hP hD hS => ?_)
  refine lv_topi (fun x_2 ex_2 => ?_)
  refine lv_istore (lv' := [(4, .int x_2), (0, .ref (a 0)), (1, .int (nI n)), (2, .int lev), (3, .int cr)]) hx hb dX5_measureFence_17 hl (by decide) rfl (fun ls hl => ?_)
  refine lv_aload_n hx hb dX5_measureFence_19 rfl (lv_at hl 1 rfl) ?_
  refine va_get (D := D) (ci := 5) (v := .int ((ML r N d ((r 6) n) lev cr).1)) (C := RX5) (T := TX5) (N := 25) hx hb hts hin_X5 hown hK hP 0 rfl rfl 19 (by decide) hf96 (fun _ h9 => h9) rfl dX5_measureFence_20 ?_
  refine lv_aload_n hx hb dX5_measureFence_23 rfl (lv_at hl 1 rfl) ?_
  refine va_get (D := D) (ci := 5) (v := .ref (a 5)) (C := RX5) (T := TX5) (N := 25) hx hb hts hin_X5 hown hK hP 0 rfl rfl 8 (by decide) hf26 (fun _ h9 => h9) rfl dX5_measureFence_24 ?_
  refine lv_iload_n hx hb dX5_measureFence_27 rfl (lv_at hl 2 rfl) ?_
  refine ra_ld (f := (r 5)) C0 hP 5 rfl n rfl (by omega) (by decide) dX5_measureFence_28 ?_
  refine lv_iload_n hx hb dX5_measureFence_29 rfl (lv_at hl 3 rfl) ?_
  refine kcS (ans := (dlw ((r 5) n) lev)) C0 hP hS (c_X5_delimiterWidth l D cI ((r 5) n) lev ) (va_cwS 2 hts gX5_measureFence_X5_delimiterWidth rfl rfl rfl (by decide +kernel) ⟨by dsimp only [rmL, rmF, rmN, rmA]; omega, by dsimp only [rmL, rmF, rmN, rmA]; omega⟩) rfl hl.1 rfl (Nat.le_of_ble_eq_true rfl) dX5_measureFence_30 ⟨Nat.zero_le _, Nat.zero_le _⟩ (fun H locs hP hS => ?_)
  refine lv_iadd hx hb dX5_measureFence_33 ?_
  refine lv_aload_n hx hb dX5_measureFence_34 rfl (lv_at hl 1 rfl) ?_
  refine va_get (D := D) (ci := 5) (v := .ref (a 7)) (C := RX5) (T := TX5) (N := 25) hx hb hts hin_X5 hown hK hP 0 rfl rfl 10 (by decide) hf32 (fun _ h9 => h9) rfl dX5_measureFence_35 ?_
  refine lv_iload_n hx hb dX5_measureFence_38 rfl (lv_at hl 2 rfl) ?_
  refine ra_ld (f := (r 7)) C0 hP 7 rfl n rfl (by omega) (by decide) dX5_measureFence_39 ?_
  refine lv_iload_n hx hb dX5_measureFence_40 rfl (lv_at hl 3 rfl) ?_
  refine kcS (ans := (dlw ((r 7) n) lev)) C0 hP hS (c_X5_delimiterWidth l D cI ((r 7) n) lev ) (va_cwS 2 hts gX5_measureFence_X5_delimiterWidth rfl rfl rfl (by decide +kernel) ⟨by dsimp only [rmL, rmF, rmN, rmA]; omega, by dsimp only [rmL, rmF, rmN, rmA]; omega⟩) rfl hl.1 rfl (Nat.le_of_ble_eq_true rfl) dX5_measureFence_41 ⟨Nat.zero_le _, Nat.zero_le _⟩ (fun H locs hP hS => ?_)
  refine lv_iadd hx hb dX5_measureFence_44 ?_
  refine lv_topi (fun x_3 ex_3 => ?_)
  refine lv_istore (lv' := [(5, .int x_3), (4, .int x_2), (0, .ref (a 0)), (1, .int (nI n)), (2, .int lev), (3, .int cr)]) hx hb dX5_measureFence_45 hl (by decide) rfl (fun ls hl => ?_)
  refine lv_iload hx hb dX5_measureFence_47 (lv_at hl 1 rfl) ?_
  refine lv_iload_n hx hb dX5_measureFence_49 rfl (lv_at hl 4 rfl) ?_
  refine kcS (ans := (stp x_2 lev)) C0 hP hS (c_X5_stepOf l D cI x_2 lev ) (va_cwS 2 hts gX5_measureFence_X5_stepOf rfl rfl rfl (by decide +kernel) ⟨by dsimp only [rmL, rmF, rmN, rmA]; omega, by dsimp only [rmL, rmF, rmN, rmA]; omega⟩) rfl hl.1 rfl (Nat.le_of_ble_eq_true rfl) dX5_measureFence_50 ⟨Nat.zero_le _, Nat.zero_le _⟩ (fun H locs hP hS => ?_)
  refine lv_iload_n hx hb dX5_measureFence_53 rfl (lv_at hl 4 rfl) ?_
  refine kcS (ans := (tal (stp x_2 lev) lev)) C0 hP hS (c_X5_tall l D cI (stp x_2 lev) lev ) (va_cwS 2 hts gX5_measureFence_X5_tall rfl rfl rfl (by decide +kernel) ⟨by dsimp only [rmL, rmF, rmN, rmA]; omega, by dsimp only [rmL, rmF, rmN, rmA]; omega⟩) rfl hl.1 rfl (Nat.le_of_ble_eq_true rfl) dX5_measureFence_54 ⟨Nat.zero_le _, Nat.zero_le _⟩ (fun H locs hP hS => ?_)
  refine lv_istore (lv' := [(6, .int (tal (stp x_2 lev) lev)), (5, .int x_3), (4, .int x_2), (0, .ref (a 0)), (1, .int (nI n)), (2, .int lev), (3, .int cr)]) hx hb dX5_measureFence_57 hl (by decide) rfl (fun ls hl => ?_)
  refine lv_iconst (v := 2) hx hb dX5_measureFence_59 (by decide) ?_
  refine lv_iload_n hx hb dX5_measureFence_60 rfl (lv_at hl 5 rfl) ?_
  refine kcS (ans := (uni lev)) C0 hP hS (c_X5_unit l D cI lev ) (va_cwS 1 hts gX5_measureFence_X5_unit rfl rfl rfl (by decide +kernel) ⟨by dsimp only [rmL, rmF, rmN, rmA]; omega, by dsimp only [rmL, rmF, rmN, rmA]; omega⟩) rfl hl.1 rfl (Nat.le_of_ble_eq_true rfl) dX5_measureFence_61 ⟨Nat.zero_le _, Nat.zero_le _⟩ (fun H locs hP hS => ?_)
  refine lv_imul hx hb dX5_measureFence_64 ?_
  refine lv_iload hx hb dX5_measureFence_65 (lv_at hl 0 rfl) ?_
  refine kcS (ans := ((tal (stp x_2 lev) lev) / 2)) C0 hP hS (c_X5_half l D cI (tal (stp x_2 lev) lev) ) (va_cwS 1 hts gX5_measureFence_X5_half rfl rfl rfl (by decide +kernel) ⟨by dsimp only [rmL, rmF, rmN, rmA]; omega, by dsimp only [rmL, rmF, rmN, rmA]; omega⟩) rfl hl.1 rfl (Nat.le_of_ble_eq_true rfl) dX5_measureFence_67 ⟨Nat.zero_le _, Nat.zero_le _⟩ (fun H locs hP hS => ?_)
  refine lv_iadd hx hb dX5_measureFence_70 ?_
  refine lv_topi (fun x_4 ex_4 => ?_)
  refine lv_istore (lv' := [(7, .int x_4), (6, .int (tal (stp x_2 lev) lev)), (5, .int x_3), (4, .int x_2), (0, .ref (a 0)), (1, .int (nI n)), (2, .int lev), (3, .int cr)]) hx hb dX5_measureFence_71 hl (by decide) rfl (fun ls hl => ?_)
  refine lv_aload_n hx hb dX5_measureFence_73 rfl (lv_at hl 4 rfl) ?_
  refine lv_iload hx hb dX5_measureFence_74 (lv_at hl 2 rfl) ?_
  refine lv_aload_n hx hb dX5_measureFence_76 rfl (lv_at hl 4 rfl) ?_
  refine va_get (D := D) (ci := 5) (v := .int ((ML r N d ((r 6) n) lev cr).2.1)) (C := RX5) (T := TX5) (N := 25) hx hb hts hin_X5 hown hK hP 0 rfl rfl 20 (by decide) hf99 (fun _ h9 => h9) rfl dX5_measureFence_77 ?_
  refine lv_iload hx hb dX5_measureFence_80 (lv_at hl 0 rfl) ?_
  refine kcS (ans := (mx ((ML r N d ((r 6) n) lev cr).2.1) x_4)) C0 hP hS (c_X5_greater l D cI ((ML r N d ((r 6) n) lev cr).2.1) x_4 ) (va_cwS 2 hts gX5_measureFence_X5_greater rfl rfl rfl (by decide +kernel) ⟨by dsimp only [rmL, rmF, rmN, rmA]; omega, by dsimp only [rmL, rmF, rmN, rmA]; omega⟩) rfl hl.1 rfl (Nat.le_of_ble_eq_true rfl) dX5_measureFence_82 ⟨Nat.zero_le _, Nat.zero_le _⟩ (fun H locs hP hS => ?_)
  refine lv_iconst (v := 0) hx hb dX5_measureFence_85 (by decide) ?_
  refine kcS (ans := (mx (mx ((ML r N d ((r 6) n) lev cr).2.1) x_4) 0)) C0 hP hS (c_X5_greater l D cI (mx ((ML r N d ((r 6) n) lev cr).2.1) x_4) 0 ) (va_cwS 2 hts gX5_measureFence_X5_greater rfl rfl rfl (by decide +kernel) ⟨by dsimp only [rmL, rmF, rmN, rmA]; omega, by dsimp only [rmL, rmF, rmN, rmA]; omega⟩) rfl hl.1 rfl (Nat.le_of_ble_eq_true rfl) dX5_measureFence_86 ⟨Nat.zero_le _, Nat.zero_le _⟩ (fun H locs hP hS => ?_)
  refine lv_aload_n hx hb dX5_measureFence_89 rfl (lv_at hl 4 rfl) ?_
  refine va_get (D := D) (ci := 5) (v := .int ((ML r N d ((r 6) n) lev cr).2.2)) (C := RX5) (T := TX5) (N := 25) hx hb hts hin_X5 hown hK hP 0 rfl rfl 21 (by decide) hf102 (fun _ h9 => h9) rfl dX5_measureFence_90 ?_
  refine lv_iload hx hb dX5_measureFence_93 (lv_at hl 1 rfl) ?_
  refine lv_iload hx hb dX5_measureFence_95 (lv_at hl 0 rfl) ?_
  refine lv_isub hx hb dX5_measureFence_97 ?_
  refine kcS (ans := (mx ((ML r N d ((r 6) n) lev cr).2.2) ((tal (stp x_2 lev) lev) - x_4))) C0 hP hS (c_X5_greater l D cI ((ML r N d ((r 6) n) lev cr).2.2) ((tal (stp x_2 lev) lev) - x_4) ) (va_cwS 2 hts gX5_measureFence_X5_greater rfl rfl rfl (by decide +kernel) ⟨by dsimp only [rmL, rmF, rmN, rmA]; omega, by dsimp only [rmL, rmF, rmN, rmA]; omega⟩) rfl hl.1 rfl (Nat.le_of_ble_eq_true rfl) dX5_measureFence_98 ⟨Nat.zero_le _, Nat.zero_le _⟩ (fun H locs hP hS => ?_)
  refine lv_iconst (v := 0) hx hb dX5_measureFence_101 (by decide) ?_
  refine kcS (ans := (mx (mx ((ML r N d ((r 6) n) lev cr).2.2) ((tal (stp x_2 lev) lev) - x_4)) 0)) C0 hP hS (c_X5_greater l D cI (mx ((ML r N d ((r 6) n) lev cr).2.2) ((tal (stp x_2 lev) lev) - x_4)) 0 ) (va_cwS 2 hts gX5_measureFence_X5_greater rfl rfl rfl (by decide +kernel) ⟨by dsimp only [rmL, rmF, rmN, rmA]; omega, by dsimp only [rmL, rmF, rmN, rmA]; omega⟩) rfl hl.1 rfl (Nat.le_of_ble_eq_true rfl) dX5_measureFence_102 ⟨Nat.zero_le _, Nat.zero_le _⟩ (fun H locs hP hS => ?_)
  refine kcDv C0 hP hD hS (c_X5_set l D cI a (vU (vU (vU (vU (vU v 19 ((ML r N d ((r 6) n) lev cr).1)) 20 ((ML r N d ((r 6) n) lev cr).2.1)) 21 ((ML r N d ((r 6) n) lev cr).2.2)) 22 u_1) 23 e_1) (rU (rU r 11 it) 12 z_1) x_3 (mx (mx ((ML r N d ((r 6) n) lev cr).2.1) x_4) 0) (mx (mx ((ML r N d ((r 6) n) lev cr).2.2) ((tal (stp x_2 lev) lev) - x_4)) 0)) (cwV 3 hts gX5_measureFence_X5_set rfl rfl rfl (by decide +kernel) ⟨by dsimp only [rmL, rmF, rmN, rmA]; omega, by dsimp only [rmL, rmF, rmN, rmA]; omega⟩) 0 5 rfl rfl rfl hl.1 rfl (Nat.le_of_ble_eq_true rfl) dX5_measureFence_105 ⟨Nat.zero_le _, Nat.zero_le _⟩ (fun H locs hP hD hS => ?_)
  have hP : va_P D vwCl (wM cI a (vU (vU (vU (vU (vU v 19 x_3) 20 (mx (mx ((ML r N d ((r 6) n) lev cr).2.1) x_4) 0)) 21 (mx (mx ((ML r N d ((r 6) n) lev cr).2.2) ((tal (stp x_2 lev) lev) - x_4)) 0)) 22 u_1) 23 e_1) (rU (rU r 11 it) 12 z_1)) H := hP
  have hD : va_D A (wM cI a (vU (vU (vU (vU (vU v 19 x_3) 20 (mx (mx ((ML r N d ((r 6) n) lev cr).2.1) x_4) 0)) 21 (mx (mx ((ML r N d ((r 6) n) lev cr).2.2) ((tal (stp x_2 lev) lev) - x_4)) 0)) 22 u_1) 23 e_1) (rU (rU r 11 it) 12 z_1)) := hD
  have q19 : x_3 = (mFe (ML r N d) r n lev cr).1 := (pf_X5_measureFence_0 a v r n N d rk lev cr it sz w0 h0 d0 u0 e0 hN hN1 hn hd hr6 u_1 e_1 z_1 x_2 ex_2 x_3 ex_3 x_4 ex_4)
  have q20 : (mx (mx ((ML r N d ((r 6) n) lev cr).2.1) x_4) 0) = (mFe (ML r N d) r n lev cr).2.1 := (pf_X5_measureFence_1 a v r n N d rk lev cr it sz w0 h0 d0 u0 e0 hN hN1 hn hd hr6 u_1 e_1 z_1 x_2 ex_2 x_3 ex_3 x_4 ex_4)
  have q21 : (mx (mx ((ML r N d ((r 6) n) lev cr).2.2) ((tal (stp x_2 lev) lev) - x_4)) 0) = (mFe (ML r N d) r n lev cr).2.2 := (pf_X5_measureFence_2 a v r n N d rk lev cr it sz w0 h0 d0 u0 e0 hN hN1 hn hd hr6 u_1 e_1 z_1 x_2 ex_2 x_3 ex_3 x_4 ex_4)
  have hw : (wM cI a (vU (vU (vU (vU (vU v 19 x_3) 20 (mx (mx ((ML r N d ((r 6) n) lev cr).2.1) x_4) 0)) 21 (mx (mx ((ML r N d ((r 6) n) lev cr).2.2) ((tal (stp x_2 lev) lev) - x_4)) 0)) 22 u_1) 23 e_1) (rU (rU r 11 it) 12 z_1)) = (wM cI a (vU (vU (vU (vU (vU v 19 ((mFe (ML r N d) r n lev cr).1)) 20 ((mFe (ML r N d) r n lev cr).2.1)) 21 ((mFe (ML r N d) r n lev cr).2.2)) 22 u_1) 23 e_1) (rU (rU r 11 it) 12 z_1)) := by rw [q19, q20, q21]
  have hP : va_P D vwCl (wM cI a (vU (vU (vU (vU (vU v 19 ((mFe (ML r N d) r n lev cr).1)) 20 ((mFe (ML r N d) r n lev cr).2.1)) 21 ((mFe (ML r N d) r n lev cr).2.2)) 22 u_1) 23 e_1) (rU (rU r 11 it) 12 z_1)) H := hw ▸ hP
  have hD : va_D A (wM cI a (vU (vU (vU (vU (vU v 19 ((mFe (ML r N d) r n lev cr).1)) 20 ((mFe (ML r N d) r n lev cr).2.1)) 21 ((mFe (ML r N d) r n lev cr).2.2)) 22 u_1) 23 e_1) (rU (rU r 11 it) 12 z_1)) := hw ▸ hD
  exact k_vret C0 (u_1, e_1, z_1) hP hD hS (fun i hi k hk => by show z_1 (16 * i + k) = sz (16 * i + k); rw [hz_1 i (by omega) k hk]) dX5_measureFence_108
