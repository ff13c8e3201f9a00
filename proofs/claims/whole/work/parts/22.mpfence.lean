theorem bz_feS (M : TM) (r : Nat → Nat → Int32) (n : Nat) (lev cr : Int32) : bz (feS M r n lev cr) = feS M r n lev cr := by
  unfold feS
  split <;> rfl
theorem pFe_nn {r : Nat → Nat → Int32} {N d n : Nat} {lev cr X Y : Int32} (h5 : ¬ r 5 n ≤ 0) (h7 : ¬ r 7 n ≤ 0) : (pFe (ML r N d) (PL r N d) r n lev cr X Y) = [mkI 2 X Y (stp (feN (ML r N d) r n lev cr) lev) (dlw (r 5 n) lev) (r 5 n) (nI n) (bz (feS (ML r N d) r n lev cr))] ++ (PL r N d (r 6 n) lev cr (X + dlw (r 5 n) lev) Y) ++ [mkI 2 (X + dlw (r 5 n) lev + (ML r N d (r 6 n) lev cr).1) Y (stp (feN (ML r N d) r n lev cr) lev) (dlw (r 7 n) lev) (r 7 n) (nI n) (bz (feS (ML r N d) r n lev cr))] := by rw [pFe, if_neg h5, if_neg h7, bz_feS]
theorem pFe_np {r : Nat → Nat → Int32} {N d n : Nat} {lev cr X Y : Int32} (h5 : ¬ r 5 n ≤ 0) (h7 : r 7 n ≤ 0) : (pFe (ML r N d) (PL r N d) r n lev cr X Y) = [mkI 2 X Y (stp (feN (ML r N d) r n lev cr) lev) (dlw (r 5 n) lev) (r 5 n) (nI n) (bz (feS (ML r N d) r n lev cr))] ++ (PL r N d (r 6 n) lev cr (X + dlw (r 5 n) lev) Y) := by rw [pFe, if_neg h5, if_pos h7, bz_feS, List.append_nil]
theorem pFe_pn {r : Nat → Nat → Int32} {N d n : Nat} {lev cr X Y : Int32} (h5 : r 5 n ≤ 0) (h7 : ¬ r 7 n ≤ 0) : (pFe (ML r N d) (PL r N d) r n lev cr X Y) = (PL r N d (r 6 n) lev cr (X + dlw (r 5 n) lev) Y) ++ [mkI 2 (X + dlw (r 5 n) lev + (ML r N d (r 6 n) lev cr).1) Y (stp (feN (ML r N d) r n lev cr) lev) (dlw (r 7 n) lev) (r 7 n) (nI n) (bz (feS (ML r N d) r n lev cr))] := by rw [pFe, if_pos h5, if_neg h7, bz_feS, List.nil_append]
theorem pFe_pp {r : Nat → Nat → Int32} {N d n : Nat} {lev cr X Y : Int32} (h5 : r 5 n ≤ 0) (h7 : r 7 n ≤ 0) : (pFe (ML r N d) (PL r N d) r n lev cr X Y) = (PL r N d (r 6 n) lev cr (X + dlw (r 5 n) lev) Y) := by rw [pFe, if_pos h5, if_pos h7, List.nil_append, List.append_nil]

set_option maxHeartbeats 1500000 in
set_option maxRecDepth 100000 in
theorem c_X5_placeFence (l : Launch) (D : va_G) (cI : ClassId) (a : Nat → Nat) (v : Nat → Int32) (r : Nat → Nat → Int32) (n N d : Nat) (rk : Int32 → Nat) (lev cr X Y : Int32) (c : Nat) (it sz : Nat → Int32) (w0 h0 d0 u0 e0 : Int32) (hM : ∀ v2 : Nat → Int32, v2 4 = nI N → HML l D cI a v2 r N rk d) (hPl : HPL l D cI a v r N rk d) (hN : v 4 = nI N) (hN1 : N ≤ 120) (hn : n < N) (hd : rk (r 2 n) ≤ d) (hr6 : rk (r 6 n) < rk (r 2 n)) (hcl : c + (pFe (ML r N d) (PL r N d) r n lev cr X Y).length ≤ 500) : KV l D cI yX5_placeFence wsX5_placeFence (rpF d) [.ref (a 0), .int (nI n), .int lev, .int cr, .int X, .int Y] (wM cI a (vU (vU (vU (vU (vU (vU v 14 (nI c)) 19 w0) 20 h0) 21 d0) 22 u0) 23 e0) (rU (rU r 11 it) 12 sz)) (fun z : Int32 × Int32 × Int32 × Int32 × Int32 × (Nat → Int32) => wM cI a (v6 v (c + (pFe (ML r N d) (PL r N d) r n lev cr X Y).length) z.1 z.2.1 z.2.2.1 z.2.2.2.1 z.2.2.2.2.1) (r2 r (ptI it c (pFe (ML r N d) (PL r N d) r n lev cr X Y)) z.2.2.2.2.2)) (fun z => ∀ i4, rk (r 2 n) < rk (r 2 i4) → ∀ k4, k4 < 16 → z.2.2.2.2.2 (16 * i4 + k4) = sz (16 * i4 + k4)) := by
  refine KV.of (cc := cX5_placeFence) (nL := 11) (ret := none) (by decide) rfl (Nat.le_of_ble_eq_true rfl) ?_
  intro pg9 en9 s m args below meth cd9 A ls C0 hP hD hS hl
  have hx := C0.1.1
  have hb := C0.1.2.1
  have hml := C0.1.2.2.1
  have hown : s.vm.findClass RX5 = some m.cls := C0.1.2.2.2.1
  have hts : ∀ w ∈ wsX5_placeFence, w.before args s = true := C0.1.2.2.2.2
  have hK := C0.2.2.2.1
  have hin_X5 : ∀ w ∈ wsX50, w ∈ wsX5_placeFence := fun w h => List.mem_cons_of_mem _ (List.mem_append_right _ h)
  have hf29 : (Cond.fieldLink RX5 29 "FormulaListsModel" "two" "[I").before args s = true := hts _ (by decide +kernel)
  have hf96 : (Cond.fieldLink RX5 96 "FormulaListsModel" "width" "I").before args s = true := hts _ (by decide +kernel)
  have hf26 : (Cond.fieldLink RX5 26 "FormulaListsModel" "one" "[I").before args s = true := hts _ (by decide +kernel)
  have hf32 : (Cond.fieldLink RX5 32 "FormulaListsModel" "three" "[I").before args s = true := hts _ (by decide +kernel)
  have hl : lv_has ls 11 [(0, .ref (a 0)), (1, .int (nI n)), (2, .int lev), (3, .int cr), (4, .int X), (5, .int Y)] := hl
  have hP : va_P D vwCl (wM cI a (vU (vU (vU (vU (vU (vU v 14 (nI c)) 19 w0) 20 h0) 21 d0) 22 u0) 23 e0) (rU (rU r 11 it) 12 sz)) s.heap := hP
  have hcl2 : c + ((if r 5 n ≤ 0 then [] else [mkI 2 X Y (stp (feN (ML r N d) r n lev cr) lev) (dlw (r 5 n) lev) (r 5 n) (nI n) (feS (ML r N d) r n lev cr)]).length + (PL r N d (r 6 n) lev cr (X + dlw (r 5 n) lev) Y).length + (if r 7 n ≤ 0 then [] else [mkI 2 (X + dlw (r 5 n) lev + (ML r N d (r 6 n) lev cr).1) Y (stp (feN (ML r N d) r n lev cr) lev) (dlw (r 7 n) lev) (r 7 n) (nI n) (feS (ML r N d) r n lev cr)]).length) ≤ 500 := by have h := hcl; rw [pFe, List.length_append, List.length_append] at h; exact h
  refine lv_aload_n hx hb dX5_placeFence_0 rfl (lv_at hl 0 rfl) ?_
  refine lv_aload_n hx hb dX5_placeFence_1 rfl (lv_at hl 0 rfl) ?_
  refine va_get (D := D) (ci := 5) (v := .ref (a 6)) (C := RX5) (T := TX5) (N := 25) hx hb hts hin_X5 hown hK hP 0 rfl rfl 9 (by decide) hf29 (fun _ h9 => h9) rfl dX5_placeFence_2 ?_
  refine lv_iload_n hx hb dX5_placeFence_5 rfl (lv_at hl 1 rfl) ?_
  refine ra_ld (f := (r 6)) C0 hP 6 rfl n rfl (by omega) (by decide) dX5_placeFence_6 ?_
  refine lv_iload_n hx hb dX5_placeFence_7 rfl (lv_at hl 2 rfl) ?_
  refine lv_iload_n hx hb dX5_placeFence_8 rfl (lv_at hl 3 rfl) ?_
  refine kcVv C0 hP hD hS (hM (vU v 14 (nI c)) hN ((r 6) n) lev cr it sz w0 h0 d0 u0 e0 (by omega)) (cwV 3 hts gX5_placeFence_X5_measureList rfl rfl rfl (by decide +kernel) ⟨by dsimp only [rmL, rmF, rmN, rmA, rpL, rpF, rpN, rpA]; omega, by dsimp only [rmL, rmF, rmN, rmA, rpL, rpF, rpN, rpA]; omega⟩) 0 5 rfl rfl rfl hl.1 rfl (Nat.le_of_ble_eq_true rfl) dX5_placeFence_9 ⟨Nat.zero_le _, Nat.zero_le _⟩ (fun u H locs hq hP hD hS => ?_)
  obtain ⟨u_1, e_1, z_1⟩ := u
  have hz_1 : ∀ i4, rk ((r 6) n) < rk (r 2 i4) → ∀ k4, k4 < 16 → z_1 (16 * i4 + k4) = sz (16 * i4 + k4) := hq
  have hP : va_P D vwCl (wM cI a (vU (vU (vU (vU (vU (vU v 14 (nI c)) 19 ((ML r N d ((r 6) n) lev cr).1)) 20 ((ML r N d ((r 6) n) lev cr).2.1)) 21 ((ML r N d ((r 6) n) lev cr).2.2)) 22 u_1) 23 e_1) (rU (rU r 11 it) 12 z_1)) H := hP
  have hD : va_D A (wM cI a (vU (vU (vU (vU (vU (vU v 14 (nI c)) 19 ((ML r N d ((r 6) n) lev cr).1)) 20 ((ML r N d ((r 6) n) lev cr).2.1)) 21 ((ML r N d ((r 6) n) lev cr).2.2)) 22 u_1) 23 e_1) (rU (rU r 11 it) 12 z_1)) := hD
  refine lv_aload_n hx hb dX5_placeFence_12 rfl (lv_at hl 0 rfl) ?_
  refine lv_iload_n hx hb dX5_placeFence_13 rfl (lv_at hl 2 rfl) ?_
  refine kcD (ans := (2 * mx ((vU (vU (vU (vU (vU (vU v 14 (nI c)) 19 ((ML r N d ((r 6) n) lev cr).1)) 20 ((ML r N d ((r 6) n) lev cr).2.1)) 21 ((ML r N d ((r 6) n) lev cr).2.2)) 22 u_1) 23 e_1) 20 - 2 * uni lev) ((vU (vU (vU (vU (vU (vU v 14 (nI c)) 19 ((ML r N d ((r 6) n) lev cr).1)) 20 ((ML r N d ((r 6) n) lev cr).2.1)) 21 ((ML r N d ((r 6) n) lev cr).2.2)) 22 u_1) 23 e_1) 21 + 2 * uni lev))) C0 hP hD hS (c_X5_need l D cI a (vU (vU (vU (vU (vU (vU v 14 (nI c)) 19 ((ML r N d ((r 6) n) lev cr).1)) 20 ((ML r N d ((r 6) n) lev cr).2.1)) 21 ((ML r N d ((r 6) n) lev cr).2.2)) 22 u_1) 23 e_1) (rU (rU r 11 it) 12 z_1) lev ) (cwV 1 hts gX5_placeFence_X5_need rfl rfl rfl (by decide +kernel) ⟨by dsimp only [rmL, rmF, rmN, rmA, rpL, rpF, rpN, rpA]; omega, by dsimp only [rmL, rmF, rmN, rmA, rpL, rpF, rpN, rpA]; omega⟩) 0 5 rfl rfl rfl hl.1 rfl (Nat.le_of_ble_eq_true rfl) dX5_placeFence_14 ⟨Nat.zero_le _, Nat.zero_le _⟩ (fun H locs hP hD hS => ?_)
  refine lv_eqi (show (2 * mx ((vU (vU (vU (vU (vU (vU v 14 (nI c)) 19 ((ML r N d ((r 6) n) lev cr).1)) 20 ((ML r N d ((r 6) n) lev cr).2.1)) 21 ((ML r N d ((r 6) n) lev cr).2.2)) 22 u_1) 23 e_1) 20 - 2 * uni lev) ((vU (vU (vU (vU (vU (vU v 14 (nI c)) 19 ((ML r N d ((r 6) n) lev cr).1)) 20 ((ML r N d ((r 6) n) lev cr).2.1)) 21 ((ML r N d ((r 6) n) lev cr).2.2)) 22 u_1) 23 e_1) 21 + 2 * uni lev)) = feN (ML r N d) r n lev cr from rfl) ?_
  refine lv_istore (lv' := [(6, .int (feN (ML r N d) r n lev cr)), (0, .ref (a 0)), (1, .int (nI n)), (2, .int lev), (3, .int cr), (4, .int X), (5, .int Y)]) hx hb dX5_placeFence_17 hl (by decide) rfl (fun ls hl => ?_)
  refine lv_aload_n hx hb dX5_placeFence_19 rfl (lv_at hl 1 rfl) ?_
  refine va_get (D := D) (ci := 5) (v := .int ((ML r N d ((r 6) n) lev cr).1)) (C := RX5) (T := TX5) (N := 25) hx hb hts hin_X5 hown hK hP 0 rfl rfl 19 (by decide) hf96 (fun _ h9 => h9) rfl dX5_placeFence_20 ?_
  refine lv_istore (lv' := [(7, .int ((ML r N d ((r 6) n) lev cr).1)), (6, .int (feN (ML r N d) r n lev cr)), (0, .ref (a 0)), (1, .int (nI n)), (2, .int lev), (3, .int cr), (4, .int X), (5, .int Y)]) hx hb dX5_placeFence_23 hl (by decide) rfl (fun ls hl => ?_)
  refine lv_iload hx hb dX5_placeFence_25 (lv_at hl 1 rfl) ?_
  refine lv_iload_n hx hb dX5_placeFence_27 rfl (lv_at hl 4 rfl) ?_
  refine kcS (ans := (stp (feN (ML r N d) r n lev cr) lev)) C0 hP hS (c_X5_stepOf l D cI (feN (ML r N d) r n lev cr) lev ) (va_cwS 2 hts gX5_placeFence_X5_stepOf rfl rfl rfl (by decide +kernel) ⟨by dsimp only [rmL, rmF, rmN, rmA, rpL, rpF, rpN, rpA]; omega, by dsimp only [rmL, rmF, rmN, rmA, rpL, rpF, rpN, rpA]; omega⟩) rfl hl.1 rfl (Nat.le_of_ble_eq_true rfl) dX5_placeFence_28 ⟨Nat.zero_le _, Nat.zero_le _⟩ (fun H locs hP hS => ?_)
  refine lv_istore (lv' := [(8, .int (stp (feN (ML r N d) r n lev cr) lev)), (7, .int ((ML r N d ((r 6) n) lev cr).1)), (6, .int (feN (ML r N d) r n lev cr)), (0, .ref (a 0)), (1, .int (nI n)), (2, .int lev), (3, .int cr), (4, .int X), (5, .int Y)]) hx hb dX5_placeFence_31 hl (by decide) rfl (fun ls hl => ?_)
  refine lv_bipush (v := 10) hx hb dX5_placeFence_33 (by decide) ?_
  refine lv_iload hx hb dX5_placeFence_35 (lv_at hl 0 rfl) ?_
  refine lv_iload_n hx hb dX5_placeFence_37 rfl (lv_at hl 5 rfl) ?_
  refine kcS (ans := (tal (stp (feN (ML r N d) r n lev cr) lev) lev)) C0 hP hS (c_X5_tall l D cI (stp (feN (ML r N d) r n lev cr) lev) lev ) (va_cwS 2 hts gX5_placeFence_X5_tall rfl rfl rfl (by decide +kernel) ⟨by dsimp only [rmL, rmF, rmN, rmA, rpL, rpF, rpN, rpA]; omega, by dsimp only [rmL, rmF, rmN, rmA, rpL, rpF, rpN, rpA]; omega⟩) rfl hl.1 rfl (Nat.le_of_ble_eq_true rfl) dX5_placeFence_38 ⟨Nat.zero_le _, Nat.zero_le _⟩ (fun H locs hP hS => ?_)
  refine lv_imul hx hb dX5_placeFence_41 ?_
  refine lv_bipush (v := 9) hx hb dX5_placeFence_42 (by decide) ?_
  refine lv_iload hx hb dX5_placeFence_44 (lv_at hl 2 rfl) ?_
  refine lv_imul hx hb dX5_placeFence_46 ?_
  obtain ⟨x_2, ex_2⟩ : ∃ zz_ : Int32, zz_ = (if (9 * (feN (ML r N d) r n lev cr)) ≤ (10 * (tal (stp (feN (ML r N d) r n lev cr) lev) lev)) then (0 : Int32) else (1 : Int32)) := ⟨_, rfl⟩
  refine jW (D := D) hD hl 55 (wM cI a (vU (vU (vU (vU (vU (vU v 14 (nI c)) 19 ((ML r N d ((r 6) n) lev cr).1)) 20 ((ML r N d ((r 6) n) lev cr).2.1)) 21 ((ML r N d ((r 6) n) lev cr).2.2)) 22 u_1) 23 e_1) (rU (rU r 11 it) 12 z_1)) [(8, .int (stp (feN (ML r N d) r n lev cr) lev)), (7, .int ((ML r N d ((r 6) n) lev cr).1)), (6, .int (feN (ML r N d) r n lev cr)), (0, .ref (a 0)), (1, .int (nI n)), (2, .int lev), (3, .int cr), (4, .int X), (5, .int Y)] [.int x_2] (fun hJ => ?_) (fun H locs ls hP hD hS hl => ?_)
  · skip
    refine lv_icmp_ge (tgt := 54) hx hb dX5_placeFence_47 (by decide) (fun c_47 => ?_) (fun c_47 => ?_)
    · skip
      refine lv_iconst (v := 0) hx hb dX5_placeFence_54 (by decide) ?_
      have gx_2 : x_2 = 0 := by rw [ex_2]; simp only [if_pos c_47]
      simp only [gx_2] at hJ
      exact hJ _ _ _ hP hD hS (lv_sub hl [0, 1, 2, 3, 4, 5, 6, 7, 8] rfl)
    · skip
      refine lv_iconst (v := 1) hx hb dX5_placeFence_50 (by decide) ?_
      refine lv_goto (tgt := 55) hx hb dX5_placeFence_51 (by decide) ?_
      have gx_2 : x_2 = 1 := by rw [ex_2]; simp only [if_neg c_47]
      simp only [gx_2] at hJ
      exact hJ _ _ _ hP hD hS (lv_sub hl [0, 1, 2, 3, 4, 5, 6, 7, 8] rfl)
  · skip
    refine lv_eqi (show x_2 = feS (ML r N d) r n lev cr from ex_2) ?_
    refine lv_istore (lv' := [(9, .int (feS (ML r N d) r n lev cr)), (8, .int (stp (feN (ML r N d) r n lev cr) lev)), (7, .int ((ML r N d ((r 6) n) lev cr).1)), (6, .int (feN (ML r N d) r n lev cr)), (0, .ref (a 0)), (1, .int (nI n)), (2, .int lev), (3, .int cr), (4, .int X), (5, .int Y)]) hx hb dX5_placeFence_55 hl (by decide) rfl (fun ls hl => ?_)
    refine lv_aload_n hx hb dX5_placeFence_57 rfl (lv_at hl 4 rfl) ?_
    refine va_get (D := D) (ci := 5) (v := .ref (a 5)) (C := RX5) (T := TX5) (N := 25) hx hb hts hin_X5 hown hK hP 0 rfl rfl 8 (by decide) hf26 (fun _ h9 => h9) rfl dX5_placeFence_58 ?_
    refine lv_iload_n hx hb dX5_placeFence_61 rfl (lv_at hl 5 rfl) ?_
    refine ra_ld (f := (r 5)) C0 hP 5 rfl n rfl (by omega) (by decide) dX5_placeFence_62 ?_
    refine lv_iload_n hx hb dX5_placeFence_63 rfl (lv_at hl 6 rfl) ?_
    refine kcS (ans := (dlw ((r 5) n) lev)) C0 hP hS (c_X5_delimiterWidth l D cI ((r 5) n) lev ) (va_cwS 2 hts gX5_placeFence_X5_delimiterWidth rfl rfl rfl (by decide +kernel) ⟨by dsimp only [rmL, rmF, rmN, rmA, rpL, rpF, rpN, rpA]; omega, by dsimp only [rmL, rmF, rmN, rmA, rpL, rpF, rpN, rpA]; omega⟩) rfl hl.1 rfl (Nat.le_of_ble_eq_true rfl) dX5_placeFence_64 ⟨Nat.zero_le _, Nat.zero_le _⟩ (fun H locs hP hS => ?_)
    refine lv_istore (lv' := [(10, .int (dlw ((r 5) n) lev)), (9, .int (feS (ML r N d) r n lev cr)), (8, .int (stp (feN (ML r N d) r n lev cr) lev)), (7, .int ((ML r N d ((r 6) n) lev cr).1)), (6, .int (feN (ML r N d) r n lev cr)), (0, .ref (a 0)), (1, .int (nI n)), (2, .int lev), (3, .int cr), (4, .int X), (5, .int Y)]) hx hb dX5_placeFence_67 hl (by decide) rfl (fun ls hl => ?_)
    refine lv_aload_n hx hb dX5_placeFence_69 rfl (lv_at hl 5 rfl) ?_
    refine va_get (D := D) (ci := 5) (v := .ref (a 5)) (C := RX5) (T := TX5) (N := 25) hx hb hts hin_X5 hown hK hP 0 rfl rfl 8 (by decide) hf26 (fun _ h9 => h9) rfl dX5_placeFence_70 ?_
    refine lv_iload_n hx hb dX5_placeFence_73 rfl (lv_at hl 6 rfl) ?_
    refine ra_ld (f := (r 5)) C0 hP 5 rfl n rfl (by omega) (by decide) dX5_placeFence_74 ?_
    refine lv_if_le (tgt := 100) hx hb dX5_placeFence_75 (by decide) (fun c_75 => ?_) (fun c_75 => ?_)
    · skip
      refine lv_aload_n hx hb dX5_placeFence_100 rfl (lv_at hl 5 rfl) ?_
      refine lv_aload_n hx hb dX5_placeFence_101 rfl (lv_at hl 5 rfl) ?_
      refine va_get (D := D) (ci := 5) (v := .ref (a 6)) (C := RX5) (T := TX5) (N := 25) hx hb hts hin_X5 hown hK hP 0 rfl rfl 9 (by decide) hf29 (fun _ h9 => h9) rfl dX5_placeFence_102 ?_
      refine lv_iload_n hx hb dX5_placeFence_105 rfl (lv_at hl 6 rfl) ?_
      refine ra_ld (f := (r 6)) C0 hP 6 rfl n rfl (by omega) (by decide) dX5_placeFence_106 ?_
      refine lv_iload_n hx hb dX5_placeFence_107 rfl (lv_at hl 7 rfl) ?_
      refine lv_iload_n hx hb dX5_placeFence_108 rfl (lv_at hl 8 rfl) ?_
      refine lv_iload hx hb dX5_placeFence_109 (lv_at hl 9 rfl) ?_
      refine lv_iload hx hb dX5_placeFence_111 (lv_at hl 0 rfl) ?_
      refine lv_iadd hx hb dX5_placeFence_113 ?_
      refine lv_iload hx hb dX5_placeFence_114 (lv_at hl 10 rfl) ?_
      refine kcVv C0 hP hD hS (hPl ((r 6) n) lev cr (X + (dlw ((r 5) n) lev)) Y c it z_1 ((ML r N d ((r 6) n) lev cr).1) ((ML r N d ((r 6) n) lev cr).2.1) ((ML r N d ((r 6) n) lev cr).2.2) u_1 e_1 (by omega) (by first | (rw [if_neg c_75, List.length_singleton] at hcl2; omega) | (rw [if_pos c_75, List.length_nil] at hcl2; omega))) (cwV 5 hts gX5_placeFence_X5_placeList rfl rfl rfl (by decide +kernel) ⟨by dsimp only [rmL, rmF, rmN, rmA, rpL, rpF, rpN, rpA]; omega, by dsimp only [rmL, rmF, rmN, rmA, rpL, rpF, rpN, rpA]; omega⟩) 0 5 rfl rfl rfl hl.1 rfl (Nat.le_of_ble_eq_true rfl) dX5_placeFence_116 ⟨Nat.zero_le _, Nat.zero_le _⟩ (fun u H locs hq hP hD hS => ?_)
      obtain ⟨w_3, h_3, d_3, u_3, e_3, z_3⟩ := u
      have hz_3 : ∀ i4, rk ((r 6) n) < rk (r 2 i4) → ∀ k4, k4 < 16 → z_3 (16 * i4 + k4) = z_1 (16 * i4 + k4) := hq
      have hP : va_P D vwCl (wM cI a (vU (vU (vU (vU (vU (vU v 14 (nI (c + (PL r N d ((r 6) n) lev cr (X + (dlw ((r 5) n) lev)) Y).length))) 19 w_3) 20 h_3) 21 d_3) 22 u_3) 23 e_3) (rU (rU r 11 (ptI it c (PL r N d ((r 6) n) lev cr (X + (dlw ((r 5) n) lev)) Y))) 12 z_3)) H := hP
      have hD : va_D A (wM cI a (vU (vU (vU (vU (vU (vU v 14 (nI (c + (PL r N d ((r 6) n) lev cr (X + (dlw ((r 5) n) lev)) Y).length))) 19 w_3) 20 h_3) 21 d_3) 22 u_3) 23 e_3) (rU (rU r 11 (ptI it c (PL r N d ((r 6) n) lev cr (X + (dlw ((r 5) n) lev)) Y))) 12 z_3)) := hD
      refine lv_aload_n hx hb dX5_placeFence_119 rfl (lv_at hl 5 rfl) ?_
      refine va_get (D := D) (ci := 5) (v := .ref (a 7)) (C := RX5) (T := TX5) (N := 25) hx hb hts hin_X5 hown hK hP 0 rfl rfl 10 (by decide) hf32 (fun _ h9 => h9) rfl dX5_placeFence_120 ?_
      refine lv_iload_n hx hb dX5_placeFence_123 rfl (lv_at hl 6 rfl) ?_
      refine ra_ld (f := (r 7)) C0 hP 7 rfl n rfl (by omega) (by decide) dX5_placeFence_124 ?_
      refine lv_if_le (tgt := 164) hx hb dX5_placeFence_125 (by decide) (fun c_125 => ?_) (fun c_125 => ?_)
      · skip
        have hL := pFe_pp (r := r) (N := N) (d := d) (n := n) (lev := lev) (cr := cr) (X := X) (Y := Y) c_75 c_125
        have q14 : (nI (c + (PL r N d ((r 6) n) lev cr (X + (dlw ((r 5) n) lev)) Y).length)) = (nI (c + (pFe (ML r N d) (PL r N d) r n lev cr X Y).length)) := (by rw [hL])
        have q11 : (ptI it c (PL r N d ((r 6) n) lev cr (X + (dlw ((r 5) n) lev)) Y)) = (ptI it c (pFe (ML r N d) (PL r N d) r n lev cr X Y)) := (by rw [hL])
        have hw : (wM cI a (vU (vU (vU (vU (vU (vU v 14 (nI (c + (PL r N d ((r 6) n) lev cr (X + (dlw ((r 5) n) lev)) Y).length))) 19 w_3) 20 h_3) 21 d_3) 22 u_3) 23 e_3) (rU (rU r 11 (ptI it c (PL r N d ((r 6) n) lev cr (X + (dlw ((r 5) n) lev)) Y))) 12 z_3)) = (wM cI a (vU (vU (vU (vU (vU (vU v 14 (nI (c + (pFe (ML r N d) (PL r N d) r n lev cr X Y).length))) 19 w_3) 20 h_3) 21 d_3) 22 u_3) 23 e_3) (rU (rU r 11 (ptI it c (pFe (ML r N d) (PL r N d) r n lev cr X Y))) 12 z_3)) := by rw [q14, q11]
        have hP : va_P D vwCl (wM cI a (vU (vU (vU (vU (vU (vU v 14 (nI (c + (pFe (ML r N d) (PL r N d) r n lev cr X Y).length))) 19 w_3) 20 h_3) 21 d_3) 22 u_3) 23 e_3) (rU (rU r 11 (ptI it c (pFe (ML r N d) (PL r N d) r n lev cr X Y))) 12 z_3)) H := hw ▸ hP
        have hD : va_D A (wM cI a (vU (vU (vU (vU (vU (vU v 14 (nI (c + (pFe (ML r N d) (PL r N d) r n lev cr X Y).length))) 19 w_3) 20 h_3) 21 d_3) 22 u_3) 23 e_3) (rU (rU r 11 (ptI it c (pFe (ML r N d) (PL r N d) r n lev cr X Y))) 12 z_3)) := hw ▸ hD
        exact k_vret C0 (w_3, h_3, d_3, u_3, e_3, z_3) hP hD hS (fun i4 hi k4 hk => by show z_3 (16 * i4 + k4) = sz (16 * i4 + k4); rw [hz_3 i4 (by omega) k4 hk, hz_1 i4 (by omega) k4 hk]) dX5_placeFence_164
      · skip
        refine lv_aload_n hx hb dX5_placeFence_128 rfl (lv_at hl 5 rfl) ?_
        refine lv_iconst (v := 2) hx hb dX5_placeFence_129 (by decide) ?_
        refine lv_iload hx hb dX5_placeFence_130 (lv_at hl 9 rfl) ?_
        refine lv_iload hx hb dX5_placeFence_132 (lv_at hl 0 rfl) ?_
        refine lv_iadd hx hb dX5_placeFence_134 ?_
        refine lv_iload hx hb dX5_placeFence_135 (lv_at hl 3 rfl) ?_
        refine lv_iadd hx hb dX5_placeFence_137 ?_
        refine lv_iload hx hb dX5_placeFence_138 (lv_at hl 10 rfl) ?_
        refine lv_iload hx hb dX5_placeFence_140 (lv_at hl 2 rfl) ?_
        refine lv_aload_n hx hb dX5_placeFence_142 rfl (lv_at hl 5 rfl) ?_
        refine va_get (D := D) (ci := 5) (v := .ref (a 7)) (C := RX5) (T := TX5) (N := 25) hx hb hts hin_X5 hown hK hP 0 rfl rfl 10 (by decide) hf32 (fun _ h9 => h9) rfl dX5_placeFence_143 ?_
        refine lv_iload_n hx hb dX5_placeFence_146 rfl (lv_at hl 6 rfl) ?_
        refine ra_ld (f := (r 7)) C0 hP 7 rfl n rfl (by omega) (by decide) dX5_placeFence_147 ?_
        refine lv_iload_n hx hb dX5_placeFence_148 rfl (lv_at hl 7 rfl) ?_
        refine kcS (ans := (dlw ((r 7) n) lev)) C0 hP hS (c_X5_delimiterWidth l D cI ((r 7) n) lev ) (va_cwS 2 hts gX5_placeFence_X5_delimiterWidth rfl rfl rfl (by decide +kernel) ⟨by dsimp only [rmL, rmF, rmN, rmA, rpL, rpF, rpN, rpA]; omega, by dsimp only [rmL, rmF, rmN, rmA, rpL, rpF, rpN, rpA]; omega⟩) rfl hl.1 rfl (Nat.le_of_ble_eq_true rfl) dX5_placeFence_149 ⟨Nat.zero_le _, Nat.zero_le _⟩ (fun H locs hP hS => ?_)
        refine lv_aload_n hx hb dX5_placeFence_152 rfl (lv_at hl 5 rfl) ?_
        refine va_get (D := D) (ci := 5) (v := .ref (a 7)) (C := RX5) (T := TX5) (N := 25) hx hb hts hin_X5 hown hK hP 0 rfl rfl 10 (by decide) hf32 (fun _ h9 => h9) rfl dX5_placeFence_153 ?_
        refine lv_iload_n hx hb dX5_placeFence_156 rfl (lv_at hl 6 rfl) ?_
        refine ra_ld (f := (r 7)) C0 hP 7 rfl n rfl (by omega) (by decide) dX5_placeFence_157 ?_
        refine lv_iload_n hx hb dX5_placeFence_158 rfl (lv_at hl 6 rfl) ?_
        refine lv_iload hx hb dX5_placeFence_159 (lv_at hl 1 rfl) ?_
        refine kcDv C0 hP hD hS (c_X5_put l D cI a (vU (vU (vU (vU (vU (vU v 14 (nI (c + (PL r N d ((r 6) n) lev cr (X + (dlw ((r 5) n) lev)) Y).length))) 19 w_3) 20 h_3) 21 d_3) 22 u_3) 23 e_3) (rU (rU r 11 (ptI it c (PL r N d ((r 6) n) lev cr (X + (dlw ((r 5) n) lev)) Y))) 12 z_3) 2 ((X + (dlw ((r 5) n) lev)) + (ML r N d ((r 6) n) lev cr).1) Y (stp (feN (ML r N d) r n lev cr) lev) (dlw ((r 7) n) lev) ((r 7) n) (nI n) (feS (ML r N d) r n lev cr) (c + (PL r N d ((r 6) n) lev cr (X + (dlw ((r 5) n) lev)) Y).length) rfl (by first | (rw [if_neg c_75, List.length_singleton] at hcl2; have q : c + (1 + (PL r N d (r 6 n) lev cr (X + dlw (r 5 n) lev) Y).length) ≤ 500 := (by omega); first | omega | (rw [if_neg c_125, List.length_singleton] at hcl2; omega)) | (rw [if_pos c_75, List.length_nil, if_neg c_125, List.length_singleton] at hcl2; omega))) (cwV 8 hts gX5_placeFence_X5_put rfl rfl rfl (by decide +kernel) ⟨by dsimp only [rmL, rmF, rmN, rmA, rpL, rpF, rpN, rpA]; omega, by dsimp only [rmL, rmF, rmN, rmA, rpL, rpF, rpN, rpA]; omega⟩) 0 5 rfl rfl rfl hl.1 rfl (Nat.le_of_ble_eq_true rfl) dX5_placeFence_161 ⟨Nat.zero_le _, Nat.zero_le _⟩ (fun H locs hP hD hS => ?_)
        have hP : va_P D vwCl (wM cI a (vU (vU (vU (vU (vU (vU v 14 (nI ((c + (PL r N d ((r 6) n) lev cr (X + (dlw ((r 5) n) lev)) Y).length) + 1))) 19 w_3) 20 h_3) 21 d_3) 22 u_3) 23 e_3) (rU (rU r 11 (ptI (ptI it c (PL r N d ((r 6) n) lev cr (X + (dlw ((r 5) n) lev)) Y)) (c + (PL r N d ((r 6) n) lev cr (X + (dlw ((r 5) n) lev)) Y).length) [mkI 2 ((X + (dlw ((r 5) n) lev)) + (ML r N d ((r 6) n) lev cr).1) Y (stp (feN (ML r N d) r n lev cr) lev) (dlw ((r 7) n) lev) ((r 7) n) (nI n) (bz (feS (ML r N d) r n lev cr))])) 12 z_3)) H := hP
        have hD : va_D A (wM cI a (vU (vU (vU (vU (vU (vU v 14 (nI ((c + (PL r N d ((r 6) n) lev cr (X + (dlw ((r 5) n) lev)) Y).length) + 1))) 19 w_3) 20 h_3) 21 d_3) 22 u_3) 23 e_3) (rU (rU r 11 (ptI (ptI it c (PL r N d ((r 6) n) lev cr (X + (dlw ((r 5) n) lev)) Y)) (c + (PL r N d ((r 6) n) lev cr (X + (dlw ((r 5) n) lev)) Y).length) [mkI 2 ((X + (dlw ((r 5) n) lev)) + (ML r N d ((r 6) n) lev cr).1) Y (stp (feN (ML r N d) r n lev cr) lev) (dlw ((r 7) n) lev) ((r 7) n) (nI n) (bz (feS (ML r N d) r n lev cr))])) 12 z_3)) := hD
        have hL := pFe_pn (r := r) (N := N) (d := d) (n := n) (lev := lev) (cr := cr) (X := X) (Y := Y) c_75 c_125
        have q14 : (nI ((c + (PL r N d ((r 6) n) lev cr (X + (dlw ((r 5) n) lev)) Y).length) + 1)) = (nI (c + (pFe (ML r N d) (PL r N d) r n lev cr X Y).length)) := (congrArg nI (pt2 (it := it) hL).2)
        have q11 : (ptI (ptI it c (PL r N d ((r 6) n) lev cr (X + (dlw ((r 5) n) lev)) Y)) (c + (PL r N d ((r 6) n) lev cr (X + (dlw ((r 5) n) lev)) Y).length) [mkI 2 ((X + (dlw ((r 5) n) lev)) + (ML r N d ((r 6) n) lev cr).1) Y (stp (feN (ML r N d) r n lev cr) lev) (dlw ((r 7) n) lev) ((r 7) n) (nI n) (bz (feS (ML r N d) r n lev cr))]) = (ptI it c (pFe (ML r N d) (PL r N d) r n lev cr X Y)) := ((pt2 hL).1)
        have hw : (wM cI a (vU (vU (vU (vU (vU (vU v 14 (nI ((c + (PL r N d ((r 6) n) lev cr (X + (dlw ((r 5) n) lev)) Y).length) + 1))) 19 w_3) 20 h_3) 21 d_3) 22 u_3) 23 e_3) (rU (rU r 11 (ptI (ptI it c (PL r N d ((r 6) n) lev cr (X + (dlw ((r 5) n) lev)) Y)) (c + (PL r N d ((r 6) n) lev cr (X + (dlw ((r 5) n) lev)) Y).length) [mkI 2 ((X + (dlw ((r 5) n) lev)) + (ML r N d ((r 6) n) lev cr).1) Y (stp (feN (ML r N d) r n lev cr) lev) (dlw ((r 7) n) lev) ((r 7) n) (nI n) (bz (feS (ML r N d) r n lev cr))])) 12 z_3)) = (wM cI a (vU (vU (vU (vU (vU (vU v 14 (nI (c + (pFe (ML r N d) (PL r N d) r n lev cr X Y).length))) 19 w_3) 20 h_3) 21 d_3) 22 u_3) 23 e_3) (rU (rU r 11 (ptI it c (pFe (ML r N d) (PL r N d) r n lev cr X Y))) 12 z_3)) := by rw [q14, q11]
        have hP : va_P D vwCl (wM cI a (vU (vU (vU (vU (vU (vU v 14 (nI (c + (pFe (ML r N d) (PL r N d) r n lev cr X Y).length))) 19 w_3) 20 h_3) 21 d_3) 22 u_3) 23 e_3) (rU (rU r 11 (ptI it c (pFe (ML r N d) (PL r N d) r n lev cr X Y))) 12 z_3)) H := hw ▸ hP
        have hD : va_D A (wM cI a (vU (vU (vU (vU (vU (vU v 14 (nI (c + (pFe (ML r N d) (PL r N d) r n lev cr X Y).length))) 19 w_3) 20 h_3) 21 d_3) 22 u_3) 23 e_3) (rU (rU r 11 (ptI it c (pFe (ML r N d) (PL r N d) r n lev cr X Y))) 12 z_3)) := hw ▸ hD
        exact k_vret C0 (w_3, h_3, d_3, u_3, e_3, z_3) hP hD hS (fun i4 hi k4 hk => by show z_3 (16 * i4 + k4) = sz (16 * i4 + k4); rw [hz_3 i4 (by omega) k4 hk, hz_1 i4 (by omega) k4 hk]) dX5_placeFence_164
    · skip
      refine lv_aload_n hx hb dX5_placeFence_78 rfl (lv_at hl 5 rfl) ?_
      refine lv_iconst (v := 2) hx hb dX5_placeFence_79 (by decide) ?_
      refine lv_iload hx hb dX5_placeFence_80 (lv_at hl 9 rfl) ?_
      refine lv_iload hx hb dX5_placeFence_82 (lv_at hl 10 rfl) ?_
      refine lv_iload hx hb dX5_placeFence_84 (lv_at hl 2 rfl) ?_
      refine lv_iload hx hb dX5_placeFence_86 (lv_at hl 0 rfl) ?_
      refine lv_aload_n hx hb dX5_placeFence_88 rfl (lv_at hl 5 rfl) ?_
      refine va_get (D := D) (ci := 5) (v := .ref (a 5)) (C := RX5) (T := TX5) (N := 25) hx hb hts hin_X5 hown hK hP 0 rfl rfl 8 (by decide) hf26 (fun _ h9 => h9) rfl dX5_placeFence_89 ?_
      refine lv_iload_n hx hb dX5_placeFence_92 rfl (lv_at hl 6 rfl) ?_
      refine ra_ld (f := (r 5)) C0 hP 5 rfl n rfl (by omega) (by decide) dX5_placeFence_93 ?_
      refine lv_iload_n hx hb dX5_placeFence_94 rfl (lv_at hl 6 rfl) ?_
      refine lv_iload hx hb dX5_placeFence_95 (lv_at hl 1 rfl) ?_
      refine kcDv C0 hP hD hS (c_X5_put l D cI a (vU (vU (vU (vU (vU (vU v 14 (nI c)) 19 ((ML r N d ((r 6) n) lev cr).1)) 20 ((ML r N d ((r 6) n) lev cr).2.1)) 21 ((ML r N d ((r 6) n) lev cr).2.2)) 22 u_1) 23 e_1) (rU (rU r 11 it) 12 z_1) 2 X Y (stp (feN (ML r N d) r n lev cr) lev) (dlw ((r 5) n) lev) ((r 5) n) (nI n) (feS (ML r N d) r n lev cr) c rfl (by first | (rw [if_neg c_75, List.length_singleton] at hcl2; have q : c + (1 + (PL r N d (r 6 n) lev cr (X + dlw (r 5 n) lev) Y).length) ≤ 500 := (by omega); first | omega | (rw [if_neg c_125, List.length_singleton] at hcl2; omega)) | (rw [if_pos c_75, List.length_nil, if_neg c_125, List.length_singleton] at hcl2; omega))) (cwV 8 hts gX5_placeFence_X5_put rfl rfl rfl (by decide +kernel) ⟨by dsimp only [rmL, rmF, rmN, rmA, rpL, rpF, rpN, rpA]; omega, by dsimp only [rmL, rmF, rmN, rmA, rpL, rpF, rpN, rpA]; omega⟩) 0 5 rfl rfl rfl hl.1 rfl (Nat.le_of_ble_eq_true rfl) dX5_placeFence_97 ⟨Nat.zero_le _, Nat.zero_le _⟩ (fun H locs hP hD hS => ?_)
      have hP : va_P D vwCl (wM cI a (vU (vU (vU (vU (vU (vU v 14 (nI (c + 1))) 19 ((ML r N d ((r 6) n) lev cr).1)) 20 ((ML r N d ((r 6) n) lev cr).2.1)) 21 ((ML r N d ((r 6) n) lev cr).2.2)) 22 u_1) 23 e_1) (rU (rU r 11 (ptI it c [mkI 2 X Y (stp (feN (ML r N d) r n lev cr) lev) (dlw ((r 5) n) lev) ((r 5) n) (nI n) (bz (feS (ML r N d) r n lev cr))])) 12 z_1)) H := hP
      have hD : va_D A (wM cI a (vU (vU (vU (vU (vU (vU v 14 (nI (c + 1))) 19 ((ML r N d ((r 6) n) lev cr).1)) 20 ((ML r N d ((r 6) n) lev cr).2.1)) 21 ((ML r N d ((r 6) n) lev cr).2.2)) 22 u_1) 23 e_1) (rU (rU r 11 (ptI it c [mkI 2 X Y (stp (feN (ML r N d) r n lev cr) lev) (dlw ((r 5) n) lev) ((r 5) n) (nI n) (bz (feS (ML r N d) r n lev cr))])) 12 z_1)) := hD
      refine lv_aload_n hx hb dX5_placeFence_100 rfl (lv_at hl 5 rfl) ?_
      refine lv_aload_n hx hb dX5_placeFence_101 rfl (lv_at hl 5 rfl) ?_
      refine va_get (D := D) (ci := 5) (v := .ref (a 6)) (C := RX5) (T := TX5) (N := 25) hx hb hts hin_X5 hown hK hP 0 rfl rfl 9 (by decide) hf29 (fun _ h9 => h9) rfl dX5_placeFence_102 ?_
      refine lv_iload_n hx hb dX5_placeFence_105 rfl (lv_at hl 6 rfl) ?_
      refine ra_ld (f := (r 6)) C0 hP 6 rfl n rfl (by omega) (by decide) dX5_placeFence_106 ?_
      refine lv_iload_n hx hb dX5_placeFence_107 rfl (lv_at hl 7 rfl) ?_
      refine lv_iload_n hx hb dX5_placeFence_108 rfl (lv_at hl 8 rfl) ?_
      refine lv_iload hx hb dX5_placeFence_109 (lv_at hl 9 rfl) ?_
      refine lv_iload hx hb dX5_placeFence_111 (lv_at hl 0 rfl) ?_
      refine lv_iadd hx hb dX5_placeFence_113 ?_
      refine lv_iload hx hb dX5_placeFence_114 (lv_at hl 10 rfl) ?_
      refine kcVv C0 hP hD hS (hPl ((r 6) n) lev cr (X + (dlw ((r 5) n) lev)) Y (c + 1) (ptI it c [mkI 2 X Y (stp (feN (ML r N d) r n lev cr) lev) (dlw ((r 5) n) lev) ((r 5) n) (nI n) (bz (feS (ML r N d) r n lev cr))]) z_1 ((ML r N d ((r 6) n) lev cr).1) ((ML r N d ((r 6) n) lev cr).2.1) ((ML r N d ((r 6) n) lev cr).2.2) u_1 e_1 (by omega) (by first | (rw [if_neg c_75, List.length_singleton] at hcl2; omega) | (rw [if_pos c_75, List.length_nil] at hcl2; omega))) (cwV 5 hts gX5_placeFence_X5_placeList rfl rfl rfl (by decide +kernel) ⟨by dsimp only [rmL, rmF, rmN, rmA, rpL, rpF, rpN, rpA]; omega, by dsimp only [rmL, rmF, rmN, rmA, rpL, rpF, rpN, rpA]; omega⟩) 0 5 rfl rfl rfl hl.1 rfl (Nat.le_of_ble_eq_true rfl) dX5_placeFence_116 ⟨Nat.zero_le _, Nat.zero_le _⟩ (fun u H locs hq hP hD hS => ?_)
      obtain ⟨w_4, h_4, d_4, u_4, e_4, z_4⟩ := u
      have hz_4 : ∀ i4, rk ((r 6) n) < rk (r 2 i4) → ∀ k4, k4 < 16 → z_4 (16 * i4 + k4) = z_1 (16 * i4 + k4) := hq
      have hP : va_P D vwCl (wM cI a (vU (vU (vU (vU (vU (vU v 14 (nI ((c + 1) + (PL r N d ((r 6) n) lev cr (X + (dlw ((r 5) n) lev)) Y).length))) 19 w_4) 20 h_4) 21 d_4) 22 u_4) 23 e_4) (rU (rU r 11 (ptI (ptI it c [mkI 2 X Y (stp (feN (ML r N d) r n lev cr) lev) (dlw ((r 5) n) lev) ((r 5) n) (nI n) (bz (feS (ML r N d) r n lev cr))]) (c + 1) (PL r N d ((r 6) n) lev cr (X + (dlw ((r 5) n) lev)) Y))) 12 z_4)) H := hP
      have hD : va_D A (wM cI a (vU (vU (vU (vU (vU (vU v 14 (nI ((c + 1) + (PL r N d ((r 6) n) lev cr (X + (dlw ((r 5) n) lev)) Y).length))) 19 w_4) 20 h_4) 21 d_4) 22 u_4) 23 e_4) (rU (rU r 11 (ptI (ptI it c [mkI 2 X Y (stp (feN (ML r N d) r n lev cr) lev) (dlw ((r 5) n) lev) ((r 5) n) (nI n) (bz (feS (ML r N d) r n lev cr))]) (c + 1) (PL r N d ((r 6) n) lev cr (X + (dlw ((r 5) n) lev)) Y))) 12 z_4)) := hD
      refine lv_aload_n hx hb dX5_placeFence_119 rfl (lv_at hl 5 rfl) ?_
      refine va_get (D := D) (ci := 5) (v := .ref (a 7)) (C := RX5) (T := TX5) (N := 25) hx hb hts hin_X5 hown hK hP 0 rfl rfl 10 (by decide) hf32 (fun _ h9 => h9) rfl dX5_placeFence_120 ?_
      refine lv_iload_n hx hb dX5_placeFence_123 rfl (lv_at hl 6 rfl) ?_
      refine ra_ld (f := (r 7)) C0 hP 7 rfl n rfl (by omega) (by decide) dX5_placeFence_124 ?_
      refine lv_if_le (tgt := 164) hx hb dX5_placeFence_125 (by decide) (fun c_125 => ?_) (fun c_125 => ?_)
      · skip
        have hL := pFe_np (r := r) (N := N) (d := d) (n := n) (lev := lev) (cr := cr) (X := X) (Y := Y) c_75 c_125
        have q14 : (nI ((c + 1) + (PL r N d ((r 6) n) lev cr (X + (dlw ((r 5) n) lev)) Y).length)) = (nI (c + (pFe (ML r N d) (PL r N d) r n lev cr X Y).length)) := (congrArg nI (pt2 (it := it) hL).2)
        have q11 : (ptI (ptI it c [mkI 2 X Y (stp (feN (ML r N d) r n lev cr) lev) (dlw ((r 5) n) lev) ((r 5) n) (nI n) (bz (feS (ML r N d) r n lev cr))]) (c + 1) (PL r N d ((r 6) n) lev cr (X + (dlw ((r 5) n) lev)) Y)) = (ptI it c (pFe (ML r N d) (PL r N d) r n lev cr X Y)) := ((pt2 hL).1)
        have hw : (wM cI a (vU (vU (vU (vU (vU (vU v 14 (nI ((c + 1) + (PL r N d ((r 6) n) lev cr (X + (dlw ((r 5) n) lev)) Y).length))) 19 w_4) 20 h_4) 21 d_4) 22 u_4) 23 e_4) (rU (rU r 11 (ptI (ptI it c [mkI 2 X Y (stp (feN (ML r N d) r n lev cr) lev) (dlw ((r 5) n) lev) ((r 5) n) (nI n) (bz (feS (ML r N d) r n lev cr))]) (c + 1) (PL r N d ((r 6) n) lev cr (X + (dlw ((r 5) n) lev)) Y))) 12 z_4)) = (wM cI a (vU (vU (vU (vU (vU (vU v 14 (nI (c + (pFe (ML r N d) (PL r N d) r n lev cr X Y).length))) 19 w_4) 20 h_4) 21 d_4) 22 u_4) 23 e_4) (rU (rU r 11 (ptI it c (pFe (ML r N d) (PL r N d) r n lev cr X Y))) 12 z_4)) := by rw [q14, q11]
        have hP : va_P D vwCl (wM cI a (vU (vU (vU (vU (vU (vU v 14 (nI (c + (pFe (ML r N d) (PL r N d) r n lev cr X Y).length))) 19 w_4) 20 h_4) 21 d_4) 22 u_4) 23 e_4) (rU (rU r 11 (ptI it c (pFe (ML r N d) (PL r N d) r n lev cr X Y))) 12 z_4)) H := hw ▸ hP
        have hD : va_D A (wM cI a (vU (vU (vU (vU (vU (vU v 14 (nI (c + (pFe (ML r N d) (PL r N d) r n lev cr X Y).length))) 19 w_4) 20 h_4) 21 d_4) 22 u_4) 23 e_4) (rU (rU r 11 (ptI it c (pFe (ML r N d) (PL r N d) r n lev cr X Y))) 12 z_4)) := hw ▸ hD
        exact k_vret C0 (w_4, h_4, d_4, u_4, e_4, z_4) hP hD hS (fun i4 hi k4 hk => by show z_4 (16 * i4 + k4) = sz (16 * i4 + k4); rw [hz_4 i4 (by omega) k4 hk, hz_1 i4 (by omega) k4 hk]) dX5_placeFence_164
      · skip
        refine lv_aload_n hx hb dX5_placeFence_128 rfl (lv_at hl 5 rfl) ?_
        refine lv_iconst (v := 2) hx hb dX5_placeFence_129 (by decide) ?_
        refine lv_iload hx hb dX5_placeFence_130 (lv_at hl 9 rfl) ?_
        refine lv_iload hx hb dX5_placeFence_132 (lv_at hl 0 rfl) ?_
        refine lv_iadd hx hb dX5_placeFence_134 ?_
        refine lv_iload hx hb dX5_placeFence_135 (lv_at hl 3 rfl) ?_
        refine lv_iadd hx hb dX5_placeFence_137 ?_
        refine lv_iload hx hb dX5_placeFence_138 (lv_at hl 10 rfl) ?_
        refine lv_iload hx hb dX5_placeFence_140 (lv_at hl 2 rfl) ?_
        refine lv_aload_n hx hb dX5_placeFence_142 rfl (lv_at hl 5 rfl) ?_
        refine va_get (D := D) (ci := 5) (v := .ref (a 7)) (C := RX5) (T := TX5) (N := 25) hx hb hts hin_X5 hown hK hP 0 rfl rfl 10 (by decide) hf32 (fun _ h9 => h9) rfl dX5_placeFence_143 ?_
        refine lv_iload_n hx hb dX5_placeFence_146 rfl (lv_at hl 6 rfl) ?_
        refine ra_ld (f := (r 7)) C0 hP 7 rfl n rfl (by omega) (by decide) dX5_placeFence_147 ?_
        refine lv_iload_n hx hb dX5_placeFence_148 rfl (lv_at hl 7 rfl) ?_
        refine kcS (ans := (dlw ((r 7) n) lev)) C0 hP hS (c_X5_delimiterWidth l D cI ((r 7) n) lev ) (va_cwS 2 hts gX5_placeFence_X5_delimiterWidth rfl rfl rfl (by decide +kernel) ⟨by dsimp only [rmL, rmF, rmN, rmA, rpL, rpF, rpN, rpA]; omega, by dsimp only [rmL, rmF, rmN, rmA, rpL, rpF, rpN, rpA]; omega⟩) rfl hl.1 rfl (Nat.le_of_ble_eq_true rfl) dX5_placeFence_149 ⟨Nat.zero_le _, Nat.zero_le _⟩ (fun H locs hP hS => ?_)
        refine lv_aload_n hx hb dX5_placeFence_152 rfl (lv_at hl 5 rfl) ?_
        refine va_get (D := D) (ci := 5) (v := .ref (a 7)) (C := RX5) (T := TX5) (N := 25) hx hb hts hin_X5 hown hK hP 0 rfl rfl 10 (by decide) hf32 (fun _ h9 => h9) rfl dX5_placeFence_153 ?_
        refine lv_iload_n hx hb dX5_placeFence_156 rfl (lv_at hl 6 rfl) ?_
        refine ra_ld (f := (r 7)) C0 hP 7 rfl n rfl (by omega) (by decide) dX5_placeFence_157 ?_
        refine lv_iload_n hx hb dX5_placeFence_158 rfl (lv_at hl 6 rfl) ?_
        refine lv_iload hx hb dX5_placeFence_159 (lv_at hl 1 rfl) ?_
        refine kcDv C0 hP hD hS (c_X5_put l D cI a (vU (vU (vU (vU (vU (vU v 14 (nI ((c + 1) + (PL r N d ((r 6) n) lev cr (X + (dlw ((r 5) n) lev)) Y).length))) 19 w_4) 20 h_4) 21 d_4) 22 u_4) 23 e_4) (rU (rU r 11 (ptI (ptI it c [mkI 2 X Y (stp (feN (ML r N d) r n lev cr) lev) (dlw ((r 5) n) lev) ((r 5) n) (nI n) (bz (feS (ML r N d) r n lev cr))]) (c + 1) (PL r N d ((r 6) n) lev cr (X + (dlw ((r 5) n) lev)) Y))) 12 z_4) 2 ((X + (dlw ((r 5) n) lev)) + (ML r N d ((r 6) n) lev cr).1) Y (stp (feN (ML r N d) r n lev cr) lev) (dlw ((r 7) n) lev) ((r 7) n) (nI n) (feS (ML r N d) r n lev cr) ((c + 1) + (PL r N d ((r 6) n) lev cr (X + (dlw ((r 5) n) lev)) Y).length) rfl (by first | (rw [if_neg c_75, List.length_singleton] at hcl2; have q : c + (1 + (PL r N d (r 6 n) lev cr (X + dlw (r 5 n) lev) Y).length) ≤ 500 := (by omega); first | omega | (rw [if_neg c_125, List.length_singleton] at hcl2; omega)) | (rw [if_pos c_75, List.length_nil, if_neg c_125, List.length_singleton] at hcl2; omega))) (cwV 8 hts gX5_placeFence_X5_put rfl rfl rfl (by decide +kernel) ⟨by dsimp only [rmL, rmF, rmN, rmA, rpL, rpF, rpN, rpA]; omega, by dsimp only [rmL, rmF, rmN, rmA, rpL, rpF, rpN, rpA]; omega⟩) 0 5 rfl rfl rfl hl.1 rfl (Nat.le_of_ble_eq_true rfl) dX5_placeFence_161 ⟨Nat.zero_le _, Nat.zero_le _⟩ (fun H locs hP hD hS => ?_)
        have hP : va_P D vwCl (wM cI a (vU (vU (vU (vU (vU (vU v 14 (nI (((c + 1) + (PL r N d ((r 6) n) lev cr (X + (dlw ((r 5) n) lev)) Y).length) + 1))) 19 w_4) 20 h_4) 21 d_4) 22 u_4) 23 e_4) (rU (rU r 11 (ptI (ptI (ptI it c [mkI 2 X Y (stp (feN (ML r N d) r n lev cr) lev) (dlw ((r 5) n) lev) ((r 5) n) (nI n) (bz (feS (ML r N d) r n lev cr))]) (c + 1) (PL r N d ((r 6) n) lev cr (X + (dlw ((r 5) n) lev)) Y)) ((c + 1) + (PL r N d ((r 6) n) lev cr (X + (dlw ((r 5) n) lev)) Y).length) [mkI 2 ((X + (dlw ((r 5) n) lev)) + (ML r N d ((r 6) n) lev cr).1) Y (stp (feN (ML r N d) r n lev cr) lev) (dlw ((r 7) n) lev) ((r 7) n) (nI n) (bz (feS (ML r N d) r n lev cr))])) 12 z_4)) H := hP
        have hD : va_D A (wM cI a (vU (vU (vU (vU (vU (vU v 14 (nI (((c + 1) + (PL r N d ((r 6) n) lev cr (X + (dlw ((r 5) n) lev)) Y).length) + 1))) 19 w_4) 20 h_4) 21 d_4) 22 u_4) 23 e_4) (rU (rU r 11 (ptI (ptI (ptI it c [mkI 2 X Y (stp (feN (ML r N d) r n lev cr) lev) (dlw ((r 5) n) lev) ((r 5) n) (nI n) (bz (feS (ML r N d) r n lev cr))]) (c + 1) (PL r N d ((r 6) n) lev cr (X + (dlw ((r 5) n) lev)) Y)) ((c + 1) + (PL r N d ((r 6) n) lev cr (X + (dlw ((r 5) n) lev)) Y).length) [mkI 2 ((X + (dlw ((r 5) n) lev)) + (ML r N d ((r 6) n) lev cr).1) Y (stp (feN (ML r N d) r n lev cr) lev) (dlw ((r 7) n) lev) ((r 7) n) (nI n) (bz (feS (ML r N d) r n lev cr))])) 12 z_4)) := hD
        have hL := pFe_nn (r := r) (N := N) (d := d) (n := n) (lev := lev) (cr := cr) (X := X) (Y := Y) c_75 c_125
        have q14 : (nI (((c + 1) + (PL r N d ((r 6) n) lev cr (X + (dlw ((r 5) n) lev)) Y).length) + 1)) = (nI (c + (pFe (ML r N d) (PL r N d) r n lev cr X Y).length)) := (congrArg nI (pt3 (it := it) hL).2)
        have q11 : (ptI (ptI (ptI it c [mkI 2 X Y (stp (feN (ML r N d) r n lev cr) lev) (dlw ((r 5) n) lev) ((r 5) n) (nI n) (bz (feS (ML r N d) r n lev cr))]) (c + 1) (PL r N d ((r 6) n) lev cr (X + (dlw ((r 5) n) lev)) Y)) ((c + 1) + (PL r N d ((r 6) n) lev cr (X + (dlw ((r 5) n) lev)) Y).length) [mkI 2 ((X + (dlw ((r 5) n) lev)) + (ML r N d ((r 6) n) lev cr).1) Y (stp (feN (ML r N d) r n lev cr) lev) (dlw ((r 7) n) lev) ((r 7) n) (nI n) (bz (feS (ML r N d) r n lev cr))]) = (ptI it c (pFe (ML r N d) (PL r N d) r n lev cr X Y)) := ((pt3 hL).1)
        have hw : (wM cI a (vU (vU (vU (vU (vU (vU v 14 (nI (((c + 1) + (PL r N d ((r 6) n) lev cr (X + (dlw ((r 5) n) lev)) Y).length) + 1))) 19 w_4) 20 h_4) 21 d_4) 22 u_4) 23 e_4) (rU (rU r 11 (ptI (ptI (ptI it c [mkI 2 X Y (stp (feN (ML r N d) r n lev cr) lev) (dlw ((r 5) n) lev) ((r 5) n) (nI n) (bz (feS (ML r N d) r n lev cr))]) (c + 1) (PL r N d ((r 6) n) lev cr (X + (dlw ((r 5) n) lev)) Y)) ((c + 1) + (PL r N d ((r 6) n) lev cr (X + (dlw ((r 5) n) lev)) Y).length) [mkI 2 ((X + (dlw ((r 5) n) lev)) + (ML r N d ((r 6) n) lev cr).1) Y (stp (feN (ML r N d) r n lev cr) lev) (dlw ((r 7) n) lev) ((r 7) n) (nI n) (bz (feS (ML r N d) r n lev cr))])) 12 z_4)) = (wM cI a (vU (vU (vU (vU (vU (vU v 14 (nI (c + (pFe (ML r N d) (PL r N d) r n lev cr X Y).length))) 19 w_4) 20 h_4) 21 d_4) 22 u_4) 23 e_4) (rU (rU r 11 (ptI it c (pFe (ML r N d) (PL r N d) r n lev cr X Y))) 12 z_4)) := by rw [q14, q11]
        have hP : va_P D vwCl (wM cI a (vU (vU (vU (vU (vU (vU v 14 (nI (c + (pFe (ML r N d) (PL r N d) r n lev cr X Y).length))) 19 w_4) 20 h_4) 21 d_4) 22 u_4) 23 e_4) (rU (rU r 11 (ptI it c (pFe (ML r N d) (PL r N d) r n lev cr X Y))) 12 z_4)) H := hw ▸ hP
        have hD : va_D A (wM cI a (vU (vU (vU (vU (vU (vU v 14 (nI (c + (pFe (ML r N d) (PL r N d) r n lev cr X Y).length))) 19 w_4) 20 h_4) 21 d_4) 22 u_4) 23 e_4) (rU (rU r 11 (ptI it c (pFe (ML r N d) (PL r N d) r n lev cr X Y))) 12 z_4)) := hw ▸ hD
        exact k_vret C0 (w_4, h_4, d_4, u_4, e_4, z_4) hP hD hS (fun i4 hi k4 hk => by show z_4 (16 * i4 + k4) = sz (16 * i4 + k4); rw [hz_4 i4 (by omega) k4 hk, hz_1 i4 (by omega) k4 hk]) dX5_placeFence_164
