theorem pAt_t {M : TM} {P : TP} {r : Nat → Nat → Int32} {n : Nat} {lev cr x y : Int32} (h : isL r n lev = true) : pAt M P r n lev cr x y = pNu M P r n lev cr (x + ((mAt M r n lev cr).1 - (mNu M r n lev cr).1) / 2) y ++ (if r 8 n = -1 then [] else P (r 8 n) (scl lev) cr (x + ((mAt M r n lev cr).1 - (M (r 8 n) (scl lev) cr).1) / 2) (y + atU M r n lev cr)) ++ (if r 9 n = -1 then [] else P (r 9 n) (scl lev) 1 (x + ((mAt M r n lev cr).1 - (M (r 9 n) (scl lev) 1).1) / 2) (y - atD M r n lev cr)) := by rw [pAt, h]; rfl
theorem pAt_f {M : TM} {P : TP} {r : Nat → Nat → Int32} {n : Nat} {lev cr x y : Int32} (h : isL r n lev = false) : pAt M P r n lev cr x y = pNu M P r n lev cr x y ++ (if r 8 n = -1 then [] else P (r 8 n) (scl lev) cr (x + (mNu M r n lev cr).1) (y + atU M r n lev cr)) ++ (if r 9 n = -1 then [] else P (r 9 n) (scl lev) 1 (x + (mNu M r n lev cr).1) (y - atD M r n lev cr)) := by rw [pAt, h]; rfl
theorem isL_t {r : Nat → Nat → Int32} {n : Nat} {lev : Int32} (h : ¬ (r 8 n = -1 ∧ r 9 n = -1)) (h4 : r 4 n = 1) (h0 : lev = 0) : isL r n lev = true := decide_eq_true ⟨h, h4, h0⟩
theorem isL_f {r : Nat → Nat → Int32} {n : Nat} {lev : Int32} (h : ¬ (¬ (r 8 n = -1 ∧ r 9 n = -1) ∧ r 4 n = 1 ∧ lev = 0)) : isL r n lev = false := decide_eq_false h

set_option maxHeartbeats 1500000 in
set_option maxRecDepth 100000 in
theorem c_X5_placeAtom (l : Launch) (D : va_G) (cI : ClassId) (a : Nat → Nat) (v : Nat → Int32) (r : Nat → Nat → Int32) (n N d : Nat) (rk : Int32 → Nat) (lev cr X Y : Int32) (c : Nat) (it sz : Nat → Int32) (w0 h0 d0 u0 e0 : Int32) (hM : ∀ v2 : Nat → Int32, v2 4 = nI N → HML l D cI a v2 r N rk d) (hPl : HPL l D cI a v r N rk d) (hN : v 4 = nI N) (hN1 : N ≤ 120) (hn : n < N) (hd : rk (r 2 n) ≤ d) (hR : HRK r N rk) (hat : ¬ r 3 n = 4) (hcl : c + (pAt (ML r N d) (PL r N d) r n lev cr X Y).length ≤ 500) : KV l D cI yX5_placeAtom wsX5_placeAtom (rpA d) [.ref (a 0), .int (nI n), .int lev, .int cr, .int X, .int Y] (wM cI a (vU (vU (vU (vU (vU (vU v 14 (nI c)) 19 w0) 20 h0) 21 d0) 22 u0) 23 e0) (rU (rU r 11 it) 12 sz)) (fun z : Int32 × Int32 × Int32 × Int32 × Int32 × (Nat → Int32) => wM cI a (v6 v (c + (pAt (ML r N d) (PL r N d) r n lev cr X Y).length) z.1 z.2.1 z.2.2.1 z.2.2.2.1 z.2.2.2.2.1) (r2 r (ptI it c (pAt (ML r N d) (PL r N d) r n lev cr X Y)) z.2.2.2.2.2)) (fun z => ∀ i4, rk (r 2 n) < rk (r 2 i4) → ∀ k4, k4 < 16 → z.2.2.2.2.2 (16 * i4 + k4) = sz (16 * i4 + k4)) := by
  refine KV.of (cc := cX5_placeAtom) (nL := 14) (ret := none) (by decide) rfl (Nat.le_of_ble_eq_true rfl) ?_
  intro pg9 en9 s m args below meth cd9 A ls C0 hP hD hS hl
  have hx := C0.1.1
  have hb := C0.1.2.1
  have hml := C0.1.2.2.1
  have hown : s.vm.findClass RX5 = some m.cls := C0.1.2.2.2.1
  have hts : ∀ w ∈ wsX5_placeAtom, w.before args s = true := C0.1.2.2.2.2
  have hK := C0.2.2.2.1
  have hin_X5 : ∀ w ∈ wsX50, w ∈ wsX5_placeAtom := fun w h => List.mem_cons_of_mem _ (List.mem_append_right _ h)
  have hf96 : (Cond.fieldLink RX5 96 "FormulaListsModel" "width" "I").before args s = true := hts _ (by decide +kernel)
  have hf125 : (Cond.fieldLink RX5 125 "FormulaListsModel" "upAt" "I").before args s = true := hts _ (by decide +kernel)
  have hf128 : (Cond.fieldLink RX5 128 "FormulaListsModel" "downAt" "I").before args s = true := hts _ (by decide +kernel)
  have hf35 : (Cond.fieldLink RX5 35 "FormulaListsModel" "upper" "[I").before args s = true := hts _ (by decide +kernel)
  have hf23 : (Cond.fieldLink RX5 23 "FormulaListsModel" "kinds" "[I").before args s = true := hts _ (by decide +kernel)
  have hf38 : (Cond.fieldLink RX5 38 "FormulaListsModel" "lower" "[I").before args s = true := hts _ (by decide +kernel)
  have hl : lv_has ls 14 [(0, .ref (a 0)), (1, .int (nI n)), (2, .int lev), (3, .int cr), (4, .int X), (5, .int Y)] := hl
  have hP : va_P D vwCl (wM cI a (vU (vU (vU (vU (vU (vU v 14 (nI c)) 19 w0) 20 h0) 21 d0) 22 u0) 23 e0) (rU (rU r 11 it) 12 sz)) s.heap := hP
  obtain ⟨-, -, -, -, hq8, hq9⟩ := hR n hn hat
  refine lv_aload_n hx hb dX5_placeAtom_0 rfl (lv_at hl 0 rfl) ?_
  refine lv_iload_n hx hb dX5_placeAtom_1 rfl (lv_at hl 1 rfl) ?_
  refine lv_iload_n hx hb dX5_placeAtom_2 rfl (lv_at hl 2 rfl) ?_
  refine lv_iload_n hx hb dX5_placeAtom_3 rfl (lv_at hl 3 rfl) ?_
  refine kcVv C0 hP hD hS (c_X5_measureAtom l D cI a (vU v 14 (nI c)) r n N d rk lev cr it sz w0 h0 d0 u0 e0 (hM (vU v 14 (nI c)) hN) hN hN1 hn hd hR hat (hma_all (hM (vU v 14 (nI c)) hN) hN1 hn hd)) (cwV 3 hts gX5_placeAtom_X5_measureAtom rfl rfl rfl (by decide +kernel) ⟨by dsimp only [rmL, rmF, rmN, rmA, rpL, rpF, rpN, rpA]; omega, by dsimp only [rmL, rmF, rmN, rmA, rpL, rpF, rpN, rpA]; omega⟩) 0 5 rfl rfl rfl hl.1 rfl (Nat.le_of_ble_eq_true rfl) dX5_placeAtom_4 ⟨Nat.zero_le _, Nat.zero_le _⟩ (fun u H locs hq hP hD hS => ?_)
  obtain ⟨u_1, e_1, z_1⟩ := u
  have hz_1 : (∀ i4, rk (r 2 n) < rk (r 2 i4) → ∀ k4, k4 < 16 → z_1 (16 * i4 + k4) = sz (16 * i4 + k4)) ∧ (¬ (r 8 n = -1 ∧ r 9 n = -1) → u_1 = atU (ML r N d) r n lev cr ∧ e_1 = atD (ML r N d) r n lev cr) := hq
  have hP : va_P D vwCl (wM cI a (vU (vU (vU (vU (vU (vU v 14 (nI c)) 19 ((mAt (ML r N d) r n lev cr).1)) 20 ((mAt (ML r N d) r n lev cr).2.1)) 21 ((mAt (ML r N d) r n lev cr).2.2)) 22 u_1) 23 e_1) (rU (rU r 11 it) 12 z_1)) H := hP
  have hD : va_D A (wM cI a (vU (vU (vU (vU (vU (vU v 14 (nI c)) 19 ((mAt (ML r N d) r n lev cr).1)) 20 ((mAt (ML r N d) r n lev cr).2.1)) 21 ((mAt (ML r N d) r n lev cr).2.2)) 22 u_1) 23 e_1) (rU (rU r 11 it) 12 z_1)) := hD
  refine lv_aload_n hx hb dX5_placeAtom_7 rfl (lv_at hl 0 rfl) ?_
  refine va_get (D := D) (ci := 5) (v := .int ((mAt (ML r N d) r n lev cr).1)) (C := RX5) (T := TX5) (N := 25) hx hb hts hin_X5 hown hK hP 0 rfl rfl 19 (by decide) hf96 (fun _ h9 => h9) rfl dX5_placeAtom_8 ?_
  refine lv_istore (lv' := [(6, .int ((mAt (ML r N d) r n lev cr).1)), (0, .ref (a 0)), (1, .int (nI n)), (2, .int lev), (3, .int cr), (4, .int X), (5, .int Y)]) hx hb dX5_placeAtom_11 hl (by decide) rfl (fun ls hl => ?_)
  refine lv_aload_n hx hb dX5_placeAtom_13 rfl (lv_at hl 1 rfl) ?_
  refine va_get (D := D) (ci := 5) (v := .int u_1) (C := RX5) (T := TX5) (N := 25) hx hb hts hin_X5 hown hK hP 0 rfl rfl 22 (by decide) hf125 (fun _ h9 => h9) rfl dX5_placeAtom_14 ?_
  refine lv_istore (lv' := [(7, .int u_1), (6, .int ((mAt (ML r N d) r n lev cr).1)), (0, .ref (a 0)), (1, .int (nI n)), (2, .int lev), (3, .int cr), (4, .int X), (5, .int Y)]) hx hb dX5_placeAtom_17 hl (by decide) rfl (fun ls hl => ?_)
  refine lv_aload_n hx hb dX5_placeAtom_19 rfl (lv_at hl 2 rfl) ?_
  refine va_get (D := D) (ci := 5) (v := .int e_1) (C := RX5) (T := TX5) (N := 25) hx hb hts hin_X5 hown hK hP 0 rfl rfl 23 (by decide) hf128 (fun _ h9 => h9) rfl dX5_placeAtom_20 ?_
  refine lv_istore (lv' := [(8, .int e_1), (7, .int u_1), (6, .int ((mAt (ML r N d) r n lev cr).1)), (0, .ref (a 0)), (1, .int (nI n)), (2, .int lev), (3, .int cr), (4, .int X), (5, .int Y)]) hx hb dX5_placeAtom_23 hl (by decide) rfl (fun ls hl => ?_)
  refine lv_aload_n hx hb dX5_placeAtom_25 rfl (lv_at hl 3 rfl) ?_
  refine lv_iload_n hx hb dX5_placeAtom_26 rfl (lv_at hl 4 rfl) ?_
  refine lv_iload_n hx hb dX5_placeAtom_27 rfl (lv_at hl 5 rfl) ?_
  refine lv_iload_n hx hb dX5_placeAtom_28 rfl (lv_at hl 6 rfl) ?_
  refine kcVv C0 hP hD hS (c_X5_measureNucleus l D cI a (vU v 14 (nI c)) r n N d rk lev cr it z_1 ((mAt (ML r N d) r n lev cr).1) ((mAt (ML r N d) r n lev cr).2.1) ((mAt (ML r N d) r n lev cr).2.2) u_1 e_1 (hM (vU v 14 (nI c)) hN) hN hN1 hn hd hR hat (hma_all (hM (vU v 14 (nI c)) hN) hN1 hn hd)) (cwV 3 hts gX5_placeAtom_X5_measureNucleus rfl rfl rfl (by decide +kernel) ⟨by dsimp only [rmL, rmF, rmN, rmA, rpL, rpF, rpN, rpA]; omega, by dsimp only [rmL, rmF, rmN, rmA, rpL, rpF, rpN, rpA]; omega⟩) 0 5 rfl rfl rfl hl.1 rfl (Nat.le_of_ble_eq_true rfl) dX5_placeAtom_29 ⟨Nat.zero_le _, Nat.zero_le _⟩ (fun u H locs hq hP hD hS => ?_)
  obtain ⟨u_2, e_2, z_2⟩ := u
  have hz_2 : ∀ i4, rk (r 2 n) < rk (r 2 i4) → ∀ k4, k4 < 16 → z_2 (16 * i4 + k4) = z_1 (16 * i4 + k4) := hq
  have hP : va_P D vwCl (wM cI a (vU (vU (vU (vU (vU (vU v 14 (nI c)) 19 ((mNu (ML r N d) r n lev cr).1)) 20 ((mNu (ML r N d) r n lev cr).2.1)) 21 ((mNu (ML r N d) r n lev cr).2.2)) 22 u_2) 23 e_2) (rU (rU r 11 it) 12 z_2)) H := hP
  have hD : va_D A (wM cI a (vU (vU (vU (vU (vU (vU v 14 (nI c)) 19 ((mNu (ML r N d) r n lev cr).1)) 20 ((mNu (ML r N d) r n lev cr).2.1)) 21 ((mNu (ML r N d) r n lev cr).2.2)) 22 u_2) 23 e_2) (rU (rU r 11 it) 12 z_2)) := hD
  refine lv_aload_n hx hb dX5_placeAtom_32 rfl (lv_at hl 3 rfl) ?_
  refine va_get (D := D) (ci := 5) (v := .int ((mNu (ML r N d) r n lev cr).1)) (C := RX5) (T := TX5) (N := 25) hx hb hts hin_X5 hown hK hP 0 rfl rfl 19 (by decide) hf96 (fun _ h9 => h9) rfl dX5_placeAtom_33 ?_
  refine lv_istore (lv' := [(9, .int ((mNu (ML r N d) r n lev cr).1)), (8, .int e_1), (7, .int u_1), (6, .int ((mAt (ML r N d) r n lev cr).1)), (0, .ref (a 0)), (1, .int (nI n)), (2, .int lev), (3, .int cr), (4, .int X), (5, .int Y)]) hx hb dX5_placeAtom_36 hl (by decide) rfl (fun ls hl => ?_)
  refine lv_aload_n hx hb dX5_placeAtom_38 rfl (lv_at hl 4 rfl) ?_
  refine va_get (D := D) (ci := 5) (v := .ref (a 8)) (C := RX5) (T := TX5) (N := 25) hx hb hts hin_X5 hown hK hP 0 rfl rfl 11 (by decide) hf35 (fun _ h9 => h9) rfl dX5_placeAtom_39 ?_
  refine lv_iload_n hx hb dX5_placeAtom_42 rfl (lv_at hl 5 rfl) ?_
  refine ra_ld (f := (r 8)) C0 hP 8 rfl n rfl (by omega) (by decide) dX5_placeAtom_43 ?_
  refine lv_iconst (v := (-1)) hx hb dX5_placeAtom_44 (by decide) ?_
  refine lv_icmp_ne (tgt := 58) hx hb dX5_placeAtom_45 (by decide) (fun c_45 => ?_) (fun c_45 => ?_)
  · skip
    refine lv_iconst (v := 1) hx hb dX5_placeAtom_58 (by decide) ?_
    refine lv_goto (tgt := 63) hx hb dX5_placeAtom_59 (by decide) ?_
    refine lv_istore (lv' := [(10, .int 1), (9, .int ((mNu (ML r N d) r n lev cr).1)), (8, .int e_1), (7, .int u_1), (6, .int ((mAt (ML r N d) r n lev cr).1)), (0, .ref (a 0)), (1, .int (nI n)), (2, .int lev), (3, .int cr), (4, .int X), (5, .int Y)]) hx hb dX5_placeAtom_63 hl (by decide) rfl (fun ls hl => ?_)
    refine lv_iload hx hb dX5_placeAtom_65 (lv_at hl 0 rfl) ?_
    refine lv_if_eq (tgt := 88) hx hb dX5_placeAtom_67 (by decide) (fun c_67 => absurd c_67 (by decide)) (fun c_67 => ?_)
    refine lv_aload_n hx hb dX5_placeAtom_70 rfl (lv_at hl 5 rfl) ?_
    refine va_get (D := D) (ci := 5) (v := .ref (a 4)) (C := RX5) (T := TX5) (N := 25) hx hb hts hin_X5 hown hK hP 0 rfl rfl 7 (by decide) hf23 (fun _ h9 => h9) rfl dX5_placeAtom_71 ?_
    refine lv_iload_n hx hb dX5_placeAtom_74 rfl (lv_at hl 6 rfl) ?_
    refine ra_ld (f := (r 4)) C0 hP 4 rfl n rfl (by omega) (by decide) dX5_placeAtom_75 ?_
    refine lv_iconst (v := 1) hx hb dX5_placeAtom_76 (by decide) ?_
    refine lv_icmp_ne (tgt := 88) hx hb dX5_placeAtom_77 (by decide) (fun c_77 => ?_) (fun c_77 => ?_)
    · skip
      refine lv_iconst (v := 0) hx hb dX5_placeAtom_88 (by decide) ?_
      refine lv_istore (lv' := [(11, .int 0), (10, .int 1), (9, .int ((mNu (ML r N d) r n lev cr).1)), (8, .int e_1), (7, .int u_1), (6, .int ((mAt (ML r N d) r n lev cr).1)), (0, .ref (a 0)), (1, .int (nI n)), (2, .int lev), (3, .int cr), (4, .int X), (5, .int Y)]) hx hb dX5_placeAtom_89 hl (by decide) rfl (fun ls hl => ?_)
      have hb9 : isL r n lev = false := isL_f (fun q => c_77 q.2.1)
      have hcl2 := hcl
      rw [pAt_f hb9, List.length_append, List.length_append] at hcl2
      refine lv_iload_n hx hb dX5_placeAtom_91 rfl (lv_at hl 8 rfl) ?_
      refine kcS (ans := (scl lev)) C0 hP hS (c_X5_scriptLevel l D cI lev ) (va_cwS 1 hts gX5_placeAtom_X5_scriptLevel rfl rfl rfl (by decide +kernel) ⟨by dsimp only [rmL, rmF, rmN, rmA, rpL, rpF, rpN, rpA]; omega, by dsimp only [rmL, rmF, rmN, rmA, rpL, rpF, rpN, rpA]; omega⟩) rfl hl.1 rfl (Nat.le_of_ble_eq_true rfl) dX5_placeAtom_92 ⟨Nat.zero_le _, Nat.zero_le _⟩ (fun H locs hP hS => ?_)
      refine lv_istore (lv' := [(12, .int (scl lev)), (11, .int 0), (10, .int 1), (9, .int ((mNu (ML r N d) r n lev cr).1)), (8, .int e_1), (7, .int u_1), (6, .int ((mAt (ML r N d) r n lev cr).1)), (0, .ref (a 0)), (1, .int (nI n)), (2, .int lev), (3, .int cr), (4, .int X), (5, .int Y)]) hx hb dX5_placeAtom_95 hl (by decide) rfl (fun ls hl => ?_)
      refine lv_aload_n hx hb dX5_placeAtom_97 rfl (lv_at hl 7 rfl) ?_
      refine lv_iload_n hx hb dX5_placeAtom_98 rfl (lv_at hl 8 rfl) ?_
      refine lv_iload_n hx hb dX5_placeAtom_99 rfl (lv_at hl 9 rfl) ?_
      refine lv_iload_n hx hb dX5_placeAtom_100 rfl (lv_at hl 10 rfl) ?_
      refine lv_iload hx hb dX5_placeAtom_101 (lv_at hl 1 rfl) ?_
      refine lv_if_eq (tgt := 120) hx hb dX5_placeAtom_103 (by decide) (fun c_103 => ?_) (fun c_103 => absurd (by decide) c_103)
      refine lv_iload hx hb dX5_placeAtom_120 (lv_at hl 11 rfl) ?_
      refine lv_iload hx hb dX5_placeAtom_122 (lv_at hl 12 rfl) ?_
      refine kcVv C0 hP hD hS (c_X5_placeNucleus l D cI a v r n N d rk lev cr X Y c it z_2 ((mNu (ML r N d) r n lev cr).1) ((mNu (ML r N d) r n lev cr).2.1) ((mNu (ML r N d) r n lev cr).2.2) u_2 e_2 hM hPl hN hN1 hn hd hR hat (by omega)) (cwV 5 hts gX5_placeAtom_X5_placeNucleus rfl rfl rfl (by decide +kernel) ⟨by dsimp only [rmL, rmF, rmN, rmA, rpL, rpF, rpN, rpA]; omega, by dsimp only [rmL, rmF, rmN, rmA, rpL, rpF, rpN, rpA]; omega⟩) 0 5 rfl rfl rfl hl.1 rfl (Nat.le_of_ble_eq_true rfl) dX5_placeAtom_124 ⟨Nat.zero_le _, Nat.zero_le _⟩ (fun u H locs hq hP hD hS => ?_)
      obtain ⟨w_3, h_3, d_3, u_3, e_3, z_3⟩ := u
      have hz_3 : ∀ i4, rk (r 2 n) < rk (r 2 i4) → ∀ k4, k4 < 16 → z_3 (16 * i4 + k4) = z_2 (16 * i4 + k4) := hq
      have hP : va_P D vwCl (wM cI a (vU (vU (vU (vU (vU (vU v 14 (nI (c + (pNu (ML r N d) (PL r N d) r n lev cr X Y).length))) 19 w_3) 20 h_3) 21 d_3) 22 u_3) 23 e_3) (rU (rU r 11 (ptI it c (pNu (ML r N d) (PL r N d) r n lev cr X Y))) 12 z_3)) H := hP
      have hD : va_D A (wM cI a (vU (vU (vU (vU (vU (vU v 14 (nI (c + (pNu (ML r N d) (PL r N d) r n lev cr X Y).length))) 19 w_3) 20 h_3) 21 d_3) 22 u_3) 23 e_3) (rU (rU r 11 (ptI it c (pNu (ML r N d) (PL r N d) r n lev cr X Y))) 12 z_3)) := hD
      refine lv_aload_n hx hb dX5_placeAtom_127 rfl (lv_at hl 7 rfl) ?_
      refine va_get (D := D) (ci := 5) (v := .ref (a 8)) (C := RX5) (T := TX5) (N := 25) hx hb hts hin_X5 hown hK hP 0 rfl rfl 11 (by decide) hf35 (fun _ h9 => h9) rfl dX5_placeAtom_128 ?_
      refine lv_iload_n hx hb dX5_placeAtom_131 rfl (lv_at hl 8 rfl) ?_
      refine ra_ld (f := (r 8)) C0 hP 8 rfl n rfl (by omega) (by decide) dX5_placeAtom_132 ?_
      refine lv_iconst (v := (-1)) hx hb dX5_placeAtom_133 (by decide) ?_
      refine lv_icmp_eq (tgt := 191) hx hb dX5_placeAtom_134 (by decide) (fun c_134 => absurd c_134 c_45) (fun c_134 => ?_)
      have hs8 := hq8 c_45
      refine lv_iload hx hb dX5_placeAtom_137 (lv_at hl 1 rfl) ?_
      refine lv_if_eq (tgt := 164) hx hb dX5_placeAtom_139 (by decide) (fun c_139 => ?_) (fun c_139 => absurd (by decide) c_139)
      refine lv_iload hx hb dX5_placeAtom_164 (lv_at hl 3 rfl) ?_
      refine lv_istore (lv' := [(13, .int ((mNu (ML r N d) r n lev cr).1)), (12, .int (scl lev)), (11, .int 0), (10, .int 1), (9, .int ((mNu (ML r N d) r n lev cr).1)), (8, .int e_1), (7, .int u_1), (6, .int ((mAt (ML r N d) r n lev cr).1)), (0, .ref (a 0)), (1, .int (nI n)), (2, .int lev), (3, .int cr), (4, .int X), (5, .int Y)]) hx hb dX5_placeAtom_166 hl (by decide) rfl (fun ls hl => ?_)
      refine lv_aload_n hx hb dX5_placeAtom_168 rfl (lv_at hl 8 rfl) ?_
      refine lv_aload_n hx hb dX5_placeAtom_169 rfl (lv_at hl 8 rfl) ?_
      refine va_get (D := D) (ci := 5) (v := .ref (a 8)) (C := RX5) (T := TX5) (N := 25) hx hb hts hin_X5 hown hK hP 0 rfl rfl 11 (by decide) hf35 (fun _ h9 => h9) rfl dX5_placeAtom_170 ?_
      refine lv_iload_n hx hb dX5_placeAtom_173 rfl (lv_at hl 9 rfl) ?_
      refine ra_ld (f := (r 8)) C0 hP 8 rfl n rfl (by omega) (by decide) dX5_placeAtom_174 ?_
      refine lv_iload hx hb dX5_placeAtom_175 (lv_at hl 1 rfl) ?_
      refine lv_iload_n hx hb dX5_placeAtom_177 rfl (lv_at hl 11 rfl) ?_
      refine lv_iload hx hb dX5_placeAtom_178 (lv_at hl 12 rfl) ?_
      refine lv_iload hx hb dX5_placeAtom_180 (lv_at hl 0 rfl) ?_
      refine lv_iadd hx hb dX5_placeAtom_182 ?_
      refine lv_iload hx hb dX5_placeAtom_183 (lv_at hl 13 rfl) ?_
      refine lv_iload hx hb dX5_placeAtom_185 (lv_at hl 6 rfl) ?_
      refine lv_iadd hx hb dX5_placeAtom_187 ?_
      refine lv_eqi (show Y + u_1 = Y + atU (ML r N d) r n lev cr from by rw [(hz_1.2 (fun q => c_45 q.1)).1]) ?_
      refine kcVv C0 hP hD hS (hPl ((r 8) n) (scl lev) cr (X + (mNu (ML r N d) r n lev cr).1) (Y + atU (ML r N d) r n lev cr) (c + (pNu (ML r N d) (PL r N d) r n lev cr X Y).length) (ptI it c (pNu (ML r N d) (PL r N d) r n lev cr X Y)) z_3 w_3 h_3 d_3 u_3 e_3 (by omega) (by rw [if_neg c_45] at hcl2; omega)) (cwV 5 hts gX5_placeAtom_X5_placeList rfl rfl rfl (by decide +kernel) ⟨by dsimp only [rmL, rmF, rmN, rmA, rpL, rpF, rpN, rpA]; omega, by dsimp only [rmL, rmF, rmN, rmA, rpL, rpF, rpN, rpA]; omega⟩) 0 5 rfl rfl rfl hl.1 rfl (Nat.le_of_ble_eq_true rfl) dX5_placeAtom_188 ⟨Nat.zero_le _, Nat.zero_le _⟩ (fun u H locs hq hP hD hS => ?_)
      obtain ⟨w_4, h_4, d_4, u_4, e_4, z_4⟩ := u
      have hz_4 : ∀ i4, rk ((r 8) n) < rk (r 2 i4) → ∀ k4, k4 < 16 → z_4 (16 * i4 + k4) = z_3 (16 * i4 + k4) := hq
      have hP : va_P D vwCl (wM cI a (vU (vU (vU (vU (vU (vU v 14 (nI ((c + (pNu (ML r N d) (PL r N d) r n lev cr X Y).length) + (PL r N d ((r 8) n) (scl lev) cr (X + (mNu (ML r N d) r n lev cr).1) (Y + atU (ML r N d) r n lev cr)).length))) 19 w_4) 20 h_4) 21 d_4) 22 u_4) 23 e_4) (rU (rU r 11 (ptI (ptI it c (pNu (ML r N d) (PL r N d) r n lev cr X Y)) (c + (pNu (ML r N d) (PL r N d) r n lev cr X Y).length) (PL r N d ((r 8) n) (scl lev) cr (X + (mNu (ML r N d) r n lev cr).1) (Y + atU (ML r N d) r n lev cr)))) 12 z_4)) H := hP
      have hD : va_D A (wM cI a (vU (vU (vU (vU (vU (vU v 14 (nI ((c + (pNu (ML r N d) (PL r N d) r n lev cr X Y).length) + (PL r N d ((r 8) n) (scl lev) cr (X + (mNu (ML r N d) r n lev cr).1) (Y + atU (ML r N d) r n lev cr)).length))) 19 w_4) 20 h_4) 21 d_4) 22 u_4) 23 e_4) (rU (rU r 11 (ptI (ptI it c (pNu (ML r N d) (PL r N d) r n lev cr X Y)) (c + (pNu (ML r N d) (PL r N d) r n lev cr X Y).length) (PL r N d ((r 8) n) (scl lev) cr (X + (mNu (ML r N d) r n lev cr).1) (Y + atU (ML r N d) r n lev cr)))) 12 z_4)) := hD
      refine lv_aload_n hx hb dX5_placeAtom_191 rfl (lv_at hl 8 rfl) ?_
      refine va_get (D := D) (ci := 5) (v := .ref (a 9)) (C := RX5) (T := TX5) (N := 25) hx hb hts hin_X5 hown hK hP 0 rfl rfl 12 (by decide) hf38 (fun _ h9 => h9) rfl dX5_placeAtom_192 ?_
      refine lv_iload_n hx hb dX5_placeAtom_195 rfl (lv_at hl 9 rfl) ?_
      refine ra_ld (f := (r 9)) C0 hP 9 rfl n rfl (by omega) (by decide) dX5_placeAtom_196 ?_
      refine lv_iconst (v := (-1)) hx hb dX5_placeAtom_197 (by decide) ?_
      refine lv_icmp_eq (tgt := 255) hx hb dX5_placeAtom_198 (by decide) (fun c_198 => ?_) (fun c_198 => ?_)
      · skip
        have hL : (pAt (ML r N d) (PL r N d) r n lev cr X Y) = (pNu (ML r N d) (PL r N d) r n lev cr X Y) ++ (PL r N d ((r 8) n) (scl lev) cr (X + (mNu (ML r N d) r n lev cr).1) (Y + atU (ML r N d) r n lev cr)) := by rw [pAt_f hb9, if_neg c_45, if_pos c_198, List.append_nil]
        have q14 : (nI ((c + (pNu (ML r N d) (PL r N d) r n lev cr X Y).length) + (PL r N d ((r 8) n) (scl lev) cr (X + (mNu (ML r N d) r n lev cr).1) (Y + atU (ML r N d) r n lev cr)).length)) = (nI (c + (pAt (ML r N d) (PL r N d) r n lev cr X Y).length)) := (congrArg nI (pt2 (it := it) hL).2)
        have q11 : (ptI (ptI it c (pNu (ML r N d) (PL r N d) r n lev cr X Y)) (c + (pNu (ML r N d) (PL r N d) r n lev cr X Y).length) (PL r N d ((r 8) n) (scl lev) cr (X + (mNu (ML r N d) r n lev cr).1) (Y + atU (ML r N d) r n lev cr))) = (ptI it c (pAt (ML r N d) (PL r N d) r n lev cr X Y)) := ((pt2 hL).1)
        have hw : (wM cI a (vU (vU (vU (vU (vU (vU v 14 (nI ((c + (pNu (ML r N d) (PL r N d) r n lev cr X Y).length) + (PL r N d ((r 8) n) (scl lev) cr (X + (mNu (ML r N d) r n lev cr).1) (Y + atU (ML r N d) r n lev cr)).length))) 19 w_4) 20 h_4) 21 d_4) 22 u_4) 23 e_4) (rU (rU r 11 (ptI (ptI it c (pNu (ML r N d) (PL r N d) r n lev cr X Y)) (c + (pNu (ML r N d) (PL r N d) r n lev cr X Y).length) (PL r N d ((r 8) n) (scl lev) cr (X + (mNu (ML r N d) r n lev cr).1) (Y + atU (ML r N d) r n lev cr)))) 12 z_4)) = (wM cI a (vU (vU (vU (vU (vU (vU v 14 (nI (c + (pAt (ML r N d) (PL r N d) r n lev cr X Y).length))) 19 w_4) 20 h_4) 21 d_4) 22 u_4) 23 e_4) (rU (rU r 11 (ptI it c (pAt (ML r N d) (PL r N d) r n lev cr X Y))) 12 z_4)) := by rw [q14, q11]
        have hP : va_P D vwCl (wM cI a (vU (vU (vU (vU (vU (vU v 14 (nI (c + (pAt (ML r N d) (PL r N d) r n lev cr X Y).length))) 19 w_4) 20 h_4) 21 d_4) 22 u_4) 23 e_4) (rU (rU r 11 (ptI it c (pAt (ML r N d) (PL r N d) r n lev cr X Y))) 12 z_4)) H := hw ▸ hP
        have hD : va_D A (wM cI a (vU (vU (vU (vU (vU (vU v 14 (nI (c + (pAt (ML r N d) (PL r N d) r n lev cr X Y).length))) 19 w_4) 20 h_4) 21 d_4) 22 u_4) 23 e_4) (rU (rU r 11 (ptI it c (pAt (ML r N d) (PL r N d) r n lev cr X Y))) 12 z_4)) := hw ▸ hD
        exact k_vret C0 (w_4, h_4, d_4, u_4, e_4, z_4) hP hD hS (fun i4 hi k4 hk => by show z_4 (16 * i4 + k4) = sz (16 * i4 + k4); rw [hz_4 i4 (by omega) k4 hk, hz_3 i4 (by omega) k4 hk, hz_2 i4 (by omega) k4 hk, hz_1.1 i4 (by omega) k4 hk]) dX5_placeAtom_255
      · skip
        have hs9 := hq9 c_198
        refine lv_iload hx hb dX5_placeAtom_201 (lv_at hl 2 rfl) ?_
        refine lv_if_eq (tgt := 228) hx hb dX5_placeAtom_203 (by decide) (fun c_203 => ?_) (fun c_203 => absurd (by decide) c_203)
        refine lv_iload hx hb dX5_placeAtom_228 (lv_at hl 4 rfl) ?_
        refine lv_istore (lv' := [(13, .int ((mNu (ML r N d) r n lev cr).1)), (12, .int (scl lev)), (11, .int 0), (10, .int 1), (9, .int ((mNu (ML r N d) r n lev cr).1)), (8, .int e_1), (7, .int u_1), (6, .int ((mAt (ML r N d) r n lev cr).1)), (0, .ref (a 0)), (1, .int (nI n)), (2, .int lev), (3, .int cr), (4, .int X), (5, .int Y)]) hx hb dX5_placeAtom_230 hl (by decide) rfl (fun ls hl => ?_)
        refine lv_aload_n hx hb dX5_placeAtom_232 rfl (lv_at hl 8 rfl) ?_
        refine lv_aload_n hx hb dX5_placeAtom_233 rfl (lv_at hl 8 rfl) ?_
        refine va_get (D := D) (ci := 5) (v := .ref (a 9)) (C := RX5) (T := TX5) (N := 25) hx hb hts hin_X5 hown hK hP 0 rfl rfl 12 (by decide) hf38 (fun _ h9 => h9) rfl dX5_placeAtom_234 ?_
        refine lv_iload_n hx hb dX5_placeAtom_237 rfl (lv_at hl 9 rfl) ?_
        refine ra_ld (f := (r 9)) C0 hP 9 rfl n rfl (by omega) (by decide) dX5_placeAtom_238 ?_
        refine lv_iload hx hb dX5_placeAtom_239 (lv_at hl 1 rfl) ?_
        refine lv_iconst (v := 1) hx hb dX5_placeAtom_241 (by decide) ?_
        refine lv_iload hx hb dX5_placeAtom_242 (lv_at hl 12 rfl) ?_
        refine lv_iload hx hb dX5_placeAtom_244 (lv_at hl 0 rfl) ?_
        refine lv_iadd hx hb dX5_placeAtom_246 ?_
        refine lv_iload hx hb dX5_placeAtom_247 (lv_at hl 13 rfl) ?_
        refine lv_iload hx hb dX5_placeAtom_249 (lv_at hl 5 rfl) ?_
        refine lv_isub hx hb dX5_placeAtom_251 ?_
        refine lv_eqi (show Y - e_1 = Y - atD (ML r N d) r n lev cr from by rw [(hz_1.2 (fun q => c_45 q.1)).2]) ?_
        refine kcVv C0 hP hD hS (hPl ((r 9) n) (scl lev) 1 (X + (mNu (ML r N d) r n lev cr).1) (Y - atD (ML r N d) r n lev cr) ((c + (pNu (ML r N d) (PL r N d) r n lev cr X Y).length) + (PL r N d ((r 8) n) (scl lev) cr (X + (mNu (ML r N d) r n lev cr).1) (Y + atU (ML r N d) r n lev cr)).length) (ptI (ptI it c (pNu (ML r N d) (PL r N d) r n lev cr X Y)) (c + (pNu (ML r N d) (PL r N d) r n lev cr X Y).length) (PL r N d ((r 8) n) (scl lev) cr (X + (mNu (ML r N d) r n lev cr).1) (Y + atU (ML r N d) r n lev cr))) z_4 w_4 h_4 d_4 u_4 e_4 (by omega) (by rw [if_neg c_45, if_neg c_198] at hcl2; omega)) (cwV 5 hts gX5_placeAtom_X5_placeList rfl rfl rfl (by decide +kernel) ⟨by dsimp only [rmL, rmF, rmN, rmA, rpL, rpF, rpN, rpA]; omega, by dsimp only [rmL, rmF, rmN, rmA, rpL, rpF, rpN, rpA]; omega⟩) 0 5 rfl rfl rfl hl.1 rfl (Nat.le_of_ble_eq_true rfl) dX5_placeAtom_252 ⟨Nat.zero_le _, Nat.zero_le _⟩ (fun u H locs hq hP hD hS => ?_)
        obtain ⟨w_5, h_5, d_5, u_5, e_5, z_5⟩ := u
        have hz_5 : ∀ i4, rk ((r 9) n) < rk (r 2 i4) → ∀ k4, k4 < 16 → z_5 (16 * i4 + k4) = z_4 (16 * i4 + k4) := hq
        have hP : va_P D vwCl (wM cI a (vU (vU (vU (vU (vU (vU v 14 (nI (((c + (pNu (ML r N d) (PL r N d) r n lev cr X Y).length) + (PL r N d ((r 8) n) (scl lev) cr (X + (mNu (ML r N d) r n lev cr).1) (Y + atU (ML r N d) r n lev cr)).length) + (PL r N d ((r 9) n) (scl lev) 1 (X + (mNu (ML r N d) r n lev cr).1) (Y - atD (ML r N d) r n lev cr)).length))) 19 w_5) 20 h_5) 21 d_5) 22 u_5) 23 e_5) (rU (rU r 11 (ptI (ptI (ptI it c (pNu (ML r N d) (PL r N d) r n lev cr X Y)) (c + (pNu (ML r N d) (PL r N d) r n lev cr X Y).length) (PL r N d ((r 8) n) (scl lev) cr (X + (mNu (ML r N d) r n lev cr).1) (Y + atU (ML r N d) r n lev cr))) ((c + (pNu (ML r N d) (PL r N d) r n lev cr X Y).length) + (PL r N d ((r 8) n) (scl lev) cr (X + (mNu (ML r N d) r n lev cr).1) (Y + atU (ML r N d) r n lev cr)).length) (PL r N d ((r 9) n) (scl lev) 1 (X + (mNu (ML r N d) r n lev cr).1) (Y - atD (ML r N d) r n lev cr)))) 12 z_5)) H := hP
        have hD : va_D A (wM cI a (vU (vU (vU (vU (vU (vU v 14 (nI (((c + (pNu (ML r N d) (PL r N d) r n lev cr X Y).length) + (PL r N d ((r 8) n) (scl lev) cr (X + (mNu (ML r N d) r n lev cr).1) (Y + atU (ML r N d) r n lev cr)).length) + (PL r N d ((r 9) n) (scl lev) 1 (X + (mNu (ML r N d) r n lev cr).1) (Y - atD (ML r N d) r n lev cr)).length))) 19 w_5) 20 h_5) 21 d_5) 22 u_5) 23 e_5) (rU (rU r 11 (ptI (ptI (ptI it c (pNu (ML r N d) (PL r N d) r n lev cr X Y)) (c + (pNu (ML r N d) (PL r N d) r n lev cr X Y).length) (PL r N d ((r 8) n) (scl lev) cr (X + (mNu (ML r N d) r n lev cr).1) (Y + atU (ML r N d) r n lev cr))) ((c + (pNu (ML r N d) (PL r N d) r n lev cr X Y).length) + (PL r N d ((r 8) n) (scl lev) cr (X + (mNu (ML r N d) r n lev cr).1) (Y + atU (ML r N d) r n lev cr)).length) (PL r N d ((r 9) n) (scl lev) 1 (X + (mNu (ML r N d) r n lev cr).1) (Y - atD (ML r N d) r n lev cr)))) 12 z_5)) := hD
        have hL : (pAt (ML r N d) (PL r N d) r n lev cr X Y) = (pNu (ML r N d) (PL r N d) r n lev cr X Y) ++ (PL r N d ((r 8) n) (scl lev) cr (X + (mNu (ML r N d) r n lev cr).1) (Y + atU (ML r N d) r n lev cr)) ++ (PL r N d ((r 9) n) (scl lev) 1 (X + (mNu (ML r N d) r n lev cr).1) (Y - atD (ML r N d) r n lev cr)) := by rw [pAt_f hb9, if_neg c_45, if_neg c_198]
        have q14 : (nI (((c + (pNu (ML r N d) (PL r N d) r n lev cr X Y).length) + (PL r N d ((r 8) n) (scl lev) cr (X + (mNu (ML r N d) r n lev cr).1) (Y + atU (ML r N d) r n lev cr)).length) + (PL r N d ((r 9) n) (scl lev) 1 (X + (mNu (ML r N d) r n lev cr).1) (Y - atD (ML r N d) r n lev cr)).length)) = (nI (c + (pAt (ML r N d) (PL r N d) r n lev cr X Y).length)) := (congrArg nI (pt3 (it := it) hL).2)
        have q11 : (ptI (ptI (ptI it c (pNu (ML r N d) (PL r N d) r n lev cr X Y)) (c + (pNu (ML r N d) (PL r N d) r n lev cr X Y).length) (PL r N d ((r 8) n) (scl lev) cr (X + (mNu (ML r N d) r n lev cr).1) (Y + atU (ML r N d) r n lev cr))) ((c + (pNu (ML r N d) (PL r N d) r n lev cr X Y).length) + (PL r N d ((r 8) n) (scl lev) cr (X + (mNu (ML r N d) r n lev cr).1) (Y + atU (ML r N d) r n lev cr)).length) (PL r N d ((r 9) n) (scl lev) 1 (X + (mNu (ML r N d) r n lev cr).1) (Y - atD (ML r N d) r n lev cr))) = (ptI it c (pAt (ML r N d) (PL r N d) r n lev cr X Y)) := ((pt3 hL).1)
        have hw : (wM cI a (vU (vU (vU (vU (vU (vU v 14 (nI (((c + (pNu (ML r N d) (PL r N d) r n lev cr X Y).length) + (PL r N d ((r 8) n) (scl lev) cr (X + (mNu (ML r N d) r n lev cr).1) (Y + atU (ML r N d) r n lev cr)).length) + (PL r N d ((r 9) n) (scl lev) 1 (X + (mNu (ML r N d) r n lev cr).1) (Y - atD (ML r N d) r n lev cr)).length))) 19 w_5) 20 h_5) 21 d_5) 22 u_5) 23 e_5) (rU (rU r 11 (ptI (ptI (ptI it c (pNu (ML r N d) (PL r N d) r n lev cr X Y)) (c + (pNu (ML r N d) (PL r N d) r n lev cr X Y).length) (PL r N d ((r 8) n) (scl lev) cr (X + (mNu (ML r N d) r n lev cr).1) (Y + atU (ML r N d) r n lev cr))) ((c + (pNu (ML r N d) (PL r N d) r n lev cr X Y).length) + (PL r N d ((r 8) n) (scl lev) cr (X + (mNu (ML r N d) r n lev cr).1) (Y + atU (ML r N d) r n lev cr)).length) (PL r N d ((r 9) n) (scl lev) 1 (X + (mNu (ML r N d) r n lev cr).1) (Y - atD (ML r N d) r n lev cr)))) 12 z_5)) = (wM cI a (vU (vU (vU (vU (vU (vU v 14 (nI (c + (pAt (ML r N d) (PL r N d) r n lev cr X Y).length))) 19 w_5) 20 h_5) 21 d_5) 22 u_5) 23 e_5) (rU (rU r 11 (ptI it c (pAt (ML r N d) (PL r N d) r n lev cr X Y))) 12 z_5)) := by rw [q14, q11]
        have hP : va_P D vwCl (wM cI a (vU (vU (vU (vU (vU (vU v 14 (nI (c + (pAt (ML r N d) (PL r N d) r n lev cr X Y).length))) 19 w_5) 20 h_5) 21 d_5) 22 u_5) 23 e_5) (rU (rU r 11 (ptI it c (pAt (ML r N d) (PL r N d) r n lev cr X Y))) 12 z_5)) H := hw ▸ hP
        have hD : va_D A (wM cI a (vU (vU (vU (vU (vU (vU v 14 (nI (c + (pAt (ML r N d) (PL r N d) r n lev cr X Y).length))) 19 w_5) 20 h_5) 21 d_5) 22 u_5) 23 e_5) (rU (rU r 11 (ptI it c (pAt (ML r N d) (PL r N d) r n lev cr X Y))) 12 z_5)) := hw ▸ hD
        exact k_vret C0 (w_5, h_5, d_5, u_5, e_5, z_5) hP hD hS (fun i4 hi k4 hk => by show z_5 (16 * i4 + k4) = sz (16 * i4 + k4); rw [hz_5 i4 (by omega) k4 hk, hz_4 i4 (by omega) k4 hk, hz_3 i4 (by omega) k4 hk, hz_2 i4 (by omega) k4 hk, hz_1.1 i4 (by omega) k4 hk]) dX5_placeAtom_255
    · skip
      refine lv_iload_n hx hb dX5_placeAtom_80 rfl (lv_at hl 7 rfl) ?_
      refine lv_if_ne (tgt := 88) hx hb dX5_placeAtom_81 (by decide) (fun c_81 => ?_) (fun c_81 => ?_)
      · skip
        refine lv_iconst (v := 0) hx hb dX5_placeAtom_88 (by decide) ?_
        refine lv_istore (lv' := [(11, .int 0), (10, .int 1), (9, .int ((mNu (ML r N d) r n lev cr).1)), (8, .int e_1), (7, .int u_1), (6, .int ((mAt (ML r N d) r n lev cr).1)), (0, .ref (a 0)), (1, .int (nI n)), (2, .int lev), (3, .int cr), (4, .int X), (5, .int Y)]) hx hb dX5_placeAtom_89 hl (by decide) rfl (fun ls hl => ?_)
        have hb9 : isL r n lev = false := isL_f (fun q => c_81 q.2.2)
        have hcl2 := hcl
        rw [pAt_f hb9, List.length_append, List.length_append] at hcl2
        refine lv_iload_n hx hb dX5_placeAtom_91 rfl (lv_at hl 8 rfl) ?_
        refine kcS (ans := (scl lev)) C0 hP hS (c_X5_scriptLevel l D cI lev ) (va_cwS 1 hts gX5_placeAtom_X5_scriptLevel rfl rfl rfl (by decide +kernel) ⟨by dsimp only [rmL, rmF, rmN, rmA, rpL, rpF, rpN, rpA]; omega, by dsimp only [rmL, rmF, rmN, rmA, rpL, rpF, rpN, rpA]; omega⟩) rfl hl.1 rfl (Nat.le_of_ble_eq_true rfl) dX5_placeAtom_92 ⟨Nat.zero_le _, Nat.zero_le _⟩ (fun H locs hP hS => ?_)
        refine lv_istore (lv' := [(12, .int (scl lev)), (11, .int 0), (10, .int 1), (9, .int ((mNu (ML r N d) r n lev cr).1)), (8, .int e_1), (7, .int u_1), (6, .int ((mAt (ML r N d) r n lev cr).1)), (0, .ref (a 0)), (1, .int (nI n)), (2, .int lev), (3, .int cr), (4, .int X), (5, .int Y)]) hx hb dX5_placeAtom_95 hl (by decide) rfl (fun ls hl => ?_)
        refine lv_aload_n hx hb dX5_placeAtom_97 rfl (lv_at hl 7 rfl) ?_
        refine lv_iload_n hx hb dX5_placeAtom_98 rfl (lv_at hl 8 rfl) ?_
        refine lv_iload_n hx hb dX5_placeAtom_99 rfl (lv_at hl 9 rfl) ?_
        refine lv_iload_n hx hb dX5_placeAtom_100 rfl (lv_at hl 10 rfl) ?_
        refine lv_iload hx hb dX5_placeAtom_101 (lv_at hl 1 rfl) ?_
        refine lv_if_eq (tgt := 120) hx hb dX5_placeAtom_103 (by decide) (fun c_103 => ?_) (fun c_103 => absurd (by decide) c_103)
        refine lv_iload hx hb dX5_placeAtom_120 (lv_at hl 11 rfl) ?_
        refine lv_iload hx hb dX5_placeAtom_122 (lv_at hl 12 rfl) ?_
        refine kcVv C0 hP hD hS (c_X5_placeNucleus l D cI a v r n N d rk lev cr X Y c it z_2 ((mNu (ML r N d) r n lev cr).1) ((mNu (ML r N d) r n lev cr).2.1) ((mNu (ML r N d) r n lev cr).2.2) u_2 e_2 hM hPl hN hN1 hn hd hR hat (by omega)) (cwV 5 hts gX5_placeAtom_X5_placeNucleus rfl rfl rfl (by decide +kernel) ⟨by dsimp only [rmL, rmF, rmN, rmA, rpL, rpF, rpN, rpA]; omega, by dsimp only [rmL, rmF, rmN, rmA, rpL, rpF, rpN, rpA]; omega⟩) 0 5 rfl rfl rfl hl.1 rfl (Nat.le_of_ble_eq_true rfl) dX5_placeAtom_124 ⟨Nat.zero_le _, Nat.zero_le _⟩ (fun u H locs hq hP hD hS => ?_)
        obtain ⟨w_6, h_6, d_6, u_6, e_6, z_6⟩ := u
        have hz_6 : ∀ i4, rk (r 2 n) < rk (r 2 i4) → ∀ k4, k4 < 16 → z_6 (16 * i4 + k4) = z_2 (16 * i4 + k4) := hq
        have hP : va_P D vwCl (wM cI a (vU (vU (vU (vU (vU (vU v 14 (nI (c + (pNu (ML r N d) (PL r N d) r n lev cr X Y).length))) 19 w_6) 20 h_6) 21 d_6) 22 u_6) 23 e_6) (rU (rU r 11 (ptI it c (pNu (ML r N d) (PL r N d) r n lev cr X Y))) 12 z_6)) H := hP
        have hD : va_D A (wM cI a (vU (vU (vU (vU (vU (vU v 14 (nI (c + (pNu (ML r N d) (PL r N d) r n lev cr X Y).length))) 19 w_6) 20 h_6) 21 d_6) 22 u_6) 23 e_6) (rU (rU r 11 (ptI it c (pNu (ML r N d) (PL r N d) r n lev cr X Y))) 12 z_6)) := hD
        refine lv_aload_n hx hb dX5_placeAtom_127 rfl (lv_at hl 7 rfl) ?_
        refine va_get (D := D) (ci := 5) (v := .ref (a 8)) (C := RX5) (T := TX5) (N := 25) hx hb hts hin_X5 hown hK hP 0 rfl rfl 11 (by decide) hf35 (fun _ h9 => h9) rfl dX5_placeAtom_128 ?_
        refine lv_iload_n hx hb dX5_placeAtom_131 rfl (lv_at hl 8 rfl) ?_
        refine ra_ld (f := (r 8)) C0 hP 8 rfl n rfl (by omega) (by decide) dX5_placeAtom_132 ?_
        refine lv_iconst (v := (-1)) hx hb dX5_placeAtom_133 (by decide) ?_
        refine lv_icmp_eq (tgt := 191) hx hb dX5_placeAtom_134 (by decide) (fun c_134 => absurd c_134 c_45) (fun c_134 => ?_)
        have hs8 := hq8 c_45
        refine lv_iload hx hb dX5_placeAtom_137 (lv_at hl 1 rfl) ?_
        refine lv_if_eq (tgt := 164) hx hb dX5_placeAtom_139 (by decide) (fun c_139 => ?_) (fun c_139 => absurd (by decide) c_139)
        refine lv_iload hx hb dX5_placeAtom_164 (lv_at hl 3 rfl) ?_
        refine lv_istore (lv' := [(13, .int ((mNu (ML r N d) r n lev cr).1)), (12, .int (scl lev)), (11, .int 0), (10, .int 1), (9, .int ((mNu (ML r N d) r n lev cr).1)), (8, .int e_1), (7, .int u_1), (6, .int ((mAt (ML r N d) r n lev cr).1)), (0, .ref (a 0)), (1, .int (nI n)), (2, .int lev), (3, .int cr), (4, .int X), (5, .int Y)]) hx hb dX5_placeAtom_166 hl (by decide) rfl (fun ls hl => ?_)
        refine lv_aload_n hx hb dX5_placeAtom_168 rfl (lv_at hl 8 rfl) ?_
        refine lv_aload_n hx hb dX5_placeAtom_169 rfl (lv_at hl 8 rfl) ?_
        refine va_get (D := D) (ci := 5) (v := .ref (a 8)) (C := RX5) (T := TX5) (N := 25) hx hb hts hin_X5 hown hK hP 0 rfl rfl 11 (by decide) hf35 (fun _ h9 => h9) rfl dX5_placeAtom_170 ?_
        refine lv_iload_n hx hb dX5_placeAtom_173 rfl (lv_at hl 9 rfl) ?_
        refine ra_ld (f := (r 8)) C0 hP 8 rfl n rfl (by omega) (by decide) dX5_placeAtom_174 ?_
        refine lv_iload hx hb dX5_placeAtom_175 (lv_at hl 1 rfl) ?_
        refine lv_iload_n hx hb dX5_placeAtom_177 rfl (lv_at hl 11 rfl) ?_
        refine lv_iload hx hb dX5_placeAtom_178 (lv_at hl 12 rfl) ?_
        refine lv_iload hx hb dX5_placeAtom_180 (lv_at hl 0 rfl) ?_
        refine lv_iadd hx hb dX5_placeAtom_182 ?_
        refine lv_iload hx hb dX5_placeAtom_183 (lv_at hl 13 rfl) ?_
        refine lv_iload hx hb dX5_placeAtom_185 (lv_at hl 6 rfl) ?_
        refine lv_iadd hx hb dX5_placeAtom_187 ?_
        refine lv_eqi (show Y + u_1 = Y + atU (ML r N d) r n lev cr from by rw [(hz_1.2 (fun q => c_45 q.1)).1]) ?_
        refine kcVv C0 hP hD hS (hPl ((r 8) n) (scl lev) cr (X + (mNu (ML r N d) r n lev cr).1) (Y + atU (ML r N d) r n lev cr) (c + (pNu (ML r N d) (PL r N d) r n lev cr X Y).length) (ptI it c (pNu (ML r N d) (PL r N d) r n lev cr X Y)) z_6 w_6 h_6 d_6 u_6 e_6 (by omega) (by rw [if_neg c_45] at hcl2; omega)) (cwV 5 hts gX5_placeAtom_X5_placeList rfl rfl rfl (by decide +kernel) ⟨by dsimp only [rmL, rmF, rmN, rmA, rpL, rpF, rpN, rpA]; omega, by dsimp only [rmL, rmF, rmN, rmA, rpL, rpF, rpN, rpA]; omega⟩) 0 5 rfl rfl rfl hl.1 rfl (Nat.le_of_ble_eq_true rfl) dX5_placeAtom_188 ⟨Nat.zero_le _, Nat.zero_le _⟩ (fun u H locs hq hP hD hS => ?_)
        obtain ⟨w_7, h_7, d_7, u_7, e_7, z_7⟩ := u
        have hz_7 : ∀ i4, rk ((r 8) n) < rk (r 2 i4) → ∀ k4, k4 < 16 → z_7 (16 * i4 + k4) = z_6 (16 * i4 + k4) := hq
        have hP : va_P D vwCl (wM cI a (vU (vU (vU (vU (vU (vU v 14 (nI ((c + (pNu (ML r N d) (PL r N d) r n lev cr X Y).length) + (PL r N d ((r 8) n) (scl lev) cr (X + (mNu (ML r N d) r n lev cr).1) (Y + atU (ML r N d) r n lev cr)).length))) 19 w_7) 20 h_7) 21 d_7) 22 u_7) 23 e_7) (rU (rU r 11 (ptI (ptI it c (pNu (ML r N d) (PL r N d) r n lev cr X Y)) (c + (pNu (ML r N d) (PL r N d) r n lev cr X Y).length) (PL r N d ((r 8) n) (scl lev) cr (X + (mNu (ML r N d) r n lev cr).1) (Y + atU (ML r N d) r n lev cr)))) 12 z_7)) H := hP
        have hD : va_D A (wM cI a (vU (vU (vU (vU (vU (vU v 14 (nI ((c + (pNu (ML r N d) (PL r N d) r n lev cr X Y).length) + (PL r N d ((r 8) n) (scl lev) cr (X + (mNu (ML r N d) r n lev cr).1) (Y + atU (ML r N d) r n lev cr)).length))) 19 w_7) 20 h_7) 21 d_7) 22 u_7) 23 e_7) (rU (rU r 11 (ptI (ptI it c (pNu (ML r N d) (PL r N d) r n lev cr X Y)) (c + (pNu (ML r N d) (PL r N d) r n lev cr X Y).length) (PL r N d ((r 8) n) (scl lev) cr (X + (mNu (ML r N d) r n lev cr).1) (Y + atU (ML r N d) r n lev cr)))) 12 z_7)) := hD
        refine lv_aload_n hx hb dX5_placeAtom_191 rfl (lv_at hl 8 rfl) ?_
        refine va_get (D := D) (ci := 5) (v := .ref (a 9)) (C := RX5) (T := TX5) (N := 25) hx hb hts hin_X5 hown hK hP 0 rfl rfl 12 (by decide) hf38 (fun _ h9 => h9) rfl dX5_placeAtom_192 ?_
        refine lv_iload_n hx hb dX5_placeAtom_195 rfl (lv_at hl 9 rfl) ?_
        refine ra_ld (f := (r 9)) C0 hP 9 rfl n rfl (by omega) (by decide) dX5_placeAtom_196 ?_
        refine lv_iconst (v := (-1)) hx hb dX5_placeAtom_197 (by decide) ?_
        refine lv_icmp_eq (tgt := 255) hx hb dX5_placeAtom_198 (by decide) (fun c_198 => ?_) (fun c_198 => ?_)
        · skip
          have hL : (pAt (ML r N d) (PL r N d) r n lev cr X Y) = (pNu (ML r N d) (PL r N d) r n lev cr X Y) ++ (PL r N d ((r 8) n) (scl lev) cr (X + (mNu (ML r N d) r n lev cr).1) (Y + atU (ML r N d) r n lev cr)) := by rw [pAt_f hb9, if_neg c_45, if_pos c_198, List.append_nil]
          have q14 : (nI ((c + (pNu (ML r N d) (PL r N d) r n lev cr X Y).length) + (PL r N d ((r 8) n) (scl lev) cr (X + (mNu (ML r N d) r n lev cr).1) (Y + atU (ML r N d) r n lev cr)).length)) = (nI (c + (pAt (ML r N d) (PL r N d) r n lev cr X Y).length)) := (congrArg nI (pt2 (it := it) hL).2)
          have q11 : (ptI (ptI it c (pNu (ML r N d) (PL r N d) r n lev cr X Y)) (c + (pNu (ML r N d) (PL r N d) r n lev cr X Y).length) (PL r N d ((r 8) n) (scl lev) cr (X + (mNu (ML r N d) r n lev cr).1) (Y + atU (ML r N d) r n lev cr))) = (ptI it c (pAt (ML r N d) (PL r N d) r n lev cr X Y)) := ((pt2 hL).1)
          have hw : (wM cI a (vU (vU (vU (vU (vU (vU v 14 (nI ((c + (pNu (ML r N d) (PL r N d) r n lev cr X Y).length) + (PL r N d ((r 8) n) (scl lev) cr (X + (mNu (ML r N d) r n lev cr).1) (Y + atU (ML r N d) r n lev cr)).length))) 19 w_7) 20 h_7) 21 d_7) 22 u_7) 23 e_7) (rU (rU r 11 (ptI (ptI it c (pNu (ML r N d) (PL r N d) r n lev cr X Y)) (c + (pNu (ML r N d) (PL r N d) r n lev cr X Y).length) (PL r N d ((r 8) n) (scl lev) cr (X + (mNu (ML r N d) r n lev cr).1) (Y + atU (ML r N d) r n lev cr)))) 12 z_7)) = (wM cI a (vU (vU (vU (vU (vU (vU v 14 (nI (c + (pAt (ML r N d) (PL r N d) r n lev cr X Y).length))) 19 w_7) 20 h_7) 21 d_7) 22 u_7) 23 e_7) (rU (rU r 11 (ptI it c (pAt (ML r N d) (PL r N d) r n lev cr X Y))) 12 z_7)) := by rw [q14, q11]
          have hP : va_P D vwCl (wM cI a (vU (vU (vU (vU (vU (vU v 14 (nI (c + (pAt (ML r N d) (PL r N d) r n lev cr X Y).length))) 19 w_7) 20 h_7) 21 d_7) 22 u_7) 23 e_7) (rU (rU r 11 (ptI it c (pAt (ML r N d) (PL r N d) r n lev cr X Y))) 12 z_7)) H := hw ▸ hP
          have hD : va_D A (wM cI a (vU (vU (vU (vU (vU (vU v 14 (nI (c + (pAt (ML r N d) (PL r N d) r n lev cr X Y).length))) 19 w_7) 20 h_7) 21 d_7) 22 u_7) 23 e_7) (rU (rU r 11 (ptI it c (pAt (ML r N d) (PL r N d) r n lev cr X Y))) 12 z_7)) := hw ▸ hD
          exact k_vret C0 (w_7, h_7, d_7, u_7, e_7, z_7) hP hD hS (fun i4 hi k4 hk => by show z_7 (16 * i4 + k4) = sz (16 * i4 + k4); rw [hz_7 i4 (by omega) k4 hk, hz_6 i4 (by omega) k4 hk, hz_2 i4 (by omega) k4 hk, hz_1.1 i4 (by omega) k4 hk]) dX5_placeAtom_255
        · skip
          have hs9 := hq9 c_198
          refine lv_iload hx hb dX5_placeAtom_201 (lv_at hl 2 rfl) ?_
          refine lv_if_eq (tgt := 228) hx hb dX5_placeAtom_203 (by decide) (fun c_203 => ?_) (fun c_203 => absurd (by decide) c_203)
          refine lv_iload hx hb dX5_placeAtom_228 (lv_at hl 4 rfl) ?_
          refine lv_istore (lv' := [(13, .int ((mNu (ML r N d) r n lev cr).1)), (12, .int (scl lev)), (11, .int 0), (10, .int 1), (9, .int ((mNu (ML r N d) r n lev cr).1)), (8, .int e_1), (7, .int u_1), (6, .int ((mAt (ML r N d) r n lev cr).1)), (0, .ref (a 0)), (1, .int (nI n)), (2, .int lev), (3, .int cr), (4, .int X), (5, .int Y)]) hx hb dX5_placeAtom_230 hl (by decide) rfl (fun ls hl => ?_)
          refine lv_aload_n hx hb dX5_placeAtom_232 rfl (lv_at hl 8 rfl) ?_
          refine lv_aload_n hx hb dX5_placeAtom_233 rfl (lv_at hl 8 rfl) ?_
          refine va_get (D := D) (ci := 5) (v := .ref (a 9)) (C := RX5) (T := TX5) (N := 25) hx hb hts hin_X5 hown hK hP 0 rfl rfl 12 (by decide) hf38 (fun _ h9 => h9) rfl dX5_placeAtom_234 ?_
          refine lv_iload_n hx hb dX5_placeAtom_237 rfl (lv_at hl 9 rfl) ?_
          refine ra_ld (f := (r 9)) C0 hP 9 rfl n rfl (by omega) (by decide) dX5_placeAtom_238 ?_
          refine lv_iload hx hb dX5_placeAtom_239 (lv_at hl 1 rfl) ?_
          refine lv_iconst (v := 1) hx hb dX5_placeAtom_241 (by decide) ?_
          refine lv_iload hx hb dX5_placeAtom_242 (lv_at hl 12 rfl) ?_
          refine lv_iload hx hb dX5_placeAtom_244 (lv_at hl 0 rfl) ?_
          refine lv_iadd hx hb dX5_placeAtom_246 ?_
          refine lv_iload hx hb dX5_placeAtom_247 (lv_at hl 13 rfl) ?_
          refine lv_iload hx hb dX5_placeAtom_249 (lv_at hl 5 rfl) ?_
          refine lv_isub hx hb dX5_placeAtom_251 ?_
          refine lv_eqi (show Y - e_1 = Y - atD (ML r N d) r n lev cr from by rw [(hz_1.2 (fun q => c_45 q.1)).2]) ?_
          refine kcVv C0 hP hD hS (hPl ((r 9) n) (scl lev) 1 (X + (mNu (ML r N d) r n lev cr).1) (Y - atD (ML r N d) r n lev cr) ((c + (pNu (ML r N d) (PL r N d) r n lev cr X Y).length) + (PL r N d ((r 8) n) (scl lev) cr (X + (mNu (ML r N d) r n lev cr).1) (Y + atU (ML r N d) r n lev cr)).length) (ptI (ptI it c (pNu (ML r N d) (PL r N d) r n lev cr X Y)) (c + (pNu (ML r N d) (PL r N d) r n lev cr X Y).length) (PL r N d ((r 8) n) (scl lev) cr (X + (mNu (ML r N d) r n lev cr).1) (Y + atU (ML r N d) r n lev cr))) z_7 w_7 h_7 d_7 u_7 e_7 (by omega) (by rw [if_neg c_45, if_neg c_198] at hcl2; omega)) (cwV 5 hts gX5_placeAtom_X5_placeList rfl rfl rfl (by decide +kernel) ⟨by dsimp only [rmL, rmF, rmN, rmA, rpL, rpF, rpN, rpA]; omega, by dsimp only [rmL, rmF, rmN, rmA, rpL, rpF, rpN, rpA]; omega⟩) 0 5 rfl rfl rfl hl.1 rfl (Nat.le_of_ble_eq_true rfl) dX5_placeAtom_252 ⟨Nat.zero_le _, Nat.zero_le _⟩ (fun u H locs hq hP hD hS => ?_)
          obtain ⟨w_8, h_8, d_8, u_8, e_8, z_8⟩ := u
          have hz_8 : ∀ i4, rk ((r 9) n) < rk (r 2 i4) → ∀ k4, k4 < 16 → z_8 (16 * i4 + k4) = z_7 (16 * i4 + k4) := hq
          have hP : va_P D vwCl (wM cI a (vU (vU (vU (vU (vU (vU v 14 (nI (((c + (pNu (ML r N d) (PL r N d) r n lev cr X Y).length) + (PL r N d ((r 8) n) (scl lev) cr (X + (mNu (ML r N d) r n lev cr).1) (Y + atU (ML r N d) r n lev cr)).length) + (PL r N d ((r 9) n) (scl lev) 1 (X + (mNu (ML r N d) r n lev cr).1) (Y - atD (ML r N d) r n lev cr)).length))) 19 w_8) 20 h_8) 21 d_8) 22 u_8) 23 e_8) (rU (rU r 11 (ptI (ptI (ptI it c (pNu (ML r N d) (PL r N d) r n lev cr X Y)) (c + (pNu (ML r N d) (PL r N d) r n lev cr X Y).length) (PL r N d ((r 8) n) (scl lev) cr (X + (mNu (ML r N d) r n lev cr).1) (Y + atU (ML r N d) r n lev cr))) ((c + (pNu (ML r N d) (PL r N d) r n lev cr X Y).length) + (PL r N d ((r 8) n) (scl lev) cr (X + (mNu (ML r N d) r n lev cr).1) (Y + atU (ML r N d) r n lev cr)).length) (PL r N d ((r 9) n) (scl lev) 1 (X + (mNu (ML r N d) r n lev cr).1) (Y - atD (ML r N d) r n lev cr)))) 12 z_8)) H := hP
          have hD : va_D A (wM cI a (vU (vU (vU (vU (vU (vU v 14 (nI (((c + (pNu (ML r N d) (PL r N d) r n lev cr X Y).length) + (PL r N d ((r 8) n) (scl lev) cr (X + (mNu (ML r N d) r n lev cr).1) (Y + atU (ML r N d) r n lev cr)).length) + (PL r N d ((r 9) n) (scl lev) 1 (X + (mNu (ML r N d) r n lev cr).1) (Y - atD (ML r N d) r n lev cr)).length))) 19 w_8) 20 h_8) 21 d_8) 22 u_8) 23 e_8) (rU (rU r 11 (ptI (ptI (ptI it c (pNu (ML r N d) (PL r N d) r n lev cr X Y)) (c + (pNu (ML r N d) (PL r N d) r n lev cr X Y).length) (PL r N d ((r 8) n) (scl lev) cr (X + (mNu (ML r N d) r n lev cr).1) (Y + atU (ML r N d) r n lev cr))) ((c + (pNu (ML r N d) (PL r N d) r n lev cr X Y).length) + (PL r N d ((r 8) n) (scl lev) cr (X + (mNu (ML r N d) r n lev cr).1) (Y + atU (ML r N d) r n lev cr)).length) (PL r N d ((r 9) n) (scl lev) 1 (X + (mNu (ML r N d) r n lev cr).1) (Y - atD (ML r N d) r n lev cr)))) 12 z_8)) := hD
          have hL : (pAt (ML r N d) (PL r N d) r n lev cr X Y) = (pNu (ML r N d) (PL r N d) r n lev cr X Y) ++ (PL r N d ((r 8) n) (scl lev) cr (X + (mNu (ML r N d) r n lev cr).1) (Y + atU (ML r N d) r n lev cr)) ++ (PL r N d ((r 9) n) (scl lev) 1 (X + (mNu (ML r N d) r n lev cr).1) (Y - atD (ML r N d) r n lev cr)) := by rw [pAt_f hb9, if_neg c_45, if_neg c_198]
          have q14 : (nI (((c + (pNu (ML r N d) (PL r N d) r n lev cr X Y).length) + (PL r N d ((r 8) n) (scl lev) cr (X + (mNu (ML r N d) r n lev cr).1) (Y + atU (ML r N d) r n lev cr)).length) + (PL r N d ((r 9) n) (scl lev) 1 (X + (mNu (ML r N d) r n lev cr).1) (Y - atD (ML r N d) r n lev cr)).length)) = (nI (c + (pAt (ML r N d) (PL r N d) r n lev cr X Y).length)) := (congrArg nI (pt3 (it := it) hL).2)
          have q11 : (ptI (ptI (ptI it c (pNu (ML r N d) (PL r N d) r n lev cr X Y)) (c + (pNu (ML r N d) (PL r N d) r n lev cr X Y).length) (PL r N d ((r 8) n) (scl lev) cr (X + (mNu (ML r N d) r n lev cr).1) (Y + atU (ML r N d) r n lev cr))) ((c + (pNu (ML r N d) (PL r N d) r n lev cr X Y).length) + (PL r N d ((r 8) n) (scl lev) cr (X + (mNu (ML r N d) r n lev cr).1) (Y + atU (ML r N d) r n lev cr)).length) (PL r N d ((r 9) n) (scl lev) 1 (X + (mNu (ML r N d) r n lev cr).1) (Y - atD (ML r N d) r n lev cr))) = (ptI it c (pAt (ML r N d) (PL r N d) r n lev cr X Y)) := ((pt3 hL).1)
          have hw : (wM cI a (vU (vU (vU (vU (vU (vU v 14 (nI (((c + (pNu (ML r N d) (PL r N d) r n lev cr X Y).length) + (PL r N d ((r 8) n) (scl lev) cr (X + (mNu (ML r N d) r n lev cr).1) (Y + atU (ML r N d) r n lev cr)).length) + (PL r N d ((r 9) n) (scl lev) 1 (X + (mNu (ML r N d) r n lev cr).1) (Y - atD (ML r N d) r n lev cr)).length))) 19 w_8) 20 h_8) 21 d_8) 22 u_8) 23 e_8) (rU (rU r 11 (ptI (ptI (ptI it c (pNu (ML r N d) (PL r N d) r n lev cr X Y)) (c + (pNu (ML r N d) (PL r N d) r n lev cr X Y).length) (PL r N d ((r 8) n) (scl lev) cr (X + (mNu (ML r N d) r n lev cr).1) (Y + atU (ML r N d) r n lev cr))) ((c + (pNu (ML r N d) (PL r N d) r n lev cr X Y).length) + (PL r N d ((r 8) n) (scl lev) cr (X + (mNu (ML r N d) r n lev cr).1) (Y + atU (ML r N d) r n lev cr)).length) (PL r N d ((r 9) n) (scl lev) 1 (X + (mNu (ML r N d) r n lev cr).1) (Y - atD (ML r N d) r n lev cr)))) 12 z_8)) = (wM cI a (vU (vU (vU (vU (vU (vU v 14 (nI (c + (pAt (ML r N d) (PL r N d) r n lev cr X Y).length))) 19 w_8) 20 h_8) 21 d_8) 22 u_8) 23 e_8) (rU (rU r 11 (ptI it c (pAt (ML r N d) (PL r N d) r n lev cr X Y))) 12 z_8)) := by rw [q14, q11]
          have hP : va_P D vwCl (wM cI a (vU (vU (vU (vU (vU (vU v 14 (nI (c + (pAt (ML r N d) (PL r N d) r n lev cr X Y).length))) 19 w_8) 20 h_8) 21 d_8) 22 u_8) 23 e_8) (rU (rU r 11 (ptI it c (pAt (ML r N d) (PL r N d) r n lev cr X Y))) 12 z_8)) H := hw ▸ hP
          have hD : va_D A (wM cI a (vU (vU (vU (vU (vU (vU v 14 (nI (c + (pAt (ML r N d) (PL r N d) r n lev cr X Y).length))) 19 w_8) 20 h_8) 21 d_8) 22 u_8) 23 e_8) (rU (rU r 11 (ptI it c (pAt (ML r N d) (PL r N d) r n lev cr X Y))) 12 z_8)) := hw ▸ hD
          exact k_vret C0 (w_8, h_8, d_8, u_8, e_8, z_8) hP hD hS (fun i4 hi k4 hk => by show z_8 (16 * i4 + k4) = sz (16 * i4 + k4); rw [hz_8 i4 (by omega) k4 hk, hz_7 i4 (by omega) k4 hk, hz_6 i4 (by omega) k4 hk, hz_2 i4 (by omega) k4 hk, hz_1.1 i4 (by omega) k4 hk]) dX5_placeAtom_255
      · skip
        refine lv_iconst (v := 1) hx hb dX5_placeAtom_84 (by decide) ?_
        refine lv_goto (tgt := 89) hx hb dX5_placeAtom_85 (by decide) ?_
        refine lv_istore (lv' := [(11, .int 1), (10, .int 1), (9, .int ((mNu (ML r N d) r n lev cr).1)), (8, .int e_1), (7, .int u_1), (6, .int ((mAt (ML r N d) r n lev cr).1)), (0, .ref (a 0)), (1, .int (nI n)), (2, .int lev), (3, .int cr), (4, .int X), (5, .int Y)]) hx hb dX5_placeAtom_89 hl (by decide) rfl (fun ls hl => ?_)
        have hb9 : isL r n lev = true := isL_t (fun q => c_45 q.1) c_77 c_81
        have hcl2 := hcl
        rw [pAt_t hb9, List.length_append, List.length_append] at hcl2
        refine lv_iload_n hx hb dX5_placeAtom_91 rfl (lv_at hl 8 rfl) ?_
        refine kcS (ans := (scl lev)) C0 hP hS (c_X5_scriptLevel l D cI lev ) (va_cwS 1 hts gX5_placeAtom_X5_scriptLevel rfl rfl rfl (by decide +kernel) ⟨by dsimp only [rmL, rmF, rmN, rmA, rpL, rpF, rpN, rpA]; omega, by dsimp only [rmL, rmF, rmN, rmA, rpL, rpF, rpN, rpA]; omega⟩) rfl hl.1 rfl (Nat.le_of_ble_eq_true rfl) dX5_placeAtom_92 ⟨Nat.zero_le _, Nat.zero_le _⟩ (fun H locs hP hS => ?_)
        refine lv_istore (lv' := [(12, .int (scl lev)), (11, .int 1), (10, .int 1), (9, .int ((mNu (ML r N d) r n lev cr).1)), (8, .int e_1), (7, .int u_1), (6, .int ((mAt (ML r N d) r n lev cr).1)), (0, .ref (a 0)), (1, .int (nI n)), (2, .int lev), (3, .int cr), (4, .int X), (5, .int Y)]) hx hb dX5_placeAtom_95 hl (by decide) rfl (fun ls hl => ?_)
        refine lv_aload_n hx hb dX5_placeAtom_97 rfl (lv_at hl 7 rfl) ?_
        refine lv_iload_n hx hb dX5_placeAtom_98 rfl (lv_at hl 8 rfl) ?_
        refine lv_iload_n hx hb dX5_placeAtom_99 rfl (lv_at hl 9 rfl) ?_
        refine lv_iload_n hx hb dX5_placeAtom_100 rfl (lv_at hl 10 rfl) ?_
        refine lv_iload hx hb dX5_placeAtom_101 (lv_at hl 1 rfl) ?_
        refine lv_if_eq (tgt := 120) hx hb dX5_placeAtom_103 (by decide) (fun c_103 => absurd c_103 (by decide)) (fun c_103 => ?_)
        refine lv_iload hx hb dX5_placeAtom_106 (lv_at hl 11 rfl) ?_
        refine lv_iload hx hb dX5_placeAtom_108 (lv_at hl 6 rfl) ?_
        refine lv_iload hx hb dX5_placeAtom_110 (lv_at hl 3 rfl) ?_
        refine lv_isub hx hb dX5_placeAtom_112 ?_
        refine kcS (ans := (((mAt (ML r N d) r n lev cr).1 - (mNu (ML r N d) r n lev cr).1) / 2)) C0 hP hS (c_X5_half l D cI ((mAt (ML r N d) r n lev cr).1 - (mNu (ML r N d) r n lev cr).1) ) (va_cwS 1 hts gX5_placeAtom_X5_half rfl rfl rfl (by decide +kernel) ⟨by dsimp only [rmL, rmF, rmN, rmA, rpL, rpF, rpN, rpA]; omega, by dsimp only [rmL, rmF, rmN, rmA, rpL, rpF, rpN, rpA]; omega⟩) rfl hl.1 rfl (Nat.le_of_ble_eq_true rfl) dX5_placeAtom_113 ⟨Nat.zero_le _, Nat.zero_le _⟩ (fun H locs hP hS => ?_)
        refine lv_iadd hx hb dX5_placeAtom_116 ?_
        refine lv_goto (tgt := 122) hx hb dX5_placeAtom_117 (by decide) ?_
        refine lv_iload hx hb dX5_placeAtom_122 (lv_at hl 12 rfl) ?_
        refine kcVv C0 hP hD hS (c_X5_placeNucleus l D cI a v r n N d rk lev cr (X + (((mAt (ML r N d) r n lev cr).1 - (mNu (ML r N d) r n lev cr).1) / 2)) Y c it z_2 ((mNu (ML r N d) r n lev cr).1) ((mNu (ML r N d) r n lev cr).2.1) ((mNu (ML r N d) r n lev cr).2.2) u_2 e_2 hM hPl hN hN1 hn hd hR hat (by omega)) (cwV 5 hts gX5_placeAtom_X5_placeNucleus rfl rfl rfl (by decide +kernel) ⟨by dsimp only [rmL, rmF, rmN, rmA, rpL, rpF, rpN, rpA]; omega, by dsimp only [rmL, rmF, rmN, rmA, rpL, rpF, rpN, rpA]; omega⟩) 0 5 rfl rfl rfl hl.1 rfl (Nat.le_of_ble_eq_true rfl) dX5_placeAtom_124 ⟨Nat.zero_le _, Nat.zero_le _⟩ (fun u H locs hq hP hD hS => ?_)
        obtain ⟨w_9, h_9, d_9, u_9, e_9, z_9⟩ := u
        have hz_9 : ∀ i4, rk (r 2 n) < rk (r 2 i4) → ∀ k4, k4 < 16 → z_9 (16 * i4 + k4) = z_2 (16 * i4 + k4) := hq
        have hP : va_P D vwCl (wM cI a (vU (vU (vU (vU (vU (vU v 14 (nI (c + (pNu (ML r N d) (PL r N d) r n lev cr (X + (((mAt (ML r N d) r n lev cr).1 - (mNu (ML r N d) r n lev cr).1) / 2)) Y).length))) 19 w_9) 20 h_9) 21 d_9) 22 u_9) 23 e_9) (rU (rU r 11 (ptI it c (pNu (ML r N d) (PL r N d) r n lev cr (X + (((mAt (ML r N d) r n lev cr).1 - (mNu (ML r N d) r n lev cr).1) / 2)) Y))) 12 z_9)) H := hP
        have hD : va_D A (wM cI a (vU (vU (vU (vU (vU (vU v 14 (nI (c + (pNu (ML r N d) (PL r N d) r n lev cr (X + (((mAt (ML r N d) r n lev cr).1 - (mNu (ML r N d) r n lev cr).1) / 2)) Y).length))) 19 w_9) 20 h_9) 21 d_9) 22 u_9) 23 e_9) (rU (rU r 11 (ptI it c (pNu (ML r N d) (PL r N d) r n lev cr (X + (((mAt (ML r N d) r n lev cr).1 - (mNu (ML r N d) r n lev cr).1) / 2)) Y))) 12 z_9)) := hD
        refine lv_aload_n hx hb dX5_placeAtom_127 rfl (lv_at hl 7 rfl) ?_
        refine va_get (D := D) (ci := 5) (v := .ref (a 8)) (C := RX5) (T := TX5) (N := 25) hx hb hts hin_X5 hown hK hP 0 rfl rfl 11 (by decide) hf35 (fun _ h9 => h9) rfl dX5_placeAtom_128 ?_
        refine lv_iload_n hx hb dX5_placeAtom_131 rfl (lv_at hl 8 rfl) ?_
        refine ra_ld (f := (r 8)) C0 hP 8 rfl n rfl (by omega) (by decide) dX5_placeAtom_132 ?_
        refine lv_iconst (v := (-1)) hx hb dX5_placeAtom_133 (by decide) ?_
        refine lv_icmp_eq (tgt := 191) hx hb dX5_placeAtom_134 (by decide) (fun c_134 => absurd c_134 c_45) (fun c_134 => ?_)
        have hs8 := hq8 c_45
        refine lv_iload hx hb dX5_placeAtom_137 (lv_at hl 1 rfl) ?_
        refine lv_if_eq (tgt := 164) hx hb dX5_placeAtom_139 (by decide) (fun c_139 => absurd c_139 (by decide)) (fun c_139 => ?_)
        refine lv_iload hx hb dX5_placeAtom_142 (lv_at hl 6 rfl) ?_
        refine lv_aload_n hx hb dX5_placeAtom_144 rfl (lv_at hl 7 rfl) ?_
        refine lv_aload_n hx hb dX5_placeAtom_145 rfl (lv_at hl 7 rfl) ?_
        refine va_get (D := D) (ci := 5) (v := .ref (a 8)) (C := RX5) (T := TX5) (N := 25) hx hb hts hin_X5 hown hK hP 0 rfl rfl 11 (by decide) hf35 (fun _ h9 => h9) rfl dX5_placeAtom_146 ?_
        refine lv_iload_n hx hb dX5_placeAtom_149 rfl (lv_at hl 8 rfl) ?_
        refine ra_ld (f := (r 8)) C0 hP 8 rfl n rfl (by omega) (by decide) dX5_placeAtom_150 ?_
        refine lv_iload hx hb dX5_placeAtom_151 (lv_at hl 0 rfl) ?_
        refine lv_iload_n hx hb dX5_placeAtom_153 rfl (lv_at hl 10 rfl) ?_
        refine kcV C0 hP hD hS (c_X5_widthOf l D cI a (vU v 14 (nI (c + (pNu (ML r N d) (PL r N d) r n lev cr (X + (((mAt (ML r N d) r n lev cr).1 - (mNu (ML r N d) r n lev cr).1) / 2)) Y).length))) r ((r 8) n) (scl lev) cr N d rk (ptI it c (pNu (ML r N d) (PL r N d) r n lev cr (X + (((mAt (ML r N d) r n lev cr).1 - (mNu (ML r N d) r n lev cr).1) / 2)) Y)) z_9 w_9 h_9 d_9 u_9 e_9 (hM (vU v 14 (nI (c + (pNu (ML r N d) (PL r N d) r n lev cr (X + (((mAt (ML r N d) r n lev cr).1 - (mNu (ML r N d) r n lev cr).1) / 2)) Y).length))) hN) (by omega)) (cwV 3 hts gX5_placeAtom_X5_widthOf rfl rfl rfl (by decide +kernel) ⟨by dsimp only [rmL, rmF, rmN, rmA, rpL, rpF, rpN, rpA]; omega, by dsimp only [rmL, rmF, rmN, rmA, rpL, rpF, rpN, rpA]; omega⟩) 0 5 rfl rfl rfl hl.1 rfl (Nat.le_of_ble_eq_true rfl) dX5_placeAtom_154 ⟨Nat.zero_le _, Nat.zero_le _⟩ (fun q_10 u H locs hq hP hD hS => ?_)
        obtain ⟨u_10, e_10, z_10⟩ := u
        obtain ⟨hqe, hq⟩ := hq
        subst hqe
        have hz_10 : ∀ i4, rk ((r 8) n) < rk (r 2 i4) → ∀ k4, k4 < 16 → z_10 (16 * i4 + k4) = z_9 (16 * i4 + k4) := hq
        have hP : va_P D vwCl (wM cI a (vU (vU (vU (vU (vU (vU v 14 (nI (c + (pNu (ML r N d) (PL r N d) r n lev cr (X + (((mAt (ML r N d) r n lev cr).1 - (mNu (ML r N d) r n lev cr).1) / 2)) Y).length))) 19 ((ML r N d ((r 8) n) (scl lev) cr).1)) 20 ((ML r N d ((r 8) n) (scl lev) cr).2.1)) 21 ((ML r N d ((r 8) n) (scl lev) cr).2.2)) 22 u_10) 23 e_10) (rU (rU r 11 (ptI it c (pNu (ML r N d) (PL r N d) r n lev cr (X + (((mAt (ML r N d) r n lev cr).1 - (mNu (ML r N d) r n lev cr).1) / 2)) Y))) 12 z_10)) H := hP
        have hD : va_D A (wM cI a (vU (vU (vU (vU (vU (vU v 14 (nI (c + (pNu (ML r N d) (PL r N d) r n lev cr (X + (((mAt (ML r N d) r n lev cr).1 - (mNu (ML r N d) r n lev cr).1) / 2)) Y).length))) 19 ((ML r N d ((r 8) n) (scl lev) cr).1)) 20 ((ML r N d ((r 8) n) (scl lev) cr).2.1)) 21 ((ML r N d ((r 8) n) (scl lev) cr).2.2)) 22 u_10) 23 e_10) (rU (rU r 11 (ptI it c (pNu (ML r N d) (PL r N d) r n lev cr (X + (((mAt (ML r N d) r n lev cr).1 - (mNu (ML r N d) r n lev cr).1) / 2)) Y))) 12 z_10)) := hD
        refine lv_isub hx hb dX5_placeAtom_157 ?_
        refine kcS (ans := (((mAt (ML r N d) r n lev cr).1 - (ML r N d ((r 8) n) (scl lev) cr).1) / 2)) C0 hP hS (c_X5_half l D cI ((mAt (ML r N d) r n lev cr).1 - (ML r N d ((r 8) n) (scl lev) cr).1) ) (va_cwS 1 hts gX5_placeAtom_X5_half rfl rfl rfl (by decide +kernel) ⟨by dsimp only [rmL, rmF, rmN, rmA, rpL, rpF, rpN, rpA]; omega, by dsimp only [rmL, rmF, rmN, rmA, rpL, rpF, rpN, rpA]; omega⟩) rfl hl.1 rfl (Nat.le_of_ble_eq_true rfl) dX5_placeAtom_158 ⟨Nat.zero_le _, Nat.zero_le _⟩ (fun H locs hP hS => ?_)
        refine lv_goto (tgt := 166) hx hb dX5_placeAtom_161 (by decide) ?_
        refine lv_istore (lv' := [(13, .int (((mAt (ML r N d) r n lev cr).1 - (ML r N d ((r 8) n) (scl lev) cr).1) / 2)), (12, .int (scl lev)), (11, .int 1), (10, .int 1), (9, .int ((mNu (ML r N d) r n lev cr).1)), (8, .int e_1), (7, .int u_1), (6, .int ((mAt (ML r N d) r n lev cr).1)), (0, .ref (a 0)), (1, .int (nI n)), (2, .int lev), (3, .int cr), (4, .int X), (5, .int Y)]) hx hb dX5_placeAtom_166 hl (by decide) rfl (fun ls hl => ?_)
        refine lv_aload_n hx hb dX5_placeAtom_168 rfl (lv_at hl 8 rfl) ?_
        refine lv_aload_n hx hb dX5_placeAtom_169 rfl (lv_at hl 8 rfl) ?_
        refine va_get (D := D) (ci := 5) (v := .ref (a 8)) (C := RX5) (T := TX5) (N := 25) hx hb hts hin_X5 hown hK hP 0 rfl rfl 11 (by decide) hf35 (fun _ h9 => h9) rfl dX5_placeAtom_170 ?_
        refine lv_iload_n hx hb dX5_placeAtom_173 rfl (lv_at hl 9 rfl) ?_
        refine ra_ld (f := (r 8)) C0 hP 8 rfl n rfl (by omega) (by decide) dX5_placeAtom_174 ?_
        refine lv_iload hx hb dX5_placeAtom_175 (lv_at hl 1 rfl) ?_
        refine lv_iload_n hx hb dX5_placeAtom_177 rfl (lv_at hl 11 rfl) ?_
        refine lv_iload hx hb dX5_placeAtom_178 (lv_at hl 12 rfl) ?_
        refine lv_iload hx hb dX5_placeAtom_180 (lv_at hl 0 rfl) ?_
        refine lv_iadd hx hb dX5_placeAtom_182 ?_
        refine lv_iload hx hb dX5_placeAtom_183 (lv_at hl 13 rfl) ?_
        refine lv_iload hx hb dX5_placeAtom_185 (lv_at hl 6 rfl) ?_
        refine lv_iadd hx hb dX5_placeAtom_187 ?_
        refine lv_eqi (show Y + u_1 = Y + atU (ML r N d) r n lev cr from by rw [(hz_1.2 (fun q => c_45 q.1)).1]) ?_
        refine kcVv C0 hP hD hS (hPl ((r 8) n) (scl lev) cr (X + (((mAt (ML r N d) r n lev cr).1 - (ML r N d ((r 8) n) (scl lev) cr).1) / 2)) (Y + atU (ML r N d) r n lev cr) (c + (pNu (ML r N d) (PL r N d) r n lev cr (X + (((mAt (ML r N d) r n lev cr).1 - (mNu (ML r N d) r n lev cr).1) / 2)) Y).length) (ptI it c (pNu (ML r N d) (PL r N d) r n lev cr (X + (((mAt (ML r N d) r n lev cr).1 - (mNu (ML r N d) r n lev cr).1) / 2)) Y)) z_10 ((ML r N d ((r 8) n) (scl lev) cr).1) ((ML r N d ((r 8) n) (scl lev) cr).2.1) ((ML r N d ((r 8) n) (scl lev) cr).2.2) u_10 e_10 (by omega) (by rw [if_neg c_45] at hcl2; omega)) (cwV 5 hts gX5_placeAtom_X5_placeList rfl rfl rfl (by decide +kernel) ⟨by dsimp only [rmL, rmF, rmN, rmA, rpL, rpF, rpN, rpA]; omega, by dsimp only [rmL, rmF, rmN, rmA, rpL, rpF, rpN, rpA]; omega⟩) 0 5 rfl rfl rfl hl.1 rfl (Nat.le_of_ble_eq_true rfl) dX5_placeAtom_188 ⟨Nat.zero_le _, Nat.zero_le _⟩ (fun u H locs hq hP hD hS => ?_)
        obtain ⟨w_11, h_11, d_11, u_11, e_11, z_11⟩ := u
        have hz_11 : ∀ i4, rk ((r 8) n) < rk (r 2 i4) → ∀ k4, k4 < 16 → z_11 (16 * i4 + k4) = z_10 (16 * i4 + k4) := hq
        have hP : va_P D vwCl (wM cI a (vU (vU (vU (vU (vU (vU v 14 (nI ((c + (pNu (ML r N d) (PL r N d) r n lev cr (X + (((mAt (ML r N d) r n lev cr).1 - (mNu (ML r N d) r n lev cr).1) / 2)) Y).length) + (PL r N d ((r 8) n) (scl lev) cr (X + (((mAt (ML r N d) r n lev cr).1 - (ML r N d ((r 8) n) (scl lev) cr).1) / 2)) (Y + atU (ML r N d) r n lev cr)).length))) 19 w_11) 20 h_11) 21 d_11) 22 u_11) 23 e_11) (rU (rU r 11 (ptI (ptI it c (pNu (ML r N d) (PL r N d) r n lev cr (X + (((mAt (ML r N d) r n lev cr).1 - (mNu (ML r N d) r n lev cr).1) / 2)) Y)) (c + (pNu (ML r N d) (PL r N d) r n lev cr (X + (((mAt (ML r N d) r n lev cr).1 - (mNu (ML r N d) r n lev cr).1) / 2)) Y).length) (PL r N d ((r 8) n) (scl lev) cr (X + (((mAt (ML r N d) r n lev cr).1 - (ML r N d ((r 8) n) (scl lev) cr).1) / 2)) (Y + atU (ML r N d) r n lev cr)))) 12 z_11)) H := hP
        have hD : va_D A (wM cI a (vU (vU (vU (vU (vU (vU v 14 (nI ((c + (pNu (ML r N d) (PL r N d) r n lev cr (X + (((mAt (ML r N d) r n lev cr).1 - (mNu (ML r N d) r n lev cr).1) / 2)) Y).length) + (PL r N d ((r 8) n) (scl lev) cr (X + (((mAt (ML r N d) r n lev cr).1 - (ML r N d ((r 8) n) (scl lev) cr).1) / 2)) (Y + atU (ML r N d) r n lev cr)).length))) 19 w_11) 20 h_11) 21 d_11) 22 u_11) 23 e_11) (rU (rU r 11 (ptI (ptI it c (pNu (ML r N d) (PL r N d) r n lev cr (X + (((mAt (ML r N d) r n lev cr).1 - (mNu (ML r N d) r n lev cr).1) / 2)) Y)) (c + (pNu (ML r N d) (PL r N d) r n lev cr (X + (((mAt (ML r N d) r n lev cr).1 - (mNu (ML r N d) r n lev cr).1) / 2)) Y).length) (PL r N d ((r 8) n) (scl lev) cr (X + (((mAt (ML r N d) r n lev cr).1 - (ML r N d ((r 8) n) (scl lev) cr).1) / 2)) (Y + atU (ML r N d) r n lev cr)))) 12 z_11)) := hD
        refine lv_aload_n hx hb dX5_placeAtom_191 rfl (lv_at hl 8 rfl) ?_
        refine va_get (D := D) (ci := 5) (v := .ref (a 9)) (C := RX5) (T := TX5) (N := 25) hx hb hts hin_X5 hown hK hP 0 rfl rfl 12 (by decide) hf38 (fun _ h9 => h9) rfl dX5_placeAtom_192 ?_
        refine lv_iload_n hx hb dX5_placeAtom_195 rfl (lv_at hl 9 rfl) ?_
        refine ra_ld (f := (r 9)) C0 hP 9 rfl n rfl (by omega) (by decide) dX5_placeAtom_196 ?_
        refine lv_iconst (v := (-1)) hx hb dX5_placeAtom_197 (by decide) ?_
        refine lv_icmp_eq (tgt := 255) hx hb dX5_placeAtom_198 (by decide) (fun c_198 => ?_) (fun c_198 => ?_)
        · skip
          have hL : (pAt (ML r N d) (PL r N d) r n lev cr X Y) = (pNu (ML r N d) (PL r N d) r n lev cr (X + (((mAt (ML r N d) r n lev cr).1 - (mNu (ML r N d) r n lev cr).1) / 2)) Y) ++ (PL r N d ((r 8) n) (scl lev) cr (X + (((mAt (ML r N d) r n lev cr).1 - (ML r N d ((r 8) n) (scl lev) cr).1) / 2)) (Y + atU (ML r N d) r n lev cr)) := by rw [pAt_t hb9, if_neg c_45, if_pos c_198, List.append_nil]
          have q14 : (nI ((c + (pNu (ML r N d) (PL r N d) r n lev cr (X + (((mAt (ML r N d) r n lev cr).1 - (mNu (ML r N d) r n lev cr).1) / 2)) Y).length) + (PL r N d ((r 8) n) (scl lev) cr (X + (((mAt (ML r N d) r n lev cr).1 - (ML r N d ((r 8) n) (scl lev) cr).1) / 2)) (Y + atU (ML r N d) r n lev cr)).length)) = (nI (c + (pAt (ML r N d) (PL r N d) r n lev cr X Y).length)) := (congrArg nI (pt2 (it := it) hL).2)
          have q11 : (ptI (ptI it c (pNu (ML r N d) (PL r N d) r n lev cr (X + (((mAt (ML r N d) r n lev cr).1 - (mNu (ML r N d) r n lev cr).1) / 2)) Y)) (c + (pNu (ML r N d) (PL r N d) r n lev cr (X + (((mAt (ML r N d) r n lev cr).1 - (mNu (ML r N d) r n lev cr).1) / 2)) Y).length) (PL r N d ((r 8) n) (scl lev) cr (X + (((mAt (ML r N d) r n lev cr).1 - (ML r N d ((r 8) n) (scl lev) cr).1) / 2)) (Y + atU (ML r N d) r n lev cr))) = (ptI it c (pAt (ML r N d) (PL r N d) r n lev cr X Y)) := ((pt2 hL).1)
          have hw : (wM cI a (vU (vU (vU (vU (vU (vU v 14 (nI ((c + (pNu (ML r N d) (PL r N d) r n lev cr (X + (((mAt (ML r N d) r n lev cr).1 - (mNu (ML r N d) r n lev cr).1) / 2)) Y).length) + (PL r N d ((r 8) n) (scl lev) cr (X + (((mAt (ML r N d) r n lev cr).1 - (ML r N d ((r 8) n) (scl lev) cr).1) / 2)) (Y + atU (ML r N d) r n lev cr)).length))) 19 w_11) 20 h_11) 21 d_11) 22 u_11) 23 e_11) (rU (rU r 11 (ptI (ptI it c (pNu (ML r N d) (PL r N d) r n lev cr (X + (((mAt (ML r N d) r n lev cr).1 - (mNu (ML r N d) r n lev cr).1) / 2)) Y)) (c + (pNu (ML r N d) (PL r N d) r n lev cr (X + (((mAt (ML r N d) r n lev cr).1 - (mNu (ML r N d) r n lev cr).1) / 2)) Y).length) (PL r N d ((r 8) n) (scl lev) cr (X + (((mAt (ML r N d) r n lev cr).1 - (ML r N d ((r 8) n) (scl lev) cr).1) / 2)) (Y + atU (ML r N d) r n lev cr)))) 12 z_11)) = (wM cI a (vU (vU (vU (vU (vU (vU v 14 (nI (c + (pAt (ML r N d) (PL r N d) r n lev cr X Y).length))) 19 w_11) 20 h_11) 21 d_11) 22 u_11) 23 e_11) (rU (rU r 11 (ptI it c (pAt (ML r N d) (PL r N d) r n lev cr X Y))) 12 z_11)) := by rw [q14, q11]
          have hP : va_P D vwCl (wM cI a (vU (vU (vU (vU (vU (vU v 14 (nI (c + (pAt (ML r N d) (PL r N d) r n lev cr X Y).length))) 19 w_11) 20 h_11) 21 d_11) 22 u_11) 23 e_11) (rU (rU r 11 (ptI it c (pAt (ML r N d) (PL r N d) r n lev cr X Y))) 12 z_11)) H := hw ▸ hP
          have hD : va_D A (wM cI a (vU (vU (vU (vU (vU (vU v 14 (nI (c + (pAt (ML r N d) (PL r N d) r n lev cr X Y).length))) 19 w_11) 20 h_11) 21 d_11) 22 u_11) 23 e_11) (rU (rU r 11 (ptI it c (pAt (ML r N d) (PL r N d) r n lev cr X Y))) 12 z_11)) := hw ▸ hD
          exact k_vret C0 (w_11, h_11, d_11, u_11, e_11, z_11) hP hD hS (fun i4 hi k4 hk => by show z_11 (16 * i4 + k4) = sz (16 * i4 + k4); rw [hz_11 i4 (by omega) k4 hk, hz_10 i4 (by omega) k4 hk, hz_9 i4 (by omega) k4 hk, hz_2 i4 (by omega) k4 hk, hz_1.1 i4 (by omega) k4 hk]) dX5_placeAtom_255
        · skip
          have hs9 := hq9 c_198
          refine lv_iload hx hb dX5_placeAtom_201 (lv_at hl 2 rfl) ?_
          refine lv_if_eq (tgt := 228) hx hb dX5_placeAtom_203 (by decide) (fun c_203 => absurd c_203 (by decide)) (fun c_203 => ?_)
          refine lv_iload hx hb dX5_placeAtom_206 (lv_at hl 7 rfl) ?_
          refine lv_aload_n hx hb dX5_placeAtom_208 rfl (lv_at hl 8 rfl) ?_
          refine lv_aload_n hx hb dX5_placeAtom_209 rfl (lv_at hl 8 rfl) ?_
          refine va_get (D := D) (ci := 5) (v := .ref (a 9)) (C := RX5) (T := TX5) (N := 25) hx hb hts hin_X5 hown hK hP 0 rfl rfl 12 (by decide) hf38 (fun _ h9 => h9) rfl dX5_placeAtom_210 ?_
          refine lv_iload_n hx hb dX5_placeAtom_213 rfl (lv_at hl 9 rfl) ?_
          refine ra_ld (f := (r 9)) C0 hP 9 rfl n rfl (by omega) (by decide) dX5_placeAtom_214 ?_
          refine lv_iload hx hb dX5_placeAtom_215 (lv_at hl 1 rfl) ?_
          refine lv_iconst (v := 1) hx hb dX5_placeAtom_217 (by decide) ?_
          refine kcV C0 hP hD hS (c_X5_widthOf l D cI a (vU v 14 (nI ((c + (pNu (ML r N d) (PL r N d) r n lev cr (X + (((mAt (ML r N d) r n lev cr).1 - (mNu (ML r N d) r n lev cr).1) / 2)) Y).length) + (PL r N d ((r 8) n) (scl lev) cr (X + (((mAt (ML r N d) r n lev cr).1 - (ML r N d ((r 8) n) (scl lev) cr).1) / 2)) (Y + atU (ML r N d) r n lev cr)).length))) r ((r 9) n) (scl lev) 1 N d rk (ptI (ptI it c (pNu (ML r N d) (PL r N d) r n lev cr (X + (((mAt (ML r N d) r n lev cr).1 - (mNu (ML r N d) r n lev cr).1) / 2)) Y)) (c + (pNu (ML r N d) (PL r N d) r n lev cr (X + (((mAt (ML r N d) r n lev cr).1 - (mNu (ML r N d) r n lev cr).1) / 2)) Y).length) (PL r N d ((r 8) n) (scl lev) cr (X + (((mAt (ML r N d) r n lev cr).1 - (ML r N d ((r 8) n) (scl lev) cr).1) / 2)) (Y + atU (ML r N d) r n lev cr))) z_11 w_11 h_11 d_11 u_11 e_11 (hM (vU v 14 (nI ((c + (pNu (ML r N d) (PL r N d) r n lev cr (X + (((mAt (ML r N d) r n lev cr).1 - (mNu (ML r N d) r n lev cr).1) / 2)) Y).length) + (PL r N d ((r 8) n) (scl lev) cr (X + (((mAt (ML r N d) r n lev cr).1 - (ML r N d ((r 8) n) (scl lev) cr).1) / 2)) (Y + atU (ML r N d) r n lev cr)).length))) hN) (by omega)) (cwV 3 hts gX5_placeAtom_X5_widthOf rfl rfl rfl (by decide +kernel) ⟨by dsimp only [rmL, rmF, rmN, rmA, rpL, rpF, rpN, rpA]; omega, by dsimp only [rmL, rmF, rmN, rmA, rpL, rpF, rpN, rpA]; omega⟩) 0 5 rfl rfl rfl hl.1 rfl (Nat.le_of_ble_eq_true rfl) dX5_placeAtom_218 ⟨Nat.zero_le _, Nat.zero_le _⟩ (fun q_12 u H locs hq hP hD hS => ?_)
          obtain ⟨u_12, e_12, z_12⟩ := u
          obtain ⟨hqe, hq⟩ := hq
          subst hqe
          have hz_12 : ∀ i4, rk ((r 9) n) < rk (r 2 i4) → ∀ k4, k4 < 16 → z_12 (16 * i4 + k4) = z_11 (16 * i4 + k4) := hq
          have hP : va_P D vwCl (wM cI a (vU (vU (vU (vU (vU (vU v 14 (nI ((c + (pNu (ML r N d) (PL r N d) r n lev cr (X + (((mAt (ML r N d) r n lev cr).1 - (mNu (ML r N d) r n lev cr).1) / 2)) Y).length) + (PL r N d ((r 8) n) (scl lev) cr (X + (((mAt (ML r N d) r n lev cr).1 - (ML r N d ((r 8) n) (scl lev) cr).1) / 2)) (Y + atU (ML r N d) r n lev cr)).length))) 19 ((ML r N d ((r 9) n) (scl lev) 1).1)) 20 ((ML r N d ((r 9) n) (scl lev) 1).2.1)) 21 ((ML r N d ((r 9) n) (scl lev) 1).2.2)) 22 u_12) 23 e_12) (rU (rU r 11 (ptI (ptI it c (pNu (ML r N d) (PL r N d) r n lev cr (X + (((mAt (ML r N d) r n lev cr).1 - (mNu (ML r N d) r n lev cr).1) / 2)) Y)) (c + (pNu (ML r N d) (PL r N d) r n lev cr (X + (((mAt (ML r N d) r n lev cr).1 - (mNu (ML r N d) r n lev cr).1) / 2)) Y).length) (PL r N d ((r 8) n) (scl lev) cr (X + (((mAt (ML r N d) r n lev cr).1 - (ML r N d ((r 8) n) (scl lev) cr).1) / 2)) (Y + atU (ML r N d) r n lev cr)))) 12 z_12)) H := hP
          have hD : va_D A (wM cI a (vU (vU (vU (vU (vU (vU v 14 (nI ((c + (pNu (ML r N d) (PL r N d) r n lev cr (X + (((mAt (ML r N d) r n lev cr).1 - (mNu (ML r N d) r n lev cr).1) / 2)) Y).length) + (PL r N d ((r 8) n) (scl lev) cr (X + (((mAt (ML r N d) r n lev cr).1 - (ML r N d ((r 8) n) (scl lev) cr).1) / 2)) (Y + atU (ML r N d) r n lev cr)).length))) 19 ((ML r N d ((r 9) n) (scl lev) 1).1)) 20 ((ML r N d ((r 9) n) (scl lev) 1).2.1)) 21 ((ML r N d ((r 9) n) (scl lev) 1).2.2)) 22 u_12) 23 e_12) (rU (rU r 11 (ptI (ptI it c (pNu (ML r N d) (PL r N d) r n lev cr (X + (((mAt (ML r N d) r n lev cr).1 - (mNu (ML r N d) r n lev cr).1) / 2)) Y)) (c + (pNu (ML r N d) (PL r N d) r n lev cr (X + (((mAt (ML r N d) r n lev cr).1 - (mNu (ML r N d) r n lev cr).1) / 2)) Y).length) (PL r N d ((r 8) n) (scl lev) cr (X + (((mAt (ML r N d) r n lev cr).1 - (ML r N d ((r 8) n) (scl lev) cr).1) / 2)) (Y + atU (ML r N d) r n lev cr)))) 12 z_12)) := hD
          refine lv_isub hx hb dX5_placeAtom_221 ?_
          refine kcS (ans := (((mAt (ML r N d) r n lev cr).1 - (ML r N d ((r 9) n) (scl lev) 1).1) / 2)) C0 hP hS (c_X5_half l D cI ((mAt (ML r N d) r n lev cr).1 - (ML r N d ((r 9) n) (scl lev) 1).1) ) (va_cwS 1 hts gX5_placeAtom_X5_half rfl rfl rfl (by decide +kernel) ⟨by dsimp only [rmL, rmF, rmN, rmA, rpL, rpF, rpN, rpA]; omega, by dsimp only [rmL, rmF, rmN, rmA, rpL, rpF, rpN, rpA]; omega⟩) rfl hl.1 rfl (Nat.le_of_ble_eq_true rfl) dX5_placeAtom_222 ⟨Nat.zero_le _, Nat.zero_le _⟩ (fun H locs hP hS => ?_)
          refine lv_goto (tgt := 230) hx hb dX5_placeAtom_225 (by decide) ?_
          refine lv_istore (lv' := [(13, .int (((mAt (ML r N d) r n lev cr).1 - (ML r N d ((r 9) n) (scl lev) 1).1) / 2)), (12, .int (scl lev)), (11, .int 1), (10, .int 1), (9, .int ((mNu (ML r N d) r n lev cr).1)), (8, .int e_1), (7, .int u_1), (6, .int ((mAt (ML r N d) r n lev cr).1)), (0, .ref (a 0)), (1, .int (nI n)), (2, .int lev), (3, .int cr), (4, .int X), (5, .int Y)]) hx hb dX5_placeAtom_230 hl (by decide) rfl (fun ls hl => ?_)
          refine lv_aload_n hx hb dX5_placeAtom_232 rfl (lv_at hl 8 rfl) ?_
          refine lv_aload_n hx hb dX5_placeAtom_233 rfl (lv_at hl 8 rfl) ?_
          refine va_get (D := D) (ci := 5) (v := .ref (a 9)) (C := RX5) (T := TX5) (N := 25) hx hb hts hin_X5 hown hK hP 0 rfl rfl 12 (by decide) hf38 (fun _ h9 => h9) rfl dX5_placeAtom_234 ?_
          refine lv_iload_n hx hb dX5_placeAtom_237 rfl (lv_at hl 9 rfl) ?_
          refine ra_ld (f := (r 9)) C0 hP 9 rfl n rfl (by omega) (by decide) dX5_placeAtom_238 ?_
          refine lv_iload hx hb dX5_placeAtom_239 (lv_at hl 1 rfl) ?_
          refine lv_iconst (v := 1) hx hb dX5_placeAtom_241 (by decide) ?_
          refine lv_iload hx hb dX5_placeAtom_242 (lv_at hl 12 rfl) ?_
          refine lv_iload hx hb dX5_placeAtom_244 (lv_at hl 0 rfl) ?_
          refine lv_iadd hx hb dX5_placeAtom_246 ?_
          refine lv_iload hx hb dX5_placeAtom_247 (lv_at hl 13 rfl) ?_
          refine lv_iload hx hb dX5_placeAtom_249 (lv_at hl 5 rfl) ?_
          refine lv_isub hx hb dX5_placeAtom_251 ?_
          refine lv_eqi (show Y - e_1 = Y - atD (ML r N d) r n lev cr from by rw [(hz_1.2 (fun q => c_45 q.1)).2]) ?_
          refine kcVv C0 hP hD hS (hPl ((r 9) n) (scl lev) 1 (X + (((mAt (ML r N d) r n lev cr).1 - (ML r N d ((r 9) n) (scl lev) 1).1) / 2)) (Y - atD (ML r N d) r n lev cr) ((c + (pNu (ML r N d) (PL r N d) r n lev cr (X + (((mAt (ML r N d) r n lev cr).1 - (mNu (ML r N d) r n lev cr).1) / 2)) Y).length) + (PL r N d ((r 8) n) (scl lev) cr (X + (((mAt (ML r N d) r n lev cr).1 - (ML r N d ((r 8) n) (scl lev) cr).1) / 2)) (Y + atU (ML r N d) r n lev cr)).length) (ptI (ptI it c (pNu (ML r N d) (PL r N d) r n lev cr (X + (((mAt (ML r N d) r n lev cr).1 - (mNu (ML r N d) r n lev cr).1) / 2)) Y)) (c + (pNu (ML r N d) (PL r N d) r n lev cr (X + (((mAt (ML r N d) r n lev cr).1 - (mNu (ML r N d) r n lev cr).1) / 2)) Y).length) (PL r N d ((r 8) n) (scl lev) cr (X + (((mAt (ML r N d) r n lev cr).1 - (ML r N d ((r 8) n) (scl lev) cr).1) / 2)) (Y + atU (ML r N d) r n lev cr))) z_12 ((ML r N d ((r 9) n) (scl lev) 1).1) ((ML r N d ((r 9) n) (scl lev) 1).2.1) ((ML r N d ((r 9) n) (scl lev) 1).2.2) u_12 e_12 (by omega) (by rw [if_neg c_45, if_neg c_198] at hcl2; omega)) (cwV 5 hts gX5_placeAtom_X5_placeList rfl rfl rfl (by decide +kernel) ⟨by dsimp only [rmL, rmF, rmN, rmA, rpL, rpF, rpN, rpA]; omega, by dsimp only [rmL, rmF, rmN, rmA, rpL, rpF, rpN, rpA]; omega⟩) 0 5 rfl rfl rfl hl.1 rfl (Nat.le_of_ble_eq_true rfl) dX5_placeAtom_252 ⟨Nat.zero_le _, Nat.zero_le _⟩ (fun u H locs hq hP hD hS => ?_)
          obtain ⟨w_13, h_13, d_13, u_13, e_13, z_13⟩ := u
          have hz_13 : ∀ i4, rk ((r 9) n) < rk (r 2 i4) → ∀ k4, k4 < 16 → z_13 (16 * i4 + k4) = z_12 (16 * i4 + k4) := hq
          have hP : va_P D vwCl (wM cI a (vU (vU (vU (vU (vU (vU v 14 (nI (((c + (pNu (ML r N d) (PL r N d) r n lev cr (X + (((mAt (ML r N d) r n lev cr).1 - (mNu (ML r N d) r n lev cr).1) / 2)) Y).length) + (PL r N d ((r 8) n) (scl lev) cr (X + (((mAt (ML r N d) r n lev cr).1 - (ML r N d ((r 8) n) (scl lev) cr).1) / 2)) (Y + atU (ML r N d) r n lev cr)).length) + (PL r N d ((r 9) n) (scl lev) 1 (X + (((mAt (ML r N d) r n lev cr).1 - (ML r N d ((r 9) n) (scl lev) 1).1) / 2)) (Y - atD (ML r N d) r n lev cr)).length))) 19 w_13) 20 h_13) 21 d_13) 22 u_13) 23 e_13) (rU (rU r 11 (ptI (ptI (ptI it c (pNu (ML r N d) (PL r N d) r n lev cr (X + (((mAt (ML r N d) r n lev cr).1 - (mNu (ML r N d) r n lev cr).1) / 2)) Y)) (c + (pNu (ML r N d) (PL r N d) r n lev cr (X + (((mAt (ML r N d) r n lev cr).1 - (mNu (ML r N d) r n lev cr).1) / 2)) Y).length) (PL r N d ((r 8) n) (scl lev) cr (X + (((mAt (ML r N d) r n lev cr).1 - (ML r N d ((r 8) n) (scl lev) cr).1) / 2)) (Y + atU (ML r N d) r n lev cr))) ((c + (pNu (ML r N d) (PL r N d) r n lev cr (X + (((mAt (ML r N d) r n lev cr).1 - (mNu (ML r N d) r n lev cr).1) / 2)) Y).length) + (PL r N d ((r 8) n) (scl lev) cr (X + (((mAt (ML r N d) r n lev cr).1 - (ML r N d ((r 8) n) (scl lev) cr).1) / 2)) (Y + atU (ML r N d) r n lev cr)).length) (PL r N d ((r 9) n) (scl lev) 1 (X + (((mAt (ML r N d) r n lev cr).1 - (ML r N d ((r 9) n) (scl lev) 1).1) / 2)) (Y - atD (ML r N d) r n lev cr)))) 12 z_13)) H := hP
          have hD : va_D A (wM cI a (vU (vU (vU (vU (vU (vU v 14 (nI (((c + (pNu (ML r N d) (PL r N d) r n lev cr (X + (((mAt (ML r N d) r n lev cr).1 - (mNu (ML r N d) r n lev cr).1) / 2)) Y).length) + (PL r N d ((r 8) n) (scl lev) cr (X + (((mAt (ML r N d) r n lev cr).1 - (ML r N d ((r 8) n) (scl lev) cr).1) / 2)) (Y + atU (ML r N d) r n lev cr)).length) + (PL r N d ((r 9) n) (scl lev) 1 (X + (((mAt (ML r N d) r n lev cr).1 - (ML r N d ((r 9) n) (scl lev) 1).1) / 2)) (Y - atD (ML r N d) r n lev cr)).length))) 19 w_13) 20 h_13) 21 d_13) 22 u_13) 23 e_13) (rU (rU r 11 (ptI (ptI (ptI it c (pNu (ML r N d) (PL r N d) r n lev cr (X + (((mAt (ML r N d) r n lev cr).1 - (mNu (ML r N d) r n lev cr).1) / 2)) Y)) (c + (pNu (ML r N d) (PL r N d) r n lev cr (X + (((mAt (ML r N d) r n lev cr).1 - (mNu (ML r N d) r n lev cr).1) / 2)) Y).length) (PL r N d ((r 8) n) (scl lev) cr (X + (((mAt (ML r N d) r n lev cr).1 - (ML r N d ((r 8) n) (scl lev) cr).1) / 2)) (Y + atU (ML r N d) r n lev cr))) ((c + (pNu (ML r N d) (PL r N d) r n lev cr (X + (((mAt (ML r N d) r n lev cr).1 - (mNu (ML r N d) r n lev cr).1) / 2)) Y).length) + (PL r N d ((r 8) n) (scl lev) cr (X + (((mAt (ML r N d) r n lev cr).1 - (ML r N d ((r 8) n) (scl lev) cr).1) / 2)) (Y + atU (ML r N d) r n lev cr)).length) (PL r N d ((r 9) n) (scl lev) 1 (X + (((mAt (ML r N d) r n lev cr).1 - (ML r N d ((r 9) n) (scl lev) 1).1) / 2)) (Y - atD (ML r N d) r n lev cr)))) 12 z_13)) := hD
          have hL : (pAt (ML r N d) (PL r N d) r n lev cr X Y) = (pNu (ML r N d) (PL r N d) r n lev cr (X + (((mAt (ML r N d) r n lev cr).1 - (mNu (ML r N d) r n lev cr).1) / 2)) Y) ++ (PL r N d ((r 8) n) (scl lev) cr (X + (((mAt (ML r N d) r n lev cr).1 - (ML r N d ((r 8) n) (scl lev) cr).1) / 2)) (Y + atU (ML r N d) r n lev cr)) ++ (PL r N d ((r 9) n) (scl lev) 1 (X + (((mAt (ML r N d) r n lev cr).1 - (ML r N d ((r 9) n) (scl lev) 1).1) / 2)) (Y - atD (ML r N d) r n lev cr)) := by rw [pAt_t hb9, if_neg c_45, if_neg c_198]
          have q14 : (nI (((c + (pNu (ML r N d) (PL r N d) r n lev cr (X + (((mAt (ML r N d) r n lev cr).1 - (mNu (ML r N d) r n lev cr).1) / 2)) Y).length) + (PL r N d ((r 8) n) (scl lev) cr (X + (((mAt (ML r N d) r n lev cr).1 - (ML r N d ((r 8) n) (scl lev) cr).1) / 2)) (Y + atU (ML r N d) r n lev cr)).length) + (PL r N d ((r 9) n) (scl lev) 1 (X + (((mAt (ML r N d) r n lev cr).1 - (ML r N d ((r 9) n) (scl lev) 1).1) / 2)) (Y - atD (ML r N d) r n lev cr)).length)) = (nI (c + (pAt (ML r N d) (PL r N d) r n lev cr X Y).length)) := (congrArg nI (pt3 (it := it) hL).2)
          have q11 : (ptI (ptI (ptI it c (pNu (ML r N d) (PL r N d) r n lev cr (X + (((mAt (ML r N d) r n lev cr).1 - (mNu (ML r N d) r n lev cr).1) / 2)) Y)) (c + (pNu (ML r N d) (PL r N d) r n lev cr (X + (((mAt (ML r N d) r n lev cr).1 - (mNu (ML r N d) r n lev cr).1) / 2)) Y).length) (PL r N d ((r 8) n) (scl lev) cr (X + (((mAt (ML r N d) r n lev cr).1 - (ML r N d ((r 8) n) (scl lev) cr).1) / 2)) (Y + atU (ML r N d) r n lev cr))) ((c + (pNu (ML r N d) (PL r N d) r n lev cr (X + (((mAt (ML r N d) r n lev cr).1 - (mNu (ML r N d) r n lev cr).1) / 2)) Y).length) + (PL r N d ((r 8) n) (scl lev) cr (X + (((mAt (ML r N d) r n lev cr).1 - (ML r N d ((r 8) n) (scl lev) cr).1) / 2)) (Y + atU (ML r N d) r n lev cr)).length) (PL r N d ((r 9) n) (scl lev) 1 (X + (((mAt (ML r N d) r n lev cr).1 - (ML r N d ((r 9) n) (scl lev) 1).1) / 2)) (Y - atD (ML r N d) r n lev cr))) = (ptI it c (pAt (ML r N d) (PL r N d) r n lev cr X Y)) := ((pt3 hL).1)
          have hw : (wM cI a (vU (vU (vU (vU (vU (vU v 14 (nI (((c + (pNu (ML r N d) (PL r N d) r n lev cr (X + (((mAt (ML r N d) r n lev cr).1 - (mNu (ML r N d) r n lev cr).1) / 2)) Y).length) + (PL r N d ((r 8) n) (scl lev) cr (X + (((mAt (ML r N d) r n lev cr).1 - (ML r N d ((r 8) n) (scl lev) cr).1) / 2)) (Y + atU (ML r N d) r n lev cr)).length) + (PL r N d ((r 9) n) (scl lev) 1 (X + (((mAt (ML r N d) r n lev cr).1 - (ML r N d ((r 9) n) (scl lev) 1).1) / 2)) (Y - atD (ML r N d) r n lev cr)).length))) 19 w_13) 20 h_13) 21 d_13) 22 u_13) 23 e_13) (rU (rU r 11 (ptI (ptI (ptI it c (pNu (ML r N d) (PL r N d) r n lev cr (X + (((mAt (ML r N d) r n lev cr).1 - (mNu (ML r N d) r n lev cr).1) / 2)) Y)) (c + (pNu (ML r N d) (PL r N d) r n lev cr (X + (((mAt (ML r N d) r n lev cr).1 - (mNu (ML r N d) r n lev cr).1) / 2)) Y).length) (PL r N d ((r 8) n) (scl lev) cr (X + (((mAt (ML r N d) r n lev cr).1 - (ML r N d ((r 8) n) (scl lev) cr).1) / 2)) (Y + atU (ML r N d) r n lev cr))) ((c + (pNu (ML r N d) (PL r N d) r n lev cr (X + (((mAt (ML r N d) r n lev cr).1 - (mNu (ML r N d) r n lev cr).1) / 2)) Y).length) + (PL r N d ((r 8) n) (scl lev) cr (X + (((mAt (ML r N d) r n lev cr).1 - (ML r N d ((r 8) n) (scl lev) cr).1) / 2)) (Y + atU (ML r N d) r n lev cr)).length) (PL r N d ((r 9) n) (scl lev) 1 (X + (((mAt (ML r N d) r n lev cr).1 - (ML r N d ((r 9) n) (scl lev) 1).1) / 2)) (Y - atD (ML r N d) r n lev cr)))) 12 z_13)) = (wM cI a (vU (vU (vU (vU (vU (vU v 14 (nI (c + (pAt (ML r N d) (PL r N d) r n lev cr X Y).length))) 19 w_13) 20 h_13) 21 d_13) 22 u_13) 23 e_13) (rU (rU r 11 (ptI it c (pAt (ML r N d) (PL r N d) r n lev cr X Y))) 12 z_13)) := by rw [q14, q11]
          have hP : va_P D vwCl (wM cI a (vU (vU (vU (vU (vU (vU v 14 (nI (c + (pAt (ML r N d) (PL r N d) r n lev cr X Y).length))) 19 w_13) 20 h_13) 21 d_13) 22 u_13) 23 e_13) (rU (rU r 11 (ptI it c (pAt (ML r N d) (PL r N d) r n lev cr X Y))) 12 z_13)) H := hw ▸ hP
          have hD : va_D A (wM cI a (vU (vU (vU (vU (vU (vU v 14 (nI (c + (pAt (ML r N d) (PL r N d) r n lev cr X Y).length))) 19 w_13) 20 h_13) 21 d_13) 22 u_13) 23 e_13) (rU (rU r 11 (ptI it c (pAt (ML r N d) (PL r N d) r n lev cr X Y))) 12 z_13)) := hw ▸ hD
          exact k_vret C0 (w_13, h_13, d_13, u_13, e_13, z_13) hP hD hS (fun i4 hi k4 hk => by show z_13 (16 * i4 + k4) = sz (16 * i4 + k4); rw [hz_13 i4 (by omega) k4 hk, hz_12 i4 (by omega) k4 hk, hz_11 i4 (by omega) k4 hk, hz_10 i4 (by omega) k4 hk, hz_9 i4 (by omega) k4 hk, hz_2 i4 (by omega) k4 hk, hz_1.1 i4 (by omega) k4 hk]) dX5_placeAtom_255
  · skip
    refine lv_aload_n hx hb dX5_placeAtom_48 rfl (lv_at hl 4 rfl) ?_
    refine va_get (D := D) (ci := 5) (v := .ref (a 9)) (C := RX5) (T := TX5) (N := 25) hx hb hts hin_X5 hown hK hP 0 rfl rfl 12 (by decide) hf38 (fun _ h9 => h9) rfl dX5_placeAtom_49 ?_
    refine lv_iload_n hx hb dX5_placeAtom_52 rfl (lv_at hl 5 rfl) ?_
    refine ra_ld (f := (r 9)) C0 hP 9 rfl n rfl (by omega) (by decide) dX5_placeAtom_53 ?_
    refine lv_iconst (v := (-1)) hx hb dX5_placeAtom_54 (by decide) ?_
    refine lv_icmp_eq (tgt := 62) hx hb dX5_placeAtom_55 (by decide) (fun c_55 => ?_) (fun c_55 => ?_)
    · skip
      refine lv_iconst (v := 0) hx hb dX5_placeAtom_62 (by decide) ?_
      refine lv_istore (lv' := [(10, .int 0), (9, .int ((mNu (ML r N d) r n lev cr).1)), (8, .int e_1), (7, .int u_1), (6, .int ((mAt (ML r N d) r n lev cr).1)), (0, .ref (a 0)), (1, .int (nI n)), (2, .int lev), (3, .int cr), (4, .int X), (5, .int Y)]) hx hb dX5_placeAtom_63 hl (by decide) rfl (fun ls hl => ?_)
      refine lv_iload hx hb dX5_placeAtom_65 (lv_at hl 0 rfl) ?_
      refine lv_if_eq (tgt := 88) hx hb dX5_placeAtom_67 (by decide) (fun c_67 => ?_) (fun c_67 => absurd (by decide) c_67)
      refine lv_iconst (v := 0) hx hb dX5_placeAtom_88 (by decide) ?_
      refine lv_istore (lv' := [(11, .int 0), (10, .int 0), (9, .int ((mNu (ML r N d) r n lev cr).1)), (8, .int e_1), (7, .int u_1), (6, .int ((mAt (ML r N d) r n lev cr).1)), (0, .ref (a 0)), (1, .int (nI n)), (2, .int lev), (3, .int cr), (4, .int X), (5, .int Y)]) hx hb dX5_placeAtom_89 hl (by decide) rfl (fun ls hl => ?_)
      have hb9 : isL r n lev = false := isL_f (fun q => q.1 ⟨c_45, c_55⟩)
      have hcl2 := hcl
      rw [pAt_f hb9, List.length_append, List.length_append] at hcl2
      refine lv_iload_n hx hb dX5_placeAtom_91 rfl (lv_at hl 8 rfl) ?_
      refine kcS (ans := (scl lev)) C0 hP hS (c_X5_scriptLevel l D cI lev ) (va_cwS 1 hts gX5_placeAtom_X5_scriptLevel rfl rfl rfl (by decide +kernel) ⟨by dsimp only [rmL, rmF, rmN, rmA, rpL, rpF, rpN, rpA]; omega, by dsimp only [rmL, rmF, rmN, rmA, rpL, rpF, rpN, rpA]; omega⟩) rfl hl.1 rfl (Nat.le_of_ble_eq_true rfl) dX5_placeAtom_92 ⟨Nat.zero_le _, Nat.zero_le _⟩ (fun H locs hP hS => ?_)
      refine lv_istore (lv' := [(12, .int (scl lev)), (11, .int 0), (10, .int 0), (9, .int ((mNu (ML r N d) r n lev cr).1)), (8, .int e_1), (7, .int u_1), (6, .int ((mAt (ML r N d) r n lev cr).1)), (0, .ref (a 0)), (1, .int (nI n)), (2, .int lev), (3, .int cr), (4, .int X), (5, .int Y)]) hx hb dX5_placeAtom_95 hl (by decide) rfl (fun ls hl => ?_)
      refine lv_aload_n hx hb dX5_placeAtom_97 rfl (lv_at hl 7 rfl) ?_
      refine lv_iload_n hx hb dX5_placeAtom_98 rfl (lv_at hl 8 rfl) ?_
      refine lv_iload_n hx hb dX5_placeAtom_99 rfl (lv_at hl 9 rfl) ?_
      refine lv_iload_n hx hb dX5_placeAtom_100 rfl (lv_at hl 10 rfl) ?_
      refine lv_iload hx hb dX5_placeAtom_101 (lv_at hl 1 rfl) ?_
      refine lv_if_eq (tgt := 120) hx hb dX5_placeAtom_103 (by decide) (fun c_103 => ?_) (fun c_103 => absurd (by decide) c_103)
      refine lv_iload hx hb dX5_placeAtom_120 (lv_at hl 11 rfl) ?_
      refine lv_iload hx hb dX5_placeAtom_122 (lv_at hl 12 rfl) ?_
      refine kcVv C0 hP hD hS (c_X5_placeNucleus l D cI a v r n N d rk lev cr X Y c it z_2 ((mNu (ML r N d) r n lev cr).1) ((mNu (ML r N d) r n lev cr).2.1) ((mNu (ML r N d) r n lev cr).2.2) u_2 e_2 hM hPl hN hN1 hn hd hR hat (by omega)) (cwV 5 hts gX5_placeAtom_X5_placeNucleus rfl rfl rfl (by decide +kernel) ⟨by dsimp only [rmL, rmF, rmN, rmA, rpL, rpF, rpN, rpA]; omega, by dsimp only [rmL, rmF, rmN, rmA, rpL, rpF, rpN, rpA]; omega⟩) 0 5 rfl rfl rfl hl.1 rfl (Nat.le_of_ble_eq_true rfl) dX5_placeAtom_124 ⟨Nat.zero_le _, Nat.zero_le _⟩ (fun u H locs hq hP hD hS => ?_)
      obtain ⟨w_14, h_14, d_14, u_14, e_14, z_14⟩ := u
      have hz_14 : ∀ i4, rk (r 2 n) < rk (r 2 i4) → ∀ k4, k4 < 16 → z_14 (16 * i4 + k4) = z_2 (16 * i4 + k4) := hq
      have hP : va_P D vwCl (wM cI a (vU (vU (vU (vU (vU (vU v 14 (nI (c + (pNu (ML r N d) (PL r N d) r n lev cr X Y).length))) 19 w_14) 20 h_14) 21 d_14) 22 u_14) 23 e_14) (rU (rU r 11 (ptI it c (pNu (ML r N d) (PL r N d) r n lev cr X Y))) 12 z_14)) H := hP
      have hD : va_D A (wM cI a (vU (vU (vU (vU (vU (vU v 14 (nI (c + (pNu (ML r N d) (PL r N d) r n lev cr X Y).length))) 19 w_14) 20 h_14) 21 d_14) 22 u_14) 23 e_14) (rU (rU r 11 (ptI it c (pNu (ML r N d) (PL r N d) r n lev cr X Y))) 12 z_14)) := hD
      refine lv_aload_n hx hb dX5_placeAtom_127 rfl (lv_at hl 7 rfl) ?_
      refine va_get (D := D) (ci := 5) (v := .ref (a 8)) (C := RX5) (T := TX5) (N := 25) hx hb hts hin_X5 hown hK hP 0 rfl rfl 11 (by decide) hf35 (fun _ h9 => h9) rfl dX5_placeAtom_128 ?_
      refine lv_iload_n hx hb dX5_placeAtom_131 rfl (lv_at hl 8 rfl) ?_
      refine ra_ld (f := (r 8)) C0 hP 8 rfl n rfl (by omega) (by decide) dX5_placeAtom_132 ?_
      refine lv_iconst (v := (-1)) hx hb dX5_placeAtom_133 (by decide) ?_
      refine lv_icmp_eq (tgt := 191) hx hb dX5_placeAtom_134 (by decide) (fun c_134 => ?_) (fun c_134 => absurd c_45 c_134)
      refine lv_aload_n hx hb dX5_placeAtom_191 rfl (lv_at hl 7 rfl) ?_
      refine va_get (D := D) (ci := 5) (v := .ref (a 9)) (C := RX5) (T := TX5) (N := 25) hx hb hts hin_X5 hown hK hP 0 rfl rfl 12 (by decide) hf38 (fun _ h9 => h9) rfl dX5_placeAtom_192 ?_
      refine lv_iload_n hx hb dX5_placeAtom_195 rfl (lv_at hl 8 rfl) ?_
      refine ra_ld (f := (r 9)) C0 hP 9 rfl n rfl (by omega) (by decide) dX5_placeAtom_196 ?_
      refine lv_iconst (v := (-1)) hx hb dX5_placeAtom_197 (by decide) ?_
      refine lv_icmp_eq (tgt := 255) hx hb dX5_placeAtom_198 (by decide) (fun c_198 => ?_) (fun c_198 => absurd c_55 c_198)
      have hL : (pAt (ML r N d) (PL r N d) r n lev cr X Y) = (pNu (ML r N d) (PL r N d) r n lev cr X Y) := by rw [pAt_f hb9, if_pos c_45, if_pos c_55, List.append_nil, List.append_nil]
      have q14 : (nI (c + (pNu (ML r N d) (PL r N d) r n lev cr X Y).length)) = (nI (c + (pAt (ML r N d) (PL r N d) r n lev cr X Y).length)) := (by rw [hL])
      have q11 : (ptI it c (pNu (ML r N d) (PL r N d) r n lev cr X Y)) = (ptI it c (pAt (ML r N d) (PL r N d) r n lev cr X Y)) := (by rw [hL])
      have hw : (wM cI a (vU (vU (vU (vU (vU (vU v 14 (nI (c + (pNu (ML r N d) (PL r N d) r n lev cr X Y).length))) 19 w_14) 20 h_14) 21 d_14) 22 u_14) 23 e_14) (rU (rU r 11 (ptI it c (pNu (ML r N d) (PL r N d) r n lev cr X Y))) 12 z_14)) = (wM cI a (vU (vU (vU (vU (vU (vU v 14 (nI (c + (pAt (ML r N d) (PL r N d) r n lev cr X Y).length))) 19 w_14) 20 h_14) 21 d_14) 22 u_14) 23 e_14) (rU (rU r 11 (ptI it c (pAt (ML r N d) (PL r N d) r n lev cr X Y))) 12 z_14)) := by rw [q14, q11]
      have hP : va_P D vwCl (wM cI a (vU (vU (vU (vU (vU (vU v 14 (nI (c + (pAt (ML r N d) (PL r N d) r n lev cr X Y).length))) 19 w_14) 20 h_14) 21 d_14) 22 u_14) 23 e_14) (rU (rU r 11 (ptI it c (pAt (ML r N d) (PL r N d) r n lev cr X Y))) 12 z_14)) H := hw ▸ hP
      have hD : va_D A (wM cI a (vU (vU (vU (vU (vU (vU v 14 (nI (c + (pAt (ML r N d) (PL r N d) r n lev cr X Y).length))) 19 w_14) 20 h_14) 21 d_14) 22 u_14) 23 e_14) (rU (rU r 11 (ptI it c (pAt (ML r N d) (PL r N d) r n lev cr X Y))) 12 z_14)) := hw ▸ hD
      exact k_vret C0 (w_14, h_14, d_14, u_14, e_14, z_14) hP hD hS (fun i4 hi k4 hk => by show z_14 (16 * i4 + k4) = sz (16 * i4 + k4); rw [hz_14 i4 (by omega) k4 hk, hz_2 i4 (by omega) k4 hk, hz_1.1 i4 (by omega) k4 hk]) dX5_placeAtom_255
    · skip
      refine lv_iconst (v := 1) hx hb dX5_placeAtom_58 (by decide) ?_
      refine lv_goto (tgt := 63) hx hb dX5_placeAtom_59 (by decide) ?_
      refine lv_istore (lv' := [(10, .int 1), (9, .int ((mNu (ML r N d) r n lev cr).1)), (8, .int e_1), (7, .int u_1), (6, .int ((mAt (ML r N d) r n lev cr).1)), (0, .ref (a 0)), (1, .int (nI n)), (2, .int lev), (3, .int cr), (4, .int X), (5, .int Y)]) hx hb dX5_placeAtom_63 hl (by decide) rfl (fun ls hl => ?_)
      refine lv_iload hx hb dX5_placeAtom_65 (lv_at hl 0 rfl) ?_
      refine lv_if_eq (tgt := 88) hx hb dX5_placeAtom_67 (by decide) (fun c_67 => absurd c_67 (by decide)) (fun c_67 => ?_)
      refine lv_aload_n hx hb dX5_placeAtom_70 rfl (lv_at hl 5 rfl) ?_
      refine va_get (D := D) (ci := 5) (v := .ref (a 4)) (C := RX5) (T := TX5) (N := 25) hx hb hts hin_X5 hown hK hP 0 rfl rfl 7 (by decide) hf23 (fun _ h9 => h9) rfl dX5_placeAtom_71 ?_
      refine lv_iload_n hx hb dX5_placeAtom_74 rfl (lv_at hl 6 rfl) ?_
      refine ra_ld (f := (r 4)) C0 hP 4 rfl n rfl (by omega) (by decide) dX5_placeAtom_75 ?_
      refine lv_iconst (v := 1) hx hb dX5_placeAtom_76 (by decide) ?_
      refine lv_icmp_ne (tgt := 88) hx hb dX5_placeAtom_77 (by decide) (fun c_77 => ?_) (fun c_77 => ?_)
      · skip
        refine lv_iconst (v := 0) hx hb dX5_placeAtom_88 (by decide) ?_
        refine lv_istore (lv' := [(11, .int 0), (10, .int 1), (9, .int ((mNu (ML r N d) r n lev cr).1)), (8, .int e_1), (7, .int u_1), (6, .int ((mAt (ML r N d) r n lev cr).1)), (0, .ref (a 0)), (1, .int (nI n)), (2, .int lev), (3, .int cr), (4, .int X), (5, .int Y)]) hx hb dX5_placeAtom_89 hl (by decide) rfl (fun ls hl => ?_)
        have hb9 : isL r n lev = false := isL_f (fun q => c_77 q.2.1)
        have hcl2 := hcl
        rw [pAt_f hb9, List.length_append, List.length_append] at hcl2
        refine lv_iload_n hx hb dX5_placeAtom_91 rfl (lv_at hl 8 rfl) ?_
        refine kcS (ans := (scl lev)) C0 hP hS (c_X5_scriptLevel l D cI lev ) (va_cwS 1 hts gX5_placeAtom_X5_scriptLevel rfl rfl rfl (by decide +kernel) ⟨by dsimp only [rmL, rmF, rmN, rmA, rpL, rpF, rpN, rpA]; omega, by dsimp only [rmL, rmF, rmN, rmA, rpL, rpF, rpN, rpA]; omega⟩) rfl hl.1 rfl (Nat.le_of_ble_eq_true rfl) dX5_placeAtom_92 ⟨Nat.zero_le _, Nat.zero_le _⟩ (fun H locs hP hS => ?_)
        refine lv_istore (lv' := [(12, .int (scl lev)), (11, .int 0), (10, .int 1), (9, .int ((mNu (ML r N d) r n lev cr).1)), (8, .int e_1), (7, .int u_1), (6, .int ((mAt (ML r N d) r n lev cr).1)), (0, .ref (a 0)), (1, .int (nI n)), (2, .int lev), (3, .int cr), (4, .int X), (5, .int Y)]) hx hb dX5_placeAtom_95 hl (by decide) rfl (fun ls hl => ?_)
        refine lv_aload_n hx hb dX5_placeAtom_97 rfl (lv_at hl 7 rfl) ?_
        refine lv_iload_n hx hb dX5_placeAtom_98 rfl (lv_at hl 8 rfl) ?_
        refine lv_iload_n hx hb dX5_placeAtom_99 rfl (lv_at hl 9 rfl) ?_
        refine lv_iload_n hx hb dX5_placeAtom_100 rfl (lv_at hl 10 rfl) ?_
        refine lv_iload hx hb dX5_placeAtom_101 (lv_at hl 1 rfl) ?_
        refine lv_if_eq (tgt := 120) hx hb dX5_placeAtom_103 (by decide) (fun c_103 => ?_) (fun c_103 => absurd (by decide) c_103)
        refine lv_iload hx hb dX5_placeAtom_120 (lv_at hl 11 rfl) ?_
        refine lv_iload hx hb dX5_placeAtom_122 (lv_at hl 12 rfl) ?_
        refine kcVv C0 hP hD hS (c_X5_placeNucleus l D cI a v r n N d rk lev cr X Y c it z_2 ((mNu (ML r N d) r n lev cr).1) ((mNu (ML r N d) r n lev cr).2.1) ((mNu (ML r N d) r n lev cr).2.2) u_2 e_2 hM hPl hN hN1 hn hd hR hat (by omega)) (cwV 5 hts gX5_placeAtom_X5_placeNucleus rfl rfl rfl (by decide +kernel) ⟨by dsimp only [rmL, rmF, rmN, rmA, rpL, rpF, rpN, rpA]; omega, by dsimp only [rmL, rmF, rmN, rmA, rpL, rpF, rpN, rpA]; omega⟩) 0 5 rfl rfl rfl hl.1 rfl (Nat.le_of_ble_eq_true rfl) dX5_placeAtom_124 ⟨Nat.zero_le _, Nat.zero_le _⟩ (fun u H locs hq hP hD hS => ?_)
        obtain ⟨w_15, h_15, d_15, u_15, e_15, z_15⟩ := u
        have hz_15 : ∀ i4, rk (r 2 n) < rk (r 2 i4) → ∀ k4, k4 < 16 → z_15 (16 * i4 + k4) = z_2 (16 * i4 + k4) := hq
        have hP : va_P D vwCl (wM cI a (vU (vU (vU (vU (vU (vU v 14 (nI (c + (pNu (ML r N d) (PL r N d) r n lev cr X Y).length))) 19 w_15) 20 h_15) 21 d_15) 22 u_15) 23 e_15) (rU (rU r 11 (ptI it c (pNu (ML r N d) (PL r N d) r n lev cr X Y))) 12 z_15)) H := hP
        have hD : va_D A (wM cI a (vU (vU (vU (vU (vU (vU v 14 (nI (c + (pNu (ML r N d) (PL r N d) r n lev cr X Y).length))) 19 w_15) 20 h_15) 21 d_15) 22 u_15) 23 e_15) (rU (rU r 11 (ptI it c (pNu (ML r N d) (PL r N d) r n lev cr X Y))) 12 z_15)) := hD
        refine lv_aload_n hx hb dX5_placeAtom_127 rfl (lv_at hl 7 rfl) ?_
        refine va_get (D := D) (ci := 5) (v := .ref (a 8)) (C := RX5) (T := TX5) (N := 25) hx hb hts hin_X5 hown hK hP 0 rfl rfl 11 (by decide) hf35 (fun _ h9 => h9) rfl dX5_placeAtom_128 ?_
        refine lv_iload_n hx hb dX5_placeAtom_131 rfl (lv_at hl 8 rfl) ?_
        refine ra_ld (f := (r 8)) C0 hP 8 rfl n rfl (by omega) (by decide) dX5_placeAtom_132 ?_
        refine lv_iconst (v := (-1)) hx hb dX5_placeAtom_133 (by decide) ?_
        refine lv_icmp_eq (tgt := 191) hx hb dX5_placeAtom_134 (by decide) (fun c_134 => ?_) (fun c_134 => absurd c_45 c_134)
        refine lv_aload_n hx hb dX5_placeAtom_191 rfl (lv_at hl 7 rfl) ?_
        refine va_get (D := D) (ci := 5) (v := .ref (a 9)) (C := RX5) (T := TX5) (N := 25) hx hb hts hin_X5 hown hK hP 0 rfl rfl 12 (by decide) hf38 (fun _ h9 => h9) rfl dX5_placeAtom_192 ?_
        refine lv_iload_n hx hb dX5_placeAtom_195 rfl (lv_at hl 8 rfl) ?_
        refine ra_ld (f := (r 9)) C0 hP 9 rfl n rfl (by omega) (by decide) dX5_placeAtom_196 ?_
        refine lv_iconst (v := (-1)) hx hb dX5_placeAtom_197 (by decide) ?_
        refine lv_icmp_eq (tgt := 255) hx hb dX5_placeAtom_198 (by decide) (fun c_198 => absurd c_198 c_55) (fun c_198 => ?_)
        have hs9 := hq9 c_55
        refine lv_iload hx hb dX5_placeAtom_201 (lv_at hl 1 rfl) ?_
        refine lv_if_eq (tgt := 228) hx hb dX5_placeAtom_203 (by decide) (fun c_203 => ?_) (fun c_203 => absurd (by decide) c_203)
        refine lv_iload hx hb dX5_placeAtom_228 (lv_at hl 3 rfl) ?_
        refine lv_istore (lv' := [(13, .int ((mNu (ML r N d) r n lev cr).1)), (12, .int (scl lev)), (11, .int 0), (10, .int 1), (9, .int ((mNu (ML r N d) r n lev cr).1)), (8, .int e_1), (7, .int u_1), (6, .int ((mAt (ML r N d) r n lev cr).1)), (0, .ref (a 0)), (1, .int (nI n)), (2, .int lev), (3, .int cr), (4, .int X), (5, .int Y)]) hx hb dX5_placeAtom_230 hl (by decide) rfl (fun ls hl => ?_)
        refine lv_aload_n hx hb dX5_placeAtom_232 rfl (lv_at hl 8 rfl) ?_
        refine lv_aload_n hx hb dX5_placeAtom_233 rfl (lv_at hl 8 rfl) ?_
        refine va_get (D := D) (ci := 5) (v := .ref (a 9)) (C := RX5) (T := TX5) (N := 25) hx hb hts hin_X5 hown hK hP 0 rfl rfl 12 (by decide) hf38 (fun _ h9 => h9) rfl dX5_placeAtom_234 ?_
        refine lv_iload_n hx hb dX5_placeAtom_237 rfl (lv_at hl 9 rfl) ?_
        refine ra_ld (f := (r 9)) C0 hP 9 rfl n rfl (by omega) (by decide) dX5_placeAtom_238 ?_
        refine lv_iload hx hb dX5_placeAtom_239 (lv_at hl 1 rfl) ?_
        refine lv_iconst (v := 1) hx hb dX5_placeAtom_241 (by decide) ?_
        refine lv_iload hx hb dX5_placeAtom_242 (lv_at hl 12 rfl) ?_
        refine lv_iload hx hb dX5_placeAtom_244 (lv_at hl 0 rfl) ?_
        refine lv_iadd hx hb dX5_placeAtom_246 ?_
        refine lv_iload hx hb dX5_placeAtom_247 (lv_at hl 13 rfl) ?_
        refine lv_iload hx hb dX5_placeAtom_249 (lv_at hl 5 rfl) ?_
        refine lv_isub hx hb dX5_placeAtom_251 ?_
        refine lv_eqi (show Y - e_1 = Y - atD (ML r N d) r n lev cr from by rw [(hz_1.2 (fun q => c_55 q.2)).2]) ?_
        refine kcVv C0 hP hD hS (hPl ((r 9) n) (scl lev) 1 (X + (mNu (ML r N d) r n lev cr).1) (Y - atD (ML r N d) r n lev cr) (c + (pNu (ML r N d) (PL r N d) r n lev cr X Y).length) (ptI it c (pNu (ML r N d) (PL r N d) r n lev cr X Y)) z_15 w_15 h_15 d_15 u_15 e_15 (by omega) (by rw [if_pos c_45, List.length_nil, if_neg c_55] at hcl2; omega)) (cwV 5 hts gX5_placeAtom_X5_placeList rfl rfl rfl (by decide +kernel) ⟨by dsimp only [rmL, rmF, rmN, rmA, rpL, rpF, rpN, rpA]; omega, by dsimp only [rmL, rmF, rmN, rmA, rpL, rpF, rpN, rpA]; omega⟩) 0 5 rfl rfl rfl hl.1 rfl (Nat.le_of_ble_eq_true rfl) dX5_placeAtom_252 ⟨Nat.zero_le _, Nat.zero_le _⟩ (fun u H locs hq hP hD hS => ?_)
        obtain ⟨w_16, h_16, d_16, u_16, e_16, z_16⟩ := u
        have hz_16 : ∀ i4, rk ((r 9) n) < rk (r 2 i4) → ∀ k4, k4 < 16 → z_16 (16 * i4 + k4) = z_15 (16 * i4 + k4) := hq
        have hP : va_P D vwCl (wM cI a (vU (vU (vU (vU (vU (vU v 14 (nI ((c + (pNu (ML r N d) (PL r N d) r n lev cr X Y).length) + (PL r N d ((r 9) n) (scl lev) 1 (X + (mNu (ML r N d) r n lev cr).1) (Y - atD (ML r N d) r n lev cr)).length))) 19 w_16) 20 h_16) 21 d_16) 22 u_16) 23 e_16) (rU (rU r 11 (ptI (ptI it c (pNu (ML r N d) (PL r N d) r n lev cr X Y)) (c + (pNu (ML r N d) (PL r N d) r n lev cr X Y).length) (PL r N d ((r 9) n) (scl lev) 1 (X + (mNu (ML r N d) r n lev cr).1) (Y - atD (ML r N d) r n lev cr)))) 12 z_16)) H := hP
        have hD : va_D A (wM cI a (vU (vU (vU (vU (vU (vU v 14 (nI ((c + (pNu (ML r N d) (PL r N d) r n lev cr X Y).length) + (PL r N d ((r 9) n) (scl lev) 1 (X + (mNu (ML r N d) r n lev cr).1) (Y - atD (ML r N d) r n lev cr)).length))) 19 w_16) 20 h_16) 21 d_16) 22 u_16) 23 e_16) (rU (rU r 11 (ptI (ptI it c (pNu (ML r N d) (PL r N d) r n lev cr X Y)) (c + (pNu (ML r N d) (PL r N d) r n lev cr X Y).length) (PL r N d ((r 9) n) (scl lev) 1 (X + (mNu (ML r N d) r n lev cr).1) (Y - atD (ML r N d) r n lev cr)))) 12 z_16)) := hD
        have hL : (pAt (ML r N d) (PL r N d) r n lev cr X Y) = (pNu (ML r N d) (PL r N d) r n lev cr X Y) ++ (PL r N d ((r 9) n) (scl lev) 1 (X + (mNu (ML r N d) r n lev cr).1) (Y - atD (ML r N d) r n lev cr)) := by rw [pAt_f hb9, if_pos c_45, if_neg c_55, List.append_nil]
        have q14 : (nI ((c + (pNu (ML r N d) (PL r N d) r n lev cr X Y).length) + (PL r N d ((r 9) n) (scl lev) 1 (X + (mNu (ML r N d) r n lev cr).1) (Y - atD (ML r N d) r n lev cr)).length)) = (nI (c + (pAt (ML r N d) (PL r N d) r n lev cr X Y).length)) := (congrArg nI (pt2 (it := it) hL).2)
        have q11 : (ptI (ptI it c (pNu (ML r N d) (PL r N d) r n lev cr X Y)) (c + (pNu (ML r N d) (PL r N d) r n lev cr X Y).length) (PL r N d ((r 9) n) (scl lev) 1 (X + (mNu (ML r N d) r n lev cr).1) (Y - atD (ML r N d) r n lev cr))) = (ptI it c (pAt (ML r N d) (PL r N d) r n lev cr X Y)) := ((pt2 hL).1)
        have hw : (wM cI a (vU (vU (vU (vU (vU (vU v 14 (nI ((c + (pNu (ML r N d) (PL r N d) r n lev cr X Y).length) + (PL r N d ((r 9) n) (scl lev) 1 (X + (mNu (ML r N d) r n lev cr).1) (Y - atD (ML r N d) r n lev cr)).length))) 19 w_16) 20 h_16) 21 d_16) 22 u_16) 23 e_16) (rU (rU r 11 (ptI (ptI it c (pNu (ML r N d) (PL r N d) r n lev cr X Y)) (c + (pNu (ML r N d) (PL r N d) r n lev cr X Y).length) (PL r N d ((r 9) n) (scl lev) 1 (X + (mNu (ML r N d) r n lev cr).1) (Y - atD (ML r N d) r n lev cr)))) 12 z_16)) = (wM cI a (vU (vU (vU (vU (vU (vU v 14 (nI (c + (pAt (ML r N d) (PL r N d) r n lev cr X Y).length))) 19 w_16) 20 h_16) 21 d_16) 22 u_16) 23 e_16) (rU (rU r 11 (ptI it c (pAt (ML r N d) (PL r N d) r n lev cr X Y))) 12 z_16)) := by rw [q14, q11]
        have hP : va_P D vwCl (wM cI a (vU (vU (vU (vU (vU (vU v 14 (nI (c + (pAt (ML r N d) (PL r N d) r n lev cr X Y).length))) 19 w_16) 20 h_16) 21 d_16) 22 u_16) 23 e_16) (rU (rU r 11 (ptI it c (pAt (ML r N d) (PL r N d) r n lev cr X Y))) 12 z_16)) H := hw ▸ hP
        have hD : va_D A (wM cI a (vU (vU (vU (vU (vU (vU v 14 (nI (c + (pAt (ML r N d) (PL r N d) r n lev cr X Y).length))) 19 w_16) 20 h_16) 21 d_16) 22 u_16) 23 e_16) (rU (rU r 11 (ptI it c (pAt (ML r N d) (PL r N d) r n lev cr X Y))) 12 z_16)) := hw ▸ hD
        exact k_vret C0 (w_16, h_16, d_16, u_16, e_16, z_16) hP hD hS (fun i4 hi k4 hk => by show z_16 (16 * i4 + k4) = sz (16 * i4 + k4); rw [hz_16 i4 (by omega) k4 hk, hz_15 i4 (by omega) k4 hk, hz_2 i4 (by omega) k4 hk, hz_1.1 i4 (by omega) k4 hk]) dX5_placeAtom_255
      · skip
        refine lv_iload_n hx hb dX5_placeAtom_80 rfl (lv_at hl 7 rfl) ?_
        refine lv_if_ne (tgt := 88) hx hb dX5_placeAtom_81 (by decide) (fun c_81 => ?_) (fun c_81 => ?_)
        · skip
          refine lv_iconst (v := 0) hx hb dX5_placeAtom_88 (by decide) ?_
          refine lv_istore (lv' := [(11, .int 0), (10, .int 1), (9, .int ((mNu (ML r N d) r n lev cr).1)), (8, .int e_1), (7, .int u_1), (6, .int ((mAt (ML r N d) r n lev cr).1)), (0, .ref (a 0)), (1, .int (nI n)), (2, .int lev), (3, .int cr), (4, .int X), (5, .int Y)]) hx hb dX5_placeAtom_89 hl (by decide) rfl (fun ls hl => ?_)
          have hb9 : isL r n lev = false := isL_f (fun q => c_81 q.2.2)
          have hcl2 := hcl
          rw [pAt_f hb9, List.length_append, List.length_append] at hcl2
          refine lv_iload_n hx hb dX5_placeAtom_91 rfl (lv_at hl 8 rfl) ?_
          refine kcS (ans := (scl lev)) C0 hP hS (c_X5_scriptLevel l D cI lev ) (va_cwS 1 hts gX5_placeAtom_X5_scriptLevel rfl rfl rfl (by decide +kernel) ⟨by dsimp only [rmL, rmF, rmN, rmA, rpL, rpF, rpN, rpA]; omega, by dsimp only [rmL, rmF, rmN, rmA, rpL, rpF, rpN, rpA]; omega⟩) rfl hl.1 rfl (Nat.le_of_ble_eq_true rfl) dX5_placeAtom_92 ⟨Nat.zero_le _, Nat.zero_le _⟩ (fun H locs hP hS => ?_)
          refine lv_istore (lv' := [(12, .int (scl lev)), (11, .int 0), (10, .int 1), (9, .int ((mNu (ML r N d) r n lev cr).1)), (8, .int e_1), (7, .int u_1), (6, .int ((mAt (ML r N d) r n lev cr).1)), (0, .ref (a 0)), (1, .int (nI n)), (2, .int lev), (3, .int cr), (4, .int X), (5, .int Y)]) hx hb dX5_placeAtom_95 hl (by decide) rfl (fun ls hl => ?_)
          refine lv_aload_n hx hb dX5_placeAtom_97 rfl (lv_at hl 7 rfl) ?_
          refine lv_iload_n hx hb dX5_placeAtom_98 rfl (lv_at hl 8 rfl) ?_
          refine lv_iload_n hx hb dX5_placeAtom_99 rfl (lv_at hl 9 rfl) ?_
          refine lv_iload_n hx hb dX5_placeAtom_100 rfl (lv_at hl 10 rfl) ?_
          refine lv_iload hx hb dX5_placeAtom_101 (lv_at hl 1 rfl) ?_
          refine lv_if_eq (tgt := 120) hx hb dX5_placeAtom_103 (by decide) (fun c_103 => ?_) (fun c_103 => absurd (by decide) c_103)
          refine lv_iload hx hb dX5_placeAtom_120 (lv_at hl 11 rfl) ?_
          refine lv_iload hx hb dX5_placeAtom_122 (lv_at hl 12 rfl) ?_
          refine kcVv C0 hP hD hS (c_X5_placeNucleus l D cI a v r n N d rk lev cr X Y c it z_2 ((mNu (ML r N d) r n lev cr).1) ((mNu (ML r N d) r n lev cr).2.1) ((mNu (ML r N d) r n lev cr).2.2) u_2 e_2 hM hPl hN hN1 hn hd hR hat (by omega)) (cwV 5 hts gX5_placeAtom_X5_placeNucleus rfl rfl rfl (by decide +kernel) ⟨by dsimp only [rmL, rmF, rmN, rmA, rpL, rpF, rpN, rpA]; omega, by dsimp only [rmL, rmF, rmN, rmA, rpL, rpF, rpN, rpA]; omega⟩) 0 5 rfl rfl rfl hl.1 rfl (Nat.le_of_ble_eq_true rfl) dX5_placeAtom_124 ⟨Nat.zero_le _, Nat.zero_le _⟩ (fun u H locs hq hP hD hS => ?_)
          obtain ⟨w_17, h_17, d_17, u_17, e_17, z_17⟩ := u
          have hz_17 : ∀ i4, rk (r 2 n) < rk (r 2 i4) → ∀ k4, k4 < 16 → z_17 (16 * i4 + k4) = z_2 (16 * i4 + k4) := hq
          have hP : va_P D vwCl (wM cI a (vU (vU (vU (vU (vU (vU v 14 (nI (c + (pNu (ML r N d) (PL r N d) r n lev cr X Y).length))) 19 w_17) 20 h_17) 21 d_17) 22 u_17) 23 e_17) (rU (rU r 11 (ptI it c (pNu (ML r N d) (PL r N d) r n lev cr X Y))) 12 z_17)) H := hP
          have hD : va_D A (wM cI a (vU (vU (vU (vU (vU (vU v 14 (nI (c + (pNu (ML r N d) (PL r N d) r n lev cr X Y).length))) 19 w_17) 20 h_17) 21 d_17) 22 u_17) 23 e_17) (rU (rU r 11 (ptI it c (pNu (ML r N d) (PL r N d) r n lev cr X Y))) 12 z_17)) := hD
          refine lv_aload_n hx hb dX5_placeAtom_127 rfl (lv_at hl 7 rfl) ?_
          refine va_get (D := D) (ci := 5) (v := .ref (a 8)) (C := RX5) (T := TX5) (N := 25) hx hb hts hin_X5 hown hK hP 0 rfl rfl 11 (by decide) hf35 (fun _ h9 => h9) rfl dX5_placeAtom_128 ?_
          refine lv_iload_n hx hb dX5_placeAtom_131 rfl (lv_at hl 8 rfl) ?_
          refine ra_ld (f := (r 8)) C0 hP 8 rfl n rfl (by omega) (by decide) dX5_placeAtom_132 ?_
          refine lv_iconst (v := (-1)) hx hb dX5_placeAtom_133 (by decide) ?_
          refine lv_icmp_eq (tgt := 191) hx hb dX5_placeAtom_134 (by decide) (fun c_134 => ?_) (fun c_134 => absurd c_45 c_134)
          refine lv_aload_n hx hb dX5_placeAtom_191 rfl (lv_at hl 7 rfl) ?_
          refine va_get (D := D) (ci := 5) (v := .ref (a 9)) (C := RX5) (T := TX5) (N := 25) hx hb hts hin_X5 hown hK hP 0 rfl rfl 12 (by decide) hf38 (fun _ h9 => h9) rfl dX5_placeAtom_192 ?_
          refine lv_iload_n hx hb dX5_placeAtom_195 rfl (lv_at hl 8 rfl) ?_
          refine ra_ld (f := (r 9)) C0 hP 9 rfl n rfl (by omega) (by decide) dX5_placeAtom_196 ?_
          refine lv_iconst (v := (-1)) hx hb dX5_placeAtom_197 (by decide) ?_
          refine lv_icmp_eq (tgt := 255) hx hb dX5_placeAtom_198 (by decide) (fun c_198 => absurd c_198 c_55) (fun c_198 => ?_)
          have hs9 := hq9 c_55
          refine lv_iload hx hb dX5_placeAtom_201 (lv_at hl 1 rfl) ?_
          refine lv_if_eq (tgt := 228) hx hb dX5_placeAtom_203 (by decide) (fun c_203 => ?_) (fun c_203 => absurd (by decide) c_203)
          refine lv_iload hx hb dX5_placeAtom_228 (lv_at hl 3 rfl) ?_
          refine lv_istore (lv' := [(13, .int ((mNu (ML r N d) r n lev cr).1)), (12, .int (scl lev)), (11, .int 0), (10, .int 1), (9, .int ((mNu (ML r N d) r n lev cr).1)), (8, .int e_1), (7, .int u_1), (6, .int ((mAt (ML r N d) r n lev cr).1)), (0, .ref (a 0)), (1, .int (nI n)), (2, .int lev), (3, .int cr), (4, .int X), (5, .int Y)]) hx hb dX5_placeAtom_230 hl (by decide) rfl (fun ls hl => ?_)
          refine lv_aload_n hx hb dX5_placeAtom_232 rfl (lv_at hl 8 rfl) ?_
          refine lv_aload_n hx hb dX5_placeAtom_233 rfl (lv_at hl 8 rfl) ?_
          refine va_get (D := D) (ci := 5) (v := .ref (a 9)) (C := RX5) (T := TX5) (N := 25) hx hb hts hin_X5 hown hK hP 0 rfl rfl 12 (by decide) hf38 (fun _ h9 => h9) rfl dX5_placeAtom_234 ?_
          refine lv_iload_n hx hb dX5_placeAtom_237 rfl (lv_at hl 9 rfl) ?_
          refine ra_ld (f := (r 9)) C0 hP 9 rfl n rfl (by omega) (by decide) dX5_placeAtom_238 ?_
          refine lv_iload hx hb dX5_placeAtom_239 (lv_at hl 1 rfl) ?_
          refine lv_iconst (v := 1) hx hb dX5_placeAtom_241 (by decide) ?_
          refine lv_iload hx hb dX5_placeAtom_242 (lv_at hl 12 rfl) ?_
          refine lv_iload hx hb dX5_placeAtom_244 (lv_at hl 0 rfl) ?_
          refine lv_iadd hx hb dX5_placeAtom_246 ?_
          refine lv_iload hx hb dX5_placeAtom_247 (lv_at hl 13 rfl) ?_
          refine lv_iload hx hb dX5_placeAtom_249 (lv_at hl 5 rfl) ?_
          refine lv_isub hx hb dX5_placeAtom_251 ?_
          refine lv_eqi (show Y - e_1 = Y - atD (ML r N d) r n lev cr from by rw [(hz_1.2 (fun q => c_55 q.2)).2]) ?_
          refine kcVv C0 hP hD hS (hPl ((r 9) n) (scl lev) 1 (X + (mNu (ML r N d) r n lev cr).1) (Y - atD (ML r N d) r n lev cr) (c + (pNu (ML r N d) (PL r N d) r n lev cr X Y).length) (ptI it c (pNu (ML r N d) (PL r N d) r n lev cr X Y)) z_17 w_17 h_17 d_17 u_17 e_17 (by omega) (by rw [if_pos c_45, List.length_nil, if_neg c_55] at hcl2; omega)) (cwV 5 hts gX5_placeAtom_X5_placeList rfl rfl rfl (by decide +kernel) ⟨by dsimp only [rmL, rmF, rmN, rmA, rpL, rpF, rpN, rpA]; omega, by dsimp only [rmL, rmF, rmN, rmA, rpL, rpF, rpN, rpA]; omega⟩) 0 5 rfl rfl rfl hl.1 rfl (Nat.le_of_ble_eq_true rfl) dX5_placeAtom_252 ⟨Nat.zero_le _, Nat.zero_le _⟩ (fun u H locs hq hP hD hS => ?_)
          obtain ⟨w_18, h_18, d_18, u_18, e_18, z_18⟩ := u
          have hz_18 : ∀ i4, rk ((r 9) n) < rk (r 2 i4) → ∀ k4, k4 < 16 → z_18 (16 * i4 + k4) = z_17 (16 * i4 + k4) := hq
          have hP : va_P D vwCl (wM cI a (vU (vU (vU (vU (vU (vU v 14 (nI ((c + (pNu (ML r N d) (PL r N d) r n lev cr X Y).length) + (PL r N d ((r 9) n) (scl lev) 1 (X + (mNu (ML r N d) r n lev cr).1) (Y - atD (ML r N d) r n lev cr)).length))) 19 w_18) 20 h_18) 21 d_18) 22 u_18) 23 e_18) (rU (rU r 11 (ptI (ptI it c (pNu (ML r N d) (PL r N d) r n lev cr X Y)) (c + (pNu (ML r N d) (PL r N d) r n lev cr X Y).length) (PL r N d ((r 9) n) (scl lev) 1 (X + (mNu (ML r N d) r n lev cr).1) (Y - atD (ML r N d) r n lev cr)))) 12 z_18)) H := hP
          have hD : va_D A (wM cI a (vU (vU (vU (vU (vU (vU v 14 (nI ((c + (pNu (ML r N d) (PL r N d) r n lev cr X Y).length) + (PL r N d ((r 9) n) (scl lev) 1 (X + (mNu (ML r N d) r n lev cr).1) (Y - atD (ML r N d) r n lev cr)).length))) 19 w_18) 20 h_18) 21 d_18) 22 u_18) 23 e_18) (rU (rU r 11 (ptI (ptI it c (pNu (ML r N d) (PL r N d) r n lev cr X Y)) (c + (pNu (ML r N d) (PL r N d) r n lev cr X Y).length) (PL r N d ((r 9) n) (scl lev) 1 (X + (mNu (ML r N d) r n lev cr).1) (Y - atD (ML r N d) r n lev cr)))) 12 z_18)) := hD
          have hL : (pAt (ML r N d) (PL r N d) r n lev cr X Y) = (pNu (ML r N d) (PL r N d) r n lev cr X Y) ++ (PL r N d ((r 9) n) (scl lev) 1 (X + (mNu (ML r N d) r n lev cr).1) (Y - atD (ML r N d) r n lev cr)) := by rw [pAt_f hb9, if_pos c_45, if_neg c_55, List.append_nil]
          have q14 : (nI ((c + (pNu (ML r N d) (PL r N d) r n lev cr X Y).length) + (PL r N d ((r 9) n) (scl lev) 1 (X + (mNu (ML r N d) r n lev cr).1) (Y - atD (ML r N d) r n lev cr)).length)) = (nI (c + (pAt (ML r N d) (PL r N d) r n lev cr X Y).length)) := (congrArg nI (pt2 (it := it) hL).2)
          have q11 : (ptI (ptI it c (pNu (ML r N d) (PL r N d) r n lev cr X Y)) (c + (pNu (ML r N d) (PL r N d) r n lev cr X Y).length) (PL r N d ((r 9) n) (scl lev) 1 (X + (mNu (ML r N d) r n lev cr).1) (Y - atD (ML r N d) r n lev cr))) = (ptI it c (pAt (ML r N d) (PL r N d) r n lev cr X Y)) := ((pt2 hL).1)
          have hw : (wM cI a (vU (vU (vU (vU (vU (vU v 14 (nI ((c + (pNu (ML r N d) (PL r N d) r n lev cr X Y).length) + (PL r N d ((r 9) n) (scl lev) 1 (X + (mNu (ML r N d) r n lev cr).1) (Y - atD (ML r N d) r n lev cr)).length))) 19 w_18) 20 h_18) 21 d_18) 22 u_18) 23 e_18) (rU (rU r 11 (ptI (ptI it c (pNu (ML r N d) (PL r N d) r n lev cr X Y)) (c + (pNu (ML r N d) (PL r N d) r n lev cr X Y).length) (PL r N d ((r 9) n) (scl lev) 1 (X + (mNu (ML r N d) r n lev cr).1) (Y - atD (ML r N d) r n lev cr)))) 12 z_18)) = (wM cI a (vU (vU (vU (vU (vU (vU v 14 (nI (c + (pAt (ML r N d) (PL r N d) r n lev cr X Y).length))) 19 w_18) 20 h_18) 21 d_18) 22 u_18) 23 e_18) (rU (rU r 11 (ptI it c (pAt (ML r N d) (PL r N d) r n lev cr X Y))) 12 z_18)) := by rw [q14, q11]
          have hP : va_P D vwCl (wM cI a (vU (vU (vU (vU (vU (vU v 14 (nI (c + (pAt (ML r N d) (PL r N d) r n lev cr X Y).length))) 19 w_18) 20 h_18) 21 d_18) 22 u_18) 23 e_18) (rU (rU r 11 (ptI it c (pAt (ML r N d) (PL r N d) r n lev cr X Y))) 12 z_18)) H := hw ▸ hP
          have hD : va_D A (wM cI a (vU (vU (vU (vU (vU (vU v 14 (nI (c + (pAt (ML r N d) (PL r N d) r n lev cr X Y).length))) 19 w_18) 20 h_18) 21 d_18) 22 u_18) 23 e_18) (rU (rU r 11 (ptI it c (pAt (ML r N d) (PL r N d) r n lev cr X Y))) 12 z_18)) := hw ▸ hD
          exact k_vret C0 (w_18, h_18, d_18, u_18, e_18, z_18) hP hD hS (fun i4 hi k4 hk => by show z_18 (16 * i4 + k4) = sz (16 * i4 + k4); rw [hz_18 i4 (by omega) k4 hk, hz_17 i4 (by omega) k4 hk, hz_2 i4 (by omega) k4 hk, hz_1.1 i4 (by omega) k4 hk]) dX5_placeAtom_255
        · skip
          refine lv_iconst (v := 1) hx hb dX5_placeAtom_84 (by decide) ?_
          refine lv_goto (tgt := 89) hx hb dX5_placeAtom_85 (by decide) ?_
          refine lv_istore (lv' := [(11, .int 1), (10, .int 1), (9, .int ((mNu (ML r N d) r n lev cr).1)), (8, .int e_1), (7, .int u_1), (6, .int ((mAt (ML r N d) r n lev cr).1)), (0, .ref (a 0)), (1, .int (nI n)), (2, .int lev), (3, .int cr), (4, .int X), (5, .int Y)]) hx hb dX5_placeAtom_89 hl (by decide) rfl (fun ls hl => ?_)
          have hb9 : isL r n lev = true := isL_t (fun q => c_55 q.2) c_77 c_81
          have hcl2 := hcl
          rw [pAt_t hb9, List.length_append, List.length_append] at hcl2
          refine lv_iload_n hx hb dX5_placeAtom_91 rfl (lv_at hl 8 rfl) ?_
          refine kcS (ans := (scl lev)) C0 hP hS (c_X5_scriptLevel l D cI lev ) (va_cwS 1 hts gX5_placeAtom_X5_scriptLevel rfl rfl rfl (by decide +kernel) ⟨by dsimp only [rmL, rmF, rmN, rmA, rpL, rpF, rpN, rpA]; omega, by dsimp only [rmL, rmF, rmN, rmA, rpL, rpF, rpN, rpA]; omega⟩) rfl hl.1 rfl (Nat.le_of_ble_eq_true rfl) dX5_placeAtom_92 ⟨Nat.zero_le _, Nat.zero_le _⟩ (fun H locs hP hS => ?_)
          refine lv_istore (lv' := [(12, .int (scl lev)), (11, .int 1), (10, .int 1), (9, .int ((mNu (ML r N d) r n lev cr).1)), (8, .int e_1), (7, .int u_1), (6, .int ((mAt (ML r N d) r n lev cr).1)), (0, .ref (a 0)), (1, .int (nI n)), (2, .int lev), (3, .int cr), (4, .int X), (5, .int Y)]) hx hb dX5_placeAtom_95 hl (by decide) rfl (fun ls hl => ?_)
          refine lv_aload_n hx hb dX5_placeAtom_97 rfl (lv_at hl 7 rfl) ?_
          refine lv_iload_n hx hb dX5_placeAtom_98 rfl (lv_at hl 8 rfl) ?_
          refine lv_iload_n hx hb dX5_placeAtom_99 rfl (lv_at hl 9 rfl) ?_
          refine lv_iload_n hx hb dX5_placeAtom_100 rfl (lv_at hl 10 rfl) ?_
          refine lv_iload hx hb dX5_placeAtom_101 (lv_at hl 1 rfl) ?_
          refine lv_if_eq (tgt := 120) hx hb dX5_placeAtom_103 (by decide) (fun c_103 => absurd c_103 (by decide)) (fun c_103 => ?_)
          refine lv_iload hx hb dX5_placeAtom_106 (lv_at hl 11 rfl) ?_
          refine lv_iload hx hb dX5_placeAtom_108 (lv_at hl 6 rfl) ?_
          refine lv_iload hx hb dX5_placeAtom_110 (lv_at hl 3 rfl) ?_
          refine lv_isub hx hb dX5_placeAtom_112 ?_
          refine kcS (ans := (((mAt (ML r N d) r n lev cr).1 - (mNu (ML r N d) r n lev cr).1) / 2)) C0 hP hS (c_X5_half l D cI ((mAt (ML r N d) r n lev cr).1 - (mNu (ML r N d) r n lev cr).1) ) (va_cwS 1 hts gX5_placeAtom_X5_half rfl rfl rfl (by decide +kernel) ⟨by dsimp only [rmL, rmF, rmN, rmA, rpL, rpF, rpN, rpA]; omega, by dsimp only [rmL, rmF, rmN, rmA, rpL, rpF, rpN, rpA]; omega⟩) rfl hl.1 rfl (Nat.le_of_ble_eq_true rfl) dX5_placeAtom_113 ⟨Nat.zero_le _, Nat.zero_le _⟩ (fun H locs hP hS => ?_)
          refine lv_iadd hx hb dX5_placeAtom_116 ?_
          refine lv_goto (tgt := 122) hx hb dX5_placeAtom_117 (by decide) ?_
          refine lv_iload hx hb dX5_placeAtom_122 (lv_at hl 12 rfl) ?_
          refine kcVv C0 hP hD hS (c_X5_placeNucleus l D cI a v r n N d rk lev cr (X + (((mAt (ML r N d) r n lev cr).1 - (mNu (ML r N d) r n lev cr).1) / 2)) Y c it z_2 ((mNu (ML r N d) r n lev cr).1) ((mNu (ML r N d) r n lev cr).2.1) ((mNu (ML r N d) r n lev cr).2.2) u_2 e_2 hM hPl hN hN1 hn hd hR hat (by omega)) (cwV 5 hts gX5_placeAtom_X5_placeNucleus rfl rfl rfl (by decide +kernel) ⟨by dsimp only [rmL, rmF, rmN, rmA, rpL, rpF, rpN, rpA]; omega, by dsimp only [rmL, rmF, rmN, rmA, rpL, rpF, rpN, rpA]; omega⟩) 0 5 rfl rfl rfl hl.1 rfl (Nat.le_of_ble_eq_true rfl) dX5_placeAtom_124 ⟨Nat.zero_le _, Nat.zero_le _⟩ (fun u H locs hq hP hD hS => ?_)
          obtain ⟨w_19, h_19, d_19, u_19, e_19, z_19⟩ := u
          have hz_19 : ∀ i4, rk (r 2 n) < rk (r 2 i4) → ∀ k4, k4 < 16 → z_19 (16 * i4 + k4) = z_2 (16 * i4 + k4) := hq
          have hP : va_P D vwCl (wM cI a (vU (vU (vU (vU (vU (vU v 14 (nI (c + (pNu (ML r N d) (PL r N d) r n lev cr (X + (((mAt (ML r N d) r n lev cr).1 - (mNu (ML r N d) r n lev cr).1) / 2)) Y).length))) 19 w_19) 20 h_19) 21 d_19) 22 u_19) 23 e_19) (rU (rU r 11 (ptI it c (pNu (ML r N d) (PL r N d) r n lev cr (X + (((mAt (ML r N d) r n lev cr).1 - (mNu (ML r N d) r n lev cr).1) / 2)) Y))) 12 z_19)) H := hP
          have hD : va_D A (wM cI a (vU (vU (vU (vU (vU (vU v 14 (nI (c + (pNu (ML r N d) (PL r N d) r n lev cr (X + (((mAt (ML r N d) r n lev cr).1 - (mNu (ML r N d) r n lev cr).1) / 2)) Y).length))) 19 w_19) 20 h_19) 21 d_19) 22 u_19) 23 e_19) (rU (rU r 11 (ptI it c (pNu (ML r N d) (PL r N d) r n lev cr (X + (((mAt (ML r N d) r n lev cr).1 - (mNu (ML r N d) r n lev cr).1) / 2)) Y))) 12 z_19)) := hD
          refine lv_aload_n hx hb dX5_placeAtom_127 rfl (lv_at hl 7 rfl) ?_
          refine va_get (D := D) (ci := 5) (v := .ref (a 8)) (C := RX5) (T := TX5) (N := 25) hx hb hts hin_X5 hown hK hP 0 rfl rfl 11 (by decide) hf35 (fun _ h9 => h9) rfl dX5_placeAtom_128 ?_
          refine lv_iload_n hx hb dX5_placeAtom_131 rfl (lv_at hl 8 rfl) ?_
          refine ra_ld (f := (r 8)) C0 hP 8 rfl n rfl (by omega) (by decide) dX5_placeAtom_132 ?_
          refine lv_iconst (v := (-1)) hx hb dX5_placeAtom_133 (by decide) ?_
          refine lv_icmp_eq (tgt := 191) hx hb dX5_placeAtom_134 (by decide) (fun c_134 => ?_) (fun c_134 => absurd c_45 c_134)
          refine lv_aload_n hx hb dX5_placeAtom_191 rfl (lv_at hl 7 rfl) ?_
          refine va_get (D := D) (ci := 5) (v := .ref (a 9)) (C := RX5) (T := TX5) (N := 25) hx hb hts hin_X5 hown hK hP 0 rfl rfl 12 (by decide) hf38 (fun _ h9 => h9) rfl dX5_placeAtom_192 ?_
          refine lv_iload_n hx hb dX5_placeAtom_195 rfl (lv_at hl 8 rfl) ?_
          refine ra_ld (f := (r 9)) C0 hP 9 rfl n rfl (by omega) (by decide) dX5_placeAtom_196 ?_
          refine lv_iconst (v := (-1)) hx hb dX5_placeAtom_197 (by decide) ?_
          refine lv_icmp_eq (tgt := 255) hx hb dX5_placeAtom_198 (by decide) (fun c_198 => absurd c_198 c_55) (fun c_198 => ?_)
          have hs9 := hq9 c_55
          refine lv_iload hx hb dX5_placeAtom_201 (lv_at hl 1 rfl) ?_
          refine lv_if_eq (tgt := 228) hx hb dX5_placeAtom_203 (by decide) (fun c_203 => absurd c_203 (by decide)) (fun c_203 => ?_)
          refine lv_iload hx hb dX5_placeAtom_206 (lv_at hl 6 rfl) ?_
          refine lv_aload_n hx hb dX5_placeAtom_208 rfl (lv_at hl 7 rfl) ?_
          refine lv_aload_n hx hb dX5_placeAtom_209 rfl (lv_at hl 7 rfl) ?_
          refine va_get (D := D) (ci := 5) (v := .ref (a 9)) (C := RX5) (T := TX5) (N := 25) hx hb hts hin_X5 hown hK hP 0 rfl rfl 12 (by decide) hf38 (fun _ h9 => h9) rfl dX5_placeAtom_210 ?_
          refine lv_iload_n hx hb dX5_placeAtom_213 rfl (lv_at hl 8 rfl) ?_
          refine ra_ld (f := (r 9)) C0 hP 9 rfl n rfl (by omega) (by decide) dX5_placeAtom_214 ?_
          refine lv_iload hx hb dX5_placeAtom_215 (lv_at hl 0 rfl) ?_
          refine lv_iconst (v := 1) hx hb dX5_placeAtom_217 (by decide) ?_
          refine kcV C0 hP hD hS (c_X5_widthOf l D cI a (vU v 14 (nI (c + (pNu (ML r N d) (PL r N d) r n lev cr (X + (((mAt (ML r N d) r n lev cr).1 - (mNu (ML r N d) r n lev cr).1) / 2)) Y).length))) r ((r 9) n) (scl lev) 1 N d rk (ptI it c (pNu (ML r N d) (PL r N d) r n lev cr (X + (((mAt (ML r N d) r n lev cr).1 - (mNu (ML r N d) r n lev cr).1) / 2)) Y)) z_19 w_19 h_19 d_19 u_19 e_19 (hM (vU v 14 (nI (c + (pNu (ML r N d) (PL r N d) r n lev cr (X + (((mAt (ML r N d) r n lev cr).1 - (mNu (ML r N d) r n lev cr).1) / 2)) Y).length))) hN) (by omega)) (cwV 3 hts gX5_placeAtom_X5_widthOf rfl rfl rfl (by decide +kernel) ⟨by dsimp only [rmL, rmF, rmN, rmA, rpL, rpF, rpN, rpA]; omega, by dsimp only [rmL, rmF, rmN, rmA, rpL, rpF, rpN, rpA]; omega⟩) 0 5 rfl rfl rfl hl.1 rfl (Nat.le_of_ble_eq_true rfl) dX5_placeAtom_218 ⟨Nat.zero_le _, Nat.zero_le _⟩ (fun q_20 u H locs hq hP hD hS => ?_)
          obtain ⟨u_20, e_20, z_20⟩ := u
          obtain ⟨hqe, hq⟩ := hq
          subst hqe
          have hz_20 : ∀ i4, rk ((r 9) n) < rk (r 2 i4) → ∀ k4, k4 < 16 → z_20 (16 * i4 + k4) = z_19 (16 * i4 + k4) := hq
          have hP : va_P D vwCl (wM cI a (vU (vU (vU (vU (vU (vU v 14 (nI (c + (pNu (ML r N d) (PL r N d) r n lev cr (X + (((mAt (ML r N d) r n lev cr).1 - (mNu (ML r N d) r n lev cr).1) / 2)) Y).length))) 19 ((ML r N d ((r 9) n) (scl lev) 1).1)) 20 ((ML r N d ((r 9) n) (scl lev) 1).2.1)) 21 ((ML r N d ((r 9) n) (scl lev) 1).2.2)) 22 u_20) 23 e_20) (rU (rU r 11 (ptI it c (pNu (ML r N d) (PL r N d) r n lev cr (X + (((mAt (ML r N d) r n lev cr).1 - (mNu (ML r N d) r n lev cr).1) / 2)) Y))) 12 z_20)) H := hP
          have hD : va_D A (wM cI a (vU (vU (vU (vU (vU (vU v 14 (nI (c + (pNu (ML r N d) (PL r N d) r n lev cr (X + (((mAt (ML r N d) r n lev cr).1 - (mNu (ML r N d) r n lev cr).1) / 2)) Y).length))) 19 ((ML r N d ((r 9) n) (scl lev) 1).1)) 20 ((ML r N d ((r 9) n) (scl lev) 1).2.1)) 21 ((ML r N d ((r 9) n) (scl lev) 1).2.2)) 22 u_20) 23 e_20) (rU (rU r 11 (ptI it c (pNu (ML r N d) (PL r N d) r n lev cr (X + (((mAt (ML r N d) r n lev cr).1 - (mNu (ML r N d) r n lev cr).1) / 2)) Y))) 12 z_20)) := hD
          refine lv_isub hx hb dX5_placeAtom_221 ?_
          refine kcS (ans := (((mAt (ML r N d) r n lev cr).1 - (ML r N d ((r 9) n) (scl lev) 1).1) / 2)) C0 hP hS (c_X5_half l D cI ((mAt (ML r N d) r n lev cr).1 - (ML r N d ((r 9) n) (scl lev) 1).1) ) (va_cwS 1 hts gX5_placeAtom_X5_half rfl rfl rfl (by decide +kernel) ⟨by dsimp only [rmL, rmF, rmN, rmA, rpL, rpF, rpN, rpA]; omega, by dsimp only [rmL, rmF, rmN, rmA, rpL, rpF, rpN, rpA]; omega⟩) rfl hl.1 rfl (Nat.le_of_ble_eq_true rfl) dX5_placeAtom_222 ⟨Nat.zero_le _, Nat.zero_le _⟩ (fun H locs hP hS => ?_)
          refine lv_goto (tgt := 230) hx hb dX5_placeAtom_225 (by decide) ?_
          refine lv_istore (lv' := [(13, .int (((mAt (ML r N d) r n lev cr).1 - (ML r N d ((r 9) n) (scl lev) 1).1) / 2)), (12, .int (scl lev)), (11, .int 1), (10, .int 1), (9, .int ((mNu (ML r N d) r n lev cr).1)), (8, .int e_1), (7, .int u_1), (6, .int ((mAt (ML r N d) r n lev cr).1)), (0, .ref (a 0)), (1, .int (nI n)), (2, .int lev), (3, .int cr), (4, .int X), (5, .int Y)]) hx hb dX5_placeAtom_230 hl (by decide) rfl (fun ls hl => ?_)
          refine lv_aload_n hx hb dX5_placeAtom_232 rfl (lv_at hl 8 rfl) ?_
          refine lv_aload_n hx hb dX5_placeAtom_233 rfl (lv_at hl 8 rfl) ?_
          refine va_get (D := D) (ci := 5) (v := .ref (a 9)) (C := RX5) (T := TX5) (N := 25) hx hb hts hin_X5 hown hK hP 0 rfl rfl 12 (by decide) hf38 (fun _ h9 => h9) rfl dX5_placeAtom_234 ?_
          refine lv_iload_n hx hb dX5_placeAtom_237 rfl (lv_at hl 9 rfl) ?_
          refine ra_ld (f := (r 9)) C0 hP 9 rfl n rfl (by omega) (by decide) dX5_placeAtom_238 ?_
          refine lv_iload hx hb dX5_placeAtom_239 (lv_at hl 1 rfl) ?_
          refine lv_iconst (v := 1) hx hb dX5_placeAtom_241 (by decide) ?_
          refine lv_iload hx hb dX5_placeAtom_242 (lv_at hl 12 rfl) ?_
          refine lv_iload hx hb dX5_placeAtom_244 (lv_at hl 0 rfl) ?_
          refine lv_iadd hx hb dX5_placeAtom_246 ?_
          refine lv_iload hx hb dX5_placeAtom_247 (lv_at hl 13 rfl) ?_
          refine lv_iload hx hb dX5_placeAtom_249 (lv_at hl 5 rfl) ?_
          refine lv_isub hx hb dX5_placeAtom_251 ?_
          refine lv_eqi (show Y - e_1 = Y - atD (ML r N d) r n lev cr from by rw [(hz_1.2 (fun q => c_55 q.2)).2]) ?_
          refine kcVv C0 hP hD hS (hPl ((r 9) n) (scl lev) 1 (X + (((mAt (ML r N d) r n lev cr).1 - (ML r N d ((r 9) n) (scl lev) 1).1) / 2)) (Y - atD (ML r N d) r n lev cr) (c + (pNu (ML r N d) (PL r N d) r n lev cr (X + (((mAt (ML r N d) r n lev cr).1 - (mNu (ML r N d) r n lev cr).1) / 2)) Y).length) (ptI it c (pNu (ML r N d) (PL r N d) r n lev cr (X + (((mAt (ML r N d) r n lev cr).1 - (mNu (ML r N d) r n lev cr).1) / 2)) Y)) z_20 ((ML r N d ((r 9) n) (scl lev) 1).1) ((ML r N d ((r 9) n) (scl lev) 1).2.1) ((ML r N d ((r 9) n) (scl lev) 1).2.2) u_20 e_20 (by omega) (by rw [if_pos c_45, List.length_nil, if_neg c_55] at hcl2; omega)) (cwV 5 hts gX5_placeAtom_X5_placeList rfl rfl rfl (by decide +kernel) ⟨by dsimp only [rmL, rmF, rmN, rmA, rpL, rpF, rpN, rpA]; omega, by dsimp only [rmL, rmF, rmN, rmA, rpL, rpF, rpN, rpA]; omega⟩) 0 5 rfl rfl rfl hl.1 rfl (Nat.le_of_ble_eq_true rfl) dX5_placeAtom_252 ⟨Nat.zero_le _, Nat.zero_le _⟩ (fun u H locs hq hP hD hS => ?_)
          obtain ⟨w_21, h_21, d_21, u_21, e_21, z_21⟩ := u
          have hz_21 : ∀ i4, rk ((r 9) n) < rk (r 2 i4) → ∀ k4, k4 < 16 → z_21 (16 * i4 + k4) = z_20 (16 * i4 + k4) := hq
          have hP : va_P D vwCl (wM cI a (vU (vU (vU (vU (vU (vU v 14 (nI ((c + (pNu (ML r N d) (PL r N d) r n lev cr (X + (((mAt (ML r N d) r n lev cr).1 - (mNu (ML r N d) r n lev cr).1) / 2)) Y).length) + (PL r N d ((r 9) n) (scl lev) 1 (X + (((mAt (ML r N d) r n lev cr).1 - (ML r N d ((r 9) n) (scl lev) 1).1) / 2)) (Y - atD (ML r N d) r n lev cr)).length))) 19 w_21) 20 h_21) 21 d_21) 22 u_21) 23 e_21) (rU (rU r 11 (ptI (ptI it c (pNu (ML r N d) (PL r N d) r n lev cr (X + (((mAt (ML r N d) r n lev cr).1 - (mNu (ML r N d) r n lev cr).1) / 2)) Y)) (c + (pNu (ML r N d) (PL r N d) r n lev cr (X + (((mAt (ML r N d) r n lev cr).1 - (mNu (ML r N d) r n lev cr).1) / 2)) Y).length) (PL r N d ((r 9) n) (scl lev) 1 (X + (((mAt (ML r N d) r n lev cr).1 - (ML r N d ((r 9) n) (scl lev) 1).1) / 2)) (Y - atD (ML r N d) r n lev cr)))) 12 z_21)) H := hP
          have hD : va_D A (wM cI a (vU (vU (vU (vU (vU (vU v 14 (nI ((c + (pNu (ML r N d) (PL r N d) r n lev cr (X + (((mAt (ML r N d) r n lev cr).1 - (mNu (ML r N d) r n lev cr).1) / 2)) Y).length) + (PL r N d ((r 9) n) (scl lev) 1 (X + (((mAt (ML r N d) r n lev cr).1 - (ML r N d ((r 9) n) (scl lev) 1).1) / 2)) (Y - atD (ML r N d) r n lev cr)).length))) 19 w_21) 20 h_21) 21 d_21) 22 u_21) 23 e_21) (rU (rU r 11 (ptI (ptI it c (pNu (ML r N d) (PL r N d) r n lev cr (X + (((mAt (ML r N d) r n lev cr).1 - (mNu (ML r N d) r n lev cr).1) / 2)) Y)) (c + (pNu (ML r N d) (PL r N d) r n lev cr (X + (((mAt (ML r N d) r n lev cr).1 - (mNu (ML r N d) r n lev cr).1) / 2)) Y).length) (PL r N d ((r 9) n) (scl lev) 1 (X + (((mAt (ML r N d) r n lev cr).1 - (ML r N d ((r 9) n) (scl lev) 1).1) / 2)) (Y - atD (ML r N d) r n lev cr)))) 12 z_21)) := hD
          have hL : (pAt (ML r N d) (PL r N d) r n lev cr X Y) = (pNu (ML r N d) (PL r N d) r n lev cr (X + (((mAt (ML r N d) r n lev cr).1 - (mNu (ML r N d) r n lev cr).1) / 2)) Y) ++ (PL r N d ((r 9) n) (scl lev) 1 (X + (((mAt (ML r N d) r n lev cr).1 - (ML r N d ((r 9) n) (scl lev) 1).1) / 2)) (Y - atD (ML r N d) r n lev cr)) := by rw [pAt_t hb9, if_pos c_45, if_neg c_55, List.append_nil]
          have q14 : (nI ((c + (pNu (ML r N d) (PL r N d) r n lev cr (X + (((mAt (ML r N d) r n lev cr).1 - (mNu (ML r N d) r n lev cr).1) / 2)) Y).length) + (PL r N d ((r 9) n) (scl lev) 1 (X + (((mAt (ML r N d) r n lev cr).1 - (ML r N d ((r 9) n) (scl lev) 1).1) / 2)) (Y - atD (ML r N d) r n lev cr)).length)) = (nI (c + (pAt (ML r N d) (PL r N d) r n lev cr X Y).length)) := (congrArg nI (pt2 (it := it) hL).2)
          have q11 : (ptI (ptI it c (pNu (ML r N d) (PL r N d) r n lev cr (X + (((mAt (ML r N d) r n lev cr).1 - (mNu (ML r N d) r n lev cr).1) / 2)) Y)) (c + (pNu (ML r N d) (PL r N d) r n lev cr (X + (((mAt (ML r N d) r n lev cr).1 - (mNu (ML r N d) r n lev cr).1) / 2)) Y).length) (PL r N d ((r 9) n) (scl lev) 1 (X + (((mAt (ML r N d) r n lev cr).1 - (ML r N d ((r 9) n) (scl lev) 1).1) / 2)) (Y - atD (ML r N d) r n lev cr))) = (ptI it c (pAt (ML r N d) (PL r N d) r n lev cr X Y)) := ((pt2 hL).1)
          have hw : (wM cI a (vU (vU (vU (vU (vU (vU v 14 (nI ((c + (pNu (ML r N d) (PL r N d) r n lev cr (X + (((mAt (ML r N d) r n lev cr).1 - (mNu (ML r N d) r n lev cr).1) / 2)) Y).length) + (PL r N d ((r 9) n) (scl lev) 1 (X + (((mAt (ML r N d) r n lev cr).1 - (ML r N d ((r 9) n) (scl lev) 1).1) / 2)) (Y - atD (ML r N d) r n lev cr)).length))) 19 w_21) 20 h_21) 21 d_21) 22 u_21) 23 e_21) (rU (rU r 11 (ptI (ptI it c (pNu (ML r N d) (PL r N d) r n lev cr (X + (((mAt (ML r N d) r n lev cr).1 - (mNu (ML r N d) r n lev cr).1) / 2)) Y)) (c + (pNu (ML r N d) (PL r N d) r n lev cr (X + (((mAt (ML r N d) r n lev cr).1 - (mNu (ML r N d) r n lev cr).1) / 2)) Y).length) (PL r N d ((r 9) n) (scl lev) 1 (X + (((mAt (ML r N d) r n lev cr).1 - (ML r N d ((r 9) n) (scl lev) 1).1) / 2)) (Y - atD (ML r N d) r n lev cr)))) 12 z_21)) = (wM cI a (vU (vU (vU (vU (vU (vU v 14 (nI (c + (pAt (ML r N d) (PL r N d) r n lev cr X Y).length))) 19 w_21) 20 h_21) 21 d_21) 22 u_21) 23 e_21) (rU (rU r 11 (ptI it c (pAt (ML r N d) (PL r N d) r n lev cr X Y))) 12 z_21)) := by rw [q14, q11]
          have hP : va_P D vwCl (wM cI a (vU (vU (vU (vU (vU (vU v 14 (nI (c + (pAt (ML r N d) (PL r N d) r n lev cr X Y).length))) 19 w_21) 20 h_21) 21 d_21) 22 u_21) 23 e_21) (rU (rU r 11 (ptI it c (pAt (ML r N d) (PL r N d) r n lev cr X Y))) 12 z_21)) H := hw ▸ hP
          have hD : va_D A (wM cI a (vU (vU (vU (vU (vU (vU v 14 (nI (c + (pAt (ML r N d) (PL r N d) r n lev cr X Y).length))) 19 w_21) 20 h_21) 21 d_21) 22 u_21) 23 e_21) (rU (rU r 11 (ptI it c (pAt (ML r N d) (PL r N d) r n lev cr X Y))) 12 z_21)) := hw ▸ hD
          exact k_vret C0 (w_21, h_21, d_21, u_21, e_21, z_21) hP hD hS (fun i4 hi k4 hk => by show z_21 (16 * i4 + k4) = sz (16 * i4 + k4); rw [hz_21 i4 (by omega) k4 hk, hz_20 i4 (by omega) k4 hk, hz_19 i4 (by omega) k4 hk, hz_2 i4 (by omega) k4 hk, hz_1.1 i4 (by omega) k4 hk]) dX5_placeAtom_255
