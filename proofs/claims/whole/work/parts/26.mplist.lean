theorem ad3 (x a s w : Int32) : x + a + s + w = x + (a + s + w) := by rw [Int32.add_assoc x a s, Int32.add_assoc x (a + s) w]
section PLX
variable {M : TM} {P : TP} {r : Nat → Nat → Int32} {N k : Nat} {l lev cr x y : Int32}
theorem pl_no (h : ¬ r 2 k = l) : plS M P r N l lev cr x y (k + 1) = plS M P r N l lev cr x y k := by rw [plS, if_neg h]
theorem pl_st (h : r 2 k = l) (h4 : r 3 k = 4) : plS M P r N l lev cr x y (k + 1) = plS M P r N l lev cr x y k := by rw [plS, if_pos h, if_pos h4]
theorem pl_at (h : r 2 k = l) (h4 : ¬ r 3 k = 4) : plS M P r N l lev cr x y (k + 1) = plS M P r N l lev cr x y k ++ pAt M P r k (lsS M r N l lev cr k).2.2.2.1 (lsS M r N l lev cr k).2.2.2.2 (x + (lsS M r N l lev cr k).1 + (if bfr (r 2) (r 3) (r 4) N l k = -1 then 0 else spO (bfr (r 2) (r 3) (r 4) N l k) (cnA (r 2) (r 3) (r 4) N k) (lsS M r N l lev cr k).2.2.2.1)) y := by rw [plS, if_pos h, if_neg h4]
theorem pl_len : ∀ {j : Nat}, k ≤ j → (plS M P r N l lev cr x y k).length ≤ (plS M P r N l lev cr x y j).length := by
  intro j
  induction j with
  | zero => intro h; rw [show k = 0 by omega]; exact Nat.le_refl _
  | succ j ih =>
    intro h
    by_cases e : k = j + 1
    · rw [e]; exact Nat.le_refl _
    · have h2 := ih (by omega)
      by_cases c1 : r 2 j = l
      · by_cases c2 : r 3 j = 4
        · rw [pl_st c1 c2]; exact h2
        · rw [pl_at c1 c2, List.length_append]; omega
      · rw [pl_no c1]; exact h2
end PLX

set_option maxHeartbeats 1500000 in
set_option maxRecDepth 100000 in
theorem c_X5_placeList (l : Launch) (D : va_G) (cI : ClassId) (a : Nat → Nat) (v : Nat → Int32) (r : Nat → Nat → Int32) (x lev cr X Y : Int32) (N d : Nat) (rk : Int32 → Nat) (c : Nat) (it sz : Nat → Int32) (w0 h0 d0 u0 e0 : Int32) (hM : ∀ v2 : Nat → Int32, v2 4 = nI N → HML l D cI a v2 r N rk d) (hPl : HPL l D cI a v r N rk d) (hR : HRK r N rk) (hN : v 4 = nI N) (hN1 : N ≤ 120) (hki : ∀ i, i < N → ¬ r 4 i = -1) (hx1 : rk x < d + 1) (hcl : c + (plS (ML r N d) (PL r N d) r N x lev cr X Y N).length ≤ 500) : KV l D cI yX5_placeList wsX5_placeList (rpL (d + 1)) [.ref (a 0), .int x, .int lev, .int cr, .int X, .int Y] (wM cI a (vU (vU (vU (vU (vU (vU v 14 (nI c)) 19 w0) 20 h0) 21 d0) 22 u0) 23 e0) (rU (rU r 11 it) 12 sz)) (fun z : Int32 × Int32 × Int32 × Int32 × Int32 × (Nat → Int32) => wM cI a (v6 v (c + (PL r N (d + 1) x lev cr X Y).length) z.1 z.2.1 z.2.2.1 z.2.2.2.1 z.2.2.2.2.1) (r2 r (ptI it c (PL r N (d + 1) x lev cr X Y)) z.2.2.2.2.2)) (fun z => ∀ i4, rk x < rk (r 2 i4) → ∀ k4, k4 < 16 → z.2.2.2.2.2 (16 * i4 + k4) = sz (16 * i4 + k4)) := by
  refine KV.of (cc := cX5_placeList) (nL := 12) (ret := none) (by decide) rfl (Nat.le_of_ble_eq_true rfl) ?_
  intro pg9 en9 s m args below meth cd9 A ls C0 hP hD hS hl
  have hx := C0.1.1
  have hb := C0.1.2.1
  have hml := C0.1.2.2.1
  have hown : s.vm.findClass RX5 = some m.cls := C0.1.2.2.2.1
  have hts : ∀ w ∈ wsX5_placeList, w.before args s = true := C0.1.2.2.2.2
  have hK := C0.2.2.2.1
  have hin_X5 : ∀ w ∈ wsX50, w ∈ wsX5_placeList := fun w h => List.mem_cons_of_mem _ (List.mem_append_right _ h)
  have hf53 : (Cond.fieldLink RX5 53 "FormulaListsModel" "nodes" "I").before args s = true := hts _ (by decide +kernel)
  have hf17 : (Cond.fieldLink RX5 17 "FormulaListsModel" "listOf" "[I").before args s = true := hts _ (by decide +kernel)
  have hf20 : (Cond.fieldLink RX5 20 "FormulaListsModel" "what" "[I").before args s = true := hts _ (by decide +kernel)
  have hf96 : (Cond.fieldLink RX5 96 "FormulaListsModel" "width" "I").before args s = true := hts _ (by decide +kernel)
  have hf26 : (Cond.fieldLink RX5 26 "FormulaListsModel" "one" "[I").before args s = true := hts _ (by decide +kernel)
  have hf29 : (Cond.fieldLink RX5 29 "FormulaListsModel" "two" "[I").before args s = true := hts _ (by decide +kernel)
  have hl : lv_has ls 12 [(0, .ref (a 0)), (1, .int x), (2, .int lev), (3, .int cr), (4, .int X), (5, .int Y)] := hl
  have hP : va_P D vwCl (wM cI a (vU (vU (vU (vU (vU (vU v 14 (nI c)) 19 w0) 20 h0) 21 d0) 22 u0) 23 e0) (rU (rU r 11 it) 12 sz)) s.heap := hP
  refine lv_iload hx hb dX5_placeList_0 (lv_at hl 4 rfl) ?_
  refine lv_istore (lv' := [(6, .int X), (0, .ref (a 0)), (1, .int x), (2, .int lev), (3, .int cr), (4, .int X), (5, .int Y)]) hx hb dX5_placeList_2 hl (by decide) rfl (fun ls hl => ?_)
  refine lv_iload_n hx hb dX5_placeList_4 rfl (lv_at hl 3 rfl) ?_
  refine lv_istore (lv' := [(7, .int lev), (6, .int X), (0, .ref (a 0)), (1, .int x), (2, .int lev), (3, .int cr), (4, .int X), (5, .int Y)]) hx hb dX5_placeList_5 hl (by decide) rfl (fun ls hl => ?_)
  refine lv_iload_n hx hb dX5_placeList_7 rfl (lv_at hl 5 rfl) ?_
  refine lv_istore (lv' := [(8, .int cr), (7, .int lev), (6, .int X), (0, .ref (a 0)), (1, .int x), (2, .int lev), (3, .int cr), (4, .int X), (5, .int Y)]) hx hb dX5_placeList_8 hl (by decide) rfl (fun ls hl => ?_)
  refine lv_iconst (v := (-1)) hx hb dX5_placeList_10 (by decide) ?_
  refine lv_istore (lv' := [(9, .int (-1)), (8, .int cr), (7, .int lev), (6, .int X), (0, .ref (a 0)), (1, .int x), (2, .int lev), (3, .int cr), (4, .int X), (5, .int Y)]) hx hb dX5_placeList_11 hl (by decide) rfl (fun ls hl => ?_)
  refine lv_iconst (v := 0) hx hb dX5_placeList_13 (by decide) ?_
  refine lv_istore (lv' := [(10, .int 0), (9, .int (-1)), (8, .int cr), (7, .int lev), (6, .int X), (0, .ref (a 0)), (1, .int x), (2, .int lev), (3, .int cr), (4, .int X), (5, .int Y)]) hx hb dX5_placeList_14 hl (by decide) rfl (fun ls hl => ?_)
  have hw0 : (wM cI a (vU (vU (vU (vU (vU (vU v 14 (nI c)) 19 w0) 20 h0) 21 d0) 22 u0) 23 e0) (rU (rU r 11 it) 12 sz)) = (wM cI a (vU (vU (vU (vU (vU (vU v 14 (nI (c + (plS (ML r N d) (PL r N d) r N x lev cr X Y 0).length))) 19 w0) 20 h0) 21 d0) 22 u0) 23 e0) (rU (rU r 11 (ptI it c (plS (ML r N d) (PL r N d) r N x lev cr X Y 0))) 12 sz)) := by simp only [plS, ptI_nil, List.length_nil, Nat.add_zero]
  rw [hw0] at hP hD
  have hx0 : X + (lsS (ML r N d) r N x lev cr 0).1 = X := Int32.add_zero X
  refine lpW (nL := 12) (A := A) (D := D) (fun z : Nat × Int32 × Int32 × Int32 × Int32 × Int32 × (Nat → Int32) => (wM cI a (vU (vU (vU (vU (vU (vU v 14 (nI (c + (plS (ML r N d) (PL r N d) r N x lev cr X Y z.1).length))) 19 z.2.1) 20 z.2.2.1) 21 z.2.2.2.1) 22 z.2.2.2.2.1) 23 z.2.2.2.2.2.1) (rU (rU r 11 (ptI it c (plS (ML r N d) (PL r N d) r N x lev cr X Y z.1))) 12 z.2.2.2.2.2.2))) (fun z : Nat × Int32 × Int32 × Int32 × Int32 × Int32 × (Nat → Int32) => [(10, .int (nI z.1)), (9, .int (bfr (r 2) (r 3) (r 4) N x z.1)), (8, .int ((lsS (ML r N d) r N x lev cr z.1).2.2.2.2)), (7, .int ((lsS (ML r N d) r N x lev cr z.1).2.2.2.1)), (6, .int (X + (lsS (ML r N d) r N x lev cr z.1).1)), (0, .ref (a 0)), (1, .int x), (2, .int lev), (3, .int cr), (4, .int X), (5, .int Y)]) (fun z : Nat × Int32 × Int32 × Int32 × Int32 × Int32 × (Nat → Int32) => z.1 ≤ N ∧ ∀ i4, rk x < rk (r 2 i4) → ∀ k4, k4 < 16 → z.2.2.2.2.2.2 (16 * i4 + k4) = sz (16 * i4 + k4)) (fun z : Nat × Int32 × Int32 × Int32 × Int32 × Int32 × (Nat → Int32) => N - z.1) (0, w0, h0, d0, u0, e0, sz) hP hD hS (by rw [hx0]; exact lv_sub hl [0, 1, 2, 3, 4, 5, 6, 7, 8, 9, 10] rfl) ⟨Nat.zero_le _, fun _ _ _ _ => rfl⟩ ?_
  rintro ⟨i, w1, h1_, d1, u1, e1, z1⟩ H locs ls hP hD hS hl hf ih
  have hP : va_P D vwCl (wM cI a (vU (vU (vU (vU (vU (vU v 14 (nI (c + (plS (ML r N d) (PL r N d) r N x lev cr X Y i).length))) 19 w1) 20 h1_) 21 d1) 22 u1) 23 e1) (rU (rU r 11 (ptI it c (plS (ML r N d) (PL r N d) r N x lev cr X Y i))) 12 z1)) H := hP
  have hD : va_D A (wM cI a (vU (vU (vU (vU (vU (vU v 14 (nI (c + (plS (ML r N d) (PL r N d) r N x lev cr X Y i).length))) 19 w1) 20 h1_) 21 d1) 22 u1) 23 e1) (rU (rU r 11 (ptI it c (plS (ML r N d) (PL r N d) r N x lev cr X Y i))) 12 z1)) := hD
  have hl : lv_has ls 12 [(10, .int (nI i)), (9, .int (bfr (r 2) (r 3) (r 4) N x i)), (8, .int ((lsS (ML r N d) r N x lev cr i).2.2.2.2)), (7, .int ((lsS (ML r N d) r N x lev cr i).2.2.2.1)), (6, .int (X + (lsS (ML r N d) r N x lev cr i).1)), (0, .ref (a 0)), (1, .int x), (2, .int lev), (3, .int cr), (4, .int X), (5, .int Y)] := hl
  have hf : i ≤ N ∧ ∀ i4, rk x < rk (r 2 i4) → ∀ k4, k4 < 16 → z1 (16 * i4 + k4) = sz (16 * i4 + k4) := hf
  obtain ⟨hi1, h1⟩ := hf
  refine lv_iload hx hb dX5_placeList_16 (lv_at hl 0 rfl) ?_
  refine lv_aload_n hx hb dX5_placeList_18 rfl (lv_at hl 5 rfl) ?_
  refine va_get (D := D) (ci := 5) (v := .int (v 4)) (C := RX5) (T := TX5) (N := 25) hx hb hts hin_X5 hown hK hP 0 rfl rfl 4 (by decide) hf53 (fun _ h9 => h9) rfl dX5_placeList_19 ?_
  refine lv_eqi hN ?_
  refine lv_icmp_ge (tgt := 163) hx hb dX5_placeList_22 (by decide) (fun c_22 => ?_) (fun c_22 => ?_)
  · skip
    have hiN : i = N := by have := (nI_leI (by omega) (by omega)).mp c_22; omega
    have q14 : (nI (c + (plS (ML r N d) (PL r N d) r N x lev cr X Y i).length)) = (nI (c + (PL r N (d + 1) x lev cr X Y).length)) := (by rw [hiN]; rfl)
    have q11 : (ptI it c (plS (ML r N d) (PL r N d) r N x lev cr X Y i)) = (ptI it c (PL r N (d + 1) x lev cr X Y)) := (by rw [hiN]; rfl)
    have hw : (wM cI a (vU (vU (vU (vU (vU (vU v 14 (nI (c + (plS (ML r N d) (PL r N d) r N x lev cr X Y i).length))) 19 w1) 20 h1_) 21 d1) 22 u1) 23 e1) (rU (rU r 11 (ptI it c (plS (ML r N d) (PL r N d) r N x lev cr X Y i))) 12 z1)) = (wM cI a (vU (vU (vU (vU (vU (vU v 14 (nI (c + (PL r N (d + 1) x lev cr X Y).length))) 19 w1) 20 h1_) 21 d1) 22 u1) 23 e1) (rU (rU r 11 (ptI it c (PL r N (d + 1) x lev cr X Y))) 12 z1)) := by rw [q14, q11]
    have hP : va_P D vwCl (wM cI a (vU (vU (vU (vU (vU (vU v 14 (nI (c + (PL r N (d + 1) x lev cr X Y).length))) 19 w1) 20 h1_) 21 d1) 22 u1) 23 e1) (rU (rU r 11 (ptI it c (PL r N (d + 1) x lev cr X Y))) 12 z1)) H := hw ▸ hP
    have hD : va_D A (wM cI a (vU (vU (vU (vU (vU (vU v 14 (nI (c + (PL r N (d + 1) x lev cr X Y).length))) 19 w1) 20 h1_) 21 d1) 22 u1) 23 e1) (rU (rU r 11 (ptI it c (PL r N (d + 1) x lev cr X Y))) 12 z1)) := hw ▸ hD
    exact k_vret C0 (w1, h1_, d1, u1, e1, z1) hP hD hS h1 dX5_placeList_163
  · skip
    have hlt : i < N := Nat.not_le.mp (fun q => c_22 (nI_le q (by omega)))
    refine lv_aload_n hx hb dX5_placeList_25 rfl (lv_at hl 5 rfl) ?_
    refine va_get (D := D) (ci := 5) (v := .ref (a 2)) (C := RX5) (T := TX5) (N := 25) hx hb hts hin_X5 hown hK hP 0 rfl rfl 5 (by decide) hf17 (fun _ h9 => h9) rfl dX5_placeList_26 ?_
    refine lv_iload hx hb dX5_placeList_29 (lv_at hl 0 rfl) ?_
    refine ra_ld (f := (r 2)) C0 hP 2 rfl i rfl (by omega) (by decide) dX5_placeList_31 ?_
    refine lv_iload_n hx hb dX5_placeList_32 rfl (lv_at hl 6 rfl) ?_
    refine lv_icmp_ne (tgt := 77) hx hb dX5_placeList_33 (by decide) (fun c_33 => ?_) (fun c_33 => ?_)
    · skip
      refine lv_aload_n hx hb dX5_placeList_77 rfl (lv_at hl 5 rfl) ?_
      refine va_get (D := D) (ci := 5) (v := .ref (a 2)) (C := RX5) (T := TX5) (N := 25) hx hb hts hin_X5 hown hK hP 0 rfl rfl 5 (by decide) hf17 (fun _ h9 => h9) rfl dX5_placeList_78 ?_
      refine lv_iload hx hb dX5_placeList_81 (lv_at hl 0 rfl) ?_
      refine ra_ld (f := (r 2)) C0 hP 2 rfl i rfl (by omega) (by decide) dX5_placeList_83 ?_
      refine lv_iload_n hx hb dX5_placeList_84 rfl (lv_at hl 6 rfl) ?_
      refine lv_icmp_ne (tgt := 157) hx hb dX5_placeList_85 (by decide) (fun c_85 => ?_) (fun c_85 => absurd c_85 c_33)
      refine lv_iinc (v := (nI (i + 1))) (lv' := [(10, .int (nI (i + 1))), (9, .int (bfr (r 2) (r 3) (r 4) N x i)), (8, .int ((lsS (ML r N d) r N x lev cr i).2.2.2.2)), (7, .int ((lsS (ML r N d) r N x lev cr i).2.2.2.1)), (6, .int (X + (lsS (ML r N d) r N x lev cr i).1)), (0, .ref (a 0)), (1, .int x), (2, .int lev), (3, .int cr), (4, .int X), (5, .int Y)]) hx hb dX5_placeList_157 hl (k := 0) rfl (k_inc i) (by decide) rfl (fun ls hl => ?_)
      refine lv_goto (tgt := 16) hx hb dX5_placeList_160 (by decide) ?_
      have hl2 : lv_has ls 12 [(10, .int (nI (i + 1))), (9, .int (bfr (r 2) (r 3) (r 4) N x (i + 1))), (8, .int ((lsS (ML r N d) r N x lev cr (i + 1)).2.2.2.2)), (7, .int ((lsS (ML r N d) r N x lev cr (i + 1)).2.2.2.1)), (6, .int (X + (lsS (ML r N d) r N x lev cr (i + 1)).1)), (0, .ref (a 0)), (1, .int x), (2, .int lev), (3, .int cr), (4, .int X), (5, .int Y)] := by rw [ls_no c_33, bf_no (fun q => c_33 q.1)]; exact lv_sub hl [0, 1, 2, 3, 4, 5, 6, 7, 8, 9, 10] rfl
      have hw : (wM cI a (vU (vU (vU (vU (vU (vU v 14 (nI (c + (plS (ML r N d) (PL r N d) r N x lev cr X Y i).length))) 19 w1) 20 h1_) 21 d1) 22 u1) 23 e1) (rU (rU r 11 (ptI it c (plS (ML r N d) (PL r N d) r N x lev cr X Y i))) 12 z1)) = (wM cI a (vU (vU (vU (vU (vU (vU v 14 (nI (c + (plS (ML r N d) (PL r N d) r N x lev cr X Y (i + 1)).length))) 19 w1) 20 h1_) 21 d1) 22 u1) 23 e1) (rU (rU r 11 (ptI it c (plS (ML r N d) (PL r N d) r N x lev cr X Y (i + 1)))) 12 z1)) := by rw [pl_no c_33]
      have hP : va_P D vwCl (wM cI a (vU (vU (vU (vU (vU (vU v 14 (nI (c + (plS (ML r N d) (PL r N d) r N x lev cr X Y (i + 1)).length))) 19 w1) 20 h1_) 21 d1) 22 u1) 23 e1) (rU (rU r 11 (ptI it c (plS (ML r N d) (PL r N d) r N x lev cr X Y (i + 1)))) 12 z1)) _ := hw ▸ hP
      have hD : va_D A (wM cI a (vU (vU (vU (vU (vU (vU v 14 (nI (c + (plS (ML r N d) (PL r N d) r N x lev cr X Y (i + 1)).length))) 19 w1) 20 h1_) 21 d1) 22 u1) 23 e1) (rU (rU r 11 (ptI it c (plS (ML r N d) (PL r N d) r N x lev cr X Y (i + 1)))) 12 z1)) := hw ▸ hD
      exact ih ((i + 1), w1, h1_, d1, u1, e1, z1) _ _ _ hP hD hS hl2 ⟨hlt, (fun i4 hi k4 hk => by show z1 (16 * i4 + k4) = sz (16 * i4 + k4); rw [h1 i4 hi k4 hk])⟩ (show N - (i + 1) < N - i by omega)
    · skip
      refine lv_aload_n hx hb dX5_placeList_36 rfl (lv_at hl 5 rfl) ?_
      refine va_get (D := D) (ci := 5) (v := .ref (a 3)) (C := RX5) (T := TX5) (N := 25) hx hb hts hin_X5 hown hK hP 0 rfl rfl 6 (by decide) hf20 (fun _ h9 => h9) rfl dX5_placeList_37 ?_
      refine lv_iload hx hb dX5_placeList_40 (lv_at hl 0 rfl) ?_
      refine ra_ld (f := (r 3)) C0 hP 3 rfl i rfl (by omega) (by decide) dX5_placeList_42 ?_
      refine lv_iconst (v := 4) hx hb dX5_placeList_43 (by decide) ?_
      refine lv_icmp_ne (tgt := 77) hx hb dX5_placeList_44 (by decide) (fun c_44 => ?_) (fun c_44 => ?_)
      · skip
        refine lv_aload_n hx hb dX5_placeList_77 rfl (lv_at hl 5 rfl) ?_
        refine va_get (D := D) (ci := 5) (v := .ref (a 2)) (C := RX5) (T := TX5) (N := 25) hx hb hts hin_X5 hown hK hP 0 rfl rfl 5 (by decide) hf17 (fun _ h9 => h9) rfl dX5_placeList_78 ?_
        refine lv_iload hx hb dX5_placeList_81 (lv_at hl 0 rfl) ?_
        refine ra_ld (f := (r 2)) C0 hP 2 rfl i rfl (by omega) (by decide) dX5_placeList_83 ?_
        refine lv_iload_n hx hb dX5_placeList_84 rfl (lv_at hl 6 rfl) ?_
        refine lv_icmp_ne (tgt := 157) hx hb dX5_placeList_85 (by decide) (fun c_85 => absurd c_33 c_85) (fun c_85 => ?_)
        refine lv_aload_n hx hb dX5_placeList_88 rfl (lv_at hl 5 rfl) ?_
        refine lv_iload hx hb dX5_placeList_89 (lv_at hl 0 rfl) ?_
        refine kcD (ans := (cnA (r 2) (r 3) (r 4) N i)) C0 hP hD hS (c_X5_countsAs l D cI a (vU (vU (vU (vU (vU (vU v 14 (nI (c + (plS (ML r N d) (PL r N d) r N x lev cr X Y i).length))) 19 w1) 20 h1_) 21 d1) 22 u1) 23 e1) (rU (rU r 11 (ptI it c (plS (ML r N d) (PL r N d) r N x lev cr X Y i))) 12 z1) i N hN hN1 hlt c_44 hki) (cwV 1 hts gX5_placeList_X5_countsAs rfl rfl rfl (by decide +kernel) ⟨by dsimp only [rmL, rmF, rmN, rmA, rpL, rpF, rpN, rpA]; omega, by dsimp only [rmL, rmF, rmN, rmA, rpL, rpF, rpN, rpA]; omega⟩) 0 5 rfl rfl rfl hl.1 rfl (Nat.le_of_ble_eq_true rfl) dX5_placeList_91 ⟨Nat.zero_le _, Nat.zero_le _⟩ (fun H locs hP hD hS => ?_)
        refine lv_istore (lv' := [(11, .int (cnA (r 2) (r 3) (r 4) N i)), (10, .int (nI i)), (9, .int (bfr (r 2) (r 3) (r 4) N x i)), (8, .int ((lsS (ML r N d) r N x lev cr i).2.2.2.2)), (7, .int ((lsS (ML r N d) r N x lev cr i).2.2.2.1)), (6, .int (X + (lsS (ML r N d) r N x lev cr i).1)), (0, .ref (a 0)), (1, .int x), (2, .int lev), (3, .int cr), (4, .int X), (5, .int Y)]) hx hb dX5_placeList_94 hl (by decide) rfl (fun ls hl => ?_)
        refine lv_iload hx hb dX5_placeList_96 (lv_at hl 5 rfl) ?_
        refine lv_iload hx hb dX5_placeList_98 (lv_at hl 2 rfl) ?_
        refine lv_iconst (v := (-1)) hx hb dX5_placeList_100 (by decide) ?_
        obtain ⟨x_1, ex_1⟩ : ∃ zz_ : Int32, zz_ = (if (bfr (r 2) (r 3) (r 4) N x i) = (-1) then (0 : Int32) else (spO (bfr (r 2) (r 3) (r 4) N x i) (cnA (r 2) (r 3) (r 4) N i) ((lsS (ML r N d) r N x lev cr i).2.2.2.1))) := ⟨_, rfl⟩
        refine jW (D := D) hD hl 117 (wM cI a (vU (vU (vU (vU (vU (vU v 14 (nI (c + (plS (ML r N d) (PL r N d) r N x lev cr X Y i).length))) 19 w1) 20 h1_) 21 d1) 22 u1) 23 e1) (rU (rU r 11 (ptI it c (plS (ML r N d) (PL r N d) r N x lev cr X Y i))) 12 z1)) [(11, .int (cnA (r 2) (r 3) (r 4) N i)), (10, .int (nI i)), (9, .int (bfr (r 2) (r 3) (r 4) N x i)), (8, .int ((lsS (ML r N d) r N x lev cr i).2.2.2.2)), (7, .int ((lsS (ML r N d) r N x lev cr i).2.2.2.1)), (6, .int (X + (lsS (ML r N d) r N x lev cr i).1)), (0, .ref (a 0)), (1, .int x), (2, .int lev), (3, .int cr), (4, .int X), (5, .int Y)] [.int x_1, .int (X + (lsS (ML r N d) r N x lev cr i).1)] (fun hJ => ?_) (fun H locs ls hP hD hS hl => ?_)
        · skip
          refine lv_icmp_ne (tgt := 108) hx hb dX5_placeList_101 (by decide) (fun c_101 => ?_) (fun c_101 => ?_)
          · skip
            refine lv_iload hx hb dX5_placeList_108 (lv_at hl 2 rfl) ?_
            refine lv_iload hx hb dX5_placeList_110 (lv_at hl 0 rfl) ?_
            refine lv_iload hx hb dX5_placeList_112 (lv_at hl 4 rfl) ?_
            refine kcS (ans := (spO (bfr (r 2) (r 3) (r 4) N x i) (cnA (r 2) (r 3) (r 4) N i) ((lsS (ML r N d) r N x lev cr i).2.2.2.1))) C0 hP hS (c_X5_spaceOf l D cI (bfr (r 2) (r 3) (r 4) N x i) (cnA (r 2) (r 3) (r 4) N i) ((lsS (ML r N d) r N x lev cr i).2.2.2.1) ) (va_cwS 3 hts gX5_placeList_X5_spaceOf rfl rfl rfl (by decide +kernel) ⟨by dsimp only [rmL, rmF, rmN, rmA, rpL, rpF, rpN, rpA]; omega, by dsimp only [rmL, rmF, rmN, rmA, rpL, rpF, rpN, rpA]; omega⟩) rfl hl.1 rfl (Nat.le_of_ble_eq_true rfl) dX5_placeList_114 ⟨Nat.zero_le _, Nat.zero_le _⟩ (fun H locs hP hS => ?_)
            have gx_1 : x_1 = (spO (bfr (r 2) (r 3) (r 4) N x i) (cnA (r 2) (r 3) (r 4) N i) ((lsS (ML r N d) r N x lev cr i).2.2.2.1)) := by rw [ex_1]; simp only [if_neg c_101]
            simp only [gx_1] at hJ
            exact hJ _ _ _ hP hD hS (lv_sub hl [0, 1, 2, 3, 4, 5, 6, 7, 8, 9, 10, 11] rfl)
          · skip
            refine lv_iconst (v := 0) hx hb dX5_placeList_104 (by decide) ?_
            refine lv_goto (tgt := 117) hx hb dX5_placeList_105 (by decide) ?_
            have gx_1 : x_1 = 0 := by rw [ex_1]; simp only [if_pos c_101]
            simp only [gx_1] at hJ
            exact hJ _ _ _ hP hD hS (lv_sub hl [0, 1, 2, 3, 4, 5, 6, 7, 8, 9, 10, 11] rfl)
        · skip
          refine lv_iadd hx hb dX5_placeList_117 ?_
          refine lv_eqi (show ((X + (lsS (ML r N d) r N x lev cr i).1) + x_1) = (X + (lsS (ML r N d) r N x lev cr i).1 + (if bfr (r 2) (r 3) (r 4) N x i = -1 then 0 else spO (bfr (r 2) (r 3) (r 4) N x i) (cnA (r 2) (r 3) (r 4) N i) (lsS (ML r N d) r N x lev cr i).2.2.2.1)) from by rw [ex_1]) ?_
          refine lv_istore (lv' := [(6, .int (X + (lsS (ML r N d) r N x lev cr i).1 + (if bfr (r 2) (r 3) (r 4) N x i = -1 then 0 else spO (bfr (r 2) (r 3) (r 4) N x i) (cnA (r 2) (r 3) (r 4) N i) (lsS (ML r N d) r N x lev cr i).2.2.2.1))), (11, .int (cnA (r 2) (r 3) (r 4) N i)), (10, .int (nI i)), (9, .int (bfr (r 2) (r 3) (r 4) N x i)), (8, .int ((lsS (ML r N d) r N x lev cr i).2.2.2.2)), (7, .int ((lsS (ML r N d) r N x lev cr i).2.2.2.1)), (0, .ref (a 0)), (1, .int x), (2, .int lev), (3, .int cr), (4, .int X), (5, .int Y)]) hx hb dX5_placeList_118 hl (by decide) rfl (fun ls hl => ?_)
          refine lv_aload_n hx hb dX5_placeList_120 rfl (lv_at hl 6 rfl) ?_
          refine lv_iload hx hb dX5_placeList_121 (lv_at hl 2 rfl) ?_
          refine lv_iload hx hb dX5_placeList_123 (lv_at hl 5 rfl) ?_
          refine lv_iload hx hb dX5_placeList_125 (lv_at hl 4 rfl) ?_
          refine lv_iload hx hb dX5_placeList_127 (lv_at hl 0 rfl) ?_
          refine lv_iload hx hb dX5_placeList_129 (lv_at hl 11 rfl) ?_
          have hlq := pl_len (M := ML r N d) (P := PL r N d) (r := r) (N := N) (l := x) (lev := lev) (cr := cr) (x := X) (y := Y) (show i + 1 ≤ N from hlt)
          rw [pl_at c_33 c_44, List.length_append] at hlq
          refine kcVv C0 hP hD hS (c_X5_placeAtom l D cI a v r i N d rk ((lsS (ML r N d) r N x lev cr i).2.2.2.1) ((lsS (ML r N d) r N x lev cr i).2.2.2.2) (X + (lsS (ML r N d) r N x lev cr i).1 + (if bfr (r 2) (r 3) (r 4) N x i = -1 then 0 else spO (bfr (r 2) (r 3) (r 4) N x i) (cnA (r 2) (r 3) (r 4) N i) (lsS (ML r N d) r N x lev cr i).2.2.2.1)) Y (c + (plS (ML r N d) (PL r N d) r N x lev cr X Y i).length) (ptI it c (plS (ML r N d) (PL r N d) r N x lev cr X Y i)) z1 w1 h1_ d1 u1 e1 hM hPl hN hN1 hlt (show rk (r 2 i) ≤ d by rw [c_33]; omega) hR c_44 (by omega)) (cwV 5 hts gX5_placeList_X5_placeAtom rfl rfl rfl (by decide +kernel) ⟨by dsimp only [rmL, rmF, rmN, rmA, rpL, rpF, rpN, rpA]; omega, by dsimp only [rmL, rmF, rmN, rmA, rpL, rpF, rpN, rpA]; omega⟩) 0 5 rfl rfl rfl hl.1 rfl (Nat.le_of_ble_eq_true rfl) dX5_placeList_131 ⟨Nat.zero_le _, Nat.zero_le _⟩ (fun u H locs hq hP hD hS => ?_)
          obtain ⟨w_2, h_2, d_2, u_2, e_2, z_2⟩ := u
          have hz_2 : ∀ i4, rk (r 2 i) < rk (r 2 i4) → ∀ k4, k4 < 16 → z_2 (16 * i4 + k4) = z1 (16 * i4 + k4) := hq
          have hP : va_P D vwCl (wM cI a (vU (vU (vU (vU (vU (vU v 14 (nI ((c + (plS (ML r N d) (PL r N d) r N x lev cr X Y i).length) + (pAt (ML r N d) (PL r N d) r i ((lsS (ML r N d) r N x lev cr i).2.2.2.1) ((lsS (ML r N d) r N x lev cr i).2.2.2.2) (X + (lsS (ML r N d) r N x lev cr i).1 + (if bfr (r 2) (r 3) (r 4) N x i = -1 then 0 else spO (bfr (r 2) (r 3) (r 4) N x i) (cnA (r 2) (r 3) (r 4) N i) (lsS (ML r N d) r N x lev cr i).2.2.2.1)) Y).length))) 19 w_2) 20 h_2) 21 d_2) 22 u_2) 23 e_2) (rU (rU r 11 (ptI (ptI it c (plS (ML r N d) (PL r N d) r N x lev cr X Y i)) (c + (plS (ML r N d) (PL r N d) r N x lev cr X Y i).length) (pAt (ML r N d) (PL r N d) r i ((lsS (ML r N d) r N x lev cr i).2.2.2.1) ((lsS (ML r N d) r N x lev cr i).2.2.2.2) (X + (lsS (ML r N d) r N x lev cr i).1 + (if bfr (r 2) (r 3) (r 4) N x i = -1 then 0 else spO (bfr (r 2) (r 3) (r 4) N x i) (cnA (r 2) (r 3) (r 4) N i) (lsS (ML r N d) r N x lev cr i).2.2.2.1)) Y))) 12 z_2)) H := hP
          have hD : va_D A (wM cI a (vU (vU (vU (vU (vU (vU v 14 (nI ((c + (plS (ML r N d) (PL r N d) r N x lev cr X Y i).length) + (pAt (ML r N d) (PL r N d) r i ((lsS (ML r N d) r N x lev cr i).2.2.2.1) ((lsS (ML r N d) r N x lev cr i).2.2.2.2) (X + (lsS (ML r N d) r N x lev cr i).1 + (if bfr (r 2) (r 3) (r 4) N x i = -1 then 0 else spO (bfr (r 2) (r 3) (r 4) N x i) (cnA (r 2) (r 3) (r 4) N i) (lsS (ML r N d) r N x lev cr i).2.2.2.1)) Y).length))) 19 w_2) 20 h_2) 21 d_2) 22 u_2) 23 e_2) (rU (rU r 11 (ptI (ptI it c (plS (ML r N d) (PL r N d) r N x lev cr X Y i)) (c + (plS (ML r N d) (PL r N d) r N x lev cr X Y i).length) (pAt (ML r N d) (PL r N d) r i ((lsS (ML r N d) r N x lev cr i).2.2.2.1) ((lsS (ML r N d) r N x lev cr i).2.2.2.2) (X + (lsS (ML r N d) r N x lev cr i).1 + (if bfr (r 2) (r 3) (r 4) N x i = -1 then 0 else spO (bfr (r 2) (r 3) (r 4) N x i) (cnA (r 2) (r 3) (r 4) N i) (lsS (ML r N d) r N x lev cr i).2.2.2.1)) Y))) 12 z_2)) := hD
          refine lv_aload_n hx hb dX5_placeList_134 rfl (lv_at hl 6 rfl) ?_
          refine lv_iload hx hb dX5_placeList_135 (lv_at hl 2 rfl) ?_
          refine lv_iload hx hb dX5_placeList_137 (lv_at hl 5 rfl) ?_
          refine lv_iload hx hb dX5_placeList_139 (lv_at hl 4 rfl) ?_
          refine kcVv C0 hP hD hS (c_X5_measureAtom l D cI a (vU v 14 (nI ((c + (plS (ML r N d) (PL r N d) r N x lev cr X Y i).length) + (pAt (ML r N d) (PL r N d) r i ((lsS (ML r N d) r N x lev cr i).2.2.2.1) ((lsS (ML r N d) r N x lev cr i).2.2.2.2) (X + (lsS (ML r N d) r N x lev cr i).1 + (if bfr (r 2) (r 3) (r 4) N x i = -1 then 0 else spO (bfr (r 2) (r 3) (r 4) N x i) (cnA (r 2) (r 3) (r 4) N i) (lsS (ML r N d) r N x lev cr i).2.2.2.1)) Y).length))) r i N d rk ((lsS (ML r N d) r N x lev cr i).2.2.2.1) ((lsS (ML r N d) r N x lev cr i).2.2.2.2) (ptI (ptI it c (plS (ML r N d) (PL r N d) r N x lev cr X Y i)) (c + (plS (ML r N d) (PL r N d) r N x lev cr X Y i).length) (pAt (ML r N d) (PL r N d) r i ((lsS (ML r N d) r N x lev cr i).2.2.2.1) ((lsS (ML r N d) r N x lev cr i).2.2.2.2) (X + (lsS (ML r N d) r N x lev cr i).1 + (if bfr (r 2) (r 3) (r 4) N x i = -1 then 0 else spO (bfr (r 2) (r 3) (r 4) N x i) (cnA (r 2) (r 3) (r 4) N i) (lsS (ML r N d) r N x lev cr i).2.2.2.1)) Y)) z_2 w_2 h_2 d_2 u_2 e_2 (hM (vU v 14 (nI ((c + (plS (ML r N d) (PL r N d) r N x lev cr X Y i).length) + (pAt (ML r N d) (PL r N d) r i ((lsS (ML r N d) r N x lev cr i).2.2.2.1) ((lsS (ML r N d) r N x lev cr i).2.2.2.2) (X + (lsS (ML r N d) r N x lev cr i).1 + (if bfr (r 2) (r 3) (r 4) N x i = -1 then 0 else spO (bfr (r 2) (r 3) (r 4) N x i) (cnA (r 2) (r 3) (r 4) N i) (lsS (ML r N d) r N x lev cr i).2.2.2.1)) Y).length))) hN) hN hN1 hlt (show rk (r 2 i) ≤ d by rw [c_33]; omega) hR c_44 (hma_all (hM (vU v 14 (nI ((c + (plS (ML r N d) (PL r N d) r N x lev cr X Y i).length) + (pAt (ML r N d) (PL r N d) r i ((lsS (ML r N d) r N x lev cr i).2.2.2.1) ((lsS (ML r N d) r N x lev cr i).2.2.2.2) (X + (lsS (ML r N d) r N x lev cr i).1 + (if bfr (r 2) (r 3) (r 4) N x i = -1 then 0 else spO (bfr (r 2) (r 3) (r 4) N x i) (cnA (r 2) (r 3) (r 4) N i) (lsS (ML r N d) r N x lev cr i).2.2.2.1)) Y).length))) hN) hN1 hlt (show rk (r 2 i) ≤ d by rw [c_33]; omega))) (cwV 3 hts gX5_placeList_X5_measureAtom rfl rfl rfl (by decide +kernel) ⟨by dsimp only [rmL, rmF, rmN, rmA, rpL, rpF, rpN, rpA]; omega, by dsimp only [rmL, rmF, rmN, rmA, rpL, rpF, rpN, rpA]; omega⟩) 0 5 rfl rfl rfl hl.1 rfl (Nat.le_of_ble_eq_true rfl) dX5_placeList_141 ⟨Nat.zero_le _, Nat.zero_le _⟩ (fun u H locs hq hP hD hS => ?_)
          obtain ⟨u_3, e_3, z_3⟩ := u
          have hz_3 : (∀ i4, rk (r 2 i) < rk (r 2 i4) → ∀ k4, k4 < 16 → z_3 (16 * i4 + k4) = z_2 (16 * i4 + k4)) ∧ (¬ (r 8 i = -1 ∧ r 9 i = -1) → u_3 = atU (ML r N d) r i ((lsS (ML r N d) r N x lev cr i).2.2.2.1) ((lsS (ML r N d) r N x lev cr i).2.2.2.2) ∧ e_3 = atD (ML r N d) r i ((lsS (ML r N d) r N x lev cr i).2.2.2.1) ((lsS (ML r N d) r N x lev cr i).2.2.2.2)) := hq
          have hP : va_P D vwCl (wM cI a (vU (vU (vU (vU (vU (vU v 14 (nI ((c + (plS (ML r N d) (PL r N d) r N x lev cr X Y i).length) + (pAt (ML r N d) (PL r N d) r i ((lsS (ML r N d) r N x lev cr i).2.2.2.1) ((lsS (ML r N d) r N x lev cr i).2.2.2.2) (X + (lsS (ML r N d) r N x lev cr i).1 + (if bfr (r 2) (r 3) (r 4) N x i = -1 then 0 else spO (bfr (r 2) (r 3) (r 4) N x i) (cnA (r 2) (r 3) (r 4) N i) (lsS (ML r N d) r N x lev cr i).2.2.2.1)) Y).length))) 19 ((mAt (ML r N d) r i ((lsS (ML r N d) r N x lev cr i).2.2.2.1) ((lsS (ML r N d) r N x lev cr i).2.2.2.2)).1)) 20 ((mAt (ML r N d) r i ((lsS (ML r N d) r N x lev cr i).2.2.2.1) ((lsS (ML r N d) r N x lev cr i).2.2.2.2)).2.1)) 21 ((mAt (ML r N d) r i ((lsS (ML r N d) r N x lev cr i).2.2.2.1) ((lsS (ML r N d) r N x lev cr i).2.2.2.2)).2.2)) 22 u_3) 23 e_3) (rU (rU r 11 (ptI (ptI it c (plS (ML r N d) (PL r N d) r N x lev cr X Y i)) (c + (plS (ML r N d) (PL r N d) r N x lev cr X Y i).length) (pAt (ML r N d) (PL r N d) r i ((lsS (ML r N d) r N x lev cr i).2.2.2.1) ((lsS (ML r N d) r N x lev cr i).2.2.2.2) (X + (lsS (ML r N d) r N x lev cr i).1 + (if bfr (r 2) (r 3) (r 4) N x i = -1 then 0 else spO (bfr (r 2) (r 3) (r 4) N x i) (cnA (r 2) (r 3) (r 4) N i) (lsS (ML r N d) r N x lev cr i).2.2.2.1)) Y))) 12 z_3)) H := hP
          have hD : va_D A (wM cI a (vU (vU (vU (vU (vU (vU v 14 (nI ((c + (plS (ML r N d) (PL r N d) r N x lev cr X Y i).length) + (pAt (ML r N d) (PL r N d) r i ((lsS (ML r N d) r N x lev cr i).2.2.2.1) ((lsS (ML r N d) r N x lev cr i).2.2.2.2) (X + (lsS (ML r N d) r N x lev cr i).1 + (if bfr (r 2) (r 3) (r 4) N x i = -1 then 0 else spO (bfr (r 2) (r 3) (r 4) N x i) (cnA (r 2) (r 3) (r 4) N i) (lsS (ML r N d) r N x lev cr i).2.2.2.1)) Y).length))) 19 ((mAt (ML r N d) r i ((lsS (ML r N d) r N x lev cr i).2.2.2.1) ((lsS (ML r N d) r N x lev cr i).2.2.2.2)).1)) 20 ((mAt (ML r N d) r i ((lsS (ML r N d) r N x lev cr i).2.2.2.1) ((lsS (ML r N d) r N x lev cr i).2.2.2.2)).2.1)) 21 ((mAt (ML r N d) r i ((lsS (ML r N d) r N x lev cr i).2.2.2.1) ((lsS (ML r N d) r N x lev cr i).2.2.2.2)).2.2)) 22 u_3) 23 e_3) (rU (rU r 11 (ptI (ptI it c (plS (ML r N d) (PL r N d) r N x lev cr X Y i)) (c + (plS (ML r N d) (PL r N d) r N x lev cr X Y i).length) (pAt (ML r N d) (PL r N d) r i ((lsS (ML r N d) r N x lev cr i).2.2.2.1) ((lsS (ML r N d) r N x lev cr i).2.2.2.2) (X + (lsS (ML r N d) r N x lev cr i).1 + (if bfr (r 2) (r 3) (r 4) N x i = -1 then 0 else spO (bfr (r 2) (r 3) (r 4) N x i) (cnA (r 2) (r 3) (r 4) N i) (lsS (ML r N d) r N x lev cr i).2.2.2.1)) Y))) 12 z_3)) := hD
          refine lv_iload hx hb dX5_placeList_144 (lv_at hl 0 rfl) ?_
          refine lv_aload_n hx hb dX5_placeList_146 rfl (lv_at hl 6 rfl) ?_
          refine va_get (D := D) (ci := 5) (v := .int ((mAt (ML r N d) r i ((lsS (ML r N d) r N x lev cr i).2.2.2.1) ((lsS (ML r N d) r N x lev cr i).2.2.2.2)).1)) (C := RX5) (T := TX5) (N := 25) hx hb hts hin_X5 hown hK hP 0 rfl rfl 19 (by decide) hf96 (fun _ h9 => h9) rfl dX5_placeList_147 ?_
          refine lv_iadd hx hb dX5_placeList_150 ?_
          refine lv_eqi (ad3 X (lsS (ML r N d) r N x lev cr i).1 (if bfr (r 2) (r 3) (r 4) N x i = -1 then 0 else spO (bfr (r 2) (r 3) (r 4) N x i) (cnA (r 2) (r 3) (r 4) N i) (lsS (ML r N d) r N x lev cr i).2.2.2.1) (mAt (ML r N d) r i (lsS (ML r N d) r N x lev cr i).2.2.2.1 (lsS (ML r N d) r N x lev cr i).2.2.2.2).1) ?_
          refine lv_istore (lv' := [(6, .int (X + ((lsS (ML r N d) r N x lev cr i).1 + (if bfr (r 2) (r 3) (r 4) N x i = -1 then 0 else spO (bfr (r 2) (r 3) (r 4) N x i) (cnA (r 2) (r 3) (r 4) N i) (lsS (ML r N d) r N x lev cr i).2.2.2.1) + (mAt (ML r N d) r i (lsS (ML r N d) r N x lev cr i).2.2.2.1 (lsS (ML r N d) r N x lev cr i).2.2.2.2).1))), (11, .int (cnA (r 2) (r 3) (r 4) N i)), (10, .int (nI i)), (9, .int (bfr (r 2) (r 3) (r 4) N x i)), (8, .int ((lsS (ML r N d) r N x lev cr i).2.2.2.2)), (7, .int ((lsS (ML r N d) r N x lev cr i).2.2.2.1)), (0, .ref (a 0)), (1, .int x), (2, .int lev), (3, .int cr), (4, .int X), (5, .int Y)]) hx hb dX5_placeList_151 hl (by decide) rfl (fun ls hl => ?_)
          refine lv_iload hx hb dX5_placeList_153 (lv_at hl 1 rfl) ?_
          refine lv_istore (lv' := [(9, .int (cnA (r 2) (r 3) (r 4) N i)), (6, .int (X + ((lsS (ML r N d) r N x lev cr i).1 + (if bfr (r 2) (r 3) (r 4) N x i = -1 then 0 else spO (bfr (r 2) (r 3) (r 4) N x i) (cnA (r 2) (r 3) (r 4) N i) (lsS (ML r N d) r N x lev cr i).2.2.2.1) + (mAt (ML r N d) r i (lsS (ML r N d) r N x lev cr i).2.2.2.1 (lsS (ML r N d) r N x lev cr i).2.2.2.2).1))), (11, .int (cnA (r 2) (r 3) (r 4) N i)), (10, .int (nI i)), (8, .int ((lsS (ML r N d) r N x lev cr i).2.2.2.2)), (7, .int ((lsS (ML r N d) r N x lev cr i).2.2.2.1)), (0, .ref (a 0)), (1, .int x), (2, .int lev), (3, .int cr), (4, .int X), (5, .int Y)]) hx hb dX5_placeList_155 hl (by decide) rfl (fun ls hl => ?_)
          refine lv_iinc (v := (nI (i + 1))) (lv' := [(10, .int (nI (i + 1))), (9, .int (cnA (r 2) (r 3) (r 4) N i)), (6, .int (X + ((lsS (ML r N d) r N x lev cr i).1 + (if bfr (r 2) (r 3) (r 4) N x i = -1 then 0 else spO (bfr (r 2) (r 3) (r 4) N x i) (cnA (r 2) (r 3) (r 4) N i) (lsS (ML r N d) r N x lev cr i).2.2.2.1) + (mAt (ML r N d) r i (lsS (ML r N d) r N x lev cr i).2.2.2.1 (lsS (ML r N d) r N x lev cr i).2.2.2.2).1))), (11, .int (cnA (r 2) (r 3) (r 4) N i)), (8, .int ((lsS (ML r N d) r N x lev cr i).2.2.2.2)), (7, .int ((lsS (ML r N d) r N x lev cr i).2.2.2.1)), (0, .ref (a 0)), (1, .int x), (2, .int lev), (3, .int cr), (4, .int X), (5, .int Y)]) hx hb dX5_placeList_157 hl (k := 3) rfl (k_inc i) (by decide) rfl (fun ls hl => ?_)
          refine lv_goto (tgt := 16) hx hb dX5_placeList_160 (by decide) ?_
          have hqa := pt2 (it := it) (c := c) (pl_at (M := ML r N d) (P := PL r N d) (N := N) (lev := lev) (cr := cr) (x := X) (y := Y) c_33 c_44)
          have hl2 : lv_has ls 12 [(10, .int (nI (i + 1))), (9, .int (bfr (r 2) (r 3) (r 4) N x (i + 1))), (8, .int ((lsS (ML r N d) r N x lev cr (i + 1)).2.2.2.2)), (7, .int ((lsS (ML r N d) r N x lev cr (i + 1)).2.2.2.1)), (6, .int (X + (lsS (ML r N d) r N x lev cr (i + 1)).1)), (0, .ref (a 0)), (1, .int x), (2, .int lev), (3, .int cr), (4, .int X), (5, .int Y)] := by rw [ls_at c_33 c_44, bf_at c_33 c_44]; exact lv_sub hl [0, 1, 4, 5, 2, 6, 7, 8, 9, 10, 11] rfl
          have hw : (wM cI a (vU (vU (vU (vU (vU (vU v 14 (nI ((c + (plS (ML r N d) (PL r N d) r N x lev cr X Y i).length) + (pAt (ML r N d) (PL r N d) r i ((lsS (ML r N d) r N x lev cr i).2.2.2.1) ((lsS (ML r N d) r N x lev cr i).2.2.2.2) (X + (lsS (ML r N d) r N x lev cr i).1 + (if bfr (r 2) (r 3) (r 4) N x i = -1 then 0 else spO (bfr (r 2) (r 3) (r 4) N x i) (cnA (r 2) (r 3) (r 4) N i) (lsS (ML r N d) r N x lev cr i).2.2.2.1)) Y).length))) 19 ((mAt (ML r N d) r i ((lsS (ML r N d) r N x lev cr i).2.2.2.1) ((lsS (ML r N d) r N x lev cr i).2.2.2.2)).1)) 20 ((mAt (ML r N d) r i ((lsS (ML r N d) r N x lev cr i).2.2.2.1) ((lsS (ML r N d) r N x lev cr i).2.2.2.2)).2.1)) 21 ((mAt (ML r N d) r i ((lsS (ML r N d) r N x lev cr i).2.2.2.1) ((lsS (ML r N d) r N x lev cr i).2.2.2.2)).2.2)) 22 u_3) 23 e_3) (rU (rU r 11 (ptI (ptI it c (plS (ML r N d) (PL r N d) r N x lev cr X Y i)) (c + (plS (ML r N d) (PL r N d) r N x lev cr X Y i).length) (pAt (ML r N d) (PL r N d) r i ((lsS (ML r N d) r N x lev cr i).2.2.2.1) ((lsS (ML r N d) r N x lev cr i).2.2.2.2) (X + (lsS (ML r N d) r N x lev cr i).1 + (if bfr (r 2) (r 3) (r 4) N x i = -1 then 0 else spO (bfr (r 2) (r 3) (r 4) N x i) (cnA (r 2) (r 3) (r 4) N i) (lsS (ML r N d) r N x lev cr i).2.2.2.1)) Y))) 12 z_3)) = (wM cI a (vU (vU (vU (vU (vU (vU v 14 (nI (c + (plS (ML r N d) (PL r N d) r N x lev cr X Y (i + 1)).length))) 19 ((mAt (ML r N d) r i ((lsS (ML r N d) r N x lev cr i).2.2.2.1) ((lsS (ML r N d) r N x lev cr i).2.2.2.2)).1)) 20 ((mAt (ML r N d) r i ((lsS (ML r N d) r N x lev cr i).2.2.2.1) ((lsS (ML r N d) r N x lev cr i).2.2.2.2)).2.1)) 21 ((mAt (ML r N d) r i ((lsS (ML r N d) r N x lev cr i).2.2.2.1) ((lsS (ML r N d) r N x lev cr i).2.2.2.2)).2.2)) 22 u_3) 23 e_3) (rU (rU r 11 (ptI it c (plS (ML r N d) (PL r N d) r N x lev cr X Y (i + 1)))) 12 z_3)) := by rw [← hqa.1, ← hqa.2]
          have hP : va_P D vwCl (wM cI a (vU (vU (vU (vU (vU (vU v 14 (nI (c + (plS (ML r N d) (PL r N d) r N x lev cr X Y (i + 1)).length))) 19 ((mAt (ML r N d) r i ((lsS (ML r N d) r N x lev cr i).2.2.2.1) ((lsS (ML r N d) r N x lev cr i).2.2.2.2)).1)) 20 ((mAt (ML r N d) r i ((lsS (ML r N d) r N x lev cr i).2.2.2.1) ((lsS (ML r N d) r N x lev cr i).2.2.2.2)).2.1)) 21 ((mAt (ML r N d) r i ((lsS (ML r N d) r N x lev cr i).2.2.2.1) ((lsS (ML r N d) r N x lev cr i).2.2.2.2)).2.2)) 22 u_3) 23 e_3) (rU (rU r 11 (ptI it c (plS (ML r N d) (PL r N d) r N x lev cr X Y (i + 1)))) 12 z_3)) _ := hw ▸ hP
          have hD : va_D A (wM cI a (vU (vU (vU (vU (vU (vU v 14 (nI (c + (plS (ML r N d) (PL r N d) r N x lev cr X Y (i + 1)).length))) 19 ((mAt (ML r N d) r i ((lsS (ML r N d) r N x lev cr i).2.2.2.1) ((lsS (ML r N d) r N x lev cr i).2.2.2.2)).1)) 20 ((mAt (ML r N d) r i ((lsS (ML r N d) r N x lev cr i).2.2.2.1) ((lsS (ML r N d) r N x lev cr i).2.2.2.2)).2.1)) 21 ((mAt (ML r N d) r i ((lsS (ML r N d) r N x lev cr i).2.2.2.1) ((lsS (ML r N d) r N x lev cr i).2.2.2.2)).2.2)) 22 u_3) 23 e_3) (rU (rU r 11 (ptI it c (plS (ML r N d) (PL r N d) r N x lev cr X Y (i + 1)))) 12 z_3)) := hw ▸ hD
          exact ih ((i + 1), (mAt (ML r N d) r i ((lsS (ML r N d) r N x lev cr i).2.2.2.1) ((lsS (ML r N d) r N x lev cr i).2.2.2.2)).1, (mAt (ML r N d) r i ((lsS (ML r N d) r N x lev cr i).2.2.2.1) ((lsS (ML r N d) r N x lev cr i).2.2.2.2)).2.1, (mAt (ML r N d) r i ((lsS (ML r N d) r N x lev cr i).2.2.2.1) ((lsS (ML r N d) r N x lev cr i).2.2.2.2)).2.2, u_3, e_3, z_3) _ _ _ hP hD hS hl2 ⟨hlt, (fun i4 hi k4 hk => by show z_3 (16 * i4 + k4) = sz (16 * i4 + k4); rw [hz_3.1 i4 (by rw [c_33]; exact hi) k4 hk, hz_2 i4 (by rw [c_33]; exact hi) k4 hk, h1 i4 hi k4 hk])⟩ (show N - (i + 1) < N - i by omega)
      · skip
        refine lv_aload_n hx hb dX5_placeList_47 rfl (lv_at hl 5 rfl) ?_
        refine va_get (D := D) (ci := 5) (v := .ref (a 5)) (C := RX5) (T := TX5) (N := 25) hx hb hts hin_X5 hown hK hP 0 rfl rfl 8 (by decide) hf26 (fun _ h9 => h9) rfl dX5_placeList_48 ?_
        refine lv_iload hx hb dX5_placeList_51 (lv_at hl 0 rfl) ?_
        refine ra_ld (f := (r 5)) C0 hP 5 rfl i rfl (by omega) (by decide) dX5_placeList_53 ?_
        refine lv_istore (lv' := [(7, .int ((r 5) i)), (10, .int (nI i)), (9, .int (bfr (r 2) (r 3) (r 4) N x i)), (8, .int ((lsS (ML r N d) r N x lev cr i).2.2.2.2)), (6, .int (X + (lsS (ML r N d) r N x lev cr i).1)), (0, .ref (a 0)), (1, .int x), (2, .int lev), (3, .int cr), (4, .int X), (5, .int Y)]) hx hb dX5_placeList_54 hl (by decide) rfl (fun ls hl => ?_)
        refine lv_aload_n hx hb dX5_placeList_56 rfl (lv_at hl 5 rfl) ?_
        refine va_get (D := D) (ci := 5) (v := .ref (a 6)) (C := RX5) (T := TX5) (N := 25) hx hb hts hin_X5 hown hK hP 0 rfl rfl 9 (by decide) hf29 (fun _ h9 => h9) rfl dX5_placeList_57 ?_
        refine lv_iload hx hb dX5_placeList_60 (lv_at hl 1 rfl) ?_
        refine ra_ld (f := (r 6)) C0 hP 6 rfl i rfl (by omega) (by decide) dX5_placeList_62 ?_
        refine lv_iconst (v := 1) hx hb dX5_placeList_63 (by decide) ?_
        obtain ⟨x_4, ex_4⟩ : ∃ zz_ : Int32, zz_ = (if ((r 6) i) = 1 then (1 : Int32) else (0 : Int32)) := ⟨_, rfl⟩
        refine jW (D := D) hD hl 72 (wM cI a (vU (vU (vU (vU (vU (vU v 14 (nI (c + (plS (ML r N d) (PL r N d) r N x lev cr X Y i).length))) 19 w1) 20 h1_) 21 d1) 22 u1) 23 e1) (rU (rU r 11 (ptI it c (plS (ML r N d) (PL r N d) r N x lev cr X Y i))) 12 z1)) [(7, .int ((r 5) i)), (10, .int (nI i)), (9, .int (bfr (r 2) (r 3) (r 4) N x i)), (8, .int ((lsS (ML r N d) r N x lev cr i).2.2.2.2)), (6, .int (X + (lsS (ML r N d) r N x lev cr i).1)), (0, .ref (a 0)), (1, .int x), (2, .int lev), (3, .int cr), (4, .int X), (5, .int Y)] [.int x_4] (fun hJ => ?_) (fun H locs ls hP hD hS hl => ?_)
        · skip
          refine lv_icmp_ne (tgt := 71) hx hb dX5_placeList_64 (by decide) (fun c_64 => ?_) (fun c_64 => ?_)
          · skip
            refine lv_iconst (v := 0) hx hb dX5_placeList_71 (by decide) ?_
            have gx_4 : x_4 = 0 := by rw [ex_4]; simp only [if_neg c_64]
            simp only [gx_4] at hJ
            exact hJ _ _ _ hP hD hS (lv_sub hl [0, 1, 2, 3, 4, 5, 6, 7, 8, 9, 10] rfl)
          · skip
            refine lv_iconst (v := 1) hx hb dX5_placeList_67 (by decide) ?_
            refine lv_goto (tgt := 72) hx hb dX5_placeList_68 (by decide) ?_
            have gx_4 : x_4 = 1 := by rw [ex_4]; simp only [if_pos c_64]
            simp only [gx_4] at hJ
            exact hJ _ _ _ hP hD hS (lv_sub hl [0, 1, 2, 3, 4, 5, 6, 7, 8, 9, 10] rfl)
        · skip
          refine lv_istore (lv' := [(8, .int x_4), (7, .int ((r 5) i)), (10, .int (nI i)), (9, .int (bfr (r 2) (r 3) (r 4) N x i)), (6, .int (X + (lsS (ML r N d) r N x lev cr i).1)), (0, .ref (a 0)), (1, .int x), (2, .int lev), (3, .int cr), (4, .int X), (5, .int Y)]) hx hb dX5_placeList_72 hl (by decide) rfl (fun ls hl => ?_)
          refine lv_goto (tgt := 157) hx hb dX5_placeList_74 (by decide) ?_
          refine lv_iinc (v := (nI (i + 1))) (lv' := [(10, .int (nI (i + 1))), (8, .int x_4), (7, .int ((r 5) i)), (9, .int (bfr (r 2) (r 3) (r 4) N x i)), (6, .int (X + (lsS (ML r N d) r N x lev cr i).1)), (0, .ref (a 0)), (1, .int x), (2, .int lev), (3, .int cr), (4, .int X), (5, .int Y)]) hx hb dX5_placeList_157 hl (k := 2) rfl (k_inc i) (by decide) rfl (fun ls hl => ?_)
          refine lv_goto (tgt := 16) hx hb dX5_placeList_160 (by decide) ?_
          have hl2 : lv_has ls 12 [(10, .int (nI (i + 1))), (9, .int (bfr (r 2) (r 3) (r 4) N x (i + 1))), (8, .int ((lsS (ML r N d) r N x lev cr (i + 1)).2.2.2.2)), (7, .int ((lsS (ML r N d) r N x lev cr (i + 1)).2.2.2.1)), (6, .int (X + (lsS (ML r N d) r N x lev cr (i + 1)).1)), (0, .ref (a 0)), (1, .int x), (2, .int lev), (3, .int cr), (4, .int X), (5, .int Y)] := by rw [ls_st c_33 c_44, bf_no (fun q => q.2 c_44), ← ex_4]; exact lv_sub hl [0, 3, 1, 2, 4, 5, 6, 7, 8, 9, 10] rfl
          have hw : (wM cI a (vU (vU (vU (vU (vU (vU v 14 (nI (c + (plS (ML r N d) (PL r N d) r N x lev cr X Y i).length))) 19 w1) 20 h1_) 21 d1) 22 u1) 23 e1) (rU (rU r 11 (ptI it c (plS (ML r N d) (PL r N d) r N x lev cr X Y i))) 12 z1)) = (wM cI a (vU (vU (vU (vU (vU (vU v 14 (nI (c + (plS (ML r N d) (PL r N d) r N x lev cr X Y (i + 1)).length))) 19 w1) 20 h1_) 21 d1) 22 u1) 23 e1) (rU (rU r 11 (ptI it c (plS (ML r N d) (PL r N d) r N x lev cr X Y (i + 1)))) 12 z1)) := by rw [pl_st c_33 c_44]
          have hP : va_P D vwCl (wM cI a (vU (vU (vU (vU (vU (vU v 14 (nI (c + (plS (ML r N d) (PL r N d) r N x lev cr X Y (i + 1)).length))) 19 w1) 20 h1_) 21 d1) 22 u1) 23 e1) (rU (rU r 11 (ptI it c (plS (ML r N d) (PL r N d) r N x lev cr X Y (i + 1)))) 12 z1)) _ := hw ▸ hP
          have hD : va_D A (wM cI a (vU (vU (vU (vU (vU (vU v 14 (nI (c + (plS (ML r N d) (PL r N d) r N x lev cr X Y (i + 1)).length))) 19 w1) 20 h1_) 21 d1) 22 u1) 23 e1) (rU (rU r 11 (ptI it c (plS (ML r N d) (PL r N d) r N x lev cr X Y (i + 1)))) 12 z1)) := hw ▸ hD
          exact ih ((i + 1), w1, h1_, d1, u1, e1, z1) _ _ _ hP hD hS hl2 ⟨hlt, (fun i4 hi k4 hk => by show z1 (16 * i4 + k4) = sz (16 * i4 + k4); rw [h1 i4 hi k4 hk])⟩ (show N - (i + 1) < N - i by omega)

/-- THE REFERENCE'S PLACING, at every depth -/
theorem hpl_all {l : Launch} {D : va_G} {cI : ClassId} {a : Nat → Nat} {v : Nat → Int32} {r : Nat → Nat → Int32} {N : Nat} {rk : Int32 → Nat} (hN : v 4 = nI N) (hN1 : N ≤ 120) (hR : HRK r N rk) (hki : ∀ i, i < N → ¬ r 4 i = -1) : ∀ d, HPL l D cI a v r N rk d
  | 0 => fun x lev cr X Y c it sz w0 h0 d0 u0 e0 h => absurd h (Nat.not_lt_zero _)
  | d + 1 => fun x lev cr X Y c it sz w0 h0 d0 u0 e0 h hcl => c_X5_placeList l D cI a v r x lev cr X Y N d rk c it sz w0 h0 d0 u0 e0 (fun v2 h2 => hml_all h2 hN1 hR hki d) (hpl_all hN hN1 hR hki d) hR hN hN1 hki h hcl
