theorem ls_no {M : Int32 → Int32 → Int32 → T3} {r : Nat → Nat → Int32} {N k : Nat} {x lev cr : Int32} (h : ¬ r 2 k = x) : lsS M r N x lev cr (k + 1) = lsS M r N x lev cr k := by rw [lsS, if_neg h]
theorem ls_st {M : Int32 → Int32 → Int32 → T3} {r : Nat → Nat → Int32} {N k : Nat} {x lev cr : Int32} (h : r 2 k = x) (h4 : r 3 k = 4) : lsS M r N x lev cr (k + 1) = ((lsS M r N x lev cr k).1, (lsS M r N x lev cr k).2.1, (lsS M r N x lev cr k).2.2.1, r 5 k, if r 6 k = 1 then 1 else 0) := by rw [lsS, if_pos h, if_pos h4]
theorem ls_at {M : Int32 → Int32 → Int32 → T3} {r : Nat → Nat → Int32} {N k : Nat} {x lev cr : Int32} (h : r 2 k = x) (h4 : ¬ r 3 k = 4) : lsS M r N x lev cr (k + 1) =
    ((lsS M r N x lev cr k).1 + (if bfr (r 2) (r 3) (r 4) N x k = -1 then 0 else spO (bfr (r 2) (r 3) (r 4) N x k) (cnA (r 2) (r 3) (r 4) N k) (lsS M r N x lev cr k).2.2.2.1) + (mAt M r k (lsS M r N x lev cr k).2.2.2.1 (lsS M r N x lev cr k).2.2.2.2).1,
     mx (lsS M r N x lev cr k).2.1 (mAt M r k (lsS M r N x lev cr k).2.2.2.1 (lsS M r N x lev cr k).2.2.2.2).2.1, mx (lsS M r N x lev cr k).2.2.1 (mAt M r k (lsS M r N x lev cr k).2.2.2.1 (lsS M r N x lev cr k).2.2.2.2).2.2, (lsS M r N x lev cr k).2.2.2.1, (lsS M r N x lev cr k).2.2.2.2) := by rw [lsS, if_pos h, if_neg h4]
theorem bf_no {lof wh ki : Nat → Int32} {N k : Nat} {x : Int32} (h : ¬ (lof k = x ∧ ¬ wh k = 4)) : bfr lof wh ki N x (k + 1) = bfr lof wh ki N x k := by rw [bfr, if_neg h]
theorem bf_at {lof wh ki : Nat → Int32} {N k : Nat} {x : Int32} (h : lof k = x) (h4 : ¬ wh k = 4) : bfr lof wh ki N x (k + 1) = cnA lof wh ki N k := by rw [bfr, if_pos ⟨h, h4⟩, cnA, h]

set_option maxHeartbeats 1500000 in
set_option maxRecDepth 100000 in
theorem c_X5_measureList (l : Launch) (D : va_G) (cI : ClassId) (a : Nat → Nat) (v : Nat → Int32) (r : Nat → Nat → Int32) (x lev cr : Int32) (N d : Nat) (rk : Int32 → Nat) (it sz : Nat → Int32) (w0 h0 d0 u0 e0 : Int32) (hM : HML l D cI a v r N rk d) (hMa : ∀ n, n < N → ¬ r 3 n = 4 → rk (r 2 n) ≤ d → HMA l D cI a v r N rk d n) (hR : HRK r N rk) (hN : v 4 = nI N) (hN1 : N ≤ 120) (hki : ∀ i, i < N → ¬ r 4 i = -1) (hx1 : rk x < d + 1) : KV l D cI yX5_measureList wsX5_measureList (rmL (d + 1)) [.ref (a 0), .int x, .int lev, .int cr] (wM cI a (vU (vU (vU (vU (vU v 19 w0) 20 h0) 21 d0) 22 u0) 23 e0) (rU (rU r 11 it) 12 sz)) (fun u : Int32 × Int32 × (Nat → Int32) => wM cI a (v5 v (ML r N (d + 1) x lev cr).1 (ML r N (d + 1) x lev cr).2.1 (ML r N (d + 1) x lev cr).2.2 u.1 u.2.1) (r2 r it u.2.2)) (fun u => ∀ i2, rk x < rk (r 2 i2) → ∀ k, k < 16 → u.2.2 (16 * i2 + k) = sz (16 * i2 + k)) := by
  refine KV.of (cc := cX5_measureList) (nL := 12) (ret := none) (by decide) rfl (Nat.le_of_ble_eq_true rfl) ?_
  intro pg9 en9 s m args below meth cd9 A ls C0 hP hD hS hl
  have hx := C0.1.1
  have hb := C0.1.2.1
  have hml := C0.1.2.2.1
  have hown : s.vm.findClass RX5 = some m.cls := C0.1.2.2.2.1
  have hts : ∀ w ∈ wsX5_measureList, w.before args s = true := C0.1.2.2.2.2
  have hK := C0.2.2.2.1
  have hin_X5 : ∀ w ∈ wsX50, w ∈ wsX5_measureList := fun w h => List.mem_cons_of_mem _ (List.mem_append_right _ h)
  have hf53 : (Cond.fieldLink RX5 53 "FormulaListsModel" "nodes" "I").before args s = true := hts _ (by decide +kernel)
  have hf17 : (Cond.fieldLink RX5 17 "FormulaListsModel" "listOf" "[I").before args s = true := hts _ (by decide +kernel)
  have hf20 : (Cond.fieldLink RX5 20 "FormulaListsModel" "what" "[I").before args s = true := hts _ (by decide +kernel)
  have hf96 : (Cond.fieldLink RX5 96 "FormulaListsModel" "width" "I").before args s = true := hts _ (by decide +kernel)
  have hf99 : (Cond.fieldLink RX5 99 "FormulaListsModel" "height" "I").before args s = true := hts _ (by decide +kernel)
  have hf102 : (Cond.fieldLink RX5 102 "FormulaListsModel" "depth" "I").before args s = true := hts _ (by decide +kernel)
  have hf26 : (Cond.fieldLink RX5 26 "FormulaListsModel" "one" "[I").before args s = true := hts _ (by decide +kernel)
  have hf29 : (Cond.fieldLink RX5 29 "FormulaListsModel" "two" "[I").before args s = true := hts _ (by decide +kernel)
  have hl : lv_has ls 12 [(0, .ref (a 0)), (1, .int x), (2, .int lev), (3, .int cr)] := hl
  have hP : va_P D vwCl (wM cI a (vU (vU (vU (vU (vU v 19 w0) 20 h0) 21 d0) 22 u0) 23 e0) (rU (rU r 11 it) 12 sz)) s.heap := hP
  refine lv_iconst (v := 0) hx hb dX5_measureList_0 (by decide) ?_
  refine lv_istore (lv' := [(4, .int 0), (0, .ref (a 0)), (1, .int x), (2, .int lev), (3, .int cr)]) hx hb dX5_measureList_1 hl (by decide) rfl (fun ls hl => ?_)
  refine lv_iconst (v := 0) hx hb dX5_measureList_3 (by decide) ?_
  refine lv_istore (lv' := [(5, .int 0), (4, .int 0), (0, .ref (a 0)), (1, .int x), (2, .int lev), (3, .int cr)]) hx hb dX5_measureList_4 hl (by decide) rfl (fun ls hl => ?_)
  refine lv_iconst (v := 0) hx hb dX5_measureList_6 (by decide) ?_
  refine lv_istore (lv' := [(6, .int 0), (5, .int 0), (4, .int 0), (0, .ref (a 0)), (1, .int x), (2, .int lev), (3, .int cr)]) hx hb dX5_measureList_7 hl (by decide) rfl (fun ls hl => ?_)
  refine lv_iload_n hx hb dX5_measureList_9 rfl (lv_at hl 5 rfl) ?_
  refine lv_istore (lv' := [(7, .int lev), (6, .int 0), (5, .int 0), (4, .int 0), (0, .ref (a 0)), (1, .int x), (2, .int lev), (3, .int cr)]) hx hb dX5_measureList_10 hl (by decide) rfl (fun ls hl => ?_)
  refine lv_iload_n hx hb dX5_measureList_12 rfl (lv_at hl 7 rfl) ?_
  refine lv_istore (lv' := [(8, .int cr), (7, .int lev), (6, .int 0), (5, .int 0), (4, .int 0), (0, .ref (a 0)), (1, .int x), (2, .int lev), (3, .int cr)]) hx hb dX5_measureList_13 hl (by decide) rfl (fun ls hl => ?_)
  refine lv_iconst (v := (-1)) hx hb dX5_measureList_15 (by decide) ?_
  refine lv_istore (lv' := [(9, .int (-1)), (8, .int cr), (7, .int lev), (6, .int 0), (5, .int 0), (4, .int 0), (0, .ref (a 0)), (1, .int x), (2, .int lev), (3, .int cr)]) hx hb dX5_measureList_16 hl (by decide) rfl (fun ls hl => ?_)
  refine lv_iconst (v := 0) hx hb dX5_measureList_18 (by decide) ?_
  refine lv_istore (lv' := [(10, .int 0), (9, .int (-1)), (8, .int cr), (7, .int lev), (6, .int 0), (5, .int 0), (4, .int 0), (0, .ref (a 0)), (1, .int x), (2, .int lev), (3, .int cr)]) hx hb dX5_measureList_19 hl (by decide) rfl (fun ls hl => ?_)
  refine lpW (nL := 12) (A := A) (D := D) (fun z : Nat × Int32 × Int32 × Int32 × Int32 × Int32 × (Nat → Int32) => (wM cI a (vU (vU (vU (vU (vU v 19 z.2.1) 20 z.2.2.1) 21 z.2.2.2.1) 22 z.2.2.2.2.1) 23 z.2.2.2.2.2.1) (rU (rU r 11 it) 12 z.2.2.2.2.2.2))) (fun z : Nat × Int32 × Int32 × Int32 × Int32 × Int32 × (Nat → Int32) => [(10, .int (nI z.1)), (9, .int (bfr (r 2) (r 3) (r 4) N x z.1)), (8, .int ((lsS (ML r N d) r N x lev cr z.1).2.2.2.2)), (7, .int ((lsS (ML r N d) r N x lev cr z.1).2.2.2.1)), (6, .int ((lsS (ML r N d) r N x lev cr z.1).2.2.1)), (5, .int ((lsS (ML r N d) r N x lev cr z.1).2.1)), (4, .int ((lsS (ML r N d) r N x lev cr z.1).1)), (0, .ref (a 0)), (1, .int x), (2, .int lev), (3, .int cr)]) (fun z : Nat × Int32 × Int32 × Int32 × Int32 × Int32 × (Nat → Int32) => z.1 ≤ N ∧ ∀ i2, rk x < rk (r 2 i2) → ∀ k, k < 16 → z.2.2.2.2.2.2 (16 * i2 + k) = sz (16 * i2 + k)) (fun z : Nat × Int32 × Int32 × Int32 × Int32 × Int32 × (Nat → Int32) => N - z.1) (0, w0, h0, d0, u0, e0, sz) hP hD hS (lv_sub hl [0, 1, 2, 3, 4, 5, 6, 7, 8, 9, 10] rfl) ⟨Nat.zero_le _, fun _ _ _ _ => rfl⟩ ?_
  rintro ⟨i, w1, h1_, d1, u1, e1, z1⟩ H locs ls hP hD hS hl hf ih
  have hP : va_P D vwCl (wM cI a (vU (vU (vU (vU (vU v 19 w1) 20 h1_) 21 d1) 22 u1) 23 e1) (rU (rU r 11 it) 12 z1)) H := hP
  have hD : va_D A (wM cI a (vU (vU (vU (vU (vU v 19 w1) 20 h1_) 21 d1) 22 u1) 23 e1) (rU (rU r 11 it) 12 z1)) := hD
  have hl : lv_has ls 12 [(10, .int (nI i)), (9, .int (bfr (r 2) (r 3) (r 4) N x i)), (8, .int ((lsS (ML r N d) r N x lev cr i).2.2.2.2)), (7, .int ((lsS (ML r N d) r N x lev cr i).2.2.2.1)), (6, .int ((lsS (ML r N d) r N x lev cr i).2.2.1)), (5, .int ((lsS (ML r N d) r N x lev cr i).2.1)), (4, .int ((lsS (ML r N d) r N x lev cr i).1)), (0, .ref (a 0)), (1, .int x), (2, .int lev), (3, .int cr)] := hl
  have hf : i ≤ N ∧ ∀ i2, rk x < rk (r 2 i2) → ∀ k, k < 16 → z1 (16 * i2 + k) = sz (16 * i2 + k) := hf
  obtain ⟨hi1, h1⟩ := hf
  refine lv_iload hx hb dX5_measureList_21 (lv_at hl 0 rfl) ?_
  refine lv_aload_n hx hb dX5_measureList_23 rfl (lv_at hl 7 rfl) ?_
  refine va_get (D := D) (ci := 5) (v := .int (v 4)) (C := RX5) (T := TX5) (N := 25) hx hb hts hin_X5 hown hK hP 0 rfl rfl 4 (by decide) hf53 (fun _ h9 => h9) rfl dX5_measureList_24 ?_
  refine lv_eqi hN ?_
  refine lv_icmp_ge (tgt := 172) hx hb dX5_measureList_27 (by decide) (fun c_27 => ?_) (fun c_27 => ?_)
  · skip
    have hiN : i = N := by have := (nI_leI (by omega) (by omega)).mp c_27; omega
    refine lv_aload_n hx hb dX5_measureList_172 rfl (lv_at hl 7 rfl) ?_
    refine lv_iload hx hb dX5_measureList_173 (lv_at hl 6 rfl) ?_
    refine lv_iload hx hb dX5_measureList_175 (lv_at hl 5 rfl) ?_
    refine lv_iload hx hb dX5_measureList_177 (lv_at hl 4 rfl) ?_
    refine kcDv C0 hP hD hS (c_X5_set l D cI a (vU (vU (vU (vU (vU v 19 w1) 20 h1_) 21 d1) 22 u1) 23 e1) (rU (rU r 11 it) 12 z1) ((lsS (ML r N d) r N x lev cr i).1) ((lsS (ML r N d) r N x lev cr i).2.1) ((lsS (ML r N d) r N x lev cr i).2.2.1)) (cwV 3 hts gX5_measureList_X5_set rfl rfl rfl (by decide +kernel) ⟨by dsimp only [rmL, rmF, rmN, rmA]; omega, by dsimp only [rmL, rmF, rmN, rmA]; omega⟩) 0 5 rfl rfl rfl hl.1 rfl (Nat.le_of_ble_eq_true rfl) dX5_measureList_179 ⟨Nat.zero_le _, Nat.zero_le _⟩ (fun H locs hP hD hS => ?_)
    have hP : va_P D vwCl (wM cI a (vU (vU (vU (vU (vU v 19 ((lsS (ML r N d) r N x lev cr i).1)) 20 ((lsS (ML r N d) r N x lev cr i).2.1)) 21 ((lsS (ML r N d) r N x lev cr i).2.2.1)) 22 u1) 23 e1) (rU (rU r 11 it) 12 z1)) H := hP
    have hD : va_D A (wM cI a (vU (vU (vU (vU (vU v 19 ((lsS (ML r N d) r N x lev cr i).1)) 20 ((lsS (ML r N d) r N x lev cr i).2.1)) 21 ((lsS (ML r N d) r N x lev cr i).2.2.1)) 22 u1) 23 e1) (rU (rU r 11 it) 12 z1)) := hD
    have q19 : (lsS (ML r N d) r N x lev cr i).1 = (ML r N (d + 1) x lev cr).1 := (by rw [hiN]; rfl)
    have q20 : (lsS (ML r N d) r N x lev cr i).2.1 = (ML r N (d + 1) x lev cr).2.1 := (by rw [hiN]; rfl)
    have q21 : (lsS (ML r N d) r N x lev cr i).2.2.1 = (ML r N (d + 1) x lev cr).2.2 := (by rw [hiN]; rfl)
    have hw : (wM cI a (vU (vU (vU (vU (vU v 19 ((lsS (ML r N d) r N x lev cr i).1)) 20 ((lsS (ML r N d) r N x lev cr i).2.1)) 21 ((lsS (ML r N d) r N x lev cr i).2.2.1)) 22 u1) 23 e1) (rU (rU r 11 it) 12 z1)) = (wM cI a (vU (vU (vU (vU (vU v 19 ((ML r N (d + 1) x lev cr).1)) 20 ((ML r N (d + 1) x lev cr).2.1)) 21 ((ML r N (d + 1) x lev cr).2.2)) 22 u1) 23 e1) (rU (rU r 11 it) 12 z1)) := by rw [q19, q20, q21]
    have hP : va_P D vwCl (wM cI a (vU (vU (vU (vU (vU v 19 ((ML r N (d + 1) x lev cr).1)) 20 ((ML r N (d + 1) x lev cr).2.1)) 21 ((ML r N (d + 1) x lev cr).2.2)) 22 u1) 23 e1) (rU (rU r 11 it) 12 z1)) H := hw ▸ hP
    have hD : va_D A (wM cI a (vU (vU (vU (vU (vU v 19 ((ML r N (d + 1) x lev cr).1)) 20 ((ML r N (d + 1) x lev cr).2.1)) 21 ((ML r N (d + 1) x lev cr).2.2)) 22 u1) 23 e1) (rU (rU r 11 it) 12 z1)) := hw ▸ hD
    exact k_vret C0 (u1, e1, z1) hP hD hS h1 dX5_measureList_182
  · skip
    have hlt : i < N := Nat.not_le.mp (fun q => c_27 (nI_le q (by omega)))
    refine lv_aload_n hx hb dX5_measureList_30 rfl (lv_at hl 7 rfl) ?_
    refine va_get (D := D) (ci := 5) (v := .ref (a 2)) (C := RX5) (T := TX5) (N := 25) hx hb hts hin_X5 hown hK hP 0 rfl rfl 5 (by decide) hf17 (fun _ h9 => h9) rfl dX5_measureList_31 ?_
    refine lv_iload hx hb dX5_measureList_34 (lv_at hl 0 rfl) ?_
    refine ra_ld (f := (r 2)) C0 hP 2 rfl i rfl (by omega) (by decide) dX5_measureList_36 ?_
    refine lv_iload_n hx hb dX5_measureList_37 rfl (lv_at hl 8 rfl) ?_
    refine lv_icmp_ne (tgt := 82) hx hb dX5_measureList_38 (by decide) (fun c_38 => ?_) (fun c_38 => ?_)
    · skip
      refine lv_aload_n hx hb dX5_measureList_82 rfl (lv_at hl 7 rfl) ?_
      refine va_get (D := D) (ci := 5) (v := .ref (a 2)) (C := RX5) (T := TX5) (N := 25) hx hb hts hin_X5 hown hK hP 0 rfl rfl 5 (by decide) hf17 (fun _ h9 => h9) rfl dX5_measureList_83 ?_
      refine lv_iload hx hb dX5_measureList_86 (lv_at hl 0 rfl) ?_
      refine ra_ld (f := (r 2)) C0 hP 2 rfl i rfl (by omega) (by decide) dX5_measureList_88 ?_
      refine lv_iload_n hx hb dX5_measureList_89 rfl (lv_at hl 8 rfl) ?_
      refine lv_icmp_ne (tgt := 166) hx hb dX5_measureList_90 (by decide) (fun c_90 => ?_) (fun c_90 => absurd c_90 c_38)
      refine lv_iinc (v := (nI (i + 1))) (lv' := [(10, .int (nI (i + 1))), (9, .int (bfr (r 2) (r 3) (r 4) N x i)), (8, .int ((lsS (ML r N d) r N x lev cr i).2.2.2.2)), (7, .int ((lsS (ML r N d) r N x lev cr i).2.2.2.1)), (6, .int ((lsS (ML r N d) r N x lev cr i).2.2.1)), (5, .int ((lsS (ML r N d) r N x lev cr i).2.1)), (4, .int ((lsS (ML r N d) r N x lev cr i).1)), (0, .ref (a 0)), (1, .int x), (2, .int lev), (3, .int cr)]) hx hb dX5_measureList_166 hl (k := 0) rfl (k_inc i) (by decide) rfl (fun ls hl => ?_)
      refine lv_goto (tgt := 21) hx hb dX5_measureList_169 (by decide) ?_
      have hl2 : lv_has ls 12 [(10, .int (nI (i + 1))), (9, .int (bfr (r 2) (r 3) (r 4) N x (i + 1))), (8, .int ((lsS (ML r N d) r N x lev cr (i + 1)).2.2.2.2)), (7, .int ((lsS (ML r N d) r N x lev cr (i + 1)).2.2.2.1)), (6, .int ((lsS (ML r N d) r N x lev cr (i + 1)).2.2.1)), (5, .int ((lsS (ML r N d) r N x lev cr (i + 1)).2.1)), (4, .int ((lsS (ML r N d) r N x lev cr (i + 1)).1)), (0, .ref (a 0)), (1, .int x), (2, .int lev), (3, .int cr)] := by rw [ls_no c_38, bf_no (fun q => c_38 q.1)]; exact lv_sub hl [0, 1, 2, 3, 4, 5, 6, 7, 8, 9, 10] rfl
      exact ih ((i + 1), w1, h1_, d1, u1, e1, z1) _ _ _ hP hD hS hl2 ⟨hlt, (fun i2 hi k hk => by show z1 (16 * i2 + k) = sz (16 * i2 + k); rw [h1 i2 hi k hk])⟩ (show N - (i + 1) < N - i by omega)
    · skip
      refine lv_aload_n hx hb dX5_measureList_41 rfl (lv_at hl 7 rfl) ?_
      refine va_get (D := D) (ci := 5) (v := .ref (a 3)) (C := RX5) (T := TX5) (N := 25) hx hb hts hin_X5 hown hK hP 0 rfl rfl 6 (by decide) hf20 (fun _ h9 => h9) rfl dX5_measureList_42 ?_
      refine lv_iload hx hb dX5_measureList_45 (lv_at hl 0 rfl) ?_
      refine ra_ld (f := (r 3)) C0 hP 3 rfl i rfl (by omega) (by decide) dX5_measureList_47 ?_
      refine lv_iconst (v := 4) hx hb dX5_measureList_48 (by decide) ?_
      refine lv_icmp_ne (tgt := 82) hx hb dX5_measureList_49 (by decide) (fun c_49 => ?_) (fun c_49 => ?_)
      · skip
        refine lv_aload_n hx hb dX5_measureList_82 rfl (lv_at hl 7 rfl) ?_
        refine va_get (D := D) (ci := 5) (v := .ref (a 2)) (C := RX5) (T := TX5) (N := 25) hx hb hts hin_X5 hown hK hP 0 rfl rfl 5 (by decide) hf17 (fun _ h9 => h9) rfl dX5_measureList_83 ?_
        refine lv_iload hx hb dX5_measureList_86 (lv_at hl 0 rfl) ?_
        refine ra_ld (f := (r 2)) C0 hP 2 rfl i rfl (by omega) (by decide) dX5_measureList_88 ?_
        refine lv_iload_n hx hb dX5_measureList_89 rfl (lv_at hl 8 rfl) ?_
        refine lv_icmp_ne (tgt := 166) hx hb dX5_measureList_90 (by decide) (fun c_90 => absurd c_38 c_90) (fun c_90 => ?_)
        refine lv_aload_n hx hb dX5_measureList_93 rfl (lv_at hl 7 rfl) ?_
        refine lv_iload hx hb dX5_measureList_94 (lv_at hl 0 rfl) ?_
        refine kcD (ans := (cnA (r 2) (r 3) (r 4) N i)) C0 hP hD hS (c_X5_countsAs l D cI a (vU (vU (vU (vU (vU v 19 w1) 20 h1_) 21 d1) 22 u1) 23 e1) (rU (rU r 11 it) 12 z1) i N hN hN1 hlt c_49 hki) (cwV 1 hts gX5_measureList_X5_countsAs rfl rfl rfl (by decide +kernel) ⟨by dsimp only [rmL, rmF, rmN, rmA]; omega, by dsimp only [rmL, rmF, rmN, rmA]; omega⟩) 0 5 rfl rfl rfl hl.1 rfl (Nat.le_of_ble_eq_true rfl) dX5_measureList_96 ⟨Nat.zero_le _, Nat.zero_le _⟩ (fun H locs hP hD hS => ?_)
        refine lv_istore (lv' := [(11, .int (cnA (r 2) (r 3) (r 4) N i)), (10, .int (nI i)), (9, .int (bfr (r 2) (r 3) (r 4) N x i)), (8, .int ((lsS (ML r N d) r N x lev cr i).2.2.2.2)), (7, .int ((lsS (ML r N d) r N x lev cr i).2.2.2.1)), (6, .int ((lsS (ML r N d) r N x lev cr i).2.2.1)), (5, .int ((lsS (ML r N d) r N x lev cr i).2.1)), (4, .int ((lsS (ML r N d) r N x lev cr i).1)), (0, .ref (a 0)), (1, .int x), (2, .int lev), (3, .int cr)]) hx hb dX5_measureList_99 hl (by decide) rfl (fun ls hl => ?_)
        refine lv_aload_n hx hb dX5_measureList_101 rfl (lv_at hl 8 rfl) ?_
        refine lv_iload hx hb dX5_measureList_102 (lv_at hl 1 rfl) ?_
        refine lv_iload hx hb dX5_measureList_104 (lv_at hl 4 rfl) ?_
        refine lv_iload hx hb dX5_measureList_106 (lv_at hl 3 rfl) ?_
        refine kcVv C0 hP hD hS (c_X5_measureAtom l D cI a v r i N d rk ((lsS (ML r N d) r N x lev cr i).2.2.2.1) ((lsS (ML r N d) r N x lev cr i).2.2.2.2) it z1 w1 h1_ d1 u1 e1 hM hN hN1 hlt (show rk (r 2 i) ≤ d by rw [c_38]; omega) hR c_49 (hMa i hlt c_49 (show rk (r 2 i) ≤ d by rw [c_38]; omega))) (cwV 3 hts gX5_measureList_X5_measureAtom rfl rfl rfl (by decide +kernel) ⟨by dsimp only [rmL, rmF, rmN, rmA]; omega, by dsimp only [rmL, rmF, rmN, rmA]; omega⟩) 0 5 rfl rfl rfl hl.1 rfl (Nat.le_of_ble_eq_true rfl) dX5_measureList_108 ⟨Nat.zero_le _, Nat.zero_le _⟩ (fun u H locs hq hP hD hS => ?_)
        obtain ⟨u_1, e_1, z_1⟩ := u
        have hz_1 : (∀ i3, rk (r 2 i) < rk (r 2 i3) → ∀ k, k < 16 → z_1 (16 * i3 + k) = z1 (16 * i3 + k)) ∧ (¬ (r 8 i = -1 ∧ r 9 i = -1) → u_1 = atU (ML r N d) r i ((lsS (ML r N d) r N x lev cr i).2.2.2.1) ((lsS (ML r N d) r N x lev cr i).2.2.2.2) ∧ e_1 = atD (ML r N d) r i ((lsS (ML r N d) r N x lev cr i).2.2.2.1) ((lsS (ML r N d) r N x lev cr i).2.2.2.2)) := hq
        have hP : va_P D vwCl (wM cI a (vU (vU (vU (vU (vU v 19 ((mAt (ML r N d) r i ((lsS (ML r N d) r N x lev cr i).2.2.2.1) ((lsS (ML r N d) r N x lev cr i).2.2.2.2)).1)) 20 ((mAt (ML r N d) r i ((lsS (ML r N d) r N x lev cr i).2.2.2.1) ((lsS (ML r N d) r N x lev cr i).2.2.2.2)).2.1)) 21 ((mAt (ML r N d) r i ((lsS (ML r N d) r N x lev cr i).2.2.2.1) ((lsS (ML r N d) r N x lev cr i).2.2.2.2)).2.2)) 22 u_1) 23 e_1) (rU (rU r 11 it) 12 z_1)) H := hP
        have hD : va_D A (wM cI a (vU (vU (vU (vU (vU v 19 ((mAt (ML r N d) r i ((lsS (ML r N d) r N x lev cr i).2.2.2.1) ((lsS (ML r N d) r N x lev cr i).2.2.2.2)).1)) 20 ((mAt (ML r N d) r i ((lsS (ML r N d) r N x lev cr i).2.2.2.1) ((lsS (ML r N d) r N x lev cr i).2.2.2.2)).2.1)) 21 ((mAt (ML r N d) r i ((lsS (ML r N d) r N x lev cr i).2.2.2.1) ((lsS (ML r N d) r N x lev cr i).2.2.2.2)).2.2)) 22 u_1) 23 e_1) (rU (rU r 11 it) 12 z_1)) := hD
        refine lv_iload hx hb dX5_measureList_111 (lv_at hl 7 rfl) ?_
        refine lv_iload hx hb dX5_measureList_113 (lv_at hl 2 rfl) ?_
        refine lv_iconst (v := (-1)) hx hb dX5_measureList_115 (by decide) ?_
        obtain ⟨x_2, ex_2⟩ : ∃ zz_ : Int32, zz_ = (if (bfr (r 2) (r 3) (r 4) N x i) = (-1) then (0 : Int32) else (spO (bfr (r 2) (r 3) (r 4) N x i) (cnA (r 2) (r 3) (r 4) N i) ((lsS (ML r N d) r N x lev cr i).2.2.2.1))) := ⟨_, rfl⟩
        refine jW (D := D) hD hl 132 (wM cI a (vU (vU (vU (vU (vU v 19 ((mAt (ML r N d) r i ((lsS (ML r N d) r N x lev cr i).2.2.2.1) ((lsS (ML r N d) r N x lev cr i).2.2.2.2)).1)) 20 ((mAt (ML r N d) r i ((lsS (ML r N d) r N x lev cr i).2.2.2.1) ((lsS (ML r N d) r N x lev cr i).2.2.2.2)).2.1)) 21 ((mAt (ML r N d) r i ((lsS (ML r N d) r N x lev cr i).2.2.2.1) ((lsS (ML r N d) r N x lev cr i).2.2.2.2)).2.2)) 22 u_1) 23 e_1) (rU (rU r 11 it) 12 z_1)) [(11, .int (cnA (r 2) (r 3) (r 4) N i)), (10, .int (nI i)), (9, .int (bfr (r 2) (r 3) (r 4) N x i)), (8, .int ((lsS (ML r N d) r N x lev cr i).2.2.2.2)), (7, .int ((lsS (ML r N d) r N x lev cr i).2.2.2.1)), (6, .int ((lsS (ML r N d) r N x lev cr i).2.2.1)), (5, .int ((lsS (ML r N d) r N x lev cr i).2.1)), (4, .int ((lsS (ML r N d) r N x lev cr i).1)), (0, .ref (a 0)), (1, .int x), (2, .int lev), (3, .int cr)] [.int x_2, .int ((lsS (ML r N d) r N x lev cr i).1)] (fun hJ => ?_) (fun H locs ls hP hD hS hl => ?_)
        · skip
          refine lv_icmp_ne (tgt := 123) hx hb dX5_measureList_116 (by decide) (fun c_116 => ?_) (fun c_116 => ?_)
          · skip
            refine lv_iload hx hb dX5_measureList_123 (lv_at hl 2 rfl) ?_
            refine lv_iload hx hb dX5_measureList_125 (lv_at hl 0 rfl) ?_
            refine lv_iload hx hb dX5_measureList_127 (lv_at hl 4 rfl) ?_
            refine kcS (ans := (spO (bfr (r 2) (r 3) (r 4) N x i) (cnA (r 2) (r 3) (r 4) N i) ((lsS (ML r N d) r N x lev cr i).2.2.2.1))) C0 hP hS (c_X5_spaceOf l D cI (bfr (r 2) (r 3) (r 4) N x i) (cnA (r 2) (r 3) (r 4) N i) ((lsS (ML r N d) r N x lev cr i).2.2.2.1) ) (va_cwS 3 hts gX5_measureList_X5_spaceOf rfl rfl rfl (by decide +kernel) ⟨by dsimp only [rmL, rmF, rmN, rmA]; omega, by dsimp only [rmL, rmF, rmN, rmA]; omega⟩) rfl hl.1 rfl (Nat.le_of_ble_eq_true rfl) dX5_measureList_129 ⟨Nat.zero_le _, Nat.zero_le _⟩ (fun H locs hP hS => ?_)
            have gx_2 : x_2 = (spO (bfr (r 2) (r 3) (r 4) N x i) (cnA (r 2) (r 3) (r 4) N i) ((lsS (ML r N d) r N x lev cr i).2.2.2.1)) := by rw [ex_2]; simp only [if_neg c_116]
            simp only [gx_2] at hJ
            exact hJ _ _ _ hP hD hS (lv_sub hl [0, 1, 2, 3, 4, 5, 6, 7, 8, 9, 10, 11] rfl)
          · skip
            refine lv_iconst (v := 0) hx hb dX5_measureList_119 (by decide) ?_
            refine lv_goto (tgt := 132) hx hb dX5_measureList_120 (by decide) ?_
            have gx_2 : x_2 = 0 := by rw [ex_2]; simp only [if_pos c_116]
            simp only [gx_2] at hJ
            exact hJ _ _ _ hP hD hS (lv_sub hl [0, 1, 2, 3, 4, 5, 6, 7, 8, 9, 10, 11] rfl)
        · skip
          refine lv_iadd hx hb dX5_measureList_132 ?_
          refine lv_aload_n hx hb dX5_measureList_133 rfl (lv_at hl 8 rfl) ?_
          refine va_get (D := D) (ci := 5) (v := .int ((mAt (ML r N d) r i ((lsS (ML r N d) r N x lev cr i).2.2.2.1) ((lsS (ML r N d) r N x lev cr i).2.2.2.2)).1)) (C := RX5) (T := TX5) (N := 25) hx hb hts hin_X5 hown hK hP 0 rfl rfl 19 (by decide) hf96 (fun _ h9 => h9) rfl dX5_measureList_134 ?_
          refine lv_iadd hx hb dX5_measureList_137 ?_
          refine lv_istore (lv' := [(4, .int (((lsS (ML r N d) r N x lev cr i).1 + x_2) + (mAt (ML r N d) r i ((lsS (ML r N d) r N x lev cr i).2.2.2.1) ((lsS (ML r N d) r N x lev cr i).2.2.2.2)).1)), (11, .int (cnA (r 2) (r 3) (r 4) N i)), (10, .int (nI i)), (9, .int (bfr (r 2) (r 3) (r 4) N x i)), (8, .int ((lsS (ML r N d) r N x lev cr i).2.2.2.2)), (7, .int ((lsS (ML r N d) r N x lev cr i).2.2.2.1)), (6, .int ((lsS (ML r N d) r N x lev cr i).2.2.1)), (5, .int ((lsS (ML r N d) r N x lev cr i).2.1)), (0, .ref (a 0)), (1, .int x), (2, .int lev), (3, .int cr)]) hx hb dX5_measureList_138 hl (by decide) rfl (fun ls hl => ?_)
          refine lv_iload hx hb dX5_measureList_140 (lv_at hl 7 rfl) ?_
          refine lv_aload_n hx hb dX5_measureList_142 rfl (lv_at hl 8 rfl) ?_
          refine va_get (D := D) (ci := 5) (v := .int ((mAt (ML r N d) r i ((lsS (ML r N d) r N x lev cr i).2.2.2.1) ((lsS (ML r N d) r N x lev cr i).2.2.2.2)).2.1)) (C := RX5) (T := TX5) (N := 25) hx hb hts hin_X5 hown hK hP 0 rfl rfl 20 (by decide) hf99 (fun _ h9 => h9) rfl dX5_measureList_143 ?_
          refine kcS (ans := (mx ((lsS (ML r N d) r N x lev cr i).2.1) ((mAt (ML r N d) r i ((lsS (ML r N d) r N x lev cr i).2.2.2.1) ((lsS (ML r N d) r N x lev cr i).2.2.2.2)).2.1))) C0 hP hS (c_X5_greater l D cI ((lsS (ML r N d) r N x lev cr i).2.1) ((mAt (ML r N d) r i ((lsS (ML r N d) r N x lev cr i).2.2.2.1) ((lsS (ML r N d) r N x lev cr i).2.2.2.2)).2.1) ) (va_cwS 2 hts gX5_measureList_X5_greater rfl rfl rfl (by decide +kernel) ⟨by dsimp only [rmL, rmF, rmN, rmA]; omega, by dsimp only [rmL, rmF, rmN, rmA]; omega⟩) rfl hl.1 rfl (Nat.le_of_ble_eq_true rfl) dX5_measureList_146 ⟨Nat.zero_le _, Nat.zero_le _⟩ (fun H locs hP hS => ?_)
          refine lv_istore (lv' := [(5, .int (mx ((lsS (ML r N d) r N x lev cr i).2.1) ((mAt (ML r N d) r i ((lsS (ML r N d) r N x lev cr i).2.2.2.1) ((lsS (ML r N d) r N x lev cr i).2.2.2.2)).2.1))), (4, .int (((lsS (ML r N d) r N x lev cr i).1 + x_2) + (mAt (ML r N d) r i ((lsS (ML r N d) r N x lev cr i).2.2.2.1) ((lsS (ML r N d) r N x lev cr i).2.2.2.2)).1)), (11, .int (cnA (r 2) (r 3) (r 4) N i)), (10, .int (nI i)), (9, .int (bfr (r 2) (r 3) (r 4) N x i)), (8, .int ((lsS (ML r N d) r N x lev cr i).2.2.2.2)), (7, .int ((lsS (ML r N d) r N x lev cr i).2.2.2.1)), (6, .int ((lsS (ML r N d) r N x lev cr i).2.2.1)), (0, .ref (a 0)), (1, .int x), (2, .int lev), (3, .int cr)]) hx hb dX5_measureList_149 hl (by decide) rfl (fun ls hl => ?_)
          refine lv_iload hx hb dX5_measureList_151 (lv_at hl 7 rfl) ?_
          refine lv_aload_n hx hb dX5_measureList_153 rfl (lv_at hl 8 rfl) ?_
          refine va_get (D := D) (ci := 5) (v := .int ((mAt (ML r N d) r i ((lsS (ML r N d) r N x lev cr i).2.2.2.1) ((lsS (ML r N d) r N x lev cr i).2.2.2.2)).2.2)) (C := RX5) (T := TX5) (N := 25) hx hb hts hin_X5 hown hK hP 0 rfl rfl 21 (by decide) hf102 (fun _ h9 => h9) rfl dX5_measureList_154 ?_
          refine kcS (ans := (mx ((lsS (ML r N d) r N x lev cr i).2.2.1) ((mAt (ML r N d) r i ((lsS (ML r N d) r N x lev cr i).2.2.2.1) ((lsS (ML r N d) r N x lev cr i).2.2.2.2)).2.2))) C0 hP hS (c_X5_greater l D cI ((lsS (ML r N d) r N x lev cr i).2.2.1) ((mAt (ML r N d) r i ((lsS (ML r N d) r N x lev cr i).2.2.2.1) ((lsS (ML r N d) r N x lev cr i).2.2.2.2)).2.2) ) (va_cwS 2 hts gX5_measureList_X5_greater rfl rfl rfl (by decide +kernel) ⟨by dsimp only [rmL, rmF, rmN, rmA]; omega, by dsimp only [rmL, rmF, rmN, rmA]; omega⟩) rfl hl.1 rfl (Nat.le_of_ble_eq_true rfl) dX5_measureList_157 ⟨Nat.zero_le _, Nat.zero_le _⟩ (fun H locs hP hS => ?_)
          refine lv_istore (lv' := [(6, .int (mx ((lsS (ML r N d) r N x lev cr i).2.2.1) ((mAt (ML r N d) r i ((lsS (ML r N d) r N x lev cr i).2.2.2.1) ((lsS (ML r N d) r N x lev cr i).2.2.2.2)).2.2))), (5, .int (mx ((lsS (ML r N d) r N x lev cr i).2.1) ((mAt (ML r N d) r i ((lsS (ML r N d) r N x lev cr i).2.2.2.1) ((lsS (ML r N d) r N x lev cr i).2.2.2.2)).2.1))), (4, .int (((lsS (ML r N d) r N x lev cr i).1 + x_2) + (mAt (ML r N d) r i ((lsS (ML r N d) r N x lev cr i).2.2.2.1) ((lsS (ML r N d) r N x lev cr i).2.2.2.2)).1)), (11, .int (cnA (r 2) (r 3) (r 4) N i)), (10, .int (nI i)), (9, .int (bfr (r 2) (r 3) (r 4) N x i)), (8, .int ((lsS (ML r N d) r N x lev cr i).2.2.2.2)), (7, .int ((lsS (ML r N d) r N x lev cr i).2.2.2.1)), (0, .ref (a 0)), (1, .int x), (2, .int lev), (3, .int cr)]) hx hb dX5_measureList_160 hl (by decide) rfl (fun ls hl => ?_)
          refine lv_iload hx hb dX5_measureList_162 (lv_at hl 3 rfl) ?_
          refine lv_istore (lv' := [(9, .int (cnA (r 2) (r 3) (r 4) N i)), (6, .int (mx ((lsS (ML r N d) r N x lev cr i).2.2.1) ((mAt (ML r N d) r i ((lsS (ML r N d) r N x lev cr i).2.2.2.1) ((lsS (ML r N d) r N x lev cr i).2.2.2.2)).2.2))), (5, .int (mx ((lsS (ML r N d) r N x lev cr i).2.1) ((mAt (ML r N d) r i ((lsS (ML r N d) r N x lev cr i).2.2.2.1) ((lsS (ML r N d) r N x lev cr i).2.2.2.2)).2.1))), (4, .int (((lsS (ML r N d) r N x lev cr i).1 + x_2) + (mAt (ML r N d) r i ((lsS (ML r N d) r N x lev cr i).2.2.2.1) ((lsS (ML r N d) r N x lev cr i).2.2.2.2)).1)), (11, .int (cnA (r 2) (r 3) (r 4) N i)), (10, .int (nI i)), (8, .int ((lsS (ML r N d) r N x lev cr i).2.2.2.2)), (7, .int ((lsS (ML r N d) r N x lev cr i).2.2.2.1)), (0, .ref (a 0)), (1, .int x), (2, .int lev), (3, .int cr)]) hx hb dX5_measureList_164 hl (by decide) rfl (fun ls hl => ?_)
          refine lv_iinc (v := (nI (i + 1))) (lv' := [(10, .int (nI (i + 1))), (9, .int (cnA (r 2) (r 3) (r 4) N i)), (6, .int (mx ((lsS (ML r N d) r N x lev cr i).2.2.1) ((mAt (ML r N d) r i ((lsS (ML r N d) r N x lev cr i).2.2.2.1) ((lsS (ML r N d) r N x lev cr i).2.2.2.2)).2.2))), (5, .int (mx ((lsS (ML r N d) r N x lev cr i).2.1) ((mAt (ML r N d) r i ((lsS (ML r N d) r N x lev cr i).2.2.2.1) ((lsS (ML r N d) r N x lev cr i).2.2.2.2)).2.1))), (4, .int (((lsS (ML r N d) r N x lev cr i).1 + x_2) + (mAt (ML r N d) r i ((lsS (ML r N d) r N x lev cr i).2.2.2.1) ((lsS (ML r N d) r N x lev cr i).2.2.2.2)).1)), (11, .int (cnA (r 2) (r 3) (r 4) N i)), (8, .int ((lsS (ML r N d) r N x lev cr i).2.2.2.2)), (7, .int ((lsS (ML r N d) r N x lev cr i).2.2.2.1)), (0, .ref (a 0)), (1, .int x), (2, .int lev), (3, .int cr)]) hx hb dX5_measureList_166 hl (k := 5) rfl (k_inc i) (by decide) rfl (fun ls hl => ?_)
          refine lv_goto (tgt := 21) hx hb dX5_measureList_169 (by decide) ?_
          have hl2 : lv_has ls 12 [(10, .int (nI (i + 1))), (9, .int (bfr (r 2) (r 3) (r 4) N x (i + 1))), (8, .int ((lsS (ML r N d) r N x lev cr (i + 1)).2.2.2.2)), (7, .int ((lsS (ML r N d) r N x lev cr (i + 1)).2.2.2.1)), (6, .int ((lsS (ML r N d) r N x lev cr (i + 1)).2.2.1)), (5, .int ((lsS (ML r N d) r N x lev cr (i + 1)).2.1)), (4, .int ((lsS (ML r N d) r N x lev cr (i + 1)).1)), (0, .ref (a 0)), (1, .int x), (2, .int lev), (3, .int cr)] := by rw [ls_at c_38 c_49, bf_at c_38 c_49, ← ex_2]; exact lv_sub hl [0, 1, 6, 7, 2, 3, 4, 8, 9, 10, 11] rfl
          exact ih ((i + 1), (mAt (ML r N d) r i ((lsS (ML r N d) r N x lev cr i).2.2.2.1) ((lsS (ML r N d) r N x lev cr i).2.2.2.2)).1, (mAt (ML r N d) r i ((lsS (ML r N d) r N x lev cr i).2.2.2.1) ((lsS (ML r N d) r N x lev cr i).2.2.2.2)).2.1, (mAt (ML r N d) r i ((lsS (ML r N d) r N x lev cr i).2.2.2.1) ((lsS (ML r N d) r N x lev cr i).2.2.2.2)).2.2, u_1, e_1, z_1) _ _ _ hP hD hS hl2 ⟨hlt, (fun i2 hi k hk => by show z_1 (16 * i2 + k) = sz (16 * i2 + k); rw [hz_1.1 i2 (by rw [c_38]; exact hi) k hk, h1 i2 hi k hk])⟩ (show N - (i + 1) < N - i by omega)
      · skip
        refine lv_aload_n hx hb dX5_measureList_52 rfl (lv_at hl 7 rfl) ?_
        refine va_get (D := D) (ci := 5) (v := .ref (a 5)) (C := RX5) (T := TX5) (N := 25) hx hb hts hin_X5 hown hK hP 0 rfl rfl 8 (by decide) hf26 (fun _ h9 => h9) rfl dX5_measureList_53 ?_
        refine lv_iload hx hb dX5_measureList_56 (lv_at hl 0 rfl) ?_
        refine ra_ld (f := (r 5)) C0 hP 5 rfl i rfl (by omega) (by decide) dX5_measureList_58 ?_
        refine lv_istore (lv' := [(7, .int ((r 5) i)), (10, .int (nI i)), (9, .int (bfr (r 2) (r 3) (r 4) N x i)), (8, .int ((lsS (ML r N d) r N x lev cr i).2.2.2.2)), (6, .int ((lsS (ML r N d) r N x lev cr i).2.2.1)), (5, .int ((lsS (ML r N d) r N x lev cr i).2.1)), (4, .int ((lsS (ML r N d) r N x lev cr i).1)), (0, .ref (a 0)), (1, .int x), (2, .int lev), (3, .int cr)]) hx hb dX5_measureList_59 hl (by decide) rfl (fun ls hl => ?_)
        refine lv_aload_n hx hb dX5_measureList_61 rfl (lv_at hl 7 rfl) ?_
        refine va_get (D := D) (ci := 5) (v := .ref (a 6)) (C := RX5) (T := TX5) (N := 25) hx hb hts hin_X5 hown hK hP 0 rfl rfl 9 (by decide) hf29 (fun _ h9 => h9) rfl dX5_measureList_62 ?_
        refine lv_iload hx hb dX5_measureList_65 (lv_at hl 1 rfl) ?_
        refine ra_ld (f := (r 6)) C0 hP 6 rfl i rfl (by omega) (by decide) dX5_measureList_67 ?_
        refine lv_iconst (v := 1) hx hb dX5_measureList_68 (by decide) ?_
        obtain ⟨x_3, ex_3⟩ : ∃ zz_ : Int32, zz_ = (if ((r 6) i) = 1 then (1 : Int32) else (0 : Int32)) := ⟨_, rfl⟩
        refine jW (D := D) hD hl 77 (wM cI a (vU (vU (vU (vU (vU v 19 w1) 20 h1_) 21 d1) 22 u1) 23 e1) (rU (rU r 11 it) 12 z1)) [(7, .int ((r 5) i)), (10, .int (nI i)), (9, .int (bfr (r 2) (r 3) (r 4) N x i)), (8, .int ((lsS (ML r N d) r N x lev cr i).2.2.2.2)), (6, .int ((lsS (ML r N d) r N x lev cr i).2.2.1)), (5, .int ((lsS (ML r N d) r N x lev cr i).2.1)), (4, .int ((lsS (ML r N d) r N x lev cr i).1)), (0, .ref (a 0)), (1, .int x), (2, .int lev), (3, .int cr)] [.int x_3] (fun hJ => ?_) (fun H locs ls hP hD hS hl => ?_)
        · skip
          refine lv_icmp_ne (tgt := 76) hx hb dX5_measureList_69 (by decide) (fun c_69 => ?_) (fun c_69 => ?_)
          · skip
            refine lv_iconst (v := 0) hx hb dX5_measureList_76 (by decide) ?_
            have gx_3 : x_3 = 0 := by rw [ex_3]; simp only [if_neg c_69]
            simp only [gx_3] at hJ
            exact hJ _ _ _ hP hD hS (lv_sub hl [0, 1, 2, 3, 4, 5, 6, 7, 8, 9, 10] rfl)
          · skip
            refine lv_iconst (v := 1) hx hb dX5_measureList_72 (by decide) ?_
            refine lv_goto (tgt := 77) hx hb dX5_measureList_73 (by decide) ?_
            have gx_3 : x_3 = 1 := by rw [ex_3]; simp only [if_pos c_69]
            simp only [gx_3] at hJ
            exact hJ _ _ _ hP hD hS (lv_sub hl [0, 1, 2, 3, 4, 5, 6, 7, 8, 9, 10] rfl)
        · skip
          refine lv_istore (lv' := [(8, .int x_3), (7, .int ((r 5) i)), (10, .int (nI i)), (9, .int (bfr (r 2) (r 3) (r 4) N x i)), (6, .int ((lsS (ML r N d) r N x lev cr i).2.2.1)), (5, .int ((lsS (ML r N d) r N x lev cr i).2.1)), (4, .int ((lsS (ML r N d) r N x lev cr i).1)), (0, .ref (a 0)), (1, .int x), (2, .int lev), (3, .int cr)]) hx hb dX5_measureList_77 hl (by decide) rfl (fun ls hl => ?_)
          refine lv_goto (tgt := 166) hx hb dX5_measureList_79 (by decide) ?_
          refine lv_iinc (v := (nI (i + 1))) (lv' := [(10, .int (nI (i + 1))), (8, .int x_3), (7, .int ((r 5) i)), (9, .int (bfr (r 2) (r 3) (r 4) N x i)), (6, .int ((lsS (ML r N d) r N x lev cr i).2.2.1)), (5, .int ((lsS (ML r N d) r N x lev cr i).2.1)), (4, .int ((lsS (ML r N d) r N x lev cr i).1)), (0, .ref (a 0)), (1, .int x), (2, .int lev), (3, .int cr)]) hx hb dX5_measureList_166 hl (k := 2) rfl (k_inc i) (by decide) rfl (fun ls hl => ?_)
          refine lv_goto (tgt := 21) hx hb dX5_measureList_169 (by decide) ?_
          have hl2 : lv_has ls 12 [(10, .int (nI (i + 1))), (9, .int (bfr (r 2) (r 3) (r 4) N x (i + 1))), (8, .int ((lsS (ML r N d) r N x lev cr (i + 1)).2.2.2.2)), (7, .int ((lsS (ML r N d) r N x lev cr (i + 1)).2.2.2.1)), (6, .int ((lsS (ML r N d) r N x lev cr (i + 1)).2.2.1)), (5, .int ((lsS (ML r N d) r N x lev cr (i + 1)).2.1)), (4, .int ((lsS (ML r N d) r N x lev cr (i + 1)).1)), (0, .ref (a 0)), (1, .int x), (2, .int lev), (3, .int cr)] := by rw [ls_st c_38 c_49, bf_no (fun q => q.2 c_49), ← ex_3]; exact lv_sub hl [0, 3, 1, 2, 4, 5, 6, 7, 8, 9, 10] rfl
          exact ih ((i + 1), w1, h1_, d1, u1, e1, z1) _ _ _ hP hD hS hl2 ⟨hlt, (fun i2 hi k hk => by show z1 (16 * i2 + k) = sz (16 * i2 + k); rw [h1 i2 hi k hk])⟩ (show N - (i + 1) < N - i by omega)
