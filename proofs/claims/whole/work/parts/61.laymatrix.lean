set_option maxHeartbeats 1500000 in
set_option maxRecDepth 100000 in
theorem c_X3_layMatrix (l : Launch) (D : va_G) (cI : ClassId) (a : Nat → Nat) (v : Nat → Int32) (r : Nat → Nat → Int32) (q : Rw) (N n k d lv : Nat) (dp sl : Nat → Nat) (lev : Int32) (c : Nat) (hM : HLL l D cI a q N dp d) (hT : LY q N dp sl) (hr : RQ q N v r) (hN : v 0 = nI N) (hnN : n < N) (hk : k < 30) (e2 : q 2 n = nI k) (hd : 29 ≤ d + dp k) (hlv : lv ≤ dp k) (hlev : lvO lev) (hf3 : q 3 n = 3) (e13 : BM r (30 + n) (0, 0, 0)) (h16 : r 16 (30 + n) = nI c) (h17 : r 17 (30 + n) = nI c) (hcl : c + (pMa (ML q N d) (PL q N d) q n lev 0 0).length ≤ 150) (hBc : ∀ j cr, (∃ s, FLD q n s j) → TB (ML q N d (nI j) (maI lev) cr) 10000000) : KV l D cI yX3_layMatrix wsX3_layMatrix (rxF d) [.ref (a 20), .int (nI n), .int lev, .int (nI lv)] (wX cI a (vU v 4 (nI c)) r) (fun u : Rw => wX cI a (vU v 4 (nI (c + (pMa (ML q N d) (PL q N d) q n lev 0 0).length))) u) (fun u => ATP q r (r 19) n c (mMa (ML q N d) q n lev) (pMa (ML q N d) (PL q N d) q n lev 0 0) u) := by
  refine KV.of (cc := cX3_layMatrix) (nL := 12) (ret := none) (by decide) rfl (Nat.le_of_ble_eq_true rfl) ?_
  intro pg9 en9 s m args below meth cd9 A ls C0 hP hD hS hl
  have hx := C0.1.1
  have hb := C0.1.2.1
  have hml := C0.1.2.2.1
  have hown : s.vm.findClass RX3 = some m.cls := C0.1.2.2.2.1
  have hts : ∀ w ∈ wsX3_layMatrix, w.before args s = true := C0.1.2.2.2.2
  have hK := C0.2.2.2.1
  have hin_X3 : ∀ w ∈ wsX30, w ∈ wsX3_layMatrix := fun w h => List.mem_cons_of_mem _ (List.mem_append_left _ (List.mem_append_left _ (List.mem_append_left _ (List.mem_append_right _ h))))
  have hf35 : (Cond.fieldLink RX3 35 "FormulaLists$Layout" "book" "LFormulaLists$Book;").before args s = true := hts _ (by decide +kernel)
  have hin_X0 : ∀ w ∈ wsX00, w ∈ wsX3_layMatrix := fun w h => List.mem_cons_of_mem _ (List.mem_append_left _ (List.mem_append_right _ h))
  have hf71 : (Cond.fieldLink RX3 71 "FormulaLists$Book" "second" "[I").before args s = true := hts _ (by decide +kernel)
  have hf170 : (Cond.fieldLink RX3 170 "FormulaLists$Book" "third" "[I").before args s = true := hts _ (by decide +kernel)
  have hl : lv_has ls 12 [(0, .ref (a 20)), (1, .int (nI n)), (2, .int lev), (3, .int (nI lv))] := hl
  have hP : va_P D vwCl (wX cI a (vU v 4 (nI c)) r) s.heap := hP
  have h9 := hT.1
  have hn : n < 120 := by omega
  have hnd := (hT.2.2.2.2 n hnN).2.2.2
  obtain ⟨R, C, eR, eC, hR1, hR5, hC1, hC5, hls⟩ : ∃ R C, q 5 n = nI R ∧ q 6 n = nI C ∧ 1 ≤ R ∧ R ≤ 5 ∧ 1 ≤ C ∧ C ≤ 5 ∧ ∀ t, t < R * C → isLs (q 10 (25 * n + t)) := by rcases hnd with h | h | h | h | h; exact absurd (hf3.symm.trans h.1) (by decide); exact absurd (hf3.symm.trans h.1) (by decide); exact absurd (hf3.symm.trans h.1) (by decide); exact h.2; exact absurd (hf3.symm.trans h.1) (by decide)
  obtain ⟨a8, a9, F, K, a7, hkc, hK3, hFR, hF11⟩ := hr.2.2 n hnN hf3
  rw [eR, eC, nI_clamp (by omega), nI_clamp (by omega)] at hFR hF11
  have a8 : r 8 n = nI R := a8.trans eR
  have a9 : r 9 n = nI C := a9.trans eC
  have hRC : R * C ≤ 25 := Nat.mul_le_mul hR5 hC5
  obtain ⟨jc, hjc⟩ : ∃ jc : Nat → Nat, ∀ t, t < R * C → q 10 (25 * n + t) = nI (jc t) ∧ jc t < 30 := ⟨fun t => (q 10 (25 * n + t)).toNatClampNeg, fun t h => by obtain ⟨j, hj, e⟩ := hls t h; show q 10 (25 * n + t) = nI (q 10 (25 * n + t)).toNatClampNeg ∧ (q 10 (25 * n + t)).toNatClampNeg < 30; rw [e, nI_clamp (by omega)]; exact ⟨rfl, hj⟩⟩
  have hce : ∀ t, t < R * C → r 11 (F + t) = nI (jc t) ∧ jc t < 30 := fun t h => ⟨(hF11 t h).trans (hjc t h).1, (hjc t h).2⟩
  have hfl : ∀ t, t < R * C → FLD q n (4 + t) (jc t) := fun t h => ⟨(hjc t h).2, Or.inr (Or.inr (Or.inr (Or.inr ⟨by omega, hf3, by rw [eR, eC, nI_clamp (by omega), nI_clamp (by omega), show 4 + t - 4 = t by omega]; exact h, by rw [show 4 + t - 4 = t by omega]; exact (hjc t h).1⟩)))⟩
  obtain ⟨Pt, ePt⟩ : ∃ z9 : Nat → List It, z9 = (fun t => PL q N d (q 10 (25 * n + t)) (maI lev) 0 0 0) := ⟨_, rfl⟩
  obtain ⟨Mt, eMt⟩ : ∃ z9 : Nat → T3, z9 = (fun t => ML q N d (q 10 (25 * n + t)) (maI lev) 0) := ⟨_, rfl⟩
  have hcl2 := hcl
  rw [pMa_len eR eC hR5 hC5, ← ePt] at hcl2
  have hp0 := pb_0 (q := q) (c := c) e13 h16
  have hM9 : ∀ t, t < R * C → TB (ML q N d (q 10 (25 * n + t)) (maI lev) 0) 10000000 := fun t h => by rw [(hjc t h).1]; exact hBc _ _ ⟨_, hfl t h⟩
  refine lv_aload_n hx hb dX3_layMatrix_0 rfl (lv_at hl 0 rfl) ?_
  refine va_get (D := D) (ci := 3) (v := .ref (a 1)) (C := RX3) (T := TX3) (N := 6) hx hb hts hin_X3 hown hK hP 20 rfl rfl 0 (by decide) hf35 (fun _ h9 => h9) rfl dX3_layMatrix_1 ?_
  refine va_get (D := D) (ci := 0) (v := .ref (a 8)) (C := RX0) (T := TX0) (N := 14) hx hb hts hin_X0 hown hK hP 1 rfl rfl 9 (by decide) hf71 (fun _ h9 => h9) rfl dX3_layMatrix_4 ?_
  refine lv_iload_n hx hb dX3_layMatrix_7 rfl (lv_at hl 1 rfl) ?_
  refine ra_ld (f := (r 8)) C0 hP 8 rfl n rfl (by omega) (by decide) dX3_layMatrix_8 ?_
  refine lv_eqi a8 ?_
  refine lv_istore (lv' := [(4, .int (nI R)), (0, .ref (a 20)), (1, .int (nI n)), (2, .int lev), (3, .int (nI lv))]) hx hb dX3_layMatrix_9 hl (by decide) rfl (fun ls hl => ?_)
  refine lv_aload_n hx hb dX3_layMatrix_11 rfl (lv_at hl 1 rfl) ?_
  refine va_get (D := D) (ci := 3) (v := .ref (a 1)) (C := RX3) (T := TX3) (N := 6) hx hb hts hin_X3 hown hK hP 20 rfl rfl 0 (by decide) hf35 (fun _ h9 => h9) rfl dX3_layMatrix_12 ?_
  refine va_get (D := D) (ci := 0) (v := .ref (a 9)) (C := RX0) (T := TX0) (N := 14) hx hb hts hin_X0 hown hK hP 1 rfl rfl 10 (by decide) hf170 (fun _ h9 => h9) rfl dX3_layMatrix_15 ?_
  refine lv_iload_n hx hb dX3_layMatrix_18 rfl (lv_at hl 2 rfl) ?_
  refine ra_ld (f := (r 9)) C0 hP 9 rfl n rfl (by omega) (by decide) dX3_layMatrix_19 ?_
  refine lv_eqi a9 ?_
  refine lv_istore (lv' := [(5, .int (nI C)), (4, .int (nI R)), (0, .ref (a 20)), (1, .int (nI n)), (2, .int lev), (3, .int (nI lv))]) hx hb dX3_layMatrix_20 hl (by decide) rfl (fun ls hl => ?_)
  refine lv_iload_n hx hb dX3_layMatrix_22 rfl (lv_at hl 4 rfl) ?_
  refine lv_iconst (v := 1) hx hb dX3_layMatrix_23 (by decide) ?_
  refine va_mmax hx hb (hml.trans hl.1.symm) hown (hts (.methodLink RX3 156 Lib.Math.max.name) (by decide +kernel)) (hts (.static Lib.Math.max.name) (by decide +kernel)) (hts (.initialized "java/lang/Math") (by decide +kernel)) (hts (.code Lib.Math.max.name Lib.Math.max.code 2 (some .int)) (by decide +kernel)) (by dsimp only [rxF]; omega) (Nat.le_trans (m := 60) (Nat.le_of_ble_eq_true rfl) (by dsimp only [rxF]; omega)) (Nat.zero_le _) (Nat.zero_le _) dX3_layMatrix_24 ?_
  refine lv_eqi (mx_lt lev 1) ?_
  refine lv_eqi (maI_j hlev) ?_
  refine lv_istore (lv' := [(6, .int (maI lev)), (5, .int (nI C)), (4, .int (nI R)), (0, .ref (a 20)), (1, .int (nI n)), (2, .int lev), (3, .int (nI lv))]) hx hb dX3_layMatrix_27 hl (by decide) rfl (fun ls hl => ?_)
  refine lv_iconst (v := 0) hx hb dX3_layMatrix_29 (by decide) ?_
  refine lv_istore (lv' := [(7, .int 0), (6, .int (maI lev)), (5, .int (nI C)), (4, .int (nI R)), (0, .ref (a 20)), (1, .int (nI n)), (2, .int lev), (3, .int (nI lv))]) hx hb dX3_layMatrix_30 hl (by decide) rfl (fun ls hl => ?_)
  refine lpW (nL := 12) (A := A) (D := D) (fun z : Nat × Rw => (wX cI a (vU v 4 (nI (c + (ccS Pt 0 z.1).length))) z.2)) (fun z : Nat × Rw => [(7, .int (nI z.1)), (6, .int (maI lev)), (5, .int (nI C)), (4, .int (nI R)), (0, .ref (a 20)), (1, .int (nI n)), (2, .int lev), (3, .int (nI lv))]) (fun z : Nat × Rw => z.1 ≤ R * C ∧ PB q r (r 19) n c (ccS Pt 0 z.1) 0 0 z.2 ∧ ∀ t1, t1 < z.1 → BM z.2 (jc t1) (ML q N d (q 10 (25 * n + t1)) (maI lev) 0) ∧ z.2 16 (jc t1) = nI (c + (ccS Pt 0 t1).length) ∧ z.2 17 (jc t1) = nI (c + (ccS Pt 0 t1).length + (Pt t1).length)) (fun z : Nat × Rw => R * C - z.1) (0, r) hP hD hS (lv_sub hl [0, 1, 2, 3, 4, 5, 6, 7] rfl) ⟨Nat.zero_le _, hp0, fun _ h => absurd h (Nat.not_lt_zero _)⟩ ?_
  rintro ⟨t, Rk⟩ H locs ls hP hD hS hl hf ih
  have hP : va_P D vwCl (wX cI a (vU v 4 (nI (c + (ccS Pt 0 t).length))) Rk) H := hP
  have hD : va_D A (wX cI a (vU v 4 (nI (c + (ccS Pt 0 t).length))) Rk) := hD
  have hl : lv_has ls 12 [(7, .int (nI t)), (6, .int (maI lev)), (5, .int (nI C)), (4, .int (nI R)), (0, .ref (a 20)), (1, .int (nI n)), (2, .int lev), (3, .int (nI lv))] := hl
  have hf : t ≤ R * C ∧ PB q r (r 19) n c (ccS Pt 0 t) 0 0 Rk ∧ ∀ t1, t1 < t → BM Rk (jc t1) (ML q N d (q 10 (25 * n + t1)) (maI lev) 0) ∧ Rk 16 (jc t1) = nI (c + (ccS Pt 0 t1).length) ∧ Rk 17 (jc t1) = nI (c + (ccS Pt 0 t1).length + (Pt t1).length) := hf
  obtain ⟨ht1, hpb, hcf⟩ := hf
  refine lv_iload hx hb dX3_layMatrix_32 (lv_at hl 0 rfl) ?_
  refine lv_iload hx hb dX3_layMatrix_34 (lv_at hl 3 rfl) ?_
  refine lv_iload hx hb dX3_layMatrix_36 (lv_at hl 2 rfl) ?_
  refine lv_imul hx hb dX3_layMatrix_38 ?_
  refine lv_eqi (pk_mul R C) ?_
  refine lv_icmp_ge (tgt := 65) hx hb dX3_layMatrix_39 (by decide) (fun c_39 => ?_) (fun c_39 => ?_)
  · skip
    have htR : t = R * C := by have := (nI_leI (by omega) (by omega)).mp c_39; omega
    rw [htR] at hP hD hpb hcf
    have hg1 := ma_g (M := ML q N d) (q := q) (u := Rk) (n := n) (lev := lev) (jc := jc) hC1 hC5 hR5 (fun t h => (hcf t h).1)
    have b7 : Rk 7 n = nI F := by rw [hpb.1 7 (by decide)]; exact a7
    have b8 : Rk 8 n = nI R := by rw [hpb.1 8 (by decide)]; exact a8
    have b9 : Rk 9 n = nI C := by rw [hpb.1 9 (by decide)]; exact a9
    have b11 : ∀ t, t < R * C → Rk 11 (F + t) = nI (jc t) := fun t h => by rw [hpb.1 11 (by decide)]; exact (hce t h).1
    have bce : ∀ t, t < R * C → Rk 11 (F + t) = nI (Rk 11 (F + t)).toNatClampNeg ∧ (Rk 11 (F + t)).toNatClampNeg < 30 := fun t h => by have h2 := (hce t h).2; rw [b11 t h, nI_clamp (by omega)]; exact ⟨rfl, h2⟩
    have hpb1 := hpb
    refine lv_iload_n hx hb dX3_layMatrix_65 rfl (lv_at hl 6 rfl) ?_
    refine kcSN (ans := (uni lev)) C0 hP hS (c_X4_unit l D cI lev ) ⟨va_cnB 1 hts gX3_layMatrix_X4_unit_n85 rfl rfl rfl C0.2.2.2.2.2.1.2.1 (hts (.initialized RX4) (by decide +kernel)) (by decide +kernel) ⟨by dsimp only [rxL, rxF, rxA]; omega, by dsimp only [rxL, rxF, rxA]; omega⟩, hts (.static yX4_unit) (by decide +kernel), trivial⟩ rfl hl.1 rfl (Nat.le_of_ble_eq_true rfl) dX3_layMatrix_66 ⟨Nat.zero_le _, Nat.zero_le _⟩ (fun H locs hP hS => ?_)
    refine lv_istore (lv' := [(7, .int (uni lev)), (6, .int (maI lev)), (5, .int (nI C)), (4, .int (nI R)), (0, .ref (a 20)), (1, .int (nI n)), (2, .int lev), (3, .int (nI lv))]) hx hb dX3_layMatrix_69 hl (by decide) rfl (fun ls hl => ?_)
    refine lv_iconst (v := 2) hx hb dX3_layMatrix_71 (by decide) ?_
    refine lv_iload hx hb dX3_layMatrix_72 (lv_at hl 0 rfl) ?_
    refine lv_imul hx hb dX3_layMatrix_74 ?_
    refine lv_iload hx hb dX3_layMatrix_75 (lv_at hl 3 rfl) ?_
    refine lv_iconst (v := 1) hx hb dX3_layMatrix_77 (by decide) ?_
    refine lv_isub hx hb dX3_layMatrix_78 ?_
    refine lv_imul hx hb dX3_layMatrix_79 ?_
    refine lv_istore (lv' := [(8, .int ((2 * (uni lev)) * ((nI R) - 1))), (7, .int (uni lev)), (6, .int (maI lev)), (5, .int (nI C)), (4, .int (nI R)), (0, .ref (a 20)), (1, .int (nI n)), (2, .int lev), (3, .int (nI lv))]) hx hb dX3_layMatrix_80 hl (by decide) rfl (fun ls hl => ?_)
    refine lv_iconst (v := 0) hx hb dX3_layMatrix_82 (by decide) ?_
    refine lv_istore (lv' := [(9, .int 0), (8, .int ((2 * (uni lev)) * ((nI R) - 1))), (7, .int (uni lev)), (6, .int (maI lev)), (5, .int (nI C)), (4, .int (nI R)), (0, .ref (a 20)), (1, .int (nI n)), (2, .int lev), (3, .int (nI lv))]) hx hb dX3_layMatrix_83 hl (by decide) rfl (fun ls hl => ?_)
    refine lpW (nL := 12) (A := A) (D := D) (fun z : Nat => (wX cI a (vU v 4 (nI (c + (ccS Pt 0 (R * C)).length))) Rk)) (fun z : Nat => [(9, .int (nI z)), (8, .int (smR (maS (ML q N d) q n C lev (R * C)) ((2 * uni lev) * ((nI R) - 1)) z)), (7, .int (uni lev)), (6, .int (maI lev)), (5, .int (nI C)), (4, .int (nI R)), (0, .ref (a 20)), (1, .int (nI n)), (2, .int lev), (3, .int (nI lv))]) (fun z : Nat => z ≤ R) (fun z : Nat => R - z) 0 hP hD hS (lv_sub hl [0, 1, 2, 3, 4, 5, 6, 7, 8, 9] rfl) (Nat.zero_le _) ?_
    intro i H locs ls hP hD hS hl hf ih
    have hP : va_P D vwCl (wX cI a (vU v 4 (nI (c + (ccS Pt 0 (R * C)).length))) Rk) H := hP
    have hD : va_D A (wX cI a (vU v 4 (nI (c + (ccS Pt 0 (R * C)).length))) Rk) := hD
    have hl : lv_has ls 12 [(9, .int (nI i)), (8, .int (smR (maS (ML q N d) q n C lev (R * C)) ((2 * uni lev) * ((nI R) - 1)) i)), (7, .int (uni lev)), (6, .int (maI lev)), (5, .int (nI C)), (4, .int (nI R)), (0, .ref (a 20)), (1, .int (nI n)), (2, .int lev), (3, .int (nI lv))] := hl
    have hf : i ≤ R := hf
    have hi1 := hf
    refine lv_iload hx hb dX3_layMatrix_85 (lv_at hl 0 rfl) ?_
    refine lv_iload hx hb dX3_layMatrix_87 (lv_at hl 5 rfl) ?_
    refine lv_icmp_ge (tgt := 118) hx hb dX3_layMatrix_89 (by decide) (fun c_89 => ?_) (fun c_89 => ?_)
    · skip
      have hiR : i = R := by have := (nI_leI (by omega) (by omega)).mp c_89; omega
      rw [hiR] at hl
      refine lv_iload_n hx hb dX3_layMatrix_118 rfl (lv_at hl 8 rfl) ?_
      refine kcSN (ans := (2 * uni lev)) C0 hP hS (c_X4_axis l D cI lev ) ⟨va_cnB 1 hts gX3_layMatrix_X4_axis_n173 rfl rfl rfl C0.2.2.2.2.2.1.2.2 (hts (.initialized RX4) (by decide +kernel)) (by decide +kernel) ⟨by dsimp only [rxL, rxF, rxA]; omega, by dsimp only [rxL, rxF, rxA]; omega⟩, hts (.static yX4_axis) (by decide +kernel), trivial⟩ rfl hl.1 rfl (Nat.le_of_ble_eq_true rfl) dX3_layMatrix_119 ⟨Nat.zero_le _, Nat.zero_le _⟩ (fun H locs hP hS => ?_)
      refine lv_iload hx hb dX3_layMatrix_122 (lv_at hl 1 rfl) ?_
      refine lv_iconst (v := 2) hx hb dX3_layMatrix_124 (by decide) ?_
      refine lv_idiv hx hb dX3_layMatrix_125 (by decide) ?_
      refine lv_isub hx hb dX3_layMatrix_126 ?_
      refine lv_iload hx hb dX3_layMatrix_127 (lv_at hl 1 rfl) ?_
      refine lv_iadd hx hb dX3_layMatrix_129 ?_
      refine lv_eqi (show _ = (maT (ML q N d) q n R C lev) from rfl) ?_
      refine lv_istore (lv' := [(9, .int (maT (ML q N d) q n R C lev)), (8, .int (smR (maS (ML q N d) q n C lev (R * C)) ((2 * uni lev) * ((nI R) - 1)) R)), (7, .int (uni lev)), (6, .int (maI lev)), (5, .int (nI C)), (4, .int (nI R)), (0, .ref (a 20)), (1, .int (nI n)), (2, .int lev), (3, .int (nI lv))]) hx hb dX3_layMatrix_130 hl (by decide) rfl (fun ls hl => ?_)
      refine lv_iconst (v := 0) hx hb dX3_layMatrix_132 (by decide) ?_
      refine lv_istore (lv' := [(10, .int 0), (9, .int (maT (ML q N d) q n R C lev)), (8, .int (smR (maS (ML q N d) q n C lev (R * C)) ((2 * uni lev) * ((nI R) - 1)) R)), (7, .int (uni lev)), (6, .int (maI lev)), (5, .int (nI C)), (4, .int (nI R)), (0, .ref (a 20)), (1, .int (nI n)), (2, .int lev), (3, .int (nI lv))]) hx hb dX3_layMatrix_133 hl (by decide) rfl (fun ls hl => ?_)
      refine lpW (nL := 12) (A := A) (D := D) (fun z : Nat × Rw => (wX cI a (vU v 4 (nI (c + (ccS Pt 0 (R * C)).length))) z.2)) (fun z : Nat × Rw => [(10, .int (nI z.1)), (9, .int (mrT (maS (ML q N d) q n C lev (R * C)) (maT (ML q N d) q n R C lev) (2 * uni lev) z.1)), (8, .int (smR (maS (ML q N d) q n C lev (R * C)) ((2 * uni lev) * ((nI R) - 1)) R)), (7, .int (uni lev)), (6, .int (maI lev)), (5, .int (nI C)), (4, .int (nI R)), (0, .ref (a 20)), (1, .int (nI n)), (2, .int lev), (3, .int (nI lv))]) (fun z : Nat × Rw => z.1 ≤ R ∧ PB q r (r 19) n c (prL (maS (ML q N d) q n C lev (R * C)) Mt Pt C (maT (ML q N d) q n R C lev) (2 * uni lev) (3 * uni lev) z.1 ++ ccS Pt (z.1 * C) ((R - z.1) * C)) (hhF (maS (ML q N d) q n C lev (R * C)) Mt C (maT (ML q N d) q n R C lev) (2 * uni lev) z.1) (dhF (maS (ML q N d) q n C lev (R * C)) Mt C (maT (ML q N d) q n R C lev) (2 * uni lev) z.1) z.2 ∧ LC n Rk z.2 ∧ (z.1 = 0 ∨ z.2 13 (30 + n) = smI (maS (ML q N d) q n C lev (R * C)) (3 * uni lev * (nI C - 1)) C)) (fun z : Nat × Rw => R - z.1) (0, Rk) hP hD hS (lv_sub hl [0, 1, 2, 3, 4, 5, 6, 7, 8, 9, 10] rfl) ⟨Nat.zero_le _, hpb1.eq (by show ccS Pt 0 (R * C) = [] ++ ccS Pt (0 * C) ((R - 0) * C); rw [List.nil_append, Nat.zero_mul, Nat.sub_zero]), lc_rf, Or.inl rfl⟩ ?_
      rintro ⟨i, Rk2⟩ H locs ls hP hD hS hl hf ih
      have hP : va_P D vwCl (wX cI a (vU v 4 (nI (c + (ccS Pt 0 (R * C)).length))) Rk2) H := hP
      have hD : va_D A (wX cI a (vU v 4 (nI (c + (ccS Pt 0 (R * C)).length))) Rk2) := hD
      have hl : lv_has ls 12 [(10, .int (nI i)), (9, .int (mrT (maS (ML q N d) q n C lev (R * C)) (maT (ML q N d) q n R C lev) (2 * uni lev) i)), (8, .int (smR (maS (ML q N d) q n C lev (R * C)) ((2 * uni lev) * ((nI R) - 1)) R)), (7, .int (uni lev)), (6, .int (maI lev)), (5, .int (nI C)), (4, .int (nI R)), (0, .ref (a 20)), (1, .int (nI n)), (2, .int lev), (3, .int (nI lv))] := hl
      have hf : i ≤ R ∧ PB q r (r 19) n c (prL (maS (ML q N d) q n C lev (R * C)) Mt Pt C (maT (ML q N d) q n R C lev) (2 * uni lev) (3 * uni lev) i ++ ccS Pt (i * C) ((R - i) * C)) (hhF (maS (ML q N d) q n C lev (R * C)) Mt C (maT (ML q N d) q n R C lev) (2 * uni lev) i) (dhF (maS (ML q N d) q n C lev (R * C)) Mt C (maT (ML q N d) q n R C lev) (2 * uni lev) i) Rk2 ∧ LC n Rk Rk2 ∧ (i = 0 ∨ Rk2 13 (30 + n) = smI (maS (ML q N d) q n C lev (R * C)) (3 * uni lev * (nI C - 1)) C) := hf
      obtain ⟨hi2, hpb, hlc, hw0⟩ := hf
      refine lv_iload hx hb dX3_layMatrix_135 (lv_at hl 0 rfl) ?_
      refine lv_iload hx hb dX3_layMatrix_137 (lv_at hl 6 rfl) ?_
      refine lv_icmp_ge (tgt := 190) hx hb dX3_layMatrix_139 (by decide) (fun c_139 => ?_) (fun c_139 => ?_)
      · skip
        have hiR : i = R := by have := (nI_leI (by omega) (by omega)).mp c_139; omega
        have hw4 : c + (ccS Pt 0 (R * C)).length = c + (pMa (ML q N d) (PL q N d) q n lev 0 0).length := by rw [pMa_len eR eC hR5 hC5, ← ePt]
        have hw5 : (wX cI a (vU v 4 (nI (c + (ccS Pt 0 (R * C)).length))) Rk2) = (wX cI a (vU v 4 (nI (c + (pMa (ML q N d) (PL q N d) q n lev 0 0).length))) Rk2) := by rw [hw4]
        rw [hw5] at hP hD
        have hp9 : ATP q r (r 19) n c (mMa (ML q N d) q n lev) (pMa (ML q N d) (PL q N d) q n lev 0 0) Rk2 := ma_fin eR eC hR1 hR5 hC1 hC5 hM9 (by rw [hiR, Nat.sub_self, Nat.zero_mul] at hpb; have h8 := hpb.eq (List.append_nil _); rw [eMt, ePt] at h8; exact h8) (hw0.resolve_left (by omega))
        exact k_vret C0 Rk2 hP hD hS hp9 dX3_layMatrix_190
      · skip
        have hlt : i < R := Nat.not_le.mp (fun e => c_139 (nI_le e (by omega)))
        have b7 : Rk2 7 n = nI F := by rw [hpb.1 7 (by decide)]; exact a7
        have b8 : Rk2 8 n = nI R := by rw [hpb.1 8 (by decide)]; exact a8
        have b9 : Rk2 9 n = nI C := by rw [hpb.1 9 (by decide)]; exact a9
        have b11 : ∀ t, t < R * C → Rk2 11 (F + t) = nI (jc t) := fun t h => by rw [hpb.1 11 (by decide)]; exact (hce t h).1
        have bce : ∀ t, t < R * C → Rk2 11 (F + t) = nI (Rk2 11 (F + t)).toNatClampNeg ∧ (Rk2 11 (F + t)).toNatClampNeg < 30 := fun t h => by have h2 := (hce t h).2; rw [b11 t h, nI_clamp (by omega)]; exact ⟨rfl, h2⟩
        have hcb2 : ∀ t, t < R * C → BM Rk2 (jc t) (Mt t) ∧ Rk2 16 (jc t) = nI (c + (ccS Pt 0 t).length) ∧ Rk2 17 (jc t) = nI (c + (ccS Pt 0 t).length + (Pt t).length) := fun t h => jx_lc hlc (hjc t h).2 (by rw [eMt]; exact hcf t h)
        have hgg := ma_g (M := ML q N d) (q := q) (u := Rk2) (n := n) (lev := lev) (jc := jc) hC1 hC5 hR5 (fun t h => by have h8 := (hcb2 t h).1; rw [eMt] at h8; exact h8)
        have hRR : (R - i) * C = C + (R - (i + 1)) * C := by rw [show R - i = 1 + (R - (i + 1)) by omega, Nat.add_mul, Nat.one_mul]
        have hp2 := hpb.eq (L' := prL (maS (ML q N d) q n C lev (R * C)) Mt Pt C (maT (ML q N d) q n R C lev) (2 * uni lev) (3 * uni lev) i ++ (ccS Pt (i * C) C ++ ccS Pt ((i + 1) * C) ((R - (i + 1)) * C))) (by rw [hRR, cc_app, show i * C + C = (i + 1) * C by rw [Nat.add_mul, Nat.one_mul]])
        have hA2 : ∀ m2, m2 ≤ C → (ccS Pt 0 (i * C + m2)).length = (prL (maS (ML q N d) q n C lev (R * C)) Mt Pt C (maT (ML q N d) q n R C lev) (2 * uni lev) (3 * uni lev) i).length + (ccS Pt (i * C) m2).length := fun m2 _ => by rw [pr_len, cc_app, List.length_append, Nat.zero_add]
        have hln2 : c + (prL (maS (ML q N d) q n C lev (R * C)) Mt Pt C (maT (ML q N d) q n R C lev) (2 * uni lev) (3 * uni lev) i).length + (ccS Pt (i * C) C).length ≤ c + (ccS Pt 0 (R * C)).length := by have h7 := hA2 C (Nat.le_refl _); have h8 := cc_app Pt (i * C + C) 0 ((R - (i + 1)) * C); have h10 := congrArg List.length h8; rw [List.length_append, show i * C + C + (R - (i + 1)) * C = R * C by rw [Nat.add_assoc, ← hRR, ← Nat.add_mul, show i + (R - i) = R by omega]] at h10; omega
        have hg2 : ∀ k, k < C → mrF (Rk2 13) (fun k2 => jc (k2 * C + k)) R = (maS (ML q N d) q n C lev (R * C)) k := hgg.1
        refine lv_iload hx hb dX3_layMatrix_142 (lv_at hl 1 rfl) ?_
        refine lv_aload_n hx hb dX3_layMatrix_144 rfl (lv_at hl 7 rfl) ?_
        refine lv_iload_n hx hb dX3_layMatrix_145 rfl (lv_at hl 8 rfl) ?_
        refine lv_iload hx hb dX3_layMatrix_146 (lv_at hl 0 rfl) ?_
        refine kcD (ans := (mrF (Rk2 14) (fun k => (Rk2 11 (F + (i * C + k))).toNatClampNeg) C)) C0 hP hD hS (c_X3_rowHeight l D cI a (vU v 4 (nI (c + (ccS Pt 0 (R * C)).length))) Rk2 n F R C K i hn b7 b8 b9 hR5 hC5 hFR bce hkc hK3 hlt) (cwV 2 hts gX3_layMatrix_X3_rowHeight rfl rfl rfl (by decide +kernel) ⟨by dsimp only [rxL, rxF, rxA]; omega, by dsimp only [rxL, rxF, rxA]; omega⟩) 20 3 rfl rfl rfl hl.1 rfl (Nat.le_of_ble_eq_true rfl) dX3_layMatrix_148 ⟨Nat.zero_le _, Nat.zero_le _⟩ (fun H locs hP hD hS => ?_)
        refine lv_eqi (show _ = (maS (ML q N d) q n C lev (R * C)) (5 + i) from (mrF_e C (fun m2 hm2 => by rw [b11 _ (rc_lt hlt hm2), nI_clamp (by have := (hce _ (rc_lt hlt hm2)).2; omega)])).trans (hgg.2.1 i hlt)) ?_
        refine lv_isub hx hb dX3_layMatrix_151 ?_
        refine lv_istore (lv' := [(11, .int ((mrT (maS (ML q N d) q n C lev (R * C)) (maT (ML q N d) q n R C lev) (2 * uni lev) i) - ((maS (ML q N d) q n C lev (R * C)) (5 + i)))), (10, .int (nI i)), (9, .int (mrT (maS (ML q N d) q n C lev (R * C)) (maT (ML q N d) q n R C lev) (2 * uni lev) i)), (8, .int (smR (maS (ML q N d) q n C lev (R * C)) ((2 * uni lev) * ((nI R) - 1)) R)), (7, .int (uni lev)), (6, .int (maI lev)), (5, .int (nI C)), (4, .int (nI R)), (0, .ref (a 20)), (1, .int (nI n)), (2, .int lev), (3, .int (nI lv))]) hx hb dX3_layMatrix_152 hl (by decide) rfl (fun ls hl => ?_)
        refine lv_aload_n hx hb dX3_layMatrix_154 rfl (lv_at hl 8 rfl) ?_
        refine lv_iload_n hx hb dX3_layMatrix_155 rfl (lv_at hl 9 rfl) ?_
        refine lv_iload hx hb dX3_layMatrix_156 (lv_at hl 1 rfl) ?_
        refine lv_iload hx hb dX3_layMatrix_158 (lv_at hl 0 rfl) ?_
        refine lv_iconst (v := 3) hx hb dX3_layMatrix_160 (by decide) ?_
        refine lv_iload hx hb dX3_layMatrix_161 (lv_at hl 4 rfl) ?_
        refine lv_imul hx hb dX3_layMatrix_163 ?_
        refine kcVv C0 hP hD hS (c_X3_placeRow l D cI a (vU v 4 (nI (c + (ccS Pt 0 (R * C)).length))) Rk2 q r (r 19) (maS (ML q N d) q n C lev (R * C)) Mt Pt jc (fun t2 => (ccS Pt 0 t2).length) (prL (maS (ML q N d) q n C lev (R * C)) Mt Pt C (maT (ML q N d) q n R C lev) (2 * uni lev) (3 * uni lev) i) (ccS Pt ((i + 1) * C) ((R - (i + 1)) * C)) n c F R C K (c + (ccS Pt 0 (R * C)).length) i ((mrT (maS (ML q N d) q n C lev (R * C)) (maT (ML q N d) q n R C lev) (2 * uni lev) i) - ((maS (ML q N d) q n C lev (R * C)) (5 + i))) (3 * (uni lev)) (hhF (maS (ML q N d) q n C lev (R * C)) Mt C (maT (ML q N d) q n R C lev) (2 * uni lev) i) (dhF (maS (ML q N d) q n C lev (R * C)) Mt C (maT (ML q N d) q n R C lev) (2 * uni lev) i) rfl (by omega) hkc hK3 hn a7 a8 a9 hR5 hC5 hFR hce hlt hcb2 hp2 hA2 hln2 hg2) (cwV 4 hts gX3_layMatrix_X3_placeRow rfl rfl rfl (by decide +kernel) ⟨by dsimp only [rxL, rxF, rxA]; omega, by dsimp only [rxL, rxF, rxA]; omega⟩) 20 3 rfl rfl rfl hl.1 rfl (Nat.le_of_ble_eq_true rfl) dX3_layMatrix_164 ⟨Nat.zero_le _, Nat.zero_le _⟩ (fun u H locs hq hP hD hS => ?_)
        obtain ⟨w_1, rfl⟩ : ∃ z9, z9 = u := ⟨_, rfl⟩
        have hpr := hq
        have hP : va_P D vwCl (wX cI a (vU v 4 (nI (c + (ccS Pt 0 (R * C)).length))) w_1) H := hP
        have hD : va_D A (wX cI a (vU v 4 (nI (c + (ccS Pt 0 (R * C)).length))) w_1) := hD
        have b7 : w_1 7 n = nI F := by rw [hpr.1.1 7 (by decide)]; exact a7
        have b8 : w_1 8 n = nI R := by rw [hpr.1.1 8 (by decide)]; exact a8
        have b9 : w_1 9 n = nI C := by rw [hpr.1.1 9 (by decide)]; exact a9
        have b11 : ∀ t, t < R * C → w_1 11 (F + t) = nI (jc t) := fun t h => by rw [hpr.1.1 11 (by decide)]; exact (hce t h).1
        have bce : ∀ t, t < R * C → w_1 11 (F + t) = nI (w_1 11 (F + t)).toNatClampNeg ∧ (w_1 11 (F + t)).toNatClampNeg < 30 := fun t h => by have h2 := (hce t h).2; rw [b11 t h, nI_clamp (by omega)]; exact ⟨rfl, h2⟩
        have hgw := ma_g (M := ML q N d) (q := q) (u := w_1) (n := n) (lev := lev) (jc := jc) hC1 hC5 hR5 (fun t h => by have h8 := (jx_lc hpr.2.1 (hjc t h).2 (hcb2 t h)).1; rw [eMt] at h8; exact h8)
        refine lv_iload hx hb dX3_layMatrix_167 (lv_at hl 0 rfl) ?_
        refine lv_aload_n hx hb dX3_layMatrix_169 rfl (lv_at hl 8 rfl) ?_
        refine lv_iload_n hx hb dX3_layMatrix_170 rfl (lv_at hl 9 rfl) ?_
        refine lv_iload hx hb dX3_layMatrix_171 (lv_at hl 1 rfl) ?_
        refine kcD (ans := (mrF (w_1 15) (fun k => (w_1 11 (F + (i * C + k))).toNatClampNeg) C)) C0 hP hD hS (c_X3_rowDepth l D cI a (vU v 4 (nI (c + (ccS Pt 0 (R * C)).length))) w_1 n F R C K i hn b7 b8 b9 hR5 hC5 hFR bce hkc hK3 hlt) (cwV 2 hts gX3_layMatrix_X3_rowDepth rfl rfl rfl (by decide +kernel) ⟨by dsimp only [rxL, rxF, rxA]; omega, by dsimp only [rxL, rxF, rxA]; omega⟩) 20 3 rfl rfl rfl hl.1 rfl (Nat.le_of_ble_eq_true rfl) dX3_layMatrix_173 ⟨Nat.zero_le _, Nat.zero_le _⟩ (fun H locs hP hD hS => ?_)
        refine lv_eqi (show _ = (maS (ML q N d) q n C lev (R * C)) (10 + i) from (mrF_e C (fun m2 hm2 => by rw [b11 _ (rc_lt hlt hm2), nI_clamp (by have := (hce _ (rc_lt hlt hm2)).2; omega)])).trans (hgw.2.2 i hlt)) ?_
        refine lv_isub hx hb dX3_layMatrix_176 ?_
        refine lv_iconst (v := 2) hx hb dX3_layMatrix_177 (by decide) ?_
        refine lv_iload hx hb dX3_layMatrix_178 (lv_at hl 4 rfl) ?_
        refine lv_imul hx hb dX3_layMatrix_180 ?_
        refine lv_isub hx hb dX3_layMatrix_181 ?_
        refine lv_istore (lv' := [(9, .int ((((mrT (maS (ML q N d) q n C lev (R * C)) (maT (ML q N d) q n R C lev) (2 * uni lev) i) - ((maS (ML q N d) q n C lev (R * C)) (5 + i))) - ((maS (ML q N d) q n C lev (R * C)) (10 + i))) - (2 * (uni lev)))), (11, .int ((mrT (maS (ML q N d) q n C lev (R * C)) (maT (ML q N d) q n R C lev) (2 * uni lev) i) - ((maS (ML q N d) q n C lev (R * C)) (5 + i)))), (10, .int (nI i)), (8, .int (smR (maS (ML q N d) q n C lev (R * C)) ((2 * uni lev) * ((nI R) - 1)) R)), (7, .int (uni lev)), (6, .int (maI lev)), (5, .int (nI C)), (4, .int (nI R)), (0, .ref (a 20)), (1, .int (nI n)), (2, .int lev), (3, .int (nI lv))]) hx hb dX3_layMatrix_182 hl (by decide) rfl (fun ls hl => ?_)
        refine lv_iinc (v := (nI (i + 1))) (lv' := [(10, .int (nI (i + 1))), (9, .int ((((mrT (maS (ML q N d) q n C lev (R * C)) (maT (ML q N d) q n R C lev) (2 * uni lev) i) - ((maS (ML q N d) q n C lev (R * C)) (5 + i))) - ((maS (ML q N d) q n C lev (R * C)) (10 + i))) - (2 * (uni lev)))), (11, .int ((mrT (maS (ML q N d) q n C lev (R * C)) (maT (ML q N d) q n R C lev) (2 * uni lev) i) - ((maS (ML q N d) q n C lev (R * C)) (5 + i)))), (8, .int (smR (maS (ML q N d) q n C lev (R * C)) ((2 * uni lev) * ((nI R) - 1)) R)), (7, .int (uni lev)), (6, .int (maI lev)), (5, .int (nI C)), (4, .int (nI R)), (0, .ref (a 20)), (1, .int (nI n)), (2, .int lev), (3, .int (nI lv))]) hx hb dX3_layMatrix_184 hl (k := 2) rfl (k_inc i) (by decide) rfl (fun ls hl => ?_)
        refine lv_goto (tgt := 135) hx hb dX3_layMatrix_187 (by decide) ?_
        have hl2 : lv_has ls 12 [(10, .int (nI (i + 1))), (9, .int (mrT (maS (ML q N d) q n C lev (R * C)) (maT (ML q N d) q n R C lev) (2 * uni lev) (i + 1))), (8, .int (smR (maS (ML q N d) q n C lev (R * C)) ((2 * uni lev) * ((nI R) - 1)) R)), (7, .int (uni lev)), (6, .int (maI lev)), (5, .int (nI C)), (4, .int (nI R)), (0, .ref (a 20)), (1, .int (nI n)), (2, .int lev), (3, .int (nI lv))] := lv_sub hl [0, 1, 3, 4, 5, 6, 7, 8, 9, 10, 11] rfl
        have hp3 := hpr.1.eq (L' := prL (maS (ML q N d) q n C lev (R * C)) Mt Pt C (maT (ML q N d) q n R C lev) (2 * uni lev) (3 * uni lev) (i + 1) ++ ccS Pt ((i + 1) * C) ((R - (i + 1)) * C)) (by rw [prL, List.append_assoc])
        obtain ⟨c0, hc0⟩ : ∃ c0, C = c0 + 1 := ⟨C - 1, by omega⟩
        have hw1 : w_1 13 (30 + n) = smI (maS (ML q N d) q n C lev (R * C)) (3 * uni lev * (nI C - 1)) C := by rw [hpr.2.2, hc0]; exact rw_w c0
        exact ih ((i + 1), w_1) _ _ _ hP hD hS hl2 ⟨hlt, hp3, hlc.tr hpr.2.1, Or.inr hw1⟩ (show R - (i + 1) < R - i by omega)
    · skip
      have hlt : i < R := Nat.not_le.mp (fun e => c_89 (nI_le e (by omega)))
      refine lv_iload hx hb dX3_layMatrix_92 (lv_at hl 1 rfl) ?_
      refine lv_aload_n hx hb dX3_layMatrix_94 rfl (lv_at hl 6 rfl) ?_
      refine lv_iload_n hx hb dX3_layMatrix_95 rfl (lv_at hl 7 rfl) ?_
      refine lv_iload hx hb dX3_layMatrix_96 (lv_at hl 0 rfl) ?_
      refine kcD (ans := (mrF (Rk 14) (fun k => (Rk 11 (F + (i * C + k))).toNatClampNeg) C)) C0 hP hD hS (c_X3_rowHeight l D cI a (vU v 4 (nI (c + (ccS Pt 0 (R * C)).length))) Rk n F R C K i hn b7 b8 b9 hR5 hC5 hFR bce hkc hK3 hlt) (cwV 2 hts gX3_layMatrix_X3_rowHeight rfl rfl rfl (by decide +kernel) ⟨by dsimp only [rxL, rxF, rxA]; omega, by dsimp only [rxL, rxF, rxA]; omega⟩) 20 3 rfl rfl rfl hl.1 rfl (Nat.le_of_ble_eq_true rfl) dX3_layMatrix_98 ⟨Nat.zero_le _, Nat.zero_le _⟩ (fun H locs hP hD hS => ?_)
      refine lv_eqi (show _ = (maS (ML q N d) q n C lev (R * C)) (5 + i) from (mrF_e C (fun m2 hm2 => by rw [b11 _ (rc_lt hlt hm2), nI_clamp (by have := (hce _ (rc_lt hlt hm2)).2; omega)])).trans (hg1.2.1 i hlt)) ?_
      refine lv_aload_n hx hb dX3_layMatrix_101 rfl (lv_at hl 6 rfl) ?_
      refine lv_iload_n hx hb dX3_layMatrix_102 rfl (lv_at hl 7 rfl) ?_
      refine lv_iload hx hb dX3_layMatrix_103 (lv_at hl 0 rfl) ?_
      refine kcD (ans := (mrF (Rk 15) (fun k => (Rk 11 (F + (i * C + k))).toNatClampNeg) C)) C0 hP hD hS (c_X3_rowDepth l D cI a (vU v 4 (nI (c + (ccS Pt 0 (R * C)).length))) Rk n F R C K i hn b7 b8 b9 hR5 hC5 hFR bce hkc hK3 hlt) (cwV 2 hts gX3_layMatrix_X3_rowDepth rfl rfl rfl (by decide +kernel) ⟨by dsimp only [rxL, rxF, rxA]; omega, by dsimp only [rxL, rxF, rxA]; omega⟩) 20 3 rfl rfl rfl hl.1 rfl (Nat.le_of_ble_eq_true rfl) dX3_layMatrix_105 ⟨Nat.zero_le _, Nat.zero_le _⟩ (fun H locs hP hD hS => ?_)
      refine lv_eqi (show _ = (maS (ML q N d) q n C lev (R * C)) (10 + i) from (mrF_e C (fun m2 hm2 => by rw [b11 _ (rc_lt hlt hm2), nI_clamp (by have := (hce _ (rc_lt hlt hm2)).2; omega)])).trans (hg1.2.2 i hlt)) ?_
      refine lv_iadd hx hb dX3_layMatrix_108 ?_
      refine lv_iadd hx hb dX3_layMatrix_109 ?_
      refine lv_istore (lv' := [(8, .int ((smR (maS (ML q N d) q n C lev (R * C)) ((2 * uni lev) * ((nI R) - 1)) i) + (((maS (ML q N d) q n C lev (R * C)) (5 + i)) + ((maS (ML q N d) q n C lev (R * C)) (10 + i))))), (9, .int (nI i)), (7, .int (uni lev)), (6, .int (maI lev)), (5, .int (nI C)), (4, .int (nI R)), (0, .ref (a 20)), (1, .int (nI n)), (2, .int lev), (3, .int (nI lv))]) hx hb dX3_layMatrix_110 hl (by decide) rfl (fun ls hl => ?_)
      refine lv_iinc (v := (nI (i + 1))) (lv' := [(9, .int (nI (i + 1))), (8, .int ((smR (maS (ML q N d) q n C lev (R * C)) ((2 * uni lev) * ((nI R) - 1)) i) + (((maS (ML q N d) q n C lev (R * C)) (5 + i)) + ((maS (ML q N d) q n C lev (R * C)) (10 + i))))), (7, .int (uni lev)), (6, .int (maI lev)), (5, .int (nI C)), (4, .int (nI R)), (0, .ref (a 20)), (1, .int (nI n)), (2, .int lev), (3, .int (nI lv))]) hx hb dX3_layMatrix_112 hl (k := 1) rfl (k_inc i) (by decide) rfl (fun ls hl => ?_)
      refine lv_goto (tgt := 85) hx hb dX3_layMatrix_115 (by decide) ?_
      have hl2 : lv_has ls 12 [(9, .int (nI (i + 1))), (8, .int (smR (maS (ML q N d) q n C lev (R * C)) ((2 * uni lev) * ((nI R) - 1)) (i + 1))), (7, .int (uni lev)), (6, .int (maI lev)), (5, .int (nI C)), (4, .int (nI R)), (0, .ref (a 20)), (1, .int (nI n)), (2, .int lev), (3, .int (nI lv))] := by rw [smR, Int32.add_assoc]; exact lv_sub hl [0, 1, 2, 3, 4, 5, 6, 7, 8, 9] rfl
      exact ih (i + 1) _ _ _ hP hD hS hl2 hlt (show R - (i + 1) < R - i by omega)
  · skip
    have hlt : t < R * C := Nat.not_le.mp (fun e => c_39 (nI_le e (by omega)))
    have b7 : Rk 7 n = nI F := by rw [hpb.1 7 (by decide)]; exact a7
    have b8 : Rk 8 n = nI R := by rw [hpb.1 8 (by decide)]; exact a8
    have b9 : Rk 9 n = nI C := by rw [hpb.1 9 (by decide)]; exact a9
    have b11 : ∀ t, t < R * C → Rk 11 (F + t) = nI (jc t) := fun t h => by rw [hpb.1 11 (by decide)]; exact (hce t h).1
    have bce : ∀ t, t < R * C → Rk 11 (F + t) = nI (Rk 11 (F + t)).toNatClampNeg ∧ (Rk 11 (F + t)).toNatClampNeg < 30 := fun t h => by have h2 := (hce t h).2; rw [b11 t h, nI_clamp (by omega)]; exact ⟨rfl, h2⟩
    have hjt := (hjc t hlt).1
    have hft := hfl t hlt
    have hPt0 : (PL q N d (nI (jc t)) (maI lev) 0 0 0) = Pt t := by rw [ePt, ← hjt]
    have hll : c + (ccS Pt 0 t).length + (PL q N d (nI (jc t)) (maI lev) 0 0 0).length ≤ 150 := by have h7 := cc_app Pt (t + 1) 0 (R * C - (t + 1)); have h8 := congrArg List.length h7; rw [List.length_append, show t + 1 + (R * C - (t + 1)) = R * C by omega, cc_s, List.length_append, Nat.zero_add] at h8; rw [hPt0]; omega
    refine lv_aload_n hx hb dX3_layMatrix_42 rfl (lv_at hl 4 rfl) ?_
    refine lv_aload_n hx hb dX3_layMatrix_43 rfl (lv_at hl 4 rfl) ?_
    refine lv_iload_n hx hb dX3_layMatrix_44 rfl (lv_at hl 5 rfl) ?_
    refine lv_iload hx hb dX3_layMatrix_45 (lv_at hl 0 rfl) ?_
    refine kcD (ans := ((Rk 11) (F + t))) C0 hP hD hS (c_X3_cellAt l D cI a (vU v 4 (nI (c + (ccS Pt 0 t).length))) Rk n t F K hn b7 hkc hK3 (by omega)) (cwV 2 hts gX3_layMatrix_X3_cellAt rfl rfl rfl (by decide +kernel) ⟨by dsimp only [rxL, rxF, rxA]; omega, by dsimp only [rxL, rxF, rxA]; omega⟩) 20 3 rfl rfl rfl hl.1 rfl (Nat.le_of_ble_eq_true rfl) dX3_layMatrix_47 ⟨Nat.zero_le _, Nat.zero_le _⟩ (fun H locs hP hD hS => ?_)
    refine lv_eqi (b11 _ hlt) ?_
    refine lv_iload hx hb dX3_layMatrix_50 (lv_at hl 1 rfl) ?_
    refine lv_iconst (v := 0) hx hb dX3_layMatrix_52 (by decide) ?_
    refine lv_iload_n hx hb dX3_layMatrix_53 rfl (lv_at hl 7 rfl) ?_
    refine lv_iconst (v := 1) hx hb dX3_layMatrix_54 (by decide) ?_
    refine lv_iadd hx hb dX3_layMatrix_55 ?_
    refine lv_eqi (nI_1 lv) ?_
    obtain ⟨hk9, hi9, hlt9⟩ := fl_dp hT hnN hk e2 hft
    refine kcVv C0 hP hD hS (hM v Rk (jc t) (lv + 1) (c + (ccS Pt 0 t).length) (maI lev) 0 hk9 (by omega) (by omega) (hr.sb hpb.1) hN (maI_o hlev) hll) (cwV 4 hts gX3_layMatrix_X3_layList rfl rfl rfl (by decide +kernel) ⟨by dsimp only [rxL, rxF, rxA]; omega, by dsimp only [rxL, rxF, rxA]; omega⟩) 20 3 rfl rfl rfl hl.1 rfl (Nat.le_of_ble_eq_true rfl) dX3_layMatrix_56 ⟨Nat.zero_le _, Nat.zero_le _⟩ (fun u H locs hq hP hD hS => ?_)
    obtain ⟨u_2, rfl⟩ : ∃ z9, z9 = u := ⟨_, rfl⟩
    have hq_u_2 : LLP q N d Rk (jc t) (maI lev) 0 (c + (ccS Pt 0 t).length) u_2 := hq
    have hP : va_P D vwCl (wX cI a (vU v 4 (nI ((c + (ccS Pt 0 t).length) + (PL q N d (nI (jc t)) (maI lev) 0 0 0).length))) u_2) H := hP
    have hD : va_D A (wX cI a (vU v 4 (nI ((c + (ccS Pt 0 t).length) + (PL q N d (nI (jc t)) (maI lev) 0 0 0).length))) u_2) := hD
    refine lv_iinc (v := (nI (t + 1))) (lv' := [(7, .int (nI (t + 1))), (6, .int (maI lev)), (5, .int (nI C)), (4, .int (nI R)), (0, .ref (a 20)), (1, .int (nI n)), (2, .int lev), (3, .int (nI lv))]) hx hb dX3_layMatrix_59 hl (k := 0) rfl (k_inc t) (by decide) rfl (fun ls hl => ?_)
    refine lv_goto (tgt := 32) hx hb dX3_layMatrix_62 (by decide) ?_
    have hPt : PL q N d (nI (jc t)) (maI lev) 0 0 0 = Pt t := by rw [ePt, ← hjt]
    have hp2 := pb_ll hT hpb hnN hk e2 hft rfl hq_u_2
    rw [hPt] at hp2
    have hp3 : PB q r (r 19) n c (ccS Pt 0 (t + 1)) 0 0 u_2 := hp2.eq (by rw [cc_s, Nat.zero_add])
    have hw4 : c + (ccS Pt 0 t).length + (PL q N d (nI (jc t)) (maI lev) 0 0 0).length = c + (ccS Pt 0 (t + 1)).length := by rw [hPt, cc_s, List.length_append, Nat.zero_add, Nat.add_assoc]
    have hw5 : (wX cI a (vU v 4 (nI ((c + (ccS Pt 0 t).length) + (PL q N d (nI (jc t)) (maI lev) 0 0 0).length))) u_2) = (wX cI a (vU v 4 (nI (c + (ccS Pt 0 (t + 1)).length))) u_2) := by rw [hw4]
    rw [hw5] at hP hD
    have hcb : ∀ t1, t1 < t + 1 → BM u_2 (jc t1) (ML q N d (q 10 (25 * n + t1)) (maI lev) 0) ∧ u_2 16 (jc t1) = nI (c + (ccS Pt 0 t1).length) ∧ u_2 17 (jc t1) = nI (c + (ccS Pt 0 t1).length + (Pt t1).length) := by
      intro t1 ht1
      rcases (show t1 < t ∨ t1 = t by omega) with e | e
      · have sx := hq_u_2.2.2.2.2.2 (jc t1) (by have := (hjc t1 (by omega)).2; omega) (bx_s hT hnN hk e2 hft (hfl t1 (by omega)) (by omega))
        obtain ⟨h1, h2, h3⟩ := hcf t1 e
        exact ⟨⟨sx.1.trans h1.1, sx.2.1.trans h1.2.1, sx.2.2.1.trans h1.2.2⟩, sx.2.2.2.1.trans h2, sx.2.2.2.2.trans h3⟩
      · subst e
        refine ⟨by rw [hjt]; exact hq_u_2.2.2.1, hq_u_2.2.2.2.1, ?_⟩
        rw [hq_u_2.2.2.2.2.1, hPt]
    exact ih ((t + 1), u_2) _ _ _ hP hD hS (lv_sub hl [0, 1, 2, 3, 4, 5, 6, 7] rfl) ⟨hlt, hp3, hcb⟩ (show R * C - (t + 1) < R * C - t by omega)
