def pz (f : Nat → Int32) (b k : Nat) : Nat → Int32 := fun j => if b ≤ j ∧ j < b + k then 0 else f j
theorem pz_s (f : Nat → Int32) (b k : Nat) : upd (pz f b k) (b + k) 0 = pz f b (k + 1) := by
  funext j
  unfold upd pz
  by_cases h : j = b + k
  · rw [if_pos h, if_pos (by omega)]
  · rw [if_neg h]
    by_cases h2 : b ≤ j ∧ j < b + k
    · rw [if_pos h2, if_pos (by omega)]
    · rw [if_neg h2, if_neg (by omega)]
theorem pz_0 (f : Nat → Int32) (b : Nat) : pz f b 0 = f := by
  funext j
  unfold pz
  rw [if_neg (by omega)]
theorem i_m16 (n : Nat) : (16 : Int32) * nI n = nI (16 * n) := pk_mul 16 n
theorem i_m25 (n : Nat) : (25 : Int32) * nI n = nI (25 * n) := pk_mul 25 n
theorem i_a (a b : Nat) : nI a + nI b = nI (a + b) := nI_add a b
theorem i_5 (a b : Nat) : nI a + 5 + nI b = nI (a + 5 + b) := (congrArg (fun q => q + nI b) (nI_add a 5)).trans (nI_add (a + 5) b)
theorem i_10 (a b : Nat) : nI a + 10 + nI b = nI (a + 10 + b) := (congrArg (fun q => q + nI b) (nI_add a 10)).trans (nI_add (a + 10) b)
theorem i_15 (a : Nat) : nI a + 15 = nI (a + 15) := nI_add a 15
theorem maS_s (M : Int32 → Int32 → Int32 → T3) (r : Nat → Nat → Int32) (n C : Nat) (lev : Int32) (k : Nat) : maS M r n C lev (k + 1) = upd (upd (upd (maS M r n C lev k) (k % C) (mx (maS M r n C lev k (k % C)) (M (r 10 (25 * n + k)) (maI lev) 0).1)) (5 + k / C) (mx (maS M r n C lev k (5 + k / C)) (M (r 10 (25 * n + k)) (maI lev) 0).2.1)) (10 + k / C) (mx (maS M r n C lev k (10 + k / C)) (M (r 10 (25 * n + k)) (maI lev) 0).2.2) := rfl
/-- a turn of the matrix's sizes, in the row of all sizes -/
theorem ma_turn {M : Int32 → Int32 → Int32 → T3} {r : Nat → Nat → Int32} {n C k p q : Nat} {lev : Int32} {z : Nat → Int32} (hp : p = k % C) (hq : q = k / C) (hm : p < 5) (hk : q < 5) (h : ∀ j, j < 16 → z (16 * n + j) = maS M r n C lev k j) :
    ∀ j, j < 16 → upd (upd (upd z (16 * n + p) (mx (z (16 * n + p)) (M (r 10 (25 * n + k)) (maI lev) 0).1)) (16 * n + 5 + q) (mx (upd z (16 * n + p) (mx (z (16 * n + p)) (M (r 10 (25 * n + k)) (maI lev) 0).1) (16 * n + 5 + q)) (M (r 10 (25 * n + k)) (maI lev) 0).2.1)) (16 * n + 10 + q) (mx (upd (upd z (16 * n + p) (mx (z (16 * n + p)) (M (r 10 (25 * n + k)) (maI lev) 0).1)) (16 * n + 5 + q) (mx (upd z (16 * n + p) (mx (z (16 * n + p)) (M (r 10 (25 * n + k)) (maI lev) 0).1) (16 * n + 5 + q)) (M (r 10 (25 * n + k)) (maI lev) 0).2.1) (16 * n + 10 + q)) (M (r 10 (25 * n + k)) (maI lev) 0).2.2) (16 * n + j) = maS M r n C lev (k + 1) j := by
  intro j hj
  rw [maS_s, ← hp, ← hq]
  have e1 : upd z (16 * n + p) (mx (z (16 * n + p)) (M (r 10 (25 * n + k)) (maI lev) 0).1) (16 * n + 5 + q) = maS M r n C lev k (5 + q) := by
    rw [pk_un (by omega), show 16 * n + 5 + q = 16 * n + (5 + q) by omega, h _ (by omega)]
  rw [e1]
  have e2 : upd (upd z (16 * n + p) (mx (z (16 * n + p)) (M (r 10 (25 * n + k)) (maI lev) 0).1)) (16 * n + 5 + q) (mx (maS M r n C lev k (5 + q)) (M (r 10 (25 * n + k)) (maI lev) 0).2.1) (16 * n + 10 + q) = maS M r n C lev k (10 + q) := by
    rw [pk_un (by omega), pk_un (by omega), show 16 * n + 10 + q = 16 * n + (10 + q) by omega, h _ (by omega)]
  rw [e2, h _ (by omega)]
  by_cases c3 : j = 10 + q
  · rw [c3, show 16 * n + (10 + q) = 16 * n + 10 + q by omega, pk_us, pk_us]
  · rw [pk_un (f := upd _ _ _) (j := 16 * n + j) (by omega), pk_un (f := upd _ _ _) (j := j) c3]
    by_cases c2 : j = 5 + q
    · rw [c2, show 16 * n + (5 + q) = 16 * n + 5 + q by omega, pk_us, pk_us]
    · rw [pk_un (f := upd _ _ _) (j := 16 * n + j) (by omega), pk_un (f := upd _ _ _) (j := j) c2]
      by_cases c1 : j = p
      · rw [c1, pk_us, pk_us]
      · rw [pk_un (j := 16 * n + j) (by omega), pk_un (j := j) c1, h j hj]
theorem upd_blk {z : Nat → Int32} {n i k q : Nat} {x : Int32} (hk : k < 16) (hq : q < 16) (hi : ¬ i = n) : upd z (16 * n + q) x (16 * i + k) = z (16 * i + k) := pk_un (by omega)

set_option maxHeartbeats 1500000 in
set_option maxRecDepth 100000 in
theorem c_X5_measureMatrix (l : Launch) (D : va_G) (cI : ClassId) (a : Nat → Nat) (v : Nat → Int32) (r : Nat → Nat → Int32) (n N d R C : Nat) (rk : Int32 → Nat) (lev : Int32) (it sz : Nat → Int32) (w0 h0 d0 u0 e0 : Int32) (hM : HML l D cI a v r N rk d) (hN1 : N ≤ 120) (hn : n < N) (hd : rk (r 2 n) ≤ d) (hR5 : r 5 n = nI R) (hC6 : r 6 n = nI C) (hR1 : 1 ≤ R) (hRm : R ≤ 5) (hC1 : 1 ≤ C) (hC5 : C ≤ 5) (hce : ∀ k, k < R * C → rk (r 10 (25 * n + k)) < rk (r 2 n)) : KV l D cI yX5_measureMatrix wsX5_measureMatrix (rmF d) [.ref (a 0), .int (nI n), .int lev] (wM cI a (vU (vU (vU (vU (vU v 19 w0) 20 h0) 21 d0) 22 u0) 23 e0) (rU (rU r 11 it) 12 sz)) (fun z : Int32 × Int32 × (Nat → Int32) => wM cI a (v5 v (mMa (ML r N d) r n lev).1 (mMa (ML r N d) r n lev).2.1 (mMa (ML r N d) r n lev).2.2 z.1 z.2.1) (r2 r it z.2.2)) (fun z => (∀ i4, rk (r 2 n) < rk (r 2 i4) → ∀ k4, k4 < 16 → z.2.2 (16 * i4 + k4) = sz (16 * i4 + k4)) ∧ (∀ j, j < 15 → z.2.2 (16 * n + j) = maS (ML r N d) r n C lev (R * C) j) ∧ z.2.2 (16 * n + 15) = maT (ML r N d) r n R C lev) := by
  refine KV.of (cc := cX5_measureMatrix) (nL := 10) (ret := none) (by decide) rfl (Nat.le_of_ble_eq_true rfl) ?_
  intro pg9 en9 s m args below meth cd9 A ls C0 hP hD hS hl
  have hx := C0.1.1
  have hb := C0.1.2.1
  have hml := C0.1.2.2.1
  have hown : s.vm.findClass RX5 = some m.cls := C0.1.2.2.2.1
  have hts : ∀ w ∈ wsX5_measureMatrix, w.before args s = true := C0.1.2.2.2.2
  have hK := C0.2.2.2.1
  have hin_X5 : ∀ w ∈ wsX50, w ∈ wsX5_measureMatrix := fun w h => List.mem_cons_of_mem _ (List.mem_append_right _ h)
  have hf26 : (Cond.fieldLink RX5 26 "FormulaListsModel" "one" "[I").before args s = true := hts _ (by decide +kernel)
  have hf29 : (Cond.fieldLink RX5 29 "FormulaListsModel" "two" "[I").before args s = true := hts _ (by decide +kernel)
  have hf47 : (Cond.fieldLink RX5 47 "FormulaListsModel" "sizes" "[I").before args s = true := hts _ (by decide +kernel)
  have hf41 : (Cond.fieldLink RX5 41 "FormulaListsModel" "cells" "[I").before args s = true := hts _ (by decide +kernel)
  have hf96 : (Cond.fieldLink RX5 96 "FormulaListsModel" "width" "I").before args s = true := hts _ (by decide +kernel)
  have hf99 : (Cond.fieldLink RX5 99 "FormulaListsModel" "height" "I").before args s = true := hts _ (by decide +kernel)
  have hf102 : (Cond.fieldLink RX5 102 "FormulaListsModel" "depth" "I").before args s = true := hts _ (by decide +kernel)
  have hl : lv_has ls 10 [(0, .ref (a 0)), (1, .int (nI n)), (2, .int lev)] := hl
  have hP : va_P D vwCl (wM cI a (vU (vU (vU (vU (vU v 19 w0) 20 h0) 21 d0) 22 u0) 23 e0) (rU (rU r 11 it) 12 sz)) s.heap := hP
  have hRC : R * C ≤ 25 := Nat.mul_le_mul hRm hC5
  refine lv_iload_n hx hb dX5_measureMatrix_0 rfl (lv_at hl 2 rfl) ?_
  refine kcS (ans := (uni lev)) C0 hP hS (c_X5_unit l D cI lev ) (va_cwS 1 hts gX5_measureMatrix_X5_unit rfl rfl rfl (by decide +kernel) ⟨by dsimp only [rmL, rmF, rmN, rmA]; omega, by dsimp only [rmL, rmF, rmN, rmA]; omega⟩) rfl hl.1 rfl (Nat.le_of_ble_eq_true rfl) dX5_measureMatrix_1 ⟨Nat.zero_le _, Nat.zero_le _⟩ (fun H locs hP hS => ?_)
  refine lv_istore_n (lv' := [(3, .int (uni lev)), (0, .ref (a 0)), (1, .int (nI n)), (2, .int lev)]) hx hb dX5_measureMatrix_4 rfl hl (by decide) rfl (fun ls hl => ?_)
  refine lv_aload_n hx hb dX5_measureMatrix_5 rfl (lv_at hl 1 rfl) ?_
  refine va_get (D := D) (ci := 5) (v := .ref (a 5)) (C := RX5) (T := TX5) (N := 25) hx hb hts hin_X5 hown hK hP 0 rfl rfl 8 (by decide) hf26 (fun _ h9 => h9) rfl dX5_measureMatrix_6 ?_
  refine lv_iload_n hx hb dX5_measureMatrix_9 rfl (lv_at hl 2 rfl) ?_
  refine ra_ld (f := (r 5)) C0 hP 5 rfl n rfl (by omega) (by decide) dX5_measureMatrix_10 ?_
  refine lv_eqi hR5 ?_
  refine lv_istore (lv' := [(4, .int (nI R)), (3, .int (uni lev)), (0, .ref (a 0)), (1, .int (nI n)), (2, .int lev)]) hx hb dX5_measureMatrix_11 hl (by decide) rfl (fun ls hl => ?_)
  refine lv_aload_n hx hb dX5_measureMatrix_13 rfl (lv_at hl 2 rfl) ?_
  refine va_get (D := D) (ci := 5) (v := .ref (a 6)) (C := RX5) (T := TX5) (N := 25) hx hb hts hin_X5 hown hK hP 0 rfl rfl 9 (by decide) hf29 (fun _ h9 => h9) rfl dX5_measureMatrix_14 ?_
  refine lv_iload_n hx hb dX5_measureMatrix_17 rfl (lv_at hl 3 rfl) ?_
  refine ra_ld (f := (r 6)) C0 hP 6 rfl n rfl (by omega) (by decide) dX5_measureMatrix_18 ?_
  refine lv_eqi hC6 ?_
  refine lv_istore (lv' := [(5, .int (nI C)), (4, .int (nI R)), (3, .int (uni lev)), (0, .ref (a 0)), (1, .int (nI n)), (2, .int lev)]) hx hb dX5_measureMatrix_19 hl (by decide) rfl (fun ls hl => ?_)
  refine lv_bipush (v := 16) hx hb dX5_measureMatrix_21 (by decide) ?_
  refine lv_iload_n hx hb dX5_measureMatrix_23 rfl (lv_at hl 4 rfl) ?_
  refine lv_imul hx hb dX5_measureMatrix_24 ?_
  refine lv_eqi (i_m16 n) ?_
  refine lv_istore (lv' := [(6, .int (nI (16 * n))), (5, .int (nI C)), (4, .int (nI R)), (3, .int (uni lev)), (0, .ref (a 0)), (1, .int (nI n)), (2, .int lev)]) hx hb dX5_measureMatrix_25 hl (by decide) rfl (fun ls hl => ?_)
  refine lv_iconst (v := 0) hx hb dX5_measureMatrix_27 (by decide) ?_
  refine lv_istore (lv' := [(7, .int 0), (6, .int (nI (16 * n))), (5, .int (nI C)), (4, .int (nI R)), (3, .int (uni lev)), (0, .ref (a 0)), (1, .int (nI n)), (2, .int lev)]) hx hb dX5_measureMatrix_28 hl (by decide) rfl (fun ls hl => ?_)
  refine lpW (nL := 10) (A := A) (D := D) (fun z : Nat => (wM cI a (vU (vU (vU (vU (vU v 19 w0) 20 h0) 21 d0) 22 u0) 23 e0) (rU (rU r 11 it) 12 (pz sz (16 * n) z)))) (fun z : Nat => [(7, .int (nI z)), (6, .int (nI (16 * n))), (5, .int (nI C)), (4, .int (nI R)), (3, .int (uni lev)), (0, .ref (a 0)), (1, .int (nI n)), (2, .int lev)]) (fun z : Nat => z ≤ 16) (fun z : Nat => 16 - z) 0 (by rw [pz_0]; exact hP) (by rw [pz_0]; exact hD) hS (lv_sub hl [0, 1, 2, 3, 4, 5, 6, 7] rfl) (Nat.zero_le _) ?_
  intro k H locs ls hP hD hS hl hf ih
  have hP : va_P D vwCl (wM cI a (vU (vU (vU (vU (vU v 19 w0) 20 h0) 21 d0) 22 u0) 23 e0) (rU (rU r 11 it) 12 (pz sz (16 * n) k))) H := hP
  have hD : va_D A (wM cI a (vU (vU (vU (vU (vU v 19 w0) 20 h0) 21 d0) 22 u0) 23 e0) (rU (rU r 11 it) 12 (pz sz (16 * n) k))) := hD
  have hl : lv_has ls 10 [(7, .int (nI k)), (6, .int (nI (16 * n))), (5, .int (nI C)), (4, .int (nI R)), (3, .int (uni lev)), (0, .ref (a 0)), (1, .int (nI n)), (2, .int lev)] := hl
  have hf : k ≤ 16 := hf
  have hk1 := hf
  refine lv_iload hx hb dX5_measureMatrix_30 (lv_at hl 0 rfl) ?_
  refine lv_bipush (v := 16) hx hb dX5_measureMatrix_32 (by decide) ?_
  refine lv_icmp_ge (tgt := 54) hx hb dX5_measureMatrix_34 (by decide) (fun c_34 => ?_) (fun c_34 => ?_)
  · skip
    have hk16 : k = 16 := by have := (nI_leI (a := 16) (by omega) (by omega)).mp c_34; omega
    subst hk16
    refine lv_iconst (v := 0) hx hb dX5_measureMatrix_54 (by decide) ?_
    refine lv_istore (lv' := [(7, .int 0), (6, .int (nI (16 * n))), (5, .int (nI C)), (4, .int (nI R)), (3, .int (uni lev)), (0, .ref (a 0)), (1, .int (nI n)), (2, .int lev)]) hx hb dX5_measureMatrix_55 hl (by decide) rfl (fun ls hl => ?_)
    refine lpW (nL := 10) (A := A) (D := D) (fun z : Nat × Int32 × Int32 × Int32 × Int32 × Int32 × (Nat → Int32) => (wM cI a (vU (vU (vU (vU (vU v 19 z.2.1) 20 z.2.2.1) 21 z.2.2.2.1) 22 z.2.2.2.2.1) 23 z.2.2.2.2.2.1) (rU (rU r 11 it) 12 z.2.2.2.2.2.2))) (fun z : Nat × Int32 × Int32 × Int32 × Int32 × Int32 × (Nat → Int32) => [(7, .int (nI z.1)), (6, .int (nI (16 * n))), (5, .int (nI C)), (4, .int (nI R)), (3, .int (uni lev)), (0, .ref (a 0)), (1, .int (nI n)), (2, .int lev)]) (fun z : Nat × Int32 × Int32 × Int32 × Int32 × Int32 × (Nat → Int32) => z.1 ≤ R * C ∧ (∀ j, j < 16 → z.2.2.2.2.2.2 (16 * n + j) = maS (ML r N d) r n C lev z.1 j) ∧ (∀ i4, rk (r 2 n) < rk (r 2 i4) → ∀ k4, k4 < 16 → z.2.2.2.2.2.2 (16 * i4 + k4) = sz (16 * i4 + k4))) (fun z : Nat × Int32 × Int32 × Int32 × Int32 × Int32 × (Nat → Int32) => R * C - z.1) (0, w0, h0, d0, u0, e0, (pz sz (16 * n) 16)) hP hD hS (lv_sub hl [0, 1, 2, 3, 4, 5, 6, 7] rfl) ⟨Nat.zero_le _, fun j hj => (by show pz sz (16 * n) 16 (16 * n + j) = 0; unfold pz; rw [if_pos (by omega)]), fun i hi k hk => (by show pz sz (16 * n) 16 (16 * i + k) = sz (16 * i + k); have hin : ¬ i = n := (fun q => by rw [q] at hi; omega); unfold pz; rw [if_neg (by omega)])⟩ ?_
    rintro ⟨k, w1, h1_, d1, u1, e1, z1⟩ H locs ls hP hD hS hl hf ih
    have hP : va_P D vwCl (wM cI a (vU (vU (vU (vU (vU v 19 w1) 20 h1_) 21 d1) 22 u1) 23 e1) (rU (rU r 11 it) 12 z1)) H := hP
    have hD : va_D A (wM cI a (vU (vU (vU (vU (vU v 19 w1) 20 h1_) 21 d1) 22 u1) 23 e1) (rU (rU r 11 it) 12 z1)) := hD
    have hl : lv_has ls 10 [(7, .int (nI k)), (6, .int (nI (16 * n))), (5, .int (nI C)), (4, .int (nI R)), (3, .int (uni lev)), (0, .ref (a 0)), (1, .int (nI n)), (2, .int lev)] := hl
    have hf : k ≤ R * C ∧ (∀ j, j < 16 → z1 (16 * n + j) = maS (ML r N d) r n C lev k j) ∧ (∀ i4, rk (r 2 n) < rk (r 2 i4) → ∀ k4, k4 < 16 → z1 (16 * i4 + k4) = sz (16 * i4 + k4)) := hf
    obtain ⟨hk1, hb1, hb0⟩ := hf
    refine lv_iload hx hb dX5_measureMatrix_57 (lv_at hl 0 rfl) ?_
    refine lv_iload hx hb dX5_measureMatrix_59 (lv_at hl 3 rfl) ?_
    refine lv_iload hx hb dX5_measureMatrix_61 (lv_at hl 2 rfl) ?_
    refine lv_imul hx hb dX5_measureMatrix_63 ?_
    refine lv_eqi (pk_mul R C) ?_
    refine lv_icmp_ge (tgt := 204) hx hb dX5_measureMatrix_64 (by decide) (fun c_64 => ?_) (fun c_64 => ?_)
    · skip
      have hkRC : k = R * C := by have := (nI_leI (by omega) (by omega)).mp c_64; omega
      subst hkRC
      refine lv_iconst (v := 3) hx hb dX5_measureMatrix_204 (by decide) ?_
      refine lv_iload_n hx hb dX5_measureMatrix_205 rfl (lv_at hl 4 rfl) ?_
      refine lv_imul hx hb dX5_measureMatrix_206 ?_
      refine lv_iload hx hb dX5_measureMatrix_207 (lv_at hl 2 rfl) ?_
      refine lv_iconst (v := 1) hx hb dX5_measureMatrix_209 (by decide) ?_
      refine lv_isub hx hb dX5_measureMatrix_210 ?_
      refine lv_imul hx hb dX5_measureMatrix_211 ?_
      refine lv_istore (lv' := [(7, .int ((3 * (uni lev)) * ((nI C) - 1))), (6, .int (nI (16 * n))), (5, .int (nI C)), (4, .int (nI R)), (3, .int (uni lev)), (0, .ref (a 0)), (1, .int (nI n)), (2, .int lev)]) hx hb dX5_measureMatrix_212 hl (by decide) rfl (fun ls hl => ?_)
      refine lv_iconst (v := 0) hx hb dX5_measureMatrix_214 (by decide) ?_
      refine lv_istore (lv' := [(8, .int 0), (7, .int ((3 * (uni lev)) * ((nI C) - 1))), (6, .int (nI (16 * n))), (5, .int (nI C)), (4, .int (nI R)), (3, .int (uni lev)), (0, .ref (a 0)), (1, .int (nI n)), (2, .int lev)]) hx hb dX5_measureMatrix_215 hl (by decide) rfl (fun ls hl => ?_)
      refine lpW (nL := 10) (A := A) (D := D) (fun z : Nat => (wM cI a (vU (vU (vU (vU (vU v 19 w1) 20 h1_) 21 d1) 22 u1) 23 e1) (rU (rU r 11 it) 12 z1))) (fun z : Nat => [(8, .int (nI z)), (7, .int (smI (maS (ML r N d) r n C lev (R * C)) (3 * uni lev * (nI C - 1)) z)), (6, .int (nI (16 * n))), (5, .int (nI C)), (4, .int (nI R)), (3, .int (uni lev)), (0, .ref (a 0)), (1, .int (nI n)), (2, .int lev)]) (fun z : Nat => z ≤ C) (fun z : Nat => C - z) 0 hP hD hS (lv_sub hl [0, 1, 2, 3, 4, 5, 6, 7, 8] rfl) (Nat.zero_le _) ?_
      intro c2 H locs ls hP hD hS hl hf ih
      have hP : va_P D vwCl (wM cI a (vU (vU (vU (vU (vU v 19 w1) 20 h1_) 21 d1) 22 u1) 23 e1) (rU (rU r 11 it) 12 z1)) H := hP
      have hD : va_D A (wM cI a (vU (vU (vU (vU (vU v 19 w1) 20 h1_) 21 d1) 22 u1) 23 e1) (rU (rU r 11 it) 12 z1)) := hD
      have hl : lv_has ls 10 [(8, .int (nI c2)), (7, .int (smI (maS (ML r N d) r n C lev (R * C)) (3 * uni lev * (nI C - 1)) c2)), (6, .int (nI (16 * n))), (5, .int (nI C)), (4, .int (nI R)), (3, .int (uni lev)), (0, .ref (a 0)), (1, .int (nI n)), (2, .int lev)] := hl
      have hf : c2 ≤ C := hf
      have hc1 := hf
      refine lv_iload hx hb dX5_measureMatrix_217 (lv_at hl 0 rfl) ?_
      refine lv_iload hx hb dX5_measureMatrix_219 (lv_at hl 3 rfl) ?_
      refine lv_icmp_ge (tgt := 245) hx hb dX5_measureMatrix_221 (by decide) (fun c_221 => ?_) (fun c_221 => ?_)
      · skip
        have hcC : c2 = C := by have := (nI_leI (by omega) (by omega)).mp c_221; omega
        refine lv_iconst (v := 2) hx hb dX5_measureMatrix_245 (by decide) ?_
        refine lv_iload_n hx hb dX5_measureMatrix_246 rfl (lv_at hl 5 rfl) ?_
        refine lv_imul hx hb dX5_measureMatrix_247 ?_
        refine lv_iload hx hb dX5_measureMatrix_248 (lv_at hl 4 rfl) ?_
        refine lv_iconst (v := 1) hx hb dX5_measureMatrix_250 (by decide) ?_
        refine lv_isub hx hb dX5_measureMatrix_251 ?_
        refine lv_imul hx hb dX5_measureMatrix_252 ?_
        refine lv_istore (lv' := [(8, .int ((2 * (uni lev)) * ((nI R) - 1))), (7, .int (smI (maS (ML r N d) r n C lev (R * C)) (3 * uni lev * (nI C - 1)) c2)), (6, .int (nI (16 * n))), (5, .int (nI C)), (4, .int (nI R)), (3, .int (uni lev)), (0, .ref (a 0)), (1, .int (nI n)), (2, .int lev)]) hx hb dX5_measureMatrix_253 hl (by decide) rfl (fun ls hl => ?_)
        refine lv_iconst (v := 0) hx hb dX5_measureMatrix_255 (by decide) ?_
        refine lv_istore (lv' := [(9, .int 0), (8, .int ((2 * (uni lev)) * ((nI R) - 1))), (7, .int (smI (maS (ML r N d) r n C lev (R * C)) (3 * uni lev * (nI C - 1)) c2)), (6, .int (nI (16 * n))), (5, .int (nI C)), (4, .int (nI R)), (3, .int (uni lev)), (0, .ref (a 0)), (1, .int (nI n)), (2, .int lev)]) hx hb dX5_measureMatrix_256 hl (by decide) rfl (fun ls hl => ?_)
        refine lpW (nL := 10) (A := A) (D := D) (fun z : Nat => (wM cI a (vU (vU (vU (vU (vU v 19 w1) 20 h1_) 21 d1) 22 u1) 23 e1) (rU (rU r 11 it) 12 z1))) (fun z : Nat => [(9, .int (nI z)), (8, .int (smR (maS (ML r N d) r n C lev (R * C)) (2 * uni lev * (nI R - 1)) z)), (7, .int (smI (maS (ML r N d) r n C lev (R * C)) (3 * uni lev * (nI C - 1)) c2)), (6, .int (nI (16 * n))), (5, .int (nI C)), (4, .int (nI R)), (3, .int (uni lev)), (0, .ref (a 0)), (1, .int (nI n)), (2, .int lev)]) (fun z : Nat => z ≤ R) (fun z : Nat => R - z) 0 hP hD hS (lv_sub hl [0, 1, 2, 3, 4, 5, 6, 7, 8, 9] rfl) (Nat.zero_le _) ?_
        intro r3 H locs ls hP hD hS hl hf ih
        have hP : va_P D vwCl (wM cI a (vU (vU (vU (vU (vU v 19 w1) 20 h1_) 21 d1) 22 u1) 23 e1) (rU (rU r 11 it) 12 z1)) H := hP
        have hD : va_D A (wM cI a (vU (vU (vU (vU (vU v 19 w1) 20 h1_) 21 d1) 22 u1) 23 e1) (rU (rU r 11 it) 12 z1)) := hD
        have hl : lv_has ls 10 [(9, .int (nI r3)), (8, .int (smR (maS (ML r N d) r n C lev (R * C)) (2 * uni lev * (nI R - 1)) r3)), (7, .int (smI (maS (ML r N d) r n C lev (R * C)) (3 * uni lev * (nI C - 1)) c2)), (6, .int (nI (16 * n))), (5, .int (nI C)), (4, .int (nI R)), (3, .int (uni lev)), (0, .ref (a 0)), (1, .int (nI n)), (2, .int lev)] := hl
        have hf : r3 ≤ R := hf
        have hr1 := hf
        refine lv_iload hx hb dX5_measureMatrix_258 (lv_at hl 0 rfl) ?_
        refine lv_iload hx hb dX5_measureMatrix_260 (lv_at hl 5 rfl) ?_
        refine lv_icmp_ge (tgt := 302) hx hb dX5_measureMatrix_262 (by decide) (fun c_262 => ?_) (fun c_262 => ?_)
        · skip
          have hrR : r3 = R := by have := (nI_leI (by omega) (by omega)).mp c_262; omega
          refine lv_iconst (v := 2) hx hb dX5_measureMatrix_302 (by decide) ?_
          refine lv_iload_n hx hb dX5_measureMatrix_303 rfl (lv_at hl 6 rfl) ?_
          refine lv_imul hx hb dX5_measureMatrix_304 ?_
          refine lv_iload hx hb dX5_measureMatrix_305 (lv_at hl 1 rfl) ?_
          refine kcS (ans := ((smR (maS (ML r N d) r n C lev (R * C)) (2 * uni lev * (nI R - 1)) r3) / 2)) C0 hP hS (c_X5_half l D cI (smR (maS (ML r N d) r n C lev (R * C)) (2 * uni lev * (nI R - 1)) r3) ) (va_cwS 1 hts gX5_measureMatrix_X5_half rfl rfl rfl (by decide +kernel) ⟨by dsimp only [rmL, rmF, rmN, rmA]; omega, by dsimp only [rmL, rmF, rmN, rmA]; omega⟩) rfl hl.1 rfl (Nat.le_of_ble_eq_true rfl) dX5_measureMatrix_307 ⟨Nat.zero_le _, Nat.zero_le _⟩ (fun H locs hP hS => ?_)
          refine lv_isub hx hb dX5_measureMatrix_310 ?_
          refine lv_iload hx hb dX5_measureMatrix_311 (lv_at hl 1 rfl) ?_
          refine lv_iadd hx hb dX5_measureMatrix_313 ?_
          refine lv_istore (lv' := [(9, .int (((2 * (uni lev)) - ((smR (maS (ML r N d) r n C lev (R * C)) (2 * uni lev * (nI R - 1)) r3) / 2)) + (smR (maS (ML r N d) r n C lev (R * C)) (2 * uni lev * (nI R - 1)) r3))), (8, .int (smR (maS (ML r N d) r n C lev (R * C)) (2 * uni lev * (nI R - 1)) r3)), (7, .int (smI (maS (ML r N d) r n C lev (R * C)) (3 * uni lev * (nI C - 1)) c2)), (6, .int (nI (16 * n))), (5, .int (nI C)), (4, .int (nI R)), (3, .int (uni lev)), (0, .ref (a 0)), (1, .int (nI n)), (2, .int lev)]) hx hb dX5_measureMatrix_314 hl (by decide) rfl (fun ls hl => ?_)
          refine lv_aload_n hx hb dX5_measureMatrix_316 rfl (lv_at hl 7 rfl) ?_
          refine va_get (D := D) (ci := 5) (v := .ref (a 12)) (C := RX5) (T := TX5) (N := 25) hx hb hts hin_X5 hown hK hP 0 rfl rfl 24 (by decide) hf47 (fun _ h9 => h9) rfl dX5_measureMatrix_317 ?_
          refine lv_iload hx hb dX5_measureMatrix_320 (lv_at hl 3 rfl) ?_
          refine lv_bipush (v := 15) hx hb dX5_measureMatrix_322 (by decide) ?_
          refine lv_iadd hx hb dX5_measureMatrix_324 ?_
          refine lv_iload hx hb dX5_measureMatrix_325 (lv_at hl 0 rfl) ?_
          refine ra_st (f := z1) C0 hP hD hS 12 rfl (16 * n + 15) (i_15 _) (by omega) (by decide) dX5_measureMatrix_327 (fun H locs hP hD hS => ?_)
          have hset : ∀ (y19_ y20_ y21_ y22_ y23_ : Int32) (f11_ f12_ : Nat → Int32) (g_ : Nat → Int32), (wM cI a (vU (vU (vU (vU (vU v 19 y19_) 20 y20_) 21 y21_) 22 y22_) 23 y23_) (rU (rU r 11 f11_) 12 f12_)).set 12 (a 12, .inl (cI, 1920, .inl g_)) = (wM cI a (vU (vU (vU (vU (vU v 19 y19_) 20 y20_) 21 y21_) 22 y22_) 23 y23_) (rU (rU r 11 f11_) 12 g_)) := fun _ _ _ _ _ _ _ _ => rfl
          rw [hset] at hP hD
          refine lv_aload_n hx hb dX5_measureMatrix_328 rfl (lv_at hl 7 rfl) ?_
          refine lv_iload hx hb dX5_measureMatrix_329 (lv_at hl 2 rfl) ?_
          refine lv_iconst (v := 0) hx hb dX5_measureMatrix_331 (by decide) ?_
          refine lv_iload hx hb dX5_measureMatrix_332 (lv_at hl 0 rfl) ?_
          refine kcS (ans := (mx 0 (((2 * (uni lev)) - ((smR (maS (ML r N d) r n C lev (R * C)) (2 * uni lev * (nI R - 1)) r3) / 2)) + (smR (maS (ML r N d) r n C lev (R * C)) (2 * uni lev * (nI R - 1)) r3)))) C0 hP hS (c_X5_greater l D cI 0 (((2 * (uni lev)) - ((smR (maS (ML r N d) r n C lev (R * C)) (2 * uni lev * (nI R - 1)) r3) / 2)) + (smR (maS (ML r N d) r n C lev (R * C)) (2 * uni lev * (nI R - 1)) r3)) ) (va_cwS 2 hts gX5_measureMatrix_X5_greater rfl rfl rfl (by decide +kernel) ⟨by dsimp only [rmL, rmF, rmN, rmA]; omega, by dsimp only [rmL, rmF, rmN, rmA]; omega⟩) rfl hl.1 rfl (Nat.le_of_ble_eq_true rfl) dX5_measureMatrix_334 ⟨Nat.zero_le _, Nat.zero_le _⟩ (fun H locs hP hS => ?_)
          refine lv_iconst (v := 0) hx hb dX5_measureMatrix_337 (by decide) ?_
          refine lv_iload hx hb dX5_measureMatrix_338 (lv_at hl 1 rfl) ?_
          refine lv_iload hx hb dX5_measureMatrix_340 (lv_at hl 0 rfl) ?_
          refine lv_isub hx hb dX5_measureMatrix_342 ?_
          refine kcS (ans := (mx 0 ((smR (maS (ML r N d) r n C lev (R * C)) (2 * uni lev * (nI R - 1)) r3) - (((2 * (uni lev)) - ((smR (maS (ML r N d) r n C lev (R * C)) (2 * uni lev * (nI R - 1)) r3) / 2)) + (smR (maS (ML r N d) r n C lev (R * C)) (2 * uni lev * (nI R - 1)) r3))))) C0 hP hS (c_X5_greater l D cI 0 ((smR (maS (ML r N d) r n C lev (R * C)) (2 * uni lev * (nI R - 1)) r3) - (((2 * (uni lev)) - ((smR (maS (ML r N d) r n C lev (R * C)) (2 * uni lev * (nI R - 1)) r3) / 2)) + (smR (maS (ML r N d) r n C lev (R * C)) (2 * uni lev * (nI R - 1)) r3))) ) (va_cwS 2 hts gX5_measureMatrix_X5_greater rfl rfl rfl (by decide +kernel) ⟨by dsimp only [rmL, rmF, rmN, rmA]; omega, by dsimp only [rmL, rmF, rmN, rmA]; omega⟩) rfl hl.1 rfl (Nat.le_of_ble_eq_true rfl) dX5_measureMatrix_343 ⟨Nat.zero_le _, Nat.zero_le _⟩ (fun H locs hP hS => ?_)
          refine kcDv C0 hP hD hS (c_X5_set l D cI a (vU (vU (vU (vU (vU v 19 w1) 20 h1_) 21 d1) 22 u1) 23 e1) (rU (rU r 11 it) 12 (upd z1 (16 * n + 15) (((2 * (uni lev)) - ((smR (maS (ML r N d) r n C lev (R * C)) (2 * uni lev * (nI R - 1)) r3) / 2)) + (smR (maS (ML r N d) r n C lev (R * C)) (2 * uni lev * (nI R - 1)) r3)))) (smI (maS (ML r N d) r n C lev (R * C)) (3 * uni lev * (nI C - 1)) c2) (mx 0 (((2 * (uni lev)) - ((smR (maS (ML r N d) r n C lev (R * C)) (2 * uni lev * (nI R - 1)) r3) / 2)) + (smR (maS (ML r N d) r n C lev (R * C)) (2 * uni lev * (nI R - 1)) r3))) (mx 0 ((smR (maS (ML r N d) r n C lev (R * C)) (2 * uni lev * (nI R - 1)) r3) - (((2 * (uni lev)) - ((smR (maS (ML r N d) r n C lev (R * C)) (2 * uni lev * (nI R - 1)) r3) / 2)) + (smR (maS (ML r N d) r n C lev (R * C)) (2 * uni lev * (nI R - 1)) r3))))) (cwV 3 hts gX5_measureMatrix_X5_set rfl rfl rfl (by decide +kernel) ⟨by dsimp only [rmL, rmF, rmN, rmA]; omega, by dsimp only [rmL, rmF, rmN, rmA]; omega⟩) 0 5 rfl rfl rfl hl.1 rfl (Nat.le_of_ble_eq_true rfl) dX5_measureMatrix_346 ⟨Nat.zero_le _, Nat.zero_le _⟩ (fun H locs hP hD hS => ?_)
          have hP : va_P D vwCl (wM cI a (vU (vU (vU (vU (vU v 19 (smI (maS (ML r N d) r n C lev (R * C)) (3 * uni lev * (nI C - 1)) c2)) 20 (mx 0 (((2 * (uni lev)) - ((smR (maS (ML r N d) r n C lev (R * C)) (2 * uni lev * (nI R - 1)) r3) / 2)) + (smR (maS (ML r N d) r n C lev (R * C)) (2 * uni lev * (nI R - 1)) r3)))) 21 (mx 0 ((smR (maS (ML r N d) r n C lev (R * C)) (2 * uni lev * (nI R - 1)) r3) - (((2 * (uni lev)) - ((smR (maS (ML r N d) r n C lev (R * C)) (2 * uni lev * (nI R - 1)) r3) / 2)) + (smR (maS (ML r N d) r n C lev (R * C)) (2 * uni lev * (nI R - 1)) r3))))) 22 u1) 23 e1) (rU (rU r 11 it) 12 (upd z1 (16 * n + 15) (((2 * (uni lev)) - ((smR (maS (ML r N d) r n C lev (R * C)) (2 * uni lev * (nI R - 1)) r3) / 2)) + (smR (maS (ML r N d) r n C lev (R * C)) (2 * uni lev * (nI R - 1)) r3))))) H := hP
          have hD : va_D A (wM cI a (vU (vU (vU (vU (vU v 19 (smI (maS (ML r N d) r n C lev (R * C)) (3 * uni lev * (nI C - 1)) c2)) 20 (mx 0 (((2 * (uni lev)) - ((smR (maS (ML r N d) r n C lev (R * C)) (2 * uni lev * (nI R - 1)) r3) / 2)) + (smR (maS (ML r N d) r n C lev (R * C)) (2 * uni lev * (nI R - 1)) r3)))) 21 (mx 0 ((smR (maS (ML r N d) r n C lev (R * C)) (2 * uni lev * (nI R - 1)) r3) - (((2 * (uni lev)) - ((smR (maS (ML r N d) r n C lev (R * C)) (2 * uni lev * (nI R - 1)) r3) / 2)) + (smR (maS (ML r N d) r n C lev (R * C)) (2 * uni lev * (nI R - 1)) r3))))) 22 u1) 23 e1) (rU (rU r 11 it) 12 (upd z1 (16 * n + 15) (((2 * (uni lev)) - ((smR (maS (ML r N d) r n C lev (R * C)) (2 * uni lev * (nI R - 1)) r3) / 2)) + (smR (maS (ML r N d) r n C lev (R * C)) (2 * uni lev * (nI R - 1)) r3))))) := hD
          have q19 : (smI (maS (ML r N d) r n C lev (R * C)) (3 * uni lev * (nI C - 1)) c2) = (mMa (ML r N d) r n lev).1 := (by rw [mMa, hR5, hC6, nI_clamp (by omega), nI_clamp (by omega)]; simp only [hcC, hrR]; rfl)
          have q20 : (mx 0 (((2 * (uni lev)) - ((smR (maS (ML r N d) r n C lev (R * C)) (2 * uni lev * (nI R - 1)) r3) / 2)) + (smR (maS (ML r N d) r n C lev (R * C)) (2 * uni lev * (nI R - 1)) r3))) = (mMa (ML r N d) r n lev).2.1 := (by rw [mMa, hR5, hC6, nI_clamp (by omega), nI_clamp (by omega)]; simp only [hcC, hrR]; rfl)
          have q21 : (mx 0 ((smR (maS (ML r N d) r n C lev (R * C)) (2 * uni lev * (nI R - 1)) r3) - (((2 * (uni lev)) - ((smR (maS (ML r N d) r n C lev (R * C)) (2 * uni lev * (nI R - 1)) r3) / 2)) + (smR (maS (ML r N d) r n C lev (R * C)) (2 * uni lev * (nI R - 1)) r3)))) = (mMa (ML r N d) r n lev).2.2 := (by rw [mMa, hR5, hC6, nI_clamp (by omega), nI_clamp (by omega)]; simp only [hcC, hrR]; rfl)
          have hw : (wM cI a (vU (vU (vU (vU (vU v 19 (smI (maS (ML r N d) r n C lev (R * C)) (3 * uni lev * (nI C - 1)) c2)) 20 (mx 0 (((2 * (uni lev)) - ((smR (maS (ML r N d) r n C lev (R * C)) (2 * uni lev * (nI R - 1)) r3) / 2)) + (smR (maS (ML r N d) r n C lev (R * C)) (2 * uni lev * (nI R - 1)) r3)))) 21 (mx 0 ((smR (maS (ML r N d) r n C lev (R * C)) (2 * uni lev * (nI R - 1)) r3) - (((2 * (uni lev)) - ((smR (maS (ML r N d) r n C lev (R * C)) (2 * uni lev * (nI R - 1)) r3) / 2)) + (smR (maS (ML r N d) r n C lev (R * C)) (2 * uni lev * (nI R - 1)) r3))))) 22 u1) 23 e1) (rU (rU r 11 it) 12 (upd z1 (16 * n + 15) (((2 * (uni lev)) - ((smR (maS (ML r N d) r n C lev (R * C)) (2 * uni lev * (nI R - 1)) r3) / 2)) + (smR (maS (ML r N d) r n C lev (R * C)) (2 * uni lev * (nI R - 1)) r3))))) = (wM cI a (vU (vU (vU (vU (vU v 19 ((mMa (ML r N d) r n lev).1)) 20 ((mMa (ML r N d) r n lev).2.1)) 21 ((mMa (ML r N d) r n lev).2.2)) 22 u1) 23 e1) (rU (rU r 11 it) 12 (upd z1 (16 * n + 15) (((2 * (uni lev)) - ((smR (maS (ML r N d) r n C lev (R * C)) (2 * uni lev * (nI R - 1)) r3) / 2)) + (smR (maS (ML r N d) r n C lev (R * C)) (2 * uni lev * (nI R - 1)) r3))))) := by rw [q19, q20, q21]
          have hP : va_P D vwCl (wM cI a (vU (vU (vU (vU (vU v 19 ((mMa (ML r N d) r n lev).1)) 20 ((mMa (ML r N d) r n lev).2.1)) 21 ((mMa (ML r N d) r n lev).2.2)) 22 u1) 23 e1) (rU (rU r 11 it) 12 (upd z1 (16 * n + 15) (((2 * (uni lev)) - ((smR (maS (ML r N d) r n C lev (R * C)) (2 * uni lev * (nI R - 1)) r3) / 2)) + (smR (maS (ML r N d) r n C lev (R * C)) (2 * uni lev * (nI R - 1)) r3))))) H := hw ▸ hP
          have hD : va_D A (wM cI a (vU (vU (vU (vU (vU v 19 ((mMa (ML r N d) r n lev).1)) 20 ((mMa (ML r N d) r n lev).2.1)) 21 ((mMa (ML r N d) r n lev).2.2)) 22 u1) 23 e1) (rU (rU r 11 it) 12 (upd z1 (16 * n + 15) (((2 * (uni lev)) - ((smR (maS (ML r N d) r n C lev (R * C)) (2 * uni lev * (nI R - 1)) r3) / 2)) + (smR (maS (ML r N d) r n C lev (R * C)) (2 * uni lev * (nI R - 1)) r3))))) := hw ▸ hD
          exact k_vret C0 (u1, e1, (upd z1 (16 * n + 15) (((2 * (uni lev)) - ((smR (maS (ML r N d) r n C lev (R * C)) (2 * uni lev * (nI R - 1)) r3) / 2)) + (smR (maS (ML r N d) r n C lev (R * C)) (2 * uni lev * (nI R - 1)) r3)))) hP hD hS ⟨fun i hi k hk => (by have hin : ¬ i = n := (fun q => by rw [q] at hi; omega); show (upd z1 (16 * n + 15) (((2 * (uni lev)) - ((smR (maS (ML r N d) r n C lev (R * C)) (2 * uni lev * (nI R - 1)) r3) / 2)) + (smR (maS (ML r N d) r n C lev (R * C)) (2 * uni lev * (nI R - 1)) r3))) (16 * i + k) = _; rw [upd_blk hk (by omega) hin]; exact hb0 i hi k hk), fun j hj => (by show (upd z1 (16 * n + 15) (((2 * (uni lev)) - ((smR (maS (ML r N d) r n C lev (R * C)) (2 * uni lev * (nI R - 1)) r3) / 2)) + (smR (maS (ML r N d) r n C lev (R * C)) (2 * uni lev * (nI R - 1)) r3))) (16 * n + j) = _; rw [pk_un (by omega)]; exact hb1 j (by omega)), (by show (upd z1 (16 * n + 15) (((2 * (uni lev)) - ((smR (maS (ML r N d) r n C lev (R * C)) (2 * uni lev * (nI R - 1)) r3) / 2)) + (smR (maS (ML r N d) r n C lev (R * C)) (2 * uni lev * (nI R - 1)) r3))) (16 * n + 15) = _; rw [pk_us]; simp only [hrR]; rfl)⟩ dX5_measureMatrix_349
        · skip
          have hlt : r3 < R := Nat.not_le.mp (fun q => c_262 (nI_le q (by omega)))
          refine lv_iload hx hb dX5_measureMatrix_265 (lv_at hl 1 rfl) ?_
          refine lv_aload_n hx hb dX5_measureMatrix_267 rfl (lv_at hl 7 rfl) ?_
          refine va_get (D := D) (ci := 5) (v := .ref (a 12)) (C := RX5) (T := TX5) (N := 25) hx hb hts hin_X5 hown hK hP 0 rfl rfl 24 (by decide) hf47 (fun _ h9 => h9) rfl dX5_measureMatrix_268 ?_
          refine lv_iload hx hb dX5_measureMatrix_271 (lv_at hl 3 rfl) ?_
          refine lv_iconst (v := 5) hx hb dX5_measureMatrix_273 (by decide) ?_
          refine lv_iadd hx hb dX5_measureMatrix_274 ?_
          refine lv_iload hx hb dX5_measureMatrix_275 (lv_at hl 0 rfl) ?_
          refine lv_iadd hx hb dX5_measureMatrix_277 ?_
          refine ra_ld (f := z1) C0 hP 12 rfl (16 * n + 5 + r3) (i_5 _ _) (by omega) (by decide) dX5_measureMatrix_278 ?_
          refine lv_iadd hx hb dX5_measureMatrix_279 ?_
          refine lv_aload_n hx hb dX5_measureMatrix_280 rfl (lv_at hl 7 rfl) ?_
          refine va_get (D := D) (ci := 5) (v := .ref (a 12)) (C := RX5) (T := TX5) (N := 25) hx hb hts hin_X5 hown hK hP 0 rfl rfl 24 (by decide) hf47 (fun _ h9 => h9) rfl dX5_measureMatrix_281 ?_
          refine lv_iload hx hb dX5_measureMatrix_284 (lv_at hl 3 rfl) ?_
          refine lv_bipush (v := 10) hx hb dX5_measureMatrix_286 (by decide) ?_
          refine lv_iadd hx hb dX5_measureMatrix_288 ?_
          refine lv_iload hx hb dX5_measureMatrix_289 (lv_at hl 0 rfl) ?_
          refine lv_iadd hx hb dX5_measureMatrix_291 ?_
          refine ra_ld (f := z1) C0 hP 12 rfl (16 * n + 10 + r3) (i_10 _ _) (by omega) (by decide) dX5_measureMatrix_292 ?_
          refine lv_iadd hx hb dX5_measureMatrix_293 ?_
          refine lv_istore (lv' := [(8, .int (((smR (maS (ML r N d) r n C lev (R * C)) (2 * uni lev * (nI R - 1)) r3) + (z1 (16 * n + 5 + r3))) + (z1 (16 * n + 10 + r3)))), (9, .int (nI r3)), (7, .int (smI (maS (ML r N d) r n C lev (R * C)) (3 * uni lev * (nI C - 1)) c2)), (6, .int (nI (16 * n))), (5, .int (nI C)), (4, .int (nI R)), (3, .int (uni lev)), (0, .ref (a 0)), (1, .int (nI n)), (2, .int lev)]) hx hb dX5_measureMatrix_294 hl (by decide) rfl (fun ls hl => ?_)
          refine lv_iinc (v := (nI (r3 + 1))) (lv' := [(9, .int (nI (r3 + 1))), (8, .int (((smR (maS (ML r N d) r n C lev (R * C)) (2 * uni lev * (nI R - 1)) r3) + (z1 (16 * n + 5 + r3))) + (z1 (16 * n + 10 + r3)))), (7, .int (smI (maS (ML r N d) r n C lev (R * C)) (3 * uni lev * (nI C - 1)) c2)), (6, .int (nI (16 * n))), (5, .int (nI C)), (4, .int (nI R)), (3, .int (uni lev)), (0, .ref (a 0)), (1, .int (nI n)), (2, .int lev)]) hx hb dX5_measureMatrix_296 hl (k := 1) rfl (k_inc r3) (by decide) rfl (fun ls hl => ?_)
          refine lv_goto (tgt := 258) hx hb dX5_measureMatrix_299 (by decide) ?_
          have hl2 : lv_has ls 10 [(9, .int (nI (r3 + 1))), (8, .int (smR (maS (ML r N d) r n C lev (R * C)) (2 * uni lev * (nI R - 1)) (r3 + 1))), (7, .int (smI (maS (ML r N d) r n C lev (R * C)) (3 * uni lev * (nI C - 1)) c2)), (6, .int (nI (16 * n))), (5, .int (nI C)), (4, .int (nI R)), (3, .int (uni lev)), (0, .ref (a 0)), (1, .int (nI n)), (2, .int lev)] := by rw [smR, ← hb1 (5 + r3) (by omega), ← hb1 (10 + r3) (by omega), show 16 * n + (5 + r3) = 16 * n + 5 + r3 by omega, show 16 * n + (10 + r3) = 16 * n + 10 + r3 by omega]; exact lv_sub hl [0, 1, 2, 3, 4, 5, 6, 7, 8, 9] rfl
          exact ih (r3 + 1) _ _ _ hP hD hS hl2 hlt (show R - (r3 + 1) < R - r3 by omega)
      · skip
        have hlt : c2 < C := Nat.not_le.mp (fun q => c_221 (nI_le q (by omega)))
        refine lv_iload hx hb dX5_measureMatrix_224 (lv_at hl 1 rfl) ?_
        refine lv_aload_n hx hb dX5_measureMatrix_226 rfl (lv_at hl 6 rfl) ?_
        refine va_get (D := D) (ci := 5) (v := .ref (a 12)) (C := RX5) (T := TX5) (N := 25) hx hb hts hin_X5 hown hK hP 0 rfl rfl 24 (by decide) hf47 (fun _ h9 => h9) rfl dX5_measureMatrix_227 ?_
        refine lv_iload hx hb dX5_measureMatrix_230 (lv_at hl 2 rfl) ?_
        refine lv_iload hx hb dX5_measureMatrix_232 (lv_at hl 0 rfl) ?_
        refine lv_iadd hx hb dX5_measureMatrix_234 ?_
        refine ra_ld (f := z1) C0 hP 12 rfl (16 * n + c2) (i_a _ _) (by omega) (by decide) dX5_measureMatrix_235 ?_
        refine lv_iadd hx hb dX5_measureMatrix_236 ?_
        refine lv_istore (lv' := [(7, .int ((smI (maS (ML r N d) r n C lev (R * C)) (3 * uni lev * (nI C - 1)) c2) + (z1 (16 * n + c2)))), (8, .int (nI c2)), (6, .int (nI (16 * n))), (5, .int (nI C)), (4, .int (nI R)), (3, .int (uni lev)), (0, .ref (a 0)), (1, .int (nI n)), (2, .int lev)]) hx hb dX5_measureMatrix_237 hl (by decide) rfl (fun ls hl => ?_)
        refine lv_iinc (v := (nI (c2 + 1))) (lv' := [(8, .int (nI (c2 + 1))), (7, .int ((smI (maS (ML r N d) r n C lev (R * C)) (3 * uni lev * (nI C - 1)) c2) + (z1 (16 * n + c2)))), (6, .int (nI (16 * n))), (5, .int (nI C)), (4, .int (nI R)), (3, .int (uni lev)), (0, .ref (a 0)), (1, .int (nI n)), (2, .int lev)]) hx hb dX5_measureMatrix_239 hl (k := 1) rfl (k_inc c2) (by decide) rfl (fun ls hl => ?_)
        refine lv_goto (tgt := 217) hx hb dX5_measureMatrix_242 (by decide) ?_
        have hl2 : lv_has ls 10 [(8, .int (nI (c2 + 1))), (7, .int (smI (maS (ML r N d) r n C lev (R * C)) (3 * uni lev * (nI C - 1)) (c2 + 1))), (6, .int (nI (16 * n))), (5, .int (nI C)), (4, .int (nI R)), (3, .int (uni lev)), (0, .ref (a 0)), (1, .int (nI n)), (2, .int lev)] := by rw [smI, ← hb1 c2 (by omega)]; exact lv_sub hl [0, 1, 2, 3, 4, 5, 6, 7, 8] rfl
        exact ih (c2 + 1) _ _ _ hP hD hS hl2 hlt (show C - (c2 + 1) < C - c2 by omega)
    · skip
      have hlt : k < R * C := Nat.not_le.mp (fun q => c_64 (nI_le q (by omega)))
      obtain ⟨cq, ecq⟩ : ∃ q, q = k % C := ⟨_, rfl⟩
      obtain ⟨rq, erq⟩ : ∃ q, q = k / C := ⟨_, rfl⟩
      have hkC : rq < 5 := by rw [erq]; have := Nat.div_lt_of_lt_mul (show k < C * R by rw [Nat.mul_comm]; exact hlt); omega
      have hmC : cq < 5 := by rw [ecq]; have := Nat.mod_lt k hC1; omega
      have hck := hce k hlt
      have ecr : nI k - nI k / nI C * nI C = nI cq := by rw [ecq]; exact pk_rem (by omega) (by omega) (by omega)
      have ecd : nI k / nI C = nI rq := by rw [erq]; exact pk_div (by omega) (by omega) (by omega)
      refine lv_aload_n hx hb dX5_measureMatrix_67 rfl (lv_at hl 5 rfl) ?_
      refine lv_aload_n hx hb dX5_measureMatrix_68 rfl (lv_at hl 5 rfl) ?_
      refine va_get (D := D) (ci := 5) (v := .ref (a 10)) (C := RX5) (T := TX5) (N := 25) hx hb hts hin_X5 hown hK hP 0 rfl rfl 13 (by decide) hf41 (fun _ h9 => h9) rfl dX5_measureMatrix_69 ?_
      refine lv_bipush (v := 25) hx hb dX5_measureMatrix_72 (by decide) ?_
      refine lv_iload_n hx hb dX5_measureMatrix_74 rfl (lv_at hl 6 rfl) ?_
      refine lv_imul hx hb dX5_measureMatrix_75 ?_
      refine lv_iload hx hb dX5_measureMatrix_76 (lv_at hl 0 rfl) ?_
      refine lv_iadd hx hb dX5_measureMatrix_78 ?_
      refine ra_ld (f := (r 10)) C0 hP 10 rfl (25 * n + k) (by rw [i_m25]; exact i_a _ _) (by omega) (by decide) dX5_measureMatrix_79 ?_
      refine lv_iload_n hx hb dX5_measureMatrix_80 rfl (lv_at hl 7 rfl) ?_
      obtain ⟨x_1, ex_1⟩ : ∃ zz_ : Int32, zz_ = (if lev = 0 then (1 : Int32) else lev) := ⟨_, rfl⟩
      refine jW (D := D) hD hl 89 (wM cI a (vU (vU (vU (vU (vU v 19 w1) 20 h1_) 21 d1) 22 u1) 23 e1) (rU (rU r 11 it) 12 z1)) [(7, .int (nI k)), (6, .int (nI (16 * n))), (5, .int (nI C)), (4, .int (nI R)), (3, .int (uni lev)), (0, .ref (a 0)), (1, .int (nI n)), (2, .int lev)] [.int x_1, .int ((r 10) (25 * n + k)), .ref (a 0)] (fun hJ => ?_) (fun H locs ls hP hD hS hl => ?_)
      · skip
        refine lv_if_ne (tgt := 88) hx hb dX5_measureMatrix_81 (by decide) (fun c_81 => ?_) (fun c_81 => ?_)
        · skip
          refine lv_iload_n hx hb dX5_measureMatrix_88 rfl (lv_at hl 7 rfl) ?_
          have gx_1 : x_1 = lev := by rw [ex_1]; simp only [if_neg c_81]
          simp only [gx_1] at hJ
          exact hJ _ _ _ hP hD hS (lv_sub hl [0, 1, 2, 3, 4, 5, 6, 7] rfl)
        · skip
          refine lv_iconst (v := 1) hx hb dX5_measureMatrix_84 (by decide) ?_
          refine lv_goto (tgt := 89) hx hb dX5_measureMatrix_85 (by decide) ?_
          have gx_1 : x_1 = 1 := by rw [ex_1]; simp only [if_pos c_81]
          simp only [gx_1] at hJ
          exact hJ _ _ _ hP hD hS (lv_sub hl [0, 1, 2, 3, 4, 5, 6, 7] rfl)
      · skip
        refine lv_eqi (show x_1 = maI lev from ex_1) ?_
        refine lv_iconst (v := 0) hx hb dX5_measureMatrix_89 (by decide) ?_
        refine kcVv C0 hP hD hS (hM ((r 10) (25 * n + k)) (maI lev) 0 it z1 w1 h1_ d1 u1 e1 (by have := hce k hlt; omega)) (cwV 3 hts gX5_measureMatrix_X5_measureList rfl rfl rfl (by decide +kernel) ⟨by dsimp only [rmL, rmF, rmN, rmA]; omega, by dsimp only [rmL, rmF, rmN, rmA]; omega⟩) 0 5 rfl rfl rfl hl.1 rfl (Nat.le_of_ble_eq_true rfl) dX5_measureMatrix_90 ⟨Nat.zero_le _, Nat.zero_le _⟩ (fun u H locs hq hP hD hS => ?_)
        obtain ⟨u_2, e_2, z_2⟩ := u
        have hz_2 : ∀ i2, rk ((r 10) (25 * n + k)) < rk (r 2 i2) → ∀ k, k < 16 → z_2 (16 * i2 + k) = z1 (16 * i2 + k) := hq
        have hP : va_P D vwCl (wM cI a (vU (vU (vU (vU (vU v 19 ((ML r N d ((r 10) (25 * n + k)) (maI lev) 0).1)) 20 ((ML r N d ((r 10) (25 * n + k)) (maI lev) 0).2.1)) 21 ((ML r N d ((r 10) (25 * n + k)) (maI lev) 0).2.2)) 22 u_2) 23 e_2) (rU (rU r 11 it) 12 z_2)) H := hP
        have hD : va_D A (wM cI a (vU (vU (vU (vU (vU v 19 ((ML r N d ((r 10) (25 * n + k)) (maI lev) 0).1)) 20 ((ML r N d ((r 10) (25 * n + k)) (maI lev) 0).2.1)) 21 ((ML r N d ((r 10) (25 * n + k)) (maI lev) 0).2.2)) 22 u_2) 23 e_2) (rU (rU r 11 it) 12 z_2)) := hD
        refine lv_iload hx hb dX5_measureMatrix_93 (lv_at hl 0 rfl) ?_
        refine lv_iload hx hb dX5_measureMatrix_95 (lv_at hl 2 rfl) ?_
        refine lv_irem hx hb dX5_measureMatrix_97 (nI_ne0 (by omega) (by omega)) ?_
        refine lv_eqi ecr ?_
        refine lv_istore (lv' := [(8, .int (nI cq)), (7, .int (nI k)), (6, .int (nI (16 * n))), (5, .int (nI C)), (4, .int (nI R)), (3, .int (uni lev)), (0, .ref (a 0)), (1, .int (nI n)), (2, .int lev)]) hx hb dX5_measureMatrix_98 hl (by decide) rfl (fun ls hl => ?_)
        refine lv_iload hx hb dX5_measureMatrix_100 (lv_at hl 1 rfl) ?_
        refine lv_iload hx hb dX5_measureMatrix_102 (lv_at hl 3 rfl) ?_
        refine lv_idiv hx hb dX5_measureMatrix_104 (nI_ne0 (by omega) (by omega)) ?_
        refine lv_eqi ecd ?_
        refine lv_istore (lv' := [(9, .int (nI rq)), (8, .int (nI cq)), (7, .int (nI k)), (6, .int (nI (16 * n))), (5, .int (nI C)), (4, .int (nI R)), (3, .int (uni lev)), (0, .ref (a 0)), (1, .int (nI n)), (2, .int lev)]) hx hb dX5_measureMatrix_105 hl (by decide) rfl (fun ls hl => ?_)
        refine lv_aload_n hx hb dX5_measureMatrix_107 rfl (lv_at hl 7 rfl) ?_
        refine va_get (D := D) (ci := 5) (v := .ref (a 12)) (C := RX5) (T := TX5) (N := 25) hx hb hts hin_X5 hown hK hP 0 rfl rfl 24 (by decide) hf47 (fun _ h9 => h9) rfl dX5_measureMatrix_108 ?_
        refine lv_iload hx hb dX5_measureMatrix_111 (lv_at hl 3 rfl) ?_
        refine lv_iload hx hb dX5_measureMatrix_113 (lv_at hl 1 rfl) ?_
        refine lv_iadd hx hb dX5_measureMatrix_115 ?_
        refine lv_aload_n hx hb dX5_measureMatrix_116 rfl (lv_at hl 7 rfl) ?_
        refine va_get (D := D) (ci := 5) (v := .ref (a 12)) (C := RX5) (T := TX5) (N := 25) hx hb hts hin_X5 hown hK hP 0 rfl rfl 24 (by decide) hf47 (fun _ h9 => h9) rfl dX5_measureMatrix_117 ?_
        refine lv_iload hx hb dX5_measureMatrix_120 (lv_at hl 3 rfl) ?_
        refine lv_iload hx hb dX5_measureMatrix_122 (lv_at hl 1 rfl) ?_
        refine lv_iadd hx hb dX5_measureMatrix_124 ?_
        refine ra_ld (f := z_2) C0 hP 12 rfl (16 * n + cq) (i_a _ _) (by omega) (by decide) dX5_measureMatrix_125 ?_
        refine lv_aload_n hx hb dX5_measureMatrix_126 rfl (lv_at hl 7 rfl) ?_
        refine va_get (D := D) (ci := 5) (v := .int ((ML r N d ((r 10) (25 * n + k)) (maI lev) 0).1)) (C := RX5) (T := TX5) (N := 25) hx hb hts hin_X5 hown hK hP 0 rfl rfl 19 (by decide) hf96 (fun _ h9 => h9) rfl dX5_measureMatrix_127 ?_
        refine kcS (ans := (mx (z_2 (16 * n + cq)) ((ML r N d ((r 10) (25 * n + k)) (maI lev) 0).1))) C0 hP hS (c_X5_greater l D cI (z_2 (16 * n + cq)) ((ML r N d ((r 10) (25 * n + k)) (maI lev) 0).1) ) (va_cwS 2 hts gX5_measureMatrix_X5_greater rfl rfl rfl (by decide +kernel) ⟨by dsimp only [rmL, rmF, rmN, rmA]; omega, by dsimp only [rmL, rmF, rmN, rmA]; omega⟩) rfl hl.1 rfl (Nat.le_of_ble_eq_true rfl) dX5_measureMatrix_130 ⟨Nat.zero_le _, Nat.zero_le _⟩ (fun H locs hP hS => ?_)
        refine ra_st (f := z_2) C0 hP hD hS 12 rfl (16 * n + cq) (i_a _ _) (by omega) (by decide) dX5_measureMatrix_133 (fun H locs hP hD hS => ?_)
        have hset : ∀ (y19_ y20_ y21_ y22_ y23_ : Int32) (f11_ f12_ : Nat → Int32) (g_ : Nat → Int32), (wM cI a (vU (vU (vU (vU (vU v 19 y19_) 20 y20_) 21 y21_) 22 y22_) 23 y23_) (rU (rU r 11 f11_) 12 f12_)).set 12 (a 12, .inl (cI, 1920, .inl g_)) = (wM cI a (vU (vU (vU (vU (vU v 19 y19_) 20 y20_) 21 y21_) 22 y22_) 23 y23_) (rU (rU r 11 f11_) 12 g_)) := fun _ _ _ _ _ _ _ _ => rfl
        rw [hset] at hP hD
        refine lv_aload_n hx hb dX5_measureMatrix_134 rfl (lv_at hl 7 rfl) ?_
        refine va_get (D := D) (ci := 5) (v := .ref (a 12)) (C := RX5) (T := TX5) (N := 25) hx hb hts hin_X5 hown hK hP 0 rfl rfl 24 (by decide) hf47 (fun _ h9 => h9) rfl dX5_measureMatrix_135 ?_
        refine lv_iload hx hb dX5_measureMatrix_138 (lv_at hl 3 rfl) ?_
        refine lv_iconst (v := 5) hx hb dX5_measureMatrix_140 (by decide) ?_
        refine lv_iadd hx hb dX5_measureMatrix_141 ?_
        refine lv_iload hx hb dX5_measureMatrix_142 (lv_at hl 0 rfl) ?_
        refine lv_iadd hx hb dX5_measureMatrix_144 ?_
        refine lv_aload_n hx hb dX5_measureMatrix_145 rfl (lv_at hl 7 rfl) ?_
        refine va_get (D := D) (ci := 5) (v := .ref (a 12)) (C := RX5) (T := TX5) (N := 25) hx hb hts hin_X5 hown hK hP 0 rfl rfl 24 (by decide) hf47 (fun _ h9 => h9) rfl dX5_measureMatrix_146 ?_
        refine lv_iload hx hb dX5_measureMatrix_149 (lv_at hl 3 rfl) ?_
        refine lv_iconst (v := 5) hx hb dX5_measureMatrix_151 (by decide) ?_
        refine lv_iadd hx hb dX5_measureMatrix_152 ?_
        refine lv_iload hx hb dX5_measureMatrix_153 (lv_at hl 0 rfl) ?_
        refine lv_iadd hx hb dX5_measureMatrix_155 ?_
        refine ra_ld (f := (upd z_2 (16 * n + cq) (mx (z_2 (16 * n + cq)) ((ML r N d ((r 10) (25 * n + k)) (maI lev) 0).1)))) C0 hP 12 rfl (16 * n + 5 + rq) (i_5 _ _) (by omega) (by decide) dX5_measureMatrix_156 ?_
        refine lv_aload_n hx hb dX5_measureMatrix_157 rfl (lv_at hl 7 rfl) ?_
        refine va_get (D := D) (ci := 5) (v := .int ((ML r N d ((r 10) (25 * n + k)) (maI lev) 0).2.1)) (C := RX5) (T := TX5) (N := 25) hx hb hts hin_X5 hown hK hP 0 rfl rfl 20 (by decide) hf99 (fun _ h9 => h9) rfl dX5_measureMatrix_158 ?_
        refine kcS (ans := (mx ((upd z_2 (16 * n + cq) (mx (z_2 (16 * n + cq)) ((ML r N d ((r 10) (25 * n + k)) (maI lev) 0).1))) (16 * n + 5 + rq)) ((ML r N d ((r 10) (25 * n + k)) (maI lev) 0).2.1))) C0 hP hS (c_X5_greater l D cI ((upd z_2 (16 * n + cq) (mx (z_2 (16 * n + cq)) ((ML r N d ((r 10) (25 * n + k)) (maI lev) 0).1))) (16 * n + 5 + rq)) ((ML r N d ((r 10) (25 * n + k)) (maI lev) 0).2.1) ) (va_cwS 2 hts gX5_measureMatrix_X5_greater rfl rfl rfl (by decide +kernel) ⟨by dsimp only [rmL, rmF, rmN, rmA]; omega, by dsimp only [rmL, rmF, rmN, rmA]; omega⟩) rfl hl.1 rfl (Nat.le_of_ble_eq_true rfl) dX5_measureMatrix_161 ⟨Nat.zero_le _, Nat.zero_le _⟩ (fun H locs hP hS => ?_)
        refine ra_st (f := (upd z_2 (16 * n + cq) (mx (z_2 (16 * n + cq)) ((ML r N d ((r 10) (25 * n + k)) (maI lev) 0).1)))) C0 hP hD hS 12 rfl (16 * n + 5 + rq) (i_5 _ _) (by omega) (by decide) dX5_measureMatrix_164 (fun H locs hP hD hS => ?_)
        have hset : ∀ (y19_ y20_ y21_ y22_ y23_ : Int32) (f11_ f12_ : Nat → Int32) (g_ : Nat → Int32), (wM cI a (vU (vU (vU (vU (vU v 19 y19_) 20 y20_) 21 y21_) 22 y22_) 23 y23_) (rU (rU r 11 f11_) 12 f12_)).set 12 (a 12, .inl (cI, 1920, .inl g_)) = (wM cI a (vU (vU (vU (vU (vU v 19 y19_) 20 y20_) 21 y21_) 22 y22_) 23 y23_) (rU (rU r 11 f11_) 12 g_)) := fun _ _ _ _ _ _ _ _ => rfl
        rw [hset] at hP hD
        refine lv_aload_n hx hb dX5_measureMatrix_165 rfl (lv_at hl 7 rfl) ?_
        refine va_get (D := D) (ci := 5) (v := .ref (a 12)) (C := RX5) (T := TX5) (N := 25) hx hb hts hin_X5 hown hK hP 0 rfl rfl 24 (by decide) hf47 (fun _ h9 => h9) rfl dX5_measureMatrix_166 ?_
        refine lv_iload hx hb dX5_measureMatrix_169 (lv_at hl 3 rfl) ?_
        refine lv_bipush (v := 10) hx hb dX5_measureMatrix_171 (by decide) ?_
        refine lv_iadd hx hb dX5_measureMatrix_173 ?_
        refine lv_iload hx hb dX5_measureMatrix_174 (lv_at hl 0 rfl) ?_
        refine lv_iadd hx hb dX5_measureMatrix_176 ?_
        refine lv_aload_n hx hb dX5_measureMatrix_177 rfl (lv_at hl 7 rfl) ?_
        refine va_get (D := D) (ci := 5) (v := .ref (a 12)) (C := RX5) (T := TX5) (N := 25) hx hb hts hin_X5 hown hK hP 0 rfl rfl 24 (by decide) hf47 (fun _ h9 => h9) rfl dX5_measureMatrix_178 ?_
        refine lv_iload hx hb dX5_measureMatrix_181 (lv_at hl 3 rfl) ?_
        refine lv_bipush (v := 10) hx hb dX5_measureMatrix_183 (by decide) ?_
        refine lv_iadd hx hb dX5_measureMatrix_185 ?_
        refine lv_iload hx hb dX5_measureMatrix_186 (lv_at hl 0 rfl) ?_
        refine lv_iadd hx hb dX5_measureMatrix_188 ?_
        refine ra_ld (f := (upd (upd z_2 (16 * n + cq) (mx (z_2 (16 * n + cq)) ((ML r N d ((r 10) (25 * n + k)) (maI lev) 0).1))) (16 * n + 5 + rq) (mx ((upd z_2 (16 * n + cq) (mx (z_2 (16 * n + cq)) ((ML r N d ((r 10) (25 * n + k)) (maI lev) 0).1))) (16 * n + 5 + rq)) ((ML r N d ((r 10) (25 * n + k)) (maI lev) 0).2.1)))) C0 hP 12 rfl (16 * n + 10 + rq) (i_10 _ _) (by omega) (by decide) dX5_measureMatrix_189 ?_
        refine lv_aload_n hx hb dX5_measureMatrix_190 rfl (lv_at hl 7 rfl) ?_
        refine va_get (D := D) (ci := 5) (v := .int ((ML r N d ((r 10) (25 * n + k)) (maI lev) 0).2.2)) (C := RX5) (T := TX5) (N := 25) hx hb hts hin_X5 hown hK hP 0 rfl rfl 21 (by decide) hf102 (fun _ h9 => h9) rfl dX5_measureMatrix_191 ?_
        refine kcS (ans := (mx ((upd (upd z_2 (16 * n + cq) (mx (z_2 (16 * n + cq)) ((ML r N d ((r 10) (25 * n + k)) (maI lev) 0).1))) (16 * n + 5 + rq) (mx ((upd z_2 (16 * n + cq) (mx (z_2 (16 * n + cq)) ((ML r N d ((r 10) (25 * n + k)) (maI lev) 0).1))) (16 * n + 5 + rq)) ((ML r N d ((r 10) (25 * n + k)) (maI lev) 0).2.1))) (16 * n + 10 + rq)) ((ML r N d ((r 10) (25 * n + k)) (maI lev) 0).2.2))) C0 hP hS (c_X5_greater l D cI ((upd (upd z_2 (16 * n + cq) (mx (z_2 (16 * n + cq)) ((ML r N d ((r 10) (25 * n + k)) (maI lev) 0).1))) (16 * n + 5 + rq) (mx ((upd z_2 (16 * n + cq) (mx (z_2 (16 * n + cq)) ((ML r N d ((r 10) (25 * n + k)) (maI lev) 0).1))) (16 * n + 5 + rq)) ((ML r N d ((r 10) (25 * n + k)) (maI lev) 0).2.1))) (16 * n + 10 + rq)) ((ML r N d ((r 10) (25 * n + k)) (maI lev) 0).2.2) ) (va_cwS 2 hts gX5_measureMatrix_X5_greater rfl rfl rfl (by decide +kernel) ⟨by dsimp only [rmL, rmF, rmN, rmA]; omega, by dsimp only [rmL, rmF, rmN, rmA]; omega⟩) rfl hl.1 rfl (Nat.le_of_ble_eq_true rfl) dX5_measureMatrix_194 ⟨Nat.zero_le _, Nat.zero_le _⟩ (fun H locs hP hS => ?_)
        refine ra_st (f := (upd (upd z_2 (16 * n + cq) (mx (z_2 (16 * n + cq)) ((ML r N d ((r 10) (25 * n + k)) (maI lev) 0).1))) (16 * n + 5 + rq) (mx ((upd z_2 (16 * n + cq) (mx (z_2 (16 * n + cq)) ((ML r N d ((r 10) (25 * n + k)) (maI lev) 0).1))) (16 * n + 5 + rq)) ((ML r N d ((r 10) (25 * n + k)) (maI lev) 0).2.1)))) C0 hP hD hS 12 rfl (16 * n + 10 + rq) (i_10 _ _) (by omega) (by decide) dX5_measureMatrix_197 (fun H locs hP hD hS => ?_)
        have hset : ∀ (y19_ y20_ y21_ y22_ y23_ : Int32) (f11_ f12_ : Nat → Int32) (g_ : Nat → Int32), (wM cI a (vU (vU (vU (vU (vU v 19 y19_) 20 y20_) 21 y21_) 22 y22_) 23 y23_) (rU (rU r 11 f11_) 12 f12_)).set 12 (a 12, .inl (cI, 1920, .inl g_)) = (wM cI a (vU (vU (vU (vU (vU v 19 y19_) 20 y20_) 21 y21_) 22 y22_) 23 y23_) (rU (rU r 11 f11_) 12 g_)) := fun _ _ _ _ _ _ _ _ => rfl
        rw [hset] at hP hD
        refine lv_iinc (v := (nI (k + 1))) (lv' := [(7, .int (nI (k + 1))), (9, .int (nI rq)), (8, .int (nI cq)), (6, .int (nI (16 * n))), (5, .int (nI C)), (4, .int (nI R)), (3, .int (uni lev)), (0, .ref (a 0)), (1, .int (nI n)), (2, .int lev)]) hx hb dX5_measureMatrix_198 hl (k := 2) rfl (k_inc k) (by decide) rfl (fun ls hl => ?_)
        refine lv_goto (tgt := 57) hx hb dX5_measureMatrix_201 (by decide) ?_
        have hzn : ∀ j, j < 16 → z_2 (16 * n + j) = maS (ML r N d) r n C lev k j := fun j hj => (hz_2 n (by omega) j hj).trans (hb1 j hj)
        have hb2 : ∀ j, j < 16 → (upd (upd (upd z_2 (16 * n + cq) (mx (z_2 (16 * n + cq)) ((ML r N d ((r 10) (25 * n + k)) (maI lev) 0).1))) (16 * n + 5 + rq) (mx ((upd z_2 (16 * n + cq) (mx (z_2 (16 * n + cq)) ((ML r N d ((r 10) (25 * n + k)) (maI lev) 0).1))) (16 * n + 5 + rq)) ((ML r N d ((r 10) (25 * n + k)) (maI lev) 0).2.1))) (16 * n + 10 + rq) (mx ((upd (upd z_2 (16 * n + cq) (mx (z_2 (16 * n + cq)) ((ML r N d ((r 10) (25 * n + k)) (maI lev) 0).1))) (16 * n + 5 + rq) (mx ((upd z_2 (16 * n + cq) (mx (z_2 (16 * n + cq)) ((ML r N d ((r 10) (25 * n + k)) (maI lev) 0).1))) (16 * n + 5 + rq)) ((ML r N d ((r 10) (25 * n + k)) (maI lev) 0).2.1))) (16 * n + 10 + rq)) ((ML r N d ((r 10) (25 * n + k)) (maI lev) 0).2.2))) (16 * n + j) = maS (ML r N d) r n C lev (k + 1) j := ma_turn ecq erq hmC hkC hzn
        have hb3 : (∀ i4, rk (r 2 n) < rk (r 2 i4) → ∀ k4, k4 < 16 → (upd (upd (upd z_2 (16 * n + cq) (mx (z_2 (16 * n + cq)) ((ML r N d ((r 10) (25 * n + k)) (maI lev) 0).1))) (16 * n + 5 + rq) (mx ((upd z_2 (16 * n + cq) (mx (z_2 (16 * n + cq)) ((ML r N d ((r 10) (25 * n + k)) (maI lev) 0).1))) (16 * n + 5 + rq)) ((ML r N d ((r 10) (25 * n + k)) (maI lev) 0).2.1))) (16 * n + 10 + rq) (mx ((upd (upd z_2 (16 * n + cq) (mx (z_2 (16 * n + cq)) ((ML r N d ((r 10) (25 * n + k)) (maI lev) 0).1))) (16 * n + 5 + rq) (mx ((upd z_2 (16 * n + cq) (mx (z_2 (16 * n + cq)) ((ML r N d ((r 10) (25 * n + k)) (maI lev) 0).1))) (16 * n + 5 + rq)) ((ML r N d ((r 10) (25 * n + k)) (maI lev) 0).2.1))) (16 * n + 10 + rq)) ((ML r N d ((r 10) (25 * n + k)) (maI lev) 0).2.2))) (16 * i4 + k4) = sz (16 * i4 + k4)) := fun i hi k2 hk2 => by
          have hin : ¬ i = n := fun q => by rw [q] at hi; omega
          rw [show 16 * n + 10 + rq = 16 * n + (10 + rq) by omega, show 16 * n + 5 + rq = 16 * n + (5 + rq) by omega, upd_blk hk2 (by omega) hin, upd_blk hk2 (by omega) hin, upd_blk hk2 (by omega) hin, hz_2 i (by omega) k2 hk2]
          exact hb0 i hi k2 hk2
        exact ih ((k + 1), (ML r N d ((r 10) (25 * n + k)) (maI lev) 0).1, (ML r N d ((r 10) (25 * n + k)) (maI lev) 0).2.1, (ML r N d ((r 10) (25 * n + k)) (maI lev) 0).2.2, u_2, e_2, (upd (upd (upd z_2 (16 * n + cq) (mx (z_2 (16 * n + cq)) ((ML r N d ((r 10) (25 * n + k)) (maI lev) 0).1))) (16 * n + 5 + rq) (mx ((upd z_2 (16 * n + cq) (mx (z_2 (16 * n + cq)) ((ML r N d ((r 10) (25 * n + k)) (maI lev) 0).1))) (16 * n + 5 + rq)) ((ML r N d ((r 10) (25 * n + k)) (maI lev) 0).2.1))) (16 * n + 10 + rq) (mx ((upd (upd z_2 (16 * n + cq) (mx (z_2 (16 * n + cq)) ((ML r N d ((r 10) (25 * n + k)) (maI lev) 0).1))) (16 * n + 5 + rq) (mx ((upd z_2 (16 * n + cq) (mx (z_2 (16 * n + cq)) ((ML r N d ((r 10) (25 * n + k)) (maI lev) 0).1))) (16 * n + 5 + rq)) ((ML r N d ((r 10) (25 * n + k)) (maI lev) 0).2.1))) (16 * n + 10 + rq)) ((ML r N d ((r 10) (25 * n + k)) (maI lev) 0).2.2)))) _ _ _ hP hD hS (lv_sub hl [0, 3, 4, 5, 6, 7, 8, 9] rfl) ⟨hlt, hb2, hb3⟩ (show R * C - (k + 1) < R * C - k by omega)
  · skip
    have hlt : k < 16 := Nat.not_le.mp (fun q => c_34 (nI_le (a := 16) q (by omega)))
    refine lv_aload_n hx hb dX5_measureMatrix_37 rfl (lv_at hl 5 rfl) ?_
    refine va_get (D := D) (ci := 5) (v := .ref (a 12)) (C := RX5) (T := TX5) (N := 25) hx hb hts hin_X5 hown hK hP 0 rfl rfl 24 (by decide) hf47 (fun _ h9 => h9) rfl dX5_measureMatrix_38 ?_
    refine lv_iload hx hb dX5_measureMatrix_41 (lv_at hl 1 rfl) ?_
    refine lv_iload hx hb dX5_measureMatrix_43 (lv_at hl 0 rfl) ?_
    refine lv_iadd hx hb dX5_measureMatrix_45 ?_
    refine lv_iconst (v := 0) hx hb dX5_measureMatrix_46 (by decide) ?_
    refine ra_st (f := (pz sz (16 * n) k)) C0 hP hD hS 12 rfl (16 * n + k) (i_a _ _) (by omega) (by decide) dX5_measureMatrix_47 (fun H locs hP hD hS => ?_)
    have hset : ∀ (y19_ y20_ y21_ y22_ y23_ : Int32) (f11_ f12_ : Nat → Int32) (g_ : Nat → Int32), (wM cI a (vU (vU (vU (vU (vU v 19 y19_) 20 y20_) 21 y21_) 22 y22_) 23 y23_) (rU (rU r 11 f11_) 12 f12_)).set 12 (a 12, .inl (cI, 1920, .inl g_)) = (wM cI a (vU (vU (vU (vU (vU v 19 y19_) 20 y20_) 21 y21_) 22 y22_) 23 y23_) (rU (rU r 11 f11_) 12 g_)) := fun _ _ _ _ _ _ _ _ => rfl
    rw [hset] at hP hD
    refine lv_iinc (v := (nI (k + 1))) (lv' := [(7, .int (nI (k + 1))), (6, .int (nI (16 * n))), (5, .int (nI C)), (4, .int (nI R)), (3, .int (uni lev)), (0, .ref (a 0)), (1, .int (nI n)), (2, .int lev)]) hx hb dX5_measureMatrix_48 hl (k := 0) rfl (k_inc k) (by decide) rfl (fun ls hl => ?_)
    refine lv_goto (tgt := 30) hx hb dX5_measureMatrix_51 (by decide) ?_
    exact ih (k + 1) _ _ _ (by rw [← pz_s]; exact hP) (by rw [← pz_s]; exact hD) hS (lv_sub hl [0, 1, 2, 3, 4, 5, 6, 7] rfl) hlt (by omega)
