/-- the reference's measuring of a matrix node -/
def HMA (l : Launch) (D : va_G) (cI : ClassId) (a : Nat → Nat) (v : Nat → Int32) (r : Nat → Nat → Int32) (N : Nat) (rk : Int32 → Nat) (d n : Nat) : Prop :=
  ∀ (R C : Nat) (lev : Int32) (it sz : Nat → Int32) (w0 h0 d0 u0 e0 : Int32), r 5 n = nI R → r 6 n = nI C → 1 ≤ R → R ≤ 5 → 1 ≤ C → C ≤ 5 → (∀ k, k < R * C → rk (r 10 (25 * n + k)) < rk (r 2 n)) → KV l D cI yX5_measureMatrix wsX5_measureMatrix (rmF d) [.ref (a 0), .int (nI n), .int lev] (wM cI a (v5 v w0 h0 d0 u0 e0) (r2 r it sz)) (fun z : Int32 × Int32 × (Nat → Int32) => wM cI a (v5 v (mMa (ML r N d) r n lev).1 (mMa (ML r N d) r n lev).2.1 (mMa (ML r N d) r n lev).2.2 z.1 z.2.1) (r2 r it z.2.2)) (fun z => (∀ i4, rk (r 2 n) < rk (r 2 i4) → ∀ k4, k4 < 16 → z.2.2 (16 * i4 + k4) = sz (16 * i4 + k4)) ∧ (∀ j, j < 15 → z.2.2 (16 * n + j) = maS (ML r N d) r n C lev (R * C) j) ∧ z.2.2 (16 * n + 15) = maT (ML r N d) r n R C lev)

set_option maxHeartbeats 1500000 in
theorem pf_X5_measureNucleus_0 (a : Nat → Nat) (v : Nat → Int32) (r : Nat → Nat → Int32) (n N d : Nat) (rk : Int32 → Nat) (lev cr : Int32) (it sz : Nat → Int32) (w0 h0 d0 u0 e0 : Int32) (hN : v 4 = nI N) (hN1 : N ≤ 120) (hn : n < N) (hd : rk (r 2 n) ≤ d) (hR : HRK r N rk) (hat : ¬ r 3 n = 4) (c_6 : ¬ (((r 3) n) = 0)) (c_77 : ¬ (((r 3) n) = 1)) (c_97 : ¬ (((r 3) n) = 2)) (u_1 e_1 : Int32) (z_1 : Nat → Int32) : (mMa (ML r N d) r n lev).1 = (mNu (ML r N d) r n lev cr).1 := by
  subst_vars; first | (rw [mNu, if_neg c_6, if_neg c_77, if_neg c_97]; done) | (rw [mNu, if_neg c_6, if_neg c_77, if_neg c_97]; rfl)
set_option maxHeartbeats 1500000 in
theorem pf_X5_measureNucleus_1 (a : Nat → Nat) (v : Nat → Int32) (r : Nat → Nat → Int32) (n N d : Nat) (rk : Int32 → Nat) (lev cr : Int32) (it sz : Nat → Int32) (w0 h0 d0 u0 e0 : Int32) (hN : v 4 = nI N) (hN1 : N ≤ 120) (hn : n < N) (hd : rk (r 2 n) ≤ d) (hR : HRK r N rk) (hat : ¬ r 3 n = 4) (c_6 : ¬ (((r 3) n) = 0)) (c_77 : ¬ (((r 3) n) = 1)) (c_97 : ¬ (((r 3) n) = 2)) (u_1 e_1 : Int32) (z_1 : Nat → Int32) : (mMa (ML r N d) r n lev).2.1 = (mNu (ML r N d) r n lev cr).2.1 := by
  subst_vars; first | (rw [mNu, if_neg c_6, if_neg c_77, if_neg c_97]; done) | (rw [mNu, if_neg c_6, if_neg c_77, if_neg c_97]; rfl)
set_option maxHeartbeats 1500000 in
theorem pf_X5_measureNucleus_2 (a : Nat → Nat) (v : Nat → Int32) (r : Nat → Nat → Int32) (n N d : Nat) (rk : Int32 → Nat) (lev cr : Int32) (it sz : Nat → Int32) (w0 h0 d0 u0 e0 : Int32) (hN : v 4 = nI N) (hN1 : N ≤ 120) (hn : n < N) (hd : rk (r 2 n) ≤ d) (hR : HRK r N rk) (hat : ¬ r 3 n = 4) (c_6 : ¬ (((r 3) n) = 0)) (c_77 : ¬ (((r 3) n) = 1)) (c_97 : ¬ (((r 3) n) = 2)) (u_1 e_1 : Int32) (z_1 : Nat → Int32) : (mMa (ML r N d) r n lev).2.2 = (mNu (ML r N d) r n lev cr).2.2 := by
  subst_vars; first | (rw [mNu, if_neg c_6, if_neg c_77, if_neg c_97]; done) | (rw [mNu, if_neg c_6, if_neg c_77, if_neg c_97]; rfl)
set_option maxHeartbeats 1500000 in
theorem pf_X5_measureNucleus_3 (a : Nat → Nat) (v : Nat → Int32) (r : Nat → Nat → Int32) (n N d : Nat) (rk : Int32 → Nat) (lev cr : Int32) (it sz : Nat → Int32) (w0 h0 d0 u0 e0 : Int32) (hN : v 4 = nI N) (hN1 : N ≤ 120) (hn : n < N) (hd : rk (r 2 n) ≤ d) (hR : HRK r N rk) (hat : ¬ r 3 n = 4) (c_6 : ¬ (((r 3) n) = 0)) (c_77 : ¬ (((r 3) n) = 1)) (c_97 : ((r 3) n) = 2) (u_2 e_2 : Int32) (z_2 : Nat → Int32) : (mFe (ML r N d) r n lev cr).1 = (mNu (ML r N d) r n lev cr).1 := by
  subst_vars; first | (rw [mNu, if_neg c_6, if_neg c_77, if_pos c_97]; done) | (rw [mNu, if_neg c_6, if_neg c_77, if_pos c_97]; rfl)
set_option maxHeartbeats 1500000 in
theorem pf_X5_measureNucleus_4 (a : Nat → Nat) (v : Nat → Int32) (r : Nat → Nat → Int32) (n N d : Nat) (rk : Int32 → Nat) (lev cr : Int32) (it sz : Nat → Int32) (w0 h0 d0 u0 e0 : Int32) (hN : v 4 = nI N) (hN1 : N ≤ 120) (hn : n < N) (hd : rk (r 2 n) ≤ d) (hR : HRK r N rk) (hat : ¬ r 3 n = 4) (c_6 : ¬ (((r 3) n) = 0)) (c_77 : ¬ (((r 3) n) = 1)) (c_97 : ((r 3) n) = 2) (u_2 e_2 : Int32) (z_2 : Nat → Int32) : (mFe (ML r N d) r n lev cr).2.1 = (mNu (ML r N d) r n lev cr).2.1 := by
  subst_vars; first | (rw [mNu, if_neg c_6, if_neg c_77, if_pos c_97]; done) | (rw [mNu, if_neg c_6, if_neg c_77, if_pos c_97]; rfl)
set_option maxHeartbeats 1500000 in
theorem pf_X5_measureNucleus_5 (a : Nat → Nat) (v : Nat → Int32) (r : Nat → Nat → Int32) (n N d : Nat) (rk : Int32 → Nat) (lev cr : Int32) (it sz : Nat → Int32) (w0 h0 d0 u0 e0 : Int32) (hN : v 4 = nI N) (hN1 : N ≤ 120) (hn : n < N) (hd : rk (r 2 n) ≤ d) (hR : HRK r N rk) (hat : ¬ r 3 n = 4) (c_6 : ¬ (((r 3) n) = 0)) (c_77 : ¬ (((r 3) n) = 1)) (c_97 : ((r 3) n) = 2) (u_2 e_2 : Int32) (z_2 : Nat → Int32) : (mFe (ML r N d) r n lev cr).2.2 = (mNu (ML r N d) r n lev cr).2.2 := by
  subst_vars; first | (rw [mNu, if_neg c_6, if_neg c_77, if_pos c_97]; done) | (rw [mNu, if_neg c_6, if_neg c_77, if_pos c_97]; rfl)
set_option maxHeartbeats 1500000 in
theorem pf_X5_measureNucleus_6 (a : Nat → Nat) (v : Nat → Int32) (r : Nat → Nat → Int32) (n N d : Nat) (rk : Int32 → Nat) (lev cr : Int32) (it sz : Nat → Int32) (w0 h0 d0 u0 e0 : Int32) (hN : v 4 = nI N) (hN1 : N ≤ 120) (hn : n < N) (hd : rk (r 2 n) ≤ d) (hR : HRK r N rk) (hat : ¬ r 3 n = 4) (c_6 : ¬ (((r 3) n) = 0)) (c_77 : ((r 3) n) = 1) (z_3 : Nat → Int32) : (mFr (ML r N d) r n lev cr).1 = (mNu (ML r N d) r n lev cr).1 := by
  subst_vars; first | (rw [mNu, if_neg c_6, if_pos c_77]; done) | (rw [mNu, if_neg c_6, if_pos c_77]; rfl)
set_option maxHeartbeats 1500000 in
theorem pf_X5_measureNucleus_7 (a : Nat → Nat) (v : Nat → Int32) (r : Nat → Nat → Int32) (n N d : Nat) (rk : Int32 → Nat) (lev cr : Int32) (it sz : Nat → Int32) (w0 h0 d0 u0 e0 : Int32) (hN : v 4 = nI N) (hN1 : N ≤ 120) (hn : n < N) (hd : rk (r 2 n) ≤ d) (hR : HRK r N rk) (hat : ¬ r 3 n = 4) (c_6 : ¬ (((r 3) n) = 0)) (c_77 : ((r 3) n) = 1) (z_3 : Nat → Int32) : (mFr (ML r N d) r n lev cr).2.1 = (mNu (ML r N d) r n lev cr).2.1 := by
  subst_vars; first | (rw [mNu, if_neg c_6, if_pos c_77]; done) | (rw [mNu, if_neg c_6, if_pos c_77]; rfl)
set_option maxHeartbeats 1500000 in
theorem pf_X5_measureNucleus_8 (a : Nat → Nat) (v : Nat → Int32) (r : Nat → Nat → Int32) (n N d : Nat) (rk : Int32 → Nat) (lev cr : Int32) (it sz : Nat → Int32) (w0 h0 d0 u0 e0 : Int32) (hN : v 4 = nI N) (hN1 : N ≤ 120) (hn : n < N) (hd : rk (r 2 n) ≤ d) (hR : HRK r N rk) (hat : ¬ r 3 n = 4) (c_6 : ¬ (((r 3) n) = 0)) (c_77 : ((r 3) n) = 1) (z_3 : Nat → Int32) : (mFr (ML r N d) r n lev cr).2.2 = (mNu (ML r N d) r n lev cr).2.2 := by
  subst_vars; first | (rw [mNu, if_neg c_6, if_pos c_77]; done) | (rw [mNu, if_neg c_6, if_pos c_77]; rfl)
set_option maxHeartbeats 1500000 in
theorem pf_X5_measureNucleus_9 (a : Nat → Nat) (v : Nat → Int32) (r : Nat → Nat → Int32) (n N d : Nat) (rk : Int32 → Nat) (lev cr : Int32) (it sz : Nat → Int32) (w0 h0 d0 u0 e0 : Int32) (hN : v 4 = nI N) (hN1 : N ≤ 120) (hn : n < N) (hd : rk (r 2 n) ≤ d) (hR : HRK r N rk) (hat : ¬ r 3 n = 4) (c_6 : ((r 3) n) = 0) (x_4 : Int32) (ex_4 : x_4 = (if (((r 5) n) - ((r 5) n) / 4 * 4) = 3 then (2 * (sgz ((r 4) n) lev)) else (0 : Int32))) : ((sgz ((r 4) n) lev) * (4 + (((r 5) n) - ((r 5) n) / 5 * 5))) = (mNu (ML r N d) r n lev cr).1 := by
  subst_vars; first | (rw [mNu, if_pos c_6]; done) | (rw [mNu, if_pos c_6]; rfl)
set_option maxHeartbeats 1500000 in
theorem pf_X5_measureNucleus_10 (a : Nat → Nat) (v : Nat → Int32) (r : Nat → Nat → Int32) (n N d : Nat) (rk : Int32 → Nat) (lev cr : Int32) (it sz : Nat → Int32) (w0 h0 d0 u0 e0 : Int32) (hN : v 4 = nI N) (hN1 : N ≤ 120) (hn : n < N) (hd : rk (r 2 n) ≤ d) (hR : HRK r N rk) (hat : ¬ r 3 n = 4) (c_6 : ((r 3) n) = 0) (x_4 : Int32) (ex_4 : x_4 = (if (((r 5) n) - ((r 5) n) / 4 * 4) = 3 then (2 * (sgz ((r 4) n) lev)) else (0 : Int32))) : ((sgz ((r 4) n) lev) * (5 + (((r 5) n) - ((r 5) n) / 3 * 3))) = (mNu (ML r N d) r n lev cr).2.1 := by
  subst_vars; first | (rw [mNu, if_pos c_6]; done) | (rw [mNu, if_pos c_6]; rfl)
set_option maxHeartbeats 1500000 in
theorem pf_X5_measureNucleus_11 (a : Nat → Nat) (v : Nat → Int32) (r : Nat → Nat → Int32) (n N d : Nat) (rk : Int32 → Nat) (lev cr : Int32) (it sz : Nat → Int32) (w0 h0 d0 u0 e0 : Int32) (hN : v 4 = nI N) (hN1 : N ≤ 120) (hn : n < N) (hd : rk (r 2 n) ≤ d) (hR : HRK r N rk) (hat : ¬ r 3 n = 4) (c_6 : ((r 3) n) = 0) (x_4 : Int32) (ex_4 : x_4 = (if (((r 5) n) - ((r 5) n) / 4 * 4) = 3 then (2 * (sgz ((r 4) n) lev)) else (0 : Int32))) : x_4 = (mNu (ML r N d) r n lev cr).2.2 := by
  subst_vars; first | (rw [mNu, if_pos c_6]; done) | (rw [mNu, if_pos c_6]; rfl)
set_option maxHeartbeats 1500000 in
set_option maxRecDepth 100000 in
theorem c_X5_measureNucleus (l : Launch) (D : va_G) (cI : ClassId) (a : Nat → Nat) (v : Nat → Int32) (r : Nat → Nat → Int32) (n N d : Nat) (rk : Int32 → Nat) (lev cr : Int32) (it sz : Nat → Int32) (w0 h0 d0 u0 e0 : Int32) (hM : HML l D cI a v r N rk d) (hN : v 4 = nI N) (hN1 : N ≤ 120) (hn : n < N) (hd : rk (r 2 n) ≤ d) (hR : HRK r N rk) (hat : ¬ r 3 n = 4) (hMa : HMA l D cI a v r N rk d n) : KV l D cI yX5_measureNucleus wsX5_measureNucleus (rmN d) [.ref (a 0), .int (nI n), .int lev, .int cr] (wM cI a (vU (vU (vU (vU (vU v 19 w0) 20 h0) 21 d0) 22 u0) 23 e0) (rU (rU r 11 it) 12 sz)) (fun z : Int32 × Int32 × (Nat → Int32) => wM cI a (v5 v (mNu (ML r N d) r n lev cr).1 (mNu (ML r N d) r n lev cr).2.1 (mNu (ML r N d) r n lev cr).2.2 z.1 z.2.1) (r2 r it z.2.2)) (fun z => ∀ i, rk (r 2 n) < rk (r 2 i) → ∀ k, k < 16 → z.2.2 (16 * i + k) = sz (16 * i + k)) := by
  refine KV.of (cc := cX5_measureNucleus) (nL := 6) (ret := none) (by decide) rfl (Nat.le_of_ble_eq_true rfl) ?_
  intro pg9 en9 s m args below meth cd9 A ls C0 hP hD hS hl
  have hx := C0.1.1
  have hb := C0.1.2.1
  have hml := C0.1.2.2.1
  have hown : s.vm.findClass RX5 = some m.cls := C0.1.2.2.2.1
  have hts : ∀ w ∈ wsX5_measureNucleus, w.before args s = true := C0.1.2.2.2.2
  have hK := C0.2.2.2.1
  have hin_X5 : ∀ w ∈ wsX50, w ∈ wsX5_measureNucleus := fun w h => List.mem_cons_of_mem _ (List.mem_append_right _ h)
  have hf20 : (Cond.fieldLink RX5 20 "FormulaListsModel" "what" "[I").before args s = true := hts _ (by decide +kernel)
  have hf23 : (Cond.fieldLink RX5 23 "FormulaListsModel" "kinds" "[I").before args s = true := hts _ (by decide +kernel)
  have hf26 : (Cond.fieldLink RX5 26 "FormulaListsModel" "one" "[I").before args s = true := hts _ (by decide +kernel)
  have hl : lv_has ls 6 [(0, .ref (a 0)), (1, .int (nI n)), (2, .int lev), (3, .int cr)] := hl
  have hP : va_P D vwCl (wM cI a (vU (vU (vU (vU (vU v 19 w0) 20 h0) 21 d0) 22 u0) 23 e0) (rU (rU r 11 it) 12 sz)) s.heap := hP
  obtain ⟨hf0, hq1, hq2, hq3i, -, -⟩ := hR n hn hat
  refine lv_aload_n hx hb dX5_measureNucleus_0 rfl (lv_at hl 0 rfl) ?_
  refine va_get (D := D) (ci := 5) (v := .ref (a 3)) (C := RX5) (T := TX5) (N := 25) hx hb hts hin_X5 hown hK hP 0 rfl rfl 6 (by decide) hf20 (fun _ h9 => h9) rfl dX5_measureNucleus_1 ?_
  refine lv_iload_n hx hb dX5_measureNucleus_4 rfl (lv_at hl 1 rfl) ?_
  refine ra_ld (f := (r 3)) C0 hP 3 rfl n rfl (by omega) (by decide) dX5_measureNucleus_5 ?_
  refine lv_if_ne (tgt := 70) hx hb dX5_measureNucleus_6 (by decide) (fun c_6 => ?_) (fun c_6 => ?_)
  · skip
    refine lv_aload_n hx hb dX5_measureNucleus_70 rfl (lv_at hl 0 rfl) ?_
    refine va_get (D := D) (ci := 5) (v := .ref (a 3)) (C := RX5) (T := TX5) (N := 25) hx hb hts hin_X5 hown hK hP 0 rfl rfl 6 (by decide) hf20 (fun _ h9 => h9) rfl dX5_measureNucleus_71 ?_
    refine lv_iload_n hx hb dX5_measureNucleus_74 rfl (lv_at hl 1 rfl) ?_
    refine ra_ld (f := (r 3)) C0 hP 3 rfl n rfl (by omega) (by decide) dX5_measureNucleus_75 ?_
    refine lv_iconst (v := 1) hx hb dX5_measureNucleus_76 (by decide) ?_
    refine lv_icmp_ne (tgt := 90) hx hb dX5_measureNucleus_77 (by decide) (fun c_77 => ?_) (fun c_77 => ?_)
    · skip
      refine lv_aload_n hx hb dX5_measureNucleus_90 rfl (lv_at hl 0 rfl) ?_
      refine va_get (D := D) (ci := 5) (v := .ref (a 3)) (C := RX5) (T := TX5) (N := 25) hx hb hts hin_X5 hown hK hP 0 rfl rfl 6 (by decide) hf20 (fun _ h9 => h9) rfl dX5_measureNucleus_91 ?_
      refine lv_iload_n hx hb dX5_measureNucleus_94 rfl (lv_at hl 1 rfl) ?_
      refine ra_ld (f := (r 3)) C0 hP 3 rfl n rfl (by omega) (by decide) dX5_measureNucleus_95 ?_
      refine lv_iconst (v := 2) hx hb dX5_measureNucleus_96 (by decide) ?_
      refine lv_icmp_ne (tgt := 110) hx hb dX5_measureNucleus_97 (by decide) (fun c_97 => ?_) (fun c_97 => ?_)
      · skip
        obtain ⟨R, C, h35, h36, h3a, h3b, h3c, h3d, h3e⟩ := hq3i (by rcases hf0 with q | q | q | q; exact absurd q c_6; exact absurd q c_77; exact absurd q c_97; exact q)
        refine lv_aload_n hx hb dX5_measureNucleus_110 rfl (lv_at hl 0 rfl) ?_
        refine lv_iload_n hx hb dX5_measureNucleus_111 rfl (lv_at hl 1 rfl) ?_
        refine lv_iload_n hx hb dX5_measureNucleus_112 rfl (lv_at hl 2 rfl) ?_
        refine kcVv C0 hP hD hS (hMa R C lev it sz w0 h0 d0 u0 e0 h35 h36 h3a h3b h3c h3d h3e) (cwV 2 hts gX5_measureNucleus_X5_measureMatrix rfl rfl rfl (by decide +kernel) ⟨by dsimp only [rmL, rmF, rmN, rmA]; omega, by dsimp only [rmL, rmF, rmN, rmA]; omega⟩) 0 5 rfl rfl rfl hl.1 rfl (Nat.le_of_ble_eq_true rfl) dX5_measureNucleus_113 ⟨Nat.zero_le _, Nat.zero_le _⟩ (fun u H locs hq hP hD hS => ?_)
        obtain ⟨u_1, e_1, z_1⟩ := u
        have hz_1 : ∀ i, rk (r 2 n) < rk (r 2 i) → ∀ k, k < 16 → z_1 (16 * i + k) = sz (16 * i + k) := hq.1
        have hP : va_P D vwCl (wM cI a (vU (vU (vU (vU (vU v 19 ((mMa (ML r N d) r n lev).1)) 20 ((mMa (ML r N d) r n lev).2.1)) 21 ((mMa (ML r N d) r n lev).2.2)) 22 u_1) 23 e_1) (rU (rU r 11 it) 12 z_1)) H := hP
        have hD : va_D A (wM cI a (vU (vU (vU (vU (vU v 19 ((mMa (ML r N d) r n lev).1)) 20 ((mMa (ML r N d) r n lev).2.1)) 21 ((mMa (ML r N d) r n lev).2.2)) 22 u_1) 23 e_1) (rU (rU r 11 it) 12 z_1)) := hD
        have q19 : (mMa (ML r N d) r n lev).1 = (mNu (ML r N d) r n lev cr).1 := (pf_X5_measureNucleus_0 a v r n N d rk lev cr it sz w0 h0 d0 u0 e0 hN hN1 hn hd hR hat c_6 c_77 c_97 u_1 e_1 z_1)
        have q20 : (mMa (ML r N d) r n lev).2.1 = (mNu (ML r N d) r n lev cr).2.1 := (pf_X5_measureNucleus_1 a v r n N d rk lev cr it sz w0 h0 d0 u0 e0 hN hN1 hn hd hR hat c_6 c_77 c_97 u_1 e_1 z_1)
        have q21 : (mMa (ML r N d) r n lev).2.2 = (mNu (ML r N d) r n lev cr).2.2 := (pf_X5_measureNucleus_2 a v r n N d rk lev cr it sz w0 h0 d0 u0 e0 hN hN1 hn hd hR hat c_6 c_77 c_97 u_1 e_1 z_1)
        have hw : (wM cI a (vU (vU (vU (vU (vU v 19 ((mMa (ML r N d) r n lev).1)) 20 ((mMa (ML r N d) r n lev).2.1)) 21 ((mMa (ML r N d) r n lev).2.2)) 22 u_1) 23 e_1) (rU (rU r 11 it) 12 z_1)) = (wM cI a (vU (vU (vU (vU (vU v 19 ((mNu (ML r N d) r n lev cr).1)) 20 ((mNu (ML r N d) r n lev cr).2.1)) 21 ((mNu (ML r N d) r n lev cr).2.2)) 22 u_1) 23 e_1) (rU (rU r 11 it) 12 z_1)) := by rw [q19, q20, q21]
        have hP : va_P D vwCl (wM cI a (vU (vU (vU (vU (vU v 19 ((mNu (ML r N d) r n lev cr).1)) 20 ((mNu (ML r N d) r n lev cr).2.1)) 21 ((mNu (ML r N d) r n lev cr).2.2)) 22 u_1) 23 e_1) (rU (rU r 11 it) 12 z_1)) H := hw ▸ hP
        have hD : va_D A (wM cI a (vU (vU (vU (vU (vU v 19 ((mNu (ML r N d) r n lev cr).1)) 20 ((mNu (ML r N d) r n lev cr).2.1)) 21 ((mNu (ML r N d) r n lev cr).2.2)) 22 u_1) 23 e_1) (rU (rU r 11 it) 12 z_1)) := hw ▸ hD
        exact k_vret C0 (u_1, e_1, z_1) hP hD hS (fun i hi k hk => by show z_1 (16 * i + k) = sz (16 * i + k); rw [hz_1 i (by omega) k hk]) dX5_measureNucleus_116
      · skip
        refine lv_aload_n hx hb dX5_measureNucleus_100 rfl (lv_at hl 0 rfl) ?_
        refine lv_iload_n hx hb dX5_measureNucleus_101 rfl (lv_at hl 1 rfl) ?_
        refine lv_iload_n hx hb dX5_measureNucleus_102 rfl (lv_at hl 2 rfl) ?_
        refine lv_iload_n hx hb dX5_measureNucleus_103 rfl (lv_at hl 3 rfl) ?_
        refine kcVv C0 hP hD hS (c_X5_measureFence l D cI a v r n N d rk lev cr it sz w0 h0 d0 u0 e0 hM hN hN1 hn hd (hq2 c_97)) (cwV 3 hts gX5_measureNucleus_X5_measureFence rfl rfl rfl (by decide +kernel) ⟨by dsimp only [rmL, rmF, rmN, rmA]; omega, by dsimp only [rmL, rmF, rmN, rmA]; omega⟩) 0 5 rfl rfl rfl hl.1 rfl (Nat.le_of_ble_eq_true rfl) dX5_measureNucleus_104 ⟨Nat.zero_le _, Nat.zero_le _⟩ (fun u H locs hq hP hD hS => ?_)
        obtain ⟨u_2, e_2, z_2⟩ := u
        have hz_2 : ∀ i, rk (r 2 n) < rk (r 2 i) → ∀ k, k < 16 → z_2 (16 * i + k) = sz (16 * i + k) := hq
        have hP : va_P D vwCl (wM cI a (vU (vU (vU (vU (vU v 19 ((mFe (ML r N d) r n lev cr).1)) 20 ((mFe (ML r N d) r n lev cr).2.1)) 21 ((mFe (ML r N d) r n lev cr).2.2)) 22 u_2) 23 e_2) (rU (rU r 11 it) 12 z_2)) H := hP
        have hD : va_D A (wM cI a (vU (vU (vU (vU (vU v 19 ((mFe (ML r N d) r n lev cr).1)) 20 ((mFe (ML r N d) r n lev cr).2.1)) 21 ((mFe (ML r N d) r n lev cr).2.2)) 22 u_2) 23 e_2) (rU (rU r 11 it) 12 z_2)) := hD
        refine lv_goto (tgt := 116) hx hb dX5_measureNucleus_107 (by decide) ?_
        have q19 : (mFe (ML r N d) r n lev cr).1 = (mNu (ML r N d) r n lev cr).1 := (pf_X5_measureNucleus_3 a v r n N d rk lev cr it sz w0 h0 d0 u0 e0 hN hN1 hn hd hR hat c_6 c_77 c_97 u_2 e_2 z_2)
        have q20 : (mFe (ML r N d) r n lev cr).2.1 = (mNu (ML r N d) r n lev cr).2.1 := (pf_X5_measureNucleus_4 a v r n N d rk lev cr it sz w0 h0 d0 u0 e0 hN hN1 hn hd hR hat c_6 c_77 c_97 u_2 e_2 z_2)
        have q21 : (mFe (ML r N d) r n lev cr).2.2 = (mNu (ML r N d) r n lev cr).2.2 := (pf_X5_measureNucleus_5 a v r n N d rk lev cr it sz w0 h0 d0 u0 e0 hN hN1 hn hd hR hat c_6 c_77 c_97 u_2 e_2 z_2)
        have hw : (wM cI a (vU (vU (vU (vU (vU v 19 ((mFe (ML r N d) r n lev cr).1)) 20 ((mFe (ML r N d) r n lev cr).2.1)) 21 ((mFe (ML r N d) r n lev cr).2.2)) 22 u_2) 23 e_2) (rU (rU r 11 it) 12 z_2)) = (wM cI a (vU (vU (vU (vU (vU v 19 ((mNu (ML r N d) r n lev cr).1)) 20 ((mNu (ML r N d) r n lev cr).2.1)) 21 ((mNu (ML r N d) r n lev cr).2.2)) 22 u_2) 23 e_2) (rU (rU r 11 it) 12 z_2)) := by rw [q19, q20, q21]
        have hP : va_P D vwCl (wM cI a (vU (vU (vU (vU (vU v 19 ((mNu (ML r N d) r n lev cr).1)) 20 ((mNu (ML r N d) r n lev cr).2.1)) 21 ((mNu (ML r N d) r n lev cr).2.2)) 22 u_2) 23 e_2) (rU (rU r 11 it) 12 z_2)) H := hw ▸ hP
        have hD : va_D A (wM cI a (vU (vU (vU (vU (vU v 19 ((mNu (ML r N d) r n lev cr).1)) 20 ((mNu (ML r N d) r n lev cr).2.1)) 21 ((mNu (ML r N d) r n lev cr).2.2)) 22 u_2) 23 e_2) (rU (rU r 11 it) 12 z_2)) := hw ▸ hD
        exact k_vret C0 (u_2, e_2, z_2) hP hD hS (fun i hi k hk => by show z_2 (16 * i + k) = sz (16 * i + k); rw [hz_2 i (by omega) k hk]) dX5_measureNucleus_116
    · skip
      refine lv_aload_n hx hb dX5_measureNucleus_80 rfl (lv_at hl 0 rfl) ?_
      refine lv_iload_n hx hb dX5_measureNucleus_81 rfl (lv_at hl 1 rfl) ?_
      refine lv_iload_n hx hb dX5_measureNucleus_82 rfl (lv_at hl 2 rfl) ?_
      refine lv_iload_n hx hb dX5_measureNucleus_83 rfl (lv_at hl 3 rfl) ?_
      refine kcVv C0 hP hD hS (c_X5_measureFraction l D cI a v r n N d rk lev cr it sz w0 h0 d0 u0 e0 hM hN hN1 hn hd (hq1 c_77).1 (hq1 c_77).2) (cwV 3 hts gX5_measureNucleus_X5_measureFraction rfl rfl rfl (by decide +kernel) ⟨by dsimp only [rmL, rmF, rmN, rmA]; omega, by dsimp only [rmL, rmF, rmN, rmA]; omega⟩) 0 5 rfl rfl rfl hl.1 rfl (Nat.le_of_ble_eq_true rfl) dX5_measureNucleus_84 ⟨Nat.zero_le _, Nat.zero_le _⟩ (fun u H locs hq hP hD hS => ?_)
      obtain ⟨z_3, rfl⟩ : ∃ q, q = u := ⟨_, rfl⟩
      have hz_3 : ∀ i, rk (r 2 n) < rk (r 2 i) → ∀ k, k < 16 → z_3 (16 * i + k) = sz (16 * i + k) := hq
      have hP : va_P D vwCl (wM cI a (vU (vU (vU (vU (vU v 19 ((mFr (ML r N d) r n lev cr).1)) 20 ((mFr (ML r N d) r n lev cr).2.1)) 21 ((mFr (ML r N d) r n lev cr).2.2)) 22 (frU (ML r N d) r n lev cr)) 23 (frD (ML r N d) r n lev)) (rU (rU r 11 it) 12 z_3)) H := hP
      have hD : va_D A (wM cI a (vU (vU (vU (vU (vU v 19 ((mFr (ML r N d) r n lev cr).1)) 20 ((mFr (ML r N d) r n lev cr).2.1)) 21 ((mFr (ML r N d) r n lev cr).2.2)) 22 (frU (ML r N d) r n lev cr)) 23 (frD (ML r N d) r n lev)) (rU (rU r 11 it) 12 z_3)) := hD
      refine lv_goto (tgt := 116) hx hb dX5_measureNucleus_87 (by decide) ?_
      have q19 : (mFr (ML r N d) r n lev cr).1 = (mNu (ML r N d) r n lev cr).1 := (pf_X5_measureNucleus_6 a v r n N d rk lev cr it sz w0 h0 d0 u0 e0 hN hN1 hn hd hR hat c_6 c_77 z_3)
      have q20 : (mFr (ML r N d) r n lev cr).2.1 = (mNu (ML r N d) r n lev cr).2.1 := (pf_X5_measureNucleus_7 a v r n N d rk lev cr it sz w0 h0 d0 u0 e0 hN hN1 hn hd hR hat c_6 c_77 z_3)
      have q21 : (mFr (ML r N d) r n lev cr).2.2 = (mNu (ML r N d) r n lev cr).2.2 := (pf_X5_measureNucleus_8 a v r n N d rk lev cr it sz w0 h0 d0 u0 e0 hN hN1 hn hd hR hat c_6 c_77 z_3)
      have hw : (wM cI a (vU (vU (vU (vU (vU v 19 ((mFr (ML r N d) r n lev cr).1)) 20 ((mFr (ML r N d) r n lev cr).2.1)) 21 ((mFr (ML r N d) r n lev cr).2.2)) 22 (frU (ML r N d) r n lev cr)) 23 (frD (ML r N d) r n lev)) (rU (rU r 11 it) 12 z_3)) = (wM cI a (vU (vU (vU (vU (vU v 19 ((mNu (ML r N d) r n lev cr).1)) 20 ((mNu (ML r N d) r n lev cr).2.1)) 21 ((mNu (ML r N d) r n lev cr).2.2)) 22 (frU (ML r N d) r n lev cr)) 23 (frD (ML r N d) r n lev)) (rU (rU r 11 it) 12 z_3)) := by rw [q19, q20, q21]
      have hP : va_P D vwCl (wM cI a (vU (vU (vU (vU (vU v 19 ((mNu (ML r N d) r n lev cr).1)) 20 ((mNu (ML r N d) r n lev cr).2.1)) 21 ((mNu (ML r N d) r n lev cr).2.2)) 22 (frU (ML r N d) r n lev cr)) 23 (frD (ML r N d) r n lev)) (rU (rU r 11 it) 12 z_3)) H := hw ▸ hP
      have hD : va_D A (wM cI a (vU (vU (vU (vU (vU v 19 ((mNu (ML r N d) r n lev cr).1)) 20 ((mNu (ML r N d) r n lev cr).2.1)) 21 ((mNu (ML r N d) r n lev cr).2.2)) 22 (frU (ML r N d) r n lev cr)) 23 (frD (ML r N d) r n lev)) (rU (rU r 11 it) 12 z_3)) := hw ▸ hD
      exact k_vret C0 ((frU (ML r N d) r n lev cr), (frD (ML r N d) r n lev), z_3) hP hD hS (fun i hi k hk => by show z_3 (16 * i + k) = sz (16 * i + k); rw [hz_3 i (by omega) k hk]) dX5_measureNucleus_116
  · skip
    refine lv_aload_n hx hb dX5_measureNucleus_9 rfl (lv_at hl 0 rfl) ?_
    refine va_get (D := D) (ci := 5) (v := .ref (a 4)) (C := RX5) (T := TX5) (N := 25) hx hb hts hin_X5 hown hK hP 0 rfl rfl 7 (by decide) hf23 (fun _ h9 => h9) rfl dX5_measureNucleus_10 ?_
    refine lv_iload_n hx hb dX5_measureNucleus_13 rfl (lv_at hl 1 rfl) ?_
    refine ra_ld (f := (r 4)) C0 hP 4 rfl n rfl (by omega) (by decide) dX5_measureNucleus_14 ?_
    refine lv_iload_n hx hb dX5_measureNucleus_15 rfl (lv_at hl 2 rfl) ?_
    refine kcS (ans := (sgz ((r 4) n) lev)) C0 hP hS (c_X5_signSize l D cI ((r 4) n) lev ) (va_cwS 2 hts gX5_measureNucleus_X5_signSize rfl rfl rfl (by decide +kernel) ⟨by dsimp only [rmL, rmF, rmN, rmA]; omega, by dsimp only [rmL, rmF, rmN, rmA]; omega⟩) rfl hl.1 rfl (Nat.le_of_ble_eq_true rfl) dX5_measureNucleus_16 ⟨Nat.zero_le _, Nat.zero_le _⟩ (fun H locs hP hS => ?_)
    refine lv_istore (lv' := [(4, .int (sgz ((r 4) n) lev)), (0, .ref (a 0)), (1, .int (nI n)), (2, .int lev), (3, .int cr)]) hx hb dX5_measureNucleus_19 hl (by decide) rfl (fun ls hl => ?_)
    refine lv_aload_n hx hb dX5_measureNucleus_21 rfl (lv_at hl 1 rfl) ?_
    refine va_get (D := D) (ci := 5) (v := .ref (a 5)) (C := RX5) (T := TX5) (N := 25) hx hb hts hin_X5 hown hK hP 0 rfl rfl 8 (by decide) hf26 (fun _ h9 => h9) rfl dX5_measureNucleus_22 ?_
    refine lv_iload_n hx hb dX5_measureNucleus_25 rfl (lv_at hl 2 rfl) ?_
    refine ra_ld (f := (r 5)) C0 hP 5 rfl n rfl (by omega) (by decide) dX5_measureNucleus_26 ?_
    refine lv_istore (lv' := [(5, .int ((r 5) n)), (4, .int (sgz ((r 4) n) lev)), (0, .ref (a 0)), (1, .int (nI n)), (2, .int lev), (3, .int cr)]) hx hb dX5_measureNucleus_27 hl (by decide) rfl (fun ls hl => ?_)
    refine lv_aload_n hx hb dX5_measureNucleus_29 rfl (lv_at hl 2 rfl) ?_
    refine lv_iload hx hb dX5_measureNucleus_30 (lv_at hl 1 rfl) ?_
    refine lv_iconst (v := 4) hx hb dX5_measureNucleus_32 (by decide) ?_
    refine lv_iload hx hb dX5_measureNucleus_33 (lv_at hl 0 rfl) ?_
    refine lv_iconst (v := 5) hx hb dX5_measureNucleus_35 (by decide) ?_
    refine lv_irem hx hb dX5_measureNucleus_36 (by decide) ?_
    refine lv_iadd hx hb dX5_measureNucleus_37 ?_
    refine lv_imul hx hb dX5_measureNucleus_38 ?_
    refine lv_iload hx hb dX5_measureNucleus_39 (lv_at hl 1 rfl) ?_
    refine lv_iconst (v := 5) hx hb dX5_measureNucleus_41 (by decide) ?_
    refine lv_iload hx hb dX5_measureNucleus_42 (lv_at hl 0 rfl) ?_
    refine lv_iconst (v := 3) hx hb dX5_measureNucleus_44 (by decide) ?_
    refine lv_irem hx hb dX5_measureNucleus_45 (by decide) ?_
    refine lv_iadd hx hb dX5_measureNucleus_46 ?_
    refine lv_imul hx hb dX5_measureNucleus_47 ?_
    refine lv_iload hx hb dX5_measureNucleus_48 (lv_at hl 0 rfl) ?_
    refine lv_iconst (v := 4) hx hb dX5_measureNucleus_50 (by decide) ?_
    refine lv_irem hx hb dX5_measureNucleus_51 (by decide) ?_
    refine lv_iconst (v := 3) hx hb dX5_measureNucleus_52 (by decide) ?_
    obtain ⟨x_4, ex_4⟩ : ∃ zz_ : Int32, zz_ = (if (((r 5) n) - ((r 5) n) / 4 * 4) = 3 then (2 * (sgz ((r 4) n) lev)) else (0 : Int32)) := ⟨_, rfl⟩
    refine jW (D := D) hD hl 64 (wM cI a (vU (vU (vU (vU (vU v 19 w0) 20 h0) 21 d0) 22 u0) 23 e0) (rU (rU r 11 it) 12 sz)) [(5, .int ((r 5) n)), (4, .int (sgz ((r 4) n) lev)), (0, .ref (a 0)), (1, .int (nI n)), (2, .int lev), (3, .int cr)] [.int x_4, .int ((sgz ((r 4) n) lev) * (5 + (((r 5) n) - ((r 5) n) / 3 * 3))), .int ((sgz ((r 4) n) lev) * (4 + (((r 5) n) - ((r 5) n) / 5 * 5))), .ref (a 0)] (fun hJ => ?_) (fun H locs ls hP hD hS hl => ?_)
    · skip
      refine lv_icmp_ne (tgt := 63) hx hb dX5_measureNucleus_53 (by decide) (fun c_53 => ?_) (fun c_53 => ?_)
      · skip
        refine lv_iconst (v := 0) hx hb dX5_measureNucleus_63 (by decide) ?_
        have gx_4 : x_4 = 0 := by rw [ex_4]; simp only [if_neg c_53]
        simp only [gx_4] at hJ
        exact hJ _ _ _ hP hD hS (lv_sub hl [0, 1, 2, 3, 4, 5] rfl)
      · skip
        refine lv_iconst (v := 2) hx hb dX5_measureNucleus_56 (by decide) ?_
        refine lv_iload hx hb dX5_measureNucleus_57 (lv_at hl 1 rfl) ?_
        refine lv_imul hx hb dX5_measureNucleus_59 ?_
        refine lv_goto (tgt := 64) hx hb dX5_measureNucleus_60 (by decide) ?_
        have gx_4 : x_4 = (2 * (sgz ((r 4) n) lev)) := by rw [ex_4]; simp only [if_pos c_53]
        simp only [gx_4] at hJ
        exact hJ _ _ _ hP hD hS (lv_sub hl [0, 1, 2, 3, 4, 5] rfl)
    · skip
      refine kcDv C0 hP hD hS (c_X5_set l D cI a (vU (vU (vU (vU (vU v 19 w0) 20 h0) 21 d0) 22 u0) 23 e0) (rU (rU r 11 it) 12 sz) ((sgz ((r 4) n) lev) * (4 + (((r 5) n) - ((r 5) n) / 5 * 5))) ((sgz ((r 4) n) lev) * (5 + (((r 5) n) - ((r 5) n) / 3 * 3))) x_4) (cwV 3 hts gX5_measureNucleus_X5_set rfl rfl rfl (by decide +kernel) ⟨by dsimp only [rmL, rmF, rmN, rmA]; omega, by dsimp only [rmL, rmF, rmN, rmA]; omega⟩) 0 5 rfl rfl rfl hl.1 rfl (Nat.le_of_ble_eq_true rfl) dX5_measureNucleus_64 ⟨Nat.zero_le _, Nat.zero_le _⟩ (fun H locs hP hD hS => ?_)
      have hP : va_P D vwCl (wM cI a (vU (vU (vU (vU (vU v 19 ((sgz ((r 4) n) lev) * (4 + (((r 5) n) - ((r 5) n) / 5 * 5)))) 20 ((sgz ((r 4) n) lev) * (5 + (((r 5) n) - ((r 5) n) / 3 * 3)))) 21 x_4) 22 u0) 23 e0) (rU (rU r 11 it) 12 sz)) H := hP
      have hD : va_D A (wM cI a (vU (vU (vU (vU (vU v 19 ((sgz ((r 4) n) lev) * (4 + (((r 5) n) - ((r 5) n) / 5 * 5)))) 20 ((sgz ((r 4) n) lev) * (5 + (((r 5) n) - ((r 5) n) / 3 * 3)))) 21 x_4) 22 u0) 23 e0) (rU (rU r 11 it) 12 sz)) := hD
      refine lv_goto (tgt := 116) hx hb dX5_measureNucleus_67 (by decide) ?_
      have q19 : ((sgz ((r 4) n) lev) * (4 + (((r 5) n) - ((r 5) n) / 5 * 5))) = (mNu (ML r N d) r n lev cr).1 := (pf_X5_measureNucleus_9 a v r n N d rk lev cr it sz w0 h0 d0 u0 e0 hN hN1 hn hd hR hat c_6 x_4 ex_4)
      have q20 : ((sgz ((r 4) n) lev) * (5 + (((r 5) n) - ((r 5) n) / 3 * 3))) = (mNu (ML r N d) r n lev cr).2.1 := (pf_X5_measureNucleus_10 a v r n N d rk lev cr it sz w0 h0 d0 u0 e0 hN hN1 hn hd hR hat c_6 x_4 ex_4)
      have q21 : x_4 = (mNu (ML r N d) r n lev cr).2.2 := (pf_X5_measureNucleus_11 a v r n N d rk lev cr it sz w0 h0 d0 u0 e0 hN hN1 hn hd hR hat c_6 x_4 ex_4)
      have hw : (wM cI a (vU (vU (vU (vU (vU v 19 ((sgz ((r 4) n) lev) * (4 + (((r 5) n) - ((r 5) n) / 5 * 5)))) 20 ((sgz ((r 4) n) lev) * (5 + (((r 5) n) - ((r 5) n) / 3 * 3)))) 21 x_4) 22 u0) 23 e0) (rU (rU r 11 it) 12 sz)) = (wM cI a (vU (vU (vU (vU (vU v 19 ((mNu (ML r N d) r n lev cr).1)) 20 ((mNu (ML r N d) r n lev cr).2.1)) 21 ((mNu (ML r N d) r n lev cr).2.2)) 22 u0) 23 e0) (rU (rU r 11 it) 12 sz)) := by rw [q19, q20, q21]
      have hP : va_P D vwCl (wM cI a (vU (vU (vU (vU (vU v 19 ((mNu (ML r N d) r n lev cr).1)) 20 ((mNu (ML r N d) r n lev cr).2.1)) 21 ((mNu (ML r N d) r n lev cr).2.2)) 22 u0) 23 e0) (rU (rU r 11 it) 12 sz)) H := hw ▸ hP
      have hD : va_D A (wM cI a (vU (vU (vU (vU (vU v 19 ((mNu (ML r N d) r n lev cr).1)) 20 ((mNu (ML r N d) r n lev cr).2.1)) 21 ((mNu (ML r N d) r n lev cr).2.2)) 22 u0) 23 e0) (rU (rU r 11 it) 12 sz)) := hw ▸ hD
      exact k_vret C0 (u0, e0, sz) hP hD hS (fun i hi k hk => rfl) dX5_measureNucleus_116

theorem Int32_10 : ¬ (1 : Int32) = 0 := by decide
theorem Int32_00 : (0 : Int32) = 0 := rfl

set_option maxHeartbeats 1500000 in
theorem pf_X5_measureAtom_0 (a : Nat → Nat) (v : Nat → Int32) (r : Nat → Nat → Int32) (n N d : Nat) (rk : Int32 → Nat) (lev cr : Int32) (it sz : Nat → Int32) (w0 h0 d0 u0 e0 : Int32) (hN : v 4 = nI N) (hN1 : N ≤ 120) (hn : n < N) (hd : rk (r 2 n) ≤ d) (hR : HRK r N rk) (hat : ¬ r 3 n = 4) (u_1 e_1 : Int32) (z_1 : Nat → Int32) (c_14 : ¬ (((r 8) n) = (-1))) (x_2 : Int32) (ex_2 : x_2 = (mNu (ML r N d) r n lev cr).1) (x_3 : Int32) (ex_3 : x_3 = (mNu (ML r N d) r n lev cr).2.1) (x_4 : Int32) (ex_4 : x_4 = (mNu (ML r N d) r n lev cr).2.2) (c_77 : ¬ (((r 8) n) = (-1))) (c_94 : ((r 9) n) = (-1)) (u_5 e_5 : Int32) (z_5 : Nat → Int32) (x_6 : Int32) (ex_6 : x_6 = (ML r N d ((r 8) n) (scl lev) cr).1) (x_7 : Int32) (ex_7 : x_7 = (ML r N d ((r 8) n) (scl lev) cr).2.1) (x_8 : Int32) (ex_8 : x_8 = (ML r N d ((r 8) n) (scl lev) cr).2.2) (x_9 : Int32) (ex_9 : x_9 = (if ((r 4) n) = 1 then (if lev = 0 then (1 : Int32) else (0 : Int32)) else (0 : Int32))) (x_10 : Int32) (ex_10 : x_10 = (if x_9 = 0 then (mx (x_3 - (2 * (uni lev))) (mx ((if cr = 0 then (4 : Int32) else (3 : Int32)) * (uni lev)) (x_8 + (uni lev)))) else ((x_3 + (uni lev)) + x_8))) (x_12 : Int32) (ex_12 : x_12 = (if x_9 = 0 then (mx (x_4 + (uni lev)) (mx (2 * (uni lev)) (0 - (4 * (uni lev))))) else ((x_4 + (uni lev)) + 0))) (x_13 : Int32) (ex_13 : x_13 = (if x_9 = 0 then ((x_2 + (mx x_6 0)) + ((uni lev) / 2)) else (mx x_2 (mx x_6 0)))) (x_14 : Int32) (ex_14 : x_14 = (mx (mx x_3 0) (x_10 + x_7))) (x_15 : Int32) (ex_15 : x_15 = (mx (mx x_4 0) (x_8 - x_10))) : x_13 = (mAt (ML r N d) r n lev cr).1 := by
  subst_vars
  rw [mAt, if_neg (c := r 8 n = -1 ∧ r 9 n = -1) (fun q => c_14 q.1)]
  by_cases h4 : r 4 n = 1 <;> by_cases h0 : lev = 0 <;> simp only [atW, atH, atP, atU, atD, atE, atB, scU, scL, c_14, c_94, h4, h0, not_true, not_false_eq_true, true_and, and_true, false_and, and_false, if_true, if_false, eq_self_iff_true, ite_not, if_neg Int32_10, if_pos Int32_00]
set_option maxHeartbeats 1500000 in
theorem pf_X5_measureAtom_1 (a : Nat → Nat) (v : Nat → Int32) (r : Nat → Nat → Int32) (n N d : Nat) (rk : Int32 → Nat) (lev cr : Int32) (it sz : Nat → Int32) (w0 h0 d0 u0 e0 : Int32) (hN : v 4 = nI N) (hN1 : N ≤ 120) (hn : n < N) (hd : rk (r 2 n) ≤ d) (hR : HRK r N rk) (hat : ¬ r 3 n = 4) (u_1 e_1 : Int32) (z_1 : Nat → Int32) (c_14 : ¬ (((r 8) n) = (-1))) (x_2 : Int32) (ex_2 : x_2 = (mNu (ML r N d) r n lev cr).1) (x_3 : Int32) (ex_3 : x_3 = (mNu (ML r N d) r n lev cr).2.1) (x_4 : Int32) (ex_4 : x_4 = (mNu (ML r N d) r n lev cr).2.2) (c_77 : ¬ (((r 8) n) = (-1))) (c_94 : ((r 9) n) = (-1)) (u_5 e_5 : Int32) (z_5 : Nat → Int32) (x_6 : Int32) (ex_6 : x_6 = (ML r N d ((r 8) n) (scl lev) cr).1) (x_7 : Int32) (ex_7 : x_7 = (ML r N d ((r 8) n) (scl lev) cr).2.1) (x_8 : Int32) (ex_8 : x_8 = (ML r N d ((r 8) n) (scl lev) cr).2.2) (x_9 : Int32) (ex_9 : x_9 = (if ((r 4) n) = 1 then (if lev = 0 then (1 : Int32) else (0 : Int32)) else (0 : Int32))) (x_10 : Int32) (ex_10 : x_10 = (if x_9 = 0 then (mx (x_3 - (2 * (uni lev))) (mx ((if cr = 0 then (4 : Int32) else (3 : Int32)) * (uni lev)) (x_8 + (uni lev)))) else ((x_3 + (uni lev)) + x_8))) (x_12 : Int32) (ex_12 : x_12 = (if x_9 = 0 then (mx (x_4 + (uni lev)) (mx (2 * (uni lev)) (0 - (4 * (uni lev))))) else ((x_4 + (uni lev)) + 0))) (x_13 : Int32) (ex_13 : x_13 = (if x_9 = 0 then ((x_2 + (mx x_6 0)) + ((uni lev) / 2)) else (mx x_2 (mx x_6 0)))) (x_14 : Int32) (ex_14 : x_14 = (mx (mx x_3 0) (x_10 + x_7))) (x_15 : Int32) (ex_15 : x_15 = (mx (mx x_4 0) (x_8 - x_10))) : x_14 = (mAt (ML r N d) r n lev cr).2.1 := by
  subst_vars
  rw [mAt, if_neg (c := r 8 n = -1 ∧ r 9 n = -1) (fun q => c_14 q.1)]
  by_cases h4 : r 4 n = 1 <;> by_cases h0 : lev = 0 <;> simp only [atW, atH, atP, atU, atD, atE, atB, scU, scL, c_14, c_94, h4, h0, not_true, not_false_eq_true, true_and, and_true, false_and, and_false, if_true, if_false, eq_self_iff_true, ite_not, if_neg Int32_10, if_pos Int32_00]
set_option maxHeartbeats 1500000 in
theorem pf_X5_measureAtom_2 (a : Nat → Nat) (v : Nat → Int32) (r : Nat → Nat → Int32) (n N d : Nat) (rk : Int32 → Nat) (lev cr : Int32) (it sz : Nat → Int32) (w0 h0 d0 u0 e0 : Int32) (hN : v 4 = nI N) (hN1 : N ≤ 120) (hn : n < N) (hd : rk (r 2 n) ≤ d) (hR : HRK r N rk) (hat : ¬ r 3 n = 4) (u_1 e_1 : Int32) (z_1 : Nat → Int32) (c_14 : ¬ (((r 8) n) = (-1))) (x_2 : Int32) (ex_2 : x_2 = (mNu (ML r N d) r n lev cr).1) (x_3 : Int32) (ex_3 : x_3 = (mNu (ML r N d) r n lev cr).2.1) (x_4 : Int32) (ex_4 : x_4 = (mNu (ML r N d) r n lev cr).2.2) (c_77 : ¬ (((r 8) n) = (-1))) (c_94 : ((r 9) n) = (-1)) (u_5 e_5 : Int32) (z_5 : Nat → Int32) (x_6 : Int32) (ex_6 : x_6 = (ML r N d ((r 8) n) (scl lev) cr).1) (x_7 : Int32) (ex_7 : x_7 = (ML r N d ((r 8) n) (scl lev) cr).2.1) (x_8 : Int32) (ex_8 : x_8 = (ML r N d ((r 8) n) (scl lev) cr).2.2) (x_9 : Int32) (ex_9 : x_9 = (if ((r 4) n) = 1 then (if lev = 0 then (1 : Int32) else (0 : Int32)) else (0 : Int32))) (x_10 : Int32) (ex_10 : x_10 = (if x_9 = 0 then (mx (x_3 - (2 * (uni lev))) (mx ((if cr = 0 then (4 : Int32) else (3 : Int32)) * (uni lev)) (x_8 + (uni lev)))) else ((x_3 + (uni lev)) + x_8))) (x_12 : Int32) (ex_12 : x_12 = (if x_9 = 0 then (mx (x_4 + (uni lev)) (mx (2 * (uni lev)) (0 - (4 * (uni lev))))) else ((x_4 + (uni lev)) + 0))) (x_13 : Int32) (ex_13 : x_13 = (if x_9 = 0 then ((x_2 + (mx x_6 0)) + ((uni lev) / 2)) else (mx x_2 (mx x_6 0)))) (x_14 : Int32) (ex_14 : x_14 = (mx (mx x_3 0) (x_10 + x_7))) (x_15 : Int32) (ex_15 : x_15 = (mx (mx x_4 0) (x_8 - x_10))) : x_15 = (mAt (ML r N d) r n lev cr).2.2 := by
  subst_vars
  rw [mAt, if_neg (c := r 8 n = -1 ∧ r 9 n = -1) (fun q => c_14 q.1)]
  by_cases h4 : r 4 n = 1 <;> by_cases h0 : lev = 0 <;> simp only [atW, atH, atP, atU, atD, atE, atB, scU, scL, c_14, c_94, h4, h0, not_true, not_false_eq_true, true_and, and_true, false_and, and_false, if_true, if_false, eq_self_iff_true, ite_not, if_neg Int32_10, if_pos Int32_00]
set_option maxHeartbeats 1500000 in
theorem pf_X5_measureAtom_3 (a : Nat → Nat) (v : Nat → Int32) (r : Nat → Nat → Int32) (n N d : Nat) (rk : Int32 → Nat) (lev cr : Int32) (it sz : Nat → Int32) (w0 h0 d0 u0 e0 : Int32) (hN : v 4 = nI N) (hN1 : N ≤ 120) (hn : n < N) (hd : rk (r 2 n) ≤ d) (hR : HRK r N rk) (hat : ¬ r 3 n = 4) (u_1 e_1 : Int32) (z_1 : Nat → Int32) (c_14 : ¬ (((r 8) n) = (-1))) (x_2 : Int32) (ex_2 : x_2 = (mNu (ML r N d) r n lev cr).1) (x_3 : Int32) (ex_3 : x_3 = (mNu (ML r N d) r n lev cr).2.1) (x_4 : Int32) (ex_4 : x_4 = (mNu (ML r N d) r n lev cr).2.2) (c_77 : ¬ (((r 8) n) = (-1))) (c_94 : ((r 9) n) = (-1)) (u_5 e_5 : Int32) (z_5 : Nat → Int32) (x_6 : Int32) (ex_6 : x_6 = (ML r N d ((r 8) n) (scl lev) cr).1) (x_7 : Int32) (ex_7 : x_7 = (ML r N d ((r 8) n) (scl lev) cr).2.1) (x_8 : Int32) (ex_8 : x_8 = (ML r N d ((r 8) n) (scl lev) cr).2.2) (x_9 : Int32) (ex_9 : x_9 = (if ((r 4) n) = 1 then (if lev = 0 then (1 : Int32) else (0 : Int32)) else (0 : Int32))) (x_10 : Int32) (ex_10 : x_10 = (if x_9 = 0 then (mx (x_3 - (2 * (uni lev))) (mx ((if cr = 0 then (4 : Int32) else (3 : Int32)) * (uni lev)) (x_8 + (uni lev)))) else ((x_3 + (uni lev)) + x_8))) (x_12 : Int32) (ex_12 : x_12 = (if x_9 = 0 then (mx (x_4 + (uni lev)) (mx (2 * (uni lev)) (0 - (4 * (uni lev))))) else ((x_4 + (uni lev)) + 0))) (x_13 : Int32) (ex_13 : x_13 = (if x_9 = 0 then ((x_2 + (mx x_6 0)) + ((uni lev) / 2)) else (mx x_2 (mx x_6 0)))) (x_14 : Int32) (ex_14 : x_14 = (mx (mx x_3 0) (x_10 + x_7))) (x_15 : Int32) (ex_15 : x_15 = (mx (mx x_4 0) (x_8 - x_10))) : x_10 = (atU (ML r N d) r n lev cr) := by
  subst_vars
  by_cases h4 : r 4 n = 1 <;> by_cases h0 : lev = 0 <;> simp only [atU, atD, atE, atB, scU, scL, c_14, c_94, h4, h0, not_true, not_false_eq_true, true_and, and_true, false_and, and_false, if_true, if_false, eq_self_iff_true, ite_not, if_neg Int32_10, if_pos Int32_00]
set_option maxHeartbeats 1500000 in
theorem pf_X5_measureAtom_4 (a : Nat → Nat) (v : Nat → Int32) (r : Nat → Nat → Int32) (n N d : Nat) (rk : Int32 → Nat) (lev cr : Int32) (it sz : Nat → Int32) (w0 h0 d0 u0 e0 : Int32) (hN : v 4 = nI N) (hN1 : N ≤ 120) (hn : n < N) (hd : rk (r 2 n) ≤ d) (hR : HRK r N rk) (hat : ¬ r 3 n = 4) (u_1 e_1 : Int32) (z_1 : Nat → Int32) (c_14 : ¬ (((r 8) n) = (-1))) (x_2 : Int32) (ex_2 : x_2 = (mNu (ML r N d) r n lev cr).1) (x_3 : Int32) (ex_3 : x_3 = (mNu (ML r N d) r n lev cr).2.1) (x_4 : Int32) (ex_4 : x_4 = (mNu (ML r N d) r n lev cr).2.2) (c_77 : ¬ (((r 8) n) = (-1))) (c_94 : ((r 9) n) = (-1)) (u_5 e_5 : Int32) (z_5 : Nat → Int32) (x_6 : Int32) (ex_6 : x_6 = (ML r N d ((r 8) n) (scl lev) cr).1) (x_7 : Int32) (ex_7 : x_7 = (ML r N d ((r 8) n) (scl lev) cr).2.1) (x_8 : Int32) (ex_8 : x_8 = (ML r N d ((r 8) n) (scl lev) cr).2.2) (x_9 : Int32) (ex_9 : x_9 = (if ((r 4) n) = 1 then (if lev = 0 then (1 : Int32) else (0 : Int32)) else (0 : Int32))) (x_10 : Int32) (ex_10 : x_10 = (if x_9 = 0 then (mx (x_3 - (2 * (uni lev))) (mx ((if cr = 0 then (4 : Int32) else (3 : Int32)) * (uni lev)) (x_8 + (uni lev)))) else ((x_3 + (uni lev)) + x_8))) (x_12 : Int32) (ex_12 : x_12 = (if x_9 = 0 then (mx (x_4 + (uni lev)) (mx (2 * (uni lev)) (0 - (4 * (uni lev))))) else ((x_4 + (uni lev)) + 0))) (x_13 : Int32) (ex_13 : x_13 = (if x_9 = 0 then ((x_2 + (mx x_6 0)) + ((uni lev) / 2)) else (mx x_2 (mx x_6 0)))) (x_14 : Int32) (ex_14 : x_14 = (mx (mx x_3 0) (x_10 + x_7))) (x_15 : Int32) (ex_15 : x_15 = (mx (mx x_4 0) (x_8 - x_10))) : x_12 = (atD (ML r N d) r n lev cr) := by
  subst_vars
  by_cases h4 : r 4 n = 1 <;> by_cases h0 : lev = 0 <;> simp only [atU, atD, atE, atB, scU, scL, c_14, c_94, h4, h0, not_true, not_false_eq_true, true_and, and_true, false_and, and_false, if_true, if_false, eq_self_iff_true, ite_not, if_neg Int32_10, if_pos Int32_00]
set_option maxHeartbeats 1500000 in
theorem pf_X5_measureAtom_5 (a : Nat → Nat) (v : Nat → Int32) (r : Nat → Nat → Int32) (n N d : Nat) (rk : Int32 → Nat) (lev cr : Int32) (it sz : Nat → Int32) (w0 h0 d0 u0 e0 : Int32) (hN : v 4 = nI N) (hN1 : N ≤ 120) (hn : n < N) (hd : rk (r 2 n) ≤ d) (hR : HRK r N rk) (hat : ¬ r 3 n = 4) (u_1 e_1 : Int32) (z_1 : Nat → Int32) (c_14 : ¬ (((r 8) n) = (-1))) (x_2 : Int32) (ex_2 : x_2 = (mNu (ML r N d) r n lev cr).1) (x_3 : Int32) (ex_3 : x_3 = (mNu (ML r N d) r n lev cr).2.1) (x_4 : Int32) (ex_4 : x_4 = (mNu (ML r N d) r n lev cr).2.2) (c_77 : ¬ (((r 8) n) = (-1))) (c_94 : ¬ (((r 9) n) = (-1))) (u_16 e_16 : Int32) (z_16 : Nat → Int32) (x_17 : Int32) (ex_17 : x_17 = (ML r N d ((r 8) n) (scl lev) cr).1) (x_18 : Int32) (ex_18 : x_18 = (ML r N d ((r 8) n) (scl lev) cr).2.1) (x_19 : Int32) (ex_19 : x_19 = (ML r N d ((r 8) n) (scl lev) cr).2.2) (u_20 e_20 : Int32) (z_20 : Nat → Int32) (x_21 : Int32) (ex_21 : x_21 = (ML r N d ((r 9) n) (scl lev) 1).1) (x_22 : Int32) (ex_22 : x_22 = (ML r N d ((r 9) n) (scl lev) 1).2.1) (x_23 : Int32) (ex_23 : x_23 = (ML r N d ((r 9) n) (scl lev) 1).2.2) (x_24 : Int32) (ex_24 : x_24 = (if ((r 4) n) = 1 then (if lev = 0 then (1 : Int32) else (0 : Int32)) else (0 : Int32))) (x_25 : Int32) (ex_25 : x_25 = (if x_24 = 0 then (mx (x_3 - (2 * (uni lev))) (mx ((if cr = 0 then (4 : Int32) else (3 : Int32)) * (uni lev)) (x_19 + (uni lev)))) else ((x_3 + (uni lev)) + x_19))) (x_27 : Int32) (ex_27 : x_27 = (if x_24 = 0 then (mx (x_4 + (uni lev)) (mx (2 * (uni lev)) (x_22 - (4 * (uni lev))))) else ((x_4 + (uni lev)) + x_22))) (x_28 : Int32) (ex_28 : x_28 = (if x_24 = 0 then (if (uni lev) ≤ (((x_25 - x_19) + x_27) - x_22) then x_27 else ((x_27 + (uni lev)) - (((x_25 - x_19) + x_27) - x_22))) else x_27)) (x_31 : Int32) (ex_31 : x_31 = (if x_24 = 0 then ((x_2 + (mx x_17 x_21)) + ((uni lev) / 2)) else (mx x_2 (mx x_17 x_21)))) (x_32 : Int32) (ex_32 : x_32 = (mx (mx x_3 0) (x_25 + x_18))) (x_33 : Int32) (ex_33 : x_33 = (mx (mx x_4 0) (x_19 - x_25))) : x_31 = (mAt (ML r N d) r n lev cr).1 := by
  subst_vars
  rw [mAt, if_neg (c := r 8 n = -1 ∧ r 9 n = -1) (fun q => c_14 q.1)]
  by_cases h4 : r 4 n = 1 <;> by_cases h0 : lev = 0 <;> simp only [atW, atH, atP, atU, atD, atE, atB, scU, scL, c_14, c_94, h4, h0, not_true, not_false_eq_true, true_and, and_true, false_and, and_false, if_true, if_false, eq_self_iff_true, ite_not, if_neg Int32_10, if_pos Int32_00]
set_option maxHeartbeats 1500000 in
theorem pf_X5_measureAtom_6 (a : Nat → Nat) (v : Nat → Int32) (r : Nat → Nat → Int32) (n N d : Nat) (rk : Int32 → Nat) (lev cr : Int32) (it sz : Nat → Int32) (w0 h0 d0 u0 e0 : Int32) (hN : v 4 = nI N) (hN1 : N ≤ 120) (hn : n < N) (hd : rk (r 2 n) ≤ d) (hR : HRK r N rk) (hat : ¬ r 3 n = 4) (u_1 e_1 : Int32) (z_1 : Nat → Int32) (c_14 : ¬ (((r 8) n) = (-1))) (x_2 : Int32) (ex_2 : x_2 = (mNu (ML r N d) r n lev cr).1) (x_3 : Int32) (ex_3 : x_3 = (mNu (ML r N d) r n lev cr).2.1) (x_4 : Int32) (ex_4 : x_4 = (mNu (ML r N d) r n lev cr).2.2) (c_77 : ¬ (((r 8) n) = (-1))) (c_94 : ¬ (((r 9) n) = (-1))) (u_16 e_16 : Int32) (z_16 : Nat → Int32) (x_17 : Int32) (ex_17 : x_17 = (ML r N d ((r 8) n) (scl lev) cr).1) (x_18 : Int32) (ex_18 : x_18 = (ML r N d ((r 8) n) (scl lev) cr).2.1) (x_19 : Int32) (ex_19 : x_19 = (ML r N d ((r 8) n) (scl lev) cr).2.2) (u_20 e_20 : Int32) (z_20 : Nat → Int32) (x_21 : Int32) (ex_21 : x_21 = (ML r N d ((r 9) n) (scl lev) 1).1) (x_22 : Int32) (ex_22 : x_22 = (ML r N d ((r 9) n) (scl lev) 1).2.1) (x_23 : Int32) (ex_23 : x_23 = (ML r N d ((r 9) n) (scl lev) 1).2.2) (x_24 : Int32) (ex_24 : x_24 = (if ((r 4) n) = 1 then (if lev = 0 then (1 : Int32) else (0 : Int32)) else (0 : Int32))) (x_25 : Int32) (ex_25 : x_25 = (if x_24 = 0 then (mx (x_3 - (2 * (uni lev))) (mx ((if cr = 0 then (4 : Int32) else (3 : Int32)) * (uni lev)) (x_19 + (uni lev)))) else ((x_3 + (uni lev)) + x_19))) (x_27 : Int32) (ex_27 : x_27 = (if x_24 = 0 then (mx (x_4 + (uni lev)) (mx (2 * (uni lev)) (x_22 - (4 * (uni lev))))) else ((x_4 + (uni lev)) + x_22))) (x_28 : Int32) (ex_28 : x_28 = (if x_24 = 0 then (if (uni lev) ≤ (((x_25 - x_19) + x_27) - x_22) then x_27 else ((x_27 + (uni lev)) - (((x_25 - x_19) + x_27) - x_22))) else x_27)) (x_31 : Int32) (ex_31 : x_31 = (if x_24 = 0 then ((x_2 + (mx x_17 x_21)) + ((uni lev) / 2)) else (mx x_2 (mx x_17 x_21)))) (x_32 : Int32) (ex_32 : x_32 = (mx (mx x_3 0) (x_25 + x_18))) (x_33 : Int32) (ex_33 : x_33 = (mx (mx x_4 0) (x_19 - x_25))) : (mx x_32 (x_22 - x_28)) = (mAt (ML r N d) r n lev cr).2.1 := by
  subst_vars
  rw [mAt, if_neg (c := r 8 n = -1 ∧ r 9 n = -1) (fun q => c_14 q.1)]
  by_cases h4 : r 4 n = 1 <;> by_cases h0 : lev = 0 <;> simp only [atW, atH, atP, atU, atD, atE, atB, scU, scL, c_14, c_94, h4, h0, not_true, not_false_eq_true, true_and, and_true, false_and, and_false, if_true, if_false, eq_self_iff_true, ite_not, if_neg Int32_10, if_pos Int32_00]
set_option maxHeartbeats 1500000 in
theorem pf_X5_measureAtom_7 (a : Nat → Nat) (v : Nat → Int32) (r : Nat → Nat → Int32) (n N d : Nat) (rk : Int32 → Nat) (lev cr : Int32) (it sz : Nat → Int32) (w0 h0 d0 u0 e0 : Int32) (hN : v 4 = nI N) (hN1 : N ≤ 120) (hn : n < N) (hd : rk (r 2 n) ≤ d) (hR : HRK r N rk) (hat : ¬ r 3 n = 4) (u_1 e_1 : Int32) (z_1 : Nat → Int32) (c_14 : ¬ (((r 8) n) = (-1))) (x_2 : Int32) (ex_2 : x_2 = (mNu (ML r N d) r n lev cr).1) (x_3 : Int32) (ex_3 : x_3 = (mNu (ML r N d) r n lev cr).2.1) (x_4 : Int32) (ex_4 : x_4 = (mNu (ML r N d) r n lev cr).2.2) (c_77 : ¬ (((r 8) n) = (-1))) (c_94 : ¬ (((r 9) n) = (-1))) (u_16 e_16 : Int32) (z_16 : Nat → Int32) (x_17 : Int32) (ex_17 : x_17 = (ML r N d ((r 8) n) (scl lev) cr).1) (x_18 : Int32) (ex_18 : x_18 = (ML r N d ((r 8) n) (scl lev) cr).2.1) (x_19 : Int32) (ex_19 : x_19 = (ML r N d ((r 8) n) (scl lev) cr).2.2) (u_20 e_20 : Int32) (z_20 : Nat → Int32) (x_21 : Int32) (ex_21 : x_21 = (ML r N d ((r 9) n) (scl lev) 1).1) (x_22 : Int32) (ex_22 : x_22 = (ML r N d ((r 9) n) (scl lev) 1).2.1) (x_23 : Int32) (ex_23 : x_23 = (ML r N d ((r 9) n) (scl lev) 1).2.2) (x_24 : Int32) (ex_24 : x_24 = (if ((r 4) n) = 1 then (if lev = 0 then (1 : Int32) else (0 : Int32)) else (0 : Int32))) (x_25 : Int32) (ex_25 : x_25 = (if x_24 = 0 then (mx (x_3 - (2 * (uni lev))) (mx ((if cr = 0 then (4 : Int32) else (3 : Int32)) * (uni lev)) (x_19 + (uni lev)))) else ((x_3 + (uni lev)) + x_19))) (x_27 : Int32) (ex_27 : x_27 = (if x_24 = 0 then (mx (x_4 + (uni lev)) (mx (2 * (uni lev)) (x_22 - (4 * (uni lev))))) else ((x_4 + (uni lev)) + x_22))) (x_28 : Int32) (ex_28 : x_28 = (if x_24 = 0 then (if (uni lev) ≤ (((x_25 - x_19) + x_27) - x_22) then x_27 else ((x_27 + (uni lev)) - (((x_25 - x_19) + x_27) - x_22))) else x_27)) (x_31 : Int32) (ex_31 : x_31 = (if x_24 = 0 then ((x_2 + (mx x_17 x_21)) + ((uni lev) / 2)) else (mx x_2 (mx x_17 x_21)))) (x_32 : Int32) (ex_32 : x_32 = (mx (mx x_3 0) (x_25 + x_18))) (x_33 : Int32) (ex_33 : x_33 = (mx (mx x_4 0) (x_19 - x_25))) : (mx x_33 (x_23 + x_28)) = (mAt (ML r N d) r n lev cr).2.2 := by
  subst_vars
  rw [mAt, if_neg (c := r 8 n = -1 ∧ r 9 n = -1) (fun q => c_14 q.1)]
  by_cases h4 : r 4 n = 1 <;> by_cases h0 : lev = 0 <;> simp only [atW, atH, atP, atU, atD, atE, atB, scU, scL, c_14, c_94, h4, h0, not_true, not_false_eq_true, true_and, and_true, false_and, and_false, if_true, if_false, eq_self_iff_true, ite_not, if_neg Int32_10, if_pos Int32_00]
set_option maxHeartbeats 1500000 in
theorem pf_X5_measureAtom_8 (a : Nat → Nat) (v : Nat → Int32) (r : Nat → Nat → Int32) (n N d : Nat) (rk : Int32 → Nat) (lev cr : Int32) (it sz : Nat → Int32) (w0 h0 d0 u0 e0 : Int32) (hN : v 4 = nI N) (hN1 : N ≤ 120) (hn : n < N) (hd : rk (r 2 n) ≤ d) (hR : HRK r N rk) (hat : ¬ r 3 n = 4) (u_1 e_1 : Int32) (z_1 : Nat → Int32) (c_14 : ¬ (((r 8) n) = (-1))) (x_2 : Int32) (ex_2 : x_2 = (mNu (ML r N d) r n lev cr).1) (x_3 : Int32) (ex_3 : x_3 = (mNu (ML r N d) r n lev cr).2.1) (x_4 : Int32) (ex_4 : x_4 = (mNu (ML r N d) r n lev cr).2.2) (c_77 : ¬ (((r 8) n) = (-1))) (c_94 : ¬ (((r 9) n) = (-1))) (u_16 e_16 : Int32) (z_16 : Nat → Int32) (x_17 : Int32) (ex_17 : x_17 = (ML r N d ((r 8) n) (scl lev) cr).1) (x_18 : Int32) (ex_18 : x_18 = (ML r N d ((r 8) n) (scl lev) cr).2.1) (x_19 : Int32) (ex_19 : x_19 = (ML r N d ((r 8) n) (scl lev) cr).2.2) (u_20 e_20 : Int32) (z_20 : Nat → Int32) (x_21 : Int32) (ex_21 : x_21 = (ML r N d ((r 9) n) (scl lev) 1).1) (x_22 : Int32) (ex_22 : x_22 = (ML r N d ((r 9) n) (scl lev) 1).2.1) (x_23 : Int32) (ex_23 : x_23 = (ML r N d ((r 9) n) (scl lev) 1).2.2) (x_24 : Int32) (ex_24 : x_24 = (if ((r 4) n) = 1 then (if lev = 0 then (1 : Int32) else (0 : Int32)) else (0 : Int32))) (x_25 : Int32) (ex_25 : x_25 = (if x_24 = 0 then (mx (x_3 - (2 * (uni lev))) (mx ((if cr = 0 then (4 : Int32) else (3 : Int32)) * (uni lev)) (x_19 + (uni lev)))) else ((x_3 + (uni lev)) + x_19))) (x_27 : Int32) (ex_27 : x_27 = (if x_24 = 0 then (mx (x_4 + (uni lev)) (mx (2 * (uni lev)) (x_22 - (4 * (uni lev))))) else ((x_4 + (uni lev)) + x_22))) (x_28 : Int32) (ex_28 : x_28 = (if x_24 = 0 then (if (uni lev) ≤ (((x_25 - x_19) + x_27) - x_22) then x_27 else ((x_27 + (uni lev)) - (((x_25 - x_19) + x_27) - x_22))) else x_27)) (x_31 : Int32) (ex_31 : x_31 = (if x_24 = 0 then ((x_2 + (mx x_17 x_21)) + ((uni lev) / 2)) else (mx x_2 (mx x_17 x_21)))) (x_32 : Int32) (ex_32 : x_32 = (mx (mx x_3 0) (x_25 + x_18))) (x_33 : Int32) (ex_33 : x_33 = (mx (mx x_4 0) (x_19 - x_25))) : x_25 = (atU (ML r N d) r n lev cr) := by
  subst_vars
  by_cases h4 : r 4 n = 1 <;> by_cases h0 : lev = 0 <;> simp only [atU, atD, atE, atB, scU, scL, c_14, c_94, h4, h0, not_true, not_false_eq_true, true_and, and_true, false_and, and_false, if_true, if_false, eq_self_iff_true, ite_not, if_neg Int32_10, if_pos Int32_00]
set_option maxHeartbeats 1500000 in
theorem pf_X5_measureAtom_9 (a : Nat → Nat) (v : Nat → Int32) (r : Nat → Nat → Int32) (n N d : Nat) (rk : Int32 → Nat) (lev cr : Int32) (it sz : Nat → Int32) (w0 h0 d0 u0 e0 : Int32) (hN : v 4 = nI N) (hN1 : N ≤ 120) (hn : n < N) (hd : rk (r 2 n) ≤ d) (hR : HRK r N rk) (hat : ¬ r 3 n = 4) (u_1 e_1 : Int32) (z_1 : Nat → Int32) (c_14 : ¬ (((r 8) n) = (-1))) (x_2 : Int32) (ex_2 : x_2 = (mNu (ML r N d) r n lev cr).1) (x_3 : Int32) (ex_3 : x_3 = (mNu (ML r N d) r n lev cr).2.1) (x_4 : Int32) (ex_4 : x_4 = (mNu (ML r N d) r n lev cr).2.2) (c_77 : ¬ (((r 8) n) = (-1))) (c_94 : ¬ (((r 9) n) = (-1))) (u_16 e_16 : Int32) (z_16 : Nat → Int32) (x_17 : Int32) (ex_17 : x_17 = (ML r N d ((r 8) n) (scl lev) cr).1) (x_18 : Int32) (ex_18 : x_18 = (ML r N d ((r 8) n) (scl lev) cr).2.1) (x_19 : Int32) (ex_19 : x_19 = (ML r N d ((r 8) n) (scl lev) cr).2.2) (u_20 e_20 : Int32) (z_20 : Nat → Int32) (x_21 : Int32) (ex_21 : x_21 = (ML r N d ((r 9) n) (scl lev) 1).1) (x_22 : Int32) (ex_22 : x_22 = (ML r N d ((r 9) n) (scl lev) 1).2.1) (x_23 : Int32) (ex_23 : x_23 = (ML r N d ((r 9) n) (scl lev) 1).2.2) (x_24 : Int32) (ex_24 : x_24 = (if ((r 4) n) = 1 then (if lev = 0 then (1 : Int32) else (0 : Int32)) else (0 : Int32))) (x_25 : Int32) (ex_25 : x_25 = (if x_24 = 0 then (mx (x_3 - (2 * (uni lev))) (mx ((if cr = 0 then (4 : Int32) else (3 : Int32)) * (uni lev)) (x_19 + (uni lev)))) else ((x_3 + (uni lev)) + x_19))) (x_27 : Int32) (ex_27 : x_27 = (if x_24 = 0 then (mx (x_4 + (uni lev)) (mx (2 * (uni lev)) (x_22 - (4 * (uni lev))))) else ((x_4 + (uni lev)) + x_22))) (x_28 : Int32) (ex_28 : x_28 = (if x_24 = 0 then (if (uni lev) ≤ (((x_25 - x_19) + x_27) - x_22) then x_27 else ((x_27 + (uni lev)) - (((x_25 - x_19) + x_27) - x_22))) else x_27)) (x_31 : Int32) (ex_31 : x_31 = (if x_24 = 0 then ((x_2 + (mx x_17 x_21)) + ((uni lev) / 2)) else (mx x_2 (mx x_17 x_21)))) (x_32 : Int32) (ex_32 : x_32 = (mx (mx x_3 0) (x_25 + x_18))) (x_33 : Int32) (ex_33 : x_33 = (mx (mx x_4 0) (x_19 - x_25))) : x_28 = (atD (ML r N d) r n lev cr) := by
  subst_vars
  by_cases h4 : r 4 n = 1 <;> by_cases h0 : lev = 0 <;> simp only [atU, atD, atE, atB, scU, scL, c_14, c_94, h4, h0, not_true, not_false_eq_true, true_and, and_true, false_and, and_false, if_true, if_false, eq_self_iff_true, ite_not, if_neg Int32_10, if_pos Int32_00]
set_option maxHeartbeats 1500000 in
theorem pf_X5_measureAtom_10 (a : Nat → Nat) (v : Nat → Int32) (r : Nat → Nat → Int32) (n N d : Nat) (rk : Int32 → Nat) (lev cr : Int32) (it sz : Nat → Int32) (w0 h0 d0 u0 e0 : Int32) (hN : v 4 = nI N) (hN1 : N ≤ 120) (hn : n < N) (hd : rk (r 2 n) ≤ d) (hR : HRK r N rk) (hat : ¬ r 3 n = 4) (u_1 e_1 : Int32) (z_1 : Nat → Int32) (c_14 : ((r 8) n) = (-1)) (c_24 : ¬ (((r 9) n) = (-1))) (x_34 : Int32) (ex_34 : x_34 = (mNu (ML r N d) r n lev cr).1) (x_35 : Int32) (ex_35 : x_35 = (mNu (ML r N d) r n lev cr).2.1) (x_36 : Int32) (ex_36 : x_36 = (mNu (ML r N d) r n lev cr).2.2) (c_77 : ((r 8) n) = (-1)) (c_94 : ¬ (((r 9) n) = (-1))) (u_37 e_37 : Int32) (z_37 : Nat → Int32) (x_38 : Int32) (ex_38 : x_38 = (ML r N d ((r 9) n) (scl lev) 1).1) (x_39 : Int32) (ex_39 : x_39 = (ML r N d ((r 9) n) (scl lev) 1).2.1) (x_40 : Int32) (ex_40 : x_40 = (ML r N d ((r 9) n) (scl lev) 1).2.2) (x_41 : Int32) (ex_41 : x_41 = (if ((r 4) n) = 1 then (if lev = 0 then (1 : Int32) else (0 : Int32)) else (0 : Int32))) (x_42 : Int32) (ex_42 : x_42 = (if x_41 = 0 then (mx (x_35 - (2 * (uni lev))) (mx ((if cr = 0 then (4 : Int32) else (3 : Int32)) * (uni lev)) (0 + (uni lev)))) else ((x_35 + (uni lev)) + 0))) (x_44 : Int32) (ex_44 : x_44 = (if x_41 = 0 then (mx (x_36 + (uni lev)) (mx (2 * (uni lev)) (x_39 - (4 * (uni lev))))) else ((x_36 + (uni lev)) + x_39))) (x_45 : Int32) (ex_45 : x_45 = (if x_41 = 0 then ((x_34 + (mx 0 x_38)) + ((uni lev) / 2)) else (mx x_34 (mx 0 x_38)))) (x_46 : Int32) (ex_46 : x_46 = (mx (mx x_35 0) (x_39 - x_44))) (x_47 : Int32) (ex_47 : x_47 = (mx (mx x_36 0) (x_40 + x_44))) : x_45 = (mAt (ML r N d) r n lev cr).1 := by
  subst_vars
  rw [mAt, if_neg (c := r 8 n = -1 ∧ r 9 n = -1) (fun q => c_24 q.2)]
  by_cases h4 : r 4 n = 1 <;> by_cases h0 : lev = 0 <;> simp only [atW, atH, atP, atU, atD, atE, atB, scU, scL, c_14, c_24, h4, h0, not_true, not_false_eq_true, true_and, and_true, false_and, and_false, if_true, if_false, eq_self_iff_true, ite_not, if_neg Int32_10, if_pos Int32_00]
set_option maxHeartbeats 1500000 in
theorem pf_X5_measureAtom_11 (a : Nat → Nat) (v : Nat → Int32) (r : Nat → Nat → Int32) (n N d : Nat) (rk : Int32 → Nat) (lev cr : Int32) (it sz : Nat → Int32) (w0 h0 d0 u0 e0 : Int32) (hN : v 4 = nI N) (hN1 : N ≤ 120) (hn : n < N) (hd : rk (r 2 n) ≤ d) (hR : HRK r N rk) (hat : ¬ r 3 n = 4) (u_1 e_1 : Int32) (z_1 : Nat → Int32) (c_14 : ((r 8) n) = (-1)) (c_24 : ¬ (((r 9) n) = (-1))) (x_34 : Int32) (ex_34 : x_34 = (mNu (ML r N d) r n lev cr).1) (x_35 : Int32) (ex_35 : x_35 = (mNu (ML r N d) r n lev cr).2.1) (x_36 : Int32) (ex_36 : x_36 = (mNu (ML r N d) r n lev cr).2.2) (c_77 : ((r 8) n) = (-1)) (c_94 : ¬ (((r 9) n) = (-1))) (u_37 e_37 : Int32) (z_37 : Nat → Int32) (x_38 : Int32) (ex_38 : x_38 = (ML r N d ((r 9) n) (scl lev) 1).1) (x_39 : Int32) (ex_39 : x_39 = (ML r N d ((r 9) n) (scl lev) 1).2.1) (x_40 : Int32) (ex_40 : x_40 = (ML r N d ((r 9) n) (scl lev) 1).2.2) (x_41 : Int32) (ex_41 : x_41 = (if ((r 4) n) = 1 then (if lev = 0 then (1 : Int32) else (0 : Int32)) else (0 : Int32))) (x_42 : Int32) (ex_42 : x_42 = (if x_41 = 0 then (mx (x_35 - (2 * (uni lev))) (mx ((if cr = 0 then (4 : Int32) else (3 : Int32)) * (uni lev)) (0 + (uni lev)))) else ((x_35 + (uni lev)) + 0))) (x_44 : Int32) (ex_44 : x_44 = (if x_41 = 0 then (mx (x_36 + (uni lev)) (mx (2 * (uni lev)) (x_39 - (4 * (uni lev))))) else ((x_36 + (uni lev)) + x_39))) (x_45 : Int32) (ex_45 : x_45 = (if x_41 = 0 then ((x_34 + (mx 0 x_38)) + ((uni lev) / 2)) else (mx x_34 (mx 0 x_38)))) (x_46 : Int32) (ex_46 : x_46 = (mx (mx x_35 0) (x_39 - x_44))) (x_47 : Int32) (ex_47 : x_47 = (mx (mx x_36 0) (x_40 + x_44))) : x_46 = (mAt (ML r N d) r n lev cr).2.1 := by
  subst_vars
  rw [mAt, if_neg (c := r 8 n = -1 ∧ r 9 n = -1) (fun q => c_24 q.2)]
  by_cases h4 : r 4 n = 1 <;> by_cases h0 : lev = 0 <;> simp only [atW, atH, atP, atU, atD, atE, atB, scU, scL, c_14, c_24, h4, h0, not_true, not_false_eq_true, true_and, and_true, false_and, and_false, if_true, if_false, eq_self_iff_true, ite_not, if_neg Int32_10, if_pos Int32_00]
set_option maxHeartbeats 1500000 in
theorem pf_X5_measureAtom_12 (a : Nat → Nat) (v : Nat → Int32) (r : Nat → Nat → Int32) (n N d : Nat) (rk : Int32 → Nat) (lev cr : Int32) (it sz : Nat → Int32) (w0 h0 d0 u0 e0 : Int32) (hN : v 4 = nI N) (hN1 : N ≤ 120) (hn : n < N) (hd : rk (r 2 n) ≤ d) (hR : HRK r N rk) (hat : ¬ r 3 n = 4) (u_1 e_1 : Int32) (z_1 : Nat → Int32) (c_14 : ((r 8) n) = (-1)) (c_24 : ¬ (((r 9) n) = (-1))) (x_34 : Int32) (ex_34 : x_34 = (mNu (ML r N d) r n lev cr).1) (x_35 : Int32) (ex_35 : x_35 = (mNu (ML r N d) r n lev cr).2.1) (x_36 : Int32) (ex_36 : x_36 = (mNu (ML r N d) r n lev cr).2.2) (c_77 : ((r 8) n) = (-1)) (c_94 : ¬ (((r 9) n) = (-1))) (u_37 e_37 : Int32) (z_37 : Nat → Int32) (x_38 : Int32) (ex_38 : x_38 = (ML r N d ((r 9) n) (scl lev) 1).1) (x_39 : Int32) (ex_39 : x_39 = (ML r N d ((r 9) n) (scl lev) 1).2.1) (x_40 : Int32) (ex_40 : x_40 = (ML r N d ((r 9) n) (scl lev) 1).2.2) (x_41 : Int32) (ex_41 : x_41 = (if ((r 4) n) = 1 then (if lev = 0 then (1 : Int32) else (0 : Int32)) else (0 : Int32))) (x_42 : Int32) (ex_42 : x_42 = (if x_41 = 0 then (mx (x_35 - (2 * (uni lev))) (mx ((if cr = 0 then (4 : Int32) else (3 : Int32)) * (uni lev)) (0 + (uni lev)))) else ((x_35 + (uni lev)) + 0))) (x_44 : Int32) (ex_44 : x_44 = (if x_41 = 0 then (mx (x_36 + (uni lev)) (mx (2 * (uni lev)) (x_39 - (4 * (uni lev))))) else ((x_36 + (uni lev)) + x_39))) (x_45 : Int32) (ex_45 : x_45 = (if x_41 = 0 then ((x_34 + (mx 0 x_38)) + ((uni lev) / 2)) else (mx x_34 (mx 0 x_38)))) (x_46 : Int32) (ex_46 : x_46 = (mx (mx x_35 0) (x_39 - x_44))) (x_47 : Int32) (ex_47 : x_47 = (mx (mx x_36 0) (x_40 + x_44))) : x_47 = (mAt (ML r N d) r n lev cr).2.2 := by
  subst_vars
  rw [mAt, if_neg (c := r 8 n = -1 ∧ r 9 n = -1) (fun q => c_24 q.2)]
  by_cases h4 : r 4 n = 1 <;> by_cases h0 : lev = 0 <;> simp only [atW, atH, atP, atU, atD, atE, atB, scU, scL, c_14, c_24, h4, h0, not_true, not_false_eq_true, true_and, and_true, false_and, and_false, if_true, if_false, eq_self_iff_true, ite_not, if_neg Int32_10, if_pos Int32_00]
set_option maxHeartbeats 1500000 in
theorem pf_X5_measureAtom_13 (a : Nat → Nat) (v : Nat → Int32) (r : Nat → Nat → Int32) (n N d : Nat) (rk : Int32 → Nat) (lev cr : Int32) (it sz : Nat → Int32) (w0 h0 d0 u0 e0 : Int32) (hN : v 4 = nI N) (hN1 : N ≤ 120) (hn : n < N) (hd : rk (r 2 n) ≤ d) (hR : HRK r N rk) (hat : ¬ r 3 n = 4) (u_1 e_1 : Int32) (z_1 : Nat → Int32) (c_14 : ((r 8) n) = (-1)) (c_24 : ¬ (((r 9) n) = (-1))) (x_34 : Int32) (ex_34 : x_34 = (mNu (ML r N d) r n lev cr).1) (x_35 : Int32) (ex_35 : x_35 = (mNu (ML r N d) r n lev cr).2.1) (x_36 : Int32) (ex_36 : x_36 = (mNu (ML r N d) r n lev cr).2.2) (c_77 : ((r 8) n) = (-1)) (c_94 : ¬ (((r 9) n) = (-1))) (u_37 e_37 : Int32) (z_37 : Nat → Int32) (x_38 : Int32) (ex_38 : x_38 = (ML r N d ((r 9) n) (scl lev) 1).1) (x_39 : Int32) (ex_39 : x_39 = (ML r N d ((r 9) n) (scl lev) 1).2.1) (x_40 : Int32) (ex_40 : x_40 = (ML r N d ((r 9) n) (scl lev) 1).2.2) (x_41 : Int32) (ex_41 : x_41 = (if ((r 4) n) = 1 then (if lev = 0 then (1 : Int32) else (0 : Int32)) else (0 : Int32))) (x_42 : Int32) (ex_42 : x_42 = (if x_41 = 0 then (mx (x_35 - (2 * (uni lev))) (mx ((if cr = 0 then (4 : Int32) else (3 : Int32)) * (uni lev)) (0 + (uni lev)))) else ((x_35 + (uni lev)) + 0))) (x_44 : Int32) (ex_44 : x_44 = (if x_41 = 0 then (mx (x_36 + (uni lev)) (mx (2 * (uni lev)) (x_39 - (4 * (uni lev))))) else ((x_36 + (uni lev)) + x_39))) (x_45 : Int32) (ex_45 : x_45 = (if x_41 = 0 then ((x_34 + (mx 0 x_38)) + ((uni lev) / 2)) else (mx x_34 (mx 0 x_38)))) (x_46 : Int32) (ex_46 : x_46 = (mx (mx x_35 0) (x_39 - x_44))) (x_47 : Int32) (ex_47 : x_47 = (mx (mx x_36 0) (x_40 + x_44))) : x_42 = (atU (ML r N d) r n lev cr) := by
  subst_vars
  by_cases h4 : r 4 n = 1 <;> by_cases h0 : lev = 0 <;> simp only [atU, atD, atE, atB, scU, scL, c_14, c_24, h4, h0, not_true, not_false_eq_true, true_and, and_true, false_and, and_false, if_true, if_false, eq_self_iff_true, ite_not, if_neg Int32_10, if_pos Int32_00]
set_option maxHeartbeats 1500000 in
theorem pf_X5_measureAtom_14 (a : Nat → Nat) (v : Nat → Int32) (r : Nat → Nat → Int32) (n N d : Nat) (rk : Int32 → Nat) (lev cr : Int32) (it sz : Nat → Int32) (w0 h0 d0 u0 e0 : Int32) (hN : v 4 = nI N) (hN1 : N ≤ 120) (hn : n < N) (hd : rk (r 2 n) ≤ d) (hR : HRK r N rk) (hat : ¬ r 3 n = 4) (u_1 e_1 : Int32) (z_1 : Nat → Int32) (c_14 : ((r 8) n) = (-1)) (c_24 : ¬ (((r 9) n) = (-1))) (x_34 : Int32) (ex_34 : x_34 = (mNu (ML r N d) r n lev cr).1) (x_35 : Int32) (ex_35 : x_35 = (mNu (ML r N d) r n lev cr).2.1) (x_36 : Int32) (ex_36 : x_36 = (mNu (ML r N d) r n lev cr).2.2) (c_77 : ((r 8) n) = (-1)) (c_94 : ¬ (((r 9) n) = (-1))) (u_37 e_37 : Int32) (z_37 : Nat → Int32) (x_38 : Int32) (ex_38 : x_38 = (ML r N d ((r 9) n) (scl lev) 1).1) (x_39 : Int32) (ex_39 : x_39 = (ML r N d ((r 9) n) (scl lev) 1).2.1) (x_40 : Int32) (ex_40 : x_40 = (ML r N d ((r 9) n) (scl lev) 1).2.2) (x_41 : Int32) (ex_41 : x_41 = (if ((r 4) n) = 1 then (if lev = 0 then (1 : Int32) else (0 : Int32)) else (0 : Int32))) (x_42 : Int32) (ex_42 : x_42 = (if x_41 = 0 then (mx (x_35 - (2 * (uni lev))) (mx ((if cr = 0 then (4 : Int32) else (3 : Int32)) * (uni lev)) (0 + (uni lev)))) else ((x_35 + (uni lev)) + 0))) (x_44 : Int32) (ex_44 : x_44 = (if x_41 = 0 then (mx (x_36 + (uni lev)) (mx (2 * (uni lev)) (x_39 - (4 * (uni lev))))) else ((x_36 + (uni lev)) + x_39))) (x_45 : Int32) (ex_45 : x_45 = (if x_41 = 0 then ((x_34 + (mx 0 x_38)) + ((uni lev) / 2)) else (mx x_34 (mx 0 x_38)))) (x_46 : Int32) (ex_46 : x_46 = (mx (mx x_35 0) (x_39 - x_44))) (x_47 : Int32) (ex_47 : x_47 = (mx (mx x_36 0) (x_40 + x_44))) : x_44 = (atD (ML r N d) r n lev cr) := by
  subst_vars
  by_cases h4 : r 4 n = 1 <;> by_cases h0 : lev = 0 <;> simp only [atU, atD, atE, atB, scU, scL, c_14, c_24, h4, h0, not_true, not_false_eq_true, true_and, and_true, false_and, and_false, if_true, if_false, eq_self_iff_true, ite_not, if_neg Int32_10, if_pos Int32_00]
set_option maxHeartbeats 1500000 in
theorem pf_X5_measureAtom_15 (a : Nat → Nat) (v : Nat → Int32) (r : Nat → Nat → Int32) (n N d : Nat) (rk : Int32 → Nat) (lev cr : Int32) (it sz : Nat → Int32) (w0 h0 d0 u0 e0 : Int32) (hN : v 4 = nI N) (hN1 : N ≤ 120) (hn : n < N) (hd : rk (r 2 n) ≤ d) (hR : HRK r N rk) (hat : ¬ r 3 n = 4) (u_1 e_1 : Int32) (z_1 : Nat → Int32) (c_14 : ((r 8) n) = (-1)) (c_24 : ((r 9) n) = (-1)) : (mNu (ML r N d) r n lev cr).1 = (mAt (ML r N d) r n lev cr).1 := by
  rw [mAt, if_pos ⟨c_14, c_24⟩]
set_option maxHeartbeats 1500000 in
theorem pf_X5_measureAtom_16 (a : Nat → Nat) (v : Nat → Int32) (r : Nat → Nat → Int32) (n N d : Nat) (rk : Int32 → Nat) (lev cr : Int32) (it sz : Nat → Int32) (w0 h0 d0 u0 e0 : Int32) (hN : v 4 = nI N) (hN1 : N ≤ 120) (hn : n < N) (hd : rk (r 2 n) ≤ d) (hR : HRK r N rk) (hat : ¬ r 3 n = 4) (u_1 e_1 : Int32) (z_1 : Nat → Int32) (c_14 : ((r 8) n) = (-1)) (c_24 : ((r 9) n) = (-1)) : (mNu (ML r N d) r n lev cr).2.1 = (mAt (ML r N d) r n lev cr).2.1 := by
  rw [mAt, if_pos ⟨c_14, c_24⟩]
set_option maxHeartbeats 1500000 in
theorem pf_X5_measureAtom_17 (a : Nat → Nat) (v : Nat → Int32) (r : Nat → Nat → Int32) (n N d : Nat) (rk : Int32 → Nat) (lev cr : Int32) (it sz : Nat → Int32) (w0 h0 d0 u0 e0 : Int32) (hN : v 4 = nI N) (hN1 : N ≤ 120) (hn : n < N) (hd : rk (r 2 n) ≤ d) (hR : HRK r N rk) (hat : ¬ r 3 n = 4) (u_1 e_1 : Int32) (z_1 : Nat → Int32) (c_14 : ((r 8) n) = (-1)) (c_24 : ((r 9) n) = (-1)) : (mNu (ML r N d) r n lev cr).2.2 = (mAt (ML r N d) r n lev cr).2.2 := by
  rw [mAt, if_pos ⟨c_14, c_24⟩]
set_option maxHeartbeats 1500000 in
set_option maxRecDepth 100000 in
theorem c_X5_measureAtom (l : Launch) (D : va_G) (cI : ClassId) (a : Nat → Nat) (v : Nat → Int32) (r : Nat → Nat → Int32) (n N d : Nat) (rk : Int32 → Nat) (lev cr : Int32) (it sz : Nat → Int32) (w0 h0 d0 u0 e0 : Int32) (hM : HML l D cI a v r N rk d) (hN : v 4 = nI N) (hN1 : N ≤ 120) (hn : n < N) (hd : rk (r 2 n) ≤ d) (hR : HRK r N rk) (hat : ¬ r 3 n = 4) (hMa : HMA l D cI a v r N rk d n) : KV l D cI yX5_measureAtom wsX5_measureAtom (rmA d) [.ref (a 0), .int (nI n), .int lev, .int cr] (wM cI a (vU (vU (vU (vU (vU v 19 w0) 20 h0) 21 d0) 22 u0) 23 e0) (rU (rU r 11 it) 12 sz)) (fun z : Int32 × Int32 × (Nat → Int32) => wM cI a (v5 v (mAt (ML r N d) r n lev cr).1 (mAt (ML r N d) r n lev cr).2.1 (mAt (ML r N d) r n lev cr).2.2 z.1 z.2.1) (r2 r it z.2.2)) (fun z => (∀ i, rk (r 2 n) < rk (r 2 i) → ∀ k, k < 16 → z.2.2 (16 * i + k) = sz (16 * i + k)) ∧ (¬ (r 8 n = -1 ∧ r 9 n = -1) → z.1 = atU (ML r N d) r n lev cr ∧ z.2.1 = atD (ML r N d) r n lev cr)) := by
  refine KV.of (cc := cX5_measureAtom) (nL := 21) (ret := none) (by decide) rfl (Nat.le_of_ble_eq_true rfl) ?_
  intro pg9 en9 s m args below meth cd9 A ls C0 hP hD hS hl
  have hx := C0.1.1
  have hb := C0.1.2.1
  have hml := C0.1.2.2.1
  have hown : s.vm.findClass RX5 = some m.cls := C0.1.2.2.2.1
  have hts : ∀ w ∈ wsX5_measureAtom, w.before args s = true := C0.1.2.2.2.2
  have hK := C0.2.2.2.1
  have hin_X5 : ∀ w ∈ wsX50, w ∈ wsX5_measureAtom := fun w h => List.mem_cons_of_mem _ (List.mem_append_right _ h)
  have hf35 : (Cond.fieldLink RX5 35 "FormulaListsModel" "upper" "[I").before args s = true := hts _ (by decide +kernel)
  have hf96 : (Cond.fieldLink RX5 96 "FormulaListsModel" "width" "I").before args s = true := hts _ (by decide +kernel)
  have hf99 : (Cond.fieldLink RX5 99 "FormulaListsModel" "height" "I").before args s = true := hts _ (by decide +kernel)
  have hf102 : (Cond.fieldLink RX5 102 "FormulaListsModel" "depth" "I").before args s = true := hts _ (by decide +kernel)
  have hf38 : (Cond.fieldLink RX5 38 "FormulaListsModel" "lower" "[I").before args s = true := hts _ (by decide +kernel)
  have hf23 : (Cond.fieldLink RX5 23 "FormulaListsModel" "kinds" "[I").before args s = true := hts _ (by decide +kernel)
  have hf125 : (Cond.fieldLink RX5 125 "FormulaListsModel" "upAt" "I").before args s = true := hts _ (by decide +kernel)
  have hf128 : (Cond.fieldLink RX5 128 "FormulaListsModel" "downAt" "I").before args s = true := hts _ (by decide +kernel)
  have hl : lv_has ls 21 [(0, .ref (a 0)), (1, .int (nI n)), (2, .int lev), (3, .int cr)] := hl
  have hP : va_P D vwCl (wM cI a (vU (vU (vU (vU (vU v 19 w0) 20 h0) 21 d0) 22 u0) 23 e0) (rU (rU r 11 it) 12 sz)) s.heap := hP
  obtain ⟨-, -, -, -, hq8, hq9⟩ := hR n hn hat
  refine lv_aload_n hx hb dX5_measureAtom_0 rfl (lv_at hl 0 rfl) ?_
  refine lv_iload_n hx hb dX5_measureAtom_1 rfl (lv_at hl 1 rfl) ?_
  refine lv_iload_n hx hb dX5_measureAtom_2 rfl (lv_at hl 2 rfl) ?_
  refine lv_iload_n hx hb dX5_measureAtom_3 rfl (lv_at hl 3 rfl) ?_
  refine kcVv C0 hP hD hS (c_X5_measureNucleus l D cI a v r n N d rk lev cr it sz w0 h0 d0 u0 e0 hM hN hN1 hn hd hR hat hMa) (cwV 3 hts gX5_measureAtom_X5_measureNucleus rfl rfl rfl (by decide +kernel) ⟨by dsimp only [rmL, rmF, rmN, rmA]; omega, by dsimp only [rmL, rmF, rmN, rmA]; omega⟩) 0 5 rfl rfl rfl hl.1 rfl (Nat.le_of_ble_eq_true rfl) dX5_measureAtom_4 ⟨Nat.zero_le _, Nat.zero_le _⟩ (fun u H locs hq hP hD hS => ?_)
  obtain ⟨u_1, e_1, z_1⟩ := u
  have hz_1 : ∀ i, rk (r 2 n) < rk (r 2 i) → ∀ k, k < 16 → z_1 (16 * i + k) = sz (16 * i + k) := hq
  have hP : va_P D vwCl (wM cI a (vU (vU (vU (vU (vU v 19 ((mNu (ML r N d) r n lev cr).1)) 20 ((mNu (ML r N d) r n lev cr).2.1)) 21 ((mNu (ML r N d) r n lev cr).2.2)) 22 u_1) 23 e_1) (rU (rU r 11 it) 12 z_1)) H := hP
  have hD : va_D A (wM cI a (vU (vU (vU (vU (vU v 19 ((mNu (ML r N d) r n lev cr).1)) 20 ((mNu (ML r N d) r n lev cr).2.1)) 21 ((mNu (ML r N d) r n lev cr).2.2)) 22 u_1) 23 e_1) (rU (rU r 11 it) 12 z_1)) := hD
  refine lv_aload_n hx hb dX5_measureAtom_7 rfl (lv_at hl 0 rfl) ?_
  refine va_get (D := D) (ci := 5) (v := .ref (a 8)) (C := RX5) (T := TX5) (N := 25) hx hb hts hin_X5 hown hK hP 0 rfl rfl 11 (by decide) hf35 (fun _ h9 => h9) rfl dX5_measureAtom_8 ?_
  refine lv_iload_n hx hb dX5_measureAtom_11 rfl (lv_at hl 1 rfl) ?_
  refine ra_ld (f := (r 8)) C0 hP 8 rfl n rfl (by omega) (by decide) dX5_measureAtom_12 ?_
  refine lv_iconst (v := (-1)) hx hb dX5_measureAtom_13 (by decide) ?_
  refine lv_icmp_ne (tgt := 28) hx hb dX5_measureAtom_14 (by decide) (fun c_14 => ?_) (fun c_14 => ?_)
  · skip
    refine lv_iload_n hx hb dX5_measureAtom_28 rfl (lv_at hl 2 rfl) ?_
    refine kcS (ans := (uni lev)) C0 hP hS (c_X5_unit l D cI lev ) (va_cwS 1 hts gX5_measureAtom_X5_unit rfl rfl rfl (by decide +kernel) ⟨by dsimp only [rmL, rmF, rmN, rmA]; omega, by dsimp only [rmL, rmF, rmN, rmA]; omega⟩) rfl hl.1 rfl (Nat.le_of_ble_eq_true rfl) dX5_measureAtom_29 ⟨Nat.zero_le _, Nat.zero_le _⟩ (fun H locs hP hS => ?_)
    refine lv_istore (lv' := [(4, .int (uni lev)), (0, .ref (a 0)), (1, .int (nI n)), (2, .int lev), (3, .int cr)]) hx hb dX5_measureAtom_32 hl (by decide) rfl (fun ls hl => ?_)
    refine lv_aload_n hx hb dX5_measureAtom_34 rfl (lv_at hl 1 rfl) ?_
    refine va_get (D := D) (ci := 5) (v := .int ((mNu (ML r N d) r n lev cr).1)) (C := RX5) (T := TX5) (N := 25) hx hb hts hin_X5 hown hK hP 0 rfl rfl 19 (by decide) hf96 (fun _ h9 => h9) rfl dX5_measureAtom_35 ?_
    refine lv_topi (fun x_2 ex_2 => ?_)
    refine lv_istore (lv' := [(5, .int x_2), (4, .int (uni lev)), (0, .ref (a 0)), (1, .int (nI n)), (2, .int lev), (3, .int cr)]) hx hb dX5_measureAtom_38 hl (by decide) rfl (fun ls hl => ?_)
    refine lv_aload_n hx hb dX5_measureAtom_40 rfl (lv_at hl 2 rfl) ?_
    refine va_get (D := D) (ci := 5) (v := .int ((mNu (ML r N d) r n lev cr).2.1)) (C := RX5) (T := TX5) (N := 25) hx hb hts hin_X5 hown hK hP 0 rfl rfl 20 (by decide) hf99 (fun _ h9 => h9) rfl dX5_measureAtom_41 ?_
    refine lv_topi (fun x_3 ex_3 => ?_)
    refine lv_istore (lv' := [(6, .int x_3), (5, .int x_2), (4, .int (uni lev)), (0, .ref (a 0)), (1, .int (nI n)), (2, .int lev), (3, .int cr)]) hx hb dX5_measureAtom_44 hl (by decide) rfl (fun ls hl => ?_)
    refine lv_aload_n hx hb dX5_measureAtom_46 rfl (lv_at hl 3 rfl) ?_
    refine va_get (D := D) (ci := 5) (v := .int ((mNu (ML r N d) r n lev cr).2.2)) (C := RX5) (T := TX5) (N := 25) hx hb hts hin_X5 hown hK hP 0 rfl rfl 21 (by decide) hf102 (fun _ h9 => h9) rfl dX5_measureAtom_47 ?_
    refine lv_topi (fun x_4 ex_4 => ?_)
    refine lv_istore (lv' := [(7, .int x_4), (6, .int x_3), (5, .int x_2), (4, .int (uni lev)), (0, .ref (a 0)), (1, .int (nI n)), (2, .int lev), (3, .int cr)]) hx hb dX5_measureAtom_50 hl (by decide) rfl (fun ls hl => ?_)
    refine lv_iconst (v := 0) hx hb dX5_measureAtom_52 (by decide) ?_
    refine lv_istore (lv' := [(8, .int 0), (7, .int x_4), (6, .int x_3), (5, .int x_2), (4, .int (uni lev)), (0, .ref (a 0)), (1, .int (nI n)), (2, .int lev), (3, .int cr)]) hx hb dX5_measureAtom_53 hl (by decide) rfl (fun ls hl => ?_)
    refine lv_iconst (v := 0) hx hb dX5_measureAtom_55 (by decide) ?_
    refine lv_istore (lv' := [(9, .int 0), (8, .int 0), (7, .int x_4), (6, .int x_3), (5, .int x_2), (4, .int (uni lev)), (0, .ref (a 0)), (1, .int (nI n)), (2, .int lev), (3, .int cr)]) hx hb dX5_measureAtom_56 hl (by decide) rfl (fun ls hl => ?_)
    refine lv_iconst (v := 0) hx hb dX5_measureAtom_58 (by decide) ?_
    refine lv_istore (lv' := [(10, .int 0), (9, .int 0), (8, .int 0), (7, .int x_4), (6, .int x_3), (5, .int x_2), (4, .int (uni lev)), (0, .ref (a 0)), (1, .int (nI n)), (2, .int lev), (3, .int cr)]) hx hb dX5_measureAtom_59 hl (by decide) rfl (fun ls hl => ?_)
    refine lv_iconst (v := 0) hx hb dX5_measureAtom_61 (by decide) ?_
    refine lv_istore (lv' := [(11, .int 0), (10, .int 0), (9, .int 0), (8, .int 0), (7, .int x_4), (6, .int x_3), (5, .int x_2), (4, .int (uni lev)), (0, .ref (a 0)), (1, .int (nI n)), (2, .int lev), (3, .int cr)]) hx hb dX5_measureAtom_62 hl (by decide) rfl (fun ls hl => ?_)
    refine lv_iconst (v := 0) hx hb dX5_measureAtom_64 (by decide) ?_
    refine lv_istore (lv' := [(12, .int 0), (11, .int 0), (10, .int 0), (9, .int 0), (8, .int 0), (7, .int x_4), (6, .int x_3), (5, .int x_2), (4, .int (uni lev)), (0, .ref (a 0)), (1, .int (nI n)), (2, .int lev), (3, .int cr)]) hx hb dX5_measureAtom_65 hl (by decide) rfl (fun ls hl => ?_)
    refine lv_iconst (v := 0) hx hb dX5_measureAtom_67 (by decide) ?_
    refine lv_istore (lv' := [(13, .int 0), (12, .int 0), (11, .int 0), (10, .int 0), (9, .int 0), (8, .int 0), (7, .int x_4), (6, .int x_3), (5, .int x_2), (4, .int (uni lev)), (0, .ref (a 0)), (1, .int (nI n)), (2, .int lev), (3, .int cr)]) hx hb dX5_measureAtom_68 hl (by decide) rfl (fun ls hl => ?_)
    refine lv_aload_n hx hb dX5_measureAtom_70 rfl (lv_at hl 10 rfl) ?_
    refine va_get (D := D) (ci := 5) (v := .ref (a 8)) (C := RX5) (T := TX5) (N := 25) hx hb hts hin_X5 hown hK hP 0 rfl rfl 11 (by decide) hf35 (fun _ h9 => h9) rfl dX5_measureAtom_71 ?_
    refine lv_iload_n hx hb dX5_measureAtom_74 rfl (lv_at hl 11 rfl) ?_
    refine ra_ld (f := (r 8)) C0 hP 8 rfl n rfl (by omega) (by decide) dX5_measureAtom_75 ?_
    refine lv_iconst (v := (-1)) hx hb dX5_measureAtom_76 (by decide) ?_
    refine lv_icmp_eq (tgt := 84) hx hb dX5_measureAtom_77 (by decide) (fun c_77 => absurd c_77 c_14) (fun c_77 => ?_)
    refine lv_iconst (v := 1) hx hb dX5_measureAtom_80 (by decide) ?_
    refine lv_goto (tgt := 85) hx hb dX5_measureAtom_81 (by decide) ?_
    refine lv_istore (lv' := [(14, .int 1), (13, .int 0), (12, .int 0), (11, .int 0), (10, .int 0), (9, .int 0), (8, .int 0), (7, .int x_4), (6, .int x_3), (5, .int x_2), (4, .int (uni lev)), (0, .ref (a 0)), (1, .int (nI n)), (2, .int lev), (3, .int cr)]) hx hb dX5_measureAtom_85 hl (by decide) rfl (fun ls hl => ?_)
    refine lv_aload_n hx hb dX5_measureAtom_87 rfl (lv_at hl 11 rfl) ?_
    refine va_get (D := D) (ci := 5) (v := .ref (a 9)) (C := RX5) (T := TX5) (N := 25) hx hb hts hin_X5 hown hK hP 0 rfl rfl 12 (by decide) hf38 (fun _ h9 => h9) rfl dX5_measureAtom_88 ?_
    refine lv_iload_n hx hb dX5_measureAtom_91 rfl (lv_at hl 12 rfl) ?_
    refine ra_ld (f := (r 9)) C0 hP 9 rfl n rfl (by omega) (by decide) dX5_measureAtom_92 ?_
    refine lv_iconst (v := (-1)) hx hb dX5_measureAtom_93 (by decide) ?_
    refine lv_icmp_eq (tgt := 101) hx hb dX5_measureAtom_94 (by decide) (fun c_94 => ?_) (fun c_94 => ?_)
    · skip
      refine lv_iconst (v := 0) hx hb dX5_measureAtom_101 (by decide) ?_
      refine lv_istore (lv' := [(15, .int 0), (14, .int 1), (13, .int 0), (12, .int 0), (11, .int 0), (10, .int 0), (9, .int 0), (8, .int 0), (7, .int x_4), (6, .int x_3), (5, .int x_2), (4, .int (uni lev)), (0, .ref (a 0)), (1, .int (nI n)), (2, .int lev), (3, .int cr)]) hx hb dX5_measureAtom_102 hl (by decide) rfl (fun ls hl => ?_)
      refine lv_iload hx hb dX5_measureAtom_104 (lv_at hl 1 rfl) ?_
      refine lv_if_eq (tgt := 142) hx hb dX5_measureAtom_106 (by decide) (fun c_106 => absurd c_106 (by decide)) (fun c_106 => ?_)
      have hs8 := hq8 c_14
      refine lv_aload_n hx hb dX5_measureAtom_109 rfl (lv_at hl 12 rfl) ?_
      refine lv_aload_n hx hb dX5_measureAtom_110 rfl (lv_at hl 12 rfl) ?_
      refine va_get (D := D) (ci := 5) (v := .ref (a 8)) (C := RX5) (T := TX5) (N := 25) hx hb hts hin_X5 hown hK hP 0 rfl rfl 11 (by decide) hf35 (fun _ h9 => h9) rfl dX5_measureAtom_111 ?_
      refine lv_iload_n hx hb dX5_measureAtom_114 rfl (lv_at hl 13 rfl) ?_
      refine ra_ld (f := (r 8)) C0 hP 8 rfl n rfl (by omega) (by decide) dX5_measureAtom_115 ?_
      refine lv_iload_n hx hb dX5_measureAtom_116 rfl (lv_at hl 14 rfl) ?_
      refine kcS (ans := (scl lev)) C0 hP hS (c_X5_scriptLevel l D cI lev ) (va_cwS 1 hts gX5_measureAtom_X5_scriptLevel rfl rfl rfl (by decide +kernel) ⟨by dsimp only [rmL, rmF, rmN, rmA]; omega, by dsimp only [rmL, rmF, rmN, rmA]; omega⟩) rfl hl.1 rfl (Nat.le_of_ble_eq_true rfl) dX5_measureAtom_117 ⟨Nat.zero_le _, Nat.zero_le _⟩ (fun H locs hP hS => ?_)
      refine lv_iload_n hx hb dX5_measureAtom_120 rfl (lv_at hl 15 rfl) ?_
      refine kcVv C0 hP hD hS (hM ((r 8) n) (scl lev) cr it z_1 ((mNu (ML r N d) r n lev cr).1) ((mNu (ML r N d) r n lev cr).2.1) ((mNu (ML r N d) r n lev cr).2.2) u_1 e_1 (by omega)) (cwV 3 hts gX5_measureAtom_X5_measureList rfl rfl rfl (by decide +kernel) ⟨by dsimp only [rmL, rmF, rmN, rmA]; omega, by dsimp only [rmL, rmF, rmN, rmA]; omega⟩) 0 5 rfl rfl rfl hl.1 rfl (Nat.le_of_ble_eq_true rfl) dX5_measureAtom_121 ⟨Nat.zero_le _, Nat.zero_le _⟩ (fun u H locs hq hP hD hS => ?_)
      obtain ⟨u_5, e_5, z_5⟩ := u
      have hz_5 : ∀ i2, rk ((r 8) n) < rk (r 2 i2) → ∀ k, k < 16 → z_5 (16 * i2 + k) = z_1 (16 * i2 + k) := hq
      have hP : va_P D vwCl (wM cI a (vU (vU (vU (vU (vU v 19 ((ML r N d ((r 8) n) (scl lev) cr).1)) 20 ((ML r N d ((r 8) n) (scl lev) cr).2.1)) 21 ((ML r N d ((r 8) n) (scl lev) cr).2.2)) 22 u_5) 23 e_5) (rU (rU r 11 it) 12 z_5)) H := hP
      have hD : va_D A (wM cI a (vU (vU (vU (vU (vU v 19 ((ML r N d ((r 8) n) (scl lev) cr).1)) 20 ((ML r N d ((r 8) n) (scl lev) cr).2.1)) 21 ((ML r N d ((r 8) n) (scl lev) cr).2.2)) 22 u_5) 23 e_5) (rU (rU r 11 it) 12 z_5)) := hD
      refine lv_aload_n hx hb dX5_measureAtom_124 rfl (lv_at hl 12 rfl) ?_
      refine va_get (D := D) (ci := 5) (v := .int ((ML r N d ((r 8) n) (scl lev) cr).1)) (C := RX5) (T := TX5) (N := 25) hx hb hts hin_X5 hown hK hP 0 rfl rfl 19 (by decide) hf96 (fun _ h9 => h9) rfl dX5_measureAtom_125 ?_
      refine lv_topi (fun x_6 ex_6 => ?_)
      refine lv_istore (lv' := [(8, .int x_6), (15, .int 0), (14, .int 1), (13, .int 0), (12, .int 0), (11, .int 0), (10, .int 0), (9, .int 0), (7, .int x_4), (6, .int x_3), (5, .int x_2), (4, .int (uni lev)), (0, .ref (a 0)), (1, .int (nI n)), (2, .int lev), (3, .int cr)]) hx hb dX5_measureAtom_128 hl (by decide) rfl (fun ls hl => ?_)
      refine lv_aload_n hx hb dX5_measureAtom_130 rfl (lv_at hl 12 rfl) ?_
      refine va_get (D := D) (ci := 5) (v := .int ((ML r N d ((r 8) n) (scl lev) cr).2.1)) (C := RX5) (T := TX5) (N := 25) hx hb hts hin_X5 hown hK hP 0 rfl rfl 20 (by decide) hf99 (fun _ h9 => h9) rfl dX5_measureAtom_131 ?_
      refine lv_topi (fun x_7 ex_7 => ?_)
      refine lv_istore (lv' := [(9, .int x_7), (8, .int x_6), (15, .int 0), (14, .int 1), (13, .int 0), (12, .int 0), (11, .int 0), (10, .int 0), (7, .int x_4), (6, .int x_3), (5, .int x_2), (4, .int (uni lev)), (0, .ref (a 0)), (1, .int (nI n)), (2, .int lev), (3, .int cr)]) hx hb dX5_measureAtom_134 hl (by decide) rfl (fun ls hl => ?_)
      refine lv_aload_n hx hb dX5_measureAtom_136 rfl (lv_at hl 12 rfl) ?_
      refine va_get (D := D) (ci := 5) (v := .int ((ML r N d ((r 8) n) (scl lev) cr).2.2)) (C := RX5) (T := TX5) (N := 25) hx hb hts hin_X5 hown hK hP 0 rfl rfl 21 (by decide) hf102 (fun _ h9 => h9) rfl dX5_measureAtom_137 ?_
      refine lv_topi (fun x_8 ex_8 => ?_)
      refine lv_istore (lv' := [(10, .int x_8), (9, .int x_7), (8, .int x_6), (15, .int 0), (14, .int 1), (13, .int 0), (12, .int 0), (11, .int 0), (7, .int x_4), (6, .int x_3), (5, .int x_2), (4, .int (uni lev)), (0, .ref (a 0)), (1, .int (nI n)), (2, .int lev), (3, .int cr)]) hx hb dX5_measureAtom_140 hl (by decide) rfl (fun ls hl => ?_)
      refine lv_iload hx hb dX5_measureAtom_142 (lv_at hl 3 rfl) ?_
      refine lv_if_eq (tgt := 180) hx hb dX5_measureAtom_144 (by decide) (fun c_144 => ?_) (fun c_144 => absurd (by decide) c_144)
      refine lv_aload_n hx hb dX5_measureAtom_180 rfl (lv_at hl 12 rfl) ?_
      refine va_get (D := D) (ci := 5) (v := .ref (a 4)) (C := RX5) (T := TX5) (N := 25) hx hb hts hin_X5 hown hK hP 0 rfl rfl 7 (by decide) hf23 (fun _ h9 => h9) rfl dX5_measureAtom_181 ?_
      refine lv_iload_n hx hb dX5_measureAtom_184 rfl (lv_at hl 13 rfl) ?_
      refine ra_ld (f := (r 4)) C0 hP 4 rfl n rfl (by omega) (by decide) dX5_measureAtom_185 ?_
      refine lv_iconst (v := 1) hx hb dX5_measureAtom_186 (by decide) ?_
      obtain ⟨x_9, ex_9⟩ : ∃ zz_ : Int32, zz_ = (if ((r 4) n) = 1 then (if lev = 0 then (1 : Int32) else (0 : Int32)) else (0 : Int32)) := ⟨_, rfl⟩
      refine jW (D := D) hD hl 199 (wM cI a (vU (vU (vU (vU (vU v 19 ((ML r N d ((r 8) n) (scl lev) cr).1)) 20 ((ML r N d ((r 8) n) (scl lev) cr).2.1)) 21 ((ML r N d ((r 8) n) (scl lev) cr).2.2)) 22 u_5) 23 e_5) (rU (rU r 11 it) 12 z_5)) [(10, .int x_8), (9, .int x_7), (8, .int x_6), (15, .int 0), (14, .int 1), (13, .int 0), (12, .int 0), (11, .int 0), (7, .int x_4), (6, .int x_3), (5, .int x_2), (4, .int (uni lev)), (0, .ref (a 0)), (1, .int (nI n)), (2, .int lev), (3, .int cr)] [.int x_9] (fun hJ => ?_) (fun H locs ls hP hD hS hl => ?_)
      · skip
        refine lv_icmp_ne (tgt := 198) hx hb dX5_measureAtom_187 (by decide) (fun c_187 => ?_) (fun c_187 => ?_)
        · skip
          refine lv_iconst (v := 0) hx hb dX5_measureAtom_198 (by decide) ?_
          have gx_9 : x_9 = 0 := by rw [ex_9]; simp only [if_neg c_187]
          simp only [gx_9] at hJ
          exact hJ _ _ _ hP hD hS (lv_sub hl [0, 1, 2, 3, 4, 5, 6, 7, 8, 9, 10, 11, 12, 13, 14, 15] rfl)
        · skip
          refine lv_iload_n hx hb dX5_measureAtom_190 rfl (lv_at hl 14 rfl) ?_
          refine lv_if_ne (tgt := 198) hx hb dX5_measureAtom_191 (by decide) (fun c_191 => ?_) (fun c_191 => ?_)
          · skip
            refine lv_iconst (v := 0) hx hb dX5_measureAtom_198 (by decide) ?_
            have gx_9 : x_9 = 0 := by rw [ex_9]; simp only [if_pos c_187, if_neg c_191]
            simp only [gx_9] at hJ
            exact hJ _ _ _ hP hD hS (lv_sub hl [0, 1, 2, 3, 4, 5, 6, 7, 8, 9, 10, 11, 12, 13, 14, 15] rfl)
          · skip
            refine lv_iconst (v := 1) hx hb dX5_measureAtom_194 (by decide) ?_
            refine lv_goto (tgt := 199) hx hb dX5_measureAtom_195 (by decide) ?_
            have gx_9 : x_9 = 1 := by rw [ex_9]; simp only [if_pos c_187, if_pos c_191]
            simp only [gx_9] at hJ
            exact hJ _ _ _ hP hD hS (lv_sub hl [0, 1, 2, 3, 4, 5, 6, 7, 8, 9, 10, 11, 12, 13, 14, 15] rfl)
      · skip
        refine lv_istore (lv' := [(16, .int x_9), (10, .int x_8), (9, .int x_7), (8, .int x_6), (15, .int 0), (14, .int 1), (13, .int 0), (12, .int 0), (11, .int 0), (7, .int x_4), (6, .int x_3), (5, .int x_2), (4, .int (uni lev)), (0, .ref (a 0)), (1, .int (nI n)), (2, .int lev), (3, .int cr)]) hx hb dX5_measureAtom_199 hl (by decide) rfl (fun ls hl => ?_)
        refine lv_iload hx hb dX5_measureAtom_201 (lv_at hl 0 rfl) ?_
        obtain ⟨x_10, ex_10⟩ : ∃ zz_ : Int32, zz_ = (if x_9 = 0 then (mx (x_3 - (2 * (uni lev))) (mx ((if cr = 0 then (4 : Int32) else (3 : Int32)) * (uni lev)) (x_8 + (uni lev)))) else ((x_3 + (uni lev)) + x_8)) := ⟨_, rfl⟩
        refine jW (D := D) hD hl 247 (wM cI a (vU (vU (vU (vU (vU v 19 ((ML r N d ((r 8) n) (scl lev) cr).1)) 20 ((ML r N d ((r 8) n) (scl lev) cr).2.1)) 21 ((ML r N d ((r 8) n) (scl lev) cr).2.2)) 22 u_5) 23 e_5) (rU (rU r 11 it) 12 z_5)) [(16, .int x_9), (10, .int x_8), (9, .int x_7), (8, .int x_6), (15, .int 0), (14, .int 1), (13, .int 0), (12, .int 0), (11, .int 0), (7, .int x_4), (6, .int x_3), (5, .int x_2), (4, .int (uni lev)), (0, .ref (a 0)), (1, .int (nI n)), (2, .int lev), (3, .int cr)] [.int x_10] (fun hJ => ?_) (fun H locs ls hP hD hS hl => ?_)
        · skip
          refine lv_if_eq (tgt := 217) hx hb dX5_measureAtom_203 (by decide) (fun c_203 => ?_) (fun c_203 => ?_)
          · skip
            refine lv_iload hx hb dX5_measureAtom_217 (lv_at hl 10 rfl) ?_
            refine lv_iconst (v := 2) hx hb dX5_measureAtom_219 (by decide) ?_
            refine lv_iload hx hb dX5_measureAtom_220 (lv_at hl 12 rfl) ?_
            refine lv_imul hx hb dX5_measureAtom_222 ?_
            refine lv_isub hx hb dX5_measureAtom_223 ?_
            refine lv_iload_n hx hb dX5_measureAtom_224 rfl (lv_at hl 16 rfl) ?_
            obtain ⟨x_11, ex_11⟩ : ∃ zz_ : Int32, zz_ = (if cr = 0 then (4 : Int32) else (3 : Int32)) := ⟨_, rfl⟩
            refine jW (D := D) hD hl 233 (wM cI a (vU (vU (vU (vU (vU v 19 ((ML r N d ((r 8) n) (scl lev) cr).1)) 20 ((ML r N d ((r 8) n) (scl lev) cr).2.1)) 21 ((ML r N d ((r 8) n) (scl lev) cr).2.2)) 22 u_5) 23 e_5) (rU (rU r 11 it) 12 z_5)) [(16, .int x_9), (10, .int x_8), (9, .int x_7), (8, .int x_6), (15, .int 0), (14, .int 1), (13, .int 0), (12, .int 0), (11, .int 0), (7, .int x_4), (6, .int x_3), (5, .int x_2), (4, .int (uni lev)), (0, .ref (a 0)), (1, .int (nI n)), (2, .int lev), (3, .int cr)] [.int x_11, .int (x_3 - (2 * (uni lev)))] (fun hJ => ?_) (fun H locs ls hP hD hS hl => ?_)
            · skip
              refine lv_if_eq (tgt := 232) hx hb dX5_measureAtom_225 (by decide) (fun c_225 => ?_) (fun c_225 => ?_)
              · skip
                refine lv_iconst (v := 4) hx hb dX5_measureAtom_232 (by decide) ?_
                have gx_11 : x_11 = 4 := by rw [ex_11]; simp only [if_pos c_225]
                simp only [gx_11] at hJ
                exact hJ _ _ _ hP hD hS (lv_sub hl [0, 1, 2, 3, 4, 5, 6, 7, 8, 9, 10, 11, 12, 13, 14, 15, 16] rfl)
              · skip
                refine lv_iconst (v := 3) hx hb dX5_measureAtom_228 (by decide) ?_
                refine lv_goto (tgt := 233) hx hb dX5_measureAtom_229 (by decide) ?_
                have gx_11 : x_11 = 3 := by rw [ex_11]; simp only [if_neg c_225]
                simp only [gx_11] at hJ
                exact hJ _ _ _ hP hD hS (lv_sub hl [0, 1, 2, 3, 4, 5, 6, 7, 8, 9, 10, 11, 12, 13, 14, 15, 16] rfl)
            · skip
              refine lv_iload hx hb dX5_measureAtom_233 (lv_at hl 12 rfl) ?_
              refine lv_imul hx hb dX5_measureAtom_235 ?_
              refine lv_iload hx hb dX5_measureAtom_236 (lv_at hl 1 rfl) ?_
              refine lv_iload hx hb dX5_measureAtom_238 (lv_at hl 12 rfl) ?_
              refine lv_iadd hx hb dX5_measureAtom_240 ?_
              refine kcS (ans := (mx (x_11 * (uni lev)) (x_8 + (uni lev)))) C0 hP hS (c_X5_greater l D cI (x_11 * (uni lev)) (x_8 + (uni lev)) ) (va_cwS 2 hts gX5_measureAtom_X5_greater rfl rfl rfl (by decide +kernel) ⟨by dsimp only [rmL, rmF, rmN, rmA]; omega, by dsimp only [rmL, rmF, rmN, rmA]; omega⟩) rfl hl.1 rfl (Nat.le_of_ble_eq_true rfl) dX5_measureAtom_241 ⟨Nat.zero_le _, Nat.zero_le _⟩ (fun H locs hP hS => ?_)
              refine kcS (ans := (mx (x_3 - (2 * (uni lev))) (mx (x_11 * (uni lev)) (x_8 + (uni lev))))) C0 hP hS (c_X5_greater l D cI (x_3 - (2 * (uni lev))) (mx (x_11 * (uni lev)) (x_8 + (uni lev))) ) (va_cwS 2 hts gX5_measureAtom_X5_greater rfl rfl rfl (by decide +kernel) ⟨by dsimp only [rmL, rmF, rmN, rmA]; omega, by dsimp only [rmL, rmF, rmN, rmA]; omega⟩) rfl hl.1 rfl (Nat.le_of_ble_eq_true rfl) dX5_measureAtom_244 ⟨Nat.zero_le _, Nat.zero_le _⟩ (fun H locs hP hS => ?_)
              have gx_10 : x_10 = (mx (x_3 - (2 * (uni lev))) (mx (x_11 * (uni lev)) (x_8 + (uni lev)))) := by rw [ex_10]; (try simp only [ex_11] at c_203 ⊢) <;> simp only [if_pos c_203]
              simp only [gx_10] at hJ
              exact hJ _ _ _ hP hD hS (lv_sub hl [0, 1, 2, 3, 4, 5, 6, 7, 8, 9, 10, 11, 12, 13, 14, 15, 16] rfl)
          · skip
            refine lv_iload hx hb dX5_measureAtom_206 (lv_at hl 10 rfl) ?_
            refine lv_iload hx hb dX5_measureAtom_208 (lv_at hl 12 rfl) ?_
            refine lv_iadd hx hb dX5_measureAtom_210 ?_
            refine lv_iload hx hb dX5_measureAtom_211 (lv_at hl 1 rfl) ?_
            refine lv_iadd hx hb dX5_measureAtom_213 ?_
            refine lv_goto (tgt := 247) hx hb dX5_measureAtom_214 (by decide) ?_
            have gx_10 : x_10 = ((x_3 + (uni lev)) + x_8) := by rw [ex_10]; simp only [if_neg c_203]
            simp only [gx_10] at hJ
            exact hJ _ _ _ hP hD hS (lv_sub hl [0, 1, 2, 3, 4, 5, 6, 7, 8, 9, 10, 11, 12, 13, 14, 15, 16] rfl)
        · skip
          refine lv_istore (lv' := [(17, .int x_10), (16, .int x_9), (10, .int x_8), (9, .int x_7), (8, .int x_6), (15, .int 0), (14, .int 1), (13, .int 0), (12, .int 0), (11, .int 0), (7, .int x_4), (6, .int x_3), (5, .int x_2), (4, .int (uni lev)), (0, .ref (a 0)), (1, .int (nI n)), (2, .int lev), (3, .int cr)]) hx hb dX5_measureAtom_247 hl (by decide) rfl (fun ls hl => ?_)
          refine lv_iload hx hb dX5_measureAtom_249 (lv_at hl 1 rfl) ?_
          obtain ⟨x_12, ex_12⟩ : ∃ zz_ : Int32, zz_ = (if x_9 = 0 then (mx (x_4 + (uni lev)) (mx (2 * (uni lev)) (0 - (4 * (uni lev))))) else ((x_4 + (uni lev)) + 0)) := ⟨_, rfl⟩
          refine jW (D := D) hD hl 287 (wM cI a (vU (vU (vU (vU (vU v 19 ((ML r N d ((r 8) n) (scl lev) cr).1)) 20 ((ML r N d ((r 8) n) (scl lev) cr).2.1)) 21 ((ML r N d ((r 8) n) (scl lev) cr).2.2)) 22 u_5) 23 e_5) (rU (rU r 11 it) 12 z_5)) [(17, .int x_10), (16, .int x_9), (10, .int x_8), (9, .int x_7), (8, .int x_6), (15, .int 0), (14, .int 1), (13, .int 0), (12, .int 0), (11, .int 0), (7, .int x_4), (6, .int x_3), (5, .int x_2), (4, .int (uni lev)), (0, .ref (a 0)), (1, .int (nI n)), (2, .int lev), (3, .int cr)] [.int x_12] (fun hJ => ?_) (fun H locs ls hP hD hS hl => ?_)
          · skip
            refine lv_if_eq (tgt := 265) hx hb dX5_measureAtom_251 (by decide) (fun c_251 => ?_) (fun c_251 => ?_)
            · skip
              refine lv_iload hx hb dX5_measureAtom_265 (lv_at hl 10 rfl) ?_
              refine lv_iload hx hb dX5_measureAtom_267 (lv_at hl 13 rfl) ?_
              refine lv_iadd hx hb dX5_measureAtom_269 ?_
              refine lv_iconst (v := 2) hx hb dX5_measureAtom_270 (by decide) ?_
              refine lv_iload hx hb dX5_measureAtom_271 (lv_at hl 13 rfl) ?_
              refine lv_imul hx hb dX5_measureAtom_273 ?_
              refine lv_iload hx hb dX5_measureAtom_274 (lv_at hl 8 rfl) ?_
              refine lv_iconst (v := 4) hx hb dX5_measureAtom_276 (by decide) ?_
              refine lv_iload hx hb dX5_measureAtom_277 (lv_at hl 13 rfl) ?_
              refine lv_imul hx hb dX5_measureAtom_279 ?_
              refine lv_isub hx hb dX5_measureAtom_280 ?_
              refine kcS (ans := (mx (2 * (uni lev)) (0 - (4 * (uni lev))))) C0 hP hS (c_X5_greater l D cI (2 * (uni lev)) (0 - (4 * (uni lev))) ) (va_cwS 2 hts gX5_measureAtom_X5_greater rfl rfl rfl (by decide +kernel) ⟨by dsimp only [rmL, rmF, rmN, rmA]; omega, by dsimp only [rmL, rmF, rmN, rmA]; omega⟩) rfl hl.1 rfl (Nat.le_of_ble_eq_true rfl) dX5_measureAtom_281 ⟨Nat.zero_le _, Nat.zero_le _⟩ (fun H locs hP hS => ?_)
              refine kcS (ans := (mx (x_4 + (uni lev)) (mx (2 * (uni lev)) (0 - (4 * (uni lev)))))) C0 hP hS (c_X5_greater l D cI (x_4 + (uni lev)) (mx (2 * (uni lev)) (0 - (4 * (uni lev)))) ) (va_cwS 2 hts gX5_measureAtom_X5_greater rfl rfl rfl (by decide +kernel) ⟨by dsimp only [rmL, rmF, rmN, rmA]; omega, by dsimp only [rmL, rmF, rmN, rmA]; omega⟩) rfl hl.1 rfl (Nat.le_of_ble_eq_true rfl) dX5_measureAtom_284 ⟨Nat.zero_le _, Nat.zero_le _⟩ (fun H locs hP hS => ?_)
              have gx_12 : x_12 = (mx (x_4 + (uni lev)) (mx (2 * (uni lev)) (0 - (4 * (uni lev))))) := by rw [ex_12]; simp only [if_pos c_251]
              simp only [gx_12] at hJ
              exact hJ _ _ _ hP hD hS (lv_sub hl [0, 1, 2, 3, 4, 5, 6, 7, 8, 9, 10, 11, 12, 13, 14, 15, 16, 17] rfl)
            · skip
              refine lv_iload hx hb dX5_measureAtom_254 (lv_at hl 10 rfl) ?_
              refine lv_iload hx hb dX5_measureAtom_256 (lv_at hl 13 rfl) ?_
              refine lv_iadd hx hb dX5_measureAtom_258 ?_
              refine lv_iload hx hb dX5_measureAtom_259 (lv_at hl 8 rfl) ?_
              refine lv_iadd hx hb dX5_measureAtom_261 ?_
              refine lv_goto (tgt := 287) hx hb dX5_measureAtom_262 (by decide) ?_
              have gx_12 : x_12 = ((x_4 + (uni lev)) + 0) := by rw [ex_12]; simp only [if_neg c_251]
              simp only [gx_12] at hJ
              exact hJ _ _ _ hP hD hS (lv_sub hl [0, 1, 2, 3, 4, 5, 6, 7, 8, 9, 10, 11, 12, 13, 14, 15, 16, 17] rfl)
          · skip
            refine lv_istore (lv' := [(18, .int x_12), (17, .int x_10), (16, .int x_9), (10, .int x_8), (9, .int x_7), (8, .int x_6), (15, .int 0), (14, .int 1), (13, .int 0), (12, .int 0), (11, .int 0), (7, .int x_4), (6, .int x_3), (5, .int x_2), (4, .int (uni lev)), (0, .ref (a 0)), (1, .int (nI n)), (2, .int lev), (3, .int cr)]) hx hb dX5_measureAtom_287 hl (by decide) rfl (fun ls hl => ?_)
            refine lv_iload hx hb dX5_measureAtom_289 (lv_at hl 2 rfl) ?_
            refine jW (D := D) hD hl 339 (wM cI a (vU (vU (vU (vU (vU v 19 ((ML r N d ((r 8) n) (scl lev) cr).1)) 20 ((ML r N d ((r 8) n) (scl lev) cr).2.1)) 21 ((ML r N d ((r 8) n) (scl lev) cr).2.2)) 22 u_5) 23 e_5) (rU (rU r 11 it) 12 z_5)) [(18, .int x_12), (17, .int x_10), (16, .int x_9), (10, .int x_8), (9, .int x_7), (8, .int x_6), (15, .int 0), (14, .int 1), (13, .int 0), (12, .int 0), (11, .int 0), (7, .int x_4), (6, .int x_3), (5, .int x_2), (4, .int (uni lev)), (0, .ref (a 0)), (1, .int (nI n)), (2, .int lev), (3, .int cr)] [] (fun hJ => ?_) (fun H locs ls hP hD hS hl => ?_)
            · skip
              refine lv_if_ne (tgt := 339) hx hb dX5_measureAtom_291 (by decide) (fun c_291 => ?_) (fun c_291 => ?_)
              · skip
                exact hJ _ _ _ hP hD hS (lv_sub hl [0, 1, 2, 3, 4, 5, 6, 7, 8, 9, 10, 11, 12, 13, 14, 15, 16, 17, 18] rfl)
              · skip
                refine lv_iload hx hb dX5_measureAtom_294 (lv_at hl 7 rfl) ?_
                refine lv_if_eq (tgt := 339) hx hb dX5_measureAtom_296 (by decide) (fun c_296 => absurd c_296 (by decide)) (fun c_296 => ?_)
                refine lv_iload hx hb dX5_measureAtom_299 (lv_at hl 6 rfl) ?_
                refine lv_if_eq (tgt := 339) hx hb dX5_measureAtom_301 (by decide) (fun c_301 => ?_) (fun c_301 => absurd (by decide) c_301)
                exact hJ _ _ _ hP hD hS (lv_sub hl [0, 1, 2, 3, 4, 5, 6, 7, 8, 9, 10, 11, 12, 13, 14, 15, 16, 17, 18] rfl)
            · skip
              refine lv_iload hx hb dX5_measureAtom_339 (lv_at hl 5 rfl) ?_
              refine lv_iload hx hb dX5_measureAtom_341 (lv_at hl 10 rfl) ?_
              refine kcS (ans := (mx x_6 0)) C0 hP hS (c_X5_greater l D cI x_6 0 ) (va_cwS 2 hts gX5_measureAtom_X5_greater rfl rfl rfl (by decide +kernel) ⟨by dsimp only [rmL, rmF, rmN, rmA]; omega, by dsimp only [rmL, rmF, rmN, rmA]; omega⟩) rfl hl.1 rfl (Nat.le_of_ble_eq_true rfl) dX5_measureAtom_343 ⟨Nat.zero_le _, Nat.zero_le _⟩ (fun H locs hP hS => ?_)
              refine lv_istore (lv' := [(19, .int (mx x_6 0)), (18, .int x_12), (17, .int x_10), (16, .int x_9), (10, .int x_8), (9, .int x_7), (8, .int x_6), (15, .int 0), (14, .int 1), (13, .int 0), (12, .int 0), (11, .int 0), (7, .int x_4), (6, .int x_3), (5, .int x_2), (4, .int (uni lev)), (0, .ref (a 0)), (1, .int (nI n)), (2, .int lev), (3, .int cr)]) hx hb dX5_measureAtom_346 hl (by decide) rfl (fun ls hl => ?_)
              refine lv_iload hx hb dX5_measureAtom_348 (lv_at hl 3 rfl) ?_
              obtain ⟨x_13, ex_13⟩ : ∃ zz_ : Int32, zz_ = (if x_9 = 0 then ((x_2 + (mx x_6 0)) + ((uni lev) / 2)) else (mx x_2 (mx x_6 0))) := ⟨_, rfl⟩
              refine jW (D := D) hD hl 374 (wM cI a (vU (vU (vU (vU (vU v 19 ((ML r N d ((r 8) n) (scl lev) cr).1)) 20 ((ML r N d ((r 8) n) (scl lev) cr).2.1)) 21 ((ML r N d ((r 8) n) (scl lev) cr).2.2)) 22 u_5) 23 e_5) (rU (rU r 11 it) 12 z_5)) [(19, .int (mx x_6 0)), (18, .int x_12), (17, .int x_10), (16, .int x_9), (10, .int x_8), (9, .int x_7), (8, .int x_6), (15, .int 0), (14, .int 1), (13, .int 0), (12, .int 0), (11, .int 0), (7, .int x_4), (6, .int x_3), (5, .int x_2), (4, .int (uni lev)), (0, .ref (a 0)), (1, .int (nI n)), (2, .int lev), (3, .int cr)] [.int x_13] (fun hJ => ?_) (fun H locs ls hP hD hS hl => ?_)
              · skip
                refine lv_if_eq (tgt := 363) hx hb dX5_measureAtom_350 (by decide) (fun c_350 => ?_) (fun c_350 => ?_)
                · skip
                  refine lv_iload hx hb dX5_measureAtom_363 (lv_at hl 14 rfl) ?_
                  refine lv_iload hx hb dX5_measureAtom_365 (lv_at hl 0 rfl) ?_
                  refine lv_iadd hx hb dX5_measureAtom_367 ?_
                  refine lv_iload hx hb dX5_measureAtom_368 (lv_at hl 15 rfl) ?_
                  refine kcS (ans := ((uni lev) / 2)) C0 hP hS (c_X5_half l D cI (uni lev) ) (va_cwS 1 hts gX5_measureAtom_X5_half rfl rfl rfl (by decide +kernel) ⟨by dsimp only [rmL, rmF, rmN, rmA]; omega, by dsimp only [rmL, rmF, rmN, rmA]; omega⟩) rfl hl.1 rfl (Nat.le_of_ble_eq_true rfl) dX5_measureAtom_370 ⟨Nat.zero_le _, Nat.zero_le _⟩ (fun H locs hP hS => ?_)
                  refine lv_iadd hx hb dX5_measureAtom_373 ?_
                  have gx_13 : x_13 = ((x_2 + (mx x_6 0)) + ((uni lev) / 2)) := by rw [ex_13]; simp only [if_pos c_350]
                  simp only [gx_13] at hJ
                  exact hJ _ _ _ hP hD hS (lv_sub hl [0, 1, 2, 3, 4, 5, 6, 7, 8, 9, 10, 11, 12, 13, 14, 15, 16, 17, 18, 19] rfl)
                · skip
                  refine lv_iload hx hb dX5_measureAtom_353 (lv_at hl 14 rfl) ?_
                  refine lv_iload hx hb dX5_measureAtom_355 (lv_at hl 0 rfl) ?_
                  refine kcS (ans := (mx x_2 (mx x_6 0))) C0 hP hS (c_X5_greater l D cI x_2 (mx x_6 0) ) (va_cwS 2 hts gX5_measureAtom_X5_greater rfl rfl rfl (by decide +kernel) ⟨by dsimp only [rmL, rmF, rmN, rmA]; omega, by dsimp only [rmL, rmF, rmN, rmA]; omega⟩) rfl hl.1 rfl (Nat.le_of_ble_eq_true rfl) dX5_measureAtom_357 ⟨Nat.zero_le _, Nat.zero_le _⟩ (fun H locs hP hS => ?_)
                  refine lv_goto (tgt := 374) hx hb dX5_measureAtom_360 (by decide) ?_
                  have gx_13 : x_13 = (mx x_2 (mx x_6 0)) := by rw [ex_13]; simp only [if_neg c_350]
                  simp only [gx_13] at hJ
                  exact hJ _ _ _ hP hD hS (lv_sub hl [0, 1, 2, 3, 4, 5, 6, 7, 8, 9, 10, 11, 12, 13, 14, 15, 16, 17, 18, 19] rfl)
              · skip
                refine lv_istore (lv' := [(20, .int x_13), (19, .int (mx x_6 0)), (18, .int x_12), (17, .int x_10), (16, .int x_9), (10, .int x_8), (9, .int x_7), (8, .int x_6), (15, .int 0), (14, .int 1), (13, .int 0), (12, .int 0), (11, .int 0), (7, .int x_4), (6, .int x_3), (5, .int x_2), (4, .int (uni lev)), (0, .ref (a 0)), (1, .int (nI n)), (2, .int lev), (3, .int cr)]) hx hb dX5_measureAtom_374 hl (by decide) rfl (fun ls hl => ?_)
                refine lv_iload hx hb dX5_measureAtom_376 (lv_at hl 14 rfl) ?_
                refine lv_iconst (v := 0) hx hb dX5_measureAtom_378 (by decide) ?_
                refine kcS (ans := (mx x_3 0)) C0 hP hS (c_X5_greater l D cI x_3 0 ) (va_cwS 2 hts gX5_measureAtom_X5_greater rfl rfl rfl (by decide +kernel) ⟨by dsimp only [rmL, rmF, rmN, rmA]; omega, by dsimp only [rmL, rmF, rmN, rmA]; omega⟩) rfl hl.1 rfl (Nat.le_of_ble_eq_true rfl) dX5_measureAtom_379 ⟨Nat.zero_le _, Nat.zero_le _⟩ (fun H locs hP hS => ?_)
                refine lv_istore (lv' := [(6, .int (mx x_3 0)), (20, .int x_13), (19, .int (mx x_6 0)), (18, .int x_12), (17, .int x_10), (16, .int x_9), (10, .int x_8), (9, .int x_7), (8, .int x_6), (15, .int 0), (14, .int 1), (13, .int 0), (12, .int 0), (11, .int 0), (7, .int x_4), (5, .int x_2), (4, .int (uni lev)), (0, .ref (a 0)), (1, .int (nI n)), (2, .int lev), (3, .int cr)]) hx hb dX5_measureAtom_382 hl (by decide) rfl (fun ls hl => ?_)
                refine lv_iload hx hb dX5_measureAtom_384 (lv_at hl 14 rfl) ?_
                refine lv_iconst (v := 0) hx hb dX5_measureAtom_386 (by decide) ?_
                refine kcS (ans := (mx x_4 0)) C0 hP hS (c_X5_greater l D cI x_4 0 ) (va_cwS 2 hts gX5_measureAtom_X5_greater rfl rfl rfl (by decide +kernel) ⟨by dsimp only [rmL, rmF, rmN, rmA]; omega, by dsimp only [rmL, rmF, rmN, rmA]; omega⟩) rfl hl.1 rfl (Nat.le_of_ble_eq_true rfl) dX5_measureAtom_387 ⟨Nat.zero_le _, Nat.zero_le _⟩ (fun H locs hP hS => ?_)
                refine lv_istore (lv' := [(7, .int (mx x_4 0)), (6, .int (mx x_3 0)), (20, .int x_13), (19, .int (mx x_6 0)), (18, .int x_12), (17, .int x_10), (16, .int x_9), (10, .int x_8), (9, .int x_7), (8, .int x_6), (15, .int 0), (14, .int 1), (13, .int 0), (12, .int 0), (11, .int 0), (5, .int x_2), (4, .int (uni lev)), (0, .ref (a 0)), (1, .int (nI n)), (2, .int lev), (3, .int cr)]) hx hb dX5_measureAtom_390 hl (by decide) rfl (fun ls hl => ?_)
                refine lv_iload hx hb dX5_measureAtom_392 (lv_at hl 11 rfl) ?_
                refine lv_if_eq (tgt := 421) hx hb dX5_measureAtom_394 (by decide) (fun c_394 => absurd c_394 (by decide)) (fun c_394 => ?_)
                refine lv_iload hx hb dX5_measureAtom_397 (lv_at hl 1 rfl) ?_
                refine lv_iload hx hb dX5_measureAtom_399 (lv_at hl 5 rfl) ?_
                refine lv_iload hx hb dX5_measureAtom_401 (lv_at hl 8 rfl) ?_
                refine lv_iadd hx hb dX5_measureAtom_403 ?_
                refine kcS (ans := (mx (mx x_3 0) (x_10 + x_7))) C0 hP hS (c_X5_greater l D cI (mx x_3 0) (x_10 + x_7) ) (va_cwS 2 hts gX5_measureAtom_X5_greater rfl rfl rfl (by decide +kernel) ⟨by dsimp only [rmL, rmF, rmN, rmA]; omega, by dsimp only [rmL, rmF, rmN, rmA]; omega⟩) rfl hl.1 rfl (Nat.le_of_ble_eq_true rfl) dX5_measureAtom_404 ⟨Nat.zero_le _, Nat.zero_le _⟩ (fun H locs hP hS => ?_)
                refine lv_topi (fun x_14 ex_14 => ?_)
                refine lv_istore (lv' := [(6, .int x_14), (7, .int (mx x_4 0)), (20, .int x_13), (19, .int (mx x_6 0)), (18, .int x_12), (17, .int x_10), (16, .int x_9), (10, .int x_8), (9, .int x_7), (8, .int x_6), (15, .int 0), (14, .int 1), (13, .int 0), (12, .int 0), (11, .int 0), (5, .int x_2), (4, .int (uni lev)), (0, .ref (a 0)), (1, .int (nI n)), (2, .int lev), (3, .int cr)]) hx hb dX5_measureAtom_407 hl (by decide) rfl (fun ls hl => ?_)
                refine lv_iload hx hb dX5_measureAtom_409 (lv_at hl 1 rfl) ?_
                refine lv_iload hx hb dX5_measureAtom_411 (lv_at hl 7 rfl) ?_
                refine lv_iload hx hb dX5_measureAtom_413 (lv_at hl 5 rfl) ?_
                refine lv_isub hx hb dX5_measureAtom_415 ?_
                refine kcS (ans := (mx (mx x_4 0) (x_8 - x_10))) C0 hP hS (c_X5_greater l D cI (mx x_4 0) (x_8 - x_10) ) (va_cwS 2 hts gX5_measureAtom_X5_greater rfl rfl rfl (by decide +kernel) ⟨by dsimp only [rmL, rmF, rmN, rmA]; omega, by dsimp only [rmL, rmF, rmN, rmA]; omega⟩) rfl hl.1 rfl (Nat.le_of_ble_eq_true rfl) dX5_measureAtom_416 ⟨Nat.zero_le _, Nat.zero_le _⟩ (fun H locs hP hS => ?_)
                refine lv_topi (fun x_15 ex_15 => ?_)
                refine lv_istore (lv' := [(7, .int x_15), (6, .int x_14), (20, .int x_13), (19, .int (mx x_6 0)), (18, .int x_12), (17, .int x_10), (16, .int x_9), (10, .int x_8), (9, .int x_7), (8, .int x_6), (15, .int 0), (14, .int 1), (13, .int 0), (12, .int 0), (11, .int 0), (5, .int x_2), (4, .int (uni lev)), (0, .ref (a 0)), (1, .int (nI n)), (2, .int lev), (3, .int cr)]) hx hb dX5_measureAtom_419 hl (by decide) rfl (fun ls hl => ?_)
                refine lv_iload hx hb dX5_measureAtom_421 (lv_at hl 10 rfl) ?_
                refine lv_if_eq (tgt := 450) hx hb dX5_measureAtom_423 (by decide) (fun c_423 => ?_) (fun c_423 => absurd (by decide) c_423)
                refine lv_aload_n hx hb dX5_measureAtom_450 rfl (lv_at hl 17 rfl) ?_
                refine lv_iload hx hb dX5_measureAtom_451 (lv_at hl 2 rfl) ?_
                refine lv_iload hx hb dX5_measureAtom_453 (lv_at hl 1 rfl) ?_
                refine lv_iload hx hb dX5_measureAtom_455 (lv_at hl 0 rfl) ?_
                refine kcDv C0 hP hD hS (c_X5_set l D cI a (vU (vU (vU (vU (vU v 19 ((ML r N d ((r 8) n) (scl lev) cr).1)) 20 ((ML r N d ((r 8) n) (scl lev) cr).2.1)) 21 ((ML r N d ((r 8) n) (scl lev) cr).2.2)) 22 u_5) 23 e_5) (rU (rU r 11 it) 12 z_5) x_13 x_14 x_15) (cwV 3 hts gX5_measureAtom_X5_set rfl rfl rfl (by decide +kernel) ⟨by dsimp only [rmL, rmF, rmN, rmA]; omega, by dsimp only [rmL, rmF, rmN, rmA]; omega⟩) 0 5 rfl rfl rfl hl.1 rfl (Nat.le_of_ble_eq_true rfl) dX5_measureAtom_457 ⟨Nat.zero_le _, Nat.zero_le _⟩ (fun H locs hP hD hS => ?_)
                have hP : va_P D vwCl (wM cI a (vU (vU (vU (vU (vU v 19 x_13) 20 x_14) 21 x_15) 22 u_5) 23 e_5) (rU (rU r 11 it) 12 z_5)) H := hP
                have hD : va_D A (wM cI a (vU (vU (vU (vU (vU v 19 x_13) 20 x_14) 21 x_15) 22 u_5) 23 e_5) (rU (rU r 11 it) 12 z_5)) := hD
                refine lv_aload_n hx hb dX5_measureAtom_460 rfl (lv_at hl 17 rfl) ?_
                refine lv_iload hx hb dX5_measureAtom_461 (lv_at hl 5 rfl) ?_
                refine va_put (D := D) (ci := 5) (v := .int x_10) (ty := .int) (C := RX5) (T := TX5) (N := 25) hx hb hts hin_X5 tyX5 tyX5_ok nmX5 hown hK hP hD hS 0 rfl rfl 22 (by decide) hf125 (fun _ h9 => h9) rfl (by decide +kernel) rfl rfl (Nat.le_of_ble_eq_true rfl) dX5_measureAtom_463 (fun H locs hP hD hS => ?_)
                have hP : va_P D vwCl (wM cI a (vU (vU (vU (vU (vU v 19 x_13) 20 x_14) 21 x_15) 22 x_10) 23 e_5) (rU (rU r 11 it) 12 z_5)) H := hP
                have hD : va_D A (wM cI a (vU (vU (vU (vU (vU v 19 x_13) 20 x_14) 21 x_15) 22 x_10) 23 e_5) (rU (rU r 11 it) 12 z_5)) := hD
                refine lv_aload_n hx hb dX5_measureAtom_466 rfl (lv_at hl 17 rfl) ?_
                refine lv_iload hx hb dX5_measureAtom_467 (lv_at hl 4 rfl) ?_
                refine va_put (D := D) (ci := 5) (v := .int x_12) (ty := .int) (C := RX5) (T := TX5) (N := 25) hx hb hts hin_X5 tyX5 tyX5_ok nmX5 hown hK hP hD hS 0 rfl rfl 23 (by decide) hf128 (fun _ h9 => h9) rfl (by decide +kernel) rfl rfl (Nat.le_of_ble_eq_true rfl) dX5_measureAtom_469 (fun H locs hP hD hS => ?_)
                have hP : va_P D vwCl (wM cI a (vU (vU (vU (vU (vU v 19 x_13) 20 x_14) 21 x_15) 22 x_10) 23 x_12) (rU (rU r 11 it) 12 z_5)) H := hP
                have hD : va_D A (wM cI a (vU (vU (vU (vU (vU v 19 x_13) 20 x_14) 21 x_15) 22 x_10) 23 x_12) (rU (rU r 11 it) 12 z_5)) := hD
                have q19 : x_13 = (mAt (ML r N d) r n lev cr).1 := (pf_X5_measureAtom_0 a v r n N d rk lev cr it sz w0 h0 d0 u0 e0 hN hN1 hn hd hR hat u_1 e_1 z_1 c_14 x_2 ex_2 x_3 ex_3 x_4 ex_4 c_77 c_94 u_5 e_5 z_5 x_6 ex_6 x_7 ex_7 x_8 ex_8 x_9 ex_9 x_10 ex_10 x_12 ex_12 x_13 ex_13 x_14 ex_14 x_15 ex_15)
                have q20 : x_14 = (mAt (ML r N d) r n lev cr).2.1 := (pf_X5_measureAtom_1 a v r n N d rk lev cr it sz w0 h0 d0 u0 e0 hN hN1 hn hd hR hat u_1 e_1 z_1 c_14 x_2 ex_2 x_3 ex_3 x_4 ex_4 c_77 c_94 u_5 e_5 z_5 x_6 ex_6 x_7 ex_7 x_8 ex_8 x_9 ex_9 x_10 ex_10 x_12 ex_12 x_13 ex_13 x_14 ex_14 x_15 ex_15)
                have q21 : x_15 = (mAt (ML r N d) r n lev cr).2.2 := (pf_X5_measureAtom_2 a v r n N d rk lev cr it sz w0 h0 d0 u0 e0 hN hN1 hn hd hR hat u_1 e_1 z_1 c_14 x_2 ex_2 x_3 ex_3 x_4 ex_4 c_77 c_94 u_5 e_5 z_5 x_6 ex_6 x_7 ex_7 x_8 ex_8 x_9 ex_9 x_10 ex_10 x_12 ex_12 x_13 ex_13 x_14 ex_14 x_15 ex_15)
                have q22 : x_10 = (atU (ML r N d) r n lev cr) := (pf_X5_measureAtom_3 a v r n N d rk lev cr it sz w0 h0 d0 u0 e0 hN hN1 hn hd hR hat u_1 e_1 z_1 c_14 x_2 ex_2 x_3 ex_3 x_4 ex_4 c_77 c_94 u_5 e_5 z_5 x_6 ex_6 x_7 ex_7 x_8 ex_8 x_9 ex_9 x_10 ex_10 x_12 ex_12 x_13 ex_13 x_14 ex_14 x_15 ex_15)
                have q23 : x_12 = (atD (ML r N d) r n lev cr) := (pf_X5_measureAtom_4 a v r n N d rk lev cr it sz w0 h0 d0 u0 e0 hN hN1 hn hd hR hat u_1 e_1 z_1 c_14 x_2 ex_2 x_3 ex_3 x_4 ex_4 c_77 c_94 u_5 e_5 z_5 x_6 ex_6 x_7 ex_7 x_8 ex_8 x_9 ex_9 x_10 ex_10 x_12 ex_12 x_13 ex_13 x_14 ex_14 x_15 ex_15)
                have hw : (wM cI a (vU (vU (vU (vU (vU v 19 x_13) 20 x_14) 21 x_15) 22 x_10) 23 x_12) (rU (rU r 11 it) 12 z_5)) = (wM cI a (vU (vU (vU (vU (vU v 19 ((mAt (ML r N d) r n lev cr).1)) 20 ((mAt (ML r N d) r n lev cr).2.1)) 21 ((mAt (ML r N d) r n lev cr).2.2)) 22 (atU (ML r N d) r n lev cr)) 23 (atD (ML r N d) r n lev cr)) (rU (rU r 11 it) 12 z_5)) := by rw [q19, q20, q21, q22, q23]
                have hP : va_P D vwCl (wM cI a (vU (vU (vU (vU (vU v 19 ((mAt (ML r N d) r n lev cr).1)) 20 ((mAt (ML r N d) r n lev cr).2.1)) 21 ((mAt (ML r N d) r n lev cr).2.2)) 22 (atU (ML r N d) r n lev cr)) 23 (atD (ML r N d) r n lev cr)) (rU (rU r 11 it) 12 z_5)) H := hw ▸ hP
                have hD : va_D A (wM cI a (vU (vU (vU (vU (vU v 19 ((mAt (ML r N d) r n lev cr).1)) 20 ((mAt (ML r N d) r n lev cr).2.1)) 21 ((mAt (ML r N d) r n lev cr).2.2)) 22 (atU (ML r N d) r n lev cr)) 23 (atD (ML r N d) r n lev cr)) (rU (rU r 11 it) 12 z_5)) := hw ▸ hD
                exact k_vret C0 (atU (ML r N d) r n lev cr, atD (ML r N d) r n lev cr, z_5) hP hD hS ⟨(fun i hi k hk => by show z_5 (16 * i + k) = sz (16 * i + k); rw [hz_5 i (by omega) k hk, hz_1 i (by omega) k hk]), fun _ => ⟨rfl, rfl⟩⟩ dX5_measureAtom_472
    · skip
      refine lv_iconst (v := 1) hx hb dX5_measureAtom_97 (by decide) ?_
      refine lv_goto (tgt := 102) hx hb dX5_measureAtom_98 (by decide) ?_
      refine lv_istore (lv' := [(15, .int 1), (14, .int 1), (13, .int 0), (12, .int 0), (11, .int 0), (10, .int 0), (9, .int 0), (8, .int 0), (7, .int x_4), (6, .int x_3), (5, .int x_2), (4, .int (uni lev)), (0, .ref (a 0)), (1, .int (nI n)), (2, .int lev), (3, .int cr)]) hx hb dX5_measureAtom_102 hl (by decide) rfl (fun ls hl => ?_)
      refine lv_iload hx hb dX5_measureAtom_104 (lv_at hl 1 rfl) ?_
      refine lv_if_eq (tgt := 142) hx hb dX5_measureAtom_106 (by decide) (fun c_106 => absurd c_106 (by decide)) (fun c_106 => ?_)
      have hs8 := hq8 c_14
      refine lv_aload_n hx hb dX5_measureAtom_109 rfl (lv_at hl 12 rfl) ?_
      refine lv_aload_n hx hb dX5_measureAtom_110 rfl (lv_at hl 12 rfl) ?_
      refine va_get (D := D) (ci := 5) (v := .ref (a 8)) (C := RX5) (T := TX5) (N := 25) hx hb hts hin_X5 hown hK hP 0 rfl rfl 11 (by decide) hf35 (fun _ h9 => h9) rfl dX5_measureAtom_111 ?_
      refine lv_iload_n hx hb dX5_measureAtom_114 rfl (lv_at hl 13 rfl) ?_
      refine ra_ld (f := (r 8)) C0 hP 8 rfl n rfl (by omega) (by decide) dX5_measureAtom_115 ?_
      refine lv_iload_n hx hb dX5_measureAtom_116 rfl (lv_at hl 14 rfl) ?_
      refine kcS (ans := (scl lev)) C0 hP hS (c_X5_scriptLevel l D cI lev ) (va_cwS 1 hts gX5_measureAtom_X5_scriptLevel rfl rfl rfl (by decide +kernel) ⟨by dsimp only [rmL, rmF, rmN, rmA]; omega, by dsimp only [rmL, rmF, rmN, rmA]; omega⟩) rfl hl.1 rfl (Nat.le_of_ble_eq_true rfl) dX5_measureAtom_117 ⟨Nat.zero_le _, Nat.zero_le _⟩ (fun H locs hP hS => ?_)
      refine lv_iload_n hx hb dX5_measureAtom_120 rfl (lv_at hl 15 rfl) ?_
      refine kcVv C0 hP hD hS (hM ((r 8) n) (scl lev) cr it z_1 ((mNu (ML r N d) r n lev cr).1) ((mNu (ML r N d) r n lev cr).2.1) ((mNu (ML r N d) r n lev cr).2.2) u_1 e_1 (by omega)) (cwV 3 hts gX5_measureAtom_X5_measureList rfl rfl rfl (by decide +kernel) ⟨by dsimp only [rmL, rmF, rmN, rmA]; omega, by dsimp only [rmL, rmF, rmN, rmA]; omega⟩) 0 5 rfl rfl rfl hl.1 rfl (Nat.le_of_ble_eq_true rfl) dX5_measureAtom_121 ⟨Nat.zero_le _, Nat.zero_le _⟩ (fun u H locs hq hP hD hS => ?_)
      obtain ⟨u_16, e_16, z_16⟩ := u
      have hz_16 : ∀ i2, rk ((r 8) n) < rk (r 2 i2) → ∀ k, k < 16 → z_16 (16 * i2 + k) = z_1 (16 * i2 + k) := hq
      have hP : va_P D vwCl (wM cI a (vU (vU (vU (vU (vU v 19 ((ML r N d ((r 8) n) (scl lev) cr).1)) 20 ((ML r N d ((r 8) n) (scl lev) cr).2.1)) 21 ((ML r N d ((r 8) n) (scl lev) cr).2.2)) 22 u_16) 23 e_16) (rU (rU r 11 it) 12 z_16)) H := hP
      have hD : va_D A (wM cI a (vU (vU (vU (vU (vU v 19 ((ML r N d ((r 8) n) (scl lev) cr).1)) 20 ((ML r N d ((r 8) n) (scl lev) cr).2.1)) 21 ((ML r N d ((r 8) n) (scl lev) cr).2.2)) 22 u_16) 23 e_16) (rU (rU r 11 it) 12 z_16)) := hD
      refine lv_aload_n hx hb dX5_measureAtom_124 rfl (lv_at hl 12 rfl) ?_
      refine va_get (D := D) (ci := 5) (v := .int ((ML r N d ((r 8) n) (scl lev) cr).1)) (C := RX5) (T := TX5) (N := 25) hx hb hts hin_X5 hown hK hP 0 rfl rfl 19 (by decide) hf96 (fun _ h9 => h9) rfl dX5_measureAtom_125 ?_
      refine lv_topi (fun x_17 ex_17 => ?_)
      refine lv_istore (lv' := [(8, .int x_17), (15, .int 1), (14, .int 1), (13, .int 0), (12, .int 0), (11, .int 0), (10, .int 0), (9, .int 0), (7, .int x_4), (6, .int x_3), (5, .int x_2), (4, .int (uni lev)), (0, .ref (a 0)), (1, .int (nI n)), (2, .int lev), (3, .int cr)]) hx hb dX5_measureAtom_128 hl (by decide) rfl (fun ls hl => ?_)
      refine lv_aload_n hx hb dX5_measureAtom_130 rfl (lv_at hl 12 rfl) ?_
      refine va_get (D := D) (ci := 5) (v := .int ((ML r N d ((r 8) n) (scl lev) cr).2.1)) (C := RX5) (T := TX5) (N := 25) hx hb hts hin_X5 hown hK hP 0 rfl rfl 20 (by decide) hf99 (fun _ h9 => h9) rfl dX5_measureAtom_131 ?_
      refine lv_topi (fun x_18 ex_18 => ?_)
      refine lv_istore (lv' := [(9, .int x_18), (8, .int x_17), (15, .int 1), (14, .int 1), (13, .int 0), (12, .int 0), (11, .int 0), (10, .int 0), (7, .int x_4), (6, .int x_3), (5, .int x_2), (4, .int (uni lev)), (0, .ref (a 0)), (1, .int (nI n)), (2, .int lev), (3, .int cr)]) hx hb dX5_measureAtom_134 hl (by decide) rfl (fun ls hl => ?_)
      refine lv_aload_n hx hb dX5_measureAtom_136 rfl (lv_at hl 12 rfl) ?_
      refine va_get (D := D) (ci := 5) (v := .int ((ML r N d ((r 8) n) (scl lev) cr).2.2)) (C := RX5) (T := TX5) (N := 25) hx hb hts hin_X5 hown hK hP 0 rfl rfl 21 (by decide) hf102 (fun _ h9 => h9) rfl dX5_measureAtom_137 ?_
      refine lv_topi (fun x_19 ex_19 => ?_)
      refine lv_istore (lv' := [(10, .int x_19), (9, .int x_18), (8, .int x_17), (15, .int 1), (14, .int 1), (13, .int 0), (12, .int 0), (11, .int 0), (7, .int x_4), (6, .int x_3), (5, .int x_2), (4, .int (uni lev)), (0, .ref (a 0)), (1, .int (nI n)), (2, .int lev), (3, .int cr)]) hx hb dX5_measureAtom_140 hl (by decide) rfl (fun ls hl => ?_)
      refine lv_iload hx hb dX5_measureAtom_142 (lv_at hl 3 rfl) ?_
      refine lv_if_eq (tgt := 180) hx hb dX5_measureAtom_144 (by decide) (fun c_144 => absurd c_144 (by decide)) (fun c_144 => ?_)
      have hs9 := hq9 c_94
      refine lv_aload_n hx hb dX5_measureAtom_147 rfl (lv_at hl 12 rfl) ?_
      refine lv_aload_n hx hb dX5_measureAtom_148 rfl (lv_at hl 12 rfl) ?_
      refine va_get (D := D) (ci := 5) (v := .ref (a 9)) (C := RX5) (T := TX5) (N := 25) hx hb hts hin_X5 hown hK hP 0 rfl rfl 12 (by decide) hf38 (fun _ h9 => h9) rfl dX5_measureAtom_149 ?_
      refine lv_iload_n hx hb dX5_measureAtom_152 rfl (lv_at hl 13 rfl) ?_
      refine ra_ld (f := (r 9)) C0 hP 9 rfl n rfl (by omega) (by decide) dX5_measureAtom_153 ?_
      refine lv_iload_n hx hb dX5_measureAtom_154 rfl (lv_at hl 14 rfl) ?_
      refine kcS (ans := (scl lev)) C0 hP hS (c_X5_scriptLevel l D cI lev ) (va_cwS 1 hts gX5_measureAtom_X5_scriptLevel rfl rfl rfl (by decide +kernel) ⟨by dsimp only [rmL, rmF, rmN, rmA]; omega, by dsimp only [rmL, rmF, rmN, rmA]; omega⟩) rfl hl.1 rfl (Nat.le_of_ble_eq_true rfl) dX5_measureAtom_155 ⟨Nat.zero_le _, Nat.zero_le _⟩ (fun H locs hP hS => ?_)
      refine lv_iconst (v := 1) hx hb dX5_measureAtom_158 (by decide) ?_
      refine kcVv C0 hP hD hS (hM ((r 9) n) (scl lev) 1 it z_16 ((ML r N d ((r 8) n) (scl lev) cr).1) ((ML r N d ((r 8) n) (scl lev) cr).2.1) ((ML r N d ((r 8) n) (scl lev) cr).2.2) u_16 e_16 (by omega)) (cwV 3 hts gX5_measureAtom_X5_measureList rfl rfl rfl (by decide +kernel) ⟨by dsimp only [rmL, rmF, rmN, rmA]; omega, by dsimp only [rmL, rmF, rmN, rmA]; omega⟩) 0 5 rfl rfl rfl hl.1 rfl (Nat.le_of_ble_eq_true rfl) dX5_measureAtom_159 ⟨Nat.zero_le _, Nat.zero_le _⟩ (fun u H locs hq hP hD hS => ?_)
      obtain ⟨u_20, e_20, z_20⟩ := u
      have hz_20 : ∀ i2, rk ((r 9) n) < rk (r 2 i2) → ∀ k, k < 16 → z_20 (16 * i2 + k) = z_16 (16 * i2 + k) := hq
      have hP : va_P D vwCl (wM cI a (vU (vU (vU (vU (vU v 19 ((ML r N d ((r 9) n) (scl lev) 1).1)) 20 ((ML r N d ((r 9) n) (scl lev) 1).2.1)) 21 ((ML r N d ((r 9) n) (scl lev) 1).2.2)) 22 u_20) 23 e_20) (rU (rU r 11 it) 12 z_20)) H := hP
      have hD : va_D A (wM cI a (vU (vU (vU (vU (vU v 19 ((ML r N d ((r 9) n) (scl lev) 1).1)) 20 ((ML r N d ((r 9) n) (scl lev) 1).2.1)) 21 ((ML r N d ((r 9) n) (scl lev) 1).2.2)) 22 u_20) 23 e_20) (rU (rU r 11 it) 12 z_20)) := hD
      refine lv_aload_n hx hb dX5_measureAtom_162 rfl (lv_at hl 12 rfl) ?_
      refine va_get (D := D) (ci := 5) (v := .int ((ML r N d ((r 9) n) (scl lev) 1).1)) (C := RX5) (T := TX5) (N := 25) hx hb hts hin_X5 hown hK hP 0 rfl rfl 19 (by decide) hf96 (fun _ h9 => h9) rfl dX5_measureAtom_163 ?_
      refine lv_topi (fun x_21 ex_21 => ?_)
      refine lv_istore (lv' := [(11, .int x_21), (10, .int x_19), (9, .int x_18), (8, .int x_17), (15, .int 1), (14, .int 1), (13, .int 0), (12, .int 0), (7, .int x_4), (6, .int x_3), (5, .int x_2), (4, .int (uni lev)), (0, .ref (a 0)), (1, .int (nI n)), (2, .int lev), (3, .int cr)]) hx hb dX5_measureAtom_166 hl (by decide) rfl (fun ls hl => ?_)
      refine lv_aload_n hx hb dX5_measureAtom_168 rfl (lv_at hl 12 rfl) ?_
      refine va_get (D := D) (ci := 5) (v := .int ((ML r N d ((r 9) n) (scl lev) 1).2.1)) (C := RX5) (T := TX5) (N := 25) hx hb hts hin_X5 hown hK hP 0 rfl rfl 20 (by decide) hf99 (fun _ h9 => h9) rfl dX5_measureAtom_169 ?_
      refine lv_topi (fun x_22 ex_22 => ?_)
      refine lv_istore (lv' := [(12, .int x_22), (11, .int x_21), (10, .int x_19), (9, .int x_18), (8, .int x_17), (15, .int 1), (14, .int 1), (13, .int 0), (7, .int x_4), (6, .int x_3), (5, .int x_2), (4, .int (uni lev)), (0, .ref (a 0)), (1, .int (nI n)), (2, .int lev), (3, .int cr)]) hx hb dX5_measureAtom_172 hl (by decide) rfl (fun ls hl => ?_)
      refine lv_aload_n hx hb dX5_measureAtom_174 rfl (lv_at hl 12 rfl) ?_
      refine va_get (D := D) (ci := 5) (v := .int ((ML r N d ((r 9) n) (scl lev) 1).2.2)) (C := RX5) (T := TX5) (N := 25) hx hb hts hin_X5 hown hK hP 0 rfl rfl 21 (by decide) hf102 (fun _ h9 => h9) rfl dX5_measureAtom_175 ?_
      refine lv_topi (fun x_23 ex_23 => ?_)
      refine lv_istore (lv' := [(13, .int x_23), (12, .int x_22), (11, .int x_21), (10, .int x_19), (9, .int x_18), (8, .int x_17), (15, .int 1), (14, .int 1), (7, .int x_4), (6, .int x_3), (5, .int x_2), (4, .int (uni lev)), (0, .ref (a 0)), (1, .int (nI n)), (2, .int lev), (3, .int cr)]) hx hb dX5_measureAtom_178 hl (by decide) rfl (fun ls hl => ?_)
      refine lv_aload_n hx hb dX5_measureAtom_180 rfl (lv_at hl 12 rfl) ?_
      refine va_get (D := D) (ci := 5) (v := .ref (a 4)) (C := RX5) (T := TX5) (N := 25) hx hb hts hin_X5 hown hK hP 0 rfl rfl 7 (by decide) hf23 (fun _ h9 => h9) rfl dX5_measureAtom_181 ?_
      refine lv_iload_n hx hb dX5_measureAtom_184 rfl (lv_at hl 13 rfl) ?_
      refine ra_ld (f := (r 4)) C0 hP 4 rfl n rfl (by omega) (by decide) dX5_measureAtom_185 ?_
      refine lv_iconst (v := 1) hx hb dX5_measureAtom_186 (by decide) ?_
      obtain ⟨x_24, ex_24⟩ : ∃ zz_ : Int32, zz_ = (if ((r 4) n) = 1 then (if lev = 0 then (1 : Int32) else (0 : Int32)) else (0 : Int32)) := ⟨_, rfl⟩
      refine jW (D := D) hD hl 199 (wM cI a (vU (vU (vU (vU (vU v 19 ((ML r N d ((r 9) n) (scl lev) 1).1)) 20 ((ML r N d ((r 9) n) (scl lev) 1).2.1)) 21 ((ML r N d ((r 9) n) (scl lev) 1).2.2)) 22 u_20) 23 e_20) (rU (rU r 11 it) 12 z_20)) [(13, .int x_23), (12, .int x_22), (11, .int x_21), (10, .int x_19), (9, .int x_18), (8, .int x_17), (15, .int 1), (14, .int 1), (7, .int x_4), (6, .int x_3), (5, .int x_2), (4, .int (uni lev)), (0, .ref (a 0)), (1, .int (nI n)), (2, .int lev), (3, .int cr)] [.int x_24] (fun hJ => ?_) (fun H locs ls hP hD hS hl => ?_)
      · skip
        refine lv_icmp_ne (tgt := 198) hx hb dX5_measureAtom_187 (by decide) (fun c_187 => ?_) (fun c_187 => ?_)
        · skip
          refine lv_iconst (v := 0) hx hb dX5_measureAtom_198 (by decide) ?_
          have gx_24 : x_24 = 0 := by rw [ex_24]; simp only [if_neg c_187]
          simp only [gx_24] at hJ
          exact hJ _ _ _ hP hD hS (lv_sub hl [0, 1, 2, 3, 4, 5, 6, 7, 8, 9, 10, 11, 12, 13, 14, 15] rfl)
        · skip
          refine lv_iload_n hx hb dX5_measureAtom_190 rfl (lv_at hl 14 rfl) ?_
          refine lv_if_ne (tgt := 198) hx hb dX5_measureAtom_191 (by decide) (fun c_191 => ?_) (fun c_191 => ?_)
          · skip
            refine lv_iconst (v := 0) hx hb dX5_measureAtom_198 (by decide) ?_
            have gx_24 : x_24 = 0 := by rw [ex_24]; simp only [if_pos c_187, if_neg c_191]
            simp only [gx_24] at hJ
            exact hJ _ _ _ hP hD hS (lv_sub hl [0, 1, 2, 3, 4, 5, 6, 7, 8, 9, 10, 11, 12, 13, 14, 15] rfl)
          · skip
            refine lv_iconst (v := 1) hx hb dX5_measureAtom_194 (by decide) ?_
            refine lv_goto (tgt := 199) hx hb dX5_measureAtom_195 (by decide) ?_
            have gx_24 : x_24 = 1 := by rw [ex_24]; simp only [if_pos c_187, if_pos c_191]
            simp only [gx_24] at hJ
            exact hJ _ _ _ hP hD hS (lv_sub hl [0, 1, 2, 3, 4, 5, 6, 7, 8, 9, 10, 11, 12, 13, 14, 15] rfl)
      · skip
        refine lv_istore (lv' := [(16, .int x_24), (13, .int x_23), (12, .int x_22), (11, .int x_21), (10, .int x_19), (9, .int x_18), (8, .int x_17), (15, .int 1), (14, .int 1), (7, .int x_4), (6, .int x_3), (5, .int x_2), (4, .int (uni lev)), (0, .ref (a 0)), (1, .int (nI n)), (2, .int lev), (3, .int cr)]) hx hb dX5_measureAtom_199 hl (by decide) rfl (fun ls hl => ?_)
        refine lv_iload hx hb dX5_measureAtom_201 (lv_at hl 0 rfl) ?_
        obtain ⟨x_25, ex_25⟩ : ∃ zz_ : Int32, zz_ = (if x_24 = 0 then (mx (x_3 - (2 * (uni lev))) (mx ((if cr = 0 then (4 : Int32) else (3 : Int32)) * (uni lev)) (x_19 + (uni lev)))) else ((x_3 + (uni lev)) + x_19)) := ⟨_, rfl⟩
        refine jW (D := D) hD hl 247 (wM cI a (vU (vU (vU (vU (vU v 19 ((ML r N d ((r 9) n) (scl lev) 1).1)) 20 ((ML r N d ((r 9) n) (scl lev) 1).2.1)) 21 ((ML r N d ((r 9) n) (scl lev) 1).2.2)) 22 u_20) 23 e_20) (rU (rU r 11 it) 12 z_20)) [(16, .int x_24), (13, .int x_23), (12, .int x_22), (11, .int x_21), (10, .int x_19), (9, .int x_18), (8, .int x_17), (15, .int 1), (14, .int 1), (7, .int x_4), (6, .int x_3), (5, .int x_2), (4, .int (uni lev)), (0, .ref (a 0)), (1, .int (nI n)), (2, .int lev), (3, .int cr)] [.int x_25] (fun hJ => ?_) (fun H locs ls hP hD hS hl => ?_)
        · skip
          refine lv_if_eq (tgt := 217) hx hb dX5_measureAtom_203 (by decide) (fun c_203 => ?_) (fun c_203 => ?_)
          · skip
            refine lv_iload hx hb dX5_measureAtom_217 (lv_at hl 10 rfl) ?_
            refine lv_iconst (v := 2) hx hb dX5_measureAtom_219 (by decide) ?_
            refine lv_iload hx hb dX5_measureAtom_220 (lv_at hl 12 rfl) ?_
            refine lv_imul hx hb dX5_measureAtom_222 ?_
            refine lv_isub hx hb dX5_measureAtom_223 ?_
            refine lv_iload_n hx hb dX5_measureAtom_224 rfl (lv_at hl 16 rfl) ?_
            obtain ⟨x_26, ex_26⟩ : ∃ zz_ : Int32, zz_ = (if cr = 0 then (4 : Int32) else (3 : Int32)) := ⟨_, rfl⟩
            refine jW (D := D) hD hl 233 (wM cI a (vU (vU (vU (vU (vU v 19 ((ML r N d ((r 9) n) (scl lev) 1).1)) 20 ((ML r N d ((r 9) n) (scl lev) 1).2.1)) 21 ((ML r N d ((r 9) n) (scl lev) 1).2.2)) 22 u_20) 23 e_20) (rU (rU r 11 it) 12 z_20)) [(16, .int x_24), (13, .int x_23), (12, .int x_22), (11, .int x_21), (10, .int x_19), (9, .int x_18), (8, .int x_17), (15, .int 1), (14, .int 1), (7, .int x_4), (6, .int x_3), (5, .int x_2), (4, .int (uni lev)), (0, .ref (a 0)), (1, .int (nI n)), (2, .int lev), (3, .int cr)] [.int x_26, .int (x_3 - (2 * (uni lev)))] (fun hJ => ?_) (fun H locs ls hP hD hS hl => ?_)
            · skip
              refine lv_if_eq (tgt := 232) hx hb dX5_measureAtom_225 (by decide) (fun c_225 => ?_) (fun c_225 => ?_)
              · skip
                refine lv_iconst (v := 4) hx hb dX5_measureAtom_232 (by decide) ?_
                have gx_26 : x_26 = 4 := by rw [ex_26]; simp only [if_pos c_225]
                simp only [gx_26] at hJ
                exact hJ _ _ _ hP hD hS (lv_sub hl [0, 1, 2, 3, 4, 5, 6, 7, 8, 9, 10, 11, 12, 13, 14, 15, 16] rfl)
              · skip
                refine lv_iconst (v := 3) hx hb dX5_measureAtom_228 (by decide) ?_
                refine lv_goto (tgt := 233) hx hb dX5_measureAtom_229 (by decide) ?_
                have gx_26 : x_26 = 3 := by rw [ex_26]; simp only [if_neg c_225]
                simp only [gx_26] at hJ
                exact hJ _ _ _ hP hD hS (lv_sub hl [0, 1, 2, 3, 4, 5, 6, 7, 8, 9, 10, 11, 12, 13, 14, 15, 16] rfl)
            · skip
              refine lv_iload hx hb dX5_measureAtom_233 (lv_at hl 12 rfl) ?_
              refine lv_imul hx hb dX5_measureAtom_235 ?_
              refine lv_iload hx hb dX5_measureAtom_236 (lv_at hl 4 rfl) ?_
              refine lv_iload hx hb dX5_measureAtom_238 (lv_at hl 12 rfl) ?_
              refine lv_iadd hx hb dX5_measureAtom_240 ?_
              refine kcS (ans := (mx (x_26 * (uni lev)) (x_19 + (uni lev)))) C0 hP hS (c_X5_greater l D cI (x_26 * (uni lev)) (x_19 + (uni lev)) ) (va_cwS 2 hts gX5_measureAtom_X5_greater rfl rfl rfl (by decide +kernel) ⟨by dsimp only [rmL, rmF, rmN, rmA]; omega, by dsimp only [rmL, rmF, rmN, rmA]; omega⟩) rfl hl.1 rfl (Nat.le_of_ble_eq_true rfl) dX5_measureAtom_241 ⟨Nat.zero_le _, Nat.zero_le _⟩ (fun H locs hP hS => ?_)
              refine kcS (ans := (mx (x_3 - (2 * (uni lev))) (mx (x_26 * (uni lev)) (x_19 + (uni lev))))) C0 hP hS (c_X5_greater l D cI (x_3 - (2 * (uni lev))) (mx (x_26 * (uni lev)) (x_19 + (uni lev))) ) (va_cwS 2 hts gX5_measureAtom_X5_greater rfl rfl rfl (by decide +kernel) ⟨by dsimp only [rmL, rmF, rmN, rmA]; omega, by dsimp only [rmL, rmF, rmN, rmA]; omega⟩) rfl hl.1 rfl (Nat.le_of_ble_eq_true rfl) dX5_measureAtom_244 ⟨Nat.zero_le _, Nat.zero_le _⟩ (fun H locs hP hS => ?_)
              have gx_25 : x_25 = (mx (x_3 - (2 * (uni lev))) (mx (x_26 * (uni lev)) (x_19 + (uni lev)))) := by rw [ex_25]; (try simp only [ex_26] at c_203 ⊢) <;> simp only [if_pos c_203]
              simp only [gx_25] at hJ
              exact hJ _ _ _ hP hD hS (lv_sub hl [0, 1, 2, 3, 4, 5, 6, 7, 8, 9, 10, 11, 12, 13, 14, 15, 16] rfl)
          · skip
            refine lv_iload hx hb dX5_measureAtom_206 (lv_at hl 10 rfl) ?_
            refine lv_iload hx hb dX5_measureAtom_208 (lv_at hl 12 rfl) ?_
            refine lv_iadd hx hb dX5_measureAtom_210 ?_
            refine lv_iload hx hb dX5_measureAtom_211 (lv_at hl 4 rfl) ?_
            refine lv_iadd hx hb dX5_measureAtom_213 ?_
            refine lv_goto (tgt := 247) hx hb dX5_measureAtom_214 (by decide) ?_
            have gx_25 : x_25 = ((x_3 + (uni lev)) + x_19) := by rw [ex_25]; simp only [if_neg c_203]
            simp only [gx_25] at hJ
            exact hJ _ _ _ hP hD hS (lv_sub hl [0, 1, 2, 3, 4, 5, 6, 7, 8, 9, 10, 11, 12, 13, 14, 15, 16] rfl)
        · skip
          refine lv_istore (lv' := [(17, .int x_25), (16, .int x_24), (13, .int x_23), (12, .int x_22), (11, .int x_21), (10, .int x_19), (9, .int x_18), (8, .int x_17), (15, .int 1), (14, .int 1), (7, .int x_4), (6, .int x_3), (5, .int x_2), (4, .int (uni lev)), (0, .ref (a 0)), (1, .int (nI n)), (2, .int lev), (3, .int cr)]) hx hb dX5_measureAtom_247 hl (by decide) rfl (fun ls hl => ?_)
          refine lv_iload hx hb dX5_measureAtom_249 (lv_at hl 1 rfl) ?_
          obtain ⟨x_27, ex_27⟩ : ∃ zz_ : Int32, zz_ = (if x_24 = 0 then (mx (x_4 + (uni lev)) (mx (2 * (uni lev)) (x_22 - (4 * (uni lev))))) else ((x_4 + (uni lev)) + x_22)) := ⟨_, rfl⟩
          refine jW (D := D) hD hl 287 (wM cI a (vU (vU (vU (vU (vU v 19 ((ML r N d ((r 9) n) (scl lev) 1).1)) 20 ((ML r N d ((r 9) n) (scl lev) 1).2.1)) 21 ((ML r N d ((r 9) n) (scl lev) 1).2.2)) 22 u_20) 23 e_20) (rU (rU r 11 it) 12 z_20)) [(17, .int x_25), (16, .int x_24), (13, .int x_23), (12, .int x_22), (11, .int x_21), (10, .int x_19), (9, .int x_18), (8, .int x_17), (15, .int 1), (14, .int 1), (7, .int x_4), (6, .int x_3), (5, .int x_2), (4, .int (uni lev)), (0, .ref (a 0)), (1, .int (nI n)), (2, .int lev), (3, .int cr)] [.int x_27] (fun hJ => ?_) (fun H locs ls hP hD hS hl => ?_)
          · skip
            refine lv_if_eq (tgt := 265) hx hb dX5_measureAtom_251 (by decide) (fun c_251 => ?_) (fun c_251 => ?_)
            · skip
              refine lv_iload hx hb dX5_measureAtom_265 (lv_at hl 10 rfl) ?_
              refine lv_iload hx hb dX5_measureAtom_267 (lv_at hl 13 rfl) ?_
              refine lv_iadd hx hb dX5_measureAtom_269 ?_
              refine lv_iconst (v := 2) hx hb dX5_measureAtom_270 (by decide) ?_
              refine lv_iload hx hb dX5_measureAtom_271 (lv_at hl 13 rfl) ?_
              refine lv_imul hx hb dX5_measureAtom_273 ?_
              refine lv_iload hx hb dX5_measureAtom_274 (lv_at hl 3 rfl) ?_
              refine lv_iconst (v := 4) hx hb dX5_measureAtom_276 (by decide) ?_
              refine lv_iload hx hb dX5_measureAtom_277 (lv_at hl 13 rfl) ?_
              refine lv_imul hx hb dX5_measureAtom_279 ?_
              refine lv_isub hx hb dX5_measureAtom_280 ?_
              refine kcS (ans := (mx (2 * (uni lev)) (x_22 - (4 * (uni lev))))) C0 hP hS (c_X5_greater l D cI (2 * (uni lev)) (x_22 - (4 * (uni lev))) ) (va_cwS 2 hts gX5_measureAtom_X5_greater rfl rfl rfl (by decide +kernel) ⟨by dsimp only [rmL, rmF, rmN, rmA]; omega, by dsimp only [rmL, rmF, rmN, rmA]; omega⟩) rfl hl.1 rfl (Nat.le_of_ble_eq_true rfl) dX5_measureAtom_281 ⟨Nat.zero_le _, Nat.zero_le _⟩ (fun H locs hP hS => ?_)
              refine kcS (ans := (mx (x_4 + (uni lev)) (mx (2 * (uni lev)) (x_22 - (4 * (uni lev)))))) C0 hP hS (c_X5_greater l D cI (x_4 + (uni lev)) (mx (2 * (uni lev)) (x_22 - (4 * (uni lev)))) ) (va_cwS 2 hts gX5_measureAtom_X5_greater rfl rfl rfl (by decide +kernel) ⟨by dsimp only [rmL, rmF, rmN, rmA]; omega, by dsimp only [rmL, rmF, rmN, rmA]; omega⟩) rfl hl.1 rfl (Nat.le_of_ble_eq_true rfl) dX5_measureAtom_284 ⟨Nat.zero_le _, Nat.zero_le _⟩ (fun H locs hP hS => ?_)
              have gx_27 : x_27 = (mx (x_4 + (uni lev)) (mx (2 * (uni lev)) (x_22 - (4 * (uni lev))))) := by rw [ex_27]; simp only [if_pos c_251]
              simp only [gx_27] at hJ
              exact hJ _ _ _ hP hD hS (lv_sub hl [0, 1, 2, 3, 4, 5, 6, 7, 8, 9, 10, 11, 12, 13, 14, 15, 16, 17] rfl)
            · skip
              refine lv_iload hx hb dX5_measureAtom_254 (lv_at hl 10 rfl) ?_
              refine lv_iload hx hb dX5_measureAtom_256 (lv_at hl 13 rfl) ?_
              refine lv_iadd hx hb dX5_measureAtom_258 ?_
              refine lv_iload hx hb dX5_measureAtom_259 (lv_at hl 3 rfl) ?_
              refine lv_iadd hx hb dX5_measureAtom_261 ?_
              refine lv_goto (tgt := 287) hx hb dX5_measureAtom_262 (by decide) ?_
              have gx_27 : x_27 = ((x_4 + (uni lev)) + x_22) := by rw [ex_27]; simp only [if_neg c_251]
              simp only [gx_27] at hJ
              exact hJ _ _ _ hP hD hS (lv_sub hl [0, 1, 2, 3, 4, 5, 6, 7, 8, 9, 10, 11, 12, 13, 14, 15, 16, 17] rfl)
          · skip
            refine lv_istore (lv' := [(18, .int x_27), (17, .int x_25), (16, .int x_24), (13, .int x_23), (12, .int x_22), (11, .int x_21), (10, .int x_19), (9, .int x_18), (8, .int x_17), (15, .int 1), (14, .int 1), (7, .int x_4), (6, .int x_3), (5, .int x_2), (4, .int (uni lev)), (0, .ref (a 0)), (1, .int (nI n)), (2, .int lev), (3, .int cr)]) hx hb dX5_measureAtom_287 hl (by decide) rfl (fun ls hl => ?_)
            refine lv_iload hx hb dX5_measureAtom_289 (lv_at hl 2 rfl) ?_
            obtain ⟨x_28, ex_28⟩ : ∃ zz_ : Int32, zz_ = (if x_24 = 0 then (if (uni lev) ≤ (((x_25 - x_19) + x_27) - x_22) then x_27 else ((x_27 + (uni lev)) - (((x_25 - x_19) + x_27) - x_22))) else x_27) := ⟨_, rfl⟩
            refine jW (D := D) hD hl 339 (wM cI a (vU (vU (vU (vU (vU v 19 ((ML r N d ((r 9) n) (scl lev) 1).1)) 20 ((ML r N d ((r 9) n) (scl lev) 1).2.1)) 21 ((ML r N d ((r 9) n) (scl lev) 1).2.2)) 22 u_20) 23 e_20) (rU (rU r 11 it) 12 z_20)) [(18, .int x_28), (17, .int x_25), (16, .int x_24), (13, .int x_23), (12, .int x_22), (11, .int x_21), (10, .int x_19), (9, .int x_18), (8, .int x_17), (15, .int 1), (14, .int 1), (7, .int x_4), (6, .int x_3), (5, .int x_2), (4, .int (uni lev)), (0, .ref (a 0)), (1, .int (nI n)), (2, .int lev), (3, .int cr)] [] (fun hJ => ?_) (fun H locs ls hP hD hS hl => ?_)
            · skip
              refine lv_if_ne (tgt := 339) hx hb dX5_measureAtom_291 (by decide) (fun c_291 => ?_) (fun c_291 => ?_)
              · skip
                have gx_28 : x_28 = x_27 := by rw [ex_28]; simp only [if_neg c_291]
                simp only [gx_28] at hJ
                exact hJ _ _ _ hP hD hS (lv_sub hl [0, 1, 2, 3, 4, 5, 6, 7, 8, 9, 10, 11, 12, 13, 14, 15, 16, 17, 18] rfl)
              · skip
                refine lv_iload hx hb dX5_measureAtom_294 (lv_at hl 10 rfl) ?_
                refine lv_if_eq (tgt := 339) hx hb dX5_measureAtom_296 (by decide) (fun c_296 => absurd c_296 (by decide)) (fun c_296 => ?_)
                refine lv_iload hx hb dX5_measureAtom_299 (lv_at hl 9 rfl) ?_
                refine lv_if_eq (tgt := 339) hx hb dX5_measureAtom_301 (by decide) (fun c_301 => absurd c_301 (by decide)) (fun c_301 => ?_)
                refine lv_iload hx hb dX5_measureAtom_304 (lv_at hl 1 rfl) ?_
                refine lv_iload hx hb dX5_measureAtom_306 (lv_at hl 6 rfl) ?_
                refine lv_isub hx hb dX5_measureAtom_308 ?_
                refine lv_iload hx hb dX5_measureAtom_309 (lv_at hl 0 rfl) ?_
                refine lv_iadd hx hb dX5_measureAtom_311 ?_
                refine lv_iload hx hb dX5_measureAtom_312 (lv_at hl 4 rfl) ?_
                refine lv_isub hx hb dX5_measureAtom_314 ?_
                refine lv_topi (fun x_29 ex_29 => ?_)
                refine lv_istore (lv' := [(19, .int x_29), (18, .int x_27), (17, .int x_25), (16, .int x_24), (13, .int x_23), (12, .int x_22), (11, .int x_21), (10, .int x_19), (9, .int x_18), (8, .int x_17), (15, .int 1), (14, .int 1), (7, .int x_4), (6, .int x_3), (5, .int x_2), (4, .int (uni lev)), (0, .ref (a 0)), (1, .int (nI n)), (2, .int lev), (3, .int cr)]) hx hb dX5_measureAtom_315 hl (by decide) rfl (fun ls hl => ?_)
                refine lv_iload hx hb dX5_measureAtom_317 (lv_at hl 0 rfl) ?_
                refine lv_iload hx hb dX5_measureAtom_319 (lv_at hl 15 rfl) ?_
                obtain ⟨x_30, ex_30⟩ : ∃ zz_ : Int32, zz_ = (if (uni lev) ≤ x_29 then x_27 else ((x_27 + (uni lev)) - x_29)) := ⟨_, rfl⟩
                refine jW (D := D) hD hl 337 (wM cI a (vU (vU (vU (vU (vU v 19 ((ML r N d ((r 9) n) (scl lev) 1).1)) 20 ((ML r N d ((r 9) n) (scl lev) 1).2.1)) 21 ((ML r N d ((r 9) n) (scl lev) 1).2.2)) 22 u_20) 23 e_20) (rU (rU r 11 it) 12 z_20)) [(19, .int x_29), (18, .int x_27), (17, .int x_25), (16, .int x_24), (13, .int x_23), (12, .int x_22), (11, .int x_21), (10, .int x_19), (9, .int x_18), (8, .int x_17), (15, .int 1), (14, .int 1), (7, .int x_4), (6, .int x_3), (5, .int x_2), (4, .int (uni lev)), (0, .ref (a 0)), (1, .int (nI n)), (2, .int lev), (3, .int cr)] [.int x_30] (fun hJ => ?_) (fun H locs ls hP hD hS hl => ?_)
                · skip
                  refine lv_icmp_ge (tgt := 335) hx hb dX5_measureAtom_321 (by decide) (fun c_321 => ?_) (fun c_321 => ?_)
                  · skip
                    refine lv_iload hx hb dX5_measureAtom_335 (lv_at hl 1 rfl) ?_
                    have gx_30 : x_30 = x_27 := by rw [ex_30]; simp only [if_pos c_321]
                    simp only [gx_30] at hJ
                    exact hJ _ _ _ hP hD hS (lv_sub hl [0, 1, 2, 3, 4, 5, 6, 7, 8, 9, 10, 11, 12, 13, 14, 15, 16, 17, 18, 19] rfl)
                  · skip
                    refine lv_iload hx hb dX5_measureAtom_324 (lv_at hl 1 rfl) ?_
                    refine lv_iload hx hb dX5_measureAtom_326 (lv_at hl 15 rfl) ?_
                    refine lv_iadd hx hb dX5_measureAtom_328 ?_
                    refine lv_iload hx hb dX5_measureAtom_329 (lv_at hl 0 rfl) ?_
                    refine lv_isub hx hb dX5_measureAtom_331 ?_
                    refine lv_goto (tgt := 337) hx hb dX5_measureAtom_332 (by decide) ?_
                    have gx_30 : x_30 = ((x_27 + (uni lev)) - x_29) := by rw [ex_30]; simp only [if_neg c_321]
                    simp only [gx_30] at hJ
                    exact hJ _ _ _ hP hD hS (lv_sub hl [0, 1, 2, 3, 4, 5, 6, 7, 8, 9, 10, 11, 12, 13, 14, 15, 16, 17, 18, 19] rfl)
                · skip
                  refine lv_istore (lv' := [(18, .int x_30), (19, .int x_29), (17, .int x_25), (16, .int x_24), (13, .int x_23), (12, .int x_22), (11, .int x_21), (10, .int x_19), (9, .int x_18), (8, .int x_17), (15, .int 1), (14, .int 1), (7, .int x_4), (6, .int x_3), (5, .int x_2), (4, .int (uni lev)), (0, .ref (a 0)), (1, .int (nI n)), (2, .int lev), (3, .int cr)]) hx hb dX5_measureAtom_337 hl (by decide) rfl (fun ls hl => ?_)
                  have gx_28 : x_28 = x_30 := by rw [ex_28]; (try simp only [ex_29, ex_30] at c_291 ⊢) <;> simp only [if_pos c_291]
                  simp only [gx_28] at hJ
                  exact hJ _ _ _ hP hD hS (lv_sub hl [0, 2, 3, 4, 5, 6, 7, 8, 9, 10, 11, 12, 13, 14, 15, 16, 17, 18, 19] rfl)
            · skip
              refine lv_iload hx hb dX5_measureAtom_339 (lv_at hl 8 rfl) ?_
              refine lv_iload hx hb dX5_measureAtom_341 (lv_at hl 5 rfl) ?_
              refine kcS (ans := (mx x_17 x_21)) C0 hP hS (c_X5_greater l D cI x_17 x_21 ) (va_cwS 2 hts gX5_measureAtom_X5_greater rfl rfl rfl (by decide +kernel) ⟨by dsimp only [rmL, rmF, rmN, rmA]; omega, by dsimp only [rmL, rmF, rmN, rmA]; omega⟩) rfl hl.1 rfl (Nat.le_of_ble_eq_true rfl) dX5_measureAtom_343 ⟨Nat.zero_le _, Nat.zero_le _⟩ (fun H locs hP hS => ?_)
              refine lv_istore (lv' := [(19, .int (mx x_17 x_21)), (18, .int x_28), (17, .int x_25), (16, .int x_24), (13, .int x_23), (12, .int x_22), (11, .int x_21), (10, .int x_19), (9, .int x_18), (8, .int x_17), (15, .int 1), (14, .int 1), (7, .int x_4), (6, .int x_3), (5, .int x_2), (4, .int (uni lev)), (0, .ref (a 0)), (1, .int (nI n)), (2, .int lev), (3, .int cr)]) hx hb dX5_measureAtom_346 hl (by decide) rfl (fun ls hl => ?_)
              refine lv_iload hx hb dX5_measureAtom_348 (lv_at hl 3 rfl) ?_
              obtain ⟨x_31, ex_31⟩ : ∃ zz_ : Int32, zz_ = (if x_24 = 0 then ((x_2 + (mx x_17 x_21)) + ((uni lev) / 2)) else (mx x_2 (mx x_17 x_21))) := ⟨_, rfl⟩
              refine jW (D := D) hD hl 374 (wM cI a (vU (vU (vU (vU (vU v 19 ((ML r N d ((r 9) n) (scl lev) 1).1)) 20 ((ML r N d ((r 9) n) (scl lev) 1).2.1)) 21 ((ML r N d ((r 9) n) (scl lev) 1).2.2)) 22 u_20) 23 e_20) (rU (rU r 11 it) 12 z_20)) [(19, .int (mx x_17 x_21)), (18, .int x_28), (17, .int x_25), (16, .int x_24), (13, .int x_23), (12, .int x_22), (11, .int x_21), (10, .int x_19), (9, .int x_18), (8, .int x_17), (15, .int 1), (14, .int 1), (7, .int x_4), (6, .int x_3), (5, .int x_2), (4, .int (uni lev)), (0, .ref (a 0)), (1, .int (nI n)), (2, .int lev), (3, .int cr)] [.int x_31] (fun hJ => ?_) (fun H locs ls hP hD hS hl => ?_)
              · skip
                refine lv_if_eq (tgt := 363) hx hb dX5_measureAtom_350 (by decide) (fun c_350 => ?_) (fun c_350 => ?_)
                · skip
                  refine lv_iload hx hb dX5_measureAtom_363 (lv_at hl 14 rfl) ?_
                  refine lv_iload hx hb dX5_measureAtom_365 (lv_at hl 0 rfl) ?_
                  refine lv_iadd hx hb dX5_measureAtom_367 ?_
                  refine lv_iload hx hb dX5_measureAtom_368 (lv_at hl 15 rfl) ?_
                  refine kcS (ans := ((uni lev) / 2)) C0 hP hS (c_X5_half l D cI (uni lev) ) (va_cwS 1 hts gX5_measureAtom_X5_half rfl rfl rfl (by decide +kernel) ⟨by dsimp only [rmL, rmF, rmN, rmA]; omega, by dsimp only [rmL, rmF, rmN, rmA]; omega⟩) rfl hl.1 rfl (Nat.le_of_ble_eq_true rfl) dX5_measureAtom_370 ⟨Nat.zero_le _, Nat.zero_le _⟩ (fun H locs hP hS => ?_)
                  refine lv_iadd hx hb dX5_measureAtom_373 ?_
                  have gx_31 : x_31 = ((x_2 + (mx x_17 x_21)) + ((uni lev) / 2)) := by rw [ex_31]; simp only [if_pos c_350]
                  simp only [gx_31] at hJ
                  exact hJ _ _ _ hP hD hS (lv_sub hl [0, 1, 2, 3, 4, 5, 6, 7, 8, 9, 10, 11, 12, 13, 14, 15, 16, 17, 18, 19] rfl)
                · skip
                  refine lv_iload hx hb dX5_measureAtom_353 (lv_at hl 14 rfl) ?_
                  refine lv_iload hx hb dX5_measureAtom_355 (lv_at hl 0 rfl) ?_
                  refine kcS (ans := (mx x_2 (mx x_17 x_21))) C0 hP hS (c_X5_greater l D cI x_2 (mx x_17 x_21) ) (va_cwS 2 hts gX5_measureAtom_X5_greater rfl rfl rfl (by decide +kernel) ⟨by dsimp only [rmL, rmF, rmN, rmA]; omega, by dsimp only [rmL, rmF, rmN, rmA]; omega⟩) rfl hl.1 rfl (Nat.le_of_ble_eq_true rfl) dX5_measureAtom_357 ⟨Nat.zero_le _, Nat.zero_le _⟩ (fun H locs hP hS => ?_)
                  refine lv_goto (tgt := 374) hx hb dX5_measureAtom_360 (by decide) ?_
                  have gx_31 : x_31 = (mx x_2 (mx x_17 x_21)) := by rw [ex_31]; simp only [if_neg c_350]
                  simp only [gx_31] at hJ
                  exact hJ _ _ _ hP hD hS (lv_sub hl [0, 1, 2, 3, 4, 5, 6, 7, 8, 9, 10, 11, 12, 13, 14, 15, 16, 17, 18, 19] rfl)
              · skip
                refine lv_istore (lv' := [(20, .int x_31), (19, .int (mx x_17 x_21)), (18, .int x_28), (17, .int x_25), (16, .int x_24), (13, .int x_23), (12, .int x_22), (11, .int x_21), (10, .int x_19), (9, .int x_18), (8, .int x_17), (15, .int 1), (14, .int 1), (7, .int x_4), (6, .int x_3), (5, .int x_2), (4, .int (uni lev)), (0, .ref (a 0)), (1, .int (nI n)), (2, .int lev), (3, .int cr)]) hx hb dX5_measureAtom_374 hl (by decide) rfl (fun ls hl => ?_)
                refine lv_iload hx hb dX5_measureAtom_376 (lv_at hl 14 rfl) ?_
                refine lv_iconst (v := 0) hx hb dX5_measureAtom_378 (by decide) ?_
                refine kcS (ans := (mx x_3 0)) C0 hP hS (c_X5_greater l D cI x_3 0 ) (va_cwS 2 hts gX5_measureAtom_X5_greater rfl rfl rfl (by decide +kernel) ⟨by dsimp only [rmL, rmF, rmN, rmA]; omega, by dsimp only [rmL, rmF, rmN, rmA]; omega⟩) rfl hl.1 rfl (Nat.le_of_ble_eq_true rfl) dX5_measureAtom_379 ⟨Nat.zero_le _, Nat.zero_le _⟩ (fun H locs hP hS => ?_)
                refine lv_istore (lv' := [(6, .int (mx x_3 0)), (20, .int x_31), (19, .int (mx x_17 x_21)), (18, .int x_28), (17, .int x_25), (16, .int x_24), (13, .int x_23), (12, .int x_22), (11, .int x_21), (10, .int x_19), (9, .int x_18), (8, .int x_17), (15, .int 1), (14, .int 1), (7, .int x_4), (5, .int x_2), (4, .int (uni lev)), (0, .ref (a 0)), (1, .int (nI n)), (2, .int lev), (3, .int cr)]) hx hb dX5_measureAtom_382 hl (by decide) rfl (fun ls hl => ?_)
                refine lv_iload hx hb dX5_measureAtom_384 (lv_at hl 14 rfl) ?_
                refine lv_iconst (v := 0) hx hb dX5_measureAtom_386 (by decide) ?_
                refine kcS (ans := (mx x_4 0)) C0 hP hS (c_X5_greater l D cI x_4 0 ) (va_cwS 2 hts gX5_measureAtom_X5_greater rfl rfl rfl (by decide +kernel) ⟨by dsimp only [rmL, rmF, rmN, rmA]; omega, by dsimp only [rmL, rmF, rmN, rmA]; omega⟩) rfl hl.1 rfl (Nat.le_of_ble_eq_true rfl) dX5_measureAtom_387 ⟨Nat.zero_le _, Nat.zero_le _⟩ (fun H locs hP hS => ?_)
                refine lv_istore (lv' := [(7, .int (mx x_4 0)), (6, .int (mx x_3 0)), (20, .int x_31), (19, .int (mx x_17 x_21)), (18, .int x_28), (17, .int x_25), (16, .int x_24), (13, .int x_23), (12, .int x_22), (11, .int x_21), (10, .int x_19), (9, .int x_18), (8, .int x_17), (15, .int 1), (14, .int 1), (5, .int x_2), (4, .int (uni lev)), (0, .ref (a 0)), (1, .int (nI n)), (2, .int lev), (3, .int cr)]) hx hb dX5_measureAtom_390 hl (by decide) rfl (fun ls hl => ?_)
                refine lv_iload hx hb dX5_measureAtom_392 (lv_at hl 14 rfl) ?_
                refine lv_if_eq (tgt := 421) hx hb dX5_measureAtom_394 (by decide) (fun c_394 => absurd c_394 (by decide)) (fun c_394 => ?_)
                refine lv_iload hx hb dX5_measureAtom_397 (lv_at hl 1 rfl) ?_
                refine lv_iload hx hb dX5_measureAtom_399 (lv_at hl 5 rfl) ?_
                refine lv_iload hx hb dX5_measureAtom_401 (lv_at hl 11 rfl) ?_
                refine lv_iadd hx hb dX5_measureAtom_403 ?_
                refine kcS (ans := (mx (mx x_3 0) (x_25 + x_18))) C0 hP hS (c_X5_greater l D cI (mx x_3 0) (x_25 + x_18) ) (va_cwS 2 hts gX5_measureAtom_X5_greater rfl rfl rfl (by decide +kernel) ⟨by dsimp only [rmL, rmF, rmN, rmA]; omega, by dsimp only [rmL, rmF, rmN, rmA]; omega⟩) rfl hl.1 rfl (Nat.le_of_ble_eq_true rfl) dX5_measureAtom_404 ⟨Nat.zero_le _, Nat.zero_le _⟩ (fun H locs hP hS => ?_)
                refine lv_topi (fun x_32 ex_32 => ?_)
                refine lv_istore (lv' := [(6, .int x_32), (7, .int (mx x_4 0)), (20, .int x_31), (19, .int (mx x_17 x_21)), (18, .int x_28), (17, .int x_25), (16, .int x_24), (13, .int x_23), (12, .int x_22), (11, .int x_21), (10, .int x_19), (9, .int x_18), (8, .int x_17), (15, .int 1), (14, .int 1), (5, .int x_2), (4, .int (uni lev)), (0, .ref (a 0)), (1, .int (nI n)), (2, .int lev), (3, .int cr)]) hx hb dX5_measureAtom_407 hl (by decide) rfl (fun ls hl => ?_)
                refine lv_iload hx hb dX5_measureAtom_409 (lv_at hl 1 rfl) ?_
                refine lv_iload hx hb dX5_measureAtom_411 (lv_at hl 10 rfl) ?_
                refine lv_iload hx hb dX5_measureAtom_413 (lv_at hl 5 rfl) ?_
                refine lv_isub hx hb dX5_measureAtom_415 ?_
                refine kcS (ans := (mx (mx x_4 0) (x_19 - x_25))) C0 hP hS (c_X5_greater l D cI (mx x_4 0) (x_19 - x_25) ) (va_cwS 2 hts gX5_measureAtom_X5_greater rfl rfl rfl (by decide +kernel) ⟨by dsimp only [rmL, rmF, rmN, rmA]; omega, by dsimp only [rmL, rmF, rmN, rmA]; omega⟩) rfl hl.1 rfl (Nat.le_of_ble_eq_true rfl) dX5_measureAtom_416 ⟨Nat.zero_le _, Nat.zero_le _⟩ (fun H locs hP hS => ?_)
                refine lv_topi (fun x_33 ex_33 => ?_)
                refine lv_istore (lv' := [(7, .int x_33), (6, .int x_32), (20, .int x_31), (19, .int (mx x_17 x_21)), (18, .int x_28), (17, .int x_25), (16, .int x_24), (13, .int x_23), (12, .int x_22), (11, .int x_21), (10, .int x_19), (9, .int x_18), (8, .int x_17), (15, .int 1), (14, .int 1), (5, .int x_2), (4, .int (uni lev)), (0, .ref (a 0)), (1, .int (nI n)), (2, .int lev), (3, .int cr)]) hx hb dX5_measureAtom_419 hl (by decide) rfl (fun ls hl => ?_)
                refine lv_iload hx hb dX5_measureAtom_421 (lv_at hl 13 rfl) ?_
                refine lv_if_eq (tgt := 450) hx hb dX5_measureAtom_423 (by decide) (fun c_423 => absurd c_423 (by decide)) (fun c_423 => ?_)
                refine lv_iload hx hb dX5_measureAtom_426 (lv_at hl 1 rfl) ?_
                refine lv_iload hx hb dX5_measureAtom_428 (lv_at hl 8 rfl) ?_
                refine lv_iload hx hb dX5_measureAtom_430 (lv_at hl 4 rfl) ?_
                refine lv_isub hx hb dX5_measureAtom_432 ?_
                refine kcS (ans := (mx x_32 (x_22 - x_28))) C0 hP hS (c_X5_greater l D cI x_32 (x_22 - x_28) ) (va_cwS 2 hts gX5_measureAtom_X5_greater rfl rfl rfl (by decide +kernel) ⟨by dsimp only [rmL, rmF, rmN, rmA]; omega, by dsimp only [rmL, rmF, rmN, rmA]; omega⟩) rfl hl.1 rfl (Nat.le_of_ble_eq_true rfl) dX5_measureAtom_433 ⟨Nat.zero_le _, Nat.zero_le _⟩ (fun H locs hP hS => ?_)
                refine lv_istore (lv' := [(6, .int (mx x_32 (x_22 - x_28))), (7, .int x_33), (20, .int x_31), (19, .int (mx x_17 x_21)), (18, .int x_28), (17, .int x_25), (16, .int x_24), (13, .int x_23), (12, .int x_22), (11, .int x_21), (10, .int x_19), (9, .int x_18), (8, .int x_17), (15, .int 1), (14, .int 1), (5, .int x_2), (4, .int (uni lev)), (0, .ref (a 0)), (1, .int (nI n)), (2, .int lev), (3, .int cr)]) hx hb dX5_measureAtom_436 hl (by decide) rfl (fun ls hl => ?_)
                refine lv_iload hx hb dX5_measureAtom_438 (lv_at hl 1 rfl) ?_
                refine lv_iload hx hb dX5_measureAtom_440 (lv_at hl 7 rfl) ?_
                refine lv_iload hx hb dX5_measureAtom_442 (lv_at hl 4 rfl) ?_
                refine lv_iadd hx hb dX5_measureAtom_444 ?_
                refine kcS (ans := (mx x_33 (x_23 + x_28))) C0 hP hS (c_X5_greater l D cI x_33 (x_23 + x_28) ) (va_cwS 2 hts gX5_measureAtom_X5_greater rfl rfl rfl (by decide +kernel) ⟨by dsimp only [rmL, rmF, rmN, rmA]; omega, by dsimp only [rmL, rmF, rmN, rmA]; omega⟩) rfl hl.1 rfl (Nat.le_of_ble_eq_true rfl) dX5_measureAtom_445 ⟨Nat.zero_le _, Nat.zero_le _⟩ (fun H locs hP hS => ?_)
                refine lv_istore (lv' := [(7, .int (mx x_33 (x_23 + x_28))), (6, .int (mx x_32 (x_22 - x_28))), (20, .int x_31), (19, .int (mx x_17 x_21)), (18, .int x_28), (17, .int x_25), (16, .int x_24), (13, .int x_23), (12, .int x_22), (11, .int x_21), (10, .int x_19), (9, .int x_18), (8, .int x_17), (15, .int 1), (14, .int 1), (5, .int x_2), (4, .int (uni lev)), (0, .ref (a 0)), (1, .int (nI n)), (2, .int lev), (3, .int cr)]) hx hb dX5_measureAtom_448 hl (by decide) rfl (fun ls hl => ?_)
                refine lv_aload_n hx hb dX5_measureAtom_450 rfl (lv_at hl 17 rfl) ?_
                refine lv_iload hx hb dX5_measureAtom_451 (lv_at hl 2 rfl) ?_
                refine lv_iload hx hb dX5_measureAtom_453 (lv_at hl 1 rfl) ?_
                refine lv_iload hx hb dX5_measureAtom_455 (lv_at hl 0 rfl) ?_
                refine kcDv C0 hP hD hS (c_X5_set l D cI a (vU (vU (vU (vU (vU v 19 ((ML r N d ((r 9) n) (scl lev) 1).1)) 20 ((ML r N d ((r 9) n) (scl lev) 1).2.1)) 21 ((ML r N d ((r 9) n) (scl lev) 1).2.2)) 22 u_20) 23 e_20) (rU (rU r 11 it) 12 z_20) x_31 (mx x_32 (x_22 - x_28)) (mx x_33 (x_23 + x_28))) (cwV 3 hts gX5_measureAtom_X5_set rfl rfl rfl (by decide +kernel) ⟨by dsimp only [rmL, rmF, rmN, rmA]; omega, by dsimp only [rmL, rmF, rmN, rmA]; omega⟩) 0 5 rfl rfl rfl hl.1 rfl (Nat.le_of_ble_eq_true rfl) dX5_measureAtom_457 ⟨Nat.zero_le _, Nat.zero_le _⟩ (fun H locs hP hD hS => ?_)
                have hP : va_P D vwCl (wM cI a (vU (vU (vU (vU (vU v 19 x_31) 20 (mx x_32 (x_22 - x_28))) 21 (mx x_33 (x_23 + x_28))) 22 u_20) 23 e_20) (rU (rU r 11 it) 12 z_20)) H := hP
                have hD : va_D A (wM cI a (vU (vU (vU (vU (vU v 19 x_31) 20 (mx x_32 (x_22 - x_28))) 21 (mx x_33 (x_23 + x_28))) 22 u_20) 23 e_20) (rU (rU r 11 it) 12 z_20)) := hD
                refine lv_aload_n hx hb dX5_measureAtom_460 rfl (lv_at hl 17 rfl) ?_
                refine lv_iload hx hb dX5_measureAtom_461 (lv_at hl 5 rfl) ?_
                refine va_put (D := D) (ci := 5) (v := .int x_25) (ty := .int) (C := RX5) (T := TX5) (N := 25) hx hb hts hin_X5 tyX5 tyX5_ok nmX5 hown hK hP hD hS 0 rfl rfl 22 (by decide) hf125 (fun _ h9 => h9) rfl (by decide +kernel) rfl rfl (Nat.le_of_ble_eq_true rfl) dX5_measureAtom_463 (fun H locs hP hD hS => ?_)
                have hP : va_P D vwCl (wM cI a (vU (vU (vU (vU (vU v 19 x_31) 20 (mx x_32 (x_22 - x_28))) 21 (mx x_33 (x_23 + x_28))) 22 x_25) 23 e_20) (rU (rU r 11 it) 12 z_20)) H := hP
                have hD : va_D A (wM cI a (vU (vU (vU (vU (vU v 19 x_31) 20 (mx x_32 (x_22 - x_28))) 21 (mx x_33 (x_23 + x_28))) 22 x_25) 23 e_20) (rU (rU r 11 it) 12 z_20)) := hD
                refine lv_aload_n hx hb dX5_measureAtom_466 rfl (lv_at hl 17 rfl) ?_
                refine lv_iload hx hb dX5_measureAtom_467 (lv_at hl 4 rfl) ?_
                refine va_put (D := D) (ci := 5) (v := .int x_28) (ty := .int) (C := RX5) (T := TX5) (N := 25) hx hb hts hin_X5 tyX5 tyX5_ok nmX5 hown hK hP hD hS 0 rfl rfl 23 (by decide) hf128 (fun _ h9 => h9) rfl (by decide +kernel) rfl rfl (Nat.le_of_ble_eq_true rfl) dX5_measureAtom_469 (fun H locs hP hD hS => ?_)
                have hP : va_P D vwCl (wM cI a (vU (vU (vU (vU (vU v 19 x_31) 20 (mx x_32 (x_22 - x_28))) 21 (mx x_33 (x_23 + x_28))) 22 x_25) 23 x_28) (rU (rU r 11 it) 12 z_20)) H := hP
                have hD : va_D A (wM cI a (vU (vU (vU (vU (vU v 19 x_31) 20 (mx x_32 (x_22 - x_28))) 21 (mx x_33 (x_23 + x_28))) 22 x_25) 23 x_28) (rU (rU r 11 it) 12 z_20)) := hD
                have q19 : x_31 = (mAt (ML r N d) r n lev cr).1 := (pf_X5_measureAtom_5 a v r n N d rk lev cr it sz w0 h0 d0 u0 e0 hN hN1 hn hd hR hat u_1 e_1 z_1 c_14 x_2 ex_2 x_3 ex_3 x_4 ex_4 c_77 c_94 u_16 e_16 z_16 x_17 ex_17 x_18 ex_18 x_19 ex_19 u_20 e_20 z_20 x_21 ex_21 x_22 ex_22 x_23 ex_23 x_24 ex_24 x_25 ex_25 x_27 ex_27 x_28 ex_28 x_31 ex_31 x_32 ex_32 x_33 ex_33)
                have q20 : (mx x_32 (x_22 - x_28)) = (mAt (ML r N d) r n lev cr).2.1 := (pf_X5_measureAtom_6 a v r n N d rk lev cr it sz w0 h0 d0 u0 e0 hN hN1 hn hd hR hat u_1 e_1 z_1 c_14 x_2 ex_2 x_3 ex_3 x_4 ex_4 c_77 c_94 u_16 e_16 z_16 x_17 ex_17 x_18 ex_18 x_19 ex_19 u_20 e_20 z_20 x_21 ex_21 x_22 ex_22 x_23 ex_23 x_24 ex_24 x_25 ex_25 x_27 ex_27 x_28 ex_28 x_31 ex_31 x_32 ex_32 x_33 ex_33)
                have q21 : (mx x_33 (x_23 + x_28)) = (mAt (ML r N d) r n lev cr).2.2 := (pf_X5_measureAtom_7 a v r n N d rk lev cr it sz w0 h0 d0 u0 e0 hN hN1 hn hd hR hat u_1 e_1 z_1 c_14 x_2 ex_2 x_3 ex_3 x_4 ex_4 c_77 c_94 u_16 e_16 z_16 x_17 ex_17 x_18 ex_18 x_19 ex_19 u_20 e_20 z_20 x_21 ex_21 x_22 ex_22 x_23 ex_23 x_24 ex_24 x_25 ex_25 x_27 ex_27 x_28 ex_28 x_31 ex_31 x_32 ex_32 x_33 ex_33)
                have q22 : x_25 = (atU (ML r N d) r n lev cr) := (pf_X5_measureAtom_8 a v r n N d rk lev cr it sz w0 h0 d0 u0 e0 hN hN1 hn hd hR hat u_1 e_1 z_1 c_14 x_2 ex_2 x_3 ex_3 x_4 ex_4 c_77 c_94 u_16 e_16 z_16 x_17 ex_17 x_18 ex_18 x_19 ex_19 u_20 e_20 z_20 x_21 ex_21 x_22 ex_22 x_23 ex_23 x_24 ex_24 x_25 ex_25 x_27 ex_27 x_28 ex_28 x_31 ex_31 x_32 ex_32 x_33 ex_33)
                have q23 : x_28 = (atD (ML r N d) r n lev cr) := (pf_X5_measureAtom_9 a v r n N d rk lev cr it sz w0 h0 d0 u0 e0 hN hN1 hn hd hR hat u_1 e_1 z_1 c_14 x_2 ex_2 x_3 ex_3 x_4 ex_4 c_77 c_94 u_16 e_16 z_16 x_17 ex_17 x_18 ex_18 x_19 ex_19 u_20 e_20 z_20 x_21 ex_21 x_22 ex_22 x_23 ex_23 x_24 ex_24 x_25 ex_25 x_27 ex_27 x_28 ex_28 x_31 ex_31 x_32 ex_32 x_33 ex_33)
                have hw : (wM cI a (vU (vU (vU (vU (vU v 19 x_31) 20 (mx x_32 (x_22 - x_28))) 21 (mx x_33 (x_23 + x_28))) 22 x_25) 23 x_28) (rU (rU r 11 it) 12 z_20)) = (wM cI a (vU (vU (vU (vU (vU v 19 ((mAt (ML r N d) r n lev cr).1)) 20 ((mAt (ML r N d) r n lev cr).2.1)) 21 ((mAt (ML r N d) r n lev cr).2.2)) 22 (atU (ML r N d) r n lev cr)) 23 (atD (ML r N d) r n lev cr)) (rU (rU r 11 it) 12 z_20)) := by rw [q19, q20, q21, q22, q23]
                have hP : va_P D vwCl (wM cI a (vU (vU (vU (vU (vU v 19 ((mAt (ML r N d) r n lev cr).1)) 20 ((mAt (ML r N d) r n lev cr).2.1)) 21 ((mAt (ML r N d) r n lev cr).2.2)) 22 (atU (ML r N d) r n lev cr)) 23 (atD (ML r N d) r n lev cr)) (rU (rU r 11 it) 12 z_20)) H := hw ▸ hP
                have hD : va_D A (wM cI a (vU (vU (vU (vU (vU v 19 ((mAt (ML r N d) r n lev cr).1)) 20 ((mAt (ML r N d) r n lev cr).2.1)) 21 ((mAt (ML r N d) r n lev cr).2.2)) 22 (atU (ML r N d) r n lev cr)) 23 (atD (ML r N d) r n lev cr)) (rU (rU r 11 it) 12 z_20)) := hw ▸ hD
                exact k_vret C0 (atU (ML r N d) r n lev cr, atD (ML r N d) r n lev cr, z_20) hP hD hS ⟨(fun i hi k hk => by show z_20 (16 * i + k) = sz (16 * i + k); rw [hz_20 i (by omega) k hk, hz_16 i (by omega) k hk, hz_1 i (by omega) k hk]), fun _ => ⟨rfl, rfl⟩⟩ dX5_measureAtom_472
  · skip
    refine lv_aload_n hx hb dX5_measureAtom_17 rfl (lv_at hl 0 rfl) ?_
    refine va_get (D := D) (ci := 5) (v := .ref (a 9)) (C := RX5) (T := TX5) (N := 25) hx hb hts hin_X5 hown hK hP 0 rfl rfl 12 (by decide) hf38 (fun _ h9 => h9) rfl dX5_measureAtom_18 ?_
    refine lv_iload_n hx hb dX5_measureAtom_21 rfl (lv_at hl 1 rfl) ?_
    refine ra_ld (f := (r 9)) C0 hP 9 rfl n rfl (by omega) (by decide) dX5_measureAtom_22 ?_
    refine lv_iconst (v := (-1)) hx hb dX5_measureAtom_23 (by decide) ?_
    refine lv_icmp_ne (tgt := 28) hx hb dX5_measureAtom_24 (by decide) (fun c_24 => ?_) (fun c_24 => ?_)
    · skip
      refine lv_iload_n hx hb dX5_measureAtom_28 rfl (lv_at hl 2 rfl) ?_
      refine kcS (ans := (uni lev)) C0 hP hS (c_X5_unit l D cI lev ) (va_cwS 1 hts gX5_measureAtom_X5_unit rfl rfl rfl (by decide +kernel) ⟨by dsimp only [rmL, rmF, rmN, rmA]; omega, by dsimp only [rmL, rmF, rmN, rmA]; omega⟩) rfl hl.1 rfl (Nat.le_of_ble_eq_true rfl) dX5_measureAtom_29 ⟨Nat.zero_le _, Nat.zero_le _⟩ (fun H locs hP hS => ?_)
      refine lv_istore (lv' := [(4, .int (uni lev)), (0, .ref (a 0)), (1, .int (nI n)), (2, .int lev), (3, .int cr)]) hx hb dX5_measureAtom_32 hl (by decide) rfl (fun ls hl => ?_)
      refine lv_aload_n hx hb dX5_measureAtom_34 rfl (lv_at hl 1 rfl) ?_
      refine va_get (D := D) (ci := 5) (v := .int ((mNu (ML r N d) r n lev cr).1)) (C := RX5) (T := TX5) (N := 25) hx hb hts hin_X5 hown hK hP 0 rfl rfl 19 (by decide) hf96 (fun _ h9 => h9) rfl dX5_measureAtom_35 ?_
      refine lv_topi (fun x_34 ex_34 => ?_)
      refine lv_istore (lv' := [(5, .int x_34), (4, .int (uni lev)), (0, .ref (a 0)), (1, .int (nI n)), (2, .int lev), (3, .int cr)]) hx hb dX5_measureAtom_38 hl (by decide) rfl (fun ls hl => ?_)
      refine lv_aload_n hx hb dX5_measureAtom_40 rfl (lv_at hl 2 rfl) ?_
      refine va_get (D := D) (ci := 5) (v := .int ((mNu (ML r N d) r n lev cr).2.1)) (C := RX5) (T := TX5) (N := 25) hx hb hts hin_X5 hown hK hP 0 rfl rfl 20 (by decide) hf99 (fun _ h9 => h9) rfl dX5_measureAtom_41 ?_
      refine lv_topi (fun x_35 ex_35 => ?_)
      refine lv_istore (lv' := [(6, .int x_35), (5, .int x_34), (4, .int (uni lev)), (0, .ref (a 0)), (1, .int (nI n)), (2, .int lev), (3, .int cr)]) hx hb dX5_measureAtom_44 hl (by decide) rfl (fun ls hl => ?_)
      refine lv_aload_n hx hb dX5_measureAtom_46 rfl (lv_at hl 3 rfl) ?_
      refine va_get (D := D) (ci := 5) (v := .int ((mNu (ML r N d) r n lev cr).2.2)) (C := RX5) (T := TX5) (N := 25) hx hb hts hin_X5 hown hK hP 0 rfl rfl 21 (by decide) hf102 (fun _ h9 => h9) rfl dX5_measureAtom_47 ?_
      refine lv_topi (fun x_36 ex_36 => ?_)
      refine lv_istore (lv' := [(7, .int x_36), (6, .int x_35), (5, .int x_34), (4, .int (uni lev)), (0, .ref (a 0)), (1, .int (nI n)), (2, .int lev), (3, .int cr)]) hx hb dX5_measureAtom_50 hl (by decide) rfl (fun ls hl => ?_)
      refine lv_iconst (v := 0) hx hb dX5_measureAtom_52 (by decide) ?_
      refine lv_istore (lv' := [(8, .int 0), (7, .int x_36), (6, .int x_35), (5, .int x_34), (4, .int (uni lev)), (0, .ref (a 0)), (1, .int (nI n)), (2, .int lev), (3, .int cr)]) hx hb dX5_measureAtom_53 hl (by decide) rfl (fun ls hl => ?_)
      refine lv_iconst (v := 0) hx hb dX5_measureAtom_55 (by decide) ?_
      refine lv_istore (lv' := [(9, .int 0), (8, .int 0), (7, .int x_36), (6, .int x_35), (5, .int x_34), (4, .int (uni lev)), (0, .ref (a 0)), (1, .int (nI n)), (2, .int lev), (3, .int cr)]) hx hb dX5_measureAtom_56 hl (by decide) rfl (fun ls hl => ?_)
      refine lv_iconst (v := 0) hx hb dX5_measureAtom_58 (by decide) ?_
      refine lv_istore (lv' := [(10, .int 0), (9, .int 0), (8, .int 0), (7, .int x_36), (6, .int x_35), (5, .int x_34), (4, .int (uni lev)), (0, .ref (a 0)), (1, .int (nI n)), (2, .int lev), (3, .int cr)]) hx hb dX5_measureAtom_59 hl (by decide) rfl (fun ls hl => ?_)
      refine lv_iconst (v := 0) hx hb dX5_measureAtom_61 (by decide) ?_
      refine lv_istore (lv' := [(11, .int 0), (10, .int 0), (9, .int 0), (8, .int 0), (7, .int x_36), (6, .int x_35), (5, .int x_34), (4, .int (uni lev)), (0, .ref (a 0)), (1, .int (nI n)), (2, .int lev), (3, .int cr)]) hx hb dX5_measureAtom_62 hl (by decide) rfl (fun ls hl => ?_)
      refine lv_iconst (v := 0) hx hb dX5_measureAtom_64 (by decide) ?_
      refine lv_istore (lv' := [(12, .int 0), (11, .int 0), (10, .int 0), (9, .int 0), (8, .int 0), (7, .int x_36), (6, .int x_35), (5, .int x_34), (4, .int (uni lev)), (0, .ref (a 0)), (1, .int (nI n)), (2, .int lev), (3, .int cr)]) hx hb dX5_measureAtom_65 hl (by decide) rfl (fun ls hl => ?_)
      refine lv_iconst (v := 0) hx hb dX5_measureAtom_67 (by decide) ?_
      refine lv_istore (lv' := [(13, .int 0), (12, .int 0), (11, .int 0), (10, .int 0), (9, .int 0), (8, .int 0), (7, .int x_36), (6, .int x_35), (5, .int x_34), (4, .int (uni lev)), (0, .ref (a 0)), (1, .int (nI n)), (2, .int lev), (3, .int cr)]) hx hb dX5_measureAtom_68 hl (by decide) rfl (fun ls hl => ?_)
      refine lv_aload_n hx hb dX5_measureAtom_70 rfl (lv_at hl 10 rfl) ?_
      refine va_get (D := D) (ci := 5) (v := .ref (a 8)) (C := RX5) (T := TX5) (N := 25) hx hb hts hin_X5 hown hK hP 0 rfl rfl 11 (by decide) hf35 (fun _ h9 => h9) rfl dX5_measureAtom_71 ?_
      refine lv_iload_n hx hb dX5_measureAtom_74 rfl (lv_at hl 11 rfl) ?_
      refine ra_ld (f := (r 8)) C0 hP 8 rfl n rfl (by omega) (by decide) dX5_measureAtom_75 ?_
      refine lv_iconst (v := (-1)) hx hb dX5_measureAtom_76 (by decide) ?_
      refine lv_icmp_eq (tgt := 84) hx hb dX5_measureAtom_77 (by decide) (fun c_77 => ?_) (fun c_77 => absurd c_14 c_77)
      refine lv_iconst (v := 0) hx hb dX5_measureAtom_84 (by decide) ?_
      refine lv_istore (lv' := [(14, .int 0), (13, .int 0), (12, .int 0), (11, .int 0), (10, .int 0), (9, .int 0), (8, .int 0), (7, .int x_36), (6, .int x_35), (5, .int x_34), (4, .int (uni lev)), (0, .ref (a 0)), (1, .int (nI n)), (2, .int lev), (3, .int cr)]) hx hb dX5_measureAtom_85 hl (by decide) rfl (fun ls hl => ?_)
      refine lv_aload_n hx hb dX5_measureAtom_87 rfl (lv_at hl 11 rfl) ?_
      refine va_get (D := D) (ci := 5) (v := .ref (a 9)) (C := RX5) (T := TX5) (N := 25) hx hb hts hin_X5 hown hK hP 0 rfl rfl 12 (by decide) hf38 (fun _ h9 => h9) rfl dX5_measureAtom_88 ?_
      refine lv_iload_n hx hb dX5_measureAtom_91 rfl (lv_at hl 12 rfl) ?_
      refine ra_ld (f := (r 9)) C0 hP 9 rfl n rfl (by omega) (by decide) dX5_measureAtom_92 ?_
      refine lv_iconst (v := (-1)) hx hb dX5_measureAtom_93 (by decide) ?_
      refine lv_icmp_eq (tgt := 101) hx hb dX5_measureAtom_94 (by decide) (fun c_94 => absurd c_94 c_24) (fun c_94 => ?_)
      refine lv_iconst (v := 1) hx hb dX5_measureAtom_97 (by decide) ?_
      refine lv_goto (tgt := 102) hx hb dX5_measureAtom_98 (by decide) ?_
      refine lv_istore (lv' := [(15, .int 1), (14, .int 0), (13, .int 0), (12, .int 0), (11, .int 0), (10, .int 0), (9, .int 0), (8, .int 0), (7, .int x_36), (6, .int x_35), (5, .int x_34), (4, .int (uni lev)), (0, .ref (a 0)), (1, .int (nI n)), (2, .int lev), (3, .int cr)]) hx hb dX5_measureAtom_102 hl (by decide) rfl (fun ls hl => ?_)
      refine lv_iload hx hb dX5_measureAtom_104 (lv_at hl 1 rfl) ?_
      refine lv_if_eq (tgt := 142) hx hb dX5_measureAtom_106 (by decide) (fun c_106 => ?_) (fun c_106 => absurd (by decide) c_106)
      refine lv_iload hx hb dX5_measureAtom_142 (lv_at hl 0 rfl) ?_
      refine lv_if_eq (tgt := 180) hx hb dX5_measureAtom_144 (by decide) (fun c_144 => absurd c_144 (by decide)) (fun c_144 => ?_)
      have hs9 := hq9 c_24
      refine lv_aload_n hx hb dX5_measureAtom_147 rfl (lv_at hl 12 rfl) ?_
      refine lv_aload_n hx hb dX5_measureAtom_148 rfl (lv_at hl 12 rfl) ?_
      refine va_get (D := D) (ci := 5) (v := .ref (a 9)) (C := RX5) (T := TX5) (N := 25) hx hb hts hin_X5 hown hK hP 0 rfl rfl 12 (by decide) hf38 (fun _ h9 => h9) rfl dX5_measureAtom_149 ?_
      refine lv_iload_n hx hb dX5_measureAtom_152 rfl (lv_at hl 13 rfl) ?_
      refine ra_ld (f := (r 9)) C0 hP 9 rfl n rfl (by omega) (by decide) dX5_measureAtom_153 ?_
      refine lv_iload_n hx hb dX5_measureAtom_154 rfl (lv_at hl 14 rfl) ?_
      refine kcS (ans := (scl lev)) C0 hP hS (c_X5_scriptLevel l D cI lev ) (va_cwS 1 hts gX5_measureAtom_X5_scriptLevel rfl rfl rfl (by decide +kernel) ⟨by dsimp only [rmL, rmF, rmN, rmA]; omega, by dsimp only [rmL, rmF, rmN, rmA]; omega⟩) rfl hl.1 rfl (Nat.le_of_ble_eq_true rfl) dX5_measureAtom_155 ⟨Nat.zero_le _, Nat.zero_le _⟩ (fun H locs hP hS => ?_)
      refine lv_iconst (v := 1) hx hb dX5_measureAtom_158 (by decide) ?_
      refine kcVv C0 hP hD hS (hM ((r 9) n) (scl lev) 1 it z_1 ((mNu (ML r N d) r n lev cr).1) ((mNu (ML r N d) r n lev cr).2.1) ((mNu (ML r N d) r n lev cr).2.2) u_1 e_1 (by omega)) (cwV 3 hts gX5_measureAtom_X5_measureList rfl rfl rfl (by decide +kernel) ⟨by dsimp only [rmL, rmF, rmN, rmA]; omega, by dsimp only [rmL, rmF, rmN, rmA]; omega⟩) 0 5 rfl rfl rfl hl.1 rfl (Nat.le_of_ble_eq_true rfl) dX5_measureAtom_159 ⟨Nat.zero_le _, Nat.zero_le _⟩ (fun u H locs hq hP hD hS => ?_)
      obtain ⟨u_37, e_37, z_37⟩ := u
      have hz_37 : ∀ i2, rk ((r 9) n) < rk (r 2 i2) → ∀ k, k < 16 → z_37 (16 * i2 + k) = z_1 (16 * i2 + k) := hq
      have hP : va_P D vwCl (wM cI a (vU (vU (vU (vU (vU v 19 ((ML r N d ((r 9) n) (scl lev) 1).1)) 20 ((ML r N d ((r 9) n) (scl lev) 1).2.1)) 21 ((ML r N d ((r 9) n) (scl lev) 1).2.2)) 22 u_37) 23 e_37) (rU (rU r 11 it) 12 z_37)) H := hP
      have hD : va_D A (wM cI a (vU (vU (vU (vU (vU v 19 ((ML r N d ((r 9) n) (scl lev) 1).1)) 20 ((ML r N d ((r 9) n) (scl lev) 1).2.1)) 21 ((ML r N d ((r 9) n) (scl lev) 1).2.2)) 22 u_37) 23 e_37) (rU (rU r 11 it) 12 z_37)) := hD
      refine lv_aload_n hx hb dX5_measureAtom_162 rfl (lv_at hl 12 rfl) ?_
      refine va_get (D := D) (ci := 5) (v := .int ((ML r N d ((r 9) n) (scl lev) 1).1)) (C := RX5) (T := TX5) (N := 25) hx hb hts hin_X5 hown hK hP 0 rfl rfl 19 (by decide) hf96 (fun _ h9 => h9) rfl dX5_measureAtom_163 ?_
      refine lv_topi (fun x_38 ex_38 => ?_)
      refine lv_istore (lv' := [(11, .int x_38), (15, .int 1), (14, .int 0), (13, .int 0), (12, .int 0), (10, .int 0), (9, .int 0), (8, .int 0), (7, .int x_36), (6, .int x_35), (5, .int x_34), (4, .int (uni lev)), (0, .ref (a 0)), (1, .int (nI n)), (2, .int lev), (3, .int cr)]) hx hb dX5_measureAtom_166 hl (by decide) rfl (fun ls hl => ?_)
      refine lv_aload_n hx hb dX5_measureAtom_168 rfl (lv_at hl 12 rfl) ?_
      refine va_get (D := D) (ci := 5) (v := .int ((ML r N d ((r 9) n) (scl lev) 1).2.1)) (C := RX5) (T := TX5) (N := 25) hx hb hts hin_X5 hown hK hP 0 rfl rfl 20 (by decide) hf99 (fun _ h9 => h9) rfl dX5_measureAtom_169 ?_
      refine lv_topi (fun x_39 ex_39 => ?_)
      refine lv_istore (lv' := [(12, .int x_39), (11, .int x_38), (15, .int 1), (14, .int 0), (13, .int 0), (10, .int 0), (9, .int 0), (8, .int 0), (7, .int x_36), (6, .int x_35), (5, .int x_34), (4, .int (uni lev)), (0, .ref (a 0)), (1, .int (nI n)), (2, .int lev), (3, .int cr)]) hx hb dX5_measureAtom_172 hl (by decide) rfl (fun ls hl => ?_)
      refine lv_aload_n hx hb dX5_measureAtom_174 rfl (lv_at hl 12 rfl) ?_
      refine va_get (D := D) (ci := 5) (v := .int ((ML r N d ((r 9) n) (scl lev) 1).2.2)) (C := RX5) (T := TX5) (N := 25) hx hb hts hin_X5 hown hK hP 0 rfl rfl 21 (by decide) hf102 (fun _ h9 => h9) rfl dX5_measureAtom_175 ?_
      refine lv_topi (fun x_40 ex_40 => ?_)
      refine lv_istore (lv' := [(13, .int x_40), (12, .int x_39), (11, .int x_38), (15, .int 1), (14, .int 0), (10, .int 0), (9, .int 0), (8, .int 0), (7, .int x_36), (6, .int x_35), (5, .int x_34), (4, .int (uni lev)), (0, .ref (a 0)), (1, .int (nI n)), (2, .int lev), (3, .int cr)]) hx hb dX5_measureAtom_178 hl (by decide) rfl (fun ls hl => ?_)
      refine lv_aload_n hx hb dX5_measureAtom_180 rfl (lv_at hl 12 rfl) ?_
      refine va_get (D := D) (ci := 5) (v := .ref (a 4)) (C := RX5) (T := TX5) (N := 25) hx hb hts hin_X5 hown hK hP 0 rfl rfl 7 (by decide) hf23 (fun _ h9 => h9) rfl dX5_measureAtom_181 ?_
      refine lv_iload_n hx hb dX5_measureAtom_184 rfl (lv_at hl 13 rfl) ?_
      refine ra_ld (f := (r 4)) C0 hP 4 rfl n rfl (by omega) (by decide) dX5_measureAtom_185 ?_
      refine lv_iconst (v := 1) hx hb dX5_measureAtom_186 (by decide) ?_
      obtain ⟨x_41, ex_41⟩ : ∃ zz_ : Int32, zz_ = (if ((r 4) n) = 1 then (if lev = 0 then (1 : Int32) else (0 : Int32)) else (0 : Int32)) := ⟨_, rfl⟩
      refine jW (D := D) hD hl 199 (wM cI a (vU (vU (vU (vU (vU v 19 ((ML r N d ((r 9) n) (scl lev) 1).1)) 20 ((ML r N d ((r 9) n) (scl lev) 1).2.1)) 21 ((ML r N d ((r 9) n) (scl lev) 1).2.2)) 22 u_37) 23 e_37) (rU (rU r 11 it) 12 z_37)) [(13, .int x_40), (12, .int x_39), (11, .int x_38), (15, .int 1), (14, .int 0), (10, .int 0), (9, .int 0), (8, .int 0), (7, .int x_36), (6, .int x_35), (5, .int x_34), (4, .int (uni lev)), (0, .ref (a 0)), (1, .int (nI n)), (2, .int lev), (3, .int cr)] [.int x_41] (fun hJ => ?_) (fun H locs ls hP hD hS hl => ?_)
      · skip
        refine lv_icmp_ne (tgt := 198) hx hb dX5_measureAtom_187 (by decide) (fun c_187 => ?_) (fun c_187 => ?_)
        · skip
          refine lv_iconst (v := 0) hx hb dX5_measureAtom_198 (by decide) ?_
          have gx_41 : x_41 = 0 := by rw [ex_41]; simp only [if_neg c_187]
          simp only [gx_41] at hJ
          exact hJ _ _ _ hP hD hS (lv_sub hl [0, 1, 2, 3, 4, 5, 6, 7, 8, 9, 10, 11, 12, 13, 14, 15] rfl)
        · skip
          refine lv_iload_n hx hb dX5_measureAtom_190 rfl (lv_at hl 14 rfl) ?_
          refine lv_if_ne (tgt := 198) hx hb dX5_measureAtom_191 (by decide) (fun c_191 => ?_) (fun c_191 => ?_)
          · skip
            refine lv_iconst (v := 0) hx hb dX5_measureAtom_198 (by decide) ?_
            have gx_41 : x_41 = 0 := by rw [ex_41]; simp only [if_pos c_187, if_neg c_191]
            simp only [gx_41] at hJ
            exact hJ _ _ _ hP hD hS (lv_sub hl [0, 1, 2, 3, 4, 5, 6, 7, 8, 9, 10, 11, 12, 13, 14, 15] rfl)
          · skip
            refine lv_iconst (v := 1) hx hb dX5_measureAtom_194 (by decide) ?_
            refine lv_goto (tgt := 199) hx hb dX5_measureAtom_195 (by decide) ?_
            have gx_41 : x_41 = 1 := by rw [ex_41]; simp only [if_pos c_187, if_pos c_191]
            simp only [gx_41] at hJ
            exact hJ _ _ _ hP hD hS (lv_sub hl [0, 1, 2, 3, 4, 5, 6, 7, 8, 9, 10, 11, 12, 13, 14, 15] rfl)
      · skip
        refine lv_istore (lv' := [(16, .int x_41), (13, .int x_40), (12, .int x_39), (11, .int x_38), (15, .int 1), (14, .int 0), (10, .int 0), (9, .int 0), (8, .int 0), (7, .int x_36), (6, .int x_35), (5, .int x_34), (4, .int (uni lev)), (0, .ref (a 0)), (1, .int (nI n)), (2, .int lev), (3, .int cr)]) hx hb dX5_measureAtom_199 hl (by decide) rfl (fun ls hl => ?_)
        refine lv_iload hx hb dX5_measureAtom_201 (lv_at hl 0 rfl) ?_
        obtain ⟨x_42, ex_42⟩ : ∃ zz_ : Int32, zz_ = (if x_41 = 0 then (mx (x_35 - (2 * (uni lev))) (mx ((if cr = 0 then (4 : Int32) else (3 : Int32)) * (uni lev)) (0 + (uni lev)))) else ((x_35 + (uni lev)) + 0)) := ⟨_, rfl⟩
        refine jW (D := D) hD hl 247 (wM cI a (vU (vU (vU (vU (vU v 19 ((ML r N d ((r 9) n) (scl lev) 1).1)) 20 ((ML r N d ((r 9) n) (scl lev) 1).2.1)) 21 ((ML r N d ((r 9) n) (scl lev) 1).2.2)) 22 u_37) 23 e_37) (rU (rU r 11 it) 12 z_37)) [(16, .int x_41), (13, .int x_40), (12, .int x_39), (11, .int x_38), (15, .int 1), (14, .int 0), (10, .int 0), (9, .int 0), (8, .int 0), (7, .int x_36), (6, .int x_35), (5, .int x_34), (4, .int (uni lev)), (0, .ref (a 0)), (1, .int (nI n)), (2, .int lev), (3, .int cr)] [.int x_42] (fun hJ => ?_) (fun H locs ls hP hD hS hl => ?_)
        · skip
          refine lv_if_eq (tgt := 217) hx hb dX5_measureAtom_203 (by decide) (fun c_203 => ?_) (fun c_203 => ?_)
          · skip
            refine lv_iload hx hb dX5_measureAtom_217 (lv_at hl 10 rfl) ?_
            refine lv_iconst (v := 2) hx hb dX5_measureAtom_219 (by decide) ?_
            refine lv_iload hx hb dX5_measureAtom_220 (lv_at hl 12 rfl) ?_
            refine lv_imul hx hb dX5_measureAtom_222 ?_
            refine lv_isub hx hb dX5_measureAtom_223 ?_
            refine lv_iload_n hx hb dX5_measureAtom_224 rfl (lv_at hl 16 rfl) ?_
            obtain ⟨x_43, ex_43⟩ : ∃ zz_ : Int32, zz_ = (if cr = 0 then (4 : Int32) else (3 : Int32)) := ⟨_, rfl⟩
            refine jW (D := D) hD hl 233 (wM cI a (vU (vU (vU (vU (vU v 19 ((ML r N d ((r 9) n) (scl lev) 1).1)) 20 ((ML r N d ((r 9) n) (scl lev) 1).2.1)) 21 ((ML r N d ((r 9) n) (scl lev) 1).2.2)) 22 u_37) 23 e_37) (rU (rU r 11 it) 12 z_37)) [(16, .int x_41), (13, .int x_40), (12, .int x_39), (11, .int x_38), (15, .int 1), (14, .int 0), (10, .int 0), (9, .int 0), (8, .int 0), (7, .int x_36), (6, .int x_35), (5, .int x_34), (4, .int (uni lev)), (0, .ref (a 0)), (1, .int (nI n)), (2, .int lev), (3, .int cr)] [.int x_43, .int (x_35 - (2 * (uni lev)))] (fun hJ => ?_) (fun H locs ls hP hD hS hl => ?_)
            · skip
              refine lv_if_eq (tgt := 232) hx hb dX5_measureAtom_225 (by decide) (fun c_225 => ?_) (fun c_225 => ?_)
              · skip
                refine lv_iconst (v := 4) hx hb dX5_measureAtom_232 (by decide) ?_
                have gx_43 : x_43 = 4 := by rw [ex_43]; simp only [if_pos c_225]
                simp only [gx_43] at hJ
                exact hJ _ _ _ hP hD hS (lv_sub hl [0, 1, 2, 3, 4, 5, 6, 7, 8, 9, 10, 11, 12, 13, 14, 15, 16] rfl)
              · skip
                refine lv_iconst (v := 3) hx hb dX5_measureAtom_228 (by decide) ?_
                refine lv_goto (tgt := 233) hx hb dX5_measureAtom_229 (by decide) ?_
                have gx_43 : x_43 = 3 := by rw [ex_43]; simp only [if_neg c_225]
                simp only [gx_43] at hJ
                exact hJ _ _ _ hP hD hS (lv_sub hl [0, 1, 2, 3, 4, 5, 6, 7, 8, 9, 10, 11, 12, 13, 14, 15, 16] rfl)
            · skip
              refine lv_iload hx hb dX5_measureAtom_233 (lv_at hl 12 rfl) ?_
              refine lv_imul hx hb dX5_measureAtom_235 ?_
              refine lv_iload hx hb dX5_measureAtom_236 (lv_at hl 6 rfl) ?_
              refine lv_iload hx hb dX5_measureAtom_238 (lv_at hl 12 rfl) ?_
              refine lv_iadd hx hb dX5_measureAtom_240 ?_
              refine kcS (ans := (mx (x_43 * (uni lev)) (0 + (uni lev)))) C0 hP hS (c_X5_greater l D cI (x_43 * (uni lev)) (0 + (uni lev)) ) (va_cwS 2 hts gX5_measureAtom_X5_greater rfl rfl rfl (by decide +kernel) ⟨by dsimp only [rmL, rmF, rmN, rmA]; omega, by dsimp only [rmL, rmF, rmN, rmA]; omega⟩) rfl hl.1 rfl (Nat.le_of_ble_eq_true rfl) dX5_measureAtom_241 ⟨Nat.zero_le _, Nat.zero_le _⟩ (fun H locs hP hS => ?_)
              refine kcS (ans := (mx (x_35 - (2 * (uni lev))) (mx (x_43 * (uni lev)) (0 + (uni lev))))) C0 hP hS (c_X5_greater l D cI (x_35 - (2 * (uni lev))) (mx (x_43 * (uni lev)) (0 + (uni lev))) ) (va_cwS 2 hts gX5_measureAtom_X5_greater rfl rfl rfl (by decide +kernel) ⟨by dsimp only [rmL, rmF, rmN, rmA]; omega, by dsimp only [rmL, rmF, rmN, rmA]; omega⟩) rfl hl.1 rfl (Nat.le_of_ble_eq_true rfl) dX5_measureAtom_244 ⟨Nat.zero_le _, Nat.zero_le _⟩ (fun H locs hP hS => ?_)
              have gx_42 : x_42 = (mx (x_35 - (2 * (uni lev))) (mx (x_43 * (uni lev)) (0 + (uni lev)))) := by rw [ex_42]; (try simp only [ex_43] at c_203 ⊢) <;> simp only [if_pos c_203]
              simp only [gx_42] at hJ
              exact hJ _ _ _ hP hD hS (lv_sub hl [0, 1, 2, 3, 4, 5, 6, 7, 8, 9, 10, 11, 12, 13, 14, 15, 16] rfl)
          · skip
            refine lv_iload hx hb dX5_measureAtom_206 (lv_at hl 10 rfl) ?_
            refine lv_iload hx hb dX5_measureAtom_208 (lv_at hl 12 rfl) ?_
            refine lv_iadd hx hb dX5_measureAtom_210 ?_
            refine lv_iload hx hb dX5_measureAtom_211 (lv_at hl 6 rfl) ?_
            refine lv_iadd hx hb dX5_measureAtom_213 ?_
            refine lv_goto (tgt := 247) hx hb dX5_measureAtom_214 (by decide) ?_
            have gx_42 : x_42 = ((x_35 + (uni lev)) + 0) := by rw [ex_42]; simp only [if_neg c_203]
            simp only [gx_42] at hJ
            exact hJ _ _ _ hP hD hS (lv_sub hl [0, 1, 2, 3, 4, 5, 6, 7, 8, 9, 10, 11, 12, 13, 14, 15, 16] rfl)
        · skip
          refine lv_istore (lv' := [(17, .int x_42), (16, .int x_41), (13, .int x_40), (12, .int x_39), (11, .int x_38), (15, .int 1), (14, .int 0), (10, .int 0), (9, .int 0), (8, .int 0), (7, .int x_36), (6, .int x_35), (5, .int x_34), (4, .int (uni lev)), (0, .ref (a 0)), (1, .int (nI n)), (2, .int lev), (3, .int cr)]) hx hb dX5_measureAtom_247 hl (by decide) rfl (fun ls hl => ?_)
          refine lv_iload hx hb dX5_measureAtom_249 (lv_at hl 1 rfl) ?_
          obtain ⟨x_44, ex_44⟩ : ∃ zz_ : Int32, zz_ = (if x_41 = 0 then (mx (x_36 + (uni lev)) (mx (2 * (uni lev)) (x_39 - (4 * (uni lev))))) else ((x_36 + (uni lev)) + x_39)) := ⟨_, rfl⟩
          refine jW (D := D) hD hl 287 (wM cI a (vU (vU (vU (vU (vU v 19 ((ML r N d ((r 9) n) (scl lev) 1).1)) 20 ((ML r N d ((r 9) n) (scl lev) 1).2.1)) 21 ((ML r N d ((r 9) n) (scl lev) 1).2.2)) 22 u_37) 23 e_37) (rU (rU r 11 it) 12 z_37)) [(17, .int x_42), (16, .int x_41), (13, .int x_40), (12, .int x_39), (11, .int x_38), (15, .int 1), (14, .int 0), (10, .int 0), (9, .int 0), (8, .int 0), (7, .int x_36), (6, .int x_35), (5, .int x_34), (4, .int (uni lev)), (0, .ref (a 0)), (1, .int (nI n)), (2, .int lev), (3, .int cr)] [.int x_44] (fun hJ => ?_) (fun H locs ls hP hD hS hl => ?_)
          · skip
            refine lv_if_eq (tgt := 265) hx hb dX5_measureAtom_251 (by decide) (fun c_251 => ?_) (fun c_251 => ?_)
            · skip
              refine lv_iload hx hb dX5_measureAtom_265 (lv_at hl 10 rfl) ?_
              refine lv_iload hx hb dX5_measureAtom_267 (lv_at hl 13 rfl) ?_
              refine lv_iadd hx hb dX5_measureAtom_269 ?_
              refine lv_iconst (v := 2) hx hb dX5_measureAtom_270 (by decide) ?_
              refine lv_iload hx hb dX5_measureAtom_271 (lv_at hl 13 rfl) ?_
              refine lv_imul hx hb dX5_measureAtom_273 ?_
              refine lv_iload hx hb dX5_measureAtom_274 (lv_at hl 3 rfl) ?_
              refine lv_iconst (v := 4) hx hb dX5_measureAtom_276 (by decide) ?_
              refine lv_iload hx hb dX5_measureAtom_277 (lv_at hl 13 rfl) ?_
              refine lv_imul hx hb dX5_measureAtom_279 ?_
              refine lv_isub hx hb dX5_measureAtom_280 ?_
              refine kcS (ans := (mx (2 * (uni lev)) (x_39 - (4 * (uni lev))))) C0 hP hS (c_X5_greater l D cI (2 * (uni lev)) (x_39 - (4 * (uni lev))) ) (va_cwS 2 hts gX5_measureAtom_X5_greater rfl rfl rfl (by decide +kernel) ⟨by dsimp only [rmL, rmF, rmN, rmA]; omega, by dsimp only [rmL, rmF, rmN, rmA]; omega⟩) rfl hl.1 rfl (Nat.le_of_ble_eq_true rfl) dX5_measureAtom_281 ⟨Nat.zero_le _, Nat.zero_le _⟩ (fun H locs hP hS => ?_)
              refine kcS (ans := (mx (x_36 + (uni lev)) (mx (2 * (uni lev)) (x_39 - (4 * (uni lev)))))) C0 hP hS (c_X5_greater l D cI (x_36 + (uni lev)) (mx (2 * (uni lev)) (x_39 - (4 * (uni lev)))) ) (va_cwS 2 hts gX5_measureAtom_X5_greater rfl rfl rfl (by decide +kernel) ⟨by dsimp only [rmL, rmF, rmN, rmA]; omega, by dsimp only [rmL, rmF, rmN, rmA]; omega⟩) rfl hl.1 rfl (Nat.le_of_ble_eq_true rfl) dX5_measureAtom_284 ⟨Nat.zero_le _, Nat.zero_le _⟩ (fun H locs hP hS => ?_)
              have gx_44 : x_44 = (mx (x_36 + (uni lev)) (mx (2 * (uni lev)) (x_39 - (4 * (uni lev))))) := by rw [ex_44]; simp only [if_pos c_251]
              simp only [gx_44] at hJ
              exact hJ _ _ _ hP hD hS (lv_sub hl [0, 1, 2, 3, 4, 5, 6, 7, 8, 9, 10, 11, 12, 13, 14, 15, 16, 17] rfl)
            · skip
              refine lv_iload hx hb dX5_measureAtom_254 (lv_at hl 10 rfl) ?_
              refine lv_iload hx hb dX5_measureAtom_256 (lv_at hl 13 rfl) ?_
              refine lv_iadd hx hb dX5_measureAtom_258 ?_
              refine lv_iload hx hb dX5_measureAtom_259 (lv_at hl 3 rfl) ?_
              refine lv_iadd hx hb dX5_measureAtom_261 ?_
              refine lv_goto (tgt := 287) hx hb dX5_measureAtom_262 (by decide) ?_
              have gx_44 : x_44 = ((x_36 + (uni lev)) + x_39) := by rw [ex_44]; simp only [if_neg c_251]
              simp only [gx_44] at hJ
              exact hJ _ _ _ hP hD hS (lv_sub hl [0, 1, 2, 3, 4, 5, 6, 7, 8, 9, 10, 11, 12, 13, 14, 15, 16, 17] rfl)
          · skip
            refine lv_istore (lv' := [(18, .int x_44), (17, .int x_42), (16, .int x_41), (13, .int x_40), (12, .int x_39), (11, .int x_38), (15, .int 1), (14, .int 0), (10, .int 0), (9, .int 0), (8, .int 0), (7, .int x_36), (6, .int x_35), (5, .int x_34), (4, .int (uni lev)), (0, .ref (a 0)), (1, .int (nI n)), (2, .int lev), (3, .int cr)]) hx hb dX5_measureAtom_287 hl (by decide) rfl (fun ls hl => ?_)
            refine lv_iload hx hb dX5_measureAtom_289 (lv_at hl 2 rfl) ?_
            refine jW (D := D) hD hl 339 (wM cI a (vU (vU (vU (vU (vU v 19 ((ML r N d ((r 9) n) (scl lev) 1).1)) 20 ((ML r N d ((r 9) n) (scl lev) 1).2.1)) 21 ((ML r N d ((r 9) n) (scl lev) 1).2.2)) 22 u_37) 23 e_37) (rU (rU r 11 it) 12 z_37)) [(18, .int x_44), (17, .int x_42), (16, .int x_41), (13, .int x_40), (12, .int x_39), (11, .int x_38), (15, .int 1), (14, .int 0), (10, .int 0), (9, .int 0), (8, .int 0), (7, .int x_36), (6, .int x_35), (5, .int x_34), (4, .int (uni lev)), (0, .ref (a 0)), (1, .int (nI n)), (2, .int lev), (3, .int cr)] [] (fun hJ => ?_) (fun H locs ls hP hD hS hl => ?_)
            · skip
              refine lv_if_ne (tgt := 339) hx hb dX5_measureAtom_291 (by decide) (fun c_291 => ?_) (fun c_291 => ?_)
              · skip
                exact hJ _ _ _ hP hD hS (lv_sub hl [0, 1, 2, 3, 4, 5, 6, 7, 8, 9, 10, 11, 12, 13, 14, 15, 16, 17, 18] rfl)
              · skip
                refine lv_iload hx hb dX5_measureAtom_294 (lv_at hl 7 rfl) ?_
                refine lv_if_eq (tgt := 339) hx hb dX5_measureAtom_296 (by decide) (fun c_296 => ?_) (fun c_296 => absurd (by decide) c_296)
                exact hJ _ _ _ hP hD hS (lv_sub hl [0, 1, 2, 3, 4, 5, 6, 7, 8, 9, 10, 11, 12, 13, 14, 15, 16, 17, 18] rfl)
            · skip
              refine lv_iload hx hb dX5_measureAtom_339 (lv_at hl 10 rfl) ?_
              refine lv_iload hx hb dX5_measureAtom_341 (lv_at hl 5 rfl) ?_
              refine kcS (ans := (mx 0 x_38)) C0 hP hS (c_X5_greater l D cI 0 x_38 ) (va_cwS 2 hts gX5_measureAtom_X5_greater rfl rfl rfl (by decide +kernel) ⟨by dsimp only [rmL, rmF, rmN, rmA]; omega, by dsimp only [rmL, rmF, rmN, rmA]; omega⟩) rfl hl.1 rfl (Nat.le_of_ble_eq_true rfl) dX5_measureAtom_343 ⟨Nat.zero_le _, Nat.zero_le _⟩ (fun H locs hP hS => ?_)
              refine lv_istore (lv' := [(19, .int (mx 0 x_38)), (18, .int x_44), (17, .int x_42), (16, .int x_41), (13, .int x_40), (12, .int x_39), (11, .int x_38), (15, .int 1), (14, .int 0), (10, .int 0), (9, .int 0), (8, .int 0), (7, .int x_36), (6, .int x_35), (5, .int x_34), (4, .int (uni lev)), (0, .ref (a 0)), (1, .int (nI n)), (2, .int lev), (3, .int cr)]) hx hb dX5_measureAtom_346 hl (by decide) rfl (fun ls hl => ?_)
              refine lv_iload hx hb dX5_measureAtom_348 (lv_at hl 3 rfl) ?_
              obtain ⟨x_45, ex_45⟩ : ∃ zz_ : Int32, zz_ = (if x_41 = 0 then ((x_34 + (mx 0 x_38)) + ((uni lev) / 2)) else (mx x_34 (mx 0 x_38))) := ⟨_, rfl⟩
              refine jW (D := D) hD hl 374 (wM cI a (vU (vU (vU (vU (vU v 19 ((ML r N d ((r 9) n) (scl lev) 1).1)) 20 ((ML r N d ((r 9) n) (scl lev) 1).2.1)) 21 ((ML r N d ((r 9) n) (scl lev) 1).2.2)) 22 u_37) 23 e_37) (rU (rU r 11 it) 12 z_37)) [(19, .int (mx 0 x_38)), (18, .int x_44), (17, .int x_42), (16, .int x_41), (13, .int x_40), (12, .int x_39), (11, .int x_38), (15, .int 1), (14, .int 0), (10, .int 0), (9, .int 0), (8, .int 0), (7, .int x_36), (6, .int x_35), (5, .int x_34), (4, .int (uni lev)), (0, .ref (a 0)), (1, .int (nI n)), (2, .int lev), (3, .int cr)] [.int x_45] (fun hJ => ?_) (fun H locs ls hP hD hS hl => ?_)
              · skip
                refine lv_if_eq (tgt := 363) hx hb dX5_measureAtom_350 (by decide) (fun c_350 => ?_) (fun c_350 => ?_)
                · skip
                  refine lv_iload hx hb dX5_measureAtom_363 (lv_at hl 14 rfl) ?_
                  refine lv_iload hx hb dX5_measureAtom_365 (lv_at hl 0 rfl) ?_
                  refine lv_iadd hx hb dX5_measureAtom_367 ?_
                  refine lv_iload hx hb dX5_measureAtom_368 (lv_at hl 15 rfl) ?_
                  refine kcS (ans := ((uni lev) / 2)) C0 hP hS (c_X5_half l D cI (uni lev) ) (va_cwS 1 hts gX5_measureAtom_X5_half rfl rfl rfl (by decide +kernel) ⟨by dsimp only [rmL, rmF, rmN, rmA]; omega, by dsimp only [rmL, rmF, rmN, rmA]; omega⟩) rfl hl.1 rfl (Nat.le_of_ble_eq_true rfl) dX5_measureAtom_370 ⟨Nat.zero_le _, Nat.zero_le _⟩ (fun H locs hP hS => ?_)
                  refine lv_iadd hx hb dX5_measureAtom_373 ?_
                  have gx_45 : x_45 = ((x_34 + (mx 0 x_38)) + ((uni lev) / 2)) := by rw [ex_45]; simp only [if_pos c_350]
                  simp only [gx_45] at hJ
                  exact hJ _ _ _ hP hD hS (lv_sub hl [0, 1, 2, 3, 4, 5, 6, 7, 8, 9, 10, 11, 12, 13, 14, 15, 16, 17, 18, 19] rfl)
                · skip
                  refine lv_iload hx hb dX5_measureAtom_353 (lv_at hl 14 rfl) ?_
                  refine lv_iload hx hb dX5_measureAtom_355 (lv_at hl 0 rfl) ?_
                  refine kcS (ans := (mx x_34 (mx 0 x_38))) C0 hP hS (c_X5_greater l D cI x_34 (mx 0 x_38) ) (va_cwS 2 hts gX5_measureAtom_X5_greater rfl rfl rfl (by decide +kernel) ⟨by dsimp only [rmL, rmF, rmN, rmA]; omega, by dsimp only [rmL, rmF, rmN, rmA]; omega⟩) rfl hl.1 rfl (Nat.le_of_ble_eq_true rfl) dX5_measureAtom_357 ⟨Nat.zero_le _, Nat.zero_le _⟩ (fun H locs hP hS => ?_)
                  refine lv_goto (tgt := 374) hx hb dX5_measureAtom_360 (by decide) ?_
                  have gx_45 : x_45 = (mx x_34 (mx 0 x_38)) := by rw [ex_45]; simp only [if_neg c_350]
                  simp only [gx_45] at hJ
                  exact hJ _ _ _ hP hD hS (lv_sub hl [0, 1, 2, 3, 4, 5, 6, 7, 8, 9, 10, 11, 12, 13, 14, 15, 16, 17, 18, 19] rfl)
              · skip
                refine lv_istore (lv' := [(20, .int x_45), (19, .int (mx 0 x_38)), (18, .int x_44), (17, .int x_42), (16, .int x_41), (13, .int x_40), (12, .int x_39), (11, .int x_38), (15, .int 1), (14, .int 0), (10, .int 0), (9, .int 0), (8, .int 0), (7, .int x_36), (6, .int x_35), (5, .int x_34), (4, .int (uni lev)), (0, .ref (a 0)), (1, .int (nI n)), (2, .int lev), (3, .int cr)]) hx hb dX5_measureAtom_374 hl (by decide) rfl (fun ls hl => ?_)
                refine lv_iload hx hb dX5_measureAtom_376 (lv_at hl 14 rfl) ?_
                refine lv_iconst (v := 0) hx hb dX5_measureAtom_378 (by decide) ?_
                refine kcS (ans := (mx x_35 0)) C0 hP hS (c_X5_greater l D cI x_35 0 ) (va_cwS 2 hts gX5_measureAtom_X5_greater rfl rfl rfl (by decide +kernel) ⟨by dsimp only [rmL, rmF, rmN, rmA]; omega, by dsimp only [rmL, rmF, rmN, rmA]; omega⟩) rfl hl.1 rfl (Nat.le_of_ble_eq_true rfl) dX5_measureAtom_379 ⟨Nat.zero_le _, Nat.zero_le _⟩ (fun H locs hP hS => ?_)
                refine lv_istore (lv' := [(6, .int (mx x_35 0)), (20, .int x_45), (19, .int (mx 0 x_38)), (18, .int x_44), (17, .int x_42), (16, .int x_41), (13, .int x_40), (12, .int x_39), (11, .int x_38), (15, .int 1), (14, .int 0), (10, .int 0), (9, .int 0), (8, .int 0), (7, .int x_36), (5, .int x_34), (4, .int (uni lev)), (0, .ref (a 0)), (1, .int (nI n)), (2, .int lev), (3, .int cr)]) hx hb dX5_measureAtom_382 hl (by decide) rfl (fun ls hl => ?_)
                refine lv_iload hx hb dX5_measureAtom_384 (lv_at hl 14 rfl) ?_
                refine lv_iconst (v := 0) hx hb dX5_measureAtom_386 (by decide) ?_
                refine kcS (ans := (mx x_36 0)) C0 hP hS (c_X5_greater l D cI x_36 0 ) (va_cwS 2 hts gX5_measureAtom_X5_greater rfl rfl rfl (by decide +kernel) ⟨by dsimp only [rmL, rmF, rmN, rmA]; omega, by dsimp only [rmL, rmF, rmN, rmA]; omega⟩) rfl hl.1 rfl (Nat.le_of_ble_eq_true rfl) dX5_measureAtom_387 ⟨Nat.zero_le _, Nat.zero_le _⟩ (fun H locs hP hS => ?_)
                refine lv_istore (lv' := [(7, .int (mx x_36 0)), (6, .int (mx x_35 0)), (20, .int x_45), (19, .int (mx 0 x_38)), (18, .int x_44), (17, .int x_42), (16, .int x_41), (13, .int x_40), (12, .int x_39), (11, .int x_38), (15, .int 1), (14, .int 0), (10, .int 0), (9, .int 0), (8, .int 0), (5, .int x_34), (4, .int (uni lev)), (0, .ref (a 0)), (1, .int (nI n)), (2, .int lev), (3, .int cr)]) hx hb dX5_measureAtom_390 hl (by decide) rfl (fun ls hl => ?_)
                refine lv_iload hx hb dX5_measureAtom_392 (lv_at hl 11 rfl) ?_
                refine lv_if_eq (tgt := 421) hx hb dX5_measureAtom_394 (by decide) (fun c_394 => ?_) (fun c_394 => absurd (by decide) c_394)
                refine lv_iload hx hb dX5_measureAtom_421 (lv_at hl 10 rfl) ?_
                refine lv_if_eq (tgt := 450) hx hb dX5_measureAtom_423 (by decide) (fun c_423 => absurd c_423 (by decide)) (fun c_423 => ?_)
                refine lv_iload hx hb dX5_measureAtom_426 (lv_at hl 1 rfl) ?_
                refine lv_iload hx hb dX5_measureAtom_428 (lv_at hl 8 rfl) ?_
                refine lv_iload hx hb dX5_measureAtom_430 (lv_at hl 4 rfl) ?_
                refine lv_isub hx hb dX5_measureAtom_432 ?_
                refine kcS (ans := (mx (mx x_35 0) (x_39 - x_44))) C0 hP hS (c_X5_greater l D cI (mx x_35 0) (x_39 - x_44) ) (va_cwS 2 hts gX5_measureAtom_X5_greater rfl rfl rfl (by decide +kernel) ⟨by dsimp only [rmL, rmF, rmN, rmA]; omega, by dsimp only [rmL, rmF, rmN, rmA]; omega⟩) rfl hl.1 rfl (Nat.le_of_ble_eq_true rfl) dX5_measureAtom_433 ⟨Nat.zero_le _, Nat.zero_le _⟩ (fun H locs hP hS => ?_)
                refine lv_topi (fun x_46 ex_46 => ?_)
                refine lv_istore (lv' := [(6, .int x_46), (7, .int (mx x_36 0)), (20, .int x_45), (19, .int (mx 0 x_38)), (18, .int x_44), (17, .int x_42), (16, .int x_41), (13, .int x_40), (12, .int x_39), (11, .int x_38), (15, .int 1), (14, .int 0), (10, .int 0), (9, .int 0), (8, .int 0), (5, .int x_34), (4, .int (uni lev)), (0, .ref (a 0)), (1, .int (nI n)), (2, .int lev), (3, .int cr)]) hx hb dX5_measureAtom_436 hl (by decide) rfl (fun ls hl => ?_)
                refine lv_iload hx hb dX5_measureAtom_438 (lv_at hl 1 rfl) ?_
                refine lv_iload hx hb dX5_measureAtom_440 (lv_at hl 7 rfl) ?_
                refine lv_iload hx hb dX5_measureAtom_442 (lv_at hl 4 rfl) ?_
                refine lv_iadd hx hb dX5_measureAtom_444 ?_
                refine kcS (ans := (mx (mx x_36 0) (x_40 + x_44))) C0 hP hS (c_X5_greater l D cI (mx x_36 0) (x_40 + x_44) ) (va_cwS 2 hts gX5_measureAtom_X5_greater rfl rfl rfl (by decide +kernel) ⟨by dsimp only [rmL, rmF, rmN, rmA]; omega, by dsimp only [rmL, rmF, rmN, rmA]; omega⟩) rfl hl.1 rfl (Nat.le_of_ble_eq_true rfl) dX5_measureAtom_445 ⟨Nat.zero_le _, Nat.zero_le _⟩ (fun H locs hP hS => ?_)
                refine lv_topi (fun x_47 ex_47 => ?_)
                refine lv_istore (lv' := [(7, .int x_47), (6, .int x_46), (20, .int x_45), (19, .int (mx 0 x_38)), (18, .int x_44), (17, .int x_42), (16, .int x_41), (13, .int x_40), (12, .int x_39), (11, .int x_38), (15, .int 1), (14, .int 0), (10, .int 0), (9, .int 0), (8, .int 0), (5, .int x_34), (4, .int (uni lev)), (0, .ref (a 0)), (1, .int (nI n)), (2, .int lev), (3, .int cr)]) hx hb dX5_measureAtom_448 hl (by decide) rfl (fun ls hl => ?_)
                refine lv_aload_n hx hb dX5_measureAtom_450 rfl (lv_at hl 17 rfl) ?_
                refine lv_iload hx hb dX5_measureAtom_451 (lv_at hl 2 rfl) ?_
                refine lv_iload hx hb dX5_measureAtom_453 (lv_at hl 1 rfl) ?_
                refine lv_iload hx hb dX5_measureAtom_455 (lv_at hl 0 rfl) ?_
                refine kcDv C0 hP hD hS (c_X5_set l D cI a (vU (vU (vU (vU (vU v 19 ((ML r N d ((r 9) n) (scl lev) 1).1)) 20 ((ML r N d ((r 9) n) (scl lev) 1).2.1)) 21 ((ML r N d ((r 9) n) (scl lev) 1).2.2)) 22 u_37) 23 e_37) (rU (rU r 11 it) 12 z_37) x_45 x_46 x_47) (cwV 3 hts gX5_measureAtom_X5_set rfl rfl rfl (by decide +kernel) ⟨by dsimp only [rmL, rmF, rmN, rmA]; omega, by dsimp only [rmL, rmF, rmN, rmA]; omega⟩) 0 5 rfl rfl rfl hl.1 rfl (Nat.le_of_ble_eq_true rfl) dX5_measureAtom_457 ⟨Nat.zero_le _, Nat.zero_le _⟩ (fun H locs hP hD hS => ?_)
                have hP : va_P D vwCl (wM cI a (vU (vU (vU (vU (vU v 19 x_45) 20 x_46) 21 x_47) 22 u_37) 23 e_37) (rU (rU r 11 it) 12 z_37)) H := hP
                have hD : va_D A (wM cI a (vU (vU (vU (vU (vU v 19 x_45) 20 x_46) 21 x_47) 22 u_37) 23 e_37) (rU (rU r 11 it) 12 z_37)) := hD
                refine lv_aload_n hx hb dX5_measureAtom_460 rfl (lv_at hl 17 rfl) ?_
                refine lv_iload hx hb dX5_measureAtom_461 (lv_at hl 5 rfl) ?_
                refine va_put (D := D) (ci := 5) (v := .int x_42) (ty := .int) (C := RX5) (T := TX5) (N := 25) hx hb hts hin_X5 tyX5 tyX5_ok nmX5 hown hK hP hD hS 0 rfl rfl 22 (by decide) hf125 (fun _ h9 => h9) rfl (by decide +kernel) rfl rfl (Nat.le_of_ble_eq_true rfl) dX5_measureAtom_463 (fun H locs hP hD hS => ?_)
                have hP : va_P D vwCl (wM cI a (vU (vU (vU (vU (vU v 19 x_45) 20 x_46) 21 x_47) 22 x_42) 23 e_37) (rU (rU r 11 it) 12 z_37)) H := hP
                have hD : va_D A (wM cI a (vU (vU (vU (vU (vU v 19 x_45) 20 x_46) 21 x_47) 22 x_42) 23 e_37) (rU (rU r 11 it) 12 z_37)) := hD
                refine lv_aload_n hx hb dX5_measureAtom_466 rfl (lv_at hl 17 rfl) ?_
                refine lv_iload hx hb dX5_measureAtom_467 (lv_at hl 4 rfl) ?_
                refine va_put (D := D) (ci := 5) (v := .int x_44) (ty := .int) (C := RX5) (T := TX5) (N := 25) hx hb hts hin_X5 tyX5 tyX5_ok nmX5 hown hK hP hD hS 0 rfl rfl 23 (by decide) hf128 (fun _ h9 => h9) rfl (by decide +kernel) rfl rfl (Nat.le_of_ble_eq_true rfl) dX5_measureAtom_469 (fun H locs hP hD hS => ?_)
                have hP : va_P D vwCl (wM cI a (vU (vU (vU (vU (vU v 19 x_45) 20 x_46) 21 x_47) 22 x_42) 23 x_44) (rU (rU r 11 it) 12 z_37)) H := hP
                have hD : va_D A (wM cI a (vU (vU (vU (vU (vU v 19 x_45) 20 x_46) 21 x_47) 22 x_42) 23 x_44) (rU (rU r 11 it) 12 z_37)) := hD
                have q19 : x_45 = (mAt (ML r N d) r n lev cr).1 := (pf_X5_measureAtom_10 a v r n N d rk lev cr it sz w0 h0 d0 u0 e0 hN hN1 hn hd hR hat u_1 e_1 z_1 c_14 c_24 x_34 ex_34 x_35 ex_35 x_36 ex_36 c_77 c_94 u_37 e_37 z_37 x_38 ex_38 x_39 ex_39 x_40 ex_40 x_41 ex_41 x_42 ex_42 x_44 ex_44 x_45 ex_45 x_46 ex_46 x_47 ex_47)
                have q20 : x_46 = (mAt (ML r N d) r n lev cr).2.1 := (pf_X5_measureAtom_11 a v r n N d rk lev cr it sz w0 h0 d0 u0 e0 hN hN1 hn hd hR hat u_1 e_1 z_1 c_14 c_24 x_34 ex_34 x_35 ex_35 x_36 ex_36 c_77 c_94 u_37 e_37 z_37 x_38 ex_38 x_39 ex_39 x_40 ex_40 x_41 ex_41 x_42 ex_42 x_44 ex_44 x_45 ex_45 x_46 ex_46 x_47 ex_47)
                have q21 : x_47 = (mAt (ML r N d) r n lev cr).2.2 := (pf_X5_measureAtom_12 a v r n N d rk lev cr it sz w0 h0 d0 u0 e0 hN hN1 hn hd hR hat u_1 e_1 z_1 c_14 c_24 x_34 ex_34 x_35 ex_35 x_36 ex_36 c_77 c_94 u_37 e_37 z_37 x_38 ex_38 x_39 ex_39 x_40 ex_40 x_41 ex_41 x_42 ex_42 x_44 ex_44 x_45 ex_45 x_46 ex_46 x_47 ex_47)
                have q22 : x_42 = (atU (ML r N d) r n lev cr) := (pf_X5_measureAtom_13 a v r n N d rk lev cr it sz w0 h0 d0 u0 e0 hN hN1 hn hd hR hat u_1 e_1 z_1 c_14 c_24 x_34 ex_34 x_35 ex_35 x_36 ex_36 c_77 c_94 u_37 e_37 z_37 x_38 ex_38 x_39 ex_39 x_40 ex_40 x_41 ex_41 x_42 ex_42 x_44 ex_44 x_45 ex_45 x_46 ex_46 x_47 ex_47)
                have q23 : x_44 = (atD (ML r N d) r n lev cr) := (pf_X5_measureAtom_14 a v r n N d rk lev cr it sz w0 h0 d0 u0 e0 hN hN1 hn hd hR hat u_1 e_1 z_1 c_14 c_24 x_34 ex_34 x_35 ex_35 x_36 ex_36 c_77 c_94 u_37 e_37 z_37 x_38 ex_38 x_39 ex_39 x_40 ex_40 x_41 ex_41 x_42 ex_42 x_44 ex_44 x_45 ex_45 x_46 ex_46 x_47 ex_47)
                have hw : (wM cI a (vU (vU (vU (vU (vU v 19 x_45) 20 x_46) 21 x_47) 22 x_42) 23 x_44) (rU (rU r 11 it) 12 z_37)) = (wM cI a (vU (vU (vU (vU (vU v 19 ((mAt (ML r N d) r n lev cr).1)) 20 ((mAt (ML r N d) r n lev cr).2.1)) 21 ((mAt (ML r N d) r n lev cr).2.2)) 22 (atU (ML r N d) r n lev cr)) 23 (atD (ML r N d) r n lev cr)) (rU (rU r 11 it) 12 z_37)) := by rw [q19, q20, q21, q22, q23]
                have hP : va_P D vwCl (wM cI a (vU (vU (vU (vU (vU v 19 ((mAt (ML r N d) r n lev cr).1)) 20 ((mAt (ML r N d) r n lev cr).2.1)) 21 ((mAt (ML r N d) r n lev cr).2.2)) 22 (atU (ML r N d) r n lev cr)) 23 (atD (ML r N d) r n lev cr)) (rU (rU r 11 it) 12 z_37)) H := hw ▸ hP
                have hD : va_D A (wM cI a (vU (vU (vU (vU (vU v 19 ((mAt (ML r N d) r n lev cr).1)) 20 ((mAt (ML r N d) r n lev cr).2.1)) 21 ((mAt (ML r N d) r n lev cr).2.2)) 22 (atU (ML r N d) r n lev cr)) 23 (atD (ML r N d) r n lev cr)) (rU (rU r 11 it) 12 z_37)) := hw ▸ hD
                exact k_vret C0 (atU (ML r N d) r n lev cr, atD (ML r N d) r n lev cr, z_37) hP hD hS ⟨(fun i hi k hk => by show z_37 (16 * i + k) = sz (16 * i + k); rw [hz_37 i (by omega) k hk, hz_1 i (by omega) k hk]), fun _ => ⟨rfl, rfl⟩⟩ dX5_measureAtom_472
    · skip
      have q19 : (mNu (ML r N d) r n lev cr).1 = (mAt (ML r N d) r n lev cr).1 := (pf_X5_measureAtom_15 a v r n N d rk lev cr it sz w0 h0 d0 u0 e0 hN hN1 hn hd hR hat u_1 e_1 z_1 c_14 c_24)
      have q20 : (mNu (ML r N d) r n lev cr).2.1 = (mAt (ML r N d) r n lev cr).2.1 := (pf_X5_measureAtom_16 a v r n N d rk lev cr it sz w0 h0 d0 u0 e0 hN hN1 hn hd hR hat u_1 e_1 z_1 c_14 c_24)
      have q21 : (mNu (ML r N d) r n lev cr).2.2 = (mAt (ML r N d) r n lev cr).2.2 := (pf_X5_measureAtom_17 a v r n N d rk lev cr it sz w0 h0 d0 u0 e0 hN hN1 hn hd hR hat u_1 e_1 z_1 c_14 c_24)
      have hw : (wM cI a (vU (vU (vU (vU (vU v 19 ((mNu (ML r N d) r n lev cr).1)) 20 ((mNu (ML r N d) r n lev cr).2.1)) 21 ((mNu (ML r N d) r n lev cr).2.2)) 22 u_1) 23 e_1) (rU (rU r 11 it) 12 z_1)) = (wM cI a (vU (vU (vU (vU (vU v 19 ((mAt (ML r N d) r n lev cr).1)) 20 ((mAt (ML r N d) r n lev cr).2.1)) 21 ((mAt (ML r N d) r n lev cr).2.2)) 22 u_1) 23 e_1) (rU (rU r 11 it) 12 z_1)) := by rw [q19, q20, q21]
      have hP : va_P D vwCl (wM cI a (vU (vU (vU (vU (vU v 19 ((mAt (ML r N d) r n lev cr).1)) 20 ((mAt (ML r N d) r n lev cr).2.1)) 21 ((mAt (ML r N d) r n lev cr).2.2)) 22 u_1) 23 e_1) (rU (rU r 11 it) 12 z_1)) H := hw ▸ hP
      have hD : va_D A (wM cI a (vU (vU (vU (vU (vU v 19 ((mAt (ML r N d) r n lev cr).1)) 20 ((mAt (ML r N d) r n lev cr).2.1)) 21 ((mAt (ML r N d) r n lev cr).2.2)) 22 u_1) 23 e_1) (rU (rU r 11 it) 12 z_1)) := hw ▸ hD
      exact k_vret C0 (u_1, e_1, z_1) hP hD hS ⟨(fun i hi k hk => by show z_1 (16 * i + k) = sz (16 * i + k); rw [hz_1 i (by omega) k hk]), fun q => absurd ⟨c_14, c_24⟩ q⟩ dX5_measureAtom_27
