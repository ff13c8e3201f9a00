set_option maxHeartbeats 1500000 in
set_option maxRecDepth 100000 in
theorem c_X5_placeNucleus (l : Launch) (D : va_G) (cI : ClassId) (a : Nat → Nat) (v : Nat → Int32) (r : Nat → Nat → Int32) (n N d : Nat) (rk : Int32 → Nat) (lev cr X Y : Int32) (c : Nat) (it sz : Nat → Int32) (w0 h0 d0 u0 e0 : Int32) (hM : ∀ v2 : Nat → Int32, v2 4 = nI N → HML l D cI a v2 r N rk d) (hPl : HPL l D cI a v r N rk d) (hN : v 4 = nI N) (hN1 : N ≤ 120) (hn : n < N) (hd : rk (r 2 n) ≤ d) (hR : HRK r N rk) (hat : ¬ r 3 n = 4) (hcl : c + (pNu (ML r N d) (PL r N d) r n lev cr X Y).length ≤ 500) : KV l D cI yX5_placeNucleus wsX5_placeNucleus (rpN d) [.ref (a 0), .int (nI n), .int lev, .int cr, .int X, .int Y] (wM cI a (vU (vU (vU (vU (vU (vU v 14 (nI c)) 19 w0) 20 h0) 21 d0) 22 u0) 23 e0) (rU (rU r 11 it) 12 sz)) (fun z : Int32 × Int32 × Int32 × Int32 × Int32 × (Nat → Int32) => wM cI a (v6 v (c + (pNu (ML r N d) (PL r N d) r n lev cr X Y).length) z.1 z.2.1 z.2.2.1 z.2.2.2.1 z.2.2.2.2.1) (r2 r (ptI it c (pNu (ML r N d) (PL r N d) r n lev cr X Y)) z.2.2.2.2.2)) (fun z => ∀ i4, rk (r 2 n) < rk (r 2 i4) → ∀ k4, k4 < 16 → z.2.2.2.2.2 (16 * i4 + k4) = sz (16 * i4 + k4)) := by
  refine KV.of (cc := cX5_placeNucleus) (nL := 7) (ret := none) (by decide) rfl (Nat.le_of_ble_eq_true rfl) ?_
  intro pg9 en9 s m args below meth cd9 A ls C0 hP hD hS hl
  have hx := C0.1.1
  have hb := C0.1.2.1
  have hml := C0.1.2.2.1
  have hown : s.vm.findClass RX5 = some m.cls := C0.1.2.2.2.1
  have hts : ∀ w ∈ wsX5_placeNucleus, w.before args s = true := C0.1.2.2.2.2
  have hK := C0.2.2.2.1
  have hin_X5 : ∀ w ∈ wsX50, w ∈ wsX5_placeNucleus := fun w h => List.mem_cons_of_mem _ (List.mem_append_right _ h)
  have hf20 : (Cond.fieldLink RX5 20 "FormulaListsModel" "what" "[I").before args s = true := hts _ (by decide +kernel)
  have hf23 : (Cond.fieldLink RX5 23 "FormulaListsModel" "kinds" "[I").before args s = true := hts _ (by decide +kernel)
  have hf26 : (Cond.fieldLink RX5 26 "FormulaListsModel" "one" "[I").before args s = true := hts _ (by decide +kernel)
  have hl : lv_has ls 7 [(0, .ref (a 0)), (1, .int (nI n)), (2, .int lev), (3, .int cr), (4, .int X), (5, .int Y)] := hl
  have hP : va_P D vwCl (wM cI a (vU (vU (vU (vU (vU (vU v 14 (nI c)) 19 w0) 20 h0) 21 d0) 22 u0) 23 e0) (rU (rU r 11 it) 12 sz)) s.heap := hP
  obtain ⟨hf0, hq1, hq2, hq3i, -, -⟩ := hR n hn hat
  refine lv_aload_n hx hb dX5_placeNucleus_0 rfl (lv_at hl 0 rfl) ?_
  refine va_get (D := D) (ci := 5) (v := .ref (a 3)) (C := RX5) (T := TX5) (N := 25) hx hb hts hin_X5 hown hK hP 0 rfl rfl 6 (by decide) hf20 (fun _ h9 => h9) rfl dX5_placeNucleus_1 ?_
  refine lv_iload_n hx hb dX5_placeNucleus_4 rfl (lv_at hl 1 rfl) ?_
  refine ra_ld (f := (r 3)) C0 hP 3 rfl n rfl (by omega) (by decide) dX5_placeNucleus_5 ?_
  refine lv_if_ne (tgt := 56) hx hb dX5_placeNucleus_6 (by decide) (fun c_6 => ?_) (fun c_6 => ?_)
  · skip
    refine lv_aload_n hx hb dX5_placeNucleus_56 rfl (lv_at hl 0 rfl) ?_
    refine va_get (D := D) (ci := 5) (v := .ref (a 3)) (C := RX5) (T := TX5) (N := 25) hx hb hts hin_X5 hown hK hP 0 rfl rfl 6 (by decide) hf20 (fun _ h9 => h9) rfl dX5_placeNucleus_57 ?_
    refine lv_iload_n hx hb dX5_placeNucleus_60 rfl (lv_at hl 1 rfl) ?_
    refine ra_ld (f := (r 3)) C0 hP 3 rfl n rfl (by omega) (by decide) dX5_placeNucleus_61 ?_
    refine lv_iconst (v := 1) hx hb dX5_placeNucleus_62 (by decide) ?_
    refine lv_icmp_ne (tgt := 80) hx hb dX5_placeNucleus_63 (by decide) (fun c_63 => ?_) (fun c_63 => ?_)
    · skip
      refine lv_aload_n hx hb dX5_placeNucleus_80 rfl (lv_at hl 0 rfl) ?_
      refine va_get (D := D) (ci := 5) (v := .ref (a 3)) (C := RX5) (T := TX5) (N := 25) hx hb hts hin_X5 hown hK hP 0 rfl rfl 6 (by decide) hf20 (fun _ h9 => h9) rfl dX5_placeNucleus_81 ?_
      refine lv_iload_n hx hb dX5_placeNucleus_84 rfl (lv_at hl 1 rfl) ?_
      refine ra_ld (f := (r 3)) C0 hP 3 rfl n rfl (by omega) (by decide) dX5_placeNucleus_85 ?_
      refine lv_iconst (v := 2) hx hb dX5_placeNucleus_86 (by decide) ?_
      refine lv_icmp_ne (tgt := 104) hx hb dX5_placeNucleus_87 (by decide) (fun c_87 => ?_) (fun c_87 => ?_)
      · skip
        obtain ⟨R, C, h35, h36, h3a, h3b, h3c, h3d, h3e⟩ := hq3i (by rcases hf0 with q | q | q | q; exact absurd q c_6; exact absurd q c_63; exact absurd q c_87; exact q)
        have hL : (pNu (ML r N d) (PL r N d) r n lev cr X Y) = pMa (ML r N d) (PL r N d) r n lev X Y := by rw [pNu, if_neg c_6, if_neg c_63, if_neg c_87]
        refine lv_aload_n hx hb dX5_placeNucleus_104 rfl (lv_at hl 0 rfl) ?_
        refine lv_iload_n hx hb dX5_placeNucleus_105 rfl (lv_at hl 1 rfl) ?_
        refine lv_iload_n hx hb dX5_placeNucleus_106 rfl (lv_at hl 2 rfl) ?_
        refine lv_iload hx hb dX5_placeNucleus_107 (lv_at hl 4 rfl) ?_
        refine lv_iload hx hb dX5_placeNucleus_109 (lv_at hl 5 rfl) ?_
        refine kcVv C0 hP hD hS (c_X5_placeMatrix l D cI a v r n N d R C rk lev X Y c it sz w0 h0 d0 u0 e0 hM hPl hN hN1 hn hd h35 h36 h3a h3b h3c h3d h3e (by rw [← hL]; exact hcl)) (cwV 4 hts gX5_placeNucleus_X5_placeMatrix rfl rfl rfl (by decide +kernel) ⟨by dsimp only [rmL, rmF, rmN, rmA, rpL, rpF, rpN, rpA]; omega, by dsimp only [rmL, rmF, rmN, rmA, rpL, rpF, rpN, rpA]; omega⟩) 0 5 rfl rfl rfl hl.1 rfl (Nat.le_of_ble_eq_true rfl) dX5_placeNucleus_111 ⟨Nat.zero_le _, Nat.zero_le _⟩ (fun u H locs hq hP hD hS => ?_)
        obtain ⟨w_1, h_1, d_1, u_1, e_1, z_1⟩ := u
        have hz_1 : ∀ i4, rk (r 2 n) < rk (r 2 i4) → ∀ k4, k4 < 16 → z_1 (16 * i4 + k4) = sz (16 * i4 + k4) := hq
        have hP : va_P D vwCl (wM cI a (vU (vU (vU (vU (vU (vU v 14 (nI (c + (pMa (ML r N d) (PL r N d) r n lev X Y).length))) 19 w_1) 20 h_1) 21 d_1) 22 u_1) 23 e_1) (rU (rU r 11 (ptI it c (pMa (ML r N d) (PL r N d) r n lev X Y))) 12 z_1)) H := hP
        have hD : va_D A (wM cI a (vU (vU (vU (vU (vU (vU v 14 (nI (c + (pMa (ML r N d) (PL r N d) r n lev X Y).length))) 19 w_1) 20 h_1) 21 d_1) 22 u_1) 23 e_1) (rU (rU r 11 (ptI it c (pMa (ML r N d) (PL r N d) r n lev X Y))) 12 z_1)) := hD
        have q14 : (nI (c + (pMa (ML r N d) (PL r N d) r n lev X Y).length)) = (nI (c + (pNu (ML r N d) (PL r N d) r n lev cr X Y).length)) := (by rw [hL])
        have q11 : (ptI it c (pMa (ML r N d) (PL r N d) r n lev X Y)) = (ptI it c (pNu (ML r N d) (PL r N d) r n lev cr X Y)) := (by rw [hL])
        have hw : (wM cI a (vU (vU (vU (vU (vU (vU v 14 (nI (c + (pMa (ML r N d) (PL r N d) r n lev X Y).length))) 19 w_1) 20 h_1) 21 d_1) 22 u_1) 23 e_1) (rU (rU r 11 (ptI it c (pMa (ML r N d) (PL r N d) r n lev X Y))) 12 z_1)) = (wM cI a (vU (vU (vU (vU (vU (vU v 14 (nI (c + (pNu (ML r N d) (PL r N d) r n lev cr X Y).length))) 19 w_1) 20 h_1) 21 d_1) 22 u_1) 23 e_1) (rU (rU r 11 (ptI it c (pNu (ML r N d) (PL r N d) r n lev cr X Y))) 12 z_1)) := by rw [q14, q11]
        have hP : va_P D vwCl (wM cI a (vU (vU (vU (vU (vU (vU v 14 (nI (c + (pNu (ML r N d) (PL r N d) r n lev cr X Y).length))) 19 w_1) 20 h_1) 21 d_1) 22 u_1) 23 e_1) (rU (rU r 11 (ptI it c (pNu (ML r N d) (PL r N d) r n lev cr X Y))) 12 z_1)) H := hw ▸ hP
        have hD : va_D A (wM cI a (vU (vU (vU (vU (vU (vU v 14 (nI (c + (pNu (ML r N d) (PL r N d) r n lev cr X Y).length))) 19 w_1) 20 h_1) 21 d_1) 22 u_1) 23 e_1) (rU (rU r 11 (ptI it c (pNu (ML r N d) (PL r N d) r n lev cr X Y))) 12 z_1)) := hw ▸ hD
        exact k_vret C0 (w_1, h_1, d_1, u_1, e_1, z_1) hP hD hS (fun i4 hi k4 hk => by show z_1 (16 * i4 + k4) = sz (16 * i4 + k4); rw [hz_1 i4 (by omega) k4 hk]) dX5_placeNucleus_114
      · skip
        have hL : (pNu (ML r N d) (PL r N d) r n lev cr X Y) = pFe (ML r N d) (PL r N d) r n lev cr X Y := by rw [pNu, if_neg c_6, if_neg c_63, if_pos c_87]
        refine lv_aload_n hx hb dX5_placeNucleus_90 rfl (lv_at hl 0 rfl) ?_
        refine lv_iload_n hx hb dX5_placeNucleus_91 rfl (lv_at hl 1 rfl) ?_
        refine lv_iload_n hx hb dX5_placeNucleus_92 rfl (lv_at hl 2 rfl) ?_
        refine lv_iload_n hx hb dX5_placeNucleus_93 rfl (lv_at hl 3 rfl) ?_
        refine lv_iload hx hb dX5_placeNucleus_94 (lv_at hl 4 rfl) ?_
        refine lv_iload hx hb dX5_placeNucleus_96 (lv_at hl 5 rfl) ?_
        refine kcVv C0 hP hD hS (c_X5_placeFence l D cI a v r n N d rk lev cr X Y c it sz w0 h0 d0 u0 e0 hM hPl hN hN1 hn hd (hq2 c_87) (by rw [← hL]; exact hcl)) (cwV 5 hts gX5_placeNucleus_X5_placeFence rfl rfl rfl (by decide +kernel) ⟨by dsimp only [rmL, rmF, rmN, rmA, rpL, rpF, rpN, rpA]; omega, by dsimp only [rmL, rmF, rmN, rmA, rpL, rpF, rpN, rpA]; omega⟩) 0 5 rfl rfl rfl hl.1 rfl (Nat.le_of_ble_eq_true rfl) dX5_placeNucleus_98 ⟨Nat.zero_le _, Nat.zero_le _⟩ (fun u H locs hq hP hD hS => ?_)
        obtain ⟨w_2, h_2, d_2, u_2, e_2, z_2⟩ := u
        have hz_2 : ∀ i4, rk (r 2 n) < rk (r 2 i4) → ∀ k4, k4 < 16 → z_2 (16 * i4 + k4) = sz (16 * i4 + k4) := hq
        have hP : va_P D vwCl (wM cI a (vU (vU (vU (vU (vU (vU v 14 (nI (c + (pFe (ML r N d) (PL r N d) r n lev cr X Y).length))) 19 w_2) 20 h_2) 21 d_2) 22 u_2) 23 e_2) (rU (rU r 11 (ptI it c (pFe (ML r N d) (PL r N d) r n lev cr X Y))) 12 z_2)) H := hP
        have hD : va_D A (wM cI a (vU (vU (vU (vU (vU (vU v 14 (nI (c + (pFe (ML r N d) (PL r N d) r n lev cr X Y).length))) 19 w_2) 20 h_2) 21 d_2) 22 u_2) 23 e_2) (rU (rU r 11 (ptI it c (pFe (ML r N d) (PL r N d) r n lev cr X Y))) 12 z_2)) := hD
        refine lv_goto (tgt := 114) hx hb dX5_placeNucleus_101 (by decide) ?_
        have q14 : (nI (c + (pFe (ML r N d) (PL r N d) r n lev cr X Y).length)) = (nI (c + (pNu (ML r N d) (PL r N d) r n lev cr X Y).length)) := (by rw [hL])
        have q11 : (ptI it c (pFe (ML r N d) (PL r N d) r n lev cr X Y)) = (ptI it c (pNu (ML r N d) (PL r N d) r n lev cr X Y)) := (by rw [hL])
        have hw : (wM cI a (vU (vU (vU (vU (vU (vU v 14 (nI (c + (pFe (ML r N d) (PL r N d) r n lev cr X Y).length))) 19 w_2) 20 h_2) 21 d_2) 22 u_2) 23 e_2) (rU (rU r 11 (ptI it c (pFe (ML r N d) (PL r N d) r n lev cr X Y))) 12 z_2)) = (wM cI a (vU (vU (vU (vU (vU (vU v 14 (nI (c + (pNu (ML r N d) (PL r N d) r n lev cr X Y).length))) 19 w_2) 20 h_2) 21 d_2) 22 u_2) 23 e_2) (rU (rU r 11 (ptI it c (pNu (ML r N d) (PL r N d) r n lev cr X Y))) 12 z_2)) := by rw [q14, q11]
        have hP : va_P D vwCl (wM cI a (vU (vU (vU (vU (vU (vU v 14 (nI (c + (pNu (ML r N d) (PL r N d) r n lev cr X Y).length))) 19 w_2) 20 h_2) 21 d_2) 22 u_2) 23 e_2) (rU (rU r 11 (ptI it c (pNu (ML r N d) (PL r N d) r n lev cr X Y))) 12 z_2)) H := hw ▸ hP
        have hD : va_D A (wM cI a (vU (vU (vU (vU (vU (vU v 14 (nI (c + (pNu (ML r N d) (PL r N d) r n lev cr X Y).length))) 19 w_2) 20 h_2) 21 d_2) 22 u_2) 23 e_2) (rU (rU r 11 (ptI it c (pNu (ML r N d) (PL r N d) r n lev cr X Y))) 12 z_2)) := hw ▸ hD
        exact k_vret C0 (w_2, h_2, d_2, u_2, e_2, z_2) hP hD hS (fun i4 hi k4 hk => by show z_2 (16 * i4 + k4) = sz (16 * i4 + k4); rw [hz_2 i4 (by omega) k4 hk]) dX5_placeNucleus_114
    · skip
      have hL : (pNu (ML r N d) (PL r N d) r n lev cr X Y) = pFr (ML r N d) (PL r N d) r n lev cr X Y := by rw [pNu, if_neg c_6, if_pos c_63]
      refine lv_aload_n hx hb dX5_placeNucleus_66 rfl (lv_at hl 0 rfl) ?_
      refine lv_iload_n hx hb dX5_placeNucleus_67 rfl (lv_at hl 1 rfl) ?_
      refine lv_iload_n hx hb dX5_placeNucleus_68 rfl (lv_at hl 2 rfl) ?_
      refine lv_iload_n hx hb dX5_placeNucleus_69 rfl (lv_at hl 3 rfl) ?_
      refine lv_iload hx hb dX5_placeNucleus_70 (lv_at hl 4 rfl) ?_
      refine lv_iload hx hb dX5_placeNucleus_72 (lv_at hl 5 rfl) ?_
      refine kcVv C0 hP hD hS (c_X5_placeFraction l D cI a v r n N d rk lev cr X Y c it sz w0 h0 d0 u0 e0 hM hPl hN hN1 hn hd (hq1 c_63).1 (hq1 c_63).2 (by rw [← hL]; exact hcl)) (cwV 5 hts gX5_placeNucleus_X5_placeFraction rfl rfl rfl (by decide +kernel) ⟨by dsimp only [rmL, rmF, rmN, rmA, rpL, rpF, rpN, rpA]; omega, by dsimp only [rmL, rmF, rmN, rmA, rpL, rpF, rpN, rpA]; omega⟩) 0 5 rfl rfl rfl hl.1 rfl (Nat.le_of_ble_eq_true rfl) dX5_placeNucleus_74 ⟨Nat.zero_le _, Nat.zero_le _⟩ (fun u H locs hq hP hD hS => ?_)
      obtain ⟨w_3, h_3, d_3, u_3, e_3, z_3⟩ := u
      have hz_3 : ∀ i4, rk (r 2 n) < rk (r 2 i4) → ∀ k4, k4 < 16 → z_3 (16 * i4 + k4) = sz (16 * i4 + k4) := hq
      have hP : va_P D vwCl (wM cI a (vU (vU (vU (vU (vU (vU v 14 (nI (c + (pFr (ML r N d) (PL r N d) r n lev cr X Y).length))) 19 w_3) 20 h_3) 21 d_3) 22 u_3) 23 e_3) (rU (rU r 11 (ptI it c (pFr (ML r N d) (PL r N d) r n lev cr X Y))) 12 z_3)) H := hP
      have hD : va_D A (wM cI a (vU (vU (vU (vU (vU (vU v 14 (nI (c + (pFr (ML r N d) (PL r N d) r n lev cr X Y).length))) 19 w_3) 20 h_3) 21 d_3) 22 u_3) 23 e_3) (rU (rU r 11 (ptI it c (pFr (ML r N d) (PL r N d) r n lev cr X Y))) 12 z_3)) := hD
      refine lv_goto (tgt := 114) hx hb dX5_placeNucleus_77 (by decide) ?_
      have q14 : (nI (c + (pFr (ML r N d) (PL r N d) r n lev cr X Y).length)) = (nI (c + (pNu (ML r N d) (PL r N d) r n lev cr X Y).length)) := (by rw [hL])
      have q11 : (ptI it c (pFr (ML r N d) (PL r N d) r n lev cr X Y)) = (ptI it c (pNu (ML r N d) (PL r N d) r n lev cr X Y)) := (by rw [hL])
      have hw : (wM cI a (vU (vU (vU (vU (vU (vU v 14 (nI (c + (pFr (ML r N d) (PL r N d) r n lev cr X Y).length))) 19 w_3) 20 h_3) 21 d_3) 22 u_3) 23 e_3) (rU (rU r 11 (ptI it c (pFr (ML r N d) (PL r N d) r n lev cr X Y))) 12 z_3)) = (wM cI a (vU (vU (vU (vU (vU (vU v 14 (nI (c + (pNu (ML r N d) (PL r N d) r n lev cr X Y).length))) 19 w_3) 20 h_3) 21 d_3) 22 u_3) 23 e_3) (rU (rU r 11 (ptI it c (pNu (ML r N d) (PL r N d) r n lev cr X Y))) 12 z_3)) := by rw [q14, q11]
      have hP : va_P D vwCl (wM cI a (vU (vU (vU (vU (vU (vU v 14 (nI (c + (pNu (ML r N d) (PL r N d) r n lev cr X Y).length))) 19 w_3) 20 h_3) 21 d_3) 22 u_3) 23 e_3) (rU (rU r 11 (ptI it c (pNu (ML r N d) (PL r N d) r n lev cr X Y))) 12 z_3)) H := hw ▸ hP
      have hD : va_D A (wM cI a (vU (vU (vU (vU (vU (vU v 14 (nI (c + (pNu (ML r N d) (PL r N d) r n lev cr X Y).length))) 19 w_3) 20 h_3) 21 d_3) 22 u_3) 23 e_3) (rU (rU r 11 (ptI it c (pNu (ML r N d) (PL r N d) r n lev cr X Y))) 12 z_3)) := hw ▸ hD
      exact k_vret C0 (w_3, h_3, d_3, u_3, e_3, z_3) hP hD hS (fun i4 hi k4 hk => by show z_3 (16 * i4 + k4) = sz (16 * i4 + k4); rw [hz_3 i4 (by omega) k4 hk]) dX5_placeNucleus_114
  · skip
    have hL : (pNu (ML r N d) (PL r N d) r n lev cr X Y) = [mkI 0 X Y (sgz (r 4 n) lev) (sgz (r 4 n) lev * (4 + (r 5 n - r 5 n / 5 * 5))) (r 5 n) (nI n) (bz 0)] := by rw [pNu, if_pos c_6]; rfl
    refine lv_aload_n hx hb dX5_placeNucleus_9 rfl (lv_at hl 0 rfl) ?_
    refine va_get (D := D) (ci := 5) (v := .ref (a 4)) (C := RX5) (T := TX5) (N := 25) hx hb hts hin_X5 hown hK hP 0 rfl rfl 7 (by decide) hf23 (fun _ h9 => h9) rfl dX5_placeNucleus_10 ?_
    refine lv_iload_n hx hb dX5_placeNucleus_13 rfl (lv_at hl 1 rfl) ?_
    refine ra_ld (f := (r 4)) C0 hP 4 rfl n rfl (by omega) (by decide) dX5_placeNucleus_14 ?_
    refine lv_iload_n hx hb dX5_placeNucleus_15 rfl (lv_at hl 2 rfl) ?_
    refine kcS (ans := (sgz ((r 4) n) lev)) C0 hP hS (c_X5_signSize l D cI ((r 4) n) lev ) (va_cwS 2 hts gX5_placeNucleus_X5_signSize rfl rfl rfl (by decide +kernel) ⟨by dsimp only [rmL, rmF, rmN, rmA, rpL, rpF, rpN, rpA]; omega, by dsimp only [rmL, rmF, rmN, rmA, rpL, rpF, rpN, rpA]; omega⟩) rfl hl.1 rfl (Nat.le_of_ble_eq_true rfl) dX5_placeNucleus_16 ⟨Nat.zero_le _, Nat.zero_le _⟩ (fun H locs hP hS => ?_)
    refine lv_istore (lv' := [(6, .int (sgz ((r 4) n) lev)), (0, .ref (a 0)), (1, .int (nI n)), (2, .int lev), (3, .int cr), (4, .int X), (5, .int Y)]) hx hb dX5_placeNucleus_19 hl (by decide) rfl (fun ls hl => ?_)
    refine lv_aload_n hx hb dX5_placeNucleus_21 rfl (lv_at hl 1 rfl) ?_
    refine lv_iconst (v := 0) hx hb dX5_placeNucleus_22 (by decide) ?_
    refine lv_iload hx hb dX5_placeNucleus_23 (lv_at hl 5 rfl) ?_
    refine lv_iload hx hb dX5_placeNucleus_25 (lv_at hl 6 rfl) ?_
    refine lv_iload hx hb dX5_placeNucleus_27 (lv_at hl 0 rfl) ?_
    refine lv_iload hx hb dX5_placeNucleus_29 (lv_at hl 0 rfl) ?_
    refine lv_iconst (v := 4) hx hb dX5_placeNucleus_31 (by decide) ?_
    refine lv_aload_n hx hb dX5_placeNucleus_32 rfl (lv_at hl 1 rfl) ?_
    refine va_get (D := D) (ci := 5) (v := .ref (a 5)) (C := RX5) (T := TX5) (N := 25) hx hb hts hin_X5 hown hK hP 0 rfl rfl 8 (by decide) hf26 (fun _ h9 => h9) rfl dX5_placeNucleus_33 ?_
    refine lv_iload_n hx hb dX5_placeNucleus_36 rfl (lv_at hl 2 rfl) ?_
    refine ra_ld (f := (r 5)) C0 hP 5 rfl n rfl (by omega) (by decide) dX5_placeNucleus_37 ?_
    refine lv_iconst (v := 5) hx hb dX5_placeNucleus_38 (by decide) ?_
    refine lv_irem hx hb dX5_placeNucleus_39 (by decide) ?_
    refine lv_iadd hx hb dX5_placeNucleus_40 ?_
    refine lv_imul hx hb dX5_placeNucleus_41 ?_
    refine lv_aload_n hx hb dX5_placeNucleus_42 rfl (lv_at hl 1 rfl) ?_
    refine va_get (D := D) (ci := 5) (v := .ref (a 5)) (C := RX5) (T := TX5) (N := 25) hx hb hts hin_X5 hown hK hP 0 rfl rfl 8 (by decide) hf26 (fun _ h9 => h9) rfl dX5_placeNucleus_43 ?_
    refine lv_iload_n hx hb dX5_placeNucleus_46 rfl (lv_at hl 2 rfl) ?_
    refine ra_ld (f := (r 5)) C0 hP 5 rfl n rfl (by omega) (by decide) dX5_placeNucleus_47 ?_
    refine lv_iload_n hx hb dX5_placeNucleus_48 rfl (lv_at hl 2 rfl) ?_
    refine lv_iconst (v := 0) hx hb dX5_placeNucleus_49 (by decide) ?_
    refine kcDv C0 hP hD hS (c_X5_put l D cI a (vU (vU (vU (vU (vU (vU v 14 (nI c)) 19 w0) 20 h0) 21 d0) 22 u0) 23 e0) (rU (rU r 11 it) 12 sz) 0 X Y (sgz ((r 4) n) lev) ((sgz ((r 4) n) lev) * (4 + (((r 5) n) - ((r 5) n) / 5 * 5))) ((r 5) n) (nI n) 0 c rfl (by rw [hL] at hcl; exact hcl)) (cwV 8 hts gX5_placeNucleus_X5_put rfl rfl rfl (by decide +kernel) ⟨by dsimp only [rmL, rmF, rmN, rmA, rpL, rpF, rpN, rpA]; omega, by dsimp only [rmL, rmF, rmN, rmA, rpL, rpF, rpN, rpA]; omega⟩) 0 5 rfl rfl rfl hl.1 rfl (Nat.le_of_ble_eq_true rfl) dX5_placeNucleus_50 ⟨Nat.zero_le _, Nat.zero_le _⟩ (fun H locs hP hD hS => ?_)
    have hP : va_P D vwCl (wM cI a (vU (vU (vU (vU (vU (vU v 14 (nI (c + 1))) 19 w0) 20 h0) 21 d0) 22 u0) 23 e0) (rU (rU r 11 (ptI it c [mkI 0 X Y (sgz ((r 4) n) lev) ((sgz ((r 4) n) lev) * (4 + (((r 5) n) - ((r 5) n) / 5 * 5))) ((r 5) n) (nI n) (bz 0)])) 12 sz)) H := hP
    have hD : va_D A (wM cI a (vU (vU (vU (vU (vU (vU v 14 (nI (c + 1))) 19 w0) 20 h0) 21 d0) 22 u0) 23 e0) (rU (rU r 11 (ptI it c [mkI 0 X Y (sgz ((r 4) n) lev) ((sgz ((r 4) n) lev) * (4 + (((r 5) n) - ((r 5) n) / 5 * 5))) ((r 5) n) (nI n) (bz 0)])) 12 sz)) := hD
    refine lv_goto (tgt := 114) hx hb dX5_placeNucleus_53 (by decide) ?_
    have q14 : (nI (c + 1)) = (nI (c + (pNu (ML r N d) (PL r N d) r n lev cr X Y).length)) := (by rw [hL]; rfl)
    have q11 : (ptI it c [mkI 0 X Y (sgz ((r 4) n) lev) ((sgz ((r 4) n) lev) * (4 + (((r 5) n) - ((r 5) n) / 5 * 5))) ((r 5) n) (nI n) (bz 0)]) = (ptI it c (pNu (ML r N d) (PL r N d) r n lev cr X Y)) := (by rw [hL])
    have hw : (wM cI a (vU (vU (vU (vU (vU (vU v 14 (nI (c + 1))) 19 w0) 20 h0) 21 d0) 22 u0) 23 e0) (rU (rU r 11 (ptI it c [mkI 0 X Y (sgz ((r 4) n) lev) ((sgz ((r 4) n) lev) * (4 + (((r 5) n) - ((r 5) n) / 5 * 5))) ((r 5) n) (nI n) (bz 0)])) 12 sz)) = (wM cI a (vU (vU (vU (vU (vU (vU v 14 (nI (c + (pNu (ML r N d) (PL r N d) r n lev cr X Y).length))) 19 w0) 20 h0) 21 d0) 22 u0) 23 e0) (rU (rU r 11 (ptI it c (pNu (ML r N d) (PL r N d) r n lev cr X Y))) 12 sz)) := by rw [q14, q11]
    have hP : va_P D vwCl (wM cI a (vU (vU (vU (vU (vU (vU v 14 (nI (c + (pNu (ML r N d) (PL r N d) r n lev cr X Y).length))) 19 w0) 20 h0) 21 d0) 22 u0) 23 e0) (rU (rU r 11 (ptI it c (pNu (ML r N d) (PL r N d) r n lev cr X Y))) 12 sz)) H := hw ▸ hP
    have hD : va_D A (wM cI a (vU (vU (vU (vU (vU (vU v 14 (nI (c + (pNu (ML r N d) (PL r N d) r n lev cr X Y).length))) 19 w0) 20 h0) 21 d0) 22 u0) 23 e0) (rU (rU r 11 (ptI it c (pNu (ML r N d) (PL r N d) r n lev cr X Y))) 12 sz)) := hw ▸ hD
    exact k_vret C0 (w0, h0, d0, u0, e0, sz) hP hD hS (fun i4 hi k4 hk => rfl) dX5_placeNucleus_114
