theorem c_X3_layFence (l : Launch) (D : va_G) (cI : ClassId) (a : Nat → Nat) (v : Nat → Int32) (r : Nat → Nat → Int32) (q : Rw) (N n k d lv : Nat) (dp sl : Nat → Nat) (lev cr : Int32) (c : Nat) (hM : HLL l D cI a q N dp d) (hT : LY q N dp sl) (hr : RQ q N v r) (hN : v 0 = nI N) (hnN : n < N) (hk : k < 30) (e2 : q 2 n = nI k) (hd : 29 ≤ d + dp k) (hlv : lv ≤ dp k) (hlev : lvO lev) (hf3 : q 3 n = 2) (e13 : BM r (30 + n) (0, 0, 0)) (h16 : r 16 (30 + n) = nI c) (h17 : r 17 (30 + n) = nI c) (hcl : c + (pFe (ML q N d) (PL q N d) q n lev cr 0 0).length ≤ 150) : KV l D cI yX3_layFence wsX3_layFence (rxF d) [.ref (a 20), .int (nI n), .int lev, .int cr, .int (nI lv)] (wX cI a (vU v 4 (nI c)) r) (fun u : Rw => wX cI a (vU v 4 (nI (c + (pFe (ML q N d) (PL q N d) q n lev cr 0 0).length))) u) (fun u => ATP q r (r 19) n c (mFe (ML q N d) q n lev cr) (pFe (ML q N d) (PL q N d) q n lev cr 0 0) u) := by
  by_cases h1 : q 5 n = 0
  · by_cases h2 : q 7 n = 0
    · exfalso
      rcases (hT.2.2.2.2 n hnN).2.2.2 with h | h | h | h | h
      · exact absurd (hf3.symm.trans h.1) (by decide)
      · exact absurd (hf3.symm.trans h.1) (by decide)
      · exact h.2.2.2.2.2.2 ⟨h1, h2⟩
      · exact absurd (hf3.symm.trans h.1) (by decide)
      · exact absurd (hf3.symm.trans h.1) (by decide)
    · exact c_X3_layFence_01 l D cI a v r q N n k d lv dp sl lev cr c hM hT hr hN hnN hk e2 hd hlv hlev hf3 e13 h16 h17 hcl h1 h2
  · by_cases h2 : q 7 n = 0
    · exact c_X3_layFence_10 l D cI a v r q N n k d lv dp sl lev cr c hM hT hr hN hnN hk e2 hd hlv hlev hf3 e13 h16 h17 hcl h1 h2
    · exact c_X3_layFence_11 l D cI a v r q N n k d lv dp sl lev cr c hM hT hr hN hnN hk e2 hd hlv hlev hf3 e13 h16 h17 hcl h1 h2

set_option maxHeartbeats 1500000 in
set_option maxRecDepth 100000 in
theorem c_X3_layAtom_0 (l : Launch) (D : va_G) (cI : ClassId) (a : Nat → Nat) (v : Nat → Int32) (r : Nat → Nat → Int32) (q : Rw) (N n k d lv : Nat) (dp sl : Nat → Nat) (lev cr : Int32) (c : Nat) (hM : HLL l D cI a q N dp d) (hT : LY q N dp sl) (hr : RQ q N v r) (hN : v 0 = nI N) (hnN : n < N) (hk : k < 30) (e2 : q 2 n = nI k) (hd : 29 ≤ d + dp k) (hlv : lv ≤ dp k) (hlev : lvO lev) (hBD : HBD q N dp d) (hf3 : q 3 n = 0) (hcl : c + (pAt (ML q N d) (PL q N d) q n lev cr 0 0).length ≤ 150) : KV l D cI yX3_layAtom wsX3_layAtom (rxA d) [.ref (a 20), .int (nI n), .int lev, .int cr, .int (nI lv)] (wX cI a (vU v 4 (nI c)) r) (fun u : Rw => wX cI a (vU v 4 (nI (c + (pAt (ML q N d) (PL q N d) q n lev cr 0 0).length))) u) (fun u => ATP q r (r 19) n c (mAt (ML q N d) q n lev cr) (pAt (ML q N d) (PL q N d) q n lev cr 0 0) u ∧ u 17 (30 + n) = nI (c + (pAt (ML q N d) (PL q N d) q n lev cr 0 0).length)) := by
  refine KV.of (cc := cX3_layAtom) (nL := 6) (ret := none) (by decide) rfl (Nat.le_of_ble_eq_true rfl) ?_
  intro pg9 en9 s m args below meth cd9 A ls C0 hP hD hS hl
  have hx := C0.1.1
  have hb := C0.1.2.1
  have hml := C0.1.2.2.1
  have hown : s.vm.findClass RX3 = some m.cls := C0.1.2.2.2.1
  have hts : ∀ w ∈ wsX3_layAtom, w.before args s = true := C0.1.2.2.2.2
  have hK := C0.2.2.2.1
  have hin_X3 : ∀ w ∈ wsX30, w ∈ wsX3_layAtom := fun w h => List.mem_cons_of_mem _ (List.mem_append_left _ (List.mem_append_left _ (List.mem_append_left _ (List.mem_append_right _ h))))
  have hf12 : (Cond.fieldLink RX3 12 "FormulaLists$Layout" "boxes" "LFormulaLists$Boxes;").before args s = true := hts _ (by decide +kernel)
  have hf21 : (Cond.fieldLink RX3 21 "FormulaLists$Layout" "items" "LFormulaLists$Items;").before args s = true := hts _ (by decide +kernel)
  have hin_X2 : ∀ w ∈ wsX20, w ∈ wsX3_layAtom := fun w h => List.mem_cons_of_mem _ (List.mem_append_left _ (List.mem_append_left _ (List.mem_append_right _ h)))
  have hf39 : (Cond.fieldLink RX3 39 "FormulaLists$Items" "count" "I").before args s = true := hts _ (by decide +kernel)
  have hf35 : (Cond.fieldLink RX3 35 "FormulaLists$Layout" "book" "LFormulaLists$Book;").before args s = true := hts _ (by decide +kernel)
  have hin_X0 : ∀ w ∈ wsX00, w ∈ wsX3_layAtom := fun w h => List.mem_cons_of_mem _ (List.mem_append_left _ (List.mem_append_right _ h))
  have hf65 : (Cond.fieldLink RX3 65 "FormulaLists$Book" "form" "[I").before args s = true := hts _ (by decide +kernel)
  have hin_X1 : ∀ w ∈ wsX10, w ∈ wsX3_layAtom := fun w h => List.mem_cons_of_mem _ (List.mem_append_right _ h)
  have hf93 : (Cond.fieldLink RX3 93 "FormulaLists$Boxes" "end" "[I").before args s = true := hts _ (by decide +kernel)
  have hl : lv_has ls 6 [(0, .ref (a 20)), (1, .int (nI n)), (2, .int lev), (3, .int cr), (4, .int (nI lv))] := hl
  have hP : va_P D vwCl (wX cI a (vU v 4 (nI c)) r) s.heap := hP
  have h9 := hT.1
  have hn : n < 120 := by omega
  have hnd := hT.2.2.2.2 n hnN
  have a3 : r 3 n = 0 := by rw [hr.1.2.1]; exact hf3
  have hnu : (pNu (ML q N d) (PL q N d) q n lev cr 0 0) = (pSi q n lev 0 0) := by unfold pNu; rw [if_pos hf3]
  have hmu : mNu (ML q N d) q n lev cr = (mSi q n lev) := by unfold mNu; rw [if_pos hf3]
  have hcl2 := hcl
  rw [at_len] at hcl2
  have hBn := nu_b (lev := lev) (cr := cr) hT hBD hnN hk e2 hd hlev (by rw [hf3]; decide)
  have hB8 : ¬ q 8 n = -1 → TB (ML q N d (q 8 n) (scl lev) cr) 10000000 := fun h => by obtain ⟨j, hj, e⟩ := hnd.2.1.resolve_left h; obtain ⟨i1, i2, i3⟩ := fl_dp hT hnN hk e2 (show FLD q n 2 j from ⟨hj, Or.inr (Or.inr (Or.inl ⟨rfl, e⟩))⟩); rw [e]; exact hBD j _ _ hj (by omega) scl_o
  have hB9 : ¬ q 9 n = -1 → TB (ML q N d (q 9 n) (scl lev) 1) 10000000 := fun h => by obtain ⟨j, hj, e⟩ := hnd.2.2.1.resolve_left h; obtain ⟨i1, i2, i3⟩ := fl_dp hT hnN hk e2 (show FLD q n 3 j from ⟨hj, Or.inr (Or.inr (Or.inr (Or.inl ⟨rfl, e⟩)))⟩); rw [e]; exact hBD j _ _ hj (by omega) scl_o
  obtain ⟨hs0, hs1⟩ : 0 ≤ q 5 n ∧ q 5 n < 256 := by rcases hnd.2.2.2 with h | h | h | h | h; exact h.2; exact absurd (hf3.symm.trans h.1) (by decide); exact absurd (hf3.symm.trans h.1) (by decide); exact absurd (hf3.symm.trans h.1) (by decide); exact absurd (hf3.symm.trans h.1) (by decide)
  refine lv_iload_n hx hb dX3_layAtom_0 rfl (lv_at hl 1 rfl) ?_
  refine kcS (ans := (nI (30 + n))) C0 hP hS (c_X1_ofAtom l D cI n) (va_cwS 1 hts gX3_layAtom_X1_ofAtom rfl rfl rfl (by decide +kernel) ⟨by dsimp only [rxL, rxF, rxA]; omega, by dsimp only [rxL, rxF, rxA]; omega⟩) rfl hl.1 rfl (Nat.le_of_ble_eq_true rfl) dX3_layAtom_1 ⟨Nat.zero_le _, Nat.zero_le _⟩ (fun H locs hP hS => ?_)
  refine lv_istore (lv' := [(5, .int (nI (30 + n))), (0, .ref (a 20)), (1, .int (nI n)), (2, .int lev), (3, .int cr), (4, .int (nI lv))]) hx hb dX3_layAtom_4 hl (by decide) rfl (fun ls hl => ?_)
  refine lv_aload_n hx hb dX3_layAtom_6 rfl (lv_at hl 1 rfl) ?_
  refine va_get (D := D) (ci := 3) (v := .ref (a 12)) (C := RX3) (T := TX3) (N := 6) hx hb hts hin_X3 hown hK hP 20 rfl rfl 1 (by decide) hf12 (fun _ h9 => h9) rfl dX3_layAtom_7 ?_
  refine lv_iload hx hb dX3_layAtom_10 (lv_at hl 0 rfl) ?_
  refine lv_aload_n hx hb dX3_layAtom_12 rfl (lv_at hl 1 rfl) ?_
  refine va_get (D := D) (ci := 3) (v := .ref (a 18)) (C := RX3) (T := TX3) (N := 6) hx hb hts hin_X3 hown hK hP 20 rfl rfl 2 (by decide) hf21 (fun _ h9 => h9) rfl dX3_layAtom_13 ?_
  refine va_get (D := D) (ci := 2) (v := .int (nI c)) (C := RX2) (T := TX2) (N := 2) hx hb hts hin_X2 hown hK hP 18 rfl rfl 0 (by decide) hf39 (fun _ h9 => h9) rfl dX3_layAtom_16 ?_
  refine kcDv C0 hP hD hS (c_X1_begin l D cI a (vU v 4 (nI c)) r (30 + n) (nI c) (by omega)) (cwV 2 hts gX3_layAtom_X1_begin rfl rfl rfl (by decide +kernel) ⟨by dsimp only [rxL, rxF, rxA]; omega, by dsimp only [rxL, rxF, rxA]; omega⟩) 12 1 rfl rfl rfl hl.1 rfl (Nat.le_of_ble_eq_true rfl) dX3_layAtom_19 ⟨Nat.zero_le _, Nat.zero_le _⟩ (fun H locs hP hD hS => ?_)
  have hP : va_P D vwCl (wX cI a (vU v 4 (nI c)) (bgR r (30 + n) (nI c))) H := hP
  have hD : va_D A (wX cI a (vU v 4 (nI c)) (bgR r (30 + n) (nI c))) := hD
  have hg := bg_f r n (nI c)
  refine lv_aload_n hx hb dX3_layAtom_22 rfl (lv_at hl 1 rfl) ?_
  refine va_get (D := D) (ci := 3) (v := .ref (a 1)) (C := RX3) (T := TX3) (N := 6) hx hb hts hin_X3 hown hK hP 20 rfl rfl 0 (by decide) hf35 (fun _ h9 => h9) rfl dX3_layAtom_23 ?_
  refine va_get (D := D) (ci := 0) (v := .ref (a 3)) (C := RX0) (T := TX0) (N := 14) hx hb hts hin_X0 hown hK hP 1 rfl rfl 4 (by decide) hf65 (fun _ h9 => h9) rfl dX3_layAtom_26 ?_
  refine lv_iload_n hx hb dX3_layAtom_29 rfl (lv_at hl 2 rfl) ?_
  refine ra_ld (f := (r 3)) C0 hP 3 rfl n rfl (by omega) (by decide) dX3_layAtom_30 ?_
  refine lv_eqi a3 ?_
  refine lv_tableOut (tgt := 91) hx hb dX3_layAtom_31 (by decide) (by decide) ?_
  refine lv_aload_n hx hb dX3_layAtom_91 rfl (lv_at hl 1 rfl) ?_
  refine lv_iload_n hx hb dX3_layAtom_92 rfl (lv_at hl 2 rfl) ?_
  refine lv_iload_n hx hb dX3_layAtom_93 rfl (lv_at hl 3 rfl) ?_
  refine kcVv C0 hP hD hS (c_X3_laySign l D cI a v (bgR r (30 + n) (nI c)) q N n c lev (hr.sb hg.1) h9 hnN hf3 hs0 hs1 (by rw [hnu] at hcl2; have h8 : (pSi q n lev 0 0).length = 1 := rfl; omega) hg.2.2.1.2.1 hg.2.2.1.2.2) (cwV 2 hts gX3_layAtom_X3_laySign rfl rfl rfl (by decide +kernel) ⟨by dsimp only [rxL, rxF, rxA]; omega, by dsimp only [rxL, rxF, rxA]; omega⟩) 20 3 rfl rfl rfl hl.1 rfl (Nat.le_of_ble_eq_true rfl) dX3_layAtom_94 ⟨Nat.zero_le _, Nat.zero_le _⟩ (fun u H locs hq hP hD hS => ?_)
  obtain ⟨u_1, rfl⟩ : ∃ z9, z9 = u := ⟨_, rfl⟩
  have hA0 := at_nu hq hg.2.2.2.1
  have hP : va_P D vwCl (wX cI a (vU v 4 (nI (c + (pSi q n lev 0 0).length))) u_1) H := hP
  have hD : va_D A (wX cI a (vU v 4 (nI (c + (pSi q n lev 0 0).length))) u_1) := hD
  have hA1 : ATP q r (r 19) n c (mNu (ML q N d) q n lev cr) (pNu (ML q N d) (PL q N d) q n lev cr 0 0) u_1 := by rw [hmu, hnu]; have h8 := hA0.bg; rw [hg.2.1] at h8; exact h8
  have hw5 : (wX cI a (vU v 4 (nI (c + (pSi q n lev 0 0).length))) u_1) = (wX cI a (vU v 4 (nI (c + (pNu (ML q N d) (PL q N d) q n lev cr 0 0).length))) u_1) := by rw [hnu]
  rw [hw5] at hP hD
  refine lv_aload_n hx hb dX3_layAtom_97 rfl (lv_at hl 1 rfl) ?_
  refine va_get (D := D) (ci := 3) (v := .ref (a 12)) (C := RX3) (T := TX3) (N := 6) hx hb hts hin_X3 hown hK hP 20 rfl rfl 1 (by decide) hf12 (fun _ h9 => h9) rfl dX3_layAtom_98 ?_
  refine va_get (D := D) (ci := 1) (v := .ref (a 17)) (C := RX1) (T := TX1) (N := 5) hx hb hts hin_X1 hown hK hP 12 rfl rfl 4 (by decide) hf93 (fun _ h9 => h9) rfl dX3_layAtom_101 ?_
  refine lv_iload hx hb dX3_layAtom_104 (lv_at hl 0 rfl) ?_
  refine lv_aload_n hx hb dX3_layAtom_106 rfl (lv_at hl 1 rfl) ?_
  refine va_get (D := D) (ci := 3) (v := .ref (a 18)) (C := RX3) (T := TX3) (N := 6) hx hb hts hin_X3 hown hK hP 20 rfl rfl 2 (by decide) hf21 (fun _ h9 => h9) rfl dX3_layAtom_107 ?_
  refine va_get (D := D) (ci := 2) (v := .int (nI (c + (pNu (ML q N d) (PL q N d) q n lev cr 0 0).length))) (C := RX2) (T := TX2) (N := 2) hx hb hts hin_X2 hown hK hP 18 rfl rfl 0 (by decide) hf39 (fun _ h9 => h9) rfl dX3_layAtom_110 ?_
  refine ra_st (f := (u_1 17)) C0 hP hD hS 17 rfl (30 + n) rfl (by omega) (by decide) dX3_layAtom_113 (fun H locs hP hD hS => ?_)
  have hset : ∀ (y4_ : Int32) (g_ : Nat → Int32), (wX cI a (vU v 4 y4_) u_1).set 17 (a 17, .inl (cI, 150, .inl g_)) = (wX cI a (vU v 4 y4_) (rU u_1 17 g_)) := fun _ _ => rfl
  rw [hset] at hP hD
  have hA2x := hA1.en (nI (c + (pNu (ML q N d) (PL q N d) q n lev cr 0 0).length))
  have hA2 : ATP q r (r 19) n c (mNu (ML q N d) q n lev cr) (pNu (ML q N d) (PL q N d) q n lev cr 0 0) (rU u_1 17 (upd (u_1 17) (30 + n) (nI (c + (pNu (ML q N d) (PL q N d) q n lev cr 0 0).length)))) := hA2x.1
  have hA17 : (rU u_1 17 (upd (u_1 17) (30 + n) (nI (c + (pNu (ML q N d) (PL q N d) q n lev cr 0 0).length)))) 17 (30 + n) = nI (c + (pNu (ML q N d) (PL q N d) q n lev cr 0 0).length) := hA2x.2
  have e5 : (rU u_1 17 (upd (u_1 17) (30 + n) (nI (c + (pNu (ML q N d) (PL q N d) q n lev cr 0 0).length)))) 5 n = q 8 n := by rw [hA2.1 5 (by decide), hr.1.2.2.2.1]
  have e6 : (rU u_1 17 (upd (u_1 17) (30 + n) (nI (c + (pNu (ML q N d) (PL q N d) q n lev cr 0 0).length)))) 6 n = q 9 n := by rw [hA2.1 6 (by decide), hr.1.2.2.2.2]
  refine lv_aload_n hx hb dX3_layAtom_114 rfl (lv_at hl 1 rfl) ?_
  refine va_get (D := D) (ci := 3) (v := .ref (a 1)) (C := RX3) (T := TX3) (N := 6) hx hb hts hin_X3 hown hK hP 20 rfl rfl 0 (by decide) hf35 (fun _ h9 => h9) rfl dX3_layAtom_115 ?_
  refine lv_iload_n hx hb dX3_layAtom_118 rfl (lv_at hl 2 rfl) ?_
  refine kcD (ans := ((if (u_1 5) n = -1 then 0 else 1) + (if (u_1 6) n = -1 then 0 else 1))) C0 hP hD hS (c_X0_scriptsOf l D cI a (vU v 4 (nI (c + (pNu (ML q N d) (PL q N d) q n lev cr 0 0).length))) (rU u_1 17 (upd (u_1 17) (30 + n) (nI (c + (pNu (ML q N d) (PL q N d) q n lev cr 0 0).length)))) n hn) (cwV 1 hts gX3_layAtom_X0_scriptsOf rfl rfl rfl (by decide +kernel) ⟨by dsimp only [rxL, rxF, rxA]; omega, by dsimp only [rxL, rxF, rxA]; omega⟩) 1 0 rfl rfl rfl hl.1 rfl (Nat.le_of_ble_eq_true rfl) dX3_layAtom_119 ⟨Nat.zero_le _, Nat.zero_le _⟩ (fun H locs hP hD hS => ?_)
  refine lv_if_le (tgt := 151) hx hb dX3_layAtom_122 (by decide) (fun c_122 => ?_) (fun c_122 => ?_)
  · skip
    have hz9 := (sc_0 _ _).mp c_122
    have hz : q 8 n = -1 ∧ q 9 n = -1 := ⟨e5.symm.trans hz9.1, e6.symm.trans hz9.2⟩
    have hno := at_no (M := ML q N d) (P := PL q N d) (lev := lev) (cr := cr) hz
    have hw5 : (wX cI a (vU v 4 (nI (c + (pNu (ML q N d) (PL q N d) q n lev cr 0 0).length))) (rU u_1 17 (upd (u_1 17) (30 + n) (nI (c + (pNu (ML q N d) (PL q N d) q n lev cr 0 0).length))))) = (wX cI a (vU v 4 (nI (c + (pAt (ML q N d) (PL q N d) q n lev cr 0 0).length))) (rU u_1 17 (upd (u_1 17) (30 + n) (nI (c + (pNu (ML q N d) (PL q N d) q n lev cr 0 0).length))))) := by rw [hno.2]
    rw [hw5] at hP hD
    have hp9 : ATP q r (r 19) n c (mAt (ML q N d) q n lev cr) (pAt (ML q N d) (PL q N d) q n lev cr 0 0) (rU u_1 17 (upd (u_1 17) (30 + n) (nI (c + (pNu (ML q N d) (PL q N d) q n lev cr 0 0).length)))) ∧ (rU u_1 17 (upd (u_1 17) (30 + n) (nI (c + (pNu (ML q N d) (PL q N d) q n lev cr 0 0).length)))) 17 (30 + n) = nI (c + (pAt (ML q N d) (PL q N d) q n lev cr 0 0).length) := by rw [hno.1, hno.2]; exact ⟨hA2, hA17⟩
    exact k_vret C0 (rU u_1 17 (upd (u_1 17) (30 + n) (nI (c + (pNu (ML q N d) (PL q N d) q n lev cr 0 0).length)))) hP hD hS hp9 dX3_layAtom_151
  · skip
    refine lv_aload_n hx hb dX3_layAtom_125 rfl (lv_at hl 1 rfl) ?_
    refine lv_iload_n hx hb dX3_layAtom_126 rfl (lv_at hl 2 rfl) ?_
    refine lv_iload_n hx hb dX3_layAtom_127 rfl (lv_at hl 3 rfl) ?_
    refine lv_iload_n hx hb dX3_layAtom_128 rfl (lv_at hl 4 rfl) ?_
    refine lv_iload hx hb dX3_layAtom_129 (lv_at hl 5 rfl) ?_
    refine kcVv C0 hP hD hS (c_X3_layScripts l D cI a v (rU u_1 17 (upd (u_1 17) (30 + n) (nI (c + (pNu (ML q N d) (PL q N d) q n lev cr 0 0).length)))) q N n k d lv dp sl lev cr c (r 19) hM hT (hr.sb hA2.1) hN hnN hk e2 hd hlv hlev hA2.2.1 hA2.2.2.1 hA2.2.2.2.1 hA17 hcl (fun h => c_122 ((sc_0 _ _).mpr ⟨e5.trans h.1, e6.trans h.2⟩)) hBn (fun h => hB8 h) (fun h => hB9 h)) (cwV 4 hts gX3_layAtom_X3_layScripts rfl rfl rfl (by decide +kernel) ⟨by dsimp only [rxL, rxF, rxA]; omega, by dsimp only [rxL, rxF, rxA]; omega⟩) 20 3 rfl rfl rfl hl.1 rfl (Nat.le_of_ble_eq_true rfl) dX3_layAtom_131 ⟨Nat.zero_le _, Nat.zero_le _⟩ (fun u H locs hq hP hD hS => ?_)
    obtain ⟨u_2, rfl⟩ : ∃ z9, z9 = u := ⟨_, rfl⟩
    have hA3 := hA2.tr hq
    have hP : va_P D vwCl (wX cI a (vU v 4 (nI (c + (pAt (ML q N d) (PL q N d) q n lev cr 0 0).length))) u_2) H := hP
    have hD : va_D A (wX cI a (vU v 4 (nI (c + (pAt (ML q N d) (PL q N d) q n lev cr 0 0).length))) u_2) := hD
    refine lv_aload_n hx hb dX3_layAtom_134 rfl (lv_at hl 1 rfl) ?_
    refine va_get (D := D) (ci := 3) (v := .ref (a 12)) (C := RX3) (T := TX3) (N := 6) hx hb hts hin_X3 hown hK hP 20 rfl rfl 1 (by decide) hf12 (fun _ h9 => h9) rfl dX3_layAtom_135 ?_
    refine va_get (D := D) (ci := 1) (v := .ref (a 17)) (C := RX1) (T := TX1) (N := 5) hx hb hts hin_X1 hown hK hP 12 rfl rfl 4 (by decide) hf93 (fun _ h9 => h9) rfl dX3_layAtom_138 ?_
    refine lv_iload hx hb dX3_layAtom_141 (lv_at hl 0 rfl) ?_
    refine lv_aload_n hx hb dX3_layAtom_143 rfl (lv_at hl 1 rfl) ?_
    refine va_get (D := D) (ci := 3) (v := .ref (a 18)) (C := RX3) (T := TX3) (N := 6) hx hb hts hin_X3 hown hK hP 20 rfl rfl 2 (by decide) hf21 (fun _ h9 => h9) rfl dX3_layAtom_144 ?_
    refine va_get (D := D) (ci := 2) (v := .int (nI (c + (pAt (ML q N d) (PL q N d) q n lev cr 0 0).length))) (C := RX2) (T := TX2) (N := 2) hx hb hts hin_X2 hown hK hP 18 rfl rfl 0 (by decide) hf39 (fun _ h9 => h9) rfl dX3_layAtom_147 ?_
    refine ra_st (f := (u_2 17)) C0 hP hD hS 17 rfl (30 + n) rfl (by omega) (by decide) dX3_layAtom_150 (fun H locs hP hD hS => ?_)
    have hset : ∀ (y4_ : Int32) (g_ : Nat → Int32), (wX cI a (vU v 4 y4_) u_2).set 17 (a 17, .inl (cI, 150, .inl g_)) = (wX cI a (vU v 4 y4_) (rU u_2 17 g_)) := fun _ _ => rfl
    rw [hset] at hP hD
    have hp9 : ATP q r (r 19) n c (mAt (ML q N d) q n lev cr) (pAt (ML q N d) (PL q N d) q n lev cr 0 0) (rU u_2 17 (upd (u_2 17) (30 + n) (nI (c + (pAt (ML q N d) (PL q N d) q n lev cr 0 0).length)))) ∧ (rU u_2 17 (upd (u_2 17) (30 + n) (nI (c + (pAt (ML q N d) (PL q N d) q n lev cr 0 0).length)))) 17 (30 + n) = nI (c + (pAt (ML q N d) (PL q N d) q n lev cr 0 0).length) := hA3.en _
    exact k_vret C0 (rU u_2 17 (upd (u_2 17) (30 + n) (nI (c + (pAt (ML q N d) (PL q N d) q n lev cr 0 0).length)))) hP hD hS hp9 dX3_layAtom_151

set_option maxHeartbeats 1500000 in
set_option maxRecDepth 100000 in
theorem c_X3_layAtom_1 (l : Launch) (D : va_G) (cI : ClassId) (a : Nat → Nat) (v : Nat → Int32) (r : Nat → Nat → Int32) (q : Rw) (N n k d lv : Nat) (dp sl : Nat → Nat) (lev cr : Int32) (c : Nat) (hM : HLL l D cI a q N dp d) (hT : LY q N dp sl) (hr : RQ q N v r) (hN : v 0 = nI N) (hnN : n < N) (hk : k < 30) (e2 : q 2 n = nI k) (hd : 29 ≤ d + dp k) (hlv : lv ≤ dp k) (hlev : lvO lev) (hBD : HBD q N dp d) (hf3 : q 3 n = 1) (hcl : c + (pAt (ML q N d) (PL q N d) q n lev cr 0 0).length ≤ 150) : KV l D cI yX3_layAtom wsX3_layAtom (rxA d) [.ref (a 20), .int (nI n), .int lev, .int cr, .int (nI lv)] (wX cI a (vU v 4 (nI c)) r) (fun u : Rw => wX cI a (vU v 4 (nI (c + (pAt (ML q N d) (PL q N d) q n lev cr 0 0).length))) u) (fun u => ATP q r (r 19) n c (mAt (ML q N d) q n lev cr) (pAt (ML q N d) (PL q N d) q n lev cr 0 0) u ∧ u 17 (30 + n) = nI (c + (pAt (ML q N d) (PL q N d) q n lev cr 0 0).length)) := by
  refine KV.of (cc := cX3_layAtom) (nL := 6) (ret := none) (by decide) rfl (Nat.le_of_ble_eq_true rfl) ?_
  intro pg9 en9 s m args below meth cd9 A ls C0 hP hD hS hl
  have hx := C0.1.1
  have hb := C0.1.2.1
  have hml := C0.1.2.2.1
  have hown : s.vm.findClass RX3 = some m.cls := C0.1.2.2.2.1
  have hts : ∀ w ∈ wsX3_layAtom, w.before args s = true := C0.1.2.2.2.2
  have hK := C0.2.2.2.1
  have hin_X3 : ∀ w ∈ wsX30, w ∈ wsX3_layAtom := fun w h => List.mem_cons_of_mem _ (List.mem_append_left _ (List.mem_append_left _ (List.mem_append_left _ (List.mem_append_right _ h))))
  have hf12 : (Cond.fieldLink RX3 12 "FormulaLists$Layout" "boxes" "LFormulaLists$Boxes;").before args s = true := hts _ (by decide +kernel)
  have hf21 : (Cond.fieldLink RX3 21 "FormulaLists$Layout" "items" "LFormulaLists$Items;").before args s = true := hts _ (by decide +kernel)
  have hin_X2 : ∀ w ∈ wsX20, w ∈ wsX3_layAtom := fun w h => List.mem_cons_of_mem _ (List.mem_append_left _ (List.mem_append_left _ (List.mem_append_right _ h)))
  have hf39 : (Cond.fieldLink RX3 39 "FormulaLists$Items" "count" "I").before args s = true := hts _ (by decide +kernel)
  have hf35 : (Cond.fieldLink RX3 35 "FormulaLists$Layout" "book" "LFormulaLists$Book;").before args s = true := hts _ (by decide +kernel)
  have hin_X0 : ∀ w ∈ wsX00, w ∈ wsX3_layAtom := fun w h => List.mem_cons_of_mem _ (List.mem_append_left _ (List.mem_append_right _ h))
  have hf65 : (Cond.fieldLink RX3 65 "FormulaLists$Book" "form" "[I").before args s = true := hts _ (by decide +kernel)
  have hin_X1 : ∀ w ∈ wsX10, w ∈ wsX3_layAtom := fun w h => List.mem_cons_of_mem _ (List.mem_append_right _ h)
  have hf93 : (Cond.fieldLink RX3 93 "FormulaLists$Boxes" "end" "[I").before args s = true := hts _ (by decide +kernel)
  have hl : lv_has ls 6 [(0, .ref (a 20)), (1, .int (nI n)), (2, .int lev), (3, .int cr), (4, .int (nI lv))] := hl
  have hP : va_P D vwCl (wX cI a (vU v 4 (nI c)) r) s.heap := hP
  have h9 := hT.1
  have hn : n < 120 := by omega
  have hnd := hT.2.2.2.2 n hnN
  have a3 : r 3 n = 1 := by rw [hr.1.2.1]; exact hf3
  have hnu : (pNu (ML q N d) (PL q N d) q n lev cr 0 0) = (pFr (ML q N d) (PL q N d) q n lev cr 0 0) := by unfold pNu; rw [if_neg (by rw [hf3]; decide), if_pos hf3]
  have hmu : mNu (ML q N d) q n lev cr = (mFr (ML q N d) q n lev cr) := by unfold mNu; rw [if_neg (by rw [hf3]; decide), if_pos hf3]
  have hcl2 := hcl
  rw [at_len] at hcl2
  have hBn := nu_b (lev := lev) (cr := cr) hT hBD hnN hk e2 hd hlev (by rw [hf3]; decide)
  have hB8 : ¬ q 8 n = -1 → TB (ML q N d (q 8 n) (scl lev) cr) 10000000 := fun h => by obtain ⟨j, hj, e⟩ := hnd.2.1.resolve_left h; obtain ⟨i1, i2, i3⟩ := fl_dp hT hnN hk e2 (show FLD q n 2 j from ⟨hj, Or.inr (Or.inr (Or.inl ⟨rfl, e⟩))⟩); rw [e]; exact hBD j _ _ hj (by omega) scl_o
  have hB9 : ¬ q 9 n = -1 → TB (ML q N d (q 9 n) (scl lev) 1) 10000000 := fun h => by obtain ⟨j, hj, e⟩ := hnd.2.2.1.resolve_left h; obtain ⟨i1, i2, i3⟩ := fl_dp hT hnN hk e2 (show FLD q n 3 j from ⟨hj, Or.inr (Or.inr (Or.inr (Or.inl ⟨rfl, e⟩)))⟩); rw [e]; exact hBD j _ _ hj (by omega) scl_o
  refine lv_iload_n hx hb dX3_layAtom_0 rfl (lv_at hl 1 rfl) ?_
  refine kcS (ans := (nI (30 + n))) C0 hP hS (c_X1_ofAtom l D cI n) (va_cwS 1 hts gX3_layAtom_X1_ofAtom rfl rfl rfl (by decide +kernel) ⟨by dsimp only [rxL, rxF, rxA]; omega, by dsimp only [rxL, rxF, rxA]; omega⟩) rfl hl.1 rfl (Nat.le_of_ble_eq_true rfl) dX3_layAtom_1 ⟨Nat.zero_le _, Nat.zero_le _⟩ (fun H locs hP hS => ?_)
  refine lv_istore (lv' := [(5, .int (nI (30 + n))), (0, .ref (a 20)), (1, .int (nI n)), (2, .int lev), (3, .int cr), (4, .int (nI lv))]) hx hb dX3_layAtom_4 hl (by decide) rfl (fun ls hl => ?_)
  refine lv_aload_n hx hb dX3_layAtom_6 rfl (lv_at hl 1 rfl) ?_
  refine va_get (D := D) (ci := 3) (v := .ref (a 12)) (C := RX3) (T := TX3) (N := 6) hx hb hts hin_X3 hown hK hP 20 rfl rfl 1 (by decide) hf12 (fun _ h9 => h9) rfl dX3_layAtom_7 ?_
  refine lv_iload hx hb dX3_layAtom_10 (lv_at hl 0 rfl) ?_
  refine lv_aload_n hx hb dX3_layAtom_12 rfl (lv_at hl 1 rfl) ?_
  refine va_get (D := D) (ci := 3) (v := .ref (a 18)) (C := RX3) (T := TX3) (N := 6) hx hb hts hin_X3 hown hK hP 20 rfl rfl 2 (by decide) hf21 (fun _ h9 => h9) rfl dX3_layAtom_13 ?_
  refine va_get (D := D) (ci := 2) (v := .int (nI c)) (C := RX2) (T := TX2) (N := 2) hx hb hts hin_X2 hown hK hP 18 rfl rfl 0 (by decide) hf39 (fun _ h9 => h9) rfl dX3_layAtom_16 ?_
  refine kcDv C0 hP hD hS (c_X1_begin l D cI a (vU v 4 (nI c)) r (30 + n) (nI c) (by omega)) (cwV 2 hts gX3_layAtom_X1_begin rfl rfl rfl (by decide +kernel) ⟨by dsimp only [rxL, rxF, rxA]; omega, by dsimp only [rxL, rxF, rxA]; omega⟩) 12 1 rfl rfl rfl hl.1 rfl (Nat.le_of_ble_eq_true rfl) dX3_layAtom_19 ⟨Nat.zero_le _, Nat.zero_le _⟩ (fun H locs hP hD hS => ?_)
  have hP : va_P D vwCl (wX cI a (vU v 4 (nI c)) (bgR r (30 + n) (nI c))) H := hP
  have hD : va_D A (wX cI a (vU v 4 (nI c)) (bgR r (30 + n) (nI c))) := hD
  have hg := bg_f r n (nI c)
  refine lv_aload_n hx hb dX3_layAtom_22 rfl (lv_at hl 1 rfl) ?_
  refine va_get (D := D) (ci := 3) (v := .ref (a 1)) (C := RX3) (T := TX3) (N := 6) hx hb hts hin_X3 hown hK hP 20 rfl rfl 0 (by decide) hf35 (fun _ h9 => h9) rfl dX3_layAtom_23 ?_
  refine va_get (D := D) (ci := 0) (v := .ref (a 3)) (C := RX0) (T := TX0) (N := 14) hx hb hts hin_X0 hown hK hP 1 rfl rfl 4 (by decide) hf65 (fun _ h9 => h9) rfl dX3_layAtom_26 ?_
  refine lv_iload_n hx hb dX3_layAtom_29 rfl (lv_at hl 2 rfl) ?_
  refine ra_ld (f := (r 3)) C0 hP 3 rfl n rfl (by omega) (by decide) dX3_layAtom_30 ?_
  refine lv_eqi a3 ?_
  refine lv_tableIn (off := 25) (tgt := 56) hx hb dX3_layAtom_31 (by decide) (by decide) rfl (by decide) ?_
  refine lv_aload_n hx hb dX3_layAtom_56 rfl (lv_at hl 1 rfl) ?_
  refine lv_iload_n hx hb dX3_layAtom_57 rfl (lv_at hl 2 rfl) ?_
  refine lv_iload_n hx hb dX3_layAtom_58 rfl (lv_at hl 3 rfl) ?_
  refine lv_iload_n hx hb dX3_layAtom_59 rfl (lv_at hl 4 rfl) ?_
  refine lv_iload hx hb dX3_layAtom_60 (lv_at hl 5 rfl) ?_
  refine kcVv C0 hP hD hS (c_X3_layFraction l D cI a v (bgR r (30 + n) (nI c)) q N n k d lv dp sl lev cr c hM hT (hr.sb hg.1) hN hnN hk e2 hd hlv hlev hf3 hg.2.2.1 hg.2.2.2.1 hg.2.2.2.2.1 (by rw [hnu] at hcl2; omega)) (cwV 4 hts gX3_layAtom_X3_layFraction rfl rfl rfl (by decide +kernel) ⟨by dsimp only [rxL, rxF, rxA]; omega, by dsimp only [rxL, rxF, rxA]; omega⟩) 20 3 rfl rfl rfl hl.1 rfl (Nat.le_of_ble_eq_true rfl) dX3_layAtom_62 ⟨Nat.zero_le _, Nat.zero_le _⟩ (fun u H locs hq hP hD hS => ?_)
  obtain ⟨u_1, rfl⟩ : ∃ z9, z9 = u := ⟨_, rfl⟩
  have hA0 := hq
  have hP : va_P D vwCl (wX cI a (vU v 4 (nI (c + (pFr (ML q N d) (PL q N d) q n lev cr 0 0).length))) u_1) H := hP
  have hD : va_D A (wX cI a (vU v 4 (nI (c + (pFr (ML q N d) (PL q N d) q n lev cr 0 0).length))) u_1) := hD
  refine lv_goto (tgt := 97) hx hb dX3_layAtom_65 (by decide) ?_
  have hA1 : ATP q r (r 19) n c (mNu (ML q N d) q n lev cr) (pNu (ML q N d) (PL q N d) q n lev cr 0 0) u_1 := by rw [hmu, hnu]; have h8 := hA0.bg; rw [hg.2.1] at h8; exact h8
  have hw5 : (wX cI a (vU v 4 (nI (c + (pFr (ML q N d) (PL q N d) q n lev cr 0 0).length))) u_1) = (wX cI a (vU v 4 (nI (c + (pNu (ML q N d) (PL q N d) q n lev cr 0 0).length))) u_1) := by rw [hnu]
  rw [hw5] at hP hD
  refine lv_aload_n hx hb dX3_layAtom_97 rfl (lv_at hl 1 rfl) ?_
  refine va_get (D := D) (ci := 3) (v := .ref (a 12)) (C := RX3) (T := TX3) (N := 6) hx hb hts hin_X3 hown hK hP 20 rfl rfl 1 (by decide) hf12 (fun _ h9 => h9) rfl dX3_layAtom_98 ?_
  refine va_get (D := D) (ci := 1) (v := .ref (a 17)) (C := RX1) (T := TX1) (N := 5) hx hb hts hin_X1 hown hK hP 12 rfl rfl 4 (by decide) hf93 (fun _ h9 => h9) rfl dX3_layAtom_101 ?_
  refine lv_iload hx hb dX3_layAtom_104 (lv_at hl 0 rfl) ?_
  refine lv_aload_n hx hb dX3_layAtom_106 rfl (lv_at hl 1 rfl) ?_
  refine va_get (D := D) (ci := 3) (v := .ref (a 18)) (C := RX3) (T := TX3) (N := 6) hx hb hts hin_X3 hown hK hP 20 rfl rfl 2 (by decide) hf21 (fun _ h9 => h9) rfl dX3_layAtom_107 ?_
  refine va_get (D := D) (ci := 2) (v := .int (nI (c + (pNu (ML q N d) (PL q N d) q n lev cr 0 0).length))) (C := RX2) (T := TX2) (N := 2) hx hb hts hin_X2 hown hK hP 18 rfl rfl 0 (by decide) hf39 (fun _ h9 => h9) rfl dX3_layAtom_110 ?_
  refine ra_st (f := (u_1 17)) C0 hP hD hS 17 rfl (30 + n) rfl (by omega) (by decide) dX3_layAtom_113 (fun H locs hP hD hS => ?_)
  have hset : ∀ (y4_ : Int32) (g_ : Nat → Int32), (wX cI a (vU v 4 y4_) u_1).set 17 (a 17, .inl (cI, 150, .inl g_)) = (wX cI a (vU v 4 y4_) (rU u_1 17 g_)) := fun _ _ => rfl
  rw [hset] at hP hD
  have hA2x := hA1.en (nI (c + (pNu (ML q N d) (PL q N d) q n lev cr 0 0).length))
  have hA2 : ATP q r (r 19) n c (mNu (ML q N d) q n lev cr) (pNu (ML q N d) (PL q N d) q n lev cr 0 0) (rU u_1 17 (upd (u_1 17) (30 + n) (nI (c + (pNu (ML q N d) (PL q N d) q n lev cr 0 0).length)))) := hA2x.1
  have hA17 : (rU u_1 17 (upd (u_1 17) (30 + n) (nI (c + (pNu (ML q N d) (PL q N d) q n lev cr 0 0).length)))) 17 (30 + n) = nI (c + (pNu (ML q N d) (PL q N d) q n lev cr 0 0).length) := hA2x.2
  have e5 : (rU u_1 17 (upd (u_1 17) (30 + n) (nI (c + (pNu (ML q N d) (PL q N d) q n lev cr 0 0).length)))) 5 n = q 8 n := by rw [hA2.1 5 (by decide), hr.1.2.2.2.1]
  have e6 : (rU u_1 17 (upd (u_1 17) (30 + n) (nI (c + (pNu (ML q N d) (PL q N d) q n lev cr 0 0).length)))) 6 n = q 9 n := by rw [hA2.1 6 (by decide), hr.1.2.2.2.2]
  refine lv_aload_n hx hb dX3_layAtom_114 rfl (lv_at hl 1 rfl) ?_
  refine va_get (D := D) (ci := 3) (v := .ref (a 1)) (C := RX3) (T := TX3) (N := 6) hx hb hts hin_X3 hown hK hP 20 rfl rfl 0 (by decide) hf35 (fun _ h9 => h9) rfl dX3_layAtom_115 ?_
  refine lv_iload_n hx hb dX3_layAtom_118 rfl (lv_at hl 2 rfl) ?_
  refine kcD (ans := ((if (u_1 5) n = -1 then 0 else 1) + (if (u_1 6) n = -1 then 0 else 1))) C0 hP hD hS (c_X0_scriptsOf l D cI a (vU v 4 (nI (c + (pNu (ML q N d) (PL q N d) q n lev cr 0 0).length))) (rU u_1 17 (upd (u_1 17) (30 + n) (nI (c + (pNu (ML q N d) (PL q N d) q n lev cr 0 0).length)))) n hn) (cwV 1 hts gX3_layAtom_X0_scriptsOf rfl rfl rfl (by decide +kernel) ⟨by dsimp only [rxL, rxF, rxA]; omega, by dsimp only [rxL, rxF, rxA]; omega⟩) 1 0 rfl rfl rfl hl.1 rfl (Nat.le_of_ble_eq_true rfl) dX3_layAtom_119 ⟨Nat.zero_le _, Nat.zero_le _⟩ (fun H locs hP hD hS => ?_)
  refine lv_if_le (tgt := 151) hx hb dX3_layAtom_122 (by decide) (fun c_122 => ?_) (fun c_122 => ?_)
  · skip
    have hz9 := (sc_0 _ _).mp c_122
    have hz : q 8 n = -1 ∧ q 9 n = -1 := ⟨e5.symm.trans hz9.1, e6.symm.trans hz9.2⟩
    have hno := at_no (M := ML q N d) (P := PL q N d) (lev := lev) (cr := cr) hz
    have hw5 : (wX cI a (vU v 4 (nI (c + (pNu (ML q N d) (PL q N d) q n lev cr 0 0).length))) (rU u_1 17 (upd (u_1 17) (30 + n) (nI (c + (pNu (ML q N d) (PL q N d) q n lev cr 0 0).length))))) = (wX cI a (vU v 4 (nI (c + (pAt (ML q N d) (PL q N d) q n lev cr 0 0).length))) (rU u_1 17 (upd (u_1 17) (30 + n) (nI (c + (pNu (ML q N d) (PL q N d) q n lev cr 0 0).length))))) := by rw [hno.2]
    rw [hw5] at hP hD
    have hp9 : ATP q r (r 19) n c (mAt (ML q N d) q n lev cr) (pAt (ML q N d) (PL q N d) q n lev cr 0 0) (rU u_1 17 (upd (u_1 17) (30 + n) (nI (c + (pNu (ML q N d) (PL q N d) q n lev cr 0 0).length)))) ∧ (rU u_1 17 (upd (u_1 17) (30 + n) (nI (c + (pNu (ML q N d) (PL q N d) q n lev cr 0 0).length)))) 17 (30 + n) = nI (c + (pAt (ML q N d) (PL q N d) q n lev cr 0 0).length) := by rw [hno.1, hno.2]; exact ⟨hA2, hA17⟩
    exact k_vret C0 (rU u_1 17 (upd (u_1 17) (30 + n) (nI (c + (pNu (ML q N d) (PL q N d) q n lev cr 0 0).length)))) hP hD hS hp9 dX3_layAtom_151
  · skip
    refine lv_aload_n hx hb dX3_layAtom_125 rfl (lv_at hl 1 rfl) ?_
    refine lv_iload_n hx hb dX3_layAtom_126 rfl (lv_at hl 2 rfl) ?_
    refine lv_iload_n hx hb dX3_layAtom_127 rfl (lv_at hl 3 rfl) ?_
    refine lv_iload_n hx hb dX3_layAtom_128 rfl (lv_at hl 4 rfl) ?_
    refine lv_iload hx hb dX3_layAtom_129 (lv_at hl 5 rfl) ?_
    refine kcVv C0 hP hD hS (c_X3_layScripts l D cI a v (rU u_1 17 (upd (u_1 17) (30 + n) (nI (c + (pNu (ML q N d) (PL q N d) q n lev cr 0 0).length)))) q N n k d lv dp sl lev cr c (r 19) hM hT (hr.sb hA2.1) hN hnN hk e2 hd hlv hlev hA2.2.1 hA2.2.2.1 hA2.2.2.2.1 hA17 hcl (fun h => c_122 ((sc_0 _ _).mpr ⟨e5.trans h.1, e6.trans h.2⟩)) hBn (fun h => hB8 h) (fun h => hB9 h)) (cwV 4 hts gX3_layAtom_X3_layScripts rfl rfl rfl (by decide +kernel) ⟨by dsimp only [rxL, rxF, rxA]; omega, by dsimp only [rxL, rxF, rxA]; omega⟩) 20 3 rfl rfl rfl hl.1 rfl (Nat.le_of_ble_eq_true rfl) dX3_layAtom_131 ⟨Nat.zero_le _, Nat.zero_le _⟩ (fun u H locs hq hP hD hS => ?_)
    obtain ⟨u_2, rfl⟩ : ∃ z9, z9 = u := ⟨_, rfl⟩
    have hA3 := hA2.tr hq
    have hP : va_P D vwCl (wX cI a (vU v 4 (nI (c + (pAt (ML q N d) (PL q N d) q n lev cr 0 0).length))) u_2) H := hP
    have hD : va_D A (wX cI a (vU v 4 (nI (c + (pAt (ML q N d) (PL q N d) q n lev cr 0 0).length))) u_2) := hD
    refine lv_aload_n hx hb dX3_layAtom_134 rfl (lv_at hl 1 rfl) ?_
    refine va_get (D := D) (ci := 3) (v := .ref (a 12)) (C := RX3) (T := TX3) (N := 6) hx hb hts hin_X3 hown hK hP 20 rfl rfl 1 (by decide) hf12 (fun _ h9 => h9) rfl dX3_layAtom_135 ?_
    refine va_get (D := D) (ci := 1) (v := .ref (a 17)) (C := RX1) (T := TX1) (N := 5) hx hb hts hin_X1 hown hK hP 12 rfl rfl 4 (by decide) hf93 (fun _ h9 => h9) rfl dX3_layAtom_138 ?_
    refine lv_iload hx hb dX3_layAtom_141 (lv_at hl 0 rfl) ?_
    refine lv_aload_n hx hb dX3_layAtom_143 rfl (lv_at hl 1 rfl) ?_
    refine va_get (D := D) (ci := 3) (v := .ref (a 18)) (C := RX3) (T := TX3) (N := 6) hx hb hts hin_X3 hown hK hP 20 rfl rfl 2 (by decide) hf21 (fun _ h9 => h9) rfl dX3_layAtom_144 ?_
    refine va_get (D := D) (ci := 2) (v := .int (nI (c + (pAt (ML q N d) (PL q N d) q n lev cr 0 0).length))) (C := RX2) (T := TX2) (N := 2) hx hb hts hin_X2 hown hK hP 18 rfl rfl 0 (by decide) hf39 (fun _ h9 => h9) rfl dX3_layAtom_147 ?_
    refine ra_st (f := (u_2 17)) C0 hP hD hS 17 rfl (30 + n) rfl (by omega) (by decide) dX3_layAtom_150 (fun H locs hP hD hS => ?_)
    have hset : ∀ (y4_ : Int32) (g_ : Nat → Int32), (wX cI a (vU v 4 y4_) u_2).set 17 (a 17, .inl (cI, 150, .inl g_)) = (wX cI a (vU v 4 y4_) (rU u_2 17 g_)) := fun _ _ => rfl
    rw [hset] at hP hD
    have hp9 : ATP q r (r 19) n c (mAt (ML q N d) q n lev cr) (pAt (ML q N d) (PL q N d) q n lev cr 0 0) (rU u_2 17 (upd (u_2 17) (30 + n) (nI (c + (pAt (ML q N d) (PL q N d) q n lev cr 0 0).length)))) ∧ (rU u_2 17 (upd (u_2 17) (30 + n) (nI (c + (pAt (ML q N d) (PL q N d) q n lev cr 0 0).length)))) 17 (30 + n) = nI (c + (pAt (ML q N d) (PL q N d) q n lev cr 0 0).length) := hA3.en _
    exact k_vret C0 (rU u_2 17 (upd (u_2 17) (30 + n) (nI (c + (pAt (ML q N d) (PL q N d) q n lev cr 0 0).length)))) hP hD hS hp9 dX3_layAtom_151

set_option maxHeartbeats 1500000 in
set_option maxRecDepth 100000 in
theorem c_X3_layAtom_2 (l : Launch) (D : va_G) (cI : ClassId) (a : Nat → Nat) (v : Nat → Int32) (r : Nat → Nat → Int32) (q : Rw) (N n k d lv : Nat) (dp sl : Nat → Nat) (lev cr : Int32) (c : Nat) (hM : HLL l D cI a q N dp d) (hT : LY q N dp sl) (hr : RQ q N v r) (hN : v 0 = nI N) (hnN : n < N) (hk : k < 30) (e2 : q 2 n = nI k) (hd : 29 ≤ d + dp k) (hlv : lv ≤ dp k) (hlev : lvO lev) (hBD : HBD q N dp d) (hf3 : q 3 n = 2) (hcl : c + (pAt (ML q N d) (PL q N d) q n lev cr 0 0).length ≤ 150) : KV l D cI yX3_layAtom wsX3_layAtom (rxA d) [.ref (a 20), .int (nI n), .int lev, .int cr, .int (nI lv)] (wX cI a (vU v 4 (nI c)) r) (fun u : Rw => wX cI a (vU v 4 (nI (c + (pAt (ML q N d) (PL q N d) q n lev cr 0 0).length))) u) (fun u => ATP q r (r 19) n c (mAt (ML q N d) q n lev cr) (pAt (ML q N d) (PL q N d) q n lev cr 0 0) u ∧ u 17 (30 + n) = nI (c + (pAt (ML q N d) (PL q N d) q n lev cr 0 0).length)) := by
  refine KV.of (cc := cX3_layAtom) (nL := 6) (ret := none) (by decide) rfl (Nat.le_of_ble_eq_true rfl) ?_
  intro pg9 en9 s m args below meth cd9 A ls C0 hP hD hS hl
  have hx := C0.1.1
  have hb := C0.1.2.1
  have hml := C0.1.2.2.1
  have hown : s.vm.findClass RX3 = some m.cls := C0.1.2.2.2.1
  have hts : ∀ w ∈ wsX3_layAtom, w.before args s = true := C0.1.2.2.2.2
  have hK := C0.2.2.2.1
  have hin_X3 : ∀ w ∈ wsX30, w ∈ wsX3_layAtom := fun w h => List.mem_cons_of_mem _ (List.mem_append_left _ (List.mem_append_left _ (List.mem_append_left _ (List.mem_append_right _ h))))
  have hf12 : (Cond.fieldLink RX3 12 "FormulaLists$Layout" "boxes" "LFormulaLists$Boxes;").before args s = true := hts _ (by decide +kernel)
  have hf21 : (Cond.fieldLink RX3 21 "FormulaLists$Layout" "items" "LFormulaLists$Items;").before args s = true := hts _ (by decide +kernel)
  have hin_X2 : ∀ w ∈ wsX20, w ∈ wsX3_layAtom := fun w h => List.mem_cons_of_mem _ (List.mem_append_left _ (List.mem_append_left _ (List.mem_append_right _ h)))
  have hf39 : (Cond.fieldLink RX3 39 "FormulaLists$Items" "count" "I").before args s = true := hts _ (by decide +kernel)
  have hf35 : (Cond.fieldLink RX3 35 "FormulaLists$Layout" "book" "LFormulaLists$Book;").before args s = true := hts _ (by decide +kernel)
  have hin_X0 : ∀ w ∈ wsX00, w ∈ wsX3_layAtom := fun w h => List.mem_cons_of_mem _ (List.mem_append_left _ (List.mem_append_right _ h))
  have hf65 : (Cond.fieldLink RX3 65 "FormulaLists$Book" "form" "[I").before args s = true := hts _ (by decide +kernel)
  have hin_X1 : ∀ w ∈ wsX10, w ∈ wsX3_layAtom := fun w h => List.mem_cons_of_mem _ (List.mem_append_right _ h)
  have hf93 : (Cond.fieldLink RX3 93 "FormulaLists$Boxes" "end" "[I").before args s = true := hts _ (by decide +kernel)
  have hl : lv_has ls 6 [(0, .ref (a 20)), (1, .int (nI n)), (2, .int lev), (3, .int cr), (4, .int (nI lv))] := hl
  have hP : va_P D vwCl (wX cI a (vU v 4 (nI c)) r) s.heap := hP
  have h9 := hT.1
  have hn : n < 120 := by omega
  have hnd := hT.2.2.2.2 n hnN
  have a3 : r 3 n = 2 := by rw [hr.1.2.1]; exact hf3
  have hnu : (pNu (ML q N d) (PL q N d) q n lev cr 0 0) = (pFe (ML q N d) (PL q N d) q n lev cr 0 0) := by unfold pNu; rw [if_neg (by rw [hf3]; decide), if_neg (by rw [hf3]; decide), if_pos hf3]
  have hmu : mNu (ML q N d) q n lev cr = (mFe (ML q N d) q n lev cr) := by unfold mNu; rw [if_neg (by rw [hf3]; decide), if_neg (by rw [hf3]; decide), if_pos hf3]
  have hcl2 := hcl
  rw [at_len] at hcl2
  have hBn := nu_b (lev := lev) (cr := cr) hT hBD hnN hk e2 hd hlev (by rw [hf3]; decide)
  have hB8 : ¬ q 8 n = -1 → TB (ML q N d (q 8 n) (scl lev) cr) 10000000 := fun h => by obtain ⟨j, hj, e⟩ := hnd.2.1.resolve_left h; obtain ⟨i1, i2, i3⟩ := fl_dp hT hnN hk e2 (show FLD q n 2 j from ⟨hj, Or.inr (Or.inr (Or.inl ⟨rfl, e⟩))⟩); rw [e]; exact hBD j _ _ hj (by omega) scl_o
  have hB9 : ¬ q 9 n = -1 → TB (ML q N d (q 9 n) (scl lev) 1) 10000000 := fun h => by obtain ⟨j, hj, e⟩ := hnd.2.2.1.resolve_left h; obtain ⟨i1, i2, i3⟩ := fl_dp hT hnN hk e2 (show FLD q n 3 j from ⟨hj, Or.inr (Or.inr (Or.inr (Or.inl ⟨rfl, e⟩)))⟩); rw [e]; exact hBD j _ _ hj (by omega) scl_o
  refine lv_iload_n hx hb dX3_layAtom_0 rfl (lv_at hl 1 rfl) ?_
  refine kcS (ans := (nI (30 + n))) C0 hP hS (c_X1_ofAtom l D cI n) (va_cwS 1 hts gX3_layAtom_X1_ofAtom rfl rfl rfl (by decide +kernel) ⟨by dsimp only [rxL, rxF, rxA]; omega, by dsimp only [rxL, rxF, rxA]; omega⟩) rfl hl.1 rfl (Nat.le_of_ble_eq_true rfl) dX3_layAtom_1 ⟨Nat.zero_le _, Nat.zero_le _⟩ (fun H locs hP hS => ?_)
  refine lv_istore (lv' := [(5, .int (nI (30 + n))), (0, .ref (a 20)), (1, .int (nI n)), (2, .int lev), (3, .int cr), (4, .int (nI lv))]) hx hb dX3_layAtom_4 hl (by decide) rfl (fun ls hl => ?_)
  refine lv_aload_n hx hb dX3_layAtom_6 rfl (lv_at hl 1 rfl) ?_
  refine va_get (D := D) (ci := 3) (v := .ref (a 12)) (C := RX3) (T := TX3) (N := 6) hx hb hts hin_X3 hown hK hP 20 rfl rfl 1 (by decide) hf12 (fun _ h9 => h9) rfl dX3_layAtom_7 ?_
  refine lv_iload hx hb dX3_layAtom_10 (lv_at hl 0 rfl) ?_
  refine lv_aload_n hx hb dX3_layAtom_12 rfl (lv_at hl 1 rfl) ?_
  refine va_get (D := D) (ci := 3) (v := .ref (a 18)) (C := RX3) (T := TX3) (N := 6) hx hb hts hin_X3 hown hK hP 20 rfl rfl 2 (by decide) hf21 (fun _ h9 => h9) rfl dX3_layAtom_13 ?_
  refine va_get (D := D) (ci := 2) (v := .int (nI c)) (C := RX2) (T := TX2) (N := 2) hx hb hts hin_X2 hown hK hP 18 rfl rfl 0 (by decide) hf39 (fun _ h9 => h9) rfl dX3_layAtom_16 ?_
  refine kcDv C0 hP hD hS (c_X1_begin l D cI a (vU v 4 (nI c)) r (30 + n) (nI c) (by omega)) (cwV 2 hts gX3_layAtom_X1_begin rfl rfl rfl (by decide +kernel) ⟨by dsimp only [rxL, rxF, rxA]; omega, by dsimp only [rxL, rxF, rxA]; omega⟩) 12 1 rfl rfl rfl hl.1 rfl (Nat.le_of_ble_eq_true rfl) dX3_layAtom_19 ⟨Nat.zero_le _, Nat.zero_le _⟩ (fun H locs hP hD hS => ?_)
  have hP : va_P D vwCl (wX cI a (vU v 4 (nI c)) (bgR r (30 + n) (nI c))) H := hP
  have hD : va_D A (wX cI a (vU v 4 (nI c)) (bgR r (30 + n) (nI c))) := hD
  have hg := bg_f r n (nI c)
  refine lv_aload_n hx hb dX3_layAtom_22 rfl (lv_at hl 1 rfl) ?_
  refine va_get (D := D) (ci := 3) (v := .ref (a 1)) (C := RX3) (T := TX3) (N := 6) hx hb hts hin_X3 hown hK hP 20 rfl rfl 0 (by decide) hf35 (fun _ h9 => h9) rfl dX3_layAtom_23 ?_
  refine va_get (D := D) (ci := 0) (v := .ref (a 3)) (C := RX0) (T := TX0) (N := 14) hx hb hts hin_X0 hown hK hP 1 rfl rfl 4 (by decide) hf65 (fun _ h9 => h9) rfl dX3_layAtom_26 ?_
  refine lv_iload_n hx hb dX3_layAtom_29 rfl (lv_at hl 2 rfl) ?_
  refine ra_ld (f := (r 3)) C0 hP 3 rfl n rfl (by omega) (by decide) dX3_layAtom_30 ?_
  refine lv_eqi a3 ?_
  refine lv_tableIn (off := 37) (tgt := 68) hx hb dX3_layAtom_31 (by decide) (by decide) rfl (by decide) ?_
  refine lv_aload_n hx hb dX3_layAtom_68 rfl (lv_at hl 1 rfl) ?_
  refine lv_iload_n hx hb dX3_layAtom_69 rfl (lv_at hl 2 rfl) ?_
  refine lv_iload_n hx hb dX3_layAtom_70 rfl (lv_at hl 3 rfl) ?_
  refine lv_iload_n hx hb dX3_layAtom_71 rfl (lv_at hl 4 rfl) ?_
  refine lv_iload hx hb dX3_layAtom_72 (lv_at hl 5 rfl) ?_
  refine kcVv C0 hP hD hS (c_X3_layFence l D cI a v (bgR r (30 + n) (nI c)) q N n k d lv dp sl lev cr c hM hT (hr.sb hg.1) hN hnN hk e2 hd hlv hlev hf3 hg.2.2.1 hg.2.2.2.1 hg.2.2.2.2.1 (by rw [hnu] at hcl2; omega)) (cwV 4 hts gX3_layAtom_X3_layFence rfl rfl rfl (by decide +kernel) ⟨by dsimp only [rxL, rxF, rxA]; omega, by dsimp only [rxL, rxF, rxA]; omega⟩) 20 3 rfl rfl rfl hl.1 rfl (Nat.le_of_ble_eq_true rfl) dX3_layAtom_74 ⟨Nat.zero_le _, Nat.zero_le _⟩ (fun u H locs hq hP hD hS => ?_)
  obtain ⟨u_1, rfl⟩ : ∃ z9, z9 = u := ⟨_, rfl⟩
  have hA0 := hq
  have hP : va_P D vwCl (wX cI a (vU v 4 (nI (c + (pFe (ML q N d) (PL q N d) q n lev cr 0 0).length))) u_1) H := hP
  have hD : va_D A (wX cI a (vU v 4 (nI (c + (pFe (ML q N d) (PL q N d) q n lev cr 0 0).length))) u_1) := hD
  refine lv_goto (tgt := 97) hx hb dX3_layAtom_77 (by decide) ?_
  have hA1 : ATP q r (r 19) n c (mNu (ML q N d) q n lev cr) (pNu (ML q N d) (PL q N d) q n lev cr 0 0) u_1 := by rw [hmu, hnu]; have h8 := hA0.bg; rw [hg.2.1] at h8; exact h8
  have hw5 : (wX cI a (vU v 4 (nI (c + (pFe (ML q N d) (PL q N d) q n lev cr 0 0).length))) u_1) = (wX cI a (vU v 4 (nI (c + (pNu (ML q N d) (PL q N d) q n lev cr 0 0).length))) u_1) := by rw [hnu]
  rw [hw5] at hP hD
  refine lv_aload_n hx hb dX3_layAtom_97 rfl (lv_at hl 1 rfl) ?_
  refine va_get (D := D) (ci := 3) (v := .ref (a 12)) (C := RX3) (T := TX3) (N := 6) hx hb hts hin_X3 hown hK hP 20 rfl rfl 1 (by decide) hf12 (fun _ h9 => h9) rfl dX3_layAtom_98 ?_
  refine va_get (D := D) (ci := 1) (v := .ref (a 17)) (C := RX1) (T := TX1) (N := 5) hx hb hts hin_X1 hown hK hP 12 rfl rfl 4 (by decide) hf93 (fun _ h9 => h9) rfl dX3_layAtom_101 ?_
  refine lv_iload hx hb dX3_layAtom_104 (lv_at hl 0 rfl) ?_
  refine lv_aload_n hx hb dX3_layAtom_106 rfl (lv_at hl 1 rfl) ?_
  refine va_get (D := D) (ci := 3) (v := .ref (a 18)) (C := RX3) (T := TX3) (N := 6) hx hb hts hin_X3 hown hK hP 20 rfl rfl 2 (by decide) hf21 (fun _ h9 => h9) rfl dX3_layAtom_107 ?_
  refine va_get (D := D) (ci := 2) (v := .int (nI (c + (pNu (ML q N d) (PL q N d) q n lev cr 0 0).length))) (C := RX2) (T := TX2) (N := 2) hx hb hts hin_X2 hown hK hP 18 rfl rfl 0 (by decide) hf39 (fun _ h9 => h9) rfl dX3_layAtom_110 ?_
  refine ra_st (f := (u_1 17)) C0 hP hD hS 17 rfl (30 + n) rfl (by omega) (by decide) dX3_layAtom_113 (fun H locs hP hD hS => ?_)
  have hset : ∀ (y4_ : Int32) (g_ : Nat → Int32), (wX cI a (vU v 4 y4_) u_1).set 17 (a 17, .inl (cI, 150, .inl g_)) = (wX cI a (vU v 4 y4_) (rU u_1 17 g_)) := fun _ _ => rfl
  rw [hset] at hP hD
  have hA2x := hA1.en (nI (c + (pNu (ML q N d) (PL q N d) q n lev cr 0 0).length))
  have hA2 : ATP q r (r 19) n c (mNu (ML q N d) q n lev cr) (pNu (ML q N d) (PL q N d) q n lev cr 0 0) (rU u_1 17 (upd (u_1 17) (30 + n) (nI (c + (pNu (ML q N d) (PL q N d) q n lev cr 0 0).length)))) := hA2x.1
  have hA17 : (rU u_1 17 (upd (u_1 17) (30 + n) (nI (c + (pNu (ML q N d) (PL q N d) q n lev cr 0 0).length)))) 17 (30 + n) = nI (c + (pNu (ML q N d) (PL q N d) q n lev cr 0 0).length) := hA2x.2
  have e5 : (rU u_1 17 (upd (u_1 17) (30 + n) (nI (c + (pNu (ML q N d) (PL q N d) q n lev cr 0 0).length)))) 5 n = q 8 n := by rw [hA2.1 5 (by decide), hr.1.2.2.2.1]
  have e6 : (rU u_1 17 (upd (u_1 17) (30 + n) (nI (c + (pNu (ML q N d) (PL q N d) q n lev cr 0 0).length)))) 6 n = q 9 n := by rw [hA2.1 6 (by decide), hr.1.2.2.2.2]
  refine lv_aload_n hx hb dX3_layAtom_114 rfl (lv_at hl 1 rfl) ?_
  refine va_get (D := D) (ci := 3) (v := .ref (a 1)) (C := RX3) (T := TX3) (N := 6) hx hb hts hin_X3 hown hK hP 20 rfl rfl 0 (by decide) hf35 (fun _ h9 => h9) rfl dX3_layAtom_115 ?_
  refine lv_iload_n hx hb dX3_layAtom_118 rfl (lv_at hl 2 rfl) ?_
  refine kcD (ans := ((if (u_1 5) n = -1 then 0 else 1) + (if (u_1 6) n = -1 then 0 else 1))) C0 hP hD hS (c_X0_scriptsOf l D cI a (vU v 4 (nI (c + (pNu (ML q N d) (PL q N d) q n lev cr 0 0).length))) (rU u_1 17 (upd (u_1 17) (30 + n) (nI (c + (pNu (ML q N d) (PL q N d) q n lev cr 0 0).length)))) n hn) (cwV 1 hts gX3_layAtom_X0_scriptsOf rfl rfl rfl (by decide +kernel) ⟨by dsimp only [rxL, rxF, rxA]; omega, by dsimp only [rxL, rxF, rxA]; omega⟩) 1 0 rfl rfl rfl hl.1 rfl (Nat.le_of_ble_eq_true rfl) dX3_layAtom_119 ⟨Nat.zero_le _, Nat.zero_le _⟩ (fun H locs hP hD hS => ?_)
  refine lv_if_le (tgt := 151) hx hb dX3_layAtom_122 (by decide) (fun c_122 => ?_) (fun c_122 => ?_)
  · skip
    have hz9 := (sc_0 _ _).mp c_122
    have hz : q 8 n = -1 ∧ q 9 n = -1 := ⟨e5.symm.trans hz9.1, e6.symm.trans hz9.2⟩
    have hno := at_no (M := ML q N d) (P := PL q N d) (lev := lev) (cr := cr) hz
    have hw5 : (wX cI a (vU v 4 (nI (c + (pNu (ML q N d) (PL q N d) q n lev cr 0 0).length))) (rU u_1 17 (upd (u_1 17) (30 + n) (nI (c + (pNu (ML q N d) (PL q N d) q n lev cr 0 0).length))))) = (wX cI a (vU v 4 (nI (c + (pAt (ML q N d) (PL q N d) q n lev cr 0 0).length))) (rU u_1 17 (upd (u_1 17) (30 + n) (nI (c + (pNu (ML q N d) (PL q N d) q n lev cr 0 0).length))))) := by rw [hno.2]
    rw [hw5] at hP hD
    have hp9 : ATP q r (r 19) n c (mAt (ML q N d) q n lev cr) (pAt (ML q N d) (PL q N d) q n lev cr 0 0) (rU u_1 17 (upd (u_1 17) (30 + n) (nI (c + (pNu (ML q N d) (PL q N d) q n lev cr 0 0).length)))) ∧ (rU u_1 17 (upd (u_1 17) (30 + n) (nI (c + (pNu (ML q N d) (PL q N d) q n lev cr 0 0).length)))) 17 (30 + n) = nI (c + (pAt (ML q N d) (PL q N d) q n lev cr 0 0).length) := by rw [hno.1, hno.2]; exact ⟨hA2, hA17⟩
    exact k_vret C0 (rU u_1 17 (upd (u_1 17) (30 + n) (nI (c + (pNu (ML q N d) (PL q N d) q n lev cr 0 0).length)))) hP hD hS hp9 dX3_layAtom_151
  · skip
    refine lv_aload_n hx hb dX3_layAtom_125 rfl (lv_at hl 1 rfl) ?_
    refine lv_iload_n hx hb dX3_layAtom_126 rfl (lv_at hl 2 rfl) ?_
    refine lv_iload_n hx hb dX3_layAtom_127 rfl (lv_at hl 3 rfl) ?_
    refine lv_iload_n hx hb dX3_layAtom_128 rfl (lv_at hl 4 rfl) ?_
    refine lv_iload hx hb dX3_layAtom_129 (lv_at hl 5 rfl) ?_
    refine kcVv C0 hP hD hS (c_X3_layScripts l D cI a v (rU u_1 17 (upd (u_1 17) (30 + n) (nI (c + (pNu (ML q N d) (PL q N d) q n lev cr 0 0).length)))) q N n k d lv dp sl lev cr c (r 19) hM hT (hr.sb hA2.1) hN hnN hk e2 hd hlv hlev hA2.2.1 hA2.2.2.1 hA2.2.2.2.1 hA17 hcl (fun h => c_122 ((sc_0 _ _).mpr ⟨e5.trans h.1, e6.trans h.2⟩)) hBn (fun h => hB8 h) (fun h => hB9 h)) (cwV 4 hts gX3_layAtom_X3_layScripts rfl rfl rfl (by decide +kernel) ⟨by dsimp only [rxL, rxF, rxA]; omega, by dsimp only [rxL, rxF, rxA]; omega⟩) 20 3 rfl rfl rfl hl.1 rfl (Nat.le_of_ble_eq_true rfl) dX3_layAtom_131 ⟨Nat.zero_le _, Nat.zero_le _⟩ (fun u H locs hq hP hD hS => ?_)
    obtain ⟨u_2, rfl⟩ : ∃ z9, z9 = u := ⟨_, rfl⟩
    have hA3 := hA2.tr hq
    have hP : va_P D vwCl (wX cI a (vU v 4 (nI (c + (pAt (ML q N d) (PL q N d) q n lev cr 0 0).length))) u_2) H := hP
    have hD : va_D A (wX cI a (vU v 4 (nI (c + (pAt (ML q N d) (PL q N d) q n lev cr 0 0).length))) u_2) := hD
    refine lv_aload_n hx hb dX3_layAtom_134 rfl (lv_at hl 1 rfl) ?_
    refine va_get (D := D) (ci := 3) (v := .ref (a 12)) (C := RX3) (T := TX3) (N := 6) hx hb hts hin_X3 hown hK hP 20 rfl rfl 1 (by decide) hf12 (fun _ h9 => h9) rfl dX3_layAtom_135 ?_
    refine va_get (D := D) (ci := 1) (v := .ref (a 17)) (C := RX1) (T := TX1) (N := 5) hx hb hts hin_X1 hown hK hP 12 rfl rfl 4 (by decide) hf93 (fun _ h9 => h9) rfl dX3_layAtom_138 ?_
    refine lv_iload hx hb dX3_layAtom_141 (lv_at hl 0 rfl) ?_
    refine lv_aload_n hx hb dX3_layAtom_143 rfl (lv_at hl 1 rfl) ?_
    refine va_get (D := D) (ci := 3) (v := .ref (a 18)) (C := RX3) (T := TX3) (N := 6) hx hb hts hin_X3 hown hK hP 20 rfl rfl 2 (by decide) hf21 (fun _ h9 => h9) rfl dX3_layAtom_144 ?_
    refine va_get (D := D) (ci := 2) (v := .int (nI (c + (pAt (ML q N d) (PL q N d) q n lev cr 0 0).length))) (C := RX2) (T := TX2) (N := 2) hx hb hts hin_X2 hown hK hP 18 rfl rfl 0 (by decide) hf39 (fun _ h9 => h9) rfl dX3_layAtom_147 ?_
    refine ra_st (f := (u_2 17)) C0 hP hD hS 17 rfl (30 + n) rfl (by omega) (by decide) dX3_layAtom_150 (fun H locs hP hD hS => ?_)
    have hset : ∀ (y4_ : Int32) (g_ : Nat → Int32), (wX cI a (vU v 4 y4_) u_2).set 17 (a 17, .inl (cI, 150, .inl g_)) = (wX cI a (vU v 4 y4_) (rU u_2 17 g_)) := fun _ _ => rfl
    rw [hset] at hP hD
    have hp9 : ATP q r (r 19) n c (mAt (ML q N d) q n lev cr) (pAt (ML q N d) (PL q N d) q n lev cr 0 0) (rU u_2 17 (upd (u_2 17) (30 + n) (nI (c + (pAt (ML q N d) (PL q N d) q n lev cr 0 0).length)))) ∧ (rU u_2 17 (upd (u_2 17) (30 + n) (nI (c + (pAt (ML q N d) (PL q N d) q n lev cr 0 0).length)))) 17 (30 + n) = nI (c + (pAt (ML q N d) (PL q N d) q n lev cr 0 0).length) := hA3.en _
    exact k_vret C0 (rU u_2 17 (upd (u_2 17) (30 + n) (nI (c + (pAt (ML q N d) (PL q N d) q n lev cr 0 0).length)))) hP hD hS hp9 dX3_layAtom_151

set_option maxHeartbeats 1500000 in
set_option maxRecDepth 100000 in
theorem c_X3_layAtom_3 (l : Launch) (D : va_G) (cI : ClassId) (a : Nat → Nat) (v : Nat → Int32) (r : Nat → Nat → Int32) (q : Rw) (N n k d lv : Nat) (dp sl : Nat → Nat) (lev cr : Int32) (c : Nat) (hM : HLL l D cI a q N dp d) (hT : LY q N dp sl) (hr : RQ q N v r) (hN : v 0 = nI N) (hnN : n < N) (hk : k < 30) (e2 : q 2 n = nI k) (hd : 29 ≤ d + dp k) (hlv : lv ≤ dp k) (hlev : lvO lev) (hBD : HBD q N dp d) (hf3 : q 3 n = 3) (hcl : c + (pAt (ML q N d) (PL q N d) q n lev cr 0 0).length ≤ 150) : KV l D cI yX3_layAtom wsX3_layAtom (rxA d) [.ref (a 20), .int (nI n), .int lev, .int cr, .int (nI lv)] (wX cI a (vU v 4 (nI c)) r) (fun u : Rw => wX cI a (vU v 4 (nI (c + (pAt (ML q N d) (PL q N d) q n lev cr 0 0).length))) u) (fun u => ATP q r (r 19) n c (mAt (ML q N d) q n lev cr) (pAt (ML q N d) (PL q N d) q n lev cr 0 0) u ∧ u 17 (30 + n) = nI (c + (pAt (ML q N d) (PL q N d) q n lev cr 0 0).length)) := by
  refine KV.of (cc := cX3_layAtom) (nL := 6) (ret := none) (by decide) rfl (Nat.le_of_ble_eq_true rfl) ?_
  intro pg9 en9 s m args below meth cd9 A ls C0 hP hD hS hl
  have hx := C0.1.1
  have hb := C0.1.2.1
  have hml := C0.1.2.2.1
  have hown : s.vm.findClass RX3 = some m.cls := C0.1.2.2.2.1
  have hts : ∀ w ∈ wsX3_layAtom, w.before args s = true := C0.1.2.2.2.2
  have hK := C0.2.2.2.1
  have hin_X3 : ∀ w ∈ wsX30, w ∈ wsX3_layAtom := fun w h => List.mem_cons_of_mem _ (List.mem_append_left _ (List.mem_append_left _ (List.mem_append_left _ (List.mem_append_right _ h))))
  have hf12 : (Cond.fieldLink RX3 12 "FormulaLists$Layout" "boxes" "LFormulaLists$Boxes;").before args s = true := hts _ (by decide +kernel)
  have hf21 : (Cond.fieldLink RX3 21 "FormulaLists$Layout" "items" "LFormulaLists$Items;").before args s = true := hts _ (by decide +kernel)
  have hin_X2 : ∀ w ∈ wsX20, w ∈ wsX3_layAtom := fun w h => List.mem_cons_of_mem _ (List.mem_append_left _ (List.mem_append_left _ (List.mem_append_right _ h)))
  have hf39 : (Cond.fieldLink RX3 39 "FormulaLists$Items" "count" "I").before args s = true := hts _ (by decide +kernel)
  have hf35 : (Cond.fieldLink RX3 35 "FormulaLists$Layout" "book" "LFormulaLists$Book;").before args s = true := hts _ (by decide +kernel)
  have hin_X0 : ∀ w ∈ wsX00, w ∈ wsX3_layAtom := fun w h => List.mem_cons_of_mem _ (List.mem_append_left _ (List.mem_append_right _ h))
  have hf65 : (Cond.fieldLink RX3 65 "FormulaLists$Book" "form" "[I").before args s = true := hts _ (by decide +kernel)
  have hin_X1 : ∀ w ∈ wsX10, w ∈ wsX3_layAtom := fun w h => List.mem_cons_of_mem _ (List.mem_append_right _ h)
  have hf93 : (Cond.fieldLink RX3 93 "FormulaLists$Boxes" "end" "[I").before args s = true := hts _ (by decide +kernel)
  have hl : lv_has ls 6 [(0, .ref (a 20)), (1, .int (nI n)), (2, .int lev), (3, .int cr), (4, .int (nI lv))] := hl
  have hP : va_P D vwCl (wX cI a (vU v 4 (nI c)) r) s.heap := hP
  have h9 := hT.1
  have hn : n < 120 := by omega
  have hnd := hT.2.2.2.2 n hnN
  have a3 : r 3 n = 3 := by rw [hr.1.2.1]; exact hf3
  have hnu : (pNu (ML q N d) (PL q N d) q n lev cr 0 0) = (pMa (ML q N d) (PL q N d) q n lev 0 0) := by unfold pNu; rw [if_neg (by rw [hf3]; decide), if_neg (by rw [hf3]; decide), if_neg (by rw [hf3]; decide)]
  have hmu : mNu (ML q N d) q n lev cr = (mMa (ML q N d) q n lev) := by unfold mNu; rw [if_neg (by rw [hf3]; decide), if_neg (by rw [hf3]; decide), if_neg (by rw [hf3]; decide)]
  have hcl2 := hcl
  rw [at_len] at hcl2
  have hBn := nu_b (lev := lev) (cr := cr) hT hBD hnN hk e2 hd hlev (by rw [hf3]; decide)
  have hB8 : ¬ q 8 n = -1 → TB (ML q N d (q 8 n) (scl lev) cr) 10000000 := fun h => by obtain ⟨j, hj, e⟩ := hnd.2.1.resolve_left h; obtain ⟨i1, i2, i3⟩ := fl_dp hT hnN hk e2 (show FLD q n 2 j from ⟨hj, Or.inr (Or.inr (Or.inl ⟨rfl, e⟩))⟩); rw [e]; exact hBD j _ _ hj (by omega) scl_o
  have hB9 : ¬ q 9 n = -1 → TB (ML q N d (q 9 n) (scl lev) 1) 10000000 := fun h => by obtain ⟨j, hj, e⟩ := hnd.2.2.1.resolve_left h; obtain ⟨i1, i2, i3⟩ := fl_dp hT hnN hk e2 (show FLD q n 3 j from ⟨hj, Or.inr (Or.inr (Or.inr (Or.inl ⟨rfl, e⟩)))⟩); rw [e]; exact hBD j _ _ hj (by omega) scl_o
  refine lv_iload_n hx hb dX3_layAtom_0 rfl (lv_at hl 1 rfl) ?_
  refine kcS (ans := (nI (30 + n))) C0 hP hS (c_X1_ofAtom l D cI n) (va_cwS 1 hts gX3_layAtom_X1_ofAtom rfl rfl rfl (by decide +kernel) ⟨by dsimp only [rxL, rxF, rxA]; omega, by dsimp only [rxL, rxF, rxA]; omega⟩) rfl hl.1 rfl (Nat.le_of_ble_eq_true rfl) dX3_layAtom_1 ⟨Nat.zero_le _, Nat.zero_le _⟩ (fun H locs hP hS => ?_)
  refine lv_istore (lv' := [(5, .int (nI (30 + n))), (0, .ref (a 20)), (1, .int (nI n)), (2, .int lev), (3, .int cr), (4, .int (nI lv))]) hx hb dX3_layAtom_4 hl (by decide) rfl (fun ls hl => ?_)
  refine lv_aload_n hx hb dX3_layAtom_6 rfl (lv_at hl 1 rfl) ?_
  refine va_get (D := D) (ci := 3) (v := .ref (a 12)) (C := RX3) (T := TX3) (N := 6) hx hb hts hin_X3 hown hK hP 20 rfl rfl 1 (by decide) hf12 (fun _ h9 => h9) rfl dX3_layAtom_7 ?_
  refine lv_iload hx hb dX3_layAtom_10 (lv_at hl 0 rfl) ?_
  refine lv_aload_n hx hb dX3_layAtom_12 rfl (lv_at hl 1 rfl) ?_
  refine va_get (D := D) (ci := 3) (v := .ref (a 18)) (C := RX3) (T := TX3) (N := 6) hx hb hts hin_X3 hown hK hP 20 rfl rfl 2 (by decide) hf21 (fun _ h9 => h9) rfl dX3_layAtom_13 ?_
  refine va_get (D := D) (ci := 2) (v := .int (nI c)) (C := RX2) (T := TX2) (N := 2) hx hb hts hin_X2 hown hK hP 18 rfl rfl 0 (by decide) hf39 (fun _ h9 => h9) rfl dX3_layAtom_16 ?_
  refine kcDv C0 hP hD hS (c_X1_begin l D cI a (vU v 4 (nI c)) r (30 + n) (nI c) (by omega)) (cwV 2 hts gX3_layAtom_X1_begin rfl rfl rfl (by decide +kernel) ⟨by dsimp only [rxL, rxF, rxA]; omega, by dsimp only [rxL, rxF, rxA]; omega⟩) 12 1 rfl rfl rfl hl.1 rfl (Nat.le_of_ble_eq_true rfl) dX3_layAtom_19 ⟨Nat.zero_le _, Nat.zero_le _⟩ (fun H locs hP hD hS => ?_)
  have hP : va_P D vwCl (wX cI a (vU v 4 (nI c)) (bgR r (30 + n) (nI c))) H := hP
  have hD : va_D A (wX cI a (vU v 4 (nI c)) (bgR r (30 + n) (nI c))) := hD
  have hg := bg_f r n (nI c)
  refine lv_aload_n hx hb dX3_layAtom_22 rfl (lv_at hl 1 rfl) ?_
  refine va_get (D := D) (ci := 3) (v := .ref (a 1)) (C := RX3) (T := TX3) (N := 6) hx hb hts hin_X3 hown hK hP 20 rfl rfl 0 (by decide) hf35 (fun _ h9 => h9) rfl dX3_layAtom_23 ?_
  refine va_get (D := D) (ci := 0) (v := .ref (a 3)) (C := RX0) (T := TX0) (N := 14) hx hb hts hin_X0 hown hK hP 1 rfl rfl 4 (by decide) hf65 (fun _ h9 => h9) rfl dX3_layAtom_26 ?_
  refine lv_iload_n hx hb dX3_layAtom_29 rfl (lv_at hl 2 rfl) ?_
  refine ra_ld (f := (r 3)) C0 hP 3 rfl n rfl (by omega) (by decide) dX3_layAtom_30 ?_
  refine lv_eqi a3 ?_
  refine lv_tableIn (off := 49) (tgt := 80) hx hb dX3_layAtom_31 (by decide) (by decide) rfl (by decide) ?_
  refine lv_aload_n hx hb dX3_layAtom_80 rfl (lv_at hl 1 rfl) ?_
  refine lv_iload_n hx hb dX3_layAtom_81 rfl (lv_at hl 2 rfl) ?_
  refine lv_iload_n hx hb dX3_layAtom_82 rfl (lv_at hl 3 rfl) ?_
  refine lv_iload hx hb dX3_layAtom_83 (lv_at hl 5 rfl) ?_
  refine kcVv C0 hP hD hS (c_X3_layMatrix l D cI a v (bgR r (30 + n) (nI c)) q N n k d lv dp sl lev c hM hT (hr.sb hg.1) hN hnN hk e2 hd hlv hlev hf3 hg.2.2.1 hg.2.2.2.1 hg.2.2.2.2.1 (by rw [hnu] at hcl2; omega) (fun j cr2 h => by obtain ⟨s2, h2⟩ := h; obtain ⟨i1, i2, i3⟩ := fl_dp hT hnN hk e2 h2; exact hBD j _ _ i1 (by omega) (maI_o hlev))) (cwV 3 hts gX3_layAtom_X3_layMatrix rfl rfl rfl (by decide +kernel) ⟨by dsimp only [rxL, rxF, rxA]; omega, by dsimp only [rxL, rxF, rxA]; omega⟩) 20 3 rfl rfl rfl hl.1 rfl (Nat.le_of_ble_eq_true rfl) dX3_layAtom_85 ⟨Nat.zero_le _, Nat.zero_le _⟩ (fun u H locs hq hP hD hS => ?_)
  obtain ⟨u_1, rfl⟩ : ∃ z9, z9 = u := ⟨_, rfl⟩
  have hA0 := hq
  have hP : va_P D vwCl (wX cI a (vU v 4 (nI (c + (pMa (ML q N d) (PL q N d) q n lev 0 0).length))) u_1) H := hP
  have hD : va_D A (wX cI a (vU v 4 (nI (c + (pMa (ML q N d) (PL q N d) q n lev 0 0).length))) u_1) := hD
  refine lv_goto (tgt := 97) hx hb dX3_layAtom_88 (by decide) ?_
  have hA1 : ATP q r (r 19) n c (mNu (ML q N d) q n lev cr) (pNu (ML q N d) (PL q N d) q n lev cr 0 0) u_1 := by rw [hmu, hnu]; have h8 := hA0.bg; rw [hg.2.1] at h8; exact h8
  have hw5 : (wX cI a (vU v 4 (nI (c + (pMa (ML q N d) (PL q N d) q n lev 0 0).length))) u_1) = (wX cI a (vU v 4 (nI (c + (pNu (ML q N d) (PL q N d) q n lev cr 0 0).length))) u_1) := by rw [hnu]
  rw [hw5] at hP hD
  refine lv_aload_n hx hb dX3_layAtom_97 rfl (lv_at hl 1 rfl) ?_
  refine va_get (D := D) (ci := 3) (v := .ref (a 12)) (C := RX3) (T := TX3) (N := 6) hx hb hts hin_X3 hown hK hP 20 rfl rfl 1 (by decide) hf12 (fun _ h9 => h9) rfl dX3_layAtom_98 ?_
  refine va_get (D := D) (ci := 1) (v := .ref (a 17)) (C := RX1) (T := TX1) (N := 5) hx hb hts hin_X1 hown hK hP 12 rfl rfl 4 (by decide) hf93 (fun _ h9 => h9) rfl dX3_layAtom_101 ?_
  refine lv_iload hx hb dX3_layAtom_104 (lv_at hl 0 rfl) ?_
  refine lv_aload_n hx hb dX3_layAtom_106 rfl (lv_at hl 1 rfl) ?_
  refine va_get (D := D) (ci := 3) (v := .ref (a 18)) (C := RX3) (T := TX3) (N := 6) hx hb hts hin_X3 hown hK hP 20 rfl rfl 2 (by decide) hf21 (fun _ h9 => h9) rfl dX3_layAtom_107 ?_
  refine va_get (D := D) (ci := 2) (v := .int (nI (c + (pNu (ML q N d) (PL q N d) q n lev cr 0 0).length))) (C := RX2) (T := TX2) (N := 2) hx hb hts hin_X2 hown hK hP 18 rfl rfl 0 (by decide) hf39 (fun _ h9 => h9) rfl dX3_layAtom_110 ?_
  refine ra_st (f := (u_1 17)) C0 hP hD hS 17 rfl (30 + n) rfl (by omega) (by decide) dX3_layAtom_113 (fun H locs hP hD hS => ?_)
  have hset : ∀ (y4_ : Int32) (g_ : Nat → Int32), (wX cI a (vU v 4 y4_) u_1).set 17 (a 17, .inl (cI, 150, .inl g_)) = (wX cI a (vU v 4 y4_) (rU u_1 17 g_)) := fun _ _ => rfl
  rw [hset] at hP hD
  have hA2x := hA1.en (nI (c + (pNu (ML q N d) (PL q N d) q n lev cr 0 0).length))
  have hA2 : ATP q r (r 19) n c (mNu (ML q N d) q n lev cr) (pNu (ML q N d) (PL q N d) q n lev cr 0 0) (rU u_1 17 (upd (u_1 17) (30 + n) (nI (c + (pNu (ML q N d) (PL q N d) q n lev cr 0 0).length)))) := hA2x.1
  have hA17 : (rU u_1 17 (upd (u_1 17) (30 + n) (nI (c + (pNu (ML q N d) (PL q N d) q n lev cr 0 0).length)))) 17 (30 + n) = nI (c + (pNu (ML q N d) (PL q N d) q n lev cr 0 0).length) := hA2x.2
  have e5 : (rU u_1 17 (upd (u_1 17) (30 + n) (nI (c + (pNu (ML q N d) (PL q N d) q n lev cr 0 0).length)))) 5 n = q 8 n := by rw [hA2.1 5 (by decide), hr.1.2.2.2.1]
  have e6 : (rU u_1 17 (upd (u_1 17) (30 + n) (nI (c + (pNu (ML q N d) (PL q N d) q n lev cr 0 0).length)))) 6 n = q 9 n := by rw [hA2.1 6 (by decide), hr.1.2.2.2.2]
  refine lv_aload_n hx hb dX3_layAtom_114 rfl (lv_at hl 1 rfl) ?_
  refine va_get (D := D) (ci := 3) (v := .ref (a 1)) (C := RX3) (T := TX3) (N := 6) hx hb hts hin_X3 hown hK hP 20 rfl rfl 0 (by decide) hf35 (fun _ h9 => h9) rfl dX3_layAtom_115 ?_
  refine lv_iload_n hx hb dX3_layAtom_118 rfl (lv_at hl 2 rfl) ?_
  refine kcD (ans := ((if (u_1 5) n = -1 then 0 else 1) + (if (u_1 6) n = -1 then 0 else 1))) C0 hP hD hS (c_X0_scriptsOf l D cI a (vU v 4 (nI (c + (pNu (ML q N d) (PL q N d) q n lev cr 0 0).length))) (rU u_1 17 (upd (u_1 17) (30 + n) (nI (c + (pNu (ML q N d) (PL q N d) q n lev cr 0 0).length)))) n hn) (cwV 1 hts gX3_layAtom_X0_scriptsOf rfl rfl rfl (by decide +kernel) ⟨by dsimp only [rxL, rxF, rxA]; omega, by dsimp only [rxL, rxF, rxA]; omega⟩) 1 0 rfl rfl rfl hl.1 rfl (Nat.le_of_ble_eq_true rfl) dX3_layAtom_119 ⟨Nat.zero_le _, Nat.zero_le _⟩ (fun H locs hP hD hS => ?_)
  refine lv_if_le (tgt := 151) hx hb dX3_layAtom_122 (by decide) (fun c_122 => ?_) (fun c_122 => ?_)
  · skip
    have hz9 := (sc_0 _ _).mp c_122
    have hz : q 8 n = -1 ∧ q 9 n = -1 := ⟨e5.symm.trans hz9.1, e6.symm.trans hz9.2⟩
    have hno := at_no (M := ML q N d) (P := PL q N d) (lev := lev) (cr := cr) hz
    have hw5 : (wX cI a (vU v 4 (nI (c + (pNu (ML q N d) (PL q N d) q n lev cr 0 0).length))) (rU u_1 17 (upd (u_1 17) (30 + n) (nI (c + (pNu (ML q N d) (PL q N d) q n lev cr 0 0).length))))) = (wX cI a (vU v 4 (nI (c + (pAt (ML q N d) (PL q N d) q n lev cr 0 0).length))) (rU u_1 17 (upd (u_1 17) (30 + n) (nI (c + (pNu (ML q N d) (PL q N d) q n lev cr 0 0).length))))) := by rw [hno.2]
    rw [hw5] at hP hD
    have hp9 : ATP q r (r 19) n c (mAt (ML q N d) q n lev cr) (pAt (ML q N d) (PL q N d) q n lev cr 0 0) (rU u_1 17 (upd (u_1 17) (30 + n) (nI (c + (pNu (ML q N d) (PL q N d) q n lev cr 0 0).length)))) ∧ (rU u_1 17 (upd (u_1 17) (30 + n) (nI (c + (pNu (ML q N d) (PL q N d) q n lev cr 0 0).length)))) 17 (30 + n) = nI (c + (pAt (ML q N d) (PL q N d) q n lev cr 0 0).length) := by rw [hno.1, hno.2]; exact ⟨hA2, hA17⟩
    exact k_vret C0 (rU u_1 17 (upd (u_1 17) (30 + n) (nI (c + (pNu (ML q N d) (PL q N d) q n lev cr 0 0).length)))) hP hD hS hp9 dX3_layAtom_151
  · skip
    refine lv_aload_n hx hb dX3_layAtom_125 rfl (lv_at hl 1 rfl) ?_
    refine lv_iload_n hx hb dX3_layAtom_126 rfl (lv_at hl 2 rfl) ?_
    refine lv_iload_n hx hb dX3_layAtom_127 rfl (lv_at hl 3 rfl) ?_
    refine lv_iload_n hx hb dX3_layAtom_128 rfl (lv_at hl 4 rfl) ?_
    refine lv_iload hx hb dX3_layAtom_129 (lv_at hl 5 rfl) ?_
    refine kcVv C0 hP hD hS (c_X3_layScripts l D cI a v (rU u_1 17 (upd (u_1 17) (30 + n) (nI (c + (pNu (ML q N d) (PL q N d) q n lev cr 0 0).length)))) q N n k d lv dp sl lev cr c (r 19) hM hT (hr.sb hA2.1) hN hnN hk e2 hd hlv hlev hA2.2.1 hA2.2.2.1 hA2.2.2.2.1 hA17 hcl (fun h => c_122 ((sc_0 _ _).mpr ⟨e5.trans h.1, e6.trans h.2⟩)) hBn (fun h => hB8 h) (fun h => hB9 h)) (cwV 4 hts gX3_layAtom_X3_layScripts rfl rfl rfl (by decide +kernel) ⟨by dsimp only [rxL, rxF, rxA]; omega, by dsimp only [rxL, rxF, rxA]; omega⟩) 20 3 rfl rfl rfl hl.1 rfl (Nat.le_of_ble_eq_true rfl) dX3_layAtom_131 ⟨Nat.zero_le _, Nat.zero_le _⟩ (fun u H locs hq hP hD hS => ?_)
    obtain ⟨u_2, rfl⟩ : ∃ z9, z9 = u := ⟨_, rfl⟩
    have hA3 := hA2.tr hq
    have hP : va_P D vwCl (wX cI a (vU v 4 (nI (c + (pAt (ML q N d) (PL q N d) q n lev cr 0 0).length))) u_2) H := hP
    have hD : va_D A (wX cI a (vU v 4 (nI (c + (pAt (ML q N d) (PL q N d) q n lev cr 0 0).length))) u_2) := hD
    refine lv_aload_n hx hb dX3_layAtom_134 rfl (lv_at hl 1 rfl) ?_
    refine va_get (D := D) (ci := 3) (v := .ref (a 12)) (C := RX3) (T := TX3) (N := 6) hx hb hts hin_X3 hown hK hP 20 rfl rfl 1 (by decide) hf12 (fun _ h9 => h9) rfl dX3_layAtom_135 ?_
    refine va_get (D := D) (ci := 1) (v := .ref (a 17)) (C := RX1) (T := TX1) (N := 5) hx hb hts hin_X1 hown hK hP 12 rfl rfl 4 (by decide) hf93 (fun _ h9 => h9) rfl dX3_layAtom_138 ?_
    refine lv_iload hx hb dX3_layAtom_141 (lv_at hl 0 rfl) ?_
    refine lv_aload_n hx hb dX3_layAtom_143 rfl (lv_at hl 1 rfl) ?_
    refine va_get (D := D) (ci := 3) (v := .ref (a 18)) (C := RX3) (T := TX3) (N := 6) hx hb hts hin_X3 hown hK hP 20 rfl rfl 2 (by decide) hf21 (fun _ h9 => h9) rfl dX3_layAtom_144 ?_
    refine va_get (D := D) (ci := 2) (v := .int (nI (c + (pAt (ML q N d) (PL q N d) q n lev cr 0 0).length))) (C := RX2) (T := TX2) (N := 2) hx hb hts hin_X2 hown hK hP 18 rfl rfl 0 (by decide) hf39 (fun _ h9 => h9) rfl dX3_layAtom_147 ?_
    refine ra_st (f := (u_2 17)) C0 hP hD hS 17 rfl (30 + n) rfl (by omega) (by decide) dX3_layAtom_150 (fun H locs hP hD hS => ?_)
    have hset : ∀ (y4_ : Int32) (g_ : Nat → Int32), (wX cI a (vU v 4 y4_) u_2).set 17 (a 17, .inl (cI, 150, .inl g_)) = (wX cI a (vU v 4 y4_) (rU u_2 17 g_)) := fun _ _ => rfl
    rw [hset] at hP hD
    have hp9 : ATP q r (r 19) n c (mAt (ML q N d) q n lev cr) (pAt (ML q N d) (PL q N d) q n lev cr 0 0) (rU u_2 17 (upd (u_2 17) (30 + n) (nI (c + (pAt (ML q N d) (PL q N d) q n lev cr 0 0).length)))) ∧ (rU u_2 17 (upd (u_2 17) (30 + n) (nI (c + (pAt (ML q N d) (PL q N d) q n lev cr 0 0).length)))) 17 (30 + n) = nI (c + (pAt (ML q N d) (PL q N d) q n lev cr 0 0).length) := hA3.en _
    exact k_vret C0 (rU u_2 17 (upd (u_2 17) (30 + n) (nI (c + (pAt (ML q N d) (PL q N d) q n lev cr 0 0).length)))) hP hD hS hp9 dX3_layAtom_151

theorem c_X3_layAtom (l : Launch) (D : va_G) (cI : ClassId) (a : Nat → Nat) (v : Nat → Int32) (r : Nat → Nat → Int32) (q : Rw) (N n k d lv : Nat) (dp sl : Nat → Nat) (lev cr : Int32) (c : Nat) (hM : HLL l D cI a q N dp d) (hT : LY q N dp sl) (hr : RQ q N v r) (hN : v 0 = nI N) (hnN : n < N) (hk : k < 30) (e2 : q 2 n = nI k) (hd : 29 ≤ d + dp k) (hlv : lv ≤ dp k) (hlev : lvO lev) (hBD : HBD q N dp d) (hna : ¬ q 3 n = 4) (hcl : c + (pAt (ML q N d) (PL q N d) q n lev cr 0 0).length ≤ 150) : KV l D cI yX3_layAtom wsX3_layAtom (rxA d) [.ref (a 20), .int (nI n), .int lev, .int cr, .int (nI lv)] (wX cI a (vU v 4 (nI c)) r) (fun u : Rw => wX cI a (vU v 4 (nI (c + (pAt (ML q N d) (PL q N d) q n lev cr 0 0).length))) u) (fun u => ATP q r (r 19) n c (mAt (ML q N d) q n lev cr) (pAt (ML q N d) (PL q N d) q n lev cr 0 0) u ∧ u 17 (30 + n) = nI (c + (pAt (ML q N d) (PL q N d) q n lev cr 0 0).length)) := by
  rcases (hT.2.2.2.2 n hnN).2.2.2 with h | h | h | h | h
  · exact c_X3_layAtom_0 l D cI a v r q N n k d lv dp sl lev cr c hM hT hr hN hnN hk e2 hd hlv hlev hBD h.1 hcl
  · exact c_X3_layAtom_1 l D cI a v r q N n k d lv dp sl lev cr c hM hT hr hN hnN hk e2 hd hlv hlev hBD h.1 hcl
  · exact c_X3_layAtom_2 l D cI a v r q N n k d lv dp sl lev cr c hM hT hr hN hnN hk e2 hd hlv hlev hBD h.1 hcl
  · exact c_X3_layAtom_3 l D cI a v r q N n k d lv dp sl lev cr c hM hT hr hN hnN hk e2 hd hlv hlev hBD h.1 hcl
  · exact absurd h.1 hna
