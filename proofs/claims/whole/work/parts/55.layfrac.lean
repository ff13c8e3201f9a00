set_option maxHeartbeats 1500000 in
set_option maxRecDepth 100000 in
theorem c_X3_layFraction (l : Launch) (D : va_G) (cI : ClassId) (a : Nat → Nat) (v : Nat → Int32) (r : Nat → Nat → Int32) (q : Rw) (N n k d lv : Nat) (dp sl : Nat → Nat) (lev cr : Int32) (c : Nat) (hM : HLL l D cI a q N dp d) (hT : LY q N dp sl) (hr : RQ q N v r) (hN : v 0 = nI N) (hnN : n < N) (hk : k < 30) (e2 : q 2 n = nI k) (hd : 29 ≤ d + dp k) (hlv : lv ≤ dp k) (hlev : lvO lev) (hf3 : q 3 n = 1) (e13 : BM r (30 + n) (0, 0, 0)) (h16 : r 16 (30 + n) = nI c) (h17 : r 17 (30 + n) = nI c) (hcl : c + (pFr (ML q N d) (PL q N d) q n lev cr 0 0).length ≤ 150) : KV l D cI yX3_layFraction wsX3_layFraction (rxF d) [.ref (a 20), .int (nI n), .int lev, .int cr, .int (nI lv)] (wX cI a (vU v 4 (nI c)) r) (fun u : Rw => wX cI a (vU v 4 (nI (c + (pFr (ML q N d) (PL q N d) q n lev cr 0 0).length))) u) (fun u => ATP q r (r 19) n c (mFr (ML q N d) q n lev cr) (pFr (ML q N d) (PL q N d) q n lev cr 0 0) u) := by
  refine KV.of (cc := cX3_layFraction) (nL := 17) (ret := none) (by decide) rfl (Nat.le_of_ble_eq_true rfl) ?_
  intro pg9 en9 s m args below meth cd9 A ls C0 hP hD hS hl
  have hx := C0.1.1
  have hb := C0.1.2.1
  have hml := C0.1.2.2.1
  have hown : s.vm.findClass RX3 = some m.cls := C0.1.2.2.2.1
  have hts : ∀ w ∈ wsX3_layFraction, w.before args s = true := C0.1.2.2.2.2
  have hK := C0.2.2.2.1
  have hin_X3 : ∀ w ∈ wsX30, w ∈ wsX3_layFraction := fun w h => List.mem_cons_of_mem _ (List.mem_append_left _ (List.mem_append_left _ (List.mem_append_left _ (List.mem_append_right _ h))))
  have hf35 : (Cond.fieldLink RX3 35 "FormulaLists$Layout" "book" "LFormulaLists$Book;").before args s = true := hts _ (by decide +kernel)
  have hin_X0 : ∀ w ∈ wsX00, w ∈ wsX3_layFraction := fun w h => List.mem_cons_of_mem _ (List.mem_append_left _ (List.mem_append_right _ h))
  have hf68 : (Cond.fieldLink RX3 68 "FormulaLists$Book" "first" "[I").before args s = true := hts _ (by decide +kernel)
  have hf71 : (Cond.fieldLink RX3 71 "FormulaLists$Book" "second" "[I").before args s = true := hts _ (by decide +kernel)
  have hf170 : (Cond.fieldLink RX3 170 "FormulaLists$Book" "third" "[I").before args s = true := hts _ (by decide +kernel)
  have hf12 : (Cond.fieldLink RX3 12 "FormulaLists$Layout" "boxes" "LFormulaLists$Boxes;").before args s = true := hts _ (by decide +kernel)
  have hin_X1 : ∀ w ∈ wsX10, w ∈ wsX3_layFraction := fun w h => List.mem_cons_of_mem _ (List.mem_append_right _ h)
  have hf46 : (Cond.fieldLink RX3 46 "FormulaLists$Boxes" "width" "[I").before args s = true := hts _ (by decide +kernel)
  have hf51 : (Cond.fieldLink RX3 51 "FormulaLists$Boxes" "depth" "[I").before args s = true := hts _ (by decide +kernel)
  have hf49 : (Cond.fieldLink RX3 49 "FormulaLists$Boxes" "height" "[I").before args s = true := hts _ (by decide +kernel)
  have hf21 : (Cond.fieldLink RX3 21 "FormulaLists$Layout" "items" "LFormulaLists$Items;").before args s = true := hts _ (by decide +kernel)
  have hl : lv_has ls 17 [(0, .ref (a 20)), (1, .int (nI n)), (2, .int lev), (3, .int cr), (4, .int (nI lv))] := hl
  have hP : va_P D vwCl (wX cI a (vU v 4 (nI c)) r) s.heap := hP
  have h9 := hT.1
  have hn : n < 120 := by omega
  have hnd := (hT.2.2.2.2 n hnN).2.2.2
  have hnm : ¬ q 3 n = 3 := by rw [hf3]; decide
  obtain ⟨⟨jo, hjo, eo⟩, ⟨ju, hju, eu⟩⟩ : isLs (q 5 n) ∧ isLs (q 6 n) := by rcases hnd with h | h | h | h | h; exact absurd (hf3.symm.trans h.1) (by decide); exact ⟨h.2.1, h.2.2.1⟩; exact absurd (hf3.symm.trans h.1) (by decide); exact absurd (hf3.symm.trans h.1) (by decide); exact absurd (hf3.symm.trans h.1) (by decide)
  obtain ⟨a7, a8, a9⟩ := hr.2.1 n hnN hnm
  have a7 : r 7 n = nI jo := a7.trans eo
  have a8 : r 8 n = nI ju := a8.trans eu
  have hfo : FLD q n 0 jo := ⟨hjo, Or.inl ⟨rfl, hf3, eo⟩⟩
  have hfu : FLD q n 1 ju := ⟨hju, Or.inr (Or.inl ⟨rfl, Or.inl hf3, eu⟩)⟩
  have hcl2 := hcl
  rw [pFr_len eo eu] at hcl2
  refine lv_aload_n hx hb dX3_layFraction_0 rfl (lv_at hl 0 rfl) ?_
  refine va_get (D := D) (ci := 3) (v := .ref (a 1)) (C := RX3) (T := TX3) (N := 6) hx hb hts hin_X3 hown hK hP 20 rfl rfl 0 (by decide) hf35 (fun _ h9 => h9) rfl dX3_layFraction_1 ?_
  refine va_get (D := D) (ci := 0) (v := .ref (a 7)) (C := RX0) (T := TX0) (N := 14) hx hb hts hin_X0 hown hK hP 1 rfl rfl 8 (by decide) hf68 (fun _ h9 => h9) rfl dX3_layFraction_4 ?_
  refine lv_iload_n hx hb dX3_layFraction_7 rfl (lv_at hl 1 rfl) ?_
  refine ra_ld (f := (r 7)) C0 hP 7 rfl n rfl (by omega) (by decide) dX3_layFraction_8 ?_
  refine lv_eqi a7 ?_
  refine lv_istore (lv' := [(5, .int (nI jo)), (0, .ref (a 20)), (1, .int (nI n)), (2, .int lev), (3, .int cr), (4, .int (nI lv))]) hx hb dX3_layFraction_9 hl (by decide) rfl (fun ls hl => ?_)
  refine lv_aload_n hx hb dX3_layFraction_11 rfl (lv_at hl 1 rfl) ?_
  refine va_get (D := D) (ci := 3) (v := .ref (a 1)) (C := RX3) (T := TX3) (N := 6) hx hb hts hin_X3 hown hK hP 20 rfl rfl 0 (by decide) hf35 (fun _ h9 => h9) rfl dX3_layFraction_12 ?_
  refine va_get (D := D) (ci := 0) (v := .ref (a 8)) (C := RX0) (T := TX0) (N := 14) hx hb hts hin_X0 hown hK hP 1 rfl rfl 9 (by decide) hf71 (fun _ h9 => h9) rfl dX3_layFraction_15 ?_
  refine lv_iload_n hx hb dX3_layFraction_18 rfl (lv_at hl 2 rfl) ?_
  refine ra_ld (f := (r 8)) C0 hP 8 rfl n rfl (by omega) (by decide) dX3_layFraction_19 ?_
  refine lv_eqi a8 ?_
  refine lv_istore (lv' := [(6, .int (nI ju)), (5, .int (nI jo)), (0, .ref (a 20)), (1, .int (nI n)), (2, .int lev), (3, .int cr), (4, .int (nI lv))]) hx hb dX3_layFraction_20 hl (by decide) rfl (fun ls hl => ?_)
  refine lv_iload_n hx hb dX3_layFraction_22 rfl (lv_at hl 4 rfl) ?_
  refine lv_iconst (v := 2) hx hb dX3_layFraction_23 (by decide) ?_
  obtain ⟨x_1, ex_1⟩ : ∃ zz_ : Int32, zz_ = (if lev < 2 then (lev + 1) else (3 : Int32)) := ⟨_, rfl⟩
  refine jW (D := D) hD hl 34 (wX cI a (vU v 4 (nI c)) r) [(6, .int (nI ju)), (5, .int (nI jo)), (0, .ref (a 20)), (1, .int (nI n)), (2, .int lev), (3, .int cr), (4, .int (nI lv))] [.int x_1] (fun hJ => ?_) (fun H locs ls hP hD hS hl => ?_)
  · skip
    refine lv_icmp_lt (tgt := 31) hx hb dX3_layFraction_24 (by decide) (fun c_24 => ?_) (fun c_24 => ?_)
    · skip
      refine lv_iload_n hx hb dX3_layFraction_31 rfl (lv_at hl 4 rfl) ?_
      refine lv_iconst (v := 1) hx hb dX3_layFraction_32 (by decide) ?_
      refine lv_iadd hx hb dX3_layFraction_33 ?_
      have gx_1 : x_1 = (lev + 1) := by rw [ex_1]; simp only [if_pos c_24]
      simp only [gx_1] at hJ
      exact hJ _ _ _ hP hD hS (lv_sub hl [0, 1, 2, 3, 4, 5, 6] rfl)
    · skip
      refine lv_iconst (v := 3) hx hb dX3_layFraction_27 (by decide) ?_
      refine lv_goto (tgt := 34) hx hb dX3_layFraction_28 (by decide) ?_
      have gx_1 : x_1 = 3 := by rw [ex_1]; simp only [if_neg c_24]
      simp only [gx_1] at hJ
      exact hJ _ _ _ hP hD hS (lv_sub hl [0, 1, 2, 3, 4, 5, 6] rfl)
  · skip
    refine lv_eqi (show x_1 = ptl lev by rw [ex_1]; exact ptl_j hlev) ?_
    refine lv_istore (lv' := [(7, .int (ptl lev)), (6, .int (nI ju)), (5, .int (nI jo)), (0, .ref (a 20)), (1, .int (nI n)), (2, .int lev), (3, .int cr), (4, .int (nI lv))]) hx hb dX3_layFraction_34 hl (by decide) rfl (fun ls hl => ?_)
    refine lv_aload_n hx hb dX3_layFraction_36 rfl (lv_at hl 3 rfl) ?_
    refine lv_iload hx hb dX3_layFraction_37 (lv_at hl 2 rfl) ?_
    refine lv_iload hx hb dX3_layFraction_39 (lv_at hl 0 rfl) ?_
    refine lv_iload_n hx hb dX3_layFraction_41 rfl (lv_at hl 6 rfl) ?_
    refine lv_iload hx hb dX3_layFraction_42 (lv_at hl 7 rfl) ?_
    refine lv_iconst (v := 1) hx hb dX3_layFraction_44 (by decide) ?_
    refine lv_iadd hx hb dX3_layFraction_45 ?_
    refine lv_eqi (nI_1 lv) ?_
    obtain ⟨hk9, hi9, hlt9⟩ := fl_dp hT hnN hk e2 hfo
    refine kcVv C0 hP hD hS (hM v r jo (lv + 1) c (ptl lev) cr hk9 (by omega) (by omega) (hr.sb (SB.rf r)) hN (ptl_o hlev) (by omega)) (cwV 4 hts gX3_layFraction_X3_layList rfl rfl rfl (by decide +kernel) ⟨by dsimp only [rxL, rxF, rxA]; omega, by dsimp only [rxL, rxF, rxA]; omega⟩) 20 3 rfl rfl rfl hl.1 rfl (Nat.le_of_ble_eq_true rfl) dX3_layFraction_46 ⟨Nat.zero_le _, Nat.zero_le _⟩ (fun u H locs hq hP hD hS => ?_)
    obtain ⟨u_2, rfl⟩ : ∃ z9, z9 = u := ⟨_, rfl⟩
    have hq_u_2 : LLP q N d r jo (ptl lev) cr c u_2 := hq
    have hP : va_P D vwCl (wX cI a (vU v 4 (nI (c + (PL q N d (nI jo) (ptl lev) cr 0 0).length))) u_2) H := hP
    have hD : va_D A (wX cI a (vU v 4 (nI (c + (PL q N d (nI jo) (ptl lev) cr 0 0).length))) u_2) := hD
    refine lv_aload_n hx hb dX3_layFraction_49 rfl (lv_at hl 3 rfl) ?_
    refine lv_iload hx hb dX3_layFraction_50 (lv_at hl 1 rfl) ?_
    refine lv_iload hx hb dX3_layFraction_52 (lv_at hl 0 rfl) ?_
    refine lv_iconst (v := 1) hx hb dX3_layFraction_54 (by decide) ?_
    refine lv_iload hx hb dX3_layFraction_55 (lv_at hl 7 rfl) ?_
    refine lv_iconst (v := 1) hx hb dX3_layFraction_57 (by decide) ?_
    refine lv_iadd hx hb dX3_layFraction_58 ?_
    refine lv_eqi (nI_1 lv) ?_
    obtain ⟨hk9, hi9, hlt9⟩ := fl_dp hT hnN hk e2 hfu
    refine kcVv C0 hP hD hS (hM v u_2 ju (lv + 1) (c + (PL q N d (nI jo) (ptl lev) cr 0 0).length) (ptl lev) 1 hk9 (by omega) (by omega) (hr.sb ((SB.rf r).tr hq_u_2.1)) hN (ptl_o hlev) (by omega)) (cwV 4 hts gX3_layFraction_X3_layList rfl rfl rfl (by decide +kernel) ⟨by dsimp only [rxL, rxF, rxA]; omega, by dsimp only [rxL, rxF, rxA]; omega⟩) 20 3 rfl rfl rfl hl.1 rfl (Nat.le_of_ble_eq_true rfl) dX3_layFraction_59 ⟨Nat.zero_le _, Nat.zero_le _⟩ (fun u H locs hq hP hD hS => ?_)
    obtain ⟨u_3, rfl⟩ : ∃ z9, z9 = u := ⟨_, rfl⟩
    have hq_u_3 : LLP q N d u_2 ju (ptl lev) 1 (c + (PL q N d (nI jo) (ptl lev) cr 0 0).length) u_3 := hq
    have hP : va_P D vwCl (wX cI a (vU v 4 (nI ((c + (PL q N d (nI jo) (ptl lev) cr 0 0).length) + (PL q N d (nI ju) (ptl lev) 1 0 0).length))) u_3) H := hP
    have hD : va_D A (wX cI a (vU v 4 (nI ((c + (PL q N d (nI jo) (ptl lev) cr 0 0).length) + (PL q N d (nI ju) (ptl lev) 1 0 0).length))) u_3) := hD
    have ho1 : (oL q N d (nI jo) (ptl lev) cr).length = (PL q N d (nI jo) (ptl lev) cr 0 0).length := by rw [oL_y hjo rfl]
    have ho2 : (oL q N d (nI ju) (ptl lev) 1).length = (PL q N d (nI ju) (ptl lev) 1 0 0).length := by rw [oL_y hju rfl]
    have hF := sc_g (f0 := r 19) (c0 := c) (Ln := []) (tn := (0, 0, 0)) (x1 := nI jo) (x2 := nI ju) (s1 := 0) (s2 := 1) hT hnN hk e2 (fun j hj e => by rw [← nI_inj (by omega) (by omega) e]; exact hfo) (fun j hj e => by rw [← nI_inj (by omega) (by omega) e]; exact hfu) (by decide) (ptI_nil _ _).symm e13 h16 h17 (Or.inr ⟨jo, hjo, rfl, hq_u_2⟩) (by rw [ho1]; exact Or.inr ⟨ju, hju, rfl, hq_u_3⟩)
    obtain ⟨jx, hjx, ejx, hb1, _⟩ := hF.2.2.2.2.2.1.resolve_left (fun e => nI_ne_m1 (by omega) e.1)
    have := nI_inj (by omega) (by omega) ejx
    subst this
    obtain ⟨jx, hjx, ejx, hb2, _⟩ := hF.2.2.2.2.2.2.1.resolve_left (fun e => nI_ne_m1 (by omega) e.1)
    have := nI_inj (by omega) (by omega) ejx
    subst this
    have hp1 : ∃ i1 j1, u_3 16 jo = nI i1 ∧ u_3 17 jo = nI j1 ∧ i1 ≤ j1 ∧ j1 ≤ ((c + (PL q N d (nI jo) (ptl lev) cr 0 0).length) + (PL q N d (nI ju) (ptl lev) 1 0 0).length) := ⟨_, _, (hF.2.2.2.2.2.1.resolve_left (fun e => nI_ne_m1 (by omega) e.1)).elim (fun jx h => by rw [nI_inj (a := jo) (b := jx) (by omega) (by have := h.1; omega) h.2.1]; exact h.2.2.2.1), (hF.2.2.2.2.2.1.resolve_left (fun e => nI_ne_m1 (by omega) e.1)).elim (fun jx h => by rw [nI_inj (a := jo) (b := jx) (by omega) (by have := h.1; omega) h.2.1]; exact h.2.2.2.2), by omega, by rw [ho1, List.length_nil]; omega⟩
    have hp2 : ∃ i1 j1, u_3 16 ju = nI i1 ∧ u_3 17 ju = nI j1 ∧ i1 ≤ j1 ∧ j1 ≤ ((c + (PL q N d (nI jo) (ptl lev) cr 0 0).length) + (PL q N d (nI ju) (ptl lev) 1 0 0).length) := ⟨_, _, (hF.2.2.2.2.2.2.1.resolve_left (fun e => nI_ne_m1 (by omega) e.1)).elim (fun jx h => by rw [nI_inj (a := ju) (b := jx) (by omega) (by have := h.1; omega) h.2.1]; exact h.2.2.2.1), (hF.2.2.2.2.2.2.1.resolve_left (fun e => nI_ne_m1 (by omega) e.1)).elim (fun jx h => by rw [nI_inj (a := ju) (b := jx) (by omega) (by have := h.1; omega) h.2.1]; exact h.2.2.2.2), by omega, by rw [ho1, ho2, List.length_nil]; omega⟩
    refine lv_iload_n hx hb dX3_layFraction_62 rfl (lv_at hl 5 rfl) ?_
    refine kcSN (ans := (uni lev)) C0 hP hS (c_X4_unit l D cI lev ) ⟨va_cnB 1 hts gX3_layFraction_X4_unit_n85 rfl rfl rfl C0.2.2.2.2.2.1.2.1 (hts (.initialized RX4) (by decide +kernel)) (by decide +kernel) ⟨by dsimp only [rxL, rxF, rxA]; omega, by dsimp only [rxL, rxF, rxA]; omega⟩, hts (.static yX4_unit) (by decide +kernel), trivial⟩ rfl hl.1 rfl (Nat.le_of_ble_eq_true rfl) dX3_layFraction_63 ⟨Nat.zero_le _, Nat.zero_le _⟩ (fun H locs hP hS => ?_)
    refine lv_istore (lv' := [(8, .int (uni lev)), (7, .int (ptl lev)), (6, .int (nI ju)), (5, .int (nI jo)), (0, .ref (a 20)), (1, .int (nI n)), (2, .int lev), (3, .int cr), (4, .int (nI lv))]) hx hb dX3_layFraction_66 hl (by decide) rfl (fun ls hl => ?_)
    refine lv_aload_n hx hb dX3_layFraction_68 rfl (lv_at hl 4 rfl) ?_
    refine va_get (D := D) (ci := 3) (v := .ref (a 1)) (C := RX3) (T := TX3) (N := 6) hx hb hts hin_X3 hown hK hP 20 rfl rfl 0 (by decide) hf35 (fun _ h9 => h9) rfl dX3_layFraction_69 ?_
    refine va_get (D := D) (ci := 0) (v := .ref (a 9)) (C := RX0) (T := TX0) (N := 14) hx hb hts hin_X0 hown hK hP 1 rfl rfl 10 (by decide) hf170 (fun _ h9 => h9) rfl dX3_layFraction_72 ?_
    refine lv_iload_n hx hb dX3_layFraction_75 rfl (lv_at hl 5 rfl) ?_
    refine ra_ld (f := (u_3 9)) C0 hP 9 rfl n rfl (by omega) (by decide) dX3_layFraction_76 ?_
    refine lv_eqi (show u_3 9 n = (q 7 n) by rw [(((SB.rf r).tr hq_u_2.1).tr hq_u_3.1) 9 (by decide)]; exact a9) ?_
    obtain ⟨x_4, ex_4⟩ : ∃ zz_ : Int32, zz_ = (if 0 ≤ (q 7 n) then (q 7 n) else ((uni lev) / 2)) := ⟨_, rfl⟩
    refine jW (D := D) hD hl 96 (wX cI a (vU v 4 (nI ((c + (PL q N d (nI jo) (ptl lev) cr 0 0).length) + (PL q N d (nI ju) (ptl lev) 1 0 0).length))) u_3) [(8, .int (uni lev)), (7, .int (ptl lev)), (6, .int (nI ju)), (5, .int (nI jo)), (0, .ref (a 20)), (1, .int (nI n)), (2, .int lev), (3, .int cr), (4, .int (nI lv))] [.int x_4] (fun hJ => ?_) (fun H locs ls hP hD hS hl => ?_)
    · skip
      refine lv_if_ge (tgt := 87) hx hb dX3_layFraction_77 (by decide) (fun c_77 => ?_) (fun c_77 => ?_)
      · skip
        refine lv_aload_n hx hb dX3_layFraction_87 rfl (lv_at hl 4 rfl) ?_
        refine va_get (D := D) (ci := 3) (v := .ref (a 1)) (C := RX3) (T := TX3) (N := 6) hx hb hts hin_X3 hown hK hP 20 rfl rfl 0 (by decide) hf35 (fun _ h9 => h9) rfl dX3_layFraction_88 ?_
        refine va_get (D := D) (ci := 0) (v := .ref (a 9)) (C := RX0) (T := TX0) (N := 14) hx hb hts hin_X0 hown hK hP 1 rfl rfl 10 (by decide) hf170 (fun _ h9 => h9) rfl dX3_layFraction_91 ?_
        refine lv_iload_n hx hb dX3_layFraction_94 rfl (lv_at hl 5 rfl) ?_
        refine ra_ld (f := (u_3 9)) C0 hP 9 rfl n rfl (by omega) (by decide) dX3_layFraction_95 ?_
        refine lv_eqi (show u_3 9 n = (q 7 n) by rw [(((SB.rf r).tr hq_u_2.1).tr hq_u_3.1) 9 (by decide)]; exact a9) ?_
        have gx_4 : x_4 = (q 7 n) := by rw [ex_4]; simp only [if_pos c_77]
        simp only [gx_4] at hJ
        exact hJ _ _ _ hP hD hS (lv_sub hl [0, 1, 2, 3, 4, 5, 6, 7, 8] rfl)
      · skip
        refine lv_iload hx hb dX3_layFraction_80 (lv_at hl 0 rfl) ?_
        refine lv_iconst (v := 2) hx hb dX3_layFraction_82 (by decide) ?_
        refine lv_idiv hx hb dX3_layFraction_83 (by decide) ?_
        refine lv_goto (tgt := 96) hx hb dX3_layFraction_84 (by decide) ?_
        have gx_4 : x_4 = ((uni lev) / 2) := by rw [ex_4]; simp only [if_neg c_77]
        simp only [gx_4] at hJ
        exact hJ _ _ _ hP hD hS (lv_sub hl [0, 1, 2, 3, 4, 5, 6, 7, 8] rfl)
    · skip
      refine lv_eqi (show x_4 = frT q n lev from ex_4) ?_
      refine lv_istore (lv' := [(9, .int (frT q n lev)), (8, .int (uni lev)), (7, .int (ptl lev)), (6, .int (nI ju)), (5, .int (nI jo)), (0, .ref (a 20)), (1, .int (nI n)), (2, .int lev), (3, .int cr), (4, .int (nI lv))]) hx hb dX3_layFraction_96 hl (by decide) rfl (fun ls hl => ?_)
      refine lv_iload hx hb dX3_layFraction_98 (lv_at hl 0 rfl) ?_
      refine lv_iload hx hb dX3_layFraction_100 (lv_at hl 0 rfl) ?_
      refine lv_iconst (v := 2) hx hb dX3_layFraction_102 (by decide) ?_
      refine lv_idiv hx hb dX3_layFraction_103 (by decide) ?_
      refine lv_isub hx hb dX3_layFraction_104 ?_
      refine lv_istore (lv' := [(10, .int ((frT q n lev) - ((frT q n lev) / 2))), (9, .int (frT q n lev)), (8, .int (uni lev)), (7, .int (ptl lev)), (6, .int (nI ju)), (5, .int (nI jo)), (0, .ref (a 20)), (1, .int (nI n)), (2, .int lev), (3, .int cr), (4, .int (nI lv))]) hx hb dX3_layFraction_105 hl (by decide) rfl (fun ls hl => ?_)
      refine lv_iload_n hx hb dX3_layFraction_107 rfl (lv_at hl 8 rfl) ?_
      obtain ⟨x_5, ex_5⟩ : ∃ zz_ : Int32, zz_ = (if lev = 0 then (3 * (uni lev)) else (uni lev)) := ⟨_, rfl⟩
      refine jW (D := D) hD hl 120 (wX cI a (vU v 4 (nI ((c + (PL q N d (nI jo) (ptl lev) cr 0 0).length) + (PL q N d (nI ju) (ptl lev) 1 0 0).length))) u_3) [(10, .int ((frT q n lev) - ((frT q n lev) / 2))), (9, .int (frT q n lev)), (8, .int (uni lev)), (7, .int (ptl lev)), (6, .int (nI ju)), (5, .int (nI jo)), (0, .ref (a 20)), (1, .int (nI n)), (2, .int lev), (3, .int cr), (4, .int (nI lv))] [.int x_5] (fun hJ => ?_) (fun H locs ls hP hD hS hl => ?_)
      · skip
        refine lv_if_ne (tgt := 118) hx hb dX3_layFraction_108 (by decide) (fun c_108 => ?_) (fun c_108 => ?_)
        · skip
          refine lv_iload hx hb dX3_layFraction_118 (lv_at hl 2 rfl) ?_
          have gx_5 : x_5 = (uni lev) := by rw [ex_5]; simp only [if_neg c_108]
          simp only [gx_5] at hJ
          exact hJ _ _ _ hP hD hS (lv_sub hl [0, 1, 2, 3, 4, 5, 6, 7, 8, 9, 10] rfl)
        · skip
          refine lv_iconst (v := 3) hx hb dX3_layFraction_111 (by decide) ?_
          refine lv_iload hx hb dX3_layFraction_112 (lv_at hl 2 rfl) ?_
          refine lv_imul hx hb dX3_layFraction_114 ?_
          refine lv_goto (tgt := 120) hx hb dX3_layFraction_115 (by decide) ?_
          have gx_5 : x_5 = (3 * (uni lev)) := by rw [ex_5]; simp only [if_pos c_108]
          simp only [gx_5] at hJ
          exact hJ _ _ _ hP hD hS (lv_sub hl [0, 1, 2, 3, 4, 5, 6, 7, 8, 9, 10] rfl)
      · skip
        refine lv_eqi (show x_5 = frG lev from ex_5) ?_
        refine lv_istore (lv' := [(11, .int (frG lev)), (10, .int ((frT q n lev) - ((frT q n lev) / 2))), (9, .int (frT q n lev)), (8, .int (uni lev)), (7, .int (ptl lev)), (6, .int (nI ju)), (5, .int (nI jo)), (0, .ref (a 20)), (1, .int (nI n)), (2, .int lev), (3, .int cr), (4, .int (nI lv))]) hx hb dX3_layFraction_120 hl (by decide) rfl (fun ls hl => ?_)
        refine lv_iload_n hx hb dX3_layFraction_122 rfl (lv_at hl 8 rfl) ?_
        refine kcS (ans := (nI (30 + n))) C0 hP hS (c_X1_ofAtom l D cI n) (va_cwS 1 hts gX3_layFraction_X1_ofAtom rfl rfl rfl (by decide +kernel) ⟨by dsimp only [rxL, rxF, rxA]; omega, by dsimp only [rxL, rxF, rxA]; omega⟩) rfl hl.1 rfl (Nat.le_of_ble_eq_true rfl) dX3_layFraction_123 ⟨Nat.zero_le _, Nat.zero_le _⟩ (fun H locs hP hS => ?_)
        refine lv_istore (lv' := [(12, .int (nI (30 + n))), (11, .int (frG lev)), (10, .int ((frT q n lev) - ((frT q n lev) / 2))), (9, .int (frT q n lev)), (8, .int (uni lev)), (7, .int (ptl lev)), (6, .int (nI ju)), (5, .int (nI jo)), (0, .ref (a 20)), (1, .int (nI n)), (2, .int lev), (3, .int cr), (4, .int (nI lv))]) hx hb dX3_layFraction_126 hl (by decide) rfl (fun ls hl => ?_)
        refine lv_aload_n hx hb dX3_layFraction_128 rfl (lv_at hl 8 rfl) ?_
        refine va_get (D := D) (ci := 3) (v := .ref (a 12)) (C := RX3) (T := TX3) (N := 6) hx hb hts hin_X3 hown hK hP 20 rfl rfl 1 (by decide) hf12 (fun _ h9 => h9) rfl dX3_layFraction_129 ?_
        refine va_get (D := D) (ci := 1) (v := .ref (a 13)) (C := RX1) (T := TX1) (N := 5) hx hb hts hin_X1 hown hK hP 12 rfl rfl 0 (by decide) hf46 (fun _ h9 => h9) rfl dX3_layFraction_132 ?_
        refine lv_iload hx hb dX3_layFraction_135 (lv_at hl 7 rfl) ?_
        refine ra_ld (f := (u_3 13)) C0 hP 13 rfl jo rfl (by omega) (by decide) dX3_layFraction_137 ?_
        refine lv_eqi hb1.1 ?_
        refine lv_aload_n hx hb dX3_layFraction_138 rfl (lv_at hl 8 rfl) ?_
        refine va_get (D := D) (ci := 3) (v := .ref (a 12)) (C := RX3) (T := TX3) (N := 6) hx hb hts hin_X3 hown hK hP 20 rfl rfl 1 (by decide) hf12 (fun _ h9 => h9) rfl dX3_layFraction_139 ?_
        refine va_get (D := D) (ci := 1) (v := .ref (a 13)) (C := RX1) (T := TX1) (N := 5) hx hb hts hin_X1 hown hK hP 12 rfl rfl 0 (by decide) hf46 (fun _ h9 => h9) rfl dX3_layFraction_142 ?_
        refine lv_iload hx hb dX3_layFraction_145 (lv_at hl 6 rfl) ?_
        refine ra_ld (f := (u_3 13)) C0 hP 13 rfl ju rfl (by omega) (by decide) dX3_layFraction_147 ?_
        refine lv_eqi hb2.1 ?_
        refine va_mmax hx hb (hml.trans hl.1.symm) hown (hts (.methodLink RX3 156 Lib.Math.max.name) (by decide +kernel)) (hts (.static Lib.Math.max.name) (by decide +kernel)) (hts (.initialized "java/lang/Math") (by decide +kernel)) (hts (.code Lib.Math.max.name Lib.Math.max.code 2 (some .int)) (by decide +kernel)) (by dsimp only [rxF]; omega) (Nat.le_trans (m := 60) (Nat.le_of_ble_eq_true rfl) (by dsimp only [rxF]; omega)) (Nat.zero_le _) (Nat.zero_le _) dX3_layFraction_148 ?_
        refine lv_eqi (mx_lt ((ML q N d (nI jo) (ptl lev) cr).1) ((ML q N d (nI ju) (ptl lev) 1).1)) ?_
        refine lv_iload hx hb dX3_layFraction_151 (lv_at hl 4 rfl) ?_
        refine lv_iadd hx hb dX3_layFraction_153 ?_
        refine lv_istore (lv' := [(13, .int ((mx ((ML q N d (nI jo) (ptl lev) cr).1) ((ML q N d (nI ju) (ptl lev) 1).1)) + (uni lev))), (12, .int (nI (30 + n))), (11, .int (frG lev)), (10, .int ((frT q n lev) - ((frT q n lev) / 2))), (9, .int (frT q n lev)), (8, .int (uni lev)), (7, .int (ptl lev)), (6, .int (nI ju)), (5, .int (nI jo)), (0, .ref (a 20)), (1, .int (nI n)), (2, .int lev), (3, .int cr), (4, .int (nI lv))]) hx hb dX3_layFraction_154 hl (by decide) rfl (fun ls hl => ?_)
        refine lv_iload_n hx hb dX3_layFraction_156 rfl (lv_at hl 11 rfl) ?_
        refine kcSN (ans := (2 * uni lev)) C0 hP hS (c_X4_axis l D cI lev ) ⟨va_cnB 1 hts gX3_layFraction_X4_axis_n173 rfl rfl rfl C0.2.2.2.2.2.1.2.2 (hts (.initialized RX4) (by decide +kernel)) (by decide +kernel) ⟨by dsimp only [rxL, rxF, rxA]; omega, by dsimp only [rxL, rxF, rxA]; omega⟩, hts (.static yX4_axis) (by decide +kernel), trivial⟩ rfl hl.1 rfl (Nat.le_of_ble_eq_true rfl) dX3_layFraction_157 ⟨Nat.zero_le _, Nat.zero_le _⟩ (fun H locs hP hS => ?_)
        refine lv_iload hx hb dX3_layFraction_160 (lv_at hl 4 rfl) ?_
        refine lv_iconst (v := 2) hx hb dX3_layFraction_162 (by decide) ?_
        refine lv_idiv hx hb dX3_layFraction_163 (by decide) ?_
        refine lv_iadd hx hb dX3_layFraction_164 ?_
        refine lv_iload hx hb dX3_layFraction_165 (lv_at hl 2 rfl) ?_
        refine lv_iadd hx hb dX3_layFraction_167 ?_
        refine lv_aload_n hx hb dX3_layFraction_168 rfl (lv_at hl 9 rfl) ?_
        refine va_get (D := D) (ci := 3) (v := .ref (a 12)) (C := RX3) (T := TX3) (N := 6) hx hb hts hin_X3 hown hK hP 20 rfl rfl 1 (by decide) hf12 (fun _ h9 => h9) rfl dX3_layFraction_169 ?_
        refine va_get (D := D) (ci := 1) (v := .ref (a 15)) (C := RX1) (T := TX1) (N := 5) hx hb hts hin_X1 hown hK hP 12 rfl rfl 2 (by decide) hf51 (fun _ h9 => h9) rfl dX3_layFraction_172 ?_
        refine lv_iload hx hb dX3_layFraction_175 (lv_at hl 8 rfl) ?_
        refine ra_ld (f := (u_3 15)) C0 hP 15 rfl jo rfl (by omega) (by decide) dX3_layFraction_177 ?_
        refine lv_eqi hb1.2.2 ?_
        refine lv_iadd hx hb dX3_layFraction_178 ?_
        refine lv_istore (lv' := [(14, .int ((((2 * uni lev) + ((frT q n lev) / 2)) + (frG lev)) + (ML q N d (nI jo) (ptl lev) cr).2.2)), (13, .int ((mx ((ML q N d (nI jo) (ptl lev) cr).1) ((ML q N d (nI ju) (ptl lev) 1).1)) + (uni lev))), (12, .int (nI (30 + n))), (11, .int (frG lev)), (10, .int ((frT q n lev) - ((frT q n lev) / 2))), (9, .int (frT q n lev)), (8, .int (uni lev)), (7, .int (ptl lev)), (6, .int (nI ju)), (5, .int (nI jo)), (0, .ref (a 20)), (1, .int (nI n)), (2, .int lev), (3, .int cr), (4, .int (nI lv))]) hx hb dX3_layFraction_179 hl (by decide) rfl (fun ls hl => ?_)
        refine lv_aload_n hx hb dX3_layFraction_181 rfl (lv_at hl 10 rfl) ?_
        refine va_get (D := D) (ci := 3) (v := .ref (a 12)) (C := RX3) (T := TX3) (N := 6) hx hb hts hin_X3 hown hK hP 20 rfl rfl 1 (by decide) hf12 (fun _ h9 => h9) rfl dX3_layFraction_182 ?_
        refine va_get (D := D) (ci := 1) (v := .ref (a 14)) (C := RX1) (T := TX1) (N := 5) hx hb hts hin_X1 hown hK hP 12 rfl rfl 1 (by decide) hf49 (fun _ h9 => h9) rfl dX3_layFraction_185 ?_
        refine lv_iload hx hb dX3_layFraction_188 (lv_at hl 8 rfl) ?_
        refine ra_ld (f := (u_3 14)) C0 hP 14 rfl ju rfl (by omega) (by decide) dX3_layFraction_190 ?_
        refine lv_eqi hb2.2.1 ?_
        refine lv_iload hx hb dX3_layFraction_191 (lv_at hl 3 rfl) ?_
        refine lv_iadd hx hb dX3_layFraction_193 ?_
        refine lv_iload hx hb dX3_layFraction_194 (lv_at hl 4 rfl) ?_
        refine lv_iadd hx hb dX3_layFraction_196 ?_
        refine lv_iload_n hx hb dX3_layFraction_197 rfl (lv_at hl 12 rfl) ?_
        refine kcSN (ans := (2 * uni lev)) C0 hP hS (c_X4_axis l D cI lev ) ⟨va_cnB 1 hts gX3_layFraction_X4_axis_n173 rfl rfl rfl C0.2.2.2.2.2.1.2.2 (hts (.initialized RX4) (by decide +kernel)) (by decide +kernel) ⟨by dsimp only [rxL, rxF, rxA]; omega, by dsimp only [rxL, rxF, rxA]; omega⟩, hts (.static yX4_axis) (by decide +kernel), trivial⟩ rfl hl.1 rfl (Nat.le_of_ble_eq_true rfl) dX3_layFraction_198 ⟨Nat.zero_le _, Nat.zero_le _⟩ (fun H locs hP hS => ?_)
        refine lv_isub hx hb dX3_layFraction_201 ?_
        refine lv_istore (lv' := [(15, .int ((((ML q N d (nI ju) (ptl lev) 1).2.1 + (frG lev)) + ((frT q n lev) - ((frT q n lev) / 2))) - (2 * uni lev))), (14, .int ((((2 * uni lev) + ((frT q n lev) / 2)) + (frG lev)) + (ML q N d (nI jo) (ptl lev) cr).2.2)), (13, .int ((mx ((ML q N d (nI jo) (ptl lev) cr).1) ((ML q N d (nI ju) (ptl lev) 1).1)) + (uni lev))), (12, .int (nI (30 + n))), (11, .int (frG lev)), (10, .int ((frT q n lev) - ((frT q n lev) / 2))), (9, .int (frT q n lev)), (8, .int (uni lev)), (7, .int (ptl lev)), (6, .int (nI ju)), (5, .int (nI jo)), (0, .ref (a 20)), (1, .int (nI n)), (2, .int lev), (3, .int cr), (4, .int (nI lv))]) hx hb dX3_layFraction_202 hl (by decide) rfl (fun ls hl => ?_)
        refine lv_aload_n hx hb dX3_layFraction_204 rfl (lv_at hl 11 rfl) ?_
        refine lv_iload hx hb dX3_layFraction_205 (lv_at hl 3 rfl) ?_
        refine lv_iload hx hb dX3_layFraction_207 (lv_at hl 10 rfl) ?_
        refine lv_iload hx hb dX3_layFraction_209 (lv_at hl 2 rfl) ?_
        refine lv_aload_n hx hb dX3_layFraction_211 rfl (lv_at hl 11 rfl) ?_
        refine va_get (D := D) (ci := 3) (v := .ref (a 12)) (C := RX3) (T := TX3) (N := 6) hx hb hts hin_X3 hown hK hP 20 rfl rfl 1 (by decide) hf12 (fun _ h9 => h9) rfl dX3_layFraction_212 ?_
        refine va_get (D := D) (ci := 1) (v := .ref (a 13)) (C := RX1) (T := TX1) (N := 5) hx hb hts hin_X1 hown hK hP 12 rfl rfl 0 (by decide) hf46 (fun _ h9 => h9) rfl dX3_layFraction_215 ?_
        refine lv_iload hx hb dX3_layFraction_218 (lv_at hl 10 rfl) ?_
        refine ra_ld (f := (u_3 13)) C0 hP 13 rfl jo rfl (by omega) (by decide) dX3_layFraction_220 ?_
        refine lv_eqi hb1.1 ?_
        refine lv_isub hx hb dX3_layFraction_221 ?_
        refine lv_iconst (v := 2) hx hb dX3_layFraction_222 (by decide) ?_
        refine lv_idiv hx hb dX3_layFraction_223 (by decide) ?_
        refine lv_iload hx hb dX3_layFraction_224 (lv_at hl 1 rfl) ?_
        refine kcDv C0 hP hD hS (c_X3_place l D cI a (vU v 4 (nI ((c + (PL q N d (nI jo) (ptl lev) cr 0 0).length) + (PL q N d (nI ju) (ptl lev) 1 0 0).length))) u_3 (30 + n) ((c + (PL q N d (nI jo) (ptl lev) cr 0 0).length) + (PL q N d (nI ju) (ptl lev) 1 0 0).length) (nI jo) ((((mx ((ML q N d (nI jo) (ptl lev) cr).1) ((ML q N d (nI ju) (ptl lev) 1).1)) + (uni lev)) - (ML q N d (nI jo) (ptl lev) cr).1) / 2) ((((2 * uni lev) + ((frT q n lev) / 2)) + (frG lev)) + (ML q N d (nI jo) (ptl lev) cr).2.2) rfl (by (try rw [if_neg c_257] at hcl2); omega) (by omega) (Or.inr (by obtain ⟨i1, j1, h1, h2, h3, h4⟩ := hp1; exact ⟨jo, i1, j1, by omega, rfl, h1, h2, h3, h4⟩))) (cwV 4 hts gX3_layFraction_X3_place rfl rfl rfl (by decide +kernel) ⟨by dsimp only [rxL, rxF, rxA]; omega, by dsimp only [rxL, rxF, rxA]; omega⟩) 20 3 rfl rfl rfl hl.1 rfl (Nat.le_of_ble_eq_true rfl) dX3_layFraction_226 ⟨Nat.zero_le _, Nat.zero_le _⟩ (fun H locs hP hD hS => ?_)
        have hP : va_P D vwCl (wX cI a (vU v 4 (nI ((c + (PL q N d (nI jo) (ptl lev) cr 0 0).length) + (PL q N d (nI ju) (ptl lev) 1 0 0).length))) (plR u_3 (30 + n) (nI jo) ((((mx ((ML q N d (nI jo) (ptl lev) cr).1) ((ML q N d (nI ju) (ptl lev) 1).1)) + (uni lev)) - (ML q N d (nI jo) (ptl lev) cr).1) / 2) ((((2 * uni lev) + ((frT q n lev) / 2)) + (frG lev)) + (ML q N d (nI jo) (ptl lev) cr).2.2))) H := hP
        have hD : va_D A (wX cI a (vU v 4 (nI ((c + (PL q N d (nI jo) (ptl lev) cr 0 0).length) + (PL q N d (nI ju) (ptl lev) 1 0 0).length))) (plR u_3 (30 + n) (nI jo) ((((mx ((ML q N d (nI jo) (ptl lev) cr).1) ((ML q N d (nI ju) (ptl lev) 1).1)) + (uni lev)) - (ML q N d (nI jo) (ptl lev) cr).1) / 2) ((((2 * uni lev) + ((frT q n lev) / 2)) + (frG lev)) + (ML q N d (nI jo) (ptl lev) cr).2.2))) := hD
        refine lv_aload_n hx hb dX3_layFraction_229 rfl (lv_at hl 11 rfl) ?_
        refine lv_iload hx hb dX3_layFraction_230 (lv_at hl 3 rfl) ?_
        refine lv_iload hx hb dX3_layFraction_232 (lv_at hl 9 rfl) ?_
        refine lv_iload hx hb dX3_layFraction_234 (lv_at hl 2 rfl) ?_
        refine lv_aload_n hx hb dX3_layFraction_236 rfl (lv_at hl 11 rfl) ?_
        refine va_get (D := D) (ci := 3) (v := .ref (a 12)) (C := RX3) (T := TX3) (N := 6) hx hb hts hin_X3 hown hK hP 20 rfl rfl 1 (by decide) hf12 (fun _ h9 => h9) rfl dX3_layFraction_237 ?_
        refine va_get (D := D) (ci := 1) (v := .ref (a 13)) (C := RX1) (T := TX1) (N := 5) hx hb hts hin_X1 hown hK hP 12 rfl rfl 0 (by decide) hf46 (fun _ h9 => h9) rfl dX3_layFraction_240 ?_
        refine lv_iload hx hb dX3_layFraction_243 (lv_at hl 9 rfl) ?_
        refine ra_ld (f := (u_3 13)) C0 hP 13 rfl ju rfl (by omega) (by decide) dX3_layFraction_245 ?_
        refine lv_eqi hb2.1 ?_
        refine lv_isub hx hb dX3_layFraction_246 ?_
        refine lv_iconst (v := 2) hx hb dX3_layFraction_247 (by decide) ?_
        refine lv_idiv hx hb dX3_layFraction_248 (by decide) ?_
        refine lv_iload hx hb dX3_layFraction_249 (lv_at hl 0 rfl) ?_
        refine lv_ineg hx hb dX3_layFraction_251 ?_
        refine kcDv C0 hP hD hS (c_X3_place l D cI a (vU v 4 (nI ((c + (PL q N d (nI jo) (ptl lev) cr 0 0).length) + (PL q N d (nI ju) (ptl lev) 1 0 0).length))) (plR u_3 (30 + n) (nI jo) ((((mx ((ML q N d (nI jo) (ptl lev) cr).1) ((ML q N d (nI ju) (ptl lev) 1).1)) + (uni lev)) - (ML q N d (nI jo) (ptl lev) cr).1) / 2) ((((2 * uni lev) + ((frT q n lev) / 2)) + (frG lev)) + (ML q N d (nI jo) (ptl lev) cr).2.2)) (30 + n) ((c + (PL q N d (nI jo) (ptl lev) cr 0 0).length) + (PL q N d (nI ju) (ptl lev) 1 0 0).length) (nI ju) ((((mx ((ML q N d (nI jo) (ptl lev) cr).1) ((ML q N d (nI ju) (ptl lev) 1).1)) + (uni lev)) - (ML q N d (nI ju) (ptl lev) 1).1) / 2) (-((((ML q N d (nI ju) (ptl lev) 1).2.1 + (frG lev)) + ((frT q n lev) - ((frT q n lev) / 2))) - (2 * uni lev))) rfl (by (try rw [if_neg c_257] at hcl2); omega) (by omega) (Or.inr (by obtain ⟨i1, j1, h1, h2, h3, h4⟩ := hp2; exact ⟨ju, i1, j1, by omega, rfl, h1, h2, h3, h4⟩))) (cwV 4 hts gX3_layFraction_X3_place rfl rfl rfl (by decide +kernel) ⟨by dsimp only [rxL, rxF, rxA]; omega, by dsimp only [rxL, rxF, rxA]; omega⟩) 20 3 rfl rfl rfl hl.1 rfl (Nat.le_of_ble_eq_true rfl) dX3_layFraction_252 ⟨Nat.zero_le _, Nat.zero_le _⟩ (fun H locs hP hD hS => ?_)
        have hP : va_P D vwCl (wX cI a (vU v 4 (nI ((c + (PL q N d (nI jo) (ptl lev) cr 0 0).length) + (PL q N d (nI ju) (ptl lev) 1 0 0).length))) (plR (plR u_3 (30 + n) (nI jo) ((((mx ((ML q N d (nI jo) (ptl lev) cr).1) ((ML q N d (nI ju) (ptl lev) 1).1)) + (uni lev)) - (ML q N d (nI jo) (ptl lev) cr).1) / 2) ((((2 * uni lev) + ((frT q n lev) / 2)) + (frG lev)) + (ML q N d (nI jo) (ptl lev) cr).2.2)) (30 + n) (nI ju) ((((mx ((ML q N d (nI jo) (ptl lev) cr).1) ((ML q N d (nI ju) (ptl lev) 1).1)) + (uni lev)) - (ML q N d (nI ju) (ptl lev) 1).1) / 2) (-((((ML q N d (nI ju) (ptl lev) 1).2.1 + (frG lev)) + ((frT q n lev) - ((frT q n lev) / 2))) - (2 * uni lev))))) H := hP
        have hD : va_D A (wX cI a (vU v 4 (nI ((c + (PL q N d (nI jo) (ptl lev) cr 0 0).length) + (PL q N d (nI ju) (ptl lev) 1 0 0).length))) (plR (plR u_3 (30 + n) (nI jo) ((((mx ((ML q N d (nI jo) (ptl lev) cr).1) ((ML q N d (nI ju) (ptl lev) 1).1)) + (uni lev)) - (ML q N d (nI jo) (ptl lev) cr).1) / 2) ((((2 * uni lev) + ((frT q n lev) / 2)) + (frG lev)) + (ML q N d (nI jo) (ptl lev) cr).2.2)) (30 + n) (nI ju) ((((mx ((ML q N d (nI jo) (ptl lev) cr).1) ((ML q N d (nI ju) (ptl lev) 1).1)) + (uni lev)) - (ML q N d (nI ju) (ptl lev) 1).1) / 2) (-((((ML q N d (nI ju) (ptl lev) 1).2.1 + (frG lev)) + ((frT q n lev) - ((frT q n lev) / 2))) - (2 * uni lev))))) := hD
        refine lv_iload hx hb dX3_layFraction_255 (lv_at hl 6 rfl) ?_
        have hfin := fr_fin (X1 := ((mx (ML q N d (nI jo) (ptl lev) cr).1 (ML q N d (nI ju) (ptl lev) 1).1 + uni lev) - (ML q N d (nI jo) (ptl lev) cr).1) / 2) (X2 := ((mx (ML q N d (nI jo) (ptl lev) cr).1 (ML q N d (nI ju) (ptl lev) 1).1 + uni lev) - (ML q N d (nI ju) (ptl lev) 1).1) / 2) (Uu := 2 * uni lev + frT q n lev / 2 + frG lev + (ML q N d (nI jo) (ptl lev) cr).2.2) (Dn := (ML q N d (nI ju) (ptl lev) 1).2.1 + frG lev + (frT q n lev - frT q n lev / 2) - 2 * uni lev) (Wd := mx (ML q N d (nI jo) (ptl lev) cr).1 (ML q N d (nI ju) (ptl lev) 1).1 + uni lev) hn hjo hju eo eu hF (by rw [ho1, ho2]; omega) (by unfold mFr; rw [eo, eu]) (by unfold mFr; rw [eo, eu]) (by unfold mFr; rw [eo, eu]) (by unfold frU; rw [eo]) (by unfold frD; rw [eu, fr_dn])
        refine lv_if_le (tgt := 325) hx hb dX3_layFraction_257 (by decide) (fun c_257 => ?_) (fun c_257 => ?_)
        · skip
          refine lv_aload_n hx hb dX3_layFraction_325 rfl (lv_at hl 11 rfl) ?_
          refine va_get (D := D) (ci := 3) (v := .ref (a 12)) (C := RX3) (T := TX3) (N := 6) hx hb hts hin_X3 hown hK hP 20 rfl rfl 1 (by decide) hf12 (fun _ h9 => h9) rfl dX3_layFraction_326 ?_
          refine va_get (D := D) (ci := 1) (v := .ref (a 13)) (C := RX1) (T := TX1) (N := 5) hx hb hts hin_X1 hown hK hP 12 rfl rfl 0 (by decide) hf46 (fun _ h9 => h9) rfl dX3_layFraction_329 ?_
          refine lv_iload hx hb dX3_layFraction_332 (lv_at hl 3 rfl) ?_
          refine lv_iload hx hb dX3_layFraction_334 (lv_at hl 2 rfl) ?_
          refine ra_st (f := (u_3 13)) C0 hP hD hS 13 rfl (30 + n) rfl (by omega) (by decide) dX3_layFraction_336 (fun H locs hP hD hS => ?_)
          have hset : ∀ (R_ : Nat → Nat → Int32) (y4_ : Int32) (g_ : Nat → Int32), (wX cI a (vU v 4 y4_) R_).set 13 (a 13, .inl (cI, 150, .inl g_)) = (wX cI a (vU v 4 y4_) (rU R_ 13 g_)) := fun _ _ _ => rfl
          rw [hset] at hP hD
          have hw4 : ((c + (PL q N d (nI jo) (ptl lev) cr 0 0).length) + (PL q N d (nI ju) (ptl lev) 1 0 0).length) = c + (pFr (ML q N d) (PL q N d) q n lev cr 0 0).length := by rw [pFr_len eo eu, if_pos c_257] <;> omega
          have hw5 : (wX cI a (vU v 4 (nI ((c + (PL q N d (nI jo) (ptl lev) cr 0 0).length) + (PL q N d (nI ju) (ptl lev) 1 0 0).length))) (rU (plR (plR u_3 (30 + n) (nI jo) ((((mx ((ML q N d (nI jo) (ptl lev) cr).1) ((ML q N d (nI ju) (ptl lev) 1).1)) + (uni lev)) - (ML q N d (nI jo) (ptl lev) cr).1) / 2) ((((2 * uni lev) + ((frT q n lev) / 2)) + (frG lev)) + (ML q N d (nI jo) (ptl lev) cr).2.2)) (30 + n) (nI ju) ((((mx ((ML q N d (nI jo) (ptl lev) cr).1) ((ML q N d (nI ju) (ptl lev) 1).1)) + (uni lev)) - (ML q N d (nI ju) (ptl lev) 1).1) / 2) (-((((ML q N d (nI ju) (ptl lev) 1).2.1 + (frG lev)) + ((frT q n lev) - ((frT q n lev) / 2))) - (2 * uni lev)))) 13 (upd (u_3 13) (30 + n) ((mx ((ML q N d (nI jo) (ptl lev) cr).1) ((ML q N d (nI ju) (ptl lev) 1).1)) + (uni lev))))) = (wX cI a (vU v 4 (nI (c + (pFr (ML q N d) (PL q N d) q n lev cr 0 0).length))) (rU (plR (plR u_3 (30 + n) (nI jo) ((((mx ((ML q N d (nI jo) (ptl lev) cr).1) ((ML q N d (nI ju) (ptl lev) 1).1)) + (uni lev)) - (ML q N d (nI jo) (ptl lev) cr).1) / 2) ((((2 * uni lev) + ((frT q n lev) / 2)) + (frG lev)) + (ML q N d (nI jo) (ptl lev) cr).2.2)) (30 + n) (nI ju) ((((mx ((ML q N d (nI jo) (ptl lev) cr).1) ((ML q N d (nI ju) (ptl lev) 1).1)) + (uni lev)) - (ML q N d (nI ju) (ptl lev) 1).1) / 2) (-((((ML q N d (nI ju) (ptl lev) 1).2.1 + (frG lev)) + ((frT q n lev) - ((frT q n lev) / 2))) - (2 * uni lev)))) 13 (upd (u_3 13) (30 + n) ((mx ((ML q N d (nI jo) (ptl lev) cr).1) ((ML q N d (nI ju) (ptl lev) 1).1)) + (uni lev))))) := by rw [hw4]
          rw [hw5] at hP hD
          exact k_vret C0 (rU (plR (plR u_3 (30 + n) (nI jo) ((((mx ((ML q N d (nI jo) (ptl lev) cr).1) ((ML q N d (nI ju) (ptl lev) 1).1)) + (uni lev)) - (ML q N d (nI jo) (ptl lev) cr).1) / 2) ((((2 * uni lev) + ((frT q n lev) / 2)) + (frG lev)) + (ML q N d (nI jo) (ptl lev) cr).2.2)) (30 + n) (nI ju) ((((mx ((ML q N d (nI jo) (ptl lev) cr).1) ((ML q N d (nI ju) (ptl lev) 1).1)) + (uni lev)) - (ML q N d (nI ju) (ptl lev) 1).1) / 2) (-((((ML q N d (nI ju) (ptl lev) 1).2.1 + (frG lev)) + ((frT q n lev) - ((frT q n lev) / 2))) - (2 * uni lev)))) 13 (upd (u_3 13) (30 + n) ((mx ((ML q N d (nI jo) (ptl lev) cr).1) ((ML q N d (nI ju) (ptl lev) 1).1)) + (uni lev)))) hP hD hS (hfin.1 c_257) dX3_layFraction_337
        · skip
          refine lv_aload_n hx hb dX3_layFraction_260 rfl (lv_at hl 11 rfl) ?_
          refine va_get (D := D) (ci := 3) (v := .ref (a 18)) (C := RX3) (T := TX3) (N := 6) hx hb hts hin_X3 hown hK hP 20 rfl rfl 2 (by decide) hf21 (fun _ h9 => h9) rfl dX3_layFraction_261 ?_
          refine lv_iconst (v := 1) hx hb dX3_layFraction_264 (by decide) ?_
          refine lv_iload_n hx hb dX3_layFraction_265 rfl (lv_at hl 12 rfl) ?_
          refine lv_iconst (v := 0) hx hb dX3_layFraction_266 (by decide) ?_
          refine kcD (ans := (nI ((c + (PL q N d (nI jo) (ptl lev) cr 0 0).length) + (PL q N d (nI ju) (ptl lev) 1 0 0).length))) C0 hP hD hS (c_X2_add2 l D cI a v (plR (plR u_3 (30 + n) (nI jo) ((((mx ((ML q N d (nI jo) (ptl lev) cr).1) ((ML q N d (nI ju) (ptl lev) 1).1)) + (uni lev)) - (ML q N d (nI jo) (ptl lev) cr).1) / 2) ((((2 * uni lev) + ((frT q n lev) / 2)) + (frG lev)) + (ML q N d (nI jo) (ptl lev) cr).2.2)) (30 + n) (nI ju) ((((mx ((ML q N d (nI jo) (ptl lev) cr).1) ((ML q N d (nI ju) (ptl lev) 1).1)) + (uni lev)) - (ML q N d (nI ju) (ptl lev) 1).1) / 2) (-((((ML q N d (nI ju) (ptl lev) 1).2.1 + (frG lev)) + ((frT q n lev) - ((frT q n lev) / 2))) - (2 * uni lev)))) 1 (nI n) 0 ((c + (PL q N d (nI jo) (ptl lev) cr 0 0).length) + (PL q N d (nI ju) (ptl lev) 1 0 0).length) (by rw [if_neg c_257] at hcl2; omega)) (cwV 3 hts gX3_layFraction_X2_add rfl rfl rfl (by decide +kernel) ⟨by dsimp only [rxL, rxF, rxA]; omega, by dsimp only [rxL, rxF, rxA]; omega⟩) 18 2 rfl rfl rfl hl.1 rfl (Nat.le_of_ble_eq_true rfl) dX3_layFraction_267 ⟨Nat.zero_le _, Nat.zero_le _⟩ (fun H locs hP hD hS => ?_)
          have hP : va_P D vwCl (wX cI a (vU v 4 (nI (((c + (PL q N d (nI jo) (ptl lev) cr 0 0).length) + (PL q N d (nI ju) (ptl lev) 1 0 0).length) + 1))) (itR (plR (plR u_3 (30 + n) (nI jo) ((((mx ((ML q N d (nI jo) (ptl lev) cr).1) ((ML q N d (nI ju) (ptl lev) 1).1)) + (uni lev)) - (ML q N d (nI jo) (ptl lev) cr).1) / 2) ((((2 * uni lev) + ((frT q n lev) / 2)) + (frG lev)) + (ML q N d (nI jo) (ptl lev) cr).2.2)) (30 + n) (nI ju) ((((mx ((ML q N d (nI jo) (ptl lev) cr).1) ((ML q N d (nI ju) (ptl lev) 1).1)) + (uni lev)) - (ML q N d (nI ju) (ptl lev) 1).1) / 2) (-((((ML q N d (nI ju) (ptl lev) 1).2.1 + (frG lev)) + ((frT q n lev) - ((frT q n lev) / 2))) - (2 * uni lev)))) ((c + (PL q N d (nI jo) (ptl lev) cr 0 0).length) + (PL q N d (nI ju) (ptl lev) 1 0 0).length) 1 (nI n) 0)) H := hP
          have hD : va_D A (wX cI a (vU v 4 (nI (((c + (PL q N d (nI jo) (ptl lev) cr 0 0).length) + (PL q N d (nI ju) (ptl lev) 1 0 0).length) + 1))) (itR (plR (plR u_3 (30 + n) (nI jo) ((((mx ((ML q N d (nI jo) (ptl lev) cr).1) ((ML q N d (nI ju) (ptl lev) 1).1)) + (uni lev)) - (ML q N d (nI jo) (ptl lev) cr).1) / 2) ((((2 * uni lev) + ((frT q n lev) / 2)) + (frG lev)) + (ML q N d (nI jo) (ptl lev) cr).2.2)) (30 + n) (nI ju) ((((mx ((ML q N d (nI jo) (ptl lev) cr).1) ((ML q N d (nI ju) (ptl lev) 1).1)) + (uni lev)) - (ML q N d (nI ju) (ptl lev) 1).1) / 2) (-((((ML q N d (nI ju) (ptl lev) 1).2.1 + (frG lev)) + ((frT q n lev) - ((frT q n lev) / 2))) - (2 * uni lev)))) ((c + (PL q N d (nI jo) (ptl lev) cr 0 0).length) + (PL q N d (nI ju) (ptl lev) 1 0 0).length) 1 (nI n) 0)) := hD
          refine lv_istore (lv' := [(16, .int (nI ((c + (PL q N d (nI jo) (ptl lev) cr 0 0).length) + (PL q N d (nI ju) (ptl lev) 1 0 0).length))), (15, .int ((((ML q N d (nI ju) (ptl lev) 1).2.1 + (frG lev)) + ((frT q n lev) - ((frT q n lev) / 2))) - (2 * uni lev))), (14, .int ((((2 * uni lev) + ((frT q n lev) / 2)) + (frG lev)) + (ML q N d (nI jo) (ptl lev) cr).2.2)), (13, .int ((mx ((ML q N d (nI jo) (ptl lev) cr).1) ((ML q N d (nI ju) (ptl lev) 1).1)) + (uni lev))), (12, .int (nI (30 + n))), (11, .int (frG lev)), (10, .int ((frT q n lev) - ((frT q n lev) / 2))), (9, .int (frT q n lev)), (8, .int (uni lev)), (7, .int (ptl lev)), (6, .int (nI ju)), (5, .int (nI jo)), (0, .ref (a 20)), (1, .int (nI n)), (2, .int lev), (3, .int cr), (4, .int (nI lv))]) hx hb dX3_layFraction_270 hl (by decide) rfl (fun ls hl => ?_)
          refine lv_aload_n hx hb dX3_layFraction_272 rfl (lv_at hl 12 rfl) ?_
          refine va_get (D := D) (ci := 3) (v := .ref (a 18)) (C := RX3) (T := TX3) (N := 6) hx hb hts hin_X3 hown hK hP 20 rfl rfl 2 (by decide) hf21 (fun _ h9 => h9) rfl dX3_layFraction_273 ?_
          refine lv_iload hx hb dX3_layFraction_276 (lv_at hl 0 rfl) ?_
          refine lv_iload hx hb dX3_layFraction_278 (lv_at hl 7 rfl) ?_
          refine lv_iload hx hb dX3_layFraction_280 (lv_at hl 3 rfl) ?_
          refine kcDv C0 hP hD hS (c_X2_measure l D cI a (vU v 4 (nI (((c + (PL q N d (nI jo) (ptl lev) cr 0 0).length) + (PL q N d (nI ju) (ptl lev) 1 0 0).length) + 1))) (itR (plR (plR u_3 (30 + n) (nI jo) ((((mx ((ML q N d (nI jo) (ptl lev) cr).1) ((ML q N d (nI ju) (ptl lev) 1).1)) + (uni lev)) - (ML q N d (nI jo) (ptl lev) cr).1) / 2) ((((2 * uni lev) + ((frT q n lev) / 2)) + (frG lev)) + (ML q N d (nI jo) (ptl lev) cr).2.2)) (30 + n) (nI ju) ((((mx ((ML q N d (nI jo) (ptl lev) cr).1) ((ML q N d (nI ju) (ptl lev) 1).1)) + (uni lev)) - (ML q N d (nI ju) (ptl lev) 1).1) / 2) (-((((ML q N d (nI ju) (ptl lev) 1).2.1 + (frG lev)) + ((frT q n lev) - ((frT q n lev) / 2))) - (2 * uni lev)))) ((c + (PL q N d (nI jo) (ptl lev) cr 0 0).length) + (PL q N d (nI ju) (ptl lev) 1 0 0).length) 1 (nI n) 0) ((c + (PL q N d (nI jo) (ptl lev) cr 0 0).length) + (PL q N d (nI ju) (ptl lev) 1 0 0).length) (((c + (PL q N d (nI jo) (ptl lev) cr 0 0).length) + (PL q N d (nI ju) (ptl lev) 1 0 0).length) + 1) (frT q n lev) ((mx ((ML q N d (nI jo) (ptl lev) cr).1) ((ML q N d (nI ju) (ptl lev) 1).1)) + (uni lev)) rfl (by (try rw [if_neg c_257] at hcl2); omega) (by rw [if_neg c_257] at hcl2; omega)) (cwV 3 hts gX3_layFraction_X2_measure rfl rfl rfl (by decide +kernel) ⟨by dsimp only [rxL, rxF, rxA]; omega, by dsimp only [rxL, rxF, rxA]; omega⟩) 18 2 rfl rfl rfl hl.1 rfl (Nat.le_of_ble_eq_true rfl) dX3_layFraction_282 ⟨Nat.zero_le _, Nat.zero_le _⟩ (fun H locs hP hD hS => ?_)
          have hP : va_P D vwCl (wX cI a (vU v 4 (nI (((c + (PL q N d (nI jo) (ptl lev) cr 0 0).length) + (PL q N d (nI ju) (ptl lev) 1 0 0).length) + 1))) (msR (itR (plR (plR u_3 (30 + n) (nI jo) ((((mx ((ML q N d (nI jo) (ptl lev) cr).1) ((ML q N d (nI ju) (ptl lev) 1).1)) + (uni lev)) - (ML q N d (nI jo) (ptl lev) cr).1) / 2) ((((2 * uni lev) + ((frT q n lev) / 2)) + (frG lev)) + (ML q N d (nI jo) (ptl lev) cr).2.2)) (30 + n) (nI ju) ((((mx ((ML q N d (nI jo) (ptl lev) cr).1) ((ML q N d (nI ju) (ptl lev) 1).1)) + (uni lev)) - (ML q N d (nI ju) (ptl lev) 1).1) / 2) (-((((ML q N d (nI ju) (ptl lev) 1).2.1 + (frG lev)) + ((frT q n lev) - ((frT q n lev) / 2))) - (2 * uni lev)))) ((c + (PL q N d (nI jo) (ptl lev) cr 0 0).length) + (PL q N d (nI ju) (ptl lev) 1 0 0).length) 1 (nI n) 0) ((c + (PL q N d (nI jo) (ptl lev) cr 0 0).length) + (PL q N d (nI ju) (ptl lev) 1 0 0).length) (frT q n lev) ((mx ((ML q N d (nI jo) (ptl lev) cr).1) ((ML q N d (nI ju) (ptl lev) 1).1)) + (uni lev)))) H := hP
          have hD : va_D A (wX cI a (vU v 4 (nI (((c + (PL q N d (nI jo) (ptl lev) cr 0 0).length) + (PL q N d (nI ju) (ptl lev) 1 0 0).length) + 1))) (msR (itR (plR (plR u_3 (30 + n) (nI jo) ((((mx ((ML q N d (nI jo) (ptl lev) cr).1) ((ML q N d (nI ju) (ptl lev) 1).1)) + (uni lev)) - (ML q N d (nI jo) (ptl lev) cr).1) / 2) ((((2 * uni lev) + ((frT q n lev) / 2)) + (frG lev)) + (ML q N d (nI jo) (ptl lev) cr).2.2)) (30 + n) (nI ju) ((((mx ((ML q N d (nI jo) (ptl lev) cr).1) ((ML q N d (nI ju) (ptl lev) 1).1)) + (uni lev)) - (ML q N d (nI ju) (ptl lev) 1).1) / 2) (-((((ML q N d (nI ju) (ptl lev) 1).2.1 + (frG lev)) + ((frT q n lev) - ((frT q n lev) / 2))) - (2 * uni lev)))) ((c + (PL q N d (nI jo) (ptl lev) cr 0 0).length) + (PL q N d (nI ju) (ptl lev) 1 0 0).length) 1 (nI n) 0) ((c + (PL q N d (nI jo) (ptl lev) cr 0 0).length) + (PL q N d (nI ju) (ptl lev) 1 0 0).length) (frT q n lev) ((mx ((ML q N d (nI jo) (ptl lev) cr).1) ((ML q N d (nI ju) (ptl lev) 1).1)) + (uni lev)))) := hD
          refine lv_aload_n hx hb dX3_layFraction_285 rfl (lv_at hl 12 rfl) ?_
          refine va_get (D := D) (ci := 3) (v := .ref (a 18)) (C := RX3) (T := TX3) (N := 6) hx hb hts hin_X3 hown hK hP 20 rfl rfl 2 (by decide) hf21 (fun _ h9 => h9) rfl dX3_layFraction_286 ?_
          refine lv_iload hx hb dX3_layFraction_289 (lv_at hl 0 rfl) ?_
          refine lv_iload hx hb dX3_layFraction_291 (lv_at hl 0 rfl) ?_
          refine lv_iconst (v := 1) hx hb dX3_layFraction_293 (by decide) ?_
          refine lv_iadd hx hb dX3_layFraction_294 ?_
          refine lv_eqi (nI_1 _) ?_
          refine lv_iconst (v := 0) hx hb dX3_layFraction_295 (by decide) ?_
          refine lv_iload_n hx hb dX3_layFraction_296 rfl (lv_at hl 14 rfl) ?_
          refine kcSN (ans := (2 * uni lev)) C0 hP hS (c_X4_axis l D cI lev ) ⟨va_cnB 1 hts gX3_layFraction_X4_axis_n173 rfl rfl rfl C0.2.2.2.2.2.1.2.2 (hts (.initialized RX4) (by decide +kernel)) (by decide +kernel) ⟨by dsimp only [rxL, rxF, rxA]; omega, by dsimp only [rxL, rxF, rxA]; omega⟩, hts (.static yX4_axis) (by decide +kernel), trivial⟩ rfl hl.1 rfl (Nat.le_of_ble_eq_true rfl) dX3_layFraction_297 ⟨Nat.zero_le _, Nat.zero_le _⟩ (fun H locs hP hS => ?_)
          refine lv_iload hx hb dX3_layFraction_300 (lv_at hl 6 rfl) ?_
          refine lv_isub hx hb dX3_layFraction_302 ?_
          refine lv_eqi (show _ = frY q n lev from rfl) ?_
          refine kcDv C0 hP hD hS (c_X2_shift l D cI a (vU v 4 (nI (((c + (PL q N d (nI jo) (ptl lev) cr 0 0).length) + (PL q N d (nI ju) (ptl lev) 1 0 0).length) + 1))) (msR (itR (plR (plR u_3 (30 + n) (nI jo) ((((mx ((ML q N d (nI jo) (ptl lev) cr).1) ((ML q N d (nI ju) (ptl lev) 1).1)) + (uni lev)) - (ML q N d (nI jo) (ptl lev) cr).1) / 2) ((((2 * uni lev) + ((frT q n lev) / 2)) + (frG lev)) + (ML q N d (nI jo) (ptl lev) cr).2.2)) (30 + n) (nI ju) ((((mx ((ML q N d (nI jo) (ptl lev) cr).1) ((ML q N d (nI ju) (ptl lev) 1).1)) + (uni lev)) - (ML q N d (nI ju) (ptl lev) 1).1) / 2) (-((((ML q N d (nI ju) (ptl lev) 1).2.1 + (frG lev)) + ((frT q n lev) - ((frT q n lev) / 2))) - (2 * uni lev)))) ((c + (PL q N d (nI jo) (ptl lev) cr 0 0).length) + (PL q N d (nI ju) (ptl lev) 1 0 0).length) 1 (nI n) 0) ((c + (PL q N d (nI jo) (ptl lev) cr 0 0).length) + (PL q N d (nI ju) (ptl lev) 1 0 0).length) (frT q n lev) ((mx ((ML q N d (nI jo) (ptl lev) cr).1) ((ML q N d (nI ju) (ptl lev) 1).1)) + (uni lev))) ((c + (PL q N d (nI jo) (ptl lev) cr 0 0).length) + (PL q N d (nI ju) (ptl lev) 1 0 0).length) (((c + (PL q N d (nI jo) (ptl lev) cr 0 0).length) + (PL q N d (nI ju) (ptl lev) 1 0 0).length) + 1) (((c + (PL q N d (nI jo) (ptl lev) cr 0 0).length) + (PL q N d (nI ju) (ptl lev) 1 0 0).length) + 1) 0 (frY q n lev) rfl (by (try rw [if_neg c_257] at hcl2); omega) (by omega) (by omega)) (cwV 4 hts gX3_layFraction_X2_shift rfl rfl rfl (by decide +kernel) ⟨by dsimp only [rxL, rxF, rxA]; omega, by dsimp only [rxL, rxF, rxA]; omega⟩) 18 2 rfl rfl rfl hl.1 rfl (Nat.le_of_ble_eq_true rfl) dX3_layFraction_303 ⟨Nat.zero_le _, Nat.zero_le _⟩ (fun H locs hP hD hS => ?_)
          have hP : va_P D vwCl (wX cI a (vU v 4 (nI (((c + (PL q N d (nI jo) (ptl lev) cr 0 0).length) + (PL q N d (nI ju) (ptl lev) 1 0 0).length) + 1))) (shR (msR (itR (plR (plR u_3 (30 + n) (nI jo) ((((mx ((ML q N d (nI jo) (ptl lev) cr).1) ((ML q N d (nI ju) (ptl lev) 1).1)) + (uni lev)) - (ML q N d (nI jo) (ptl lev) cr).1) / 2) ((((2 * uni lev) + ((frT q n lev) / 2)) + (frG lev)) + (ML q N d (nI jo) (ptl lev) cr).2.2)) (30 + n) (nI ju) ((((mx ((ML q N d (nI jo) (ptl lev) cr).1) ((ML q N d (nI ju) (ptl lev) 1).1)) + (uni lev)) - (ML q N d (nI ju) (ptl lev) 1).1) / 2) (-((((ML q N d (nI ju) (ptl lev) 1).2.1 + (frG lev)) + ((frT q n lev) - ((frT q n lev) / 2))) - (2 * uni lev)))) ((c + (PL q N d (nI jo) (ptl lev) cr 0 0).length) + (PL q N d (nI ju) (ptl lev) 1 0 0).length) 1 (nI n) 0) ((c + (PL q N d (nI jo) (ptl lev) cr 0 0).length) + (PL q N d (nI ju) (ptl lev) 1 0 0).length) (frT q n lev) ((mx ((ML q N d (nI jo) (ptl lev) cr).1) ((ML q N d (nI ju) (ptl lev) 1).1)) + (uni lev))) 0 (frY q n lev) ((c + (PL q N d (nI jo) (ptl lev) cr 0 0).length) + (PL q N d (nI ju) (ptl lev) 1 0 0).length) (((c + (PL q N d (nI jo) (ptl lev) cr 0 0).length) + (PL q N d (nI ju) (ptl lev) 1 0 0).length) + 1))) H := hP
          have hD : va_D A (wX cI a (vU v 4 (nI (((c + (PL q N d (nI jo) (ptl lev) cr 0 0).length) + (PL q N d (nI ju) (ptl lev) 1 0 0).length) + 1))) (shR (msR (itR (plR (plR u_3 (30 + n) (nI jo) ((((mx ((ML q N d (nI jo) (ptl lev) cr).1) ((ML q N d (nI ju) (ptl lev) 1).1)) + (uni lev)) - (ML q N d (nI jo) (ptl lev) cr).1) / 2) ((((2 * uni lev) + ((frT q n lev) / 2)) + (frG lev)) + (ML q N d (nI jo) (ptl lev) cr).2.2)) (30 + n) (nI ju) ((((mx ((ML q N d (nI jo) (ptl lev) cr).1) ((ML q N d (nI ju) (ptl lev) 1).1)) + (uni lev)) - (ML q N d (nI ju) (ptl lev) 1).1) / 2) (-((((ML q N d (nI ju) (ptl lev) 1).2.1 + (frG lev)) + ((frT q n lev) - ((frT q n lev) / 2))) - (2 * uni lev)))) ((c + (PL q N d (nI jo) (ptl lev) cr 0 0).length) + (PL q N d (nI ju) (ptl lev) 1 0 0).length) 1 (nI n) 0) ((c + (PL q N d (nI jo) (ptl lev) cr 0 0).length) + (PL q N d (nI ju) (ptl lev) 1 0 0).length) (frT q n lev) ((mx ((ML q N d (nI jo) (ptl lev) cr).1) ((ML q N d (nI ju) (ptl lev) 1).1)) + (uni lev))) 0 (frY q n lev) ((c + (PL q N d (nI jo) (ptl lev) cr 0 0).length) + (PL q N d (nI ju) (ptl lev) 1 0 0).length) (((c + (PL q N d (nI jo) (ptl lev) cr 0 0).length) + (PL q N d (nI ju) (ptl lev) 1 0 0).length) + 1))) := hD
          refine lv_aload_n hx hb dX3_layFraction_306 rfl (lv_at hl 12 rfl) ?_
          refine va_get (D := D) (ci := 3) (v := .ref (a 12)) (C := RX3) (T := TX3) (N := 6) hx hb hts hin_X3 hown hK hP 20 rfl rfl 1 (by decide) hf12 (fun _ h9 => h9) rfl dX3_layFraction_307 ?_
          refine lv_iload hx hb dX3_layFraction_310 (lv_at hl 4 rfl) ?_
          refine lv_iload_n hx hb dX3_layFraction_312 rfl (lv_at hl 14 rfl) ?_
          refine kcSN (ans := (2 * uni lev)) C0 hP hS (c_X4_axis l D cI lev ) ⟨va_cnB 1 hts gX3_layFraction_X4_axis_n173 rfl rfl rfl C0.2.2.2.2.2.1.2.2 (hts (.initialized RX4) (by decide +kernel)) (by decide +kernel) ⟨by dsimp only [rxL, rxF, rxA]; omega, by dsimp only [rxL, rxF, rxA]; omega⟩, hts (.static yX4_axis) (by decide +kernel), trivial⟩ rfl hl.1 rfl (Nat.le_of_ble_eq_true rfl) dX3_layFraction_313 ⟨Nat.zero_le _, Nat.zero_le _⟩ (fun H locs hP hS => ?_)
          refine lv_iload hx hb dX3_layFraction_316 (lv_at hl 6 rfl) ?_
          refine lv_isub hx hb dX3_layFraction_318 ?_
          refine lv_eqi (show _ = frY q n lev from rfl) ?_
          refine lv_iload hx hb dX3_layFraction_319 (lv_at hl 7 rfl) ?_
          refine lv_iconst (v := 0) hx hb dX3_layFraction_321 (by decide) ?_
          refine kcDv C0 hP hD hS (c_X1_cover l D cI a (vU v 4 (nI (((c + (PL q N d (nI jo) (ptl lev) cr 0 0).length) + (PL q N d (nI ju) (ptl lev) 1 0 0).length) + 1))) (shR (msR (itR (plR (plR u_3 (30 + n) (nI jo) ((((mx ((ML q N d (nI jo) (ptl lev) cr).1) ((ML q N d (nI ju) (ptl lev) 1).1)) + (uni lev)) - (ML q N d (nI jo) (ptl lev) cr).1) / 2) ((((2 * uni lev) + ((frT q n lev) / 2)) + (frG lev)) + (ML q N d (nI jo) (ptl lev) cr).2.2)) (30 + n) (nI ju) ((((mx ((ML q N d (nI jo) (ptl lev) cr).1) ((ML q N d (nI ju) (ptl lev) 1).1)) + (uni lev)) - (ML q N d (nI ju) (ptl lev) 1).1) / 2) (-((((ML q N d (nI ju) (ptl lev) 1).2.1 + (frG lev)) + ((frT q n lev) - ((frT q n lev) / 2))) - (2 * uni lev)))) ((c + (PL q N d (nI jo) (ptl lev) cr 0 0).length) + (PL q N d (nI ju) (ptl lev) 1 0 0).length) 1 (nI n) 0) ((c + (PL q N d (nI jo) (ptl lev) cr 0 0).length) + (PL q N d (nI ju) (ptl lev) 1 0 0).length) (frT q n lev) ((mx ((ML q N d (nI jo) (ptl lev) cr).1) ((ML q N d (nI ju) (ptl lev) 1).1)) + (uni lev))) 0 (frY q n lev) ((c + (PL q N d (nI jo) (ptl lev) cr 0 0).length) + (PL q N d (nI ju) (ptl lev) 1 0 0).length) (((c + (PL q N d (nI jo) (ptl lev) cr 0 0).length) + (PL q N d (nI ju) (ptl lev) 1 0 0).length) + 1)) (30 + n) (frY q n lev) (frT q n lev) 0 (by omega)) (cwV 4 hts gX3_layFraction_X1_cover rfl rfl rfl (by decide +kernel) ⟨by dsimp only [rxL, rxF, rxA]; omega, by dsimp only [rxL, rxF, rxA]; omega⟩) 12 1 rfl rfl rfl hl.1 rfl (Nat.le_of_ble_eq_true rfl) dX3_layFraction_322 ⟨Nat.zero_le _, Nat.zero_le _⟩ (fun H locs hP hD hS => ?_)
          have hP : va_P D vwCl (wX cI a (vU v 4 (nI (((c + (PL q N d (nI jo) (ptl lev) cr 0 0).length) + (PL q N d (nI ju) (ptl lev) 1 0 0).length) + 1))) (cvR (shR (msR (itR (plR (plR u_3 (30 + n) (nI jo) ((((mx ((ML q N d (nI jo) (ptl lev) cr).1) ((ML q N d (nI ju) (ptl lev) 1).1)) + (uni lev)) - (ML q N d (nI jo) (ptl lev) cr).1) / 2) ((((2 * uni lev) + ((frT q n lev) / 2)) + (frG lev)) + (ML q N d (nI jo) (ptl lev) cr).2.2)) (30 + n) (nI ju) ((((mx ((ML q N d (nI jo) (ptl lev) cr).1) ((ML q N d (nI ju) (ptl lev) 1).1)) + (uni lev)) - (ML q N d (nI ju) (ptl lev) 1).1) / 2) (-((((ML q N d (nI ju) (ptl lev) 1).2.1 + (frG lev)) + ((frT q n lev) - ((frT q n lev) / 2))) - (2 * uni lev)))) ((c + (PL q N d (nI jo) (ptl lev) cr 0 0).length) + (PL q N d (nI ju) (ptl lev) 1 0 0).length) 1 (nI n) 0) ((c + (PL q N d (nI jo) (ptl lev) cr 0 0).length) + (PL q N d (nI ju) (ptl lev) 1 0 0).length) (frT q n lev) ((mx ((ML q N d (nI jo) (ptl lev) cr).1) ((ML q N d (nI ju) (ptl lev) 1).1)) + (uni lev))) 0 (frY q n lev) ((c + (PL q N d (nI jo) (ptl lev) cr 0 0).length) + (PL q N d (nI ju) (ptl lev) 1 0 0).length) (((c + (PL q N d (nI jo) (ptl lev) cr 0 0).length) + (PL q N d (nI ju) (ptl lev) 1 0 0).length) + 1)) (30 + n) (frY q n lev) (frT q n lev) 0)) H := hP
          have hD : va_D A (wX cI a (vU v 4 (nI (((c + (PL q N d (nI jo) (ptl lev) cr 0 0).length) + (PL q N d (nI ju) (ptl lev) 1 0 0).length) + 1))) (cvR (shR (msR (itR (plR (plR u_3 (30 + n) (nI jo) ((((mx ((ML q N d (nI jo) (ptl lev) cr).1) ((ML q N d (nI ju) (ptl lev) 1).1)) + (uni lev)) - (ML q N d (nI jo) (ptl lev) cr).1) / 2) ((((2 * uni lev) + ((frT q n lev) / 2)) + (frG lev)) + (ML q N d (nI jo) (ptl lev) cr).2.2)) (30 + n) (nI ju) ((((mx ((ML q N d (nI jo) (ptl lev) cr).1) ((ML q N d (nI ju) (ptl lev) 1).1)) + (uni lev)) - (ML q N d (nI ju) (ptl lev) 1).1) / 2) (-((((ML q N d (nI ju) (ptl lev) 1).2.1 + (frG lev)) + ((frT q n lev) - ((frT q n lev) / 2))) - (2 * uni lev)))) ((c + (PL q N d (nI jo) (ptl lev) cr 0 0).length) + (PL q N d (nI ju) (ptl lev) 1 0 0).length) 1 (nI n) 0) ((c + (PL q N d (nI jo) (ptl lev) cr 0 0).length) + (PL q N d (nI ju) (ptl lev) 1 0 0).length) (frT q n lev) ((mx ((ML q N d (nI jo) (ptl lev) cr).1) ((ML q N d (nI ju) (ptl lev) 1).1)) + (uni lev))) 0 (frY q n lev) ((c + (PL q N d (nI jo) (ptl lev) cr 0 0).length) + (PL q N d (nI ju) (ptl lev) 1 0 0).length) (((c + (PL q N d (nI jo) (ptl lev) cr 0 0).length) + (PL q N d (nI ju) (ptl lev) 1 0 0).length) + 1)) (30 + n) (frY q n lev) (frT q n lev) 0)) := hD
          refine lv_aload_n hx hb dX3_layFraction_325 rfl (lv_at hl 12 rfl) ?_
          refine va_get (D := D) (ci := 3) (v := .ref (a 12)) (C := RX3) (T := TX3) (N := 6) hx hb hts hin_X3 hown hK hP 20 rfl rfl 1 (by decide) hf12 (fun _ h9 => h9) rfl dX3_layFraction_326 ?_
          refine va_get (D := D) (ci := 1) (v := .ref (a 13)) (C := RX1) (T := TX1) (N := 5) hx hb hts hin_X1 hown hK hP 12 rfl rfl 0 (by decide) hf46 (fun _ h9 => h9) rfl dX3_layFraction_329 ?_
          refine lv_iload hx hb dX3_layFraction_332 (lv_at hl 4 rfl) ?_
          refine lv_iload hx hb dX3_layFraction_334 (lv_at hl 3 rfl) ?_
          refine ra_st (f := (u_3 13)) C0 hP hD hS 13 rfl (30 + n) rfl (by omega) (by decide) dX3_layFraction_336 (fun H locs hP hD hS => ?_)
          have hset : ∀ (R_ : Nat → Nat → Int32) (y4_ : Int32) (g_ : Nat → Int32), (wX cI a (vU v 4 y4_) R_).set 13 (a 13, .inl (cI, 150, .inl g_)) = (wX cI a (vU v 4 y4_) (rU R_ 13 g_)) := fun _ _ _ => rfl
          rw [hset] at hP hD
          have hw4 : (((c + (PL q N d (nI jo) (ptl lev) cr 0 0).length) + (PL q N d (nI ju) (ptl lev) 1 0 0).length) + 1) = c + (pFr (ML q N d) (PL q N d) q n lev cr 0 0).length := by rw [pFr_len eo eu, if_neg c_257] <;> omega
          have hw5 : (wX cI a (vU v 4 (nI (((c + (PL q N d (nI jo) (ptl lev) cr 0 0).length) + (PL q N d (nI ju) (ptl lev) 1 0 0).length) + 1))) (rU (cvR (shR (msR (itR (plR (plR u_3 (30 + n) (nI jo) ((((mx ((ML q N d (nI jo) (ptl lev) cr).1) ((ML q N d (nI ju) (ptl lev) 1).1)) + (uni lev)) - (ML q N d (nI jo) (ptl lev) cr).1) / 2) ((((2 * uni lev) + ((frT q n lev) / 2)) + (frG lev)) + (ML q N d (nI jo) (ptl lev) cr).2.2)) (30 + n) (nI ju) ((((mx ((ML q N d (nI jo) (ptl lev) cr).1) ((ML q N d (nI ju) (ptl lev) 1).1)) + (uni lev)) - (ML q N d (nI ju) (ptl lev) 1).1) / 2) (-((((ML q N d (nI ju) (ptl lev) 1).2.1 + (frG lev)) + ((frT q n lev) - ((frT q n lev) / 2))) - (2 * uni lev)))) ((c + (PL q N d (nI jo) (ptl lev) cr 0 0).length) + (PL q N d (nI ju) (ptl lev) 1 0 0).length) 1 (nI n) 0) ((c + (PL q N d (nI jo) (ptl lev) cr 0 0).length) + (PL q N d (nI ju) (ptl lev) 1 0 0).length) (frT q n lev) ((mx ((ML q N d (nI jo) (ptl lev) cr).1) ((ML q N d (nI ju) (ptl lev) 1).1)) + (uni lev))) 0 (frY q n lev) ((c + (PL q N d (nI jo) (ptl lev) cr 0 0).length) + (PL q N d (nI ju) (ptl lev) 1 0 0).length) (((c + (PL q N d (nI jo) (ptl lev) cr 0 0).length) + (PL q N d (nI ju) (ptl lev) 1 0 0).length) + 1)) (30 + n) (frY q n lev) (frT q n lev) 0) 13 (upd (u_3 13) (30 + n) ((mx ((ML q N d (nI jo) (ptl lev) cr).1) ((ML q N d (nI ju) (ptl lev) 1).1)) + (uni lev))))) = (wX cI a (vU v 4 (nI (c + (pFr (ML q N d) (PL q N d) q n lev cr 0 0).length))) (rU (cvR (shR (msR (itR (plR (plR u_3 (30 + n) (nI jo) ((((mx ((ML q N d (nI jo) (ptl lev) cr).1) ((ML q N d (nI ju) (ptl lev) 1).1)) + (uni lev)) - (ML q N d (nI jo) (ptl lev) cr).1) / 2) ((((2 * uni lev) + ((frT q n lev) / 2)) + (frG lev)) + (ML q N d (nI jo) (ptl lev) cr).2.2)) (30 + n) (nI ju) ((((mx ((ML q N d (nI jo) (ptl lev) cr).1) ((ML q N d (nI ju) (ptl lev) 1).1)) + (uni lev)) - (ML q N d (nI ju) (ptl lev) 1).1) / 2) (-((((ML q N d (nI ju) (ptl lev) 1).2.1 + (frG lev)) + ((frT q n lev) - ((frT q n lev) / 2))) - (2 * uni lev)))) ((c + (PL q N d (nI jo) (ptl lev) cr 0 0).length) + (PL q N d (nI ju) (ptl lev) 1 0 0).length) 1 (nI n) 0) ((c + (PL q N d (nI jo) (ptl lev) cr 0 0).length) + (PL q N d (nI ju) (ptl lev) 1 0 0).length) (frT q n lev) ((mx ((ML q N d (nI jo) (ptl lev) cr).1) ((ML q N d (nI ju) (ptl lev) 1).1)) + (uni lev))) 0 (frY q n lev) ((c + (PL q N d (nI jo) (ptl lev) cr 0 0).length) + (PL q N d (nI ju) (ptl lev) 1 0 0).length) (((c + (PL q N d (nI jo) (ptl lev) cr 0 0).length) + (PL q N d (nI ju) (ptl lev) 1 0 0).length) + 1)) (30 + n) (frY q n lev) (frT q n lev) 0) 13 (upd (u_3 13) (30 + n) ((mx ((ML q N d (nI jo) (ptl lev) cr).1) ((ML q N d (nI ju) (ptl lev) 1).1)) + (uni lev))))) := by rw [hw4]
          rw [hw5] at hP hD
          exact k_vret C0 (rU (cvR (shR (msR (itR (plR (plR u_3 (30 + n) (nI jo) ((((mx ((ML q N d (nI jo) (ptl lev) cr).1) ((ML q N d (nI ju) (ptl lev) 1).1)) + (uni lev)) - (ML q N d (nI jo) (ptl lev) cr).1) / 2) ((((2 * uni lev) + ((frT q n lev) / 2)) + (frG lev)) + (ML q N d (nI jo) (ptl lev) cr).2.2)) (30 + n) (nI ju) ((((mx ((ML q N d (nI jo) (ptl lev) cr).1) ((ML q N d (nI ju) (ptl lev) 1).1)) + (uni lev)) - (ML q N d (nI ju) (ptl lev) 1).1) / 2) (-((((ML q N d (nI ju) (ptl lev) 1).2.1 + (frG lev)) + ((frT q n lev) - ((frT q n lev) / 2))) - (2 * uni lev)))) ((c + (PL q N d (nI jo) (ptl lev) cr 0 0).length) + (PL q N d (nI ju) (ptl lev) 1 0 0).length) 1 (nI n) 0) ((c + (PL q N d (nI jo) (ptl lev) cr 0 0).length) + (PL q N d (nI ju) (ptl lev) 1 0 0).length) (frT q n lev) ((mx ((ML q N d (nI jo) (ptl lev) cr).1) ((ML q N d (nI ju) (ptl lev) 1).1)) + (uni lev))) 0 (frY q n lev) ((c + (PL q N d (nI jo) (ptl lev) cr 0 0).length) + (PL q N d (nI ju) (ptl lev) 1 0 0).length) (((c + (PL q N d (nI jo) (ptl lev) cr 0 0).length) + (PL q N d (nI ju) (ptl lev) 1 0 0).length) + 1)) (30 + n) (frY q n lev) (frT q n lev) 0) 13 (upd (u_3 13) (30 + n) ((mx ((ML q N d (nI jo) (ptl lev) cr).1) ((ML q N d (nI ju) (ptl lev) 1).1)) + (uni lev)))) hP hD hS (hfin.2 c_257 _ (by rw [ho1, ho2])) dX3_layFraction_337
