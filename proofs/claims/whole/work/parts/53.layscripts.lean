set_option maxHeartbeats 1500000 in
set_option maxRecDepth 100000 in
theorem c_X3_layScripts (l : Launch) (D : va_G) (cI : ClassId) (a : Nat → Nat) (v : Nat → Int32) (r : Nat → Nat → Int32) (q : Rw) (N n k d lv : Nat) (dp sl : Nat → Nat) (lev cr : Int32) (c0 : Nat) (f0 : Nat → Int32) (hM : HLL l D cI a q N dp d) (hT : LY q N dp sl) (hr : RQ q N v r) (hN : v 0 = nI N) (hnN : n < N) (hk : k < 30) (e2 : q 2 n = nI k) (hd : 29 ≤ d + dp k) (hlv : lv ≤ dp k) (hlev : lvO lev) (h19 : r 19 = ptI f0 c0 (pNu (ML q N d) (PL q N d) q n lev cr 0 0)) (hB : BM r (30 + n) (mNu (ML q N d) q n lev cr)) (h16 : r 16 (30 + n) = nI c0) (h17 : r 17 (30 + n) = nI (c0 + (pNu (ML q N d) (PL q N d) q n lev cr 0 0).length)) (hcl : c0 + (pAt (ML q N d) (PL q N d) q n lev cr 0 0).length ≤ 150) (hne : ¬ (q 8 n = -1 ∧ q 9 n = -1)) (hBn : TB (mNu (ML q N d) q n lev cr) 300000000) (hB1 : ¬ q 8 n = -1 → TB (ML q N d (q 8 n) (scl lev) cr) 10000000) (hB2 : ¬ q 9 n = -1 → TB (ML q N d (q 9 n) (scl lev) 1) 10000000) : KV l D cI yX3_layScripts wsX3_layScripts (rxF d) [.ref (a 20), .int (nI n), .int lev, .int cr, .int (nI lv)] (wX cI a (vU v 4 (nI (c0 + (pNu (ML q N d) (PL q N d) q n lev cr 0 0).length))) r) (fun u : Rw => wX cI a (vU v 4 (nI (c0 + (pAt (ML q N d) (PL q N d) q n lev cr 0 0).length))) u) (fun u => ATP q r f0 n c0 (mAt (ML q N d) q n lev cr) (pAt (ML q N d) (PL q N d) q n lev cr 0 0) u) := by
  refine KV.of (cc := cX3_layScripts) (nL := 8) (ret := none) (by decide) rfl (Nat.le_of_ble_eq_true rfl) ?_
  intro pg9 en9 s m args below meth cd9 A ls C0 hP hD hS hl
  have hx := C0.1.1
  have hb := C0.1.2.1
  have hml := C0.1.2.2.1
  have hown : s.vm.findClass RX3 = some m.cls := C0.1.2.2.2.1
  have hts : ∀ w ∈ wsX3_layScripts, w.before args s = true := C0.1.2.2.2.2
  have hK := C0.2.2.2.1
  have hin_X3 : ∀ w ∈ wsX30, w ∈ wsX3_layScripts := fun w h => List.mem_cons_of_mem _ (List.mem_append_left _ (List.mem_append_left _ (List.mem_append_left _ (List.mem_append_right _ h))))
  have hf35 : (Cond.fieldLink RX3 35 "FormulaLists$Layout" "book" "LFormulaLists$Book;").before args s = true := hts _ (by decide +kernel)
  have hin_X0 : ∀ w ∈ wsX00, w ∈ wsX3_layScripts := fun w h => List.mem_cons_of_mem _ (List.mem_append_left _ (List.mem_append_right _ h))
  have hf140 : (Cond.fieldLink RX3 140 "FormulaLists$Book" "upper" "[I").before args s = true := hts _ (by decide +kernel)
  have hf143 : (Cond.fieldLink RX3 143 "FormulaLists$Book" "lower" "[I").before args s = true := hts _ (by decide +kernel)
  have hl : lv_has ls 8 [(0, .ref (a 20)), (1, .int (nI n)), (2, .int lev), (3, .int cr), (4, .int (nI lv))] := hl
  have hP : va_P D vwCl (wX cI a (vU v 4 (nI (c0 + (pNu (ML q N d) (PL q N d) q n lev cr 0 0).length))) r) s.heap := hP
  have h9 := hT.1
  have hn : n < 120 := by omega
  have a5 : r 5 n = q 8 n := by rw [hr.1.2.2.2.1]
  have a6 : r 6 n = q 9 n := by rw [hr.1.2.2.2.2]
  have hnd := hT.2.2.2.2 n hnN
  have hcl2 := hcl
  rw [at_len] at hcl2
  refine lv_iload_n hx hb dX3_layScripts_0 rfl (lv_at hl 2 rfl) ?_
  refine lv_iconst (v := 1) hx hb dX3_layScripts_1 (by decide) ?_
  obtain ⟨x_1, ex_1⟩ : ∃ zz_ : Int32, zz_ = (if 1 < lev then (3 : Int32) else (2 : Int32)) := ⟨_, rfl⟩
  refine jW (D := D) hD hl 10 (wX cI a (vU v 4 (nI (c0 + (pNu (ML q N d) (PL q N d) q n lev cr 0 0).length))) r) [(0, .ref (a 20)), (1, .int (nI n)), (2, .int lev), (3, .int cr), (4, .int (nI lv))] [.int x_1] (fun hJ => ?_) (fun H locs ls hP hD hS hl => ?_)
  · skip
    refine lv_icmp_gt (tgt := 9) hx hb dX3_layScripts_2 (by decide) (fun c_2 => ?_) (fun c_2 => ?_)
    · skip
      refine lv_iconst (v := 3) hx hb dX3_layScripts_9 (by decide) ?_
      have gx_1 : x_1 = 3 := by rw [ex_1]; simp only [if_pos c_2]
      simp only [gx_1] at hJ
      exact hJ _ _ _ hP hD hS (lv_sub hl [0, 1, 2, 3, 4] rfl)
    · skip
      refine lv_iconst (v := 2) hx hb dX3_layScripts_5 (by decide) ?_
      refine lv_goto (tgt := 10) hx hb dX3_layScripts_6 (by decide) ?_
      have gx_1 : x_1 = 2 := by rw [ex_1]; simp only [if_neg c_2]
      simp only [gx_1] at hJ
      exact hJ _ _ _ hP hD hS (lv_sub hl [0, 1, 2, 3, 4] rfl)
  · skip
    refine lv_eqi (show x_1 = scl lev by rw [ex_1]; exact scl_j lev) ?_
    refine lv_istore (lv' := [(5, .int (scl lev)), (0, .ref (a 20)), (1, .int (nI n)), (2, .int lev), (3, .int cr), (4, .int (nI lv))]) hx hb dX3_layScripts_10 hl (by decide) rfl (fun ls hl => ?_)
    refine lv_aload_n hx hb dX3_layScripts_12 rfl (lv_at hl 1 rfl) ?_
    refine va_get (D := D) (ci := 3) (v := .ref (a 1)) (C := RX3) (T := TX3) (N := 6) hx hb hts hin_X3 hown hK hP 20 rfl rfl 0 (by decide) hf35 (fun _ h9 => h9) rfl dX3_layScripts_13 ?_
    refine va_get (D := D) (ci := 0) (v := .ref (a 5)) (C := RX0) (T := TX0) (N := 14) hx hb hts hin_X0 hown hK hP 1 rfl rfl 6 (by decide) hf140 (fun _ h9 => h9) rfl dX3_layScripts_16 ?_
    refine lv_iload_n hx hb dX3_layScripts_19 rfl (lv_at hl 2 rfl) ?_
    refine ra_ld (f := (r 5)) C0 hP 5 rfl n rfl (by omega) (by decide) dX3_layScripts_20 ?_
    refine lv_eqi a5 ?_
    refine lv_istore (lv' := [(6, .int (q 8 n)), (5, .int (scl lev)), (0, .ref (a 20)), (1, .int (nI n)), (2, .int lev), (3, .int cr), (4, .int (nI lv))]) hx hb dX3_layScripts_21 hl (by decide) rfl (fun ls hl => ?_)
    refine lv_aload_n hx hb dX3_layScripts_23 rfl (lv_at hl 2 rfl) ?_
    refine va_get (D := D) (ci := 3) (v := .ref (a 1)) (C := RX3) (T := TX3) (N := 6) hx hb hts hin_X3 hown hK hP 20 rfl rfl 0 (by decide) hf35 (fun _ h9 => h9) rfl dX3_layScripts_24 ?_
    refine va_get (D := D) (ci := 0) (v := .ref (a 6)) (C := RX0) (T := TX0) (N := 14) hx hb hts hin_X0 hown hK hP 1 rfl rfl 7 (by decide) hf143 (fun _ h9 => h9) rfl dX3_layScripts_27 ?_
    refine lv_iload_n hx hb dX3_layScripts_30 rfl (lv_at hl 3 rfl) ?_
    refine ra_ld (f := (r 6)) C0 hP 6 rfl n rfl (by omega) (by decide) dX3_layScripts_31 ?_
    refine lv_eqi a6 ?_
    refine lv_istore (lv' := [(7, .int (q 9 n)), (6, .int (q 8 n)), (5, .int (scl lev)), (0, .ref (a 20)), (1, .int (nI n)), (2, .int lev), (3, .int cr), (4, .int (nI lv))]) hx hb dX3_layScripts_32 hl (by decide) rfl (fun ls hl => ?_)
    refine lv_iload hx hb dX3_layScripts_34 (lv_at hl 1 rfl) ?_
    refine lv_iconst (v := (-1)) hx hb dX3_layScripts_36 (by decide) ?_
    refine lv_icmp_eq (tgt := 53) hx hb dX3_layScripts_37 (by decide) (fun c_37 => ?_) (fun c_37 => ?_)
    · skip
      refine lv_iload hx hb dX3_layScripts_53 (lv_at hl 0 rfl) ?_
      refine lv_iconst (v := (-1)) hx hb dX3_layScripts_55 (by decide) ?_
      refine lv_icmp_eq (tgt := 72) hx hb dX3_layScripts_56 (by decide) (fun c_56 => absurd ⟨c_37, c_56⟩ hne) (fun c_56 => ?_)
      obtain ⟨jl, hjl, ejl⟩ := hnd.2.2.1.resolve_left c_56
      have hoW : (oL q N d (q 9 n) (scl lev) 1).length = (PL q N d (nI jl) (scl lev) 1 0 0).length := by rw [oL_y hjl ejl]
      refine lv_aload_n hx hb dX3_layScripts_59 rfl (lv_at hl 3 rfl) ?_
      refine lv_iload hx hb dX3_layScripts_60 (lv_at hl 0 rfl) ?_
      refine lv_eqi ejl ?_
      refine lv_iload hx hb dX3_layScripts_62 (lv_at hl 2 rfl) ?_
      refine lv_iconst (v := 1) hx hb dX3_layScripts_64 (by decide) ?_
      refine lv_iload hx hb dX3_layScripts_65 (lv_at hl 7 rfl) ?_
      refine lv_iconst (v := 1) hx hb dX3_layScripts_67 (by decide) ?_
      refine lv_iadd hx hb dX3_layScripts_68 ?_
      refine lv_eqi (nI_1 lv) ?_
      obtain ⟨hk9, hi9, hlt9⟩ := fl_dp hT hnN hk e2 (show FLD q n 3 jl from ⟨hjl, Or.inr (Or.inr (Or.inr (Or.inl ⟨rfl, ejl⟩)))⟩)
      refine kcVv C0 hP hD hS (hM v r jl (lv + 1) (c0 + (pNu (ML q N d) (PL q N d) q n lev cr 0 0).length) (scl lev) 1 hk9 (by omega) (by omega) (hr.sb (SB.rf r)) hN scl_o (by omega)) (cwV 4 hts gX3_layScripts_X3_layList rfl rfl rfl (by decide +kernel) ⟨by dsimp only [rxL, rxF, rxA]; omega, by dsimp only [rxL, rxF, rxA]; omega⟩) 20 3 rfl rfl rfl hl.1 rfl (Nat.le_of_ble_eq_true rfl) dX3_layScripts_69 ⟨Nat.zero_le _, Nat.zero_le _⟩ (fun u H locs hq hP hD hS => ?_)
      obtain ⟨u_2, rfl⟩ : ∃ z9, z9 = u := ⟨_, rfl⟩
      have hq_u_2 : LLP q N d r jl (scl lev) 1 (c0 + (pNu (ML q N d) (PL q N d) q n lev cr 0 0).length) u_2 := hq
      have hP : va_P D vwCl (wX cI a (vU v 4 (nI ((c0 + (pNu (ML q N d) (PL q N d) q n lev cr 0 0).length) + (PL q N d (nI jl) (scl lev) 1 0 0).length))) u_2) H := hP
      have hD : va_D A (wX cI a (vU v 4 (nI ((c0 + (pNu (ML q N d) (PL q N d) q n lev cr 0 0).length) + (PL q N d (nI jl) (scl lev) 1 0 0).length))) u_2) := hD
      have ho1 : (oL q N d (q 8 n) (scl lev) cr).length = 0 := oL_n c_37
      have ho2 : (oL q N d (q 9 n) (scl lev) 1).length = (PL q N d (nI jl) (scl lev) 1 0 0).length := by rw [oL_y hjl ejl]
      have hO1 : OLP q N d r (q 8 n) (scl lev) cr (c0 + (pNu (ML q N d) (PL q N d) q n lev cr 0 0).length) r := (Or.inl ⟨c_37, rfl⟩)
      have hO2 : OLP q N d r (q 9 n) (scl lev) 1 (c0 + (pNu (ML q N d) (PL q N d) q n lev cr 0 0).length + (oL q N d (q 8 n) (scl lev) cr).length) u_2 := by rw [ho1]; exact (Or.inr ⟨jl, hjl, ejl, hq_u_2⟩)
      have hF := sc_f hT hnN hk e2 h19 hB h16 h17 hO1 hO2
      have hsb : SB r u_2 := ((SB.rf r).tr hq_u_2.1)
      have e5 : u_2 5 n = q 8 n := by rw [hsb 5 (by decide), hr.1.2.2.2.1]
      have e6 : u_2 6 n = q 9 n := by rw [hsb 6 (by decide), hr.1.2.2.2.2]
      have a4 : u_2 4 n = q 4 n := by rw [hsb 4 (by decide), hr.1.2.2.1]
      have hl2 := hcl
      rw [at_len] at hl2
      have hup := sc_up (N := N) (ct := ((c0 + (pNu (ML q N d) (PL q N d) q n lev cr 0 0).length) + (PL q N d (nI jl) (scl lev) 1 0 0).length)) hF e5 e6 (by omega)
      have hfin := at_fin hn hF e5 e6 hcl hne hBn hB1 hB2
      refine lv_aload_n hx hb dX3_layScripts_72 rfl (lv_at hl 3 rfl) ?_
      refine lv_iload_n hx hb dX3_layScripts_73 rfl (lv_at hl 4 rfl) ?_
      refine lv_iload_n hx hb dX3_layScripts_74 rfl (lv_at hl 5 rfl) ?_
      refine kcD (ans := (bI ((u_2 4) n = 1 ∧ lev = 0))) C0 hP hD hS (c_X3_isBigOperator l D cI a (vU v 4 (nI ((c0 + (pNu (ML q N d) (PL q N d) q n lev cr 0 0).length) + (PL q N d (nI jl) (scl lev) 1 0 0).length))) u_2 n lev hn) (cwV 2 hts gX3_layScripts_X3_isBigOperator rfl rfl rfl (by decide +kernel) ⟨by dsimp only [rxL, rxF, rxA]; omega, by dsimp only [rxL, rxF, rxA]; omega⟩) 20 3 rfl rfl rfl hl.1 rfl (Nat.le_of_ble_eq_true rfl) dX3_layScripts_75 ⟨Nat.zero_le _, Nat.zero_le _⟩ (fun H locs hP hD hS => ?_)
      refine lv_if_eq (tgt := 93) hx hb dX3_layScripts_78 (by decide) (fun c_78 => ?_) (fun c_78 => ?_)
      · skip
        refine lv_aload_n hx hb dX3_layScripts_93 rfl (lv_at hl 3 rfl) ?_
        refine lv_iload_n hx hb dX3_layScripts_94 rfl (lv_at hl 4 rfl) ?_
        refine lv_iload_n hx hb dX3_layScripts_95 rfl (lv_at hl 5 rfl) ?_
        refine kcSN (ans := (uni lev)) C0 hP hS (c_X4_unit l D cI lev ) ⟨va_cnB 1 hts gX3_layScripts_X4_unit_n85 rfl rfl rfl C0.2.2.2.2.2.1.2.1 (hts (.initialized RX4) (by decide +kernel)) (by decide +kernel) ⟨by dsimp only [rxL, rxF, rxA]; omega, by dsimp only [rxL, rxF, rxA]; omega⟩, hts (.static yX4_unit) (by decide +kernel), trivial⟩ rfl hl.1 rfl (Nat.le_of_ble_eq_true rfl) dX3_layScripts_96 ⟨Nat.zero_le _, Nat.zero_le _⟩ (fun H locs hP hS => ?_)
        refine lv_iload_n hx hb dX3_layScripts_99 rfl (lv_at hl 6 rfl) ?_
        refine kcDv C0 hP hD hS (c_X3_placeScripts l D cI a (vU v 4 (nI ((c0 + (pNu (ML q N d) (PL q N d) q n lev cr 0 0).length) + (PL q N d (nI jl) (scl lev) 1 0 0).length))) u_2 n ((c0 + (pNu (ML q N d) (PL q N d) q n lev cr 0 0).length) + (PL q N d (nI jl) (scl lev) 1 0 0).length) (uni lev) cr rfl (by omega) hn hup.1 hup.2) (cwV 3 hts gX3_layScripts_X3_placeScripts rfl rfl rfl (by decide +kernel) ⟨by dsimp only [rxL, rxF, rxA]; omega, by dsimp only [rxL, rxF, rxA]; omega⟩) 20 3 rfl rfl rfl hl.1 rfl (Nat.le_of_ble_eq_true rfl) dX3_layScripts_100 ⟨Nat.zero_le _, Nat.zero_le _⟩ (fun H locs hP hD hS => ?_)
        have hP : va_P D vwCl (wX cI a (vU v 4 (nI ((c0 + (pNu (ML q N d) (PL q N d) q n lev cr 0 0).length) + (PL q N d (nI jl) (scl lev) 1 0 0).length))) (scR u_2 n (uni lev) cr)) H := hP
        have hD : va_D A (wX cI a (vU v 4 (nI ((c0 + (pNu (ML q N d) (PL q N d) q n lev cr 0 0).length) + (PL q N d (nI jl) (scl lev) 1 0 0).length))) (scR u_2 n (uni lev) cr)) := hD
        have hw4 : ((c0 + (pNu (ML q N d) (PL q N d) q n lev cr 0 0).length) + (PL q N d (nI jl) (scl lev) 1 0 0).length) = c0 + (pAt (ML q N d) (PL q N d) q n lev cr 0 0).length := by rw [at_len, ho1, ho2] <;> omega
        rw [hw4] at hP hD
        exact k_vret C0 (scR u_2 n (uni lev) cr) hP hD hS (hfin.2 (fun h => bI_z.mp c_78 ⟨by rw [a4]; exact h.1, h.2⟩)) dX3_layScripts_103
      · skip
        refine lv_aload_n hx hb dX3_layScripts_81 rfl (lv_at hl 3 rfl) ?_
        refine lv_iload_n hx hb dX3_layScripts_82 rfl (lv_at hl 4 rfl) ?_
        refine lv_iload_n hx hb dX3_layScripts_83 rfl (lv_at hl 5 rfl) ?_
        refine kcSN (ans := (uni lev)) C0 hP hS (c_X4_unit l D cI lev ) ⟨va_cnB 1 hts gX3_layScripts_X4_unit_n85 rfl rfl rfl C0.2.2.2.2.2.1.2.1 (hts (.initialized RX4) (by decide +kernel)) (by decide +kernel) ⟨by dsimp only [rxL, rxF, rxA]; omega, by dsimp only [rxL, rxF, rxA]; omega⟩, hts (.static yX4_unit) (by decide +kernel), trivial⟩ rfl hl.1 rfl (Nat.le_of_ble_eq_true rfl) dX3_layScripts_84 ⟨Nat.zero_le _, Nat.zero_le _⟩ (fun H locs hP hS => ?_)
        refine kcDv C0 hP hD hS (c_X3_placeLimits l D cI a (vU v 4 (nI ((c0 + (pNu (ML q N d) (PL q N d) q n lev cr 0 0).length) + (PL q N d (nI jl) (scl lev) 1 0 0).length))) u_2 n c0 (c0 + (pNu (ML q N d) (PL q N d) q n lev cr 0 0).length) ((c0 + (pNu (ML q N d) (PL q N d) q n lev cr 0 0).length) + (PL q N d (nI jl) (scl lev) 1 0 0).length) (uni lev) rfl (by omega) hn hup.1 hup.2 hF.2.2.2.1 hF.2.2.2.2.1 (by omega) (by omega)) (cwV 2 hts gX3_layScripts_X3_placeLimits rfl rfl rfl (by decide +kernel) ⟨by dsimp only [rxL, rxF, rxA]; omega, by dsimp only [rxL, rxF, rxA]; omega⟩) 20 3 rfl rfl rfl hl.1 rfl (Nat.le_of_ble_eq_true rfl) dX3_layScripts_87 ⟨Nat.zero_le _, Nat.zero_le _⟩ (fun H locs hP hD hS => ?_)
        have hP : va_P D vwCl (wX cI a (vU v 4 (nI ((c0 + (pNu (ML q N d) (PL q N d) q n lev cr 0 0).length) + (PL q N d (nI jl) (scl lev) 1 0 0).length))) (lmR u_2 n c0 (c0 + (pNu (ML q N d) (PL q N d) q n lev cr 0 0).length) (uni lev))) H := hP
        have hD : va_D A (wX cI a (vU v 4 (nI ((c0 + (pNu (ML q N d) (PL q N d) q n lev cr 0 0).length) + (PL q N d (nI jl) (scl lev) 1 0 0).length))) (lmR u_2 n c0 (c0 + (pNu (ML q N d) (PL q N d) q n lev cr 0 0).length) (uni lev))) := hD
        refine lv_goto (tgt := 103) hx hb dX3_layScripts_90 (by decide) ?_
        have hw4 : ((c0 + (pNu (ML q N d) (PL q N d) q n lev cr 0 0).length) + (PL q N d (nI jl) (scl lev) 1 0 0).length) = c0 + (pAt (ML q N d) (PL q N d) q n lev cr 0 0).length := by rw [at_len, ho1, ho2] <;> omega
        rw [hw4] at hP hD
        exact k_vret C0 (lmR u_2 n c0 (c0 + (pNu (ML q N d) (PL q N d) q n lev cr 0 0).length) (uni lev)) hP hD hS (hfin.1 ⟨by rw [← a4]; exact (bI_nz.mp c_78).1, (bI_nz.mp c_78).2⟩) dX3_layScripts_103
    · skip
      obtain ⟨ju, hju, eju⟩ := hnd.2.1.resolve_left c_37
      have hoU : (oL q N d (q 8 n) (scl lev) cr).length = (PL q N d (nI ju) (scl lev) cr 0 0).length := by rw [oL_y hju eju]
      refine lv_aload_n hx hb dX3_layScripts_40 rfl (lv_at hl 3 rfl) ?_
      refine lv_iload hx hb dX3_layScripts_41 (lv_at hl 1 rfl) ?_
      refine lv_eqi eju ?_
      refine lv_iload hx hb dX3_layScripts_43 (lv_at hl 2 rfl) ?_
      refine lv_iload_n hx hb dX3_layScripts_45 rfl (lv_at hl 6 rfl) ?_
      refine lv_iload hx hb dX3_layScripts_46 (lv_at hl 7 rfl) ?_
      refine lv_iconst (v := 1) hx hb dX3_layScripts_48 (by decide) ?_
      refine lv_iadd hx hb dX3_layScripts_49 ?_
      refine lv_eqi (nI_1 lv) ?_
      obtain ⟨hk9, hi9, hlt9⟩ := fl_dp hT hnN hk e2 (show FLD q n 2 ju from ⟨hju, Or.inr (Or.inr (Or.inl ⟨rfl, eju⟩))⟩)
      refine kcVv C0 hP hD hS (hM v r ju (lv + 1) (c0 + (pNu (ML q N d) (PL q N d) q n lev cr 0 0).length) (scl lev) cr hk9 (by omega) (by omega) (hr.sb (SB.rf r)) hN scl_o (by omega)) (cwV 4 hts gX3_layScripts_X3_layList rfl rfl rfl (by decide +kernel) ⟨by dsimp only [rxL, rxF, rxA]; omega, by dsimp only [rxL, rxF, rxA]; omega⟩) 20 3 rfl rfl rfl hl.1 rfl (Nat.le_of_ble_eq_true rfl) dX3_layScripts_50 ⟨Nat.zero_le _, Nat.zero_le _⟩ (fun u H locs hq hP hD hS => ?_)
      obtain ⟨u_3, rfl⟩ : ∃ z9, z9 = u := ⟨_, rfl⟩
      have hq_u_3 : LLP q N d r ju (scl lev) cr (c0 + (pNu (ML q N d) (PL q N d) q n lev cr 0 0).length) u_3 := hq
      have hP : va_P D vwCl (wX cI a (vU v 4 (nI ((c0 + (pNu (ML q N d) (PL q N d) q n lev cr 0 0).length) + (PL q N d (nI ju) (scl lev) cr 0 0).length))) u_3) H := hP
      have hD : va_D A (wX cI a (vU v 4 (nI ((c0 + (pNu (ML q N d) (PL q N d) q n lev cr 0 0).length) + (PL q N d (nI ju) (scl lev) cr 0 0).length))) u_3) := hD
      refine lv_iload hx hb dX3_layScripts_53 (lv_at hl 0 rfl) ?_
      refine lv_iconst (v := (-1)) hx hb dX3_layScripts_55 (by decide) ?_
      refine lv_icmp_eq (tgt := 72) hx hb dX3_layScripts_56 (by decide) (fun c_56 => ?_) (fun c_56 => ?_)
      · skip
        have ho1 : (oL q N d (q 8 n) (scl lev) cr).length = (PL q N d (nI ju) (scl lev) cr 0 0).length := by rw [oL_y hju eju]
        have ho2 : (oL q N d (q 9 n) (scl lev) 1).length = 0 := oL_n c_56
        have hO1 : OLP q N d r (q 8 n) (scl lev) cr (c0 + (pNu (ML q N d) (PL q N d) q n lev cr 0 0).length) u_3 := (Or.inr ⟨ju, hju, eju, hq_u_3⟩)
        have hO2 : OLP q N d u_3 (q 9 n) (scl lev) 1 (c0 + (pNu (ML q N d) (PL q N d) q n lev cr 0 0).length + (oL q N d (q 8 n) (scl lev) cr).length) u_3 := by rw [ho1]; exact (Or.inl ⟨c_56, rfl⟩)
        have hF := sc_f hT hnN hk e2 h19 hB h16 h17 hO1 hO2
        have hsb : SB r u_3 := ((SB.rf r).tr hq_u_3.1)
        have e5 : u_3 5 n = q 8 n := by rw [hsb 5 (by decide), hr.1.2.2.2.1]
        have e6 : u_3 6 n = q 9 n := by rw [hsb 6 (by decide), hr.1.2.2.2.2]
        have a4 : u_3 4 n = q 4 n := by rw [hsb 4 (by decide), hr.1.2.2.1]
        have hl2 := hcl
        rw [at_len] at hl2
        have hup := sc_up (N := N) (ct := ((c0 + (pNu (ML q N d) (PL q N d) q n lev cr 0 0).length) + (PL q N d (nI ju) (scl lev) cr 0 0).length)) hF e5 e6 (by omega)
        have hfin := at_fin hn hF e5 e6 hcl hne hBn hB1 hB2
        refine lv_aload_n hx hb dX3_layScripts_72 rfl (lv_at hl 3 rfl) ?_
        refine lv_iload_n hx hb dX3_layScripts_73 rfl (lv_at hl 4 rfl) ?_
        refine lv_iload_n hx hb dX3_layScripts_74 rfl (lv_at hl 5 rfl) ?_
        refine kcD (ans := (bI ((u_3 4) n = 1 ∧ lev = 0))) C0 hP hD hS (c_X3_isBigOperator l D cI a (vU v 4 (nI ((c0 + (pNu (ML q N d) (PL q N d) q n lev cr 0 0).length) + (PL q N d (nI ju) (scl lev) cr 0 0).length))) u_3 n lev hn) (cwV 2 hts gX3_layScripts_X3_isBigOperator rfl rfl rfl (by decide +kernel) ⟨by dsimp only [rxL, rxF, rxA]; omega, by dsimp only [rxL, rxF, rxA]; omega⟩) 20 3 rfl rfl rfl hl.1 rfl (Nat.le_of_ble_eq_true rfl) dX3_layScripts_75 ⟨Nat.zero_le _, Nat.zero_le _⟩ (fun H locs hP hD hS => ?_)
        refine lv_if_eq (tgt := 93) hx hb dX3_layScripts_78 (by decide) (fun c_78 => ?_) (fun c_78 => ?_)
        · skip
          refine lv_aload_n hx hb dX3_layScripts_93 rfl (lv_at hl 3 rfl) ?_
          refine lv_iload_n hx hb dX3_layScripts_94 rfl (lv_at hl 4 rfl) ?_
          refine lv_iload_n hx hb dX3_layScripts_95 rfl (lv_at hl 5 rfl) ?_
          refine kcSN (ans := (uni lev)) C0 hP hS (c_X4_unit l D cI lev ) ⟨va_cnB 1 hts gX3_layScripts_X4_unit_n85 rfl rfl rfl C0.2.2.2.2.2.1.2.1 (hts (.initialized RX4) (by decide +kernel)) (by decide +kernel) ⟨by dsimp only [rxL, rxF, rxA]; omega, by dsimp only [rxL, rxF, rxA]; omega⟩, hts (.static yX4_unit) (by decide +kernel), trivial⟩ rfl hl.1 rfl (Nat.le_of_ble_eq_true rfl) dX3_layScripts_96 ⟨Nat.zero_le _, Nat.zero_le _⟩ (fun H locs hP hS => ?_)
          refine lv_iload_n hx hb dX3_layScripts_99 rfl (lv_at hl 6 rfl) ?_
          refine kcDv C0 hP hD hS (c_X3_placeScripts l D cI a (vU v 4 (nI ((c0 + (pNu (ML q N d) (PL q N d) q n lev cr 0 0).length) + (PL q N d (nI ju) (scl lev) cr 0 0).length))) u_3 n ((c0 + (pNu (ML q N d) (PL q N d) q n lev cr 0 0).length) + (PL q N d (nI ju) (scl lev) cr 0 0).length) (uni lev) cr rfl (by omega) hn hup.1 hup.2) (cwV 3 hts gX3_layScripts_X3_placeScripts rfl rfl rfl (by decide +kernel) ⟨by dsimp only [rxL, rxF, rxA]; omega, by dsimp only [rxL, rxF, rxA]; omega⟩) 20 3 rfl rfl rfl hl.1 rfl (Nat.le_of_ble_eq_true rfl) dX3_layScripts_100 ⟨Nat.zero_le _, Nat.zero_le _⟩ (fun H locs hP hD hS => ?_)
          have hP : va_P D vwCl (wX cI a (vU v 4 (nI ((c0 + (pNu (ML q N d) (PL q N d) q n lev cr 0 0).length) + (PL q N d (nI ju) (scl lev) cr 0 0).length))) (scR u_3 n (uni lev) cr)) H := hP
          have hD : va_D A (wX cI a (vU v 4 (nI ((c0 + (pNu (ML q N d) (PL q N d) q n lev cr 0 0).length) + (PL q N d (nI ju) (scl lev) cr 0 0).length))) (scR u_3 n (uni lev) cr)) := hD
          have hw4 : ((c0 + (pNu (ML q N d) (PL q N d) q n lev cr 0 0).length) + (PL q N d (nI ju) (scl lev) cr 0 0).length) = c0 + (pAt (ML q N d) (PL q N d) q n lev cr 0 0).length := by rw [at_len, ho1, ho2] <;> omega
          rw [hw4] at hP hD
          exact k_vret C0 (scR u_3 n (uni lev) cr) hP hD hS (hfin.2 (fun h => bI_z.mp c_78 ⟨by rw [a4]; exact h.1, h.2⟩)) dX3_layScripts_103
        · skip
          refine lv_aload_n hx hb dX3_layScripts_81 rfl (lv_at hl 3 rfl) ?_
          refine lv_iload_n hx hb dX3_layScripts_82 rfl (lv_at hl 4 rfl) ?_
          refine lv_iload_n hx hb dX3_layScripts_83 rfl (lv_at hl 5 rfl) ?_
          refine kcSN (ans := (uni lev)) C0 hP hS (c_X4_unit l D cI lev ) ⟨va_cnB 1 hts gX3_layScripts_X4_unit_n85 rfl rfl rfl C0.2.2.2.2.2.1.2.1 (hts (.initialized RX4) (by decide +kernel)) (by decide +kernel) ⟨by dsimp only [rxL, rxF, rxA]; omega, by dsimp only [rxL, rxF, rxA]; omega⟩, hts (.static yX4_unit) (by decide +kernel), trivial⟩ rfl hl.1 rfl (Nat.le_of_ble_eq_true rfl) dX3_layScripts_84 ⟨Nat.zero_le _, Nat.zero_le _⟩ (fun H locs hP hS => ?_)
          refine kcDv C0 hP hD hS (c_X3_placeLimits l D cI a (vU v 4 (nI ((c0 + (pNu (ML q N d) (PL q N d) q n lev cr 0 0).length) + (PL q N d (nI ju) (scl lev) cr 0 0).length))) u_3 n c0 (c0 + (pNu (ML q N d) (PL q N d) q n lev cr 0 0).length) ((c0 + (pNu (ML q N d) (PL q N d) q n lev cr 0 0).length) + (PL q N d (nI ju) (scl lev) cr 0 0).length) (uni lev) rfl (by omega) hn hup.1 hup.2 hF.2.2.2.1 hF.2.2.2.2.1 (by omega) (by omega)) (cwV 2 hts gX3_layScripts_X3_placeLimits rfl rfl rfl (by decide +kernel) ⟨by dsimp only [rxL, rxF, rxA]; omega, by dsimp only [rxL, rxF, rxA]; omega⟩) 20 3 rfl rfl rfl hl.1 rfl (Nat.le_of_ble_eq_true rfl) dX3_layScripts_87 ⟨Nat.zero_le _, Nat.zero_le _⟩ (fun H locs hP hD hS => ?_)
          have hP : va_P D vwCl (wX cI a (vU v 4 (nI ((c0 + (pNu (ML q N d) (PL q N d) q n lev cr 0 0).length) + (PL q N d (nI ju) (scl lev) cr 0 0).length))) (lmR u_3 n c0 (c0 + (pNu (ML q N d) (PL q N d) q n lev cr 0 0).length) (uni lev))) H := hP
          have hD : va_D A (wX cI a (vU v 4 (nI ((c0 + (pNu (ML q N d) (PL q N d) q n lev cr 0 0).length) + (PL q N d (nI ju) (scl lev) cr 0 0).length))) (lmR u_3 n c0 (c0 + (pNu (ML q N d) (PL q N d) q n lev cr 0 0).length) (uni lev))) := hD
          refine lv_goto (tgt := 103) hx hb dX3_layScripts_90 (by decide) ?_
          have hw4 : ((c0 + (pNu (ML q N d) (PL q N d) q n lev cr 0 0).length) + (PL q N d (nI ju) (scl lev) cr 0 0).length) = c0 + (pAt (ML q N d) (PL q N d) q n lev cr 0 0).length := by rw [at_len, ho1, ho2] <;> omega
          rw [hw4] at hP hD
          exact k_vret C0 (lmR u_3 n c0 (c0 + (pNu (ML q N d) (PL q N d) q n lev cr 0 0).length) (uni lev)) hP hD hS (hfin.1 ⟨by rw [← a4]; exact (bI_nz.mp c_78).1, (bI_nz.mp c_78).2⟩) dX3_layScripts_103
      · skip
        obtain ⟨jl, hjl, ejl⟩ := hnd.2.2.1.resolve_left c_56
        have hoW : (oL q N d (q 9 n) (scl lev) 1).length = (PL q N d (nI jl) (scl lev) 1 0 0).length := by rw [oL_y hjl ejl]
        refine lv_aload_n hx hb dX3_layScripts_59 rfl (lv_at hl 3 rfl) ?_
        refine lv_iload hx hb dX3_layScripts_60 (lv_at hl 0 rfl) ?_
        refine lv_eqi ejl ?_
        refine lv_iload hx hb dX3_layScripts_62 (lv_at hl 2 rfl) ?_
        refine lv_iconst (v := 1) hx hb dX3_layScripts_64 (by decide) ?_
        refine lv_iload hx hb dX3_layScripts_65 (lv_at hl 7 rfl) ?_
        refine lv_iconst (v := 1) hx hb dX3_layScripts_67 (by decide) ?_
        refine lv_iadd hx hb dX3_layScripts_68 ?_
        refine lv_eqi (nI_1 lv) ?_
        obtain ⟨hk9, hi9, hlt9⟩ := fl_dp hT hnN hk e2 (show FLD q n 3 jl from ⟨hjl, Or.inr (Or.inr (Or.inr (Or.inl ⟨rfl, ejl⟩)))⟩)
        refine kcVv C0 hP hD hS (hM v u_3 jl (lv + 1) ((c0 + (pNu (ML q N d) (PL q N d) q n lev cr 0 0).length) + (PL q N d (nI ju) (scl lev) cr 0 0).length) (scl lev) 1 hk9 (by omega) (by omega) (hr.sb ((SB.rf r).tr hq_u_3.1)) hN scl_o (by omega)) (cwV 4 hts gX3_layScripts_X3_layList rfl rfl rfl (by decide +kernel) ⟨by dsimp only [rxL, rxF, rxA]; omega, by dsimp only [rxL, rxF, rxA]; omega⟩) 20 3 rfl rfl rfl hl.1 rfl (Nat.le_of_ble_eq_true rfl) dX3_layScripts_69 ⟨Nat.zero_le _, Nat.zero_le _⟩ (fun u H locs hq hP hD hS => ?_)
        obtain ⟨u_4, rfl⟩ : ∃ z9, z9 = u := ⟨_, rfl⟩
        have hq_u_4 : LLP q N d u_3 jl (scl lev) 1 ((c0 + (pNu (ML q N d) (PL q N d) q n lev cr 0 0).length) + (PL q N d (nI ju) (scl lev) cr 0 0).length) u_4 := hq
        have hP : va_P D vwCl (wX cI a (vU v 4 (nI (((c0 + (pNu (ML q N d) (PL q N d) q n lev cr 0 0).length) + (PL q N d (nI ju) (scl lev) cr 0 0).length) + (PL q N d (nI jl) (scl lev) 1 0 0).length))) u_4) H := hP
        have hD : va_D A (wX cI a (vU v 4 (nI (((c0 + (pNu (ML q N d) (PL q N d) q n lev cr 0 0).length) + (PL q N d (nI ju) (scl lev) cr 0 0).length) + (PL q N d (nI jl) (scl lev) 1 0 0).length))) u_4) := hD
        have ho1 : (oL q N d (q 8 n) (scl lev) cr).length = (PL q N d (nI ju) (scl lev) cr 0 0).length := by rw [oL_y hju eju]
        have ho2 : (oL q N d (q 9 n) (scl lev) 1).length = (PL q N d (nI jl) (scl lev) 1 0 0).length := by rw [oL_y hjl ejl]
        have hO1 : OLP q N d r (q 8 n) (scl lev) cr (c0 + (pNu (ML q N d) (PL q N d) q n lev cr 0 0).length) u_3 := (Or.inr ⟨ju, hju, eju, hq_u_3⟩)
        have hO2 : OLP q N d u_3 (q 9 n) (scl lev) 1 (c0 + (pNu (ML q N d) (PL q N d) q n lev cr 0 0).length + (oL q N d (q 8 n) (scl lev) cr).length) u_4 := by rw [ho1]; exact (Or.inr ⟨jl, hjl, ejl, hq_u_4⟩)
        have hF := sc_f hT hnN hk e2 h19 hB h16 h17 hO1 hO2
        have hsb : SB r u_4 := (((SB.rf r).tr hq_u_3.1).tr hq_u_4.1)
        have e5 : u_4 5 n = q 8 n := by rw [hsb 5 (by decide), hr.1.2.2.2.1]
        have e6 : u_4 6 n = q 9 n := by rw [hsb 6 (by decide), hr.1.2.2.2.2]
        have a4 : u_4 4 n = q 4 n := by rw [hsb 4 (by decide), hr.1.2.2.1]
        have hl2 := hcl
        rw [at_len] at hl2
        have hup := sc_up (N := N) (ct := (((c0 + (pNu (ML q N d) (PL q N d) q n lev cr 0 0).length) + (PL q N d (nI ju) (scl lev) cr 0 0).length) + (PL q N d (nI jl) (scl lev) 1 0 0).length)) hF e5 e6 (by omega)
        have hfin := at_fin hn hF e5 e6 hcl hne hBn hB1 hB2
        refine lv_aload_n hx hb dX3_layScripts_72 rfl (lv_at hl 3 rfl) ?_
        refine lv_iload_n hx hb dX3_layScripts_73 rfl (lv_at hl 4 rfl) ?_
        refine lv_iload_n hx hb dX3_layScripts_74 rfl (lv_at hl 5 rfl) ?_
        refine kcD (ans := (bI ((u_4 4) n = 1 ∧ lev = 0))) C0 hP hD hS (c_X3_isBigOperator l D cI a (vU v 4 (nI (((c0 + (pNu (ML q N d) (PL q N d) q n lev cr 0 0).length) + (PL q N d (nI ju) (scl lev) cr 0 0).length) + (PL q N d (nI jl) (scl lev) 1 0 0).length))) u_4 n lev hn) (cwV 2 hts gX3_layScripts_X3_isBigOperator rfl rfl rfl (by decide +kernel) ⟨by dsimp only [rxL, rxF, rxA]; omega, by dsimp only [rxL, rxF, rxA]; omega⟩) 20 3 rfl rfl rfl hl.1 rfl (Nat.le_of_ble_eq_true rfl) dX3_layScripts_75 ⟨Nat.zero_le _, Nat.zero_le _⟩ (fun H locs hP hD hS => ?_)
        refine lv_if_eq (tgt := 93) hx hb dX3_layScripts_78 (by decide) (fun c_78 => ?_) (fun c_78 => ?_)
        · skip
          refine lv_aload_n hx hb dX3_layScripts_93 rfl (lv_at hl 3 rfl) ?_
          refine lv_iload_n hx hb dX3_layScripts_94 rfl (lv_at hl 4 rfl) ?_
          refine lv_iload_n hx hb dX3_layScripts_95 rfl (lv_at hl 5 rfl) ?_
          refine kcSN (ans := (uni lev)) C0 hP hS (c_X4_unit l D cI lev ) ⟨va_cnB 1 hts gX3_layScripts_X4_unit_n85 rfl rfl rfl C0.2.2.2.2.2.1.2.1 (hts (.initialized RX4) (by decide +kernel)) (by decide +kernel) ⟨by dsimp only [rxL, rxF, rxA]; omega, by dsimp only [rxL, rxF, rxA]; omega⟩, hts (.static yX4_unit) (by decide +kernel), trivial⟩ rfl hl.1 rfl (Nat.le_of_ble_eq_true rfl) dX3_layScripts_96 ⟨Nat.zero_le _, Nat.zero_le _⟩ (fun H locs hP hS => ?_)
          refine lv_iload_n hx hb dX3_layScripts_99 rfl (lv_at hl 6 rfl) ?_
          refine kcDv C0 hP hD hS (c_X3_placeScripts l D cI a (vU v 4 (nI (((c0 + (pNu (ML q N d) (PL q N d) q n lev cr 0 0).length) + (PL q N d (nI ju) (scl lev) cr 0 0).length) + (PL q N d (nI jl) (scl lev) 1 0 0).length))) u_4 n (((c0 + (pNu (ML q N d) (PL q N d) q n lev cr 0 0).length) + (PL q N d (nI ju) (scl lev) cr 0 0).length) + (PL q N d (nI jl) (scl lev) 1 0 0).length) (uni lev) cr rfl (by omega) hn hup.1 hup.2) (cwV 3 hts gX3_layScripts_X3_placeScripts rfl rfl rfl (by decide +kernel) ⟨by dsimp only [rxL, rxF, rxA]; omega, by dsimp only [rxL, rxF, rxA]; omega⟩) 20 3 rfl rfl rfl hl.1 rfl (Nat.le_of_ble_eq_true rfl) dX3_layScripts_100 ⟨Nat.zero_le _, Nat.zero_le _⟩ (fun H locs hP hD hS => ?_)
          have hP : va_P D vwCl (wX cI a (vU v 4 (nI (((c0 + (pNu (ML q N d) (PL q N d) q n lev cr 0 0).length) + (PL q N d (nI ju) (scl lev) cr 0 0).length) + (PL q N d (nI jl) (scl lev) 1 0 0).length))) (scR u_4 n (uni lev) cr)) H := hP
          have hD : va_D A (wX cI a (vU v 4 (nI (((c0 + (pNu (ML q N d) (PL q N d) q n lev cr 0 0).length) + (PL q N d (nI ju) (scl lev) cr 0 0).length) + (PL q N d (nI jl) (scl lev) 1 0 0).length))) (scR u_4 n (uni lev) cr)) := hD
          have hw4 : (((c0 + (pNu (ML q N d) (PL q N d) q n lev cr 0 0).length) + (PL q N d (nI ju) (scl lev) cr 0 0).length) + (PL q N d (nI jl) (scl lev) 1 0 0).length) = c0 + (pAt (ML q N d) (PL q N d) q n lev cr 0 0).length := by rw [at_len, ho1, ho2] <;> omega
          rw [hw4] at hP hD
          exact k_vret C0 (scR u_4 n (uni lev) cr) hP hD hS (hfin.2 (fun h => bI_z.mp c_78 ⟨by rw [a4]; exact h.1, h.2⟩)) dX3_layScripts_103
        · skip
          refine lv_aload_n hx hb dX3_layScripts_81 rfl (lv_at hl 3 rfl) ?_
          refine lv_iload_n hx hb dX3_layScripts_82 rfl (lv_at hl 4 rfl) ?_
          refine lv_iload_n hx hb dX3_layScripts_83 rfl (lv_at hl 5 rfl) ?_
          refine kcSN (ans := (uni lev)) C0 hP hS (c_X4_unit l D cI lev ) ⟨va_cnB 1 hts gX3_layScripts_X4_unit_n85 rfl rfl rfl C0.2.2.2.2.2.1.2.1 (hts (.initialized RX4) (by decide +kernel)) (by decide +kernel) ⟨by dsimp only [rxL, rxF, rxA]; omega, by dsimp only [rxL, rxF, rxA]; omega⟩, hts (.static yX4_unit) (by decide +kernel), trivial⟩ rfl hl.1 rfl (Nat.le_of_ble_eq_true rfl) dX3_layScripts_84 ⟨Nat.zero_le _, Nat.zero_le _⟩ (fun H locs hP hS => ?_)
          refine kcDv C0 hP hD hS (c_X3_placeLimits l D cI a (vU v 4 (nI (((c0 + (pNu (ML q N d) (PL q N d) q n lev cr 0 0).length) + (PL q N d (nI ju) (scl lev) cr 0 0).length) + (PL q N d (nI jl) (scl lev) 1 0 0).length))) u_4 n c0 (c0 + (pNu (ML q N d) (PL q N d) q n lev cr 0 0).length) (((c0 + (pNu (ML q N d) (PL q N d) q n lev cr 0 0).length) + (PL q N d (nI ju) (scl lev) cr 0 0).length) + (PL q N d (nI jl) (scl lev) 1 0 0).length) (uni lev) rfl (by omega) hn hup.1 hup.2 hF.2.2.2.1 hF.2.2.2.2.1 (by omega) (by omega)) (cwV 2 hts gX3_layScripts_X3_placeLimits rfl rfl rfl (by decide +kernel) ⟨by dsimp only [rxL, rxF, rxA]; omega, by dsimp only [rxL, rxF, rxA]; omega⟩) 20 3 rfl rfl rfl hl.1 rfl (Nat.le_of_ble_eq_true rfl) dX3_layScripts_87 ⟨Nat.zero_le _, Nat.zero_le _⟩ (fun H locs hP hD hS => ?_)
          have hP : va_P D vwCl (wX cI a (vU v 4 (nI (((c0 + (pNu (ML q N d) (PL q N d) q n lev cr 0 0).length) + (PL q N d (nI ju) (scl lev) cr 0 0).length) + (PL q N d (nI jl) (scl lev) 1 0 0).length))) (lmR u_4 n c0 (c0 + (pNu (ML q N d) (PL q N d) q n lev cr 0 0).length) (uni lev))) H := hP
          have hD : va_D A (wX cI a (vU v 4 (nI (((c0 + (pNu (ML q N d) (PL q N d) q n lev cr 0 0).length) + (PL q N d (nI ju) (scl lev) cr 0 0).length) + (PL q N d (nI jl) (scl lev) 1 0 0).length))) (lmR u_4 n c0 (c0 + (pNu (ML q N d) (PL q N d) q n lev cr 0 0).length) (uni lev))) := hD
          refine lv_goto (tgt := 103) hx hb dX3_layScripts_90 (by decide) ?_
          have hw4 : (((c0 + (pNu (ML q N d) (PL q N d) q n lev cr 0 0).length) + (PL q N d (nI ju) (scl lev) cr 0 0).length) + (PL q N d (nI jl) (scl lev) 1 0 0).length) = c0 + (pAt (ML q N d) (PL q N d) q n lev cr 0 0).length := by rw [at_len, ho1, ho2] <;> omega
          rw [hw4] at hP hD
          exact k_vret C0 (lmR u_4 n c0 (c0 + (pNu (ML q N d) (PL q N d) q n lev cr 0 0).length) (uni lev)) hP hD hS (hfin.1 ⟨by rw [← a4]; exact (bI_nz.mp c_78).1, (bI_nz.mp c_78).2⟩) dX3_layScripts_103
