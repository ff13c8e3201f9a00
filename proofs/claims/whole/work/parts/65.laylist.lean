set_option maxHeartbeats 1500000 in
set_option maxRecDepth 100000 in
theorem c_X3_layList (l : Launch) (D : va_G) (cI : ClassId) (a : Nat → Nat) (v : Nat → Int32) (r : Nat → Nat → Int32) (q : Rw) (N k d lv : Nat) (dp sl : Nat → Nat) (lev cr : Int32) (c : Nat) (hM : HLL l D cI a q N dp d) (hBD : HBD q N dp d) (hT : LY q N dp sl) (hr : RQ q N v r) (hN : v 0 = nI N) (hk : k < 30) (hd : 30 ≤ d + 1 + dp k) (hlv : lv ≤ dp k) (hlev : lvO lev) (hcl : c + (PL q N (d + 1) (nI k) lev cr 0 0).length ≤ 150) : KV l D cI yX3_layList wsX3_layList (rxL (d + 1)) [.ref (a 20), .int (nI k), .int lev, .int cr, .int (nI lv)] (wX cI a (vU v 4 (nI c)) r) (fun u : Rw => wX cI a (vU v 4 (nI (c + (PL q N (d + 1) (nI k) lev cr 0 0).length))) u) (fun u => LLP q N (d + 1) r k lev cr c u) := by
  refine KV.of (cc := cX3_layList) (nL := 10) (ret := none) (by decide) rfl (Nat.le_of_ble_eq_true rfl) ?_
  intro pg9 en9 s m args below meth cd9 A ls C0 hP hD hS hl
  have hx := C0.1.1
  have hb := C0.1.2.1
  have hml := C0.1.2.2.1
  have hown : s.vm.findClass RX3 = some m.cls := C0.1.2.2.2.1
  have hts : ∀ w ∈ wsX3_layList, w.before args s = true := C0.1.2.2.2.2
  have hK := C0.2.2.2.1
  have hin_X3 : ∀ w ∈ wsX30, w ∈ wsX3_layList := fun w h => List.mem_cons_of_mem _ (List.mem_append_left _ (List.mem_append_left _ (List.mem_append_left _ (List.mem_append_right _ h))))
  have hf12 : (Cond.fieldLink RX3 12 "FormulaLists$Layout" "boxes" "LFormulaLists$Boxes;").before args s = true := hts _ (by decide +kernel)
  have hf21 : (Cond.fieldLink RX3 21 "FormulaLists$Layout" "items" "LFormulaLists$Items;").before args s = true := hts _ (by decide +kernel)
  have hin_X2 : ∀ w ∈ wsX20, w ∈ wsX3_layList := fun w h => List.mem_cons_of_mem _ (List.mem_append_left _ (List.mem_append_left _ (List.mem_append_right _ h)))
  have hf39 : (Cond.fieldLink RX3 39 "FormulaLists$Items" "count" "I").before args s = true := hts _ (by decide +kernel)
  have hf35 : (Cond.fieldLink RX3 35 "FormulaLists$Layout" "book" "LFormulaLists$Book;").before args s = true := hts _ (by decide +kernel)
  have hin_X0 : ∀ w ∈ wsX00, w ∈ wsX3_layList := fun w h => List.mem_cons_of_mem _ (List.mem_append_left _ (List.mem_append_right _ h))
  have hf57 : (Cond.fieldLink RX3 57 "FormulaLists$Book" "nodes" "I").before args s = true := hts _ (by decide +kernel)
  have hin_X1 : ∀ w ∈ wsX10, w ∈ wsX3_layList := fun w h => List.mem_cons_of_mem _ (List.mem_append_right _ h)
  have hf93 : (Cond.fieldLink RX3 93 "FormulaLists$Boxes" "end" "[I").before args s = true := hts _ (by decide +kernel)
  have hf62 : (Cond.fieldLink RX3 62 "FormulaLists$Book" "home" "[I").before args s = true := hts _ (by decide +kernel)
  have hf65 : (Cond.fieldLink RX3 65 "FormulaLists$Book" "form" "[I").before args s = true := hts _ (by decide +kernel)
  have hf68 : (Cond.fieldLink RX3 68 "FormulaLists$Book" "first" "[I").before args s = true := hts _ (by decide +kernel)
  have hf71 : (Cond.fieldLink RX3 71 "FormulaLists$Book" "second" "[I").before args s = true := hts _ (by decide +kernel)
  have hl : lv_has ls 10 [(0, .ref (a 20)), (1, .int (nI k)), (2, .int lev), (3, .int cr), (4, .int (nI lv))] := hl
  have hP : va_P D vwCl (wX cI a (vU v 4 (nI c)) r) s.heap := hP
  have h9 := hT.1
  have hdp := (hT.2.2.1 k hk).1
  have hcl2 : c + (plS (ML q N d) (PL q N d) q N (nI k) lev cr 0 0 N).length ≤ 150 := hcl
  refine lv_aload_n hx hb dX3_layList_0 rfl (lv_at hl 0 rfl) ?_
  refine va_get (D := D) (ci := 3) (v := .ref (a 12)) (C := RX3) (T := TX3) (N := 6) hx hb hts hin_X3 hown hK hP 20 rfl rfl 1 (by decide) hf12 (fun _ h9 => h9) rfl dX3_layList_1 ?_
  refine lv_iload_n hx hb dX3_layList_4 rfl (lv_at hl 1 rfl) ?_
  refine lv_aload_n hx hb dX3_layList_5 rfl (lv_at hl 0 rfl) ?_
  refine va_get (D := D) (ci := 3) (v := .ref (a 18)) (C := RX3) (T := TX3) (N := 6) hx hb hts hin_X3 hown hK hP 20 rfl rfl 2 (by decide) hf21 (fun _ h9 => h9) rfl dX3_layList_6 ?_
  refine va_get (D := D) (ci := 2) (v := .int (nI c)) (C := RX2) (T := TX2) (N := 2) hx hb hts hin_X2 hown hK hP 18 rfl rfl 0 (by decide) hf39 (fun _ h9 => h9) rfl dX3_layList_9 ?_
  refine kcDv C0 hP hD hS (c_X1_begin l D cI a (vU v 4 (nI c)) r k (nI c) (by omega)) (cwV 2 hts gX3_layList_X1_begin rfl rfl rfl (by decide +kernel) ⟨by dsimp only [rxL, rxF, rxA]; omega, by dsimp only [rxL, rxF, rxA]; omega⟩) 12 1 rfl rfl rfl hl.1 rfl (Nat.le_of_ble_eq_true rfl) dX3_layList_12 ⟨Nat.zero_le _, Nat.zero_le _⟩ (fun H locs hP hD hS => ?_)
  have hP : va_P D vwCl (wX cI a (vU v 4 (nI c)) (bgR r k (nI c))) H := hP
  have hD : va_D A (wX cI a (vU v 4 (nI c)) (bgR r k (nI c))) := hD
  refine lv_iload hx hb dX3_layList_15 (lv_at hl 4 rfl) ?_
  refine lv_bipush (v := 30) hx hb dX3_layList_17 (by decide) ?_
  refine lv_icmp_lt (tgt := 23) hx hb dX3_layList_19 (by decide) (fun c_19 => ?_) (fun c_19 => absurd (show nI lv < 30 from (nI_ltI (b := 30) (by omega) (by omega)).mpr (by omega)) c_19)
  refine lv_iload_n hx hb dX3_layList_23 rfl (lv_at hl 2 rfl) ?_
  refine lv_istore (lv' := [(5, .int lev), (0, .ref (a 20)), (1, .int (nI k)), (2, .int lev), (3, .int cr), (4, .int (nI lv))]) hx hb dX3_layList_24 hl (by decide) rfl (fun ls hl => ?_)
  refine lv_iload_n hx hb dX3_layList_26 rfl (lv_at hl 4 rfl) ?_
  refine lv_istore (lv' := [(6, .int cr), (5, .int lev), (0, .ref (a 20)), (1, .int (nI k)), (2, .int lev), (3, .int cr), (4, .int (nI lv))]) hx hb dX3_layList_27 hl (by decide) rfl (fun ls hl => ?_)
  refine lv_iconst (v := (-1)) hx hb dX3_layList_29 (by decide) ?_
  refine lv_istore (lv' := [(7, .int (-1)), (6, .int cr), (5, .int lev), (0, .ref (a 20)), (1, .int (nI k)), (2, .int lev), (3, .int cr), (4, .int (nI lv))]) hx hb dX3_layList_30 hl (by decide) rfl (fun ls hl => ?_)
  refine lv_iconst (v := 0) hx hb dX3_layList_32 (by decide) ?_
  refine lv_istore (lv' := [(8, .int 0), (7, .int (-1)), (6, .int cr), (5, .int lev), (0, .ref (a 20)), (1, .int (nI k)), (2, .int lev), (3, .int cr), (4, .int (nI lv))]) hx hb dX3_layList_33 hl (by decide) rfl (fun ls hl => ?_)
  refine lpW (nL := 10) (A := A) (D := D) (fun z : Nat × Rw => (wX cI a (vU v 4 (nI (c + (plS (ML q N d) (PL q N d) q N (nI k) lev cr 0 0 z.1).length))) z.2)) (fun z : Nat × Rw => [(8, .int (nI z.1)), (7, .int (bfr (q 2) (q 3) (q 4) N (nI k) z.1)), (6, .int ((lsS (ML q N d) q N (nI k) lev cr z.1).2.2.2.2)), (5, .int ((lsS (ML q N d) q N (nI k) lev cr z.1).2.2.2.1)), (0, .ref (a 20)), (1, .int (nI k)), (2, .int lev), (3, .int cr), (4, .int (nI lv))]) (fun z : Nat × Rw => z.1 ≤ N ∧ LI q N d k lev cr r c z.1 z.2) (fun z : Nat × Rw => N - z.1) (0, (bgR r k (nI c))) hP hD hS (lv_sub hl [0, 1, 2, 3, 4, 5, 6, 7, 8] rfl) ⟨Nat.zero_le _, li_0 hk⟩ ?_
  rintro ⟨m2, Rk⟩ H locs ls hP hD hS hl hf ih
  have hP : va_P D vwCl (wX cI a (vU v 4 (nI (c + (plS (ML q N d) (PL q N d) q N (nI k) lev cr 0 0 m2).length))) Rk) H := hP
  have hD : va_D A (wX cI a (vU v 4 (nI (c + (plS (ML q N d) (PL q N d) q N (nI k) lev cr 0 0 m2).length))) Rk) := hD
  have hl : lv_has ls 10 [(8, .int (nI m2)), (7, .int (bfr (q 2) (q 3) (q 4) N (nI k) m2)), (6, .int ((lsS (ML q N d) q N (nI k) lev cr m2).2.2.2.2)), (5, .int ((lsS (ML q N d) q N (nI k) lev cr m2).2.2.2.1)), (0, .ref (a 20)), (1, .int (nI k)), (2, .int lev), (3, .int cr), (4, .int (nI lv))] := hl
  have hf : m2 ≤ N ∧ LI q N d k lev cr r c m2 Rk := hf
  obtain ⟨hm1, hli⟩ := hf
  refine lv_iload hx hb dX3_layList_35 (lv_at hl 0 rfl) ?_
  refine lv_aload_n hx hb dX3_layList_37 rfl (lv_at hl 4 rfl) ?_
  refine va_get (D := D) (ci := 3) (v := .ref (a 1)) (C := RX3) (T := TX3) (N := 6) hx hb hts hin_X3 hown hK hP 20 rfl rfl 0 (by decide) hf35 (fun _ h9 => h9) rfl dX3_layList_38 ?_
  refine va_get (D := D) (ci := 0) (v := .int (v 0)) (C := RX0) (T := TX0) (N := 14) hx hb hts hin_X0 hown hK hP 1 rfl rfl 0 (by decide) hf57 (fun _ h9 => h9) rfl dX3_layList_41 ?_
  refine lv_eqi hN ?_
  refine lv_icmp_ge (tgt := 171) hx hb dX3_layList_44 (by decide) (fun c_44 => ?_) (fun c_44 => ?_)
  · skip
    have hmN : m2 = N := by have := (nI_leI (by omega) (by omega)).mp c_44; omega
    rw [hmN] at hP hD hli
    refine lv_aload_n hx hb dX3_layList_171 rfl (lv_at hl 4 rfl) ?_
    refine va_get (D := D) (ci := 3) (v := .ref (a 12)) (C := RX3) (T := TX3) (N := 6) hx hb hts hin_X3 hown hK hP 20 rfl rfl 1 (by decide) hf12 (fun _ h9 => h9) rfl dX3_layList_172 ?_
    refine va_get (D := D) (ci := 1) (v := .ref (a 17)) (C := RX1) (T := TX1) (N := 5) hx hb hts hin_X1 hown hK hP 12 rfl rfl 4 (by decide) hf93 (fun _ h9 => h9) rfl dX3_layList_175 ?_
    refine lv_iload_n hx hb dX3_layList_178 rfl (lv_at hl 5 rfl) ?_
    refine lv_aload_n hx hb dX3_layList_179 rfl (lv_at hl 4 rfl) ?_
    refine va_get (D := D) (ci := 3) (v := .ref (a 18)) (C := RX3) (T := TX3) (N := 6) hx hb hts hin_X3 hown hK hP 20 rfl rfl 2 (by decide) hf21 (fun _ h9 => h9) rfl dX3_layList_180 ?_
    refine va_get (D := D) (ci := 2) (v := .int (nI (c + (plS (ML q N d) (PL q N d) q N (nI k) lev cr 0 0 N).length))) (C := RX2) (T := TX2) (N := 2) hx hb hts hin_X2 hown hK hP 18 rfl rfl 0 (by decide) hf39 (fun _ h9 => h9) rfl dX3_layList_183 ?_
    refine ra_st (f := (Rk 17)) C0 hP hD hS 17 rfl k rfl (by omega) (by decide) dX3_layList_186 (fun H locs hP hD hS => ?_)
    have hset : ∀ (y4_ : Int32) (g_ : Nat → Int32), (wX cI a (vU v 4 y4_) Rk).set 17 (a 17, .inl (cI, 150, .inl g_)) = (wX cI a (vU v 4 y4_) (rU Rk 17 g_)) := fun _ _ => rfl
    rw [hset] at hP hD
    exact k_vret C0 (rU Rk 17 (upd (Rk 17) k (nI (c + (plS (ML q N d) (PL q N d) q N (nI k) lev cr 0 0 N).length)))) hP hD hS (li_end hk hli) dX3_layList_187
  · skip
    have hlt : m2 < N := Nat.not_le.mp (fun e => c_44 (nI_le e (by omega)))
    have a2 : Rk 2 m2 = q 2 m2 := by rw [hli.1 2 (by decide), hr.1.1]
    have a3 : Rk 3 m2 = q 3 m2 := by rw [hli.1 3 (by decide), hr.1.2.1]
    refine lv_aload_n hx hb dX3_layList_47 rfl (lv_at hl 4 rfl) ?_
    refine va_get (D := D) (ci := 3) (v := .ref (a 1)) (C := RX3) (T := TX3) (N := 6) hx hb hts hin_X3 hown hK hP 20 rfl rfl 0 (by decide) hf35 (fun _ h9 => h9) rfl dX3_layList_48 ?_
    refine va_get (D := D) (ci := 0) (v := .ref (a 2)) (C := RX0) (T := TX0) (N := 14) hx hb hts hin_X0 hown hK hP 1 rfl rfl 3 (by decide) hf62 (fun _ h9 => h9) rfl dX3_layList_51 ?_
    refine lv_iload hx hb dX3_layList_54 (lv_at hl 0 rfl) ?_
    refine ra_ld (f := (Rk 2)) C0 hP 2 rfl m2 rfl (by omega) (by decide) dX3_layList_56 ?_
    refine lv_iload_n hx hb dX3_layList_57 rfl (lv_at hl 5 rfl) ?_
    refine lv_icmp_eq (tgt := 64) hx hb dX3_layList_58 (by decide) (fun c_58 => ?_) (fun c_58 => ?_)
    · skip
      have c_58q : q 2 m2 = nI k := a2.symm.trans c_58
      refine lv_aload_n hx hb dX3_layList_64 rfl (lv_at hl 4 rfl) ?_
      refine va_get (D := D) (ci := 3) (v := .ref (a 1)) (C := RX3) (T := TX3) (N := 6) hx hb hts hin_X3 hown hK hP 20 rfl rfl 0 (by decide) hf35 (fun _ h9 => h9) rfl dX3_layList_65 ?_
      refine va_get (D := D) (ci := 0) (v := .ref (a 3)) (C := RX0) (T := TX0) (N := 14) hx hb hts hin_X0 hown hK hP 1 rfl rfl 4 (by decide) hf65 (fun _ h9 => h9) rfl dX3_layList_68 ?_
      refine lv_iload hx hb dX3_layList_71 (lv_at hl 0 rfl) ?_
      refine ra_ld (f := (Rk 3)) C0 hP 3 rfl m2 rfl (by omega) (by decide) dX3_layList_73 ?_
      refine lv_iconst (v := 4) hx hb dX3_layList_74 (by decide) ?_
      refine lv_icmp_ne (tgt := 114) hx hb dX3_layList_75 (by decide) (fun c_75 => ?_) (fun c_75 => ?_)
      · skip
        have c_75q : ¬ q 3 m2 = 4 := fun e => c_75 (a3.trans e)
        have hcl3 : c + (plS (ML q N d) (PL q N d) q N (nI k) lev cr 0 0 m2).length + (pAt (ML q N d) (PL q N d) q m2 (lsS (ML q N d) q N (nI k) lev cr m2).2.2.2.1 (lsS (ML q N d) q N (nI k) lev cr m2).2.2.2.2 0 0).length ≤ 150 := by have h7 := pls_len (q := q) (N := N) (d := d) (k := k) (lev := lev) (cr := cr) (show m2 + 1 ≤ N from hlt); rw [(ls_atom (N := N) (d := d) (lev := lev) (cr := cr) c_58q c_75q).2.1, List.length_append, List.length_map] at h7; omega
        refine lv_aload_n hx hb dX3_layList_114 rfl (lv_at hl 4 rfl) ?_
        refine lv_iload hx hb dX3_layList_115 (lv_at hl 0 rfl) ?_
        refine lv_iload hx hb dX3_layList_117 (lv_at hl 3 rfl) ?_
        refine lv_iload hx hb dX3_layList_119 (lv_at hl 2 rfl) ?_
        refine lv_iload hx hb dX3_layList_121 (lv_at hl 8 rfl) ?_
        refine kcVv C0 hP hD hS (c_X3_layAtom l D cI a v Rk q N m2 k d lv dp sl (lsS (ML q N d) q N (nI k) lev cr m2).2.2.2.1 (lsS (ML q N d) q N (nI k) lev cr m2).2.2.2.2 (c + (plS (ML q N d) (PL q N d) q N (nI k) lev cr 0 0 m2).length) hM hT (hr.sb hli.1) hN hlt hk c_58q (by omega) hlv (li_lv hT hlev m2 (by omega)) hBD c_75q hcl3) (cwV 4 hts gX3_layList_X3_layAtom rfl rfl rfl (by decide +kernel) ⟨by dsimp only [rxL, rxF, rxA]; omega, by dsimp only [rxL, rxF, rxA]; omega⟩) 20 3 rfl rfl rfl hl.1 rfl (Nat.le_of_ble_eq_true rfl) dX3_layList_123 ⟨Nat.zero_le _, Nat.zero_le _⟩ (fun u H locs hq hP hD hS => ?_)
        obtain ⟨u_1, rfl⟩ : ∃ z9, z9 = u := ⟨_, rfl⟩
        have hA9 := hq
        have hP : va_P D vwCl (wX cI a (vU v 4 (nI ((c + (plS (ML q N d) (PL q N d) q N (nI k) lev cr 0 0 m2).length) + (pAt (ML q N d) (PL q N d) q m2 (lsS (ML q N d) q N (nI k) lev cr m2).2.2.2.1 (lsS (ML q N d) q N (nI k) lev cr m2).2.2.2.2 0 0).length))) u_1) H := hP
        have hD : va_D A (wX cI a (vU v 4 (nI ((c + (plS (ML q N d) (PL q N d) q N (nI k) lev cr 0 0 m2).length) + (pAt (ML q N d) (PL q N d) q m2 (lsS (ML q N d) q N (nI k) lev cr m2).2.2.2.1 (lsS (ML q N d) q N (nI k) lev cr m2).2.2.2.2 0 0).length))) u_1) := hD
        refine lv_aload_n hx hb dX3_layList_126 rfl (lv_at hl 4 rfl) ?_
        refine va_get (D := D) (ci := 3) (v := .ref (a 1)) (C := RX3) (T := TX3) (N := 6) hx hb hts hin_X3 hown hK hP 20 rfl rfl 0 (by decide) hf35 (fun _ h9 => h9) rfl dX3_layList_127 ?_
        refine lv_iload hx hb dX3_layList_130 (lv_at hl 0 rfl) ?_
        refine lv_iload hx hb dX3_layList_132 (lv_at hl 1 rfl) ?_
        refine kcD (ans := (caK (u_1 4 m2) (bfr (q 2) (q 3) (q 4) N (nI k) m2) (kdA (u_1 2) (u_1 3) (u_1 4) N (u_1 2 m2) m2))) C0 hP hD hS (c_X0_countsAs l D cI a (vU v 4 (nI ((c + (plS (ML q N d) (PL q N d) q N (nI k) lev cr 0 0 m2).length) + (pAt (ML q N d) (PL q N d) q m2 (lsS (ML q N d) q N (nI k) lev cr m2).2.2.2.1 (lsS (ML q N d) q N (nI k) lev cr m2).2.2.2.2 0 0).length))) u_1 m2 N (bfr (q 2) (q 3) (q 4) N (nI k) m2) hN h9 hlt) (cwV 2 hts gX3_layList_X0_countsAs rfl rfl rfl (by decide +kernel) ⟨by dsimp only [rxL, rxF, rxA]; omega, by dsimp only [rxL, rxF, rxA]; omega⟩) 1 0 rfl rfl rfl hl.1 rfl (Nat.le_of_ble_eq_true rfl) dX3_layList_134 ⟨Nat.zero_le _, Nat.zero_le _⟩ (fun H locs hP hD hS => ?_)
        refine lv_eqi (show _ = (cnA (q 2) (q 3) (q 4) N m2) by rw [hA9.1.1 2 (by decide), hA9.1.1 3 (by decide), hA9.1.1 4 (by decide), hli.1 2 (by decide), hli.1 3 (by decide), hli.1 4 (by decide), hr.1.1, hr.1.2.1, hr.1.2.2.1, cnA, c_58q]) ?_
        refine lv_istore (lv' := [(9, .int (cnA (q 2) (q 3) (q 4) N m2)), (8, .int (nI m2)), (7, .int (bfr (q 2) (q 3) (q 4) N (nI k) m2)), (6, .int ((lsS (ML q N d) q N (nI k) lev cr m2).2.2.2.2)), (5, .int ((lsS (ML q N d) q N (nI k) lev cr m2).2.2.2.1)), (0, .ref (a 20)), (1, .int (nI k)), (2, .int lev), (3, .int cr), (4, .int (nI lv))]) hx hb dX3_layList_137 hl (by decide) rfl (fun ls hl => ?_)
        refine lv_aload_n hx hb dX3_layList_139 rfl (lv_at hl 5 rfl) ?_
        refine lv_iload_n hx hb dX3_layList_140 rfl (lv_at hl 6 rfl) ?_
        refine lv_iload hx hb dX3_layList_141 (lv_at hl 1 rfl) ?_
        refine lv_iload hx hb dX3_layList_143 (lv_at hl 2 rfl) ?_
        refine lv_iload hx hb dX3_layList_145 (lv_at hl 0 rfl) ?_
        refine lv_iload hx hb dX3_layList_147 (lv_at hl 4 rfl) ?_
        refine kcSN (ans := (spU (bfr (q 2) (q 3) (q 4) N (nI k) m2) (cnA (q 2) (q 3) (q 4) N m2) ((lsS (ML q N d) q N (nI k) lev cr m2).2.2.2.1))) C0 hP hS (c_X4_spaceUnits l D cI (bfr (q 2) (q 3) (q 4) N (nI k) m2) (cnA (q 2) (q 3) (q 4) N m2) ((lsS (ML q N d) q N (nI k) lev cr m2).2.2.2.1) ) ⟨va_cnB 3 hts gX3_layList_X4_spaceUnits_n81 rfl rfl rfl C0.2.2.2.2.2.1.1 (hts (.initialized RX4) (by decide +kernel)) (by decide +kernel) ⟨by dsimp only [rxL, rxF, rxA]; omega, by dsimp only [rxL, rxF, rxA]; omega⟩, hts (.static yX4_spaceUnits) (by decide +kernel), trivial⟩ rfl hl.1 rfl (Nat.le_of_ble_eq_true rfl) dX3_layList_149 ⟨Nat.zero_le _, Nat.zero_le _⟩ (fun H locs hP hS => ?_)
        refine lv_iload hx hb dX3_layList_152 (lv_at hl 4 rfl) ?_
        refine kcSN (ans := (uni ((lsS (ML q N d) q N (nI k) lev cr m2).2.2.2.1))) C0 hP hS (c_X4_unit l D cI ((lsS (ML q N d) q N (nI k) lev cr m2).2.2.2.1) ) ⟨va_cnB 1 hts gX3_layList_X4_unit_n85 rfl rfl rfl C0.2.2.2.2.2.1.2.1 (hts (.initialized RX4) (by decide +kernel)) (by decide +kernel) ⟨by dsimp only [rxL, rxF, rxA]; omega, by dsimp only [rxL, rxF, rxA]; omega⟩, hts (.static yX4_unit) (by decide +kernel), trivial⟩ rfl hl.1 rfl (Nat.le_of_ble_eq_true rfl) dX3_layList_154 ⟨Nat.zero_le _, Nat.zero_le _⟩ (fun H locs hP hS => ?_)
        refine lv_imul hx hb dX3_layList_157 ?_
        refine kcDv C0 hP hD hS (c_X3_append l D cI a (vU v 4 (nI ((c + (plS (ML q N d) (PL q N d) q N (nI k) lev cr 0 0 m2).length) + (pAt (ML q N d) (PL q N d) q m2 (lsS (ML q N d) q N (nI k) lev cr m2).2.2.2.1 (lsS (ML q N d) q N (nI k) lev cr m2).2.2.2.2 0 0).length))) u_1 k m2 (c + (plS (ML q N d) (PL q N d) q N (nI k) lev cr 0 0 m2).length) ((c + (plS (ML q N d) (PL q N d) q N (nI k) lev cr 0 0 m2).length) + (pAt (ML q N d) (PL q N d) q m2 (lsS (ML q N d) q N (nI k) lev cr m2).2.2.2.1 (lsS (ML q N d) q N (nI k) lev cr m2).2.2.2.2 0 0).length) ((c + (plS (ML q N d) (PL q N d) q N (nI k) lev cr 0 0 m2).length) + (pAt (ML q N d) (PL q N d) q m2 (lsS (ML q N d) q N (nI k) lev cr m2).2.2.2.1 (lsS (ML q N d) q N (nI k) lev cr m2).2.2.2.2 0 0).length) ((spU (bfr (q 2) (q 3) (q 4) N (nI k) m2) (cnA (q 2) (q 3) (q 4) N m2) ((lsS (ML q N d) q N (nI k) lev cr m2).2.2.2.1)) * (uni ((lsS (ML q N d) q N (nI k) lev cr m2).2.2.2.1))) hk (by omega) hA9.1.2.2.2.1 hA9.2 (by omega) (by omega) rfl hcl3) (cwV 3 hts gX3_layList_X3_append rfl rfl rfl (by decide +kernel) ⟨by dsimp only [rxL, rxF, rxA]; omega, by dsimp only [rxL, rxF, rxA]; omega⟩) 20 3 rfl rfl rfl hl.1 rfl (Nat.le_of_ble_eq_true rfl) dX3_layList_158 ⟨Nat.zero_le _, Nat.zero_le _⟩ (fun H locs hP hD hS => ?_)
        have hP : va_P D vwCl (wX cI a (vU v 4 (nI ((c + (plS (ML q N d) (PL q N d) q N (nI k) lev cr 0 0 m2).length) + (pAt (ML q N d) (PL q N d) q m2 (lsS (ML q N d) q N (nI k) lev cr m2).2.2.2.1 (lsS (ML q N d) q N (nI k) lev cr m2).2.2.2.2 0 0).length))) (apR u_1 k m2 (c + (plS (ML q N d) (PL q N d) q N (nI k) lev cr 0 0 m2).length) ((c + (plS (ML q N d) (PL q N d) q N (nI k) lev cr 0 0 m2).length) + (pAt (ML q N d) (PL q N d) q m2 (lsS (ML q N d) q N (nI k) lev cr m2).2.2.2.1 (lsS (ML q N d) q N (nI k) lev cr m2).2.2.2.2 0 0).length) ((spU (bfr (q 2) (q 3) (q 4) N (nI k) m2) (cnA (q 2) (q 3) (q 4) N m2) ((lsS (ML q N d) q N (nI k) lev cr m2).2.2.2.1)) * (uni ((lsS (ML q N d) q N (nI k) lev cr m2).2.2.2.1))))) H := hP
        have hD : va_D A (wX cI a (vU v 4 (nI ((c + (plS (ML q N d) (PL q N d) q N (nI k) lev cr 0 0 m2).length) + (pAt (ML q N d) (PL q N d) q m2 (lsS (ML q N d) q N (nI k) lev cr m2).2.2.2.1 (lsS (ML q N d) q N (nI k) lev cr m2).2.2.2.2 0 0).length))) (apR u_1 k m2 (c + (plS (ML q N d) (PL q N d) q N (nI k) lev cr 0 0 m2).length) ((c + (plS (ML q N d) (PL q N d) q N (nI k) lev cr 0 0 m2).length) + (pAt (ML q N d) (PL q N d) q m2 (lsS (ML q N d) q N (nI k) lev cr m2).2.2.2.1 (lsS (ML q N d) q N (nI k) lev cr m2).2.2.2.2 0 0).length) ((spU (bfr (q 2) (q 3) (q 4) N (nI k) m2) (cnA (q 2) (q 3) (q 4) N m2) ((lsS (ML q N d) q N (nI k) lev cr m2).2.2.2.1)) * (uni ((lsS (ML q N d) q N (nI k) lev cr m2).2.2.2.1))))) := hD
        refine lv_iload hx hb dX3_layList_161 (lv_at hl 0 rfl) ?_
        refine lv_istore (lv' := [(7, .int (cnA (q 2) (q 3) (q 4) N m2)), (9, .int (cnA (q 2) (q 3) (q 4) N m2)), (8, .int (nI m2)), (6, .int ((lsS (ML q N d) q N (nI k) lev cr m2).2.2.2.2)), (5, .int ((lsS (ML q N d) q N (nI k) lev cr m2).2.2.2.1)), (0, .ref (a 20)), (1, .int (nI k)), (2, .int lev), (3, .int cr), (4, .int (nI lv))]) hx hb dX3_layList_163 hl (by decide) rfl (fun ls hl => ?_)
        refine lv_iinc (v := (nI (m2 + 1))) (lv' := [(8, .int (nI (m2 + 1))), (7, .int (cnA (q 2) (q 3) (q 4) N m2)), (9, .int (cnA (q 2) (q 3) (q 4) N m2)), (6, .int ((lsS (ML q N d) q N (nI k) lev cr m2).2.2.2.2)), (5, .int ((lsS (ML q N d) q N (nI k) lev cr m2).2.2.2.1)), (0, .ref (a 20)), (1, .int (nI k)), (2, .int lev), (3, .int cr), (4, .int (nI lv))]) hx hb dX3_layList_165 hl (k := 2) rfl (k_inc m2) (by decide) rfl (fun ls hl => ?_)
        refine lv_goto (tgt := 35) hx hb dX3_layList_168 (by decide) ?_
        obtain ⟨le1, le2, le3⟩ := ls_atom (N := N) (d := d) (lev := lev) (cr := cr) c_58q c_75q
        have hli2 := li_atom (x := ((spU (bfr (q 2) (q 3) (q 4) N (nI k) m2) (cnA (q 2) (q 3) (q 4) N m2) ((lsS (ML q N d) q N (nI k) lev cr m2).2.2.2.1)) * (uni ((lsS (ML q N d) q N (nI k) lev cr m2).2.2.2.1)))) hT hlt hk c_58q c_75q hli rfl hA9.1 (by rw [spA]; exact sp_e (bfr_r hT m2 (by omega)) (caK_r (hT.2.2.2.2 m2 hlt).1) (li_lv hT hlev m2 (by omega)))
        have hw4 : c + (plS (ML q N d) (PL q N d) q N (nI k) lev cr 0 0 m2).length + (pAt (ML q N d) (PL q N d) q m2 (lsS (ML q N d) q N (nI k) lev cr m2).2.2.2.1 (lsS (ML q N d) q N (nI k) lev cr m2).2.2.2.2 0 0).length = c + (plS (ML q N d) (PL q N d) q N (nI k) lev cr 0 0 (m2 + 1)).length := by rw [le2, List.length_append, List.length_map, Nat.add_assoc]
        have hw5 : wX cI a (vU v 4 (nI (c + (plS (ML q N d) (PL q N d) q N (nI k) lev cr 0 0 m2).length + (pAt (ML q N d) (PL q N d) q m2 (lsS (ML q N d) q N (nI k) lev cr m2).2.2.2.1 (lsS (ML q N d) q N (nI k) lev cr m2).2.2.2.2 0 0).length))) (apR u_1 k m2 (c + (plS (ML q N d) (PL q N d) q N (nI k) lev cr 0 0 m2).length) ((c + (plS (ML q N d) (PL q N d) q N (nI k) lev cr 0 0 m2).length) + (pAt (ML q N d) (PL q N d) q m2 (lsS (ML q N d) q N (nI k) lev cr m2).2.2.2.1 (lsS (ML q N d) q N (nI k) lev cr m2).2.2.2.2 0 0).length) ((spU (bfr (q 2) (q 3) (q 4) N (nI k) m2) (cnA (q 2) (q 3) (q 4) N m2) ((lsS (ML q N d) q N (nI k) lev cr m2).2.2.2.1)) * (uni ((lsS (ML q N d) q N (nI k) lev cr m2).2.2.2.1)))) = (wX cI a (vU v 4 (nI (c + (plS (ML q N d) (PL q N d) q N (nI k) lev cr 0 0 (m2 + 1)).length))) (apR u_1 k m2 (c + (plS (ML q N d) (PL q N d) q N (nI k) lev cr 0 0 m2).length) ((c + (plS (ML q N d) (PL q N d) q N (nI k) lev cr 0 0 m2).length) + (pAt (ML q N d) (PL q N d) q m2 (lsS (ML q N d) q N (nI k) lev cr m2).2.2.2.1 (lsS (ML q N d) q N (nI k) lev cr m2).2.2.2.2 0 0).length) ((spU (bfr (q 2) (q 3) (q 4) N (nI k) m2) (cnA (q 2) (q 3) (q 4) N m2) ((lsS (ML q N d) q N (nI k) lev cr m2).2.2.2.1)) * (uni ((lsS (ML q N d) q N (nI k) lev cr m2).2.2.2.1))))) := congrArg (fun z9 => wX cI a (vU v 4 (nI z9)) (apR u_1 k m2 (c + (plS (ML q N d) (PL q N d) q N (nI k) lev cr 0 0 m2).length) ((c + (plS (ML q N d) (PL q N d) q N (nI k) lev cr 0 0 m2).length) + (pAt (ML q N d) (PL q N d) q m2 (lsS (ML q N d) q N (nI k) lev cr m2).2.2.2.1 (lsS (ML q N d) q N (nI k) lev cr m2).2.2.2.2 0 0).length) ((spU (bfr (q 2) (q 3) (q 4) N (nI k) m2) (cnA (q 2) (q 3) (q 4) N m2) ((lsS (ML q N d) q N (nI k) lev cr m2).2.2.2.1)) * (uni ((lsS (ML q N d) q N (nI k) lev cr m2).2.2.2.1))))) hw4
        rw [hw5] at hP hD
        have hl2 : lv_has ls 10 [(8, .int (nI (m2 + 1))), (7, .int (bfr (q 2) (q 3) (q 4) N (nI k) (m2 + 1))), (6, .int (lsS (ML q N d) q N (nI k) lev cr (m2 + 1)).2.2.2.2), (5, .int (lsS (ML q N d) q N (nI k) lev cr (m2 + 1)).2.2.2.1), (0, .ref (a 20)), (1, .int (nI k)), (2, .int lev), (3, .int cr), (4, .int (nI lv))] := by rw [le1, le3]; exact lv_sub hl [0, 1, 3, 4, 5, 6, 7, 8, 9] rfl
        exact ih ((m2 + 1), (apR u_1 k m2 (c + (plS (ML q N d) (PL q N d) q N (nI k) lev cr 0 0 m2).length) ((c + (plS (ML q N d) (PL q N d) q N (nI k) lev cr 0 0 m2).length) + (pAt (ML q N d) (PL q N d) q m2 (lsS (ML q N d) q N (nI k) lev cr m2).2.2.2.1 (lsS (ML q N d) q N (nI k) lev cr m2).2.2.2.2 0 0).length) ((spU (bfr (q 2) (q 3) (q 4) N (nI k) m2) (cnA (q 2) (q 3) (q 4) N m2) ((lsS (ML q N d) q N (nI k) lev cr m2).2.2.2.1)) * (uni ((lsS (ML q N d) q N (nI k) lev cr m2).2.2.2.1))))) _ _ _ hP hD hS hl2 ⟨hlt, hli2⟩ (show N - (m2 + 1) < N - m2 by omega)
      · skip
        have c_75q : q 3 m2 = 4 := a3.symm.trans c_75
        have hnm : ¬ q 3 m2 = 3 := by rw [c_75q]; decide
        have a7 : Rk 7 m2 = q 5 m2 := by rw [hli.1 7 (by decide)]; exact (hr.2.1 m2 hlt hnm).1
        have a8 : Rk 8 m2 = q 6 m2 := by rw [hli.1 8 (by decide)]; exact (hr.2.1 m2 hlt hnm).2.1
        refine lv_aload_n hx hb dX3_layList_78 rfl (lv_at hl 4 rfl) ?_
        refine va_get (D := D) (ci := 3) (v := .ref (a 1)) (C := RX3) (T := TX3) (N := 6) hx hb hts hin_X3 hown hK hP 20 rfl rfl 0 (by decide) hf35 (fun _ h9 => h9) rfl dX3_layList_79 ?_
        refine va_get (D := D) (ci := 0) (v := .ref (a 7)) (C := RX0) (T := TX0) (N := 14) hx hb hts hin_X0 hown hK hP 1 rfl rfl 8 (by decide) hf68 (fun _ h9 => h9) rfl dX3_layList_82 ?_
        refine lv_iload hx hb dX3_layList_85 (lv_at hl 0 rfl) ?_
        refine ra_ld (f := (Rk 7)) C0 hP 7 rfl m2 rfl (by omega) (by decide) dX3_layList_87 ?_
        refine lv_eqi a7 ?_
        refine lv_istore (lv' := [(5, .int (q 5 m2)), (8, .int (nI m2)), (7, .int (bfr (q 2) (q 3) (q 4) N (nI k) m2)), (6, .int ((lsS (ML q N d) q N (nI k) lev cr m2).2.2.2.2)), (0, .ref (a 20)), (1, .int (nI k)), (2, .int lev), (3, .int cr), (4, .int (nI lv))]) hx hb dX3_layList_88 hl (by decide) rfl (fun ls hl => ?_)
        refine lv_aload_n hx hb dX3_layList_90 rfl (lv_at hl 4 rfl) ?_
        refine va_get (D := D) (ci := 3) (v := .ref (a 1)) (C := RX3) (T := TX3) (N := 6) hx hb hts hin_X3 hown hK hP 20 rfl rfl 0 (by decide) hf35 (fun _ h9 => h9) rfl dX3_layList_91 ?_
        refine va_get (D := D) (ci := 0) (v := .ref (a 8)) (C := RX0) (T := TX0) (N := 14) hx hb hts hin_X0 hown hK hP 1 rfl rfl 9 (by decide) hf71 (fun _ h9 => h9) rfl dX3_layList_94 ?_
        refine lv_iload hx hb dX3_layList_97 (lv_at hl 1 rfl) ?_
        refine ra_ld (f := (Rk 8)) C0 hP 8 rfl m2 rfl (by omega) (by decide) dX3_layList_99 ?_
        refine lv_eqi a8 ?_
        refine lv_iconst (v := 1) hx hb dX3_layList_100 (by decide) ?_
        obtain ⟨x_2, ex_2⟩ : ∃ zz_ : Int32, zz_ = (if (q 6 m2) = 1 then (1 : Int32) else (0 : Int32)) := ⟨_, rfl⟩
        refine jW (D := D) hD hl 109 (wX cI a (vU v 4 (nI (c + (plS (ML q N d) (PL q N d) q N (nI k) lev cr 0 0 m2).length))) Rk) [(5, .int (q 5 m2)), (8, .int (nI m2)), (7, .int (bfr (q 2) (q 3) (q 4) N (nI k) m2)), (6, .int ((lsS (ML q N d) q N (nI k) lev cr m2).2.2.2.2)), (0, .ref (a 20)), (1, .int (nI k)), (2, .int lev), (3, .int cr), (4, .int (nI lv))] [.int x_2] (fun hJ => ?_) (fun H locs ls hP hD hS hl => ?_)
        · skip
          refine lv_icmp_ne (tgt := 108) hx hb dX3_layList_101 (by decide) (fun c_101 => ?_) (fun c_101 => ?_)
          · skip
            refine lv_iconst (v := 0) hx hb dX3_layList_108 (by decide) ?_
            have gx_2 : x_2 = 0 := by rw [ex_2]; simp only [if_neg c_101]
            simp only [gx_2] at hJ
            exact hJ _ _ _ hP hD hS (lv_sub hl [0, 1, 2, 3, 4, 5, 6, 7, 8] rfl)
          · skip
            refine lv_iconst (v := 1) hx hb dX3_layList_104 (by decide) ?_
            refine lv_goto (tgt := 109) hx hb dX3_layList_105 (by decide) ?_
            have gx_2 : x_2 = 1 := by rw [ex_2]; simp only [if_pos c_101]
            simp only [gx_2] at hJ
            exact hJ _ _ _ hP hD hS (lv_sub hl [0, 1, 2, 3, 4, 5, 6, 7, 8] rfl)
        · skip
          refine lv_eqi (show x_2 = (if q 6 m2 = 1 then (1 : Int32) else 0) from ex_2) ?_
          refine lv_istore (lv' := [(6, .int (if q 6 m2 = 1 then (1 : Int32) else 0)), (5, .int (q 5 m2)), (8, .int (nI m2)), (7, .int (bfr (q 2) (q 3) (q 4) N (nI k) m2)), (0, .ref (a 20)), (1, .int (nI k)), (2, .int lev), (3, .int cr), (4, .int (nI lv))]) hx hb dX3_layList_109 hl (by decide) rfl (fun ls hl => ?_)
          refine lv_goto (tgt := 165) hx hb dX3_layList_111 (by decide) ?_
          refine lv_iinc (v := (nI (m2 + 1))) (lv' := [(8, .int (nI (m2 + 1))), (6, .int (if q 6 m2 = 1 then (1 : Int32) else 0)), (5, .int (q 5 m2)), (7, .int (bfr (q 2) (q 3) (q 4) N (nI k) m2)), (0, .ref (a 20)), (1, .int (nI k)), (2, .int lev), (3, .int cr), (4, .int (nI lv))]) hx hb dX3_layList_165 hl (k := 2) rfl (k_inc m2) (by decide) rfl (fun ls hl => ?_)
          refine lv_goto (tgt := 35) hx hb dX3_layList_168 (by decide) ?_
          obtain ⟨le1, le2, le3⟩ := ls_style (N := N) (d := d) (lev := lev) (cr := cr) c_58q c_75q
          have hli2 : LI q N d k lev cr r c (m2 + 1) Rk := hli.sk le2 (by rw [le1]) (by rw [le1]) (by rw [le1])
          have hw5 : (wX cI a (vU v 4 (nI (c + (plS (ML q N d) (PL q N d) q N (nI k) lev cr 0 0 m2).length))) Rk) = (wX cI a (vU v 4 (nI (c + (plS (ML q N d) (PL q N d) q N (nI k) lev cr 0 0 (m2 + 1)).length))) Rk) := by rw [le2]
          rw [hw5] at hP hD
          have hl2 : lv_has ls 10 [(8, .int (nI (m2 + 1))), (7, .int (bfr (q 2) (q 3) (q 4) N (nI k) (m2 + 1))), (6, .int (lsS (ML q N d) q N (nI k) lev cr (m2 + 1)).2.2.2.2), (5, .int (lsS (ML q N d) q N (nI k) lev cr (m2 + 1)).2.2.2.1), (0, .ref (a 20)), (1, .int (nI k)), (2, .int lev), (3, .int cr), (4, .int (nI lv))] := by rw [le1, le3]; exact lv_sub hl [0, 3, 1, 2, 4, 5, 6, 7, 8] rfl
          exact ih ((m2 + 1), Rk) _ _ _ hP hD hS hl2 ⟨hlt, hli2⟩ (show N - (m2 + 1) < N - m2 by omega)
    · skip
      refine lv_goto (tgt := 165) hx hb dX3_layList_61 (by decide) ?_
      refine lv_iinc (v := (nI (m2 + 1))) (lv' := [(8, .int (nI (m2 + 1))), (7, .int (bfr (q 2) (q 3) (q 4) N (nI k) m2)), (6, .int ((lsS (ML q N d) q N (nI k) lev cr m2).2.2.2.2)), (5, .int ((lsS (ML q N d) q N (nI k) lev cr m2).2.2.2.1)), (0, .ref (a 20)), (1, .int (nI k)), (2, .int lev), (3, .int cr), (4, .int (nI lv))]) hx hb dX3_layList_165 hl (k := 0) rfl (k_inc m2) (by decide) rfl (fun ls hl => ?_)
      refine lv_goto (tgt := 35) hx hb dX3_layList_168 (by decide) ?_
      obtain ⟨le1, le2, le3⟩ := ls_skip (N := N) (d := d) (lev := lev) (cr := cr) (fun e => c_58 (a2.trans e))
      have hli2 : LI q N d k lev cr r c (m2 + 1) Rk := hli.sk le2 (by rw [le1]) (by rw [le1]) (by rw [le1])
      have hw5 : (wX cI a (vU v 4 (nI (c + (plS (ML q N d) (PL q N d) q N (nI k) lev cr 0 0 m2).length))) Rk) = (wX cI a (vU v 4 (nI (c + (plS (ML q N d) (PL q N d) q N (nI k) lev cr 0 0 (m2 + 1)).length))) Rk) := by rw [le2]
      rw [hw5] at hP hD
      have hl2 : lv_has ls 10 [(8, .int (nI (m2 + 1))), (7, .int (bfr (q 2) (q 3) (q 4) N (nI k) (m2 + 1))), (6, .int (lsS (ML q N d) q N (nI k) lev cr (m2 + 1)).2.2.2.2), (5, .int (lsS (ML q N d) q N (nI k) lev cr (m2 + 1)).2.2.2.1), (0, .ref (a 20)), (1, .int (nI k)), (2, .int lev), (3, .int cr), (4, .int (nI lv))] := by rw [le1, le3]; exact lv_sub hl [0, 1, 2, 3, 4, 5, 6, 7, 8] rfl
      exact ih ((m2 + 1), Rk) _ _ _ hP hD hS hl2 ⟨hlt, hli2⟩ (show N - (m2 + 1) < N - m2 by omega)

/-- THE CLASS'S LAYOUT OF A LIST, at every depth -/
theorem hll_all {l : Launch} {D : va_G} {cI : ClassId} {a : Nat → Nat} {q : Rw} {N : Nat} {dp sl : Nat → Nat} (hT : LY q N dp sl) (hB : ∀ d, HBD q N dp d) : ∀ d, HLL l D cI a q N dp d
  | 0 => fun v r k lv c lev cr hk hd => absurd hd (by have := (hT.2.2.1 k hk).1; omega)
  | d + 1 => fun v r k lv c lev cr hk hd hlv hr hN hlev hcl => c_X3_layList l D cI a v r q N k d lv dp sl lev cr c (hll_all hT hB d) (hB d) hT hr hN hk hd hlv hlev hcl

set_option maxHeartbeats 1500000 in
set_option maxRecDepth 100000 in
theorem c_X3_layOut (l : Launch) (D : va_G) (cI : ClassId) (a : Nat → Nat) (v : Nat → Int32) (r : Nat → Nat → Int32) (q : Rw) (N k : Nat) (dp sl : Nat → Nat) (hT : LY q N dp sl) (hB : ∀ d, HBD q N dp d) (hr : RQ q N v r) (hN : v 0 = nI N) (hk : k < 30) (hcl : (PL q N 30 (nI k) 0 0 0 0).length ≤ 150) : KV l D cI yX3_layOut wsX3_layOut ({ frames := 125, cells := 0, slots := 0, locals := 6200 }) [.ref (a 20), .int (nI k)] (wX cI a v r) (fun u : Rw => wX cI a (vU (vU (vU (vU v 4 (nI (PL q N 30 (nI k) 0 0 0 0).length)) 5 (ML q N 30 (nI k) 0 0).1) 6 (ML q N 30 (nI k) 0 0).2.1) 7 (ML q N 30 (nI k) 0 0).2.2) u) (fun u => SB r u ∧ u 19 = ptI (r 19) 0 (PL q N 30 (nI k) 0 0 0 0)) := by
  refine KV.of (cc := cX3_layOut) (nL := 2) (ret := none) (by decide) rfl (Nat.le_of_ble_eq_true rfl) ?_
  intro pg9 en9 s m args below meth cd9 A ls C0 hP hD hS hl
  have hx := C0.1.1
  have hb := C0.1.2.1
  have hml := C0.1.2.2.1
  have hown : s.vm.findClass RX3 = some m.cls := C0.1.2.2.2.1
  have hts : ∀ w ∈ wsX3_layOut, w.before args s = true := C0.1.2.2.2.2
  have hK := C0.2.2.2.1
  have hin_X3 : ∀ w ∈ wsX30, w ∈ wsX3_layOut := fun w h => List.mem_cons_of_mem _ (List.mem_append_left _ (List.mem_append_left _ (List.mem_append_left _ (List.mem_append_right _ h))))
  have hf21 : (Cond.fieldLink RX3 21 "FormulaLists$Layout" "items" "LFormulaLists$Items;").before args s = true := hts _ (by decide +kernel)
  have hin_X2 : ∀ w ∈ wsX20, w ∈ wsX3_layOut := fun w h => List.mem_cons_of_mem _ (List.mem_append_left _ (List.mem_append_left _ (List.mem_append_right _ h)))
  have hf39 : (Cond.fieldLink RX3 39 "FormulaLists$Items" "count" "I").before args s = true := hts _ (by decide +kernel)
  have hf12 : (Cond.fieldLink RX3 12 "FormulaLists$Layout" "boxes" "LFormulaLists$Boxes;").before args s = true := hts _ (by decide +kernel)
  have hin_X1 : ∀ w ∈ wsX10, w ∈ wsX3_layOut := fun w h => List.mem_cons_of_mem _ (List.mem_append_left _ (List.mem_append_right _ h))
  have hf46 : (Cond.fieldLink RX3 46 "FormulaLists$Boxes" "width" "[I").before args s = true := hts _ (by decide +kernel)
  have hf25 : (Cond.fieldLink RX3 25 "FormulaLists$Layout" "width" "I").before args s = true := hts _ (by decide +kernel)
  have hf49 : (Cond.fieldLink RX3 49 "FormulaLists$Boxes" "height" "[I").before args s = true := hts _ (by decide +kernel)
  have hf29 : (Cond.fieldLink RX3 29 "FormulaLists$Layout" "height" "I").before args s = true := hts _ (by decide +kernel)
  have hf51 : (Cond.fieldLink RX3 51 "FormulaLists$Boxes" "depth" "[I").before args s = true := hts _ (by decide +kernel)
  have hf32 : (Cond.fieldLink RX3 32 "FormulaLists$Layout" "depth" "I").before args s = true := hts _ (by decide +kernel)
  have hl : lv_has ls 2 [(0, .ref (a 20)), (1, .int (nI k))] := hl
  have hP : va_P D vwCl (wX cI a v r) s.heap := hP
  refine lv_aload_n hx hb dX3_layOut_0 rfl (lv_at hl 0 rfl) ?_
  refine va_get (D := D) (ci := 3) (v := .ref (a 18)) (C := RX3) (T := TX3) (N := 6) hx hb hts hin_X3 hown hK hP 20 rfl rfl 2 (by decide) hf21 (fun _ h9 => h9) rfl dX3_layOut_1 ?_
  refine lv_iconst (v := 0) hx hb dX3_layOut_4 (by decide) ?_
  refine va_put (D := D) (ci := 2) (v := .int 0) (ty := .int) (C := RX2) (T := TX2) (N := 2) hx hb hts hin_X2 tyX2 tyX2_ok nmX2 hown hK hP hD hS 18 rfl rfl 0 (by decide) hf39 (fun _ h9 => h9) rfl (by decide +kernel) rfl rfl (Nat.le_of_ble_eq_true rfl) dX3_layOut_5 (fun H locs hP hD hS => ?_)
  have hP : va_P D vwCl (wX cI a (vU v 4 0) r) H := hP
  have hD : va_D A (wX cI a (vU v 4 0) r) := hD
  have h8 : wX cI a (vU v 4 0) r = wX cI a (vU v 4 (nI 0)) r := rfl
  rw [h8] at hP hD
  refine lv_aload_n hx hb dX3_layOut_8 rfl (lv_at hl 0 rfl) ?_
  refine lv_iload_n hx hb dX3_layOut_9 rfl (lv_at hl 1 rfl) ?_
  refine lv_iconst (v := 0) hx hb dX3_layOut_10 (by decide) ?_
  refine lv_iconst (v := 0) hx hb dX3_layOut_11 (by decide) ?_
  refine lv_iconst (v := 0) hx hb dX3_layOut_12 (by decide) ?_
  refine kcVv C0 hP hD hS (hll_all hT hB 30 v r k 0 0 0 0 hk (by omega) (Nat.zero_le _) hr hN (Or.inl rfl) (by rw [Nat.zero_add]; exact hcl)) (cwV 4 hts gX3_layOut_X3_layList rfl rfl rfl (by decide +kernel) ⟨by decide, by decide⟩) 20 3 rfl rfl rfl hl.1 rfl (Nat.le_of_ble_eq_true rfl) dX3_layOut_13 ⟨Nat.zero_le _, Nat.zero_le _⟩ (fun u H locs hq hP hD hS => ?_)
  obtain ⟨u_1, rfl⟩ : ∃ z9, z9 = u := ⟨_, rfl⟩
  have hq9 := hq
  have hP : va_P D vwCl (wX cI a (vU v 4 (nI (0 + (PL q N 30 (nI k) 0 0 0 0).length))) u_1) H := hP
  have hD : va_D A (wX cI a (vU v 4 (nI (0 + (PL q N 30 (nI k) 0 0 0 0).length))) u_1) := hD
  refine lv_aload_n hx hb dX3_layOut_16 rfl (lv_at hl 0 rfl) ?_
  refine lv_aload_n hx hb dX3_layOut_17 rfl (lv_at hl 0 rfl) ?_
  refine va_get (D := D) (ci := 3) (v := .ref (a 12)) (C := RX3) (T := TX3) (N := 6) hx hb hts hin_X3 hown hK hP 20 rfl rfl 1 (by decide) hf12 (fun _ h9 => h9) rfl dX3_layOut_18 ?_
  refine va_get (D := D) (ci := 1) (v := .ref (a 13)) (C := RX1) (T := TX1) (N := 5) hx hb hts hin_X1 hown hK hP 12 rfl rfl 0 (by decide) hf46 (fun _ h9 => h9) rfl dX3_layOut_21 ?_
  refine lv_iload_n hx hb dX3_layOut_24 rfl (lv_at hl 1 rfl) ?_
  refine ra_ld (f := (u_1 13)) C0 hP 13 rfl k rfl (by omega) (by decide) dX3_layOut_25 ?_
  refine lv_eqi hq9.2.2.1.1 ?_
  refine va_put (D := D) (ci := 3) (v := .int ((ML q N 30 (nI k) 0 0).1)) (ty := .int) (C := RX3) (T := TX3) (N := 6) hx hb hts hin_X3 tyX3 tyX3_ok nmX3 hown hK hP hD hS 20 rfl rfl 3 (by decide) hf25 (fun _ h9 => h9) rfl (by decide +kernel) rfl rfl (Nat.le_of_ble_eq_true rfl) dX3_layOut_26 (fun H locs hP hD hS => ?_)
  have hP : va_P D vwCl (wX cI a (vU (vU v 4 (nI (0 + (PL q N 30 (nI k) 0 0 0 0).length))) 5 ((ML q N 30 (nI k) 0 0).1)) u_1) H := hP
  have hD : va_D A (wX cI a (vU (vU v 4 (nI (0 + (PL q N 30 (nI k) 0 0 0 0).length))) 5 ((ML q N 30 (nI k) 0 0).1)) u_1) := hD
  refine lv_aload_n hx hb dX3_layOut_29 rfl (lv_at hl 0 rfl) ?_
  refine lv_aload_n hx hb dX3_layOut_30 rfl (lv_at hl 0 rfl) ?_
  refine va_get (D := D) (ci := 3) (v := .ref (a 12)) (C := RX3) (T := TX3) (N := 6) hx hb hts hin_X3 hown hK hP 20 rfl rfl 1 (by decide) hf12 (fun _ h9 => h9) rfl dX3_layOut_31 ?_
  refine va_get (D := D) (ci := 1) (v := .ref (a 14)) (C := RX1) (T := TX1) (N := 5) hx hb hts hin_X1 hown hK hP 12 rfl rfl 1 (by decide) hf49 (fun _ h9 => h9) rfl dX3_layOut_34 ?_
  refine lv_iload_n hx hb dX3_layOut_37 rfl (lv_at hl 1 rfl) ?_
  refine ra_ld (f := (u_1 14)) C0 hP 14 rfl k rfl (by omega) (by decide) dX3_layOut_38 ?_
  refine lv_eqi hq9.2.2.1.2.1 ?_
  refine va_put (D := D) (ci := 3) (v := .int ((ML q N 30 (nI k) 0 0).2.1)) (ty := .int) (C := RX3) (T := TX3) (N := 6) hx hb hts hin_X3 tyX3 tyX3_ok nmX3 hown hK hP hD hS 20 rfl rfl 4 (by decide) hf29 (fun _ h9 => h9) rfl (by decide +kernel) rfl rfl (Nat.le_of_ble_eq_true rfl) dX3_layOut_39 (fun H locs hP hD hS => ?_)
  have hP : va_P D vwCl (wX cI a (vU (vU (vU v 4 (nI (0 + (PL q N 30 (nI k) 0 0 0 0).length))) 5 ((ML q N 30 (nI k) 0 0).1)) 6 ((ML q N 30 (nI k) 0 0).2.1)) u_1) H := hP
  have hD : va_D A (wX cI a (vU (vU (vU v 4 (nI (0 + (PL q N 30 (nI k) 0 0 0 0).length))) 5 ((ML q N 30 (nI k) 0 0).1)) 6 ((ML q N 30 (nI k) 0 0).2.1)) u_1) := hD
  refine lv_aload_n hx hb dX3_layOut_42 rfl (lv_at hl 0 rfl) ?_
  refine lv_aload_n hx hb dX3_layOut_43 rfl (lv_at hl 0 rfl) ?_
  refine va_get (D := D) (ci := 3) (v := .ref (a 12)) (C := RX3) (T := TX3) (N := 6) hx hb hts hin_X3 hown hK hP 20 rfl rfl 1 (by decide) hf12 (fun _ h9 => h9) rfl dX3_layOut_44 ?_
  refine va_get (D := D) (ci := 1) (v := .ref (a 15)) (C := RX1) (T := TX1) (N := 5) hx hb hts hin_X1 hown hK hP 12 rfl rfl 2 (by decide) hf51 (fun _ h9 => h9) rfl dX3_layOut_47 ?_
  refine lv_iload_n hx hb dX3_layOut_50 rfl (lv_at hl 1 rfl) ?_
  refine ra_ld (f := (u_1 15)) C0 hP 15 rfl k rfl (by omega) (by decide) dX3_layOut_51 ?_
  refine lv_eqi hq9.2.2.1.2.2 ?_
  refine va_put (D := D) (ci := 3) (v := .int ((ML q N 30 (nI k) 0 0).2.2)) (ty := .int) (C := RX3) (T := TX3) (N := 6) hx hb hts hin_X3 tyX3 tyX3_ok nmX3 hown hK hP hD hS 20 rfl rfl 5 (by decide) hf32 (fun _ h9 => h9) rfl (by decide +kernel) rfl rfl (Nat.le_of_ble_eq_true rfl) dX3_layOut_52 (fun H locs hP hD hS => ?_)
  have hP : va_P D vwCl (wX cI a (vU (vU (vU (vU v 4 (nI (0 + (PL q N 30 (nI k) 0 0 0 0).length))) 5 ((ML q N 30 (nI k) 0 0).1)) 6 ((ML q N 30 (nI k) 0 0).2.1)) 7 ((ML q N 30 (nI k) 0 0).2.2)) u_1) H := hP
  have hD : va_D A (wX cI a (vU (vU (vU (vU v 4 (nI (0 + (PL q N 30 (nI k) 0 0 0 0).length))) 5 ((ML q N 30 (nI k) 0 0).1)) 6 ((ML q N 30 (nI k) 0 0).2.1)) 7 ((ML q N 30 (nI k) 0 0).2.2)) u_1) := hD
  rw [Nat.zero_add] at hP hD
  exact k_vret C0 u_1 hP hD hS ⟨hq9.1, hq9.2.1⟩ dX3_layOut_55
