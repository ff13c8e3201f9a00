theorem lc_13 {n : Nat} {u : Rw} {x : Int32} : LC n u (rU u 13 (upd (u 13) (30 + n) x)) := fun b hb => ⟨by rw [rU_s, pk_un hb], by rw [rU_n (by decide)], by rw [rU_n (by decide)], by rw [rU_n (by decide)], by rw [rU_n (by decide)]⟩
theorem pb_13 {q r u : Rw} {f : Nat → Int32} {n c : Nat} {L : List It} {x H Dd : Int32} (h : PB q r f n c L H Dd u) : PB q r f n c L H Dd (rU u 13 (upd (u 13) (30 + n) x)) :=
  h.lc ((SB.rf u).ru (by decide)) (by rw [rU_n (by decide)]; exact h.2.1) (by rw [rU_n (by decide)]; exact h.2.2.1.1) (by rw [rU_n (by decide)]; exact h.2.2.1.2) (by rw [rU_n (by decide)]) lc_13
theorem gap_j {k : Nat} {btw : Int32} (hk : k < 2 ^ 31) : (if (nI k) ≤ 0 then (0 : Int32) else btw) = (if 0 < k then btw else 0) := by
  by_cases h : 0 < k
  · rw [if_pos h, if_neg (nI_nle h hk)]
  · rw [if_neg h, if_pos (by rw [show k = 0 by omega]; decide)]

set_option maxHeartbeats 1500000 in
set_option maxRecDepth 100000 in
theorem c_X3_placeRow (l : Launch) (D : va_G) (cI : ClassId) (a : Nat → Nat) (v : Nat → Int32) (r : Nat → Nat → Int32) (q r0 : Rw) (f g : Nat → Int32) (Mt : Nat → T3) (Pt : Nat → List It) (jc off : Nat → Nat) (Aa Z : List It) (n c F R C K ct i : Nat) (line btw hh dd : Int32) (hct : v 4 = nI ct) (hct1 : ct ≤ 150) (hkc : v 3 = nI K) (hK3 : K ≤ 30) (hn : n < 120) (a7 : r0 7 n = nI F) (a8 : r0 8 n = nI R) (a9 : r0 9 n = nI C) (hR5 : R ≤ 5) (hC5 : C ≤ 5) (hFR : F + R * C ≤ K) (hce : ∀ t, t < R * C → r0 11 (F + t) = nI (jc t) ∧ jc t < 30) (hi : i < R) (hB : ∀ t, t < R * C → BM r (jc t) (Mt t) ∧ r 16 (jc t) = nI (c + off t) ∧ r 17 (jc t) = nI (c + off t + (Pt t).length)) (hPB : PB q r0 f n c (Aa ++ (ccS Pt (i * C) C ++ Z)) hh dd r) (hA : ∀ m2, m2 ≤ C → off (i * C + m2) = Aa.length + (ccS Pt (i * C) m2).length) (hlen : c + Aa.length + (ccS Pt (i * C) C).length ≤ ct) (hg : ∀ k, k < C → mrF (r 13) (fun k2 => jc (k2 * C + k)) R = g k) : KV l D cI yX3_placeRow wsX3_placeRow ({ frames := 3, cells := 0, slots := 0, locals := 70 }) [.ref (a 20), .int (nI n), .int (nI i), .int line, .int btw] (wX cI a v r) (fun u : Rw => wX cI a v u) (fun u => PB q r0 f n c (Aa ++ ((rwS g Mt Pt (i * C) line btw C).2 ++ Z)) (hcF Mt (i * C) line hh C) (dcF Mt (i * C) line dd C) u ∧ LC n r u ∧ u 13 (30 + n) = (rwS g Mt Pt (i * C) line btw C).1) := by
  refine KV.of (cc := cX3_placeRow) (nL := 11) (ret := none) (by decide) rfl (Nat.le_of_ble_eq_true rfl) ?_
  intro pg9 en9 s m args below meth cd9 A ls C0 hP hD hS hl
  have hx := C0.1.1
  have hb := C0.1.2.1
  have hml := C0.1.2.2.1
  have hown : s.vm.findClass RX3 = some m.cls := C0.1.2.2.2.1
  have hts : ∀ w ∈ wsX3_placeRow, w.before args s = true := C0.1.2.2.2.2
  have hK := C0.2.2.2.1
  have hin_X3 : ∀ w ∈ wsX30, w ∈ wsX3_placeRow := fun w h => List.mem_cons_of_mem _ (List.mem_append_left _ (List.mem_append_left _ (List.mem_append_left _ (List.mem_append_right _ h))))
  have hf35 : (Cond.fieldLink RX3 35 "FormulaLists$Layout" "book" "LFormulaLists$Book;").before args s = true := hts _ (by decide +kernel)
  have hin_X0 : ∀ w ∈ wsX00, w ∈ wsX3_placeRow := fun w h => List.mem_cons_of_mem _ (List.mem_append_left _ (List.mem_append_left _ (List.mem_append_right _ h)))
  have hf170 : (Cond.fieldLink RX3 170 "FormulaLists$Book" "third" "[I").before args s = true := hts _ (by decide +kernel)
  have hf12 : (Cond.fieldLink RX3 12 "FormulaLists$Layout" "boxes" "LFormulaLists$Boxes;").before args s = true := hts _ (by decide +kernel)
  have hin_X1 : ∀ w ∈ wsX10, w ∈ wsX3_placeRow := fun w h => List.mem_cons_of_mem _ (List.mem_append_left _ (List.mem_append_right _ h))
  have hf46 : (Cond.fieldLink RX3 46 "FormulaLists$Boxes" "width" "[I").before args s = true := hts _ (by decide +kernel)
  have hl : lv_has ls 11 [(0, .ref (a 20)), (1, .int (nI n)), (2, .int (nI i)), (3, .int line), (4, .int btw)] := hl
  have hP : va_P D vwCl (wX cI a v r) s.heap := hP
  have c9 : r 9 n = nI C := by rw [hPB.1 9 (by decide)]; exact a9
  refine lv_aload_n hx hb dX3_placeRow_0 rfl (lv_at hl 0 rfl) ?_
  refine va_get (D := D) (ci := 3) (v := .ref (a 1)) (C := RX3) (T := TX3) (N := 6) hx hb hts hin_X3 hown hK hP 20 rfl rfl 0 (by decide) hf35 (fun _ h9 => h9) rfl dX3_placeRow_1 ?_
  refine va_get (D := D) (ci := 0) (v := .ref (a 9)) (C := RX0) (T := TX0) (N := 14) hx hb hts hin_X0 hown hK hP 1 rfl rfl 10 (by decide) hf170 (fun _ h9 => h9) rfl dX3_placeRow_4 ?_
  refine lv_iload_n hx hb dX3_placeRow_7 rfl (lv_at hl 1 rfl) ?_
  refine ra_ld (f := (r 9)) C0 hP 9 rfl n rfl (by omega) (by decide) dX3_placeRow_8 ?_
  refine lv_eqi c9 ?_
  refine lv_istore (lv' := [(5, .int (nI C)), (0, .ref (a 20)), (1, .int (nI n)), (2, .int (nI i)), (3, .int line), (4, .int btw)]) hx hb dX3_placeRow_9 hl (by decide) rfl (fun ls hl => ?_)
  refine lv_iload_n hx hb dX3_placeRow_11 rfl (lv_at hl 2 rfl) ?_
  refine kcS (ans := (nI (30 + n))) C0 hP hS (c_X1_ofAtom l D cI n) (va_cwS 1 hts gX3_placeRow_X1_ofAtom rfl rfl rfl (by decide +kernel) ⟨Nat.le_of_ble_eq_true rfl, Nat.le_of_ble_eq_true rfl⟩) rfl hl.1 rfl (Nat.le_of_ble_eq_true rfl) dX3_placeRow_12 ⟨Nat.zero_le _, Nat.zero_le _⟩ (fun H locs hP hS => ?_)
  refine lv_istore (lv' := [(6, .int (nI (30 + n))), (5, .int (nI C)), (0, .ref (a 20)), (1, .int (nI n)), (2, .int (nI i)), (3, .int line), (4, .int btw)]) hx hb dX3_placeRow_15 hl (by decide) rfl (fun ls hl => ?_)
  refine lv_iconst (v := 0) hx hb dX3_placeRow_17 (by decide) ?_
  refine lv_istore (lv' := [(7, .int 0), (6, .int (nI (30 + n))), (5, .int (nI C)), (0, .ref (a 20)), (1, .int (nI n)), (2, .int (nI i)), (3, .int line), (4, .int btw)]) hx hb dX3_placeRow_18 hl (by decide) rfl (fun ls hl => ?_)
  refine lv_iconst (v := 0) hx hb dX3_placeRow_20 (by decide) ?_
  refine lv_istore (lv' := [(8, .int 0), (7, .int 0), (6, .int (nI (30 + n))), (5, .int (nI C)), (0, .ref (a 20)), (1, .int (nI n)), (2, .int (nI i)), (3, .int line), (4, .int btw)]) hx hb dX3_placeRow_21 hl (by decide) rfl (fun ls hl => ?_)
  refine lpW (nL := 11) (A := A) (D := D) (fun z : Nat × Rw => (wX cI a v z.2)) (fun z : Nat × Rw => [(8, .int (nI z.1)), (7, .int ((rwS g Mt Pt (i * C) line btw z.1).1)), (6, .int (nI (30 + n))), (5, .int (nI C)), (0, .ref (a 20)), (1, .int (nI n)), (2, .int (nI i)), (3, .int line), (4, .int btw)]) (fun z : Nat × Rw => z.1 ≤ C ∧ PB q r0 f n c (Aa ++ ((rwS g Mt Pt (i * C) line btw z.1).2 ++ (ccS Pt (i * C + z.1) (C - z.1) ++ Z))) (hcF Mt (i * C) line hh z.1) (dcF Mt (i * C) line dd z.1) z.2 ∧ LC n r z.2) (fun z : Nat × Rw => C - z.1) (0, r) hP hD hS (lv_sub hl [0, 1, 2, 3, 4, 5, 6, 7, 8] rfl) ⟨Nat.zero_le _, hPB, lc_rf⟩ ?_
  rintro ⟨k, Rk⟩ H locs ls hP hD hS hl hf ih
  have hP : va_P D vwCl (wX cI a v Rk) H := hP
  have hD : va_D A (wX cI a v Rk) := hD
  have hl : lv_has ls 11 [(8, .int (nI k)), (7, .int ((rwS g Mt Pt (i * C) line btw k).1)), (6, .int (nI (30 + n))), (5, .int (nI C)), (0, .ref (a 20)), (1, .int (nI n)), (2, .int (nI i)), (3, .int line), (4, .int btw)] := hl
  have hf : k ≤ C ∧ PB q r0 f n c (Aa ++ ((rwS g Mt Pt (i * C) line btw k).2 ++ (ccS Pt (i * C + k) (C - k) ++ Z))) (hcF Mt (i * C) line hh k) (dcF Mt (i * C) line dd k) Rk ∧ LC n r Rk := hf
  obtain ⟨hk1, hpb, hlc⟩ := hf
  refine lv_iload hx hb dX3_placeRow_23 (lv_at hl 0 rfl) ?_
  refine lv_iload hx hb dX3_placeRow_25 (lv_at hl 3 rfl) ?_
  refine lv_icmp_ge (tgt := 109) hx hb dX3_placeRow_27 (by decide) (fun c_27 => ?_) (fun c_27 => ?_)
  · skip
    have hkC : k = C := by have := (nI_leI (by omega) (by omega)).mp c_27; omega
    refine lv_aload_n hx hb dX3_placeRow_109 rfl (lv_at hl 4 rfl) ?_
    refine va_get (D := D) (ci := 3) (v := .ref (a 12)) (C := RX3) (T := TX3) (N := 6) hx hb hts hin_X3 hown hK hP 20 rfl rfl 1 (by decide) hf12 (fun _ h9 => h9) rfl dX3_placeRow_110 ?_
    refine va_get (D := D) (ci := 1) (v := .ref (a 13)) (C := RX1) (T := TX1) (N := 5) hx hb hts hin_X1 hown hK hP 12 rfl rfl 0 (by decide) hf46 (fun _ h9 => h9) rfl dX3_placeRow_113 ?_
    refine lv_iload hx hb dX3_placeRow_116 (lv_at hl 2 rfl) ?_
    refine lv_iload hx hb dX3_placeRow_118 (lv_at hl 1 rfl) ?_
    refine ra_st (f := (Rk 13)) C0 hP hD hS 13 rfl (30 + n) rfl (by omega) (by decide) dX3_placeRow_120 (fun H locs hP hD hS => ?_)
    have hset : ∀ (g_ : Nat → Int32), (wX cI a v Rk).set 13 (a 13, .inl (cI, 150, .inl g_)) = (wX cI a v (rU Rk 13 g_)) := fun _ => rfl
    rw [hset] at hP hD
    exact k_vret C0 (rU Rk 13 (upd (Rk 13) (30 + n) ((rwS g Mt Pt (i * C) line btw k).1))) hP hD hS ⟨by have h8 := pb_13 (x := (rwS g Mt Pt (i * C) line btw k).1) hpb; rw [show C - k = 0 by omega] at h8; rw [hkC] at h8 ⊢; exact h8, hlc.tr lc_13, by rw [rU_s, pk_us, hkC]⟩ dX3_placeRow_121
  · skip
    have hlt : k < C := Nat.not_le.mp (fun e => c_27 (nI_le e (by omega)))
    have ht : i * C + k < R * C := rc_lt hi hlt
    have b7 : Rk 7 n = nI F := by rw [hpb.1 7 (by decide)]; exact a7
    have b8 : Rk 8 n = nI R := by rw [hpb.1 8 (by decide)]; exact a8
    have b9 : Rk 9 n = nI C := by rw [hpb.1 9 (by decide)]; exact a9
    have b11 : ∀ t, t < R * C → Rk 11 (F + t) = nI (jc t) := fun t h => by rw [hpb.1 11 (by decide)]; exact (hce t h).1
    have bce : ∀ t, t < R * C → Rk 11 (F + t) = nI (Rk 11 (F + t)).toNatClampNeg ∧ (Rk 11 (F + t)).toNatClampNeg < 30 := fun t h => by have h2 := (hce t h).2; rw [b11 t h, nI_clamp (by omega)]; exact ⟨rfl, h2⟩
    have hjl := (hce _ ht).2
    have hjx := jx_lc hlc hjl (hB _ ht)
    have hol := hA (k + 1) hlt
    rw [← Nat.add_assoc] at hol
    have hoc := cc_app Pt (k + 1) (i * C) (C - (k + 1))
    rw [show k + 1 + (C - (k + 1)) = C by omega] at hoc
    have hoc2 := congrArg List.length hoc
    rw [List.length_append, cc_s, List.length_append] at hoc2
    have hok := hA k (by omega)
    have hp2 := hpb.eq (L' := (Aa ++ (rwS g Mt Pt (i * C) line btw k).2) ++ (Pt (i * C + k) ++ (ccS Pt (i * C + (k + 1)) (C - (k + 1)) ++ Z))) (by rw [show C - k = (C - (k + 1)) + 1 by omega, ccS, ← Nat.add_assoc]; simp only [List.append_assoc])
    refine lv_aload_n hx hb dX3_placeRow_30 rfl (lv_at hl 4 rfl) ?_
    refine lv_iload_n hx hb dX3_placeRow_31 rfl (lv_at hl 5 rfl) ?_
    refine lv_iload_n hx hb dX3_placeRow_32 rfl (lv_at hl 6 rfl) ?_
    refine lv_iload hx hb dX3_placeRow_33 (lv_at hl 3 rfl) ?_
    refine lv_imul hx hb dX3_placeRow_35 ?_
    refine lv_iload hx hb dX3_placeRow_36 (lv_at hl 0 rfl) ?_
    refine lv_iadd hx hb dX3_placeRow_38 ?_
    refine lv_eqi (show nI i * nI C + nI k = nI (i * C + k) by rw [pk_mul, nI_add]) ?_
    refine kcD (ans := ((Rk 11) (F + (i * C + k)))) C0 hP hD hS (c_X3_cellAt l D cI a v Rk n (i * C + k) F K hn b7 hkc hK3 (by omega)) (cwV 2 hts gX3_placeRow_X3_cellAt rfl rfl rfl (by decide +kernel) ⟨Nat.le_of_ble_eq_true rfl, Nat.le_of_ble_eq_true rfl⟩) 20 3 rfl rfl rfl hl.1 rfl (Nat.le_of_ble_eq_true rfl) dX3_placeRow_39 ⟨Nat.zero_le _, Nat.zero_le _⟩ (fun H locs hP hD hS => ?_)
    refine lv_eqi (b11 _ ht) ?_
    refine lv_istore (lv' := [(9, .int (nI (jc (i * C + k)))), (8, .int (nI k)), (7, .int ((rwS g Mt Pt (i * C) line btw k).1)), (6, .int (nI (30 + n))), (5, .int (nI C)), (0, .ref (a 20)), (1, .int (nI n)), (2, .int (nI i)), (3, .int line), (4, .int btw)]) hx hb dX3_placeRow_42 hl (by decide) rfl (fun ls hl => ?_)
    refine lv_aload_n hx hb dX3_placeRow_44 rfl (lv_at hl 5 rfl) ?_
    refine lv_iload_n hx hb dX3_placeRow_45 rfl (lv_at hl 6 rfl) ?_
    refine lv_iload hx hb dX3_placeRow_46 (lv_at hl 1 rfl) ?_
    refine kcD (ans := (mrF (Rk 13) (fun k2 => (Rk 11 (F + (k2 * C + k))).toNatClampNeg) R)) C0 hP hD hS (c_X3_columnWidth l D cI a v Rk n F R C K k hn b7 b8 b9 hR5 hC5 hFR bce hkc hK3 hlt) (cwV 2 hts gX3_placeRow_X3_columnWidth rfl rfl rfl (by decide +kernel) ⟨Nat.le_of_ble_eq_true rfl, Nat.le_of_ble_eq_true rfl⟩) 20 3 rfl rfl rfl hl.1 rfl (Nat.le_of_ble_eq_true rfl) dX3_placeRow_48 ⟨Nat.zero_le _, Nat.zero_le _⟩ (fun H locs hP hD hS => ?_)
    refine lv_eqi ((mrF_e R (fun m2 hm2 => by rw [b11 _ (rc_lt hm2 hlt), nI_clamp (by have := (hce _ (rc_lt hm2 hlt)).2; omega)]; exact (hlc _ (by have := (hce _ (rc_lt hm2 hlt)).2; omega)).1)).trans (hg k hlt)) ?_
    refine lv_istore (lv' := [(10, .int (g k)), (9, .int (nI (jc (i * C + k)))), (8, .int (nI k)), (7, .int ((rwS g Mt Pt (i * C) line btw k).1)), (6, .int (nI (30 + n))), (5, .int (nI C)), (0, .ref (a 20)), (1, .int (nI n)), (2, .int (nI i)), (3, .int line), (4, .int btw)]) hx hb dX3_placeRow_51 hl (by decide) rfl (fun ls hl => ?_)
    refine lv_iload hx hb dX3_placeRow_53 (lv_at hl 3 rfl) ?_
    refine lv_iload hx hb dX3_placeRow_55 (lv_at hl 2 rfl) ?_
    obtain ⟨x_1, ex_1⟩ : ∃ zz_ : Int32, zz_ = (if (nI k) ≤ 0 then (0 : Int32) else btw) := ⟨_, rfl⟩
    refine jW (D := D) hD hl 66 (wX cI a v Rk) [(10, .int (g k)), (9, .int (nI (jc (i * C + k)))), (8, .int (nI k)), (7, .int ((rwS g Mt Pt (i * C) line btw k).1)), (6, .int (nI (30 + n))), (5, .int (nI C)), (0, .ref (a 20)), (1, .int (nI n)), (2, .int (nI i)), (3, .int line), (4, .int btw)] [.int x_1, .int ((rwS g Mt Pt (i * C) line btw k).1)] (fun hJ => ?_) (fun H locs ls hP hD hS hl => ?_)
    · skip
      refine lv_if_le (tgt := 65) hx hb dX3_placeRow_57 (by decide) (fun c_57 => ?_) (fun c_57 => ?_)
      · skip
        refine lv_iconst (v := 0) hx hb dX3_placeRow_65 (by decide) ?_
        have gx_1 : x_1 = 0 := by rw [ex_1]; simp only [if_pos c_57]
        simp only [gx_1] at hJ
        exact hJ _ _ _ hP hD hS (lv_sub hl [0, 1, 2, 3, 4, 5, 6, 7, 8, 9, 10] rfl)
      · skip
        refine lv_iload hx hb dX3_placeRow_60 (lv_at hl 10 rfl) ?_
        refine lv_goto (tgt := 66) hx hb dX3_placeRow_62 (by decide) ?_
        have gx_1 : x_1 = btw := by rw [ex_1]; simp only [if_neg c_57]
        simp only [gx_1] at hJ
        exact hJ _ _ _ hP hD hS (lv_sub hl [0, 1, 2, 3, 4, 5, 6, 7, 8, 9, 10] rfl)
    · skip
      refine lv_eqi (show x_1 = (if 0 < k then btw else 0) by rw [ex_1]; exact gap_j (by omega)) ?_
      refine lv_iadd hx hb dX3_placeRow_66 ?_
      refine lv_istore (lv' := [(7, .int ((rwS g Mt Pt (i * C) line btw k).1 + (if 0 < k then btw else 0))), (10, .int (g k)), (9, .int (nI (jc (i * C + k)))), (8, .int (nI k)), (6, .int (nI (30 + n))), (5, .int (nI C)), (0, .ref (a 20)), (1, .int (nI n)), (2, .int (nI i)), (3, .int line), (4, .int btw)]) hx hb dX3_placeRow_67 hl (by decide) rfl (fun ls hl => ?_)
      refine lv_aload_n hx hb dX3_placeRow_69 rfl (lv_at hl 6 rfl) ?_
      refine lv_iload hx hb dX3_placeRow_70 (lv_at hl 4 rfl) ?_
      refine lv_iload hx hb dX3_placeRow_72 (lv_at hl 2 rfl) ?_
      refine lv_iload hx hb dX3_placeRow_74 (lv_at hl 0 rfl) ?_
      refine lv_iload hx hb dX3_placeRow_76 (lv_at hl 1 rfl) ?_
      refine lv_aload_n hx hb dX3_placeRow_78 rfl (lv_at hl 6 rfl) ?_
      refine va_get (D := D) (ci := 3) (v := .ref (a 12)) (C := RX3) (T := TX3) (N := 6) hx hb hts hin_X3 hown hK hP 20 rfl rfl 1 (by decide) hf12 (fun _ h9 => h9) rfl dX3_placeRow_79 ?_
      refine va_get (D := D) (ci := 1) (v := .ref (a 13)) (C := RX1) (T := TX1) (N := 5) hx hb hts hin_X1 hown hK hP 12 rfl rfl 0 (by decide) hf46 (fun _ h9 => h9) rfl dX3_placeRow_82 ?_
      refine lv_iload hx hb dX3_placeRow_85 (lv_at hl 2 rfl) ?_
      refine ra_ld (f := (Rk 13)) C0 hP 13 rfl (jc (i * C + k)) rfl (by omega) (by decide) dX3_placeRow_87 ?_
      refine lv_eqi hjx.1.1 ?_
      refine lv_isub hx hb dX3_placeRow_88 ?_
      refine lv_iconst (v := 2) hx hb dX3_placeRow_89 (by decide) ?_
      refine lv_idiv hx hb dX3_placeRow_90 (by decide) ?_
      refine lv_iadd hx hb dX3_placeRow_91 ?_
      refine lv_iload_n hx hb dX3_placeRow_92 rfl (lv_at hl 9 rfl) ?_
      refine kcDv C0 hP hD hS (c_X3_place l D cI a v Rk (30 + n) ct (nI (jc (i * C + k))) (((rwS g Mt Pt (i * C) line btw k).1 + (if 0 < k then btw else 0)) + (((g k) - (Mt (i * C + k)).1) / 2)) line hct hct1 (by omega) (Or.inr ⟨jc (i * C + k), _, _, by omega, rfl, hjx.2.1, hjx.2.2, by omega, by omega⟩)) (cwV 4 hts gX3_placeRow_X3_place rfl rfl rfl (by decide +kernel) ⟨Nat.le_of_ble_eq_true rfl, Nat.le_of_ble_eq_true rfl⟩) 20 3 rfl rfl rfl hl.1 rfl (Nat.le_of_ble_eq_true rfl) dX3_placeRow_93 ⟨Nat.zero_le _, Nat.zero_le _⟩ (fun H locs hP hD hS => ?_)
      have hP : va_P D vwCl (wX cI a v (plR Rk (30 + n) (nI (jc (i * C + k))) (((rwS g Mt Pt (i * C) line btw k).1 + (if 0 < k then btw else 0)) + (((g k) - (Mt (i * C + k)).1) / 2)) line)) H := hP
      have hD : va_D A (wX cI a v (plR Rk (30 + n) (nI (jc (i * C + k))) (((rwS g Mt Pt (i * C) line btw k).1 + (if 0 < k then btw else 0)) + (((g k) - (Mt (i * C + k)).1) / 2)) line)) := hD
      refine lv_iload hx hb dX3_placeRow_96 (lv_at hl 0 rfl) ?_
      refine lv_iload hx hb dX3_placeRow_98 (lv_at hl 1 rfl) ?_
      refine lv_iadd hx hb dX3_placeRow_100 ?_
      refine lv_istore (lv' := [(7, .int (((rwS g Mt Pt (i * C) line btw k).1 + (if 0 < k then btw else 0)) + (g k))), (10, .int (g k)), (9, .int (nI (jc (i * C + k)))), (8, .int (nI k)), (6, .int (nI (30 + n))), (5, .int (nI C)), (0, .ref (a 20)), (1, .int (nI n)), (2, .int (nI i)), (3, .int line), (4, .int btw)]) hx hb dX3_placeRow_101 hl (by decide) rfl (fun ls hl => ?_)
      refine lv_iinc (v := (nI (k + 1))) (lv' := [(8, .int (nI (k + 1))), (7, .int (((rwS g Mt Pt (i * C) line btw k).1 + (if 0 < k then btw else 0)) + (g k))), (10, .int (g k)), (9, .int (nI (jc (i * C + k)))), (6, .int (nI (30 + n))), (5, .int (nI C)), (0, .ref (a 20)), (1, .int (nI n)), (2, .int (nI i)), (3, .int line), (4, .int btw)]) hx hb dX3_placeRow_103 hl (k := 3) rfl (k_inc k) (by decide) rfl (fun ls hl => ?_)
      refine lv_goto (tgt := 23) hx hb dX3_placeRow_106 (by decide) ?_
      have hl2 : lv_has ls 11 [(8, .int (nI (k + 1))), (7, .int (rwS g Mt Pt (i * C) line btw (k + 1)).1), (6, .int (nI (30 + n))), (5, .int (nI C)), (0, .ref (a 20)), (1, .int (nI n)), (2, .int (nI i)), (3, .int line), (4, .int btw)] := lv_sub hl [0, 1, 4, 5, 6, 7, 8, 9, 10] rfl
      have hp3 := (pb_pl (X := (((rwS g Mt Pt (i * C) line btw k).1 + (if 0 < k then btw else 0)) + (((g k) - (Mt (i * C + k)).1) / 2))) (Y := line) hp2 hjl hjx.1 (by rw [hjx.2.1, List.length_append, rw_len, hA k (by omega)]) (by rw [hjx.2.2, List.length_append, rw_len, hA k (by omega)]) (by rw [List.length_append, rw_len]; omega)).eq (L' := Aa ++ ((rwS g Mt Pt (i * C) line btw (k + 1)).2 ++ (ccS Pt (i * C + (k + 1)) (C - (k + 1)) ++ Z))) (by rw [rwS]; simp only [List.append_assoc])
      exact ih ((k + 1), (plR Rk (30 + n) (nI (jc (i * C + k))) (((rwS g Mt Pt (i * C) line btw k).1 + (if 0 < k then btw else 0)) + (((g k) - (Mt (i * C + k)).1) / 2)) line)) _ _ _ hP hD hS hl2 ⟨hlt, hp3, hlc.tr lc_pl⟩ (show C - (k + 1) < C - k by omega)
