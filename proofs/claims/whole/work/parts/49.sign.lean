theorem sg_j (k lev : Int32) : (if (bI (k = 1 ∧ lev = 0)) = 0 then (uni lev) else (14 : Int32)) = sgz k lev := by
  unfold sgz bI
  by_cases h : k = 1 ∧ lev = 0
  · rw [if_pos h, if_pos h, if_neg (by decide)]
  · rw [if_neg h, if_neg h, if_pos rfl]
theorem rm_dec : ∀ j : Fin 256, (rmd (nI j.val) 3 = 0 ∨ rmd (nI j.val) 3 = 1 ∨ rmd (nI j.val) 3 = 2) ∧ (rmd (nI j.val) 5 = 0 ∨ rmd (nI j.val) 5 = 1 ∨ rmd (nI j.val) 5 = 2 ∨ rmd (nI j.val) 5 = 3 ∨ rmd (nI j.val) 5 = 4) := by decide +kernel
theorem rm_ok {x : Int32} (h0 : 0 ≤ x) (h1 : x < 256) : (rmd x 3 = 0 ∨ rmd x 3 = 1 ∨ rmd x 3 = 2) ∧ (rmd x 5 = 0 ∨ rmd x 5 = 1 ∨ rmd x 5 = 2 ∨ rmd x 5 = 3 ∨ rmd x 5 = 4) := by
  have h2 := ix_of (N := 256) (M := 256) (Int32.not_lt.mpr h0) h1 rfl (by omega) (by decide)
  have h3 := rm_dec ⟨_, h2.2⟩
  rw [← h2.1] at h3
  exact h3
theorem sgz_v (k lev : Int32) : sgz k lev = 14 ∨ sgz k lev = 10 ∨ sgz k lev = 7 ∨ sgz k lev = 5 := by
  unfold sgz uni
  (repeat' split) <;> simp
theorem uni_v (lev : Int32) : uni lev = 10 ∨ uni lev = 7 ∨ uni lev = 5 := by
  unfold uni
  (repeat' split) <;> simp
theorem si_H {k lev x : Int32} (h0 : 0 ≤ x) (h1 : x < 256) : 0 ≤ sgz k lev * (5 + rmd x 3) ∧ sgz k lev * (5 + rmd x 3) ≤ 98 := by
  rcases sgz_v k lev with e | e | e | e <;> rcases (rm_ok h0 h1).1 with f | f | f <;> rw [e, f] <;> decide
theorem si_D {k lev x : Int32} : 0 ≤ (if rmd x 4 = 3 then 2 * sgz k lev else 0) ∧ (if rmd x 4 = 3 then 2 * sgz k lev else 0) ≤ 28 := by
  by_cases h : rmd x 4 = 3
  · rw [if_pos h]; rcases sgz_v k lev with e | e | e | e <;> rw [e] <;> decide
  · rw [if_neg h]; decide
theorem mx_0 {h : Int32} (h0 : 0 ≤ h) : mx (0 + h) 0 = h := by
  rw [Int32.zero_add]
  unfold mx
  by_cases e : 0 < h
  · rw [if_pos e]
  · rw [if_neg e]
    exact i_eq.mpr (by rw [i_lt] at e; rw [i_le] at h0; omega)
theorem rU_s (r : Rw) (j : Nat) (f : Nat → Int32) : rU r j f j = f := by
  unfold rU
  rw [Nat.beq_refl]; rfl
theorem rU_n {r : Rw} {j i : Nat} {f : Nat → Int32} (h : ¬ i = j) : rU r j f i = r i := by
  unfold rU
  have h1 : Nat.beq i j = false := by cases q : Nat.beq i j; rfl; exact absurd (Nat.eq_of_beq_eq_true q) h
  rw [h1]; rfl
/-- the book's rows stay where a row of the layout changes -/
theorem SB.ru {r u : Rw} {j : Nat} {f : Nat → Int32} (h : SB r u) (hj : 13 ≤ j) : SB r (rU u j f) := fun i hi => by rw [rU_n (by omega)]; exact h i hi
theorem c_X2_add2 (l : Launch) (D : va_G) (cI : ClassId) (a : Nat → Nat) (v : Nat → Int32) (r : Nat → Nat → Int32) (x y z : Int32) (c : Nat) (hc1 : c < 150) : KD l D cI yX2_add wsX2_add ({ frames := 0, cells := 0, slots := 0, locals := 0 }) [.ref (a 18), .int x, .int y, .int z] (wX cI a (vU v 4 (nI c)) r) (wX cI a (vU v 4 (nI (c + 1))) (itR r c x y z)) (nI c) := by
  have h := c_X2_add l D cI a (vU v 4 (nI c)) r x y z c rfl hc1
  have e : wX cI a (vU (vU v 4 (nI c)) 4 ((vU v 4 (nI c)) 4 + 1)) (rU r 19 (upd (upd (upd (upd (upd (upd (r 19) (8 * c) x) (8 * c + 1) 0) (8 * c + 2) 0) (8 * c + 5) z) (8 * c + 6) y) (8 * c + 7) 0)) = wX cI a (vU v 4 (nI (c + 1))) (itR r c x y z) :=
    wX_r rfl rfl rfl rfl (show nI c + 1 = nI (c + 1) from nI_1 c) rfl rfl rfl rfl rfl rfl rfl rfl rfl rfl rfl rfl rfl rfl rfl rfl rfl rfl rfl
  rw [e] at h
  exact h
theorem nu_si {q r : Rw} {n c : Nat} {W H Dd sz sg : Int32} (h0 : 0 ≤ H) (h1 : 0 ≤ Dd) (e14 : r 14 (30 + n) = 0) (e15 : r 15 (30 + n) = 0) :
    NUP q r n c (W, H, Dd) [mkI 0 0 0 sz W sg (nI n) 0] (msR (itR (cvR (rU r 13 (upd (r 13) (30 + n) W)) (30 + n) 0 H Dd) c 0 (nI n) sg) c sz W) := by
  refine ⟨?_, ?_, ⟨?_, ?_, ?_⟩, rfl, rfl, fun b hb hne _ => ?_⟩
  · unfold msR itR cvR
    exact ((((SB.rf r).ru (by decide)).ru (by decide)).ru (by decide)).ru (by decide) |>.ru (by decide)
  · show upd (upd (upd (upd (upd (upd (upd (upd (r 19) (8 * c) 0) (8 * c + 1) 0) (8 * c + 2) 0) (8 * c + 5) sg) (8 * c + 6) (nI n)) (8 * c + 7) 0) (8 * c + 3) sz) (8 * c + 4) W = _
    rw [it_pt, show ([mkI 0 0 0 (r 19 (8 * c + 3)) (r 19 (8 * c + 4)) sg (nI n) 0] : List It) = [] ++ mkI 0 0 0 (r 19 (8 * c + 3)) (r 19 (8 * c + 4)) sg (nI n) 0 :: [] from rfl, ms_pt _ _ _ _ _ _ _ (by rw [List.length_nil, Nat.add_zero]), ms_mk]
    rfl
  · show upd (r 13) (30 + n) W (30 + n) = W
    rw [pk_us]
  · show upd (r 14) (30 + n) (mx (0 + H) (r 14 (30 + n))) (30 + n) = H
    rw [pk_us, e14, mx_0 h0]
  · show upd (r 15) (30 + n) (mx (Dd - 0) (r 15 (30 + n))) (30 + n) = Dd
    rw [pk_us, e15, Int32.sub_zero, ← Int32.zero_add Dd, mx_0 h1]
    rw [Int32.zero_add]
  · refine ⟨?_, ?_, ?_, rfl, rfl⟩
    · show upd (r 13) (30 + n) W b = r 13 b
      rw [pk_un hne]
    · show upd (r 14) (30 + n) _ b = r 14 b
      rw [pk_un hne]
    · show upd (r 15) (30 + n) _ b = r 15 b
      rw [pk_un hne]

set_option maxHeartbeats 1500000 in
set_option maxRecDepth 100000 in
theorem c_X3_laySign (l : Launch) (D : va_G) (cI : ClassId) (a : Nat → Nat) (v : Nat → Int32) (r : Nat → Nat → Int32) (q : Rw) (N n c : Nat) (lev : Int32) (hr : RQ q N v r) (hN1 : N ≤ 120) (hnN : n < N) (hf : q 3 n = 0) (hs0 : 0 ≤ q 5 n) (hs1 : q 5 n < 256) (hc1 : c < 150) (e14 : r 14 (30 + n) = 0) (e15 : r 15 (30 + n) = 0) : KV l D cI yX3_laySign wsX3_laySign ({ frames := 2, cells := 0, slots := 0, locals := 44 }) [.ref (a 20), .int (nI n), .int lev] (wX cI a (vU v 4 (nI c)) r) (fun u : Rw => wX cI a (vU v 4 (nI (c + (pSi q n lev 0 0).length))) u) (fun u => NUP q r n c (mSi q n lev) (pSi q n lev 0 0) u) := by
  refine KV.of (cc := cX3_laySign) (nL := 7) (ret := none) (by decide) rfl (Nat.le_of_ble_eq_true rfl) ?_
  intro pg9 en9 s m args below meth cd9 A ls C0 hP hD hS hl
  have hx := C0.1.1
  have hb := C0.1.2.1
  have hml := C0.1.2.2.1
  have hown : s.vm.findClass RX3 = some m.cls := C0.1.2.2.2.1
  have hts : ∀ w ∈ wsX3_laySign, w.before args s = true := C0.1.2.2.2.2
  have hK := C0.2.2.2.1
  have hin_X3 : ∀ w ∈ wsX30, w ∈ wsX3_laySign := fun w h => List.mem_cons_of_mem _ (List.mem_append_left _ (List.mem_append_left _ (List.mem_append_left _ (List.mem_append_right _ h))))
  have hf35 : (Cond.fieldLink RX3 35 "FormulaLists$Layout" "book" "LFormulaLists$Book;").before args s = true := hts _ (by decide +kernel)
  have hin_X0 : ∀ w ∈ wsX00, w ∈ wsX3_laySign := fun w h => List.mem_cons_of_mem _ (List.mem_append_left _ (List.mem_append_left _ (List.mem_append_right _ h)))
  have hf68 : (Cond.fieldLink RX3 68 "FormulaLists$Book" "first" "[I").before args s = true := hts _ (by decide +kernel)
  have hf12 : (Cond.fieldLink RX3 12 "FormulaLists$Layout" "boxes" "LFormulaLists$Boxes;").before args s = true := hts _ (by decide +kernel)
  have hin_X1 : ∀ w ∈ wsX10, w ∈ wsX3_laySign := fun w h => List.mem_cons_of_mem _ (List.mem_append_left _ (List.mem_append_right _ h))
  have hf46 : (Cond.fieldLink RX3 46 "FormulaLists$Boxes" "width" "[I").before args s = true := hts _ (by decide +kernel)
  have hf21 : (Cond.fieldLink RX3 21 "FormulaLists$Layout" "items" "LFormulaLists$Items;").before args s = true := hts _ (by decide +kernel)
  have hl : lv_has ls 7 [(0, .ref (a 20)), (1, .int (nI n)), (2, .int lev)] := hl
  have hP : va_P D vwCl (wX cI a (vU v 4 (nI c)) r) s.heap := hP
  have hn : n < 120 := by omega
  have a7 : r 7 n = q 5 n := (hr.2.1 n hnN (by rw [hf]; decide)).1
  have a4 : r 4 n = q 4 n := congrFun hr.1.2.2.1 n
  refine lv_aload_n hx hb dX3_laySign_0 rfl (lv_at hl 0 rfl) ?_
  refine va_get (D := D) (ci := 3) (v := .ref (a 1)) (C := RX3) (T := TX3) (N := 6) hx hb hts hin_X3 hown hK hP 20 rfl rfl 0 (by decide) hf35 (fun _ h9 => h9) rfl dX3_laySign_1 ?_
  refine va_get (D := D) (ci := 0) (v := .ref (a 7)) (C := RX0) (T := TX0) (N := 14) hx hb hts hin_X0 hown hK hP 1 rfl rfl 8 (by decide) hf68 (fun _ h9 => h9) rfl dX3_laySign_4 ?_
  refine lv_iload_n hx hb dX3_laySign_7 rfl (lv_at hl 1 rfl) ?_
  refine ra_ld (f := (r 7)) C0 hP 7 rfl n rfl (by omega) (by decide) dX3_laySign_8 ?_
  refine lv_eqi a7 ?_
  refine lv_istore_n (lv' := [(3, .int (q 5 n)), (0, .ref (a 20)), (1, .int (nI n)), (2, .int lev)]) hx hb dX3_laySign_9 rfl hl (by decide) rfl (fun ls hl => ?_)
  refine lv_aload_n hx hb dX3_laySign_10 rfl (lv_at hl 1 rfl) ?_
  refine lv_iload_n hx hb dX3_laySign_11 rfl (lv_at hl 2 rfl) ?_
  refine lv_iload_n hx hb dX3_laySign_12 rfl (lv_at hl 3 rfl) ?_
  refine kcD (ans := (bI (r 4 n = 1 ∧ lev = 0))) C0 hP hD hS (c_X3_isBigOperator l D cI a (vU v 4 (nI c)) r n lev hn) (cwV 2 hts gX3_laySign_X3_isBigOperator rfl rfl rfl (by decide +kernel) ⟨Nat.le_of_ble_eq_true rfl, Nat.le_of_ble_eq_true rfl⟩) 20 3 rfl rfl rfl hl.1 rfl (Nat.le_of_ble_eq_true rfl) dX3_laySign_13 ⟨Nat.zero_le _, Nat.zero_le _⟩ (fun H locs hP hD hS => ?_)
  obtain ⟨x_1, ex_1⟩ : ∃ zz_ : Int32, zz_ = (if (bI (r 4 n = 1 ∧ lev = 0)) = 0 then (uni lev) else (14 : Int32)) := ⟨_, rfl⟩
  refine jW (D := D) hD hl 28 (wX cI a (vU v 4 (nI c)) r) [(3, .int (q 5 n)), (0, .ref (a 20)), (1, .int (nI n)), (2, .int lev)] [.int x_1] (fun hJ => ?_) (fun H locs ls hP hD hS hl => ?_)
  · skip
    refine lv_if_eq (tgt := 24) hx hb dX3_laySign_16 (by decide) (fun c_16 => ?_) (fun c_16 => ?_)
    · skip
      refine lv_iload_n hx hb dX3_laySign_24 rfl (lv_at hl 3 rfl) ?_
      refine kcSN (ans := (uni lev)) C0 hP hS (c_X4_unit l D cI lev ) ⟨va_cnB 1 hts gX3_laySign_X4_unit_n85 rfl rfl rfl C0.2.2.2.2.2.1.2.1 (hts (.initialized RX4) (by decide +kernel)) (by decide +kernel) ⟨Nat.le_of_ble_eq_true rfl, Nat.le_of_ble_eq_true rfl⟩, hts (.static yX4_unit) (by decide +kernel), trivial⟩ rfl hl.1 rfl (Nat.le_of_ble_eq_true rfl) dX3_laySign_25 ⟨Nat.zero_le _, Nat.zero_le _⟩ (fun H locs hP hS => ?_)
      have gx_1 : x_1 = (uni lev) := by rw [ex_1]; simp only [if_pos c_16]
      simp only [gx_1] at hJ
      exact hJ _ _ _ hP hD hS (lv_sub hl [0, 1, 2, 3] rfl)
    · skip
      refine lv_bipush (v := 14) hx hb dX3_laySign_19 (by decide) ?_
      refine lv_goto (tgt := 28) hx hb dX3_laySign_21 (by decide) ?_
      have gx_1 : x_1 = 14 := by rw [ex_1]; simp only [if_neg c_16]
      simp only [gx_1] at hJ
      exact hJ _ _ _ hP hD hS (lv_sub hl [0, 1, 2, 3] rfl)
  · skip
    refine lv_eqi (show x_1 = sgz (q 4 n) lev by rw [ex_1, a4]; exact sg_j _ _) ?_
    refine lv_istore (lv' := [(4, .int (sgz (q 4 n) lev)), (3, .int (q 5 n)), (0, .ref (a 20)), (1, .int (nI n)), (2, .int lev)]) hx hb dX3_laySign_28 hl (by decide) rfl (fun ls hl => ?_)
    refine lv_iload_n hx hb dX3_laySign_30 rfl (lv_at hl 3 rfl) ?_
    refine kcS (ans := (nI (30 + n))) C0 hP hS (c_X1_ofAtom l D cI n) (va_cwS 1 hts gX3_laySign_X1_ofAtom rfl rfl rfl (by decide +kernel) ⟨Nat.le_of_ble_eq_true rfl, Nat.le_of_ble_eq_true rfl⟩) rfl hl.1 rfl (Nat.le_of_ble_eq_true rfl) dX3_laySign_31 ⟨Nat.zero_le _, Nat.zero_le _⟩ (fun H locs hP hS => ?_)
    refine lv_istore (lv' := [(5, .int (nI (30 + n))), (4, .int (sgz (q 4 n) lev)), (3, .int (q 5 n)), (0, .ref (a 20)), (1, .int (nI n)), (2, .int lev)]) hx hb dX3_laySign_34 hl (by decide) rfl (fun ls hl => ?_)
    refine lv_aload_n hx hb dX3_laySign_36 rfl (lv_at hl 3 rfl) ?_
    refine va_get (D := D) (ci := 3) (v := .ref (a 12)) (C := RX3) (T := TX3) (N := 6) hx hb hts hin_X3 hown hK hP 20 rfl rfl 1 (by decide) hf12 (fun _ h9 => h9) rfl dX3_laySign_37 ?_
    refine va_get (D := D) (ci := 1) (v := .ref (a 13)) (C := RX1) (T := TX1) (N := 5) hx hb hts hin_X1 hown hK hP 12 rfl rfl 0 (by decide) hf46 (fun _ h9 => h9) rfl dX3_laySign_40 ?_
    refine lv_iload hx hb dX3_laySign_43 (lv_at hl 0 rfl) ?_
    refine lv_iload hx hb dX3_laySign_45 (lv_at hl 1 rfl) ?_
    refine lv_iconst (v := 4) hx hb dX3_laySign_47 (by decide) ?_
    refine lv_iload_n hx hb dX3_laySign_48 rfl (lv_at hl 2 rfl) ?_
    refine lv_iconst (v := 5) hx hb dX3_laySign_49 (by decide) ?_
    refine lv_irem hx hb dX3_laySign_50 (by decide) ?_
    refine lv_iadd hx hb dX3_laySign_51 ?_
    refine lv_imul hx hb dX3_laySign_52 ?_
    refine ra_st (f := (r 13)) C0 hP hD hS 13 rfl (30 + n) rfl (by omega) (by decide) dX3_laySign_53 (fun H locs hP hD hS => ?_)
    have hset : ∀ (y4_ : Int32) (g_ : Nat → Int32), (wX cI a (vU v 4 y4_) r).set 13 (a 13, .inl (cI, 150, .inl g_)) = (wX cI a (vU v 4 y4_) (rU r 13 g_)) := fun _ _ => rfl
    rw [hset] at hP hD
    refine lv_aload_n hx hb dX3_laySign_54 rfl (lv_at hl 3 rfl) ?_
    refine va_get (D := D) (ci := 3) (v := .ref (a 12)) (C := RX3) (T := TX3) (N := 6) hx hb hts hin_X3 hown hK hP 20 rfl rfl 1 (by decide) hf12 (fun _ h9 => h9) rfl dX3_laySign_55 ?_
    refine lv_iload hx hb dX3_laySign_58 (lv_at hl 0 rfl) ?_
    refine lv_iconst (v := 0) hx hb dX3_laySign_60 (by decide) ?_
    refine lv_iload hx hb dX3_laySign_61 (lv_at hl 1 rfl) ?_
    refine lv_iconst (v := 5) hx hb dX3_laySign_63 (by decide) ?_
    refine lv_iload_n hx hb dX3_laySign_64 rfl (lv_at hl 2 rfl) ?_
    refine lv_iconst (v := 3) hx hb dX3_laySign_65 (by decide) ?_
    refine lv_irem hx hb dX3_laySign_66 (by decide) ?_
    refine lv_iadd hx hb dX3_laySign_67 ?_
    refine lv_imul hx hb dX3_laySign_68 ?_
    refine lv_iload_n hx hb dX3_laySign_69 rfl (lv_at hl 2 rfl) ?_
    refine lv_iconst (v := 4) hx hb dX3_laySign_70 (by decide) ?_
    refine lv_irem hx hb dX3_laySign_71 (by decide) ?_
    refine lv_iconst (v := 3) hx hb dX3_laySign_72 (by decide) ?_
    obtain ⟨x_2, ex_2⟩ : ∃ zz_ : Int32, zz_ = (if ((q 5 n) - (q 5 n) / 4 * 4) = 3 then (2 * (sgz (q 4 n) lev)) else (0 : Int32)) := ⟨_, rfl⟩
    refine jW (D := D) hD hl 84 (wX cI a (vU v 4 (nI c)) (rU r 13 (upd (r 13) (30 + n) ((sgz (q 4 n) lev) * (4 + ((q 5 n) - (q 5 n) / 5 * 5)))))) [(5, .int (nI (30 + n))), (4, .int (sgz (q 4 n) lev)), (3, .int (q 5 n)), (0, .ref (a 20)), (1, .int (nI n)), (2, .int lev)] [.int x_2, .int ((sgz (q 4 n) lev) * (5 + ((q 5 n) - (q 5 n) / 3 * 3))), .int 0, .int (nI (30 + n)), .ref (a 12)] (fun hJ => ?_) (fun H locs ls hP hD hS hl => ?_)
    · skip
      refine lv_icmp_ne (tgt := 83) hx hb dX3_laySign_73 (by decide) (fun c_73 => ?_) (fun c_73 => ?_)
      · skip
        refine lv_iconst (v := 0) hx hb dX3_laySign_83 (by decide) ?_
        have gx_2 : x_2 = 0 := by rw [ex_2]; simp only [if_neg c_73]
        simp only [gx_2] at hJ
        exact hJ _ _ _ hP hD hS (lv_sub hl [0, 1, 2, 3, 4, 5] rfl)
      · skip
        refine lv_iconst (v := 2) hx hb dX3_laySign_76 (by decide) ?_
        refine lv_iload hx hb dX3_laySign_77 (lv_at hl 1 rfl) ?_
        refine lv_imul hx hb dX3_laySign_79 ?_
        refine lv_goto (tgt := 84) hx hb dX3_laySign_80 (by decide) ?_
        have gx_2 : x_2 = (2 * (sgz (q 4 n) lev)) := by rw [ex_2]; simp only [if_pos c_73]
        simp only [gx_2] at hJ
        exact hJ _ _ _ hP hD hS (lv_sub hl [0, 1, 2, 3, 4, 5] rfl)
    · skip
      refine lv_eqi (show x_2 = (if rmd (q 5 n) 4 = 3 then 2 * sgz (q 4 n) lev else 0) from ex_2) ?_
      refine kcDv C0 hP hD hS (c_X1_cover l D cI a (vU v 4 (nI c)) (rU r 13 (upd (r 13) (30 + n) ((sgz (q 4 n) lev) * (4 + ((q 5 n) - (q 5 n) / 5 * 5))))) (30 + n) 0 ((sgz (q 4 n) lev) * (5 + ((q 5 n) - (q 5 n) / 3 * 3))) (if rmd (q 5 n) 4 = 3 then 2 * sgz (q 4 n) lev else 0) (by omega)) (cwV 4 hts gX3_laySign_X1_cover rfl rfl rfl (by decide +kernel) ⟨Nat.le_of_ble_eq_true rfl, Nat.le_of_ble_eq_true rfl⟩) 12 1 rfl rfl rfl hl.1 rfl (Nat.le_of_ble_eq_true rfl) dX3_laySign_84 ⟨Nat.zero_le _, Nat.zero_le _⟩ (fun H locs hP hD hS => ?_)
      have hP : va_P D vwCl (wX cI a (vU v 4 (nI c)) (cvR (rU r 13 (upd (r 13) (30 + n) ((sgz (q 4 n) lev) * (4 + ((q 5 n) - (q 5 n) / 5 * 5))))) (30 + n) 0 ((sgz (q 4 n) lev) * (5 + ((q 5 n) - (q 5 n) / 3 * 3))) (if rmd (q 5 n) 4 = 3 then 2 * sgz (q 4 n) lev else 0))) H := hP
      have hD : va_D A (wX cI a (vU v 4 (nI c)) (cvR (rU r 13 (upd (r 13) (30 + n) ((sgz (q 4 n) lev) * (4 + ((q 5 n) - (q 5 n) / 5 * 5))))) (30 + n) 0 ((sgz (q 4 n) lev) * (5 + ((q 5 n) - (q 5 n) / 3 * 3))) (if rmd (q 5 n) 4 = 3 then 2 * sgz (q 4 n) lev else 0))) := hD
      refine lv_aload_n hx hb dX3_laySign_87 rfl (lv_at hl 3 rfl) ?_
      refine va_get (D := D) (ci := 3) (v := .ref (a 18)) (C := RX3) (T := TX3) (N := 6) hx hb hts hin_X3 hown hK hP 20 rfl rfl 2 (by decide) hf21 (fun _ h9 => h9) rfl dX3_laySign_88 ?_
      refine lv_iconst (v := 0) hx hb dX3_laySign_91 (by decide) ?_
      refine lv_iload_n hx hb dX3_laySign_92 rfl (lv_at hl 4 rfl) ?_
      refine lv_iload_n hx hb dX3_laySign_93 rfl (lv_at hl 2 rfl) ?_
      refine kcD (ans := (nI c)) C0 hP hD hS (c_X2_add2 l D cI a v (cvR (rU r 13 (upd (r 13) (30 + n) ((sgz (q 4 n) lev) * (4 + ((q 5 n) - (q 5 n) / 5 * 5))))) (30 + n) 0 ((sgz (q 4 n) lev) * (5 + ((q 5 n) - (q 5 n) / 3 * 3))) (if rmd (q 5 n) 4 = 3 then 2 * sgz (q 4 n) lev else 0)) 0 (nI n) (q 5 n) c (by omega)) (cwV 3 hts gX3_laySign_X2_add rfl rfl rfl (by decide +kernel) ⟨Nat.le_of_ble_eq_true rfl, Nat.le_of_ble_eq_true rfl⟩) 18 2 rfl rfl rfl hl.1 rfl (Nat.le_of_ble_eq_true rfl) dX3_laySign_94 ⟨Nat.zero_le _, Nat.zero_le _⟩ (fun H locs hP hD hS => ?_)
      have hP : va_P D vwCl (wX cI a (vU v 4 (nI (c + 1))) (itR (cvR (rU r 13 (upd (r 13) (30 + n) ((sgz (q 4 n) lev) * (4 + ((q 5 n) - (q 5 n) / 5 * 5))))) (30 + n) 0 ((sgz (q 4 n) lev) * (5 + ((q 5 n) - (q 5 n) / 3 * 3))) (if rmd (q 5 n) 4 = 3 then 2 * sgz (q 4 n) lev else 0)) c 0 (nI n) (q 5 n))) H := hP
      have hD : va_D A (wX cI a (vU v 4 (nI (c + 1))) (itR (cvR (rU r 13 (upd (r 13) (30 + n) ((sgz (q 4 n) lev) * (4 + ((q 5 n) - (q 5 n) / 5 * 5))))) (30 + n) 0 ((sgz (q 4 n) lev) * (5 + ((q 5 n) - (q 5 n) / 3 * 3))) (if rmd (q 5 n) 4 = 3 then 2 * sgz (q 4 n) lev else 0)) c 0 (nI n) (q 5 n))) := hD
      refine lv_istore (lv' := [(6, .int (nI c)), (5, .int (nI (30 + n))), (4, .int (sgz (q 4 n) lev)), (3, .int (q 5 n)), (0, .ref (a 20)), (1, .int (nI n)), (2, .int lev)]) hx hb dX3_laySign_97 hl (by decide) rfl (fun ls hl => ?_)
      refine lv_aload_n hx hb dX3_laySign_99 rfl (lv_at hl 4 rfl) ?_
      refine va_get (D := D) (ci := 3) (v := .ref (a 18)) (C := RX3) (T := TX3) (N := 6) hx hb hts hin_X3 hown hK hP 20 rfl rfl 2 (by decide) hf21 (fun _ h9 => h9) rfl dX3_laySign_100 ?_
      refine lv_iload hx hb dX3_laySign_103 (lv_at hl 0 rfl) ?_
      refine lv_iload hx hb dX3_laySign_105 (lv_at hl 2 rfl) ?_
      refine lv_aload_n hx hb dX3_laySign_107 rfl (lv_at hl 4 rfl) ?_
      refine va_get (D := D) (ci := 3) (v := .ref (a 12)) (C := RX3) (T := TX3) (N := 6) hx hb hts hin_X3 hown hK hP 20 rfl rfl 1 (by decide) hf12 (fun _ h9 => h9) rfl dX3_laySign_108 ?_
      refine va_get (D := D) (ci := 1) (v := .ref (a 13)) (C := RX1) (T := TX1) (N := 5) hx hb hts hin_X1 hown hK hP 12 rfl rfl 0 (by decide) hf46 (fun _ h9 => h9) rfl dX3_laySign_111 ?_
      refine lv_iload hx hb dX3_laySign_114 (lv_at hl 1 rfl) ?_
      refine ra_ld (f := (upd (r 13) (30 + n) ((sgz (q 4 n) lev) * (4 + ((q 5 n) - (q 5 n) / 5 * 5))))) C0 hP 13 rfl (30 + n) rfl (by omega) (by decide) dX3_laySign_116 ?_
      refine lv_eqi pk_us ?_
      refine kcDv C0 hP hD hS (c_X2_measure l D cI a (vU v 4 (nI (c + 1))) (itR (cvR (rU r 13 (upd (r 13) (30 + n) ((sgz (q 4 n) lev) * (4 + ((q 5 n) - (q 5 n) / 5 * 5))))) (30 + n) 0 ((sgz (q 4 n) lev) * (5 + ((q 5 n) - (q 5 n) / 3 * 3))) (if rmd (q 5 n) 4 = 3 then 2 * sgz (q 4 n) lev else 0)) c 0 (nI n) (q 5 n)) c (c + 1) (sgz (q 4 n) lev) (sgz (q 4 n) lev * (4 + (q 5 n - q 5 n / 5 * 5))) rfl (by omega) (by omega)) (cwV 3 hts gX3_laySign_X2_measure rfl rfl rfl (by decide +kernel) ⟨Nat.le_of_ble_eq_true rfl, Nat.le_of_ble_eq_true rfl⟩) 18 2 rfl rfl rfl hl.1 rfl (Nat.le_of_ble_eq_true rfl) dX3_laySign_117 ⟨Nat.zero_le _, Nat.zero_le _⟩ (fun H locs hP hD hS => ?_)
      have hP : va_P D vwCl (wX cI a (vU v 4 (nI (c + 1))) (msR (itR (cvR (rU r 13 (upd (r 13) (30 + n) ((sgz (q 4 n) lev) * (4 + ((q 5 n) - (q 5 n) / 5 * 5))))) (30 + n) 0 ((sgz (q 4 n) lev) * (5 + ((q 5 n) - (q 5 n) / 3 * 3))) (if rmd (q 5 n) 4 = 3 then 2 * sgz (q 4 n) lev else 0)) c 0 (nI n) (q 5 n)) c (sgz (q 4 n) lev) (sgz (q 4 n) lev * (4 + (q 5 n - q 5 n / 5 * 5))))) H := hP
      have hD : va_D A (wX cI a (vU v 4 (nI (c + 1))) (msR (itR (cvR (rU r 13 (upd (r 13) (30 + n) ((sgz (q 4 n) lev) * (4 + ((q 5 n) - (q 5 n) / 5 * 5))))) (30 + n) 0 ((sgz (q 4 n) lev) * (5 + ((q 5 n) - (q 5 n) / 3 * 3))) (if rmd (q 5 n) 4 = 3 then 2 * sgz (q 4 n) lev else 0)) c 0 (nI n) (q 5 n)) c (sgz (q 4 n) lev) (sgz (q 4 n) lev * (4 + (q 5 n - q 5 n / 5 * 5))))) := hD
      have hp9 : NUP q r n c (mSi q n lev) (pSi q n lev 0 0) (msR (itR (cvR (rU r 13 (upd (r 13) (30 + n) ((sgz (q 4 n) lev) * (4 + ((q 5 n) - (q 5 n) / 5 * 5))))) (30 + n) 0 ((sgz (q 4 n) lev) * (5 + ((q 5 n) - (q 5 n) / 3 * 3))) (if rmd (q 5 n) 4 = 3 then 2 * sgz (q 4 n) lev else 0)) c 0 (nI n) (q 5 n)) c (sgz (q 4 n) lev) (sgz (q 4 n) lev * (4 + (q 5 n - q 5 n / 5 * 5)))) := nu_si (si_H hs0 hs1).1 si_D.1 e14 e15
      exact k_vret C0 (msR (itR (cvR (rU r 13 (upd (r 13) (30 + n) ((sgz (q 4 n) lev) * (4 + ((q 5 n) - (q 5 n) / 5 * 5))))) (30 + n) 0 ((sgz (q 4 n) lev) * (5 + ((q 5 n) - (q 5 n) / 3 * 3))) (if rmd (q 5 n) 4 = 3 then 2 * sgz (q 4 n) lev else 0)) c 0 (nI n) (q 5 n)) c (sgz (q 4 n) lev) (sgz (q 4 n) lev * (4 + (q 5 n - q 5 n / 5 * 5)))) hP hD hS hp9 dX3_laySign_120

set_option maxHeartbeats 1500000 in
set_option maxRecDepth 100000 in
theorem c_X3_addDelimiter_0 (l : Launch) (D : va_G) (cI : ClassId) (a : Nat → Nat) (v : Nat → Int32) (r : Nat → Nat → Int32) (n c : Nat) : KD l D cI yX3_addDelimiter wsX3_addDelimiter ({ frames := 0, cells := 0, slots := 0, locals := 0 }) [.ref (a 20), .int (nI n), .int 0] (wX cI a (vU v 4 (nI c)) r) (wX cI a (vU v 4 (nI c)) r) (-1) := by
  refine KI.of (cc := cX3_addDelimiter) (nL := 3) (ret := (some .int)) (by decide) rfl (Nat.le_of_ble_eq_true rfl) ?_
  intro pg9 en9 s m args below meth cd9 A ls C0 hP hD hS hl
  have hx := C0.1.1
  have hb := C0.1.2.1
  have hml := C0.1.2.2.1
  have hown : s.vm.findClass RX3 = some m.cls := C0.1.2.2.2.1
  have hts : ∀ w ∈ wsX3_addDelimiter, w.before args s = true := C0.1.2.2.2.2
  have hK := C0.2.2.2.1
  have hl : lv_has ls 3 [(0, .ref (a 20)), (1, .int (nI n)), (2, .int 0)] := hl
  have hP : va_P D vwCl (wX cI a (vU v 4 (nI c)) r) s.heap := hP
  refine lv_iload_n hx hb dX3_addDelimiter_0 rfl (lv_at hl 2 rfl) ?_
  refine lv_if_ne (tgt := 8) hx hb dX3_addDelimiter_1 (by decide) (fun c_1 => absurd (by decide) c_1) (fun c_1 => ?_)
  refine lv_iconst (v := (-1)) hx hb dX3_addDelimiter_4 (by decide) ?_
  refine lv_goto (tgt := 18) hx hb dX3_addDelimiter_5 (by decide) ?_
  exact k_iret C0 () hP hD hS rfl dX3_addDelimiter_18

set_option maxHeartbeats 1500000 in
set_option maxRecDepth 100000 in
theorem c_X3_addDelimiter_1 (l : Launch) (D : va_G) (cI : ClassId) (a : Nat → Nat) (v : Nat → Int32) (r : Nat → Nat → Int32) (n c : Nat) (x : Int32) (hx0 : ¬ x = 0) (hc1 : c < 150) : KD l D cI yX3_addDelimiter wsX3_addDelimiter ({ frames := 1, cells := 0, slots := 0, locals := 25 }) [.ref (a 20), .int (nI n), .int x] (wX cI a (vU v 4 (nI c)) r) (wX cI a (vU v 4 (nI (c + 1))) (itR r c 2 (nI n) x)) (nI c) := by
  refine KI.of (cc := cX3_addDelimiter) (nL := 3) (ret := (some .int)) (by decide) rfl (Nat.le_of_ble_eq_true rfl) ?_
  intro pg9 en9 s m args below meth cd9 A ls C0 hP hD hS hl
  have hx := C0.1.1
  have hb := C0.1.2.1
  have hml := C0.1.2.2.1
  have hown : s.vm.findClass RX3 = some m.cls := C0.1.2.2.2.1
  have hts : ∀ w ∈ wsX3_addDelimiter, w.before args s = true := C0.1.2.2.2.2
  have hK := C0.2.2.2.1
  have hin_X3 : ∀ w ∈ wsX30, w ∈ wsX3_addDelimiter := fun w h => List.mem_cons_of_mem _ (List.mem_append_left _ (List.mem_append_right _ h))
  have hf21 : (Cond.fieldLink RX3 21 "FormulaLists$Layout" "items" "LFormulaLists$Items;").before args s = true := hts _ (by decide +kernel)
  have hl : lv_has ls 3 [(0, .ref (a 20)), (1, .int (nI n)), (2, .int x)] := hl
  have hP : va_P D vwCl (wX cI a (vU v 4 (nI c)) r) s.heap := hP
  refine lv_iload_n hx hb dX3_addDelimiter_0 rfl (lv_at hl 2 rfl) ?_
  refine lv_if_ne (tgt := 8) hx hb dX3_addDelimiter_1 (by decide) (fun c_1 => ?_) (fun c_1 => absurd c_1 hx0)
  refine lv_aload_n hx hb dX3_addDelimiter_8 rfl (lv_at hl 0 rfl) ?_
  refine va_get (D := D) (ci := 3) (v := .ref (a 18)) (C := RX3) (T := TX3) (N := 6) hx hb hts hin_X3 hown hK hP 20 rfl rfl 2 (by decide) hf21 (fun _ h9 => h9) rfl dX3_addDelimiter_9 ?_
  refine lv_iconst (v := 2) hx hb dX3_addDelimiter_12 (by decide) ?_
  refine lv_iload_n hx hb dX3_addDelimiter_13 rfl (lv_at hl 1 rfl) ?_
  refine lv_iload_n hx hb dX3_addDelimiter_14 rfl (lv_at hl 2 rfl) ?_
  refine kcD (ans := (nI c)) C0 hP hD hS (c_X2_add2 l D cI a v r 2 (nI n) x c (by omega)) (cwV 3 hts gX3_addDelimiter_X2_add rfl rfl rfl (by decide +kernel) ⟨Nat.le_of_ble_eq_true rfl, Nat.le_of_ble_eq_true rfl⟩) 18 2 rfl rfl rfl hl.1 rfl (Nat.le_of_ble_eq_true rfl) dX3_addDelimiter_15 ⟨Nat.zero_le _, Nat.zero_le _⟩ (fun H locs hP hD hS => ?_)
  have hP : va_P D vwCl (wX cI a (vU v 4 (nI (c + 1))) (itR r c 2 (nI n) x)) H := hP
  have hD : va_D A (wX cI a (vU v 4 (nI (c + 1))) (itR r c 2 (nI n) x)) := hD
  exact k_iret C0 () hP hD hS rfl dX3_addDelimiter_18

theorem mk_5 (r : Rw) (i : Nat) (must lev : Int32) : mkR r i must lev 19 (8 * i + 5) = r 19 (8 * i + 5) := by
  unfold mkR
  rw [rU_s]
  split
  · rfl
  · rw [pk_un (by omega)]
theorem mkR_y {r : Rw} {i : Nat} {must lev : Int32} (h : 9 * must ≤ 10 * (uni lev * (6 + 4 * stp must lev))) : r = mkR r i must lev := by
  unfold mkR; rw [if_pos h, rU_id]
theorem mkR_n {r : Rw} {i : Nat} {must lev : Int32} (h : ¬ 9 * must ≤ 10 * (uni lev * (6 + 4 * stp must lev))) : rU r 19 (upd (r 19) (8 * i + 7) 1) = mkR r i must lev := by
  unfold mkR; rw [if_neg h]

set_option maxHeartbeats 1500000 in
set_option maxRecDepth 100000 in
theorem c_X3_setDelimiter_0 (l : Launch) (D : va_G) (cI : ClassId) (a : Nat → Nat) (v : Nat → Int32) (r : Nat → Nat → Int32) (b : Nat) (lev must : Int32) : KD l D cI yX3_setDelimiter wsX3_setDelimiter ({ frames := 1, cells := 0, slots := 0, locals := 20 }) [.ref (a 20), .int (nI b), .int (-1), .int lev, .int must] (wX cI a v r) (wX cI a v r) (uni lev / 2) := by
  refine KI.of (cc := cX3_setDelimiter) (nL := 10) (ret := (some .int)) (by decide) rfl (Nat.le_of_ble_eq_true rfl) ?_
  intro pg9 en9 s m args below meth cd9 A ls C0 hP hD hS hl
  have hx := C0.1.1
  have hb := C0.1.2.1
  have hml := C0.1.2.2.1
  have hown : s.vm.findClass RX3 = some m.cls := C0.1.2.2.2.1
  have hts : ∀ w ∈ wsX3_setDelimiter, w.before args s = true := C0.1.2.2.2.2
  have hK := C0.2.2.2.1
  have hl : lv_has ls 10 [(0, .ref (a 20)), (1, .int (nI b)), (2, .int (-1)), (3, .int lev), (4, .int must)] := hl
  have hP : va_P D vwCl (wX cI a v r) s.heap := hP
  refine lv_iload_n hx hb dX3_setDelimiter_0 rfl (lv_at hl 3 rfl) ?_
  refine kcSN (ans := (uni lev)) C0 hP hS (c_X4_unit l D cI lev ) ⟨va_cnB 1 hts gX3_setDelimiter_X4_unit_n85 rfl rfl rfl C0.2.2.2.2.2.1.2.1 (hts (.initialized RX4) (by decide +kernel)) (by decide +kernel) ⟨Nat.le_of_ble_eq_true rfl, Nat.le_of_ble_eq_true rfl⟩, hts (.static yX4_unit) (by decide +kernel), trivial⟩ rfl hl.1 rfl (Nat.le_of_ble_eq_true rfl) dX3_setDelimiter_1 ⟨Nat.zero_le _, Nat.zero_le _⟩ (fun H locs hP hS => ?_)
  refine lv_istore (lv' := [(5, .int (uni lev)), (0, .ref (a 20)), (1, .int (nI b)), (2, .int (-1)), (3, .int lev), (4, .int must)]) hx hb dX3_setDelimiter_4 hl (by decide) rfl (fun ls hl => ?_)
  refine lv_iload_n hx hb dX3_setDelimiter_6 rfl (lv_at hl 3 rfl) ?_
  refine lv_iconst (v := (-1)) hx hb dX3_setDelimiter_7 (by decide) ?_
  refine lv_icmp_ne (tgt := 16) hx hb dX3_setDelimiter_8 (by decide) (fun c_8 => absurd (by decide) c_8) (fun c_8 => ?_)
  refine lv_iload hx hb dX3_setDelimiter_11 (lv_at hl 0 rfl) ?_
  refine lv_iconst (v := 2) hx hb dX3_setDelimiter_13 (by decide) ?_
  refine lv_idiv hx hb dX3_setDelimiter_14 (by decide) ?_
  exact k_iret C0 () hP hD hS rfl dX3_setDelimiter_15

set_option maxHeartbeats 1500000 in
set_option maxRecDepth 100000 in
theorem c_X3_setDelimiter_1 (l : Launch) (D : va_G) (cI : ClassId) (a : Nat → Nat) (v : Nat → Int32) (r : Nat → Nat → Int32) (b i ct : Nat) (lev must : Int32) (hct : v 4 = nI ct) (hct1 : ct ≤ 150) (hb0 : b < 150) (hi : i < ct) : KD l D cI yX3_setDelimiter wsX3_setDelimiter ({ frames := 2, cells := 0, slots := 0, locals := 44 }) [.ref (a 20), .int (nI b), .int (nI i), .int lev, .int must] (wX cI a v r) (wX cI a v (cvR (msR (mkR r i must lev) i (stp must lev) (uni lev * (2 + rmd (r 19 (8 * i + 5)) 3))) b 0 (2 * uni lev + tal (stp must lev) lev / 2) (tal (stp must lev) lev - (2 * uni lev + tal (stp must lev) lev / 2)))) (uni lev * (2 + rmd (r 19 (8 * i + 5)) 3)) := by
  refine KI.of (cc := cX3_setDelimiter) (nL := 10) (ret := (some .int)) (by decide) rfl (Nat.le_of_ble_eq_true rfl) ?_
  intro pg9 en9 s m args below meth cd9 A ls C0 hP hD hS hl
  have hx := C0.1.1
  have hb := C0.1.2.1
  have hml := C0.1.2.2.1
  have hown : s.vm.findClass RX3 = some m.cls := C0.1.2.2.2.1
  have hts : ∀ w ∈ wsX3_setDelimiter, w.before args s = true := C0.1.2.2.2.2
  have hK := C0.2.2.2.1
  have hin_X3 : ∀ w ∈ wsX30, w ∈ wsX3_setDelimiter := fun w h => List.mem_cons_of_mem _ (List.mem_append_left _ (List.mem_append_left _ (List.mem_append_right _ h)))
  have hf21 : (Cond.fieldLink RX3 21 "FormulaLists$Layout" "items" "LFormulaLists$Items;").before args s = true := hts _ (by decide +kernel)
  have hf12 : (Cond.fieldLink RX3 12 "FormulaLists$Layout" "boxes" "LFormulaLists$Boxes;").before args s = true := hts _ (by decide +kernel)
  have hl : lv_has ls 10 [(0, .ref (a 20)), (1, .int (nI b)), (2, .int (nI i)), (3, .int lev), (4, .int must)] := hl
  have hP : va_P D vwCl (wX cI a v r) s.heap := hP
  refine lv_iload_n hx hb dX3_setDelimiter_0 rfl (lv_at hl 3 rfl) ?_
  refine kcSN (ans := (uni lev)) C0 hP hS (c_X4_unit l D cI lev ) ⟨va_cnB 1 hts gX3_setDelimiter_X4_unit_n85 rfl rfl rfl C0.2.2.2.2.2.1.2.1 (hts (.initialized RX4) (by decide +kernel)) (by decide +kernel) ⟨Nat.le_of_ble_eq_true rfl, Nat.le_of_ble_eq_true rfl⟩, hts (.static yX4_unit) (by decide +kernel), trivial⟩ rfl hl.1 rfl (Nat.le_of_ble_eq_true rfl) dX3_setDelimiter_1 ⟨Nat.zero_le _, Nat.zero_le _⟩ (fun H locs hP hS => ?_)
  refine lv_istore (lv' := [(5, .int (uni lev)), (0, .ref (a 20)), (1, .int (nI b)), (2, .int (nI i)), (3, .int lev), (4, .int must)]) hx hb dX3_setDelimiter_4 hl (by decide) rfl (fun ls hl => ?_)
  refine lv_iload_n hx hb dX3_setDelimiter_6 rfl (lv_at hl 3 rfl) ?_
  refine lv_iconst (v := (-1)) hx hb dX3_setDelimiter_7 (by decide) ?_
  refine lv_icmp_ne (tgt := 16) hx hb dX3_setDelimiter_8 (by decide) (fun c_8 => ?_) (fun c_8 => absurd c_8 (nI_ne_m1 (by omega)))
  refine lv_iconst (v := 0) hx hb dX3_setDelimiter_16 (by decide) ?_
  refine lv_istore (lv' := [(6, .int 0), (5, .int (uni lev)), (0, .ref (a 20)), (1, .int (nI b)), (2, .int (nI i)), (3, .int lev), (4, .int must)]) hx hb dX3_setDelimiter_17 hl (by decide) rfl (fun ls hl => ?_)
  refine lpW (nL := 10) (A := A) (D := D) (fun z : Nat => (wX cI a v r)) (fun z : Nat => [(6, .int (nI z)), (5, .int (uni lev)), (0, .ref (a 20)), (1, .int (nI b)), (2, .int (nI i)), (3, .int lev), (4, .int must)]) (fun z : Nat => z ≤ 4 ∧ ∀ y0, y0 < z → stc must lev y0) (fun z : Nat => 4 - z) 0 hP hD hS (lv_sub hl [0, 1, 2, 3, 4, 5, 6] rfl) ⟨Nat.zero_le _, fun z h => absurd h (Nat.not_lt_zero z)⟩ ?_
  intro j H locs ls hP hD hS hl hf ih
  have hP : va_P D vwCl (wX cI a v r) H := hP
  have hD : va_D A (wX cI a v r) := hD
  have hl : lv_has ls 10 [(6, .int (nI j)), (5, .int (uni lev)), (0, .ref (a 20)), (1, .int (nI b)), (2, .int (nI i)), (3, .int lev), (4, .int must)] := hl
  have hf : j ≤ 4 ∧ ∀ y0, y0 < j → stc must lev y0 := hf
  obtain ⟨hj4, hst⟩ := hf
  refine lv_iload hx hb dX3_setDelimiter_19 (lv_at hl 0 rfl) ?_
  refine lv_iconst (v := 4) hx hb dX3_setDelimiter_21 (by decide) ?_
  refine lv_icmp_ge (tgt := 43) hx hb dX3_setDelimiter_22 (by decide) (fun c_22 => ?_) (fun c_22 => ?_)
  · skip
    have hre : (nI j) = (stp must lev) := stp_of hj4 hst (Or.inl (by have h4 : ¬ j < 4 := (fun e => nI_ge (a := j) (b := 4) e (by omega) c_22); omega))
    rw [hre] at hl
    refine lv_iload hx hb dX3_setDelimiter_43 (lv_at hl 1 rfl) ?_
    refine lv_iload hx hb dX3_setDelimiter_45 (lv_at hl 0 rfl) ?_
    refine lv_iload hx hb dX3_setDelimiter_47 (lv_at hl 6 rfl) ?_
    refine kcS (ans := (bI (9 * must ≤ 10 * ((uni lev) * (6 + 4 * (stp must lev)))))) C0 hP hS (c_X3_reaches l D cI (uni lev) (stp must lev) must ) (va_cwS 3 hts gX3_setDelimiter_X3_reaches rfl rfl rfl (by decide +kernel) ⟨Nat.le_of_ble_eq_true rfl, Nat.le_of_ble_eq_true rfl⟩) rfl hl.1 rfl (Nat.le_of_ble_eq_true rfl) dX3_setDelimiter_49 ⟨Nat.zero_le _, Nat.zero_le _⟩ (fun H locs hP hS => ?_)
    refine lv_if_ne (tgt := 63) hx hb dX3_setDelimiter_52 (by decide) (fun c_52 => ?_) (fun c_52 => ?_)
    · skip
      have hmk : wX cI a v r = wX cI a v (mkR r i must lev) := by rw [← mkR_y (bI_nz.mp c_52)]
      rw [hmk] at hP hD
      refine lv_iload hx hb dX3_setDelimiter_63 (lv_at hl 1 rfl) ?_
      refine lv_iconst (v := 2) hx hb dX3_setDelimiter_65 (by decide) ?_
      refine lv_aload_n hx hb dX3_setDelimiter_66 rfl (lv_at hl 2 rfl) ?_
      refine va_get (D := D) (ci := 3) (v := .ref (a 18)) (C := RX3) (T := TX3) (N := 6) hx hb hts hin_X3 hown hK hP 20 rfl rfl 2 (by decide) hf21 (fun _ h9 => h9) rfl dX3_setDelimiter_67 ?_
      refine lv_iload_n hx hb dX3_setDelimiter_70 rfl (lv_at hl 4 rfl) ?_
      refine lv_iconst (v := 5) hx hb dX3_setDelimiter_71 (by decide) ?_
      refine kcD (ans := ((mkR r i must lev 19) (8 * i + 5))) C0 hP hD hS (c_X2_part l D cI a v (mkR r i must lev) i 5 ct hct hct1 (by omega) (by decide)) (cwV 2 hts gX3_setDelimiter_X2_part rfl rfl rfl (by decide +kernel) ⟨Nat.le_of_ble_eq_true rfl, Nat.le_of_ble_eq_true rfl⟩) 18 2 rfl rfl rfl hl.1 rfl (Nat.le_of_ble_eq_true rfl) dX3_setDelimiter_72 ⟨Nat.zero_le _, Nat.zero_le _⟩ (fun H locs hP hD hS => ?_)
      refine lv_eqi (mk_5 r i must lev) ?_
      refine lv_iconst (v := 3) hx hb dX3_setDelimiter_75 (by decide) ?_
      refine lv_irem hx hb dX3_setDelimiter_76 (by decide) ?_
      refine lv_iadd hx hb dX3_setDelimiter_77 ?_
      refine lv_imul hx hb dX3_setDelimiter_78 ?_
      refine lv_istore (lv' := [(7, .int ((uni lev) * (2 + ((r 19 (8 * i + 5)) - (r 19 (8 * i + 5)) / 3 * 3)))), (6, .int (stp must lev)), (5, .int (uni lev)), (0, .ref (a 20)), (1, .int (nI b)), (2, .int (nI i)), (3, .int lev), (4, .int must)]) hx hb dX3_setDelimiter_79 hl (by decide) rfl (fun ls hl => ?_)
      refine lv_aload_n hx hb dX3_setDelimiter_81 rfl (lv_at hl 3 rfl) ?_
      refine va_get (D := D) (ci := 3) (v := .ref (a 18)) (C := RX3) (T := TX3) (N := 6) hx hb hts hin_X3 hown hK hP 20 rfl rfl 2 (by decide) hf21 (fun _ h9 => h9) rfl dX3_setDelimiter_82 ?_
      refine lv_iload_n hx hb dX3_setDelimiter_85 rfl (lv_at hl 5 rfl) ?_
      refine lv_iload hx hb dX3_setDelimiter_86 (lv_at hl 1 rfl) ?_
      refine lv_iload hx hb dX3_setDelimiter_88 (lv_at hl 0 rfl) ?_
      refine kcDv C0 hP hD hS (c_X2_measure l D cI a v (mkR r i must lev) i ct (stp must lev) ((uni lev) * (2 + ((r 19 (8 * i + 5)) - (r 19 (8 * i + 5)) / 3 * 3))) hct hct1 (by omega)) (cwV 3 hts gX3_setDelimiter_X2_measure rfl rfl rfl (by decide +kernel) ⟨Nat.le_of_ble_eq_true rfl, Nat.le_of_ble_eq_true rfl⟩) 18 2 rfl rfl rfl hl.1 rfl (Nat.le_of_ble_eq_true rfl) dX3_setDelimiter_90 ⟨Nat.zero_le _, Nat.zero_le _⟩ (fun H locs hP hD hS => ?_)
      have hP : va_P D vwCl (wX cI a v (msR (mkR r i must lev) i (stp must lev) ((uni lev) * (2 + ((r 19 (8 * i + 5)) - (r 19 (8 * i + 5)) / 3 * 3))))) H := hP
      have hD : va_D A (wX cI a v (msR (mkR r i must lev) i (stp must lev) ((uni lev) * (2 + ((r 19 (8 * i + 5)) - (r 19 (8 * i + 5)) / 3 * 3))))) := hD
      refine lv_iload hx hb dX3_setDelimiter_93 (lv_at hl 2 rfl) ?_
      refine lv_iload hx hb dX3_setDelimiter_95 (lv_at hl 1 rfl) ?_
      refine kcS (ans := ((uni lev) * (6 + 4 * (stp must lev)))) C0 hP hS (c_X3_stepHeight l D cI (uni lev) (stp must lev) ) (va_cwS 2 hts gX3_setDelimiter_X3_stepHeight rfl rfl rfl (by decide +kernel) ⟨Nat.le_of_ble_eq_true rfl, Nat.le_of_ble_eq_true rfl⟩) rfl hl.1 rfl (Nat.le_of_ble_eq_true rfl) dX3_setDelimiter_97 ⟨Nat.zero_le _, Nat.zero_le _⟩ (fun H locs hP hS => ?_)
      refine lv_istore (lv' := [(8, .int ((uni lev) * (6 + 4 * (stp must lev)))), (7, .int ((uni lev) * (2 + ((r 19 (8 * i + 5)) - (r 19 (8 * i + 5)) / 3 * 3)))), (6, .int (stp must lev)), (5, .int (uni lev)), (0, .ref (a 20)), (1, .int (nI b)), (2, .int (nI i)), (3, .int lev), (4, .int must)]) hx hb dX3_setDelimiter_100 hl (by decide) rfl (fun ls hl => ?_)
      refine lv_iload_n hx hb dX3_setDelimiter_102 rfl (lv_at hl 7 rfl) ?_
      refine kcSN (ans := (2 * uni lev)) C0 hP hS (c_X4_axis l D cI lev ) ⟨va_cnB 1 hts gX3_setDelimiter_X4_axis_n173 rfl rfl rfl C0.2.2.2.2.2.1.2.2 (hts (.initialized RX4) (by decide +kernel)) (by decide +kernel) ⟨Nat.le_of_ble_eq_true rfl, Nat.le_of_ble_eq_true rfl⟩, hts (.static yX4_axis) (by decide +kernel), trivial⟩ rfl hl.1 rfl (Nat.le_of_ble_eq_true rfl) dX3_setDelimiter_103 ⟨Nat.zero_le _, Nat.zero_le _⟩ (fun H locs hP hS => ?_)
      refine lv_iload hx hb dX3_setDelimiter_106 (lv_at hl 0 rfl) ?_
      refine lv_iconst (v := 2) hx hb dX3_setDelimiter_108 (by decide) ?_
      refine lv_idiv hx hb dX3_setDelimiter_109 (by decide) ?_
      refine lv_iadd hx hb dX3_setDelimiter_110 ?_
      refine lv_istore (lv' := [(9, .int ((2 * uni lev) + (((uni lev) * (6 + 4 * (stp must lev))) / 2))), (8, .int ((uni lev) * (6 + 4 * (stp must lev)))), (7, .int ((uni lev) * (2 + ((r 19 (8 * i + 5)) - (r 19 (8 * i + 5)) / 3 * 3)))), (6, .int (stp must lev)), (5, .int (uni lev)), (0, .ref (a 20)), (1, .int (nI b)), (2, .int (nI i)), (3, .int lev), (4, .int must)]) hx hb dX3_setDelimiter_111 hl (by decide) rfl (fun ls hl => ?_)
      refine lv_aload_n hx hb dX3_setDelimiter_113 rfl (lv_at hl 5 rfl) ?_
      refine va_get (D := D) (ci := 3) (v := .ref (a 12)) (C := RX3) (T := TX3) (N := 6) hx hb hts hin_X3 hown hK hP 20 rfl rfl 1 (by decide) hf12 (fun _ h9 => h9) rfl dX3_setDelimiter_114 ?_
      refine lv_iload_n hx hb dX3_setDelimiter_117 rfl (lv_at hl 6 rfl) ?_
      refine lv_iconst (v := 0) hx hb dX3_setDelimiter_118 (by decide) ?_
      refine lv_iload hx hb dX3_setDelimiter_119 (lv_at hl 0 rfl) ?_
      refine lv_iload hx hb dX3_setDelimiter_121 (lv_at hl 1 rfl) ?_
      refine lv_iload hx hb dX3_setDelimiter_123 (lv_at hl 0 rfl) ?_
      refine lv_isub hx hb dX3_setDelimiter_125 ?_
      refine kcDv C0 hP hD hS (c_X1_cover l D cI a v (msR (mkR r i must lev) i (stp must lev) ((uni lev) * (2 + ((r 19 (8 * i + 5)) - (r 19 (8 * i + 5)) / 3 * 3)))) b 0 ((2 * uni lev) + (((uni lev) * (6 + 4 * (stp must lev))) / 2)) (((uni lev) * (6 + 4 * (stp must lev))) - ((2 * uni lev) + (((uni lev) * (6 + 4 * (stp must lev))) / 2))) (by omega)) (cwV 4 hts gX3_setDelimiter_X1_cover rfl rfl rfl (by decide +kernel) ⟨Nat.le_of_ble_eq_true rfl, Nat.le_of_ble_eq_true rfl⟩) 12 1 rfl rfl rfl hl.1 rfl (Nat.le_of_ble_eq_true rfl) dX3_setDelimiter_126 ⟨Nat.zero_le _, Nat.zero_le _⟩ (fun H locs hP hD hS => ?_)
      have hP : va_P D vwCl (wX cI a v (cvR (msR (mkR r i must lev) i (stp must lev) ((uni lev) * (2 + ((r 19 (8 * i + 5)) - (r 19 (8 * i + 5)) / 3 * 3)))) b 0 ((2 * uni lev) + (((uni lev) * (6 + 4 * (stp must lev))) / 2)) (((uni lev) * (6 + 4 * (stp must lev))) - ((2 * uni lev) + (((uni lev) * (6 + 4 * (stp must lev))) / 2))))) H := hP
      have hD : va_D A (wX cI a v (cvR (msR (mkR r i must lev) i (stp must lev) ((uni lev) * (2 + ((r 19 (8 * i + 5)) - (r 19 (8 * i + 5)) / 3 * 3)))) b 0 ((2 * uni lev) + (((uni lev) * (6 + 4 * (stp must lev))) / 2)) (((uni lev) * (6 + 4 * (stp must lev))) - ((2 * uni lev) + (((uni lev) * (6 + 4 * (stp must lev))) / 2))))) := hD
      refine lv_iload hx hb dX3_setDelimiter_129 (lv_at hl 2 rfl) ?_
      exact k_iret C0 () hP hD hS rfl dX3_setDelimiter_131
    · skip
      refine lv_aload_n hx hb dX3_setDelimiter_55 rfl (lv_at hl 2 rfl) ?_
      refine va_get (D := D) (ci := 3) (v := .ref (a 18)) (C := RX3) (T := TX3) (N := 6) hx hb hts hin_X3 hown hK hP 20 rfl rfl 2 (by decide) hf21 (fun _ h9 => h9) rfl dX3_setDelimiter_56 ?_
      refine lv_iload_n hx hb dX3_setDelimiter_59 rfl (lv_at hl 4 rfl) ?_
      refine kcDv C0 hP hD hS (c_X2_markShort l D cI a v r i ct hct hct1 hi) (cwV 1 hts gX3_setDelimiter_X2_markShort rfl rfl rfl (by decide +kernel) ⟨Nat.le_of_ble_eq_true rfl, Nat.le_of_ble_eq_true rfl⟩) 18 2 rfl rfl rfl hl.1 rfl (Nat.le_of_ble_eq_true rfl) dX3_setDelimiter_60 ⟨Nat.zero_le _, Nat.zero_le _⟩ (fun H locs hP hD hS => ?_)
      have hP : va_P D vwCl (wX cI a v (rU r 19 (upd (r 19) (8 * i + 7) 1))) H := hP
      have hD : va_D A (wX cI a v (rU r 19 (upd (r 19) (8 * i + 7) 1))) := hD
      have hmk : wX cI a v (rU r 19 (upd (r 19) (8 * i + 7) 1)) = wX cI a v (mkR r i must lev) := by rw [mkR_n (bI_z.mp c_52)]
      rw [hmk] at hP hD
      refine lv_iload hx hb dX3_setDelimiter_63 (lv_at hl 1 rfl) ?_
      refine lv_iconst (v := 2) hx hb dX3_setDelimiter_65 (by decide) ?_
      refine lv_aload_n hx hb dX3_setDelimiter_66 rfl (lv_at hl 2 rfl) ?_
      refine va_get (D := D) (ci := 3) (v := .ref (a 18)) (C := RX3) (T := TX3) (N := 6) hx hb hts hin_X3 hown hK hP 20 rfl rfl 2 (by decide) hf21 (fun _ h9 => h9) rfl dX3_setDelimiter_67 ?_
      refine lv_iload_n hx hb dX3_setDelimiter_70 rfl (lv_at hl 4 rfl) ?_
      refine lv_iconst (v := 5) hx hb dX3_setDelimiter_71 (by decide) ?_
      refine kcD (ans := ((mkR r i must lev 19) (8 * i + 5))) C0 hP hD hS (c_X2_part l D cI a v (mkR r i must lev) i 5 ct hct hct1 (by omega) (by decide)) (cwV 2 hts gX3_setDelimiter_X2_part rfl rfl rfl (by decide +kernel) ⟨Nat.le_of_ble_eq_true rfl, Nat.le_of_ble_eq_true rfl⟩) 18 2 rfl rfl rfl hl.1 rfl (Nat.le_of_ble_eq_true rfl) dX3_setDelimiter_72 ⟨Nat.zero_le _, Nat.zero_le _⟩ (fun H locs hP hD hS => ?_)
      refine lv_eqi (mk_5 r i must lev) ?_
      refine lv_iconst (v := 3) hx hb dX3_setDelimiter_75 (by decide) ?_
      refine lv_irem hx hb dX3_setDelimiter_76 (by decide) ?_
      refine lv_iadd hx hb dX3_setDelimiter_77 ?_
      refine lv_imul hx hb dX3_setDelimiter_78 ?_
      refine lv_istore (lv' := [(7, .int ((uni lev) * (2 + ((r 19 (8 * i + 5)) - (r 19 (8 * i + 5)) / 3 * 3)))), (6, .int (stp must lev)), (5, .int (uni lev)), (0, .ref (a 20)), (1, .int (nI b)), (2, .int (nI i)), (3, .int lev), (4, .int must)]) hx hb dX3_setDelimiter_79 hl (by decide) rfl (fun ls hl => ?_)
      refine lv_aload_n hx hb dX3_setDelimiter_81 rfl (lv_at hl 3 rfl) ?_
      refine va_get (D := D) (ci := 3) (v := .ref (a 18)) (C := RX3) (T := TX3) (N := 6) hx hb hts hin_X3 hown hK hP 20 rfl rfl 2 (by decide) hf21 (fun _ h9 => h9) rfl dX3_setDelimiter_82 ?_
      refine lv_iload_n hx hb dX3_setDelimiter_85 rfl (lv_at hl 5 rfl) ?_
      refine lv_iload hx hb dX3_setDelimiter_86 (lv_at hl 1 rfl) ?_
      refine lv_iload hx hb dX3_setDelimiter_88 (lv_at hl 0 rfl) ?_
      refine kcDv C0 hP hD hS (c_X2_measure l D cI a v (mkR r i must lev) i ct (stp must lev) ((uni lev) * (2 + ((r 19 (8 * i + 5)) - (r 19 (8 * i + 5)) / 3 * 3))) hct hct1 (by omega)) (cwV 3 hts gX3_setDelimiter_X2_measure rfl rfl rfl (by decide +kernel) ⟨Nat.le_of_ble_eq_true rfl, Nat.le_of_ble_eq_true rfl⟩) 18 2 rfl rfl rfl hl.1 rfl (Nat.le_of_ble_eq_true rfl) dX3_setDelimiter_90 ⟨Nat.zero_le _, Nat.zero_le _⟩ (fun H locs hP hD hS => ?_)
      have hP : va_P D vwCl (wX cI a v (msR (mkR r i must lev) i (stp must lev) ((uni lev) * (2 + ((r 19 (8 * i + 5)) - (r 19 (8 * i + 5)) / 3 * 3))))) H := hP
      have hD : va_D A (wX cI a v (msR (mkR r i must lev) i (stp must lev) ((uni lev) * (2 + ((r 19 (8 * i + 5)) - (r 19 (8 * i + 5)) / 3 * 3))))) := hD
      refine lv_iload hx hb dX3_setDelimiter_93 (lv_at hl 2 rfl) ?_
      refine lv_iload hx hb dX3_setDelimiter_95 (lv_at hl 1 rfl) ?_
      refine kcS (ans := ((uni lev) * (6 + 4 * (stp must lev)))) C0 hP hS (c_X3_stepHeight l D cI (uni lev) (stp must lev) ) (va_cwS 2 hts gX3_setDelimiter_X3_stepHeight rfl rfl rfl (by decide +kernel) ⟨Nat.le_of_ble_eq_true rfl, Nat.le_of_ble_eq_true rfl⟩) rfl hl.1 rfl (Nat.le_of_ble_eq_true rfl) dX3_setDelimiter_97 ⟨Nat.zero_le _, Nat.zero_le _⟩ (fun H locs hP hS => ?_)
      refine lv_istore (lv' := [(8, .int ((uni lev) * (6 + 4 * (stp must lev)))), (7, .int ((uni lev) * (2 + ((r 19 (8 * i + 5)) - (r 19 (8 * i + 5)) / 3 * 3)))), (6, .int (stp must lev)), (5, .int (uni lev)), (0, .ref (a 20)), (1, .int (nI b)), (2, .int (nI i)), (3, .int lev), (4, .int must)]) hx hb dX3_setDelimiter_100 hl (by decide) rfl (fun ls hl => ?_)
      refine lv_iload_n hx hb dX3_setDelimiter_102 rfl (lv_at hl 7 rfl) ?_
      refine kcSN (ans := (2 * uni lev)) C0 hP hS (c_X4_axis l D cI lev ) ⟨va_cnB 1 hts gX3_setDelimiter_X4_axis_n173 rfl rfl rfl C0.2.2.2.2.2.1.2.2 (hts (.initialized RX4) (by decide +kernel)) (by decide +kernel) ⟨Nat.le_of_ble_eq_true rfl, Nat.le_of_ble_eq_true rfl⟩, hts (.static yX4_axis) (by decide +kernel), trivial⟩ rfl hl.1 rfl (Nat.le_of_ble_eq_true rfl) dX3_setDelimiter_103 ⟨Nat.zero_le _, Nat.zero_le _⟩ (fun H locs hP hS => ?_)
      refine lv_iload hx hb dX3_setDelimiter_106 (lv_at hl 0 rfl) ?_
      refine lv_iconst (v := 2) hx hb dX3_setDelimiter_108 (by decide) ?_
      refine lv_idiv hx hb dX3_setDelimiter_109 (by decide) ?_
      refine lv_iadd hx hb dX3_setDelimiter_110 ?_
      refine lv_istore (lv' := [(9, .int ((2 * uni lev) + (((uni lev) * (6 + 4 * (stp must lev))) / 2))), (8, .int ((uni lev) * (6 + 4 * (stp must lev)))), (7, .int ((uni lev) * (2 + ((r 19 (8 * i + 5)) - (r 19 (8 * i + 5)) / 3 * 3)))), (6, .int (stp must lev)), (5, .int (uni lev)), (0, .ref (a 20)), (1, .int (nI b)), (2, .int (nI i)), (3, .int lev), (4, .int must)]) hx hb dX3_setDelimiter_111 hl (by decide) rfl (fun ls hl => ?_)
      refine lv_aload_n hx hb dX3_setDelimiter_113 rfl (lv_at hl 5 rfl) ?_
      refine va_get (D := D) (ci := 3) (v := .ref (a 12)) (C := RX3) (T := TX3) (N := 6) hx hb hts hin_X3 hown hK hP 20 rfl rfl 1 (by decide) hf12 (fun _ h9 => h9) rfl dX3_setDelimiter_114 ?_
      refine lv_iload_n hx hb dX3_setDelimiter_117 rfl (lv_at hl 6 rfl) ?_
      refine lv_iconst (v := 0) hx hb dX3_setDelimiter_118 (by decide) ?_
      refine lv_iload hx hb dX3_setDelimiter_119 (lv_at hl 0 rfl) ?_
      refine lv_iload hx hb dX3_setDelimiter_121 (lv_at hl 1 rfl) ?_
      refine lv_iload hx hb dX3_setDelimiter_123 (lv_at hl 0 rfl) ?_
      refine lv_isub hx hb dX3_setDelimiter_125 ?_
      refine kcDv C0 hP hD hS (c_X1_cover l D cI a v (msR (mkR r i must lev) i (stp must lev) ((uni lev) * (2 + ((r 19 (8 * i + 5)) - (r 19 (8 * i + 5)) / 3 * 3)))) b 0 ((2 * uni lev) + (((uni lev) * (6 + 4 * (stp must lev))) / 2)) (((uni lev) * (6 + 4 * (stp must lev))) - ((2 * uni lev) + (((uni lev) * (6 + 4 * (stp must lev))) / 2))) (by omega)) (cwV 4 hts gX3_setDelimiter_X1_cover rfl rfl rfl (by decide +kernel) ⟨Nat.le_of_ble_eq_true rfl, Nat.le_of_ble_eq_true rfl⟩) 12 1 rfl rfl rfl hl.1 rfl (Nat.le_of_ble_eq_true rfl) dX3_setDelimiter_126 ⟨Nat.zero_le _, Nat.zero_le _⟩ (fun H locs hP hD hS => ?_)
      have hP : va_P D vwCl (wX cI a v (cvR (msR (mkR r i must lev) i (stp must lev) ((uni lev) * (2 + ((r 19 (8 * i + 5)) - (r 19 (8 * i + 5)) / 3 * 3)))) b 0 ((2 * uni lev) + (((uni lev) * (6 + 4 * (stp must lev))) / 2)) (((uni lev) * (6 + 4 * (stp must lev))) - ((2 * uni lev) + (((uni lev) * (6 + 4 * (stp must lev))) / 2))))) H := hP
      have hD : va_D A (wX cI a v (cvR (msR (mkR r i must lev) i (stp must lev) ((uni lev) * (2 + ((r 19 (8 * i + 5)) - (r 19 (8 * i + 5)) / 3 * 3)))) b 0 ((2 * uni lev) + (((uni lev) * (6 + 4 * (stp must lev))) / 2)) (((uni lev) * (6 + 4 * (stp must lev))) - ((2 * uni lev) + (((uni lev) * (6 + 4 * (stp must lev))) / 2))))) := hD
      refine lv_iload hx hb dX3_setDelimiter_129 (lv_at hl 2 rfl) ?_
      exact k_iret C0 () hP hD hS rfl dX3_setDelimiter_131
  · skip
    have hlt : j < 4 := Nat.not_le.mp (fun e => c_22 (nI_le (a := 4) e (by omega)))
    refine lv_iload hx hb dX3_setDelimiter_25 (lv_at hl 1 rfl) ?_
    refine lv_iload hx hb dX3_setDelimiter_27 (lv_at hl 0 rfl) ?_
    refine lv_iload hx hb dX3_setDelimiter_29 (lv_at hl 6 rfl) ?_
    refine kcS (ans := (bI (9 * must ≤ 10 * ((uni lev) * (6 + 4 * (nI j)))))) C0 hP hS (c_X3_reaches l D cI (uni lev) (nI j) must ) (va_cwS 3 hts gX3_setDelimiter_X3_reaches rfl rfl rfl (by decide +kernel) ⟨Nat.le_of_ble_eq_true rfl, Nat.le_of_ble_eq_true rfl⟩) rfl hl.1 rfl (Nat.le_of_ble_eq_true rfl) dX3_setDelimiter_31 ⟨Nat.zero_le _, Nat.zero_le _⟩ (fun H locs hP hS => ?_)
    refine lv_if_ne (tgt := 43) hx hb dX3_setDelimiter_34 (by decide) (fun c_34 => ?_) (fun c_34 => ?_)
    · skip
      have hre : (nI j) = (stp must lev) := stp_of hj4 hst (Or.inr (fun e => stc_u.mp e (bI_nz.mp c_34)))
      rw [hre] at hl
      refine lv_iload hx hb dX3_setDelimiter_43 (lv_at hl 1 rfl) ?_
      refine lv_iload hx hb dX3_setDelimiter_45 (lv_at hl 0 rfl) ?_
      refine lv_iload hx hb dX3_setDelimiter_47 (lv_at hl 6 rfl) ?_
      refine kcS (ans := (bI (9 * must ≤ 10 * ((uni lev) * (6 + 4 * (stp must lev)))))) C0 hP hS (c_X3_reaches l D cI (uni lev) (stp must lev) must ) (va_cwS 3 hts gX3_setDelimiter_X3_reaches rfl rfl rfl (by decide +kernel) ⟨Nat.le_of_ble_eq_true rfl, Nat.le_of_ble_eq_true rfl⟩) rfl hl.1 rfl (Nat.le_of_ble_eq_true rfl) dX3_setDelimiter_49 ⟨Nat.zero_le _, Nat.zero_le _⟩ (fun H locs hP hS => ?_)
      refine lv_if_ne (tgt := 63) hx hb dX3_setDelimiter_52 (by decide) (fun c_52 => ?_) (fun c_52 => ?_)
      · skip
        have hmk : wX cI a v r = wX cI a v (mkR r i must lev) := by rw [← mkR_y (bI_nz.mp c_52)]
        rw [hmk] at hP hD
        refine lv_iload hx hb dX3_setDelimiter_63 (lv_at hl 1 rfl) ?_
        refine lv_iconst (v := 2) hx hb dX3_setDelimiter_65 (by decide) ?_
        refine lv_aload_n hx hb dX3_setDelimiter_66 rfl (lv_at hl 2 rfl) ?_
        refine va_get (D := D) (ci := 3) (v := .ref (a 18)) (C := RX3) (T := TX3) (N := 6) hx hb hts hin_X3 hown hK hP 20 rfl rfl 2 (by decide) hf21 (fun _ h9 => h9) rfl dX3_setDelimiter_67 ?_
        refine lv_iload_n hx hb dX3_setDelimiter_70 rfl (lv_at hl 4 rfl) ?_
        refine lv_iconst (v := 5) hx hb dX3_setDelimiter_71 (by decide) ?_
        refine kcD (ans := ((mkR r i must lev 19) (8 * i + 5))) C0 hP hD hS (c_X2_part l D cI a v (mkR r i must lev) i 5 ct hct hct1 (by omega) (by decide)) (cwV 2 hts gX3_setDelimiter_X2_part rfl rfl rfl (by decide +kernel) ⟨Nat.le_of_ble_eq_true rfl, Nat.le_of_ble_eq_true rfl⟩) 18 2 rfl rfl rfl hl.1 rfl (Nat.le_of_ble_eq_true rfl) dX3_setDelimiter_72 ⟨Nat.zero_le _, Nat.zero_le _⟩ (fun H locs hP hD hS => ?_)
        refine lv_eqi (mk_5 r i must lev) ?_
        refine lv_iconst (v := 3) hx hb dX3_setDelimiter_75 (by decide) ?_
        refine lv_irem hx hb dX3_setDelimiter_76 (by decide) ?_
        refine lv_iadd hx hb dX3_setDelimiter_77 ?_
        refine lv_imul hx hb dX3_setDelimiter_78 ?_
        refine lv_istore (lv' := [(7, .int ((uni lev) * (2 + ((r 19 (8 * i + 5)) - (r 19 (8 * i + 5)) / 3 * 3)))), (6, .int (stp must lev)), (5, .int (uni lev)), (0, .ref (a 20)), (1, .int (nI b)), (2, .int (nI i)), (3, .int lev), (4, .int must)]) hx hb dX3_setDelimiter_79 hl (by decide) rfl (fun ls hl => ?_)
        refine lv_aload_n hx hb dX3_setDelimiter_81 rfl (lv_at hl 3 rfl) ?_
        refine va_get (D := D) (ci := 3) (v := .ref (a 18)) (C := RX3) (T := TX3) (N := 6) hx hb hts hin_X3 hown hK hP 20 rfl rfl 2 (by decide) hf21 (fun _ h9 => h9) rfl dX3_setDelimiter_82 ?_
        refine lv_iload_n hx hb dX3_setDelimiter_85 rfl (lv_at hl 5 rfl) ?_
        refine lv_iload hx hb dX3_setDelimiter_86 (lv_at hl 1 rfl) ?_
        refine lv_iload hx hb dX3_setDelimiter_88 (lv_at hl 0 rfl) ?_
        refine kcDv C0 hP hD hS (c_X2_measure l D cI a v (mkR r i must lev) i ct (stp must lev) ((uni lev) * (2 + ((r 19 (8 * i + 5)) - (r 19 (8 * i + 5)) / 3 * 3))) hct hct1 (by omega)) (cwV 3 hts gX3_setDelimiter_X2_measure rfl rfl rfl (by decide +kernel) ⟨Nat.le_of_ble_eq_true rfl, Nat.le_of_ble_eq_true rfl⟩) 18 2 rfl rfl rfl hl.1 rfl (Nat.le_of_ble_eq_true rfl) dX3_setDelimiter_90 ⟨Nat.zero_le _, Nat.zero_le _⟩ (fun H locs hP hD hS => ?_)
        have hP : va_P D vwCl (wX cI a v (msR (mkR r i must lev) i (stp must lev) ((uni lev) * (2 + ((r 19 (8 * i + 5)) - (r 19 (8 * i + 5)) / 3 * 3))))) H := hP
        have hD : va_D A (wX cI a v (msR (mkR r i must lev) i (stp must lev) ((uni lev) * (2 + ((r 19 (8 * i + 5)) - (r 19 (8 * i + 5)) / 3 * 3))))) := hD
        refine lv_iload hx hb dX3_setDelimiter_93 (lv_at hl 2 rfl) ?_
        refine lv_iload hx hb dX3_setDelimiter_95 (lv_at hl 1 rfl) ?_
        refine kcS (ans := ((uni lev) * (6 + 4 * (stp must lev)))) C0 hP hS (c_X3_stepHeight l D cI (uni lev) (stp must lev) ) (va_cwS 2 hts gX3_setDelimiter_X3_stepHeight rfl rfl rfl (by decide +kernel) ⟨Nat.le_of_ble_eq_true rfl, Nat.le_of_ble_eq_true rfl⟩) rfl hl.1 rfl (Nat.le_of_ble_eq_true rfl) dX3_setDelimiter_97 ⟨Nat.zero_le _, Nat.zero_le _⟩ (fun H locs hP hS => ?_)
        refine lv_istore (lv' := [(8, .int ((uni lev) * (6 + 4 * (stp must lev)))), (7, .int ((uni lev) * (2 + ((r 19 (8 * i + 5)) - (r 19 (8 * i + 5)) / 3 * 3)))), (6, .int (stp must lev)), (5, .int (uni lev)), (0, .ref (a 20)), (1, .int (nI b)), (2, .int (nI i)), (3, .int lev), (4, .int must)]) hx hb dX3_setDelimiter_100 hl (by decide) rfl (fun ls hl => ?_)
        refine lv_iload_n hx hb dX3_setDelimiter_102 rfl (lv_at hl 7 rfl) ?_
        refine kcSN (ans := (2 * uni lev)) C0 hP hS (c_X4_axis l D cI lev ) ⟨va_cnB 1 hts gX3_setDelimiter_X4_axis_n173 rfl rfl rfl C0.2.2.2.2.2.1.2.2 (hts (.initialized RX4) (by decide +kernel)) (by decide +kernel) ⟨Nat.le_of_ble_eq_true rfl, Nat.le_of_ble_eq_true rfl⟩, hts (.static yX4_axis) (by decide +kernel), trivial⟩ rfl hl.1 rfl (Nat.le_of_ble_eq_true rfl) dX3_setDelimiter_103 ⟨Nat.zero_le _, Nat.zero_le _⟩ (fun H locs hP hS => ?_)
        refine lv_iload hx hb dX3_setDelimiter_106 (lv_at hl 0 rfl) ?_
        refine lv_iconst (v := 2) hx hb dX3_setDelimiter_108 (by decide) ?_
        refine lv_idiv hx hb dX3_setDelimiter_109 (by decide) ?_
        refine lv_iadd hx hb dX3_setDelimiter_110 ?_
        refine lv_istore (lv' := [(9, .int ((2 * uni lev) + (((uni lev) * (6 + 4 * (stp must lev))) / 2))), (8, .int ((uni lev) * (6 + 4 * (stp must lev)))), (7, .int ((uni lev) * (2 + ((r 19 (8 * i + 5)) - (r 19 (8 * i + 5)) / 3 * 3)))), (6, .int (stp must lev)), (5, .int (uni lev)), (0, .ref (a 20)), (1, .int (nI b)), (2, .int (nI i)), (3, .int lev), (4, .int must)]) hx hb dX3_setDelimiter_111 hl (by decide) rfl (fun ls hl => ?_)
        refine lv_aload_n hx hb dX3_setDelimiter_113 rfl (lv_at hl 5 rfl) ?_
        refine va_get (D := D) (ci := 3) (v := .ref (a 12)) (C := RX3) (T := TX3) (N := 6) hx hb hts hin_X3 hown hK hP 20 rfl rfl 1 (by decide) hf12 (fun _ h9 => h9) rfl dX3_setDelimiter_114 ?_
        refine lv_iload_n hx hb dX3_setDelimiter_117 rfl (lv_at hl 6 rfl) ?_
        refine lv_iconst (v := 0) hx hb dX3_setDelimiter_118 (by decide) ?_
        refine lv_iload hx hb dX3_setDelimiter_119 (lv_at hl 0 rfl) ?_
        refine lv_iload hx hb dX3_setDelimiter_121 (lv_at hl 1 rfl) ?_
        refine lv_iload hx hb dX3_setDelimiter_123 (lv_at hl 0 rfl) ?_
        refine lv_isub hx hb dX3_setDelimiter_125 ?_
        refine kcDv C0 hP hD hS (c_X1_cover l D cI a v (msR (mkR r i must lev) i (stp must lev) ((uni lev) * (2 + ((r 19 (8 * i + 5)) - (r 19 (8 * i + 5)) / 3 * 3)))) b 0 ((2 * uni lev) + (((uni lev) * (6 + 4 * (stp must lev))) / 2)) (((uni lev) * (6 + 4 * (stp must lev))) - ((2 * uni lev) + (((uni lev) * (6 + 4 * (stp must lev))) / 2))) (by omega)) (cwV 4 hts gX3_setDelimiter_X1_cover rfl rfl rfl (by decide +kernel) ⟨Nat.le_of_ble_eq_true rfl, Nat.le_of_ble_eq_true rfl⟩) 12 1 rfl rfl rfl hl.1 rfl (Nat.le_of_ble_eq_true rfl) dX3_setDelimiter_126 ⟨Nat.zero_le _, Nat.zero_le _⟩ (fun H locs hP hD hS => ?_)
        have hP : va_P D vwCl (wX cI a v (cvR (msR (mkR r i must lev) i (stp must lev) ((uni lev) * (2 + ((r 19 (8 * i + 5)) - (r 19 (8 * i + 5)) / 3 * 3)))) b 0 ((2 * uni lev) + (((uni lev) * (6 + 4 * (stp must lev))) / 2)) (((uni lev) * (6 + 4 * (stp must lev))) - ((2 * uni lev) + (((uni lev) * (6 + 4 * (stp must lev))) / 2))))) H := hP
        have hD : va_D A (wX cI a v (cvR (msR (mkR r i must lev) i (stp must lev) ((uni lev) * (2 + ((r 19 (8 * i + 5)) - (r 19 (8 * i + 5)) / 3 * 3)))) b 0 ((2 * uni lev) + (((uni lev) * (6 + 4 * (stp must lev))) / 2)) (((uni lev) * (6 + 4 * (stp must lev))) - ((2 * uni lev) + (((uni lev) * (6 + 4 * (stp must lev))) / 2))))) := hD
        refine lv_iload hx hb dX3_setDelimiter_129 (lv_at hl 2 rfl) ?_
        exact k_iret C0 () hP hD hS rfl dX3_setDelimiter_131
      · skip
        refine lv_aload_n hx hb dX3_setDelimiter_55 rfl (lv_at hl 2 rfl) ?_
        refine va_get (D := D) (ci := 3) (v := .ref (a 18)) (C := RX3) (T := TX3) (N := 6) hx hb hts hin_X3 hown hK hP 20 rfl rfl 2 (by decide) hf21 (fun _ h9 => h9) rfl dX3_setDelimiter_56 ?_
        refine lv_iload_n hx hb dX3_setDelimiter_59 rfl (lv_at hl 4 rfl) ?_
        refine kcDv C0 hP hD hS (c_X2_markShort l D cI a v r i ct hct hct1 hi) (cwV 1 hts gX3_setDelimiter_X2_markShort rfl rfl rfl (by decide +kernel) ⟨Nat.le_of_ble_eq_true rfl, Nat.le_of_ble_eq_true rfl⟩) 18 2 rfl rfl rfl hl.1 rfl (Nat.le_of_ble_eq_true rfl) dX3_setDelimiter_60 ⟨Nat.zero_le _, Nat.zero_le _⟩ (fun H locs hP hD hS => ?_)
        have hP : va_P D vwCl (wX cI a v (rU r 19 (upd (r 19) (8 * i + 7) 1))) H := hP
        have hD : va_D A (wX cI a v (rU r 19 (upd (r 19) (8 * i + 7) 1))) := hD
        have hmk : wX cI a v (rU r 19 (upd (r 19) (8 * i + 7) 1)) = wX cI a v (mkR r i must lev) := by rw [mkR_n (bI_z.mp c_52)]
        rw [hmk] at hP hD
        refine lv_iload hx hb dX3_setDelimiter_63 (lv_at hl 1 rfl) ?_
        refine lv_iconst (v := 2) hx hb dX3_setDelimiter_65 (by decide) ?_
        refine lv_aload_n hx hb dX3_setDelimiter_66 rfl (lv_at hl 2 rfl) ?_
        refine va_get (D := D) (ci := 3) (v := .ref (a 18)) (C := RX3) (T := TX3) (N := 6) hx hb hts hin_X3 hown hK hP 20 rfl rfl 2 (by decide) hf21 (fun _ h9 => h9) rfl dX3_setDelimiter_67 ?_
        refine lv_iload_n hx hb dX3_setDelimiter_70 rfl (lv_at hl 4 rfl) ?_
        refine lv_iconst (v := 5) hx hb dX3_setDelimiter_71 (by decide) ?_
        refine kcD (ans := ((mkR r i must lev 19) (8 * i + 5))) C0 hP hD hS (c_X2_part l D cI a v (mkR r i must lev) i 5 ct hct hct1 (by omega) (by decide)) (cwV 2 hts gX3_setDelimiter_X2_part rfl rfl rfl (by decide +kernel) ⟨Nat.le_of_ble_eq_true rfl, Nat.le_of_ble_eq_true rfl⟩) 18 2 rfl rfl rfl hl.1 rfl (Nat.le_of_ble_eq_true rfl) dX3_setDelimiter_72 ⟨Nat.zero_le _, Nat.zero_le _⟩ (fun H locs hP hD hS => ?_)
        refine lv_eqi (mk_5 r i must lev) ?_
        refine lv_iconst (v := 3) hx hb dX3_setDelimiter_75 (by decide) ?_
        refine lv_irem hx hb dX3_setDelimiter_76 (by decide) ?_
        refine lv_iadd hx hb dX3_setDelimiter_77 ?_
        refine lv_imul hx hb dX3_setDelimiter_78 ?_
        refine lv_istore (lv' := [(7, .int ((uni lev) * (2 + ((r 19 (8 * i + 5)) - (r 19 (8 * i + 5)) / 3 * 3)))), (6, .int (stp must lev)), (5, .int (uni lev)), (0, .ref (a 20)), (1, .int (nI b)), (2, .int (nI i)), (3, .int lev), (4, .int must)]) hx hb dX3_setDelimiter_79 hl (by decide) rfl (fun ls hl => ?_)
        refine lv_aload_n hx hb dX3_setDelimiter_81 rfl (lv_at hl 3 rfl) ?_
        refine va_get (D := D) (ci := 3) (v := .ref (a 18)) (C := RX3) (T := TX3) (N := 6) hx hb hts hin_X3 hown hK hP 20 rfl rfl 2 (by decide) hf21 (fun _ h9 => h9) rfl dX3_setDelimiter_82 ?_
        refine lv_iload_n hx hb dX3_setDelimiter_85 rfl (lv_at hl 5 rfl) ?_
        refine lv_iload hx hb dX3_setDelimiter_86 (lv_at hl 1 rfl) ?_
        refine lv_iload hx hb dX3_setDelimiter_88 (lv_at hl 0 rfl) ?_
        refine kcDv C0 hP hD hS (c_X2_measure l D cI a v (mkR r i must lev) i ct (stp must lev) ((uni lev) * (2 + ((r 19 (8 * i + 5)) - (r 19 (8 * i + 5)) / 3 * 3))) hct hct1 (by omega)) (cwV 3 hts gX3_setDelimiter_X2_measure rfl rfl rfl (by decide +kernel) ⟨Nat.le_of_ble_eq_true rfl, Nat.le_of_ble_eq_true rfl⟩) 18 2 rfl rfl rfl hl.1 rfl (Nat.le_of_ble_eq_true rfl) dX3_setDelimiter_90 ⟨Nat.zero_le _, Nat.zero_le _⟩ (fun H locs hP hD hS => ?_)
        have hP : va_P D vwCl (wX cI a v (msR (mkR r i must lev) i (stp must lev) ((uni lev) * (2 + ((r 19 (8 * i + 5)) - (r 19 (8 * i + 5)) / 3 * 3))))) H := hP
        have hD : va_D A (wX cI a v (msR (mkR r i must lev) i (stp must lev) ((uni lev) * (2 + ((r 19 (8 * i + 5)) - (r 19 (8 * i + 5)) / 3 * 3))))) := hD
        refine lv_iload hx hb dX3_setDelimiter_93 (lv_at hl 2 rfl) ?_
        refine lv_iload hx hb dX3_setDelimiter_95 (lv_at hl 1 rfl) ?_
        refine kcS (ans := ((uni lev) * (6 + 4 * (stp must lev)))) C0 hP hS (c_X3_stepHeight l D cI (uni lev) (stp must lev) ) (va_cwS 2 hts gX3_setDelimiter_X3_stepHeight rfl rfl rfl (by decide +kernel) ⟨Nat.le_of_ble_eq_true rfl, Nat.le_of_ble_eq_true rfl⟩) rfl hl.1 rfl (Nat.le_of_ble_eq_true rfl) dX3_setDelimiter_97 ⟨Nat.zero_le _, Nat.zero_le _⟩ (fun H locs hP hS => ?_)
        refine lv_istore (lv' := [(8, .int ((uni lev) * (6 + 4 * (stp must lev)))), (7, .int ((uni lev) * (2 + ((r 19 (8 * i + 5)) - (r 19 (8 * i + 5)) / 3 * 3)))), (6, .int (stp must lev)), (5, .int (uni lev)), (0, .ref (a 20)), (1, .int (nI b)), (2, .int (nI i)), (3, .int lev), (4, .int must)]) hx hb dX3_setDelimiter_100 hl (by decide) rfl (fun ls hl => ?_)
        refine lv_iload_n hx hb dX3_setDelimiter_102 rfl (lv_at hl 7 rfl) ?_
        refine kcSN (ans := (2 * uni lev)) C0 hP hS (c_X4_axis l D cI lev ) ⟨va_cnB 1 hts gX3_setDelimiter_X4_axis_n173 rfl rfl rfl C0.2.2.2.2.2.1.2.2 (hts (.initialized RX4) (by decide +kernel)) (by decide +kernel) ⟨Nat.le_of_ble_eq_true rfl, Nat.le_of_ble_eq_true rfl⟩, hts (.static yX4_axis) (by decide +kernel), trivial⟩ rfl hl.1 rfl (Nat.le_of_ble_eq_true rfl) dX3_setDelimiter_103 ⟨Nat.zero_le _, Nat.zero_le _⟩ (fun H locs hP hS => ?_)
        refine lv_iload hx hb dX3_setDelimiter_106 (lv_at hl 0 rfl) ?_
        refine lv_iconst (v := 2) hx hb dX3_setDelimiter_108 (by decide) ?_
        refine lv_idiv hx hb dX3_setDelimiter_109 (by decide) ?_
        refine lv_iadd hx hb dX3_setDelimiter_110 ?_
        refine lv_istore (lv' := [(9, .int ((2 * uni lev) + (((uni lev) * (6 + 4 * (stp must lev))) / 2))), (8, .int ((uni lev) * (6 + 4 * (stp must lev)))), (7, .int ((uni lev) * (2 + ((r 19 (8 * i + 5)) - (r 19 (8 * i + 5)) / 3 * 3)))), (6, .int (stp must lev)), (5, .int (uni lev)), (0, .ref (a 20)), (1, .int (nI b)), (2, .int (nI i)), (3, .int lev), (4, .int must)]) hx hb dX3_setDelimiter_111 hl (by decide) rfl (fun ls hl => ?_)
        refine lv_aload_n hx hb dX3_setDelimiter_113 rfl (lv_at hl 5 rfl) ?_
        refine va_get (D := D) (ci := 3) (v := .ref (a 12)) (C := RX3) (T := TX3) (N := 6) hx hb hts hin_X3 hown hK hP 20 rfl rfl 1 (by decide) hf12 (fun _ h9 => h9) rfl dX3_setDelimiter_114 ?_
        refine lv_iload_n hx hb dX3_setDelimiter_117 rfl (lv_at hl 6 rfl) ?_
        refine lv_iconst (v := 0) hx hb dX3_setDelimiter_118 (by decide) ?_
        refine lv_iload hx hb dX3_setDelimiter_119 (lv_at hl 0 rfl) ?_
        refine lv_iload hx hb dX3_setDelimiter_121 (lv_at hl 1 rfl) ?_
        refine lv_iload hx hb dX3_setDelimiter_123 (lv_at hl 0 rfl) ?_
        refine lv_isub hx hb dX3_setDelimiter_125 ?_
        refine kcDv C0 hP hD hS (c_X1_cover l D cI a v (msR (mkR r i must lev) i (stp must lev) ((uni lev) * (2 + ((r 19 (8 * i + 5)) - (r 19 (8 * i + 5)) / 3 * 3)))) b 0 ((2 * uni lev) + (((uni lev) * (6 + 4 * (stp must lev))) / 2)) (((uni lev) * (6 + 4 * (stp must lev))) - ((2 * uni lev) + (((uni lev) * (6 + 4 * (stp must lev))) / 2))) (by omega)) (cwV 4 hts gX3_setDelimiter_X1_cover rfl rfl rfl (by decide +kernel) ⟨Nat.le_of_ble_eq_true rfl, Nat.le_of_ble_eq_true rfl⟩) 12 1 rfl rfl rfl hl.1 rfl (Nat.le_of_ble_eq_true rfl) dX3_setDelimiter_126 ⟨Nat.zero_le _, Nat.zero_le _⟩ (fun H locs hP hD hS => ?_)
        have hP : va_P D vwCl (wX cI a v (cvR (msR (mkR r i must lev) i (stp must lev) ((uni lev) * (2 + ((r 19 (8 * i + 5)) - (r 19 (8 * i + 5)) / 3 * 3)))) b 0 ((2 * uni lev) + (((uni lev) * (6 + 4 * (stp must lev))) / 2)) (((uni lev) * (6 + 4 * (stp must lev))) - ((2 * uni lev) + (((uni lev) * (6 + 4 * (stp must lev))) / 2))))) H := hP
        have hD : va_D A (wX cI a v (cvR (msR (mkR r i must lev) i (stp must lev) ((uni lev) * (2 + ((r 19 (8 * i + 5)) - (r 19 (8 * i + 5)) / 3 * 3)))) b 0 ((2 * uni lev) + (((uni lev) * (6 + 4 * (stp must lev))) / 2)) (((uni lev) * (6 + 4 * (stp must lev))) - ((2 * uni lev) + (((uni lev) * (6 + 4 * (stp must lev))) / 2))))) := hD
        refine lv_iload hx hb dX3_setDelimiter_129 (lv_at hl 2 rfl) ?_
        exact k_iret C0 () hP hD hS rfl dX3_setDelimiter_131
    · skip
      refine lv_iinc (v := (nI (j + 1))) (lv' := [(6, .int (nI (j + 1))), (5, .int (uni lev)), (0, .ref (a 20)), (1, .int (nI b)), (2, .int (nI i)), (3, .int lev), (4, .int must)]) hx hb dX3_setDelimiter_37 hl (k := 0) rfl (k_inc j) (by decide) rfl (fun ls hl => ?_)
      refine lv_goto (tgt := 19) hx hb dX3_setDelimiter_40 (by decide) ?_
      exact ih (j + 1) _ _ _ hP hD hS (lv_sub hl [0, 1, 2, 3, 4, 5, 6] rfl) ⟨hlt, fun z h => (by rcases (show z < j ∨ z = j by omega) with e | e; exact hst z e; subst e; exact stc_u.mpr (bI_z.mp c_34))⟩ (show 4 - (j + 1) < 4 - j by omega)
