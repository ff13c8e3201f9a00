theorem mx_le (a b : Int32) : (if a ≤ b then b else a) = mx a b := by
  unfold mx
  by_cases h : a ≤ b
  · rw [if_pos h, if_neg (Int32.not_lt.mpr h)]
  · rw [if_neg h, if_pos (Int32.not_le.mp h)]
/-- a list that may become a cell -/
def okC (h : Nat → Int32) (o : Int32) (l : Nat) : Bool := decide (¬ nI l = o ∧ ¬ nI l = 0 ∧ h l = -1)
/-- the list with which the last m begin that may be cells, from l downward; -1 -/
def ffF (ok : Nat → Bool) : Nat → Nat → Int32
  | 0, _ => -1
  | l + 1, m => if ok (l + 1) = true then (if m = 1 then nI (l + 1) else ffF ok l (m - 1)) else ffF ok l m
/-- whether one of n from a on is so -/
def anB (p : Nat → Bool) (a : Nat) : Nat → Bool
  | 0 => false
  | n + 1 => anB p a n || p (a + n)
theorem an_t {p : Nat → Bool} {a n : Nat} (h : anB p a n = true) : ∀ m, n ≤ m → anB p a m = true := by
  intro m
  induction m with
  | zero => intro hn; rw [show n = 0 by omega] at h; exact h
  | succ m ih =>
    intro hn
    by_cases e : n = m + 1
    · rw [← e]; exact h
    · rw [anB, ih (by omega), Bool.true_or]
theorem ff_n {ok : Nat → Bool} {l m : Nat} (hl : 0 < l) (h : ¬ ok l = true) : ffF ok l m = ffF ok (l - 1) m := by
  obtain ⟨j, rfl⟩ : ∃ j, l = j + 1 := ⟨l - 1, by omega⟩
  rw [ffF, if_neg h]; rfl
theorem ff_1 {ok : Nat → Bool} {l m : Nat} (hl : 0 < l) (h : ok l = true) (hm : m = 1) : ffF ok l m = nI l := by
  obtain ⟨j, rfl⟩ : ∃ j, l = j + 1 := ⟨l - 1, by omega⟩
  rw [ffF, if_pos h, if_pos hm]
theorem ff_y {ok : Nat → Bool} {l m : Nat} (hl : 0 < l) (h : ok l = true) (hm : ¬ m = 1) : ffF ok l m = ffF ok (l - 1) (m - 1) := by
  obtain ⟨j, rfl⟩ : ∃ j, l = j + 1 := ⟨l - 1, by omega⟩
  rw [ffF, if_pos h, if_neg hm]; rfl

set_option maxHeartbeats 1500000 in
set_option maxRecDepth 100000 in
theorem c_X1_cover (l : Launch) (D : va_G) (cI : ClassId) (a : Nat → Nat) (v : Nat → Int32) (r : Nat → Nat → Int32) (b : Nat) (x y z : Int32) (hb0 : b < 150) : KDv l D cI yX1_cover wsX1_cover ({ frames := 0, cells := 0, slots := 0, locals := 0 }) [.ref (a 12), .int (nI b), .int x, .int y, .int z] (wX cI a v r) (wX cI a v (rU (rU r 14 (upd (r 14) b (mx (x + y) (r 14 b)))) 15 (upd (r 15) b (mx (z - x) (r 15 b))))) := by
  refine KV.of (cc := cX1_cover) (nL := 7) (ret := none) (by decide) rfl (Nat.le_of_ble_eq_true rfl) ?_
  intro pg9 en9 s m args below meth cd9 A ls C0 hP hD hS hl
  have hx := C0.1.1
  have hb := C0.1.2.1
  have hml := C0.1.2.2.1
  have hown : s.vm.findClass RX1 = some m.cls := C0.1.2.2.2.1
  have hts : ∀ w ∈ wsX1_cover, w.before args s = true := C0.1.2.2.2.2
  have hK := C0.2.2.2.1
  have hin_X1 : ∀ w ∈ wsX10, w ∈ wsX1_cover := fun w h => List.mem_cons_of_mem _ (List.mem_append_right _ h)
  have hf15 : (Cond.fieldLink RX1 15 "FormulaLists$Boxes" "height" "[I").before args s = true := hts _ (by decide +kernel)
  have hf18 : (Cond.fieldLink RX1 18 "FormulaLists$Boxes" "depth" "[I").before args s = true := hts _ (by decide +kernel)
  have hl : lv_has ls 7 [(0, .ref (a 12)), (1, .int (nI b)), (2, .int x), (3, .int y), (4, .int z)] := hl
  have hP : va_P D vwCl (wX cI a v r) s.heap := hP
  refine lv_iload_n hx hb dX1_cover_0 rfl (lv_at hl 2 rfl) ?_
  refine lv_iload_n hx hb dX1_cover_1 rfl (lv_at hl 3 rfl) ?_
  refine lv_iadd hx hb dX1_cover_2 ?_
  refine lv_istore (lv' := [(5, .int (x + y)), (0, .ref (a 12)), (1, .int (nI b)), (2, .int x), (3, .int y), (4, .int z)]) hx hb dX1_cover_3 hl (by decide) rfl (fun ls hl => ?_)
  refine lv_iload hx hb dX1_cover_5 (lv_at hl 5 rfl) ?_
  refine lv_iload_n hx hb dX1_cover_7 rfl (lv_at hl 3 rfl) ?_
  refine lv_isub hx hb dX1_cover_8 ?_
  refine lv_istore (lv' := [(6, .int (z - x)), (5, .int (x + y)), (0, .ref (a 12)), (1, .int (nI b)), (2, .int x), (3, .int y), (4, .int z)]) hx hb dX1_cover_9 hl (by decide) rfl (fun ls hl => ?_)
  refine lv_aload_n hx hb dX1_cover_11 rfl (lv_at hl 2 rfl) ?_
  refine va_get (D := D) (ci := 1) (v := .ref (a 14)) (C := RX1) (T := TX1) (N := 5) hx hb hts hin_X1 hown hK hP 12 rfl rfl 1 (by decide) hf15 (fun _ h9 => h9) rfl dX1_cover_12 ?_
  refine lv_iload_n hx hb dX1_cover_15 rfl (lv_at hl 3 rfl) ?_
  refine lv_iload hx hb dX1_cover_16 (lv_at hl 1 rfl) ?_
  refine lv_aload_n hx hb dX1_cover_18 rfl (lv_at hl 2 rfl) ?_
  refine va_get (D := D) (ci := 1) (v := .ref (a 14)) (C := RX1) (T := TX1) (N := 5) hx hb hts hin_X1 hown hK hP 12 rfl rfl 1 (by decide) hf15 (fun _ h9 => h9) rfl dX1_cover_19 ?_
  refine lv_iload_n hx hb dX1_cover_22 rfl (lv_at hl 3 rfl) ?_
  refine ra_ld (f := (r 14)) C0 hP 14 rfl b rfl (by omega) (by decide) dX1_cover_23 ?_
  obtain ⟨x_1, ex_1⟩ : ∃ zz_ : Int32, zz_ = (if (x + y) ≤ ((r 14) b) then ((r 14) b) else (x + y)) := ⟨_, rfl⟩
  refine jW (D := D) hD hl 38 (wX cI a v r) [(6, .int (z - x)), (5, .int (x + y)), (0, .ref (a 12)), (1, .int (nI b)), (2, .int x), (3, .int y), (4, .int z)] [.int x_1, .int (nI b), .ref (a 14)] (fun hJ => ?_) (fun H locs ls hP hD hS hl => ?_)
  · skip
    refine lv_icmp_le (tgt := 32) hx hb dX1_cover_24 (by decide) (fun c_24 => ?_) (fun c_24 => ?_)
    · skip
      refine lv_aload_n hx hb dX1_cover_32 rfl (lv_at hl 2 rfl) ?_
      refine va_get (D := D) (ci := 1) (v := .ref (a 14)) (C := RX1) (T := TX1) (N := 5) hx hb hts hin_X1 hown hK hP 12 rfl rfl 1 (by decide) hf15 (fun _ h9 => h9) rfl dX1_cover_33 ?_
      refine lv_iload_n hx hb dX1_cover_36 rfl (lv_at hl 3 rfl) ?_
      refine ra_ld (f := (r 14)) C0 hP 14 rfl b rfl (by omega) (by decide) dX1_cover_37 ?_
      have gx_1 : x_1 = ((r 14) b) := by rw [ex_1]; simp only [if_pos c_24]
      simp only [gx_1] at hJ
      exact hJ _ _ _ hP hD hS (lv_sub hl [0, 1, 2, 3, 4, 5, 6] rfl)
    · skip
      refine lv_iload hx hb dX1_cover_27 (lv_at hl 1 rfl) ?_
      refine lv_goto (tgt := 38) hx hb dX1_cover_29 (by decide) ?_
      have gx_1 : x_1 = (x + y) := by rw [ex_1]; simp only [if_neg c_24]
      simp only [gx_1] at hJ
      exact hJ _ _ _ hP hD hS (lv_sub hl [0, 1, 2, 3, 4, 5, 6] rfl)
  · skip
    refine lv_eqi (show x_1 = mx (x + y) (r 14 b) by rw [ex_1]; exact mx_le _ _) ?_
    refine ra_st (f := (r 14)) C0 hP hD hS 14 rfl b rfl (by omega) (by decide) dX1_cover_38 (fun H locs hP hD hS => ?_)
    have hset : ∀ (g_ : Nat → Int32), (wX cI a v r).set 14 (a 14, .inl (cI, 150, .inl g_)) = (wX cI a v (rU r 14 g_)) := fun _ => rfl
    rw [hset] at hP hD
    refine lv_aload_n hx hb dX1_cover_39 rfl (lv_at hl 2 rfl) ?_
    refine va_get (D := D) (ci := 1) (v := .ref (a 15)) (C := RX1) (T := TX1) (N := 5) hx hb hts hin_X1 hown hK hP 12 rfl rfl 2 (by decide) hf18 (fun _ h9 => h9) rfl dX1_cover_40 ?_
    refine lv_iload_n hx hb dX1_cover_43 rfl (lv_at hl 3 rfl) ?_
    refine lv_iload hx hb dX1_cover_44 (lv_at hl 0 rfl) ?_
    refine lv_aload_n hx hb dX1_cover_46 rfl (lv_at hl 2 rfl) ?_
    refine va_get (D := D) (ci := 1) (v := .ref (a 15)) (C := RX1) (T := TX1) (N := 5) hx hb hts hin_X1 hown hK hP 12 rfl rfl 2 (by decide) hf18 (fun _ h9 => h9) rfl dX1_cover_47 ?_
    refine lv_iload_n hx hb dX1_cover_50 rfl (lv_at hl 3 rfl) ?_
    refine ra_ld (f := (r 15)) C0 hP 15 rfl b rfl (by omega) (by decide) dX1_cover_51 ?_
    obtain ⟨x_2, ex_2⟩ : ∃ zz_ : Int32, zz_ = (if (z - x) ≤ ((r 15) b) then ((r 15) b) else (z - x)) := ⟨_, rfl⟩
    refine jW (D := D) hD hl 66 (wX cI a v (rU r 14 (upd (r 14) b (mx (x + y) (r 14 b))))) [(6, .int (z - x)), (5, .int (x + y)), (0, .ref (a 12)), (1, .int (nI b)), (2, .int x), (3, .int y), (4, .int z)] [.int x_2, .int (nI b), .ref (a 15)] (fun hJ => ?_) (fun H locs ls hP hD hS hl => ?_)
    · skip
      refine lv_icmp_le (tgt := 60) hx hb dX1_cover_52 (by decide) (fun c_52 => ?_) (fun c_52 => ?_)
      · skip
        refine lv_aload_n hx hb dX1_cover_60 rfl (lv_at hl 2 rfl) ?_
        refine va_get (D := D) (ci := 1) (v := .ref (a 15)) (C := RX1) (T := TX1) (N := 5) hx hb hts hin_X1 hown hK hP 12 rfl rfl 2 (by decide) hf18 (fun _ h9 => h9) rfl dX1_cover_61 ?_
        refine lv_iload_n hx hb dX1_cover_64 rfl (lv_at hl 3 rfl) ?_
        refine ra_ld (f := (r 15)) C0 hP 15 rfl b rfl (by omega) (by decide) dX1_cover_65 ?_
        have gx_2 : x_2 = ((r 15) b) := by rw [ex_2]; simp only [if_pos c_52]
        simp only [gx_2] at hJ
        exact hJ _ _ _ hP hD hS (lv_sub hl [0, 1, 2, 3, 4, 5, 6] rfl)
      · skip
        refine lv_iload hx hb dX1_cover_55 (lv_at hl 0 rfl) ?_
        refine lv_goto (tgt := 66) hx hb dX1_cover_57 (by decide) ?_
        have gx_2 : x_2 = (z - x) := by rw [ex_2]; simp only [if_neg c_52]
        simp only [gx_2] at hJ
        exact hJ _ _ _ hP hD hS (lv_sub hl [0, 1, 2, 3, 4, 5, 6] rfl)
    · skip
      refine lv_eqi (show x_2 = mx (z - x) (r 15 b) by rw [ex_2]; exact mx_le _ _) ?_
      refine ra_st (f := (r 15)) C0 hP hD hS 15 rfl b rfl (by omega) (by decide) dX1_cover_66 (fun H locs hP hD hS => ?_)
      have hset : ∀ (f14_ : Nat → Int32) (g_ : Nat → Int32), (wX cI a v (rU r 14 f14_)).set 15 (a 15, .inl (cI, 150, .inl g_)) = (wX cI a v (rU (rU r 14 f14_) 15 g_)) := fun _ _ => rfl
      rw [hset] at hP hD
      exact k_vret C0 () hP hD hS trivial dX1_cover_67

set_option maxHeartbeats 1500000 in
set_option maxRecDepth 100000 in
theorem c_X0_firstOfLastFree (l : Launch) (D : va_G) (cI : ClassId) (a : Nat → Nat) (v : Nat → Int32) (r : Nat → Nat → Int32) (m0 L : Nat) (hL : v 1 = nI L) (hL0 : 1 ≤ L) (hL1 : L ≤ 30) (hm : 1 ≤ m0) (hm1 : m0 ≤ 25) : KD l D cI yX0_firstOfLastFree wsX0_firstOfLastFree ({ frames := 2, cells := 0, slots := 0, locals := 42 }) [.ref (a 1), .int (nI m0)] (wX cI a v r) (wX cI a v r) (ffF (okC (r 10) (v 2)) (L - 1) m0) := by
  refine KI.of (cc := cX0_firstOfLastFree) (nL := 4) (ret := (some .int)) (by decide) rfl (Nat.le_of_ble_eq_true rfl) ?_
  intro pg9 en9 s m args below meth cd9 A ls C0 hP hD hS hl
  have hx := C0.1.1
  have hb := C0.1.2.1
  have hml := C0.1.2.2.1
  have hown : s.vm.findClass RX0 = some m.cls := C0.1.2.2.2.1
  have hts : ∀ w ∈ wsX0_firstOfLastFree, w.before args s = true := C0.1.2.2.2.2
  have hK := C0.2.2.2.1
  have hin_X0 : ∀ w ∈ wsX00, w ∈ wsX0_firstOfLastFree := fun w h => List.mem_cons_of_mem _ (List.mem_append_right _ h)
  have hf15 : (Cond.fieldLink RX0 15 "FormulaLists$Book" "lists" "I").before args s = true := hts _ (by decide +kernel)
  have hl : lv_has ls 4 [(0, .ref (a 1)), (1, .int (nI m0))] := hl
  have hP : va_P D vwCl (wX cI a v r) s.heap := hP
  refine lv_iload_n hx hb dX0_firstOfLastFree_0 rfl (lv_at hl 1 rfl) ?_
  refine lv_istore_n (lv' := [(2, .int (nI m0)), (0, .ref (a 1)), (1, .int (nI m0))]) hx hb dX0_firstOfLastFree_1 rfl hl (by decide) rfl (fun ls hl => ?_)
  refine lv_aload_n hx hb dX0_firstOfLastFree_2 rfl (lv_at hl 1 rfl) ?_
  refine va_get (D := D) (ci := 0) (v := .int (v 1)) (C := RX0) (T := TX0) (N := 14) hx hb hts hin_X0 hown hK hP 1 rfl rfl 1 (by decide) hf15 (fun _ h9 => h9) rfl dX0_firstOfLastFree_3 ?_
  refine lv_eqi hL ?_
  refine lv_iconst (v := 1) hx hb dX0_firstOfLastFree_6 (by decide) ?_
  refine lv_isub hx hb dX0_firstOfLastFree_7 ?_
  refine lv_eqi (nI_m1 hL0) ?_
  refine lv_istore_n (lv' := [(3, .int (nI (L - 1))), (2, .int (nI m0)), (0, .ref (a 1)), (1, .int (nI m0))]) hx hb dX0_firstOfLastFree_8 rfl hl (by decide) rfl (fun ls hl => ?_)
  refine lpW (nL := 4) (A := A) (D := D) (fun z : Nat × Nat => (wX cI a v r)) (fun z : Nat × Nat => [(3, .int (nI z.1)), (2, .int (nI z.2)), (0, .ref (a 1)), (1, .int (nI m0))]) (fun z : Nat × Nat => z.1 ≤ L - 1 ∧ 1 ≤ z.2 ∧ z.2 ≤ m0 ∧ ffF (okC (r 10) (v 2)) (L - 1) m0 = ffF (okC (r 10) (v 2)) z.1 z.2) (fun z : Nat × Nat => z.1) ((L - 1), m0) hP hD hS (lv_sub hl [0, 1, 2, 3] rfl) ⟨Nat.le_refl _, hm, Nat.le_refl _, rfl⟩ ?_
  rintro ⟨j, m2⟩ H locs ls hP hD hS hl hf ih
  have hP : va_P D vwCl (wX cI a v r) H := hP
  have hD : va_D A (wX cI a v r) := hD
  have hl : lv_has ls 4 [(3, .int (nI j)), (2, .int (nI m2)), (0, .ref (a 1)), (1, .int (nI m0))] := hl
  have hf : j ≤ L - 1 ∧ 1 ≤ m2 ∧ m2 ≤ m0 ∧ ffF (okC (r 10) (v 2)) (L - 1) m0 = ffF (okC (r 10) (v 2)) j m2 := hf
  obtain ⟨hj, hm2, hm3, hw⟩ := hf
  refine lv_iload_n hx hb dX0_firstOfLastFree_9 rfl (lv_at hl 0 rfl) ?_
  refine lv_if_le (tgt := 36) hx hb dX0_firstOfLastFree_10 (by decide) (fun c_10 => ?_) (fun c_10 => ?_)
  · skip
    have hj0 : j = 0 := by rcases Nat.eq_zero_or_pos j with q | q; exact q; exact absurd c_10 (nI_nle q (by omega))
    refine lv_iconst (v := (-1)) hx hb dX0_firstOfLastFree_36 (by decide) ?_
    exact k_iret C0 () hP hD hS (by rw [hw, hj0]; rfl) dX0_firstOfLastFree_37
  · skip
    have hl0 : 0 < j := by rcases Nat.eq_zero_or_pos j with q | q; exact absurd (by rw [q]; decide) c_10; exact q
    refine lv_aload_n hx hb dX0_firstOfLastFree_13 rfl (lv_at hl 2 rfl) ?_
    refine lv_iload_n hx hb dX0_firstOfLastFree_14 rfl (lv_at hl 0 rfl) ?_
    refine kcD (ans := (bI (¬ nI j = v 2 ∧ ¬ nI j = 0 ∧ (r 10) j = -1))) C0 hP hD hS (c_X0_mayBeCell l D cI a v r j (by omega)) (cwV 1 hts gX0_firstOfLastFree_X0_mayBeCell rfl rfl rfl (by decide +kernel) ⟨Nat.le_of_ble_eq_true rfl, Nat.le_of_ble_eq_true rfl⟩) 1 0 rfl rfl rfl hl.1 rfl (Nat.le_of_ble_eq_true rfl) dX0_firstOfLastFree_15 ⟨Nat.zero_le _, Nat.zero_le _⟩ (fun H locs hP hD hS => ?_)
    refine lv_if_eq (tgt := 30) hx hb dX0_firstOfLastFree_18 (by decide) (fun c_18 => ?_) (fun c_18 => ?_)
    · skip
      refine lv_iinc (v := (nI (j - 1))) (lv' := [(3, .int (nI (j - 1))), (2, .int (nI m2)), (0, .ref (a 1)), (1, .int (nI m0))]) hx hb dX0_firstOfLastFree_30 hl (k := 0) rfl (k_decp hl0) (by decide) rfl (fun ls hl => ?_)
      refine lv_goto (tgt := 9) hx hb dX0_firstOfLastFree_33 (by decide) ?_
      exact ih ((j - 1), m2) _ _ _ hP hD hS (lv_sub hl [0, 1, 2, 3] rfl) ⟨(show j - 1 ≤ L - 1 by omega), hm2, hm3, by rw [hw]; exact ff_n hl0 (fun q => bI_z.mp c_18 (of_decide_eq_true q))⟩ (show j - 1 < j by omega)
    · skip
      refine lv_iinc (v := (nI (m2 - 1))) (lv' := [(2, .int (nI (m2 - 1))), (3, .int (nI j)), (0, .ref (a 1)), (1, .int (nI m0))]) hx hb dX0_firstOfLastFree_21 hl (k := 1) rfl (k_decp (show 0 < m2 by omega)) (by decide) rfl (fun ls hl => ?_)
      refine lv_iload_n hx hb dX0_firstOfLastFree_24 rfl (lv_at hl 0 rfl) ?_
      refine lv_if_ne (tgt := 30) hx hb dX0_firstOfLastFree_25 (by decide) (fun c_25 => ?_) (fun c_25 => ?_)
      · skip
        refine lv_iinc (v := (nI (j - 1))) (lv' := [(3, .int (nI (j - 1))), (2, .int (nI (m2 - 1))), (0, .ref (a 1)), (1, .int (nI m0))]) hx hb dX0_firstOfLastFree_30 hl (k := 1) rfl (k_decp hl0) (by decide) rfl (fun ls hl => ?_)
        refine lv_goto (tgt := 9) hx hb dX0_firstOfLastFree_33 (by decide) ?_
        exact ih ((j - 1), (m2 - 1)) _ _ _ hP hD hS (lv_sub hl [0, 1, 2, 3] rfl) ⟨(show j - 1 ≤ L - 1 by omega), (show 1 ≤ m2 - 1 by have h9 : ¬ m2 - 1 = 0 := (fun q => c_25 (by rw [q]; rfl)); omega), (show m2 - 1 ≤ m0 by omega), by rw [hw]; exact ff_y hl0 (decide_eq_true (bI_nz.mp c_18)) (fun q => c_25 (by rw [q]; rfl))⟩ (show j - 1 < j by omega)
      · skip
        refine lv_iload_n hx hb dX0_firstOfLastFree_28 rfl (lv_at hl 1 rfl) ?_
        exact k_iret C0 () hP hD hS (by rw [hw]; exact (ff_1 hl0 (decide_eq_true (bI_nz.mp c_18)) (by have h9 : m2 - 1 = 0 := nI_inj (by omega) (by omega) c_25; omega)).symm) dX0_firstOfLastFree_29

set_option maxHeartbeats 1500000 in
set_option maxRecDepth 100000 in
theorem c_X0_ringsFrom (l : Launch) (D : va_G) (cI : ClassId) (a : Nat → Nat) (v : Nat → Int32) (r : Nat → Nat → Int32) (f0 L o1 : Nat) (dp : Nat → Nat) (hL : v 1 = nI L) (hL1 : L ≤ 30) (hf0 : f0 ≤ L) (hO : v 2 = nI o1) (ho1 : o1 < 30) (hdo : dp o1 ≤ 29) (hdp : ∀ j, j < 30 → r 10 j = -1 ∨ ∃ n i, r 10 j = nI n ∧ n < 120 ∧ r 2 n = nI i ∧ i < 30 ∧ dp i < dp j) : KD l D cI yX0_ringsFrom wsX0_ringsFrom ({ frames := 2, cells := 0, slots := 0, locals := 42 }) [.ref (a 1), .int (nI f0)] (wX cI a v r) (wX cI a v r) (bI (anB (fun q => okC (r 10) (v 2) q && wiF (r 10) (r 2) (nI q) 30 (nI o1)) f0 (L - f0) = true)) := by
  refine KI.of (cc := cX0_ringsFrom) (nL := 3) (ret := (some .boolean)) (by decide) rfl (Nat.le_of_ble_eq_true rfl) ?_
  intro pg9 en9 s m args below meth cd9 A ls C0 hP hD hS hl
  have hx := C0.1.1
  have hb := C0.1.2.1
  have hml := C0.1.2.2.1
  have hown : s.vm.findClass RX0 = some m.cls := C0.1.2.2.2.1
  have hts : ∀ w ∈ wsX0_ringsFrom, w.before args s = true := C0.1.2.2.2.2
  have hK := C0.2.2.2.1
  have hin_X0 : ∀ w ∈ wsX00, w ∈ wsX0_ringsFrom := fun w h => List.mem_cons_of_mem _ (List.mem_append_right _ h)
  have hf15 : (Cond.fieldLink RX0 15 "FormulaLists$Book" "lists" "I").before args s = true := hts _ (by decide +kernel)
  have hf18 : (Cond.fieldLink RX0 18 "FormulaLists$Book" "open" "I").before args s = true := hts _ (by decide +kernel)
  have hl : lv_has ls 3 [(0, .ref (a 1)), (1, .int (nI f0))] := hl
  have hP : va_P D vwCl (wX cI a v r) s.heap := hP
  refine lv_iload_n hx hb dX0_ringsFrom_0 rfl (lv_at hl 1 rfl) ?_
  refine lv_istore_n (lv' := [(2, .int (nI f0)), (0, .ref (a 1)), (1, .int (nI f0))]) hx hb dX0_ringsFrom_1 rfl hl (by decide) rfl (fun ls hl => ?_)
  refine lpW (nL := 3) (A := A) (D := D) (fun z : Nat => (wX cI a v r)) (fun z : Nat => [(2, .int (nI z)), (0, .ref (a 1)), (1, .int (nI f0))]) (fun z : Nat => f0 ≤ z ∧ z ≤ L ∧ anB (fun q => okC (r 10) (v 2) q && wiF (r 10) (r 2) (nI q) 30 (nI o1)) f0 (z - f0) = false) (fun z : Nat => L - z) f0 hP hD hS (lv_sub hl [0, 1, 2] rfl) ⟨Nat.le_refl _, hf0, by rw [Nat.sub_self]; rfl⟩ ?_
  intro j H locs ls hP hD hS hl hf ih
  have hP : va_P D vwCl (wX cI a v r) H := hP
  have hD : va_D A (wX cI a v r) := hD
  have hl : lv_has ls 3 [(2, .int (nI j)), (0, .ref (a 1)), (1, .int (nI f0))] := hl
  have hf : f0 ≤ j ∧ j ≤ L ∧ anB (fun q => okC (r 10) (v 2) q && wiF (r 10) (r 2) (nI q) 30 (nI o1)) f0 (j - f0) = false := hf
  obtain ⟨hj0, hj1, hw⟩ := hf
  refine lv_iload_n hx hb dX0_ringsFrom_2 rfl (lv_at hl 0 rfl) ?_
  refine lv_aload_n hx hb dX0_ringsFrom_3 rfl (lv_at hl 1 rfl) ?_
  refine va_get (D := D) (ci := 0) (v := .int (v 1)) (C := RX0) (T := TX0) (N := 14) hx hb hts hin_X0 hown hK hP 1 rfl rfl 1 (by decide) hf15 (fun _ h9 => h9) rfl dX0_ringsFrom_4 ?_
  refine lv_eqi hL ?_
  refine lv_icmp_ge (tgt := 38) hx hb dX0_ringsFrom_7 (by decide) (fun c_7 => ?_) (fun c_7 => ?_)
  · skip
    have hjL : j = L := by have := (nI_leI (by omega) (by omega)).mp c_7; omega
    refine lv_iconst (v := 0) hx hb dX0_ringsFrom_38 (by decide) ?_
    exact k_zret C0 () hP hD hS rfl (by rw [← hjL, hw]; rfl) dX0_ringsFrom_39
  · skip
    have hlt : j < L := Nat.not_le.mp (fun q => c_7 (nI_le q (by omega)))
    refine lv_aload_n hx hb dX0_ringsFrom_10 rfl (lv_at hl 1 rfl) ?_
    refine lv_iload_n hx hb dX0_ringsFrom_11 rfl (lv_at hl 0 rfl) ?_
    refine kcD (ans := (bI (¬ nI j = v 2 ∧ ¬ nI j = 0 ∧ (r 10) j = -1))) C0 hP hD hS (c_X0_mayBeCell l D cI a v r j (by omega)) (cwV 1 hts gX0_ringsFrom_X0_mayBeCell rfl rfl rfl (by decide +kernel) ⟨Nat.le_of_ble_eq_true rfl, Nat.le_of_ble_eq_true rfl⟩) 1 0 rfl rfl rfl hl.1 rfl (Nat.le_of_ble_eq_true rfl) dX0_ringsFrom_12 ⟨Nat.zero_le _, Nat.zero_le _⟩ (fun H locs hP hD hS => ?_)
    refine lv_if_eq (tgt := 32) hx hb dX0_ringsFrom_15 (by decide) (fun c_15 => ?_) (fun c_15 => ?_)
    · skip
      refine lv_iinc (v := (nI (j + 1))) (lv' := [(2, .int (nI (j + 1))), (0, .ref (a 1)), (1, .int (nI f0))]) hx hb dX0_ringsFrom_32 hl (k := 0) rfl (k_inc j) (by decide) rfl (fun ls hl => ?_)
      refine lv_goto (tgt := 2) hx hb dX0_ringsFrom_35 (by decide) ?_
      exact ih (j + 1) _ _ _ hP hD hS (lv_sub hl [0, 1, 2] rfl) ⟨(show f0 ≤ j + 1 by omega), hlt, by rw [show j + 1 - f0 = (j - f0) + 1 by omega, anB, hw, Bool.false_or, show f0 + (j - f0) = j by omega]; exact (by show (okC (r 10) (v 2) j && _) = false; rw [show okC (r 10) (v 2) j = false from decide_eq_false (bI_z.mp c_15), Bool.false_and])⟩ (show L - (j + 1) < L - j by omega)
    · skip
      refine lv_aload_n hx hb dX0_ringsFrom_18 rfl (lv_at hl 1 rfl) ?_
      refine lv_iload_n hx hb dX0_ringsFrom_19 rfl (lv_at hl 0 rfl) ?_
      refine lv_aload_n hx hb dX0_ringsFrom_20 rfl (lv_at hl 1 rfl) ?_
      refine va_get (D := D) (ci := 0) (v := .int (v 2)) (C := RX0) (T := TX0) (N := 14) hx hb hts hin_X0 hown hK hP 1 rfl rfl 2 (by decide) hf18 (fun _ h9 => h9) rfl dX0_ringsFrom_21 ?_
      refine lv_eqi hO ?_
      refine kcD (ans := (bI (wiF ((r 10)) (r 2) (nI j) 30 (nI o1) = true))) C0 hP hD hS (c_X0_wouldRing l D cI a v r o1 (nI j) dp ho1 hdo hdp) (cwV 2 hts gX0_ringsFrom_X0_wouldRing rfl rfl rfl (by decide +kernel) ⟨Nat.le_of_ble_eq_true rfl, Nat.le_of_ble_eq_true rfl⟩) 1 0 rfl rfl rfl hl.1 rfl (Nat.le_of_ble_eq_true rfl) dX0_ringsFrom_24 ⟨Nat.zero_le _, Nat.zero_le _⟩ (fun H locs hP hD hS => ?_)
      refine lv_if_eq (tgt := 32) hx hb dX0_ringsFrom_27 (by decide) (fun c_27 => ?_) (fun c_27 => ?_)
      · skip
        refine lv_iinc (v := (nI (j + 1))) (lv' := [(2, .int (nI (j + 1))), (0, .ref (a 1)), (1, .int (nI f0))]) hx hb dX0_ringsFrom_32 hl (k := 0) rfl (k_inc j) (by decide) rfl (fun ls hl => ?_)
        refine lv_goto (tgt := 2) hx hb dX0_ringsFrom_35 (by decide) ?_
        exact ih (j + 1) _ _ _ hP hD hS (lv_sub hl [0, 1, 2] rfl) ⟨(show f0 ≤ j + 1 by omega), hlt, by rw [show j + 1 - f0 = (j - f0) + 1 by omega, anB, hw, Bool.false_or, show f0 + (j - f0) = j by omega]; exact (by show (_ && wiF (r 10) (r 2) (nI j) 30 (nI o1)) = false; rw [eq_false_of_ne_true (bI_z.mp c_27), Bool.and_false])⟩ (show L - (j + 1) < L - j by omega)
      · skip
        refine lv_iconst (v := 1) hx hb dX0_ringsFrom_30 (by decide) ?_
        exact k_zret C0 () hP hD hS rfl (by rw [bI_1 (an_t (n := (j - f0) + 1) (by rw [anB, show f0 + (j - f0) = j by omega, Bool.or_eq_true]; exact Or.inr (by show (okC (r 10) (v 2) j && wiF (r 10) (r 2) (nI j) 30 (nI o1)) = true; rw [show okC (r 10) (v 2) j = true from decide_eq_true (bI_nz.mp c_15), bI_nz.mp c_27]; rfl)) _ (by omega))]) dX0_ringsFrom_31
