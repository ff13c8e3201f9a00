theorem mx_lt (a b : Int32) : (if a < b then b else a) = mx a b := by
  unfold mx
  by_cases h : a < b
  · rw [if_pos h, if_neg (fun q => by rw [i_lt] at h q; omega)]
  · rw [if_neg h]
    by_cases h2 : b < a
    · rw [if_pos h2]
    · rw [if_neg h2]
      exact i_eq.mpr (by rw [i_lt] at h h2; omega)
/-- how many of n from a on are so -/
def cnB (p : Nat → Bool) (a : Nat) : Nat → Nat
  | 0 => 0
  | n + 1 => cnB p a n + (if p (a + n) = true then 1 else 0)
/-- the holders behind the lists from a on, n of them -/
def hcH (h : Nat → Int32) (o m : Int32) (a n : Nat) : Nat → Int32 := fun j => if a ≤ j ∧ j < a + n ∧ okC h o j = true then m else h j
/-- the cells behind them -/
def hcC (p : Nat → Bool) (c : Nat → Int32) (k a : Nat) : Nat → Nat → Int32
  | 0 => c
  | n + 1 => if p (a + n) = true then upd (hcC p c k a n) (k + cnB p a n) (nI (a + n)) else hcC p c k a n
theorem hc_0 (h : Nat → Int32) (o m : Int32) (a : Nat) : hcH h o m a 0 = h := by
  funext j
  unfold hcH
  rw [if_neg (by omega)]
theorem hc_at {h : Nat → Int32} {o m : Int32} {a n j : Nat} (hj : a + n ≤ j) : hcH h o m a n j = h j := by
  unfold hcH
  rw [if_neg (by omega)]
theorem hc_y {h : Nat → Int32} {o m : Int32} {a n : Nat} (hy : okC h o (a + n) = true) : upd (hcH h o m a n) (a + n) m = hcH h o m a (n + 1) := by
  funext j
  unfold upd hcH
  by_cases e : j = a + n
  · rw [if_pos e, if_pos ⟨by omega, by omega, by rw [e]; exact hy⟩]
  · rw [if_neg e]
    by_cases c : a ≤ j ∧ j < a + n ∧ okC h o j = true
    · rw [if_pos c, if_pos ⟨c.1, by omega, c.2.2⟩]
    · rw [if_neg c, if_neg (fun q => c ⟨q.1, by omega, q.2.2⟩)]
theorem hc_n {h : Nat → Int32} {o m : Int32} {a n : Nat} (hy : ¬ okC h o (a + n) = true) : hcH h o m a n = hcH h o m a (n + 1) := by
  funext j
  unfold hcH
  by_cases c : a ≤ j ∧ j < a + n ∧ okC h o j = true
  · rw [if_pos c, if_pos ⟨c.1, by omega, c.2.2⟩]
  · rw [if_neg c, if_neg (fun q => c ⟨q.1, by have : ¬ j = a + n := (fun e => hy (e ▸ q.2.2)); omega, q.2.2⟩)]
theorem cn_le (p : Nat → Bool) (a : Nat) {n m : Nat} (h : n ≤ m) : cnB p a n ≤ cnB p a m := by
  induction m with
  | zero => rw [show n = 0 by omega]; exact Nat.le_refl _
  | succ m ih =>
    by_cases e : n = m + 1
    · rw [e]; exact Nat.le_refl _
    · have := ih (by omega)
      rw [cnB]; omega
theorem cn_y {p : Nat → Bool} {a n : Nat} (h : p (a + n) = true) : cnB p a (n + 1) = cnB p a n + 1 := by rw [cnB, if_pos h]
theorem cn_n {p : Nat → Bool} {a n : Nat} (h : ¬ p (a + n) = true) : cnB p a (n + 1) = cnB p a n := by rw [cnB, if_neg h]; rfl
theorem hC_y {p : Nat → Bool} {c : Nat → Int32} {k a n : Nat} (h : p (a + n) = true) : hcC p c k a (n + 1) = upd (hcC p c k a n) (k + cnB p a n) (nI (a + n)) := by rw [hcC, if_pos h]
theorem hC_n {p : Nat → Bool} {c : Nat → Int32} {k a n : Nat} (h : ¬ p (a + n) = true) : hcC p c k a (n + 1) = hcC p c k a n := by rw [hcC, if_neg h]
/-- spaces by kinds and style, in units -/
def spU (a b st : Int32) : Int32 := if (0 ≤ a ∧ a < 8) ∧ (0 ≤ b ∧ b < 8) then (if ltr a b ≤ 1 then ltr a b else if st ≤ 1 then ltr a b - 1 else 0) else 0
theorem spT_ok : ∀ i : Fin 8, ∀ k : Fin 8, spT.getD (8 * i.val + k.val) 0 = ltr (nI i.val) (nI k.val) := by decide +kernel
theorem spT_at {x y : Int32} (hx : 0 ≤ x ∧ x < 8) (hy : 0 ≤ y ∧ y < 8) : (x * 8 + y = nI (8 * x.toNatClampNeg + y.toNatClampNeg) ∧ 8 * x.toNatClampNeg + y.toNatClampNeg < 64) ∧ spT.getD (8 * x.toNatClampNeg + y.toNatClampNeg) 0 = ltr x y := by
  have h1 := ix_of (N := 8) (M := 8) (Int32.not_lt.mpr hx.1) hx.2 rfl (by omega) (by decide)
  have h2 := ix_of (N := 8) (M := 8) (Int32.not_lt.mpr hy.1) hy.2 rfl (by omega) (by decide)
  refine ⟨⟨?_, by omega⟩, ?_⟩
  · conv => lhs; rw [h1.1, h2.1]
    exact i_8p _ _
  · have h3 : spT.getD (8 * x.toNatClampNeg + y.toNatClampNeg) 0 = ltr (nI x.toNatClampNeg) (nI y.toNatClampNeg) := spT_ok ⟨_, h1.2⟩ ⟨_, h2.2⟩
    rw [h3, ← h1.1, ← h2.1]
theorem rc_lt {i k R C : Nat} (hi : i < R) (hk : k < C) : i * C + k < R * C := by
  have := Nat.mul_le_mul_right C (show i + 1 ≤ R from hi)
  rw [Nat.add_mul, Nat.one_mul] at this
  omega
/-- the greatest of n, and of 0 -/
def mrF (f : Nat → Int32) (g : Nat → Nat) : Nat → Int32
  | 0 => 0
  | k + 1 => mx (mrF f g k) (f (g k))
/-- what a place makes of the items, heights and depths -/
def pl19 (r : Nat → Nat → Int32) (x X Y : Int32) : Nat → Int32 := if x = -1 then r 19 else shF (r 19) X Y (r 16 x.toNatClampNeg).toNatClampNeg (r 17 x.toNatClampNeg).toNatClampNeg
def pl14 (r : Nat → Nat → Int32) (b : Nat) (x Y : Int32) : Nat → Int32 := if x = -1 then r 14 else upd (r 14) b (mx (Y + r 14 x.toNatClampNeg) (r 14 b))
def pl15 (r : Nat → Nat → Int32) (b : Nat) (x Y : Int32) : Nat → Int32 := if x = -1 then r 15 else upd (r 15) b (mx (r 15 x.toNatClampNeg - Y) (r 15 b))

set_option maxHeartbeats 1500000 in
set_option maxRecDepth 100000 in
theorem c_X0_holdCellsFrom (l : Launch) (D : va_G) (cI : ClassId) (a : Nat → Nat) (v : Nat → Int32) (r : Nat → Nat → Int32) (f0 L k0 : Nat) (m9 : Int32) (hL : v 1 = nI L) (hL1 : L ≤ 30) (hf0 : f0 ≤ L) (hk0 : v 3 = nI k0) (hkb : k0 + cnB (okC (r 10) (v 2)) f0 (L - f0) ≤ 30) : KDv l D cI yX0_holdCellsFrom wsX0_holdCellsFrom ({ frames := 2, cells := 0, slots := 0, locals := 42 }) [.ref (a 1), .int (nI f0), .int m9] (wX cI a v r) (wX cI a (vU v 3 (nI (k0 + cnB (okC (r 10) (v 2)) f0 (L - f0)))) (rU (rU r 10 (hcH (r 10) (v 2) m9 f0 (L - f0))) 11 (hcC (okC (r 10) (v 2)) (r 11) k0 f0 (L - f0)))) := by
  refine KV.of (cc := cX0_holdCellsFrom) (nL := 4) (ret := none) (by decide) rfl (Nat.le_of_ble_eq_true rfl) ?_
  intro pg9 en9 s m args below meth cd9 A ls C0 hP hD hS hl
  have hx := C0.1.1
  have hb := C0.1.2.1
  have hml := C0.1.2.2.1
  have hown : s.vm.findClass RX0 = some m.cls := C0.1.2.2.2.1
  have hts : ∀ w ∈ wsX0_holdCellsFrom, w.before args s = true := C0.1.2.2.2.2
  have hK := C0.2.2.2.1
  have hin_X0 : ∀ w ∈ wsX00, w ∈ wsX0_holdCellsFrom := fun w h => List.mem_cons_of_mem _ (List.mem_append_right _ h)
  have hf15 : (Cond.fieldLink RX0 15 "FormulaLists$Book" "lists" "I").before args s = true := hts _ (by decide +kernel)
  have hf52 : (Cond.fieldLink RX0 52 "FormulaLists$Book" "cellCount" "I").before args s = true := hts _ (by decide +kernel)
  have hf46 : (Cond.fieldLink RX0 46 "FormulaLists$Book" "holder" "[I").before args s = true := hts _ (by decide +kernel)
  have hf49 : (Cond.fieldLink RX0 49 "FormulaLists$Book" "cells" "[I").before args s = true := hts _ (by decide +kernel)
  have hl : lv_has ls 4 [(0, .ref (a 1)), (1, .int (nI f0)), (2, .int m9)] := hl
  have hP : va_P D vwCl (wX cI a v r) s.heap := hP
  refine lv_iload_n hx hb dX0_holdCellsFrom_0 rfl (lv_at hl 1 rfl) ?_
  refine lv_istore_n (lv' := [(3, .int (nI f0)), (0, .ref (a 1)), (1, .int (nI f0)), (2, .int m9)]) hx hb dX0_holdCellsFrom_1 rfl hl (by decide) rfl (fun ls hl => ?_)
  have hw0 : wX cI a v r = wX cI a (vU v 3 (nI (k0 + cnB (okC (r 10) (v 2)) f0 (f0 - f0)))) (rU (rU r 10 (hcH (r 10) (v 2) m9 f0 (f0 - f0))) 11 (hcC (okC (r 10) (v 2)) (r 11) k0 f0 (f0 - f0))) := by rw [Nat.sub_self, hc_0, show nI (k0 + cnB (okC (r 10) (v 2)) f0 0) = v 3 from hk0.symm]; rfl
  rw [hw0] at hP hD
  refine lpW (nL := 4) (A := A) (D := D) (fun z : Nat => (wX cI a (vU v 3 (nI (k0 + cnB (okC (r 10) (v 2)) f0 (z - f0)))) (rU (rU r 10 (hcH (r 10) (v 2) m9 f0 (z - f0))) 11 (hcC (okC (r 10) (v 2)) (r 11) k0 f0 (z - f0))))) (fun z : Nat => [(3, .int (nI z)), (0, .ref (a 1)), (1, .int (nI f0)), (2, .int m9)]) (fun z : Nat => f0 ≤ z ∧ z ≤ L) (fun z : Nat => L - z) f0 hP hD hS (lv_sub hl [0, 1, 2, 3] rfl) ⟨Nat.le_refl _, hf0⟩ ?_
  intro j H locs ls hP hD hS hl hf ih
  have hP : va_P D vwCl (wX cI a (vU v 3 (nI (k0 + cnB (okC (r 10) (v 2)) f0 (j - f0)))) (rU (rU r 10 (hcH (r 10) (v 2) m9 f0 (j - f0))) 11 (hcC (okC (r 10) (v 2)) (r 11) k0 f0 (j - f0)))) H := hP
  have hD : va_D A (wX cI a (vU v 3 (nI (k0 + cnB (okC (r 10) (v 2)) f0 (j - f0)))) (rU (rU r 10 (hcH (r 10) (v 2) m9 f0 (j - f0))) 11 (hcC (okC (r 10) (v 2)) (r 11) k0 f0 (j - f0)))) := hD
  have hl : lv_has ls 4 [(3, .int (nI j)), (0, .ref (a 1)), (1, .int (nI f0)), (2, .int m9)] := hl
  have hf : f0 ≤ j ∧ j ≤ L := hf
  obtain ⟨hj0, hj1⟩ := hf
  refine lv_iload_n hx hb dX0_holdCellsFrom_2 rfl (lv_at hl 0 rfl) ?_
  refine lv_aload_n hx hb dX0_holdCellsFrom_3 rfl (lv_at hl 1 rfl) ?_
  refine va_get (D := D) (ci := 0) (v := .int (v 1)) (C := RX0) (T := TX0) (N := 14) hx hb hts hin_X0 hown hK hP 1 rfl rfl 1 (by decide) hf15 (fun _ h9 => h9) rfl dX0_holdCellsFrom_4 ?_
  refine lv_eqi hL ?_
  refine lv_icmp_ge (tgt := 60) hx hb dX0_holdCellsFrom_7 (by decide) (fun c_7 => ?_) (fun c_7 => ?_)
  · skip
    have hjL : j = L := by have := (nI_leI (by omega) (by omega)).mp c_7; omega
    have q3 : (nI (k0 + cnB (okC (r 10) (v 2)) f0 (j - f0))) = (nI (k0 + cnB (okC (r 10) (v 2)) f0 (L - f0))) := (by rw [hjL])
    have q10 : (hcH (r 10) (v 2) m9 f0 (j - f0)) = (hcH (r 10) (v 2) m9 f0 (L - f0)) := (by rw [hjL])
    have q11 : (hcC (okC (r 10) (v 2)) (r 11) k0 f0 (j - f0)) = (hcC (okC (r 10) (v 2)) (r 11) k0 f0 (L - f0)) := (by rw [hjL])
    have hw : (wX cI a (vU v 3 (nI (k0 + cnB (okC (r 10) (v 2)) f0 (j - f0)))) (rU (rU r 10 (hcH (r 10) (v 2) m9 f0 (j - f0))) 11 (hcC (okC (r 10) (v 2)) (r 11) k0 f0 (j - f0)))) = (wX cI a (vU v 3 (nI (k0 + cnB (okC (r 10) (v 2)) f0 (L - f0)))) (rU (rU r 10 (hcH (r 10) (v 2) m9 f0 (L - f0))) 11 (hcC (okC (r 10) (v 2)) (r 11) k0 f0 (L - f0)))) := by rw [q3, q10, q11]
    have hP : va_P D vwCl (wX cI a (vU v 3 (nI (k0 + cnB (okC (r 10) (v 2)) f0 (L - f0)))) (rU (rU r 10 (hcH (r 10) (v 2) m9 f0 (L - f0))) 11 (hcC (okC (r 10) (v 2)) (r 11) k0 f0 (L - f0)))) H := hw ▸ hP
    have hD : va_D A (wX cI a (vU v 3 (nI (k0 + cnB (okC (r 10) (v 2)) f0 (L - f0)))) (rU (rU r 10 (hcH (r 10) (v 2) m9 f0 (L - f0))) 11 (hcC (okC (r 10) (v 2)) (r 11) k0 f0 (L - f0)))) := hw ▸ hD
    exact k_vret C0 () hP hD hS trivial dX0_holdCellsFrom_60
  · skip
    have hlt : j < L := Nat.not_le.mp (fun q => c_7 (nI_le q (by omega)))
    refine lv_aload_n hx hb dX0_holdCellsFrom_10 rfl (lv_at hl 1 rfl) ?_
    refine lv_iload_n hx hb dX0_holdCellsFrom_11 rfl (lv_at hl 0 rfl) ?_
    refine kcD (ans := (bI (¬ nI j = v 2 ∧ ¬ nI j = 0 ∧ (hcH (r 10) (v 2) m9 f0 (j - f0)) j = -1))) C0 hP hD hS (c_X0_mayBeCell l D cI a (vU v 3 (nI (k0 + cnB (okC (r 10) (v 2)) f0 (j - f0)))) (rU (rU r 10 (hcH (r 10) (v 2) m9 f0 (j - f0))) 11 (hcC (okC (r 10) (v 2)) (r 11) k0 f0 (j - f0))) j (by omega)) (cwV 1 hts gX0_holdCellsFrom_X0_mayBeCell rfl rfl rfl (by decide +kernel) ⟨Nat.le_of_ble_eq_true rfl, Nat.le_of_ble_eq_true rfl⟩) 1 0 rfl rfl rfl hl.1 rfl (Nat.le_of_ble_eq_true rfl) dX0_holdCellsFrom_12 ⟨Nat.zero_le _, Nat.zero_le _⟩ (fun H locs hP hD hS => ?_)
    refine lv_if_eq (tgt := 54) hx hb dX0_holdCellsFrom_15 (by decide) (fun c_15 => ?_) (fun c_15 => ?_)
    · skip
      refine lv_iinc (v := (nI (j + 1))) (lv' := [(3, .int (nI (j + 1))), (0, .ref (a 1)), (1, .int (nI f0)), (2, .int m9)]) hx hb dX0_holdCellsFrom_54 hl (k := 0) rfl (k_inc j) (by decide) rfl (fun ls hl => ?_)
      refine lv_goto (tgt := 2) hx hb dX0_holdCellsFrom_57 (by decide) ?_
      have hok : ¬ okC (r 10) (v 2) (f0 + (j - f0)) = true := by rw [show f0 + (j - f0) = j by omega]; exact (fun q => bI_z.mp c_15 (by rw [hc_at (by omega)]; exact of_decide_eq_true q))
      have q3 : (nI (k0 + cnB (okC (r 10) (v 2)) f0 (j - f0))) = nI (k0 + cnB (okC (r 10) (v 2)) f0 (j - f0 + 1)) := by rw [cn_n hok]
      have q10 : (hcH (r 10) (v 2) m9 f0 (j - f0)) = hcH (r 10) (v 2) m9 f0 (j - f0 + 1) := hc_n hok
      have q11 : (hcC (okC (r 10) (v 2)) (r 11) k0 f0 (j - f0)) = hcC (okC (r 10) (v 2)) (r 11) k0 f0 (j - f0 + 1) := by rw [hC_n hok]
      have hw : (wX cI a (vU v 3 (nI (k0 + cnB (okC (r 10) (v 2)) f0 (j - f0)))) (rU (rU r 10 (hcH (r 10) (v 2) m9 f0 (j - f0))) 11 (hcC (okC (r 10) (v 2)) (r 11) k0 f0 (j - f0)))) = (wX cI a (vU v 3 (nI (k0 + cnB (okC (r 10) (v 2)) f0 (j - f0 + 1)))) (rU (rU r 10 (hcH (r 10) (v 2) m9 f0 (j - f0 + 1))) 11 (hcC (okC (r 10) (v 2)) (r 11) k0 f0 (j - f0 + 1)))) := by rw [q3, q10, q11]
      rw [hw] at hP hD
      rw [show j - f0 + 1 = (j + 1) - f0 by omega] at hP hD
      exact ih (j + 1) _ _ _ hP hD hS (lv_sub hl [0, 1, 2, 3] rfl) ⟨by omega, hlt⟩ (show L - (j + 1) < L - j by omega)
    · skip
      have hokj : okC (r 10) (v 2) (f0 + (j - f0)) = true := by rw [show f0 + (j - f0) = j by omega]; exact decide_eq_true (by have h9 := bI_nz.mp c_15; rw [hc_at (by omega)] at h9; exact h9)
      have hkl : k0 + cnB (okC (r 10) (v 2)) f0 (j - f0) < 30 := by have h1 := cn_le (okC (r 10) (v 2)) f0 (show j - f0 + 1 ≤ L - f0 by omega); rw [cn_y hokj] at h1; omega
      refine lv_aload_n hx hb dX0_holdCellsFrom_18 rfl (lv_at hl 1 rfl) ?_
      refine va_get (D := D) (ci := 0) (v := .int (nI (k0 + cnB (okC (r 10) (v 2)) f0 (j - f0)))) (C := RX0) (T := TX0) (N := 14) hx hb hts hin_X0 hown hK hP 1 rfl rfl 13 (by decide) hf52 (fun _ h9 => h9) rfl dX0_holdCellsFrom_19 ?_
      refine lv_bipush (v := 30) hx hb dX0_holdCellsFrom_22 (by decide) ?_
      refine lv_icmp_ge (tgt := 54) hx hb dX0_holdCellsFrom_24 (by decide) (fun c_24 => absurd c_24 (nI_ge (b := 30) hkl (by decide))) (fun c_24 => ?_)
      refine lv_aload_n hx hb dX0_holdCellsFrom_27 rfl (lv_at hl 1 rfl) ?_
      refine va_get (D := D) (ci := 0) (v := .ref (a 10)) (C := RX0) (T := TX0) (N := 14) hx hb hts hin_X0 hown hK hP 1 rfl rfl 11 (by decide) hf46 (fun _ h9 => h9) rfl dX0_holdCellsFrom_28 ?_
      refine lv_iload_n hx hb dX0_holdCellsFrom_31 rfl (lv_at hl 0 rfl) ?_
      refine lv_iload_n hx hb dX0_holdCellsFrom_32 rfl (lv_at hl 3 rfl) ?_
      refine ra_st (f := (hcH (r 10) (v 2) m9 f0 (j - f0))) C0 hP hD hS 10 rfl j rfl (by omega) (by decide) dX0_holdCellsFrom_33 (fun H locs hP hD hS => ?_)
      have hset : ∀ (y3_ : Int32) (f10_ f11_ : Nat → Int32) (g_ : Nat → Int32), (wX cI a (vU v 3 y3_) (rU (rU r 10 f10_) 11 f11_)).set 10 (a 10, .inl (cI, 30, .inl g_)) = (wX cI a (vU v 3 y3_) (rU (rU r 10 g_) 11 f11_)) := fun _ _ _ _ => rfl
      rw [hset] at hP hD
      refine lv_aload_n hx hb dX0_holdCellsFrom_34 rfl (lv_at hl 1 rfl) ?_
      refine va_get (D := D) (ci := 0) (v := .ref (a 11)) (C := RX0) (T := TX0) (N := 14) hx hb hts hin_X0 hown hK hP 1 rfl rfl 12 (by decide) hf49 (fun _ h9 => h9) rfl dX0_holdCellsFrom_35 ?_
      refine lv_aload_n hx hb dX0_holdCellsFrom_38 rfl (lv_at hl 1 rfl) ?_
      refine va_get (D := D) (ci := 0) (v := .int (nI (k0 + cnB (okC (r 10) (v 2)) f0 (j - f0)))) (C := RX0) (T := TX0) (N := 14) hx hb hts hin_X0 hown hK hP 1 rfl rfl 13 (by decide) hf52 (fun _ h9 => h9) rfl dX0_holdCellsFrom_39 ?_
      refine lv_iload_n hx hb dX0_holdCellsFrom_42 rfl (lv_at hl 0 rfl) ?_
      refine ra_st (f := (hcC (okC (r 10) (v 2)) (r 11) k0 f0 (j - f0))) C0 hP hD hS 11 rfl (k0 + cnB (okC (r 10) (v 2)) f0 (j - f0)) rfl hkl (by decide) dX0_holdCellsFrom_43 (fun H locs hP hD hS => ?_)
      have hset : ∀ (y3_ : Int32) (f10_ f11_ : Nat → Int32) (g_ : Nat → Int32), (wX cI a (vU v 3 y3_) (rU (rU r 10 f10_) 11 f11_)).set 11 (a 11, .inl (cI, 30, .inl g_)) = (wX cI a (vU v 3 y3_) (rU (rU r 10 f10_) 11 g_)) := fun _ _ _ _ => rfl
      rw [hset] at hP hD
      refine lv_aload_n hx hb dX0_holdCellsFrom_44 rfl (lv_at hl 1 rfl) ?_
      refine lv_dup hx hb dX0_holdCellsFrom_45 rfl ?_
      refine va_get (D := D) (ci := 0) (v := .int (nI (k0 + cnB (okC (r 10) (v 2)) f0 (j - f0)))) (C := RX0) (T := TX0) (N := 14) hx hb hts hin_X0 hown hK hP 1 rfl rfl 13 (by decide) hf52 (fun _ h9 => h9) rfl dX0_holdCellsFrom_46 ?_
      refine lv_iconst (v := 1) hx hb dX0_holdCellsFrom_49 (by decide) ?_
      refine lv_iadd hx hb dX0_holdCellsFrom_50 ?_
      refine va_put (D := D) (ci := 0) (v := .int ((nI (k0 + cnB (okC (r 10) (v 2)) f0 (j - f0))) + 1)) (ty := .int) (C := RX0) (T := TX0) (N := 14) hx hb hts hin_X0 tyX0 tyX0_ok nmX0 hown hK hP hD hS 1 rfl rfl 13 (by decide) hf52 (fun _ h9 => h9) rfl (by decide +kernel) rfl rfl (Nat.le_of_ble_eq_true rfl) dX0_holdCellsFrom_51 (fun H locs hP hD hS => ?_)
      have hP : va_P D vwCl (wX cI a (vU v 3 ((nI (k0 + cnB (okC (r 10) (v 2)) f0 (j - f0))) + 1)) (rU (rU r 10 (upd (hcH (r 10) (v 2) m9 f0 (j - f0)) j m9)) 11 (upd (hcC (okC (r 10) (v 2)) (r 11) k0 f0 (j - f0)) (k0 + cnB (okC (r 10) (v 2)) f0 (j - f0)) (nI j)))) H := hP
      have hD : va_D A (wX cI a (vU v 3 ((nI (k0 + cnB (okC (r 10) (v 2)) f0 (j - f0))) + 1)) (rU (rU r 10 (upd (hcH (r 10) (v 2) m9 f0 (j - f0)) j m9)) 11 (upd (hcC (okC (r 10) (v 2)) (r 11) k0 f0 (j - f0)) (k0 + cnB (okC (r 10) (v 2)) f0 (j - f0)) (nI j)))) := hD
      refine lv_iinc (v := (nI (j + 1))) (lv' := [(3, .int (nI (j + 1))), (0, .ref (a 1)), (1, .int (nI f0)), (2, .int m9)]) hx hb dX0_holdCellsFrom_54 hl (k := 0) rfl (k_inc j) (by decide) rfl (fun ls hl => ?_)
      refine lv_goto (tgt := 2) hx hb dX0_holdCellsFrom_57 (by decide) ?_
      have hok : okC (r 10) (v 2) (f0 + (j - f0)) = true := by rw [show f0 + (j - f0) = j by omega]; exact decide_eq_true (by have h9 := bI_nz.mp c_15; rw [hc_at (by omega)] at h9; exact h9)
      have q3 : ((nI (k0 + cnB (okC (r 10) (v 2)) f0 (j - f0))) + 1) = nI (k0 + cnB (okC (r 10) (v 2)) f0 (j - f0 + 1)) := by rw [cn_y hok, ← Nat.add_assoc]; exact nI_1 _
      have q10 : (upd (hcH (r 10) (v 2) m9 f0 (j - f0)) j m9) = hcH (r 10) (v 2) m9 f0 (j - f0 + 1) := by rw [← hc_y hok, show f0 + (j - f0) = j by omega]
      have q11 : (upd (hcC (okC (r 10) (v 2)) (r 11) k0 f0 (j - f0)) (k0 + cnB (okC (r 10) (v 2)) f0 (j - f0)) (nI j)) = hcC (okC (r 10) (v 2)) (r 11) k0 f0 (j - f0 + 1) := by rw [hC_y hok, show f0 + (j - f0) = j by omega]
      have hw : (wX cI a (vU v 3 ((nI (k0 + cnB (okC (r 10) (v 2)) f0 (j - f0))) + 1)) (rU (rU r 10 (upd (hcH (r 10) (v 2) m9 f0 (j - f0)) j m9)) 11 (upd (hcC (okC (r 10) (v 2)) (r 11) k0 f0 (j - f0)) (k0 + cnB (okC (r 10) (v 2)) f0 (j - f0)) (nI j)))) = (wX cI a (vU v 3 (nI (k0 + cnB (okC (r 10) (v 2)) f0 (j - f0 + 1)))) (rU (rU r 10 (hcH (r 10) (v 2) m9 f0 (j - f0 + 1))) 11 (hcC (okC (r 10) (v 2)) (r 11) k0 f0 (j - f0 + 1)))) := by rw [q3, q10, q11]
      rw [hw] at hP hD
      rw [show j - f0 + 1 = (j + 1) - f0 by omega] at hP hD
      exact ih (j + 1) _ _ _ hP hD hS (lv_sub hl [0, 1, 2, 3] rfl) ⟨by omega, hlt⟩ (show L - (j + 1) < L - j by omega)
