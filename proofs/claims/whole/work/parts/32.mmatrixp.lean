theorem k_decp {n : Nat} (h : 0 < n) : nI n + Int32.ofInt (-1) = nI (n - 1) := by
  obtain ⟨j, rfl⟩ : ∃ j, n = j + 1 := ⟨n - 1, by omega⟩
  exact k_dec j
theorem nI_m1 {n : Nat} (h : 0 < n) : nI n - 1 = nI (n - 1) := by
  obtain ⟨j, rfl⟩ : ∃ j, n = j + 1 := ⟨n - 1, by omega⟩
  exact nI_pred j
theorem i_25 (n b : Nat) : (25 : Int32) * nI n + nI b = nI (25 * n + b) := by rw [i_m25, nI_add]
/-- the last free lists, but for the open one, from the last on: how many are wanting, and the row of cells -/
def mcS (r1 c0 : Nat → Int32) (N o L m : Nat) : Nat → Nat × (Nat → Int32)
  | 0 => (m, c0)
  | t + 1 => if 0 < (mcS r1 c0 N o L m t).1 ∧ r1 (L - 1 - t) = -1 ∧ ¬ L - 1 - t = o then ((mcS r1 c0 N o L m t).1 - 1, upd (mcS r1 c0 N o L m t).2 (25 * N + ((mcS r1 c0 N o L m t).1 - 1)) (nI (L - 1 - t))) else mcS r1 c0 N o L m t
section MC
variable {r1 c0 : Nat → Int32} {N o L m t : Nat}
theorem mc_no (h : ¬ (0 < (mcS r1 c0 N o L m t).1 ∧ r1 (L - 1 - t) = -1 ∧ ¬ L - 1 - t = o)) : mcS r1 c0 N o L m (t + 1) = mcS r1 c0 N o L m t := by rw [mcS, if_neg h]
theorem mc_ye (h : 0 < (mcS r1 c0 N o L m t).1 ∧ r1 (L - 1 - t) = -1 ∧ ¬ L - 1 - t = o) : mcS r1 c0 N o L m (t + 1) = ((mcS r1 c0 N o L m t).1 - 1, upd (mcS r1 c0 N o L m t).2 (25 * N + ((mcS r1 c0 N o L m t).1 - 1)) (nI (L - 1 - t))) := by rw [mcS, if_pos h]
theorem mc_le : ∀ t : Nat, (mcS r1 c0 N o L m t).1 ≤ m
  | 0 => Nat.le_refl _
  | t + 1 => by
    have ih := mc_le t
    by_cases h : 0 < (mcS r1 c0 N o L m t).1 ∧ r1 (L - 1 - t) = -1 ∧ ¬ L - 1 - t = o
    · rw [mc_ye h]
      show (mcS r1 c0 N o L m t).1 - 1 ≤ m
      omega
    · rw [mc_no h]; exact ih
theorem mc_stop (h : (mcS r1 c0 N o L m t).1 = 0) : ∀ k : Nat, mcS r1 c0 N o L m (t + k) = mcS r1 c0 N o L m t
  | 0 => rfl
  | k + 1 => by
    have ih := mc_stop h k
    rw [show t + (k + 1) = (t + k) + 1 by omega, mc_no (fun q => by have h1 := q.1; rw [ih, h] at h1; omega), ih]
theorem mc_rg : ∀ t : Nat, t ≤ L - 1 → ∀ k, (mcS r1 c0 N o L m t).1 ≤ k → k < m → ∃ l, (mcS r1 c0 N o L m t).2 (25 * N + k) = nI l ∧ 0 < l ∧ l < L ∧ r1 l = -1 ∧ ¬ l = o
  | 0 => fun _ k h1 h2 => absurd h1 (by show ¬ m ≤ k; omega)
  | t + 1 => fun ht k h1 h2 => by
    have ih := mc_rg t (by omega) k
    by_cases h : 0 < (mcS r1 c0 N o L m t).1 ∧ r1 (L - 1 - t) = -1 ∧ ¬ L - 1 - t = o
    · rw [mc_ye h] at h1 ⊢
      by_cases e : k = (mcS r1 c0 N o L m t).1 - 1
      · exact ⟨L - 1 - t, by show upd _ _ _ _ = _; rw [e, pk_us], by clear ih; omega, by clear ih; omega, h.2.1, h.2.2⟩
      · have h3 : (mcS r1 c0 N o L m t).1 - 1 ≤ k := h1
        have h4 : (mcS r1 c0 N o L m t).1 ≤ k := by clear ih; omega
        obtain ⟨l, q1, q2⟩ := ih h4 h2
        exact ⟨l, by show upd _ _ _ _ = _; rw [pk_un (fun q => e (Nat.add_left_cancel q)), q1], q2⟩
    · rw [mc_no h] at h1 ⊢
      exact ih h1 h2
end MC
/-- whether one of the first k cells would make a ring -/
def rgS (r1 lo F : Nat → Int32) (N : Nat) (o : Int32) : Nat → Bool
  | 0 => false
  | k + 1 => rgS r1 lo F N o k || wiF r1 lo (F (25 * N + k)) 30 o
/-- the first k cells become held -/
def hiS (r1 F : Nat → Int32) (N : Nat) (x : Int32) : Nat → Nat → Int32
  | 0 => r1
  | k + 1 => upd (hiS r1 F N x k) (F (25 * N + k)).toNatClampNeg x
theorem rg_t {r1 lo F : Nat → Int32} {N : Nat} {o : Int32} {k : Nat} (h : rgS r1 lo F N o k = true) : ∀ j, k ≤ j → rgS r1 lo F N o j = true := by
  intro j
  induction j with
  | zero => intro hk; rw [show k = 0 by omega] at h; exact h
  | succ j ih =>
    intro hk
    by_cases e : k = j + 1
    · rw [← e]; exact h
    · rw [rgS, ih (by omega), Bool.true_or]
def spMx (v : Nat → Int32) (r : Nat → Nat → Int32) (N o L : Nat) (x y : Int32) : SV :=
  if v 4 = 120 then (0, vU v 0 1, r) else if x < 1 ∨ 5 < x ∨ y < 1 ∨ 5 < y then (0, vU v 0 0, r)
  else if ¬ (mcS (r 1) (r 10) N o L (x.toNatClampNeg * y.toNatClampNeg) (L - 1)).1 = 0 ∨ rgS (r 1) (r 2) (mcS (r 1) (r 10) N o L (x.toNatClampNeg * y.toNatClampNeg) (L - 1)).2 N (v 2) (x.toNatClampNeg * y.toNatClampNeg) = true
    then (0, vU v 0 0, rU r 10 (mcS (r 1) (r 10) N o L (x.toNatClampNeg * y.toNatClampNeg) (L - 1)).2)
  else (v 4 + 1, vU (vU v 0 0) 4 (v 4 + 1), rU (adR (rU r 1 (hiS (r 1) (mcS (r 1) (r 10) N o L (x.toNatClampNeg * y.toNatClampNeg) (L - 1)).2 N (v 4) (x.toNatClampNeg * y.toNatClampNeg))) N (v 2) 3 7 x y 0) 10 (mcS (r 1) (r 10) N o L (x.toNatClampNeg * y.toNatClampNeg) (L - 1)).2)
theorem mat_ix {x : Int32} (h1 : ¬ x < 1) (h2 : ¬ 5 < x) : x = nI x.toNatClampNeg ∧ x.toNatClampNeg ≤ 5 ∧ 1 ≤ x.toNatClampNeg := by
  have h0 : ¬ x < 0 := by simp only [i_lt, tI0, tI1] at *; omega
  have h5 : x ≤ 5 := Int32.not_lt.mp h2
  obtain ⟨e, h⟩ := ix_up (M := 5) (n := 5) h0 h5 rfl
  refine ⟨e, h, ?_⟩
  rw [e, i_lt, nI_toInt (by omega), tI1] at h1
  omega

set_option maxHeartbeats 1500000 in
set_option maxRecDepth 100000 in
theorem c_X5_matrix (l : Launch) (D : va_G) (cI : ClassId) (a : Nat → Nat) (v : Nat → Int32) (r : Nat → Nat → Int32) (x y : Int32) (N L o1 : Nat) (dp : Nat → Nat) (hN : v 4 = nI N) (hN1 : N ≤ 120) (hL : v 1 = nI L) (hL1 : L ≤ 30) (hL0 : 1 ≤ L) (hO : v 2 = nI o1) (ho1 : o1 < 30) (hd30 : ∀ j, j < 30 → dp j ≤ 30) (hdp : ∀ j, j < 30 → r 1 j = -1 ∨ ∃ n i, r 1 j = nI n ∧ n < 120 ∧ r 2 n = nI i ∧ i < 30 ∧ dp i < dp j) : KI l D cI yX5_matrix wsX5_matrix ({ frames := 1, cells := 0, slots := 0, locals := 26 }) [.ref (a 0), .int x, .int y] (wM cI a v r) (fun u : (Nat → Int32) × (Nat → Nat → Int32) => wM cI a u.1 u.2) (fun q u => (q, u.1, u.2) = spMx v r N o1 L x y) := by
  refine KI.of (cc := cX5_matrix) (nL := 7) (ret := (some .int)) (by decide) rfl (Nat.le_of_ble_eq_true rfl) ?_
  intro pg9 en9 s m args below meth cd9 A ls C0 hP hD hS hl
  have hx := C0.1.1
  have hb := C0.1.2.1
  have hml := C0.1.2.2.1
  have hown : s.vm.findClass RX5 = some m.cls := C0.1.2.2.2.1
  have hts : ∀ w ∈ wsX5_matrix, w.before args s = true := C0.1.2.2.2.2
  have hK := C0.2.2.2.1
  have hin_X5 : ∀ w ∈ wsX50, w ∈ wsX5_matrix := fun w h => List.mem_cons_of_mem _ (List.mem_append_right _ h)
  have hf53 : (Cond.fieldLink RX5 53 "FormulaListsModel" "nodes" "I").before args s = true := hts _ (by decide +kernel)
  have hf50 : (Cond.fieldLink RX5 50 "FormulaListsModel" "thrown" "I").before args s = true := hts _ (by decide +kernel)
  have hf7 : (Cond.fieldLink RX5 7 "FormulaListsModel" "lists" "I").before args s = true := hts _ (by decide +kernel)
  have hf13 : (Cond.fieldLink RX5 13 "FormulaListsModel" "in" "[I").before args s = true := hts _ (by decide +kernel)
  have hf41 : (Cond.fieldLink RX5 41 "FormulaListsModel" "cells" "[I").before args s = true := hts _ (by decide +kernel)
  have hf56 : (Cond.fieldLink RX5 56 "FormulaListsModel" "open" "I").before args s = true := hts _ (by decide +kernel)
  have hl : lv_has ls 7 [(0, .ref (a 0)), (1, .int x), (2, .int y)] := hl
  have hP : va_P D vwCl (wM cI a v r) s.heap := hP
  refine lv_aload_n hx hb dX5_matrix_0 rfl (lv_at hl 0 rfl) ?_
  refine lv_aload_n hx hb dX5_matrix_1 rfl (lv_at hl 0 rfl) ?_
  refine va_get (D := D) (ci := 5) (v := .int (v 4)) (C := RX5) (T := TX5) (N := 25) hx hb hts hin_X5 hown hK hP 0 rfl rfl 4 (by decide) hf53 (fun _ h9 => h9) rfl dX5_matrix_2 ?_
  refine lv_bipush (v := 120) hx hb dX5_matrix_5 (by decide) ?_
  refine lv_icmp_ne (tgt := 14) hx hb dX5_matrix_7 (by decide) (fun c_7 => ?_) (fun c_7 => ?_)
  · skip
    refine lv_iconst (v := 0) hx hb dX5_matrix_14 (by decide) ?_
    refine va_put (D := D) (ci := 5) (v := .int 0) (ty := .int) (C := RX5) (T := TX5) (N := 25) hx hb hts hin_X5 tyX5 tyX5_ok nmX5 hown hK hP hD hS 0 rfl rfl 0 (by decide) hf50 (fun _ h9 => h9) rfl (by decide +kernel) rfl rfl (Nat.le_of_ble_eq_true rfl) dX5_matrix_15 (fun H locs hP hD hS => ?_)
    have hP : va_P D vwCl (wM cI a (vU v 0 0) r) H := hP
    have hD : va_D A (wM cI a (vU v 0 0) r) := hD
    refine lv_aload_n hx hb dX5_matrix_18 rfl (lv_at hl 0 rfl) ?_
    refine va_get (D := D) (ci := 5) (v := .int 0) (C := RX5) (T := TX5) (N := 25) hx hb hts hin_X5 hown hK hP 0 rfl rfl 0 (by decide) hf50 (fun _ h9 => h9) rfl dX5_matrix_19 ?_
    refine lv_if_gt (tgt := 45) hx hb dX5_matrix_22 (by decide) (fun c_22 => absurd c_22 (by decide)) (fun c_22 => ?_)
    refine lv_iload_n hx hb dX5_matrix_25 rfl (lv_at hl 1 rfl) ?_
    refine lv_iconst (v := 1) hx hb dX5_matrix_26 (by decide) ?_
    refine lv_icmp_lt (tgt := 45) hx hb dX5_matrix_27 (by decide) (fun c_27 => ?_) (fun c_27 => ?_)
    · skip
      refine lv_iconst (v := 0) hx hb dX5_matrix_45 (by decide) ?_
      exact k_iret C0 ((vU v 0 0), r) hP hD hS (by rw [spMx, if_neg c_7, if_pos (Or.inl c_27)] <;> rfl) dX5_matrix_46
    · skip
      refine lv_iload_n hx hb dX5_matrix_30 rfl (lv_at hl 1 rfl) ?_
      refine lv_iconst (v := 5) hx hb dX5_matrix_31 (by decide) ?_
      refine lv_icmp_gt (tgt := 45) hx hb dX5_matrix_32 (by decide) (fun c_32 => ?_) (fun c_32 => ?_)
      · skip
        refine lv_iconst (v := 0) hx hb dX5_matrix_45 (by decide) ?_
        exact k_iret C0 ((vU v 0 0), r) hP hD hS (by rw [spMx, if_neg c_7, if_pos (Or.inr (Or.inl c_32))] <;> rfl) dX5_matrix_46
      · skip
        refine lv_iload_n hx hb dX5_matrix_35 rfl (lv_at hl 2 rfl) ?_
        refine lv_iconst (v := 1) hx hb dX5_matrix_36 (by decide) ?_
        refine lv_icmp_lt (tgt := 45) hx hb dX5_matrix_37 (by decide) (fun c_37 => ?_) (fun c_37 => ?_)
        · skip
          refine lv_iconst (v := 0) hx hb dX5_matrix_45 (by decide) ?_
          exact k_iret C0 ((vU v 0 0), r) hP hD hS (by rw [spMx, if_neg c_7, if_pos (Or.inr (Or.inr (Or.inl c_37)))] <;> rfl) dX5_matrix_46
        · skip
          refine lv_iload_n hx hb dX5_matrix_40 rfl (lv_at hl 2 rfl) ?_
          refine lv_iconst (v := 5) hx hb dX5_matrix_41 (by decide) ?_
          refine lv_icmp_le (tgt := 47) hx hb dX5_matrix_42 (by decide) (fun c_42 => ?_) (fun c_42 => ?_)
          · skip
            have hxi := mat_ix c_27 c_32
            have hyi := mat_ix c_37 (Int32.not_lt.mpr c_42)
            have hmn : (x.toNatClampNeg * y.toNatClampNeg) ≤ 25 := Nat.mul_le_mul hxi.2.1 hyi.2.1
            have hNlt : N < 120 := by rcases Nat.lt_or_ge N 120 with q | q; exact q; exact absurd (show v 4 = 120 by rw [hN, show N = 120 by omega]; rfl) c_7
            refine lv_iload_n hx hb dX5_matrix_47 rfl (lv_at hl 1 rfl) ?_
            refine lv_iload_n hx hb dX5_matrix_48 rfl (lv_at hl 2 rfl) ?_
            refine lv_imul hx hb dX5_matrix_49 ?_
            refine lv_eqi (show x * y = nI (x.toNatClampNeg * y.toNatClampNeg) from (by rw [← pk_mul, ← hxi.1, ← hyi.1])) ?_
            refine lv_istore_n (lv' := [(3, .int (nI (x.toNatClampNeg * y.toNatClampNeg))), (0, .ref (a 0)), (1, .int x), (2, .int y)]) hx hb dX5_matrix_50 rfl hl (by decide) rfl (fun ls hl => ?_)
            refine lv_iload_n hx hb dX5_matrix_51 rfl (lv_at hl 0 rfl) ?_
            refine lv_istore (lv' := [(4, .int (nI (x.toNatClampNeg * y.toNatClampNeg))), (3, .int (nI (x.toNatClampNeg * y.toNatClampNeg))), (0, .ref (a 0)), (1, .int x), (2, .int y)]) hx hb dX5_matrix_52 hl (by decide) rfl (fun ls hl => ?_)
            refine lv_aload_n hx hb dX5_matrix_54 rfl (lv_at hl 2 rfl) ?_
            refine va_get (D := D) (ci := 5) (v := .int (v 1)) (C := RX5) (T := TX5) (N := 25) hx hb hts hin_X5 hown hK hP 0 rfl rfl 1 (by decide) hf7 (fun _ h9 => h9) rfl dX5_matrix_55 ?_
            refine lv_eqi hL ?_
            refine lv_iconst (v := 1) hx hb dX5_matrix_58 (by decide) ?_
            refine lv_isub hx hb dX5_matrix_59 ?_
            refine lv_eqi (nI_m1 hL0) ?_
            refine lv_istore (lv' := [(5, .int (nI (L - 1))), (4, .int (nI (x.toNatClampNeg * y.toNatClampNeg))), (3, .int (nI (x.toNatClampNeg * y.toNatClampNeg))), (0, .ref (a 0)), (1, .int x), (2, .int y)]) hx hb dX5_matrix_60 hl (by decide) rfl (fun ls hl => ?_)
            refine lpW (nL := 7) (A := A) (D := D) (fun z : Nat × Nat × (Nat → Int32) => (wM cI a (vU v 0 0) (rU r 10 z.2.2))) (fun z : Nat × Nat × (Nat → Int32) => [(5, .int (nI (L - 1 - z.1))), (4, .int (nI z.2.1)), (3, .int (nI (x.toNatClampNeg * y.toNatClampNeg))), (0, .ref (a 0)), (1, .int x), (2, .int y)]) (fun z : Nat × Nat × (Nat → Int32) => z.1 ≤ L - 1 ∧ mcS (r 1) (r 10) N o1 L (x.toNatClampNeg * y.toNatClampNeg) z.1 = (z.2.1, z.2.2)) (fun z : Nat × Nat × (Nat → Int32) => L - 1 - z.1) (0, (x.toNatClampNeg * y.toNatClampNeg), (r 10)) hP hD hS (lv_sub hl [0, 1, 2, 3, 4, 5] rfl) ⟨Nat.zero_le _, rfl⟩ ?_
            rintro ⟨t, qq, F1⟩ H locs ls hP hD hS hl hf ih
            have hP : va_P D vwCl (wM cI a (vU v 0 0) (rU r 10 F1)) H := hP
            have hD : va_D A (wM cI a (vU v 0 0) (rU r 10 F1)) := hD
            have hl : lv_has ls 7 [(5, .int (nI (L - 1 - t))), (4, .int (nI qq)), (3, .int (nI (x.toNatClampNeg * y.toNatClampNeg))), (0, .ref (a 0)), (1, .int x), (2, .int y)] := hl
            have hf : t ≤ L - 1 ∧ mcS (r 1) (r 10) N o1 L (x.toNatClampNeg * y.toNatClampNeg) t = (qq, F1) := hf
            obtain ⟨ht1, hqq⟩ := hf
            have hqm : qq ≤ (x.toNatClampNeg * y.toNatClampNeg) := by have h := mc_le (r1 := r 1) (c0 := r 10) (N := N) (o := o1) (L := L) (m := (x.toNatClampNeg * y.toNatClampNeg)) t; rw [hqq] at h; exact h
            refine lv_iload hx hb dX5_matrix_62 (lv_at hl 0 rfl) ?_
            refine lv_if_le (tgt := 116) hx hb dX5_matrix_64 (by decide) (fun c_64 => ?_) (fun c_64 => ?_)
            · skip
              have hfin : mcS (r 1) (r 10) N o1 L (x.toNatClampNeg * y.toNatClampNeg) (L - 1) = (qq, F1) := by have e : L - 1 - t = 0 := (by rcases Nat.eq_zero_or_pos (L - 1 - t) with q | q; exact q; exact absurd c_64 (nI_nle q (by omega))); rw [show L - 1 = t by omega]; exact hqq
              refine lv_iload hx hb dX5_matrix_116 (lv_at hl 1 rfl) ?_
              refine lv_if_le (tgt := 123) hx hb dX5_matrix_118 (by decide) (fun c_118 => ?_) (fun c_118 => ?_)
              · skip
                have hm0 : qq = 0 := by rcases Nat.eq_zero_or_pos qq with q | q; exact q; exact absurd c_118 (nI_nle q (by omega))
                have hrgA := mc_rg (r1 := r 1) (c0 := r 10) (N := N) (o := o1) (L := L) (m := (x.toNatClampNeg * y.toNatClampNeg)) (L - 1) (Nat.le_refl _)
                rw [hfin] at hrgA
                refine lv_iconst (v := 0) hx hb dX5_matrix_123 (by decide) ?_
                refine lv_istore (lv' := [(5, .int 0), (4, .int (nI qq)), (3, .int (nI (x.toNatClampNeg * y.toNatClampNeg))), (0, .ref (a 0)), (1, .int x), (2, .int y)]) hx hb dX5_matrix_124 hl (by decide) rfl (fun ls hl => ?_)
                refine lpW (nL := 7) (A := A) (D := D) (fun z : Nat => (wM cI a (vU v 0 0) (rU r 10 F1))) (fun z : Nat => [(5, .int (nI z)), (3, .int (nI (x.toNatClampNeg * y.toNatClampNeg))), (0, .ref (a 0)), (1, .int x), (2, .int y)]) (fun z : Nat => z ≤ (x.toNatClampNeg * y.toNatClampNeg) ∧ rgS (r 1) (r 2) F1 N (nI o1) z = false) (fun z : Nat => (x.toNatClampNeg * y.toNatClampNeg) - z) 0 hP hD hS (lv_sub hl [0, 2, 3, 4, 5] rfl) ⟨Nat.zero_le _, rfl⟩ ?_
                intro k2 H locs ls hP hD hS hl hf ih
                have hP : va_P D vwCl (wM cI a (vU v 0 0) (rU r 10 F1)) H := hP
                have hD : va_D A (wM cI a (vU v 0 0) (rU r 10 F1)) := hD
                have hl : lv_has ls 7 [(5, .int (nI k2)), (3, .int (nI (x.toNatClampNeg * y.toNatClampNeg))), (0, .ref (a 0)), (1, .int x), (2, .int y)] := hl
                have hf : k2 ≤ (x.toNatClampNeg * y.toNatClampNeg) ∧ rgS (r 1) (r 2) F1 N (nI o1) k2 = false := hf
                obtain ⟨hk2, hrg⟩ := hf
                refine lv_iload hx hb dX5_matrix_126 (lv_at hl 0 rfl) ?_
                refine lv_iload_n hx hb dX5_matrix_128 rfl (lv_at hl 1 rfl) ?_
                refine lv_icmp_ge (tgt := 166) hx hb dX5_matrix_129 (by decide) (fun c_129 => ?_) (fun c_129 => ?_)
                · skip
                  have hk2e : k2 = (x.toNatClampNeg * y.toNatClampNeg) := by have := (nI_leI (by omega) (by omega)).mp c_129; omega
                  have hrgN : rgS (r 1) (r 2) F1 N (nI o1) (x.toNatClampNeg * y.toNatClampNeg) = false := hk2e ▸ hrg
                  refine lv_aload_n hx hb dX5_matrix_166 rfl (lv_at hl 2 rfl) ?_
                  refine lv_iconst (v := 3) hx hb dX5_matrix_167 (by decide) ?_
                  refine lv_bipush (v := 7) hx hb dX5_matrix_168 (by decide) ?_
                  refine lv_iload_n hx hb dX5_matrix_170 rfl (lv_at hl 3 rfl) ?_
                  refine lv_iload_n hx hb dX5_matrix_171 rfl (lv_at hl 4 rfl) ?_
                  refine lv_iconst (v := 0) hx hb dX5_matrix_172 (by decide) ?_
                  refine kcD (ans := (v 4)) C0 hP hD hS (c_X5_add l D cI a (vU v 0 0) (rU r 10 F1) 3 7 x y 0 N hN hNlt) (cwV 5 hts gX5_matrix_X5_add rfl rfl rfl (by decide +kernel) ⟨Nat.le_of_ble_eq_true rfl, Nat.le_of_ble_eq_true rfl⟩) 0 5 rfl rfl rfl hl.1 rfl (Nat.le_of_ble_eq_true rfl) dX5_matrix_173 ⟨Nat.zero_le _, Nat.zero_le _⟩ (fun H locs hP hD hS => ?_)
                  have hP : va_P D vwCl (wM cI a (vU (vU v 0 0) 4 ((v 4) + 1)) (rU (rU (rU (rU (rU (rU (rU (rU (rU r 2 (upd (r 2) N (v 2))) 3 (upd (r 3) N 3)) 4 (upd (r 4) N 7)) 5 (upd (r 5) N x)) 6 (upd (r 6) N y)) 7 (upd (r 7) N 0)) 8 (upd (r 8) N (-1))) 9 (upd (r 9) N (-1))) 10 F1)) H := hP
                  have hD : va_D A (wM cI a (vU (vU v 0 0) 4 ((v 4) + 1)) (rU (rU (rU (rU (rU (rU (rU (rU (rU r 2 (upd (r 2) N (v 2))) 3 (upd (r 3) N 3)) 4 (upd (r 4) N 7)) 5 (upd (r 5) N x)) 6 (upd (r 6) N y)) 7 (upd (r 7) N 0)) 8 (upd (r 8) N (-1))) 9 (upd (r 9) N (-1))) 10 F1)) := hD
                  refine lv_istore (lv' := [(5, .int (v 4)), (3, .int (nI (x.toNatClampNeg * y.toNatClampNeg))), (0, .ref (a 0)), (1, .int x), (2, .int y)]) hx hb dX5_matrix_176 hl (by decide) rfl (fun ls hl => ?_)
                  refine lv_iconst (v := 0) hx hb dX5_matrix_178 (by decide) ?_
                  refine lv_istore (lv' := [(6, .int 0), (5, .int (v 4)), (3, .int (nI (x.toNatClampNeg * y.toNatClampNeg))), (0, .ref (a 0)), (1, .int x), (2, .int y)]) hx hb dX5_matrix_179 hl (by decide) rfl (fun ls hl => ?_)
                  refine lpW (nL := 7) (A := A) (D := D) (fun z : Nat => (wM cI a (vU (vU v 0 0) 4 ((v 4) + 1)) (rU (rU (rU (rU (rU (rU (rU (rU (rU (rU r 1 (hiS (r 1) F1 N (v 4) z)) 2 (upd (r 2) N (v 2))) 3 (upd (r 3) N 3)) 4 (upd (r 4) N 7)) 5 (upd (r 5) N x)) 6 (upd (r 6) N y)) 7 (upd (r 7) N 0)) 8 (upd (r 8) N (-1))) 9 (upd (r 9) N (-1))) 10 F1))) (fun z : Nat => [(6, .int (nI z)), (5, .int (v 4)), (3, .int (nI (x.toNatClampNeg * y.toNatClampNeg))), (0, .ref (a 0)), (1, .int x), (2, .int y)]) (fun z : Nat => z ≤ (x.toNatClampNeg * y.toNatClampNeg)) (fun z : Nat => (x.toNatClampNeg * y.toNatClampNeg) - z) 0 hP hD hS (lv_sub hl [0, 1, 2, 3, 4, 5] rfl) (Nat.zero_le _) ?_
                  intro k3 H locs ls hP hD hS hl hf ih
                  have hP : va_P D vwCl (wM cI a (vU (vU v 0 0) 4 ((v 4) + 1)) (rU (rU (rU (rU (rU (rU (rU (rU (rU (rU r 1 (hiS (r 1) F1 N (v 4) k3)) 2 (upd (r 2) N (v 2))) 3 (upd (r 3) N 3)) 4 (upd (r 4) N 7)) 5 (upd (r 5) N x)) 6 (upd (r 6) N y)) 7 (upd (r 7) N 0)) 8 (upd (r 8) N (-1))) 9 (upd (r 9) N (-1))) 10 F1)) H := hP
                  have hD : va_D A (wM cI a (vU (vU v 0 0) 4 ((v 4) + 1)) (rU (rU (rU (rU (rU (rU (rU (rU (rU (rU r 1 (hiS (r 1) F1 N (v 4) k3)) 2 (upd (r 2) N (v 2))) 3 (upd (r 3) N 3)) 4 (upd (r 4) N 7)) 5 (upd (r 5) N x)) 6 (upd (r 6) N y)) 7 (upd (r 7) N 0)) 8 (upd (r 8) N (-1))) 9 (upd (r 9) N (-1))) 10 F1)) := hD
                  have hl : lv_has ls 7 [(6, .int (nI k3)), (5, .int (v 4)), (3, .int (nI (x.toNatClampNeg * y.toNatClampNeg))), (0, .ref (a 0)), (1, .int x), (2, .int y)] := hl
                  have hf : k3 ≤ (x.toNatClampNeg * y.toNatClampNeg) := hf
                  have hk3 := hf
                  refine lv_iload hx hb dX5_matrix_181 (lv_at hl 0 rfl) ?_
                  refine lv_iload_n hx hb dX5_matrix_183 rfl (lv_at hl 2 rfl) ?_
                  refine lv_icmp_ge (tgt := 213) hx hb dX5_matrix_184 (by decide) (fun c_184 => ?_) (fun c_184 => ?_)
                  · skip
                    have hk3e : k3 = (x.toNatClampNeg * y.toNatClampNeg) := by have := (nI_leI (by omega) (by omega)).mp c_184; omega
                    refine lv_iload hx hb dX5_matrix_213 (lv_at hl 1 rfl) ?_
                    refine lv_iconst (v := 1) hx hb dX5_matrix_215 (by decide) ?_
                    refine lv_iadd hx hb dX5_matrix_216 ?_
                    exact k_iret C0 ((vU (vU v 0 0) 4 ((v 4) + 1)), (rU (rU (rU (rU (rU (rU (rU (rU (rU (rU r 1 (hiS (r 1) F1 N (v 4) k3)) 2 (upd (r 2) N (v 2))) 3 (upd (r 3) N 3)) 4 (upd (r 4) N 7)) 5 (upd (r 5) N x)) 6 (upd (r 6) N y)) 7 (upd (r 7) N 0)) 8 (upd (r 8) N (-1))) 9 (upd (r 9) N (-1))) 10 F1)) hP hD hS (by rw [spMx, if_neg c_7, if_neg (fun q => q.elim c_27 (fun q => q.elim c_32 (fun q => q.elim c_37 (fun q => Int32.not_le.mpr q c_42)))), hfin, if_neg (fun q => q.elim (fun h => h hm0) (fun h => by rw [hO] at h; rw [hrgN] at h; exact absurd h (by decide))), ← hk3e] <;> rfl) dX5_matrix_217
                  · skip
                    have hlt3 : k3 < (x.toNatClampNeg * y.toNatClampNeg) := Nat.not_le.mp (fun q => c_184 (nI_le q (by omega)))
                    obtain ⟨lj, ej, hj0, hjL, -, -⟩ := hrgA k3 (by show qq ≤ k3; omega) hlt3
                    have ej : F1 (25 * N + k3) = nI lj := ej
                    refine lv_aload_n hx hb dX5_matrix_187 rfl (lv_at hl 3 rfl) ?_
                    refine va_get (D := D) (ci := 5) (v := .ref (a 1)) (C := RX5) (T := TX5) (N := 25) hx hb hts hin_X5 hown hK hP 0 rfl rfl 3 (by decide) hf13 (fun _ h9 => h9) rfl dX5_matrix_188 ?_
                    refine lv_aload_n hx hb dX5_matrix_191 rfl (lv_at hl 3 rfl) ?_
                    refine va_get (D := D) (ci := 5) (v := .ref (a 10)) (C := RX5) (T := TX5) (N := 25) hx hb hts hin_X5 hown hK hP 0 rfl rfl 13 (by decide) hf41 (fun _ h9 => h9) rfl dX5_matrix_192 ?_
                    refine lv_bipush (v := 25) hx hb dX5_matrix_195 (by decide) ?_
                    refine lv_iload hx hb dX5_matrix_197 (lv_at hl 1 rfl) ?_
                    refine lv_imul hx hb dX5_matrix_199 ?_
                    refine lv_iload hx hb dX5_matrix_200 (lv_at hl 0 rfl) ?_
                    refine lv_iadd hx hb dX5_matrix_202 ?_
                    refine ra_ld (f := F1) C0 hP 10 rfl (25 * N + k3) (by rw [hN]; exact i_25 _ _) (by omega) (by decide) dX5_matrix_203 ?_
                    refine lv_iload hx hb dX5_matrix_204 (lv_at hl 1 rfl) ?_
                    refine ra_st (f := (hiS (r 1) F1 N (v 4) k3)) C0 hP hD hS 1 rfl lj ej (by omega) (by decide) dX5_matrix_206 (fun H locs hP hD hS => ?_)
                    have hset : ∀ (y0_ y4_ : Int32) (f1_ f2_ f3_ f4_ f5_ f6_ f7_ f8_ f9_ f10_ : Nat → Int32) (g_ : Nat → Int32), (wM cI a (vU (vU v 0 y0_) 4 y4_) (rU (rU (rU (rU (rU (rU (rU (rU (rU (rU r 1 f1_) 2 f2_) 3 f3_) 4 f4_) 5 f5_) 6 f6_) 7 f7_) 8 f8_) 9 f9_) 10 f10_)).set 1 (a 1, .inl (cI, 30, .inl g_)) = (wM cI a (vU (vU v 0 y0_) 4 y4_) (rU (rU (rU (rU (rU (rU (rU (rU (rU (rU r 1 g_) 2 f2_) 3 f3_) 4 f4_) 5 f5_) 6 f6_) 7 f7_) 8 f8_) 9 f9_) 10 f10_)) := fun _ _ _ _ _ _ _ _ _ _ _ _ _ => rfl
                    rw [hset] at hP hD
                    refine lv_iinc (v := (nI (k3 + 1))) (lv' := [(6, .int (nI (k3 + 1))), (5, .int (v 4)), (3, .int (nI (x.toNatClampNeg * y.toNatClampNeg))), (0, .ref (a 0)), (1, .int x), (2, .int y)]) hx hb dX5_matrix_207 hl (k := 0) rfl (k_inc k3) (by decide) rfl (fun ls hl => ?_)
                    refine lv_goto (tgt := 181) hx hb dX5_matrix_210 (by decide) ?_
                    have hw : (wM cI a (vU (vU v 0 0) 4 ((v 4) + 1)) (rU (rU (rU (rU (rU (rU (rU (rU (rU (rU r 1 (upd (hiS (r 1) F1 N (v 4) k3) lj (v 4))) 2 (upd (r 2) N (v 2))) 3 (upd (r 3) N 3)) 4 (upd (r 4) N 7)) 5 (upd (r 5) N x)) 6 (upd (r 6) N y)) 7 (upd (r 7) N 0)) 8 (upd (r 8) N (-1))) 9 (upd (r 9) N (-1))) 10 F1)) = (wM cI a (vU (vU v 0 0) 4 ((v 4) + 1)) (rU (rU (rU (rU (rU (rU (rU (rU (rU (rU r 1 (hiS (r 1) F1 N (v 4) (k3 + 1))) 2 (upd (r 2) N (v 2))) 3 (upd (r 3) N 3)) 4 (upd (r 4) N 7)) 5 (upd (r 5) N x)) 6 (upd (r 6) N y)) 7 (upd (r 7) N 0)) 8 (upd (r 8) N (-1))) 9 (upd (r 9) N (-1))) 10 F1)) := by rw [hiS, ej, nI_clamp (by omega)]
                    have hP : va_P D vwCl (wM cI a (vU (vU v 0 0) 4 ((v 4) + 1)) (rU (rU (rU (rU (rU (rU (rU (rU (rU (rU r 1 (hiS (r 1) F1 N (v 4) (k3 + 1))) 2 (upd (r 2) N (v 2))) 3 (upd (r 3) N 3)) 4 (upd (r 4) N 7)) 5 (upd (r 5) N x)) 6 (upd (r 6) N y)) 7 (upd (r 7) N 0)) 8 (upd (r 8) N (-1))) 9 (upd (r 9) N (-1))) 10 F1)) _ := hw ▸ hP
                    have hD : va_D A (wM cI a (vU (vU v 0 0) 4 ((v 4) + 1)) (rU (rU (rU (rU (rU (rU (rU (rU (rU (rU r 1 (hiS (r 1) F1 N (v 4) (k3 + 1))) 2 (upd (r 2) N (v 2))) 3 (upd (r 3) N 3)) 4 (upd (r 4) N 7)) 5 (upd (r 5) N x)) 6 (upd (r 6) N y)) 7 (upd (r 7) N 0)) 8 (upd (r 8) N (-1))) 9 (upd (r 9) N (-1))) 10 F1)) := hw ▸ hD
                    exact ih (k3 + 1) _ _ _ hP hD hS (lv_sub hl [0, 1, 2, 3, 4, 5] rfl) hlt3 (show (x.toNatClampNeg * y.toNatClampNeg) - (k3 + 1) < (x.toNatClampNeg * y.toNatClampNeg) - k3 by omega)
                · skip
                  have hlt2 : k2 < (x.toNatClampNeg * y.toNatClampNeg) := Nat.not_le.mp (fun q => c_129 (nI_le q (by omega)))
                  refine lv_aload_n hx hb dX5_matrix_132 rfl (lv_at hl 2 rfl) ?_
                  refine lv_aload_n hx hb dX5_matrix_133 rfl (lv_at hl 2 rfl) ?_
                  refine va_get (D := D) (ci := 5) (v := .int (v 2)) (C := RX5) (T := TX5) (N := 25) hx hb hts hin_X5 hown hK hP 0 rfl rfl 2 (by decide) hf56 (fun _ h9 => h9) rfl dX5_matrix_134 ?_
                  refine lv_eqi hO ?_
                  refine lv_aload_n hx hb dX5_matrix_137 rfl (lv_at hl 2 rfl) ?_
                  refine va_get (D := D) (ci := 5) (v := .ref (a 10)) (C := RX5) (T := TX5) (N := 25) hx hb hts hin_X5 hown hK hP 0 rfl rfl 13 (by decide) hf41 (fun _ h9 => h9) rfl dX5_matrix_138 ?_
                  refine lv_bipush (v := 25) hx hb dX5_matrix_141 (by decide) ?_
                  refine lv_aload_n hx hb dX5_matrix_143 rfl (lv_at hl 2 rfl) ?_
                  refine va_get (D := D) (ci := 5) (v := .int (v 4)) (C := RX5) (T := TX5) (N := 25) hx hb hts hin_X5 hown hK hP 0 rfl rfl 4 (by decide) hf53 (fun _ h9 => h9) rfl dX5_matrix_144 ?_
                  refine lv_imul hx hb dX5_matrix_147 ?_
                  refine lv_iload hx hb dX5_matrix_148 (lv_at hl 0 rfl) ?_
                  refine lv_iadd hx hb dX5_matrix_150 ?_
                  refine ra_ld (f := F1) C0 hP 10 rfl (25 * N + k2) (by rw [hN]; exact i_25 _ _) (by omega) (by decide) dX5_matrix_151 ?_
                  refine kcD (ans := (bI (wiF (r 1) (r 2) (F1 (25 * N + k2)) 30 (nI o1) = true))) C0 hP hD hS (c_X5_isWithin l D cI a (vU v 0 0) (rU r 10 F1) o1 (F1 (25 * N + k2)) dp ho1 (hd30 _ ho1) hdp) (cwV 2 hts gX5_matrix_X5_isWithin rfl rfl rfl (by decide +kernel) ⟨Nat.le_of_ble_eq_true rfl, Nat.le_of_ble_eq_true rfl⟩) 0 5 rfl rfl rfl hl.1 rfl (Nat.le_of_ble_eq_true rfl) dX5_matrix_152 ⟨Nat.zero_le _, Nat.zero_le _⟩ (fun H locs hP hD hS => ?_)
                  refine lv_if_eq (tgt := 160) hx hb dX5_matrix_155 (by decide) (fun c_155 => ?_) (fun c_155 => ?_)
                  · skip
                    refine lv_iinc (v := (nI (k2 + 1))) (lv' := [(5, .int (nI (k2 + 1))), (3, .int (nI (x.toNatClampNeg * y.toNatClampNeg))), (0, .ref (a 0)), (1, .int x), (2, .int y)]) hx hb dX5_matrix_160 hl (k := 0) rfl (k_inc k2) (by decide) rfl (fun ls hl => ?_)
                    refine lv_goto (tgt := 126) hx hb dX5_matrix_163 (by decide) ?_
                    exact ih (k2 + 1) _ _ _ hP hD hS (lv_sub hl [0, 1, 2, 3, 4] rfl) ⟨hlt2, by rw [rgS, hrg, Bool.false_or]; exact eq_false_of_ne_true (bI_z.mp c_155)⟩ (show (x.toNatClampNeg * y.toNatClampNeg) - (k2 + 1) < (x.toNatClampNeg * y.toNatClampNeg) - k2 by omega)
                  · skip
                    refine lv_iconst (v := 0) hx hb dX5_matrix_158 (by decide) ?_
                    exact k_iret C0 ((vU v 0 0), (rU r 10 F1)) hP hD hS (by rw [spMx, if_neg c_7, if_neg (fun q => q.elim c_27 (fun q => q.elim c_32 (fun q => q.elim c_37 (fun q => Int32.not_le.mpr q c_42)))), hfin, if_pos (Or.inr (by rw [hO]; exact rg_t (k := k2 + 1) (by rw [rgS, bI_nz.mp c_155, Bool.or_true]) _ hlt2))] <;> rfl) dX5_matrix_159
              · skip
                refine lv_iconst (v := 0) hx hb dX5_matrix_121 (by decide) ?_
                exact k_iret C0 ((vU v 0 0), (rU r 10 F1)) hP hD hS (by rw [spMx, if_neg c_7, if_neg (fun q => q.elim c_27 (fun q => q.elim c_32 (fun q => q.elim c_37 (fun q => Int32.not_le.mpr q c_42)))), hfin, if_pos (Or.inl (fun q => c_118 (by rw [show qq = 0 from q]; decide)))] <;> rfl) dX5_matrix_122
            · skip
              have hl0n : 0 < L - 1 - t := by rcases Nat.eq_zero_or_pos (L - 1 - t) with q | q; exact absurd (by rw [q]; decide) c_64; exact q
              have hl0 : 0 < nI (L - 1 - t) := (nI_ltI (a := 0) (by omega) (by omega)).mpr hl0n
              refine lv_iload hx hb dX5_matrix_67 (lv_at hl 1 rfl) ?_
              refine lv_if_le (tgt := 116) hx hb dX5_matrix_69 (by decide) (fun c_69 => ?_) (fun c_69 => ?_)
              · skip
                have hfin : mcS (r 1) (r 10) N o1 L (x.toNatClampNeg * y.toNatClampNeg) (L - 1) = (qq, F1) := by have e : qq = 0 := (by rcases Nat.eq_zero_or_pos qq with q | q; exact q; exact absurd c_69 (nI_nle q (by omega))); have h := mc_stop (r1 := r 1) (c0 := r 10) (N := N) (o := o1) (L := L) (m := (x.toNatClampNeg * y.toNatClampNeg)) (t := t) (by rw [hqq]; exact e) (L - 1 - t); rw [show t + (L - 1 - t) = L - 1 by omega, hqq] at h; exact h
                refine lv_iload hx hb dX5_matrix_116 (lv_at hl 1 rfl) ?_
                refine lv_if_le (tgt := 123) hx hb dX5_matrix_118 (by decide) (fun c_118 => ?_) (fun c_118 => absurd c_69 c_118)
                have hm0 : qq = 0 := by rcases Nat.eq_zero_or_pos qq with q | q; exact q; exact absurd c_118 (nI_nle q (by omega))
                have hrgA := mc_rg (r1 := r 1) (c0 := r 10) (N := N) (o := o1) (L := L) (m := (x.toNatClampNeg * y.toNatClampNeg)) (L - 1) (Nat.le_refl _)
                rw [hfin] at hrgA
                refine lv_iconst (v := 0) hx hb dX5_matrix_123 (by decide) ?_
                refine lv_istore (lv' := [(5, .int 0), (4, .int (nI qq)), (3, .int (nI (x.toNatClampNeg * y.toNatClampNeg))), (0, .ref (a 0)), (1, .int x), (2, .int y)]) hx hb dX5_matrix_124 hl (by decide) rfl (fun ls hl => ?_)
                refine lpW (nL := 7) (A := A) (D := D) (fun z : Nat => (wM cI a (vU v 0 0) (rU r 10 F1))) (fun z : Nat => [(5, .int (nI z)), (3, .int (nI (x.toNatClampNeg * y.toNatClampNeg))), (0, .ref (a 0)), (1, .int x), (2, .int y)]) (fun z : Nat => z ≤ (x.toNatClampNeg * y.toNatClampNeg) ∧ rgS (r 1) (r 2) F1 N (nI o1) z = false) (fun z : Nat => (x.toNatClampNeg * y.toNatClampNeg) - z) 0 hP hD hS (lv_sub hl [0, 2, 3, 4, 5] rfl) ⟨Nat.zero_le _, rfl⟩ ?_
                intro k2 H locs ls hP hD hS hl hf ih
                have hP : va_P D vwCl (wM cI a (vU v 0 0) (rU r 10 F1)) H := hP
                have hD : va_D A (wM cI a (vU v 0 0) (rU r 10 F1)) := hD
                have hl : lv_has ls 7 [(5, .int (nI k2)), (3, .int (nI (x.toNatClampNeg * y.toNatClampNeg))), (0, .ref (a 0)), (1, .int x), (2, .int y)] := hl
                have hf : k2 ≤ (x.toNatClampNeg * y.toNatClampNeg) ∧ rgS (r 1) (r 2) F1 N (nI o1) k2 = false := hf
                obtain ⟨hk2, hrg⟩ := hf
                refine lv_iload hx hb dX5_matrix_126 (lv_at hl 0 rfl) ?_
                refine lv_iload_n hx hb dX5_matrix_128 rfl (lv_at hl 1 rfl) ?_
                refine lv_icmp_ge (tgt := 166) hx hb dX5_matrix_129 (by decide) (fun c_129 => ?_) (fun c_129 => ?_)
                · skip
                  have hk2e : k2 = (x.toNatClampNeg * y.toNatClampNeg) := by have := (nI_leI (by omega) (by omega)).mp c_129; omega
                  have hrgN : rgS (r 1) (r 2) F1 N (nI o1) (x.toNatClampNeg * y.toNatClampNeg) = false := hk2e ▸ hrg
                  refine lv_aload_n hx hb dX5_matrix_166 rfl (lv_at hl 2 rfl) ?_
                  refine lv_iconst (v := 3) hx hb dX5_matrix_167 (by decide) ?_
                  refine lv_bipush (v := 7) hx hb dX5_matrix_168 (by decide) ?_
                  refine lv_iload_n hx hb dX5_matrix_170 rfl (lv_at hl 3 rfl) ?_
                  refine lv_iload_n hx hb dX5_matrix_171 rfl (lv_at hl 4 rfl) ?_
                  refine lv_iconst (v := 0) hx hb dX5_matrix_172 (by decide) ?_
                  refine kcD (ans := (v 4)) C0 hP hD hS (c_X5_add l D cI a (vU v 0 0) (rU r 10 F1) 3 7 x y 0 N hN hNlt) (cwV 5 hts gX5_matrix_X5_add rfl rfl rfl (by decide +kernel) ⟨Nat.le_of_ble_eq_true rfl, Nat.le_of_ble_eq_true rfl⟩) 0 5 rfl rfl rfl hl.1 rfl (Nat.le_of_ble_eq_true rfl) dX5_matrix_173 ⟨Nat.zero_le _, Nat.zero_le _⟩ (fun H locs hP hD hS => ?_)
                  have hP : va_P D vwCl (wM cI a (vU (vU v 0 0) 4 ((v 4) + 1)) (rU (rU (rU (rU (rU (rU (rU (rU (rU r 2 (upd (r 2) N (v 2))) 3 (upd (r 3) N 3)) 4 (upd (r 4) N 7)) 5 (upd (r 5) N x)) 6 (upd (r 6) N y)) 7 (upd (r 7) N 0)) 8 (upd (r 8) N (-1))) 9 (upd (r 9) N (-1))) 10 F1)) H := hP
                  have hD : va_D A (wM cI a (vU (vU v 0 0) 4 ((v 4) + 1)) (rU (rU (rU (rU (rU (rU (rU (rU (rU r 2 (upd (r 2) N (v 2))) 3 (upd (r 3) N 3)) 4 (upd (r 4) N 7)) 5 (upd (r 5) N x)) 6 (upd (r 6) N y)) 7 (upd (r 7) N 0)) 8 (upd (r 8) N (-1))) 9 (upd (r 9) N (-1))) 10 F1)) := hD
                  refine lv_istore (lv' := [(5, .int (v 4)), (3, .int (nI (x.toNatClampNeg * y.toNatClampNeg))), (0, .ref (a 0)), (1, .int x), (2, .int y)]) hx hb dX5_matrix_176 hl (by decide) rfl (fun ls hl => ?_)
                  refine lv_iconst (v := 0) hx hb dX5_matrix_178 (by decide) ?_
                  refine lv_istore (lv' := [(6, .int 0), (5, .int (v 4)), (3, .int (nI (x.toNatClampNeg * y.toNatClampNeg))), (0, .ref (a 0)), (1, .int x), (2, .int y)]) hx hb dX5_matrix_179 hl (by decide) rfl (fun ls hl => ?_)
                  refine lpW (nL := 7) (A := A) (D := D) (fun z : Nat => (wM cI a (vU (vU v 0 0) 4 ((v 4) + 1)) (rU (rU (rU (rU (rU (rU (rU (rU (rU (rU r 1 (hiS (r 1) F1 N (v 4) z)) 2 (upd (r 2) N (v 2))) 3 (upd (r 3) N 3)) 4 (upd (r 4) N 7)) 5 (upd (r 5) N x)) 6 (upd (r 6) N y)) 7 (upd (r 7) N 0)) 8 (upd (r 8) N (-1))) 9 (upd (r 9) N (-1))) 10 F1))) (fun z : Nat => [(6, .int (nI z)), (5, .int (v 4)), (3, .int (nI (x.toNatClampNeg * y.toNatClampNeg))), (0, .ref (a 0)), (1, .int x), (2, .int y)]) (fun z : Nat => z ≤ (x.toNatClampNeg * y.toNatClampNeg)) (fun z : Nat => (x.toNatClampNeg * y.toNatClampNeg) - z) 0 hP hD hS (lv_sub hl [0, 1, 2, 3, 4, 5] rfl) (Nat.zero_le _) ?_
                  intro k3 H locs ls hP hD hS hl hf ih
                  have hP : va_P D vwCl (wM cI a (vU (vU v 0 0) 4 ((v 4) + 1)) (rU (rU (rU (rU (rU (rU (rU (rU (rU (rU r 1 (hiS (r 1) F1 N (v 4) k3)) 2 (upd (r 2) N (v 2))) 3 (upd (r 3) N 3)) 4 (upd (r 4) N 7)) 5 (upd (r 5) N x)) 6 (upd (r 6) N y)) 7 (upd (r 7) N 0)) 8 (upd (r 8) N (-1))) 9 (upd (r 9) N (-1))) 10 F1)) H := hP
                  have hD : va_D A (wM cI a (vU (vU v 0 0) 4 ((v 4) + 1)) (rU (rU (rU (rU (rU (rU (rU (rU (rU (rU r 1 (hiS (r 1) F1 N (v 4) k3)) 2 (upd (r 2) N (v 2))) 3 (upd (r 3) N 3)) 4 (upd (r 4) N 7)) 5 (upd (r 5) N x)) 6 (upd (r 6) N y)) 7 (upd (r 7) N 0)) 8 (upd (r 8) N (-1))) 9 (upd (r 9) N (-1))) 10 F1)) := hD
                  have hl : lv_has ls 7 [(6, .int (nI k3)), (5, .int (v 4)), (3, .int (nI (x.toNatClampNeg * y.toNatClampNeg))), (0, .ref (a 0)), (1, .int x), (2, .int y)] := hl
                  have hf : k3 ≤ (x.toNatClampNeg * y.toNatClampNeg) := hf
                  have hk3 := hf
                  refine lv_iload hx hb dX5_matrix_181 (lv_at hl 0 rfl) ?_
                  refine lv_iload_n hx hb dX5_matrix_183 rfl (lv_at hl 2 rfl) ?_
                  refine lv_icmp_ge (tgt := 213) hx hb dX5_matrix_184 (by decide) (fun c_184 => ?_) (fun c_184 => ?_)
                  · skip
                    have hk3e : k3 = (x.toNatClampNeg * y.toNatClampNeg) := by have := (nI_leI (by omega) (by omega)).mp c_184; omega
                    refine lv_iload hx hb dX5_matrix_213 (lv_at hl 1 rfl) ?_
                    refine lv_iconst (v := 1) hx hb dX5_matrix_215 (by decide) ?_
                    refine lv_iadd hx hb dX5_matrix_216 ?_
                    exact k_iret C0 ((vU (vU v 0 0) 4 ((v 4) + 1)), (rU (rU (rU (rU (rU (rU (rU (rU (rU (rU r 1 (hiS (r 1) F1 N (v 4) k3)) 2 (upd (r 2) N (v 2))) 3 (upd (r 3) N 3)) 4 (upd (r 4) N 7)) 5 (upd (r 5) N x)) 6 (upd (r 6) N y)) 7 (upd (r 7) N 0)) 8 (upd (r 8) N (-1))) 9 (upd (r 9) N (-1))) 10 F1)) hP hD hS (by rw [spMx, if_neg c_7, if_neg (fun q => q.elim c_27 (fun q => q.elim c_32 (fun q => q.elim c_37 (fun q => Int32.not_le.mpr q c_42)))), hfin, if_neg (fun q => q.elim (fun h => h hm0) (fun h => by rw [hO] at h; rw [hrgN] at h; exact absurd h (by decide))), ← hk3e] <;> rfl) dX5_matrix_217
                  · skip
                    have hlt3 : k3 < (x.toNatClampNeg * y.toNatClampNeg) := Nat.not_le.mp (fun q => c_184 (nI_le q (by omega)))
                    obtain ⟨lj, ej, hj0, hjL, -, -⟩ := hrgA k3 (by show qq ≤ k3; omega) hlt3
                    have ej : F1 (25 * N + k3) = nI lj := ej
                    refine lv_aload_n hx hb dX5_matrix_187 rfl (lv_at hl 3 rfl) ?_
                    refine va_get (D := D) (ci := 5) (v := .ref (a 1)) (C := RX5) (T := TX5) (N := 25) hx hb hts hin_X5 hown hK hP 0 rfl rfl 3 (by decide) hf13 (fun _ h9 => h9) rfl dX5_matrix_188 ?_
                    refine lv_aload_n hx hb dX5_matrix_191 rfl (lv_at hl 3 rfl) ?_
                    refine va_get (D := D) (ci := 5) (v := .ref (a 10)) (C := RX5) (T := TX5) (N := 25) hx hb hts hin_X5 hown hK hP 0 rfl rfl 13 (by decide) hf41 (fun _ h9 => h9) rfl dX5_matrix_192 ?_
                    refine lv_bipush (v := 25) hx hb dX5_matrix_195 (by decide) ?_
                    refine lv_iload hx hb dX5_matrix_197 (lv_at hl 1 rfl) ?_
                    refine lv_imul hx hb dX5_matrix_199 ?_
                    refine lv_iload hx hb dX5_matrix_200 (lv_at hl 0 rfl) ?_
                    refine lv_iadd hx hb dX5_matrix_202 ?_
                    refine ra_ld (f := F1) C0 hP 10 rfl (25 * N + k3) (by rw [hN]; exact i_25 _ _) (by omega) (by decide) dX5_matrix_203 ?_
                    refine lv_iload hx hb dX5_matrix_204 (lv_at hl 1 rfl) ?_
                    refine ra_st (f := (hiS (r 1) F1 N (v 4) k3)) C0 hP hD hS 1 rfl lj ej (by omega) (by decide) dX5_matrix_206 (fun H locs hP hD hS => ?_)
                    have hset : ∀ (y0_ y4_ : Int32) (f1_ f2_ f3_ f4_ f5_ f6_ f7_ f8_ f9_ f10_ : Nat → Int32) (g_ : Nat → Int32), (wM cI a (vU (vU v 0 y0_) 4 y4_) (rU (rU (rU (rU (rU (rU (rU (rU (rU (rU r 1 f1_) 2 f2_) 3 f3_) 4 f4_) 5 f5_) 6 f6_) 7 f7_) 8 f8_) 9 f9_) 10 f10_)).set 1 (a 1, .inl (cI, 30, .inl g_)) = (wM cI a (vU (vU v 0 y0_) 4 y4_) (rU (rU (rU (rU (rU (rU (rU (rU (rU (rU r 1 g_) 2 f2_) 3 f3_) 4 f4_) 5 f5_) 6 f6_) 7 f7_) 8 f8_) 9 f9_) 10 f10_)) := fun _ _ _ _ _ _ _ _ _ _ _ _ _ => rfl
                    rw [hset] at hP hD
                    refine lv_iinc (v := (nI (k3 + 1))) (lv' := [(6, .int (nI (k3 + 1))), (5, .int (v 4)), (3, .int (nI (x.toNatClampNeg * y.toNatClampNeg))), (0, .ref (a 0)), (1, .int x), (2, .int y)]) hx hb dX5_matrix_207 hl (k := 0) rfl (k_inc k3) (by decide) rfl (fun ls hl => ?_)
                    refine lv_goto (tgt := 181) hx hb dX5_matrix_210 (by decide) ?_
                    have hw : (wM cI a (vU (vU v 0 0) 4 ((v 4) + 1)) (rU (rU (rU (rU (rU (rU (rU (rU (rU (rU r 1 (upd (hiS (r 1) F1 N (v 4) k3) lj (v 4))) 2 (upd (r 2) N (v 2))) 3 (upd (r 3) N 3)) 4 (upd (r 4) N 7)) 5 (upd (r 5) N x)) 6 (upd (r 6) N y)) 7 (upd (r 7) N 0)) 8 (upd (r 8) N (-1))) 9 (upd (r 9) N (-1))) 10 F1)) = (wM cI a (vU (vU v 0 0) 4 ((v 4) + 1)) (rU (rU (rU (rU (rU (rU (rU (rU (rU (rU r 1 (hiS (r 1) F1 N (v 4) (k3 + 1))) 2 (upd (r 2) N (v 2))) 3 (upd (r 3) N 3)) 4 (upd (r 4) N 7)) 5 (upd (r 5) N x)) 6 (upd (r 6) N y)) 7 (upd (r 7) N 0)) 8 (upd (r 8) N (-1))) 9 (upd (r 9) N (-1))) 10 F1)) := by rw [hiS, ej, nI_clamp (by omega)]
                    have hP : va_P D vwCl (wM cI a (vU (vU v 0 0) 4 ((v 4) + 1)) (rU (rU (rU (rU (rU (rU (rU (rU (rU (rU r 1 (hiS (r 1) F1 N (v 4) (k3 + 1))) 2 (upd (r 2) N (v 2))) 3 (upd (r 3) N 3)) 4 (upd (r 4) N 7)) 5 (upd (r 5) N x)) 6 (upd (r 6) N y)) 7 (upd (r 7) N 0)) 8 (upd (r 8) N (-1))) 9 (upd (r 9) N (-1))) 10 F1)) _ := hw ▸ hP
                    have hD : va_D A (wM cI a (vU (vU v 0 0) 4 ((v 4) + 1)) (rU (rU (rU (rU (rU (rU (rU (rU (rU (rU r 1 (hiS (r 1) F1 N (v 4) (k3 + 1))) 2 (upd (r 2) N (v 2))) 3 (upd (r 3) N 3)) 4 (upd (r 4) N 7)) 5 (upd (r 5) N x)) 6 (upd (r 6) N y)) 7 (upd (r 7) N 0)) 8 (upd (r 8) N (-1))) 9 (upd (r 9) N (-1))) 10 F1)) := hw ▸ hD
                    exact ih (k3 + 1) _ _ _ hP hD hS (lv_sub hl [0, 1, 2, 3, 4, 5] rfl) hlt3 (show (x.toNatClampNeg * y.toNatClampNeg) - (k3 + 1) < (x.toNatClampNeg * y.toNatClampNeg) - k3 by omega)
                · skip
                  have hlt2 : k2 < (x.toNatClampNeg * y.toNatClampNeg) := Nat.not_le.mp (fun q => c_129 (nI_le q (by omega)))
                  refine lv_aload_n hx hb dX5_matrix_132 rfl (lv_at hl 2 rfl) ?_
                  refine lv_aload_n hx hb dX5_matrix_133 rfl (lv_at hl 2 rfl) ?_
                  refine va_get (D := D) (ci := 5) (v := .int (v 2)) (C := RX5) (T := TX5) (N := 25) hx hb hts hin_X5 hown hK hP 0 rfl rfl 2 (by decide) hf56 (fun _ h9 => h9) rfl dX5_matrix_134 ?_
                  refine lv_eqi hO ?_
                  refine lv_aload_n hx hb dX5_matrix_137 rfl (lv_at hl 2 rfl) ?_
                  refine va_get (D := D) (ci := 5) (v := .ref (a 10)) (C := RX5) (T := TX5) (N := 25) hx hb hts hin_X5 hown hK hP 0 rfl rfl 13 (by decide) hf41 (fun _ h9 => h9) rfl dX5_matrix_138 ?_
                  refine lv_bipush (v := 25) hx hb dX5_matrix_141 (by decide) ?_
                  refine lv_aload_n hx hb dX5_matrix_143 rfl (lv_at hl 2 rfl) ?_
                  refine va_get (D := D) (ci := 5) (v := .int (v 4)) (C := RX5) (T := TX5) (N := 25) hx hb hts hin_X5 hown hK hP 0 rfl rfl 4 (by decide) hf53 (fun _ h9 => h9) rfl dX5_matrix_144 ?_
                  refine lv_imul hx hb dX5_matrix_147 ?_
                  refine lv_iload hx hb dX5_matrix_148 (lv_at hl 0 rfl) ?_
                  refine lv_iadd hx hb dX5_matrix_150 ?_
                  refine ra_ld (f := F1) C0 hP 10 rfl (25 * N + k2) (by rw [hN]; exact i_25 _ _) (by omega) (by decide) dX5_matrix_151 ?_
                  refine kcD (ans := (bI (wiF (r 1) (r 2) (F1 (25 * N + k2)) 30 (nI o1) = true))) C0 hP hD hS (c_X5_isWithin l D cI a (vU v 0 0) (rU r 10 F1) o1 (F1 (25 * N + k2)) dp ho1 (hd30 _ ho1) hdp) (cwV 2 hts gX5_matrix_X5_isWithin rfl rfl rfl (by decide +kernel) ⟨Nat.le_of_ble_eq_true rfl, Nat.le_of_ble_eq_true rfl⟩) 0 5 rfl rfl rfl hl.1 rfl (Nat.le_of_ble_eq_true rfl) dX5_matrix_152 ⟨Nat.zero_le _, Nat.zero_le _⟩ (fun H locs hP hD hS => ?_)
                  refine lv_if_eq (tgt := 160) hx hb dX5_matrix_155 (by decide) (fun c_155 => ?_) (fun c_155 => ?_)
                  · skip
                    refine lv_iinc (v := (nI (k2 + 1))) (lv' := [(5, .int (nI (k2 + 1))), (3, .int (nI (x.toNatClampNeg * y.toNatClampNeg))), (0, .ref (a 0)), (1, .int x), (2, .int y)]) hx hb dX5_matrix_160 hl (k := 0) rfl (k_inc k2) (by decide) rfl (fun ls hl => ?_)
                    refine lv_goto (tgt := 126) hx hb dX5_matrix_163 (by decide) ?_
                    exact ih (k2 + 1) _ _ _ hP hD hS (lv_sub hl [0, 1, 2, 3, 4] rfl) ⟨hlt2, by rw [rgS, hrg, Bool.false_or]; exact eq_false_of_ne_true (bI_z.mp c_155)⟩ (show (x.toNatClampNeg * y.toNatClampNeg) - (k2 + 1) < (x.toNatClampNeg * y.toNatClampNeg) - k2 by omega)
                  · skip
                    refine lv_iconst (v := 0) hx hb dX5_matrix_158 (by decide) ?_
                    exact k_iret C0 ((vU v 0 0), (rU r 10 F1)) hP hD hS (by rw [spMx, if_neg c_7, if_neg (fun q => q.elim c_27 (fun q => q.elim c_32 (fun q => q.elim c_37 (fun q => Int32.not_le.mpr q c_42)))), hfin, if_pos (Or.inr (by rw [hO]; exact rg_t (k := k2 + 1) (by rw [rgS, bI_nz.mp c_155, Bool.or_true]) _ hlt2))] <;> rfl) dX5_matrix_159
              · skip
                have hq0 : 0 < qq := by rcases Nat.eq_zero_or_pos qq with q | q; exact absurd (by rw [q]; decide) c_69; exact q
                refine lv_aload_n hx hb dX5_matrix_72 rfl (lv_at hl 3 rfl) ?_
                refine lv_iload hx hb dX5_matrix_73 (lv_at hl 0 rfl) ?_
                refine kcD (ans := (bI (0 < nI (L - 1 - t) ∧ r 1 (L - 1 - t) = -1))) C0 hP hD hS (c_X5_isFree l D cI a (vU v 0 0) (rU r 10 F1) (L - 1 - t) (show L - 1 - t < 30 by omega)) (cwV 1 hts gX5_matrix_X5_isFree rfl rfl rfl (by decide +kernel) ⟨Nat.le_of_ble_eq_true rfl, Nat.le_of_ble_eq_true rfl⟩) 0 5 rfl rfl rfl hl.1 rfl (Nat.le_of_ble_eq_true rfl) dX5_matrix_75 ⟨Nat.zero_le _, Nat.zero_le _⟩ (fun H locs hP hD hS => ?_)
                refine lv_if_eq (tgt := 110) hx hb dX5_matrix_78 (by decide) (fun c_78 => ?_) (fun c_78 => ?_)
                · skip
                  refine lv_iinc (v := (nI ((L - 1 - t) - 1))) (lv' := [(5, .int (nI ((L - 1 - t) - 1))), (4, .int (nI qq)), (3, .int (nI (x.toNatClampNeg * y.toNatClampNeg))), (0, .ref (a 0)), (1, .int x), (2, .int y)]) hx hb dX5_matrix_110 hl (k := 0) rfl (k_decp hl0n) (by decide) rfl (fun ls hl => ?_)
                  refine lv_goto (tgt := 62) hx hb dX5_matrix_113 (by decide) ?_
                  have hm2 : mcS (r 1) (r 10) N o1 L (x.toNatClampNeg * y.toNatClampNeg) (t + 1) = (qq, F1) := by rw [mc_no (fun q => bI_z.mp c_78 ⟨hl0, q.2.1⟩), hqq]
                  have hlx : L - 1 - (t + 1) = L - 1 - t - 1 := by omega
                  have hl2 : lv_has ls 7 [(5, .int (nI (L - 1 - (t + 1)))), (4, .int (nI qq)), (3, .int (nI (x.toNatClampNeg * y.toNatClampNeg))), (0, .ref (a 0)), (1, .int x), (2, .int y)] := by rw [hlx]; exact lv_sub hl [0, 1, 2, 3, 4, 5] rfl
                  exact ih (t + 1, qq, F1) _ _ _ hP hD hS hl2 ⟨(show t + 1 ≤ L - 1 by omega), hm2⟩ (show L - 1 - (t + 1) < L - 1 - t by omega)
                · skip
                  refine lv_iload hx hb dX5_matrix_81 (lv_at hl 0 rfl) ?_
                  refine lv_aload_n hx hb dX5_matrix_83 rfl (lv_at hl 3 rfl) ?_
                  refine va_get (D := D) (ci := 5) (v := .int (v 2)) (C := RX5) (T := TX5) (N := 25) hx hb hts hin_X5 hown hK hP 0 rfl rfl 2 (by decide) hf56 (fun _ h9 => h9) rfl dX5_matrix_84 ?_
                  refine lv_eqi hO ?_
                  refine lv_icmp_eq (tgt := 110) hx hb dX5_matrix_87 (by decide) (fun c_87 => ?_) (fun c_87 => ?_)
                  · skip
                    refine lv_iinc (v := (nI ((L - 1 - t) - 1))) (lv' := [(5, .int (nI ((L - 1 - t) - 1))), (4, .int (nI qq)), (3, .int (nI (x.toNatClampNeg * y.toNatClampNeg))), (0, .ref (a 0)), (1, .int x), (2, .int y)]) hx hb dX5_matrix_110 hl (k := 0) rfl (k_decp hl0n) (by decide) rfl (fun ls hl => ?_)
                    refine lv_goto (tgt := 62) hx hb dX5_matrix_113 (by decide) ?_
                    have hm2 : mcS (r 1) (r 10) N o1 L (x.toNatClampNeg * y.toNatClampNeg) (t + 1) = (qq, F1) := by rw [mc_no (fun q => q.2.2 (nI_inj (by omega) (by omega) c_87)), hqq]
                    have hlx : L - 1 - (t + 1) = L - 1 - t - 1 := by omega
                    have hl2 : lv_has ls 7 [(5, .int (nI (L - 1 - (t + 1)))), (4, .int (nI qq)), (3, .int (nI (x.toNatClampNeg * y.toNatClampNeg))), (0, .ref (a 0)), (1, .int x), (2, .int y)] := by rw [hlx]; exact lv_sub hl [0, 1, 2, 3, 4, 5] rfl
                    exact ih (t + 1, qq, F1) _ _ _ hP hD hS hl2 ⟨(show t + 1 ≤ L - 1 by omega), hm2⟩ (show L - 1 - (t + 1) < L - 1 - t by omega)
                  · skip
                    refine lv_iinc (v := (nI (qq - 1))) (lv' := [(4, .int (nI (qq - 1))), (5, .int (nI (L - 1 - t))), (3, .int (nI (x.toNatClampNeg * y.toNatClampNeg))), (0, .ref (a 0)), (1, .int x), (2, .int y)]) hx hb dX5_matrix_90 hl (k := 1) rfl (k_decp hq0) (by decide) rfl (fun ls hl => ?_)
                    refine lv_aload_n hx hb dX5_matrix_93 rfl (lv_at hl 3 rfl) ?_
                    refine va_get (D := D) (ci := 5) (v := .ref (a 10)) (C := RX5) (T := TX5) (N := 25) hx hb hts hin_X5 hown hK hP 0 rfl rfl 13 (by decide) hf41 (fun _ h9 => h9) rfl dX5_matrix_94 ?_
                    refine lv_bipush (v := 25) hx hb dX5_matrix_97 (by decide) ?_
                    refine lv_aload_n hx hb dX5_matrix_99 rfl (lv_at hl 3 rfl) ?_
                    refine va_get (D := D) (ci := 5) (v := .int (v 4)) (C := RX5) (T := TX5) (N := 25) hx hb hts hin_X5 hown hK hP 0 rfl rfl 4 (by decide) hf53 (fun _ h9 => h9) rfl dX5_matrix_100 ?_
                    refine lv_imul hx hb dX5_matrix_103 ?_
                    refine lv_iload hx hb dX5_matrix_104 (lv_at hl 0 rfl) ?_
                    refine lv_iadd hx hb dX5_matrix_106 ?_
                    refine lv_iload hx hb dX5_matrix_107 (lv_at hl 1 rfl) ?_
                    refine ra_st (f := F1) C0 hP hD hS 10 rfl (25 * N + (qq - 1)) (by rw [hN]; exact i_25 N (qq - 1)) (by omega) (by decide) dX5_matrix_109 (fun H locs hP hD hS => ?_)
                    have hset : ∀ (y0_ : Int32) (f10_ : Nat → Int32) (g_ : Nat → Int32), (wM cI a (vU v 0 y0_) (rU r 10 f10_)).set 10 (a 10, .inl (cI, 3000, .inl g_)) = (wM cI a (vU v 0 y0_) (rU r 10 g_)) := fun _ _ _ => rfl
                    rw [hset] at hP hD
                    refine lv_iinc (v := (nI ((L - 1 - t) - 1))) (lv' := [(5, .int (nI ((L - 1 - t) - 1))), (4, .int (nI (qq - 1))), (3, .int (nI (x.toNatClampNeg * y.toNatClampNeg))), (0, .ref (a 0)), (1, .int x), (2, .int y)]) hx hb dX5_matrix_110 hl (k := 1) rfl (k_decp hl0n) (by decide) rfl (fun ls hl => ?_)
                    refine lv_goto (tgt := 62) hx hb dX5_matrix_113 (by decide) ?_
                    have hm2 : mcS (r 1) (r 10) N o1 L (x.toNatClampNeg * y.toNatClampNeg) (t + 1) = (qq - 1, (upd F1 (25 * N + (qq - 1)) (nI (L - 1 - t)))) := by rw [mc_ye ⟨by rw [hqq]; exact hq0, (bI_nz.mp c_78).2, fun q => c_87 (by rw [q])⟩, hqq]
                    have hlx : L - 1 - (t + 1) = L - 1 - t - 1 := by omega
                    have hl2 : lv_has ls 7 [(5, .int (nI (L - 1 - (t + 1)))), (4, .int (nI (qq - 1))), (3, .int (nI (x.toNatClampNeg * y.toNatClampNeg))), (0, .ref (a 0)), (1, .int x), (2, .int y)] := by rw [hlx]; exact lv_sub hl [0, 1, 2, 3, 4, 5] rfl
                    exact ih (t + 1, qq - 1, (upd F1 (25 * N + (qq - 1)) (nI (L - 1 - t)))) _ _ _ hP hD hS hl2 ⟨(show t + 1 ≤ L - 1 by omega), hm2⟩ (show L - 1 - (t + 1) < L - 1 - t by omega)
          · skip
            refine lv_iconst (v := 0) hx hb dX5_matrix_45 (by decide) ?_
            exact k_iret C0 ((vU v 0 0), r) hP hD hS (by rw [spMx, if_neg c_7, if_pos (Or.inr (Or.inr (Or.inr (Int32.not_le.mp c_42))))] <;> rfl) dX5_matrix_46
  · skip
    refine lv_iconst (v := 1) hx hb dX5_matrix_10 (by decide) ?_
    refine lv_goto (tgt := 15) hx hb dX5_matrix_11 (by decide) ?_
    refine va_put (D := D) (ci := 5) (v := .int 1) (ty := .int) (C := RX5) (T := TX5) (N := 25) hx hb hts hin_X5 tyX5 tyX5_ok nmX5 hown hK hP hD hS 0 rfl rfl 0 (by decide) hf50 (fun _ h9 => h9) rfl (by decide +kernel) rfl rfl (Nat.le_of_ble_eq_true rfl) dX5_matrix_15 (fun H locs hP hD hS => ?_)
    have hP : va_P D vwCl (wM cI a (vU v 0 1) r) H := hP
    have hD : va_D A (wM cI a (vU v 0 1) r) := hD
    refine lv_aload_n hx hb dX5_matrix_18 rfl (lv_at hl 0 rfl) ?_
    refine va_get (D := D) (ci := 5) (v := .int 1) (C := RX5) (T := TX5) (N := 25) hx hb hts hin_X5 hown hK hP 0 rfl rfl 0 (by decide) hf50 (fun _ h9 => h9) rfl dX5_matrix_19 ?_
    refine lv_if_gt (tgt := 45) hx hb dX5_matrix_22 (by decide) (fun c_22 => ?_) (fun c_22 => absurd (by decide) c_22)
    refine lv_iconst (v := 0) hx hb dX5_matrix_45 (by decide) ?_
    exact k_iret C0 ((vU v 0 1), r) hP hD hS (by rw [spMx, if_pos c_7] <;> rfl) dX5_matrix_46
