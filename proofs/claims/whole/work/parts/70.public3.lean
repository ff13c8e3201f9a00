theorem ff_rg {ok : Nat → Bool} : ∀ (l m : Nat), ffF ok l m = -1 ∨ ∃ j, 1 ≤ j ∧ j ≤ l ∧ ffF ok l m = nI j
  | 0, _ => Or.inl rfl
  | l + 1, m => by
    rw [ffF]
    by_cases h : ok (l + 1) = true
    · rw [if_pos h]
      by_cases h2 : m = 1
      · rw [if_pos h2]; exact Or.inr ⟨l + 1, by omega, by omega, rfl⟩
      · rw [if_neg h2]
        rcases ff_rg (ok := ok) l (m - 1) with q | ⟨j, a, b, c⟩
        · exact Or.inl q
        · exact Or.inr ⟨j, a, by omega, c⟩
    · rw [if_neg h]
      rcases ff_rg (ok := ok) l m with q | ⟨j, a, b, c⟩
      · exact Or.inl q
      · exact Or.inr ⟨j, a, by omega, c⟩
def cM (v : Nat → Int32) : Int32 := if v 0 < 120 then 0 else 1

set_option maxHeartbeats 1500000 in
theorem pf_X4_script_0 (a : Nat → Nat) (v : Nat → Int32) (r : Nat → Nat → Int32) (x y z : Int32) (N L : Nat) (dp : Nat → Nat) (hN : v 0 = nI N) (hN1 : N ≤ 120) (hL : v 1 = nI L) (hL1 : L ≤ 30) (hlo : ∀ n, n < N → ∃ i, r 2 n = nI i ∧ i < L) (hdo : ∀ j, j < L → dp j ≤ 29) (hdp : ∀ j, j < 30 → r 10 j = -1 ∨ ∃ n i, r 10 j = nI n ∧ n < 120 ∧ r 2 n = nI i ∧ i < 30 ∧ dp i < dp j) (hz9 : ¬ (0 ≤ x ∧ x < nI N ∧ ¬ r 3 x.toNatClampNeg = 4)) : cS v r N x y z = 1 := by
  unfold cS; (repeat' split) <;> first | rfl | (exfalso; simp_all; done)
set_option maxHeartbeats 1500000 in
theorem pf_X4_script_1 (a : Nat → Nat) (v : Nat → Int32) (r : Nat → Nat → Int32) (x y z : Int32) (N L : Nat) (dp : Nat → Nat) (hN : v 0 = nI N) (hN1 : N ≤ 120) (hL : v 1 = nI L) (hL1 : L ≤ 30) (hlo : ∀ n, n < N → ∃ i, r 2 n = nI i ∧ i < L) (hdo : ∀ j, j < L → dp j ≤ 29) (hdp : ∀ j, j < 30 → r 10 j = -1 ∨ ∃ n i, r 10 j = nI n ∧ n < 120 ∧ r 2 n = nI i ∧ i < 30 ∧ dp i < dp j) (hq_5 : 0 ≤ x ∧ x < nI N ∧ ¬ r 3 x.toNatClampNeg = 4) (hz9 : ¬ (0 ≤ z ∧ z < v 1)) : cS v r N x y z = 1 := by
  unfold cS; (repeat' split) <;> first | rfl | (exfalso; simp_all; done)
set_option maxHeartbeats 1500000 in
theorem pf_X4_script_2 (a : Nat → Nat) (v : Nat → Int32) (r : Nat → Nat → Int32) (x y z : Int32) (N L : Nat) (dp : Nat → Nat) (hN : v 0 = nI N) (hN1 : N ≤ 120) (hL : v 1 = nI L) (hL1 : L ≤ 30) (hlo : ∀ n, n < N → ∃ i, r 2 n = nI i ∧ i < L) (hdo : ∀ j, j < L → dp j ≤ 29) (hdp : ∀ j, j < 30 → r 10 j = -1 ∨ ∃ n i, r 10 j = nI n ∧ n < 120 ∧ r 2 n = nI i ∧ i < 30 ∧ dp i < dp j) (hq_5 : 0 ≤ x ∧ x < nI N ∧ ¬ r 3 x.toNatClampNeg = 4) (hq_10 : 0 ≤ z ∧ z < v 1) (c_11 : y = 0) (c_38 : ((r 6) x.toNatClampNeg) = (-1)) (hz9 : ¬ ((¬ nI z.toNatClampNeg = 0 ∧ r 10 z.toNatClampNeg = -1) ∧ ¬ wiF (r 10) (r 2) z 30 (r 2 x.toNatClampNeg) = true)) : cS v r N x y z = 2 := by
  unfold cS; (repeat' split) <;> first | rfl | (exfalso; simp_all; done)
set_option maxHeartbeats 1500000 in
theorem pf_X4_script_3 (a : Nat → Nat) (v : Nat → Int32) (r : Nat → Nat → Int32) (x y z : Int32) (N L : Nat) (dp : Nat → Nat) (hN : v 0 = nI N) (hN1 : N ≤ 120) (hL : v 1 = nI L) (hL1 : L ≤ 30) (hlo : ∀ n, n < N → ∃ i, r 2 n = nI i ∧ i < L) (hdo : ∀ j, j < L → dp j ≤ 29) (hdp : ∀ j, j < 30 → r 10 j = -1 ∨ ∃ n i, r 10 j = nI n ∧ n < 120 ∧ r 2 n = nI i ∧ i < 30 ∧ dp i < dp j) (hq_5 : 0 ≤ x ∧ x < nI N ∧ ¬ r 3 x.toNatClampNeg = 4) (hq_10 : 0 ≤ z ∧ z < v 1) (c_11 : y = 0) (c_38 : ((r 6) x.toNatClampNeg) = (-1)) (hq_65 : (¬ nI z.toNatClampNeg = 0 ∧ r 10 z.toNatClampNeg = -1) ∧ ¬ wiF (r 10) (r 2) z 30 (r 2 x.toNatClampNeg) = true) : cS v r N x y z = 0 := by
  unfold cS; (repeat' split) <;> first | rfl | (exfalso; simp_all; done)
set_option maxHeartbeats 1500000 in
theorem pf_X4_script_4 (a : Nat → Nat) (v : Nat → Int32) (r : Nat → Nat → Int32) (x y z : Int32) (N L : Nat) (dp : Nat → Nat) (hN : v 0 = nI N) (hN1 : N ≤ 120) (hL : v 1 = nI L) (hL1 : L ≤ 30) (hlo : ∀ n, n < N → ∃ i, r 2 n = nI i ∧ i < L) (hdo : ∀ j, j < L → dp j ≤ 29) (hdp : ∀ j, j < 30 → r 10 j = -1 ∨ ∃ n i, r 10 j = nI n ∧ n < 120 ∧ r 2 n = nI i ∧ i < 30 ∧ dp i < dp j) (hq_5 : 0 ≤ x ∧ x < nI N ∧ ¬ r 3 x.toNatClampNeg = 4) (hq_10 : 0 ≤ z ∧ z < v 1) (c_11 : y = 0) (c_38 : ¬ (((r 6) x.toNatClampNeg) = (-1))) : cS v r N x y z = 2 := by
  unfold cS; (repeat' split) <;> first | rfl | (exfalso; simp_all; done)
set_option maxHeartbeats 1500000 in
theorem pf_X4_script_5 (a : Nat → Nat) (v : Nat → Int32) (r : Nat → Nat → Int32) (x y z : Int32) (N L : Nat) (dp : Nat → Nat) (hN : v 0 = nI N) (hN1 : N ≤ 120) (hL : v 1 = nI L) (hL1 : L ≤ 30) (hlo : ∀ n, n < N → ∃ i, r 2 n = nI i ∧ i < L) (hdo : ∀ j, j < L → dp j ≤ 29) (hdp : ∀ j, j < 30 → r 10 j = -1 ∨ ∃ n i, r 10 j = nI n ∧ n < 120 ∧ r 2 n = nI i ∧ i < 30 ∧ dp i < dp j) (hq_5 : 0 ≤ x ∧ x < nI N ∧ ¬ r 3 x.toNatClampNeg = 4) (hq_10 : 0 ≤ z ∧ z < v 1) (c_11 : ¬ (y = 0)) (c_38 : ((r 5) x.toNatClampNeg) = (-1)) (hz9 : ¬ ((¬ nI z.toNatClampNeg = 0 ∧ r 10 z.toNatClampNeg = -1) ∧ ¬ wiF (r 10) (r 2) z 30 (r 2 x.toNatClampNeg) = true)) : cS v r N x y z = 2 := by
  unfold cS; (repeat' split) <;> first | rfl | (exfalso; simp_all; done)
set_option maxHeartbeats 1500000 in
theorem pf_X4_script_6 (a : Nat → Nat) (v : Nat → Int32) (r : Nat → Nat → Int32) (x y z : Int32) (N L : Nat) (dp : Nat → Nat) (hN : v 0 = nI N) (hN1 : N ≤ 120) (hL : v 1 = nI L) (hL1 : L ≤ 30) (hlo : ∀ n, n < N → ∃ i, r 2 n = nI i ∧ i < L) (hdo : ∀ j, j < L → dp j ≤ 29) (hdp : ∀ j, j < 30 → r 10 j = -1 ∨ ∃ n i, r 10 j = nI n ∧ n < 120 ∧ r 2 n = nI i ∧ i < 30 ∧ dp i < dp j) (hq_5 : 0 ≤ x ∧ x < nI N ∧ ¬ r 3 x.toNatClampNeg = 4) (hq_10 : 0 ≤ z ∧ z < v 1) (c_11 : ¬ (y = 0)) (c_38 : ((r 5) x.toNatClampNeg) = (-1)) (hq_65 : (¬ nI z.toNatClampNeg = 0 ∧ r 10 z.toNatClampNeg = -1) ∧ ¬ wiF (r 10) (r 2) z 30 (r 2 x.toNatClampNeg) = true) : cS v r N x y z = 0 := by
  unfold cS; (repeat' split) <;> first | rfl | (exfalso; simp_all; done)
set_option maxHeartbeats 1500000 in
theorem pf_X4_script_7 (a : Nat → Nat) (v : Nat → Int32) (r : Nat → Nat → Int32) (x y z : Int32) (N L : Nat) (dp : Nat → Nat) (hN : v 0 = nI N) (hN1 : N ≤ 120) (hL : v 1 = nI L) (hL1 : L ≤ 30) (hlo : ∀ n, n < N → ∃ i, r 2 n = nI i ∧ i < L) (hdo : ∀ j, j < L → dp j ≤ 29) (hdp : ∀ j, j < 30 → r 10 j = -1 ∨ ∃ n i, r 10 j = nI n ∧ n < 120 ∧ r 2 n = nI i ∧ i < 30 ∧ dp i < dp j) (hq_5 : 0 ≤ x ∧ x < nI N ∧ ¬ r 3 x.toNatClampNeg = 4) (hq_10 : 0 ≤ z ∧ z < v 1) (c_11 : ¬ (y = 0)) (c_38 : ¬ (((r 5) x.toNatClampNeg) = (-1))) : cS v r N x y z = 2 := by
  unfold cS; (repeat' split) <;> first | rfl | (exfalso; simp_all; done)
set_option maxHeartbeats 1500000 in
set_option maxRecDepth 100000 in
theorem c_X4_script (l : Launch) (D : va_G) (cI : ClassId) (a : Nat → Nat) (v : Nat → Int32) (r : Nat → Nat → Int32) (x y z : Int32) (N L : Nat) (dp : Nat → Nat) (hst : l.stackTraces = false) (hN : v 0 = nI N) (hN1 : N ≤ 120) (hL : v 1 = nI L) (hL1 : L ≤ 30) (hlo : ∀ n, n < N → ∃ i, r 2 n = nI i ∧ i < L) (hdo : ∀ j, j < L → dp j ≤ 29) (hdp : ∀ j, j < 30 → r 10 j = -1 ∨ ∃ n i, r 10 j = nI n ∧ n < 120 ∧ r 2 n = nI i ∧ i < 30 ∧ dp i < dp j) : KX l D cI yX4_script wsX4_script ({ frames := 7, cells := 4, slots := 24, locals := 104 }) [.ref (a 0), .int x, .int y, .int z] (wX cI a v r) 4 24 (fun u : (Nat → Int32) × Rw => wX cI a u.1 u.2) (fun q u => cS v r N x y z = 0 ∧ (q, u.1, u.2) = (if y = 0 then ((if r 5 x.toNatClampNeg = -1 then 0 else 1) + (if upd (r 6) x.toNatClampNeg z x.toNatClampNeg = -1 then 0 else 1), v, rU (rU r 6 (upd (r 6) x.toNatClampNeg z)) 10 (upd (r 10) z.toNatClampNeg x)) else ((if upd (r 5) x.toNatClampNeg z x.toNatClampNeg = -1 then 0 else 1) + (if r 6 x.toNatClampNeg = -1 then 0 else 1), v, rU (rU r 5 (upd (r 5) x.toNatClampNeg z)) 10 (upd (r 10) z.toNatClampNeg x)))) (fun E => (cS v r N x y z = 1 ∧ E = "java/util/NoSuchElementException") ∨ (cS v r N x y z = 2 ∧ E = "java/lang/IllegalStateException")) := by
  refine KX.of (cc := cX4_script) (nL := 5) (ret := (some .int)) (by decide) rfl (Nat.le_of_ble_eq_true rfl) ?_
  intro pg9 en9 s m args below meth cd9 A ls C0 hex hP hD hS hl
  have hx := C0.1.1
  have hb := C0.1.2.1
  have hml := C0.1.2.2.1
  have hown : s.vm.findClass RX4 = some m.cls := C0.1.2.2.2.1
  have hts : ∀ w ∈ wsX4_script, w.before args s = true := C0.1.2.2.2.2
  have hK := C0.2.2.2.1
  have hin_X4 : ∀ w ∈ wsX40, w ∈ wsX4_script := fun w h => List.mem_cons_of_mem _ (List.mem_append_left _ (List.mem_append_left _ (List.mem_append_left _ (List.mem_append_right _ h))))
  have hf12 : (Cond.fieldLink RX4 12 "FormulaLists" "book" "LFormulaLists$Book;").before args s = true := hts _ (by decide +kernel)
  have hin_X0 : ∀ w ∈ wsX00, w ∈ wsX4_script := fun w h => List.mem_cons_of_mem _ (List.mem_append_left _ (List.mem_append_left _ (List.mem_append_right _ h)))
  have hf67 : (Cond.fieldLink RX4 67 "FormulaLists$Book" "lower" "[I").before args s = true := hts _ (by decide +kernel)
  have hf75 : (Cond.fieldLink RX4 75 "FormulaLists$Book" "home" "[I").before args s = true := hts _ (by decide +kernel)
  have hf82 : (Cond.fieldLink RX4 82 "FormulaLists$Book" "holder" "[I").before args s = true := hts _ (by decide +kernel)
  have hf63 : (Cond.fieldLink RX4 63 "FormulaLists$Book" "upper" "[I").before args s = true := hts _ (by decide +kernel)
  have hl : lv_has ls 5 [(0, .ref (a 0)), (1, .int x), (2, .int y), (3, .int z)] := hl
  have hP : va_P D vwCl (wX cI a v r) s.heap := hP
  refine lv_aload_n hx hb dX4_script_0 rfl (lv_at hl 0 rfl) ?_
  refine lv_iload_n hx hb dX4_script_1 rfl (lv_at hl 1 rfl) ?_
  refine kcXv C0 hex hP hD hS (c_X4_needAtom l D cI a v r x N hst hN hN1) (cwV 1 hts gX4_script_X4_needAtom rfl rfl rfl (by decide +kernel) ⟨Nat.le_of_ble_eq_true rfl, Nat.le_of_ble_eq_true rfl⟩) 0 4 rfl rfl rfl hl.1 rfl (Nat.le_of_ble_eq_true rfl) dX4_script_2 ⟨Nat.le_of_ble_eq_true rfl, Nat.le_of_ble_eq_true rfl⟩ (Nat.le_of_ble_eq_true rfl) (Nat.le_of_ble_eq_true rfl) (fun E h9 => (Or.inl ⟨(pf_X4_script_0 a v r x y z N L dp hN hN1 hL hL1 hlo hdo hdp h9.2), h9.1⟩)) (fun _ H locs hq hP hD hS => ?_)
  have hq_5 : 0 ≤ x ∧ x < nI N ∧ ¬ r 3 x.toNatClampNeg = 4 := hq
  have hP : va_P D vwCl (wX cI a v r) H := hP
  have hD : va_D A (wX cI a v r) := hD
  refine lv_aload_n hx hb dX4_script_5 rfl (lv_at hl 0 rfl) ?_
  refine lv_iload_n hx hb dX4_script_6 rfl (lv_at hl 3 rfl) ?_
  refine kcXv C0 hex hP hD hS (c_X4_needList l D cI a v r z  hst ) (cwV 1 hts gX4_script_X4_needList rfl rfl rfl (by decide +kernel) ⟨Nat.le_of_ble_eq_true rfl, Nat.le_of_ble_eq_true rfl⟩) 0 4 rfl rfl rfl hl.1 rfl (Nat.le_of_ble_eq_true rfl) dX4_script_7 ⟨Nat.le_of_ble_eq_true rfl, Nat.le_of_ble_eq_true rfl⟩ (Nat.le_of_ble_eq_true rfl) (Nat.le_of_ble_eq_true rfl) (fun E h9 => (Or.inl ⟨(pf_X4_script_1 a v r x y z N L dp hN hN1 hL hL1 hlo hdo hdp hq_5 h9.2), h9.1⟩)) (fun _ H locs hq hP hD hS => ?_)
  have hq_10 : 0 ≤ z ∧ z < v 1 := hq
  have hP : va_P D vwCl (wX cI a v r) H := hP
  have hD : va_D A (wX cI a v r) := hD
  refine lv_iload_n hx hb dX4_script_10 rfl (lv_at hl 2 rfl) ?_
  refine lv_if_eq (tgt := 24) hx hb dX4_script_11 (by decide) (fun c_11 => ?_) (fun c_11 => ?_)
  · skip
    refine lv_aload_n hx hb dX4_script_24 rfl (lv_at hl 0 rfl) ?_
    refine va_get (D := D) (ci := 4) (v := .ref (a 1)) (C := RX4) (T := TX4) (N := 2) hx hb hts hin_X4 hown hK hP 0 rfl rfl 0 (by decide) hf12 (fun _ h9 => h9) rfl dX4_script_25 ?_
    refine va_get (D := D) (ci := 0) (v := .ref (a 6)) (C := RX0) (T := TX0) (N := 14) hx hb hts hin_X0 hown hK hP 1 rfl rfl 7 (by decide) hf67 (fun _ h9 => h9) rfl dX4_script_28 ?_
    refine lv_astore (lv' := [(4, .ref (a 6)), (0, .ref (a 0)), (1, .int x), (2, .int y), (3, .int z)]) hx hb dX4_script_31 hl (by decide) rfl (fun ls hl => ?_)
    have hax := at_ix hq_5 hN1
    have haz := ls_ix hq_10 hL hL1
    obtain ⟨oi, eoi, hoi⟩ := hlo _ hax.2
    have hoi30 : oi < 30 := by omega
    refine lv_aload hx hb dX4_script_33 (lv_at hl 0 rfl) ?_
    refine lv_iload_n hx hb dX4_script_35 rfl (lv_at hl 2 rfl) ?_
    refine ra_ld (f := (r 6)) C0 hP 6 rfl x.toNatClampNeg hax.1 (by omega) (by decide) dX4_script_36 ?_
    refine lv_iconst (v := (-1)) hx hb dX4_script_37 (by decide) ?_
    refine lv_icmp_eq (tgt := 51) hx hb dX4_script_38 (by decide) (fun c_38 => ?_) (fun c_38 => ?_)
    · skip
      refine lv_aload_n hx hb dX4_script_51 rfl (lv_at hl 1 rfl) ?_
      refine lv_iload_n hx hb dX4_script_52 rfl (lv_at hl 4 rfl) ?_
      refine lv_aload_n hx hb dX4_script_53 rfl (lv_at hl 1 rfl) ?_
      refine va_get (D := D) (ci := 4) (v := .ref (a 1)) (C := RX4) (T := TX4) (N := 2) hx hb hts hin_X4 hown hK hP 0 rfl rfl 0 (by decide) hf12 (fun _ h9 => h9) rfl dX4_script_54 ?_
      refine va_get (D := D) (ci := 0) (v := .ref (a 2)) (C := RX0) (T := TX0) (N := 14) hx hb hts hin_X0 hown hK hP 1 rfl rfl 3 (by decide) hf75 (fun _ h9 => h9) rfl dX4_script_57 ?_
      refine lv_iload_n hx hb dX4_script_60 rfl (lv_at hl 2 rfl) ?_
      refine ra_ld (f := (r 2)) C0 hP 2 rfl x.toNatClampNeg hax.1 (by omega) (by decide) dX4_script_61 ?_
      refine lv_eqi eoi ?_
      refine kcXv C0 hex hP hD hS (c_X4_needFree l D cI a v r z oi dp hst (ls_ix hq_10 hL hL1).1 (ls_ix hq_10 hL hL1).2 hoi30 (hdo oi hoi) hdp) (cwV 2 hts gX4_script_X4_needFree rfl rfl rfl (by decide +kernel) ⟨Nat.le_of_ble_eq_true rfl, Nat.le_of_ble_eq_true rfl⟩) 0 4 rfl rfl rfl hl.1 rfl (Nat.le_of_ble_eq_true rfl) dX4_script_62 ⟨Nat.le_of_ble_eq_true rfl, Nat.le_of_ble_eq_true rfl⟩ (Nat.le_of_ble_eq_true rfl) (Nat.le_of_ble_eq_true rfl) (fun E h9 => (Or.inr ⟨(pf_X4_script_2 a v r x y z N L dp hN hN1 hL hL1 hlo hdo hdp hq_5 hq_10 c_11 c_38 (by have h8 := h9.2; rw [← eoi] at h8; exact h8)), h9.1⟩)) (fun _ H locs hq hP hD hS => ?_)
      have hq_65 : (¬ nI z.toNatClampNeg = 0 ∧ r 10 z.toNatClampNeg = -1) ∧ ¬ wiF (r 10) (r 2) z 30 (r 2 x.toNatClampNeg) = true := by rw [eoi]; exact hq
      have hP : va_P D vwCl (wX cI a v r) H := hP
      have hD : va_D A (wX cI a v r) := hD
      refine lv_aload hx hb dX4_script_65 (lv_at hl 0 rfl) ?_
      refine lv_iload_n hx hb dX4_script_67 rfl (lv_at hl 2 rfl) ?_
      refine lv_iload_n hx hb dX4_script_68 rfl (lv_at hl 4 rfl) ?_
      refine ra_st (f := (r 6)) C0 hP hD hS 6 rfl x.toNatClampNeg hax.1 (by omega) (by decide) dX4_script_69 (fun H locs hP hD hS => ?_)
      have hset : ∀ (g_ : Nat → Int32), (wX cI a v r).set 6 (a 6, .inl (cI, 120, .inl g_)) = (wX cI a v (rU r 6 g_)) := fun _ => rfl
      rw [hset] at hP hD
      refine lv_aload_n hx hb dX4_script_70 rfl (lv_at hl 1 rfl) ?_
      refine va_get (D := D) (ci := 4) (v := .ref (a 1)) (C := RX4) (T := TX4) (N := 2) hx hb hts hin_X4 hown hK hP 0 rfl rfl 0 (by decide) hf12 (fun _ h9 => h9) rfl dX4_script_71 ?_
      refine va_get (D := D) (ci := 0) (v := .ref (a 10)) (C := RX0) (T := TX0) (N := 14) hx hb hts hin_X0 hown hK hP 1 rfl rfl 11 (by decide) hf82 (fun _ h9 => h9) rfl dX4_script_74 ?_
      refine lv_iload_n hx hb dX4_script_77 rfl (lv_at hl 4 rfl) ?_
      refine lv_iload_n hx hb dX4_script_78 rfl (lv_at hl 2 rfl) ?_
      refine ra_st (f := (r 10)) C0 hP hD hS 10 rfl z.toNatClampNeg haz.1 haz.2 (by decide) dX4_script_79 (fun H locs hP hD hS => ?_)
      have hset : ∀ (f6_ : Nat → Int32) (g_ : Nat → Int32), (wX cI a v (rU r 6 f6_)).set 10 (a 10, .inl (cI, 30, .inl g_)) = (wX cI a v (rU (rU r 6 f6_) 10 g_)) := fun _ _ => rfl
      rw [hset] at hP hD
      refine lv_aload_n hx hb dX4_script_80 rfl (lv_at hl 1 rfl) ?_
      refine va_get (D := D) (ci := 4) (v := .ref (a 1)) (C := RX4) (T := TX4) (N := 2) hx hb hts hin_X4 hown hK hP 0 rfl rfl 0 (by decide) hf12 (fun _ h9 => h9) rfl dX4_script_81 ?_
      refine lv_iload_n hx hb dX4_script_84 rfl (lv_at hl 2 rfl) ?_
      refine lv_eqi hax.1 ?_
      refine kcD (ans := ((if (r 5) x.toNatClampNeg = -1 then 0 else 1) + (if (upd (r 6) x.toNatClampNeg z) x.toNatClampNeg = -1 then 0 else 1))) C0 hP hD hS (c_X0_scriptsOf l D cI a v (rU (rU r 6 (upd (r 6) x.toNatClampNeg z)) 10 (upd (r 10) z.toNatClampNeg x)) x.toNatClampNeg (by omega)) (cwV 1 hts gX4_script_X0_scriptsOf rfl rfl rfl (by decide +kernel) ⟨Nat.le_of_ble_eq_true rfl, Nat.le_of_ble_eq_true rfl⟩) 1 0 rfl rfl rfl hl.1 rfl (Nat.le_of_ble_eq_true rfl) dX4_script_85 ⟨Nat.le_of_ble_eq_true rfl, Nat.le_of_ble_eq_true rfl⟩ (fun H locs hP hD hS => ?_)
      exact kx_iret C0 (v, (rU (rU r 6 (upd (r 6) x.toNatClampNeg z)) 10 (upd (r 10) z.toNatClampNeg x))) hP hD hS ⟨(pf_X4_script_3 a v r x y z N L dp hN hN1 hL hL1 hlo hdo hdp hq_5 hq_10 c_11 c_38 hq_65), (by rw [if_pos c_11])⟩ (Nat.le_of_ble_eq_true rfl) (Nat.le_of_ble_eq_true rfl) dX4_script_88
    · skip
      exact kx_throw (cls := "java/lang/IllegalStateException") (text := "the atom has such a script") C0 hex hst hP hD hS hl.1 (by decide) (by decide +kernel) (by decide +kernel) (by decide) (fun w h => List.mem_cons_of_mem _ (List.mem_append_left _ (List.mem_append_right _ h))) tno_74 tgd_74 dX4_script_41 dX4_script_44 dX4_script_45 dX4_script_47 dX4_script_50 (Nat.le_of_ble_eq_true rfl) (Nat.le_of_ble_eq_true rfl) (Nat.le_of_ble_eq_true rfl) (Nat.le_of_ble_eq_true rfl) (Nat.le_of_ble_eq_true rfl) (Nat.le_of_ble_eq_true rfl) (Or.inr ⟨(pf_X4_script_4 a v r x y z N L dp hN hN1 hL hL1 hlo hdo hdp hq_5 hq_10 c_11 c_38), rfl⟩)
  · skip
    refine lv_aload_n hx hb dX4_script_14 rfl (lv_at hl 0 rfl) ?_
    refine va_get (D := D) (ci := 4) (v := .ref (a 1)) (C := RX4) (T := TX4) (N := 2) hx hb hts hin_X4 hown hK hP 0 rfl rfl 0 (by decide) hf12 (fun _ h9 => h9) rfl dX4_script_15 ?_
    refine va_get (D := D) (ci := 0) (v := .ref (a 5)) (C := RX0) (T := TX0) (N := 14) hx hb hts hin_X0 hown hK hP 1 rfl rfl 6 (by decide) hf63 (fun _ h9 => h9) rfl dX4_script_18 ?_
    refine lv_goto (tgt := 31) hx hb dX4_script_21 (by decide) ?_
    refine lv_astore (lv' := [(4, .ref (a 5)), (0, .ref (a 0)), (1, .int x), (2, .int y), (3, .int z)]) hx hb dX4_script_31 hl (by decide) rfl (fun ls hl => ?_)
    have hax := at_ix hq_5 hN1
    have haz := ls_ix hq_10 hL hL1
    obtain ⟨oi, eoi, hoi⟩ := hlo _ hax.2
    have hoi30 : oi < 30 := by omega
    refine lv_aload hx hb dX4_script_33 (lv_at hl 0 rfl) ?_
    refine lv_iload_n hx hb dX4_script_35 rfl (lv_at hl 2 rfl) ?_
    refine ra_ld (f := (r 5)) C0 hP 5 rfl x.toNatClampNeg hax.1 (by omega) (by decide) dX4_script_36 ?_
    refine lv_iconst (v := (-1)) hx hb dX4_script_37 (by decide) ?_
    refine lv_icmp_eq (tgt := 51) hx hb dX4_script_38 (by decide) (fun c_38 => ?_) (fun c_38 => ?_)
    · skip
      refine lv_aload_n hx hb dX4_script_51 rfl (lv_at hl 1 rfl) ?_
      refine lv_iload_n hx hb dX4_script_52 rfl (lv_at hl 4 rfl) ?_
      refine lv_aload_n hx hb dX4_script_53 rfl (lv_at hl 1 rfl) ?_
      refine va_get (D := D) (ci := 4) (v := .ref (a 1)) (C := RX4) (T := TX4) (N := 2) hx hb hts hin_X4 hown hK hP 0 rfl rfl 0 (by decide) hf12 (fun _ h9 => h9) rfl dX4_script_54 ?_
      refine va_get (D := D) (ci := 0) (v := .ref (a 2)) (C := RX0) (T := TX0) (N := 14) hx hb hts hin_X0 hown hK hP 1 rfl rfl 3 (by decide) hf75 (fun _ h9 => h9) rfl dX4_script_57 ?_
      refine lv_iload_n hx hb dX4_script_60 rfl (lv_at hl 2 rfl) ?_
      refine ra_ld (f := (r 2)) C0 hP 2 rfl x.toNatClampNeg hax.1 (by omega) (by decide) dX4_script_61 ?_
      refine lv_eqi eoi ?_
      refine kcXv C0 hex hP hD hS (c_X4_needFree l D cI a v r z oi dp hst (ls_ix hq_10 hL hL1).1 (ls_ix hq_10 hL hL1).2 hoi30 (hdo oi hoi) hdp) (cwV 2 hts gX4_script_X4_needFree rfl rfl rfl (by decide +kernel) ⟨Nat.le_of_ble_eq_true rfl, Nat.le_of_ble_eq_true rfl⟩) 0 4 rfl rfl rfl hl.1 rfl (Nat.le_of_ble_eq_true rfl) dX4_script_62 ⟨Nat.le_of_ble_eq_true rfl, Nat.le_of_ble_eq_true rfl⟩ (Nat.le_of_ble_eq_true rfl) (Nat.le_of_ble_eq_true rfl) (fun E h9 => (Or.inr ⟨(pf_X4_script_5 a v r x y z N L dp hN hN1 hL hL1 hlo hdo hdp hq_5 hq_10 c_11 c_38 (by have h8 := h9.2; rw [← eoi] at h8; exact h8)), h9.1⟩)) (fun _ H locs hq hP hD hS => ?_)
      have hq_65 : (¬ nI z.toNatClampNeg = 0 ∧ r 10 z.toNatClampNeg = -1) ∧ ¬ wiF (r 10) (r 2) z 30 (r 2 x.toNatClampNeg) = true := by rw [eoi]; exact hq
      have hP : va_P D vwCl (wX cI a v r) H := hP
      have hD : va_D A (wX cI a v r) := hD
      refine lv_aload hx hb dX4_script_65 (lv_at hl 0 rfl) ?_
      refine lv_iload_n hx hb dX4_script_67 rfl (lv_at hl 2 rfl) ?_
      refine lv_iload_n hx hb dX4_script_68 rfl (lv_at hl 4 rfl) ?_
      refine ra_st (f := (r 5)) C0 hP hD hS 5 rfl x.toNatClampNeg hax.1 (by omega) (by decide) dX4_script_69 (fun H locs hP hD hS => ?_)
      have hset : ∀ (g_ : Nat → Int32), (wX cI a v r).set 5 (a 5, .inl (cI, 120, .inl g_)) = (wX cI a v (rU r 5 g_)) := fun _ => rfl
      rw [hset] at hP hD
      refine lv_aload_n hx hb dX4_script_70 rfl (lv_at hl 1 rfl) ?_
      refine va_get (D := D) (ci := 4) (v := .ref (a 1)) (C := RX4) (T := TX4) (N := 2) hx hb hts hin_X4 hown hK hP 0 rfl rfl 0 (by decide) hf12 (fun _ h9 => h9) rfl dX4_script_71 ?_
      refine va_get (D := D) (ci := 0) (v := .ref (a 10)) (C := RX0) (T := TX0) (N := 14) hx hb hts hin_X0 hown hK hP 1 rfl rfl 11 (by decide) hf82 (fun _ h9 => h9) rfl dX4_script_74 ?_
      refine lv_iload_n hx hb dX4_script_77 rfl (lv_at hl 4 rfl) ?_
      refine lv_iload_n hx hb dX4_script_78 rfl (lv_at hl 2 rfl) ?_
      refine ra_st (f := (r 10)) C0 hP hD hS 10 rfl z.toNatClampNeg haz.1 haz.2 (by decide) dX4_script_79 (fun H locs hP hD hS => ?_)
      have hset : ∀ (f5_ : Nat → Int32) (g_ : Nat → Int32), (wX cI a v (rU r 5 f5_)).set 10 (a 10, .inl (cI, 30, .inl g_)) = (wX cI a v (rU (rU r 5 f5_) 10 g_)) := fun _ _ => rfl
      rw [hset] at hP hD
      refine lv_aload_n hx hb dX4_script_80 rfl (lv_at hl 1 rfl) ?_
      refine va_get (D := D) (ci := 4) (v := .ref (a 1)) (C := RX4) (T := TX4) (N := 2) hx hb hts hin_X4 hown hK hP 0 rfl rfl 0 (by decide) hf12 (fun _ h9 => h9) rfl dX4_script_81 ?_
      refine lv_iload_n hx hb dX4_script_84 rfl (lv_at hl 2 rfl) ?_
      refine lv_eqi hax.1 ?_
      refine kcD (ans := ((if (upd (r 5) x.toNatClampNeg z) x.toNatClampNeg = -1 then 0 else 1) + (if (r 6) x.toNatClampNeg = -1 then 0 else 1))) C0 hP hD hS (c_X0_scriptsOf l D cI a v (rU (rU r 5 (upd (r 5) x.toNatClampNeg z)) 10 (upd (r 10) z.toNatClampNeg x)) x.toNatClampNeg (by omega)) (cwV 1 hts gX4_script_X0_scriptsOf rfl rfl rfl (by decide +kernel) ⟨Nat.le_of_ble_eq_true rfl, Nat.le_of_ble_eq_true rfl⟩) 1 0 rfl rfl rfl hl.1 rfl (Nat.le_of_ble_eq_true rfl) dX4_script_85 ⟨Nat.le_of_ble_eq_true rfl, Nat.le_of_ble_eq_true rfl⟩ (fun H locs hP hD hS => ?_)
      exact kx_iret C0 (v, (rU (rU r 5 (upd (r 5) x.toNatClampNeg z)) 10 (upd (r 10) z.toNatClampNeg x))) hP hD hS ⟨(pf_X4_script_6 a v r x y z N L dp hN hN1 hL hL1 hlo hdo hdp hq_5 hq_10 c_11 c_38 hq_65), (by rw [if_neg c_11])⟩ (Nat.le_of_ble_eq_true rfl) (Nat.le_of_ble_eq_true rfl) dX4_script_88
    · skip
      exact kx_throw (cls := "java/lang/IllegalStateException") (text := "the atom has such a script") C0 hex hst hP hD hS hl.1 (by decide) (by decide +kernel) (by decide +kernel) (by decide) (fun w h => List.mem_cons_of_mem _ (List.mem_append_left _ (List.mem_append_right _ h))) tno_74 tgd_74 dX4_script_41 dX4_script_44 dX4_script_45 dX4_script_47 dX4_script_50 (Nat.le_of_ble_eq_true rfl) (Nat.le_of_ble_eq_true rfl) (Nat.le_of_ble_eq_true rfl) (Nat.le_of_ble_eq_true rfl) (Nat.le_of_ble_eq_true rfl) (Nat.le_of_ble_eq_true rfl) (Or.inr ⟨(pf_X4_script_7 a v r x y z N L dp hN hN1 hL hL1 hlo hdo hdp hq_5 hq_10 c_11 c_38), rfl⟩)

set_option maxHeartbeats 1500000 in
theorem pf_X4_run_0 (a : Nat → Nat) (v : Nat → Int32) (r : Nat → Nat → Int32) (qq : Rw) (x : Int32) (N L : Nat) (dp sl : Nat → Nat) (hT : LY qq N dp sl) (hB : ∀ d, HBD qq N dp d) (hr : RQ qq N v r) (hcl : ∀ k, k < 30 → (PL qq N 30 (nI k) 0 0 0 0).length ≤ 150) (hN : v 0 = nI N) (hN1 : N ≤ 120) (hL : v 1 = nI L) (hL1 : L ≤ 30) (hz9 : ¬ (0 ≤ x ∧ x < v 1)) : cR v x = 1 := by
  unfold cR; (repeat' split) <;> first | rfl | contradiction | (exfalso; simp_all; done)
set_option maxHeartbeats 1500000 in
theorem pf_X4_run_1 (a : Nat → Nat) (v : Nat → Int32) (r : Nat → Nat → Int32) (qq : Rw) (x : Int32) (N L : Nat) (dp sl : Nat → Nat) (hT : LY qq N dp sl) (hB : ∀ d, HBD qq N dp d) (hr : RQ qq N v r) (hcl : ∀ k, k < 30 → (PL qq N 30 (nI k) 0 0 0 0).length ≤ 150) (hN : v 0 = nI N) (hN1 : N ≤ 120) (hL : v 1 = nI L) (hL1 : L ≤ 30) (hq_5 : 0 ≤ x ∧ x < v 1) : cR v x = 0 := by
  unfold cR; (repeat' split) <;> first | rfl | contradiction | (exfalso; simp_all; done)
set_option maxHeartbeats 1500000 in
set_option maxRecDepth 100000 in
theorem c_X4_run (l : Launch) (D : va_G) (cI : ClassId) (a : Nat → Nat) (v : Nat → Int32) (r : Nat → Nat → Int32) (qq : Rw) (x : Int32) (N L : Nat) (dp sl : Nat → Nat) (hst : l.stackTraces = false) (hT : LY qq N dp sl) (hB : ∀ d, HBD qq N dp d) (hr : RQ qq N v r) (hcl : ∀ k, k < 30 → (PL qq N 30 (nI k) 0 0 0 0).length ≤ 150) (hN : v 0 = nI N) (hN1 : N ≤ 120) (hL : v 1 = nI L) (hL1 : L ≤ 30) : KX l D cI yX4_run wsX4_run ({ frames := 126, cells := 1, slots := 6, locals := 6221 }) [.ref (a 0), .int x] (wX cI a v r) 1 6 (fun u : (Nat → Int32) × Rw => wX cI a u.1 u.2) (fun q u => cR v x = 0 ∧ q = nI (PL qq N 30 (nI x.toNatClampNeg) 0 0 0 0).length ∧ u.1 = vU (vU (vU (vU v 4 (nI (PL qq N 30 (nI x.toNatClampNeg) 0 0 0 0).length)) 5 (ML qq N 30 (nI x.toNatClampNeg) 0 0).1) 6 (ML qq N 30 (nI x.toNatClampNeg) 0 0).2.1) 7 (ML qq N 30 (nI x.toNatClampNeg) 0 0).2.2 ∧ SB r u.2 ∧ u.2 19 = ptI (r 19) 0 (PL qq N 30 (nI x.toNatClampNeg) 0 0 0 0)) (fun E => (cR v x = 1 ∧ E = "java/util/NoSuchElementException")) := by
  refine KX.of (cc := cX4_run) (nL := 2) (ret := (some .int)) (by decide) rfl (Nat.le_of_ble_eq_true rfl) ?_
  intro pg9 en9 s m args below meth cd9 A ls C0 hex hP hD hS hl
  have hx := C0.1.1
  have hb := C0.1.2.1
  have hml := C0.1.2.2.1
  have hown : s.vm.findClass RX4 = some m.cls := C0.1.2.2.2.1
  have hts : ∀ w ∈ wsX4_run, w.before args s = true := C0.1.2.2.2.2
  have hK := C0.2.2.2.1
  have hin_X4 : ∀ w ∈ wsX40, w ∈ wsX4_run := fun w h => List.mem_cons_of_mem _ (List.mem_append_left _ (List.mem_append_left _ (List.mem_append_left _ (List.mem_append_left _ (List.mem_append_left _ (List.mem_append_right _ h))))))
  have hf21 : (Cond.fieldLink RX4 21 "FormulaLists" "layout" "LFormulaLists$Layout;").before args s = true := hts _ (by decide +kernel)
  have hin_X3 : ∀ w ∈ wsX30, w ∈ wsX4_run := fun w h => List.mem_cons_of_mem _ (List.mem_append_left _ (List.mem_append_left _ (List.mem_append_left _ (List.mem_append_left _ (List.mem_append_right _ h)))))
  have hf118 : (Cond.fieldLink RX4 118 "FormulaLists$Layout" "items" "LFormulaLists$Items;").before args s = true := hts _ (by decide +kernel)
  have hin_X2 : ∀ w ∈ wsX20, w ∈ wsX4_run := fun w h => List.mem_cons_of_mem _ (List.mem_append_left _ (List.mem_append_left _ (List.mem_append_left _ (List.mem_append_right _ h))))
  have hf122 : (Cond.fieldLink RX4 122 "FormulaLists$Items" "count" "I").before args s = true := hts _ (by decide +kernel)
  have hl : lv_has ls 2 [(0, .ref (a 0)), (1, .int x)] := hl
  have hP : va_P D vwCl (wX cI a v r) s.heap := hP
  refine lv_aload_n hx hb dX4_run_0 rfl (lv_at hl 0 rfl) ?_
  refine lv_iload_n hx hb dX4_run_1 rfl (lv_at hl 1 rfl) ?_
  refine kcXv C0 hex hP hD hS (c_X4_needList l D cI a v r x  hst ) (cwV 1 hts gX4_run_X4_needList rfl rfl rfl (by decide +kernel) ⟨Nat.le_of_ble_eq_true rfl, Nat.le_of_ble_eq_true rfl⟩) 0 4 rfl rfl rfl hl.1 rfl (Nat.le_of_ble_eq_true rfl) dX4_run_2 ⟨Nat.le_of_ble_eq_true rfl, Nat.le_of_ble_eq_true rfl⟩ (Nat.le_of_ble_eq_true rfl) (Nat.le_of_ble_eq_true rfl) (fun E h9 => ⟨(pf_X4_run_0 a v r qq x N L dp sl hT hB hr hcl hN hN1 hL hL1 h9.2), h9.1⟩) (fun _ H locs hq hP hD hS => ?_)
  have hq_5 : 0 ≤ x ∧ x < v 1 := hq
  have hP : va_P D vwCl (wX cI a v r) H := hP
  have hD : va_D A (wX cI a v r) := hD
  have hax := ls_ix hq_5 hL hL1
  refine lv_aload_n hx hb dX4_run_5 rfl (lv_at hl 0 rfl) ?_
  refine va_get (D := D) (ci := 4) (v := .ref (a 20)) (C := RX4) (T := TX4) (N := 2) hx hb hts hin_X4 hown hK hP 0 rfl rfl 1 (by decide) hf21 (fun _ h9 => h9) rfl dX4_run_6 ?_
  refine lv_iload_n hx hb dX4_run_9 rfl (lv_at hl 1 rfl) ?_
  refine lv_eqi hax.1 ?_
  refine kcVv C0 hP hD hS (c_X3_layOut l D cI a v r qq N x.toNatClampNeg dp sl hT hB hr hN hax.2 (hcl _ hax.2)) (cwV 1 hts gX4_run_X3_layOut rfl rfl rfl (by decide +kernel) ⟨Nat.le_of_ble_eq_true rfl, Nat.le_of_ble_eq_true rfl⟩) 20 3 rfl rfl rfl hl.1 rfl (Nat.le_of_ble_eq_true rfl) dX4_run_10 ⟨Nat.le_of_ble_eq_true rfl, Nat.le_of_ble_eq_true rfl⟩ (fun u H locs hq hP hD hS => ?_)
  obtain ⟨u_1, rfl⟩ : ∃ z9, z9 = u := ⟨_, rfl⟩
  have hq9 := hq
  have hP : va_P D vwCl (wX cI a (vU (vU (vU (vU v 4 (nI (PL qq N 30 (nI x.toNatClampNeg) 0 0 0 0).length)) 5 ((ML qq N 30 (nI x.toNatClampNeg) 0 0).1)) 6 ((ML qq N 30 (nI x.toNatClampNeg) 0 0).2.1)) 7 ((ML qq N 30 (nI x.toNatClampNeg) 0 0).2.2)) u_1) H := hP
  have hD : va_D A (wX cI a (vU (vU (vU (vU v 4 (nI (PL qq N 30 (nI x.toNatClampNeg) 0 0 0 0).length)) 5 ((ML qq N 30 (nI x.toNatClampNeg) 0 0).1)) 6 ((ML qq N 30 (nI x.toNatClampNeg) 0 0).2.1)) 7 ((ML qq N 30 (nI x.toNatClampNeg) 0 0).2.2)) u_1) := hD
  refine lv_aload_n hx hb dX4_run_13 rfl (lv_at hl 0 rfl) ?_
  refine va_get (D := D) (ci := 4) (v := .ref (a 20)) (C := RX4) (T := TX4) (N := 2) hx hb hts hin_X4 hown hK hP 0 rfl rfl 1 (by decide) hf21 (fun _ h9 => h9) rfl dX4_run_14 ?_
  refine va_get (D := D) (ci := 3) (v := .ref (a 18)) (C := RX3) (T := TX3) (N := 6) hx hb hts hin_X3 hown hK hP 20 rfl rfl 2 (by decide) hf118 (fun _ h9 => h9) rfl dX4_run_17 ?_
  refine va_get (D := D) (ci := 2) (v := .int (nI (PL qq N 30 (nI x.toNatClampNeg) 0 0 0 0).length)) (C := RX2) (T := TX2) (N := 2) hx hb hts hin_X2 hown hK hP 18 rfl rfl 0 (by decide) hf122 (fun _ h9 => h9) rfl dX4_run_20 ?_
  exact kx_iret C0 ((vU (vU (vU (vU v 4 (nI (PL qq N 30 (nI x.toNatClampNeg) 0 0 0 0).length)) 5 ((ML qq N 30 (nI x.toNatClampNeg) 0 0).1)) 6 ((ML qq N 30 (nI x.toNatClampNeg) 0 0).2.1)) 7 ((ML qq N 30 (nI x.toNatClampNeg) 0 0).2.2)), u_1) hP hD hS ⟨(pf_X4_run_1 a v r qq x N L dp sl hT hB hr hcl hN hN1 hL hL1 hq_5), ⟨rfl, rfl, hq9.1, hq9.2⟩⟩ (Nat.le_of_ble_eq_true rfl) (Nat.le_of_ble_eq_true rfl) dX4_run_23

set_option maxHeartbeats 1500000 in
theorem pf_X4_matrix_0 (a : Nat → Nat) (v : Nat → Int32) (r : Nat → Nat → Int32) (x y : Int32) (N L o k0 : Nat) (dp : Nat → Nat) (hN : v 0 = nI N) (hN1 : N ≤ 120) (hL : v 1 = nI L) (hL1 : L ≤ 30) (hL0 : 1 ≤ L) (hO : v 2 = nI o) (ho1 : o < 30) (hdo : ∀ j, j < L → dp j ≤ 29) (hoL : o < L) (hdp : ∀ j, j < 30 → r 10 j = -1 ∨ ∃ n i, r 10 j = nI n ∧ n < 120 ∧ r 2 n = nI i ∧ i < 30 ∧ dp i < dp j) (hk0 : v 3 = nI k0) (hkb : ∀ f0, f0 ≤ L → k0 + cnB (okC (r 10) (v 2)) f0 (L - f0) ≤ 30) (hz9 : ¬ (v 0 < 120)) : cM v = 1 := by
  unfold cM; (repeat' split) <;> first | rfl | contradiction | (exfalso; simp_all; done)
set_option maxHeartbeats 1500000 in
theorem pf_X4_matrix_1 (a : Nat → Nat) (v : Nat → Int32) (r : Nat → Nat → Int32) (x y : Int32) (N L o k0 : Nat) (dp : Nat → Nat) (hN : v 0 = nI N) (hN1 : N ≤ 120) (hL : v 1 = nI L) (hL1 : L ≤ 30) (hL0 : 1 ≤ L) (hO : v 2 = nI o) (ho1 : o < 30) (hdo : ∀ j, j < L → dp j ≤ 29) (hoL : o < L) (hdp : ∀ j, j < 30 → r 10 j = -1 ∨ ∃ n i, r 10 j = nI n ∧ n < 120 ∧ r 2 n = nI i ∧ i < 30 ∧ dp i < dp j) (hk0 : v 3 = nI k0) (hkb : ∀ f0, f0 ≤ L → k0 + cnB (okC (r 10) (v 2)) f0 (L - f0) ≤ 30) (hq_4 : v 0 < 120) (c_6 : x < 1) : cM v = 0 := by
  unfold cM; (repeat' split) <;> first | rfl | contradiction | (exfalso; simp_all; done)
set_option maxHeartbeats 1500000 in
theorem pf_X4_matrix_2 (a : Nat → Nat) (v : Nat → Int32) (r : Nat → Nat → Int32) (x y : Int32) (N L o k0 : Nat) (dp : Nat → Nat) (hN : v 0 = nI N) (hN1 : N ≤ 120) (hL : v 1 = nI L) (hL1 : L ≤ 30) (hL0 : 1 ≤ L) (hO : v 2 = nI o) (ho1 : o < 30) (hdo : ∀ j, j < L → dp j ≤ 29) (hoL : o < L) (hdp : ∀ j, j < 30 → r 10 j = -1 ∨ ∃ n i, r 10 j = nI n ∧ n < 120 ∧ r 2 n = nI i ∧ i < 30 ∧ dp i < dp j) (hk0 : v 3 = nI k0) (hkb : ∀ f0, f0 ≤ L → k0 + cnB (okC (r 10) (v 2)) f0 (L - f0) ≤ 30) (hq_4 : v 0 < 120) (c_6 : ¬ (x < 1)) (c_11 : 5 < x) : cM v = 0 := by
  unfold cM; (repeat' split) <;> first | rfl | contradiction | (exfalso; simp_all; done)
set_option maxHeartbeats 1500000 in
theorem pf_X4_matrix_3 (a : Nat → Nat) (v : Nat → Int32) (r : Nat → Nat → Int32) (x y : Int32) (N L o k0 : Nat) (dp : Nat → Nat) (hN : v 0 = nI N) (hN1 : N ≤ 120) (hL : v 1 = nI L) (hL1 : L ≤ 30) (hL0 : 1 ≤ L) (hO : v 2 = nI o) (ho1 : o < 30) (hdo : ∀ j, j < L → dp j ≤ 29) (hoL : o < L) (hdp : ∀ j, j < 30 → r 10 j = -1 ∨ ∃ n i, r 10 j = nI n ∧ n < 120 ∧ r 2 n = nI i ∧ i < 30 ∧ dp i < dp j) (hk0 : v 3 = nI k0) (hkb : ∀ f0, f0 ≤ L → k0 + cnB (okC (r 10) (v 2)) f0 (L - f0) ≤ 30) (hq_4 : v 0 < 120) (c_6 : ¬ (x < 1)) (c_11 : ¬ (5 < x)) (c_16 : y < 1) : cM v = 0 := by
  unfold cM; (repeat' split) <;> first | rfl | contradiction | (exfalso; simp_all; done)
set_option maxHeartbeats 1500000 in
theorem pf_X4_matrix_4 (a : Nat → Nat) (v : Nat → Int32) (r : Nat → Nat → Int32) (x y : Int32) (N L o k0 : Nat) (dp : Nat → Nat) (hN : v 0 = nI N) (hN1 : N ≤ 120) (hL : v 1 = nI L) (hL1 : L ≤ 30) (hL0 : 1 ≤ L) (hO : v 2 = nI o) (ho1 : o < 30) (hdo : ∀ j, j < L → dp j ≤ 29) (hoL : o < L) (hdp : ∀ j, j < 30 → r 10 j = -1 ∨ ∃ n i, r 10 j = nI n ∧ n < 120 ∧ r 2 n = nI i ∧ i < 30 ∧ dp i < dp j) (hk0 : v 3 = nI k0) (hkb : ∀ f0, f0 ≤ L → k0 + cnB (okC (r 10) (v 2)) f0 (L - f0) ≤ 30) (hq_4 : v 0 < 120) (c_6 : ¬ (x < 1)) (c_11 : ¬ (5 < x)) (c_16 : ¬ (y < 1)) (c_21 : y ≤ 5) (c_39 : (ffF (okC (r 10) (v 2)) (L - 1) (x.toNatClampNeg * y.toNatClampNeg)) = (-1)) : cM v = 0 := by
  unfold cM; (repeat' split) <;> first | rfl | contradiction | (exfalso; simp_all; done)
set_option maxHeartbeats 1500000 in
theorem pf_X4_matrix_5 (a : Nat → Nat) (v : Nat → Int32) (r : Nat → Nat → Int32) (x y : Int32) (N L o k0 : Nat) (dp : Nat → Nat) (hN : v 0 = nI N) (hN1 : N ≤ 120) (hL : v 1 = nI L) (hL1 : L ≤ 30) (hL0 : 1 ≤ L) (hO : v 2 = nI o) (ho1 : o < 30) (hdo : ∀ j, j < L → dp j ≤ 29) (hoL : o < L) (hdp : ∀ j, j < 30 → r 10 j = -1 ∨ ∃ n i, r 10 j = nI n ∧ n < 120 ∧ r 2 n = nI i ∧ i < 30 ∧ dp i < dp j) (hk0 : v 3 = nI k0) (hkb : ∀ f0, f0 ≤ L → k0 + cnB (okC (r 10) (v 2)) f0 (L - f0) ≤ 30) (hq_4 : v 0 < 120) (c_6 : ¬ (x < 1)) (c_11 : ¬ (5 < x)) (c_16 : ¬ (y < 1)) (c_21 : y ≤ 5) (c_39 : ¬ ((ffF (okC (r 10) (v 2)) (L - 1) (x.toNatClampNeg * y.toNatClampNeg)) = (-1))) (c_50 : (bI (anB (fun q => okC (r 10) (v 2) q && wiF (r 10) (r 2) (nI q) 30 (nI o)) (ffF (okC (r 10) (v 2)) (L - 1) (x.toNatClampNeg * y.toNatClampNeg)).toNatClampNeg (L - (ffF (okC (r 10) (v 2)) (L - 1) (x.toNatClampNeg * y.toNatClampNeg)).toNatClampNeg) = true)) = 0) : cM v = 0 := by
  unfold cM; (repeat' split) <;> first | rfl | contradiction | (exfalso; simp_all; done)
set_option maxHeartbeats 1500000 in
theorem pf_X4_matrix_6 (a : Nat → Nat) (v : Nat → Int32) (r : Nat → Nat → Int32) (x y : Int32) (N L o k0 : Nat) (dp : Nat → Nat) (hN : v 0 = nI N) (hN1 : N ≤ 120) (hL : v 1 = nI L) (hL1 : L ≤ 30) (hL0 : 1 ≤ L) (hO : v 2 = nI o) (ho1 : o < 30) (hdo : ∀ j, j < L → dp j ≤ 29) (hoL : o < L) (hdp : ∀ j, j < 30 → r 10 j = -1 ∨ ∃ n i, r 10 j = nI n ∧ n < 120 ∧ r 2 n = nI i ∧ i < 30 ∧ dp i < dp j) (hk0 : v 3 = nI k0) (hkb : ∀ f0, f0 ≤ L → k0 + cnB (okC (r 10) (v 2)) f0 (L - f0) ≤ 30) (hq_4 : v 0 < 120) (c_6 : ¬ (x < 1)) (c_11 : ¬ (5 < x)) (c_16 : ¬ (y < 1)) (c_21 : y ≤ 5) (c_39 : ¬ ((ffF (okC (r 10) (v 2)) (L - 1) (x.toNatClampNeg * y.toNatClampNeg)) = (-1))) (c_50 : ¬ ((bI (anB (fun q => okC (r 10) (v 2) q && wiF (r 10) (r 2) (nI q) 30 (nI o)) (ffF (okC (r 10) (v 2)) (L - 1) (x.toNatClampNeg * y.toNatClampNeg)).toNatClampNeg (L - (ffF (okC (r 10) (v 2)) (L - 1) (x.toNatClampNeg * y.toNatClampNeg)).toNatClampNeg) = true)) = 0)) : cM v = 0 := by
  unfold cM; (repeat' split) <;> first | rfl | contradiction | (exfalso; simp_all; done)
set_option maxHeartbeats 1500000 in
theorem pf_X4_matrix_7 (a : Nat → Nat) (v : Nat → Int32) (r : Nat → Nat → Int32) (x y : Int32) (N L o k0 : Nat) (dp : Nat → Nat) (hN : v 0 = nI N) (hN1 : N ≤ 120) (hL : v 1 = nI L) (hL1 : L ≤ 30) (hL0 : 1 ≤ L) (hO : v 2 = nI o) (ho1 : o < 30) (hdo : ∀ j, j < L → dp j ≤ 29) (hoL : o < L) (hdp : ∀ j, j < 30 → r 10 j = -1 ∨ ∃ n i, r 10 j = nI n ∧ n < 120 ∧ r 2 n = nI i ∧ i < 30 ∧ dp i < dp j) (hk0 : v 3 = nI k0) (hkb : ∀ f0, f0 ≤ L → k0 + cnB (okC (r 10) (v 2)) f0 (L - f0) ≤ 30) (hq_4 : v 0 < 120) (c_6 : ¬ (x < 1)) (c_11 : ¬ (5 < x)) (c_16 : ¬ (y < 1)) (c_21 : ¬ (y ≤ 5)) : cM v = 0 := by
  unfold cM; (repeat' split) <;> first | rfl | contradiction | (exfalso; simp_all; done)
set_option maxHeartbeats 1500000 in
set_option maxRecDepth 100000 in
theorem c_X4_matrix (l : Launch) (D : va_G) (cI : ClassId) (a : Nat → Nat) (v : Nat → Int32) (r : Nat → Nat → Int32) (x y : Int32) (N L o k0 : Nat) (dp : Nat → Nat) (hst : l.stackTraces = false) (hN : v 0 = nI N) (hN1 : N ≤ 120) (hL : v 1 = nI L) (hL1 : L ≤ 30) (hL0 : 1 ≤ L) (hO : v 2 = nI o) (ho1 : o < 30) (hdo : ∀ j, j < L → dp j ≤ 29) (hoL : o < L) (hdp : ∀ j, j < 30 → r 10 j = -1 ∨ ∃ n i, r 10 j = nI n ∧ n < 120 ∧ r 2 n = nI i ∧ i < 30 ∧ dp i < dp j) (hk0 : v 3 = nI k0) (hkb : ∀ f0, f0 ≤ L → k0 + cnB (okC (r 10) (v 2)) f0 (L - f0) ≤ 30) : KX l D cI yX4_matrix wsX4_matrix ({ frames := 7, cells := 1, slots := 6, locals := 102 }) [.ref (a 0), .int x, .int y] (wX cI a v r) 1 6 (fun u : (Nat → Int32) × Rw => wX cI a u.1 u.2) (fun q u => cM v = 0 ∧ (q, u.1, u.2) = (if x < 1 ∨ 5 < x ∨ y < 1 ∨ 5 < y then (0, v, r) else if (ffF (okC (r 10) (v 2)) (L - 1) (x.toNatClampNeg * y.toNatClampNeg)) = -1 ∨ anB (fun q => okC (r 10) (v 2) q && wiF (r 10) (r 2) (nI q) 30 (nI o)) (ffF (okC (r 10) (v 2)) (L - 1) (x.toNatClampNeg * y.toNatClampNeg)).toNatClampNeg (L - (ffF (okC (r 10) (v 2)) (L - 1) (x.toNatClampNeg * y.toNatClampNeg)).toNatClampNeg) = true then (0, v, r) else (v 0 + 1, vU (vU v 0 (v 0 + 1)) 3 (nI (k0 + cnB (okC (r 10) (v 2)) (ffF (okC (r 10) (v 2)) (L - 1) (x.toNatClampNeg * y.toNatClampNeg)).toNatClampNeg (L - (ffF (okC (r 10) (v 2)) (L - 1) (x.toNatClampNeg * y.toNatClampNeg)).toNatClampNeg))), rU (rU (clR r N (v 2) 3 7 (v 3) x y) 10 (hcH (r 10) (v 2) (v 0) (ffF (okC (r 10) (v 2)) (L - 1) (x.toNatClampNeg * y.toNatClampNeg)).toNatClampNeg (L - (ffF (okC (r 10) (v 2)) (L - 1) (x.toNatClampNeg * y.toNatClampNeg)).toNatClampNeg))) 11 (hcC (okC (r 10) (v 2)) (r 11) k0 (ffF (okC (r 10) (v 2)) (L - 1) (x.toNatClampNeg * y.toNatClampNeg)).toNatClampNeg (L - (ffF (okC (r 10) (v 2)) (L - 1) (x.toNatClampNeg * y.toNatClampNeg)).toNatClampNeg))))) (fun E => (cM v = 1 ∧ E = "java/lang/UnsupportedOperationException")) := by
  refine KX.of (cc := cX4_matrix) (nL := 5) (ret := (some .int)) (by decide) rfl (Nat.le_of_ble_eq_true rfl) ?_
  intro pg9 en9 s m args below meth cd9 A ls C0 hex hP hD hS hl
  have hx := C0.1.1
  have hb := C0.1.2.1
  have hml := C0.1.2.2.1
  have hown : s.vm.findClass RX4 = some m.cls := C0.1.2.2.2.1
  have hts : ∀ w ∈ wsX4_matrix, w.before args s = true := C0.1.2.2.2.2
  have hK := C0.2.2.2.1
  have hin_X4 : ∀ w ∈ wsX40, w ∈ wsX4_matrix := fun w h => List.mem_cons_of_mem _ (List.mem_append_left _ (List.mem_append_left _ (List.mem_append_right _ h)))
  have hf12 : (Cond.fieldLink RX4 12 "FormulaLists" "book" "LFormulaLists$Book;").before args s = true := hts _ (by decide +kernel)
  have hin_X0 : ∀ w ∈ wsX00, w ∈ wsX4_matrix := fun w h => List.mem_cons_of_mem _ (List.mem_append_left _ (List.mem_append_right _ h))
  have hf107 : (Cond.fieldLink RX4 107 "FormulaLists$Book" "cellCount" "I").before args s = true := hts _ (by decide +kernel)
  have hl : lv_has ls 5 [(0, .ref (a 0)), (1, .int x), (2, .int y)] := hl
  have hP : va_P D vwCl (wX cI a v r) s.heap := hP
  refine lv_aload_n hx hb dX4_matrix_0 rfl (lv_at hl 0 rfl) ?_
  refine kcXv C0 hex hP hD hS (c_X4_needRoomForNode l D cI a v r   hst ) (cwV 0 hts gX4_matrix_X4_needRoomForNode rfl rfl rfl (by decide +kernel) ⟨Nat.le_of_ble_eq_true rfl, Nat.le_of_ble_eq_true rfl⟩) 0 4 rfl rfl rfl hl.1 rfl (Nat.le_of_ble_eq_true rfl) dX4_matrix_1 ⟨Nat.le_of_ble_eq_true rfl, Nat.le_of_ble_eq_true rfl⟩ (Nat.le_of_ble_eq_true rfl) (Nat.le_of_ble_eq_true rfl) (fun E h9 => ⟨(pf_X4_matrix_0 a v r x y N L o k0 dp hN hN1 hL hL1 hL0 hO ho1 hdo hoL hdp hk0 hkb h9.2), h9.1⟩) (fun _ H locs hq hP hD hS => ?_)
  have hq_4 : v 0 < 120 := hq
  have hP : va_P D vwCl (wX cI a v r) H := hP
  have hD : va_D A (wX cI a v r) := hD
  refine lv_iload_n hx hb dX4_matrix_4 rfl (lv_at hl 1 rfl) ?_
  refine lv_iconst (v := 1) hx hb dX4_matrix_5 (by decide) ?_
  refine lv_icmp_lt (tgt := 24) hx hb dX4_matrix_6 (by decide) (fun c_6 => ?_) (fun c_6 => ?_)
  · skip
    refine lv_iconst (v := 0) hx hb dX4_matrix_24 (by decide) ?_
    exact kx_iret C0 (v, r) hP hD hS ⟨(pf_X4_matrix_1 a v r x y N L o k0 dp hN hN1 hL hL1 hL0 hO ho1 hdo hoL hdp hk0 hkb hq_4 c_6), (by rw [if_pos (Or.inl c_6)])⟩ (Nat.le_of_ble_eq_true rfl) (Nat.le_of_ble_eq_true rfl) dX4_matrix_25
  · skip
    refine lv_iload_n hx hb dX4_matrix_9 rfl (lv_at hl 1 rfl) ?_
    refine lv_iconst (v := 5) hx hb dX4_matrix_10 (by decide) ?_
    refine lv_icmp_gt (tgt := 24) hx hb dX4_matrix_11 (by decide) (fun c_11 => ?_) (fun c_11 => ?_)
    · skip
      refine lv_iconst (v := 0) hx hb dX4_matrix_24 (by decide) ?_
      exact kx_iret C0 (v, r) hP hD hS ⟨(pf_X4_matrix_2 a v r x y N L o k0 dp hN hN1 hL hL1 hL0 hO ho1 hdo hoL hdp hk0 hkb hq_4 c_6 c_11), (by rw [if_pos (Or.inr (Or.inl c_11))])⟩ (Nat.le_of_ble_eq_true rfl) (Nat.le_of_ble_eq_true rfl) dX4_matrix_25
    · skip
      refine lv_iload_n hx hb dX4_matrix_14 rfl (lv_at hl 2 rfl) ?_
      refine lv_iconst (v := 1) hx hb dX4_matrix_15 (by decide) ?_
      refine lv_icmp_lt (tgt := 24) hx hb dX4_matrix_16 (by decide) (fun c_16 => ?_) (fun c_16 => ?_)
      · skip
        refine lv_iconst (v := 0) hx hb dX4_matrix_24 (by decide) ?_
        exact kx_iret C0 (v, r) hP hD hS ⟨(pf_X4_matrix_3 a v r x y N L o k0 dp hN hN1 hL hL1 hL0 hO ho1 hdo hoL hdp hk0 hkb hq_4 c_6 c_11 c_16), (by rw [if_pos (Or.inr (Or.inr (Or.inl c_16)))])⟩ (Nat.le_of_ble_eq_true rfl) (Nat.le_of_ble_eq_true rfl) dX4_matrix_25
      · skip
        refine lv_iload_n hx hb dX4_matrix_19 rfl (lv_at hl 2 rfl) ?_
        refine lv_iconst (v := 5) hx hb dX4_matrix_20 (by decide) ?_
        refine lv_icmp_le (tgt := 26) hx hb dX4_matrix_21 (by decide) (fun c_21 => ?_) (fun c_21 => ?_)
        · skip
          have hmx := mat_ix c_6 c_11
          have hmy := mat_ix c_16 (Int32.not_lt.mpr c_21)
          have hm1 : 1 ≤ x.toNatClampNeg * y.toNatClampNeg := Nat.mul_le_mul hmx.2.2 hmy.2.2
          have hm25 : x.toNatClampNeg * y.toNatClampNeg ≤ 25 := Nat.mul_le_mul hmx.2.1 hmy.2.1
          refine lv_aload_n hx hb dX4_matrix_26 rfl (lv_at hl 0 rfl) ?_
          refine va_get (D := D) (ci := 4) (v := .ref (a 1)) (C := RX4) (T := TX4) (N := 2) hx hb hts hin_X4 hown hK hP 0 rfl rfl 0 (by decide) hf12 (fun _ h9 => h9) rfl dX4_matrix_27 ?_
          refine lv_iload_n hx hb dX4_matrix_30 rfl (lv_at hl 1 rfl) ?_
          refine lv_iload_n hx hb dX4_matrix_31 rfl (lv_at hl 2 rfl) ?_
          refine lv_imul hx hb dX4_matrix_32 ?_
          refine lv_eqi (show x * y = nI (x.toNatClampNeg * y.toNatClampNeg) by conv => lhs; rw [hmx.1, hmy.1, pk_mul]) ?_
          refine kcD (ans := (ffF (okC (r 10) (v 2)) (L - 1) (x.toNatClampNeg * y.toNatClampNeg))) C0 hP hD hS (c_X0_firstOfLastFree l D cI a v r (x.toNatClampNeg * y.toNatClampNeg) L hL hL0 hL1 hm1 hm25) (cwV 1 hts gX4_matrix_X0_firstOfLastFree rfl rfl rfl (by decide +kernel) ⟨Nat.le_of_ble_eq_true rfl, Nat.le_of_ble_eq_true rfl⟩) 1 0 rfl rfl rfl hl.1 rfl (Nat.le_of_ble_eq_true rfl) dX4_matrix_33 ⟨Nat.le_of_ble_eq_true rfl, Nat.le_of_ble_eq_true rfl⟩ (fun H locs hP hD hS => ?_)
          refine lv_istore_n (lv' := [(3, .int (ffF (okC (r 10) (v 2)) (L - 1) (x.toNatClampNeg * y.toNatClampNeg))), (0, .ref (a 0)), (1, .int x), (2, .int y)]) hx hb dX4_matrix_36 rfl hl (by decide) rfl (fun ls hl => ?_)
          refine lv_iload_n hx hb dX4_matrix_37 rfl (lv_at hl 0 rfl) ?_
          refine lv_iconst (v := (-1)) hx hb dX4_matrix_38 (by decide) ?_
          refine lv_icmp_eq (tgt := 53) hx hb dX4_matrix_39 (by decide) (fun c_39 => ?_) (fun c_39 => ?_)
          · skip
            refine lv_iconst (v := 0) hx hb dX4_matrix_53 (by decide) ?_
            exact kx_iret C0 (v, r) hP hD hS ⟨(pf_X4_matrix_4 a v r x y N L o k0 dp hN hN1 hL hL1 hL0 hO ho1 hdo hoL hdp hk0 hkb hq_4 c_6 c_11 c_16 c_21 c_39), (by rw [if_neg (fun h => h.elim c_6 (fun h => h.elim c_11 (fun h => h.elim c_16 (fun h => Int32.not_lt.mpr c_21 h)))), if_pos (Or.inl c_39)])⟩ (Nat.le_of_ble_eq_true rfl) (Nat.le_of_ble_eq_true rfl) dX4_matrix_54
          · skip
            obtain ⟨jf, hjf1, hjf2, ejf⟩ := (ff_rg (ok := (okC (r 10) (v 2))) (L - 1) (x.toNatClampNeg * y.toNatClampNeg)).resolve_left c_39
            have ef0 : (ffF (okC (r 10) (v 2)) (L - 1) (x.toNatClampNeg * y.toNatClampNeg)) = nI (ffF (okC (r 10) (v 2)) (L - 1) (x.toNatClampNeg * y.toNatClampNeg)).toNatClampNeg := by rw [ejf, nI_clamp (by omega)]
            have hf0 : (ffF (okC (r 10) (v 2)) (L - 1) (x.toNatClampNeg * y.toNatClampNeg)).toNatClampNeg ≤ L := by rw [ejf, nI_clamp (by omega)]; omega
            refine lv_aload_n hx hb dX4_matrix_42 rfl (lv_at hl 1 rfl) ?_
            refine va_get (D := D) (ci := 4) (v := .ref (a 1)) (C := RX4) (T := TX4) (N := 2) hx hb hts hin_X4 hown hK hP 0 rfl rfl 0 (by decide) hf12 (fun _ h9 => h9) rfl dX4_matrix_43 ?_
            refine lv_iload_n hx hb dX4_matrix_46 rfl (lv_at hl 0 rfl) ?_
            refine lv_eqi ef0 ?_
            refine kcD (ans := (bI (anB (fun q => okC (r 10) (v 2) q && wiF (r 10) (r 2) (nI q) 30 (nI o)) (ffF (okC (r 10) (v 2)) (L - 1) (x.toNatClampNeg * y.toNatClampNeg)).toNatClampNeg (L - (ffF (okC (r 10) (v 2)) (L - 1) (x.toNatClampNeg * y.toNatClampNeg)).toNatClampNeg) = true))) C0 hP hD hS (c_X0_ringsFrom l D cI a v r (ffF (okC (r 10) (v 2)) (L - 1) (x.toNatClampNeg * y.toNatClampNeg)).toNatClampNeg L o dp hL hL1 hf0 hO ho1 (hdo o hoL) hdp) (cwV 1 hts gX4_matrix_X0_ringsFrom rfl rfl rfl (by decide +kernel) ⟨Nat.le_of_ble_eq_true rfl, Nat.le_of_ble_eq_true rfl⟩) 1 0 rfl rfl rfl hl.1 rfl (Nat.le_of_ble_eq_true rfl) dX4_matrix_47 ⟨Nat.le_of_ble_eq_true rfl, Nat.le_of_ble_eq_true rfl⟩ (fun H locs hP hD hS => ?_)
            refine lv_if_eq (tgt := 55) hx hb dX4_matrix_50 (by decide) (fun c_50 => ?_) (fun c_50 => ?_)
            · skip
              refine lv_aload_n hx hb dX4_matrix_55 rfl (lv_at hl 1 rfl) ?_
              refine va_get (D := D) (ci := 4) (v := .ref (a 1)) (C := RX4) (T := TX4) (N := 2) hx hb hts hin_X4 hown hK hP 0 rfl rfl 0 (by decide) hf12 (fun _ h9 => h9) rfl dX4_matrix_56 ?_
              refine lv_iconst (v := 3) hx hb dX4_matrix_59 (by decide) ?_
              refine lv_bipush (v := 7) hx hb dX4_matrix_60 (by decide) ?_
              refine lv_aload_n hx hb dX4_matrix_62 rfl (lv_at hl 1 rfl) ?_
              refine va_get (D := D) (ci := 4) (v := .ref (a 1)) (C := RX4) (T := TX4) (N := 2) hx hb hts hin_X4 hown hK hP 0 rfl rfl 0 (by decide) hf12 (fun _ h9 => h9) rfl dX4_matrix_63 ?_
              refine va_get (D := D) (ci := 0) (v := .int (v 3)) (C := RX0) (T := TX0) (N := 14) hx hb hts hin_X0 hown hK hP 1 rfl rfl 13 (by decide) hf107 (fun _ h9 => h9) rfl dX4_matrix_66 ?_
              refine lv_iload_n hx hb dX4_matrix_69 rfl (lv_at hl 2 rfl) ?_
              refine lv_iload_n hx hb dX4_matrix_70 rfl (lv_at hl 3 rfl) ?_
              refine kcD (ans := (v 0)) C0 hP hD hS (c_X0_addNode l D cI a v r 3 7 (v 3) x y N hN (nd_lt hq_4 hN hN1)) (cwV 5 hts gX4_matrix_X0_addNode rfl rfl rfl (by decide +kernel) ⟨Nat.le_of_ble_eq_true rfl, Nat.le_of_ble_eq_true rfl⟩) 1 0 rfl rfl rfl hl.1 rfl (Nat.le_of_ble_eq_true rfl) dX4_matrix_71 ⟨Nat.le_of_ble_eq_true rfl, Nat.le_of_ble_eq_true rfl⟩ (fun H locs hP hD hS => ?_)
              have hP : va_P D vwCl (wX cI a (vU v 0 ((v 0) + 1)) (clR r N (v 2) 3 7 (v 3) x y)) H := hP
              have hD : va_D A (wX cI a (vU v 0 ((v 0) + 1)) (clR r N (v 2) 3 7 (v 3) x y)) := hD
              refine lv_istore (lv' := [(4, .int (v 0)), (3, .int (ffF (okC (r 10) (v 2)) (L - 1) (x.toNatClampNeg * y.toNatClampNeg))), (0, .ref (a 0)), (1, .int x), (2, .int y)]) hx hb dX4_matrix_74 hl (by decide) rfl (fun ls hl => ?_)
              refine lv_aload_n hx hb dX4_matrix_76 rfl (lv_at hl 2 rfl) ?_
              refine va_get (D := D) (ci := 4) (v := .ref (a 1)) (C := RX4) (T := TX4) (N := 2) hx hb hts hin_X4 hown hK hP 0 rfl rfl 0 (by decide) hf12 (fun _ h9 => h9) rfl dX4_matrix_77 ?_
              refine lv_iload_n hx hb dX4_matrix_80 rfl (lv_at hl 1 rfl) ?_
              refine lv_eqi ef0 ?_
              refine lv_iload hx hb dX4_matrix_81 (lv_at hl 0 rfl) ?_
              refine kcDv C0 hP hD hS (c_X0_holdCellsFrom l D cI a (vU v 0 ((v 0) + 1)) (clR r N (v 2) 3 7 (v 3) x y) (ffF (okC (r 10) (v 2)) (L - 1) (x.toNatClampNeg * y.toNatClampNeg)).toNatClampNeg L k0 (v 0) hL hL1 hf0 hk0 (hkb _ hf0)) (cwV 2 hts gX4_matrix_X0_holdCellsFrom rfl rfl rfl (by decide +kernel) ⟨Nat.le_of_ble_eq_true rfl, Nat.le_of_ble_eq_true rfl⟩) 1 0 rfl rfl rfl hl.1 rfl (Nat.le_of_ble_eq_true rfl) dX4_matrix_83 ⟨Nat.le_of_ble_eq_true rfl, Nat.le_of_ble_eq_true rfl⟩ (fun H locs hP hD hS => ?_)
              have hP : va_P D vwCl (wX cI a (vU (vU v 0 ((v 0) + 1)) 3 (nI (k0 + cnB (okC (r 10) (v 2)) (ffF (okC (r 10) (v 2)) (L - 1) (x.toNatClampNeg * y.toNatClampNeg)).toNatClampNeg (L - (ffF (okC (r 10) (v 2)) (L - 1) (x.toNatClampNeg * y.toNatClampNeg)).toNatClampNeg)))) (rU (rU (clR r N (v 2) 3 7 (v 3) x y) 10 (hcH (r 10) (v 2) (v 0) (ffF (okC (r 10) (v 2)) (L - 1) (x.toNatClampNeg * y.toNatClampNeg)).toNatClampNeg (L - (ffF (okC (r 10) (v 2)) (L - 1) (x.toNatClampNeg * y.toNatClampNeg)).toNatClampNeg))) 11 (hcC (okC (r 10) (v 2)) (r 11) k0 (ffF (okC (r 10) (v 2)) (L - 1) (x.toNatClampNeg * y.toNatClampNeg)).toNatClampNeg (L - (ffF (okC (r 10) (v 2)) (L - 1) (x.toNatClampNeg * y.toNatClampNeg)).toNatClampNeg)))) H := hP
              have hD : va_D A (wX cI a (vU (vU v 0 ((v 0) + 1)) 3 (nI (k0 + cnB (okC (r 10) (v 2)) (ffF (okC (r 10) (v 2)) (L - 1) (x.toNatClampNeg * y.toNatClampNeg)).toNatClampNeg (L - (ffF (okC (r 10) (v 2)) (L - 1) (x.toNatClampNeg * y.toNatClampNeg)).toNatClampNeg)))) (rU (rU (clR r N (v 2) 3 7 (v 3) x y) 10 (hcH (r 10) (v 2) (v 0) (ffF (okC (r 10) (v 2)) (L - 1) (x.toNatClampNeg * y.toNatClampNeg)).toNatClampNeg (L - (ffF (okC (r 10) (v 2)) (L - 1) (x.toNatClampNeg * y.toNatClampNeg)).toNatClampNeg))) 11 (hcC (okC (r 10) (v 2)) (r 11) k0 (ffF (okC (r 10) (v 2)) (L - 1) (x.toNatClampNeg * y.toNatClampNeg)).toNatClampNeg (L - (ffF (okC (r 10) (v 2)) (L - 1) (x.toNatClampNeg * y.toNatClampNeg)).toNatClampNeg)))) := hD
              refine lv_iload hx hb dX4_matrix_86 (lv_at hl 0 rfl) ?_
              refine lv_iconst (v := 1) hx hb dX4_matrix_88 (by decide) ?_
              refine lv_iadd hx hb dX4_matrix_89 ?_
              exact kx_iret C0 ((vU (vU v 0 ((v 0) + 1)) 3 (nI (k0 + cnB (okC (r 10) (v 2)) (ffF (okC (r 10) (v 2)) (L - 1) (x.toNatClampNeg * y.toNatClampNeg)).toNatClampNeg (L - (ffF (okC (r 10) (v 2)) (L - 1) (x.toNatClampNeg * y.toNatClampNeg)).toNatClampNeg)))), (rU (rU (clR r N (v 2) 3 7 (v 3) x y) 10 (hcH (r 10) (v 2) (v 0) (ffF (okC (r 10) (v 2)) (L - 1) (x.toNatClampNeg * y.toNatClampNeg)).toNatClampNeg (L - (ffF (okC (r 10) (v 2)) (L - 1) (x.toNatClampNeg * y.toNatClampNeg)).toNatClampNeg))) 11 (hcC (okC (r 10) (v 2)) (r 11) k0 (ffF (okC (r 10) (v 2)) (L - 1) (x.toNatClampNeg * y.toNatClampNeg)).toNatClampNeg (L - (ffF (okC (r 10) (v 2)) (L - 1) (x.toNatClampNeg * y.toNatClampNeg)).toNatClampNeg)))) hP hD hS ⟨(pf_X4_matrix_5 a v r x y N L o k0 dp hN hN1 hL hL1 hL0 hO ho1 hdo hoL hdp hk0 hkb hq_4 c_6 c_11 c_16 c_21 c_39 c_50), (by rw [if_neg (fun h => h.elim c_6 (fun h => h.elim c_11 (fun h => h.elim c_16 (fun h => Int32.not_lt.mpr c_21 h)))), if_neg (fun h => h.elim c_39 (bI_z.mp c_50))])⟩ (Nat.le_of_ble_eq_true rfl) (Nat.le_of_ble_eq_true rfl) dX4_matrix_90
            · skip
              refine lv_iconst (v := 0) hx hb dX4_matrix_53 (by decide) ?_
              exact kx_iret C0 (v, r) hP hD hS ⟨(pf_X4_matrix_6 a v r x y N L o k0 dp hN hN1 hL hL1 hL0 hO ho1 hdo hoL hdp hk0 hkb hq_4 c_6 c_11 c_16 c_21 c_39 c_50), (by rw [if_neg (fun h => h.elim c_6 (fun h => h.elim c_11 (fun h => h.elim c_16 (fun h => Int32.not_lt.mpr c_21 h)))), if_pos (Or.inr (bI_nz.mp c_50))])⟩ (Nat.le_of_ble_eq_true rfl) (Nat.le_of_ble_eq_true rfl) dX4_matrix_54
        · skip
          refine lv_iconst (v := 0) hx hb dX4_matrix_24 (by decide) ?_
          exact kx_iret C0 (v, r) hP hD hS ⟨(pf_X4_matrix_7 a v r x y N L o k0 dp hN hN1 hL hL1 hL0 hO ho1 hdo hoL hdp hk0 hkb hq_4 c_6 c_11 c_16 c_21), (by rw [if_pos (Or.inr (Or.inr (Or.inr (Int32.not_le.mp c_21))))])⟩ (Nat.le_of_ble_eq_true rfl) (Nat.le_of_ble_eq_true rfl) dX4_matrix_25
