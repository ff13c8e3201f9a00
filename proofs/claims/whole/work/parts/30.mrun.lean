def rnV (v : Nat → Int32) (n : Nat) (A B C w h d e f : Int32) : Nat → Int32 := vU (vU (vU (vU (vU (vU (vU (vU (vU (vU v 0 0) 14 (nI n)) 16 A) 17 B) 18 C) 19 w) 20 h) 21 d) 22 e) 23 f
def thI (v : Nat → Int32) (x y : Int32) : Int32 := if x < -1 ∨ v 14 ≤ x ∨ y < 0 ∨ (x = -1 ∧ 2 < y) ∨ (¬ x = -1 ∧ 7 < y) then 1 else 0
def spIt (v : Nat → Int32) (r : Nat → Nat → Int32) (x y : Int32) : SV :=
  if thI v x y = 0 then ((if x = -1 then (if y = 0 then v 16 else if y = 1 then v 17 else v 18) else r 11 (8 * x.toNatClampNeg + y.toNatClampNeg)), vU v 0 0, r) else (0, vU v 0 1, r)
theorem i_it {x y : Int32} {i j : Nat} (hx : x = nI i) (hy : y = nI j) : (8 : Int32) * x + y = nI (8 * i + j) := by rw [hx, hy, i_m8, nI_add]
theorem ix_up {x M : Int32} {n : Nat} (h0 : ¬ x < 0) (h1 : x ≤ M) (hM : M.toInt = n) : x = nI x.toNatClampNeg ∧ x.toNatClampNeg ≤ n := by
  obtain ⟨j, hj, e⟩ := nI_of h0
  subst e
  rw [nI_clamp hj]
  refine ⟨rfl, ?_⟩
  rw [i_le, hM, nI_toInt hj] at h1
  omega

theorem itx0 {x : Int32} (h1 : ¬ x < -1) (h2 : ¬ x = -1) : ¬ x < 0 := by
  simp only [i_lt, i_eq, tI0, tIm1] at *
  omega

set_option maxHeartbeats 1500000 in
set_option maxRecDepth 100000 in
theorem c_X5_run (l : Launch) (D : va_G) (cI : ClassId) (a : Nat → Nat) (v : Nat → Int32) (r : Nat → Nat → Int32) (x : Int32) (N : Nat) (rk : Int32 → Nat) (hN : v 4 = nI N) (hN1 : N ≤ 120) (hR : HRK r N rk) (hki : ∀ i, i < N → ¬ r 4 i = -1) (hrk0 : (0 ≤ x ∧ x < v 1) → rk x < 30) (hlen0 : (0 ≤ x ∧ x < v 1) → (PL r N 30 x 0 0 0 0).length ≤ 500) : KI l D cI yX5_run wsX5_run ({ frames := 200, cells := 0, slots := 0, locals := 10000 }) [.ref (a 0), .int x] (wM cI a v r) (fun u : (Nat → Int32) × (Nat → Nat → Int32) => wM cI a u.1 u.2) (fun q u => (bI (0 ≤ x ∧ x < v 1) = 0 → (q, u.1, u.2) = (0, vU v 0 1, r)) ∧ (¬ bI (0 ≤ x ∧ x < v 1) = 0 → ∃ w h d e f z, (q, u.1, u.2) = (nI (0 + (PL r N 30 x 0 0 0 0).length), rnV v (0 + (PL r N 30 x 0 0 0 0).length) (ML r N 30 x 0 0).1 (ML r N 30 x 0 0).2.1 (ML r N 30 x 0 0).2.2 w h d e f, rU (rU r 11 (ptI (r 11) 0 (PL r N 30 x 0 0 0 0))) 12 z))) := by
  refine KI.of (cc := cX5_run) (nL := 2) (ret := (some .int)) (by decide) rfl (Nat.le_of_ble_eq_true rfl) ?_
  intro pg9 en9 s m args below meth cd9 A ls C0 hP hD hS hl
  have hx := C0.1.1
  have hb := C0.1.2.1
  have hml := C0.1.2.2.1
  have hown : s.vm.findClass RX5 = some m.cls := C0.1.2.2.2.1
  have hts : ∀ w ∈ wsX5_run, w.before args s = true := C0.1.2.2.2.2
  have hK := C0.2.2.2.1
  have hin_X5 : ∀ w ∈ wsX50, w ∈ wsX5_run := fun w h => List.mem_cons_of_mem _ (List.mem_append_right _ h)
  have hf50 : (Cond.fieldLink RX5 50 "FormulaListsModel" "thrown" "I").before args s = true := hts _ (by decide +kernel)
  have hf166 : (Cond.fieldLink RX5 166 "FormulaListsModel" "items" "I").before args s = true := hts _ (by decide +kernel)
  have hf96 : (Cond.fieldLink RX5 96 "FormulaListsModel" "width" "I").before args s = true := hts _ (by decide +kernel)
  have hf197 : (Cond.fieldLink RX5 197 "FormulaListsModel" "allWidth" "I").before args s = true := hts _ (by decide +kernel)
  have hf99 : (Cond.fieldLink RX5 99 "FormulaListsModel" "height" "I").before args s = true := hts _ (by decide +kernel)
  have hf200 : (Cond.fieldLink RX5 200 "FormulaListsModel" "allHeight" "I").before args s = true := hts _ (by decide +kernel)
  have hf102 : (Cond.fieldLink RX5 102 "FormulaListsModel" "depth" "I").before args s = true := hts _ (by decide +kernel)
  have hf203 : (Cond.fieldLink RX5 203 "FormulaListsModel" "allDepth" "I").before args s = true := hts _ (by decide +kernel)
  have hl : lv_has ls 2 [(0, .ref (a 0)), (1, .int x)] := hl
  have hP : va_P D vwCl (wM cI a v r) s.heap := hP
  refine lv_aload_n hx hb dX5_run_0 rfl (lv_at hl 0 rfl) ?_
  refine lv_aload_n hx hb dX5_run_1 rfl (lv_at hl 0 rfl) ?_
  refine lv_iload_n hx hb dX5_run_2 rfl (lv_at hl 1 rfl) ?_
  refine kcD (ans := (bI (0 ≤ x ∧ x < v 1))) C0 hP hD hS (c_X5_isList l D cI a v r x ) (cwV 1 hts gX5_run_X5_isList rfl rfl rfl (by decide +kernel) ⟨Nat.le_of_ble_eq_true rfl, Nat.le_of_ble_eq_true rfl⟩) 0 5 rfl rfl rfl hl.1 rfl (Nat.le_of_ble_eq_true rfl) dX5_run_3 ⟨Nat.zero_le _, Nat.zero_le _⟩ (fun H locs hP hD hS => ?_)
  refine lv_if_eq (tgt := 13) hx hb dX5_run_6 (by decide) (fun c_6 => ?_) (fun c_6 => ?_)
  · skip
    refine lv_iconst (v := 1) hx hb dX5_run_13 (by decide) ?_
    refine va_put (D := D) (ci := 5) (v := .int 1) (ty := .int) (C := RX5) (T := TX5) (N := 25) hx hb hts hin_X5 tyX5 tyX5_ok nmX5 hown hK hP hD hS 0 rfl rfl 0 (by decide) hf50 (fun _ h9 => h9) rfl (by decide +kernel) rfl rfl (Nat.le_of_ble_eq_true rfl) dX5_run_14 (fun H locs hP hD hS => ?_)
    have hP : va_P D vwCl (wM cI a (vU v 0 1) r) H := hP
    have hD : va_D A (wM cI a (vU v 0 1) r) := hD
    refine lv_aload_n hx hb dX5_run_17 rfl (lv_at hl 0 rfl) ?_
    refine va_get (D := D) (ci := 5) (v := .int 1) (C := RX5) (T := TX5) (N := 25) hx hb hts hin_X5 hown hK hP 0 rfl rfl 0 (by decide) hf50 (fun _ h9 => h9) rfl dX5_run_18 ?_
    refine lv_if_le (tgt := 26) hx hb dX5_run_21 (by decide) (fun c_21 => absurd c_21 (by decide)) (fun c_21 => ?_)
    refine lv_iconst (v := 0) hx hb dX5_run_24 (by decide) ?_
    exact k_iret C0 ((vU v 0 1), r) hP hD hS ⟨fun _ => rfl, fun h => absurd c_6 h⟩ dX5_run_25
  · skip
    refine lv_iconst (v := 0) hx hb dX5_run_9 (by decide) ?_
    refine lv_goto (tgt := 14) hx hb dX5_run_10 (by decide) ?_
    refine va_put (D := D) (ci := 5) (v := .int 0) (ty := .int) (C := RX5) (T := TX5) (N := 25) hx hb hts hin_X5 tyX5 tyX5_ok nmX5 hown hK hP hD hS 0 rfl rfl 0 (by decide) hf50 (fun _ h9 => h9) rfl (by decide +kernel) rfl rfl (Nat.le_of_ble_eq_true rfl) dX5_run_14 (fun H locs hP hD hS => ?_)
    have hP : va_P D vwCl (wM cI a (vU v 0 0) r) H := hP
    have hD : va_D A (wM cI a (vU v 0 0) r) := hD
    refine lv_aload_n hx hb dX5_run_17 rfl (lv_at hl 0 rfl) ?_
    refine va_get (D := D) (ci := 5) (v := .int 0) (C := RX5) (T := TX5) (N := 25) hx hb hts hin_X5 hown hK hP 0 rfl rfl 0 (by decide) hf50 (fun _ h9 => h9) rfl dX5_run_18 ?_
    refine lv_if_le (tgt := 26) hx hb dX5_run_21 (by decide) (fun c_21 => ?_) (fun c_21 => absurd (by decide) c_21)
    have hrk := hrk0 (bI_nz.mp c_6)
    have hlen : 0 + (PL r N 30 x 0 0 0 0).length ≤ 500 := by have h := hlen0 (bI_nz.mp c_6); omega
    refine lv_aload_n hx hb dX5_run_26 rfl (lv_at hl 0 rfl) ?_
    refine lv_iconst (v := 0) hx hb dX5_run_27 (by decide) ?_
    refine va_put (D := D) (ci := 5) (v := .int 0) (ty := .int) (C := RX5) (T := TX5) (N := 25) hx hb hts hin_X5 tyX5 tyX5_ok nmX5 hown hK hP hD hS 0 rfl rfl 14 (by decide) hf166 (fun _ h9 => h9) rfl (by decide +kernel) rfl rfl (Nat.le_of_ble_eq_true rfl) dX5_run_28 (fun H locs hP hD hS => ?_)
    have hP : va_P D vwCl (wM cI a (vU (vU v 0 0) 14 0) r) H := hP
    have hD : va_D A (wM cI a (vU (vU v 0 0) 14 0) r) := hD
    have hP : va_P D vwCl (wM cI a (vU (vU (vU (vU (vU (vU (vU v 0 0) 14 (nI 0)) 19 (v 19)) 20 (v 20)) 21 (v 21)) 22 (v 22)) 23 (v 23)) (rU (rU r 11 (r 11)) 12 (r 12))) H := hP
    have hD : va_D A (wM cI a (vU (vU (vU (vU (vU (vU (vU v 0 0) 14 (nI 0)) 19 (v 19)) 20 (v 20)) 21 (v 21)) 22 (v 22)) 23 (v 23)) (rU (rU r 11 (r 11)) 12 (r 12))) := hD
    refine lv_aload_n hx hb dX5_run_31 rfl (lv_at hl 0 rfl) ?_
    refine lv_iload_n hx hb dX5_run_32 rfl (lv_at hl 1 rfl) ?_
    refine lv_iconst (v := 0) hx hb dX5_run_33 (by decide) ?_
    refine lv_iconst (v := 0) hx hb dX5_run_34 (by decide) ?_
    refine kcVv C0 hP hD hS (hml_all (l := l) (D := D) (cI := cI) (a := a) (v := (vU (vU v 0 0) 14 (nI 0))) (r := r) (N := N) (rk := rk) hN hN1 hR hki 30 x 0 0 (r 11) (r 12) (v 19) (v 20) (v 21) (v 22) (v 23) hrk) (cwV 3 hts gX5_run_X5_measureList rfl rfl rfl (by decide +kernel) ⟨by dsimp only [rmL]; omega, by dsimp only [rmL]; omega⟩) 0 5 rfl rfl rfl hl.1 rfl (Nat.le_of_ble_eq_true rfl) dX5_run_35 ⟨Nat.zero_le _, Nat.zero_le _⟩ (fun u H locs hq hP hD hS => ?_)
    obtain ⟨u_1, e_1, z_1⟩ := u
    have hP : va_P D vwCl (wM cI a (vU (vU (vU (vU (vU (vU (vU v 0 0) 14 (nI 0)) 19 ((ML r N 30 x 0 0).1)) 20 ((ML r N 30 x 0 0).2.1)) 21 ((ML r N 30 x 0 0).2.2)) 22 u_1) 23 e_1) (rU (rU r 11 (r 11)) 12 z_1)) H := hP
    have hD : va_D A (wM cI a (vU (vU (vU (vU (vU (vU (vU v 0 0) 14 (nI 0)) 19 ((ML r N 30 x 0 0).1)) 20 ((ML r N 30 x 0 0).2.1)) 21 ((ML r N 30 x 0 0).2.2)) 22 u_1) 23 e_1) (rU (rU r 11 (r 11)) 12 z_1)) := hD
    refine lv_aload_n hx hb dX5_run_38 rfl (lv_at hl 0 rfl) ?_
    refine lv_aload_n hx hb dX5_run_39 rfl (lv_at hl 0 rfl) ?_
    refine va_get (D := D) (ci := 5) (v := .int ((ML r N 30 x 0 0).1)) (C := RX5) (T := TX5) (N := 25) hx hb hts hin_X5 hown hK hP 0 rfl rfl 19 (by decide) hf96 (fun _ h9 => h9) rfl dX5_run_40 ?_
    refine va_put (D := D) (ci := 5) (v := .int ((ML r N 30 x 0 0).1)) (ty := .int) (C := RX5) (T := TX5) (N := 25) hx hb hts hin_X5 tyX5 tyX5_ok nmX5 hown hK hP hD hS 0 rfl rfl 16 (by decide) hf197 (fun _ h9 => h9) rfl (by decide +kernel) rfl rfl (Nat.le_of_ble_eq_true rfl) dX5_run_43 (fun H locs hP hD hS => ?_)
    have hP : va_P D vwCl (wM cI a (vU (vU (vU (vU (vU (vU (vU (vU v 0 0) 14 (nI 0)) 16 ((ML r N 30 x 0 0).1)) 19 ((ML r N 30 x 0 0).1)) 20 ((ML r N 30 x 0 0).2.1)) 21 ((ML r N 30 x 0 0).2.2)) 22 u_1) 23 e_1) (rU (rU r 11 (r 11)) 12 z_1)) H := hP
    have hD : va_D A (wM cI a (vU (vU (vU (vU (vU (vU (vU (vU v 0 0) 14 (nI 0)) 16 ((ML r N 30 x 0 0).1)) 19 ((ML r N 30 x 0 0).1)) 20 ((ML r N 30 x 0 0).2.1)) 21 ((ML r N 30 x 0 0).2.2)) 22 u_1) 23 e_1) (rU (rU r 11 (r 11)) 12 z_1)) := hD
    refine lv_aload_n hx hb dX5_run_46 rfl (lv_at hl 0 rfl) ?_
    refine lv_aload_n hx hb dX5_run_47 rfl (lv_at hl 0 rfl) ?_
    refine va_get (D := D) (ci := 5) (v := .int ((ML r N 30 x 0 0).2.1)) (C := RX5) (T := TX5) (N := 25) hx hb hts hin_X5 hown hK hP 0 rfl rfl 20 (by decide) hf99 (fun _ h9 => h9) rfl dX5_run_48 ?_
    refine va_put (D := D) (ci := 5) (v := .int ((ML r N 30 x 0 0).2.1)) (ty := .int) (C := RX5) (T := TX5) (N := 25) hx hb hts hin_X5 tyX5 tyX5_ok nmX5 hown hK hP hD hS 0 rfl rfl 17 (by decide) hf200 (fun _ h9 => h9) rfl (by decide +kernel) rfl rfl (Nat.le_of_ble_eq_true rfl) dX5_run_51 (fun H locs hP hD hS => ?_)
    have hP : va_P D vwCl (wM cI a (vU (vU (vU (vU (vU (vU (vU (vU (vU v 0 0) 14 (nI 0)) 16 ((ML r N 30 x 0 0).1)) 17 ((ML r N 30 x 0 0).2.1)) 19 ((ML r N 30 x 0 0).1)) 20 ((ML r N 30 x 0 0).2.1)) 21 ((ML r N 30 x 0 0).2.2)) 22 u_1) 23 e_1) (rU (rU r 11 (r 11)) 12 z_1)) H := hP
    have hD : va_D A (wM cI a (vU (vU (vU (vU (vU (vU (vU (vU (vU v 0 0) 14 (nI 0)) 16 ((ML r N 30 x 0 0).1)) 17 ((ML r N 30 x 0 0).2.1)) 19 ((ML r N 30 x 0 0).1)) 20 ((ML r N 30 x 0 0).2.1)) 21 ((ML r N 30 x 0 0).2.2)) 22 u_1) 23 e_1) (rU (rU r 11 (r 11)) 12 z_1)) := hD
    refine lv_aload_n hx hb dX5_run_54 rfl (lv_at hl 0 rfl) ?_
    refine lv_aload_n hx hb dX5_run_55 rfl (lv_at hl 0 rfl) ?_
    refine va_get (D := D) (ci := 5) (v := .int ((ML r N 30 x 0 0).2.2)) (C := RX5) (T := TX5) (N := 25) hx hb hts hin_X5 hown hK hP 0 rfl rfl 21 (by decide) hf102 (fun _ h9 => h9) rfl dX5_run_56 ?_
    refine va_put (D := D) (ci := 5) (v := .int ((ML r N 30 x 0 0).2.2)) (ty := .int) (C := RX5) (T := TX5) (N := 25) hx hb hts hin_X5 tyX5 tyX5_ok nmX5 hown hK hP hD hS 0 rfl rfl 18 (by decide) hf203 (fun _ h9 => h9) rfl (by decide +kernel) rfl rfl (Nat.le_of_ble_eq_true rfl) dX5_run_59 (fun H locs hP hD hS => ?_)
    have hP : va_P D vwCl (wM cI a (vU (vU (vU (vU (vU (vU (vU (vU (vU (vU v 0 0) 14 (nI 0)) 16 ((ML r N 30 x 0 0).1)) 17 ((ML r N 30 x 0 0).2.1)) 18 ((ML r N 30 x 0 0).2.2)) 19 ((ML r N 30 x 0 0).1)) 20 ((ML r N 30 x 0 0).2.1)) 21 ((ML r N 30 x 0 0).2.2)) 22 u_1) 23 e_1) (rU (rU r 11 (r 11)) 12 z_1)) H := hP
    have hD : va_D A (wM cI a (vU (vU (vU (vU (vU (vU (vU (vU (vU (vU v 0 0) 14 (nI 0)) 16 ((ML r N 30 x 0 0).1)) 17 ((ML r N 30 x 0 0).2.1)) 18 ((ML r N 30 x 0 0).2.2)) 19 ((ML r N 30 x 0 0).1)) 20 ((ML r N 30 x 0 0).2.1)) 21 ((ML r N 30 x 0 0).2.2)) 22 u_1) 23 e_1) (rU (rU r 11 (r 11)) 12 z_1)) := hD
    refine lv_aload_n hx hb dX5_run_62 rfl (lv_at hl 0 rfl) ?_
    refine lv_iload_n hx hb dX5_run_63 rfl (lv_at hl 1 rfl) ?_
    refine lv_iconst (v := 0) hx hb dX5_run_64 (by decide) ?_
    refine lv_iconst (v := 0) hx hb dX5_run_65 (by decide) ?_
    refine lv_iconst (v := 0) hx hb dX5_run_66 (by decide) ?_
    refine lv_iconst (v := 0) hx hb dX5_run_67 (by decide) ?_
    have hP : va_P D vwCl (wM cI a (v6 (vU (vU (vU (vU v 0 0) 16 ((ML r N 30 x 0 0).1)) 17 ((ML r N 30 x 0 0).2.1)) 18 ((ML r N 30 x 0 0).2.2)) 0 ((ML r N 30 x 0 0).1) ((ML r N 30 x 0 0).2.1) ((ML r N 30 x 0 0).2.2) u_1 e_1) (r2 r (r 11) z_1)) _ := hP
    have hD : va_D A (wM cI a (v6 (vU (vU (vU (vU v 0 0) 16 ((ML r N 30 x 0 0).1)) 17 ((ML r N 30 x 0 0).2.1)) 18 ((ML r N 30 x 0 0).2.2)) 0 ((ML r N 30 x 0 0).1) ((ML r N 30 x 0 0).2.1) ((ML r N 30 x 0 0).2.2) u_1 e_1) (r2 r (r 11) z_1)) := hD
    refine kcVv C0 hP hD hS (hpl_all (l := l) (D := D) (cI := cI) (a := a) (v := (vU (vU (vU (vU v 0 0) 16 ((ML r N 30 x 0 0).1)) 17 ((ML r N 30 x 0 0).2.1)) 18 ((ML r N 30 x 0 0).2.2))) (r := r) (N := N) (rk := rk) hN hN1 hR hki 30 x 0 0 0 0 0 (r 11) z_1 ((ML r N 30 x 0 0).1) ((ML r N 30 x 0 0).2.1) ((ML r N 30 x 0 0).2.2) u_1 e_1 hrk hlen) (cwV 5 hts gX5_run_X5_placeList rfl rfl rfl (by decide +kernel) ⟨by dsimp only [rpL]; omega, by dsimp only [rpL]; omega⟩) 0 5 rfl rfl rfl hl.1 rfl (Nat.le_of_ble_eq_true rfl) dX5_run_68 ⟨Nat.zero_le _, Nat.zero_le _⟩ (fun u H locs hq hP hD hS => ?_)
    obtain ⟨w_2, h_2, d_2, u_2, e_2, z_2⟩ := u
    have hP : va_P D vwCl (wM cI a (vU (vU (vU (vU (vU (vU (vU (vU (vU (vU v 0 0) 14 (nI (0 + (PL r N 30 x 0 0 0 0).length))) 16 ((ML r N 30 x 0 0).1)) 17 ((ML r N 30 x 0 0).2.1)) 18 ((ML r N 30 x 0 0).2.2)) 19 w_2) 20 h_2) 21 d_2) 22 u_2) 23 e_2) (rU (rU r 11 (ptI (r 11) 0 (PL r N 30 x 0 0 0 0))) 12 z_2)) H := hP
    have hD : va_D A (wM cI a (vU (vU (vU (vU (vU (vU (vU (vU (vU (vU v 0 0) 14 (nI (0 + (PL r N 30 x 0 0 0 0).length))) 16 ((ML r N 30 x 0 0).1)) 17 ((ML r N 30 x 0 0).2.1)) 18 ((ML r N 30 x 0 0).2.2)) 19 w_2) 20 h_2) 21 d_2) 22 u_2) 23 e_2) (rU (rU r 11 (ptI (r 11) 0 (PL r N 30 x 0 0 0 0))) 12 z_2)) := hD
    refine lv_aload_n hx hb dX5_run_71 rfl (lv_at hl 0 rfl) ?_
    refine va_get (D := D) (ci := 5) (v := .int (nI (0 + (PL r N 30 x 0 0 0 0).length))) (C := RX5) (T := TX5) (N := 25) hx hb hts hin_X5 hown hK hP 0 rfl rfl 14 (by decide) hf166 (fun _ h9 => h9) rfl dX5_run_72 ?_
    exact k_iret C0 ((vU (vU (vU (vU (vU (vU (vU (vU (vU (vU v 0 0) 14 (nI (0 + (PL r N 30 x 0 0 0 0).length))) 16 ((ML r N 30 x 0 0).1)) 17 ((ML r N 30 x 0 0).2.1)) 18 ((ML r N 30 x 0 0).2.2)) 19 w_2) 20 h_2) 21 d_2) 22 u_2) 23 e_2), (rU (rU r 11 (ptI (r 11) 0 (PL r N 30 x 0 0 0 0))) 12 z_2)) hP hD hS ⟨fun h => absurd h c_6, fun _ => ⟨w_2, h_2, d_2, u_2, e_2, z_2, rfl⟩⟩ dX5_run_75

set_option maxHeartbeats 1500000 in
theorem pf_X5_item_0 (a : Nat → Nat) (v : Nat → Int32) (r : Nat → Nat → Int32) (x y : Int32) (c : Nat) (hc : v 14 = nI c) (hc1 : c ≤ 500) (c_3 : x < (-1)) : thI v x y = 1 := by
  unfold thI; (repeat' split) <;> first | rfl | (exfalso; simp only [i_lt, i_le, i_eq, tI0, tI1, tI2, tI3, tI4, tI5, tI6, tI7, tI8, tI9, tI10, tI11, tI12, tI13, tI14, tI15, tI16, tI30, tI120, tI255, tI256, tI1000, tIm1] at *; omega)
set_option maxHeartbeats 1500000 in
theorem pf_X5_item_1 (a : Nat → Nat) (v : Nat → Int32) (r : Nat → Nat → Int32) (x y : Int32) (c : Nat) (hc : v 14 = nI c) (hc1 : c ≤ 500) (c_3 : ¬ (x < (-1))) (c_11 : (v 14) ≤ x) : thI v x y = 1 := by
  unfold thI; (repeat' split) <;> first | rfl | (exfalso; simp only [i_lt, i_le, i_eq, tI0, tI1, tI2, tI3, tI4, tI5, tI6, tI7, tI8, tI9, tI10, tI11, tI12, tI13, tI14, tI15, tI16, tI30, tI120, tI255, tI256, tI1000, tIm1] at *; omega)
set_option maxHeartbeats 1500000 in
theorem pf_X5_item_2 (a : Nat → Nat) (v : Nat → Int32) (r : Nat → Nat → Int32) (x y : Int32) (c : Nat) (hc : v 14 = nI c) (hc1 : c ≤ 500) (c_3 : ¬ (x < (-1))) (c_11 : ¬ ((v 14) ≤ x)) (c_15 : y < 0) : thI v x y = 1 := by
  unfold thI; (repeat' split) <;> first | rfl | (exfalso; simp only [i_lt, i_le, i_eq, tI0, tI1, tI2, tI3, tI4, tI5, tI6, tI7, tI8, tI9, tI10, tI11, tI12, tI13, tI14, tI15, tI16, tI30, tI120, tI255, tI256, tI1000, tIm1] at *; omega)
set_option maxHeartbeats 1500000 in
theorem pf_X5_item_3 (a : Nat → Nat) (v : Nat → Int32) (r : Nat → Nat → Int32) (x y : Int32) (c : Nat) (hc : v 14 = nI c) (hc1 : c ≤ 500) (c_3 : ¬ (x < (-1))) (c_11 : ¬ ((v 14) ≤ x)) (c_15 : ¬ (y < 0)) (c_21 : ¬ (x = (-1))) (c_30 : y ≤ 7) (c_52 : ¬ (x = (-1))) : thI v x y = 0 := by
  unfold thI; (repeat' split) <;> first | rfl | (exfalso; simp only [i_lt, i_le, i_eq, tI0, tI1, tI2, tI3, tI4, tI5, tI6, tI7, tI8, tI9, tI10, tI11, tI12, tI13, tI14, tI15, tI16, tI30, tI120, tI255, tI256, tI1000, tIm1] at *; omega)
set_option maxHeartbeats 1500000 in
theorem pf_X5_item_4 (a : Nat → Nat) (v : Nat → Int32) (r : Nat → Nat → Int32) (x y : Int32) (c : Nat) (hc : v 14 = nI c) (hc1 : c ≤ 500) (c_3 : ¬ (x < (-1))) (c_11 : ¬ ((v 14) ≤ x)) (c_15 : ¬ (y < 0)) (c_21 : ¬ (x = (-1))) (c_30 : ¬ (y ≤ 7)) : thI v x y = 1 := by
  unfold thI; (repeat' split) <;> first | rfl | (exfalso; simp only [i_lt, i_le, i_eq, tI0, tI1, tI2, tI3, tI4, tI5, tI6, tI7, tI8, tI9, tI10, tI11, tI12, tI13, tI14, tI15, tI16, tI30, tI120, tI255, tI256, tI1000, tIm1] at *; omega)
set_option maxHeartbeats 1500000 in
theorem pf_X5_item_5 (a : Nat → Nat) (v : Nat → Int32) (r : Nat → Nat → Int32) (x y : Int32) (c : Nat) (hc : v 14 = nI c) (hc1 : c ≤ 500) (c_3 : ¬ (x < (-1))) (c_11 : ¬ ((v 14) ≤ x)) (c_15 : ¬ (y < 0)) (c_21 : x = (-1)) (c_30 : y ≤ 2) (c_52 : x = (-1)) (c_56 : ¬ (y = 0)) (c_68 : ¬ (y = 1)) : thI v x y = 0 := by
  unfold thI; (repeat' split) <;> first | rfl | (exfalso; simp only [i_lt, i_le, i_eq, tI0, tI1, tI2, tI3, tI4, tI5, tI6, tI7, tI8, tI9, tI10, tI11, tI12, tI13, tI14, tI15, tI16, tI30, tI120, tI255, tI256, tI1000, tIm1] at *; omega)
set_option maxHeartbeats 1500000 in
theorem pf_X5_item_6 (a : Nat → Nat) (v : Nat → Int32) (r : Nat → Nat → Int32) (x y : Int32) (c : Nat) (hc : v 14 = nI c) (hc1 : c ≤ 500) (c_3 : ¬ (x < (-1))) (c_11 : ¬ ((v 14) ≤ x)) (c_15 : ¬ (y < 0)) (c_21 : x = (-1)) (c_30 : y ≤ 2) (c_52 : x = (-1)) (c_56 : ¬ (y = 0)) (c_68 : y = 1) : thI v x y = 0 := by
  unfold thI; (repeat' split) <;> first | rfl | (exfalso; simp only [i_lt, i_le, i_eq, tI0, tI1, tI2, tI3, tI4, tI5, tI6, tI7, tI8, tI9, tI10, tI11, tI12, tI13, tI14, tI15, tI16, tI30, tI120, tI255, tI256, tI1000, tIm1] at *; omega)
set_option maxHeartbeats 1500000 in
theorem pf_X5_item_7 (a : Nat → Nat) (v : Nat → Int32) (r : Nat → Nat → Int32) (x y : Int32) (c : Nat) (hc : v 14 = nI c) (hc1 : c ≤ 500) (c_3 : ¬ (x < (-1))) (c_11 : ¬ ((v 14) ≤ x)) (c_15 : ¬ (y < 0)) (c_21 : x = (-1)) (c_30 : y ≤ 2) (c_52 : x = (-1)) (c_56 : y = 0) : thI v x y = 0 := by
  unfold thI; (repeat' split) <;> first | rfl | (exfalso; simp only [i_lt, i_le, i_eq, tI0, tI1, tI2, tI3, tI4, tI5, tI6, tI7, tI8, tI9, tI10, tI11, tI12, tI13, tI14, tI15, tI16, tI30, tI120, tI255, tI256, tI1000, tIm1] at *; omega)
set_option maxHeartbeats 1500000 in
theorem pf_X5_item_8 (a : Nat → Nat) (v : Nat → Int32) (r : Nat → Nat → Int32) (x y : Int32) (c : Nat) (hc : v 14 = nI c) (hc1 : c ≤ 500) (c_3 : ¬ (x < (-1))) (c_11 : ¬ ((v 14) ≤ x)) (c_15 : ¬ (y < 0)) (c_21 : x = (-1)) (c_30 : ¬ (y ≤ 2)) : thI v x y = 1 := by
  unfold thI; (repeat' split) <;> first | rfl | (exfalso; simp only [i_lt, i_le, i_eq, tI0, tI1, tI2, tI3, tI4, tI5, tI6, tI7, tI8, tI9, tI10, tI11, tI12, tI13, tI14, tI15, tI16, tI30, tI120, tI255, tI256, tI1000, tIm1] at *; omega)
set_option maxHeartbeats 1500000 in
set_option maxRecDepth 100000 in
theorem c_X5_item (l : Launch) (D : va_G) (cI : ClassId) (a : Nat → Nat) (v : Nat → Int32) (r : Nat → Nat → Int32) (x y : Int32) (c : Nat) (hc : v 14 = nI c) (hc1 : c ≤ 500) : KI l D cI yX5_item wsX5_item ({ frames := 0, cells := 0, slots := 0, locals := 0 }) [.ref (a 0), .int x, .int y] (wM cI a v r) (fun u : (Nat → Int32) × (Nat → Nat → Int32) => wM cI a u.1 u.2) (fun q u => (q, u.1, u.2) = spIt v r x y) := by
  refine KI.of (cc := cX5_item) (nL := 3) (ret := (some .int)) (by decide) rfl (Nat.le_of_ble_eq_true rfl) ?_
  intro pg9 en9 s m args below meth cd9 A ls C0 hP hD hS hl
  have hx := C0.1.1
  have hb := C0.1.2.1
  have hml := C0.1.2.2.1
  have hown : s.vm.findClass RX5 = some m.cls := C0.1.2.2.2.1
  have hts : ∀ w ∈ wsX5_item, w.before args s = true := C0.1.2.2.2.2
  have hK := C0.2.2.2.1
  have hin_X5 : ∀ w ∈ wsX50, w ∈ wsX5_item := fun w h => List.mem_cons_of_mem _ (List.mem_append_right _ h)
  have hf50 : (Cond.fieldLink RX5 50 "FormulaListsModel" "thrown" "I").before args s = true := hts _ (by decide +kernel)
  have hf166 : (Cond.fieldLink RX5 166 "FormulaListsModel" "items" "I").before args s = true := hts _ (by decide +kernel)
  have hf44 : (Cond.fieldLink RX5 44 "FormulaListsModel" "item" "[I").before args s = true := hts _ (by decide +kernel)
  have hf203 : (Cond.fieldLink RX5 203 "FormulaListsModel" "allDepth" "I").before args s = true := hts _ (by decide +kernel)
  have hf200 : (Cond.fieldLink RX5 200 "FormulaListsModel" "allHeight" "I").before args s = true := hts _ (by decide +kernel)
  have hf197 : (Cond.fieldLink RX5 197 "FormulaListsModel" "allWidth" "I").before args s = true := hts _ (by decide +kernel)
  have hl : lv_has ls 3 [(0, .ref (a 0)), (1, .int x), (2, .int y)] := hl
  have hP : va_P D vwCl (wM cI a v r) s.heap := hP
  refine lv_aload_n hx hb dX5_item_0 rfl (lv_at hl 0 rfl) ?_
  refine lv_iload_n hx hb dX5_item_1 rfl (lv_at hl 1 rfl) ?_
  refine lv_iconst (v := (-1)) hx hb dX5_item_2 (by decide) ?_
  refine lv_icmp_lt (tgt := 33) hx hb dX5_item_3 (by decide) (fun c_3 => ?_) (fun c_3 => ?_)
  · skip
    refine lv_iconst (v := 1) hx hb dX5_item_33 (by decide) ?_
    refine lv_goto (tgt := 38) hx hb dX5_item_34 (by decide) ?_
    refine va_put (D := D) (ci := 5) (v := .int 1) (ty := .int) (C := RX5) (T := TX5) (N := 25) hx hb hts hin_X5 tyX5 tyX5_ok nmX5 hown hK hP hD hS 0 rfl rfl 0 (by decide) hf50 (fun _ h9 => h9) rfl (by decide +kernel) rfl rfl (Nat.le_of_ble_eq_true rfl) dX5_item_38 (fun H locs hP hD hS => ?_)
    have hP : va_P D vwCl (wM cI a (vU v 0 1) r) H := hP
    have hD : va_D A (wM cI a (vU v 0 1) r) := hD
    refine lv_aload_n hx hb dX5_item_41 rfl (lv_at hl 0 rfl) ?_
    refine va_get (D := D) (ci := 5) (v := .int 1) (C := RX5) (T := TX5) (N := 25) hx hb hts hin_X5 hown hK hP 0 rfl rfl 0 (by decide) hf50 (fun _ h9 => h9) rfl dX5_item_42 ?_
    refine lv_if_le (tgt := 50) hx hb dX5_item_45 (by decide) (fun c_45 => absurd c_45 (by decide)) (fun c_45 => ?_)
    refine lv_iconst (v := 0) hx hb dX5_item_48 (by decide) ?_
    exact k_iret C0 ((vU v 0 1), r) hP hD hS (by rw [spIt, (pf_X5_item_0 a v r x y c hc hc1 c_3), if_neg (by decide)] <;> rfl) dX5_item_49
  · skip
    refine lv_iload_n hx hb dX5_item_6 rfl (lv_at hl 1 rfl) ?_
    refine lv_aload_n hx hb dX5_item_7 rfl (lv_at hl 0 rfl) ?_
    refine va_get (D := D) (ci := 5) (v := .int (v 14)) (C := RX5) (T := TX5) (N := 25) hx hb hts hin_X5 hown hK hP 0 rfl rfl 14 (by decide) hf166 (fun _ h9 => h9) rfl dX5_item_8 ?_
    refine lv_icmp_ge (tgt := 33) hx hb dX5_item_11 (by decide) (fun c_11 => ?_) (fun c_11 => ?_)
    · skip
      refine lv_iconst (v := 1) hx hb dX5_item_33 (by decide) ?_
      refine lv_goto (tgt := 38) hx hb dX5_item_34 (by decide) ?_
      refine va_put (D := D) (ci := 5) (v := .int 1) (ty := .int) (C := RX5) (T := TX5) (N := 25) hx hb hts hin_X5 tyX5 tyX5_ok nmX5 hown hK hP hD hS 0 rfl rfl 0 (by decide) hf50 (fun _ h9 => h9) rfl (by decide +kernel) rfl rfl (Nat.le_of_ble_eq_true rfl) dX5_item_38 (fun H locs hP hD hS => ?_)
      have hP : va_P D vwCl (wM cI a (vU v 0 1) r) H := hP
      have hD : va_D A (wM cI a (vU v 0 1) r) := hD
      refine lv_aload_n hx hb dX5_item_41 rfl (lv_at hl 0 rfl) ?_
      refine va_get (D := D) (ci := 5) (v := .int 1) (C := RX5) (T := TX5) (N := 25) hx hb hts hin_X5 hown hK hP 0 rfl rfl 0 (by decide) hf50 (fun _ h9 => h9) rfl dX5_item_42 ?_
      refine lv_if_le (tgt := 50) hx hb dX5_item_45 (by decide) (fun c_45 => absurd c_45 (by decide)) (fun c_45 => ?_)
      refine lv_iconst (v := 0) hx hb dX5_item_48 (by decide) ?_
      exact k_iret C0 ((vU v 0 1), r) hP hD hS (by rw [spIt, (pf_X5_item_1 a v r x y c hc hc1 c_3 c_11), if_neg (by decide)] <;> rfl) dX5_item_49
    · skip
      refine lv_iload_n hx hb dX5_item_14 rfl (lv_at hl 2 rfl) ?_
      refine lv_if_lt (tgt := 33) hx hb dX5_item_15 (by decide) (fun c_15 => ?_) (fun c_15 => ?_)
      · skip
        refine lv_iconst (v := 1) hx hb dX5_item_33 (by decide) ?_
        refine lv_goto (tgt := 38) hx hb dX5_item_34 (by decide) ?_
        refine va_put (D := D) (ci := 5) (v := .int 1) (ty := .int) (C := RX5) (T := TX5) (N := 25) hx hb hts hin_X5 tyX5 tyX5_ok nmX5 hown hK hP hD hS 0 rfl rfl 0 (by decide) hf50 (fun _ h9 => h9) rfl (by decide +kernel) rfl rfl (Nat.le_of_ble_eq_true rfl) dX5_item_38 (fun H locs hP hD hS => ?_)
        have hP : va_P D vwCl (wM cI a (vU v 0 1) r) H := hP
        have hD : va_D A (wM cI a (vU v 0 1) r) := hD
        refine lv_aload_n hx hb dX5_item_41 rfl (lv_at hl 0 rfl) ?_
        refine va_get (D := D) (ci := 5) (v := .int 1) (C := RX5) (T := TX5) (N := 25) hx hb hts hin_X5 hown hK hP 0 rfl rfl 0 (by decide) hf50 (fun _ h9 => h9) rfl dX5_item_42 ?_
        refine lv_if_le (tgt := 50) hx hb dX5_item_45 (by decide) (fun c_45 => absurd c_45 (by decide)) (fun c_45 => ?_)
        refine lv_iconst (v := 0) hx hb dX5_item_48 (by decide) ?_
        exact k_iret C0 ((vU v 0 1), r) hP hD hS (by rw [spIt, (pf_X5_item_2 a v r x y c hc hc1 c_3 c_11 c_15), if_neg (by decide)] <;> rfl) dX5_item_49
      · skip
        refine lv_iload_n hx hb dX5_item_18 rfl (lv_at hl 2 rfl) ?_
        refine lv_iload_n hx hb dX5_item_19 rfl (lv_at hl 1 rfl) ?_
        refine lv_iconst (v := (-1)) hx hb dX5_item_20 (by decide) ?_
        refine lv_icmp_ne (tgt := 28) hx hb dX5_item_21 (by decide) (fun c_21 => ?_) (fun c_21 => ?_)
        · skip
          refine lv_bipush (v := 7) hx hb dX5_item_28 (by decide) ?_
          refine lv_icmp_le (tgt := 37) hx hb dX5_item_30 (by decide) (fun c_30 => ?_) (fun c_30 => ?_)
          · skip
            refine lv_iconst (v := 0) hx hb dX5_item_37 (by decide) ?_
            refine va_put (D := D) (ci := 5) (v := .int 0) (ty := .int) (C := RX5) (T := TX5) (N := 25) hx hb hts hin_X5 tyX5 tyX5_ok nmX5 hown hK hP hD hS 0 rfl rfl 0 (by decide) hf50 (fun _ h9 => h9) rfl (by decide +kernel) rfl rfl (Nat.le_of_ble_eq_true rfl) dX5_item_38 (fun H locs hP hD hS => ?_)
            have hP : va_P D vwCl (wM cI a (vU v 0 0) r) H := hP
            have hD : va_D A (wM cI a (vU v 0 0) r) := hD
            refine lv_aload_n hx hb dX5_item_41 rfl (lv_at hl 0 rfl) ?_
            refine va_get (D := D) (ci := 5) (v := .int 0) (C := RX5) (T := TX5) (N := 25) hx hb hts hin_X5 hown hK hP 0 rfl rfl 0 (by decide) hf50 (fun _ h9 => h9) rfl dX5_item_42 ?_
            refine lv_if_le (tgt := 50) hx hb dX5_item_45 (by decide) (fun c_45 => ?_) (fun c_45 => absurd (by decide) c_45)
            refine lv_iload_n hx hb dX5_item_50 rfl (lv_at hl 1 rfl) ?_
            refine lv_iconst (v := (-1)) hx hb dX5_item_51 (by decide) ?_
            refine lv_icmp_ne (tgt := 83) hx hb dX5_item_52 (by decide) (fun c_52 => ?_) (fun c_52 => absurd c_52 c_21)
            have hx0 : ¬ x < 0 := itx0 c_3 c_21
            have hxi := ix_of hx0 (Int32.not_le.mp c_11) hc hc1 (by decide)
            have hyi := ix_up (M := 7) (n := 7) c_15 c_30 rfl
            refine lv_aload_n hx hb dX5_item_83 rfl (lv_at hl 0 rfl) ?_
            refine va_get (D := D) (ci := 5) (v := .ref (a 11)) (C := RX5) (T := TX5) (N := 25) hx hb hts hin_X5 hown hK hP 0 rfl rfl 15 (by decide) hf44 (fun _ h9 => h9) rfl dX5_item_84 ?_
            refine lv_bipush (v := 8) hx hb dX5_item_87 (by decide) ?_
            refine lv_iload_n hx hb dX5_item_89 rfl (lv_at hl 1 rfl) ?_
            refine lv_imul hx hb dX5_item_90 ?_
            refine lv_iload_n hx hb dX5_item_91 rfl (lv_at hl 2 rfl) ?_
            refine lv_iadd hx hb dX5_item_92 ?_
            refine ra_ld (f := (r 11)) C0 hP 11 rfl (8 * x.toNatClampNeg + y.toNatClampNeg) (i_it hxi.1 hyi.1) (by omega) (by decide) dX5_item_93 ?_
            exact k_iret C0 ((vU v 0 0), r) hP hD hS (by rw [spIt, (pf_X5_item_3 a v r x y c hc hc1 c_3 c_11 c_15 c_21 c_30 c_52), if_pos rfl, if_neg c_21] <;> rfl) dX5_item_94
          · skip
            refine lv_iconst (v := 1) hx hb dX5_item_33 (by decide) ?_
            refine lv_goto (tgt := 38) hx hb dX5_item_34 (by decide) ?_
            refine va_put (D := D) (ci := 5) (v := .int 1) (ty := .int) (C := RX5) (T := TX5) (N := 25) hx hb hts hin_X5 tyX5 tyX5_ok nmX5 hown hK hP hD hS 0 rfl rfl 0 (by decide) hf50 (fun _ h9 => h9) rfl (by decide +kernel) rfl rfl (Nat.le_of_ble_eq_true rfl) dX5_item_38 (fun H locs hP hD hS => ?_)
            have hP : va_P D vwCl (wM cI a (vU v 0 1) r) H := hP
            have hD : va_D A (wM cI a (vU v 0 1) r) := hD
            refine lv_aload_n hx hb dX5_item_41 rfl (lv_at hl 0 rfl) ?_
            refine va_get (D := D) (ci := 5) (v := .int 1) (C := RX5) (T := TX5) (N := 25) hx hb hts hin_X5 hown hK hP 0 rfl rfl 0 (by decide) hf50 (fun _ h9 => h9) rfl dX5_item_42 ?_
            refine lv_if_le (tgt := 50) hx hb dX5_item_45 (by decide) (fun c_45 => absurd c_45 (by decide)) (fun c_45 => ?_)
            refine lv_iconst (v := 0) hx hb dX5_item_48 (by decide) ?_
            exact k_iret C0 ((vU v 0 1), r) hP hD hS (by rw [spIt, (pf_X5_item_4 a v r x y c hc hc1 c_3 c_11 c_15 c_21 c_30), if_neg (by decide)] <;> rfl) dX5_item_49
        · skip
          refine lv_iconst (v := 2) hx hb dX5_item_24 (by decide) ?_
          refine lv_goto (tgt := 30) hx hb dX5_item_25 (by decide) ?_
          refine lv_icmp_le (tgt := 37) hx hb dX5_item_30 (by decide) (fun c_30 => ?_) (fun c_30 => ?_)
          · skip
            refine lv_iconst (v := 0) hx hb dX5_item_37 (by decide) ?_
            refine va_put (D := D) (ci := 5) (v := .int 0) (ty := .int) (C := RX5) (T := TX5) (N := 25) hx hb hts hin_X5 tyX5 tyX5_ok nmX5 hown hK hP hD hS 0 rfl rfl 0 (by decide) hf50 (fun _ h9 => h9) rfl (by decide +kernel) rfl rfl (Nat.le_of_ble_eq_true rfl) dX5_item_38 (fun H locs hP hD hS => ?_)
            have hP : va_P D vwCl (wM cI a (vU v 0 0) r) H := hP
            have hD : va_D A (wM cI a (vU v 0 0) r) := hD
            refine lv_aload_n hx hb dX5_item_41 rfl (lv_at hl 0 rfl) ?_
            refine va_get (D := D) (ci := 5) (v := .int 0) (C := RX5) (T := TX5) (N := 25) hx hb hts hin_X5 hown hK hP 0 rfl rfl 0 (by decide) hf50 (fun _ h9 => h9) rfl dX5_item_42 ?_
            refine lv_if_le (tgt := 50) hx hb dX5_item_45 (by decide) (fun c_45 => ?_) (fun c_45 => absurd (by decide) c_45)
            refine lv_iload_n hx hb dX5_item_50 rfl (lv_at hl 1 rfl) ?_
            refine lv_iconst (v := (-1)) hx hb dX5_item_51 (by decide) ?_
            refine lv_icmp_ne (tgt := 83) hx hb dX5_item_52 (by decide) (fun c_52 => absurd c_21 c_52) (fun c_52 => ?_)
            refine lv_iload_n hx hb dX5_item_55 rfl (lv_at hl 2 rfl) ?_
            refine lv_if_ne (tgt := 66) hx hb dX5_item_56 (by decide) (fun c_56 => ?_) (fun c_56 => ?_)
            · skip
              refine lv_iload_n hx hb dX5_item_66 rfl (lv_at hl 2 rfl) ?_
              refine lv_iconst (v := 1) hx hb dX5_item_67 (by decide) ?_
              refine lv_icmp_ne (tgt := 78) hx hb dX5_item_68 (by decide) (fun c_68 => ?_) (fun c_68 => ?_)
              · skip
                refine lv_aload_n hx hb dX5_item_78 rfl (lv_at hl 0 rfl) ?_
                refine va_get (D := D) (ci := 5) (v := .int (v 18)) (C := RX5) (T := TX5) (N := 25) hx hb hts hin_X5 hown hK hP 0 rfl rfl 18 (by decide) hf203 (fun _ h9 => h9) rfl dX5_item_79 ?_
                exact k_iret C0 ((vU v 0 0), r) hP hD hS (by rw [spIt, (pf_X5_item_5 a v r x y c hc hc1 c_3 c_11 c_15 c_21 c_30 c_52 c_56 c_68), if_pos rfl, if_pos c_21, if_neg c_56, if_neg c_68] <;> rfl) dX5_item_82
              · skip
                refine lv_aload_n hx hb dX5_item_71 rfl (lv_at hl 0 rfl) ?_
                refine va_get (D := D) (ci := 5) (v := .int (v 17)) (C := RX5) (T := TX5) (N := 25) hx hb hts hin_X5 hown hK hP 0 rfl rfl 17 (by decide) hf200 (fun _ h9 => h9) rfl dX5_item_72 ?_
                refine lv_goto (tgt := 82) hx hb dX5_item_75 (by decide) ?_
                exact k_iret C0 ((vU v 0 0), r) hP hD hS (by rw [spIt, (pf_X5_item_6 a v r x y c hc hc1 c_3 c_11 c_15 c_21 c_30 c_52 c_56 c_68), if_pos rfl, if_pos c_21, if_neg c_56, if_pos c_68] <;> rfl) dX5_item_82
            · skip
              refine lv_aload_n hx hb dX5_item_59 rfl (lv_at hl 0 rfl) ?_
              refine va_get (D := D) (ci := 5) (v := .int (v 16)) (C := RX5) (T := TX5) (N := 25) hx hb hts hin_X5 hown hK hP 0 rfl rfl 16 (by decide) hf197 (fun _ h9 => h9) rfl dX5_item_60 ?_
              refine lv_goto (tgt := 82) hx hb dX5_item_63 (by decide) ?_
              exact k_iret C0 ((vU v 0 0), r) hP hD hS (by rw [spIt, (pf_X5_item_7 a v r x y c hc hc1 c_3 c_11 c_15 c_21 c_30 c_52 c_56), if_pos rfl, if_pos c_21, if_pos c_56] <;> rfl) dX5_item_82
          · skip
            refine lv_iconst (v := 1) hx hb dX5_item_33 (by decide) ?_
            refine lv_goto (tgt := 38) hx hb dX5_item_34 (by decide) ?_
            refine va_put (D := D) (ci := 5) (v := .int 1) (ty := .int) (C := RX5) (T := TX5) (N := 25) hx hb hts hin_X5 tyX5 tyX5_ok nmX5 hown hK hP hD hS 0 rfl rfl 0 (by decide) hf50 (fun _ h9 => h9) rfl (by decide +kernel) rfl rfl (Nat.le_of_ble_eq_true rfl) dX5_item_38 (fun H locs hP hD hS => ?_)
            have hP : va_P D vwCl (wM cI a (vU v 0 1) r) H := hP
            have hD : va_D A (wM cI a (vU v 0 1) r) := hD
            refine lv_aload_n hx hb dX5_item_41 rfl (lv_at hl 0 rfl) ?_
            refine va_get (D := D) (ci := 5) (v := .int 1) (C := RX5) (T := TX5) (N := 25) hx hb hts hin_X5 hown hK hP 0 rfl rfl 0 (by decide) hf50 (fun _ h9 => h9) rfl dX5_item_42 ?_
            refine lv_if_le (tgt := 50) hx hb dX5_item_45 (by decide) (fun c_45 => absurd c_45 (by decide)) (fun c_45 => ?_)
            refine lv_iconst (v := 0) hx hb dX5_item_48 (by decide) ?_
            exact k_iret C0 ((vU v 0 1), r) hP hD hS (by rw [spIt, (pf_X5_item_8 a v r x y c hc hc1 c_3 c_11 c_15 c_21 c_30), if_neg (by decide)] <;> rfl) dX5_item_49
