def lsP (v : Nat → Int32) (x : Int32) : Prop := 0 ≤ x ∧ x < v 1
def mtP (v : Nat → Int32) (r : Nat → Nat → Int32) (k : Nat) : Prop := (0 < nI k ∧ r 1 k = -1) ∧ ¬ wiF (r 1) (r 2) (nI k) 30 (v 2) = true

def thC (v : Nat → Int32) (r : Nat → Nat → Int32) (N : Nat) (x y z : Int32) : Int32 :=
  if ¬ (0 ≤ x ∧ x < nI N ∧ ¬ r 3 x.toNatClampNeg = 4) ∨ ¬ (0 ≤ z ∧ z < v 1) then 1
  else if ¬ (if y = 0 then r 9 x.toNatClampNeg else r 8 x.toNatClampNeg) = -1 ∨ ¬ (0 < nI z.toNatClampNeg ∧ r 1 z.toNatClampNeg = -1) ∨ wiF (r 1) (r 2) z 30 (r 2 x.toNatClampNeg) = true then 2 else 0
def spSc (v : Nat → Int32) (r : Nat → Nat → Int32) (N : Nat) (x y z : Int32) : SV :=
  if thC v r N x y z = 0 then
    (if y = 0 then ((if r 8 x.toNatClampNeg = -1 then 1 else if upd (r 9) x.toNatClampNeg z x.toNatClampNeg = -1 then 1 else 2), vU v 0 0, rU (rU r 1 (upd (r 1) z.toNatClampNeg x)) 9 (upd (r 9) x.toNatClampNeg z))
     else ((if upd (r 8) x.toNatClampNeg z x.toNatClampNeg = -1 then 1 else if r 9 x.toNatClampNeg = -1 then 1 else 2), vU v 0 0, rU (rU r 1 (upd (r 1) z.toNatClampNeg x)) 8 (upd (r 8) x.toNatClampNeg z)))
  else (0, vU v 0 (thC v r N x y z), r)

set_option maxHeartbeats 1500000 in
set_option maxRecDepth 100000 in
theorem c_X5_script (l : Launch) (D : va_G) (cI : ClassId) (a : Nat → Nat) (v : Nat → Int32) (r : Nat → Nat → Int32) (x y z : Int32) (N L : Nat) (dp : Nat → Nat) (hN : v 4 = nI N) (hN1 : N ≤ 120) (hL : v 1 = nI L) (hL1 : L ≤ 30) (hlo : ∀ n, n < N → ∃ i, r 2 n = nI i ∧ i < 30) (hd30 : ∀ j, j < 30 → dp j ≤ 30) (hdp : ∀ j, j < 30 → r 1 j = -1 ∨ ∃ n i, r 1 j = nI n ∧ n < 120 ∧ r 2 n = nI i ∧ i < 30 ∧ dp i < dp j) : KI l D cI yX5_script wsX5_script ({ frames := 1, cells := 0, slots := 0, locals := 23 }) [.ref (a 0), .int x, .int y, .int z] (wM cI a v r) (fun u : (Nat → Int32) × (Nat → Nat → Int32) => wM cI a u.1 u.2) (fun q u => (q, u.1, u.2) = spSc v r N x y z) := by
  refine KI.of (cc := cX5_script) (nL := 5) (ret := (some .int)) (by decide) rfl (Nat.le_of_ble_eq_true rfl) ?_
  intro pg9 en9 s m args below meth cd9 A ls C0 hP hD hS hl
  have hx := C0.1.1
  have hb := C0.1.2.1
  have hml := C0.1.2.2.1
  have hown : s.vm.findClass RX5 = some m.cls := C0.1.2.2.2.1
  have hts : ∀ w ∈ wsX5_script, w.before args s = true := C0.1.2.2.2.2
  have hK := C0.2.2.2.1
  have hin_X5 : ∀ w ∈ wsX50, w ∈ wsX5_script := fun w h => List.mem_cons_of_mem _ (List.mem_append_right _ h)
  have hf50 : (Cond.fieldLink RX5 50 "FormulaListsModel" "thrown" "I").before args s = true := hts _ (by decide +kernel)
  have hf38 : (Cond.fieldLink RX5 38 "FormulaListsModel" "lower" "[I").before args s = true := hts _ (by decide +kernel)
  have hf17 : (Cond.fieldLink RX5 17 "FormulaListsModel" "listOf" "[I").before args s = true := hts _ (by decide +kernel)
  have hf13 : (Cond.fieldLink RX5 13 "FormulaListsModel" "in" "[I").before args s = true := hts _ (by decide +kernel)
  have hf35 : (Cond.fieldLink RX5 35 "FormulaListsModel" "upper" "[I").before args s = true := hts _ (by decide +kernel)
  have hl : lv_has ls 5 [(0, .ref (a 0)), (1, .int x), (2, .int y), (3, .int z)] := hl
  have hP : va_P D vwCl (wM cI a v r) s.heap := hP
  refine lv_aload_n hx hb dX5_script_0 rfl (lv_at hl 0 rfl) ?_
  refine lv_aload_n hx hb dX5_script_1 rfl (lv_at hl 0 rfl) ?_
  refine lv_iload_n hx hb dX5_script_2 rfl (lv_at hl 1 rfl) ?_
  refine kcD (ans := (bI (0 ≤ x ∧ x < nI N ∧ ¬ r 3 x.toNatClampNeg = 4))) C0 hP hD hS (c_X5_isAtom l D cI a v r x N hN hN1) (cwV 1 hts gX5_script_X5_isAtom rfl rfl rfl (by decide +kernel) ⟨Nat.le_of_ble_eq_true rfl, Nat.le_of_ble_eq_true rfl⟩) 0 5 rfl rfl rfl hl.1 rfl (Nat.le_of_ble_eq_true rfl) dX5_script_3 ⟨Nat.zero_le _, Nat.zero_le _⟩ (fun H locs hP hD hS => ?_)
  refine lv_if_eq (tgt := 17) hx hb dX5_script_6 (by decide) (fun c_6 => ?_) (fun c_6 => ?_)
  · skip
    refine lv_iconst (v := 1) hx hb dX5_script_17 (by decide) ?_
    refine lv_goto (tgt := 22) hx hb dX5_script_18 (by decide) ?_
    refine va_put (D := D) (ci := 5) (v := .int 1) (ty := .int) (C := RX5) (T := TX5) (N := 25) hx hb hts hin_X5 tyX5 tyX5_ok nmX5 hown hK hP hD hS 0 rfl rfl 0 (by decide) hf50 (fun _ h9 => h9) rfl (by decide +kernel) rfl rfl (Nat.le_of_ble_eq_true rfl) dX5_script_22 (fun H locs hP hD hS => ?_)
    have hP : va_P D vwCl (wM cI a (vU v 0 1) r) H := hP
    have hD : va_D A (wM cI a (vU v 0 1) r) := hD
    refine lv_aload_n hx hb dX5_script_25 rfl (lv_at hl 0 rfl) ?_
    refine va_get (D := D) (ci := 5) (v := .int 1) (C := RX5) (T := TX5) (N := 25) hx hb hts hin_X5 hown hK hP 0 rfl rfl 0 (by decide) hf50 (fun _ h9 => h9) rfl dX5_script_26 ?_
    refine lv_if_le (tgt := 34) hx hb dX5_script_29 (by decide) (fun c_29 => absurd c_29 (by decide)) (fun c_29 => ?_)
    refine lv_iconst (v := 0) hx hb dX5_script_32 (by decide) ?_
    have hth : thC v r N x y z = 1 := by rw [thC, if_pos (Or.inl (bI_z.mp c_6))]
    exact k_iret C0 ((vU v 0 1), r) hP hD hS (by rw [spSc, hth, if_neg (by decide)] <;> rfl) dX5_script_33
  · skip
    refine lv_aload_n hx hb dX5_script_9 rfl (lv_at hl 0 rfl) ?_
    refine lv_iload_n hx hb dX5_script_10 rfl (lv_at hl 3 rfl) ?_
    refine kcD (ans := (bI (0 ≤ z ∧ z < v 1))) C0 hP hD hS (c_X5_isList l D cI a v r z ) (cwV 1 hts gX5_script_X5_isList rfl rfl rfl (by decide +kernel) ⟨Nat.le_of_ble_eq_true rfl, Nat.le_of_ble_eq_true rfl⟩) 0 5 rfl rfl rfl hl.1 rfl (Nat.le_of_ble_eq_true rfl) dX5_script_11 ⟨Nat.zero_le _, Nat.zero_le _⟩ (fun H locs hP hD hS => ?_)
    refine lv_if_ne (tgt := 21) hx hb dX5_script_14 (by decide) (fun c_14 => ?_) (fun c_14 => ?_)
    · skip
      refine lv_iconst (v := 0) hx hb dX5_script_21 (by decide) ?_
      refine va_put (D := D) (ci := 5) (v := .int 0) (ty := .int) (C := RX5) (T := TX5) (N := 25) hx hb hts hin_X5 tyX5 tyX5_ok nmX5 hown hK hP hD hS 0 rfl rfl 0 (by decide) hf50 (fun _ h9 => h9) rfl (by decide +kernel) rfl rfl (Nat.le_of_ble_eq_true rfl) dX5_script_22 (fun H locs hP hD hS => ?_)
      have hP : va_P D vwCl (wM cI a (vU v 0 0) r) H := hP
      have hD : va_D A (wM cI a (vU v 0 0) r) := hD
      refine lv_aload_n hx hb dX5_script_25 rfl (lv_at hl 0 rfl) ?_
      refine va_get (D := D) (ci := 5) (v := .int 0) (C := RX5) (T := TX5) (N := 25) hx hb hts hin_X5 hown hK hP 0 rfl rfl 0 (by decide) hf50 (fun _ h9 => h9) rfl dX5_script_26 ?_
      refine lv_if_le (tgt := 34) hx hb dX5_script_29 (by decide) (fun c_29 => ?_) (fun c_29 => absurd (by decide) c_29)
      obtain ⟨hx0, hxN, hx3⟩ := bI_nz.mp c_6
      obtain ⟨hz0, hzN⟩ := bI_nz.mp c_14
      have hxi := ix_of (Int32.not_lt.mpr hx0) hxN rfl hN1 (by decide)
      have hzi := ix_of (Int32.not_lt.mpr hz0) hzN hL hL1 (by decide)
      have hxl : x.toNatClampNeg < N := by have h := hxN; rw [hxi.1] at h; exact (nI_ltI (by omega) (by omega)).mp h
      obtain ⟨i, e2, hi⟩ := hlo _ hxl
      refine lv_iload_n hx hb dX5_script_34 rfl (lv_at hl 2 rfl) ?_
      refine lv_if_eq (tgt := 47) hx hb dX5_script_35 (by decide) (fun c_35 => ?_) (fun c_35 => ?_)
      · skip
        refine lv_aload_n hx hb dX5_script_47 rfl (lv_at hl 0 rfl) ?_
        refine va_get (D := D) (ci := 5) (v := .ref (a 9)) (C := RX5) (T := TX5) (N := 25) hx hb hts hin_X5 hown hK hP 0 rfl rfl 12 (by decide) hf38 (fun _ h9 => h9) rfl dX5_script_48 ?_
        refine lv_iload_n hx hb dX5_script_51 rfl (lv_at hl 1 rfl) ?_
        refine ra_ld (f := (r 9)) C0 hP 9 rfl x.toNatClampNeg hxi.1 hxi.2 (by decide) dX5_script_52 ?_
        refine lv_iconst (v := (-1)) hx hb dX5_script_53 (by decide) ?_
        refine lv_icmp_eq (tgt := 61) hx hb dX5_script_54 (by decide) (fun c_54 => ?_) (fun c_54 => ?_)
        · skip
          refine lv_iconst (v := 0) hx hb dX5_script_61 (by decide) ?_
          refine lv_istore (lv' := [(4, .int 0), (0, .ref (a 0)), (1, .int x), (2, .int y), (3, .int z)]) hx hb dX5_script_62 hl (by decide) rfl (fun ls hl => ?_)
          refine lv_aload_n hx hb dX5_script_64 rfl (lv_at hl 1 rfl) ?_
          refine lv_iload hx hb dX5_script_65 (lv_at hl 0 rfl) ?_
          refine lv_if_ne (tgt := 92) hx hb dX5_script_67 (by decide) (fun c_67 => absurd (by decide) c_67) (fun c_67 => ?_)
          refine lv_aload_n hx hb dX5_script_70 rfl (lv_at hl 1 rfl) ?_
          refine lv_iload_n hx hb dX5_script_71 rfl (lv_at hl 4 rfl) ?_
          refine lv_eqi hzi.1 ?_
          refine kcD (ans := (bI (0 < nI z.toNatClampNeg ∧ r 1 z.toNatClampNeg = -1))) C0 hP hD hS (c_X5_isFree l D cI a (vU v 0 0) r z.toNatClampNeg hzi.2) (cwV 1 hts gX5_script_X5_isFree rfl rfl rfl (by decide +kernel) ⟨Nat.le_of_ble_eq_true rfl, Nat.le_of_ble_eq_true rfl⟩) 0 5 rfl rfl rfl hl.1 rfl (Nat.le_of_ble_eq_true rfl) dX5_script_72 ⟨Nat.zero_le _, Nat.zero_le _⟩ (fun H locs hP hD hS => ?_)
          refine lv_if_eq (tgt := 92) hx hb dX5_script_75 (by decide) (fun c_75 => ?_) (fun c_75 => ?_)
          · skip
            refine lv_iconst (v := 2) hx hb dX5_script_92 (by decide) ?_
            refine lv_goto (tgt := 97) hx hb dX5_script_93 (by decide) ?_
            refine va_put (D := D) (ci := 5) (v := .int 2) (ty := .int) (C := RX5) (T := TX5) (N := 25) hx hb hts hin_X5 tyX5 tyX5_ok nmX5 hown hK hP hD hS 0 rfl rfl 0 (by decide) hf50 (fun _ h9 => h9) rfl (by decide +kernel) rfl rfl (Nat.le_of_ble_eq_true rfl) dX5_script_97 (fun H locs hP hD hS => ?_)
            have hP : va_P D vwCl (wM cI a (vU v 0 2) r) H := hP
            have hD : va_D A (wM cI a (vU v 0 2) r) := hD
            refine lv_aload_n hx hb dX5_script_100 rfl (lv_at hl 1 rfl) ?_
            refine va_get (D := D) (ci := 5) (v := .int 2) (C := RX5) (T := TX5) (N := 25) hx hb hts hin_X5 hown hK hP 0 rfl rfl 0 (by decide) hf50 (fun _ h9 => h9) rfl dX5_script_101 ?_
            refine lv_if_le (tgt := 109) hx hb dX5_script_104 (by decide) (fun c_104 => absurd c_104 (by decide)) (fun c_104 => ?_)
            refine lv_iconst (v := 0) hx hb dX5_script_107 (by decide) ?_
            have hth : thC v r N x y z = 2 := by rw [thC, if_neg (fun q => q.elim (fun h => h (bI_nz.mp c_6)) (fun h => h (bI_nz.mp c_14))), if_pos (Or.inr (Or.inl (bI_z.mp c_75)))]
            exact k_iret C0 ((vU v 0 2), r) hP hD hS (by rw [spSc, hth, if_neg (by decide)] <;> rfl) dX5_script_108
          · skip
            refine lv_aload_n hx hb dX5_script_78 rfl (lv_at hl 1 rfl) ?_
            refine lv_aload_n hx hb dX5_script_79 rfl (lv_at hl 1 rfl) ?_
            refine va_get (D := D) (ci := 5) (v := .ref (a 2)) (C := RX5) (T := TX5) (N := 25) hx hb hts hin_X5 hown hK hP 0 rfl rfl 5 (by decide) hf17 (fun _ h9 => h9) rfl dX5_script_80 ?_
            refine lv_iload_n hx hb dX5_script_83 rfl (lv_at hl 2 rfl) ?_
            refine ra_ld (f := (r 2)) C0 hP 2 rfl x.toNatClampNeg hxi.1 hxi.2 (by decide) dX5_script_84 ?_
            refine lv_eqi e2 ?_
            refine lv_iload_n hx hb dX5_script_85 rfl (lv_at hl 4 rfl) ?_
            refine kcD (ans := (bI (wiF (r 1) (r 2) z 30 (nI i) = true))) C0 hP hD hS (c_X5_isWithin l D cI a (vU v 0 0) r i z dp hi (hd30 _ hi) hdp) (cwV 2 hts gX5_script_X5_isWithin rfl rfl rfl (by decide +kernel) ⟨Nat.le_of_ble_eq_true rfl, Nat.le_of_ble_eq_true rfl⟩) 0 5 rfl rfl rfl hl.1 rfl (Nat.le_of_ble_eq_true rfl) dX5_script_86 ⟨Nat.zero_le _, Nat.zero_le _⟩ (fun H locs hP hD hS => ?_)
            refine lv_if_eq (tgt := 96) hx hb dX5_script_89 (by decide) (fun c_89 => ?_) (fun c_89 => ?_)
            · skip
              refine lv_iconst (v := 0) hx hb dX5_script_96 (by decide) ?_
              refine va_put (D := D) (ci := 5) (v := .int 0) (ty := .int) (C := RX5) (T := TX5) (N := 25) hx hb hts hin_X5 tyX5 tyX5_ok nmX5 hown hK hP hD hS 0 rfl rfl 0 (by decide) hf50 (fun _ h9 => h9) rfl (by decide +kernel) rfl rfl (Nat.le_of_ble_eq_true rfl) dX5_script_97 (fun H locs hP hD hS => ?_)
              have hP : va_P D vwCl (wM cI a (vU v 0 0) r) H := hP
              have hD : va_D A (wM cI a (vU v 0 0) r) := hD
              refine lv_aload_n hx hb dX5_script_100 rfl (lv_at hl 1 rfl) ?_
              refine va_get (D := D) (ci := 5) (v := .int 0) (C := RX5) (T := TX5) (N := 25) hx hb hts hin_X5 hown hK hP 0 rfl rfl 0 (by decide) hf50 (fun _ h9 => h9) rfl dX5_script_101 ?_
              refine lv_if_le (tgt := 109) hx hb dX5_script_104 (by decide) (fun c_104 => ?_) (fun c_104 => absurd (by decide) c_104)
              refine lv_iload_n hx hb dX5_script_109 rfl (lv_at hl 3 rfl) ?_
              refine lv_if_eq (tgt := 123) hx hb dX5_script_110 (by decide) (fun c_110 => ?_) (fun c_110 => absurd c_35 c_110)
              refine lv_aload_n hx hb dX5_script_123 rfl (lv_at hl 1 rfl) ?_
              refine va_get (D := D) (ci := 5) (v := .ref (a 9)) (C := RX5) (T := TX5) (N := 25) hx hb hts hin_X5 hown hK hP 0 rfl rfl 12 (by decide) hf38 (fun _ h9 => h9) rfl dX5_script_124 ?_
              refine lv_iload_n hx hb dX5_script_127 rfl (lv_at hl 2 rfl) ?_
              refine lv_iload_n hx hb dX5_script_128 rfl (lv_at hl 4 rfl) ?_
              refine ra_st (f := (r 9)) C0 hP hD hS 9 rfl x.toNatClampNeg hxi.1 hxi.2 (by decide) dX5_script_129 (fun H locs hP hD hS => ?_)
              have hset : ∀ (y0_ : Int32) (g_ : Nat → Int32), (wM cI a (vU v 0 y0_) r).set 9 (a 9, .inl (cI, 120, .inl g_)) = (wM cI a (vU v 0 y0_) (rU r 9 g_)) := fun _ _ => rfl
              rw [hset] at hP hD
              refine lv_aload_n hx hb dX5_script_130 rfl (lv_at hl 1 rfl) ?_
              refine va_get (D := D) (ci := 5) (v := .ref (a 1)) (C := RX5) (T := TX5) (N := 25) hx hb hts hin_X5 hown hK hP 0 rfl rfl 3 (by decide) hf13 (fun _ h9 => h9) rfl dX5_script_131 ?_
              refine lv_iload_n hx hb dX5_script_134 rfl (lv_at hl 4 rfl) ?_
              refine lv_iload_n hx hb dX5_script_135 rfl (lv_at hl 2 rfl) ?_
              refine ra_st (f := (r 1)) C0 hP hD hS 1 rfl z.toNatClampNeg hzi.1 hzi.2 (by decide) dX5_script_136 (fun H locs hP hD hS => ?_)
              have hset : ∀ (y0_ : Int32) (f9_ : Nat → Int32) (g_ : Nat → Int32), (wM cI a (vU v 0 y0_) (rU r 9 f9_)).set 1 (a 1, .inl (cI, 30, .inl g_)) = (wM cI a (vU v 0 y0_) (rU (rU r 1 g_) 9 f9_)) := fun _ _ _ => rfl
              rw [hset] at hP hD
              refine lv_aload_n hx hb dX5_script_137 rfl (lv_at hl 1 rfl) ?_
              refine va_get (D := D) (ci := 5) (v := .ref (a 8)) (C := RX5) (T := TX5) (N := 25) hx hb hts hin_X5 hown hK hP 0 rfl rfl 11 (by decide) hf35 (fun _ h9 => h9) rfl dX5_script_138 ?_
              refine lv_iload_n hx hb dX5_script_141 rfl (lv_at hl 2 rfl) ?_
              refine ra_ld (f := (r 8)) C0 hP 8 rfl x.toNatClampNeg hxi.1 hxi.2 (by decide) dX5_script_142 ?_
              refine lv_iconst (v := (-1)) hx hb dX5_script_143 (by decide) ?_
              refine lv_icmp_eq (tgt := 161) hx hb dX5_script_144 (by decide) (fun c_144 => ?_) (fun c_144 => ?_)
              · skip
                refine lv_iconst (v := 1) hx hb dX5_script_161 (by decide) ?_
                have hth : thC v r N x y z = 0 := by rw [thC, if_neg (fun q => q.elim (fun h => h (bI_nz.mp c_6)) (fun h => h (bI_nz.mp c_14))), if_neg (fun q => q.elim (fun h => h (by rw [if_pos c_35]; exact c_54)) (fun q => q.elim (fun h => h (bI_nz.mp c_75)) (fun h => bI_z.mp c_89 (by rw [e2] at h; exact h))))]
                exact k_iret C0 ((vU v 0 0), (rU (rU r 1 (upd (r 1) z.toNatClampNeg x)) 9 (upd (r 9) x.toNatClampNeg z))) hP hD hS (by rw [spSc, hth, if_pos rfl, if_pos c_35, if_pos c_144] <;> rfl) dX5_script_162
              · skip
                refine lv_aload_n hx hb dX5_script_147 rfl (lv_at hl 1 rfl) ?_
                refine va_get (D := D) (ci := 5) (v := .ref (a 9)) (C := RX5) (T := TX5) (N := 25) hx hb hts hin_X5 hown hK hP 0 rfl rfl 12 (by decide) hf38 (fun _ h9 => h9) rfl dX5_script_148 ?_
                refine lv_iload_n hx hb dX5_script_151 rfl (lv_at hl 2 rfl) ?_
                refine ra_ld (f := (upd (r 9) x.toNatClampNeg z)) C0 hP 9 rfl x.toNatClampNeg hxi.1 hxi.2 (by decide) dX5_script_152 ?_
                refine lv_iconst (v := (-1)) hx hb dX5_script_153 (by decide) ?_
                refine lv_icmp_eq (tgt := 161) hx hb dX5_script_154 (by decide) (fun c_154 => ?_) (fun c_154 => ?_)
                · skip
                  refine lv_iconst (v := 1) hx hb dX5_script_161 (by decide) ?_
                  have hth : thC v r N x y z = 0 := by rw [thC, if_neg (fun q => q.elim (fun h => h (bI_nz.mp c_6)) (fun h => h (bI_nz.mp c_14))), if_neg (fun q => q.elim (fun h => h (by rw [if_pos c_35]; exact c_54)) (fun q => q.elim (fun h => h (bI_nz.mp c_75)) (fun h => bI_z.mp c_89 (by rw [e2] at h; exact h))))]
                  exact k_iret C0 ((vU v 0 0), (rU (rU r 1 (upd (r 1) z.toNatClampNeg x)) 9 (upd (r 9) x.toNatClampNeg z))) hP hD hS (by rw [spSc, hth, if_pos rfl, if_pos c_35, if_neg c_144, if_pos c_154] <;> rfl) dX5_script_162
                · skip
                  refine lv_iconst (v := 2) hx hb dX5_script_157 (by decide) ?_
                  refine lv_goto (tgt := 162) hx hb dX5_script_158 (by decide) ?_
                  have hth : thC v r N x y z = 0 := by rw [thC, if_neg (fun q => q.elim (fun h => h (bI_nz.mp c_6)) (fun h => h (bI_nz.mp c_14))), if_neg (fun q => q.elim (fun h => h (by rw [if_pos c_35]; exact c_54)) (fun q => q.elim (fun h => h (bI_nz.mp c_75)) (fun h => bI_z.mp c_89 (by rw [e2] at h; exact h))))]
                  exact k_iret C0 ((vU v 0 0), (rU (rU r 1 (upd (r 1) z.toNatClampNeg x)) 9 (upd (r 9) x.toNatClampNeg z))) hP hD hS (by rw [spSc, hth, if_pos rfl, if_pos c_35, if_neg c_144, if_neg c_154] <;> rfl) dX5_script_162
            · skip
              refine lv_iconst (v := 2) hx hb dX5_script_92 (by decide) ?_
              refine lv_goto (tgt := 97) hx hb dX5_script_93 (by decide) ?_
              refine va_put (D := D) (ci := 5) (v := .int 2) (ty := .int) (C := RX5) (T := TX5) (N := 25) hx hb hts hin_X5 tyX5 tyX5_ok nmX5 hown hK hP hD hS 0 rfl rfl 0 (by decide) hf50 (fun _ h9 => h9) rfl (by decide +kernel) rfl rfl (Nat.le_of_ble_eq_true rfl) dX5_script_97 (fun H locs hP hD hS => ?_)
              have hP : va_P D vwCl (wM cI a (vU v 0 2) r) H := hP
              have hD : va_D A (wM cI a (vU v 0 2) r) := hD
              refine lv_aload_n hx hb dX5_script_100 rfl (lv_at hl 1 rfl) ?_
              refine va_get (D := D) (ci := 5) (v := .int 2) (C := RX5) (T := TX5) (N := 25) hx hb hts hin_X5 hown hK hP 0 rfl rfl 0 (by decide) hf50 (fun _ h9 => h9) rfl dX5_script_101 ?_
              refine lv_if_le (tgt := 109) hx hb dX5_script_104 (by decide) (fun c_104 => absurd c_104 (by decide)) (fun c_104 => ?_)
              refine lv_iconst (v := 0) hx hb dX5_script_107 (by decide) ?_
              have hth : thC v r N x y z = 2 := by rw [thC, if_neg (fun q => q.elim (fun h => h (bI_nz.mp c_6)) (fun h => h (bI_nz.mp c_14))), if_pos (Or.inr (Or.inr (by rw [e2]; exact bI_nz.mp c_89)))]
              exact k_iret C0 ((vU v 0 2), r) hP hD hS (by rw [spSc, hth, if_neg (by decide)] <;> rfl) dX5_script_108
        · skip
          refine lv_iconst (v := 1) hx hb dX5_script_57 (by decide) ?_
          refine lv_goto (tgt := 62) hx hb dX5_script_58 (by decide) ?_
          refine lv_istore (lv' := [(4, .int 1), (0, .ref (a 0)), (1, .int x), (2, .int y), (3, .int z)]) hx hb dX5_script_62 hl (by decide) rfl (fun ls hl => ?_)
          refine lv_aload_n hx hb dX5_script_64 rfl (lv_at hl 1 rfl) ?_
          refine lv_iload hx hb dX5_script_65 (lv_at hl 0 rfl) ?_
          refine lv_if_ne (tgt := 92) hx hb dX5_script_67 (by decide) (fun c_67 => ?_) (fun c_67 => absurd c_67 (by decide))
          refine lv_iconst (v := 2) hx hb dX5_script_92 (by decide) ?_
          refine lv_goto (tgt := 97) hx hb dX5_script_93 (by decide) ?_
          refine va_put (D := D) (ci := 5) (v := .int 2) (ty := .int) (C := RX5) (T := TX5) (N := 25) hx hb hts hin_X5 tyX5 tyX5_ok nmX5 hown hK hP hD hS 0 rfl rfl 0 (by decide) hf50 (fun _ h9 => h9) rfl (by decide +kernel) rfl rfl (Nat.le_of_ble_eq_true rfl) dX5_script_97 (fun H locs hP hD hS => ?_)
          have hP : va_P D vwCl (wM cI a (vU v 0 2) r) H := hP
          have hD : va_D A (wM cI a (vU v 0 2) r) := hD
          refine lv_aload_n hx hb dX5_script_100 rfl (lv_at hl 1 rfl) ?_
          refine va_get (D := D) (ci := 5) (v := .int 2) (C := RX5) (T := TX5) (N := 25) hx hb hts hin_X5 hown hK hP 0 rfl rfl 0 (by decide) hf50 (fun _ h9 => h9) rfl dX5_script_101 ?_
          refine lv_if_le (tgt := 109) hx hb dX5_script_104 (by decide) (fun c_104 => absurd c_104 (by decide)) (fun c_104 => ?_)
          refine lv_iconst (v := 0) hx hb dX5_script_107 (by decide) ?_
          have hth : thC v r N x y z = 2 := by rw [thC, if_neg (fun q => q.elim (fun h => h (bI_nz.mp c_6)) (fun h => h (bI_nz.mp c_14))), if_pos (Or.inl (by rw [if_pos c_35]; exact c_54))]
          exact k_iret C0 ((vU v 0 2), r) hP hD hS (by rw [spSc, hth, if_neg (by decide)] <;> rfl) dX5_script_108
      · skip
        refine lv_aload_n hx hb dX5_script_38 rfl (lv_at hl 0 rfl) ?_
        refine va_get (D := D) (ci := 5) (v := .ref (a 8)) (C := RX5) (T := TX5) (N := 25) hx hb hts hin_X5 hown hK hP 0 rfl rfl 11 (by decide) hf35 (fun _ h9 => h9) rfl dX5_script_39 ?_
        refine lv_iload_n hx hb dX5_script_42 rfl (lv_at hl 1 rfl) ?_
        refine ra_ld (f := (r 8)) C0 hP 8 rfl x.toNatClampNeg hxi.1 hxi.2 (by decide) dX5_script_43 ?_
        refine lv_goto (tgt := 53) hx hb dX5_script_44 (by decide) ?_
        refine lv_iconst (v := (-1)) hx hb dX5_script_53 (by decide) ?_
        refine lv_icmp_eq (tgt := 61) hx hb dX5_script_54 (by decide) (fun c_54 => ?_) (fun c_54 => ?_)
        · skip
          refine lv_iconst (v := 0) hx hb dX5_script_61 (by decide) ?_
          refine lv_istore (lv' := [(4, .int 0), (0, .ref (a 0)), (1, .int x), (2, .int y), (3, .int z)]) hx hb dX5_script_62 hl (by decide) rfl (fun ls hl => ?_)
          refine lv_aload_n hx hb dX5_script_64 rfl (lv_at hl 1 rfl) ?_
          refine lv_iload hx hb dX5_script_65 (lv_at hl 0 rfl) ?_
          refine lv_if_ne (tgt := 92) hx hb dX5_script_67 (by decide) (fun c_67 => absurd (by decide) c_67) (fun c_67 => ?_)
          refine lv_aload_n hx hb dX5_script_70 rfl (lv_at hl 1 rfl) ?_
          refine lv_iload_n hx hb dX5_script_71 rfl (lv_at hl 4 rfl) ?_
          refine lv_eqi hzi.1 ?_
          refine kcD (ans := (bI (0 < nI z.toNatClampNeg ∧ r 1 z.toNatClampNeg = -1))) C0 hP hD hS (c_X5_isFree l D cI a (vU v 0 0) r z.toNatClampNeg hzi.2) (cwV 1 hts gX5_script_X5_isFree rfl rfl rfl (by decide +kernel) ⟨Nat.le_of_ble_eq_true rfl, Nat.le_of_ble_eq_true rfl⟩) 0 5 rfl rfl rfl hl.1 rfl (Nat.le_of_ble_eq_true rfl) dX5_script_72 ⟨Nat.zero_le _, Nat.zero_le _⟩ (fun H locs hP hD hS => ?_)
          refine lv_if_eq (tgt := 92) hx hb dX5_script_75 (by decide) (fun c_75 => ?_) (fun c_75 => ?_)
          · skip
            refine lv_iconst (v := 2) hx hb dX5_script_92 (by decide) ?_
            refine lv_goto (tgt := 97) hx hb dX5_script_93 (by decide) ?_
            refine va_put (D := D) (ci := 5) (v := .int 2) (ty := .int) (C := RX5) (T := TX5) (N := 25) hx hb hts hin_X5 tyX5 tyX5_ok nmX5 hown hK hP hD hS 0 rfl rfl 0 (by decide) hf50 (fun _ h9 => h9) rfl (by decide +kernel) rfl rfl (Nat.le_of_ble_eq_true rfl) dX5_script_97 (fun H locs hP hD hS => ?_)
            have hP : va_P D vwCl (wM cI a (vU v 0 2) r) H := hP
            have hD : va_D A (wM cI a (vU v 0 2) r) := hD
            refine lv_aload_n hx hb dX5_script_100 rfl (lv_at hl 1 rfl) ?_
            refine va_get (D := D) (ci := 5) (v := .int 2) (C := RX5) (T := TX5) (N := 25) hx hb hts hin_X5 hown hK hP 0 rfl rfl 0 (by decide) hf50 (fun _ h9 => h9) rfl dX5_script_101 ?_
            refine lv_if_le (tgt := 109) hx hb dX5_script_104 (by decide) (fun c_104 => absurd c_104 (by decide)) (fun c_104 => ?_)
            refine lv_iconst (v := 0) hx hb dX5_script_107 (by decide) ?_
            have hth : thC v r N x y z = 2 := by rw [thC, if_neg (fun q => q.elim (fun h => h (bI_nz.mp c_6)) (fun h => h (bI_nz.mp c_14))), if_pos (Or.inr (Or.inl (bI_z.mp c_75)))]
            exact k_iret C0 ((vU v 0 2), r) hP hD hS (by rw [spSc, hth, if_neg (by decide)] <;> rfl) dX5_script_108
          · skip
            refine lv_aload_n hx hb dX5_script_78 rfl (lv_at hl 1 rfl) ?_
            refine lv_aload_n hx hb dX5_script_79 rfl (lv_at hl 1 rfl) ?_
            refine va_get (D := D) (ci := 5) (v := .ref (a 2)) (C := RX5) (T := TX5) (N := 25) hx hb hts hin_X5 hown hK hP 0 rfl rfl 5 (by decide) hf17 (fun _ h9 => h9) rfl dX5_script_80 ?_
            refine lv_iload_n hx hb dX5_script_83 rfl (lv_at hl 2 rfl) ?_
            refine ra_ld (f := (r 2)) C0 hP 2 rfl x.toNatClampNeg hxi.1 hxi.2 (by decide) dX5_script_84 ?_
            refine lv_eqi e2 ?_
            refine lv_iload_n hx hb dX5_script_85 rfl (lv_at hl 4 rfl) ?_
            refine kcD (ans := (bI (wiF (r 1) (r 2) z 30 (nI i) = true))) C0 hP hD hS (c_X5_isWithin l D cI a (vU v 0 0) r i z dp hi (hd30 _ hi) hdp) (cwV 2 hts gX5_script_X5_isWithin rfl rfl rfl (by decide +kernel) ⟨Nat.le_of_ble_eq_true rfl, Nat.le_of_ble_eq_true rfl⟩) 0 5 rfl rfl rfl hl.1 rfl (Nat.le_of_ble_eq_true rfl) dX5_script_86 ⟨Nat.zero_le _, Nat.zero_le _⟩ (fun H locs hP hD hS => ?_)
            refine lv_if_eq (tgt := 96) hx hb dX5_script_89 (by decide) (fun c_89 => ?_) (fun c_89 => ?_)
            · skip
              refine lv_iconst (v := 0) hx hb dX5_script_96 (by decide) ?_
              refine va_put (D := D) (ci := 5) (v := .int 0) (ty := .int) (C := RX5) (T := TX5) (N := 25) hx hb hts hin_X5 tyX5 tyX5_ok nmX5 hown hK hP hD hS 0 rfl rfl 0 (by decide) hf50 (fun _ h9 => h9) rfl (by decide +kernel) rfl rfl (Nat.le_of_ble_eq_true rfl) dX5_script_97 (fun H locs hP hD hS => ?_)
              have hP : va_P D vwCl (wM cI a (vU v 0 0) r) H := hP
              have hD : va_D A (wM cI a (vU v 0 0) r) := hD
              refine lv_aload_n hx hb dX5_script_100 rfl (lv_at hl 1 rfl) ?_
              refine va_get (D := D) (ci := 5) (v := .int 0) (C := RX5) (T := TX5) (N := 25) hx hb hts hin_X5 hown hK hP 0 rfl rfl 0 (by decide) hf50 (fun _ h9 => h9) rfl dX5_script_101 ?_
              refine lv_if_le (tgt := 109) hx hb dX5_script_104 (by decide) (fun c_104 => ?_) (fun c_104 => absurd (by decide) c_104)
              refine lv_iload_n hx hb dX5_script_109 rfl (lv_at hl 3 rfl) ?_
              refine lv_if_eq (tgt := 123) hx hb dX5_script_110 (by decide) (fun c_110 => absurd c_110 c_35) (fun c_110 => ?_)
              refine lv_aload_n hx hb dX5_script_113 rfl (lv_at hl 1 rfl) ?_
              refine va_get (D := D) (ci := 5) (v := .ref (a 8)) (C := RX5) (T := TX5) (N := 25) hx hb hts hin_X5 hown hK hP 0 rfl rfl 11 (by decide) hf35 (fun _ h9 => h9) rfl dX5_script_114 ?_
              refine lv_iload_n hx hb dX5_script_117 rfl (lv_at hl 2 rfl) ?_
              refine lv_iload_n hx hb dX5_script_118 rfl (lv_at hl 4 rfl) ?_
              refine ra_st (f := (r 8)) C0 hP hD hS 8 rfl x.toNatClampNeg hxi.1 hxi.2 (by decide) dX5_script_119 (fun H locs hP hD hS => ?_)
              have hset : ∀ (y0_ : Int32) (g_ : Nat → Int32), (wM cI a (vU v 0 y0_) r).set 8 (a 8, .inl (cI, 120, .inl g_)) = (wM cI a (vU v 0 y0_) (rU r 8 g_)) := fun _ _ => rfl
              rw [hset] at hP hD
              refine lv_goto (tgt := 130) hx hb dX5_script_120 (by decide) ?_
              refine lv_aload_n hx hb dX5_script_130 rfl (lv_at hl 1 rfl) ?_
              refine va_get (D := D) (ci := 5) (v := .ref (a 1)) (C := RX5) (T := TX5) (N := 25) hx hb hts hin_X5 hown hK hP 0 rfl rfl 3 (by decide) hf13 (fun _ h9 => h9) rfl dX5_script_131 ?_
              refine lv_iload_n hx hb dX5_script_134 rfl (lv_at hl 4 rfl) ?_
              refine lv_iload_n hx hb dX5_script_135 rfl (lv_at hl 2 rfl) ?_
              refine ra_st (f := (r 1)) C0 hP hD hS 1 rfl z.toNatClampNeg hzi.1 hzi.2 (by decide) dX5_script_136 (fun H locs hP hD hS => ?_)
              have hset : ∀ (y0_ : Int32) (f8_ : Nat → Int32) (g_ : Nat → Int32), (wM cI a (vU v 0 y0_) (rU r 8 f8_)).set 1 (a 1, .inl (cI, 30, .inl g_)) = (wM cI a (vU v 0 y0_) (rU (rU r 1 g_) 8 f8_)) := fun _ _ _ => rfl
              rw [hset] at hP hD
              refine lv_aload_n hx hb dX5_script_137 rfl (lv_at hl 1 rfl) ?_
              refine va_get (D := D) (ci := 5) (v := .ref (a 8)) (C := RX5) (T := TX5) (N := 25) hx hb hts hin_X5 hown hK hP 0 rfl rfl 11 (by decide) hf35 (fun _ h9 => h9) rfl dX5_script_138 ?_
              refine lv_iload_n hx hb dX5_script_141 rfl (lv_at hl 2 rfl) ?_
              refine ra_ld (f := (upd (r 8) x.toNatClampNeg z)) C0 hP 8 rfl x.toNatClampNeg hxi.1 hxi.2 (by decide) dX5_script_142 ?_
              refine lv_iconst (v := (-1)) hx hb dX5_script_143 (by decide) ?_
              refine lv_icmp_eq (tgt := 161) hx hb dX5_script_144 (by decide) (fun c_144 => ?_) (fun c_144 => ?_)
              · skip
                refine lv_iconst (v := 1) hx hb dX5_script_161 (by decide) ?_
                have hth : thC v r N x y z = 0 := by rw [thC, if_neg (fun q => q.elim (fun h => h (bI_nz.mp c_6)) (fun h => h (bI_nz.mp c_14))), if_neg (fun q => q.elim (fun h => h (by rw [if_neg c_35]; exact c_54)) (fun q => q.elim (fun h => h (bI_nz.mp c_75)) (fun h => bI_z.mp c_89 (by rw [e2] at h; exact h))))]
                exact k_iret C0 ((vU v 0 0), (rU (rU r 1 (upd (r 1) z.toNatClampNeg x)) 8 (upd (r 8) x.toNatClampNeg z))) hP hD hS (by rw [spSc, hth, if_pos rfl, if_neg c_35, if_pos c_144] <;> rfl) dX5_script_162
              · skip
                refine lv_aload_n hx hb dX5_script_147 rfl (lv_at hl 1 rfl) ?_
                refine va_get (D := D) (ci := 5) (v := .ref (a 9)) (C := RX5) (T := TX5) (N := 25) hx hb hts hin_X5 hown hK hP 0 rfl rfl 12 (by decide) hf38 (fun _ h9 => h9) rfl dX5_script_148 ?_
                refine lv_iload_n hx hb dX5_script_151 rfl (lv_at hl 2 rfl) ?_
                refine ra_ld (f := (r 9)) C0 hP 9 rfl x.toNatClampNeg hxi.1 hxi.2 (by decide) dX5_script_152 ?_
                refine lv_iconst (v := (-1)) hx hb dX5_script_153 (by decide) ?_
                refine lv_icmp_eq (tgt := 161) hx hb dX5_script_154 (by decide) (fun c_154 => ?_) (fun c_154 => ?_)
                · skip
                  refine lv_iconst (v := 1) hx hb dX5_script_161 (by decide) ?_
                  have hth : thC v r N x y z = 0 := by rw [thC, if_neg (fun q => q.elim (fun h => h (bI_nz.mp c_6)) (fun h => h (bI_nz.mp c_14))), if_neg (fun q => q.elim (fun h => h (by rw [if_neg c_35]; exact c_54)) (fun q => q.elim (fun h => h (bI_nz.mp c_75)) (fun h => bI_z.mp c_89 (by rw [e2] at h; exact h))))]
                  exact k_iret C0 ((vU v 0 0), (rU (rU r 1 (upd (r 1) z.toNatClampNeg x)) 8 (upd (r 8) x.toNatClampNeg z))) hP hD hS (by rw [spSc, hth, if_pos rfl, if_neg c_35, if_neg c_144, if_pos c_154] <;> rfl) dX5_script_162
                · skip
                  refine lv_iconst (v := 2) hx hb dX5_script_157 (by decide) ?_
                  refine lv_goto (tgt := 162) hx hb dX5_script_158 (by decide) ?_
                  have hth : thC v r N x y z = 0 := by rw [thC, if_neg (fun q => q.elim (fun h => h (bI_nz.mp c_6)) (fun h => h (bI_nz.mp c_14))), if_neg (fun q => q.elim (fun h => h (by rw [if_neg c_35]; exact c_54)) (fun q => q.elim (fun h => h (bI_nz.mp c_75)) (fun h => bI_z.mp c_89 (by rw [e2] at h; exact h))))]
                  exact k_iret C0 ((vU v 0 0), (rU (rU r 1 (upd (r 1) z.toNatClampNeg x)) 8 (upd (r 8) x.toNatClampNeg z))) hP hD hS (by rw [spSc, hth, if_pos rfl, if_neg c_35, if_neg c_144, if_neg c_154] <;> rfl) dX5_script_162
            · skip
              refine lv_iconst (v := 2) hx hb dX5_script_92 (by decide) ?_
              refine lv_goto (tgt := 97) hx hb dX5_script_93 (by decide) ?_
              refine va_put (D := D) (ci := 5) (v := .int 2) (ty := .int) (C := RX5) (T := TX5) (N := 25) hx hb hts hin_X5 tyX5 tyX5_ok nmX5 hown hK hP hD hS 0 rfl rfl 0 (by decide) hf50 (fun _ h9 => h9) rfl (by decide +kernel) rfl rfl (Nat.le_of_ble_eq_true rfl) dX5_script_97 (fun H locs hP hD hS => ?_)
              have hP : va_P D vwCl (wM cI a (vU v 0 2) r) H := hP
              have hD : va_D A (wM cI a (vU v 0 2) r) := hD
              refine lv_aload_n hx hb dX5_script_100 rfl (lv_at hl 1 rfl) ?_
              refine va_get (D := D) (ci := 5) (v := .int 2) (C := RX5) (T := TX5) (N := 25) hx hb hts hin_X5 hown hK hP 0 rfl rfl 0 (by decide) hf50 (fun _ h9 => h9) rfl dX5_script_101 ?_
              refine lv_if_le (tgt := 109) hx hb dX5_script_104 (by decide) (fun c_104 => absurd c_104 (by decide)) (fun c_104 => ?_)
              refine lv_iconst (v := 0) hx hb dX5_script_107 (by decide) ?_
              have hth : thC v r N x y z = 2 := by rw [thC, if_neg (fun q => q.elim (fun h => h (bI_nz.mp c_6)) (fun h => h (bI_nz.mp c_14))), if_pos (Or.inr (Or.inr (by rw [e2]; exact bI_nz.mp c_89)))]
              exact k_iret C0 ((vU v 0 2), r) hP hD hS (by rw [spSc, hth, if_neg (by decide)] <;> rfl) dX5_script_108
        · skip
          refine lv_iconst (v := 1) hx hb dX5_script_57 (by decide) ?_
          refine lv_goto (tgt := 62) hx hb dX5_script_58 (by decide) ?_
          refine lv_istore (lv' := [(4, .int 1), (0, .ref (a 0)), (1, .int x), (2, .int y), (3, .int z)]) hx hb dX5_script_62 hl (by decide) rfl (fun ls hl => ?_)
          refine lv_aload_n hx hb dX5_script_64 rfl (lv_at hl 1 rfl) ?_
          refine lv_iload hx hb dX5_script_65 (lv_at hl 0 rfl) ?_
          refine lv_if_ne (tgt := 92) hx hb dX5_script_67 (by decide) (fun c_67 => ?_) (fun c_67 => absurd c_67 (by decide))
          refine lv_iconst (v := 2) hx hb dX5_script_92 (by decide) ?_
          refine lv_goto (tgt := 97) hx hb dX5_script_93 (by decide) ?_
          refine va_put (D := D) (ci := 5) (v := .int 2) (ty := .int) (C := RX5) (T := TX5) (N := 25) hx hb hts hin_X5 tyX5 tyX5_ok nmX5 hown hK hP hD hS 0 rfl rfl 0 (by decide) hf50 (fun _ h9 => h9) rfl (by decide +kernel) rfl rfl (Nat.le_of_ble_eq_true rfl) dX5_script_97 (fun H locs hP hD hS => ?_)
          have hP : va_P D vwCl (wM cI a (vU v 0 2) r) H := hP
          have hD : va_D A (wM cI a (vU v 0 2) r) := hD
          refine lv_aload_n hx hb dX5_script_100 rfl (lv_at hl 1 rfl) ?_
          refine va_get (D := D) (ci := 5) (v := .int 2) (C := RX5) (T := TX5) (N := 25) hx hb hts hin_X5 hown hK hP 0 rfl rfl 0 (by decide) hf50 (fun _ h9 => h9) rfl dX5_script_101 ?_
          refine lv_if_le (tgt := 109) hx hb dX5_script_104 (by decide) (fun c_104 => absurd c_104 (by decide)) (fun c_104 => ?_)
          refine lv_iconst (v := 0) hx hb dX5_script_107 (by decide) ?_
          have hth : thC v r N x y z = 2 := by rw [thC, if_neg (fun q => q.elim (fun h => h (bI_nz.mp c_6)) (fun h => h (bI_nz.mp c_14))), if_pos (Or.inl (by rw [if_neg c_35]; exact c_54))]
          exact k_iret C0 ((vU v 0 2), r) hP hD hS (by rw [spSc, hth, if_neg (by decide)] <;> rfl) dX5_script_108
    · skip
      refine lv_iconst (v := 1) hx hb dX5_script_17 (by decide) ?_
      refine lv_goto (tgt := 22) hx hb dX5_script_18 (by decide) ?_
      refine va_put (D := D) (ci := 5) (v := .int 1) (ty := .int) (C := RX5) (T := TX5) (N := 25) hx hb hts hin_X5 tyX5 tyX5_ok nmX5 hown hK hP hD hS 0 rfl rfl 0 (by decide) hf50 (fun _ h9 => h9) rfl (by decide +kernel) rfl rfl (Nat.le_of_ble_eq_true rfl) dX5_script_22 (fun H locs hP hD hS => ?_)
      have hP : va_P D vwCl (wM cI a (vU v 0 1) r) H := hP
      have hD : va_D A (wM cI a (vU v 0 1) r) := hD
      refine lv_aload_n hx hb dX5_script_25 rfl (lv_at hl 0 rfl) ?_
      refine va_get (D := D) (ci := 5) (v := .int 1) (C := RX5) (T := TX5) (N := 25) hx hb hts hin_X5 hown hK hP 0 rfl rfl 0 (by decide) hf50 (fun _ h9 => h9) rfl dX5_script_26 ?_
      refine lv_if_le (tgt := 34) hx hb dX5_script_29 (by decide) (fun c_29 => absurd c_29 (by decide)) (fun c_29 => ?_)
      refine lv_iconst (v := 0) hx hb dX5_script_32 (by decide) ?_
      have hth : thC v r N x y z = 1 := by rw [thC, if_pos (Or.inr (bI_z.mp c_14))]
      exact k_iret C0 ((vU v 0 1), r) hP hD hS (by rw [spSc, hth, if_neg (by decide)] <;> rfl) dX5_script_33
