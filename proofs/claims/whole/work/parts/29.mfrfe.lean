def thF (v : Nat → Int32) (r : Nat → Nat → Int32) (x y : Int32) (z : Int64) : Int32 :=
  if ¬ (0 ≤ x ∧ x < v 1) ∨ ¬ (0 ≤ y ∧ y < v 1) then 1 else if ¬ lg_cmp z 1000 ≤ 0 then 2
  else if x = y ∨ ¬ ((0 < nI x.toNatClampNeg ∧ r 1 x.toNatClampNeg = -1) ∧ ¬ wiF (r 1) (r 2) (nI x.toNatClampNeg) 30 (v 2) = true) ∨ ¬ ((0 < nI y.toNatClampNeg ∧ r 1 y.toNatClampNeg = -1) ∧ ¬ wiF (r 1) (r 2) (nI y.toNatClampNeg) 30 (v 2) = true) then 3 else if v 4 = 120 then 4 else 0
def spFr (v : Nat → Int32) (r : Nat → Nat → Int32) (N : Nat) (x y : Int32) (z : Int64) : SV :=
  if thF v r x y z = 0 then (v 4, vU (vU v 0 0) 4 (v 4 + 1), adR (rU r 1 (upd (upd (r 1) x.toNatClampNeg (v 4)) y.toNatClampNeg (v 4))) N (v 2) 1 7 x y (if 0 ≤ lg_cmp z 0 then z.toInt32 else -1))
  else (0, vU v 0 (thF v r x y z), r)
def thE (v : Nat → Int32) (r : Nat → Nat → Int32) (x y z : Int32) : Int32 :=
  if ¬ (0 ≤ y ∧ y < v 1) then 1 else if x < 0 ∨ 5 < x ∨ z < 0 ∨ 5 < z then 2 else if ¬ ((0 < nI y.toNatClampNeg ∧ r 1 y.toNatClampNeg = -1) ∧ ¬ wiF (r 1) (r 2) (nI y.toNatClampNeg) 30 (v 2) = true) then 3 else if v 4 = 120 then 4 else 0
def spFe (v : Nat → Int32) (r : Nat → Nat → Int32) (N : Nat) (x y z : Int32) : SV :=
  if thE v r x y z = 0 then
    (if (x = z ∧ ¬ x = 0) ∨ (¬ x = z ∧ (x = 0 ∨ z = 0)) then (v 4 + 1, vU (vU v 0 0) 4 (v 4 + 1), adR (rU r 1 (upd (r 1) y.toNatClampNeg (v 4))) N (v 2) 2 7 x y z) else (0, vU v 0 0, r))
  else (0, vU v 0 (thE v r x y z), r)

set_option maxHeartbeats 1500000 in
set_option maxRecDepth 100000 in
theorem c_X5_fraction (l : Launch) (D : va_G) (cI : ClassId) (a : Nat → Nat) (v : Nat → Int32) (r : Nat → Nat → Int32) (x y : Int32) (z : Int64) (N L o1 : Nat) (dp : Nat → Nat) (hN : v 4 = nI N) (hN1 : N ≤ 120) (hL : v 1 = nI L) (hL1 : L ≤ 30) (hO : v 2 = nI o1) (ho1 : o1 < 30) (hd30 : ∀ j, j < 30 → dp j ≤ 30) (hdp : ∀ j, j < 30 → r 1 j = -1 ∨ ∃ n i, r 1 j = nI n ∧ n < 120 ∧ r 2 n = nI i ∧ i < 30 ∧ dp i < dp j) : KI l D cI yX5_fraction wsX5_fraction ({ frames := 2, cells := 0, slots := 0, locals := 44 }) [.ref (a 0), .int x, .int y, .long z] (wM cI a v r) (fun u : (Nat → Int32) × (Nat → Nat → Int32) => wM cI a u.1 u.2) (fun q u => (q, u.1, u.2) = spFr v r N x y z) := by
  refine KI.of (cc := cX5_fraction) (nL := 6) (ret := (some .int)) (by decide) rfl (Nat.le_of_ble_eq_true rfl) ?_
  intro pg9 en9 s m args below meth cd9 A ls C0 hP hD hS hl
  have hx := C0.1.1
  have hb := C0.1.2.1
  have hml := C0.1.2.2.1
  have hown : s.vm.findClass RX5 = some m.cls := C0.1.2.2.2.1
  have hts : ∀ w ∈ wsX5_fraction, w.before args s = true := C0.1.2.2.2.2
  have hK := C0.2.2.2.1
  have hin_X5 : ∀ w ∈ wsX50, w ∈ wsX5_fraction := fun w h => List.mem_cons_of_mem _ (List.mem_append_right _ h)
  have hf50 : (Cond.fieldLink RX5 50 "FormulaListsModel" "thrown" "I").before args s = true := hts _ (by decide +kernel)
  have hf53 : (Cond.fieldLink RX5 53 "FormulaListsModel" "nodes" "I").before args s = true := hts _ (by decide +kernel)
  have hf13 : (Cond.fieldLink RX5 13 "FormulaListsModel" "in" "[I").before args s = true := hts _ (by decide +kernel)
  have hl : lv_has ls 6 [(0, .ref (a 0)), (1, .int x), (2, .int y), (3, .long z)] := hl
  have hP : va_P D vwCl (wM cI a v r) s.heap := hP
  refine lv_aload_n hx hb dX5_fraction_0 rfl (lv_at hl 0 rfl) ?_
  refine lv_aload_n hx hb dX5_fraction_1 rfl (lv_at hl 0 rfl) ?_
  refine lv_iload_n hx hb dX5_fraction_2 rfl (lv_at hl 1 rfl) ?_
  refine kcD (ans := (bI (0 ≤ x ∧ x < v 1))) C0 hP hD hS (c_X5_isList l D cI a v r x ) (cwV 1 hts gX5_fraction_X5_isList rfl rfl rfl (by decide +kernel) ⟨Nat.le_of_ble_eq_true rfl, Nat.le_of_ble_eq_true rfl⟩) 0 5 rfl rfl rfl hl.1 rfl (Nat.le_of_ble_eq_true rfl) dX5_fraction_3 ⟨Nat.zero_le _, Nat.zero_le _⟩ (fun H locs hP hD hS => ?_)
  refine lv_if_eq (tgt := 17) hx hb dX5_fraction_6 (by decide) (fun c_6 => ?_) (fun c_6 => ?_)
  · skip
    refine lv_iconst (v := 1) hx hb dX5_fraction_17 (by decide) ?_
    refine lv_goto (tgt := 34) hx hb dX5_fraction_18 (by decide) ?_
    refine va_put (D := D) (ci := 5) (v := .int 1) (ty := .int) (C := RX5) (T := TX5) (N := 25) hx hb hts hin_X5 tyX5 tyX5_ok nmX5 hown hK hP hD hS 0 rfl rfl 0 (by decide) hf50 (fun _ h9 => h9) rfl (by decide +kernel) rfl rfl (Nat.le_of_ble_eq_true rfl) dX5_fraction_34 (fun H locs hP hD hS => ?_)
    have hP : va_P D vwCl (wM cI a (vU v 0 1) r) H := hP
    have hD : va_D A (wM cI a (vU v 0 1) r) := hD
    refine lv_aload_n hx hb dX5_fraction_37 rfl (lv_at hl 0 rfl) ?_
    refine va_get (D := D) (ci := 5) (v := .int 1) (C := RX5) (T := TX5) (N := 25) hx hb hts hin_X5 hown hK hP 0 rfl rfl 0 (by decide) hf50 (fun _ h9 => h9) rfl dX5_fraction_38 ?_
    refine lv_if_le (tgt := 46) hx hb dX5_fraction_41 (by decide) (fun c_41 => absurd c_41 (by decide)) (fun c_41 => ?_)
    refine lv_iconst (v := 0) hx hb dX5_fraction_44 (by decide) ?_
    have hth : thF v r x y z = 1 := by rw [thF, if_pos (Or.inl (bI_z.mp c_6))]
    exact k_iret C0 ((vU v 0 1), r) hP hD hS (by rw [spFr, hth, if_neg (by decide)] <;> rfl) dX5_fraction_45
  · skip
    refine lv_aload_n hx hb dX5_fraction_9 rfl (lv_at hl 0 rfl) ?_
    refine lv_iload_n hx hb dX5_fraction_10 rfl (lv_at hl 2 rfl) ?_
    refine kcD (ans := (bI (0 ≤ y ∧ y < v 1))) C0 hP hD hS (c_X5_isList l D cI a v r y ) (cwV 1 hts gX5_fraction_X5_isList rfl rfl rfl (by decide +kernel) ⟨Nat.le_of_ble_eq_true rfl, Nat.le_of_ble_eq_true rfl⟩) 0 5 rfl rfl rfl hl.1 rfl (Nat.le_of_ble_eq_true rfl) dX5_fraction_11 ⟨Nat.zero_le _, Nat.zero_le _⟩ (fun H locs hP hD hS => ?_)
    refine lv_if_ne (tgt := 21) hx hb dX5_fraction_14 (by decide) (fun c_14 => ?_) (fun c_14 => ?_)
    · skip
      refine lv_lload_n hx hb dX5_fraction_21 rfl (lv_at hl 3 rfl) ?_
      refine lv_ldc2 (v := 1000) hx hb hown (hts (.constantLong RX5 77 1000) (by decide +kernel)) dX5_fraction_22 ?_
      refine W.lcmp hx hb dX5_fraction_25 ?_
      refine lv_if_le (tgt := 33) hx hb dX5_fraction_26 (by decide) (fun c_26 => ?_) (fun c_26 => ?_)
      · skip
        refine lv_iconst (v := 0) hx hb dX5_fraction_33 (by decide) ?_
        refine va_put (D := D) (ci := 5) (v := .int 0) (ty := .int) (C := RX5) (T := TX5) (N := 25) hx hb hts hin_X5 tyX5 tyX5_ok nmX5 hown hK hP hD hS 0 rfl rfl 0 (by decide) hf50 (fun _ h9 => h9) rfl (by decide +kernel) rfl rfl (Nat.le_of_ble_eq_true rfl) dX5_fraction_34 (fun H locs hP hD hS => ?_)
        have hP : va_P D vwCl (wM cI a (vU v 0 0) r) H := hP
        have hD : va_D A (wM cI a (vU v 0 0) r) := hD
        refine lv_aload_n hx hb dX5_fraction_37 rfl (lv_at hl 0 rfl) ?_
        refine va_get (D := D) (ci := 5) (v := .int 0) (C := RX5) (T := TX5) (N := 25) hx hb hts hin_X5 hown hK hP 0 rfl rfl 0 (by decide) hf50 (fun _ h9 => h9) rfl dX5_fraction_38 ?_
        refine lv_if_le (tgt := 46) hx hb dX5_fraction_41 (by decide) (fun c_41 => ?_) (fun c_41 => absurd (by decide) c_41)
        obtain ⟨hx0, hxN⟩ := bI_nz.mp c_6
        obtain ⟨hy0, hyN⟩ := bI_nz.mp c_14
        have hxi := ix_of (Int32.not_lt.mpr hx0) hxN hL hL1 (by decide)
        have hyi := ix_of (Int32.not_lt.mpr hy0) hyN hL hL1 (by decide)
        refine lv_aload_n hx hb dX5_fraction_46 rfl (lv_at hl 0 rfl) ?_
        refine lv_iload_n hx hb dX5_fraction_47 rfl (lv_at hl 1 rfl) ?_
        refine lv_iload_n hx hb dX5_fraction_48 rfl (lv_at hl 2 rfl) ?_
        refine lv_icmp_eq (tgt := 68) hx hb dX5_fraction_49 (by decide) (fun c_49 => ?_) (fun c_49 => ?_)
        · skip
          refine lv_iconst (v := 3) hx hb dX5_fraction_68 (by decide) ?_
          refine lv_goto (tgt := 86) hx hb dX5_fraction_69 (by decide) ?_
          refine va_put (D := D) (ci := 5) (v := .int 3) (ty := .int) (C := RX5) (T := TX5) (N := 25) hx hb hts hin_X5 tyX5 tyX5_ok nmX5 hown hK hP hD hS 0 rfl rfl 0 (by decide) hf50 (fun _ h9 => h9) rfl (by decide +kernel) rfl rfl (Nat.le_of_ble_eq_true rfl) dX5_fraction_86 (fun H locs hP hD hS => ?_)
          have hP : va_P D vwCl (wM cI a (vU v 0 3) r) H := hP
          have hD : va_D A (wM cI a (vU v 0 3) r) := hD
          refine lv_aload_n hx hb dX5_fraction_89 rfl (lv_at hl 0 rfl) ?_
          refine va_get (D := D) (ci := 5) (v := .int 3) (C := RX5) (T := TX5) (N := 25) hx hb hts hin_X5 hown hK hP 0 rfl rfl 0 (by decide) hf50 (fun _ h9 => h9) rfl dX5_fraction_90 ?_
          refine lv_if_le (tgt := 98) hx hb dX5_fraction_93 (by decide) (fun c_93 => absurd c_93 (by decide)) (fun c_93 => ?_)
          refine lv_iconst (v := 0) hx hb dX5_fraction_96 (by decide) ?_
          have hth : thF v r x y z = 3 := by rw [thF, if_neg (fun q => q.elim (fun h => h (bI_nz.mp c_6)) (fun h => h (bI_nz.mp c_14))), if_neg (fun h => h c_26), if_pos (Or.inl c_49)]
          exact k_iret C0 ((vU v 0 3), r) hP hD hS (by rw [spFr, hth, if_neg (by decide)] <;> rfl) dX5_fraction_97
        · skip
          refine lv_aload_n hx hb dX5_fraction_52 rfl (lv_at hl 0 rfl) ?_
          refine lv_iload_n hx hb dX5_fraction_53 rfl (lv_at hl 1 rfl) ?_
          refine lv_eqi hxi.1 ?_
          refine kcD (ans := (bI ((0 < nI x.toNatClampNeg ∧ r 1 x.toNatClampNeg = -1) ∧ ¬ wiF (r 1) (r 2) (nI x.toNatClampNeg) 30 (nI o1) = true))) C0 hP hD hS (c_X5_mayTake l D cI a (vU v 0 0) r x.toNatClampNeg o1 dp hxi.2 hO ho1 hd30 hdp) (cwV 1 hts gX5_fraction_X5_mayTake rfl rfl rfl (by decide +kernel) ⟨Nat.le_of_ble_eq_true rfl, Nat.le_of_ble_eq_true rfl⟩) 0 5 rfl rfl rfl hl.1 rfl (Nat.le_of_ble_eq_true rfl) dX5_fraction_54 ⟨Nat.zero_le _, Nat.zero_le _⟩ (fun H locs hP hD hS => ?_)
          refine lv_if_eq (tgt := 68) hx hb dX5_fraction_57 (by decide) (fun c_57 => ?_) (fun c_57 => ?_)
          · skip
            refine lv_iconst (v := 3) hx hb dX5_fraction_68 (by decide) ?_
            refine lv_goto (tgt := 86) hx hb dX5_fraction_69 (by decide) ?_
            refine va_put (D := D) (ci := 5) (v := .int 3) (ty := .int) (C := RX5) (T := TX5) (N := 25) hx hb hts hin_X5 tyX5 tyX5_ok nmX5 hown hK hP hD hS 0 rfl rfl 0 (by decide) hf50 (fun _ h9 => h9) rfl (by decide +kernel) rfl rfl (Nat.le_of_ble_eq_true rfl) dX5_fraction_86 (fun H locs hP hD hS => ?_)
            have hP : va_P D vwCl (wM cI a (vU v 0 3) r) H := hP
            have hD : va_D A (wM cI a (vU v 0 3) r) := hD
            refine lv_aload_n hx hb dX5_fraction_89 rfl (lv_at hl 0 rfl) ?_
            refine va_get (D := D) (ci := 5) (v := .int 3) (C := RX5) (T := TX5) (N := 25) hx hb hts hin_X5 hown hK hP 0 rfl rfl 0 (by decide) hf50 (fun _ h9 => h9) rfl dX5_fraction_90 ?_
            refine lv_if_le (tgt := 98) hx hb dX5_fraction_93 (by decide) (fun c_93 => absurd c_93 (by decide)) (fun c_93 => ?_)
            refine lv_iconst (v := 0) hx hb dX5_fraction_96 (by decide) ?_
            have hth : thF v r x y z = 3 := by rw [thF, if_neg (fun q => q.elim (fun h => h (bI_nz.mp c_6)) (fun h => h (bI_nz.mp c_14))), if_neg (fun h => h c_26), if_pos (Or.inr (Or.inl (by rw [hO]; exact bI_z.mp c_57)))]
            exact k_iret C0 ((vU v 0 3), r) hP hD hS (by rw [spFr, hth, if_neg (by decide)] <;> rfl) dX5_fraction_97
          · skip
            refine lv_aload_n hx hb dX5_fraction_60 rfl (lv_at hl 0 rfl) ?_
            refine lv_iload_n hx hb dX5_fraction_61 rfl (lv_at hl 2 rfl) ?_
            refine lv_eqi hyi.1 ?_
            refine kcD (ans := (bI ((0 < nI y.toNatClampNeg ∧ r 1 y.toNatClampNeg = -1) ∧ ¬ wiF (r 1) (r 2) (nI y.toNatClampNeg) 30 (nI o1) = true))) C0 hP hD hS (c_X5_mayTake l D cI a (vU v 0 0) r y.toNatClampNeg o1 dp hyi.2 hO ho1 hd30 hdp) (cwV 1 hts gX5_fraction_X5_mayTake rfl rfl rfl (by decide +kernel) ⟨Nat.le_of_ble_eq_true rfl, Nat.le_of_ble_eq_true rfl⟩) 0 5 rfl rfl rfl hl.1 rfl (Nat.le_of_ble_eq_true rfl) dX5_fraction_62 ⟨Nat.zero_le _, Nat.zero_le _⟩ (fun H locs hP hD hS => ?_)
            refine lv_if_ne (tgt := 72) hx hb dX5_fraction_65 (by decide) (fun c_65 => ?_) (fun c_65 => ?_)
            · skip
              refine lv_aload_n hx hb dX5_fraction_72 rfl (lv_at hl 0 rfl) ?_
              refine va_get (D := D) (ci := 5) (v := .int (v 4)) (C := RX5) (T := TX5) (N := 25) hx hb hts hin_X5 hown hK hP 0 rfl rfl 4 (by decide) hf53 (fun _ h9 => h9) rfl dX5_fraction_73 ?_
              refine lv_bipush (v := 120) hx hb dX5_fraction_76 (by decide) ?_
              refine lv_icmp_ne (tgt := 85) hx hb dX5_fraction_78 (by decide) (fun c_78 => ?_) (fun c_78 => ?_)
              · skip
                refine lv_iconst (v := 0) hx hb dX5_fraction_85 (by decide) ?_
                refine va_put (D := D) (ci := 5) (v := .int 0) (ty := .int) (C := RX5) (T := TX5) (N := 25) hx hb hts hin_X5 tyX5 tyX5_ok nmX5 hown hK hP hD hS 0 rfl rfl 0 (by decide) hf50 (fun _ h9 => h9) rfl (by decide +kernel) rfl rfl (Nat.le_of_ble_eq_true rfl) dX5_fraction_86 (fun H locs hP hD hS => ?_)
                have hP : va_P D vwCl (wM cI a (vU v 0 0) r) H := hP
                have hD : va_D A (wM cI a (vU v 0 0) r) := hD
                refine lv_aload_n hx hb dX5_fraction_89 rfl (lv_at hl 0 rfl) ?_
                refine va_get (D := D) (ci := 5) (v := .int 0) (C := RX5) (T := TX5) (N := 25) hx hb hts hin_X5 hown hK hP 0 rfl rfl 0 (by decide) hf50 (fun _ h9 => h9) rfl dX5_fraction_90 ?_
                refine lv_if_le (tgt := 98) hx hb dX5_fraction_93 (by decide) (fun c_93 => ?_) (fun c_93 => absurd (by decide) c_93)
                have hNlt : N < 120 := by rcases Nat.lt_or_ge N 120 with q | q; exact q; exact absurd (show v 4 = 120 by rw [hN, show N = 120 by omega]; rfl) c_78
                refine lv_aload_n hx hb dX5_fraction_98 rfl (lv_at hl 0 rfl) ?_
                refine lv_iconst (v := 1) hx hb dX5_fraction_99 (by decide) ?_
                refine lv_bipush (v := 7) hx hb dX5_fraction_100 (by decide) ?_
                refine lv_iload_n hx hb dX5_fraction_102 rfl (lv_at hl 1 rfl) ?_
                refine lv_iload_n hx hb dX5_fraction_103 rfl (lv_at hl 2 rfl) ?_
                refine lv_lload_n hx hb dX5_fraction_104 rfl (lv_at hl 3 rfl) ?_
                refine lv_lconst (v := 0) hx hb dX5_fraction_105 (by decide) ?_
                refine W.lcmp hx hb dX5_fraction_106 ?_
                refine lv_if_ge (tgt := 114) hx hb dX5_fraction_107 (by decide) (fun c_107 => ?_) (fun c_107 => ?_)
                · skip
                  refine lv_lload_n hx hb dX5_fraction_114 rfl (lv_at hl 3 rfl) ?_
                  refine lv_l2i hx hb dX5_fraction_115 rfl ?_
                  refine kcD (ans := (v 4)) C0 hP hD hS (c_X5_add l D cI a (vU v 0 0) r 1 7 x y z.toInt32 N hN hNlt) (cwV 5 hts gX5_fraction_X5_add rfl rfl rfl (by decide +kernel) ⟨Nat.le_of_ble_eq_true rfl, Nat.le_of_ble_eq_true rfl⟩) 0 5 rfl rfl rfl hl.1 rfl (Nat.le_of_ble_eq_true rfl) dX5_fraction_116 ⟨Nat.zero_le _, Nat.zero_le _⟩ (fun H locs hP hD hS => ?_)
                  have hP : va_P D vwCl (wM cI a (vU (vU v 0 0) 4 ((v 4) + 1)) (rU (rU (rU (rU (rU (rU (rU (rU r 2 (upd (r 2) N (v 2))) 3 (upd (r 3) N 1)) 4 (upd (r 4) N 7)) 5 (upd (r 5) N x)) 6 (upd (r 6) N y)) 7 (upd (r 7) N z.toInt32)) 8 (upd (r 8) N (-1))) 9 (upd (r 9) N (-1)))) H := hP
                  have hD : va_D A (wM cI a (vU (vU v 0 0) 4 ((v 4) + 1)) (rU (rU (rU (rU (rU (rU (rU (rU r 2 (upd (r 2) N (v 2))) 3 (upd (r 3) N 1)) 4 (upd (r 4) N 7)) 5 (upd (r 5) N x)) 6 (upd (r 6) N y)) 7 (upd (r 7) N z.toInt32)) 8 (upd (r 8) N (-1))) 9 (upd (r 9) N (-1)))) := hD
                  refine lv_istore (lv' := [(5, .int (v 4)), (0, .ref (a 0)), (1, .int x), (2, .int y), (3, .long z)]) hx hb dX5_fraction_119 hl (by decide) rfl (fun ls hl => ?_)
                  refine lv_aload_n hx hb dX5_fraction_121 rfl (lv_at hl 1 rfl) ?_
                  refine va_get (D := D) (ci := 5) (v := .ref (a 1)) (C := RX5) (T := TX5) (N := 25) hx hb hts hin_X5 hown hK hP 0 rfl rfl 3 (by decide) hf13 (fun _ h9 => h9) rfl dX5_fraction_122 ?_
                  refine lv_iload_n hx hb dX5_fraction_125 rfl (lv_at hl 2 rfl) ?_
                  refine lv_iload hx hb dX5_fraction_126 (lv_at hl 0 rfl) ?_
                  refine ra_st (f := (r 1)) C0 hP hD hS 1 rfl x.toNatClampNeg hxi.1 hxi.2 (by decide) dX5_fraction_128 (fun H locs hP hD hS => ?_)
                  have hset : ∀ (y0_ y4_ : Int32) (f2_ f3_ f4_ f5_ f6_ f7_ f8_ f9_ : Nat → Int32) (g_ : Nat → Int32), (wM cI a (vU (vU v 0 y0_) 4 y4_) (rU (rU (rU (rU (rU (rU (rU (rU r 2 f2_) 3 f3_) 4 f4_) 5 f5_) 6 f6_) 7 f7_) 8 f8_) 9 f9_)).set 1 (a 1, .inl (cI, 30, .inl g_)) = (wM cI a (vU (vU v 0 y0_) 4 y4_) (rU (rU (rU (rU (rU (rU (rU (rU (rU r 1 g_) 2 f2_) 3 f3_) 4 f4_) 5 f5_) 6 f6_) 7 f7_) 8 f8_) 9 f9_)) := fun _ _ _ _ _ _ _ _ _ _ _ => rfl
                  rw [hset] at hP hD
                  refine lv_aload_n hx hb dX5_fraction_129 rfl (lv_at hl 1 rfl) ?_
                  refine va_get (D := D) (ci := 5) (v := .ref (a 1)) (C := RX5) (T := TX5) (N := 25) hx hb hts hin_X5 hown hK hP 0 rfl rfl 3 (by decide) hf13 (fun _ h9 => h9) rfl dX5_fraction_130 ?_
                  refine lv_iload_n hx hb dX5_fraction_133 rfl (lv_at hl 3 rfl) ?_
                  refine lv_iload hx hb dX5_fraction_134 (lv_at hl 0 rfl) ?_
                  refine ra_st (f := (upd (r 1) x.toNatClampNeg (v 4))) C0 hP hD hS 1 rfl y.toNatClampNeg hyi.1 hyi.2 (by decide) dX5_fraction_136 (fun H locs hP hD hS => ?_)
                  have hset : ∀ (y0_ y4_ : Int32) (f1_ f2_ f3_ f4_ f5_ f6_ f7_ f8_ f9_ : Nat → Int32) (g_ : Nat → Int32), (wM cI a (vU (vU v 0 y0_) 4 y4_) (rU (rU (rU (rU (rU (rU (rU (rU (rU r 1 f1_) 2 f2_) 3 f3_) 4 f4_) 5 f5_) 6 f6_) 7 f7_) 8 f8_) 9 f9_)).set 1 (a 1, .inl (cI, 30, .inl g_)) = (wM cI a (vU (vU v 0 y0_) 4 y4_) (rU (rU (rU (rU (rU (rU (rU (rU (rU r 1 g_) 2 f2_) 3 f3_) 4 f4_) 5 f5_) 6 f6_) 7 f7_) 8 f8_) 9 f9_)) := fun _ _ _ _ _ _ _ _ _ _ _ _ => rfl
                  rw [hset] at hP hD
                  refine lv_iload hx hb dX5_fraction_137 (lv_at hl 0 rfl) ?_
                  have hth : thF v r x y z = 0 := by rw [thF, if_neg (fun q => q.elim (fun h => h (bI_nz.mp c_6)) (fun h => h (bI_nz.mp c_14))), if_neg (fun h => h c_26), if_neg (fun q => q.elim c_49 (fun q => q.elim (fun h => h (by rw [hO]; exact bI_nz.mp c_57)) (fun h => h (by rw [hO]; exact bI_nz.mp c_65)))), if_neg c_78]
                  exact k_iret C0 ((vU (vU v 0 0) 4 ((v 4) + 1)), (rU (rU (rU (rU (rU (rU (rU (rU (rU r 1 (upd (upd (r 1) x.toNatClampNeg (v 4)) y.toNatClampNeg (v 4))) 2 (upd (r 2) N (v 2))) 3 (upd (r 3) N 1)) 4 (upd (r 4) N 7)) 5 (upd (r 5) N x)) 6 (upd (r 6) N y)) 7 (upd (r 7) N z.toInt32)) 8 (upd (r 8) N (-1))) 9 (upd (r 9) N (-1)))) hP hD hS (by rw [spFr, hth, if_pos rfl, if_pos c_107] <;> rfl) dX5_fraction_139
                · skip
                  refine lv_iconst (v := (-1)) hx hb dX5_fraction_110 (by decide) ?_
                  refine lv_goto (tgt := 116) hx hb dX5_fraction_111 (by decide) ?_
                  refine kcD (ans := (v 4)) C0 hP hD hS (c_X5_add l D cI a (vU v 0 0) r 1 7 x y (-1) N hN hNlt) (cwV 5 hts gX5_fraction_X5_add rfl rfl rfl (by decide +kernel) ⟨Nat.le_of_ble_eq_true rfl, Nat.le_of_ble_eq_true rfl⟩) 0 5 rfl rfl rfl hl.1 rfl (Nat.le_of_ble_eq_true rfl) dX5_fraction_116 ⟨Nat.zero_le _, Nat.zero_le _⟩ (fun H locs hP hD hS => ?_)
                  have hP : va_P D vwCl (wM cI a (vU (vU v 0 0) 4 ((v 4) + 1)) (rU (rU (rU (rU (rU (rU (rU (rU r 2 (upd (r 2) N (v 2))) 3 (upd (r 3) N 1)) 4 (upd (r 4) N 7)) 5 (upd (r 5) N x)) 6 (upd (r 6) N y)) 7 (upd (r 7) N (-1))) 8 (upd (r 8) N (-1))) 9 (upd (r 9) N (-1)))) H := hP
                  have hD : va_D A (wM cI a (vU (vU v 0 0) 4 ((v 4) + 1)) (rU (rU (rU (rU (rU (rU (rU (rU r 2 (upd (r 2) N (v 2))) 3 (upd (r 3) N 1)) 4 (upd (r 4) N 7)) 5 (upd (r 5) N x)) 6 (upd (r 6) N y)) 7 (upd (r 7) N (-1))) 8 (upd (r 8) N (-1))) 9 (upd (r 9) N (-1)))) := hD
                  refine lv_istore (lv' := [(5, .int (v 4)), (0, .ref (a 0)), (1, .int x), (2, .int y), (3, .long z)]) hx hb dX5_fraction_119 hl (by decide) rfl (fun ls hl => ?_)
                  refine lv_aload_n hx hb dX5_fraction_121 rfl (lv_at hl 1 rfl) ?_
                  refine va_get (D := D) (ci := 5) (v := .ref (a 1)) (C := RX5) (T := TX5) (N := 25) hx hb hts hin_X5 hown hK hP 0 rfl rfl 3 (by decide) hf13 (fun _ h9 => h9) rfl dX5_fraction_122 ?_
                  refine lv_iload_n hx hb dX5_fraction_125 rfl (lv_at hl 2 rfl) ?_
                  refine lv_iload hx hb dX5_fraction_126 (lv_at hl 0 rfl) ?_
                  refine ra_st (f := (r 1)) C0 hP hD hS 1 rfl x.toNatClampNeg hxi.1 hxi.2 (by decide) dX5_fraction_128 (fun H locs hP hD hS => ?_)
                  have hset : ∀ (y0_ y4_ : Int32) (f2_ f3_ f4_ f5_ f6_ f7_ f8_ f9_ : Nat → Int32) (g_ : Nat → Int32), (wM cI a (vU (vU v 0 y0_) 4 y4_) (rU (rU (rU (rU (rU (rU (rU (rU r 2 f2_) 3 f3_) 4 f4_) 5 f5_) 6 f6_) 7 f7_) 8 f8_) 9 f9_)).set 1 (a 1, .inl (cI, 30, .inl g_)) = (wM cI a (vU (vU v 0 y0_) 4 y4_) (rU (rU (rU (rU (rU (rU (rU (rU (rU r 1 g_) 2 f2_) 3 f3_) 4 f4_) 5 f5_) 6 f6_) 7 f7_) 8 f8_) 9 f9_)) := fun _ _ _ _ _ _ _ _ _ _ _ => rfl
                  rw [hset] at hP hD
                  refine lv_aload_n hx hb dX5_fraction_129 rfl (lv_at hl 1 rfl) ?_
                  refine va_get (D := D) (ci := 5) (v := .ref (a 1)) (C := RX5) (T := TX5) (N := 25) hx hb hts hin_X5 hown hK hP 0 rfl rfl 3 (by decide) hf13 (fun _ h9 => h9) rfl dX5_fraction_130 ?_
                  refine lv_iload_n hx hb dX5_fraction_133 rfl (lv_at hl 3 rfl) ?_
                  refine lv_iload hx hb dX5_fraction_134 (lv_at hl 0 rfl) ?_
                  refine ra_st (f := (upd (r 1) x.toNatClampNeg (v 4))) C0 hP hD hS 1 rfl y.toNatClampNeg hyi.1 hyi.2 (by decide) dX5_fraction_136 (fun H locs hP hD hS => ?_)
                  have hset : ∀ (y0_ y4_ : Int32) (f1_ f2_ f3_ f4_ f5_ f6_ f7_ f8_ f9_ : Nat → Int32) (g_ : Nat → Int32), (wM cI a (vU (vU v 0 y0_) 4 y4_) (rU (rU (rU (rU (rU (rU (rU (rU (rU r 1 f1_) 2 f2_) 3 f3_) 4 f4_) 5 f5_) 6 f6_) 7 f7_) 8 f8_) 9 f9_)).set 1 (a 1, .inl (cI, 30, .inl g_)) = (wM cI a (vU (vU v 0 y0_) 4 y4_) (rU (rU (rU (rU (rU (rU (rU (rU (rU r 1 g_) 2 f2_) 3 f3_) 4 f4_) 5 f5_) 6 f6_) 7 f7_) 8 f8_) 9 f9_)) := fun _ _ _ _ _ _ _ _ _ _ _ _ => rfl
                  rw [hset] at hP hD
                  refine lv_iload hx hb dX5_fraction_137 (lv_at hl 0 rfl) ?_
                  have hth : thF v r x y z = 0 := by rw [thF, if_neg (fun q => q.elim (fun h => h (bI_nz.mp c_6)) (fun h => h (bI_nz.mp c_14))), if_neg (fun h => h c_26), if_neg (fun q => q.elim c_49 (fun q => q.elim (fun h => h (by rw [hO]; exact bI_nz.mp c_57)) (fun h => h (by rw [hO]; exact bI_nz.mp c_65)))), if_neg c_78]
                  exact k_iret C0 ((vU (vU v 0 0) 4 ((v 4) + 1)), (rU (rU (rU (rU (rU (rU (rU (rU (rU r 1 (upd (upd (r 1) x.toNatClampNeg (v 4)) y.toNatClampNeg (v 4))) 2 (upd (r 2) N (v 2))) 3 (upd (r 3) N 1)) 4 (upd (r 4) N 7)) 5 (upd (r 5) N x)) 6 (upd (r 6) N y)) 7 (upd (r 7) N (-1))) 8 (upd (r 8) N (-1))) 9 (upd (r 9) N (-1)))) hP hD hS (by rw [spFr, hth, if_pos rfl, if_neg c_107] <;> rfl) dX5_fraction_139
              · skip
                refine lv_iconst (v := 4) hx hb dX5_fraction_81 (by decide) ?_
                refine lv_goto (tgt := 86) hx hb dX5_fraction_82 (by decide) ?_
                refine va_put (D := D) (ci := 5) (v := .int 4) (ty := .int) (C := RX5) (T := TX5) (N := 25) hx hb hts hin_X5 tyX5 tyX5_ok nmX5 hown hK hP hD hS 0 rfl rfl 0 (by decide) hf50 (fun _ h9 => h9) rfl (by decide +kernel) rfl rfl (Nat.le_of_ble_eq_true rfl) dX5_fraction_86 (fun H locs hP hD hS => ?_)
                have hP : va_P D vwCl (wM cI a (vU v 0 4) r) H := hP
                have hD : va_D A (wM cI a (vU v 0 4) r) := hD
                refine lv_aload_n hx hb dX5_fraction_89 rfl (lv_at hl 0 rfl) ?_
                refine va_get (D := D) (ci := 5) (v := .int 4) (C := RX5) (T := TX5) (N := 25) hx hb hts hin_X5 hown hK hP 0 rfl rfl 0 (by decide) hf50 (fun _ h9 => h9) rfl dX5_fraction_90 ?_
                refine lv_if_le (tgt := 98) hx hb dX5_fraction_93 (by decide) (fun c_93 => absurd c_93 (by decide)) (fun c_93 => ?_)
                refine lv_iconst (v := 0) hx hb dX5_fraction_96 (by decide) ?_
                have hth : thF v r x y z = 4 := by rw [thF, if_neg (fun q => q.elim (fun h => h (bI_nz.mp c_6)) (fun h => h (bI_nz.mp c_14))), if_neg (fun h => h c_26), if_neg (fun q => q.elim c_49 (fun q => q.elim (fun h => h (by rw [hO]; exact bI_nz.mp c_57)) (fun h => h (by rw [hO]; exact bI_nz.mp c_65)))), if_pos c_78]
                exact k_iret C0 ((vU v 0 4), r) hP hD hS (by rw [spFr, hth, if_neg (by decide)] <;> rfl) dX5_fraction_97
            · skip
              refine lv_iconst (v := 3) hx hb dX5_fraction_68 (by decide) ?_
              refine lv_goto (tgt := 86) hx hb dX5_fraction_69 (by decide) ?_
              refine va_put (D := D) (ci := 5) (v := .int 3) (ty := .int) (C := RX5) (T := TX5) (N := 25) hx hb hts hin_X5 tyX5 tyX5_ok nmX5 hown hK hP hD hS 0 rfl rfl 0 (by decide) hf50 (fun _ h9 => h9) rfl (by decide +kernel) rfl rfl (Nat.le_of_ble_eq_true rfl) dX5_fraction_86 (fun H locs hP hD hS => ?_)
              have hP : va_P D vwCl (wM cI a (vU v 0 3) r) H := hP
              have hD : va_D A (wM cI a (vU v 0 3) r) := hD
              refine lv_aload_n hx hb dX5_fraction_89 rfl (lv_at hl 0 rfl) ?_
              refine va_get (D := D) (ci := 5) (v := .int 3) (C := RX5) (T := TX5) (N := 25) hx hb hts hin_X5 hown hK hP 0 rfl rfl 0 (by decide) hf50 (fun _ h9 => h9) rfl dX5_fraction_90 ?_
              refine lv_if_le (tgt := 98) hx hb dX5_fraction_93 (by decide) (fun c_93 => absurd c_93 (by decide)) (fun c_93 => ?_)
              refine lv_iconst (v := 0) hx hb dX5_fraction_96 (by decide) ?_
              have hth : thF v r x y z = 3 := by rw [thF, if_neg (fun q => q.elim (fun h => h (bI_nz.mp c_6)) (fun h => h (bI_nz.mp c_14))), if_neg (fun h => h c_26), if_pos (Or.inr (Or.inr (by rw [hO]; exact bI_z.mp c_65)))]
              exact k_iret C0 ((vU v 0 3), r) hP hD hS (by rw [spFr, hth, if_neg (by decide)] <;> rfl) dX5_fraction_97
      · skip
        refine lv_iconst (v := 2) hx hb dX5_fraction_29 (by decide) ?_
        refine lv_goto (tgt := 34) hx hb dX5_fraction_30 (by decide) ?_
        refine va_put (D := D) (ci := 5) (v := .int 2) (ty := .int) (C := RX5) (T := TX5) (N := 25) hx hb hts hin_X5 tyX5 tyX5_ok nmX5 hown hK hP hD hS 0 rfl rfl 0 (by decide) hf50 (fun _ h9 => h9) rfl (by decide +kernel) rfl rfl (Nat.le_of_ble_eq_true rfl) dX5_fraction_34 (fun H locs hP hD hS => ?_)
        have hP : va_P D vwCl (wM cI a (vU v 0 2) r) H := hP
        have hD : va_D A (wM cI a (vU v 0 2) r) := hD
        refine lv_aload_n hx hb dX5_fraction_37 rfl (lv_at hl 0 rfl) ?_
        refine va_get (D := D) (ci := 5) (v := .int 2) (C := RX5) (T := TX5) (N := 25) hx hb hts hin_X5 hown hK hP 0 rfl rfl 0 (by decide) hf50 (fun _ h9 => h9) rfl dX5_fraction_38 ?_
        refine lv_if_le (tgt := 46) hx hb dX5_fraction_41 (by decide) (fun c_41 => absurd c_41 (by decide)) (fun c_41 => ?_)
        refine lv_iconst (v := 0) hx hb dX5_fraction_44 (by decide) ?_
        have hth : thF v r x y z = 2 := by rw [thF, if_neg (fun q => q.elim (fun h => h (bI_nz.mp c_6)) (fun h => h (bI_nz.mp c_14))), if_pos c_26]
        exact k_iret C0 ((vU v 0 2), r) hP hD hS (by rw [spFr, hth, if_neg (by decide)] <;> rfl) dX5_fraction_45
    · skip
      refine lv_iconst (v := 1) hx hb dX5_fraction_17 (by decide) ?_
      refine lv_goto (tgt := 34) hx hb dX5_fraction_18 (by decide) ?_
      refine va_put (D := D) (ci := 5) (v := .int 1) (ty := .int) (C := RX5) (T := TX5) (N := 25) hx hb hts hin_X5 tyX5 tyX5_ok nmX5 hown hK hP hD hS 0 rfl rfl 0 (by decide) hf50 (fun _ h9 => h9) rfl (by decide +kernel) rfl rfl (Nat.le_of_ble_eq_true rfl) dX5_fraction_34 (fun H locs hP hD hS => ?_)
      have hP : va_P D vwCl (wM cI a (vU v 0 1) r) H := hP
      have hD : va_D A (wM cI a (vU v 0 1) r) := hD
      refine lv_aload_n hx hb dX5_fraction_37 rfl (lv_at hl 0 rfl) ?_
      refine va_get (D := D) (ci := 5) (v := .int 1) (C := RX5) (T := TX5) (N := 25) hx hb hts hin_X5 hown hK hP 0 rfl rfl 0 (by decide) hf50 (fun _ h9 => h9) rfl dX5_fraction_38 ?_
      refine lv_if_le (tgt := 46) hx hb dX5_fraction_41 (by decide) (fun c_41 => absurd c_41 (by decide)) (fun c_41 => ?_)
      refine lv_iconst (v := 0) hx hb dX5_fraction_44 (by decide) ?_
      have hth : thF v r x y z = 1 := by rw [thF, if_pos (Or.inr (bI_z.mp c_14))]
      exact k_iret C0 ((vU v 0 1), r) hP hD hS (by rw [spFr, hth, if_neg (by decide)] <;> rfl) dX5_fraction_45

set_option maxHeartbeats 1500000 in
set_option maxRecDepth 100000 in
theorem c_X5_fence (l : Launch) (D : va_G) (cI : ClassId) (a : Nat → Nat) (v : Nat → Int32) (r : Nat → Nat → Int32) (x y z : Int32) (N L o1 : Nat) (dp : Nat → Nat) (hN : v 4 = nI N) (hN1 : N ≤ 120) (hL : v 1 = nI L) (hL1 : L ≤ 30) (hO : v 2 = nI o1) (ho1 : o1 < 30) (hd30 : ∀ j, j < 30 → dp j ≤ 30) (hdp : ∀ j, j < 30 → r 1 j = -1 ∨ ∃ n i, r 1 j = nI n ∧ n < 120 ∧ r 2 n = nI i ∧ i < 30 ∧ dp i < dp j) : KI l D cI yX5_fence wsX5_fence ({ frames := 2, cells := 0, slots := 0, locals := 44 }) [.ref (a 0), .int x, .int y, .int z] (wM cI a v r) (fun u : (Nat → Int32) × (Nat → Nat → Int32) => wM cI a u.1 u.2) (fun q u => (q, u.1, u.2) = spFe v r N x y z) := by
  refine KI.of (cc := cX5_fence) (nL := 7) (ret := (some .int)) (by decide) rfl (Nat.le_of_ble_eq_true rfl) ?_
  intro pg9 en9 s m args below meth cd9 A ls C0 hP hD hS hl
  have hx := C0.1.1
  have hb := C0.1.2.1
  have hml := C0.1.2.2.1
  have hown : s.vm.findClass RX5 = some m.cls := C0.1.2.2.2.1
  have hts : ∀ w ∈ wsX5_fence, w.before args s = true := C0.1.2.2.2.2
  have hK := C0.2.2.2.1
  have hin_X5 : ∀ w ∈ wsX50, w ∈ wsX5_fence := fun w h => List.mem_cons_of_mem _ (List.mem_append_right _ h)
  have hf50 : (Cond.fieldLink RX5 50 "FormulaListsModel" "thrown" "I").before args s = true := hts _ (by decide +kernel)
  have hf53 : (Cond.fieldLink RX5 53 "FormulaListsModel" "nodes" "I").before args s = true := hts _ (by decide +kernel)
  have hf13 : (Cond.fieldLink RX5 13 "FormulaListsModel" "in" "[I").before args s = true := hts _ (by decide +kernel)
  have hl : lv_has ls 7 [(0, .ref (a 0)), (1, .int x), (2, .int y), (3, .int z)] := hl
  have hP : va_P D vwCl (wM cI a v r) s.heap := hP
  refine lv_iload_n hx hb dX5_fence_0 rfl (lv_at hl 1 rfl) ?_
  refine lv_if_lt (tgt := 22) hx hb dX5_fence_1 (by decide) (fun c_1 => ?_) (fun c_1 => ?_)
  · skip
    refine lv_iconst (v := 0) hx hb dX5_fence_22 (by decide) ?_
    refine lv_istore (lv' := [(4, .int 0), (0, .ref (a 0)), (1, .int x), (2, .int y), (3, .int z)]) hx hb dX5_fence_23 hl (by decide) rfl (fun ls hl => ?_)
    refine lv_aload_n hx hb dX5_fence_25 rfl (lv_at hl 1 rfl) ?_
    refine lv_aload_n hx hb dX5_fence_26 rfl (lv_at hl 1 rfl) ?_
    refine lv_iload_n hx hb dX5_fence_27 rfl (lv_at hl 3 rfl) ?_
    refine kcD (ans := (bI (0 ≤ y ∧ y < v 1))) C0 hP hD hS (c_X5_isList l D cI a v r y ) (cwV 1 hts gX5_fence_X5_isList rfl rfl rfl (by decide +kernel) ⟨Nat.le_of_ble_eq_true rfl, Nat.le_of_ble_eq_true rfl⟩) 0 5 rfl rfl rfl hl.1 rfl (Nat.le_of_ble_eq_true rfl) dX5_fence_28 ⟨Nat.zero_le _, Nat.zero_le _⟩ (fun H locs hP hD hS => ?_)
    refine lv_if_ne (tgt := 38) hx hb dX5_fence_31 (by decide) (fun c_31 => ?_) (fun c_31 => ?_)
    · skip
      refine lv_iload hx hb dX5_fence_38 (lv_at hl 0 rfl) ?_
      refine lv_if_ne (tgt := 47) hx hb dX5_fence_40 (by decide) (fun c_40 => absurd (by decide) c_40) (fun c_40 => ?_)
      refine lv_iconst (v := 2) hx hb dX5_fence_43 (by decide) ?_
      refine lv_goto (tgt := 48) hx hb dX5_fence_44 (by decide) ?_
      refine va_put (D := D) (ci := 5) (v := .int 2) (ty := .int) (C := RX5) (T := TX5) (N := 25) hx hb hts hin_X5 tyX5 tyX5_ok nmX5 hown hK hP hD hS 0 rfl rfl 0 (by decide) hf50 (fun _ h9 => h9) rfl (by decide +kernel) rfl rfl (Nat.le_of_ble_eq_true rfl) dX5_fence_48 (fun H locs hP hD hS => ?_)
      have hP : va_P D vwCl (wM cI a (vU v 0 2) r) H := hP
      have hD : va_D A (wM cI a (vU v 0 2) r) := hD
      refine lv_aload_n hx hb dX5_fence_51 rfl (lv_at hl 1 rfl) ?_
      refine va_get (D := D) (ci := 5) (v := .int 2) (C := RX5) (T := TX5) (N := 25) hx hb hts hin_X5 hown hK hP 0 rfl rfl 0 (by decide) hf50 (fun _ h9 => h9) rfl dX5_fence_52 ?_
      refine lv_if_le (tgt := 60) hx hb dX5_fence_55 (by decide) (fun c_55 => absurd c_55 (by decide)) (fun c_55 => ?_)
      refine lv_iconst (v := 0) hx hb dX5_fence_58 (by decide) ?_
      have hth : thE v r x y z = 2 := by rw [thE, if_neg (fun h => h (bI_nz.mp c_31)), if_pos (Or.inl c_1)]
      exact k_iret C0 ((vU v 0 2), r) hP hD hS (by rw [spFe, hth, if_neg (by decide)] <;> rfl) dX5_fence_59
    · skip
      refine lv_iconst (v := 1) hx hb dX5_fence_34 (by decide) ?_
      refine lv_goto (tgt := 48) hx hb dX5_fence_35 (by decide) ?_
      refine va_put (D := D) (ci := 5) (v := .int 1) (ty := .int) (C := RX5) (T := TX5) (N := 25) hx hb hts hin_X5 tyX5 tyX5_ok nmX5 hown hK hP hD hS 0 rfl rfl 0 (by decide) hf50 (fun _ h9 => h9) rfl (by decide +kernel) rfl rfl (Nat.le_of_ble_eq_true rfl) dX5_fence_48 (fun H locs hP hD hS => ?_)
      have hP : va_P D vwCl (wM cI a (vU v 0 1) r) H := hP
      have hD : va_D A (wM cI a (vU v 0 1) r) := hD
      refine lv_aload_n hx hb dX5_fence_51 rfl (lv_at hl 1 rfl) ?_
      refine va_get (D := D) (ci := 5) (v := .int 1) (C := RX5) (T := TX5) (N := 25) hx hb hts hin_X5 hown hK hP 0 rfl rfl 0 (by decide) hf50 (fun _ h9 => h9) rfl dX5_fence_52 ?_
      refine lv_if_le (tgt := 60) hx hb dX5_fence_55 (by decide) (fun c_55 => absurd c_55 (by decide)) (fun c_55 => ?_)
      refine lv_iconst (v := 0) hx hb dX5_fence_58 (by decide) ?_
      have hth : thE v r x y z = 1 := by rw [thE, if_pos (bI_z.mp c_31)]
      exact k_iret C0 ((vU v 0 1), r) hP hD hS (by rw [spFe, hth, if_neg (by decide)] <;> rfl) dX5_fence_59
  · skip
    refine lv_iload_n hx hb dX5_fence_4 rfl (lv_at hl 1 rfl) ?_
    refine lv_iconst (v := 5) hx hb dX5_fence_5 (by decide) ?_
    refine lv_icmp_gt (tgt := 22) hx hb dX5_fence_6 (by decide) (fun c_6 => ?_) (fun c_6 => ?_)
    · skip
      refine lv_iconst (v := 0) hx hb dX5_fence_22 (by decide) ?_
      refine lv_istore (lv' := [(4, .int 0), (0, .ref (a 0)), (1, .int x), (2, .int y), (3, .int z)]) hx hb dX5_fence_23 hl (by decide) rfl (fun ls hl => ?_)
      refine lv_aload_n hx hb dX5_fence_25 rfl (lv_at hl 1 rfl) ?_
      refine lv_aload_n hx hb dX5_fence_26 rfl (lv_at hl 1 rfl) ?_
      refine lv_iload_n hx hb dX5_fence_27 rfl (lv_at hl 3 rfl) ?_
      refine kcD (ans := (bI (0 ≤ y ∧ y < v 1))) C0 hP hD hS (c_X5_isList l D cI a v r y ) (cwV 1 hts gX5_fence_X5_isList rfl rfl rfl (by decide +kernel) ⟨Nat.le_of_ble_eq_true rfl, Nat.le_of_ble_eq_true rfl⟩) 0 5 rfl rfl rfl hl.1 rfl (Nat.le_of_ble_eq_true rfl) dX5_fence_28 ⟨Nat.zero_le _, Nat.zero_le _⟩ (fun H locs hP hD hS => ?_)
      refine lv_if_ne (tgt := 38) hx hb dX5_fence_31 (by decide) (fun c_31 => ?_) (fun c_31 => ?_)
      · skip
        refine lv_iload hx hb dX5_fence_38 (lv_at hl 0 rfl) ?_
        refine lv_if_ne (tgt := 47) hx hb dX5_fence_40 (by decide) (fun c_40 => absurd (by decide) c_40) (fun c_40 => ?_)
        refine lv_iconst (v := 2) hx hb dX5_fence_43 (by decide) ?_
        refine lv_goto (tgt := 48) hx hb dX5_fence_44 (by decide) ?_
        refine va_put (D := D) (ci := 5) (v := .int 2) (ty := .int) (C := RX5) (T := TX5) (N := 25) hx hb hts hin_X5 tyX5 tyX5_ok nmX5 hown hK hP hD hS 0 rfl rfl 0 (by decide) hf50 (fun _ h9 => h9) rfl (by decide +kernel) rfl rfl (Nat.le_of_ble_eq_true rfl) dX5_fence_48 (fun H locs hP hD hS => ?_)
        have hP : va_P D vwCl (wM cI a (vU v 0 2) r) H := hP
        have hD : va_D A (wM cI a (vU v 0 2) r) := hD
        refine lv_aload_n hx hb dX5_fence_51 rfl (lv_at hl 1 rfl) ?_
        refine va_get (D := D) (ci := 5) (v := .int 2) (C := RX5) (T := TX5) (N := 25) hx hb hts hin_X5 hown hK hP 0 rfl rfl 0 (by decide) hf50 (fun _ h9 => h9) rfl dX5_fence_52 ?_
        refine lv_if_le (tgt := 60) hx hb dX5_fence_55 (by decide) (fun c_55 => absurd c_55 (by decide)) (fun c_55 => ?_)
        refine lv_iconst (v := 0) hx hb dX5_fence_58 (by decide) ?_
        have hth : thE v r x y z = 2 := by rw [thE, if_neg (fun h => h (bI_nz.mp c_31)), if_pos (Or.inr (Or.inl c_6))]
        exact k_iret C0 ((vU v 0 2), r) hP hD hS (by rw [spFe, hth, if_neg (by decide)] <;> rfl) dX5_fence_59
      · skip
        refine lv_iconst (v := 1) hx hb dX5_fence_34 (by decide) ?_
        refine lv_goto (tgt := 48) hx hb dX5_fence_35 (by decide) ?_
        refine va_put (D := D) (ci := 5) (v := .int 1) (ty := .int) (C := RX5) (T := TX5) (N := 25) hx hb hts hin_X5 tyX5 tyX5_ok nmX5 hown hK hP hD hS 0 rfl rfl 0 (by decide) hf50 (fun _ h9 => h9) rfl (by decide +kernel) rfl rfl (Nat.le_of_ble_eq_true rfl) dX5_fence_48 (fun H locs hP hD hS => ?_)
        have hP : va_P D vwCl (wM cI a (vU v 0 1) r) H := hP
        have hD : va_D A (wM cI a (vU v 0 1) r) := hD
        refine lv_aload_n hx hb dX5_fence_51 rfl (lv_at hl 1 rfl) ?_
        refine va_get (D := D) (ci := 5) (v := .int 1) (C := RX5) (T := TX5) (N := 25) hx hb hts hin_X5 hown hK hP 0 rfl rfl 0 (by decide) hf50 (fun _ h9 => h9) rfl dX5_fence_52 ?_
        refine lv_if_le (tgt := 60) hx hb dX5_fence_55 (by decide) (fun c_55 => absurd c_55 (by decide)) (fun c_55 => ?_)
        refine lv_iconst (v := 0) hx hb dX5_fence_58 (by decide) ?_
        have hth : thE v r x y z = 1 := by rw [thE, if_pos (bI_z.mp c_31)]
        exact k_iret C0 ((vU v 0 1), r) hP hD hS (by rw [spFe, hth, if_neg (by decide)] <;> rfl) dX5_fence_59
    · skip
      refine lv_iload_n hx hb dX5_fence_9 rfl (lv_at hl 3 rfl) ?_
      refine lv_if_lt (tgt := 22) hx hb dX5_fence_10 (by decide) (fun c_10 => ?_) (fun c_10 => ?_)
      · skip
        refine lv_iconst (v := 0) hx hb dX5_fence_22 (by decide) ?_
        refine lv_istore (lv' := [(4, .int 0), (0, .ref (a 0)), (1, .int x), (2, .int y), (3, .int z)]) hx hb dX5_fence_23 hl (by decide) rfl (fun ls hl => ?_)
        refine lv_aload_n hx hb dX5_fence_25 rfl (lv_at hl 1 rfl) ?_
        refine lv_aload_n hx hb dX5_fence_26 rfl (lv_at hl 1 rfl) ?_
        refine lv_iload_n hx hb dX5_fence_27 rfl (lv_at hl 3 rfl) ?_
        refine kcD (ans := (bI (0 ≤ y ∧ y < v 1))) C0 hP hD hS (c_X5_isList l D cI a v r y ) (cwV 1 hts gX5_fence_X5_isList rfl rfl rfl (by decide +kernel) ⟨Nat.le_of_ble_eq_true rfl, Nat.le_of_ble_eq_true rfl⟩) 0 5 rfl rfl rfl hl.1 rfl (Nat.le_of_ble_eq_true rfl) dX5_fence_28 ⟨Nat.zero_le _, Nat.zero_le _⟩ (fun H locs hP hD hS => ?_)
        refine lv_if_ne (tgt := 38) hx hb dX5_fence_31 (by decide) (fun c_31 => ?_) (fun c_31 => ?_)
        · skip
          refine lv_iload hx hb dX5_fence_38 (lv_at hl 0 rfl) ?_
          refine lv_if_ne (tgt := 47) hx hb dX5_fence_40 (by decide) (fun c_40 => absurd (by decide) c_40) (fun c_40 => ?_)
          refine lv_iconst (v := 2) hx hb dX5_fence_43 (by decide) ?_
          refine lv_goto (tgt := 48) hx hb dX5_fence_44 (by decide) ?_
          refine va_put (D := D) (ci := 5) (v := .int 2) (ty := .int) (C := RX5) (T := TX5) (N := 25) hx hb hts hin_X5 tyX5 tyX5_ok nmX5 hown hK hP hD hS 0 rfl rfl 0 (by decide) hf50 (fun _ h9 => h9) rfl (by decide +kernel) rfl rfl (Nat.le_of_ble_eq_true rfl) dX5_fence_48 (fun H locs hP hD hS => ?_)
          have hP : va_P D vwCl (wM cI a (vU v 0 2) r) H := hP
          have hD : va_D A (wM cI a (vU v 0 2) r) := hD
          refine lv_aload_n hx hb dX5_fence_51 rfl (lv_at hl 1 rfl) ?_
          refine va_get (D := D) (ci := 5) (v := .int 2) (C := RX5) (T := TX5) (N := 25) hx hb hts hin_X5 hown hK hP 0 rfl rfl 0 (by decide) hf50 (fun _ h9 => h9) rfl dX5_fence_52 ?_
          refine lv_if_le (tgt := 60) hx hb dX5_fence_55 (by decide) (fun c_55 => absurd c_55 (by decide)) (fun c_55 => ?_)
          refine lv_iconst (v := 0) hx hb dX5_fence_58 (by decide) ?_
          have hth : thE v r x y z = 2 := by rw [thE, if_neg (fun h => h (bI_nz.mp c_31)), if_pos (Or.inr (Or.inr (Or.inl c_10)))]
          exact k_iret C0 ((vU v 0 2), r) hP hD hS (by rw [spFe, hth, if_neg (by decide)] <;> rfl) dX5_fence_59
        · skip
          refine lv_iconst (v := 1) hx hb dX5_fence_34 (by decide) ?_
          refine lv_goto (tgt := 48) hx hb dX5_fence_35 (by decide) ?_
          refine va_put (D := D) (ci := 5) (v := .int 1) (ty := .int) (C := RX5) (T := TX5) (N := 25) hx hb hts hin_X5 tyX5 tyX5_ok nmX5 hown hK hP hD hS 0 rfl rfl 0 (by decide) hf50 (fun _ h9 => h9) rfl (by decide +kernel) rfl rfl (Nat.le_of_ble_eq_true rfl) dX5_fence_48 (fun H locs hP hD hS => ?_)
          have hP : va_P D vwCl (wM cI a (vU v 0 1) r) H := hP
          have hD : va_D A (wM cI a (vU v 0 1) r) := hD
          refine lv_aload_n hx hb dX5_fence_51 rfl (lv_at hl 1 rfl) ?_
          refine va_get (D := D) (ci := 5) (v := .int 1) (C := RX5) (T := TX5) (N := 25) hx hb hts hin_X5 hown hK hP 0 rfl rfl 0 (by decide) hf50 (fun _ h9 => h9) rfl dX5_fence_52 ?_
          refine lv_if_le (tgt := 60) hx hb dX5_fence_55 (by decide) (fun c_55 => absurd c_55 (by decide)) (fun c_55 => ?_)
          refine lv_iconst (v := 0) hx hb dX5_fence_58 (by decide) ?_
          have hth : thE v r x y z = 1 := by rw [thE, if_pos (bI_z.mp c_31)]
          exact k_iret C0 ((vU v 0 1), r) hP hD hS (by rw [spFe, hth, if_neg (by decide)] <;> rfl) dX5_fence_59
      · skip
        refine lv_iload_n hx hb dX5_fence_13 rfl (lv_at hl 3 rfl) ?_
        refine lv_iconst (v := 5) hx hb dX5_fence_14 (by decide) ?_
        refine lv_icmp_gt (tgt := 22) hx hb dX5_fence_15 (by decide) (fun c_15 => ?_) (fun c_15 => ?_)
        · skip
          refine lv_iconst (v := 0) hx hb dX5_fence_22 (by decide) ?_
          refine lv_istore (lv' := [(4, .int 0), (0, .ref (a 0)), (1, .int x), (2, .int y), (3, .int z)]) hx hb dX5_fence_23 hl (by decide) rfl (fun ls hl => ?_)
          refine lv_aload_n hx hb dX5_fence_25 rfl (lv_at hl 1 rfl) ?_
          refine lv_aload_n hx hb dX5_fence_26 rfl (lv_at hl 1 rfl) ?_
          refine lv_iload_n hx hb dX5_fence_27 rfl (lv_at hl 3 rfl) ?_
          refine kcD (ans := (bI (0 ≤ y ∧ y < v 1))) C0 hP hD hS (c_X5_isList l D cI a v r y ) (cwV 1 hts gX5_fence_X5_isList rfl rfl rfl (by decide +kernel) ⟨Nat.le_of_ble_eq_true rfl, Nat.le_of_ble_eq_true rfl⟩) 0 5 rfl rfl rfl hl.1 rfl (Nat.le_of_ble_eq_true rfl) dX5_fence_28 ⟨Nat.zero_le _, Nat.zero_le _⟩ (fun H locs hP hD hS => ?_)
          refine lv_if_ne (tgt := 38) hx hb dX5_fence_31 (by decide) (fun c_31 => ?_) (fun c_31 => ?_)
          · skip
            refine lv_iload hx hb dX5_fence_38 (lv_at hl 0 rfl) ?_
            refine lv_if_ne (tgt := 47) hx hb dX5_fence_40 (by decide) (fun c_40 => absurd (by decide) c_40) (fun c_40 => ?_)
            refine lv_iconst (v := 2) hx hb dX5_fence_43 (by decide) ?_
            refine lv_goto (tgt := 48) hx hb dX5_fence_44 (by decide) ?_
            refine va_put (D := D) (ci := 5) (v := .int 2) (ty := .int) (C := RX5) (T := TX5) (N := 25) hx hb hts hin_X5 tyX5 tyX5_ok nmX5 hown hK hP hD hS 0 rfl rfl 0 (by decide) hf50 (fun _ h9 => h9) rfl (by decide +kernel) rfl rfl (Nat.le_of_ble_eq_true rfl) dX5_fence_48 (fun H locs hP hD hS => ?_)
            have hP : va_P D vwCl (wM cI a (vU v 0 2) r) H := hP
            have hD : va_D A (wM cI a (vU v 0 2) r) := hD
            refine lv_aload_n hx hb dX5_fence_51 rfl (lv_at hl 1 rfl) ?_
            refine va_get (D := D) (ci := 5) (v := .int 2) (C := RX5) (T := TX5) (N := 25) hx hb hts hin_X5 hown hK hP 0 rfl rfl 0 (by decide) hf50 (fun _ h9 => h9) rfl dX5_fence_52 ?_
            refine lv_if_le (tgt := 60) hx hb dX5_fence_55 (by decide) (fun c_55 => absurd c_55 (by decide)) (fun c_55 => ?_)
            refine lv_iconst (v := 0) hx hb dX5_fence_58 (by decide) ?_
            have hth : thE v r x y z = 2 := by rw [thE, if_neg (fun h => h (bI_nz.mp c_31)), if_pos (Or.inr (Or.inr (Or.inr c_15)))]
            exact k_iret C0 ((vU v 0 2), r) hP hD hS (by rw [spFe, hth, if_neg (by decide)] <;> rfl) dX5_fence_59
          · skip
            refine lv_iconst (v := 1) hx hb dX5_fence_34 (by decide) ?_
            refine lv_goto (tgt := 48) hx hb dX5_fence_35 (by decide) ?_
            refine va_put (D := D) (ci := 5) (v := .int 1) (ty := .int) (C := RX5) (T := TX5) (N := 25) hx hb hts hin_X5 tyX5 tyX5_ok nmX5 hown hK hP hD hS 0 rfl rfl 0 (by decide) hf50 (fun _ h9 => h9) rfl (by decide +kernel) rfl rfl (Nat.le_of_ble_eq_true rfl) dX5_fence_48 (fun H locs hP hD hS => ?_)
            have hP : va_P D vwCl (wM cI a (vU v 0 1) r) H := hP
            have hD : va_D A (wM cI a (vU v 0 1) r) := hD
            refine lv_aload_n hx hb dX5_fence_51 rfl (lv_at hl 1 rfl) ?_
            refine va_get (D := D) (ci := 5) (v := .int 1) (C := RX5) (T := TX5) (N := 25) hx hb hts hin_X5 hown hK hP 0 rfl rfl 0 (by decide) hf50 (fun _ h9 => h9) rfl dX5_fence_52 ?_
            refine lv_if_le (tgt := 60) hx hb dX5_fence_55 (by decide) (fun c_55 => absurd c_55 (by decide)) (fun c_55 => ?_)
            refine lv_iconst (v := 0) hx hb dX5_fence_58 (by decide) ?_
            have hth : thE v r x y z = 1 := by rw [thE, if_pos (bI_z.mp c_31)]
            exact k_iret C0 ((vU v 0 1), r) hP hD hS (by rw [spFe, hth, if_neg (by decide)] <;> rfl) dX5_fence_59
        · skip
          refine lv_iconst (v := 1) hx hb dX5_fence_18 (by decide) ?_
          refine lv_goto (tgt := 23) hx hb dX5_fence_19 (by decide) ?_
          refine lv_istore (lv' := [(4, .int 1), (0, .ref (a 0)), (1, .int x), (2, .int y), (3, .int z)]) hx hb dX5_fence_23 hl (by decide) rfl (fun ls hl => ?_)
          refine lv_aload_n hx hb dX5_fence_25 rfl (lv_at hl 1 rfl) ?_
          refine lv_aload_n hx hb dX5_fence_26 rfl (lv_at hl 1 rfl) ?_
          refine lv_iload_n hx hb dX5_fence_27 rfl (lv_at hl 3 rfl) ?_
          refine kcD (ans := (bI (0 ≤ y ∧ y < v 1))) C0 hP hD hS (c_X5_isList l D cI a v r y ) (cwV 1 hts gX5_fence_X5_isList rfl rfl rfl (by decide +kernel) ⟨Nat.le_of_ble_eq_true rfl, Nat.le_of_ble_eq_true rfl⟩) 0 5 rfl rfl rfl hl.1 rfl (Nat.le_of_ble_eq_true rfl) dX5_fence_28 ⟨Nat.zero_le _, Nat.zero_le _⟩ (fun H locs hP hD hS => ?_)
          refine lv_if_ne (tgt := 38) hx hb dX5_fence_31 (by decide) (fun c_31 => ?_) (fun c_31 => ?_)
          · skip
            refine lv_iload hx hb dX5_fence_38 (lv_at hl 0 rfl) ?_
            refine lv_if_ne (tgt := 47) hx hb dX5_fence_40 (by decide) (fun c_40 => ?_) (fun c_40 => absurd c_40 (by decide))
            refine lv_iconst (v := 0) hx hb dX5_fence_47 (by decide) ?_
            refine va_put (D := D) (ci := 5) (v := .int 0) (ty := .int) (C := RX5) (T := TX5) (N := 25) hx hb hts hin_X5 tyX5 tyX5_ok nmX5 hown hK hP hD hS 0 rfl rfl 0 (by decide) hf50 (fun _ h9 => h9) rfl (by decide +kernel) rfl rfl (Nat.le_of_ble_eq_true rfl) dX5_fence_48 (fun H locs hP hD hS => ?_)
            have hP : va_P D vwCl (wM cI a (vU v 0 0) r) H := hP
            have hD : va_D A (wM cI a (vU v 0 0) r) := hD
            refine lv_aload_n hx hb dX5_fence_51 rfl (lv_at hl 1 rfl) ?_
            refine va_get (D := D) (ci := 5) (v := .int 0) (C := RX5) (T := TX5) (N := 25) hx hb hts hin_X5 hown hK hP 0 rfl rfl 0 (by decide) hf50 (fun _ h9 => h9) rfl dX5_fence_52 ?_
            refine lv_if_le (tgt := 60) hx hb dX5_fence_55 (by decide) (fun c_55 => ?_) (fun c_55 => absurd (by decide) c_55)
            obtain ⟨hy0, hyN⟩ := bI_nz.mp c_31
            have hyi := ix_of (Int32.not_lt.mpr hy0) hyN hL hL1 (by decide)
            refine lv_aload_n hx hb dX5_fence_60 rfl (lv_at hl 1 rfl) ?_
            refine lv_aload_n hx hb dX5_fence_61 rfl (lv_at hl 1 rfl) ?_
            refine lv_iload_n hx hb dX5_fence_62 rfl (lv_at hl 3 rfl) ?_
            refine lv_eqi hyi.1 ?_
            refine kcD (ans := (bI ((0 < nI y.toNatClampNeg ∧ r 1 y.toNatClampNeg = -1) ∧ ¬ wiF (r 1) (r 2) (nI y.toNatClampNeg) 30 (nI o1) = true))) C0 hP hD hS (c_X5_mayTake l D cI a (vU v 0 0) r y.toNatClampNeg o1 dp hyi.2 hO ho1 hd30 hdp) (cwV 1 hts gX5_fence_X5_mayTake rfl rfl rfl (by decide +kernel) ⟨Nat.le_of_ble_eq_true rfl, Nat.le_of_ble_eq_true rfl⟩) 0 5 rfl rfl rfl hl.1 rfl (Nat.le_of_ble_eq_true rfl) dX5_fence_63 ⟨Nat.zero_le _, Nat.zero_le _⟩ (fun H locs hP hD hS => ?_)
            refine lv_if_ne (tgt := 73) hx hb dX5_fence_66 (by decide) (fun c_66 => ?_) (fun c_66 => ?_)
            · skip
              refine lv_aload_n hx hb dX5_fence_73 rfl (lv_at hl 1 rfl) ?_
              refine va_get (D := D) (ci := 5) (v := .int (v 4)) (C := RX5) (T := TX5) (N := 25) hx hb hts hin_X5 hown hK hP 0 rfl rfl 4 (by decide) hf53 (fun _ h9 => h9) rfl dX5_fence_74 ?_
              refine lv_bipush (v := 120) hx hb dX5_fence_77 (by decide) ?_
              refine lv_icmp_ne (tgt := 86) hx hb dX5_fence_79 (by decide) (fun c_79 => ?_) (fun c_79 => ?_)
              · skip
                refine lv_iconst (v := 0) hx hb dX5_fence_86 (by decide) ?_
                refine va_put (D := D) (ci := 5) (v := .int 0) (ty := .int) (C := RX5) (T := TX5) (N := 25) hx hb hts hin_X5 tyX5 tyX5_ok nmX5 hown hK hP hD hS 0 rfl rfl 0 (by decide) hf50 (fun _ h9 => h9) rfl (by decide +kernel) rfl rfl (Nat.le_of_ble_eq_true rfl) dX5_fence_87 (fun H locs hP hD hS => ?_)
                have hP : va_P D vwCl (wM cI a (vU v 0 0) r) H := hP
                have hD : va_D A (wM cI a (vU v 0 0) r) := hD
                refine lv_aload_n hx hb dX5_fence_90 rfl (lv_at hl 1 rfl) ?_
                refine va_get (D := D) (ci := 5) (v := .int 0) (C := RX5) (T := TX5) (N := 25) hx hb hts hin_X5 hown hK hP 0 rfl rfl 0 (by decide) hf50 (fun _ h9 => h9) rfl dX5_fence_91 ?_
                refine lv_if_le (tgt := 99) hx hb dX5_fence_94 (by decide) (fun c_94 => ?_) (fun c_94 => absurd (by decide) c_94)
                refine lv_iload_n hx hb dX5_fence_99 rfl (lv_at hl 2 rfl) ?_
                refine lv_iload_n hx hb dX5_fence_100 rfl (lv_at hl 4 rfl) ?_
                refine lv_icmp_ne (tgt := 116) hx hb dX5_fence_101 (by decide) (fun c_101 => ?_) (fun c_101 => ?_)
                · skip
                  refine lv_iload_n hx hb dX5_fence_116 rfl (lv_at hl 2 rfl) ?_
                  refine lv_if_eq (tgt := 124) hx hb dX5_fence_117 (by decide) (fun c_117 => ?_) (fun c_117 => ?_)
                  · skip
                    refine lv_iconst (v := 1) hx hb dX5_fence_124 (by decide) ?_
                    refine lv_goto (tgt := 129) hx hb dX5_fence_125 (by decide) ?_
                    refine lv_istore (lv' := [(5, .int 1), (4, .int 1), (0, .ref (a 0)), (1, .int x), (2, .int y), (3, .int z)]) hx hb dX5_fence_129 hl (by decide) rfl (fun ls hl => ?_)
                    refine lv_iload hx hb dX5_fence_131 (lv_at hl 0 rfl) ?_
                    refine lv_if_ne (tgt := 138) hx hb dX5_fence_133 (by decide) (fun c_133 => ?_) (fun c_133 => absurd c_133 (by decide))
                    have hNlt : N < 120 := by rcases Nat.lt_or_ge N 120 with q | q; exact q; exact absurd (show v 4 = 120 by rw [hN, show N = 120 by omega]; rfl) c_79
                    refine lv_aload_n hx hb dX5_fence_138 rfl (lv_at hl 2 rfl) ?_
                    refine lv_iconst (v := 2) hx hb dX5_fence_139 (by decide) ?_
                    refine lv_bipush (v := 7) hx hb dX5_fence_140 (by decide) ?_
                    refine lv_iload_n hx hb dX5_fence_142 rfl (lv_at hl 3 rfl) ?_
                    refine lv_iload_n hx hb dX5_fence_143 rfl (lv_at hl 4 rfl) ?_
                    refine lv_iload_n hx hb dX5_fence_144 rfl (lv_at hl 5 rfl) ?_
                    refine kcD (ans := (v 4)) C0 hP hD hS (c_X5_add l D cI a (vU v 0 0) r 2 7 x y z N hN hNlt) (cwV 5 hts gX5_fence_X5_add rfl rfl rfl (by decide +kernel) ⟨Nat.le_of_ble_eq_true rfl, Nat.le_of_ble_eq_true rfl⟩) 0 5 rfl rfl rfl hl.1 rfl (Nat.le_of_ble_eq_true rfl) dX5_fence_145 ⟨Nat.zero_le _, Nat.zero_le _⟩ (fun H locs hP hD hS => ?_)
                    have hP : va_P D vwCl (wM cI a (vU (vU v 0 0) 4 ((v 4) + 1)) (rU (rU (rU (rU (rU (rU (rU (rU r 2 (upd (r 2) N (v 2))) 3 (upd (r 3) N 2)) 4 (upd (r 4) N 7)) 5 (upd (r 5) N x)) 6 (upd (r 6) N y)) 7 (upd (r 7) N z)) 8 (upd (r 8) N (-1))) 9 (upd (r 9) N (-1)))) H := hP
                    have hD : va_D A (wM cI a (vU (vU v 0 0) 4 ((v 4) + 1)) (rU (rU (rU (rU (rU (rU (rU (rU r 2 (upd (r 2) N (v 2))) 3 (upd (r 3) N 2)) 4 (upd (r 4) N 7)) 5 (upd (r 5) N x)) 6 (upd (r 6) N y)) 7 (upd (r 7) N z)) 8 (upd (r 8) N (-1))) 9 (upd (r 9) N (-1)))) := hD
                    refine lv_istore (lv' := [(6, .int (v 4)), (5, .int 1), (4, .int 1), (0, .ref (a 0)), (1, .int x), (2, .int y), (3, .int z)]) hx hb dX5_fence_148 hl (by decide) rfl (fun ls hl => ?_)
                    refine lv_aload_n hx hb dX5_fence_150 rfl (lv_at hl 3 rfl) ?_
                    refine va_get (D := D) (ci := 5) (v := .ref (a 1)) (C := RX5) (T := TX5) (N := 25) hx hb hts hin_X5 hown hK hP 0 rfl rfl 3 (by decide) hf13 (fun _ h9 => h9) rfl dX5_fence_151 ?_
                    refine lv_iload_n hx hb dX5_fence_154 rfl (lv_at hl 5 rfl) ?_
                    refine lv_iload hx hb dX5_fence_155 (lv_at hl 0 rfl) ?_
                    refine ra_st (f := (r 1)) C0 hP hD hS 1 rfl y.toNatClampNeg hyi.1 hyi.2 (by decide) dX5_fence_157 (fun H locs hP hD hS => ?_)
                    have hset : ∀ (y0_ y4_ : Int32) (f2_ f3_ f4_ f5_ f6_ f7_ f8_ f9_ : Nat → Int32) (g_ : Nat → Int32), (wM cI a (vU (vU v 0 y0_) 4 y4_) (rU (rU (rU (rU (rU (rU (rU (rU r 2 f2_) 3 f3_) 4 f4_) 5 f5_) 6 f6_) 7 f7_) 8 f8_) 9 f9_)).set 1 (a 1, .inl (cI, 30, .inl g_)) = (wM cI a (vU (vU v 0 y0_) 4 y4_) (rU (rU (rU (rU (rU (rU (rU (rU (rU r 1 g_) 2 f2_) 3 f3_) 4 f4_) 5 f5_) 6 f6_) 7 f7_) 8 f8_) 9 f9_)) := fun _ _ _ _ _ _ _ _ _ _ _ => rfl
                    rw [hset] at hP hD
                    refine lv_iload hx hb dX5_fence_158 (lv_at hl 0 rfl) ?_
                    refine lv_iconst (v := 1) hx hb dX5_fence_160 (by decide) ?_
                    refine lv_iadd hx hb dX5_fence_161 ?_
                    have hth : thE v r x y z = 0 := by rw [thE, if_neg (fun h => h (bI_nz.mp c_31)), if_neg (fun q => q.elim c_1 (fun q => q.elim c_6 (fun q => q.elim c_10 c_15))), if_neg (fun h => h (by rw [hO]; exact bI_nz.mp c_66)), if_neg c_79]
                    exact k_iret C0 ((vU (vU v 0 0) 4 ((v 4) + 1)), (rU (rU (rU (rU (rU (rU (rU (rU (rU r 1 (upd (r 1) y.toNatClampNeg (v 4))) 2 (upd (r 2) N (v 2))) 3 (upd (r 3) N 2)) 4 (upd (r 4) N 7)) 5 (upd (r 5) N x)) 6 (upd (r 6) N y)) 7 (upd (r 7) N z)) 8 (upd (r 8) N (-1))) 9 (upd (r 9) N (-1)))) hP hD hS (by rw [spFe, hth, if_pos rfl, if_pos (Or.inr ⟨c_101, Or.inl c_117⟩)] <;> rfl) dX5_fence_162
                  · skip
                    refine lv_iload_n hx hb dX5_fence_120 rfl (lv_at hl 4 rfl) ?_
                    refine lv_if_ne (tgt := 128) hx hb dX5_fence_121 (by decide) (fun c_121 => ?_) (fun c_121 => ?_)
                    · skip
                      refine lv_iconst (v := 0) hx hb dX5_fence_128 (by decide) ?_
                      refine lv_istore (lv' := [(5, .int 0), (4, .int 1), (0, .ref (a 0)), (1, .int x), (2, .int y), (3, .int z)]) hx hb dX5_fence_129 hl (by decide) rfl (fun ls hl => ?_)
                      refine lv_iload hx hb dX5_fence_131 (lv_at hl 0 rfl) ?_
                      refine lv_if_ne (tgt := 138) hx hb dX5_fence_133 (by decide) (fun c_133 => absurd (by decide) c_133) (fun c_133 => ?_)
                      refine lv_iconst (v := 0) hx hb dX5_fence_136 (by decide) ?_
                      have hth : thE v r x y z = 0 := by rw [thE, if_neg (fun h => h (bI_nz.mp c_31)), if_neg (fun q => q.elim c_1 (fun q => q.elim c_6 (fun q => q.elim c_10 c_15))), if_neg (fun h => h (by rw [hO]; exact bI_nz.mp c_66)), if_neg c_79]
                      exact k_iret C0 ((vU v 0 0), r) hP hD hS (by rw [spFe, hth, if_pos rfl, if_neg (fun q => q.elim (fun h => c_101 h.1) (fun h => h.2.elim c_117 c_121))] <;> rfl) dX5_fence_137
                    · skip
                      refine lv_iconst (v := 1) hx hb dX5_fence_124 (by decide) ?_
                      refine lv_goto (tgt := 129) hx hb dX5_fence_125 (by decide) ?_
                      refine lv_istore (lv' := [(5, .int 1), (4, .int 1), (0, .ref (a 0)), (1, .int x), (2, .int y), (3, .int z)]) hx hb dX5_fence_129 hl (by decide) rfl (fun ls hl => ?_)
                      refine lv_iload hx hb dX5_fence_131 (lv_at hl 0 rfl) ?_
                      refine lv_if_ne (tgt := 138) hx hb dX5_fence_133 (by decide) (fun c_133 => ?_) (fun c_133 => absurd c_133 (by decide))
                      have hNlt : N < 120 := by rcases Nat.lt_or_ge N 120 with q | q; exact q; exact absurd (show v 4 = 120 by rw [hN, show N = 120 by omega]; rfl) c_79
                      refine lv_aload_n hx hb dX5_fence_138 rfl (lv_at hl 2 rfl) ?_
                      refine lv_iconst (v := 2) hx hb dX5_fence_139 (by decide) ?_
                      refine lv_bipush (v := 7) hx hb dX5_fence_140 (by decide) ?_
                      refine lv_iload_n hx hb dX5_fence_142 rfl (lv_at hl 3 rfl) ?_
                      refine lv_iload_n hx hb dX5_fence_143 rfl (lv_at hl 4 rfl) ?_
                      refine lv_iload_n hx hb dX5_fence_144 rfl (lv_at hl 5 rfl) ?_
                      refine kcD (ans := (v 4)) C0 hP hD hS (c_X5_add l D cI a (vU v 0 0) r 2 7 x y z N hN hNlt) (cwV 5 hts gX5_fence_X5_add rfl rfl rfl (by decide +kernel) ⟨Nat.le_of_ble_eq_true rfl, Nat.le_of_ble_eq_true rfl⟩) 0 5 rfl rfl rfl hl.1 rfl (Nat.le_of_ble_eq_true rfl) dX5_fence_145 ⟨Nat.zero_le _, Nat.zero_le _⟩ (fun H locs hP hD hS => ?_)
                      have hP : va_P D vwCl (wM cI a (vU (vU v 0 0) 4 ((v 4) + 1)) (rU (rU (rU (rU (rU (rU (rU (rU r 2 (upd (r 2) N (v 2))) 3 (upd (r 3) N 2)) 4 (upd (r 4) N 7)) 5 (upd (r 5) N x)) 6 (upd (r 6) N y)) 7 (upd (r 7) N z)) 8 (upd (r 8) N (-1))) 9 (upd (r 9) N (-1)))) H := hP
                      have hD : va_D A (wM cI a (vU (vU v 0 0) 4 ((v 4) + 1)) (rU (rU (rU (rU (rU (rU (rU (rU r 2 (upd (r 2) N (v 2))) 3 (upd (r 3) N 2)) 4 (upd (r 4) N 7)) 5 (upd (r 5) N x)) 6 (upd (r 6) N y)) 7 (upd (r 7) N z)) 8 (upd (r 8) N (-1))) 9 (upd (r 9) N (-1)))) := hD
                      refine lv_istore (lv' := [(6, .int (v 4)), (5, .int 1), (4, .int 1), (0, .ref (a 0)), (1, .int x), (2, .int y), (3, .int z)]) hx hb dX5_fence_148 hl (by decide) rfl (fun ls hl => ?_)
                      refine lv_aload_n hx hb dX5_fence_150 rfl (lv_at hl 3 rfl) ?_
                      refine va_get (D := D) (ci := 5) (v := .ref (a 1)) (C := RX5) (T := TX5) (N := 25) hx hb hts hin_X5 hown hK hP 0 rfl rfl 3 (by decide) hf13 (fun _ h9 => h9) rfl dX5_fence_151 ?_
                      refine lv_iload_n hx hb dX5_fence_154 rfl (lv_at hl 5 rfl) ?_
                      refine lv_iload hx hb dX5_fence_155 (lv_at hl 0 rfl) ?_
                      refine ra_st (f := (r 1)) C0 hP hD hS 1 rfl y.toNatClampNeg hyi.1 hyi.2 (by decide) dX5_fence_157 (fun H locs hP hD hS => ?_)
                      have hset : ∀ (y0_ y4_ : Int32) (f2_ f3_ f4_ f5_ f6_ f7_ f8_ f9_ : Nat → Int32) (g_ : Nat → Int32), (wM cI a (vU (vU v 0 y0_) 4 y4_) (rU (rU (rU (rU (rU (rU (rU (rU r 2 f2_) 3 f3_) 4 f4_) 5 f5_) 6 f6_) 7 f7_) 8 f8_) 9 f9_)).set 1 (a 1, .inl (cI, 30, .inl g_)) = (wM cI a (vU (vU v 0 y0_) 4 y4_) (rU (rU (rU (rU (rU (rU (rU (rU (rU r 1 g_) 2 f2_) 3 f3_) 4 f4_) 5 f5_) 6 f6_) 7 f7_) 8 f8_) 9 f9_)) := fun _ _ _ _ _ _ _ _ _ _ _ => rfl
                      rw [hset] at hP hD
                      refine lv_iload hx hb dX5_fence_158 (lv_at hl 0 rfl) ?_
                      refine lv_iconst (v := 1) hx hb dX5_fence_160 (by decide) ?_
                      refine lv_iadd hx hb dX5_fence_161 ?_
                      have hth : thE v r x y z = 0 := by rw [thE, if_neg (fun h => h (bI_nz.mp c_31)), if_neg (fun q => q.elim c_1 (fun q => q.elim c_6 (fun q => q.elim c_10 c_15))), if_neg (fun h => h (by rw [hO]; exact bI_nz.mp c_66)), if_neg c_79]
                      exact k_iret C0 ((vU (vU v 0 0) 4 ((v 4) + 1)), (rU (rU (rU (rU (rU (rU (rU (rU (rU r 1 (upd (r 1) y.toNatClampNeg (v 4))) 2 (upd (r 2) N (v 2))) 3 (upd (r 3) N 2)) 4 (upd (r 4) N 7)) 5 (upd (r 5) N x)) 6 (upd (r 6) N y)) 7 (upd (r 7) N z)) 8 (upd (r 8) N (-1))) 9 (upd (r 9) N (-1)))) hP hD hS (by rw [spFe, hth, if_pos rfl, if_pos (Or.inr ⟨c_101, Or.inr c_121⟩)] <;> rfl) dX5_fence_162
                · skip
                  refine lv_iload_n hx hb dX5_fence_104 rfl (lv_at hl 2 rfl) ?_
                  refine lv_if_eq (tgt := 112) hx hb dX5_fence_105 (by decide) (fun c_105 => ?_) (fun c_105 => ?_)
                  · skip
                    refine lv_iconst (v := 0) hx hb dX5_fence_112 (by decide) ?_
                    refine lv_goto (tgt := 129) hx hb dX5_fence_113 (by decide) ?_
                    refine lv_istore (lv' := [(5, .int 0), (4, .int 1), (0, .ref (a 0)), (1, .int x), (2, .int y), (3, .int z)]) hx hb dX5_fence_129 hl (by decide) rfl (fun ls hl => ?_)
                    refine lv_iload hx hb dX5_fence_131 (lv_at hl 0 rfl) ?_
                    refine lv_if_ne (tgt := 138) hx hb dX5_fence_133 (by decide) (fun c_133 => absurd (by decide) c_133) (fun c_133 => ?_)
                    refine lv_iconst (v := 0) hx hb dX5_fence_136 (by decide) ?_
                    have hth : thE v r x y z = 0 := by rw [thE, if_neg (fun h => h (bI_nz.mp c_31)), if_neg (fun q => q.elim c_1 (fun q => q.elim c_6 (fun q => q.elim c_10 c_15))), if_neg (fun h => h (by rw [hO]; exact bI_nz.mp c_66)), if_neg c_79]
                    exact k_iret C0 ((vU v 0 0), r) hP hD hS (by rw [spFe, hth, if_pos rfl, if_neg (fun q => q.elim (fun h => h.2 c_105) (fun h => h.1 c_101))] <;> rfl) dX5_fence_137
                  · skip
                    refine lv_iconst (v := 1) hx hb dX5_fence_108 (by decide) ?_
                    refine lv_goto (tgt := 129) hx hb dX5_fence_109 (by decide) ?_
                    refine lv_istore (lv' := [(5, .int 1), (4, .int 1), (0, .ref (a 0)), (1, .int x), (2, .int y), (3, .int z)]) hx hb dX5_fence_129 hl (by decide) rfl (fun ls hl => ?_)
                    refine lv_iload hx hb dX5_fence_131 (lv_at hl 0 rfl) ?_
                    refine lv_if_ne (tgt := 138) hx hb dX5_fence_133 (by decide) (fun c_133 => ?_) (fun c_133 => absurd c_133 (by decide))
                    have hNlt : N < 120 := by rcases Nat.lt_or_ge N 120 with q | q; exact q; exact absurd (show v 4 = 120 by rw [hN, show N = 120 by omega]; rfl) c_79
                    refine lv_aload_n hx hb dX5_fence_138 rfl (lv_at hl 2 rfl) ?_
                    refine lv_iconst (v := 2) hx hb dX5_fence_139 (by decide) ?_
                    refine lv_bipush (v := 7) hx hb dX5_fence_140 (by decide) ?_
                    refine lv_iload_n hx hb dX5_fence_142 rfl (lv_at hl 3 rfl) ?_
                    refine lv_iload_n hx hb dX5_fence_143 rfl (lv_at hl 4 rfl) ?_
                    refine lv_iload_n hx hb dX5_fence_144 rfl (lv_at hl 5 rfl) ?_
                    refine kcD (ans := (v 4)) C0 hP hD hS (c_X5_add l D cI a (vU v 0 0) r 2 7 x y z N hN hNlt) (cwV 5 hts gX5_fence_X5_add rfl rfl rfl (by decide +kernel) ⟨Nat.le_of_ble_eq_true rfl, Nat.le_of_ble_eq_true rfl⟩) 0 5 rfl rfl rfl hl.1 rfl (Nat.le_of_ble_eq_true rfl) dX5_fence_145 ⟨Nat.zero_le _, Nat.zero_le _⟩ (fun H locs hP hD hS => ?_)
                    have hP : va_P D vwCl (wM cI a (vU (vU v 0 0) 4 ((v 4) + 1)) (rU (rU (rU (rU (rU (rU (rU (rU r 2 (upd (r 2) N (v 2))) 3 (upd (r 3) N 2)) 4 (upd (r 4) N 7)) 5 (upd (r 5) N x)) 6 (upd (r 6) N y)) 7 (upd (r 7) N z)) 8 (upd (r 8) N (-1))) 9 (upd (r 9) N (-1)))) H := hP
                    have hD : va_D A (wM cI a (vU (vU v 0 0) 4 ((v 4) + 1)) (rU (rU (rU (rU (rU (rU (rU (rU r 2 (upd (r 2) N (v 2))) 3 (upd (r 3) N 2)) 4 (upd (r 4) N 7)) 5 (upd (r 5) N x)) 6 (upd (r 6) N y)) 7 (upd (r 7) N z)) 8 (upd (r 8) N (-1))) 9 (upd (r 9) N (-1)))) := hD
                    refine lv_istore (lv' := [(6, .int (v 4)), (5, .int 1), (4, .int 1), (0, .ref (a 0)), (1, .int x), (2, .int y), (3, .int z)]) hx hb dX5_fence_148 hl (by decide) rfl (fun ls hl => ?_)
                    refine lv_aload_n hx hb dX5_fence_150 rfl (lv_at hl 3 rfl) ?_
                    refine va_get (D := D) (ci := 5) (v := .ref (a 1)) (C := RX5) (T := TX5) (N := 25) hx hb hts hin_X5 hown hK hP 0 rfl rfl 3 (by decide) hf13 (fun _ h9 => h9) rfl dX5_fence_151 ?_
                    refine lv_iload_n hx hb dX5_fence_154 rfl (lv_at hl 5 rfl) ?_
                    refine lv_iload hx hb dX5_fence_155 (lv_at hl 0 rfl) ?_
                    refine ra_st (f := (r 1)) C0 hP hD hS 1 rfl y.toNatClampNeg hyi.1 hyi.2 (by decide) dX5_fence_157 (fun H locs hP hD hS => ?_)
                    have hset : ∀ (y0_ y4_ : Int32) (f2_ f3_ f4_ f5_ f6_ f7_ f8_ f9_ : Nat → Int32) (g_ : Nat → Int32), (wM cI a (vU (vU v 0 y0_) 4 y4_) (rU (rU (rU (rU (rU (rU (rU (rU r 2 f2_) 3 f3_) 4 f4_) 5 f5_) 6 f6_) 7 f7_) 8 f8_) 9 f9_)).set 1 (a 1, .inl (cI, 30, .inl g_)) = (wM cI a (vU (vU v 0 y0_) 4 y4_) (rU (rU (rU (rU (rU (rU (rU (rU (rU r 1 g_) 2 f2_) 3 f3_) 4 f4_) 5 f5_) 6 f6_) 7 f7_) 8 f8_) 9 f9_)) := fun _ _ _ _ _ _ _ _ _ _ _ => rfl
                    rw [hset] at hP hD
                    refine lv_iload hx hb dX5_fence_158 (lv_at hl 0 rfl) ?_
                    refine lv_iconst (v := 1) hx hb dX5_fence_160 (by decide) ?_
                    refine lv_iadd hx hb dX5_fence_161 ?_
                    have hth : thE v r x y z = 0 := by rw [thE, if_neg (fun h => h (bI_nz.mp c_31)), if_neg (fun q => q.elim c_1 (fun q => q.elim c_6 (fun q => q.elim c_10 c_15))), if_neg (fun h => h (by rw [hO]; exact bI_nz.mp c_66)), if_neg c_79]
                    exact k_iret C0 ((vU (vU v 0 0) 4 ((v 4) + 1)), (rU (rU (rU (rU (rU (rU (rU (rU (rU r 1 (upd (r 1) y.toNatClampNeg (v 4))) 2 (upd (r 2) N (v 2))) 3 (upd (r 3) N 2)) 4 (upd (r 4) N 7)) 5 (upd (r 5) N x)) 6 (upd (r 6) N y)) 7 (upd (r 7) N z)) 8 (upd (r 8) N (-1))) 9 (upd (r 9) N (-1)))) hP hD hS (by rw [spFe, hth, if_pos rfl, if_pos (Or.inl ⟨c_101, c_105⟩)] <;> rfl) dX5_fence_162
              · skip
                refine lv_iconst (v := 4) hx hb dX5_fence_82 (by decide) ?_
                refine lv_goto (tgt := 87) hx hb dX5_fence_83 (by decide) ?_
                refine va_put (D := D) (ci := 5) (v := .int 4) (ty := .int) (C := RX5) (T := TX5) (N := 25) hx hb hts hin_X5 tyX5 tyX5_ok nmX5 hown hK hP hD hS 0 rfl rfl 0 (by decide) hf50 (fun _ h9 => h9) rfl (by decide +kernel) rfl rfl (Nat.le_of_ble_eq_true rfl) dX5_fence_87 (fun H locs hP hD hS => ?_)
                have hP : va_P D vwCl (wM cI a (vU v 0 4) r) H := hP
                have hD : va_D A (wM cI a (vU v 0 4) r) := hD
                refine lv_aload_n hx hb dX5_fence_90 rfl (lv_at hl 1 rfl) ?_
                refine va_get (D := D) (ci := 5) (v := .int 4) (C := RX5) (T := TX5) (N := 25) hx hb hts hin_X5 hown hK hP 0 rfl rfl 0 (by decide) hf50 (fun _ h9 => h9) rfl dX5_fence_91 ?_
                refine lv_if_le (tgt := 99) hx hb dX5_fence_94 (by decide) (fun c_94 => absurd c_94 (by decide)) (fun c_94 => ?_)
                refine lv_iconst (v := 0) hx hb dX5_fence_97 (by decide) ?_
                have hth : thE v r x y z = 4 := by rw [thE, if_neg (fun h => h (bI_nz.mp c_31)), if_neg (fun q => q.elim c_1 (fun q => q.elim c_6 (fun q => q.elim c_10 c_15))), if_neg (fun h => h (by rw [hO]; exact bI_nz.mp c_66)), if_pos c_79]
                exact k_iret C0 ((vU v 0 4), r) hP hD hS (by rw [spFe, hth, if_neg (by decide)] <;> rfl) dX5_fence_98
            · skip
              refine lv_iconst (v := 3) hx hb dX5_fence_69 (by decide) ?_
              refine lv_goto (tgt := 87) hx hb dX5_fence_70 (by decide) ?_
              refine va_put (D := D) (ci := 5) (v := .int 3) (ty := .int) (C := RX5) (T := TX5) (N := 25) hx hb hts hin_X5 tyX5 tyX5_ok nmX5 hown hK hP hD hS 0 rfl rfl 0 (by decide) hf50 (fun _ h9 => h9) rfl (by decide +kernel) rfl rfl (Nat.le_of_ble_eq_true rfl) dX5_fence_87 (fun H locs hP hD hS => ?_)
              have hP : va_P D vwCl (wM cI a (vU v 0 3) r) H := hP
              have hD : va_D A (wM cI a (vU v 0 3) r) := hD
              refine lv_aload_n hx hb dX5_fence_90 rfl (lv_at hl 1 rfl) ?_
              refine va_get (D := D) (ci := 5) (v := .int 3) (C := RX5) (T := TX5) (N := 25) hx hb hts hin_X5 hown hK hP 0 rfl rfl 0 (by decide) hf50 (fun _ h9 => h9) rfl dX5_fence_91 ?_
              refine lv_if_le (tgt := 99) hx hb dX5_fence_94 (by decide) (fun c_94 => absurd c_94 (by decide)) (fun c_94 => ?_)
              refine lv_iconst (v := 0) hx hb dX5_fence_97 (by decide) ?_
              have hth : thE v r x y z = 3 := by rw [thE, if_neg (fun h => h (bI_nz.mp c_31)), if_neg (fun q => q.elim c_1 (fun q => q.elim c_6 (fun q => q.elim c_10 c_15))), if_pos (by rw [hO]; exact bI_z.mp c_66)]
              exact k_iret C0 ((vU v 0 3), r) hP hD hS (by rw [spFe, hth, if_neg (by decide)] <;> rfl) dX5_fence_98
          · skip
            refine lv_iconst (v := 1) hx hb dX5_fence_34 (by decide) ?_
            refine lv_goto (tgt := 48) hx hb dX5_fence_35 (by decide) ?_
            refine va_put (D := D) (ci := 5) (v := .int 1) (ty := .int) (C := RX5) (T := TX5) (N := 25) hx hb hts hin_X5 tyX5 tyX5_ok nmX5 hown hK hP hD hS 0 rfl rfl 0 (by decide) hf50 (fun _ h9 => h9) rfl (by decide +kernel) rfl rfl (Nat.le_of_ble_eq_true rfl) dX5_fence_48 (fun H locs hP hD hS => ?_)
            have hP : va_P D vwCl (wM cI a (vU v 0 1) r) H := hP
            have hD : va_D A (wM cI a (vU v 0 1) r) := hD
            refine lv_aload_n hx hb dX5_fence_51 rfl (lv_at hl 1 rfl) ?_
            refine va_get (D := D) (ci := 5) (v := .int 1) (C := RX5) (T := TX5) (N := 25) hx hb hts hin_X5 hown hK hP 0 rfl rfl 0 (by decide) hf50 (fun _ h9 => h9) rfl dX5_fence_52 ?_
            refine lv_if_le (tgt := 60) hx hb dX5_fence_55 (by decide) (fun c_55 => absurd c_55 (by decide)) (fun c_55 => ?_)
            refine lv_iconst (v := 0) hx hb dX5_fence_58 (by decide) ?_
            have hth : thE v r x y z = 1 := by rw [thE, if_pos (bI_z.mp c_31)]
            exact k_iret C0 ((vU v 0 1), r) hP hD hS (by rw [spFe, hth, if_neg (by decide)] <;> rfl) dX5_fence_59
