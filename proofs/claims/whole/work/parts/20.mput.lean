set_option maxHeartbeats 1500000 in
set_option maxRecDepth 100000 in
theorem c_X5_put (l : Launch) (D : va_G) (cI : ClassId) (a : Nat → Nat) (v : Nat → Int32) (r : Nat → Nat → Int32) (x1 x2 x3 x4 x5 x6 x7 x8 : Int32) (c : Nat) (hc : v 14 = nI c) (hc1 : c < 500) : KDv l D cI yX5_put wsX5_put ({ frames := 0, cells := 0, slots := 0, locals := 0 }) [.ref (a 0), .int x1, .int x2, .int x3, .int x4, .int x5, .int x6, .int x7, .int x8] (wM cI a v r) (wM cI a (vU v 14 (nI (c + 1))) (rU r 11 (ptI (r 11) c [mkI x1 x2 x3 x4 x5 x6 x7 (bz x8)]))) := by
  refine KV.of (cc := cX5_put) (nL := 10) (ret := none) (by decide) rfl (Nat.le_of_ble_eq_true rfl) ?_
  intro pg9 en9 s m args below meth cd9 A ls C0 hP hD hS hl
  have hx := C0.1.1
  have hb := C0.1.2.1
  have hml := C0.1.2.2.1
  have hown : s.vm.findClass RX5 = some m.cls := C0.1.2.2.2.1
  have hts : ∀ w ∈ wsX5_put, w.before args s = true := C0.1.2.2.2.2
  have hK := C0.2.2.2.1
  have hin_X5 : ∀ w ∈ wsX50, w ∈ wsX5_put := fun w h => List.mem_cons_of_mem _ (List.mem_append_right _ h)
  have hf166 : (Cond.fieldLink RX5 166 "FormulaListsModel" "items" "I").before args s = true := hts _ (by decide +kernel)
  have hf44 : (Cond.fieldLink RX5 44 "FormulaListsModel" "item" "[I").before args s = true := hts _ (by decide +kernel)
  have hl : lv_has ls 10 [(0, .ref (a 0)), (1, .int x1), (2, .int x2), (3, .int x3), (4, .int x4), (5, .int x5), (6, .int x6), (7, .int x7), (8, .int x8)] := hl
  have hP : va_P D vwCl (wM cI a v r) s.heap := hP
  refine lv_bipush (v := 8) hx hb dX5_put_0 (by decide) ?_
  refine lv_aload_n hx hb dX5_put_2 rfl (lv_at hl 0 rfl) ?_
  refine va_get (D := D) (ci := 5) (v := .int (v 14)) (C := RX5) (T := TX5) (N := 25) hx hb hts hin_X5 hown hK hP 0 rfl rfl 14 (by decide) hf166 (fun _ h9 => h9) rfl dX5_put_3 ?_
  refine lv_eqi hc ?_
  refine lv_imul hx hb dX5_put_6 ?_
  refine lv_eqi (i_m8 c) ?_
  refine lv_istore (lv' := [(9, .int (nI (8 * c))), (0, .ref (a 0)), (1, .int x1), (2, .int x2), (3, .int x3), (4, .int x4), (5, .int x5), (6, .int x6), (7, .int x7), (8, .int x8)]) hx hb dX5_put_7 hl (by decide) rfl (fun ls hl => ?_)
  refine lv_aload_n hx hb dX5_put_9 rfl (lv_at hl 1 rfl) ?_
  refine va_get (D := D) (ci := 5) (v := .ref (a 11)) (C := RX5) (T := TX5) (N := 25) hx hb hts hin_X5 hown hK hP 0 rfl rfl 15 (by decide) hf44 (fun _ h9 => h9) rfl dX5_put_10 ?_
  refine lv_iload hx hb dX5_put_13 (lv_at hl 0 rfl) ?_
  refine lv_iload_n hx hb dX5_put_15 rfl (lv_at hl 2 rfl) ?_
  refine ra_st (f := (r 11)) C0 hP hD hS 11 rfl (8 * c) rfl (by omega) (by decide) dX5_put_16 (fun H locs hP hD hS => ?_)
  have hset : ∀ (g_ : Nat → Int32), (wM cI a v r).set 11 (a 11, .inl (cI, 4000, .inl g_)) = (wM cI a v (rU r 11 g_)) := fun _ => rfl
  rw [hset] at hP hD
  refine lv_aload_n hx hb dX5_put_17 rfl (lv_at hl 1 rfl) ?_
  refine va_get (D := D) (ci := 5) (v := .ref (a 11)) (C := RX5) (T := TX5) (N := 25) hx hb hts hin_X5 hown hK hP 0 rfl rfl 15 (by decide) hf44 (fun _ h9 => h9) rfl dX5_put_18 ?_
  refine lv_iload hx hb dX5_put_21 (lv_at hl 0 rfl) ?_
  refine lv_iconst (v := 1) hx hb dX5_put_23 (by decide) ?_
  refine lv_iadd hx hb dX5_put_24 ?_
  refine lv_iload_n hx hb dX5_put_25 rfl (lv_at hl 3 rfl) ?_
  refine ra_st (f := (upd (r 11) (8 * c) x1)) C0 hP hD hS 11 rfl (8 * c + 1) (i_p1 _) (by omega) (by decide) dX5_put_26 (fun H locs hP hD hS => ?_)
  have hset : ∀ (f11_ : Nat → Int32) (g_ : Nat → Int32), (wM cI a v (rU r 11 f11_)).set 11 (a 11, .inl (cI, 4000, .inl g_)) = (wM cI a v (rU r 11 g_)) := fun _ _ => rfl
  rw [hset] at hP hD
  refine lv_aload_n hx hb dX5_put_27 rfl (lv_at hl 1 rfl) ?_
  refine va_get (D := D) (ci := 5) (v := .ref (a 11)) (C := RX5) (T := TX5) (N := 25) hx hb hts hin_X5 hown hK hP 0 rfl rfl 15 (by decide) hf44 (fun _ h9 => h9) rfl dX5_put_28 ?_
  refine lv_iload hx hb dX5_put_31 (lv_at hl 0 rfl) ?_
  refine lv_iconst (v := 2) hx hb dX5_put_33 (by decide) ?_
  refine lv_iadd hx hb dX5_put_34 ?_
  refine lv_iload_n hx hb dX5_put_35 rfl (lv_at hl 4 rfl) ?_
  refine ra_st (f := (upd (upd (r 11) (8 * c) x1) (8 * c + 1) x2)) C0 hP hD hS 11 rfl (8 * c + 2) (i_p2 _) (by omega) (by decide) dX5_put_36 (fun H locs hP hD hS => ?_)
  have hset : ∀ (f11_ : Nat → Int32) (g_ : Nat → Int32), (wM cI a v (rU r 11 f11_)).set 11 (a 11, .inl (cI, 4000, .inl g_)) = (wM cI a v (rU r 11 g_)) := fun _ _ => rfl
  rw [hset] at hP hD
  refine lv_aload_n hx hb dX5_put_37 rfl (lv_at hl 1 rfl) ?_
  refine va_get (D := D) (ci := 5) (v := .ref (a 11)) (C := RX5) (T := TX5) (N := 25) hx hb hts hin_X5 hown hK hP 0 rfl rfl 15 (by decide) hf44 (fun _ h9 => h9) rfl dX5_put_38 ?_
  refine lv_iload hx hb dX5_put_41 (lv_at hl 0 rfl) ?_
  refine lv_iconst (v := 3) hx hb dX5_put_43 (by decide) ?_
  refine lv_iadd hx hb dX5_put_44 ?_
  refine lv_iload hx hb dX5_put_45 (lv_at hl 5 rfl) ?_
  refine ra_st (f := (upd (upd (upd (r 11) (8 * c) x1) (8 * c + 1) x2) (8 * c + 2) x3)) C0 hP hD hS 11 rfl (8 * c + 3) (i_p3 _) (by omega) (by decide) dX5_put_47 (fun H locs hP hD hS => ?_)
  have hset : ∀ (f11_ : Nat → Int32) (g_ : Nat → Int32), (wM cI a v (rU r 11 f11_)).set 11 (a 11, .inl (cI, 4000, .inl g_)) = (wM cI a v (rU r 11 g_)) := fun _ _ => rfl
  rw [hset] at hP hD
  refine lv_aload_n hx hb dX5_put_48 rfl (lv_at hl 1 rfl) ?_
  refine va_get (D := D) (ci := 5) (v := .ref (a 11)) (C := RX5) (T := TX5) (N := 25) hx hb hts hin_X5 hown hK hP 0 rfl rfl 15 (by decide) hf44 (fun _ h9 => h9) rfl dX5_put_49 ?_
  refine lv_iload hx hb dX5_put_52 (lv_at hl 0 rfl) ?_
  refine lv_iconst (v := 4) hx hb dX5_put_54 (by decide) ?_
  refine lv_iadd hx hb dX5_put_55 ?_
  refine lv_iload hx hb dX5_put_56 (lv_at hl 6 rfl) ?_
  refine ra_st (f := (upd (upd (upd (upd (r 11) (8 * c) x1) (8 * c + 1) x2) (8 * c + 2) x3) (8 * c + 3) x4)) C0 hP hD hS 11 rfl (8 * c + 4) (i_p4 _) (by omega) (by decide) dX5_put_58 (fun H locs hP hD hS => ?_)
  have hset : ∀ (f11_ : Nat → Int32) (g_ : Nat → Int32), (wM cI a v (rU r 11 f11_)).set 11 (a 11, .inl (cI, 4000, .inl g_)) = (wM cI a v (rU r 11 g_)) := fun _ _ => rfl
  rw [hset] at hP hD
  refine lv_aload_n hx hb dX5_put_59 rfl (lv_at hl 1 rfl) ?_
  refine va_get (D := D) (ci := 5) (v := .ref (a 11)) (C := RX5) (T := TX5) (N := 25) hx hb hts hin_X5 hown hK hP 0 rfl rfl 15 (by decide) hf44 (fun _ h9 => h9) rfl dX5_put_60 ?_
  refine lv_iload hx hb dX5_put_63 (lv_at hl 0 rfl) ?_
  refine lv_iconst (v := 5) hx hb dX5_put_65 (by decide) ?_
  refine lv_iadd hx hb dX5_put_66 ?_
  refine lv_iload hx hb dX5_put_67 (lv_at hl 7 rfl) ?_
  refine ra_st (f := (upd (upd (upd (upd (upd (r 11) (8 * c) x1) (8 * c + 1) x2) (8 * c + 2) x3) (8 * c + 3) x4) (8 * c + 4) x5)) C0 hP hD hS 11 rfl (8 * c + 5) (i_p5 _) (by omega) (by decide) dX5_put_69 (fun H locs hP hD hS => ?_)
  have hset : ∀ (f11_ : Nat → Int32) (g_ : Nat → Int32), (wM cI a v (rU r 11 f11_)).set 11 (a 11, .inl (cI, 4000, .inl g_)) = (wM cI a v (rU r 11 g_)) := fun _ _ => rfl
  rw [hset] at hP hD
  refine lv_aload_n hx hb dX5_put_70 rfl (lv_at hl 1 rfl) ?_
  refine va_get (D := D) (ci := 5) (v := .ref (a 11)) (C := RX5) (T := TX5) (N := 25) hx hb hts hin_X5 hown hK hP 0 rfl rfl 15 (by decide) hf44 (fun _ h9 => h9) rfl dX5_put_71 ?_
  refine lv_iload hx hb dX5_put_74 (lv_at hl 0 rfl) ?_
  refine lv_bipush (v := 6) hx hb dX5_put_76 (by decide) ?_
  refine lv_iadd hx hb dX5_put_78 ?_
  refine lv_iload hx hb dX5_put_79 (lv_at hl 8 rfl) ?_
  refine ra_st (f := (upd (upd (upd (upd (upd (upd (r 11) (8 * c) x1) (8 * c + 1) x2) (8 * c + 2) x3) (8 * c + 3) x4) (8 * c + 4) x5) (8 * c + 5) x6)) C0 hP hD hS 11 rfl (8 * c + 6) (i_p6 _) (by omega) (by decide) dX5_put_81 (fun H locs hP hD hS => ?_)
  have hset : ∀ (f11_ : Nat → Int32) (g_ : Nat → Int32), (wM cI a v (rU r 11 f11_)).set 11 (a 11, .inl (cI, 4000, .inl g_)) = (wM cI a v (rU r 11 g_)) := fun _ _ => rfl
  rw [hset] at hP hD
  refine lv_aload_n hx hb dX5_put_82 rfl (lv_at hl 1 rfl) ?_
  refine va_get (D := D) (ci := 5) (v := .ref (a 11)) (C := RX5) (T := TX5) (N := 25) hx hb hts hin_X5 hown hK hP 0 rfl rfl 15 (by decide) hf44 (fun _ h9 => h9) rfl dX5_put_83 ?_
  refine lv_iload hx hb dX5_put_86 (lv_at hl 0 rfl) ?_
  refine lv_bipush (v := 7) hx hb dX5_put_88 (by decide) ?_
  refine lv_iadd hx hb dX5_put_90 ?_
  refine lv_iload hx hb dX5_put_91 (lv_at hl 9 rfl) ?_
  obtain ⟨x_1, ex_1⟩ : ∃ zz_ : Int32, zz_ = (if x8 = 0 then (0 : Int32) else (1 : Int32)) := ⟨_, rfl⟩
  refine jW (D := D) hD hl 101 (wM cI a v (rU r 11 (upd (upd (upd (upd (upd (upd (upd (r 11) (8 * c) x1) (8 * c + 1) x2) (8 * c + 2) x3) (8 * c + 3) x4) (8 * c + 4) x5) (8 * c + 5) x6) (8 * c + 6) x7))) [(9, .int (nI (8 * c))), (0, .ref (a 0)), (1, .int x1), (2, .int x2), (3, .int x3), (4, .int x4), (5, .int x5), (6, .int x6), (7, .int x7), (8, .int x8)] [.int x_1, .int ((nI (8 * c)) + 7), .ref (a 11)] (fun hJ => ?_) (fun H locs ls hP hD hS hl => ?_)
  · skip
    refine lv_if_eq (tgt := 100) hx hb dX5_put_93 (by decide) (fun c_93 => ?_) (fun c_93 => ?_)
    · skip
      refine lv_iconst (v := 0) hx hb dX5_put_100 (by decide) ?_
      have gx_1 : x_1 = 0 := by rw [ex_1]; simp only [if_pos c_93]
      simp only [gx_1] at hJ
      exact hJ _ _ _ hP hD hS (lv_sub hl [0, 1, 2, 3, 4, 5, 6, 7, 8, 9] rfl)
    · skip
      refine lv_iconst (v := 1) hx hb dX5_put_96 (by decide) ?_
      refine lv_goto (tgt := 101) hx hb dX5_put_97 (by decide) ?_
      have gx_1 : x_1 = 1 := by rw [ex_1]; simp only [if_neg c_93]
      simp only [gx_1] at hJ
      exact hJ _ _ _ hP hD hS (lv_sub hl [0, 1, 2, 3, 4, 5, 6, 7, 8, 9] rfl)
  · skip
    refine ra_st (f := (upd (upd (upd (upd (upd (upd (upd (r 11) (8 * c) x1) (8 * c + 1) x2) (8 * c + 2) x3) (8 * c + 3) x4) (8 * c + 4) x5) (8 * c + 5) x6) (8 * c + 6) x7)) C0 hP hD hS 11 rfl (8 * c + 7) (i_p7 _) (by omega) (by decide) dX5_put_101 (fun H locs hP hD hS => ?_)
    have hset : ∀ (f11_ : Nat → Int32) (g_ : Nat → Int32), (wM cI a v (rU r 11 f11_)).set 11 (a 11, .inl (cI, 4000, .inl g_)) = (wM cI a v (rU r 11 g_)) := fun _ _ => rfl
    rw [hset] at hP hD
    refine lv_aload_n hx hb dX5_put_102 rfl (lv_at hl 1 rfl) ?_
    refine lv_dup hx hb dX5_put_103 rfl ?_
    refine va_get (D := D) (ci := 5) (v := .int (v 14)) (C := RX5) (T := TX5) (N := 25) hx hb hts hin_X5 hown hK hP 0 rfl rfl 14 (by decide) hf166 (fun _ h9 => h9) rfl dX5_put_104 ?_
    refine lv_eqi hc ?_
    refine lv_iconst (v := 1) hx hb dX5_put_107 (by decide) ?_
    refine lv_iadd hx hb dX5_put_108 ?_
    refine lv_eqi (nI_1 c) ?_
    refine va_put (D := D) (ci := 5) (v := .int (nI (c + 1))) (ty := .int) (C := RX5) (T := TX5) (N := 25) hx hb hts hin_X5 tyX5 tyX5_ok nmX5 hown hK hP hD hS 0 rfl rfl 14 (by decide) hf166 (fun _ h9 => h9) rfl (by decide +kernel) rfl rfl (Nat.le_of_ble_eq_true rfl) dX5_put_109 (fun H locs hP hD hS => ?_)
    have hP : va_P D vwCl (wM cI a (vU v 14 (nI (c + 1))) (rU r 11 (upd (upd (upd (upd (upd (upd (upd (upd (r 11) (8 * c) x1) (8 * c + 1) x2) (8 * c + 2) x3) (8 * c + 3) x4) (8 * c + 4) x5) (8 * c + 5) x6) (8 * c + 6) x7) (8 * c + 7) x_1))) H := hP
    have hD : va_D A (wM cI a (vU v 14 (nI (c + 1))) (rU r 11 (upd (upd (upd (upd (upd (upd (upd (upd (r 11) (8 * c) x1) (8 * c + 1) x2) (8 * c + 2) x3) (8 * c + 3) x4) (8 * c + 4) x5) (8 * c + 5) x6) (8 * c + 6) x7) (8 * c + 7) x_1))) := hD
    have q11 : (upd (upd (upd (upd (upd (upd (upd (upd (r 11) (8 * c) x1) (8 * c + 1) x2) (8 * c + 2) x3) (8 * c + 3) x4) (8 * c + 4) x5) (8 * c + 5) x6) (8 * c + 6) x7) (8 * c + 7) x_1) = (ptI (r 11) c [mkI x1 x2 x3 x4 x5 x6 x7 (bz x8)]) := (by rw [ptI_one, ex_1]; rfl)
    have hw : (wM cI a (vU v 14 (nI (c + 1))) (rU r 11 (upd (upd (upd (upd (upd (upd (upd (upd (r 11) (8 * c) x1) (8 * c + 1) x2) (8 * c + 2) x3) (8 * c + 3) x4) (8 * c + 4) x5) (8 * c + 5) x6) (8 * c + 6) x7) (8 * c + 7) x_1))) = (wM cI a (vU v 14 (nI (c + 1))) (rU r 11 (ptI (r 11) c [mkI x1 x2 x3 x4 x5 x6 x7 (bz x8)]))) := by rw [q11]
    have hP : va_P D vwCl (wM cI a (vU v 14 (nI (c + 1))) (rU r 11 (ptI (r 11) c [mkI x1 x2 x3 x4 x5 x6 x7 (bz x8)]))) H := hw ▸ hP
    have hD : va_D A (wM cI a (vU v 14 (nI (c + 1))) (rU r 11 (ptI (r 11) c [mkI x1 x2 x3 x4 x5 x6 x7 (bz x8)]))) := hw ▸ hD
    exact k_vret C0 () hP hD hS trivial dX5_put_112

set_option maxHeartbeats 1500000 in
set_option maxRecDepth 100000 in
theorem c_X5_widthOf (l : Launch) (D : va_G) (cI : ClassId) (a : Nat → Nat) (v : Nat → Int32) (r : Nat → Nat → Int32) (x lev cr : Int32) (N d : Nat) (rk : Int32 → Nat) (it sz : Nat → Int32) (w0 h0 d0 u0 e0 : Int32) (hM : HML l D cI a v r N rk d) (hrk : rk x < d) : KI l D cI yX5_widthOf wsX5_widthOf (rmF d) [.ref (a 0), .int x, .int lev, .int cr] (wM cI a (vU (vU (vU (vU (vU v 19 w0) 20 h0) 21 d0) 22 u0) 23 e0) (rU (rU r 11 it) 12 sz)) (fun u : Int32 × Int32 × (Nat → Int32) => wM cI a (v5 v (ML r N d x lev cr).1 (ML r N d x lev cr).2.1 (ML r N d x lev cr).2.2 u.1 u.2.1) (r2 r it u.2.2)) (fun q u => q = (ML r N d x lev cr).1 ∧ ∀ i4, rk x < rk (r 2 i4) → ∀ k4, k4 < 16 → u.2.2 (16 * i4 + k4) = sz (16 * i4 + k4)) := by
  refine KI.of (cc := cX5_widthOf) (nL := 4) (ret := (some .int)) (by decide) rfl (Nat.le_of_ble_eq_true rfl) ?_
  intro pg9 en9 s m args below meth cd9 A ls C0 hP hD hS hl
  have hx := C0.1.1
  have hb := C0.1.2.1
  have hml := C0.1.2.2.1
  have hown : s.vm.findClass RX5 = some m.cls := C0.1.2.2.2.1
  have hts : ∀ w ∈ wsX5_widthOf, w.before args s = true := C0.1.2.2.2.2
  have hK := C0.2.2.2.1
  have hin_X5 : ∀ w ∈ wsX50, w ∈ wsX5_widthOf := fun w h => List.mem_cons_of_mem _ (List.mem_append_right _ h)
  have hf96 : (Cond.fieldLink RX5 96 "FormulaListsModel" "width" "I").before args s = true := hts _ (by decide +kernel)
  have hl : lv_has ls 4 [(0, .ref (a 0)), (1, .int x), (2, .int lev), (3, .int cr)] := hl
  have hP : va_P D vwCl (wM cI a (vU (vU (vU (vU (vU v 19 w0) 20 h0) 21 d0) 22 u0) 23 e0) (rU (rU r 11 it) 12 sz)) s.heap := hP
  refine lv_aload_n hx hb dX5_widthOf_0 rfl (lv_at hl 0 rfl) ?_
  refine lv_iload_n hx hb dX5_widthOf_1 rfl (lv_at hl 1 rfl) ?_
  refine lv_iload_n hx hb dX5_widthOf_2 rfl (lv_at hl 2 rfl) ?_
  refine lv_iload_n hx hb dX5_widthOf_3 rfl (lv_at hl 3 rfl) ?_
  refine kcVv C0 hP hD hS (hM x lev cr it sz w0 h0 d0 u0 e0 hrk) (cwV 3 hts gX5_widthOf_X5_measureList rfl rfl rfl (by decide +kernel) ⟨by dsimp only [rmL, rmF, rmN, rmA]; omega, by dsimp only [rmL, rmF, rmN, rmA]; omega⟩) 0 5 rfl rfl rfl hl.1 rfl (Nat.le_of_ble_eq_true rfl) dX5_widthOf_4 ⟨Nat.zero_le _, Nat.zero_le _⟩ (fun u H locs hq hP hD hS => ?_)
  obtain ⟨u_1, e_1, z_1⟩ := u
  have hz_1 : ∀ i2, rk x < rk (r 2 i2) → ∀ k, k < 16 → z_1 (16 * i2 + k) = sz (16 * i2 + k) := hq
  have hP : va_P D vwCl (wM cI a (vU (vU (vU (vU (vU v 19 ((ML r N d x lev cr).1)) 20 ((ML r N d x lev cr).2.1)) 21 ((ML r N d x lev cr).2.2)) 22 u_1) 23 e_1) (rU (rU r 11 it) 12 z_1)) H := hP
  have hD : va_D A (wM cI a (vU (vU (vU (vU (vU v 19 ((ML r N d x lev cr).1)) 20 ((ML r N d x lev cr).2.1)) 21 ((ML r N d x lev cr).2.2)) 22 u_1) 23 e_1) (rU (rU r 11 it) 12 z_1)) := hD
  refine lv_aload_n hx hb dX5_widthOf_7 rfl (lv_at hl 0 rfl) ?_
  refine va_get (D := D) (ci := 5) (v := .int ((ML r N d x lev cr).1)) (C := RX5) (T := TX5) (N := 25) hx hb hts hin_X5 hown hK hP 0 rfl rfl 19 (by decide) hf96 (fun _ h9 => h9) rfl dX5_widthOf_8 ?_
  exact k_iret C0 (u_1, e_1, z_1) hP hD hS ⟨rfl, hz_1⟩ dX5_widthOf_11
