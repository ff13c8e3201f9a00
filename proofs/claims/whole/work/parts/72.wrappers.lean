set_option maxHeartbeats 1500000 in
set_option maxRecDepth 100000 in
theorem w_atom (l : Launch) (D : va_G) (cI cL : ClassId) (a : Nat → Nat) (b : Nat) (fo : Nat → Int64) (v : Nat → Int32) (r : Nat → Nat → Int32) (p0 : Int32) (p1 : Int32) (code : Int32) (P : Int32 → (Nat → Int32) × Rw → Prop) (hM : KX l D cI yX4_atom wsX4_atom ({ frames := 7, cells := 2, slots := 12, locals := 102 }) [.ref (a 0), .int p0, .int p1] (wX cI a v r) 2 12 (fun u : (Nat → Int32) × Rw => wX cI a u.1 u.2) (fun q u => code = 0 ∧ P q u) (fun E => (code = 1 ∧ E = "java/lang/IllegalArgumentException") ∨ (code = 2 ∧ E = "java/lang/UnsupportedOperationException"))) :
    KW l D cI cL yL_atom wsL_atom ({ frames := 8, cells := 2, slots := 12, locals := 125 }) [.ref (a 0), .int p0, .int p1, .ref b] (wO cI cL a b fo v r) 2 12 (fun u : (Nat → Int64) × (Nat → Int32) × Rw => wO cI cL a b u.1 u.2.1 u.2.2) (fun k u => k = code ∧ ((code = 0 ∧ ∃ z, P z u.2 ∧ u.1 = vp_updL fo (0 : Int32).toNatClampNeg z.toInt64) ∨ (¬ code = 0 ∧ u = (fo, v, r)))) := by
  refine KW.of (cc := cL_atom) (nL := 5) (ret := (some .int)) (hh := [(0, 10, 13, 13), (0, 10, 17, 15)]) (by decide) rfl (Nat.le_of_ble_eq_true rfl) ?_
  intro pg9 en9 s m args below meth cd9 A ls C0 htab hP hD hS hl
  have hx := C0.1.1
  have hb := C0.1.2.1
  have hml := C0.1.2.2.1
  have hown : s.vm.findClass RL = some m.cls := C0.1.2.2.2.1
  have hts : ∀ w ∈ wsL_atom, w.before args s = true := C0.1.2.2.2.2
  have hK := C0.2.2.2.1
  have hl : lv_has ls 5 [(0, .ref (a 0)), (1, .int p0), (2, .int p1), (3, .ref b)] := hl
  refine lv_aload_n hx hb dL_atom_0 rfl (lv_at hl 3 rfl) ?_
  refine lv_iconst (v := 0) hx hb dL_atom_1 (by decide) ?_
  refine lv_aload_n hx hb dL_atom_2 rfl (lv_at hl 0 rfl) ?_
  refine lv_iload_n hx hb dL_atom_3 rfl (lv_at hl 1 rfl) ?_
  refine lv_iload_n hx hb dL_atom_4 rfl (lv_at hl 2 rfl) ?_
  refine kcO C0 hP hD hS hM (cwV 2 hts gL_atom_X4_atom rfl rfl rfl (by decide +kernel) ⟨(Nat.le_of_ble_eq_true rfl), (Nat.le_of_ble_eq_true rfl)⟩) 0 4 rfl rfl rfl hl.1 rfl (Nat.le_of_ble_eq_true rfl) dL_atom_5 ⟨(Nat.le_of_ble_eq_true rfl), (Nat.le_of_ble_eq_true rfl)⟩ (fun E ce q9 H locs hpx hP hD hS h1 h2 h3 => ?_) (fun z u H locs hq hP hD hS => ?_)
  · rcases hpx with ⟨hco, rfl⟩ | ⟨hco, rfl⟩
    · refine kw_catch C0 [] ⟨0, 10, 13, 13⟩ [⟨0, 10, 17, 15⟩] htab (fun z h => absurd h List.not_mem_nil) (by decide) (by decide) (by decide +kernel) (by decide +kernel) h1 h2 h3 ?_
      refine lv_astore (lv' := [(4, .ref q9), (0, .ref (a 0)), (1, .int p0), (2, .int p1), (3, .ref b)]) hx hb dL_atom_13 hl (by decide) rfl (fun ls hl => ?_)
      refine lv_iconst (v := 1) hx hb dL_atom_15 (by decide) ?_
      exact kw_iret C0 (fo, v, r) hP hD hS ⟨hco.symm, Or.inr ⟨by rw [hco]; decide, rfl⟩⟩ (Nat.le_of_ble_eq_true rfl) (Nat.le_of_ble_eq_true rfl) dL_atom_16
    · refine kw_catch C0 [⟨0, 10, 13, 13⟩] ⟨0, 10, 17, 15⟩ [] htab (List.forall_mem_cons.mpr ⟨⟨by decide, "java/lang/IllegalArgumentException", by decide +kernel, by decide⟩, (fun z h => absurd h List.not_mem_nil)⟩) (by decide) (by decide) (by decide +kernel) (by decide +kernel) h1 h2 h3 ?_
      refine lv_astore (lv' := [(4, .ref q9), (0, .ref (a 0)), (1, .int p0), (2, .int p1), (3, .ref b)]) hx hb dL_atom_17 hl (by decide) rfl (fun ls hl => ?_)
      refine lv_iconst (v := 2) hx hb dL_atom_19 (by decide) ?_
      exact kw_iret C0 (fo, v, r) hP hD hS ⟨hco.symm, Or.inr ⟨by rw [hco]; decide, rfl⟩⟩ (Nat.le_of_ble_eq_true rfl) (Nat.le_of_ble_eq_true rfl) dL_atom_20
  · refine lv_i2l hx hb dL_atom_8 rfl ?_
    refine va_last hx hb hK hP hD hS 0 1 rfl rfl (vp_in_nI (n := 0) (N := 1) (by decide) (by decide)) dL_atom_9 (fun H locs hP hD hS => ?_)
    refine lv_goto (tgt := 21) hx hb dL_atom_10 (by decide) ?_
    refine lv_iconst (v := 0) hx hb dL_atom_21 (by decide) ?_
    exact kw_iret C0 (vp_updL fo (0 : Int32).toNatClampNeg z.toInt64, u) hP hD hS ⟨hq.1.symm, Or.inl ⟨hq.1, z, hq.2, rfl⟩⟩ (Nat.le_of_ble_eq_true rfl) (Nat.le_of_ble_eq_true rfl) dL_atom_22
set_option maxHeartbeats 1500000 in
set_option maxRecDepth 100000 in
theorem w_script (l : Launch) (D : va_G) (cI cL : ClassId) (a : Nat → Nat) (b : Nat) (fo : Nat → Int64) (v : Nat → Int32) (r : Nat → Nat → Int32) (p0 : Int32) (p1 : Int32) (p2 : Int32) (code : Int32) (P : Int32 → (Nat → Int32) × Rw → Prop) (hM : KX l D cI yX4_script wsX4_script ({ frames := 7, cells := 4, slots := 24, locals := 104 }) [.ref (a 0), .int p0, .int p1, .int p2] (wX cI a v r) 4 24 (fun u : (Nat → Int32) × Rw => wX cI a u.1 u.2) (fun q u => code = 0 ∧ P q u) (fun E => (code = 1 ∧ E = "java/util/NoSuchElementException") ∨ (code = 2 ∧ E = "java/lang/IllegalStateException"))) :
    KW l D cI cL yL_script wsL_script ({ frames := 8, cells := 4, slots := 24, locals := 128 }) [.ref (a 0), .int p0, .int p1, .int p2, .ref b] (wO cI cL a b fo v r) 4 24 (fun u : (Nat → Int64) × (Nat → Int32) × Rw => wO cI cL a b u.1 u.2.1 u.2.2) (fun k u => k = code ∧ ((code = 0 ∧ ∃ z, P z u.2 ∧ u.1 = vp_updL fo (0 : Int32).toNatClampNeg z.toInt64) ∨ (¬ code = 0 ∧ u = (fo, v, r)))) := by
  refine KW.of (cc := cL_script) (nL := 6) (ret := (some .int)) (hh := [(0, 12, 15, 21), (0, 12, 19, 23)]) (by decide) rfl (Nat.le_of_ble_eq_true rfl) ?_
  intro pg9 en9 s m args below meth cd9 A ls C0 htab hP hD hS hl
  have hx := C0.1.1
  have hb := C0.1.2.1
  have hml := C0.1.2.2.1
  have hown : s.vm.findClass RL = some m.cls := C0.1.2.2.2.1
  have hts : ∀ w ∈ wsL_script, w.before args s = true := C0.1.2.2.2.2
  have hK := C0.2.2.2.1
  have hl : lv_has ls 6 [(0, .ref (a 0)), (1, .int p0), (2, .int p1), (3, .int p2), (4, .ref b)] := hl
  refine lv_aload hx hb dL_script_0 (lv_at hl 4 rfl) ?_
  refine lv_iconst (v := 0) hx hb dL_script_2 (by decide) ?_
  refine lv_aload_n hx hb dL_script_3 rfl (lv_at hl 0 rfl) ?_
  refine lv_iload_n hx hb dL_script_4 rfl (lv_at hl 1 rfl) ?_
  refine lv_iload_n hx hb dL_script_5 rfl (lv_at hl 2 rfl) ?_
  refine lv_iload_n hx hb dL_script_6 rfl (lv_at hl 3 rfl) ?_
  refine kcO C0 hP hD hS hM (cwV 3 hts gL_script_X4_script rfl rfl rfl (by decide +kernel) ⟨(Nat.le_of_ble_eq_true rfl), (Nat.le_of_ble_eq_true rfl)⟩) 0 4 rfl rfl rfl hl.1 rfl (Nat.le_of_ble_eq_true rfl) dL_script_7 ⟨(Nat.le_of_ble_eq_true rfl), (Nat.le_of_ble_eq_true rfl)⟩ (fun E ce q9 H locs hpx hP hD hS h1 h2 h3 => ?_) (fun z u H locs hq hP hD hS => ?_)
  · rcases hpx with ⟨hco, rfl⟩ | ⟨hco, rfl⟩
    · refine kw_catch C0 [] ⟨0, 12, 15, 21⟩ [⟨0, 12, 19, 23⟩] htab (fun z h => absurd h List.not_mem_nil) (by decide) (by decide) (by decide +kernel) (by decide +kernel) h1 h2 h3 ?_
      refine lv_astore (lv' := [(5, .ref q9), (0, .ref (a 0)), (1, .int p0), (2, .int p1), (3, .int p2), (4, .ref b)]) hx hb dL_script_15 hl (by decide) rfl (fun ls hl => ?_)
      refine lv_iconst (v := 1) hx hb dL_script_17 (by decide) ?_
      exact kw_iret C0 (fo, v, r) hP hD hS ⟨hco.symm, Or.inr ⟨by rw [hco]; decide, rfl⟩⟩ (Nat.le_of_ble_eq_true rfl) (Nat.le_of_ble_eq_true rfl) dL_script_18
    · refine kw_catch C0 [⟨0, 12, 15, 21⟩] ⟨0, 12, 19, 23⟩ [] htab (List.forall_mem_cons.mpr ⟨⟨by decide, "java/util/NoSuchElementException", by decide +kernel, by decide⟩, (fun z h => absurd h List.not_mem_nil)⟩) (by decide) (by decide) (by decide +kernel) (by decide +kernel) h1 h2 h3 ?_
      refine lv_astore (lv' := [(5, .ref q9), (0, .ref (a 0)), (1, .int p0), (2, .int p1), (3, .int p2), (4, .ref b)]) hx hb dL_script_19 hl (by decide) rfl (fun ls hl => ?_)
      refine lv_iconst (v := 2) hx hb dL_script_21 (by decide) ?_
      exact kw_iret C0 (fo, v, r) hP hD hS ⟨hco.symm, Or.inr ⟨by rw [hco]; decide, rfl⟩⟩ (Nat.le_of_ble_eq_true rfl) (Nat.le_of_ble_eq_true rfl) dL_script_22
  · refine lv_i2l hx hb dL_script_10 rfl ?_
    refine va_last hx hb hK hP hD hS 0 1 rfl rfl (vp_in_nI (n := 0) (N := 1) (by decide) (by decide)) dL_script_11 (fun H locs hP hD hS => ?_)
    refine lv_goto (tgt := 23) hx hb dL_script_12 (by decide) ?_
    refine lv_iconst (v := 0) hx hb dL_script_23 (by decide) ?_
    exact kw_iret C0 (vp_updL fo (0 : Int32).toNatClampNeg z.toInt64, u) hP hD hS ⟨hq.1.symm, Or.inl ⟨hq.1, z, hq.2, rfl⟩⟩ (Nat.le_of_ble_eq_true rfl) (Nat.le_of_ble_eq_true rfl) dL_script_24
set_option maxHeartbeats 1500000 in
set_option maxRecDepth 100000 in
theorem w_fraction (l : Launch) (D : va_G) (cI cL : ClassId) (a : Nat → Nat) (b : Nat) (fo : Nat → Int64) (v : Nat → Int32) (r : Nat → Nat → Int32) (p0 : Int32) (p1 : Int32) (p2 : Int64) (code : Int32) (P : Int32 → (Nat → Int32) × Rw → Prop) (hM : KX l D cI yX4_fraction wsX4_fraction ({ frames := 7, cells := 6, slots := 36, locals := 104 }) [.ref (a 0), .int p0, .int p1, .long p2] (wX cI a v r) 6 36 (fun u : (Nat → Int32) × Rw => wX cI a u.1 u.2) (fun q u => code = 0 ∧ P q u) (fun E => (code = 1 ∧ E = "java/util/NoSuchElementException") ∨ (code = 2 ∧ E = "java/lang/IllegalArgumentException") ∨ (code = 3 ∧ E = "java/lang/IllegalStateException") ∨ (code = 4 ∧ E = "java/lang/UnsupportedOperationException"))) :
    KW l D cI cL yL_fraction wsL_fraction ({ frames := 8, cells := 6, slots := 36, locals := 129 }) [.ref (a 0), .int p0, .int p1, .long p2, .ref b] (wO cI cL a b fo v r) 6 36 (fun u : (Nat → Int64) × (Nat → Int32) × Rw => wO cI cL a b u.1 u.2.1 u.2.2) (fun k u => k = code ∧ ((code = 0 ∧ ∃ z, P z u.2 ∧ u.1 = vp_updL fo (0 : Int32).toNatClampNeg z.toInt64) ∨ (¬ code = 0 ∧ u = (fo, v, r)))) := by
  refine KW.of (cc := cL_fraction) (nL := 7) (ret := (some .int)) (hh := [(0, 12, 15, 21), (0, 12, 19, 13), (0, 12, 23, 23), (0, 12, 27, 15)]) (by decide) rfl (Nat.le_of_ble_eq_true rfl) ?_
  intro pg9 en9 s m args below meth cd9 A ls C0 htab hP hD hS hl
  have hx := C0.1.1
  have hb := C0.1.2.1
  have hml := C0.1.2.2.1
  have hown : s.vm.findClass RL = some m.cls := C0.1.2.2.2.1
  have hts : ∀ w ∈ wsL_fraction, w.before args s = true := C0.1.2.2.2.2
  have hK := C0.2.2.2.1
  have hl : lv_has ls 7 [(0, .ref (a 0)), (1, .int p0), (2, .int p1), (3, .long p2), (5, .ref b)] := hl
  refine lv_aload hx hb dL_fraction_0 (lv_at hl 4 rfl) ?_
  refine lv_iconst (v := 0) hx hb dL_fraction_2 (by decide) ?_
  refine lv_aload_n hx hb dL_fraction_3 rfl (lv_at hl 0 rfl) ?_
  refine lv_iload_n hx hb dL_fraction_4 rfl (lv_at hl 1 rfl) ?_
  refine lv_iload_n hx hb dL_fraction_5 rfl (lv_at hl 2 rfl) ?_
  refine lv_lload_n hx hb dL_fraction_6 rfl (lv_at hl 3 rfl) ?_
  refine kcO C0 hP hD hS hM (cwV 3 hts gL_fraction_X4_fraction rfl rfl rfl (by decide +kernel) ⟨(Nat.le_of_ble_eq_true rfl), (Nat.le_of_ble_eq_true rfl)⟩) 0 4 rfl rfl rfl hl.1 rfl (Nat.le_of_ble_eq_true rfl) dL_fraction_7 ⟨(Nat.le_of_ble_eq_true rfl), (Nat.le_of_ble_eq_true rfl)⟩ (fun E ce q9 H locs hpx hP hD hS h1 h2 h3 => ?_) (fun z u H locs hq hP hD hS => ?_)
  · rcases hpx with ⟨hco, rfl⟩ | ⟨hco, rfl⟩ | ⟨hco, rfl⟩ | ⟨hco, rfl⟩
    · refine kw_catch C0 [] ⟨0, 12, 15, 21⟩ [⟨0, 12, 19, 13⟩, ⟨0, 12, 23, 23⟩, ⟨0, 12, 27, 15⟩] htab (fun z h => absurd h List.not_mem_nil) (by decide) (by decide) (by decide +kernel) (by decide +kernel) h1 h2 h3 ?_
      refine lv_astore (lv' := [(6, .ref q9), (0, .ref (a 0)), (1, .int p0), (2, .int p1), (3, .long p2), (5, .ref b)]) hx hb dL_fraction_15 hl (by decide) rfl (fun ls hl => ?_)
      refine lv_iconst (v := 1) hx hb dL_fraction_17 (by decide) ?_
      exact kw_iret C0 (fo, v, r) hP hD hS ⟨hco.symm, Or.inr ⟨by rw [hco]; decide, rfl⟩⟩ (Nat.le_of_ble_eq_true rfl) (Nat.le_of_ble_eq_true rfl) dL_fraction_18
    · refine kw_catch C0 [⟨0, 12, 15, 21⟩] ⟨0, 12, 19, 13⟩ [⟨0, 12, 23, 23⟩, ⟨0, 12, 27, 15⟩] htab (List.forall_mem_cons.mpr ⟨⟨by decide, "java/util/NoSuchElementException", by decide +kernel, by decide⟩, (fun z h => absurd h List.not_mem_nil)⟩) (by decide) (by decide) (by decide +kernel) (by decide +kernel) h1 h2 h3 ?_
      refine lv_astore (lv' := [(6, .ref q9), (0, .ref (a 0)), (1, .int p0), (2, .int p1), (3, .long p2), (5, .ref b)]) hx hb dL_fraction_19 hl (by decide) rfl (fun ls hl => ?_)
      refine lv_iconst (v := 2) hx hb dL_fraction_21 (by decide) ?_
      exact kw_iret C0 (fo, v, r) hP hD hS ⟨hco.symm, Or.inr ⟨by rw [hco]; decide, rfl⟩⟩ (Nat.le_of_ble_eq_true rfl) (Nat.le_of_ble_eq_true rfl) dL_fraction_22
    · refine kw_catch C0 [⟨0, 12, 15, 21⟩, ⟨0, 12, 19, 13⟩] ⟨0, 12, 23, 23⟩ [⟨0, 12, 27, 15⟩] htab (List.forall_mem_cons.mpr ⟨⟨by decide, "java/util/NoSuchElementException", by decide +kernel, by decide⟩, (List.forall_mem_cons.mpr ⟨⟨by decide, "java/lang/IllegalArgumentException", by decide +kernel, by decide⟩, (fun z h => absurd h List.not_mem_nil)⟩)⟩) (by decide) (by decide) (by decide +kernel) (by decide +kernel) h1 h2 h3 ?_
      refine lv_astore (lv' := [(6, .ref q9), (0, .ref (a 0)), (1, .int p0), (2, .int p1), (3, .long p2), (5, .ref b)]) hx hb dL_fraction_23 hl (by decide) rfl (fun ls hl => ?_)
      refine lv_iconst (v := 3) hx hb dL_fraction_25 (by decide) ?_
      exact kw_iret C0 (fo, v, r) hP hD hS ⟨hco.symm, Or.inr ⟨by rw [hco]; decide, rfl⟩⟩ (Nat.le_of_ble_eq_true rfl) (Nat.le_of_ble_eq_true rfl) dL_fraction_26
    · refine kw_catch C0 [⟨0, 12, 15, 21⟩, ⟨0, 12, 19, 13⟩, ⟨0, 12, 23, 23⟩] ⟨0, 12, 27, 15⟩ [] htab (List.forall_mem_cons.mpr ⟨⟨by decide, "java/util/NoSuchElementException", by decide +kernel, by decide⟩, (List.forall_mem_cons.mpr ⟨⟨by decide, "java/lang/IllegalArgumentException", by decide +kernel, by decide⟩, (List.forall_mem_cons.mpr ⟨⟨by decide, "java/lang/IllegalStateException", by decide +kernel, by decide⟩, (fun z h => absurd h List.not_mem_nil)⟩)⟩)⟩) (by decide) (by decide) (by decide +kernel) (by decide +kernel) h1 h2 h3 ?_
      refine lv_astore (lv' := [(6, .ref q9), (0, .ref (a 0)), (1, .int p0), (2, .int p1), (3, .long p2), (5, .ref b)]) hx hb dL_fraction_27 hl (by decide) rfl (fun ls hl => ?_)
      refine lv_iconst (v := 4) hx hb dL_fraction_29 (by decide) ?_
      exact kw_iret C0 (fo, v, r) hP hD hS ⟨hco.symm, Or.inr ⟨by rw [hco]; decide, rfl⟩⟩ (Nat.le_of_ble_eq_true rfl) (Nat.le_of_ble_eq_true rfl) dL_fraction_30
  · refine lv_i2l hx hb dL_fraction_10 rfl ?_
    refine va_last hx hb hK hP hD hS 0 1 rfl rfl (vp_in_nI (n := 0) (N := 1) (by decide) (by decide)) dL_fraction_11 (fun H locs hP hD hS => ?_)
    refine lv_goto (tgt := 31) hx hb dL_fraction_12 (by decide) ?_
    refine lv_iconst (v := 0) hx hb dL_fraction_31 (by decide) ?_
    exact kw_iret C0 (vp_updL fo (0 : Int32).toNatClampNeg z.toInt64, u) hP hD hS ⟨hq.1.symm, Or.inl ⟨hq.1, z, hq.2, rfl⟩⟩ (Nat.le_of_ble_eq_true rfl) (Nat.le_of_ble_eq_true rfl) dL_fraction_32
set_option maxHeartbeats 1500000 in
set_option maxRecDepth 100000 in
theorem w_fence (l : Launch) (D : va_G) (cI cL : ClassId) (a : Nat → Nat) (b : Nat) (fo : Nat → Int64) (v : Nat → Int32) (r : Nat → Nat → Int32) (p0 : Int32) (p1 : Int32) (p2 : Int32) (code : Int32) (P : Int32 → (Nat → Int32) × Rw → Prop) (hM : KX l D cI yX4_fence wsX4_fence ({ frames := 7, cells := 4, slots := 24, locals := 104 }) [.ref (a 0), .int p0, .int p1, .int p2] (wX cI a v r) 4 24 (fun u : (Nat → Int32) × Rw => wX cI a u.1 u.2) (fun q u => code = 0 ∧ P q u) (fun E => (code = 1 ∧ E = "java/util/NoSuchElementException") ∨ (code = 2 ∧ E = "java/lang/IllegalArgumentException") ∨ (code = 3 ∧ E = "java/lang/IllegalStateException") ∨ (code = 4 ∧ E = "java/lang/UnsupportedOperationException"))) :
    KW l D cI cL yL_fence wsL_fence ({ frames := 8, cells := 4, slots := 24, locals := 128 }) [.ref (a 0), .int p0, .int p1, .int p2, .ref b] (wO cI cL a b fo v r) 4 24 (fun u : (Nat → Int64) × (Nat → Int32) × Rw => wO cI cL a b u.1 u.2.1 u.2.2) (fun k u => k = code ∧ ((code = 0 ∧ ∃ z, P z u.2 ∧ u.1 = vp_updL fo (0 : Int32).toNatClampNeg z.toInt64) ∨ (¬ code = 0 ∧ u = (fo, v, r)))) := by
  refine KW.of (cc := cL_fence) (nL := 6) (ret := (some .int)) (hh := [(0, 12, 15, 21), (0, 12, 19, 13), (0, 12, 23, 23), (0, 12, 27, 15)]) (by decide) rfl (Nat.le_of_ble_eq_true rfl) ?_
  intro pg9 en9 s m args below meth cd9 A ls C0 htab hP hD hS hl
  have hx := C0.1.1
  have hb := C0.1.2.1
  have hml := C0.1.2.2.1
  have hown : s.vm.findClass RL = some m.cls := C0.1.2.2.2.1
  have hts : ∀ w ∈ wsL_fence, w.before args s = true := C0.1.2.2.2.2
  have hK := C0.2.2.2.1
  have hl : lv_has ls 6 [(0, .ref (a 0)), (1, .int p0), (2, .int p1), (3, .int p2), (4, .ref b)] := hl
  refine lv_aload hx hb dL_fence_0 (lv_at hl 4 rfl) ?_
  refine lv_iconst (v := 0) hx hb dL_fence_2 (by decide) ?_
  refine lv_aload_n hx hb dL_fence_3 rfl (lv_at hl 0 rfl) ?_
  refine lv_iload_n hx hb dL_fence_4 rfl (lv_at hl 1 rfl) ?_
  refine lv_iload_n hx hb dL_fence_5 rfl (lv_at hl 2 rfl) ?_
  refine lv_iload_n hx hb dL_fence_6 rfl (lv_at hl 3 rfl) ?_
  refine kcO C0 hP hD hS hM (cwV 3 hts gL_fence_X4_fence rfl rfl rfl (by decide +kernel) ⟨(Nat.le_of_ble_eq_true rfl), (Nat.le_of_ble_eq_true rfl)⟩) 0 4 rfl rfl rfl hl.1 rfl (Nat.le_of_ble_eq_true rfl) dL_fence_7 ⟨(Nat.le_of_ble_eq_true rfl), (Nat.le_of_ble_eq_true rfl)⟩ (fun E ce q9 H locs hpx hP hD hS h1 h2 h3 => ?_) (fun z u H locs hq hP hD hS => ?_)
  · rcases hpx with ⟨hco, rfl⟩ | ⟨hco, rfl⟩ | ⟨hco, rfl⟩ | ⟨hco, rfl⟩
    · refine kw_catch C0 [] ⟨0, 12, 15, 21⟩ [⟨0, 12, 19, 13⟩, ⟨0, 12, 23, 23⟩, ⟨0, 12, 27, 15⟩] htab (fun z h => absurd h List.not_mem_nil) (by decide) (by decide) (by decide +kernel) (by decide +kernel) h1 h2 h3 ?_
      refine lv_astore (lv' := [(5, .ref q9), (0, .ref (a 0)), (1, .int p0), (2, .int p1), (3, .int p2), (4, .ref b)]) hx hb dL_fence_15 hl (by decide) rfl (fun ls hl => ?_)
      refine lv_iconst (v := 1) hx hb dL_fence_17 (by decide) ?_
      exact kw_iret C0 (fo, v, r) hP hD hS ⟨hco.symm, Or.inr ⟨by rw [hco]; decide, rfl⟩⟩ (Nat.le_of_ble_eq_true rfl) (Nat.le_of_ble_eq_true rfl) dL_fence_18
    · refine kw_catch C0 [⟨0, 12, 15, 21⟩] ⟨0, 12, 19, 13⟩ [⟨0, 12, 23, 23⟩, ⟨0, 12, 27, 15⟩] htab (List.forall_mem_cons.mpr ⟨⟨by decide, "java/util/NoSuchElementException", by decide +kernel, by decide⟩, (fun z h => absurd h List.not_mem_nil)⟩) (by decide) (by decide) (by decide +kernel) (by decide +kernel) h1 h2 h3 ?_
      refine lv_astore (lv' := [(5, .ref q9), (0, .ref (a 0)), (1, .int p0), (2, .int p1), (3, .int p2), (4, .ref b)]) hx hb dL_fence_19 hl (by decide) rfl (fun ls hl => ?_)
      refine lv_iconst (v := 2) hx hb dL_fence_21 (by decide) ?_
      exact kw_iret C0 (fo, v, r) hP hD hS ⟨hco.symm, Or.inr ⟨by rw [hco]; decide, rfl⟩⟩ (Nat.le_of_ble_eq_true rfl) (Nat.le_of_ble_eq_true rfl) dL_fence_22
    · refine kw_catch C0 [⟨0, 12, 15, 21⟩, ⟨0, 12, 19, 13⟩] ⟨0, 12, 23, 23⟩ [⟨0, 12, 27, 15⟩] htab (List.forall_mem_cons.mpr ⟨⟨by decide, "java/util/NoSuchElementException", by decide +kernel, by decide⟩, (List.forall_mem_cons.mpr ⟨⟨by decide, "java/lang/IllegalArgumentException", by decide +kernel, by decide⟩, (fun z h => absurd h List.not_mem_nil)⟩)⟩) (by decide) (by decide) (by decide +kernel) (by decide +kernel) h1 h2 h3 ?_
      refine lv_astore (lv' := [(5, .ref q9), (0, .ref (a 0)), (1, .int p0), (2, .int p1), (3, .int p2), (4, .ref b)]) hx hb dL_fence_23 hl (by decide) rfl (fun ls hl => ?_)
      refine lv_iconst (v := 3) hx hb dL_fence_25 (by decide) ?_
      exact kw_iret C0 (fo, v, r) hP hD hS ⟨hco.symm, Or.inr ⟨by rw [hco]; decide, rfl⟩⟩ (Nat.le_of_ble_eq_true rfl) (Nat.le_of_ble_eq_true rfl) dL_fence_26
    · refine kw_catch C0 [⟨0, 12, 15, 21⟩, ⟨0, 12, 19, 13⟩, ⟨0, 12, 23, 23⟩] ⟨0, 12, 27, 15⟩ [] htab (List.forall_mem_cons.mpr ⟨⟨by decide, "java/util/NoSuchElementException", by decide +kernel, by decide⟩, (List.forall_mem_cons.mpr ⟨⟨by decide, "java/lang/IllegalArgumentException", by decide +kernel, by decide⟩, (List.forall_mem_cons.mpr ⟨⟨by decide, "java/lang/IllegalStateException", by decide +kernel, by decide⟩, (fun z h => absurd h List.not_mem_nil)⟩)⟩)⟩) (by decide) (by decide) (by decide +kernel) (by decide +kernel) h1 h2 h3 ?_
      refine lv_astore (lv' := [(5, .ref q9), (0, .ref (a 0)), (1, .int p0), (2, .int p1), (3, .int p2), (4, .ref b)]) hx hb dL_fence_27 hl (by decide) rfl (fun ls hl => ?_)
      refine lv_iconst (v := 4) hx hb dL_fence_29 (by decide) ?_
      exact kw_iret C0 (fo, v, r) hP hD hS ⟨hco.symm, Or.inr ⟨by rw [hco]; decide, rfl⟩⟩ (Nat.le_of_ble_eq_true rfl) (Nat.le_of_ble_eq_true rfl) dL_fence_30
  · refine lv_i2l hx hb dL_fence_10 rfl ?_
    refine va_last hx hb hK hP hD hS 0 1 rfl rfl (vp_in_nI (n := 0) (N := 1) (by decide) (by decide)) dL_fence_11 (fun H locs hP hD hS => ?_)
    refine lv_goto (tgt := 31) hx hb dL_fence_12 (by decide) ?_
    refine lv_iconst (v := 0) hx hb dL_fence_31 (by decide) ?_
    exact kw_iret C0 (vp_updL fo (0 : Int32).toNatClampNeg z.toInt64, u) hP hD hS ⟨hq.1.symm, Or.inl ⟨hq.1, z, hq.2, rfl⟩⟩ (Nat.le_of_ble_eq_true rfl) (Nat.le_of_ble_eq_true rfl) dL_fence_32
set_option maxHeartbeats 1500000 in
set_option maxRecDepth 100000 in
theorem w_matrix (l : Launch) (D : va_G) (cI cL : ClassId) (a : Nat → Nat) (b : Nat) (fo : Nat → Int64) (v : Nat → Int32) (r : Nat → Nat → Int32) (p0 : Int32) (p1 : Int32) (code : Int32) (P : Int32 → (Nat → Int32) × Rw → Prop) (hM : KX l D cI yX4_matrix wsX4_matrix ({ frames := 7, cells := 1, slots := 6, locals := 102 }) [.ref (a 0), .int p0, .int p1] (wX cI a v r) 1 6 (fun u : (Nat → Int32) × Rw => wX cI a u.1 u.2) (fun q u => code = 0 ∧ P q u) (fun E => (code = 1 ∧ E = "java/lang/UnsupportedOperationException"))) :
    KW l D cI cL yL_matrix wsL_matrix ({ frames := 8, cells := 1, slots := 6, locals := 126 }) [.ref (a 0), .int p0, .int p1, .ref b] (wO cI cL a b fo v r) 1 6 (fun u : (Nat → Int64) × (Nat → Int32) × Rw => wO cI cL a b u.1 u.2.1 u.2.2) (fun k u => k = code ∧ ((code = 0 ∧ ∃ z, P z u.2 ∧ u.1 = vp_updL fo (0 : Int32).toNatClampNeg z.toInt64) ∨ (¬ code = 0 ∧ u = (fo, v, r)))) := by
  refine KW.of (cc := cL_matrix) (nL := 5) (ret := (some .int)) (hh := [(0, 10, 13, 15)]) (by decide) rfl (Nat.le_of_ble_eq_true rfl) ?_
  intro pg9 en9 s m args below meth cd9 A ls C0 htab hP hD hS hl
  have hx := C0.1.1
  have hb := C0.1.2.1
  have hml := C0.1.2.2.1
  have hown : s.vm.findClass RL = some m.cls := C0.1.2.2.2.1
  have hts : ∀ w ∈ wsL_matrix, w.before args s = true := C0.1.2.2.2.2
  have hK := C0.2.2.2.1
  have hl : lv_has ls 5 [(0, .ref (a 0)), (1, .int p0), (2, .int p1), (3, .ref b)] := hl
  refine lv_aload_n hx hb dL_matrix_0 rfl (lv_at hl 3 rfl) ?_
  refine lv_iconst (v := 0) hx hb dL_matrix_1 (by decide) ?_
  refine lv_aload_n hx hb dL_matrix_2 rfl (lv_at hl 0 rfl) ?_
  refine lv_iload_n hx hb dL_matrix_3 rfl (lv_at hl 1 rfl) ?_
  refine lv_iload_n hx hb dL_matrix_4 rfl (lv_at hl 2 rfl) ?_
  refine kcO C0 hP hD hS hM (cwV 2 hts gL_matrix_X4_matrix rfl rfl rfl (by decide +kernel) ⟨(Nat.le_of_ble_eq_true rfl), (Nat.le_of_ble_eq_true rfl)⟩) 0 4 rfl rfl rfl hl.1 rfl (Nat.le_of_ble_eq_true rfl) dL_matrix_5 ⟨(Nat.le_of_ble_eq_true rfl), (Nat.le_of_ble_eq_true rfl)⟩ (fun E ce q9 H locs hpx hP hD hS h1 h2 h3 => ?_) (fun z u H locs hq hP hD hS => ?_)
  · rcases hpx with ⟨hco, rfl⟩
    · refine kw_catch C0 [] ⟨0, 10, 13, 15⟩ [] htab (fun z h => absurd h List.not_mem_nil) (by decide) (by decide) (by decide +kernel) (by decide +kernel) h1 h2 h3 ?_
      refine lv_astore (lv' := [(4, .ref q9), (0, .ref (a 0)), (1, .int p0), (2, .int p1), (3, .ref b)]) hx hb dL_matrix_13 hl (by decide) rfl (fun ls hl => ?_)
      refine lv_iconst (v := 1) hx hb dL_matrix_15 (by decide) ?_
      exact kw_iret C0 (fo, v, r) hP hD hS ⟨hco.symm, Or.inr ⟨by rw [hco]; decide, rfl⟩⟩ (Nat.le_of_ble_eq_true rfl) (Nat.le_of_ble_eq_true rfl) dL_matrix_16
  · refine lv_i2l hx hb dL_matrix_8 rfl ?_
    refine va_last hx hb hK hP hD hS 0 1 rfl rfl (vp_in_nI (n := 0) (N := 1) (by decide) (by decide)) dL_matrix_9 (fun H locs hP hD hS => ?_)
    refine lv_goto (tgt := 17) hx hb dL_matrix_10 (by decide) ?_
    refine lv_iconst (v := 0) hx hb dL_matrix_17 (by decide) ?_
    exact kw_iret C0 (vp_updL fo (0 : Int32).toNatClampNeg z.toInt64, u) hP hD hS ⟨hq.1.symm, Or.inl ⟨hq.1, z, hq.2, rfl⟩⟩ (Nat.le_of_ble_eq_true rfl) (Nat.le_of_ble_eq_true rfl) dL_matrix_18
set_option maxHeartbeats 1500000 in
set_option maxRecDepth 100000 in
theorem w_style (l : Launch) (D : va_G) (cI cL : ClassId) (a : Nat → Nat) (b : Nat) (fo : Nat → Int64) (v : Nat → Int32) (r : Nat → Nat → Int32) (p0 : Int32) (p1 : Int32) (code : Int32) (P : Int32 → (Nat → Int32) × Rw → Prop) (hM : KX l D cI yX4_style wsX4_style ({ frames := 7, cells := 2, slots := 12, locals := 102 }) [.ref (a 0), .int p0, .int p1] (wX cI a v r) 2 12 (fun u : (Nat → Int32) × Rw => wX cI a u.1 u.2) (fun q u => code = 0 ∧ P q u) (fun E => (code = 1 ∧ E = "java/lang/IllegalArgumentException") ∨ (code = 2 ∧ E = "java/lang/UnsupportedOperationException"))) :
    KW l D cI cL yL_style wsL_style ({ frames := 8, cells := 2, slots := 12, locals := 124 }) [.ref (a 0), .int p0, .int p1, .ref b] (wO cI cL a b fo v r) 2 12 (fun u : (Nat → Int64) × (Nat → Int32) × Rw => wO cI cL a b u.1 u.2.1 u.2.2) (fun k u => k = code ∧ ((code = 0 ∧ ∃ z, P z u.2 ∧ u.1 = vp_updL fo (0 : Int32).toNatClampNeg z.toInt64) ∨ (¬ code = 0 ∧ u = (fo, v, r)))) := by
  refine KW.of (cc := cL_style) (nL := 5) (ret := (some .int)) (hh := [(0, 10, 13, 13), (0, 10, 17, 15)]) (by decide) rfl (Nat.le_of_ble_eq_true rfl) ?_
  intro pg9 en9 s m args below meth cd9 A ls C0 htab hP hD hS hl
  have hx := C0.1.1
  have hb := C0.1.2.1
  have hml := C0.1.2.2.1
  have hown : s.vm.findClass RL = some m.cls := C0.1.2.2.2.1
  have hts : ∀ w ∈ wsL_style, w.before args s = true := C0.1.2.2.2.2
  have hK := C0.2.2.2.1
  have hl : lv_has ls 5 [(0, .ref (a 0)), (1, .int p0), (2, .int p1), (3, .ref b)] := hl
  refine lv_aload_n hx hb dL_style_0 rfl (lv_at hl 3 rfl) ?_
  refine lv_iconst (v := 0) hx hb dL_style_1 (by decide) ?_
  refine lv_aload_n hx hb dL_style_2 rfl (lv_at hl 0 rfl) ?_
  refine lv_iload_n hx hb dL_style_3 rfl (lv_at hl 1 rfl) ?_
  refine lv_iload_n hx hb dL_style_4 rfl (lv_at hl 2 rfl) ?_
  refine kcO C0 hP hD hS hM (cwV 2 hts gL_style_X4_style rfl rfl rfl (by decide +kernel) ⟨(Nat.le_of_ble_eq_true rfl), (Nat.le_of_ble_eq_true rfl)⟩) 0 4 rfl rfl rfl hl.1 rfl (Nat.le_of_ble_eq_true rfl) dL_style_5 ⟨(Nat.le_of_ble_eq_true rfl), (Nat.le_of_ble_eq_true rfl)⟩ (fun E ce q9 H locs hpx hP hD hS h1 h2 h3 => ?_) (fun z u H locs hq hP hD hS => ?_)
  · rcases hpx with ⟨hco, rfl⟩ | ⟨hco, rfl⟩
    · refine kw_catch C0 [] ⟨0, 10, 13, 13⟩ [⟨0, 10, 17, 15⟩] htab (fun z h => absurd h List.not_mem_nil) (by decide) (by decide) (by decide +kernel) (by decide +kernel) h1 h2 h3 ?_
      refine lv_astore (lv' := [(4, .ref q9), (0, .ref (a 0)), (1, .int p0), (2, .int p1), (3, .ref b)]) hx hb dL_style_13 hl (by decide) rfl (fun ls hl => ?_)
      refine lv_iconst (v := 1) hx hb dL_style_15 (by decide) ?_
      exact kw_iret C0 (fo, v, r) hP hD hS ⟨hco.symm, Or.inr ⟨by rw [hco]; decide, rfl⟩⟩ (Nat.le_of_ble_eq_true rfl) (Nat.le_of_ble_eq_true rfl) dL_style_16
    · refine kw_catch C0 [⟨0, 10, 13, 13⟩] ⟨0, 10, 17, 15⟩ [] htab (List.forall_mem_cons.mpr ⟨⟨by decide, "java/lang/IllegalArgumentException", by decide +kernel, by decide⟩, (fun z h => absurd h List.not_mem_nil)⟩) (by decide) (by decide) (by decide +kernel) (by decide +kernel) h1 h2 h3 ?_
      refine lv_astore (lv' := [(4, .ref q9), (0, .ref (a 0)), (1, .int p0), (2, .int p1), (3, .ref b)]) hx hb dL_style_17 hl (by decide) rfl (fun ls hl => ?_)
      refine lv_iconst (v := 2) hx hb dL_style_19 (by decide) ?_
      exact kw_iret C0 (fo, v, r) hP hD hS ⟨hco.symm, Or.inr ⟨by rw [hco]; decide, rfl⟩⟩ (Nat.le_of_ble_eq_true rfl) (Nat.le_of_ble_eq_true rfl) dL_style_20
  · refine lv_i2l hx hb dL_style_8 rfl ?_
    refine va_last hx hb hK hP hD hS 0 1 rfl rfl (vp_in_nI (n := 0) (N := 1) (by decide) (by decide)) dL_style_9 (fun H locs hP hD hS => ?_)
    refine lv_goto (tgt := 21) hx hb dL_style_10 (by decide) ?_
    refine lv_iconst (v := 0) hx hb dL_style_21 (by decide) ?_
    exact kw_iret C0 (vp_updL fo (0 : Int32).toNatClampNeg z.toInt64, u) hP hD hS ⟨hq.1.symm, Or.inl ⟨hq.1, z, hq.2, rfl⟩⟩ (Nat.le_of_ble_eq_true rfl) (Nat.le_of_ble_eq_true rfl) dL_style_22
set_option maxHeartbeats 1500000 in
set_option maxRecDepth 100000 in
theorem w_run (l : Launch) (D : va_G) (cI cL : ClassId) (a : Nat → Nat) (b : Nat) (fo : Nat → Int64) (v : Nat → Int32) (r : Nat → Nat → Int32) (p0 : Int32) (code : Int32) (P : Int32 → (Nat → Int32) × Rw → Prop) (hM : KX l D cI yX4_run wsX4_run ({ frames := 126, cells := 1, slots := 6, locals := 6221 }) [.ref (a 0), .int p0] (wX cI a v r) 1 6 (fun u : (Nat → Int32) × Rw => wX cI a u.1 u.2) (fun q u => code = 0 ∧ P q u) (fun E => (code = 1 ∧ E = "java/util/NoSuchElementException"))) :
    KW l D cI cL yL_run wsL_run ({ frames := 127, cells := 1, slots := 6, locals := 6242 }) [.ref (a 0), .int p0, .ref b] (wO cI cL a b fo v r) 1 6 (fun u : (Nat → Int64) × (Nat → Int32) × Rw => wO cI cL a b u.1 u.2.1 u.2.2) (fun k u => k = code ∧ ((code = 0 ∧ ∃ z, P z u.2 ∧ u.1 = vp_updL fo (0 : Int32).toNatClampNeg z.toInt64) ∨ (¬ code = 0 ∧ u = (fo, v, r)))) := by
  refine KW.of (cc := cL_run) (nL := 4) (ret := (some .int)) (hh := [(0, 9, 12, 21)]) (by decide) rfl (Nat.le_of_ble_eq_true rfl) ?_
  intro pg9 en9 s m args below meth cd9 A ls C0 htab hP hD hS hl
  have hx := C0.1.1
  have hb := C0.1.2.1
  have hml := C0.1.2.2.1
  have hown : s.vm.findClass RL = some m.cls := C0.1.2.2.2.1
  have hts : ∀ w ∈ wsL_run, w.before args s = true := C0.1.2.2.2.2
  have hK := C0.2.2.2.1
  have hl : lv_has ls 4 [(0, .ref (a 0)), (1, .int p0), (2, .ref b)] := hl
  refine lv_aload_n hx hb dL_run_0 rfl (lv_at hl 2 rfl) ?_
  refine lv_iconst (v := 0) hx hb dL_run_1 (by decide) ?_
  refine lv_aload_n hx hb dL_run_2 rfl (lv_at hl 0 rfl) ?_
  refine lv_iload_n hx hb dL_run_3 rfl (lv_at hl 1 rfl) ?_
  refine kcO C0 hP hD hS hM (cwV 1 hts gL_run_X4_run rfl rfl rfl (by decide +kernel) ⟨(Nat.le_of_ble_eq_true rfl), (Nat.le_of_ble_eq_true rfl)⟩) 0 4 rfl rfl rfl hl.1 rfl (Nat.le_of_ble_eq_true rfl) dL_run_4 ⟨(Nat.le_of_ble_eq_true rfl), (Nat.le_of_ble_eq_true rfl)⟩ (fun E ce q9 H locs hpx hP hD hS h1 h2 h3 => ?_) (fun z u H locs hq hP hD hS => ?_)
  · rcases hpx with ⟨hco, rfl⟩
    · refine kw_catch C0 [] ⟨0, 9, 12, 21⟩ [] htab (fun z h => absurd h List.not_mem_nil) (by decide) (by decide) (by decide +kernel) (by decide +kernel) h1 h2 h3 ?_
      refine lv_astore_n (lv' := [(3, .ref q9), (0, .ref (a 0)), (1, .int p0), (2, .ref b)]) hx hb dL_run_12 rfl hl (by decide) rfl (fun ls hl => ?_)
      refine lv_iconst (v := 1) hx hb dL_run_13 (by decide) ?_
      exact kw_iret C0 (fo, v, r) hP hD hS ⟨hco.symm, Or.inr ⟨by rw [hco]; decide, rfl⟩⟩ (Nat.le_of_ble_eq_true rfl) (Nat.le_of_ble_eq_true rfl) dL_run_14
  · refine lv_i2l hx hb dL_run_7 rfl ?_
    refine va_last hx hb hK hP hD hS 0 1 rfl rfl (vp_in_nI (n := 0) (N := 1) (by decide) (by decide)) dL_run_8 (fun H locs hP hD hS => ?_)
    refine lv_goto (tgt := 15) hx hb dL_run_9 (by decide) ?_
    refine lv_iconst (v := 0) hx hb dL_run_15 (by decide) ?_
    exact kw_iret C0 (vp_updL fo (0 : Int32).toNatClampNeg z.toInt64, u) hP hD hS ⟨hq.1.symm, Or.inl ⟨hq.1, z, hq.2, rfl⟩⟩ (Nat.le_of_ble_eq_true rfl) (Nat.le_of_ble_eq_true rfl) dL_run_16
set_option maxHeartbeats 1500000 in
set_option maxRecDepth 100000 in
theorem w_item (l : Launch) (D : va_G) (cI cL : ClassId) (a : Nat → Nat) (b : Nat) (fo : Nat → Int64) (v : Nat → Int32) (r : Nat → Nat → Int32) (p0 : Int32) (p1 : Int32) (code : Int32) (P : Int32 → (Nat → Int32) × Rw → Prop) (hM : KX l D cI yX4_item wsX4_item ({ frames := 6, cells := 1, slots := 6, locals := 82 }) [.ref (a 0), .int p0, .int p1] (wX cI a v r) 1 6 (fun u : (Nat → Int32) × Rw => wX cI a u.1 u.2) (fun q u => code = 0 ∧ P q u) (fun E => (code = 1 ∧ E = "java/lang/IndexOutOfBoundsException"))) :
    KW l D cI cL yL_item wsL_item ({ frames := 7, cells := 1, slots := 6, locals := 104 }) [.ref (a 0), .int p0, .int p1, .ref b] (wO cI cL a b fo v r) 1 6 (fun u : (Nat → Int64) × (Nat → Int32) × Rw => wO cI cL a b u.1 u.2.1 u.2.2) (fun k u => k = code ∧ ((code = 0 ∧ ∃ z, P z u.2 ∧ u.1 = vp_updL fo (0 : Int32).toNatClampNeg z.toInt64) ∨ (¬ code = 0 ∧ u = (fo, v, r)))) := by
  refine KW.of (cc := cL_item) (nL := 5) (ret := (some .int)) (hh := [(0, 10, 13, 47)]) (by decide) rfl (Nat.le_of_ble_eq_true rfl) ?_
  intro pg9 en9 s m args below meth cd9 A ls C0 htab hP hD hS hl
  have hx := C0.1.1
  have hb := C0.1.2.1
  have hml := C0.1.2.2.1
  have hown : s.vm.findClass RL = some m.cls := C0.1.2.2.2.1
  have hts : ∀ w ∈ wsL_item, w.before args s = true := C0.1.2.2.2.2
  have hK := C0.2.2.2.1
  have hl : lv_has ls 5 [(0, .ref (a 0)), (1, .int p0), (2, .int p1), (3, .ref b)] := hl
  refine lv_aload_n hx hb dL_item_0 rfl (lv_at hl 3 rfl) ?_
  refine lv_iconst (v := 0) hx hb dL_item_1 (by decide) ?_
  refine lv_aload_n hx hb dL_item_2 rfl (lv_at hl 0 rfl) ?_
  refine lv_iload_n hx hb dL_item_3 rfl (lv_at hl 1 rfl) ?_
  refine lv_iload_n hx hb dL_item_4 rfl (lv_at hl 2 rfl) ?_
  refine kcO C0 hP hD hS hM (cwV 2 hts gL_item_X4_item rfl rfl rfl (by decide +kernel) ⟨(Nat.le_of_ble_eq_true rfl), (Nat.le_of_ble_eq_true rfl)⟩) 0 4 rfl rfl rfl hl.1 rfl (Nat.le_of_ble_eq_true rfl) dL_item_5 ⟨(Nat.le_of_ble_eq_true rfl), (Nat.le_of_ble_eq_true rfl)⟩ (fun E ce q9 H locs hpx hP hD hS h1 h2 h3 => ?_) (fun z u H locs hq hP hD hS => ?_)
  · rcases hpx with ⟨hco, rfl⟩
    · refine kw_catch C0 [] ⟨0, 10, 13, 47⟩ [] htab (fun z h => absurd h List.not_mem_nil) (by decide) (by decide) (by decide +kernel) (by decide +kernel) h1 h2 h3 ?_
      refine lv_astore (lv' := [(4, .ref q9), (0, .ref (a 0)), (1, .int p0), (2, .int p1), (3, .ref b)]) hx hb dL_item_13 hl (by decide) rfl (fun ls hl => ?_)
      refine lv_iconst (v := 1) hx hb dL_item_15 (by decide) ?_
      exact kw_iret C0 (fo, v, r) hP hD hS ⟨hco.symm, Or.inr ⟨by rw [hco]; decide, rfl⟩⟩ (Nat.le_of_ble_eq_true rfl) (Nat.le_of_ble_eq_true rfl) dL_item_16
  · refine lv_i2l hx hb dL_item_8 rfl ?_
    refine va_last hx hb hK hP hD hS 0 1 rfl rfl (vp_in_nI (n := 0) (N := 1) (by decide) (by decide)) dL_item_9 (fun H locs hP hD hS => ?_)
    refine lv_goto (tgt := 17) hx hb dL_item_10 (by decide) ?_
    refine lv_iconst (v := 0) hx hb dL_item_17 (by decide) ?_
    exact kw_iret C0 (vp_updL fo (0 : Int32).toNatClampNeg z.toInt64, u) hP hD hS ⟨hq.1.symm, Or.inl ⟨hq.1, z, hq.2, rfl⟩⟩ (Nat.le_of_ble_eq_true rfl) (Nat.le_of_ble_eq_true rfl) dL_item_18
set_option maxHeartbeats 1500000 in
set_option maxRecDepth 100000 in
theorem w_space (l : Launch) (D : va_G) (cI cL : ClassId) (a : Nat → Nat) (b : Nat) (fo : Nat → Int64) (v : Nat → Int32) (r : Nat → Nat → Int32) (p0 : Int32) (p1 : Int32) (code : Int32) (P : Int32 → (Nat → Int32) × Rw → Prop) (hM : KX l D cI yX4_space wsX4_space ({ frames := 6, cells := 1, slots := 6, locals := 82 }) [.ref (a 0), .int p0, .int p1] (wX cI a v r) 1 6 (fun u : (Nat → Int32) × Rw => wX cI a u.1 u.2) (fun q u => code = 0 ∧ P q u) (fun E => (code = 1 ∧ E = "java/lang/IllegalArgumentException"))) :
    KW l D cI cL yL_space wsL_space ({ frames := 7, cells := 1, slots := 6, locals := 104 }) [.ref (a 0), .int p0, .int p1, .ref b] (wO cI cL a b fo v r) 1 6 (fun u : (Nat → Int64) × (Nat → Int32) × Rw => wO cI cL a b u.1 u.2.1 u.2.2) (fun k u => k = code ∧ ((code = 0 ∧ ∃ z, P z u.2 ∧ u.1 = vp_updL fo (0 : Int32).toNatClampNeg z.toInt64) ∨ (¬ code = 0 ∧ u = (fo, v, r)))) := by
  refine KW.of (cc := cL_space) (nL := 5) (ret := (some .int)) (hh := [(0, 10, 13, 13)]) (by decide) rfl (Nat.le_of_ble_eq_true rfl) ?_
  intro pg9 en9 s m args below meth cd9 A ls C0 htab hP hD hS hl
  have hx := C0.1.1
  have hb := C0.1.2.1
  have hml := C0.1.2.2.1
  have hown : s.vm.findClass RL = some m.cls := C0.1.2.2.2.1
  have hts : ∀ w ∈ wsL_space, w.before args s = true := C0.1.2.2.2.2
  have hK := C0.2.2.2.1
  have hl : lv_has ls 5 [(0, .ref (a 0)), (1, .int p0), (2, .int p1), (3, .ref b)] := hl
  refine lv_aload_n hx hb dL_space_0 rfl (lv_at hl 3 rfl) ?_
  refine lv_iconst (v := 0) hx hb dL_space_1 (by decide) ?_
  refine lv_aload_n hx hb dL_space_2 rfl (lv_at hl 0 rfl) ?_
  refine lv_iload_n hx hb dL_space_3 rfl (lv_at hl 1 rfl) ?_
  refine lv_iload_n hx hb dL_space_4 rfl (lv_at hl 2 rfl) ?_
  refine kcO C0 hP hD hS hM (cwV 2 hts gL_space_X4_space rfl rfl rfl (by decide +kernel) ⟨(Nat.le_of_ble_eq_true rfl), (Nat.le_of_ble_eq_true rfl)⟩) 0 4 rfl rfl rfl hl.1 rfl (Nat.le_of_ble_eq_true rfl) dL_space_5 ⟨(Nat.le_of_ble_eq_true rfl), (Nat.le_of_ble_eq_true rfl)⟩ (fun E ce q9 H locs hpx hP hD hS h1 h2 h3 => ?_) (fun z u H locs hq hP hD hS => ?_)
  · rcases hpx with ⟨hco, rfl⟩
    · refine kw_catch C0 [] ⟨0, 10, 13, 13⟩ [] htab (fun z h => absurd h List.not_mem_nil) (by decide) (by decide) (by decide +kernel) (by decide +kernel) h1 h2 h3 ?_
      refine lv_astore (lv' := [(4, .ref q9), (0, .ref (a 0)), (1, .int p0), (2, .int p1), (3, .ref b)]) hx hb dL_space_13 hl (by decide) rfl (fun ls hl => ?_)
      refine lv_iconst (v := 1) hx hb dL_space_15 (by decide) ?_
      exact kw_iret C0 (fo, v, r) hP hD hS ⟨hco.symm, Or.inr ⟨by rw [hco]; decide, rfl⟩⟩ (Nat.le_of_ble_eq_true rfl) (Nat.le_of_ble_eq_true rfl) dL_space_16
  · refine lv_i2l hx hb dL_space_8 rfl ?_
    refine va_last hx hb hK hP hD hS 0 1 rfl rfl (vp_in_nI (n := 0) (N := 1) (by decide) (by decide)) dL_space_9 (fun H locs hP hD hS => ?_)
    refine lv_goto (tgt := 17) hx hb dL_space_10 (by decide) ?_
    refine lv_iconst (v := 0) hx hb dL_space_17 (by decide) ?_
    exact kw_iret C0 (vp_updL fo (0 : Int32).toNatClampNeg z.toInt64, u) hP hD hS ⟨hq.1.symm, Or.inl ⟨hq.1, z, hq.2, rfl⟩⟩ (Nat.le_of_ble_eq_true rfl) (Nat.le_of_ble_eq_true rfl) dL_space_18
set_option maxHeartbeats 1500000 in
set_option maxRecDepth 100000 in
theorem w_kind (l : Launch) (D : va_G) (cI cL : ClassId) (a : Nat → Nat) (b : Nat) (fo : Nat → Int64) (v : Nat → Int32) (r : Nat → Nat → Int32) (p0 : Int32) (code : Int32) (P : Int32 → (Nat → Int32) × Rw → Prop) (hM : KX l D cI yX4_kind wsX4_kind ({ frames := 7, cells := 1, slots := 6, locals := 103 }) [.ref (a 0), .int p0] (wX cI a v r) 1 6 (fun u : (Nat → Int32) × Rw => wX cI a u.1 u.2) (fun q u => code = 0 ∧ P q u) (fun E => (code = 1 ∧ E = "java/util/NoSuchElementException"))) :
    KW l D cI cL yL_kind wsL_kind ({ frames := 8, cells := 1, slots := 6, locals := 124 }) [.ref (a 0), .int p0, .ref b] (wO cI cL a b fo v r) 1 6 (fun u : (Nat → Int64) × (Nat → Int32) × Rw => wO cI cL a b u.1 u.2.1 u.2.2) (fun k u => k = code ∧ ((code = 0 ∧ ∃ z, P z u.2 ∧ u.1 = vp_updL fo (0 : Int32).toNatClampNeg z.toInt64) ∨ (¬ code = 0 ∧ u = (fo, v, r)))) := by
  refine KW.of (cc := cL_kind) (nL := 4) (ret := (some .int)) (hh := [(0, 9, 12, 21)]) (by decide) rfl (Nat.le_of_ble_eq_true rfl) ?_
  intro pg9 en9 s m args below meth cd9 A ls C0 htab hP hD hS hl
  have hx := C0.1.1
  have hb := C0.1.2.1
  have hml := C0.1.2.2.1
  have hown : s.vm.findClass RL = some m.cls := C0.1.2.2.2.1
  have hts : ∀ w ∈ wsL_kind, w.before args s = true := C0.1.2.2.2.2
  have hK := C0.2.2.2.1
  have hl : lv_has ls 4 [(0, .ref (a 0)), (1, .int p0), (2, .ref b)] := hl
  refine lv_aload_n hx hb dL_kind_0 rfl (lv_at hl 2 rfl) ?_
  refine lv_iconst (v := 0) hx hb dL_kind_1 (by decide) ?_
  refine lv_aload_n hx hb dL_kind_2 rfl (lv_at hl 0 rfl) ?_
  refine lv_iload_n hx hb dL_kind_3 rfl (lv_at hl 1 rfl) ?_
  refine kcO C0 hP hD hS hM (cwV 1 hts gL_kind_X4_kind rfl rfl rfl (by decide +kernel) ⟨(Nat.le_of_ble_eq_true rfl), (Nat.le_of_ble_eq_true rfl)⟩) 0 4 rfl rfl rfl hl.1 rfl (Nat.le_of_ble_eq_true rfl) dL_kind_4 ⟨(Nat.le_of_ble_eq_true rfl), (Nat.le_of_ble_eq_true rfl)⟩ (fun E ce q9 H locs hpx hP hD hS h1 h2 h3 => ?_) (fun z u H locs hq hP hD hS => ?_)
  · rcases hpx with ⟨hco, rfl⟩
    · refine kw_catch C0 [] ⟨0, 9, 12, 21⟩ [] htab (fun z h => absurd h List.not_mem_nil) (by decide) (by decide) (by decide +kernel) (by decide +kernel) h1 h2 h3 ?_
      refine lv_astore_n (lv' := [(3, .ref q9), (0, .ref (a 0)), (1, .int p0), (2, .ref b)]) hx hb dL_kind_12 rfl hl (by decide) rfl (fun ls hl => ?_)
      refine lv_iconst (v := 1) hx hb dL_kind_13 (by decide) ?_
      exact kw_iret C0 (fo, v, r) hP hD hS ⟨hco.symm, Or.inr ⟨by rw [hco]; decide, rfl⟩⟩ (Nat.le_of_ble_eq_true rfl) (Nat.le_of_ble_eq_true rfl) dL_kind_14
  · refine lv_i2l hx hb dL_kind_7 rfl ?_
    refine va_last hx hb hK hP hD hS 0 1 rfl rfl (vp_in_nI (n := 0) (N := 1) (by decide) (by decide)) dL_kind_8 (fun H locs hP hD hS => ?_)
    refine lv_goto (tgt := 15) hx hb dL_kind_9 (by decide) ?_
    refine lv_iconst (v := 0) hx hb dL_kind_15 (by decide) ?_
    exact kw_iret C0 (vp_updL fo (0 : Int32).toNatClampNeg z.toInt64, u) hP hD hS ⟨hq.1.symm, Or.inl ⟨hq.1, z, hq.2, rfl⟩⟩ (Nat.le_of_ble_eq_true rfl) (Nat.le_of_ble_eq_true rfl) dL_kind_16
set_option maxHeartbeats 1500000 in
set_option maxRecDepth 100000 in
theorem w_split (l : Launch) (D : va_G) (cI cL : ClassId) (a : Nat → Nat) (b : Nat) (fo : Nat → Int64) (v : Nat → Int32) (r : Nat → Nat → Int32) (p0 : Int32) (p1 : Int32) (code : Int32) (P : Int32 → (Nat → Int32) × Rw → Prop) (hM : KX l D cI yX4_split wsX4_split ({ frames := 7, cells := 3, slots := 18, locals := 103 }) [.ref (a 0), .int p0, .int p1] (wX cI a v r) 3 18 (fun u : (Nat → Int32) × Rw => wX cI a u.1 u.2) (fun q u => code = 0 ∧ P q u) (fun E => (code = 1 ∧ E = "java/util/NoSuchElementException") ∨ (code = 2 ∧ E = "java/lang/IndexOutOfBoundsException") ∨ (code = 3 ∧ E = "java/lang/UnsupportedOperationException"))) :
    KW l D cI cL yL_split wsL_split ({ frames := 8, cells := 3, slots := 18, locals := 127 }) [.ref (a 0), .int p0, .int p1, .ref b] (wO cI cL a b fo v r) 3 18 (fun u : (Nat → Int64) × (Nat → Int32) × Rw => wO cI cL a b u.1 u.2.1 u.2.2) (fun k u => k = code ∧ ((code = 0 ∧ ∃ z, P z u.2 ∧ u.1 = vp_updL fo (0 : Int32).toNatClampNeg z.toInt64) ∨ (¬ code = 0 ∧ u = (fo, v, r)))) := by
  refine KW.of (cc := cL_split) (nL := 5) (ret := (some .int)) (hh := [(0, 10, 13, 21), (0, 10, 17, 47), (0, 10, 21, 15)]) (by decide) rfl (Nat.le_of_ble_eq_true rfl) ?_
  intro pg9 en9 s m args below meth cd9 A ls C0 htab hP hD hS hl
  have hx := C0.1.1
  have hb := C0.1.2.1
  have hml := C0.1.2.2.1
  have hown : s.vm.findClass RL = some m.cls := C0.1.2.2.2.1
  have hts : ∀ w ∈ wsL_split, w.before args s = true := C0.1.2.2.2.2
  have hK := C0.2.2.2.1
  have hl : lv_has ls 5 [(0, .ref (a 0)), (1, .int p0), (2, .int p1), (3, .ref b)] := hl
  refine lv_aload_n hx hb dL_split_0 rfl (lv_at hl 3 rfl) ?_
  refine lv_iconst (v := 0) hx hb dL_split_1 (by decide) ?_
  refine lv_aload_n hx hb dL_split_2 rfl (lv_at hl 0 rfl) ?_
  refine lv_iload_n hx hb dL_split_3 rfl (lv_at hl 1 rfl) ?_
  refine lv_iload_n hx hb dL_split_4 rfl (lv_at hl 2 rfl) ?_
  refine kcO C0 hP hD hS hM (cwV 2 hts gL_split_X4_split rfl rfl rfl (by decide +kernel) ⟨(Nat.le_of_ble_eq_true rfl), (Nat.le_of_ble_eq_true rfl)⟩) 0 4 rfl rfl rfl hl.1 rfl (Nat.le_of_ble_eq_true rfl) dL_split_5 ⟨(Nat.le_of_ble_eq_true rfl), (Nat.le_of_ble_eq_true rfl)⟩ (fun E ce q9 H locs hpx hP hD hS h1 h2 h3 => ?_) (fun z u H locs hq hP hD hS => ?_)
  · rcases hpx with ⟨hco, rfl⟩ | ⟨hco, rfl⟩ | ⟨hco, rfl⟩
    · refine kw_catch C0 [] ⟨0, 10, 13, 21⟩ [⟨0, 10, 17, 47⟩, ⟨0, 10, 21, 15⟩] htab (fun z h => absurd h List.not_mem_nil) (by decide) (by decide) (by decide +kernel) (by decide +kernel) h1 h2 h3 ?_
      refine lv_astore (lv' := [(4, .ref q9), (0, .ref (a 0)), (1, .int p0), (2, .int p1), (3, .ref b)]) hx hb dL_split_13 hl (by decide) rfl (fun ls hl => ?_)
      refine lv_iconst (v := 1) hx hb dL_split_15 (by decide) ?_
      exact kw_iret C0 (fo, v, r) hP hD hS ⟨hco.symm, Or.inr ⟨by rw [hco]; decide, rfl⟩⟩ (Nat.le_of_ble_eq_true rfl) (Nat.le_of_ble_eq_true rfl) dL_split_16
    · refine kw_catch C0 [⟨0, 10, 13, 21⟩] ⟨0, 10, 17, 47⟩ [⟨0, 10, 21, 15⟩] htab (List.forall_mem_cons.mpr ⟨⟨by decide, "java/util/NoSuchElementException", by decide +kernel, by decide⟩, (fun z h => absurd h List.not_mem_nil)⟩) (by decide) (by decide) (by decide +kernel) (by decide +kernel) h1 h2 h3 ?_
      refine lv_astore (lv' := [(4, .ref q9), (0, .ref (a 0)), (1, .int p0), (2, .int p1), (3, .ref b)]) hx hb dL_split_17 hl (by decide) rfl (fun ls hl => ?_)
      refine lv_iconst (v := 2) hx hb dL_split_19 (by decide) ?_
      exact kw_iret C0 (fo, v, r) hP hD hS ⟨hco.symm, Or.inr ⟨by rw [hco]; decide, rfl⟩⟩ (Nat.le_of_ble_eq_true rfl) (Nat.le_of_ble_eq_true rfl) dL_split_20
    · refine kw_catch C0 [⟨0, 10, 13, 21⟩, ⟨0, 10, 17, 47⟩] ⟨0, 10, 21, 15⟩ [] htab (List.forall_mem_cons.mpr ⟨⟨by decide, "java/util/NoSuchElementException", by decide +kernel, by decide⟩, (List.forall_mem_cons.mpr ⟨⟨by decide, "java/lang/IndexOutOfBoundsException", by decide +kernel, by decide⟩, (fun z h => absurd h List.not_mem_nil)⟩)⟩) (by decide) (by decide) (by decide +kernel) (by decide +kernel) h1 h2 h3 ?_
      refine lv_astore (lv' := [(4, .ref q9), (0, .ref (a 0)), (1, .int p0), (2, .int p1), (3, .ref b)]) hx hb dL_split_21 hl (by decide) rfl (fun ls hl => ?_)
      refine lv_iconst (v := 3) hx hb dL_split_23 (by decide) ?_
      exact kw_iret C0 (fo, v, r) hP hD hS ⟨hco.symm, Or.inr ⟨by rw [hco]; decide, rfl⟩⟩ (Nat.le_of_ble_eq_true rfl) (Nat.le_of_ble_eq_true rfl) dL_split_24
  · refine lv_i2l hx hb dL_split_8 rfl ?_
    refine va_last hx hb hK hP hD hS 0 1 rfl rfl (vp_in_nI (n := 0) (N := 1) (by decide) (by decide)) dL_split_9 (fun H locs hP hD hS => ?_)
    refine lv_goto (tgt := 25) hx hb dL_split_10 (by decide) ?_
    refine lv_iconst (v := 0) hx hb dL_split_25 (by decide) ?_
    exact kw_iret C0 (vp_updL fo (0 : Int32).toNatClampNeg z.toInt64, u) hP hD hS ⟨hq.1.symm, Or.inl ⟨hq.1, z, hq.2, rfl⟩⟩ (Nat.le_of_ble_eq_true rfl) (Nat.le_of_ble_eq_true rfl) dL_split_26