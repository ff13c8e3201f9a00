/-! A CALL OF THE LAW: the wrapper's contract beside the reference's, and what ties their answers -/
def STEP (l : Launch) (D : va_G) (cI cL : ClassId) (a : Nat → Nat) (b : Nat) (aM : Nat → Nat) (fo : Nat → Int64) (v : Nat → Int32) (r : Rw) (w : Nat → Int32) (q : Rw) (yW : MethodName) (wsW : List Cond) (rmW : Room) (AsW : List Value) (mc ms : Nat) (yM : MethodName) (wsM : List Cond) (rmM : Room) (AsM : List Value) : Prop :=
  ∃ (PW : Int32 → (Nat → Int64) × (Nat → Int32) × Rw → Prop) (G : Int32 → (Nat → Int32) × Rw → Prop),
    KW l D cI cL yW wsW rmW AsW (wO cI cL a b fo v r) mc ms (fun u : (Nat → Int64) × (Nat → Int32) × Rw => wO cI cL a b u.1 u.2.1 u.2.2) PW ∧
    KI l D cI yM wsM rmM AsM (wM cI aM w q) (fun u : (Nat → Int32) × Rw => wM cI aM u.1 u.2) G ∧
    ∀ k u z' u', PW k u → G z' u' → u'.1 0 = k ∧ (k = 0 → u.1 0 = z'.toInt64) ∧ INV u.2.1 u.2.2 u'.1 u'.2
theorem step_of {l : Launch} {D : va_G} {cI cL : ClassId} {a : Nat → Nat} {b : Nat} {aM : Nat → Nat} {fo : Nat → Int64} {v : Nat → Int32} {r : Rw} {w : Nat → Int32} {q : Rw} {yW : MethodName} {wsW : List Cond} {rmW : Room} {AsW : List Value} {mc ms : Nat} {yM : MethodName} {wsM : List Cond} {rmM : Room} {AsM : List Value} {code : Int32} {P : Int32 → (Nat → Int32) × Rw → Prop} {G : Int32 → (Nat → Int32) × Rw → Prop}
    (hW : KW l D cI cL yW wsW rmW AsW (wO cI cL a b fo v r) mc ms (fun u : (Nat → Int64) × (Nat → Int32) × Rw => wO cI cL a b u.1 u.2.1 u.2.2) (fun k u => k = code ∧ ((code = 0 ∧ ∃ z, P z u.2 ∧ u.1 = vp_updL fo (0 : Int32).toNatClampNeg z.toInt64) ∨ (¬ code = 0 ∧ u = (fo, v, r)))))
    (hM : KI l D cI yM wsM rmM AsM (wM cI aM w q) (fun u : (Nat → Int32) × Rw => wM cI aM u.1 u.2) G)
    (h : ∀ z' u', G z' u' → u'.1 0 = code ∧ (¬ code = 0 → INV v r u'.1 u'.2) ∧ (code = 0 → ∀ z u, P z u → z' = z ∧ INV u.1 u.2 u'.1 u'.2)) : STEP l D cI cL a b aM fo v r w q yW wsW rmW AsW mc ms yM wsM rmM AsM := by
  refine ⟨_, _, hW, hM, fun k u z' u' hp hg => ?_⟩
  obtain ⟨h1, h2, h3⟩ := h z' u' hg
  obtain ⟨hk, ⟨hc, z, hP, hu⟩ | ⟨hc, hu⟩⟩ := hp
  · obtain ⟨e, hI⟩ := h3 hc z u.2 hP
    refine ⟨h1.trans hk.symm, fun _ => ?_, hI⟩
    rw [hu, e]
    exact if_pos rfl
  · subst hu
    exact ⟨h1.trans hk.symm, fun e => absurd (hk.symm.trans e) hc, h2 hc⟩
theorem dpM_ok {q : Rw} {N L : Nat} {ht sl : Nat → Nat} (hT : TRE q N L ht sl) : (∀ j, j < 30 → dpH ht j ≤ 30) ∧ ∀ j, j < 30 → q 1 j = -1 ∨ ∃ n i, q 1 j = nI n ∧ n < 120 ∧ q 2 n = nI i ∧ i < 30 ∧ dpH ht i < dpH ht j := by
  obtain ⟨⟨hN, hL1, hL⟩, h2, h3, -⟩ := hT
  refine ⟨fun j hj => Nat.le_trans (dpH_29 hj) (by omega), fun j hj => ?_⟩
  rcases h3 j hj with h | ⟨n, i, e1, e2, e3, e4, e5⟩
  · exact Or.inl h
  · exact Or.inr ⟨n, i, e1, by omega, e3, by omega, dpH_lt (by omega) e5⟩
theorem p_atom {l : Launch} (D : va_G) (cI cL : ClassId) (a : Nat → Nat) (b : Nat) (aM : Nat → Nat) (fo : Nat → Int64) {v : Nat → Int32} {r : Rw} {w : Nat → Int32} {q : Rw} (hst : l.stackTraces = false) (h : INV v r w q) (x : Int32) (y : Int32) : STEP l D cI cL a b aM fo v r w q yL_atom wsL_atom ({ frames := 8, cells := 2, slots := 12, locals := 125 }) [.ref (a 0), .int x, .int y, .ref b] 2 12 yX5_atom wsX5_atom ({ frames := 1, cells := 0, slots := 0, locals := 26 }) [.ref (aM 0), .int x, .int y] := by
  have hI := h
  obtain ⟨N, L, o, K, c, ht, sl, hT, hR⟩ := h
  obtain ⟨hN1, hL0, hL1⟩ := hT.1
  have hN := hR.2.1
  have hL := hR.2.2.1
  have hO := hR.2.2.2.1
  have hK := hR.2.2.2.2.1
  have hC := hR.2.2.2.2.2.1.1
  have hC2 := hR.2.2.2.2.2.1.2.1
  have hoL := hR.1.1
  have hc1 := hR.1.2.1
  have hc2 : c ≤ 500 := by omega
  have ho : o < 30 := by omega
  have hX := dpX_ok hT hR
  have hM := dpM_ok hT
  have hlo2 : ∀ n, n < N → ∃ i, q 2 n = nI i ∧ i < 30 := fun n hn => by
    obtain ⟨i, h1, h2⟩ := hT.2.1 n (by omega)
    exact ⟨i, h2, by omega⟩
  have hlo : ∀ n, n < N → ∃ i, r 2 n = nI i ∧ i < L := fun n hn => by
    obtain ⟨i, h1, h2⟩ := hT.2.1 n (by omega)
    exact ⟨i, by rw [hR.2.2.2.2.2.2.1.1]; exact h2, h1⟩
  refine step_of (w_atom l D cI cL a b fo v r x y _ _ (c_X4_atom l D cI a v r x y N L hst hN.1 hN1 hL.1 hL1)) (c_X5_atom l D cI aM w q x y N hN.2 hN1) (fun z' u' hg => ?_)
  obtain ⟨e1, e2, e3⟩ := s_atom hT hR x y
  rw [← hg] at e1 e2 e3
  exact ⟨e1, e2, fun hc z u hp => e3 hc z u.1 u.2 hp⟩
theorem p_script {l : Launch} (D : va_G) (cI cL : ClassId) (a : Nat → Nat) (b : Nat) (aM : Nat → Nat) (fo : Nat → Int64) {v : Nat → Int32} {r : Rw} {w : Nat → Int32} {q : Rw} (hst : l.stackTraces = false) (h : INV v r w q) (x : Int32) (y : Int32) (z : Int32) : STEP l D cI cL a b aM fo v r w q yL_script wsL_script ({ frames := 8, cells := 4, slots := 24, locals := 128 }) [.ref (a 0), .int x, .int y, .int z, .ref b] 4 24 yX5_script wsX5_script ({ frames := 1, cells := 0, slots := 0, locals := 23 }) [.ref (aM 0), .int x, .int y, .int z] := by
  have hI := h
  obtain ⟨N, L, o, K, c, ht, sl, hT, hR⟩ := h
  obtain ⟨hN1, hL0, hL1⟩ := hT.1
  have hN := hR.2.1
  have hL := hR.2.2.1
  have hO := hR.2.2.2.1
  have hK := hR.2.2.2.2.1
  have hC := hR.2.2.2.2.2.1.1
  have hC2 := hR.2.2.2.2.2.1.2.1
  have hoL := hR.1.1
  have hc1 := hR.1.2.1
  have hc2 : c ≤ 500 := by omega
  have ho : o < 30 := by omega
  have hX := dpX_ok hT hR
  have hM := dpM_ok hT
  have hlo2 : ∀ n, n < N → ∃ i, q 2 n = nI i ∧ i < 30 := fun n hn => by
    obtain ⟨i, h1, h2⟩ := hT.2.1 n (by omega)
    exact ⟨i, h2, by omega⟩
  have hlo : ∀ n, n < N → ∃ i, r 2 n = nI i ∧ i < L := fun n hn => by
    obtain ⟨i, h1, h2⟩ := hT.2.1 n (by omega)
    exact ⟨i, by rw [hR.2.2.2.2.2.2.1.1]; exact h2, h1⟩
  refine step_of (w_script l D cI cL a b fo v r x y z _ _ (c_X4_script l D cI a v r x y z N L (dpX ht L) hst hN.1 hN1 hL.1 hL1 hlo hX.1 hX.2)) (c_X5_script l D cI aM w q x y z N L (dpH ht) hN.2 hN1 hL.2 hL1 hlo2 hM.1 hM.2) (fun z' u' hg => ?_)
  obtain ⟨e1, e2, e3⟩ := s_script hT hR x y z
  rw [← hg] at e1 e2 e3
  exact ⟨e1, e2, fun hc z u hp => e3 hc z u.1 u.2 hp⟩
theorem p_fraction {l : Launch} (D : va_G) (cI cL : ClassId) (a : Nat → Nat) (b : Nat) (aM : Nat → Nat) (fo : Nat → Int64) {v : Nat → Int32} {r : Rw} {w : Nat → Int32} {q : Rw} (hst : l.stackTraces = false) (h : INV v r w q) (x : Int32) (y : Int32) (Z : Int64) : STEP l D cI cL a b aM fo v r w q yL_fraction wsL_fraction ({ frames := 8, cells := 6, slots := 36, locals := 129 }) [.ref (a 0), .int x, .int y, .long Z, .ref b] 6 36 yX5_fraction wsX5_fraction ({ frames := 2, cells := 0, slots := 0, locals := 44 }) [.ref (aM 0), .int x, .int y, .long Z] := by
  have hI := h
  obtain ⟨N, L, o, K, c, ht, sl, hT, hR⟩ := h
  obtain ⟨hN1, hL0, hL1⟩ := hT.1
  have hN := hR.2.1
  have hL := hR.2.2.1
  have hO := hR.2.2.2.1
  have hK := hR.2.2.2.2.1
  have hC := hR.2.2.2.2.2.1.1
  have hC2 := hR.2.2.2.2.2.1.2.1
  have hoL := hR.1.1
  have hc1 := hR.1.2.1
  have hc2 : c ≤ 500 := by omega
  have ho : o < 30 := by omega
  have hX := dpX_ok hT hR
  have hM := dpM_ok hT
  have hlo2 : ∀ n, n < N → ∃ i, q 2 n = nI i ∧ i < 30 := fun n hn => by
    obtain ⟨i, h1, h2⟩ := hT.2.1 n (by omega)
    exact ⟨i, h2, by omega⟩
  have hlo : ∀ n, n < N → ∃ i, r 2 n = nI i ∧ i < L := fun n hn => by
    obtain ⟨i, h1, h2⟩ := hT.2.1 n (by omega)
    exact ⟨i, by rw [hR.2.2.2.2.2.2.1.1]; exact h2, h1⟩
  refine step_of (w_fraction l D cI cL a b fo v r x y Z _ _ (c_X4_fraction l D cI a v r x y Z N L o (dpX ht L) hst hN.1 hN1 hL.1 hL1 hO.1 ho hX.1 hoL hX.2)) (c_X5_fraction l D cI aM w q x y Z N L o (dpH ht) hN.2 hN1 hL.2 hL1 hO.2 ho hM.1 hM.2) (fun z' u' hg => ?_)
  obtain ⟨e1, e2, e3⟩ := s_fraction hT hR x y Z
  rw [← hg] at e1 e2 e3
  exact ⟨e1, e2, fun hc z u hp => e3 hc z u.1 u.2 hp⟩
theorem p_fence {l : Launch} (D : va_G) (cI cL : ClassId) (a : Nat → Nat) (b : Nat) (aM : Nat → Nat) (fo : Nat → Int64) {v : Nat → Int32} {r : Rw} {w : Nat → Int32} {q : Rw} (hst : l.stackTraces = false) (h : INV v r w q) (x : Int32) (y : Int32) (z : Int32) : STEP l D cI cL a b aM fo v r w q yL_fence wsL_fence ({ frames := 8, cells := 4, slots := 24, locals := 128 }) [.ref (a 0), .int x, .int y, .int z, .ref b] 4 24 yX5_fence wsX5_fence ({ frames := 2, cells := 0, slots := 0, locals := 44 }) [.ref (aM 0), .int x, .int y, .int z] := by
  have hI := h
  obtain ⟨N, L, o, K, c, ht, sl, hT, hR⟩ := h
  obtain ⟨hN1, hL0, hL1⟩ := hT.1
  have hN := hR.2.1
  have hL := hR.2.2.1
  have hO := hR.2.2.2.1
  have hK := hR.2.2.2.2.1
  have hC := hR.2.2.2.2.2.1.1
  have hC2 := hR.2.2.2.2.2.1.2.1
  have hoL := hR.1.1
  have hc1 := hR.1.2.1
  have hc2 : c ≤ 500 := by omega
  have ho : o < 30 := by omega
  have hX := dpX_ok hT hR
  have hM := dpM_ok hT
  have hlo2 : ∀ n, n < N → ∃ i, q 2 n = nI i ∧ i < 30 := fun n hn => by
    obtain ⟨i, h1, h2⟩ := hT.2.1 n (by omega)
    exact ⟨i, h2, by omega⟩
  have hlo : ∀ n, n < N → ∃ i, r 2 n = nI i ∧ i < L := fun n hn => by
    obtain ⟨i, h1, h2⟩ := hT.2.1 n (by omega)
    exact ⟨i, by rw [hR.2.2.2.2.2.2.1.1]; exact h2, h1⟩
  refine step_of (w_fence l D cI cL a b fo v r x y z _ _ (c_X4_fence l D cI a v r x y z N L o (dpX ht L) hst hN.1 hN1 hL.1 hL1 hO.1 ho hX.1 hoL hX.2)) (c_X5_fence l D cI aM w q x y z N L o (dpH ht) hN.2 hN1 hL.2 hL1 hO.2 ho hM.1 hM.2) (fun z' u' hg => ?_)
  obtain ⟨e1, e2, e3⟩ := s_fence hT hR x y z
  rw [← hg] at e1 e2 e3
  exact ⟨e1, e2, fun hc z u hp => e3 hc z u.1 u.2 hp⟩
theorem p_matrix {l : Launch} (D : va_G) (cI cL : ClassId) (a : Nat → Nat) (b : Nat) (aM : Nat → Nat) (fo : Nat → Int64) {v : Nat → Int32} {r : Rw} {w : Nat → Int32} {q : Rw} (hst : l.stackTraces = false) (h : INV v r w q) (x : Int32) (y : Int32) : STEP l D cI cL a b aM fo v r w q yL_matrix wsL_matrix ({ frames := 8, cells := 1, slots := 6, locals := 126 }) [.ref (a 0), .int x, .int y, .ref b] 1 6 yX5_matrix wsX5_matrix ({ frames := 1, cells := 0, slots := 0, locals := 26 }) [.ref (aM 0), .int x, .int y] := by
  have hI := h
  obtain ⟨N, L, o, K, c, ht, sl, hT, hR⟩ := h
  obtain ⟨hN1, hL0, hL1⟩ := hT.1
  have hN := hR.2.1
  have hL := hR.2.2.1
  have hO := hR.2.2.2.1
  have hK := hR.2.2.2.2.1
  have hC := hR.2.2.2.2.2.1.1
  have hC2 := hR.2.2.2.2.2.1.2.1
  have hoL := hR.1.1
  have hc1 := hR.1.2.1
  have hc2 : c ≤ 500 := by omega
  have ho : o < 30 := by omega
  have hX := dpX_ok hT hR
  have hM := dpM_ok hT
  have hlo2 : ∀ n, n < N → ∃ i, q 2 n = nI i ∧ i < 30 := fun n hn => by
    obtain ⟨i, h1, h2⟩ := hT.2.1 n (by omega)
    exact ⟨i, h2, by omega⟩
  have hlo : ∀ n, n < N → ∃ i, r 2 n = nI i ∧ i < L := fun n hn => by
    obtain ⟨i, h1, h2⟩ := hT.2.1 n (by omega)
    exact ⟨i, by rw [hR.2.2.2.2.2.2.1.1]; exact h2, h1⟩
  refine step_of (w_matrix l D cI cL a b fo v r x y _ _ (c_X4_matrix l D cI a v r x y N L o K (dpX ht L) hst hN.1 hN1 hL.1 hL1 hL0 hO.1 ho hX.1 hoL hX.2 hK (hkb_of hT hR))) (c_X5_matrix l D cI aM w q x y N L o (dpH ht) hN.2 hN1 hL.2 hL1 hL0 hO.2 ho hM.1 hM.2) (fun z' u' hg => ?_)
  obtain ⟨e1, e2, e3⟩ := s_matrix hT hR x y
  rw [← hg] at e1 e2 e3
  exact ⟨e1, e2, fun hc z u hp => e3 hc z u.1 u.2 hp⟩
theorem p_style {l : Launch} (D : va_G) (cI cL : ClassId) (a : Nat → Nat) (b : Nat) (aM : Nat → Nat) (fo : Nat → Int64) {v : Nat → Int32} {r : Rw} {w : Nat → Int32} {q : Rw} (hst : l.stackTraces = false) (h : INV v r w q) (x : Int32) (y : Int32) : STEP l D cI cL a b aM fo v r w q yL_style wsL_style ({ frames := 8, cells := 2, slots := 12, locals := 124 }) [.ref (a 0), .int x, .int y, .ref b] 2 12 yX5_style wsX5_style ({ frames := 1, cells := 0, slots := 0, locals := 26 }) [.ref (aM 0), .int x, .int y] := by
  have hI := h
  obtain ⟨N, L, o, K, c, ht, sl, hT, hR⟩ := h
  obtain ⟨hN1, hL0, hL1⟩ := hT.1
  have hN := hR.2.1
  have hL := hR.2.2.1
  have hO := hR.2.2.2.1
  have hK := hR.2.2.2.2.1
  have hC := hR.2.2.2.2.2.1.1
  have hC2 := hR.2.2.2.2.2.1.2.1
  have hoL := hR.1.1
  have hc1 := hR.1.2.1
  have hc2 : c ≤ 500 := by omega
  have ho : o < 30 := by omega
  have hX := dpX_ok hT hR
  have hM := dpM_ok hT
  have hlo2 : ∀ n, n < N → ∃ i, q 2 n = nI i ∧ i < 30 := fun n hn => by
    obtain ⟨i, h1, h2⟩ := hT.2.1 n (by omega)
    exact ⟨i, h2, by omega⟩
  have hlo : ∀ n, n < N → ∃ i, r 2 n = nI i ∧ i < L := fun n hn => by
    obtain ⟨i, h1, h2⟩ := hT.2.1 n (by omega)
    exact ⟨i, by rw [hR.2.2.2.2.2.2.1.1]; exact h2, h1⟩
  refine step_of (w_style l D cI cL a b fo v r x y _ _ (c_X4_style l D cI a v r x y N hst hN.1 hN1)) (c_X5_style l D cI aM w q x y N hN.2 hN1) (fun z' u' hg => ?_)
  obtain ⟨e1, e2, e3⟩ := s_style hT hR x y
  rw [← hg] at e1 e2 e3
  exact ⟨e1, e2, fun hc z u hp => e3 hc z u.1 u.2 hp⟩
theorem p_run {l : Launch} (D : va_G) (cI cL : ClassId) (a : Nat → Nat) (b : Nat) (aM : Nat → Nat) (fo : Nat → Int64) {v : Nat → Int32} {r : Rw} {w : Nat → Int32} {q : Rw} (hst : l.stackTraces = false) (h : INV v r w q) (x : Int32) : STEP l D cI cL a b aM fo v r w q yL_run wsL_run ({ frames := 127, cells := 1, slots := 6, locals := 6242 }) [.ref (a 0), .int x, .ref b] 1 6 yX5_run wsX5_run ({ frames := 200, cells := 0, slots := 0, locals := 10000 }) [.ref (aM 0), .int x] := by
  have hI := h
  obtain ⟨N, L, o, K, c, ht, sl, hT, hR⟩ := h
  obtain ⟨hN1, hL0, hL1⟩ := hT.1
  have hN := hR.2.1
  have hL := hR.2.2.1
  have hO := hR.2.2.2.1
  have hK := hR.2.2.2.2.1
  have hC := hR.2.2.2.2.2.1.1
  have hC2 := hR.2.2.2.2.2.1.2.1
  have hoL := hR.1.1
  have hc1 := hR.1.2.1
  have hc2 : c ≤ 500 := by omega
  have ho : o < 30 := by omega
  have hX := dpX_ok hT hR
  have hM := dpM_ok hT
  have hlo2 : ∀ n, n < N → ∃ i, q 2 n = nI i ∧ i < 30 := fun n hn => by
    obtain ⟨i, h1, h2⟩ := hT.2.1 n (by omega)
    exact ⟨i, h2, by omega⟩
  have hlo : ∀ n, n < N → ∃ i, r 2 n = nI i ∧ i < L := fun n hn => by
    obtain ⟨i, h1, h2⟩ := hT.2.1 n (by omega)
    exact ⟨i, by rw [hR.2.2.2.2.2.2.1.1]; exact h2, h1⟩
  refine step_of (w_run l D cI cL a b fo v r x _ _ (c_X4_run l D cI a v r q x N L (dpH ht) sl hst hT.ly (fun d => hbd_all hT.ly d) (hR.rq hL1) (fun k hk => pl_150 hT.ly 30 k 0 0 hk) hN.1 hN1 hL.1 hL1)) (c_X5_run l D cI aM w q x N _ hN.2 hN1 (hrk_of hT.ly) (ki_ok hT) (fun _ => by omega) (fun hx => ?_)) (fun z' u' hg => ?_)
  · rw [hL.2] at hx
    have ix := ls_of hL1 hx
    have := pl_150 hT.ly 30 x.toNatClampNeg 0 0 (by omega)
    rw [← ix.1] at this
    omega
  · obtain ⟨e1, e2, e3⟩ := s_run hT hR x z' u'.1 u'.2 hg
    exact ⟨e1, e2, fun hc z u hp => e3 hc z u.1 u.2 hp⟩
theorem p_item {l : Launch} (D : va_G) (cI cL : ClassId) (a : Nat → Nat) (b : Nat) (aM : Nat → Nat) (fo : Nat → Int64) {v : Nat → Int32} {r : Rw} {w : Nat → Int32} {q : Rw} (hst : l.stackTraces = false) (h : INV v r w q) (x : Int32) (y : Int32) : STEP l D cI cL a b aM fo v r w q yL_item wsL_item ({ frames := 7, cells := 1, slots := 6, locals := 104 }) [.ref (a 0), .int x, .int y, .ref b] 1 6 yX5_item wsX5_item ({ frames := 0, cells := 0, slots := 0, locals := 0 }) [.ref (aM 0), .int x, .int y] := by
  have hI := h
  obtain ⟨N, L, o, K, c, ht, sl, hT, hR⟩ := h
  obtain ⟨hN1, hL0, hL1⟩ := hT.1
  have hN := hR.2.1
  have hL := hR.2.2.1
  have hO := hR.2.2.2.1
  have hK := hR.2.2.2.2.1
  have hC := hR.2.2.2.2.2.1.1
  have hC2 := hR.2.2.2.2.2.1.2.1
  have hoL := hR.1.1
  have hc1 := hR.1.2.1
  have hc2 : c ≤ 500 := by omega
  have ho : o < 30 := by omega
  have hX := dpX_ok hT hR
  have hM := dpM_ok hT
  have hlo2 : ∀ n, n < N → ∃ i, q 2 n = nI i ∧ i < 30 := fun n hn => by
    obtain ⟨i, h1, h2⟩ := hT.2.1 n (by omega)
    exact ⟨i, h2, by omega⟩
  have hlo : ∀ n, n < N → ∃ i, r 2 n = nI i ∧ i < L := fun n hn => by
    obtain ⟨i, h1, h2⟩ := hT.2.1 n (by omega)
    exact ⟨i, by rw [hR.2.2.2.2.2.2.1.1]; exact h2, h1⟩
  refine step_of (w_item l D cI cL a b fo v r x y _ _ (c_X4_item l D cI a v r x y c hst hC hc1)) (c_X5_item l D cI aM w q x y c hC2 hc2) (fun z' u' hg => ?_)
  obtain ⟨e1, e2, e3⟩ := s_item hT hR x y
  rw [← hg] at e1 e2 e3
  refine ⟨e1, fun _ => e2, fun hc z u hp => ?_⟩
  obtain ⟨h1, h2⟩ := Prod.mk.inj hp
  obtain ⟨h3, h4⟩ := Prod.mk.inj h2
  rw [h1, h3, h4]
  exact ⟨e3 hc, e2⟩
theorem p_space {l : Launch} (D : va_G) (cI cL : ClassId) (a : Nat → Nat) (b : Nat) (aM : Nat → Nat) (fo : Nat → Int64) {v : Nat → Int32} {r : Rw} {w : Nat → Int32} {q : Rw} (hst : l.stackTraces = false) (h : INV v r w q) (x : Int32) (y : Int32) : STEP l D cI cL a b aM fo v r w q yL_space wsL_space ({ frames := 7, cells := 1, slots := 6, locals := 104 }) [.ref (a 0), .int x, .int y, .ref b] 1 6 yX5_space wsX5_space ({ frames := 1, cells := 0, slots := 0, locals := 22 }) [.ref (aM 0), .int x, .int y] := by
  have hI := h
  obtain ⟨N, L, o, K, c, ht, sl, hT, hR⟩ := h
  obtain ⟨hN1, hL0, hL1⟩ := hT.1
  have hN := hR.2.1
  have hL := hR.2.2.1
  have hO := hR.2.2.2.1
  have hK := hR.2.2.2.2.1
  have hC := hR.2.2.2.2.2.1.1
  have hC2 := hR.2.2.2.2.2.1.2.1
  have hoL := hR.1.1
  have hc1 := hR.1.2.1
  have hc2 : c ≤ 500 := by omega
  have ho : o < 30 := by omega
  have hX := dpX_ok hT hR
  have hM := dpM_ok hT
  have hlo2 : ∀ n, n < N → ∃ i, q 2 n = nI i ∧ i < 30 := fun n hn => by
    obtain ⟨i, h1, h2⟩ := hT.2.1 n (by omega)
    exact ⟨i, h2, by omega⟩
  have hlo : ∀ n, n < N → ∃ i, r 2 n = nI i ∧ i < L := fun n hn => by
    obtain ⟨i, h1, h2⟩ := hT.2.1 n (by omega)
    exact ⟨i, by rw [hR.2.2.2.2.2.2.1.1]; exact h2, h1⟩
  refine step_of (w_space l D cI cL a b fo v r x y _ _ (c_X4_space l D cI a v r x y hst)) (c_X5_space l D cI aM w q x y ) (fun z' u' hg => ?_)
  obtain ⟨e1, e2, e3⟩ := s_space hI x y
  rw [← hg] at e1 e2 e3
  refine ⟨e1, fun _ => e2, fun hc z u hp => ?_⟩
  obtain ⟨h1, h2⟩ := Prod.mk.inj hp
  obtain ⟨h3, h4⟩ := Prod.mk.inj h2
  rw [h1, h3, h4]
  exact ⟨e3 hc, e2⟩
theorem p_kind {l : Launch} (D : va_G) (cI cL : ClassId) (a : Nat → Nat) (b : Nat) (aM : Nat → Nat) (fo : Nat → Int64) {v : Nat → Int32} {r : Rw} {w : Nat → Int32} {q : Rw} (hst : l.stackTraces = false) (h : INV v r w q) (x : Int32) : STEP l D cI cL a b aM fo v r w q yL_kind wsL_kind ({ frames := 8, cells := 1, slots := 6, locals := 124 }) [.ref (a 0), .int x, .ref b] 1 6 yX5_kind wsX5_kind ({ frames := 2, cells := 0, slots := 0, locals := 52 }) [.ref (aM 0), .int x] := by
  have hI := h
  obtain ⟨N, L, o, K, c, ht, sl, hT, hR⟩ := h
  obtain ⟨hN1, hL0, hL1⟩ := hT.1
  have hN := hR.2.1
  have hL := hR.2.2.1
  have hO := hR.2.2.2.1
  have hK := hR.2.2.2.2.1
  have hC := hR.2.2.2.2.2.1.1
  have hC2 := hR.2.2.2.2.2.1.2.1
  have hoL := hR.1.1
  have hc1 := hR.1.2.1
  have hc2 : c ≤ 500 := by omega
  have ho : o < 30 := by omega
  have hX := dpX_ok hT hR
  have hM := dpM_ok hT
  have hlo2 : ∀ n, n < N → ∃ i, q 2 n = nI i ∧ i < 30 := fun n hn => by
    obtain ⟨i, h1, h2⟩ := hT.2.1 n (by omega)
    exact ⟨i, h2, by omega⟩
  have hlo : ∀ n, n < N → ∃ i, r 2 n = nI i ∧ i < L := fun n hn => by
    obtain ⟨i, h1, h2⟩ := hT.2.1 n (by omega)
    exact ⟨i, by rw [hR.2.2.2.2.2.2.1.1]; exact h2, h1⟩
  refine step_of (w_kind l D cI cL a b fo v r x _ _ (c_X4_kind l D cI a v r x N hst hN.1 hN1)) (c_X5_kind l D cI aM w q x N hN.2 hN1 (ki_ok hT)) (fun z' u' hg => ?_)
  obtain ⟨e1, e2, e3⟩ := s_kind hT hR x
  rw [← hg] at e1 e2 e3
  refine ⟨e1, fun _ => e2, fun hc z u hp => ?_⟩
  obtain ⟨h1, h2⟩ := Prod.mk.inj hp
  obtain ⟨h3, h4⟩ := Prod.mk.inj h2
  rw [h1, h3, h4]
  exact ⟨e3 hc, e2⟩
theorem p_split {l : Launch} (D : va_G) (cI cL : ClassId) (a : Nat → Nat) (b : Nat) (aM : Nat → Nat) (fo : Nat → Int64) {v : Nat → Int32} {r : Rw} {w : Nat → Int32} {q : Rw} (hst : l.stackTraces = false) (h : INV v r w q) (x : Int32) (y : Int32) : STEP l D cI cL a b aM fo v r w q yL_split wsL_split ({ frames := 8, cells := 3, slots := 18, locals := 127 }) [.ref (a 0), .int x, .int y, .ref b] 3 18 yX5_split wsX5_split ({ frames := 1, cells := 0, slots := 0, locals := 21 }) [.ref (aM 0), .int x, .int y] := by
  have hI := h
  obtain ⟨N, L, o, K, c, ht, sl, hT, hR⟩ := h
  obtain ⟨hN1, hL0, hL1⟩ := hT.1
  have hN := hR.2.1
  have hL := hR.2.2.1
  have hO := hR.2.2.2.1
  have hK := hR.2.2.2.2.1
  have hC := hR.2.2.2.2.2.1.1
  have hC2 := hR.2.2.2.2.2.1.2.1
  have hoL := hR.1.1
  have hc1 := hR.1.2.1
  have hc2 : c ≤ 500 := by omega
  have ho : o < 30 := by omega
  have hX := dpX_ok hT hR
  have hM := dpM_ok hT
  have hlo2 : ∀ n, n < N → ∃ i, q 2 n = nI i ∧ i < 30 := fun n hn => by
    obtain ⟨i, h1, h2⟩ := hT.2.1 n (by omega)
    exact ⟨i, h2, by omega⟩
  have hlo : ∀ n, n < N → ∃ i, r 2 n = nI i ∧ i < L := fun n hn => by
    obtain ⟨i, h1, h2⟩ := hT.2.1 n (by omega)
    exact ⟨i, by rw [hR.2.2.2.2.2.2.1.1]; exact h2, h1⟩
  refine step_of (w_split l D cI cL a b fo v r x y _ _ (c_X4_split l D cI a v r x y N L hst hN.1 hN1 hL.1 hL1)) (c_X5_split l D cI aM w q x y N hN.2 hN1) (fun z' u' hg => ?_)
  obtain ⟨e1, e2, e3⟩ := s_split hT hR x y
  rw [← hg] at e1 e2 e3
  exact ⟨e1, e2, fun hc z u hp => e3 hc z u.1 u.2 hp⟩
