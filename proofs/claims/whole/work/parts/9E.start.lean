/-! THE CLAIM OUT OF ONE WALK OF THE LAW'S BODY -/
def R_law : String := "FormulaListsLaw"
def lw_P (b : Addr) (xs : List Int32) (args : Array Value) (s : State) : Prop := args = #[.ref b] ∧ s.IntsAt b xs ∧ xs.length ≤ 240 ∧ (Jvm.Cond.and given_1 narrow_1).before args s = true
def lw_Q (_ : Array Value) (s : State) (o : Outcome) (t : State) : Prop := o = .returned (some (.int 1)) ∧ Framed s o t [] 600096 7301386
def lw_Z (below : List Frame) (a : Array Value) (s : State) : State → Prop := fun t => ∃ o, t.status = .running ∧ Ended t below o ∧ lw_Q a s o t
/-- the law's own end, with 1 on the stack, nothing written that was there before, its room as the claim has it -/
theorem lw_ret {p : Program} {l : Launch} {e : Env} {s : State} {m : MethodId} {below : List Frame} {meth : Method} {c : Code} {b : Nat} (hx : p.tables.exec = Jvm.exec) (hb : c.code = code) (hr : meth.sig.returnType = ret) (hlocks : meth.locks = false) {pc : Nat} {H : Heap} {ls : Array Slot} (hdg : decode code pc = .ok (.ireturn, 1)) : W p l e room_1 s m #[Value.ref b] below meth c H [] 600096 7301386 (lw_Z below #[Value.ref b] s) (F0 m pc ls [.int 1]) := by
  intro T hT X
  obtain ⟨fs, hret, hrun, hended, hW, hframe⟩ := X.leave (v := some (.int 1)) (hlocks := hlocks) (fun h => by rw [hr] at h; cases h)
  have hmeth' : T.vm.method? m = some meth := X.method'
  refine ⟨T.setFrames fs, ?_, .returned (some (.int 1)), hrun, hended, rfl, ⟨_, rfl⟩, hW, hframe⟩
  jvm_step X.here [X.here.top, hx, hb, hdg, hmeth', hr, ret, narrow_b1]
  (try refine ⟨rfl, ?_⟩); (try refine ⟨rfl, ?_⟩)
  first | (intro acts; rw [hret _ acts rfl rfl rfl]) | rw [hret _ _ rfl rfl rfl]
  exact Steps.refl _
/-- what holds at the law's entry: the machine, the code, the tables' words (any of lw_tbl by 'hts w (by decide +kernel)'), the script of L ints xs at the cell b, what the Statement gives of the start (any of its parts by flat_of_before) -/
def lw_At (p : Program) (s : State) (m : MethodId) (meth : Method) (c : Code) (b L : Nat) (xs : Nat → Int32) : Prop :=
  p.tables.exec = Jvm.exec ∧ c.code = code ∧ meth.sig.returnType = ret ∧ c.maxLocals = 7 ∧ s.vm.findClass R_law = some m.cls ∧ (∀ w ∈ lw_tbl, w.before #[Value.ref b] s = true) ∧ va_X b L xs s s.heap ∧ b < s.heap.size ∧ meth.locks = false ∧ (Jvm.Cond.and given_1 narrow_1).before #[Value.ref b] s = true
def lwF : List Cond := flatC (Jvm.Cond.and given_1 narrow_1)
theorem lwF_sp : ∀ j ∈ List.range 64, Cond.eq (.elem (.static RX4 "SPACES" "[I") (.int (Int32.ofNat j))) (.int (spT.getD j 0)) ∈ lwF := mem_ps ((List.range 64).map (fun j => 9 + j)) (by decide +kernel)
theorem lwF_nc : ∀ q ∈ gsN, Cond.not (.castable q.1 q.2) ∈ lwF := mem_ps [110, 120, 89, 100, 81, 122, 91, 101, 82, 112, 92, 102, 79, 109, 119, 99, 80, 111, 121, 90] (by decide +kernel)
theorem lwF_st : ∀ q ∈ gsStr, Cond.exactly (.string RX4 q.1) "java/lang/String" ∈ lwF := mem_ps [141, 158, 238, 323, 356, 392, 424, 453, 482, 217, 197, 274, 305, 176, 123] (by decide +kernel)
theorem lwF_oth : ∀ w ∈ [Cond.arrayOf (.static RX4 "SPACES" "[I") .int, Cond.eq (.length (.static RX4 "SPACES" "[I")) (.int 64), Cond.isRef (.static Bundle.tN "UNASSIGNED_STACK" Bundle.steD), Cond.isRef (.static Bundle.tN "SUPPRESSED_SENTINEL" Bundle.listD)], w ∈ lwF := mem_ps (f := fun w => w) [7, 8, 4, 5] (by decide +kernel)
def tbN : List Cond := [Cond.methodLinkNest RX3 81 yX4_spaceUnits RX4, Cond.methodLinkNest RX3 85 yX4_unit RX4, Cond.methodLinkNest RX3 173 yX4_axis RX4, Cond.methodLinkNest RX3 11 yX1_init RX4, Cond.methodLinkNest RX3 20 yX2_init RX4, Cond.laysStatic RX4 "SPACES" "[I", Cond.initialized RX4, Cond.laysStatic Bundle.tN "UNASSIGNED_STACK" Bundle.steD, Cond.laysStatic Bundle.tN "SUPPRESSED_SENTINEL" Bundle.listD, Cond.initialized Bundle.tN, Cond.arrayClass .int, Cond.arrayClass .long]
theorem lwT_n : ∀ w ∈ tbN, w ∈ lw_tbl := mem_ps (f := fun w => w) [638, 499, 505, 153, 180, 642, 53, 263, 265, 59, 144, 970] (by decide +kernel)
theorem lwT_w : ∀ w ∈ gsW, w ∈ lw_tbl := mem_ps (f := fun w => w) [240, 242, 244, 315, 383, 658, 238, 358] (by decide +kernel)
theorem lwT_s : ∀ q ∈ gsStr, Cond.stringRef RX4 q.1 q.2 ∈ lw_tbl := mem_ps [322, 329, 390, 423, 424, 432, 468, 665, 704, 380, 365, 405, 410, 334, 279] (by decide +kernel)
theorem gsW_tabs : gsW.all (fun w => w.onTables) = true := by decide +kernel
theorem gs_at {s : State} {args : Array Value} (hts : ∀ w ∈ lw_tbl, w.before args s = true) (hgv : (Jvm.Cond.and given_1 narrow_1).before args s = true) : Gs (fun q : Nat => s.heap.size ≤ q) s s.heap ∧ Nx s := by
  have hs : ∀ w ∈ lwF, w.before args s = true := flat_of_before _ hgv
  have ht : ∀ w ∈ tbN, w.before args s = true := fun w h => hts w (lwT_n w h)
  have hA : ∀ a : Nat, a < s.heap.size → ¬ (fun q : Nat => s.heap.size ≤ q) a := fun a h => Nat.not_le.mpr h
  refine ⟨⟨⟨va_Nw.of rfl (ht _ (by simp [tbN])), va_Nw.of rfl (ht _ (by simp [tbN])), va_Nw.of rfl (ht _ (by simp [tbN]))⟩, ?_, ?_, ?_, ?_, ?_, ?_⟩, va_Nw.of rfl (ht _ (by simp [tbN])), va_Nw.of rfl (ht _ (by simp [tbN]))⟩
  · have h7 : (Cond.arrayOf (.static RX4 "SPACES" "[I") .int).before args s = true := hs _ (lwF_oth _ (by simp))
    have h8 : (Cond.eq (.length (.static RX4 "SPACES" "[I")) (.int 64)).before args s = true := hs _ (lwF_oth _ (by simp))
    obtain ⟨t, h1, h2⟩ := va_Tof (N := 64) (f := fun j => .int (spT.getD j 0)) (A := fun q : Nat => s.heap.size ≤ q) (by decide) h7 (va_eqt h8) (fun j hj => va_eqt (hs _ (lwF_sp j (List.mem_range.mpr hj)))) hA
    exact ⟨t, va_Zof (ht _ (by simp [tbN])) (ht _ (by simp [tbN])) h1 hA, h2⟩
  · exact vx_Zqof (ht _ (by simp [tbN])) (ht _ (by simp [tbN])) (hs _ (lwF_oth _ (by simp))) hA
  · exact vx_Zqof (ht _ (by simp [tbN])) (ht _ (by simp [tbN])) (hs _ (lwF_oth _ (by simp))) hA
  · intro q hq
    obtain ⟨a, c, cA, kA, q1, -⟩ := Cond.exactly_spec (args := args) (first := s) (o := none) (s := s) (idx := []) (t := .string RX4 q.1) (cls := "java/lang/String") (hs _ (lwF_st q hq))
    exact ⟨a, vk_R.of (hts _ (lwT_s q hq)) q1⟩
  · intro w hw
    exact va_tabs (List.all_eq_true.mp gsW_tabs w hw) rfl (hts w (lwT_w w hw))
  · intro q hq
    exact va_Nc.of (hs _ (lwF_nc q hq))
theorem ar_at {s : State} {args : Array Value} {ty : FieldType} (h : (Cond.arrayClass ty).before args s = true) (hp : ∀ C, ty ≠ .object C) : ∃ cA : ClassId, ArrOfT s cA ty ∧ va_RA s cA ty := by
  obtain ⟨cA, kA, comp, h1, h2, h3⟩ := Cond.arrayClass_spec h
  refine ⟨cA, fun n z => ⟨fun k h => (by cases h), kA, h2, comp, h3⟩, ?_⟩
  cases ty <;> first | exact h1 | exact absurd rfl (hp _)
set_option maxHeartbeats 4000000 in
set_option maxRecDepth 100000 in
/-- THE LAW, from its entry -/
theorem whole_start {p : Program} {e : Env} {s : State} {m : MethodId} {below : List Frame} {meth : Method} {c : Code} (l : Launch) (hst : l.stackTraces = false) {b L : Nat} {xs : Nat → Int32} (hL : L ≤ 240) (C0 : lw_At p s m meth c b L xs) : W p l e room_1 s m #[Value.ref b] below meth c s.heap [] 0 0 (lw_Z below #[Value.ref b] s) (entryFrame m ([Value.ref b] : List Value).toArray 7) := by
  obtain ⟨hx, hb, hr, hml, hown, hts0, hX, hbl, hlocks, hgv⟩ := C0
  have hA : ∀ q : Nat, s.heap.size ≤ q → (fun q : Nat => s.heap.size ≤ q) q := fun _ h => h
  have hbA : ¬ (fun q : Nat => s.heap.size ≤ q) b := Nat.not_le.mpr hbl
  obtain ⟨hG, hN⟩ := gs_at hts0 hgv
  have hts : ∀ w ∈ wsL_law, w.before #[Value.ref b] s = true := fun w h => hts0 w (wsL_law_in w h)
  obtain ⟨cI, hI1, hI2⟩ := ar_at (ty := .int) (hts0 (.arrayClass .int) (lwT_n _ (by simp [tbN]))) (fun C h => by cases h)
  obtain ⟨cL, hJ1, hJ2⟩ := ar_at (ty := .long) (hts0 (.arrayClass .long) (lwT_n _ (by simp [tbN]))) (fun C h => by cases h)
  obtain ⟨D, hKc⟩ : ∃ D : va_G, ∀ (k : Nat) (q : vw_C), vwCl[k]? = some q → u_Kn s q.1 q.2.1 q.2.2 (D.1 k) (D.2 k) := by
    obtain ⟨c0, i0, h0⟩ := u_known (C := RX0) (T := TX0) (N := 14) (n := 14) hts0 inX0 (hts (.instantiable RX0 14) (by decide +kernel))
    obtain ⟨c1, i1, h1⟩ := u_known (C := RX1) (T := TX1) (N := 5) (n := 5) hts0 inX1 (hts (.instantiable RX1 5) (by decide +kernel))
    obtain ⟨c2, i2, h2⟩ := u_known (C := RX2) (T := TX2) (N := 2) (n := 2) hts0 inX2 (hts (.instantiable RX2 2) (by decide +kernel))
    obtain ⟨c3, i3, h3⟩ := u_known (C := RX3) (T := TX3) (N := 6) (n := 6) hts0 inX3 (hts (.instantiable RX3 6) (by decide +kernel))
    obtain ⟨c4, i4, h4⟩ := u_known (C := RX4) (T := TX4) (N := 2) (n := 2) hts0 inX4 (hts (.instantiable RX4 2) (by decide +kernel))
    obtain ⟨c5, i5, h5⟩ := u_known (C := RX5) (T := TX5) (N := 25) (n := 25) hts0 inX5 (hts (.instantiable RX5 25) (by decide +kernel))
    refine ⟨(fun k => match k with | 0 => c0 | 1 => c1 | 2 => c2 | 3 => c3 | 4 => c4 | _ => c5, fun k => match k with | 0 => i0 | 1 => i1 | 2 => i2 | 3 => i3 | 4 => i4 | _ => i5), ?_⟩
    intro k q hq
    match k, hq with
    | 0, hq => cases hq; exact h0
    | 1, hq => cases hq; exact h1
    | 2, hq => cases hq; exact h2
    | 3, hq => cases hq; exact h3
    | 4, hq => cases hq; exact h4
    | 5, hq => cases hq; exact h5
    | k + 6, hq => simp [vwCl] at hq
  have hK : va_K D vwCl (tyL cI cL) s := by
    refine ⟨hKc, fun k q hq => ?_⟩
    match k, hq with
    | 0, hq => cases hq; exact ⟨hI1, hI2⟩
    | 1, hq => cases hq; exact ⟨hJ1, hJ2⟩
    | k + 2, hq => simp [tyL] at hq
  have hKI : va_K D vwCl (tyI cI) s := hK.sub [0] rfl
  have CW : kEW p s m meth c #[Value.ref b] cL_law 7 ret RL wsL_law D cI cL (fun q : Nat => s.heap.size ≤ q) := ⟨⟨hx, hb, hml, hown, hts⟩, hr, hlocks, hK, hA, hG⟩
  have hS : va_S (fun q : Nat => s.heap.size ≤ q) s.heap s.heap [] := va_S.rf
  have hP : va_P D vwCl [] s.heap := fun k q h => by simp at h
  have hD : va_D (fun q : Nat => s.heap.size ≤ q) [] := ⟨fun i j p q h => by simp at h, fun k q h => by simp at h⟩
  have hl := lv_entry ([.ref b]) (n := 7) (Nat.le_of_ble_eq_true rfl)
  rw [lg_entry_eq]
  generalize (lg_sl ([.ref b]) ++ List.replicate (7 - (lg_sl ([.ref b])).length) Slot.unset).toArray = ls at hl ⊢
  have hl : lv_has ls 7 [(0, .ref b)] := hl
  refine va_new (ci := 4) (fs := [.null, .null]) (C := RX4) (T := TX4) (N := 2) hx hb hts inlX4 tyX4 tyX4_ok hown (hts (.classLink RL 8 RX4) (by decide +kernel)) (hts (.instantiable RX4 2) (by decide +kernel)) (hts (.initialized RX4) (by decide +kernel)) hK hP hD hS hA rfl (by decide +kernel) (Nat.le_of_ble_eq_true rfl) (Nat.le_of_ble_eq_true rfl) dL_law_0 (fun q0 H hP hD hS => ?_)
  have hP : va_P D vwCl [(q0, .inr (4, [.null, .null]))] H := hP
  have hD : va_D (fun q : Nat => s.heap.size ≤ q) [(q0, .inr (4, [.null, .null]))] := hD
  refine lv_dup hx hb dL_law_3 rfl ?_
  refine kcN (wr := []) (As := []) (rest := [.ref q0]) CW.1 hKI hA hG hN hP hD hS (c_X4_init l D cI q0) (cwI 0 hts gL_law_X4_init rfl rfl rfl (hts (.initialized RX4) (by decide +kernel)) (hts (.methodLink RL 58 yX4_init) (by decide +kernel)) (hts (.instanceMethod yX4_init) (by decide +kernel)) rfl (by decide +kernel) ⟨Nat.le_of_ble_eq_true rfl, Nat.le_of_ble_eq_true rfl⟩) [0] [] rfl rfl rfl rfl rfl (by decide) rfl hl.1 rfl (Nat.le_of_ble_eq_true rfl) dL_law_4 ⟨Nat.le_of_ble_eq_true rfl, Nat.le_of_ble_eq_true rfl⟩ (fun a H locs ha hP hD hS => ?_)
  have hP : va_P D vwCl (wX cI a v00 rC0) H := hP
  have hD : va_D (fun q : Nat => s.heap.size ≤ q) (wX cI a v00 rC0) := hD
  refine lv_astore_n (lv' := [(1, .ref q0), (0, .ref b)]) hx hb dL_law_7 rfl hl (by decide) rfl (fun ls hl => ?_)
  refine va_new (ci := 5) (fs := [.int 0, .int 0, .int 0, .null, .int 0, .null, .null, .null, .null, .null, .null, .null, .null, .null, .int 0, .null, .int 0, .int 0, .int 0, .int 0, .int 0, .int 0, .int 0, .int 0, .null]) (C := RX5) (T := TX5) (N := 25) hx hb hts inlX5 tyX5 tyX5_ok hown (hts (.classLink RL 59 RX5) (by decide +kernel)) (hts (.instantiable RX5 25) (by decide +kernel)) (hts (.initialized RX5) (by decide +kernel)) hK hP hD hS hA rfl (by decide +kernel) (Nat.le_of_ble_eq_true rfl) (Nat.le_of_ble_eq_true rfl) dL_law_8 (fun q5 H hP hD hS => ?_)
  refine lv_dup hx hb dL_law_11 rfl ?_
  refine kcA (wr := wX cI a v00 rC0) (As := []) (rest := [.ref q5]) CW.1 hKI hA hG hP hD hS (c_X5_init l D cI q5) (cwI 0 hts gL_law_X5_init rfl rfl rfl (hts (.initialized RX5) (by decide +kernel)) (hts (.methodLink RL 61 yX5_init) (by decide +kernel)) (hts (.instanceMethod yX5_init) (by decide +kernel)) rfl (by decide +kernel) ⟨Nat.le_of_ble_eq_true rfl, Nat.le_of_ble_eq_true rfl⟩) [21] [0, 1, 2, 3, 4, 5, 6, 7, 8, 9, 10, 11, 12, 13, 14, 15, 16, 17, 18, 19, 20] rfl rfl rfl rfl rfl (by decide) rfl hl.1 rfl (Nat.le_of_ble_eq_true rfl) dL_law_12 ⟨Nat.le_of_ble_eq_true rfl, Nat.le_of_ble_eq_true rfl⟩ (fun u H locs hu hP hD hS => ?_)
  refine lv_astore_n (lv' := [(2, .ref q5), (1, .ref q0), (0, .ref b)]) hx hb dL_law_15 rfl hl (by decide) rfl (fun ls hl => ?_)
  refine lv_iconst (v := 1) hx hb dL_law_16 (by decide) ?_
  refine va_newa (atype := .long) (D := D) (cl := vwCl) (tys := tyL cI cL) (a0 := (1, .inr (.inl fun _ => 0))) (ty := .long) (N' := 1) hx hb (hts (.arrayClass .long) (by decide +kernel)) rfl hK hP hD hS hA (fun _ => rfl) (by decide) (by decide) (by decide) (Nat.le_of_ble_eq_true rfl) (Nat.le_of_ble_eq_true rfl) dL_law_17 (fun bo cA H hK1 hP hD hS => ?_)
  obtain rfl : cL = cA := by
    have h1 : s.vm.findClass ("[" ++ FieldType.long.toString) = some cL := (hK1.2 1 (cL, .long) rfl).2
    have h2 : s.vm.findClass ("[" ++ FieldType.long.toString) = some cA := (hK1.2 2 (cA, .long) rfl).2
    exact Option.some.inj (h1.symm.trans h2)
  refine lv_astore_n (lv' := [(3, .ref bo), (2, .ref q5), (1, .ref q0), (0, .ref b)]) hx hb dL_law_19 rfl hl (by decide) rfl (fun ls hl => ?_)
  refine lv_iconst (v := 0) hx hb dL_law_20 (by decide) ?_
  refine lv_istore (lv' := [(4, .int 0), (3, .ref bo), (2, .ref q5), (1, .ref q0), (0, .ref b)]) hx hb dL_law_21 hl (by decide) rfl (fun ls hl => ?_)
  obtain ⟨hu0, hu1⟩ := hu
  rw [← hu0, ← ha] at hl
  refine at_pc 23 rfl ?_
  have hP := hP.sub (ws' := wM cI u.1 v00 (rU (fun _ _ => 0) 1 u.2) ++ wO cI cL a bo (fun _ => 0) v00 rC0) [21, 22, 23, 24, 25, 26, 27, 28, 29, 30, 31, 32, 33, 34, 0, 1, 2, 3, 4, 5, 6, 7, 8, 9, 10, 11, 12, 13, 14, 15, 16, 17, 18, 19, 20] rfl
  have hD := hD.sub (ws' := wM cI u.1 v00 (rU (fun _ _ => 0) 1 u.2) ++ wO cI cL a bo (fun _ => 0) v00 rC0) [21, 22, 23, 24, 25, 26, 27, 28, 29, 30, 31, 32, 33, 34, 0, 1, 2, 3, 4, 5, 6, 7, 8, 9, 10, 11, 12, 13, 14, 15, 16, 17, 18, 19, 20] (by decide) rfl
  refine law_loop hst CW hX hbl hbA hL (fun H locs ls cells slots hS hc hs => ?_) 48 0 (by omega) (Nat.zero_le L) (fun _ => 0) v00 v00 rC0 (rU (fun _ _ => 0) 1 u.2) H locs ls _ _ (inv_0 (fun j hj => by rw [rU_s]; exact hu1 j hj) (fun i hi _ => rU_n hi)) hP hD hS (lv_sub hl [4, 3, 2, 1, 0] rfl) (Nat.le_of_ble_eq_true rfl) (Nat.le_of_ble_eq_true rfl)
  refine va_forget (fun q hq => hS.2.2 q hq) ?_
  refine lv_iconst (v := 1) hx hb dL_law_926 (by decide) ?_
  exact W.widen (k := 600096) (n := 7301386) hc hs (lw_ret hx hb hr hlocks dL_law_927)
