/-! OWN LOGIC: contracts of one form (a world that is a fixed list of cells, an answer, a new world), rows for calls, joins and loops over them -/
/-- the table of the spaces, as the class's static row holds it -/
def spT : List Int32 := [0, 1, 3, 4, 0, 0, 0, 2, 1, 1, 0, 4, 0, 0, 0, 2, 3, 3, 0, 0, 3, 0, 0, 3, 4, 4, 0, 0, 4, 0, 0, 4, 0, 0, 0, 0, 0, 0, 0, 0, 0, 1, 3, 4, 0, 0, 0, 2, 2, 2, 0, 2, 2, 2, 2, 2, 2, 1, 3, 4, 2, 0, 2, 2]
def gsStr : List (Nat × String) := [(42, "no such kind"), (47, "no such sign"), (72, "the atom has such a script"), (91, "the rule is too high"), (93, "a fraction of one list"), (95, "no such delimiter"), (113, "no such style"), (141, "no such item"), (158, "no such relation"), (169, "no such list"), (175, "no such atom"), (180, "the list is not free"), (185, "a ring"), (192, "too many nodes"), (198, "too many lists")]
def gsW : List Cond := [.declares (Bundle.initS "java/lang/RuntimeException"), .declares (Bundle.initS "java/lang/Exception"), .declares (Bundle.initS Bundle.tN), .castable "java/lang/IllegalArgumentException" "java/lang/IllegalArgumentException", .castable "java/lang/IllegalStateException" "java/lang/IllegalStateException", .castable "java/lang/IndexOutOfBoundsException" "java/lang/IndexOutOfBoundsException", .castable "java/lang/UnsupportedOperationException" "java/lang/UnsupportedOperationException", .castable "java/util/NoSuchElementException" "java/util/NoSuchElementException"]
def gsN : List (String × String) := [("java/lang/IllegalArgumentException", "java/lang/IllegalStateException"), ("java/lang/IllegalArgumentException", "java/lang/IndexOutOfBoundsException"), ("java/lang/IllegalArgumentException", "java/lang/UnsupportedOperationException"), ("java/lang/IllegalArgumentException", "java/util/NoSuchElementException"), ("java/lang/IllegalStateException", "java/lang/IllegalArgumentException"), ("java/lang/IllegalStateException", "java/lang/IndexOutOfBoundsException"), ("java/lang/IllegalStateException", "java/lang/UnsupportedOperationException"), ("java/lang/IllegalStateException", "java/util/NoSuchElementException"), ("java/lang/IndexOutOfBoundsException", "java/lang/IllegalArgumentException"), ("java/lang/IndexOutOfBoundsException", "java/lang/IllegalStateException"), ("java/lang/IndexOutOfBoundsException", "java/lang/UnsupportedOperationException"), ("java/lang/IndexOutOfBoundsException", "java/util/NoSuchElementException"), ("java/lang/UnsupportedOperationException", "java/lang/IllegalArgumentException"), ("java/lang/UnsupportedOperationException", "java/lang/IllegalStateException"), ("java/lang/UnsupportedOperationException", "java/lang/IndexOutOfBoundsException"), ("java/lang/UnsupportedOperationException", "java/util/NoSuchElementException"), ("java/util/NoSuchElementException", "java/lang/IllegalArgumentException"), ("java/util/NoSuchElementException", "java/lang/IllegalStateException"), ("java/util/NoSuchElementException", "java/lang/IndexOutOfBoundsException"), ("java/util/NoSuchElementException", "java/lang/UnsupportedOperationException")]
theorem fw_at {w : Cond} (hf : w.faceAtom = true) (ho : w.onTables = true) {A A' : Array Value} {s U : State} (hW : s.vm.Alike U.vm) (h : w.before A s = true) : w.before A' U = true :=
  va_tabs ho (u := s.setVm U.vm) rfl (Cond.faceAtom_setVm hW w hf h)
/-- what lies outside the worlds and is needed of it: nest links, the static row, what a throw reads, the texts, and which exception is which -/
def Gs (A : Nat → Prop) (U : State) (H : Heap) : Prop :=
  (va_Nw (.methodLinkNest RX3 81 yX4_spaceUnits RX4) U ∧ va_Nw (.methodLinkNest RX3 85 yX4_unit RX4) U ∧ va_Nw (.methodLinkNest RX3 173 yX4_axis RX4) U) ∧
  (∃ t : Nat, va_Z RX4 "SPACES" "[I" (.ref t) A U H ∧ va_T .int t 64 (fun j => .int (spT.getD j 0)) A U H) ∧
  vx_Zq Bundle.tN "UNASSIGNED_STACK" Bundle.steD A U H ∧ vx_Zq Bundle.tN "SUPPRESSED_SENTINEL" Bundle.listD A U H ∧
  (∀ q ∈ gsStr, ∃ sa : Nat, vk_R RX4 q.1 q.2 sa U) ∧ (∀ w ∈ gsW, w.before #[] U = true) ∧ ∀ q ∈ gsN, va_Nc q.1 q.2 U
theorem Gs.at {A B : Nat → Prop} {s U : State} {H H1 : Heap} (h : Gs A s H) (hW : s.WarmedH U.vm) (hk : ∀ a : Nat, a < H.size → ¬ A a → H1[a]? = H[a]?) (hAB : ∀ q, B q → A q) : Gs B U H1 := by
  obtain ⟨⟨n1, n2, n3⟩, ⟨t, hz, ht⟩, hu, hn, hs, hw, hc⟩ := h
  refine ⟨⟨n1.warmM hW, n2.warmM hW, n3.warmM hW⟩, ⟨t, ?_, ?_⟩, ?_, ?_, ?_, ?_, ?_⟩
  · exact va_Z.moved hW.alike ((hz.kept hk).narrow hAB)
  · exact va_T.moved hW.alike ((ht.kept hk).narrow hAB)
  · exact vx_Zq.moved hW.alike ((hu.kept hk).narrow hAB)
  · exact vx_Zq.moved hW.alike ((hn.kept hk).narrow hAB)
  · intro q hq
    obtain ⟨sa, h1⟩ := hs q hq
    exact ⟨sa, h1.warm hW⟩
  · intro w hm
    have hg : gsW.all (fun w => w.faceAtom && w.onTables) = true := by decide +kernel
    have h2 := List.all_eq_true.mp hg w hm
    simp only [Bool.and_eq_true] at h2
    exact fw_at h2.1 h2.2 hW.alike (hw w hm)
  · intro q hq
    exact (hc q hq).moved hW.alike
abbrev tyI (cI : ClassId) : List (ClassId × FieldType) := [(cI, .int)]
def kB (D : va_G) (cI : ClassId) (A : Nat → Prop) {S : Type} (wf : S → va_W) : S → State → Prop := fun u t => va_P D vwCl (wf u) t.heap ∧ va_K D vwCl (tyI cI) t ∧ va_D A (wf u)
def kP (D : va_G) (cI : ClassId) (w0 : va_W) (sz : Nat) : State → Prop := fun U => U.heap.size = sz ∧ va_P D vwCl w0 U.heap ∧ va_K D vwCl (tyI cI) U ∧ va_D (fun _ => True) w0 ∧ Gs (va_A w0 sz) U U.heap
theorem kP_blind {D : va_G} {cI : ClassId} {w0 : va_W} {sz : Nat} {As : List Value} : FrameBlind (va_Pc As (kP D cI w0 sz)) := by
  intro a U g mk q
  obtain ⟨q0, q1, qP, qK, qD, qG⟩ := q
  exact ⟨q0, q1, qP, va_K.moved (u := U) (U := U.calling g mk a) (Vm.Alike.refl U.vm) qK, qD, qG.at (U := U.calling g mk a) (State.WarmedH.refl U) (fun _ _ _ => rfl) (fun _ h => h)⟩
/-- a method that answers an int (or a truth) -/
def KI (l : Launch) (D : va_G) (cI : ClassId) (y : MethodName) (ws : List Cond) (rm : Room) (As : List Value) (w0 : va_W) {S : Type} (wf : S → va_W) (post : Int32 → S → Prop) : Prop :=
  ∀ sz : Nat, Met l y ws rm (va_Pc As (kP D cI w0 sz)) (va_Qi post (kB D cI (va_A w0 sz) wf) (va_A w0 sz)) 0 0 (va_A w0 sz)
/-- a method that answers nothing -/
def KV (l : Launch) (D : va_G) (cI : ClassId) (y : MethodName) (ws : List Cond) (rm : Room) (As : List Value) (w0 : va_W) {S : Type} (wf : S → va_W) (post : S → Prop) : Prop :=
  ∀ sz : Nat, Met l y ws rm (va_Pc As (kP D cI w0 sz)) (va_Qv post (kB D cI (va_A w0 sz) wf) (va_A w0 sz)) 0 0 (va_A w0 sz)
/-- what stands at a body's entry -/
def kE (p : Program) (s : State) (m : MethodId) (meth : Method) (c : Code) (args : Array Value) (cc : ByteArray) (nL : Nat) (ret : Option FieldType) (own : String) (ws : List Cond) (D : va_G) (cI : ClassId) (A : Nat → Prop) : Prop :=
  CallFix p m c cc nL s args ws own ∧ meth.sig.returnType = ret ∧ meth.locks = false ∧ va_K D vwCl (tyI cI) s ∧ (∀ q : Nat, s.heap.size ≤ q → A q) ∧ Gs A s s.heap
section LG
variable {p : Program} {l : Launch} {e : Env} {R : Room} {s : State} {m : MethodId} {args : Array Value} {below : List Frame} {meth : Method} {c : Code} {H : Heap} {locs : List Loc} {cells slots : Nat} {Q : State → Prop} {cc : ByteArray} {pc nL : Nat} {ls : Array Slot} {rest : List Value}
variable {D : va_G} {cI : ClassId} {A : Nat → Prop} {w0 : va_W} {own : String} {ws : List Cond} {ret : Option FieldType}
theorem KI.of {y : MethodName} {ws ws' : List Cond} {rm : Room} {As : List Value} {S : Type} {wf : S → va_W} {post : Int32 → S → Prop} (hy : plainName y.cls = true) (hw : ws = Cond.code y cc nL ret :: ws') (hn : (lg_sl As).length ≤ nL)
    (body : ∀ (p : Program) (e : Env) (s : State) (m : MethodId) (args : Array Value) (below : List Frame) (meth : Method) (c : Code) (A : Nat → Prop) (ls : Array Slot), kE p s m meth c args cc nL ret y.cls ws D cI A → va_P D vwCl w0 s.heap → va_D A w0 → va_S A s.heap s.heap [] → lv_has ls nL (lv_args 0 As) →
      W p l e rm s m args below meth c s.heap [] 0 0 (MQ below (va_Qi post (kB D cI A wf) A) args s 0 0 A) (F0 m 0 ls [])) : KI l D cI y ws rm As w0 wf post := by
  intro sz
  refine Met.ofW (cc := cc) (maxL := nL) (ret := ret) hy hw ?_
  intro p e s m args below meth c s₁ B hml hv
  obtain ⟨rfl, hsz, hP, hK, hD0, hG⟩ := hv
  subst hsz
  have hl := lv_entry As (n := nL) hn
  rw [lg_entry_eq]
  exact body p e s m _ below meth c _ _ ⟨⟨B.exec, B.bytes, hml, findClass_of_methodNamed B.named, atoms_spec (ws := ws) B.pre⟩, B.returns, B.notSynchronized, hK, fun q h => Or.inr h, hG⟩ hP hD0.self va_S.rf hl
theorem KV.of {y : MethodName} {ws ws' : List Cond} {rm : Room} {As : List Value} {S : Type} {wf : S → va_W} {post : S → Prop} (hy : plainName y.cls = true) (hw : ws = Cond.code y cc nL ret :: ws') (hn : (lg_sl As).length ≤ nL)
    (body : ∀ (p : Program) (e : Env) (s : State) (m : MethodId) (args : Array Value) (below : List Frame) (meth : Method) (c : Code) (A : Nat → Prop) (ls : Array Slot), kE p s m meth c args cc nL ret y.cls ws D cI A → va_P D vwCl w0 s.heap → va_D A w0 → va_S A s.heap s.heap [] → lv_has ls nL (lv_args 0 As) →
      W p l e rm s m args below meth c s.heap [] 0 0 (MQ below (va_Qv post (kB D cI A wf) A) args s 0 0 A) (F0 m 0 ls [])) : KV l D cI y ws rm As w0 wf post := by
  intro sz
  refine Met.ofW (cc := cc) (maxL := nL) (ret := ret) hy hw ?_
  intro p e s m args below meth c s₁ B hml hv
  obtain ⟨rfl, hsz, hP, hK, hD0, hG⟩ := hv
  subst hsz
  have hl := lv_entry As (n := nL) hn
  rw [lg_entry_eq]
  exact body p e s m _ below meth c _ _ ⟨⟨B.exec, B.bytes, hml, findClass_of_methodNamed B.named, atoms_spec (ws := ws) B.pre⟩, B.returns, B.notSynchronized, hK, fun q h => Or.inr h, hG⟩ hP hD0.self va_S.rf hl
/-- the ends -/
theorem k_iret {S : Type} {wf : S → va_W} {post : Int32 → S → Prop} {v : Int32} (C0 : kE p s m meth c args cc nL (some .int) own ws D cI A) (u : S) (hP : va_P D vwCl (wf u) H) (hD : va_D A (wf u)) (hS : va_S A s.heap H locs) (hp : post v u) (hdg : decode cc pc = .ok (.ireturn, 1)) :
    W p l e R s m args below meth c H locs 0 0 (MQ below (va_Qi post (kB D cI A wf) A) args s 0 0 A) (F0 m pc ls [.int v]) := by
  obtain ⟨⟨hx, hb, hml, hown, hts⟩, hr, hlocks, hK, hA, hG⟩ := C0
  exact W.iret hx hb hr (fun t ht hW => ⟨⟨v, u, rfl, hp, by rw [ht]; exact hP, va_K.moved hW.alike hK, hD⟩, hS.F ht⟩) hS.2.2 hdg hlocks
theorem k_zret {S : Type} {wf : S → va_W} {post : Int32 → S → Prop} {v : Int32} (C0 : kE p s m meth c args cc nL (some .boolean) own ws D cI A) (u : S) (hP : va_P D vwCl (wf u) H) (hD : va_D A (wf u)) (hS : va_S A s.heap H locs) (hn : narrow .boolean (.int v) = .int v) (hp : post v u) (hdg : decode cc pc = .ok (.ireturn, 1)) :
    W p l e R s m args below meth c H locs 0 0 (MQ below (va_Qi post (kB D cI A wf) A) args s 0 0 A) (F0 m pc ls [.int v]) := by
  obtain ⟨⟨hx, hb, hml, hown, hts⟩, hr, hlocks, hK, hA, hG⟩ := C0
  exact W.zret hx hb hr hn (fun t ht hW => ⟨⟨v, u, rfl, hp, by rw [ht]; exact hP, va_K.moved hW.alike hK, hD⟩, hS.F ht⟩) hS.2.2 hdg hlocks
theorem k_vret {S : Type} {wf : S → va_W} {post : S → Prop} (C0 : kE p s m meth c args cc nL none own ws D cI A) (u : S) (hP : va_P D vwCl (wf u) H) (hD : va_D A (wf u)) (hS : va_S A s.heap H locs) (hp : post u) (hdg : decode cc pc = .ok (.return_, 1)) :
    W p l e R s m args below meth c H locs 0 0 (MQ below (va_Qv post (kB D cI A wf) A) args s 0 0 A) (F0 m pc ls []) := by
  obtain ⟨⟨hx, hb, hml, hown, hts⟩, hr, hlocks, hK, hA, hG⟩ := C0
  exact W.vret hx hb hr (fun t ht hW => ⟨⟨u, rfl, hp, by rw [ht]; exact hP, va_K.moved hW.alike hK, hD⟩, hS.F ht⟩) hS.2.2 hdg hlocks
theorem k_in (hD : va_D A w0) (hS : va_S A s.heap H locs) (hA : ∀ q : Nat, s.heap.size ≤ q → A q) : ∀ q, va_A w0 H.size q → A q := by
  intro q h
  rcases h with ⟨k, e, h⟩ | h
  · exact hD.2 k (q, e) h
  · exact hA q (Nat.le_trans hS.1 h)
theorem k_nil (hS : va_S A s.heap H locs) (hA : ∀ q : Nat, s.heap.size ≤ q → A q) : ∀ q, va_A [] H.size q → A q := by
  intro q h
  rcases h with ⟨k, e, h⟩ | h
  · simp at h
  · exact hA q (Nat.le_trans hS.1 h)
variable {y : MethodName} {bytes : ByteArray} {maxL n index : Nat} {ret2 : Option FieldType} {ws2 : List Cond} {rm : Room} {C : String} {b : Addr} {As st0 : List Value} {S : Type} {wf : S → va_W}
/-- a call of a method of a cell of the world, whose contract speaks of this very world -/
theorem kcV {post : Int32 → S → Prop} (C0 : kE p s m meth c args cc nL ret own ws D cI A) (hP : va_P D vwCl w0 H) (hD : va_D A w0) (hS : va_S A s.heap H locs) (hM : KI l D cI y ws2 rm (.ref b :: As) w0 wf post) (cw : CallW R s args own C index y bytes maxL ret2 ws2 rm 0 0 n) (q0 ci : Nat) {fs : List Value} {T : u_T} {N : Nat} (he : w0[q0]? = some (b, .inr (ci, fs))) (hc : vwCl[ci]? = some (C, T, N)) (hn : As.length = n) (hsize : ls.size = nL)
    (hst : st0 = As.reverse ++ .ref b :: rest) (hW : (rest.map fun v => v.category).sum ≤ 8) (hdg : decode cc pc = .ok (.invokevirtual index, 3)) (hf : cells ≤ R.cells ∧ slots ≤ R.slots)
    (kk : ∀ (r : Int32) (u : S) (H1 : Heap) (locs1 : List Loc), post r u → va_P D vwCl (wf u) H1 → va_D A (wf u) → va_S A s.heap H1 locs1 → W p l e R s m args below meth c H1 locs1 cells slots Q (F0 m (pc + 3) ls (.int r :: rest))) : W p l e R s m args below meth c H locs cells slots Q (F0 m pc ls st0) := by
  obtain ⟨F, hr, hlocks, hK, hA, hG⟩ := C0
  have hFc := k_in hD hS hA
  refine va_calli (va_runV (As := As) (rest := rest) F (hM H.size) cw ⟨kP_blind, va_recv hK hP hc he, fun U hU hW1 => ⟨rfl, by rw [hU], by rw [hU]; exact hP, va_K.moved hW1.alike hK, hD.weaken (fun _ _ _ _ => trivial), ?_⟩⟩ rfl hn hsize hst (lv_room hW) hdg hf) hS (fun q _ h => hFc q h) hFc (fun r u t H1 locs1 ht hvm hw hB hz1 hk1 hS1 => ?_)
  · rw [hU]; exact hG.at hW1 hS.2.1 hFc
  · obtain ⟨hP1, hK1, hD1⟩ := hB
    rw [ht] at hP1
    exact kk r u H1 locs1 hw hP1 (hD1.weaken (fun k q hk h => hFc _ h)) hS1
theorem kcVv {post : S → Prop} (C0 : kE p s m meth c args cc nL ret own ws D cI A) (hP : va_P D vwCl w0 H) (hD : va_D A w0) (hS : va_S A s.heap H locs) (hM : KV l D cI y ws2 rm (.ref b :: As) w0 wf post) (cw : CallW R s args own C index y bytes maxL ret2 ws2 rm 0 0 n) (q0 ci : Nat) {fs : List Value} {T : u_T} {N : Nat} (he : w0[q0]? = some (b, .inr (ci, fs))) (hc : vwCl[ci]? = some (C, T, N)) (hn : As.length = n) (hsize : ls.size = nL)
    (hst : st0 = As.reverse ++ .ref b :: rest) (hW : (rest.map fun v => v.category).sum ≤ 8) (hdg : decode cc pc = .ok (.invokevirtual index, 3)) (hf : cells ≤ R.cells ∧ slots ≤ R.slots)
    (kk : ∀ (u : S) (H1 : Heap) (locs1 : List Loc), post u → va_P D vwCl (wf u) H1 → va_D A (wf u) → va_S A s.heap H1 locs1 → W p l e R s m args below meth c H1 locs1 cells slots Q (F0 m (pc + 3) ls rest)) : W p l e R s m args below meth c H locs cells slots Q (F0 m pc ls st0) := by
  obtain ⟨F, hr, hlocks, hK, hA, hG⟩ := C0
  have hFc := k_in hD hS hA
  refine va_callv (va_runV (As := As) (rest := rest) F (hM H.size) cw ⟨kP_blind, va_recv hK hP hc he, fun U hU hW1 => ⟨rfl, by rw [hU], by rw [hU]; exact hP, va_K.moved hW1.alike hK, hD.weaken (fun _ _ _ _ => trivial), ?_⟩⟩ rfl hn hsize hst (lv_room hW) hdg hf) hS (fun q _ h => hFc q h) hFc (fun u t H1 locs1 ht hvm hw hB hz1 hk1 hS1 => ?_)
  · rw [hU]; exact hG.at hW1 hS.2.1 hFc
  · obtain ⟨hP1, hK1, hD1⟩ := hB
    rw [ht] at hP1
    exact kk u H1 locs1 hw hP1 (hD1.weaken (fun k q hk h => hFc _ h)) hS1
/-- a static call of a method that needs no cell: its answer is a number of its arguments -/
theorem kcS {ans : Int32} (C0 : kE p s m meth c args cc nL ret own ws D cI A) (hP : va_P D vwCl w0 H) (hS : va_S A s.heap H locs) (hM : KI l D cI y ws2 rm As [] (fun _ : Unit => []) (fun r _ => r = ans)) (cw : CallB R s args own index y bytes maxL ret2 ws2 rm 0 0 n ∧ (Cond.static y).before args s = true) (hn : As.length = n) (hsize : ls.size = nL)
    (hst : st0 = As.reverse ++ rest) (hW : (rest.map fun v => v.category).sum ≤ 8) (hdg : decode cc pc = .ok (.invokestatic index, 3)) (hf : cells ≤ R.cells ∧ slots ≤ R.slots)
    (kk : ∀ (H1 : Heap) (locs1 : List Loc), va_P D vwCl w0 H1 → va_S A s.heap H1 locs1 → W p l e R s m args below meth c H1 locs1 cells slots Q (F0 m (pc + 3) ls (.int ans :: rest))) : W p l e R s m args below meth c H locs cells slots Q (F0 m pc ls st0) := by
  obtain ⟨F, hr, hlocks, hK, hA, hG⟩ := C0
  have hFc := k_nil hS hA
  have hPn : ∀ H1 : Heap, va_P D vwCl [] H1 := fun H1 k q h => by simp at h
  have hDn : ∀ A1 : Nat → Prop, va_D A1 [] := fun A1 => ⟨fun i j p q h => by simp at h, fun k q h => by simp at h⟩
  refine va_calli (va_runS (As := As) (rest := rest) F (hM H.size) cw ⟨kP_blind, fun U hU hW1 => ⟨rfl, by rw [hU], hPn _, va_K.moved hW1.alike hK, hDn _, ?_⟩⟩ rfl hn hsize hst (lv_room hW) hdg hf) hS (fun q _ h => hFc q h) hFc (fun r u t H1 locs1 ht hvm hw hB hz1 hk1 hS1 => ?_)
  · rw [hU]; exact hG.at hW1 hS.2.1 hFc
  · subst hw
    refine kk H1 locs1 (hP.kept (fun k q hk => hk1 q.1 (hP k q hk).lt (fun h => ?_))) hS1
    rcases h with ⟨k2, e2, h⟩ | h
    · simp at h
    · exact absurd (hP k q hk).lt (Nat.not_lt.mpr h)
/-- the same, of a nest mate's private method -/
theorem kcSN {ans : Int32} {host : String} (C0 : kE p s m meth c args cc nL ret own ws D cI A) (hP : va_P D vwCl w0 H) (hS : va_S A s.heap H locs) (hM : KI l D cI y ws2 rm As [] (fun _ : Unit => []) (fun r _ => r = ans)) (cw : va_CN R s args own index y host bytes maxL ret2 ws2 rm 0 0 n ∧ (Cond.static y).before args s = true ∧ True) (hn : As.length = n) (hsize : ls.size = nL)
    (hst : st0 = As.reverse ++ rest) (hW : (rest.map fun v => v.category).sum ≤ 8) (hdg : decode cc pc = .ok (.invokestatic index, 3)) (hf : cells ≤ R.cells ∧ slots ≤ R.slots)
    (kk : ∀ (H1 : Heap) (locs1 : List Loc), va_P D vwCl w0 H1 → va_S A s.heap H1 locs1 → W p l e R s m args below meth c H1 locs1 cells slots Q (F0 m (pc + 3) ls (.int ans :: rest))) : W p l e R s m args below meth c H locs cells slots Q (F0 m pc ls st0) := by
  obtain ⟨F, hr, hlocks, hK, hA, hG⟩ := C0
  have hFc := k_nil hS hA
  have hPn : ∀ H1 : Heap, va_P D vwCl [] H1 := fun H1 k q h => by simp at h
  have hDn : ∀ A1 : Nat → Prop, va_D A1 [] := fun A1 => ⟨fun i j p q h => by simp at h, fun k q h => by simp at h⟩
  refine va_calli (va_runSN (As := As) (rest := rest) F (hM H.size) cw ⟨kP_blind, fun U hU hW1 => ⟨rfl, by rw [hU], hPn _, va_K.moved hW1.alike hK, hDn _, ?_⟩⟩ rfl hn hsize hst (lv_room hW) hdg hf) hS (fun q _ h => hFc q h) hFc (fun r u t H1 locs1 ht hvm hw hB hz1 hk1 hS1 => ?_)
  · rw [hU]; exact hG.at hW1 hS.2.1 hFc
  · subst hw
    refine kk H1 locs1 (hP.kept (fun k q hk => hk1 q.1 (hP k q hk).lt (fun h => ?_))) hS1
    rcases h with ⟨k2, e2, h⟩ | h
    · simp at h
    · exact absurd (hP k q hk).lt (Nat.not_lt.mpr h)
/-- a join: what comes behind is shown once, for all ways that lead there -/
theorem jW {lv : List (Nat × Value)} {w1 : va_W} (hD1 : va_D A w1) (hl : lv_has ls nL lv) (J : Nat) (w' : va_W) (lv' : List (Nat × Value)) (st' : List Value)
    (br : (∀ (H' : Heap) (locs' : List Loc) (ls' : Array Slot), va_P D vwCl w' H' → va_D A w' → va_S A s.heap H' locs' → lv_has ls' nL lv' → W p l e R s m args below meth c H' locs' cells slots Q (F0 m J ls' st')) → W p l e R s m args below meth c H locs cells slots Q (F0 m pc ls rest))
    (cont : ∀ (H' : Heap) (locs' : List Loc) (ls' : Array Slot), va_P D vwCl w' H' → va_D A w' → va_S A s.heap H' locs' → lv_has ls' nL lv' → W p l e R s m args below meth c H' locs' cells slots Q (F0 m J ls' st')) : W p l e R s m args below meth c H locs cells slots Q (F0 m pc ls rest) := br cont
/-- a loop: the world, the locals and a fact by a state a; a measure falls at every turn -/
theorem lpW {σ : Type} (wf : σ → va_W) (lf : σ → List (Nat × Value)) (pf : σ → Prop) (μ : σ → Nat) (a0 : σ) (hP : va_P D vwCl (wf a0) H) (hD : va_D A (wf a0)) (hS : va_S A s.heap H locs) (hl : lv_has ls nL (lf a0)) (h0 : pf a0)
    (step : ∀ (a : σ) (H : Heap) (locs : List Loc) (ls : Array Slot), va_P D vwCl (wf a) H → va_D A (wf a) → va_S A s.heap H locs → lv_has ls nL (lf a) → pf a →
      (∀ (a' : σ) (H' : Heap) (locs' : List Loc) (ls' : Array Slot), va_P D vwCl (wf a') H' → va_D A (wf a') → va_S A s.heap H' locs' → lv_has ls' nL (lf a') → pf a' → μ a' < μ a → W p l e R s m args below meth c H' locs' cells slots Q (F0 m pc ls' rest)) →
      W p l e R s m args below meth c H locs cells slots Q (F0 m pc ls rest)) : W p l e R s m args below meth c H locs cells slots Q (F0 m pc ls rest) := by
  have key : ∀ (k : Nat) (a : σ) (H : Heap) (locs : List Loc) (ls : Array Slot), va_P D vwCl (wf a) H → va_D A (wf a) → va_S A s.heap H locs → lv_has ls nL (lf a) → pf a → μ a < k → W p l e R s m args below meth c H locs cells slots Q (F0 m pc ls rest) := by
    intro k
    induction k with
    | zero => intro a H locs ls _ _ _ _ _ h; exact absurd h (Nat.not_lt_zero _)
    | succ k ih =>
      intro a H locs ls hP hD hS hl hp hk
      exact step a H locs ls hP hD hS hl hp (fun a' H' locs' ls' h1 h2 h3 h4 h5 h6 => ih a' H' locs' ls' h1 h2 h3 h4 h5 (by omega))
  exact key (μ a0 + 1) a0 H locs ls hP hD hS hl h0 (Nat.lt_succ_self _)
/-- an int row's cell, by a number that is a place of it -/
theorem ra_ld (C0 : kE p s m meth c args cc nL ret own ws D cI A) (hP : va_P D vwCl w0 H) (q0 : Nat) {a N : Nat} {f : Nat → Int32} (ha : w0[q0]? = some (a, .inl (cI, N, .inl f))) {i : Int32} (k : Nat) (hi : i = nI k) (hk : k < N) (hN : N < 2 ^ 31) (hdg : decode cc pc = .ok (.iaload, 1))
    (kk : W p l e R s m args below meth c H locs cells slots Q (F0 m (pc + 1) ls (.int (f k) :: rest))) : W p l e R s m args below meth c H locs cells slots Q (F0 m pc ls (.int i :: .ref a :: rest)) := by
  subst hi
  refine va_iald C0.1.1 C0.1.2.1 C0.2.2.2.1 hP q0 0 ha rfl (vp_in_nI hk hN) hdg ?_
  rw [nI_clamp (Nat.lt_trans hk hN)]
  exact kk
theorem ra_st (C0 : kE p s m meth c args cc nL ret own ws D cI A) (hP : va_P D vwCl w0 H) (hD : va_D A w0) (hS : va_S A s.heap H locs) (q0 : Nat) {a N : Nat} {f : Nat → Int32} (ha : w0[q0]? = some (a, .inl (cI, N, .inl f))) {i x : Int32} (k : Nat) (hi : i = nI k) (hk : k < N) (hN : N < 2 ^ 31) (hdg : decode cc pc = .ok (.iastore, 1))
    (kk : ∀ (H1 : Heap) (locs1 : List Loc), va_P D vwCl (w0.set q0 (a, .inl (cI, N, .inl (upd f k x)))) H1 → va_D A (w0.set q0 (a, .inl (cI, N, .inl (upd f k x)))) → va_S A s.heap H1 locs1 → W p l e R s m args below meth c H1 locs1 cells slots Q (F0 m (pc + 1) ls rest)) : W p l e R s m args below meth c H locs cells slots Q (F0 m pc ls (.int x :: .int i :: .ref a :: rest)) := by
  subst hi
  refine va_iast C0.1.1 C0.1.2.1 C0.2.2.2.1 hP hD hS q0 0 ha rfl (vp_in_nI hk hN) hdg ?_
  rw [nI_clamp (Nat.lt_trans hk hN)]
  exact kk
end LG
abbrev KD (l : Launch) (D : va_G) (cI : ClassId) (y : MethodName) (ws : List Cond) (rm : Room) (As : List Value) (w0 w1 : va_W) (ans : Int32) : Prop := KI l D cI y ws rm As w0 (fun _ : Unit => w1) (fun q _ => q = ans)
abbrev KDv (l : Launch) (D : va_G) (cI : ClassId) (y : MethodName) (ws : List Cond) (rm : Room) (As : List Value) (w0 w1 : va_W) : Prop := KV l D cI y ws rm As w0 (fun _ : Unit => w1) (fun _ => True)
section LD
variable {p : Program} {l : Launch} {e : Env} {R : Room} {s : State} {m : MethodId} {args : Array Value} {below : List Frame} {meth : Method} {c : Code} {H : Heap} {locs : List Loc} {cells slots : Nat} {Q : State → Prop} {cc : ByteArray} {pc nL : Nat} {ls : Array Slot} {rest : List Value}
variable {D : va_G} {cI : ClassId} {A : Nat → Prop} {w0 w1 : va_W} {own : String} {ws : List Cond} {ret : Option FieldType}
variable {y : MethodName} {bytes : ByteArray} {maxL n index : Nat} {ret2 : Option FieldType} {ws2 : List Cond} {rm : Room} {C : String} {b : Addr} {As st0 : List Value}
theorem kcD {ans : Int32} (C0 : kE p s m meth c args cc nL ret own ws D cI A) (hP : va_P D vwCl w0 H) (hD : va_D A w0) (hS : va_S A s.heap H locs) (hM : KD l D cI y ws2 rm (.ref b :: As) w0 w1 ans) (cw : CallW R s args own C index y bytes maxL ret2 ws2 rm 0 0 n) (q0 ci : Nat) {fs : List Value} {T : u_T} {N : Nat} (he : w0[q0]? = some (b, .inr (ci, fs))) (hc : vwCl[ci]? = some (C, T, N)) (hn : As.length = n) (hsize : ls.size = nL)
    (hst : st0 = As.reverse ++ .ref b :: rest) (hW : (rest.map fun v => v.category).sum ≤ 8) (hdg : decode cc pc = .ok (.invokevirtual index, 3)) (hf : cells ≤ R.cells ∧ slots ≤ R.slots)
    (kk : ∀ (H1 : Heap) (locs1 : List Loc), va_P D vwCl w1 H1 → va_D A w1 → va_S A s.heap H1 locs1 → W p l e R s m args below meth c H1 locs1 cells slots Q (F0 m (pc + 3) ls (.int ans :: rest))) : W p l e R s m args below meth c H locs cells slots Q (F0 m pc ls st0) :=
  kcV C0 hP hD hS hM cw q0 ci he hc hn hsize hst hW hdg hf (fun r _ H1 locs1 hq h1 h2 h3 => by subst hq; exact kk H1 locs1 h1 h2 h3)
theorem kcDv (C0 : kE p s m meth c args cc nL ret own ws D cI A) (hP : va_P D vwCl w0 H) (hD : va_D A w0) (hS : va_S A s.heap H locs) (hM : KDv l D cI y ws2 rm (.ref b :: As) w0 w1) (cw : CallW R s args own C index y bytes maxL ret2 ws2 rm 0 0 n) (q0 ci : Nat) {fs : List Value} {T : u_T} {N : Nat} (he : w0[q0]? = some (b, .inr (ci, fs))) (hc : vwCl[ci]? = some (C, T, N)) (hn : As.length = n) (hsize : ls.size = nL)
    (hst : st0 = As.reverse ++ .ref b :: rest) (hW : (rest.map fun v => v.category).sum ≤ 8) (hdg : decode cc pc = .ok (.invokevirtual index, 3)) (hf : cells ≤ R.cells ∧ slots ≤ R.slots)
    (kk : ∀ (H1 : Heap) (locs1 : List Loc), va_P D vwCl w1 H1 → va_D A w1 → va_S A s.heap H1 locs1 → W p l e R s m args below meth c H1 locs1 cells slots Q (F0 m (pc + 3) ls rest)) : W p l e R s m args below meth c H locs cells slots Q (F0 m pc ls st0) :=
  kcVv C0 hP hD hS hM cw q0 ci he hc hn hsize hst hW hdg hf (fun _ H1 locs1 _ h1 h2 h3 => kk H1 locs1 h1 h2 h3)
end LD
/-! THE WORLDS: the class's objects (X) and the reference's (M): addresses a, scalars v, rows r by the cell's place -/
def vU (v : Nat → Int32) (j : Nat) (x : Int32) : Nat → Int32 := fun i => cond (Nat.beq i j) x (v i)
def rU (r : Nat → Nat → Int32) (j : Nat) (f : Nat → Int32) : Nat → Nat → Int32 := fun i => cond (Nat.beq i j) f (r i)
def wX (cI : ClassId) (a : Nat → Nat) (v : Nat → Int32) (r : Nat → Nat → Int32) : va_W := [(a 0, .inr (4, [.ref (a 1), .ref (a 20)])), (a 1, .inr (0, [.int (v 0), .int (v 1), .int (v 2), .ref (a 2), .ref (a 3), .ref (a 4), .ref (a 5), .ref (a 6), .ref (a 7), .ref (a 8), .ref (a 9), .ref (a 10), .ref (a 11), .int (v 3)])), (a 2, .inl (cI, 120, .inl (r 2))), (a 3, .inl (cI, 120, .inl (r 3))), (a 4, .inl (cI, 120, .inl (r 4))), (a 5, .inl (cI, 120, .inl (r 5))), (a 6, .inl (cI, 120, .inl (r 6))), (a 7, .inl (cI, 120, .inl (r 7))), (a 8, .inl (cI, 120, .inl (r 8))), (a 9, .inl (cI, 120, .inl (r 9))), (a 10, .inl (cI, 30, .inl (r 10))), (a 11, .inl (cI, 30, .inl (r 11))), (a 12, .inr (1, [.ref (a 13), .ref (a 14), .ref (a 15), .ref (a 16), .ref (a 17)])), (a 13, .inl (cI, 150, .inl (r 13))), (a 14, .inl (cI, 150, .inl (r 14))), (a 15, .inl (cI, 150, .inl (r 15))), (a 16, .inl (cI, 150, .inl (r 16))), (a 17, .inl (cI, 150, .inl (r 17))), (a 18, .inr (2, [.int (v 4), .ref (a 19)])), (a 19, .inl (cI, 1200, .inl (r 19))), (a 20, .inr (3, [.ref (a 1), .ref (a 12), .ref (a 18), .int (v 5), .int (v 6), .int (v 7)]))]
def wM (cI : ClassId) (a : Nat → Nat) (v : Nat → Int32) (r : Nat → Nat → Int32) : va_W := [(a 0, .inr (5, [.int (v 0), .int (v 1), .int (v 2), .ref (a 1), .int (v 4), .ref (a 2), .ref (a 3), .ref (a 4), .ref (a 5), .ref (a 6), .ref (a 7), .ref (a 8), .ref (a 9), .ref (a 10), .int (v 14), .ref (a 11), .int (v 16), .int (v 17), .int (v 18), .int (v 19), .int (v 20), .int (v 21), .int (v 22), .int (v 23), .ref (a 12)])), (a 1, .inl (cI, 30, .inl (r 1))), (a 2, .inl (cI, 120, .inl (r 2))), (a 3, .inl (cI, 120, .inl (r 3))), (a 4, .inl (cI, 120, .inl (r 4))), (a 5, .inl (cI, 120, .inl (r 5))), (a 6, .inl (cI, 120, .inl (r 6))), (a 7, .inl (cI, 120, .inl (r 7))), (a 8, .inl (cI, 120, .inl (r 8))), (a 9, .inl (cI, 120, .inl (r 9))), (a 10, .inl (cI, 3000, .inl (r 10))), (a 11, .inl (cI, 4000, .inl (r 11))), (a 12, .inl (cI, 1920, .inl (r 12)))]
theorem k_inc (i : Nat) : nI i + Int32.ofInt 1 = nI (i + 1) := nI_1 i
theorem k_dec (i : Nat) : nI (i + 1) + Int32.ofInt (-1) = nI i := pk_m1 i
def mx (a b : Int32) : Int32 := if b < a then a else b
def uni (lev : Int32) : Int32 := if lev < 2 then 10 else if lev = 2 then 7 else 5
def bI (c : Prop) [Decidable c] : Int32 := if c then 1 else 0
