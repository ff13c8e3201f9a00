/-! THE LAW'S WRAPPERS: a call of the class, its answer laid into a row of one long, or the number of its exception -/
abbrev tyL (cI cL : ClassId) : List (ClassId × FieldType) := [(cI, .int), (cL, .long)]
abbrev ouC (cL : ClassId) (b : Nat) (f : Nat → Int64) : Nat × va_E := (b, .inl (cL, 1, .inr (.inl f)))
def wO (cI cL : ClassId) (a : Nat → Nat) (b : Nat) (f : Nat → Int64) (v : Nat → Int32) (r : Nat → Nat → Int32) : va_W := ouC cL b f :: wX cI a v r
def kBW (D : va_G) (cI cL : ClassId) (A : Nat → Prop) {S : Type} (wf : S → va_W) : S → State → Prop := fun u t => va_P D vwCl (wf u) t.heap ∧ va_K D vwCl (tyL cI cL) t ∧ va_D A (wf u)
def kPW (D : va_G) (cI cL : ClassId) (w0 : va_W) (sz : Nat) : State → Prop := fun U => U.heap.size = sz ∧ va_P D vwCl w0 U.heap ∧ va_K D vwCl (tyL cI cL) U ∧ va_D (fun _ => True) w0 ∧ Gs (va_A w0 sz) U U.heap
theorem kPW_blind {D : va_G} {cI cL : ClassId} {w0 : va_W} {sz : Nat} {As : List Value} : FrameBlind (va_Pc As (kPW D cI cL w0 sz)) := by
  intro a U g mk q
  obtain ⟨q0, q1, qP, qK, qD, qG⟩ := q
  exact ⟨q0, q1, qP, va_K.moved (u := U) (U := U.calling g mk a) (Vm.Alike.refl U.vm) qK, qD, qG.at (U := U.calling g mk a) (State.WarmedH.refl U) (fun _ _ _ => rfl) (fun _ h => h)⟩
def KW (l : Launch) (D : va_G) (cI cL : ClassId) (y : MethodName) (ws : List Cond) (rm : Room) (As : List Value) (w0 : va_W) (mc ms : Nat) {S : Type} (wf : S → va_W) (post : Int32 → S → Prop) : Prop :=
  ∀ sz : Nat, Met l y ws rm (va_Pc As (kPW D cI cL w0 sz)) (va_Qi post (kBW D cI cL (va_A w0 sz) wf) (va_A w0 sz)) mc ms (va_A w0 sz)
def kEW (p : Program) (s : State) (m : MethodId) (meth : Method) (c : Code) (args : Array Value) (cc : ByteArray) (nL : Nat) (ret : Option FieldType) (own : String) (ws : List Cond) (D : va_G) (cI cL : ClassId) (A : Nat → Prop) : Prop :=
  CallFix p m c cc nL s args ws own ∧ meth.sig.returnType = ret ∧ meth.locks = false ∧ va_K D vwCl (tyL cI cL) s ∧ (∀ q : Nat, s.heap.size ≤ q → A q) ∧ Gs A s s.heap
section LW
variable {p : Program} {l : Launch} {e : Env} {R : Room} {s : State} {m : MethodId} {args : Array Value} {below : List Frame} {meth : Method} {c : Code} {H : Heap} {locs : List Loc} {cells slots : Nat} {Q : State → Prop} {cc : ByteArray} {pc nL : Nat} {ls : Array Slot} {rest : List Value}
variable {D : va_G} {cI cL : ClassId} {A : Nat → Prop} {w0 : va_W} {own : String} {ws : List Cond} {ret : Option FieldType} {mc ms : Nat}
theorem KW.of {y : MethodName} {ws ws' : List Cond} {rm : Room} {As : List Value} {S : Type} {wf : S → va_W} {post : Int32 → S → Prop} {hh : List (Nat × Nat × Nat × Nat)} (hy : plainName y.cls = true) (hw : ws = Cond.codeWith y cc nL ret hh :: ws') (hn : (lg_sl As).length ≤ nL)
    (body : ∀ (p : Program) (e : Env) (s : State) (m : MethodId) (args : Array Value) (below : List Frame) (meth : Method) (c : Code) (A : Nat → Prop) (ls : Array Slot), kEW p s m meth c args cc nL ret y.cls ws D cI cL A → c.exceptionTable.toList = tableOf hh → va_P D vwCl w0 s.heap → va_D A w0 → va_S A s.heap s.heap [] → lv_has ls nL (lv_args 0 As) →
      W p l e rm s m args below meth c s.heap [] 0 0 (MQ below (va_Qi post (kBW D cI cL A wf) A) args s mc ms A) (F0 m 0 ls [])) : KW l D cI cL y ws rm As w0 mc ms wf post := by
  intro sz
  refine va_MetW (cc := cc) (maxL := nL) (ret := ret) (hh := hh) hy hw ?_
  intro p e s m args below meth c s₁ B hml hv
  obtain ⟨rfl, hsz, hP, hK, hD0, hG⟩ := hv
  subst hsz
  have hl := lv_entry As (n := nL) hn
  have hts := atoms_spec (ws := ws) B.pre
  rw [lg_entry_eq]
  exact body p e s m _ below meth c _ _ ⟨⟨B.exec, B.bytes, hml, findClass_of_methodNamed B.named, hts⟩, B.returns, B.notSynchronized, hK, fun q h => Or.inr h, hG⟩ (vx_table (x := y) B (hts _ (by rw [hw]; exact List.mem_cons_self))) hP hD0.self va_S.rf hl
theorem kw_iret {S : Type} {wf : S → va_W} {post : Int32 → S → Prop} {v : Int32} (C0 : kEW p s m meth c args cc nL (some .int) own ws D cI cL A) (u : S) (hP : va_P D vwCl (wf u) H) (hD : va_D A (wf u)) (hS : va_S A s.heap H locs) (hp : post v u) (hc : cells ≤ mc) (hs : slots ≤ ms) (hdg : decode cc pc = .ok (.ireturn, 1)) :
    W p l e R s m args below meth c H locs cells slots (MQ below (va_Qi post (kBW D cI cL A wf) A) args s mc ms A) (F0 m pc ls [.int v]) := by
  obtain ⟨⟨hx, hb, hml, hown, hts⟩, hr, hlocks, hK, hA, hG⟩ := C0
  exact W.widen hc hs (W.iret hx hb hr (fun t ht hW => ⟨⟨v, u, rfl, hp, by rw [ht]; exact hP, va_K.moved hW.alike hK, hD⟩, hS.F ht⟩) hS.2.2 hdg hlocks)
/-- caught here: the rows ahead take other exceptions -/
theorem kw_catch {E : String} {ce : Cell} {q9 : Addr} (C0 : kEW p s m meth c args cc nL ret own ws D cI cL A) (pre : List ExceptionTableEntry) (x : ExceptionTableEntry) (suf : List ExceptionTableEntry) (htab : c.exceptionTable.toList = pre ++ x :: suf) (hpre : ∀ z ∈ pre, z.catchType ≠ 0 ∧ ∃ nm : String, Cond.classLink own z.catchType nm ∈ ws ∧ (E, nm) ∈ gsN) (hcov : covers x pc = true) (h0 : x.catchType ≠ 0) (hlink : Cond.classLink own x.catchType E ∈ ws) (hE : Cond.castable E E ∈ gsW)
    (h1 : H[q9]? = some ce) (h2 : ce.vm = .none) (h3 : s.vm.findClass E = some ce.cls) (kk : W p l e R s m args below meth c H locs cells slots Q (F0 m x.handlerPc ls [.ref q9])) : vx_W p l e R s m args below meth c H locs cells slots Q (F0 m pc ls rest) q9 := by
  obtain ⟨⟨hx, hb, hml, hown, hts⟩, hr, hlocks, hK, hA, hG⟩ := C0
  obtain ⟨-, -, -, -, -, hW9, hN9⟩ := hG
  refine vx_catch hown pre x suf htab (fun z hz => Or.inr ?_) hcov h0 (hts _ hlink) (va_tabs rfl rfl (hW9 _ hE)) h1 h2 h3 kk
  obtain ⟨a1, nm, a2, a3⟩ := hpre z hz
  exact ⟨a1, nm, hts _ a2, hN9 _ a3⟩
variable {y : MethodName} {bytes : ByteArray} {maxL n index : Nat} {ret2 : Option FieldType} {ws2 : List Cond} {rm : Room} {C : String} {b : Addr} {As st0 : List Value} {S : Type} {wf : S → va_W}
/-- a call of the class beside the row of one long -/
theorem kcO {a : Nat → Nat} {v : Nat → Int32} {r : Nat → Nat → Int32} {bo : Nat} {fo : Nat → Int64} {post : Int32 → S → Prop} {mc2 ms2 : Nat} {px : String → Prop} (C0 : kEW p s m meth c args cc nL ret own ws D cI cL A) (hP : va_P D vwCl (wO cI cL a bo fo v r) H) (hD : va_D A (wO cI cL a bo fo v r)) (hS : va_S A s.heap H locs) (hM : KX l D cI y ws2 rm (.ref b :: As) (wX cI a v r) mc2 ms2 wf post px) (cw : CallW R s args own C index y bytes maxL ret2 ws2 rm mc2 ms2 n) (q0 ci : Nat) {fs : List Value} {T : u_T} {N : Nat} (he : (wX cI a v r)[q0]? = some (b, .inr (ci, fs))) (hcc : vwCl[ci]? = some (C, T, N)) (hn : As.length = n) (hsize : ls.size = nL)
    (hst : st0 = As.reverse ++ .ref b :: rest) (hW : (rest.map fun v => v.category).sum ≤ 8) (hdg : decode cc pc = .ok (.invokevirtual index, 3)) (hf : cells + mc2 ≤ R.cells ∧ slots + ms2 ≤ R.slots)
    (kx : ∀ (E : String) (ce : Cell) (q9 : Addr) (H1 : Heap) (locs1 : List Loc), px E → va_P D vwCl (wO cI cL a bo fo v r) H1 → va_D A (wO cI cL a bo fo v r) → va_S A s.heap H1 locs1 → H1[q9]? = some ce → ce.vm = .none → s.vm.findClass E = some ce.cls → vx_W p l e R s m args below meth c H1 locs1 (cells + mc2) (slots + ms2) Q (F0 m pc ls rest) q9)
    (kk : ∀ (z : Int32) (u : S) (H1 : Heap) (locs1 : List Loc), post z u → va_P D vwCl (ouC cL bo fo :: wf u) H1 → va_D A (ouC cL bo fo :: wf u) → va_S A s.heap H1 locs1 → W p l e R s m args below meth c H1 locs1 (cells + mc2) (slots + ms2) Q (F0 m (pc + 3) ls (.int z :: rest))) : W p l e R s m args below meth c H locs cells slots Q (F0 m pc ls st0) := by
  obtain ⟨F, hr, hlocks, hK, hA, hG⟩ := C0
  have hPc : va_P D vwCl (wX cI a v r) H := hP.sub [1, 2, 3, 4, 5, 6, 7, 8, 9, 10, 11, 12, 13, 14, 15, 16, 17, 18, 19, 20, 21] rfl
  have hDc : va_D A (wX cI a v r) := hD.sub [1, 2, 3, 4, 5, 6, 7, 8, 9, 10, 11, 12, 13, 14, 15, 16, 17, 18, 19, 20, 21] rfl rfl
  have hKc : va_K D vwCl (tyI cI) s := hK.sub [0] rfl
  have hFc := k_in hDc hS hA
  refine vx_calli (vx_runV (As := As) (rest := rest) F (hM H.size) cw ⟨kP_blind, va_recv hK hPc hcc he, fun U hU hW1 => ⟨rfl, by rw [hU], by rw [hU]; exact hPc, va_K.moved hW1.alike hKc, hDc.weaken (fun _ _ _ _ => trivial), ?_⟩⟩ rfl hn hsize hst (lv_room hW) hdg hf) hS (fun q _ h => hFc q h) hFc (fun q _ h => hFc q h) (fun E ce q9 u t H1 locs1 ht hvm hw hB hz1 hk1 hS1 h1 h2 h3 => ?_) (fun z u t H1 locs1 ht hvm hw hB hz1 hk1 hS1 => ?_)
  · rw [hU]; exact hG.at hW1 hS.2.1 hFc
  · obtain ⟨rfl, hP1, hK1, hD1⟩ := hB
    rw [ht] at hP1
    obtain ⟨j1, j2⟩ := va_join hP hD [1, 2, 3, 4, 5, 6, 7, 8, 9, 10, 11, 12, 13, 14, 15, 16, 17, 18, 19, 20, 21] [0] (wc := wX cI a v r) (wr := [ouC cL bo fo]) rfl rfl rfl (by decide) hk1 hFc hP1 hD1
    exact kx _ ce q9 H1 locs1 hw j1 j2 hS1 h1 h2 h3
  · obtain ⟨hP1, hK1, hD1⟩ := hB
    rw [ht] at hP1
    obtain ⟨j1, j2⟩ := va_join hP hD [1, 2, 3, 4, 5, 6, 7, 8, 9, 10, 11, 12, 13, 14, 15, 16, 17, 18, 19, 20, 21] [0] (wc := wX cI a v r) (wr := [ouC cL bo fo]) rfl rfl rfl (by decide) hk1 hFc hP1 hD1
    exact kk z u H1 locs1 hw j1 j2 hS1
end LW
