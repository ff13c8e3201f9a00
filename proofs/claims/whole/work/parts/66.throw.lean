/-! METHODS THAT MAY THROW: on a throw the world is as it was, and the exception's class tells which -/
def kXX (D : va_G) (cI : ClassId) (w0 : va_W) (A : Nat → Prop) (px : String → Prop) : String → State → State → Prop := vx_X px (fun E E' t => E = E' ∧ va_P D vwCl w0 t.heap ∧ va_K D vwCl (tyI cI) t ∧ va_D A w0) A
def KX (l : Launch) (D : va_G) (cI : ClassId) (y : MethodName) (ws : List Cond) (rm : Room) (As : List Value) (w0 : va_W) (mc ms : Nat) {S : Type} (wf : S → va_W) (post : Int32 → S → Prop) (px : String → Prop) : Prop :=
  ∀ sz : Nat, vx_Met l y ws rm (va_Pc As (kP D cI w0 sz)) (va_Qi post (kB D cI (va_A w0 sz) wf) (va_A w0 sz)) (kXX D cI w0 (va_A w0 sz) px) mc ms (va_A w0 sz)
def KXv (l : Launch) (D : va_G) (cI : ClassId) (y : MethodName) (ws : List Cond) (rm : Room) (As : List Value) (w0 : va_W) (mc ms : Nat) {S : Type} (wf : S → va_W) (post : S → Prop) (px : String → Prop) : Prop :=
  ∀ sz : Nat, vx_Met l y ws rm (va_Pc As (kP D cI w0 sz)) (va_Qv post (kB D cI (va_A w0 sz) wf) (va_A w0 sz)) (kXX D cI w0 (va_A w0 sz) px) mc ms (va_A w0 sz)
section LT
variable {p : Program} {l : Launch} {e : Env} {R : Room} {s : State} {m : MethodId} {args : Array Value} {below : List Frame} {meth : Method} {c : Code} {H : Heap} {locs : List Loc} {cells slots : Nat} {Q : State → Prop} {cc : ByteArray} {pc nL : Nat} {ls : Array Slot} {rest : List Value}
variable {D : va_G} {cI : ClassId} {A : Nat → Prop} {w0 : va_W} {own : String} {ws : List Cond} {ret : Option FieldType} {mc ms : Nat} {px : String → Prop}
theorem KX.of {y : MethodName} {ws ws' : List Cond} {rm : Room} {As : List Value} {S : Type} {wf : S → va_W} {post : Int32 → S → Prop} (hy : plainName y.cls = true) (hw : ws = Cond.code y cc nL ret :: ws') (hn : (lg_sl As).length ≤ nL)
    (body : ∀ (p : Program) (e : Env) (s : State) (m : MethodId) (args : Array Value) (below : List Frame) (meth : Method) (c : Code) (A : Nat → Prop) (ls : Array Slot), kE p s m meth c args cc nL ret y.cls ws D cI A → (∀ x ∈ c.exceptionTable.toList, False) → va_P D vwCl w0 s.heap → va_D A w0 → va_S A s.heap s.heap [] → lv_has ls nL (lv_args 0 As) →
      W p l e rm s m args below meth c s.heap [] 0 0 (vx_MQ below (va_Qi post (kB D cI A wf) A) (kXX D cI w0 A px) args s mc ms A) (F0 m 0 ls [])) : KX l D cI y ws rm As w0 mc ms wf post px := by
  intro sz
  refine vx_ofW (cc := cc) (maxL := nL) (ret := ret) hy hw ?_
  intro p e s m args below meth c s₁ B hml hex hv
  obtain ⟨rfl, hsz, hP, hK, hD0, hG⟩ := hv
  subst hsz
  have hl := lv_entry As (n := nL) hn
  rw [lg_entry_eq]
  exact body p e s m _ below meth c _ _ ⟨⟨B.exec, B.bytes, hml, findClass_of_methodNamed B.named, atoms_spec (ws := ws) B.pre⟩, B.returns, B.notSynchronized, hK, fun q h => Or.inr h, hG⟩ hex hP hD0.self va_S.rf hl
theorem KXv.of {y : MethodName} {ws ws' : List Cond} {rm : Room} {As : List Value} {S : Type} {wf : S → va_W} {post : S → Prop} (hy : plainName y.cls = true) (hw : ws = Cond.code y cc nL ret :: ws') (hn : (lg_sl As).length ≤ nL)
    (body : ∀ (p : Program) (e : Env) (s : State) (m : MethodId) (args : Array Value) (below : List Frame) (meth : Method) (c : Code) (A : Nat → Prop) (ls : Array Slot), kE p s m meth c args cc nL ret y.cls ws D cI A → (∀ x ∈ c.exceptionTable.toList, False) → va_P D vwCl w0 s.heap → va_D A w0 → va_S A s.heap s.heap [] → lv_has ls nL (lv_args 0 As) →
      W p l e rm s m args below meth c s.heap [] 0 0 (vx_MQ below (va_Qv post (kB D cI A wf) A) (kXX D cI w0 A px) args s mc ms A) (F0 m 0 ls [])) : KXv l D cI y ws rm As w0 mc ms wf post px := by
  intro sz
  refine vx_ofW (cc := cc) (maxL := nL) (ret := ret) hy hw ?_
  intro p e s m args below meth c s₁ B hml hex hv
  obtain ⟨rfl, hsz, hP, hK, hD0, hG⟩ := hv
  subst hsz
  have hl := lv_entry As (n := nL) hn
  rw [lg_entry_eq]
  exact body p e s m _ below meth c _ _ ⟨⟨B.exec, B.bytes, hml, findClass_of_methodNamed B.named, atoms_spec (ws := ws) B.pre⟩, B.returns, B.notSynchronized, hK, fun q h => Or.inr h, hG⟩ hex hP hD0.self va_S.rf hl
theorem kx_iret {S : Type} {wf : S → va_W} {post : Int32 → S → Prop} {v : Int32} {XC : String → State → State → Prop} (C0 : kE p s m meth c args cc nL (some .int) own ws D cI A) (u : S) (hP : va_P D vwCl (wf u) H) (hD : va_D A (wf u)) (hS : va_S A s.heap H locs) (hp : post v u) (hc : cells ≤ mc) (hs : slots ≤ ms) (hdg : decode cc pc = .ok (.ireturn, 1)) :
    W p l e R s m args below meth c H locs cells slots (vx_MQ below (va_Qi post (kB D cI A wf) A) XC args s mc ms A) (F0 m pc ls [.int v]) := by
  obtain ⟨⟨hx, hb, hml, hown, hts⟩, hr, hlocks, hK, hA, hG⟩ := C0
  exact vx_ret (W.widen hc hs (W.iret hx hb hr (fun t ht hW => ⟨⟨v, u, rfl, hp, by rw [ht]; exact hP, va_K.moved hW.alike hK, hD⟩, hS.F ht⟩) hS.2.2 hdg hlocks))
theorem kx_vret {S : Type} {wf : S → va_W} {post : S → Prop} {XC : String → State → State → Prop} (C0 : kE p s m meth c args cc nL none own ws D cI A) (u : S) (hP : va_P D vwCl (wf u) H) (hD : va_D A (wf u)) (hS : va_S A s.heap H locs) (hp : post u) (hc : cells ≤ mc) (hs : slots ≤ ms) (hdg : decode cc pc = .ok (.return_, 1)) :
    W p l e R s m args below meth c H locs cells slots (vx_MQ below (va_Qv post (kB D cI A wf) A) XC args s mc ms A) (F0 m pc ls []) := by
  obtain ⟨⟨hx, hb, hml, hown, hts⟩, hr, hlocks, hK, hA, hG⟩ := C0
  exact vx_ret (W.widen hc hs (W.vret hx hb hr (fun t ht hW => ⟨⟨u, rfl, hp, by rw [ht]; exact hP, va_K.moved hW.alike hK, hD⟩, hS.F ht⟩) hS.2.2 hdg hlocks))
/-- a new exception is thrown: new, dup, ldc, invokespecial, athrow -/
theorem kx_throw {Qc : Array Value → State → Outcome → State → Prop} (C0 : kE p s m meth c args cc nL ret RX4 ws D cI A) (hex : ∀ x ∈ c.exceptionTable.toList, False) (hst : l.stackTraces = false) (hP : va_P D vwCl w0 H) (hD : va_D A w0) (hS : va_S A s.heap H locs) {cls text : String} {ik is ic : Nat} (hsize : ls.size = nL)
    (hcls : Bundle.fit cls = true) (hk : Cond.classLink RX4 ik cls ∈ ws) (hini : Cond.initialized cls ∈ ws) (hstr : (is, text) ∈ gsStr) (hat : ∀ w ∈ (vx_atS RX4 ic cls ["java/lang/RuntimeException", "java/lang/Exception"]).filter goodWord, w ∈ ws) (hno : ∀ w ∈ (vx_atS RX4 ic cls ["java/lang/RuntimeException", "java/lang/Exception"]).filter (fun w => !goodWord w), w ∈ gsW) (hgood : ∀ w ∈ Cond.classLink RX4 ik cls :: Cond.initialized cls :: vx_atS RX4 ic cls ["java/lang/RuntimeException", "java/lang/Exception"], vx_ot w = true)
    (d0 : decode cc pc = .ok (.new ik, 3)) (d3 : decode cc (pc + 3) = .ok (.dup, 1)) (d4 : decode cc (pc + 4) = .ok (.ldc is, 2)) (d6 : decode cc (pc + 6) = .ok (.invokespecial ic, 3)) (d9 : decode cc (pc + 9) = .ok (.athrow, 1))
    (hf : 5 < R.frames) (hl : (rest.map fun v => v.category).sum + 82 ≤ R.locals) (hc1 : cells + 1 ≤ R.cells) (hs1 : slots + 6 ≤ R.slots) (hc : cells + 1 ≤ mc) (hs : slots + 6 ≤ ms) (hpx : px cls) :
    W p l e R s m args below meth c H locs cells slots (vx_MQ below Qc (kXX D cI w0 A px) args s mc ms A) (F0 m pc ls rest) := by
  obtain ⟨⟨hx, hb, hml, hown, hts⟩, hr, hlocks, hK, hA, hG⟩ := C0
  obtain ⟨-, -, hU, hN, hst9, hW9, -⟩ := hG
  obtain ⟨sa, hsa⟩ := hst9 _ hstr
  refine vx_throwS (A := A) (sa := sa) (text := text) (names := ["java/lang/RuntimeException", "java/lang/Exception"]) hx hb hst hown hcls (by decide) (hts _ hk) (hts _ hini) hsa (vx_hat (fun w h => hts w (hat w h)) hno (fun w h => va_tabs (List.all_eq_true.mp (by decide +kernel : gsW.all (fun w => w.onTables) = true) w h) rfl (hW9 w h))) hgood hU hN hS (hsize.trans hml.symm) d0 d3 d4 d6 d9 (fun x h => absurd h (hex x)) (by simpa using hf) (by simpa using hl) hc1 hs1 hlocks ?_ hS.2.2 hc hs
  intro t hA9 hsz hk9
  refine ⟨cls, hpx, ⟨rfl, hP.kept (fun k q h => hk9 q.1 (hP k q h).lt), va_K.moved hA9 hK, hD⟩, Nat.le_trans hS.1 hsz, fun q h1 h2 => ?_⟩
  rw [hk9 q (Nat.lt_of_lt_of_le h1 hS.1)]
  exact hS.2.1 q h1 h2
/-- the same, where the exception names its parent by a place of its own -/
theorem kx_throwX {ix : Nat} {rx : ByteArray} (x0 : decode rx 0 = .ok (.aload_n 0, 1)) (x1 : decode rx 1 = .ok (.aload_n 1, 1)) (x2 : decode rx 2 = .ok (.invokespecial ix, 3)) (x5 : decode rx 5 = .ok (.return_, 1)) {Qc : Array Value → State → Outcome → State → Prop} (C0 : kE p s m meth c args cc nL ret RX4 ws D cI A) (hex : ∀ x ∈ c.exceptionTable.toList, False) (hst : l.stackTraces = false) (hP : va_P D vwCl w0 H) (hD : va_D A w0) (hS : va_S A s.heap H locs) {cls text : String} {ik is ic : Nat} (hsize : ls.size = nL)
    (hcls : Bundle.fit cls = true) (hk : Cond.classLink RX4 ik cls ∈ ws) (hini : Cond.initialized cls ∈ ws) (hstr : (is, text) ∈ gsStr) (hat : ∀ w ∈ (vx_atX RX4 ic cls ix rx ["java/lang/RuntimeException", "java/lang/Exception"]).filter goodWord, w ∈ ws) (hno : ∀ w ∈ (vx_atX RX4 ic cls ix rx ["java/lang/RuntimeException", "java/lang/Exception"]).filter (fun w => !goodWord w), w ∈ gsW) (hgood : ∀ w ∈ Cond.classLink RX4 ik cls :: Cond.initialized cls :: vx_atX RX4 ic cls ix rx ["java/lang/RuntimeException", "java/lang/Exception"], vx_ot w = true)
    (d0 : decode cc pc = .ok (.new ik, 3)) (d3 : decode cc (pc + 3) = .ok (.dup, 1)) (d4 : decode cc (pc + 4) = .ok (.ldc is, 2)) (d6 : decode cc (pc + 6) = .ok (.invokespecial ic, 3)) (d9 : decode cc (pc + 9) = .ok (.athrow, 1))
    (hf : 5 < R.frames) (hl : (rest.map fun v => v.category).sum + 82 ≤ R.locals) (hc1 : cells + 1 ≤ R.cells) (hs1 : slots + 6 ≤ R.slots) (hc : cells + 1 ≤ mc) (hs : slots + 6 ≤ ms) (hpx : px cls) :
    W p l e R s m args below meth c H locs cells slots (vx_MQ below Qc (kXX D cI w0 A px) args s mc ms A) (F0 m pc ls rest) := by
  obtain ⟨⟨hx, hb, hml, hown, hts⟩, hr, hlocks, hK, hA, hG⟩ := C0
  obtain ⟨-, -, hU, hN, hst9, hW9, -⟩ := hG
  obtain ⟨sa, hsa⟩ := hst9 _ hstr
  refine vx_throwX x0 x1 x2 x5 (A := A) (sa := sa) (text := text) (B := "java/lang/RuntimeException") (bs := ["java/lang/Exception"]) hx hb hst hown hcls (by decide) (hts _ hk) (hts _ hini) hsa (vx_hat (fun w h => hts w (hat w h)) hno (fun w h => va_tabs (List.all_eq_true.mp (by decide +kernel : gsW.all (fun w => w.onTables) = true) w h) rfl (hW9 w h))) hgood hU hN hS (hsize.trans hml.symm) d0 d3 d4 d6 d9 (fun x h => absurd h (hex x)) (by simpa using hf) (by simpa using hl) hc1 hs1 hlocks ?_ hS.2.2 hc hs
  intro t hA9 hsz hk9
  refine ⟨cls, hpx, ⟨rfl, hP.kept (fun k q h => hk9 q.1 (hP k q h).lt), va_K.moved hA9 hK, hD⟩, Nat.le_trans hS.1 hsz, fun q h1 h2 => ?_⟩
  rw [hk9 q (Nat.lt_of_lt_of_le h1 hS.1)]
  exact hS.2.1 q h1 h2
variable {y : MethodName} {bytes : ByteArray} {maxL n index : Nat} {ret2 : Option FieldType} {ws2 : List Cond} {rm : Room} {C : String} {b : Addr} {As st0 : List Value} {S : Type} {wf : S → va_W}
/-- what the callee has thrown goes on to the caller's caller -/
theorem kx_up {Qc : Array Value → State → Outcome → State → Prop} (C0 : kE p s m meth c args cc nL ret own ws D cI A) (hex : ∀ x ∈ c.exceptionTable.toList, False) (hP : va_P D vwCl w0 H) (hD : va_D A w0) (hS : va_S A s.heap H locs) {E : String} {ce : Cell} {q9 : Addr} (h1 : H[q9]? = some ce) (h2 : ce.vm = .none) (h3 : s.vm.findClass E = some ce.cls) (hpx : px E) (hc : cells ≤ mc) (hs : slots ≤ ms) :
    vx_W p l e R s m args below meth c H locs cells slots (vx_MQ below Qc (kXX D cI w0 A px) args s mc ms A) (F0 m pc ls rest) q9 := by
  obtain ⟨⟨hx, hb, hml, hown, hts⟩, hr, hlocks, hK, hA, hG⟩ := C0
  exact vx_out (fun x h => absurd h (hex x)) hlocks h1 h2 h3 (fun t ht hA9 => ⟨E, hpx, ⟨rfl, by rw [ht]; exact hP, va_K.moved hA9 hK, hD⟩, hS.F ht⟩) hS.2.2 hc hs
theorem kcXv {post : S → Prop} {mc2 ms2 : Nat} {px2 : String → Prop} {Qc : Array Value → State → Outcome → State → Prop} (C0 : kE p s m meth c args cc nL ret own ws D cI A) (hex : ∀ x ∈ c.exceptionTable.toList, False) (hP : va_P D vwCl w0 H) (hD : va_D A w0) (hS : va_S A s.heap H locs) (hM : KXv l D cI y ws2 rm (.ref b :: As) w0 mc2 ms2 wf post px2) (cw : CallW R s args own C index y bytes maxL ret2 ws2 rm mc2 ms2 n) (q0 ci : Nat) {fs : List Value} {T : u_T} {N : Nat} (he : w0[q0]? = some (b, .inr (ci, fs))) (hcc : vwCl[ci]? = some (C, T, N)) (hn : As.length = n) (hsize : ls.size = nL)
    (hst : st0 = As.reverse ++ .ref b :: rest) (hW : (rest.map fun v => v.category).sum ≤ 8) (hdg : decode cc pc = .ok (.invokevirtual index, 3)) (hf : cells + mc2 ≤ R.cells ∧ slots + ms2 ≤ R.slots) (hc : cells + mc2 ≤ mc) (hs : slots + ms2 ≤ ms) (hpx : ∀ E, px2 E → px E)
    (kk : ∀ (u : S) (H1 : Heap) (locs1 : List Loc), post u → va_P D vwCl (wf u) H1 → va_D A (wf u) → va_S A s.heap H1 locs1 → W p l e R s m args below meth c H1 locs1 (cells + mc2) (slots + ms2) (vx_MQ below Qc (kXX D cI w0 A px) args s mc ms A) (F0 m (pc + 3) ls rest)) : W p l e R s m args below meth c H locs cells slots (vx_MQ below Qc (kXX D cI w0 A px) args s mc ms A) (F0 m pc ls st0) := by
  have C1 := C0
  obtain ⟨F, hr, hlocks, hK, hA, hG⟩ := C0
  have hFc := k_in hD hS hA
  refine vx_callv (vx_runV (As := As) (rest := rest) F (hM H.size) cw ⟨kP_blind, va_recv hK hP hcc he, fun U hU hW1 => ⟨rfl, by rw [hU], by rw [hU]; exact hP, va_K.moved hW1.alike hK, hD.weaken (fun _ _ _ _ => trivial), ?_⟩⟩ rfl hn hsize hst (lv_room hW) hdg hf) hS (fun q _ h => hFc q h) hFc (fun q _ h => hFc q h) (fun E ce q9 u t H1 locs1 ht hvm hw hB hz1 hk1 hS1 h1 h2 h3 => ?_) (fun u t H1 locs1 ht hvm hw hB hz1 hk1 hS1 => ?_)
  · rw [hU]; exact hG.at hW1 hS.2.1 hFc
  · obtain ⟨rfl, hP1, hK1, hD1⟩ := hB
    rw [ht] at hP1
    exact kx_up C1 hex hP1 (hD1.weaken (fun k q hk h => hFc _ h)) hS1 h1 h2 h3 (hpx _ hw) hc hs
  · obtain ⟨hP1, hK1, hD1⟩ := hB
    rw [ht] at hP1
    exact kk u H1 locs1 hw hP1 (hD1.weaken (fun k q hk h => hFc _ h)) hS1
end LT
