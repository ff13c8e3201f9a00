/-! calls of constructors -/
def Nx (U : State) : Prop := va_Nw (.methodLinkNest RX3 11 yX1_init RX4) U ∧ va_Nw (.methodLinkNest RX3 20 yX2_init RX4) U
theorem Nx.at {s U : State} (h : Nx s) (hW : s.WarmedH U.vm) : Nx U := ⟨h.1.warmM hW, h.2.warmM hW⟩
def KN (l : Launch) (D : va_G) (cI : ClassId) (y : MethodName) (ws : List Cond) (rm : Room) (As : List Value) (w0 : va_W) (mc ms : Nat) {S : Type} (wf : S → va_W) (post : S → Prop) : Prop :=
  ∀ sz : Nat, Met l y ws rm (va_Pc As (fun U => kP D cI w0 sz U ∧ Nx U)) (va_Qv post (kB D cI (va_A w0 sz) wf) (va_A w0 sz)) mc ms (va_A w0 sz)
theorem kN_blind {D : va_G} {cI : ClassId} {w0 : va_W} {sz : Nat} {As : List Value} : FrameBlind (va_Pc As (fun U => kP D cI w0 sz U ∧ Nx U)) := by
  intro a U g mk q
  obtain ⟨q0, ⟨q1, qP, qK, qD, qG⟩, qN⟩ := q
  exact ⟨q0, ⟨q1, qP, va_K.moved (u := U) (U := U.calling g mk a) (Vm.Alike.refl U.vm) qK, qD, qG.at (U := U.calling g mk a) (State.WarmedH.refl U) (fun _ _ _ => rfl) (fun _ h => h)⟩, qN.at (U := U.calling g mk a) (State.WarmedH.refl U)⟩
section LB
variable {p : Program} {l : Launch} {e : Env} {R : Room} {s : State} {m : MethodId} {args : Array Value} {below : List Frame} {meth : Method} {c : Code} {H : Heap} {locs : List Loc} {cells slots : Nat} {Q : State → Prop} {cc : ByteArray} {pc nL : Nat} {ls : Array Slot} {rest : List Value}
variable {D : va_G} {cI : ClassId} {A : Nat → Prop} {w0 w wc wr : va_W} {own : String} {ws : List Cond} {ret : Option FieldType} {mc ms : Nat}
theorem KN.of {y : MethodName} {ws ws' : List Cond} {rm : Room} {As : List Value} {S : Type} {wf : S → va_W} {post : S → Prop} (hy : plainName y.cls = true) (hw : ws = Cond.code y cc nL ret :: ws') (hn : (lg_sl As).length ≤ nL)
    (body : ∀ (p : Program) (e : Env) (s : State) (m : MethodId) (args : Array Value) (below : List Frame) (meth : Method) (c : Code) (A : Nat → Prop) (ls : Array Slot), kE p s m meth c args cc nL ret y.cls ws D cI A → meth.name = y.name → Nx s → va_P D vwCl w0 s.heap → va_D A w0 → va_S A s.heap s.heap [] → lv_has ls nL (lv_args 0 As) →
      W p l e rm s m args below meth c s.heap [] 0 0 (MQ below (va_Qv post (kB D cI A wf) A) args s mc ms A) (F0 m 0 ls [])) : KN l D cI y ws rm As w0 mc ms wf post := by
  intro sz
  refine Met.ofW (cc := cc) (maxL := nL) (ret := ret) hy hw ?_
  intro p e s m args below meth c s₁ B hml hv
  obtain ⟨rfl, ⟨hsz, hP, hK, hD0, hG⟩, hN⟩ := hv
  subst hsz
  have hl := lv_entry As (n := nL) hn
  rw [lg_entry_eq]
  exact body p e s m _ below meth c _ _ ⟨⟨B.exec, B.bytes, hml, findClass_of_methodNamed B.named, atoms_spec (ws := ws) B.pre⟩, B.returns, B.notSynchronized, hK, fun q h => Or.inr h, hG⟩ (name_of_methodNamed B.named B.method).1 hN hP hD0.self va_S.rf hl
variable {y : MethodName} {bytes : ByteArray} {maxL n index : Nat} {ws2 : List Cond} {rm : Room} {b : Addr} {As st0 : List Value} {S : Type} {wf : S → va_W} {post : S → Prop} {host : String}
theorem kcA (F : CallFix p m c cc nL s args ws own) (hK : va_K D vwCl (tyI cI) s) (hA : ∀ q : Nat, s.heap.size ≤ q → A q) (hG : Gs A s s.heap) (hP : va_P D vwCl w H) (hD : va_D A w) (hS : va_S A s.heap H locs) (hM : KA l D cI y ws2 rm (.ref b :: As) wc mc ms wf post) (cw : CallB R s args own index y bytes maxL none ws2 rm mc ms n ∧ y.name = "<init>" ∧ (Cond.instanceMethod y).before args s = true)
    (isC isR : List Nat) (hC : isC.map (fun i => w[i]?) = wc.map some) (hC2 : isC.filterMap (fun i => w[i]?) = wc) (hR : isR.map (fun i => w[i]?) = wr.map some) (hnC : va_nd isC = true) (hn : va_nd isR = true) (hdis : ∀ i ∈ isR, i ∉ isC) (hlen : As.length = n) (hsize : ls.size = nL) (hst : st0 = As.reverse ++ .ref b :: rest) (hW : (rest.map fun v => v.category).sum ≤ 8) (hdg : decode cc pc = .ok (.invokespecial index, 3)) (hf : cells + mc ≤ R.cells ∧ slots + ms ≤ R.slots)
    (kk : ∀ (u : S) (H1 : Heap) (locs1 : List Loc), post u → va_P D vwCl (wr ++ wf u) H1 → va_D A (wr ++ wf u) → va_S A s.heap H1 locs1 → W p l e R s m args below meth c H1 locs1 (cells + mc) (slots + ms) Q (F0 m (pc + 3) ls rest)) : W p l e R s m args below meth c H locs cells slots Q (F0 m pc ls st0) := by
  have hPc : va_P D vwCl wc H := hP.sub isC hC2
  have hDc : va_D A wc := hD.sub isC hnC hC
  have hFc := k_in hDc hS hA
  refine va_callv (va_runI (As := As) (rest := rest) F (hM H.size) cw ⟨kP_blind, fun U hU hW1 => ⟨rfl, by rw [hU], by rw [hU]; exact hPc, va_K.moved hW1.alike hK, hDc.weaken (fun _ _ _ _ => trivial), ?_⟩⟩ rfl hlen hsize hst (lv_room hW) hdg hf) hS (fun q _ h => hFc q h) hFc (fun u t H1 locs1 ht hvm hw hB hz1 hk1 hS1 => ?_)
  · rw [hU]; exact hG.at hW1 hS.2.1 hFc
  · obtain ⟨hP1, hK1, hD1⟩ := hB
    rw [ht] at hP1
    obtain ⟨j1, j2⟩ := va_join hP hD isC isR hC hR hn hdis hk1 hFc hP1 hD1
    exact kk u H1 locs1 hw j1 j2 hS1
theorem kcAN (F : CallFix p m c cc nL s args ws own) (hK : va_K D vwCl (tyI cI) s) (hA : ∀ q : Nat, s.heap.size ≤ q → A q) (hG : Gs A s s.heap) (hP : va_P D vwCl w H) (hD : va_D A w) (hS : va_S A s.heap H locs) (hM : KA l D cI y ws2 rm (.ref b :: As) wc mc ms wf post) (cw : va_CN R s args own index y host bytes maxL none ws2 rm mc ms n ∧ y.name = "<init>" ∧ (Cond.instanceMethod y).before args s = true)
    (isC isR : List Nat) (hC : isC.map (fun i => w[i]?) = wc.map some) (hC2 : isC.filterMap (fun i => w[i]?) = wc) (hR : isR.map (fun i => w[i]?) = wr.map some) (hnC : va_nd isC = true) (hn : va_nd isR = true) (hdis : ∀ i ∈ isR, i ∉ isC) (hlen : As.length = n) (hsize : ls.size = nL) (hst : st0 = As.reverse ++ .ref b :: rest) (hW : (rest.map fun v => v.category).sum ≤ 8) (hdg : decode cc pc = .ok (.invokespecial index, 3)) (hf : cells + mc ≤ R.cells ∧ slots + ms ≤ R.slots)
    (kk : ∀ (u : S) (H1 : Heap) (locs1 : List Loc), post u → va_P D vwCl (wr ++ wf u) H1 → va_D A (wr ++ wf u) → va_S A s.heap H1 locs1 → W p l e R s m args below meth c H1 locs1 (cells + mc) (slots + ms) Q (F0 m (pc + 3) ls rest)) : W p l e R s m args below meth c H locs cells slots Q (F0 m pc ls st0) := by
  have hPc : va_P D vwCl wc H := hP.sub isC hC2
  have hDc : va_D A wc := hD.sub isC hnC hC
  have hFc := k_in hDc hS hA
  refine va_callv (va_runIN (As := As) (rest := rest) F (hM H.size) cw ⟨kP_blind, fun U hU hW1 => ⟨rfl, by rw [hU], by rw [hU]; exact hPc, va_K.moved hW1.alike hK, hDc.weaken (fun _ _ _ _ => trivial), ?_⟩⟩ rfl hlen hsize hst (lv_room hW) hdg hf) hS (fun q _ h => hFc q h) hFc (fun u t H1 locs1 ht hvm hw hB hz1 hk1 hS1 => ?_)
  · rw [hU]; exact hG.at hW1 hS.2.1 hFc
  · obtain ⟨hP1, hK1, hD1⟩ := hB
    rw [ht] at hP1
    obtain ⟨j1, j2⟩ := va_join hP hD isC isR hC hR hn hdis hk1 hFc hP1 hD1
    exact kk u H1 locs1 hw j1 j2 hS1
theorem kcN (F : CallFix p m c cc nL s args ws own) (hK : va_K D vwCl (tyI cI) s) (hA : ∀ q : Nat, s.heap.size ≤ q → A q) (hG : Gs A s s.heap) (hN : Nx s) (hP : va_P D vwCl w H) (hD : va_D A w) (hS : va_S A s.heap H locs) (hM : KN l D cI y ws2 rm (.ref b :: As) wc mc ms wf post) (cw : CallB R s args own index y bytes maxL none ws2 rm mc ms n ∧ y.name = "<init>" ∧ (Cond.instanceMethod y).before args s = true)
    (isC isR : List Nat) (hC : isC.map (fun i => w[i]?) = wc.map some) (hC2 : isC.filterMap (fun i => w[i]?) = wc) (hR : isR.map (fun i => w[i]?) = wr.map some) (hnC : va_nd isC = true) (hn : va_nd isR = true) (hdis : ∀ i ∈ isR, i ∉ isC) (hlen : As.length = n) (hsize : ls.size = nL) (hst : st0 = As.reverse ++ .ref b :: rest) (hW : (rest.map fun v => v.category).sum ≤ 8) (hdg : decode cc pc = .ok (.invokespecial index, 3)) (hf : cells + mc ≤ R.cells ∧ slots + ms ≤ R.slots)
    (kk : ∀ (u : S) (H1 : Heap) (locs1 : List Loc), post u → va_P D vwCl (wr ++ wf u) H1 → va_D A (wr ++ wf u) → va_S A s.heap H1 locs1 → W p l e R s m args below meth c H1 locs1 (cells + mc) (slots + ms) Q (F0 m (pc + 3) ls rest)) : W p l e R s m args below meth c H locs cells slots Q (F0 m pc ls st0) := by
  have hPc : va_P D vwCl wc H := hP.sub isC hC2
  have hDc : va_D A wc := hD.sub isC hnC hC
  have hFc := k_in hDc hS hA
  refine va_callv (va_runI (As := As) (rest := rest) F (hM H.size) cw ⟨kN_blind, fun U hU hW1 => ⟨rfl, ⟨by rw [hU], by rw [hU]; exact hPc, va_K.moved hW1.alike hK, hDc.weaken (fun _ _ _ _ => trivial), ?_⟩, hN.at hW1⟩⟩ rfl hlen hsize hst (lv_room hW) hdg hf) hS (fun q _ h => hFc q h) hFc (fun u t H1 locs1 ht hvm hw hB hz1 hk1 hS1 => ?_)
  · rw [hU]; exact hG.at hW1 hS.2.1 hFc
  · obtain ⟨hP1, hK1, hD1⟩ := hB
    rw [ht] at hP1
    obtain ⟨j1, j2⟩ := va_join hP hD isC isR hC hR hn hdis hk1 hFc hP1 hD1
    exact kk u H1 locs1 hw j1 j2 hS1
end LB
