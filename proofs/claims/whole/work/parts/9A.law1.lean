/-! THE LAW: rows for its calls, its script, its truths -/
section LL
variable {p : Program} {l : Launch} {e : Env} {R : Room} {s : State} {m : MethodId} {args : Array Value} {below : List Frame} {meth : Method} {c : Code} {H : Heap} {locs : List Loc} {cells slots : Nat} {Q : State → Prop} {cc : ByteArray} {pc nL : Nat} {ls : Array Slot} {rest : List Value}
variable {D : va_G} {cI cL : ClassId} {A : Nat → Prop} {w0 wc wr : va_W} {own : String} {ws : List Cond} {ret : Option FieldType} {mc ms : Nat}
variable {y : MethodName} {bytes : ByteArray} {maxL n index : Nat} {ret2 : Option FieldType} {ws2 : List Cond} {rm : Room} {C : String} {b : Addr} {As st0 : List Value} {S : Type} {wf : S → va_W} {post : Int32 → S → Prop} {hh : List (Nat × Nat × Nat × Nat)}
theorem kcLW (C0 : kEW p s m meth c args cc nL ret own ws D cI cL A) (hP : va_P D vwCl w0 H) (hD : va_D A w0) (hS : va_S A s.heap H locs) (hM : KW l D cI cL y ws2 rm As wc mc ms wf post) (cw : vx_CSW R s args own index y bytes maxL ret2 hh ws2 rm mc ms n)
    (isC isR : List Nat) (hC : isC.map (fun i => w0[i]?) = wc.map some) (hC2 : isC.filterMap (fun i => w0[i]?) = wc) (hR : isR.map (fun i => w0[i]?) = wr.map some) (hnC : va_nd isC = true) (hn : va_nd isR = true) (hdis : ∀ i ∈ isR, i ∉ isC) (hlen : As.length = n) (hsize : ls.size = nL) (hst : st0 = As.reverse ++ rest) (hW : (rest.map fun v => v.category).sum ≤ 8) (hdg : decode cc pc = .ok (.invokestatic index, 3)) (hf : cells + mc ≤ R.cells ∧ slots + ms ≤ R.slots)
    (kk : ∀ (z : Int32) (u : S) (H1 : Heap) (locs1 : List Loc), post z u → va_P D vwCl (wr ++ wf u) H1 → va_D A (wr ++ wf u) → va_S A s.heap H1 locs1 → W p l e R s m args below meth c H1 locs1 (cells + mc) (slots + ms) Q (F0 m (pc + 3) ls (.int z :: rest))) : W p l e R s m args below meth c H locs cells slots Q (F0 m pc ls st0) := by
  obtain ⟨F, hr, hlocks, hK, hA, hG⟩ := C0
  have hPc : va_P D vwCl wc H := hP.sub isC hC2
  have hDc : va_D A wc := hD.sub isC hnC hC
  have hFc := k_in hDc hS hA
  refine va_calli (vx_runSW (As := As) (rest := rest) F (hM H.size) cw ⟨kPW_blind, fun U hU hW1 => ⟨rfl, by rw [hU], by rw [hU]; exact hPc, va_K.moved hW1.alike hK, hDc.weaken (fun _ _ _ _ => trivial), ?_⟩⟩ rfl hlen hsize hst (lv_room hW) hdg hf) hS (fun q _ h => hFc q h) hFc (fun z u t H1 locs1 ht hvm hw hB hz1 hk1 hS1 => ?_)
  · rw [hU]; exact hG.at hW1 hS.2.1 hFc
  · obtain ⟨hP1, hK1, hD1⟩ := hB
    rw [ht] at hP1
    obtain ⟨j1, j2⟩ := va_join hP hD isC isR hC hR hn hdis hk1 hFc hP1 hD1
    exact kk z u H1 locs1 hw j1 j2 hS1
theorem kcLM (C0 : kEW p s m meth c args cc nL ret own ws D cI cL A) (hP : va_P D vwCl w0 H) (hD : va_D A w0) (hS : va_S A s.heap H locs) (hM : KI l D cI y ws2 rm (.ref b :: As) wc wf post) (cw : CallW R s args own C index y bytes maxL ret2 ws2 rm 0 0 n)
    (isC isR : List Nat) (hC : isC.map (fun i => w0[i]?) = wc.map some) (hC2 : isC.filterMap (fun i => w0[i]?) = wc) (hR : isR.map (fun i => w0[i]?) = wr.map some) (hnC : va_nd isC = true) (hn : va_nd isR = true) (hdis : ∀ i ∈ isR, i ∉ isC) (q0 ci : Nat) {fs : List Value} {T : u_T} {N : Nat} (he : wc[q0]? = some (b, .inr (ci, fs))) (hcc : vwCl[ci]? = some (C, T, N)) (hlen : As.length = n) (hsize : ls.size = nL) (hst : st0 = As.reverse ++ .ref b :: rest) (hW : (rest.map fun v => v.category).sum ≤ 8) (hdg : decode cc pc = .ok (.invokevirtual index, 3)) (hf : cells ≤ R.cells ∧ slots ≤ R.slots)
    (kk : ∀ (z : Int32) (u : S) (H1 : Heap) (locs1 : List Loc), post z u → va_P D vwCl (wr ++ wf u) H1 → va_D A (wr ++ wf u) → va_S A s.heap H1 locs1 → W p l e R s m args below meth c H1 locs1 cells slots Q (F0 m (pc + 3) ls (.int z :: rest))) : W p l e R s m args below meth c H locs cells slots Q (F0 m pc ls st0) := by
  obtain ⟨F, hr, hlocks, hK, hA, hG⟩ := C0
  have hPc : va_P D vwCl wc H := hP.sub isC hC2
  have hDc : va_D A wc := hD.sub isC hnC hC
  have hKc : va_K D vwCl (tyI cI) s := hK.sub [0] rfl
  have hFc := k_in hDc hS hA
  refine va_calli (va_runV (As := As) (rest := rest) F (hM H.size) cw ⟨kP_blind, va_recv hK hPc hcc he, fun U hU hW1 => ⟨rfl, by rw [hU], by rw [hU]; exact hPc, va_K.moved hW1.alike hKc, hDc.weaken (fun _ _ _ _ => trivial), ?_⟩⟩ rfl hlen hsize hst (lv_room hW) hdg hf) hS (fun q _ h => hFc q h) hFc (fun z u t H1 locs1 ht hvm hw hB hz1 hk1 hS1 => ?_)
  · rw [hU]; exact hG.at hW1 hS.2.1 hFc
  · obtain ⟨hP1, hK1, hD1⟩ := hB
    rw [ht] at hP1
    obtain ⟨j1, j2⟩ := va_join hP hD isC isR hC hR hn hdis hk1 hFc hP1 hD1
    exact kk z u H1 locs1 hw j1 j2 hS1
/-- a place of the script -/
theorem ld_s (hx : p.tables.exec = Jvm.exec) (hb : c.code = cc) {b0 L : Nat} {xs : Nat → Int32} (hX : va_X b0 L xs s s.heap) (hbl : b0 < s.heap.size) (hbA : ¬ A b0) (hS : va_S A s.heap H locs) (k : Nat) (hk : k < L) (hL : L ≤ 240) {j : Int32} (hj : j = nI k) (hdg : decode cc pc = .ok (.iaload, 1))
    (kk : W p l e R s m args below meth c H locs cells slots Q (F0 m (pc + 1) ls (.int (xs k) :: rest))) : W p l e R s m args below meth c H locs cells slots Q (F0 m pc ls (.int j :: .ref b0 :: rest)) := by
  subst hj
  refine va_sld hx hb hX hbl hbA hS (vp_in_nI hk (by omega)) hdg ?_
  rw [nI_clamp (by omega)]
  exact kk
/-- x != 0 -/
theorem bzT (hx : p.tables.exec = Jvm.exec) (hb : c.code = cc) {z : Int32} (d1 : decode cc pc = .ok (.ifCond .eq 7, 3)) (d2 : decode cc (pc + 3) = .ok (.iconst 1, 1)) (d3 : decode cc (pc + 4) = .ok (.goto 4, 3)) (d4 : decode cc (pc + 7) = .ok (.iconst 0, 1))
    (kk : W p l e R s m args below meth c H locs cells slots Q (F0 m (pc + 8) ls (.int (if z = 0 then 0 else 1) :: rest))) : W p l e R s m args below meth c H locs cells slots Q (F0 m pc ls (.int z :: rest)) := by
  refine lv_if_eq (tgt := pc + 7) hx hb d1 (by omega) (fun c9 => ?_) (fun c9 => ?_)
  · rw [if_pos c9] at kk
    exact lv_iconst (v := 0) hx hb d4 (by decide) kk
  · rw [if_neg c9] at kk
    refine lv_iconst (v := 1) hx hb d2 (by decide) ?_
    exact lv_goto (tgt := pc + 8) hx hb d3 (by omega) kk
end LL
theorem nI_p (i k : Nat) : nI i + nI k = nI (i + k) := (Int32.ofNat_add i k).symm
theorem lcmp_self (x : Int64) : lg_cmp x x = 0 := by
  unfold lg_cmp
  simp
