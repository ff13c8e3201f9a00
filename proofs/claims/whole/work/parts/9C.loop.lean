theorem li_le {L i : Nat} (hL : L ≤ 240) (hi : i ≤ 240) (h : i + 5 ≤ L) : ¬ (Int32.ofNat L - 5 < nI i) := by
  have e : Int32.ofNat L - 5 = nI (L - 5) := by
    obtain ⟨k, rfl⟩ : ∃ k, L = k + 5 := ⟨L - 5, by omega⟩
    show nI (k + 5) - 5 = nI (k + 5 - 5)
    rw [← nI_p k 5, Nat.add_sub_cancel]
    show nI k + 5 - 5 = nI k
    exact Int32.add_sub_cancel _ _
  rw [e]
  intro h9
  exact nI_nlt (by omega) (by omega) h9
theorem li_gt {L i : Nat} (hL : L ≤ 240) (hi : i ≤ 240) (h : L < i + 5) : Int32.ofNat L - 5 < nI i := by
  by_cases h5 : 5 ≤ L
  · have e : Int32.ofNat L - 5 = nI (L - 5) := by
      obtain ⟨k, rfl⟩ : ∃ k, L = k + 5 := ⟨L - 5, by omega⟩
      show nI (k + 5) - 5 = nI (k + 5 - 5)
      rw [← nI_p k 5, Nat.add_sub_cancel]
      show nI k + 5 - 5 = nI k
      exact Int32.add_sub_cancel _ _
    rw [e]
    exact nI_lt (by omega) (by omega)
  · have h0 : (0 : Int32) ≤ nI i := nI_le (a := 0) (Nat.zero_le i) (by omega)
    have h1 : Int32.ofNat L - 5 < 0 := by
      rcases (show L = 0 ∨ L = 1 ∨ L = 2 ∨ L = 3 ∨ L = 4 by omega) with rfl | rfl | rfl | rfl | rfl <;> decide
    exact Int32.lt_of_lt_of_le h1 h0
set_option maxHeartbeats 4000000 in
set_option maxRecDepth 100000 in
theorem lc_body {p : Program} {l : Launch} {e : Env} {s : State} {m : MethodId} {args : Array Value} {below : List Frame} {meth : Method} {c : Code} {H : Heap} {locs : List Loc} {cells slots : Nat} {Q : State → Prop} {ls : Array Slot} {D : va_G} {cI cL : ClassId} {A : Nat → Prop} {a aM : Nat → Nat} {bo : Nat} {fo : Nat → Int64} {v w : Nat → Int32} {r q : Rw} (hst : l.stackTraces = false) (C0 : kEW p s m meth c args cL_law 7 ret RL wsL_law D cI cL A) {b0 L : Nat} {xs : Nat → Int32} (hX : va_X b0 L xs s s.heap) (hbl : b0 < s.heap.size) (hbA : ¬ A b0) (i : Nat) (hi : i + 5 ≤ L) (hL : L ≤ 240) (hI : INV v r w q)
    (hP : va_P D vwCl (wM cI aM w q ++ wO cI cL a bo fo v r) H) (hD : va_D A (wM cI aM w q ++ wO cI cL a bo fo v r)) (hS : va_S A s.heap H locs) (hl : lv_has ls 7 [(0, .ref b0), (1, .ref (a 0)), (2, .ref (aM 0)), (3, .ref bo), (4, .int (nI i))]) (hc : cells + 6 ≤ room_1.cells) (hs : slots + 36 ≤ room_1.slots)
    (kk : ∀ (fo' : Nat → Int64) (v' w' : Nat → Int32) (r' q' : Rw) (H' : Heap) (locs' : List Loc) (ls' : Array Slot), INV v' r' w' q' → va_P D vwCl (wM cI aM w' q' ++ wO cI cL a bo fo' v' r') H' → va_D A (wM cI aM w' q' ++ wO cI cL a bo fo' v' r') → va_S A s.heap H' locs' → lv_has ls' 7 [(0, .ref b0), (1, .ref (a 0)), (2, .ref (aM 0)), (3, .ref bo), (4, .int (nI i))] → W p l e room_1 s m args below meth c H' locs' (cells + 6) (slots + 36) Q (F0 m 920 ls' [])) :
    W p l e room_1 s m args below meth c H locs cells slots Q (F0 m 32 ls []) := by
  have hx := C0.1.1
  have hb := C0.1.2.1
  refine lv_aload_n hx hb dL_law_32 rfl (lv_at hl 0 rfl) ?_
  refine lv_iload hx hb dL_law_33 (lv_at hl 4 rfl) ?_
  refine ld_s hx hb hX hbl hbA hS i (by omega) hL rfl dL_law_35 ?_
  refine lv_bipush (v := 15) hx hb dL_law_36 (by decide) ?_
  refine lv_iand hx hb dL_law_38 ?_
  refine lv_topi (fun t9 et9 => ?_)
  obtain ⟨t, ht, e9⟩ := pk_andE (xs i) (m := 15) 4 (by decide)
  obtain rfl : t9 = nI t := et9.trans e9
  clear e9 et9
  have ht : t < 16 := ht
  rcases (show t = 0 ∨ t = 1 ∨ t = 2 ∨ t = 3 ∨ t = 4 ∨ t = 5 ∨ t = 6 ∨ t = 7 ∨ t = 8 ∨ t = 9 ∨ t = 10 ∨ 11 ≤ t by omega) with rfl | rfl | rfl | rfl | rfl | rfl | rfl | rfl | rfl | rfl | rfl | hout
  · refine lv_tableIn (off := 57) (tgt := 96) hx hb dL_law_39 (by decide) (by decide) (by decide) (by decide) ?_
    exact lc_atom hst C0 hX hbl hbA i hi hL hI hP hD hS hl hc hs kk
  · refine lv_tableIn (off := 125) (tgt := 164) hx hb dL_law_39 (by decide) (by decide) (by decide) (by decide) ?_
    exact lc_script hst C0 hX hbl hbA i hi hL hI hP hD hS hl hc hs kk
  · refine lv_tableIn (off := 221) (tgt := 260) hx hb dL_law_39 (by decide) (by decide) (by decide) (by decide) ?_
    exact lc_fraction hst C0 hX hbl hbA i hi hL hI hP hD hS hl hc hs kk
  · refine lv_tableIn (off := 333) (tgt := 372) hx hb dL_law_39 (by decide) (by decide) (by decide) (by decide) ?_
    exact lc_fence hst C0 hX hbl hbA i hi hL hI hP hD hS hl hc hs kk
  · refine lv_tableIn (off := 413) (tgt := 452) hx hb dL_law_39 (by decide) (by decide) (by decide) (by decide) ?_
    exact lc_matrix hst C0 hX hbl hbA i hi hL hI hP hD hS hl hc hs kk
  · refine lv_tableIn (off := 481) (tgt := 520) hx hb dL_law_39 (by decide) (by decide) (by decide) (by decide) ?_
    exact lc_style hst C0 hX hbl hbA i hi hL hI hP hD hS hl hc hs kk
  · refine lv_tableIn (off := 565) (tgt := 604) hx hb dL_law_39 (by decide) (by decide) (by decide) (by decide) ?_
    exact lc_run hst C0 hX hbl hbA i hi hL hI hP hD hS hl hc hs kk
  · refine lv_tableIn (off := 621) (tgt := 660) hx hb dL_law_39 (by decide) (by decide) (by decide) (by decide) ?_
    exact lc_item hst C0 hX hbl hbA i hi hL hI hP hD hS hl hc hs kk
  · refine lv_tableIn (off := 689) (tgt := 728) hx hb dL_law_39 (by decide) (by decide) (by decide) (by decide) ?_
    exact lc_space hst C0 hX hbl hbA i hi hL hI hP hD hS hl hc hs kk
  · refine lv_tableIn (off := 757) (tgt := 796) hx hb dL_law_39 (by decide) (by decide) (by decide) (by decide) ?_
    exact lc_kind hst C0 hX hbl hbA i hi hL hI hP hD hS hl hc hs kk
  · refine lv_tableIn (off := 813) (tgt := 852) hx hb dL_law_39 (by decide) (by decide) (by decide) (by decide) ?_
    exact lc_split hst C0 hX hbl hbA i hi hL hI hP hD hS hl hc hs kk
  · refine lv_tableOut (tgt := 920) hx hb dL_law_39 (Or.inr ?_) (by decide) ?_
    · rcases (show t = 11 ∨ t = 12 ∨ t = 13 ∨ t = 14 ∨ t = 15 by omega) with rfl | rfl | rfl | rfl | rfl <;> decide
    · exact W.widen (by omega) (by omega) (kk fo v w r q H locs ls hI hP hD hS hl)
set_option maxHeartbeats 4000000 in
set_option maxRecDepth 100000 in
theorem law_loop {p : Program} {l : Launch} {e : Env} {s : State} {m : MethodId} {args : Array Value} {below : List Frame} {meth : Method} {c : Code} {Q : State → Prop} {D : va_G} {cI cL : ClassId} {A : Nat → Prop} {a aM : Nat → Nat} {bo : Nat} (hst : l.stackTraces = false) (C0 : kEW p s m meth c args cL_law 7 ret RL wsL_law D cI cL A) {b0 L : Nat} {xs : Nat → Int32} (hX : va_X b0 L xs s s.heap) (hbl : b0 < s.heap.size) (hbA : ¬ A b0) (hL : L ≤ 240)
    (kend : ∀ (H : Heap) (locs : List Loc) (ls : Array Slot) (cells slots : Nat), va_S A s.heap H locs → cells ≤ room_1.cells → slots ≤ room_1.slots → W p l e room_1 s m args below meth c H locs cells slots Q (F0 m 926 ls [])) :
    ∀ (n i : Nat), L < i + 5 * n + 5 → i ≤ L → ∀ (fo : Nat → Int64) (v w : Nat → Int32) (r q : Rw) (H : Heap) (locs : List Loc) (ls : Array Slot) (cells slots : Nat), INV v r w q → va_P D vwCl (wM cI aM w q ++ wO cI cL a bo fo v r) H → va_D A (wM cI aM w q ++ wO cI cL a bo fo v r) → va_S A s.heap H locs → lv_has ls 7 [(0, .ref b0), (1, .ref (a 0)), (2, .ref (aM 0)), (3, .ref bo), (4, .int (nI i))] → cells + 6 * n ≤ room_1.cells → slots + 36 * n ≤ room_1.slots → W p l e room_1 s m args below meth c H locs cells slots Q (F0 m 23 ls []) := by
  have hx := C0.1.1
  have hb := C0.1.2.1
  intro n
  induction n with
  | zero =>
    intro i hn hi fo v w r q H locs ls cells slots hI hP hD hS hl hc hs
    refine lv_iload hx hb dL_law_23 (lv_at hl 4 rfl) ?_
    refine lv_aload_n hx hb dL_law_25 rfl (lv_at hl 0 rfl) ?_
    refine va_slen hx hb hX hbl hbA hS dL_law_26 ?_
    refine lv_iconst (v := 5) hx hb dL_law_27 (by decide) ?_
    refine lv_isub hx hb dL_law_28 ?_
    exact lv_icmp_gt (tgt := 926) hx hb dL_law_29 (by decide) (fun _ => kend H locs ls cells slots hS (by omega) (by omega)) (fun c_9 => absurd (li_gt hL (by omega) (by omega)) c_9)
  | succ n ih =>
    intro i hn hi fo v w r q H locs ls cells slots hI hP hD hS hl hc hs
    refine lv_iload hx hb dL_law_23 (lv_at hl 4 rfl) ?_
    refine lv_aload_n hx hb dL_law_25 rfl (lv_at hl 0 rfl) ?_
    refine va_slen hx hb hX hbl hbA hS dL_law_26 ?_
    refine lv_iconst (v := 5) hx hb dL_law_27 (by decide) ?_
    refine lv_isub hx hb dL_law_28 ?_
    refine lv_icmp_gt (tgt := 926) hx hb dL_law_29 (by decide) (fun _ => kend H locs ls cells slots hS (by omega) (by omega)) (fun c_9 => ?_)
    have h5 : i + 5 ≤ L := by
      rcases Nat.lt_or_ge L (i + 5) with h9 | h9
      · exact absurd (li_gt hL (by omega) h9) c_9
      · exact h9
    refine lc_body hst C0 hX hbl hbA i h5 hL hI hP hD hS hl (by omega) (by omega) (fun fo' v' w' r' q' H' locs' ls' hI' hP' hD' hS' hl' => ?_)
    refine lv_iinc (v := nI (i + 5)) (lv' := [(4, .int (nI (i + 5))), (0, .ref b0), (1, .ref (a 0)), (2, .ref (aM 0)), (3, .ref bo)]) hx hb dL_law_920 hl' (k := 4) rfl (nI_p i 5) (by decide) rfl (fun ls hl => ?_)
    refine lv_goto (tgt := 23) hx hb dL_law_923 (by decide) ?_
    exact ih (i + 5) (by omega) h5 fo' v' w' r' q' H' locs' ls (cells + 6) (slots + 36) hI' hP' hD' hS' (lv_sub hl [1, 2, 3, 4, 0] rfl) (by omega) (by omega)
