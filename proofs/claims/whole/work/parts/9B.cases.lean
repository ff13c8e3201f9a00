set_option maxHeartbeats 4000000 in
set_option maxRecDepth 100000 in
theorem lc_atom {p : Program} {l : Launch} {e : Env} {s : State} {m : MethodId} {args : Array Value} {below : List Frame} {meth : Method} {c : Code} {H : Heap} {locs : List Loc} {cells slots : Nat} {Q : State → Prop} {ls : Array Slot} {D : va_G} {cI cL : ClassId} {A : Nat → Prop} {a aM : Nat → Nat} {bo : Nat} {fo : Nat → Int64} {v w : Nat → Int32} {r q : Rw} (hst : l.stackTraces = false) (C0 : kEW p s m meth c args cL_law 7 ret RL wsL_law D cI cL A) {b0 L : Nat} {xs : Nat → Int32} (hX : va_X b0 L xs s s.heap) (hbl : b0 < s.heap.size) (hbA : ¬ A b0) (i : Nat) (hi : i + 5 ≤ L) (hL : L ≤ 240) (hI : INV v r w q)
    (hP : va_P D vwCl (wM cI aM w q ++ wO cI cL a bo fo v r) H) (hD : va_D A (wM cI aM w q ++ wO cI cL a bo fo v r)) (hS : va_S A s.heap H locs) (hl : lv_has ls 7 [(0, .ref b0), (1, .ref (a 0)), (2, .ref (aM 0)), (3, .ref bo), (4, .int (nI i))]) (hc : cells + 6 ≤ room_1.cells) (hs : slots + 36 ≤ room_1.slots)
    (kk : ∀ (fo' : Nat → Int64) (v' w' : Nat → Int32) (r' q' : Rw) (H' : Heap) (locs' : List Loc) (ls' : Array Slot), INV v' r' w' q' → va_P D vwCl (wM cI aM w' q' ++ wO cI cL a bo fo' v' r') H' → va_D A (wM cI aM w' q' ++ wO cI cL a bo fo' v' r') → va_S A s.heap H' locs' → lv_has ls' 7 [(0, .ref b0), (1, .ref (a 0)), (2, .ref (aM 0)), (3, .ref bo), (4, .int (nI i))] → W p l e room_1 s m args below meth c H' locs' (cells + 6) (slots + 36) Q (F0 m 920 ls' [])) :
    W p l e room_1 s m args below meth c H locs cells slots Q (F0 m 96 ls []) := by
  have hx := C0.1.1
  have hb := C0.1.2.1
  have hown : s.vm.findClass RL = some m.cls := C0.1.2.2.2.1
  have hts : ∀ w ∈ wsL_law, w.before args s = true := C0.1.2.2.2.2
  have hK := C0.2.2.2.1
  refine lv_aload_n hx hb dL_law_96 rfl (lv_at hl 1 rfl) ?_
  refine lv_aload_n hx hb dL_law_97 rfl (lv_at hl 0 rfl) ?_
  refine lv_iload hx hb dL_law_98 (lv_at hl 4 rfl) ?_
  refine lv_iconst (v := 1) hx hb dL_law_100 (by decide) ?_
  refine lv_iadd hx hb dL_law_101 ?_
  refine ld_s hx hb hX hbl hbA hS (i + 1) (by omega) hL (nI_p i 1) dL_law_102 ?_
  refine lv_aload_n hx hb dL_law_103 rfl (lv_at hl 0 rfl) ?_
  refine lv_iload hx hb dL_law_104 (lv_at hl 4 rfl) ?_
  refine lv_iconst (v := 2) hx hb dL_law_106 (by decide) ?_
  refine lv_iadd hx hb dL_law_107 ?_
  refine ld_s hx hb hX hbl hbA hS (i + 2) (by omega) hL (nI_p i 2) dL_law_108 ?_
  refine lv_aload_n hx hb dL_law_109 rfl (lv_at hl 3 rfl) ?_
  obtain ⟨PW, G, hW1, hM1, hT1⟩ := p_atom (l := l) D cI cL a bo aM fo hst hI (xs (i + 1)) (xs (i + 2))
  refine kcLW (wr := wM cI aM w q) (As := [.ref (a 0), .int (xs (i + 1)), .int (xs (i + 2)), .ref bo]) (rest := []) C0 hP hD hS hW1 (vx_cwSW 4 hts gL_law_L_atom rfl rfl rfl (by decide +kernel) ⟨Nat.le_of_ble_eq_true rfl, Nat.le_of_ble_eq_true rfl⟩) [13, 14, 15, 16, 17, 18, 19, 20, 21, 22, 23, 24, 25, 26, 27, 28, 29, 30, 31, 32, 33, 34] [0, 1, 2, 3, 4, 5, 6, 7, 8, 9, 10, 11, 12] rfl rfl rfl rfl rfl (by decide) rfl hl.1 rfl (Nat.le_of_ble_eq_true rfl) dL_law_110 ⟨Nat.le_trans (by omega) hc, Nat.le_trans (by omega) hs⟩ (fun k u H locs hk hP hD hS => ?_)
  refine W.widen (k := cells + 6) (n := slots + 36) (by omega) (by omega) ?_
  refine lv_istore (lv' := [(5, .int k), (0, .ref b0), (1, .ref (a 0)), (2, .ref (aM 0)), (3, .ref bo), (4, .int (nI i))]) hx hb dL_law_113 hl (by decide) rfl (fun ls hl => ?_)
  refine lv_aload_n hx hb dL_law_115 rfl (lv_at hl 3 rfl) ?_
  refine lv_aload_n hx hb dL_law_116 rfl (lv_at hl 1 rfl) ?_
  refine lv_iload hx hb dL_law_117 (lv_at hl 5 rfl) ?_
  refine lv_iconst (v := 1) hx hb dL_law_119 (by decide) ?_
  refine lv_iadd hx hb dL_law_120 ?_
  refine ld_s hx hb hX hbl hbA hS (i + 1) (by omega) hL (nI_p i 1) dL_law_121 ?_
  refine lv_aload_n hx hb dL_law_122 rfl (lv_at hl 1 rfl) ?_
  refine lv_iload hx hb dL_law_123 (lv_at hl 5 rfl) ?_
  refine lv_iconst (v := 2) hx hb dL_law_125 (by decide) ?_
  refine lv_iadd hx hb dL_law_126 ?_
  refine ld_s hx hb hX hbl hbA hS (i + 2) (by omega) hL (nI_p i 2) dL_law_127 ?_
  refine kcLM (wr := wO cI cL a bo u.1 u.2.1 u.2.2) (As := [.int (xs (i + 1)), .int (xs (i + 2))]) (rest := []) C0 hP hD hS hM1 (cwV 2 hts gL_law_X5_atom rfl rfl rfl (by decide +kernel) ⟨Nat.le_of_ble_eq_true rfl, Nat.le_of_ble_eq_true rfl⟩) [0, 1, 2, 3, 4, 5, 6, 7, 8, 9, 10, 11, 12] [13, 14, 15, 16, 17, 18, 19, 20, 21, 22, 23, 24, 25, 26, 27, 28, 29, 30, 31, 32, 33, 34] rfl rfl rfl rfl rfl (by decide) 0 5 rfl rfl rfl hl.1 rfl (Nat.le_of_ble_eq_true rfl) dL_law_128 ⟨hc, hs⟩ (fun z' u' H locs hg hP hD hS => ?_)
  obtain ⟨t1, t2, t3⟩ := hT1 k u z' u' hk hg
  refine lv_istore (lv' := [(6, .int z'), (5, .int k), (0, .ref b0), (1, .ref (a 0)), (2, .ref (aM 0)), (3, .ref bo), (4, .int (nI i))]) hx hb dL_law_131 hl (by decide) rfl (fun ls hl => ?_)
  refine lv_aload_n hx hb dL_law_133 rfl (lv_at hl 4 rfl) ?_
  refine kcLM (wr := wO cI cL a bo u.1 u.2.1 u.2.2) (As := []) (rest := []) C0 hP hD hS (c_X5_thrown l D cI aM u'.1 u'.2) (cwV 0 hts gL_law_X5_thrown rfl rfl rfl (by decide +kernel) ⟨Nat.le_of_ble_eq_true rfl, Nat.le_of_ble_eq_true rfl⟩) [22, 23, 24, 25, 26, 27, 28, 29, 30, 31, 32, 33, 34] [0, 1, 2, 3, 4, 5, 6, 7, 8, 9, 10, 11, 12, 13, 14, 15, 16, 17, 18, 19, 20, 21] rfl rfl rfl rfl rfl (by decide) 0 5 rfl rfl rfl hl.1 rfl (Nat.le_of_ble_eq_true rfl) dL_law_134 ⟨hc, hs⟩ (fun z9 _ H locs hz9 hP hD hS => ?_)
  refine lv_iload hx hb dL_law_137 (lv_at hl 1 rfl) ?_
  refine lv_icmp_eq (tgt := 144) hx hb dL_law_139 (by decide) (fun c_1 => ?_) (fun c_1 => absurd (hz9.trans t1) c_1)
  have hP := hP.sub (ws' := wM cI aM u'.1 u'.2 ++ wO cI cL a bo u.1 u.2.1 u.2.2) [22, 23, 24, 25, 26, 27, 28, 29, 30, 31, 32, 33, 34, 0, 1, 2, 3, 4, 5, 6, 7, 8, 9, 10, 11, 12, 13, 14, 15, 16, 17, 18, 19, 20, 21] rfl
  have hD := hD.sub (ws' := wM cI aM u'.1 u'.2 ++ wO cI cL a bo u.1 u.2.1 u.2.2) [22, 23, 24, 25, 26, 27, 28, 29, 30, 31, 32, 33, 34, 0, 1, 2, 3, 4, 5, 6, 7, 8, 9, 10, 11, 12, 13, 14, 15, 16, 17, 18, 19, 20, 21] (by decide) rfl
  refine lv_iload hx hb dL_law_144 (lv_at hl 1 rfl) ?_
  refine lv_if_ne (tgt := 161) hx hb dL_law_146 (by decide) (fun c_2 => lv_goto (tgt := 920) hx hb dL_law_161 (by decide) (kk u.1 u.2.1 u'.1 u.2.2 u'.2 H locs ls t3 hP hD hS (lv_sub hl [2, 3, 4, 5, 6] rfl))) (fun c_2 => ?_)
  have c_2 : k = 0 := (by first | exact c_2 | exact Classical.not_not.mp c_2 | exact Decidable.not_not.mp c_2)
  refine lv_aload_n hx hb dL_law_149 rfl (lv_at hl 5 rfl) ?_
  refine lv_iconst (v := 0) hx hb dL_law_150 (by decide) ?_
  refine va_lald hx hb hK hP 13 1 rfl rfl (vp_in_nI (n := 0) (by decide) (by decide)) dL_law_151 ?_
  refine lv_iload hx hb dL_law_152 (lv_at hl 0 rfl) ?_
  refine lv_i2l hx hb dL_law_154 rfl ?_
  refine W.lcmp hx hb dL_law_155 ?_
  exact lv_if_eq (tgt := 161) hx hb dL_law_156 (by decide) (fun c_3 => lv_goto (tgt := 920) hx hb dL_law_161 (by decide) (kk u.1 u.2.1 u'.1 u.2.2 u'.2 H locs ls t3 hP hD hS (lv_sub hl [2, 3, 4, 5, 6] rfl))) (fun c_3 => absurd (by rw [← t2 c_2]; exact lcmp_self _) c_3)
set_option maxHeartbeats 4000000 in
set_option maxRecDepth 100000 in
theorem lc_script {p : Program} {l : Launch} {e : Env} {s : State} {m : MethodId} {args : Array Value} {below : List Frame} {meth : Method} {c : Code} {H : Heap} {locs : List Loc} {cells slots : Nat} {Q : State → Prop} {ls : Array Slot} {D : va_G} {cI cL : ClassId} {A : Nat → Prop} {a aM : Nat → Nat} {bo : Nat} {fo : Nat → Int64} {v w : Nat → Int32} {r q : Rw} (hst : l.stackTraces = false) (C0 : kEW p s m meth c args cL_law 7 ret RL wsL_law D cI cL A) {b0 L : Nat} {xs : Nat → Int32} (hX : va_X b0 L xs s s.heap) (hbl : b0 < s.heap.size) (hbA : ¬ A b0) (i : Nat) (hi : i + 5 ≤ L) (hL : L ≤ 240) (hI : INV v r w q)
    (hP : va_P D vwCl (wM cI aM w q ++ wO cI cL a bo fo v r) H) (hD : va_D A (wM cI aM w q ++ wO cI cL a bo fo v r)) (hS : va_S A s.heap H locs) (hl : lv_has ls 7 [(0, .ref b0), (1, .ref (a 0)), (2, .ref (aM 0)), (3, .ref bo), (4, .int (nI i))]) (hc : cells + 6 ≤ room_1.cells) (hs : slots + 36 ≤ room_1.slots)
    (kk : ∀ (fo' : Nat → Int64) (v' w' : Nat → Int32) (r' q' : Rw) (H' : Heap) (locs' : List Loc) (ls' : Array Slot), INV v' r' w' q' → va_P D vwCl (wM cI aM w' q' ++ wO cI cL a bo fo' v' r') H' → va_D A (wM cI aM w' q' ++ wO cI cL a bo fo' v' r') → va_S A s.heap H' locs' → lv_has ls' 7 [(0, .ref b0), (1, .ref (a 0)), (2, .ref (aM 0)), (3, .ref bo), (4, .int (nI i))] → W p l e room_1 s m args below meth c H' locs' (cells + 6) (slots + 36) Q (F0 m 920 ls' [])) :
    W p l e room_1 s m args below meth c H locs cells slots Q (F0 m 164 ls []) := by
  have hx := C0.1.1
  have hb := C0.1.2.1
  have hown : s.vm.findClass RL = some m.cls := C0.1.2.2.2.1
  have hts : ∀ w ∈ wsL_law, w.before args s = true := C0.1.2.2.2.2
  have hK := C0.2.2.2.1
  refine lv_aload_n hx hb dL_law_164 rfl (lv_at hl 1 rfl) ?_
  refine lv_aload_n hx hb dL_law_165 rfl (lv_at hl 0 rfl) ?_
  refine lv_iload hx hb dL_law_166 (lv_at hl 4 rfl) ?_
  refine lv_iconst (v := 1) hx hb dL_law_168 (by decide) ?_
  refine lv_iadd hx hb dL_law_169 ?_
  refine ld_s hx hb hX hbl hbA hS (i + 1) (by omega) hL (nI_p i 1) dL_law_170 ?_
  refine lv_aload_n hx hb dL_law_171 rfl (lv_at hl 0 rfl) ?_
  refine lv_iload hx hb dL_law_172 (lv_at hl 4 rfl) ?_
  refine lv_iconst (v := 2) hx hb dL_law_174 (by decide) ?_
  refine lv_iadd hx hb dL_law_175 ?_
  refine ld_s hx hb hX hbl hbA hS (i + 2) (by omega) hL (nI_p i 2) dL_law_176 ?_
  refine bzT hx hb dL_law_177 dL_law_180 dL_law_181 dL_law_184 ?_
  refine lv_aload_n hx hb dL_law_185 rfl (lv_at hl 0 rfl) ?_
  refine lv_iload hx hb dL_law_186 (lv_at hl 4 rfl) ?_
  refine lv_iconst (v := 3) hx hb dL_law_188 (by decide) ?_
  refine lv_iadd hx hb dL_law_189 ?_
  refine ld_s hx hb hX hbl hbA hS (i + 3) (by omega) hL (nI_p i 3) dL_law_190 ?_
  refine lv_aload_n hx hb dL_law_191 rfl (lv_at hl 3 rfl) ?_
  obtain ⟨PW, G, hW1, hM1, hT1⟩ := p_script (l := l) D cI cL a bo aM fo hst hI (xs (i + 1)) (if xs (i + 2) = 0 then 0 else 1) (xs (i + 3))
  refine kcLW (wr := wM cI aM w q) (As := [.ref (a 0), .int (xs (i + 1)), .int (if xs (i + 2) = 0 then 0 else 1), .int (xs (i + 3)), .ref bo]) (rest := []) C0 hP hD hS hW1 (vx_cwSW 5 hts gL_law_L_script rfl rfl rfl (by decide +kernel) ⟨Nat.le_of_ble_eq_true rfl, Nat.le_of_ble_eq_true rfl⟩) [13, 14, 15, 16, 17, 18, 19, 20, 21, 22, 23, 24, 25, 26, 27, 28, 29, 30, 31, 32, 33, 34] [0, 1, 2, 3, 4, 5, 6, 7, 8, 9, 10, 11, 12] rfl rfl rfl rfl rfl (by decide) rfl hl.1 rfl (Nat.le_of_ble_eq_true rfl) dL_law_192 ⟨Nat.le_trans (by omega) hc, Nat.le_trans (by omega) hs⟩ (fun k u H locs hk hP hD hS => ?_)
  refine W.widen (k := cells + 6) (n := slots + 36) (by omega) (by omega) ?_
  refine lv_istore (lv' := [(5, .int k), (0, .ref b0), (1, .ref (a 0)), (2, .ref (aM 0)), (3, .ref bo), (4, .int (nI i))]) hx hb dL_law_195 hl (by decide) rfl (fun ls hl => ?_)
  refine lv_aload_n hx hb dL_law_197 rfl (lv_at hl 3 rfl) ?_
  refine lv_aload_n hx hb dL_law_198 rfl (lv_at hl 1 rfl) ?_
  refine lv_iload hx hb dL_law_199 (lv_at hl 5 rfl) ?_
  refine lv_iconst (v := 1) hx hb dL_law_201 (by decide) ?_
  refine lv_iadd hx hb dL_law_202 ?_
  refine ld_s hx hb hX hbl hbA hS (i + 1) (by omega) hL (nI_p i 1) dL_law_203 ?_
  refine lv_aload_n hx hb dL_law_204 rfl (lv_at hl 1 rfl) ?_
  refine lv_iload hx hb dL_law_205 (lv_at hl 5 rfl) ?_
  refine lv_iconst (v := 2) hx hb dL_law_207 (by decide) ?_
  refine lv_iadd hx hb dL_law_208 ?_
  refine ld_s hx hb hX hbl hbA hS (i + 2) (by omega) hL (nI_p i 2) dL_law_209 ?_
  refine bzT hx hb dL_law_210 dL_law_213 dL_law_214 dL_law_217 ?_
  refine lv_aload_n hx hb dL_law_218 rfl (lv_at hl 1 rfl) ?_
  refine lv_iload hx hb dL_law_219 (lv_at hl 5 rfl) ?_
  refine lv_iconst (v := 3) hx hb dL_law_221 (by decide) ?_
  refine lv_iadd hx hb dL_law_222 ?_
  refine ld_s hx hb hX hbl hbA hS (i + 3) (by omega) hL (nI_p i 3) dL_law_223 ?_
  refine kcLM (wr := wO cI cL a bo u.1 u.2.1 u.2.2) (As := [.int (xs (i + 1)), .int (if xs (i + 2) = 0 then 0 else 1), .int (xs (i + 3))]) (rest := []) C0 hP hD hS hM1 (cwV 3 hts gL_law_X5_script rfl rfl rfl (by decide +kernel) ⟨Nat.le_of_ble_eq_true rfl, Nat.le_of_ble_eq_true rfl⟩) [0, 1, 2, 3, 4, 5, 6, 7, 8, 9, 10, 11, 12] [13, 14, 15, 16, 17, 18, 19, 20, 21, 22, 23, 24, 25, 26, 27, 28, 29, 30, 31, 32, 33, 34] rfl rfl rfl rfl rfl (by decide) 0 5 rfl rfl rfl hl.1 rfl (Nat.le_of_ble_eq_true rfl) dL_law_224 ⟨hc, hs⟩ (fun z' u' H locs hg hP hD hS => ?_)
  obtain ⟨t1, t2, t3⟩ := hT1 k u z' u' hk hg
  refine lv_istore (lv' := [(6, .int z'), (5, .int k), (0, .ref b0), (1, .ref (a 0)), (2, .ref (aM 0)), (3, .ref bo), (4, .int (nI i))]) hx hb dL_law_227 hl (by decide) rfl (fun ls hl => ?_)
  refine lv_aload_n hx hb dL_law_229 rfl (lv_at hl 4 rfl) ?_
  refine kcLM (wr := wO cI cL a bo u.1 u.2.1 u.2.2) (As := []) (rest := []) C0 hP hD hS (c_X5_thrown l D cI aM u'.1 u'.2) (cwV 0 hts gL_law_X5_thrown rfl rfl rfl (by decide +kernel) ⟨Nat.le_of_ble_eq_true rfl, Nat.le_of_ble_eq_true rfl⟩) [22, 23, 24, 25, 26, 27, 28, 29, 30, 31, 32, 33, 34] [0, 1, 2, 3, 4, 5, 6, 7, 8, 9, 10, 11, 12, 13, 14, 15, 16, 17, 18, 19, 20, 21] rfl rfl rfl rfl rfl (by decide) 0 5 rfl rfl rfl hl.1 rfl (Nat.le_of_ble_eq_true rfl) dL_law_230 ⟨hc, hs⟩ (fun z9 _ H locs hz9 hP hD hS => ?_)
  refine lv_iload hx hb dL_law_233 (lv_at hl 1 rfl) ?_
  refine lv_icmp_eq (tgt := 240) hx hb dL_law_235 (by decide) (fun c_1 => ?_) (fun c_1 => absurd (hz9.trans t1) c_1)
  have hP := hP.sub (ws' := wM cI aM u'.1 u'.2 ++ wO cI cL a bo u.1 u.2.1 u.2.2) [22, 23, 24, 25, 26, 27, 28, 29, 30, 31, 32, 33, 34, 0, 1, 2, 3, 4, 5, 6, 7, 8, 9, 10, 11, 12, 13, 14, 15, 16, 17, 18, 19, 20, 21] rfl
  have hD := hD.sub (ws' := wM cI aM u'.1 u'.2 ++ wO cI cL a bo u.1 u.2.1 u.2.2) [22, 23, 24, 25, 26, 27, 28, 29, 30, 31, 32, 33, 34, 0, 1, 2, 3, 4, 5, 6, 7, 8, 9, 10, 11, 12, 13, 14, 15, 16, 17, 18, 19, 20, 21] (by decide) rfl
  refine lv_iload hx hb dL_law_240 (lv_at hl 1 rfl) ?_
  refine lv_if_ne (tgt := 257) hx hb dL_law_242 (by decide) (fun c_2 => lv_goto (tgt := 920) hx hb dL_law_257 (by decide) (kk u.1 u.2.1 u'.1 u.2.2 u'.2 H locs ls t3 hP hD hS (lv_sub hl [2, 3, 4, 5, 6] rfl))) (fun c_2 => ?_)
  have c_2 : k = 0 := (by first | exact c_2 | exact Classical.not_not.mp c_2 | exact Decidable.not_not.mp c_2)
  refine lv_aload_n hx hb dL_law_245 rfl (lv_at hl 5 rfl) ?_
  refine lv_iconst (v := 0) hx hb dL_law_246 (by decide) ?_
  refine va_lald hx hb hK hP 13 1 rfl rfl (vp_in_nI (n := 0) (by decide) (by decide)) dL_law_247 ?_
  refine lv_iload hx hb dL_law_248 (lv_at hl 0 rfl) ?_
  refine lv_i2l hx hb dL_law_250 rfl ?_
  refine W.lcmp hx hb dL_law_251 ?_
  exact lv_if_eq (tgt := 257) hx hb dL_law_252 (by decide) (fun c_3 => lv_goto (tgt := 920) hx hb dL_law_257 (by decide) (kk u.1 u.2.1 u'.1 u.2.2 u'.2 H locs ls t3 hP hD hS (lv_sub hl [2, 3, 4, 5, 6] rfl))) (fun c_3 => absurd (by rw [← t2 c_2]; exact lcmp_self _) c_3)
set_option maxHeartbeats 4000000 in
set_option maxRecDepth 100000 in
theorem lc_fraction {p : Program} {l : Launch} {e : Env} {s : State} {m : MethodId} {args : Array Value} {below : List Frame} {meth : Method} {c : Code} {H : Heap} {locs : List Loc} {cells slots : Nat} {Q : State → Prop} {ls : Array Slot} {D : va_G} {cI cL : ClassId} {A : Nat → Prop} {a aM : Nat → Nat} {bo : Nat} {fo : Nat → Int64} {v w : Nat → Int32} {r q : Rw} (hst : l.stackTraces = false) (C0 : kEW p s m meth c args cL_law 7 ret RL wsL_law D cI cL A) {b0 L : Nat} {xs : Nat → Int32} (hX : va_X b0 L xs s s.heap) (hbl : b0 < s.heap.size) (hbA : ¬ A b0) (i : Nat) (hi : i + 5 ≤ L) (hL : L ≤ 240) (hI : INV v r w q)
    (hP : va_P D vwCl (wM cI aM w q ++ wO cI cL a bo fo v r) H) (hD : va_D A (wM cI aM w q ++ wO cI cL a bo fo v r)) (hS : va_S A s.heap H locs) (hl : lv_has ls 7 [(0, .ref b0), (1, .ref (a 0)), (2, .ref (aM 0)), (3, .ref bo), (4, .int (nI i))]) (hc : cells + 6 ≤ room_1.cells) (hs : slots + 36 ≤ room_1.slots)
    (kk : ∀ (fo' : Nat → Int64) (v' w' : Nat → Int32) (r' q' : Rw) (H' : Heap) (locs' : List Loc) (ls' : Array Slot), INV v' r' w' q' → va_P D vwCl (wM cI aM w' q' ++ wO cI cL a bo fo' v' r') H' → va_D A (wM cI aM w' q' ++ wO cI cL a bo fo' v' r') → va_S A s.heap H' locs' → lv_has ls' 7 [(0, .ref b0), (1, .ref (a 0)), (2, .ref (aM 0)), (3, .ref bo), (4, .int (nI i))] → W p l e room_1 s m args below meth c H' locs' (cells + 6) (slots + 36) Q (F0 m 920 ls' [])) :
    W p l e room_1 s m args below meth c H locs cells slots Q (F0 m 260 ls []) := by
  have hx := C0.1.1
  have hb := C0.1.2.1
  have hown : s.vm.findClass RL = some m.cls := C0.1.2.2.2.1
  have hts : ∀ w ∈ wsL_law, w.before args s = true := C0.1.2.2.2.2
  have hK := C0.2.2.2.1
  refine lv_aload_n hx hb dL_law_260 rfl (lv_at hl 1 rfl) ?_
  refine lv_aload_n hx hb dL_law_261 rfl (lv_at hl 0 rfl) ?_
  refine lv_iload hx hb dL_law_262 (lv_at hl 4 rfl) ?_
  refine lv_iconst (v := 1) hx hb dL_law_264 (by decide) ?_
  refine lv_iadd hx hb dL_law_265 ?_
  refine ld_s hx hb hX hbl hbA hS (i + 1) (by omega) hL (nI_p i 1) dL_law_266 ?_
  refine lv_aload_n hx hb dL_law_267 rfl (lv_at hl 0 rfl) ?_
  refine lv_iload hx hb dL_law_268 (lv_at hl 4 rfl) ?_
  refine lv_iconst (v := 2) hx hb dL_law_270 (by decide) ?_
  refine lv_iadd hx hb dL_law_271 ?_
  refine ld_s hx hb hX hbl hbA hS (i + 2) (by omega) hL (nI_p i 2) dL_law_272 ?_
  refine lv_aload_n hx hb dL_law_273 rfl (lv_at hl 0 rfl) ?_
  refine lv_iload hx hb dL_law_274 (lv_at hl 4 rfl) ?_
  refine lv_iconst (v := 3) hx hb dL_law_276 (by decide) ?_
  refine lv_iadd hx hb dL_law_277 ?_
  refine ld_s hx hb hX hbl hbA hS (i + 3) (by omega) hL (nI_p i 3) dL_law_278 ?_
  refine lv_i2l hx hb dL_law_279 rfl ?_
  refine lv_bipush (v := 32) hx hb dL_law_280 (by decide) ?_
  refine lv_lshl hx hb dL_law_282 rfl ?_
  refine lv_aload_n hx hb dL_law_283 rfl (lv_at hl 0 rfl) ?_
  refine lv_iload hx hb dL_law_284 (lv_at hl 4 rfl) ?_
  refine lv_iconst (v := 4) hx hb dL_law_286 (by decide) ?_
  refine lv_iadd hx hb dL_law_287 ?_
  refine ld_s hx hb hX hbl hbA hS (i + 4) (by omega) hL (nI_p i 4) dL_law_288 ?_
  refine lv_i2l hx hb dL_law_289 rfl ?_
  refine lv_ldc2 (v := 4294967295) hx hb hown (hts (.constantLong RL 76 4294967295) (by decide +kernel)) dL_law_290 ?_
  refine lv_land hx hb dL_law_293 ?_
  refine lv_lor hx hb dL_law_294 ?_
  refine lv_topl (fun Z eZ => ?_)
  refine lv_aload_n hx hb dL_law_295 rfl (lv_at hl 3 rfl) ?_
  obtain ⟨PW, G, hW1, hM1, hT1⟩ := p_fraction (l := l) D cI cL a bo aM fo hst hI (xs (i + 1)) (xs (i + 2)) Z
  refine kcLW (wr := wM cI aM w q) (As := [.ref (a 0), .int (xs (i + 1)), .int (xs (i + 2)), .long Z, .ref bo]) (rest := []) C0 hP hD hS hW1 (vx_cwSW 5 hts gL_law_L_fraction rfl rfl rfl (by decide +kernel) ⟨Nat.le_of_ble_eq_true rfl, Nat.le_of_ble_eq_true rfl⟩) [13, 14, 15, 16, 17, 18, 19, 20, 21, 22, 23, 24, 25, 26, 27, 28, 29, 30, 31, 32, 33, 34] [0, 1, 2, 3, 4, 5, 6, 7, 8, 9, 10, 11, 12] rfl rfl rfl rfl rfl (by decide) rfl hl.1 rfl (Nat.le_of_ble_eq_true rfl) dL_law_296 ⟨Nat.le_trans (by omega) hc, Nat.le_trans (by omega) hs⟩ (fun k u H locs hk hP hD hS => ?_)
  refine W.widen (k := cells + 6) (n := slots + 36) (by omega) (by omega) ?_
  refine lv_istore (lv' := [(5, .int k), (0, .ref b0), (1, .ref (a 0)), (2, .ref (aM 0)), (3, .ref bo), (4, .int (nI i))]) hx hb dL_law_299 hl (by decide) rfl (fun ls hl => ?_)
  refine lv_aload_n hx hb dL_law_301 rfl (lv_at hl 3 rfl) ?_
  refine lv_aload_n hx hb dL_law_302 rfl (lv_at hl 1 rfl) ?_
  refine lv_iload hx hb dL_law_303 (lv_at hl 5 rfl) ?_
  refine lv_iconst (v := 1) hx hb dL_law_305 (by decide) ?_
  refine lv_iadd hx hb dL_law_306 ?_
  refine ld_s hx hb hX hbl hbA hS (i + 1) (by omega) hL (nI_p i 1) dL_law_307 ?_
  refine lv_aload_n hx hb dL_law_308 rfl (lv_at hl 1 rfl) ?_
  refine lv_iload hx hb dL_law_309 (lv_at hl 5 rfl) ?_
  refine lv_iconst (v := 2) hx hb dL_law_311 (by decide) ?_
  refine lv_iadd hx hb dL_law_312 ?_
  refine ld_s hx hb hX hbl hbA hS (i + 2) (by omega) hL (nI_p i 2) dL_law_313 ?_
  refine lv_aload_n hx hb dL_law_314 rfl (lv_at hl 1 rfl) ?_
  refine lv_iload hx hb dL_law_315 (lv_at hl 5 rfl) ?_
  refine lv_iconst (v := 3) hx hb dL_law_317 (by decide) ?_
  refine lv_iadd hx hb dL_law_318 ?_
  refine ld_s hx hb hX hbl hbA hS (i + 3) (by omega) hL (nI_p i 3) dL_law_319 ?_
  refine lv_i2l hx hb dL_law_320 rfl ?_
  refine lv_bipush (v := 32) hx hb dL_law_321 (by decide) ?_
  refine lv_lshl hx hb dL_law_323 rfl ?_
  refine lv_aload_n hx hb dL_law_324 rfl (lv_at hl 1 rfl) ?_
  refine lv_iload hx hb dL_law_325 (lv_at hl 5 rfl) ?_
  refine lv_iconst (v := 4) hx hb dL_law_327 (by decide) ?_
  refine lv_iadd hx hb dL_law_328 ?_
  refine ld_s hx hb hX hbl hbA hS (i + 4) (by omega) hL (nI_p i 4) dL_law_329 ?_
  refine lv_i2l hx hb dL_law_330 rfl ?_
  refine lv_ldc2 (v := 4294967295) hx hb hown (hts (.constantLong RL 76 4294967295) (by decide +kernel)) dL_law_331 ?_
  refine lv_land hx hb dL_law_334 ?_
  refine lv_lor hx hb dL_law_335 ?_
  refine lv_topl (fun Z2 eZ2 => ?_)
  obtain rfl : Z2 = Z := eZ2.trans eZ.symm
  refine kcLM (wr := wO cI cL a bo u.1 u.2.1 u.2.2) (As := [.int (xs (i + 1)), .int (xs (i + 2)), .long Z2]) (rest := []) C0 hP hD hS hM1 (cwV 3 hts gL_law_X5_fraction rfl rfl rfl (by decide +kernel) ⟨Nat.le_of_ble_eq_true rfl, Nat.le_of_ble_eq_true rfl⟩) [0, 1, 2, 3, 4, 5, 6, 7, 8, 9, 10, 11, 12] [13, 14, 15, 16, 17, 18, 19, 20, 21, 22, 23, 24, 25, 26, 27, 28, 29, 30, 31, 32, 33, 34] rfl rfl rfl rfl rfl (by decide) 0 5 rfl rfl rfl hl.1 rfl (Nat.le_of_ble_eq_true rfl) dL_law_336 ⟨hc, hs⟩ (fun z' u' H locs hg hP hD hS => ?_)
  obtain ⟨t1, t2, t3⟩ := hT1 k u z' u' hk hg
  refine lv_istore (lv' := [(6, .int z'), (5, .int k), (0, .ref b0), (1, .ref (a 0)), (2, .ref (aM 0)), (3, .ref bo), (4, .int (nI i))]) hx hb dL_law_339 hl (by decide) rfl (fun ls hl => ?_)
  refine lv_aload_n hx hb dL_law_341 rfl (lv_at hl 4 rfl) ?_
  refine kcLM (wr := wO cI cL a bo u.1 u.2.1 u.2.2) (As := []) (rest := []) C0 hP hD hS (c_X5_thrown l D cI aM u'.1 u'.2) (cwV 0 hts gL_law_X5_thrown rfl rfl rfl (by decide +kernel) ⟨Nat.le_of_ble_eq_true rfl, Nat.le_of_ble_eq_true rfl⟩) [22, 23, 24, 25, 26, 27, 28, 29, 30, 31, 32, 33, 34] [0, 1, 2, 3, 4, 5, 6, 7, 8, 9, 10, 11, 12, 13, 14, 15, 16, 17, 18, 19, 20, 21] rfl rfl rfl rfl rfl (by decide) 0 5 rfl rfl rfl hl.1 rfl (Nat.le_of_ble_eq_true rfl) dL_law_342 ⟨hc, hs⟩ (fun z9 _ H locs hz9 hP hD hS => ?_)
  refine lv_iload hx hb dL_law_345 (lv_at hl 1 rfl) ?_
  refine lv_icmp_eq (tgt := 352) hx hb dL_law_347 (by decide) (fun c_1 => ?_) (fun c_1 => absurd (hz9.trans t1) c_1)
  have hP := hP.sub (ws' := wM cI aM u'.1 u'.2 ++ wO cI cL a bo u.1 u.2.1 u.2.2) [22, 23, 24, 25, 26, 27, 28, 29, 30, 31, 32, 33, 34, 0, 1, 2, 3, 4, 5, 6, 7, 8, 9, 10, 11, 12, 13, 14, 15, 16, 17, 18, 19, 20, 21] rfl
  have hD := hD.sub (ws' := wM cI aM u'.1 u'.2 ++ wO cI cL a bo u.1 u.2.1 u.2.2) [22, 23, 24, 25, 26, 27, 28, 29, 30, 31, 32, 33, 34, 0, 1, 2, 3, 4, 5, 6, 7, 8, 9, 10, 11, 12, 13, 14, 15, 16, 17, 18, 19, 20, 21] (by decide) rfl
  refine lv_iload hx hb dL_law_352 (lv_at hl 1 rfl) ?_
  refine lv_if_ne (tgt := 369) hx hb dL_law_354 (by decide) (fun c_2 => lv_goto (tgt := 920) hx hb dL_law_369 (by decide) (kk u.1 u.2.1 u'.1 u.2.2 u'.2 H locs ls t3 hP hD hS (lv_sub hl [2, 3, 4, 5, 6] rfl))) (fun c_2 => ?_)
  have c_2 : k = 0 := (by first | exact c_2 | exact Classical.not_not.mp c_2 | exact Decidable.not_not.mp c_2)
  refine lv_aload_n hx hb dL_law_357 rfl (lv_at hl 5 rfl) ?_
  refine lv_iconst (v := 0) hx hb dL_law_358 (by decide) ?_
  refine va_lald hx hb hK hP 13 1 rfl rfl (vp_in_nI (n := 0) (by decide) (by decide)) dL_law_359 ?_
  refine lv_iload hx hb dL_law_360 (lv_at hl 0 rfl) ?_
  refine lv_i2l hx hb dL_law_362 rfl ?_
  refine W.lcmp hx hb dL_law_363 ?_
  exact lv_if_eq (tgt := 369) hx hb dL_law_364 (by decide) (fun c_3 => lv_goto (tgt := 920) hx hb dL_law_369 (by decide) (kk u.1 u.2.1 u'.1 u.2.2 u'.2 H locs ls t3 hP hD hS (lv_sub hl [2, 3, 4, 5, 6] rfl))) (fun c_3 => absurd (by rw [← t2 c_2]; exact lcmp_self _) c_3)
set_option maxHeartbeats 4000000 in
set_option maxRecDepth 100000 in
theorem lc_fence {p : Program} {l : Launch} {e : Env} {s : State} {m : MethodId} {args : Array Value} {below : List Frame} {meth : Method} {c : Code} {H : Heap} {locs : List Loc} {cells slots : Nat} {Q : State → Prop} {ls : Array Slot} {D : va_G} {cI cL : ClassId} {A : Nat → Prop} {a aM : Nat → Nat} {bo : Nat} {fo : Nat → Int64} {v w : Nat → Int32} {r q : Rw} (hst : l.stackTraces = false) (C0 : kEW p s m meth c args cL_law 7 ret RL wsL_law D cI cL A) {b0 L : Nat} {xs : Nat → Int32} (hX : va_X b0 L xs s s.heap) (hbl : b0 < s.heap.size) (hbA : ¬ A b0) (i : Nat) (hi : i + 5 ≤ L) (hL : L ≤ 240) (hI : INV v r w q)
    (hP : va_P D vwCl (wM cI aM w q ++ wO cI cL a bo fo v r) H) (hD : va_D A (wM cI aM w q ++ wO cI cL a bo fo v r)) (hS : va_S A s.heap H locs) (hl : lv_has ls 7 [(0, .ref b0), (1, .ref (a 0)), (2, .ref (aM 0)), (3, .ref bo), (4, .int (nI i))]) (hc : cells + 6 ≤ room_1.cells) (hs : slots + 36 ≤ room_1.slots)
    (kk : ∀ (fo' : Nat → Int64) (v' w' : Nat → Int32) (r' q' : Rw) (H' : Heap) (locs' : List Loc) (ls' : Array Slot), INV v' r' w' q' → va_P D vwCl (wM cI aM w' q' ++ wO cI cL a bo fo' v' r') H' → va_D A (wM cI aM w' q' ++ wO cI cL a bo fo' v' r') → va_S A s.heap H' locs' → lv_has ls' 7 [(0, .ref b0), (1, .ref (a 0)), (2, .ref (aM 0)), (3, .ref bo), (4, .int (nI i))] → W p l e room_1 s m args below meth c H' locs' (cells + 6) (slots + 36) Q (F0 m 920 ls' [])) :
    W p l e room_1 s m args below meth c H locs cells slots Q (F0 m 372 ls []) := by
  have hx := C0.1.1
  have hb := C0.1.2.1
  have hown : s.vm.findClass RL = some m.cls := C0.1.2.2.2.1
  have hts : ∀ w ∈ wsL_law, w.before args s = true := C0.1.2.2.2.2
  have hK := C0.2.2.2.1
  refine lv_aload_n hx hb dL_law_372 rfl (lv_at hl 1 rfl) ?_
  refine lv_aload_n hx hb dL_law_373 rfl (lv_at hl 0 rfl) ?_
  refine lv_iload hx hb dL_law_374 (lv_at hl 4 rfl) ?_
  refine lv_iconst (v := 1) hx hb dL_law_376 (by decide) ?_
  refine lv_iadd hx hb dL_law_377 ?_
  refine ld_s hx hb hX hbl hbA hS (i + 1) (by omega) hL (nI_p i 1) dL_law_378 ?_
  refine lv_aload_n hx hb dL_law_379 rfl (lv_at hl 0 rfl) ?_
  refine lv_iload hx hb dL_law_380 (lv_at hl 4 rfl) ?_
  refine lv_iconst (v := 2) hx hb dL_law_382 (by decide) ?_
  refine lv_iadd hx hb dL_law_383 ?_
  refine ld_s hx hb hX hbl hbA hS (i + 2) (by omega) hL (nI_p i 2) dL_law_384 ?_
  refine lv_aload_n hx hb dL_law_385 rfl (lv_at hl 0 rfl) ?_
  refine lv_iload hx hb dL_law_386 (lv_at hl 4 rfl) ?_
  refine lv_iconst (v := 3) hx hb dL_law_388 (by decide) ?_
  refine lv_iadd hx hb dL_law_389 ?_
  refine ld_s hx hb hX hbl hbA hS (i + 3) (by omega) hL (nI_p i 3) dL_law_390 ?_
  refine lv_aload_n hx hb dL_law_391 rfl (lv_at hl 3 rfl) ?_
  obtain ⟨PW, G, hW1, hM1, hT1⟩ := p_fence (l := l) D cI cL a bo aM fo hst hI (xs (i + 1)) (xs (i + 2)) (xs (i + 3))
  refine kcLW (wr := wM cI aM w q) (As := [.ref (a 0), .int (xs (i + 1)), .int (xs (i + 2)), .int (xs (i + 3)), .ref bo]) (rest := []) C0 hP hD hS hW1 (vx_cwSW 5 hts gL_law_L_fence rfl rfl rfl (by decide +kernel) ⟨Nat.le_of_ble_eq_true rfl, Nat.le_of_ble_eq_true rfl⟩) [13, 14, 15, 16, 17, 18, 19, 20, 21, 22, 23, 24, 25, 26, 27, 28, 29, 30, 31, 32, 33, 34] [0, 1, 2, 3, 4, 5, 6, 7, 8, 9, 10, 11, 12] rfl rfl rfl rfl rfl (by decide) rfl hl.1 rfl (Nat.le_of_ble_eq_true rfl) dL_law_392 ⟨Nat.le_trans (by omega) hc, Nat.le_trans (by omega) hs⟩ (fun k u H locs hk hP hD hS => ?_)
  refine W.widen (k := cells + 6) (n := slots + 36) (by omega) (by omega) ?_
  refine lv_istore (lv' := [(5, .int k), (0, .ref b0), (1, .ref (a 0)), (2, .ref (aM 0)), (3, .ref bo), (4, .int (nI i))]) hx hb dL_law_395 hl (by decide) rfl (fun ls hl => ?_)
  refine lv_aload_n hx hb dL_law_397 rfl (lv_at hl 3 rfl) ?_
  refine lv_aload_n hx hb dL_law_398 rfl (lv_at hl 1 rfl) ?_
  refine lv_iload hx hb dL_law_399 (lv_at hl 5 rfl) ?_
  refine lv_iconst (v := 1) hx hb dL_law_401 (by decide) ?_
  refine lv_iadd hx hb dL_law_402 ?_
  refine ld_s hx hb hX hbl hbA hS (i + 1) (by omega) hL (nI_p i 1) dL_law_403 ?_
  refine lv_aload_n hx hb dL_law_404 rfl (lv_at hl 1 rfl) ?_
  refine lv_iload hx hb dL_law_405 (lv_at hl 5 rfl) ?_
  refine lv_iconst (v := 2) hx hb dL_law_407 (by decide) ?_
  refine lv_iadd hx hb dL_law_408 ?_
  refine ld_s hx hb hX hbl hbA hS (i + 2) (by omega) hL (nI_p i 2) dL_law_409 ?_
  refine lv_aload_n hx hb dL_law_410 rfl (lv_at hl 1 rfl) ?_
  refine lv_iload hx hb dL_law_411 (lv_at hl 5 rfl) ?_
  refine lv_iconst (v := 3) hx hb dL_law_413 (by decide) ?_
  refine lv_iadd hx hb dL_law_414 ?_
  refine ld_s hx hb hX hbl hbA hS (i + 3) (by omega) hL (nI_p i 3) dL_law_415 ?_
  refine kcLM (wr := wO cI cL a bo u.1 u.2.1 u.2.2) (As := [.int (xs (i + 1)), .int (xs (i + 2)), .int (xs (i + 3))]) (rest := []) C0 hP hD hS hM1 (cwV 3 hts gL_law_X5_fence rfl rfl rfl (by decide +kernel) ⟨Nat.le_of_ble_eq_true rfl, Nat.le_of_ble_eq_true rfl⟩) [0, 1, 2, 3, 4, 5, 6, 7, 8, 9, 10, 11, 12] [13, 14, 15, 16, 17, 18, 19, 20, 21, 22, 23, 24, 25, 26, 27, 28, 29, 30, 31, 32, 33, 34] rfl rfl rfl rfl rfl (by decide) 0 5 rfl rfl rfl hl.1 rfl (Nat.le_of_ble_eq_true rfl) dL_law_416 ⟨hc, hs⟩ (fun z' u' H locs hg hP hD hS => ?_)
  obtain ⟨t1, t2, t3⟩ := hT1 k u z' u' hk hg
  refine lv_istore (lv' := [(6, .int z'), (5, .int k), (0, .ref b0), (1, .ref (a 0)), (2, .ref (aM 0)), (3, .ref bo), (4, .int (nI i))]) hx hb dL_law_419 hl (by decide) rfl (fun ls hl => ?_)
  refine lv_aload_n hx hb dL_law_421 rfl (lv_at hl 4 rfl) ?_
  refine kcLM (wr := wO cI cL a bo u.1 u.2.1 u.2.2) (As := []) (rest := []) C0 hP hD hS (c_X5_thrown l D cI aM u'.1 u'.2) (cwV 0 hts gL_law_X5_thrown rfl rfl rfl (by decide +kernel) ⟨Nat.le_of_ble_eq_true rfl, Nat.le_of_ble_eq_true rfl⟩) [22, 23, 24, 25, 26, 27, 28, 29, 30, 31, 32, 33, 34] [0, 1, 2, 3, 4, 5, 6, 7, 8, 9, 10, 11, 12, 13, 14, 15, 16, 17, 18, 19, 20, 21] rfl rfl rfl rfl rfl (by decide) 0 5 rfl rfl rfl hl.1 rfl (Nat.le_of_ble_eq_true rfl) dL_law_422 ⟨hc, hs⟩ (fun z9 _ H locs hz9 hP hD hS => ?_)
  refine lv_iload hx hb dL_law_425 (lv_at hl 1 rfl) ?_
  refine lv_icmp_eq (tgt := 432) hx hb dL_law_427 (by decide) (fun c_1 => ?_) (fun c_1 => absurd (hz9.trans t1) c_1)
  have hP := hP.sub (ws' := wM cI aM u'.1 u'.2 ++ wO cI cL a bo u.1 u.2.1 u.2.2) [22, 23, 24, 25, 26, 27, 28, 29, 30, 31, 32, 33, 34, 0, 1, 2, 3, 4, 5, 6, 7, 8, 9, 10, 11, 12, 13, 14, 15, 16, 17, 18, 19, 20, 21] rfl
  have hD := hD.sub (ws' := wM cI aM u'.1 u'.2 ++ wO cI cL a bo u.1 u.2.1 u.2.2) [22, 23, 24, 25, 26, 27, 28, 29, 30, 31, 32, 33, 34, 0, 1, 2, 3, 4, 5, 6, 7, 8, 9, 10, 11, 12, 13, 14, 15, 16, 17, 18, 19, 20, 21] (by decide) rfl
  refine lv_iload hx hb dL_law_432 (lv_at hl 1 rfl) ?_
  refine lv_if_ne (tgt := 449) hx hb dL_law_434 (by decide) (fun c_2 => lv_goto (tgt := 920) hx hb dL_law_449 (by decide) (kk u.1 u.2.1 u'.1 u.2.2 u'.2 H locs ls t3 hP hD hS (lv_sub hl [2, 3, 4, 5, 6] rfl))) (fun c_2 => ?_)
  have c_2 : k = 0 := (by first | exact c_2 | exact Classical.not_not.mp c_2 | exact Decidable.not_not.mp c_2)
  refine lv_aload_n hx hb dL_law_437 rfl (lv_at hl 5 rfl) ?_
  refine lv_iconst (v := 0) hx hb dL_law_438 (by decide) ?_
  refine va_lald hx hb hK hP 13 1 rfl rfl (vp_in_nI (n := 0) (by decide) (by decide)) dL_law_439 ?_
  refine lv_iload hx hb dL_law_440 (lv_at hl 0 rfl) ?_
  refine lv_i2l hx hb dL_law_442 rfl ?_
  refine W.lcmp hx hb dL_law_443 ?_
  exact lv_if_eq (tgt := 449) hx hb dL_law_444 (by decide) (fun c_3 => lv_goto (tgt := 920) hx hb dL_law_449 (by decide) (kk u.1 u.2.1 u'.1 u.2.2 u'.2 H locs ls t3 hP hD hS (lv_sub hl [2, 3, 4, 5, 6] rfl))) (fun c_3 => absurd (by rw [← t2 c_2]; exact lcmp_self _) c_3)
set_option maxHeartbeats 4000000 in
set_option maxRecDepth 100000 in
theorem lc_matrix {p : Program} {l : Launch} {e : Env} {s : State} {m : MethodId} {args : Array Value} {below : List Frame} {meth : Method} {c : Code} {H : Heap} {locs : List Loc} {cells slots : Nat} {Q : State → Prop} {ls : Array Slot} {D : va_G} {cI cL : ClassId} {A : Nat → Prop} {a aM : Nat → Nat} {bo : Nat} {fo : Nat → Int64} {v w : Nat → Int32} {r q : Rw} (hst : l.stackTraces = false) (C0 : kEW p s m meth c args cL_law 7 ret RL wsL_law D cI cL A) {b0 L : Nat} {xs : Nat → Int32} (hX : va_X b0 L xs s s.heap) (hbl : b0 < s.heap.size) (hbA : ¬ A b0) (i : Nat) (hi : i + 5 ≤ L) (hL : L ≤ 240) (hI : INV v r w q)
    (hP : va_P D vwCl (wM cI aM w q ++ wO cI cL a bo fo v r) H) (hD : va_D A (wM cI aM w q ++ wO cI cL a bo fo v r)) (hS : va_S A s.heap H locs) (hl : lv_has ls 7 [(0, .ref b0), (1, .ref (a 0)), (2, .ref (aM 0)), (3, .ref bo), (4, .int (nI i))]) (hc : cells + 6 ≤ room_1.cells) (hs : slots + 36 ≤ room_1.slots)
    (kk : ∀ (fo' : Nat → Int64) (v' w' : Nat → Int32) (r' q' : Rw) (H' : Heap) (locs' : List Loc) (ls' : Array Slot), INV v' r' w' q' → va_P D vwCl (wM cI aM w' q' ++ wO cI cL a bo fo' v' r') H' → va_D A (wM cI aM w' q' ++ wO cI cL a bo fo' v' r') → va_S A s.heap H' locs' → lv_has ls' 7 [(0, .ref b0), (1, .ref (a 0)), (2, .ref (aM 0)), (3, .ref bo), (4, .int (nI i))] → W p l e room_1 s m args below meth c H' locs' (cells + 6) (slots + 36) Q (F0 m 920 ls' [])) :
    W p l e room_1 s m args below meth c H locs cells slots Q (F0 m 452 ls []) := by
  have hx := C0.1.1
  have hb := C0.1.2.1
  have hown : s.vm.findClass RL = some m.cls := C0.1.2.2.2.1
  have hts : ∀ w ∈ wsL_law, w.before args s = true := C0.1.2.2.2.2
  have hK := C0.2.2.2.1
  refine lv_aload_n hx hb dL_law_452 rfl (lv_at hl 1 rfl) ?_
  refine lv_aload_n hx hb dL_law_453 rfl (lv_at hl 0 rfl) ?_
  refine lv_iload hx hb dL_law_454 (lv_at hl 4 rfl) ?_
  refine lv_iconst (v := 1) hx hb dL_law_456 (by decide) ?_
  refine lv_iadd hx hb dL_law_457 ?_
  refine ld_s hx hb hX hbl hbA hS (i + 1) (by omega) hL (nI_p i 1) dL_law_458 ?_
  refine lv_aload_n hx hb dL_law_459 rfl (lv_at hl 0 rfl) ?_
  refine lv_iload hx hb dL_law_460 (lv_at hl 4 rfl) ?_
  refine lv_iconst (v := 2) hx hb dL_law_462 (by decide) ?_
  refine lv_iadd hx hb dL_law_463 ?_
  refine ld_s hx hb hX hbl hbA hS (i + 2) (by omega) hL (nI_p i 2) dL_law_464 ?_
  refine lv_aload_n hx hb dL_law_465 rfl (lv_at hl 3 rfl) ?_
  obtain ⟨PW, G, hW1, hM1, hT1⟩ := p_matrix (l := l) D cI cL a bo aM fo hst hI (xs (i + 1)) (xs (i + 2))
  refine kcLW (wr := wM cI aM w q) (As := [.ref (a 0), .int (xs (i + 1)), .int (xs (i + 2)), .ref bo]) (rest := []) C0 hP hD hS hW1 (vx_cwSW 4 hts gL_law_L_matrix rfl rfl rfl (by decide +kernel) ⟨Nat.le_of_ble_eq_true rfl, Nat.le_of_ble_eq_true rfl⟩) [13, 14, 15, 16, 17, 18, 19, 20, 21, 22, 23, 24, 25, 26, 27, 28, 29, 30, 31, 32, 33, 34] [0, 1, 2, 3, 4, 5, 6, 7, 8, 9, 10, 11, 12] rfl rfl rfl rfl rfl (by decide) rfl hl.1 rfl (Nat.le_of_ble_eq_true rfl) dL_law_466 ⟨Nat.le_trans (by omega) hc, Nat.le_trans (by omega) hs⟩ (fun k u H locs hk hP hD hS => ?_)
  refine W.widen (k := cells + 6) (n := slots + 36) (by omega) (by omega) ?_
  refine lv_istore (lv' := [(5, .int k), (0, .ref b0), (1, .ref (a 0)), (2, .ref (aM 0)), (3, .ref bo), (4, .int (nI i))]) hx hb dL_law_469 hl (by decide) rfl (fun ls hl => ?_)
  refine lv_aload_n hx hb dL_law_471 rfl (lv_at hl 3 rfl) ?_
  refine lv_aload_n hx hb dL_law_472 rfl (lv_at hl 1 rfl) ?_
  refine lv_iload hx hb dL_law_473 (lv_at hl 5 rfl) ?_
  refine lv_iconst (v := 1) hx hb dL_law_475 (by decide) ?_
  refine lv_iadd hx hb dL_law_476 ?_
  refine ld_s hx hb hX hbl hbA hS (i + 1) (by omega) hL (nI_p i 1) dL_law_477 ?_
  refine lv_aload_n hx hb dL_law_478 rfl (lv_at hl 1 rfl) ?_
  refine lv_iload hx hb dL_law_479 (lv_at hl 5 rfl) ?_
  refine lv_iconst (v := 2) hx hb dL_law_481 (by decide) ?_
  refine lv_iadd hx hb dL_law_482 ?_
  refine ld_s hx hb hX hbl hbA hS (i + 2) (by omega) hL (nI_p i 2) dL_law_483 ?_
  refine kcLM (wr := wO cI cL a bo u.1 u.2.1 u.2.2) (As := [.int (xs (i + 1)), .int (xs (i + 2))]) (rest := []) C0 hP hD hS hM1 (cwV 2 hts gL_law_X5_matrix rfl rfl rfl (by decide +kernel) ⟨Nat.le_of_ble_eq_true rfl, Nat.le_of_ble_eq_true rfl⟩) [0, 1, 2, 3, 4, 5, 6, 7, 8, 9, 10, 11, 12] [13, 14, 15, 16, 17, 18, 19, 20, 21, 22, 23, 24, 25, 26, 27, 28, 29, 30, 31, 32, 33, 34] rfl rfl rfl rfl rfl (by decide) 0 5 rfl rfl rfl hl.1 rfl (Nat.le_of_ble_eq_true rfl) dL_law_484 ⟨hc, hs⟩ (fun z' u' H locs hg hP hD hS => ?_)
  obtain ⟨t1, t2, t3⟩ := hT1 k u z' u' hk hg
  refine lv_istore (lv' := [(6, .int z'), (5, .int k), (0, .ref b0), (1, .ref (a 0)), (2, .ref (aM 0)), (3, .ref bo), (4, .int (nI i))]) hx hb dL_law_487 hl (by decide) rfl (fun ls hl => ?_)
  refine lv_aload_n hx hb dL_law_489 rfl (lv_at hl 4 rfl) ?_
  refine kcLM (wr := wO cI cL a bo u.1 u.2.1 u.2.2) (As := []) (rest := []) C0 hP hD hS (c_X5_thrown l D cI aM u'.1 u'.2) (cwV 0 hts gL_law_X5_thrown rfl rfl rfl (by decide +kernel) ⟨Nat.le_of_ble_eq_true rfl, Nat.le_of_ble_eq_true rfl⟩) [22, 23, 24, 25, 26, 27, 28, 29, 30, 31, 32, 33, 34] [0, 1, 2, 3, 4, 5, 6, 7, 8, 9, 10, 11, 12, 13, 14, 15, 16, 17, 18, 19, 20, 21] rfl rfl rfl rfl rfl (by decide) 0 5 rfl rfl rfl hl.1 rfl (Nat.le_of_ble_eq_true rfl) dL_law_490 ⟨hc, hs⟩ (fun z9 _ H locs hz9 hP hD hS => ?_)
  refine lv_iload hx hb dL_law_493 (lv_at hl 1 rfl) ?_
  refine lv_icmp_eq (tgt := 500) hx hb dL_law_495 (by decide) (fun c_1 => ?_) (fun c_1 => absurd (hz9.trans t1) c_1)
  have hP := hP.sub (ws' := wM cI aM u'.1 u'.2 ++ wO cI cL a bo u.1 u.2.1 u.2.2) [22, 23, 24, 25, 26, 27, 28, 29, 30, 31, 32, 33, 34, 0, 1, 2, 3, 4, 5, 6, 7, 8, 9, 10, 11, 12, 13, 14, 15, 16, 17, 18, 19, 20, 21] rfl
  have hD := hD.sub (ws' := wM cI aM u'.1 u'.2 ++ wO cI cL a bo u.1 u.2.1 u.2.2) [22, 23, 24, 25, 26, 27, 28, 29, 30, 31, 32, 33, 34, 0, 1, 2, 3, 4, 5, 6, 7, 8, 9, 10, 11, 12, 13, 14, 15, 16, 17, 18, 19, 20, 21] (by decide) rfl
  refine lv_iload hx hb dL_law_500 (lv_at hl 1 rfl) ?_
  refine lv_if_ne (tgt := 517) hx hb dL_law_502 (by decide) (fun c_2 => lv_goto (tgt := 920) hx hb dL_law_517 (by decide) (kk u.1 u.2.1 u'.1 u.2.2 u'.2 H locs ls t3 hP hD hS (lv_sub hl [2, 3, 4, 5, 6] rfl))) (fun c_2 => ?_)
  have c_2 : k = 0 := (by first | exact c_2 | exact Classical.not_not.mp c_2 | exact Decidable.not_not.mp c_2)
  refine lv_aload_n hx hb dL_law_505 rfl (lv_at hl 5 rfl) ?_
  refine lv_iconst (v := 0) hx hb dL_law_506 (by decide) ?_
  refine va_lald hx hb hK hP 13 1 rfl rfl (vp_in_nI (n := 0) (by decide) (by decide)) dL_law_507 ?_
  refine lv_iload hx hb dL_law_508 (lv_at hl 0 rfl) ?_
  refine lv_i2l hx hb dL_law_510 rfl ?_
  refine W.lcmp hx hb dL_law_511 ?_
  exact lv_if_eq (tgt := 517) hx hb dL_law_512 (by decide) (fun c_3 => lv_goto (tgt := 920) hx hb dL_law_517 (by decide) (kk u.1 u.2.1 u'.1 u.2.2 u'.2 H locs ls t3 hP hD hS (lv_sub hl [2, 3, 4, 5, 6] rfl))) (fun c_3 => absurd (by rw [← t2 c_2]; exact lcmp_self _) c_3)
set_option maxHeartbeats 4000000 in
set_option maxRecDepth 100000 in
theorem lc_style {p : Program} {l : Launch} {e : Env} {s : State} {m : MethodId} {args : Array Value} {below : List Frame} {meth : Method} {c : Code} {H : Heap} {locs : List Loc} {cells slots : Nat} {Q : State → Prop} {ls : Array Slot} {D : va_G} {cI cL : ClassId} {A : Nat → Prop} {a aM : Nat → Nat} {bo : Nat} {fo : Nat → Int64} {v w : Nat → Int32} {r q : Rw} (hst : l.stackTraces = false) (C0 : kEW p s m meth c args cL_law 7 ret RL wsL_law D cI cL A) {b0 L : Nat} {xs : Nat → Int32} (hX : va_X b0 L xs s s.heap) (hbl : b0 < s.heap.size) (hbA : ¬ A b0) (i : Nat) (hi : i + 5 ≤ L) (hL : L ≤ 240) (hI : INV v r w q)
    (hP : va_P D vwCl (wM cI aM w q ++ wO cI cL a bo fo v r) H) (hD : va_D A (wM cI aM w q ++ wO cI cL a bo fo v r)) (hS : va_S A s.heap H locs) (hl : lv_has ls 7 [(0, .ref b0), (1, .ref (a 0)), (2, .ref (aM 0)), (3, .ref bo), (4, .int (nI i))]) (hc : cells + 6 ≤ room_1.cells) (hs : slots + 36 ≤ room_1.slots)
    (kk : ∀ (fo' : Nat → Int64) (v' w' : Nat → Int32) (r' q' : Rw) (H' : Heap) (locs' : List Loc) (ls' : Array Slot), INV v' r' w' q' → va_P D vwCl (wM cI aM w' q' ++ wO cI cL a bo fo' v' r') H' → va_D A (wM cI aM w' q' ++ wO cI cL a bo fo' v' r') → va_S A s.heap H' locs' → lv_has ls' 7 [(0, .ref b0), (1, .ref (a 0)), (2, .ref (aM 0)), (3, .ref bo), (4, .int (nI i))] → W p l e room_1 s m args below meth c H' locs' (cells + 6) (slots + 36) Q (F0 m 920 ls' [])) :
    W p l e room_1 s m args below meth c H locs cells slots Q (F0 m 520 ls []) := by
  have hx := C0.1.1
  have hb := C0.1.2.1
  have hown : s.vm.findClass RL = some m.cls := C0.1.2.2.2.1
  have hts : ∀ w ∈ wsL_law, w.before args s = true := C0.1.2.2.2.2
  have hK := C0.2.2.2.1
  refine lv_aload_n hx hb dL_law_520 rfl (lv_at hl 1 rfl) ?_
  refine lv_aload_n hx hb dL_law_521 rfl (lv_at hl 0 rfl) ?_
  refine lv_iload hx hb dL_law_522 (lv_at hl 4 rfl) ?_
  refine lv_iconst (v := 1) hx hb dL_law_524 (by decide) ?_
  refine lv_iadd hx hb dL_law_525 ?_
  refine ld_s hx hb hX hbl hbA hS (i + 1) (by omega) hL (nI_p i 1) dL_law_526 ?_
  refine lv_aload_n hx hb dL_law_527 rfl (lv_at hl 0 rfl) ?_
  refine lv_iload hx hb dL_law_528 (lv_at hl 4 rfl) ?_
  refine lv_iconst (v := 2) hx hb dL_law_530 (by decide) ?_
  refine lv_iadd hx hb dL_law_531 ?_
  refine ld_s hx hb hX hbl hbA hS (i + 2) (by omega) hL (nI_p i 2) dL_law_532 ?_
  refine bzT hx hb dL_law_533 dL_law_536 dL_law_537 dL_law_540 ?_
  refine lv_aload_n hx hb dL_law_541 rfl (lv_at hl 3 rfl) ?_
  obtain ⟨PW, G, hW1, hM1, hT1⟩ := p_style (l := l) D cI cL a bo aM fo hst hI (xs (i + 1)) (if xs (i + 2) = 0 then 0 else 1)
  refine kcLW (wr := wM cI aM w q) (As := [.ref (a 0), .int (xs (i + 1)), .int (if xs (i + 2) = 0 then 0 else 1), .ref bo]) (rest := []) C0 hP hD hS hW1 (vx_cwSW 4 hts gL_law_L_style rfl rfl rfl (by decide +kernel) ⟨Nat.le_of_ble_eq_true rfl, Nat.le_of_ble_eq_true rfl⟩) [13, 14, 15, 16, 17, 18, 19, 20, 21, 22, 23, 24, 25, 26, 27, 28, 29, 30, 31, 32, 33, 34] [0, 1, 2, 3, 4, 5, 6, 7, 8, 9, 10, 11, 12] rfl rfl rfl rfl rfl (by decide) rfl hl.1 rfl (Nat.le_of_ble_eq_true rfl) dL_law_542 ⟨Nat.le_trans (by omega) hc, Nat.le_trans (by omega) hs⟩ (fun k u H locs hk hP hD hS => ?_)
  refine W.widen (k := cells + 6) (n := slots + 36) (by omega) (by omega) ?_
  refine lv_istore (lv' := [(5, .int k), (0, .ref b0), (1, .ref (a 0)), (2, .ref (aM 0)), (3, .ref bo), (4, .int (nI i))]) hx hb dL_law_545 hl (by decide) rfl (fun ls hl => ?_)
  refine lv_aload_n hx hb dL_law_547 rfl (lv_at hl 3 rfl) ?_
  refine lv_aload_n hx hb dL_law_548 rfl (lv_at hl 1 rfl) ?_
  refine lv_iload hx hb dL_law_549 (lv_at hl 5 rfl) ?_
  refine lv_iconst (v := 1) hx hb dL_law_551 (by decide) ?_
  refine lv_iadd hx hb dL_law_552 ?_
  refine ld_s hx hb hX hbl hbA hS (i + 1) (by omega) hL (nI_p i 1) dL_law_553 ?_
  refine lv_aload_n hx hb dL_law_554 rfl (lv_at hl 1 rfl) ?_
  refine lv_iload hx hb dL_law_555 (lv_at hl 5 rfl) ?_
  refine lv_iconst (v := 2) hx hb dL_law_557 (by decide) ?_
  refine lv_iadd hx hb dL_law_558 ?_
  refine ld_s hx hb hX hbl hbA hS (i + 2) (by omega) hL (nI_p i 2) dL_law_559 ?_
  refine bzT hx hb dL_law_560 dL_law_563 dL_law_564 dL_law_567 ?_
  refine kcLM (wr := wO cI cL a bo u.1 u.2.1 u.2.2) (As := [.int (xs (i + 1)), .int (if xs (i + 2) = 0 then 0 else 1)]) (rest := []) C0 hP hD hS hM1 (cwV 2 hts gL_law_X5_style rfl rfl rfl (by decide +kernel) ⟨Nat.le_of_ble_eq_true rfl, Nat.le_of_ble_eq_true rfl⟩) [0, 1, 2, 3, 4, 5, 6, 7, 8, 9, 10, 11, 12] [13, 14, 15, 16, 17, 18, 19, 20, 21, 22, 23, 24, 25, 26, 27, 28, 29, 30, 31, 32, 33, 34] rfl rfl rfl rfl rfl (by decide) 0 5 rfl rfl rfl hl.1 rfl (Nat.le_of_ble_eq_true rfl) dL_law_568 ⟨hc, hs⟩ (fun z' u' H locs hg hP hD hS => ?_)
  obtain ⟨t1, t2, t3⟩ := hT1 k u z' u' hk hg
  refine lv_istore (lv' := [(6, .int z'), (5, .int k), (0, .ref b0), (1, .ref (a 0)), (2, .ref (aM 0)), (3, .ref bo), (4, .int (nI i))]) hx hb dL_law_571 hl (by decide) rfl (fun ls hl => ?_)
  refine lv_aload_n hx hb dL_law_573 rfl (lv_at hl 4 rfl) ?_
  refine kcLM (wr := wO cI cL a bo u.1 u.2.1 u.2.2) (As := []) (rest := []) C0 hP hD hS (c_X5_thrown l D cI aM u'.1 u'.2) (cwV 0 hts gL_law_X5_thrown rfl rfl rfl (by decide +kernel) ⟨Nat.le_of_ble_eq_true rfl, Nat.le_of_ble_eq_true rfl⟩) [22, 23, 24, 25, 26, 27, 28, 29, 30, 31, 32, 33, 34] [0, 1, 2, 3, 4, 5, 6, 7, 8, 9, 10, 11, 12, 13, 14, 15, 16, 17, 18, 19, 20, 21] rfl rfl rfl rfl rfl (by decide) 0 5 rfl rfl rfl hl.1 rfl (Nat.le_of_ble_eq_true rfl) dL_law_574 ⟨hc, hs⟩ (fun z9 _ H locs hz9 hP hD hS => ?_)
  refine lv_iload hx hb dL_law_577 (lv_at hl 1 rfl) ?_
  refine lv_icmp_eq (tgt := 584) hx hb dL_law_579 (by decide) (fun c_1 => ?_) (fun c_1 => absurd (hz9.trans t1) c_1)
  have hP := hP.sub (ws' := wM cI aM u'.1 u'.2 ++ wO cI cL a bo u.1 u.2.1 u.2.2) [22, 23, 24, 25, 26, 27, 28, 29, 30, 31, 32, 33, 34, 0, 1, 2, 3, 4, 5, 6, 7, 8, 9, 10, 11, 12, 13, 14, 15, 16, 17, 18, 19, 20, 21] rfl
  have hD := hD.sub (ws' := wM cI aM u'.1 u'.2 ++ wO cI cL a bo u.1 u.2.1 u.2.2) [22, 23, 24, 25, 26, 27, 28, 29, 30, 31, 32, 33, 34, 0, 1, 2, 3, 4, 5, 6, 7, 8, 9, 10, 11, 12, 13, 14, 15, 16, 17, 18, 19, 20, 21] (by decide) rfl
  refine lv_iload hx hb dL_law_584 (lv_at hl 1 rfl) ?_
  refine lv_if_ne (tgt := 601) hx hb dL_law_586 (by decide) (fun c_2 => lv_goto (tgt := 920) hx hb dL_law_601 (by decide) (kk u.1 u.2.1 u'.1 u.2.2 u'.2 H locs ls t3 hP hD hS (lv_sub hl [2, 3, 4, 5, 6] rfl))) (fun c_2 => ?_)
  have c_2 : k = 0 := (by first | exact c_2 | exact Classical.not_not.mp c_2 | exact Decidable.not_not.mp c_2)
  refine lv_aload_n hx hb dL_law_589 rfl (lv_at hl 5 rfl) ?_
  refine lv_iconst (v := 0) hx hb dL_law_590 (by decide) ?_
  refine va_lald hx hb hK hP 13 1 rfl rfl (vp_in_nI (n := 0) (by decide) (by decide)) dL_law_591 ?_
  refine lv_iload hx hb dL_law_592 (lv_at hl 0 rfl) ?_
  refine lv_i2l hx hb dL_law_594 rfl ?_
  refine W.lcmp hx hb dL_law_595 ?_
  exact lv_if_eq (tgt := 601) hx hb dL_law_596 (by decide) (fun c_3 => lv_goto (tgt := 920) hx hb dL_law_601 (by decide) (kk u.1 u.2.1 u'.1 u.2.2 u'.2 H locs ls t3 hP hD hS (lv_sub hl [2, 3, 4, 5, 6] rfl))) (fun c_3 => absurd (by rw [← t2 c_2]; exact lcmp_self _) c_3)
set_option maxHeartbeats 4000000 in
set_option maxRecDepth 100000 in
theorem lc_run {p : Program} {l : Launch} {e : Env} {s : State} {m : MethodId} {args : Array Value} {below : List Frame} {meth : Method} {c : Code} {H : Heap} {locs : List Loc} {cells slots : Nat} {Q : State → Prop} {ls : Array Slot} {D : va_G} {cI cL : ClassId} {A : Nat → Prop} {a aM : Nat → Nat} {bo : Nat} {fo : Nat → Int64} {v w : Nat → Int32} {r q : Rw} (hst : l.stackTraces = false) (C0 : kEW p s m meth c args cL_law 7 ret RL wsL_law D cI cL A) {b0 L : Nat} {xs : Nat → Int32} (hX : va_X b0 L xs s s.heap) (hbl : b0 < s.heap.size) (hbA : ¬ A b0) (i : Nat) (hi : i + 5 ≤ L) (hL : L ≤ 240) (hI : INV v r w q)
    (hP : va_P D vwCl (wM cI aM w q ++ wO cI cL a bo fo v r) H) (hD : va_D A (wM cI aM w q ++ wO cI cL a bo fo v r)) (hS : va_S A s.heap H locs) (hl : lv_has ls 7 [(0, .ref b0), (1, .ref (a 0)), (2, .ref (aM 0)), (3, .ref bo), (4, .int (nI i))]) (hc : cells + 6 ≤ room_1.cells) (hs : slots + 36 ≤ room_1.slots)
    (kk : ∀ (fo' : Nat → Int64) (v' w' : Nat → Int32) (r' q' : Rw) (H' : Heap) (locs' : List Loc) (ls' : Array Slot), INV v' r' w' q' → va_P D vwCl (wM cI aM w' q' ++ wO cI cL a bo fo' v' r') H' → va_D A (wM cI aM w' q' ++ wO cI cL a bo fo' v' r') → va_S A s.heap H' locs' → lv_has ls' 7 [(0, .ref b0), (1, .ref (a 0)), (2, .ref (aM 0)), (3, .ref bo), (4, .int (nI i))] → W p l e room_1 s m args below meth c H' locs' (cells + 6) (slots + 36) Q (F0 m 920 ls' [])) :
    W p l e room_1 s m args below meth c H locs cells slots Q (F0 m 604 ls []) := by
  have hx := C0.1.1
  have hb := C0.1.2.1
  have hown : s.vm.findClass RL = some m.cls := C0.1.2.2.2.1
  have hts : ∀ w ∈ wsL_law, w.before args s = true := C0.1.2.2.2.2
  have hK := C0.2.2.2.1
  refine lv_aload_n hx hb dL_law_604 rfl (lv_at hl 1 rfl) ?_
  refine lv_aload_n hx hb dL_law_605 rfl (lv_at hl 0 rfl) ?_
  refine lv_iload hx hb dL_law_606 (lv_at hl 4 rfl) ?_
  refine lv_iconst (v := 1) hx hb dL_law_608 (by decide) ?_
  refine lv_iadd hx hb dL_law_609 ?_
  refine ld_s hx hb hX hbl hbA hS (i + 1) (by omega) hL (nI_p i 1) dL_law_610 ?_
  refine lv_aload_n hx hb dL_law_611 rfl (lv_at hl 3 rfl) ?_
  obtain ⟨PW, G, hW1, hM1, hT1⟩ := p_run (l := l) D cI cL a bo aM fo hst hI (xs (i + 1))
  refine kcLW (wr := wM cI aM w q) (As := [.ref (a 0), .int (xs (i + 1)), .ref bo]) (rest := []) C0 hP hD hS hW1 (vx_cwSW 3 hts gL_law_L_run rfl rfl rfl (by decide +kernel) ⟨Nat.le_of_ble_eq_true rfl, Nat.le_of_ble_eq_true rfl⟩) [13, 14, 15, 16, 17, 18, 19, 20, 21, 22, 23, 24, 25, 26, 27, 28, 29, 30, 31, 32, 33, 34] [0, 1, 2, 3, 4, 5, 6, 7, 8, 9, 10, 11, 12] rfl rfl rfl rfl rfl (by decide) rfl hl.1 rfl (Nat.le_of_ble_eq_true rfl) dL_law_612 ⟨Nat.le_trans (by omega) hc, Nat.le_trans (by omega) hs⟩ (fun k u H locs hk hP hD hS => ?_)
  refine W.widen (k := cells + 6) (n := slots + 36) (by omega) (by omega) ?_
  refine lv_istore (lv' := [(5, .int k), (0, .ref b0), (1, .ref (a 0)), (2, .ref (aM 0)), (3, .ref bo), (4, .int (nI i))]) hx hb dL_law_615 hl (by decide) rfl (fun ls hl => ?_)
  refine lv_aload_n hx hb dL_law_617 rfl (lv_at hl 3 rfl) ?_
  refine lv_aload_n hx hb dL_law_618 rfl (lv_at hl 1 rfl) ?_
  refine lv_iload hx hb dL_law_619 (lv_at hl 5 rfl) ?_
  refine lv_iconst (v := 1) hx hb dL_law_621 (by decide) ?_
  refine lv_iadd hx hb dL_law_622 ?_
  refine ld_s hx hb hX hbl hbA hS (i + 1) (by omega) hL (nI_p i 1) dL_law_623 ?_
  refine kcLM (wr := wO cI cL a bo u.1 u.2.1 u.2.2) (As := [.int (xs (i + 1))]) (rest := []) C0 hP hD hS hM1 (cwV 1 hts gL_law_X5_run rfl rfl rfl (by decide +kernel) ⟨Nat.le_of_ble_eq_true rfl, Nat.le_of_ble_eq_true rfl⟩) [0, 1, 2, 3, 4, 5, 6, 7, 8, 9, 10, 11, 12] [13, 14, 15, 16, 17, 18, 19, 20, 21, 22, 23, 24, 25, 26, 27, 28, 29, 30, 31, 32, 33, 34] rfl rfl rfl rfl rfl (by decide) 0 5 rfl rfl rfl hl.1 rfl (Nat.le_of_ble_eq_true rfl) dL_law_624 ⟨hc, hs⟩ (fun z' u' H locs hg hP hD hS => ?_)
  obtain ⟨t1, t2, t3⟩ := hT1 k u z' u' hk hg
  refine lv_istore (lv' := [(6, .int z'), (5, .int k), (0, .ref b0), (1, .ref (a 0)), (2, .ref (aM 0)), (3, .ref bo), (4, .int (nI i))]) hx hb dL_law_627 hl (by decide) rfl (fun ls hl => ?_)
  refine lv_aload_n hx hb dL_law_629 rfl (lv_at hl 4 rfl) ?_
  refine kcLM (wr := wO cI cL a bo u.1 u.2.1 u.2.2) (As := []) (rest := []) C0 hP hD hS (c_X5_thrown l D cI aM u'.1 u'.2) (cwV 0 hts gL_law_X5_thrown rfl rfl rfl (by decide +kernel) ⟨Nat.le_of_ble_eq_true rfl, Nat.le_of_ble_eq_true rfl⟩) [22, 23, 24, 25, 26, 27, 28, 29, 30, 31, 32, 33, 34] [0, 1, 2, 3, 4, 5, 6, 7, 8, 9, 10, 11, 12, 13, 14, 15, 16, 17, 18, 19, 20, 21] rfl rfl rfl rfl rfl (by decide) 0 5 rfl rfl rfl hl.1 rfl (Nat.le_of_ble_eq_true rfl) dL_law_630 ⟨hc, hs⟩ (fun z9 _ H locs hz9 hP hD hS => ?_)
  refine lv_iload hx hb dL_law_633 (lv_at hl 1 rfl) ?_
  refine lv_icmp_eq (tgt := 640) hx hb dL_law_635 (by decide) (fun c_1 => ?_) (fun c_1 => absurd (hz9.trans t1) c_1)
  have hP := hP.sub (ws' := wM cI aM u'.1 u'.2 ++ wO cI cL a bo u.1 u.2.1 u.2.2) [22, 23, 24, 25, 26, 27, 28, 29, 30, 31, 32, 33, 34, 0, 1, 2, 3, 4, 5, 6, 7, 8, 9, 10, 11, 12, 13, 14, 15, 16, 17, 18, 19, 20, 21] rfl
  have hD := hD.sub (ws' := wM cI aM u'.1 u'.2 ++ wO cI cL a bo u.1 u.2.1 u.2.2) [22, 23, 24, 25, 26, 27, 28, 29, 30, 31, 32, 33, 34, 0, 1, 2, 3, 4, 5, 6, 7, 8, 9, 10, 11, 12, 13, 14, 15, 16, 17, 18, 19, 20, 21] (by decide) rfl
  refine lv_iload hx hb dL_law_640 (lv_at hl 1 rfl) ?_
  refine lv_if_ne (tgt := 657) hx hb dL_law_642 (by decide) (fun c_2 => lv_goto (tgt := 920) hx hb dL_law_657 (by decide) (kk u.1 u.2.1 u'.1 u.2.2 u'.2 H locs ls t3 hP hD hS (lv_sub hl [2, 3, 4, 5, 6] rfl))) (fun c_2 => ?_)
  have c_2 : k = 0 := (by first | exact c_2 | exact Classical.not_not.mp c_2 | exact Decidable.not_not.mp c_2)
  refine lv_aload_n hx hb dL_law_645 rfl (lv_at hl 5 rfl) ?_
  refine lv_iconst (v := 0) hx hb dL_law_646 (by decide) ?_
  refine va_lald hx hb hK hP 13 1 rfl rfl (vp_in_nI (n := 0) (by decide) (by decide)) dL_law_647 ?_
  refine lv_iload hx hb dL_law_648 (lv_at hl 0 rfl) ?_
  refine lv_i2l hx hb dL_law_650 rfl ?_
  refine W.lcmp hx hb dL_law_651 ?_
  exact lv_if_eq (tgt := 657) hx hb dL_law_652 (by decide) (fun c_3 => lv_goto (tgt := 920) hx hb dL_law_657 (by decide) (kk u.1 u.2.1 u'.1 u.2.2 u'.2 H locs ls t3 hP hD hS (lv_sub hl [2, 3, 4, 5, 6] rfl))) (fun c_3 => absurd (by rw [← t2 c_2]; exact lcmp_self _) c_3)
set_option maxHeartbeats 4000000 in
set_option maxRecDepth 100000 in
theorem lc_item {p : Program} {l : Launch} {e : Env} {s : State} {m : MethodId} {args : Array Value} {below : List Frame} {meth : Method} {c : Code} {H : Heap} {locs : List Loc} {cells slots : Nat} {Q : State → Prop} {ls : Array Slot} {D : va_G} {cI cL : ClassId} {A : Nat → Prop} {a aM : Nat → Nat} {bo : Nat} {fo : Nat → Int64} {v w : Nat → Int32} {r q : Rw} (hst : l.stackTraces = false) (C0 : kEW p s m meth c args cL_law 7 ret RL wsL_law D cI cL A) {b0 L : Nat} {xs : Nat → Int32} (hX : va_X b0 L xs s s.heap) (hbl : b0 < s.heap.size) (hbA : ¬ A b0) (i : Nat) (hi : i + 5 ≤ L) (hL : L ≤ 240) (hI : INV v r w q)
    (hP : va_P D vwCl (wM cI aM w q ++ wO cI cL a bo fo v r) H) (hD : va_D A (wM cI aM w q ++ wO cI cL a bo fo v r)) (hS : va_S A s.heap H locs) (hl : lv_has ls 7 [(0, .ref b0), (1, .ref (a 0)), (2, .ref (aM 0)), (3, .ref bo), (4, .int (nI i))]) (hc : cells + 6 ≤ room_1.cells) (hs : slots + 36 ≤ room_1.slots)
    (kk : ∀ (fo' : Nat → Int64) (v' w' : Nat → Int32) (r' q' : Rw) (H' : Heap) (locs' : List Loc) (ls' : Array Slot), INV v' r' w' q' → va_P D vwCl (wM cI aM w' q' ++ wO cI cL a bo fo' v' r') H' → va_D A (wM cI aM w' q' ++ wO cI cL a bo fo' v' r') → va_S A s.heap H' locs' → lv_has ls' 7 [(0, .ref b0), (1, .ref (a 0)), (2, .ref (aM 0)), (3, .ref bo), (4, .int (nI i))] → W p l e room_1 s m args below meth c H' locs' (cells + 6) (slots + 36) Q (F0 m 920 ls' [])) :
    W p l e room_1 s m args below meth c H locs cells slots Q (F0 m 660 ls []) := by
  have hx := C0.1.1
  have hb := C0.1.2.1
  have hown : s.vm.findClass RL = some m.cls := C0.1.2.2.2.1
  have hts : ∀ w ∈ wsL_law, w.before args s = true := C0.1.2.2.2.2
  have hK := C0.2.2.2.1
  refine lv_aload_n hx hb dL_law_660 rfl (lv_at hl 1 rfl) ?_
  refine lv_aload_n hx hb dL_law_661 rfl (lv_at hl 0 rfl) ?_
  refine lv_iload hx hb dL_law_662 (lv_at hl 4 rfl) ?_
  refine lv_iconst (v := 1) hx hb dL_law_664 (by decide) ?_
  refine lv_iadd hx hb dL_law_665 ?_
  refine ld_s hx hb hX hbl hbA hS (i + 1) (by omega) hL (nI_p i 1) dL_law_666 ?_
  refine lv_aload_n hx hb dL_law_667 rfl (lv_at hl 0 rfl) ?_
  refine lv_iload hx hb dL_law_668 (lv_at hl 4 rfl) ?_
  refine lv_iconst (v := 2) hx hb dL_law_670 (by decide) ?_
  refine lv_iadd hx hb dL_law_671 ?_
  refine ld_s hx hb hX hbl hbA hS (i + 2) (by omega) hL (nI_p i 2) dL_law_672 ?_
  refine lv_aload_n hx hb dL_law_673 rfl (lv_at hl 3 rfl) ?_
  obtain ⟨PW, G, hW1, hM1, hT1⟩ := p_item (l := l) D cI cL a bo aM fo hst hI (xs (i + 1)) (xs (i + 2))
  refine kcLW (wr := wM cI aM w q) (As := [.ref (a 0), .int (xs (i + 1)), .int (xs (i + 2)), .ref bo]) (rest := []) C0 hP hD hS hW1 (vx_cwSW 4 hts gL_law_L_item rfl rfl rfl (by decide +kernel) ⟨Nat.le_of_ble_eq_true rfl, Nat.le_of_ble_eq_true rfl⟩) [13, 14, 15, 16, 17, 18, 19, 20, 21, 22, 23, 24, 25, 26, 27, 28, 29, 30, 31, 32, 33, 34] [0, 1, 2, 3, 4, 5, 6, 7, 8, 9, 10, 11, 12] rfl rfl rfl rfl rfl (by decide) rfl hl.1 rfl (Nat.le_of_ble_eq_true rfl) dL_law_674 ⟨Nat.le_trans (by omega) hc, Nat.le_trans (by omega) hs⟩ (fun k u H locs hk hP hD hS => ?_)
  refine W.widen (k := cells + 6) (n := slots + 36) (by omega) (by omega) ?_
  refine lv_istore (lv' := [(5, .int k), (0, .ref b0), (1, .ref (a 0)), (2, .ref (aM 0)), (3, .ref bo), (4, .int (nI i))]) hx hb dL_law_677 hl (by decide) rfl (fun ls hl => ?_)
  refine lv_aload_n hx hb dL_law_679 rfl (lv_at hl 3 rfl) ?_
  refine lv_aload_n hx hb dL_law_680 rfl (lv_at hl 1 rfl) ?_
  refine lv_iload hx hb dL_law_681 (lv_at hl 5 rfl) ?_
  refine lv_iconst (v := 1) hx hb dL_law_683 (by decide) ?_
  refine lv_iadd hx hb dL_law_684 ?_
  refine ld_s hx hb hX hbl hbA hS (i + 1) (by omega) hL (nI_p i 1) dL_law_685 ?_
  refine lv_aload_n hx hb dL_law_686 rfl (lv_at hl 1 rfl) ?_
  refine lv_iload hx hb dL_law_687 (lv_at hl 5 rfl) ?_
  refine lv_iconst (v := 2) hx hb dL_law_689 (by decide) ?_
  refine lv_iadd hx hb dL_law_690 ?_
  refine ld_s hx hb hX hbl hbA hS (i + 2) (by omega) hL (nI_p i 2) dL_law_691 ?_
  refine kcLM (wr := wO cI cL a bo u.1 u.2.1 u.2.2) (As := [.int (xs (i + 1)), .int (xs (i + 2))]) (rest := []) C0 hP hD hS hM1 (cwV 2 hts gL_law_X5_item rfl rfl rfl (by decide +kernel) ⟨Nat.le_of_ble_eq_true rfl, Nat.le_of_ble_eq_true rfl⟩) [0, 1, 2, 3, 4, 5, 6, 7, 8, 9, 10, 11, 12] [13, 14, 15, 16, 17, 18, 19, 20, 21, 22, 23, 24, 25, 26, 27, 28, 29, 30, 31, 32, 33, 34] rfl rfl rfl rfl rfl (by decide) 0 5 rfl rfl rfl hl.1 rfl (Nat.le_of_ble_eq_true rfl) dL_law_692 ⟨hc, hs⟩ (fun z' u' H locs hg hP hD hS => ?_)
  obtain ⟨t1, t2, t3⟩ := hT1 k u z' u' hk hg
  refine lv_istore (lv' := [(6, .int z'), (5, .int k), (0, .ref b0), (1, .ref (a 0)), (2, .ref (aM 0)), (3, .ref bo), (4, .int (nI i))]) hx hb dL_law_695 hl (by decide) rfl (fun ls hl => ?_)
  refine lv_aload_n hx hb dL_law_697 rfl (lv_at hl 4 rfl) ?_
  refine kcLM (wr := wO cI cL a bo u.1 u.2.1 u.2.2) (As := []) (rest := []) C0 hP hD hS (c_X5_thrown l D cI aM u'.1 u'.2) (cwV 0 hts gL_law_X5_thrown rfl rfl rfl (by decide +kernel) ⟨Nat.le_of_ble_eq_true rfl, Nat.le_of_ble_eq_true rfl⟩) [22, 23, 24, 25, 26, 27, 28, 29, 30, 31, 32, 33, 34] [0, 1, 2, 3, 4, 5, 6, 7, 8, 9, 10, 11, 12, 13, 14, 15, 16, 17, 18, 19, 20, 21] rfl rfl rfl rfl rfl (by decide) 0 5 rfl rfl rfl hl.1 rfl (Nat.le_of_ble_eq_true rfl) dL_law_698 ⟨hc, hs⟩ (fun z9 _ H locs hz9 hP hD hS => ?_)
  refine lv_iload hx hb dL_law_701 (lv_at hl 1 rfl) ?_
  refine lv_icmp_eq (tgt := 708) hx hb dL_law_703 (by decide) (fun c_1 => ?_) (fun c_1 => absurd (hz9.trans t1) c_1)
  have hP := hP.sub (ws' := wM cI aM u'.1 u'.2 ++ wO cI cL a bo u.1 u.2.1 u.2.2) [22, 23, 24, 25, 26, 27, 28, 29, 30, 31, 32, 33, 34, 0, 1, 2, 3, 4, 5, 6, 7, 8, 9, 10, 11, 12, 13, 14, 15, 16, 17, 18, 19, 20, 21] rfl
  have hD := hD.sub (ws' := wM cI aM u'.1 u'.2 ++ wO cI cL a bo u.1 u.2.1 u.2.2) [22, 23, 24, 25, 26, 27, 28, 29, 30, 31, 32, 33, 34, 0, 1, 2, 3, 4, 5, 6, 7, 8, 9, 10, 11, 12, 13, 14, 15, 16, 17, 18, 19, 20, 21] (by decide) rfl
  refine lv_iload hx hb dL_law_708 (lv_at hl 1 rfl) ?_
  refine lv_if_ne (tgt := 725) hx hb dL_law_710 (by decide) (fun c_2 => lv_goto (tgt := 920) hx hb dL_law_725 (by decide) (kk u.1 u.2.1 u'.1 u.2.2 u'.2 H locs ls t3 hP hD hS (lv_sub hl [2, 3, 4, 5, 6] rfl))) (fun c_2 => ?_)
  have c_2 : k = 0 := (by first | exact c_2 | exact Classical.not_not.mp c_2 | exact Decidable.not_not.mp c_2)
  refine lv_aload_n hx hb dL_law_713 rfl (lv_at hl 5 rfl) ?_
  refine lv_iconst (v := 0) hx hb dL_law_714 (by decide) ?_
  refine va_lald hx hb hK hP 13 1 rfl rfl (vp_in_nI (n := 0) (by decide) (by decide)) dL_law_715 ?_
  refine lv_iload hx hb dL_law_716 (lv_at hl 0 rfl) ?_
  refine lv_i2l hx hb dL_law_718 rfl ?_
  refine W.lcmp hx hb dL_law_719 ?_
  exact lv_if_eq (tgt := 725) hx hb dL_law_720 (by decide) (fun c_3 => lv_goto (tgt := 920) hx hb dL_law_725 (by decide) (kk u.1 u.2.1 u'.1 u.2.2 u'.2 H locs ls t3 hP hD hS (lv_sub hl [2, 3, 4, 5, 6] rfl))) (fun c_3 => absurd (by rw [← t2 c_2]; exact lcmp_self _) c_3)
set_option maxHeartbeats 4000000 in
set_option maxRecDepth 100000 in
theorem lc_space {p : Program} {l : Launch} {e : Env} {s : State} {m : MethodId} {args : Array Value} {below : List Frame} {meth : Method} {c : Code} {H : Heap} {locs : List Loc} {cells slots : Nat} {Q : State → Prop} {ls : Array Slot} {D : va_G} {cI cL : ClassId} {A : Nat → Prop} {a aM : Nat → Nat} {bo : Nat} {fo : Nat → Int64} {v w : Nat → Int32} {r q : Rw} (hst : l.stackTraces = false) (C0 : kEW p s m meth c args cL_law 7 ret RL wsL_law D cI cL A) {b0 L : Nat} {xs : Nat → Int32} (hX : va_X b0 L xs s s.heap) (hbl : b0 < s.heap.size) (hbA : ¬ A b0) (i : Nat) (hi : i + 5 ≤ L) (hL : L ≤ 240) (hI : INV v r w q)
    (hP : va_P D vwCl (wM cI aM w q ++ wO cI cL a bo fo v r) H) (hD : va_D A (wM cI aM w q ++ wO cI cL a bo fo v r)) (hS : va_S A s.heap H locs) (hl : lv_has ls 7 [(0, .ref b0), (1, .ref (a 0)), (2, .ref (aM 0)), (3, .ref bo), (4, .int (nI i))]) (hc : cells + 6 ≤ room_1.cells) (hs : slots + 36 ≤ room_1.slots)
    (kk : ∀ (fo' : Nat → Int64) (v' w' : Nat → Int32) (r' q' : Rw) (H' : Heap) (locs' : List Loc) (ls' : Array Slot), INV v' r' w' q' → va_P D vwCl (wM cI aM w' q' ++ wO cI cL a bo fo' v' r') H' → va_D A (wM cI aM w' q' ++ wO cI cL a bo fo' v' r') → va_S A s.heap H' locs' → lv_has ls' 7 [(0, .ref b0), (1, .ref (a 0)), (2, .ref (aM 0)), (3, .ref bo), (4, .int (nI i))] → W p l e room_1 s m args below meth c H' locs' (cells + 6) (slots + 36) Q (F0 m 920 ls' [])) :
    W p l e room_1 s m args below meth c H locs cells slots Q (F0 m 728 ls []) := by
  have hx := C0.1.1
  have hb := C0.1.2.1
  have hown : s.vm.findClass RL = some m.cls := C0.1.2.2.2.1
  have hts : ∀ w ∈ wsL_law, w.before args s = true := C0.1.2.2.2.2
  have hK := C0.2.2.2.1
  refine lv_aload_n hx hb dL_law_728 rfl (lv_at hl 1 rfl) ?_
  refine lv_aload_n hx hb dL_law_729 rfl (lv_at hl 0 rfl) ?_
  refine lv_iload hx hb dL_law_730 (lv_at hl 4 rfl) ?_
  refine lv_iconst (v := 1) hx hb dL_law_732 (by decide) ?_
  refine lv_iadd hx hb dL_law_733 ?_
  refine ld_s hx hb hX hbl hbA hS (i + 1) (by omega) hL (nI_p i 1) dL_law_734 ?_
  refine lv_aload_n hx hb dL_law_735 rfl (lv_at hl 0 rfl) ?_
  refine lv_iload hx hb dL_law_736 (lv_at hl 4 rfl) ?_
  refine lv_iconst (v := 2) hx hb dL_law_738 (by decide) ?_
  refine lv_iadd hx hb dL_law_739 ?_
  refine ld_s hx hb hX hbl hbA hS (i + 2) (by omega) hL (nI_p i 2) dL_law_740 ?_
  refine lv_aload_n hx hb dL_law_741 rfl (lv_at hl 3 rfl) ?_
  obtain ⟨PW, G, hW1, hM1, hT1⟩ := p_space (l := l) D cI cL a bo aM fo hst hI (xs (i + 1)) (xs (i + 2))
  refine kcLW (wr := wM cI aM w q) (As := [.ref (a 0), .int (xs (i + 1)), .int (xs (i + 2)), .ref bo]) (rest := []) C0 hP hD hS hW1 (vx_cwSW 4 hts gL_law_L_space rfl rfl rfl (by decide +kernel) ⟨Nat.le_of_ble_eq_true rfl, Nat.le_of_ble_eq_true rfl⟩) [13, 14, 15, 16, 17, 18, 19, 20, 21, 22, 23, 24, 25, 26, 27, 28, 29, 30, 31, 32, 33, 34] [0, 1, 2, 3, 4, 5, 6, 7, 8, 9, 10, 11, 12] rfl rfl rfl rfl rfl (by decide) rfl hl.1 rfl (Nat.le_of_ble_eq_true rfl) dL_law_742 ⟨Nat.le_trans (by omega) hc, Nat.le_trans (by omega) hs⟩ (fun k u H locs hk hP hD hS => ?_)
  refine W.widen (k := cells + 6) (n := slots + 36) (by omega) (by omega) ?_
  refine lv_istore (lv' := [(5, .int k), (0, .ref b0), (1, .ref (a 0)), (2, .ref (aM 0)), (3, .ref bo), (4, .int (nI i))]) hx hb dL_law_745 hl (by decide) rfl (fun ls hl => ?_)
  refine lv_aload_n hx hb dL_law_747 rfl (lv_at hl 3 rfl) ?_
  refine lv_aload_n hx hb dL_law_748 rfl (lv_at hl 1 rfl) ?_
  refine lv_iload hx hb dL_law_749 (lv_at hl 5 rfl) ?_
  refine lv_iconst (v := 1) hx hb dL_law_751 (by decide) ?_
  refine lv_iadd hx hb dL_law_752 ?_
  refine ld_s hx hb hX hbl hbA hS (i + 1) (by omega) hL (nI_p i 1) dL_law_753 ?_
  refine lv_aload_n hx hb dL_law_754 rfl (lv_at hl 1 rfl) ?_
  refine lv_iload hx hb dL_law_755 (lv_at hl 5 rfl) ?_
  refine lv_iconst (v := 2) hx hb dL_law_757 (by decide) ?_
  refine lv_iadd hx hb dL_law_758 ?_
  refine ld_s hx hb hX hbl hbA hS (i + 2) (by omega) hL (nI_p i 2) dL_law_759 ?_
  refine kcLM (wr := wO cI cL a bo u.1 u.2.1 u.2.2) (As := [.int (xs (i + 1)), .int (xs (i + 2))]) (rest := []) C0 hP hD hS hM1 (cwV 2 hts gL_law_X5_space rfl rfl rfl (by decide +kernel) ⟨Nat.le_of_ble_eq_true rfl, Nat.le_of_ble_eq_true rfl⟩) [0, 1, 2, 3, 4, 5, 6, 7, 8, 9, 10, 11, 12] [13, 14, 15, 16, 17, 18, 19, 20, 21, 22, 23, 24, 25, 26, 27, 28, 29, 30, 31, 32, 33, 34] rfl rfl rfl rfl rfl (by decide) 0 5 rfl rfl rfl hl.1 rfl (Nat.le_of_ble_eq_true rfl) dL_law_760 ⟨hc, hs⟩ (fun z' u' H locs hg hP hD hS => ?_)
  obtain ⟨t1, t2, t3⟩ := hT1 k u z' u' hk hg
  refine lv_istore (lv' := [(6, .int z'), (5, .int k), (0, .ref b0), (1, .ref (a 0)), (2, .ref (aM 0)), (3, .ref bo), (4, .int (nI i))]) hx hb dL_law_763 hl (by decide) rfl (fun ls hl => ?_)
  refine lv_aload_n hx hb dL_law_765 rfl (lv_at hl 4 rfl) ?_
  refine kcLM (wr := wO cI cL a bo u.1 u.2.1 u.2.2) (As := []) (rest := []) C0 hP hD hS (c_X5_thrown l D cI aM u'.1 u'.2) (cwV 0 hts gL_law_X5_thrown rfl rfl rfl (by decide +kernel) ⟨Nat.le_of_ble_eq_true rfl, Nat.le_of_ble_eq_true rfl⟩) [22, 23, 24, 25, 26, 27, 28, 29, 30, 31, 32, 33, 34] [0, 1, 2, 3, 4, 5, 6, 7, 8, 9, 10, 11, 12, 13, 14, 15, 16, 17, 18, 19, 20, 21] rfl rfl rfl rfl rfl (by decide) 0 5 rfl rfl rfl hl.1 rfl (Nat.le_of_ble_eq_true rfl) dL_law_766 ⟨hc, hs⟩ (fun z9 _ H locs hz9 hP hD hS => ?_)
  refine lv_iload hx hb dL_law_769 (lv_at hl 1 rfl) ?_
  refine lv_icmp_eq (tgt := 776) hx hb dL_law_771 (by decide) (fun c_1 => ?_) (fun c_1 => absurd (hz9.trans t1) c_1)
  have hP := hP.sub (ws' := wM cI aM u'.1 u'.2 ++ wO cI cL a bo u.1 u.2.1 u.2.2) [22, 23, 24, 25, 26, 27, 28, 29, 30, 31, 32, 33, 34, 0, 1, 2, 3, 4, 5, 6, 7, 8, 9, 10, 11, 12, 13, 14, 15, 16, 17, 18, 19, 20, 21] rfl
  have hD := hD.sub (ws' := wM cI aM u'.1 u'.2 ++ wO cI cL a bo u.1 u.2.1 u.2.2) [22, 23, 24, 25, 26, 27, 28, 29, 30, 31, 32, 33, 34, 0, 1, 2, 3, 4, 5, 6, 7, 8, 9, 10, 11, 12, 13, 14, 15, 16, 17, 18, 19, 20, 21] (by decide) rfl
  refine lv_iload hx hb dL_law_776 (lv_at hl 1 rfl) ?_
  refine lv_if_ne (tgt := 793) hx hb dL_law_778 (by decide) (fun c_2 => lv_goto (tgt := 920) hx hb dL_law_793 (by decide) (kk u.1 u.2.1 u'.1 u.2.2 u'.2 H locs ls t3 hP hD hS (lv_sub hl [2, 3, 4, 5, 6] rfl))) (fun c_2 => ?_)
  have c_2 : k = 0 := (by first | exact c_2 | exact Classical.not_not.mp c_2 | exact Decidable.not_not.mp c_2)
  refine lv_aload_n hx hb dL_law_781 rfl (lv_at hl 5 rfl) ?_
  refine lv_iconst (v := 0) hx hb dL_law_782 (by decide) ?_
  refine va_lald hx hb hK hP 13 1 rfl rfl (vp_in_nI (n := 0) (by decide) (by decide)) dL_law_783 ?_
  refine lv_iload hx hb dL_law_784 (lv_at hl 0 rfl) ?_
  refine lv_i2l hx hb dL_law_786 rfl ?_
  refine W.lcmp hx hb dL_law_787 ?_
  exact lv_if_eq (tgt := 793) hx hb dL_law_788 (by decide) (fun c_3 => lv_goto (tgt := 920) hx hb dL_law_793 (by decide) (kk u.1 u.2.1 u'.1 u.2.2 u'.2 H locs ls t3 hP hD hS (lv_sub hl [2, 3, 4, 5, 6] rfl))) (fun c_3 => absurd (by rw [← t2 c_2]; exact lcmp_self _) c_3)
set_option maxHeartbeats 4000000 in
set_option maxRecDepth 100000 in
theorem lc_kind {p : Program} {l : Launch} {e : Env} {s : State} {m : MethodId} {args : Array Value} {below : List Frame} {meth : Method} {c : Code} {H : Heap} {locs : List Loc} {cells slots : Nat} {Q : State → Prop} {ls : Array Slot} {D : va_G} {cI cL : ClassId} {A : Nat → Prop} {a aM : Nat → Nat} {bo : Nat} {fo : Nat → Int64} {v w : Nat → Int32} {r q : Rw} (hst : l.stackTraces = false) (C0 : kEW p s m meth c args cL_law 7 ret RL wsL_law D cI cL A) {b0 L : Nat} {xs : Nat → Int32} (hX : va_X b0 L xs s s.heap) (hbl : b0 < s.heap.size) (hbA : ¬ A b0) (i : Nat) (hi : i + 5 ≤ L) (hL : L ≤ 240) (hI : INV v r w q)
    (hP : va_P D vwCl (wM cI aM w q ++ wO cI cL a bo fo v r) H) (hD : va_D A (wM cI aM w q ++ wO cI cL a bo fo v r)) (hS : va_S A s.heap H locs) (hl : lv_has ls 7 [(0, .ref b0), (1, .ref (a 0)), (2, .ref (aM 0)), (3, .ref bo), (4, .int (nI i))]) (hc : cells + 6 ≤ room_1.cells) (hs : slots + 36 ≤ room_1.slots)
    (kk : ∀ (fo' : Nat → Int64) (v' w' : Nat → Int32) (r' q' : Rw) (H' : Heap) (locs' : List Loc) (ls' : Array Slot), INV v' r' w' q' → va_P D vwCl (wM cI aM w' q' ++ wO cI cL a bo fo' v' r') H' → va_D A (wM cI aM w' q' ++ wO cI cL a bo fo' v' r') → va_S A s.heap H' locs' → lv_has ls' 7 [(0, .ref b0), (1, .ref (a 0)), (2, .ref (aM 0)), (3, .ref bo), (4, .int (nI i))] → W p l e room_1 s m args below meth c H' locs' (cells + 6) (slots + 36) Q (F0 m 920 ls' [])) :
    W p l e room_1 s m args below meth c H locs cells slots Q (F0 m 796 ls []) := by
  have hx := C0.1.1
  have hb := C0.1.2.1
  have hown : s.vm.findClass RL = some m.cls := C0.1.2.2.2.1
  have hts : ∀ w ∈ wsL_law, w.before args s = true := C0.1.2.2.2.2
  have hK := C0.2.2.2.1
  refine lv_aload_n hx hb dL_law_796 rfl (lv_at hl 1 rfl) ?_
  refine lv_aload_n hx hb dL_law_797 rfl (lv_at hl 0 rfl) ?_
  refine lv_iload hx hb dL_law_798 (lv_at hl 4 rfl) ?_
  refine lv_iconst (v := 1) hx hb dL_law_800 (by decide) ?_
  refine lv_iadd hx hb dL_law_801 ?_
  refine ld_s hx hb hX hbl hbA hS (i + 1) (by omega) hL (nI_p i 1) dL_law_802 ?_
  refine lv_aload_n hx hb dL_law_803 rfl (lv_at hl 3 rfl) ?_
  obtain ⟨PW, G, hW1, hM1, hT1⟩ := p_kind (l := l) D cI cL a bo aM fo hst hI (xs (i + 1))
  refine kcLW (wr := wM cI aM w q) (As := [.ref (a 0), .int (xs (i + 1)), .ref bo]) (rest := []) C0 hP hD hS hW1 (vx_cwSW 3 hts gL_law_L_kind rfl rfl rfl (by decide +kernel) ⟨Nat.le_of_ble_eq_true rfl, Nat.le_of_ble_eq_true rfl⟩) [13, 14, 15, 16, 17, 18, 19, 20, 21, 22, 23, 24, 25, 26, 27, 28, 29, 30, 31, 32, 33, 34] [0, 1, 2, 3, 4, 5, 6, 7, 8, 9, 10, 11, 12] rfl rfl rfl rfl rfl (by decide) rfl hl.1 rfl (Nat.le_of_ble_eq_true rfl) dL_law_804 ⟨Nat.le_trans (by omega) hc, Nat.le_trans (by omega) hs⟩ (fun k u H locs hk hP hD hS => ?_)
  refine W.widen (k := cells + 6) (n := slots + 36) (by omega) (by omega) ?_
  refine lv_istore (lv' := [(5, .int k), (0, .ref b0), (1, .ref (a 0)), (2, .ref (aM 0)), (3, .ref bo), (4, .int (nI i))]) hx hb dL_law_807 hl (by decide) rfl (fun ls hl => ?_)
  refine lv_aload_n hx hb dL_law_809 rfl (lv_at hl 3 rfl) ?_
  refine lv_aload_n hx hb dL_law_810 rfl (lv_at hl 1 rfl) ?_
  refine lv_iload hx hb dL_law_811 (lv_at hl 5 rfl) ?_
  refine lv_iconst (v := 1) hx hb dL_law_813 (by decide) ?_
  refine lv_iadd hx hb dL_law_814 ?_
  refine ld_s hx hb hX hbl hbA hS (i + 1) (by omega) hL (nI_p i 1) dL_law_815 ?_
  refine kcLM (wr := wO cI cL a bo u.1 u.2.1 u.2.2) (As := [.int (xs (i + 1))]) (rest := []) C0 hP hD hS hM1 (cwV 1 hts gL_law_X5_kind rfl rfl rfl (by decide +kernel) ⟨Nat.le_of_ble_eq_true rfl, Nat.le_of_ble_eq_true rfl⟩) [0, 1, 2, 3, 4, 5, 6, 7, 8, 9, 10, 11, 12] [13, 14, 15, 16, 17, 18, 19, 20, 21, 22, 23, 24, 25, 26, 27, 28, 29, 30, 31, 32, 33, 34] rfl rfl rfl rfl rfl (by decide) 0 5 rfl rfl rfl hl.1 rfl (Nat.le_of_ble_eq_true rfl) dL_law_816 ⟨hc, hs⟩ (fun z' u' H locs hg hP hD hS => ?_)
  obtain ⟨t1, t2, t3⟩ := hT1 k u z' u' hk hg
  refine lv_istore (lv' := [(6, .int z'), (5, .int k), (0, .ref b0), (1, .ref (a 0)), (2, .ref (aM 0)), (3, .ref bo), (4, .int (nI i))]) hx hb dL_law_819 hl (by decide) rfl (fun ls hl => ?_)
  refine lv_aload_n hx hb dL_law_821 rfl (lv_at hl 4 rfl) ?_
  refine kcLM (wr := wO cI cL a bo u.1 u.2.1 u.2.2) (As := []) (rest := []) C0 hP hD hS (c_X5_thrown l D cI aM u'.1 u'.2) (cwV 0 hts gL_law_X5_thrown rfl rfl rfl (by decide +kernel) ⟨Nat.le_of_ble_eq_true rfl, Nat.le_of_ble_eq_true rfl⟩) [22, 23, 24, 25, 26, 27, 28, 29, 30, 31, 32, 33, 34] [0, 1, 2, 3, 4, 5, 6, 7, 8, 9, 10, 11, 12, 13, 14, 15, 16, 17, 18, 19, 20, 21] rfl rfl rfl rfl rfl (by decide) 0 5 rfl rfl rfl hl.1 rfl (Nat.le_of_ble_eq_true rfl) dL_law_822 ⟨hc, hs⟩ (fun z9 _ H locs hz9 hP hD hS => ?_)
  refine lv_iload hx hb dL_law_825 (lv_at hl 1 rfl) ?_
  refine lv_icmp_eq (tgt := 832) hx hb dL_law_827 (by decide) (fun c_1 => ?_) (fun c_1 => absurd (hz9.trans t1) c_1)
  have hP := hP.sub (ws' := wM cI aM u'.1 u'.2 ++ wO cI cL a bo u.1 u.2.1 u.2.2) [22, 23, 24, 25, 26, 27, 28, 29, 30, 31, 32, 33, 34, 0, 1, 2, 3, 4, 5, 6, 7, 8, 9, 10, 11, 12, 13, 14, 15, 16, 17, 18, 19, 20, 21] rfl
  have hD := hD.sub (ws' := wM cI aM u'.1 u'.2 ++ wO cI cL a bo u.1 u.2.1 u.2.2) [22, 23, 24, 25, 26, 27, 28, 29, 30, 31, 32, 33, 34, 0, 1, 2, 3, 4, 5, 6, 7, 8, 9, 10, 11, 12, 13, 14, 15, 16, 17, 18, 19, 20, 21] (by decide) rfl
  refine lv_iload hx hb dL_law_832 (lv_at hl 1 rfl) ?_
  refine lv_if_ne (tgt := 849) hx hb dL_law_834 (by decide) (fun c_2 => lv_goto (tgt := 920) hx hb dL_law_849 (by decide) (kk u.1 u.2.1 u'.1 u.2.2 u'.2 H locs ls t3 hP hD hS (lv_sub hl [2, 3, 4, 5, 6] rfl))) (fun c_2 => ?_)
  have c_2 : k = 0 := (by first | exact c_2 | exact Classical.not_not.mp c_2 | exact Decidable.not_not.mp c_2)
  refine lv_aload_n hx hb dL_law_837 rfl (lv_at hl 5 rfl) ?_
  refine lv_iconst (v := 0) hx hb dL_law_838 (by decide) ?_
  refine va_lald hx hb hK hP 13 1 rfl rfl (vp_in_nI (n := 0) (by decide) (by decide)) dL_law_839 ?_
  refine lv_iload hx hb dL_law_840 (lv_at hl 0 rfl) ?_
  refine lv_i2l hx hb dL_law_842 rfl ?_
  refine W.lcmp hx hb dL_law_843 ?_
  exact lv_if_eq (tgt := 849) hx hb dL_law_844 (by decide) (fun c_3 => lv_goto (tgt := 920) hx hb dL_law_849 (by decide) (kk u.1 u.2.1 u'.1 u.2.2 u'.2 H locs ls t3 hP hD hS (lv_sub hl [2, 3, 4, 5, 6] rfl))) (fun c_3 => absurd (by rw [← t2 c_2]; exact lcmp_self _) c_3)
set_option maxHeartbeats 4000000 in
set_option maxRecDepth 100000 in
theorem lc_split {p : Program} {l : Launch} {e : Env} {s : State} {m : MethodId} {args : Array Value} {below : List Frame} {meth : Method} {c : Code} {H : Heap} {locs : List Loc} {cells slots : Nat} {Q : State → Prop} {ls : Array Slot} {D : va_G} {cI cL : ClassId} {A : Nat → Prop} {a aM : Nat → Nat} {bo : Nat} {fo : Nat → Int64} {v w : Nat → Int32} {r q : Rw} (hst : l.stackTraces = false) (C0 : kEW p s m meth c args cL_law 7 ret RL wsL_law D cI cL A) {b0 L : Nat} {xs : Nat → Int32} (hX : va_X b0 L xs s s.heap) (hbl : b0 < s.heap.size) (hbA : ¬ A b0) (i : Nat) (hi : i + 5 ≤ L) (hL : L ≤ 240) (hI : INV v r w q)
    (hP : va_P D vwCl (wM cI aM w q ++ wO cI cL a bo fo v r) H) (hD : va_D A (wM cI aM w q ++ wO cI cL a bo fo v r)) (hS : va_S A s.heap H locs) (hl : lv_has ls 7 [(0, .ref b0), (1, .ref (a 0)), (2, .ref (aM 0)), (3, .ref bo), (4, .int (nI i))]) (hc : cells + 6 ≤ room_1.cells) (hs : slots + 36 ≤ room_1.slots)
    (kk : ∀ (fo' : Nat → Int64) (v' w' : Nat → Int32) (r' q' : Rw) (H' : Heap) (locs' : List Loc) (ls' : Array Slot), INV v' r' w' q' → va_P D vwCl (wM cI aM w' q' ++ wO cI cL a bo fo' v' r') H' → va_D A (wM cI aM w' q' ++ wO cI cL a bo fo' v' r') → va_S A s.heap H' locs' → lv_has ls' 7 [(0, .ref b0), (1, .ref (a 0)), (2, .ref (aM 0)), (3, .ref bo), (4, .int (nI i))] → W p l e room_1 s m args below meth c H' locs' (cells + 6) (slots + 36) Q (F0 m 920 ls' [])) :
    W p l e room_1 s m args below meth c H locs cells slots Q (F0 m 852 ls []) := by
  have hx := C0.1.1
  have hb := C0.1.2.1
  have hown : s.vm.findClass RL = some m.cls := C0.1.2.2.2.1
  have hts : ∀ w ∈ wsL_law, w.before args s = true := C0.1.2.2.2.2
  have hK := C0.2.2.2.1
  refine lv_aload_n hx hb dL_law_852 rfl (lv_at hl 1 rfl) ?_
  refine lv_aload_n hx hb dL_law_853 rfl (lv_at hl 0 rfl) ?_
  refine lv_iload hx hb dL_law_854 (lv_at hl 4 rfl) ?_
  refine lv_iconst (v := 1) hx hb dL_law_856 (by decide) ?_
  refine lv_iadd hx hb dL_law_857 ?_
  refine ld_s hx hb hX hbl hbA hS (i + 1) (by omega) hL (nI_p i 1) dL_law_858 ?_
  refine lv_aload_n hx hb dL_law_859 rfl (lv_at hl 0 rfl) ?_
  refine lv_iload hx hb dL_law_860 (lv_at hl 4 rfl) ?_
  refine lv_iconst (v := 2) hx hb dL_law_862 (by decide) ?_
  refine lv_iadd hx hb dL_law_863 ?_
  refine ld_s hx hb hX hbl hbA hS (i + 2) (by omega) hL (nI_p i 2) dL_law_864 ?_
  refine lv_aload_n hx hb dL_law_865 rfl (lv_at hl 3 rfl) ?_
  obtain ⟨PW, G, hW1, hM1, hT1⟩ := p_split (l := l) D cI cL a bo aM fo hst hI (xs (i + 1)) (xs (i + 2))
  refine kcLW (wr := wM cI aM w q) (As := [.ref (a 0), .int (xs (i + 1)), .int (xs (i + 2)), .ref bo]) (rest := []) C0 hP hD hS hW1 (vx_cwSW 4 hts gL_law_L_split rfl rfl rfl (by decide +kernel) ⟨Nat.le_of_ble_eq_true rfl, Nat.le_of_ble_eq_true rfl⟩) [13, 14, 15, 16, 17, 18, 19, 20, 21, 22, 23, 24, 25, 26, 27, 28, 29, 30, 31, 32, 33, 34] [0, 1, 2, 3, 4, 5, 6, 7, 8, 9, 10, 11, 12] rfl rfl rfl rfl rfl (by decide) rfl hl.1 rfl (Nat.le_of_ble_eq_true rfl) dL_law_866 ⟨Nat.le_trans (by omega) hc, Nat.le_trans (by omega) hs⟩ (fun k u H locs hk hP hD hS => ?_)
  refine W.widen (k := cells + 6) (n := slots + 36) (by omega) (by omega) ?_
  refine lv_istore (lv' := [(5, .int k), (0, .ref b0), (1, .ref (a 0)), (2, .ref (aM 0)), (3, .ref bo), (4, .int (nI i))]) hx hb dL_law_869 hl (by decide) rfl (fun ls hl => ?_)
  refine lv_aload_n hx hb dL_law_871 rfl (lv_at hl 3 rfl) ?_
  refine lv_aload_n hx hb dL_law_872 rfl (lv_at hl 1 rfl) ?_
  refine lv_iload hx hb dL_law_873 (lv_at hl 5 rfl) ?_
  refine lv_iconst (v := 1) hx hb dL_law_875 (by decide) ?_
  refine lv_iadd hx hb dL_law_876 ?_
  refine ld_s hx hb hX hbl hbA hS (i + 1) (by omega) hL (nI_p i 1) dL_law_877 ?_
  refine lv_aload_n hx hb dL_law_878 rfl (lv_at hl 1 rfl) ?_
  refine lv_iload hx hb dL_law_879 (lv_at hl 5 rfl) ?_
  refine lv_iconst (v := 2) hx hb dL_law_881 (by decide) ?_
  refine lv_iadd hx hb dL_law_882 ?_
  refine ld_s hx hb hX hbl hbA hS (i + 2) (by omega) hL (nI_p i 2) dL_law_883 ?_
  refine kcLM (wr := wO cI cL a bo u.1 u.2.1 u.2.2) (As := [.int (xs (i + 1)), .int (xs (i + 2))]) (rest := []) C0 hP hD hS hM1 (cwV 2 hts gL_law_X5_split rfl rfl rfl (by decide +kernel) ⟨Nat.le_of_ble_eq_true rfl, Nat.le_of_ble_eq_true rfl⟩) [0, 1, 2, 3, 4, 5, 6, 7, 8, 9, 10, 11, 12] [13, 14, 15, 16, 17, 18, 19, 20, 21, 22, 23, 24, 25, 26, 27, 28, 29, 30, 31, 32, 33, 34] rfl rfl rfl rfl rfl (by decide) 0 5 rfl rfl rfl hl.1 rfl (Nat.le_of_ble_eq_true rfl) dL_law_884 ⟨hc, hs⟩ (fun z' u' H locs hg hP hD hS => ?_)
  obtain ⟨t1, t2, t3⟩ := hT1 k u z' u' hk hg
  refine lv_istore (lv' := [(6, .int z'), (5, .int k), (0, .ref b0), (1, .ref (a 0)), (2, .ref (aM 0)), (3, .ref bo), (4, .int (nI i))]) hx hb dL_law_887 hl (by decide) rfl (fun ls hl => ?_)
  refine lv_aload_n hx hb dL_law_889 rfl (lv_at hl 4 rfl) ?_
  refine kcLM (wr := wO cI cL a bo u.1 u.2.1 u.2.2) (As := []) (rest := []) C0 hP hD hS (c_X5_thrown l D cI aM u'.1 u'.2) (cwV 0 hts gL_law_X5_thrown rfl rfl rfl (by decide +kernel) ⟨Nat.le_of_ble_eq_true rfl, Nat.le_of_ble_eq_true rfl⟩) [22, 23, 24, 25, 26, 27, 28, 29, 30, 31, 32, 33, 34] [0, 1, 2, 3, 4, 5, 6, 7, 8, 9, 10, 11, 12, 13, 14, 15, 16, 17, 18, 19, 20, 21] rfl rfl rfl rfl rfl (by decide) 0 5 rfl rfl rfl hl.1 rfl (Nat.le_of_ble_eq_true rfl) dL_law_890 ⟨hc, hs⟩ (fun z9 _ H locs hz9 hP hD hS => ?_)
  refine lv_iload hx hb dL_law_893 (lv_at hl 1 rfl) ?_
  refine lv_icmp_eq (tgt := 900) hx hb dL_law_895 (by decide) (fun c_1 => ?_) (fun c_1 => absurd (hz9.trans t1) c_1)
  have hP := hP.sub (ws' := wM cI aM u'.1 u'.2 ++ wO cI cL a bo u.1 u.2.1 u.2.2) [22, 23, 24, 25, 26, 27, 28, 29, 30, 31, 32, 33, 34, 0, 1, 2, 3, 4, 5, 6, 7, 8, 9, 10, 11, 12, 13, 14, 15, 16, 17, 18, 19, 20, 21] rfl
  have hD := hD.sub (ws' := wM cI aM u'.1 u'.2 ++ wO cI cL a bo u.1 u.2.1 u.2.2) [22, 23, 24, 25, 26, 27, 28, 29, 30, 31, 32, 33, 34, 0, 1, 2, 3, 4, 5, 6, 7, 8, 9, 10, 11, 12, 13, 14, 15, 16, 17, 18, 19, 20, 21] (by decide) rfl
  refine lv_iload hx hb dL_law_900 (lv_at hl 1 rfl) ?_
  refine lv_if_ne (tgt := 917) hx hb dL_law_902 (by decide) (fun c_2 => lv_goto (tgt := 920) hx hb dL_law_917 (by decide) (kk u.1 u.2.1 u'.1 u.2.2 u'.2 H locs ls t3 hP hD hS (lv_sub hl [2, 3, 4, 5, 6] rfl))) (fun c_2 => ?_)
  have c_2 : k = 0 := (by first | exact c_2 | exact Classical.not_not.mp c_2 | exact Decidable.not_not.mp c_2)
  refine lv_aload_n hx hb dL_law_905 rfl (lv_at hl 5 rfl) ?_
  refine lv_iconst (v := 0) hx hb dL_law_906 (by decide) ?_
  refine va_lald hx hb hK hP 13 1 rfl rfl (vp_in_nI (n := 0) (by decide) (by decide)) dL_law_907 ?_
  refine lv_iload hx hb dL_law_908 (lv_at hl 0 rfl) ?_
  refine lv_i2l hx hb dL_law_910 rfl ?_
  refine W.lcmp hx hb dL_law_911 ?_
  exact lv_if_eq (tgt := 917) hx hb dL_law_912 (by decide) (fun c_3 => lv_goto (tgt := 920) hx hb dL_law_917 (by decide) (kk u.1 u.2.1 u'.1 u.2.2 u'.2 H locs ls t3 hP hD hS (lv_sub hl [2, 3, 4, 5, 6] rfl))) (fun c_3 => absurd (by rw [← t2 c_2]; exact lcmp_self _) c_3)
