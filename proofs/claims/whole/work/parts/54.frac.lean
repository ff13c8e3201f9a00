theorem sc_g {q : Rw} {N d : Nat} {dp sl : Nat → Nat} (hT : LY q N dp sl) {r u w : Rw} {f0 : Nat → Int32} {x1 x2 lev1 cr1 lev2 cr2 : Int32} {c0 n k s1 s2 : Nat} {Ln : List It} {tn : T3} (hn : n < N) (hk : k < 30) (e2 : q 2 n = nI k) (hx1 : ∀ j, j < 30 → x1 = nI j → FLD q n s1 j) (hx2 : ∀ j, j < 30 → x2 = nI j → FLD q n s2 j) (hs : ¬ s2 = s1)
    (h19 : r 19 = ptI f0 c0 Ln) (hB : BM r (30 + n) tn) (h16 : r 16 (30 + n) = nI c0) (h17 : r 17 (30 + n) = nI (c0 + Ln.length))
    (h1 : OLP q N d r x1 lev1 cr1 (c0 + Ln.length) u) (h2 : OLP q N d u x2 lev2 cr2 (c0 + Ln.length + (oL q N d x1 lev1 cr1).length) w) : SCF q n x1 x2 Ln (oL q N d x1 lev1 cr1) (oL q N d x2 lev2 cr2) tn (ML q N d x1 lev1 cr1) (ML q N d x2 lev2 cr2) r f0 c0 w := by
  obtain ⟨a1, a2, a3, a4, a5, a6⟩ := h1.f hT (s := s1) hn hk e2 hx1
  obtain ⟨b1, b2, b3, b4, b5, b6⟩ := h2.f hT (s := s2) hn hk e2 hx2
  have sx := a3.tr b3
  refine ⟨a1.tr b1, ?_, ⟨sx.1.trans hB.1, sx.2.1.trans hB.2.1, sx.2.2.1.trans hB.2.2⟩, sx.2.2.2.1.trans h16, sx.2.2.2.2.trans h17, ?_, b5, fun b hb hne hall => (a6 b hb hne hall).tr (b6 b hb hne hall)⟩
  · rw [b2, a2, h19, ptI_app, ptI_app]
  · rcases a5 with e | ⟨j, hj, e, c1, c2, c3⟩
    · exact Or.inl e
    · have sy := b4 s1 j hs (hx1 j hj e)
      exact Or.inr ⟨j, hj, e, ⟨sy.1.trans c1.1, sy.2.1.trans c1.2.1, sy.2.2.1.trans c1.2.2⟩, sy.2.2.2.1.trans c2, sy.2.2.2.2.trans c3⟩
theorem fn_0 {u : Rw} {n c0 m : Nat} {x1 x2 X1 X2 U Dn Wd : Int32} : fnR u n c0 m x1 x2 0 X1 X2 U Dn Wd = rU (plR (plR u (30 + n) x1 X1 U) (30 + n) x2 X2 (-Dn)) 13 (upd (u 13) (30 + n) Wd) := by
  unfold fnR; rw [shR_0]
/-- a rule behind what stands -/
theorem fr_rule {q r W : Rw} {f0 g : Nat → Int32} {n c0 c2 : Nat} {Wd H Dd Y T : Int32} {P : List It} (h : ATP q r f0 n c0 (Wd, H, Dd) P (rU W 13 g)) (hc : c2 = c0 + P.length) :
    ATP q r f0 n c0 (Wd, mx H (Y + T), mx Dd (-Y)) (P ++ [mkI 1 0 Y T Wd 0 (nI n) 0]) (rU (cvR (shR (msR (itR W c2 1 (nI n) 0) c2 T Wd) 0 Y c2 (c2 + 1)) (30 + n) Y T 0) 13 g) := by
  obtain ⟨h1, h2, h3, h4, h5⟩ := h
  have e19 : W 19 = ptI f0 c0 P := by rw [← h2, rU_n (by decide)]
  have e14 : W 14 (30 + n) = H := by have := h3.2.1; rw [rU_n (by decide)] at this; exact this
  have e15 : W 15 (30 + n) = Dd := by have := h3.2.2; rw [rU_n (by decide)] at this; exact this
  have e16 : W 16 (30 + n) = nI c0 := by have := h4; rw [rU_n (by decide)] at this; exact this
  have i19 : (shR (msR (itR W c2 1 (nI n) 0) c2 T Wd) 0 Y c2 (c2 + 1)) 19 = ptI f0 c0 (P ++ [mkI 1 0 Y T Wd 0 (nI n) 0]) := by
    unfold shR
    rw [rU_s]
    unfold msR
    rw [rU_s]
    unfold itR
    rw [rU_s, it_pt, e19, hc, ptI_app, ms_pt _ _ _ _ _ _ _ rfl, ms_mk]
    have hs := sh_pt f0 c0 P [mkI 1 0 0 T Wd 0 (nI n) 0] [] 0 Y (i := c0 + P.length) (j := c0 + P.length + 1) rfl rfl
    rw [List.append_nil, List.map_cons, List.map_nil, sft_mk, List.append_nil, Int32.zero_add, Int32.zero_add] at hs
    exact hs
  have hk : ∀ k, ¬ k = 19 → ¬ k = 14 → ¬ k = 15 → (cvR (shR (msR (itR W c2 1 (nI n) 0) c2 T Wd) 0 Y c2 (c2 + 1)) (30 + n) Y T 0) k = W k := by
    intro k a b c
    unfold cvR shR msR itR
    rw [rU_n c, rU_n b, rU_n a, rU_n a, rU_n a]
  have hw : ∀ k, ¬ k = 19 → (shR (msR (itR W c2 1 (nI n) 0) c2 T Wd) 0 Y c2 (c2 + 1)) k = W k := by
    intro k a
    unfold shR msR itR
    rw [rU_n a, rU_n a, rU_n a]
  refine ⟨fun j hj => ?_, ?_, ⟨?_, ?_, ?_⟩, ?_, fun b hb hne hall => ?_⟩
  · rw [rU_n (by omega), hk j (by omega) (by omega) (by omega), ← h1 j hj, rU_n (by omega)]
  · rw [rU_n (by decide)]
    unfold cvR
    rw [rU_n (by decide), rU_n (by decide)]
    exact i19
  · rw [rU_s, ← h3.1, rU_s]
  · rw [rU_n (by decide)]
    unfold cvR
    rw [rU_n (by decide), rU_s, hw 14 (by decide), pk_us, e14, mx_c]
  · rw [rU_n (by decide)]
    unfold cvR
    rw [rU_s, hw 15 (by decide), pk_us, e15, mx_c, Int32.zero_sub]
  · rw [rU_n (by decide), hk 16 (by decide) (by decide) (by decide)]
    exact e16
  · obtain ⟨s1, s2, s3, s4, s5⟩ := h5 b hb hne hall
    refine ⟨?_, ?_, ?_, ?_, ?_⟩
    · rw [rU_s]; rw [rU_s] at s1; exact s1
    · rw [rU_n (by decide)] at s2 ⊢
      unfold cvR
      rw [rU_n (by decide), rU_s, pk_un hne, hw 14 (by decide)]; exact s2
    · rw [rU_n (by decide)] at s3 ⊢
      unfold cvR
      rw [rU_s, pk_un hne, hw 15 (by decide)]; exact s3
    · rw [rU_n (by decide)] at s4 ⊢; rw [hk 16 (by decide) (by decide) (by decide)]; exact s4
    · rw [rU_n (by decide)] at s5 ⊢; rw [hk 17 (by decide) (by decide) (by decide)]; exact s5
theorem mx_00 : mx 0 0 = 0 := by decide
theorem fr_fin {q r u : Rw} {N d n c jo ju : Nat} {lev cr Wd X1 X2 Uu Dn : Int32} (hn : n < 120) (hjo : jo < 30) (hju : ju < 30) (eo : q 5 n = nI jo) (eu : q 6 n = nI ju)
    (hF : SCF q n (nI jo) (nI ju) [] (oL q N d (nI jo) (ptl lev) cr) (oL q N d (nI ju) (ptl lev) 1) (0, 0, 0) (ML q N d (nI jo) (ptl lev) cr) (ML q N d (nI ju) (ptl lev) 1) r (r 19) c u)
    (hlen : c + (oL q N d (nI jo) (ptl lev) cr).length + (oL q N d (nI ju) (ptl lev) 1).length ≤ 150)
    (eW : Wd = (mFr (ML q N d) q n lev cr).1) (eX1 : X1 = ((mFr (ML q N d) q n lev cr).1 - (ML q N d (nI jo) (ptl lev) cr).1) / 2) (eX2 : X2 = ((mFr (ML q N d) q n lev cr).1 - (ML q N d (nI ju) (ptl lev) 1).1) / 2) (eU : Uu = frU (ML q N d) q n lev cr) (eD : Dn = frD (ML q N d) q n lev) :
    (frT q n lev ≤ 0 → ATP q r (r 19) n c (mFr (ML q N d) q n lev cr) (pFr (ML q N d) (PL q N d) q n lev cr 0 0) (rU (plR (plR u (30 + n) (nI jo) X1 Uu) (30 + n) (nI ju) X2 (-Dn)) 13 (upd (u 13) (30 + n) Wd))) ∧
    (¬ frT q n lev ≤ 0 → ∀ c2, c2 = c + (oL q N d (nI jo) (ptl lev) cr).length + (oL q N d (nI ju) (ptl lev) 1).length → ATP q r (r 19) n c (mFr (ML q N d) q n lev cr) (pFr (ML q N d) (PL q N d) q n lev cr 0 0) (rU (cvR (shR (msR (itR (plR (plR u (30 + n) (nI jo) X1 Uu) (30 + n) (nI ju) X2 (-Dn)) c2 1 (nI n) 0) c2 (frT q n lev) Wd) 0 (frY q n lev) c2 (c2 + 1)) (30 + n) (frY q n lev) (frT q n lev) 0) 13 (upd (u 13) (30 + n) Wd))) := by
  have hb := sc_fin (A := 0) (X1 := X1) (X2 := X2) (U := Uu) (Dn := Dn) (Wd := Wd) hn hF (by rw [List.length_nil]; omega) (by decide) (by decide)
  rw [fn_0, if_neg (nI_ne_m1 (by omega)), if_neg (nI_ne_m1 (by omega)), if_neg (nI_ne_m1 (by omega)), if_neg (nI_ne_m1 (by omega))] at hb
  have eP : (([] : List It).map (sft 0 0) ++ ((oL q N d (nI jo) (ptl lev) cr).map (sft X1 Uu) ++ (oL q N d (nI ju) (ptl lev) 1).map (sft X2 (-Dn)))) = PL q N d (q 5 n) (ptl lev) cr (0 + ((mFr (ML q N d) q n lev cr).1 - (ML q N d (q 5 n) (ptl lev) cr).1) / 2) (0 + frU (ML q N d) q n lev cr) ++ PL q N d (q 6 n) (ptl lev) 1 (0 + ((mFr (ML q N d) q n lev cr).1 - (ML q N d (q 6 n) (ptl lev) 1).1) / 2) (0 - frD (ML q N d) q n lev) := by
    rw [oL_map, oL_map, if_neg (nI_ne_m1 (by omega)), if_neg (nI_ne_m1 (by omega)), eo, eu, eX1, eX2, eU, eD, Int32.zero_add, Int32.zero_add, Int32.zero_add, Int32.zero_sub]
    rfl
  have e1 : mx (mx (mx (0, 0, 0).2.1 0) (Uu + (ML q N d (nI jo) (ptl lev) cr).2.1)) ((ML q N d (nI ju) (ptl lev) 1).2.1 - Dn) = frH (ML q N d) q n lev cr := by
    unfold frH; rw [eU, eD, eo, eu]; show mx (mx (mx 0 0) _) _ = _; rw [mx_00]
  have e2 : mx (mx (mx (0, 0, 0).2.2 0) ((ML q N d (nI jo) (ptl lev) cr).2.2 - Uu)) ((ML q N d (nI ju) (ptl lev) 1).2.2 + Dn) = frE (ML q N d) q n lev cr := by
    unfold frE; rw [eU, eD, eo, eu]; show mx (mx (mx 0 0) _) _ = _; rw [mx_00]
  rw [e1, e2] at hb
  constructor
  · intro hT
    rw [pFr_p hT, ← eP, show mFr (ML q N d) q n lev cr = (Wd, frH (ML q N d) q n lev cr, frE (ML q N d) q n lev cr) by rw [eW]; unfold mFr; rw [if_pos hT, if_pos hT]]
    exact hb
  · intro hT c2 hc
    have h9 := fr_rule (Y := frY q n lev) (T := frT q n lev) (c2 := c2) hb (by rw [hc, List.length_append, List.length_append, List.length_map, List.length_map, List.length_map, List.length_nil]; omega)
    rw [pFr_n hT, ← eP, show mFr (ML q N d) q n lev cr = (Wd, mx (frH (ML q N d) q n lev cr) (frY q n lev + frT q n lev), mx (frE (ML q N d) q n lev cr) (-frY q n lev)) by rw [eW]; unfold mFr; rw [if_neg hT, if_neg hT]]
    rw [show (0 : Int32) + 2 * uni lev - (frT q n lev - frT q n lev / 2) = frY q n lev by rw [Int32.zero_add]; rfl]
    exact h9
theorem ptl_j {lev : Int32} (h : lvO lev) : (if lev < 2 then (lev + 1) else (3 : Int32)) = ptl lev := by
  rcases h with e | e | e | e <;> subst e <;> decide
theorem ptl_o {lev : Int32} (h : lvO lev) : lvO (ptl lev) := by
  rcases h with e | e | e | e <;> subst e <;> unfold lvO <;> decide
theorem fr_dn (h g T t z : Int32) : h + g + (T - t) - z = h + g + T - t - z := by
  rw [Int32.sub_eq_add_neg T t, ← Int32.add_assoc, ← Int32.sub_eq_add_neg]
theorem pFr_len {q : Rw} {N d n jo ju : Nat} {lev cr : Int32} (eo : q 5 n = nI jo) (eu : q 6 n = nI ju) : (pFr (ML q N d) (PL q N d) q n lev cr 0 0).length = (PL q N d (nI jo) (ptl lev) cr 0 0).length + (PL q N d (nI ju) (ptl lev) 1 0 0).length + (if frT q n lev ≤ 0 then 0 else 1) := by
  unfold pFr
  rw [List.length_append, List.length_append, eo, eu]
  congr 1
  · congr 1
    · exact PL_len
    · exact PL_len
  · by_cases h : frT q n lev ≤ 0
    · rw [if_pos h, if_pos h]; rfl
    · rw [if_neg h, if_neg h]; rfl
