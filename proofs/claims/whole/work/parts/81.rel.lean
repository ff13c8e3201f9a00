/-! the class's state beside the reference's -/
def REL (v : Nat → Int32) (r : Rw) (w : Nat → Int32) (q : Rw) (N L o K c : Nat) : Prop :=
  (o < L ∧ c ≤ 150 ∧ K + cnB (fun j => decide (q 1 j = -1)) 0 L ≤ L) ∧ (v 0 = nI N ∧ w 4 = nI N) ∧ (v 1 = nI L ∧ w 1 = nI L) ∧ (v 2 = nI o ∧ w 2 = nI o) ∧ v 3 = nI K ∧
  (v 4 = nI c ∧ w 14 = nI c ∧ v 5 = w 16 ∧ v 6 = w 17 ∧ v 7 = w 18 ∧ ∀ j, j < 8 * c → r 19 j = q 11 j) ∧
  (r 2 = q 2 ∧ r 3 = q 3 ∧ r 4 = q 4 ∧ r 5 = q 8 ∧ r 6 = q 9) ∧ (∀ n, n < N → ¬ q 3 n = 3 → r 7 n = q 5 n ∧ r 8 n = q 6 n ∧ r 9 n = q 7 n) ∧
  (∀ n, n < N → q 3 n = 3 → r 8 n = q 5 n ∧ r 9 n = q 6 n ∧ ∃ F, r 7 n = nI F ∧ F + (q 5 n).toNatClampNeg * (q 6 n).toNatClampNeg ≤ K ∧ ∀ t, t < (q 5 n).toNatClampNeg * (q 6 n).toNatClampNeg → r 11 (F + t) = q 10 (25 * n + t)) ∧
  (∀ j, j < L → r 10 j = q 1 j) ∧ ∀ j, L ≤ j → j < 30 → r 10 j = 0
def INV (v : Nat → Int32) (r : Rw) (w : Nat → Int32) (q : Rw) : Prop := ∃ N L o K c ht sl, TRE q N L ht sl ∧ REL v r w q N L o K c
theorem REL.rq {v : Nat → Int32} {r : Rw} {w : Nat → Int32} {q : Rw} {N L o K c : Nat} (h : REL v r w q N L o K c) (hL : L ≤ 30) : RQ q N v r := by
  obtain ⟨⟨a1, a2, a3⟩, b, c1, d, e, f, g, i, j, k, l⟩ := h
  refine ⟨g, i, fun n hn h3 => ?_⟩
  obtain ⟨j1, j2, F, j3, j4, j5⟩ := j n hn h3
  exact ⟨j1, j2, F, K, j3, e, by omega, j4, j5⟩
theorem REL.w0 {v : Nat → Int32} {r : Rw} {w w' : Nat → Int32} {q : Rw} {N L o K c : Nat} (h : REL v r w q N L o K c) (h1 : w' 1 = w 1) (h2 : w' 2 = w 2) (h4 : w' 4 = w 4) (h14 : w' 14 = w 14) (h16 : w' 16 = w 16) (h17 : w' 17 = w 17) (h18 : w' 18 = w 18) : REL v r w' q N L o K c := by
  unfold REL at h ⊢
  rw [h1, h2, h4, h14, h16, h17, h18]
  exact h
theorem INV.th {v : Nat → Int32} {r : Rw} {w : Nat → Int32} {q : Rw} (h : INV v r w q) (x : Int32) : INV v r (vU w 0 x) q := by
  obtain ⟨N, L, o, K, c, ht, sl, h1, h2⟩ := h
  exact ⟨N, L, o, K, c, ht, sl, h1, h2.w0 rfl rfl rfl rfl rfl rfl rfl⟩
/-- the class's climb is the reference's -/
theorem wi_eq {v : Nat → Int32} {r : Rw} {w : Nat → Int32} {q : Rw} {N L o K c : Nat} {ht sl : Nat → Nat} (hT : TRE q N L ht sl) (hR : REL v r w q N L o K c) (x : Int32) : ∀ f i, i < L → wiF (r 10) (r 2) x f (nI i) = wiF (q 1) (q 2) x f (nI i)
  | 0, i, hi => rfl
  | f + 1, i, hi => by
    have hL := hT.1.2.2
    have hN := hT.1.1
    have e10 : r 10 i = q 1 i := hR.2.2.2.2.2.2.2.2.2.1 i hi
    have e2 : r 2 = q 2 := hR.2.2.2.2.2.2.1.1
    by_cases e : nI i = x
    · rw [e, wiF_eq, wiF_eq]
    · rcases hT.2.2.1 i (by omega) with h0 | ⟨n, i', e1, hn, e3, hi', hlt⟩
      · rw [wiF_no _ (by omega) e (e10.trans h0), wiF_no _ (by omega) e h0]
      · have hne : ¬ q 1 i = -1 := by rw [e1]; exact nI_ne_m1 (by omega)
        rw [wiF_st _ (by omega) (by omega) e hne e1 e3, wiF_st f (j := i) (n := n) (i := i') (by omega) (by omega) e (by rw [e10]; exact hne) (by rw [e10]; exact e1) (by rw [e2]; exact e3)]
        exact wi_eq hT hR x f i' hi'
/-- depths for the class's own climbs -/
def dpX (ht : Nat → Nat) (L j : Nat) : Nat := if j < L then dpH ht j else 100
theorem dpX_ok {v : Nat → Int32} {r : Rw} {w : Nat → Int32} {q : Rw} {N L o K c : Nat} {ht sl : Nat → Nat} (hT : TRE q N L ht sl) (hR : REL v r w q N L o K c) : (∀ j, j < L → dpX ht L j ≤ 29) ∧ ∀ j, j < 30 → r 10 j = -1 ∨ ∃ n i, r 10 j = nI n ∧ n < 120 ∧ r 2 n = nI i ∧ i < 30 ∧ dpX ht L i < dpX ht L j := by
  have hL := hT.1.2.2
  have hN := hT.1.1
  have e2 : r 2 = q 2 := hR.2.2.2.2.2.2.1.1
  refine ⟨fun j hj => by unfold dpX; rw [if_pos hj]; exact dpH_29 (by omega), fun j hj => ?_⟩
  by_cases hjL : j < L
  · rw [hR.2.2.2.2.2.2.2.2.2.1 j hjL]
    rcases hT.2.2.1 j hj with h0 | ⟨n, i, e1, hn, e3, hi, hlt⟩
    · exact Or.inl h0
    · refine Or.inr ⟨n, i, e1, by omega, by rw [e2]; exact e3, by omega, ?_⟩
      unfold dpX
      rw [if_pos hi, if_pos hjL]
      exact dpH_lt (by omega) hlt
  · obtain ⟨i, hi, e3⟩ := hT.2.1 0 (by decide)
    refine Or.inr ⟨0, i, hR.2.2.2.2.2.2.2.2.2.2 j (by omega) hj, by decide, by rw [e2]; exact e3, by omega, ?_⟩
    unfold dpX
    rw [if_pos hi, if_neg hjL]
    have := dpH_29 (ht := ht) (j := i) (by omega)
    omega
theorem ki_ok {q : Rw} {N L : Nat} {ht sl : Nat → Nat} (hT : TRE q N L ht sl) : ∀ i, i < N → ¬ q 4 i = -1 := fun i hi e => by
  have := (hT.2.2.2.2.1 i hi).1.1
  rw [e] at this
  exact absurd this (by decide)
/-! the calls that change nothing -/
theorem s_space {v : Nat → Int32} {r : Rw} {w : Nat → Int32} {q : Rw} (h : INV v r w q) (x y : Int32) : (spSp w q x y).2.1 0 = cP x y ∧ INV v r (spSp w q x y).2.1 (spSp w q x y).2.2 ∧ (cP x y = 0 → (spSp w q x y).1 = spU x y 0) := by
  have e : cP x y = thP x y := by
    unfold cP thP
    by_cases c : x < 0 ∨ 7 < x ∨ y < 0 ∨ 7 < y
    · rw [if_pos c, if_neg]
      intro hc
      simp only [i_lt, i_le, tI0, tI7, tI8] at c hc
      omega
    · rw [if_neg c, if_pos]
      simp only [i_lt, i_le, tI0, tI7, tI8] at c ⊢
      omega
  unfold spSp
  rw [e]
  by_cases c : thP x y = 0
  · rw [if_pos c]
    refine ⟨c.symm, h.th 0, fun _ => ?_⟩
    have hc : (0 ≤ x ∧ x < 8) ∧ (0 ≤ y ∧ y < 8) := by
      have := e.trans c
      unfold cP at this
      by_cases hh : (0 ≤ x ∧ x < 8) ∧ (0 ≤ y ∧ y < 8)
      · exact hh
      · rw [if_neg hh] at this; exact absurd this (by decide)
    show (if 2 ≤ ltr x y then ltr x y - 1 else ltr x y) = spU x y 0
    unfold spU
    rw [if_pos hc, if_pos (show (0 : Int32) ≤ 1 by decide)]
    rcases ltr_r x y with f | f | f | f | f <;> rw [f] <;> decide
  · rw [if_neg c]
    have h1 : thP x y = 1 := by
      unfold thP at c ⊢
      split
      · rfl
      · rename_i hh; rw [if_neg hh] at c; exact absurd rfl c
    exact ⟨h1.symm, h.th 1, fun h0 => absurd h0 c⟩
theorem s_kind {v : Nat → Int32} {r : Rw} {w : Nat → Int32} {q : Rw} {N L o K c : Nat} {ht sl : Nat → Nat} (hT : TRE q N L ht sl) (hR : REL v r w q N L o K c) (x : Int32) : (spKi w q N x).2.1 0 = cK r N x ∧ INV v r (spKi w q N x).2.1 (spKi w q N x).2.2 ∧ (cK r N x = 0 → (spKi w q N x).1 = cnA (r 2) (r 3) (r 4) N x.toNatClampNeg) := by
  have hI : INV v r w q := ⟨N, L, o, K, c, ht, sl, hT, hR⟩
  obtain ⟨e2, e3, e4, _⟩ := hR.2.2.2.2.2.2.1
  unfold spKi cK
  rw [e2, e3, e4]
  by_cases h : 0 ≤ x ∧ x < nI N ∧ ¬ q 3 x.toNatClampNeg = 4
  · rw [if_pos h, bI_1 h, if_neg (by decide)]
    exact ⟨rfl, hI.th 0, fun _ => rfl⟩
  · rw [if_neg h, bI_0 h, if_pos rfl]
    exact ⟨rfl, hI.th 1, fun h0 => absurd h0 (by decide)⟩
theorem s_item {v : Nat → Int32} {r : Rw} {w : Nat → Int32} {q : Rw} {N L o K c : Nat} {ht sl : Nat → Nat} (hT : TRE q N L ht sl) (hR : REL v r w q N L o K c) (x y : Int32) : (spIt w q x y).2.1 0 = cI9 v x y ∧ INV v r (spIt w q x y).2.1 (spIt w q x y).2.2 ∧ (cI9 v x y = 0 → (spIt w q x y).1 = (if x = -1 then (if y = 0 then v 5 else if y = 1 then v 6 else v 7) else r 19 (8 * x.toNatClampNeg + y.toNatClampNeg))) := by
  have hI : INV v r w q := ⟨N, L, o, K, c, ht, sl, hT, hR⟩
  obtain ⟨f1, f2, f3, f4, f5, f6⟩ := hR.2.2.2.2.2.1
  have hc := hR.1.2.1
  have e : cI9 v x y = thI w x y := by
    unfold cI9 thI
    rw [f1, f2]
    have hn : (nI c).toInt = c := nI_toInt (by omega)
    by_cases hh : x < -1 ∨ nI c ≤ x ∨ y < 0 ∨ (x = -1 ∧ 2 < y) ∨ (¬ x = -1 ∧ 7 < y)
    · rw [if_pos hh, if_neg]
      intro h2
      simp only [i_lt, i_le, i_eq, tI0, tI1, tI2, tI7, tI8, tIm1, hn] at hh h2
      omega
    · rw [if_neg hh, if_pos]
      simp only [i_lt, i_le, i_eq, tI0, tI1, tI2, tI7, tI8, tIm1, hn] at hh ⊢
      omega
  unfold spIt
  rw [e]
  by_cases h : thI w x y = 0
  · rw [if_pos h]
    refine ⟨h.symm, hI.th 0, fun _ => ?_⟩
    show (if x = -1 then (if y = 0 then w 16 else if y = 1 then w 17 else w 18) else q 11 (8 * x.toNatClampNeg + y.toNatClampNeg)) = _
    rw [f3, f4, f5]
    by_cases hx : x = -1
    · rw [if_pos hx, if_pos hx]
    · rw [if_neg hx, if_neg hx]
      have h9 := e.trans h
      unfold cI9 at h9
      by_cases hz : (x = -1 ∧ 0 ≤ y ∧ y ≤ 2) ∨ (0 ≤ x ∧ x < v 4 ∧ 0 ≤ y ∧ y < 8)
      · have hz2 := hz.resolve_left (fun g => hx g.1)
        rw [f1] at hz2
        have i1 := ix_of (N := c) (M := 150) (Int32.not_lt.mpr hz2.1) hz2.2.1 rfl hc (by decide)
        have i2 := ix_of (N := 8) (M := 8) (Int32.not_lt.mpr hz2.2.2.1) hz2.2.2.2 rfl (by omega) (by decide)
        have i3 := hz2.2.1
        rw [i1.1, nI_ltI (by omega) (by omega)] at i3
        exact (f6 _ (by omega)).symm
      · rw [if_neg hz] at h9; exact absurd h9 (by decide)
  · rw [if_neg h]
    have h1 : thI w x y = 1 := by
      unfold thI at h ⊢
      split
      · rfl
      · rename_i hh; rw [if_neg hh] at h; exact absurd rfl h
    exact ⟨h1.symm, hI.th 1, fun h0 => absurd h0 h⟩
