theorem rl_eq {r q : Rw} (h2 : r 2 = q 2) (h3 : r 3 = q 3) (h4 : r 4 = q 4) (x i : Int32) : ∀ k, rlS r x i k = rlS q x i k
  | 0 => rfl
  | k + 1 => by
    rw [rlS, rlS, h2, h3, h4, rl_eq h2 h3 h4 x i k]
theorem s_split {v : Nat → Int32} {r : Rw} {w : Nat → Int32} {q : Rw} {N L o K c : Nat} {ht sl : Nat → Nat} (hT : TRE q N L ht sl) (hR : REL v r w q N L o K c) (x y : Int32) : (spSl w q N x y).2.1 0 = cL v r N x y ∧ (¬ cL v r N x y = 0 → INV v r (spSl w q N x y).2.1 (spSl w q N x y).2.2) ∧
    (cL v r N x y = 0 → ∀ a v' r', (a, v', r') = (v 1, vU (vU v 1 (v 1 + 1)) 2 (if v 2 = x then v 1 else v 2), rU (rU r 2 (mvF (r 2) x (v 1) (rlS r x y N).2.toNatClampNeg N)) 10 (upd (r 10) L (-1))) → (spSl w q N x y).1 = a ∧ INV v' r' (spSl w q N x y).2.1 (spSl w q N x y).2.2) := by
  have hI : INV v r w q := ⟨N, L, o, K, c, ht, sl, hT, hR⟩
  obtain ⟨hN, hL1, hL⟩ := hT.1
  have hv1 := hR.2.2.1
  have hv2 := hR.2.2.2.1
  have fl := full_l hL
  obtain ⟨e2, e3, e4, _⟩ := hR.2.2.2.2.2.2.1
  have er := rl_eq e2 e3 e4 x y N
  by_cases hx : 0 ≤ x ∧ x < nI L
  · have nx : ¬ ¬ (0 ≤ x ∧ x < nI L) := fun g => g hx
    unfold spSl cL
    rw [er, hv1.1, hv1.2, hv2.1, hv2.2, bI_1 hx, if_neg (by decide), if_neg nx]
    by_cases hr : (rlS q x y N).2 = -1
    · rw [if_pos hr, if_pos hr]
      exact ⟨rfl, fun _ => hI.th _, fun g => absurd g (by decide)⟩
    · rw [if_neg hr, if_neg hr]
      by_cases hl : nI L < 30
      · rw [if_pos hl, if_neg (fl.mp hl)]
        refine ⟨rfl, fun g => absurd rfl g, fun _ a v' r' hz => ?_⟩
        obtain ⟨rfl, hz2⟩ := Prod.mk.inj hz
        obtain ⟨rfl, rfl⟩ := Prod.mk.inj hz2
        have hl2 : L < 30 := (nI_ltI (b := 30) (by omega) (by decide)).mp hl
        have hxL := ls_of hL hx
        have a1 : nI L + 1 - 1 = nI L := by rw [nI_1]; exact (show nI (L + 1) - 1 = nI L by rw [← nI_1]; exact Int32.add_sub_cancel _ _)
        refine ⟨a1, N, L + 1, (if nI o = x then L else o), K, c, _, sl, TRE.split (a0 := (rlS q x y N).2.toNatClampNeg) (x := x.toNatClampNeg) hT hl2 hxL.2 ?_ ?_, ?_⟩
        · show mvF (q 2) x (nI L) _ N = mvF (q 2) (nI x.toNatClampNeg) (nI L) _ N
          rw [← hxL.1]
        · intro i hi
          exact rU_n hi
        · obtain ⟨⟨a1, a2, a3⟩, b, c1, d, e1, f, g, i, j, k, l⟩ := hR
          have hoo : nI (if nI o = x then L else o) = if nI o = x then nI L else nI o := by split <;> rfl
          refine ⟨⟨?_, a2, ?_⟩, b, ⟨?_, ?_⟩, ⟨?_, ?_⟩, e1, f, ⟨?_, g.2.1, g.2.2.1, g.2.2.2.1, g.2.2.2.2⟩, i, j, fun j hj => ?_, fun j hj hj2 => ?_⟩
          · split <;> omega
          · have hl := cn_last (fun j => decide (q 1 j = -1)) L
            show K + cnB (fun j => decide (q 1 j = -1)) 0 (L + 1) ≤ L + 1
            omega
          · show nI L + 1 = nI (L + 1); exact nI_1 L
          · show nI L + 1 = nI (L + 1); exact nI_1 L
          · show (if nI o = x then nI L else nI o) = _; rw [hoo]
          · show (if nI o = x then nI L else nI o) = _; rw [hoo]
          · show mvF (r 2) x (nI L) _ N = mvF (q 2) x (nI L) _ N
            rw [e2]
          · show upd (r 10) L (-1) j = q 1 j
            by_cases ej : j = L
            · subst ej; rw [pk_us]; exact (hT.2.2.2.2.2.2 j (Nat.le_refl _) hl2).symm
            · rw [pk_un ej]; exact k j (by omega)
          · show upd (r 10) L (-1) j = 0
            rw [pk_un (by omega)]; exact l j (by omega) hj2
      · rw [if_neg hl, if_pos (Classical.not_not.mp (fun g => hl (fl.mpr g)))]
        exact ⟨rfl, fun _ => hI.th _, fun g => absurd g (by decide)⟩
  · unfold spSl cL
    rw [hv1.1, hv1.2, bI_0 hx, if_pos rfl, if_pos hx]
    exact ⟨rfl, fun _ => hI.th _, fun g => absurd g (by decide)⟩
/-- A SCRIPT COMES to a node -/
theorem sc_inv {v : Nat → Int32} {r r' : Rw} {w : Nat → Int32} {q q' : Rw} {N L o K c : Nat} {ht sl : Nat → Nat} (hT : TRE q N L ht sl) (hR : REL v r w q N L o K c) {n j k s : Nat} (hn : n < N) (hk : k < L) (ek : q 2 n = nI k) (h4 : ¬ q 3 n = 4) (az : 0 < j ∧ j < L ∧ q 1 j = -1 ∧ wn q j k = false)
    (q1 : q' 1 = upd (q 1) j (nI n)) (q8 : ∀ t, q' 8 t = if s = 2 ∧ t = n then nI j else q 8 t) (q9 : ∀ t, q' 9 t = if s = 3 ∧ t = n then nI j else q 9 t) (hq : ∀ i, ¬ i = 1 → ¬ i = 8 → ¬ i = 9 → q' i = q i) (r5 : r' 5 = q' 8) (r6 : r' 6 = q' 9) (r10 : r' 10 = upd (r 10) j (nI n)) (hr : ∀ i, ¬ i = 5 → ¬ i = 6 → ¬ i = 10 → r' i = r i) : INV v r' (vU w 0 0) q' := by
  have hN := hT.1.1
  have hL := hT.1.2.2
  have q2 : q' 2 = q 2 := hq 2 (by decide) (by decide) (by decide)
  have q3 : q' 3 = q 3 := hq 3 (by decide) (by decide) (by decide)
  have q4 : q' 4 = q 4 := hq 4 (by decide) (by decide) (by decide)
  have q5 : q' 5 = q 5 := hq 5 (by decide) (by decide) (by decide)
  have q6 : q' 6 = q 6 := hq 6 (by decide) (by decide) (by decide)
  have q7 : q' 7 = q 7 := hq 7 (by decide) (by decide) (by decide)
  have q10 : q' 10 = q 10 := hq 10 (by decide) (by decide) (by decide)
  have q11 : q' 11 = q 11 := hq 11 (by decide) (by decide) (by decide)
  have q1' : ∀ t, t < 30 → q' 1 t = if decide (t = j) = true then nI n else q 1 t := by
    intro t _
    rw [q1]
    by_cases e : t = j
    · subst e; rw [pk_us, if_pos (by simp)]
    · rw [pk_un e, if_neg (by simp [e])]
  have hT' := TRE.att (q' := q') (N' := N) (n := n) (k := k) (att := fun t => decide (t = j)) (sl' := fun t => if t = j then s else sl t) hT (Nat.le_refl _) hN hn hk (by rw [q2]; exact ek) (fun n' _ => by rw [q2]) (fun n' h => by rw [q2]; exact hT.2.1 n' h) (fun t ht => by rw [of_decide_eq_true ht]; exact az) q1'
    (fun n' hn' hne => ⟨hn', fun s' t hf => by
      unfold FLD at hf ⊢
      rw [q3, q5, q6, q8, q9, q10, if_neg (fun g => hne g.2), if_neg (fun g => hne g.2)] at hf
      exact hf⟩)
    (fun s' t hf => by
      by_cases e8 : s = 2 ∧ s' = 2
      · right
        rcases hf.2 with g | g | g | g | g
        · have := g.1; omega
        · have := g.1; omega
        · have g2 := g.2
          rw [q8, if_pos ⟨e8.1, rfl⟩] at g2
          have : j = t := nI_inj (by omega) (by have := hf.1; omega) g2
          subst this
          exact ⟨by simp, by show (if j = j then s else sl j) = s'; rw [if_pos rfl]; omega⟩
        · have := g.1; omega
        · have := g.1; omega
      · by_cases e9 : s = 3 ∧ s' = 3
        · right
          rcases hf.2 with g | g | g | g | g
          · have := g.1; omega
          · have := g.1; omega
          · have := g.1; omega
          · have g2 := g.2
            rw [q9, if_pos ⟨e9.1, rfl⟩] at g2
            have : j = t := nI_inj (by omega) (by have := hf.1; omega) g2
            subst this
            exact ⟨by simp, by show (if j = j then s else sl j) = s'; rw [if_pos rfl]; omega⟩
          · have := g.1; omega
        · left
          refine ⟨hn, hf.1, ?_⟩
          rcases hf.2 with g | g | g | g | g
          · rw [q3, q5] at g; exact Or.inl g
          · rw [q3, q6] at g; exact Or.inr (Or.inl g)
          · rw [q8, if_neg (fun h => e8 ⟨h.1, g.1⟩)] at g; exact Or.inr (Or.inr (Or.inl g))
          · rw [q9, if_neg (fun h => e9 ⟨h.1, g.1⟩)] at g; exact Or.inr (Or.inr (Or.inr (Or.inl g)))
          · rw [q3, q5, q6, q10] at g; exact Or.inr (Or.inr (Or.inr (Or.inr g))))
    (fun t ht => by
      have : ¬ t = j := by simpa using ht
      show (if t = j then s else sl t) = sl t
      rw [if_neg this])
    (fun n' hn' => by
      have h1 := hT.2.2.2.2.1 n' hn'
      have l8 : q' 8 n' = -1 ∨ isLs (q' 8 n') := by
        rw [q8]
        by_cases g : s = 2 ∧ n' = n
        · rw [if_pos g]; exact Or.inr ⟨j, by omega, rfl⟩
        · rw [if_neg g]; exact h1.2.1
      have l9 : q' 9 n' = -1 ∨ isLs (q' 9 n') := by
        rw [q9]
        by_cases g : s = 3 ∧ n' = n
        · rw [if_pos g]; exact Or.inr ⟨j, by omega, rfl⟩
        · rw [if_neg g]; exact h1.2.2.1
      refine ⟨by rw [q4]; exact h1.1, l8, l9, ?_⟩
      rw [q3, q5, q6, q7, q10]
      rcases h1.2.2.2 with g | g | g | g | g
      · exact Or.inl g
      · exact Or.inr (Or.inl g)
      · exact Or.inr (Or.inr (Or.inl g))
      · exact Or.inr (Or.inr (Or.inr (Or.inl g)))
      · have hne : ¬ n' = n := fun h => h4 (by rw [← h]; exact g.1)
        refine Or.inr (Or.inr (Or.inr (Or.inr ⟨g.1, g.2.1, ?_, ?_⟩)))
        · rw [q8, if_neg (fun h => hne h.2)]; exact g.2.2.1
        · rw [q9, if_neg (fun h => hne h.2)]; exact g.2.2.2)
  refine ⟨N, L, o, K, c, _, _, hT', ?_⟩
  obtain ⟨⟨a1, a2, a3⟩, b, c1, d, e1, f, g, i, jj, kk, l⟩ := hR
  have r2 : r' 2 = r 2 := hr 2 (by decide) (by decide) (by decide)
  have r3 : r' 3 = r 3 := hr 3 (by decide) (by decide) (by decide)
  have r4 : r' 4 = r 4 := hr 4 (by decide) (by decide) (by decide)
  have r7 : r' 7 = r 7 := hr 7 (by decide) (by decide) (by decide)
  have r8 : r' 8 = r 8 := hr 8 (by decide) (by decide) (by decide)
  have r9 : r' 9 = r 9 := hr 9 (by decide) (by decide) (by decide)
  have r11 : r' 11 = r 11 := hr 11 (by decide) (by decide) (by decide)
  have r19 : r' 19 = r 19 := hr 19 (by decide) (by decide) (by decide)
  refine ⟨⟨a1, a2, ?_⟩, b, c1, d, e1, ?_, ⟨by rw [r2, q2]; exact g.1, by rw [r3, q3]; exact g.2.1, by rw [r4, q4]; exact g.2.2.1, r5, r6⟩, ?_, ?_, fun t ht => ?_, fun t ht ht2 => ?_⟩
  · have := cn_mono (p := fun j => decide (q' 1 j = -1)) (p' := fun j => decide (q 1 j = -1)) L (by
      intro t ht h1
      have h2 := of_decide_eq_true h1
      rw [q1' t (by omega)] at h2
      by_cases cc : decide (t = j) = true
      · rw [if_pos cc] at h2; exact absurd h2 (nI_ne_m1 (by omega))
      · rw [if_neg cc] at h2; exact decide_eq_true h2)
    omega
  · rw [r19, q11]; exact f
  · rw [r7, r8, r9, q3, q5, q6, q7]; exact i
  · rw [r7, r8, r9, r11, q3, q5, q6, q10]; exact jj
  · rw [r10, q1]
    by_cases e : t = j
    · subst e; rw [pk_us, pk_us]
    · rw [pk_un e, pk_un e]; exact kk t ht
  · rw [r10, pk_un (by omega)]; exact l t ht ht2
theorem s_script {v : Nat → Int32} {r : Rw} {w : Nat → Int32} {q : Rw} {N L o K c : Nat} {ht sl : Nat → Nat} (hT : TRE q N L ht sl) (hR : REL v r w q N L o K c) (x y z : Int32) : (spSc w q N x y z).2.1 0 = cS v r N x y z ∧ (¬ cS v r N x y z = 0 → INV v r (spSc w q N x y z).2.1 (spSc w q N x y z).2.2) ∧
    (cS v r N x y z = 0 → ∀ a v' r', (a, v', r') = (if y = 0 then ((if r 5 x.toNatClampNeg = -1 then 0 else 1) + (if upd (r 6) x.toNatClampNeg z x.toNatClampNeg = -1 then 0 else 1), v, rU (rU r 6 (upd (r 6) x.toNatClampNeg z)) 10 (upd (r 10) z.toNatClampNeg x)) else ((if upd (r 5) x.toNatClampNeg z x.toNatClampNeg = -1 then 0 else 1) + (if r 6 x.toNatClampNeg = -1 then 0 else 1), v, rU (rU r 5 (upd (r 5) x.toNatClampNeg z)) 10 (upd (r 10) z.toNatClampNeg x))) → (spSc w q N x y z).1 = a ∧ INV v' r' (spSc w q N x y z).2.1 (spSc w q N x y z).2.2) := by
  have hI : INV v r w q := ⟨N, L, o, K, c, ht, sl, hT, hR⟩
  obtain ⟨hN, hL1, hL⟩ := hT.1
  have hv1 := hR.2.2.1
  obtain ⟨e2, e3, e4, e5, e6⟩ := hR.2.2.2.2.2.2.1
  by_cases hb : ¬ (0 ≤ x ∧ x < nI N ∧ ¬ q 3 x.toNatClampNeg = 4) ∨ ¬ (0 ≤ z ∧ z < nI L)
  · have a1 : cS v r N x y z = 1 := by unfold cS; rw [e3, hv1.1, if_pos hb]
    have a2 : thC w q N x y z = 1 := by unfold thC; rw [hv1.2, if_pos hb]
    unfold spSc
    rw [a1, a2, if_neg (by decide)]
    exact ⟨rfl, fun _ => hI.th _, fun g => absurd g (by decide)⟩
  · have hx : 0 ≤ x ∧ x < nI N ∧ ¬ q 3 x.toNatClampNeg = 4 := Classical.not_not.mp (fun g => hb (Or.inl g))
    have hz : 0 ≤ z ∧ z < nI L := Classical.not_not.mp (fun g => hb (Or.inr g))
    have ix := at_ix hx hN
    have iz := ls_of hL hz
    have ez := iz.1
    obtain ⟨k, hk, ek⟩ := hT.2.1 x.toNatClampNeg (by omega)
    have kz : ((¬ nI z.toNatClampNeg = 0 ∧ r 10 z.toNatClampNeg = -1) ∧ ¬ wiF (r 10) (r 2) z 30 (nI k) = true) ↔ ((0 < nI z.toNatClampNeg ∧ q 1 z.toNatClampNeg = -1) ∧ ¬ wiF (q 1) (q 2) z 30 (nI k) = true) := by
      have h2 := fr_iff hT hR iz.2 hk
      rw [← ez] at h2 ⊢
      exact h2
    have e : thC w q N x y z = cS v r N x y z := by
      unfold thC cS
      rw [e3, hv1.1, hv1.2, if_neg hb, if_neg hb, e5, e6, e2, ek]
      rw [e2] at kz
      by_cases hs : (if y = 0 then q 9 x.toNatClampNeg else q 8 x.toNatClampNeg) = -1
      · have ns : ¬ ¬ (if y = 0 then q 9 x.toNatClampNeg else q 8 x.toNatClampNeg) = -1 := fun g => g hs
        rw [if_neg ns]
        by_cases f2 : (¬ nI z.toNatClampNeg = 0 ∧ r 10 z.toNatClampNeg = -1) ∧ ¬ wiF (r 10) (q 2) z 30 (nI k) = true
        · rw [if_pos f2, if_neg (fun g => g.elim ns (fun g => g.elim (fun g => g (kz.mp f2).1) (kz.mp f2).2))]
        · rw [if_neg f2, if_pos]
          by_cases g1 : 0 < nI z.toNatClampNeg ∧ q 1 z.toNatClampNeg = -1
          · exact Or.inr (Or.inr (Classical.not_not.mp (fun g2 => f2 (kz.mpr ⟨g1, g2⟩))))
          · exact Or.inr (Or.inl g1)
      · rw [if_pos hs, if_pos (Or.inl hs)]
    unfold spSc
    rw [e]
    by_cases h0 : cS v r N x y z = 0
    · rw [if_pos h0]
      have h9 := h0
      unfold cS at h9
      rw [e3, hv1.1, if_neg hb, e5, e6, e2, ek] at h9
      rw [e2] at kz
      have hs : (if y = 0 then q 9 x.toNatClampNeg else q 8 x.toNatClampNeg) = -1 := by
        by_cases hs : (if y = 0 then q 9 x.toNatClampNeg else q 8 x.toNatClampNeg) = -1
        · exact hs
        · rw [if_pos hs] at h9; exact absurd h9 (by decide)
      have f2 : (¬ nI z.toNatClampNeg = 0 ∧ r 10 z.toNatClampNeg = -1) ∧ ¬ wiF (r 10) (q 2) z 30 (nI k) = true := by
        have ns : ¬ ¬ (if y = 0 then q 9 x.toNatClampNeg else q 8 x.toNatClampNeg) = -1 := fun g => g hs
        rw [if_neg ns] at h9
        by_cases f2 : (¬ nI z.toNatClampNeg = 0 ∧ r 10 z.toNatClampNeg = -1) ∧ ¬ wiF (r 10) (q 2) z 30 (nI k) = true
        · exact f2
        · rw [if_neg f2] at h9; exact absurd h9 (by decide)
      have az : 0 < z.toNatClampNeg ∧ z.toNatClampNeg < L ∧ q 1 z.toNatClampNeg = -1 ∧ wn q z.toNatClampNeg k = false := fr_at hL iz.2 (by rw [← ez]; rw [← ez] at kz; exact kz.mp (by rw [← ez] at f2; exact f2))
      have ex := ix.1
      have zm : ¬ z = -1 := by rw [ez]; exact nI_ne_m1 (by omega)
      by_cases hy : y = 0
      · rw [if_pos hy] at hs
        rw [if_pos hy]
        refine ⟨h0.symm, fun g => absurd h0 g, fun _ a v' r' h7 => ?_⟩
        rw [if_pos hy] at h7
        obtain ⟨rfl, h8⟩ := Prod.mk.inj h7
        obtain ⟨rfl, rfl⟩ := Prod.mk.inj h8
        refine ⟨?_, sc_inv (n := x.toNatClampNeg) (j := z.toNatClampNeg) (k := k) (s := 3) hT hR ix.2 hk ek hx.2.2 az ?_ ?_ ?_ ?_ ?_ ?_ ?_ ?_⟩
        · show (if q 8 x.toNatClampNeg = -1 then 1 else if upd (q 9) x.toNatClampNeg z x.toNatClampNeg = -1 then 1 else 2) = (if r 5 x.toNatClampNeg = -1 then 0 else 1) + (if upd (r 6) x.toNatClampNeg z x.toNatClampNeg = -1 then 0 else 1)
          rw [e5, e6, pk_us, if_neg zm, if_neg zm]
          by_cases g : q 8 x.toNatClampNeg = -1
          · rw [if_pos g, if_pos g]; decide
          · rw [if_neg g, if_neg g]; decide
        · show upd (q 1) z.toNatClampNeg x = _; rw [← ex]
        · intro t
          show q 8 t = _
          rw [if_neg (by omega)]
        · intro t
          show upd (q 9) x.toNatClampNeg z t = _
          by_cases g : t = x.toNatClampNeg
          · rw [if_pos ⟨rfl, g⟩, g, pk_us]; exact ez
          · rw [if_neg (fun h => g h.2), pk_un g]
        · intro i h1 h2 h3
          show rU (rU q 1 _) 9 _ i = _
          rw [rU_n h3, rU_n h1]
        · exact e5
        · show upd (r 6) x.toNatClampNeg z = upd (q 9) x.toNatClampNeg z
          rw [e6]
        · show upd (r 10) z.toNatClampNeg x = _; rw [← ex]
        · intro i h1 h2 h3
          show rU (rU r 6 _) 10 _ i = _
          rw [rU_n h3, rU_n h2]
      · rw [if_neg hy] at hs
        rw [if_neg hy]
        refine ⟨h0.symm, fun g => absurd h0 g, fun _ a v' r' h7 => ?_⟩
        rw [if_neg hy] at h7
        obtain ⟨rfl, h8⟩ := Prod.mk.inj h7
        obtain ⟨rfl, rfl⟩ := Prod.mk.inj h8
        refine ⟨?_, sc_inv (n := x.toNatClampNeg) (j := z.toNatClampNeg) (k := k) (s := 2) hT hR ix.2 hk ek hx.2.2 az ?_ ?_ ?_ ?_ ?_ ?_ ?_ ?_⟩
        · show (if upd (q 8) x.toNatClampNeg z x.toNatClampNeg = -1 then 1 else if q 9 x.toNatClampNeg = -1 then 1 else 2) = (if upd (r 5) x.toNatClampNeg z x.toNatClampNeg = -1 then 0 else 1) + (if r 6 x.toNatClampNeg = -1 then 0 else 1)
          rw [e5, e6, pk_us, if_neg zm, if_neg zm]
          by_cases g : q 9 x.toNatClampNeg = -1
          · rw [if_pos g, if_pos g]; decide
          · rw [if_neg g, if_neg g]; decide
        · show upd (q 1) z.toNatClampNeg x = _; rw [← ex]
        · intro t
          show upd (q 8) x.toNatClampNeg z t = _
          by_cases g : t = x.toNatClampNeg
          · rw [if_pos ⟨rfl, g⟩, g, pk_us]; exact ez
          · rw [if_neg (fun h => g h.2), pk_un g]
        · intro t
          show q 9 t = _
          rw [if_neg (by omega)]
        · intro i h1 h2 h3
          show rU (rU q 1 _) 8 _ i = _
          rw [rU_n h2, rU_n h1]
        · show upd (r 5) x.toNatClampNeg z = upd (q 8) x.toNatClampNeg z
          rw [e5]
        · exact e6
        · show upd (r 10) z.toNatClampNeg x = _; rw [← ex]
        · intro i h1 h2 h3
          show rU (rU r 5 _) 10 _ i = _
          rw [rU_n h3, rU_n h1]
    · rw [if_neg h0]
      exact ⟨rfl, fun _ => hI.th _, fun g => absurd g h0⟩
