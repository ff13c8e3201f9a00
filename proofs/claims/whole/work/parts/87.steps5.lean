/-- the run: what the class's call and the reference's call leave -/
theorem s_run {v : Nat → Int32} {r : Rw} {w : Nat → Int32} {q : Rw} {N L o K c : Nat} {ht sl : Nat → Nat} (hT : TRE q N L ht sl) (hR : REL v r w q N L o K c) (x : Int32) (a : Int32) (w' : Nat → Int32) (q' : Rw)
    (hq : (bI (0 ≤ x ∧ x < w 1) = 0 → (a, w', q') = (0, vU w 0 1, q)) ∧ (¬ bI (0 ≤ x ∧ x < w 1) = 0 → ∃ y h d e f z, (a, w', q') = (nI (0 + (PL q N 30 x 0 0 0 0).length), rnV w (0 + (PL q N 30 x 0 0 0 0).length) (ML q N 30 x 0 0).1 (ML q N 30 x 0 0).2.1 (ML q N 30 x 0 0).2.2 y h d e f, rU (rU q 11 (ptI (q 11) 0 (PL q N 30 x 0 0 0 0))) 12 z))) :
    w' 0 = cR v x ∧ (¬ cR v x = 0 → INV v r w' q') ∧ (cR v x = 0 → ∀ a2 v' r', (a2 = nI (PL q N 30 (nI x.toNatClampNeg) 0 0 0 0).length ∧ v' = vU (vU (vU (vU v 4 (nI (PL q N 30 (nI x.toNatClampNeg) 0 0 0 0).length)) 5 (ML q N 30 (nI x.toNatClampNeg) 0 0).1) 6 (ML q N 30 (nI x.toNatClampNeg) 0 0).2.1) 7 (ML q N 30 (nI x.toNatClampNeg) 0 0).2.2 ∧ SB r r' ∧ r' 19 = ptI (r 19) 0 (PL q N 30 (nI x.toNatClampNeg) 0 0 0 0)) → a = a2 ∧ INV v' r' w' q') := by
  have hI : INV v r w q := ⟨N, L, o, K, c, ht, sl, hT, hR⟩
  obtain ⟨hN, hL1, hL⟩ := hT.1
  have hv1 := hR.2.2.1
  unfold cR
  rw [hv1.2] at hq
  rw [hv1.1]
  by_cases hx : 0 ≤ x ∧ x < nI L
  · rw [if_pos hx]
    have h1 := hq.2 (by rw [bI_1 hx]; decide)
    obtain ⟨y, h, d, e, f, z, h2⟩ := h1
    obtain ⟨rfl, h3⟩ := Prod.mk.inj h2
    obtain ⟨rfl, rfl⟩ := Prod.mk.inj h3
    have ix := ls_of hL hx
    rw [← ix.1]
    have hlen : (PL q N 30 x 0 0 0 0).length ≤ 150 := by
      have := pl_150 hT.ly 30 x.toNatClampNeg 0 0 (by omega)
      rw [← ix.1] at this
      exact this
    generalize (PL q N 30 x 0 0 0 0) = P at hlen ⊢
    generalize (ML q N 30 x 0 0) = M
    refine ⟨rfl, fun g => absurd rfl g, fun _ a2 v' r' h9 => ?_⟩
    obtain ⟨rfl, rfl, hs, h19⟩ := h9
    refine ⟨by rw [Nat.zero_add], N, L, o, K, P.length, ht, sl, hT.eq (fun i hi => ?_), ?_⟩
    · rw [rU_n (by omega), rU_n (by omega)]
    · obtain ⟨⟨a1, a2, a3⟩, b, c1, d1, e1, f1, g, i, j, k, l⟩ := hR
      refine ⟨⟨a1, hlen, a3⟩, b, c1, d1, e1, ⟨rfl, ?_, rfl, rfl, rfl, fun j hj => ?_⟩, ?_, ?_, ?_, ?_, ?_⟩
      · show nI (0 + P.length) = nI P.length; rw [Nat.zero_add]
      · rw [h19]
        show ptI (r 19) 0 P j = ptI (q 11) 0 P j
        unfold ptI
        rw [if_pos ⟨by omega, by omega⟩, if_pos ⟨by omega, by omega⟩]
      · rw [hs 2 (by decide), hs 3 (by decide), hs 4 (by decide), hs 5 (by decide), hs 6 (by decide)]; exact g
      · rw [hs 7 (by decide), hs 8 (by decide), hs 9 (by decide)]; exact i
      · rw [hs 7 (by decide), hs 8 (by decide), hs 9 (by decide), hs 11 (by decide)]; exact j
      · rw [hs 10 (by decide)]; exact k
      · rw [hs 10 (by decide)]; exact l
  · rw [if_neg hx]
    have h2 := hq.1 (bI_0 hx)
    obtain ⟨rfl, h3⟩ := Prod.mk.inj h2
    obtain ⟨rfl, rfl⟩ := Prod.mk.inj h3
    exact ⟨rfl, fun _ => hI.th _, fun g => absurd g (by decide)⟩
