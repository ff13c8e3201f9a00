/-- cells of no node may change -/
theorem cells_inv {v : Nat → Int32} {r : Rw} {w w' : Nat → Int32} {q : Rw} {N L o K c : Nat} {ht sl : Nat → Nat} (hT : TRE q N L ht sl) (hR : REL v r w q N L o K c) {F : Nat → Int32} (hF : ∀ i, i < 25 * N → F i = q 10 i) (x : Int32) (hw : w' = vU w 0 x) : INV v r w' (rU q 10 F) := by
  have h25 : ∀ n, n < N → q 3 n = 3 → (q 5 n).toNatClampNeg * (q 6 n).toNatClampNeg ≤ 25 := by
    intro n hn h3
    rcases (hT.2.2.2.2.1 n hn).2.2.2 with g | g | g | g | g
    · exact absurd (h3.symm.trans g.1) (by decide)
    · exact absurd (h3.symm.trans g.1) (by decide)
    · exact absurd (h3.symm.trans g.1) (by decide)
    · obtain ⟨_, R, C, eR, eC, t1, t2, t3, t4, _⟩ := g
      rw [eR, eC, nI_clamp (by omega), nI_clamp (by omega)]
      exact Nat.mul_le_mul t2 t4
    · exact absurd (h3.symm.trans g.1) (by decide)
  obtain ⟨t1, t2, t3, t4, t5, t6, t7⟩ := hT
  rw [hw]
  refine INV.th (v := v) (r := r) (w := w) (q := rU q 10 F) ⟨N, L, o, K, c, ht, sl, ⟨t1, t2, t3, fun n hn s j hf => t4 n hn s j ?_, fun n hn => ?_, t6, t7⟩, ?_⟩ x
  · refine ⟨hf.1, ?_⟩
    rcases hf.2 with g | g | g | g | ⟨g1, g2, g3, g4⟩
    · exact Or.inl g
    · exact Or.inr (Or.inl g)
    · exact Or.inr (Or.inr (Or.inl g))
    · exact Or.inr (Or.inr (Or.inr (Or.inl g)))
    · have g2' : q 3 n = 3 := g2
      have g3' : s - 4 < (q 5 n).toNatClampNeg * (q 6 n).toNatClampNeg := g3
      have h9 := h25 n hn g2'
      have g4' : F (25 * n + (s - 4)) = nI j := g4
      refine Or.inr (Or.inr (Or.inr (Or.inr ⟨g1, g2', g3', ?_⟩)))
      rw [← hF _ (by omega)]; exact g4'
  · obtain ⟨k1, k2, k3, k4⟩ := t5 n hn
    refine ⟨k1, k2, k3, ?_⟩
    rcases k4 with g | g | g | ⟨g1, R, C, eR, eC, u1, u2, u3, u4, u5⟩ | g
    · exact Or.inl g
    · exact Or.inr (Or.inl g)
    · exact Or.inr (Or.inr (Or.inl g))
    · refine Or.inr (Or.inr (Or.inr (Or.inl ⟨g1, R, C, eR, eC, u1, u2, u3, u4, fun t ht => ?_⟩)))
      have h9 : R * C ≤ 25 := Nat.mul_le_mul u2 u4
      show isLs (F (25 * n + t))
      rw [hF _ (by omega)]; exact u5 t ht
    · exact Or.inr (Or.inr (Or.inr (Or.inr g)))
  · obtain ⟨a, b, c1, d, e1, f, g, i, j, k, l⟩ := hR
    refine ⟨a, b, c1, d, e1, f, g, i, fun n hn h3 => ?_, k, l⟩
    obtain ⟨j1, j2, F0, j3, j4, j5⟩ := j n hn h3
    have h9 := h25 n hn h3
    refine ⟨j1, j2, F0, j3, j4, fun t ht => ?_⟩
    show r 11 (F0 + t) = F (25 * n + t)
    have ht' : t < (q 5 n).toNatClampNeg * (q 6 n).toNatClampNeg := ht
    rw [hF _ (by omega)]; exact j5 t ht
theorem ok_iff {v : Nat → Int32} {r : Rw} {w : Nat → Int32} {q : Rw} {N L o K c : Nat} {ht sl : Nat → Nat} (hT : TRE q N L ht sl) (hR : REL v r w q N L o K c) (l : Nat) (h0 : 0 < l) (hl : l < L) : okC (r 10) (nI o) l = true ↔ (q 1 l = -1 ∧ ¬ l = o) := by
  have hL := hT.1.2.2
  have ho := hR.1.1
  unfold okC
  rw [decide_eq_true_iff, hR.2.2.2.2.2.2.2.2.2.1 l hl]
  constructor
  · rintro ⟨h1, h2, h3⟩
    exact ⟨h3, fun e => h1 (by rw [e])⟩
  · rintro ⟨h1, h2⟩
    refine ⟨fun e => h2 (nI_inj (by omega) (by omega) e), fun e => ?_, h1⟩
    have := nI_inj (a := l) (b := 0) (by omega) (by omega) e
    omega
theorem ok_pos {h : Nat → Int32} {o : Int32} {l : Nat} (hk : okC h o l = true) : 0 < l := by
  have := of_decide_eq_true hk
  by_cases e : l = 0
  · exact absurd (by rw [e]; rfl) this.2.1
  · omega
/-- the class's room for cells -/
theorem hkb_of {v : Nat → Int32} {r : Rw} {w : Nat → Int32} {q : Rw} {N L o K c : Nat} {ht sl : Nat → Nat} (hT : TRE q N L ht sl) (hR : REL v r w q N L o K c) (f0 : Nat) (hf : f0 ≤ L) : K + cnB (okC (r 10) (v 2)) f0 (L - f0) ≤ 30 := by
  have hL := hT.1.2.2
  have h1 := hR.1.2.2
  have e := cn_split (fun j => decide (q 1 j = -1)) 0 f0 (L - f0)
  rw [show f0 + (L - f0) = L by omega, Nat.zero_add] at e
  have h2 := cn_add (p := okC (r 10) (v 2)) (p' := fun _ => false) (s := fun j => decide (q 1 j = -1)) (a := f0) (L - f0) (by
    intro l g1 g2
    refine ⟨fun g => ⟨?_, fun h => Bool.noConfusion h⟩, fun h => Bool.noConfusion h⟩
    rw [hR.2.2.2.1.1] at g
    exact decide_eq_true ((ok_iff hT hR l (ok_pos g) (by omega)).mp g).1)
  omega
