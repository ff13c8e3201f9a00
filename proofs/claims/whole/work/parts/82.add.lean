theorem cell_ne {n n' t : Nat} (ht : t < 25) (h : n' < n) : 25 * n' + t < 25 * n := by omega
/-- A NODE IS ADDED, and lists may come into it -/
theorem add_inv {v v' : Nat → Int32} {r r' : Rw} {w w' : Nat → Int32} {q q' : Rw} {N L o K K' c : Nat} {ht sl sl' : Nat → Nat} {att : Nat → Bool} {f k x y z a b e : Int32} (hT : TRE q N L ht sl) (hR : REL v r w q N L o K c) (hN : N < 120)
    (q2 : q' 2 = upd (q 2) N (nI o)) (q3 : q' 3 = upd (q 3) N f) (q4 : q' 4 = upd (q 4) N k) (q5 : q' 5 = upd (q 5) N x) (q6 : q' 6 = upd (q 6) N y) (q7 : q' 7 = upd (q 7) N z) (q8 : q' 8 = upd (q 8) N (-1)) (q9 : q' 9 = upd (q 9) N (-1)) (q1 : ∀ j, j < 30 → q' 1 j = if att j = true then nI N else q 1 j) (q10 : ∀ i, i < 25 * N → q' 10 i = q 10 i) (q11 : q' 11 = q 11)
    (r2 : r' 2 = upd (r 2) N (nI o)) (r3 : r' 3 = upd (r 3) N f) (r4 : r' 4 = upd (r 4) N k) (r5 : r' 5 = upd (r 5) N (-1)) (r6 : r' 6 = upd (r 6) N (-1)) (r7 : r' 7 = upd (r 7) N a) (r8 : r' 8 = upd (r 8) N b) (r9 : r' 9 = upd (r 9) N e) (r10 : ∀ j, j < 30 → r' 10 j = if att j = true then nI N else r 10 j) (r11 : ∀ i, i < K → r' 11 i = r 11 i) (r19 : r' 19 = r 19)
    (hv : v' 0 = nI (N + 1) ∧ v' 1 = v 1 ∧ v' 2 = v 2 ∧ v' 3 = nI K' ∧ v' 4 = v 4 ∧ v' 5 = v 5 ∧ v' 6 = v 6 ∧ v' 7 = v 7) (hw : w' 4 = nI (N + 1) ∧ w' 1 = w 1 ∧ w' 2 = w 2 ∧ w' 14 = w 14 ∧ w' 16 = w 16 ∧ w' 17 = w 17 ∧ w' 18 = w 18)
    (hK : K ≤ K') (hK' : K' + cnB (fun j => decide (q' 1 j = -1)) 0 L ≤ L) (hn3 : ¬ f = 3 → a = x ∧ b = y ∧ e = z) (h3 : f = 3 → b = x ∧ e = y ∧ ∃ F, a = nI F ∧ F + x.toNatClampNeg * y.toNatClampNeg ≤ K' ∧ ∀ t, t < x.toNatClampNeg * y.toNatClampNeg → r' 11 (F + t) = q' 10 (25 * N + t))
    (ha : ∀ j, att j = true → 0 < j ∧ j < L ∧ q 1 j = -1 ∧ wn q j o = false) (hfn : ∀ s j, FLD q' N s j → att j = true ∧ sl' j = s) (hsl : ∀ j, ¬ att j = true → sl' j = sl j) (hnd : NDK q' N) : INV v' r' w' q' := by
  obtain ⟨⟨a1, a2, a3⟩, ⟨b1, b2⟩, ⟨c1, c2⟩, ⟨d1, d2⟩, e1, ⟨f1, f2, f3, f4, f5, f6⟩, ⟨g2, g3, g4, g5, g6⟩, i1, j1, k1, l1⟩ := hR
  have hL := hT.1.2.2
  have un : ∀ (g : Nat → Int32) (x : Int32) (n : Nat), ¬ n = N → upd g N x n = g n := fun g x n hn => pk_un hn
  have hcell : ∀ n t, n < N → t < 25 → q' 10 (25 * n + t) = q 10 (25 * n + t) := fun n t hn ht => q10 _ (by omega)
  have h25 : ∀ n, n < N → q 3 n = 3 → (q 5 n).toNatClampNeg * (q 6 n).toNatClampNeg ≤ 25 := by
    intro n hn h3
    rcases (hT.2.2.2.2.1 n hn).2.2.2 with g | g | g | g | g
    · exact absurd (h3.symm.trans g.1) (by decide)
    · exact absurd (h3.symm.trans g.1) (by decide)
    · exact absurd (h3.symm.trans g.1) (by decide)
    · obtain ⟨_, R, C, eR, eC, t1, t2, t3, t4, _⟩ := g
      rw [eR, eC, nI_clamp (by omega), nI_clamp (by omega)]
      exact Nat.mul_le_mul t2 t4
    · exact absurd (h3.symm.trans g.1) (by decide)
  have hF : ∀ n s j, n < N → FLD q' n s j → FLD q n s j := by
    intro n s j hn h
    have hne : ¬ n = N := by omega
    unfold FLD at h ⊢
    rw [q3, q5, q6, q8, q9, un _ _ n hne, un _ _ n hne, un _ _ n hne, un _ _ n hne, un _ _ n hne] at h
    refine ⟨h.1, ?_⟩
    rcases h.2 with g | g | g | g | ⟨g1, g2, g3, g4⟩
    · exact Or.inl g
    · exact Or.inr (Or.inl g)
    · exact Or.inr (Or.inr (Or.inl g))
    · exact Or.inr (Or.inr (Or.inr (Or.inl g)))
    · have := h25 n hn g2
      rw [hcell n (s - 4) hn (by omega)] at g4
      exact Or.inr (Or.inr (Or.inr (Or.inr ⟨g1, g2, g3, g4⟩)))
  refine ⟨N + 1, L, o, K', c, _, sl', hT.att (n := N) (k := o) (N' := N + 1) (att := att) (q' := q') (by omega) (by omega) (by omega) a1 ?_ (fun n hn => ?_) (fun n hn => ?_) ha q1 (fun n hn hne => ⟨by omega, fun s j h => hF n s j (by omega) h⟩) (fun s j h => Or.inr (hfn s j h)) hsl (fun n hn => ?_), ?_⟩
  · rw [q2, pk_us]
  · rw [q2, un _ _ n (by omega)]
  · rw [q2]
    by_cases e0 : n = N
    · subst e0; exact ⟨o, a1, pk_us⟩
    · rw [un _ _ n e0]; exact hT.2.1 n hn
  · by_cases e0 : n = N
    · subst e0; exact hnd
    · have hlt : n < N := by omega
      have := hT.2.2.2.2.1 n hlt
      unfold NDK at this ⊢
      rw [q3, q4, q5, q6, q7, q8, q9, un _ _ n e0, un _ _ n e0, un _ _ n e0, un _ _ n e0, un _ _ n e0, un _ _ n e0, un _ _ n e0]
      refine ⟨this.1, this.2.1, this.2.2.1, ?_⟩
      rcases this.2.2.2 with g | g | g | g | g
      · exact Or.inl g
      · exact Or.inr (Or.inl g)
      · exact Or.inr (Or.inr (Or.inl g))
      · obtain ⟨g0, R, C, eR, eC, t1, t2, t3, t4, hls⟩ := g
        refine Or.inr (Or.inr (Or.inr (Or.inl ⟨g0, R, C, eR, eC, t1, t2, t3, t4, fun t ht => ?_⟩)))
        have hRC : R * C ≤ 25 := Nat.mul_le_mul t2 t4
        rw [hcell n t hlt (by omega)]
        exact hls t ht
      · exact Or.inr (Or.inr (Or.inr (Or.inr g)))
  · refine ⟨⟨a1, a2, hK'⟩, ⟨hv.1, hw.1⟩, ⟨hv.2.1.trans c1, hw.2.1.trans c2⟩, ⟨hv.2.2.1.trans d1, hw.2.2.1.trans d2⟩, hv.2.2.2.1, ⟨hv.2.2.2.2.1.trans f1, hw.2.2.2.1.trans f2, by rw [hv.2.2.2.2.2.1, hw.2.2.2.2.1]; exact f3, by rw [hv.2.2.2.2.2.2.1, hw.2.2.2.2.2.1]; exact f4, by rw [hv.2.2.2.2.2.2.2, hw.2.2.2.2.2.2]; exact f5, by rw [r19, q11]; exact f6⟩, ⟨by rw [r2, q2, g2], by rw [r3, q3, g3], by rw [r4, q4, g4], by rw [r5, q8, g5], by rw [r6, q9, g6]⟩, fun n hn h => ?_, fun n hn h => ?_, fun j hj => ?_, fun j hj hj2 => ?_⟩
    · rw [q3] at h
      rw [r7, r8, r9, q5, q6, q7]
      by_cases e0 : n = N
      · subst e0
        rw [pk_us] at h
        rw [pk_us, pk_us, pk_us, pk_us, pk_us, pk_us]
        exact hn3 h
      · rw [un _ _ n e0] at h
        rw [un _ _ n e0, un _ _ n e0, un _ _ n e0, un _ _ n e0, un _ _ n e0, un _ _ n e0]
        exact i1 n (by omega) h
    · rw [q3] at h
      rw [r7, r8, r9, q5, q6]
      by_cases e0 : n = N
      · subst e0
        rw [pk_us] at h
        rw [pk_us, pk_us, pk_us, pk_us, pk_us]
        exact h3 h
      · rw [un _ _ n e0] at h
        rw [un _ _ n e0, un _ _ n e0, un _ _ n e0, un _ _ n e0, un _ _ n e0]
        obtain ⟨j2, j3, F, j4, j5, j6⟩ := j1 n (by omega) h
        have := h25 n (by omega) h
        refine ⟨j2, j3, F, j4, by omega, fun t ht => ?_⟩
        rw [r11 _ (by omega), hcell n t (by omega) (by omega)]
        exact j6 t ht
    · rw [r10 j (by omega), q1 j (by omega), k1 j hj]
    · rw [r10 j hj2]
      by_cases ea : att j = true
      · have := (ha j ea).2.1; omega
      · rw [if_neg ea]; exact l1 j hj hj2
