/-! THE STATE: what holds of the reference's rows between calls -/
def TRE (q : Rw) (N L : Nat) (ht sl : Nat → Nat) : Prop :=
  (N ≤ 120 ∧ 1 ≤ L ∧ L ≤ 30) ∧ (∀ n, n < 120 → ∃ i, i < L ∧ q 2 n = nI i) ∧
  (∀ j, j < 30 → q 1 j = -1 ∨ ∃ n i, q 1 j = nI n ∧ n < N ∧ q 2 n = nI i ∧ i < L ∧ ht i < ht j) ∧
  (∀ n, n < N → ∀ s j, FLD q n s j → q 1 j = nI n ∧ sl j = s) ∧ (∀ n, n < N → NDK q n) ∧ q 1 0 = -1 ∧ ∀ j, L ≤ j → j < 30 → q 1 j = -1
theorem TRE.ly {q : Rw} {N L : Nat} {ht sl : Nat → Nat} (h : TRE q N L ht sl) : LY q N (dpH ht) sl := by
  obtain ⟨⟨h1, h2, h3⟩, h4, h5, h6, h7, h8, h9⟩ := h
  refine ⟨h1, fun n hn => ?_, fun j hj => ⟨dpH_29 hj, ?_⟩, h6, h7⟩
  · obtain ⟨i, hi, e⟩ := h4 n hn
    exact ⟨i, by omega, e⟩
  · rcases h5 j hj with e | ⟨n, i, e1, hn, e2, hi, hlt⟩
    · exact Or.inl e
    · exact Or.inr ⟨n, i, e1, hn, e2, by omega, dpH_lt (by omega) hlt⟩
/-- a new list -/
theorem TRE.list {q : Rw} {N L : Nat} {ht sl : Nat → Nat} (h : TRE q N L ht sl) (hL : L < 30) : TRE q N (L + 1) ht sl := by
  obtain ⟨⟨h1, h2, h3⟩, h4, h5, h6, h7, h8, h9⟩ := h
  refine ⟨⟨h1, by omega, by omega⟩, fun n hn => ?_, fun j hj => ?_, h6, h7, h8, fun j hj hj2 => h9 j (by omega) hj2⟩
  · obtain ⟨i, hi, e⟩ := h4 n hn
    exact ⟨i, by omega, e⟩
  · rcases h5 j hj with e | ⟨n, i, e1, hn, e2, hi, hlt⟩
    · exact Or.inl e
    · exact Or.inr ⟨n, i, e1, hn, e2, by omega, hlt⟩
/-- lists come into a node n of the list k, which may be new -/
theorem TRE.att {q q' : Rw} {N N' L n k : Nat} {ht sl sl' : Nat → Nat} {att : Nat → Bool} (h : TRE q N L ht sl) (hN : N ≤ N') (hN' : N' ≤ 120) (hn : n < N') (hk : k < L) (e2 : q' 2 n = nI k) (hq2 : ∀ n', n' < N → q' 2 n' = q 2 n') (hq2' : ∀ n', n' < 120 → ∃ i, i < L ∧ q' 2 n' = nI i)
    (ha : ∀ z, att z = true → 0 < z ∧ z < L ∧ q 1 z = -1 ∧ wn q z k = false) (hq1 : ∀ j, j < 30 → q' 1 j = if att j = true then nI n else q 1 j)
    (hf : ∀ n', n' < N' → ¬ n' = n → n' < N ∧ ∀ s j, FLD q' n' s j → FLD q n' s j) (hfn : ∀ s j, FLD q' n s j → (n < N ∧ FLD q n s j) ∨ (att j = true ∧ sl' j = s)) (hsl : ∀ j, ¬ att j = true → sl' j = sl j) (hnd : ∀ n', n' < N' → NDK q' n') :
    TRE q' N' L (fun i => if anB (fun z => att z && wn q z i) 0 30 = true then ht i + ht k + 1 else ht i) sl' := by
  have hT := h.ly
  obtain ⟨⟨h1, h2, h3⟩, h4, h5, h6, h7, h8, h9⟩ := h
  have an_iff : ∀ i, anB (fun z => att z && wn q z i) 0 30 = true ↔ ∃ z, z < 30 ∧ att z = true ∧ wn q z i = true := by
    intro i
    have key : ∀ m, anB (fun z => att z && wn q z i) 0 m = true ↔ ∃ z, z < m ∧ att z = true ∧ wn q z i = true := by
      intro m
      induction m with
      | zero => exact ⟨fun h => Bool.noConfusion (show false = true from h), fun ⟨z, hz, _⟩ => absurd hz (Nat.not_lt_zero _)⟩
      | succ m ih =>
        rw [anB, Bool.or_eq_true, ih, Nat.zero_add, Bool.and_eq_true]
        constructor
        · rintro (⟨z, hz, e⟩ | e)
          · exact ⟨z, by omega, e⟩
          · exact ⟨m, by omega, e⟩
        · rintro ⟨z, hz, e⟩
          rcases (show z < m ∨ z = m by omega) with e3 | e3
          · exact Or.inl ⟨z, e3, e⟩
          · subst e3; exact Or.inr e
    exact key 30
  have hak : anB (fun z => att z && wn q z k) 0 30 = false := by
    cases e : anB (fun z => att z && wn q z k) 0 30
    · rfl
    · obtain ⟨z, hz, e1, e3⟩ := (an_iff k).mp e
      rw [(ha z e1).2.2.2] at e3
      exact absurd e3 (by decide)
  have natt : ∀ n' s j, n' < N → FLD q n' s j → ¬ att j = true := by
    intro n' s j hn' hf9 he
    have e1 := (h6 n' hn' s j hf9).1
    rw [(ha j he).2.2.1] at e1
    exact absurd e1.symm (nI_ne_m1 (by omega))
  refine ⟨⟨hN', h2, h3⟩, hq2', fun j hj => ?_, fun n' hn' s j hf' => ?_, hnd, ?_, fun j hj hj2 => ?_⟩
  · rw [hq1 j hj]
    by_cases ea : att j = true
    · rw [if_pos ea]
      refine Or.inr ⟨n, k, rfl, hn, e2, hk, ?_⟩
      dsimp only
      rw [hak, if_neg (by decide), if_pos ((an_iff j).mpr ⟨j, hj, ea, wn_self q j⟩)]
      omega
    · rw [if_neg ea]
      rcases h5 j hj with e | ⟨n', i, e1, hn', e3, hi, hlt⟩
      · exact Or.inl e
      · refine Or.inr ⟨n', i, e1, by omega, by rw [hq2 n' hn']; exact e3, hi, ?_⟩
        have hst : ∀ z, z < 30 → att z = true → wn q z j = wn q z i := fun z hz ez => wn_st hT hz hj (fun e9 => ea (e9 ▸ ez)) e1 hn' e3 (by omega) (dpH_lt (by omega) hlt)
        have heq : anB (fun z => att z && wn q z j) 0 30 = anB (fun z => att z && wn q z i) 0 30 := by
          have h0 : (anB (fun z => att z && wn q z j) 0 30 = true) ↔ (anB (fun z => att z && wn q z i) 0 30 = true) := by
            rw [an_iff, an_iff]
            constructor
            · rintro ⟨z, hz, a1, a2⟩; exact ⟨z, hz, a1, by rw [← hst z hz a1]; exact a2⟩
            · rintro ⟨z, hz, a1, a2⟩; exact ⟨z, hz, a1, by rw [hst z hz a1]; exact a2⟩
          cases x1 : anB (fun z => att z && wn q z j) 0 30 <;> cases x2 : anB (fun z => att z && wn q z i) 0 30 <;> simp_all
        dsimp only
        rw [heq]
        split <;> omega
  · have hj : j < 30 := hf'.1
    by_cases en : n' = n
    · subst en
      rcases hfn s j hf' with ⟨g1, g2⟩ | ⟨g1, g2⟩
      · have g3 := natt n' s j g1 g2
        rw [hq1 j hj, if_neg g3, hsl j g3]
        exact h6 n' g1 s j g2
      · rw [hq1 j hj, if_pos g1]
        exact ⟨rfl, g2⟩
    · obtain ⟨g1, g2⟩ := hf n' hn' en
      have g4 := g2 s j hf'
      have g3 := natt n' s j g1 g4
      rw [hq1 j hj, if_neg g3, hsl j g3]
      exact h6 n' g1 s j g4
  · rw [hq1 0 (by decide)]
    by_cases ea : att 0 = true
    · exact absurd (ha 0 ea).1 (by decide)
    · rw [if_neg ea]; exact h8
  · rw [hq1 j hj2]
    by_cases ea : att j = true
    · have := (ha j ea).2.1; omega
    · rw [if_neg ea]; exact h9 j hj hj2
/-- a list is split -/
theorem TRE.split {q q' : Rw} {N L a0 x : Nat} {ht sl : Nat → Nat} (h : TRE q N L ht sl) (hL : L < 30) (hx : x < L) (h2 : q' 2 = mvF (q 2) (nI x) (nI L) a0 N) (hq : ∀ i, ¬ i = 2 → q' i = q i) : TRE q' N (L + 1) (fun i => if i = L then ht x else ht i) sl := by
  obtain ⟨⟨h1, h20, h3⟩, h4, h5, h6, h7, h8, h9⟩ := h
  have hF : ∀ n s j, FLD q' n s j ↔ FLD q n s j := by
    intro n s j
    unfold FLD
    rw [hq 3 (by decide), hq 5 (by decide), hq 6 (by decide), hq 8 (by decide), hq 9 (by decide), hq 10 (by decide)]
  refine ⟨⟨h1, by omega, by omega⟩, fun n hn => ?_, fun j hj => ?_, fun n hn s j hf => ?_, fun n hn => ?_, ?_, fun j hj hj2 => ?_⟩
  · rw [h2]
    unfold mvF
    split
    · exact ⟨L, by omega, rfl⟩
    · obtain ⟨i, hi, e⟩ := h4 n hn
      exact ⟨i, by omega, e⟩
  · rw [hq 1 (by decide)]
    rcases h5 j hj with e | ⟨n, i, e1, hn, e2, hi, hlt⟩
    · exact Or.inl e
    · have hjL : ¬ j = L := by
        intro e
        rw [h9 j (by omega) hj] at e1
        exact absurd e1.symm (nI_ne_m1 (by omega))
      right
      by_cases hm : a0 ≤ n ∧ n < N ∧ q 2 n = nI x
      · refine ⟨n, L, e1, hn, by rw [h2]; unfold mvF; rw [if_pos hm], by omega, ?_⟩
        dsimp only
        rw [if_pos rfl, if_neg hjL]
        have : i = x := nI_inj (by omega) (by omega) (e2.symm.trans hm.2.2)
        rw [← this]; exact hlt
      · refine ⟨n, i, e1, hn, by rw [h2]; unfold mvF; rw [if_neg hm]; exact e2, by omega, ?_⟩
        dsimp only
        rw [if_neg (by omega), if_neg hjL]
        exact hlt
  · rw [hq 1 (by decide)]; exact h6 n hn s j ((hF n s j).mp hf)
  · have := h7 n hn
    unfold NDK at this ⊢
    rw [hq 3 (by decide), hq 4 (by decide), hq 5 (by decide), hq 6 (by decide), hq 7 (by decide), hq 8 (by decide), hq 9 (by decide), hq 10 (by decide)]
    exact this
  · rw [hq 1 (by decide)]; exact h8
  · rw [hq 1 (by decide)]; exact h9 j (by omega) hj2
/-- rows that matter are the same -/
theorem TRE.eq {q q' : Rw} {N L : Nat} {ht sl : Nat → Nat} (h : TRE q N L ht sl) (hq : ∀ i, i ≤ 10 → q' i = q i) : TRE q' N L ht sl := by
  unfold TRE FLD NDK at h ⊢
  rw [hq 1 (by decide), hq 2 (by decide), hq 3 (by decide), hq 4 (by decide), hq 5 (by decide), hq 6 (by decide), hq 7 (by decide), hq 8 (by decide), hq 9 (by decide), hq 10 (by decide)]
  exact h
