theorem nx_sp {lof wh : Nat → Int32} {l : Int32} {N m : Nat} (hm : m < N) (h1 : lof m = l) (h2 : ¬ wh m = 4) : ∀ {k : Nat}, k ≤ m → ∃ j, nxF lof wh l (N - k) k = nI j ∧ k ≤ j ∧ j ≤ m ∧ lof j = l ∧ ¬ wh j = 4 ∧ ∀ i, k ≤ i → i < j → ¬ (lof i = l ∧ ¬ wh i = 4) := by
  have key : ∀ (d k : Nat), m - k = d → k ≤ m → ∃ j, nxF lof wh l (N - k) k = nI j ∧ k ≤ j ∧ j ≤ m ∧ lof j = l ∧ ¬ wh j = 4 ∧ ∀ i, k ≤ i → i < j → ¬ (lof i = l ∧ ¬ wh i = 4) := by
    intro d
    induction d with
    | zero =>
      intro k hd hk
      have e : k = m := by omega
      subst e
      exact ⟨k, by rw [show N - k = (N - (k + 1)) + 1 by omega, nxF, if_pos ⟨h1, h2⟩], Nat.le_refl _, Nat.le_refl _, h1, h2, fun i a b => by omega⟩
    | succ d ih =>
      intro k hd hk
      by_cases hc : lof k = l ∧ ¬ wh k = 4
      · exact ⟨k, by rw [show N - k = (N - (k + 1)) + 1 by omega, nxF, if_pos hc], Nat.le_refl _, hk, hc.1, hc.2, fun i a b => by omega⟩
      · obtain ⟨j, e, a1, a2, a3, a4, a5⟩ := ih (k + 1) (by omega) (by omega)
        refine ⟨j, by rw [nx_no (by omega) hc, e], by omega, a2, a3, a4, fun i b1 b2 => ?_⟩
        by_cases hi : i = k
        · subst hi; exact hc
        · exact a5 i (by omega) b2
  intro k hk
  exact key _ k rfl hk
theorem nx_rg {lof wh : Nat → Int32} {l : Int32} : ∀ (f k : Nat), nxF lof wh l f k = -1 ∨ ∃ j, nxF lof wh l f k = nI j ∧ k ≤ j ∧ j < k + f ∧ lof j = l ∧ ¬ wh j = 4
  | 0, _ => Or.inl rfl
  | f + 1, k => by
    by_cases hc : lof k = l ∧ ¬ wh k = 4
    · exact Or.inr ⟨k, by rw [nxF, if_pos hc], Nat.le_refl _, by omega, hc⟩
    · rcases nx_rg f (k + 1) with h | ⟨j, h, a1, a2, a3⟩
      · exact Or.inl (by rw [nxF, if_neg hc, h])
      · exact Or.inr ⟨j, by rw [nxF, if_neg hc, h], by omega, by omega, a3⟩
theorem nx_ix {lof wh : Nat → Int32} {l x : Int32} {f k : Nat} (e : x = nxF lof wh l f k) (h : ¬ x = -1) (hN : k + f ≤ 120) : x = nI x.toNatClampNeg ∧ x.toNatClampNeg < 120 := by
  rcases nx_rg (lof := lof) (wh := wh) (l := l) f k with q | ⟨j, q, a1, a2, a3⟩
  · exact absurd (e.trans q) h
  · rw [e, q, nI_clamp (by omega)]
    exact ⟨rfl, by omega⟩
theorem bfr_skip {lof wh ki : Nat → Int32} {N : Nat} {l : Int32} {k : Nat} : ∀ {j : Nat}, k ≤ j → (∀ i, k ≤ i → i < j → ¬ (lof i = l ∧ ¬ wh i = 4)) → bfr lof wh ki N l j = bfr lof wh ki N l k := by
  intro j
  induction j with
  | zero => intro h _; rw [show k = 0 by omega]
  | succ j ih =>
    intro h hno
    by_cases e : k = j + 1
    · rw [e]
    · rw [bfr, if_neg (hno j (by omega) (by omega))]
      exact ih (by omega) (fun i a b => hno i a (by omega))
theorem cn_told {lof wh ki : Nat → Int32} {N j : Nat} {l bf x1 x2 : Int32} (hki : ∀ i, i < N → ¬ ki i = -1) (hN : N ≤ 120) (hj : j < N) (e1 : x1 = nxF lof wh l (N - (j + 1)) (j + 1))
    (e2 : x2 = (if ki j = 2 then (if (if bf = 0 then (1 : Int32) else (if bf = 5 then (1 : Int32) else (if bf = 7 then (1 : Int32) else (0 : Int32)))) = 0 then (0 : Int32) else (if (if x1 = (-1) then (0 : Int32) else (if ki x1.toNatClampNeg = 3 then (0 : Int32) else (if ki x1.toNatClampNeg = 5 then (0 : Int32) else (if ki x1.toNatClampNeg = 6 then (0 : Int32) else (1 : Int32))))) = 0 then (0 : Int32) else (2 : Int32))) else ki j)) : x2 = caK (ki j) bf (kdA lof wh ki N l j) := by
  have hk : ¬ x1 = -1 → ¬ ki x1.toNatClampNeg = -1 := by
    intro h
    rcases nx_rg (lof := lof) (wh := wh) (l := l) (N - (j + 1)) (j + 1) with q | ⟨i, q, a1, a2, a3⟩
    · exact absurd (e1.trans q) h
    · rw [e1, q, nI_clamp (by omega)]
      exact hki i (by omega)
  subst e2
  unfold caK kdA
  rw [← e1]
  by_cases h2 : ki j = 2
  · rw [if_pos h2, if_pos h2]
    by_cases h1 : x1 = -1
    · simp only [if_pos h1]
      by_cases hb : bf = 0 ∨ bf = 5 ∨ bf = 7 <;> simp
    · have h3 := hk h1
      simp only [if_neg h1]
      generalize ki x1.toNatClampNeg = q at h3
      by_cases b0 : bf = 0 <;> by_cases b5 : bf = 5 <;> by_cases b7 : bf = 7 <;> by_cases q3 : q = 3 <;> by_cases q5 : q = 5 <;> by_cases q6 : q = 6 <;> simp [b0, b5, b7, q3, q5, q6, h3]
  · rw [if_neg h2, if_neg h2]
