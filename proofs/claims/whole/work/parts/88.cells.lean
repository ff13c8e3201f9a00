/-! a matrix's cells: the class's search beside the reference's -/
theorem cn_split (p : Nat → Bool) (a n : Nat) : ∀ k, cnB p a (n + k) = cnB p a n + cnB p (a + n) k
  | 0 => rfl
  | k + 1 => by
    show cnB p a (n + k) + (if p (a + (n + k)) = true then 1 else 0) = cnB p a n + (cnB p (a + n) k + (if p (a + n + k) = true then 1 else 0))
    rw [cn_split p a n k, ← Nat.add_assoc a n k]
    exact Nat.add_assoc _ _ _
theorem cn_one {p : Nat → Bool} {a : Nat} (h : p a = true) : cnB p a 1 = 1 := by
  show 0 + (if p (a + 0) = true then 1 else 0) = 1
  rw [Nat.add_zero, if_pos h]
theorem cn_fy {p : Nat → Bool} {a n : Nat} (h : p a = true) : cnB p a (n + 1) = 1 + cnB p (a + 1) n := by
  rw [Nat.add_comm n 1, cn_split, cn_one h]
theorem cn_fn {p : Nat → Bool} {a n : Nat} (h : ¬ p a = true) : cnB p a (n + 1) = cnB p (a + 1) n := by
  rw [Nat.add_comm n 1, cn_split]
  have : cnB p a 1 = 0 := by
    show 0 + (if p (a + 0) = true then 1 else 0) = 0
    rw [Nat.add_zero, if_neg h]
  rw [this, Nat.zero_add]
theorem cn_gt {p : Nat → Bool} {l l' L : Nat} (h : p l = true) (h1 : l < l') (h2 : l' < L) : cnB p l' (L - l') < cnB p l (L - l) := by
  have e := cn_split p l (l' - l) (L - l')
  rw [show l' - l + (L - l') = L - l by omega, show l + (l' - l) = l' by omega] at e
  have := cn_le p l (show 1 ≤ l' - l by omega)
  rw [cn_one h] at this
  omega
theorem cn_uniq {p : Nat → Bool} {l l' L : Nat} (h : p l = true) (h' : p l' = true) (hl : l < L) (hl' : l' < L) (e : cnB p l (L - l) = cnB p l' (L - l')) : l = l' := by
  rcases Nat.lt_trichotomy l l' with g | g | g
  · have := cn_gt h g hl'; omega
  · exact g
  · have := cn_gt h' g hl; omega
theorem ff_sp (p : Nat → Bool) : ∀ l m, 1 ≤ m → (ffF p l m = -1 ∧ cnB p 1 l < m) ∨ ∃ f, 1 ≤ f ∧ f ≤ l ∧ ffF p l m = nI f ∧ p f = true ∧ cnB p f (l + 1 - f) = m
  | 0, m => fun hm => Or.inl ⟨rfl, hm⟩
  | l + 1, m => fun hm => by
    by_cases h : p (l + 1) = true
    · by_cases h1 : m = 1
      · refine Or.inr ⟨l + 1, by omega, Nat.le_refl _, by rw [ffF, if_pos h, if_pos h1], h, ?_⟩
        rw [show l + 1 + 1 - (l + 1) = 1 by omega, cn_one h, h1]
      · have ih := ff_sp p l (m - 1) (by omega)
        rw [ffF, if_pos h, if_neg h1]
        rcases ih with ⟨e, g⟩ | ⟨f, f1, f2, e, g1, g2⟩
        · refine Or.inl ⟨e, ?_⟩
          rw [cn_y (by rw [Nat.add_comm]; exact h)]
          omega
        · refine Or.inr ⟨f, f1, by omega, e, g1, ?_⟩
          rw [show l + 1 + 1 - f = (l + 1 - f) + 1 by omega, cn_y (by rw [show f + (l + 1 - f) = l + 1 by omega]; exact h), g2]
          omega
    · have ih := ff_sp p l m hm
      rw [ffF, if_neg h]
      rcases ih with ⟨e, g⟩ | ⟨f, f1, f2, e, g1, g2⟩
      · refine Or.inl ⟨e, ?_⟩
        rw [cn_n (by rw [Nat.add_comm]; exact h)]
        exact g
      · refine Or.inr ⟨f, f1, by omega, e, g1, ?_⟩
        rw [show l + 1 + 1 - f = (l + 1 - f) + 1 by omega, cn_n (by rw [show f + (l + 1 - f) = l + 1 by omega]; exact h), g2]
theorem mc_sp {r1 c0 : Nat → Int32} {N o L m : Nat} {p : Nat → Bool} (hp : ∀ l, 0 < l → l < L → (p l = true ↔ (r1 l = -1 ∧ ¬ l = o))) : ∀ t, t ≤ L - 1 →
    (mcS r1 c0 N o L m t).1 = m - cnB p (L - t) t ∧ (∀ k, (mcS r1 c0 N o L m t).1 ≤ k → k < m → ∃ l, 0 < l ∧ L - t ≤ l ∧ l < L ∧ p l = true ∧ (mcS r1 c0 N o L m t).2 (25 * N + k) = nI l ∧ k + cnB p l (L - l) = m) ∧ ∀ i, i < 25 * N → (mcS r1 c0 N o L m t).2 i = c0 i
  | 0 => fun _ => ⟨rfl, fun k h1 h2 => absurd h1 (by show ¬ m ≤ k; omega), fun _ _ => rfl⟩
  | t + 1 => fun ht => by
    obtain ⟨i1, i2, i3⟩ := mc_sp (r1 := r1) (c0 := c0) (N := N) (o := o) (m := m) hp t (by omega)
    have hp0 := hp (L - 1 - t) (by omega) (by omega)
    have e1 : L - (t + 1) = L - 1 - t := by omega
    have e2 : L - 1 - t + 1 = L - t := by omega
    have e3 : L - (L - 1 - t) = t + 1 := by omega
    by_cases h : 0 < (mcS r1 c0 N o L m t).1 ∧ r1 (L - 1 - t) = -1 ∧ ¬ L - 1 - t = o
    · rw [mc_ye h]
      have hy := hp0.mpr h.2
      have hc : cnB p (L - 1 - t) (t + 1) = 1 + cnB p (L - t) t := by rw [cn_fy hy, e2]
      have h0 := h.1
      generalize mcS r1 c0 N o L m t = Z at *
      refine ⟨?_, fun k h1 h2 => ?_, fun i hi => ?_⟩
      · show Z.1 - 1 = _
        rw [e1, hc, i1]; clear i2 i3; omega
      · have h1 : Z.1 - 1 ≤ k := h1
        by_cases e : k = Z.1 - 1
        · refine ⟨L - 1 - t, by omega, by omega, by omega, hy, ?_, ?_⟩
          · show upd Z.2 (25 * N + (Z.1 - 1)) (nI (L - 1 - t)) (25 * N + k) = _
            rw [e, pk_us]
          · rw [e3, hc]; clear i2 i3; omega
        · obtain ⟨l, g1, g2, g3, g4, g5, g6⟩ := i2 k (by clear i2 i3; omega) h2
          refine ⟨l, g1, by omega, g3, g4, ?_, g6⟩
          show upd Z.2 (25 * N + (Z.1 - 1)) (nI (L - 1 - t)) (25 * N + k) = _
          rw [pk_un (by clear i2 i3; omega)]; exact g5
      · show upd Z.2 (25 * N + (Z.1 - 1)) (nI (L - 1 - t)) i = _
        rw [pk_un (by clear i2; omega)]; exact i3 i hi
    · rw [mc_no h]
      refine ⟨?_, fun k h1 h2 => ?_, i3⟩
      · rw [e1]
        by_cases hy : p (L - 1 - t) = true
        · have : (mcS r1 c0 N o L m t).1 = 0 := by
            by_cases g : 0 < (mcS r1 c0 N o L m t).1
            · exact absurd ⟨g, hp0.mp hy⟩ h
            · omega
          rw [cn_fy hy, e2]
          omega
        · rw [cn_fn hy, e2]; exact i1
      · obtain ⟨l, g1, g2, g3⟩ := i2 k h1 h2
        exact ⟨l, g1, by omega, g3⟩
theorem hC_sp {p : Nat → Bool} {c : Nat → Int32} {K f : Nat} : ∀ n, (∀ j, j < cnB p f n → ∃ l, f ≤ l ∧ l < f + n ∧ p l = true ∧ hcC p c K f n (K + j) = nI l ∧ cnB p f (l - f) = j) ∧ ∀ i, i < K → hcC p c K f n i = c i
  | 0 => ⟨fun j h => absurd h (Nat.not_lt_zero _), fun _ _ => rfl⟩
  | n + 1 => by
    obtain ⟨i1, i2⟩ := hC_sp (p := p) (c := c) (K := K) (f := f) n
    by_cases h : p (f + n) = true
    · rw [hC_y h, cn_y h]
      refine ⟨fun j hj => ?_, fun i hi => ?_⟩
      · by_cases e : j = cnB p f n
        · exact ⟨f + n, by omega, by omega, h, by rw [e, pk_us], by rw [show f + n - f = n by omega, e]⟩
        · obtain ⟨l, g1, g2, g3, g4, g5⟩ := i1 j (by omega)
          exact ⟨l, g1, by omega, g3, by rw [pk_un (by omega)]; exact g4, g5⟩
      · rw [pk_un (by omega)]; exact i2 i hi
    · rw [hC_n h, cn_n h]
      refine ⟨fun j hj => ?_, i2⟩
      obtain ⟨l, g1, g2, g3⟩ := i1 j hj
      exact ⟨l, g1, by omega, g3⟩
theorem an_ex {p : Nat → Bool} {a : Nat} : ∀ n, anB p a n = true ↔ ∃ l, a ≤ l ∧ l < a + n ∧ p l = true
  | 0 => ⟨fun h => Bool.noConfusion (show false = true from h), fun ⟨l, h1, h2, _⟩ => by omega⟩
  | n + 1 => by
    rw [anB, Bool.or_eq_true, an_ex n]
    constructor
    · rintro (⟨l, h1, h2, h3⟩ | h)
      · exact ⟨l, h1, by omega, h3⟩
      · exact ⟨a + n, by omega, by omega, h⟩
    · rintro ⟨l, h1, h2, h3⟩
      by_cases e : l = a + n
      · exact Or.inr (e ▸ h3)
      · exact Or.inl ⟨l, h1, by omega, h3⟩
theorem rg_ex {r1 lo F : Nat → Int32} {N : Nat} {o : Int32} : ∀ k, rgS r1 lo F N o k = true ↔ ∃ t, t < k ∧ wiF r1 lo (F (25 * N + t)) 30 o = true
  | 0 => ⟨fun h => Bool.noConfusion (show false = true from h), fun ⟨l, h1, _⟩ => absurd h1 (Nat.not_lt_zero _)⟩
  | k + 1 => by
    rw [rgS, Bool.or_eq_true, rg_ex k]
    constructor
    · rintro (⟨l, h1, h2⟩ | h)
      · exact ⟨l, by omega, h2⟩
      · exact ⟨k, by omega, h⟩
    · rintro ⟨l, h1, h2⟩
      by_cases e : l = k
      · exact Or.inr (e ▸ h2)
      · exact Or.inl ⟨l, by omega, h2⟩
theorem hi_y {r1 F : Nat → Int32} {N : Nat} {x : Int32} {j : Nat} : ∀ k, (∃ t, t < k ∧ (F (25 * N + t)).toNatClampNeg = j) → hiS r1 F N x k j = x
  | 0 => fun ⟨t, h, _⟩ => absurd h (Nat.not_lt_zero _)
  | k + 1 => fun ⟨t, h1, h2⟩ => by
    rw [hiS]
    by_cases e : j = (F (25 * N + k)).toNatClampNeg
    · rw [e, pk_us]
    · rw [pk_un e]
      refine hi_y k ⟨t, ?_, h2⟩
      by_cases e2 : t = k
      · rw [e2] at h2; exact absurd h2.symm e
      · omega
theorem hi_no {r1 F : Nat → Int32} {N : Nat} {x : Int32} {j : Nat} : ∀ k, (∀ t, t < k → ¬ (F (25 * N + t)).toNatClampNeg = j) → hiS r1 F N x k j = r1 j
  | 0 => fun _ => rfl
  | k + 1 => fun h => by
    rw [hiS, pk_un (fun e => h k (by omega) e.symm)]
    exact hi_no k (fun t ht => h t (by omega))
theorem cn_add {p p' s : Nat → Bool} {a : Nat} : ∀ n, (∀ l, a ≤ l → l < a + n → (p l = true → s l = true ∧ ¬ p' l = true) ∧ (p' l = true → s l = true)) → cnB p a n + cnB p' a n ≤ cnB s a n
  | 0 => fun _ => Nat.le_refl _
  | n + 1 => fun h => by
    have ih := cn_add n (fun l h1 h2 => h l h1 (by omega))
    have h1 := h (a + n) (by omega) (by omega)
    by_cases c : p (a + n) = true
    · rw [cn_y c, cn_y (h1.1 c).1, cn_n (h1.1 c).2]; omega
    · by_cases c' : p' (a + n) = true
      · rw [cn_n c, cn_y c', cn_y (h1.2 c')]; omega
      · have := cn_le s a (show n ≤ n + 1 by omega)
        rw [cn_n c, cn_n c']; omega
