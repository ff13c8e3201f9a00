/-! COUNTING over the tree of lists -/
def smN (f : Nat → Nat) : Nat → Nat
  | 0 => 0
  | n + 1 => smN f n + f n
theorem sm_le {f g : Nat → Nat} : ∀ n, (∀ i, i < n → f i ≤ g i) → smN f n ≤ smN g n
  | 0, _ => Nat.le_refl _
  | n + 1, h => Nat.add_le_add (sm_le n (fun i hi => h i (by omega))) (h n (by omega))
theorem sm_eq {f g : Nat → Nat} : ∀ n, (∀ i, i < n → f i = g i) → smN f n = smN g n
  | 0, _ => rfl
  | n + 1, h => by rw [smN, smN, sm_eq n (fun i hi => h i (by omega)), h n (by omega)]
theorem sm_0 : ∀ n, smN (fun _ => 0) n = 0
  | 0 => rfl
  | n + 1 => by rw [smN, sm_0 n]
theorem sm_add (f g : Nat → Nat) : ∀ n, smN (fun i => f i + g i) n = smN f n + smN g n
  | 0 => rfl
  | n + 1 => by rw [smN, smN, smN, sm_add f g n]; omega
theorem sm_swap (f : Nat → Nat → Nat) (m : Nat) : ∀ n, smN (fun i => smN (fun j => f i j) m) n = smN (fun j => smN (fun i => f i j) n) m
  | 0 => by
    show 0 = smN (fun _ => 0) m
    rw [sm_0]
  | n + 1 => by
    rw [smN, sm_swap f m n, ← sm_add]
    rfl
theorem sm_mul (f : Nat → Nat) (c : Nat) : ∀ n, smN (fun i => f i * c) n = smN f n * c
  | 0 => by rw [smN, smN, Nat.zero_mul]
  | n + 1 => by rw [smN, smN, sm_mul f c n, Nat.add_mul]
/-- one of them at most -/
theorem sm_one {p : Nat → Bool} : ∀ n, (∀ i j, i < n → j < n → p i = true → p j = true → i = j) → smN (fun i => if p i = true then 1 else 0) n ≤ 1
  | 0, _ => Nat.zero_le _
  | n + 1, h => by
    have ih := sm_one n (fun i j hi hj => h i j (by omega) (by omega))
    rw [smN]
    by_cases e : p n = true
    · rw [if_pos e]
      have : smN (fun i => if p i = true then 1 else 0) n = smN (fun _ => 0) n := sm_eq n (fun i hi => by
        by_cases e2 : p i = true
        · exact absurd (h i n (by omega) (by omega) e2 e) (by omega)
        · rw [if_neg e2])
      rw [this, sm_0]; exact Nat.le_refl _
    · rw [if_neg e]; omega
theorem sm_none {p : Nat → Bool} (n : Nat) (h : ∀ i, i < n → ¬ p i = true) : smN (fun i => if p i = true then 1 else 0) n = 0 := by
  rw [show smN (fun i => if p i = true then 1 else 0) n = smN (fun _ => 0) n from sm_eq n (fun i hi => if_neg (h i hi)), sm_0]
/-- picking one out -/
theorem sm_pick {g : Nat → Nat} {x : Nat} : ∀ n, x < n → smN (fun c => if c = x then g c else 0) n = g x
  | 0, h => absurd h (Nat.not_lt_zero _)
  | n + 1, h => by
    rw [smN]
    by_cases e : n = x
    · subst e
      rw [if_pos rfl, show smN (fun c => if c = n then g c else 0) n = smN (fun _ => 0) n from sm_eq n (fun i hi => if_neg (by omega)), sm_0, Nat.zero_add]
    · rw [if_neg e, sm_pick n (by omega)]; omega
/-- a sum over distinct places, each of a sort, is at most the sum over the sort -/
theorem sm_inj {g : Nat → Nat} {f : Nat → Nat} {ok : Nat → Bool} {hp : Nat → Bool} {S C : Nat} (hf : ∀ s, s < S → ok s = true → f s < C ∧ hp (f s) = true) (hi : ∀ s t, s < S → t < S → ok s = true → ok t = true → f s = f t → s = t) :
    smN (fun s => if ok s = true then g (f s) else 0) S ≤ smN (fun c => if hp c = true then g c else 0) C := by
  have e1 : smN (fun s => if ok s = true then g (f s) else 0) S = smN (fun s => smN (fun c => (if (ok s && decide (c = f s)) = true then 1 else 0) * g c) C) S := sm_eq S (fun s hs => by
    by_cases h : ok s = true
    · rw [if_pos h, ← sm_pick (g := g) C (hf s hs h).1]
      exact sm_eq C (fun c hc => by
        by_cases e : c = f s
        · rw [if_pos e, if_pos (by rw [h, e]; simp), Nat.one_mul]
        · rw [if_neg e, if_neg (by simp [e]), Nat.zero_mul])
    · rw [if_neg h, show smN (fun c => (if (ok s && decide (c = f s)) = true then 1 else 0) * g c) C = smN (fun _ => 0) C from sm_eq C (fun c hc => by rw [if_neg (by simp [h]), Nat.zero_mul]), sm_0])
  rw [e1, sm_swap]
  refine sm_le C (fun c hc => ?_)
  rw [sm_mul]
  by_cases hk : hp c = true
  · rw [if_pos hk]
    have := sm_one (p := fun s => ok s && decide (c = f s)) S (fun i j hi2 hj2 h1 h2 => by
      simp only [Bool.and_eq_true, decide_eq_true_eq] at h1 h2
      exact hi i j hi2 hj2 h1.1 h2.1 (h1.2.symm.trans h2.2))
    calc _ ≤ 1 * g c := Nat.mul_le_mul_right _ this
      _ = g c := Nat.one_mul _
  · rw [if_neg hk, sm_none (p := fun s => ok s && decide (c = f s)) S (fun i hi2 h1 => by
      simp only [Bool.and_eq_true, decide_eq_true_eq] at h1
      exact hk (by rw [h1.2]; exact (hf i hi2 h1.1).2)), Nat.zero_mul]
    exact Nat.le_refl _
/-! ranks out of heights -/
theorem cn_lt {p p' : Nat → Bool} : ∀ n, (∀ i, i < n → p i = true → p' i = true) → cnB p 0 n ≤ cnB p' 0 n ∧ ∀ i, i < n → ¬ p i = true → p' i = true → cnB p 0 n < cnB p' 0 n
  | 0, _ => ⟨Nat.le_refl _, fun i hi => absurd hi (Nat.not_lt_zero _)⟩
  | n + 1, h => by
    obtain ⟨h1, h2⟩ := cn_lt (p := p) (p' := p') n (fun i hi => h i (by omega))
    have hs : (if p (0 + n) = true then 1 else 0) ≤ (if p' (0 + n) = true then 1 else 0) := by
      rw [Nat.zero_add]
      by_cases e : p n = true
      · rw [if_pos e, if_pos (h n (by omega) e)]; exact Nat.le_refl _
      · rw [if_neg e]; exact Nat.zero_le _
    rw [cnB, cnB]
    refine ⟨Nat.add_le_add h1 hs, fun i hi e1 e2 => ?_⟩
    by_cases e : i = n
    · subst e
      rw [Nat.zero_add, if_neg e1, if_pos e2]; omega
    · have := h2 i (by omega) e1 e2
      omega
theorem cn_top (p : Nat → Bool) : ∀ n, cnB p 0 n ≤ n ∧ ∀ i, i < n → ¬ p i = true → cnB p 0 n < n
  | 0 => ⟨Nat.le_refl _, fun i hi => absurd hi (Nat.not_lt_zero _)⟩
  | n + 1 => by
    obtain ⟨h1, h2⟩ := cn_top p n
    rw [cnB, Nat.zero_add]
    have hs : (if p n = true then 1 else 0) ≤ 1 := by split <;> omega
    refine ⟨by omega, fun i hi e => ?_⟩
    by_cases e2 : i = n
    · subst e2; rw [if_neg e]; omega
    · have := h2 i (by omega) e; omega
def dpH (ht : Nat → Nat) (j : Nat) : Nat := cnB (fun k => decide (ht k < ht j)) 0 30
theorem dpH_lt {ht : Nat → Nat} {i j : Nat} (hi : i < 30) (h : ht i < ht j) : dpH ht i < dpH ht j :=
  (cn_lt 30 (fun k _ hk => decide_eq_true (Nat.lt_trans (of_decide_eq_true hk) h))).2 i hi (fun e => Nat.lt_irrefl _ (of_decide_eq_true e)) (decide_eq_true h)
theorem dpH_29 {ht : Nat → Nat} {j : Nat} (hj : j < 30) : dpH ht j ≤ 29 := by
  have := (cn_top (fun k => decide (ht k < ht j)) 30).2 j hj (fun e => Nat.lt_irrefl _ (of_decide_eq_true e))
  unfold dpH; omega
/-! weights along the tree -/
/-- the s-th list of a node, or -1 -/
def fjV (q : Rw) (n s : Nat) : Int32 :=
  if s = 0 then (if q 3 n = 1 then q 5 n else -1) else if s = 1 then (if q 3 n = 1 ∨ q 3 n = 2 then q 6 n else -1) else if s = 2 then q 8 n else if s = 3 then q 9 n
  else if q 3 n = 3 ∧ s - 4 < (q 5 n).toNatClampNeg * (q 6 n).toNatClampNeg then q 10 (25 * n + (s - 4)) else -1
theorem fjV_f {q : Rw} {n s j : Nat} (hj : j < 30) (h : fjV q n s = nI j) : FLD q n s j := by
  have hm : ¬ nI j = -1 := nI_ne_m1 (by omega)
  unfold fjV at h
  refine ⟨hj, ?_⟩
  by_cases h0 : s = 0
  · rw [if_pos h0] at h
    by_cases h1 : q 3 n = 1
    · rw [if_pos h1] at h; exact Or.inl ⟨h0, h1, h⟩
    · rw [if_neg h1] at h; exact absurd h.symm hm
  · rw [if_neg h0] at h
    by_cases h1 : s = 1
    · rw [if_pos h1] at h
      by_cases h2 : q 3 n = 1 ∨ q 3 n = 2
      · rw [if_pos h2] at h; exact Or.inr (Or.inl ⟨h1, h2, h⟩)
      · rw [if_neg h2] at h; exact absurd h.symm hm
    · rw [if_neg h1] at h
      by_cases h2 : s = 2
      · rw [if_pos h2] at h; exact Or.inr (Or.inr (Or.inl ⟨h2, h⟩))
      · rw [if_neg h2] at h
        by_cases h3 : s = 3
        · rw [if_pos h3] at h; exact Or.inr (Or.inr (Or.inr (Or.inl ⟨h3, h⟩)))
        · rw [if_neg h3] at h
          by_cases h4 : q 3 n = 3 ∧ s - 4 < (q 5 n).toNatClampNeg * (q 6 n).toNatClampNeg
          · rw [if_pos h4] at h; exact Or.inr (Or.inr (Or.inr (Or.inr ⟨by omega, h4.1, h4.2, h⟩)))
          · rw [if_neg h4] at h; exact absurd h.symm hm
/-- the sum over a node's lists -/
def fsm (q : Rw) (n : Nat) (g : Nat → Nat) : Nat := smN (fun s => if (!decide (fjV q n s = -1)) = true then g (fjV q n s).toNatClampNeg else 0) 29
/-- the weight of a list: its nodes' own weights, and of the lists in them -/
def wgG (q : Rw) (N : Nat) (ow : Nat → Nat) : Nat → Nat → Nat
  | 0, _ => 0
  | d + 1, k => smN (fun n => if decide (q 2 n = nI k) = true then ow n + fsm q n (wgG q N ow d) else 0) N
/-- all the nodes' weights in a list and below it -/
def wgU (q : Rw) (N : Nat) (ow : Nat → Nat) (k : Nat) : Nat := smN (fun j => if wn q k j = true then smN (fun n => if decide (q 2 n = nI j) = true then ow n else 0) N else 0) 30
