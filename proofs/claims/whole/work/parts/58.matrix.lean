/-! THE MATRIX, pure side -/
def ccS (f : Nat → List It) : Nat → Nat → List It
  | _, 0 => []
  | a, n + 1 => f a ++ ccS f (a + 1) n
theorem cc_app (f : Nat → List It) : ∀ (m a n : Nat), ccS f a (m + n) = ccS f a m ++ ccS f (a + m) n
  | 0, a, n => by rw [Nat.zero_add]; rfl
  | m + 1, a, n => by
    rw [show m + 1 + n = (m + n) + 1 by omega, ccS, ccS, cc_app f m (a + 1) n, List.append_assoc, show a + 1 + m = a + (m + 1) by omega]
theorem cc_s (f : Nat → List It) (a n : Nat) : ccS f a (n + 1) = ccS f a n ++ f (a + n) := by
  rw [cc_app f n a 1]
  show _ ++ (f (a + n) ++ []) = _
  rw [List.append_nil]
/-- a row's cells, placed as the class does it: the width so far, the items so far -/
def rwS (g : Nat → Int32) (Mt : Nat → T3) (Pt : Nat → List It) (base : Nat) (line btw : Int32) : Nat → Int32 × List It
  | 0 => (0, [])
  | k + 1 => ((rwS g Mt Pt base line btw k).1 + (if 0 < k then btw else 0) + g k, (rwS g Mt Pt base line btw k).2 ++ (Pt (base + k)).map (sft ((rwS g Mt Pt base line btw k).1 + (if 0 < k then btw else 0) + (g k - (Mt (base + k)).1) / 2) line))
def hcF (Mt : Nat → T3) (base : Nat) (line H : Int32) : Nat → Int32
  | 0 => H
  | k + 1 => mx (hcF Mt base line H k) (line + (Mt (base + k)).2.1)
def dcF (Mt : Nat → T3) (base : Nat) (line Dd : Int32) : Nat → Int32
  | 0 => Dd
  | k + 1 => mx (dcF Mt base line Dd k) ((Mt (base + k)).2.2 - line)
theorem rw_len (g : Nat → Int32) (Mt : Nat → T3) (Pt : Nat → List It) (base : Nat) (line btw : Int32) : ∀ k, (rwS g Mt Pt base line btw k).2.length = (ccS Pt base k).length
  | 0 => rfl
  | k + 1 => by rw [cc_s, rwS, List.length_append, List.length_append, List.length_map, rw_len g Mt Pt base line btw k]
theorem pMc_rw {q : Rw} {N d n C rr : Nat} {lev line : Int32} {g : Nat → Int32} : ∀ k, (pMc (ML q N d) (PL q N d) q n C lev g rr 0 line k).1 = (rwS g (fun t => ML q N d (q 10 (25 * n + t)) (maI lev) 0) (fun t => PL q N d (q 10 (25 * n + t)) (maI lev) 0 0 0) (rr * C) line (3 * uni lev) k).1 + (if 0 < k then 3 * uni lev else 0) ∧
    (pMc (ML q N d) (PL q N d) q n C lev g rr 0 line k).2 = (rwS g (fun t => ML q N d (q 10 (25 * n + t)) (maI lev) 0) (fun t => PL q N d (q 10 (25 * n + t)) (maI lev) 0 0 0) (rr * C) line (3 * uni lev) k).2
  | 0 => ⟨rfl, rfl⟩
  | k + 1 => by
    obtain ⟨h1, h2⟩ := pMc_rw (q := q) (N := N) (d := d) (n := n) (C := C) (rr := rr) (lev := lev) (line := line) (g := g) k
    have e : 25 * n + C * rr + k = 25 * n + (rr * C + k) := by rw [Nat.mul_comm C rr]; omega
    constructor
    · show (pMc (ML q N d) (PL q N d) q n C lev g rr 0 line k).1 + g k + 3 * uni lev = _
      rw [h1, if_pos (Nat.succ_pos k)]
      rfl
    · show (pMc (ML q N d) (PL q N d) q n C lev g rr 0 line k).2 ++ PL q N d (q 10 (25 * n + C * rr + k)) (maI lev) 0 ((pMc (ML q N d) (PL q N d) q n C lev g rr 0 line k).1 + (g k - (ML q N d (q 10 (25 * n + C * rr + k)) (maI lev) 0).1) / 2) line = _
      rw [h1, h2, e, ← sh_P0]
      rfl
/-- greatest of those that a test lets through -/
def mxF (p : Nat → Bool) (f : Nat → Int32) : Nat → Int32
  | 0 => 0
  | k + 1 => if p k = true then mx (mxF p f k) (f k) else mxF p f k
theorem maS_w {M : TM} {q : Rw} {n R C : Nat} {lev : Int32} (hC1 : 1 ≤ C) (hC5 : C ≤ 5) (hR5 : R ≤ 5) : ∀ k, k ≤ R * C →
    (∀ c, c < C → maS M q n C lev k c = mxF (fun t => decide (t % C = c)) (fun t => (M (q 10 (25 * n + t)) (maI lev) 0).1) k) ∧ (∀ i, i < 5 → maS M q n C lev k (5 + i) = mxF (fun t => decide (t / C = i)) (fun t => (M (q 10 (25 * n + t)) (maI lev) 0).2.1) k) ∧ (∀ i, i < 5 → maS M q n C lev k (10 + i) = mxF (fun t => decide (t / C = i)) (fun t => (M (q 10 (25 * n + t)) (maI lev) 0).2.2) k) := by
  intro k
  induction k with
  | zero => intro _; exact ⟨fun _ _ => rfl, fun _ _ => rfl, fun _ _ => rfl⟩
  | succ k ih =>
    intro hk
    obtain ⟨h1, h2, h3⟩ := ih (by omega)
    have hm : k % C < C := Nat.mod_lt _ (by omega)
    have hd : k / C < R := by
      rw [Nat.div_lt_iff_lt_mul (by omega)]; omega
    refine ⟨fun c hc => ?_, fun i hi => ?_, fun i hi => ?_⟩
    · rw [maS, mxF]
      generalize k / C = kd at hd ⊢
      rw [pk_un (by omega), pk_un (by omega)]
      by_cases e : k % C = c
      · rw [if_pos (decide_eq_true e), e, pk_us, h1 c hc]
      · rw [if_neg (fun q9 => e (of_decide_eq_true q9)), pk_un (by omega), h1 c hc]
    · rw [maS, mxF]
      generalize k / C = kd at hd ⊢
      rw [pk_un (by omega)]
      by_cases e : kd = i
      · rw [if_pos (decide_eq_true e), e, pk_us, h2 i hi]
      · rw [if_neg (fun q9 => e (of_decide_eq_true q9)), pk_un (by omega), pk_un (by omega), h2 i hi]
    · rw [maS, mxF]
      generalize k / C = kd at hd ⊢
      by_cases e : kd = i
      · rw [if_pos (decide_eq_true e), e, pk_us, h3 i hi]
      · rw [if_neg (fun q9 => e (of_decide_eq_true q9)), pk_un (by omega), pk_un (by omega), pk_un (by omega), h3 i hi]
theorem mod_row {i C m : Nat} (hm : m < C) : (i * C + m) % C = m := by rw [Nat.add_comm, Nat.add_mul_mod_self_right]; exact Nat.mod_eq_of_lt hm
theorem div_row {i C m : Nat} (hm : m < C) : (i * C + m) / C = i := by rw [Nat.add_comm, Nat.add_mul_div_right _ _ (by omega), Nat.div_eq_of_lt hm]; omega
theorem mxF_c {f : Nat → Int32} {C c : Nat} (hc : c < C) : ∀ i, mxF (fun t => decide (t % C = c)) f (i * C) = mrF f (fun k => k * C + c) i
  | 0 => by rw [Nat.zero_mul]; rfl
  | i + 1 => by
    have key : ∀ m, m ≤ C → mxF (fun t => decide (t % C = c)) f (i * C + m) = if c < m then mx (mrF f (fun k => k * C + c) i) (f (i * C + c)) else mrF f (fun k => k * C + c) i := by
      intro m
      induction m with
      | zero => intro _; rw [Nat.add_zero, mxF_c hc i]; rfl
      | succ m ih =>
        intro hm
        rw [← Nat.add_assoc, mxF, ih (by omega)]
        by_cases e : m = c
        · rw [if_pos (decide_eq_true (by rw [mod_row (by omega)]; exact e)), if_neg (by omega), if_pos (by omega), e]
        · rw [if_neg (fun q9 => e (by have := of_decide_eq_true q9; rw [mod_row (by omega)] at this; exact this))]
          by_cases e2 : c < m
          · rw [if_pos e2, if_pos (by omega)]
          · rw [if_neg e2, if_neg (by omega)]
    rw [Nat.add_mul, Nat.one_mul, key C (Nat.le_refl _), if_pos hc]
    rfl
theorem mxF_r {f : Nat → Int32} {C R i : Nat} (hC : 1 ≤ C) : ∀ j, mxF (fun t => decide (t / C = i)) f (j * C) = if i < j then mrF f (fun k => i * C + k) C else 0
  | 0 => by rw [Nat.zero_mul]; rfl
  | j + 1 => by
    have key : ∀ m, m ≤ C → mxF (fun t => decide (t / C = i)) f (j * C + m) = if i < j then mrF f (fun k => i * C + k) C else if i = j then mrF f (fun k => i * C + k) m else 0 := by
      intro m
      induction m with
      | zero => intro _; rw [Nat.add_zero, mxF_r (R := R) hC j]; by_cases e : i < j; rw [if_pos e, if_pos e]; rw [if_neg e, if_neg e]; split <;> rfl
      | succ m ih =>
        intro hm
        rw [← Nat.add_assoc, mxF, ih (by omega)]
        by_cases e : j = i
        · rw [if_pos (decide_eq_true (by rw [div_row (by omega)]; exact e)), if_neg (by omega), if_pos e.symm, if_neg (by omega), if_pos e.symm, e]; rfl
        · rw [if_neg (fun q9 => e (by have := of_decide_eq_true q9; rw [div_row (by omega)] at this; exact this))]
          by_cases e2 : i < j
          · rw [if_pos e2, if_pos e2]
          · rw [if_neg e2, if_neg (fun h => e h.symm), if_neg e2, if_neg (fun h => e h.symm)]
    rw [Nat.add_mul, Nat.one_mul, key C (Nat.le_refl _)]
    by_cases e : i < j
    · rw [if_pos e, if_pos (by omega)]
    · rw [if_neg e]
      by_cases e2 : i = j
      · rw [if_pos e2, if_pos (by omega)]
      · rw [if_neg e2, if_neg (by omega)]
theorem mrF_e {f f' : Nat → Int32} {g g' : Nat → Nat} : ∀ k, (∀ m, m < k → f (g m) = f' (g' m)) → mrF f g k = mrF f' g' k
  | 0, _ => rfl
  | k + 1, h => by rw [mrF, mrF, mrF_e k (fun m hm => h m (by omega)), h k (by omega)]
/-- the widths, heights and depths as the boxes of the cells give them -/
theorem ma_g {M : TM} {q u : Rw} {n R C : Nat} {lev : Int32} {jc : Nat → Nat} (hC1 : 1 ≤ C) (hC5 : C ≤ 5) (hR5 : R ≤ 5) (hB : ∀ t, t < R * C → BM u (jc t) (M (q 10 (25 * n + t)) (maI lev) 0)) :
    (∀ c, c < C → mrF (u 13) (fun k => jc (k * C + c)) R = maS M q n C lev (R * C) c) ∧ (∀ i, i < R → mrF (u 14) (fun k => jc (i * C + k)) C = maS M q n C lev (R * C) (5 + i)) ∧ (∀ i, i < R → mrF (u 15) (fun k => jc (i * C + k)) C = maS M q n C lev (R * C) (10 + i)) := by
  obtain ⟨h1, h2, h3⟩ := maS_w (M := M) (q := q) (n := n) (lev := lev) hC1 hC5 hR5 (R * C) (Nat.le_refl _)
  refine ⟨fun c hc => ?_, fun i hi => ?_, fun i hi => ?_⟩
  · rw [h1 c hc, mxF_c hc]
    exact mrF_e R (fun m hm => (hB _ (rc_lt hm hc)).1)
  · rw [h2 i (by omega), mxF_r (R := R) hC1, if_pos hi]
    exact mrF_e C (fun m hm => (hB _ (rc_lt hi hm)).2.1)
  · rw [h3 i (by omega), mxF_r (R := R) hC1, if_pos hi]
    exact mrF_e C (fun m hm => (hB _ (rc_lt hi hm)).2.2)
/-- a row's height: what is its bound, and that it is reached -/
theorem mrF_b {f : Nat → Int32} {g : Nat → Nat} {B : Int} (hB : 0 ≤ B) : ∀ k, (∀ m, m < k → 0 ≤ (f (g m)).toInt ∧ (f (g m)).toInt ≤ B) → (0 ≤ (mrF f g k).toInt ∧ (mrF f g k).toInt ≤ B) ∧ (∀ m, m < k → (f (g m)).toInt ≤ (mrF f g k).toInt) ∧ (0 < k → ∃ m, m < k ∧ (f (g m)).toInt = (mrF f g k).toInt)
  | 0, _ => ⟨⟨by show 0 ≤ (0 : Int32).toInt; decide, by show (0 : Int32).toInt ≤ B; rw [tI0]; exact hB⟩, fun m hm => absurd hm (Nat.not_lt_zero _), fun h => absurd h (Nat.lt_irrefl _)⟩
  | k + 1, h => by
    obtain ⟨⟨a1, a2⟩, a3, a4⟩ := mrF_b hB k (fun m hm => h m (by omega))
    obtain ⟨b1, b2⟩ := h k (by omega)
    rw [mrF, mx_t]
    refine ⟨⟨by omega, by omega⟩, fun m hm => ?_, fun _ => ?_⟩
    · rcases (show m < k ∨ m = k by omega) with e | e
      · have := a3 m e; omega
      · subst e; omega
    · by_cases e : (mrF f g k).toInt ≤ (f (g k)).toInt
      · exact ⟨k, by omega, by omega⟩
      · by_cases k0 : 0 < k
        · obtain ⟨m, hm, e2⟩ := a4 k0
          exact ⟨m, by omega, by omega⟩
        · exfalso
          have : k = 0 := by omega
          subst this
          exact e (by show (0 : Int32).toInt ≤ _; rw [tI0]; omega)
theorem hcF_t {Mt : Nat → T3} {base : Nat} {line H : Int32} (hl : -1000000000 ≤ line.toInt ∧ line.toInt ≤ 1000000000) : ∀ k, (∀ m, m < k → 0 ≤ (Mt (base + m)).2.1.toInt ∧ (Mt (base + m)).2.1.toInt ≤ 10000000) → (H.toInt ≤ (hcF Mt base line H k).toInt ∧ (∀ m, m < k → line.toInt + (Mt (base + m)).2.1.toInt ≤ (hcF Mt base line H k).toInt) ∧ ((hcF Mt base line H k).toInt = H.toInt ∨ ∃ m, m < k ∧ (hcF Mt base line H k).toInt = line.toInt + (Mt (base + m)).2.1.toInt))
  | 0, _ => ⟨Int.le_refl _, fun m hm => absurd hm (Nat.not_lt_zero _), Or.inl rfl⟩
  | k + 1, h => by
    obtain ⟨a1, a2, a3⟩ := hcF_t hl (H := H) k (fun m hm => h m (by omega))
    have b := h k (by omega)
    have e : (line + (Mt (base + k)).2.1).toInt = line.toInt + (Mt (base + k)).2.1.toInt := t_add (by omega) (by omega)
    rw [hcF, mx_t, e]
    refine ⟨by omega, fun m hm => ?_, ?_⟩
    · rcases (show m < k ∨ m = k by omega) with e | e
      · have := a2 m e; omega
      · subst e; omega
    · by_cases c : (hcF Mt base line H k).toInt ≤ line.toInt + (Mt (base + k)).2.1.toInt
      · exact Or.inr ⟨k, by omega, by omega⟩
      · rcases a3 with a3 | ⟨m, hm, a3⟩
        · exact Or.inl (by omega)
        · exact Or.inr ⟨m, by omega, by omega⟩
theorem dcF_t {Mt : Nat → T3} {base : Nat} {line H : Int32} (hl : -1000000000 ≤ line.toInt ∧ line.toInt ≤ 1000000000) : ∀ k, (∀ m, m < k → 0 ≤ (Mt (base + m)).2.2.toInt ∧ (Mt (base + m)).2.2.toInt ≤ 10000000) → (H.toInt ≤ (dcF Mt base line H k).toInt ∧ (∀ m, m < k → (Mt (base + m)).2.2.toInt - line.toInt ≤ (dcF Mt base line H k).toInt) ∧ ((dcF Mt base line H k).toInt = H.toInt ∨ ∃ m, m < k ∧ (dcF Mt base line H k).toInt = (Mt (base + m)).2.2.toInt - line.toInt))
  | 0, _ => ⟨Int.le_refl _, fun m hm => absurd hm (Nat.not_lt_zero _), Or.inl rfl⟩
  | k + 1, h => by
    obtain ⟨a1, a2, a3⟩ := dcF_t hl (H := H) k (fun m hm => h m (by omega))
    have b := h k (by omega)
    have e : ((Mt (base + k)).2.2 - line).toInt = (Mt (base + k)).2.2.toInt - line.toInt := t_sub (by omega) (by omega)
    rw [dcF, mx_t, e]
    refine ⟨by omega, fun m hm => ?_, ?_⟩
    · rcases (show m < k ∨ m = k by omega) with e | e
      · have := a2 m e; omega
      · subst e; omega
    · by_cases c : (dcF Mt base line H k).toInt ≤ (Mt (base + k)).2.2.toInt - line.toInt
      · exact Or.inr ⟨k, by omega, by omega⟩
      · rcases a3 with a3 | ⟨m, hm, a3⟩
        · exact Or.inl (by omega)
        · exact Or.inr ⟨m, by omega, by omega⟩
/-- a row as a whole -/
theorem hc_all {Mt : Nat → T3} {base C : Nat} {line H : Int32} (hC : 1 ≤ C) (hl : -1000000000 ≤ line.toInt ∧ line.toInt ≤ 1000000000) (h : ∀ m, m < C → 0 ≤ (Mt (base + m)).2.1.toInt ∧ (Mt (base + m)).2.1.toInt ≤ 10000000) : (hcF Mt base line H C).toInt = max H.toInt (line.toInt + (mrF (fun t => (Mt t).2.1) (fun k => base + k) C).toInt) := by
  obtain ⟨a1, a2, a3⟩ := hcF_t hl (H := H) C h
  obtain ⟨b1, b2, b3⟩ := mrF_b (B := 10000000) (by decide) (f := fun t => (Mt t).2.1) (g := fun k => base + k) C h
  obtain ⟨m0, hm0, e0⟩ := b3 (by omega)
  have c1 := a2 m0 hm0
  rcases a3 with a3 | ⟨m, hm, a3⟩
  · omega
  · have := b2 m hm
    omega
theorem dc_all {Mt : Nat → T3} {base C : Nat} {line H : Int32} (hC : 1 ≤ C) (hl : -1000000000 ≤ line.toInt ∧ line.toInt ≤ 1000000000) (h : ∀ m, m < C → 0 ≤ (Mt (base + m)).2.2.toInt ∧ (Mt (base + m)).2.2.toInt ≤ 10000000) : (dcF Mt base line H C).toInt = max H.toInt ((mrF (fun t => (Mt t).2.2) (fun k => base + k) C).toInt - line.toInt) := by
  obtain ⟨a1, a2, a3⟩ := dcF_t hl (H := H) C h
  obtain ⟨b1, b2, b3⟩ := mrF_b (B := 10000000) (by decide) (f := fun t => (Mt t).2.2) (g := fun k => base + k) C h
  obtain ⟨m0, hm0, e0⟩ := b3 (by omega)
  have c1 := a2 m0 hm0
  rcases a3 with a3 | ⟨m, hm, a3⟩
  · omega
  · have := b2 m hm
    omega
