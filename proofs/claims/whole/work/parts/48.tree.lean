/-! THE TREE OF LISTS, over the reference's rows q: 1 in, 2 listOf, 3 what, 4 kinds, 5 one, 6 two, 7 three, 8 upper, 9 lower, 10 cells -/
abbrev Rw : Type := Nat → Nat → Int32
def lvO (lev : Int32) : Prop := lev = 0 ∨ lev = 1 ∨ lev = 2 ∨ lev = 3
/-- whether the list i is the list k, or in an atom that is in it, and so on -/
def wn (q : Rw) (k i : Nat) : Bool := wiF (q 1) (q 2) (nI k) 30 (nI i)
/-- whether a box is one of the list k's -/
def bx (q : Rw) (k b : Nat) : Bool := wiF (q 1) (q 2) (nI k) 30 (if b < 30 then nI b else q 2 (b - 30))
/-- the list j is the s-th of the node n's -/
def FLD (q : Rw) (n s j : Nat) : Prop := j < 30 ∧ ((s = 0 ∧ q 3 n = 1 ∧ q 5 n = nI j) ∨ (s = 1 ∧ (q 3 n = 1 ∨ q 3 n = 2) ∧ q 6 n = nI j) ∨ (s = 2 ∧ q 8 n = nI j) ∨ (s = 3 ∧ q 9 n = nI j) ∨ (4 ≤ s ∧ q 3 n = 3 ∧ s - 4 < (q 5 n).toNatClampNeg * (q 6 n).toNatClampNeg ∧ q 10 (25 * n + (s - 4)) = nI j))
def isLs (x : Int32) : Prop := ∃ j, j < 30 ∧ x = nI j
def NDK (q : Rw) (n : Nat) : Prop :=
  (0 ≤ q 4 n ∧ q 4 n < 8) ∧ (q 8 n = -1 ∨ isLs (q 8 n)) ∧ (q 9 n = -1 ∨ isLs (q 9 n)) ∧
  ((q 3 n = 0 ∧ 0 ≤ q 5 n ∧ q 5 n < 256) ∨ (q 3 n = 1 ∧ isLs (q 5 n) ∧ isLs (q 6 n) ∧ -1 ≤ q 7 n ∧ q 7 n ≤ 1000) ∨
   (q 3 n = 2 ∧ isLs (q 6 n) ∧ 0 ≤ q 5 n ∧ q 5 n ≤ 5 ∧ 0 ≤ q 7 n ∧ q 7 n ≤ 5 ∧ ¬ (q 5 n = 0 ∧ q 7 n = 0)) ∨
   (q 3 n = 3 ∧ ∃ R C, q 5 n = nI R ∧ q 6 n = nI C ∧ 1 ≤ R ∧ R ≤ 5 ∧ 1 ≤ C ∧ C ≤ 5 ∧ ∀ t, t < R * C → isLs (q 10 (25 * n + t))) ∨
   (q 3 n = 4 ∧ lvO (q 5 n) ∧ q 8 n = -1 ∧ q 9 n = -1))
def LY (q : Rw) (N : Nat) (dp sl : Nat → Nat) : Prop :=
  N ≤ 120 ∧ (∀ n, n < 120 → isLs (q 2 n)) ∧
  (∀ j, j < 30 → dp j ≤ 29 ∧ (q 1 j = -1 ∨ ∃ n i, q 1 j = nI n ∧ n < N ∧ q 2 n = nI i ∧ i < 30 ∧ dp i < dp j)) ∧
  (∀ n, n < N → ∀ s j, FLD q n s j → q 1 j = nI n ∧ sl j = s) ∧ (∀ n, n < N → NDK q n)
theorem wF_en {q : Rw} {N : Nat} {dp sl : Nat → Nat} (hT : LY q N dp sl) {o : Int32} : ∀ (f i f' : Nat), i < 30 → dp i < f → dp i < f' → wiF (q 1) (q 2) o f (nI i) = wiF (q 1) (q 2) o f' (nI i) := by
  intro f
  induction f with
  | zero => intro i f' _ h; exact absurd h (Nat.not_lt_zero _)
  | succ f ih =>
    intro i f' hi h h'
    obtain ⟨f', rfl⟩ : ∃ g, f' = g + 1 := ⟨f' - 1, by omega⟩
    by_cases e : nI i = o
    · rw [e, wiF_eq, wiF_eq]
    · rcases (hT.2.2.1 i hi).2 with h0 | ⟨n, i', e1, hn, e2, hi', hlt⟩
      · rw [wiF_no _ (by omega) e h0, wiF_no _ (by omega) e h0]
      · have h9 := hT.1
        have hne : ¬ q 1 i = -1 := by rw [e1]; exact nI_ne_m1 (by omega)
        rw [wiF_st _ (by omega) (by omega) e hne e1 e2, wiF_st _ (by omega) (by omega) e hne e1 e2]
        exact ih i' f' hi' (by omega) (by omega)
theorem wn_self (q : Rw) (k : Nat) : wn q k k = true := wiF_eq _
theorem wn_ro {q : Rw} {k i : Nat} (hk : k < 30) (hi : i < 30) (h : ¬ i = k) (h0 : q 1 i = -1) : wn q k i = false := wiF_no _ (by omega) (fun e => h (nI_inj (by omega) (by omega) e)) h0
theorem wn_st {q : Rw} {N : Nat} {dp sl : Nat → Nat} (hT : LY q N dp sl) {k i n i' : Nat} (hk : k < 30) (hi : i < 30) (h : ¬ i = k) (e1 : q 1 i = nI n) (hn : n < N) (e2 : q 2 n = nI i') (hi' : i' < 30) (hlt : dp i' < dp i) : wn q k i = wn q k i' := by
  have h9 := hT.1
  have hne : ¬ q 1 i = -1 := by rw [e1]; exact nI_ne_m1 (by omega)
  have h3 := (hT.2.2.1 i hi).1
  unfold wn
  rw [wiF_st 29 (by omega) (by omega) (fun e => h (nI_inj (by omega) (by omega) e)) hne e1 e2]
  exact wF_en hT _ _ _ hi' (by omega) (by omega)
theorem wn_dp {q : Rw} {N : Nat} {dp sl : Nat → Nat} (hT : LY q N dp sl) {k : Nat} (hk : k < 30) : ∀ (t i : Nat), dp i ≤ t → i < 30 → wn q k i = true → i = k ∨ dp k < dp i := by
  intro t
  induction t with
  | zero =>
    intro i ht hi h
    by_cases e : i = k
    · exact Or.inl e
    · rcases (hT.2.2.1 i hi).2 with h0 | ⟨n, i', e1, hn, e2, hi', hlt⟩
      · rw [wn_ro hk hi e h0] at h; exact absurd h (by decide)
      · omega
  | succ t ih =>
    intro i ht hi h
    by_cases e : i = k
    · exact Or.inl e
    · rcases (hT.2.2.1 i hi).2 with h0 | ⟨n, i', e1, hn, e2, hi', hlt⟩
      · rw [wn_ro hk hi e h0] at h; exact absurd h (by decide)
      · rw [wn_st hT hk hi e e1 hn e2 hi' hlt] at h
        rcases ih i' (by omega) hi' h with e9 | e9
        · right; rw [← e9]; exact hlt
        · right; omega
theorem wn_sub {q : Rw} {N : Nat} {dp sl : Nat → Nat} (hT : LY q N dp sl) {j k n : Nat} (hj : j < 30) (hk : k < 30) (e1 : q 1 j = nI n) (hn : n < N) (e2 : q 2 n = nI k) (hlt : dp k < dp j) : ∀ (t i : Nat), dp i ≤ t → i < 30 → wn q j i = true → wn q k i = true := by
  intro t
  induction t with
  | zero =>
    intro i ht hi h
    rcases wn_dp hT hj _ i (Nat.le_refl _) hi h with e | e
    · subst e; omega
    · omega
  | succ t ih =>
    intro i ht hi h
    by_cases e : i = j
    · subst e
      rw [wn_st hT hk hi (fun e9 => by subst e9; omega) e1 hn e2 hk hlt]
      exact wn_self q k
    · by_cases e9 : i = k
      · subst e9; exact wn_self q _
      · rcases (hT.2.2.1 i hi).2 with h0 | ⟨n', i', e1', hn', e2', hi', hlt'⟩
        · rw [wn_ro hj hi e h0] at h; exact absurd h (by decide)
        · rw [wn_st hT hj hi e e1' hn' e2' hi' hlt'] at h
          rw [wn_st hT hk hi e9 e1' hn' e2' hi' hlt']
          exact ih i' (by omega) hi' h
theorem bx_wn {q : Rw} {N : Nat} {dp sl : Nat → Nat} (hT : LY q N dp sl) {b : Nat} (hb : b < 150) : ∃ i, i < 30 ∧ (∀ k, bx q k b = wn q k i) ∧ (b < 30 → i = b) ∧ (30 ≤ b → q 2 (b - 30) = nI i) := by
  by_cases h : b < 30
  · exact ⟨b, h, fun k => by unfold bx wn; rw [if_pos h], fun _ => rfl, fun h2 => absurd h (by omega)⟩
  · obtain ⟨i, hi, e⟩ := hT.2.1 (b - 30) (by omega)
    exact ⟨i, hi, fun k => by unfold bx wn; rw [if_neg h, e], fun h2 => absurd h2 h, fun _ => e⟩
/-- what a node's list is to it -/
theorem fl_dp {q : Rw} {N : Nat} {dp sl : Nat → Nat} (hT : LY q N dp sl) {n s j k : Nat} (hn : n < N) (hk : k < 30) (e2 : q 2 n = nI k) (hf : FLD q n s j) : j < 30 ∧ q 1 j = nI n ∧ dp k < dp j := by
  have h9 := hT.1
  obtain ⟨h1, h2⟩ := hT.2.2.2.1 n hn s j hf
  refine ⟨hf.1, h1, ?_⟩
  rcases (hT.2.2.1 j hf.1).2 with h0 | ⟨n', i', e1', hn', e2', hi', hlt'⟩
  · rw [h1] at h0; exact absurd h0 (nI_ne_m1 (by omega))
  · rw [h1] at e1'
    have := nI_inj (by omega) (by omega) e1'
    subst this
    rw [e2] at e2'
    have := nI_inj (by omega) (by omega) e2'
    subst this
    exact hlt'
theorem bx_sub {q : Rw} {N : Nat} {dp sl : Nat → Nat} (hT : LY q N dp sl) {n s j k b : Nat} (hn : n < N) (hk : k < 30) (e2 : q 2 n = nI k) (hf : FLD q n s j) (hb : b < 150) (h : bx q k b = false) : bx q j b = false := by
  obtain ⟨hj, h1, hlt⟩ := fl_dp hT hn hk e2 hf
  obtain ⟨i, hi, hw, _⟩ := bx_wn hT hb
  rw [hw] at h ⊢
  cases h9 : wn q j i
  · rfl
  · rw [wn_sub hT hj hk h1 hn e2 hlt _ i (Nat.le_refl _) hi h9] at h; exact absurd h (by decide)
theorem wn_k {q : Rw} {N : Nat} {dp sl : Nat → Nat} (hT : LY q N dp sl) {n s j k : Nat} (hn : n < N) (hk : k < 30) (e2 : q 2 n = nI k) (hf : FLD q n s j) : wn q j k = false := by
  obtain ⟨hj, h1, hlt⟩ := fl_dp hT hn hk e2 hf
  cases h9 : wn q j k
  · rfl
  · rcases wn_dp hT hj _ k (Nat.le_refl _) hk h9 with e | e
    · subst e; omega
    · omega
theorem bx_k {q : Rw} {N : Nat} {dp sl : Nat → Nat} (hT : LY q N dp sl) {n s j k : Nat} (hn : n < N) (hk : k < 30) (e2 : q 2 n = nI k) (hf : FLD q n s j) : bx q j k = false := by
  have := wn_k hT hn hk e2 hf
  unfold bx; rw [if_pos hk]; exact this
theorem bx_n {q : Rw} {N : Nat} {dp sl : Nat → Nat} (hT : LY q N dp sl) {n s j k : Nat} (hn : n < N) (hk : k < 30) (e2 : q 2 n = nI k) (hf : FLD q n s j) : bx q j (30 + n) = false := by
  have := wn_k hT hn hk e2 hf
  unfold bx; rw [if_neg (by omega), show 30 + n - 30 = n by omega, e2]; exact this
theorem bx_s {q : Rw} {N : Nat} {dp sl : Nat → Nat} (hT : LY q N dp sl) {n s j k s' j' : Nat} (hn : n < N) (hk : k < 30) (e2 : q 2 n = nI k) (hf : FLD q n s j) (hf' : FLD q n s' j') (hs : ¬ s = s') : bx q j j' = false := by
  obtain ⟨hj, h1, hlt⟩ := fl_dp hT hn hk e2 hf
  obtain ⟨hj', h1', hlt'⟩ := fl_dp hT hn hk e2 hf'
  have hne : ¬ j' = j := by
    intro e; subst e
    exact hs ((hT.2.2.2.1 n hn s j' hf).2.symm.trans (hT.2.2.2.1 n hn s' j' hf').2)
  have h2 : wn q j j' = false := by rw [wn_st hT hj hj' hne h1' hn e2 hk hlt']; exact wn_k hT hn hk e2 hf
  unfold bx; rw [if_pos hj']; exact h2
theorem bx_0 (q : Rw) {k : Nat} (hk : k < 30) : bx q k k = true := by
  unfold bx; rw [if_pos hk]; exact wn_self q k
theorem bx_at {q : Rw} {n k : Nat} (e2 : q 2 n = nI k) : bx q k (30 + n) = true := by
  unfold bx; rw [if_neg (by omega), show 30 + n - 30 = n by omega, e2]; exact wn_self q k
/-! the class's rows beside the reference's, and what its layout of a list, and of a nucleus, leaves behind -/
def RQ (q : Rw) (N : Nat) (v : Nat → Int32) (r : Rw) : Prop :=
  (r 2 = q 2 ∧ r 3 = q 3 ∧ r 4 = q 4 ∧ r 5 = q 8 ∧ r 6 = q 9) ∧ (∀ n, n < N → ¬ q 3 n = 3 → r 7 n = q 5 n ∧ r 8 n = q 6 n ∧ r 9 n = q 7 n) ∧
  (∀ n, n < N → q 3 n = 3 → r 8 n = q 5 n ∧ r 9 n = q 6 n ∧ ∃ F K, r 7 n = nI F ∧ v 3 = nI K ∧ K ≤ 30 ∧ F + (q 5 n).toNatClampNeg * (q 6 n).toNatClampNeg ≤ K ∧ ∀ t, t < (q 5 n).toNatClampNeg * (q 6 n).toNatClampNeg → r 11 (F + t) = q 10 (25 * n + t))
/-- the rows of the book are the same -/
def SB (r u : Rw) : Prop := ∀ j, j ≤ 12 → u j = r j
theorem SB.rf (r : Rw) : SB r r := fun _ _ => rfl
theorem SB.tr {r u w : Rw} (h : SB r u) (h2 : SB u w) : SB r w := fun j hj => (h2 j hj).trans (h j hj)
theorem RQ.sb {q : Rw} {N : Nat} {v : Nat → Int32} {r u : Rw} (h : RQ q N v r) (hs : SB r u) : RQ q N v u := by
  unfold RQ
  rw [hs 2 (by decide), hs 3 (by decide), hs 4 (by decide), hs 5 (by decide), hs 6 (by decide), hs 7 (by decide), hs 8 (by decide), hs 9 (by decide), hs 11 (by decide)]
  exact h
/-- boxes the same at a place -/
def SX (r u : Rw) (b : Nat) : Prop := u 13 b = r 13 b ∧ u 14 b = r 14 b ∧ u 15 b = r 15 b ∧ u 16 b = r 16 b ∧ u 17 b = r 17 b
theorem SX.rf (r : Rw) (b : Nat) : SX r r b := ⟨rfl, rfl, rfl, rfl, rfl⟩
theorem SX.tr {r u w : Rw} {b : Nat} (h : SX r u b) (h2 : SX u w b) : SX r w b := ⟨h2.1.trans h.1, h2.2.1.trans h.2.1, h2.2.2.1.trans h.2.2.1, h2.2.2.2.1.trans h.2.2.2.1, h2.2.2.2.2.trans h.2.2.2.2⟩
/-- a box holds a measure -/
def BM (u : Rw) (b : Nat) (t : T3) : Prop := u 13 b = t.1 ∧ u 14 b = t.2.1 ∧ u 15 b = t.2.2
def LLP (q : Rw) (N d : Nat) (r : Rw) (k : Nat) (lev cr : Int32) (c : Nat) (u : Rw) : Prop :=
  SB r u ∧ u 19 = ptI (r 19) c (PL q N d (nI k) lev cr 0 0) ∧ BM u k (ML q N d (nI k) lev cr) ∧ u 16 k = nI c ∧ u 17 k = nI (c + (PL q N d (nI k) lev cr 0 0).length) ∧ ∀ b, b < 150 → bx q k b = false → SX r u b
def NUP (q : Rw) (r : Rw) (n c : Nat) (t : T3) (P : List It) (u : Rw) : Prop :=
  SB r u ∧ u 19 = ptI (r 19) c P ∧ BM u (30 + n) t ∧ u 16 (30 + n) = r 16 (30 + n) ∧ u 17 (30 + n) = r 17 (30 + n) ∧ ∀ b, b < 150 → ¬ b = 30 + n → (∀ s j, FLD q n s j → bx q j b = false) → SX r u b
def rxL (d : Nat) : Room := { frames := 4 * d + 4, cells := 0, slots := 0, locals := 200 * d + 100 }
def rxF (d : Nat) : Room := { frames := 4 * d + 5, cells := 0, slots := 0, locals := 200 * d + 140 }
def rxA (d : Nat) : Room := { frames := 4 * d + 6, cells := 0, slots := 0, locals := 200 * d + 180 }
/-- the class's layout of a list at the depth d: its contract -/
def HLL (l : Launch) (D : va_G) (cI : ClassId) (a : Nat → Nat) (q : Rw) (N : Nat) (dp : Nat → Nat) (d : Nat) : Prop :=
  ∀ (v : Nat → Int32) (r : Rw) (k lv c : Nat) (lev cr : Int32), k < 30 → 30 ≤ d + dp k → lv ≤ dp k → RQ q N v r → v 0 = nI N → lvO lev → c + (PL q N d (nI k) lev cr 0 0).length ≤ 150 →
    KV l D cI yX3_layList wsX3_layList (rxL d) [.ref (a 20), .int (nI k), .int lev, .int cr, .int (nI lv)] (wX cI a (vU v 4 (nI c)) r)
      (fun u : Rw => wX cI a (vU v 4 (nI (c + (PL q N d (nI k) lev cr 0 0).length))) u) (fun u => LLP q N d r k lev cr c u)
