/-- a list's walk on the way: behind the nodes below m -/
def LI (q : Rw) (N d k : Nat) (lev cr : Int32) (r : Rw) (c m : Nat) (u : Rw) : Prop :=
  SB r u ∧ u 19 = ptI (r 19) c (plS (ML q N d) (PL q N d) q N (nI k) lev cr 0 0 m) ∧ (u 13 k = (lsS (ML q N d) q N (nI k) lev cr m).1 ∧ u 14 k = (lsS (ML q N d) q N (nI k) lev cr m).2.1 ∧ u 15 k = (lsS (ML q N d) q N (nI k) lev cr m).2.2.1) ∧ u 16 k = nI c ∧ ∀ b, b < 150 → bx q k b = false → SX r u b
theorem bg_g (r : Rw) (b0 : Nat) (x : Int32) : SB r (bgR r b0 x) ∧ (bgR r b0 x) 19 = r 19 ∧ BM (bgR r b0 x) b0 (0, 0, 0) ∧ (bgR r b0 x) 16 b0 = x ∧ ∀ b, ¬ b = b0 → SX r (bgR r b0 x) b := by
  unfold bgR
  refine ⟨?_, ?_, ⟨?_, ?_, ?_⟩, ?_, ?_⟩
  · exact (((((SB.rf r).ru (by decide)).ru (by decide)).ru (by decide)).ru (by decide)).ru (by decide)
  · rw [rU_n (by decide), rU_n (by decide), rU_n (by decide), rU_n (by decide), rU_n (by decide)]
  · rw [rU_n (by decide), rU_n (by decide), rU_n (by decide), rU_n (by decide), rU_s, pk_us]
  · rw [rU_n (by decide), rU_n (by decide), rU_n (by decide), rU_s, pk_us]
  · rw [rU_n (by decide), rU_n (by decide), rU_s, pk_us]
  · rw [rU_n (by decide), rU_s, pk_us]
  · intro b hb
    refine ⟨?_, ?_, ?_, ?_, ?_⟩
    · rw [rU_n (by decide), rU_n (by decide), rU_n (by decide), rU_n (by decide), rU_s, pk_un hb]
    · rw [rU_n (by decide), rU_n (by decide), rU_n (by decide), rU_s, pk_un hb]
    · rw [rU_n (by decide), rU_n (by decide), rU_s, pk_un hb]
    · rw [rU_n (by decide), rU_s, pk_un hb]
    · rw [rU_s, pk_un hb]
theorem li_0 {q r : Rw} {N d k c : Nat} {lev cr : Int32} (hk : k < 30) : LI q N d k lev cr r c 0 (bgR r k (nI c)) := by
  obtain ⟨h1, h2, h3, h4, h5⟩ := bg_g r k (nI c)
  refine ⟨h1, by rw [h2]; exact (ptI_nil _ _).symm, h3, h4, fun b hb hx => h5 b (fun e => ?_)⟩
  subst e
  rw [bx_0 q hk] at hx
  exact absurd hx (by decide)
theorem ls_skip {q : Rw} {N d k m : Nat} {lev cr : Int32} (h : ¬ q 2 m = nI k) : lsS (ML q N d) q N (nI k) lev cr (m + 1) = lsS (ML q N d) q N (nI k) lev cr m ∧ plS (ML q N d) (PL q N d) q N (nI k) lev cr 0 0 (m + 1) = plS (ML q N d) (PL q N d) q N (nI k) lev cr 0 0 m ∧ bfr (q 2) (q 3) (q 4) N (nI k) (m + 1) = bfr (q 2) (q 3) (q 4) N (nI k) m := by
  refine ⟨?_, ?_, ?_⟩
  · rw [lsS]; rw [if_neg h]
  · rw [plS]; rw [if_neg h]
  · rw [bfr, if_neg (fun e => h e.1)]
theorem ls_style {q : Rw} {N d k m : Nat} {lev cr : Int32} (h : q 2 m = nI k) (h3 : q 3 m = 4) : lsS (ML q N d) q N (nI k) lev cr (m + 1) = ((lsS (ML q N d) q N (nI k) lev cr m).1, (lsS (ML q N d) q N (nI k) lev cr m).2.1, (lsS (ML q N d) q N (nI k) lev cr m).2.2.1, q 5 m, if q 6 m = 1 then 1 else 0) ∧ plS (ML q N d) (PL q N d) q N (nI k) lev cr 0 0 (m + 1) = plS (ML q N d) (PL q N d) q N (nI k) lev cr 0 0 m ∧ bfr (q 2) (q 3) (q 4) N (nI k) (m + 1) = bfr (q 2) (q 3) (q 4) N (nI k) m := by
  refine ⟨?_, ?_, ?_⟩
  · rw [lsS]; rw [if_pos h, if_pos h3]
  · rw [plS]; rw [if_pos h, if_pos h3]
  · rw [bfr, if_neg (fun e => e.2 h3)]
/-- the space ahead of an atom -/
def spA (q : Rw) (N k m : Nat) (lev : Int32) : Int32 := if bfr (q 2) (q 3) (q 4) N (nI k) m = -1 then 0 else spO (bfr (q 2) (q 3) (q 4) N (nI k) m) (cnA (q 2) (q 3) (q 4) N m) lev
theorem ls_atom {q : Rw} {N d k m : Nat} {lev cr : Int32} (h : q 2 m = nI k) (h3 : ¬ q 3 m = 4) :
    lsS (ML q N d) q N (nI k) lev cr (m + 1) = ((lsS (ML q N d) q N (nI k) lev cr m).1 + spA q N k m (lsS (ML q N d) q N (nI k) lev cr m).2.2.2.1 + (mAt (ML q N d) q m (lsS (ML q N d) q N (nI k) lev cr m).2.2.2.1 (lsS (ML q N d) q N (nI k) lev cr m).2.2.2.2).1,
      mx (lsS (ML q N d) q N (nI k) lev cr m).2.1 (mAt (ML q N d) q m (lsS (ML q N d) q N (nI k) lev cr m).2.2.2.1 (lsS (ML q N d) q N (nI k) lev cr m).2.2.2.2).2.1, mx (lsS (ML q N d) q N (nI k) lev cr m).2.2.1 (mAt (ML q N d) q m (lsS (ML q N d) q N (nI k) lev cr m).2.2.2.1 (lsS (ML q N d) q N (nI k) lev cr m).2.2.2.2).2.2, (lsS (ML q N d) q N (nI k) lev cr m).2.2.2.1, (lsS (ML q N d) q N (nI k) lev cr m).2.2.2.2) ∧
    plS (ML q N d) (PL q N d) q N (nI k) lev cr 0 0 (m + 1) = plS (ML q N d) (PL q N d) q N (nI k) lev cr 0 0 m ++ (pAt (ML q N d) (PL q N d) q m (lsS (ML q N d) q N (nI k) lev cr m).2.2.2.1 (lsS (ML q N d) q N (nI k) lev cr m).2.2.2.2 0 0).map (sft ((lsS (ML q N d) q N (nI k) lev cr m).1 + spA q N k m (lsS (ML q N d) q N (nI k) lev cr m).2.2.2.1) 0) ∧
    bfr (q 2) (q 3) (q 4) N (nI k) (m + 1) = cnA (q 2) (q 3) (q 4) N m := by
  refine ⟨?_, ?_, ?_⟩
  · rw [lsS]; rw [if_pos h, if_neg h3]; rfl
  · rw [plS]; rw [if_pos h, if_neg h3, sh_at9 (sh_PL q N d), Int32.zero_add, Int32.zero_add, Int32.zero_add]; rfl
  · rw [bfr, if_pos ⟨h, h3⟩, cnA, h]
theorem pls_len {q : Rw} {N d k : Nat} {lev cr : Int32} {m : Nat} : ∀ {j : Nat}, m ≤ j → (plS (ML q N d) (PL q N d) q N (nI k) lev cr 0 0 m).length ≤ (plS (ML q N d) (PL q N d) q N (nI k) lev cr 0 0 j).length := by
  intro j
  induction j with
  | zero => intro h; rw [show m = 0 by omega]; exact Nat.le_refl _
  | succ j ih =>
    intro h
    by_cases e : m = j + 1
    · rw [e]; exact Nat.le_refl _
    · have h1 := ih (by omega)
      by_cases c1 : q 2 j = nI k
      · by_cases c2 : q 3 j = 4
        · rw [(ls_style (N := N) (d := d) (lev := lev) (cr := cr) c1 c2).2.1]; exact h1
        · rw [(ls_atom (N := N) (d := d) (lev := lev) (cr := cr) c1 c2).2.1, List.length_append]; omega
      · rw [(ls_skip (N := N) (d := d) (lev := lev) (cr := cr) c1).2.1]; exact h1
/-- what append leaves -/
def apR (w : Rw) (k m i0 j0 : Nat) (x : Int32) : Rw := wdR (cvR (shR w (w 13 k + x) 0 i0 j0) k 0 (w 14 (30 + m)) (w 15 (30 + m))) k (w 13 k + x + w 13 (30 + m))
theorem ap_f {w : Rw} {k m i0 j0 : Nat} {x : Int32} : SB w (apR w k m i0 j0 x) ∧ (apR w k m i0 j0 x) 19 = shF (w 19) (w 13 k + x) 0 i0 j0 ∧ ((apR w k m i0 j0 x) 13 k = w 13 k + x + w 13 (30 + m) ∧ (apR w k m i0 j0 x) 14 k = mx (0 + w 14 (30 + m)) (w 14 k) ∧ (apR w k m i0 j0 x) 15 k = mx (w 15 (30 + m) - 0) (w 15 k)) ∧ (apR w k m i0 j0 x) 16 k = w 16 k ∧ ∀ b, ¬ b = k → SX w (apR w k m i0 j0 x) b := by
  unfold apR wdR cvR shR
  refine ⟨?_, ?_, ⟨?_, ?_, ?_⟩, ?_, ?_⟩
  · exact ((((SB.rf w).ru (by decide)).ru (by decide)).ru (by decide)).ru (by decide)
  · rw [rU_n (by decide), rU_n (by decide), rU_n (by decide), rU_s]
  · rw [rU_s, pk_us]
  · rw [rU_n (by decide), rU_n (by decide), rU_s, pk_us, rU_n (by decide)]
  · rw [rU_n (by decide), rU_s, pk_us, rU_n (by decide)]
  · rw [rU_n (by decide), rU_n (by decide), rU_n (by decide), rU_n (by decide)]
  · intro b hb
    refine ⟨?_, ?_, ?_, ?_, ?_⟩
    · rw [rU_s, pk_un hb, rU_n (by decide), rU_n (by decide), rU_n (by decide)]
    · rw [rU_n (by decide), rU_n (by decide), rU_s, pk_un hb, rU_n (by decide)]
    · rw [rU_n (by decide), rU_s, pk_un hb, rU_n (by decide)]
    · rw [rU_n (by decide), rU_n (by decide), rU_n (by decide), rU_n (by decide)]
    · rw [rU_n (by decide), rU_n (by decide), rU_n (by decide), rU_n (by decide)]
theorem li_atom {q r u w : Rw} {N d k c m c2 : Nat} {dp sl : Nat → Nat} {lev cr x : Int32} (hT : LY q N dp sl) (hm : m < N) (hk : k < 30) (h : q 2 m = nI k) (h3 : ¬ q 3 m = 4) (hl : LI q N d k lev cr r c m u) (hc : c2 = c + (plS (ML q N d) (PL q N d) q N (nI k) lev cr 0 0 m).length)
    (hA : ATP q u (u 19) m c2 (mAt (ML q N d) q m (lsS (ML q N d) q N (nI k) lev cr m).2.2.2.1 (lsS (ML q N d) q N (nI k) lev cr m).2.2.2.2) (pAt (ML q N d) (PL q N d) q m (lsS (ML q N d) q N (nI k) lev cr m).2.2.2.1 (lsS (ML q N d) q N (nI k) lev cr m).2.2.2.2 0 0) w)
    (hx : x = spA q N k m (lsS (ML q N d) q N (nI k) lev cr m).2.2.2.1) :
    LI q N d k lev cr r c (m + 1) (apR w k m c2 (c2 + (pAt (ML q N d) (PL q N d) q m (lsS (ML q N d) q N (nI k) lev cr m).2.2.2.1 (lsS (ML q N d) q N (nI k) lev cr m).2.2.2.2 0 0).length) x) := by
  obtain ⟨e1, e2, e3⟩ := ls_atom (N := N) (d := d) (lev := lev) (cr := cr) h h3
  obtain ⟨g1, g2, ⟨g3, g4, g5⟩, g6, g7⟩ := hl
  obtain ⟨a1, a2, ⟨a3, a4, a5⟩, a6, a7⟩ := hA
  obtain ⟨f1, f2, ⟨f3, f4, f5⟩, f6, f7⟩ := ap_f (w := w) (k := k) (m := m) (i0 := c2) (j0 := c2 + (pAt (ML q N d) (PL q N d) q m (lsS (ML q N d) q N (nI k) lev cr m).2.2.2.1 (lsS (ML q N d) q N (nI k) lev cr m).2.2.2.2 0 0).length) (x := x)
  have h9 := hT.1
  obtain ⟨s1, s2, s3, s4, s5⟩ := a7 k (by omega) (by omega) (fun s j hf => bx_k hT hm hk h hf)
  unfold LI
  rw [e1, e2]
  refine ⟨(g1.tr a1).tr f1, ?_, ⟨?_, ?_, ?_⟩, ?_, fun b hb hx => ?_⟩
  · rw [f2, a2, g2, hc, ptI_app, s1, g3, hx]
    have hs := sh_pt (r 19) c (plS (ML q N d) (PL q N d) q N (nI k) lev cr 0 0 m) (pAt (ML q N d) (PL q N d) q m (lsS (ML q N d) q N (nI k) lev cr m).2.2.2.1 (lsS (ML q N d) q N (nI k) lev cr m).2.2.2.2 0 0) [] ((lsS (ML q N d) q N (nI k) lev cr m).1 + spA q N k m (lsS (ML q N d) q N (nI k) lev cr m).2.2.2.1) 0 rfl rfl
    rw [List.append_nil, List.append_nil] at hs
    exact hs
  · rw [f3, s1, g3, a3, hx]
  · rw [f4, s2, g4, a4, Int32.zero_add, mx_c]
  · rw [f5, s3, g5, a5, Int32.sub_zero, mx_c]
  · rw [f6, s4, g6]
  · refine ((g7 b hb hx).tr (a7 b hb (fun e => ?_) (fun s j hf => bx_sub hT hm hk h hf hb hx))).tr (f7 b (fun e => ?_))
    · subst e; rw [bx_at h] at hx; exact absurd hx (by decide)
    · subst e; rw [bx_0 q hk] at hx; exact absurd hx (by decide)
theorem li_end {q r u : Rw} {N d k c : Nat} {lev cr : Int32} (hk : k < 30) (hl : LI q N d k lev cr r c N u) : LLP q N (d + 1) r k lev cr c (rU u 17 (upd (u 17) k (nI (c + (plS (ML q N d) (PL q N d) q N (nI k) lev cr 0 0 N).length)))) := by
  obtain ⟨g1, g2, ⟨g3, g4, g5⟩, g6, g7⟩ := hl
  refine ⟨g1.ru (by decide), by rw [rU_n (by decide)]; exact g2, ⟨by rw [rU_n (by decide)]; exact g3, by rw [rU_n (by decide)]; exact g4, by rw [rU_n (by decide)]; exact g5⟩, by rw [rU_n (by decide)]; exact g6, by rw [rU_s, pk_us]; rfl, fun b hb hx => (g7 b hb hx).tr ⟨by rw [rU_n (by decide)], by rw [rU_n (by decide)], by rw [rU_n (by decide)], by rw [rU_n (by decide)], ?_⟩⟩
  rw [rU_s, pk_un (fun e => by subst e; rw [bx_0 q hk] at hx; exact absurd hx (by decide))]
/-- kinds stay kinds -/
theorem caK_r {k bf nk : Int32} (h : 0 ≤ k ∧ k < 8) : 0 ≤ caK k bf nk ∧ caK k bf nk < 8 := by
  unfold caK
  by_cases e : k = 2
  · rw [if_pos e]; split <;> decide
  · rw [if_neg e]; exact h
theorem bfr_r {q : Rw} {N : Nat} {dp sl : Nat → Nat} (hT : LY q N dp sl) {l : Int32} : ∀ m, m ≤ N → bfr (q 2) (q 3) (q 4) N l m = -1 ∨ (0 ≤ bfr (q 2) (q 3) (q 4) N l m ∧ bfr (q 2) (q 3) (q 4) N l m < 8)
  | 0, _ => Or.inl rfl
  | m + 1, hm => by
    rw [bfr]
    by_cases h : q 2 m = l ∧ ¬ q 3 m = 4
    · rw [if_pos h]; exact Or.inr (caK_r (hT.2.2.2.2 m (by omega)).1)
    · rw [if_neg h]; exact bfr_r hT m (by omega)
theorem ltr_r (a b : Int32) : ltr a b = 0 ∨ ltr a b = 1 ∨ ltr a b = 2 ∨ ltr a b = 3 ∨ ltr a b = 4 := by
  unfold ltr
  (repeat' split) <;> simp
theorem sp_e {a b lev : Int32} (ha : a = -1 ∨ (0 ≤ a ∧ a < 8)) (hb : 0 ≤ b ∧ b < 8) (hl : lvO lev) : spU a b lev * uni lev = if a = -1 then 0 else spO a b lev := by
  by_cases e : a = -1
  · rw [if_pos e]
    unfold spU
    rw [if_neg (fun h => absurd (e ▸ h.1.1) (by decide)), Int32.zero_mul]
  · rw [if_neg e]
    have ha2 := ha.resolve_left e
    unfold spU spO
    rw [if_pos ⟨ha2, hb⟩]
    rcases ltr_r a b with f | f | f | f | f <;> rw [f] <;> rcases hl with g | g | g | g <;> subst g <;> decide
theorem li_lv {q : Rw} {N d k : Nat} {dp sl : Nat → Nat} {lev cr : Int32} (hT : LY q N dp sl) (hl : lvO lev) : ∀ m, m ≤ N → lvO (lsS (ML q N d) q N (nI k) lev cr m).2.2.2.1
  | 0, _ => hl
  | m + 1, hm => by
    have ih := li_lv (d := d) (k := k) (cr := cr) hT hl m (by omega)
    by_cases c1 : q 2 m = nI k
    · by_cases c2 : q 3 m = 4
      · rw [(ls_style (N := N) (d := d) (lev := lev) (cr := cr) c1 c2).1]
        rcases (hT.2.2.2.2 m (by omega)).2.2.2 with h | h | h | h | h
        · exact absurd (c2.symm.trans h.1) (by decide)
        · exact absurd (c2.symm.trans h.1) (by decide)
        · exact absurd (c2.symm.trans h.1) (by decide)
        · exact absurd (c2.symm.trans h.1) (by decide)
        · exact h.2.1
      · rw [(ls_atom (N := N) (d := d) (lev := lev) (cr := cr) c1 c2).1]; exact ih
    · rw [(ls_skip (N := N) (d := d) (lev := lev) (cr := cr) c1).1]; exact ih
theorem LI.sk {q r u : Rw} {N d k c m : Nat} {lev cr : Int32} (h : LI q N d k lev cr r c m u) (e1 : plS (ML q N d) (PL q N d) q N (nI k) lev cr 0 0 (m + 1) = plS (ML q N d) (PL q N d) q N (nI k) lev cr 0 0 m) (e2 : (lsS (ML q N d) q N (nI k) lev cr (m + 1)).1 = (lsS (ML q N d) q N (nI k) lev cr m).1) (e3 : (lsS (ML q N d) q N (nI k) lev cr (m + 1)).2.1 = (lsS (ML q N d) q N (nI k) lev cr m).2.1) (e4 : (lsS (ML q N d) q N (nI k) lev cr (m + 1)).2.2.1 = (lsS (ML q N d) q N (nI k) lev cr m).2.2.1) : LI q N d k lev cr r c (m + 1) u := by
  unfold LI
  rw [e1, e2, e3, e4]
  exact h
