theorem sm_split (f : Nat → Nat) (a : Nat) : ∀ b, smN f (a + b) = smN f a + smN (fun i => f (a + i)) b
  | 0 => rfl
  | b + 1 => by rw [← Nat.add_assoc, smN, sm_split f a b, smN]; omega
/-- a node's lists, one by one -/
def tmF (q : Rw) (n : Nat) (g : Nat → Nat) (s : Nat) : Nat := if (!decide (fjV q n s = -1)) = true then g (fjV q n s).toNatClampNeg else 0
theorem fsm_e (q : Rw) (n : Nat) (g : Nat → Nat) : fsm q n g = tmF q n g 0 + tmF q n g 1 + tmF q n g 2 + tmF q n g 3 + smN (fun t => tmF q n g (4 + t)) 25 := by
  show smN (tmF q n g) (4 + 25) = _
  rw [sm_split, smN, smN, smN, smN, smN]
  omega
theorem tm_of {q : Rw} {n s j : Nat} {g : Nat → Nat} (hj : j < 30) (h : fjV q n s = nI j) : tmF q n g s = g j := by
  unfold tmF
  rw [h, if_pos (by simp [nI_ne_m1 (show j < 2 ^ 31 by omega)]), nI_clamp (by omega)]
theorem sm_part {f : Nat → Nat} {m n : Nat} (h : m ≤ n) : smN f m ≤ smN f n := by
  rw [show n = m + (n - m) by omega, sm_split]; omega
theorem cc_len (f : Nat → List It) : ∀ n, (ccS f 0 n).length = smN (fun t => (f t).length) n
  | 0 => rfl
  | n + 1 => by rw [cc_s, List.length_append, Nat.zero_add, cc_len f n, smN]
/-! items -/
def owI (q : Rw) (n : Nat) : Nat := if q 3 n = 0 ∨ q 3 n = 1 then 1 else if q 3 n = 2 then 2 else 0
theorem le_at {q : Rw} {N d n : Nat} {dp sl : Nat → Nat} {lev cr : Int32} (hT : LY q N dp sl) (hn : n < N) (hna : ¬ q 3 n = 4) {g : Nat → Nat} (hg : ∀ j lev cr, j < 30 → (PL q N d (nI j) lev cr 0 0).length ≤ g j) : (pAt (ML q N d) (PL q N d) q n lev cr 0 0).length ≤ owI q n + fsm q n g := by
  obtain ⟨_, h8, h9, hnd⟩ := hT.2.2.2.2 n hn
  rw [at_len, fsm_e]
  have e2 : (oL q N d (q 8 n) (scl lev) cr).length ≤ tmF q n g 2 := by
    rcases h8 with e | ⟨j, hj, e⟩
    · rw [oL_n e]; exact Nat.zero_le _
    · rw [oL_y hj e, tm_of hj (show fjV q n 2 = nI j from e)]; exact hg j _ _ hj
  have e3 : (oL q N d (q 9 n) (scl lev) 1).length ≤ tmF q n g 3 := by
    rcases h9 with e | ⟨j, hj, e⟩
    · rw [oL_n e]; exact Nat.zero_le _
    · rw [oL_y hj e, tm_of hj (show fjV q n 3 = nI j from e)]; exact hg j _ _ hj
  have e1 : (pNu (ML q N d) (PL q N d) q n lev cr 0 0).length ≤ owI q n + (tmF q n g 0 + tmF q n g 1 + smN (fun t => tmF q n g (4 + t)) 25) := by
    unfold pNu owI
    rcases hnd with ⟨h3, _⟩ | ⟨h3, ⟨jo, hjo, eo⟩, ⟨ju, hju, eu⟩, _⟩ | ⟨h3, ⟨j, hj, ej⟩, _⟩ | ⟨h3, R, C, eR, eC, a1, a2, a3, a4, hls⟩ | ⟨h3, _⟩
    · rw [if_pos h3, if_pos (Or.inl h3)]
      show 1 ≤ _
      omega
    · rw [if_neg (by rw [h3]; decide), if_pos h3, if_pos (Or.inr h3), pFr_len eo eu]
      have f0 : fjV q n 0 = nI jo := by unfold fjV; rw [if_pos rfl, if_pos h3]; exact eo
      have f1 : fjV q n 1 = nI ju := by unfold fjV; rw [if_neg (by decide), if_pos rfl, if_pos (Or.inl h3)]; exact eu
      rw [tm_of hjo f0, tm_of hju f1]
      have b1 := hg jo (ptl lev) cr hjo
      have b2 := hg ju (ptl lev) 1 hju
      have b3 : (if frT q n lev ≤ 0 then 0 else 1) ≤ 1 := by split <;> omega
      omega
    · rw [if_neg (by rw [h3]; decide), if_neg (by rw [h3]; decide), if_pos h3, if_neg (by rw [h3]; decide), if_pos h3, pFe_len ej]
      have f1 : fjV q n 1 = nI j := by unfold fjV; rw [if_neg (by decide), if_pos rfl, if_pos (Or.inr h3)]; exact ej
      rw [tm_of hj f1]
      have b1 := hg j lev cr hj
      have b3 : (if q 5 n ≤ 0 then 0 else 1) ≤ 1 := by split <;> omega
      have b4 : (if q 7 n ≤ 0 then 0 else 1) ≤ 1 := by split <;> omega
      omega
    · rw [if_neg (by rw [h3]; decide), if_neg (by rw [h3]; decide), if_neg (by rw [h3]; decide), pMa_len eR eC a2 a4, cc_len]
      have hRC : R * C ≤ 25 := Nat.mul_le_mul a2 a4
      have b1 : smN (fun t => (PL q N d (q 10 (25 * n + t)) (maI lev) 0 0 0).length) (R * C) ≤ smN (fun t => tmF q n g (4 + t)) (R * C) := sm_le _ (fun t ht => by
        obtain ⟨j, hj, e⟩ := hls t ht
        have f4 : fjV q n (4 + t) = nI j := by
          unfold fjV
          rw [if_neg (by omega), if_neg (by omega), if_neg (by omega), if_neg (by omega), if_pos ⟨h3, by rw [eR, eC, nI_clamp (by omega), nI_clamp (by omega), show 4 + t - 4 = t by omega]; exact ht⟩, show 4 + t - 4 = t by omega]
          exact e
        rw [tm_of hj f4, e]
        exact hg j _ _ hj)
      have b2 := sm_part (f := fun t => tmF q n g (4 + t)) hRC
      omega
    · exact absurd h3 hna
  omega
theorem le_pl {q : Rw} {N : Nat} {dp sl : Nat → Nat} (hT : LY q N dp sl) : ∀ (d k : Nat) (lev cr : Int32), k < 30 → (PL q N d (nI k) lev cr 0 0).length ≤ wgG q N (owI q) d k
  | 0, _, _, _, _ => Nat.zero_le _
  | d + 1, k, lev, cr, hk => by
    have key : ∀ m, m ≤ N → (plS (ML q N d) (PL q N d) q N (nI k) lev cr 0 0 m).length ≤ smN (fun n => if decide (q 2 n = nI k) = true then owI q n + fsm q n (wgG q N (owI q) d) else 0) m := by
      intro m
      induction m with
      | zero => intro _; exact Nat.zero_le _
      | succ m ih =>
        intro hm
        have ih2 := ih (by omega)
        rw [smN]
        by_cases c1 : q 2 m = nI k
        · rw [if_pos (decide_eq_true c1)]
          by_cases c2 : q 3 m = 4
          · rw [(ls_style (N := N) (d := d) (lev := lev) (cr := cr) c1 c2).2.1]; omega
          · rw [(ls_atom (N := N) (d := d) (lev := lev) (cr := cr) c1 c2).2.1, List.length_append, List.length_map]
            have := le_at (lev := (lsS (ML q N d) q N (nI k) lev cr m).2.2.2.1) (cr := (lsS (ML q N d) q N (nI k) lev cr m).2.2.2.2) hT (show m < N by omega) c2 (g := wgG q N (owI q) d) (fun j lev cr hj => le_pl hT d j lev cr hj)
            omega
        · rw [if_neg (by simp [c1]), (ls_skip (N := N) (d := d) (lev := lev) (cr := cr) c1).2.1]; omega
    exact key N (Nat.le_refl _)
theorem sum_owI {q : Rw} {N : Nat} {dp sl : Nat → Nat} (hT : LY q N dp sl) : smN (owI q) N ≤ 150 := by
  have h9 := hT.1
  have e1 : smN (owI q) N ≤ smN (fun n => 1 + smN (fun c => if decide (q 1 c = nI n) = true then 1 else 0) 30) N := sm_le N (fun n hn => by
    unfold owI
    by_cases h0 : q 3 n = 0 ∨ q 3 n = 1
    · rw [if_pos h0]; omega
    · rw [if_neg h0]
      by_cases h2 : q 3 n = 2
      · rw [if_pos h2]
        rcases (hT.2.2.2.2 n hn).2.2.2 with g | g | g | g | g
        · exact absurd (h2.symm.trans g.1) (by decide)
        · exact absurd (h2.symm.trans g.1) (by decide)
        · obtain ⟨_, ⟨j, hj, ej⟩, _⟩ := g
          have h1 := (hT.2.2.2.1 n hn 1 j ⟨hj, Or.inr (Or.inl ⟨rfl, Or.inr h2, ej⟩)⟩).1
          have h5 : smN (fun c => if c = j then 1 else 0) 30 ≤ smN (fun c => if decide (q 1 c = nI n) = true then 1 else 0) 30 := sm_le 30 (fun c _ => by
            by_cases e : c = j
            · subst e; rw [if_pos rfl, if_pos (decide_eq_true h1)]; exact Nat.le_refl _
            · rw [if_neg e]; exact Nat.zero_le _)
          rw [sm_pick (g := fun _ => 1) 30 hj] at h5
          omega
        · exact absurd (h2.symm.trans g.1) (by decide)
        · exact absurd (h2.symm.trans g.1) (by decide)
      · rw [if_neg h2]; omega)
  refine Nat.le_trans e1 ?_
  rw [sm_add, sm_swap]
  have e2 : ∀ n, smN (fun _ => 1) n = n := by
    intro n
    induction n with
    | zero => rfl
    | succ n ih => rw [smN, ih]
  have e3 : smN (fun c => smN (fun n => if decide (q 1 c = nI n) = true then 1 else 0) N) 30 ≤ smN (fun _ => 1) 30 := sm_le 30 (fun c _ => sm_one (p := fun n => decide (q 1 c = nI n)) N (fun i j hi hj h h' => nI_inj (by omega) (by omega) ((of_decide_eq_true h).symm.trans (of_decide_eq_true h'))))
  rw [e2] at e3
  rw [e2]
  omega
/-- AT MOST 150 ITEMS -/
theorem pl_150 {q : Rw} {N : Nat} {dp sl : Nat → Nat} (hT : LY q N dp sl) (d k : Nat) (lev cr : Int32) (hk : k < 30) : (PL q N d (nI k) lev cr 0 0).length ≤ 150 :=
  Nat.le_trans (le_pl hT d k lev cr hk) (Nat.le_trans (wg_le hT _ d k hk) (Nat.le_trans (wg_all hT.1 _ k) (sum_owI hT)))
