/-- the list c is in an atom of the list k -/
def upk (q : Rw) (k c : Nat) : Bool := decide (¬ q 1 c = -1) && decide (q 2 (q 1 c).toNatClampNeg = nI k)
theorem upk_of {q : Rw} {N : Nat} {dp sl : Nat → Nat} (hT : LY q N dp sl) {k c : Nat} (hk : k < 30) (hc : c < 30) (h : upk q k c = true) : ∃ n, q 1 c = nI n ∧ n < N ∧ q 2 n = nI k ∧ dp k < dp c := by
  simp only [upk, Bool.and_eq_true, decide_eq_true_eq] at h
  have h9 := hT.1
  obtain ⟨n, i, e1, hn, e2, hi, hlt⟩ := (hT.2.2.1 c hc).2.resolve_left h.1
  have h2 := h.2
  rw [e1, nI_clamp (by omega), e2] at h2
  have := nI_inj (by omega) (by omega) h2
  subst this
  exact ⟨n, e1, hn, e2, hlt⟩
theorem wn_up {q : Rw} {N : Nat} {dp sl : Nat → Nat} (hT : LY q N dp sl) {k c : Nat} (hk : k < 30) (hc : c < 30) (h : upk q k c = true) : wn q c k = false := by
  obtain ⟨n, e1, hn, e2, hlt⟩ := upk_of hT hk hc h
  cases h9 : wn q c k
  · rfl
  · rcases wn_dp hT hc _ k (Nat.le_refl _) hk h9 with e | e
    · subst e; omega
    · omega
theorem up_uni {q : Rw} {N : Nat} {dp sl : Nat → Nat} (hT : LY q N dp sl) {k c c' : Nat} (hk : k < 30) (hc : c < 30) (hc' : c' < 30) (h : upk q k c = true) (h' : upk q k c' = true) : ∀ (t j : Nat), dp j ≤ t → j < 30 → wn q c j = true → wn q c' j = true → c = c' := by
  have key : ∀ (c c' : Nat), c < 30 → c' < 30 → upk q k c = true → upk q k c' = true → wn q c' c = true → c = c' := by
    intro c c' hc hc' h h' hw
    by_cases e : c = c'
    · exact e
    · obtain ⟨n, e1, hn, e2, hlt⟩ := upk_of hT hk hc h
      rw [wn_st hT hc' hc e e1 hn e2 hk hlt, wn_up hT hk hc' h'] at hw
      exact absurd hw (by decide)
  intro t
  induction t with
  | zero =>
    intro j ht hj hw hw'
    rcases wn_dp hT hc _ j (Nat.le_refl _) hj hw with e | e
    · subst e; exact key j c' hj hc' h h' hw'
    · omega
  | succ t ih =>
    intro j ht hj hw hw'
    by_cases e : j = c
    · subst e; exact key j c' hj hc' h h' hw'
    · by_cases e2 : j = c'
      · subst e2; exact (key j c hj hc h' h hw).symm
      · rcases (hT.2.2.1 j hj).2 with h0 | ⟨n, i, e1, hn, e3, hi, hlt⟩
        · rw [wn_ro hc hj e h0] at hw; exact absurd hw (by decide)
        · rw [wn_st hT hc hj e e1 hn e3 hi hlt] at hw
          rw [wn_st hT hc' hj e2 e1 hn e3 hi hlt] at hw'
          exact ih i (by omega) hi hw hw'
def ownW (q : Rw) (N : Nat) (ow : Nat → Nat) (j : Nat) : Nat := smN (fun n => if decide (q 2 n = nI j) = true then ow n else 0) N
theorem wgU_e (q : Rw) (N : Nat) (ow : Nat → Nat) (k : Nat) : wgU q N ow k = smN (fun j => (if wn q k j = true then 1 else 0) * ownW q N ow j) 30 := sm_eq 30 (fun j _ => by
  by_cases e : wn q k j = true
  · rw [if_pos e, if_pos e, Nat.one_mul]; rfl
  · rw [if_neg e, if_neg e, Nat.zero_mul])
/-- the lists below a list, and its own nodes, weigh no more than it -/
theorem wg_up {q : Rw} {N : Nat} {dp sl : Nat → Nat} (hT : LY q N dp sl) (ow : Nat → Nat) {k : Nat} (hk : k < 30) : ownW q N ow k + smN (fun c => if upk q k c = true then wgU q N ow c else 0) 30 ≤ wgU q N ow k := by
  have e1 : ownW q N ow k = smN (fun j => (if j = k then 1 else 0) * ownW q N ow j) 30 := by
    rw [← sm_pick (g := ownW q N ow) 30 hk]
    exact sm_eq 30 (fun j _ => by by_cases e : j = k; rw [if_pos e, if_pos e, Nat.one_mul]; rw [if_neg e, if_neg e, Nat.zero_mul])
  have e2 : smN (fun c => if upk q k c = true then wgU q N ow c else 0) 30 = smN (fun j => smN (fun c => if (upk q k c && wn q c j) = true then 1 else 0) 30 * ownW q N ow j) 30 := by
    have e3 : smN (fun c => if upk q k c = true then wgU q N ow c else 0) 30 = smN (fun c => smN (fun j => (if (upk q k c && wn q c j) = true then 1 else 0) * ownW q N ow j) 30) 30 := sm_eq 30 (fun c _ => by
      by_cases e : upk q k c = true
      · rw [if_pos e, wgU_e]
        exact sm_eq 30 (fun j _ => by rw [e, Bool.true_and])
      · rw [if_neg e, show smN (fun j => (if (upk q k c && wn q c j) = true then 1 else 0) * ownW q N ow j) 30 = smN (fun _ => 0) 30 from sm_eq 30 (fun j _ => by rw [if_neg (by simp [e]), Nat.zero_mul]), sm_0])
    rw [e3, sm_swap]
    exact sm_eq 30 (fun j _ => sm_mul _ _ 30)
  rw [e1, e2, ← sm_add, wgU_e]
  refine sm_le 30 (fun j hj => ?_)
  rw [← Nat.add_mul]
  refine Nat.mul_le_mul_right _ ?_
  by_cases e : j = k
  · subst e
    rw [if_pos rfl, wn_self, if_pos rfl, sm_none (p := fun c => upk q j c && wn q c j) 30 (fun c hc h => ?_)]
    · exact Nat.le_refl _
    · simp only [Bool.and_eq_true] at h
      rw [wn_up hT hj hc h.1] at h
      exact absurd h.2 (by decide)
  · rw [if_neg e, Nat.zero_add]
    by_cases hw : wn q k j = true
    · rw [if_pos hw]
      refine sm_one (p := fun c => upk q k c && wn q c j) 30 (fun c c' hc hc' h h' => ?_)
      simp only [Bool.and_eq_true] at h h'
      exact up_uni hT hk hc hc' h.1 h'.1 _ j (Nat.le_refl _) hj h.2 h'.2
    · rw [if_neg hw, sm_none (p := fun c => upk q k c && wn q c j) 30 (fun c hc h => ?_)]
      · exact Nat.le_refl _
      · simp only [Bool.and_eq_true] at h
        obtain ⟨n, f1, hn, f2, hlt⟩ := upk_of hT hk hc h.1
        exact hw (wn_sub hT hc hk f1 hn f2 hlt _ j (Nat.le_refl _) hj h.2)
/-- a node's list, where there is one, is a list -/
theorem fj_ok {q : Rw} {N : Nat} {dp sl : Nat → Nat} (hT : LY q N dp sl) {n s : Nat} (hn : n < N) (h : ¬ fjV q n s = -1) : ∃ j, j < 30 ∧ fjV q n s = nI j := by
  obtain ⟨_, h8, h9, hnd⟩ := hT.2.2.2.2 n hn
  unfold fjV at h ⊢
  by_cases h0 : s = 0
  · rw [if_pos h0] at h ⊢
    by_cases h1 : q 3 n = 1
    · rw [if_pos h1] at h ⊢
      rcases hnd with g | g | g | g | g
      · exact absurd (h1.symm.trans g.1) (by decide)
      · exact g.2.1
      · exact absurd (h1.symm.trans g.1) (by decide)
      · exact absurd (h1.symm.trans g.1) (by decide)
      · exact absurd (h1.symm.trans g.1) (by decide)
    · rw [if_neg h1] at h; exact absurd rfl h
  · rw [if_neg h0] at h ⊢
    by_cases h1 : s = 1
    · rw [if_pos h1] at h ⊢
      by_cases h2 : q 3 n = 1 ∨ q 3 n = 2
      · rw [if_pos h2] at h ⊢
        rcases hnd with g | g | g | g | g
        · exact absurd h2 (by rw [g.1]; decide)
        · exact g.2.2.1
        · exact g.2.1
        · exact absurd h2 (by rw [g.1]; decide)
        · exact absurd h2 (by rw [g.1]; decide)
      · rw [if_neg h2] at h; exact absurd rfl h
    · rw [if_neg h1] at h ⊢
      by_cases h2 : s = 2
      · rw [if_pos h2] at h ⊢; exact h8.resolve_left h
      · rw [if_neg h2] at h ⊢
        by_cases h3 : s = 3
        · rw [if_pos h3] at h ⊢; exact h9.resolve_left h
        · rw [if_neg h3] at h ⊢
          by_cases h4 : q 3 n = 3 ∧ s - 4 < (q 5 n).toNatClampNeg * (q 6 n).toNatClampNeg
          · rw [if_pos h4] at h ⊢
            rcases hnd with g | g | g | g | g
            · exact absurd (h4.1.symm.trans g.1) (by decide)
            · exact absurd (h4.1.symm.trans g.1) (by decide)
            · exact absurd (h4.1.symm.trans g.1) (by decide)
            · obtain ⟨_, R, C, eR, eC, a1, a2, a3, a4, hls⟩ := g
              have h5 := h4.2
              rw [eR, eC, nI_clamp (by omega), nI_clamp (by omega)] at h5
              exact hls _ h5
            · exact absurd (h4.1.symm.trans g.1) (by decide)
          · rw [if_neg h4] at h; exact absurd rfl h
theorem fsm_le {q : Rw} {N : Nat} {dp sl : Nat → Nat} (hT : LY q N dp sl) {n : Nat} (hn : n < N) {g g' : Nat → Nat} (h : ∀ j s, FLD q n s j → g j ≤ g' j) : fsm q n g ≤ fsm q n g' := by
  unfold fsm
  refine sm_le 29 (fun s _ => ?_)
  by_cases e : fjV q n s = -1
  · rw [if_neg (by simp [e]), if_neg (by simp [e])]; exact Nat.le_refl _
  · rw [if_pos (by simp [e]), if_pos (by simp [e])]
    obtain ⟨j, hj, ej⟩ := fj_ok hT hn e
    rw [ej, nI_clamp (by omega)]
    exact h j s (fjV_f hj ej)
theorem fsm_in {q : Rw} {N : Nat} {dp sl : Nat → Nat} (hT : LY q N dp sl) {n : Nat} (hn : n < N) (g : Nat → Nat) : fsm q n g ≤ smN (fun c => if decide (q 1 c = nI n) = true then g c else 0) 30 := by
  unfold fsm
  refine sm_inj (g := g) (f := fun s => (fjV q n s).toNatClampNeg) (ok := fun s => !decide (fjV q n s = -1)) (hp := fun c => decide (q 1 c = nI n)) (fun s _ h => ?_) (fun s t _ _ h1 h2 e => ?_)
  · have e : ¬ fjV q n s = -1 := by simpa using h
    obtain ⟨j, hj, ej⟩ := fj_ok hT hn e
    show (fjV q n s).toNatClampNeg < 30 ∧ _
    rw [ej, nI_clamp (by omega)]
    exact ⟨hj, decide_eq_true (hT.2.2.2.1 n hn s j (fjV_f hj ej)).1⟩
  · have e1 : ¬ fjV q n s = -1 := by simpa using h1
    have e2 : ¬ fjV q n t = -1 := by simpa using h2
    obtain ⟨j, hj, ej⟩ := fj_ok hT hn e1
    obtain ⟨j', hj', ej'⟩ := fj_ok hT hn e2
    have e3 : (fjV q n s).toNatClampNeg = (fjV q n t).toNatClampNeg := e
    rw [ej, ej', nI_clamp (by omega), nI_clamp (by omega)] at e3
    subst e3
    rw [← (hT.2.2.2.1 n hn s j (fjV_f hj ej)).2, ← (hT.2.2.2.1 n hn t j (fjV_f hj ej')).2]
/-- THE WEIGHT OF A LIST IS AT MOST THAT OF ALL NODES BELOW IT -/
theorem wg_le {q : Rw} {N : Nat} {dp sl : Nat → Nat} (hT : LY q N dp sl) (ow : Nat → Nat) : ∀ d k, k < 30 → wgG q N ow d k ≤ wgU q N ow k
  | 0, _, _ => Nat.zero_le _
  | d + 1, k, hk => by
    refine Nat.le_trans ?_ (wg_up hT ow hk)
    have e1 : wgG q N ow (d + 1) k = smN (fun n => (if decide (q 2 n = nI k) = true then ow n else 0) + (if decide (q 2 n = nI k) = true then fsm q n (wgG q N ow d) else 0)) N := sm_eq N (fun n _ => by
      by_cases e : decide (q 2 n = nI k) = true
      · rw [if_pos e, if_pos e, if_pos e]
      · rw [if_neg e, if_neg e, if_neg e])
    rw [e1, sm_add]
    refine Nat.add_le_add (Nat.le_refl _) ?_
    have e2 : smN (fun n => if decide (q 2 n = nI k) = true then fsm q n (wgG q N ow d) else 0) N ≤ smN (fun n => smN (fun c => (if (decide (q 2 n = nI k) && decide (q 1 c = nI n)) = true then 1 else 0) * wgU q N ow c) 30) N := sm_le N (fun n hn => by
      by_cases e : q 2 n = nI k
      · rw [if_pos (decide_eq_true e)]
        refine Nat.le_trans (fsm_le hT hn (g' := wgU q N ow) (fun j s hf => wg_le hT ow d j hf.1)) (Nat.le_trans (fsm_in hT hn _) (sm_le 30 (fun c _ => ?_)))
        by_cases e2 : q 1 c = nI n
        · rw [if_pos (decide_eq_true e2), if_pos (by simp [e, e2]), Nat.one_mul]; exact Nat.le_refl _
        · rw [if_neg (by simp [e2])]; exact Nat.zero_le _
      · rw [if_neg (by simp [e])]; exact Nat.zero_le _)
    refine Nat.le_trans e2 ?_
    rw [sm_swap]
    refine sm_le 30 (fun c hc => ?_)
    rw [sm_mul]
    have h9 := hT.1
    by_cases hu : upk q k c = true
    · rw [if_pos hu]
      have := sm_one (p := fun n => decide (q 2 n = nI k) && decide (q 1 c = nI n)) N (fun i j hi hj h h' => by
        simp only [Bool.and_eq_true, decide_eq_true_eq] at h h'
        exact nI_inj (by omega) (by omega) (h.2.symm.trans h'.2))
      calc _ ≤ 1 * wgU q N ow c := Nat.mul_le_mul_right _ this
        _ = wgU q N ow c := Nat.one_mul _
    · rw [if_neg hu, sm_none (p := fun n => decide (q 2 n = nI k) && decide (q 1 c = nI n)) N (fun n hn h => ?_), Nat.zero_mul]
      · exact Nat.le_refl _
      · simp only [Bool.and_eq_true, decide_eq_true_eq] at h
        refine hu ?_
        simp only [upk, Bool.and_eq_true, decide_eq_true_eq]
        rw [h.2, nI_clamp (by omega)]
        exact ⟨nI_ne_m1 (by omega), h.1⟩
theorem wg_all {q : Rw} {N : Nat} (hN : N ≤ 120) (ow : Nat → Nat) (k : Nat) : wgU q N ow k ≤ smN ow N := by
  have e1 : wgU q N ow k ≤ smN (fun j => smN (fun n => (if decide (q 2 n = nI j) = true then 1 else 0) * ow n) N) 30 := sm_le 30 (fun j _ => by
    by_cases e : wn q k j = true
    · rw [if_pos e]
      exact sm_le N (fun n _ => by by_cases e2 : decide (q 2 n = nI j) = true; rw [if_pos e2, if_pos e2, Nat.one_mul]; exact Nat.le_refl _; rw [if_neg e2]; exact Nat.zero_le _)
    · rw [if_neg e]; exact Nat.zero_le _)
  refine Nat.le_trans e1 ?_
  rw [sm_swap]
  refine sm_le N (fun n _ => ?_)
  rw [sm_mul]
  have := sm_one (p := fun j => decide (q 2 n = nI j)) 30 (fun i j hi hj h h' => nI_inj (by omega) (by omega) ((of_decide_eq_true h).symm.trans (of_decide_eq_true h')))
  calc _ ≤ 1 * ow n := Nat.mul_le_mul_right _ this
    _ = ow n := Nat.one_mul _
