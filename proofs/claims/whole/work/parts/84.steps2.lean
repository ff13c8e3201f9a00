theorem ls_of {x : Int32} {L : Nat} (hL : L ≤ 30) (h : 0 ≤ x ∧ x < nI L) : x = nI x.toNatClampNeg ∧ x.toNatClampNeg < L := by
  have h1 := ix_of (N := L) (M := 30) (Int32.not_lt.mpr h.1) h.2 rfl hL (by decide)
  refine ⟨h1.1, ?_⟩
  have h2 := h.2
  rw [h1.1, nI_ltI (by omega) (by omega)] at h2
  exact h2
theorem nI_p0 {j : Nat} (hj : j < 30) : ¬ nI j = 0 ↔ 0 < nI j := by
  rw [show (0 : Int32) = nI 0 from rfl, nI_ltI (by omega) (by omega)]
  constructor
  · intro h
    by_cases e : j = 0
    · exact absurd (by rw [e]) h
    · omega
  · intro h h2
    have := nI_inj (by omega) (by omega) h2
    omega
/-- a free list: the class's test is the reference's -/
theorem fr_iff {v : Nat → Int32} {r : Rw} {w : Nat → Int32} {q : Rw} {N L o K c : Nat} {ht sl : Nat → Nat} (hT : TRE q N L ht sl) (hR : REL v r w q N L o K c) {j k : Nat} (hj : j < L) (hk : k < L) :
    ((¬ nI j = 0 ∧ r 10 j = -1) ∧ ¬ wiF (r 10) (r 2) (nI j) 30 (nI k) = true) ↔ ((0 < nI j ∧ q 1 j = -1) ∧ ¬ wiF (q 1) (q 2) (nI j) 30 (nI k) = true) := by
  have hL := hT.1.2.2
  rw [wi_eq hT hR (nI j) 30 k hk, hR.2.2.2.2.2.2.2.2.2.1 j hj, nI_p0 (by omega)]
theorem fr_at {q : Rw} {L j k : Nat} (hL : L ≤ 30) (hj : j < L) (h : (0 < nI j ∧ q 1 j = -1) ∧ ¬ wiF (q 1) (q 2) (nI j) 30 (nI k) = true) : 0 < j ∧ j < L ∧ q 1 j = -1 ∧ wn q j k = false := by
  refine ⟨?_, hj, h.1.2, ?_⟩
  · have h1 := h.1.1
    rw [show (0 : Int32) = nI 0 from rfl, nI_ltI (by omega) (by omega)] at h1
    exact h1
  · show wiF (q 1) (q 2) (nI j) 30 (nI k) = false
    exact eq_false_of_ne_true h.2
theorem lg_rule {z : Int64} (h : lg_cmp z 1000 ≤ 0) : -1 ≤ (if 0 ≤ lg_cmp z 0 then z.toInt32 else (-1 : Int32)) ∧ (if 0 ≤ lg_cmp z 0 then z.toInt32 else (-1 : Int32)) ≤ 1000 := by
  have h1 := (lg_cmp_le z 1000).mp h
  by_cases c : 0 ≤ lg_cmp z 0
  · rw [if_pos c]
    have h2 := (lg_cmp_ge z 0).mp c
    rw [Int64.le_iff_toInt_le] at h1 h2
    have e : (z.toInt32).toInt = z.toInt := by
      rw [Int64.toInt_toInt32]
      have t1 : (1000 : Int64).toInt = 1000 := rfl
      have t2 : (0 : Int64).toInt = 0 := rfl
      rw [t1] at h1
      rw [t2] at h2
      rw [Int.bmod_eq_of_le] <;> omega
    have t1 : (1000 : Int64).toInt = 1000 := rfl
    have t2 : (0 : Int64).toInt = 0 := rfl
    rw [t1] at h1
    rw [t2] at h2
    simp only [i_le, tIm1, tI1000]
    rw [e]
    omega
  · rw [if_neg c]; decide
/-- the free lists are fewer when some are attached -/
theorem att_cn {q q' : Rw} {N L K : Nat} {att : Nat → Bool} (hN : N ≤ 120) (hL : L ≤ 30) (h : K + cnB (fun j => decide (q 1 j = -1)) 0 L ≤ L) (hq : ∀ j, j < 30 → q' 1 j = if att j = true then nI N else q 1 j) : K + cnB (fun j => decide (q' 1 j = -1)) 0 L ≤ L := by
  have := cn_mono (p := fun j => decide (q' 1 j = -1)) (p' := fun j => decide (q 1 j = -1)) L (by
    intro i hi h1
    have h2 := of_decide_eq_true h1
    rw [hq i (by omega)] at h2
    by_cases c : att i = true
    · rw [if_pos c] at h2; exact absurd h2 (nI_ne_m1 (by omega))
    · rw [if_neg c] at h2; exact decide_eq_true h2)
  omega
theorem s_fraction {v : Nat → Int32} {r : Rw} {w : Nat → Int32} {q : Rw} {N L o K c : Nat} {ht sl : Nat → Nat} (hT : TRE q N L ht sl) (hR : REL v r w q N L o K c) (x y : Int32) (z : Int64) : (spFr w q N x y z).2.1 0 = cF v r x y z ∧ (¬ cF v r x y z = 0 → INV v r (spFr w q N x y z).2.1 (spFr w q N x y z).2.2) ∧
    (cF v r x y z = 0 → ∀ a v' r', (a, v', r') = (v 0, vU v 0 (v 0 + 1), rU (clR r N (v 2) 1 7 x y (if 0 ≤ lg_cmp z 0 then z.toInt32 else (-1))) 10 (upd (upd (r 10) x.toNatClampNeg (v 0)) y.toNatClampNeg (v 0))) → (spFr w q N x y z).1 = a ∧ INV v' r' (spFr w q N x y z).2.1 (spFr w q N x y z).2.2) := by
  have hI : INV v r w q := ⟨N, L, o, K, c, ht, sl, hT, hR⟩
  obtain ⟨hN, hL1, hL⟩ := hT.1
  have hv0 := hR.2.1
  have hv1 := hR.2.2.1
  have hv2 := hR.2.2.2.1
  have hoL := hR.1.1
  have fn := full_n hN
  have key : ∀ x : Int32, 0 ≤ x ∧ x < nI L → (((¬ nI x.toNatClampNeg = 0 ∧ r 10 x.toNatClampNeg = -1) ∧ ¬ wiF (r 10) (r 2) x 30 (nI o) = true) ↔ ((0 < nI x.toNatClampNeg ∧ q 1 x.toNatClampNeg = -1) ∧ ¬ wiF (q 1) (q 2) (nI x.toNatClampNeg) 30 (nI o) = true)) := by
    intro x hx
    have h1 := ls_of hL hx
    have h2 := fr_iff hT hR h1.2 hoL
    rw [← h1.1] at h2 ⊢
    exact h2
  by_cases hx : 0 ≤ x ∧ x < nI L
  · by_cases hy : 0 ≤ y ∧ y < nI L
    · have kx := key x hx
      have ky := key y hy
      have nx : ¬ ¬ (0 ≤ x ∧ x < nI L) := fun g => g hx
      have ny : ¬ ¬ (0 ≤ y ∧ y < nI L) := fun g => g hy
      have e : thF w q x y z = cF v r x y z := by
        unfold thF cF
        rw [hv0.1, hv0.2, hv1.1, hv1.2, hv2.1, hv2.2, if_neg (fun g : ¬ (0 ≤ x ∧ x < nI L) ∨ ¬ (0 ≤ y ∧ y < nI L) => g.elim nx ny), if_neg nx, if_neg ny]
        by_cases hz : lg_cmp z 1000 ≤ 0
        · have nz : ¬ ¬ lg_cmp z 1000 ≤ 0 := fun g => g hz
          rw [if_neg nz, if_neg nz]
          by_cases hxy : x = y
          · rw [if_pos (Or.inl hxy), if_pos hxy]
          · rw [if_neg hxy]
            by_cases f1 : (¬ nI x.toNatClampNeg = 0 ∧ r 10 x.toNatClampNeg = -1) ∧ ¬ wiF (r 10) (r 2) x 30 (nI o) = true
            · rw [if_pos f1]
              by_cases f2 : (¬ nI y.toNatClampNeg = 0 ∧ r 10 y.toNatClampNeg = -1) ∧ ¬ wiF (r 10) (r 2) y 30 (nI o) = true
              · rw [if_pos f2, if_neg (fun g => g.elim hxy (fun g => g.elim (fun g => g (kx.mp f1)) (fun g => g (ky.mp f2))))]
                by_cases hn : nI N < 120
                · rw [if_pos hn, if_neg (fn.mp hn)]
                · rw [if_neg hn, if_pos (Classical.not_not.mp (fun g => hn (fn.mpr g)))]
              · rw [if_neg f2, if_pos (Or.inr (Or.inr (fun g => f2 (ky.mpr g))))]
            · rw [if_neg f1, if_pos (Or.inr (Or.inl (fun g => f1 (kx.mpr g))))]
        · rw [if_pos hz, if_pos hz]
      unfold spFr
      rw [e]
      by_cases h0 : cF v r x y z = 0
      · rw [if_pos h0]
        refine ⟨h0.symm, fun g => absurd h0 g, fun _ a v' r' hz => ?_⟩
        obtain ⟨rfl, hz2⟩ := Prod.mk.inj hz
        obtain ⟨rfl, rfl⟩ := Prod.mk.inj hz2
        unfold cF at h0
        rw [hv0.1, hv1.1, hv2.1, if_neg nx, if_neg ny] at h0
        by_cases hz9 : lg_cmp z 1000 ≤ 0
        · rw [if_neg (show ¬ ¬ lg_cmp z 1000 ≤ 0 from fun g => g hz9)] at h0
          by_cases hxy : x = y
          · rw [if_pos hxy] at h0; exact absurd h0 (by decide)
          · rw [if_neg hxy] at h0
            by_cases f1 : (¬ nI x.toNatClampNeg = 0 ∧ r 10 x.toNatClampNeg = -1) ∧ ¬ wiF (r 10) (r 2) x 30 (nI o) = true
            · rw [if_pos f1] at h0
              by_cases f2 : (¬ nI y.toNatClampNeg = 0 ∧ r 10 y.toNatClampNeg = -1) ∧ ¬ wiF (r 10) (r 2) y 30 (nI o) = true
              · rw [if_pos f2] at h0
                by_cases hn : nI N < 120
                · have hn2 : N < 120 := (nI_ltI (b := 120) (by omega) (by decide)).mp hn
                  have ax := fr_at hL (ls_of hL hx).2 (kx.mp f1)
                  have ay := fr_at hL (ls_of hL hy).2 (ky.mp f2)
                  have ex := (ls_of hL hx).1
                  have ey := (ls_of hL hy).1
                  generalize x.toNatClampNeg = i at ax ex ⊢
                  generalize y.toNatClampNeg = j at ay ey ⊢
                  have hij : ¬ i = j := fun g => hxy (by rw [ex, ey, g])
                  have up : ∀ (g : Nat → Int32) (t : Nat), upd (upd g i (nI N)) j (nI N) t = if (decide (t = i) || decide (t = j)) = true then nI N else g t := by
                    intro g t
                    by_cases e2 : t = j
                    · subst e2; rw [pk_us, if_pos (by simp)]
                    · rw [pk_un e2]
                      by_cases e1 : t = i
                      · subst e1; rw [pk_us, if_pos (by simp)]
                      · rw [pk_un e1, if_neg (by simp [e1, e2])]
                  have q1 : ∀ t, t < 30 → (adR (rU q 1 (upd (upd (q 1) i (w 4)) j (w 4))) N (w 2) 1 7 x y (if 0 ≤ lg_cmp z 0 then z.toInt32 else -1)) 1 t = if (decide (t = i) || decide (t = j)) = true then nI N else q 1 t := by
                    intro t _
                    show upd (upd (q 1) i (w 4)) j (w 4) t = _
                    rw [hv0.2]; exact up (q 1) t
                  refine ⟨by show w 4 = v 0; rw [hv0.1, hv0.2], add_inv (att := fun t => decide (t = i) || decide (t = j)) (sl' := fun t => if t = i then 0 else if t = j then 1 else sl t) (K' := K) (f := 1) (k := 7) (x := x) (y := y) (z := if 0 ≤ lg_cmp z 0 then z.toInt32 else -1) (a := x) (b := y) (e := if 0 ≤ lg_cmp z 0 then z.toInt32 else -1) hT hR hn2 (by rw [← hv2.2]; rfl) rfl rfl rfl rfl rfl rfl rfl q1 (fun _ _ => rfl) rfl (by rw [← hv2.1]; rfl) rfl rfl rfl rfl rfl rfl rfl ?_ (fun _ _ => rfl) rfl ⟨by show v 0 + 1 = _; rw [hv0.1]; exact nI_1 N, rfl, rfl, hR.2.2.2.2.1, rfl, rfl, rfl, rfl⟩ ⟨by show w 4 + 1 = _; rw [hv0.2]; exact nI_1 N, rfl, rfl, rfl, rfl, rfl, rfl⟩ (Nat.le_refl _) (att_cn hN hL hR.1.2.2 q1) (fun _ => ⟨rfl, rfl, rfl⟩) (fun h => absurd h (by decide)) ?_ ?_ ?_ ?_⟩
                  · intro t _
                    show upd (upd (r 10) i (v 0)) j (v 0) t = _
                    rw [hv0.1]; exact up (r 10) t
                  · intro t ha
                    rcases (by simpa using ha : t = i ∨ t = j) with g | g
                    · rw [g]; exact ax
                    · rw [g]; exact ay
                  · intro s t hf
                    have h3 : upd (q 3) N 1 N = 1 := pk_us
                    rcases hf.2 with g | g | g | g | g
                    · have g2 : upd (q 5) N x N = nI t := g.2.2
                      rw [pk_us, ex] at g2
                      have : i = t := nI_inj (by omega) (by have := hf.1; omega) g2
                      subst this
                      exact ⟨by simp, by rw [if_pos rfl]; exact g.1.symm⟩
                    · have g2 : upd (q 6) N y N = nI t := g.2.2
                      rw [pk_us, ey] at g2
                      have : j = t := nI_inj (by omega) (by have := hf.1; omega) g2
                      subst this
                      exact ⟨by simp, by rw [if_neg (fun g => hij g.symm), if_pos rfl]; exact g.1.symm⟩
                    · have g2 : upd (q 8) N (-1) N = nI t := g.2
                      rw [pk_us] at g2
                      exact absurd g2.symm (nI_ne_m1 (by have := hf.1; omega))
                    · have g2 : upd (q 9) N (-1) N = nI t := g.2
                      rw [pk_us] at g2
                      exact absurd g2.symm (nI_ne_m1 (by have := hf.1; omega))
                    · exact absurd (h3.symm.trans g.2.1) (by decide)
                  · intro t ha
                    have h2 : ¬ t = i ∧ ¬ t = j := by simpa using ha
                    show (if t = i then 0 else if t = j then 1 else sl t) = sl t
                    rw [if_neg h2.1, if_neg h2.2]
                  · have hru := lg_rule hz9
                    refine ⟨?_, Or.inl ?_, Or.inl ?_, Or.inr (Or.inl ⟨?_, ⟨i, by omega, ?_⟩, ⟨j, by omega, ?_⟩, ?_⟩)⟩
                    · show 0 ≤ upd (q 4) N 7 N ∧ upd (q 4) N 7 N < 8; rw [pk_us]; decide
                    · show upd (q 8) N (-1) N = -1; rw [pk_us]
                    · show upd (q 9) N (-1) N = -1; rw [pk_us]
                    · show upd (q 3) N 1 N = 1; rw [pk_us]
                    · show upd (q 5) N x N = nI i; rw [pk_us]; exact ex
                    · show upd (q 6) N y N = nI j; rw [pk_us]; exact ey
                    · show -1 ≤ upd (q 7) N (if 0 ≤ lg_cmp z 0 then z.toInt32 else -1) N ∧ upd (q 7) N (if 0 ≤ lg_cmp z 0 then z.toInt32 else -1) N ≤ 1000
                      rw [pk_us]; exact hru
                · rw [if_neg hn] at h0; exact absurd h0 (by decide)
              · rw [if_neg f2] at h0; exact absurd h0 (by decide)
            · rw [if_neg f1] at h0; exact absurd h0 (by decide)
        · rw [if_pos hz9] at h0; exact absurd h0 (by decide)
      · rw [if_neg h0]
        exact ⟨rfl, fun _ => hI.th _, fun g => absurd g h0⟩
    · have e1 : cF v r x y z = 1 := by unfold cF; rw [hv1.1, if_neg (show ¬ ¬ (0 ≤ x ∧ x < nI L) from fun g => g hx), if_pos hy]
      have e2 : thF w q x y z = 1 := by unfold thF; rw [hv1.2, if_pos (Or.inr hy)]
      unfold spFr
      rw [e1, e2, if_neg (by decide)]
      exact ⟨rfl, fun _ => hI.th _, fun g => absurd g (by decide)⟩
  · have e1 : cF v r x y z = 1 := by unfold cF; rw [hv1.1, if_pos hx]
    have e2 : thF w q x y z = 1 := by unfold thF; rw [hv1.2, if_pos (Or.inl hx)]
    unfold spFr
    rw [e1, e2, if_neg (by decide)]
    exact ⟨rfl, fun _ => hI.th _, fun g => absurd g (by decide)⟩
