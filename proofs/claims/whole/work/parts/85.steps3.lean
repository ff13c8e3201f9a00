theorem s_fence {v : Nat → Int32} {r : Rw} {w : Nat → Int32} {q : Rw} {N L o K c : Nat} {ht sl : Nat → Nat} (hT : TRE q N L ht sl) (hR : REL v r w q N L o K c) (x y z : Int32) : (spFe w q N x y z).2.1 0 = cE v r x y z ∧ (¬ cE v r x y z = 0 → INV v r (spFe w q N x y z).2.1 (spFe w q N x y z).2.2) ∧
    (cE v r x y z = 0 → ∀ a v' r', (a, v', r') = (if (x = z ∧ ¬ x = 0) ∨ (¬ x = z ∧ (x = 0 ∨ z = 0)) then (v 0 + 1, vU v 0 (v 0 + 1), rU (clR r N (v 2) 2 7 x y z) 10 (upd (r 10) y.toNatClampNeg (v 0))) else (0, v, r)) → (spFe w q N x y z).1 = a ∧ INV v' r' (spFe w q N x y z).2.1 (spFe w q N x y z).2.2) := by
  have hI : INV v r w q := ⟨N, L, o, K, c, ht, sl, hT, hR⟩
  obtain ⟨hN, hL1, hL⟩ := hT.1
  have hv0 := hR.2.1
  have hv1 := hR.2.2.1
  have hv2 := hR.2.2.2.1
  have hoL := hR.1.1
  have fn := full_n hN
  by_cases hy : 0 ≤ y ∧ y < nI L
  · have ny : ¬ ¬ (0 ≤ y ∧ y < nI L) := fun g => g hy
    have h1 := ls_of hL hy
    have ky : ((¬ nI y.toNatClampNeg = 0 ∧ r 10 y.toNatClampNeg = -1) ∧ ¬ wiF (r 10) (r 2) y 30 (nI o) = true) ↔ ((0 < nI y.toNatClampNeg ∧ q 1 y.toNatClampNeg = -1) ∧ ¬ wiF (q 1) (q 2) (nI y.toNatClampNeg) 30 (nI o) = true) := by
      have h2 := fr_iff hT hR h1.2 hoL
      rw [← h1.1] at h2 ⊢
      exact h2
    have e : thE w q x y z = cE v r x y z := by
      unfold thE cE
      rw [hv0.1, hv0.2, hv1.1, hv1.2, hv2.1, hv2.2, if_neg ny, if_neg ny]
      by_cases hd : x < 0 ∨ 5 < x ∨ z < 0 ∨ 5 < z
      · rw [if_pos hd, if_pos hd]
      · rw [if_neg hd, if_neg hd]
        by_cases f2 : (¬ nI y.toNatClampNeg = 0 ∧ r 10 y.toNatClampNeg = -1) ∧ ¬ wiF (r 10) (r 2) y 30 (nI o) = true
        · rw [if_pos f2, if_neg (fun g => g (ky.mp f2))]
          by_cases hn : nI N < 120
          · rw [if_pos hn, if_neg (fn.mp hn)]
          · rw [if_neg hn, if_pos (Classical.not_not.mp (fun g => hn (fn.mpr g)))]
        · rw [if_neg f2, if_pos (fun g => f2 (ky.mpr g))]
    unfold spFe
    rw [e]
    by_cases h0 : cE v r x y z = 0
    · rw [if_pos h0]
      have h9 := h0
      unfold cE at h9
      rw [hv0.1, hv1.1, hv2.1, if_neg ny] at h9
      by_cases hd : x < 0 ∨ 5 < x ∨ z < 0 ∨ 5 < z
      · rw [if_pos hd] at h9; exact absurd h9 (by decide)
      · rw [if_neg hd] at h9
        by_cases f2 : (¬ nI y.toNatClampNeg = 0 ∧ r 10 y.toNatClampNeg = -1) ∧ ¬ wiF (r 10) (r 2) y 30 (nI o) = true
        · rw [if_pos f2] at h9
          by_cases hn : nI N < 120
          · by_cases hp : (x = z ∧ ¬ x = 0) ∨ (¬ x = z ∧ (x = 0 ∨ z = 0))
            · rw [if_pos hp]
              refine ⟨h0.symm, fun g => absurd h0 g, fun _ a v' r' hz => ?_⟩
              rw [if_pos hp] at hz
              obtain ⟨rfl, hz2⟩ := Prod.mk.inj hz
              obtain ⟨rfl, rfl⟩ := Prod.mk.inj hz2
              have hn2 : N < 120 := (nI_ltI (b := 120) (by omega) (by decide)).mp hn
              have ay := fr_at hL h1.2 (ky.mp f2)
              have ey := h1.1
              generalize y.toNatClampNeg = j at ay ey ⊢
              have up : ∀ (g : Nat → Int32) (t : Nat), upd g j (nI N) t = if decide (t = j) = true then nI N else g t := by
                intro g t
                by_cases e2 : t = j
                · subst e2; rw [pk_us, if_pos (by simp)]
                · rw [pk_un e2, if_neg (by simp [e2])]
              have q1 : ∀ t, t < 30 → (adR (rU q 1 (upd (q 1) j (w 4))) N (w 2) 2 7 x y z) 1 t = if decide (t = j) = true then nI N else q 1 t := by
                intro t _
                show upd (q 1) j (w 4) t = _
                rw [hv0.2]; exact up (q 1) t
              refine ⟨by show w 4 + 1 = v 0 + 1; rw [hv0.1, hv0.2], add_inv (att := fun t => decide (t = j)) (sl' := fun t => if t = j then 1 else sl t) (K' := K) (f := 2) (k := 7) (x := x) (y := y) (z := z) (a := x) (b := y) (e := z) hT hR hn2 (by rw [← hv2.2]; rfl) rfl rfl rfl rfl rfl rfl rfl q1 (fun _ _ => rfl) rfl (by rw [← hv2.1]; rfl) rfl rfl rfl rfl rfl rfl rfl ?_ (fun _ _ => rfl) rfl ⟨by show v 0 + 1 = _; rw [hv0.1]; exact nI_1 N, rfl, rfl, hR.2.2.2.2.1, rfl, rfl, rfl, rfl⟩ ⟨by show w 4 + 1 = _; rw [hv0.2]; exact nI_1 N, rfl, rfl, rfl, rfl, rfl, rfl⟩ (Nat.le_refl _) (att_cn hN hL hR.1.2.2 q1) (fun _ => ⟨rfl, rfl, rfl⟩) (fun h => absurd h (by decide)) ?_ ?_ ?_ ?_⟩
              · intro t _
                show upd (r 10) j (v 0) t = _
                rw [hv0.1]; exact up (r 10) t
              · intro t ha
                rw [of_decide_eq_true ha]; exact ay
              · intro s t hf
                have h3 : upd (q 3) N 2 N = 2 := pk_us
                rcases hf.2 with g | g | g | g | g
                · exact absurd (h3.symm.trans g.2.1) (by decide)
                · have g2 : upd (q 6) N y N = nI t := g.2.2
                  rw [pk_us, ey] at g2
                  have : j = t := nI_inj (by omega) (by have := hf.1; omega) g2
                  subst this
                  exact ⟨by simp, by rw [if_pos rfl]; exact g.1.symm⟩
                · have g2 : upd (q 8) N (-1) N = nI t := g.2
                  rw [pk_us] at g2
                  exact absurd g2.symm (nI_ne_m1 (by have := hf.1; omega))
                · have g2 : upd (q 9) N (-1) N = nI t := g.2
                  rw [pk_us] at g2
                  exact absurd g2.symm (nI_ne_m1 (by have := hf.1; omega))
                · exact absurd (h3.symm.trans g.2.1) (by decide)
              · intro t ha
                have h2 : ¬ t = j := by simpa using ha
                show (if t = j then 1 else sl t) = sl t
                rw [if_neg h2]
              · refine ⟨?_, Or.inl ?_, Or.inl ?_, Or.inr (Or.inr (Or.inl ⟨?_, ⟨j, by omega, ?_⟩, ?_⟩))⟩
                · show 0 ≤ upd (q 4) N 7 N ∧ upd (q 4) N 7 N < 8; rw [pk_us]; decide
                · show upd (q 8) N (-1) N = -1; rw [pk_us]
                · show upd (q 9) N (-1) N = -1; rw [pk_us]
                · show upd (q 3) N 2 N = 2; rw [pk_us]
                · show upd (q 6) N y N = nI j; rw [pk_us]; exact ey
                · show 0 ≤ upd (q 5) N x N ∧ upd (q 5) N x N ≤ 5 ∧ 0 ≤ upd (q 7) N z N ∧ upd (q 7) N z N ≤ 5 ∧ ¬ (upd (q 5) N x N = 0 ∧ upd (q 7) N z N = 0)
                  rw [pk_us, pk_us]
                  simp only [i_lt, i_le, i_eq, tI0, tI5] at hd hp ⊢
                  omega
            · rw [if_neg hp]
              refine ⟨h0.symm, fun g => absurd h0 g, fun _ a v' r' hz => ?_⟩
              rw [if_neg hp] at hz
              obtain ⟨rfl, hz2⟩ := Prod.mk.inj hz
              obtain ⟨rfl, rfl⟩ := Prod.mk.inj hz2
              exact ⟨rfl, hI.th _⟩
          · rw [if_neg hn] at h9; exact absurd h9 (by decide)
        · rw [if_neg f2] at h9; exact absurd h9 (by decide)
    · rw [if_neg h0]
      exact ⟨rfl, fun _ => hI.th _, fun g => absurd g h0⟩
  · have e1 : cE v r x y z = 1 := by unfold cE; rw [hv1.1, if_pos hy]
    have e2 : thE w q x y z = 1 := by unfold thE; rw [hv1.2, if_pos hy]
    unfold spFe
    rw [e1, e2, if_neg (by decide)]
    exact ⟨rfl, fun _ => hI.th _, fun g => absurd g (by decide)⟩
