theorem s_matrix {v : Nat → Int32} {r : Rw} {w : Nat → Int32} {q : Rw} {N L o K c : Nat} {ht sl : Nat → Nat} (hT : TRE q N L ht sl) (hR : REL v r w q N L o K c) (x y : Int32) : (spMx w q N o L x y).2.1 0 = cM v ∧ (¬ cM v = 0 → INV v r (spMx w q N o L x y).2.1 (spMx w q N o L x y).2.2) ∧
    (cM v = 0 → ∀ a v' r', (a, v', r') = (if x < 1 ∨ 5 < x ∨ y < 1 ∨ 5 < y then (0, v, r) else if (ffF (okC (r 10) (v 2)) (L - 1) (x.toNatClampNeg * y.toNatClampNeg)) = -1 ∨ anB (fun q => okC (r 10) (v 2) q && wiF (r 10) (r 2) (nI q) 30 (nI o)) (ffF (okC (r 10) (v 2)) (L - 1) (x.toNatClampNeg * y.toNatClampNeg)).toNatClampNeg (L - (ffF (okC (r 10) (v 2)) (L - 1) (x.toNatClampNeg * y.toNatClampNeg)).toNatClampNeg) = true then (0, v, r) else (v 0 + 1, vU (vU v 0 (v 0 + 1)) 3 (nI (K + cnB (okC (r 10) (v 2)) (ffF (okC (r 10) (v 2)) (L - 1) (x.toNatClampNeg * y.toNatClampNeg)).toNatClampNeg (L - (ffF (okC (r 10) (v 2)) (L - 1) (x.toNatClampNeg * y.toNatClampNeg)).toNatClampNeg))), rU (rU (clR r N (v 2) 3 7 (v 3) x y) 10 (hcH (r 10) (v 2) (v 0) (ffF (okC (r 10) (v 2)) (L - 1) (x.toNatClampNeg * y.toNatClampNeg)).toNatClampNeg (L - (ffF (okC (r 10) (v 2)) (L - 1) (x.toNatClampNeg * y.toNatClampNeg)).toNatClampNeg))) 11 (hcC (okC (r 10) (v 2)) (r 11) K (ffF (okC (r 10) (v 2)) (L - 1) (x.toNatClampNeg * y.toNatClampNeg)).toNatClampNeg (L - (ffF (okC (r 10) (v 2)) (L - 1) (x.toNatClampNeg * y.toNatClampNeg)).toNatClampNeg)))) → (spMx w q N o L x y).1 = a ∧ INV v' r' (spMx w q N o L x y).2.1 (spMx w q N o L x y).2.2) := by
  have hI : INV v r w q := ⟨N, L, o, K, c, ht, sl, hT, hR⟩
  obtain ⟨hN, hL1, hL⟩ := hT.1
  have hv0 := hR.2.1
  have hv2 := hR.2.2.2.1
  have hoL := hR.1.1
  have fn := full_n hN
  unfold spMx cM
  rw [hv0.1, hv0.2, hv2.1, hv2.2]
  by_cases hn : nI N < 120
  · rw [if_pos hn, if_neg (fn.mp hn)]
    have hn2 : N < 120 := (nI_ltI (b := 120) (by omega) (by decide)).mp hn
    by_cases hb : x < 1 ∨ 5 < x ∨ y < 1 ∨ 5 < y
    · rw [if_pos hb, if_pos hb]
      refine ⟨rfl, fun g => absurd rfl g, fun _ a v' r' hz => ?_⟩
      obtain ⟨rfl, hz2⟩ := Prod.mk.inj hz
      obtain ⟨rfl, rfl⟩ := Prod.mk.inj hz2
      exact ⟨rfl, hI.th _⟩
    · rw [if_neg hb, if_neg hb]
      have ix := mat_ix (x := x) (fun g => hb (Or.inl g)) (fun g => hb (Or.inr (Or.inl g)))
      have iy := mat_ix (x := y) (fun g => hb (Or.inr (Or.inr (Or.inl g)))) (fun g => hb (Or.inr (Or.inr (Or.inr g))))
      have hm1 : 1 ≤ x.toNatClampNeg * y.toNatClampNeg := Nat.mul_le_mul ix.2.2 iy.2.2
      have hm25 : x.toNatClampNeg * y.toNatClampNeg ≤ 25 := Nat.mul_le_mul ix.2.1 iy.2.1
      have hm := mc_sp (r1 := q 1) (c0 := q 10) (N := N) (o := o) (m := x.toNatClampNeg * y.toNatClampNeg) (p := okC (r 10) (nI o)) (ok_iff hT hR) (L - 1) (Nat.le_refl _)
      rw [show L - (L - 1) = 1 by omega] at hm
      have hff := ff_sp (okC (r 10) (nI o)) (L - 1) (x.toNatClampNeg * y.toNatClampNeg) hm1
      have hxe : ∃ R, x = nI R ∧ 1 ≤ R ∧ R ≤ 5 ∧ x.toNatClampNeg = R := ⟨_, ix.1, ix.2.2, ix.2.1, rfl⟩
      have hye : ∃ C, y = nI C ∧ 1 ≤ C ∧ C ≤ 5 ∧ y.toNatClampNeg = C := ⟨_, iy.1, iy.2.2, iy.2.1, rfl⟩
      obtain ⟨R, xe, xr1, xr2, xc⟩ := hxe
      obtain ⟨C, ye, yr1, yr2, yc⟩ := hye
      rw [xc, yc] at hm hff hm1 hm25 ⊢
      generalize hMM : R * C = m at hm hff hm1 hm25 ⊢
      generalize hZ : mcS (q 1) (q 10) N o L m (L - 1) = Z at hm ⊢
      obtain ⟨z1, z2, z3⟩ := hm
      have wq := wi_eq hT hR
      generalize hok : okC (r 10) (nI o) = ok at z1 z2 z3 hff ⊢
      rcases hff with ⟨e1, g1⟩ | ⟨f, f1, f2, e1, g1, g2⟩
      · rw [if_pos (Or.inl (by omega)), e1]
        refine ⟨rfl, fun g => absurd rfl g, fun _ a v' r' hz => ?_⟩
        rw [if_pos (Or.inl rfl)] at hz
        obtain ⟨rfl, hz2⟩ := Prod.mk.inj hz
        obtain ⟨rfl, rfl⟩ := Prod.mk.inj hz2
        exact ⟨rfl, cells_inv hT hR z3 0 rfl⟩
      · rw [e1, nI_clamp (by omega)]
        rw [show L - 1 + 1 - f = L - f by omega] at g2
        have hz0 : Z.1 = 0 := by
          have e := cn_split ok 1 (f - 1) (L - f)
          rw [show f - 1 + (L - f) = L - 1 by omega, show 1 + (f - 1) = f by omega] at e
          omega
        -- the cell of an admitted list
        have hcell : ∀ l, f ≤ l → l < L → ok l = true → m - cnB ok l (L - l) < m ∧ Z.2 (25 * N + (m - cnB ok l (L - l))) = nI l := by
          intro l h1 h2 h3
          have c1 : 1 ≤ cnB ok l (L - l) := by
            have := cn_le ok l (show 1 ≤ L - l by omega)
            rw [cn_one h3] at this; exact this
          have c2 : cnB ok l (L - l) ≤ m := by
            have e := cn_split ok f (l - f) (L - l)
            rw [show l - f + (L - l) = L - f by omega, show f + (l - f) = l by omega] at e
            omega
          refine ⟨by omega, ?_⟩
          obtain ⟨l', a1, a2, a3, a4, a5, a6⟩ := z2 (m - cnB ok l (L - l)) (by omega) (by omega)
          have : l' = l := cn_uniq a4 h3 a3 h2 (by omega)
          rw [a5, this]
        have hback : ∀ k, k < m → ∃ l, f ≤ l ∧ l < L ∧ ok l = true ∧ Z.2 (25 * N + k) = nI l ∧ k + cnB ok l (L - l) = m := by
          intro k hk
          obtain ⟨l, a1, a2, a3, a4, a5, a6⟩ := z2 k (by omega) hk
          refine ⟨l, ?_, a3, a4, a5, a6⟩
          by_cases g : f ≤ l
          · exact g
          · have := cn_gt (L := L) (l' := f) a4 (by omega) (by omega)
            omega
        have hrg : rgS (q 1) (q 2) Z.2 N (nI o) m = true ↔ anB (fun q => ok q && wiF (r 10) (r 2) (nI q) 30 (nI o)) f (L - f) = true := by
          rw [rg_ex, an_ex]
          constructor
          · rintro ⟨t, h1, h2⟩
            obtain ⟨l, b1, b2, b3, b4, b5⟩ := hback t h1
            rw [b4] at h2
            exact ⟨l, b1, by omega, by rw [Bool.and_eq_true]; exact ⟨b3, by rw [wq (nI l) 30 o hoL]; exact h2⟩⟩
          · rintro ⟨l, h1, h2, h3⟩
            rw [Bool.and_eq_true] at h3
            have hc := hcell l h1 (by omega) h3.1
            exact ⟨_, hc.1, by rw [hc.2, ← wq (nI l) 30 o hoL]; exact h3.2⟩
        have nf : ¬ nI f = -1 := nI_ne_m1 (by omega)
        by_cases hr : rgS (q 1) (q 2) Z.2 N (nI o) m = true
        · rw [if_pos (Or.inr hr)]
          refine ⟨rfl, fun g => absurd rfl g, fun _ a v' r' hz => ?_⟩
          rw [if_pos (Or.inr (hrg.mp hr))] at hz
          obtain ⟨rfl, hz2⟩ := Prod.mk.inj hz
          obtain ⟨rfl, rfl⟩ := Prod.mk.inj hz2
          exact ⟨rfl, cells_inv hT hR z3 0 rfl⟩
        · rw [if_neg (fun g => g.elim (fun g => g hz0) hr)]
          refine ⟨rfl, fun g => absurd rfl g, fun _ a v' r' hz => ?_⟩
          have nr : ¬ anB (fun q => ok q && wiF (r 10) (r 2) (nI q) 30 (nI o)) f (L - f) = true := fun g => hr (hrg.mpr g)
          rw [if_neg (fun g => g.elim nf nr), g2] at hz
          obtain ⟨rfl, hz2⟩ := Prod.mk.inj hz
          obtain ⟨rfl, rfl⟩ := Prod.mk.inj hz2
          have hC := hC_sp (p := ok) (c := r 11) (K := K) (f := f) (L - f)
          rw [g2] at hC
          have hok1 : ∀ l, 0 < l → l < L → (ok l = true ↔ (q 1 l = -1 ∧ ¬ l = o)) := by
            intro l h1 h2
            rw [← hok]; exact ok_iff hT hR l h1 h2
          have q1 : ∀ t, t < 30 → hiS (q 1) Z.2 N (nI N) m t = if (decide (f ≤ t ∧ t < L) && ok t) = true then nI N else q 1 t := by
            intro t ht
            by_cases ha : (decide (f ≤ t ∧ t < L) && ok t) = true
            · rw [if_pos ha]
              rw [Bool.and_eq_true, decide_eq_true_iff] at ha
              have hc := hcell t ha.1.1 ha.1.2 ha.2
              exact hi_y m ⟨_, hc.1, by rw [hc.2]; exact nI_clamp (by omega)⟩
            · rw [if_neg ha]
              refine hi_no m (fun k hk e => ha ?_)
              obtain ⟨l, b1, b2, b3, b4, b5⟩ := hback k hk
              rw [b4, nI_clamp (by omega)] at e
              subst e
              rw [Bool.and_eq_true, decide_eq_true_iff]
              exact ⟨⟨b1, b2⟩, b3⟩
          have hL0 : f < L := by omega
          have hfree : ∀ l, f ≤ l → l < L → ok l = true → q 1 l = -1 := fun l h1 h2 h3 => ((hok1 l (by omega) h2).mp h3).1
          have hfr' : ∀ l, l < L → hiS (q 1) Z.2 N (nI N) m l = -1 → q 1 l = -1 ∧ ¬ (decide (f ≤ l ∧ l < L) && ok l) = true := by
            intro l h1 h2
            rw [q1 l (by omega)] at h2
            by_cases ha : (decide (f ≤ l ∧ l < L) && ok l) = true
            · rw [if_pos ha] at h2; exact absurd h2 (nI_ne_m1 (by omega))
            · rw [if_neg ha] at h2; exact ⟨h2, ha⟩
          have hKK : K + m + cnB (fun j => decide (hiS (q 1) Z.2 N (nI N) m j = -1)) 0 L ≤ L := by
            have e := cn_split (fun j => decide (q 1 j = -1)) 0 f (L - f)
            have e' := cn_split (fun j => decide (hiS (q 1) Z.2 N (nI N) m j = -1)) 0 f (L - f)
            rw [show f + (L - f) = L by omega, Nat.zero_add] at e e'
            have m1 := cn_mono (p := fun j => decide (hiS (q 1) Z.2 N (nI N) m j = -1)) (p' := fun j => decide (q 1 j = -1)) f (fun i hi h => decide_eq_true (hfr' i (by omega) (of_decide_eq_true h)).1)
            have m2 := cn_add (p := ok) (p' := fun j => decide (hiS (q 1) Z.2 N (nI N) m j = -1)) (s := fun j => decide (q 1 j = -1)) (a := f) (L - f) (by
              intro l h1 h2
              have h2' : l < L := by omega
              refine ⟨fun h => ⟨decide_eq_true (hfree l h1 h2' h), fun h3 => ?_⟩, fun h => decide_eq_true (hfr' l h2' (of_decide_eq_true h)).1⟩
              refine (hfr' l h2' (of_decide_eq_true h3)).2 ?_
              rw [Bool.and_eq_true, decide_eq_true_iff]
              exact ⟨⟨h1, h2'⟩, h⟩)
            have := hR.1.2.2
            omega
          refine ⟨rfl, add_inv (att := fun t => decide (f ≤ t ∧ t < L) && ok t) (sl' := fun t => if (decide (f ≤ t ∧ t < L) && ok t) = true then 4 + (m - cnB ok t (L - t)) else sl t) (K' := K + m) (f := 3) (k := 7) (x := x) (y := y) (z := 0) (a := v 3) (b := x) (e := y) hT hR hn2 rfl rfl rfl rfl rfl rfl rfl rfl q1 z3 rfl rfl rfl rfl rfl rfl rfl rfl rfl ?_ hC.2 rfl ⟨nI_1 N, rfl, rfl, rfl, rfl, rfl, rfl, rfl⟩ ⟨nI_1 N, rfl, rfl, rfl, rfl, rfl, rfl⟩ (by omega) hKK (fun h => absurd rfl h) (fun _ => ⟨rfl, rfl, K, hR.2.2.2.2.1, by rw [xc, yc, hMM]; exact Nat.le_refl _, ?_⟩) ?_ ?_ ?_ ?_⟩
          · intro t ht
            show hcH (r 10) (nI o) (nI N) f (L - f) t = _
            unfold hcH
            rw [hok]
            by_cases ha : (decide (f ≤ t ∧ t < L) && ok t) = true
            · rw [if_pos ha]
              rw [Bool.and_eq_true, decide_eq_true_iff] at ha
              rw [if_pos ⟨ha.1.1, by omega, ha.2⟩]
            · rw [if_neg ha, if_neg]
              intro g
              apply ha
              rw [Bool.and_eq_true, decide_eq_true_iff]
              exact ⟨⟨g.1, by omega⟩, g.2.2⟩
          · intro t ht
            rw [xc, yc, hMM] at ht
            show hcC ok (r 11) K f (L - f) (K + t) = Z.2 (25 * N + t)
            obtain ⟨l, b1, b2, b3, b4, b5⟩ := hC.1 t ht
            have hc := (hcell l b1 (by omega) b3).2
            have e := cn_split ok f (l - f) (L - l)
            rw [show l - f + (L - l) = L - f by omega, show f + (l - f) = l by omega] at e
            rw [show m - cnB ok l (L - l) = t by omega] at hc
            rw [b4, hc]
          · intro t ha
            rw [Bool.and_eq_true, decide_eq_true_iff] at ha
            refine ⟨by omega, ha.1.2, hfree t ha.1.1 ha.1.2 ha.2, ?_⟩
            refine eq_false_of_ne_true (fun h => nr ?_)
            rw [an_ex]
            refine ⟨t, ha.1.1, by omega, ?_⟩
            rw [Bool.and_eq_true]
            exact ⟨ha.2, by rw [wq (nI t) 30 o hoL]; exact h⟩
          · intro s t hf
            have h3 : upd (q 3) N 3 N = 3 := pk_us
            rcases hf.2 with g | g | g | g | ⟨k1, k2, k3, k4⟩
            · exact absurd (h3.symm.trans g.2.1) (by decide)
            · rcases g.2.1 with g | g <;> exact absurd (h3.symm.trans g) (by decide)
            · have g2 : upd (q 8) N (-1) N = nI t := g.2
              rw [pk_us] at g2
              exact absurd g2.symm (nI_ne_m1 (by have := hf.1; omega))
            · have g2 : upd (q 9) N (-1) N = nI t := g.2
              rw [pk_us] at g2
              exact absurd g2.symm (nI_ne_m1 (by have := hf.1; omega))
            · have k3' : s - 4 < (upd (q 5) N x N).toNatClampNeg * (upd (q 6) N y N).toNatClampNeg := k3
              rw [pk_us, pk_us, xc, yc, hMM] at k3'
              have k4' : Z.2 (25 * N + (s - 4)) = nI t := k4
              obtain ⟨l, b1, b2, b3, b4, b5⟩ := hback (s - 4) k3'
              rw [b4] at k4'
              have : l = t := nI_inj (by omega) (by have := hf.1; omega) k4'
              subst this
              have ha : (decide (f ≤ l ∧ l < L) && ok l) = true := by
                rw [Bool.and_eq_true, decide_eq_true_iff]
                exact ⟨⟨b1, b2⟩, b3⟩
              refine ⟨ha, ?_⟩
              show (if (decide (f ≤ l ∧ l < L) && ok l) = true then 4 + (m - cnB ok l (L - l)) else sl l) = s
              rw [if_pos ha]
              omega
          · intro t ha
            exact if_neg ha
          · refine ⟨?_, Or.inl ?_, Or.inl ?_, Or.inr (Or.inr (Or.inr (Or.inl ⟨?_, R, C, ?_, ?_, xr1, xr2, yr1, yr2, fun t ht => ?_⟩)))⟩
            · show 0 ≤ upd (q 4) N 7 N ∧ upd (q 4) N 7 N < 8; rw [pk_us]; decide
            · show upd (q 8) N (-1) N = -1; rw [pk_us]
            · show upd (q 9) N (-1) N = -1; rw [pk_us]
            · show upd (q 3) N 3 N = 3; rw [pk_us]
            · show upd (q 5) N x N = nI R; rw [pk_us]; exact xe
            · show upd (q 6) N y N = nI C; rw [pk_us]; exact ye
            · rw [hMM] at ht
              obtain ⟨l, b1, b2, b3, b4, b5⟩ := hback t ht
              exact ⟨l, by omega, b4⟩
  · rw [if_neg hn, if_pos (Classical.not_not.mp (fun g => hn (fn.mpr g)))]
    exact ⟨rfl, fun _ => hI.th _, fun g => absurd g (by decide)⟩
