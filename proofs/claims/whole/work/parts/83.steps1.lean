theorem fld_no {q : Rw} {n s j : Nat} (h3 : q 3 n = 0 ∨ q 3 n = 4) (h8 : q 8 n = -1) (h9 : q 9 n = -1) : ¬ FLD q n s j := by
  intro h
  have hm : ¬ nI j = -1 := nI_ne_m1 (by have := h.1; omega)
  rcases h.2 with g | g | g | g | g
  · rcases h3 with e | e <;> exact absurd (e.symm.trans g.2.1) (by decide)
  · rcases h3 with e | e <;> rcases g.2.1 with f | f <;> exact absurd (e.symm.trans f) (by decide)
  · exact hm (g.2.symm.trans h8)
  · exact hm (g.2.symm.trans h9)
  · rcases h3 with e | e <;> exact absurd (e.symm.trans g.2.1) (by decide)
theorem cn_mono {p p' : Nat → Bool} (n : Nat) (h : ∀ i, i < n → p i = true → p' i = true) : cnB p 0 n ≤ cnB p' 0 n := (cn_lt n h).1
theorem cn_last (p : Nat → Bool) (n : Nat) : cnB p 0 (n + 1) ≤ cnB p 0 n + 1 := by
  show cnB p 0 n + (if p (0 + n) = true then 1 else 0) ≤ _
  split <;> omega
theorem full_n {N : Nat} (h : N ≤ 120) : nI N < 120 ↔ ¬ nI N = 120 := by
  rw [show (120 : Int32) = nI 120 from rfl, nI_ltI (by omega) (by omega)]
  constructor
  · intro h1 h2; have := nI_inj (by omega) (by omega) h2; omega
  · intro h1
    by_cases e : N = 120
    · exact absurd (by rw [e]) h1
    · omega
theorem full_l {L : Nat} (h : L ≤ 30) : nI L < 30 ↔ ¬ nI L = 30 := by
  rw [show (30 : Int32) = nI 30 from rfl, nI_ltI (by omega) (by omega)]
  constructor
  · intro h1 h2; have := nI_inj (by omega) (by omega) h2; omega
  · intro h1
    by_cases e : L = 30
    · exact absurd (by rw [e]) h1
    · omega
/-- a node without lists -/
theorem add_no {v v' : Nat → Int32} {r : Rw} {w w' : Nat → Int32} {q : Rw} {N L o K c : Nat} {ht sl : Nat → Nat} {f k x y : Int32} (hT : TRE q N L ht sl) (hR : REL v r w q N L o K c) (hN : N < 120) (hf : f = 0 ∨ f = 4) (hnd : NDK (adR q N (w 2) f k x y 0) N)
    (hv : v' 0 = nI (N + 1) ∧ v' 1 = v 1 ∧ v' 2 = v 2 ∧ v' 3 = v 3 ∧ v' 4 = v 4 ∧ v' 5 = v 5 ∧ v' 6 = v 6 ∧ v' 7 = v 7) (hw : w' 4 = nI (N + 1) ∧ w' 1 = w 1 ∧ w' 2 = w 2 ∧ w' 14 = w 14 ∧ w' 16 = w 16 ∧ w' 17 = w 17 ∧ w' 18 = w 18) : INV v' (clR r N (v 2) f k x y 0) w' (adR q N (w 2) f k x y 0) := by
  have d1 := hR.2.2.2.1
  have hne : ¬ f = 3 := by rcases hf with e | e <;> rw [e] <;> decide
  refine add_inv (att := fun _ => false) (sl' := sl) (K' := K) (f := f) (k := k) (x := x) (y := y) (z := 0) (a := x) (b := y) (e := 0) hT hR hN (by rw [d1.2]; rfl) rfl rfl rfl rfl rfl rfl rfl (fun j _ => rfl) (fun _ _ => rfl) rfl (by rw [d1.1]; rfl) rfl rfl rfl rfl rfl rfl rfl (fun j _ => rfl) (fun _ _ => rfl) rfl ⟨hv.1, hv.2.1, hv.2.2.1, hv.2.2.2.1.trans hR.2.2.2.2.1, hv.2.2.2.2⟩ hw (Nat.le_refl _) hR.1.2.2 (fun _ => ⟨rfl, rfl, rfl⟩) (fun h => absurd h hne) (fun j h => absurd h (by decide)) (fun s j h => absurd h (fld_no ?_ ?_ ?_)) (fun _ _ => rfl) hnd
  · show upd (q 3) N f N = 0 ∨ upd (q 3) N f N = 4
    rw [pk_us]; exact hf
  · show upd (q 8) N (-1) N = -1
    rw [pk_us]
  · show upd (q 9) N (-1) N = -1
    rw [pk_us]
theorem s_atom {v : Nat → Int32} {r : Rw} {w : Nat → Int32} {q : Rw} {N L o K c : Nat} {ht sl : Nat → Nat} (hT : TRE q N L ht sl) (hR : REL v r w q N L o K c) (x y : Int32) : (spAt w q N x y).2.1 0 = cA v x y ∧ (¬ cA v x y = 0 → INV v r (spAt w q N x y).2.1 (spAt w q N x y).2.2) ∧
    (cA v x y = 0 → ∀ z v' r', (z, v', r') = (if x = 8 then (v 1, vU (vU v 1 (v 1 + 1)) 2 (v 1), rU r 10 (upd (r 10) L (-1))) else (v 0, vU v 0 (v 0 + 1), clR r N (v 2) 0 x y 0 0)) → (spAt w q N x y).1 = z ∧ INV v' r' (spAt w q N x y).2.1 (spAt w q N x y).2.2) := by
  have hI : INV v r w q := ⟨N, L, o, K, c, ht, sl, hT, hR⟩
  obtain ⟨hN, hL1, hL⟩ := hT.1
  have hv0 := hR.2.1
  have hv1 := hR.2.2.1
  have hv2 := hR.2.2.2.1
  have fn := full_n hN
  have fl := full_l hL
  have e : thA w x y = cA v x y := by
    unfold thA cA
    rw [hv0.1, hv0.2, hv1.1, hv1.2]
    by_cases h8 : x = 8
    · rw [if_pos (Or.inl h8), if_pos h8]
      by_cases hl : nI L < 30
      · rw [if_pos hl, if_neg (fun g => g.elim (fun g => fl.mp hl g.2) (fun g => g.1 h8))]
      · rw [if_neg hl, if_pos (Or.inl ⟨h8, Classical.not_not.mp (fun g => hl (fl.mpr g))⟩)]
    · rw [if_neg h8]
      by_cases hk : 0 ≤ x ∧ x < 8
      · rw [if_neg (show ¬ ¬ (0 ≤ x ∧ x < 8) from fun g => g hk)]
        by_cases hs : y < 0 ∨ 255 < y
        · rw [if_pos hs, if_neg]
          intro g
          have g2 := g.resolve_left h8
          simp only [i_lt, i_le, tI0, tI255, tI256] at hs g2
          omega
        · rw [if_neg hs, if_pos (Or.inr ⟨hk.1, hk.2, by simp only [i_lt, i_le, tI0, tI255, tI256] at hs ⊢; omega, by simp only [i_lt, i_le, tI0, tI255, tI256] at hs ⊢; omega⟩)]
          by_cases hn : nI N < 120
          · rw [if_pos hn, if_neg (fun g => g.elim (fun g => h8 g.1) (fun g => fn.mp hn g.2))]
          · rw [if_neg hn, if_pos (Or.inr ⟨h8, Classical.not_not.mp (fun g => hn (fn.mpr g))⟩)]
      · rw [if_pos hk, if_neg (fun g => hk ⟨(g.resolve_left h8).1, (g.resolve_left h8).2.1⟩)]
  unfold spAt
  rw [e]
  by_cases h0 : cA v x y = 0
  · rw [if_pos h0]
    by_cases h8 : x = 8
    · rw [if_pos h8]
      have hl : nI L < 30 := by
        unfold cA at h0
        rw [if_pos h8, hv1.1] at h0
        by_cases hl : nI L < 30
        · exact hl
        · rw [if_neg hl] at h0; exact absurd h0 (by decide)
      have hl2 : L < 30 := (nI_ltI (b := 30) (by omega) (by decide)).mp hl
      refine ⟨h0.symm, fun g => absurd h0 g, fun _ z v' r' hz => ?_⟩
      rw [if_pos h8] at hz
      obtain ⟨rfl, hz2⟩ := Prod.mk.inj hz
      obtain ⟨rfl, rfl⟩ := Prod.mk.inj hz2
      refine ⟨by show w 1 = v 1; rw [hv1.1, hv1.2], N, L + 1, L, K, c, ht, sl, hT.list hl2, ?_⟩
      obtain ⟨⟨a1, a2, a3⟩, b, c1, d, e1, f, g, i, j, k, l⟩ := hR
      refine ⟨⟨by omega, a2, ?_⟩, b, ⟨?_, ?_⟩, ⟨hv1.1, hv1.2⟩, e1, f, g, i, j, fun j hj => ?_, fun j hj hj2 => ?_⟩
      · have hl := cn_last (fun j => decide (q 1 j = -1)) L
        show K + cnB (fun j => decide (q 1 j = -1)) 0 (L + 1) ≤ L + 1
        omega
      · show v 1 + 1 = nI (L + 1); rw [hv1.1]; exact nI_1 L
      · show w 1 + 1 = nI (L + 1); rw [hv1.2]; exact nI_1 L
      · show upd (r 10) L (-1) j = q 1 j
        by_cases ej : j = L
        · subst ej; rw [pk_us]; exact (hT.2.2.2.2.2.2 j (Nat.le_refl _) hl2).symm
        · rw [pk_un ej]; exact k j (by omega)
      · show upd (r 10) L (-1) j = 0
        rw [pk_un (by omega)]; exact l j (by omega) hj2
    · rw [if_neg h8]
      refine ⟨h0.symm, fun g => absurd h0 g, fun _ z v' r' hz => ?_⟩
      rw [if_neg h8] at hz
      obtain ⟨rfl, hz2⟩ := Prod.mk.inj hz
      obtain ⟨rfl, rfl⟩ := Prod.mk.inj hz2
      have h9 := h0
      unfold cA at h9
      rw [if_neg h8] at h9
      by_cases hk : 0 ≤ x ∧ x < 8
      · rw [if_neg (fun g => g hk)] at h9
        by_cases hs : y < 0 ∨ 255 < y
        · rw [if_pos hs] at h9; exact absurd h9 (by decide)
        · rw [if_neg hs, hv0.1] at h9
          by_cases hn : nI N < 120
          · have hn2 : N < 120 := (nI_ltI (b := 120) (by omega) (by decide)).mp hn
            refine ⟨by show w 4 = v 0; rw [hv0.1, hv0.2], add_no hT hR hn2 (Or.inl rfl) ?_ ⟨by show v 0 + 1 = _; rw [hv0.1]; exact nI_1 N, rfl, rfl, rfl, rfl, rfl, rfl, rfl⟩ ⟨by show w 4 + 1 = _; rw [hv0.2]; exact nI_1 N, rfl, rfl, rfl, rfl, rfl, rfl⟩⟩
            refine ⟨?_, Or.inl ?_, Or.inl ?_, Or.inl ⟨?_, ?_⟩⟩
            · show 0 ≤ upd (q 4) N x N ∧ upd (q 4) N x N < 8; rw [pk_us]; exact hk
            · show upd (q 8) N (-1) N = -1; rw [pk_us]
            · show upd (q 9) N (-1) N = -1; rw [pk_us]
            · show upd (q 3) N 0 N = 0; rw [pk_us]
            · show 0 ≤ upd (q 5) N y N ∧ upd (q 5) N y N < 256
              rw [pk_us]
              simp only [i_lt, i_le, tI0, tI255, tI256] at hs ⊢
              omega
          · rw [if_neg hn] at h9; exact absurd h9 (by decide)
      · rw [if_pos hk] at h9; exact absurd h9 (by decide)
  · rw [if_neg h0]
    exact ⟨rfl, fun _ => hI.th _, fun g => absurd g h0⟩
theorem s_style {v : Nat → Int32} {r : Rw} {w : Nat → Int32} {q : Rw} {N L o K c : Nat} {ht sl : Nat → Nat} (hT : TRE q N L ht sl) (hR : REL v r w q N L o K c) (x y : Int32) : (spSt w q N x y).2.1 0 = cT v x ∧ (¬ cT v x = 0 → INV v r (spSt w q N x y).2.1 (spSt w q N x y).2.2) ∧
    (cT v x = 0 → ∀ z v' r', (z, v', r') = (v 0, vU v 0 (v 0 + 1), clR r N (v 2) 4 0 x (if y = 0 then 0 else 1) 0) → (spSt w q N x y).1 = z ∧ INV v' r' (spSt w q N x y).2.1 (spSt w q N x y).2.2) := by
  have hI : INV v r w q := ⟨N, L, o, K, c, ht, sl, hT, hR⟩
  obtain ⟨hN, hL1, hL⟩ := hT.1
  have hv0 := hR.2.1
  have fn := full_n hN
  have e : thS w x = cT v x := by
    unfold thS cT
    rw [hv0.1, hv0.2]
    by_cases h : x < 0 ∨ 3 < x
    · rw [if_pos h, if_pos h]
    · rw [if_neg h, if_neg h]
      by_cases hn : nI N < 120
      · rw [if_pos hn, if_neg (fn.mp hn)]
      · rw [if_neg hn, if_pos (Classical.not_not.mp (fun g => hn (fn.mpr g)))]
  unfold spSt
  rw [e]
  by_cases h0 : cT v x = 0
  · rw [if_pos h0]
    refine ⟨h0.symm, fun g => absurd h0 g, fun _ z v' r' hz => ?_⟩
    obtain ⟨rfl, hz2⟩ := Prod.mk.inj hz
    obtain ⟨rfl, rfl⟩ := Prod.mk.inj hz2
    unfold cT at h0
    by_cases h : x < 0 ∨ 3 < x
    · rw [if_pos h] at h0; exact absurd h0 (by decide)
    · rw [if_neg h, hv0.1] at h0
      by_cases hn : nI N < 120
      · have hn2 : N < 120 := (nI_ltI (b := 120) (by omega) (by decide)).mp hn
        refine ⟨by show w 4 = v 0; rw [hv0.1, hv0.2], add_no hT hR hn2 (Or.inr rfl) ?_ ⟨by show v 0 + 1 = _; rw [hv0.1]; exact nI_1 N, rfl, rfl, rfl, rfl, rfl, rfl, rfl⟩ ⟨by show w 4 + 1 = _; rw [hv0.2]; exact nI_1 N, rfl, rfl, rfl, rfl, rfl, rfl⟩⟩
        refine ⟨?_, Or.inl ?_, Or.inl ?_, Or.inr (Or.inr (Or.inr (Or.inr ⟨?_, ?_, ?_, ?_⟩)))⟩
        · show 0 ≤ upd (q 4) N 0 N ∧ upd (q 4) N 0 N < 8; rw [pk_us]; decide
        · show upd (q 8) N (-1) N = -1; rw [pk_us]
        · show upd (q 9) N (-1) N = -1; rw [pk_us]
        · show upd (q 3) N 4 N = 4; rw [pk_us]
        · show lvO (upd (q 5) N x N)
          rw [pk_us]
          unfold lvO
          simp only [i_lt, i_eq, tI0, tI1, tI2, tI3] at h ⊢
          omega
        · show upd (q 8) N (-1) N = -1; rw [pk_us]
        · show upd (q 9) N (-1) N = -1; rw [pk_us]
      · rw [if_neg hn] at h0; exact absurd h0 (by decide)
  · rw [if_neg h0]
    exact ⟨rfl, fun _ => hI.th _, fun g => absurd g h0⟩
