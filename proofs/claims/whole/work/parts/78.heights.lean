/-! HEIGHTS AND DEPTHS stay small -/
def HB (t : T3) (B : Nat) : Prop := 0 ≤ t.2.1.toInt ∧ 0 ≤ t.2.2.toInt ∧ t.2.1.toInt + t.2.2.toInt ≤ (B : Int)
theorem HB.mo {t : T3} {A B : Nat} (h : HB t A) (hAB : A ≤ B) : HB t B := ⟨h.1, h.2.1, by have := h.2.2; omega⟩
theorem fr_eU {q : Rw} {N d n : Nat} {lev cr : Int32} (h : q 7 n ≤ 1000) (p3 : 0 ≤ (ML q N d (q 5 n) (ptl lev) cr).2.2.toInt) (p4 : (ML q N d (q 5 n) (ptl lev) cr).2.2.toInt ≤ 10000000) : (frU (ML q N d) q n lev cr).toInt = 2 * (uni lev).toInt + (frT q n lev / 2).toInt + (frG lev).toInt + (ML q N d (q 5 n) (ptl lev) cr).2.2.toInt := by
  have hT := frT_b (lev := lev) h
  have hT2 := t_h2 hT.1
  have hG := frG_b lev
  have hz := uni_t lev
  have hz2 := uni_2 lev
  unfold frU
  have u1 : (2 * uni lev + frT q n lev / 2).toInt = (2 * uni lev).toInt + (frT q n lev / 2).toInt := t_add (by omega) (by omega)
  have u2 : (2 * uni lev + frT q n lev / 2 + frG lev).toInt = (2 * uni lev).toInt + (frT q n lev / 2).toInt + (frG lev).toInt := by rw [t_add (by omega) (by omega), u1]
  rw [t_add (by omega) (by omega), u2]
  omega
theorem fr_eD {q : Rw} {N d n : Nat} {lev : Int32} (h : q 7 n ≤ 1000) (p3 : 0 ≤ (ML q N d (q 6 n) (ptl lev) 1).2.1.toInt) (p4 : (ML q N d (q 6 n) (ptl lev) 1).2.1.toInt ≤ 10000000) : (frD (ML q N d) q n lev).toInt = (ML q N d (q 6 n) (ptl lev) 1).2.1.toInt + (frG lev).toInt + (frT q n lev).toInt - (frT q n lev / 2).toInt - 2 * (uni lev).toInt := by
  have hT := frT_b (lev := lev) h
  have hT2 := t_h2 hT.1
  have hG := frG_b lev
  have hz := uni_t lev
  have hz2 := uni_2 lev
  unfold frD
  have d1 : ((ML q N d (q 6 n) (ptl lev) 1).2.1 + frG lev).toInt = (ML q N d (q 6 n) (ptl lev) 1).2.1.toInt + (frG lev).toInt := t_add (by omega) (by omega)
  have d2 : ((ML q N d (q 6 n) (ptl lev) 1).2.1 + frG lev + frT q n lev).toInt = (ML q N d (q 6 n) (ptl lev) 1).2.1.toInt + (frG lev).toInt + (frT q n lev).toInt := by rw [t_add (by omega) (by omega), d1]
  have d3 : ((ML q N d (q 6 n) (ptl lev) 1).2.1 + frG lev + frT q n lev - frT q n lev / 2).toInt = (ML q N d (q 6 n) (ptl lev) 1).2.1.toInt + (frG lev).toInt + (frT q n lev).toInt - (frT q n lev / 2).toInt := by rw [t_sub (by omega) (by omega), d2]
  rw [t_sub (by omega) (by omega), d3]
  omega
theorem fr_hd {U Dn h1 d1 h2 d2 Y T : Int32} {z t t2 g : Int} (hz : 0 ≤ z ∧ z ≤ 10) (ht : 0 ≤ t ∧ t ≤ 1000) (ht2 : 0 ≤ t2 ∧ t2 ≤ t) (hg : 0 ≤ g ∧ g ≤ 30) (b1 : 0 ≤ h1.toInt) (b2 : 0 ≤ d1.toInt) (b3 : 0 ≤ h2.toInt) (b4 : 0 ≤ d2.toInt) (B1 B2 : Nat) (c1 : h1.toInt + d1.toInt ≤ B1) (c2 : h2.toInt + d2.toInt ≤ B2) (c3 : B1 ≤ 1000000) (c4 : B2 ≤ 1000000)
    (eU : U.toInt = 2 * z + t2 + g + d1.toInt) (eD : Dn.toInt = h2.toInt + g + t - t2 - 2 * z) (yb : Y.toInt ≤ 20 ∧ (-Y).toInt ≤ 1000 ∧ (Y + T).toInt ≤ 2000) :
    (0 ≤ (mx (mx 0 (U + h1)) (h2 - Dn)).toInt ∧ 0 ≤ (mx (mx 0 (d1 - U)) (d2 + Dn)).toInt ∧ (mx (mx 0 (U + h1)) (h2 - Dn)).toInt + (mx (mx 0 (d1 - U)) (d2 + Dn)).toInt ≤ B1 + B2 + 2500) ∧
    (mx (mx (mx 0 (U + h1)) (h2 - Dn)) (Y + T)).toInt + (mx (mx (mx 0 (d1 - U)) (d2 + Dn)) (-Y)).toInt ≤ B1 + B2 + 6000 := by
  have e1 : (U + h1).toInt = U.toInt + h1.toInt := t_add (by omega) (by omega)
  have e2 : (h2 - Dn).toInt = h2.toInt - Dn.toInt := t_sub (by omega) (by omega)
  have e3 : (d1 - U).toInt = d1.toInt - U.toInt := t_sub (by omega) (by omega)
  have e4 : (d2 + Dn).toInt = d2.toInt + Dn.toInt := t_add (by omega) (by omega)
  simp only [mx_t, tI0, e1, e2, e3, e4]
  omega
theorem hb_fr {q : Rw} {N d n B1 B2 : Nat} {lev cr : Int32} (h : q 7 n ≤ 1000) (h1 : HB (ML q N d (q 5 n) (ptl lev) cr) B1) (h2 : HB (ML q N d (q 6 n) (ptl lev) 1) B2) (c1 : B1 ≤ 1000000) (c2 : B2 ≤ 1000000) : HB (mFr (ML q N d) q n lev cr) (B1 + B2 + 6000) := by
  have hT := frT_b (lev := lev) h
  have hz := uni_t lev
  obtain ⟨a1, a2, a3⟩ := h1
  obtain ⟨b1, b2, b3⟩ := h2
  obtain ⟨hY, hY1, hY2⟩ := fr_bY (q := q) (n := n) (lev := lev) h
  obtain ⟨k1, k2⟩ := fr_hd (z := (uni lev).toInt) (t := (frT q n lev).toInt) (t2 := (frT q n lev / 2).toInt) (g := (frG lev).toInt) (Y := frY q n lev) (T := frT q n lev) (by omega) hT (t_h2 hT.1) (frG_b lev) a1 a2 b1 b2 B1 B2 a3 b3 c1 c2 (fr_eU (cr := cr) h a2 (by omega)) (fr_eD h b1 (by omega)) ⟨hY.2, hY1, hY2⟩
  unfold mFr
  by_cases e : frT q n lev ≤ 0
  · rw [if_pos e, if_pos e]
    exact ⟨k1.1, k1.2.1, Int.le_trans k1.2.2 (by omega)⟩
  · rw [if_neg e, if_neg e]
    refine ⟨?_, ?_, Int.le_trans k2 (by omega)⟩
    · show 0 ≤ (mx (frH (ML q N d) q n lev cr) (frY q n lev + frT q n lev)).toInt
      rw [mx_t]; have := k1.1; show 0 ≤ max (frH (ML q N d) q n lev cr).toInt _; unfold frH; omega
    · show 0 ≤ (mx (frE (ML q N d) q n lev cr) (-frY q n lev)).toInt
      rw [mx_t]; have := k1.2.1; show 0 ≤ max (frE (ML q N d) q n lev cr).toInt _; unfold frE; omega
theorem hb_fe {q : Rw} {N d n B1 : Nat} {lev cr : Int32} (h1 : HB (ML q N d (q 6 n) lev cr) B1) (c1 : B1 ≤ 1000000) : HB (mFe (ML q N d) q n lev cr) (B1 + 6000) := by
  have ht := tal_b (feN (ML q N d) q n lev cr) lev
  have ht2 := t_h2 (a := tal (stp (feN (ML q N d) q n lev cr) lev) lev) (by omega)
  have hz := uni_t lev
  have hz2 := uni_2 lev
  obtain ⟨p1, p3, p4⟩ := h1
  have o1 : (feO (ML q N d) q n lev cr).toInt = (2 * uni lev).toInt + (tal (stp (feN (ML q N d) q n lev cr) lev) lev / 2).toInt := by unfold feO feT; rw [t_add (by omega) (by omega)]
  have o2 : (feT (ML q N d) q n lev cr - feO (ML q N d) q n lev cr).toInt = (tal (stp (feN (ML q N d) q n lev cr) lev) lev).toInt - (feO (ML q N d) q n lev cr).toInt := t_sub (by unfold feT; omega) (by unfold feT; omega)
  have e1 : (mFe (ML q N d) q n lev cr).2.1.toInt = max (max (ML q N d (q 6 n) lev cr).2.1.toInt (feO (ML q N d) q n lev cr).toInt) 0 := by
    show (mx (mx (ML q N d (q 6 n) lev cr).2.1 (feO (ML q N d) q n lev cr)) 0).toInt = _; rw [mx_t, mx_t, tI0]
  have e2 : (mFe (ML q N d) q n lev cr).2.2.toInt = max (max (ML q N d (q 6 n) lev cr).2.2.toInt ((tal (stp (feN (ML q N d) q n lev cr) lev) lev).toInt - (feO (ML q N d) q n lev cr).toInt)) 0 := by
    show (mx (mx (ML q N d (q 6 n) lev cr).2.2 (feT (ML q N d) q n lev cr - feO (ML q N d) q n lev cr)) 0).toInt = _; rw [mx_t, mx_t, tI0, o2]
  refine ⟨by omega, by omega, by omega⟩
theorem mr_sum {f : Nat → Int32} {g : Nat → Nat} : ∀ k, (∀ m, m < k → 0 ≤ (f (g m)).toInt) → (mrF f g k).toInt ≤ ((smN (fun m => (f (g m)).toInt.toNat) k : Nat) : Int)
  | 0, _ => by show (0 : Int32).toInt ≤ _; rw [tI0]; exact Int.natCast_nonneg _
  | k + 1, h => by
    have ih := mr_sum (f := f) (g := g) k (fun m hm => h m (by omega))
    have h0 := h k (by omega)
    rw [mrF, mx_t, smN]
    omega
theorem sm_rc (f : Nat → Nat) (C : Nat) : ∀ R, smN (fun i => smN (fun k => f (i * C + k)) C) R = smN f (R * C)
  | 0 => by rw [Nat.zero_mul]; rfl
  | R + 1 => by rw [smN, sm_rc f C R, Nat.add_mul, Nat.one_mul, sm_split]
theorem sG_s {G : Nat → Int32} {a b : Nat → Nat} : ∀ R, (∀ i, i < R → (G (5 + i)).toInt ≤ (a i : Int) ∧ (G (10 + i)).toInt ≤ (b i : Int)) → sG G R ≤ ((smN (fun i => a i + b i) R : Nat) : Int)
  | 0, _ => by rw [sG]; exact Int.natCast_nonneg _
  | R + 1, h => by
    have ih := sG_s R (fun i hi => h i (by omega))
    have h0 := h R (by omega)
    rw [sG, smN]
    omega
theorem hb_ma {q : Rw} {N d n R C : Nat} {lev : Int32} (e5 : q 5 n = nI R) (e6 : q 6 n = nI C) (hR1 : 1 ≤ R) (hR : R ≤ 5) (hC : 1 ≤ C) (hC5 : C ≤ 5) {B : Nat → Nat} (hM : ∀ t, t < R * C → HB (ML q N d (q 10 (25 * n + t)) (maI lev) 0) (B t)) (hB : ∀ t, t < R * C → B t ≤ 1000000) : HB (mMa (ML q N d) q n lev) (smN B (R * C) + 6000) := by
  have hM2 : ∀ t, t < R * C → TB (ML q N d (q 10 (25 * n + t)) (maI lev) 0) 10000000 := fun t ht => by
    have h1 := hM t ht
    have h2 := hB t ht
    obtain ⟨a1, a2, a3⟩ := h1
    exact ⟨⟨a1, by omega⟩, a2, by omega⟩
  obtain ⟨h1, h2, h3⟩ := maS_w (M := ML q N d) (q := q) (n := n) (lev := lev) hC hC5 hR (R * C) (Nat.le_refl _)
  have hBd : GB (maS (ML q N d) q n C lev (R * C)) R := by
    intro i hi
    rw [h2 i (by omega), mxF_r (R := R) hC, if_pos hi, h3 i (by omega), mxF_r (R := R) hC, if_pos hi]
    exact ⟨(mrF_b (by decide) C (fun m hm => (hM2 _ (rc_lt hi hm)).1)).1, (mrF_b (by decide) C (fun m hm => (hM2 _ (rc_lt hi hm)).2)).1⟩
  have hsum : sG (maS (ML q N d) q n C lev (R * C)) R ≤ ((smN B (R * C) : Nat) : Int) := by
    have k1 := sG_s (G := maS (ML q N d) q n C lev (R * C)) (a := fun i => smN (fun k => (ML q N d (q 10 (25 * n + (i * C + k))) (maI lev) 0).2.1.toInt.toNat) C) (b := fun i => smN (fun k => (ML q N d (q 10 (25 * n + (i * C + k))) (maI lev) 0).2.2.toInt.toNat) C) R (fun i hi => by
      rw [h2 i (by omega), mxF_r (R := R) hC, if_pos hi, h3 i (by omega), mxF_r (R := R) hC, if_pos hi]
      exact ⟨mr_sum (f := fun t => (ML q N d (q 10 (25 * n + t)) (maI lev) 0).2.1) (g := fun k => i * C + k) C (fun m hm => (hM _ (rc_lt hi hm)).1), mr_sum (f := fun t => (ML q N d (q 10 (25 * n + t)) (maI lev) 0).2.2) (g := fun k => i * C + k) C (fun m hm => (hM _ (rc_lt hi hm)).2.1)⟩)
    have k2 : smN (fun i => smN (fun k => (ML q N d (q 10 (25 * n + (i * C + k))) (maI lev) 0).2.1.toInt.toNat) C + smN (fun k => (ML q N d (q 10 (25 * n + (i * C + k))) (maI lev) 0).2.2.toInt.toNat) C) R ≤ smN B (R * C) := by
      rw [sm_add, sm_rc (fun t => (ML q N d (q 10 (25 * n + t)) (maI lev) 0).2.1.toInt.toNat) C R, sm_rc (fun t => (ML q N d (q 10 (25 * n + t)) (maI lev) 0).2.2.toInt.toNat) C R, ← sm_add]
      exact sm_le _ (fun t ht => by obtain ⟨a1, a2, a3⟩ := hM t ht; omega)
    omega
  have hz := uni_t lev
  have hz2 := uni_2 lev
  have hr := uni_r lev hR1 hR
  have hr2 : 0 ≤ (2 * uni lev * (nI R - 1)).toInt ∧ (2 * uni lev * (nI R - 1)).toInt ≤ 1000 := by
    rw [hr]
    rcases (show R = 1 ∨ R = 2 ∨ R = 3 ∨ R = 4 ∨ R = 5 by omega) with f | f | f | f | f <;> subst f <;> simp <;> omega
  have hL : (maL (ML q N d) q n R C lev).toInt = (2 * uni lev * (nI R - 1)).toInt + sG (maS (ML q N d) q n C lev (R * C)) R := smR_t hBd hR hr2 R (Nat.le_refl _)
  have hLb := sG_b hBd R (Nat.le_refl _)
  have hRc : (R : Int) ≤ 5 := by omega
  have hh := t_h2 (a := maL (ML q N d) q n R C lev) (by omega)
  have hT1 : (2 * uni lev - maL (ML q N d) q n R C lev / 2).toInt = (2 * uni lev).toInt - (maL (ML q N d) q n R C lev / 2).toInt := t_sub (by omega) (by omega)
  have hTt : (maT (ML q N d) q n R C lev).toInt = (2 * uni lev).toInt - (maL (ML q N d) q n R C lev / 2).toInt + (maL (ML q N d) q n R C lev).toInt := by unfold maT; rw [t_add (by omega) (by omega), hT1]
  have hD : (maL (ML q N d) q n R C lev - maT (ML q N d) q n R C lev).toInt = (maL (ML q N d) q n R C lev).toInt - (maT (ML q N d) q n R C lev).toInt := t_sub (by omega) (by omega)
  unfold mMa
  dsimp only
  rw [e5, e6, nI_clamp (by omega), nI_clamp (by omega)]
  have m1 : (mx 0 (maT (ML q N d) q n R C lev)).toInt = max 0 (maT (ML q N d) q n R C lev).toInt := by rw [mx_t, tI0]
  have m2 : (mx 0 (maL (ML q N d) q n R C lev - maT (ML q N d) q n R C lev)).toInt = max 0 ((maL (ML q N d) q n R C lev).toInt - (maT (ML q N d) q n R C lev).toInt) := by rw [mx_t, tI0, hD]
  refine ⟨?_, ?_, ?_⟩
  · show 0 ≤ (mx 0 (maT (ML q N d) q n R C lev)).toInt; omega
  · show 0 ≤ (mx 0 (maL (ML q N d) q n R C lev - maT (ML q N d) q n R C lev)).toInt; omega
  · show (mx 0 (maT (ML q N d) q n R C lev)).toInt + (mx 0 (maL (ML q N d) q n R C lev - maT (ML q N d) q n R C lev)).toInt ≤ _; omega
