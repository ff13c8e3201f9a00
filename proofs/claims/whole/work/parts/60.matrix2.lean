/-- the rows' tops -/
def mrT (G : Nat → Int32) (l0 z : Int32) : Nat → Int32
  | 0 => l0
  | k + 1 => mrT G l0 z k - G (5 + k) - G (10 + k) - z
def prL (G : Nat → Int32) (Mt : Nat → T3) (Pt : Nat → List It) (C : Nat) (l0 z btw : Int32) : Nat → List It
  | 0 => []
  | i + 1 => prL G Mt Pt C l0 z btw i ++ (rwS G Mt Pt (i * C) (mrT G l0 z i - G (5 + i)) btw C).2
def hhF (G : Nat → Int32) (Mt : Nat → T3) (C : Nat) (l0 z : Int32) : Nat → Int32
  | 0 => 0
  | i + 1 => hcF Mt (i * C) (mrT G l0 z i - G (5 + i)) (hhF G Mt C l0 z i) C
def dhF (G : Nat → Int32) (Mt : Nat → T3) (C : Nat) (l0 z : Int32) : Nat → Int32
  | 0 => 0
  | i + 1 => dcF Mt (i * C) (mrT G l0 z i - G (5 + i)) (dhF G Mt C l0 z i) C
def sG (G : Nat → Int32) : Nat → Int
  | 0 => 0
  | i + 1 => sG G i + (G (5 + i)).toInt + (G (10 + i)).toInt
def sZ (G : Nat → Int32) (z : Int) : Nat → Int
  | 0 => 0
  | i + 1 => sZ G z i + (G (5 + i)).toInt + (G (10 + i)).toInt + z
theorem sZ_s (G : Nat → Int32) (z : Int) : ∀ i : Nat, sZ G z i = sG G i + (i : Int) * z
  | 0 => by rw [sZ, sG]; simp
  | i + 1 => by rw [sZ, sG, sZ_s G z i, show ((i + 1 : Nat) : Int) = (i : Int) + 1 from rfl, Int.add_mul, Int.one_mul]; omega
/-- bounds of the rows' sizes -/
def GB (G : Nat → Int32) (R : Nat) : Prop := ∀ i, i < R → (0 ≤ (G (5 + i)).toInt ∧ (G (5 + i)).toInt ≤ 10000000) ∧ (0 ≤ (G (10 + i)).toInt ∧ (G (10 + i)).toInt ≤ 10000000)
theorem sZ_b {G : Nat → Int32} {R : Nat} {z : Int} (h : GB G R) (hz0 : 0 ≤ z) (hz1 : z ≤ 20) : ∀ i, i ≤ R → 0 ≤ sZ G z i ∧ sZ G z i ≤ (i : Int) * 20000020
  | 0, _ => by rw [sZ]; simp
  | i + 1, hi => by
    have h1 := sZ_b h hz0 hz1 i (by omega)
    have h2 := h i (by omega)
    rw [sZ, show ((i + 1 : Nat) : Int) = (i : Int) + 1 from rfl, Int.add_mul, Int.one_mul]
    omega
theorem sG_b {G : Nat → Int32} {R : Nat} (h : GB G R) : ∀ i, i ≤ R → 0 ≤ sG G i ∧ sG G i ≤ (i : Int) * 20000000
  | 0, _ => by rw [sG]; simp
  | i + 1, hi => by
    have h1 := sG_b h i (by omega)
    have h2 := h i (by omega)
    rw [sG, show ((i + 1 : Nat) : Int) = (i : Int) + 1 from rfl, Int.add_mul, Int.one_mul]
    omega
theorem mrT_t {G : Nat → Int32} {R : Nat} {l0 z : Int32} (h : GB G R) (hR : R ≤ 5) (hz0 : 0 ≤ z.toInt) (hz1 : z.toInt ≤ 20) (hl : -500000000 ≤ l0.toInt ∧ l0.toInt ≤ 500000000) : ∀ i, i ≤ R → (mrT G l0 z i).toInt = l0.toInt - sZ G z.toInt i
  | 0, _ => by rw [mrT, sZ]; omega
  | i + 1, hi => by
    have h1 := mrT_t h hR hz0 hz1 hl i (by omega)
    have h2 := h i (by omega)
    have h3 := sZ_b h hz0 hz1 i (by omega)
    rw [mrT, sZ]
    have e1 : (mrT G l0 z i - G (5 + i)).toInt = (mrT G l0 z i).toInt - (G (5 + i)).toInt := t_sub (by omega) (by omega)
    have e2 : (mrT G l0 z i - G (5 + i) - G (10 + i)).toInt = (mrT G l0 z i).toInt - (G (5 + i)).toInt - (G (10 + i)).toInt := by rw [t_sub (by omega) (by omega), e1]
    rw [t_sub (by omega) (by omega), e2, h1]
    omega
theorem smR_t {G : Nat → Int32} {R : Nat} {s0 : Int32} (h : GB G R) (hR : R ≤ 5) (hl : 0 ≤ s0.toInt ∧ s0.toInt ≤ 1000) : ∀ i, i ≤ R → (smR G s0 i).toInt = s0.toInt + sG G i
  | 0, _ => by rw [smR, sG]; omega
  | i + 1, hi => by
    have h1 := smR_t h hR hl i (by omega)
    have h2 := h i (by omega)
    have h3 := sG_b h i (by omega)
    rw [smR, sG]
    have e1 : (smR G s0 i + G (5 + i)).toInt = (smR G s0 i).toInt + (G (5 + i)).toInt := t_add (by omega) (by omega)
    rw [t_add (by omega) (by omega), e1, h1]
    omega
theorem hd_all {G : Nat → Int32} {Mt : Nat → T3} {R C : Nat} {l0 z : Int32} (hR : R ≤ 5) (hC : 1 ≤ C) (hz0 : 0 ≤ z.toInt) (hz1 : z.toInt ≤ 20) (hl : -500000000 ≤ l0.toInt ∧ l0.toInt ≤ 500000000)
    (hM : ∀ t, t < R * C → TB (Mt t) 10000000) (hG : ∀ i, i < R → G (5 + i) = mrF (fun t => (Mt t).2.1) (fun k => i * C + k) C ∧ G (10 + i) = mrF (fun t => (Mt t).2.2) (fun k => i * C + k) C) :
    GB G R ∧ ∀ i, i < R → (hhF G Mt C l0 z (i + 1)).toInt = max 0 l0.toInt ∧ (dhF G Mt C l0 z (i + 1)).toInt = max 0 (-((mrT G l0 z (i + 1)).toInt + z.toInt)) := by
  have hB : GB G R := by
    intro i hi
    rw [(hG i hi).1, (hG i hi).2]
    exact ⟨(mrF_b (by decide) C (fun m hm => (hM _ (rc_lt hi hm)).1)).1, (mrF_b (by decide) C (fun m hm => (hM _ (rc_lt hi hm)).2)).1⟩
  refine ⟨hB, ?_⟩
  intro i
  induction i with
  | zero =>
    intro hi
    have h2 := hB 0 hi
    have hm := mrT_t hB hR hz0 hz1 hl 1 hi
    have e0 : (l0 - G (5 + 0)).toInt = l0.toInt - (G (5 + 0)).toInt := t_sub (by omega) (by omega)
    have hs1 : sZ G z.toInt 1 = (G (5 + 0)).toInt + (G (10 + 0)).toInt + z.toInt := by rw [sZ, sZ]; omega
    constructor
    · show (hcF Mt (0 * C) (l0 - G (5 + 0)) 0 C).toInt = _
      rw [hc_all hC (by omega) (fun m hm => (hM _ (rc_lt hi hm)).1), ← (hG 0 hi).1, e0, tI0]
      omega
    · show (dcF Mt (0 * C) (l0 - G (5 + 0)) 0 C).toInt = _
      rw [dc_all hC (by omega) (fun m hm => (hM _ (rc_lt hi hm)).2), ← (hG 0 hi).2, e0, tI0, hm, hs1]
      omega
  | succ i ih =>
    intro hi
    obtain ⟨i1, i2⟩ := ih (by omega)
    have h2 := hB (i + 1) hi
    have h3 := sZ_b hB hz0 hz1 (i + 1) (by omega)
    have hm := mrT_t hB hR hz0 hz1 hl (i + 1) (by omega)
    have hm2 := mrT_t hB hR hz0 hz1 hl (i + 1 + 1) hi
    have hs1 : sZ G z.toInt (i + 1 + 1) = sZ G z.toInt (i + 1) + (G (5 + (i + 1))).toInt + (G (10 + (i + 1))).toInt + z.toInt := by rw [sZ]
    have hc : ((i + 1 : Nat) : Int) ≤ 5 := by omega
    have e0 : (mrT G l0 z (i + 1) - G (5 + (i + 1))).toInt = (mrT G l0 z (i + 1)).toInt - (G (5 + (i + 1))).toInt := t_sub (by omega) (by omega)
    constructor
    · show (hcF Mt ((i + 1) * C) (mrT G l0 z (i + 1) - G (5 + (i + 1))) (hhF G Mt C l0 z (i + 1)) C).toInt = _
      rw [hc_all hC (by omega) (fun m hm => (hM _ (rc_lt hi hm)).1), ← (hG (i + 1) hi).1, e0, i1]
      omega
    · show (dcF Mt ((i + 1) * C) (mrT G l0 z (i + 1) - G (5 + (i + 1))) (dhF G Mt C l0 z (i + 1)) C).toInt = _
      rw [dc_all hC (by omega) (fun m hm => (hM _ (rc_lt hi hm)).2), ← (hG (i + 1) hi).2, e0, i2, hm2, hs1]
      omega
theorem t_h2 {a : Int32} (h : 0 ≤ a.toInt) : 0 ≤ (a / 2).toInt ∧ (a / 2).toInt ≤ a.toInt := by
  have h1 : a.toInt < 2147483648 := by have := Int32.toInt_lt a; omega
  rw [Int32.toInt_div, tI2, Int.tdiv_eq_ediv_of_nonneg h, Int.bmod_eq_of_le (by omega) (by omega)]
  omega
theorem uni_t (lev : Int32) : (uni lev).toInt = 10 ∨ (uni lev).toInt = 7 ∨ (uni lev).toInt = 5 := by rcases uni_v lev with e | e | e <;> rw [e] <;> decide
theorem uni_2 (lev : Int32) : (2 * uni lev).toInt = 2 * (uni lev).toInt := by rcases uni_v lev with e | e | e <;> rw [e] <;> decide
theorem uni_r (lev : Int32) {R : Nat} (h1 : 1 ≤ R) (h5 : R ≤ 5) : (2 * uni lev * (nI R - 1)).toInt = 2 * (uni lev).toInt * ((R : Int) - 1) := by
  rcases uni_v lev with e | e | e <;> rw [e] <;> rcases (show R = 1 ∨ R = 2 ∨ R = 3 ∨ R = 4 ∨ R = 5 by omega) with f | f | f | f | f <;> subst f <;> decide
theorem ma_hd {q : Rw} {N d n R C : Nat} {lev : Int32} (hR1 : 1 ≤ R) (hR : R ≤ 5) (hC : 1 ≤ C) (hC5 : C ≤ 5) (hM : ∀ t, t < R * C → TB (ML q N d (q 10 (25 * n + t)) (maI lev) 0) 10000000) :
    hhF (maS (ML q N d) q n C lev (R * C)) (fun t => ML q N d (q 10 (25 * n + t)) (maI lev) 0) C (maT (ML q N d) q n R C lev) (2 * uni lev) R = mx 0 (maT (ML q N d) q n R C lev) ∧ dhF (maS (ML q N d) q n C lev (R * C)) (fun t => ML q N d (q 10 (25 * n + t)) (maI lev) 0) C (maT (ML q N d) q n R C lev) (2 * uni lev) R = mx 0 (maL (ML q N d) q n R C lev - maT (ML q N d) q n R C lev) := by
  obtain ⟨h1, h2, h3⟩ := maS_w (M := ML q N d) (q := q) (n := n) (lev := lev) hC hC5 hR (R * C) (Nat.le_refl _)
  have hG : ∀ i, i < R → maS (ML q N d) q n C lev (R * C) (5 + i) = mrF (fun t => (ML q N d (q 10 (25 * n + t)) (maI lev) 0).2.1) (fun k => i * C + k) C ∧ maS (ML q N d) q n C lev (R * C) (10 + i) = mrF (fun t => (ML q N d (q 10 (25 * n + t)) (maI lev) 0).2.2) (fun k => i * C + k) C := by
    intro i hi
    exact ⟨by rw [h2 i (by omega), mxF_r (R := R) hC, if_pos hi], by rw [h3 i (by omega), mxF_r (R := R) hC, if_pos hi]⟩
  have hz := uni_t lev
  have hz2 := uni_2 lev
  have hr := uni_r lev hR1 hR
  have hB : GB (maS (ML q N d) q n C lev (R * C)) R := by
    intro i hi
    rw [(hG i hi).1, (hG i hi).2]
    exact ⟨(mrF_b (by decide) C (fun m hm => (hM _ (rc_lt hi hm)).1)).1, (mrF_b (by decide) C (fun m hm => (hM _ (rc_lt hi hm)).2)).1⟩
  have hr2 : 0 ≤ (2 * uni lev * (nI R - 1)).toInt ∧ (2 * uni lev * (nI R - 1)).toInt ≤ 1000 := by
    rw [hr]
    rcases (show R = 1 ∨ R = 2 ∨ R = 3 ∨ R = 4 ∨ R = 5 by omega) with f | f | f | f | f <;> subst f <;> simp <;> omega
  have hL : (maL (ML q N d) q n R C lev).toInt = (2 * uni lev * (nI R - 1)).toInt + sG (maS (ML q N d) q n C lev (R * C)) R := smR_t hB hR hr2 R (Nat.le_refl _)
  have hLb := sG_b hB R (Nat.le_refl _)
  have hRc : (R : Int) ≤ 5 := by omega
  have hh := t_h2 (a := maL (ML q N d) q n R C lev) (by omega)
  have hT1 : (2 * uni lev - maL (ML q N d) q n R C lev / 2).toInt = (2 * uni lev).toInt - (maL (ML q N d) q n R C lev / 2).toInt := t_sub (by omega) (by omega)
  have hTt : (maT (ML q N d) q n R C lev).toInt = (2 * uni lev).toInt - (maL (ML q N d) q n R C lev / 2).toInt + (maL (ML q N d) q n R C lev).toInt := by unfold maT; rw [t_add (by omega) (by omega), hT1]
  obtain ⟨j, hj⟩ : ∃ j, R = j + 1 := ⟨R - 1, by omega⟩
  obtain ⟨_, hall⟩ := hd_all (G := maS (ML q N d) q n C lev (R * C)) (Mt := fun t => ML q N d (q 10 (25 * n + t)) (maI lev) 0) (l0 := maT (ML q N d) q n R C lev) (z := 2 * uni lev) hR hC (by omega) (by omega) (by omega) hM hG
  obtain ⟨f1, f2⟩ := hall j (by omega)
  rw [← hj] at f1 f2
  have hmt := mrT_t (l0 := maT (ML q N d) q n R C lev) (z := 2 * uni lev) hB hR (by omega) (by omega) (by omega) R (Nat.le_refl _)
  have hzs := sZ_s (maS (ML q N d) q n C lev (R * C)) (2 * uni lev).toInt R
  constructor
  · exact i_eq.mpr (by rw [f1, mx_t, tI0])
  · refine i_eq.mpr ?_
    rw [f2, mx_t, tI0, t_sub (by omega) (by omega), hmt, hzs, hL, hr, hz2, Int.mul_sub, Int.mul_one, Int.mul_comm (R : Int)]
    omega
theorem smI_a (f : Nat → Int32) (s a : Int32) : ∀ k, smI f (s + a) k = smI f s k + a
  | 0 => rfl
  | k + 1 => by rw [smI, smI, smI_a f s a k, Int32.add_assoc, Int32.add_comm a, ← Int32.add_assoc]
theorem rw_w {g : Nat → Int32} {Mt : Nat → T3} {Pt : Nat → List It} {base : Nat} {line btw : Int32} : ∀ k, (rwS g Mt Pt base line btw (k + 1)).1 = smI g (btw * (nI (k + 1) - 1)) (k + 1)
  | 0 => by
    show (0 : Int32) + (if 0 < 0 then btw else 0) + g 0 = btw * (nI 1 - 1) + g 0
    rw [if_neg (by decide), show nI 1 - 1 = 0 by decide, Int32.mul_zero, Int32.add_zero]
  | k + 1 => by
    have ih := rw_w (g := g) (Mt := Mt) (Pt := Pt) (base := base) (line := line) (btw := btw) k
    have e : btw * (nI (k + 1 + 1) - 1) = btw * (nI (k + 1) - 1) + btw := by
      have e1 : nI (k + 1 + 1) - 1 = nI (k + 1) - 1 + 1 := by rw [show nI (k + 1 + 1) = nI (k + 1) + 1 from (nI_1 _).symm, Int32.add_sub_cancel, Int32.sub_add_cancel]
      rw [e1, Int32.mul_add, Int32.mul_one]
    rw [e, smI, smI_a, ← ih, rwS, if_pos (Nat.succ_pos k)]
theorem pr_mr {q : Rw} {N d n C : Nat} {lev l0 : Int32} {g : Nat → Int32} : ∀ i, (pMr (ML q N d) (PL q N d) q n C lev g 0 l0 i).1 = mrT g l0 (2 * uni lev) i ∧ (pMr (ML q N d) (PL q N d) q n C lev g 0 l0 i).2 = prL g (fun t => ML q N d (q 10 (25 * n + t)) (maI lev) 0) (fun t => PL q N d (q 10 (25 * n + t)) (maI lev) 0 0 0) C l0 (2 * uni lev) (3 * uni lev) i
  | 0 => ⟨rfl, rfl⟩
  | i + 1 => by
    obtain ⟨h1, h2⟩ := pr_mr (q := q) (N := N) (d := d) (n := n) (C := C) (lev := lev) (l0 := l0) (g := g) i
    constructor
    · show (pMr (ML q N d) (PL q N d) q n C lev g 0 l0 i).1 - g (5 + i) - g (10 + i) - 2 * uni lev = _
      rw [h1]; rfl
    · show (pMr (ML q N d) (PL q N d) q n C lev g 0 l0 i).2 ++ (pMc (ML q N d) (PL q N d) q n C lev g i 0 ((pMr (ML q N d) (PL q N d) q n C lev g 0 l0 i).1 - g (5 + i)) C).2 = _
      rw [h1, h2, (pMc_rw C).2]; rfl
theorem pr_len {G : Nat → Int32} {Mt : Nat → T3} {Pt : Nat → List It} {C : Nat} {l0 z btw : Int32} : ∀ i, (prL G Mt Pt C l0 z btw i).length = (ccS Pt 0 (i * C)).length
  | 0 => by rw [Nat.zero_mul]; rfl
  | i + 1 => by rw [prL, List.length_append, pr_len i, rw_len, Nat.add_mul, Nat.one_mul, cc_app, List.length_append, Nat.zero_add]
theorem pMa_l {q : Rw} {N d n R C : Nat} {lev : Int32} (e5 : q 5 n = nI R) (e6 : q 6 n = nI C) (hR : R ≤ 5) (hC : C ≤ 5) : pMa (ML q N d) (PL q N d) q n lev 0 0 = prL (maS (ML q N d) q n C lev (R * C)) (fun t => ML q N d (q 10 (25 * n + t)) (maI lev) 0) (fun t => PL q N d (q 10 (25 * n + t)) (maI lev) 0 0 0) C (maT (ML q N d) q n R C lev) (2 * uni lev) (3 * uni lev) R := by
  unfold pMa
  dsimp only
  rw [e5, e6, nI_clamp (by omega), nI_clamp (by omega), Int32.zero_add]
  exact (pr_mr R).2
theorem pMa_len {q : Rw} {N d n R C : Nat} {lev : Int32} (e5 : q 5 n = nI R) (e6 : q 6 n = nI C) (hR : R ≤ 5) (hC : C ≤ 5) : (pMa (ML q N d) (PL q N d) q n lev 0 0).length = (ccS (fun t => PL q N d (q 10 (25 * n + t)) (maI lev) 0 0 0) 0 (R * C)).length := by
  rw [pMa_l e5 e6 hR hC, pr_len]
theorem maI_j {lev : Int32} (h : lvO lev) : mx lev 1 = maI lev := by rcases h with e | e | e | e <;> subst e <;> decide
theorem maI_o {lev : Int32} (h : lvO lev) : lvO (maI lev) := by rcases h with e | e | e | e <;> subst e <;> unfold lvO <;> decide
/-- the matrix when all rows are placed -/
theorem ma_fin {q r u : Rw} {N d n c R C : Nat} {lev : Int32} (e5 : q 5 n = nI R) (e6 : q 6 n = nI C) (hR1 : 1 ≤ R) (hR : R ≤ 5) (hC : 1 ≤ C) (hC5 : C ≤ 5) (hM : ∀ t, t < R * C → TB (ML q N d (q 10 (25 * n + t)) (maI lev) 0) 10000000)
    (hp : PB q r (r 19) n c (prL (maS (ML q N d) q n C lev (R * C)) (fun t => ML q N d (q 10 (25 * n + t)) (maI lev) 0) (fun t => PL q N d (q 10 (25 * n + t)) (maI lev) 0 0 0) C (maT (ML q N d) q n R C lev) (2 * uni lev) (3 * uni lev) R) (hhF (maS (ML q N d) q n C lev (R * C)) (fun t => ML q N d (q 10 (25 * n + t)) (maI lev) 0) C (maT (ML q N d) q n R C lev) (2 * uni lev) R) (dhF (maS (ML q N d) q n C lev (R * C)) (fun t => ML q N d (q 10 (25 * n + t)) (maI lev) 0) C (maT (ML q N d) q n R C lev) (2 * uni lev) R) u)
    (hw : u 13 (30 + n) = smI (maS (ML q N d) q n C lev (R * C)) (3 * uni lev * (nI C - 1)) C) : ATP q r (r 19) n c (mMa (ML q N d) q n lev) (pMa (ML q N d) (PL q N d) q n lev 0 0) u := by
  obtain ⟨f1, f2⟩ := ma_hd (q := q) (N := N) (d := d) (n := n) (lev := lev) hR1 hR hC hC5 hM
  rw [f1, f2, ← pMa_l e5 e6 hR hC5] at hp
  refine ⟨hp.1, hp.2.1, ?_, hp.2.2.2.1, hp.2.2.2.2⟩
  unfold mMa
  dsimp only
  rw [e5, e6, nI_clamp (by omega), nI_clamp (by omega)]
  exact ⟨hw, hp.2.2.1.1, hp.2.2.1.2⟩
