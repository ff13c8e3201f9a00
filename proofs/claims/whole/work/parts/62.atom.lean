theorem bg_f (r : Rw) (n : Nat) (x : Int32) : SB r (bgR r (30 + n) x) ∧ (bgR r (30 + n) x) 19 = r 19 ∧ BM (bgR r (30 + n) x) (30 + n) (0, 0, 0) ∧ (bgR r (30 + n) x) 16 (30 + n) = x ∧ (bgR r (30 + n) x) 17 (30 + n) = x ∧ LC n r (bgR r (30 + n) x) := by
  unfold bgR
  refine ⟨?_, ?_, ⟨?_, ?_, ?_⟩, ?_, ?_, ?_⟩
  · exact (((((SB.rf r).ru (by decide)).ru (by decide)).ru (by decide)).ru (by decide)).ru (by decide)
  · rw [rU_n (by decide), rU_n (by decide), rU_n (by decide), rU_n (by decide), rU_n (by decide)]
  · rw [rU_n (by decide), rU_n (by decide), rU_n (by decide), rU_n (by decide), rU_s, pk_us]
  · rw [rU_n (by decide), rU_n (by decide), rU_n (by decide), rU_s, pk_us]
  · rw [rU_n (by decide), rU_n (by decide), rU_s, pk_us]
  · rw [rU_n (by decide), rU_s, pk_us]
  · rw [rU_s, pk_us]
  · intro b hb
    refine ⟨?_, ?_, ?_, ?_, ?_⟩
    · rw [rU_n (by decide), rU_n (by decide), rU_n (by decide), rU_n (by decide), rU_s, pk_un hb]
    · rw [rU_n (by decide), rU_n (by decide), rU_n (by decide), rU_s, pk_un hb]
    · rw [rU_n (by decide), rU_n (by decide), rU_s, pk_un hb]
    · rw [rU_n (by decide), rU_s, pk_un hb]
    · rw [rU_s, pk_un hb]
theorem ATP.bg {q r u : Rw} {f : Nat → Int32} {n c : Nat} {x : Int32} {t : T3} {P : List It} (h : ATP q (bgR r (30 + n) x) f n c t P u) : ATP q r f n c t P u :=
  ⟨(bg_f r n x).1.tr h.1, h.2.1, h.2.2.1, h.2.2.2.1, fun b hb hne hall => ((bg_f r n x).2.2.2.2.2 b hne).tr (h.2.2.2.2 b hb hne hall)⟩
theorem ATP.en {q r u : Rw} {f : Nat → Int32} {n c : Nat} {t : T3} {P : List It} (h : ATP q r f n c t P u) (x : Int32) : ATP q r f n c t P (rU u 17 (upd (u 17) (30 + n) x)) ∧ (rU u 17 (upd (u 17) (30 + n) x)) 17 (30 + n) = x := by
  refine ⟨⟨h.1.ru (by decide), ?_, ⟨?_, ?_, ?_⟩, ?_, fun b hb hne hall => (h.2.2.2.2 b hb hne hall).tr ⟨?_, ?_, ?_, ?_, ?_⟩⟩, by rw [rU_s, pk_us]⟩
  · rw [rU_n (by decide)]; exact h.2.1
  · rw [rU_n (by decide)]; exact h.2.2.1.1
  · rw [rU_n (by decide)]; exact h.2.2.1.2.1
  · rw [rU_n (by decide)]; exact h.2.2.1.2.2
  · rw [rU_n (by decide)]; exact h.2.2.2.1
  · rw [rU_n (by decide)]
  · rw [rU_n (by decide)]
  · rw [rU_n (by decide)]
  · rw [rU_n (by decide)]
  · rw [rU_s, pk_un hne]
theorem ATP.tr {q r u w : Rw} {f : Nat → Int32} {n c : Nat} {t t' : T3} {P P' : List It} (h : ATP q r f n c t P u) (h2 : ATP q u f n c t' P' w) : ATP q r f n c t' P' w :=
  ⟨h.1.tr h2.1, h2.2.1, h2.2.2.1, h2.2.2.2.1, fun b hb hne hall => (h.2.2.2.2 b hb hne hall).tr (h2.2.2.2.2 b hb hne hall)⟩
theorem at_nu {q r u : Rw} {n c : Nat} {t : T3} {P : List It} (h : NUP q r n c t P u) (h16 : r 16 (30 + n) = nI c) : ATP q r (r 19) n c t P u :=
  ⟨h.1, h.2.1, h.2.2.1, h.2.2.2.1.trans h16, h.2.2.2.2.2⟩
theorem sc_0 (a b : Int32) : (if a = -1 then (0 : Int32) else 1) + (if b = -1 then (0 : Int32) else 1) ≤ 0 ↔ a = -1 ∧ b = -1 := by
  by_cases h1 : a = -1 <;> by_cases h2 : b = -1 <;> simp only [h1, h2, if_true, if_false] <;> decide
theorem at_no {M : TM} {P : TP} {q : Rw} {n : Nat} {lev cr : Int32} (h : q 8 n = -1 ∧ q 9 n = -1) : mAt M q n lev cr = mNu M q n lev cr ∧ pAt M P q n lev cr 0 0 = pNu M P q n lev cr 0 0 := by
  constructor
  · unfold mAt; rw [if_pos h]
  · unfold pAt
    rw [if_neg (show ¬ isL q n lev = true from fun e => (of_decide_eq_true e).1 h), if_pos h.1, if_pos h.2, List.append_nil, List.append_nil]
theorem TB.mo {t : T3} {A B : Int} (h : TB t A) (hAB : A ≤ B) : TB t B := ⟨⟨h.1.1, Int.le_trans h.1.2 hAB⟩, h.2.1, Int.le_trans h.2.2 hAB⟩
theorem frT_b {q : Rw} {n : Nat} {lev : Int32} (h : q 7 n ≤ 1000) : 0 ≤ (frT q n lev).toInt ∧ (frT q n lev).toInt ≤ 1000 := by
  unfold frT
  by_cases e : 0 ≤ q 7 n
  · rw [if_pos e]; rw [i_le] at e h; rw [tI0] at e; rw [tI1000] at h; exact ⟨e, h⟩
  · rw [if_neg e]; rcases uni_v lev with e | e | e <;> rw [e] <;> decide
theorem frG_b (lev : Int32) : 0 ≤ (frG lev).toInt ∧ (frG lev).toInt ≤ 30 := by
  unfold frG; split <;> rcases uni_v lev with e | e | e <;> rw [e] <;> decide
theorem fr_bU {q : Rw} {N d n : Nat} {lev cr : Int32} (h : q 7 n ≤ 1000) (p3 : 0 ≤ (ML q N d (q 5 n) (ptl lev) cr).2.2.toInt) (p4 : (ML q N d (q 5 n) (ptl lev) cr).2.2.toInt ≤ 10000000) : 0 ≤ (frU (ML q N d) q n lev cr).toInt ∧ (frU (ML q N d) q n lev cr).toInt ≤ 10002000 := by
  have hT := frT_b (lev := lev) h
  have hT2 := t_h2 hT.1
  have hG := frG_b lev
  have hz := uni_t lev
  have hz2 := uni_2 lev
  unfold frU
  have u1 : (2 * uni lev + frT q n lev / 2).toInt = (2 * uni lev).toInt + (frT q n lev / 2).toInt := t_add (by omega) (by omega)
  have u2 : (2 * uni lev + frT q n lev / 2 + frG lev).toInt = (2 * uni lev).toInt + (frT q n lev / 2).toInt + (frG lev).toInt := by rw [t_add (by omega) (by omega), u1]
  rw [t_add (by omega) (by omega), u2]
  omega
theorem fr_bD {q : Rw} {N d n : Nat} {lev : Int32} (h : q 7 n ≤ 1000) (p3 : 0 ≤ (ML q N d (q 6 n) (ptl lev) 1).2.1.toInt) (p4 : (ML q N d (q 6 n) (ptl lev) 1).2.1.toInt ≤ 10000000) : -20 ≤ (frD (ML q N d) q n lev).toInt ∧ (frD (ML q N d) q n lev).toInt ≤ 10002000 := by
  have hT := frT_b (lev := lev) h
  have hT2 := t_h2 hT.1
  have hG := frG_b lev
  have hz := uni_t lev
  have hz2 := uni_2 lev
  unfold frD
  have d1 : ((ML q N d (q 6 n) (ptl lev) 1).2.1 + frG lev).toInt = (ML q N d (q 6 n) (ptl lev) 1).2.1.toInt + (frG lev).toInt := t_add (by omega) (by omega)
  have d2 : ((ML q N d (q 6 n) (ptl lev) 1).2.1 + frG lev + frT q n lev).toInt = (ML q N d (q 6 n) (ptl lev) 1).2.1.toInt + (frG lev).toInt + (frT q n lev).toInt := by rw [t_add (by omega) (by omega), d1]
  have d3 : ((ML q N d (q 6 n) (ptl lev) 1).2.1 + frG lev + frT q n lev - frT q n lev / 2).toInt = (ML q N d (q 6 n) (ptl lev) 1).2.1.toInt + (frG lev).toInt + (frT q n lev).toInt - (frT q n lev / 2).toInt := by rw [t_sub (by omega) (by omega), d2]
  rw [t_sub (by omega) (by omega), d3]
  omega
theorem fr_bY {q : Rw} {n : Nat} {lev : Int32} (h : q 7 n ≤ 1000) : (-1000 ≤ (frY q n lev).toInt ∧ (frY q n lev).toInt ≤ 20) ∧ (-frY q n lev).toInt ≤ 1000 ∧ (frY q n lev + frT q n lev).toInt ≤ 2000 := by
  have hT := frT_b (lev := lev) h
  have hT2 := t_h2 hT.1
  have hz := uni_t lev
  have hz2 := uni_2 lev
  have y1 : (frT q n lev - frT q n lev / 2).toInt = (frT q n lev).toInt - (frT q n lev / 2).toInt := t_sub (by omega) (by omega)
  have y2 : (frY q n lev).toInt = (2 * uni lev).toInt - ((frT q n lev).toInt - (frT q n lev / 2).toInt) := by unfold frY; rw [t_sub (by omega) (by omega), y1]
  have k6 : (-frY q n lev).toInt = -(frY q n lev).toInt := by rw [← Int32.zero_sub, t_sub (by rw [tI0]; omega) (by rw [tI0]; omega), tI0]; omega
  refine ⟨⟨by omega, by omega⟩, by omega, ?_⟩
  rw [t_add (by omega) (by omega)]
  omega
theorem fr_bH {U h1 h2 Dn : Int32} (a1 : 0 ≤ U.toInt ∧ U.toInt ≤ 10002000) (a2 : 0 ≤ h1.toInt ∧ h1.toInt ≤ 10000000) (a3 : 0 ≤ h2.toInt ∧ h2.toInt ≤ 10000000) (a4 : -20 ≤ Dn.toInt ∧ Dn.toInt ≤ 10002000) : (0 ≤ (mx (mx 0 (U + h1)) (h2 - Dn)).toInt ∧ (mx (mx 0 (U + h1)) (h2 - Dn)).toInt ≤ 100000000) ∧ (0 ≤ (mx (mx 0 (h1 - U)) (h2 + Dn)).toInt ∧ (mx (mx 0 (h1 - U)) (h2 + Dn)).toInt ≤ 100000000) := by
  rw [mx_t, mx_t, mx_t, mx_t, tI0, t_add (by omega) (by omega), t_sub (by omega) (by omega), t_sub (by omega) (by omega), t_add (by omega) (by omega)]
  omega
theorem fr_b {q : Rw} {N d n : Nat} {lev cr : Int32} (h : q 7 n ≤ 1000) (h1 : TB (ML q N d (q 5 n) (ptl lev) cr) 10000000) (h2 : TB (ML q N d (q 6 n) (ptl lev) 1) 10000000) : TB (mFr (ML q N d) q n lev cr) 300000000 := by
  have hU := fr_bU (N := N) (d := d) (lev := lev) (cr := cr) h h1.2.1 h1.2.2
  have hD := fr_bD (N := N) (d := d) (lev := lev) h h2.1.1 h2.1.2
  obtain ⟨hY, hY1, hY2⟩ := fr_bY (q := q) (n := n) (lev := lev) h
  have hH : 0 ≤ (frH (ML q N d) q n lev cr).toInt ∧ (frH (ML q N d) q n lev cr).toInt ≤ 100000000 := (fr_bH hU h1.1 h2.1 hD).1
  have hE : 0 ≤ (frE (ML q N d) q n lev cr).toInt ∧ (frE (ML q N d) q n lev cr).toInt ≤ 100000000 := (fr_bH hU h1.2 h2.2 hD).2
  clear hU hD h1 h2 h
  unfold mFr
  by_cases e : frT q n lev ≤ 0
  · rw [if_pos e, if_pos e]
    exact ⟨⟨hH.1, by have := hH.2; show (frH (ML q N d) q n lev cr).toInt ≤ _; omega⟩, hE.1, by have := hE.2; show (frE (ML q N d) q n lev cr).toInt ≤ _; omega⟩
  · rw [if_neg e, if_neg e]
    refine ⟨⟨?_, ?_⟩, ?_, ?_⟩
    · show 0 ≤ (mx (frH (ML q N d) q n lev cr) (frY q n lev + frT q n lev)).toInt; rw [mx_t]; omega
    · show (mx (frH (ML q N d) q n lev cr) (frY q n lev + frT q n lev)).toInt ≤ _; rw [mx_t]; omega
    · show 0 ≤ (mx (frE (ML q N d) q n lev cr) (-frY q n lev)).toInt; rw [mx_t]; omega
    · show (mx (frE (ML q N d) q n lev cr) (-frY q n lev)).toInt ≤ _; rw [mx_t]; omega
theorem tal_b (x lev : Int32) : 30 ≤ (tal (stp x lev) lev).toInt ∧ (tal (stp x lev) lev).toInt ≤ 220 := by
  have h : stp x lev = nI 0 ∨ stp x lev = nI 1 ∨ stp x lev = nI 2 ∨ stp x lev = nI 3 ∨ stp x lev = nI 4 := by unfold stp; (repeat' split) <;> simp
  unfold tal
  rcases h with e | e | e | e | e <;> rw [e] <;> rcases uni_v lev with f | f | f <;> rw [f] <;> decide
theorem fe_b {q : Rw} {N d n : Nat} {lev cr : Int32} (h1 : TB (ML q N d (q 6 n) lev cr) 10000000) : TB (mFe (ML q N d) q n lev cr) 300000000 := by
  have ht := tal_b (feN (ML q N d) q n lev cr) lev
  have ht2 := t_h2 (a := tal (stp (feN (ML q N d) q n lev cr) lev) lev) (by omega)
  have hz := uni_t lev
  have hz2 := uni_2 lev
  obtain ⟨⟨p1, p2⟩, p3, p4⟩ := h1
  have o1 : (feO (ML q N d) q n lev cr).toInt = (2 * uni lev).toInt + (tal (stp (feN (ML q N d) q n lev cr) lev) lev / 2).toInt := by unfold feO feT; rw [t_add (by omega) (by omega)]
  have o2 : (feT (ML q N d) q n lev cr - feO (ML q N d) q n lev cr).toInt = (tal (stp (feN (ML q N d) q n lev cr) lev) lev).toInt - (feO (ML q N d) q n lev cr).toInt := t_sub (by unfold feT; omega) (by unfold feT; omega)
  unfold mFe
  refine ⟨⟨?_, ?_⟩, ?_, ?_⟩
  · show 0 ≤ (mx (mx (ML q N d (q 6 n) lev cr).2.1 (feO (ML q N d) q n lev cr)) 0).toInt; rw [mx_t, mx_t, tI0]; omega
  · show (mx (mx (ML q N d (q 6 n) lev cr).2.1 (feO (ML q N d) q n lev cr)) 0).toInt ≤ _; rw [mx_t, mx_t, tI0]; omega
  · show 0 ≤ (mx (mx (ML q N d (q 6 n) lev cr).2.2 (feT (ML q N d) q n lev cr - feO (ML q N d) q n lev cr)) 0).toInt; rw [mx_t, mx_t, tI0]; omega
  · show (mx (mx (ML q N d (q 6 n) lev cr).2.2 (feT (ML q N d) q n lev cr - feO (ML q N d) q n lev cr)) 0).toInt ≤ _; rw [mx_t, mx_t, tI0, o2]; omega
theorem ma_b {q : Rw} {N d n R C : Nat} {lev : Int32} (e5 : q 5 n = nI R) (e6 : q 6 n = nI C) (hR1 : 1 ≤ R) (hR : R ≤ 5) (hC : 1 ≤ C) (hC5 : C ≤ 5) (hM : ∀ t, t < R * C → TB (ML q N d (q 10 (25 * n + t)) (maI lev) 0) 10000000) : TB (mMa (ML q N d) q n lev) 300000000 := by
  obtain ⟨h1, h2, h3⟩ := maS_w (M := ML q N d) (q := q) (n := n) (lev := lev) hC hC5 hR (R * C) (Nat.le_refl _)
  have hB : GB (maS (ML q N d) q n C lev (R * C)) R := by
    intro i hi
    rw [h2 i (by omega), mxF_r (R := R) hC, if_pos hi, h3 i (by omega), mxF_r (R := R) hC, if_pos hi]
    exact ⟨(mrF_b (by decide) C (fun m hm => (hM _ (rc_lt hi hm)).1)).1, (mrF_b (by decide) C (fun m hm => (hM _ (rc_lt hi hm)).2)).1⟩
  have hz := uni_t lev
  have hz2 := uni_2 lev
  have hr := uni_r lev hR1 hR
  have hr2 : 0 ≤ (2 * uni lev * (nI R - 1)).toInt ∧ (2 * uni lev * (nI R - 1)).toInt ≤ 1000 := by
    rw [hr]
    rcases (show R = 1 ∨ R = 2 ∨ R = 3 ∨ R = 4 ∨ R = 5 by omega) with f | f | f | f | f <;> subst f <;> simp <;> omega
  have hL : (maL (ML q N d) q n R C lev).toInt = (2 * uni lev * (nI R - 1)).toInt + sG (maS (ML q N d) q n C lev (R * C)) R := smR_t hB hR hr2 R (Nat.le_refl _)
  have hLb := sG_b hB R (Nat.le_refl _)
  have hRc : (R : Int) ≤ 5 := by omega
  have hh := t_h2 (a := maL (ML q N d) q n R C lev) (by omega)
  have hT1 : (2 * uni lev - maL (ML q N d) q n R C lev / 2).toInt = (2 * uni lev).toInt - (maL (ML q N d) q n R C lev / 2).toInt := t_sub (by omega) (by omega)
  have hTt : (maT (ML q N d) q n R C lev).toInt = (2 * uni lev).toInt - (maL (ML q N d) q n R C lev / 2).toInt + (maL (ML q N d) q n R C lev).toInt := by unfold maT; rw [t_add (by omega) (by omega), hT1]
  have hD : (maL (ML q N d) q n R C lev - maT (ML q N d) q n R C lev).toInt = (maL (ML q N d) q n R C lev).toInt - (maT (ML q N d) q n R C lev).toInt := t_sub (by omega) (by omega)
  unfold mMa
  dsimp only
  rw [e5, e6, nI_clamp (by omega), nI_clamp (by omega)]
  refine ⟨⟨?_, ?_⟩, ?_, ?_⟩
  · show 0 ≤ (mx 0 (maT (ML q N d) q n R C lev)).toInt; rw [mx_t, tI0]; omega
  · show (mx 0 (maT (ML q N d) q n R C lev)).toInt ≤ _; rw [mx_t, tI0]; omega
  · show 0 ≤ (mx 0 (maL (ML q N d) q n R C lev - maT (ML q N d) q n R C lev)).toInt; rw [mx_t, tI0]; omega
  · show (mx 0 (maL (ML q N d) q n R C lev - maT (ML q N d) q n R C lev)).toInt ≤ _; rw [mx_t, tI0, hD]; omega
/-- the lists' measures at the depth d are small -/
def HBD (q : Rw) (N : Nat) (dp : Nat → Nat) (d : Nat) : Prop := ∀ (j : Nat) (lev cr : Int32), j < 30 → 30 ≤ d + dp j → lvO lev → TB (ML q N d (nI j) lev cr) 10000000
theorem nu_b {q : Rw} {N d n k : Nat} {dp sl : Nat → Nat} {lev cr : Int32} (hT : LY q N dp sl) (hB : HBD q N dp d) (hn : n < N) (hk : k < 30) (e2 : q 2 n = nI k) (hd : 29 ≤ d + dp k) (hlev : lvO lev) (hna : ¬ q 3 n = 4) : TB (mNu (ML q N d) q n lev cr) 300000000 := by
  have hf : ∀ s j, FLD q n s j → ∀ lev cr, lvO lev → TB (ML q N d (nI j) lev cr) 10000000 := fun s j h lev cr hl => by
    obtain ⟨h1, h2, h3⟩ := fl_dp hT hn hk e2 h
    exact hB j lev cr h1 (by omega) hl
  obtain ⟨_, _, _, hnd⟩ := hT.2.2.2.2 n hn
  unfold mNu
  rcases hnd with ⟨h3, h5, h6⟩ | ⟨h3, ⟨jo, hjo, eo⟩, ⟨ju, hju, eu⟩, h7, h8⟩ | ⟨h3, ⟨j, hj, ej⟩, _⟩ | ⟨h3, R, C, eR, eC, hR1, hR5, hC1, hC5, hls⟩ | ⟨h3, _⟩
  · rw [if_pos h3]
    have a := si_H (k := q 4 n) (lev := lev) h5 h6
    have b := si_D (k := q 4 n) (lev := lev) (x := q 5 n)
    simp only [i_le] at a b
    have q98 : (98 : Int32).toInt = 98 := rfl
    have q28 : (28 : Int32).toInt = 28 := rfl
    rw [tI0, q98] at a
    rw [tI0, q28] at b
    exact ⟨⟨a.1, by have := a.2; show (sgz (q 4 n) lev * (5 + rmd (q 5 n) 3)).toInt ≤ _; omega⟩, b.1, by have := b.2; show (if rmd (q 5 n) 4 = 3 then 2 * sgz (q 4 n) lev else 0).toInt ≤ _; omega⟩
  · rw [if_neg (by rw [h3]; decide), if_pos h3]
    exact fr_b h8 (by rw [eo]; exact hf 0 jo ⟨hjo, Or.inl ⟨rfl, h3, eo⟩⟩ _ _ (ptl_o hlev)) (by rw [eu]; exact hf 1 ju ⟨hju, Or.inr (Or.inl ⟨rfl, Or.inl h3, eu⟩)⟩ _ _ (ptl_o hlev))
  · rw [if_neg (by rw [h3]; decide), if_neg (by rw [h3]; decide), if_pos h3]
    exact fe_b (by rw [ej]; exact hf 1 j ⟨hj, Or.inr (Or.inl ⟨rfl, Or.inr h3, ej⟩)⟩ _ _ hlev)
  · rw [if_neg (by rw [h3]; decide), if_neg (by rw [h3]; decide), if_neg (by rw [h3]; decide)]
    refine ma_b eR eC hR1 hR5 hC1 hC5 (fun t ht => ?_)
    obtain ⟨j, hj, e⟩ := hls t ht
    rw [e]
    exact hf (4 + t) j ⟨hj, Or.inr (Or.inr (Or.inr (Or.inr ⟨by omega, h3, by rw [eR, eC, nI_clamp (by omega), nI_clamp (by omega), show 4 + t - 4 = t by omega]; exact ht, by rw [show 4 + t - 4 = t by omega]; exact e⟩)))⟩ _ _ (maI_o hlev)
  · exact absurd h3 hna
