theorem scl_j (lev : Int32) : (if 1 < lev then (3 : Int32) else (2 : Int32)) = scl lev := by
  unfold scl
  by_cases h : 1 < lev
  · rw [if_pos h, if_neg (by rw [i_lt, tI1] at h; rw [i_lt, tI2]; omega)]
  · rw [if_neg h, if_pos (by rw [i_lt, tI1] at h; rw [i_lt, tI2]; omega)]
theorem oL_y {q : Rw} {N d j : Nat} {x lev cr : Int32} (hj : j < 30) (e : x = nI j) : oL q N d x lev cr = PL q N d (nI j) lev cr 0 0 := by
  unfold oL; rw [if_neg (by rw [e]; exact nI_ne_m1 (by omega)), e]
theorem oL_n {q : Rw} {N d : Nat} {x lev cr : Int32} (e : x = -1) : (oL q N d x lev cr).length = 0 := by
  unfold oL; rw [if_pos e]; rfl
theorem scl_o {lev : Int32} : lvO (scl lev) := by
  unfold scl lvO; split
  · right; right; left; rfl
  · right; right; right; rfl
theorem sc_up {q : Rw} {N n c0 ct : Nat} {x1 x2 : Int32} {Ln L1 L2 : List It} {tn t1 t2 : T3} {r u : Rw} {f0 : Nat → Int32} (hF : SCF q n x1 x2 Ln L1 L2 tn t1 t2 r f0 c0 u) (e5 : u 5 n = x1) (e6 : u 6 n = x2) (hlen : c0 + Ln.length + L1.length + L2.length ≤ ct) :
    (u 5 n = -1 ∨ ∃ j i1 j1, j < 150 ∧ u 5 n = nI j ∧ u 16 j = nI i1 ∧ u 17 j = nI j1 ∧ i1 ≤ j1 ∧ j1 ≤ ct) ∧ (u 6 n = -1 ∨ ∃ j i1 j1, j < 150 ∧ u 6 n = nI j ∧ u 16 j = nI i1 ∧ u 17 j = nI j1 ∧ i1 ≤ j1 ∧ j1 ≤ ct) := by
  obtain ⟨g1, g2, g3, g4, g5, g6, g7, g8⟩ := hF
  constructor
  · rcases g6 with e | ⟨j, hj, e, _, h1, h2⟩
    · exact Or.inl (e5.trans e.1)
    · exact Or.inr ⟨j, _, _, by omega, e5.trans e, h1, h2, by omega, by omega⟩
  · rcases g7 with e | ⟨j, hj, e, _, h1, h2⟩
    · exact Or.inl (e6.trans e.1)
    · exact Or.inr ⟨j, _, _, by omega, e6.trans e, h1, h2, by omega, by omega⟩
theorem at_pL2 {q : Rw} {N d n : Nat} {lev cr : Int32} (h : ¬ (q 8 n = -1 ∧ q 9 n = -1)) (hb : q 4 n = 1 ∧ lev = 0) : pAt (ML q N d) (PL q N d) q n lev cr 0 0 =
    (pNu (ML q N d) (PL q N d) q n lev cr 0 0).map (sft ((atW (ML q N d) q n lev cr - (mNu (ML q N d) q n lev cr).1) / 2) 0) ++ ((oL q N d (q 8 n) (scl lev) cr).map (sft ((atW (ML q N d) q n lev cr - (scU (ML q N d) q n lev cr).1) / 2) (atU (ML q N d) q n lev cr)) ++ (oL q N d (q 9 n) (scl lev) 1).map (sft ((atW (ML q N d) q n lev cr - (scL (ML q N d) q n lev).1) / 2) (-atD (ML q N d) q n lev cr))) := by
  rw [at_pL h hb]
  congr 1
  congr 1
  · by_cases e : q 8 n = -1
    · unfold oL; rw [if_pos e]; rfl
    · unfold scU; rw [if_neg e]
  · by_cases e : q 9 n = -1
    · unfold oL; rw [if_pos e]; rfl
    · unfold scL; rw [if_neg e]
theorem sc_vs {u : Rw} {x : Int32} {t : T3} {L : List It} {P : Nat → Prop} (h : (x = -1 ∧ L = []) ∨ ∃ j, j < 30 ∧ x = nI j ∧ BM u j t ∧ P j) : (if x = -1 then 0 else u 13 x.toNatClampNeg) = (if x = -1 then (0, 0, 0) else t).1 ∧ (if x = -1 then 0 else u 14 x.toNatClampNeg) = (if x = -1 then (0, 0, 0) else t).2.1 ∧ (if x = -1 then 0 else u 15 x.toNatClampNeg) = (if x = -1 then (0, 0, 0) else t).2.2 :=
  sc_v (h.imp And.left (fun ⟨j, h1, h2, h3, _⟩ => ⟨j, h1, h2, h3, trivial⟩)) rfl
/-- limits: the rows that placeLimits leaves -/
theorem sc_lm {q : Rw} {N d n c0 j0 : Nat} {lev cr : Int32} {Ln L1 L2 : List It} {r u : Rw} {f0 : Nat → Int32} (hF : SCF q n (q 8 n) (q 9 n) Ln L1 L2 (mNu (ML q N d) q n lev cr) (ML q N d (q 8 n) (scl lev) cr) (ML q N d (q 9 n) (scl lev) 1) r f0 c0 u) (e5 : u 5 n = q 8 n) (e6 : u 6 n = q 9 n) (hb : q 4 n = 1 ∧ lev = 0) :
    lmR u n c0 j0 (uni lev) = fnR u n c0 j0 (q 8 n) (q 9 n) ((atW (ML q N d) q n lev cr - (mNu (ML q N d) q n lev cr).1) / 2) ((atW (ML q N d) q n lev cr - (scU (ML q N d) q n lev cr).1) / 2) ((atW (ML q N d) q n lev cr - (scL (ML q N d) q n lev).1) / 2) (atU (ML q N d) q n lev cr) (atD (ML q N d) q n lev cr) (atW (ML q N d) q n lev cr) := by
  obtain ⟨g1, g2, g3, g4, g5, g6, g7, g8⟩ := hF
  have hv1 := sc_vs g6
  have hv2 := sc_vs g7
  have eU : atU (ML q N d) q n lev cr = (mNu (ML q N d) q n lev cr).2.1 + uni lev + (scU (ML q N d) q n lev cr).2.2 := by unfold atU; rw [if_pos hb]
  have eD : atD (ML q N d) q n lev cr = (mNu (ML q N d) q n lev cr).2.2 + uni lev + (scL (ML q N d) q n lev).2.1 := by unfold atD; rw [if_neg (fun h => h.1 hb)]; unfold atE; rw [if_pos hb]
  have eW : atW (ML q N d) q n lev cr = mx (mNu (ML q N d) q n lev cr).1 (mx (scU (ML q N d) q n lev cr).1 (scL (ML q N d) q n lev).1) := by unfold atW; rw [if_pos hb]
  unfold lmR fnR
  rw [e5, e6, hv1.1, hv1.2.2, hv2.1, hv2.2.1, g3.1, g3.2.1, g3.2.2, eU, eD, eW]
  rfl
theorem sc_B {U du E hl : Int32} : U - du - (hl - E) = U - du + E - hl := by
  rw [Int32.sub_eq_add_neg (a := U - du), Int32.neg_sub, Int32.sub_eq_add_neg E hl, ← Int32.add_assoc, ← Int32.sub_eq_add_neg]
theorem sc_sm {q : Rw} {N d n c0 j0 : Nat} {lev cr : Int32} {Ln L1 L2 : List It} {r u : Rw} {f0 : Nat → Int32} (hF : SCF q n (q 8 n) (q 9 n) Ln L1 L2 (mNu (ML q N d) q n lev cr) (ML q N d (q 8 n) (scl lev) cr) (ML q N d (q 9 n) (scl lev) 1) r f0 c0 u) (e5 : u 5 n = q 8 n) (e6 : u 6 n = q 9 n) (hb : ¬ (q 4 n = 1 ∧ lev = 0))
    (hBn : TB (mNu (ML q N d) q n lev cr) 300000000) (hB1 : ¬ q 8 n = -1 → TB (ML q N d (q 8 n) (scl lev) cr) 10000000) (hB2 : ¬ q 9 n = -1 → TB (ML q N d (q 9 n) (scl lev) 1) 10000000) :
    scR u n (uni lev) cr = fnR u n c0 j0 (q 8 n) (q 9 n) 0 (mNu (ML q N d) q n lev cr).1 (mNu (ML q N d) q n lev cr).1 (atU (ML q N d) q n lev cr) (atD (ML q N d) q n lev cr) (atW (ML q N d) q n lev cr) := by
  obtain ⟨g1, g2, g3, g4, g5, g6, g7, g8⟩ := hF
  have hv1 := sc_vs g6
  have hv2 := sc_vs g7
  have ez : (if cr = 0 then 4 * uni lev else 3 * uni lev) = (if cr = 0 then 4 else 3) * uni lev := by split <;> rfl
  have eU : mx (mx ((mNu (ML q N d) q n lev cr).2.1 - 2 * uni lev) (if cr = 0 then 4 * uni lev else 3 * uni lev)) ((scU (ML q N d) q n lev cr).2.2 + uni lev) = atU (ML q N d) q n lev cr := by unfold atU; rw [if_neg hb, mx_a, ez]
  have eE : mx (mx ((mNu (ML q N d) q n lev cr).2.2 + uni lev) (2 * uni lev)) ((scL (ML q N d) q n lev).2.1 - 4 * uni lev) = atE (ML q N d) q n lev cr := by unfold atE; rw [if_neg hb, mx_a]
  have eW : (mNu (ML q N d) q n lev cr).1 + mx (scU (ML q N d) q n lev cr).1 (scL (ML q N d) q n lev).1 + uni lev / 2 = atW (ML q N d) q n lev cr := by unfold atW; rw [if_neg hb]
  have b1 : TB (scU (ML q N d) q n lev cr) 10000000 := by
    unfold scU
    by_cases e : q 8 n = -1
    · rw [if_pos e]; exact ⟨by decide, by decide⟩
    · rw [if_neg e]; exact hB1 e
  have b2 : TB (scL (ML q N d) q n lev) 10000000 := by
    unfold scL
    by_cases e : q 9 n = -1
    · rw [if_pos e]; exact ⟨by decide, by decide⟩
    · rw [if_neg e]; exact hB2 e
  have eD : (if q 8 n = -1 then atE (ML q N d) q n lev cr else if q 9 n = -1 then atE (ML q N d) q n lev cr else atE (ML q N d) q n lev cr + mx 0 (uni lev - (atU (ML q N d) q n lev cr - (scU (ML q N d) q n lev cr).2.2 - ((scL (ML q N d) q n lev).2.1 - atE (ML q N d) q n lev cr)))) = atD (ML q N d) q n lev cr := by
    have hz : (uni lev).toInt = 10 ∨ (uni lev).toInt = 7 ∨ (uni lev).toInt = 5 := by rcases uni_v lev with e | e | e <;> rw [e] <;> decide
    have hz2 : (2 * uni lev).toInt = 2 * (uni lev).toInt := by rcases uni_v lev with e | e | e <;> rw [e] <;> decide
    have hz4 : (4 * uni lev).toInt = 4 * (uni lev).toInt := by rcases uni_v lev with e | e | e <;> rw [e] <;> decide
    have hz5 : 0 ≤ ((if cr = 0 then 4 else 3) * uni lev).toInt ∧ ((if cr = 0 then 4 else 3) * uni lev).toInt ≤ 40 := by
      split <;> rcases uni_v lev with e | e | e <;> rw [e] <;> decide
    obtain ⟨⟨n1, n2⟩, n3, n4⟩ := hBn
    obtain ⟨⟨p1, p2⟩, p3, p4⟩ := b1
    obtain ⟨⟨s1, s2⟩, s3, s4⟩ := b2
    have hU : -100 ≤ (atU (ML q N d) q n lev cr).toInt ∧ (atU (ML q N d) q n lev cr).toInt ≤ 400000000 := by
      unfold atU
      rw [if_neg hb, mx_t, mx_t, t_sub (by omega) (by omega), t_add (a := (scU (ML q N d) q n lev cr).2.2) (by omega) (by omega)]
      omega
    have hE : -100 ≤ (atE (ML q N d) q n lev cr).toInt ∧ (atE (ML q N d) q n lev cr).toInt ≤ 400000000 := by
      unfold atE
      rw [if_neg hb, mx_t, mx_t, t_add (by omega) (by omega), t_sub (by omega) (by omega)]
      omega
    have h1 : (atU (ML q N d) q n lev cr - (scU (ML q N d) q n lev cr).2.2).toInt = (atU (ML q N d) q n lev cr).toInt - (scU (ML q N d) q n lev cr).2.2.toInt := t_sub (by omega) (by omega)
    have h2 : (atU (ML q N d) q n lev cr - (scU (ML q N d) q n lev cr).2.2 + atE (ML q N d) q n lev cr).toInt = (atU (ML q N d) q n lev cr).toInt - (scU (ML q N d) q n lev cr).2.2.toInt + (atE (ML q N d) q n lev cr).toInt := by rw [t_add (by omega) (by omega), h1]
    have h3 : (atU (ML q N d) q n lev cr - (scU (ML q N d) q n lev cr).2.2 + atE (ML q N d) q n lev cr - (scL (ML q N d) q n lev).2.1).toInt = (atU (ML q N d) q n lev cr).toInt - (scU (ML q N d) q n lev cr).2.2.toInt + (atE (ML q N d) q n lev cr).toInt - (scL (ML q N d) q n lev).2.1.toInt := by rw [t_sub (by omega) (by omega), h2]
    rw [sc_B]
    unfold atD
    by_cases c8 : q 8 n = -1
    · rw [if_pos c8, if_neg (fun h => h.2.1 c8)]
    · rw [if_neg c8]
      by_cases c9 : q 9 n = -1
      · rw [if_pos c9, if_neg (fun h => h.2.2.1 c9)]
      · rw [if_neg c9, mx_g _ _ (by omega) (by omega) (by omega) (by omega)]
        by_cases hg : uni lev ≤ atB (ML q N d) q n lev cr
        · rw [if_neg (fun h => h hg), if_neg (fun h => h.2.2.2 hg)]
        · rw [if_pos (show ¬ uni lev ≤ atU (ML q N d) q n lev cr - (scU (ML q N d) q n lev cr).2.2 + atE (ML q N d) q n lev cr - (scL (ML q N d) q n lev).2.1 from hg), if_pos ⟨hb, c8, c9, hg⟩]
          rfl
  unfold scR fnR
  rw [shR_0, e5, e6, hv1.1, hv1.2.2, hv2.1, hv2.2.1, g3.1, g3.2.1, g3.2.2]
  show rU (plR (plR u (30 + n) (q 8 n) (mNu (ML q N d) q n lev cr).1 (mx (mx ((mNu (ML q N d) q n lev cr).2.1 - 2 * uni lev) (if cr = 0 then 4 * uni lev else 3 * uni lev)) ((scU (ML q N d) q n lev cr).2.2 + uni lev))) (30 + n) (q 9 n) (mNu (ML q N d) q n lev cr).1
    (-(if q 8 n = -1 then (mx (mx ((mNu (ML q N d) q n lev cr).2.2 + uni lev) (2 * uni lev)) ((scL (ML q N d) q n lev).2.1 - 4 * uni lev)) else if q 9 n = -1 then (mx (mx ((mNu (ML q N d) q n lev cr).2.2 + uni lev) (2 * uni lev)) ((scL (ML q N d) q n lev).2.1 - 4 * uni lev)) else (mx (mx ((mNu (ML q N d) q n lev cr).2.2 + uni lev) (2 * uni lev)) ((scL (ML q N d) q n lev).2.1 - 4 * uni lev)) + mx 0 (uni lev - ((mx (mx ((mNu (ML q N d) q n lev cr).2.1 - 2 * uni lev) (if cr = 0 then 4 * uni lev else 3 * uni lev)) ((scU (ML q N d) q n lev cr).2.2 + uni lev)) - (scU (ML q N d) q n lev cr).2.2 - ((scL (ML q N d) q n lev).2.1 - (mx (mx ((mNu (ML q N d) q n lev cr).2.2 + uni lev) (2 * uni lev)) ((scL (ML q N d) q n lev).2.1 - 4 * uni lev)))))))) 13 (upd (u 13) (30 + n) ((mNu (ML q N d) q n lev cr).1 + mx (scU (ML q N d) q n lev cr).1 (scL (ML q N d) q n lev).1 + uni lev / 2)) = _
  rw [eU, eE, eW, eD]
theorem at_fin {q : Rw} {N d n c0 : Nat} {lev cr : Int32} {r u : Rw} {f0 : Nat → Int32} (hn : n < 120) (hF : SCF q n (q 8 n) (q 9 n) (pNu (ML q N d) (PL q N d) q n lev cr 0 0) (oL q N d (q 8 n) (scl lev) cr) (oL q N d (q 9 n) (scl lev) 1) (mNu (ML q N d) q n lev cr) (ML q N d (q 8 n) (scl lev) cr) (ML q N d (q 9 n) (scl lev) 1) r f0 c0 u) (e5 : u 5 n = q 8 n) (e6 : u 6 n = q 9 n)
    (hlen : c0 + (pAt (ML q N d) (PL q N d) q n lev cr 0 0).length ≤ 150) (hne : ¬ (q 8 n = -1 ∧ q 9 n = -1)) (hBn : TB (mNu (ML q N d) q n lev cr) 300000000) (hB1 : ¬ q 8 n = -1 → TB (ML q N d (q 8 n) (scl lev) cr) 10000000) (hB2 : ¬ q 9 n = -1 → TB (ML q N d (q 9 n) (scl lev) 1) 10000000) :
    (q 4 n = 1 ∧ lev = 0 → ATP q r f0 n c0 (mAt (ML q N d) q n lev cr) (pAt (ML q N d) (PL q N d) q n lev cr 0 0) (lmR u n c0 (c0 + (pNu (ML q N d) (PL q N d) q n lev cr 0 0).length) (uni lev))) ∧ (¬ (q 4 n = 1 ∧ lev = 0) → ATP q r f0 n c0 (mAt (ML q N d) q n lev cr) (pAt (ML q N d) (PL q N d) q n lev cr 0 0) (scR u n (uni lev) cr)) := by
  have h0 : 0 ≤ (mNu (ML q N d) q n lev cr).2.1 := by rw [i_le, tI0]; exact hBn.1.1
  have h1 : 0 ≤ (mNu (ML q N d) q n lev cr).2.2 := by rw [i_le, tI0]; exact hBn.2.1
  have hl2 := hlen
  rw [at_len] at hl2
  constructor
  · intro hb
    rw [sc_lm hF e5 e6 hb, at_pL2 hne hb, at_li (P := PL q N d) hne, at_H, at_P]
    exact sc_fin hn hF (by omega) h0 h1
  · intro hb
    rw [sc_sm (c0 := c0) (j0 := c0 + (pNu (ML q N d) (PL q N d) q n lev cr 0 0).length) hF e5 e6 hb hBn hB1 hB2, at_pS hb, at_li (P := PL q N d) hne, at_H, at_P]
    exact sc_fin hn hF (by omega) h0 h1
