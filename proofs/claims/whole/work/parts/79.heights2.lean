theorem if_mx {p1 p2 : Prop} [Decidable p1] [Decidable p2] (a b c : Int32) : 0 ≤ (if p2 then (if p1 then mx a 0 else mx (mx a 0) b) else mx (if p1 then mx a 0 else mx (mx a 0) b) c).toInt ∧ (if p2 then (if p1 then mx a 0 else mx (mx a 0) b) else mx (if p1 then mx a 0 else mx (mx a 0) b) c).toInt ≤ max (max (max a.toInt 0) b.toInt) c.toInt := by
  by_cases h1 : p1 <;> by_cases h2 : p2 <;> simp only [h1, h2, if_true, if_false, mx_t, tI0] <;> omega
/-- an atom with its scripts: its height and depth together -/
theorem at_sum {hn dn hu du hl dl U D H P : Int32} {z Bn Bu Bl : Int} (hz : 5 ≤ z ∧ z ≤ 10) (n1 : 0 ≤ hn.toInt) (n2 : 0 ≤ dn.toInt) (n3 : hn.toInt + dn.toInt ≤ Bn) (u1 : 0 ≤ hu.toInt) (u2 : 0 ≤ du.toInt) (u3 : hu.toInt + du.toInt ≤ Bu) (l1 : 0 ≤ hl.toInt) (l2 : 0 ≤ dl.toInt) (l3 : hl.toInt + dl.toInt ≤ Bl) (b1 : Bn ≤ 10000000) (b2 : Bu ≤ 10000000) (b3 : Bl ≤ 10000000)
    (hU : du.toInt + z ≤ U.toInt ∧ U.toInt ≤ hn.toInt + du.toInt + 50) (hD : 0 ≤ D.toInt ∧ D.toInt ≤ dn.toInt + hl.toInt + 30 ∧ hl.toInt - D.toInt ≤ hn.toInt + 60) (hH : H.toInt ≤ max (max (max hn.toInt 0) (U + hu).toInt) (hl - D).toInt) (hP : P.toInt ≤ max (max (max dn.toInt 0) (du - U).toInt) (dl + D).toInt) : H.toInt + P.toInt ≤ Bn + Bu + Bl + 300 := by
  have e1 : (U + hu).toInt = U.toInt + hu.toInt := t_add (by omega) (by omega)
  have e2 : (hl - D).toInt = hl.toInt - D.toInt := t_sub (by omega) (by omega)
  have e3 : (du - U).toInt = du.toInt - U.toInt := t_sub (by omega) (by omega)
  have e4 : (dl + D).toInt = dl.toInt + D.toInt := t_add (by omega) (by omega)
  rw [e1, e2] at hH
  rw [e3, e4] at hP
  omega
theorem at_ud {q : Rw} {N d n Bn Bu Bl : Nat} {lev cr : Int32} (hn : HB (mNu (ML q N d) q n lev cr) Bn) (hu : HB (scU (ML q N d) q n lev cr) Bu) (hl : HB (scL (ML q N d) q n lev) Bl) (b1 : Bn ≤ 10000000) (b2 : Bu ≤ 10000000) (b3 : Bl ≤ 10000000) :
    ((scU (ML q N d) q n lev cr).2.2.toInt + (uni lev).toInt ≤ (atU (ML q N d) q n lev cr).toInt ∧ (atU (ML q N d) q n lev cr).toInt ≤ (mNu (ML q N d) q n lev cr).2.1.toInt + (scU (ML q N d) q n lev cr).2.2.toInt + 50) ∧
    (0 ≤ (atD (ML q N d) q n lev cr).toInt ∧ (atD (ML q N d) q n lev cr).toInt ≤ (mNu (ML q N d) q n lev cr).2.2.toInt + (scL (ML q N d) q n lev).2.1.toInt + 30 ∧ (scL (ML q N d) q n lev).2.1.toInt - (atD (ML q N d) q n lev cr).toInt ≤ (mNu (ML q N d) q n lev cr).2.1.toInt + 60) := by
  obtain ⟨n1, n2, n3⟩ := hn
  obtain ⟨u1, u2, u3⟩ := hu
  obtain ⟨l1, l2, l3⟩ := hl
  have hz := uni_t lev
  have hz2 := uni_2 lev
  have hz4 : (4 * uni lev).toInt = 4 * (uni lev).toInt := by rcases uni_v lev with e | e | e <;> rw [e] <;> decide
  have hz5 : 0 ≤ ((if cr = 0 then 4 else 3) * uni lev).toInt ∧ ((if cr = 0 then 4 else 3) * uni lev).toInt ≤ 40 := by
    split <;> rcases uni_v lev with e | e | e <;> rw [e] <;> decide
  by_cases hb : q 4 n = 1 ∧ lev = 0
  · have e1 : ((mNu (ML q N d) q n lev cr).2.1 + uni lev).toInt = (mNu (ML q N d) q n lev cr).2.1.toInt + (uni lev).toInt := t_add (by omega) (by omega)
    have eU : (atU (ML q N d) q n lev cr).toInt = (mNu (ML q N d) q n lev cr).2.1.toInt + (uni lev).toInt + (scU (ML q N d) q n lev cr).2.2.toInt := by unfold atU; rw [if_pos hb, t_add (by omega) (by omega), e1]
    have e2 : ((mNu (ML q N d) q n lev cr).2.2 + uni lev).toInt = (mNu (ML q N d) q n lev cr).2.2.toInt + (uni lev).toInt := t_add (by omega) (by omega)
    have eD : (atD (ML q N d) q n lev cr).toInt = (mNu (ML q N d) q n lev cr).2.2.toInt + (uni lev).toInt + (scL (ML q N d) q n lev).2.1.toInt := by unfold atD; rw [if_neg (fun h => h.1 hb)]; unfold atE; rw [if_pos hb, t_add (by omega) (by omega), e2]
    omega
  · have eU : (atU (ML q N d) q n lev cr).toInt = max ((mNu (ML q N d) q n lev cr).2.1.toInt - 2 * (uni lev).toInt) (max ((if cr = 0 then 4 else 3) * uni lev).toInt ((scU (ML q N d) q n lev cr).2.2.toInt + (uni lev).toInt)) := by
      unfold atU; rw [if_neg hb, mx_t, mx_t, t_sub (by omega) (by omega), t_add (a := (scU (ML q N d) q n lev cr).2.2) (by omega) (by omega), hz2]
    have eE : (atE (ML q N d) q n lev cr).toInt = max ((mNu (ML q N d) q n lev cr).2.2.toInt + (uni lev).toInt) (max (2 * (uni lev).toInt) ((scL (ML q N d) q n lev).2.1.toInt - 4 * (uni lev).toInt)) := by
      unfold atE; rw [if_neg hb, mx_t, mx_t, t_add (by omega) (by omega), t_sub (by omega) (by omega), hz2, hz4]
    have h1 : (atU (ML q N d) q n lev cr - (scU (ML q N d) q n lev cr).2.2).toInt = (atU (ML q N d) q n lev cr).toInt - (scU (ML q N d) q n lev cr).2.2.toInt := t_sub (by omega) (by omega)
    have h2 : (atU (ML q N d) q n lev cr - (scU (ML q N d) q n lev cr).2.2 + atE (ML q N d) q n lev cr).toInt = (atU (ML q N d) q n lev cr).toInt - (scU (ML q N d) q n lev cr).2.2.toInt + (atE (ML q N d) q n lev cr).toInt := by rw [t_add (by omega) (by omega), h1]
    have hB : (atB (ML q N d) q n lev cr).toInt = (atU (ML q N d) q n lev cr).toInt - (scU (ML q N d) q n lev cr).2.2.toInt + (atE (ML q N d) q n lev cr).toInt - (scL (ML q N d) q n lev).2.1.toInt := by unfold atB; rw [t_sub (by omega) (by omega), h2]
    have h3 : (atE (ML q N d) q n lev cr + uni lev).toInt = (atE (ML q N d) q n lev cr).toInt + (uni lev).toInt := t_add (by omega) (by omega)
    have h4 : (atE (ML q N d) q n lev cr + uni lev - atB (ML q N d) q n lev cr).toInt = (atE (ML q N d) q n lev cr).toInt + (uni lev).toInt - (atB (ML q N d) q n lev cr).toInt := by rw [t_sub (by omega) (by omega), h3]
    have eD : (atD (ML q N d) q n lev cr).toInt = (atE (ML q N d) q n lev cr).toInt ∨ ((atD (ML q N d) q n lev cr).toInt = (atE (ML q N d) q n lev cr).toInt + (uni lev).toInt - (atB (ML q N d) q n lev cr).toInt ∧ (atB (ML q N d) q n lev cr).toInt < (uni lev).toInt) := by
      unfold atD
      by_cases hc : ¬ (q 4 n = 1 ∧ lev = 0) ∧ ¬ q 8 n = -1 ∧ ¬ q 9 n = -1 ∧ ¬ uni lev ≤ atB (ML q N d) q n lev cr
      · rw [if_pos hc]
        have hg := hc.2.2.2
        rw [i_le] at hg
        exact Or.inr ⟨h4, by omega⟩
      · rw [if_neg hc]; exact Or.inl rfl
    clear hz2 hz4 h1 h2 h3 h4
    rcases eD with eD | ⟨eD, hlt⟩
    · omega
    · omega
theorem hb_at {q : Rw} {N d n Bn Bu Bl : Nat} {lev cr : Int32} (hn : HB (mNu (ML q N d) q n lev cr) Bn) (hu : HB (scU (ML q N d) q n lev cr) Bu) (hl : HB (scL (ML q N d) q n lev) Bl) (b1 : Bn ≤ 10000000) (b2 : Bu ≤ 10000000) (b3 : Bl ≤ 10000000) : HB (mAt (ML q N d) q n lev cr) (Bn + Bu + Bl + 300) := by
  by_cases h : q 8 n = -1 ∧ q 9 n = -1
  · rw [(at_no (P := PL q N d) h).1]
    exact hn.mo (by omega)
  · rw [at_li (P := PL q N d) h]
    obtain ⟨hU, hD⟩ := at_ud hn hu hl b1 b2 b3
    have hz := uni_t lev
    have i1 := if_mx (p1 := q 8 n = -1) (p2 := q 9 n = -1) (mNu (ML q N d) q n lev cr).2.1 (atU (ML q N d) q n lev cr + (scU (ML q N d) q n lev cr).2.1) ((scL (ML q N d) q n lev).2.1 - atD (ML q N d) q n lev cr)
    have i2 := if_mx (p1 := q 8 n = -1) (p2 := q 9 n = -1) (mNu (ML q N d) q n lev cr).2.2 ((scU (ML q N d) q n lev cr).2.2 - atU (ML q N d) q n lev cr) ((scL (ML q N d) q n lev).2.2 + atD (ML q N d) q n lev cr)
    refine ⟨i1.1, i2.1, ?_⟩
    have := at_sum (z := (uni lev).toInt) (Bn := (Bn : Int)) (Bu := (Bu : Int)) (Bl := (Bl : Int)) (H := atH (ML q N d) q n lev cr) (P := atP (ML q N d) q n lev cr) (by omega) hn.1 hn.2.1 hn.2.2 hu.1 hu.2.1 hu.2.2 hl.1 hl.2.1 hl.2.2 (by omega) (by omega) (by omega) hU hD i1.2 i2.2
    show (atH (ML q N d) q n lev cr).toInt + (atP (ML q N d) q n lev cr).toInt ≤ _
    omega
theorem hb_node {q : Rw} {N d n : Nat} {dp sl : Nat → Nat} {lev cr : Int32} (hT : LY q N dp sl) (hn : n < N) (hna : ¬ q 3 n = 4) {g : Nat → Nat} (hg : ∀ j lev cr, j < 30 → HB (ML q N d (nI j) lev cr) (g j)) (hg2 : ∀ j, j < 30 → g j ≤ 1000000) (hf : fsm q n g ≤ 1000000) : HB (mAt (ML q N d) q n lev cr) (7000 + fsm q n g) := by
  obtain ⟨_, h8, h9, hnd⟩ := hT.2.2.2.2 n hn
  have hz : HB ((0, 0, 0) : T3) 0 := ⟨by decide, by decide, by decide⟩
  have e2 : HB (scU (ML q N d) q n lev cr) (tmF q n g 2) := by
    unfold scU
    rcases h8 with e | ⟨j, hj, e⟩
    · rw [if_pos e]; exact hz.mo (Nat.zero_le _)
    · rw [if_neg (by rw [e]; exact nI_ne_m1 (by omega)), e, tm_of hj (show fjV q n 2 = nI j from e)]; exact hg j _ _ hj
  have e3 : HB (scL (ML q N d) q n lev) (tmF q n g 3) := by
    unfold scL
    rcases h9 with e | ⟨j, hj, e⟩
    · rw [if_pos e]; exact hz.mo (Nat.zero_le _)
    · rw [if_neg (by rw [e]; exact nI_ne_m1 (by omega)), e, tm_of hj (show fjV q n 3 = nI j from e)]; exact hg j _ _ hj
  rw [fsm_e] at hf ⊢
  have e1 : HB (mNu (ML q N d) q n lev cr) (6000 + (tmF q n g 0 + tmF q n g 1 + smN (fun t => tmF q n g (4 + t)) 25)) := by
    unfold mNu
    rcases hnd with ⟨h3, h5, h6⟩ | ⟨h3, ⟨jo, hjo, eo⟩, ⟨ju, hju, eu⟩, _, h7⟩ | ⟨h3, ⟨j, hj, ej⟩, _⟩ | ⟨h3, R, C, eR, eC, a1, a2, a3, a4, hls⟩ | ⟨h3, _⟩
    · rw [if_pos h3]
      have a := si_H (k := q 4 n) (lev := lev) h5 h6
      have b := si_D (k := q 4 n) (lev := lev) (x := q 5 n)
      simp only [i_le] at a b
      have q98 : (98 : Int32).toInt = 98 := rfl
      have q28 : (28 : Int32).toInt = 28 := rfl
      rw [tI0, q98] at a
      rw [tI0, q28] at b
      refine ⟨a.1, b.1, ?_⟩
      show (sgz (q 4 n) lev * (5 + rmd (q 5 n) 3)).toInt + (if rmd (q 5 n) 4 = 3 then 2 * sgz (q 4 n) lev else 0).toInt ≤ _
      omega
    · rw [if_neg (by rw [h3]; decide), if_pos h3]
      have f0 : fjV q n 0 = nI jo := by unfold fjV; rw [if_pos rfl, if_pos h3]; exact eo
      have f1 : fjV q n 1 = nI ju := by unfold fjV; rw [if_neg (by decide), if_pos rfl, if_pos (Or.inl h3)]; exact eu
      rw [tm_of hjo f0, tm_of hju f1]
      exact (hb_fr (B1 := g jo) (B2 := g ju) h7 (by rw [eo]; exact hg jo _ _ hjo) (by rw [eu]; exact hg ju _ _ hju) (hg2 jo hjo) (hg2 ju hju)).mo (by omega)
    · rw [if_neg (by rw [h3]; decide), if_neg (by rw [h3]; decide), if_pos h3]
      have f1 : fjV q n 1 = nI j := by unfold fjV; rw [if_neg (by decide), if_pos rfl, if_pos (Or.inr h3)]; exact ej
      rw [tm_of hj f1]
      exact (hb_fe (B1 := g j) (by rw [ej]; exact hg j _ _ hj) (hg2 j hj)).mo (by omega)
    · rw [if_neg (by rw [h3]; decide), if_neg (by rw [h3]; decide), if_neg (by rw [h3]; decide)]
      have hRC : R * C ≤ 25 := Nat.mul_le_mul a2 a4
      have f4 : ∀ t, t < R * C → ∃ j, j < 30 ∧ q 10 (25 * n + t) = nI j ∧ tmF q n g (4 + t) = g j := fun t ht => by
        obtain ⟨j, hj, e⟩ := hls t ht
        refine ⟨j, hj, e, tm_of hj ?_⟩
        unfold fjV
        rw [if_neg (by omega), if_neg (by omega), if_neg (by omega), if_neg (by omega), if_pos ⟨h3, by rw [eR, eC, nI_clamp (by omega), nI_clamp (by omega), show 4 + t - 4 = t by omega]; exact ht⟩, show 4 + t - 4 = t by omega]
        exact e
      have := hb_ma (N := N) (d := d) (lev := lev) eR eC a1 a2 a3 a4 (B := fun t => tmF q n g (4 + t)) (fun t ht => by obtain ⟨j, hj, e, e4⟩ := f4 t ht; show HB _ (tmF q n g (4 + t)); rw [e4, e]; exact hg j _ _ hj) (fun t ht => by obtain ⟨j, hj, e, e4⟩ := f4 t ht; show tmF q n g (4 + t) ≤ _; rw [e4]; exact hg2 j hj)
      have b2 := sm_part (f := fun t => tmF q n g (4 + t)) hRC
      exact this.mo (by omega)
    · exact absurd h3 hna
  exact (hb_at e1 e2 e3 (by omega) (by omega) (by omega)).mo (by omega)
theorem hb_ml {q : Rw} {N : Nat} {dp sl : Nat → Nat} (hT : LY q N dp sl) : ∀ (d k : Nat) (lev cr : Int32), k < 30 → HB (ML q N d (nI k) lev cr) (wgG q N (fun _ => 7000) d k)
  | 0, _, _, _, _ => ⟨by show 0 ≤ (0 : Int32).toInt; decide, by show 0 ≤ (0 : Int32).toInt; decide, by show (0 : Int32).toInt + (0 : Int32).toInt ≤ _; rw [tI0]; exact Int.natCast_nonneg _⟩
  | d + 1, k, lev, cr, hk => by
    have h9 := hT.1
    have e7 : ∀ n, smN (fun _ => 7000) n = 7000 * n := by
      intro n
      induction n with
      | zero => rfl
      | succ n ih => rw [smN, ih]; omega
    have hall : ∀ d k, k < 30 → wgG q N (fun _ => 7000) d k ≤ 840000 := fun d k hk => by
      have h1 := Nat.le_trans (wg_le hT (fun _ => 7000) d k hk) (wg_all hT.1 _ k)
      rw [e7] at h1
      omega
    have htot := hall (d + 1) k hk
    have key : ∀ m, m ≤ N → 0 ≤ (lsS (ML q N d) q N (nI k) lev cr m).2.1.toInt ∧ 0 ≤ (lsS (ML q N d) q N (nI k) lev cr m).2.2.1.toInt ∧ (lsS (ML q N d) q N (nI k) lev cr m).2.1.toInt + (lsS (ML q N d) q N (nI k) lev cr m).2.2.1.toInt ≤ ((smN (fun n => if decide (q 2 n = nI k) = true then 7000 + fsm q n (wgG q N (fun _ => 7000) d) else 0) m : Nat) : Int) := by
      intro m
      induction m with
      | zero => intro _; exact ⟨by show 0 ≤ (0 : Int32).toInt; decide, by show 0 ≤ (0 : Int32).toInt; decide, by show (0 : Int32).toInt + (0 : Int32).toInt ≤ _; rw [tI0]; exact Int.natCast_nonneg _⟩
      | succ m ih =>
        intro hm
        obtain ⟨i1, i2, i3⟩ := ih (by omega)
        rw [smN]
        by_cases c1 : q 2 m = nI k
        · rw [if_pos (decide_eq_true c1)]
          by_cases c2 : q 3 m = 4
          · rw [(ls_style (N := N) (d := d) (lev := lev) (cr := cr) c1 c2).1]
            exact ⟨i1, i2, by show (lsS (ML q N d) q N (nI k) lev cr m).2.1.toInt + (lsS (ML q N d) q N (nI k) lev cr m).2.2.1.toInt ≤ _; omega⟩
          · have hp := sm_part (f := fun n => if decide (q 2 n = nI k) = true then 7000 + fsm q n (wgG q N (fun _ => 7000) d) else 0) (show m + 1 ≤ N from hm)
            rw [smN, if_pos (decide_eq_true c1)] at hp
            have hp2 : smN (fun n => if decide (q 2 n = nI k) = true then 7000 + fsm q n (wgG q N (fun _ => 7000) d) else 0) N ≤ 840000 := htot
            have := hb_node (lev := (lsS (ML q N d) q N (nI k) lev cr m).2.2.2.1) (cr := (lsS (ML q N d) q N (nI k) lev cr m).2.2.2.2) hT (show m < N by omega) c2 (g := wgG q N (fun _ => 7000) d) (fun j lev cr hj => hb_ml hT d j lev cr hj) (fun j hj => by have := hall d j hj; omega) (by omega)
            obtain ⟨j1, j2, j3⟩ := this
            rw [(ls_atom (N := N) (d := d) (lev := lev) (cr := cr) c1 c2).1]
            refine ⟨?_, ?_, ?_⟩
            · show 0 ≤ (mx _ _).toInt; rw [mx_t]; omega
            · show 0 ≤ (mx _ _).toInt; rw [mx_t]; omega
            · show (mx _ _).toInt + (mx _ _).toInt ≤ _; rw [mx_t, mx_t]; omega
        · rw [if_neg (by simp [c1]), (ls_skip (N := N) (d := d) (lev := lev) (cr := cr) c1).1]
          exact ⟨i1, i2, by omega⟩
    exact key N (Nat.le_refl _)
/-- THE MEASURES ARE SMALL, at every depth -/
theorem hbd_all {q : Rw} {N : Nat} {dp sl : Nat → Nat} (hT : LY q N dp sl) (d : Nat) : HBD q N dp d := fun j lev cr hj _ _ => by
  have e7 : ∀ n, smN (fun _ => 7000) n = 7000 * n := by
    intro n
    induction n with
    | zero => rfl
    | succ n ih => rw [smN, ih]; omega
  have h9 := hT.1
  have h1 := Nat.le_trans (wg_le hT (fun _ => 7000) d j hj) (wg_all hT.1 _ j)
  rw [e7] at h1
  obtain ⟨a1, a2, a3⟩ := hb_ml hT d j lev cr hj
  exact ⟨⟨a1, by omega⟩, a2, by omega⟩
/-- the reference's ranks -/
theorem hrk_of {q : Rw} {N : Nat} {dp sl : Nat → Nat} (hT : LY q N dp sl) : HRK q N (fun x => 29 - dp x.toNatClampNeg) := by
  intro n hn hna
  have h9 := hT.1
  obtain ⟨k, hk, e2⟩ := hT.2.1 n (by omega)
  have hf : ∀ s j, FLD q n s j → 29 - dp j < 29 - dp k := fun s j h => by
    obtain ⟨i1, i2, i3⟩ := fl_dp hT hn hk e2 h
    have := (hT.2.2.1 j i1).1
    omega
  have hz : ∀ s j x, j < 30 → x = nI j → FLD q n s j → (29 - dp x.toNatClampNeg) < 29 - dp (q 2 n).toNatClampNeg := fun s j x hj e h => by
    rw [e, e2, nI_clamp (by omega), nI_clamp (by omega)]; exact hf s j h
  obtain ⟨_, h8, h9', hnd⟩ := hT.2.2.2.2 n hn
  refine ⟨?_, fun h => ?_, fun h => ?_, fun h => ?_, fun h => ?_, fun h => ?_⟩
  · rcases hnd with g | g | g | g | g
    · exact Or.inl g.1
    · exact Or.inr (Or.inl g.1)
    · exact Or.inr (Or.inr (Or.inl g.1))
    · exact Or.inr (Or.inr (Or.inr g.1))
    · exact absurd g.1 hna
  · rcases hnd with g | g | g | g | g
    · exact absurd (h.symm.trans g.1) (by decide)
    · obtain ⟨_, ⟨jo, hjo, eo⟩, ⟨ju, hju, eu⟩, _⟩ := g
      exact ⟨hz 0 jo _ hjo eo ⟨hjo, Or.inl ⟨rfl, h, eo⟩⟩, hz 1 ju _ hju eu ⟨hju, Or.inr (Or.inl ⟨rfl, Or.inl h, eu⟩)⟩⟩
    · exact absurd (h.symm.trans g.1) (by decide)
    · exact absurd (h.symm.trans g.1) (by decide)
    · exact absurd (h.symm.trans g.1) (by decide)
  · rcases hnd with g | g | g | g | g
    · exact absurd (h.symm.trans g.1) (by decide)
    · exact absurd (h.symm.trans g.1) (by decide)
    · obtain ⟨_, ⟨j, hj, ej⟩, _⟩ := g
      exact hz 1 j _ hj ej ⟨hj, Or.inr (Or.inl ⟨rfl, Or.inr h, ej⟩)⟩
    · exact absurd (h.symm.trans g.1) (by decide)
    · exact absurd (h.symm.trans g.1) (by decide)
  · rcases hnd with g | g | g | g | g
    · exact absurd (h.symm.trans g.1) (by decide)
    · exact absurd (h.symm.trans g.1) (by decide)
    · exact absurd (h.symm.trans g.1) (by decide)
    · obtain ⟨_, R, C, eR, eC, a1, a2, a3, a4, hls⟩ := g
      refine ⟨R, C, eR, eC, a1, a2, a3, a4, fun t ht => ?_⟩
      obtain ⟨j, hj, e⟩ := hls t ht
      exact hz (4 + t) j _ hj e ⟨hj, Or.inr (Or.inr (Or.inr (Or.inr ⟨by omega, h, by rw [eR, eC, nI_clamp (by omega), nI_clamp (by omega), show 4 + t - 4 = t by omega]; exact ht, by rw [show 4 + t - 4 = t by omega]; exact e⟩)))⟩
    · exact absurd (h.symm.trans g.1) (by decide)
  · obtain ⟨j, hj, e⟩ := h8.resolve_left h
    exact hz 2 j _ hj e ⟨hj, Or.inr (Or.inr (Or.inl ⟨rfl, e⟩))⟩
  · obtain ⟨j, hj, e⟩ := h9'.resolve_left h
    exact hz 3 j _ hj e ⟨hj, Or.inr (Or.inr (Or.inr (Or.inl ⟨rfl, e⟩)))⟩
