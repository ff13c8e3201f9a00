/-! an atom's box on the way, step by step -/
def PB (q r : Rw) (f : Nat → Int32) (n c : Nat) (L : List It) (H Dd : Int32) (u : Rw) : Prop :=
  SB r u ∧ u 19 = ptI f c L ∧ (u 14 (30 + n) = H ∧ u 15 (30 + n) = Dd) ∧ u 16 (30 + n) = nI c ∧ ∀ b, b < 150 → ¬ b = 30 + n → (∀ s j, FLD q n s j → bx q j b = false) → SX r u b
def LC (n : Nat) (u w : Rw) : Prop := ∀ b, ¬ b = 30 + n → SX u w b
theorem LC.tr {n : Nat} {u w x : Rw} (h : LC n u w) (h2 : LC n w x) : LC n u x := fun b hb => (h b hb).tr (h2 b hb)
theorem PB.eq {q r u : Rw} {f : Nat → Int32} {n c : Nat} {L L' : List It} {H Dd : Int32} (h : PB q r f n c L H Dd u) (e : L = L') : PB q r f n c L' H Dd u := e ▸ h
theorem PB.lc {q r u w : Rw} {f : Nat → Int32} {n c : Nat} {L L' : List It} {H Dd H' D' : Int32} (h : PB q r f n c L H Dd u) (hs : SB u w) (h19 : w 19 = ptI f c L') (h14 : w 14 (30 + n) = H') (h15 : w 15 (30 + n) = D') (h16 : w 16 (30 + n) = u 16 (30 + n)) (hl : LC n u w) : PB q r f n c L' H' D' w :=
  ⟨h.1.tr hs, h19, ⟨h14, h15⟩, h16.trans h.2.2.2.1, fun b hb hne hall => (h.2.2.2.2 b hb hne hall).tr (hl b hne)⟩
theorem lc_19 {n : Nat} {u : Rw} {g : Nat → Int32} : LC n u (rU u 19 g) := fun b hb => ⟨by rw [rU_n (by decide)], by rw [rU_n (by decide)], by rw [rU_n (by decide)], by rw [rU_n (by decide)], by rw [rU_n (by decide)]⟩
theorem lc_cv {n : Nat} {u : Rw} {y h d : Int32} : LC n u (cvR u (30 + n) y h d) := fun b hb => by
  unfold cvR
  refine ⟨?_, ?_, ?_, ?_, ?_⟩
  · rw [rU_n (by decide), rU_n (by decide)]
  · rw [rU_n (by decide), rU_s, pk_un hb]
  · rw [rU_s, pk_un hb]
  · rw [rU_n (by decide), rU_n (by decide)]
  · rw [rU_n (by decide), rU_n (by decide)]
theorem lc_pl {n : Nat} {u : Rw} {x X Y : Int32} : LC n u (plR u (30 + n) x X Y) := fun b hb => pl_sx hb
theorem sb_19 {u : Rw} {g : Nat → Int32} : SB u (rU u 19 g) := (SB.rf u).ru (by decide)
theorem pb_0 {q r : Rw} {n c : Nat} (h : BM r (30 + n) (0, 0, 0)) (h16 : r 16 (30 + n) = nI c) : PB q r (r 19) n c [] 0 0 r := ⟨SB.rf r, (ptI_nil _ _).symm, ⟨h.2.1, h.2.2⟩, h16, fun b _ _ _ => SX.rf r b⟩
theorem pb_it {q r u : Rw} {f : Nat → Int32} {n c c2 : Nat} {L : List It} {H Dd x y z : Int32} (h : PB q r f n c L H Dd u) (hc : c2 = c + L.length) : PB q r f n c (L ++ [mkI x 0 0 (u 19 (8 * c2 + 3)) (u 19 (8 * c2 + 4)) z y 0]) H Dd (itR u c2 x y z) := by
  unfold itR
  refine h.lc sb_19 ?_ ?_ ?_ ?_ lc_19
  · rw [rU_s, it_pt, ← ptI_app, ← hc, ← h.2.1]
  · rw [rU_n (by decide)]; exact h.2.2.1.1
  · rw [rU_n (by decide)]; exact h.2.2.1.2
  · rw [rU_n (by decide)]
theorem pb_ms {q r u : Rw} {f : Nat → Int32} {n c i : Nat} {A C : List It} {k x y s0 w0 tl nn sh s w H Dd : Int32} (h : PB q r f n c (A ++ mkI k x y s0 w0 tl nn sh :: C) H Dd u) (hi : i = c + A.length) : PB q r f n c (A ++ mkI k x y s w tl nn sh :: C) H Dd (msR u i s w) := by
  unfold msR
  refine h.lc sb_19 ?_ ?_ ?_ ?_ lc_19
  · rw [rU_s, h.2.1, ms_pt _ _ _ _ _ _ _ hi, ms_mk]
  · rw [rU_n (by decide)]; exact h.2.2.1.1
  · rw [rU_n (by decide)]; exact h.2.2.1.2
  · rw [rU_n (by decide)]
theorem pb_mk {q r u : Rw} {f : Nat → Int32} {n c i : Nat} {A C : List It} {k x y s w tl nn must lev H Dd : Int32} (h : PB q r f n c (A ++ mkI k x y s w tl nn 0 :: C) H Dd u) (hi : i = c + A.length) : PB q r f n c (A ++ mkI k x y s w tl nn (if 9 * must ≤ 10 * (uni lev * (6 + 4 * stp must lev)) then 0 else 1) :: C) H Dd (mkR u i must lev) := by
  unfold mkR
  refine h.lc sb_19 ?_ ?_ ?_ ?_ lc_19
  · rw [rU_s]
    by_cases e : 9 * must ≤ 10 * (uni lev * (6 + 4 * stp must lev))
    · rw [if_pos e, if_pos e]; exact h.2.1
    · rw [if_neg e, if_neg e, h.2.1, mk_pt _ _ _ _ _ hi, mk_mk]
  · rw [rU_n (by decide)]; exact h.2.2.1.1
  · rw [rU_n (by decide)]; exact h.2.2.1.2
  · rw [rU_n (by decide)]
theorem pb_cv {q r u : Rw} {f : Nat → Int32} {n c : Nat} {L : List It} {y o e H Dd : Int32} (h : PB q r f n c L H Dd u) : PB q r f n c L (mx H (y + o)) (mx Dd (e - y)) (cvR u (30 + n) y o e) := by
  refine h.lc ?_ ?_ ?_ ?_ ?_ lc_cv
  · unfold cvR; exact ((SB.rf u).ru (by decide)).ru (by decide)
  · unfold cvR; rw [rU_n (by decide), rU_n (by decide)]; exact h.2.1
  · unfold cvR; rw [rU_n (by decide), rU_s, pk_us, h.2.2.1.1, mx_c]
  · unfold cvR; rw [rU_s, pk_us, h.2.2.1.2, mx_c]
  · unfold cvR; rw [rU_n (by decide), rU_n (by decide)]
/-- a delimiter is chosen -/
theorem pb_sd {q r u : Rw} {f : Nat → Int32} {n c i : Nat} {A C : List It} {k x y s0 w0 tl nn must lev w o e H Dd : Int32} (h : PB q r f n c (A ++ mkI k x y s0 w0 tl nn 0 :: C) H Dd u) (hi : i = c + A.length) :
    PB q r f n c (A ++ mkI k x y (stp must lev) w tl nn (if 9 * must ≤ 10 * (uni lev * (6 + 4 * stp must lev)) then 0 else 1) :: C) (mx H (0 + o)) (mx Dd (e - 0)) (cvR (msR (mkR u i must lev) i (stp must lev) w) (30 + n) 0 o e) := pb_cv (pb_ms (pb_mk h hi) hi)
theorem lc_sd {u : Rw} {n i : Nat} {must lev s w o e : Int32} : LC n u (cvR (msR (mkR u i must lev) i s w) (30 + n) 0 o e) := by
  refine LC.tr ?_ lc_cv
  unfold msR
  refine LC.tr ?_ lc_19
  unfold mkR
  exact lc_19
theorem pb_pl {q r u : Rw} {f : Nat → Int32} {n c j : Nat} {A B C : List It} {X Y H Dd : Int32} {t : T3} (h : PB q r f n c (A ++ (B ++ C)) H Dd u) (hj : j < 30) (hB : BM u j t) (h16 : u 16 j = nI (c + A.length)) (h17 : u 17 j = nI (c + A.length + B.length)) (hl : c + A.length + B.length ≤ 150) :
    PB q r f n c (A ++ (B.map (sft X Y) ++ C)) (mx H (Y + t.2.1)) (mx Dd (t.2.2 - Y)) (plR u (30 + n) (nI j) X Y) := by
  refine h.lc (pl_sb (SB.rf u)) (pl_9 h.2.1 (Or.inr ⟨j, by omega, rfl, h16, h17⟩) hl) ?_ ?_ (by rw [pl_k (by omega)]) lc_pl
  · rw [pl_4, if_neg (nI_ne_m1 (by omega)), nI_clamp (by omega), hB.2.1, h.2.2.1.1, mx_c]
  · rw [pl_5, if_neg (nI_ne_m1 (by omega)), nI_clamp (by omega), hB.2.2, h.2.2.1.2, mx_c]
theorem pb_sh {q r u : Rw} {f : Nat → Int32} {n c i j : Nat} {A B C : List It} {X Y H Dd : Int32} (h : PB q r f n c (A ++ (B ++ C)) H Dd u) (hi : i = c + A.length) (hj : j = c + A.length + B.length) : PB q r f n c (A ++ (B.map (sft X Y) ++ C)) H Dd (shR u X Y i j) := by
  unfold shR
  refine h.lc sb_19 ?_ ?_ ?_ ?_ lc_19
  · rw [rU_s, h.2.1, sh_pt _ _ _ _ _ _ _ hi hj]
  · rw [rU_n (by decide)]; exact h.2.2.1.1
  · rw [rU_n (by decide)]; exact h.2.2.1.2
  · rw [rU_n (by decide)]
theorem pb_ll {q r u w : Rw} {N d : Nat} {dp sl : Nat → Nat} (hT : LY q N dp sl) {f : Nat → Int32} {n c c2 j k s : Nat} {L : List It} {lev cr H Dd : Int32} (h : PB q r f n c L H Dd u) (hn : n < N) (hk : k < 30) (e2 : q 2 n = nI k) (hf : FLD q n s j) (hc : c2 = c + L.length) (h2 : LLP q N d u j lev cr c2 w) : PB q r f n c (L ++ PL q N d (nI j) lev cr 0 0) H Dd w := by
  obtain ⟨a1, a2, a3, a4, a5, a6⟩ := h2
  have h9 := hT.1
  have sx := a6 (30 + n) (by omega) (bx_n hT hn hk e2 hf)
  refine ⟨h.1.tr a1, ?_, ⟨sx.2.1.trans h.2.2.1.1, sx.2.2.1.trans h.2.2.1.2⟩, sx.2.2.2.1.trans h.2.2.2.1, fun b hb hne hall => (h.2.2.2.2 b hb hne hall).tr (a6 b hb (hall s j hf))⟩
  rw [a2, h.2.1, hc, ptI_app]
theorem pb_at {q r u : Rw} {f : Nat → Int32} {n c : Nat} {L : List It} {W H Dd : Int32} (h : PB q r f n c L H Dd u) : ATP q r f n c (W, H, Dd) L (rU u 13 (upd (u 13) (30 + n) W)) := by
  refine ⟨h.1.ru (by decide), by rw [rU_n (by decide)]; exact h.2.1, ⟨by rw [rU_s, pk_us], by rw [rU_n (by decide)]; exact h.2.2.1.1, by rw [rU_n (by decide)]; exact h.2.2.1.2⟩, by rw [rU_n (by decide)]; exact h.2.2.2.1, fun b hb hne hall => (h.2.2.2.2 b hb hne hall).tr ⟨by rw [rU_s, pk_un hne], by rw [rU_n (by decide)], by rw [rU_n (by decide)], by rw [rU_n (by decide)], by rw [rU_n (by decide)]⟩⟩
theorem pb_t {q r u : Rw} {f : Nat → Int32} {n c i : Nat} {A C : List It} {k x y s w tl nn sh H Dd : Int32} (h : PB q r f n c (A ++ mkI k x y s w tl nn sh :: C) H Dd u) (hi : i = c + A.length) : u 19 (8 * i + 5) = tl := by
  rw [h.2.1, hi]
  unfold ptI
  rw [List.length_append, List.length_cons, if_pos (by omega), show (8 * (c + A.length) + 5) / 8 - c = A.length by omega, show (8 * (c + A.length) + 5) % 8 = 5 by omega, List.getD_eq_getElem?_getD, List.getElem?_append_right (Nat.le_refl _), Nat.sub_self]
  rfl
/-! the fence -/
theorem c_X3_setDelimiter_2 (l : Launch) (D : va_G) (cI : ClassId) (a : Nat → Nat) (v : Nat → Int32) (r : Nat → Nat → Int32) (b i ct : Nat) (lev must tl : Int32) (hct : v 4 = nI ct) (hct1 : ct ≤ 150) (hb0 : b < 150) (hi : i < ct) (ht : r 19 (8 * i + 5) = tl) : KD l D cI yX3_setDelimiter wsX3_setDelimiter ({ frames := 2, cells := 0, slots := 0, locals := 44 }) [.ref (a 20), .int (nI b), .int (nI i), .int lev, .int must] (wX cI a v r) (wX cI a v (cvR (msR (mkR r i must lev) i (stp must lev) (uni lev * (2 + rmd tl 3))) b 0 (2 * uni lev + tal (stp must lev) lev / 2) (tal (stp must lev) lev - (2 * uni lev + tal (stp must lev) lev / 2)))) (uni lev * (2 + rmd tl 3)) := by
  subst ht
  exact c_X3_setDelimiter_1 l D cI a v r b i ct lev must hct hct1 hb0 hi
theorem mx_3a (h o : Int32) : mx (mx (mx 0 (0 + o)) (0 + h)) (0 + o) = mx (mx h o) 0 := i_eq.mpr (by rw [Int32.zero_add, Int32.zero_add]; simp only [mx_t, tI0]; omega)
theorem mx_3b (h o : Int32) : mx (mx 0 (0 + o)) (0 + h) = mx (mx h o) 0 := i_eq.mpr (by rw [Int32.zero_add, Int32.zero_add]; simp only [mx_t, tI0]; omega)
theorem mx_3c (h o : Int32) : mx (mx 0 (0 + h)) (0 + o) = mx (mx h o) 0 := i_eq.mpr (by rw [Int32.zero_add, Int32.zero_add]; simp only [mx_t, tI0]; omega)
theorem mx_4a (h o : Int32) : mx (mx (mx 0 (o - 0)) (h - 0)) (o - 0) = mx (mx h o) 0 := i_eq.mpr (by rw [Int32.sub_zero, Int32.sub_zero]; simp only [mx_t, tI0]; omega)
theorem mx_4b (h o : Int32) : mx (mx 0 (o - 0)) (h - 0) = mx (mx h o) 0 := i_eq.mpr (by rw [Int32.sub_zero, Int32.sub_zero]; simp only [mx_t, tI0]; omega)
theorem mx_4c (h o : Int32) : mx (mx 0 (h - 0)) (o - 0) = mx (mx h o) 0 := i_eq.mpr (by rw [Int32.sub_zero, Int32.sub_zero]; simp only [mx_t, tI0]; omega)
theorem not_le0 {x : Int32} (h0 : 0 ≤ x) (h : ¬ x = 0) : ¬ x ≤ 0 := fun e => h (i_eq.mpr (by rw [i_le] at h0 e; omega))
theorem dlw_n {x lev : Int32} (h : ¬ x = 0) : dlw x lev = uni lev * (2 + rmd x 3) := by unfold dlw; rw [if_neg h]
theorem dlw_0 {lev : Int32} : dlw 0 lev = uni lev / 2 := by unfold dlw; rw [if_pos rfl]
theorem w_3 (w a b : Int32) : a + w + b = w + a + b := by rw [Int32.add_comm a w]
/-- the list of a fence's items -/
theorem pFe_l {q : Rw} {N d n j : Nat} {lev cr : Int32} (ej : q 6 n = nI j) : pFe (ML q N d) (PL q N d) q n lev cr 0 0 = (if q 5 n ≤ 0 then [] else [mkI 2 0 0 (stp (feN (ML q N d) q n lev cr) lev) (dlw (q 5 n) lev) (q 5 n) (nI n) (feS (ML q N d) q n lev cr)]) ++ (PL q N d (nI j) lev cr 0 0).map (sft (dlw (q 5 n) lev) 0) ++ (if q 7 n ≤ 0 then [] else [mkI 2 (dlw (q 5 n) lev + (ML q N d (nI j) lev cr).1) 0 (stp (feN (ML q N d) q n lev cr) lev) (dlw (q 7 n) lev) (q 7 n) (nI n) (feS (ML q N d) q n lev cr)]) := by
  rw [sh_P0]
  unfold pFe
  rw [ej, Int32.zero_add]
theorem pFe_len {q : Rw} {N d n j : Nat} {lev cr : Int32} (ej : q 6 n = nI j) : (pFe (ML q N d) (PL q N d) q n lev cr 0 0).length = (if q 5 n ≤ 0 then 0 else 1) + (PL q N d (nI j) lev cr 0 0).length + (if q 7 n ≤ 0 then 0 else 1) := by
  rw [pFe_l ej, List.length_append, List.length_append, List.length_map]
  congr 1
  · congr 1
    split <;> rfl
  · split <;> rfl
