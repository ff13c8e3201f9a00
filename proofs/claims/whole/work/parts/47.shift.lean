/-! ITEMS MOVED: the class lays out at 0, 0 and moves afterwards -/
def sft (X Y : Int32) (i : It) : It := fun j => if j = 1 then i 1 + X else if j = 2 then i 2 + Y else i j
def msI (i : It) (s w : Int32) : It := fun j => if j = 3 then s else if j = 4 then w else i j
def mkS (i : It) : It := fun j => if 7 ≤ j then 1 else i j
theorem sft_mk (X Y k x y s w c n h : Int32) : sft X Y (mkI k x y s w c n h) = mkI k (x + X) (y + Y) s w c n h := by
  funext j
  unfold sft
  by_cases h1 : j = 1
  · rw [if_pos h1, h1]; rfl
  · rw [if_neg h1]
    by_cases h2 : j = 2
    · rw [if_pos h2, h2]; rfl
    · rw [if_neg h2]
      match j, h1, h2 with
      | 0, _, _ => rfl
      | 1, h1, _ => exact absurd rfl h1
      | 2, _, h2 => exact absurd rfl h2
      | 3, _, _ => rfl
      | 4, _, _ => rfl
      | 5, _, _ => rfl
      | 6, _, _ => rfl
      | _ + 7, _, _ => rfl
theorem ms_mk (k x y s w c n h s' w' : Int32) : msI (mkI k x y s w c n h) s' w' = mkI k x y s' w' c n h := by
  funext j
  unfold msI
  by_cases h1 : j = 3
  · rw [if_pos h1, h1]; rfl
  · rw [if_neg h1]
    by_cases h2 : j = 4
    · rw [if_pos h2, h2]; rfl
    · rw [if_neg h2]
      match j, h1, h2 with
      | 0, _, _ => rfl
      | 1, _, _ => rfl
      | 2, _, _ => rfl
      | 3, h1, _ => exact absurd rfl h1
      | 4, _, h2 => exact absurd rfl h2
      | 5, _, _ => rfl
      | 6, _, _ => rfl
      | _ + 7, _, _ => rfl
theorem mk_mk (k x y s w c n h : Int32) : mkS (mkI k x y s w c n h) = mkI k x y s w c n 1 := by
  funext j
  unfold mkS
  match j with
  | 0 => rfl
  | 1 => rfl
  | 2 => rfl
  | 3 => rfl
  | 4 => rfl
  | 5 => rfl
  | 6 => rfl
  | j + 7 => rw [if_pos (by omega)]; rfl
theorem sh_pt (it : Nat → Int32) (c : Nat) (A B C : List It) (X Y : Int32) {i j : Nat} (hi : i = c + A.length) (hj : j = c + A.length + B.length) : shF (ptI it c (A ++ (B ++ C))) X Y i j = ptI it c (A ++ (B.map (sft X Y) ++ C)) := by
  subst hi hj
  funext k
  unfold shF ptI
  simp only [List.length_append, List.length_map]
  by_cases h1 : 8 * (c + A.length) ≤ k ∧ k < 8 * (c + A.length + B.length)
  · have hh : 8 * c ≤ k ∧ k < 8 * (c + (A.length + (B.length + C.length))) := by omega
    simp only [if_pos h1, if_pos hh]
    have e1 : (A ++ (B ++ C)).getD (k / 8 - c) (fun _ => 0) = B.getD (k / 8 - c - A.length) (fun _ => 0) := by
      rw [List.getD_eq_getElem?_getD, List.getD_eq_getElem?_getD, List.getElem?_append_right (by omega), List.getElem?_append_left (by omega)]
    have e2 : (A ++ (B.map (sft X Y) ++ C)).getD (k / 8 - c) (fun _ => 0) = sft X Y (B.getD (k / 8 - c - A.length) (fun _ => 0)) := by
      have hb : k / 8 - c - A.length < B.length := by omega
      rw [List.getD_eq_getElem?_getD, List.getD_eq_getElem?_getD, List.getElem?_append_right (by omega), List.getElem?_append_left (by rw [List.length_map]; omega), List.getElem?_map, List.getElem?_eq_getElem hb]
      rfl
    rw [e1, e2]
    unfold sft
    by_cases q1 : k % 8 = 1
    · rw [if_pos q1, if_pos q1, q1]
    · rw [if_neg q1, if_neg q1]
      by_cases q2 : k % 8 = 2
      · rw [if_pos q2, if_pos q2, q2]
      · rw [if_neg q2, if_neg q2]
  · rw [if_neg h1]
    by_cases h2 : 8 * c ≤ k ∧ k < 8 * (c + (A.length + (B.length + C.length)))
    · rw [if_pos h2, if_pos h2]
      by_cases h3 : k < 8 * (c + A.length)
      · rw [List.getD_eq_getElem?_getD, List.getD_eq_getElem?_getD, List.getElem?_append_left (by omega), List.getElem?_append_left (by omega)]
      · rw [List.getD_eq_getElem?_getD, List.getD_eq_getElem?_getD, List.getElem?_append_right (by omega), List.getElem?_append_right (by omega), List.getElem?_append_right (by omega), List.getElem?_append_right (by rw [List.length_map]; omega), List.length_map]
    · rw [if_neg h2, if_neg h2]
theorem up_pt (it : Nat → Int32) (c : Nat) (A : List It) (i : It) (C : List It) (p : Nat) (x : Int32) (i' : It) (hp : p < 8) (h1 : i' p = x) (h2 : ∀ j, j < 8 → ¬ j = p → i' j = i j) : upd (ptI it c (A ++ i :: C)) (8 * (c + A.length) + p) x = ptI it c (A ++ i' :: C) := by
  funext k
  unfold upd ptI
  simp only [List.length_append, List.length_cons]
  by_cases h : k = 8 * (c + A.length) + p
  · rw [if_pos h, if_pos (by omega), show k / 8 - c = A.length by omega, show k % 8 = p by omega, List.getD_eq_getElem?_getD, List.getElem?_append_right (Nat.le_refl _), Nat.sub_self]
    exact h1.symm
  · rw [if_neg h]
    by_cases h3 : 8 * c ≤ k ∧ k < 8 * (c + (A.length + (C.length + 1)))
    · rw [if_pos h3, if_pos h3]
      by_cases h4 : k / 8 - c = A.length
      · rw [h4, List.getD_eq_getElem?_getD, List.getD_eq_getElem?_getD, List.getElem?_append_right (Nat.le_refl _), List.getElem?_append_right (Nat.le_refl _), Nat.sub_self]
        exact (h2 (k % 8) (by omega) (by omega)).symm
      · by_cases h5 : k / 8 - c < A.length
        · rw [List.getD_eq_getElem?_getD, List.getD_eq_getElem?_getD, List.getElem?_append_left h5, List.getElem?_append_left h5]
        · obtain ⟨t, ht⟩ : ∃ t, k / 8 - c - A.length = t + 1 := ⟨k / 8 - c - A.length - 1, by omega⟩
          rw [List.getD_eq_getElem?_getD, List.getD_eq_getElem?_getD, List.getElem?_append_right (by omega), List.getElem?_append_right (by omega), ht]
          rfl
    · rw [if_neg h3, if_neg h3]
theorem ms_pt (it : Nat → Int32) (c : Nat) (A : List It) (i : It) (C : List It) (s w : Int32) {k : Nat} (hk : k = c + A.length) : upd (upd (ptI it c (A ++ i :: C)) (8 * k + 3) s) (8 * k + 4) w = ptI it c (A ++ msI i s w :: C) := by
  subst hk
  rw [up_pt it c A i C 3 s (fun j => if j = 3 then s else i j) (by omega) rfl (fun j _ h => if_neg h)]
  exact up_pt it c A _ C 4 w (msI i s w) (by omega) rfl (fun j _ h => by unfold msI; by_cases q : j = 3; rw [if_pos q, if_pos q]; rw [if_neg q, if_neg q, if_neg h])
theorem mk_pt (it : Nat → Int32) (c : Nat) (A : List It) (i : It) (C : List It) {k : Nat} (hk : k = c + A.length) : upd (ptI it c (A ++ i :: C)) (8 * k + 7) 1 = ptI it c (A ++ mkS i :: C) := by
  subst hk
  exact up_pt it c A i C 7 1 (mkS i) (by omega) rfl (fun j h1 h => by unfold mkS; rw [if_neg (by omega)])
/-- an item added to a row, its size and width as they were -/
theorem it_pt (f : Nat → Int32) (c : Nat) (x y z : Int32) : upd (upd (upd (upd (upd (upd f (8 * c) x) (8 * c + 1) 0) (8 * c + 2) 0) (8 * c + 5) z) (8 * c + 6) y) (8 * c + 7) 0 = ptI f c [mkI x 0 0 (f (8 * c + 3)) (f (8 * c + 4)) z y 0] := by
  funext j
  unfold ptI
  by_cases h1 : 8 * c ≤ j ∧ j < 8 * (c + [mkI x 0 0 (f (8 * c + 3)) (f (8 * c + 4)) z y 0].length)
  · rw [if_pos h1]
    simp only [List.length_singleton] at h1
    rw [show j / 8 - c = 0 by omega]
    show _ = mkI x 0 0 (f (8 * c + 3)) (f (8 * c + 4)) z y 0 (j % 8)
    rcases (show j = 8 * c ∨ j = 8 * c + 1 ∨ j = 8 * c + 2 ∨ j = 8 * c + 3 ∨ j = 8 * c + 4 ∨ j = 8 * c + 5 ∨ j = 8 * c + 6 ∨ j = 8 * c + 7 by omega) with q | q | q | q | q | q | q | q
    · rw [show j % 8 = 0 by omega, q]; simp [upd, mkI]
    · rw [show j % 8 = 1 by omega, q]; simp [upd, mkI]
    · rw [show j % 8 = 2 by omega, q]; simp [upd, mkI]
    · rw [show j % 8 = 3 by omega, q]; simp [upd, mkI]
    · rw [show j % 8 = 4 by omega, q]; simp [upd, mkI]
    · rw [show j % 8 = 5 by omega, q]; simp [upd, mkI]
    · rw [show j % 8 = 6 by omega, q]; simp [upd, mkI]
    · rw [show j % 8 = 7 by omega, q]; simp [upd, mkI]
  · rw [if_neg h1]
    simp only [List.length_singleton] at h1
    rw [pk_un (by omega), pk_un (by omega), pk_un (by omega), pk_un (by omega), pk_un (by omega), pk_un (by omega)]
/-- a placing that moves as a whole -/
def SH (P : TP) : Prop := ∀ l lev cr x y X Y, (P l lev cr x y).map (sft X Y) = P l lev cr (x + X) (y + Y)
theorem a_ac (x A X : Int32) : x + A + X = x + X + A := by rw [Int32.add_assoc, Int32.add_comm A X, ← Int32.add_assoc]
theorem a_sc (x A X : Int32) : x - A + X = x + X - A := by rw [Int32.sub_eq_add_neg, Int32.sub_eq_add_neg, a_ac]
theorem sh_aa {P : TP} (hP : SH P) (l lev cr x y A B X Y : Int32) : (P l lev cr (x + A) (y + B)).map (sft X Y) = P l lev cr (x + X + A) (y + Y + B) := by rw [hP, a_ac x A X, a_ac y B Y]
theorem sh_as {P : TP} (hP : SH P) (l lev cr x y A B X Y : Int32) : (P l lev cr (x + A) (y - B)).map (sft X Y) = P l lev cr (x + X + A) (y + Y - B) := by rw [hP, a_ac x A X, a_sc y B Y]
theorem sh_a0 {P : TP} (hP : SH P) (l lev cr x y A X Y : Int32) : (P l lev cr (x + A) y).map (sft X Y) = P l lev cr (x + X + A) (y + Y) := by rw [hP, a_ac x A X]
theorem sh_si {r : Nat → Nat → Int32} {n : Nat} {lev x y X Y : Int32} : (pSi r n lev x y).map (sft X Y) = pSi r n lev (x + X) (y + Y) := by
  unfold pSi
  rw [List.map_singleton, sft_mk]
theorem sh_fr {M : TM} {P : TP} (hP : SH P) {r : Nat → Nat → Int32} {n : Nat} {lev cr x y X Y : Int32} : (pFr M P r n lev cr x y).map (sft X Y) = pFr M P r n lev cr (x + X) (y + Y) := by
  unfold pFr
  rw [List.map_append, List.map_append, sh_aa hP, sh_as hP]
  congr 1
  by_cases h : frT r n lev ≤ 0
  · rw [if_pos h, if_pos h]; rfl
  · rw [if_neg h, if_neg h, List.map_singleton, sft_mk, a_sc _ _ Y, a_ac y _ Y]
theorem sh_fe {M : TM} {P : TP} (hP : SH P) {r : Nat → Nat → Int32} {n : Nat} {lev cr x y X Y : Int32} : (pFe M P r n lev cr x y).map (sft X Y) = pFe M P r n lev cr (x + X) (y + Y) := by
  unfold pFe
  rw [List.map_append, List.map_append, sh_a0 hP]
  congr 1
  · congr 1
    by_cases h : r 5 n ≤ 0
    · rw [if_pos h, if_pos h]; rfl
    · rw [if_neg h, if_neg h, List.map_singleton, sft_mk]
  · by_cases h : r 7 n ≤ 0
    · rw [if_pos h, if_pos h]; rfl
    · rw [if_neg h, if_neg h, List.map_singleton, sft_mk, a_ac _ _ X, a_ac x _ X]
theorem sh_mc {M : TM} {P : TP} (hP : SH P) {r : Nat → Nat → Int32} {n C : Nat} {lev : Int32} {g : Nat → Int32} {rr : Nat} {x line X Y : Int32} : ∀ c, (pMc M P r n C lev g rr (x + X) (line + Y) c).1 = (pMc M P r n C lev g rr x line c).1 + X ∧ (pMc M P r n C lev g rr (x + X) (line + Y) c).2 = (pMc M P r n C lev g rr x line c).2.map (sft X Y)
  | 0 => ⟨rfl, rfl⟩
  | c + 1 => by
    obtain ⟨h1, h2⟩ := sh_mc hP (r := r) (n := n) (C := C) (lev := lev) (g := g) (rr := rr) (x := x) (line := line) (X := X) (Y := Y) (M := M) c
    constructor
    · show (pMc M P r n C lev g rr (x + X) (line + Y) c).1 + g c + 3 * uni lev = (pMc M P r n C lev g rr x line c).1 + g c + 3 * uni lev + X
      rw [h1, a_ac _ X (g c), a_ac _ X (3 * uni lev)]
    · show (pMc M P r n C lev g rr (x + X) (line + Y) c).2 ++ P _ _ _ ((pMc M P r n C lev g rr (x + X) (line + Y) c).1 + _) _ = List.map _ ((pMc M P r n C lev g rr x line c).2 ++ P _ _ _ ((pMc M P r n C lev g rr x line c).1 + _) _)
      rw [h1, h2, List.map_append, sh_a0 hP]
theorem sh_mr {M : TM} {P : TP} (hP : SH P) {r : Nat → Nat → Int32} {n C : Nat} {lev : Int32} {g : Nat → Int32} {x l0 X Y : Int32} : ∀ k, (pMr M P r n C lev g (x + X) (l0 + Y) k).1 = (pMr M P r n C lev g x l0 k).1 + Y ∧ (pMr M P r n C lev g (x + X) (l0 + Y) k).2 = (pMr M P r n C lev g x l0 k).2.map (sft X Y)
  | 0 => ⟨rfl, rfl⟩
  | k + 1 => by
    obtain ⟨h1, h2⟩ := sh_mr hP (r := r) (n := n) (C := C) (lev := lev) (g := g) (x := x) (l0 := l0) (X := X) (Y := Y) (M := M) k
    constructor
    · show (pMr M P r n C lev g (x + X) (l0 + Y) k).1 - g (5 + k) - g (10 + k) - 2 * uni lev = (pMr M P r n C lev g x l0 k).1 - g (5 + k) - g (10 + k) - 2 * uni lev + Y
      rw [h1, a_sc _ _ Y, a_sc _ _ Y, a_sc _ _ Y]
    · show (pMr M P r n C lev g (x + X) (l0 + Y) k).2 ++ (pMc M P r n C lev g k (x + X) ((pMr M P r n C lev g (x + X) (l0 + Y) k).1 - g (5 + k)) C).2 = List.map _ ((pMr M P r n C lev g x l0 k).2 ++ (pMc M P r n C lev g k x ((pMr M P r n C lev g x l0 k).1 - g (5 + k)) C).2)
      rw [h1, h2, List.map_append, ← a_sc, (sh_mc hP C).2]
theorem sh_ma {M : TM} {P : TP} (hP : SH P) {r : Nat → Nat → Int32} {n : Nat} {lev x y X Y : Int32} : (pMa M P r n lev x y).map (sft X Y) = pMa M P r n lev (x + X) (y + Y) := by
  unfold pMa
  rw [← (sh_mr hP _).2, a_ac y _ Y]
theorem sh_nu {M : TM} {P : TP} (hP : SH P) {r : Nat → Nat → Int32} {n : Nat} {lev cr x y X Y : Int32} : (pNu M P r n lev cr x y).map (sft X Y) = pNu M P r n lev cr (x + X) (y + Y) := by
  unfold pNu
  by_cases h0 : r 3 n = 0
  · rw [if_pos h0, if_pos h0, sh_si]
  · rw [if_neg h0, if_neg h0]
    by_cases h1 : r 3 n = 1
    · rw [if_pos h1, if_pos h1, sh_fr hP]
    · rw [if_neg h1, if_neg h1]
      by_cases h2 : r 3 n = 2
      · rw [if_pos h2, if_pos h2, sh_fe hP]
      · rw [if_neg h2, if_neg h2, sh_ma hP]
theorem sh_at9 {M : TM} {P : TP} (hP : SH P) {r : Nat → Nat → Int32} {n : Nat} {lev cr x y X Y : Int32} : (pAt M P r n lev cr x y).map (sft X Y) = pAt M P r n lev cr (x + X) (y + Y) := by
  unfold pAt
  rw [List.map_append, List.map_append, sh_nu hP]
  congr 1
  · congr 1
    · congr 1
      by_cases h : isL r n lev = true
      · rw [if_pos h, if_pos h, a_ac x _ X]
      · rw [if_neg h, if_neg h]
    · by_cases h : r 8 n = -1
      · rw [if_pos h, if_pos h]; rfl
      · rw [if_neg h, if_neg h, sh_aa hP]
  · by_cases h : r 9 n = -1
    · rw [if_pos h, if_pos h]; rfl
    · rw [if_neg h, if_neg h, sh_as hP]
theorem sh_ls {M : TM} {P : TP} (hP : SH P) {r : Nat → Nat → Int32} {N : Nat} {l lev cr x y X Y : Int32} : ∀ k, (plS M P r N l lev cr x y k).map (sft X Y) = plS M P r N l lev cr (x + X) (y + Y) k
  | 0 => rfl
  | k + 1 => by
    have ih := sh_ls hP (M := M) (r := r) (N := N) (l := l) (lev := lev) (cr := cr) (x := x) (y := y) (X := X) (Y := Y) k
    rw [plS, plS]
    by_cases h1 : r 2 k = l
    · simp only [if_pos h1]
      by_cases h2 : r 3 k = 4
      · simp only [if_pos h2]; exact ih
      · simp only [if_neg h2]
        rw [List.map_append, ih, sh_at9 hP, a_ac _ _ X, a_ac x _ X]
    · simp only [if_neg h1]; exact ih
/-- THE PLACING MOVES AS A WHOLE -/
theorem sh_PL (r : Nat → Nat → Int32) (N : Nat) : ∀ d, SH (PL r N d)
  | 0 => fun _ _ _ _ _ _ _ => rfl
  | d + 1 => fun _ _ _ _ _ _ _ => sh_ls (sh_PL r N d) N
theorem z_add (x : Int32) : 0 + x = x := Int32.zero_add x
theorem sh_P0 (r : Nat → Nat → Int32) (N d : Nat) (l lev cr X Y : Int32) : (PL r N d l lev cr 0 0).map (sft X Y) = PL r N d l lev cr X Y := by rw [sh_PL, z_add, z_add]
theorem wX_r {cI : ClassId} {a : Nat → Nat} {v v' : Nat → Int32} {R S : Nat → Nat → Int32} (h0 : v 0 = v' 0) (h1 : v 1 = v' 1) (h2 : v 2 = v' 2) (h3 : v 3 = v' 3) (h4 : v 4 = v' 4) (h5 : v 5 = v' 5) (h6 : v 6 = v' 6) (h7 : v 7 = v' 7)
    (g2 : R 2 = S 2) (g3 : R 3 = S 3) (g4 : R 4 = S 4) (g5 : R 5 = S 5) (g6 : R 6 = S 6) (g7 : R 7 = S 7) (g8 : R 8 = S 8) (g9 : R 9 = S 9) (g10 : R 10 = S 10) (g11 : R 11 = S 11) (g13 : R 13 = S 13) (g14 : R 14 = S 14) (g15 : R 15 = S 15) (g16 : R 16 = S 16) (g17 : R 17 = S 17) (g19 : R 19 = S 19) : wX cI a v R = wX cI a v' S := by
  unfold wX
  rw [h0, h1, h2, h3, h4, h5, h6, h7, g2, g3, g4, g5, g6, g7, g8, g9, g10, g11, g13, g14, g15, g16, g17, g19]
