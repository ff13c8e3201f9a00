/-! PLACES, as the reference gives them: the items in their order, each with eight parts -/
abbrev It : Type := Nat → Int32
def mkI (k x y s w c n h : Int32) : It := fun j => match j with
  | 0 => k
  | 1 => x
  | 2 => y
  | 3 => s
  | 4 => w
  | 5 => c
  | 6 => n
  | _ => h
/-- the items L laid into a row from the place c on -/
def ptI (it : Nat → Int32) (c : Nat) (L : List It) : Nat → Int32 := fun j => if 8 * c ≤ j ∧ j < 8 * (c + L.length) then (L.getD (j / 8 - c) (fun _ => 0)) (j % 8) else it j
theorem ptI_nil (it : Nat → Int32) (c : Nat) : ptI it c [] = it := by
  funext j
  unfold ptI
  rw [if_neg (fun h => by have h1 := h.2; rw [List.length_nil] at h1; omega)]
theorem ptI_app (it : Nat → Int32) (c : Nat) (L K : List It) : ptI (ptI it c L) (c + L.length) K = ptI it c (L ++ K) := by
  funext j
  unfold ptI
  simp only [List.length_append]
  by_cases h1 : 8 * (c + L.length) ≤ j ∧ j < 8 * (c + L.length + K.length)
  · rw [if_pos h1, if_pos (by omega), List.getD_eq_getElem?_getD, List.getD_eq_getElem?_getD, List.getElem?_append_right (by omega), show j / 8 - c - L.length = j / 8 - (c + L.length) by omega]
  · rw [if_neg h1]
    by_cases h2 : 8 * c ≤ j ∧ j < 8 * (c + L.length)
    · rw [if_pos h2, if_pos (by omega), List.getD_eq_getElem?_getD, List.getD_eq_getElem?_getD, List.getElem?_append_left (by omega)]
    · rw [if_neg h2, if_neg (by omega)]
theorem ptI_one (it : Nat → Int32) (c : Nat) (k x y s w o n h : Int32) : upd (upd (upd (upd (upd (upd (upd (upd it (8 * c) k) (8 * c + 1) x) (8 * c + 2) y) (8 * c + 3) s) (8 * c + 4) w) (8 * c + 5) o) (8 * c + 6) n) (8 * c + 7) h = ptI it c [mkI k x y s w o n h] := by
  funext j
  unfold ptI
  by_cases h1 : 8 * c ≤ j ∧ j < 8 * (c + [mkI k x y s w o n h].length)
  · rw [if_pos h1]
    simp only [List.length_singleton] at h1
    rw [show j / 8 - c = 0 by omega]
    show _ = mkI k x y s w o n h (j % 8)
    rcases (show j = 8 * c ∨ j = 8 * c + 1 ∨ j = 8 * c + 2 ∨ j = 8 * c + 3 ∨ j = 8 * c + 4 ∨ j = 8 * c + 5 ∨ j = 8 * c + 6 ∨ j = 8 * c + 7 by omega) with q | q | q | q | q | q | q | q
    · rw [show j % 8 = 0 by omega, q]; simp [upd, mkI]
    · rw [show j % 8 = 1 by omega, q]; simp [upd, mkI]
    · rw [show j % 8 = 2 by omega, q]; simp [upd, mkI]
    · rw [show j % 8 = 3 by omega, q]; simp [upd, mkI]
    · rw [show j % 8 = 4 by omega, q]; simp [upd, mkI]
    · rw [show j % 8 = 5 by omega, q]; simp [upd, mkI]
    · rw [show j % 8 = 6 by omega, q]; simp [upd, mkI]
    · rw [show j % 8 = 7 by omega, q]; simp [upd, mkI]
  · rw [if_neg h1]
    simp only [List.length_singleton] at h1
    rw [pk_un (by omega), pk_un (by omega), pk_un (by omega), pk_un (by omega), pk_un (by omega), pk_un (by omega), pk_un (by omega), pk_un (by omega)]
abbrev TM : Type := Int32 → Int32 → Int32 → T3
abbrev TP : Type := Int32 → Int32 → Int32 → Int32 → Int32 → List It
def pSi (r : Nat → Nat → Int32) (n : Nat) (lev x y : Int32) : List It := [mkI 0 x y (sgz (r 4 n) lev) (sgz (r 4 n) lev * (4 + rmd (r 5 n) 5)) (r 5 n) (nI n) 0]
def pFr (M : TM) (P : TP) (r : Nat → Nat → Int32) (n : Nat) (lev cr x y : Int32) : List It :=
  P (r 5 n) (ptl lev) cr (x + ((mFr M r n lev cr).1 - (M (r 5 n) (ptl lev) cr).1) / 2) (y + frU M r n lev cr) ++
  P (r 6 n) (ptl lev) 1 (x + ((mFr M r n lev cr).1 - (M (r 6 n) (ptl lev) 1).1) / 2) (y - frD M r n lev) ++
  (if frT r n lev ≤ 0 then [] else [mkI 1 x (y + 2 * uni lev - (frT r n lev - frT r n lev / 2)) (frT r n lev) (mFr M r n lev cr).1 0 (nI n) 0])
def feS (M : TM) (r : Nat → Nat → Int32) (n : Nat) (lev cr : Int32) : Int32 := if 9 * feN M r n lev cr ≤ 10 * tal (stp (feN M r n lev cr) lev) lev then 0 else 1
def pFe (M : TM) (P : TP) (r : Nat → Nat → Int32) (n : Nat) (lev cr x y : Int32) : List It :=
  (if r 5 n ≤ 0 then [] else [mkI 2 x y (stp (feN M r n lev cr) lev) (dlw (r 5 n) lev) (r 5 n) (nI n) (feS M r n lev cr)]) ++
  P (r 6 n) lev cr (x + dlw (r 5 n) lev) y ++
  (if r 7 n ≤ 0 then [] else [mkI 2 (x + dlw (r 5 n) lev + (M (r 6 n) lev cr).1) y (stp (feN M r n lev cr) lev) (dlw (r 7 n) lev) (r 7 n) (nI n) (feS M r n lev cr)])
/-- a matrix row's cells: where the next one begins, the items so far -/
def pMc (M : TM) (P : TP) (r : Nat → Nat → Int32) (n C : Nat) (lev : Int32) (g : Nat → Int32) (rr : Nat) (x line : Int32) : Nat → Int32 × List It
  | 0 => (x, [])
  | c + 1 =>
    let q := pMc M P r n C lev g rr x line c
    (q.1 + g c + 3 * uni lev, q.2 ++ P (r 10 (25 * n + C * rr + c)) (maI lev) 0 (q.1 + (g c - (M (r 10 (25 * n + C * rr + c)) (maI lev) 0).1) / 2) line)
/-- a matrix's rows: the line of the next one (above its height), the items so far -/
def pMr (M : TM) (P : TP) (r : Nat → Nat → Int32) (n C : Nat) (lev : Int32) (g : Nat → Int32) (x l0 : Int32) : Nat → Int32 × List It
  | 0 => (l0, [])
  | k + 1 =>
    let q := pMr M P r n C lev g x l0 k
    (q.1 - g (5 + k) - g (10 + k) - 2 * uni lev, q.2 ++ (pMc M P r n C lev g k x (q.1 - g (5 + k)) C).2)
def pMa (M : TM) (P : TP) (r : Nat → Nat → Int32) (n : Nat) (lev x y : Int32) : List It :=
  let R := (r 5 n).toNatClampNeg
  let C := (r 6 n).toNatClampNeg
  (pMr M P r n C lev (maS M r n C lev (R * C)) x (y + maT M r n R C lev) R).2
def pNu (M : TM) (P : TP) (r : Nat → Nat → Int32) (n : Nat) (lev cr x y : Int32) : List It :=
  if r 3 n = 0 then pSi r n lev x y else if r 3 n = 1 then pFr M P r n lev cr x y else if r 3 n = 2 then pFe M P r n lev cr x y else pMa M P r n lev x y
/-- whether an atom's scripts are limits -/
def isL (r : Nat → Nat → Int32) (n : Nat) (lev : Int32) : Bool := decide (¬ (r 8 n = -1 ∧ r 9 n = -1) ∧ r 4 n = 1 ∧ lev = 0)
def pAt (M : TM) (P : TP) (r : Nat → Nat → Int32) (n : Nat) (lev cr x y : Int32) : List It :=
  pNu M P r n lev cr (if isL r n lev then x + ((mAt M r n lev cr).1 - (mNu M r n lev cr).1) / 2 else x) y ++
  (if r 8 n = -1 then [] else P (r 8 n) (scl lev) cr (x + (if isL r n lev then ((mAt M r n lev cr).1 - (M (r 8 n) (scl lev) cr).1) / 2 else (mNu M r n lev cr).1)) (y + atU M r n lev cr)) ++
  (if r 9 n = -1 then [] else P (r 9 n) (scl lev) 1 (x + (if isL r n lev then ((mAt M r n lev cr).1 - (M (r 9 n) (scl lev) 1).1) / 2 else (mNu M r n lev cr).1)) (y - atD M r n lev cr))
/-- a list's items behind the nodes below k; its place is x and the width so far -/
def plS (M : TM) (P : TP) (r : Nat → Nat → Int32) (N : Nat) (l lev cr x y : Int32) : Nat → List It
  | 0 => []
  | k + 1 =>
    let q := lsS M r N l lev cr k
    if r 2 k = l then
      (if r 3 k = 4 then plS M P r N l lev cr x y k
       else plS M P r N l lev cr x y k ++ pAt M P r k q.2.2.2.1 q.2.2.2.2 (x + q.1 + (if bfr (r 2) (r 3) (r 4) N l k = -1 then 0 else spO (bfr (r 2) (r 3) (r 4) N l k) (cnA (r 2) (r 3) (r 4) N k) q.2.2.2.1)) y)
    else plS M P r N l lev cr x y k
def PL (r : Nat → Nat → Int32) (N : Nat) : Nat → Int32 → Int32 → Int32 → Int32 → Int32 → List It
  | 0, _, _, _, _, _ => []
  | d + 1, l, lev, cr, x, y => plS (ML r N d) (PL r N d) r N l lev cr x y N
def bz (h : Int32) : Int32 := if h = 0 then 0 else 1
theorem bz_0 : bz 0 = 0 := rfl
theorem i_p1 (a : Nat) : nI a + 1 = nI (a + 1) := nI_add a 1
theorem i_p2 (a : Nat) : nI a + 2 = nI (a + 2) := nI_add a 2
theorem i_p3 (a : Nat) : nI a + 3 = nI (a + 3) := nI_add a 3
theorem i_p4 (a : Nat) : nI a + 4 = nI (a + 4) := nI_add a 4
theorem i_p5 (a : Nat) : nI a + 5 = nI (a + 5) := nI_add a 5
theorem i_p6 (a : Nat) : nI a + 6 = nI (a + 6) := nI_add a 6
theorem i_p7 (a : Nat) : nI a + 7 = nI (a + 7) := nI_add a 7
theorem i_m8 (a : Nat) : (8 : Int32) * nI a = nI (8 * a) := pk_mul 8 a
def rpL (d : Nat) : Room := { frames := 4 * d + 10, cells := 0, slots := 0, locals := 300 * d + 300 }
def rpF (d : Nat) : Room := { frames := 4 * d + 11, cells := 0, slots := 0, locals := 300 * d + 340 }
def rpN (d : Nat) : Room := { frames := 4 * d + 12, cells := 0, slots := 0, locals := 300 * d + 380 }
def rpA (d : Nat) : Room := { frames := 4 * d + 13, cells := 0, slots := 0, locals := 300 * d + 420 }
abbrev v6 (v : Nat → Int32) (c : Nat) (w h d u e : Int32) : Nat → Int32 := vU (vU (vU (vU (vU (vU v 14 (nI c)) 19 w) 20 h) 21 d) 22 u) 23 e
/-- the reference's placing of a list at the depth d: its contract -/
def HPL (l : Launch) (D : va_G) (cI : ClassId) (a : Nat → Nat) (v : Nat → Int32) (r : Nat → Nat → Int32) (N : Nat) (rk : Int32 → Nat) (d : Nat) : Prop :=
  ∀ (x lev cr X Y : Int32) (c : Nat) (it sz : Nat → Int32) (w0 h0 d0 u0 e0 : Int32), rk x < d → c + (PL r N d x lev cr X Y).length ≤ 500 → KV l D cI yX5_placeList wsX5_placeList (rpL d) [.ref (a 0), .int x, .int lev, .int cr, .int X, .int Y] (wM cI a (v6 v c w0 h0 d0 u0 e0) (r2 r it sz))
    (fun z : Int32 × Int32 × Int32 × Int32 × Int32 × (Nat → Int32) => wM cI a (v6 v (c + (PL r N d x lev cr X Y).length) z.1 z.2.1 z.2.2.1 z.2.2.2.1 z.2.2.2.2.1) (r2 r (ptI it c (PL r N d x lev cr X Y)) z.2.2.2.2.2))
    (fun z => ∀ i4, rk x < rk (r 2 i4) → ∀ k4, k4 < 16 → z.2.2.2.2.2 (16 * i4 + k4) = sz (16 * i4 + k4))
