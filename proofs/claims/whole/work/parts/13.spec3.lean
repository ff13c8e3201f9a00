section LX
variable {p : Program} {l : Launch} {e : Env} {R : Room} {s : State} {m : MethodId} {args : Array Value} {below : List Frame} {meth : Method} {c : Code} {H : Heap} {locs : List Loc} {cells slots : Nat} {Q : State → Prop} {pc nL : Nat} {ls : Array Slot} {rest : List Value} {D : va_G} {A : Nat → Prop}
/-- a join whose world is known up to a state z, of which a fact is known -/
theorem jX {σ : Type} (J : Nat) (wf : σ → va_W) (lv' : List (Nat × Value)) (pf : σ → Prop) (st' : List Value)
    (br : (∀ (z : σ) (H' : Heap) (locs' : List Loc) (ls' : Array Slot), va_P D vwCl (wf z) H' → va_D A (wf z) → va_S A s.heap H' locs' → lv_has ls' nL lv' → pf z → W p l e R s m args below meth c H' locs' cells slots Q (F0 m J ls' st')) → W p l e R s m args below meth c H locs cells slots Q (F0 m pc ls rest))
    (cont : ∀ (z : σ) (H' : Heap) (locs' : List Loc) (ls' : Array Slot), va_P D vwCl (wf z) H' → va_D A (wf z) → va_S A s.heap H' locs' → lv_has ls' nL lv' → pf z → W p l e R s m args below meth c H' locs' cells slots Q (F0 m J ls' st')) : W p l e R s m args below meth c H locs cells slots Q (F0 m pc ls rest) := br cont
end LX
/-! MEASURES, as the reference takes them; M: the measure of a list -/
abbrev T3 : Type := Int32 × Int32 × Int32
abbrev T5 : Type := Int32 × Int32 × Int32 × Int32 × Int32
def frT (r : Nat → Nat → Int32) (n : Nat) (lev : Int32) : Int32 := if 0 ≤ r 7 n then r 7 n else uni lev / 2
def frG (lev : Int32) : Int32 := if lev = 0 then 3 * uni lev else uni lev
def frU (M : Int32 → Int32 → Int32 → T3) (r : Nat → Nat → Int32) (n : Nat) (lev cr : Int32) : Int32 := 2 * uni lev + frT r n lev / 2 + frG lev + (M (r 5 n) (ptl lev) cr).2.2
def frD (M : Int32 → Int32 → Int32 → T3) (r : Nat → Nat → Int32) (n : Nat) (lev : Int32) : Int32 := (M (r 6 n) (ptl lev) 1).2.1 + frG lev + frT r n lev - frT r n lev / 2 - 2 * uni lev
def frY (r : Nat → Nat → Int32) (n : Nat) (lev : Int32) : Int32 := 2 * uni lev - (frT r n lev - frT r n lev / 2)
def frH (M : Int32 → Int32 → Int32 → T3) (r : Nat → Nat → Int32) (n : Nat) (lev cr : Int32) : Int32 := mx (mx 0 (frU M r n lev cr + (M (r 5 n) (ptl lev) cr).2.1)) ((M (r 6 n) (ptl lev) 1).2.1 - frD M r n lev)
def frE (M : Int32 → Int32 → Int32 → T3) (r : Nat → Nat → Int32) (n : Nat) (lev cr : Int32) : Int32 := mx (mx 0 ((M (r 5 n) (ptl lev) cr).2.2 - frU M r n lev cr)) ((M (r 6 n) (ptl lev) 1).2.2 + frD M r n lev)
def mFr (M : Int32 → Int32 → Int32 → T3) (r : Nat → Nat → Int32) (n : Nat) (lev cr : Int32) : T3 :=
  (mx (M (r 5 n) (ptl lev) cr).1 (M (r 6 n) (ptl lev) 1).1 + uni lev,
   if frT r n lev ≤ 0 then frH M r n lev cr else mx (frH M r n lev cr) (frY r n lev + frT r n lev),
   if frT r n lev ≤ 0 then frE M r n lev cr else mx (frE M r n lev cr) (-frY r n lev))
def feN (M : Int32 → Int32 → Int32 → T3) (r : Nat → Nat → Int32) (n : Nat) (lev cr : Int32) : Int32 := 2 * mx ((M (r 6 n) lev cr).2.1 - 2 * uni lev) ((M (r 6 n) lev cr).2.2 + 2 * uni lev)
def feT (M : Int32 → Int32 → Int32 → T3) (r : Nat → Nat → Int32) (n : Nat) (lev cr : Int32) : Int32 := tal (stp (feN M r n lev cr) lev) lev
def feO (M : Int32 → Int32 → Int32 → T3) (r : Nat → Nat → Int32) (n : Nat) (lev cr : Int32) : Int32 := 2 * uni lev + feT M r n lev cr / 2
def mFe (M : Int32 → Int32 → Int32 → T3) (r : Nat → Nat → Int32) (n : Nat) (lev cr : Int32) : T3 :=
  ((M (r 6 n) lev cr).1 + dlw (r 5 n) lev + dlw (r 7 n) lev, mx (mx (M (r 6 n) lev cr).2.1 (feO M r n lev cr)) 0, mx (mx (M (r 6 n) lev cr).2.2 (feT M r n lev cr - feO M r n lev cr)) 0)
/-- a matrix's sixteen sizes behind k cells: widths of columns, heights and depths of rows -/
def maI (lev : Int32) : Int32 := if lev = 0 then 1 else lev
def maS (M : Int32 → Int32 → Int32 → T3) (r : Nat → Nat → Int32) (n C : Nat) (lev : Int32) : Nat → Nat → Int32
  | 0 => fun _ => 0
  | k + 1 =>
    let g := maS M r n C lev k
    let b := M (r 10 (25 * n + k)) (maI lev) 0
    upd (upd (upd g (k % C) (mx (g (k % C)) b.1)) (5 + k / C) (mx (g (5 + k / C)) b.2.1)) (10 + k / C) (mx (g (10 + k / C)) b.2.2)
def smI (f : Nat → Int32) (s0 : Int32) : Nat → Int32
  | 0 => s0
  | k + 1 => smI f s0 k + f k
def maW (M : Int32 → Int32 → Int32 → T3) (r : Nat → Nat → Int32) (n R C : Nat) (lev : Int32) : Int32 := smI (maS M r n C lev (R * C)) (3 * uni lev * (nI C - 1)) C
/-- rows added one by one, each by its height and its depth -/
def smR (g : Nat → Int32) (s0 : Int32) : Nat → Int32
  | 0 => s0
  | k + 1 => smR g s0 k + g (5 + k) + g (10 + k)
def maL (M : Int32 → Int32 → Int32 → T3) (r : Nat → Nat → Int32) (n R C : Nat) (lev : Int32) : Int32 := smR (maS M r n C lev (R * C)) (2 * uni lev * (nI R - 1)) R
def maT (M : Int32 → Int32 → Int32 → T3) (r : Nat → Nat → Int32) (n R C : Nat) (lev : Int32) : Int32 := 2 * uni lev - maL M r n R C lev / 2 + maL M r n R C lev
def mMa (M : Int32 → Int32 → Int32 → T3) (r : Nat → Nat → Int32) (n : Nat) (lev : Int32) : T3 :=
  let R := (r 5 n).toNatClampNeg
  let C := (r 6 n).toNatClampNeg
  (maW M r n R C lev, mx 0 (maT M r n R C lev), mx 0 (maL M r n R C lev - maT M r n R C lev))
def mSi (r : Nat → Nat → Int32) (n : Nat) (lev : Int32) : T3 :=
  (sgz (r 4 n) lev * (4 + rmd (r 5 n) 5), sgz (r 4 n) lev * (5 + rmd (r 5 n) 3), if rmd (r 5 n) 4 = 3 then 2 * sgz (r 4 n) lev else 0)
def mNu (M : Int32 → Int32 → Int32 → T3) (r : Nat → Nat → Int32) (n : Nat) (lev cr : Int32) : T3 :=
  if r 3 n = 0 then mSi r n lev else if r 3 n = 1 then mFr M r n lev cr else if r 3 n = 2 then mFe M r n lev cr else mMa M r n lev
/-- of an atom with scripts: the upper one's box, the lower one's (zeros without one) -/
def scU (M : Int32 → Int32 → Int32 → T3) (r : Nat → Nat → Int32) (n : Nat) (lev cr : Int32) : T3 := if r 8 n = -1 then (0, 0, 0) else M (r 8 n) (scl lev) cr
def scL (M : Int32 → Int32 → Int32 → T3) (r : Nat → Nat → Int32) (n : Nat) (lev : Int32) : T3 := if r 9 n = -1 then (0, 0, 0) else M (r 9 n) (scl lev) 1
def atU (M : Int32 → Int32 → Int32 → T3) (r : Nat → Nat → Int32) (n : Nat) (lev cr : Int32) : Int32 :=
  if r 4 n = 1 ∧ lev = 0 then (mNu M r n lev cr).2.1 + uni lev + (scU M r n lev cr).2.2
  else mx ((mNu M r n lev cr).2.1 - 2 * uni lev) (mx ((if cr = 0 then 4 else 3) * uni lev) ((scU M r n lev cr).2.2 + uni lev))
/-- the lower line ahead of the last look at the gap -/
def atE (M : Int32 → Int32 → Int32 → T3) (r : Nat → Nat → Int32) (n : Nat) (lev cr : Int32) : Int32 :=
  if r 4 n = 1 ∧ lev = 0 then (mNu M r n lev cr).2.2 + uni lev + (scL M r n lev).2.1
  else mx ((mNu M r n lev cr).2.2 + uni lev) (mx (2 * uni lev) ((scL M r n lev).2.1 - 4 * uni lev))
def atB (M : Int32 → Int32 → Int32 → T3) (r : Nat → Nat → Int32) (n : Nat) (lev cr : Int32) : Int32 := atU M r n lev cr - (scU M r n lev cr).2.2 + atE M r n lev cr - (scL M r n lev).2.1
def atD (M : Int32 → Int32 → Int32 → T3) (r : Nat → Nat → Int32) (n : Nat) (lev cr : Int32) : Int32 :=
  if ¬ (r 4 n = 1 ∧ lev = 0) ∧ ¬ r 8 n = -1 ∧ ¬ r 9 n = -1 ∧ ¬ uni lev ≤ atB M r n lev cr then atE M r n lev cr + uni lev - atB M r n lev cr else atE M r n lev cr
def atW (M : Int32 → Int32 → Int32 → T3) (r : Nat → Nat → Int32) (n : Nat) (lev cr : Int32) : Int32 :=
  if r 4 n = 1 ∧ lev = 0 then mx (mNu M r n lev cr).1 (mx (scU M r n lev cr).1 (scL M r n lev).1) else (mNu M r n lev cr).1 + mx (scU M r n lev cr).1 (scL M r n lev).1 + uni lev / 2
def atH (M : Int32 → Int32 → Int32 → T3) (r : Nat → Nat → Int32) (n : Nat) (lev cr : Int32) : Int32 :=
  let h1 := if r 8 n = -1 then mx (mNu M r n lev cr).2.1 0 else mx (mx (mNu M r n lev cr).2.1 0) (atU M r n lev cr + (scU M r n lev cr).2.1)
  if r 9 n = -1 then h1 else mx h1 ((scL M r n lev).2.1 - atD M r n lev cr)
def atP (M : Int32 → Int32 → Int32 → T3) (r : Nat → Nat → Int32) (n : Nat) (lev cr : Int32) : Int32 :=
  let d1 := if r 8 n = -1 then mx (mNu M r n lev cr).2.2 0 else mx (mx (mNu M r n lev cr).2.2 0) ((scU M r n lev cr).2.2 - atU M r n lev cr)
  if r 9 n = -1 then d1 else mx d1 ((scL M r n lev).2.2 + atD M r n lev cr)
def mAt (M : Int32 → Int32 → Int32 → T3) (r : Nat → Nat → Int32) (n : Nat) (lev cr : Int32) : T3 :=
  if r 8 n = -1 ∧ r 9 n = -1 then mNu M r n lev cr else (atW M r n lev cr, atH M r n lev cr, atP M r n lev cr)
/-- a list's walk: width, height, depth, style, cramped behind the nodes below k -/
def lsS (M : Int32 → Int32 → Int32 → T3) (r : Nat → Nat → Int32) (N : Nat) (x lev cr : Int32) : Nat → T5
  | 0 => (0, 0, 0, lev, cr)
  | k + 1 =>
    let q := lsS M r N x lev cr k
    if r 2 k = x then
      (if r 3 k = 4 then (q.1, q.2.1, q.2.2.1, r 5 k, if r 6 k = 1 then 1 else 0)
       else (q.1 + (if bfr (r 2) (r 3) (r 4) N x k = -1 then 0 else spO (bfr (r 2) (r 3) (r 4) N x k) (cnA (r 2) (r 3) (r 4) N k) q.2.2.2.1) + (mAt M r k q.2.2.2.1 q.2.2.2.2).1,
             mx q.2.1 (mAt M r k q.2.2.2.1 q.2.2.2.2).2.1, mx q.2.2.1 (mAt M r k q.2.2.2.1 q.2.2.2.2).2.2, q.2.2.2.1, q.2.2.2.2))
    else q
def ML (r : Nat → Nat → Int32) (N : Nat) : Nat → Int32 → Int32 → Int32 → T3
  | 0, _, _, _ => (0, 0, 0)
  | d + 1, x, lev, cr => let q := lsS (ML r N d) r N x lev cr N; (q.1, q.2.1, q.2.2.1)
/-- rooms of the reference's walk at a depth d -/
def rmL (d : Nat) : Room := { frames := 4 * d + 4, cells := 0, slots := 0, locals := 200 * d + 100 }
def rmF (d : Nat) : Room := { frames := 4 * d + 5, cells := 0, slots := 0, locals := 200 * d + 140 }
def rmN (d : Nat) : Room := { frames := 4 * d + 6, cells := 0, slots := 0, locals := 200 * d + 180 }
def rmA (d : Nat) : Room := { frames := 4 * d + 7, cells := 0, slots := 0, locals := 200 * d + 210 }
abbrev v5 (v : Nat → Int32) (w h d u e : Int32) : Nat → Int32 := vU (vU (vU (vU (vU v 19 w) 20 h) 21 d) 22 u) 23 e
abbrev r2 (r : Nat → Nat → Int32) (it sz : Nat → Int32) : Nat → Nat → Int32 := rU (rU r 11 it) 12 sz
/-- the reference's measuring of a list at the depth d: its contract -/
def HML (l : Launch) (D : va_G) (cI : ClassId) (a : Nat → Nat) (v : Nat → Int32) (r : Nat → Nat → Int32) (N : Nat) (rk : Int32 → Nat) (d : Nat) : Prop :=
  ∀ (x lev cr : Int32) (it sz : Nat → Int32) (w0 h0 d0 u0 e0 : Int32), rk x < d → KV l D cI yX5_measureList wsX5_measureList (rmL d) [.ref (a 0), .int x, .int lev, .int cr] (wM cI a (v5 v w0 h0 d0 u0 e0) (r2 r it sz))
    (fun u : Int32 × Int32 × (Nat → Int32) => wM cI a (v5 v (ML r N d x lev cr).1 (ML r N d x lev cr).2.1 (ML r N d x lev cr).2.2 u.1 u.2.1) (r2 r it u.2.2))
    (fun u => ∀ n, rk x < rk (r 2 n) → ∀ k, k < 16 → u.2.2 (16 * n + k) = sz (16 * n + k))
/-- what is known of the nodes: sub-lists rank below the list of their atom -/
def HRK (r : Nat → Nat → Int32) (N : Nat) (rk : Int32 → Nat) : Prop :=
  ∀ n, n < N → ¬ r 3 n = 4 → (r 3 n = 0 ∨ r 3 n = 1 ∨ r 3 n = 2 ∨ r 3 n = 3) ∧ (r 3 n = 1 → rk (r 5 n) < rk (r 2 n) ∧ rk (r 6 n) < rk (r 2 n)) ∧ (r 3 n = 2 → rk (r 6 n) < rk (r 2 n)) ∧
    (r 3 n = 3 → ∃ R C, r 5 n = nI R ∧ r 6 n = nI C ∧ 1 ≤ R ∧ R ≤ 5 ∧ 1 ≤ C ∧ C ≤ 5 ∧ ∀ k, k < R * C → rk (r 10 (25 * n + k)) < rk (r 2 n)) ∧ (¬ r 8 n = -1 → rk (r 8 n) < rk (r 2 n)) ∧ (¬ r 9 n = -1 → rk (r 9 n) < rk (r 2 n))
