/-! PURE WORDS of both sides, over rows of ints -/
theorem i_lt {a b : Int32} : a < b ↔ a.toInt < b.toInt := Int32.lt_iff_toInt_lt
theorem i_le {a b : Int32} : a ≤ b ↔ a.toInt ≤ b.toInt := Int32.le_iff_toInt_le
theorem tI0 : (0 : Int32).toInt = 0 := rfl
theorem tI1 : (1 : Int32).toInt = 1 := rfl
theorem tI2 : (2 : Int32).toInt = 2 := rfl
theorem tI3 : (3 : Int32).toInt = 3 := rfl
theorem tI4 : (4 : Int32).toInt = 4 := rfl
theorem tI5 : (5 : Int32).toInt = 5 := rfl
theorem tI6 : (6 : Int32).toInt = 6 := rfl
theorem tI7 : (7 : Int32).toInt = 7 := rfl
theorem tI8 : (8 : Int32).toInt = 8 := rfl
theorem tI9 : (9 : Int32).toInt = 9 := rfl
theorem tI10 : (10 : Int32).toInt = 10 := rfl
theorem tI11 : (11 : Int32).toInt = 11 := rfl
theorem tI12 : (12 : Int32).toInt = 12 := rfl
theorem tI13 : (13 : Int32).toInt = 13 := rfl
theorem tI14 : (14 : Int32).toInt = 14 := rfl
theorem tI15 : (15 : Int32).toInt = 15 := rfl
theorem tI16 : (16 : Int32).toInt = 16 := rfl
theorem tI30 : (30 : Int32).toInt = 30 := rfl
theorem tI120 : (120 : Int32).toInt = 120 := rfl
theorem tI255 : (255 : Int32).toInt = 255 := rfl
theorem tI256 : (256 : Int32).toInt = 256 := rfl
theorem tI1000 : (1000 : Int32).toInt = 1000 := rfl
theorem tIm1 : (-1 : Int32).toInt = -1 := rfl
theorem i_eq {a b : Int32} : a = b ↔ a.toInt = b.toInt := Int32.toInt_inj.symm
theorem bI_1 {c : Prop} [Decidable c] (h : c) : bI c = 1 := if_pos h
theorem bI_0 {c : Prop} [Decidable c] (h : ¬ c) : bI c = 0 := if_neg h
theorem bI_z {c : Prop} [Decidable c] : bI c = 0 ↔ ¬ c := by
  unfold bI; split <;> simp_all
theorem bI_nz {c : Prop} [Decidable c] : ¬ bI c = 0 ↔ c := by
  unfold bI; split <;> simp_all
theorem bI_nar {c : Prop} [Decidable c] : narrow .boolean (.int (bI c)) = .int (bI c) := by
  unfold bI; split <;> rfl
/-- a number between 0 and a bound is a place -/
theorem ix_of {x b : Int32} {N M : Nat} (h0 : ¬ x < 0) (h1 : x < b) (hb : b = nI N) (hN : N ≤ M) (hM : M < 2 ^ 31) : x = nI x.toNatClampNeg ∧ x.toNatClampNeg < M := by
  obtain ⟨j, hj, e⟩ := nI_of h0
  subst e
  rw [nI_clamp hj]
  refine ⟨rfl, ?_⟩
  rw [hb, nI_ltI hj (by omega)] at h1
  omega
theorem nI_inj {a b : Nat} (ha : a < 2 ^ 31) (hb : b < 2 ^ 31) (h : nI a = nI b) : a = b := (nI_eq ha hb).mp h
theorem nI_ne_m1 {a : Nat} (ha : a < 2 ^ 31) : ¬ nI a = -1 := by
  intro h
  have := nI_pos ha
  rw [h] at this
  exact this (by decide)
def ltr (a b : Int32) : Int32 :=
  if a = 4 then 0 else if a = 6 then (if b = 2 then 0 else 2)
  else if b = 1 then (if a = 0 ∨ a = 5 ∨ a = 7 ∨ a = 1 then 1 else if a = 2 then 3 else 4)
  else if b = 7 then (if a = 2 then 3 else if a = 3 then 4 else 2)
  else if a = 2 then (if b = 0 ∨ b = 4 then 3 else 0)
  else if a = 3 then (if b = 0 ∨ b = 4 then 4 else 0)
  else if b = 3 then 4
  else if b = 2 then (if a = 1 then 0 else 3)
  else if a = 1 then (if b = 0 then 1 else 0)
  else if a = 7 then (if b = 5 then 0 else 2) else 0
def spO (a b lev : Int32) : Int32 := if ltr a b = 1 then uni lev else if 1 < lev ∨ ltr a b = 0 then 0 else (ltr a b - 1) * uni lev
def ptl (lev : Int32) : Int32 := if lev = 3 then 3 else lev + 1
def scl (lev : Int32) : Int32 := if lev < 2 then 2 else 3
def sgz (k lev : Int32) : Int32 := if k = 1 ∧ lev = 0 then 14 else uni lev
def tal (st lev : Int32) : Int32 := uni lev * (6 + 4 * st)
def rmd (x y : Int32) : Int32 := x - x / y * y
def dlw (c lev : Int32) : Int32 := if c = 0 then uni lev / 2 else uni lev * (2 + rmd c 3)
def stc (need lev : Int32) (i : Nat) : Prop := 10 * tal (nI i) lev < 9 * need
def stp (need lev : Int32) : Int32 := if 10 * tal (nI 0) lev < 9 * need then (if 10 * tal (nI 1) lev < 9 * need then (if 10 * tal (nI 2) lev < 9 * need then (if 10 * tal (nI 3) lev < 9 * need then nI 4 else nI 3) else nI 2) else nI 1) else nI 0
theorem stp_of {need lev : Int32} {i : Nat} (hi : i ≤ 4) (h : ∀ j, j < i → stc need lev j) (he : i = 4 ∨ ¬ stc need lev i) : nI i = stp need lev := by
  unfold stc at h he
  rcases (show i = 0 ∨ i = 1 ∨ i = 2 ∨ i = 3 ∨ i = 4 by omega) with e | e | e | e | e <;> subst e
  · rw [stp, if_neg (he.resolve_left (by omega))]
  · rw [stp, if_pos (h 0 (by omega)), if_neg (he.resolve_left (by omega))]
  · rw [stp, if_pos (h 0 (by omega)), if_pos (h 1 (by omega)), if_neg (he.resolve_left (by omega))]
  · rw [stp, if_pos (h 0 (by omega)), if_pos (h 1 (by omega)), if_pos (h 2 (by omega)), if_neg (he.resolve_left (by omega))]
  · rw [stp, if_pos (h 0 (by omega)), if_pos (h 1 (by omega)), if_pos (h 2 (by omega)), if_pos (h 3 (by omega))]
/-- whether a list is another one, or in an atom that is in it, and so on; d steps at most -/
def wiF (inn lof : Nat → Int32) (o : Int32) : Nat → Int32 → Bool
  | 0, x => decide (x = o)
  | d + 1, x => if x = o then true else if inn x.toNatClampNeg = -1 then false else wiF inn lof o d (lof (inn x.toNatClampNeg).toNatClampNeg)
theorem wiF_eq {inn lof : Nat → Int32} {o : Int32} (d : Nat) : wiF inn lof o d o = true := by cases d <;> simp [wiF]
theorem wiF_no {inn lof : Nat → Int32} {o : Int32} (d : Nat) {j : Nat} (hj : j < 2 ^ 31) (h : ¬ nI j = o) (h2 : inn j = -1) : wiF inn lof o d (nI j) = false := by
  cases d <;> simp [wiF, h, nI_clamp hj, h2]
theorem wiF_st {inn lof : Nat → Int32} {o : Int32} (d : Nat) {j n i : Nat} (hj : j < 2 ^ 31) (hn : n < 2 ^ 31) (h : ¬ nI j = o) (h2 : ¬ inn j = -1) (e1 : inn j = nI n) (e2 : lof n = nI i) : wiF inn lof o (d + 1) (nI j) = wiF inn lof o d (nI i) := by
  rw [wiF, if_neg h, nI_clamp hj, if_neg h2, e1, nI_clamp hn, e2]
/-- the first node from k on (f of them) that is an atom of the list l -/
def nxF (lof wh : Nat → Int32) (l : Int32) : Nat → Nat → Int32
  | 0, _ => -1
  | f + 1, k => if lof k = l ∧ ¬ wh k = 4 then nI k else nxF lof wh l f (k + 1)
theorem nx_no {lof wh : Nat → Int32} {l : Int32} {N k : Nat} (h : k < N) (hc : ¬ (lof k = l ∧ ¬ wh k = 4)) : nxF lof wh l (N - k) k = nxF lof wh l (N - (k + 1)) (k + 1) := by
  rw [show N - k = (N - (k + 1)) + 1 by omega, nxF, if_neg hc]
theorem nx_e0 {lof wh : Nat → Int32} {l : Int32} {N k : Nat} {x : Int32} (hk : k ≤ N) (hN : N ≤ 120) (h : nI N ≤ nI k) (e : x = if nI N ≤ nI k then -1 else nI k) : x = nxF lof wh l (N - k) k := by
  rw [e, if_pos h, show N - k = 0 by have := (nI_leI (by omega) (by omega)).mp h; omega, nxF]
theorem nx_e1 {lof wh : Nat → Int32} {l : Int32} {N k : Nat} {x : Int32} (hk : k ≤ N) (hN : N ≤ 120) (h : ¬ nI N ≤ nI k) (h1 : lof k = l) (h2 : ¬ wh k = 4) (e : x = if nI N ≤ nI k then -1 else nI k) : x = nxF lof wh l (N - k) k := by
  have hlt : k < N := Nat.not_le.mp (fun q => h (nI_le q (by omega)))
  rw [e, if_neg h, show N - k = (N - (k + 1)) + 1 by omega, nxF, if_pos ⟨h1, h2⟩]
/-- the kind behind the node n in the list l, or -1 -/
def kdA (lof wh ki : Nat → Int32) (N : Nat) (l : Int32) (n : Nat) : Int32 := if nxF lof wh l (N - (n + 1)) (n + 1) = -1 then -1 else ki (nxF lof wh l (N - (n + 1)) (n + 1)).toNatClampNeg
/-- what a kind counts as between two -/
def caK (k bf nk : Int32) : Int32 := if k = 2 then (if (bf = 0 ∨ bf = 5 ∨ bf = 7) ∧ (¬ nk = -1 ∧ ¬ nk = 3 ∧ ¬ nk = 5 ∧ ¬ nk = 6) then 2 else 0) else k
/-- what the last atom of the list l ahead of the node n counts as, or -1 -/
def bfr (lof wh ki : Nat → Int32) (N : Nat) (l : Int32) : Nat → Int32
  | 0 => -1
  | n + 1 => if lof n = l ∧ ¬ wh n = 4 then caK (ki n) (bfr lof wh ki N l n) (kdA lof wh ki N l n) else bfr lof wh ki N l n
def cnA (lof wh ki : Nat → Int32) (N : Nat) (n : Nat) : Int32 := caK (ki n) (bfr lof wh ki N (lof n) n) (kdA lof wh ki N (lof n) n)
section LE
variable {p : Program} {l : Launch} {e : Env} {R : Room} {s : State} {m : MethodId} {args : Array Value} {below : List Frame} {meth : Method} {c : Code} {H : Heap} {locs : List Loc} {cells slots : Nat} {Q : State → Prop} {pc : Nat} {ls : Array Slot} {rest : List Value}
theorem lv_eqi {x y : Int32} (h : x = y) (k : W p l e R s m args below meth c H locs cells slots Q (F0 m pc ls (.int y :: rest))) : W p l e R s m args below meth c H locs cells slots Q (F0 m pc ls (.int x :: rest)) := h ▸ k
end LE
