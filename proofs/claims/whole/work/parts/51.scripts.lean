/-! numbers within bounds -/
theorem t_add {a b : Int32} (h1 : -2147483648 ≤ a.toInt + b.toInt) (h2 : a.toInt + b.toInt ≤ 2147483647) : (a + b).toInt = a.toInt + b.toInt := by
  rw [Int32.toInt_add]; exact Int.bmod_eq_of_le (by omega) (by omega)
theorem t_sub {a b : Int32} (h1 : -2147483648 ≤ a.toInt - b.toInt) (h2 : a.toInt - b.toInt ≤ 2147483647) : (a - b).toInt = a.toInt - b.toInt := by
  rw [Int32.toInt_sub]; exact Int.bmod_eq_of_le (by omega) (by omega)
theorem t_mx (a b : Int32) : (a ≤ mx a b ∧ b ≤ mx a b) ∧ (mx a b = a ∨ mx a b = b) := by
  unfold mx
  by_cases h : b < a
  · rw [if_pos h]; exact ⟨⟨by rw [i_le]; omega, by rw [i_le]; rw [i_lt] at h; omega⟩, Or.inl rfl⟩
  · rw [if_neg h]; exact ⟨⟨by rw [i_le]; rw [i_lt] at h; omega, by rw [i_le]; omega⟩, Or.inr rfl⟩
theorem mx_t (a b : Int32) : (mx a b).toInt = max a.toInt b.toInt := by
  have h := t_mx a b
  simp only [i_le, i_eq] at h
  omega
theorem mx_c (a b : Int32) : mx a b = mx b a := i_eq.mpr (by rw [mx_t, mx_t]; omega)
theorem mx_a (a b c : Int32) : mx (mx a b) c = mx a (mx b c) := i_eq.mpr (by rw [mx_t, mx_t, mx_t, mx_t]; omega)
theorem mx_p {a : Int32} (h : 0 ≤ a) : mx a 0 = a := i_eq.mpr (by rw [mx_t, tI0]; rw [i_le, tI0] at h; omega)
theorem mx_g (z B : Int32) (h1 : -1000000000 ≤ B.toInt) (h2 : B.toInt ≤ 1000000000) (h3 : 0 ≤ z.toInt) (h4 : z.toInt ≤ 100) (E : Int32) : E + mx 0 (z - B) = if ¬ z ≤ B then E + z - B else E := by
  have h5 : (z - B).toInt = z.toInt - B.toInt := t_sub (by omega) (by omega)
  by_cases h : z ≤ B
  · rw [if_neg (by simpa using h), show mx 0 (z - B) = 0 from i_eq.mpr (by rw [mx_t, h5, tI0]; rw [i_le] at h; omega), Int32.add_zero]
  · rw [if_pos h, show mx 0 (z - B) = z - B from i_eq.mpr (by rw [mx_t, h5, tI0]; rw [i_le] at h; omega), Int32.sub_eq_add_neg, Int32.sub_eq_add_neg, Int32.add_assoc]
theorem sh_00 (f : Nat → Int32) (i j : Nat) : shF f 0 0 i j = f := by
  funext k
  unfold shF
  by_cases h : 8 * i ≤ k ∧ k < 8 * j
  · rw [if_pos h, Int32.add_zero]
    by_cases h1 : k % 8 = 1
    · rw [if_pos h1]
    · rw [if_neg h1]
      by_cases h2 : k % 8 = 2
      · rw [if_pos h2]
      · rw [if_neg h2]
  · rw [if_neg h]
theorem shR_0 (r : Rw) (i j : Nat) : shR r 0 0 i j = r := by
  unfold shR; rw [sh_00, rU_id]
/-! placing, row by row -/
theorem pl_9 {r : Rw} {f : Nat → Int32} {b c : Nat} {x X Y : Int32} {A B C : List It} (h : r 19 = ptI f c (A ++ (B ++ C)))
    (hx : (x = -1 ∧ B = []) ∨ ∃ j, j < 150 ∧ x = nI j ∧ r 16 j = nI (c + A.length) ∧ r 17 j = nI (c + A.length + B.length)) (hb : c + A.length + B.length ≤ 150) : (plR r b x X Y) 19 = ptI f c (A ++ (B.map (sft X Y) ++ C)) := by
  show pl19 r x X Y = _
  unfold pl19
  rcases hx with ⟨e, e2⟩ | ⟨j, hj, e, h16, h17⟩
  · rw [if_pos e, h, e2]; rfl
  · rw [if_neg (by rw [e]; exact nI_ne_m1 (by omega)), e, nI_clamp (by omega), h16, h17, nI_clamp (by omega), nI_clamp (by omega), h, sh_pt _ _ _ _ _ _ _ rfl rfl]
theorem pl_4 {r : Rw} {b : Nat} {x X Y : Int32} : (plR r b x X Y) 14 b = (if x = -1 then r 14 b else mx (Y + r 14 x.toNatClampNeg) (r 14 b)) := by
  show pl14 r b x Y b = _
  unfold pl14
  by_cases e : x = -1
  · rw [if_pos e, if_pos e]
  · rw [if_neg e, if_neg e, pk_us]
theorem pl_5 {r : Rw} {b : Nat} {x X Y : Int32} : (plR r b x X Y) 15 b = (if x = -1 then r 15 b else mx (r 15 x.toNatClampNeg - Y) (r 15 b)) := by
  show pl15 r b x Y b = _
  unfold pl15
  by_cases e : x = -1
  · rw [if_pos e, if_pos e]
  · rw [if_neg e, if_neg e, pk_us]
theorem pl_4n {r : Rw} {b b' : Nat} {x X Y : Int32} (h : ¬ b' = b) : (plR r b x X Y) 14 b' = r 14 b' := by
  show pl14 r b x Y b' = _
  unfold pl14
  by_cases e : x = -1
  · rw [if_pos e]
  · rw [if_neg e, pk_un h]
theorem pl_5n {r : Rw} {b b' : Nat} {x X Y : Int32} (h : ¬ b' = b) : (plR r b x X Y) 15 b' = r 15 b' := by
  show pl15 r b x Y b' = _
  unfold pl15
  by_cases e : x = -1
  · rw [if_pos e]
  · rw [if_neg e, pk_un h]
theorem pl_sb {r u : Rw} {b : Nat} {x X Y : Int32} (h : SB r u) : SB r (plR u b x X Y) := ((h.ru (by decide)).ru (by decide)).ru (by decide)
theorem pl_sx {r : Rw} {b b' : Nat} {x X Y : Int32} (h : ¬ b' = b) : SX r (plR r b x X Y) b' := ⟨rfl, pl_4n h, pl_5n h, rfl, rfl⟩
theorem PL_len {q : Rw} {N d : Nat} {l lev cr x y : Int32} : (PL q N d l lev cr x y).length = (PL q N d l lev cr 0 0).length := by
  rw [← sh_P0, List.length_map]
/-- an optional list, laid out -/
def oL (q : Rw) (N d : Nat) (x lev cr : Int32) : List It := if x = -1 then [] else PL q N d x lev cr 0 0
def OLP (q : Rw) (N d : Nat) (r : Rw) (x lev cr : Int32) (c : Nat) (u : Rw) : Prop := (x = -1 ∧ u = r) ∨ ∃ k, k < 30 ∧ x = nI k ∧ LLP q N d r k lev cr c u
/-- what stands when an atom's nucleus and scripts have been laid out, and not yet placed -/
def SCF (q : Rw) (n : Nat) (x1 x2 : Int32) (Ln L1 L2 : List It) (tn t1 t2 : T3) (r : Rw) (f0 : Nat → Int32) (c0 : Nat) (u : Rw) : Prop :=
  SB r u ∧ u 19 = ptI f0 c0 (Ln ++ (L1 ++ L2)) ∧ BM u (30 + n) tn ∧ u 16 (30 + n) = nI c0 ∧ u 17 (30 + n) = nI (c0 + Ln.length) ∧
  ((x1 = -1 ∧ L1 = []) ∨ ∃ j, j < 30 ∧ x1 = nI j ∧ BM u j t1 ∧ u 16 j = nI (c0 + Ln.length) ∧ u 17 j = nI (c0 + Ln.length + L1.length)) ∧
  ((x2 = -1 ∧ L2 = []) ∨ ∃ j, j < 30 ∧ x2 = nI j ∧ BM u j t2 ∧ u 16 j = nI (c0 + Ln.length + L1.length) ∧ u 17 j = nI (c0 + Ln.length + L1.length + L2.length)) ∧
  ∀ b, b < 150 → ¬ b = 30 + n → (∀ s j, FLD q n s j → bx q j b = false) → SX r u b
theorem OLP.f {q : Rw} {N d : Nat} {dp sl : Nat → Nat} (hT : LY q N dp sl) {r u : Rw} {x lev cr : Int32} {c n s k : Nat} (hn : n < N) (hk : k < 30) (e2 : q 2 n = nI k) (hx : ∀ j, j < 30 → x = nI j → FLD q n s j) (h : OLP q N d r x lev cr c u) :
    SB r u ∧ u 19 = ptI (r 19) c (oL q N d x lev cr) ∧ SX r u (30 + n) ∧ (∀ s' j', ¬ s = s' → FLD q n s' j' → SX r u j') ∧ ((x = -1 ∧ oL q N d x lev cr = []) ∨ ∃ j, j < 30 ∧ x = nI j ∧ BM u j (ML q N d x lev cr) ∧ u 16 j = nI c ∧ u 17 j = nI (c + (oL q N d x lev cr).length)) ∧ (∀ b, b < 150 → ¬ b = 30 + n → (∀ s j, FLD q n s j → bx q j b = false) → SX r u b) := by
  have h9 := hT.1
  rcases h with ⟨e, eu⟩ | ⟨j, hj, e, h1, h2, h3, h4, h5, h6⟩
  · subst eu
    refine ⟨SB.rf _, by unfold oL; rw [if_pos e, ptI_nil], SX.rf _ _, fun _ _ _ _ => SX.rf _ _, Or.inl ⟨e, by unfold oL; rw [if_pos e]⟩, fun _ _ _ _ => SX.rf _ _⟩
  · have hf := hx j hj e
    have ho : oL q N d x lev cr = PL q N d (nI j) lev cr 0 0 := by unfold oL; rw [if_neg (by rw [e]; exact nI_ne_m1 (by omega)), e]
    refine ⟨h1, by rw [ho]; exact h2, h6 _ (by omega) (bx_n hT hn hk e2 hf), fun s' j' hs hf' => h6 _ (by have := hf'.1; omega) (bx_s hT hn hk e2 hf hf' hs), Or.inr ⟨j, hj, e, by rw [e]; exact h3, h4, by rw [ho]; exact h5⟩, fun b hb hne hall => h6 b hb (hall s j hf)⟩
theorem sc_f {q : Rw} {N d : Nat} {dp sl : Nat → Nat} (hT : LY q N dp sl) {r u w : Rw} {f0 : Nat → Int32} {lev cr : Int32} {c0 n k : Nat} {Ln : List It} {tn : T3} (hn : n < N) (hk : k < 30) (e2 : q 2 n = nI k)
    (h19 : r 19 = ptI f0 c0 Ln) (hB : BM r (30 + n) tn) (h16 : r 16 (30 + n) = nI c0) (h17 : r 17 (30 + n) = nI (c0 + Ln.length))
    (h1 : OLP q N d r (q 8 n) (scl lev) cr (c0 + Ln.length) u) (h2 : OLP q N d u (q 9 n) (scl lev) 1 (c0 + Ln.length + (oL q N d (q 8 n) (scl lev) cr).length) w) : SCF q n (q 8 n) (q 9 n) Ln (oL q N d (q 8 n) (scl lev) cr) (oL q N d (q 9 n) (scl lev) 1) tn (ML q N d (q 8 n) (scl lev) cr) (ML q N d (q 9 n) (scl lev) 1) r f0 c0 w := by
  obtain ⟨a1, a2, a3, a4, a5, a6⟩ := h1.f hT (s := 2) hn hk e2 (fun j hj e => ⟨hj, Or.inr (Or.inr (Or.inl ⟨rfl, e⟩))⟩)
  obtain ⟨b1, b2, b3, b4, b5, b6⟩ := h2.f hT (s := 3) hn hk e2 (fun j hj e => ⟨hj, Or.inr (Or.inr (Or.inr (Or.inl ⟨rfl, e⟩)))⟩)
  have s1 := a3.tr b3
  refine ⟨a1.tr b1, ?_, ⟨s1.1.trans hB.1, s1.2.1.trans hB.2.1, s1.2.2.1.trans hB.2.2⟩, s1.2.2.2.1.trans h16, s1.2.2.2.2.trans h17, ?_, b5, fun b hb hne hall => (a6 b hb hne hall).tr (b6 b hb hne hall)⟩
  · rw [b2, a2, h19, ptI_app, ptI_app]
  · rcases a5 with e | ⟨j, hj, e, c1, c2, c3⟩
    · exact Or.inl e
    · have s2 := b4 2 j (by decide) ⟨hj, Or.inr (Or.inr (Or.inl ⟨rfl, e⟩))⟩
      exact Or.inr ⟨j, hj, e, ⟨s2.1.trans c1.1, s2.2.1.trans c1.2.1, s2.2.2.1.trans c1.2.2⟩, s2.2.2.2.1.trans c2, s2.2.2.2.2.trans c3⟩
/-- an atom with its scripts, placed -/
def ATP (q : Rw) (r : Rw) (f0 : Nat → Int32) (n c0 : Nat) (t : T3) (P : List It) (u : Rw) : Prop :=
  SB r u ∧ u 19 = ptI f0 c0 P ∧ BM u (30 + n) t ∧ u 16 (30 + n) = nI c0 ∧ ∀ b, b < 150 → ¬ b = 30 + n → (∀ s j, FLD q n s j → bx q j b = false) → SX r u b
theorem sc_v {u : Rw} {x : Int32} {t t0 : T3} (h : x = -1 ∨ ∃ j, j < 30 ∧ x = nI j ∧ BM u j t ∧ True) (h0 : t0 = if x = -1 then (0, 0, 0) else t) : (if x = -1 then 0 else u 13 x.toNatClampNeg) = t0.1 ∧ (if x = -1 then 0 else u 14 x.toNatClampNeg) = t0.2.1 ∧ (if x = -1 then 0 else u 15 x.toNatClampNeg) = t0.2.2 := by
  rcases h with e | ⟨j, hj, e, hB, _⟩
  · rw [if_pos e] at h0; subst h0; rw [if_pos e, if_pos e, if_pos e]; exact ⟨rfl, rfl, rfl⟩
  · have hne : ¬ x = -1 := by rw [e]; exact nI_ne_m1 (by omega)
    rw [if_neg hne] at h0; subst h0; rw [if_neg hne, if_neg hne, if_neg hne, e, nI_clamp (by omega)]; exact hB
theorem shR_n {r : Rw} {X Y : Int32} {i j k : Nat} (h : ¬ k = 19) : shR r X Y i j k = r k := by unfold shR; exact rU_n h
theorem pl_k {r : Rw} {b k : Nat} {x X Y : Int32} (h : k ≤ 13 ∨ k = 16 ∨ k = 17) : (plR r b x X Y) k = r k := by
  unfold plR
  rw [rU_n (by omega), rU_n (by omega), rU_n (by omega)]
/-- the rows when all is placed -/
def fnR (u : Rw) (n c0 m : Nat) (x1 x2 A X1 X2 U Dn Wd : Int32) : Rw := rU (plR (plR (shR u A 0 c0 m) (30 + n) x1 X1 U) (30 + n) x2 X2 (-Dn)) 13 (upd (u 13) (30 + n) Wd)
theorem fn_19 {u : Rw} {f0 : Nat → Int32} {x1 x2 A X1 X2 U Dn Wd : Int32} {c0 n : Nat} {Ln L1 L2 : List It} (g2 : u 19 = ptI f0 c0 (Ln ++ (L1 ++ L2)))
    (g6 : (x1 = -1 ∧ L1 = []) ∨ ∃ j, j < 30 ∧ x1 = nI j ∧ u 16 j = nI (c0 + Ln.length) ∧ u 17 j = nI (c0 + Ln.length + L1.length)) (g7 : (x2 = -1 ∧ L2 = []) ∨ ∃ j, j < 30 ∧ x2 = nI j ∧ u 16 j = nI (c0 + Ln.length + L1.length) ∧ u 17 j = nI (c0 + Ln.length + L1.length + L2.length))
    (hlen : c0 + Ln.length + L1.length + L2.length ≤ 150) : (fnR u n c0 (c0 + Ln.length) x1 x2 A X1 X2 U Dn Wd) 19 = ptI f0 c0 (Ln.map (sft A 0) ++ (L1.map (sft X1 U) ++ L2.map (sft X2 (-Dn)))) := by
  have h19a : (shR u A 0 c0 (c0 + Ln.length)) 19 = ptI f0 c0 (Ln.map (sft A 0) ++ (L1 ++ L2)) := by
    unfold shR
    rw [rU_s, g2]
    exact sh_pt f0 c0 [] _ _ A 0 rfl (by rw [List.length_nil, Nat.add_zero])
  have h19b : (plR (shR u A 0 c0 (c0 + Ln.length)) (30 + n) x1 X1 U) 19 = ptI f0 c0 (Ln.map (sft A 0) ++ (L1.map (sft X1 U) ++ L2)) := by
    refine pl_9 h19a ?_ (by rw [List.length_map]; omega)
    rw [List.length_map]
    rcases g6 with e | ⟨j, hj, e, c1, c2⟩
    · exact Or.inl e
    · exact Or.inr ⟨j, by omega, e, by rw [shR_n (by decide)]; exact c1, by rw [shR_n (by decide)]; exact c2⟩
  have h19c : (plR (shR u A 0 c0 (c0 + Ln.length)) (30 + n) x1 X1 U) 19 = ptI f0 c0 ((Ln.map (sft A 0) ++ L1.map (sft X1 U)) ++ (L2 ++ [])) := by rw [h19b, List.append_nil, List.append_assoc]
  unfold fnR
  rw [rU_n (by decide), pl_9 h19c ?_ (by rw [List.length_append, List.length_map, List.length_map]; omega), List.append_nil, List.append_assoc]
  rw [List.length_append, List.length_map, List.length_map, ← Nat.add_assoc]
  rcases g7 with e | ⟨j, hj, e, c1, c2⟩
  · exact Or.inl e
  · exact Or.inr ⟨j, by omega, e, by rw [pl_k (by omega), shR_n (by decide)]; exact c1, by rw [pl_k (by omega), shR_n (by decide)]; exact c2⟩
theorem fn_14 {u : Rw} {x1 x2 A X1 X2 U Dn Wd a0 a1 a2 : Int32} {c0 m n : Nat} (h0 : u 14 (30 + n) = a0) (hp : 0 ≤ a0) (h1 : x1 = -1 ∨ ∃ j, j < 30 ∧ x1 = nI j ∧ u 14 j = a1) (h2 : x2 = -1 ∨ ∃ j, j < 30 ∧ x2 = nI j ∧ u 14 j = a2) :
    (fnR u n c0 m x1 x2 A X1 X2 U Dn Wd) 14 (30 + n) = (if x2 = -1 then (if x1 = -1 then mx a0 0 else mx (mx a0 0) (U + a1)) else mx (if x1 = -1 then mx a0 0 else mx (mx a0 0) (U + a1)) (a2 - Dn)) := by
  unfold fnR
  rw [rU_n (by decide), pl_4, pl_4, shR_n (by decide), h0, mx_p hp]
  have k1 : (if x1 = -1 then a0 else mx (U + u 14 x1.toNatClampNeg) a0) = (if x1 = -1 then a0 else mx a0 (U + a1)) := by
    rcases h1 with e | ⟨j, hj, e, e1⟩
    · rw [if_pos e, if_pos e]
    · have hne : ¬ x1 = -1 := by rw [e]; exact nI_ne_m1 (by omega)
      rw [if_neg hne, if_neg hne, e, nI_clamp (by omega), e1, mx_c]
  rw [k1]
  rcases h2 with e | ⟨j, hj, e, e1⟩
  · rw [if_pos e, if_pos e]
  · have hne : ¬ x2 = -1 := by rw [e]; exact nI_ne_m1 (by omega)
    rw [if_neg hne, if_neg hne, e, nI_clamp (by omega), pl_4n (by omega), shR_n (by decide), e1, mx_c, show -Dn + a2 = a2 - Dn by rw [Int32.add_comm, ← Int32.sub_eq_add_neg]]
theorem fn_15 {u : Rw} {x1 x2 A X1 X2 U Dn Wd a0 a1 a2 : Int32} {c0 m n : Nat} (h0 : u 15 (30 + n) = a0) (hp : 0 ≤ a0) (h1 : x1 = -1 ∨ ∃ j, j < 30 ∧ x1 = nI j ∧ u 15 j = a1) (h2 : x2 = -1 ∨ ∃ j, j < 30 ∧ x2 = nI j ∧ u 15 j = a2) :
    (fnR u n c0 m x1 x2 A X1 X2 U Dn Wd) 15 (30 + n) = (if x2 = -1 then (if x1 = -1 then mx a0 0 else mx (mx a0 0) (a1 - U)) else mx (if x1 = -1 then mx a0 0 else mx (mx a0 0) (a1 - U)) (a2 + Dn)) := by
  unfold fnR
  rw [rU_n (by decide), pl_5, pl_5, shR_n (by decide), h0, mx_p hp]
  have k1 : (if x1 = -1 then a0 else mx (u 15 x1.toNatClampNeg - U) a0) = (if x1 = -1 then a0 else mx a0 (a1 - U)) := by
    rcases h1 with e | ⟨j, hj, e, e1⟩
    · rw [if_pos e, if_pos e]
    · have hne : ¬ x1 = -1 := by rw [e]; exact nI_ne_m1 (by omega)
      rw [if_neg hne, if_neg hne, e, nI_clamp (by omega), e1, mx_c]
  rw [k1]
  rcases h2 with e | ⟨j, hj, e, e1⟩
  · rw [if_pos e, if_pos e]
  · have hne : ¬ x2 = -1 := by rw [e]; exact nI_ne_m1 (by omega)
    rw [if_neg hne, if_neg hne, e, nI_clamp (by omega), pl_5n (by omega), shR_n (by decide), e1, mx_c, show a2 - -Dn = a2 + Dn by rw [Int32.sub_eq_add_neg, Int32.neg_neg]]
theorem fn_sb {r u : Rw} {x1 x2 A X1 X2 U Dn Wd : Int32} {c0 m n : Nat} (h : SB r u) : SB r (fnR u n c0 m x1 x2 A X1 X2 U Dn Wd) := (pl_sb (pl_sb (h.ru (by decide)))).ru (by decide)
theorem fn_sx {u : Rw} {x1 x2 A X1 X2 U Dn Wd : Int32} {c0 m n b : Nat} (hne : ¬ b = 30 + n) : SX u (fnR u n c0 m x1 x2 A X1 X2 U Dn Wd) b := by
  unfold fnR
  refine ⟨?_, ?_, ?_, ?_, ?_⟩
  · rw [rU_s, pk_un hne]
  · rw [rU_n (by decide), pl_4n hne, pl_4n hne, shR_n (by decide)]
  · rw [rU_n (by decide), pl_5n hne, pl_5n hne, shR_n (by decide)]
  · rw [rU_n (by decide), pl_k (by omega), pl_k (by omega), shR_n (by decide)]
  · rw [rU_n (by decide), pl_k (by omega), pl_k (by omega), shR_n (by decide)]
theorem sc_fin {q : Rw} {r u : Rw} {f0 : Nat → Int32} {x1 x2 A X1 X2 U Dn Wd : Int32} {c0 n : Nat} {Ln L1 L2 : List It} {tn t1 t2 : T3} (hn : n < 120) (hF : SCF q n x1 x2 Ln L1 L2 tn t1 t2 r f0 c0 u)
    (hlen : c0 + Ln.length + L1.length + L2.length ≤ 150) (hH : 0 ≤ tn.2.1) (hD : 0 ≤ tn.2.2)
    :
    ATP q r f0 n c0 (Wd, (if x2 = -1 then (if x1 = -1 then mx tn.2.1 0 else mx (mx tn.2.1 0) (U + t1.2.1)) else mx (if x1 = -1 then mx tn.2.1 0 else mx (mx tn.2.1 0) (U + t1.2.1)) (t2.2.1 - Dn)), (if x2 = -1 then (if x1 = -1 then mx tn.2.2 0 else mx (mx tn.2.2 0) (t1.2.2 - U)) else mx (if x1 = -1 then mx tn.2.2 0 else mx (mx tn.2.2 0) (t1.2.2 - U)) (t2.2.2 + Dn)))
      (Ln.map (sft A 0) ++ (L1.map (sft X1 U) ++ L2.map (sft X2 (-Dn)))) (fnR u n c0 (c0 + Ln.length) x1 x2 A X1 X2 U Dn Wd) := by
  obtain ⟨g1, g2, g3, g4, g5, g6, g7, g8⟩ := hF
  refine ⟨fn_sb g1, fn_19 g2 (g6.imp id (fun ⟨j, h1, h2, h3, h4⟩ => ⟨j, h1, h2, h4⟩)) (g7.imp id (fun ⟨j, h1, h2, h3, h4⟩ => ⟨j, h1, h2, h4⟩)) hlen, ⟨?_, fn_14 g3.2.1 hH (g6.imp And.left (fun ⟨j, h1, h2, h3, h4⟩ => ⟨j, h1, h2, h3.2.1⟩)) (g7.imp And.left (fun ⟨j, h1, h2, h3, h4⟩ => ⟨j, h1, h2, h3.2.1⟩)), fn_15 g3.2.2 hD (g6.imp And.left (fun ⟨j, h1, h2, h3, h4⟩ => ⟨j, h1, h2, h3.2.2⟩)) (g7.imp And.left (fun ⟨j, h1, h2, h3, h4⟩ => ⟨j, h1, h2, h3.2.2⟩))⟩, ?_, fun b hb hne hall => (g8 b hb hne hall).tr (fn_sx hne)⟩
  · unfold fnR
    rw [rU_s, pk_us]
  · unfold fnR
    rw [rU_n (by decide), pl_k (by omega), pl_k (by omega), shR_n (by decide)]
    exact g4
/-- bounds of a measure -/
def TB (t : T3) (B : Int) : Prop := (0 ≤ t.2.1.toInt ∧ t.2.1.toInt ≤ B) ∧ (0 ≤ t.2.2.toInt ∧ t.2.2.toInt ≤ B)
theorem oL_map {q : Rw} {N d : Nat} {x lev cr X Y : Int32} : (oL q N d x lev cr).map (sft X Y) = (if x = -1 then [] else PL q N d x lev cr X Y) := by
  unfold oL
  by_cases e : x = -1
  · rw [if_pos e, if_pos e]; rfl
  · rw [if_neg e, if_neg e, sh_P0]
theorem nu_map {q : Rw} {N d n : Nat} {lev cr X : Int32} : (pNu (ML q N d) (PL q N d) q n lev cr 0 0).map (sft X 0) = pNu (ML q N d) (PL q N d) q n lev cr X 0 := by
  rw [sh_nu (sh_PL q N d), Int32.zero_add, Int32.zero_add]
theorem at_H {M : TM} {q : Rw} {n : Nat} {lev cr : Int32} : atH M q n lev cr = (if q 9 n = -1 then (if q 8 n = -1 then mx (mNu M q n lev cr).2.1 0 else mx (mx (mNu M q n lev cr).2.1 0) (atU M q n lev cr + (M (q 8 n) (scl lev) cr).2.1)) else mx (if q 8 n = -1 then mx (mNu M q n lev cr).2.1 0 else mx (mx (mNu M q n lev cr).2.1 0) (atU M q n lev cr + (M (q 8 n) (scl lev) cr).2.1)) ((M (q 9 n) (scl lev) 1).2.1 - atD M q n lev cr)) := by
  unfold atH
  dsimp only
  by_cases e : q 8 n = -1 <;> by_cases e1 : q 9 n = -1 <;> simp only [e, e1, scU, scL, if_true, if_false]
theorem at_P {M : TM} {q : Rw} {n : Nat} {lev cr : Int32} : atP M q n lev cr = (if q 9 n = -1 then (if q 8 n = -1 then mx (mNu M q n lev cr).2.2 0 else mx (mx (mNu M q n lev cr).2.2 0) ((M (q 8 n) (scl lev) cr).2.2 - atU M q n lev cr)) else mx (if q 8 n = -1 then mx (mNu M q n lev cr).2.2 0 else mx (mx (mNu M q n lev cr).2.2 0) ((M (q 8 n) (scl lev) cr).2.2 - atU M q n lev cr)) ((M (q 9 n) (scl lev) 1).2.2 + atD M q n lev cr)) := by
  unfold atP
  dsimp only
  by_cases e : q 8 n = -1 <;> by_cases e1 : q 9 n = -1 <;> simp only [e, e1, scU, scL, if_true, if_false]
theorem at_li {M : TM} {P : TP} {q : Rw} {n : Nat} {lev cr : Int32} (h : ¬ (q 8 n = -1 ∧ q 9 n = -1)) : mAt M q n lev cr = (atW M q n lev cr, atH M q n lev cr, atP M q n lev cr) := by
  unfold mAt; rw [if_neg h]
theorem at_pL {q : Rw} {N d n : Nat} {lev cr : Int32} (h : ¬ (q 8 n = -1 ∧ q 9 n = -1)) (hb : q 4 n = 1 ∧ lev = 0) : pAt (ML q N d) (PL q N d) q n lev cr 0 0 =
    (pNu (ML q N d) (PL q N d) q n lev cr 0 0).map (sft ((atW (ML q N d) q n lev cr - (mNu (ML q N d) q n lev cr).1) / 2) 0) ++ ((oL q N d (q 8 n) (scl lev) cr).map (sft ((atW (ML q N d) q n lev cr - (ML q N d (q 8 n) (scl lev) cr).1) / 2) (atU (ML q N d) q n lev cr)) ++ (oL q N d (q 9 n) (scl lev) 1).map (sft ((atW (ML q N d) q n lev cr - (ML q N d (q 9 n) (scl lev) 1).1) / 2) (-atD (ML q N d) q n lev cr))) := by
  rw [nu_map, oL_map, oL_map]
  unfold pAt
  rw [at_li (P := PL q N d) h, show isL q n lev = true from decide_eq_true ⟨h, hb⟩, if_pos rfl, if_pos rfl, if_pos rfl, Int32.zero_add, Int32.zero_add, Int32.zero_add, Int32.zero_add, Int32.zero_sub, List.append_assoc]
theorem at_pS {q : Rw} {N d n : Nat} {lev cr : Int32} (hb : ¬ (q 4 n = 1 ∧ lev = 0)) : pAt (ML q N d) (PL q N d) q n lev cr 0 0 =
    (pNu (ML q N d) (PL q N d) q n lev cr 0 0).map (sft 0 0) ++ ((oL q N d (q 8 n) (scl lev) cr).map (sft (mNu (ML q N d) q n lev cr).1 (atU (ML q N d) q n lev cr)) ++ (oL q N d (q 9 n) (scl lev) 1).map (sft (mNu (ML q N d) q n lev cr).1 (-atD (ML q N d) q n lev cr))) := by
  rw [nu_map, oL_map, oL_map]
  unfold pAt
  have h9 : ¬ isL q n lev = true := fun e => hb (of_decide_eq_true e).2
  rw [if_neg h9, if_neg h9, if_neg h9, Int32.zero_add, Int32.zero_add, Int32.zero_sub, List.append_assoc]
theorem at_len {q : Rw} {N d n : Nat} {lev cr : Int32} : (pAt (ML q N d) (PL q N d) q n lev cr 0 0).length = (pNu (ML q N d) (PL q N d) q n lev cr 0 0).length + (oL q N d (q 8 n) (scl lev) cr).length + (oL q N d (q 9 n) (scl lev) 1).length := by
  have hX : ∀ x, (pNu (ML q N d) (PL q N d) q n lev cr x 0).length = (pNu (ML q N d) (PL q N d) q n lev cr 0 0).length := fun x => by rw [← nu_map, List.length_map]
  unfold pAt oL
  rw [List.length_append, List.length_append, hX]
  congr 1
  · congr 1
    by_cases e : q 8 n = -1
    · rw [if_pos e, if_pos e]
    · rw [if_neg e, if_neg e, PL_len]
  · by_cases e : q 9 n = -1
    · rw [if_pos e, if_pos e]
    · rw [if_neg e, if_neg e, PL_len]
