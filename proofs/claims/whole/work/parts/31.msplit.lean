/-- the search for the i-th relation of the list x among the nodes below k: how many were seen, and the one that was sought (-1) -/
def rlS (r : Nat → Nat → Int32) (x i : Int32) : Nat → Int32 × Int32
  | 0 => (0, -1)
  | k + 1 => if r 2 k = x ∧ ¬ r 3 k = 4 ∧ r 4 k = 3 then ((rlS r x i k).1 + 1, if (rlS r x i k).1 = i then nI k else (rlS r x i k).2) else rlS r x i k
theorem rl_no {r : Nat → Nat → Int32} {x i : Int32} {k : Nat} (h : ¬ (r 2 k = x ∧ ¬ r 3 k = 4 ∧ r 4 k = 3)) : rlS r x i (k + 1) = rlS r x i k := by rw [rlS, if_neg h]
theorem rl_ye {r : Nat → Nat → Int32} {x i : Int32} {k : Nat} (h : r 2 k = x ∧ ¬ r 3 k = 4 ∧ r 4 k = 3) : rlS r x i (k + 1) = ((rlS r x i k).1 + 1, if (rlS r x i k).1 = i then nI k else (rlS r x i k).2) := by rw [rlS, if_pos h]
theorem rl_rg {r : Nat → Nat → Int32} {x i : Int32} : ∀ k : Nat, (rlS r x i k).2 = -1 ∨ ∃ j, j < k ∧ (rlS r x i k).2 = nI j
  | 0 => Or.inl rfl
  | k + 1 => by
    by_cases h : r 2 k = x ∧ ¬ r 3 k = 4 ∧ r 4 k = 3
    · rw [rl_ye h]
      by_cases h2 : (rlS r x i k).1 = i
      · exact Or.inr ⟨k, by omega, if_pos h2⟩
      · rcases rl_rg k with q | ⟨j, q1, q2⟩
        · exact Or.inl (by show (if _ then _ else _) = _; rw [if_neg h2, q])
        · exact Or.inr ⟨j, by omega, by show (if _ then _ else _) = _; rw [if_neg h2, q2]⟩
    · rw [rl_no h]
      rcases rl_rg k with q | ⟨j, q1, q2⟩
      · exact Or.inl q
      · exact Or.inr ⟨j, by omega, q2⟩
/-- from a place on, up to another, the list x becomes another one -/
def mvF (f : Nat → Int32) (x y : Int32) (a b : Nat) : Nat → Int32 := fun j => if a ≤ j ∧ j < b ∧ f j = x then y else f j
theorem mv_0 (f : Nat → Int32) (x y : Int32) (a : Nat) : mvF f x y a a = f := by
  funext j
  unfold mvF
  rw [if_neg (by omega)]
theorem mv_at (f : Nat → Int32) (x y : Int32) (a b : Nat) : mvF f x y a b b = f b := by
  unfold mvF
  rw [if_neg (by omega)]
theorem mv_s (f : Nat → Int32) (x y : Int32) {a b : Nat} (h : a ≤ b) : upd (mvF f x y a b) b (if mvF f x y a b b = x then y else mvF f x y a b b) = mvF f x y a (b + 1) := by
  funext j
  rw [mv_at]
  unfold upd
  by_cases e : j = b
  · rw [if_pos e, e]
    unfold mvF
    by_cases c : f b = x
    · rw [if_pos c, if_pos ⟨h, by omega, c⟩]
    · rw [if_neg c, if_neg (fun q => c q.2.2)]
  · rw [if_neg e]
    unfold mvF
    by_cases c : a ≤ j ∧ j < b ∧ f j = x
    · rw [if_pos c, if_pos ⟨c.1, by omega, c.2.2⟩]
    · rw [if_neg c, if_neg (fun q => c ⟨q.1, by omega, q.2.2⟩)]
def spSl (v : Nat → Int32) (r : Nat → Nat → Int32) (N : Nat) (x y : Int32) : SV :=
  if bI (0 ≤ x ∧ x < v 1) = 0 then (0, vU v 0 1, r) else if (rlS r x y N).2 = -1 then (0, vU v 0 2, r) else if v 1 = 30 then (0, vU v 0 3, r)
  else (v 1 + 1 - 1, vU (vU (vU v 0 0) 1 (v 1 + 1)) 2 (if v 2 = x then v 1 else v 2), rU r 2 (mvF (r 2) x (v 1) (rlS r x y N).2.toNatClampNeg N))

set_option maxHeartbeats 1500000 in
set_option maxRecDepth 100000 in
theorem c_X5_split (l : Launch) (D : va_G) (cI : ClassId) (a : Nat → Nat) (v : Nat → Int32) (r : Nat → Nat → Int32) (x y : Int32) (N : Nat) (hN : v 4 = nI N) (hN1 : N ≤ 120) : KI l D cI yX5_split wsX5_split ({ frames := 1, cells := 0, slots := 0, locals := 21 }) [.ref (a 0), .int x, .int y] (wM cI a v r) (fun u : (Nat → Int32) × (Nat → Nat → Int32) => wM cI a u.1 u.2) (fun q u => (q, u.1, u.2) = spSl v r N x y) := by
  refine KI.of (cc := cX5_split) (nL := 6) (ret := (some .int)) (by decide) rfl (Nat.le_of_ble_eq_true rfl) ?_
  intro pg9 en9 s m args below meth cd9 A ls C0 hP hD hS hl
  have hx := C0.1.1
  have hb := C0.1.2.1
  have hml := C0.1.2.2.1
  have hown : s.vm.findClass RX5 = some m.cls := C0.1.2.2.2.1
  have hts : ∀ w ∈ wsX5_split, w.before args s = true := C0.1.2.2.2.2
  have hK := C0.2.2.2.1
  have hin_X5 : ∀ w ∈ wsX50, w ∈ wsX5_split := fun w h => List.mem_cons_of_mem _ (List.mem_append_right _ h)
  have hf50 : (Cond.fieldLink RX5 50 "FormulaListsModel" "thrown" "I").before args s = true := hts _ (by decide +kernel)
  have hf53 : (Cond.fieldLink RX5 53 "FormulaListsModel" "nodes" "I").before args s = true := hts _ (by decide +kernel)
  have hf7 : (Cond.fieldLink RX5 7 "FormulaListsModel" "lists" "I").before args s = true := hts _ (by decide +kernel)
  have hf56 : (Cond.fieldLink RX5 56 "FormulaListsModel" "open" "I").before args s = true := hts _ (by decide +kernel)
  have hf17 : (Cond.fieldLink RX5 17 "FormulaListsModel" "listOf" "[I").before args s = true := hts _ (by decide +kernel)
  have hf20 : (Cond.fieldLink RX5 20 "FormulaListsModel" "what" "[I").before args s = true := hts _ (by decide +kernel)
  have hf23 : (Cond.fieldLink RX5 23 "FormulaListsModel" "kinds" "[I").before args s = true := hts _ (by decide +kernel)
  have hl : lv_has ls 6 [(0, .ref (a 0)), (1, .int x), (2, .int y)] := hl
  have hP : va_P D vwCl (wM cI a v r) s.heap := hP
  refine lv_aload_n hx hb dX5_split_0 rfl (lv_at hl 0 rfl) ?_
  refine lv_aload_n hx hb dX5_split_1 rfl (lv_at hl 0 rfl) ?_
  refine lv_iload_n hx hb dX5_split_2 rfl (lv_at hl 1 rfl) ?_
  refine kcD (ans := (bI (0 ≤ x ∧ x < v 1))) C0 hP hD hS (c_X5_isList l D cI a v r x ) (cwV 1 hts gX5_split_X5_isList rfl rfl rfl (by decide +kernel) ⟨Nat.le_of_ble_eq_true rfl, Nat.le_of_ble_eq_true rfl⟩) 0 5 rfl rfl rfl hl.1 rfl (Nat.le_of_ble_eq_true rfl) dX5_split_3 ⟨Nat.zero_le _, Nat.zero_le _⟩ (fun H locs hP hD hS => ?_)
  refine lv_if_eq (tgt := 13) hx hb dX5_split_6 (by decide) (fun c_6 => ?_) (fun c_6 => ?_)
  · skip
    refine lv_iconst (v := 1) hx hb dX5_split_13 (by decide) ?_
    refine va_put (D := D) (ci := 5) (v := .int 1) (ty := .int) (C := RX5) (T := TX5) (N := 25) hx hb hts hin_X5 tyX5 tyX5_ok nmX5 hown hK hP hD hS 0 rfl rfl 0 (by decide) hf50 (fun _ h9 => h9) rfl (by decide +kernel) rfl rfl (Nat.le_of_ble_eq_true rfl) dX5_split_14 (fun H locs hP hD hS => ?_)
    have hP : va_P D vwCl (wM cI a (vU v 0 1) r) H := hP
    have hD : va_D A (wM cI a (vU v 0 1) r) := hD
    refine lv_aload_n hx hb dX5_split_17 rfl (lv_at hl 0 rfl) ?_
    refine va_get (D := D) (ci := 5) (v := .int 1) (C := RX5) (T := TX5) (N := 25) hx hb hts hin_X5 hown hK hP 0 rfl rfl 0 (by decide) hf50 (fun _ h9 => h9) rfl dX5_split_18 ?_
    refine lv_if_le (tgt := 26) hx hb dX5_split_21 (by decide) (fun c_21 => absurd c_21 (by decide)) (fun c_21 => ?_)
    refine lv_iconst (v := 0) hx hb dX5_split_24 (by decide) ?_
    exact k_iret C0 ((vU v 0 1), r) hP hD hS (by rw [spSl, if_pos c_6] <;> rfl) dX5_split_25
  · skip
    refine lv_iconst (v := 0) hx hb dX5_split_9 (by decide) ?_
    refine lv_goto (tgt := 14) hx hb dX5_split_10 (by decide) ?_
    refine va_put (D := D) (ci := 5) (v := .int 0) (ty := .int) (C := RX5) (T := TX5) (N := 25) hx hb hts hin_X5 tyX5 tyX5_ok nmX5 hown hK hP hD hS 0 rfl rfl 0 (by decide) hf50 (fun _ h9 => h9) rfl (by decide +kernel) rfl rfl (Nat.le_of_ble_eq_true rfl) dX5_split_14 (fun H locs hP hD hS => ?_)
    have hP : va_P D vwCl (wM cI a (vU v 0 0) r) H := hP
    have hD : va_D A (wM cI a (vU v 0 0) r) := hD
    refine lv_aload_n hx hb dX5_split_17 rfl (lv_at hl 0 rfl) ?_
    refine va_get (D := D) (ci := 5) (v := .int 0) (C := RX5) (T := TX5) (N := 25) hx hb hts hin_X5 hown hK hP 0 rfl rfl 0 (by decide) hf50 (fun _ h9 => h9) rfl dX5_split_18 ?_
    refine lv_if_le (tgt := 26) hx hb dX5_split_21 (by decide) (fun c_21 => ?_) (fun c_21 => absurd (by decide) c_21)
    refine lv_iconst (v := 0) hx hb dX5_split_26 (by decide) ?_
    refine lv_istore_n (lv' := [(3, .int 0), (0, .ref (a 0)), (1, .int x), (2, .int y)]) hx hb dX5_split_27 rfl hl (by decide) rfl (fun ls hl => ?_)
    refine lv_iconst (v := (-1)) hx hb dX5_split_28 (by decide) ?_
    refine lv_istore (lv' := [(4, .int (-1)), (3, .int 0), (0, .ref (a 0)), (1, .int x), (2, .int y)]) hx hb dX5_split_29 hl (by decide) rfl (fun ls hl => ?_)
    refine lv_iconst (v := 0) hx hb dX5_split_31 (by decide) ?_
    refine lv_istore (lv' := [(5, .int 0), (4, .int (-1)), (3, .int 0), (0, .ref (a 0)), (1, .int x), (2, .int y)]) hx hb dX5_split_32 hl (by decide) rfl (fun ls hl => ?_)
    refine lpW (nL := 6) (A := A) (D := D) (fun z : Nat => (wM cI a (vU v 0 0) r)) (fun z : Nat => [(5, .int (nI z)), (4, .int ((rlS r x y z).2)), (3, .int ((rlS r x y z).1)), (0, .ref (a 0)), (1, .int x), (2, .int y)]) (fun z : Nat => z ≤ N) (fun z : Nat => N - z) 0 hP hD hS (lv_sub hl [0, 1, 2, 3, 4, 5] rfl) (Nat.zero_le _) ?_
    intro k H locs ls hP hD hS hl hf ih
    have hP : va_P D vwCl (wM cI a (vU v 0 0) r) H := hP
    have hD : va_D A (wM cI a (vU v 0 0) r) := hD
    have hl : lv_has ls 6 [(5, .int (nI k)), (4, .int ((rlS r x y k).2)), (3, .int ((rlS r x y k).1)), (0, .ref (a 0)), (1, .int x), (2, .int y)] := hl
    have hf : k ≤ N := hf
    have hk1 := hf
    refine lv_iload hx hb dX5_split_34 (lv_at hl 0 rfl) ?_
    refine lv_aload_n hx hb dX5_split_36 rfl (lv_at hl 3 rfl) ?_
    refine va_get (D := D) (ci := 5) (v := .int (v 4)) (C := RX5) (T := TX5) (N := 25) hx hb hts hin_X5 hown hK hP 0 rfl rfl 4 (by decide) hf53 (fun _ h9 => h9) rfl dX5_split_37 ?_
    refine lv_eqi hN ?_
    refine lv_icmp_ge (tgt := 99) hx hb dX5_split_40 (by decide) (fun c_40 => ?_) (fun c_40 => ?_)
    · skip
      have hkN1 : k = N := by have := (nI_leI (by omega) (by omega)).mp c_40; omega
      subst hkN1
      refine lv_aload_n hx hb dX5_split_99 rfl (lv_at hl 3 rfl) ?_
      refine lv_iload hx hb dX5_split_100 (lv_at hl 1 rfl) ?_
      refine lv_iconst (v := (-1)) hx hb dX5_split_102 (by decide) ?_
      refine lv_icmp_ne (tgt := 110) hx hb dX5_split_103 (by decide) (fun c_103 => ?_) (fun c_103 => ?_)
      · skip
        refine lv_aload_n hx hb dX5_split_110 rfl (lv_at hl 3 rfl) ?_
        refine va_get (D := D) (ci := 5) (v := .int (v 1)) (C := RX5) (T := TX5) (N := 25) hx hb hts hin_X5 hown hK hP 0 rfl rfl 1 (by decide) hf7 (fun _ h9 => h9) rfl dX5_split_111 ?_
        refine lv_bipush (v := 30) hx hb dX5_split_114 (by decide) ?_
        refine lv_icmp_ne (tgt := 123) hx hb dX5_split_116 (by decide) (fun c_116 => ?_) (fun c_116 => ?_)
        · skip
          refine lv_iconst (v := 0) hx hb dX5_split_123 (by decide) ?_
          refine va_put (D := D) (ci := 5) (v := .int 0) (ty := .int) (C := RX5) (T := TX5) (N := 25) hx hb hts hin_X5 tyX5 tyX5_ok nmX5 hown hK hP hD hS 0 rfl rfl 0 (by decide) hf50 (fun _ h9 => h9) rfl (by decide +kernel) rfl rfl (Nat.le_of_ble_eq_true rfl) dX5_split_124 (fun H locs hP hD hS => ?_)
          have hP : va_P D vwCl (wM cI a (vU v 0 0) r) H := hP
          have hD : va_D A (wM cI a (vU v 0 0) r) := hD
          refine lv_aload_n hx hb dX5_split_127 rfl (lv_at hl 3 rfl) ?_
          refine va_get (D := D) (ci := 5) (v := .int 0) (C := RX5) (T := TX5) (N := 25) hx hb hts hin_X5 hown hK hP 0 rfl rfl 0 (by decide) hf50 (fun _ h9 => h9) rfl dX5_split_128 ?_
          refine lv_if_le (tgt := 136) hx hb dX5_split_131 (by decide) (fun c_131 => ?_) (fun c_131 => absurd (by decide) c_131)
          obtain ⟨a0, ha0, ea⟩ := (rl_rg k).resolve_left c_103
          refine lv_iload hx hb dX5_split_136 (lv_at hl 1 rfl) ?_
          refine lv_eqi ea ?_
          refine lv_istore (lv' := [(5, .int (nI a0)), (4, .int ((rlS r x y k).2)), (3, .int ((rlS r x y k).1)), (0, .ref (a 0)), (1, .int x), (2, .int y)]) hx hb dX5_split_138 hl (by decide) rfl (fun ls hl => ?_)
          refine lpW (nL := 6) (A := A) (D := D) (fun z : Nat => (wM cI a (vU v 0 0) (rU r 2 (mvF (r 2) x (v 1) a0 z)))) (fun z : Nat => [(5, .int (nI z)), (4, .int ((rlS r x y k).2)), (3, .int ((rlS r x y k).1)), (0, .ref (a 0)), (1, .int x), (2, .int y)]) (fun z : Nat => a0 ≤ z ∧ z ≤ k) (fun z : Nat => k - z) a0 (by rw [mv_0]; exact hP) (by rw [mv_0]; exact hD) hS (lv_sub hl [0, 1, 2, 3, 4, 5] rfl) ⟨Nat.le_refl _, by omega⟩ ?_
          intro k2 H locs ls hP hD hS hl hf ih
          have hP : va_P D vwCl (wM cI a (vU v 0 0) (rU r 2 (mvF (r 2) x (v 1) a0 k2))) H := hP
          have hD : va_D A (wM cI a (vU v 0 0) (rU r 2 (mvF (r 2) x (v 1) a0 k2))) := hD
          have hl : lv_has ls 6 [(5, .int (nI k2)), (4, .int ((rlS r x y k).2)), (3, .int ((rlS r x y k).1)), (0, .ref (a 0)), (1, .int x), (2, .int y)] := hl
          have hf : a0 ≤ k2 ∧ k2 ≤ k := hf
          obtain ⟨hka, hk2⟩ := hf
          refine lv_iload hx hb dX5_split_140 (lv_at hl 0 rfl) ?_
          refine lv_aload_n hx hb dX5_split_142 rfl (lv_at hl 3 rfl) ?_
          refine va_get (D := D) (ci := 5) (v := .int (v 4)) (C := RX5) (T := TX5) (N := 25) hx hb hts hin_X5 hown hK hP 0 rfl rfl 4 (by decide) hf53 (fun _ h9 => h9) rfl dX5_split_143 ?_
          refine lv_eqi hN ?_
          refine lv_icmp_ge (tgt := 187) hx hb dX5_split_146 (by decide) (fun c_146 => ?_) (fun c_146 => ?_)
          · skip
            have hkN : k2 = k := by have := (nI_leI (by omega) (by omega)).mp c_146; omega
            refine lv_aload_n hx hb dX5_split_187 rfl (lv_at hl 3 rfl) ?_
            refine lv_aload_n hx hb dX5_split_188 rfl (lv_at hl 3 rfl) ?_
            refine va_get (D := D) (ci := 5) (v := .int (v 2)) (C := RX5) (T := TX5) (N := 25) hx hb hts hin_X5 hown hK hP 0 rfl rfl 2 (by decide) hf56 (fun _ h9 => h9) rfl dX5_split_189 ?_
            refine lv_iload_n hx hb dX5_split_192 rfl (lv_at hl 4 rfl) ?_
            obtain ⟨x_1, ex_1⟩ : ∃ zz_ : Int32, zz_ = (if (v 2) = x then (v 1) else (v 2)) := ⟨_, rfl⟩
            refine jW (D := D) hD hl 207 (wM cI a (vU v 0 0) (rU r 2 (mvF (r 2) x (v 1) a0 k2))) [(5, .int (nI k2)), (4, .int ((rlS r x y k).2)), (3, .int ((rlS r x y k).1)), (0, .ref (a 0)), (1, .int x), (2, .int y)] [.int x_1, .ref (a 0)] (fun hJ => ?_) (fun H locs ls hP hD hS hl => ?_)
            · skip
              refine lv_icmp_ne (tgt := 203) hx hb dX5_split_193 (by decide) (fun c_193 => ?_) (fun c_193 => ?_)
              · skip
                refine lv_aload_n hx hb dX5_split_203 rfl (lv_at hl 3 rfl) ?_
                refine va_get (D := D) (ci := 5) (v := .int (v 2)) (C := RX5) (T := TX5) (N := 25) hx hb hts hin_X5 hown hK hP 0 rfl rfl 2 (by decide) hf56 (fun _ h9 => h9) rfl dX5_split_204 ?_
                have gx_1 : x_1 = (v 2) := by rw [ex_1]; simp only [if_neg c_193]
                simp only [gx_1] at hJ
                exact hJ _ _ _ hP hD hS (lv_sub hl [0, 1, 2, 3, 4, 5] rfl)
              · skip
                refine lv_aload_n hx hb dX5_split_196 rfl (lv_at hl 3 rfl) ?_
                refine va_get (D := D) (ci := 5) (v := .int (v 1)) (C := RX5) (T := TX5) (N := 25) hx hb hts hin_X5 hown hK hP 0 rfl rfl 1 (by decide) hf7 (fun _ h9 => h9) rfl dX5_split_197 ?_
                refine lv_goto (tgt := 207) hx hb dX5_split_200 (by decide) ?_
                have gx_1 : x_1 = (v 1) := by rw [ex_1]; simp only [if_pos c_193]
                simp only [gx_1] at hJ
                exact hJ _ _ _ hP hD hS (lv_sub hl [0, 1, 2, 3, 4, 5] rfl)
            · skip
              refine va_put (D := D) (ci := 5) (v := .int x_1) (ty := .int) (C := RX5) (T := TX5) (N := 25) hx hb hts hin_X5 tyX5 tyX5_ok nmX5 hown hK hP hD hS 0 rfl rfl 2 (by decide) hf56 (fun _ h9 => h9) rfl (by decide +kernel) rfl rfl (Nat.le_of_ble_eq_true rfl) dX5_split_207 (fun H locs hP hD hS => ?_)
              have hP : va_P D vwCl (wM cI a (vU (vU v 0 0) 2 x_1) (rU r 2 (mvF (r 2) x (v 1) a0 k2))) H := hP
              have hD : va_D A (wM cI a (vU (vU v 0 0) 2 x_1) (rU r 2 (mvF (r 2) x (v 1) a0 k2))) := hD
              refine lv_aload_n hx hb dX5_split_210 rfl (lv_at hl 3 rfl) ?_
              refine lv_dup hx hb dX5_split_211 rfl ?_
              refine va_get (D := D) (ci := 5) (v := .int (v 1)) (C := RX5) (T := TX5) (N := 25) hx hb hts hin_X5 hown hK hP 0 rfl rfl 1 (by decide) hf7 (fun _ h9 => h9) rfl dX5_split_212 ?_
              refine lv_iconst (v := 1) hx hb dX5_split_215 (by decide) ?_
              refine lv_iadd hx hb dX5_split_216 ?_
              refine va_put (D := D) (ci := 5) (v := .int ((v 1) + 1)) (ty := .int) (C := RX5) (T := TX5) (N := 25) hx hb hts hin_X5 tyX5 tyX5_ok nmX5 hown hK hP hD hS 0 rfl rfl 1 (by decide) hf7 (fun _ h9 => h9) rfl (by decide +kernel) rfl rfl (Nat.le_of_ble_eq_true rfl) dX5_split_217 (fun H locs hP hD hS => ?_)
              have hP : va_P D vwCl (wM cI a (vU (vU (vU v 0 0) 1 ((v 1) + 1)) 2 x_1) (rU r 2 (mvF (r 2) x (v 1) a0 k2))) H := hP
              have hD : va_D A (wM cI a (vU (vU (vU v 0 0) 1 ((v 1) + 1)) 2 x_1) (rU r 2 (mvF (r 2) x (v 1) a0 k2))) := hD
              refine lv_aload_n hx hb dX5_split_220 rfl (lv_at hl 3 rfl) ?_
              refine va_get (D := D) (ci := 5) (v := .int ((v 1) + 1)) (C := RX5) (T := TX5) (N := 25) hx hb hts hin_X5 hown hK hP 0 rfl rfl 1 (by decide) hf7 (fun _ h9 => h9) rfl dX5_split_221 ?_
              refine lv_iconst (v := 1) hx hb dX5_split_224 (by decide) ?_
              refine lv_isub hx hb dX5_split_225 ?_
              exact k_iret C0 ((vU (vU (vU v 0 0) 1 ((v 1) + 1)) 2 x_1), (rU r 2 (mvF (r 2) x (v 1) a0 k2))) hP hD hS (by rw [spSl, if_neg c_6, if_neg c_103, if_neg c_116, ea, nI_clamp (by omega), hkN, ← ex_1] <;> rfl) dX5_split_226
          · skip
            have hlt2 : k2 < k := Nat.not_le.mp (fun q => c_146 (nI_le q (by omega)))
            refine lv_aload_n hx hb dX5_split_149 rfl (lv_at hl 3 rfl) ?_
            refine va_get (D := D) (ci := 5) (v := .ref (a 2)) (C := RX5) (T := TX5) (N := 25) hx hb hts hin_X5 hown hK hP 0 rfl rfl 5 (by decide) hf17 (fun _ h9 => h9) rfl dX5_split_150 ?_
            refine lv_iload hx hb dX5_split_153 (lv_at hl 0 rfl) ?_
            refine lv_aload_n hx hb dX5_split_155 rfl (lv_at hl 3 rfl) ?_
            refine va_get (D := D) (ci := 5) (v := .ref (a 2)) (C := RX5) (T := TX5) (N := 25) hx hb hts hin_X5 hown hK hP 0 rfl rfl 5 (by decide) hf17 (fun _ h9 => h9) rfl dX5_split_156 ?_
            refine lv_iload hx hb dX5_split_159 (lv_at hl 0 rfl) ?_
            refine ra_ld (f := (mvF (r 2) x (v 1) a0 k2)) C0 hP 2 rfl k2 rfl (by omega) (by decide) dX5_split_161 ?_
            refine lv_iload_n hx hb dX5_split_162 rfl (lv_at hl 4 rfl) ?_
            obtain ⟨x_2, ex_2⟩ : ∃ zz_ : Int32, zz_ = (if ((mvF (r 2) x (v 1) a0 k2) k2) = x then (v 1) else ((mvF (r 2) x (v 1) a0 k2) k2)) := ⟨_, rfl⟩
            refine jW (D := D) hD hl 180 (wM cI a (vU v 0 0) (rU r 2 (mvF (r 2) x (v 1) a0 k2))) [(5, .int (nI k2)), (4, .int ((rlS r x y k).2)), (3, .int ((rlS r x y k).1)), (0, .ref (a 0)), (1, .int x), (2, .int y)] [.int x_2, .int (nI k2), .ref (a 2)] (fun hJ => ?_) (fun H locs ls hP hD hS hl => ?_)
            · skip
              refine lv_icmp_ne (tgt := 173) hx hb dX5_split_163 (by decide) (fun c_163 => ?_) (fun c_163 => ?_)
              · skip
                refine lv_aload_n hx hb dX5_split_173 rfl (lv_at hl 3 rfl) ?_
                refine va_get (D := D) (ci := 5) (v := .ref (a 2)) (C := RX5) (T := TX5) (N := 25) hx hb hts hin_X5 hown hK hP 0 rfl rfl 5 (by decide) hf17 (fun _ h9 => h9) rfl dX5_split_174 ?_
                refine lv_iload hx hb dX5_split_177 (lv_at hl 0 rfl) ?_
                refine ra_ld (f := (mvF (r 2) x (v 1) a0 k2)) C0 hP 2 rfl k2 rfl (by omega) (by decide) dX5_split_179 ?_
                have gx_2 : x_2 = ((mvF (r 2) x (v 1) a0 k2) k2) := by rw [ex_2]; simp only [if_neg c_163]
                simp only [gx_2] at hJ
                exact hJ _ _ _ hP hD hS (lv_sub hl [0, 1, 2, 3, 4, 5] rfl)
              · skip
                refine lv_aload_n hx hb dX5_split_166 rfl (lv_at hl 3 rfl) ?_
                refine va_get (D := D) (ci := 5) (v := .int (v 1)) (C := RX5) (T := TX5) (N := 25) hx hb hts hin_X5 hown hK hP 0 rfl rfl 1 (by decide) hf7 (fun _ h9 => h9) rfl dX5_split_167 ?_
                refine lv_goto (tgt := 180) hx hb dX5_split_170 (by decide) ?_
                have gx_2 : x_2 = (v 1) := by rw [ex_2]; simp only [if_pos c_163]
                simp only [gx_2] at hJ
                exact hJ _ _ _ hP hD hS (lv_sub hl [0, 1, 2, 3, 4, 5] rfl)
            · skip
              refine ra_st (f := (mvF (r 2) x (v 1) a0 k2)) C0 hP hD hS 2 rfl k2 rfl (by omega) (by decide) dX5_split_180 (fun H locs hP hD hS => ?_)
              have hset : ∀ (y0_ : Int32) (f2_ : Nat → Int32) (g_ : Nat → Int32), (wM cI a (vU v 0 y0_) (rU r 2 f2_)).set 2 (a 2, .inl (cI, 120, .inl g_)) = (wM cI a (vU v 0 y0_) (rU r 2 g_)) := fun _ _ _ => rfl
              rw [hset] at hP hD
              refine lv_iinc (v := (nI (k2 + 1))) (lv' := [(5, .int (nI (k2 + 1))), (4, .int ((rlS r x y k).2)), (3, .int ((rlS r x y k).1)), (0, .ref (a 0)), (1, .int x), (2, .int y)]) hx hb dX5_split_181 hl (k := 0) rfl (k_inc k2) (by decide) rfl (fun ls hl => ?_)
              refine lv_goto (tgt := 140) hx hb dX5_split_184 (by decide) ?_
              have hw : (wM cI a (vU v 0 0) (rU r 2 (upd (mvF (r 2) x (v 1) a0 k2) k2 x_2))) = (wM cI a (vU v 0 0) (rU r 2 (mvF (r 2) x (v 1) a0 (k2 + 1)))) := by rw [ex_2, mv_s _ _ _ hka]
              have hP : va_P D vwCl (wM cI a (vU v 0 0) (rU r 2 (mvF (r 2) x (v 1) a0 (k2 + 1)))) _ := hw ▸ hP
              have hD : va_D A (wM cI a (vU v 0 0) (rU r 2 (mvF (r 2) x (v 1) a0 (k2 + 1)))) := hw ▸ hD
              exact ih (k2 + 1) _ _ _ hP hD hS (lv_sub hl [0, 1, 2, 3, 4, 5] rfl) ⟨by omega, hlt2⟩ (show k - (k2 + 1) < k - k2 by omega)
        · skip
          refine lv_iconst (v := 3) hx hb dX5_split_119 (by decide) ?_
          refine lv_goto (tgt := 124) hx hb dX5_split_120 (by decide) ?_
          refine va_put (D := D) (ci := 5) (v := .int 3) (ty := .int) (C := RX5) (T := TX5) (N := 25) hx hb hts hin_X5 tyX5 tyX5_ok nmX5 hown hK hP hD hS 0 rfl rfl 0 (by decide) hf50 (fun _ h9 => h9) rfl (by decide +kernel) rfl rfl (Nat.le_of_ble_eq_true rfl) dX5_split_124 (fun H locs hP hD hS => ?_)
          have hP : va_P D vwCl (wM cI a (vU v 0 3) r) H := hP
          have hD : va_D A (wM cI a (vU v 0 3) r) := hD
          refine lv_aload_n hx hb dX5_split_127 rfl (lv_at hl 3 rfl) ?_
          refine va_get (D := D) (ci := 5) (v := .int 3) (C := RX5) (T := TX5) (N := 25) hx hb hts hin_X5 hown hK hP 0 rfl rfl 0 (by decide) hf50 (fun _ h9 => h9) rfl dX5_split_128 ?_
          refine lv_if_le (tgt := 136) hx hb dX5_split_131 (by decide) (fun c_131 => absurd c_131 (by decide)) (fun c_131 => ?_)
          refine lv_iconst (v := 0) hx hb dX5_split_134 (by decide) ?_
          exact k_iret C0 ((vU v 0 3), r) hP hD hS (by rw [spSl, if_neg c_6, if_neg c_103, if_pos c_116] <;> rfl) dX5_split_135
      · skip
        refine lv_iconst (v := 2) hx hb dX5_split_106 (by decide) ?_
        refine lv_goto (tgt := 124) hx hb dX5_split_107 (by decide) ?_
        refine va_put (D := D) (ci := 5) (v := .int 2) (ty := .int) (C := RX5) (T := TX5) (N := 25) hx hb hts hin_X5 tyX5 tyX5_ok nmX5 hown hK hP hD hS 0 rfl rfl 0 (by decide) hf50 (fun _ h9 => h9) rfl (by decide +kernel) rfl rfl (Nat.le_of_ble_eq_true rfl) dX5_split_124 (fun H locs hP hD hS => ?_)
        have hP : va_P D vwCl (wM cI a (vU v 0 2) r) H := hP
        have hD : va_D A (wM cI a (vU v 0 2) r) := hD
        refine lv_aload_n hx hb dX5_split_127 rfl (lv_at hl 3 rfl) ?_
        refine va_get (D := D) (ci := 5) (v := .int 2) (C := RX5) (T := TX5) (N := 25) hx hb hts hin_X5 hown hK hP 0 rfl rfl 0 (by decide) hf50 (fun _ h9 => h9) rfl dX5_split_128 ?_
        refine lv_if_le (tgt := 136) hx hb dX5_split_131 (by decide) (fun c_131 => absurd c_131 (by decide)) (fun c_131 => ?_)
        refine lv_iconst (v := 0) hx hb dX5_split_134 (by decide) ?_
        exact k_iret C0 ((vU v 0 2), r) hP hD hS (by rw [spSl, if_neg c_6, if_pos c_103] <;> rfl) dX5_split_135
    · skip
      have hlt : k < N := Nat.not_le.mp (fun q => c_40 (nI_le q (by omega)))
      refine lv_aload_n hx hb dX5_split_43 rfl (lv_at hl 3 rfl) ?_
      refine va_get (D := D) (ci := 5) (v := .ref (a 2)) (C := RX5) (T := TX5) (N := 25) hx hb hts hin_X5 hown hK hP 0 rfl rfl 5 (by decide) hf17 (fun _ h9 => h9) rfl dX5_split_44 ?_
      refine lv_iload hx hb dX5_split_47 (lv_at hl 0 rfl) ?_
      refine ra_ld (f := (r 2)) C0 hP 2 rfl k rfl (by omega) (by decide) dX5_split_49 ?_
      refine lv_iload_n hx hb dX5_split_50 rfl (lv_at hl 4 rfl) ?_
      refine lv_icmp_ne (tgt := 93) hx hb dX5_split_51 (by decide) (fun c_51 => ?_) (fun c_51 => ?_)
      · skip
        refine lv_iinc (v := (nI (k + 1))) (lv' := [(5, .int (nI (k + 1))), (4, .int ((rlS r x y k).2)), (3, .int ((rlS r x y k).1)), (0, .ref (a 0)), (1, .int x), (2, .int y)]) hx hb dX5_split_93 hl (k := 0) rfl (k_inc k) (by decide) rfl (fun ls hl => ?_)
        refine lv_goto (tgt := 34) hx hb dX5_split_96 (by decide) ?_
        have hl2 : lv_has ls 6 [(5, .int (nI (k + 1))), (4, .int ((rlS r x y (k + 1)).2)), (3, .int ((rlS r x y (k + 1)).1)), (0, .ref (a 0)), (1, .int x), (2, .int y)] := by rw [rl_no (fun q => c_51 q.1)]; exact lv_sub hl [0, 1, 2, 3, 4, 5] rfl
        exact ih (k + 1) _ _ _ hP hD hS hl2 hlt (show N - (k + 1) < N - k by omega)
      · skip
        refine lv_aload_n hx hb dX5_split_54 rfl (lv_at hl 3 rfl) ?_
        refine va_get (D := D) (ci := 5) (v := .ref (a 3)) (C := RX5) (T := TX5) (N := 25) hx hb hts hin_X5 hown hK hP 0 rfl rfl 6 (by decide) hf20 (fun _ h9 => h9) rfl dX5_split_55 ?_
        refine lv_iload hx hb dX5_split_58 (lv_at hl 0 rfl) ?_
        refine ra_ld (f := (r 3)) C0 hP 3 rfl k rfl (by omega) (by decide) dX5_split_60 ?_
        refine lv_iconst (v := 4) hx hb dX5_split_61 (by decide) ?_
        refine lv_icmp_eq (tgt := 93) hx hb dX5_split_62 (by decide) (fun c_62 => ?_) (fun c_62 => ?_)
        · skip
          refine lv_iinc (v := (nI (k + 1))) (lv' := [(5, .int (nI (k + 1))), (4, .int ((rlS r x y k).2)), (3, .int ((rlS r x y k).1)), (0, .ref (a 0)), (1, .int x), (2, .int y)]) hx hb dX5_split_93 hl (k := 0) rfl (k_inc k) (by decide) rfl (fun ls hl => ?_)
          refine lv_goto (tgt := 34) hx hb dX5_split_96 (by decide) ?_
          have hl2 : lv_has ls 6 [(5, .int (nI (k + 1))), (4, .int ((rlS r x y (k + 1)).2)), (3, .int ((rlS r x y (k + 1)).1)), (0, .ref (a 0)), (1, .int x), (2, .int y)] := by rw [rl_no (fun q => q.2.1 c_62)]; exact lv_sub hl [0, 1, 2, 3, 4, 5] rfl
          exact ih (k + 1) _ _ _ hP hD hS hl2 hlt (show N - (k + 1) < N - k by omega)
        · skip
          refine lv_aload_n hx hb dX5_split_65 rfl (lv_at hl 3 rfl) ?_
          refine va_get (D := D) (ci := 5) (v := .ref (a 4)) (C := RX5) (T := TX5) (N := 25) hx hb hts hin_X5 hown hK hP 0 rfl rfl 7 (by decide) hf23 (fun _ h9 => h9) rfl dX5_split_66 ?_
          refine lv_iload hx hb dX5_split_69 (lv_at hl 0 rfl) ?_
          refine ra_ld (f := (r 4)) C0 hP 4 rfl k rfl (by omega) (by decide) dX5_split_71 ?_
          refine lv_iconst (v := 3) hx hb dX5_split_72 (by decide) ?_
          refine lv_icmp_ne (tgt := 93) hx hb dX5_split_73 (by decide) (fun c_73 => ?_) (fun c_73 => ?_)
          · skip
            refine lv_iinc (v := (nI (k + 1))) (lv' := [(5, .int (nI (k + 1))), (4, .int ((rlS r x y k).2)), (3, .int ((rlS r x y k).1)), (0, .ref (a 0)), (1, .int x), (2, .int y)]) hx hb dX5_split_93 hl (k := 0) rfl (k_inc k) (by decide) rfl (fun ls hl => ?_)
            refine lv_goto (tgt := 34) hx hb dX5_split_96 (by decide) ?_
            have hl2 : lv_has ls 6 [(5, .int (nI (k + 1))), (4, .int ((rlS r x y (k + 1)).2)), (3, .int ((rlS r x y (k + 1)).1)), (0, .ref (a 0)), (1, .int x), (2, .int y)] := by rw [rl_no (fun q => c_73 q.2.2)]; exact lv_sub hl [0, 1, 2, 3, 4, 5] rfl
            exact ih (k + 1) _ _ _ hP hD hS hl2 hlt (show N - (k + 1) < N - k by omega)
          · skip
            refine lv_iload_n hx hb dX5_split_76 rfl (lv_at hl 2 rfl) ?_
            refine lv_iload_n hx hb dX5_split_77 rfl (lv_at hl 5 rfl) ?_
            obtain ⟨x_3, ex_3⟩ : ∃ zz_ : Int32, zz_ = (if (rlS r x y k).1 = y then (nI k) else (rlS r x y k).2) := ⟨_, rfl⟩
            refine jW (D := D) hD hl 88 (wM cI a (vU v 0 0) r) [(5, .int (nI k)), (4, .int ((rlS r x y k).2)), (3, .int ((rlS r x y k).1)), (0, .ref (a 0)), (1, .int x), (2, .int y)] [.int x_3] (fun hJ => ?_) (fun H locs ls hP hD hS hl => ?_)
            · skip
              refine lv_icmp_ne (tgt := 86) hx hb dX5_split_78 (by decide) (fun c_78 => ?_) (fun c_78 => ?_)
              · skip
                refine lv_iload hx hb dX5_split_86 (lv_at hl 1 rfl) ?_
                have gx_3 : x_3 = (rlS r x y k).2 := by rw [ex_3]; simp only [if_neg c_78]
                simp only [gx_3] at hJ
                exact hJ _ _ _ hP hD hS (lv_sub hl [0, 1, 2, 3, 4, 5] rfl)
              · skip
                refine lv_iload hx hb dX5_split_81 (lv_at hl 0 rfl) ?_
                refine lv_goto (tgt := 88) hx hb dX5_split_83 (by decide) ?_
                have gx_3 : x_3 = (nI k) := by rw [ex_3]; simp only [if_pos c_78]
                simp only [gx_3] at hJ
                exact hJ _ _ _ hP hD hS (lv_sub hl [0, 1, 2, 3, 4, 5] rfl)
            · skip
              refine lv_istore (lv' := [(4, .int x_3), (5, .int (nI k)), (3, .int ((rlS r x y k).1)), (0, .ref (a 0)), (1, .int x), (2, .int y)]) hx hb dX5_split_88 hl (by decide) rfl (fun ls hl => ?_)
              refine lv_iinc (v := ((rlS r x y k).1 + 1)) (lv' := [(3, .int ((rlS r x y k).1 + 1)), (4, .int x_3), (5, .int (nI k)), (0, .ref (a 0)), (1, .int x), (2, .int y)]) hx hb dX5_split_90 hl (k := 2) rfl rfl (by decide) rfl (fun ls hl => ?_)
              refine lv_iinc (v := (nI (k + 1))) (lv' := [(5, .int (nI (k + 1))), (3, .int ((rlS r x y k).1 + 1)), (4, .int x_3), (0, .ref (a 0)), (1, .int x), (2, .int y)]) hx hb dX5_split_93 hl (k := 2) rfl (k_inc k) (by decide) rfl (fun ls hl => ?_)
              refine lv_goto (tgt := 34) hx hb dX5_split_96 (by decide) ?_
              have hl2 : lv_has ls 6 [(5, .int (nI (k + 1))), (4, .int ((rlS r x y (k + 1)).2)), (3, .int ((rlS r x y (k + 1)).1)), (0, .ref (a 0)), (1, .int x), (2, .int y)] := by rw [rl_ye ⟨c_51, c_62, c_73⟩, ← ex_3]; exact lv_sub hl [0, 2, 1, 3, 4, 5] rfl
              exact ih (k + 1) _ _ _ hP hD hS hl2 hlt (show N - (k + 1) < N - k by omega)
