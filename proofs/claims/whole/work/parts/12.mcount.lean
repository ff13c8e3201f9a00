set_option maxHeartbeats 1500000 in
theorem pf_X5_mayTake_0 (a : Nat → Nat) (v : Nat → Int32) (r : Nat → Nat → Int32) (k o1 : Nat) (dp : Nat → Nat) (hk : k < 30) (hO : v 2 = nI o1) (ho1 : o1 < 30) (hd30 : ∀ j, j < 30 → dp j ≤ 30) (hdp : ∀ j, j < 30 → r 1 j = -1 ∨ ∃ n i, r 1 j = nI n ∧ n < 120 ∧ r 2 n = nI i ∧ i < 30 ∧ dp i < dp j) (x_1 : Int32) (ex_1 : x_1 = (if (bI (0 < nI k ∧ r 1 k = -1)) = 0 then (0 : Int32) else (if (bI (wiF (r 1) (r 2) (nI k) 30 (nI o1) = true)) = 0 then (1 : Int32) else (0 : Int32)))) : x_1 = bI ((0 < nI k ∧ r 1 k = -1) ∧ ¬ wiF (r 1) (r 2) (nI k) 30 (nI o1) = true) := by
  subst_vars; simp only [bI]; (repeat' split) <;> simp_all
set_option maxHeartbeats 1500000 in
theorem pf_X5_mayTake_1 (a : Nat → Nat) (v : Nat → Int32) (r : Nat → Nat → Int32) (k o1 : Nat) (dp : Nat → Nat) (hk : k < 30) (hO : v 2 = nI o1) (ho1 : o1 < 30) (hd30 : ∀ j, j < 30 → dp j ≤ 30) (hdp : ∀ j, j < 30 → r 1 j = -1 ∨ ∃ n i, r 1 j = nI n ∧ n < 120 ∧ r 2 n = nI i ∧ i < 30 ∧ dp i < dp j) (x_1 : Int32) (ex_1 : x_1 = (if (bI (0 < nI k ∧ r 1 k = -1)) = 0 then (0 : Int32) else (if (bI (wiF (r 1) (r 2) (nI k) 30 (nI o1) = true)) = 0 then (1 : Int32) else (0 : Int32)))) : narrow .boolean (.int x_1) = .int x_1 := by
  subst_vars; (repeat' split) <;> rfl
set_option maxHeartbeats 1500000 in
set_option maxRecDepth 100000 in
theorem c_X5_mayTake (l : Launch) (D : va_G) (cI : ClassId) (a : Nat → Nat) (v : Nat → Int32) (r : Nat → Nat → Int32) (k o1 : Nat) (dp : Nat → Nat) (hk : k < 30) (hO : v 2 = nI o1) (ho1 : o1 < 30) (hd30 : ∀ j, j < 30 → dp j ≤ 30) (hdp : ∀ j, j < 30 → r 1 j = -1 ∨ ∃ n i, r 1 j = nI n ∧ n < 120 ∧ r 2 n = nI i ∧ i < 30 ∧ dp i < dp j) : KD l D cI yX5_mayTake wsX5_mayTake ({ frames := 1, cells := 0, slots := 0, locals := 23 }) [.ref (a 0), .int (nI k)] (wM cI a v r) (wM cI a v r) (bI ((0 < nI k ∧ r 1 k = -1) ∧ ¬ wiF (r 1) (r 2) (nI k) 30 (nI o1) = true)) := by
  refine KI.of (cc := cX5_mayTake) (nL := 2) (ret := (some .boolean)) (by decide) rfl (Nat.le_of_ble_eq_true rfl) ?_
  intro pg9 en9 s m args below meth cd9 A ls C0 hP hD hS hl
  have hx := C0.1.1
  have hb := C0.1.2.1
  have hml := C0.1.2.2.1
  have hown : s.vm.findClass RX5 = some m.cls := C0.1.2.2.2.1
  have hts : ∀ w ∈ wsX5_mayTake, w.before args s = true := C0.1.2.2.2.2
  have hK := C0.2.2.2.1
  have hin_X5 : ∀ w ∈ wsX50, w ∈ wsX5_mayTake := fun w h => List.mem_cons_of_mem _ (List.mem_append_right _ h)
  have hf56 : (Cond.fieldLink RX5 56 "FormulaListsModel" "open" "I").before args s = true := hts _ (by decide +kernel)
  have hl : lv_has ls 2 [(0, .ref (a 0)), (1, .int (nI k))] := hl
  have hP : va_P D vwCl (wM cI a v r) s.heap := hP
  refine lv_aload_n hx hb dX5_mayTake_0 rfl (lv_at hl 0 rfl) ?_
  refine lv_iload_n hx hb dX5_mayTake_1 rfl (lv_at hl 1 rfl) ?_
  refine kcD (ans := (bI (0 < nI k ∧ r 1 k = -1))) C0 hP hD hS (c_X5_isFree l D cI a v r k hk) (cwV 1 hts gX5_mayTake_X5_isFree rfl rfl rfl (by decide +kernel) ⟨Nat.le_of_ble_eq_true rfl, Nat.le_of_ble_eq_true rfl⟩) 0 5 rfl rfl rfl hl.1 rfl (Nat.le_of_ble_eq_true rfl) dX5_mayTake_2 ⟨Nat.zero_le _, Nat.zero_le _⟩ (fun H locs hP hD hS => ?_)
  obtain ⟨x_1, ex_1⟩ : ∃ zz_ : Int32, zz_ = (if (bI (0 < nI k ∧ r 1 k = -1)) = 0 then (0 : Int32) else (if (bI (wiF (r 1) (r 2) (nI k) 30 (nI o1) = true)) = 0 then (1 : Int32) else (0 : Int32))) := ⟨_, rfl⟩
  refine jW (D := D) hD hl 25 (wM cI a v r) [(0, .ref (a 0)), (1, .int (nI k))] [.int x_1] (fun hJ => ?_) (fun H locs ls hP hD hS hl => ?_)
  · skip
    refine lv_if_eq (tgt := 24) hx hb dX5_mayTake_5 (by decide) (fun c_5 => ?_) (fun c_5 => ?_)
    · skip
      refine lv_iconst (v := 0) hx hb dX5_mayTake_24 (by decide) ?_
      have gx_1 : x_1 = 0 := by rw [ex_1]; simp only [if_pos c_5]
      simp only [gx_1] at hJ
      exact hJ _ _ _ hP hD hS (lv_sub hl [0, 1] rfl)
    · skip
      refine lv_aload_n hx hb dX5_mayTake_8 rfl (lv_at hl 0 rfl) ?_
      refine lv_aload_n hx hb dX5_mayTake_9 rfl (lv_at hl 0 rfl) ?_
      refine va_get (D := D) (ci := 5) (v := .int (v 2)) (C := RX5) (T := TX5) (N := 25) hx hb hts hin_X5 hown hK hP 0 rfl rfl 2 (by decide) hf56 (fun _ h9 => h9) rfl dX5_mayTake_10 ?_
      refine lv_eqi hO ?_
      refine lv_iload_n hx hb dX5_mayTake_13 rfl (lv_at hl 1 rfl) ?_
      refine kcD (ans := (bI (wiF (r 1) (r 2) (nI k) 30 (nI o1) = true))) C0 hP hD hS (c_X5_isWithin l D cI a v r o1 (nI k) dp ho1 (hd30 _ ho1) hdp) (cwV 2 hts gX5_mayTake_X5_isWithin rfl rfl rfl (by decide +kernel) ⟨Nat.le_of_ble_eq_true rfl, Nat.le_of_ble_eq_true rfl⟩) 0 5 rfl rfl rfl hl.1 rfl (Nat.le_of_ble_eq_true rfl) dX5_mayTake_14 ⟨Nat.zero_le _, Nat.zero_le _⟩ (fun H locs hP hD hS => ?_)
      refine lv_if_ne (tgt := 24) hx hb dX5_mayTake_17 (by decide) (fun c_17 => ?_) (fun c_17 => ?_)
      · skip
        refine lv_iconst (v := 0) hx hb dX5_mayTake_24 (by decide) ?_
        have gx_1 : x_1 = 0 := by rw [ex_1]; simp only [if_neg c_5, if_neg c_17]
        simp only [gx_1] at hJ
        exact hJ _ _ _ hP hD hS (lv_sub hl [0, 1] rfl)
      · skip
        refine lv_iconst (v := 1) hx hb dX5_mayTake_20 (by decide) ?_
        refine lv_goto (tgt := 25) hx hb dX5_mayTake_21 (by decide) ?_
        have gx_1 : x_1 = 1 := by rw [ex_1]; simp only [if_neg c_5, if_pos c_17]
        simp only [gx_1] at hJ
        exact hJ _ _ _ hP hD hS (lv_sub hl [0, 1] rfl)
  · skip
    exact k_zret C0 () hP hD hS (pf_X5_mayTake_1 a v r k o1 dp hk hO ho1 hd30 hdp x_1 ex_1) (pf_X5_mayTake_0 a v r k o1 dp hk hO ho1 hd30 hdp x_1 ex_1) dX5_mayTake_25

set_option maxHeartbeats 1500000 in
set_option maxRecDepth 100000 in
theorem c_X5_countsAs (l : Launch) (D : va_G) (cI : ClassId) (a : Nat → Nat) (v : Nat → Int32) (r : Nat → Nat → Int32) (n N : Nat) (hN : v 4 = nI N) (hN1 : N ≤ 120) (hn : n < N) (hat : ¬ r 3 n = 4) (hki : ∀ i, i < N → ¬ r 4 i = -1) : KD l D cI yX5_countsAs wsX5_countsAs ({ frames := 1, cells := 0, slots := 0, locals := 23 }) [.ref (a 0), .int (nI n)] (wM cI a v r) (wM cI a v r) (cnA (r 2) (r 3) (r 4) N n) := by
  refine KI.of (cc := cX5_countsAs) (nL := 10) (ret := (some .int)) (by decide) rfl (Nat.le_of_ble_eq_true rfl) ?_
  intro pg9 en9 s m args below meth cd9 A ls C0 hP hD hS hl
  have hx := C0.1.1
  have hb := C0.1.2.1
  have hml := C0.1.2.2.1
  have hown : s.vm.findClass RX5 = some m.cls := C0.1.2.2.2.1
  have hts : ∀ w ∈ wsX5_countsAs, w.before args s = true := C0.1.2.2.2.2
  have hK := C0.2.2.2.1
  have hin_X5 : ∀ w ∈ wsX50, w ∈ wsX5_countsAs := fun w h => List.mem_cons_of_mem _ (List.mem_append_right _ h)
  have hf17 : (Cond.fieldLink RX5 17 "FormulaListsModel" "listOf" "[I").before args s = true := hts _ (by decide +kernel)
  have hf23 : (Cond.fieldLink RX5 23 "FormulaListsModel" "kinds" "[I").before args s = true := hts _ (by decide +kernel)
  have hl : lv_has ls 10 [(0, .ref (a 0)), (1, .int (nI n))] := hl
  have hP : va_P D vwCl (wM cI a v r) s.heap := hP
  refine lv_aload_n hx hb dX5_countsAs_0 rfl (lv_at hl 0 rfl) ?_
  refine va_get (D := D) (ci := 5) (v := .ref (a 2)) (C := RX5) (T := TX5) (N := 25) hx hb hts hin_X5 hown hK hP 0 rfl rfl 5 (by decide) hf17 (fun _ h9 => h9) rfl dX5_countsAs_1 ?_
  refine lv_iload_n hx hb dX5_countsAs_4 rfl (lv_at hl 1 rfl) ?_
  refine ra_ld (f := (r 2)) C0 hP 2 rfl n rfl (by omega) (by decide) dX5_countsAs_5 ?_
  refine lv_istore_n (lv' := [(2, .int ((r 2) n)), (0, .ref (a 0)), (1, .int (nI n))]) hx hb dX5_countsAs_6 rfl hl (by decide) rfl (fun ls hl => ?_)
  refine lv_iconst (v := (-1)) hx hb dX5_countsAs_7 (by decide) ?_
  refine lv_istore_n (lv' := [(3, .int (-1)), (2, .int ((r 2) n)), (0, .ref (a 0)), (1, .int (nI n))]) hx hb dX5_countsAs_8 rfl hl (by decide) rfl (fun ls hl => ?_)
  refine lv_aload_n hx hb dX5_countsAs_9 rfl (lv_at hl 2 rfl) ?_
  refine lv_iload_n hx hb dX5_countsAs_10 rfl (lv_at hl 1 rfl) ?_
  refine lv_iconst (v := (-1)) hx hb dX5_countsAs_11 (by decide) ?_
  refine kcD (ans := (nxF (r 2) (r 3) ((r 2) n) (N - 0) 0)) C0 hP hD hS (c_X5_nextAtom l D cI a v r ((r 2) n) (-1) N 0 hN hN1 (by decide) (Nat.zero_le _)) (cwV 2 hts gX5_countsAs_X5_nextAtom rfl rfl rfl (by decide +kernel) ⟨Nat.le_of_ble_eq_true rfl, Nat.le_of_ble_eq_true rfl⟩) 0 5 rfl rfl rfl hl.1 rfl (Nat.le_of_ble_eq_true rfl) dX5_countsAs_12 ⟨Nat.zero_le _, Nat.zero_le _⟩ (fun H locs hP hD hS => ?_)
  obtain ⟨j0, ej0, -, hj0, hm0, ha0, hno0⟩ := nx_sp (lof := r 2) (wh := r 3) (l := r 2 n) (N := N) (k := 0) (m := n) hn rfl hat (Nat.zero_le _)
  refine lv_eqi ej0 ?_
  refine lv_istore (lv' := [(4, .int (nI j0)), (3, .int (-1)), (2, .int ((r 2) n)), (0, .ref (a 0)), (1, .int (nI n))]) hx hb dX5_countsAs_15 hl (by decide) rfl (fun ls hl => ?_)
  refine lv_iconst (v := 0) hx hb dX5_countsAs_17 (by decide) ?_
  refine lv_istore (lv' := [(5, .int 0), (4, .int (nI j0)), (3, .int (-1)), (2, .int ((r 2) n)), (0, .ref (a 0)), (1, .int (nI n))]) hx hb dX5_countsAs_18 hl (by decide) rfl (fun ls hl => ?_)
  refine lv_iconst (v := 1) hx hb dX5_countsAs_20 (by decide) ?_
  refine lv_istore (lv' := [(6, .int 1), (5, .int 0), (4, .int (nI j0)), (3, .int (-1)), (2, .int ((r 2) n)), (0, .ref (a 0)), (1, .int (nI n))]) hx hb dX5_countsAs_21 hl (by decide) rfl (fun ls hl => ?_)
  refine lpW (nL := 10) (A := A) (D := D) (fun z : Nat × Int32 × Int32 × Int32 => (wM cI a v r)) (fun z : Nat × Int32 × Int32 × Int32 => [(6, .int z.2.2.1), (5, .int z.2.2.2), (4, .int (nI z.1)), (3, .int z.2.1), (2, .int ((r 2) n)), (0, .ref (a 0)), (1, .int (nI n))]) (fun z : Nat × Int32 × Int32 × Int32 => (z.2.2.1 = 1 ∧ z.1 ≤ n ∧ r 2 z.1 = r 2 n ∧ ¬ r 3 z.1 = 4 ∧ z.2.1 = bfr (r 2) (r 3) (r 4) N (r 2 n) z.1) ∨ (z.2.2.1 = 0 ∧ z.2.2.2 = cnA (r 2) (r 3) (r 4) N n)) (fun z : Nat × Int32 × Int32 × Int32 => (if z.2.2.1 = 0 then 0 else n - z.1 + 1)) (j0, (-1), 1, 0) hP hD hS (lv_sub hl [0, 1, 2, 3, 4, 5, 6] rfl) (Or.inl ⟨rfl, hj0, hm0, ha0, (bfr_skip (Nat.zero_le _) hno0).symm⟩) ?_
  rintro ⟨j, bf, mr, td⟩ H locs ls hP hD hS hl hf ih
  have hP : va_P D vwCl (wM cI a v r) H := hP
  have hD : va_D A (wM cI a v r) := hD
  have hl : lv_has ls 10 [(6, .int mr), (5, .int td), (4, .int (nI j)), (3, .int bf), (2, .int ((r 2) n)), (0, .ref (a 0)), (1, .int (nI n))] := hl
  have hf : (mr = 1 ∧ j ≤ n ∧ r 2 j = r 2 n ∧ ¬ r 3 j = 4 ∧ bf = bfr (r 2) (r 3) (r 4) N (r 2 n) j) ∨ (mr = 0 ∧ td = cnA (r 2) (r 3) (r 4) N n) := hf
  refine lv_iload hx hb dX5_countsAs_23 (lv_at hl 0 rfl) ?_
  refine lv_if_eq (tgt := 171) hx hb dX5_countsAs_25 (by decide) (fun c_25 => ?_) (fun c_25 => ?_)
  · skip
    refine lv_iload hx hb dX5_countsAs_171 (lv_at hl 1 rfl) ?_
    exact k_iret C0 () hP hD hS ((hf.resolve_left (fun q => by rw [q.1] at c_25; exact absurd c_25 (by decide))).2) dX5_countsAs_173
  · skip
    obtain ⟨hm1, hjn, hjl, hja, hbf⟩ := hf.resolve_right (fun q => c_25 q.1)
    have hjN : j < N := by omega
    refine lv_aload_n hx hb dX5_countsAs_28 rfl (lv_at hl 5 rfl) ?_
    refine lv_iload_n hx hb dX5_countsAs_29 rfl (lv_at hl 4 rfl) ?_
    refine lv_iload hx hb dX5_countsAs_30 (lv_at hl 2 rfl) ?_
    refine kcD (ans := (nxF (r 2) (r 3) ((r 2) n) (N - (j + 1)) (j + 1))) C0 hP hD hS (c_X5_nextAtom l D cI a v r ((r 2) n) (nI j) N (j + 1) hN hN1 (nI_1 j) (by omega)) (cwV 2 hts gX5_countsAs_X5_nextAtom rfl rfl rfl (by decide +kernel) ⟨Nat.le_of_ble_eq_true rfl, Nat.le_of_ble_eq_true rfl⟩) 0 5 rfl rfl rfl hl.1 rfl (Nat.le_of_ble_eq_true rfl) dX5_countsAs_32 ⟨Nat.zero_le _, Nat.zero_le _⟩ (fun H locs hP hD hS => ?_)
    refine lv_topi (fun x_1 ex_1 => ?_)
    refine lv_istore (lv' := [(7, .int x_1), (6, .int mr), (5, .int td), (4, .int (nI j)), (3, .int bf), (2, .int ((r 2) n)), (0, .ref (a 0)), (1, .int (nI n))]) hx hb dX5_countsAs_35 hl (by decide) rfl (fun ls hl => ?_)
    refine lv_aload_n hx hb dX5_countsAs_37 rfl (lv_at hl 6 rfl) ?_
    refine va_get (D := D) (ci := 5) (v := .ref (a 4)) (C := RX5) (T := TX5) (N := 25) hx hb hts hin_X5 hown hK hP 0 rfl rfl 7 (by decide) hf23 (fun _ h9 => h9) rfl dX5_countsAs_38 ?_
    refine lv_iload hx hb dX5_countsAs_41 (lv_at hl 3 rfl) ?_
    refine ra_ld (f := (r 4)) C0 hP 4 rfl j rfl (by omega) (by decide) dX5_countsAs_43 ?_
    refine lv_istore (lv' := [(5, .int ((r 4) j)), (7, .int x_1), (6, .int mr), (4, .int (nI j)), (3, .int bf), (2, .int ((r 2) n)), (0, .ref (a 0)), (1, .int (nI n))]) hx hb dX5_countsAs_44 hl (by decide) rfl (fun ls hl => ?_)
    refine lv_iload hx hb dX5_countsAs_46 (lv_at hl 0 rfl) ?_
    refine lv_iconst (v := 2) hx hb dX5_countsAs_48 (by decide) ?_
    obtain ⟨x_2, ex_2⟩ : ∃ zz_ : Int32, zz_ = (if ((r 4) j) = 2 then (if (if bf = 0 then (1 : Int32) else (if bf = 5 then (1 : Int32) else (if bf = 7 then (1 : Int32) else (0 : Int32)))) = 0 then (0 : Int32) else (if (if x_1 = (-1) then (0 : Int32) else (if ((r 4) x_1.toNatClampNeg) = 3 then (0 : Int32) else (if ((r 4) x_1.toNatClampNeg) = 5 then (0 : Int32) else (if ((r 4) x_1.toNatClampNeg) = 6 then (0 : Int32) else (1 : Int32))))) = 0 then (0 : Int32) else (2 : Int32))) else ((r 4) j)) := ⟨_, rfl⟩
    refine jW (D := D) hD hl 138 (wM cI a v r) [(5, .int x_2), (7, .int x_1), (6, .int mr), (4, .int (nI j)), (3, .int bf), (2, .int ((r 2) n)), (0, .ref (a 0)), (1, .int (nI n))] [] (fun hJ => ?_) (fun H locs ls hP hD hS hl => ?_)
    · skip
      refine lv_icmp_ne (tgt := 138) hx hb dX5_countsAs_49 (by decide) (fun c_49 => ?_) (fun c_49 => ?_)
      · skip
        have gx_2 : x_2 = ((r 4) j) := by rw [ex_2]; simp only [if_neg c_49]
        simp only [gx_2] at hJ
        exact hJ _ _ _ hP hD hS (lv_sub hl [0, 1, 2, 3, 4, 5, 6, 7] rfl)
      · skip
        refine lv_iload_n hx hb dX5_countsAs_52 rfl (lv_at hl 4 rfl) ?_
        obtain ⟨x_3, ex_3⟩ : ∃ zz_ : Int32, zz_ = (if bf = 0 then (1 : Int32) else (if bf = 5 then (1 : Int32) else (if bf = 7 then (1 : Int32) else (0 : Int32)))) := ⟨_, rfl⟩
        refine jW (D := D) hD hl 72 (wM cI a v r) [(5, .int ((r 4) j)), (7, .int x_1), (6, .int mr), (4, .int (nI j)), (3, .int bf), (2, .int ((r 2) n)), (0, .ref (a 0)), (1, .int (nI n))] [.int x_3] (fun hJ => ?_) (fun H locs ls hP hD hS hl => ?_)
        · skip
          refine lv_if_eq (tgt := 67) hx hb dX5_countsAs_53 (by decide) (fun c_53 => ?_) (fun c_53 => ?_)
          · skip
            refine lv_iconst (v := 1) hx hb dX5_countsAs_67 (by decide) ?_
            refine lv_goto (tgt := 72) hx hb dX5_countsAs_68 (by decide) ?_
            have gx_3 : x_3 = 1 := by rw [ex_3]; simp only [if_pos c_53]
            simp only [gx_3] at hJ
            exact hJ _ _ _ hP hD hS (lv_sub hl [0, 1, 2, 3, 4, 5, 6, 7] rfl)
          · skip
            refine lv_iload_n hx hb dX5_countsAs_56 rfl (lv_at hl 4 rfl) ?_
            refine lv_iconst (v := 5) hx hb dX5_countsAs_57 (by decide) ?_
            refine lv_icmp_eq (tgt := 67) hx hb dX5_countsAs_58 (by decide) (fun c_58 => ?_) (fun c_58 => ?_)
            · skip
              refine lv_iconst (v := 1) hx hb dX5_countsAs_67 (by decide) ?_
              refine lv_goto (tgt := 72) hx hb dX5_countsAs_68 (by decide) ?_
              have gx_3 : x_3 = 1 := by rw [ex_3]; simp only [if_neg c_53, if_pos c_58]
              simp only [gx_3] at hJ
              exact hJ _ _ _ hP hD hS (lv_sub hl [0, 1, 2, 3, 4, 5, 6, 7] rfl)
            · skip
              refine lv_iload_n hx hb dX5_countsAs_61 rfl (lv_at hl 4 rfl) ?_
              refine lv_bipush (v := 7) hx hb dX5_countsAs_62 (by decide) ?_
              refine lv_icmp_ne (tgt := 71) hx hb dX5_countsAs_64 (by decide) (fun c_64 => ?_) (fun c_64 => ?_)
              · skip
                refine lv_iconst (v := 0) hx hb dX5_countsAs_71 (by decide) ?_
                have gx_3 : x_3 = 0 := by rw [ex_3]; simp only [if_neg c_53, if_neg c_58, if_neg c_64]
                simp only [gx_3] at hJ
                exact hJ _ _ _ hP hD hS (lv_sub hl [0, 1, 2, 3, 4, 5, 6, 7] rfl)
              · skip
                refine lv_iconst (v := 1) hx hb dX5_countsAs_67 (by decide) ?_
                refine lv_goto (tgt := 72) hx hb dX5_countsAs_68 (by decide) ?_
                have gx_3 : x_3 = 1 := by rw [ex_3]; simp only [if_neg c_53, if_neg c_58, if_pos c_64]
                simp only [gx_3] at hJ
                exact hJ _ _ _ hP hD hS (lv_sub hl [0, 1, 2, 3, 4, 5, 6, 7] rfl)
        · skip
          refine lv_istore (lv' := [(8, .int x_3), (5, .int ((r 4) j)), (7, .int x_1), (6, .int mr), (4, .int (nI j)), (3, .int bf), (2, .int ((r 2) n)), (0, .ref (a 0)), (1, .int (nI n))]) hx hb dX5_countsAs_72 hl (by decide) rfl (fun ls hl => ?_)
          refine lv_iload hx hb dX5_countsAs_74 (lv_at hl 2 rfl) ?_
          refine lv_iconst (v := (-1)) hx hb dX5_countsAs_76 (by decide) ?_
          obtain ⟨x_4, ex_4⟩ : ∃ zz_ : Int32, zz_ = (if x_1 = (-1) then (0 : Int32) else (if ((r 4) x_1.toNatClampNeg) = 3 then (0 : Int32) else (if ((r 4) x_1.toNatClampNeg) = 5 then (0 : Int32) else (if ((r 4) x_1.toNatClampNeg) = 6 then (0 : Int32) else (1 : Int32))))) := ⟨_, rfl⟩
          refine jW (D := D) hD hl 119 (wM cI a v r) [(8, .int x_3), (5, .int ((r 4) j)), (7, .int x_1), (6, .int mr), (4, .int (nI j)), (3, .int bf), (2, .int ((r 2) n)), (0, .ref (a 0)), (1, .int (nI n))] [.int x_4] (fun hJ => ?_) (fun H locs ls hP hD hS hl => ?_)
          · skip
            refine lv_icmp_eq (tgt := 118) hx hb dX5_countsAs_77 (by decide) (fun c_77 => ?_) (fun c_77 => ?_)
            · skip
              refine lv_iconst (v := 0) hx hb dX5_countsAs_118 (by decide) ?_
              have gx_4 : x_4 = 0 := by rw [ex_4]; simp only [if_pos c_77]
              simp only [gx_4] at hJ
              exact hJ _ _ _ hP hD hS (lv_sub hl [0, 1, 2, 3, 4, 5, 6, 7, 8] rfl)
            · skip
              refine lv_aload_n hx hb dX5_countsAs_80 rfl (lv_at hl 7 rfl) ?_
              refine va_get (D := D) (ci := 5) (v := .ref (a 4)) (C := RX5) (T := TX5) (N := 25) hx hb hts hin_X5 hown hK hP 0 rfl rfl 7 (by decide) hf23 (fun _ h9 => h9) rfl dX5_countsAs_81 ?_
              refine lv_iload hx hb dX5_countsAs_84 (lv_at hl 2 rfl) ?_
              refine ra_ld (f := (r 4)) C0 hP 4 rfl x_1.toNatClampNeg (nx_ix ex_1 c_77 (by omega)).1 (nx_ix ex_1 c_77 (by omega)).2 (by decide) dX5_countsAs_86 ?_
              refine lv_iconst (v := 3) hx hb dX5_countsAs_87 (by decide) ?_
              refine lv_icmp_eq (tgt := 118) hx hb dX5_countsAs_88 (by decide) (fun c_88 => ?_) (fun c_88 => ?_)
              · skip
                refine lv_iconst (v := 0) hx hb dX5_countsAs_118 (by decide) ?_
                have gx_4 : x_4 = 0 := by rw [ex_4]; simp only [if_neg c_77, if_pos c_88]
                simp only [gx_4] at hJ
                exact hJ _ _ _ hP hD hS (lv_sub hl [0, 1, 2, 3, 4, 5, 6, 7, 8] rfl)
              · skip
                refine lv_aload_n hx hb dX5_countsAs_91 rfl (lv_at hl 7 rfl) ?_
                refine va_get (D := D) (ci := 5) (v := .ref (a 4)) (C := RX5) (T := TX5) (N := 25) hx hb hts hin_X5 hown hK hP 0 rfl rfl 7 (by decide) hf23 (fun _ h9 => h9) rfl dX5_countsAs_92 ?_
                refine lv_iload hx hb dX5_countsAs_95 (lv_at hl 2 rfl) ?_
                refine ra_ld (f := (r 4)) C0 hP 4 rfl x_1.toNatClampNeg (nx_ix ex_1 c_77 (by omega)).1 (nx_ix ex_1 c_77 (by omega)).2 (by decide) dX5_countsAs_97 ?_
                refine lv_iconst (v := 5) hx hb dX5_countsAs_98 (by decide) ?_
                refine lv_icmp_eq (tgt := 118) hx hb dX5_countsAs_99 (by decide) (fun c_99 => ?_) (fun c_99 => ?_)
                · skip
                  refine lv_iconst (v := 0) hx hb dX5_countsAs_118 (by decide) ?_
                  have gx_4 : x_4 = 0 := by rw [ex_4]; simp only [if_neg c_77, if_neg c_88, if_pos c_99]
                  simp only [gx_4] at hJ
                  exact hJ _ _ _ hP hD hS (lv_sub hl [0, 1, 2, 3, 4, 5, 6, 7, 8] rfl)
                · skip
                  refine lv_aload_n hx hb dX5_countsAs_102 rfl (lv_at hl 7 rfl) ?_
                  refine va_get (D := D) (ci := 5) (v := .ref (a 4)) (C := RX5) (T := TX5) (N := 25) hx hb hts hin_X5 hown hK hP 0 rfl rfl 7 (by decide) hf23 (fun _ h9 => h9) rfl dX5_countsAs_103 ?_
                  refine lv_iload hx hb dX5_countsAs_106 (lv_at hl 2 rfl) ?_
                  refine ra_ld (f := (r 4)) C0 hP 4 rfl x_1.toNatClampNeg (nx_ix ex_1 c_77 (by omega)).1 (nx_ix ex_1 c_77 (by omega)).2 (by decide) dX5_countsAs_108 ?_
                  refine lv_bipush (v := 6) hx hb dX5_countsAs_109 (by decide) ?_
                  refine lv_icmp_eq (tgt := 118) hx hb dX5_countsAs_111 (by decide) (fun c_111 => ?_) (fun c_111 => ?_)
                  · skip
                    refine lv_iconst (v := 0) hx hb dX5_countsAs_118 (by decide) ?_
                    have gx_4 : x_4 = 0 := by rw [ex_4]; simp only [if_neg c_77, if_neg c_88, if_neg c_99, if_pos c_111]
                    simp only [gx_4] at hJ
                    exact hJ _ _ _ hP hD hS (lv_sub hl [0, 1, 2, 3, 4, 5, 6, 7, 8] rfl)
                  · skip
                    refine lv_iconst (v := 1) hx hb dX5_countsAs_114 (by decide) ?_
                    refine lv_goto (tgt := 119) hx hb dX5_countsAs_115 (by decide) ?_
                    have gx_4 : x_4 = 1 := by rw [ex_4]; simp only [if_neg c_77, if_neg c_88, if_neg c_99, if_neg c_111]
                    simp only [gx_4] at hJ
                    exact hJ _ _ _ hP hD hS (lv_sub hl [0, 1, 2, 3, 4, 5, 6, 7, 8] rfl)
          · skip
            refine lv_istore (lv' := [(9, .int x_4), (8, .int x_3), (5, .int ((r 4) j)), (7, .int x_1), (6, .int mr), (4, .int (nI j)), (3, .int bf), (2, .int ((r 2) n)), (0, .ref (a 0)), (1, .int (nI n))]) hx hb dX5_countsAs_119 hl (by decide) rfl (fun ls hl => ?_)
            refine lv_iload hx hb dX5_countsAs_121 (lv_at hl 1 rfl) ?_
            obtain ⟨x_5, ex_5⟩ : ∃ zz_ : Int32, zz_ = (if x_3 = 0 then (0 : Int32) else (if x_4 = 0 then (0 : Int32) else (2 : Int32))) := ⟨_, rfl⟩
            refine jW (D := D) hD hl 136 (wM cI a v r) [(9, .int x_4), (8, .int x_3), (5, .int ((r 4) j)), (7, .int x_1), (6, .int mr), (4, .int (nI j)), (3, .int bf), (2, .int ((r 2) n)), (0, .ref (a 0)), (1, .int (nI n))] [.int x_5] (fun hJ => ?_) (fun H locs ls hP hD hS hl => ?_)
            · skip
              refine lv_if_eq (tgt := 135) hx hb dX5_countsAs_123 (by decide) (fun c_123 => ?_) (fun c_123 => ?_)
              · skip
                refine lv_iconst (v := 0) hx hb dX5_countsAs_135 (by decide) ?_
                have gx_5 : x_5 = 0 := by rw [ex_5]; simp only [if_pos c_123]
                simp only [gx_5] at hJ
                exact hJ _ _ _ hP hD hS (lv_sub hl [0, 1, 2, 3, 4, 5, 6, 7, 8, 9] rfl)
              · skip
                refine lv_iload hx hb dX5_countsAs_126 (lv_at hl 0 rfl) ?_
                refine lv_if_eq (tgt := 135) hx hb dX5_countsAs_128 (by decide) (fun c_128 => ?_) (fun c_128 => ?_)
                · skip
                  refine lv_iconst (v := 0) hx hb dX5_countsAs_135 (by decide) ?_
                  have gx_5 : x_5 = 0 := by rw [ex_5]; simp only [if_neg c_123, if_pos c_128]
                  simp only [gx_5] at hJ
                  exact hJ _ _ _ hP hD hS (lv_sub hl [0, 1, 2, 3, 4, 5, 6, 7, 8, 9] rfl)
                · skip
                  refine lv_iconst (v := 2) hx hb dX5_countsAs_131 (by decide) ?_
                  refine lv_goto (tgt := 136) hx hb dX5_countsAs_132 (by decide) ?_
                  have gx_5 : x_5 = 2 := by rw [ex_5]; simp only [if_neg c_123, if_neg c_128]
                  simp only [gx_5] at hJ
                  exact hJ _ _ _ hP hD hS (lv_sub hl [0, 1, 2, 3, 4, 5, 6, 7, 8, 9] rfl)
            · skip
              refine lv_istore (lv' := [(5, .int x_5), (9, .int x_4), (8, .int x_3), (7, .int x_1), (6, .int mr), (4, .int (nI j)), (3, .int bf), (2, .int ((r 2) n)), (0, .ref (a 0)), (1, .int (nI n))]) hx hb dX5_countsAs_136 hl (by decide) rfl (fun ls hl => ?_)
              have gx_2 : x_2 = x_5 := by rw [ex_2]; (try simp only [ex_3, ex_4, ex_5] at c_49 ⊢) <;> simp only [if_pos c_49]
              simp only [gx_2] at hJ
              exact hJ _ _ _ hP hD hS (lv_sub hl [0, 3, 4, 5, 6, 7, 8, 9] rfl)
    · skip
      refine lv_iload hx hb dX5_countsAs_138 (lv_at hl 3 rfl) ?_
      refine lv_iload_n hx hb dX5_countsAs_140 rfl (lv_at hl 7 rfl) ?_
      obtain ⟨x_6, ex_6⟩ : ∃ zz_ : Int32, zz_ = (if (nI j) = (nI n) then (0 : Int32) else (1 : Int32)) := ⟨_, rfl⟩
      refine jW (D := D) hD hl 149 (wM cI a v r) [(5, .int x_2), (7, .int x_1), (6, .int mr), (4, .int (nI j)), (3, .int bf), (2, .int ((r 2) n)), (0, .ref (a 0)), (1, .int (nI n))] [.int x_6] (fun hJ => ?_) (fun H locs ls hP hD hS hl => ?_)
      · skip
        refine lv_icmp_eq (tgt := 148) hx hb dX5_countsAs_141 (by decide) (fun c_141 => ?_) (fun c_141 => ?_)
        · skip
          refine lv_iconst (v := 0) hx hb dX5_countsAs_148 (by decide) ?_
          have gx_6 : x_6 = 0 := by rw [ex_6]; simp only [if_pos c_141]
          simp only [gx_6] at hJ
          exact hJ _ _ _ hP hD hS (lv_sub hl [0, 1, 2, 3, 4, 5, 6, 7] rfl)
        · skip
          refine lv_iconst (v := 1) hx hb dX5_countsAs_144 (by decide) ?_
          refine lv_goto (tgt := 149) hx hb dX5_countsAs_145 (by decide) ?_
          have gx_6 : x_6 = 1 := by rw [ex_6]; simp only [if_neg c_141]
          simp only [gx_6] at hJ
          exact hJ _ _ _ hP hD hS (lv_sub hl [0, 1, 2, 3, 4, 5, 6, 7] rfl)
      · skip
        refine lv_istore (lv' := [(6, .int x_6), (5, .int x_2), (7, .int x_1), (4, .int (nI j)), (3, .int bf), (2, .int ((r 2) n)), (0, .ref (a 0)), (1, .int (nI n))]) hx hb dX5_countsAs_149 hl (by decide) rfl (fun ls hl => ?_)
        refine lv_iload hx hb dX5_countsAs_151 (lv_at hl 1 rfl) ?_
        refine lv_istore_n (lv' := [(3, .int x_2), (6, .int x_6), (5, .int x_2), (7, .int x_1), (4, .int (nI j)), (2, .int ((r 2) n)), (0, .ref (a 0)), (1, .int (nI n))]) hx hb dX5_countsAs_153 rfl hl (by decide) rfl (fun ls hl => ?_)
        refine lv_iload hx hb dX5_countsAs_154 (lv_at hl 1 rfl) ?_
        obtain ⟨x_7, ex_7⟩ : ∃ zz_ : Int32, zz_ = (if x_6 = 0 then (nI j) else x_1) := ⟨_, rfl⟩
        refine jW (D := D) hD hl 166 (wM cI a v r) [(3, .int x_2), (6, .int x_6), (5, .int x_2), (7, .int x_1), (4, .int (nI j)), (2, .int ((r 2) n)), (0, .ref (a 0)), (1, .int (nI n))] [.int x_7] (fun hJ => ?_) (fun H locs ls hP hD hS hl => ?_)
        · skip
          refine lv_if_eq (tgt := 164) hx hb dX5_countsAs_156 (by decide) (fun c_156 => ?_) (fun c_156 => ?_)
          · skip
            refine lv_iload hx hb dX5_countsAs_164 (lv_at hl 4 rfl) ?_
            have gx_7 : x_7 = (nI j) := by rw [ex_7]; simp only [if_pos c_156]
            simp only [gx_7] at hJ
            exact hJ _ _ _ hP hD hS (lv_sub hl [0, 1, 2, 3, 4, 5, 6, 7] rfl)
          · skip
            refine lv_iload hx hb dX5_countsAs_159 (lv_at hl 3 rfl) ?_
            refine lv_goto (tgt := 166) hx hb dX5_countsAs_161 (by decide) ?_
            have gx_7 : x_7 = x_1 := by rw [ex_7]; simp only [if_neg c_156]
            simp only [gx_7] at hJ
            exact hJ _ _ _ hP hD hS (lv_sub hl [0, 1, 2, 3, 4, 5, 6, 7] rfl)
        · skip
          refine lv_istore (lv' := [(4, .int x_7), (3, .int x_2), (6, .int x_6), (5, .int x_2), (7, .int x_1), (2, .int ((r 2) n)), (0, .ref (a 0)), (1, .int (nI n))]) hx hb dX5_countsAs_166 hl (by decide) rfl (fun ls hl => ?_)
          refine lv_goto (tgt := 23) hx hb dX5_countsAs_168 (by decide) ?_
          have ht : x_2 = caK (r 4 j) bf (kdA (r 2) (r 3) (r 4) N (r 2 n) j) := cn_told hki hN1 hjN ex_1 ex_2
          by_cases hjn2 : j = n
          · have e6 : x_6 = 0 := by rw [ex_6, if_pos (by rw [hjn2])]
            have e7 : x_7 = nI j := by rw [ex_7, if_pos e6]
            simp only [e6, e7] at hl
            exact ih (j, x_2, 0, x_2) _ _ _ hP hD hS (lv_sub hl [2, 3, 0, 1, 5, 6, 7] rfl) (Or.inr ⟨rfl, by rw [ht, hbf, cnA, hjn2]⟩) (by show (if (0 : Int32) = 0 then 0 else n - j + 1) < (if mr = 0 then 0 else n - j + 1); rw [if_pos rfl, if_neg c_25]; omega)
          · obtain ⟨i, ei, hki1, hi, hil, hia, hno⟩ := nx_sp (lof := r 2) (wh := r 3) (l := r 2 n) (N := N) (k := j + 1) (m := n) hn rfl hat (by omega)
            have e6 : x_6 = 1 := by rw [ex_6, if_neg (fun q => hjn2 (nI_inj (by omega) (by omega) q))]
            have e7 : x_7 = nI i := by rw [ex_7, if_neg (by rw [e6]; decide), ex_1, ei]
            simp only [e6, e7] at hl
            exact ih (i, x_2, 1, x_2) _ _ _ hP hD hS (lv_sub hl [2, 3, 0, 1, 5, 6, 7] rfl) (Or.inl ⟨rfl, hi, hil, hia, by rw [bfr_skip hki1 hno, bfr, if_pos ⟨hjl, hja⟩, ht, hbf]⟩) (by show (if (1 : Int32) = 0 then 0 else n - i + 1) < (if mr = 0 then 0 else n - j + 1); rw [if_neg (by decide), if_neg c_25]; omega)
