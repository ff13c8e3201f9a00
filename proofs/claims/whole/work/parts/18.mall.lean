theorem hma_all {l : Launch} {D : va_G} {cI : ClassId} {a : Nat → Nat} {v : Nat → Int32} {r : Nat → Nat → Int32} {N : Nat} {rk : Int32 → Nat} {d : Nat} (hM : HML l D cI a v r N rk d) (hN1 : N ≤ 120) {n : Nat} (hn : n < N) (hd : rk (r 2 n) ≤ d) : HMA l D cI a v r N rk d n :=
  fun R C lev it sz w0 h0 d0 u0 e0 h5 h6 h1 h2 h3 h4 hce => c_X5_measureMatrix l D cI a v r n N d R C rk lev it sz w0 h0 d0 u0 e0 hM hN1 hn hd h5 h6 h1 h2 h3 h4 hce
/-- THE REFERENCE'S MEASURING, at every depth -/
theorem hml_all {l : Launch} {D : va_G} {cI : ClassId} {a : Nat → Nat} {v : Nat → Int32} {r : Nat → Nat → Int32} {N : Nat} {rk : Int32 → Nat} (hN : v 4 = nI N) (hN1 : N ≤ 120) (hR : HRK r N rk) (hki : ∀ i, i < N → ¬ r 4 i = -1) : ∀ d, HML l D cI a v r N rk d
  | 0 => fun x lev cr it sz w0 h0 d0 u0 e0 h => absurd h (Nat.not_lt_zero _)
  | d + 1 => fun x lev cr it sz w0 h0 d0 u0 e0 h => c_X5_measureList l D cI a v r x lev cr N d rk it sz w0 h0 d0 u0 e0 (hml_all hN hN1 hR hki d) (fun n hn hat hd => hma_all (hml_all hN hN1 hR hki d) hN1 hn hd) hR hN hN1 hki h
