/-- THE FIRST STATE: what both constructors leave -/
def v00 : Nat → Int32 := fun i => if i = 1 then 1 else 0
def rC0 : Rw := rU (fun _ _ => 0) 10 (upd (fun _ => 0) 0 (-1))
theorem inv_0 {q : Rw} (q1 : ∀ j, j < 30 → q 1 j = -1) (qz : ∀ i, ¬ i = 1 → i ≤ 11 → q i = fun _ => 0) : INV v00 rC0 v00 q := by
  have rz : ∀ i, ¬ i = 10 → rC0 i = fun _ => 0 := fun i hi => rU_n hi
  have r10 : rC0 10 = upd (fun _ => 0) 0 (-1) := rU_s _ _ _
  refine ⟨0, 1, 0, 0, 0, fun _ => 0, fun _ => 0, ⟨⟨by omega, by omega, by omega⟩, fun n _ => ⟨0, by omega, ?_⟩, fun j hj => Or.inl (q1 j hj), fun n hn => absurd hn (Nat.not_lt_zero _), fun n hn => absurd hn (Nat.not_lt_zero _), q1 0 (by omega), fun j _ hj => q1 j hj⟩, ⟨by omega, by omega, ?_⟩, ⟨rfl, rfl⟩, ⟨rfl, rfl⟩, ⟨rfl, rfl⟩, rfl, ⟨rfl, rfl, rfl, rfl, rfl, fun j hj => absurd hj (by omega)⟩, ⟨?_, ?_, ?_, ?_, ?_⟩, fun n hn => absurd hn (Nat.not_lt_zero _), fun n hn => absurd hn (Nat.not_lt_zero _), fun j hj => ?_, fun j hj hj2 => ?_⟩
  · rw [qz 2 (by decide) (by decide)]; rfl
  · have := cn_last (fun j => decide (q 1 j = -1)) 0
    have e : cnB (fun j => decide (q 1 j = -1)) 0 0 = 0 := rfl
    rw [Nat.zero_add] at this
    omega
  · rw [rz 2 (by decide), qz 2 (by decide) (by decide)]
  · rw [rz 3 (by decide), qz 3 (by decide) (by decide)]
  · rw [rz 4 (by decide), qz 4 (by decide) (by decide)]
  · rw [rz 5 (by decide), qz 8 (by decide) (by decide)]
  · rw [rz 6 (by decide), qz 9 (by decide) (by decide)]
  · rw [r10, show j = 0 by omega, pk_us, q1 0 (by omega)]
  · rw [r10, pk_un (by omega)]
