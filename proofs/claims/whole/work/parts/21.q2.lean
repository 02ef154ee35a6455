/-! loops -/
theorem loopUp {P : Nat → Prop} {n : Nat} (hx : P n) (hs : ∀ j, j < n → P (j + 1) → P j) : ∀ j, j ≤ n → P j := by
  have key : ∀ m j, j + m = n → P j := by
    intro m
    induction m with
    | zero => intro j hj; rw [show j = n by omega]; exact hx
    | succ m ih => intro j hj; exact hs j (by omega) (ih (j + 1) (by omega))
  intro j hj
  exact key (n - j) j (by omega)
theorem loopDn {P : Nat → Prop} (hx : P 0) (hs : ∀ j, P j → P (j + 1)) : ∀ j, P j := fun j => Nat.rec hx (fun n h => hs n h) j
abbrev Qd (E : EnT) (v : Value) (S2 : ST) (I2 : IT) (L2 : LT) : QT := QM E (fun r S' I' L' => r = some v ∧ S' = S2 ∧ I' = I2 ∧ L' = L2) 0 0
abbrev Qn (E : EnT) (S2 : ST) (I2 : IT) (L2 : LT) : QT := QM E (fun r S' I' L' => r = none ∧ S' = S2 ∧ I' = I2 ∧ L' = L2) 0 0
