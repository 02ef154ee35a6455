/-! THE READER: a clause -/
abbrev RC4 : Type := Nat × Nat × List SF × SF
/-- a clause: where, parts so far, its kind, times, sums and test -/
def rdC (t : Nat → Nat) (n : Nat) (od : Bool) (p l : Nat) : Nat × Nat × Option RC4 :=
  if (if od = true then 12 else 8) ≤ tc t n p ∧ tc t n p < (if od = true then 12 else 8) + 4 then
    bq (rdS t n od (tc t n p - (if od = true then 12 else 8)) (sms od (tc t n p - (if od = true then 12 else 8))) 0 (nxt t n p) l) fun p1 l1 fs => bq (rdT t n od p1 l1) fun p2 l2 tm => bq (rdI t n od p2 l2) fun p3 l3 T => (p3, l3, some (tc t n p - (if od = true then 12 else 8), tm, fs, T))
  else (p, l, none)
/-- what reading a clause leaves -/
def FrC5 (o cl : Nat) (I' I : IT) : Prop := (∀ a, a ≠ o → a ≠ o + 4 → a ≠ o + 5 → a ≠ o + 6 → a ≠ o + 7 → a ≠ o + 8 → I' a = I a) ∧ (∀ i, i ≠ 4 → i ≠ 5 → i ≠ 12 → I' o i = I o i) ∧ (∀ z, z ≠ cl → I' (o + 4) z = I (o + 4) z ∧ I' (o + 5) z = I (o + 5) z) ∧ ∀ z, (z < cl * 4 ∨ cl * 4 + 4 ≤ z) → I' (o + 6) z = I (o + 6) z
