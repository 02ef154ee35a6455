/-! THE READER: a clause -/
abbrev RC4 : Type := Nat × Nat × List SF × SF
/-- a clause: where, parts so far, its kind, times, sums and test -/
def rdC (t : Nat → Nat) (n : Nat) (od : Bool) (p l : Nat) : Nat × Nat × Option RC4 :=
  if (if od = true then 12 else 8) ≤ tc t n p ∧ tc t n p < (if od = true then 12 else 8) + 4 then
    bq (rdS t n od (tc t n p - (if od = true then 12 else 8)) (sms od (tc t n p - (if od = true then 12 else 8))) 0 (nxt t n p) l) fun p1 l1 fs => bq (rdT t n od p1 l1) fun p2 l2 tm => bq (rdI t n od p2 l2) fun p3 l3 T => (p3, l3, some (tc t n p - (if od = true then 12 else 8), tm, fs, T))
  else (p, l, none)
/-- what reading a clause leaves -/
def FrC5 (o cl : Nat) (I' I : IT) : Prop := (∀ a, a ≠ o → a ≠ o + 4 → a ≠ o + 5 → a ≠ o + 6 → a ≠ o + 7 → a ≠ o + 8 → I' a = I a) ∧ (∀ i, i ≠ 4 → i ≠ 5 → i ≠ 12 → I' o i = I o i) ∧ (∀ z, z ≠ cl → I' (o + 4) z = I (o + 4) z ∧ I' (o + 5) z = I (o + 5) z) ∧ ∀ z, (z < cl * 4 ∨ cl * 4 + 4 ≤ z) → I' (o + 6) z = I (o + 6) z
theorem rdS_len {t : Nat → Nat} {n : Nat} {od : Bool} {kd : Nat} : ∀ (j i p l : Nat) (fs : List SF), (rdS t n od kd j i p l).2.2 = some fs → fs.length = j := by
  intro j
  induction j with
  | zero => intro i p l fs h; cases h; rfl
  | succ j ih =>
    intro i p l fs h
    by_cases hw : i = 0 ∨ tc t n p = whd kd i
    · cases h1 : (ps t n od (FU n) 0 0 (if i = 0 then p else nxt t n p) l one).2.2 with
      | none => rw [rdS_n hw rfl rfl h1] at h; cases h
      | some F =>
        cases h2 : (rdS t n od kd j (i + 1) (ps t n od (FU n) 0 0 (if i = 0 then p else nxt t n p) l one).1 (ps t n od (FU n) 0 0 (if i = 0 then p else nxt t n p) l one).2.1).2.2 with
        | none => rw [rdS_sn hw rfl rfl h1 h2] at h; cases h
        | some gs =>
          rw [rdS_ss hw rfl rfl h1 h2] at h
          cases h
          show gs.length + 1 = j + 1
          rw [ih _ _ _ gs h2]
    · rw [rdS_f hw] at h; cases h
