/-! THE READER: a clause, read -/
def FrA5 (o : Nat) (I' I : IT) : Prop := (∀ a, a ≠ o → a ≠ o + 4 → a ≠ o + 5 → a ≠ o + 6 → a ≠ o + 7 → a ≠ o + 8 → I' a = I a) ∧ ∀ i, i ≠ 4 → i ≠ 5 → i ≠ 12 → I' o i = I o i
def PCl (o : Nat) (t : Nat → Nat) (n m : Nat) (od : Bool) (S : ST) (L : LT) (I0 : IT) (cl k0 : Nat) (c0 : CT) (r0 : Nat × Nat × Option RC4) (r : Option Value) (S' : ST) (I' : IT) (L' : LT) : Prop := S = S' ∧ L = L' ∧ FrA5 o I' I0 ∧ ((r0.2.2 = none ∧ r = some (.int (b2i false)) ∧ ∃ k', k' ≤ m ∧ I' o 4 = nI k' ∧ pk t n k' = r0.1) ∨ ∃ x, r0.2.2 = some x ∧ r = some (.int (b2i true)) ∧ r0.2.1 ≤ 50 ∧ FrC5 o cl I' I0 ∧ x.1 < 4 ∧ x.2.1 ≤ 20 ∧ x.2.2.1.length = sms od x.1 ∧ ∃ k' c', RS I' o t n m od k' r0.2.1 c' ∧ pk t n k' = r0.1 ∧ k0 ≤ k' ∧ c0.2.2 ≤ c'.2.2 ∧ AG c0.2.2 c' c0 ∧ c'.2.2 + k0 ≤ c0.2.2 + k' + x.2.2.1.length + 1 ∧ I' (o + 4) cl = nI x.1 ∧ I' (o + 5) cl = nI x.2.1 ∧ (∀ q, q < x.2.2.1.length → ∃ s e, I' (o + 6) (cl * 4 + q) = nI s ∧ SgC c'.1 c'.2.1 c'.2.2 s e (x.2.2.1.getD q one)) ∧ (∀ q, x.2.2.1.length ≤ q → q < 3 → I' (o + 6) (cl * 4 + q) = I0 (o + 6) (cl * 4 + q)) ∧ ((I' (o + 6) (cl * 4 + 3) = I0 (o + 6) (cl * 4 + 3) ∧ x.2.2.2 = one) ∨ ∃ s e, I' (o + 6) (cl * 4 + 3) = nI s ∧ SgC c'.1 c'.2.1 c'.2.2 s e x.2.2.2 ∧ TFo x.2.2.2))
section SC
variable {I I' I2 : IT} {o : Nat}
theorem FrA5.tr (h : FrA5 o I2 I') (g : FrA5 o I' I) : FrA5 o I2 I := ⟨fun a h1 h2 h3 h4 h5 h6 => (h.1 a h1 h2 h3 h4 h5 h6).trans (g.1 a h1 h2 h3 h4 h5 h6), fun j h1 h2 h3 => (h.2 j h1 h2 h3).trans (g.2 j h1 h2 h3)⟩
theorem FrA5.rf : FrA5 o I I := ⟨fun _ _ _ _ _ _ _ => rfl, fun _ _ _ _ => rfl⟩
theorem FrY.a (h : FrY o I' I) : FrA5 o I' I := ⟨fun a h1 h2 h3 h4 h5 h6 => h.1 a h1 h4 h5 h6, h.2⟩
theorem FrW.a (h : FrW o I' I) : FrA5 o I' I := ⟨fun a h1 h2 h3 h4 h5 h6 => h.1 a h1 h3, fun i h1 h2 h3 => h.2 i h1⟩
theorem FrA5.ur {r i : Nat} {v : Int32} (h : FrA5 o I' I) (hr : r = o + 4 ∨ r = o + 5) : FrA5 o (up2 I' r i v) I := ⟨fun a h1 h2 h3 h4 h5 h6 => by rw [up2_row (by omega)]; exact h.1 a h1 h2 h3 h4 h5 h6, fun j h1 h2 h3 => by rw [up2_row (by omega)]; exact h.2 j h1 h2 h3⟩
theorem FrA5.u4 {v : Int32} (h : FrA5 o I' I) : FrA5 o (up2 I' o 4 v) I := ⟨fun a h1 h2 h3 h4 h5 h6 => by rw [up2_row h1]; exact h.1 a h1 h2 h3 h4 h5 h6, fun j h1 h2 h3 => by rw [up2_nej h1]; exact h.2 j h1 h2 h3⟩
end SC
