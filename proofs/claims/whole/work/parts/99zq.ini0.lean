/-! CONSTRUCTORS: rows that an object makes for itself -/
def CA (E : EnT) (S0 : ST) (o : Nat) (tb : List (Nat × Nat × Nat)) (i : Nat) (S1 : ST) (I1 : IT) (L1 : LT) : Prop := S1.1 = S0.1 + i ∧ Ext E S0 S1 (fun x => x ≠ o) ∧ BL E S1 I1 L1 ∧ ∀ j, j < i → S1.2.2 o (tb.getD j (0, 0, 0)).1 = some (o + 1 + j) ∧ isA E S1 (o + 1 + j) (tb.getD j (0, 0, 0)).2.1 (tb.getD j (0, 0, 0)).2.2
theorem BL.uL {E : EnT} {S : ST} {I : IT} {L : LT} {a i : Nat} {v : Int64} (h : BL E S I L) (ha : a < eB E + S.1) : BL E S I (up2 L a i v) := fun q hq j => by
  rw [up2_row (show q ≠ a by omega)]; exact h q hq j
section CA1
variable {E : EnT} {S0 S1 : ST} {I1 : IT} {L1 : LT} {o i : Nat} {tb : List (Nat × Nat × Nat)}
theorem CA.u {a j : Nat} {v : Int32} (h : CA E S0 o tb i S1 I1 L1) (ho1 : o + 1 = eB E + S0.1) (ha : a ≤ o + i) : CA E S0 o tb i S1 (up2 I1 a j v) L1 := ⟨h.1, h.2.1, h.2.2.1.u2 (by have := h.1; omega), h.2.2.2⟩
theorem CA.ur {a : Nat} {g : Nat → Int32} (h : CA E S0 o tb i S1 I1 L1) (ho1 : o + 1 = eB E + S0.1) (ha : a ≤ o + i) : CA E S0 o tb i S1 (upr I1 a g) L1 := ⟨h.1, h.2.1, h.2.2.1.ur (by have := h.1; omega), h.2.2.2⟩
theorem CA.uL {a j : Nat} {v : Int64} (h : CA E S0 o tb i S1 I1 L1) (ho1 : o + 1 = eB E + S0.1) (ha : a ≤ o + i) : CA E S0 o tb i S1 I1 (up2 L1 a j v) := ⟨h.1, h.2.1, h.2.2.1.uL (by have := h.1; omega), h.2.2.2⟩
theorem CA.st {k t n : Nat} (h : CA E S0 o tb i S1 I1 L1) (ho1 : o + 1 = eB E + S0.1) (hi : tb.getD i (0, 0, 0) = (k, t, n)) (hd : ∀ j, j < i → (tb.getD j (0, 0, 0)).1 ≠ k) : CA E S0 o tb (i + 1) ((psh E S1 (13 + t) n).1, (psh E S1 (13 + t) n).2.1, up2 (psh E S1 (13 + t) n).2.2 o k (some (eB E + S1.1))) I1 L1 := by
  obtain ⟨h1, h2, h3, h4⟩ := h
  have en : eB E + S1.1 = o + 1 + i := by omega
  refine ⟨by show S1.1 + 1 = _; omega, (h2.tr Ext.pu).tr Ext.uS, h3.pu.uS (by show o < eB E + (S1.1 + 1); omega), fun j hj => ?_⟩
  by_cases e : j = i
  · subst e
    rw [hi]
    refine ⟨?_, ?_⟩
    · show up2 _ o k _ o k = _
      rw [up2_self, en]
    · show isA E _ (o + 1 + j) t n
      rw [← en]; exact isA_psh.ext (P := fun x => x ≠ o) Ext.uS
  · obtain ⟨g1, g2⟩ := h4 j (by omega)
    refine ⟨?_, (g2.ext (P := fun x => x ≠ o) Ext.pu).ext (P := fun x => x ≠ o) Ext.uS⟩
    show up2 S1.2.2 o k _ o _ = _
    rw [up2_nej (hd j (by omega))]; exact g1
end CA1
