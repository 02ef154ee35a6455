/-! THE REFERENCE runs a clause -/
abbrev RT : Type := AT × Nat × Nat
def vI (x : Option Int) : Int32 := Int32.ofInt (x.getD (-1))
def wdR (s : RT) : WT := wdO (aq s.1) s.2.1 s.2.2
def brk (x : OC) (w : WT) : Bool := (decide (x.1 ≠ 3) && ((x.2.2.1.1 w).isNone || (x.2.2.1.2.1 w).isNone)) || (decide (x.1 = 0) && (x.2.2.1.2.2 w).isNone)
def rnA (x : OC) (s : RT) : Nat × Nat × AT := act1 s.1 x.1 (vI (x.2.2.1.1 (wdR s))) (vI (x.2.2.1.2.1 (wdR s))) (vI (x.2.2.1.2.2 (wdR s)))
def rn1 (x : OC) (s : RT) : Option RT := if x.2.2.2 (wdR s) = some 1 then (if brk x (wdR s) = true ∨ (rnA x s).1 ≠ 0 then none else some ((rnA x s).2.2, s.2.1 + 1, if x.1 = 2 then (rnA x s).2.1 + 1 else s.2.2)) else some s
theorem rn1_f {x : OC} {s : RT} (h : x.2.2.2 (wdR s) ≠ some 1) : rn1 x s = some s := by unfold rn1; rw [if_neg h]
theorem rn1_b {x : OC} {s : RT} (h : x.2.2.2 (wdR s) = some 1) (h2 : brk x (wdR s) = true ∨ (rnA x s).1 ≠ 0) : rn1 x s = none := by unfold rn1; rw [if_pos h, if_pos h2]
theorem rn1_t {x : OC} {s : RT} (h : x.2.2.2 (wdR s) = some 1) (h2 : ¬ (brk x (wdR s) = true ∨ (rnA x s).1 ≠ 0)) : rn1 x s = some ((rnA x s).2.2, s.2.1 + 1, if x.1 = 2 then (rnA x s).2.1 + 1 else s.2.2) := by unfold rn1; rw [if_pos h, if_neg h2]
theorem act1_cg {A : AT} {kd : Nat} {a b d a' b' d' : Int32} (h : kd < 3 → a = a' ∧ b = b') (h0 : kd = 0 → d = d') : act1 A kd a b d = act1 A kd a' b' d' := by
  unfold act1
  by_cases e0 : kd = 0
  · rw [if_pos e0, if_pos e0, (h (by omega)).1, (h (by omega)).2, h0 e0]
  · rw [if_neg e0, if_neg e0]
    by_cases e1 : kd = 1
    · rw [if_pos e1, if_pos e1, (h (by omega)).1, (h (by omega)).2]
    · rw [if_neg e1, if_neg e1]
      by_cases e2 : kd = 2
      · rw [if_pos e2, if_pos e2, (h (by omega)).1, (h (by omega)).2]
      · rw [if_neg e2, if_neg e2]
theorem pred1_l {n : Nat} (hn : n < 2 ^ 31) : (pred1 n).toInt64 = i64 ((n : Int) - 1) := by
  cases n with
  | zero => rw [pred1_0]; decide
  | succ n =>
    rw [pred1_s]
    have e : (nI n).toInt64 = lN n := by
      apply Int64.toInt_inj.mp
      rw [i64_lN, i64_toInt (by omega) (by omega), Int32.toInt_toInt64]
      exact nI_toInt (by omega)
    rw [e, i64_lN]
    congr 1
    omega
def FrO (o : Nat) (I' I : IT) (L' L : LT) : Prop := FrM o I' I L' L ∧ (∀ a, (a = o + 7 ∨ a = o + 8 ∨ a = o + 10 ∨ a = o + 11 ∨ a = o + 12 ∨ a = o + 34) → I' a = I a) ∧ (∀ i, (i = 21 ∨ i = 23) → I' o i = I o i) ∧ ∀ i, 1275 ≤ i → I' (o + 5) i = I (o + 5) i
theorem FrO.rf {o : Nat} {I : IT} {L : LT} : FrO o I I L L := ⟨FrM.rf, fun _ _ => rfl, fun _ _ => rfl, fun _ _ => rfl⟩
theorem FrO.tr {o : Nat} {I1 I2 I3 : IT} {L1 L2 L3 : LT} (h : FrO o I1 I2 L1 L2) (g : FrO o I2 I3 L2 L3) : FrO o I1 I3 L1 L3 := ⟨FrM.tr h.1 g.1, fun a ha => (h.2.1 a ha).trans (g.2.1 a ha), fun i hi => (h.2.2.1 i hi).trans (g.2.2.1 i hi), fun i hi => (h.2.2.2 i hi).trans (g.2.2.2 i hi)⟩
theorem FrD.o {o : Nat} {I I' : IT} {L L' : LT} (h : FrD o I' I L' L) : FrO o I' I L' L := ⟨h.1, h.2.1, fun i hi => h.2.2.1 i (by omega), h.2.2.2⟩
theorem FrR.o {o : Nat} {I I' : IT} {L L' : LT} (h : FrR o I' I L' L) : FrO o I' I L' L := ⟨fun a ha => ⟨h.1 a (by omega), h.2.2 a (by omega) (by omega)⟩, fun a ha => h.1 a (by omega), fun i hi => h.2.1 i (by omega) (by omega), fun i _ => by rw [h.1 (o + 5) (by omega)]⟩
theorem FrO.up {o i : Nat} {v : Int32} {I I' : IT} {L L' : LT} (h : FrO o I' I L' L) (hi : i ≠ 21 ∧ i ≠ 23) : FrO o (up2 I' o i v) I L' L := ⟨h.1.up (by omega), fun a ha => by rw [up2_row (by omega)]; exact h.2.1 a ha, fun j hj => by rw [up2_nej (by omega)]; exact h.2.2.1 j hj, fun j hj => by rw [up2_ne (by omega)]; exact h.2.2.2 j hj⟩
section RC
variable {E : EnT} {S : ST} {I : IT} {L : LT} {o : Nat} {A : AT} {c : CT} {w : WT}
theorem c_X12_sumOf_g (h12 : Lay12 E S o) (hM : MR o I L A) (hq : wq (aq A)) {a : Nat} (ha : a + 1 < 120) (hC : CdR I o c) (hwo : wok w) (hN : NwR L o w) (hwl : ∀ a, a < 6 → w (12 + a) = if a < aq A 0 then (aq A (74 + a) : Int) else -1) (hwn : ∀ a, a < 6 → w (18 + a) = if a < aq A 0 then (nts (aq A) a : Int) else -1) {F : SF} {off us : Bool} (hoff : I o 58 = b2i off) (hu : us = true → SU (I (o + 34)) c a F) (hz : us = false → SZ (I (o + 34)) a) : C E kX12_sumOf 4 0 0 [.ref o, .int (nI a)] S I L (fun r S' I' L' => ∃ v, r = some (.int v) ∧ S = S' ∧ FrR o I' I L' L ∧ I' o 58 = b2i (off || (us && (F w).isNone)) ∧ (off = false → us = true → ∀ x, F w = some x → v = Int32.ofInt x)) := by
  cases off with
  | true =>
    refine C_mono (c_X12_sumOf_n h12 ha hoff (Or.inl rfl)) ?_
    intro r S' I' L' hp
    obtain ⟨rfl, rfl, rfl, rfl⟩ := hp
    exact ⟨_, rfl, rfl, FrR.rf, hoff, fun z => by cases z⟩
  | false =>
    cases us with
    | false =>
      refine C_mono (c_X12_sumOf_n h12 ha hoff (Or.inr (hz rfl))) ?_
      intro r S' I' L' hp
      obtain ⟨rfl, rfl, rfl, rfl⟩ := hp
      exact ⟨_, rfl, rfl, FrR.rf, hoff, fun _ z => by cases z⟩
    | true =>
      refine C_mono (c_X12_sumOf h12 hM hq ha hC hwo hN hwl hwn hoff (hu rfl)) ?_
      intro r S' I' L' hp
      obtain ⟨v, h1, h2, h3, h4, h5⟩ := hp
      exact ⟨v, h1, h2, h3, h4, fun _ _ => h5⟩
end RC
