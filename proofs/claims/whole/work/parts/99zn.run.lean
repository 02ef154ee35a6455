/-! THE CLASS: a clause of orders is run once -/
def cF (x : RC4) (q : Nat) : SF := if q = 3 then x.2.2.2 else x.2.2.1.getD q one
theorem rI_one (w : WT) : nI 1 = rI (one w) := rfl
theorem getD_ge {l : List SF} {q : Nat} (h : l.length ≤ q) : l.getD q one = one := by
  rw [List.getD_eq_getElem?_getD, List.getElem?_eq_none h]; rfl
theorem rI_none {x : Option Int} (h : ∀ v, x = some v → sml v) : rI x = -2000000000 ↔ x = none := by
  cases x with
  | none => exact ⟨fun _ => rfl, fun _ => rfl⟩
  | some v => exact ⟨fun z => absurd z (i32_min (h v rfl)), fun z => by cases z⟩
theorem rI_vI {x : Option Int} (h : x ≠ none) : rI x = vI x := by
  cases x with
  | none => exact absurd rfl h
  | some v => rfl
section RU
variable {E : EnT} {S : ST} {I : IT} {L : LT} {B a t wa : Nat} {w : WT} {d : RdT}
theorem TxG.cg {I' : IT} {od : Bool} (h : TxG E S I a od d) (e : ∀ x, a ≤ x → x ≤ a + 5 → I' x = I x) : TxG E S I' a od d := by
  obtain ⟨h12, c, h1, h2, h3, h4, h5⟩ := h
  refine ⟨h12, c, h1, h2, by rw [e a (by omega) (by omega)]; exact h3, ?_, ?_⟩
  · rw [e (a + 4) (by omega) (by omega), e (a + 5) (by omega) (by omega)]; exact h4
  · rw [e (a + 1) (by omega) (by omega), e (a + 2) (by omega) (by omega), e (a + 3) (by omega) (by omega)]; exact h5
theorem TxG.sm {od : Bool} {j q : Nat} {v : Int} (h : TxG E S I a od d) (hj : j < d.1) (hq : q < 4) (hw : wok w) (hv : cF (d.2 j) q w = some v) : sml v := by
  obtain ⟨h12, c, h1, h2, h3, h4, h5⟩ := h
  have ha : ∀ k, k < c.2.2 → c.2.1 k ≤ 1000 := fun k hk => (h4 k hk).2.2.2.1
  have h1 : ∀ {u : Int}, one w = some u → sml u := fun {u} hu => by
    have : (1 : Int) = u := Option.some.inj hu
    rw [← this]; unfold sml; omega
  obtain ⟨a1, a2, a3, a4, a5, a6, a7, a8⟩ := h5 j hj
  unfold cF at hv
  by_cases e3 : q = 3
  · rw [if_pos e3] at hv
    rcases a8 with ⟨b1, b2⟩ | ⟨s, e, b1, b2, b3⟩
    · rw [b2] at hv; exact h1 hv
    · exact b2.sm ha hw hv
  · rw [if_neg e3] at hv
    by_cases hl : q < (d.2 j).2.2.1.length
    · obtain ⟨s, e, b1, b2⟩ := a6 q hl
      exact b2.sm ha hw hv
    · rw [getD_ge (by omega)] at hv; exact h1 hv
theorem TxG.tf {od : Bool} {j : Nat} {v : Int} (h : TxG E S I a od d) (hj : j < d.1) (hw : wok w) (hv : (d.2 j).2.2.2 w = some v) : v = 0 ∨ v = 1 := by
  obtain ⟨h12, c, h1, h2, h3, h4, h5⟩ := h
  obtain ⟨a1, a2, a3, a4, a5, a6, a7, a8⟩ := h5 j hj
  rcases a8 with ⟨b1, b2⟩ | ⟨s, e, b1, b2, b3⟩
  · rw [b2] at hv
    have : (1 : Int) = v := Option.some.inj hv
    exact Or.inr this.symm
  · exact b3 w hw v hv
/-- a sum of a clause is reckoned -/
def PRk (S : ST) (I : IT) (L : LT) (t : Nat) (v : Int32) (r : Option Value) (S' : ST) (I' : IT) (L' : LT) : Prop := r = some (.int v) ∧ S = S' ∧ L = L' ∧ ∀ x, x ≠ t + 1 → I' x = I x
theorem TxG.rk {j q : Nat} (h : TxG E S I a true d) (h6 : Lay6 E S t) (hw : isA E S wa 0 24) (hat : a + 4 ≠ t + 1 ∧ a + 5 ≠ t + 1 ∧ wa ≠ t + 1) (hwo : wok w) (hwd : ∀ j, wdk true j → I wa j = Int32.ofInt (w j)) (hj : j < d.1) (hq : q < 4) : ∃ b, I (a + 3) (j * 4 + q) = b ∧ C E kX6_reckon 1 0 0 [.ref t, .ref a, .int b, .ref wa] S I L (PRk S I L t (rI (cF (d.2 j) q w))) := by
  obtain ⟨h12, c, h1, h2, h3, h4, h5⟩ := h
  obtain ⟨a1, a2, a3, a4, a5, a6, a7, a8⟩ := h5 j hj
  have hI : ItM I a c.2.2 c.1 c.2.1 := fun k hk => by
    obtain ⟨b1, b2, b3, b4, b5⟩ := h4 k hk
    exact ⟨b1, b2, b3, b4, fun z => (wdk_t.mp (b5 z)).1⟩
  have hwd2 : ∀ k, k < c.2.2 → c.1 k = 1 → I wa (c.2.1 k) = Int32.ofInt (w (c.2.1 k)) := fun k hk z => hwd _ ((h4 k hk).2.2.2.2 z)
  have hone : I (a + 3) (j * 4 + q) = -1 → cF (d.2 j) q = one → ∃ b, I (a + 3) (j * 4 + q) = b ∧ C E kX6_reckon 1 0 0 [.ref t, .ref a, .int b, .ref wa] S I L (PRk S I L t (rI (cF (d.2 j) q w))) := fun z1 z2 => by
    refine ⟨-1, z1, ?_⟩
    rw [z2]
    exact (c_X6_reckon_n h6).imp fun r S' I' L' hp => ⟨hp.1, hp.2.1.symm, hp.2.2.2.symm, fun x _ => by rw [hp.2.2.1]⟩
  have hsg : ∀ s e F, I (a + 3) (j * 4 + q) = nI s → SgC c.1 c.2.1 c.2.2 s e F → cF (d.2 j) q = F → ∃ b, I (a + 3) (j * 4 + q) = b ∧ C E kX6_reckon 1 0 0 [.ref t, .ref a, .int b, .ref wa] S I L (PRk S I L t (rI (cF (d.2 j) q w))) := fun s e F z1 z2 z3 => by
    obtain ⟨b2, b3, b4, b5, d1, b6, b7⟩ := z2
    obtain ⟨fuel, hev⟩ := b7.ev (w := w) (by omega) hwo
    refine ⟨nI s, z1, ?_⟩
    rw [z3]
    exact c_X6_reckon h6 h1 hw h2 hat hI hwo hwd2 b2 b3 b4 b5 hev
  by_cases e3 : q = 3
  · subst e3
    rcases a8 with ⟨b1, b2⟩ | ⟨s, e, b1, b2, b3⟩
    · exact hone b1 b2
    · exact hsg s e _ b1 b2 rfl
  · have ec : cF (d.2 j) q = (d.2 j).2.2.1.getD q one := if_neg e3
    by_cases hl : q < (d.2 j).2.2.1.length
    · obtain ⟨s, e, b1, b2⟩ := a6 q hl
      exact hsg s e _ b1 b2 ec
    · exact hone (a7 q (by omega) (by omega)) (ec.trans (getD_ge (by omega)))
theorem brk_d {x : RC4} (hl : x.2.2.1.length = sms true x.1) (hk : x.1 < 4) : brk (toO x) w = true ↔ cF x 0 w = none ∨ cF x 1 w = none ∨ cF x 2 w = none := by
  have e0 : cF x 0 = x.2.2.1.getD 0 one := if_neg (by decide)
  have e1 : cF x 1 = x.2.2.1.getD 1 one := if_neg (by decide)
  have e2 : cF x 2 = x.2.2.1.getD 2 one := if_neg (by decide)
  have f0 : brk (toO x) w = ((decide (x.1 ≠ 3) && ((cF x 0 w).isNone || (cF x 1 w).isNone)) || (decide (x.1 = 0) && (cF x 2 w).isNone)) := by rw [e0, e1, e2]; rfl
  have n1 : one w ≠ none := fun z => by cases z
  rw [f0]
  unfold sms at hl
  rw [if_pos rfl] at hl
  by_cases k0 : x.1 = 0
  · rw [k0]; simp [Option.isNone_iff_eq_none, or_assoc]
  · rw [if_neg k0] at hl
    by_cases k3 : x.1 = 3
    · rw [if_pos k3] at hl
      rw [e0, e1, e2, getD_ge (by omega), getD_ge (by omega), getD_ge (by omega), k3]
      simp [n1]
    · rw [if_neg k3] at hl
      rw [e2, getD_ge (by omega)]
      simp [k0, k3, n1, Option.isNone_iff_eq_none]
end RU
