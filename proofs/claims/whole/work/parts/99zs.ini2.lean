/-! CONSTRUCTORS: objects that make objects -/
def qz : Nat → Nat := fun i => if i = 6 then 2 else 0
theorem qz_0 {i : Nat} (h : i ≠ 6) : qz i = 0 := if_neg h
/-- grown by k cells -/
def GR (E : EnT) (S1 : ST) (I1 : IT) (L1 : LT) (k : Nat) (S2 : ST) (I2 : IT) (L2 : LT) : Prop := S2.1 = S1.1 + k ∧ Ext E S1 S2 (fun _ => True) ∧ BL E S2 I2 L2 ∧ L1 = L2 ∧ ∀ x, x < eB E + S1.1 → I2 x = I1 x
/-- the object at o is half made: k cells more -/
def PB (E : EnT) (S0 : ST) (I0 : IT) (L0 : LT) (o k : Nat) (S : ST) (I : IT) (L : LT) : Prop := S.1 = S0.1 + k ∧ Ext E S0 S (fun x => x ≠ o) ∧ BL E S I L ∧ L0 = L ∧ ∀ x, x < o → I x = I0 x
section NW
variable {E : EnT} {S S0 S1 S2 : ST} {I I0 I1 I2 : IT} {L L0 L1 L2 : LT} {o k m t n : Nat}
theorem CA.gr {ci i : Nat} {tb : List (Nat × Nat × Nat)} (h : CA E (psh E S1 ci 0) (eB E + S1.1) tb i S2 I2 L2) (hL : L1 = L2) (hI : ∀ x, x < eB E + S1.1 → I2 x = I1 x) : GR E S1 I1 L1 (i + 1) S2 I2 L2 := ⟨by have : S2.1 = S1.1 + 1 + i := h.1; omega, Ext.tn Ext.pu h.2.1 (fun z => by have := z.2; omega), h.2.2.1, hL, hI⟩
theorem PB.rf (hB : BL E S I L) : PB E S I L o 0 S I L := ⟨rfl, Ext.rf, hB, rfl, fun _ _ => rfl⟩
theorem PB.new (h : PB E S0 I0 L0 o k S I L) (g : GR E S I L m S2 I2 L2) (ho1 : o + 1 = eB E + S0.1) : PB E S0 I0 L0 o (k + m) S2 I2 L2 := ⟨by have := h.1; have := g.1; omega, h.2.1.tr (g.2.1.wk fun _ _ => trivial), g.2.2.1, h.2.2.2.1.trans g.2.2.2.1, fun x hx => (g.2.2.2.2 x (by have := h.1; omega)).trans (h.2.2.2.2 x hx)⟩
theorem PB.put {f : Nat} {v : Option Nat} (h : PB E S0 I0 L0 o k S I L) (ho1 : o + 1 = eB E + S0.1) : PB E S0 I0 L0 o k (S.1, S.2.1, up2 S.2.2 o f v) I L := ⟨h.1, h.2.1.tr Ext.uS, h.2.2.1.uS (by have := h.1; omega), h.2.2.2⟩
theorem PB.putq {a f : Nat} {v : Option Nat} (h : PB E S0 I0 L0 o k S I L) (ho1 : o + 1 = eB E + S0.1) (ha : o < a) (ha2 : a ≤ o + k) : PB E S0 I0 L0 o k (S.1, S.2.1, up2 S.2.2 a f v) I L := ⟨h.1, h.2.1.tn (a := a) Ext.uS (fun z => by have := z.2; omega), h.2.2.1.uS (by have := h.1; omega), h.2.2.2⟩
theorem PB.arr (h : PB E S0 I0 L0 o k S I L) : PB E S0 I0 L0 o (k + 1) (psh E S t n) I L := ⟨by show S.1 + 1 = _; have := h.1; omega, h.2.1.tr Ext.pu, h.2.2.1.pu, h.2.2.2⟩
theorem PB.ui {a f : Nat} {v : Int32} (h : PB E S0 I0 L0 o k S I L) (ho1 : o + 1 = eB E + S0.1) (ha : o ≤ a) (ha2 : a ≤ o + k) : PB E S0 I0 L0 o k S (up2 I a f v) L := ⟨h.1, h.2.1, h.2.2.1.u2 (by have := h.1; omega), h.2.2.2.1, fun x hx => by rw [up2_row (by omega)]; exact h.2.2.2.2 x hx⟩
theorem PB.e (h : PB E S0 I0 L0 o k S I L) (ho1 : o + 1 = eB E + S0.1) : eB E + S.1 = o + 1 + k := by have := h.1; omega
theorem PB.gr {ci : Nat} (h : PB E (psh E S1 ci 0) I1 L1 (eB E + S1.1) k S I L) : GR E S1 I1 L1 (k + 1) S I L := ⟨by have : S.1 = S1.1 + 1 + k := h.1; omega, Ext.tn Ext.pu h.2.1 (fun z => by have := z.2; omega), h.2.2.1, h.2.2.2.1, fun x hx => h.2.2.2.2 x hx⟩
theorem VlM_new (hB : ∀ q, o < q → q ≤ o + 6 → ∀ j, I q j = 0) (e : I1 = up2 (upr (up2 I o 0 (nI 0)) (o + 4) (fun j => if j < 6 then (-1) else (up2 I o 0 (nI 0)) (o + 4) j)) (o + 6) 1 (nI 2)) : VlM I1 o qz := by
  subst e
  have z : ∀ q j, q ≠ o + 4 → q ≠ o + 6 → o < q → q ≤ o + 6 → up2 (upr (up2 I o 0 (nI 0)) (o + 4) (fun j => if j < 6 then (-1) else (up2 I o 0 (nI 0)) (o + 4) j)) (o + 6) 1 (nI 2) q j = nI 0 := fun q j h1 h2 h3 h4 => by
    rw [up2_row h2, upr_row h1, up2_row (by omega), hB q h3 h4 j]; rfl
  refine ⟨?_, fun i hi => ?_, fun i hi => ?_, fun i hi => ?_, fun i hi => ?_, fun i hi => ?_, fun i hi => ?_⟩
  · rw [up2_row (by omega), upr_row (by omega), up2_self]; rfl
  · rw [z _ _ (by omega) (by omega) (by omega) (by omega), qz_0 (by omega)]
  · rw [z _ _ (by omega) (by omega) (by omega) (by omega), qz_0 (by omega)]
  · rw [z _ _ (by omega) (by omega) (by omega) (by omega), qz_0 (by omega)]
  · rw [up2_row (by omega), upr_self, if_pos hi, qz_0 (by omega), pred1_0]
  · rw [z _ _ (by omega) (by omega) (by omega) (by omega), qz_0 (by omega)]
  · by_cases e : i = 1
    · subst e; rw [up2_self]; rfl
    · rw [up2_nej e, upr_row (by omega), up2_row (by omega), hB (o + 6) (by omega) (by omega), qz_0 (by omega)]; rfl
def PN9 (E : EnT) (S : ST) (I : IT) (L : LT) (r : Option Value) (S' : ST) (I' : IT) (L' : LT) : Prop := r = none ∧ GR E S I L 7 S' I' L' ∧ Lay9 E S' (eB E + S.1) ∧ VlM I' (eB E + S.1) qz
theorem c_X9_new (hB : BL E S I L) : C E kX9_init 1 6 75 [.ref (eB E + S.1)] (psh E S 9 0) I L (PN9 E S I L) := by
  refine (c_X9_init (S := psh E S 9 0) isO_psh rfl hB.pu).imp fun r S' I' L' hp => ?_
  obtain ⟨h1, h2, h3, h4, h5⟩ := hp
  refine ⟨h1, h2.gr h5.symm fun x hx => ?_, h3, VlM_new (fun q h6 h7 j => (hB q (by omega) j).1) h4⟩
  rw [h4, up2_row (by omega), upr_row (by omega), up2_row (by omega)]
/-- Judge -/
theorem c_X3_init (ho : isO E S o 3) (ho1 : o + 1 = eB E + S.1) (hB : BL E S I L) (h6 : Lay6 E S t) (hto : t < o) : C E kX3_init 1 1 24 [.ref o, .ref t] S I L (fun r S' I' L' => r = none ∧ PB E S I L o 1 S' I' L' ∧ Lay3 E S' o t) := by
  have hf := hB.fr
  have hO2 : isO E (psh E S (13 + 0) 24) o 3 := ho.ext (P := fun _ => True) Ext.pu
  have hO3 : isO E ((psh E S (13 + 0) 24).1, (psh E S (13 + 0) 24).2.1, up2 (psh E S (13 + 0) 24).2.2 o 1 (some (eB E + S.1))) o 3 := hO2.ext (P := fun x => x ≠ o) Ext.uS
  refine C_of (by decide) (Nat.le_of_ble_eq_true rfl) ?_
  refine V_aload_n (pc := 0) dX3_init_0 rfl ?_
  refine V_objInit (pc := 1) dX3_init_1 mlX3_3 imO coO (Nat.le_of_ble_eq_true rfl) (Nat.le_of_ble_eq_true rfl) ?_
  refine V_aload_n (pc := 4) dX3_init_4 rfl ?_
  refine V_bipush (pc := 5) (v := nI 24) dX3_init_5 (by decide) ?_
  refine V_newarray (pc := 7) (t := 0) dX3_init_7 (by decide) acI (by first | decide | omega) (by assumption) (by first | decide | omega) (by first | decide | omega) ?_
  refine V_putR (pc := 9) 3 1 dX3_init_9 flX3_11 (by decide) (by decide) (Or.inr ⟨rfl, rfl, rfl⟩) rfl rfl (by assumption) ?_
  refine V_aload_n (pc := 12) dX3_init_12 rfl ?_
  refine V_aload_n (pc := 13) dX3_init_13 rfl ?_
  refine V_putR (pc := 14) 3 0 dX3_init_14 flX3_17 (by decide) (by decide) (Or.inr ⟨rfl, rfl, rfl⟩) rfl rfl (by assumption) ?_
  refine V_vret (pc := 17) dX3_init_17 rfl (by first | decide | omega) (by first | decide | omega) ?_
  have e1 : Ext E S ((psh E S (13 + 0) 24).1, (psh E S (13 + 0) 24).2.1, up2 (up2 (psh E S (13 + 0) 24).2.2 o 1 (some (eB E + S.1))) o 0 (some t)) (fun x => x ≠ o) := (Ext.pu.tr Ext.uS).tr Ext.uS
  refine ⟨rfl, ((PB.rf hB).arr.put ho1).put ho1, ho.ext e1, ?_, h6.ext e1 (by omega), ?_, ?_⟩
  · exact up2_self
  · show up2 (up2 _ o 1 _) o 0 _ o 1 = _
    rw [up2_nej (by omega), up2_self, ← ho1]
  · rw [ho1]
    exact ((isA_psh (E := E) (S := S) (t := 0) (n := 24)).ext (P := fun x => x ≠ o) Ext.uS).ext (P := fun x => x ≠ o) Ext.uS
/-- Generations -/
theorem c_X1_init {w j d : Nat} (ho : isO E S o 1) (ho1 : o + 1 = eB E + S.1) (hB : BL E S I L) (hd : Lay0 E S d w j t) (hdo : d + 238 < o ∧ j < o ∧ t < o) : C E kX1_init 2 7 82 [.ref o, .ref d] S I L (fun r S' I' L' => r = none ∧ PB E S I L o 7 S' I' L' ∧ Lay1 E S' o w j t d ∧ VlM I' (o + 1) qz) := by
  have hf := hB.fr
  refine C_of (by decide) (Nat.le_of_ble_eq_true rfl) ?_
  refine V_aload_n (pc := 0) dX1_init_0 rfl ?_
  refine V_objInit (pc := 1) dX1_init_1 mlX1_3 imO coO (Nat.le_of_ble_eq_true rfl) (Nat.le_of_ble_eq_true rfl) ?_
  refine V_aload_n (pc := 4) dX1_init_4 rfl ?_
  refine V_new (pc := 5) 9 dX1_init_5 clX1_9 it9 iz9 (by decide) (by decide) (by assumption) (by first | decide | omega) (by first | decide | omega) ?_
  refine V_dup (pc := 8) dX1_init_8 rfl ?_
  refine V_callI (pc := 9) (c_X9_new hB) dX1_init_9 mlX1_11 mkX9_init rfl rfl ⟨Nat.le_of_ble_eq_true rfl, Nat.le_of_ble_eq_true rfl⟩ (Nat.le_of_ble_eq_true rfl) ⟨Nat.le_of_ble_eq_true rfl, Nat.le_of_ble_eq_true rfl⟩ (fun r S' I' L' hp => ?_)
  obtain ⟨rfl, hG, hL9, hV⟩ := hp
  rw [← ho1] at hL9 hV
  have hP := (PB.rf (o := o) hB).new hG ho1
  have hO2 : isO E S' o 1 := ho.ext (P := fun _ => True) hG.2.1
  have hO3 : isO E (S'.1, S'.2.1, up2 S'.2.2 o 1 (some (eB E + S.1))) o 1 := hO2.ext (P := fun x => x ≠ o) Ext.uS
  have hO4 : isO E ((S'.1, S'.2.1, up2 S'.2.2 o 1 (some (eB E + S.1))).1, (S'.1, S'.2.1, up2 S'.2.2 o 1 (some (eB E + S.1))).2.1, up2 (S'.1, S'.2.1, up2 S'.2.2 o 1 (some (eB E + S.1))).2.2 o 0 (some d)) o 1 := hO3.ext (P := fun x => x ≠ o) Ext.uS
  refine V_putR (pc := 12) 1 1 dX1_init_12 flX1_12 (by decide) (by decide) (Or.inr ⟨rfl, rfl, rfl⟩) rfl rfl (by assumption) ?_
  refine V_aload_n (pc := 15) dX1_init_15 rfl ?_
  refine V_iconst (pc := 16) (v := nI 0) dX1_init_16 (by decide) ?_
  refine V_putI (pc := 17) 1 2 dX1_init_17 flX1_18 (by decide) (by decide) (Or.inl rfl) rfl rfl (by assumption) ?_
  refine V_aload_n (pc := 20) dX1_init_20 rfl ?_
  refine V_aload_n (pc := 21) dX1_init_21 rfl ?_
  refine V_putR (pc := 22) 1 0 dX1_init_22 flX1_22 (by decide) (by decide) (Or.inr ⟨rfl, rfl, rfl⟩) rfl rfl (by assumption) ?_
  refine V_vret (pc := 25) dX1_init_25 rfl (by first | decide | omega) (by first | decide | omega) ?_
  have e1 : Ext E S (S'.1, S'.2.1, up2 (up2 S'.2.2 o 1 (some (eB E + S.1))) o 0 (some d)) (fun x => x ≠ o) := ((hG.2.1.wk fun _ _ => trivial).tr Ext.uS).tr Ext.uS
  have e2 : Ext E S' (S'.1, S'.2.1, up2 (up2 S'.2.2 o 1 (some (eB E + S.1))) o 0 (some d)) (fun x => x ≠ o) := Ext.uS.tr Ext.uS
  refine ⟨rfl, (((hP.put ho1).ui (f := 2) (v := nI 0) ho1 (Nat.le_refl _) (by omega)).put ho1), ⟨ho.ext e1, up2_self, ?_, ?_, hL9.ext e2 (by omega)⟩, hV.cg fun a a1 a2 => up2_row (by omega)⟩
  · exact hd.ext e1 (by omega) (by omega) (by omega) (by omega) (by omega) (fun i hi => by omega) (by omega) (by omega) (by omega) (fun i hi => by omega)
  · show up2 (up2 _ o 1 _) o 0 _ o 1 = _
    rw [up2_nej (by omega), up2_self, ho1]
end NW
