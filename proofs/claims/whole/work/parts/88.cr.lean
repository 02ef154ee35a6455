/-! THE CLASS: all its cells -/
def ImC (E : EnT) (S : ST) (I : IT) (B : Nat) (m : IMT) : Prop := ∀ k, k < 2 → I (B + 2) k = b2i (m k).1 ∧ ((m k).1 = true → VgM I (B + 50 + 14 * k) (m k).2.1 ∧ LwC E S I B (B + 50 + 14 * k) (B + 30) (m k).2.1 (m k).2.2)
def TpC (I : IT) (B : Nat) (t : Nat × (Nat → Nat)) : Prop := I B 10 = nI t.1 ∧ ∀ i, i < t.1 → I (B + 16) i = nI (t.2 i)
def XC (I : IT) (B : Nat) (x : XT) : Prop := I B 11 = x.1 ∧ I (B + 21) 13 = x.2.1 ∧ I B 12 = x.2.2.1 ∧ I B 13 = x.2.2.2.1 ∧ ∀ r, r < 7 → I (B + 17) r = x.2.2.2.2 r
def PpC (I : IT) (B : Nat) (d : Nat × (Nat → Nat → Nat)) : Prop := ∃ p, wq p ∧ VlM I (B + 322) p ∧ p 0 = d.1 - 1 ∧ ∀ b, b < p 0 → nts p b = d.2 0 b ∧ p (62 + b) = d.2 1 b ∧ p (74 + b) = d.2 2 b
def TxT (E : EnT) (S : ST) (B : Nat) : Prop := ∀ g, (g = B + 36 ∨ g = B + 50 ∨ g = B + 64) → ∀ l, l < 6 → ∃ a, S.2.2 (g + 13) l = some a ∧ isO E S a 7
def CR (E : EnT) (S : ST) (B : Nat) (I : IT) (A : AT) : Prop := VgM I (B + 36) (aq A) ∧ LwC E S I B (B + 36) (B + 30) (aq A) (alw A) ∧ HsM I (B + 83) (aq A) (aun A) ∧ ImC E S I B (aim A) ∧ TpC I B (atp A) ∧ XC I B (ax A) ∧ PpC I B (adr A) ∧ TxT E S B
/-- the rows that CR speaks of; the reference, and what lies behind it -/
def lvC (B x : Nat) : Prop := x = B + 2 ∨ x = B + 16 ∨ x = B + 17 ∨ (B + 30 ≤ x ∧ x ≤ B + 77) ∨ (B + 83 ≤ x ∧ x ≤ B + 197) ∨ B + 322 ≤ x
def DdC (B : Nat) (I' I : IT) : Prop := (∀ x, lvC B x → I' x = I x) ∧ (∀ i, 10 ≤ i → i ≤ 13 → I' B i = I B i) ∧ I' (B + 21) 13 = I (B + 21) 13
def FrC (B : Nat) (I' I : IT) (L' L : LT) : Prop := ∀ x, B + 329 ≤ x → I' x = I x ∧ L' x = L x
theorem FrC.rf {B : Nat} {I : IT} {L : LT} : FrC B I I L L := fun _ _ => ⟨rfl, rfl⟩
theorem FrC.up {B a i : Nat} {I I' : IT} {L L' : LT} {v : Int32} (h : FrC B I' I L' L) (ha : a < B + 329) : FrC B (up2 I' a i v) I L' L := fun x hx => ⟨by rw [up2_row (by omega)]; exact (h x hx).1, (h x hx).2⟩
theorem FrC.tr {B : Nat} {I I' I2 : IT} {L L' L2 : LT} (h : FrC B I' I L' L) (g : FrC B I2 I' L2 L') : FrC B I2 I L2 L := fun x hx => ⟨(g x hx).1.trans (h x hx).1, (g x hx).2.trans (h x hx).2⟩
theorem FrC.to {B : Nat} {I I' I2 : IT} {L L' : LT} (h : FrC B I' I L' L) (g : ∀ x, B + 329 ≤ x → I2 x = I' x) : FrC B I2 I L' L := fun x hx => ⟨(g x hx).trans (h x hx).1, (h x hx).2⟩
theorem DdC.rf {B : Nat} {I : IT} : DdC B I I := ⟨fun _ _ => rfl, fun _ _ _ => rfl, rfl⟩
theorem DdC.tr {B : Nat} {I I' I2 : IT} (h : DdC B I' I) (g : DdC B I2 I') : DdC B I2 I := ⟨fun x hx => (g.1 x hx).trans (h.1 x hx), fun i a b => (g.2.1 i a b).trans (h.2.1 i a b), g.2.2.trans h.2.2⟩
/-- only rows that nothing speaks of -/
theorem DdC.of {B : Nat} {I I' : IT} (h : ∀ x, (lvC B x ∨ x = B ∨ x = B + 21) → I' x = I x) : DdC B I' I := ⟨fun x hx => h x (Or.inl hx), fun i _ _ => by rw [h B (Or.inr (Or.inl rfl))], by rw [h (B + 21) (Or.inr (Or.inr rfl))]⟩
theorem DdC.Fr {B : Nat} {I I' : IT} {L : LT} (h : DdC B I' I) : FrC B I' I L L := fun x hx => ⟨h.1 x (by unfold lvC; omega), rfl⟩
theorem DdC.ofj {B : Nat} {I I' : IT} (h : Fj (B + 80) (B + 78) I' I) : DdC B I' I := DdC.of fun x hx => h x (by unfold lvC at hx; omega) (by unfold lvC at hx; omega)
theorem ImC.cg {E : EnT} {S : ST} {I I' : IT} {B : Nat} {m : IMT} (h : ImC E S I B m) (e : ∀ x, (x = B + 2 ∨ (B + 30 ≤ x ∧ x ≤ B + 35) ∨ (B + 50 ≤ x ∧ x ≤ B + 77) ∨ B + 365 ≤ x) → I' x = I x) : ImC E S I' B m := by
  intro k hk
  obtain ⟨h1, h2⟩ := h k hk
  refine ⟨by rw [e _ (by omega)]; exact h1, fun ht => ⟨(h2 ht).1.cg fun a a1 a2 => e a (by omega), (h2 ht).2.cg fun x hx => e x (by omega)⟩⟩
theorem PpC.cg {I I' : IT} {B : Nat} {d : Nat × (Nat → Nat → Nat)} (h : PpC I B d) (e : ∀ x, B + 322 ≤ x → x ≤ B + 328 → I' x = I x) : PpC I' B d := by
  obtain ⟨p, h1, h2, h3⟩ := h
  exact ⟨p, h1, h2.cg fun a a1 a2 => e a (by omega) (by omega), h3⟩
section CI
variable {E : EnT} {S : ST} {I : IT} {L : LT} {B : Nat} {A : AT}
theorem CR.dd {I' : IT} (h : CR E S B I A) (d : DdC B I' I) : CR E S B I' A := by
  obtain ⟨h1, h2, h3, h4, h5, h6, h7, h8⟩ := h
  obtain ⟨d1, d2, d3⟩ := d
  refine ⟨h1.cg fun a a1 a2 => d1 a (by unfold lvC; omega), h2.cg fun x hx => d1 x (by unfold lvC; omega), h3.cg fun x a1 a2 => d1 x (by unfold lvC; omega), h4.cg fun x hx => d1 x (by unfold lvC; omega), ⟨(d2 10 (by omega) (by omega)).trans h5.1, fun i hi => by rw [d1 _ (by unfold lvC; omega)]; exact h5.2 i hi⟩, ?_, h7.cg fun x a1 a2 => d1 x (by unfold lvC; omega), h8⟩
  obtain ⟨x1, x2, x3, x4, x5⟩ := h6
  exact ⟨(d2 11 (by omega) (by omega)).trans x1, d3.trans x2, (d2 12 (by omega) (by omega)).trans x3, (d2 13 (by omega) (by omega)).trans x4, fun r hr => by rw [d1 _ (by unfold lvC; omega)]; exact x5 r hr⟩
/-- the told things anew -/
theorem CR.tx {I' : IT} {x' : XT} (h : CR E S B I A) (e : ∀ x, x ≠ B → x ≠ B + 17 → x ≠ B + 21 → I' x = I x) (e10 : I' B 10 = I B 10) (hx : XC I' B x') : CR E S B I' (sx A x') := by
  obtain ⟨h1, h2, h3, h4, h5, h6, h7, h8⟩ := h
  exact ⟨h1.cg fun a a1 a2 => e a (by omega) (by omega) (by omega), h2.cg fun x hx => e x (by omega) (by omega) (by omega), h3.cg fun x a1 a2 => e x (by omega) (by omega) (by omega), h4.cg fun x hx => e x (by omega) (by omega) (by omega), ⟨e10.trans h5.1, fun i hi => by rw [e _ (by omega) (by omega) (by omega)]; exact h5.2 i hi⟩, hx, h7.cg fun x a1 a2 => e x (by omega) (by omega) (by omega), h8⟩
/-- the tape anew -/
theorem CR.tt {I' : IT} {t' : Nat × (Nat → Nat)} (h : CR E S B I A) (e : ∀ x, x ≠ B → x ≠ B + 16 → I' x = I x) (e1 : ∀ i, 11 ≤ i → i ≤ 13 → I' B i = I B i) (ht : TpC I' B t') : CR E S B I' (stp A t') := by
  obtain ⟨h1, h2, h3, h4, h5, h6, h7, h8⟩ := h
  refine ⟨h1.cg fun a a1 a2 => e a (by omega) (by omega), h2.cg fun x hx => e x (by omega) (by omega), h3.cg fun x a1 a2 => e x (by omega) (by omega), h4.cg fun x hx => e x (by omega) (by omega), ht, ?_, h7.cg fun x a1 a2 => e x (by omega) (by omega), h8⟩
  obtain ⟨x1, x2, x3, x4, x5⟩ := h6
  exact ⟨(e1 11 (by omega) (by omega)).trans x1, by rw [e _ (by omega) (by omega)]; exact x2, (e1 12 (by omega) (by omega)).trans x3, (e1 13 (by omega) (by omega)).trans x4, fun r hr => by rw [e _ (by omega) (by omega)]; exact x5 r hr⟩
/-- what can be undone anew -/
theorem CR.tu {I' : IT} {u : UT} (h : CR E S B I A) (e : ∀ x, (x < B + 83 ∨ B + 197 < x) → I' x = I x) (hu : HsM I' (B + 83) (aq A) u) : CR E S B I' (sun A u) := by
  obtain ⟨h1, h2, h3, h4, h5, h6, h7, h8⟩ := h
  refine ⟨h1.cg fun a a1 a2 => e a (by omega), h2.cg fun x hx => e x (by omega), hu, h4.cg fun x hx => e x (by omega), ⟨by rw [e _ (by omega)]; exact h5.1, fun i hi => by rw [e _ (by omega)]; exact h5.2 i hi⟩, ?_, h7.cg fun x a1 a2 => e x (by omega), h8⟩
  obtain ⟨x1, x2, x3, x4, x5⟩ := h6
  exact ⟨by rw [e _ (by omega)]; exact x1, by rw [e _ (by omega)]; exact x2, by rw [e _ (by omega)]; exact x3, by rw [e _ (by omega)]; exact x4, fun r hr => by rw [e _ (by omega)]; exact x5 r hr⟩
/-- the village anew, its laws as they were -/
theorem CR.tq {I' : IT} {q' : Nat → Nat} (h : CR E S B I A) (e : ∀ x, (x < B + 36 ∨ B + 48 < x) → I' x = I x) (hv : VgM I' (B + 36) q') (h3 : q' 3 = aq A 3) (h0 : q' 0 = aq A 0 ∨ (aun A).1 = 0) : CR E S B I' (sq A q') := by
  obtain ⟨h1, h2, h3', h4, h5, h6, h7, h8⟩ := h
  refine ⟨hv, ?_, ?_, h4.cg fun x hx => e x (by omega), ⟨by rw [e _ (by omega)]; exact h5.1, fun i hi => by rw [e _ (by omega)]; exact h5.2 i hi⟩, ?_, h7.cg fun x a1 a2 => e x (by omega), h8⟩
  · have := h2.cg (I' := I') fun x hx => e x (by omega)
    exact ⟨fun l hl => this.1 l (by rw [← h3]; exact hl), this.2⟩
  · have hh := h3'.cg (I' := I') fun x a1 a2 => e x (by omega)
    rcases h0 with h0 | h0
    · exact hh.q0 h0
    · obtain ⟨f, g1, g2, g3, g4⟩ := hh
      exact ⟨f, g1, g2, g3, fun k hk => absurd hk (by show ¬ k < (aun A).1; omega)⟩
  · obtain ⟨x1, x2, x3, x4, x5⟩ := h6
    exact ⟨by rw [e _ (by omega)]; exact x1, by rw [e _ (by omega)]; exact x2, by rw [e _ (by omega)]; exact x3, by rw [e _ (by omega)]; exact x4, fun r hr => by rw [e _ (by omega)]; exact x5 r hr⟩
def rfuC (I : IT) (B r : Nat) : IT := up2 (up2 I B 13 (-(nI r))) (B + 17) r (I (B + 17) r + nI 1)
theorem CR.hrf (h : CR E S B I A) {r : Nat} : CR E S B (rfuC I B r) (rfs A r) := by
  obtain ⟨x1, x2, x3, x4, x5⟩ := h.2.2.2.2.2.1
  refine h.tx (fun x a1 a2 a3 => ?_) ?_ ⟨?_, ?_, ?_, ?_, fun j hj => ?_⟩
  · unfold rfuC; rw [up2_row a2, up2_row a1]
  · unfold rfuC; rw [up2_ne (by omega), up2_nej (by omega)]
  · unfold rfuC; rw [up2_ne (by omega), up2_nej (by omega)]; exact x1
  · unfold rfuC; rw [up2_ne (by omega), up2_ne (by omega)]; exact x2
  · unfold rfuC; rw [up2_ne (by omega), up2_nej (by omega)]; exact x3
  · unfold rfuC; rw [up2_ne (by omega), up2_self]
  · show rfuC I B r (B + 17) j = if j = r then _ else _
    unfold rfuC
    by_cases z : j = r
    · subst z; rw [up2_self, if_pos rfl, x5 j hj]
    · rw [up2_nej z, up2_ne (by omega), if_neg z]; exact x5 j hj
theorem CR.hok (h : CR E S B I A) : CR E S B (up2 I B 13 (nI 0)) (ok0 A) := by
  obtain ⟨x1, x2, x3, x4, x5⟩ := h.2.2.2.2.2.1
  exact h.tx (fun x a1 a2 a3 => up2_row a1) (up2_nej (by omega)) ⟨(up2_nej (by omega)).trans x1, (up2_ne (by omega)).trans x2, (up2_nej (by omega)).trans x3, up2_self, fun j hj => (up2_ne (by omega)).trans (x5 j hj)⟩
theorem rfuC_Fr {I0 : IT} {L0 : LT} {r : Nat} (h : FrC B I I0 L L0) : FrC B (rfuC I B r) I0 L L0 := (h.up (by omega)).up (by omega)
abbrev Cc (E : EnT) (k : MI) (d : Nat) (av : List Value) (S : ST) (I : IT) (L : LT) (B : Nat) (v : Value) (A' : AT) : Prop := C E k d 0 0 av S I L (fun r S' I' L' => r = some v ∧ S = S' ∧ CR E S B I' A' ∧ FrC B I' I L' L)
theorem c_X11_refuse (h11 : Lay11 E S B) {r : Nat} {v : Int32} (h0 : 0 < r) (hr : r < 7) (hv : v = -(nI r)) : Cd E kX11_refuse 0 0 0 [.ref B, .int v] S I L (.int (-(nI r))) S (rfuC I B r) L := by
  subst hv
  have ha := h11.A14
  have hc : r = 1 ∨ r = 2 ∨ r = 3 ∨ r = 4 ∨ r = 5 ∨ r = 6 := by omega
  refine C_of (by decide) (Nat.le_of_ble_eq_true rfl) ?_
  rcases hc with e | e | e | e | e | e <;> subst e
  · skip
    refine V_aload_n (pc := 0) dX11_refuse_0 rfl ?_
    refine V_iload_n (pc := 1) dX11_refuse_1 rfl ?_
    refine V_putI (pc := 2) 11 13 dX11_refuse_2 flX11_47 (by decide) (by decide) (Or.inl rfl) rfl rfl h11.o ?_
    refine V_iload_n (pc := 5) dX11_refuse_5 rfl ?_
    refine V_if_ge (pc := 6) (tgt := 26) dX11_refuse_6 (by decide) (fun c6 => absurd c6 (by decide)) (fun n6 => ?_)
    refine V_iload_n (pc := 9) dX11_refuse_9 rfl ?_
    refine V_bipush (pc := 10) (v := (-6)) dX11_refuse_10 (by decide) ?_
    refine V_icmp_lt (pc := 12) (tgt := 26) dX11_refuse_12 (by decide) (fun c12 => absurd c12 (by decide)) (fun n12 => ?_)
    refine V_aload_n (pc := 15) dX11_refuse_15 rfl ?_
    refine V_getR (pc := 16) 11 14 dX11_refuse_16 flX11_50 (by decide) h11.o h11.R14 ?_
    refine V_iload_n (pc := 19) dX11_refuse_19 rfl ?_
    refine V_ineg (pc := 20) dX11_refuse_20 ?_
    refine V_top (show (-(-(nI 1)) : Int32) = nI 1 from by decide) ?_
    refine V_dup2 (pc := 21) dX11_refuse_21 rfl rfl ?_
    refine V_iaload (pc := 22) dX11_refuse_22 h11.A14 (by first | decide | omega) (by omega) ?_
    refine V_iconst (pc := 23) (v := nI 1) dX11_refuse_23 (by decide) ?_
    refine V_iadd (pc := 24) dX11_refuse_24 ?_
    refine V_iastore (pc := 25) dX11_refuse_25 h11.A14 (by first | decide | omega) (by omega) ?_
    refine V_iload_n (pc := 26) dX11_refuse_26 rfl ?_
    refine V_iret (pc := 27) dX11_refuse_27 rfl (by first | decide | omega) (by first | decide | omega) ?_
    exact ⟨rfl, rfl, by unfold rfuC; rw [up2_ne (by omega)], rfl⟩
  · skip
    refine V_aload_n (pc := 0) dX11_refuse_0 rfl ?_
    refine V_iload_n (pc := 1) dX11_refuse_1 rfl ?_
    refine V_putI (pc := 2) 11 13 dX11_refuse_2 flX11_47 (by decide) (by decide) (Or.inl rfl) rfl rfl h11.o ?_
    refine V_iload_n (pc := 5) dX11_refuse_5 rfl ?_
    refine V_if_ge (pc := 6) (tgt := 26) dX11_refuse_6 (by decide) (fun c6 => absurd c6 (by decide)) (fun n6 => ?_)
    refine V_iload_n (pc := 9) dX11_refuse_9 rfl ?_
    refine V_bipush (pc := 10) (v := (-6)) dX11_refuse_10 (by decide) ?_
    refine V_icmp_lt (pc := 12) (tgt := 26) dX11_refuse_12 (by decide) (fun c12 => absurd c12 (by decide)) (fun n12 => ?_)
    refine V_aload_n (pc := 15) dX11_refuse_15 rfl ?_
    refine V_getR (pc := 16) 11 14 dX11_refuse_16 flX11_50 (by decide) h11.o h11.R14 ?_
    refine V_iload_n (pc := 19) dX11_refuse_19 rfl ?_
    refine V_ineg (pc := 20) dX11_refuse_20 ?_
    refine V_top (show (-(-(nI 2)) : Int32) = nI 2 from by decide) ?_
    refine V_dup2 (pc := 21) dX11_refuse_21 rfl rfl ?_
    refine V_iaload (pc := 22) dX11_refuse_22 h11.A14 (by first | decide | omega) (by omega) ?_
    refine V_iconst (pc := 23) (v := nI 1) dX11_refuse_23 (by decide) ?_
    refine V_iadd (pc := 24) dX11_refuse_24 ?_
    refine V_iastore (pc := 25) dX11_refuse_25 h11.A14 (by first | decide | omega) (by omega) ?_
    refine V_iload_n (pc := 26) dX11_refuse_26 rfl ?_
    refine V_iret (pc := 27) dX11_refuse_27 rfl (by first | decide | omega) (by first | decide | omega) ?_
    exact ⟨rfl, rfl, by unfold rfuC; rw [up2_ne (by omega)], rfl⟩
  · skip
    refine V_aload_n (pc := 0) dX11_refuse_0 rfl ?_
    refine V_iload_n (pc := 1) dX11_refuse_1 rfl ?_
    refine V_putI (pc := 2) 11 13 dX11_refuse_2 flX11_47 (by decide) (by decide) (Or.inl rfl) rfl rfl h11.o ?_
    refine V_iload_n (pc := 5) dX11_refuse_5 rfl ?_
    refine V_if_ge (pc := 6) (tgt := 26) dX11_refuse_6 (by decide) (fun c6 => absurd c6 (by decide)) (fun n6 => ?_)
    refine V_iload_n (pc := 9) dX11_refuse_9 rfl ?_
    refine V_bipush (pc := 10) (v := (-6)) dX11_refuse_10 (by decide) ?_
    refine V_icmp_lt (pc := 12) (tgt := 26) dX11_refuse_12 (by decide) (fun c12 => absurd c12 (by decide)) (fun n12 => ?_)
    refine V_aload_n (pc := 15) dX11_refuse_15 rfl ?_
    refine V_getR (pc := 16) 11 14 dX11_refuse_16 flX11_50 (by decide) h11.o h11.R14 ?_
    refine V_iload_n (pc := 19) dX11_refuse_19 rfl ?_
    refine V_ineg (pc := 20) dX11_refuse_20 ?_
    refine V_top (show (-(-(nI 3)) : Int32) = nI 3 from by decide) ?_
    refine V_dup2 (pc := 21) dX11_refuse_21 rfl rfl ?_
    refine V_iaload (pc := 22) dX11_refuse_22 h11.A14 (by first | decide | omega) (by omega) ?_
    refine V_iconst (pc := 23) (v := nI 1) dX11_refuse_23 (by decide) ?_
    refine V_iadd (pc := 24) dX11_refuse_24 ?_
    refine V_iastore (pc := 25) dX11_refuse_25 h11.A14 (by first | decide | omega) (by omega) ?_
    refine V_iload_n (pc := 26) dX11_refuse_26 rfl ?_
    refine V_iret (pc := 27) dX11_refuse_27 rfl (by first | decide | omega) (by first | decide | omega) ?_
    exact ⟨rfl, rfl, by unfold rfuC; rw [up2_ne (by omega)], rfl⟩
  · skip
    refine V_aload_n (pc := 0) dX11_refuse_0 rfl ?_
    refine V_iload_n (pc := 1) dX11_refuse_1 rfl ?_
    refine V_putI (pc := 2) 11 13 dX11_refuse_2 flX11_47 (by decide) (by decide) (Or.inl rfl) rfl rfl h11.o ?_
    refine V_iload_n (pc := 5) dX11_refuse_5 rfl ?_
    refine V_if_ge (pc := 6) (tgt := 26) dX11_refuse_6 (by decide) (fun c6 => absurd c6 (by decide)) (fun n6 => ?_)
    refine V_iload_n (pc := 9) dX11_refuse_9 rfl ?_
    refine V_bipush (pc := 10) (v := (-6)) dX11_refuse_10 (by decide) ?_
    refine V_icmp_lt (pc := 12) (tgt := 26) dX11_refuse_12 (by decide) (fun c12 => absurd c12 (by decide)) (fun n12 => ?_)
    refine V_aload_n (pc := 15) dX11_refuse_15 rfl ?_
    refine V_getR (pc := 16) 11 14 dX11_refuse_16 flX11_50 (by decide) h11.o h11.R14 ?_
    refine V_iload_n (pc := 19) dX11_refuse_19 rfl ?_
    refine V_ineg (pc := 20) dX11_refuse_20 ?_
    refine V_top (show (-(-(nI 4)) : Int32) = nI 4 from by decide) ?_
    refine V_dup2 (pc := 21) dX11_refuse_21 rfl rfl ?_
    refine V_iaload (pc := 22) dX11_refuse_22 h11.A14 (by first | decide | omega) (by omega) ?_
    refine V_iconst (pc := 23) (v := nI 1) dX11_refuse_23 (by decide) ?_
    refine V_iadd (pc := 24) dX11_refuse_24 ?_
    refine V_iastore (pc := 25) dX11_refuse_25 h11.A14 (by first | decide | omega) (by omega) ?_
    refine V_iload_n (pc := 26) dX11_refuse_26 rfl ?_
    refine V_iret (pc := 27) dX11_refuse_27 rfl (by first | decide | omega) (by first | decide | omega) ?_
    exact ⟨rfl, rfl, by unfold rfuC; rw [up2_ne (by omega)], rfl⟩
  · skip
    refine V_aload_n (pc := 0) dX11_refuse_0 rfl ?_
    refine V_iload_n (pc := 1) dX11_refuse_1 rfl ?_
    refine V_putI (pc := 2) 11 13 dX11_refuse_2 flX11_47 (by decide) (by decide) (Or.inl rfl) rfl rfl h11.o ?_
    refine V_iload_n (pc := 5) dX11_refuse_5 rfl ?_
    refine V_if_ge (pc := 6) (tgt := 26) dX11_refuse_6 (by decide) (fun c6 => absurd c6 (by decide)) (fun n6 => ?_)
    refine V_iload_n (pc := 9) dX11_refuse_9 rfl ?_
    refine V_bipush (pc := 10) (v := (-6)) dX11_refuse_10 (by decide) ?_
    refine V_icmp_lt (pc := 12) (tgt := 26) dX11_refuse_12 (by decide) (fun c12 => absurd c12 (by decide)) (fun n12 => ?_)
    refine V_aload_n (pc := 15) dX11_refuse_15 rfl ?_
    refine V_getR (pc := 16) 11 14 dX11_refuse_16 flX11_50 (by decide) h11.o h11.R14 ?_
    refine V_iload_n (pc := 19) dX11_refuse_19 rfl ?_
    refine V_ineg (pc := 20) dX11_refuse_20 ?_
    refine V_top (show (-(-(nI 5)) : Int32) = nI 5 from by decide) ?_
    refine V_dup2 (pc := 21) dX11_refuse_21 rfl rfl ?_
    refine V_iaload (pc := 22) dX11_refuse_22 h11.A14 (by first | decide | omega) (by omega) ?_
    refine V_iconst (pc := 23) (v := nI 1) dX11_refuse_23 (by decide) ?_
    refine V_iadd (pc := 24) dX11_refuse_24 ?_
    refine V_iastore (pc := 25) dX11_refuse_25 h11.A14 (by first | decide | omega) (by omega) ?_
    refine V_iload_n (pc := 26) dX11_refuse_26 rfl ?_
    refine V_iret (pc := 27) dX11_refuse_27 rfl (by first | decide | omega) (by first | decide | omega) ?_
    exact ⟨rfl, rfl, by unfold rfuC; rw [up2_ne (by omega)], rfl⟩
  · skip
    refine V_aload_n (pc := 0) dX11_refuse_0 rfl ?_
    refine V_iload_n (pc := 1) dX11_refuse_1 rfl ?_
    refine V_putI (pc := 2) 11 13 dX11_refuse_2 flX11_47 (by decide) (by decide) (Or.inl rfl) rfl rfl h11.o ?_
    refine V_iload_n (pc := 5) dX11_refuse_5 rfl ?_
    refine V_if_ge (pc := 6) (tgt := 26) dX11_refuse_6 (by decide) (fun c6 => absurd c6 (by decide)) (fun n6 => ?_)
    refine V_iload_n (pc := 9) dX11_refuse_9 rfl ?_
    refine V_bipush (pc := 10) (v := (-6)) dX11_refuse_10 (by decide) ?_
    refine V_icmp_lt (pc := 12) (tgt := 26) dX11_refuse_12 (by decide) (fun c12 => absurd c12 (by decide)) (fun n12 => ?_)
    refine V_aload_n (pc := 15) dX11_refuse_15 rfl ?_
    refine V_getR (pc := 16) 11 14 dX11_refuse_16 flX11_50 (by decide) h11.o h11.R14 ?_
    refine V_iload_n (pc := 19) dX11_refuse_19 rfl ?_
    refine V_ineg (pc := 20) dX11_refuse_20 ?_
    refine V_top (show (-(-(nI 6)) : Int32) = nI 6 from by decide) ?_
    refine V_dup2 (pc := 21) dX11_refuse_21 rfl rfl ?_
    refine V_iaload (pc := 22) dX11_refuse_22 h11.A14 (by first | decide | omega) (by omega) ?_
    refine V_iconst (pc := 23) (v := nI 1) dX11_refuse_23 (by decide) ?_
    refine V_iadd (pc := 24) dX11_refuse_24 ?_
    refine V_iastore (pc := 25) dX11_refuse_25 h11.A14 (by first | decide | omega) (by omega) ?_
    refine V_iload_n (pc := 26) dX11_refuse_26 rfl ?_
    refine V_iret (pc := 27) dX11_refuse_27 rfl (by first | decide | omega) (by first | decide | omega) ?_
    exact ⟨rfl, rfl, by unfold rfuC; rw [up2_ne (by omega)], rfl⟩
theorem c_X11_grant (h11 : Lay11 E S B) {v : Int32} : Cd E kX11_grant 0 0 0 [.ref B, .int v] S I L (.int v) S (up2 I B 13 (nI 0)) L := by
  refine C_of (by decide) (Nat.le_of_ble_eq_true rfl) ?_
  refine V_aload_n (pc := 0) dX11_grant_0 rfl ?_
  refine V_iconst (pc := 1) (v := nI 0) dX11_grant_1 (by decide) ?_
  refine V_putI (pc := 2) 11 13 dX11_grant_2 flX11_47 (by decide) (by decide) (Or.inl rfl) rfl rfl h11.o ?_
  refine V_iload_n (pc := 5) dX11_grant_5 rfl ?_
  refine V_iret (pc := 6) dX11_grant_6 rfl (by first | decide | omega) (by first | decide | omega) ?_
  exact ⟨rfl, rfl, rfl, rfl⟩
theorem c_X11_isBar {x : Int32} : Cd E kX11_isBar 0 0 0 [.int x] S I L (.int (b2i (bnd x 8))) S I L := by
  refine C_of (by decide) (Nat.le_of_ble_eq_true rfl) ?_
  refine V_iload_n (pc := 0) dX11_isBar_0 rfl ?_
  refine V_if_lt (pc := 1) (tgt := 14) dX11_isBar_1 (by decide) (fun c1 => ?_) (fun n1 => ?_)
  · skip
    first | rw [bnd_lo c1] | rw [bnd_hi (by omega) c7]
    refine V_iconst (pc := 14) (v := nI 0) dX11_isBar_14 (by decide) ?_
    refine V_zretB (pc := 15) (p := false) dX11_isBar_15 rfl rfl (by first | decide | omega) (by first | decide | omega) ?_
    exact ⟨rfl, rfl, rfl, rfl⟩
  · skip
    refine V_iload_n (pc := 4) dX11_isBar_4 rfl ?_
    refine V_bipush (pc := 5) (v := nI 8) dX11_isBar_5 (by decide) ?_
    refine V_icmp_ge (pc := 7) (tgt := 14) dX11_isBar_7 (by decide) (fun c7 => ?_) (fun n7 => ?_)
    · skip
      first | rw [bnd_lo c1] | rw [bnd_hi (by omega) c7]
      refine V_iconst (pc := 14) (v := nI 0) dX11_isBar_14 (by decide) ?_
      refine V_zretB (pc := 15) (p := false) dX11_isBar_15 rfl rfl (by first | decide | omega) (by first | decide | omega) ?_
      exact ⟨rfl, rfl, rfl, rfl⟩
    · skip
      rw [bnd_in (by omega) n1 n7]
      refine V_iconst (pc := 10) (v := nI 1) dX11_isBar_10 (by decide) ?_
      refine V_goto (pc := 11) (tgt := 15) dX11_isBar_11 (by decide) ?_
      refine V_zretB (pc := 15) (p := true) dX11_isBar_15 rfl rfl (by first | decide | omega) (by first | decide | omega) ?_
      exact ⟨rfl, rfl, rfl, rfl⟩
theorem c_X11_isTooth {x : Int32} : Cd E kX11_isTooth 0 0 0 [.int x] S I L (.int (b2i (bnd x 8))) S I L := by
  refine C_of (by decide) (Nat.le_of_ble_eq_true rfl) ?_
  refine V_iload_n (pc := 0) dX11_isTooth_0 rfl ?_
  refine V_if_lt (pc := 1) (tgt := 14) dX11_isTooth_1 (by decide) (fun c1 => ?_) (fun n1 => ?_)
  · skip
    first | rw [bnd_lo c1] | rw [bnd_hi (by omega) c7]
    refine V_iconst (pc := 14) (v := nI 0) dX11_isTooth_14 (by decide) ?_
    refine V_zretB (pc := 15) (p := false) dX11_isTooth_15 rfl rfl (by first | decide | omega) (by first | decide | omega) ?_
    exact ⟨rfl, rfl, rfl, rfl⟩
  · skip
    refine V_iload_n (pc := 4) dX11_isTooth_4 rfl ?_
    refine V_bipush (pc := 5) (v := nI 8) dX11_isTooth_5 (by decide) ?_
    refine V_icmp_ge (pc := 7) (tgt := 14) dX11_isTooth_7 (by decide) (fun c7 => ?_) (fun n7 => ?_)
    · skip
      first | rw [bnd_lo c1] | rw [bnd_hi (by omega) c7]
      refine V_iconst (pc := 14) (v := nI 0) dX11_isTooth_14 (by decide) ?_
      refine V_zretB (pc := 15) (p := false) dX11_isTooth_15 rfl rfl (by first | decide | omega) (by first | decide | omega) ?_
      exact ⟨rfl, rfl, rfl, rfl⟩
    · skip
      rw [bnd_in (by omega) n1 n7]
      refine V_iconst (pc := 10) (v := nI 1) dX11_isTooth_10 (by decide) ?_
      refine V_goto (pc := 11) (tgt := 15) dX11_isTooth_11 (by decide) ?_
      refine V_zretB (pc := 15) (p := true) dX11_isTooth_15 rfl rfl (by first | decide | omega) (by first | decide | omega) ?_
      exact ⟨rfl, rfl, rfl, rfl⟩
/-- above n: not one of 0 .. n -/
theorem bnd_gt {x : Int32} {n : Nat} (hn : n < 2 ^ 31) (h : nI n < x) : bnd x (n + 1) = false := by
  unfold bnd
  apply decide_eq_false
  intro q
  have h1 := Int32.lt_iff_toInt_lt.mp h
  rw [nI_toInt hn] at h1
  omega
theorem bnd_ngt {x : Int32} {n : Nat} (hn : n < 2 ^ 31) (h0 : ¬ x < 0) (h : ¬ nI n < x) : bnd x (n + 1) = true := by
  unfold bnd
  apply decide_eq_true
  have h1 : ¬ x.toInt < 0 := fun q => h0 (Int32.lt_iff_toInt_lt.mpr (by simpa using q))
  have h2 : ¬ (n : Int) < x.toInt := fun q => h (Int32.lt_iff_toInt_lt.mpr (by rw [nI_toInt hn]; exact q))
  omega
theorem c_X11_isYears {x : Int32} : Cd E kX11_isYears 0 0 0 [.int x] S I L (.int (b2i (bnd x 61))) S I L := by
  refine C_of (by decide) (Nat.le_of_ble_eq_true rfl) ?_
  refine V_iload_n (pc := 0) dX11_isYears_0 rfl ?_
  refine V_if_lt (pc := 1) (tgt := 14) dX11_isYears_1 (by decide) (fun c1 => ?_) (fun n1 => ?_)
  · skip
    first | rw [bnd_lo c1] | rw [bnd_gt (n := 60) (by omega) c7]
    refine V_iconst (pc := 14) (v := nI 0) dX11_isYears_14 (by decide) ?_
    refine V_zretB (pc := 15) (p := false) dX11_isYears_15 rfl rfl (by first | decide | omega) (by first | decide | omega) ?_
    exact ⟨rfl, rfl, rfl, rfl⟩
  · skip
    refine V_iload_n (pc := 4) dX11_isYears_4 rfl ?_
    refine V_bipush (pc := 5) (v := nI 60) dX11_isYears_5 (by decide) ?_
    refine V_icmp_gt (pc := 7) (tgt := 14) dX11_isYears_7 (by decide) (fun c7 => ?_) (fun n7 => ?_)
    · skip
      first | rw [bnd_lo c1] | rw [bnd_gt (n := 60) (by omega) c7]
      refine V_iconst (pc := 14) (v := nI 0) dX11_isYears_14 (by decide) ?_
      refine V_zretB (pc := 15) (p := false) dX11_isYears_15 rfl rfl (by first | decide | omega) (by first | decide | omega) ?_
      exact ⟨rfl, rfl, rfl, rfl⟩
    · skip
      rw [bnd_ngt (n := 60) (by omega) n1 n7]
      refine V_iconst (pc := 10) (v := nI 1) dX11_isYears_10 (by decide) ?_
      refine V_goto (pc := 11) (tgt := 15) dX11_isYears_11 (by decide) ?_
      refine V_zretB (pc := 15) (p := true) dX11_isYears_15 rfl rfl (by first | decide | omega) (by first | decide | omega) ?_
      exact ⟨rfl, rfl, rfl, rfl⟩
theorem c_X11_areTwo (h11 : Lay11 E S B) (hR : CR E S B I A) (hA : wfA A) {x y : Int32} : Cd E kX11_areTwo 1 0 0 [.ref B, .int x, .int y] S I L (.int (b2i (are2 A x y))) S I L := by
  have hv := hR.1.1
  have hq := hA.q
  refine C_of (by decide) (Nat.le_of_ble_eq_true rfl) ?_
  refine V_iload_n (pc := 0) dX11_areTwo_0 rfl ?_
  refine V_iload_n (pc := 1) dX11_areTwo_1 rfl ?_
  refine V_icmp_eq (pc := 2) (tgt := 37) dX11_areTwo_2 (by decide) (fun c2 => ?_) (fun n2 => ?_)
  · skip
    first
    | rw [show are2 A x y = false from by unfold are2; rw [decide_eq_true c2]; simp]
    | rw [show are2 A x y = false from by unfold are2; rw [c16]; rfl]
    | rw [show are2 A x y = false from by unfold are2; rw [c30]; simp]
    refine V_iconst (pc := 37) (v := nI 0) dX11_areTwo_37 (by decide) ?_
    refine V_zretB (pc := 38) (p := false) dX11_areTwo_38 rfl rfl (by first | decide | omega) (by first | decide | omega) ?_
    exact ⟨rfl, rfl, rfl, rfl⟩
  · skip
    refine V_aload_n (pc := 5) dX11_areTwo_5 rfl ?_
    refine V_getR (pc := 6) 11 0 dX11_areTwo_6 flX11_91 (by decide) h11.o h11.R0 ?_
    refine V_getR (pc := 9) 10 0 dX11_areTwo_9 flX11_116 (by decide) h11.O0.o h11.O0.R0 ?_
    refine V_iload_n (pc := 12) dX11_areTwo_12 rfl ?_
    refine V_callVd (pc := 13) (ci := 9) (c_X9_hasBox h11.O0.O0 hv hq) dX11_areTwo_13 mlX11_140 mkX9_hasBox rfl rfl h11.O0.O0.o ⟨by decide, rfl⟩ ⟨Nat.le_of_ble_eq_true rfl, Nat.le_of_ble_eq_true rfl⟩ (Nat.le_of_ble_eq_true rfl) ⟨Nat.le_of_ble_eq_true rfl, Nat.le_of_ble_eq_true rfl⟩ ?_
    refine V_if_eqB (pc := 16) (tgt := 37) dX11_areTwo_16 (by decide) (fun c16 => ?_) (fun n16 => ?_)
    · skip
      first
      | rw [show are2 A x y = false from by unfold are2; rw [decide_eq_true c2]; simp]
      | rw [show are2 A x y = false from by unfold are2; rw [c16]; rfl]
      | rw [show are2 A x y = false from by unfold are2; rw [c30]; simp]
      refine V_iconst (pc := 37) (v := nI 0) dX11_areTwo_37 (by decide) ?_
      refine V_zretB (pc := 38) (p := false) dX11_areTwo_38 rfl rfl (by first | decide | omega) (by first | decide | omega) ?_
      exact ⟨rfl, rfl, rfl, rfl⟩
    · skip
      refine V_aload_n (pc := 19) dX11_areTwo_19 rfl ?_
      refine V_getR (pc := 20) 11 0 dX11_areTwo_20 flX11_91 (by decide) h11.o h11.R0 ?_
      refine V_getR (pc := 23) 10 0 dX11_areTwo_23 flX11_116 (by decide) h11.O0.o h11.O0.R0 ?_
      refine V_iload_n (pc := 26) dX11_areTwo_26 rfl ?_
      refine V_callVd (pc := 27) (ci := 9) (c_X9_hasBox h11.O0.O0 hv hq) dX11_areTwo_27 mlX11_140 mkX9_hasBox rfl rfl h11.O0.O0.o ⟨by decide, rfl⟩ ⟨Nat.le_of_ble_eq_true rfl, Nat.le_of_ble_eq_true rfl⟩ (Nat.le_of_ble_eq_true rfl) ⟨Nat.le_of_ble_eq_true rfl, Nat.le_of_ble_eq_true rfl⟩ ?_
      refine V_if_eqB (pc := 30) (tgt := 37) dX11_areTwo_30 (by decide) (fun c30 => ?_) (fun n30 => ?_)
      · skip
        first
        | rw [show are2 A x y = false from by unfold are2; rw [decide_eq_true c2]; simp]
        | rw [show are2 A x y = false from by unfold are2; rw [c16]; rfl]
        | rw [show are2 A x y = false from by unfold are2; rw [c30]; simp]
        refine V_iconst (pc := 37) (v := nI 0) dX11_areTwo_37 (by decide) ?_
        refine V_zretB (pc := 38) (p := false) dX11_areTwo_38 rfl rfl (by first | decide | omega) (by first | decide | omega) ?_
        exact ⟨rfl, rfl, rfl, rfl⟩
      · skip
        rw [show are2 A x y = true from by unfold are2; rw [n16, n30, decide_eq_false n2]; rfl]
        refine V_iconst (pc := 33) (v := nI 1) dX11_areTwo_33 (by decide) ?_
        refine V_goto (pc := 34) (tgt := 38) dX11_areTwo_34 (by decide) ?_
        refine V_zretB (pc := 38) (p := true) dX11_areTwo_38 rfl rfl (by first | decide | omega) (by first | decide | omega) ?_
        exact ⟨rfl, rfl, rfl, rfl⟩
end CI
