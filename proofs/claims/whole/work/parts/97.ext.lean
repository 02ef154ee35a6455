/-! layouts over another world that has the same cells -/
def Ext (E : EnT) (S S' : ST) (P : Nat → Prop) : Prop := ∀ x, inb E S x → inb E S' x ∧ S'.2.1 x = S.2.1 x ∧ (P x → S'.2.2 x = S.2.2 x)
theorem isO.ext {E : EnT} {S S' : ST} {P : Nat → Prop} {a ci : Nat} (h : isO E S a ci) (e : Ext E S S' P) : isO E S' a ci := ⟨(e a h.1).1, by rw [(e a h.1).2.1]; exact h.2⟩
theorem isA.ext {E : EnT} {S S' : ST} {P : Nat → Prop} {a t n : Nat} (h : isA E S a t n) (e : Ext E S S' P) : isA E S' a t n := ⟨(e a h.1).1, by rw [(e a h.1).2.1]; exact h.2⟩
theorem Ext.r {E : EnT} {S S' : ST} {P : Nat → Prop} {a i : Nat} {b : Option Nat} (e : Ext E S S' P) (ha : inb E S a) (p : P a) (h : S.2.2 a i = b) : S'.2.2 a i = b := by rw [(e a ha).2.2 p]; exact h
theorem Lay9.ext {E : EnT} {S S' : ST} {P : Nat → Prop} {o : Nat} (h : Lay9 E S o) (e : Ext E S S' P) (p0 : P (o)) : Lay9 E S' o := by
  obtain ⟨h0, h1, h2, h3, h4, h5, h6, h7, h8, h9, h10, h11, h12⟩ := h
  exact ⟨h0.ext e, e.r h0.1 p0 h1, h2.ext e, e.r h0.1 p0 h3, h4.ext e, e.r h0.1 p0 h5, h6.ext e, e.r h0.1 p0 h7, h8.ext e, e.r h0.1 p0 h9, h10.ext e, e.r h0.1 p0 h11, h12.ext e⟩
theorem Lay7.ext {E : EnT} {S S' : ST} {P : Nat → Prop} {o n m : Nat} (h : Lay7 E S o n m) (e : Ext E S S' P) (p0 : P (o)) : Lay7 E S' o n m := by
  obtain ⟨h0, h1, h2, h3, h4, h5, h6, h7, h8, h9, h10⟩ := h
  exact ⟨h0.ext e, e.r h0.1 p0 h1, e.r h0.1 p0 h2, e.r h0.1 p0 h3, e.r h0.1 p0 h4, e.r h0.1 p0 h5, h6.ext e, h7.ext e, h8.ext e, h9.ext e, h10.ext e⟩
theorem Lay10.ext {E : EnT} {S S' : ST} {P : Nat → Prop} {o t : Nat} (h : Lay10 E S o t) (e : Ext E S S' P) (p0 : P (o)) (p1 : P (o + 1)) : Lay10 E S' o t := by
  obtain ⟨h0, h1, h2, h3, h4, h5, h6, h7, h8, h9, h10, h11, h12, h13, h14, h15⟩ := h
  exact ⟨h0.ext e, e.r h0.1 p0 h1, h2.ext e p1, e.r h0.1 p0 h3, h4.ext e, e.r h0.1 p0 h5, h6.ext e, e.r h0.1 p0 h7, h8.ext e, e.r h0.1 p0 h9, h10.ext e, e.r h0.1 p0 h11, h12.ext e, e.r h0.1 p0 h13, h14.ext e, e.r h0.1 p0 h15⟩
theorem Lay2.ext {E : EnT} {S S' : ST} {P : Nat → Prop} {o : Nat} (h : Lay2 E S o) (e : Ext E S S' P) (p0 : P (o)) (p1 : P (o + 2)) (p2 : ∀ i, i < 16 → P (o + 3 + 7 * i)) : Lay2 E S' o := by
  obtain ⟨h0, h1, h2, h3, h4, h5, h6⟩ := h
  exact ⟨h0.ext e, e.r h0.1 p0 h1, h2.ext e, e.r h0.1 p0 h3, h4.ext e, fun i hi => e.r h4.1 p1 (h5 i hi), fun i hi => (h6 i hi).ext e (p2 i hi)⟩
theorem Lay6.ext {E : EnT} {S S' : ST} {P : Nat → Prop} {o : Nat} (h : Lay6 E S o) (e : Ext E S S' P) (p0 : P (o)) : Lay6 E S' o := by
  obtain ⟨h0, h1, h2⟩ := h
  exact ⟨h0.ext e, e.r h0.1 p0 h1, h2.ext e⟩
theorem Lay3.ext {E : EnT} {S S' : ST} {P : Nat → Prop} {o t : Nat} (h : Lay3 E S o t) (e : Ext E S S' P) (p0 : P (o)) (p1 : P (t)) : Lay3 E S' o t := by
  obtain ⟨h0, h1, h2, h3, h4⟩ := h
  exact ⟨h0.ext e, e.r h0.1 p0 h1, h2.ext e p1, e.r h0.1 p0 h3, h4.ext e⟩
theorem Lay0.ext {E : EnT} {S S' : ST} {P : Nat → Prop} {o w j t : Nat} (h : Lay0 E S o w j t) (e : Ext E S S' P) (p0 : P (o)) (p1 : P (j)) (p2 : P (t)) (p3 : P (o + 1)) (p4 : P ((o + 1) + 2)) (p5 : ∀ i, i < 16 → P ((o + 1) + 3 + 7 * i)) (p6 : P (o + 117)) (p7 : P (o + 124)) (p8 : P ((o + 124) + 2)) (p9 : ∀ i, i < 16 → P ((o + 124) + 3 + 7 * i)) : Lay0 E S' o w j t := by
  obtain ⟨h0, h1, h2, h3, h4, h5, h6, h7, h8, h9, h10, h11, h12, h13⟩ := h
  exact ⟨h0.ext e, e.r h0.1 p0 h1, e.r h0.1 p0 h2, h3.ext e p1 p2, e.r h0.1 p0 h4, h5.ext e p2, e.r h0.1 p0 h6, h7.ext e p3 p4 p5, e.r h0.1 p0 h8, h9.ext e, e.r h0.1 p0 h10, h11.ext e p6, e.r h0.1 p0 h12, h13.ext e p7 p8 p9⟩
theorem Lay1.ext {E : EnT} {S S' : ST} {P : Nat → Prop} {o w j t d : Nat} (h : Lay1 E S o w j t d) (e : Ext E S S' P) (p0 : P (o)) (p1 : P (d)) (p2 : P (j)) (p3 : P (t)) (p4 : P ((d) + 1)) (p5 : P (((d) + 1) + 2)) (p6 : ∀ i, i < 16 → P (((d) + 1) + 3 + 7 * i)) (p7 : P ((d) + 117)) (p8 : P ((d) + 124)) (p9 : P (((d) + 124) + 2)) (p10 : ∀ i, i < 16 → P (((d) + 124) + 3 + 7 * i)) (p11 : P (o + 1)) : Lay1 E S' o w j t d := by
  obtain ⟨h0, h1, h2, h3, h4⟩ := h
  exact ⟨h0.ext e, e.r h0.1 p0 h1, h2.ext e p1 p2 p3 p4 p5 p6 p7 p8 p9 p10, e.r h0.1 p0 h3, h4.ext e p11⟩
theorem Lay4.ext {E : EnT} {S S' : ST} {P : Nat → Prop} {o : Nat} (h : Lay4 E S o) (e : Ext E S S' P) (p0 : P (o)) : Lay4 E S' o := by
  obtain ⟨h0, h1, h2, h3, h4, h5, h6, h7, h8, h9, h10, h11, h12⟩ := h
  exact ⟨h0.ext e, e.r h0.1 p0 h1, h2.ext e, e.r h0.1 p0 h3, h4.ext e, e.r h0.1 p0 h5, h6.ext e, e.r h0.1 p0 h7, h8.ext e, e.r h0.1 p0 h9, h10.ext e, e.r h0.1 p0 h11, h12.ext e⟩
theorem Lay8.ext {E : EnT} {S S' : ST} {P : Nat → Prop} {o : Nat} (h : Lay8 E S o) (e : Ext E S S' P) (p0 : P (o)) : Lay8 E S' o := by
  obtain ⟨h0, h1, h2, h3, h4, h5, h6, h7, h8, h9, h10⟩ := h
  exact ⟨h0.ext e, e.r h0.1 p0 h1, h2.ext e, e.r h0.1 p0 h3, h4.ext e, e.r h0.1 p0 h5, h6.ext e, e.r h0.1 p0 h7, h8.ext e, e.r h0.1 p0 h9, h10.ext e⟩
theorem Lay5.ext {E : EnT} {S S' : ST} {P : Nat → Prop} {o : Nat} (h : Lay5 E S o) (e : Ext E S S' P) (p0 : P (o)) : Lay5 E S' o := by
  obtain ⟨h0, h1, h2, h3, h4, h5, h6, h7, h8, h9, h10, h11, h12, h13, h14, h15, h16⟩ := h
  exact ⟨h0.ext e, e.r h0.1 p0 h1, h2.ext e, e.r h0.1 p0 h3, h4.ext e, e.r h0.1 p0 h5, h6.ext e, e.r h0.1 p0 h7, h8.ext e, e.r h0.1 p0 h9, h10.ext e, e.r h0.1 p0 h11, h12.ext e, e.r h0.1 p0 h13, h14.ext e, e.r h0.1 p0 h15, h16.ext e⟩
theorem Lay11.ext {E : EnT} {S S' : ST} {P : Nat → Prop} {o : Nat} (h : Lay11 E S o) (e : Ext E S S' P) (p0 : P (o)) (p1 : P (o + 36)) (p2 : P ((o + 36) + 1)) (p3 : P (o + 80)) (p4 : P (o + 78)) (p5 : P (o + 82)) (p6 : P ((o + 82) + 1)) (p7 : P (((o + 82) + 1) + 2)) (p8 : ∀ i, i < 16 → P (((o + 82) + 1) + 3 + 7 * i)) (p9 : P ((o + 82) + 117)) (p10 : P ((o + 82) + 124)) (p11 : P (((o + 82) + 124) + 2)) (p12 : ∀ i, i < 16 → P (((o + 82) + 124) + 3 + 7 * i)) (p13 : P (o + 321)) (p14 : P (((o + 82)) + 1)) (p15 : P ((((o + 82)) + 1) + 2)) (p16 : ∀ i, i < 16 → P ((((o + 82)) + 1) + 3 + 7 * i)) (p17 : P (((o + 82)) + 117)) (p18 : P (((o + 82)) + 124)) (p19 : P ((((o + 82)) + 124) + 2)) (p20 : ∀ i, i < 16 → P ((((o + 82)) + 124) + 3 + 7 * i)) (p21 : P ((o + 321) + 1)) (p22 : P (o + 3)) (p23 : P (o + 10)) (p24 : P (o + 21)) (p25 : P (o + 1)) (p26 : P (o + 50)) (p27 : P ((o + 50) + 1)) (p28 : P (o + 64)) (p29 : P ((o + 64) + 1)) (p30 : P (o + 30)) : Lay11 E S' o := by
  obtain ⟨h0, h1, h2, h3, h4, h5, h6, h7, h8, h9, h10, h11, h12, h13, h14, h15, h16, h17, h18, h19, h20, h21, h22, h23, h24, h25, h26, h27, h28, h29, h30, h31, h32, h33⟩ := h
  exact ⟨h0.ext e, e.r h0.1 p0 h1, h2.ext e p1 p2, e.r h0.1 p0 h3, h4.ext e, e.r h0.1 p0 h5, h6.ext e, e.r h0.1 p0 h7, h8.ext e p3 p4, e.r h0.1 p0 h9, h10.ext e p5 p3 p4 p6 p7 p8 p9 p10 p11 p12, e.r h0.1 p0 h11, h12.ext e p13 p5 p3 p4 p14 p15 p16 p17 p18 p19 p20 p21, e.r h0.1 p0 h13, h14.ext e p22, e.r h0.1 p0 h15, h16.ext e p23, e.r h0.1 p0 h17, h18.ext e p24, e.r h0.1 p0 h19, h20.ext e, e.r h0.1 p0 h21, h22.ext e, e.r h0.1 p0 h23, h24.ext e, e.r h0.1 p0 h25, h26.ext e, e.r h0.1 p0 h27, h28.ext e, e.r h4.1 p25 h29, e.r h4.1 p25 h30, h31.ext e p26 p27, h32.ext e p28 p29, h33.ext e p30⟩
theorem Lay12.ext {E : EnT} {S S' : ST} {P : Nat → Prop} {o : Nat} (h : Lay12 E S o) (e : Ext E S S' P) (p0 : P (o)) : Lay12 E S' o := by
  obtain ⟨h0, h1, h2, h3, h4, h5, h6, h7, h8, h9, h10, h11, h12, h13, h14, h15, h16, h17, h18, h19, h20, h21, h22, h23, h24, h25, h26, h27, h28, h29, h30, h31, h32, h33, h34, h35, h36, h37, h38, h39, h40, h41, h42, h43, h44, h45, h46, h47, h48, h49, h50, h51, h52, h53, h54, h55, h56, h57, h58, h59, h60, h61, h62, h63, h64, h65, h66, h67, h68, h69, h70⟩ := h
  exact ⟨h0.ext e, e.r h0.1 p0 h1, h2.ext e, e.r h0.1 p0 h3, h4.ext e, e.r h0.1 p0 h5, h6.ext e, e.r h0.1 p0 h7, h8.ext e, e.r h0.1 p0 h9, h10.ext e, e.r h0.1 p0 h11, h12.ext e, e.r h0.1 p0 h13, h14.ext e, e.r h0.1 p0 h15, h16.ext e, e.r h0.1 p0 h17, h18.ext e, e.r h0.1 p0 h19, h20.ext e, e.r h0.1 p0 h21, h22.ext e, e.r h0.1 p0 h23, h24.ext e, e.r h0.1 p0 h25, h26.ext e, e.r h0.1 p0 h27, h28.ext e, e.r h0.1 p0 h29, h30.ext e, e.r h0.1 p0 h31, h32.ext e, e.r h0.1 p0 h33, h34.ext e, e.r h0.1 p0 h35, h36.ext e, e.r h0.1 p0 h37, h38.ext e, e.r h0.1 p0 h39, h40.ext e, e.r h0.1 p0 h41, h42.ext e, e.r h0.1 p0 h43, h44.ext e, e.r h0.1 p0 h45, h46.ext e, e.r h0.1 p0 h47, h48.ext e, e.r h0.1 p0 h49, h50.ext e, e.r h0.1 p0 h51, h52.ext e, e.r h0.1 p0 h53, h54.ext e, e.r h0.1 p0 h55, h56.ext e, e.r h0.1 p0 h57, h58.ext e, e.r h0.1 p0 h59, h60.ext e, e.r h0.1 p0 h61, h62.ext e, e.r h0.1 p0 h63, h64.ext e, e.r h0.1 p0 h65, h66.ext e, e.r h0.1 p0 h67, h68.ext e, e.r h0.1 p0 h69, h70.ext e⟩
/-- no row of texts -/
def NT (B x : Nat) : Prop := x ≠ B + 49 ∧ x ≠ B + 63 ∧ x ≠ B + 77
theorem Lay11.nt {E : EnT} {S S' : ST} {B : Nat} (h : Lay11 E S B) (e : Ext E S S' (NT B)) : Lay11 E S' B := h.ext e (by unfold NT; omega) (by unfold NT; omega) (by unfold NT; omega) (by unfold NT; omega) (by unfold NT; omega) (by unfold NT; omega) (by unfold NT; omega) (by unfold NT; omega) (fun i hi => by unfold NT; omega) (by unfold NT; omega) (by unfold NT; omega) (by unfold NT; omega) (fun i hi => by unfold NT; omega) (by unfold NT; omega) (by unfold NT; omega) (by unfold NT; omega) (fun i hi => by unfold NT; omega) (by unfold NT; omega) (by unfold NT; omega) (by unfold NT; omega) (fun i hi => by unfold NT; omega) (by unfold NT; omega) (by unfold NT; omega) (by unfold NT; omega) (by unfold NT; omega) (by unfold NT; omega) (by unfold NT; omega) (by unfold NT; omega) (by unfold NT; omega) (by unfold NT; omega) (by unfold NT; omega)
theorem Lay12.nt {E : EnT} {S S' : ST} {B : Nat} (h : Lay12 E S (B + 329)) (e : Ext E S S' (NT B)) : Lay12 E S' (B + 329) := h.ext e (by unfold NT; omega)
