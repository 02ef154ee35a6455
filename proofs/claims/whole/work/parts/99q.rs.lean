/-! THE READER: its state while it reads -/
def wdk (od : Bool) (b : Nat) : Prop := if od = true then b < 24 ∧ 7 ≤ b ∧ b ≠ 8 else b < 9
def RS (I : IT) (o : Nat) (t : Nat → Nat) (n m : Nat) (od : Bool) (k l : Nat) (c : CT) : Prop := ScM I o t n m ∧ k ≤ m ∧ I o 4 = nI k ∧ I o 5 = nI l ∧ I o 6 = b2i od ∧ I o 12 = nI c.2.2 ∧ ∀ j, j < c.2.2 → I (o + 7) j = nI (itC (c.1 j)) ∧ I (o + 8) j = nI (c.2.1 j) ∧ opC (c.1 j) ∧ c.2.1 j ≤ 1000 ∧ (c.1 j = 1 → wdk od (c.2.1 j))
/-- what reading expressions leaves -/
def FrX5 (o : Nat) (I' I : IT) : Prop := (∀ a, a ≠ o → a ≠ o + 7 → a ≠ o + 8 → I' a = I a) ∧ ∀ i, i ≠ 4 → i ≠ 5 → i ≠ 12 → I' o i = I o i
def pc1 (c : CT) (op arg : Nat) : CT := (fun j => if j = c.2.2 then op else c.1 j, fun j => if j = c.2.2 then arg else c.2.1 j, c.2.2 + 1)
def putW (I : IT) (o len a b : Nat) : IT := up2 (up2 (up2 I (o + 7) len (nI a)) (o + 8) len (nI b)) o 12 (nI (len + 1))
section RS1
variable {E : EnT} {S : ST} {I I' I2 : IT} {L : LT} {o n m k l : Nat} {t : Nat → Nat} {od : Bool} {c : CT}
theorem FrX5.rf : FrX5 o I I := ⟨fun _ _ _ _ => rfl, fun _ _ _ _ => rfl⟩
theorem FrX5.tr (h : FrX5 o I2 I') (g : FrX5 o I' I) : FrX5 o I2 I := ⟨fun a h1 h2 h3 => (h.1 a h1 h2 h3).trans (g.1 a h1 h2 h3), fun j h1 h2 h3 => (h.2 j h1 h2 h3).trans (g.2 j h1 h2 h3)⟩
theorem FrX5.u {i : Nat} {v : Int32} (h : FrX5 o I' I) (hi : i = 4 ∨ i = 5 ∨ i = 12) : FrX5 o (up2 I' o i v) I := ⟨fun a h1 h2 h3 => by rw [up2_row h1]; exact h.1 a h1 h2 h3, fun j h1 h2 h3 => by rw [up2_nej (by omega)]; exact h.2 j h1 h2 h3⟩
theorem FrX5.u7 {r i : Nat} {v : Int32} (h : FrX5 o I' I) (hr : r = o + 7 ∨ r = o + 8) : FrX5 o (up2 I' r i v) I := ⟨fun a h1 h2 h3 => by rw [up2_row (by omega)]; exact h.1 a h1 h2 h3, fun j h1 h2 h3 => by rw [up2_row (by omega)]; exact h.2 j h1 h2 h3⟩
theorem FrX5.pw {len a b : Nat} (h : FrX5 o I' I) : FrX5 o (putW I' o len a b) I := ((h.u7 (by omega)).u7 (by omega)).u (by omega)
theorem ScM.fr (h : ScM I o t n m) (g : FrX5 o I' I) : ScM I' o t n m := ⟨(g.2 3 (by omega) (by omega) (by omega)).trans h.1, h.2.1, h.2.2.1, h.2.2.2.1, fun j hj => ⟨by rw [g.1 (o + 1) (by omega) (by omega) (by omega)]; exact (h.2.2.2.2.1 j hj).1, by rw [g.1 (o + 2) (by omega) (by omega) (by omega)]; exact (h.2.2.2.2.1 j hj).2⟩, fun j hj => by rw [g.1 (o + 3) (by omega) (by omega) (by omega)]; exact h.2.2.2.2.2 j hj⟩
theorem RS.tk (h : RS I o t n m od k l c) : I (o + 2) k = nI (tc t n (pk t n k)) := (h.1.2.2.2.2.1 k h.2.1).2
theorem ScM.lt (h : ScM I o t n m) (hk : k ≤ m) (ht : tc t n (pk t n k) ≠ 92) : k < m := by
  rcases Nat.lt_or_ge k m with h1 | h1
  · exact h1
  · have e : k = m := by omega
    rw [e, h.2.1, tc_end.mpr rfl] at ht
    exact absurd rfl ht
theorem RS.lt (h : RS I o t n m od k l c) (ht : tc t n (pk t n k) ≠ 92) : k < m := h.1.lt h.2.1 ht
theorem ScM.pn (h : ScM I o t n m) (hk : k ≤ m) : pk t n k ≤ n := by
  rcases Nat.lt_or_ge k m with h1 | h1
  · exact Nat.le_of_lt (h.2.2.2.1 k h1)
  · have e : k = m := by omega
    rw [e, h.2.1]; exact Nat.le_refl n
theorem tc_lt (hb : ∀ i, i < n → t i < 256) {p : Nat} (hp : p ≤ n) : tc t n p < 400 := by
  rcases srt4 t n p with h | h | h | h
  · rw [tc_0 h]; omega
  · rw [tc_1 h]; have := tcw_le (i64 (wth t n p)); omega
  · rw [tc_2 h]; omega
  · rw [tc_3 h]
    have : p ≠ n := fun e => by rw [srt_end.mpr e] at h; omega
    have := hb p (by omega)
    omega
theorem RS.nu (h : RS I o t n m od k l c) (ht : tc t n (pk t n k) = 91) : I (o + 3) k = nI (nm t n (pk t n k)) := by
  rw [h.1.2.2.2.2.2 k (h.lt (by omega))]
  unfold nmz
  rw [if_pos (tc_n.mp ht)]
theorem RS.go (h : RS I o t n m od k l c) (hk : k < m) : RS (up2 I o 4 (nI (k + 1))) o t n m od (k + 1) l c := by
  obtain ⟨h1, h2, h3, h4, h5, h6, h7⟩ := h
  exact ⟨h1.fr (FrX5.rf.u (by omega)), hk, up2_self, (up2_nej (by omega)).trans h4, (up2_nej (by omega)).trans h5, (up2_nej (by omega)).trans h6, fun j hj => by rw [up2_row (by omega), up2_row (by omega)]; exact h7 j hj⟩
theorem RS.pt (h : RS I o t n m od k l c) : RS (up2 I o 5 (nI (l + 1))) o t n m od k (l + 1) c := by
  obtain ⟨h1, h2, h3, h4, h5, h6, h7⟩ := h
  exact ⟨h1.fr (FrX5.rf.u (by omega)), h2, (up2_nej (by omega)).trans h3, up2_self, (up2_nej (by omega)).trans h5, (up2_nej (by omega)).trans h6, fun j hj => by rw [up2_row (by omega), up2_row (by omega)]; exact h7 j hj⟩
theorem RS.put {a x b : Nat} (h : RS I o t n m od k l c) (ha : a = itC x) (hx : opC x) (hb : b ≤ 1000) (h1' : x = 1 → wdk od b) : RS (putW I o c.2.2 a b) o t n m od k l (pc1 c x b) := by
  obtain ⟨h1, h2, h3, h4, h5, h6, h7⟩ := h
  subst ha
  unfold putW
  refine ⟨h1.fr (((FrX5.rf.u7 (by omega)).u7 (by omega)).u (by omega)), h2, ?_, ?_, ?_, up2_self, fun j hj => ?_⟩
  · rw [up2_nej (by omega), up2_row (by omega), up2_row (by omega)]; exact h3
  · rw [up2_nej (by omega), up2_row (by omega), up2_row (by omega)]; exact h4
  · rw [up2_nej (by omega), up2_row (by omega), up2_row (by omega)]; exact h5
  · have hj' : j < c.2.2 + 1 := hj
    have r7 : ∀ z, up2 (up2 (up2 I (o + 7) c.2.2 (nI (itC x))) (o + 8) c.2.2 (nI b)) o 12 (nI (c.2.2 + 1)) (o + 7) z = up2 I (o + 7) c.2.2 (nI (itC x)) (o + 7) z := fun z => by rw [up2_row (by omega), up2_row (by omega)]
    have r8 : ∀ z, up2 (up2 (up2 I (o + 7) c.2.2 (nI (itC x))) (o + 8) c.2.2 (nI b)) o 12 (nI (c.2.2 + 1)) (o + 8) z = up2 (up2 I (o + 7) c.2.2 (nI (itC x))) (o + 8) c.2.2 (nI b) (o + 8) z := fun z => by rw [up2_row (by omega)]
    rw [r7, r8]
    by_cases e : j = c.2.2
    · subst e
      rw [up2_self, up2_self]
      show nI (itC x) = nI (itC (if c.2.2 = c.2.2 then x else c.1 c.2.2)) ∧ nI b = nI (if c.2.2 = c.2.2 then b else c.2.1 c.2.2) ∧ opC (if c.2.2 = c.2.2 then x else c.1 c.2.2) ∧ (if c.2.2 = c.2.2 then b else c.2.1 c.2.2) ≤ 1000 ∧ ((if c.2.2 = c.2.2 then x else c.1 c.2.2) = 1 → wdk od (if c.2.2 = c.2.2 then b else c.2.1 c.2.2))
      rw [if_pos rfl, if_pos rfl]
      exact ⟨rfl, rfl, hx, hb, h1'⟩
    · rw [up2_nej e, up2_nej e, up2_row (by omega)]
      show I (o + 7) j = nI (itC (if j = c.2.2 then x else c.1 j)) ∧ I (o + 8) j = nI (if j = c.2.2 then b else c.2.1 j) ∧ opC (if j = c.2.2 then x else c.1 j) ∧ (if j = c.2.2 then b else c.2.1 j) ≤ 1000 ∧ ((if j = c.2.2 then x else c.1 j) = 1 → wdk od (if j = c.2.2 then b else c.2.1 j))
      rw [if_neg e, if_neg e]
      exact h7 j (by omega)
theorem c_X5_goOn (h5 : Lay5 E S o) (hR : RS I o t n m od k l c) (hk : k < m) : Cn E kX5_goOn 0 0 0 [.ref o] S I L S (up2 I o 4 (nI (k + 1))) L := by
  have h3 := hR.1.1
  have h4 := hR.2.2.1
  have hm := hR.1.2.2.1
  refine C_of (by decide) (Nat.le_of_ble_eq_true rfl) ?_
  refine V_aload_n (pc := 0) dX5_goOn_0 rfl ?_
  refine V_getIE (pc := 1) 5 4 dX5_goOn_1 flX5_27 (by decide) h5.o (h4) ?_
  refine V_aload_n (pc := 4) dX5_goOn_4 rfl ?_
  refine V_getIE (pc := 5) 5 3 dX5_goOn_5 flX5_23 (by decide) h5.o (h3) ?_
  refine V_icmp_geN (pc := 8) (tgt := 21) dX5_goOn_8 (by decide) (by omega) (by omega) (fun c8 => absurd c8 (by omega)) (fun n8 => ?_)
  refine V_aload_n (pc := 11) dX5_goOn_11 rfl ?_
  refine V_dup (pc := 12) dX5_goOn_12 rfl ?_
  refine V_getIE (pc := 13) 5 4 dX5_goOn_13 flX5_27 (by decide) h5.o (h4) ?_
  refine V_iconst (pc := 16) (v := nI 1) dX5_goOn_16 (by decide) ?_
  refine V_iaddN (pc := 17) dX5_goOn_17 ?_
  refine V_putI (pc := 18) 5 4 dX5_goOn_18 flX5_27 (by decide) (by decide) (Or.inl rfl) rfl rfl h5.o ?_
  refine V_vret (pc := 21) dX5_goOn_21 rfl (by first | decide | omega) (by first | decide | omega) ?_
  exact ⟨rfl, rfl, rfl, rfl⟩
theorem c_X5_isSign {x : Nat} (h5 : Lay5 E S o) (hR : RS I o t n m od k l c) (hb : ∀ i, i < n → t i < 256) (hx : x < 256) : Cd E kX5_isSign 0 0 0 [.ref o, .int (nI x)] S I L (.int (b2i (decide (tc t n (pk t n k) = 100 + x)))) S I L := by
  have h4 := hR.2.2.1
  have hm := hR.1.2.2.1
  have hkm := hR.2.1
  have htk := hR.tk
  have hlt := tc_lt (n := n) hb (hR.1.pn hkm)
  refine C_of (by decide) (Nat.le_of_ble_eq_true rfl) ?_
  refine V_aload_n (pc := 0) dX5_isSign_0 rfl ?_
  refine V_getR (pc := 1) 5 1 dX5_isSign_1 flX5_17 (by decide) h5.o h5.R1 ?_
  refine V_aload_n (pc := 4) dX5_isSign_4 rfl ?_
  refine V_getIE (pc := 5) 5 4 dX5_isSign_5 flX5_27 (by decide) h5.o (h4) ?_
  refine V_ialoadE (pc := 8) dX5_isSign_8 h5.A1 (by first | decide | omega) (by omega) (htk) ?_
  refine V_bipush (pc := 9) (v := nI 100) dX5_isSign_9 (by decide) ?_
  refine V_iload_n (pc := 11) dX5_isSign_11 rfl ?_
  refine V_iaddN (pc := 12) dX5_isSign_12 ?_
  refine V_icmp_neN (pc := 13) (tgt := 20) dX5_isSign_13 (by decide) (by omega) (by omega) (fun c13 => ?_) (fun n13 => ?_)
  · skip
    rw [show decide (tc t n (pk t n k) = 100 + x) = false from decide_eq_false (by omega)]
    refine V_iconst (pc := 20) (v := nI 0) dX5_isSign_20 (by decide) ?_
    refine V_zretB (pc := 21) (p := false) dX5_isSign_21 rfl rfl (by first | decide | omega) (by first | decide | omega) ?_
    exact ⟨rfl, rfl, rfl, rfl⟩
  · skip
    rw [show decide (tc t n (pk t n k) = 100 + x) = true from decide_eq_true (by omega)]
    refine V_iconst (pc := 16) (v := nI 1) dX5_isSign_16 (by decide) ?_
    refine V_goto (pc := 17) (tgt := 21) dX5_isSign_17 (by decide) ?_
    refine V_zretB (pc := 21) (p := true) dX5_isSign_21 rfl rfl (by first | decide | omega) (by first | decide | omega) ?_
    exact ⟨rfl, rfl, rfl, rfl⟩
theorem c_X5_put {a b : Nat} (h5 : Lay5 E S o) (hR : RS I o t n m od k l c) (hl : c.2.2 < 448) : Cd E kX5_put 0 0 0 [.ref o, .int (nI a), .int (nI b)] S I L (.int (b2i true)) S (putW I o c.2.2 a b) L := by
  have h12 := hR.2.2.2.2.2.1
  refine C_of (by decide) (Nat.le_of_ble_eq_true rfl) ?_
  refine V_aload_n (pc := 0) dX5_put_0 rfl ?_
  refine V_getIE (pc := 1) 5 12 dX5_put_1 flX5_52 (by decide) h5.o (h12) ?_
  refine V_sipush (pc := 4) (v := nI 448) dX5_put_4 (by decide) ?_
  refine V_icmp_ltN (pc := 7) (tgt := 12) dX5_put_7 (by decide) (by omega) (by omega) (fun c7 => ?_) (fun n7 => absurd n7 (by omega))
  refine V_aload_n (pc := 12) dX5_put_12 rfl ?_
  refine V_getR (pc := 13) 5 10 dX5_put_13 flX5_46 (by decide) h5.o h5.R10 ?_
  refine V_aload_n (pc := 16) dX5_put_16 rfl ?_
  refine V_getIE (pc := 17) 5 12 dX5_put_17 flX5_52 (by decide) h5.o (h12) ?_
  refine V_iload_n (pc := 20) dX5_put_20 rfl ?_
  refine V_iastore (pc := 21) dX5_put_21 h5.A10 (by first | decide | omega) (by omega) ?_
  refine V_aload_n (pc := 22) dX5_put_22 rfl ?_
  refine V_getR (pc := 23) 5 11 dX5_put_23 flX5_49 (by decide) h5.o h5.R11 ?_
  refine V_aload_n (pc := 26) dX5_put_26 rfl ?_
  refine V_getIE (pc := 27) 5 12 dX5_put_27 flX5_52 (by decide) h5.o ((up2_ne (by omega)).trans h12) ?_
  refine V_iload_n (pc := 30) dX5_put_30 rfl ?_
  refine V_iastore (pc := 31) dX5_put_31 h5.A11 (by first | decide | omega) (by omega) ?_
  refine V_aload_n (pc := 32) dX5_put_32 rfl ?_
  refine V_dup (pc := 33) dX5_put_33 rfl ?_
  refine V_getIE (pc := 34) 5 12 dX5_put_34 flX5_52 (by decide) h5.o (((up2_ne (by omega)).trans (up2_ne (by omega))).trans h12) ?_
  refine V_iconst (pc := 37) (v := nI 1) dX5_put_37 (by decide) ?_
  refine V_iaddN (pc := 38) dX5_put_38 ?_
  refine V_putI (pc := 39) 5 12 dX5_put_39 flX5_52 (by decide) (by decide) (Or.inl rfl) rfl rfl h5.o ?_
  refine V_iconst (pc := 42) (v := nI 1) dX5_put_42 (by decide) ?_
  refine V_zretB (pc := 43) (p := true) dX5_put_43 rfl rfl (by first | decide | omega) (by first | decide | omega) ?_
  exact ⟨rfl, rfl, rfl, rfl⟩
theorem c_X5_comparisonHere (h5 : Lay5 E S o) (hR : RS I o t n m od k l c) (hb : ∀ i, i < n → t i < 256) : Cd E kX5_comparisonHere 0 0 0 [.ref o] S I L (.int (nI (cmpS (tc t n (pk t n k)) - 17))) S I L := by
  have h4 := hR.2.2.1
  have hm := hR.1.2.2.1
  have hkm := hR.2.1
  have htk := hR.tk
  have hlt := tc_lt (n := n) hb (hR.1.pn hkm)
  generalize tc t n (pk t n k) = x at htk hlt ⊢
  refine C_of (by decide) (Nat.le_of_ble_eq_true rfl) ?_
  have hc : x = 160 ∨ x = 161 ∨ x = 162 ∨ (x < 160 ∨ 162 < x) := by omega
  rcases hc with rfl | rfl | rfl | hc
  · skip
    refine V_aload_n (pc := 0) dX5_comparisonHere_0 rfl ?_
    refine V_getR (pc := 1) 5 1 dX5_comparisonHere_1 flX5_17 (by decide) h5.o h5.R1 ?_
    refine V_aload_n (pc := 4) dX5_comparisonHere_4 rfl ?_
    refine V_getIE (pc := 5) 5 4 dX5_comparisonHere_5 flX5_27 (by decide) h5.o (h4) ?_
    refine V_ialoadE (pc := 8) dX5_comparisonHere_8 h5.A1 (by first | decide | omega) (by omega) (htk) ?_
    refine V_tableIn (pc := 9) (off := 27) (tgt := 36) dX5_comparisonHere_9 (by decide) (by decide) (by decide) (by decide) ?_
    refine V_bipush (pc := 36) (v := nI 8) dX5_comparisonHere_36 (by decide) ?_
    refine V_iret (pc := 38) dX5_comparisonHere_38 rfl (by first | decide | omega) (by first | decide | omega) ?_
    exact ⟨rfl, rfl, rfl, rfl⟩
  · skip
    refine V_aload_n (pc := 0) dX5_comparisonHere_0 rfl ?_
    refine V_getR (pc := 1) 5 1 dX5_comparisonHere_1 flX5_17 (by decide) h5.o h5.R1 ?_
    refine V_aload_n (pc := 4) dX5_comparisonHere_4 rfl ?_
    refine V_getIE (pc := 5) 5 4 dX5_comparisonHere_5 flX5_27 (by decide) h5.o (h4) ?_
    refine V_ialoadE (pc := 8) dX5_comparisonHere_8 h5.A1 (by first | decide | omega) (by omega) (htk) ?_
    refine V_tableIn (pc := 9) (off := 33) (tgt := 42) dX5_comparisonHere_9 (by decide) (by decide) (by decide) (by decide) ?_
    refine V_bipush (pc := 42) (v := nI 10) dX5_comparisonHere_42 (by decide) ?_
    refine V_iret (pc := 44) dX5_comparisonHere_44 rfl (by first | decide | omega) (by first | decide | omega) ?_
    exact ⟨rfl, rfl, rfl, rfl⟩
  · skip
    refine V_aload_n (pc := 0) dX5_comparisonHere_0 rfl ?_
    refine V_getR (pc := 1) 5 1 dX5_comparisonHere_1 flX5_17 (by decide) h5.o h5.R1 ?_
    refine V_aload_n (pc := 4) dX5_comparisonHere_4 rfl ?_
    refine V_getIE (pc := 5) 5 4 dX5_comparisonHere_5 flX5_27 (by decide) h5.o (h4) ?_
    refine V_ialoadE (pc := 8) dX5_comparisonHere_8 h5.A1 (by first | decide | omega) (by omega) (htk) ?_
    refine V_tableIn (pc := 9) (off := 30) (tgt := 39) dX5_comparisonHere_9 (by decide) (by decide) (by decide) (by decide) ?_
    refine V_bipush (pc := 39) (v := nI 9) dX5_comparisonHere_39 (by decide) ?_
    refine V_iret (pc := 41) dX5_comparisonHere_41 rfl (by first | decide | omega) (by first | decide | omega) ?_
    exact ⟨rfl, rfl, rfl, rfl⟩
  · rw [show cmpS x = 0 from by unfold cmpS; rw [if_neg (by omega), if_neg (by omega), if_neg (by omega)]]
    refine V_aload_n (pc := 0) dX5_comparisonHere_0 rfl ?_
    refine V_getR (pc := 1) 5 1 dX5_comparisonHere_1 flX5_17 (by decide) h5.o h5.R1 ?_
    refine V_aload_n (pc := 4) dX5_comparisonHere_4 rfl ?_
    refine V_getIE (pc := 5) 5 4 dX5_comparisonHere_5 flX5_27 (by decide) h5.o (h4) ?_
    refine V_ialoadE (pc := 8) dX5_comparisonHere_8 h5.A1 (by first | decide | omega) (by omega) (htk) ?_
    refine V_tableOut (pc := 9) (tgt := 45) dX5_comparisonHere_9 (by rw [nI_toInt (by omega)]; omega) (by decide) ?_
    refine V_iconst (pc := 45) (v := nI 0) dX5_comparisonHere_45 (by decide) ?_
    refine V_iret (pc := 46) dX5_comparisonHere_46 rfl (by first | decide | omega) (by first | decide | omega) ?_
    exact ⟨rfl, rfl, rfl, rfl⟩
theorem c_X5_joinHere {lv : Nat} (h5 : Lay5 E S o) (hR : RS I o t n m od k l c) (hb : ∀ i, i < n → t i < 256) (hv : lv = 0 ∨ lv = 1) : Cd E kX5_joinHere 0 0 0 [.ref o, .int (nI lv)] S I L (.int (nI (jn lv (tc t n (pk t n k)) - 17))) S I L := by
  have h4 := hR.2.2.1
  have hm := hR.1.2.2.1
  have hkm := hR.2.1
  have htk := hR.tk
  have hlt := tc_lt (n := n) hb (hR.1.pn hkm)
  generalize tc t n (pk t n k) = x at htk hlt ⊢
  refine C_of (by decide) (Nat.le_of_ble_eq_true rfl) ?_
  have hc : (x < 137 ∨ 147 < x) ∨ x = 137 ∨ x = 138 ∨ x = 139 ∨ x = 140 ∨ x = 141 ∨ x = 142 ∨ x = 143 ∨ x = 144 ∨ x = 145 ∨ x = 146 ∨ x = 147 := by omega
  rcases hc with hc | rfl | rfl | rfl | rfl | rfl | rfl | rfl | rfl | rfl | rfl | rfl
  · have e0 : jn lv x = 0 := by unfold jn; rw [if_neg (show ¬ x = 143 by omega), if_neg (show ¬ x = 145 by omega), if_neg (show ¬ x = 142 by omega), if_neg (show ¬ x = 147 by omega), if_neg (show ¬ x = 137 by omega)]; split <;> rfl
    rw [e0]
    refine V_aload_n (pc := 0) dX5_joinHere_0 rfl ?_
    refine V_getR (pc := 1) 5 1 dX5_joinHere_1 flX5_17 (by decide) h5.o h5.R1 ?_
    refine V_aload_n (pc := 4) dX5_joinHere_4 rfl ?_
    refine V_getIE (pc := 5) 5 4 dX5_joinHere_5 flX5_27 (by decide) h5.o (h4) ?_
    refine V_ialoadE (pc := 8) dX5_joinHere_8 h5.A1 (by first | decide | omega) (by omega) (htk) ?_
    refine V_tableOut (pc := 9) (tgt := 123) dX5_joinHere_9 (by rw [nI_toInt (by omega)]; omega) (by decide) ?_
    refine V_iconst (pc := 123) (v := nI 0) dX5_joinHere_123 (by decide) ?_
    refine V_iret (pc := 124) dX5_joinHere_124 rfl (by first | decide | omega) (by first | decide | omega) ?_
    exact ⟨rfl, rfl, rfl, rfl⟩
  · rcases hv with rfl | rfl
    · skip
      refine V_aload_n (pc := 0) dX5_joinHere_0 rfl ?_
      refine V_getR (pc := 1) 5 1 dX5_joinHere_1 flX5_17 (by decide) h5.o h5.R1 ?_
      refine V_aload_n (pc := 4) dX5_joinHere_4 rfl ?_
      refine V_getIE (pc := 5) 5 4 dX5_joinHere_5 flX5_27 (by decide) h5.o (h4) ?_
      refine V_ialoadE (pc := 8) dX5_joinHere_8 h5.A1 (by first | decide | omega) (by omega) (htk) ?_
      refine V_tableIn (pc := 9) (off := 102) (tgt := 111) dX5_joinHere_9 (by decide) (by decide) (by decide) (by decide) ?_
      refine V_iload_n (pc := 111) dX5_joinHere_111 rfl ?_
      refine V_iconst (pc := 112) (v := nI 1) dX5_joinHere_112 (by decide) ?_
      refine V_icmp_neN (pc := 113) (tgt := 121) dX5_joinHere_113 (by decide) (by omega) (by omega) (fun c113 => ?_) (fun n113 => absurd n113 (by omega))
      refine V_iconst (pc := 121) (v := nI 0) dX5_joinHere_121 (by decide) ?_
      refine V_iret (pc := 122) dX5_joinHere_122 rfl (by first | decide | omega) (by first | decide | omega) ?_
      exact ⟨rfl, rfl, rfl, rfl⟩
    · skip
      refine V_aload_n (pc := 0) dX5_joinHere_0 rfl ?_
      refine V_getR (pc := 1) 5 1 dX5_joinHere_1 flX5_17 (by decide) h5.o h5.R1 ?_
      refine V_aload_n (pc := 4) dX5_joinHere_4 rfl ?_
      refine V_getIE (pc := 5) 5 4 dX5_joinHere_5 flX5_27 (by decide) h5.o (h4) ?_
      refine V_ialoadE (pc := 8) dX5_joinHere_8 h5.A1 (by first | decide | omega) (by omega) (htk) ?_
      refine V_tableIn (pc := 9) (off := 102) (tgt := 111) dX5_joinHere_9 (by decide) (by decide) (by decide) (by decide) ?_
      refine V_iload_n (pc := 111) dX5_joinHere_111 rfl ?_
      refine V_iconst (pc := 112) (v := nI 1) dX5_joinHere_112 (by decide) ?_
      refine V_icmp_neN (pc := 113) (tgt := 121) dX5_joinHere_113 (by decide) (by omega) (by omega) (fun c113 => absurd c113 (by omega)) (fun n113 => ?_)
      refine V_bipush (pc := 116) (v := nI 7) dX5_joinHere_116 (by decide) ?_
      refine V_goto (pc := 118) (tgt := 122) dX5_joinHere_118 (by decide) ?_
      refine V_iret (pc := 122) dX5_joinHere_122 rfl (by first | decide | omega) (by first | decide | omega) ?_
      exact ⟨rfl, rfl, rfl, rfl⟩
  · rcases hv with rfl | rfl
    · skip
      refine V_aload_n (pc := 0) dX5_joinHere_0 rfl ?_
      refine V_getR (pc := 1) 5 1 dX5_joinHere_1 flX5_17 (by decide) h5.o h5.R1 ?_
      refine V_aload_n (pc := 4) dX5_joinHere_4 rfl ?_
      refine V_getIE (pc := 5) 5 4 dX5_joinHere_5 flX5_27 (by decide) h5.o (h4) ?_
      refine V_ialoadE (pc := 8) dX5_joinHere_8 h5.A1 (by first | decide | omega) (by omega) (htk) ?_
      refine V_tableIn (pc := 9) (off := 114) (tgt := 123) dX5_joinHere_9 (by decide) (by decide) (by decide) (by decide) ?_
      refine V_iconst (pc := 123) (v := nI 0) dX5_joinHere_123 (by decide) ?_
      refine V_iret (pc := 124) dX5_joinHere_124 rfl (by first | decide | omega) (by first | decide | omega) ?_
      exact ⟨rfl, rfl, rfl, rfl⟩
    · skip
      refine V_aload_n (pc := 0) dX5_joinHere_0 rfl ?_
      refine V_getR (pc := 1) 5 1 dX5_joinHere_1 flX5_17 (by decide) h5.o h5.R1 ?_
      refine V_aload_n (pc := 4) dX5_joinHere_4 rfl ?_
      refine V_getIE (pc := 5) 5 4 dX5_joinHere_5 flX5_27 (by decide) h5.o (h4) ?_
      refine V_ialoadE (pc := 8) dX5_joinHere_8 h5.A1 (by first | decide | omega) (by omega) (htk) ?_
      refine V_tableIn (pc := 9) (off := 114) (tgt := 123) dX5_joinHere_9 (by decide) (by decide) (by decide) (by decide) ?_
      refine V_iconst (pc := 123) (v := nI 0) dX5_joinHere_123 (by decide) ?_
      refine V_iret (pc := 124) dX5_joinHere_124 rfl (by first | decide | omega) (by first | decide | omega) ?_
      exact ⟨rfl, rfl, rfl, rfl⟩
  · rcases hv with rfl | rfl
    · skip
      refine V_aload_n (pc := 0) dX5_joinHere_0 rfl ?_
      refine V_getR (pc := 1) 5 1 dX5_joinHere_1 flX5_17 (by decide) h5.o h5.R1 ?_
      refine V_aload_n (pc := 4) dX5_joinHere_4 rfl ?_
      refine V_getIE (pc := 5) 5 4 dX5_joinHere_5 flX5_27 (by decide) h5.o (h4) ?_
      refine V_ialoadE (pc := 8) dX5_joinHere_8 h5.A1 (by first | decide | omega) (by omega) (htk) ?_
      refine V_tableIn (pc := 9) (off := 114) (tgt := 123) dX5_joinHere_9 (by decide) (by decide) (by decide) (by decide) ?_
      refine V_iconst (pc := 123) (v := nI 0) dX5_joinHere_123 (by decide) ?_
      refine V_iret (pc := 124) dX5_joinHere_124 rfl (by first | decide | omega) (by first | decide | omega) ?_
      exact ⟨rfl, rfl, rfl, rfl⟩
    · skip
      refine V_aload_n (pc := 0) dX5_joinHere_0 rfl ?_
      refine V_getR (pc := 1) 5 1 dX5_joinHere_1 flX5_17 (by decide) h5.o h5.R1 ?_
      refine V_aload_n (pc := 4) dX5_joinHere_4 rfl ?_
      refine V_getIE (pc := 5) 5 4 dX5_joinHere_5 flX5_27 (by decide) h5.o (h4) ?_
      refine V_ialoadE (pc := 8) dX5_joinHere_8 h5.A1 (by first | decide | omega) (by omega) (htk) ?_
      refine V_tableIn (pc := 9) (off := 114) (tgt := 123) dX5_joinHere_9 (by decide) (by decide) (by decide) (by decide) ?_
      refine V_iconst (pc := 123) (v := nI 0) dX5_joinHere_123 (by decide) ?_
      refine V_iret (pc := 124) dX5_joinHere_124 rfl (by first | decide | omega) (by first | decide | omega) ?_
      exact ⟨rfl, rfl, rfl, rfl⟩
  · rcases hv with rfl | rfl
    · skip
      refine V_aload_n (pc := 0) dX5_joinHere_0 rfl ?_
      refine V_getR (pc := 1) 5 1 dX5_joinHere_1 flX5_17 (by decide) h5.o h5.R1 ?_
      refine V_aload_n (pc := 4) dX5_joinHere_4 rfl ?_
      refine V_getIE (pc := 5) 5 4 dX5_joinHere_5 flX5_27 (by decide) h5.o (h4) ?_
      refine V_ialoadE (pc := 8) dX5_joinHere_8 h5.A1 (by first | decide | omega) (by omega) (htk) ?_
      refine V_tableIn (pc := 9) (off := 114) (tgt := 123) dX5_joinHere_9 (by decide) (by decide) (by decide) (by decide) ?_
      refine V_iconst (pc := 123) (v := nI 0) dX5_joinHere_123 (by decide) ?_
      refine V_iret (pc := 124) dX5_joinHere_124 rfl (by first | decide | omega) (by first | decide | omega) ?_
      exact ⟨rfl, rfl, rfl, rfl⟩
    · skip
      refine V_aload_n (pc := 0) dX5_joinHere_0 rfl ?_
      refine V_getR (pc := 1) 5 1 dX5_joinHere_1 flX5_17 (by decide) h5.o h5.R1 ?_
      refine V_aload_n (pc := 4) dX5_joinHere_4 rfl ?_
      refine V_getIE (pc := 5) 5 4 dX5_joinHere_5 flX5_27 (by decide) h5.o (h4) ?_
      refine V_ialoadE (pc := 8) dX5_joinHere_8 h5.A1 (by first | decide | omega) (by omega) (htk) ?_
      refine V_tableIn (pc := 9) (off := 114) (tgt := 123) dX5_joinHere_9 (by decide) (by decide) (by decide) (by decide) ?_
      refine V_iconst (pc := 123) (v := nI 0) dX5_joinHere_123 (by decide) ?_
      refine V_iret (pc := 124) dX5_joinHere_124 rfl (by first | decide | omega) (by first | decide | omega) ?_
      exact ⟨rfl, rfl, rfl, rfl⟩
  · rcases hv with rfl | rfl
    · skip
      refine V_aload_n (pc := 0) dX5_joinHere_0 rfl ?_
      refine V_getR (pc := 1) 5 1 dX5_joinHere_1 flX5_17 (by decide) h5.o h5.R1 ?_
      refine V_aload_n (pc := 4) dX5_joinHere_4 rfl ?_
      refine V_getIE (pc := 5) 5 4 dX5_joinHere_5 flX5_27 (by decide) h5.o (h4) ?_
      refine V_ialoadE (pc := 8) dX5_joinHere_8 h5.A1 (by first | decide | omega) (by omega) (htk) ?_
      refine V_tableIn (pc := 9) (off := 114) (tgt := 123) dX5_joinHere_9 (by decide) (by decide) (by decide) (by decide) ?_
      refine V_iconst (pc := 123) (v := nI 0) dX5_joinHere_123 (by decide) ?_
      refine V_iret (pc := 124) dX5_joinHere_124 rfl (by first | decide | omega) (by first | decide | omega) ?_
      exact ⟨rfl, rfl, rfl, rfl⟩
    · skip
      refine V_aload_n (pc := 0) dX5_joinHere_0 rfl ?_
      refine V_getR (pc := 1) 5 1 dX5_joinHere_1 flX5_17 (by decide) h5.o h5.R1 ?_
      refine V_aload_n (pc := 4) dX5_joinHere_4 rfl ?_
      refine V_getIE (pc := 5) 5 4 dX5_joinHere_5 flX5_27 (by decide) h5.o (h4) ?_
      refine V_ialoadE (pc := 8) dX5_joinHere_8 h5.A1 (by first | decide | omega) (by omega) (htk) ?_
      refine V_tableIn (pc := 9) (off := 114) (tgt := 123) dX5_joinHere_9 (by decide) (by decide) (by decide) (by decide) ?_
      refine V_iconst (pc := 123) (v := nI 0) dX5_joinHere_123 (by decide) ?_
      refine V_iret (pc := 124) dX5_joinHere_124 rfl (by first | decide | omega) (by first | decide | omega) ?_
      exact ⟨rfl, rfl, rfl, rfl⟩
  · rcases hv with rfl | rfl
    · skip
      refine V_aload_n (pc := 0) dX5_joinHere_0 rfl ?_
      refine V_getR (pc := 1) 5 1 dX5_joinHere_1 flX5_17 (by decide) h5.o h5.R1 ?_
      refine V_aload_n (pc := 4) dX5_joinHere_4 rfl ?_
      refine V_getIE (pc := 5) 5 4 dX5_joinHere_5 flX5_27 (by decide) h5.o (h4) ?_
      refine V_ialoadE (pc := 8) dX5_joinHere_8 h5.A1 (by first | decide | omega) (by omega) (htk) ?_
      refine V_tableIn (pc := 9) (off := 79) (tgt := 88) dX5_joinHere_9 (by decide) (by decide) (by decide) (by decide) ?_
      refine V_iload_n (pc := 88) dX5_joinHere_88 rfl ?_
      refine V_iconst (pc := 89) (v := nI 1) dX5_joinHere_89 (by decide) ?_
      refine V_icmp_neN (pc := 90) (tgt := 97) dX5_joinHere_90 (by decide) (by omega) (by omega) (fun c90 => ?_) (fun n90 => absurd n90 (by omega))
      refine V_iconst (pc := 97) (v := nI 0) dX5_joinHere_97 (by decide) ?_
      refine V_iret (pc := 98) dX5_joinHere_98 rfl (by first | decide | omega) (by first | decide | omega) ?_
      exact ⟨rfl, rfl, rfl, rfl⟩
    · skip
      refine V_aload_n (pc := 0) dX5_joinHere_0 rfl ?_
      refine V_getR (pc := 1) 5 1 dX5_joinHere_1 flX5_17 (by decide) h5.o h5.R1 ?_
      refine V_aload_n (pc := 4) dX5_joinHere_4 rfl ?_
      refine V_getIE (pc := 5) 5 4 dX5_joinHere_5 flX5_27 (by decide) h5.o (h4) ?_
      refine V_ialoadE (pc := 8) dX5_joinHere_8 h5.A1 (by first | decide | omega) (by omega) (htk) ?_
      refine V_tableIn (pc := 9) (off := 79) (tgt := 88) dX5_joinHere_9 (by decide) (by decide) (by decide) (by decide) ?_
      refine V_iload_n (pc := 88) dX5_joinHere_88 rfl ?_
      refine V_iconst (pc := 89) (v := nI 1) dX5_joinHere_89 (by decide) ?_
      refine V_icmp_neN (pc := 90) (tgt := 97) dX5_joinHere_90 (by decide) (by omega) (by omega) (fun c90 => absurd c90 (by omega)) (fun n90 => ?_)
      refine V_iconst (pc := 93) (v := nI 5) dX5_joinHere_93 (by decide) ?_
      refine V_goto (pc := 94) (tgt := 98) dX5_joinHere_94 (by decide) ?_
      refine V_iret (pc := 98) dX5_joinHere_98 rfl (by first | decide | omega) (by first | decide | omega) ?_
      exact ⟨rfl, rfl, rfl, rfl⟩
  · rcases hv with rfl | rfl
    · skip
      refine V_aload_n (pc := 0) dX5_joinHere_0 rfl ?_
      refine V_getR (pc := 1) 5 1 dX5_joinHere_1 flX5_17 (by decide) h5.o h5.R1 ?_
      refine V_aload_n (pc := 4) dX5_joinHere_4 rfl ?_
      refine V_getIE (pc := 5) 5 4 dX5_joinHere_5 flX5_27 (by decide) h5.o (h4) ?_
      refine V_ialoadE (pc := 8) dX5_joinHere_8 h5.A1 (by first | decide | omega) (by omega) (htk) ?_
      refine V_tableIn (pc := 9) (off := 59) (tgt := 68) dX5_joinHere_9 (by decide) (by decide) (by decide) (by decide) ?_
      refine V_iload_n (pc := 68) dX5_joinHere_68 rfl ?_
      refine V_if_neN (pc := 69) (tgt := 76) dX5_joinHere_69 (by decide) (by omega) (fun c69 => absurd c69 (by omega)) (fun n69 => ?_)
      refine V_iconst (pc := 72) (v := nI 3) dX5_joinHere_72 (by decide) ?_
      refine V_goto (pc := 73) (tgt := 77) dX5_joinHere_73 (by decide) ?_
      refine V_iret (pc := 77) dX5_joinHere_77 rfl (by first | decide | omega) (by first | decide | omega) ?_
      exact ⟨rfl, rfl, rfl, rfl⟩
    · skip
      refine V_aload_n (pc := 0) dX5_joinHere_0 rfl ?_
      refine V_getR (pc := 1) 5 1 dX5_joinHere_1 flX5_17 (by decide) h5.o h5.R1 ?_
      refine V_aload_n (pc := 4) dX5_joinHere_4 rfl ?_
      refine V_getIE (pc := 5) 5 4 dX5_joinHere_5 flX5_27 (by decide) h5.o (h4) ?_
      refine V_ialoadE (pc := 8) dX5_joinHere_8 h5.A1 (by first | decide | omega) (by omega) (htk) ?_
      refine V_tableIn (pc := 9) (off := 59) (tgt := 68) dX5_joinHere_9 (by decide) (by decide) (by decide) (by decide) ?_
      refine V_iload_n (pc := 68) dX5_joinHere_68 rfl ?_
      refine V_if_neN (pc := 69) (tgt := 76) dX5_joinHere_69 (by decide) (by omega) (fun c69 => ?_) (fun n69 => absurd n69 (by omega))
      refine V_iconst (pc := 76) (v := nI 0) dX5_joinHere_76 (by decide) ?_
      refine V_iret (pc := 77) dX5_joinHere_77 rfl (by first | decide | omega) (by first | decide | omega) ?_
      exact ⟨rfl, rfl, rfl, rfl⟩
  · rcases hv with rfl | rfl
    · skip
      refine V_aload_n (pc := 0) dX5_joinHere_0 rfl ?_
      refine V_getR (pc := 1) 5 1 dX5_joinHere_1 flX5_17 (by decide) h5.o h5.R1 ?_
      refine V_aload_n (pc := 4) dX5_joinHere_4 rfl ?_
      refine V_getIE (pc := 5) 5 4 dX5_joinHere_5 flX5_27 (by decide) h5.o (h4) ?_
      refine V_ialoadE (pc := 8) dX5_joinHere_8 h5.A1 (by first | decide | omega) (by omega) (htk) ?_
      refine V_tableIn (pc := 9) (off := 114) (tgt := 123) dX5_joinHere_9 (by decide) (by decide) (by decide) (by decide) ?_
      refine V_iconst (pc := 123) (v := nI 0) dX5_joinHere_123 (by decide) ?_
      refine V_iret (pc := 124) dX5_joinHere_124 rfl (by first | decide | omega) (by first | decide | omega) ?_
      exact ⟨rfl, rfl, rfl, rfl⟩
    · skip
      refine V_aload_n (pc := 0) dX5_joinHere_0 rfl ?_
      refine V_getR (pc := 1) 5 1 dX5_joinHere_1 flX5_17 (by decide) h5.o h5.R1 ?_
      refine V_aload_n (pc := 4) dX5_joinHere_4 rfl ?_
      refine V_getIE (pc := 5) 5 4 dX5_joinHere_5 flX5_27 (by decide) h5.o (h4) ?_
      refine V_ialoadE (pc := 8) dX5_joinHere_8 h5.A1 (by first | decide | omega) (by omega) (htk) ?_
      refine V_tableIn (pc := 9) (off := 114) (tgt := 123) dX5_joinHere_9 (by decide) (by decide) (by decide) (by decide) ?_
      refine V_iconst (pc := 123) (v := nI 0) dX5_joinHere_123 (by decide) ?_
      refine V_iret (pc := 124) dX5_joinHere_124 rfl (by first | decide | omega) (by first | decide | omega) ?_
      exact ⟨rfl, rfl, rfl, rfl⟩
  · rcases hv with rfl | rfl
    · skip
      refine V_aload_n (pc := 0) dX5_joinHere_0 rfl ?_
      refine V_getR (pc := 1) 5 1 dX5_joinHere_1 flX5_17 (by decide) h5.o h5.R1 ?_
      refine V_aload_n (pc := 4) dX5_joinHere_4 rfl ?_
      refine V_getIE (pc := 5) 5 4 dX5_joinHere_5 flX5_27 (by decide) h5.o (h4) ?_
      refine V_ialoadE (pc := 8) dX5_joinHere_8 h5.A1 (by first | decide | omega) (by omega) (htk) ?_
      refine V_tableIn (pc := 9) (off := 69) (tgt := 78) dX5_joinHere_9 (by decide) (by decide) (by decide) (by decide) ?_
      refine V_iload_n (pc := 78) dX5_joinHere_78 rfl ?_
      refine V_if_neN (pc := 79) (tgt := 86) dX5_joinHere_79 (by decide) (by omega) (fun c79 => absurd c79 (by omega)) (fun n79 => ?_)
      refine V_iconst (pc := 82) (v := nI 4) dX5_joinHere_82 (by decide) ?_
      refine V_goto (pc := 83) (tgt := 87) dX5_joinHere_83 (by decide) ?_
      refine V_iret (pc := 87) dX5_joinHere_87 rfl (by first | decide | omega) (by first | decide | omega) ?_
      exact ⟨rfl, rfl, rfl, rfl⟩
    · skip
      refine V_aload_n (pc := 0) dX5_joinHere_0 rfl ?_
      refine V_getR (pc := 1) 5 1 dX5_joinHere_1 flX5_17 (by decide) h5.o h5.R1 ?_
      refine V_aload_n (pc := 4) dX5_joinHere_4 rfl ?_
      refine V_getIE (pc := 5) 5 4 dX5_joinHere_5 flX5_27 (by decide) h5.o (h4) ?_
      refine V_ialoadE (pc := 8) dX5_joinHere_8 h5.A1 (by first | decide | omega) (by omega) (htk) ?_
      refine V_tableIn (pc := 9) (off := 69) (tgt := 78) dX5_joinHere_9 (by decide) (by decide) (by decide) (by decide) ?_
      refine V_iload_n (pc := 78) dX5_joinHere_78 rfl ?_
      refine V_if_neN (pc := 79) (tgt := 86) dX5_joinHere_79 (by decide) (by omega) (fun c79 => ?_) (fun n79 => absurd n79 (by omega))
      refine V_iconst (pc := 86) (v := nI 0) dX5_joinHere_86 (by decide) ?_
      refine V_iret (pc := 87) dX5_joinHere_87 rfl (by first | decide | omega) (by first | decide | omega) ?_
      exact ⟨rfl, rfl, rfl, rfl⟩
  · rcases hv with rfl | rfl
    · skip
      refine V_aload_n (pc := 0) dX5_joinHere_0 rfl ?_
      refine V_getR (pc := 1) 5 1 dX5_joinHere_1 flX5_17 (by decide) h5.o h5.R1 ?_
      refine V_aload_n (pc := 4) dX5_joinHere_4 rfl ?_
      refine V_getIE (pc := 5) 5 4 dX5_joinHere_5 flX5_27 (by decide) h5.o (h4) ?_
      refine V_ialoadE (pc := 8) dX5_joinHere_8 h5.A1 (by first | decide | omega) (by omega) (htk) ?_
      refine V_tableIn (pc := 9) (off := 114) (tgt := 123) dX5_joinHere_9 (by decide) (by decide) (by decide) (by decide) ?_
      refine V_iconst (pc := 123) (v := nI 0) dX5_joinHere_123 (by decide) ?_
      refine V_iret (pc := 124) dX5_joinHere_124 rfl (by first | decide | omega) (by first | decide | omega) ?_
      exact ⟨rfl, rfl, rfl, rfl⟩
    · skip
      refine V_aload_n (pc := 0) dX5_joinHere_0 rfl ?_
      refine V_getR (pc := 1) 5 1 dX5_joinHere_1 flX5_17 (by decide) h5.o h5.R1 ?_
      refine V_aload_n (pc := 4) dX5_joinHere_4 rfl ?_
      refine V_getIE (pc := 5) 5 4 dX5_joinHere_5 flX5_27 (by decide) h5.o (h4) ?_
      refine V_ialoadE (pc := 8) dX5_joinHere_8 h5.A1 (by first | decide | omega) (by omega) (htk) ?_
      refine V_tableIn (pc := 9) (off := 114) (tgt := 123) dX5_joinHere_9 (by decide) (by decide) (by decide) (by decide) ?_
      refine V_iconst (pc := 123) (v := nI 0) dX5_joinHere_123 (by decide) ?_
      refine V_iret (pc := 124) dX5_joinHere_124 rfl (by first | decide | omega) (by first | decide | omega) ?_
      exact ⟨rfl, rfl, rfl, rfl⟩
  · rcases hv with rfl | rfl
    · skip
      refine V_aload_n (pc := 0) dX5_joinHere_0 rfl ?_
      refine V_getR (pc := 1) 5 1 dX5_joinHere_1 flX5_17 (by decide) h5.o h5.R1 ?_
      refine V_aload_n (pc := 4) dX5_joinHere_4 rfl ?_
      refine V_getIE (pc := 5) 5 4 dX5_joinHere_5 flX5_27 (by decide) h5.o (h4) ?_
      refine V_ialoadE (pc := 8) dX5_joinHere_8 h5.A1 (by first | decide | omega) (by omega) (htk) ?_
      refine V_tableIn (pc := 9) (off := 90) (tgt := 99) dX5_joinHere_9 (by decide) (by decide) (by decide) (by decide) ?_
      refine V_iload_n (pc := 99) dX5_joinHere_99 rfl ?_
      refine V_iconst (pc := 100) (v := nI 1) dX5_joinHere_100 (by decide) ?_
      refine V_icmp_neN (pc := 101) (tgt := 109) dX5_joinHere_101 (by decide) (by omega) (by omega) (fun c101 => ?_) (fun n101 => absurd n101 (by omega))
      refine V_iconst (pc := 109) (v := nI 0) dX5_joinHere_109 (by decide) ?_
      refine V_iret (pc := 110) dX5_joinHere_110 rfl (by first | decide | omega) (by first | decide | omega) ?_
      exact ⟨rfl, rfl, rfl, rfl⟩
    · skip
      refine V_aload_n (pc := 0) dX5_joinHere_0 rfl ?_
      refine V_getR (pc := 1) 5 1 dX5_joinHere_1 flX5_17 (by decide) h5.o h5.R1 ?_
      refine V_aload_n (pc := 4) dX5_joinHere_4 rfl ?_
      refine V_getIE (pc := 5) 5 4 dX5_joinHere_5 flX5_27 (by decide) h5.o (h4) ?_
      refine V_ialoadE (pc := 8) dX5_joinHere_8 h5.A1 (by first | decide | omega) (by omega) (htk) ?_
      refine V_tableIn (pc := 9) (off := 90) (tgt := 99) dX5_joinHere_9 (by decide) (by decide) (by decide) (by decide) ?_
      refine V_iload_n (pc := 99) dX5_joinHere_99 rfl ?_
      refine V_iconst (pc := 100) (v := nI 1) dX5_joinHere_100 (by decide) ?_
      refine V_icmp_neN (pc := 101) (tgt := 109) dX5_joinHere_101 (by decide) (by omega) (by omega) (fun c101 => absurd c101 (by omega)) (fun n101 => ?_)
      refine V_bipush (pc := 104) (v := nI 6) dX5_joinHere_104 (by decide) ?_
      refine V_goto (pc := 106) (tgt := 110) dX5_joinHere_106 (by decide) ?_
      refine V_iret (pc := 110) dX5_joinHere_110 rfl (by first | decide | omega) (by first | decide | omega) ?_
      exact ⟨rfl, rfl, rfl, rfl⟩
end RS1
