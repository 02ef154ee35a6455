/-! THE READER: the sums of a clause -/
def sms (od : Bool) (kd : Nat) : Nat := if od = true then (if kd = 0 then 3 else if kd = 3 then 0 else 2) else if kd = 3 then 0 else 1
def whd (kd i : Nat) : Nat := if kd = 2 then 7 else if kd = 0 ∧ i = 1 then 5 else 6
def rdS (t : Nat → Nat) (n : Nat) (od : Bool) (kd : Nat) : Nat → Nat → Nat → Nat → Nat × Nat × Option (List SF)
  | 0, _, p, l => (p, l, some [])
  | j + 1, i, p, l => if i = 0 ∨ tc t n p = whd kd i then (match (ps t n od (FU n) 0 0 (if i = 0 then p else nxt t n p) l one).2.2 with | none => ((ps t n od (FU n) 0 0 (if i = 0 then p else nxt t n p) l one).1, (ps t n od (FU n) 0 0 (if i = 0 then p else nxt t n p) l one).2.1, none) | some F => (match (rdS t n od kd j (i + 1) (ps t n od (FU n) 0 0 (if i = 0 then p else nxt t n p) l one).1 (ps t n od (FU n) 0 0 (if i = 0 then p else nxt t n p) l one).2.1).2.2 with | none => ((rdS t n od kd j (i + 1) (ps t n od (FU n) 0 0 (if i = 0 then p else nxt t n p) l one).1 (ps t n od (FU n) 0 0 (if i = 0 then p else nxt t n p) l one).2.1).1, (rdS t n od kd j (i + 1) (ps t n od (FU n) 0 0 (if i = 0 then p else nxt t n p) l one).1 (ps t n od (FU n) 0 0 (if i = 0 then p else nxt t n p) l one).2.1).2.1, none) | some fs => ((rdS t n od kd j (i + 1) (ps t n od (FU n) 0 0 (if i = 0 then p else nxt t n p) l one).1 (ps t n od (FU n) 0 0 (if i = 0 then p else nxt t n p) l one).2.1).1, (rdS t n od kd j (i + 1) (ps t n od (FU n) 0 0 (if i = 0 then p else nxt t n p) l one).1 (ps t n od (FU n) 0 0 (if i = 0 then p else nxt t n p) l one).2.1).2.1, some (F :: fs)))) else (p, l, none)
/-- what reading a clause's sums leaves -/
def FrY (o : Nat) (I' I : IT) : Prop := (∀ a, a ≠ o → a ≠ o + 6 → a ≠ o + 7 → a ≠ o + 8 → I' a = I a) ∧ ∀ i, i ≠ 4 → i ≠ 5 → i ≠ 12 → I' o i = I o i
section RX
variable {E : EnT} {S : ST} {I I' I2 : IT} {L : LT} {o n m k l d f s : Nat} {t : Nat → Nat} {od : Bool} {c : CT} {F : SF}
theorem FrX5.y (h : FrX5 o I' I) : FrY o I' I := ⟨fun a h1 h2 h3 h4 => h.1 a h1 h3 h4, h.2⟩
theorem FrY.tr (h : FrY o I2 I') (g : FrY o I' I) : FrY o I2 I := ⟨fun a h1 h2 h3 h4 => (h.1 a h1 h2 h3 h4).trans (g.1 a h1 h2 h3 h4), fun j h1 h2 h3 => (h.2 j h1 h2 h3).trans (g.2 j h1 h2 h3)⟩
theorem FrY.u6 {i : Nat} {v : Int32} (h : FrY o I' I) : FrY o (up2 I' (o + 6) i v) I := ⟨fun a h1 h2 h3 h4 => by rw [up2_row h2]; exact h.1 a h1 h2 h3 h4, fun j h1 h2 h3 => by rw [up2_row (by omega)]; exact h.2 j h1 h2 h3⟩
theorem RS.row {r i : Nat} {v : Int32} (h : RS I o t n m od k l c) (hr : r = o + 4 ∨ r = o + 5 ∨ r = o + 6) : RS (up2 I r i v) o t n m od k l c := by
  obtain ⟨h1, h2, h3, h4, h5, h6, h7⟩ := h
  obtain ⟨s1, s2, s3, s4, s5, s6⟩ := h1
  refine ⟨⟨(up2_ne (by omega)).trans s1, s2, s3, s4, fun j hj => ?_, fun j hj => ?_⟩, h2, (up2_ne (by omega)).trans h3, (up2_ne (by omega)).trans h4, (up2_ne (by omega)).trans h5, (up2_ne (by omega)).trans h6, fun j hj => ?_⟩
  · rw [up2_ne (by omega), up2_ne (by omega)]; exact s5 j hj
  · rw [up2_ne (by omega)]; exact s6 j hj
  · rw [up2_ne (by omega), up2_ne (by omega)]; exact h7 j hj
theorem SgR.stp {s0 l0 l : Nat} {c0 c : CT} {F : SF} (h : SgR s0 c0 c l0 l F) (hl : l ≤ 50) : SgC (pc1 c 31 0).1 (pc1 c 31 0).2.1 (pc1 c 31 0).2.2 s0 c.2.2 F := by
  obtain ⟨h1, h2, a, ha, hF⟩ := h
  have hs := hF.1
  have e1 : ∀ j, j < c.2.2 → (pc1 c 31 0).1 j = c.1 j ∧ (pc1 c 31 0).2.1 j = c.2.1 j := fun j hj => ⟨if_neg (by omega), if_neg (by omega)⟩
  refine ⟨by omega, Nat.lt_succ_self _, if_pos rfl, fun j j1 j2 => ?_, a, by omega, hF.cg fun j _ hj => e1 j hj⟩
  rw [(e1 j j2).1, (e1 j j2).2]
  exact h2 j j1 j2
theorem SgC.ag {op arg op' arg' : Nat → Nat} {m m' s e : Nat} {F : SF} (h : SgC op arg m s e F) (hm : m ≤ m') (hA : ∀ j, j < m → op' j = op j ∧ arg' j = arg j) : SgC op' arg' m' s e F := by
  obtain ⟨h1, h2, h3, h4, a, ha, hF⟩ := h
  refine ⟨h1, by omega, (hA e h2).1.trans h3, fun j j1 j2 => ?_, a, ha, hF.cg fun j _ hj => hA j (by omega)⟩
  rw [(hA j (by omega)).1, (hA j (by omega)).2]
  exact h4 j j1 j2
theorem c_X5_sumsOf {kd : Nat} (h5 : Lay5 E S o) (h6 : I o 6 = b2i od) (hk : kd < 4) : Cd E kX5_sumsOf 0 0 0 [.ref o, .int (nI kd)] S I L (.int (nI (sms od kd))) S I L := by
  refine C_of (by decide) (Nat.le_of_ble_eq_true rfl) ?_
  have hc : kd = 0 ∨ kd = 1 ∨ kd = 2 ∨ kd = 3 := by omega
  cases od with
  | true =>
    rcases hc with rfl | rfl | rfl | rfl
    · skip
      refine V_aload_n (pc := 0) dX5_sumsOf_0 rfl ?_
      refine V_getIE (pc := 1) 5 6 dX5_sumsOf_1 flX5_33 (by decide) h5.o (h6) ?_
      refine V_if_neB (pc := 4) (tgt := 18) dX5_sumsOf_4 (by decide) (fun c4 => ?_) (fun n4 => absurd n4 (by decide))
      refine V_iload_n (pc := 18) dX5_sumsOf_18 rfl ?_
      refine V_lookup (pc := 19) (off := 25) (tgt := 44) dX5_sumsOf_19 (by decide) (by decide) (by decide) ?_
      refine V_iconst (pc := 44) (v := nI 3) dX5_sumsOf_44 (by decide) ?_
      refine V_iret (pc := 45) dX5_sumsOf_45 rfl (by first | decide | omega) (by first | decide | omega) ?_
      exact ⟨rfl, rfl, rfl, rfl⟩
    · skip
      refine V_aload_n (pc := 0) dX5_sumsOf_0 rfl ?_
      refine V_getIE (pc := 1) 5 6 dX5_sumsOf_1 flX5_33 (by decide) h5.o (h6) ?_
      refine V_if_neB (pc := 4) (tgt := 18) dX5_sumsOf_4 (by decide) (fun c4 => ?_) (fun n4 => absurd n4 (by decide))
      refine V_iload_n (pc := 18) dX5_sumsOf_18 rfl ?_
      refine V_lookup (pc := 19) (off := 29) (tgt := 48) dX5_sumsOf_19 (by decide) (by decide) (by decide) ?_
      refine V_iconst (pc := 48) (v := nI 2) dX5_sumsOf_48 (by decide) ?_
      refine V_iret (pc := 49) dX5_sumsOf_49 rfl (by first | decide | omega) (by first | decide | omega) ?_
      exact ⟨rfl, rfl, rfl, rfl⟩
    · skip
      refine V_aload_n (pc := 0) dX5_sumsOf_0 rfl ?_
      refine V_getIE (pc := 1) 5 6 dX5_sumsOf_1 flX5_33 (by decide) h5.o (h6) ?_
      refine V_if_neB (pc := 4) (tgt := 18) dX5_sumsOf_4 (by decide) (fun c4 => ?_) (fun n4 => absurd n4 (by decide))
      refine V_iload_n (pc := 18) dX5_sumsOf_18 rfl ?_
      refine V_lookup (pc := 19) (off := 29) (tgt := 48) dX5_sumsOf_19 (by decide) (by decide) (by decide) ?_
      refine V_iconst (pc := 48) (v := nI 2) dX5_sumsOf_48 (by decide) ?_
      refine V_iret (pc := 49) dX5_sumsOf_49 rfl (by first | decide | omega) (by first | decide | omega) ?_
      exact ⟨rfl, rfl, rfl, rfl⟩
    · skip
      refine V_aload_n (pc := 0) dX5_sumsOf_0 rfl ?_
      refine V_getIE (pc := 1) 5 6 dX5_sumsOf_1 flX5_33 (by decide) h5.o (h6) ?_
      refine V_if_neB (pc := 4) (tgt := 18) dX5_sumsOf_4 (by decide) (fun c4 => ?_) (fun n4 => absurd n4 (by decide))
      refine V_iload_n (pc := 18) dX5_sumsOf_18 rfl ?_
      refine V_lookup (pc := 19) (off := 27) (tgt := 46) dX5_sumsOf_19 (by decide) (by decide) (by decide) ?_
      refine V_iconst (pc := 46) (v := nI 0) dX5_sumsOf_46 (by decide) ?_
      refine V_iret (pc := 47) dX5_sumsOf_47 rfl (by first | decide | omega) (by first | decide | omega) ?_
      exact ⟨rfl, rfl, rfl, rfl⟩
  | false =>
    rcases hc with rfl | rfl | rfl | rfl
    · skip
      refine V_aload_n (pc := 0) dX5_sumsOf_0 rfl ?_
      refine V_getIE (pc := 1) 5 6 dX5_sumsOf_1 flX5_33 (by decide) h5.o (h6) ?_
      refine V_if_neB (pc := 4) (tgt := 18) dX5_sumsOf_4 (by decide) (fun c4 => absurd c4 (by decide)) (fun n4 => ?_)
      refine V_iload_n (pc := 7) dX5_sumsOf_7 rfl ?_
      refine V_iconst (pc := 8) (v := nI 3) dX5_sumsOf_8 (by decide) ?_
      refine V_icmp_neN (pc := 9) (tgt := 16) dX5_sumsOf_9 (by decide) (by omega) (by omega) (fun c9 => ?_) (fun n9 => absurd n9 (by omega))
      refine V_iconst (pc := 16) (v := nI 1) dX5_sumsOf_16 (by decide) ?_
      refine V_iret (pc := 17) dX5_sumsOf_17 rfl (by first | decide | omega) (by first | decide | omega) ?_
      exact ⟨rfl, rfl, rfl, rfl⟩
    · skip
      refine V_aload_n (pc := 0) dX5_sumsOf_0 rfl ?_
      refine V_getIE (pc := 1) 5 6 dX5_sumsOf_1 flX5_33 (by decide) h5.o (h6) ?_
      refine V_if_neB (pc := 4) (tgt := 18) dX5_sumsOf_4 (by decide) (fun c4 => absurd c4 (by decide)) (fun n4 => ?_)
      refine V_iload_n (pc := 7) dX5_sumsOf_7 rfl ?_
      refine V_iconst (pc := 8) (v := nI 3) dX5_sumsOf_8 (by decide) ?_
      refine V_icmp_neN (pc := 9) (tgt := 16) dX5_sumsOf_9 (by decide) (by omega) (by omega) (fun c9 => ?_) (fun n9 => absurd n9 (by omega))
      refine V_iconst (pc := 16) (v := nI 1) dX5_sumsOf_16 (by decide) ?_
      refine V_iret (pc := 17) dX5_sumsOf_17 rfl (by first | decide | omega) (by first | decide | omega) ?_
      exact ⟨rfl, rfl, rfl, rfl⟩
    · skip
      refine V_aload_n (pc := 0) dX5_sumsOf_0 rfl ?_
      refine V_getIE (pc := 1) 5 6 dX5_sumsOf_1 flX5_33 (by decide) h5.o (h6) ?_
      refine V_if_neB (pc := 4) (tgt := 18) dX5_sumsOf_4 (by decide) (fun c4 => absurd c4 (by decide)) (fun n4 => ?_)
      refine V_iload_n (pc := 7) dX5_sumsOf_7 rfl ?_
      refine V_iconst (pc := 8) (v := nI 3) dX5_sumsOf_8 (by decide) ?_
      refine V_icmp_neN (pc := 9) (tgt := 16) dX5_sumsOf_9 (by decide) (by omega) (by omega) (fun c9 => ?_) (fun n9 => absurd n9 (by omega))
      refine V_iconst (pc := 16) (v := nI 1) dX5_sumsOf_16 (by decide) ?_
      refine V_iret (pc := 17) dX5_sumsOf_17 rfl (by first | decide | omega) (by first | decide | omega) ?_
      exact ⟨rfl, rfl, rfl, rfl⟩
    · skip
      refine V_aload_n (pc := 0) dX5_sumsOf_0 rfl ?_
      refine V_getIE (pc := 1) 5 6 dX5_sumsOf_1 flX5_33 (by decide) h5.o (h6) ?_
      refine V_if_neB (pc := 4) (tgt := 18) dX5_sumsOf_4 (by decide) (fun c4 => absurd c4 (by decide)) (fun n4 => ?_)
      refine V_iload_n (pc := 7) dX5_sumsOf_7 rfl ?_
      refine V_iconst (pc := 8) (v := nI 3) dX5_sumsOf_8 (by decide) ?_
      refine V_icmp_neN (pc := 9) (tgt := 16) dX5_sumsOf_9 (by decide) (by omega) (by omega) (fun c9 => absurd c9 (by omega)) (fun n9 => ?_)
      refine V_iconst (pc := 12) (v := nI 0) dX5_sumsOf_12 (by decide) ?_
      refine V_goto (pc := 13) (tgt := 17) dX5_sumsOf_13 (by decide) ?_
      refine V_iret (pc := 17) dX5_sumsOf_17 rfl (by first | decide | omega) (by first | decide | omega) ?_
      exact ⟨rfl, rfl, rfl, rfl⟩
theorem c_X5_wordAhead {kd i : Nat} (hk : kd < 4) (hi : i < 3) : Cd E kX5_wordAhead 0 0 0 [.int (nI kd), .int (nI i)] S I L (.int (nI (whd kd i))) S I L := by
  refine C_of (by decide) (Nat.le_of_ble_eq_true rfl) ?_
  have hc : kd = 0 ∨ kd = 1 ∨ kd = 2 ∨ kd = 3 := by omega
  have hci : i = 0 ∨ i = 1 ∨ i = 2 := by omega
  rcases hc with rfl | rfl | rfl | rfl <;> rcases hci with rfl | rfl | rfl
  · skip
    refine V_iload_n (pc := 0) dX5_wordAhead_0 rfl ?_
    refine V_iconst (pc := 1) (v := nI 2) dX5_wordAhead_1 (by decide) ?_
    refine V_icmp_neN (pc := 2) (tgt := 8) dX5_wordAhead_2 (by decide) (by omega) (by omega) (fun c2 => ?_) (fun n2 => absurd n2 (by omega))
    refine V_iload_n (pc := 8) dX5_wordAhead_8 rfl ?_
    refine V_if_neN (pc := 9) (tgt := 21) dX5_wordAhead_9 (by decide) (by omega) (fun c9 => absurd c9 (by omega)) (fun n9 => ?_)
    refine V_iload_n (pc := 12) dX5_wordAhead_12 rfl ?_
    refine V_iconst (pc := 13) (v := nI 1) dX5_wordAhead_13 (by decide) ?_
    refine V_icmp_neN (pc := 14) (tgt := 21) dX5_wordAhead_14 (by decide) (by omega) (by omega) (fun c14 => ?_) (fun n14 => absurd n14 (by omega))
    refine V_bipush (pc := 21) (v := nI 6) dX5_wordAhead_21 (by decide) ?_
    refine V_iret (pc := 23) dX5_wordAhead_23 rfl (by first | decide | omega) (by first | decide | omega) ?_
    exact ⟨rfl, rfl, rfl, rfl⟩
  · skip
    refine V_iload_n (pc := 0) dX5_wordAhead_0 rfl ?_
    refine V_iconst (pc := 1) (v := nI 2) dX5_wordAhead_1 (by decide) ?_
    refine V_icmp_neN (pc := 2) (tgt := 8) dX5_wordAhead_2 (by decide) (by omega) (by omega) (fun c2 => ?_) (fun n2 => absurd n2 (by omega))
    refine V_iload_n (pc := 8) dX5_wordAhead_8 rfl ?_
    refine V_if_neN (pc := 9) (tgt := 21) dX5_wordAhead_9 (by decide) (by omega) (fun c9 => absurd c9 (by omega)) (fun n9 => ?_)
    refine V_iload_n (pc := 12) dX5_wordAhead_12 rfl ?_
    refine V_iconst (pc := 13) (v := nI 1) dX5_wordAhead_13 (by decide) ?_
    refine V_icmp_neN (pc := 14) (tgt := 21) dX5_wordAhead_14 (by decide) (by omega) (by omega) (fun c14 => absurd c14 (by omega)) (fun n14 => ?_)
    refine V_iconst (pc := 17) (v := nI 5) dX5_wordAhead_17 (by decide) ?_
    refine V_goto (pc := 18) (tgt := 23) dX5_wordAhead_18 (by decide) ?_
    refine V_iret (pc := 23) dX5_wordAhead_23 rfl (by first | decide | omega) (by first | decide | omega) ?_
    exact ⟨rfl, rfl, rfl, rfl⟩
  · skip
    refine V_iload_n (pc := 0) dX5_wordAhead_0 rfl ?_
    refine V_iconst (pc := 1) (v := nI 2) dX5_wordAhead_1 (by decide) ?_
    refine V_icmp_neN (pc := 2) (tgt := 8) dX5_wordAhead_2 (by decide) (by omega) (by omega) (fun c2 => ?_) (fun n2 => absurd n2 (by omega))
    refine V_iload_n (pc := 8) dX5_wordAhead_8 rfl ?_
    refine V_if_neN (pc := 9) (tgt := 21) dX5_wordAhead_9 (by decide) (by omega) (fun c9 => absurd c9 (by omega)) (fun n9 => ?_)
    refine V_iload_n (pc := 12) dX5_wordAhead_12 rfl ?_
    refine V_iconst (pc := 13) (v := nI 1) dX5_wordAhead_13 (by decide) ?_
    refine V_icmp_neN (pc := 14) (tgt := 21) dX5_wordAhead_14 (by decide) (by omega) (by omega) (fun c14 => ?_) (fun n14 => absurd n14 (by omega))
    refine V_bipush (pc := 21) (v := nI 6) dX5_wordAhead_21 (by decide) ?_
    refine V_iret (pc := 23) dX5_wordAhead_23 rfl (by first | decide | omega) (by first | decide | omega) ?_
    exact ⟨rfl, rfl, rfl, rfl⟩
  · skip
    refine V_iload_n (pc := 0) dX5_wordAhead_0 rfl ?_
    refine V_iconst (pc := 1) (v := nI 2) dX5_wordAhead_1 (by decide) ?_
    refine V_icmp_neN (pc := 2) (tgt := 8) dX5_wordAhead_2 (by decide) (by omega) (by omega) (fun c2 => ?_) (fun n2 => absurd n2 (by omega))
    refine V_iload_n (pc := 8) dX5_wordAhead_8 rfl ?_
    refine V_if_neN (pc := 9) (tgt := 21) dX5_wordAhead_9 (by decide) (by omega) (fun c9 => ?_) (fun n9 => absurd n9 (by omega))
    refine V_bipush (pc := 21) (v := nI 6) dX5_wordAhead_21 (by decide) ?_
    refine V_iret (pc := 23) dX5_wordAhead_23 rfl (by first | decide | omega) (by first | decide | omega) ?_
    exact ⟨rfl, rfl, rfl, rfl⟩
  · skip
    refine V_iload_n (pc := 0) dX5_wordAhead_0 rfl ?_
    refine V_iconst (pc := 1) (v := nI 2) dX5_wordAhead_1 (by decide) ?_
    refine V_icmp_neN (pc := 2) (tgt := 8) dX5_wordAhead_2 (by decide) (by omega) (by omega) (fun c2 => ?_) (fun n2 => absurd n2 (by omega))
    refine V_iload_n (pc := 8) dX5_wordAhead_8 rfl ?_
    refine V_if_neN (pc := 9) (tgt := 21) dX5_wordAhead_9 (by decide) (by omega) (fun c9 => ?_) (fun n9 => absurd n9 (by omega))
    refine V_bipush (pc := 21) (v := nI 6) dX5_wordAhead_21 (by decide) ?_
    refine V_iret (pc := 23) dX5_wordAhead_23 rfl (by first | decide | omega) (by first | decide | omega) ?_
    exact ⟨rfl, rfl, rfl, rfl⟩
  · skip
    refine V_iload_n (pc := 0) dX5_wordAhead_0 rfl ?_
    refine V_iconst (pc := 1) (v := nI 2) dX5_wordAhead_1 (by decide) ?_
    refine V_icmp_neN (pc := 2) (tgt := 8) dX5_wordAhead_2 (by decide) (by omega) (by omega) (fun c2 => ?_) (fun n2 => absurd n2 (by omega))
    refine V_iload_n (pc := 8) dX5_wordAhead_8 rfl ?_
    refine V_if_neN (pc := 9) (tgt := 21) dX5_wordAhead_9 (by decide) (by omega) (fun c9 => ?_) (fun n9 => absurd n9 (by omega))
    refine V_bipush (pc := 21) (v := nI 6) dX5_wordAhead_21 (by decide) ?_
    refine V_iret (pc := 23) dX5_wordAhead_23 rfl (by first | decide | omega) (by first | decide | omega) ?_
    exact ⟨rfl, rfl, rfl, rfl⟩
  · skip
    refine V_iload_n (pc := 0) dX5_wordAhead_0 rfl ?_
    refine V_iconst (pc := 1) (v := nI 2) dX5_wordAhead_1 (by decide) ?_
    refine V_icmp_neN (pc := 2) (tgt := 8) dX5_wordAhead_2 (by decide) (by omega) (by omega) (fun c2 => absurd c2 (by omega)) (fun n2 => ?_)
    refine V_bipush (pc := 5) (v := nI 7) dX5_wordAhead_5 (by decide) ?_
    refine V_iret (pc := 7) dX5_wordAhead_7 rfl (by first | decide | omega) (by first | decide | omega) ?_
    exact ⟨rfl, rfl, rfl, rfl⟩
  · skip
    refine V_iload_n (pc := 0) dX5_wordAhead_0 rfl ?_
    refine V_iconst (pc := 1) (v := nI 2) dX5_wordAhead_1 (by decide) ?_
    refine V_icmp_neN (pc := 2) (tgt := 8) dX5_wordAhead_2 (by decide) (by omega) (by omega) (fun c2 => absurd c2 (by omega)) (fun n2 => ?_)
    refine V_bipush (pc := 5) (v := nI 7) dX5_wordAhead_5 (by decide) ?_
    refine V_iret (pc := 7) dX5_wordAhead_7 rfl (by first | decide | omega) (by first | decide | omega) ?_
    exact ⟨rfl, rfl, rfl, rfl⟩
  · skip
    refine V_iload_n (pc := 0) dX5_wordAhead_0 rfl ?_
    refine V_iconst (pc := 1) (v := nI 2) dX5_wordAhead_1 (by decide) ?_
    refine V_icmp_neN (pc := 2) (tgt := 8) dX5_wordAhead_2 (by decide) (by omega) (by omega) (fun c2 => absurd c2 (by omega)) (fun n2 => ?_)
    refine V_bipush (pc := 5) (v := nI 7) dX5_wordAhead_5 (by decide) ?_
    refine V_iret (pc := 7) dX5_wordAhead_7 rfl (by first | decide | omega) (by first | decide | omega) ?_
    exact ⟨rfl, rfl, rfl, rfl⟩
  · skip
    refine V_iload_n (pc := 0) dX5_wordAhead_0 rfl ?_
    refine V_iconst (pc := 1) (v := nI 2) dX5_wordAhead_1 (by decide) ?_
    refine V_icmp_neN (pc := 2) (tgt := 8) dX5_wordAhead_2 (by decide) (by omega) (by omega) (fun c2 => ?_) (fun n2 => absurd n2 (by omega))
    refine V_iload_n (pc := 8) dX5_wordAhead_8 rfl ?_
    refine V_if_neN (pc := 9) (tgt := 21) dX5_wordAhead_9 (by decide) (by omega) (fun c9 => ?_) (fun n9 => absurd n9 (by omega))
    refine V_bipush (pc := 21) (v := nI 6) dX5_wordAhead_21 (by decide) ?_
    refine V_iret (pc := 23) dX5_wordAhead_23 rfl (by first | decide | omega) (by first | decide | omega) ?_
    exact ⟨rfl, rfl, rfl, rfl⟩
  · skip
    refine V_iload_n (pc := 0) dX5_wordAhead_0 rfl ?_
    refine V_iconst (pc := 1) (v := nI 2) dX5_wordAhead_1 (by decide) ?_
    refine V_icmp_neN (pc := 2) (tgt := 8) dX5_wordAhead_2 (by decide) (by omega) (by omega) (fun c2 => ?_) (fun n2 => absurd n2 (by omega))
    refine V_iload_n (pc := 8) dX5_wordAhead_8 rfl ?_
    refine V_if_neN (pc := 9) (tgt := 21) dX5_wordAhead_9 (by decide) (by omega) (fun c9 => ?_) (fun n9 => absurd n9 (by omega))
    refine V_bipush (pc := 21) (v := nI 6) dX5_wordAhead_21 (by decide) ?_
    refine V_iret (pc := 23) dX5_wordAhead_23 rfl (by first | decide | omega) (by first | decide | omega) ?_
    exact ⟨rfl, rfl, rfl, rfl⟩
  · skip
    refine V_iload_n (pc := 0) dX5_wordAhead_0 rfl ?_
    refine V_iconst (pc := 1) (v := nI 2) dX5_wordAhead_1 (by decide) ?_
    refine V_icmp_neN (pc := 2) (tgt := 8) dX5_wordAhead_2 (by decide) (by omega) (by omega) (fun c2 => ?_) (fun n2 => absurd n2 (by omega))
    refine V_iload_n (pc := 8) dX5_wordAhead_8 rfl ?_
    refine V_if_neN (pc := 9) (tgt := 21) dX5_wordAhead_9 (by decide) (by omega) (fun c9 => ?_) (fun n9 => absurd n9 (by omega))
    refine V_bipush (pc := 21) (v := nI 6) dX5_wordAhead_21 (by decide) ?_
    refine V_iret (pc := 23) dX5_wordAhead_23 rfl (by first | decide | omega) (by first | decide | omega) ?_
    exact ⟨rfl, rfl, rfl, rfl⟩
end RX
