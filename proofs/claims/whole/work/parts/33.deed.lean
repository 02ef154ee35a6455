/-! THE REFERENCE: what can be undone, deeds -/
def pshu (u : UT) (q : Nat → Nat) (s : Nat) : UT := if u.1 = 16 then (16, (fun k => if k = 15 then q else u.2.1 (k + 1)), (fun k => if k = 15 then s else u.2.2 (k + 1))) else (u.1 + 1, (fun k => if k = u.1 then q else u.2.1 k), (fun k => if k = u.1 then s else u.2.2 k))
theorem MR.um {o : Nat} {I I' : IT} {L : LT} {A : AT} {u : UT} (h : MR o I L A) (hI : ∀ a, a ≠ o → a ≠ o + 5 → a ≠ o + 6 → I' a = I a) (hf : ∀ i, i ≠ 8 → I' o i = I o i) (ht : UndM I' o (sun A u)) : MR o I' L (sun A u) := by
  obtain ⟨h1, h2, h3, h4, h5, h6, h7, h8, h9⟩ := h
  refine ⟨h1.cg (hI _ (by omega) (by omega) (by omega)), ?_, ht, ?_, ?_, ?_, ?_, (hf 20 (by omega)).trans h8, h9⟩
  · unfold LwsM at h2 ⊢; rw [hI (o + 2) (by omega) (by omega) (by omega)]; exact h2
  · unfold ImgM at h4 ⊢; rw [hI (o + 3) (by omega) (by omega) (by omega), hI (o + 4) (by omega) (by omega) (by omega)]; exact h4
  · unfold TapM at h5 ⊢; rw [hI (o + 9) (by omega) (by omega) (by omega), hf 13 (by omega)]; exact h5
  · unfold XM at h6 ⊢; rw [hI (o + 1) (by omega) (by omega) (by omega), hf 1 (by omega), hf 11 (by omega), hf 18 (by omega), hf 57 (by omega)]; exact h6
  · unfold DrM at h7 ⊢; rw [hI (o + 35) (by omega) (by omega) (by omega), hf 61 (by omega)]; exact h7
def remI (I : IT) (o n s : Nat) : IT := up2 (up2 (upr I (o + 5) (cpy (I (o + 2)) (I (o + 5)) 5 (75 * n) 75)) (o + 6) n (nI s)) o 8 (nI (n + 1))
def shfI (I : IT) (o : Nat) : IT := up2 (upr (upr I (o + 5) (cpy (I (o + 5)) (I (o + 5)) 75 0 1125)) (o + 6) (cpy (I (o + 6)) (I (o + 6)) 1 0 15)) o 8 (nI 15)
theorem MR.rem {o s : Nat} {I : IT} {L : LT} {A : AT} (h : MR o I L A) (hn : (aun A).1 ≤ 16) : MR o (if (aun A).1 = 16 then remI (shfI I o) o 15 s else remI I o (aun A).1 s) L (sun A (pshu (aun A) (aq A) s)) := by
  have hr := h.row
  obtain ⟨h8, hu⟩ := h.und
  by_cases e : (aun A).1 = 16
  · rw [if_pos e]
    unfold pshu
    rw [if_pos e]
    refine h.um (fun a h1 h2 h3 => ?_) (fun i hi => ?_) ⟨up2_self, fun k hk => ⟨fun i a1 a2 a3 => ?_, ?_⟩⟩
    · unfold remI shfI; rw [up2_row h1, up2_row h3, upr_row h2, up2_row h1, upr_row h3, upr_row h2]
    · unfold remI shfI; rw [up2_nej hi, up2_ne (by omega), upr_row (by omega), up2_nej hi, upr_row (by omega), upr_row (by omega)]
    · have hk' : k < 16 := hk
      unfold remI
      rw [up2_ne (by omega), up2_ne (by omega), upr_self]
      unfold cpy
      show _ = enc (if k = 15 then aq A else (aun A).2.1 (k + 1)) i
      by_cases z : k = 15
      · subst z
        rw [if_pos (by omega), if_pos rfl]
        unfold shfI
        rw [up2_ne (by omega), upr_row (by omega), upr_row (by omega), show 5 + (75 * 15 + (i - 5) - 75 * 15) = i by omega]
        exact hr i (by omega) a3
      · rw [if_neg (by omega), if_neg z]
        unfold shfI
        rw [up2_ne (by omega), upr_row (by omega), upr_self]
        unfold cpy
        rw [if_pos (by omega), show 75 + (75 * k + (i - 5) - 0) = 75 * (k + 1) + (i - 5) by omega]
        exact (hu (k + 1) (by omega)).1 i a1 a2 a3
    · have hk' : k < 16 := hk
      show remI _ _ _ _ _ _ = nI (if k = 15 then s else (aun A).2.2 (k + 1))
      unfold remI
      rw [up2_ne (by omega)]
      by_cases z : k = 15
      · subst z; rw [up2_self, if_pos rfl]
      · rw [up2_nej z, upr_row (by omega), if_neg z]
        unfold shfI
        rw [up2_ne (by omega), upr_self]
        unfold cpy
        rw [if_pos (by omega), show 1 + (k - 0) = k + 1 by omega]
        exact (hu (k + 1) (by omega)).2
  · rw [if_neg e]
    unfold pshu
    rw [if_neg e]
    refine h.um (fun a h1 h2 h3 => ?_) (fun i hi => ?_) ⟨up2_self, fun k hk => ⟨fun i a1 a2 a3 => ?_, ?_⟩⟩
    · unfold remI; rw [up2_row h1, up2_row h3, upr_row h2]
    · unfold remI; rw [up2_nej hi, up2_ne (by omega), upr_row (by omega)]
    · have hk' : k < (aun A).1 + 1 := hk
      unfold remI
      rw [up2_ne (by omega), up2_ne (by omega), upr_self]
      unfold cpy
      show _ = enc (if k = (aun A).1 then aq A else (aun A).2.1 k) i
      by_cases z : k = (aun A).1
      · rw [if_pos (by omega), if_pos z, show 5 + (75 * k + (i - 5) - 75 * (aun A).1) = i by omega]
        exact hr i (by omega) a3
      · rw [if_neg (by omega), if_neg z]
        exact (hu k (by omega)).1 i a1 a2 a3
    · have hk' : k < (aun A).1 + 1 := hk
      show remI _ _ _ _ _ _ = nI (if k = (aun A).1 then s else (aun A).2.2 k)
      unfold remI
      rw [up2_ne (by omega)]
      by_cases z : k = (aun A).1
      · subst z; rw [up2_self, if_pos rfl]
      · rw [up2_nej z, upr_row (by omega), if_neg z]
        exact (hu k (by omega)).2
theorem FrM.rem {o n s : Nat} {I I' : IT} {L L' : LT} (h : FrM o I' I L' L) : FrM o (if n = 16 then remI (shfI I' o) o 15 s else remI I' o n s) I L' L := by
  split
  · exact (((((((h.upr (by omega)).upr (by omega)).up (by omega)).upr (by omega)).up (by omega)).up (by omega)))
  · exact ((h.upr (by omega)).up (by omega)).up (by omega)
theorem FrM.tr {o : Nat} {I I2 I3 : IT} {L L2 L3 : LT} (h : FrM o I3 I2 L3 L2) (g : FrM o I2 I L2 L) : FrM o I3 I L3 L := fun a ha => ⟨(h a ha).1.trans (g a ha).1, (h a ha).2.trans (g a ha).2⟩
/-- what a deed leaves: also what orders keep meanwhile -/
def FrK (o : Nat) (I' I : IT) : Prop := (∀ a, (a = o + 7 ∨ a = o + 8 ∨ a = o + 10 ∨ a = o + 11 ∨ a = o + 12 ∨ a = o + 34) → I' a = I a) ∧ (∀ i, (i = 21 ∨ i = 55 ∨ i = 56 ∨ i = 23) → I' o i = I o i) ∧ ∀ i, 1275 ≤ i → I' (o + 5) i = I (o + 5) i
def FrD (o : Nat) (I' I : IT) (L' L : LT) : Prop := FrM o I' I L' L ∧ FrK o I' I
theorem FrK.tr {o : Nat} {I1 I2 I3 : IT} (h : FrK o I1 I2) (g : FrK o I2 I3) : FrK o I1 I3 := ⟨fun a ha => (h.1 a ha).trans (g.1 a ha), fun i hi => (h.2.1 i hi).trans (g.2.1 i hi), fun i hi => (h.2.2 i hi).trans (g.2.2 i hi)⟩
theorem FrK.up {o a i : Nat} {v : Int32} {I I' : IT} (h : FrK o I' I) (ha : a = o + 1 ∨ a = o + 2 ∨ a = o + 6 ∨ (a = o ∧ i ≠ 21 ∧ i ≠ 55 ∧ i ≠ 56 ∧ i ≠ 23)) : FrK o (up2 I' a i v) I := ⟨fun x hx => by rw [up2_row (by omega)]; exact h.1 x hx, fun j hj => by
    by_cases e : a = o
    · subst e; rw [up2_nej (by omega)]; exact h.2.1 j hj
    · rw [up2_ne (Ne.symm e)]; exact h.2.1 j hj, fun j hj => by rw [up2_ne (by omega)]; exact h.2.2 j hj⟩
theorem FrK.up5 {o : Nat} {g : Nat → Int32} {I I' : IT} (h : FrK o I' I) (hg : ∀ i, 1275 ≤ i → g i = I' (o + 5) i) : FrK o (upr I' (o + 5) g) I := ⟨fun x hx => by rw [upr_row (by omega)]; exact h.1 x hx, fun j hj => by rw [upr_row (by omega)]; exact h.2.1 j hj, fun j hj => by rw [upr_self, hg j hj]; exact h.2.2 j hj⟩
theorem FrK.up6 {o : Nat} {g : Nat → Int32} {I I' : IT} (h : FrK o I' I) : FrK o (upr I' (o + 6) g) I := ⟨fun x hx => by rw [upr_row (by omega)]; exact h.1 x hx, fun j hj => by rw [upr_row (by omega)]; exact h.2.1 j hj, fun j hj => by rw [upr_row (by omega)]; exact h.2.2 j hj⟩
theorem FrD.rf {o : Nat} {I : IT} {L : LT} : FrD o I I L L := ⟨FrM.rf, fun _ _ => rfl, fun _ _ => rfl, fun _ _ => rfl⟩
theorem FrD.tr {o : Nat} {I I2 I3 : IT} {L L2 L3 : LT} (h : FrD o I3 I2 L3 L2) (g : FrD o I2 I L2 L) : FrD o I3 I L3 L := ⟨FrM.tr h.1 g.1, h.2.tr g.2⟩
theorem FrD.up {o a i : Nat} {v : Int32} {I I' : IT} {L L' : LT} (h : FrD o I' I L' L) (ha : a = o + 1 ∨ a = o + 2 ∨ a = o + 6 ∨ (a = o ∧ i ≠ 21 ∧ i ≠ 55 ∧ i ≠ 56 ∧ i ≠ 23)) : FrD o (up2 I' a i v) I L' L := ⟨h.1.up (by omega), h.2.up ha⟩
theorem FrD.ts {o : Nat} {I I' I2 : IT} {L L' L2 : LT} (h : FrD o I' I L' L) (hI : TsI o I2 I') (hL : TsL o L2 L') : FrD o I2 I L2 L := ⟨h.1.ts hI hL, FrK.tr ⟨fun a ha => hI.1 a (by omega), fun i hi => hI.2 i (by omega) (by omega), fun i _ => by rw [hI.1 (o + 5) (by omega)]⟩ h.2⟩
theorem FrD.rem {o n s : Nat} {I I' : IT} {L L' : LT} (hn : n ≤ 16) (h : FrD o I' I L' L) : FrD o (if n = 16 then remI (shfI I' o) o 15 s else remI I' o n s) I L' L := by
  refine ⟨h.1.rem, ?_⟩
  split
  · unfold remI shfI
    refine ((FrK.up5 (((h.2.up5 (fun i hi => ?_)).up6).up (by omega)) (fun i hi => ?_)).up (by omega)).up (by omega)
    · unfold cpy; rw [if_neg (by omega)]
    · unfold cpy; rw [if_neg (by omega)]
  · unfold remI
    refine ((h.2.up5 (fun i hi => ?_)).up (by omega)).up (by omega)
    unfold cpy; rw [if_neg (by omega)]
abbrev Cmd (E : EnT) (k : MI) (d : Nat) (av : List Value) (S : ST) (I : IT) (L : LT) (o : Nat) (v : Value) (A' : AT) : Prop := C E k d 0 0 av S I L (fun r S' I' L' => r = some v ∧ S = S' ∧ MR o I' L' A' ∧ FrD o I' I L' L)
theorem lst_le (law : LawT) (q : Nat → Nat) (b : Nat) : lst law q b ≤ 60 := clampN_le _ _
theorem lss_le (law : LawT) (q : Nat → Nat) (b : Nat) : lss law q b ≤ 9 := clampN_le _ _
theorem lik_le (law : LawT) (q : Nat → Nat) (b s : Nat) : lik law q b s ≤ 99 := clampN_le _ _
section MI4
variable {E : EnT} {S : ST} {I : IT} {L : LT} {o : Nat} {A : AT}
theorem lp_rem1 (h12 : Lay12 E S o) {R : Room} {Q : QT} {cl sl : Nat} {v : Int32} (hk : V E kX12_remember R Q cl sl S (upr I (o + 5) (cpy (I (o + 5)) (I (o + 5)) 75 0 1125)) L 39 [(0, .ref o), (1, .int v), (2, .int (nI 1125))] []) : V E kX12_remember R Q cl sl S I L 11 [(0, .ref o), (1, .int v), (2, .int (nI 0))] [] := by
  have e0 : I = upr I (o + 5) (cpy (I (o + 5)) (I (o + 5)) 75 0 0) := by rw [cpy_0, upr_same]
  refine (show V E _ _ _ _ _ _ (upr I (o + 5) (cpy (I (o + 5)) (I (o + 5)) 75 0 0)) _ _ _ _ → V _ _ _ _ _ _ _ I _ _ _ _ from fun h => by rw [← e0] at h; exact h) ?_
  refine loopUp (P := fun j => V E kX12_remember R Q cl sl S (upr I (o + 5) (cpy (I (o + 5)) (I (o + 5)) 75 0 j)) L 11 [(0, .ref o), (1, .int v), (2, .int (nI j))] []) (n := 1125) ?_ ?_ 0 (by omega)
  · skip
    refine V_iload_n (pc := 11) dX12_remember_11 rfl ?_
    refine V_sipush (pc := 12) (v := nI 1125) dX12_remember_12 (by decide) ?_
    refine V_icmp_geN (pc := 15) (tgt := 39) dX12_remember_15 (by decide) (by omega) (by omega) (fun c15 => ?_) (fun n15 => absurd n15 (by omega))
    exact hk
  · intro j hj ih
    have e := upr_cpy_step (I := I) (a := o + 5) (I (o + 5)) (I (o + 5)) 75 0 j
    rw [Nat.zero_add, Nat.add_comm 75 j] at e
    refine V_iload_n (pc := 11) dX12_remember_11 rfl ?_
    refine V_sipush (pc := 12) (v := nI 1125) dX12_remember_12 (by decide) ?_
    refine V_icmp_geN (pc := 15) (tgt := 39) dX12_remember_15 (by decide) (by omega) (by omega) (fun c15 => absurd c15 (by omega)) (fun n15 => ?_)
    refine V_aload_n (pc := 18) dX12_remember_18 rfl ?_
    refine V_getR (pc := 19) 12 6 dX12_remember_19 flX12_23 (by decide) h12.o h12.R6 ?_
    refine V_iload_n (pc := 22) dX12_remember_22 rfl ?_
    refine V_aload_n (pc := 23) dX12_remember_23 rfl ?_
    refine V_getR (pc := 24) 12 6 dX12_remember_24 flX12_23 (by decide) h12.o h12.R6 ?_
    refine V_iload_n (pc := 27) dX12_remember_27 rfl ?_
    refine V_bipush (pc := 28) (v := nI 75) dX12_remember_28 (by decide) ?_
    refine V_iaddN (pc := 30) dX12_remember_30 ?_
    refine V_ialoadE (pc := 31) dX12_remember_31 h12.A6 (by first | decide | omega) (by omega) (show upr I (o + 5) (cpy (I (o + 5)) (I (o + 5)) 75 0 j) (o + 5) (j + 75) = I (o + 5) (j + 75) by rw [upr_self]; unfold cpy; rw [if_neg (by omega)]) ?_
    refine V_iastore (pc := 32) dX12_remember_32 h12.A6 (by first | decide | omega) (by omega) ?_
    refine V_iinc1 (pc := 33) (ls' := [(0, _), (1, _), (2, _)]) dX12_remember_33 rfl (by decide) rfl ?_
    refine V_goto (pc := 36) (tgt := 11) dX12_remember_36 (by decide) ?_
    rw [e]; exact ih
theorem lp_rem2 (h12 : Lay12 E S o) {R : Room} {Q : QT} {cl sl : Nat} {v : Int32} (hk : V E kX12_remember R Q cl sl S (upr I (o + 6) (cpy (I (o + 6)) (I (o + 6)) 1 0 15)) L 67 [(0, .ref o), (1, .int v), (2, .int (nI 15))] []) : V E kX12_remember R Q cl sl S I L 41 [(0, .ref o), (1, .int v), (2, .int (nI 0))] [] := by
  have e0 : I = upr I (o + 6) (cpy (I (o + 6)) (I (o + 6)) 1 0 0) := by rw [cpy_0, upr_same]
  refine (show V E _ _ _ _ _ _ (upr I (o + 6) (cpy (I (o + 6)) (I (o + 6)) 1 0 0)) _ _ _ _ → V _ _ _ _ _ _ _ I _ _ _ _ from fun h => by rw [← e0] at h; exact h) ?_
  refine loopUp (P := fun j => V E kX12_remember R Q cl sl S (upr I (o + 6) (cpy (I (o + 6)) (I (o + 6)) 1 0 j)) L 41 [(0, .ref o), (1, .int v), (2, .int (nI j))] []) (n := 15) ?_ ?_ 0 (by omega)
  · skip
    refine V_iload_n (pc := 41) dX12_remember_41 rfl ?_
    refine V_bipush (pc := 42) (v := nI 15) dX12_remember_42 (by decide) ?_
    refine V_icmp_geN (pc := 44) (tgt := 67) dX12_remember_44 (by decide) (by omega) (by omega) (fun c44 => ?_) (fun n44 => absurd n44 (by omega))
    exact hk
  · intro j hj ih
    have e := upr_cpy_step (I := I) (a := o + 6) (I (o + 6)) (I (o + 6)) 1 0 j
    rw [Nat.zero_add, Nat.add_comm 1 j] at e
    refine V_iload_n (pc := 41) dX12_remember_41 rfl ?_
    refine V_bipush (pc := 42) (v := nI 15) dX12_remember_42 (by decide) ?_
    refine V_icmp_geN (pc := 44) (tgt := 67) dX12_remember_44 (by decide) (by omega) (by omega) (fun c44 => absurd c44 (by omega)) (fun n44 => ?_)
    refine V_aload_n (pc := 47) dX12_remember_47 rfl ?_
    refine V_getR (pc := 48) 12 7 dX12_remember_48 flX12_26 (by decide) h12.o h12.R7 ?_
    refine V_iload_n (pc := 51) dX12_remember_51 rfl ?_
    refine V_aload_n (pc := 52) dX12_remember_52 rfl ?_
    refine V_getR (pc := 53) 12 7 dX12_remember_53 flX12_26 (by decide) h12.o h12.R7 ?_
    refine V_iload_n (pc := 56) dX12_remember_56 rfl ?_
    refine V_iconst (pc := 57) (v := nI 1) dX12_remember_57 (by decide) ?_
    refine V_iaddN (pc := 58) dX12_remember_58 ?_
    refine V_ialoadE (pc := 59) dX12_remember_59 h12.A7 (by first | decide | omega) (by omega) (show upr I (o + 6) (cpy (I (o + 6)) (I (o + 6)) 1 0 j) (o + 6) (j + 1) = I (o + 6) (j + 1) by rw [upr_self]; unfold cpy; rw [if_neg (by omega)]) ?_
    refine V_iastore (pc := 60) dX12_remember_60 h12.A7 (by first | decide | omega) (by omega) ?_
    refine V_iinc1 (pc := 61) (ls' := [(0, _), (1, _), (2, _)]) dX12_remember_61 rfl (by decide) rfl ?_
    refine V_goto (pc := 64) (tgt := 41) dX12_remember_64 (by decide) ?_
    rw [e]; exact ih
theorem c_X12_remember (h12 : Lay12 E S o) {s : Nat} (hM : MR o I L A) (hn : (aun A).1 ≤ 16) : C E kX12_remember 1 0 0 [.ref o, .int (nI s)] S I L (fun r S' I' L' => r = none ∧ S = S' ∧ MR o I' L' (sun A (pshu (aun A) (aq A) s)) ∧ FrD o I' I L' L) := by
  have hm := hM.rem (s := s) hn
  have hf : FrD o _ I L L := (FrD.rf (o := o) (I := I) (L := L)).rem (n := (aun A).1) (s := s) hn
  have h8 := hM.und.1
  refine C_of (by decide) (Nat.le_of_ble_eq_true rfl) ?_
  by_cases e : (aun A).1 = 16
  · rw [if_pos e] at hm hf
    rw [e] at h8
    refine V_aload_n (pc := 0) dX12_remember_0 rfl ?_
    refine V_getIE (pc := 1) 12 8 dX12_remember_1 flX12_181 (by decide) h12.o (h8) ?_
    refine V_bipush (pc := 4) (v := nI 16) dX12_remember_4 (by decide) ?_
    refine V_icmp_neN (pc := 6) (tgt := 77) dX12_remember_6 (by decide) (by omega) (by omega) (fun c6 => absurd c6 (by omega)) (fun n6 => ?_)
    refine V_iconst (pc := 9) (v := nI 0) dX12_remember_9 (by decide) ?_
    refine V_istore_n (pc := 10) (ls' := [(0, _), (1, _), (2, _)]) dX12_remember_10 (by decide) rfl ?_
    refine lp_rem1 h12 ?_
    refine V_iconst (pc := 39) (v := nI 0) dX12_remember_39 (by decide) ?_
    refine V_istore_n (pc := 40) (ls' := [(0, _), (1, _), (2, _)]) dX12_remember_40 (by decide) rfl ?_
    refine lp_rem2 h12 ?_
    refine V_aload_n (pc := 67) dX12_remember_67 rfl ?_
    refine V_dup (pc := 68) dX12_remember_68 rfl ?_
    refine V_getIE (pc := 69) 12 8 dX12_remember_69 flX12_181 (by decide) h12.o (show (_ : Int32) = nI 16 by rw [upr_row (by omega), upr_row (by omega)]; exact h8) ?_
    refine V_iconst (pc := 72) (v := nI 1) dX12_remember_72 (by decide) ?_
    refine V_isubN (pc := 73) dX12_remember_73 (by omega) ?_
    refine V_putI (pc := 74) 12 8 dX12_remember_74 flX12_181 (by decide) (by decide) (Or.inl rfl) rfl rfl h12.o ?_
    refine V_aload_n (pc := 77) dX12_remember_77 rfl ?_
    refine V_aload_n (pc := 78) dX12_remember_78 rfl ?_
    refine V_getIE (pc := 79) 12 8 dX12_remember_79 flX12_181 (by decide) h12.o (up2_self) ?_
    refine V_callVn (pc := 82) (ci := 12) (c_X12_keepAll (by first | assumption | omega | exact h12) (by first | assumption | omega | exact h12)) dX12_remember_82 mlX12_188 mkX12_keepAll rfl rfl h12.o ⟨by decide, rfl⟩ ⟨Nat.le_of_ble_eq_true rfl, Nat.le_of_ble_eq_true rfl⟩ (Nat.le_of_ble_eq_true rfl) ⟨Nat.le_of_ble_eq_true rfl, Nat.le_of_ble_eq_true rfl⟩ ?_
    refine V_aload_n (pc := 85) dX12_remember_85 rfl ?_
    refine V_getR (pc := 86) 12 7 dX12_remember_86 flX12_26 (by decide) h12.o h12.R7 ?_
    refine V_aload_n (pc := 89) dX12_remember_89 rfl ?_
    refine V_getIE (pc := 90) 12 8 dX12_remember_90 flX12_181 (by decide) h12.o (show (_ : Int32) = nI 15 by rw [upr_row (by omega)]; exact up2_self) ?_
    refine V_iload_n (pc := 93) dX12_remember_93 rfl ?_
    refine V_iastore (pc := 94) dX12_remember_94 h12.A7 (by first | decide | omega) (by omega) ?_
    refine V_aload_n (pc := 95) dX12_remember_95 rfl ?_
    refine V_dup (pc := 96) dX12_remember_96 rfl ?_
    refine V_getIE (pc := 97) 12 8 dX12_remember_97 flX12_181 (by decide) h12.o (show (_ : Int32) = nI 15 by rw [up2_ne (by omega), upr_row (by omega)]; exact up2_self) ?_
    refine V_iconst (pc := 100) (v := nI 1) dX12_remember_100 (by decide) ?_
    refine V_iaddN (pc := 101) dX12_remember_101 ?_
    refine V_putI (pc := 102) 12 8 dX12_remember_102 flX12_181 (by decide) (by decide) (Or.inl rfl) rfl rfl h12.o ?_
    refine V_vret (pc := 105) dX12_remember_105 rfl (by first | decide | omega) (by first | decide | omega) ?_
    refine ⟨rfl, rfl, ?_, ?_⟩
    · unfold remI shfI at hm
      simp only [upr_row (show o + 6 ≠ o + 5 by omega)] at hm ⊢
      exact hm
    · unfold remI shfI at hf
      simp only [upr_row (show o + 6 ≠ o + 5 by omega)] at hf ⊢
      exact hf
  · rw [if_neg e] at hm hf
    refine V_aload_n (pc := 0) dX12_remember_0 rfl ?_
    refine V_getIE (pc := 1) 12 8 dX12_remember_1 flX12_181 (by decide) h12.o (h8) ?_
    refine V_bipush (pc := 4) (v := nI 16) dX12_remember_4 (by decide) ?_
    refine V_icmp_neN (pc := 6) (tgt := 77) dX12_remember_6 (by decide) (by omega) (by omega) (fun c6 => ?_) (fun n6 => absurd n6 (by omega))
    refine V_aload_n (pc := 77) dX12_remember_77 rfl ?_
    refine V_aload_n (pc := 78) dX12_remember_78 rfl ?_
    refine V_getIE (pc := 79) 12 8 dX12_remember_79 flX12_181 (by decide) h12.o (h8) ?_
    refine V_callVn (pc := 82) (ci := 12) (c_X12_keepAll (by first | assumption | omega | exact h12) (by first | assumption | omega | exact h12)) dX12_remember_82 mlX12_188 mkX12_keepAll rfl rfl h12.o ⟨by decide, rfl⟩ ⟨Nat.le_of_ble_eq_true rfl, Nat.le_of_ble_eq_true rfl⟩ (Nat.le_of_ble_eq_true rfl) ⟨Nat.le_of_ble_eq_true rfl, Nat.le_of_ble_eq_true rfl⟩ ?_
    refine V_aload_n (pc := 85) dX12_remember_85 rfl ?_
    refine V_getR (pc := 86) 12 7 dX12_remember_86 flX12_26 (by decide) h12.o h12.R7 ?_
    refine V_aload_n (pc := 89) dX12_remember_89 rfl ?_
    refine V_getIE (pc := 90) 12 8 dX12_remember_90 flX12_181 (by decide) h12.o (show (_ : Int32) = nI (aun A).1 by rw [upr_row (by omega)]; exact h8) ?_
    refine V_iload_n (pc := 93) dX12_remember_93 rfl ?_
    refine V_iastore (pc := 94) dX12_remember_94 h12.A7 (by first | decide | omega) (by omega) ?_
    refine V_aload_n (pc := 95) dX12_remember_95 rfl ?_
    refine V_dup (pc := 96) dX12_remember_96 rfl ?_
    refine V_getIE (pc := 97) 12 8 dX12_remember_97 flX12_181 (by decide) h12.o (show (_ : Int32) = nI (aun A).1 by rw [up2_ne (by omega), upr_row (by omega)]; exact h8) ?_
    refine V_iconst (pc := 100) (v := nI 1) dX12_remember_100 (by decide) ?_
    refine V_iaddN (pc := 101) dX12_remember_101 ?_
    refine V_putI (pc := 102) 12 8 dX12_remember_102 flX12_181 (by decide) (by decide) (Or.inl rfl) rfl rfl h12.o ?_
    refine V_vret (pc := 105) dX12_remember_105 rfl (by first | decide | omega) (by first | decide | omega) ?_
    exact ⟨rfl, rfl, hm, hf⟩
/-! undo -/
theorem mix_o {q s : Nat → Nat} {i : Nat} (h : i < 5 ∨ 80 ≤ i) : mix q s i = q i := by unfold mix; rw [if_neg (by omega)]
theorem mix_i {q s : Nat → Nat} {i : Nat} (h : 5 ≤ i ∧ i < 80) : mix q s i = s i := by unfold mix; rw [if_pos h]
def und1 (A : AT) : AT := sun (sq A (mix (aq A) ((aun A).2.1 ((aun A).1 - 1)))) ((aun A).1 - 1, (aun A).2)
def spUndo (A : AT) : Int32 × AT := if (aun A).1 = 0 then (-(nI 3), rfs A 3) else (nI ((aun A).2.2 ((aun A).1 - 1)), ok0 (und1 A))
theorem MR.undo {o : Nat} {I : IT} {L : LT} {A : AT} (h : MR o I L A) (h0 : (aun A).1 ≠ 0) : MR o (upr (up2 I o 8 (nI ((aun A).1 - 1))) (o + 2) (cpy (I (o + 5)) (I (o + 2)) (75 * ((aun A).1 - 1)) 5 75)) L (und1 A) := by
  have hu := h.und
  have m1 : MR o (up2 I o 8 (nI ((aun A).1 - 1))) L (sun A ((aun A).1 - 1, (aun A).2)) := by
    refine h.um (fun a h1 h2 h3 => up2_row h1) (fun i hi => up2_nej hi) ⟨up2_self, fun k hk => ?_⟩
    have hk' : k < (aun A).1 - 1 := hk
    rw [up2_row (by omega), up2_row (by omega)]
    exact hu.2 k (by omega)
  refine m1.srow (q' := mix (aq A) ((aun A).2.1 ((aun A).1 - 1))) (fun a ha => upr_row ha) (fun i hi => ?_) (fun i hi hw => ?_) (mix_o (by omega)) (Or.inl (mix_o (by omega)))
  · rw [upr_self, up2_ne (by omega)]; unfold cpy; rw [if_neg (by omega)]
  · rw [upr_self]
    rw [mix_o (i := 0) (by omega)] at hw
    unfold cpy
    by_cases c : 5 ≤ i ∧ i < 80
    · rw [if_pos (by omega)]
      have := (hu.2 ((aun A).1 - 1) (by omega)).1 i c.1 c.2 hw
      rw [this]
      unfold enc
      rw [mix_i c]
    · rw [if_neg (by omega), h.row i hi hw]
      unfold enc
      rw [mix_o (by omega)]
theorem c_X12_undo (h12 : Lay12 E S o) (hM : MR o I L A) (hA : wfA A) : Cm E kX12_undo 1 [.ref o] S I L o (.int (spUndo A).1) (spUndo A).2 := by
  have hn := hA.2.2.1
  refine C_of (by decide) (Nat.le_of_ble_eq_true rfl) ?_
  refine V_aload_n (pc := 0) dX12_undo_0 rfl ?_
  refine V_iconst (pc := 1) (v := nI 0) dX12_undo_1 (by decide) ?_
  refine V_putI (pc := 2) 12 0 dX12_undo_2 flX12_175 (by decide) (by decide) (Or.inl rfl) rfl rfl h12.o ?_
  have hM := hM.thrown (v := nI 0)
  have hF : FrM o (up2 I o 0 (nI 0)) I L L := FrM.rf.up (by omega)
  generalize up2 I o 0 (nI 0) = I0 at hM hF ⊢
  have hr := hM.row
  refine V_aload_n (pc := 5) dX12_undo_5 rfl ?_
  refine V_getIE (pc := 6) 12 8 dX12_undo_6 flX12_181 (by decide) h12.o (hM.und.1) ?_
  refine V_if_neN (pc := 9) (tgt := 19) dX12_undo_9 (by decide) (by omega) (fun c9 => ?_) (fun n9 => ?_)
  · skip
    rw [spUndo, if_neg c9]
    have hk := (hM.und.2 ((aun A).1 - 1) (by omega)).2
    have h4 := (hA.2.2.2.1 ((aun A).1 - 1) (by omega)).2
    refine V_aload_n (pc := 19) dX12_undo_19 rfl ?_
    refine V_dup (pc := 20) dX12_undo_20 rfl ?_
    refine V_getIE (pc := 21) 12 8 dX12_undo_21 flX12_181 (by decide) h12.o (hM.und.1) ?_
    refine V_iconst (pc := 24) (v := nI 1) dX12_undo_24 (by decide) ?_
    refine V_isubN (pc := 25) dX12_undo_25 (by omega) ?_
    refine V_putI (pc := 26) 12 8 dX12_undo_26 flX12_181 (by decide) (by decide) (Or.inl rfl) rfl rfl h12.o ?_
    refine V_aload_n (pc := 29) dX12_undo_29 rfl ?_
    refine V_aload_n (pc := 30) dX12_undo_30 rfl ?_
    refine V_getIE (pc := 31) 12 8 dX12_undo_31 flX12_181 (by decide) h12.o (up2_self) ?_
    refine V_callVn (pc := 34) (ci := 12) (c_X12_putBack (by first | assumption | omega | exact h12) (by first | assumption | omega | exact h12)) dX12_undo_34 mlX12_192 mkX12_putBack rfl rfl h12.o ⟨by decide, rfl⟩ ⟨Nat.le_of_ble_eq_true rfl, Nat.le_of_ble_eq_true rfl⟩ (Nat.le_of_ble_eq_true rfl) ⟨Nat.le_of_ble_eq_true rfl, Nat.le_of_ble_eq_true rfl⟩ ?_
    refine V_aload_n (pc := 37) dX12_undo_37 rfl ?_
    refine V_aload_n (pc := 38) dX12_undo_38 rfl ?_
    refine V_getR (pc := 39) 12 7 dX12_undo_39 flX12_26 (by decide) h12.o h12.R7 ?_
    refine V_aload_n (pc := 42) dX12_undo_42 rfl ?_
    refine V_getIE (pc := 43) 12 8 dX12_undo_43 flX12_181 (by decide) h12.o (show (_ : Int32) = nI ((aun A).1 - 1) by rw [upr_row (by omega)]; exact up2_self) ?_
    refine V_ialoadE (pc := 46) dX12_undo_46 h12.A7 (by first | decide | omega) (by omega) (show (_ : Int32) = nI ((aun A).2.2 ((aun A).1 - 1)) by rw [upr_row (by omega), up2_ne (by omega)]; exact hk) ?_
    refine V_callVd (pc := 47) (ci := 12) (c_X12_tell (by first | assumption | omega | exact h12) (by first | assumption | omega | exact h12)) dX12_undo_47 mlX12_184 mkX12_tell rfl rfl h12.o ⟨by decide, rfl⟩ ⟨Nat.le_of_ble_eq_true rfl, Nat.le_of_ble_eq_true rfl⟩ (Nat.le_of_ble_eq_true rfl) ⟨Nat.le_of_ble_eq_true rfl, Nat.le_of_ble_eq_true rfl⟩ ?_
    refine V_iret (pc := 50) dX12_undo_50 rfl (by first | decide | omega) (by first | decide | omega) ?_
    refine ⟨rfl, rfl, ?_, ?_⟩
    · have := (hM.undo c9).hok
      rw [up2_row (show o + 5 ≠ o by omega), up2_row (show o + 2 ≠ o by omega)]
      exact this
    · exact ((hF.up (by omega)).upr (by omega)).up (by omega)
  · skip
    refine V_aload_n (pc := 12) dX12_undo_12 rfl ?_
    refine V_bipush (pc := 13) (v := (-3)) dX12_undo_13 (by decide) ?_
    refine V_callVd (pc := 15) (ci := 12) (c_X12_tellv (r := 3) h12 (by decide) (by decide) (by decide)) dX12_undo_15 mlX12_184 mkX12_tell rfl rfl h12.o ⟨by decide, rfl⟩ ⟨Nat.le_of_ble_eq_true rfl, Nat.le_of_ble_eq_true rfl⟩ (Nat.le_of_ble_eq_true rfl) ⟨Nat.le_of_ble_eq_true rfl, Nat.le_of_ble_eq_true rfl⟩ ?_
    refine V_iret (pc := 18) dX12_undo_18 rfl (by first | decide | omega) (by first | decide | omega) ?_
    rw [spUndo, if_pos n9]
    exact ⟨rfl, rfl, hM.hrf, hF.hrf⟩
/-! deeds: what they are refused by (0: they aren't), what they answer, the state behind them -/
def dv (d : Nat × Nat × AT) : Int32 := if d.1 = 0 then nI d.2.1 else -(nI d.1)
def tll (d : Nat × Nat × AT) : Int32 × AT := (dv d, if d.1 = 0 then ok0 d.2.2 else rfs d.2.2 d.1)
theorem MR.htl {o : Nat} {I : IT} {L : LT} {d : Nat × Nat × AT} (h : MR o I L d.2.2) : MR o (if d.1 = 0 then up2 I o 1 (nI 0) else refu I o d.1) L (tll d).2 := by
  unfold tll
  split
  · exact h.hok
  · exact h.hrf
theorem c_X12_telld (h12 : Lay12 E S o) {d : Nat × Nat × AT} (hr : d.1 < 7) (hn : d.2.1 < 2 ^ 31) : Cd E kX12_tell 0 0 0 [.ref o, .int (dv d)] S I L (.int (tll d).1) S (if d.1 = 0 then up2 I o 1 (nI 0) else refu I o d.1) L := by
  unfold tll dv
  by_cases h : d.1 = 0
  · simp only [h, if_true]
    exact c_X12_tell h12 hn
  · simp only [h, if_false]
    exact c_X12_tell_r h12 (by omega) hr
theorem FrM.htl {d : Nat × Nat × AT} {I' : IT} {L' : LT} (h : FrM o I' I L' L) : FrM o (if d.1 = 0 then up2 I' o 1 (nI 0) else refu I' o d.1) I L' L := by
  split
  · exact h.up (by omega)
  · exact h.hrf
theorem c_X12_canPull (h12 : Lay12 E S o) {q : Nat → Nat} (hr : RowM I (o + 2) q) (hq : wq q) {t j b : Nat} (ht : t < 8) (hj : j < 8) (hb : b < 6) : Cd E kX12_canPull 1 0 0 [.ref o, .int (nI t), .int (nI j), .int (nI b)] S I L (.int (b2i (decide (q (8 + 8 * b + j) / 2 ^ t % 2 = 1)))) S I L := by
  have hp := hq.pi b j hb hj
  refine C_of (by decide) (Nat.le_of_ble_eq_true rfl) ?_
  refine V_aload_n (pc := 0) dX12_canPull_0 rfl ?_
  refine V_getR (pc := 1) 12 3 dX12_canPull_1 flX12_13 (by decide) h12.o h12.R3 ?_
  refine V_bipush (pc := 4) (v := nI 8) dX12_canPull_4 (by decide) ?_
  refine V_bipush (pc := 6) (v := nI 8) dX12_canPull_6 (by decide) ?_
  refine V_iload_n (pc := 8) dX12_canPull_8 rfl ?_
  refine V_imulN (pc := 9) dX12_canPull_9 ?_
  refine V_iaddN (pc := 10) dX12_canPull_10 ?_
  refine V_iload_n (pc := 11) dX12_canPull_11 rfl ?_
  refine V_iaddN (pc := 12) dX12_canPull_12 ?_
  refine V_ialoadE (pc := 13) dX12_canPull_13 h12.A3 (by first | decide | omega) (by omega) (hr.n (by omega)) ?_
  refine V_iload_n (pc := 14) dX12_canPull_14 rfl ?_
  refine V_callSd (pc := 15) (c_X12_is (by first | assumption | omega) (by first | assumption | omega)) dX12_canPull_15 mlX12_458 mkX12_is rfl rfl ⟨Nat.le_of_ble_eq_true rfl, Nat.le_of_ble_eq_true rfl⟩ (Nat.le_of_ble_eq_true rfl) ⟨Nat.le_of_ble_eq_true rfl, Nat.le_of_ble_eq_true rfl⟩ ?_
  refine V_zretB (pc := 18)  dX12_canPull_18 rfl rfl (by first | decide | omega) (by first | decide | omega) ?_
  exact ⟨rfl, rfl, rfl, rfl⟩
theorem bit_le {a t : Nat} (h : a / 2 ^ t % 2 = 1) : 2 ^ t ≤ a := by
  rcases Nat.lt_or_ge a (2 ^ t) with z | z
  · rw [Nat.div_eq_of_lt z] at h; omega
  · exact z
theorem pow8 {t : Nat} (ht : t < 8) : 2 ^ t ≤ 128 := by
  rcases (by omega : t = 0 ∨ t = 1 ∨ t = 2 ∨ t = 3 ∨ t = 4 ∨ t = 5 ∨ t = 6 ∨ t = 7) with rfl | rfl | rfl | rfl | rfl | rfl | rfl | rfl <;> decide
theorem bit_add {a t : Nat} (ht : t < 8) (ha : a < 256) (h : ¬ a / 2 ^ t % 2 = 1) : a + 2 ^ t < 256 := by
  rcases (by omega : t = 0 ∨ t = 1 ∨ t = 2 ∨ t = 3 ∨ t = 4 ∨ t = 5 ∨ t = 6 ∨ t = 7) with rfl | rfl | rfl | rfl | rfl | rfl | rfl | rfl <;> omega
def rem1 (A : AT) (s : Nat) : AT := sun A (pshu (aun A) (aq A) s)
def dPull (A : AT) (x y z : Int32) : Nat × Nat × AT := if bnd x 8 = true ∧ bnd y 8 = true then (if bnd z (aq A 0) = true then (if aq A (8 + 8 * cln z + cln y) / 2 ^ cln x % 2 = 1 then (0, nts (setq (aq A) (8 + 8 * cln z + cln y) (aq A (8 + 8 * cln z + cln y) - 2 ^ cln x)) (cln z), sq (rem1 A 0) (setq (aq A) (8 + 8 * cln z + cln y) (aq A (8 + 8 * cln z + cln y) - 2 ^ cln x))) else (3, 0, A)) else (2, 0, A)) else (1, 0, A)
theorem c_X12_pullNow (h12 : Lay12 E S o) (hM : MR o I L A) (hA : wfA A) {x y z : Int32} : Cmd E kX12_pullNow 3 [.ref o, .int x, .int y, .int z] S I L o (.int (dv (dPull A x y z))) (dPull A x y z).2.2 := by
  have hq := hA.q
  have hnb := hq.nb
  have hF : FrD o I I L L := FrD.rf
  have hr := hM.row
  refine C_of (by decide) (Nat.le_of_ble_eq_true rfl) ?_
  refine V_iload_n (pc := 0) dX12_pullNow_0 rfl ?_
  refine V_callSd (pc := 1) (c_X12_isTooth) dX12_pullNow_1 mlX12_236 mkX12_isTooth rfl rfl ⟨Nat.le_of_ble_eq_true rfl, Nat.le_of_ble_eq_true rfl⟩ (Nat.le_of_ble_eq_true rfl) ⟨Nat.le_of_ble_eq_true rfl, Nat.le_of_ble_eq_true rfl⟩ ?_
  refine V_if_eqB (pc := 4) (tgt := 14) dX12_pullNow_4 (by decide) (fun c4 => ?_) (fun n4 => ?_)
  · skip
    refine V_iconst (pc := 14) (v := (-1)) dX12_pullNow_14 (by decide) ?_
    refine V_iret (pc := 15) dX12_pullNow_15 rfl (by first | decide | omega) (by first | decide | omega) ?_
    first | (rw [dPull, if_neg (fun w => by rw [w.1] at c4; exact absurd c4 (by decide))]; exact ⟨rfl, rfl, hM, hF⟩) | (rw [dPull, if_neg (fun w => by rw [w.2] at n11; exact absurd n11 (by decide))]; exact ⟨rfl, rfl, hM, hF⟩)
  · skip
    refine V_iload_n (pc := 7) dX12_pullNow_7 rfl ?_
    refine V_callSd (pc := 8) (c_X12_isBar) dX12_pullNow_8 mlX12_228 mkX12_isBar rfl rfl ⟨Nat.le_of_ble_eq_true rfl, Nat.le_of_ble_eq_true rfl⟩ (Nat.le_of_ble_eq_true rfl) ⟨Nat.le_of_ble_eq_true rfl, Nat.le_of_ble_eq_true rfl⟩ ?_
    refine V_if_neB (pc := 11) (tgt := 16) dX12_pullNow_11 (by decide) (fun c11 => ?_) (fun n11 => ?_)
    · skip
      rw [dPull, if_pos ⟨n4, c11⟩]
      obtain ⟨t, ht, hx⟩ := bnd_ex (by omega) n4
      obtain ⟨j, hj, hy⟩ := bnd_ex (by omega) c11
      subst hx hy
      rw [cln_nI (by omega), cln_nI (by omega)]
      refine V_aload_n (pc := 16) dX12_pullNow_16 rfl ?_
      refine V_iload_n (pc := 17) dX12_pullNow_17 rfl ?_
      refine V_callVd (pc := 18) (ci := 12) (c_X12_isBox (by first | assumption | omega | exact h12) (by first | assumption | omega | exact h12) (by first | assumption | omega | exact h12)) dX12_pullNow_18 mlX12_213 mkX12_isBox rfl rfl h12.o ⟨by decide, rfl⟩ ⟨Nat.le_of_ble_eq_true rfl, Nat.le_of_ble_eq_true rfl⟩ (Nat.le_of_ble_eq_true rfl) ⟨Nat.le_of_ble_eq_true rfl, Nat.le_of_ble_eq_true rfl⟩ ?_
      refine V_if_neB (pc := 21) (tgt := 27) dX12_pullNow_21 (by decide) (fun c21 => ?_) (fun n21 => ?_)
      · skip
        rw [if_pos c21]
        obtain ⟨b, hb, hz⟩ := bnd_ex (by omega) c21
        subst hz
        rw [cln_nI (by omega)]
        have hpi := hq.pi b j (by omega) hj
        have hp2 := pow8 ht
        refine V_aload_n (pc := 27) dX12_pullNow_27 rfl ?_
        refine V_iload_n (pc := 28) dX12_pullNow_28 rfl ?_
        refine V_iload_n (pc := 29) dX12_pullNow_29 rfl ?_
        refine V_iload_n (pc := 30) dX12_pullNow_30 rfl ?_
        refine V_callVd (pc := 31) (ci := 12) (c_X12_canPull (by first | assumption | omega | exact h12) (by first | assumption | omega | exact h12) (by first | assumption | omega | exact h12) (by first | assumption | omega | exact h12) (by first | assumption | omega | exact h12) (by first | assumption | omega | exact h12)) dX12_pullNow_31 mlX12_461 mkX12_canPull rfl rfl h12.o ⟨by decide, rfl⟩ ⟨Nat.le_of_ble_eq_true rfl, Nat.le_of_ble_eq_true rfl⟩ (Nat.le_of_ble_eq_true rfl) ⟨Nat.le_of_ble_eq_true rfl, Nat.le_of_ble_eq_true rfl⟩ ?_
        refine V_if_neB (pc := 34) (tgt := 40) dX12_pullNow_34 (by decide) (fun c34 => ?_) (fun n34 => ?_)
        · skip
          have hbit := of_decide_eq_true c34
          rw [if_pos hbit]
          have hle := bit_le hbit
          refine V_aload_n (pc := 40) dX12_pullNow_40 rfl ?_
          refine V_iconst (pc := 41) (v := nI 0) dX12_pullNow_41 (by decide) ?_
          refine V_callV (pc := 42) (ci := 12) (c_X12_remember h12 hM hA.2.2.1) dX12_pullNow_42 mlX12_465 mkX12_remember rfl rfl h12.o ⟨by decide, rfl⟩ ⟨Nat.le_of_ble_eq_true rfl, Nat.le_of_ble_eq_true rfl⟩ (Nat.le_of_ble_eq_true rfl) ⟨Nat.le_of_ble_eq_true rfl, Nat.le_of_ble_eq_true rfl⟩ (fun r S' I' L' hp => ?_)
          obtain ⟨rfl, rfl, hM2, hF2⟩ := hp
          have hr2 : RowM I' (o + 2) (aq A) := hM2.row
          refine V_aload_n (pc := 45) dX12_pullNow_45 rfl ?_
          refine V_getR (pc := 46) 12 3 dX12_pullNow_46 flX12_13 (by decide) h12.o h12.R3 ?_
          refine V_bipush (pc := 49) (v := nI 8) dX12_pullNow_49 (by decide) ?_
          refine V_bipush (pc := 51) (v := nI 8) dX12_pullNow_51 (by decide) ?_
          refine V_iload_n (pc := 53) dX12_pullNow_53 rfl ?_
          refine V_imulN (pc := 54) dX12_pullNow_54 ?_
          refine V_iaddN (pc := 55) dX12_pullNow_55 ?_
          refine V_iload_n (pc := 56) dX12_pullNow_56 rfl ?_
          refine V_iaddN (pc := 57) dX12_pullNow_57 ?_
          refine V_dup2 (pc := 58) dX12_pullNow_58 rfl rfl ?_
          refine V_ialoadE (pc := 59) dX12_pullNow_59 h12.A3 (by first | decide | omega) (by omega) (hr2.n (by omega)) ?_
          refine V_iconst (pc := 60) (v := nI 1) dX12_pullNow_60 (by decide) ?_
          refine V_iload_n (pc := 61) dX12_pullNow_61 rfl ?_
          refine V_ishlN (pc := 62) dX12_pullNow_62 (by omega) (by omega) ?_
          refine V_isubN (pc := 63) dX12_pullNow_63 (by omega) ?_
          refine V_iastore (pc := 64) dX12_pullNow_64 h12.A3 (by first | decide | omega) (by omega) ?_
          have m3 := hM2.st (i := 8 + 8 * b + j) (n := aq A (8 + 8 * b + j) - 1 * 2 ^ t) (by omega) (enc_n (by omega))
          rw [Nat.one_mul] at m3 ⊢
          refine V_aload_n (pc := 65) dX12_pullNow_65 rfl ?_
          refine V_iload_n (pc := 66) dX12_pullNow_66 rfl ?_
          refine V_callVd (pc := 67) (ci := 12) (c_X12_notesOf (q := setq (aq A) (8 + 8 * b + j) (aq A (8 + 8 * b + j) - 2 ^ t)) h12 m3.row (hq.pin (by omega) hj (Nat.lt_of_le_of_lt (Nat.sub_le _ _) hpi)) (by omega)) dX12_pullNow_67 mlX12_219 mkX12_notesOf rfl rfl h12.o ⟨by decide, rfl⟩ ⟨Nat.le_of_ble_eq_true rfl, Nat.le_of_ble_eq_true rfl⟩ (Nat.le_of_ble_eq_true rfl) ⟨Nat.le_of_ble_eq_true rfl, Nat.le_of_ble_eq_true rfl⟩ ?_
          refine V_iret (pc := 70) dX12_pullNow_70 rfl (by first | decide | omega) (by first | decide | omega) ?_
          exact ⟨rfl, rfl, m3, hF2.up (by omega)⟩
        · skip
          refine V_bipush (pc := 37) (v := (-3)) dX12_pullNow_37 (by decide) ?_
          refine V_iret (pc := 39) dX12_pullNow_39 rfl (by first | decide | omega) (by first | decide | omega) ?_
          rw [if_neg (of_decide_eq_false n34)]
          exact ⟨rfl, rfl, hM, hF⟩
      · skip
        refine V_bipush (pc := 24) (v := (-2)) dX12_pullNow_24 (by decide) ?_
        refine V_iret (pc := 26) dX12_pullNow_26 rfl (by first | decide | omega) (by first | decide | omega) ?_
        rw [if_neg (by rw [n21]; decide)]
        exact ⟨rfl, rfl, hM, hF⟩
    · skip
      refine V_iconst (pc := 14) (v := (-1)) dX12_pullNow_14 (by decide) ?_
      refine V_iret (pc := 15) dX12_pullNow_15 rfl (by first | decide | omega) (by first | decide | omega) ?_
      first | (rw [dPull, if_neg (fun w => by rw [w.1] at c4; exact absurd c4 (by decide))]; exact ⟨rfl, rfl, hM, hF⟩) | (rw [dPull, if_neg (fun w => by rw [w.2] at n11; exact absurd n11 (by decide))]; exact ⟨rfl, rfl, hM, hF⟩)
def spPull (A : AT) (x y z : Int32) : Int32 × AT := tll (dPull A x y z)
theorem dPull_ok (A : AT) (x y z : Int32) : (dPull A x y z).1 < 7 ∧ (dPull A x y z).2.1 < 2 ^ 31 := by
  unfold dPull
  split
  · split
    · split
      · exact ⟨by show 0 < 7; omega, Nat.lt_of_le_of_lt (nts_le _ _) (by omega)⟩
      · exact ⟨by show 3 < 7; omega, by show 0 < 2 ^ 31; omega⟩
    · exact ⟨by show 2 < 7; omega, by show 0 < 2 ^ 31; omega⟩
  · exact ⟨by show 1 < 7; omega, by show 0 < 2 ^ 31; omega⟩
theorem c_X12_pull (h12 : Lay12 E S o) (hM : MR o I L A) (hA : wfA A) {x y z : Int32} : Cm E kX12_pull 4 [.ref o, .int x, .int y, .int z] S I L o (.int (spPull A x y z).1) (spPull A x y z).2 := by
  refine C_of (by decide) (Nat.le_of_ble_eq_true rfl) ?_
  refine V_aload_n (pc := 0) dX12_pull_0 rfl ?_
  refine V_iconst (pc := 1) (v := nI 0) dX12_pull_1 (by decide) ?_
  refine V_putI (pc := 2) 12 0 dX12_pull_2 flX12_175 (by decide) (by decide) (Or.inl rfl) rfl rfl h12.o ?_
  have hM := hM.thrown (v := nI 0)
  have hF : FrM o (up2 I o 0 (nI 0)) I L L := FrM.rf.up (by omega)
  generalize up2 I o 0 (nI 0) = I0 at hM hF ⊢
  have hr := hM.row
  refine V_aload_n (pc := 5) dX12_pull_5 rfl ?_
  refine V_aload_n (pc := 6) dX12_pull_6 rfl ?_
  refine V_iload_n (pc := 7) dX12_pull_7 rfl ?_
  refine V_iload_n (pc := 8) dX12_pull_8 rfl ?_
  refine V_iload_n (pc := 9) dX12_pull_9 rfl ?_
  refine V_callV (pc := 10) (ci := 12) (c_X12_pullNow h12 hM hA) dX12_pull_10 mlX12_468 mkX12_pullNow rfl rfl h12.o ⟨by decide, rfl⟩ ⟨Nat.le_of_ble_eq_true rfl, Nat.le_of_ble_eq_true rfl⟩ (Nat.le_of_ble_eq_true rfl) ⟨Nat.le_of_ble_eq_true rfl, Nat.le_of_ble_eq_true rfl⟩ (fun r S' I' L' hp => ?_)
  obtain ⟨rfl, rfl, hM2, hF2⟩ := hp
  refine V_callVd (pc := 13) (ci := 12) (c_X12_telld h12 (dPull_ok A x y z).1 (dPull_ok A x y z).2) dX12_pull_13 mlX12_184 mkX12_tell rfl rfl h12.o ⟨by decide, rfl⟩ ⟨Nat.le_of_ble_eq_true rfl, Nat.le_of_ble_eq_true rfl⟩ (Nat.le_of_ble_eq_true rfl) ⟨Nat.le_of_ble_eq_true rfl, Nat.le_of_ble_eq_true rfl⟩ ?_
  refine V_iret (pc := 16) dX12_pull_16 rfl (by first | decide | omega) (by first | decide | omega) ?_
  exact ⟨rfl, rfl, hM2.htl, (FrM.tr hF2.1 hF).htl⟩
def dSnap (A : AT) (x y : Int32) : Nat × Nat × AT := if bnd x 8 = true then (if bnd y (aq A 0) = true then (if aq A (56 + cln y) / 2 ^ cln x % 2 = 1 then (3, 0, A) else (0, nts (setq (aq A) (56 + cln y) (aq A (56 + cln y) + 2 ^ cln x)) (cln y), sq (rem1 A 1) (setq (aq A) (56 + cln y) (aq A (56 + cln y) + 2 ^ cln x)))) else (2, 0, A)) else (1, 0, A)
theorem c_X12_snapNow (h12 : Lay12 E S o) (hM : MR o I L A) (hA : wfA A) {x y : Int32} : Cmd E kX12_snapNow 3 [.ref o, .int x, .int y] S I L o (.int (dv (dSnap A x y))) (dSnap A x y).2.2 := by
  have hq := hA.q
  have hnb := hq.nb
  have hF : FrD o I I L L := FrD.rf
  have hr := hM.row
  refine C_of (by decide) (Nat.le_of_ble_eq_true rfl) ?_
  refine V_iload_n (pc := 0) dX12_snapNow_0 rfl ?_
  refine V_callSd (pc := 1) (c_X12_isTooth) dX12_snapNow_1 mlX12_236 mkX12_isTooth rfl rfl ⟨Nat.le_of_ble_eq_true rfl, Nat.le_of_ble_eq_true rfl⟩ (Nat.le_of_ble_eq_true rfl) ⟨Nat.le_of_ble_eq_true rfl, Nat.le_of_ble_eq_true rfl⟩ ?_
  refine V_if_neB (pc := 4) (tgt := 9) dX12_snapNow_4 (by decide) (fun c4 => ?_) (fun n4 => ?_)
  · skip
    rw [dSnap, if_pos c4]
    obtain ⟨t, ht, hx⟩ := bnd_ex (by omega) c4
    subst hx
    rw [cln_nI (by omega)]
    refine V_aload_n (pc := 9) dX12_snapNow_9 rfl ?_
    refine V_iload_n (pc := 10) dX12_snapNow_10 rfl ?_
    refine V_callVd (pc := 11) (ci := 12) (c_X12_isBox (by first | assumption | omega | exact h12) (by first | assumption | omega | exact h12) (by first | assumption | omega | exact h12)) dX12_snapNow_11 mlX12_213 mkX12_isBox rfl rfl h12.o ⟨by decide, rfl⟩ ⟨Nat.le_of_ble_eq_true rfl, Nat.le_of_ble_eq_true rfl⟩ (Nat.le_of_ble_eq_true rfl) ⟨Nat.le_of_ble_eq_true rfl, Nat.le_of_ble_eq_true rfl⟩ ?_
    refine V_if_neB (pc := 14) (tgt := 20) dX12_snapNow_14 (by decide) (fun c14 => ?_) (fun n14 => ?_)
    · skip
      rw [if_pos c14]
      obtain ⟨b, hb, hz⟩ := bnd_ex (by omega) c14
      subst hz
      rw [cln_nI (by omega)]
      have hpi := hq.br b (by omega)
      have hp2 := pow8 ht
      refine V_aload_n (pc := 20) dX12_snapNow_20 rfl ?_
      refine V_getR (pc := 21) 12 3 dX12_snapNow_21 flX12_13 (by decide) h12.o h12.R3 ?_
      refine V_bipush (pc := 24) (v := nI 56) dX12_snapNow_24 (by decide) ?_
      refine V_iload_n (pc := 26) dX12_snapNow_26 rfl ?_
      refine V_iaddN (pc := 27) dX12_snapNow_27 ?_
      refine V_ialoadE (pc := 28) dX12_snapNow_28 h12.A3 (by first | decide | omega) (by omega) (hr.n (by omega)) ?_
      refine V_iload_n (pc := 29) dX12_snapNow_29 rfl ?_
      refine V_callSd (pc := 30) (c_X12_is (by first | assumption | omega) (by first | assumption | omega)) dX12_snapNow_30 mlX12_458 mkX12_is rfl rfl ⟨Nat.le_of_ble_eq_true rfl, Nat.le_of_ble_eq_true rfl⟩ (Nat.le_of_ble_eq_true rfl) ⟨Nat.le_of_ble_eq_true rfl, Nat.le_of_ble_eq_true rfl⟩ ?_
      refine V_if_eqB (pc := 33) (tgt := 39) dX12_snapNow_33 (by decide) (fun c33 => ?_) (fun n33 => ?_)
      · skip
        have hbit := of_decide_eq_false c33
        rw [if_neg hbit]
        have hle := bit_add ht hpi hbit
        refine V_aload_n (pc := 39) dX12_snapNow_39 rfl ?_
        refine V_iconst (pc := 40) (v := nI 1) dX12_snapNow_40 (by decide) ?_
        refine V_callV (pc := 41) (ci := 12) (c_X12_remember h12 hM hA.2.2.1) dX12_snapNow_41 mlX12_465 mkX12_remember rfl rfl h12.o ⟨by decide, rfl⟩ ⟨Nat.le_of_ble_eq_true rfl, Nat.le_of_ble_eq_true rfl⟩ (Nat.le_of_ble_eq_true rfl) ⟨Nat.le_of_ble_eq_true rfl, Nat.le_of_ble_eq_true rfl⟩ (fun r S' I' L' hp => ?_)
        obtain ⟨rfl, rfl, hM2, hF2⟩ := hp
        have hr2 : RowM I' (o + 2) (aq A) := hM2.row
        refine V_aload_n (pc := 44) dX12_snapNow_44 rfl ?_
        refine V_getR (pc := 45) 12 3 dX12_snapNow_45 flX12_13 (by decide) h12.o h12.R3 ?_
        refine V_bipush (pc := 48) (v := nI 56) dX12_snapNow_48 (by decide) ?_
        refine V_iload_n (pc := 50) dX12_snapNow_50 rfl ?_
        refine V_iaddN (pc := 51) dX12_snapNow_51 ?_
        refine V_dup2 (pc := 52) dX12_snapNow_52 rfl rfl ?_
        refine V_ialoadE (pc := 53) dX12_snapNow_53 h12.A3 (by first | decide | omega) (by omega) (hr2.n (by omega)) ?_
        refine V_iconst (pc := 54) (v := nI 1) dX12_snapNow_54 (by decide) ?_
        refine V_iload_n (pc := 55) dX12_snapNow_55 rfl ?_
        refine V_ishlN (pc := 56) dX12_snapNow_56 (by omega) (by omega) ?_
        refine V_iaddN (pc := 57) dX12_snapNow_57 ?_
        refine V_iastore (pc := 58) dX12_snapNow_58 h12.A3 (by first | decide | omega) (by omega) ?_
        have m3 := hM2.st (i := 56 + b) (n := aq A (56 + b) + 1 * 2 ^ t) (by omega) (enc_n (by omega))
        rw [Nat.one_mul] at m3 ⊢
        refine V_aload_n (pc := 59) dX12_snapNow_59 rfl ?_
        refine V_iload_n (pc := 60) dX12_snapNow_60 rfl ?_
        refine V_callVd (pc := 61) (ci := 12) (c_X12_notesOf (q := setq (aq A) (56 + b) (aq A (56 + b) + 2 ^ t)) h12 m3.row (hq.bro (by omega) (by omega)) (by omega)) dX12_snapNow_61 mlX12_219 mkX12_notesOf rfl rfl h12.o ⟨by decide, rfl⟩ ⟨Nat.le_of_ble_eq_true rfl, Nat.le_of_ble_eq_true rfl⟩ (Nat.le_of_ble_eq_true rfl) ⟨Nat.le_of_ble_eq_true rfl, Nat.le_of_ble_eq_true rfl⟩ ?_
        refine V_iret (pc := 64) dX12_snapNow_64 rfl (by first | decide | omega) (by first | decide | omega) ?_
        exact ⟨rfl, rfl, m3, hF2.up (by omega)⟩
      · skip
        refine V_bipush (pc := 36) (v := (-3)) dX12_snapNow_36 (by decide) ?_
        refine V_iret (pc := 38) dX12_snapNow_38 rfl (by first | decide | omega) (by first | decide | omega) ?_
        rw [if_pos (of_decide_eq_true n33)]
        exact ⟨rfl, rfl, hM, hF⟩
    · skip
      refine V_bipush (pc := 17) (v := (-2)) dX12_snapNow_17 (by decide) ?_
      refine V_iret (pc := 19) dX12_snapNow_19 rfl (by first | decide | omega) (by first | decide | omega) ?_
      rw [if_neg (by rw [n14]; decide)]
      exact ⟨rfl, rfl, hM, hF⟩
  · skip
    refine V_iconst (pc := 7) (v := (-1)) dX12_snapNow_7 (by decide) ?_
    refine V_iret (pc := 8) dX12_snapNow_8 rfl (by first | decide | omega) (by first | decide | omega) ?_
    rw [dSnap, if_neg (by rw [n4]; decide)]
    exact ⟨rfl, rfl, hM, hF⟩
def spSnap (A : AT) (x y : Int32) : Int32 × AT := tll (dSnap A x y)
theorem dSnap_ok (A : AT) (x y : Int32) : (dSnap A x y).1 < 7 ∧ (dSnap A x y).2.1 < 2 ^ 31 := by
  unfold dSnap
  split
  · split
    · split
      · exact ⟨by show 3 < 7; omega, by show 0 < 2 ^ 31; omega⟩
      · exact ⟨by show 0 < 7; omega, Nat.lt_of_le_of_lt (nts_le _ _) (by omega)⟩
    · exact ⟨by show 2 < 7; omega, by show 0 < 2 ^ 31; omega⟩
  · exact ⟨by show 1 < 7; omega, by show 0 < 2 ^ 31; omega⟩
theorem c_X12_snap (h12 : Lay12 E S o) (hM : MR o I L A) (hA : wfA A) {x y : Int32} : Cm E kX12_snap 4 [.ref o, .int x, .int y] S I L o (.int (spSnap A x y).1) (spSnap A x y).2 := by
  refine C_of (by decide) (Nat.le_of_ble_eq_true rfl) ?_
  refine V_aload_n (pc := 0) dX12_snap_0 rfl ?_
  refine V_iconst (pc := 1) (v := nI 0) dX12_snap_1 (by decide) ?_
  refine V_putI (pc := 2) 12 0 dX12_snap_2 flX12_175 (by decide) (by decide) (Or.inl rfl) rfl rfl h12.o ?_
  have hM := hM.thrown (v := nI 0)
  have hF : FrM o (up2 I o 0 (nI 0)) I L L := FrM.rf.up (by omega)
  generalize up2 I o 0 (nI 0) = I0 at hM hF ⊢
  have hr := hM.row
  refine V_aload_n (pc := 5) dX12_snap_5 rfl ?_
  refine V_aload_n (pc := 6) dX12_snap_6 rfl ?_
  refine V_iload_n (pc := 7) dX12_snap_7 rfl ?_
  refine V_iload_n (pc := 8) dX12_snap_8 rfl ?_
  refine V_callV (pc := 9) (ci := 12) (c_X12_snapNow h12 hM hA) dX12_snap_9 mlX12_472 mkX12_snapNow rfl rfl h12.o ⟨by decide, rfl⟩ ⟨Nat.le_of_ble_eq_true rfl, Nat.le_of_ble_eq_true rfl⟩ (Nat.le_of_ble_eq_true rfl) ⟨Nat.le_of_ble_eq_true rfl, Nat.le_of_ble_eq_true rfl⟩ (fun r S' I' L' hp => ?_)
  obtain ⟨rfl, rfl, hM2, hF2⟩ := hp
  refine V_callVd (pc := 12) (ci := 12) (c_X12_telld h12 (dSnap_ok A x y).1 (dSnap_ok A x y).2) dX12_snap_12 mlX12_184 mkX12_tell rfl rfl h12.o ⟨by decide, rfl⟩ ⟨Nat.le_of_ble_eq_true rfl, Nat.le_of_ble_eq_true rfl⟩ (Nat.le_of_ble_eq_true rfl) ⟨Nat.le_of_ble_eq_true rfl, Nat.le_of_ble_eq_true rfl⟩ ?_
  refine V_iret (pc := 15) dX12_snap_15 rfl (by first | decide | omega) (by first | decide | omega) ?_
  exact ⟨rfl, rfl, hM2.htl, (FrM.tr hF2.1 hF).htl⟩
def dWed (A : AT) (x y : Int32) : Nat × Nat × AT := if bnd x (aq A 0) = true ∧ bnd y (aq A 1) = true then (if aq A (68 + cln x) = 0 ∧ bof (aq A) (cln y) (aq A 0) = 0 ∧ brd (lwf A) (aq A) (cln x) (cln y) = false ∧ lst (lwf A) (aq A) (cln x) ≠ 0 then (0, lst (lwf A) (aq A) (cln x), sq (rem1 A 2) (setq (setq (aq A) (68 + cln x) (cln y + 1)) (74 + cln x) (lst (lwf A) (aq A) (cln x)))) else (3, 0, A)) else (2, 0, A)
theorem c_X12_wedNow (h12 : Lay12 E S o) (hM : MR o I L A) (hA : wfA A) {x y : Int32} : Cmd E kX12_wedNow 7 [.ref o, .int x, .int y] S I L o (.int (dv (dWed A x y))) (dWed A x y).2.2 := by
  have hq := hA.q
  have hnb := hq.nb
  have hns := hq.ns
  have hl := hA.law
  have hF : FrD o I I L L := FrD.rf
  have hr := hM.row
  refine C_of (by decide) (Nat.le_of_ble_eq_true rfl) ?_
  refine V_aload_n (pc := 0) dX12_wedNow_0 rfl ?_
  refine V_iload_n (pc := 1) dX12_wedNow_1 rfl ?_
  refine V_callVd (pc := 2) (ci := 12) (c_X12_isBox (by first | assumption | omega | exact h12) (by first | assumption | omega | exact h12) (by first | assumption | omega | exact h12)) dX12_wedNow_2 mlX12_213 mkX12_isBox rfl rfl h12.o ⟨by decide, rfl⟩ ⟨Nat.le_of_ble_eq_true rfl, Nat.le_of_ble_eq_true rfl⟩ (Nat.le_of_ble_eq_true rfl) ⟨Nat.le_of_ble_eq_true rfl, Nat.le_of_ble_eq_true rfl⟩ ?_
  refine V_if_eqB (pc := 5) (tgt := 16) dX12_wedNow_5 (by decide) (fun c5 => ?_) (fun n5 => ?_)
  · skip
    refine V_bipush (pc := 16) (v := (-2)) dX12_wedNow_16 (by decide) ?_
    refine V_iret (pc := 18) dX12_wedNow_18 rfl (by first | decide | omega) (by first | decide | omega) ?_
    first | (rw [dWed, if_neg (fun w => by rw [w.1] at c5; exact absurd c5 (by decide))]; exact ⟨rfl, rfl, hM, hF⟩) | (rw [dWed, if_neg (fun w => by rw [w.2] at n13; exact absurd n13 (by decide))]; exact ⟨rfl, rfl, hM, hF⟩)
  · skip
    refine V_aload_n (pc := 8) dX12_wedNow_8 rfl ?_
    refine V_iload_n (pc := 9) dX12_wedNow_9 rfl ?_
    refine V_callVd (pc := 10) (ci := 12) (c_X12_isSuitor (by first | assumption | omega | exact h12) (by first | assumption | omega | exact h12) (by first | assumption | omega | exact h12)) dX12_wedNow_10 mlX12_241 mkX12_isSuitor rfl rfl h12.o ⟨by decide, rfl⟩ ⟨Nat.le_of_ble_eq_true rfl, Nat.le_of_ble_eq_true rfl⟩ (Nat.le_of_ble_eq_true rfl) ⟨Nat.le_of_ble_eq_true rfl, Nat.le_of_ble_eq_true rfl⟩ ?_
    refine V_if_neB (pc := 13) (tgt := 19) dX12_wedNow_13 (by decide) (fun c13 => ?_) (fun n13 => ?_)
    · skip
      rw [dWed, if_pos ⟨n5, c13⟩]
      obtain ⟨b, hb, hx⟩ := bnd_ex (by omega) n5
      obtain ⟨s, hs, hy⟩ := bnd_ex (by omega) c13
      subst hx hy
      rw [cln_nI (by omega), cln_nI (by omega)]
      have hwe := hq.we b (by omega)
      have hbo := bof_le (aq A) s (aq A 0)
      have hls := lst_le (lwf A) (aq A) b
      refine V_aload_n (pc := 19) dX12_wedNow_19 rfl ?_
      refine V_iload_n (pc := 20) dX12_wedNow_20 rfl ?_
      refine V_callV (pc := 21) (ci := 12) (c_X12_lastsOf h12 hr hq (hM.law hq) hl.1 hM.od (by omega)) dX12_wedNow_21 mlX12_222 mkX12_lastsOf rfl rfl h12.o ⟨by decide, rfl⟩ ⟨Nat.le_of_ble_eq_true rfl, Nat.le_of_ble_eq_true rfl⟩ (Nat.le_of_ble_eq_true rfl) ⟨Nat.le_of_ble_eq_true rfl, Nat.le_of_ble_eq_true rfl⟩ (fun r S' I' L' hp => ?_)
      obtain ⟨rfl, rfl, hI, hL⟩ := hp
      have hM1 := hM.ts hI hL
      have hF1 := hF.ts hI hL
      have hr1 := hM1.row
      refine V_istore_n (pc := 24) (ls' := [(0, _), (1, _), (2, _), (3, _)]) dX12_wedNow_24 (by decide) rfl ?_
      refine V_aload_n (pc := 25) dX12_wedNow_25 rfl ?_
      refine V_getR (pc := 26) 12 3 dX12_wedNow_26 flX12_13 (by decide) h12.o h12.R3 ?_
      refine V_bipush (pc := 29) (v := nI 68) dX12_wedNow_29 (by decide) ?_
      refine V_iload_n (pc := 31) dX12_wedNow_31 rfl ?_
      refine V_iaddN (pc := 32) dX12_wedNow_32 ?_
      refine V_ialoadE (pc := 33) dX12_wedNow_33 h12.A3 (by first | decide | omega) (by omega) (hr1.w (by omega)) ?_
      refine V_iconst (pc := 34) (v := (-1)) dX12_wedNow_34 (by decide) ?_
      refine V_icmp_ne (pc := 35) (tgt := 60) dX12_wedNow_35 (by decide) (fun c35 => ?_) (fun n35 => ?_)
      · skip
        refine V_bipush (pc := 60) (v := (-3)) dX12_wedNow_60 (by decide) ?_
        refine V_iret (pc := 62) dX12_wedNow_62 rfl (by first | decide | omega) (by first | decide | omega) ?_
        first | (rw [if_neg (fun w => c35 ((pred1_none (by omega)).mpr w.1))]; exact ⟨rfl, rfl, hM1, hF1⟩) | (rw [if_neg (fun w => c44 ((pred1_none (by omega)).mpr w.2.1))]; exact ⟨rfl, rfl, hM1, hF1⟩) | (rw [if_neg (fun w => by rw [w.2.2.1] at c53; exact absurd c53 (by decide))]; exact ⟨rfl, rfl, hM3, hF3⟩) | (rw [if_neg (fun w => w.2.2.2 n57)]; exact ⟨rfl, rfl, hM3, hF3⟩)
      · skip
        refine V_aload_n (pc := 38) dX12_wedNow_38 rfl ?_
        refine V_iload_n (pc := 39) dX12_wedNow_39 rfl ?_
        refine V_callVd (pc := 40) (ci := 12) (c_X12_boxOf (by first | assumption | omega | exact h12) (by first | assumption | omega | exact h12) (by first | assumption | omega | exact h12) (by first | assumption | omega | exact h12)) dX12_wedNow_40 mlX12_244 mkX12_boxOf rfl rfl h12.o ⟨by decide, rfl⟩ ⟨Nat.le_of_ble_eq_true rfl, Nat.le_of_ble_eq_true rfl⟩ (Nat.le_of_ble_eq_true rfl) ⟨Nat.le_of_ble_eq_true rfl, Nat.le_of_ble_eq_true rfl⟩ ?_
        refine V_iconst (pc := 43) (v := (-1)) dX12_wedNow_43 (by decide) ?_
        refine V_icmp_ne (pc := 44) (tgt := 60) dX12_wedNow_44 (by decide) (fun c44 => ?_) (fun n44 => ?_)
        · skip
          refine V_bipush (pc := 60) (v := (-3)) dX12_wedNow_60 (by decide) ?_
          refine V_iret (pc := 62) dX12_wedNow_62 rfl (by first | decide | omega) (by first | decide | omega) ?_
          first | (rw [if_neg (fun w => c35 ((pred1_none (by omega)).mpr w.1))]; exact ⟨rfl, rfl, hM1, hF1⟩) | (rw [if_neg (fun w => c44 ((pred1_none (by omega)).mpr w.2.1))]; exact ⟨rfl, rfl, hM1, hF1⟩) | (rw [if_neg (fun w => by rw [w.2.2.1] at c53; exact absurd c53 (by decide))]; exact ⟨rfl, rfl, hM3, hF3⟩) | (rw [if_neg (fun w => w.2.2.2 n57)]; exact ⟨rfl, rfl, hM3, hF3⟩)
        · skip
          refine V_aload_n (pc := 47) dX12_wedNow_47 rfl ?_
          refine V_iload_n (pc := 48) dX12_wedNow_48 rfl ?_
          refine V_iload_n (pc := 49) dX12_wedNow_49 rfl ?_
          refine V_callV (pc := 50) (ci := 12) (c_X12_isBarred h12 hr1 hq (hM1.law hq) hl.2.2 hM1.od (by omega) (by omega)) dX12_wedNow_50 mlX12_253 mkX12_isBarred rfl rfl h12.o ⟨by decide, rfl⟩ ⟨Nat.le_of_ble_eq_true rfl, Nat.le_of_ble_eq_true rfl⟩ (Nat.le_of_ble_eq_true rfl) ⟨Nat.le_of_ble_eq_true rfl, Nat.le_of_ble_eq_true rfl⟩ (fun r S' I' L' hp => ?_)
          obtain ⟨rfl, rfl, hI3, hL3⟩ := hp
          have hM3 := hM1.ts hI3 hL3
          have hF3 := hF1.ts hI3 hL3
          refine V_if_neB (pc := 53) (tgt := 60) dX12_wedNow_53 (by decide) (fun c53 => ?_) (fun n53 => ?_)
          · skip
            refine V_bipush (pc := 60) (v := (-3)) dX12_wedNow_60 (by decide) ?_
            refine V_iret (pc := 62) dX12_wedNow_62 rfl (by first | decide | omega) (by first | decide | omega) ?_
            first | (rw [if_neg (fun w => c35 ((pred1_none (by omega)).mpr w.1))]; exact ⟨rfl, rfl, hM1, hF1⟩) | (rw [if_neg (fun w => c44 ((pred1_none (by omega)).mpr w.2.1))]; exact ⟨rfl, rfl, hM1, hF1⟩) | (rw [if_neg (fun w => by rw [w.2.2.1] at c53; exact absurd c53 (by decide))]; exact ⟨rfl, rfl, hM3, hF3⟩) | (rw [if_neg (fun w => w.2.2.2 n57)]; exact ⟨rfl, rfl, hM3, hF3⟩)
          · skip
            refine V_iload_n (pc := 56) dX12_wedNow_56 rfl ?_
            refine V_if_neN (pc := 57) (tgt := 63) dX12_wedNow_57 (by decide) (by omega) (fun c57 => ?_) (fun n57 => ?_)
            · skip
              rw [if_pos ⟨(pred1_none (by omega)).mp n35, (pred1_none (by omega)).mp n44, n53, c57⟩]
              refine V_aload_n (pc := 63) dX12_wedNow_63 rfl ?_
              refine V_iconst (pc := 64) (v := nI 2) dX12_wedNow_64 (by decide) ?_
              refine V_callV (pc := 65) (ci := 12) (c_X12_remember h12 hM3 hA.2.2.1) dX12_wedNow_65 mlX12_465 mkX12_remember rfl rfl h12.o ⟨by decide, rfl⟩ ⟨Nat.le_of_ble_eq_true rfl, Nat.le_of_ble_eq_true rfl⟩ (Nat.le_of_ble_eq_true rfl) ⟨Nat.le_of_ble_eq_true rfl, Nat.le_of_ble_eq_true rfl⟩ (fun r S' I' L' hp => ?_)
              obtain ⟨rfl, rfl, hM4, hF4⟩ := hp
              refine V_aload_n (pc := 68) dX12_wedNow_68 rfl ?_
              refine V_getR (pc := 69) 12 3 dX12_wedNow_69 flX12_13 (by decide) h12.o h12.R3 ?_
              refine V_bipush (pc := 72) (v := nI 68) dX12_wedNow_72 (by decide) ?_
              refine V_iload_n (pc := 74) dX12_wedNow_74 rfl ?_
              refine V_iaddN (pc := 75) dX12_wedNow_75 ?_
              refine V_iload_n (pc := 76) dX12_wedNow_76 rfl ?_
              refine V_iastore (pc := 77) dX12_wedNow_77 h12.A3 (by first | decide | omega) (by omega) ?_
              refine V_aload_n (pc := 78) dX12_wedNow_78 rfl ?_
              refine V_getR (pc := 79) 12 3 dX12_wedNow_79 flX12_13 (by decide) h12.o h12.R3 ?_
              refine V_bipush (pc := 82) (v := nI 74) dX12_wedNow_82 (by decide) ?_
              refine V_iload_n (pc := 84) dX12_wedNow_84 rfl ?_
              refine V_iaddN (pc := 85) dX12_wedNow_85 ?_
              refine V_iload_n (pc := 86) dX12_wedNow_86 rfl ?_
              refine V_iastore (pc := 87) dX12_wedNow_87 h12.A3 (by first | decide | omega) (by omega) ?_
              refine V_iload_n (pc := 88) dX12_wedNow_88 rfl ?_
              refine V_iret (pc := 89) dX12_wedNow_89 rfl (by first | decide | omega) (by first | decide | omega) ?_
              exact ⟨rfl, rfl, (hM4.st (i := 68 + b) (n := s + 1) (by omega) ((pred1_s s).symm.trans (enc_w (by omega)))).st (i := 74 + b) (n := lst (lwf A) (aq A) b) (by omega) (enc_n (by omega)), ((FrD.tr hF4 hF3).up (by omega)).up (by omega)⟩
            · skip
              refine V_bipush (pc := 60) (v := (-3)) dX12_wedNow_60 (by decide) ?_
              refine V_iret (pc := 62) dX12_wedNow_62 rfl (by first | decide | omega) (by first | decide | omega) ?_
              first | (rw [if_neg (fun w => c35 ((pred1_none (by omega)).mpr w.1))]; exact ⟨rfl, rfl, hM1, hF1⟩) | (rw [if_neg (fun w => c44 ((pred1_none (by omega)).mpr w.2.1))]; exact ⟨rfl, rfl, hM1, hF1⟩) | (rw [if_neg (fun w => by rw [w.2.2.1] at c53; exact absurd c53 (by decide))]; exact ⟨rfl, rfl, hM3, hF3⟩) | (rw [if_neg (fun w => w.2.2.2 n57)]; exact ⟨rfl, rfl, hM3, hF3⟩)
    · skip
      refine V_bipush (pc := 16) (v := (-2)) dX12_wedNow_16 (by decide) ?_
      refine V_iret (pc := 18) dX12_wedNow_18 rfl (by first | decide | omega) (by first | decide | omega) ?_
      first | (rw [dWed, if_neg (fun w => by rw [w.1] at c5; exact absurd c5 (by decide))]; exact ⟨rfl, rfl, hM, hF⟩) | (rw [dWed, if_neg (fun w => by rw [w.2] at n13; exact absurd n13 (by decide))]; exact ⟨rfl, rfl, hM, hF⟩)
end MI4
