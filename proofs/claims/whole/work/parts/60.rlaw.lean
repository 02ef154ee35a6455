/-! THE REFERENCE reads a law's clause -/
def one : SF := fun _ => some 1
/-- a clause: where, parts so far, its kind, sum and test -/
def clC (kd : Nat) (F : SF) (r : PR) : Nat × Nat × Option (Nat × SF × SF) := (r.1, r.2.1, r.2.2.map fun T => (kd, F, T))
def clB (t : Nat → Nat) (n kd : Nat) (r : PR) : Nat × Nat × Option (Nat × SF × SF) := match r.2.2 with | none => (r.1, r.2.1, none) | some F => if tc t n r.1 = 0 then clC kd F (ps t n false (FU n) 3 0 (nxt t n r.1) r.2.1 one) else (r.1, r.2.1, some (kd, F, one))
theorem clB_n {t : Nat → Nat} {n kd : Nat} {r : PR} (h : r.2.2 = none) : clB t n kd r = (r.1, r.2.1, none) := by unfold clB; rw [h]
theorem clB_s {t : Nat → Nat} {n kd : Nat} {r : PR} {F : SF} (h : r.2.2 = some F) : clB t n kd r = if tc t n r.1 = 0 then clC kd F (ps t n false (FU n) 3 0 (nxt t n r.1) r.2.1 one) else (r.1, r.2.1, some (kd, F, one)) := by unfold clB; rw [h]
def clL (t : Nat → Nat) (n p l : Nat) : Nat × Nat × Option (Nat × SF × SF) :=
  if 8 ≤ tc t n p ∧ tc t n p ≤ 11 then clB t n (tc t n p - 8) (if tc t n p = 11 then (nxt t n p, l, some one) else ps t n false (FU n) 0 0 (nxt t n p) l one) else (p, l, none)
def CM1 (f : Nat → Int32) (c : CT) (j kd : Nat) (F T : SF) : Prop := kd < 4 ∧ f (8 * j) = nI kd ∧ ∃ s1 e1 s2 e2 : Nat, s1 ≤ 400 ∧ e1 ≤ c.2.2 ∧ s2 ≤ 400 ∧ e2 ≤ c.2.2 ∧ f (8 * j + 3) = nI s1 ∧ f (8 * j + 4) = nI e1 ∧ f (8 * j + 5) = nI s2 ∧ f (8 * j + 6) = nI e2 ∧ (kd ≠ 3 → ∃ m, m ≤ 50 ∧ Rn (lfA false) c.1 c.2.1 s1 e1 m F) ∧ (kd = 3 → F = one) ∧ (s2 < e2 → (∃ m, m ≤ 50 ∧ Rn (lfA false) c.1 c.2.1 s2 e2 m T) ∧ TFo T) ∧ (¬ s2 < e2 → T = one)
theorem CM1.cg {f f' : Nat → Int32} {c c' : CT} {j kd : Nat} {F T : SF} (h : CM1 f c j kd F T) (hf : ∀ i, i < 8 * j + 8 → f' i = f i) (hc : c.2.2 ≤ c'.2.2) (hA : AG c.2.2 c' c) : CM1 f' c' j kd F T := by
  obtain ⟨h1, h2, s1, e1, s2, e2, a1, a2, a3, a4, a5, a6, a7, a8, a9, a10, a11, a12⟩ := h
  refine ⟨h1, (hf _ (by omega)).trans h2, s1, e1, s2, e2, a1, by omega, a3, by omega, (hf _ (by omega)).trans a5, (hf _ (by omega)).trans a6, (hf _ (by omega)).trans a7, (hf _ (by omega)).trans a8, fun z => ?_, a10, fun z => ?_, a12⟩
  · obtain ⟨m, m1, m2⟩ := a9 z
    exact ⟨m, m1, m2.cg fun k _ hk => hA k (by omega)⟩
  · obtain ⟨⟨m, m1, m2⟩, m3⟩ := a11 z
    exact ⟨⟨m, m1, m2.cg fun k _ hk => hA k (by omega)⟩, m3⟩
/-- only what reading a text changes has changed -/
def FQ (o : Nat) (I' I : IT) (L' L : LT) : Prop := (∀ a, a ≠ o → (a < o + 10 ∨ (o + 14 < a ∧ a ≠ o + 34)) → I' a = I a) ∧ (∀ i, (i < 14 ∨ 30 < i ∨ i = 20) → I' o i = I o i) ∧ (∀ a, a ≠ o → L' a = L a) ∧ ∀ i, i ≠ 17 → L' o i = L o i
theorem FQ.rf {o : Nat} {I : IT} {L : LT} : FQ o I I L L := ⟨fun _ _ _ => rfl, fun _ _ => rfl, fun _ _ => rfl, fun _ _ => rfl⟩
theorem FQ.tr {o : Nat} {I1 I2 I3 : IT} {L1 L2 L3 : LT} (h : FQ o I1 I2 L1 L2) (g : FQ o I2 I3 L2 L3) : FQ o I1 I3 L1 L3 := ⟨fun a h1 h2 => (h.1 a h1 h2).trans (g.1 a h1 h2), fun i hi => (h.2.1 i hi).trans (g.2.1 i hi), fun a ha => (h.2.2.1 a ha).trans (g.2.2.1 a ha), fun i hi => (h.2.2.2 i hi).trans (g.2.2.2 i hi)⟩
theorem FP.q {o : Nat} {I I' : IT} {L L' : LT} (h : FP o I' I L' L) : FQ o I' I L' L := ⟨fun a h1 h2 => h.1 a h1 (by omega), fun i hi => h.2.1 i (by omega), h.2.2⟩
theorem FN.q {o : Nat} {I I' : IT} {L L' : LT} (h : FN o I' I L' L) : FQ o I' I L' L := ⟨fun a h1 h2 => h.1 a h1, fun i hi => h.2.1 i (by omega), h.2.2⟩
theorem FQ.row {o a i : Nat} {v : Int32} {I I' : IT} {L L' : LT} (h : FQ o I' I L' L) (ha : a = o + 10 ∨ a = o + 34) : FQ o (up2 I' a i v) I L' L := ⟨fun x h1 h2 => by rw [up2_row (by omega)]; exact h.1 x h1 h2, fun j hj => by rw [up2_ne (by omega)]; exact h.2.1 j hj, h.2.2⟩
theorem FQ.fld {o i : Nat} {v : Int32} {I I' : IT} {L L' : LT} (h : FQ o I' I L' L) (hi : 14 ≤ i ∧ i ≤ 30 ∧ i ≠ 20) : FQ o (up2 I' o i v) I L' L := ⟨fun x h1 h2 => by rw [up2_row h1]; exact h.1 x h1 h2, fun j hj => by rw [up2_nej (by omega)]; exact h.2.1 j hj, h.2.2⟩
section PJ
variable {E : EnT} {S : ST} {I I0 : IT} {L L0 : LT} {o n p l d : Nat} {t : Nat → Nat} {P : List (Nat × Nat)} {c : CT} {b : Option Nat}
theorem PS.base {s : PT} {I' : IT} (h : PS o t n I0 L0 I L b s) (e : ∀ a, (a = o + 9 ∨ (o + 11 ≤ a ∧ a ≤ o + 14)) → I' a = I a) (f : ∀ i, 13 ≤ i → i ≤ 30 → i ≠ 20 → i ≠ 21 → I' o i = I o i) : PS o t n I' L I' L b s := by
  obtain ⟨h1, h2, h3, h4, h5, h6, h7, h8, h9⟩ := h
  refine ⟨h1.cg (e _ (by omega)) fun i a1 a2 => f i (by omega) (by omega) (by omega) (by omega), (f _ (by omega) (by omega) (by omega) (by omega)).trans h2, (f _ (by omega) (by omega) (by omega) (by omega)).trans h3, (f _ (by omega) (by omega) (by omega) (by omega)).trans h4, h5.cg fun k hk => ⟨by rw [e _ (by omega)], by rw [e _ (by omega)]⟩, ⟨(f _ (by omega) (by omega) (by omega) (by omega)).trans h6.1, fun k hk => by rw [e _ (by omega), e _ (by omega)]; exact h6.2 k hk⟩, (f _ (by omega) (by omega) (by omega) (by omega)).trans h7, (f _ (by omega) (by omega) (by omega) (by omega)).trans h8, FP.rf⟩
theorem PS.row {s : PT} {a i : Nat} {v : Int32} (h : PS o t n I0 L0 I L b s) (ha : a = o + 10 ∨ a = o + 34) : PS o t n (up2 I a i v) L (up2 I a i v) L b s := h.base (fun x hx => up2_row (by omega)) (fun j _ _ _ _ => up2_ne (by omega))
theorem PS.b21 {s : PT} {v : Int32} (h : PS o t n I0 L0 I L b s) : PS o t n (up2 I o 21 v) L (up2 I o 21 v) L b s := h.base (fun x hx => up2_row (by omega)) (fun j _ _ _ hj => up2_nej hj)
theorem itk4 (b c : Nat) : itk (fun k => b + k) c 4 = if b ≤ c ∧ c < b + 4 then c - b + 1 else 0 := by
  show (if c = b + 3 then 4 else if c = b + 2 then 3 else if c = b + 1 then 2 else if c = b + 0 then 1 else 0) = _
  by_cases h : b ≤ c ∧ c < b + 4
  · rw [if_pos h]
    by_cases h3 : c = b + 3
    · rw [if_pos h3]; omega
    rw [if_neg h3]
    by_cases h2 : c = b + 2
    · rw [if_pos h2]; omega
    rw [if_neg h2]
    by_cases h1 : c = b + 1
    · rw [if_pos h1]; omega
    rw [if_neg h1, if_pos (by omega)]; omega
  · rw [if_neg h, if_neg (by omega), if_neg (by omega), if_neg (by omega), if_neg (by omega)]
theorem hd_w : ∀ k, k < 4 → 8 + k < 29 ∧ tcv (8 + k) = wrd3 k := by
  have h : ∀ k : Fin 4, 8 + k.1 < 29 ∧ tcv (8 + k.1) = wrd3 k.1 := by decide
  exact fun k hk => h ⟨k, hk⟩
theorem PS.kl {s : PT} (h : PS o t n I0 L0 I L b s) (hK : KL L0 o) : KL L o := by
  obtain ⟨k1, k2, k3, k4, k5⟩ := hK
  have e := h.2.2.2.2.2.2.2.2.2.2.1
  unfold KL
  rw [e _ (by omega), e _ (by omega), e _ (by omega), e _ (by omega), e _ (by omega)]
  exact ⟨k1, k2, k3, k4, k5⟩
theorem lp_rl1 (h12 : Lay12 E S o) {Q : QT} (hT : TK o t n I L p) (hK : KL L o) (hk : V E kX12_readLaw (rmOf 7 0 0) Q 0 0 S I L 34 [(0, .ref o), (1, .int (pred1 (itk (fun k => 8 + k) (tc t n p) 4))), (2, .int (nI 4))] []) : V E kX12_readLaw (rmOf 7 0 0) Q 0 0 S I L 0 [(0, .ref o)] [] := by
  refine V_iconst (pc := 0) (v := (-1)) dX12_readLaw_0 (by decide) ?_
  refine V_istore_n (pc := 1) (ls' := [(0, _), (1, _)]) dX12_readLaw_1 (by decide) rfl ?_
  refine V_iconst (pc := 2) (v := nI 0) dX12_readLaw_2 (by decide) ?_
  refine V_istore_n (pc := 3) (ls' := [(0, _), (1, _), (2, _)]) dX12_readLaw_3 (by decide) rfl ?_
  refine loopUp (P := fun j => V E kX12_readLaw (rmOf 7 0 0) Q 0 0 S I L 4 [(0, .ref o), (1, .int (pred1 (itk (fun k => 8 + k) (tc t n p) j))), (2, .int (nI j))] []) (n := 4) ?_ ?_ 0 (by omega)
  · skip
    refine V_iload_n (pc := 4) dX12_readLaw_4 rfl ?_
    refine V_iconst (pc := 5) (v := nI 4) dX12_readLaw_5 (by decide) ?_
    refine V_icmp_geN (pc := 6) (tgt := 34) dX12_readLaw_6 (by decide) (by omega) (by omega) (fun c6 => ?_) (fun n6 => absurd n6 (by omega))
    exact hk
  · intro j hj ih
    rw [itk_s _ _ j] at ih
    refine V_iload_n (pc := 4) dX12_readLaw_4 rfl ?_
    refine V_iconst (pc := 5) (v := nI 4) dX12_readLaw_5 (by decide) ?_
    refine V_icmp_geN (pc := 6) (tgt := 34) dX12_readLaw_6 (by decide) (by omega) (by omega) (fun c6 => absurd c6 (by omega)) (fun n6 => ?_)
    refine V_aload_n (pc := 9) dX12_readLaw_9 rfl ?_
    refine V_aload_n (pc := 10) dX12_readLaw_10 rfl ?_
    refine V_getR (pc := 11) 12 33 dX12_readLaw_11 flX12_98 (by decide) h12.o h12.R33 ?_
    refine V_iload_n (pc := 14) dX12_readLaw_14 rfl ?_
    refine V_laloadE (pc := 15) dX12_readLaw_15 h12.A33 (by first | decide | omega) (by omega) (hK.2.2.1 j hj) ?_
    refine V_callVd (pc := 16) (ci := 12) (c_X12_isWord h12 hT (hd_w j hj).1 (hd_w j hj).2) dX12_readLaw_16 mlX12_331 mkX12_isWord rfl rfl h12.o ⟨by decide, rfl⟩ ⟨Nat.le_of_ble_eq_true rfl, Nat.le_of_ble_eq_true rfl⟩ (Nat.le_of_ble_eq_true rfl) ⟨Nat.le_of_ble_eq_true rfl, Nat.le_of_ble_eq_true rfl⟩ ?_
    refine V_if_eqB (pc := 19) (tgt := 26) dX12_readLaw_19 (by decide) (fun c19 => ?_) (fun n19 => ?_)
    · skip
      rw [if_neg (of_decide_eq_false c19)] at ih
      refine V_iload_n (pc := 26) dX12_readLaw_26 rfl ?_
      refine V_istore_n (pc := 27) (ls' := [(0, _), (1, _), (2, _)]) dX12_readLaw_27 (by decide) rfl ?_
      refine V_iinc1 (pc := 28) (ls' := [(0, _), (1, _), (2, _)]) dX12_readLaw_28 rfl (by decide) rfl ?_
      refine V_goto (pc := 31) (tgt := 4) dX12_readLaw_31 (by decide) ?_
      exact ih
    · skip
      rw [if_pos (of_decide_eq_true n19), pred1_s] at ih
      refine V_iload_n (pc := 22) dX12_readLaw_22 rfl ?_
      refine V_goto (pc := 23) (tgt := 27) dX12_readLaw_23 (by decide) ?_
      refine V_istore_n (pc := 27) (ls' := [(0, _), (1, _), (2, _)]) dX12_readLaw_27 (by decide) rfl ?_
      refine V_iinc1 (pc := 28) (ls' := [(0, _), (1, _), (2, _)]) dX12_readLaw_28 rfl (by decide) rfl ?_
      refine V_goto (pc := 31) (tgt := 4) dX12_readLaw_31 (by decide) ?_
      exact ih
def FZ (a q : Nat) (I2 I : IT) : Prop := (∀ x, x ≠ a → I2 x = I x) ∧ ∀ i, i < q → I2 a i = I a i
theorem lp_rl2 (h12 : Lay12 E S o) {Q : QT} {a1 : Int32} {k : Nat} (hk12 : k < 12) (hk : ∀ I2, FZ (o + 10) (8 * k) I2 I → V E kX12_readLaw (rmOf 7 0 0) Q 0 0 S I2 L 96 [(0, .ref o), (1, .int a1), (2, .int (nI (8 * k))), (3, .int (nI 8))] []) : ∀ (m j : Nat) (I2 : IT), j + m = 8 → FZ (o + 10) (8 * k) I2 I → V E kX12_readLaw (rmOf 7 0 0) Q 0 0 S I2 L 75 [(0, .ref o), (1, .int a1), (2, .int (nI (8 * k))), (3, .int (nI j))] [] := by
  intro m
  induction m with
  | zero =>
    intro j I2 hj hZ
    have e : j = 8 := by omega
    subst e
    refine V_iload_n (pc := 75) dX12_readLaw_75 rfl ?_
    refine V_bipush (pc := 76) (v := nI 8) dX12_readLaw_76 (by decide) ?_
    refine V_icmp_geN (pc := 78) (tgt := 96) dX12_readLaw_78 (by decide) (by omega) (by omega) (fun c78 => ?_) (fun n78 => absurd n78 (by omega))
    exact hk I2 hZ
  | succ m ih =>
    intro j I2 hj hZ
    refine V_iload_n (pc := 75) dX12_readLaw_75 rfl ?_
    refine V_bipush (pc := 76) (v := nI 8) dX12_readLaw_76 (by decide) ?_
    refine V_icmp_geN (pc := 78) (tgt := 96) dX12_readLaw_78 (by decide) (by omega) (by omega) (fun c78 => absurd c78 (by omega)) (fun n78 => ?_)
    refine V_aload_n (pc := 81) dX12_readLaw_81 rfl ?_
    refine V_getR (pc := 82) 12 22 dX12_readLaw_82 flX12_42 (by decide) h12.o h12.R22 ?_
    refine V_iload_n (pc := 85) dX12_readLaw_85 rfl ?_
    refine V_iload_n (pc := 86) dX12_readLaw_86 rfl ?_
    refine V_iaddN (pc := 87) dX12_readLaw_87 ?_
    refine V_iconst (pc := 88) (v := nI 0) dX12_readLaw_88 (by decide) ?_
    refine V_iastore (pc := 89) dX12_readLaw_89 h12.A22 (by first | decide | omega) (by omega) ?_
    refine V_iinc1 (pc := 90) (ls' := [(0, _), (1, _), (2, _), (3, _)]) dX12_readLaw_90 rfl (by decide) rfl ?_
    refine V_goto (pc := 93) (tgt := 75) dX12_readLaw_93 (by decide) ?_
    refine ih (j + 1) _ (by omega) ⟨fun x hx => ?_, fun i hi => ?_⟩
    · rw [up2_row hx]; exact hZ.1 x hx
    · rw [up2_nej (by omega)]; exact hZ.2 i hi
end PJ
