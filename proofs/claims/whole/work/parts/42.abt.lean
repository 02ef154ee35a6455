/-! THE REFERENCE: steady, about -/
noncomputable def stdM (law : LawT) (q : Nat → Nat) : Nat → Nat := Classical.epsilon (fun M => BestM (q 0) (q 1) (mayq law q) (difq law q) (lik law q) M)
theorem stdM_eq {law : LawT} {q : Nat → Nat} {M : Nat → Nat} (h : BestM (q 0) (q 1) (mayq law q) (difq law q) (lik law q) M) : ∀ b, b < q 0 → M b = stdM law q b := h.uni (Classical.epsilon_spec (p := fun M => BestM (q 0) (q 1) (mayq law q) (difq law q) (lik law q) M) ⟨M, h⟩)
noncomputable def spSteady (A : AT) (x : Int32) : Int32 := if bnd x (aq A 0) = true then pred1 (stdM (lwf A) (aq A) (cln x)) else -1
section MJ3
variable {E : EnT} {S : ST} {I : IT} {L : LT} {o : Nat} {A : AT}
theorem TwM.nr {law : LawT} {q : Nat → Nat} (h : TwM I o law q (q 0) 0) : NrM I o (q 0) (q 1) (mayq law q) (fun b s => !mayq law q b s) (difq law q) (lik law q) := fun b s hb hs => by
  have h1 := h b s hs (Or.inl hb)
  refine ⟨fun hm => ?_, h1.2⟩
  rw [h1.1, offI, if_pos hm]
def FrS (o : Nat) (I' I : IT) (L' L : LT) : Prop := (∀ a, a ≠ o → a ≠ o + 22 → a ≠ o + 23 → a ≠ o + 24 → a ≠ o + 25 → I' a = I a) ∧ (∀ i, i ≠ 34 → i ≠ 38 → I' o i = I o i) ∧ TsL o L' L
theorem FrS.mr {I2 : IT} {L2 : LT} (g : FrS o I2 I L2 L) (hM : MR o I L A) : MR o I2 L2 A := hM.dead ⟨fun a ha => g.1 a (by simp at ha; omega) (by simp at ha; omega) (by simp at ha; omega) (by simp at ha; omega) (by simp at ha; omega), fun i hi => g.2.1 i (by simp at hi; omega) (by simp at hi; omega), fun a ha => g.2.2.1 a (by simp at ha; omega) (by simp at ha; omega) (by simp at ha; omega)⟩
theorem FrS.frm {I2 : IT} {L2 : LT} (h : FrS o I2 I L2 L) : FrM o I2 I L2 L := fun a ha => ⟨h.1 a (by omega) (by omega) (by omega) (by omega) (by omega), h.2.2.1 a (by omega) (by omega) (by omega)⟩
theorem c_X12_laySteady (h12 : Lay12 E S o) (hM : MR o I L A) (hA : wfA A) : C E kX12_laySteady 8 0 0 [.ref o] S I L (fun r S' I' L' => r = none ∧ S = S' ∧ FrS o I' I L' L ∧ ∀ b, b < aq A 0 → I' (o + 24) b = pred1 (stdM (lwf A) (aq A) b)) := by
  have hq := hA.q
  refine C_of (by decide) (Nat.le_of_ble_eq_true rfl) ?_
  refine V_aload_n (pc := 0) dX12_laySteady_0 rfl ?_
  refine V_callV (pc := 1) (ci := 12) (c_X12_layTwos h12 hM hA) dX12_laySteady_1 mlX12_488 mkX12_layTwos rfl rfl h12.o ⟨by decide, rfl⟩ ⟨Nat.le_of_ble_eq_true rfl, Nat.le_of_ble_eq_true rfl⟩ (Nat.le_of_ble_eq_true rfl) ⟨Nat.le_of_ble_eq_true rfl, Nat.le_of_ble_eq_true rfl⟩ (fun r S' I' L' hp => ?_)
  obtain ⟨rfl, rfl, hf, ht⟩ := hp
  refine V_iconst (pc := 4) (v := nI 1) dX12_laySteady_4 (by decide) ?_
  refine V_istore_n (pc := 5) (ls' := [(0, _), (1, _)]) dX12_laySteady_5 (by decide) rfl ?_
  refine lp_std h12 (hf.mr hM).row hq (fun b s hs => difq_le hq hs) (fun b s => lik_le _ _ _ _) (fun I2 M a2 hB hb => ?_) _ _ I' (Nat.lt_succ_self _) (fun _ _ _ => rfl) ht.nr Rinv.start
  exact ⟨rfl, rfl, ⟨fun a b1 b2 b3 b4 b5 => by rw [a2 a b4 b5]; exact hf.1 a b1 b2 b3 b5, fun i i1 i2 => by rw [a2 o (by omega) (by omega)]; exact hf.2.1 i i1 i2, hf.2.2⟩, fun b hb2 => by rw [hb b hb2, stdM_eq hB b hb2]⟩
theorem c_X12_steady (h12 : Lay12 E S o) (hM : MR o I L A) (hA : wfA A) {x : Int32} : Cm E kX12_steady 9 [.ref o, .int x] S I L o (.int (spSteady A x)) A := by
  have hq := hA.q
  have hnb := hq.nb
  refine C_of (by decide) (Nat.le_of_ble_eq_true rfl) ?_
  refine V_aload_n (pc := 0) dX12_steady_0 rfl ?_
  refine V_iconst (pc := 1) (v := nI 0) dX12_steady_1 (by decide) ?_
  refine V_putI (pc := 2) 12 0 dX12_steady_2 flX12_175 (by decide) (by decide) (Or.inl rfl) rfl rfl h12.o ?_
  have hM := hM.thrown (v := nI 0)
  have hF : FrM o (up2 I o 0 (nI 0)) I L L := FrM.rf.up (by omega)
  generalize up2 I o 0 (nI 0) = I0 at hM hF ⊢
  have hr := hM.row
  refine V_aload_n (pc := 5) dX12_steady_5 rfl ?_
  refine V_iload_n (pc := 6) dX12_steady_6 rfl ?_
  refine V_callVd (pc := 7) (ci := 12) (c_X12_isBox (by first | assumption | omega | exact h12) (by first | assumption | omega | exact h12) (by first | assumption | omega | exact h12)) dX12_steady_7 mlX12_213 mkX12_isBox rfl rfl h12.o ⟨by decide, rfl⟩ ⟨Nat.le_of_ble_eq_true rfl, Nat.le_of_ble_eq_true rfl⟩ (Nat.le_of_ble_eq_true rfl) ⟨Nat.le_of_ble_eq_true rfl, Nat.le_of_ble_eq_true rfl⟩ ?_
  refine V_if_neB (pc := 10) (tgt := 15) dX12_steady_10 (by decide) (fun c10 => ?_) (fun n10 => ?_)
  · skip
    rw [spSteady, if_pos c10]
    obtain ⟨b, hb, hx⟩ := bnd_ex (by omega) c10
    subst hx
    rw [cln_nI (by omega)]
    refine V_aload_n (pc := 15) dX12_steady_15 rfl ?_
    refine V_callV (pc := 16) (ci := 12) (c_X12_laySteady h12 hM hA) dX12_steady_16 mlX12_497 mkX12_laySteady rfl rfl h12.o ⟨by decide, rfl⟩ ⟨Nat.le_of_ble_eq_true rfl, Nat.le_of_ble_eq_true rfl⟩ (Nat.le_of_ble_eq_true rfl) ⟨Nat.le_of_ble_eq_true rfl, Nat.le_of_ble_eq_true rfl⟩ (fun r S' I' L' hp => ?_)
    obtain ⟨rfl, rfl, hf, ht⟩ := hp
    refine V_aload_n (pc := 19) dX12_steady_19 rfl ?_
    refine V_getR (pc := 20) 12 44 dX12_steady_20 flX12_119 (by decide) h12.o h12.R44 ?_
    refine V_iload_n (pc := 23) dX12_steady_23 rfl ?_
    refine V_ialoadE (pc := 24) dX12_steady_24 h12.A44 (by first | decide | omega) (by omega) (ht b hb) ?_
    refine V_iret (pc := 25) dX12_steady_25 rfl (by first | decide | omega) (by first | decide | omega) ?_
    exact ⟨rfl, rfl, hf.mr hM, FrM.tr hf.frm hF⟩
  · skip
    refine V_iconst (pc := 13) (v := (-1)) dX12_steady_13 (by decide) ?_
    refine V_iret (pc := 14) dX12_steady_14 rfl (by first | decide | omega) (by first | decide | omega) ?_
    rw [spSteady, if_neg (by rw [n10]; decide)]
    exact ⟨rfl, rfl, hM, hF⟩
/-! about: of most couples, the least differences -/
def cas (law : LawT) (q : Nat → Nat) (d tk b s : Nat) : Bool := mayq law q b s && (decide (difq law q b s ≤ d) && decide (tk / 2 ^ s % 2 = 0))
def max2 (x y : Nat) : Nat := if x < y then y else x
def abf (law : LawT) (q : Nat → Nat) (d tk b : Nat) (nx : Nat → Nat) : Nat → Nat | 0 => nx tk | s + 1 => if cas law q d tk b s = true then max2 (abf law q d tk b nx s) (1000 - difq law q b s + nx (tk ||| 2 ^ s)) else abf law q d tk b nx s
def abd (law : LawT) (q : Nat → Nat) (d : Nat) : Nat → Nat → Nat | 0 => fun _ => 0 | m + 1 => fun tk => abf law q d tk (q 0 - 1 - m) (abd law q d m) (q 1)
theorem abf_le {law : LawT} {q : Nat → Nat} {d tk b : Nat} {nx : Nat → Nat} {c : Nat} (h : ∀ t, nx t ≤ c) : ∀ s, abf law q d tk b nx s ≤ c + 1000
  | 0 => by have := h tk; show nx tk ≤ _; omega
  | s + 1 => by
    have h1 := abf_le (law := law) (q := q) (d := d) (tk := tk) (b := b) h s
    have h2 := h (tk ||| 2 ^ s)
    unfold abf max2
    split
    · split <;> omega
    · exact h1
theorem abd_le (law : LawT) (q : Nat → Nat) (d : Nat) : ∀ m t, abd law q d m t ≤ 1000 * m
  | 0, _ => Nat.le_refl _
  | m + 1, t => by
    have h := abf_le (law := law) (q := q) (d := d) (tk := t) (b := q 0 - 1 - m) (abd_le law q d m) (q 1)
    show abf _ _ _ _ _ _ _ ≤ _
    omega
theorem or64 {t s : Nat} (ht : t < 64) (hs : s < 6) : t ||| 2 ^ s < 64 := Nat.or_lt_two_pow (n := 6) ht (Nat.pow_lt_pow_right (by omega) hs)
theorem c_X12_withSuitor (h12 : Lay12 E S o) {law : LawT} {q : Nat → Nat} {b tk s d v : Nat} (hq : wq q) (hb : b < 6) (ht : tk < 64) (hs : s < 6) (hd : d < 61) (h22 : I (o + 22) (6 * b + s) = offI law q b s) (h26 : I (o + 26) (64 * (b + 1) + (tk ||| 2 ^ s)) = nI v) : Cd E kX12_withSuitor 1 0 0 [.ref o, .int (nI b), .int (nI tk), .int (nI s), .int (nI d)] S I L (.int (if cas law q d tk b s = true then nI (1000 - difq law q b s + v) else -100000000)) S I L := by
  have hdf := difq_le (law := law) (b := b) hq hs
  have ho := or64 ht hs
  have hp := p64 (show s ≤ 6 by omega)
  refine C_of (by decide) (Nat.le_of_ble_eq_true rfl) ?_
  by_cases hm : mayq law q b s = true
  · rw [offI, if_pos hm] at h22
    refine V_aload_n (pc := 0) dX12_withSuitor_0 rfl ?_
    refine V_getR (pc := 1) 12 42 dX12_withSuitor_1 flX12_113 (by decide) h12.o h12.R42 ?_
    refine V_bipush (pc := 4) (v := nI 6) dX12_withSuitor_4 (by decide) ?_
    refine V_iload_n (pc := 6) dX12_withSuitor_6 rfl ?_
    refine V_imulN (pc := 7) dX12_withSuitor_7 ?_
    refine V_iload_n (pc := 8) dX12_withSuitor_8 rfl ?_
    refine V_iaddN (pc := 9) dX12_withSuitor_9 ?_
    refine V_ialoadE (pc := 10) dX12_withSuitor_10 h12.A42 (by first | decide | omega) (by omega) (h22) ?_
    refine V_istore (pc := 11) (ls' := [(0, _), (1, _), (2, _), (3, _), (4, _), (5, _)]) dX12_withSuitor_11 (by decide) rfl ?_
    refine V_iload (pc := 13) dX12_withSuitor_13 rfl ?_
    refine V_iconst (pc := 15) (v := (-1)) dX12_withSuitor_15 (by decide) ?_
    refine V_icmp_eq (pc := 16) (tgt := 34) dX12_withSuitor_16 (by decide) (fun c16 => absurd c16 (by exact fun z => absurd (by rw [z]; decide : nI (difq law q b s) < 0) (nI_pos (by omega)))) (fun n16 => ?_)
    refine V_iload (pc := 19) dX12_withSuitor_19 rfl ?_
    refine V_iload (pc := 21) dX12_withSuitor_21 rfl ?_
    refine V_icmp_gtN (pc := 23) (tgt := 34) dX12_withSuitor_23 (by decide) (by omega) (by omega) (fun c23 => ?_) (fun n23 => ?_)
    · skip
      first
      | (rw [if_neg (by unfold cas; rw [decide_eq_false (show ¬ difq law q b s ≤ d by omega)]; simp)])
      | (rw [if_neg (by unfold cas; rw [decide_eq_false (p := tk / 2 ^ s % 2 = 0) (by have := of_decide_eq_true n31; omega)]; simp)])
      refine V_ldcw (pc := 34) dX12_withSuitor_34 coX12_500 ?_
      refine V_goto (pc := 37) (tgt := 64) dX12_withSuitor_37 (by decide) ?_
      refine V_iret (pc := 64) dX12_withSuitor_64 rfl (by first | decide | omega) (by first | decide | omega) ?_
      exact ⟨rfl, rfl, rfl, rfl⟩
    · skip
      refine V_iload_n (pc := 26) dX12_withSuitor_26 rfl ?_
      refine V_iload_n (pc := 27) dX12_withSuitor_27 rfl ?_
      refine V_callSd (pc := 28) (c_X12_is (by first | assumption | omega) (by first | assumption | omega)) dX12_withSuitor_28 mlX12_458 mkX12_is rfl rfl ⟨Nat.le_of_ble_eq_true rfl, Nat.le_of_ble_eq_true rfl⟩ (Nat.le_of_ble_eq_true rfl) ⟨Nat.le_of_ble_eq_true rfl, Nat.le_of_ble_eq_true rfl⟩ ?_
      refine V_if_eqB (pc := 31) (tgt := 40) dX12_withSuitor_31 (by decide) (fun c31 => ?_) (fun n31 => ?_)
      · skip
        rw [if_pos (by unfold cas; rw [hm, decide_eq_true (show difq law q b s ≤ d by omega), decide_eq_true (p := tk / 2 ^ s % 2 = 0) (by have := of_decide_eq_false c31; omega)]; rfl)]
        refine V_sipush (pc := 40) (v := nI 1000) dX12_withSuitor_40 (by decide) ?_
        refine V_iload (pc := 43) dX12_withSuitor_43 rfl ?_
        refine V_isubN (pc := 45) dX12_withSuitor_45 (by omega) ?_
        refine V_aload_n (pc := 46) dX12_withSuitor_46 rfl ?_
        refine V_getR (pc := 47) 12 46 dX12_withSuitor_47 flX12_125 (by decide) h12.o h12.R46 ?_
        refine V_bipush (pc := 50) (v := nI 64) dX12_withSuitor_50 (by decide) ?_
        refine V_iload_n (pc := 52) dX12_withSuitor_52 rfl ?_
        refine V_iconst (pc := 53) (v := nI 1) dX12_withSuitor_53 (by decide) ?_
        refine V_iaddN (pc := 54) dX12_withSuitor_54 ?_
        refine V_imulN (pc := 55) dX12_withSuitor_55 ?_
        refine V_iload_n (pc := 56) dX12_withSuitor_56 rfl ?_
        refine V_iconst (pc := 57) (v := nI 1) dX12_withSuitor_57 (by decide) ?_
        refine V_iload_n (pc := 58) dX12_withSuitor_58 rfl ?_
        refine V_ishlN (pc := 59) dX12_withSuitor_59 (by omega) (by omega) ?_
        refine V_iorN (pc := 60) dX12_withSuitor_60 ?_
        refine V_iaddN (pc := 61) dX12_withSuitor_61 ?_
        refine V_ialoadE (pc := 62) dX12_withSuitor_62 h12.A46 (by first | decide | omega) (by rw [Nat.one_mul]; omega) (show I (o + 26) _ = nI v by rw [Nat.one_mul]; exact h26) ?_
        refine V_iaddN (pc := 63) dX12_withSuitor_63 ?_
        refine V_iret (pc := 64) dX12_withSuitor_64 rfl (by first | decide | omega) (by first | decide | omega) ?_
        exact ⟨rfl, rfl, rfl, rfl⟩
      · skip
        first
        | (rw [if_neg (by unfold cas; rw [decide_eq_false (show ¬ difq law q b s ≤ d by omega)]; simp)])
        | (rw [if_neg (by unfold cas; rw [decide_eq_false (p := tk / 2 ^ s % 2 = 0) (by have := of_decide_eq_true n31; omega)]; simp)])
        refine V_ldcw (pc := 34) dX12_withSuitor_34 coX12_500 ?_
        refine V_goto (pc := 37) (tgt := 64) dX12_withSuitor_37 (by decide) ?_
        refine V_iret (pc := 64) dX12_withSuitor_64 rfl (by first | decide | omega) (by first | decide | omega) ?_
        exact ⟨rfl, rfl, rfl, rfl⟩
  · rw [offI, if_neg hm] at h22
    rw [if_neg (by unfold cas; rw [Bool.eq_false_iff.mpr hm]; simp)]
    refine V_aload_n (pc := 0) dX12_withSuitor_0 rfl ?_
    refine V_getR (pc := 1) 12 42 dX12_withSuitor_1 flX12_113 (by decide) h12.o h12.R42 ?_
    refine V_bipush (pc := 4) (v := nI 6) dX12_withSuitor_4 (by decide) ?_
    refine V_iload_n (pc := 6) dX12_withSuitor_6 rfl ?_
    refine V_imulN (pc := 7) dX12_withSuitor_7 ?_
    refine V_iload_n (pc := 8) dX12_withSuitor_8 rfl ?_
    refine V_iaddN (pc := 9) dX12_withSuitor_9 ?_
    refine V_ialoadE (pc := 10) dX12_withSuitor_10 h12.A42 (by first | decide | omega) (by omega) (h22) ?_
    refine V_istore (pc := 11) (ls' := [(0, _), (1, _), (2, _), (3, _), (4, _), (5, _)]) dX12_withSuitor_11 (by decide) rfl ?_
    refine V_iload (pc := 13) dX12_withSuitor_13 rfl ?_
    refine V_iconst (pc := 15) (v := (-1)) dX12_withSuitor_15 (by decide) ?_
    refine V_icmp_eq (pc := 16) (tgt := 34) dX12_withSuitor_16 (by decide) (fun c16 => ?_) (fun n16 => absurd n16 (by exact fun z => z rfl))
    refine V_ldcw (pc := 34) dX12_withSuitor_34 coX12_500 ?_
    refine V_goto (pc := 37) (tgt := 64) dX12_withSuitor_37 (by decide) ?_
    refine V_iret (pc := 64) dX12_withSuitor_64 rfl (by first | decide | omega) (by first | decide | omega) ?_
    exact ⟨rfl, rfl, rfl, rfl⟩
/-- the rows of the boxes from j on, and of box j - 1 the places ahead of t -/
def AbM (I : IT) (o : Nat) (law : LawT) (q : Nat → Nat) (d j t : Nat) : Prop := ∀ b u, b ≤ q 0 → u < 64 → (j ≤ b ∨ (b + 1 = j ∧ u < t)) → I (o + 26) (64 * b + u) = nI (abd law q d (q 0 - b) u)
theorem lp_ab1 (h12 : Lay12 E S o) {Q : QT} {law : LawT} {q : Nat → Nat} {b tk d : Nat} (hr : RowM I (o + 2) q) (hq : wq q) (hb : b < q 0) (ht : tk < 64) (hd : d < 61) (h22 : ∀ s, s < q 1 → I (o + 22) (6 * b + s) = offI law q b s) (h26 : ∀ u, u < 64 → I (o + 26) (64 * (b + 1) + u) = nI (abd law q d (q 0 - (b + 1)) u)) (hk : V E kX12_layAbout (rmOf 8 0 0) Q 0 0 S I L 109 [(0, .ref o), (1, .int (nI d)), (2, .int (nI b)), (3, .int (nI tk)), (4, .int (nI (abd law q d (q 0 - b) tk))), (5, .int (nI (q 1)))] []) : V E kX12_layAbout (rmOf 8 0 0) Q 0 0 S I L 55 [(0, .ref o), (1, .int (nI d)), (2, .int (nI b)), (3, .int (nI tk)), (4, .int (nI (abd law q d (q 0 - (b + 1)) tk))), (5, .int (nI 0))] [] := by
  have hnb := hq.nb
  have hns := hq.ns
  have hle := abd_le law q d (q 0 - (b + 1))
  have e1 : q 0 - b = (q 0 - (b + 1)) + 1 := by omega
  have e2 : q 0 - 1 - (q 0 - (b + 1)) = b := by omega
  have e3 : abd law q d (q 0 - b) tk = abf law q d tk b (abd law q d (q 0 - (b + 1))) (q 1) := by rw [e1]; show abf _ _ _ _ _ _ _ = _; rw [e2]
  rw [e3] at hk
  generalize hnx : abd law q d (q 0 - (b + 1)) = nx at hk hle h26 ⊢
  refine loopUp (P := fun s => V E kX12_layAbout (rmOf 8 0 0) Q 0 0 S I L 55 [(0, .ref o), (1, .int (nI d)), (2, .int (nI b)), (3, .int (nI tk)), (4, .int (nI (abf law q d tk b nx s))), (5, .int (nI s))] []) (n := q 1) ?_ ?_ 0 (by omega)
  · skip
    refine V_iload (pc := 55) dX12_layAbout_55 rfl ?_
    refine V_aload_n (pc := 57) dX12_layAbout_57 rfl ?_
    refine V_getR (pc := 58) 12 3 dX12_layAbout_58 flX12_13 (by decide) h12.o h12.R3 ?_
    refine V_iconst (pc := 61) (v := nI 1) dX12_layAbout_61 (by decide) ?_
    refine V_ialoadE (pc := 62) dX12_layAbout_62 h12.A3 (by first | decide | omega) (by omega) (hr.n (by omega)) ?_
    refine V_icmp_geN (pc := 63) (tgt := 109) dX12_layAbout_63 (by decide) (by omega) (by omega) (fun c63 => ?_) (fun n63 => absurd n63 (by omega))
    exact hk
  · intro s hs ih
    have hfl := abf_le (law := law) (q := q) (d := d) (tk := tk) (b := b) (c := 6000) (fun t => Nat.le_trans (hle t) (by omega)) s
    have hvl := hle (tk ||| 2 ^ s)
    rw [abf] at ih
    have hc := c_X12_withSuitor (E := E) (S := S) (I := I) (L := L) h12 hq (show b < 6 by omega) ht (show s < 6 by omega) hd (h22 s hs) (h26 _ (or64 ht (by omega)))
    by_cases hca : cas law q d tk b s = true
    · rw [if_pos hca] at ih hc
      rw [max2] at ih
      refine V_iload (pc := 55) dX12_layAbout_55 rfl ?_
      refine V_aload_n (pc := 57) dX12_layAbout_57 rfl ?_
      refine V_getR (pc := 58) 12 3 dX12_layAbout_58 flX12_13 (by decide) h12.o h12.R3 ?_
      refine V_iconst (pc := 61) (v := nI 1) dX12_layAbout_61 (by decide) ?_
      refine V_ialoadE (pc := 62) dX12_layAbout_62 h12.A3 (by first | decide | omega) (by omega) (hr.n (by omega)) ?_
      refine V_icmp_geN (pc := 63) (tgt := 109) dX12_layAbout_63 (by decide) (by omega) (by omega) (fun c63 => absurd c63 (by omega)) (fun n63 => ?_)
      refine V_iload_n (pc := 66) dX12_layAbout_66 rfl ?_
      refine V_aload_n (pc := 67) dX12_layAbout_67 rfl ?_
      refine V_getR (pc := 68) 12 3 dX12_layAbout_68 flX12_13 (by decide) h12.o h12.R3 ?_
      refine V_iconst (pc := 71) (v := nI 0) dX12_layAbout_71 (by decide) ?_
      refine V_ialoadE (pc := 72) dX12_layAbout_72 h12.A3 (by first | decide | omega) (by omega) (hr.n (by omega)) ?_
      refine V_icmp_geN (pc := 73) (tgt := 109) dX12_layAbout_73 (by decide) (by omega) (by omega) (fun c73 => absurd c73 (by omega)) (fun n73 => ?_)
      refine V_aload_n (pc := 76) dX12_layAbout_76 rfl ?_
      refine V_iload_n (pc := 77) dX12_layAbout_77 rfl ?_
      refine V_iload_n (pc := 78) dX12_layAbout_78 rfl ?_
      refine V_iload (pc := 79) dX12_layAbout_79 rfl ?_
      refine V_iload_n (pc := 81) dX12_layAbout_81 rfl ?_
      refine V_callVd (pc := 82) (ci := 12) hc dX12_layAbout_82 mlX12_501 mkX12_withSuitor rfl rfl h12.o ⟨by decide, rfl⟩ ⟨Nat.le_of_ble_eq_true rfl, Nat.le_of_ble_eq_true rfl⟩ (Nat.le_of_ble_eq_true rfl) ⟨Nat.le_of_ble_eq_true rfl, Nat.le_of_ble_eq_true rfl⟩ ?_
      refine V_istore (pc := 85) (ls' := [(0, _), (1, _), (2, _), (3, _), (4, _), (5, _), (6, _)]) dX12_layAbout_85 (by decide) rfl ?_
      refine V_iload (pc := 87) dX12_layAbout_87 rfl ?_
      refine V_iload (pc := 89) dX12_layAbout_89 rfl ?_
      refine V_icmp_leN (pc := 91) (tgt := 99) dX12_layAbout_91 (by decide) (by omega) (by omega) (fun c91 => ?_) (fun n91 => ?_)
      · skip
        rw [if_neg (by omega)] at ih
        refine V_iload (pc := 99) dX12_layAbout_99 rfl ?_
        refine V_istore (pc := 101) (ls' := [(0, _), (1, _), (2, _), (3, _), (4, _), (5, _), (6, _)]) dX12_layAbout_101 (by decide) rfl ?_
        refine V_loc [0, 1, 2, 3, 4, 5] rfl ?_
        refine V_iinc1 (pc := 103) (ls' := [(0, _), (1, _), (2, _), (3, _), (4, _), (5, _)]) dX12_layAbout_103 rfl (by decide) rfl ?_
        refine V_goto (pc := 106) (tgt := 55) dX12_layAbout_106 (by decide) ?_
        exact ih
      · skip
        rw [if_pos (by omega)] at ih
        refine V_iload (pc := 94) dX12_layAbout_94 rfl ?_
        refine V_goto (pc := 96) (tgt := 101) dX12_layAbout_96 (by decide) ?_
        refine V_istore (pc := 101) (ls' := [(0, _), (1, _), (2, _), (3, _), (4, _), (5, _), (6, _)]) dX12_layAbout_101 (by decide) rfl ?_
        refine V_loc [0, 1, 2, 3, 4, 5] rfl ?_
        refine V_iinc1 (pc := 103) (ls' := [(0, _), (1, _), (2, _), (3, _), (4, _), (5, _)]) dX12_layAbout_103 rfl (by decide) rfl ?_
        refine V_goto (pc := 106) (tgt := 55) dX12_layAbout_106 (by decide) ?_
        exact ih
    · rw [if_neg hca] at ih hc
      have hneg : (-100000000 : Int32) ≤ nI (abf law q d tk b nx s) := Int32.le_trans (by decide : (-100000000 : Int32) ≤ 0) (nI_pos' (by omega))
      refine V_iload (pc := 55) dX12_layAbout_55 rfl ?_
      refine V_aload_n (pc := 57) dX12_layAbout_57 rfl ?_
      refine V_getR (pc := 58) 12 3 dX12_layAbout_58 flX12_13 (by decide) h12.o h12.R3 ?_
      refine V_iconst (pc := 61) (v := nI 1) dX12_layAbout_61 (by decide) ?_
      refine V_ialoadE (pc := 62) dX12_layAbout_62 h12.A3 (by first | decide | omega) (by omega) (hr.n (by omega)) ?_
      refine V_icmp_geN (pc := 63) (tgt := 109) dX12_layAbout_63 (by decide) (by omega) (by omega) (fun c63 => absurd c63 (by omega)) (fun n63 => ?_)
      refine V_iload_n (pc := 66) dX12_layAbout_66 rfl ?_
      refine V_aload_n (pc := 67) dX12_layAbout_67 rfl ?_
      refine V_getR (pc := 68) 12 3 dX12_layAbout_68 flX12_13 (by decide) h12.o h12.R3 ?_
      refine V_iconst (pc := 71) (v := nI 0) dX12_layAbout_71 (by decide) ?_
      refine V_ialoadE (pc := 72) dX12_layAbout_72 h12.A3 (by first | decide | omega) (by omega) (hr.n (by omega)) ?_
      refine V_icmp_geN (pc := 73) (tgt := 109) dX12_layAbout_73 (by decide) (by omega) (by omega) (fun c73 => absurd c73 (by omega)) (fun n73 => ?_)
      refine V_aload_n (pc := 76) dX12_layAbout_76 rfl ?_
      refine V_iload_n (pc := 77) dX12_layAbout_77 rfl ?_
      refine V_iload_n (pc := 78) dX12_layAbout_78 rfl ?_
      refine V_iload (pc := 79) dX12_layAbout_79 rfl ?_
      refine V_iload_n (pc := 81) dX12_layAbout_81 rfl ?_
      refine V_callVd (pc := 82) (ci := 12) hc dX12_layAbout_82 mlX12_501 mkX12_withSuitor rfl rfl h12.o ⟨by decide, rfl⟩ ⟨Nat.le_of_ble_eq_true rfl, Nat.le_of_ble_eq_true rfl⟩ (Nat.le_of_ble_eq_true rfl) ⟨Nat.le_of_ble_eq_true rfl, Nat.le_of_ble_eq_true rfl⟩ ?_
      refine V_istore (pc := 85) (ls' := [(0, _), (1, _), (2, _), (3, _), (4, _), (5, _), (6, _)]) dX12_layAbout_85 (by decide) rfl ?_
      refine V_iload (pc := 87) dX12_layAbout_87 rfl ?_
      refine V_iload (pc := 89) dX12_layAbout_89 rfl ?_
      refine V_icmp_le (pc := 91) (tgt := 99) dX12_layAbout_91 (by decide) (fun c91 => ?_) (fun n91 => absurd n91 (by exact fun z => z hneg))
      refine V_iload (pc := 99) dX12_layAbout_99 rfl ?_
      refine V_istore (pc := 101) (ls' := [(0, _), (1, _), (2, _), (3, _), (4, _), (5, _), (6, _)]) dX12_layAbout_101 (by decide) rfl ?_
      refine V_loc [0, 1, 2, 3, 4, 5] rfl ?_
      refine V_iinc1 (pc := 103) (ls' := [(0, _), (1, _), (2, _), (3, _), (4, _), (5, _)]) dX12_layAbout_103 rfl (by decide) rfl ?_
      refine V_goto (pc := 106) (tgt := 55) dX12_layAbout_106 (by decide) ?_
      exact ih
theorem lp_ab2 (h12 : Lay12 E S o) {Q : QT} {I1 : IT} {law : LawT} {q : Nat → Nat} {b d : Nat} (hr : RowM I1 (o + 2) q) (hq : wq q) (hb : b ≤ q 0) (hd : d < 61) (h22 : ∀ b s, b < q 0 → s < q 1 → I1 (o + 22) (6 * b + s) = offI law q b s) (ha : ∀ a, a ≠ o + 26 → I a = I1 a) (hA : AbM I o law q d (b + 1) 0) (hk : ∀ I', (∀ a, a ≠ o + 26 → I' a = I1 a) → AbM I' o law q d b 0 → V E kX12_layAbout (rmOf 8 0 0) Q 0 0 S I' L 128 [(0, .ref o), (1, .int (nI d)), (2, .int (nI b)), (3, .int (nI 64))] []) : V E kX12_layAbout (rmOf 8 0 0) Q 0 0 S I L 17 [(0, .ref o), (1, .int (nI d)), (2, .int (nI b)), (3, .int (nI 0))] [] := by
  have hnb := hq.nb
  have hns := hq.ns
  have key : ∀ t, t ≤ 64 → ∀ I', (∀ a, a ≠ o + 26 → I' a = I1 a) → AbM I' o law q d (b + 1) t → V E kX12_layAbout (rmOf 8 0 0) Q 0 0 S I' L 17 [(0, .ref o), (1, .int (nI d)), (2, .int (nI b)), (3, .int (nI t))] [] := by
    refine loopUp ?_ ?_
    · intro I' ha' hA'
      refine V_iload_n (pc := 17) dX12_layAbout_17 rfl ?_
      refine V_bipush (pc := 18) (v := nI 64) dX12_layAbout_18 (by decide) ?_
      refine V_icmp_geN (pc := 20) (tgt := 128) dX12_layAbout_20 (by decide) (by omega) (by omega) (fun c20 => ?_) (fun n20 => absurd n20 (by omega))
      exact hk I' ha' (fun c u hc hu h => hA' c u hc hu (by omega))
    · intro t ht ih I' ha' hA'
      have hr' := hr.cg (ha' (o + 2) (by omega))
      have nxt : ∀ w, w = nI (abd law q d (q 0 - b) t) → ∀ v, V E kX12_layAbout (rmOf 8 0 0) Q 0 0 S I' L 109 [(0, .ref o), (1, .int (nI d)), (2, .int (nI b)), (3, .int (nI t)), (4, .int w), (5, .int v)] [] := by
        intro w hw v
        subst hw
        refine V_aload_n (pc := 109) dX12_layAbout_109 rfl ?_
        refine V_getR (pc := 110) 12 46 dX12_layAbout_110 flX12_125 (by decide) h12.o h12.R46 ?_
        refine V_bipush (pc := 113) (v := nI 64) dX12_layAbout_113 (by decide) ?_
        refine V_iload_n (pc := 115) dX12_layAbout_115 rfl ?_
        refine V_imulN (pc := 116) dX12_layAbout_116 ?_
        refine V_iload_n (pc := 117) dX12_layAbout_117 rfl ?_
        refine V_iaddN (pc := 118) dX12_layAbout_118 ?_
        refine V_iload (pc := 119) dX12_layAbout_119 rfl ?_
        refine V_iastore (pc := 121) dX12_layAbout_121 h12.A46 (by first | decide | omega) (by omega) ?_
        refine V_loc [0, 1, 2, 3] rfl ?_
        refine V_iinc1 (pc := 122) (ls' := [(0, _), (1, _), (2, _), (3, _)]) dX12_layAbout_122 rfl (by decide) rfl ?_
        refine V_goto (pc := 125) (tgt := 17) dX12_layAbout_125 (by decide) ?_
        refine ih _ (fun a h => by rw [up2_row h]; exact ha' a h) (fun c u hc hu h => ?_)
        by_cases e : c = b ∧ u = t
        · rw [e.1, e.2, up2_self]
        · rw [up2_nej (by omega)]; exact hA' c u hc hu (by omega)
      by_cases hbn : b = q 0
      · have e0 : abd law q d (q 0 - b) t = 0 := by rw [hbn, Nat.sub_self]; rfl
        rw [e0] at nxt
        refine V_iload_n (pc := 17) dX12_layAbout_17 rfl ?_
        refine V_bipush (pc := 18) (v := nI 64) dX12_layAbout_18 (by decide) ?_
        refine V_icmp_geN (pc := 20) (tgt := 128) dX12_layAbout_20 (by decide) (by omega) (by omega) (fun c20 => absurd c20 (by omega)) (fun n20 => ?_)
        refine V_iload_n (pc := 23) dX12_layAbout_23 rfl ?_
        refine V_aload_n (pc := 24) dX12_layAbout_24 rfl ?_
        refine V_getR (pc := 25) 12 3 dX12_layAbout_25 flX12_13 (by decide) h12.o h12.R3 ?_
        refine V_iconst (pc := 28) (v := nI 0) dX12_layAbout_28 (by decide) ?_
        refine V_ialoadE (pc := 29) dX12_layAbout_29 h12.A3 (by first | decide | omega) (by omega) (hr'.n (by omega)) ?_
        refine V_icmp_neN (pc := 30) (tgt := 37) dX12_layAbout_30 (by decide) (by omega) (by omega) (fun c30 => absurd c30 (by omega)) (fun n30 => ?_)
        refine V_iconst (pc := 33) (v := nI 0) dX12_layAbout_33 (by decide) ?_
        refine V_goto (pc := 34) (tgt := 50) dX12_layAbout_34 (by decide) ?_
        refine V_istore (pc := 50) (ls' := [(0, _), (1, _), (2, _), (3, _), (4, _)]) dX12_layAbout_50 (by decide) rfl ?_
        refine V_iconst (pc := 52) (v := nI 0) dX12_layAbout_52 (by decide) ?_
        refine V_istore (pc := 53) (ls' := [(0, _), (1, _), (2, _), (3, _), (4, _), (5, _)]) dX12_layAbout_53 (by decide) rfl ?_
        refine V_iload (pc := 55) dX12_layAbout_55 rfl ?_
        refine V_aload_n (pc := 57) dX12_layAbout_57 rfl ?_
        refine V_getR (pc := 58) 12 3 dX12_layAbout_58 flX12_13 (by decide) h12.o h12.R3 ?_
        refine V_iconst (pc := 61) (v := nI 1) dX12_layAbout_61 (by decide) ?_
        refine V_ialoadE (pc := 62) dX12_layAbout_62 h12.A3 (by first | decide | omega) (by omega) (hr'.n (by omega)) ?_
        refine V_icmp_geN (pc := 63) (tgt := 109) dX12_layAbout_63 (by decide) (by omega) (by omega) (fun c63 => ?_) (fun n63 => ?_)
        · skip
          exact nxt _ rfl _
        · skip
          refine V_iload_n (pc := 66) dX12_layAbout_66 rfl ?_
          refine V_aload_n (pc := 67) dX12_layAbout_67 rfl ?_
          refine V_getR (pc := 68) 12 3 dX12_layAbout_68 flX12_13 (by decide) h12.o h12.R3 ?_
          refine V_iconst (pc := 71) (v := nI 0) dX12_layAbout_71 (by decide) ?_
          refine V_ialoadE (pc := 72) dX12_layAbout_72 h12.A3 (by first | decide | omega) (by omega) (hr'.n (by omega)) ?_
          refine V_icmp_geN (pc := 73) (tgt := 109) dX12_layAbout_73 (by decide) (by omega) (by omega) (fun c73 => ?_) (fun n73 => absurd n73 (by omega))
          exact nxt _ rfl _
      · have h26 : ∀ u, u < 64 → I' (o + 26) (64 * (b + 1) + u) = nI (abd law q d (q 0 - (b + 1)) u) := fun u hu => hA' (b + 1) u (by omega) hu (by omega)
        refine V_iload_n (pc := 17) dX12_layAbout_17 rfl ?_
        refine V_bipush (pc := 18) (v := nI 64) dX12_layAbout_18 (by decide) ?_
        refine V_icmp_geN (pc := 20) (tgt := 128) dX12_layAbout_20 (by decide) (by omega) (by omega) (fun c20 => absurd c20 (by omega)) (fun n20 => ?_)
        refine V_iload_n (pc := 23) dX12_layAbout_23 rfl ?_
        refine V_aload_n (pc := 24) dX12_layAbout_24 rfl ?_
        refine V_getR (pc := 25) 12 3 dX12_layAbout_25 flX12_13 (by decide) h12.o h12.R3 ?_
        refine V_iconst (pc := 28) (v := nI 0) dX12_layAbout_28 (by decide) ?_
        refine V_ialoadE (pc := 29) dX12_layAbout_29 h12.A3 (by first | decide | omega) (by omega) (hr'.n (by omega)) ?_
        refine V_icmp_neN (pc := 30) (tgt := 37) dX12_layAbout_30 (by decide) (by omega) (by omega) (fun c30 => ?_) (fun n30 => absurd n30 (by omega))
        refine V_aload_n (pc := 37) dX12_layAbout_37 rfl ?_
        refine V_getR (pc := 38) 12 46 dX12_layAbout_38 flX12_125 (by decide) h12.o h12.R46 ?_
        refine V_bipush (pc := 41) (v := nI 64) dX12_layAbout_41 (by decide) ?_
        refine V_iload_n (pc := 43) dX12_layAbout_43 rfl ?_
        refine V_iconst (pc := 44) (v := nI 1) dX12_layAbout_44 (by decide) ?_
        refine V_iaddN (pc := 45) dX12_layAbout_45 ?_
        refine V_imulN (pc := 46) dX12_layAbout_46 ?_
        refine V_iload_n (pc := 47) dX12_layAbout_47 rfl ?_
        refine V_iaddN (pc := 48) dX12_layAbout_48 ?_
        refine V_ialoadE (pc := 49) dX12_layAbout_49 h12.A46 (by first | decide | omega) (by omega) (h26 t ht) ?_
        refine V_istore (pc := 50) (ls' := [(0, _), (1, _), (2, _), (3, _), (4, _)]) dX12_layAbout_50 (by decide) rfl ?_
        refine V_iconst (pc := 52) (v := nI 0) dX12_layAbout_52 (by decide) ?_
        refine V_istore (pc := 53) (ls' := [(0, _), (1, _), (2, _), (3, _), (4, _), (5, _)]) dX12_layAbout_53 (by decide) rfl ?_
        exact lp_ab1 h12 hr' hq (by omega) ht hd (fun s hs => by rw [ha' _ (by omega)]; exact h22 b s (by omega) hs) h26 (nxt _ rfl _)
  exact key 0 (by omega) I ha hA
theorem lp_ab3 (h12 : Lay12 E S o) {Q : QT} {I1 : IT} {law : LawT} {q : Nat → Nat} {d : Nat} (hr : RowM I1 (o + 2) q) (hq : wq q) (hd : d < 61) (h22 : ∀ b s, b < q 0 → s < q 1 → I1 (o + 22) (6 * b + s) = offI law q b s) (hk : ∀ I', (∀ a, a ≠ o + 26 → I' a = I1 a) → AbM I' o law q d 0 0 → V E kX12_layAbout (rmOf 8 0 0) Q 0 0 S I' L 134 [(0, .ref o), (1, .int (nI d)), (2, .int (-1))] []) : ∀ j, j ≤ q 0 + 1 → ∀ I', (∀ a, a ≠ o + 26 → I' a = I1 a) → AbM I' o law q d j 0 → V E kX12_layAbout (rmOf 8 0 0) Q 0 0 S I' L 11 [(0, .ref o), (1, .int (nI d)), (2, .int (pred1 j))] [] := by
  have hnb := hq.nb
  intro j
  induction j with
  | zero =>
    intro hj I' ha hA
    rw [pred1_0]
    refine V_iload_n (pc := 11) dX12_layAbout_11 rfl ?_
    refine V_if_lt (pc := 12) (tgt := 134) dX12_layAbout_12 (by decide) (fun c12 => ?_) (fun n12 => absurd n12 (by decide))
    exact hk I' ha hA
  | succ j ih =>
    intro hj I' ha hA
    rw [pred1_s]
    have ei : nI j + Int32.ofInt (-1) = pred1 j := by unfold pred1; rw [Int32.sub_eq_add_neg]; rfl
    refine V_iload_n (pc := 11) dX12_layAbout_11 rfl ?_
    refine V_if_ltN (pc := 12) (tgt := 134) dX12_layAbout_12 (by decide) (by omega) ?_
    refine V_iconst (pc := 15) (v := nI 0) dX12_layAbout_15 (by decide) ?_
    refine V_istore_n (pc := 16) (ls' := [(0, _), (1, _), (2, _), (3, _)]) dX12_layAbout_16 (by decide) rfl ?_
    refine lp_ab2 h12 hr hq (by omega) hd h22 ha hA (fun I2 a2 A2 => ?_)
    refine V_loc [0, 1, 2] rfl ?_
    refine V_iinc (pc := 128) (ls' := [(0, _), (1, _), (2, _)]) dX12_layAbout_128 rfl ei (by decide) rfl ?_
    refine V_goto (pc := 131) (tgt := 11) dX12_layAbout_131 (by decide) ?_
    exact ih (by omega) I2 a2 A2
def FrB (o : Nat) (I' I : IT) (L' L : LT) : Prop := (∀ a, a ≠ o → a ≠ o + 22 → a ≠ o + 23 → a ≠ o + 25 → a ≠ o + 26 → I' a = I a) ∧ (∀ i, i ≠ 34 → i ≠ 38 → I' o i = I o i) ∧ TsL o L' L
theorem FrB.mr {I2 : IT} {L2 : LT} (g : FrB o I2 I L2 L) (hM : MR o I L A) : MR o I2 L2 A := hM.dead ⟨fun a ha => g.1 a (by simp at ha; omega) (by simp at ha; omega) (by simp at ha; omega) (by simp at ha; omega) (by simp at ha; omega), fun i hi => g.2.1 i (by simp at hi; omega) (by simp at hi; omega), fun a ha => g.2.2.1 a (by simp at ha; omega) (by simp at ha; omega) (by simp at ha; omega)⟩
theorem FrB.frm {I2 : IT} {L2 : LT} (h : FrB o I2 I L2 L) : FrM o I2 I L2 L := fun a ha => ⟨h.1 a (by omega) (by omega) (by omega) (by omega) (by omega), h.2.2.1 a (by omega) (by omega) (by omega)⟩
theorem c_X12_layAbout (h12 : Lay12 E S o) (hM : MR o I L A) (hA : wfA A) {d : Nat} (hd : d < 61) : C E kX12_layAbout 8 0 0 [.ref o, .int (nI d)] S I L (fun r S' I' L' => r = none ∧ S = S' ∧ FrB o I' I L' L ∧ AbM I' o (lwf A) (aq A) d 0 0 ∧ ∀ b s, b < aq A 0 → s < aq A 1 → I' (o + 22) (6 * b + s) = offI (lwf A) (aq A) b s) := by
  have hq := hA.q
  have hnb := hq.nb
  refine C_of (by decide) (Nat.le_of_ble_eq_true rfl) ?_
  refine V_aload_n (pc := 0) dX12_layAbout_0 rfl ?_
  refine V_callV (pc := 1) (ci := 12) (c_X12_layTwos h12 hM hA) dX12_layAbout_1 mlX12_488 mkX12_layTwos rfl rfl h12.o ⟨by decide, rfl⟩ ⟨Nat.le_of_ble_eq_true rfl, Nat.le_of_ble_eq_true rfl⟩ (Nat.le_of_ble_eq_true rfl) ⟨Nat.le_of_ble_eq_true rfl, Nat.le_of_ble_eq_true rfl⟩ (fun r S' I' L' hp => ?_)
  obtain ⟨rfl, rfl, hf, ht⟩ := hp
  have hr := (hf.mr hM).row
  have h22 : ∀ b s, b < aq A 0 → s < aq A 1 → I' (o + 22) (6 * b + s) = offI (lwf A) (aq A) b s := fun b s hb hs => (ht b s hs (Or.inl hb)).1
  refine V_aload_n (pc := 4) dX12_layAbout_4 rfl ?_
  refine V_getR (pc := 5) 12 3 dX12_layAbout_5 flX12_13 (by decide) h12.o h12.R3 ?_
  refine V_iconst (pc := 8) (v := nI 0) dX12_layAbout_8 (by decide) ?_
  refine V_ialoadE (pc := 9) dX12_layAbout_9 h12.A3 (by first | decide | omega) (by omega) (hr.n (by omega)) ?_
  refine V_istore_n (pc := 10) (ls' := [(0, _), (1, _), (2, _)]) dX12_layAbout_10 (by decide) rfl ?_
  rw [← pred1_s (aq A 0)]
  refine lp_ab3 h12 hr hq hd h22 (fun I2 a2 A2 => ?_) (aq A 0 + 1) (Nat.le_refl _) I' (fun _ _ => rfl) (fun b u hb hu h => absurd h (by omega))
  refine V_vret (pc := 134) dX12_layAbout_134 rfl (by decide) (by decide) ⟨rfl, rfl, ⟨fun a b1 b2 b3 b5 b6 => by rw [a2 a b6]; exact hf.1 a b1 b2 b3 b5, fun i i1 i2 => by rw [a2 o (by omega)]; exact hf.2.1 i i1 i2, hf.2.2⟩, A2, fun b s hb hs => by rw [a2 _ (by omega)]; exact h22 b s hb hs⟩
end MJ3
