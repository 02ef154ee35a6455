/-! THE REFERENCE: compare, ends, again, which, listen -/
def lw0 : LawT := (0, (fun _ => 0), (fun _ _ => none), (fun _ _ => none))
def lwn (A : AT) (k : Nat) : LawT := if k = 0 then lw0 else alw A (k - 1)
theorem lwf_n (A : AT) : lwf A = lwn A (aq A 4) := rfl
theorem lwf_sq (A : AT) (k : Nat) : lwf (sq A (setq (aq A) 4 k)) = lwn A k := by
  rw [lwf_n]
  show lwn (sq A (setq (aq A) 4 k)) (setq (aq A) 4 k 4) = _
  rw [setq_s]
  rfl
theorem wfA.lawn {A : AT} (h : wfA A) {k : Nat} (hk : k ≤ aq A 3) : LawS (lwn A k) ∧ (∀ c, c < (lwn A k).1 → (lwn A k).2.1 c < 4) ∧ (∀ c w, c < (lwn A k).1 → wok w → (lwn A k).2.1 c = 3 → (lwn A k).2.2.1 c w = some 1) := by
  unfold lwn
  split
  · exact ⟨fun c w v hc => absurd hc (Nat.not_lt_zero c), fun c hc => absurd hc (Nat.not_lt_zero c), fun c w hc => absurd hc (Nat.not_lt_zero c)⟩
  · rename_i h4
    exact (h.2.1 (k - 1) (by omega)).2
theorem lst_cg {law : LawT} {q q' : Nat → Nat} {b : Nat} (h : ∀ i, i ≠ 4 → q' i = q i) : lst law q' b = lst law q b := by
  have e1 : nts q' b = nts q b := by
    unfold nts
    refine sm_cong (fun j _ => ?_)
    show pop8 (nt q' b j) = pop8 (nt q b j)
    unfold nt
    rw [h (8 + 8 * b + j) (by omega), h (56 + b) (by omega)]
  have e2 : wdq q' b 0 = wdq q b 0 := by
    funext j
    unfold wdq
    rw [e1, h (62 + b) (by omega), h (56 + b) (by omega), h 5 (by omega), h 7 (by omega)]
    rfl
  unfold lst
  rw [e2, e1, h (62 + b) (by omega)]
/-- bits of the first n that are so -/
def bts (f : Nat → Bool) : Nat → Nat | 0 => 0 | n + 1 => bts f n ||| (if f n = true then 2 ^ n else 0)
theorem bts_lt (f : Nat → Bool) : ∀ n, bts f n < 2 ^ n
  | 0 => by show 0 < 1; omega
  | n + 1 => by
    have h := bts_lt f n
    have h2 : 2 ^ n < 2 ^ (n + 1) := Nat.pow_lt_pow_right (by omega) (by omega)
    unfold bts
    refine Nat.or_lt_two_pow (by omega) ?_
    split
    · exact h2
    · omega
theorem p64 {n : Nat} (h : n ≤ 6) : 2 ^ n ≤ 64 := Nat.pow_le_pow_right (by decide : 0 < 2) h
section MI7
variable {E : EnT} {S : ST} {I : IT} {L : LT} {o : Nat} {A : AT}
def spCompare (A : AT) (x : Int32) : Int32 := if isl x (aq A 3) = true then nI (sm (fun b => lst (lwn A (suc1 x)) (aq A) b) (aq A 0)) else -1
theorem step_cmp (h12 : Lay12 E S o) {Q : QT} {q : Nat → Nat} {law : LawT} {x w : Int32} {a j n v : Nat} (hr : RowM I (o + 2) q) (hq : wq q) (hlaw : LawIn I o q law) (hls : LawS law) (hord : I o 20 = nI 0) (hn : n ≤ 6) (e0 : I (o + 2) 0 = nI n) (hj : j < n) (hv : lst law q j = v) (hk : ∀ I' L', TsI o I' I → TsL o L' L → V E kX12_compare (rmOf 7 0 0) Q 0 0 S I' L' 34 [(0, .ref o), (1, .int x), (2, .int w), (3, .int (nI (a + v))), (4, .int (nI (j + 1)))] []) : V E kX12_compare (rmOf 7 0 0) Q 0 0 S I L 34 [(0, .ref o), (1, .int x), (2, .int w), (3, .int (nI a)), (4, .int (nI j))] [] := by
  subst hv
  refine V_iload (pc := 34) dX12_compare_34 rfl ?_
  refine V_aload_n (pc := 36) dX12_compare_36 rfl ?_
  refine V_getR (pc := 37) 12 3 dX12_compare_37 flX12_13 (by decide) h12.o h12.R3 ?_
  refine V_iconst (pc := 40) (v := nI 0) dX12_compare_40 (by decide) ?_
  refine V_ialoadE (pc := 41) dX12_compare_41 h12.A3 (by first | decide | omega) (by omega) (e0) ?_
  refine V_icmp_geN (pc := 42) (tgt := 60) dX12_compare_42 (by decide) (by omega) (by omega) (fun c42 => absurd c42 (by omega)) (fun n42 => ?_)
  refine V_iload_n (pc := 45) dX12_compare_45 rfl ?_
  refine V_aload_n (pc := 46) dX12_compare_46 rfl ?_
  refine V_iload (pc := 47) dX12_compare_47 rfl ?_
  refine V_callV (pc := 49) (ci := 12) (c_X12_lastsOf h12 hr hq hlaw hls hord (by omega)) dX12_compare_49 mlX12_222 mkX12_lastsOf rfl rfl h12.o ⟨by decide, rfl⟩ ⟨Nat.le_of_ble_eq_true rfl, Nat.le_of_ble_eq_true rfl⟩ (Nat.le_of_ble_eq_true rfl) ⟨Nat.le_of_ble_eq_true rfl, Nat.le_of_ble_eq_true rfl⟩ (fun r S' I' L' hp => ?_)
  obtain ⟨rfl, rfl, hI, hL⟩ := hp
  refine V_iaddN (pc := 52) dX12_compare_52 ?_
  refine V_istore_n (pc := 53) (ls' := [(0, _), (1, _), (2, _), (3, _), (4, _)]) dX12_compare_53 (by decide) rfl ?_
  refine V_iinc1 (pc := 54) (ls' := [(0, _), (1, _), (2, _), (3, _), (4, _)]) dX12_compare_54 rfl (by decide) rfl ?_
  refine V_goto (pc := 57) (tgt := 34) dX12_compare_57 (by decide) ?_
  exact hk _ _ hI hL
theorem tail_cmp (h12 : Lay12 E S o) {I0 I' : IT} {L' : LT} {x : Int32} {v n : Nat} (hM : MR o I0 L A) (hr : RowM I0 (o + 2) (aq A)) (hF : FrM o I0 I L L) (hI : TsI o I' (up2 I0 (o + 2) 4 x)) (hL : TsL o L' L) (e0 : I' (o + 2) 0 = nI n) (hn : n ≤ 6) : V E kX12_compare (rmOf 7 0 0) (QM E (fun r S' I' L' => r = some (.int (nI v)) ∧ S = S' ∧ MR o I' L' A ∧ FrM o I' I L' L) 0 0) 0 0 S I' L' 34 [(0, .ref o), (1, .int x), (2, .int (pred1 (aq A 4))), (3, .int (nI v)), (4, .int (nI n))] [] := by
  refine V_iload (pc := 34) dX12_compare_34 rfl ?_
  refine V_aload_n (pc := 36) dX12_compare_36 rfl ?_
  refine V_getR (pc := 37) 12 3 dX12_compare_37 flX12_13 (by decide) h12.o h12.R3 ?_
  refine V_iconst (pc := 40) (v := nI 0) dX12_compare_40 (by decide) ?_
  refine V_ialoadE (pc := 41) dX12_compare_41 h12.A3 (by first | decide | omega) (by omega) (e0) ?_
  refine V_icmp_geN (pc := 42) (tgt := 60) dX12_compare_42 (by decide) (by omega) (by omega) (fun c42 => ?_) (fun n42 => absurd n42 (by omega))
  refine V_aload_n (pc := 60) dX12_compare_60 rfl ?_
  refine V_getR (pc := 61) 12 3 dX12_compare_61 flX12_13 (by decide) h12.o h12.R3 ?_
  refine V_iconst (pc := 64) (v := nI 4) dX12_compare_64 (by decide) ?_
  refine V_iload_n (pc := 65) dX12_compare_65 rfl ?_
  refine V_iastore (pc := 66) dX12_compare_66 h12.A3 (by first | decide | omega) (by omega) ?_
  refine V_iload_n (pc := 67) dX12_compare_67 rfl ?_
  refine V_iret (pc := 68) dX12_compare_68 rfl (by first | decide | omega) (by first | decide | omega) ?_
  refine ⟨rfl, rfl, hM.dead ⟨fun a ha => ?_, fun i hi => ?_, fun a ha => hL.1 a (by simp at ha; omega) (by simp at ha; omega) (by simp at ha; omega)⟩, fun a ha => ⟨?_, ?_⟩⟩
  · by_cases e : a = o + 2
    · subst e
      funext i
      by_cases z : i = 4
      · subst z; rw [up2_self]; exact hr.f.symm
      · rw [up2_nej z, hI.1 _ (by omega), up2_nej z]
    · rw [up2_row e, hI.1 a (by simp at ha; omega), up2_row e]
  · rw [up2_ne (by omega), hI.2 i (by simp at hi; omega) (by simp at hi; omega), up2_ne (by omega)]
  · rw [up2_row (by omega), hI.1 a (by omega), up2_row (by omega)]; exact (hF a ha).1
  · exact hL.1 a (by omega) (by omega) (by omega)
theorem c_X12_compare (h12 : Lay12 E S o) (hM : MR o I L A) (hA : wfA A) {x : Int32} : Cm E kX12_compare 7 [.ref o, .int x] S I L o (.int (spCompare A x)) A := by
  have hq := hA.q
  have hnl := hq.nl
  have hnb := hq.nb
  refine C_of (by decide) (Nat.le_of_ble_eq_true rfl) ?_
  refine V_aload_n (pc := 0) dX12_compare_0 rfl ?_
  refine V_iconst (pc := 1) (v := nI 0) dX12_compare_1 (by decide) ?_
  refine V_putI (pc := 2) 12 0 dX12_compare_2 flX12_175 (by decide) (by decide) (Or.inl rfl) rfl rfl h12.o ?_
  have hM := hM.thrown (v := nI 0)
  have hF : FrM o (up2 I o 0 (nI 0)) I L L := FrM.rf.up (by omega)
  generalize up2 I o 0 (nI 0) = I0 at hM hF ⊢
  have hr := hM.row
  refine V_aload_n (pc := 5) dX12_compare_5 rfl ?_
  refine V_iload_n (pc := 6) dX12_compare_6 rfl ?_
  refine V_callVd (pc := 7) (ci := 12) (c_X12_isLaw (by first | assumption | omega | exact h12) (by first | assumption | omega | exact h12) (by first | assumption | omega | exact h12)) dX12_compare_7 mlX12_421 mkX12_isLaw rfl rfl h12.o ⟨by decide, rfl⟩ ⟨Nat.le_of_ble_eq_true rfl, Nat.le_of_ble_eq_true rfl⟩ (Nat.le_of_ble_eq_true rfl) ⟨Nat.le_of_ble_eq_true rfl, Nat.le_of_ble_eq_true rfl⟩ ?_
  refine V_if_neB (pc := 10) (tgt := 15) dX12_compare_10 (by decide) (fun c10 => ?_) (fun n10 => ?_)
  · skip
    rw [spCompare, if_pos c10]
    have hx := isl_ex (by omega) c10
    have hl := hA.lawn hx.1
    have hM1 := hM.st (i := 4) (n := suc1 x) (v := x) (by omega) (hx.2.trans (enc_w (by omega)))
    have hq1 := hq.forc hx.1
    refine V_aload_n (pc := 15) dX12_compare_15 rfl ?_
    refine V_getR (pc := 16) 12 3 dX12_compare_16 flX12_13 (by decide) h12.o h12.R3 ?_
    refine V_iconst (pc := 19) (v := nI 4) dX12_compare_19 (by decide) ?_
    refine V_ialoadE (pc := 20) dX12_compare_20 h12.A3 (by first | decide | omega) (by omega) (hr.f) ?_
    refine V_istore_n (pc := 21) (ls' := [(0, _), (1, _), (2, _)]) dX12_compare_21 (by decide) rfl ?_
    refine V_aload_n (pc := 22) dX12_compare_22 rfl ?_
    refine V_getR (pc := 23) 12 3 dX12_compare_23 flX12_13 (by decide) h12.o h12.R3 ?_
    refine V_iconst (pc := 26) (v := nI 4) dX12_compare_26 (by decide) ?_
    refine V_iload_n (pc := 27) dX12_compare_27 rfl ?_
    refine V_iastore (pc := 28) dX12_compare_28 h12.A3 (by first | decide | omega) (by omega) ?_
    refine V_iconst (pc := 29) (v := nI 0) dX12_compare_29 (by decide) ?_
    refine V_istore_n (pc := 30) (ls' := [(0, _), (1, _), (2, _), (3, _)]) dX12_compare_30 (by decide) rfl ?_
    refine V_iconst (pc := 31) (v := nI 0) dX12_compare_31 (by decide) ?_
    refine V_istore (pc := 32) (ls' := [(0, _), (1, _), (2, _), (3, _), (4, _)]) dX12_compare_32 (by decide) rfl ?_
    have key : ∀ j, j ≤ aq A 0 → ∀ I' L', TsI o I' (up2 I0 (o + 2) 4 x) → TsL o L' L → V E kX12_compare (rmOf 7 0 0) (QM E (fun r S' I' L' => r = some (.int (nI (sm (fun b => lst (lwn A (suc1 x)) (aq A) b) (aq A 0)))) ∧ S = S' ∧ MR o I' L' A ∧ FrM o I' I L' L) 0 0) 0 0 S I' L' 34 [(0, .ref o), (1, .int x), (2, .int (pred1 (aq A 4))), (3, .int (nI (sm (fun b => lst (lwn A (suc1 x)) (aq A) b) j))), (4, .int (nI j))] [] := by
      refine loopUp ?_ ?_
      · intro I' L' hI hL
        have hM2 := hM1.ts hI hL
        have hr2 : RowM I' (o + 2) (setq (aq A) 4 (suc1 x)) := hM2.row
        have e0 : I' (o + 2) 0 = nI (aq A 0) := by rw [hr2.n (by omega), setq_n (by omega)]
        exact tail_cmp h12 hM hr hF hI hL e0 hnb
      · intro j hj ih I' L' hI hL
        have hM2 := hM1.ts hI hL
        have hr2 : RowM I' (o + 2) (setq (aq A) 4 (suc1 x)) := hM2.row
        have e0 : I' (o + 2) 0 = nI (aq A 0) := by rw [hr2.n (by omega), setq_n (by omega)]
        have hlw := hM2.law (A := sq A (setq (aq A) 4 (suc1 x))) hq1
        rw [lwf_sq] at hlw
        rw [sm] at ih
        exact step_cmp h12 hr2 hq1 hlw hl.1 hM2.od (by omega) e0 (by omega) (lst_cg (fun i hi => setq_n hi)) (fun I2 L2 a1 a2 => ih I2 L2 (TsI.tr a1 hI) (TsL.tr a2 hL))
    exact key 0 (by omega) _ _ TsI.rf TsL.rf
  · skip
    refine V_iconst (pc := 13) (v := (-1)) dX12_compare_13 (by decide) ?_
    refine V_iret (pc := 14) dX12_compare_14 rfl (by first | decide | omega) (by first | decide | omega) ?_
    rw [spCompare, if_neg (by rw [n10]; decide)]
    exact ⟨rfl, rfl, hM, hF⟩
def spEnds (A : AT) (x : Int32) : Int32 := if bnd x 61 = true then nI (bts (fun b => decide (cln x < aq A (74 + b))) (aq A 0)) else -1
theorem lp_ends (h12 : Lay12 E S o) {R : Room} {q : Nat → Nat} {n : Nat} {post : Option Value → ST → IT → LT → Prop} (hr : RowM I (o + 2) q) (hq : wq q) (hn : n < 61) (hp : post (some (.int (nI (bts (fun b => decide (n < q (74 + b))) (q 0))))) S I L) : V E kX12_ends R (QM E post 0 0) 0 0 S I L 23 [(0, .ref o), (1, .int (nI n)), (2, .int (nI 0)), (3, .int (nI 0))] [] := by
  have hns := hq.ns
  have hnb := hq.nb
  refine loopUp (P := fun j => V E kX12_ends R (QM E post 0 0) 0 0 S I L 23 [(0, .ref o), (1, .int (nI n)), (2, .int (nI (bts (fun b => decide (n < q (74 + b))) j))), (3, .int (nI j))] []) (n := q 0) ?_ ?_ 0 (by omega)
  · skip
    refine V_iload_n (pc := 23) dX12_ends_23 rfl ?_
    refine V_aload_n (pc := 24) dX12_ends_24 rfl ?_
    refine V_getR (pc := 25) 12 3 dX12_ends_25 flX12_13 (by decide) h12.o h12.R3 ?_
    refine V_iconst (pc := 28) (v := nI 0) dX12_ends_28 (by decide) ?_
    refine V_ialoadE (pc := 29) dX12_ends_29 h12.A3 (by first | decide | omega) (by omega) (hr.n (by omega)) ?_
    refine V_icmp_geN (pc := 30) (tgt := 75) dX12_ends_30 (by decide) (by omega) (by omega) (fun c30 => ?_) (fun n30 => absurd n30 (by omega))
    refine V_iload_n (pc := 75) dX12_ends_75 rfl ?_
    refine V_iret (pc := 76) dX12_ends_76 rfl (by first | decide | omega) (by first | decide | omega) ?_
    exact hp
  · intro j hj ih
    have hp2 := p64 (show j ≤ 6 by omega)
    have hwe := hq.we j (by omega)
    have hle := hq.le j (by omega)
    have hwl := hq.wl j (by omega)
    rw [bts] at ih
    refine V_iload_n (pc := 23) dX12_ends_23 rfl ?_
    refine V_aload_n (pc := 24) dX12_ends_24 rfl ?_
    refine V_getR (pc := 25) 12 3 dX12_ends_25 flX12_13 (by decide) h12.o h12.R3 ?_
    refine V_iconst (pc := 28) (v := nI 0) dX12_ends_28 (by decide) ?_
    refine V_ialoadE (pc := 29) dX12_ends_29 h12.A3 (by first | decide | omega) (by omega) (hr.n (by omega)) ?_
    refine V_icmp_geN (pc := 30) (tgt := 75) dX12_ends_30 (by decide) (by omega) (by omega) (fun c30 => absurd c30 (by omega)) (fun n30 => ?_)
    refine V_iload_n (pc := 33) dX12_ends_33 rfl ?_
    refine V_aload_n (pc := 34) dX12_ends_34 rfl ?_
    refine V_getR (pc := 35) 12 3 dX12_ends_35 flX12_13 (by decide) h12.o h12.R3 ?_
    refine V_bipush (pc := 38) (v := nI 68) dX12_ends_38 (by decide) ?_
    refine V_iload_n (pc := 40) dX12_ends_40 rfl ?_
    refine V_iaddN (pc := 41) dX12_ends_41 ?_
    refine V_ialoadE (pc := 42) dX12_ends_42 h12.A3 (by first | decide | omega) (by omega) (hr.w (by omega)) ?_
    refine V_iconst (pc := 43) (v := (-1)) dX12_ends_43 (by decide) ?_
    refine V_icmp_eq (pc := 44) (tgt := 66) dX12_ends_44 (by decide) (fun c44 => ?_) (fun n44 => ?_)
    · skip
      first
      | (rw [if_neg (fun z => by have := hwl.mp ((pred1_none (by omega)).mp c44); have := of_decide_eq_true z; omega)] at ih)
      | (rw [if_neg (fun z => by have := of_decide_eq_true z; omega)] at ih)
      refine V_iconst (pc := 66) (v := nI 0) dX12_ends_66 (by decide) ?_
      refine V_iorN (pc := 67) dX12_ends_67 ?_
      refine V_istore_n (pc := 68) (ls' := [(0, _), (1, _), (2, _), (3, _)]) dX12_ends_68 (by decide) rfl ?_
      refine V_iinc1 (pc := 69) (ls' := [(0, _), (1, _), (2, _), (3, _)]) dX12_ends_69 rfl (by decide) rfl ?_
      refine V_goto (pc := 72) (tgt := 23) dX12_ends_72 (by decide) ?_
      first | exact ih | (rw [Nat.one_mul]; exact ih)
    · skip
      refine V_aload_n (pc := 47) dX12_ends_47 rfl ?_
      refine V_getR (pc := 48) 12 3 dX12_ends_48 flX12_13 (by decide) h12.o h12.R3 ?_
      refine V_bipush (pc := 51) (v := nI 74) dX12_ends_51 (by decide) ?_
      refine V_iload_n (pc := 53) dX12_ends_53 rfl ?_
      refine V_iaddN (pc := 54) dX12_ends_54 ?_
      refine V_ialoadE (pc := 55) dX12_ends_55 h12.A3 (by first | decide | omega) (by omega) (hr.n (by omega)) ?_
      refine V_iload_n (pc := 56) dX12_ends_56 rfl ?_
      refine V_icmp_leN (pc := 57) (tgt := 66) dX12_ends_57 (by decide) (by omega) (by omega) (fun c57 => ?_) (fun n57 => ?_)
      · skip
        first
        | (rw [if_neg (fun z => by have := hwl.mp ((pred1_none (by omega)).mp c44); have := of_decide_eq_true z; omega)] at ih)
        | (rw [if_neg (fun z => by have := of_decide_eq_true z; omega)] at ih)
        refine V_iconst (pc := 66) (v := nI 0) dX12_ends_66 (by decide) ?_
        refine V_iorN (pc := 67) dX12_ends_67 ?_
        refine V_istore_n (pc := 68) (ls' := [(0, _), (1, _), (2, _), (3, _)]) dX12_ends_68 (by decide) rfl ?_
        refine V_iinc1 (pc := 69) (ls' := [(0, _), (1, _), (2, _), (3, _)]) dX12_ends_69 rfl (by decide) rfl ?_
        refine V_goto (pc := 72) (tgt := 23) dX12_ends_72 (by decide) ?_
        first | exact ih | (rw [Nat.one_mul]; exact ih)
      · skip
        rw [if_pos (decide_eq_true (by omega))] at ih
        refine V_iconst (pc := 60) (v := nI 1) dX12_ends_60 (by decide) ?_
        refine V_iload_n (pc := 61) dX12_ends_61 rfl ?_
        refine V_ishlN (pc := 62) dX12_ends_62 (by omega) (by omega) ?_
        refine V_goto (pc := 63) (tgt := 67) dX12_ends_63 (by decide) ?_
        refine V_iorN (pc := 67) dX12_ends_67 ?_
        refine V_istore_n (pc := 68) (ls' := [(0, _), (1, _), (2, _), (3, _)]) dX12_ends_68 (by decide) rfl ?_
        refine V_iinc1 (pc := 69) (ls' := [(0, _), (1, _), (2, _), (3, _)]) dX12_ends_69 rfl (by decide) rfl ?_
        refine V_goto (pc := 72) (tgt := 23) dX12_ends_72 (by decide) ?_
        first | exact ih | (rw [Nat.one_mul]; exact ih)
theorem c_X12_ends (h12 : Lay12 E S o) (hM : MR o I L A) (hA : wfA A) {x : Int32} : Cm E kX12_ends 2 [.ref o, .int x] S I L o (.int (spEnds A x)) A := by
  have hq := hA.q
  have hns := hq.ns
  have hnb := hq.nb
  have e60 : decide (lN 0 ≤ x.toInt64 ∧ x.toInt64 ≤ (60 : Int64)) = bnd x 61 := bnd64' (n := 60) (by omega)
  refine C_of (by decide) (Nat.le_of_ble_eq_true rfl) ?_
  refine V_aload_n (pc := 0) dX12_ends_0 rfl ?_
  refine V_iconst (pc := 1) (v := nI 0) dX12_ends_1 (by decide) ?_
  refine V_putI (pc := 2) 12 0 dX12_ends_2 flX12_175 (by decide) (by decide) (Or.inl rfl) rfl rfl h12.o ?_
  have hM := hM.thrown (v := nI 0)
  have hF : FrM o (up2 I o 0 (nI 0)) I L L := FrM.rf.up (by omega)
  generalize up2 I o 0 (nI 0) = I0 at hM hF ⊢
  have hr := hM.row
  refine V_iload_n (pc := 5) dX12_ends_5 rfl ?_
  refine V_i2l (pc := 6) dX12_ends_6 rfl ?_
  refine V_lconst (pc := 7) (v := lN 0) dX12_ends_7 (by decide) ?_
  refine V_ldc2 (pc := 8) dX12_ends_8 coX12_239 ?_
  refine V_callSd (pc := 11) (c_X12_in) dX12_ends_11 mlX12_195 mkX12_in rfl rfl ⟨Nat.le_of_ble_eq_true rfl, Nat.le_of_ble_eq_true rfl⟩ (Nat.le_of_ble_eq_true rfl) ⟨Nat.le_of_ble_eq_true rfl, Nat.le_of_ble_eq_true rfl⟩ ?_
  refine V_if_neB (pc := 14) (tgt := 19) dX12_ends_14 (by decide) (fun c14 => ?_) (fun n14 => ?_)
  · skip
    rw [e60] at c14
    rw [spEnds, if_pos c14]
    obtain ⟨n, hn, hx⟩ := bnd_ex (by omega) c14
    subst hx
    rw [cln_nI (by omega)]
    refine V_iconst (pc := 19) (v := nI 0) dX12_ends_19 (by decide) ?_
    refine V_istore_n (pc := 20) (ls' := [(0, _), (1, _), (2, _)]) dX12_ends_20 (by decide) rfl ?_
    refine V_iconst (pc := 21) (v := nI 0) dX12_ends_21 (by decide) ?_
    refine V_istore_n (pc := 22) (ls' := [(0, _), (1, _), (2, _), (3, _)]) dX12_ends_22 (by decide) rfl ?_
    exact lp_ends h12 hr hq hn ⟨rfl, rfl, hM, hF⟩
  · skip
    refine V_iconst (pc := 17) (v := (-1)) dX12_ends_17 (by decide) ?_
    refine V_iret (pc := 18) dX12_ends_18 rfl (by first | decide | omega) (by first | decide | omega) ?_
    rw [e60] at n14
    rw [spEnds, if_neg (by rw [n14]; decide)]
    exact ⟨rfl, rfl, hM, hF⟩
/-- pairs of bars with the same notes: how many, and the one numbered y -/
def ag1 (q : Nat → Nat) (x : Nat) (y : Int32) (b c : Nat) (s : Nat × Int32) : Nat × Int32 := if nt q x b = nt q x c then (s.1 + 1, if nI s.1 = y then nI (10 * b + c) else s.2) else s
def agi (q : Nat → Nat) (x : Nat) (y : Int32) (b : Nat) : Nat → Nat × Int32 → Nat × Int32 | 0, s => s | k + 1, s => ag1 q x y b (b + 1 + k) (agi q x y b k s)
def ago (q : Nat → Nat) (x : Nat) (y : Int32) : Nat → Nat × Int32 | 0 => (0, -1) | b + 1 => agi q x y b (7 - b) (ago q x y b)
def spAgain (A : AT) (x y : Int32) : Int32 := if bnd x (aq A 0) = true then (if y = -1 then nI (ago (aq A) (cln x) y 8).1 else (ago (aq A) (cln x) y 8).2) else -1
theorem agi_le (q : Nat → Nat) (x : Nat) (y : Int32) (b : Nat) (s : Nat × Int32) : ∀ k, (agi q x y b k s).1 ≤ s.1 + k
  | 0 => Nat.le_refl _
  | k + 1 => by
    have h := agi_le q x y b s k
    unfold agi ag1
    split
    · exact Nat.succ_le_succ h
    · exact Nat.le_succ_of_le h
theorem ago_le (q : Nat → Nat) (x : Nat) (y : Int32) : ∀ b, (ago q x y b).1 ≤ 7 * b
  | 0 => Nat.le_refl _
  | b + 1 => by
    have h := ago_le q x y b
    have h2 := agi_le q x y b (ago q x y b) (7 - b)
    unfold ago
    omega
theorem lp_agi (h12 : Lay12 E S o) {R : Room} {Q : QT} {q : Nat → Nat} {x b : Nat} {y : Int32} {s : Nat × Int32} (hR : 1 ≤ R.frames ∧ 100 ≤ R.locals) (hr : RowM I (o + 2) q) (hq : wq q) (hx : x < 6) (hb : b < 8) (hs : s.1 ≤ 100) (hk : V E kX12_again R Q 0 0 S I L 89 [(0, .ref o), (1, .int (nI x)), (2, .int y), (3, .int (nI (agi q x y b (7 - b) s).1)), (4, .int (agi q x y b (7 - b) s).2), (5, .int (nI b)), (6, .int (nI 8))] []) : V E kX12_again R Q 0 0 S I L 36 [(0, .ref o), (1, .int (nI x)), (2, .int y), (3, .int (nI s.1)), (4, .int s.2), (5, .int (nI b)), (6, .int (nI (b + 1)))] [] := by
  have key : ∀ k, k ≤ 7 - b → V E kX12_again R Q 0 0 S I L 36 [(0, .ref o), (1, .int (nI x)), (2, .int y), (3, .int (nI (agi q x y b k s).1)), (4, .int (agi q x y b k s).2), (5, .int (nI b)), (6, .int (nI (b + 1 + k)))] [] := by
    refine loopUp ?_ ?_
    · skip
      refine V_iload (pc := 36) dX12_again_36 rfl ?_
      refine V_bipush (pc := 38) (v := nI 8) dX12_again_38 (by decide) ?_
      refine V_icmp_geN (pc := 40) (tgt := 89) dX12_again_40 (by decide) (by omega) (by omega) (fun c40 => ?_) (fun n40 => absurd n40 (by omega))
      rw [show b + 1 + (7 - b) = 8 by omega]
      exact hk
    · intro k hk2 ih
      have hle := agi_le q x y b s k
      have n1 := nt_lt hq hx hb
      have n2 := nt_lt hq hx (show b + 1 + k < 8 by omega)
      rw [agi, ag1] at ih
      refine V_iload (pc := 36) dX12_again_36 rfl ?_
      refine V_bipush (pc := 38) (v := nI 8) dX12_again_38 (by decide) ?_
      refine V_icmp_geN (pc := 40) (tgt := 89) dX12_again_40 (by decide) (by omega) (by omega) (fun c40 => absurd c40 (by omega)) (fun n40 => ?_)
      refine V_aload_n (pc := 43) dX12_again_43 rfl ?_
      refine V_iload_n (pc := 44) dX12_again_44 rfl ?_
      refine V_iload (pc := 45) dX12_again_45 rfl ?_
      refine V_callVd (pc := 47) (ci := 12) (c_X12_notesAt (by first | assumption | omega | exact h12) (by first | assumption | omega | exact h12) (by first | assumption | omega | exact h12) (by first | assumption | omega | exact h12) (by first | assumption | omega | exact h12)) dX12_again_47 mlX12_204 mkX12_notesAt rfl rfl h12.o ⟨by decide, rfl⟩ ⟨by omega, by show 8 + (_ + 11) + 64 * 0 ≤ _; simp only []; omega⟩ (Nat.le_of_ble_eq_true rfl) ⟨by omega, by omega⟩ ?_
      refine V_aload_n (pc := 50) dX12_again_50 rfl ?_
      refine V_iload_n (pc := 51) dX12_again_51 rfl ?_
      refine V_iload (pc := 52) dX12_again_52 rfl ?_
      refine V_callVd (pc := 54) (ci := 12) (c_X12_notesAt (by first | assumption | omega | exact h12) (by first | assumption | omega | exact h12) (by first | assumption | omega | exact h12) (by first | assumption | omega | exact h12) (by first | assumption | omega | exact h12)) dX12_again_54 mlX12_204 mkX12_notesAt rfl rfl h12.o ⟨by decide, rfl⟩ ⟨by omega, by show 8 + (_ + 11) + 64 * 0 ≤ _; simp only []; omega⟩ (Nat.le_of_ble_eq_true rfl) ⟨by omega, by omega⟩ ?_
      refine V_icmp_neN (pc := 57) (tgt := 83) dX12_again_57 (by decide) (by omega) (by omega) (fun c57 => ?_) (fun n57 => ?_)
      · skip
        first | rw [if_neg c57] at ih | skip
        refine V_iinc1 (pc := 83) (ls' := [(0, _), (1, _), (2, _), (3, _), (4, _), (5, _), (6, _)]) dX12_again_83 rfl (by decide) rfl ?_
        refine V_goto (pc := 86) (tgt := 36) dX12_again_86 (by decide) ?_
        exact ih
      · skip
        rw [if_pos n57] at ih
        refine V_iload_n (pc := 60) dX12_again_60 rfl ?_
        refine V_iload_n (pc := 61) dX12_again_61 rfl ?_
        refine V_icmp_ne (pc := 62) (tgt := 76) dX12_again_62 (by decide) (fun c62 => ?_) (fun n62 => ?_)
        · skip
          rw [if_neg c62] at ih
          refine V_iload (pc := 76) dX12_again_76 rfl ?_
          refine V_istore (pc := 78) (ls' := [(0, _), (1, _), (2, _), (3, _), (4, _), (5, _), (6, _)]) dX12_again_78 (by decide) rfl ?_
          refine V_iinc1 (pc := 80) (ls' := [(0, _), (1, _), (2, _), (3, _), (4, _), (5, _), (6, _)]) dX12_again_80 rfl (by decide) rfl ?_
          first | rw [if_neg c57] at ih | skip
          refine V_iinc1 (pc := 83) (ls' := [(0, _), (1, _), (2, _), (3, _), (4, _), (5, _), (6, _)]) dX12_again_83 rfl (by decide) rfl ?_
          refine V_goto (pc := 86) (tgt := 36) dX12_again_86 (by decide) ?_
          exact ih
        · skip
          rw [if_pos n62] at ih
          refine V_bipush (pc := 65) (v := nI 10) dX12_again_65 (by decide) ?_
          refine V_iload (pc := 67) dX12_again_67 rfl ?_
          refine V_imulN (pc := 69) dX12_again_69 ?_
          refine V_iload (pc := 70) dX12_again_70 rfl ?_
          refine V_iaddN (pc := 72) dX12_again_72 ?_
          refine V_goto (pc := 73) (tgt := 78) dX12_again_73 (by decide) ?_
          refine V_istore (pc := 78) (ls' := [(0, _), (1, _), (2, _), (3, _), (4, _), (5, _), (6, _)]) dX12_again_78 (by decide) rfl ?_
          refine V_iinc1 (pc := 80) (ls' := [(0, _), (1, _), (2, _), (3, _), (4, _), (5, _), (6, _)]) dX12_again_80 rfl (by decide) rfl ?_
          first | rw [if_neg c57] at ih | skip
          refine V_iinc1 (pc := 83) (ls' := [(0, _), (1, _), (2, _), (3, _), (4, _), (5, _), (6, _)]) dX12_again_83 rfl (by decide) rfl ?_
          refine V_goto (pc := 86) (tgt := 36) dX12_again_86 (by decide) ?_
          exact ih
  exact key 0 (by omega)
theorem lp_again (h12 : Lay12 E S o) {R : Room} {q : Nat → Nat} {b : Nat} {y : Int32} {post : Option Value → ST → IT → LT → Prop} (hR : 1 ≤ R.frames ∧ 100 ≤ R.locals) (hr : RowM I (o + 2) q) (hq : wq q) (hb : b < 6) (hp : post (some (.int (if y = -1 then nI (ago q b y 8).1 else (ago q b y 8).2))) S I L) : V E kX12_again R (QM E post 0 0) 0 0 S I L 23 [(0, .ref o), (1, .int (nI b)), (2, .int y), (3, .int (nI 0)), (4, .int (-1)), (5, .int (nI 0))] [] := by
  refine loopUp (P := fun j => V E kX12_again R (QM E post 0 0) 0 0 S I L 23 [(0, .ref o), (1, .int (nI b)), (2, .int y), (3, .int (nI (ago q b y j).1)), (4, .int (ago q b y j).2), (5, .int (nI j))] []) (n := 8) ?_ ?_ 0 (by omega)
  · skip
    refine V_iload (pc := 23) dX12_again_23 rfl ?_
    refine V_bipush (pc := 25) (v := nI 8) dX12_again_25 (by decide) ?_
    refine V_icmp_geN (pc := 27) (tgt := 95) dX12_again_27 (by decide) (by omega) (by omega) (fun c27 => ?_) (fun n27 => absurd n27 (by omega))
    refine V_iload_n (pc := 95) dX12_again_95 rfl ?_
    refine V_iconst (pc := 96) (v := (-1)) dX12_again_96 (by decide) ?_
    refine V_icmp_ne (pc := 97) (tgt := 104) dX12_again_97 (by decide) (fun c97 => ?_) (fun n97 => ?_)
    · skip
      refine V_iload (pc := 104) dX12_again_104 rfl ?_
      refine V_iret (pc := 106) dX12_again_106 rfl (by first | decide | omega) (by first | decide | omega) ?_
      first | (rw [if_pos n97] at hp; exact hp) | (rw [if_neg c97] at hp; exact hp)
    · skip
      refine V_iload_n (pc := 100) dX12_again_100 rfl ?_
      refine V_goto (pc := 101) (tgt := 106) dX12_again_101 (by decide) ?_
      refine V_iret (pc := 106) dX12_again_106 rfl (by first | decide | omega) (by first | decide | omega) ?_
      first | (rw [if_pos n97] at hp; exact hp) | (rw [if_neg c97] at hp; exact hp)
  · intro j hj ih
    have hle := ago_le q b y j
    rw [ago] at ih
    refine V_iload (pc := 23) dX12_again_23 rfl ?_
    refine V_bipush (pc := 25) (v := nI 8) dX12_again_25 (by decide) ?_
    refine V_icmp_geN (pc := 27) (tgt := 95) dX12_again_27 (by decide) (by omega) (by omega) (fun c27 => absurd c27 (by omega)) (fun n27 => ?_)
    refine V_iload (pc := 30) dX12_again_30 rfl ?_
    refine V_iconst (pc := 32) (v := nI 1) dX12_again_32 (by decide) ?_
    refine V_iaddN (pc := 33) dX12_again_33 ?_
    refine V_istore (pc := 34) (ls' := [(0, _), (1, _), (2, _), (3, _), (4, _), (5, _), (6, _)]) dX12_again_34 (by decide) rfl ?_
    refine lp_agi h12 hR hr hq hb hj (by omega) ?_
    refine V_loc [0, 1, 2, 3, 4, 5] rfl ?_
    refine V_iinc1 (pc := 89) (ls' := [(0, _), (1, _), (2, _), (3, _), (4, _), (5, _)]) dX12_again_89 rfl (by decide) rfl ?_
    refine V_goto (pc := 92) (tgt := 23) dX12_again_92 (by decide) ?_
    exact ih
theorem c_X12_again (h12 : Lay12 E S o) (hM : MR o I L A) (hA : wfA A) {x y : Int32} : Cm E kX12_again 2 [.ref o, .int x, .int y] S I L o (.int (spAgain A x y)) A := by
  have hq := hA.q
  have hnb := hq.nb
  refine C_of (by decide) (Nat.le_of_ble_eq_true rfl) ?_
  refine V_aload_n (pc := 0) dX12_again_0 rfl ?_
  refine V_iconst (pc := 1) (v := nI 0) dX12_again_1 (by decide) ?_
  refine V_putI (pc := 2) 12 0 dX12_again_2 flX12_175 (by decide) (by decide) (Or.inl rfl) rfl rfl h12.o ?_
  have hM := hM.thrown (v := nI 0)
  have hF : FrM o (up2 I o 0 (nI 0)) I L L := FrM.rf.up (by omega)
  generalize up2 I o 0 (nI 0) = I0 at hM hF ⊢
  have hr := hM.row
  refine V_aload_n (pc := 5) dX12_again_5 rfl ?_
  refine V_iload_n (pc := 6) dX12_again_6 rfl ?_
  refine V_callVd (pc := 7) (ci := 12) (c_X12_isBox (by first | assumption | omega | exact h12) (by first | assumption | omega | exact h12) (by first | assumption | omega | exact h12)) dX12_again_7 mlX12_213 mkX12_isBox rfl rfl h12.o ⟨by decide, rfl⟩ ⟨Nat.le_of_ble_eq_true rfl, Nat.le_of_ble_eq_true rfl⟩ (Nat.le_of_ble_eq_true rfl) ⟨Nat.le_of_ble_eq_true rfl, Nat.le_of_ble_eq_true rfl⟩ ?_
  refine V_if_neB (pc := 10) (tgt := 15) dX12_again_10 (by decide) (fun c10 => ?_) (fun n10 => ?_)
  · skip
    rw [spAgain, if_pos c10]
    obtain ⟨b, hb, hx⟩ := bnd_ex (by omega) c10
    subst hx
    rw [cln_nI (by omega)]
    refine V_iconst (pc := 15) (v := nI 0) dX12_again_15 (by decide) ?_
    refine V_istore_n (pc := 16) (ls' := [(0, _), (1, _), (2, _), (3, _)]) dX12_again_16 (by decide) rfl ?_
    refine V_iconst (pc := 17) (v := (-1)) dX12_again_17 (by decide) ?_
    refine V_istore (pc := 18) (ls' := [(0, _), (1, _), (2, _), (3, _), (4, _)]) dX12_again_18 (by decide) rfl ?_
    refine V_iconst (pc := 20) (v := nI 0) dX12_again_20 (by decide) ?_
    refine V_istore (pc := 21) (ls' := [(0, _), (1, _), (2, _), (3, _), (4, _), (5, _)]) dX12_again_21 (by decide) rfl ?_
    exact lp_again h12 ⟨by decide, by decide⟩ hr hq (by omega) ⟨rfl, rfl, hM, hF⟩
  · skip
    refine V_iconst (pc := 13) (v := (-1)) dX12_again_13 (by decide) ?_
    refine V_iret (pc := 14) dX12_again_14 rfl (by first | decide | omega) (by first | decide | omega) ?_
    rw [spAgain, if_neg (by rw [n10]; decide)]
    exact ⟨rfl, rfl, hM, hF⟩
def hrd (q : Nat → Nat) (b : Nat) : Nat → Bool | 0 => true | k + 1 => hrd q b k && decide (nt q b (q (92 + 3 * k)) / 2 ^ q (92 + 3 * k + 1) % 2 = q (92 + 3 * k + 2))
def whc (q : Nat → Nat) : Nat := bts (fun b => hrd q b (q 2)) (q 0)
theorem lp_wh1 (h12 : Lay12 E S o) {R : Room} {Q : QT} {q : Nat → Nat} {a b : Nat} (hR : 1 ≤ R.frames ∧ 100 ≤ R.locals) (hr : RowM I (o + 2) q) (hq : wq q) (hb : b < 6) (hk : V E kX12_whichAre R Q 0 0 S I L 97 [(0, .ref o), (1, .int (nI a)), (2, .int (nI b)), (3, .int (b2i (hrd q b (q 2)))), (4, .int (nI (q 2)))] []) : V E kX12_whichAre R Q 0 0 S I L 19 [(0, .ref o), (1, .int (nI a)), (2, .int (nI b)), (3, .int (nI 1)), (4, .int (nI 0))] [] := by
  have hnh := hq.nh
  refine loopUp (P := fun k => V E kX12_whichAre R Q 0 0 S I L 19 [(0, .ref o), (1, .int (nI a)), (2, .int (nI b)), (3, .int (b2i (hrd q b k))), (4, .int (nI k))] []) (n := q 2) ?_ ?_ 0 (by omega)
  · skip
    refine V_iload (pc := 19) dX12_whichAre_19 rfl ?_
    refine V_aload_n (pc := 21) dX12_whichAre_21 rfl ?_
    refine V_getR (pc := 22) 12 3 dX12_whichAre_22 flX12_13 (by decide) h12.o h12.R3 ?_
    refine V_iconst (pc := 25) (v := nI 2) dX12_whichAre_25 (by decide) ?_
    refine V_ialoadE (pc := 26) dX12_whichAre_26 h12.A3 (by first | decide | omega) (by omega) (hr.n (by omega)) ?_
    refine V_icmp_geN (pc := 27) (tgt := 97) dX12_whichAre_27 (by decide) (by omega) (by omega) (fun c27 => ?_) (fun n27 => absurd n27 (by omega))
    exact hk
  · intro k hk2 ih
    have h3 := hq.he k (by omega)
    have n1 := nt_lt hq hb h3.1
    rw [hrd] at ih
    refine V_iload (pc := 19) dX12_whichAre_19 rfl ?_
    refine V_aload_n (pc := 21) dX12_whichAre_21 rfl ?_
    refine V_getR (pc := 22) 12 3 dX12_whichAre_22 flX12_13 (by decide) h12.o h12.R3 ?_
    refine V_iconst (pc := 25) (v := nI 2) dX12_whichAre_25 (by decide) ?_
    refine V_ialoadE (pc := 26) dX12_whichAre_26 h12.A3 (by first | decide | omega) (by omega) (hr.n (by omega)) ?_
    refine V_icmp_geN (pc := 27) (tgt := 97) dX12_whichAre_27 (by decide) (by omega) (by omega) (fun c27 => absurd c27 (by omega)) (fun n27 => ?_)
    refine V_iload_n (pc := 30) dX12_whichAre_30 rfl ?_
    refine V_if_eqB (pc := 31) (tgt := 89) dX12_whichAre_31 (by decide) (fun c31 => ?_) (fun n31 => ?_)
    · skip
      first
      | (rw [c31, Bool.false_and] at ih)
      | (rw [decide_eq_false c82, Bool.and_false] at ih)
      refine V_iconst (pc := 89) (v := nI 0) dX12_whichAre_89 (by decide) ?_
      refine V_istore_n (pc := 90) (ls' := [(0, _), (1, _), (2, _), (3, _), (4, _)]) dX12_whichAre_90 (by decide) rfl ?_
      refine V_iinc1 (pc := 91) (ls' := [(0, _), (1, _), (2, _), (3, _), (4, _)]) dX12_whichAre_91 rfl (by decide) rfl ?_
      refine V_goto (pc := 94) (tgt := 19) dX12_whichAre_94 (by decide) ?_
      exact ih
    · skip
      refine V_aload_n (pc := 34) dX12_whichAre_34 rfl ?_
      refine V_iload_n (pc := 35) dX12_whichAre_35 rfl ?_
      refine V_aload_n (pc := 36) dX12_whichAre_36 rfl ?_
      refine V_getR (pc := 37) 12 3 dX12_whichAre_37 flX12_13 (by decide) h12.o h12.R3 ?_
      refine V_bipush (pc := 40) (v := nI 92) dX12_whichAre_40 (by decide) ?_
      refine V_iconst (pc := 42) (v := nI 3) dX12_whichAre_42 (by decide) ?_
      refine V_iload (pc := 43) dX12_whichAre_43 rfl ?_
      refine V_imulN (pc := 45) dX12_whichAre_45 ?_
      refine V_iaddN (pc := 46) dX12_whichAre_46 ?_
      refine V_ialoadE (pc := 47) dX12_whichAre_47 h12.A3 (by first | decide | omega) (by omega) (hr.n (by omega)) ?_
      refine V_callVd (pc := 48) (ci := 12) (c_X12_notesAt h12 hr hq hb h3.1) dX12_whichAre_48 mlX12_204 mkX12_notesAt rfl rfl h12.o ⟨by decide, rfl⟩ ⟨by omega, by show 8 + (_ + 11) + 64 * 0 ≤ _; simp only []; omega⟩ (Nat.le_of_ble_eq_true rfl) ⟨by omega, by omega⟩ ?_
      refine V_aload_n (pc := 51) dX12_whichAre_51 rfl ?_
      refine V_getR (pc := 52) 12 3 dX12_whichAre_52 flX12_13 (by decide) h12.o h12.R3 ?_
      refine V_bipush (pc := 55) (v := nI 92) dX12_whichAre_55 (by decide) ?_
      refine V_iconst (pc := 57) (v := nI 3) dX12_whichAre_57 (by decide) ?_
      refine V_iload (pc := 58) dX12_whichAre_58 rfl ?_
      refine V_imulN (pc := 60) dX12_whichAre_60 ?_
      refine V_iaddN (pc := 61) dX12_whichAre_61 ?_
      refine V_iconst (pc := 62) (v := nI 1) dX12_whichAre_62 (by decide) ?_
      refine V_iaddN (pc := 63) dX12_whichAre_63 ?_
      refine V_ialoadE (pc := 64) dX12_whichAre_64 h12.A3 (by first | decide | omega) (by omega) (hr.n (by omega)) ?_
      refine V_ishrN (pc := 65) dX12_whichAre_65 (by omega) (by omega) ?_
      refine V_iconst (pc := 66) (v := nI 1) dX12_whichAre_66 (by decide) ?_
      refine V_iand1 (pc := 67) dX12_whichAre_67 ?_
      refine V_aload_n (pc := 68) dX12_whichAre_68 rfl ?_
      refine V_getR (pc := 69) 12 3 dX12_whichAre_69 flX12_13 (by decide) h12.o h12.R3 ?_
      refine V_bipush (pc := 72) (v := nI 92) dX12_whichAre_72 (by decide) ?_
      refine V_iconst (pc := 74) (v := nI 3) dX12_whichAre_74 (by decide) ?_
      refine V_iload (pc := 75) dX12_whichAre_75 rfl ?_
      refine V_imulN (pc := 77) dX12_whichAre_77 ?_
      refine V_iaddN (pc := 78) dX12_whichAre_78 ?_
      refine V_iconst (pc := 79) (v := nI 2) dX12_whichAre_79 (by decide) ?_
      refine V_iaddN (pc := 80) dX12_whichAre_80 ?_
      refine V_ialoadE (pc := 81) dX12_whichAre_81 h12.A3 (by first | decide | omega) (by omega) (hr.n (by omega)) ?_
      refine V_icmp_neN (pc := 82) (tgt := 89) dX12_whichAre_82 (by decide) (by omega) (by omega) (fun c82 => ?_) (fun n82 => ?_)
      · skip
        first
        | (rw [c31, Bool.false_and] at ih)
        | (rw [decide_eq_false c82, Bool.and_false] at ih)
        refine V_iconst (pc := 89) (v := nI 0) dX12_whichAre_89 (by decide) ?_
        refine V_istore_n (pc := 90) (ls' := [(0, _), (1, _), (2, _), (3, _), (4, _)]) dX12_whichAre_90 (by decide) rfl ?_
        refine V_iinc1 (pc := 91) (ls' := [(0, _), (1, _), (2, _), (3, _), (4, _)]) dX12_whichAre_91 rfl (by decide) rfl ?_
        refine V_goto (pc := 94) (tgt := 19) dX12_whichAre_94 (by decide) ?_
        exact ih
      · skip
        rw [n31, decide_eq_true n82, Bool.and_true] at ih
        refine V_iconst (pc := 85) (v := nI 1) dX12_whichAre_85 (by decide) ?_
        refine V_goto (pc := 86) (tgt := 90) dX12_whichAre_86 (by decide) ?_
        refine V_istore_n (pc := 90) (ls' := [(0, _), (1, _), (2, _), (3, _), (4, _)]) dX12_whichAre_90 (by decide) rfl ?_
        refine V_iinc1 (pc := 91) (ls' := [(0, _), (1, _), (2, _), (3, _), (4, _)]) dX12_whichAre_91 rfl (by decide) rfl ?_
        refine V_goto (pc := 94) (tgt := 19) dX12_whichAre_94 (by decide) ?_
        exact ih
theorem c_X12_whichAre (h12 : Lay12 E S o) {q : Nat → Nat} (hr : RowM I (o + 2) q) (hq : wq q) : Cd E kX12_whichAre 2 0 0 [.ref o] S I L (.int (nI (whc q))) S I L := by
  have hnb := hq.nb
  refine C_of (by decide) (Nat.le_of_ble_eq_true rfl) ?_
  refine V_iconst (pc := 0) (v := nI 0) dX12_whichAre_0 (by decide) ?_
  refine V_istore_n (pc := 1) (ls' := [(0, _), (1, _)]) dX12_whichAre_1 (by decide) rfl ?_
  refine V_iconst (pc := 2) (v := nI 0) dX12_whichAre_2 (by decide) ?_
  refine V_istore_n (pc := 3) (ls' := [(0, _), (1, _), (2, _)]) dX12_whichAre_3 (by decide) rfl ?_
  refine loopUp (P := fun j => V E kX12_whichAre (rmOf 2 0 0) (Qd E (.int (nI (whc q))) S I L) 0 0 S I L 4 [(0, .ref o), (1, .int (nI (bts (fun b => hrd q b (q 2)) j))), (2, .int (nI j))] []) (n := q 0) ?_ ?_ 0 (by omega)
  · skip
    refine V_iload_n (pc := 4) dX12_whichAre_4 rfl ?_
    refine V_aload_n (pc := 5) dX12_whichAre_5 rfl ?_
    refine V_getR (pc := 6) 12 3 dX12_whichAre_6 flX12_13 (by decide) h12.o h12.R3 ?_
    refine V_iconst (pc := 9) (v := nI 0) dX12_whichAre_9 (by decide) ?_
    refine V_ialoadE (pc := 10) dX12_whichAre_10 h12.A3 (by first | decide | omega) (by omega) (hr.n (by omega)) ?_
    refine V_icmp_geN (pc := 11) (tgt := 117) dX12_whichAre_11 (by decide) (by omega) (by omega) (fun c11 => ?_) (fun n11 => absurd n11 (by omega))
    refine V_iload_n (pc := 117) dX12_whichAre_117 rfl ?_
    refine V_iret (pc := 118) dX12_whichAre_118 rfl (by first | decide | omega) (by first | decide | omega) ?_
    exact ⟨rfl, rfl, rfl, rfl⟩
  · intro j hj ih
    have hp2 := p64 (show j ≤ 6 by omega)
    rw [bts] at ih
    refine V_iload_n (pc := 4) dX12_whichAre_4 rfl ?_
    refine V_aload_n (pc := 5) dX12_whichAre_5 rfl ?_
    refine V_getR (pc := 6) 12 3 dX12_whichAre_6 flX12_13 (by decide) h12.o h12.R3 ?_
    refine V_iconst (pc := 9) (v := nI 0) dX12_whichAre_9 (by decide) ?_
    refine V_ialoadE (pc := 10) dX12_whichAre_10 h12.A3 (by first | decide | omega) (by omega) (hr.n (by omega)) ?_
    refine V_icmp_geN (pc := 11) (tgt := 117) dX12_whichAre_11 (by decide) (by omega) (by omega) (fun c11 => absurd c11 (by omega)) (fun n11 => ?_)
    refine V_iconst (pc := 14) (v := nI 1) dX12_whichAre_14 (by decide) ?_
    refine V_istore_n (pc := 15) (ls' := [(0, _), (1, _), (2, _), (3, _)]) dX12_whichAre_15 (by decide) rfl ?_
    refine V_iconst (pc := 16) (v := nI 0) dX12_whichAre_16 (by decide) ?_
    refine V_istore (pc := 17) (ls' := [(0, _), (1, _), (2, _), (3, _), (4, _)]) dX12_whichAre_17 (by decide) rfl ?_
    refine lp_wh1 h12 ⟨by decide, by decide⟩ hr hq (by omega) ?_
    refine V_iload_n (pc := 97) dX12_whichAre_97 rfl ?_
    refine V_iload_n (pc := 98) dX12_whichAre_98 rfl ?_
    refine V_if_eqB (pc := 99) (tgt := 108) dX12_whichAre_99 (by decide) (fun c99 => ?_) (fun n99 => ?_)
    · skip
      rw [if_neg (by rw [c99]; decide)] at ih
      refine V_iconst (pc := 108) (v := nI 0) dX12_whichAre_108 (by decide) ?_
      refine V_iorN (pc := 109) dX12_whichAre_109 ?_
      refine V_istore_n (pc := 110) (ls' := [(0, _), (1, _), (2, _), (3, _), (4, _)]) dX12_whichAre_110 (by decide) rfl ?_
      refine V_loc [0, 1, 2] rfl ?_
      refine V_iinc1 (pc := 111) (ls' := [(0, _), (1, _), (2, _)]) dX12_whichAre_111 rfl (by decide) rfl ?_
      refine V_goto (pc := 114) (tgt := 4) dX12_whichAre_114 (by decide) ?_
      first | exact ih | (rw [Nat.one_mul]; exact ih)
    · skip
      rw [if_pos n99] at ih
      refine V_iconst (pc := 102) (v := nI 1) dX12_whichAre_102 (by decide) ?_
      refine V_iload_n (pc := 103) dX12_whichAre_103 rfl ?_
      refine V_ishlN (pc := 104) dX12_whichAre_104 (by omega) (by omega) ?_
      refine V_goto (pc := 105) (tgt := 109) dX12_whichAre_105 (by decide) ?_
      refine V_iorN (pc := 109) dX12_whichAre_109 ?_
      refine V_istore_n (pc := 110) (ls' := [(0, _), (1, _), (2, _), (3, _), (4, _)]) dX12_whichAre_110 (by decide) rfl ?_
      refine V_loc [0, 1, 2] rfl ?_
      refine V_iinc1 (pc := 111) (ls' := [(0, _), (1, _), (2, _)]) dX12_whichAre_111 rfl (by decide) rfl ?_
      refine V_goto (pc := 114) (tgt := 4) dX12_whichAre_114 (by decide) ?_
      first | exact ih | (rw [Nat.one_mul]; exact ih)
theorem c_X12_which (h12 : Lay12 E S o) (hM : MR o I L A) (hA : wfA A) : Cm E kX12_which 3 [.ref o] S I L o (.int (nI (whc (aq A)))) A := by
  have hq := hA.q
  refine C_of (by decide) (Nat.le_of_ble_eq_true rfl) ?_
  refine V_aload_n (pc := 0) dX12_which_0 rfl ?_
  refine V_iconst (pc := 1) (v := nI 0) dX12_which_1 (by decide) ?_
  refine V_putI (pc := 2) 12 0 dX12_which_2 flX12_175 (by decide) (by decide) (Or.inl rfl) rfl rfl h12.o ?_
  have hM := hM.thrown (v := nI 0)
  have hF : FrM o (up2 I o 0 (nI 0)) I L L := FrM.rf.up (by omega)
  generalize up2 I o 0 (nI 0) = I0 at hM hF ⊢
  have hr := hM.row
  refine V_aload_n (pc := 5) dX12_which_5 rfl ?_
  refine V_callVd (pc := 6) (ci := 12) (c_X12_whichAre (by first | assumption | omega | exact h12) (by first | assumption | omega | exact h12) (by first | assumption | omega | exact h12)) dX12_which_6 mlX12_484 mkX12_whichAre rfl rfl h12.o ⟨by decide, rfl⟩ ⟨Nat.le_of_ble_eq_true rfl, Nat.le_of_ble_eq_true rfl⟩ (Nat.le_of_ble_eq_true rfl) ⟨Nat.le_of_ble_eq_true rfl, Nat.le_of_ble_eq_true rfl⟩ ?_
  refine V_iret (pc := 9) dX12_which_9 rfl (by first | decide | omega) (by first | decide | omega) ?_
  exact ⟨rfl, rfl, hM, hF⟩
def lsm (q : Nat → Nat) (all k : Nat) : Nat := sm (fun b => if all / 2 ^ b % 2 = 1 then nt q b (k / 8) / 2 ^ (k % 8) % 2 else 0) (q 0)
def lsx (q : Nat → Nat) (all k : Nat) : Nat := if pop8 all - lsm q all k < lsm q all k then lsm q all k else pop8 all - lsm q all k
def lsn (q : Nat → Nat) (all far : Nat) : Nat → Int32 × Nat | 0 => (-1, far) | k + 1 => if lsx q all k < (lsn q all far k).2 then (nI (10 * (k / 8) + k % 8), lsx q all k) else lsn q all far k
def spListen (A : AT) (x : Int32) : Int32 := if bnd x 2 = true ∧ whc (aq A) ≠ 0 then (if cln x = 0 then (lsn (aq A) (whc (aq A)) 100000000 64).1 else nI (lsn (aq A) (whc (aq A)) 100000000 64).2) else -1
theorem sm_mono {f g : Nat → Nat} : ∀ {n : Nat}, (∀ k, k < n → f k ≤ g k) → sm f n ≤ sm g n
  | 0, _ => Nat.le_refl _
  | n + 1, h => by
    have h1 := sm_mono (f := f) (g := g) (n := n) (fun k hk => h k (by omega))
    have h2 := h n (by omega)
    rw [sm, sm]
    omega
theorem sm_add {f : Nat → Nat} : ∀ {n : Nat} (m : Nat), sm f n ≤ sm f (n + m)
  | _, 0 => Nat.le_refl _
  | n, m + 1 => by
    have h1 := sm_add (f := f) (n := n) m
    show sm f n ≤ sm f (n + m) + f (n + m)
    omega
theorem lsm_le {q : Nat → Nat} (hb : q 0 ≤ 6) (all k : Nat) : lsm q all k ≤ pop8 all := by
  rw [← pop8_sm]
  refine Nat.le_trans (sm_mono (g := fun t => all / 2 ^ t % 2) (fun b _ => ?_)) ?_
  · show (if all / 2 ^ b % 2 = 1 then _ else 0) ≤ all / 2 ^ b % 2
    split
    · omega
    · omega
  · have := sm_add (f := fun t => all / 2 ^ t % 2) (n := q 0) (8 - q 0)
    rw [show q 0 + (8 - q 0) = 8 by omega] at this
    exact this
theorem lsx_le {q : Nat → Nat} (hb : q 0 ≤ 6) (all k : Nat) : lsx q all k ≤ 8 := by
  have h1 := lsm_le hb all k
  have h2 := pop8_le all
  unfold lsx
  split <;> omega
theorem lsn_le {q : Nat → Nat} (hb : q 0 ≤ 6) (all far : Nat) (hf : far < 2 ^ 31) : ∀ k, (lsn q all far k).2 < 2 ^ 31
  | 0 => hf
  | k + 1 => by
    have h := lsn_le hb all far hf k
    have h1 := lsx_le hb all k
    unfold lsn
    split
    · show lsx q all k < 2 ^ 31; omega
    · exact h
theorem lp_ls1 (h12 : Lay12 E S o) {R : Room} {Q : QT} {q : Nat → Nat} {x all k : Nat} {v3 v4 : Int32} (hR : 1 ≤ R.frames ∧ 100 ≤ R.locals) (hr : RowM I (o + 2) q) (hq : wq q) (ha : all < 256) (hk64 : k < 64) (hk : V E kX12_listen R Q 0 0 S I L 103 [(0, .ref o), (1, .int (nI x)), (2, .int (nI all)), (3, .int v3), (4, .int v4), (5, .int (nI k)), (6, .int (nI (lsm q all k))), (7, .int (nI (q 0)))] []) : V E kX12_listen R Q 0 0 S I L 49 [(0, .ref o), (1, .int (nI x)), (2, .int (nI all)), (3, .int v3), (4, .int v4), (5, .int (nI k)), (6, .int (nI 0)), (7, .int (nI 0))] [] := by
  have hnb := hq.nb
  refine loopUp (P := fun j => V E kX12_listen R Q 0 0 S I L 49 [(0, .ref o), (1, .int (nI x)), (2, .int (nI all)), (3, .int v3), (4, .int v4), (5, .int (nI k)), (6, .int (nI (sm (fun b => if all / 2 ^ b % 2 = 1 then nt q b (k / 8) / 2 ^ (k % 8) % 2 else 0) j))), (7, .int (nI j))] []) (n := q 0) ?_ ?_ 0 (by omega)
  · skip
    refine V_iload (pc := 49) dX12_listen_49 rfl ?_
    refine V_aload_n (pc := 51) dX12_listen_51 rfl ?_
    refine V_getR (pc := 52) 12 3 dX12_listen_52 flX12_13 (by decide) h12.o h12.R3 ?_
    refine V_iconst (pc := 55) (v := nI 0) dX12_listen_55 (by decide) ?_
    refine V_ialoadE (pc := 56) dX12_listen_56 h12.A3 (by first | decide | omega) (by omega) (hr.n (by omega)) ?_
    refine V_icmp_geN (pc := 57) (tgt := 103) dX12_listen_57 (by decide) (by omega) (by omega) (fun c57 => ?_) (fun n57 => absurd n57 (by omega))
    exact hk
  · intro j hj ih
    have n1 := nt_lt hq (show j < 6 by omega) (show k / 8 < 8 by omega)
    rw [sm] at ih
    refine V_iload (pc := 49) dX12_listen_49 rfl ?_
    refine V_aload_n (pc := 51) dX12_listen_51 rfl ?_
    refine V_getR (pc := 52) 12 3 dX12_listen_52 flX12_13 (by decide) h12.o h12.R3 ?_
    refine V_iconst (pc := 55) (v := nI 0) dX12_listen_55 (by decide) ?_
    refine V_ialoadE (pc := 56) dX12_listen_56 h12.A3 (by first | decide | omega) (by omega) (hr.n (by omega)) ?_
    refine V_icmp_geN (pc := 57) (tgt := 103) dX12_listen_57 (by decide) (by omega) (by omega) (fun c57 => absurd c57 (by omega)) (fun n57 => ?_)
    refine V_iload (pc := 60) dX12_listen_60 rfl ?_
    refine V_iload_n (pc := 62) dX12_listen_62 rfl ?_
    refine V_iload (pc := 63) dX12_listen_63 rfl ?_
    refine V_callSd (pc := 65) (c_X12_is (by first | assumption | omega) (by first | assumption | omega)) dX12_listen_65 mlX12_458 mkX12_is rfl rfl ⟨by omega, by show 8 + (_ + 11) + 64 * 0 ≤ _; simp only []; omega⟩ (Nat.le_of_ble_eq_true rfl) ⟨by omega, by omega⟩ ?_
    refine V_if_eqB (pc := 68) (tgt := 93) dX12_listen_68 (by decide) (fun c68 => ?_) (fun n68 => ?_)
    · skip
      rw [if_neg (of_decide_eq_false c68)] at ih
      refine V_iconst (pc := 93) (v := nI 0) dX12_listen_93 (by decide) ?_
      refine V_iaddN (pc := 94) dX12_listen_94 ?_
      refine V_istore (pc := 95) (ls' := [(0, _), (1, _), (2, _), (3, _), (4, _), (5, _), (6, _), (7, _)]) dX12_listen_95 (by decide) rfl ?_
      refine V_iinc1 (pc := 97) (ls' := [(0, _), (1, _), (2, _), (3, _), (4, _), (5, _), (6, _), (7, _)]) dX12_listen_97 rfl (by decide) rfl ?_
      refine V_goto (pc := 100) (tgt := 49) dX12_listen_100 (by decide) ?_
      exact ih
    · skip
      rw [if_pos (of_decide_eq_true n68)] at ih
      refine V_aload_n (pc := 71) dX12_listen_71 rfl ?_
      refine V_iload (pc := 72) dX12_listen_72 rfl ?_
      refine V_iload (pc := 74) dX12_listen_74 rfl ?_
      refine V_bipush (pc := 76) (v := nI 8) dX12_listen_76 (by decide) ?_
      refine V_idivN (pc := 78) dX12_listen_78 (by omega) (by omega) (by omega) ?_
      refine V_callVd (pc := 79) (ci := 12) (c_X12_notesAt (by first | assumption | omega | exact h12) (by first | assumption | omega | exact h12) (by first | assumption | omega | exact h12) (by first | assumption | omega | exact h12) (by first | assumption | omega | exact h12)) dX12_listen_79 mlX12_204 mkX12_notesAt rfl rfl h12.o ⟨by decide, rfl⟩ ⟨by omega, by show 8 + (_ + 11) + 64 * 0 ≤ _; simp only []; omega⟩ (Nat.le_of_ble_eq_true rfl) ⟨by omega, by omega⟩ ?_
      refine V_iload (pc := 82) dX12_listen_82 rfl ?_
      refine V_bipush (pc := 84) (v := nI 8) dX12_listen_84 (by decide) ?_
      refine V_iremN (pc := 86) dX12_listen_86 (by omega) (by omega) (by omega) ?_
      refine V_ishrN (pc := 87) dX12_listen_87 (by omega) (by omega) ?_
      refine V_iconst (pc := 88) (v := nI 1) dX12_listen_88 (by decide) ?_
      refine V_iand1 (pc := 89) dX12_listen_89 ?_
      refine V_goto (pc := 90) (tgt := 94) dX12_listen_90 (by decide) ?_
      refine V_iaddN (pc := 94) dX12_listen_94 ?_
      refine V_istore (pc := 95) (ls' := [(0, _), (1, _), (2, _), (3, _), (4, _), (5, _), (6, _), (7, _)]) dX12_listen_95 (by decide) rfl ?_
      refine V_iinc1 (pc := 97) (ls' := [(0, _), (1, _), (2, _), (3, _), (4, _), (5, _), (6, _), (7, _)]) dX12_listen_97 rfl (by decide) rfl ?_
      refine V_goto (pc := 100) (tgt := 49) dX12_listen_100 (by decide) ?_
      exact ih
theorem lp_listen (h12 : Lay12 E S o) {R : Room} {q : Nat → Nat} {k all : Nat} {post : Option Value → ST → IT → LT → Prop} (hR : 1 ≤ R.frames ∧ 100 ≤ R.locals) (hr : RowM I (o + 2) q) (hq : wq q) (hk2 : k < 2) (ha : all < 64) (hp : post (some (.int (if k = 0 then (lsn q all 100000000 64).1 else nI (lsn q all 100000000 64).2))) S I L) : V E kX12_listen R (QM E post 0 0) 0 0 S I L 36 [(0, .ref o), (1, .int (nI k)), (2, .int (nI all)), (3, .int (nI 100000000)), (4, .int (-1)), (5, .int (nI 0))] [] := by
  have hnb := hq.nb
  refine loopUp (P := fun j => V E kX12_listen R (QM E post 0 0) 0 0 S I L 36 [(0, .ref o), (1, .int (nI k)), (2, .int (nI all)), (3, .int (nI (lsn q all 100000000 j).2)), (4, .int (lsn q all 100000000 j).1), (5, .int (nI j))] []) (n := 64) ?_ ?_ 0 (by omega)
  · have hls := lsn_le hnb all 100000000 (by omega) 64
    refine V_iload (pc := 36) dX12_listen_36 rfl ?_
    refine V_bipush (pc := 38) (v := nI 64) dX12_listen_38 (by decide) ?_
    refine V_icmp_geN (pc := 40) (tgt := 175) dX12_listen_40 (by decide) (by omega) (by omega) (fun c40 => ?_) (fun n40 => absurd n40 (by omega))
    refine V_iload_n (pc := 175) dX12_listen_175 rfl ?_
    refine V_if_neN (pc := 176) (tgt := 184) dX12_listen_176 (by decide) (by omega) (fun c176 => ?_) (fun n176 => ?_)
    · skip
      refine V_iload_n (pc := 184) dX12_listen_184 rfl ?_
      refine V_iret (pc := 185) dX12_listen_185 rfl (by first | decide | omega) (by first | decide | omega) ?_
      first | (rw [if_pos n176] at hp; exact hp) | (rw [if_neg c176] at hp; exact hp)
    · skip
      refine V_iload (pc := 179) dX12_listen_179 rfl ?_
      refine V_goto (pc := 181) (tgt := 185) dX12_listen_181 (by decide) ?_
      refine V_iret (pc := 185) dX12_listen_185 rfl (by first | decide | omega) (by first | decide | omega) ?_
      first | (rw [if_pos n176] at hp; exact hp) | (rw [if_neg c176] at hp; exact hp)
  · intro j hj ih
    have hls := lsn_le hnb all 100000000 (by omega) j
    have hl1 := lsm_le hnb all j
    have hl2 := pop8_le all
    rw [lsn] at ih
    refine V_iload (pc := 36) dX12_listen_36 rfl ?_
    refine V_bipush (pc := 38) (v := nI 64) dX12_listen_38 (by decide) ?_
    refine V_icmp_geN (pc := 40) (tgt := 175) dX12_listen_40 (by decide) (by omega) (by omega) (fun c40 => absurd c40 (by omega)) (fun n40 => ?_)
    refine V_iconst (pc := 43) (v := nI 0) dX12_listen_43 (by decide) ?_
    refine V_istore (pc := 44) (ls' := [(0, _), (1, _), (2, _), (3, _), (4, _), (5, _), (6, _)]) dX12_listen_44 (by decide) rfl ?_
    refine V_iconst (pc := 46) (v := nI 0) dX12_listen_46 (by decide) ?_
    refine V_istore (pc := 47) (ls' := [(0, _), (1, _), (2, _), (3, _), (4, _), (5, _), (6, _), (7, _)]) dX12_listen_47 (by decide) rfl ?_
    refine lp_ls1 h12 hR hr hq (by omega) hj ?_
    refine V_iload (pc := 103) dX12_listen_103 rfl ?_
    refine V_iload_n (pc := 105) dX12_listen_105 rfl ?_
    refine V_callSd (pc := 106) (c_X12_ones (by first | assumption | omega)) dX12_listen_106 mlX12_208 mkX12_ones rfl rfl ⟨by omega, by show 8 + (_ + 11) + 64 * 0 ≤ _; simp only []; omega⟩ (Nat.le_of_ble_eq_true rfl) ⟨by omega, by omega⟩ ?_
    refine V_iload (pc := 109) dX12_listen_109 rfl ?_
    refine V_isubN (pc := 111) dX12_listen_111 (by omega) ?_
    refine V_icmp_leN (pc := 112) (tgt := 120) dX12_listen_112 (by decide) (by omega) (by omega) (fun c112 => ?_) (fun n112 => ?_)
    · skip
      have hX : lsx q all j = pop8 all - lsm q all j := if_neg (by omega)
      refine V_iload_n (pc := 120) dX12_listen_120 rfl ?_
      refine V_callSd (pc := 121) (c_X12_ones (by first | assumption | omega)) dX12_listen_121 mlX12_208 mkX12_ones rfl rfl ⟨by omega, by show 8 + (_ + 11) + 64 * 0 ≤ _; simp only []; omega⟩ (Nat.le_of_ble_eq_true rfl) ⟨by omega, by omega⟩ ?_
      refine V_iload (pc := 124) dX12_listen_124 rfl ?_
      refine V_isubN (pc := 126) dX12_listen_126 (by omega) ?_
      refine V_istore (pc := 127) (ls' := [(0, _), (1, _), (2, _), (3, _), (4, _), (5, _), (6, _), (7, _)]) dX12_listen_127 (by decide) rfl ?_
      refine V_iload (pc := 129) dX12_listen_129 rfl ?_
      refine V_iload_n (pc := 131) dX12_listen_131 rfl ?_
      refine V_icmp_geN (pc := 132) (tgt := 152) dX12_listen_132 (by decide) (by omega) (by omega) (fun c132 => ?_) (fun n132 => ?_)
      · skip
        rw [hX, if_neg (by omega)] at ih
        refine V_iload (pc := 152) dX12_listen_152 rfl ?_
        refine V_istore (pc := 154) (ls' := [(0, _), (1, _), (2, _), (3, _), (4, _), (5, _), (6, _), (7, _)]) dX12_listen_154 (by decide) rfl ?_
        refine V_iload (pc := 156) dX12_listen_156 rfl ?_
        refine V_iload_n (pc := 158) dX12_listen_158 rfl ?_
        refine V_icmp_geN (pc := 159) (tgt := 167) dX12_listen_159 (by decide) (by omega) (by omega) (fun c159 => ?_) (fun n159 => ?_)
        · skip
          refine V_iload_n (pc := 167) dX12_listen_167 rfl ?_
          refine V_istore_n (pc := 168) (ls' := [(0, _), (1, _), (2, _), (3, _), (4, _), (5, _), (6, _), (7, _)]) dX12_listen_168 (by decide) rfl ?_
          refine V_loc [0, 1, 2, 3, 4, 5] rfl ?_
          refine V_iinc1 (pc := 169) (ls' := [(0, _), (1, _), (2, _), (3, _), (4, _), (5, _)]) dX12_listen_169 rfl (by decide) rfl ?_
          refine V_goto (pc := 172) (tgt := 36) dX12_listen_172 (by decide) ?_
          first | exact ih | omega
        · skip
          refine V_iload (pc := 162) dX12_listen_162 rfl ?_
          refine V_goto (pc := 164) (tgt := 168) dX12_listen_164 (by decide) ?_
          refine V_istore_n (pc := 168) (ls' := [(0, _), (1, _), (2, _), (3, _), (4, _), (5, _), (6, _), (7, _)]) dX12_listen_168 (by decide) rfl ?_
          refine V_loc [0, 1, 2, 3, 4, 5] rfl ?_
          refine V_iinc1 (pc := 169) (ls' := [(0, _), (1, _), (2, _), (3, _), (4, _), (5, _)]) dX12_listen_169 rfl (by decide) rfl ?_
          refine V_goto (pc := 172) (tgt := 36) dX12_listen_172 (by decide) ?_
          first | exact ih | omega
      · skip
        rw [hX, if_pos (by omega)] at ih
        refine V_bipush (pc := 135) (v := nI 10) dX12_listen_135 (by decide) ?_
        refine V_iload (pc := 137) dX12_listen_137 rfl ?_
        refine V_bipush (pc := 139) (v := nI 8) dX12_listen_139 (by decide) ?_
        refine V_idivN (pc := 141) dX12_listen_141 (by omega) (by omega) (by omega) ?_
        refine V_imulN (pc := 142) dX12_listen_142 ?_
        refine V_iload (pc := 143) dX12_listen_143 rfl ?_
        refine V_bipush (pc := 145) (v := nI 8) dX12_listen_145 (by decide) ?_
        refine V_iremN (pc := 147) dX12_listen_147 (by omega) (by omega) (by omega) ?_
        refine V_iaddN (pc := 148) dX12_listen_148 ?_
        refine V_goto (pc := 149) (tgt := 154) dX12_listen_149 (by decide) ?_
        refine V_istore (pc := 154) (ls' := [(0, _), (1, _), (2, _), (3, _), (4, _), (5, _), (6, _), (7, _)]) dX12_listen_154 (by decide) rfl ?_
        refine V_iload (pc := 156) dX12_listen_156 rfl ?_
        refine V_iload_n (pc := 158) dX12_listen_158 rfl ?_
        refine V_icmp_geN (pc := 159) (tgt := 167) dX12_listen_159 (by decide) (by omega) (by omega) (fun c159 => ?_) (fun n159 => ?_)
        · skip
          refine V_iload_n (pc := 167) dX12_listen_167 rfl ?_
          refine V_istore_n (pc := 168) (ls' := [(0, _), (1, _), (2, _), (3, _), (4, _), (5, _), (6, _), (7, _)]) dX12_listen_168 (by decide) rfl ?_
          refine V_loc [0, 1, 2, 3, 4, 5] rfl ?_
          refine V_iinc1 (pc := 169) (ls' := [(0, _), (1, _), (2, _), (3, _), (4, _), (5, _)]) dX12_listen_169 rfl (by decide) rfl ?_
          refine V_goto (pc := 172) (tgt := 36) dX12_listen_172 (by decide) ?_
          first | exact ih | omega
        · skip
          refine V_iload (pc := 162) dX12_listen_162 rfl ?_
          refine V_goto (pc := 164) (tgt := 168) dX12_listen_164 (by decide) ?_
          refine V_istore_n (pc := 168) (ls' := [(0, _), (1, _), (2, _), (3, _), (4, _), (5, _), (6, _), (7, _)]) dX12_listen_168 (by decide) rfl ?_
          refine V_loc [0, 1, 2, 3, 4, 5] rfl ?_
          refine V_iinc1 (pc := 169) (ls' := [(0, _), (1, _), (2, _), (3, _), (4, _), (5, _)]) dX12_listen_169 rfl (by decide) rfl ?_
          refine V_goto (pc := 172) (tgt := 36) dX12_listen_172 (by decide) ?_
          first | exact ih | omega
    · skip
      have hX : lsx q all j = lsm q all j := if_pos (by omega)
      refine V_iload (pc := 115) dX12_listen_115 rfl ?_
      refine V_goto (pc := 117) (tgt := 127) dX12_listen_117 (by decide) ?_
      refine V_istore (pc := 127) (ls' := [(0, _), (1, _), (2, _), (3, _), (4, _), (5, _), (6, _), (7, _)]) dX12_listen_127 (by decide) rfl ?_
      refine V_iload (pc := 129) dX12_listen_129 rfl ?_
      refine V_iload_n (pc := 131) dX12_listen_131 rfl ?_
      refine V_icmp_geN (pc := 132) (tgt := 152) dX12_listen_132 (by decide) (by omega) (by omega) (fun c132 => ?_) (fun n132 => ?_)
      · skip
        rw [hX, if_neg (by omega)] at ih
        refine V_iload (pc := 152) dX12_listen_152 rfl ?_
        refine V_istore (pc := 154) (ls' := [(0, _), (1, _), (2, _), (3, _), (4, _), (5, _), (6, _), (7, _)]) dX12_listen_154 (by decide) rfl ?_
        refine V_iload (pc := 156) dX12_listen_156 rfl ?_
        refine V_iload_n (pc := 158) dX12_listen_158 rfl ?_
        refine V_icmp_geN (pc := 159) (tgt := 167) dX12_listen_159 (by decide) (by omega) (by omega) (fun c159 => ?_) (fun n159 => ?_)
        · skip
          refine V_iload_n (pc := 167) dX12_listen_167 rfl ?_
          refine V_istore_n (pc := 168) (ls' := [(0, _), (1, _), (2, _), (3, _), (4, _), (5, _), (6, _), (7, _)]) dX12_listen_168 (by decide) rfl ?_
          refine V_loc [0, 1, 2, 3, 4, 5] rfl ?_
          refine V_iinc1 (pc := 169) (ls' := [(0, _), (1, _), (2, _), (3, _), (4, _), (5, _)]) dX12_listen_169 rfl (by decide) rfl ?_
          refine V_goto (pc := 172) (tgt := 36) dX12_listen_172 (by decide) ?_
          first | exact ih | omega
        · skip
          refine V_iload (pc := 162) dX12_listen_162 rfl ?_
          refine V_goto (pc := 164) (tgt := 168) dX12_listen_164 (by decide) ?_
          refine V_istore_n (pc := 168) (ls' := [(0, _), (1, _), (2, _), (3, _), (4, _), (5, _), (6, _), (7, _)]) dX12_listen_168 (by decide) rfl ?_
          refine V_loc [0, 1, 2, 3, 4, 5] rfl ?_
          refine V_iinc1 (pc := 169) (ls' := [(0, _), (1, _), (2, _), (3, _), (4, _), (5, _)]) dX12_listen_169 rfl (by decide) rfl ?_
          refine V_goto (pc := 172) (tgt := 36) dX12_listen_172 (by decide) ?_
          first | exact ih | omega
      · skip
        rw [hX, if_pos (by omega)] at ih
        refine V_bipush (pc := 135) (v := nI 10) dX12_listen_135 (by decide) ?_
        refine V_iload (pc := 137) dX12_listen_137 rfl ?_
        refine V_bipush (pc := 139) (v := nI 8) dX12_listen_139 (by decide) ?_
        refine V_idivN (pc := 141) dX12_listen_141 (by omega) (by omega) (by omega) ?_
        refine V_imulN (pc := 142) dX12_listen_142 ?_
        refine V_iload (pc := 143) dX12_listen_143 rfl ?_
        refine V_bipush (pc := 145) (v := nI 8) dX12_listen_145 (by decide) ?_
        refine V_iremN (pc := 147) dX12_listen_147 (by omega) (by omega) (by omega) ?_
        refine V_iaddN (pc := 148) dX12_listen_148 ?_
        refine V_goto (pc := 149) (tgt := 154) dX12_listen_149 (by decide) ?_
        refine V_istore (pc := 154) (ls' := [(0, _), (1, _), (2, _), (3, _), (4, _), (5, _), (6, _), (7, _)]) dX12_listen_154 (by decide) rfl ?_
        refine V_iload (pc := 156) dX12_listen_156 rfl ?_
        refine V_iload_n (pc := 158) dX12_listen_158 rfl ?_
        refine V_icmp_geN (pc := 159) (tgt := 167) dX12_listen_159 (by decide) (by omega) (by omega) (fun c159 => ?_) (fun n159 => ?_)
        · skip
          refine V_iload_n (pc := 167) dX12_listen_167 rfl ?_
          refine V_istore_n (pc := 168) (ls' := [(0, _), (1, _), (2, _), (3, _), (4, _), (5, _), (6, _), (7, _)]) dX12_listen_168 (by decide) rfl ?_
          refine V_loc [0, 1, 2, 3, 4, 5] rfl ?_
          refine V_iinc1 (pc := 169) (ls' := [(0, _), (1, _), (2, _), (3, _), (4, _), (5, _)]) dX12_listen_169 rfl (by decide) rfl ?_
          refine V_goto (pc := 172) (tgt := 36) dX12_listen_172 (by decide) ?_
          first | exact ih | omega
        · skip
          refine V_iload (pc := 162) dX12_listen_162 rfl ?_
          refine V_goto (pc := 164) (tgt := 168) dX12_listen_164 (by decide) ?_
          refine V_istore_n (pc := 168) (ls' := [(0, _), (1, _), (2, _), (3, _), (4, _), (5, _), (6, _), (7, _)]) dX12_listen_168 (by decide) rfl ?_
          refine V_loc [0, 1, 2, 3, 4, 5] rfl ?_
          refine V_iinc1 (pc := 169) (ls' := [(0, _), (1, _), (2, _), (3, _), (4, _), (5, _)]) dX12_listen_169 rfl (by decide) rfl ?_
          refine V_goto (pc := 172) (tgt := 36) dX12_listen_172 (by decide) ?_
          first | exact ih | omega
theorem c_X12_listen (h12 : Lay12 E S o) (hM : MR o I L A) (hA : wfA A) {x : Int32} : Cm E kX12_listen 3 [.ref o, .int x] S I L o (.int (spListen A x)) A := by
  have hq := hA.q
  have hnb := hq.nb
  have hwh : whc (aq A) < 64 := Nat.lt_of_lt_of_le (bts_lt _ _) (p64 hnb)
  have e1 : decide (lN 0 ≤ x.toInt64 ∧ x.toInt64 ≤ lN 1) = bnd x 2 := bnd64' (n := 1) (by omega)
  refine C_of (by decide) (Nat.le_of_ble_eq_true rfl) ?_
  refine V_aload_n (pc := 0) dX12_listen_0 rfl ?_
  refine V_iconst (pc := 1) (v := nI 0) dX12_listen_1 (by decide) ?_
  refine V_putI (pc := 2) 12 0 dX12_listen_2 flX12_175 (by decide) (by decide) (Or.inl rfl) rfl rfl h12.o ?_
  have hM := hM.thrown (v := nI 0)
  have hF : FrM o (up2 I o 0 (nI 0)) I L L := FrM.rf.up (by omega)
  generalize up2 I o 0 (nI 0) = I0 at hM hF ⊢
  have hr := hM.row
  refine V_aload_n (pc := 5) dX12_listen_5 rfl ?_
  refine V_callVd (pc := 6) (ci := 12) (c_X12_whichAre (by first | assumption | omega | exact h12) (by first | assumption | omega | exact h12) (by first | assumption | omega | exact h12)) dX12_listen_6 mlX12_484 mkX12_whichAre rfl rfl h12.o ⟨by decide, rfl⟩ ⟨Nat.le_of_ble_eq_true rfl, Nat.le_of_ble_eq_true rfl⟩ (Nat.le_of_ble_eq_true rfl) ⟨Nat.le_of_ble_eq_true rfl, Nat.le_of_ble_eq_true rfl⟩ ?_
  refine V_istore_n (pc := 9) (ls' := [(0, _), (1, _), (2, _)]) dX12_listen_9 (by decide) rfl ?_
  refine V_iload_n (pc := 10) dX12_listen_10 rfl ?_
  refine V_i2l (pc := 11) dX12_listen_11 rfl ?_
  refine V_lconst (pc := 12) (v := lN 0) dX12_listen_12 (by decide) ?_
  refine V_lconst (pc := 13) (v := lN 1) dX12_listen_13 (by decide) ?_
  refine V_callSd (pc := 14) (c_X12_in) dX12_listen_14 mlX12_195 mkX12_in rfl rfl ⟨Nat.le_of_ble_eq_true rfl, Nat.le_of_ble_eq_true rfl⟩ (Nat.le_of_ble_eq_true rfl) ⟨Nat.le_of_ble_eq_true rfl, Nat.le_of_ble_eq_true rfl⟩ ?_
  refine V_if_eqB (pc := 17) (tgt := 24) dX12_listen_17 (by decide) (fun c17 => ?_) (fun n17 => ?_)
  · skip
    refine V_iconst (pc := 24) (v := (-1)) dX12_listen_24 (by decide) ?_
    refine V_iret (pc := 25) dX12_listen_25 rfl (by first | decide | omega) (by first | decide | omega) ?_
    first
    | (rw [e1] at c17; rw [spListen, if_neg (fun w => by rw [w.1] at c17; exact absurd c17 (by decide))]; exact ⟨rfl, rfl, hM, hF⟩)
    | (rw [spListen, if_neg (fun w => w.2 n21)]; exact ⟨rfl, rfl, hM, hF⟩)
  · skip
    refine V_iload_n (pc := 20) dX12_listen_20 rfl ?_
    refine V_if_neN (pc := 21) (tgt := 26) dX12_listen_21 (by decide) (by omega) (fun c21 => ?_) (fun n21 => ?_)
    · skip
      rw [e1] at n17
      obtain ⟨k, hk, hx⟩ := bnd_ex (by omega) n17
      rw [spListen, if_pos ⟨n17, c21⟩]
      subst hx
      rw [cln_nI (by omega)]
      refine V_ldcw (pc := 26) dX12_listen_26 coX12_487 ?_
      refine V_istore_n (pc := 29) (ls' := [(0, _), (1, _), (2, _), (3, _)]) dX12_listen_29 (by decide) rfl ?_
      refine V_iconst (pc := 30) (v := (-1)) dX12_listen_30 (by decide) ?_
      refine V_istore (pc := 31) (ls' := [(0, _), (1, _), (2, _), (3, _), (4, _)]) dX12_listen_31 (by decide) rfl ?_
      refine V_iconst (pc := 33) (v := nI 0) dX12_listen_33 (by decide) ?_
      refine V_istore (pc := 34) (ls' := [(0, _), (1, _), (2, _), (3, _), (4, _), (5, _)]) dX12_listen_34 (by decide) rfl ?_
      exact lp_listen h12 ⟨by decide, by decide⟩ hr hq (by omega) (by omega) ⟨rfl, rfl, hM, hF⟩
    · skip
      refine V_iconst (pc := 24) (v := (-1)) dX12_listen_24 (by decide) ?_
      refine V_iret (pc := 25) dX12_listen_25 rfl (by first | decide | omega) (by first | decide | omega) ?_
      first
      | (rw [e1] at c17; rw [spListen, if_neg (fun w => by rw [w.1] at c17; exact absurd c17 (by decide))]; exact ⟨rfl, rfl, hM, hF⟩)
      | (rw [spListen, if_neg (fun w => w.2 n21)]; exact ⟨rfl, rfl, hM, hF⟩)
end MI7
