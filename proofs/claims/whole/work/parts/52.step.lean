/-! THE REFERENCE reads: one step -/
section PB
variable {E : EnT} {S : ST} {I I0 : IT} {L L0 : LT} {o n p l d : Nat} {t : Nat → Nat} {P : List (Nat × Nat)} {c : CT} {b : Option Nat}
theorem PlM.suf {I : IT} {o : Nat} {R : List (Nat × Nat)} : ∀ {Q : List (Nat × Nat)}, PlM I o (Q ++ R) → PlM I o R
  | [], h => h
  | _ :: _, h => PlM.suf h.2
theorem inr_le {P : List (Nat × Nat)} (h : ∀ x ∈ P, x.1 ≤ 32) : inr P ≤ 33 := by
  induction P with
  | nil => rw [inr]; omega
  | cons x P ih =>
    rw [inr]
    have := h x (by simp)
    split
    · omega
    · exact ih fun y hy => h y (List.mem_cons_of_mem x hy)
theorem lp_inner (h12 : Lay12 E S o) {Q : QT} (h29 : I o 29 = nI P.length) (hl : P.length ≤ 400) (hx : ∀ x ∈ P, x.1 ≤ 32) (hk : V E kX12_inner (rmOf 0 0 0) Q 0 0 S I L 40 [(0, .ref o), (1, .int (pred1 (inr P))), (2, .int (nI P.length))] []) : ∀ (U R : List (Nat × Nat)), P = U.reverse ++ R → PlM I o P → V E kX12_inner (rmOf 0 0 0) Q 0 0 S I L 4 [(0, .ref o), (1, .int (pred1 (inr R))), (2, .int (nI R.length))] [] := by
  intro U
  induction U with
  | nil =>
    intro R hP hM
    have e : P = R := by rw [hP]; rfl
    subst e
    refine V_iload_n (pc := 4) dX12_inner_4 rfl ?_
    refine V_aload_n (pc := 5) dX12_inner_5 rfl ?_
    refine V_getIE (pc := 6) 12 29 dX12_inner_6 flX12_315 (by decide) h12.o (h29) ?_
    refine V_icmp_geN (pc := 9) (tgt := 40) dX12_inner_9 (by decide) (by omega) (by omega) (fun c9 => ?_) (fun n9 => absurd n9 (by omega))
    exact hk
  | cons x U ih =>
    intro R hP hM
    have hP2 : P = U.reverse ++ (x :: R) := by rw [hP]; simp
    have hM2 : PlM I o (x :: R) := PlM.suf (Q := U.reverse) (hP2 ▸ hM)
    have h13 := hM2.1.1
    have hlen : R.length + 1 + U.length = P.length := by rw [hP]; simp; omega
    have hx2 : x.1 ≤ 32 := hx x (by rw [hP2]; simp)
    have st := ih (x :: R) hP2 hM
    have e2 : (x :: R).length = R.length + 1 := rfl
    rw [e2] at st
    refine V_iload_n (pc := 4) dX12_inner_4 rfl ?_
    refine V_aload_n (pc := 5) dX12_inner_5 rfl ?_
    refine V_getIE (pc := 6) 12 29 dX12_inner_6 flX12_315 (by decide) h12.o (h29) ?_
    refine V_icmp_geN (pc := 9) (tgt := 40) dX12_inner_9 (by decide) (by omega) (by omega) (fun c9 => absurd c9 (by omega)) (fun n9 => ?_)
    refine V_aload_n (pc := 12) dX12_inner_12 rfl ?_
    refine V_getR (pc := 13) 12 27 dX12_inner_13 flX12_51 (by decide) h12.o h12.R27 ?_
    refine V_iload_n (pc := 16) dX12_inner_16 rfl ?_
    refine V_ialoadE (pc := 17) dX12_inner_17 h12.A27 (by first | decide | omega) (by omega) (h13) ?_
    refine V_bipush (pc := 18) (v := nI 31) dX12_inner_18 (by decide) ?_
    refine V_icmp_ltN (pc := 20) (tgt := 32) dX12_inner_20 (by decide) (by omega) (by omega) (fun c20 => ?_) (fun n20 => ?_)
    · skip
      rw [inr, if_neg (by omega)] at st
      refine V_iload_n (pc := 32) dX12_inner_32 rfl ?_
      refine V_istore_n (pc := 33) (ls' := [(0, _), (1, _), (2, _)]) dX12_inner_33 (by decide) rfl ?_
      refine V_iinc1 (pc := 34) (ls' := [(0, _), (1, _), (2, _)]) dX12_inner_34 rfl (by decide) rfl ?_
      refine V_goto (pc := 37) (tgt := 4) dX12_inner_37 (by decide) ?_
      exact st
    · skip
      rw [inr, if_pos (by omega), pred1_s] at st
      refine V_aload_n (pc := 23) dX12_inner_23 rfl ?_
      refine V_getR (pc := 24) 12 27 dX12_inner_24 flX12_51 (by decide) h12.o h12.R27 ?_
      refine V_iload_n (pc := 27) dX12_inner_27 rfl ?_
      refine V_ialoadE (pc := 28) dX12_inner_28 h12.A27 (by first | decide | omega) (by omega) (h13) ?_
      refine V_goto (pc := 29) (tgt := 33) dX12_inner_29 (by decide) ?_
      refine V_istore_n (pc := 33) (ls' := [(0, _), (1, _), (2, _)]) dX12_inner_33 (by decide) rfl ?_
      refine V_iinc1 (pc := 34) (ls' := [(0, _), (1, _), (2, _)]) dX12_inner_34 rfl (by decide) rfl ?_
      refine V_goto (pc := 37) (tgt := 4) dX12_inner_37 (by decide) ?_
      exact st
theorem c_X12_inner (h12 : Lay12 E S o) (h : PS o t n I0 L0 I L b (p, l, d, P, c)) (hl : P.length ≤ 400) (hx : ∀ x ∈ P, x.1 ≤ 32) : Cd E kX12_inner 0 0 0 [.ref o] S I L (.int (pred1 (inr P))) S I L := by
  refine C_of (by decide) (Nat.le_of_ble_eq_true rfl) ?_
  refine V_iconst (pc := 0) (v := (-1)) dX12_inner_0 (by decide) ?_
  refine V_istore_n (pc := 1) (ls' := [(0, _), (1, _)]) dX12_inner_1 (by decide) rfl ?_
  refine V_iconst (pc := 2) (v := nI 0) dX12_inner_2 (by decide) ?_
  refine V_istore_n (pc := 3) (ls' := [(0, _), (1, _), (2, _)]) dX12_inner_3 (by decide) rfl ?_
  refine lp_inner h12 h.2.2.2.1 hl hx ?_ P.reverse [] (by simp) h.2.2.2.2.1
  refine V_iload_n (pc := 40) dX12_inner_40 rfl ?_
  exact V_iret dX12_inner_41 rfl (by decide) (by decide) ⟨rfl, rfl, rfl, rfl⟩
theorem pred1_iinc (m : Nat) : nI m + Int32.ofInt (-1) = pred1 m := by
  unfold pred1
  rw [Int32.sub_eq_add_neg]
  rfl
theorem inN {x a b : Nat} (hx : x < 1000) (ha : a < 1000) (hb : b < 1000) : decide (lN a ≤ lN x ∧ lN x ≤ lN b) = decide (a ≤ x ∧ x ≤ b) := by
  apply decide_eq_decide.mpr
  rw [i64_lN, i64_lN, i64_lN, i64_le ⟨by omega, by omega⟩ ⟨by omega, by omega⟩, i64_le ⟨by omega, by omega⟩ ⟨by omega, by omega⟩]
  omega
theorem c_X12_inN {x a b : Nat} (hx : x < 1000) (ha : a < 1000) (hb : b < 1000) : Cd E kX12_in 0 0 0 [.long (lN x), .long (lN a), .long (lN b)] S I L (.int (b2i (decide (a ≤ x ∧ x ≤ b)))) S I L := by
  rw [← inN hx ha hb]
  exact c_X12_in
theorem lp_cmpd (h12 : Lay12 E S o) {Q : QT} {v : Bool} (hz : ∀ z, V E kX12_isCompared (rmOf 1 0 0) Q 0 0 S I L 64 [(0, .ref o), (1, .int z)] [.int (b2i v)]) : ∀ (P : List (Nat × Nat)), PlM I o P → P.length ≤ 400 → (∀ x ∈ P, x.1 ≤ 32) → cmpd P = v → V E kX12_isCompared (rmOf 1 0 0) Q 0 0 S I L 7 [(0, .ref o), (1, .int (pred1 P.length))] [] := by
  intro P
  induction P with
  | nil =>
    intro _ _ _ hv
    have e : v = false := hv.symm
    subst e
    rw [show pred1 ([] : List (Nat × Nat)).length = -1 from pred1_0]
    refine V_iload_n (pc := 7) dX12_isCompared_7 rfl ?_
    refine V_if_lt (pc := 8) (tgt := 36) dX12_isCompared_8 (by decide) (fun c8 => ?_) (fun n8 => absurd n8 (by decide))
    refine V_iload_n (pc := 36) dX12_isCompared_36 rfl ?_
    refine V_if_lt (pc := 37) (tgt := 63) dX12_isCompared_37 (by decide) (fun c37 => ?_) (fun n37 => absurd n37 (by decide))
    refine V_iconst (pc := 63) (v := nI 0) dX12_isCompared_63 (by decide) ?_
    exact hz _
  | cons x P ih =>
    intro hM hl hx hv
    have e1 : (x :: P).length = P.length + 1 := rfl
    rw [e1] at hl ⊢
    rw [pred1_s]
    have hx1 := hx x (by simp)
    have h13 := hM.1.1
    rw [cmpd] at hv
    by_cases h2 : 20 ≤ x.1 ∧ x.1 ≤ 24
    · rw [if_pos h2] at hv
      have st := ih hM.2 (by omega) (fun y hy => hx y (List.mem_cons_of_mem x hy)) hv
      refine V_iload_n (pc := 7) dX12_isCompared_7 rfl ?_
      refine V_if_ltN (pc := 8) (tgt := 36) dX12_isCompared_8 (by decide) (by omega) ?_
      refine V_aload_n (pc := 11) dX12_isCompared_11 rfl ?_
      refine V_getR (pc := 12) 12 27 dX12_isCompared_12 flX12_51 (by decide) h12.o h12.R27 ?_
      refine V_iload_n (pc := 15) dX12_isCompared_15 rfl ?_
      refine V_ialoadE (pc := 16) dX12_isCompared_16 h12.A27 (by first | decide | omega) (by omega) (h13) ?_
      refine V_i2lN (pc := 17) dX12_isCompared_17 (by omega) ?_
      refine V_ldc2 (pc := 18) dX12_isCompared_18 coX12_211 ?_
      refine V_ldc2 (pc := 21) dX12_isCompared_21 coX12_325 ?_
      refine V_callSd (pc := 24) (c_X12_inN (a := 20) (b := 24) (by omega) (by omega) (by omega)) dX12_isCompared_24 mlX12_195 mkX12_in rfl rfl ⟨Nat.le_of_ble_eq_true rfl, Nat.le_of_ble_eq_true rfl⟩ (Nat.le_of_ble_eq_true rfl) ⟨Nat.le_of_ble_eq_true rfl, Nat.le_of_ble_eq_true rfl⟩ ?_
      refine V_if_eqB (pc := 27) (tgt := 36) dX12_isCompared_27 (by decide) (fun c27 => absurd c27 (by rw [decide_eq_true h2]; decide)) (fun n27 => ?_)
      refine V_iinc (pc := 30) (ls' := [(0, _), (1, _)]) dX12_isCompared_30 rfl (pred1_iinc _) (by decide) rfl ?_
      refine V_goto (pc := 33) (tgt := 7) dX12_isCompared_33 (by decide) ?_
      exact st
    · rw [if_neg h2] at hv
      subst hv
      refine V_iload_n (pc := 7) dX12_isCompared_7 rfl ?_
      refine V_if_ltN (pc := 8) (tgt := 36) dX12_isCompared_8 (by decide) (by omega) ?_
      refine V_aload_n (pc := 11) dX12_isCompared_11 rfl ?_
      refine V_getR (pc := 12) 12 27 dX12_isCompared_12 flX12_51 (by decide) h12.o h12.R27 ?_
      refine V_iload_n (pc := 15) dX12_isCompared_15 rfl ?_
      refine V_ialoadE (pc := 16) dX12_isCompared_16 h12.A27 (by first | decide | omega) (by omega) (h13) ?_
      refine V_i2lN (pc := 17) dX12_isCompared_17 (by omega) ?_
      refine V_ldc2 (pc := 18) dX12_isCompared_18 coX12_211 ?_
      refine V_ldc2 (pc := 21) dX12_isCompared_21 coX12_325 ?_
      refine V_callSd (pc := 24) (c_X12_inN (a := 20) (b := 24) (by omega) (by omega) (by omega)) dX12_isCompared_24 mlX12_195 mkX12_in rfl rfl ⟨Nat.le_of_ble_eq_true rfl, Nat.le_of_ble_eq_true rfl⟩ (Nat.le_of_ble_eq_true rfl) ⟨Nat.le_of_ble_eq_true rfl, Nat.le_of_ble_eq_true rfl⟩ ?_
      refine V_if_eqB (pc := 27) (tgt := 36) dX12_isCompared_27 (by decide) (fun c27 => ?_) (fun n27 => absurd n27 (by rw [decide_eq_false h2]; decide))
      refine V_iload_n (pc := 36) dX12_isCompared_36 rfl ?_
      refine V_if_ltN (pc := 37) (tgt := 63) dX12_isCompared_37 (by decide) (by omega) ?_
      refine V_aload_n (pc := 40) dX12_isCompared_40 rfl ?_
      refine V_getR (pc := 41) 12 27 dX12_isCompared_41 flX12_51 (by decide) h12.o h12.R27 ?_
      refine V_iload_n (pc := 44) dX12_isCompared_44 rfl ?_
      refine V_ialoadE (pc := 45) dX12_isCompared_45 h12.A27 (by first | decide | omega) (by omega) (h13) ?_
      refine V_i2lN (pc := 46) dX12_isCompared_46 (by omega) ?_
      refine V_ldc2 (pc := 47) dX12_isCompared_47 coX12_327 ?_
      refine V_ldc2 (pc := 50) dX12_isCompared_50 coX12_329 ?_
      refine V_callSd (pc := 53) (c_X12_inN (a := 25) (b := 27) (by omega) (by omega) (by omega)) dX12_isCompared_53 mlX12_195 mkX12_in rfl rfl ⟨Nat.le_of_ble_eq_true rfl, Nat.le_of_ble_eq_true rfl⟩ (Nat.le_of_ble_eq_true rfl) ⟨Nat.le_of_ble_eq_true rfl, Nat.le_of_ble_eq_true rfl⟩ ?_
      refine V_if_eqB (pc := 56) (tgt := 63) dX12_isCompared_56 (by decide) (fun c56 => ?_) (fun n56 => ?_)
      · skip
        rw [c56] at hz
        refine V_iconst (pc := 63) (v := nI 0) dX12_isCompared_63 (by decide) ?_
        exact hz _
      · skip
        rw [n56] at hz
        refine V_iconst (pc := 59) (v := nI 1) dX12_isCompared_59 (by decide) ?_
        refine V_goto (pc := 60) (tgt := 64) dX12_isCompared_60 (by decide) ?_
        exact hz _
theorem c_X12_isCompared (h12 : Lay12 E S o) (h : PS o t n I0 L0 I L b (p, l, d, P, c)) (hl : P.length ≤ 400) (hx : ∀ x ∈ P, x.1 ≤ 32) : Cd E kX12_isCompared 1 0 0 [.ref o] S I L (.int (b2i (cmpd P))) S I L := by
  have h29 : I o 29 = nI P.length := h.2.2.2.1
  refine C_of (by decide) (Nat.le_of_ble_eq_true rfl) ?_
  refine V_aload_n (pc := 0) dX12_isCompared_0 rfl ?_
  refine V_getIE (pc := 1) 12 29 dX12_isCompared_1 flX12_315 (by decide) h12.o (h29) ?_
  refine V_iconst (pc := 4) (v := nI 1) dX12_isCompared_4 (by decide) ?_
  refine V_isub (pc := 5) dX12_isCompared_5 ?_
  refine V_istore_n (pc := 6) (ls' := [(0, _), (1, _)]) dX12_isCompared_6 (by decide) rfl ?_
  refine lp_cmpd (v := cmpd P) h12 (fun z => ?_) P h.2.2.2.2.1 hl hx rfl
  exact V_zretB dX12_isCompared_64 rfl rfl (by decide) (by decide) ⟨rfl, rfl, rfl, rfl⟩
/-- which of some words it is, and one -/
def itk (g : Nat → Nat) (c : Nat) : Nat → Nat | 0 => 0 | k + 1 => if c = g k then k + 1 else itk g c k
theorem itk_s (g : Nat → Nat) (c k : Nat) : itk g c (k + 1) = if c = g k then k + 1 else itk g c k := rfl
theorem itk_le (g : Nat → Nat) (c : Nat) : ∀ k, itk g c k ≤ k
  | 0 => Nat.le_refl 0
  | k + 1 => by rw [itk]; split; exact Nat.le_refl _; have := itk_le g c k; omega
def itI (v : Nat) : Int32 := if v = 0 then -1 else nI v
theorem itI_s (k : Nat) : itI (k + 1) = nI (k + 1) := by unfold itI; rw [if_neg (by omega)]
def ow (k : Nat) : Nat := if k = 0 then 23 else if k = 5 then 18 else 24 + k
theorem ow_w : ∀ k, k < 6 → ow k < 29 ∧ tcv (ow k) = wrd2 k := by
  have h : ∀ k : Fin 6, ow k.1 < 29 ∧ tcv (ow k.1) = wrd2 k.1 := by decide
  exact fun k hk => h ⟨k, hk⟩
theorem lw_w : ∀ k, k < 9 → 16 + k < 29 ∧ tcv (16 + k) = wrd1 k := by
  have h : ∀ k : Fin 9, 16 + k.1 < 29 ∧ tcv (16 + k.1) = wrd1 k.1 := by decide
  exact fun k hk => h ⟨k, hk⟩
theorem c_X12_partAt (h12 : Lay12 E S o) (hT : TK o t n I L p) (hK : KL L o) : Cd E kX12_partAt 1 0 0 [.ref o] S I L (.int (itI (itk (fun k => 16 + k) (tc t n p) 9))) S I L := by
  refine C_of (by decide) (Nat.le_of_ble_eq_true rfl) ?_
  refine V_iconst (pc := 0) (v := (-1)) dX12_partAt_0 (by decide) ?_
  refine V_istore_n (pc := 1) (ls' := [(0, _), (1, _)]) dX12_partAt_1 (by decide) rfl ?_
  refine V_iconst (pc := 2) (v := nI 0) dX12_partAt_2 (by decide) ?_
  refine V_istore_n (pc := 3) (ls' := [(0, _), (1, _), (2, _)]) dX12_partAt_3 (by decide) rfl ?_
  refine loopUp (P := fun j => V E kX12_partAt (rmOf 1 0 0) (Qd E (.int (itI (itk (fun k => 16 + k) (tc t n p) 9))) S I L) 0 0 S I L 4 [(0, .ref o), (1, .int (itI (itk (fun k => 16 + k) (tc t n p) j))), (2, .int (nI j))] []) (n := 9) ?_ ?_ 0 (by omega)
  · skip
    refine V_iload_n (pc := 4) dX12_partAt_4 rfl ?_
    refine V_bipush (pc := 5) (v := nI 9) dX12_partAt_5 (by decide) ?_
    refine V_icmp_geN (pc := 7) (tgt := 37) dX12_partAt_7 (by decide) (by omega) (by omega) (fun c7 => ?_) (fun n7 => absurd n7 (by omega))
    refine V_iload_n (pc := 37) dX12_partAt_37 rfl ?_
    refine V_iret (pc := 38) dX12_partAt_38 rfl (by first | decide | omega) (by first | decide | omega) ?_
    exact ⟨rfl, rfl, rfl, rfl⟩
  · intro j hj ih
    rw [itk_s _ _ j] at ih
    refine V_iload_n (pc := 4) dX12_partAt_4 rfl ?_
    refine V_bipush (pc := 5) (v := nI 9) dX12_partAt_5 (by decide) ?_
    refine V_icmp_geN (pc := 7) (tgt := 37) dX12_partAt_7 (by decide) (by omega) (by omega) (fun c7 => absurd c7 (by omega)) (fun n7 => ?_)
    refine V_aload_n (pc := 10) dX12_partAt_10 rfl ?_
    refine V_aload_n (pc := 11) dX12_partAt_11 rfl ?_
    refine V_getR (pc := 12) 12 31 dX12_partAt_12 flX12_75 (by decide) h12.o h12.R31 ?_
    refine V_iload_n (pc := 15) dX12_partAt_15 rfl ?_
    refine V_laloadE (pc := 16) dX12_partAt_16 h12.A31 (by first | decide | omega) (by omega) (hK.1 j hj) ?_
    refine V_callVd (pc := 17) (ci := 12) (c_X12_isWord h12 hT (lw_w j hj).1 (lw_w j hj).2) dX12_partAt_17 mlX12_331 mkX12_isWord rfl rfl h12.o ⟨by decide, rfl⟩ ⟨Nat.le_of_ble_eq_true rfl, Nat.le_of_ble_eq_true rfl⟩ (Nat.le_of_ble_eq_true rfl) ⟨Nat.le_of_ble_eq_true rfl, Nat.le_of_ble_eq_true rfl⟩ ?_
    refine V_if_eqB (pc := 20) (tgt := 29) dX12_partAt_20 (by decide) (fun c20 => ?_) (fun n20 => ?_)
    · skip
      rw [if_neg (of_decide_eq_false c20)] at ih
      refine V_iload_n (pc := 29) dX12_partAt_29 rfl ?_
      refine V_istore_n (pc := 30) (ls' := [(0, _), (1, _), (2, _)]) dX12_partAt_30 (by decide) rfl ?_
      refine V_iinc1 (pc := 31) (ls' := [(0, _), (1, _), (2, _)]) dX12_partAt_31 rfl (by decide) rfl ?_
      refine V_goto (pc := 34) (tgt := 4) dX12_partAt_34 (by decide) ?_
      exact ih
    · skip
      rw [if_pos (of_decide_eq_true n20), itI_s] at ih
      refine V_iload_n (pc := 23) dX12_partAt_23 rfl ?_
      refine V_iconst (pc := 24) (v := nI 1) dX12_partAt_24 (by decide) ?_
      refine V_iaddN (pc := 25) dX12_partAt_25 ?_
      refine V_goto (pc := 26) (tgt := 30) dX12_partAt_26 (by decide) ?_
      refine V_istore_n (pc := 30) (ls' := [(0, _), (1, _), (2, _)]) dX12_partAt_30 (by decide) rfl ?_
      refine V_iinc1 (pc := 31) (ls' := [(0, _), (1, _), (2, _)]) dX12_partAt_31 rfl (by decide) rfl ?_
      refine V_goto (pc := 34) (tgt := 4) dX12_partAt_34 (by decide) ?_
      exact ih
theorem c_X12_orderPartAt (h12 : Lay12 E S o) (hT : TK o t n I L p) (hK : KL L o) : Cd E kX12_orderPartAt 1 0 0 [.ref o] S I L (.int (itI (itk ow (tc t n p) 6))) S I L := by
  refine C_of (by decide) (Nat.le_of_ble_eq_true rfl) ?_
  refine V_iconst (pc := 0) (v := (-1)) dX12_orderPartAt_0 (by decide) ?_
  refine V_istore_n (pc := 1) (ls' := [(0, _), (1, _)]) dX12_orderPartAt_1 (by decide) rfl ?_
  refine V_iconst (pc := 2) (v := nI 0) dX12_orderPartAt_2 (by decide) ?_
  refine V_istore_n (pc := 3) (ls' := [(0, _), (1, _), (2, _)]) dX12_orderPartAt_3 (by decide) rfl ?_
  refine loopUp (P := fun j => V E kX12_orderPartAt (rmOf 1 0 0) (Qd E (.int (itI (itk ow (tc t n p) 6))) S I L) 0 0 S I L 4 [(0, .ref o), (1, .int (itI (itk ow (tc t n p) j))), (2, .int (nI j))] []) (n := 6) ?_ ?_ 0 (by omega)
  · skip
    refine V_iload_n (pc := 4) dX12_orderPartAt_4 rfl ?_
    refine V_bipush (pc := 5) (v := nI 6) dX12_orderPartAt_5 (by decide) ?_
    refine V_icmp_geN (pc := 7) (tgt := 37) dX12_orderPartAt_7 (by decide) (by omega) (by omega) (fun c7 => ?_) (fun n7 => absurd n7 (by omega))
    refine V_iload_n (pc := 37) dX12_orderPartAt_37 rfl ?_
    refine V_iret (pc := 38) dX12_orderPartAt_38 rfl (by first | decide | omega) (by first | decide | omega) ?_
    exact ⟨rfl, rfl, rfl, rfl⟩
  · intro j hj ih
    rw [itk_s _ _ j] at ih
    refine V_iload_n (pc := 4) dX12_orderPartAt_4 rfl ?_
    refine V_bipush (pc := 5) (v := nI 6) dX12_orderPartAt_5 (by decide) ?_
    refine V_icmp_geN (pc := 7) (tgt := 37) dX12_orderPartAt_7 (by decide) (by omega) (by omega) (fun c7 => absurd c7 (by omega)) (fun n7 => ?_)
    refine V_aload_n (pc := 10) dX12_orderPartAt_10 rfl ?_
    refine V_aload_n (pc := 11) dX12_orderPartAt_11 rfl ?_
    refine V_getR (pc := 12) 12 32 dX12_orderPartAt_12 flX12_87 (by decide) h12.o h12.R32 ?_
    refine V_iload_n (pc := 15) dX12_orderPartAt_15 rfl ?_
    refine V_laloadE (pc := 16) dX12_orderPartAt_16 h12.A32 (by first | decide | omega) (by omega) (hK.2.1 j hj) ?_
    refine V_callVd (pc := 17) (ci := 12) (c_X12_isWord h12 hT (ow_w j hj).1 (ow_w j hj).2) dX12_orderPartAt_17 mlX12_331 mkX12_isWord rfl rfl h12.o ⟨by decide, rfl⟩ ⟨Nat.le_of_ble_eq_true rfl, Nat.le_of_ble_eq_true rfl⟩ (Nat.le_of_ble_eq_true rfl) ⟨Nat.le_of_ble_eq_true rfl, Nat.le_of_ble_eq_true rfl⟩ ?_
    refine V_if_eqB (pc := 20) (tgt := 29) dX12_orderPartAt_20 (by decide) (fun c20 => ?_) (fun n20 => ?_)
    · skip
      rw [if_neg (of_decide_eq_false c20)] at ih
      refine V_iload_n (pc := 29) dX12_orderPartAt_29 rfl ?_
      refine V_istore_n (pc := 30) (ls' := [(0, _), (1, _), (2, _)]) dX12_orderPartAt_30 (by decide) rfl ?_
      refine V_iinc1 (pc := 31) (ls' := [(0, _), (1, _), (2, _)]) dX12_orderPartAt_31 rfl (by decide) rfl ?_
      refine V_goto (pc := 34) (tgt := 4) dX12_orderPartAt_34 (by decide) ?_
      exact ih
    · skip
      rw [if_pos (of_decide_eq_true n20), itI_s] at ih
      refine V_iload_n (pc := 23) dX12_orderPartAt_23 rfl ?_
      refine V_iconst (pc := 24) (v := nI 1) dX12_orderPartAt_24 (by decide) ?_
      refine V_iaddN (pc := 25) dX12_orderPartAt_25 ?_
      refine V_goto (pc := 26) (tgt := 30) dX12_orderPartAt_26 (by decide) ?_
      refine V_istore_n (pc := 30) (ls' := [(0, _), (1, _), (2, _)]) dX12_orderPartAt_30 (by decide) rfl ?_
      refine V_iinc1 (pc := 31) (ls' := [(0, _), (1, _), (2, _)]) dX12_orderPartAt_31 rfl (by decide) rfl ?_
      refine V_goto (pc := 34) (tgt := 4) dX12_orderPartAt_34 (by decide) ?_
      exact ih
theorem c_X12_openBracket (h12 : Lay12 E S o) {x : Nat} (h : PS o t n I0 L0 I L none (p, l, d, P, c)) (hd : d ≤ 8) (hl : P.length < 400) : C E kX12_openBracket 3 0 0 [.ref o, .int (nI x)] S I L (fun r S' I' L' => r = none ∧ S = S' ∧ (d < 8 → PS o t n I0 L0 I' L' none (nxt t n p, l, d + 1, (x, 0) :: P, c)) ∧ (¬ d < 8 → PS o t n I0 L0 I' L' (some p) (p, l, d, P, c))) := by
  have h30 : I o 30 = nI d := h.2.2.1
  refine C_of (by decide) (Nat.le_of_ble_eq_true rfl) ?_
  by_cases h8 : d < 8
  · skip
    refine V_aload_n (pc := 0) dX12_openBracket_0 rfl ?_
    refine V_aload_n (pc := 1) dX12_openBracket_1 rfl ?_
    refine V_getIE (pc := 2) 12 30 dX12_openBracket_2 flX12_335 (by decide) h12.o (h30) ?_
    refine V_bipush (pc := 5) (v := nI 8) dX12_openBracket_5 (by decide) ?_
    refine V_icmp_geN (pc := 7) (tgt := 14) dX12_openBracket_7 (by decide) (by omega) (by omega) (fun c7 => absurd c7 (by omega)) (fun n7 => ?_)
    refine V_iconst (pc := 10) (v := nI 1) dX12_openBracket_10 (by decide) ?_
    refine V_goto (pc := 11) (tgt := 15) dX12_openBracket_11 (by decide) ?_
    refine V_callV (pc := 15) (ci := 12) (c_X12_must (q := true) h12 h) dX12_openBracket_15 mlX12_308 mkX12_must rfl rfl h12.o ⟨by decide, rfl⟩ ⟨Nat.le_of_ble_eq_true rfl, Nat.le_of_ble_eq_true rfl⟩ (Nat.le_of_ble_eq_true rfl) ⟨Nat.le_of_ble_eq_true rfl, Nat.le_of_ble_eq_true rfl⟩ (fun r S' I' L' hp => ?_)
    obtain ⟨rfl, rfl, hP, _⟩ := hp
    have hP := hP rfl
    refine V_aload_n (pc := 18) dX12_openBracket_18 rfl ?_
    refine V_getIE (pc := 19) 12 19 dX12_openBracket_19 flX12_275 (by decide) h12.o (hP.2.2.2.2.2.2.1) ?_
    refine V_if_neB (pc := 22) (tgt := 41) dX12_openBracket_22 (by decide) (fun c22 => absurd c22 (by simp)) (fun n22 => ?_)
    refine V_aload_n (pc := 25) dX12_openBracket_25 rfl ?_
    refine V_dup (pc := 26) dX12_openBracket_26 rfl ?_
    refine V_getIE (pc := 27) 12 30 dX12_openBracket_27 flX12_335 (by decide) h12.o (hP.2.2.1) ?_
    refine V_iconst (pc := 30) (v := nI 1) dX12_openBracket_30 (by decide) ?_
    refine V_iaddN (pc := 31) dX12_openBracket_31 ?_
    refine V_putI (pc := 32) 12 30 dX12_openBracket_32 flX12_335 (by decide) (by decide) (Or.inl rfl) rfl rfl h12.o ?_
    refine V_aload_n (pc := 35) dX12_openBracket_35 rfl ?_
    refine V_iload_n (pc := 36) dX12_openBracket_36 rfl ?_
    refine V_iconst (pc := 37) (v := nI 0) dX12_openBracket_37 (by decide) ?_
    refine V_callV (pc := 38) (ci := 12) (c_X12_push h12 (hP.set30 (d' := d + 1)) hl) dX12_openBracket_38 mlX12_338 mkX12_push rfl rfl h12.o ⟨by decide, rfl⟩ ⟨Nat.le_of_ble_eq_true rfl, Nat.le_of_ble_eq_true rfl⟩ (Nat.le_of_ble_eq_true rfl) ⟨Nat.le_of_ble_eq_true rfl, Nat.le_of_ble_eq_true rfl⟩ (fun r S' I' L' hp => ?_)
    obtain ⟨rfl, rfl, rfl, hQ⟩ := hp
    refine V_vret (pc := 41) dX12_openBracket_41 rfl (by first | decide | omega) (by first | decide | omega) ?_
    exact ⟨rfl, rfl, (fun _ => hQ), fun z => absurd h8 z⟩
  · skip
    refine V_aload_n (pc := 0) dX12_openBracket_0 rfl ?_
    refine V_aload_n (pc := 1) dX12_openBracket_1 rfl ?_
    refine V_getIE (pc := 2) 12 30 dX12_openBracket_2 flX12_335 (by decide) h12.o (h30) ?_
    refine V_bipush (pc := 5) (v := nI 8) dX12_openBracket_5 (by decide) ?_
    refine V_icmp_geN (pc := 7) (tgt := 14) dX12_openBracket_7 (by decide) (by omega) (by omega) (fun c7 => ?_) (fun n7 => absurd n7 (by omega))
    refine V_iconst (pc := 14) (v := nI 0) dX12_openBracket_14 (by decide) ?_
    refine V_callV (pc := 15) (ci := 12) (c_X12_must (q := false) h12 h) dX12_openBracket_15 mlX12_308 mkX12_must rfl rfl h12.o ⟨by decide, rfl⟩ ⟨Nat.le_of_ble_eq_true rfl, Nat.le_of_ble_eq_true rfl⟩ (Nat.le_of_ble_eq_true rfl) ⟨Nat.le_of_ble_eq_true rfl, Nat.le_of_ble_eq_true rfl⟩ (fun r S' I' L' hp => ?_)
    obtain ⟨rfl, rfl, _, hP⟩ := hp
    have hP := hP rfl
    refine V_aload_n (pc := 18) dX12_openBracket_18 rfl ?_
    refine V_getIE (pc := 19) 12 19 dX12_openBracket_19 flX12_275 (by decide) h12.o (hP.2.2.2.2.2.2.1) ?_
    refine V_if_neB (pc := 22) (tgt := 41) dX12_openBracket_22 (by decide) (fun c22 => ?_) (fun n22 => absurd n22 (by simp))
    refine V_vret (pc := 41) dX12_openBracket_41 rfl (by first | decide | omega) (by first | decide | omega) ?_
    exact ⟨rfl, rfl, (fun z => absurd z h8), fun _ => hP⟩
theorem c_X12_leaf (h12 : Lay12 E S o) {q : Bool} {x y : Nat} (h : PS o t n I0 L0 I L none (p, l, d, P, c)) (hl : l ≤ 50) (hn : q = true → c.2.2 < 400) : C E kX12_leaf 3 0 0 [.ref o, .int (b2i q), .int (nI x), .int (nI y)] S I L (fun r S' I' L' => r = none ∧ S = S' ∧ ((q = true ∧ l < 50) → PS o t n I0 L0 I' L' none (nxt t n p, l + 1, d, P, (setq c.1 c.2.2 x, setq c.2.1 c.2.2 y, c.2.2 + 1))) ∧ (¬ (q = true ∧ l < 50) → PS o t n I0 L0 I' L' (some p) (p, l, d, P, c))) := by
  have h26 : I o 26 = nI l := h.2.1
  refine C_of (by decide) (Nat.le_of_ble_eq_true rfl) ?_
  by_cases h8 : q = true ∧ l < 50
  · obtain ⟨rfl, h9⟩ := h8
    refine V_aload_n (pc := 0) dX12_leaf_0 rfl ?_
    refine V_iload_n (pc := 1) dX12_leaf_1 rfl ?_
    refine V_if_eqB (pc := 2) (tgt := 18) dX12_leaf_2 (by decide) (fun c2 => absurd c2 (by decide)) (fun n2 => ?_)
    refine V_aload_n (pc := 5) dX12_leaf_5 rfl ?_
    refine V_getIE (pc := 6) 12 26 dX12_leaf_6 flX12_341 (by decide) h12.o (h26) ?_
    refine V_bipush (pc := 9) (v := nI 50) dX12_leaf_9 (by decide) ?_
    refine V_icmp_geN (pc := 11) (tgt := 18) dX12_leaf_11 (by decide) (by omega) (by omega) (fun c11 => absurd c11 (by omega)) (fun n11 => ?_)
    refine V_iconst (pc := 14) (v := nI 1) dX12_leaf_14 (by decide) ?_
    refine V_goto (pc := 15) (tgt := 19) dX12_leaf_15 (by decide) ?_
    refine V_callV (pc := 19) (ci := 12) (c_X12_must (q := true) h12 h) dX12_leaf_19 mlX12_308 mkX12_must rfl rfl h12.o ⟨by decide, rfl⟩ ⟨Nat.le_of_ble_eq_true rfl, Nat.le_of_ble_eq_true rfl⟩ (Nat.le_of_ble_eq_true rfl) ⟨Nat.le_of_ble_eq_true rfl, Nat.le_of_ble_eq_true rfl⟩ (fun r S' I' L' hp => ?_)
    obtain ⟨rfl, rfl, hP, _⟩ := hp
    have hP := hP rfl
    refine V_aload_n (pc := 22) dX12_leaf_22 rfl ?_
    refine V_getIE (pc := 23) 12 19 dX12_leaf_23 flX12_275 (by decide) h12.o (hP.2.2.2.2.2.2.1) ?_
    refine V_if_neB (pc := 26) (tgt := 45) dX12_leaf_26 (by decide) (fun c26 => absurd c26 (by simp)) (fun n26 => ?_)
    refine V_aload_n (pc := 29) dX12_leaf_29 rfl ?_
    refine V_iload_n (pc := 30) dX12_leaf_30 rfl ?_
    refine V_iload_n (pc := 31) dX12_leaf_31 rfl ?_
    refine V_callV (pc := 32) (ci := 12) (c_X12_emit h12 hP (hn rfl)) dX12_leaf_32 mlX12_321 mkX12_emit rfl rfl h12.o ⟨by decide, rfl⟩ ⟨Nat.le_of_ble_eq_true rfl, Nat.le_of_ble_eq_true rfl⟩ (Nat.le_of_ble_eq_true rfl) ⟨Nat.le_of_ble_eq_true rfl, Nat.le_of_ble_eq_true rfl⟩ (fun r S' I' L' hp => ?_)
    obtain ⟨rfl, rfl, rfl, hQ⟩ := hp
    refine V_aload_n (pc := 35) dX12_leaf_35 rfl ?_
    refine V_dup (pc := 36) dX12_leaf_36 rfl ?_
    refine V_getIE (pc := 37) 12 26 dX12_leaf_37 flX12_341 (by decide) h12.o (hQ.2.1) ?_
    refine V_iconst (pc := 40) (v := nI 1) dX12_leaf_40 (by decide) ?_
    refine V_iaddN (pc := 41) dX12_leaf_41 ?_
    refine V_putI (pc := 42) 12 26 dX12_leaf_42 flX12_341 (by decide) (by decide) (Or.inl rfl) rfl rfl h12.o ?_
    refine V_vret (pc := 45) dX12_leaf_45 rfl (by first | decide | omega) (by first | decide | omega) ?_
    exact ⟨rfl, rfl, (fun _ => hQ.set26), fun z => absurd ⟨rfl, h9⟩ z⟩
  · have fin : ∀ {sx : List Value}, V E kX12_leaf (rmOf 3 0 0) (QM E (fun r S' I' L' => r = none ∧ S = S' ∧ ((q = true ∧ l < 50) → PS o t n I0 L0 I' L' none (nxt t n p, l + 1, d, P, (setq c.1 c.2.2 x, setq c.2.1 c.2.2 y, c.2.2 + 1))) ∧ (¬ (q = true ∧ l < 50) → PS o t n I0 L0 I' L' (some p) (p, l, d, P, c))) 0 0) 0 0 S I L 18 [(0, .ref o), (1, .int (b2i q)), (2, .int (nI x)), (3, .int (nI y))] [.ref o] := by
      intro _
      have ho := h12.o
      refine V_iconst (pc := 18) (v := nI 0) dX12_leaf_18 (by decide) ?_
      refine V_callV (pc := 19) (ci := 12) (c_X12_must (q := false) h12 h) dX12_leaf_19 mlX12_308 mkX12_must rfl rfl (by assumption) ⟨by decide, rfl⟩ ⟨Nat.le_of_ble_eq_true rfl, Nat.le_of_ble_eq_true rfl⟩ (Nat.le_of_ble_eq_true rfl) ⟨Nat.le_of_ble_eq_true rfl, Nat.le_of_ble_eq_true rfl⟩ (fun r S' I' L' hp => ?_)
      obtain ⟨rfl, rfl, _, hP⟩ := hp
      have hP := hP rfl
      refine V_aload_n (pc := 22) dX12_leaf_22 rfl ?_
      refine V_getIE (pc := 23) 12 19 dX12_leaf_23 flX12_275 (by decide) h12.o (hP.2.2.2.2.2.2.1) ?_
      refine V_if_neB (pc := 26) (tgt := 45) dX12_leaf_26 (by decide) (fun c26 => ?_) (fun n26 => absurd n26 (by simp))
      refine V_vret (pc := 45) dX12_leaf_45 rfl (by first | decide | omega) (by first | decide | omega) ?_
      exact ⟨rfl, rfl, (fun z => absurd z h8), fun _ => hP⟩
    refine V_aload_n (pc := 0) dX12_leaf_0 rfl ?_
    refine V_iload_n (pc := 1) dX12_leaf_1 rfl ?_
    refine V_if_eqB (pc := 2) (tgt := 18) dX12_leaf_2 (by decide) (fun c2 => ?_) (fun n2 => ?_)
    · skip
      exact fin (sx := [])
    · skip
      refine V_aload_n (pc := 5) dX12_leaf_5 rfl ?_
      refine V_getIE (pc := 6) 12 26 dX12_leaf_6 flX12_341 (by decide) h12.o (h26) ?_
      refine V_bipush (pc := 9) (v := nI 50) dX12_leaf_9 (by decide) ?_
      refine V_icmp_geN (pc := 11) (tgt := 18) dX12_leaf_11 (by decide) (by omega) (by omega) (fun c11 => ?_) (fun n11 => absurd n11 (by exact fun z => h8 ⟨by first | exact n2 | exact (Bool.not_eq_false _).mp n2, by omega⟩))
      exact fin (sx := [])
end PB
