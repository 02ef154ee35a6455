/-! THE REFERENCE reads: what stands behind -/
def jx (c : Nat) : Nat := if c = 143 then 20 else if c = 145 then 21 else if c = 142 then 22 else if c = 147 then 23 else if c = 137 then 24 else 0
theorem jx_le (c : Nat) : jx c = 0 ∨ (20 ≤ jx c ∧ jx c ≤ 24) := by
  unfold jx
  split; omega
  split; omega
  split; omega
  split; omega
  split <;> omega
def BD (u : Nat) (P : List (Nat × Nat)) (c : CT) : Prop := P.length ≤ u ∧ c.2.2 + cntP P ≤ u ∧ PlB c.2.2 P
theorem PlB.up {a b : Nat} {P : List (Nat × Nat)} (h : PlB a P) (hb : a ≤ b) : PlB b P := fun x hx => ⟨(h x hx).1, (h x hx).2.1, fun z => by have := (h x hx).2.2 z; omega⟩
theorem BD.st {u k : Nat} : ∀ {P : List (Nat × Nat)} {c : CT}, BD u P c → BD u (sto k P c).1 (sto k P c).2 ∧ (sto k P c).1.length ≤ P.length ∧ (sto k P c).2.2.2 + cntP (sto k P c).1 ≤ c.2.2 + cntP P
  | [], c, h => ⟨h, Nat.le_refl _, Nat.le_refl _⟩
  | x :: P, c, h => by
    obtain ⟨h1, h2, h3⟩ := h
    by_cases hk : k ≤ bnds x.1
    · rw [sto, if_pos hk]
      have h1' : P.length + 1 ≤ u := h1
      rw [cntP] at h2
      have hB : BD u P (em1 x c) ∧ (em1 x c).2.2 + cntP P ≤ c.2.2 + cntP (x :: P) := by
        have hP : PlB c.2.2 P := fun y hy => h3 y (List.mem_cons_of_mem x hy)
        rw [cntP]
        unfold em1
        by_cases ha : x.1 = 29 ∨ x.1 = 30
        · rw [if_pos ha] at h2 ⊢
          rw [if_pos ha]
          exact ⟨⟨by omega, by show c.2.2 + cntP P ≤ u; omega, hP⟩, by show c.2.2 + cntP P ≤ _; omega⟩
        · rw [if_neg ha] at h2 ⊢
          rw [if_neg ha]
          exact ⟨⟨by omega, by show c.2.2 + 1 + cntP P ≤ u; omega, hP.up (by show _ ≤ c.2.2 + 1; omega)⟩, by show c.2.2 + 1 + cntP P ≤ _; omega⟩
      have := BD.st (k := k) hB.1
      refine ⟨this.1, ?_, ?_⟩
      · have := this.2.1; show _ ≤ P.length + 1; omega
      · have := this.2.2; have := hB.2; omega
    · rw [sto, if_neg hk]
      exact ⟨⟨h1, h2, h3⟩, Nat.le_refl _, Nat.le_refl _⟩
theorem BD.le {u : Nat} {P : List (Nat × Nat)} {c : CT} (h : BD u P c) : ∀ x ∈ P, x.1 ≤ 32 := fun x hx => (h.2.2 x hx).2.1
section PD
variable {E : EnT} {S : ST} {I I0 : IT} {L L0 : LT} {o n p l d : Nat} {t : Nat → Nat} {P : List (Nat × Nat)} {c : CT} {b : Option Nat}
theorem PS.n400 {s : PT} (h : PS o t n I0 L0 I L b s) : n ≤ 400 ∧ s.1 ≤ n := ⟨h.1.1.2.2.1, h.1.2.1⟩
theorem c_X12_readPlain_not (h12 : Lay12 E S o) (h : PS o t n I0 L0 I L none (p, l, d, P, c)) (ht : tc t n p = 3) (hl : P.length < 400) : C E kX12_readPlain 5 0 0 [.ref o] S I L (fun r S' I' L' => r = some (.int (nI 0)) ∧ S = S' ∧ PS o t n I0 L0 I' L' none (nxt t n p, l, d, (28, 0) :: P, c)) := by
  refine C_of (by decide) (Nat.le_of_ble_eq_true rfl) ?_
  refine V_aload_n (pc := 0) dX12_readPlain_0 rfl ?_
  refine V_ldc2 (pc := 1) dX12_readPlain_1 coX12_372 ?_
  refine V_callVd (pc := 4) (ci := 12) (c_X12_isWord (k := 3) h12 h.1 (by decide) (by decide)) dX12_readPlain_4 mlX12_331 mkX12_isWord rfl rfl h12.o ⟨by decide, rfl⟩ ⟨Nat.le_of_ble_eq_true rfl, Nat.le_of_ble_eq_true rfl⟩ (Nat.le_of_ble_eq_true rfl) ⟨Nat.le_of_ble_eq_true rfl, Nat.le_of_ble_eq_true rfl⟩ ?_
  refine V_if_eqB (pc := 7) (tgt := 23) dX12_readPlain_7 (by decide) (fun c7 => absurd c7 (by rw [decide_eq_true (show tc t n (p, l, d, P, c).1 = 3 from ht)]; decide)) (fun n7 => ?_)
  refine V_aload_n (pc := 10) dX12_readPlain_10 rfl ?_
  refine V_bipush (pc := 11) (v := nI 28) dX12_readPlain_11 (by decide) ?_
  refine V_iconst (pc := 13) (v := nI 0) dX12_readPlain_13 (by decide) ?_
  refine V_callV (pc := 14) (ci := 12) (c_X12_push h12 h hl) dX12_readPlain_14 mlX12_338 mkX12_push rfl rfl h12.o ⟨by decide, rfl⟩ ⟨Nat.le_of_ble_eq_true rfl, Nat.le_of_ble_eq_true rfl⟩ (Nat.le_of_ble_eq_true rfl) ⟨Nat.le_of_ble_eq_true rfl, Nat.le_of_ble_eq_true rfl⟩ (fun r S' I' L' hp => ?_)
  obtain ⟨rfl, rfl, rfl, hP⟩ := hp
  refine V_aload_n (pc := 17) dX12_readPlain_17 rfl ?_
  refine V_callV (pc := 18) (ci := 12) (c_X12_nextP h12 hP) dX12_readPlain_18 mlX12_279 mkX12_next rfl rfl h12.o ⟨by decide, rfl⟩ ⟨Nat.le_of_ble_eq_true rfl, Nat.le_of_ble_eq_true rfl⟩ (Nat.le_of_ble_eq_true rfl) ⟨Nat.le_of_ble_eq_true rfl, Nat.le_of_ble_eq_true rfl⟩ (fun r S' I' L' hp => ?_)
  obtain ⟨rfl, rfl, hQ⟩ := hp
  refine V_iconst (pc := 21) (v := nI 0) dX12_readPlain_21 (by decide) ?_
  refine V_iret (pc := 22) dX12_readPlain_22 rfl (by first | decide | omega) (by first | decide | omega) ?_
  exact ⟨rfl, rfl, hQ⟩
theorem c_X12_readPlain_br (h12 : Lay12 E S o) (h : PS o t n I0 L0 I L none (p, l, d, P, c)) (ht : tc t n p = 140) (hd : d ≤ 8) (hl : P.length < 400) : C E kX12_readPlain 5 0 0 [.ref o] S I L (fun r S' I' L' => r = some (.int (nI 0)) ∧ S = S' ∧ (d < 8 → PS o t n I0 L0 I' L' none (nxt t n p, l, d + 1, (31, 0) :: P, c)) ∧ (¬ d < 8 → PS o t n I0 L0 I' L' (some p) (p, l, d, P, c))) := by
  refine C_of (by decide) (Nat.le_of_ble_eq_true rfl) ?_
  refine V_aload_n (pc := 0) dX12_readPlain_0 rfl ?_
  refine V_ldc2 (pc := 1) dX12_readPlain_1 coX12_372 ?_
  refine V_callVd (pc := 4) (ci := 12) (c_X12_isWord (k := 3) h12 h.1 (by decide) (by decide)) dX12_readPlain_4 mlX12_331 mkX12_isWord rfl rfl h12.o ⟨by decide, rfl⟩ ⟨Nat.le_of_ble_eq_true rfl, Nat.le_of_ble_eq_true rfl⟩ (Nat.le_of_ble_eq_true rfl) ⟨Nat.le_of_ble_eq_true rfl, Nat.le_of_ble_eq_true rfl⟩ ?_
  refine V_if_eqB (pc := 7) (tgt := 23) dX12_readPlain_7 (by decide) (fun c7 => ?_) (fun n7 => absurd n7 (by rw [decide_eq_false (show ¬ tc t n (p, l, d, P, c).1 = 3 from by show ¬ tc t n p = 3; omega)]; decide))
  refine V_aload_n (pc := 23) dX12_readPlain_23 rfl ?_
  refine V_bipush (pc := 24) (v := nI 40) dX12_readPlain_24 (by decide) ?_
  refine V_callVd (pc := 26) (ci := 12) (c_X12_isSign h12 h.1 (by omega)) dX12_readPlain_26 mlX12_344 mkX12_isSign rfl rfl h12.o ⟨by decide, rfl⟩ ⟨Nat.le_of_ble_eq_true rfl, Nat.le_of_ble_eq_true rfl⟩ (Nat.le_of_ble_eq_true rfl) ⟨Nat.le_of_ble_eq_true rfl, Nat.le_of_ble_eq_true rfl⟩ ?_
  refine V_if_eqB (pc := 29) (tgt := 40) dX12_readPlain_29 (by decide) (fun c29 => absurd c29 (by rw [decide_eq_true (show tc t n (p, l, d, P, c).1 = 100 + 40 from ht)]; decide)) (fun n29 => ?_)
  refine V_aload_n (pc := 32) dX12_readPlain_32 rfl ?_
  refine V_bipush (pc := 33) (v := nI 31) dX12_readPlain_33 (by decide) ?_
  refine V_callV (pc := 35) (ci := 12) (c_X12_openBracket h12 h hd hl) dX12_readPlain_35 mlX12_347 mkX12_openBracket rfl rfl h12.o ⟨by decide, rfl⟩ ⟨Nat.le_of_ble_eq_true rfl, Nat.le_of_ble_eq_true rfl⟩ (Nat.le_of_ble_eq_true rfl) ⟨Nat.le_of_ble_eq_true rfl, Nat.le_of_ble_eq_true rfl⟩ (fun r S' I' L' hp => ?_)
  obtain ⟨rfl, rfl, h1, h2⟩ := hp
  refine V_iconst (pc := 38) (v := nI 0) dX12_readPlain_38 (by decide) ?_
  refine V_iret (pc := 39) dX12_readPlain_39 rfl (by first | decide | omega) (by first | decide | omega) ?_
  exact ⟨rfl, rfl, h1, h2⟩
theorem c_X12_readPlain_pt (h12 : Lay12 E S o) (h : PS o t n I0 L0 I L none (p, l, d, P, c)) (h3 : tc t n p ≠ 3) (h4 : tc t n p ≠ 140) {post : Option Value → ST → IT → LT → Prop} (hp0 : ∀ r S' I' L', post r S' I' L' → ∃ v, r = some (.int v)) (hc : C E kX12_readPart 4 0 0 [.ref o] S I L post) : C E kX12_readPlain 5 0 0 [.ref o] S I L post := by
  refine C_of (by decide) (Nat.le_of_ble_eq_true rfl) ?_
  refine V_aload_n (pc := 0) dX12_readPlain_0 rfl ?_
  refine V_ldc2 (pc := 1) dX12_readPlain_1 coX12_372 ?_
  refine V_callVd (pc := 4) (ci := 12) (c_X12_isWord (k := 3) h12 h.1 (by decide) (by decide)) dX12_readPlain_4 mlX12_331 mkX12_isWord rfl rfl h12.o ⟨by decide, rfl⟩ ⟨Nat.le_of_ble_eq_true rfl, Nat.le_of_ble_eq_true rfl⟩ (Nat.le_of_ble_eq_true rfl) ⟨Nat.le_of_ble_eq_true rfl, Nat.le_of_ble_eq_true rfl⟩ ?_
  refine V_if_eqB (pc := 7) (tgt := 23) dX12_readPlain_7 (by decide) (fun c7 => ?_) (fun n7 => absurd n7 (by rw [decide_eq_false (show ¬ tc t n (p, l, d, P, c).1 = 3 from h3)]; decide))
  refine V_aload_n (pc := 23) dX12_readPlain_23 rfl ?_
  refine V_bipush (pc := 24) (v := nI 40) dX12_readPlain_24 (by decide) ?_
  refine V_callVd (pc := 26) (ci := 12) (c_X12_isSign h12 h.1 (by omega)) dX12_readPlain_26 mlX12_344 mkX12_isSign rfl rfl h12.o ⟨by decide, rfl⟩ ⟨Nat.le_of_ble_eq_true rfl, Nat.le_of_ble_eq_true rfl⟩ (Nat.le_of_ble_eq_true rfl) ⟨Nat.le_of_ble_eq_true rfl, Nat.le_of_ble_eq_true rfl⟩ ?_
  refine V_if_eqB (pc := 29) (tgt := 40) dX12_readPlain_29 (by decide) (fun c29 => ?_) (fun n29 => absurd n29 (by rw [decide_eq_false (show ¬ tc t n (p, l, d, P, c).1 = 100 + 40 from h4)]; decide))
  refine V_aload_n (pc := 40) dX12_readPlain_40 rfl ?_
  refine V_callV (pc := 41) (ci := 12) hc dX12_readPlain_41 mlX12_374 mkX12_readPart rfl rfl h12.o ⟨by decide, rfl⟩ ⟨Nat.le_of_ble_eq_true rfl, Nat.le_of_ble_eq_true rfl⟩ (Nat.le_of_ble_eq_true rfl) ⟨Nat.le_of_ble_eq_true rfl, Nat.le_of_ble_eq_true rfl⟩ (fun r S' I' L' hp => ?_)
  obtain ⟨v, rfl⟩ := hp0 _ _ _ _ hp
  refine V_iret (pc := 44) dX12_readPlain_44 rfl (by first | decide | omega) (by first | decide | omega) ?_
  exact hp
theorem hd_behind (h12 : Lay12 E S o) {Q : QT} {te : Bool} (h : PS o t n I0 L0 I L none (p, l, d, P, c)) (hk : ∀ v, v = itI (jx (tc t n p)) → V E kX12_behindSum (rmOf 4 0 0) Q 0 0 S I L 71 [(0, .ref o), (1, .int (b2i te))] [.int v]) : V E kX12_behindSum (rmOf 4 0 0) Q 0 0 S I L 0 [(0, .ref o), (1, .int (b2i te))] [] := by
  have hT : TK o t n I L p := h.1
  have ho := h12.o
  have e6 : ¬ tc t n p = 143 → ¬ tc t n p = 145 → ¬ tc t n p = 142 → ¬ tc t n p = 147 → ¬ tc t n p = 137 → jx (tc t n p) = 0 := fun a1 a2 a3 a4 a5 => by unfold jx; rw [if_neg a1, if_neg a2, if_neg a3, if_neg a4, if_neg a5]
  refine V_aload_n (pc := 0) dX12_behindSum_0 rfl ?_
  refine V_bipush (pc := 1) (v := nI 43) dX12_behindSum_1 (by decide) ?_
  refine V_callVd (pc := 3) (ci := 12) (c_X12_isSign h12 hT (by omega)) dX12_behindSum_3 mlX12_344 mkX12_isSign rfl rfl h12.o ⟨by decide, rfl⟩ ⟨Nat.le_of_ble_eq_true rfl, Nat.le_of_ble_eq_true rfl⟩ (Nat.le_of_ble_eq_true rfl) ⟨Nat.le_of_ble_eq_true rfl, Nat.le_of_ble_eq_true rfl⟩ ?_
  refine V_if_eqB (pc := 6) (tgt := 14) dX12_behindSum_6 (by decide) (fun c6 => ?_) (fun n6 => ?_)
  · skip
    refine V_aload_n (pc := 14) dX12_behindSum_14 rfl ?_
    refine V_bipush (pc := 15) (v := nI 45) dX12_behindSum_15 (by decide) ?_
    refine V_callVd (pc := 17) (ci := 12) (c_X12_isSign h12 hT (by omega)) dX12_behindSum_17 mlX12_344 mkX12_isSign rfl rfl h12.o ⟨by decide, rfl⟩ ⟨Nat.le_of_ble_eq_true rfl, Nat.le_of_ble_eq_true rfl⟩ (Nat.le_of_ble_eq_true rfl) ⟨Nat.le_of_ble_eq_true rfl, Nat.le_of_ble_eq_true rfl⟩ ?_
    refine V_if_eqB (pc := 20) (tgt := 28) dX12_behindSum_20 (by decide) (fun c20 => ?_) (fun n20 => ?_)
    · skip
      refine V_aload_n (pc := 28) dX12_behindSum_28 rfl ?_
      refine V_bipush (pc := 29) (v := nI 42) dX12_behindSum_29 (by decide) ?_
      refine V_callVd (pc := 31) (ci := 12) (c_X12_isSign h12 hT (by omega)) dX12_behindSum_31 mlX12_344 mkX12_isSign rfl rfl h12.o ⟨by decide, rfl⟩ ⟨Nat.le_of_ble_eq_true rfl, Nat.le_of_ble_eq_true rfl⟩ (Nat.le_of_ble_eq_true rfl) ⟨Nat.le_of_ble_eq_true rfl, Nat.le_of_ble_eq_true rfl⟩ ?_
      refine V_if_eqB (pc := 34) (tgt := 42) dX12_behindSum_34 (by decide) (fun c34 => ?_) (fun n34 => ?_)
      · skip
        refine V_aload_n (pc := 42) dX12_behindSum_42 rfl ?_
        refine V_bipush (pc := 43) (v := nI 47) dX12_behindSum_43 (by decide) ?_
        refine V_callVd (pc := 45) (ci := 12) (c_X12_isSign h12 hT (by omega)) dX12_behindSum_45 mlX12_344 mkX12_isSign rfl rfl h12.o ⟨by decide, rfl⟩ ⟨Nat.le_of_ble_eq_true rfl, Nat.le_of_ble_eq_true rfl⟩ (Nat.le_of_ble_eq_true rfl) ⟨Nat.le_of_ble_eq_true rfl, Nat.le_of_ble_eq_true rfl⟩ ?_
        refine V_if_eqB (pc := 48) (tgt := 56) dX12_behindSum_48 (by decide) (fun c48 => ?_) (fun n48 => ?_)
        · skip
          refine V_aload_n (pc := 56) dX12_behindSum_56 rfl ?_
          refine V_bipush (pc := 57) (v := nI 37) dX12_behindSum_57 (by decide) ?_
          refine V_callVd (pc := 59) (ci := 12) (c_X12_isSign h12 hT (by omega)) dX12_behindSum_59 mlX12_344 mkX12_isSign rfl rfl h12.o ⟨by decide, rfl⟩ ⟨Nat.le_of_ble_eq_true rfl, Nat.le_of_ble_eq_true rfl⟩ (Nat.le_of_ble_eq_true rfl) ⟨Nat.le_of_ble_eq_true rfl, Nat.le_of_ble_eq_true rfl⟩ ?_
          refine V_if_eqB (pc := 62) (tgt := 70) dX12_behindSum_62 (by decide) (fun c62 => ?_) (fun n62 => ?_)
          · skip
            refine V_iconst (pc := 70) (v := (-1)) dX12_behindSum_70 (by decide) ?_
            first
              | exact hk _ (by rw [e6 (of_decide_eq_false c6) (of_decide_eq_false c20) (of_decide_eq_false c34) (of_decide_eq_false c48) (of_decide_eq_false c62)]; rfl)
              | exact hk _ (by rw [show tc t n p = 143 from of_decide_eq_true n6]; rfl)
              | exact hk _ (by rw [show tc t n p = 145 from of_decide_eq_true n20]; rfl)
              | exact hk _ (by rw [show tc t n p = 142 from of_decide_eq_true n34]; rfl)
              | exact hk _ (by rw [show tc t n p = 147 from of_decide_eq_true n48]; rfl)
              | exact hk _ (by rw [show tc t n p = 137 from of_decide_eq_true n62]; rfl)
          · skip
            refine V_bipush (pc := 65) (v := nI 24) dX12_behindSum_65 (by decide) ?_
            refine V_goto (pc := 67) (tgt := 71) dX12_behindSum_67 (by decide) ?_
            first
              | exact hk _ (by rw [e6 (of_decide_eq_false c6) (of_decide_eq_false c20) (of_decide_eq_false c34) (of_decide_eq_false c48) (of_decide_eq_false c62)]; rfl)
              | exact hk _ (by rw [show tc t n p = 143 from of_decide_eq_true n6]; rfl)
              | exact hk _ (by rw [show tc t n p = 145 from of_decide_eq_true n20]; rfl)
              | exact hk _ (by rw [show tc t n p = 142 from of_decide_eq_true n34]; rfl)
              | exact hk _ (by rw [show tc t n p = 147 from of_decide_eq_true n48]; rfl)
              | exact hk _ (by rw [show tc t n p = 137 from of_decide_eq_true n62]; rfl)
        · skip
          refine V_bipush (pc := 51) (v := nI 23) dX12_behindSum_51 (by decide) ?_
          refine V_goto (pc := 53) (tgt := 71) dX12_behindSum_53 (by decide) ?_
          first
            | exact hk _ (by rw [e6 (of_decide_eq_false c6) (of_decide_eq_false c20) (of_decide_eq_false c34) (of_decide_eq_false c48) (of_decide_eq_false c62)]; rfl)
            | exact hk _ (by rw [show tc t n p = 143 from of_decide_eq_true n6]; rfl)
            | exact hk _ (by rw [show tc t n p = 145 from of_decide_eq_true n20]; rfl)
            | exact hk _ (by rw [show tc t n p = 142 from of_decide_eq_true n34]; rfl)
            | exact hk _ (by rw [show tc t n p = 147 from of_decide_eq_true n48]; rfl)
            | exact hk _ (by rw [show tc t n p = 137 from of_decide_eq_true n62]; rfl)
      · skip
        refine V_bipush (pc := 37) (v := nI 22) dX12_behindSum_37 (by decide) ?_
        refine V_goto (pc := 39) (tgt := 71) dX12_behindSum_39 (by decide) ?_
        first
          | exact hk _ (by rw [e6 (of_decide_eq_false c6) (of_decide_eq_false c20) (of_decide_eq_false c34) (of_decide_eq_false c48) (of_decide_eq_false c62)]; rfl)
          | exact hk _ (by rw [show tc t n p = 143 from of_decide_eq_true n6]; rfl)
          | exact hk _ (by rw [show tc t n p = 145 from of_decide_eq_true n20]; rfl)
          | exact hk _ (by rw [show tc t n p = 142 from of_decide_eq_true n34]; rfl)
          | exact hk _ (by rw [show tc t n p = 147 from of_decide_eq_true n48]; rfl)
          | exact hk _ (by rw [show tc t n p = 137 from of_decide_eq_true n62]; rfl)
    · skip
      refine V_bipush (pc := 23) (v := nI 21) dX12_behindSum_23 (by decide) ?_
      refine V_goto (pc := 25) (tgt := 71) dX12_behindSum_25 (by decide) ?_
      first
        | exact hk _ (by rw [e6 (of_decide_eq_false c6) (of_decide_eq_false c20) (of_decide_eq_false c34) (of_decide_eq_false c48) (of_decide_eq_false c62)]; rfl)
        | exact hk _ (by rw [show tc t n p = 143 from of_decide_eq_true n6]; rfl)
        | exact hk _ (by rw [show tc t n p = 145 from of_decide_eq_true n20]; rfl)
        | exact hk _ (by rw [show tc t n p = 142 from of_decide_eq_true n34]; rfl)
        | exact hk _ (by rw [show tc t n p = 147 from of_decide_eq_true n48]; rfl)
        | exact hk _ (by rw [show tc t n p = 137 from of_decide_eq_true n62]; rfl)
  · skip
    refine V_bipush (pc := 9) (v := nI 20) dX12_behindSum_9 (by decide) ?_
    refine V_goto (pc := 11) (tgt := 71) dX12_behindSum_11 (by decide) ?_
    first
      | exact hk _ (by rw [e6 (of_decide_eq_false c6) (of_decide_eq_false c20) (of_decide_eq_false c34) (of_decide_eq_false c48) (of_decide_eq_false c62)]; rfl)
      | exact hk _ (by rw [show tc t n p = 143 from of_decide_eq_true n6]; rfl)
      | exact hk _ (by rw [show tc t n p = 145 from of_decide_eq_true n20]; rfl)
      | exact hk _ (by rw [show tc t n p = 142 from of_decide_eq_true n34]; rfl)
      | exact hk _ (by rw [show tc t n p = 147 from of_decide_eq_true n48]; rfl)
      | exact hk _ (by rw [show tc t n p = 137 from of_decide_eq_true n62]; rfl)
theorem c_X12_behindSum_op (h12 : Lay12 E S o) {te : Bool} (h : PS o t n I0 L0 I L none (p, l, d, P, c)) (hj : jx (tc t n p) ≠ 0) (hl : P.length < 400) (hb : BD 400 P c) : C E kX12_behindSum 4 0 0 [.ref o, .int (b2i te)] S I L (fun r S' I' L' => r = some (.int (nI 1)) ∧ S = S' ∧ PS o t n I0 L0 I' L' none (nxt t n p, l, d, (jx (tc t n p), 0) :: (sto (bnds (jx (tc t n p))) P c).1, (sto (bnds (jx (tc t n p))) P c).2)) := by
  have hb2 := BD.st (k := bnds (jx (tc t n p))) hb
  have hx := jx_le (tc t n p)
  have h6 := bnds_le (jx (tc t n p))
  have ho := h12.o
  refine C_of (by decide) (Nat.le_of_ble_eq_true rfl) ?_
  refine hd_behind h12 h (fun v hv => ?_)
  rw [hv, show itI (jx (tc t n p)) = nI (jx (tc t n p)) from by unfold itI; rw [if_neg hj]]
  generalize hxx : jx (tc t n p) = x at *
  refine V_istore_n (pc := 71) (ls' := [(0, _), (1, _), (2, _)]) dX12_behindSum_71 (by decide) rfl ?_
  refine V_iload_n (pc := 72) dX12_behindSum_72 rfl ?_
  refine V_iconst (pc := 73) (v := (-1)) dX12_behindSum_73 (by decide) ?_
  refine V_icmp_eq (pc := 74) (tgt := 97) dX12_behindSum_74 (by decide) (fun c74 => absurd c74 (by exact nI_nneg1 (by omega))) (fun n74 => ?_)
  refine V_aload_n (pc := 77) dX12_behindSum_77 rfl ?_
  refine V_iload_n (pc := 78) dX12_behindSum_78 rfl ?_
  refine V_callSd (pc := 79) (c_X12_binds (by omega)) dX12_behindSum_79 mlX12_318 mkX12_binds rfl rfl ⟨Nat.le_of_ble_eq_true rfl, Nat.le_of_ble_eq_true rfl⟩ (Nat.le_of_ble_eq_true rfl) ⟨Nat.le_of_ble_eq_true rfl, Nat.le_of_ble_eq_true rfl⟩ ?_
  refine V_callV (pc := 82) (ci := 12) (c_X12_settle h12 (by omega) h hb.1 hb.2.1 hb.2.2) dX12_behindSum_82 mlX12_377 mkX12_settle rfl rfl h12.o ⟨by decide, rfl⟩ ⟨Nat.le_of_ble_eq_true rfl, Nat.le_of_ble_eq_true rfl⟩ (Nat.le_of_ble_eq_true rfl) ⟨Nat.le_of_ble_eq_true rfl, Nat.le_of_ble_eq_true rfl⟩ (fun r S' I' L' hp => ?_)
  obtain ⟨rfl, rfl, rfl, hP⟩ := hp
  refine V_aload_n (pc := 85) dX12_behindSum_85 rfl ?_
  refine V_iload_n (pc := 86) dX12_behindSum_86 rfl ?_
  refine V_iconst (pc := 87) (v := nI 0) dX12_behindSum_87 (by decide) ?_
  refine V_callV (pc := 88) (ci := 12) (c_X12_push h12 hP (by have := hb2.2.1; omega)) dX12_behindSum_88 mlX12_338 mkX12_push rfl rfl h12.o ⟨by decide, rfl⟩ ⟨Nat.le_of_ble_eq_true rfl, Nat.le_of_ble_eq_true rfl⟩ (Nat.le_of_ble_eq_true rfl) ⟨Nat.le_of_ble_eq_true rfl, Nat.le_of_ble_eq_true rfl⟩ (fun r S' I' L' hp => ?_)
  obtain ⟨rfl, rfl, rfl, hP2⟩ := hp
  refine V_aload_n (pc := 91) dX12_behindSum_91 rfl ?_
  refine V_callV (pc := 92) (ci := 12) (c_X12_nextP h12 hP2) dX12_behindSum_92 mlX12_279 mkX12_next rfl rfl h12.o ⟨by decide, rfl⟩ ⟨Nat.le_of_ble_eq_true rfl, Nat.le_of_ble_eq_true rfl⟩ (Nat.le_of_ble_eq_true rfl) ⟨Nat.le_of_ble_eq_true rfl, Nat.le_of_ble_eq_true rfl⟩ (fun r S' I' L' hp => ?_)
  obtain ⟨rfl, rfl, hQ⟩ := hp
  refine V_iconst (pc := 95) (v := nI 1) dX12_behindSum_95 (by decide) ?_
  refine V_iret (pc := 96) dX12_behindSum_96 rfl (by first | decide | omega) (by first | decide | omega) ?_
  exact ⟨rfl, rfl, hQ⟩
theorem c_X12_behindSum_sq (h12 : Lay12 E S o) {te : Bool} {y : Nat × Nat} {P' : List (Nat × Nat)} {c' : CT} (h : PS o t n I0 L0 I L none (p, l, d, P, c)) (hj : jx (tc t n p) = 0) (hb : BD 400 P c) (hi : inr P = 33) (hd : 0 < d ∧ d ≤ 8) (hs : sto 5 P c = (y :: P', c')) : C E kX12_behindSum 4 0 0 [.ref o, .int (b2i te)] S I L (fun r S' I' L' => r = some (.int (nI 3)) ∧ S = S' ∧ (tc t n p = 193 → PS o t n I0 L0 I' L' none (nxt t n p, l, d - 1, P', c')) ∧ (tc t n p ≠ 193 → PS o t n I0 L0 I' L' (some p) (p, l, d, P, c))) := by
  have ho := h12.o
  have hl400 := hb.1
  have hb2 := BD.st (k := 5) hb
  rw [hs] at hb2
  have hl2 : P'.length + 1 ≤ P.length := hb2.2.1
  refine C_of (by decide) (Nat.le_of_ble_eq_true rfl) ?_
  refine hd_behind h12 h (fun v hv => ?_)
  rw [hj] at hv
  rw [show v = -1 from hv]
  by_cases h193 : tc t n p = 193
  · skip
    refine V_istore_n (pc := 71) (ls' := [(0, _), (1, _), (2, _)]) dX12_behindSum_71 (by decide) rfl ?_
    refine V_iload_n (pc := 72) dX12_behindSum_72 rfl ?_
    refine V_iconst (pc := 73) (v := (-1)) dX12_behindSum_73 (by decide) ?_
    refine V_icmp_eq (pc := 74) (tgt := 97) dX12_behindSum_74 (by decide) (fun c74 => ?_) (fun n74 => absurd n74 (by decide))
    refine V_aload_n (pc := 97) dX12_behindSum_97 rfl ?_
    refine V_callVd (pc := 98) (ci := 12) (c_X12_inner h12 h hb.1 hb.le) dX12_behindSum_98 mlX12_380 mkX12_inner rfl rfl h12.o ⟨by decide, rfl⟩ ⟨Nat.le_of_ble_eq_true rfl, Nat.le_of_ble_eq_true rfl⟩ (Nat.le_of_ble_eq_true rfl) ⟨Nat.le_of_ble_eq_true rfl, Nat.le_of_ble_eq_true rfl⟩ ?_
    rw [hi, show pred1 33 = nI 32 from pred1_s 32]
    refine V_istore_n (pc := 101) (ls' := [(0, _), (1, _), (2, _), (3, _)]) dX12_behindSum_101 (by decide) rfl ?_
    refine V_iload_n (pc := 102) dX12_behindSum_102 rfl ?_
    refine V_bipush (pc := 103) (v := nI 32) dX12_behindSum_103 (by decide) ?_
    refine V_icmp_neN (pc := 105) (tgt := 152) dX12_behindSum_105 (by decide) (by omega) (by omega) (fun c105 => absurd c105 (by omega)) (fun n105 => ?_)
    refine V_aload_n (pc := 108) dX12_behindSum_108 rfl ?_
    refine V_aload_n (pc := 109) dX12_behindSum_109 rfl ?_
    refine V_bipush (pc := 110) (v := nI 93) dX12_behindSum_110 (by decide) ?_
    refine V_callVd (pc := 112) (ci := 12) (c_X12_isSign h12 (show TK o t n I L p from h.1) (by omega)) dX12_behindSum_112 mlX12_344 mkX12_isSign rfl rfl h12.o ⟨by decide, rfl⟩ ⟨Nat.le_of_ble_eq_true rfl, Nat.le_of_ble_eq_true rfl⟩ (Nat.le_of_ble_eq_true rfl) ⟨Nat.le_of_ble_eq_true rfl, Nat.le_of_ble_eq_true rfl⟩ ?_
    refine V_callV (pc := 115) (ci := 12) (c_X12_must h12 h) dX12_behindSum_115 mlX12_308 mkX12_must rfl rfl h12.o ⟨by decide, rfl⟩ ⟨Nat.le_of_ble_eq_true rfl, Nat.le_of_ble_eq_true rfl⟩ (Nat.le_of_ble_eq_true rfl) ⟨Nat.le_of_ble_eq_true rfl, Nat.le_of_ble_eq_true rfl⟩ (fun r S' I' L' hp => ?_)
    obtain ⟨rfl, rfl, hP, _⟩ := hp
    have hP := hP (decide_eq_true (show tc t n p = 100 + 93 from h193))
    refine V_aload_n (pc := 118) dX12_behindSum_118 rfl ?_
    refine V_getIE (pc := 119) 12 19 dX12_behindSum_119 flX12_275 (by decide) h12.o (hP.2.2.2.2.2.2.1) ?_
    refine V_if_neB (pc := 122) (tgt := 150) dX12_behindSum_122 (by decide) (fun c122 => absurd c122 (by simp)) (fun n122 => ?_)
    refine V_aload_n (pc := 125) dX12_behindSum_125 rfl ?_
    refine V_iconst (pc := 126) (v := nI 5) dX12_behindSum_126 (by decide) ?_
    refine V_callV (pc := 127) (ci := 12) (c_X12_settle h12 (by omega) hP hb.1 hb.2.1 hb.2.2) dX12_behindSum_127 mlX12_377 mkX12_settle rfl rfl h12.o ⟨by decide, rfl⟩ ⟨Nat.le_of_ble_eq_true rfl, Nat.le_of_ble_eq_true rfl⟩ (Nat.le_of_ble_eq_true rfl) ⟨Nat.le_of_ble_eq_true rfl, Nat.le_of_ble_eq_true rfl⟩ (fun r S' I' L' hp => ?_)
    obtain ⟨rfl, rfl, rfl, hP2⟩ := hp
    rw [hs] at hP2
    refine V_aload_n (pc := 130) dX12_behindSum_130 rfl ?_
    refine V_dup (pc := 131) dX12_behindSum_131 rfl ?_
    refine V_getIE (pc := 132) 12 29 dX12_behindSum_132 flX12_315 (by decide) h12.o ((show I' o 29 = nI (P'.length + 1) from hP2.2.2.2.1)) ?_
    refine V_iconst (pc := 135) (v := nI 1) dX12_behindSum_135 (by decide) ?_
    refine V_isubN (pc := 136) dX12_behindSum_136 (by omega) ?_
    refine V_putI (pc := 137) 12 29 dX12_behindSum_137 flX12_315 (by decide) (by decide) (Or.inl rfl) rfl rfl h12.o ?_
    refine V_aload_n (pc := 140) dX12_behindSum_140 rfl ?_
    refine V_dup (pc := 141) dX12_behindSum_141 rfl ?_
    refine V_getIE (pc := 142) 12 30 dX12_behindSum_142 flX12_335 (by decide) h12.o ((show up2 I' o 29 (nI P'.length) o 30 = nI d from (up2_nej (by omega)).trans hP2.2.2.1)) ?_
    refine V_iconst (pc := 145) (v := nI 1) dX12_behindSum_145 (by decide) ?_
    refine V_isubN (pc := 146) dX12_behindSum_146 (by omega) ?_
    refine V_putI (pc := 147) 12 30 dX12_behindSum_147 flX12_335 (by decide) (by decide) (Or.inl rfl) rfl rfl h12.o ?_
    refine V_iconst (pc := 150) (v := nI 3) dX12_behindSum_150 (by decide) ?_
    refine V_iret (pc := 151) dX12_behindSum_151 rfl (by first | decide | omega) (by first | decide | omega) ?_
    exact ⟨rfl, rfl, (fun _ => hP2.pop.set30), fun z => absurd h193 z⟩
  · skip
    refine V_istore_n (pc := 71) (ls' := [(0, _), (1, _), (2, _)]) dX12_behindSum_71 (by decide) rfl ?_
    refine V_iload_n (pc := 72) dX12_behindSum_72 rfl ?_
    refine V_iconst (pc := 73) (v := (-1)) dX12_behindSum_73 (by decide) ?_
    refine V_icmp_eq (pc := 74) (tgt := 97) dX12_behindSum_74 (by decide) (fun c74 => ?_) (fun n74 => absurd n74 (by decide))
    refine V_aload_n (pc := 97) dX12_behindSum_97 rfl ?_
    refine V_callVd (pc := 98) (ci := 12) (c_X12_inner h12 h hb.1 hb.le) dX12_behindSum_98 mlX12_380 mkX12_inner rfl rfl h12.o ⟨by decide, rfl⟩ ⟨Nat.le_of_ble_eq_true rfl, Nat.le_of_ble_eq_true rfl⟩ (Nat.le_of_ble_eq_true rfl) ⟨Nat.le_of_ble_eq_true rfl, Nat.le_of_ble_eq_true rfl⟩ ?_
    rw [hi, show pred1 33 = nI 32 from pred1_s 32]
    refine V_istore_n (pc := 101) (ls' := [(0, _), (1, _), (2, _), (3, _)]) dX12_behindSum_101 (by decide) rfl ?_
    refine V_iload_n (pc := 102) dX12_behindSum_102 rfl ?_
    refine V_bipush (pc := 103) (v := nI 32) dX12_behindSum_103 (by decide) ?_
    refine V_icmp_neN (pc := 105) (tgt := 152) dX12_behindSum_105 (by decide) (by omega) (by omega) (fun c105 => absurd c105 (by omega)) (fun n105 => ?_)
    refine V_aload_n (pc := 108) dX12_behindSum_108 rfl ?_
    refine V_aload_n (pc := 109) dX12_behindSum_109 rfl ?_
    refine V_bipush (pc := 110) (v := nI 93) dX12_behindSum_110 (by decide) ?_
    refine V_callVd (pc := 112) (ci := 12) (c_X12_isSign h12 (show TK o t n I L p from h.1) (by omega)) dX12_behindSum_112 mlX12_344 mkX12_isSign rfl rfl h12.o ⟨by decide, rfl⟩ ⟨Nat.le_of_ble_eq_true rfl, Nat.le_of_ble_eq_true rfl⟩ (Nat.le_of_ble_eq_true rfl) ⟨Nat.le_of_ble_eq_true rfl, Nat.le_of_ble_eq_true rfl⟩ ?_
    refine V_callV (pc := 115) (ci := 12) (c_X12_must h12 h) dX12_behindSum_115 mlX12_308 mkX12_must rfl rfl h12.o ⟨by decide, rfl⟩ ⟨Nat.le_of_ble_eq_true rfl, Nat.le_of_ble_eq_true rfl⟩ (Nat.le_of_ble_eq_true rfl) ⟨Nat.le_of_ble_eq_true rfl, Nat.le_of_ble_eq_true rfl⟩ (fun r S' I' L' hp => ?_)
    obtain ⟨rfl, rfl, _, hP⟩ := hp
    have hP := hP (decide_eq_false (show ¬ tc t n p = 100 + 93 from h193))
    refine V_aload_n (pc := 118) dX12_behindSum_118 rfl ?_
    refine V_getIE (pc := 119) 12 19 dX12_behindSum_119 flX12_275 (by decide) h12.o (hP.2.2.2.2.2.2.1) ?_
    refine V_if_neB (pc := 122) (tgt := 150) dX12_behindSum_122 (by decide) (fun c122 => ?_) (fun n122 => absurd n122 (by simp))
    refine V_iconst (pc := 150) (v := nI 3) dX12_behindSum_150 (by decide) ?_
    refine V_iret (pc := 151) dX12_behindSum_151 rfl (by first | decide | omega) (by first | decide | omega) ?_
    exact ⟨rfl, rfl, (fun z => absurd z h193), fun _ => hP⟩
theorem c_X12_behindSum_end (h12 : Lay12 E S o) (h : PS o t n I0 L0 I L none (p, l, d, P, c)) (hj : jx (tc t n p) = 0) (hb : BD 400 P c) (hi : inr P = 0) : C E kX12_behindSum 4 0 0 [.ref o, .int (b2i false)] S I L (fun r S' I' L' => r = some (.int (nI 4)) ∧ S = S' ∧ PS o t n I0 L0 I' L' none (p, l, d, P, c)) := by
  have ho := h12.o
  refine C_of (by decide) (Nat.le_of_ble_eq_true rfl) ?_
  refine hd_behind h12 h (fun v hv => ?_)
  rw [hj] at hv
  rw [show v = -1 from hv]
  refine V_istore_n (pc := 71) (ls' := [(0, _), (1, _), (2, _)]) dX12_behindSum_71 (by decide) rfl ?_
  refine V_iload_n (pc := 72) dX12_behindSum_72 rfl ?_
  refine V_iconst (pc := 73) (v := (-1)) dX12_behindSum_73 (by decide) ?_
  refine V_icmp_eq (pc := 74) (tgt := 97) dX12_behindSum_74 (by decide) (fun c74 => ?_) (fun n74 => absurd n74 (by decide))
  refine V_aload_n (pc := 97) dX12_behindSum_97 rfl ?_
  refine V_callVd (pc := 98) (ci := 12) (c_X12_inner h12 h hb.1 hb.le) dX12_behindSum_98 mlX12_380 mkX12_inner rfl rfl h12.o ⟨by decide, rfl⟩ ⟨Nat.le_of_ble_eq_true rfl, Nat.le_of_ble_eq_true rfl⟩ (Nat.le_of_ble_eq_true rfl) ⟨Nat.le_of_ble_eq_true rfl, Nat.le_of_ble_eq_true rfl⟩ ?_
  rw [hi, pred1_0]
  refine V_istore_n (pc := 101) (ls' := [(0, _), (1, _), (2, _), (3, _)]) dX12_behindSum_101 (by decide) rfl ?_
  refine V_iload_n (pc := 102) dX12_behindSum_102 rfl ?_
  refine V_bipush (pc := 103) (v := nI 32) dX12_behindSum_103 (by decide) ?_
  refine V_icmp_ne (pc := 105) (tgt := 152) dX12_behindSum_105 (by decide) (fun c105 => ?_) (fun n105 => absurd n105 (by decide))
  refine V_iload_n (pc := 152) dX12_behindSum_152 rfl ?_
  refine V_iconst (pc := 153) (v := (-1)) dX12_behindSum_153 (by decide) ?_
  refine V_icmp_ne (pc := 154) (tgt := 163) dX12_behindSum_154 (by decide) (fun c154 => absurd c154 (by decide)) (fun n154 => ?_)
  refine V_iload_n (pc := 157) dX12_behindSum_157 rfl ?_
  refine V_if_neB (pc := 158) (tgt := 163) dX12_behindSum_158 (by decide) (fun c158 => absurd c158 (by decide)) (fun n158 => ?_)
  refine V_iconst (pc := 161) (v := nI 4) dX12_behindSum_161 (by decide) ?_
  refine V_iret (pc := 162) dX12_behindSum_162 rfl (by first | decide | omega) (by first | decide | omega) ?_
  exact ⟨rfl, rfl, h⟩
theorem c_X12_behindSum_told (h12 : Lay12 E S o) {te : Bool} (h : PS o t n I0 L0 I L none (p, l, d, P, c)) (hj : jx (tc t n p) = 0) (hb : BD 400 P c) (hi : inr P ≠ 33) (hte : te = true) (hc : cmpd P = true) : C E kX12_behindSum 4 0 0 [.ref o, .int (b2i te)] S I L (fun r S' I' L' => r = some (.int (nI 2)) ∧ S = S' ∧ PS o t n I0 L0 I' L' none (p, l, d, P, c)) := by
  have ho := h12.o
  have hin := inr_le hb.le
  have h33 : ¬ pred1 (inr P) = nI 32 := fun z => hi ((pred1_some (by omega) (by omega)).mp z)
  subst hte
  refine C_of (by decide) (Nat.le_of_ble_eq_true rfl) ?_
  refine hd_behind h12 h (fun v hv => ?_)
  rw [hj] at hv
  rw [show v = -1 from hv]
  refine V_istore_n (pc := 71) (ls' := [(0, _), (1, _), (2, _)]) dX12_behindSum_71 (by decide) rfl ?_
  refine V_iload_n (pc := 72) dX12_behindSum_72 rfl ?_
  refine V_iconst (pc := 73) (v := (-1)) dX12_behindSum_73 (by decide) ?_
  refine V_icmp_eq (pc := 74) (tgt := 97) dX12_behindSum_74 (by decide) (fun c74 => ?_) (fun n74 => absurd n74 (by decide))
  refine V_aload_n (pc := 97) dX12_behindSum_97 rfl ?_
  refine V_callVd (pc := 98) (ci := 12) (c_X12_inner h12 h hb.1 hb.le) dX12_behindSum_98 mlX12_380 mkX12_inner rfl rfl h12.o ⟨by decide, rfl⟩ ⟨Nat.le_of_ble_eq_true rfl, Nat.le_of_ble_eq_true rfl⟩ (Nat.le_of_ble_eq_true rfl) ⟨Nat.le_of_ble_eq_true rfl, Nat.le_of_ble_eq_true rfl⟩ ?_
  refine V_istore_n (pc := 101) (ls' := [(0, _), (1, _), (2, _), (3, _)]) dX12_behindSum_101 (by decide) rfl ?_
  refine V_iload_n (pc := 102) dX12_behindSum_102 rfl ?_
  refine V_bipush (pc := 103) (v := nI 32) dX12_behindSum_103 (by decide) ?_
  refine V_icmp_ne (pc := 105) (tgt := 152) dX12_behindSum_105 (by decide) (fun c105 => ?_) (fun n105 => absurd n105 (by exact h33))
  refine V_iload_n (pc := 152) dX12_behindSum_152 rfl ?_
  refine V_iconst (pc := 153) (v := (-1)) dX12_behindSum_153 (by decide) ?_
  refine V_icmp_ne (pc := 154) (tgt := 163) dX12_behindSum_154 (by decide) (fun c154 => ?_) (fun n154 => ?_)
  · skip
    refine V_aload_n (pc := 163) dX12_behindSum_163 rfl ?_
    refine V_callVd (pc := 164) (ci := 12) (c_X12_isCompared h12 h hb.1 hb.le) dX12_behindSum_164 mlX12_383 mkX12_isCompared rfl rfl h12.o ⟨by decide, rfl⟩ ⟨Nat.le_of_ble_eq_true rfl, Nat.le_of_ble_eq_true rfl⟩ (Nat.le_of_ble_eq_true rfl) ⟨Nat.le_of_ble_eq_true rfl, Nat.le_of_ble_eq_true rfl⟩ ?_
    refine V_if_eqB (pc := 167) (tgt := 172) dX12_behindSum_167 (by decide) (fun c167 => absurd c167 (by rw [hc]; decide)) (fun n167 => ?_)
    refine V_iconst (pc := 170) (v := nI 2) dX12_behindSum_170 (by decide) ?_
    refine V_iret (pc := 171) dX12_behindSum_171 rfl (by first | decide | omega) (by first | decide | omega) ?_
    exact ⟨rfl, rfl, h⟩
  · skip
    refine V_iload_n (pc := 157) dX12_behindSum_157 rfl ?_
    refine V_if_neB (pc := 158) (tgt := 163) dX12_behindSum_158 (by decide) (fun c158 => ?_) (fun n158 => absurd n158 (by decide))
    refine V_aload_n (pc := 163) dX12_behindSum_163 rfl ?_
    refine V_callVd (pc := 164) (ci := 12) (c_X12_isCompared h12 h hb.1 hb.le) dX12_behindSum_164 mlX12_383 mkX12_isCompared rfl rfl h12.o ⟨by decide, rfl⟩ ⟨Nat.le_of_ble_eq_true rfl, Nat.le_of_ble_eq_true rfl⟩ (Nat.le_of_ble_eq_true rfl) ⟨Nat.le_of_ble_eq_true rfl, Nat.le_of_ble_eq_true rfl⟩ ?_
    refine V_if_eqB (pc := 167) (tgt := 172) dX12_behindSum_167 (by decide) (fun c167 => absurd c167 (by rw [hc]; decide)) (fun n167 => ?_)
    refine V_iconst (pc := 170) (v := nI 2) dX12_behindSum_170 (by decide) ?_
    refine V_iret (pc := 171) dX12_behindSum_171 rfl (by first | decide | omega) (by first | decide | omega) ?_
    exact ⟨rfl, rfl, h⟩
theorem c_X12_behindSum_cmp (h12 : Lay12 E S o) {te : Bool} (h : PS o t n I0 L0 I L none (p, l, d, P, c)) (hj : jx (tc t n p) = 0) (hb : BD 400 P c) (hl : cmpS (tc t n p) ≠ 0 → P.length < 400) (hi : inr P ≠ 33) (hte : te = true) (hc : cmpd P = false) : C E kX12_behindSum 4 0 0 [.ref o, .int (b2i te)] S I L (fun r S' I' L' => r = some (.int (nI 1)) ∧ S = S' ∧ (cmpS (tc t n p) ≠ 0 → PS o t n I0 L0 I' L' none (nxt t n p, l, d, (cmpS (tc t n p), 0) :: (sto 5 P c).1, (sto 5 P c).2)) ∧ (cmpS (tc t n p) = 0 → PS o t n I0 L0 I' L' (some p) (p, l, d, P, c))) := by
  have ho := h12.o
  have hT : TK o t n I L p := h.1
  have hin := inr_le hb.le
  have h33 : ¬ pred1 (inr P) = nI 32 := fun z => hi ((pred1_some (by omega) (by omega)).mp z)
  have hb2 := BD.st (k := 5) hb
  subst hte
  refine C_of (by decide) (Nat.le_of_ble_eq_true rfl) ?_
  refine hd_behind h12 h (fun v hv => ?_)
  rw [hj] at hv
  rw [show v = -1 from hv]
  generalize hpost : (fun (r : Option Value) (S' : ST) (I' : IT) (L' : LT) => r = some (.int (nI 1)) ∧ S = S' ∧ (cmpS (tc t n p) ≠ 0 → PS o t n I0 L0 I' L' none (nxt t n p, l, d, (cmpS (tc t n p), 0) :: (sto 5 P c).1, (sto 5 P c).2)) ∧ (cmpS (tc t n p) = 0 → PS o t n I0 L0 I' L' (some p) (p, l, d, P, c))) = post
  have fin : ∀ (x : Nat) (q : Bool) (z : Int32), q = decide (cmpS (tc t n p) ≠ 0) → (cmpS (tc t n p) ≠ 0 → cmpS (tc t n p) = x) → x < 400 → V E kX12_behindSum (rmOf 4 0 0) (QM E post 0 0) 0 0 S I L 224 [(0, .ref o), (1, .int (b2i true)), (2, .int (nI x)), (3, .int z)] [.int (b2i q), .ref o] := by
    intro x q z hq hx hx4
    by_cases h0 : cmpS (tc t n p) = 0
    · skip
      refine V_callV (pc := 224) (ci := 12) (c_X12_must h12 h) dX12_behindSum_224 mlX12_308 mkX12_must rfl rfl (by assumption) ⟨by decide, rfl⟩ ⟨Nat.le_of_ble_eq_true rfl, Nat.le_of_ble_eq_true rfl⟩ (Nat.le_of_ble_eq_true rfl) ⟨Nat.le_of_ble_eq_true rfl, Nat.le_of_ble_eq_true rfl⟩ (fun r S' I' L' hp => ?_)
      obtain ⟨rfl, rfl, _, hP⟩ := hp
      have hP := hP (by rw [hq]; exact decide_eq_false (fun y => y h0))
      refine V_aload_n (pc := 227) dX12_behindSum_227 rfl ?_
      refine V_getIE (pc := 228) 12 19 dX12_behindSum_228 flX12_275 (by decide) h12.o (hP.2.2.2.2.2.2.1) ?_
      refine V_if_neB (pc := 231) (tgt := 245) dX12_behindSum_231 (by decide) (fun c231 => ?_) (fun n231 => absurd n231 (by simp))
      refine V_iconst (pc := 245) (v := nI 1) dX12_behindSum_245 (by decide) ?_
      refine V_iret (pc := 246) dX12_behindSum_246 rfl (by first | decide | omega) (by first | decide | omega) ?_
      subst hpost
      exact ⟨rfl, rfl, (fun y => absurd h0 y), fun _ => hP⟩
    · skip
      refine V_callV (pc := 224) (ci := 12) (c_X12_must h12 h) dX12_behindSum_224 mlX12_308 mkX12_must rfl rfl (by assumption) ⟨by decide, rfl⟩ ⟨Nat.le_of_ble_eq_true rfl, Nat.le_of_ble_eq_true rfl⟩ (Nat.le_of_ble_eq_true rfl) ⟨Nat.le_of_ble_eq_true rfl, Nat.le_of_ble_eq_true rfl⟩ (fun r S' I' L' hp => ?_)
      obtain ⟨rfl, rfl, hP, _⟩ := hp
      have hP := hP (by rw [hq]; exact decide_eq_true h0)
      refine V_aload_n (pc := 227) dX12_behindSum_227 rfl ?_
      refine V_getIE (pc := 228) 12 19 dX12_behindSum_228 flX12_275 (by decide) h12.o (hP.2.2.2.2.2.2.1) ?_
      refine V_if_neB (pc := 231) (tgt := 245) dX12_behindSum_231 (by decide) (fun c231 => absurd c231 (by simp)) (fun n231 => ?_)
      refine V_aload_n (pc := 234) dX12_behindSum_234 rfl ?_
      refine V_iconst (pc := 235) (v := nI 5) dX12_behindSum_235 (by decide) ?_
      refine V_callV (pc := 236) (ci := 12) (c_X12_settle h12 (by omega) hP hb.1 hb.2.1 hb.2.2) dX12_behindSum_236 mlX12_377 mkX12_settle rfl rfl h12.o ⟨by decide, rfl⟩ ⟨Nat.le_of_ble_eq_true rfl, Nat.le_of_ble_eq_true rfl⟩ (Nat.le_of_ble_eq_true rfl) ⟨Nat.le_of_ble_eq_true rfl, Nat.le_of_ble_eq_true rfl⟩ (fun r S' I' L' hp => ?_)
      obtain ⟨rfl, rfl, rfl, hP2⟩ := hp
      refine V_aload_n (pc := 239) dX12_behindSum_239 rfl ?_
      refine V_iload_n (pc := 240) dX12_behindSum_240 rfl ?_
      refine V_iconst (pc := 241) (v := nI 0) dX12_behindSum_241 (by decide) ?_
      refine V_callV (pc := 242) (ci := 12) (c_X12_push h12 hP2 (by have := hb2.2.1; have := hl h0; omega)) dX12_behindSum_242 mlX12_338 mkX12_push rfl rfl h12.o ⟨by decide, rfl⟩ ⟨Nat.le_of_ble_eq_true rfl, Nat.le_of_ble_eq_true rfl⟩ (Nat.le_of_ble_eq_true rfl) ⟨Nat.le_of_ble_eq_true rfl, Nat.le_of_ble_eq_true rfl⟩ (fun r S' I' L' hp => ?_)
      obtain ⟨rfl, rfl, rfl, hP3⟩ := hp
      refine V_iconst (pc := 245) (v := nI 1) dX12_behindSum_245 (by decide) ?_
      refine V_iret (pc := 246) dX12_behindSum_246 rfl (by first | decide | omega) (by first | decide | omega) ?_
      subst hpost
      exact ⟨rfl, rfl, (fun y => by rw [hx y]; exact hP3), fun y => absurd y h0⟩
  refine V_istore_n (pc := 71) (ls' := [(0, _), (1, _), (2, _)]) dX12_behindSum_71 (by decide) rfl ?_
  refine V_iload_n (pc := 72) dX12_behindSum_72 rfl ?_
  refine V_iconst (pc := 73) (v := (-1)) dX12_behindSum_73 (by decide) ?_
  refine V_icmp_eq (pc := 74) (tgt := 97) dX12_behindSum_74 (by decide) (fun c74 => ?_) (fun n74 => absurd n74 (by decide))
  refine V_aload_n (pc := 97) dX12_behindSum_97 rfl ?_
  refine V_callVd (pc := 98) (ci := 12) (c_X12_inner h12 h hb.1 hb.le) dX12_behindSum_98 mlX12_380 mkX12_inner rfl rfl h12.o ⟨by decide, rfl⟩ ⟨Nat.le_of_ble_eq_true rfl, Nat.le_of_ble_eq_true rfl⟩ (Nat.le_of_ble_eq_true rfl) ⟨Nat.le_of_ble_eq_true rfl, Nat.le_of_ble_eq_true rfl⟩ ?_
  refine V_istore_n (pc := 101) (ls' := [(0, _), (1, _), (2, _), (3, _)]) dX12_behindSum_101 (by decide) rfl ?_
  refine V_iload_n (pc := 102) dX12_behindSum_102 rfl ?_
  refine V_bipush (pc := 103) (v := nI 32) dX12_behindSum_103 (by decide) ?_
  refine V_icmp_ne (pc := 105) (tgt := 152) dX12_behindSum_105 (by decide) (fun c105 => ?_) (fun n105 => absurd n105 (by exact h33))
  refine V_iload_n (pc := 152) dX12_behindSum_152 rfl ?_
  refine V_iconst (pc := 153) (v := (-1)) dX12_behindSum_153 (by decide) ?_
  refine V_icmp_ne (pc := 154) (tgt := 163) dX12_behindSum_154 (by decide) (fun c154 => ?_) (fun n154 => ?_)
  · skip
    refine V_aload_n (pc := 163) dX12_behindSum_163 rfl ?_
    refine V_callVd (pc := 164) (ci := 12) (c_X12_isCompared h12 h hb.1 hb.le) dX12_behindSum_164 mlX12_383 mkX12_isCompared rfl rfl h12.o ⟨by decide, rfl⟩ ⟨Nat.le_of_ble_eq_true rfl, Nat.le_of_ble_eq_true rfl⟩ (Nat.le_of_ble_eq_true rfl) ⟨Nat.le_of_ble_eq_true rfl, Nat.le_of_ble_eq_true rfl⟩ ?_
    refine V_if_eqB (pc := 167) (tgt := 172) dX12_behindSum_167 (by decide) (fun c167 => ?_) (fun n167 => absurd n167 (by rw [hc]; decide))
    refine V_aload_n (pc := 172) dX12_behindSum_172 rfl ?_
    refine V_bipush (pc := 173) (v := nI 60) dX12_behindSum_173 (by decide) ?_
    refine V_callVd (pc := 175) (ci := 12) (c_X12_isSign h12 hT (by omega)) dX12_behindSum_175 mlX12_344 mkX12_isSign rfl rfl h12.o ⟨by decide, rfl⟩ ⟨Nat.le_of_ble_eq_true rfl, Nat.le_of_ble_eq_true rfl⟩ (Nat.le_of_ble_eq_true rfl) ⟨Nat.le_of_ble_eq_true rfl, Nat.le_of_ble_eq_true rfl⟩ ?_
    refine V_if_eqB (pc := 178) (tgt := 186) dX12_behindSum_178 (by decide) (fun c178 => ?_) (fun n178 => ?_)
    · skip
      refine V_aload_n (pc := 186) dX12_behindSum_186 rfl ?_
      refine V_bipush (pc := 187) (v := nI 62) dX12_behindSum_187 (by decide) ?_
      refine V_callVd (pc := 189) (ci := 12) (c_X12_isSign h12 hT (by omega)) dX12_behindSum_189 mlX12_344 mkX12_isSign rfl rfl h12.o ⟨by decide, rfl⟩ ⟨Nat.le_of_ble_eq_true rfl, Nat.le_of_ble_eq_true rfl⟩ (Nat.le_of_ble_eq_true rfl) ⟨Nat.le_of_ble_eq_true rfl, Nat.le_of_ble_eq_true rfl⟩ ?_
      refine V_if_eqB (pc := 192) (tgt := 200) dX12_behindSum_192 (by decide) (fun c192 => ?_) (fun n192 => ?_)
      · skip
        refine V_bipush (pc := 200) (v := nI 27) dX12_behindSum_200 (by decide) ?_
        refine V_istore_n (pc := 202) (ls' := [(0, _), (1, _), (2, _), (3, _)]) dX12_behindSum_202 (by decide) rfl ?_
        refine V_aload_n (pc := 203) dX12_behindSum_203 rfl ?_
        refine V_iload_n (pc := 204) dX12_behindSum_204 rfl ?_
        refine V_bipush (pc := 205) (v := nI 27) dX12_behindSum_205 (by decide) ?_
        refine V_icmp_neN (pc := 207) (tgt := 219) dX12_behindSum_207 (by decide) (by omega) (by omega) (fun c207 => ?_) (fun n207 => ?_)
        · skip
          first
            | have e : cmpS (tc t n p) = 27 := by rw [show tc t n p = 161 from of_decide_eq_true n216]; rfl
            | skip
          refine V_iconst (pc := 219) (v := nI 1) dX12_behindSum_219 (by decide) ?_
          refine V_goto (pc := 220) (tgt := 224) dX12_behindSum_220 (by decide) ?_
          first
            | exact absurd rfl c207
            | exact absurd n207 (by omega)
            | exact fin _ false _ (decide_eq_false (fun y => y e)).symm (fun y => absurd e y) (by omega)
            | exact fin _ true _ (decide_eq_true (by omega)).symm (fun _ => e) (by omega)
        · skip
          refine V_aload_n (pc := 210) dX12_behindSum_210 rfl ?_
          refine V_bipush (pc := 211) (v := nI 61) dX12_behindSum_211 (by decide) ?_
          refine V_callVd (pc := 213) (ci := 12) (c_X12_isSign h12 hT (by omega)) dX12_behindSum_213 mlX12_344 mkX12_isSign rfl rfl h12.o ⟨by decide, rfl⟩ ⟨Nat.le_of_ble_eq_true rfl, Nat.le_of_ble_eq_true rfl⟩ (Nat.le_of_ble_eq_true rfl) ⟨Nat.le_of_ble_eq_true rfl, Nat.le_of_ble_eq_true rfl⟩ ?_
          refine V_if_eqB (pc := 216) (tgt := 223) dX12_behindSum_216 (by decide) (fun c216 => ?_) (fun n216 => ?_)
          · skip
            have e : cmpS (tc t n p) = 0 := by
              first | omega | (unfold cmpS; rw [if_neg (show ¬ tc t n p = 160 from of_decide_eq_false c178), if_neg (show ¬ tc t n p = 162 from of_decide_eq_false c192), if_neg (show ¬ tc t n p = 161 from of_decide_eq_false c216)])
            refine V_iconst (pc := 223) (v := nI 0) dX12_behindSum_223 (by decide) ?_
            first
              | exact absurd rfl c207
              | exact absurd n207 (by omega)
              | exact fin _ false _ (decide_eq_false (fun y => y e)).symm (fun y => absurd e y) (by omega)
              | exact fin _ true _ (decide_eq_true (by omega)).symm (fun _ => e) (by omega)
          · skip
            first
              | have e : cmpS (tc t n p) = 27 := by rw [show tc t n p = 161 from of_decide_eq_true n216]; rfl
              | skip
            refine V_iconst (pc := 219) (v := nI 1) dX12_behindSum_219 (by decide) ?_
            refine V_goto (pc := 220) (tgt := 224) dX12_behindSum_220 (by decide) ?_
            first
              | exact absurd rfl c207
              | exact absurd n207 (by omega)
              | exact fin _ false _ (decide_eq_false (fun y => y e)).symm (fun y => absurd e y) (by omega)
              | exact fin _ true _ (decide_eq_true (by omega)).symm (fun _ => e) (by omega)
      · skip
        have e : cmpS (tc t n p) = 26 := by rw [show tc t n p = 162 from of_decide_eq_true n192]; rfl
        refine V_bipush (pc := 195) (v := nI 26) dX12_behindSum_195 (by decide) ?_
        refine V_goto (pc := 197) (tgt := 202) dX12_behindSum_197 (by decide) ?_
        refine V_istore_n (pc := 202) (ls' := [(0, _), (1, _), (2, _), (3, _)]) dX12_behindSum_202 (by decide) rfl ?_
        refine V_aload_n (pc := 203) dX12_behindSum_203 rfl ?_
        refine V_iload_n (pc := 204) dX12_behindSum_204 rfl ?_
        refine V_bipush (pc := 205) (v := nI 27) dX12_behindSum_205 (by decide) ?_
        refine V_icmp_neN (pc := 207) (tgt := 219) dX12_behindSum_207 (by decide) (by omega) (by omega) (fun c207 => ?_) (fun n207 => ?_)
        · skip
          first
            | have e : cmpS (tc t n p) = 27 := by rw [show tc t n p = 161 from of_decide_eq_true n216]; rfl
            | skip
          refine V_iconst (pc := 219) (v := nI 1) dX12_behindSum_219 (by decide) ?_
          refine V_goto (pc := 220) (tgt := 224) dX12_behindSum_220 (by decide) ?_
          first
            | exact absurd rfl c207
            | exact absurd n207 (by omega)
            | exact fin _ false _ (decide_eq_false (fun y => y e)).symm (fun y => absurd e y) (by omega)
            | exact fin _ true _ (decide_eq_true (by omega)).symm (fun _ => e) (by omega)
        · skip
          refine V_aload_n (pc := 210) dX12_behindSum_210 rfl ?_
          refine V_bipush (pc := 211) (v := nI 61) dX12_behindSum_211 (by decide) ?_
          refine V_callVd (pc := 213) (ci := 12) (c_X12_isSign h12 hT (by omega)) dX12_behindSum_213 mlX12_344 mkX12_isSign rfl rfl h12.o ⟨by decide, rfl⟩ ⟨Nat.le_of_ble_eq_true rfl, Nat.le_of_ble_eq_true rfl⟩ (Nat.le_of_ble_eq_true rfl) ⟨Nat.le_of_ble_eq_true rfl, Nat.le_of_ble_eq_true rfl⟩ ?_
          refine V_if_eqB (pc := 216) (tgt := 223) dX12_behindSum_216 (by decide) (fun c216 => ?_) (fun n216 => ?_)
          · skip
            have e : cmpS (tc t n p) = 0 := by
              first | omega | (unfold cmpS; rw [if_neg (show ¬ tc t n p = 160 from of_decide_eq_false c178), if_neg (show ¬ tc t n p = 162 from of_decide_eq_false c192), if_neg (show ¬ tc t n p = 161 from of_decide_eq_false c216)])
            refine V_iconst (pc := 223) (v := nI 0) dX12_behindSum_223 (by decide) ?_
            first
              | exact absurd rfl c207
              | exact absurd n207 (by omega)
              | exact fin _ false _ (decide_eq_false (fun y => y e)).symm (fun y => absurd e y) (by omega)
              | exact fin _ true _ (decide_eq_true (by omega)).symm (fun _ => e) (by omega)
          · skip
            first
              | have e : cmpS (tc t n p) = 27 := by rw [show tc t n p = 161 from of_decide_eq_true n216]; rfl
              | skip
            refine V_iconst (pc := 219) (v := nI 1) dX12_behindSum_219 (by decide) ?_
            refine V_goto (pc := 220) (tgt := 224) dX12_behindSum_220 (by decide) ?_
            first
              | exact absurd rfl c207
              | exact absurd n207 (by omega)
              | exact fin _ false _ (decide_eq_false (fun y => y e)).symm (fun y => absurd e y) (by omega)
              | exact fin _ true _ (decide_eq_true (by omega)).symm (fun _ => e) (by omega)
    · skip
      have e : cmpS (tc t n p) = 25 := by rw [show tc t n p = 160 from of_decide_eq_true n178]; rfl
      refine V_bipush (pc := 181) (v := nI 25) dX12_behindSum_181 (by decide) ?_
      refine V_goto (pc := 183) (tgt := 202) dX12_behindSum_183 (by decide) ?_
      refine V_istore_n (pc := 202) (ls' := [(0, _), (1, _), (2, _), (3, _)]) dX12_behindSum_202 (by decide) rfl ?_
      refine V_aload_n (pc := 203) dX12_behindSum_203 rfl ?_
      refine V_iload_n (pc := 204) dX12_behindSum_204 rfl ?_
      refine V_bipush (pc := 205) (v := nI 27) dX12_behindSum_205 (by decide) ?_
      refine V_icmp_neN (pc := 207) (tgt := 219) dX12_behindSum_207 (by decide) (by omega) (by omega) (fun c207 => ?_) (fun n207 => ?_)
      · skip
        first
          | have e : cmpS (tc t n p) = 27 := by rw [show tc t n p = 161 from of_decide_eq_true n216]; rfl
          | skip
        refine V_iconst (pc := 219) (v := nI 1) dX12_behindSum_219 (by decide) ?_
        refine V_goto (pc := 220) (tgt := 224) dX12_behindSum_220 (by decide) ?_
        first
          | exact absurd rfl c207
          | exact absurd n207 (by omega)
          | exact fin _ false _ (decide_eq_false (fun y => y e)).symm (fun y => absurd e y) (by omega)
          | exact fin _ true _ (decide_eq_true (by omega)).symm (fun _ => e) (by omega)
      · skip
        refine V_aload_n (pc := 210) dX12_behindSum_210 rfl ?_
        refine V_bipush (pc := 211) (v := nI 61) dX12_behindSum_211 (by decide) ?_
        refine V_callVd (pc := 213) (ci := 12) (c_X12_isSign h12 hT (by omega)) dX12_behindSum_213 mlX12_344 mkX12_isSign rfl rfl h12.o ⟨by decide, rfl⟩ ⟨Nat.le_of_ble_eq_true rfl, Nat.le_of_ble_eq_true rfl⟩ (Nat.le_of_ble_eq_true rfl) ⟨Nat.le_of_ble_eq_true rfl, Nat.le_of_ble_eq_true rfl⟩ ?_
        refine V_if_eqB (pc := 216) (tgt := 223) dX12_behindSum_216 (by decide) (fun c216 => ?_) (fun n216 => ?_)
        · skip
          have e : cmpS (tc t n p) = 0 := by
            first | omega | (unfold cmpS; rw [if_neg (show ¬ tc t n p = 160 from of_decide_eq_false c178), if_neg (show ¬ tc t n p = 162 from of_decide_eq_false c192), if_neg (show ¬ tc t n p = 161 from of_decide_eq_false c216)])
          refine V_iconst (pc := 223) (v := nI 0) dX12_behindSum_223 (by decide) ?_
          first
            | exact absurd rfl c207
            | exact absurd n207 (by omega)
            | exact fin _ false _ (decide_eq_false (fun y => y e)).symm (fun y => absurd e y) (by omega)
            | exact fin _ true _ (decide_eq_true (by omega)).symm (fun _ => e) (by omega)
        · skip
          first
            | have e : cmpS (tc t n p) = 27 := by rw [show tc t n p = 161 from of_decide_eq_true n216]; rfl
            | skip
          refine V_iconst (pc := 219) (v := nI 1) dX12_behindSum_219 (by decide) ?_
          refine V_goto (pc := 220) (tgt := 224) dX12_behindSum_220 (by decide) ?_
          first
            | exact absurd rfl c207
            | exact absurd n207 (by omega)
            | exact fin _ false _ (decide_eq_false (fun y => y e)).symm (fun y => absurd e y) (by omega)
            | exact fin _ true _ (decide_eq_true (by omega)).symm (fun _ => e) (by omega)
  · skip
    refine V_iload_n (pc := 157) dX12_behindSum_157 rfl ?_
    refine V_if_neB (pc := 158) (tgt := 163) dX12_behindSum_158 (by decide) (fun c158 => ?_) (fun n158 => absurd n158 (by decide))
    refine V_aload_n (pc := 163) dX12_behindSum_163 rfl ?_
    refine V_callVd (pc := 164) (ci := 12) (c_X12_isCompared h12 h hb.1 hb.le) dX12_behindSum_164 mlX12_383 mkX12_isCompared rfl rfl h12.o ⟨by decide, rfl⟩ ⟨Nat.le_of_ble_eq_true rfl, Nat.le_of_ble_eq_true rfl⟩ (Nat.le_of_ble_eq_true rfl) ⟨Nat.le_of_ble_eq_true rfl, Nat.le_of_ble_eq_true rfl⟩ ?_
    refine V_if_eqB (pc := 167) (tgt := 172) dX12_behindSum_167 (by decide) (fun c167 => ?_) (fun n167 => absurd n167 (by rw [hc]; decide))
    refine V_aload_n (pc := 172) dX12_behindSum_172 rfl ?_
    refine V_bipush (pc := 173) (v := nI 60) dX12_behindSum_173 (by decide) ?_
    refine V_callVd (pc := 175) (ci := 12) (c_X12_isSign h12 hT (by omega)) dX12_behindSum_175 mlX12_344 mkX12_isSign rfl rfl h12.o ⟨by decide, rfl⟩ ⟨Nat.le_of_ble_eq_true rfl, Nat.le_of_ble_eq_true rfl⟩ (Nat.le_of_ble_eq_true rfl) ⟨Nat.le_of_ble_eq_true rfl, Nat.le_of_ble_eq_true rfl⟩ ?_
    refine V_if_eqB (pc := 178) (tgt := 186) dX12_behindSum_178 (by decide) (fun c178 => ?_) (fun n178 => ?_)
    · skip
      refine V_aload_n (pc := 186) dX12_behindSum_186 rfl ?_
      refine V_bipush (pc := 187) (v := nI 62) dX12_behindSum_187 (by decide) ?_
      refine V_callVd (pc := 189) (ci := 12) (c_X12_isSign h12 hT (by omega)) dX12_behindSum_189 mlX12_344 mkX12_isSign rfl rfl h12.o ⟨by decide, rfl⟩ ⟨Nat.le_of_ble_eq_true rfl, Nat.le_of_ble_eq_true rfl⟩ (Nat.le_of_ble_eq_true rfl) ⟨Nat.le_of_ble_eq_true rfl, Nat.le_of_ble_eq_true rfl⟩ ?_
      refine V_if_eqB (pc := 192) (tgt := 200) dX12_behindSum_192 (by decide) (fun c192 => ?_) (fun n192 => ?_)
      · skip
        refine V_bipush (pc := 200) (v := nI 27) dX12_behindSum_200 (by decide) ?_
        refine V_istore_n (pc := 202) (ls' := [(0, _), (1, _), (2, _), (3, _)]) dX12_behindSum_202 (by decide) rfl ?_
        refine V_aload_n (pc := 203) dX12_behindSum_203 rfl ?_
        refine V_iload_n (pc := 204) dX12_behindSum_204 rfl ?_
        refine V_bipush (pc := 205) (v := nI 27) dX12_behindSum_205 (by decide) ?_
        refine V_icmp_neN (pc := 207) (tgt := 219) dX12_behindSum_207 (by decide) (by omega) (by omega) (fun c207 => ?_) (fun n207 => ?_)
        · skip
          first
            | have e : cmpS (tc t n p) = 27 := by rw [show tc t n p = 161 from of_decide_eq_true n216]; rfl
            | skip
          refine V_iconst (pc := 219) (v := nI 1) dX12_behindSum_219 (by decide) ?_
          refine V_goto (pc := 220) (tgt := 224) dX12_behindSum_220 (by decide) ?_
          first
            | exact absurd rfl c207
            | exact absurd n207 (by omega)
            | exact fin _ false _ (decide_eq_false (fun y => y e)).symm (fun y => absurd e y) (by omega)
            | exact fin _ true _ (decide_eq_true (by omega)).symm (fun _ => e) (by omega)
        · skip
          refine V_aload_n (pc := 210) dX12_behindSum_210 rfl ?_
          refine V_bipush (pc := 211) (v := nI 61) dX12_behindSum_211 (by decide) ?_
          refine V_callVd (pc := 213) (ci := 12) (c_X12_isSign h12 hT (by omega)) dX12_behindSum_213 mlX12_344 mkX12_isSign rfl rfl h12.o ⟨by decide, rfl⟩ ⟨Nat.le_of_ble_eq_true rfl, Nat.le_of_ble_eq_true rfl⟩ (Nat.le_of_ble_eq_true rfl) ⟨Nat.le_of_ble_eq_true rfl, Nat.le_of_ble_eq_true rfl⟩ ?_
          refine V_if_eqB (pc := 216) (tgt := 223) dX12_behindSum_216 (by decide) (fun c216 => ?_) (fun n216 => ?_)
          · skip
            have e : cmpS (tc t n p) = 0 := by
              first | omega | (unfold cmpS; rw [if_neg (show ¬ tc t n p = 160 from of_decide_eq_false c178), if_neg (show ¬ tc t n p = 162 from of_decide_eq_false c192), if_neg (show ¬ tc t n p = 161 from of_decide_eq_false c216)])
            refine V_iconst (pc := 223) (v := nI 0) dX12_behindSum_223 (by decide) ?_
            first
              | exact absurd rfl c207
              | exact absurd n207 (by omega)
              | exact fin _ false _ (decide_eq_false (fun y => y e)).symm (fun y => absurd e y) (by omega)
              | exact fin _ true _ (decide_eq_true (by omega)).symm (fun _ => e) (by omega)
          · skip
            first
              | have e : cmpS (tc t n p) = 27 := by rw [show tc t n p = 161 from of_decide_eq_true n216]; rfl
              | skip
            refine V_iconst (pc := 219) (v := nI 1) dX12_behindSum_219 (by decide) ?_
            refine V_goto (pc := 220) (tgt := 224) dX12_behindSum_220 (by decide) ?_
            first
              | exact absurd rfl c207
              | exact absurd n207 (by omega)
              | exact fin _ false _ (decide_eq_false (fun y => y e)).symm (fun y => absurd e y) (by omega)
              | exact fin _ true _ (decide_eq_true (by omega)).symm (fun _ => e) (by omega)
      · skip
        have e : cmpS (tc t n p) = 26 := by rw [show tc t n p = 162 from of_decide_eq_true n192]; rfl
        refine V_bipush (pc := 195) (v := nI 26) dX12_behindSum_195 (by decide) ?_
        refine V_goto (pc := 197) (tgt := 202) dX12_behindSum_197 (by decide) ?_
        refine V_istore_n (pc := 202) (ls' := [(0, _), (1, _), (2, _), (3, _)]) dX12_behindSum_202 (by decide) rfl ?_
        refine V_aload_n (pc := 203) dX12_behindSum_203 rfl ?_
        refine V_iload_n (pc := 204) dX12_behindSum_204 rfl ?_
        refine V_bipush (pc := 205) (v := nI 27) dX12_behindSum_205 (by decide) ?_
        refine V_icmp_neN (pc := 207) (tgt := 219) dX12_behindSum_207 (by decide) (by omega) (by omega) (fun c207 => ?_) (fun n207 => ?_)
        · skip
          first
            | have e : cmpS (tc t n p) = 27 := by rw [show tc t n p = 161 from of_decide_eq_true n216]; rfl
            | skip
          refine V_iconst (pc := 219) (v := nI 1) dX12_behindSum_219 (by decide) ?_
          refine V_goto (pc := 220) (tgt := 224) dX12_behindSum_220 (by decide) ?_
          first
            | exact absurd rfl c207
            | exact absurd n207 (by omega)
            | exact fin _ false _ (decide_eq_false (fun y => y e)).symm (fun y => absurd e y) (by omega)
            | exact fin _ true _ (decide_eq_true (by omega)).symm (fun _ => e) (by omega)
        · skip
          refine V_aload_n (pc := 210) dX12_behindSum_210 rfl ?_
          refine V_bipush (pc := 211) (v := nI 61) dX12_behindSum_211 (by decide) ?_
          refine V_callVd (pc := 213) (ci := 12) (c_X12_isSign h12 hT (by omega)) dX12_behindSum_213 mlX12_344 mkX12_isSign rfl rfl h12.o ⟨by decide, rfl⟩ ⟨Nat.le_of_ble_eq_true rfl, Nat.le_of_ble_eq_true rfl⟩ (Nat.le_of_ble_eq_true rfl) ⟨Nat.le_of_ble_eq_true rfl, Nat.le_of_ble_eq_true rfl⟩ ?_
          refine V_if_eqB (pc := 216) (tgt := 223) dX12_behindSum_216 (by decide) (fun c216 => ?_) (fun n216 => ?_)
          · skip
            have e : cmpS (tc t n p) = 0 := by
              first | omega | (unfold cmpS; rw [if_neg (show ¬ tc t n p = 160 from of_decide_eq_false c178), if_neg (show ¬ tc t n p = 162 from of_decide_eq_false c192), if_neg (show ¬ tc t n p = 161 from of_decide_eq_false c216)])
            refine V_iconst (pc := 223) (v := nI 0) dX12_behindSum_223 (by decide) ?_
            first
              | exact absurd rfl c207
              | exact absurd n207 (by omega)
              | exact fin _ false _ (decide_eq_false (fun y => y e)).symm (fun y => absurd e y) (by omega)
              | exact fin _ true _ (decide_eq_true (by omega)).symm (fun _ => e) (by omega)
          · skip
            first
              | have e : cmpS (tc t n p) = 27 := by rw [show tc t n p = 161 from of_decide_eq_true n216]; rfl
              | skip
            refine V_iconst (pc := 219) (v := nI 1) dX12_behindSum_219 (by decide) ?_
            refine V_goto (pc := 220) (tgt := 224) dX12_behindSum_220 (by decide) ?_
            first
              | exact absurd rfl c207
              | exact absurd n207 (by omega)
              | exact fin _ false _ (decide_eq_false (fun y => y e)).symm (fun y => absurd e y) (by omega)
              | exact fin _ true _ (decide_eq_true (by omega)).symm (fun _ => e) (by omega)
    · skip
      have e : cmpS (tc t n p) = 25 := by rw [show tc t n p = 160 from of_decide_eq_true n178]; rfl
      refine V_bipush (pc := 181) (v := nI 25) dX12_behindSum_181 (by decide) ?_
      refine V_goto (pc := 183) (tgt := 202) dX12_behindSum_183 (by decide) ?_
      refine V_istore_n (pc := 202) (ls' := [(0, _), (1, _), (2, _), (3, _)]) dX12_behindSum_202 (by decide) rfl ?_
      refine V_aload_n (pc := 203) dX12_behindSum_203 rfl ?_
      refine V_iload_n (pc := 204) dX12_behindSum_204 rfl ?_
      refine V_bipush (pc := 205) (v := nI 27) dX12_behindSum_205 (by decide) ?_
      refine V_icmp_neN (pc := 207) (tgt := 219) dX12_behindSum_207 (by decide) (by omega) (by omega) (fun c207 => ?_) (fun n207 => ?_)
      · skip
        first
          | have e : cmpS (tc t n p) = 27 := by rw [show tc t n p = 161 from of_decide_eq_true n216]; rfl
          | skip
        refine V_iconst (pc := 219) (v := nI 1) dX12_behindSum_219 (by decide) ?_
        refine V_goto (pc := 220) (tgt := 224) dX12_behindSum_220 (by decide) ?_
        first
          | exact absurd rfl c207
          | exact absurd n207 (by omega)
          | exact fin _ false _ (decide_eq_false (fun y => y e)).symm (fun y => absurd e y) (by omega)
          | exact fin _ true _ (decide_eq_true (by omega)).symm (fun _ => e) (by omega)
      · skip
        refine V_aload_n (pc := 210) dX12_behindSum_210 rfl ?_
        refine V_bipush (pc := 211) (v := nI 61) dX12_behindSum_211 (by decide) ?_
        refine V_callVd (pc := 213) (ci := 12) (c_X12_isSign h12 hT (by omega)) dX12_behindSum_213 mlX12_344 mkX12_isSign rfl rfl h12.o ⟨by decide, rfl⟩ ⟨Nat.le_of_ble_eq_true rfl, Nat.le_of_ble_eq_true rfl⟩ (Nat.le_of_ble_eq_true rfl) ⟨Nat.le_of_ble_eq_true rfl, Nat.le_of_ble_eq_true rfl⟩ ?_
        refine V_if_eqB (pc := 216) (tgt := 223) dX12_behindSum_216 (by decide) (fun c216 => ?_) (fun n216 => ?_)
        · skip
          have e : cmpS (tc t n p) = 0 := by
            first | omega | (unfold cmpS; rw [if_neg (show ¬ tc t n p = 160 from of_decide_eq_false c178), if_neg (show ¬ tc t n p = 162 from of_decide_eq_false c192), if_neg (show ¬ tc t n p = 161 from of_decide_eq_false c216)])
          refine V_iconst (pc := 223) (v := nI 0) dX12_behindSum_223 (by decide) ?_
          first
            | exact absurd rfl c207
            | exact absurd n207 (by omega)
            | exact fin _ false _ (decide_eq_false (fun y => y e)).symm (fun y => absurd e y) (by omega)
            | exact fin _ true _ (decide_eq_true (by omega)).symm (fun _ => e) (by omega)
        · skip
          first
            | have e : cmpS (tc t n p) = 27 := by rw [show tc t n p = 161 from of_decide_eq_true n216]; rfl
            | skip
          refine V_iconst (pc := 219) (v := nI 1) dX12_behindSum_219 (by decide) ?_
          refine V_goto (pc := 220) (tgt := 224) dX12_behindSum_220 (by decide) ?_
          first
            | exact absurd rfl c207
            | exact absurd n207 (by omega)
            | exact fin _ false _ (decide_eq_false (fun y => y e)).symm (fun y => absurd e y) (by omega)
            | exact fin _ true _ (decide_eq_true (by omega)).symm (fun _ => e) (by omega)
end PD
