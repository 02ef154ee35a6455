/-! THE REFERENCE: law -/
def setf {α : Type} (f : Nat → α) (i : Nat) (v : α) : Nat → α := fun j => if j = i then v else f j
theorem setf_s {α : Type} (f : Nat → α) (i : Nat) (v : α) : setf f i v i = v := by simp [setf]
theorem setf_n {α : Type} {f : Nat → α} {i j : Nat} {v : α} (h : j ≠ i) : setf f i v j = f j := by simp [setf, h]
def law0 : LawT := (0, fun _ => 0, fun _ => one, fun _ => one)
def addc (law : LawT) (x : Nat × SF × SF) : LawT := (law.1 + 1, setf law.2.1 law.1 x.1, setf law.2.2.1 law.1 x.2.1, setf law.2.2.2 law.1 x.2.2)
/-- behind a clause: m clauses more may come -/
def lwP (t : Nat → Nat) (n : Nat) : Nat → Nat → Nat → LawT → Nat × Option LawT
  | 0, p, _, _ => (p, none)
  | m + 1, p, l, law => match (clL t n p l).2.2 with | none => ((clL t n p l).1, none) | some x => if tc t n (clL t n p l).1 = 159 then lwP t n m (nxt t n (clL t n p l).1) (clL t n p l).2.1 (addc law x) else if tc t n (clL t n p l).1 = 92 then ((clL t n p l).1, some (addc law x)) else ((clL t n p l).1, none)
theorem lwP_0 {t : Nat → Nat} {n p l : Nat} {law : LawT} : lwP t n 0 p l law = (p, none) := rfl
theorem lwP_n {t : Nat → Nat} {n m p l : Nat} {law : LawT} (h : (clL t n p l).2.2 = none) : lwP t n (m + 1) p l law = ((clL t n p l).1, none) := by rw [lwP, h]
theorem lwP_s {t : Nat → Nat} {n m p l : Nat} {law : LawT} {x : Nat × SF × SF} (h : (clL t n p l).2.2 = some x) : lwP t n (m + 1) p l law = if tc t n (clL t n p l).1 = 159 then lwP t n m (nxt t n (clL t n p l).1) (clL t n p l).2.1 (addc law x) else if tc t n (clL t n p l).1 = 92 then ((clL t n p l).1, some (addc law x)) else ((clL t n p l).1, none) := by rw [lwP, h]
def lwR (t : Nat → Nat) (n : Nat) : Nat × Option LawT := lwP t n 12 (skp t n 0) 0 law0
def sla (A : AT) (l : Nat → LawT) : AT := (A.1, l, A.2.2)
def spLaw (A : AT) : Int32 × AT := if aq A 3 = 6 then (-(nI 5), rfs (tp0 A) 5) else match (lwR (atp A).2 (atp A).1).2 with | none => (-(nI 6), rfs (sfl (tp0 A) (nI (lwR (atp A).2 (atp A).1).1)) 6) | some law => (nI (aq A 3), ok0 (sq (sla (sfl (tp0 A) (-1)) (setf (alw A) (aq A 3) law)) (setq (aq A) 3 (aq A 3 + 1))))
/-- the clauses read so far -/
def CMs (f : Nat → Int32) (c : CT) (law : LawT) : Prop := ∀ j, j < law.1 → CM1 f c j (law.2.1 j) (law.2.2.1 j) (law.2.2.2 j)
theorem CMs.add {f f' : Nat → Int32} {c c' : CT} {law : LawT} {x : Nat × SF × SF} (h : CMs f c law) (hf : ∀ i, i < 8 * law.1 → f' i = f i) (hc : c.2.2 ≤ c'.2.2) (hA : AG c.2.2 c' c) (hx : CM1 f' c' law.1 x.1 x.2.1 x.2.2) : CMs f' c' (addc law x) := by
  intro j hj
  have hj : j < law.1 + 1 := hj
  show CM1 f' c' j (setf law.2.1 law.1 x.1 j) (setf law.2.2.1 law.1 x.2.1 j) (setf law.2.2.2 law.1 x.2.2 j)
  by_cases e : j = law.1
  · subst e; rw [setf_s, setf_s, setf_s]; exact hx
  · rw [setf_n e, setf_n e, setf_n e]; exact (h j (by omega)).cg (fun i hi => hf i (by omega)) hc hA
section PM
variable {E : EnT} {S : ST} {I I0 : IT} {L L0 : LT} {o n p l d : Nat} {t : Nat → Nat} {P : List (Nat × Nat)} {c : CT} {b : Option Nat}
/-- where the reading of a law ends -/
def EndL (E : EnT) (Q : QT) (S : ST) (o : Nat) (t : Nat → Nat) (n : Nat) (I0 : IT) (L0 : LT) (r : Nat × Option LawT) : Prop :=
  (r.2 = none → ∀ I' L' b s, FT o I' I0 L' L0 → PS o t n I' L' I' L' b s → (b = some r.1 ∨ (b = none ∧ s.1 = r.1 ∧ tc t n s.1 ≠ 92)) → V E kX12_law (rmOf 8 0 0) Q 0 0 S I' L' 64 [(0, .ref o)] []) ∧
  (∀ law, r.2 = some law → ∀ I' L' l' d' P' c', FT o I' I0 L' L0 → PS o t n I' L' I' L' none (r.1, l', d', P', c') → tc t n r.1 = 92 → I' o 21 = nI law.1 → law.1 ≤ 12 → CMs (I' (o + 10)) c' law → c'.2.2 ≤ 400 → CG c' → V E kX12_law (rmOf 8 0 0) Q 0 0 S I' L' 64 [(0, .ref o)] [])
theorem lp_law (h12 : Lay12 E S o) {Q : QT} : ∀ (m k : Nat) (law : LawT) (p l d : Nat) (P : List (Nat × Nat)) (c : CT) (I : IT) (L : LT), m + k = 12 → law.1 = k → FT o I I0 L L0 → I o 20 = b2i false → KL L o → PS o t n I L I L none (p, l, d, P, c) → I o 21 = nI k → c.2.2 ≤ p → l ≤ 50 → CG c → CMs (I (o + 10)) c law →
    ∀ r, r = (if tc t n p = 159 then lwP t n m (nxt t n p) l law else if tc t n p = 92 then (p, some law) else (p, none)) → EndL E Q S o t n I0 L0 r → V E kX12_law (rmOf 8 0 0) Q 0 0 S I L 37 [(0, .ref o)] [] := by
  intro m
  induction m with
  | zero =>
    intro k law p l d P c I L hmk hlk hF hod hK h h21 hc hl hG hCM r hr hE
    have hn400 := h.n400
    have hpn : p ≤ n := hn400.2
    have h19 := h.2.2.2.2.2.2.1
    by_cases h159 : tc t n p = 159
    · rw [if_pos h159, lwP_0] at hr
      have hP0 := c_X12_nextP (E := E) (S := S) h12 h
      have hx := nxt_lt (t := t) hpn (by omega)
      refine V_aload_n (pc := 37) dX12_law_37 rfl ?_
      refine V_getIE (pc := 38) 12 19 dX12_law_38 flX12_275 (by decide) h12.o (h19) ?_
      refine V_if_neB (pc := 41) (tgt := 64) dX12_law_41 (by decide) (fun c41 => absurd c41 (by simp)) (fun n41 => ?_)
      refine V_aload_n (pc := 44) dX12_law_44 rfl ?_
      refine V_bipush (pc := 45) (v := nI 59) dX12_law_45 (by decide) ?_
      refine V_callVd (pc := 47) (ci := 12) (c_X12_isSign h12 (show TK o t n I L p from h.1) (by omega)) dX12_law_47 mlX12_344 mkX12_isSign rfl rfl h12.o ⟨by decide, rfl⟩ ⟨Nat.le_of_ble_eq_true rfl, Nat.le_of_ble_eq_true rfl⟩ (Nat.le_of_ble_eq_true rfl) ⟨Nat.le_of_ble_eq_true rfl, Nat.le_of_ble_eq_true rfl⟩ ?_
      refine V_if_eqB (pc := 50) (tgt := 64) dX12_law_50 (by decide) (fun c50 => absurd c50 (by rw [decide_eq_true (show tc t n p = 100 + 59 from h159)]; decide)) (fun n50 => ?_)
      refine V_aload_n (pc := 53) dX12_law_53 rfl ?_
      refine V_callV (pc := 54) (ci := 12) (c_X12_nextP h12 h) dX12_law_54 mlX12_279 mkX12_next rfl rfl h12.o ⟨by decide, rfl⟩ ⟨Nat.le_of_ble_eq_true rfl, Nat.le_of_ble_eq_true rfl⟩ (Nat.le_of_ble_eq_true rfl) ⟨Nat.le_of_ble_eq_true rfl, Nat.le_of_ble_eq_true rfl⟩ (fun r S' I' L' hp => ?_)
      obtain ⟨rfl, rfl, hP⟩ := hp
      have hFP := hP.2.2.2.2.2.2.2.2
      refine V_aload_n (pc := 57) dX12_law_57 rfl ?_
      refine V_callV (pc := 58) (ci := 12) (c_X12_readLaw (k := k) h12 ((hFP.2.1 20 (by omega)).trans hod) (hP.kl hK) hP.rb ((hFP.2.1 21 (by omega)).trans h21) (by omega) (show c.2.2 ≤ nxt t n p by omega) hl hG) dX12_law_58 mlX12_415 mkX12_readLaw rfl rfl h12.o ⟨by decide, rfl⟩ ⟨Nat.le_of_ble_eq_true rfl, Nat.le_of_ble_eq_true rfl⟩ (Nat.le_of_ble_eq_true rfl) ⟨Nat.le_of_ble_eq_true rfl, Nat.le_of_ble_eq_true rfl⟩ (fun r S' I' L' hp => ?_)
      obtain ⟨rfl, rfl, hz⟩ := hp
      rw [if_neg (by omega)] at hz
      obtain ⟨hFQ, hz1, _⟩ := hz
      obtain ⟨s, hs⟩ := hz1 rfl
      have e19 := hs.2.2.2.2.2.2.1
      refine V_goto (pc := 61) (tgt := 37) dX12_law_61 (by decide) ?_
      skip
      refine V_aload_n (pc := 37) dX12_law_37 rfl ?_
      refine V_getIE (pc := 38) 12 19 dX12_law_38 flX12_275 (by decide) h12.o (e19) ?_
      refine V_if_neB (pc := 41) (tgt := 64) dX12_law_41 (by decide) (fun c41 => ?_) (fun n41 => absurd n41 (by simp))
      exact hE.1 (by rw [hr]) _ _ _ s ((hFQ.t.tr hFP.q.t).tr hF) hs (Or.inl (by rw [hr]))
    · rw [if_neg h159] at hr
      refine V_aload_n (pc := 37) dX12_law_37 rfl ?_
      refine V_getIE (pc := 38) 12 19 dX12_law_38 flX12_275 (by decide) h12.o (h19) ?_
      refine V_if_neB (pc := 41) (tgt := 64) dX12_law_41 (by decide) (fun c41 => absurd c41 (by simp)) (fun n41 => ?_)
      refine V_aload_n (pc := 44) dX12_law_44 rfl ?_
      refine V_bipush (pc := 45) (v := nI 59) dX12_law_45 (by decide) ?_
      refine V_callVd (pc := 47) (ci := 12) (c_X12_isSign h12 (show TK o t n I L p from h.1) (by omega)) dX12_law_47 mlX12_344 mkX12_isSign rfl rfl h12.o ⟨by decide, rfl⟩ ⟨Nat.le_of_ble_eq_true rfl, Nat.le_of_ble_eq_true rfl⟩ (Nat.le_of_ble_eq_true rfl) ⟨Nat.le_of_ble_eq_true rfl, Nat.le_of_ble_eq_true rfl⟩ ?_
      refine V_if_eqB (pc := 50) (tgt := 64) dX12_law_50 (by decide) (fun c50 => ?_) (fun n50 => absurd n50 (by rw [decide_eq_false (show ¬ tc t n p = 100 + 59 from h159)]; decide))
      skip
      by_cases h92 : tc t n p = 92
      · rw [if_pos h92] at hr
        subst hr
        exact hE.2 law rfl I L l d P c hF h h92 (hlk ▸ h21) (by omega) hCM (by omega) hG
      · rw [if_neg h92] at hr
        subst hr
        exact hE.1 rfl I L none _ hF h (Or.inr ⟨rfl, rfl, h92⟩)
  | succ m ih =>
    intro k law p l d P c I L hmk hlk hF hod hK h h21 hc hl hG hCM r hr hE
    have hn400 := h.n400
    have hpn : p ≤ n := hn400.2
    have h19 := h.2.2.2.2.2.2.1
    by_cases h159 : tc t n p = 159
    · rw [if_pos h159] at hr
      have hx := nxt_lt (t := t) hpn (by omega)
      refine V_aload_n (pc := 37) dX12_law_37 rfl ?_
      refine V_getIE (pc := 38) 12 19 dX12_law_38 flX12_275 (by decide) h12.o (h19) ?_
      refine V_if_neB (pc := 41) (tgt := 64) dX12_law_41 (by decide) (fun c41 => absurd c41 (by simp)) (fun n41 => ?_)
      refine V_aload_n (pc := 44) dX12_law_44 rfl ?_
      refine V_bipush (pc := 45) (v := nI 59) dX12_law_45 (by decide) ?_
      refine V_callVd (pc := 47) (ci := 12) (c_X12_isSign h12 (show TK o t n I L p from h.1) (by omega)) dX12_law_47 mlX12_344 mkX12_isSign rfl rfl h12.o ⟨by decide, rfl⟩ ⟨Nat.le_of_ble_eq_true rfl, Nat.le_of_ble_eq_true rfl⟩ (Nat.le_of_ble_eq_true rfl) ⟨Nat.le_of_ble_eq_true rfl, Nat.le_of_ble_eq_true rfl⟩ ?_
      refine V_if_eqB (pc := 50) (tgt := 64) dX12_law_50 (by decide) (fun c50 => absurd c50 (by rw [decide_eq_true (show tc t n p = 100 + 59 from h159)]; decide)) (fun n50 => ?_)
      refine V_aload_n (pc := 53) dX12_law_53 rfl ?_
      refine V_callV (pc := 54) (ci := 12) (c_X12_nextP h12 h) dX12_law_54 mlX12_279 mkX12_next rfl rfl h12.o ⟨by decide, rfl⟩ ⟨Nat.le_of_ble_eq_true rfl, Nat.le_of_ble_eq_true rfl⟩ (Nat.le_of_ble_eq_true rfl) ⟨Nat.le_of_ble_eq_true rfl, Nat.le_of_ble_eq_true rfl⟩ (fun r S' I' L' hp => ?_)
      obtain ⟨rfl, rfl, hP⟩ := hp
      have hFP := hP.2.2.2.2.2.2.2.2
      refine V_aload_n (pc := 57) dX12_law_57 rfl ?_
      refine V_callV (pc := 58) (ci := 12) (c_X12_readLaw (k := k) h12 ((hFP.2.1 20 (by omega)).trans hod) (hP.kl hK) hP.rb ((hFP.2.1 21 (by omega)).trans h21) (by omega) (show c.2.2 ≤ nxt t n p by omega) hl hG) dX12_law_58 mlX12_415 mkX12_readLaw rfl rfl h12.o ⟨by decide, rfl⟩ ⟨Nat.le_of_ble_eq_true rfl, Nat.le_of_ble_eq_true rfl⟩ (Nat.le_of_ble_eq_true rfl) ⟨Nat.le_of_ble_eq_true rfl, Nat.le_of_ble_eq_true rfl⟩ (fun r S' I' L' hp => ?_)
      obtain ⟨rfl, rfl, hz⟩ := hp
      rw [if_pos (by omega)] at hz
      obtain ⟨hFQ, hz1, hz2⟩ := hz
      have hFT := (hFQ.t.tr hFP.q.t).tr hF
      rcases hcl : (clL t n (nxt t n p) l).2.2 with _ | x
      refine V_goto (pc := 61) (tgt := 37) dX12_law_61 (by decide) ?_
      skip
      · obtain ⟨s, hs⟩ := hz1 hcl
        have e19 := hs.2.2.2.2.2.2.1
        rw [lwP_n hcl] at hr
        refine V_aload_n (pc := 37) dX12_law_37 rfl ?_
        refine V_getIE (pc := 38) 12 19 dX12_law_38 flX12_275 (by decide) h12.o (e19) ?_
        refine V_if_neB (pc := 41) (tgt := 64) dX12_law_41 (by decide) (fun c41 => ?_) (fun n41 => absurd n41 (by simp))
        exact hE.1 (by rw [hr]) _ _ _ s hFT hs (Or.inl (by rw [hr]))
      · obtain ⟨q1, q2, d', P', c', q3, q4, q5, q6, q7, q8, q9⟩ := hz2 x.1 x.2.1 x.2.2 hcl
        rw [lwP_s hcl] at hr
        refine V_goto (pc := 61) (tgt := 37) dX12_law_61 (by decide) ?_
        refine ih (k + 1) (addc law x) _ _ d' P' c' _ _ (by omega) (by show law.1 + 1 = k + 1; omega) hFT ?_ ((hFQ.t.tr hFP.q.t).kl hK) q3 q1 q4 q5 q6 (hCM.add ?_ q7 q8 (hlk ▸ q9)) r hr hE
        · rw [hFQ.2.1 20 (by omega), hFP.2.1 20 (by omega)]; exact hod
        · intro i hi; rw [q2 i (by omega), hFP.1 (o + 10) (by omega) (by omega)]
    · rw [if_neg h159] at hr
      refine V_aload_n (pc := 37) dX12_law_37 rfl ?_
      refine V_getIE (pc := 38) 12 19 dX12_law_38 flX12_275 (by decide) h12.o (h19) ?_
      refine V_if_neB (pc := 41) (tgt := 64) dX12_law_41 (by decide) (fun c41 => absurd c41 (by simp)) (fun n41 => ?_)
      refine V_aload_n (pc := 44) dX12_law_44 rfl ?_
      refine V_bipush (pc := 45) (v := nI 59) dX12_law_45 (by decide) ?_
      refine V_callVd (pc := 47) (ci := 12) (c_X12_isSign h12 (show TK o t n I L p from h.1) (by omega)) dX12_law_47 mlX12_344 mkX12_isSign rfl rfl h12.o ⟨by decide, rfl⟩ ⟨Nat.le_of_ble_eq_true rfl, Nat.le_of_ble_eq_true rfl⟩ (Nat.le_of_ble_eq_true rfl) ⟨Nat.le_of_ble_eq_true rfl, Nat.le_of_ble_eq_true rfl⟩ ?_
      refine V_if_eqB (pc := 50) (tgt := 64) dX12_law_50 (by decide) (fun c50 => ?_) (fun n50 => absurd n50 (by rw [decide_eq_false (show ¬ tc t n p = 100 + 59 from h159)]; decide))
      skip
      by_cases h92 : tc t n p = 92
      · rw [if_pos h92] at hr
        subst hr
        exact hE.2 law rfl I L l d P c hF h h92 (hlk ▸ h21) (by omega) hCM (by omega) hG
      · rw [if_neg h92] at hr
        subst hr
        exact hE.1 rfl I L none _ hF h (Or.inr ⟨rfl, rfl, h92⟩)
/-- the clauses and the code are copied into the row -/
def W1 (o at1 : Nat) (I2 I : IT) (j : Nat) : Prop := (∀ x, x ≠ o + 2 → I2 x = I x) ∧ (∀ i, (i < at1 + 2 ∨ at1 + 2 + j ≤ i) → I2 (o + 2) i = I (o + 2) i) ∧ ∀ i, i < j → I2 (o + 2) (at1 + 2 + i) = I (o + 10) i
theorem lp_cp1 (h12 : Lay12 E S o) {Q : QT} {at1 k : Nat} (hat : at1 + 900 ≤ 5516) (hk : k ≤ 12) (h21 : I o 21 = nI k) (hc : ∀ I2, W1 o at1 I2 I (8 * k) → V E kX12_law (rmOf 8 0 0) Q 0 0 S I2 L 143 [(0, .ref o), (1, .int (nI at1)), (2, .int (nI (8 * k)))] []) : ∀ (m j : Nat) (I2 : IT), j + m = 8 * k → W1 o at1 I2 I j → V E kX12_law (rmOf 8 0 0) Q 0 0 S I2 L 110 [(0, .ref o), (1, .int (nI at1)), (2, .int (nI j))] [] := by
  intro m
  induction m with
  | zero =>
    intro j I2 hj hW
    have e : j = 8 * k := by omega
    subst e
    refine V_iload_n (pc := 110) dX12_law_110 rfl ?_
    refine V_bipush (pc := 111) (v := nI 8) dX12_law_111 (by decide) ?_
    refine V_aload_n (pc := 113) dX12_law_113 rfl ?_
    refine V_getIE (pc := 114) 12 21 dX12_law_114 flX12_404 (by decide) h12.o ((congrFun (hW.1 o (by omega)) 21).trans h21) ?_
    refine V_imulN (pc := 117) dX12_law_117 ?_
    refine V_icmp_geN (pc := 118) (tgt := 143) dX12_law_118 (by decide) (by omega) (by omega) (fun c118 => ?_) (fun n118 => absurd n118 (by omega))
    exact hc I2 hW
  | succ m ih =>
    intro j I2 hj hW
    refine V_iload_n (pc := 110) dX12_law_110 rfl ?_
    refine V_bipush (pc := 111) (v := nI 8) dX12_law_111 (by decide) ?_
    refine V_aload_n (pc := 113) dX12_law_113 rfl ?_
    refine V_getIE (pc := 114) 12 21 dX12_law_114 flX12_404 (by decide) h12.o ((congrFun (hW.1 o (by omega)) 21).trans h21) ?_
    refine V_imulN (pc := 117) dX12_law_117 ?_
    refine V_icmp_geN (pc := 118) (tgt := 143) dX12_law_118 (by decide) (by omega) (by omega) (fun c118 => absurd c118 (by omega)) (fun n118 => ?_)
    refine V_aload_n (pc := 121) dX12_law_121 rfl ?_
    refine V_getR (pc := 122) 12 3 dX12_law_122 flX12_13 (by decide) h12.o h12.R3 ?_
    refine V_iload_n (pc := 125) dX12_law_125 rfl ?_
    refine V_iconst (pc := 126) (v := nI 2) dX12_law_126 (by decide) ?_
    refine V_iaddN (pc := 127) dX12_law_127 ?_
    refine V_iload_n (pc := 128) dX12_law_128 rfl ?_
    refine V_iaddN (pc := 129) dX12_law_129 ?_
    refine V_aload_n (pc := 130) dX12_law_130 rfl ?_
    refine V_getR (pc := 131) 12 22 dX12_law_131 flX12_42 (by decide) h12.o h12.R22 ?_
    refine V_iload_n (pc := 134) dX12_law_134 rfl ?_
    refine V_iaload (pc := 135) dX12_law_135 h12.A22 (by first | decide | omega) (by omega) ?_
    refine V_iastore (pc := 136) dX12_law_136 h12.A3 (by first | decide | omega) (by omega) ?_
    refine V_iinc1 (pc := 137) (ls' := [(0, _), (1, _), (2, _)]) dX12_law_137 rfl (by decide) rfl ?_
    refine V_goto (pc := 140) (tgt := 110) dX12_law_140 (by decide) ?_
    refine ih (j + 1) _ (by omega) ⟨fun x hx => ?_, fun i hi => ?_, fun i hi => ?_⟩
    · rw [up2_row hx]; exact hW.1 x hx
    · rw [up2_nej (by omega)]; exact hW.2.1 i (by omega)
    · by_cases e : i = j
      · subst e; rw [up2_self, hW.1 (o + 10) (by omega)]
      · rw [up2_nej (by omega)]; exact hW.2.2 i (by omega)
def W2 (o at1 : Nat) (I2 I : IT) (j : Nat) : Prop := (∀ x, x ≠ o + 2 → I2 x = I x) ∧ (∀ i, (i < at1 + 98 ∨ at1 + 98 + 2 * j ≤ i) → I2 (o + 2) i = I (o + 2) i) ∧ ∀ i, i < j → I2 (o + 2) (at1 + 98 + 2 * i) = I (o + 11) i ∧ I2 (o + 2) (at1 + 98 + 2 * i + 1) = I (o + 12) i
theorem lp_cp2 (h12 : Lay12 E S o) {Q : QT} {at1 k : Nat} (hat : at1 + 900 ≤ 5516) (hk : k ≤ 400) (h23 : I o 23 = nI k) (hc : ∀ I2, W2 o at1 I2 I k → V E kX12_law (rmOf 8 0 0) Q 0 0 S I2 L 199 [(0, .ref o), (1, .int (nI at1)), (2, .int (nI k))] []) : ∀ (m j : Nat) (I2 : IT), j + m = k → W2 o at1 I2 I j → V E kX12_law (rmOf 8 0 0) Q 0 0 S I2 L 145 [(0, .ref o), (1, .int (nI at1)), (2, .int (nI j))] [] := by
  intro m
  induction m with
  | zero =>
    intro j I2 hj hW
    have e : j = k := by omega
    subst e
    refine V_iload_n (pc := 145) dX12_law_145 rfl ?_
    refine V_aload_n (pc := 146) dX12_law_146 rfl ?_
    refine V_getIE (pc := 147) 12 23 dX12_law_147 flX12_312 (by decide) h12.o ((congrFun (hW.1 o (by omega)) 23).trans h23) ?_
    refine V_icmp_geN (pc := 150) (tgt := 199) dX12_law_150 (by decide) (by omega) (by omega) (fun c150 => ?_) (fun n150 => absurd n150 (by omega))
    exact hc I2 hW
  | succ m ih =>
    intro j I2 hj hW
    refine V_iload_n (pc := 145) dX12_law_145 rfl ?_
    refine V_aload_n (pc := 146) dX12_law_146 rfl ?_
    refine V_getIE (pc := 147) 12 23 dX12_law_147 flX12_312 (by decide) h12.o ((congrFun (hW.1 o (by omega)) 23).trans h23) ?_
    refine V_icmp_geN (pc := 150) (tgt := 199) dX12_law_150 (by decide) (by omega) (by omega) (fun c150 => absurd c150 (by omega)) (fun n150 => ?_)
    refine V_aload_n (pc := 153) dX12_law_153 rfl ?_
    refine V_getR (pc := 154) 12 3 dX12_law_154 flX12_13 (by decide) h12.o h12.R3 ?_
    refine V_iload_n (pc := 157) dX12_law_157 rfl ?_
    refine V_bipush (pc := 158) (v := nI 98) dX12_law_158 (by decide) ?_
    refine V_iaddN (pc := 160) dX12_law_160 ?_
    refine V_iconst (pc := 161) (v := nI 2) dX12_law_161 (by decide) ?_
    refine V_iload_n (pc := 162) dX12_law_162 rfl ?_
    refine V_imulN (pc := 163) dX12_law_163 ?_
    refine V_iaddN (pc := 164) dX12_law_164 ?_
    refine V_aload_n (pc := 165) dX12_law_165 rfl ?_
    refine V_getR (pc := 166) 12 24 dX12_law_166 flX12_45 (by decide) h12.o h12.R24 ?_
    refine V_iload_n (pc := 169) dX12_law_169 rfl ?_
    refine V_iaload (pc := 170) dX12_law_170 h12.A24 (by first | decide | omega) (by omega) ?_
    refine V_iastore (pc := 171) dX12_law_171 h12.A3 (by first | decide | omega) (by omega) ?_
    refine V_aload_n (pc := 172) dX12_law_172 rfl ?_
    refine V_getR (pc := 173) 12 3 dX12_law_173 flX12_13 (by decide) h12.o h12.R3 ?_
    refine V_iload_n (pc := 176) dX12_law_176 rfl ?_
    refine V_bipush (pc := 177) (v := nI 98) dX12_law_177 (by decide) ?_
    refine V_iaddN (pc := 179) dX12_law_179 ?_
    refine V_iconst (pc := 180) (v := nI 2) dX12_law_180 (by decide) ?_
    refine V_iload_n (pc := 181) dX12_law_181 rfl ?_
    refine V_imulN (pc := 182) dX12_law_182 ?_
    refine V_iaddN (pc := 183) dX12_law_183 ?_
    refine V_iconst (pc := 184) (v := nI 1) dX12_law_184 (by decide) ?_
    refine V_iaddN (pc := 185) dX12_law_185 ?_
    refine V_aload_n (pc := 186) dX12_law_186 rfl ?_
    refine V_getR (pc := 187) 12 25 dX12_law_187 flX12_48 (by decide) h12.o h12.R25 ?_
    refine V_iload_n (pc := 190) dX12_law_190 rfl ?_
    refine V_iaload (pc := 191) dX12_law_191 h12.A25 (by first | decide | omega) (by omega) ?_
    refine V_iastore (pc := 192) dX12_law_192 h12.A3 (by first | decide | omega) (by omega) ?_
    refine V_iinc1 (pc := 193) (ls' := [(0, _), (1, _), (2, _)]) dX12_law_193 rfl (by decide) rfl ?_
    refine V_goto (pc := 196) (tgt := 145) dX12_law_196 (by decide) ?_
    refine ih (j + 1) _ (by omega) ⟨fun x hx => ?_, fun i hi => ?_, fun i hi => ?_⟩
    · rw [up2_row hx, up2_row hx]; exact hW.1 x hx
    · rw [up2_nej (by omega), up2_nej (by omega)]; exact hW.2.1 i (by omega)
    · by_cases e : i = j
      · subst e; rw [up2_nej (by omega), up2_self, up2_self, up2_ne (by omega), hW.1 (o + 11) (by omega), hW.1 (o + 12) (by omega)]; exact ⟨rfl, rfl⟩
      · rw [up2_nej (by omega), up2_nej (by omega), up2_nej (by omega), up2_nej (by omega)]; exact hW.2.2 i (by omega)
end PM
