/-! THE REFERENCE: orders -/
abbrev OrdT : Type := Nat × (Nat → OC)
def ord0 : OrdT := (0, fun _ => (3, 1, (one, one, one), one))
def addo (d : OrdT) (x : OC) : OrdT := (d.1 + 1, setf d.2 d.1 x)
def orP (t : Nat → Nat) (n : Nat) : Nat → Nat → Nat → OrdT → Nat × Option OrdT
  | 0, p, _, _ => (p, none)
  | m + 1, p, l, d => match (clO t n p l).2.2 with | none => ((clO t n p l).1, none) | some x => if tc t n (clO t n p l).1 = 159 then orP t n m (nxt t n (clO t n p l).1) (clO t n p l).2.1 (addo d x) else if tc t n (clO t n p l).1 = 92 then ((clO t n p l).1, some (addo d x)) else ((clO t n p l).1, none)
theorem orP_0 {t : Nat → Nat} {n p l : Nat} {d : OrdT} : orP t n 0 p l d = (p, none) := rfl
theorem orP_n {t : Nat → Nat} {n m p l : Nat} {d : OrdT} (h : (clO t n p l).2.2 = none) : orP t n (m + 1) p l d = ((clO t n p l).1, none) := by rw [orP, h]
theorem orP_s {t : Nat → Nat} {n m p l : Nat} {d : OrdT} {x : OC} (h : (clO t n p l).2.2 = some x) : orP t n (m + 1) p l d = if tc t n (clO t n p l).1 = 159 then orP t n m (nxt t n (clO t n p l).1) (clO t n p l).2.1 (addo d x) else if tc t n (clO t n p l).1 = 92 then ((clO t n p l).1, some (addo d x)) else ((clO t n p l).1, none) := by rw [orP, h]
def orR (t : Nat → Nat) (n : Nat) : Nat × Option OrdT := orP t n 12 (skp t n 0) 0 ord0
/-- times; clauses: which can't be, or what is then -/
def rnT (x : OC) : Nat → RT → Option RT | 0, s => some s | m + 1, s => match rn1 x s with | none => none | some s' => rnT x m s'
def rnC (f : Nat → OC) : Nat → Nat → RT → Nat × Option RT | 0, k, s => (k, some s) | m + 1, k, s => match rnT (f k) (f k).2.1 s with | none => (k, none) | some s' => rnC f m (k + 1) s'
theorem rnT_n {x : OC} {m : Nat} {s : RT} (h : rn1 x s = none) : rnT x (m + 1) s = none := by rw [rnT, h]
theorem rnT_s {x : OC} {m : Nat} {s s' : RT} (h : rn1 x s = some s') : rnT x (m + 1) s = rnT x m s' := by rw [rnT, h]
theorem rnC_n {f : Nat → OC} {m k : Nat} {s : RT} (h : rnT (f k) (f k).2.1 s = none) : rnC f (m + 1) k s = (k, none) := by rw [rnC, h]
theorem rnC_s {f : Nat → OC} {m k : Nat} {s s' : RT} (h : rnT (f k) (f k).2.1 s = some s') : rnC f (m + 1) k s = rnC f m (k + 1) s' := by rw [rnC, h]
def sst (A : AT) (v : Int32) : AT := sx A ((ax A).1, (ax A).2.1, v, (ax A).2.2.2)
def orE (B : AT) (od : OrdT) : Int32 × AT := match (rnC od.2 od.1 0 (B, 0, 0)).2 with | none => (-(nI 3), rfs (sst B (nI (rnC od.2 od.1 0 (B, 0, 0)).1)) 3) | some s => (nI s.2.1, ok0 s.1)
def spOrders (A : AT) : Int32 × AT := match (orR (atp A).2 (atp A).1).2 with | none => (-(nI 6), rfs (sfl (tp0 (sst A (-1))) (nI (orR (atp A).2 (atp A).1).1)) 6) | some od => orE (sfl (tp0 (sst A (-1))) (-1)) od
def OMs (f : Nat → Int32) (c : CT) (d : OrdT) : Prop := ∀ j, j < d.1 → OM1 f c j (d.2 j)
theorem OMs.add {f f' : Nat → Int32} {c c' : CT} {d : OrdT} {x : OC} (h : OMs f c d) (hf : ∀ i, i < 10 * d.1 → f' i = f i) (hc : c.2.2 ≤ c'.2.2) (hA : AG c.2.2 c' c) (hx : OM1 f' c' d.1 x) : OMs f' c' (addo d x) := by
  intro j hj
  have hj : j < d.1 + 1 := hj
  show OM1 f' c' j (setf d.2 d.1 x j)
  by_cases e : j = d.1
  · subst e; rw [setf_s]; exact hx
  · rw [setf_n e]; exact (h j (by omega)).cg (fun i hi => hf i (by omega)) hc hA
theorem MR.s57 {o : Nat} {I : IT} {L : LT} {A : AT} {v : Int32} (h : MR o I L A) : MR o (up2 I o 57 v) L (sst A v) := by
  obtain ⟨h1, h2, h3, h4, h5, h6, h7, h8, h9⟩ := h
  have e : ∀ a, a ≠ o → up2 I o 57 v a = I a := fun a q1 => up2_row q1
  have f : ∀ i, i ≠ 57 → up2 I o 57 v o i = I o i := fun i q => up2_nej q
  refine ⟨h1.cg (e _ (by omega)), ?_, ?_, ?_, ?_, ?_, ?_, (f 20 (by omega)).trans h8, h9⟩
  · unfold LwsM at h2 ⊢; rw [e (o + 2) (by omega)]; exact h2
  · unfold UndM at h3 ⊢; rw [e (o + 5) (by omega), e (o + 6) (by omega), f 8 (by omega)]; exact h3
  · unfold ImgM at h4 ⊢; rw [e (o + 3) (by omega), e (o + 4) (by omega)]; exact h4
  · unfold TapM at h5 ⊢; rw [e (o + 9) (by omega), f 13 (by omega)]; exact h5
  · obtain ⟨x1, x2, x3, x4, x5⟩ := h6
    exact ⟨(f 11 (by omega)).trans x1, (f 18 (by omega)).trans x2, up2_self, (f 1 (by omega)).trans x4, fun j hj => by rw [e (o + 1) (by omega)]; exact x5 j hj⟩
  · unfold DrM at h7 ⊢; rw [e (o + 35) (by omega), f 61 (by omega)]; exact h7
theorem MR.o5 {o : Nat} {I I' : IT} {L : LT} {A : AT} (h : MR o I L A) (hn : (aun A).1 ≤ 16) (e : ∀ a, a ≠ o + 5 → a ≠ o + 7 → a ≠ o + 8 → a ≠ o → I' a = I a) (f : ∀ i, i ≠ 55 → i ≠ 56 → I' o i = I o i) (g : ∀ i, i < 1200 → I' (o + 5) i = I (o + 5) i) : MR o I' L A := by
  obtain ⟨h1, h2, h3, h4, h5, h6, h7, h8, h9⟩ := h
  have e' : ∀ a, a ≠ o + 5 → a ≠ o + 7 → a ≠ o + 8 → a ≠ o → I' a = I a := e
  refine ⟨h1.cg (e _ (by omega) (by omega) (by omega) (by omega)), ?_, ⟨(f 8 (by omega) (by omega)).trans h3.1, fun k hk => ⟨fun i a1 a2 a3 => ?_, ?_⟩⟩, ?_, ?_, ?_, ?_, (f 20 (by omega) (by omega)).trans h8, h9⟩
  · unfold LwsM at h2 ⊢; rw [e (o + 2) (by omega) (by omega) (by omega) (by omega)]; exact h2
  · rw [g _ (by omega)]; exact (h3.2 k hk).1 i a1 a2 a3
  · rw [e (o + 6) (by omega) (by omega) (by omega) (by omega)]; exact (h3.2 k hk).2
  · unfold ImgM at h4 ⊢; rw [e (o + 3) (by omega) (by omega) (by omega) (by omega), e (o + 4) (by omega) (by omega) (by omega) (by omega)]; exact h4
  · unfold TapM at h5 ⊢; rw [e (o + 9) (by omega) (by omega) (by omega) (by omega), f 13 (by omega) (by omega)]; exact h5
  · unfold XM at h6 ⊢; rw [e (o + 1) (by omega) (by omega) (by omega) (by omega), f 1 (by omega) (by omega), f 11 (by omega) (by omega), f 18 (by omega) (by omega), f 57 (by omega) (by omega)]; exact h6
  · unfold DrM at h7 ⊢; rw [e (o + 35) (by omega) (by omega) (by omega) (by omega), f 61 (by omega) (by omega)]; exact h7
section RF
variable {E : EnT} {S : ST} {I I0 : IT} {L L0 : LT} {o n p l d : Nat} {t : Nat → Nat} {P : List (Nat × Nat)} {c : CT} {b : Option Nat}
def EndO (E : EnT) (Q : QT) (S : ST) (o : Nat) (t : Nat → Nat) (n : Nat) (I0 : IT) (L0 : LT) (r : Nat × Option OrdT) : Prop :=
  (r.2 = none → ∀ I' L' b s, FT o I' I0 L' L0 → PS o t n I' L' I' L' b s → (b = some r.1 ∨ (b = none ∧ s.1 = r.1 ∧ tc t n s.1 ≠ 92)) → V E kX12_orders (rmOf 11 0 0) Q 0 0 S I' L' 46 [(0, .ref o)] []) ∧
  (∀ od, r.2 = some od → ∀ I' L' l' d' P' c', FT o I' I0 L' L0 → PS o t n I' L' I' L' none (r.1, l', d', P', c') → tc t n r.1 = 92 → I' o 21 = nI od.1 → od.1 ≤ 12 → OMs (I' (o + 34)) c' od → c'.2.2 ≤ 400 → CG c' → V E kX12_orders (rmOf 11 0 0) Q 0 0 S I' L' 46 [(0, .ref o)] [])
theorem lp_ords (h12 : Lay12 E S o) {Q : QT} : ∀ (m k : Nat) (od : OrdT) (p l d : Nat) (P : List (Nat × Nat)) (c : CT) (I : IT) (L : LT), m + k = 12 → od.1 = k → FT o I I0 L L0 → I o 20 = b2i true → KL L o → PS o t n I L I L none (p, l, d, P, c) → I o 21 = nI k → c.2.2 ≤ p → l ≤ 50 → CG c → OMs (I (o + 34)) c od →
    ∀ r, r = (if tc t n p = 159 then orP t n m (nxt t n p) l od else if tc t n p = 92 then (p, some od) else (p, none)) → EndO E Q S o t n I0 L0 r → V E kX12_orders (rmOf 11 0 0) Q 0 0 S I L 19 [(0, .ref o)] [] := by
  intro m
  induction m with
  | zero =>
    intro k od p l d P c I L hmk hlk hF hod hK h h21 hc hl hG hCM r hr hE
    have hn400 := h.n400
    have hpn : p ≤ n := hn400.2
    have h19 := h.2.2.2.2.2.2.1
    by_cases h159 : tc t n p = 159
    · rw [if_pos h159, orP_0] at hr
      have hx := nxt_lt (t := t) hpn (by omega)
      refine V_aload_n (pc := 19) dX12_orders_19 rfl ?_
      refine V_getIE (pc := 20) 12 19 dX12_orders_20 flX12_275 (by decide) h12.o (h19) ?_
      refine V_if_neB (pc := 23) (tgt := 46) dX12_orders_23 (by decide) (fun c23 => absurd c23 (by simp)) (fun n23 => ?_)
      refine V_aload_n (pc := 26) dX12_orders_26 rfl ?_
      refine V_bipush (pc := 27) (v := nI 59) dX12_orders_27 (by decide) ?_
      refine V_callVd (pc := 29) (ci := 12) (c_X12_isSign h12 (show TK o t n I L p from h.1) (by omega)) dX12_orders_29 mlX12_344 mkX12_isSign rfl rfl h12.o ⟨by decide, rfl⟩ ⟨Nat.le_of_ble_eq_true rfl, Nat.le_of_ble_eq_true rfl⟩ (Nat.le_of_ble_eq_true rfl) ⟨Nat.le_of_ble_eq_true rfl, Nat.le_of_ble_eq_true rfl⟩ ?_
      refine V_if_eqB (pc := 32) (tgt := 46) dX12_orders_32 (by decide) (fun c32 => absurd c32 (by rw [decide_eq_true (show tc t n p = 100 + 59 from h159)]; decide)) (fun n32 => ?_)
      refine V_aload_n (pc := 35) dX12_orders_35 rfl ?_
      refine V_callV (pc := 36) (ci := 12) (c_X12_nextP h12 h) dX12_orders_36 mlX12_279 mkX12_next rfl rfl h12.o ⟨by decide, rfl⟩ ⟨Nat.le_of_ble_eq_true rfl, Nat.le_of_ble_eq_true rfl⟩ (Nat.le_of_ble_eq_true rfl) ⟨Nat.le_of_ble_eq_true rfl, Nat.le_of_ble_eq_true rfl⟩ (fun r S' I' L' hp => ?_)
      obtain ⟨rfl, rfl, hP⟩ := hp
      have hFP := hP.2.2.2.2.2.2.2.2
      refine V_aload_n (pc := 39) dX12_orders_39 rfl ?_
      refine V_callV (pc := 40) (ci := 12) (c_X12_readOrder (k := k) h12 ((hFP.2.1 20 (by omega)).trans hod) (hP.kl hK) hP.rb ((hFP.2.1 21 (by omega)).trans h21) (by omega) (show c.2.2 ≤ nxt t n p by omega) hl hG) dX12_orders_40 mlX12_557 mkX12_readOrder rfl rfl h12.o ⟨by decide, rfl⟩ ⟨Nat.le_of_ble_eq_true rfl, Nat.le_of_ble_eq_true rfl⟩ (Nat.le_of_ble_eq_true rfl) ⟨Nat.le_of_ble_eq_true rfl, Nat.le_of_ble_eq_true rfl⟩ (fun r S' I' L' hp => ?_)
      obtain ⟨rfl, rfl, hz⟩ := hp
      rw [if_neg (by omega)] at hz
      obtain ⟨hFQ, hz1, _⟩ := hz
      obtain ⟨s, hs⟩ := hz1 rfl
      have e19 := hs.2.2.2.2.2.2.1
      refine V_goto (pc := 43) (tgt := 19) dX12_orders_43 (by decide) ?_
      skip
      refine V_aload_n (pc := 19) dX12_orders_19 rfl ?_
      refine V_getIE (pc := 20) 12 19 dX12_orders_20 flX12_275 (by decide) h12.o (e19) ?_
      refine V_if_neB (pc := 23) (tgt := 46) dX12_orders_23 (by decide) (fun c23 => ?_) (fun n23 => absurd n23 (by simp))
      exact hE.1 (by rw [hr]) _ _ _ s ((hFQ.t.tr hFP.q.t).tr hF) hs (Or.inl (by rw [hr]))
    · rw [if_neg h159] at hr
      refine V_aload_n (pc := 19) dX12_orders_19 rfl ?_
      refine V_getIE (pc := 20) 12 19 dX12_orders_20 flX12_275 (by decide) h12.o (h19) ?_
      refine V_if_neB (pc := 23) (tgt := 46) dX12_orders_23 (by decide) (fun c23 => absurd c23 (by simp)) (fun n23 => ?_)
      refine V_aload_n (pc := 26) dX12_orders_26 rfl ?_
      refine V_bipush (pc := 27) (v := nI 59) dX12_orders_27 (by decide) ?_
      refine V_callVd (pc := 29) (ci := 12) (c_X12_isSign h12 (show TK o t n I L p from h.1) (by omega)) dX12_orders_29 mlX12_344 mkX12_isSign rfl rfl h12.o ⟨by decide, rfl⟩ ⟨Nat.le_of_ble_eq_true rfl, Nat.le_of_ble_eq_true rfl⟩ (Nat.le_of_ble_eq_true rfl) ⟨Nat.le_of_ble_eq_true rfl, Nat.le_of_ble_eq_true rfl⟩ ?_
      refine V_if_eqB (pc := 32) (tgt := 46) dX12_orders_32 (by decide) (fun c32 => ?_) (fun n32 => absurd n32 (by rw [decide_eq_false (show ¬ tc t n p = 100 + 59 from h159)]; decide))
      skip
      by_cases h92 : tc t n p = 92
      · rw [if_pos h92] at hr
        subst hr
        exact hE.2 od rfl I L l d P c hF h h92 (hlk ▸ h21) (by omega) hCM (by omega) hG
      · rw [if_neg h92] at hr
        subst hr
        exact hE.1 rfl I L none _ hF h (Or.inr ⟨rfl, rfl, h92⟩)
  | succ m ih =>
    intro k od p l d P c I L hmk hlk hF hod hK h h21 hc hl hG hCM r hr hE
    have hn400 := h.n400
    have hpn : p ≤ n := hn400.2
    have h19 := h.2.2.2.2.2.2.1
    by_cases h159 : tc t n p = 159
    · rw [if_pos h159] at hr
      have hx := nxt_lt (t := t) hpn (by omega)
      refine V_aload_n (pc := 19) dX12_orders_19 rfl ?_
      refine V_getIE (pc := 20) 12 19 dX12_orders_20 flX12_275 (by decide) h12.o (h19) ?_
      refine V_if_neB (pc := 23) (tgt := 46) dX12_orders_23 (by decide) (fun c23 => absurd c23 (by simp)) (fun n23 => ?_)
      refine V_aload_n (pc := 26) dX12_orders_26 rfl ?_
      refine V_bipush (pc := 27) (v := nI 59) dX12_orders_27 (by decide) ?_
      refine V_callVd (pc := 29) (ci := 12) (c_X12_isSign h12 (show TK o t n I L p from h.1) (by omega)) dX12_orders_29 mlX12_344 mkX12_isSign rfl rfl h12.o ⟨by decide, rfl⟩ ⟨Nat.le_of_ble_eq_true rfl, Nat.le_of_ble_eq_true rfl⟩ (Nat.le_of_ble_eq_true rfl) ⟨Nat.le_of_ble_eq_true rfl, Nat.le_of_ble_eq_true rfl⟩ ?_
      refine V_if_eqB (pc := 32) (tgt := 46) dX12_orders_32 (by decide) (fun c32 => absurd c32 (by rw [decide_eq_true (show tc t n p = 100 + 59 from h159)]; decide)) (fun n32 => ?_)
      refine V_aload_n (pc := 35) dX12_orders_35 rfl ?_
      refine V_callV (pc := 36) (ci := 12) (c_X12_nextP h12 h) dX12_orders_36 mlX12_279 mkX12_next rfl rfl h12.o ⟨by decide, rfl⟩ ⟨Nat.le_of_ble_eq_true rfl, Nat.le_of_ble_eq_true rfl⟩ (Nat.le_of_ble_eq_true rfl) ⟨Nat.le_of_ble_eq_true rfl, Nat.le_of_ble_eq_true rfl⟩ (fun r S' I' L' hp => ?_)
      obtain ⟨rfl, rfl, hP⟩ := hp
      have hFP := hP.2.2.2.2.2.2.2.2
      refine V_aload_n (pc := 39) dX12_orders_39 rfl ?_
      refine V_callV (pc := 40) (ci := 12) (c_X12_readOrder (k := k) h12 ((hFP.2.1 20 (by omega)).trans hod) (hP.kl hK) hP.rb ((hFP.2.1 21 (by omega)).trans h21) (by omega) (show c.2.2 ≤ nxt t n p by omega) hl hG) dX12_orders_40 mlX12_557 mkX12_readOrder rfl rfl h12.o ⟨by decide, rfl⟩ ⟨Nat.le_of_ble_eq_true rfl, Nat.le_of_ble_eq_true rfl⟩ (Nat.le_of_ble_eq_true rfl) ⟨Nat.le_of_ble_eq_true rfl, Nat.le_of_ble_eq_true rfl⟩ (fun r S' I' L' hp => ?_)
      obtain ⟨rfl, rfl, hz⟩ := hp
      rw [if_pos (by omega)] at hz
      obtain ⟨hFQ, hz1, hz2⟩ := hz
      have hFT := (hFQ.t.tr hFP.q.t).tr hF
      rcases hcl : (clO t n (nxt t n p) l).2.2 with _ | x
      refine V_goto (pc := 43) (tgt := 19) dX12_orders_43 (by decide) ?_
      skip
      · obtain ⟨s, hs⟩ := hz1 hcl
        have e19 := hs.2.2.2.2.2.2.1
        rw [orP_n hcl] at hr
        refine V_aload_n (pc := 19) dX12_orders_19 rfl ?_
        refine V_getIE (pc := 20) 12 19 dX12_orders_20 flX12_275 (by decide) h12.o (e19) ?_
        refine V_if_neB (pc := 23) (tgt := 46) dX12_orders_23 (by decide) (fun c23 => ?_) (fun n23 => absurd n23 (by simp))
        exact hE.1 (by rw [hr]) _ _ _ s hFT hs (Or.inl (by rw [hr]))
      · obtain ⟨q1, q2, d', P', c', q3, q4, q5, q6, q7, q8, q9⟩ := hz2 x hcl
        rw [orP_s hcl] at hr
        refine V_goto (pc := 43) (tgt := 19) dX12_orders_43 (by decide) ?_
        refine ih (k + 1) (addo od x) _ _ d' P' c' _ _ (by omega) (by show od.1 + 1 = k + 1; omega) hFT ?_ ((hFQ.t.tr hFP.q.t).kl hK) q3 q1 q4 q5 q6 (hCM.add ?_ q7 q8 (hlk ▸ q9)) r hr hE
        · rw [hFQ.2.1 20 (by omega), hFP.2.1 20 (by omega)]; exact hod
        · intro i hi; rw [q2 i (by omega), hFP.1 (o + 34) (by omega) (by omega)]
    · rw [if_neg h159] at hr
      refine V_aload_n (pc := 19) dX12_orders_19 rfl ?_
      refine V_getIE (pc := 20) 12 19 dX12_orders_20 flX12_275 (by decide) h12.o (h19) ?_
      refine V_if_neB (pc := 23) (tgt := 46) dX12_orders_23 (by decide) (fun c23 => absurd c23 (by simp)) (fun n23 => ?_)
      refine V_aload_n (pc := 26) dX12_orders_26 rfl ?_
      refine V_bipush (pc := 27) (v := nI 59) dX12_orders_27 (by decide) ?_
      refine V_callVd (pc := 29) (ci := 12) (c_X12_isSign h12 (show TK o t n I L p from h.1) (by omega)) dX12_orders_29 mlX12_344 mkX12_isSign rfl rfl h12.o ⟨by decide, rfl⟩ ⟨Nat.le_of_ble_eq_true rfl, Nat.le_of_ble_eq_true rfl⟩ (Nat.le_of_ble_eq_true rfl) ⟨Nat.le_of_ble_eq_true rfl, Nat.le_of_ble_eq_true rfl⟩ ?_
      refine V_if_eqB (pc := 32) (tgt := 46) dX12_orders_32 (by decide) (fun c32 => ?_) (fun n32 => absurd n32 (by rw [decide_eq_false (show ¬ tc t n p = 100 + 59 from h159)]; decide))
      skip
      by_cases h92 : tc t n p = 92
      · rw [if_pos h92] at hr
        subst hr
        exact hE.2 od rfl I L l d P c hF h h92 (hlk ▸ h21) (by omega) hCM (by omega) hG
      · rw [if_neg h92] at hr
        subst hr
        exact hE.1 rfl I L none _ hF h (Or.inr ⟨rfl, rfl, h92⟩)
end RF
