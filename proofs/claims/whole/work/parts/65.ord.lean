/-! THE REFERENCE reads orders -/
def bq {α β : Type} (r : Nat × Nat × Option α) (k : Nat → Nat → α → Nat × Nat × Option β) : Nat × Nat × Option β := match r.2.2 with | none => (r.1, r.2.1, none) | some x => k r.1 r.2.1 x
theorem bq_n {α β : Type} {r : Nat × Nat × Option α} {k : Nat → Nat → α → Nat × Nat × Option β} (h : r.2.2 = none) : bq r k = (r.1, r.2.1, none) := by unfold bq; rw [h]
theorem bq_s {α β : Type} {r : Nat × Nat × Option α} {k : Nat → Nat → α → Nat × Nat × Option β} {x : α} (h : r.2.2 = some x) : bq r k = k r.1 r.2.1 x := by unfold bq; rw [h]
def oSum (t : Nat → Nat) (n p l : Nat) : PR := ps t n true (FU n) 0 0 p l one
def oS (t : Nat → Nat) (n kd p l : Nat) : Nat × Nat × Option (SF × SF × SF) :=
  if kd = 3 then (p, l, some (one, one, one)) else
  bq (oSum t n p l) fun p1 l1 F => if tc t n p1 = 5 + kd then bq (oSum t n (nxt t n p1) l1) fun p2 l2 G => if kd = 0 then (if tc t n p2 = 6 then bq (oSum t n (nxt t n p2) l2) fun p3 l3 H => (p3, l3, some (F, G, H)) else (p2, l2, none)) else (p2, l2, some (F, G, one)) else (p1, l1, none)
def oT (t : Nat → Nat) (n p l : Nat) : Nat × Nat × Option Nat := if tc t n p = 4 then (if tc t n (nxt t n p) = 91 ∧ 1 ≤ nm t n (nxt t n p) ∧ nm t n (nxt t n p) ≤ 20 then (nxt t n (nxt t n p), l, some (nm t n (nxt t n p))) else (nxt t n p, l, none)) else (p, l, some 1)
def oI (t : Nat → Nat) (n p l : Nat) : PR := if tc t n p = 0 then ps t n true (FU n) 3 0 (nxt t n p) l one else (p, l, some one)
/-- a clause of orders: its kind, how many times, its sums, its test -/
abbrev OC : Type := Nat × Nat × (SF × SF × SF) × SF
def clO (t : Nat → Nat) (n p l : Nat) : Nat × Nat × Option OC := if 12 ≤ tc t n p ∧ tc t n p ≤ 15 then bq (oS t n (tc t n p - 12) (nxt t n p) l) fun p1 l1 s3 => bq (oT t n p1 l1) fun p2 l2 tm => bq (oI t n p2 l2) fun p3 l3 T => (p3, l3, some (tc t n p - 12, tm, s3, T)) else (p, l, none)
def SU (f : Nat → Int32) (c : CT) (a : Nat) (F : SF) : Prop := ∃ s e m : Nat, f a = nI s ∧ f (a + 1) = nI e ∧ s < e ∧ e ≤ c.2.2 ∧ m ≤ 50 ∧ Rn (lfA true) c.1 c.2.1 s e m F
def SZ (f : Nat → Int32) (a : Nat) : Prop := f a = nI 0 ∧ f (a + 1) = nI 0
theorem SU.cg {f f' : Nat → Int32} {c c' : CT} {a : Nat} {F : SF} (h : SU f c a F) (h1 : f' a = f a) (h2 : f' (a + 1) = f (a + 1)) (hc : c.2.2 ≤ c'.2.2) (hA : AG c.2.2 c' c) : SU f' c' a F := by
  obtain ⟨s, e, m, q1, q2, q3, q4, q5, q6⟩ := h
  exact ⟨s, e, m, h1.trans q1, h2.trans q2, q3, by omega, q5, q6.cg fun k _ hk => hA k (by omega)⟩
def SM (f : Nat → Int32) (c : CT) (k kd : Nat) (s3 : SF × SF × SF) : Prop := (kd ≠ 3 → SU f c (10 * k + 1) s3.1 ∧ SU f c (10 * k + 3) s3.2.1) ∧ (kd = 3 → SZ f (10 * k + 1) ∧ SZ f (10 * k + 3)) ∧ (kd = 0 → SU f c (10 * k + 5) s3.2.2) ∧ (kd ≠ 0 → SZ f (10 * k + 5))
theorem SM.cg {f f' : Nat → Int32} {c c' : CT} {k kd : Nat} {s3 : SF × SF × SF} (h : SM f c k kd s3) (h1 : ∀ i, 10 * k + 1 ≤ i → i < 10 * k + 7 → f' i = f i) (hc : c.2.2 ≤ c'.2.2) (hA : AG c.2.2 c' c) : SM f' c' k kd s3 := by
  obtain ⟨q1, q2, q3, q4⟩ := h
  refine ⟨fun z => ⟨(q1 z).1.cg (h1 _ (by omega) (by omega)) (h1 _ (by omega) (by omega)) hc hA, (q1 z).2.cg (h1 _ (by omega) (by omega)) (h1 _ (by omega) (by omega)) hc hA⟩, fun z => ?_, fun z => (q3 z).cg (h1 _ (by omega) (by omega)) (h1 _ (by omega) (by omega)) hc hA, fun z => ?_⟩
  · obtain ⟨⟨a1, a2⟩, a3, a4⟩ := q2 z
    exact ⟨⟨(h1 _ (by omega) (by omega)).trans a1, (h1 _ (by omega) (by omega)).trans a2⟩, (h1 _ (by omega) (by omega)).trans a3, (h1 _ (by omega) (by omega)).trans a4⟩
  · obtain ⟨a1, a2⟩ := q4 z
    exact ⟨(h1 _ (by omega) (by omega)).trans a1, (h1 _ (by omega) (by omega)).trans a2⟩
def OM1 (f : Nat → Int32) (c : CT) (k : Nat) (x : OC) : Prop := x.1 < 4 ∧ f (10 * k) = nI x.1 ∧ SM f c k x.1 x.2.2.1 ∧ x.2.1 ≤ 20 ∧ f (10 * k + 9) = nI x.2.1 ∧ ∃ s e : Nat, s ≤ 400 ∧ e ≤ c.2.2 ∧ f (10 * k + 7) = nI s ∧ f (10 * k + 8) = nI e ∧ (s < e → (∃ m, m ≤ 50 ∧ Rn (lfA true) c.1 c.2.1 s e m x.2.2.2) ∧ TFo x.2.2.2) ∧ (¬ s < e → x.2.2.2 = one)
theorem OM1.cg {f f' : Nat → Int32} {c c' : CT} {k : Nat} {x : OC} (h : OM1 f c k x) (h1 : ∀ i, i < 10 * k + 10 → f' i = f i) (hc : c.2.2 ≤ c'.2.2) (hA : AG c.2.2 c' c) : OM1 f' c' k x := by
  obtain ⟨a1, a2, a3, a4, a5, s, e, b1, b2, b3, b4, b5, b6⟩ := h
  refine ⟨a1, (h1 _ (by omega)).trans a2, a3.cg (fun i _ hi => h1 i (by omega)) hc hA, a4, (h1 _ (by omega)).trans a5, s, e, b1, by omega, (h1 _ (by omega)).trans b3, (h1 _ (by omega)).trans b4, fun z => ?_, b6⟩
  obtain ⟨⟨m, m1, m2⟩, m3⟩ := b5 z
  exact ⟨⟨m, m1, m2.cg fun k _ hk => hA k (by omega)⟩, m3⟩
section PO
variable {E : EnT} {S : ST} {I I0 : IT} {L L0 : LT} {o n p l d : Nat} {t : Nat → Nat} {P : List (Nat × Nat)} {c : CT} {b : Option Nat}
/-- a sum is read: where in the orders' row it is told -/
theorem c_X12_readSum (h12 : Lay12 E S o) {a : Nat} (ha : a + 1 < 120) (hod : I o 20 = b2i true) (hK : KL L o) (h : PS o t n I L I L none (p, l, d, P, c)) (hc : c.2.2 ≤ p) (hl : l ≤ 50) (hG : CG c) : C E kX12_readSum 7 0 0 [.ref o, .int (nI a)] S I L (fun rr S' I' L' => rr = none ∧ S = S' ∧ FQ o I' I L' L ∧ I' o 21 = I o 21 ∧ (∀ i, i ≠ a → i ≠ a + 1 → I' (o + 34) i = I (o + 34) i) ∧ ((oSum t n p l).2.2 = none → ∃ s, PS o t n I' L' I' L' (some (oSum t n p l).1) s) ∧ ∀ F, (oSum t n p l).2.2 = some F → ∃ c', PS o t n I' L' I' L' none ((oSum t n p l).1, (oSum t n p l).2.1, 0, [], c') ∧ c'.2.2 ≤ (oSum t n p l).1 ∧ (oSum t n p l).2.1 ≤ 50 ∧ CG c' ∧ c.2.2 ≤ c'.2.2 ∧ AG c.2.2 c' c ∧ SU (I' (o + 34)) c' a F) := by
  have h23 : I o 23 = nI c.2.2 := h.2.2.2.2.2.1.1
  have hs2 := h.row (a := o + 34) (i := a) (v := nI c.2.2) (Or.inr rfl)
  refine C_of (by decide) (Nat.le_of_ble_eq_true rfl) ?_
  refine V_aload_n (pc := 0) dX12_readSum_0 rfl ?_
  refine V_getR (pc := 1) 12 54 dX12_readSum_1 flX12_163 (by decide) h12.o h12.R54 ?_
  refine V_iload_n (pc := 4) dX12_readSum_4 rfl ?_
  refine V_aload_n (pc := 5) dX12_readSum_5 rfl ?_
  refine V_getIE (pc := 6) 12 23 dX12_readSum_6 flX12_312 (by decide) h12.o (h23) ?_
  refine V_iastore (pc := 9) dX12_readSum_9 h12.A54 (by first | decide | omega) (by omega) ?_
  refine V_aload_n (pc := 10) dX12_readSum_10 rfl ?_
  refine V_getIE (pc := 11) 12 19 dX12_readSum_11 flX12_275 (by decide) h12.o (hs2.2.2.2.2.2.2.1) ?_
  refine V_if_neB (pc := 14) (tgt := 22) dX12_readSum_14 (by decide) (fun c14 => absurd c14 (by simp)) (fun n14 => ?_)
  refine V_aload_n (pc := 17) dX12_readSum_17 rfl ?_
  refine V_iconst (pc := 18) (v := nI 0) dX12_readSum_18 (by decide) ?_
  refine V_callV (pc := 19) (ci := 12) (c_X12_rexp_sum h12 ((up2_ne (by omega)).trans hod) hK hs2 hc hl hG one) dX12_readSum_19 mlX12_407 mkX12_readExpression rfl rfl h12.o ⟨by decide, rfl⟩ ⟨Nat.le_of_ble_eq_true rfl, Nat.le_of_ble_eq_true rfl⟩ (Nat.le_of_ble_eq_true rfl) ⟨Nat.le_of_ble_eq_true rfl, Nat.le_of_ble_eq_true rfl⟩ (fun r S' I' L' hp => ?_)
  obtain ⟨rfl, rfl, hR1, hR2⟩ := hp
  rw [show ps t n true (FU n) 0 0 p l one = oSum t n p l from rfl] at hR1 hR2
  generalize oSum t n p l = r at hR1 hR2 ⊢
  rcases hG2 : r.2.2 with _ | F
  skip
  · obtain ⟨s, hP⟩ := hR1 hG2
    have hFP := hP.2.2.2.2.2.2.2.2
    refine V_aload_n (pc := 22) dX12_readSum_22 rfl ?_
    refine V_getR (pc := 23) 12 54 dX12_readSum_23 flX12_163 (by decide) h12.o h12.R54 ?_
    refine V_iload_n (pc := 26) dX12_readSum_26 rfl ?_
    refine V_iconst (pc := 27) (v := nI 1) dX12_readSum_27 (by decide) ?_
    refine V_iaddN (pc := 28) dX12_readSum_28 ?_
    refine V_aload_n (pc := 29) dX12_readSum_29 rfl ?_
    refine V_getI (pc := 30) 12 23 dX12_readSum_30 flX12_312 (by decide) h12.o ?_
    refine V_iastore (pc := 33) dX12_readSum_33 h12.A54 (by first | decide | omega) (by omega) ?_
    refine V_vret (pc := 34) dX12_readSum_34 rfl (by first | decide | omega) (by first | decide | omega) ?_
    refine ⟨rfl, rfl, (hFP.q.tr (FQ.rf.row (Or.inr rfl))).row (Or.inr rfl), ?_, fun i h1 h2 => ?_, fun _ => ⟨s, hP.row (Or.inr rfl)⟩, fun F hF => by cases hF⟩
    · rw [up2_ne (by omega), hFP.2.1 21 (by omega), up2_ne (by omega)]
    · rw [up2_nej h2, hFP.1 (o + 34) (by omega) (by omega), up2_nej h1]
  · obtain ⟨c', m, q1, q2, q3, q4, q5, q6, q7, q8, q9⟩ := hR2 F hG2
    have hFP := q1.2.2.2.2.2.2.2.2
    refine V_aload_n (pc := 22) dX12_readSum_22 rfl ?_
    refine V_getR (pc := 23) 12 54 dX12_readSum_23 flX12_163 (by decide) h12.o h12.R54 ?_
    refine V_iload_n (pc := 26) dX12_readSum_26 rfl ?_
    refine V_iconst (pc := 27) (v := nI 1) dX12_readSum_27 (by decide) ?_
    refine V_iaddN (pc := 28) dX12_readSum_28 ?_
    refine V_aload_n (pc := 29) dX12_readSum_29 rfl ?_
    refine V_getIE (pc := 30) 12 23 dX12_readSum_30 flX12_312 (by decide) h12.o ((show I' o 23 = nI c'.2.2 from q1.2.2.2.2.2.1.1)) ?_
    refine V_iastore (pc := 33) dX12_readSum_33 h12.A54 (by first | decide | omega) (by omega) ?_
    refine V_vret (pc := 34) dX12_readSum_34 rfl (by first | decide | omega) (by first | decide | omega) ?_
    refine ⟨rfl, rfl, (hFP.q.tr (FQ.rf.row (Or.inr rfl))).row (Or.inr rfl), ?_, fun i h1 h2 => ?_, (fun z => by cases z), fun F2 hF => ?_⟩
    · rw [up2_ne (by omega), hFP.2.1 21 (by omega), up2_ne (by omega)]
    · rw [up2_nej h2, hFP.1 (o + 34) (by omega) (by omega), up2_nej h1]
    · cases hF
      refine ⟨c', q1.row (Or.inr rfl), q2, q3, q4, by omega, q6, c.2.2, c'.2.2, m, ?_, up2_self, q5, Nat.le_refl _, by omega, q7⟩
      rw [up2_nej (by omega), hFP.1 (o + 34) (by omega) (by omega), up2_self]
theorem c_X12_readSum_b (h12 : Lay12 E S o) {a q : Nat} {s : PT} (ha : a + 1 < 120) (h : PS o t n I L I L (some q) s) : C E kX12_readSum 7 0 0 [.ref o, .int (nI a)] S I L (fun rr S' I' L' => rr = none ∧ S = S' ∧ FQ o I' I L' L ∧ PS o t n I' L' I' L' (some q) s) := by
  have hs2 := h.row (a := o + 34) (i := a) (v := I o 23) (Or.inr rfl)
  refine C_of (by decide) (Nat.le_of_ble_eq_true rfl) ?_
  refine V_aload_n (pc := 0) dX12_readSum_0 rfl ?_
  refine V_getR (pc := 1) 12 54 dX12_readSum_1 flX12_163 (by decide) h12.o h12.R54 ?_
  refine V_iload_n (pc := 4) dX12_readSum_4 rfl ?_
  refine V_aload_n (pc := 5) dX12_readSum_5 rfl ?_
  refine V_getI (pc := 6) 12 23 dX12_readSum_6 flX12_312 (by decide) h12.o ?_
  refine V_iastore (pc := 9) dX12_readSum_9 h12.A54 (by first | decide | omega) (by omega) ?_
  refine V_aload_n (pc := 10) dX12_readSum_10 rfl ?_
  refine V_getIE (pc := 11) 12 19 dX12_readSum_11 flX12_275 (by decide) h12.o (hs2.2.2.2.2.2.2.1) ?_
  refine V_if_neB (pc := 14) (tgt := 22) dX12_readSum_14 (by decide) (fun c14 => ?_) (fun n14 => absurd n14 (by simp))
  refine V_aload_n (pc := 22) dX12_readSum_22 rfl ?_
  refine V_getR (pc := 23) 12 54 dX12_readSum_23 flX12_163 (by decide) h12.o h12.R54 ?_
  refine V_iload_n (pc := 26) dX12_readSum_26 rfl ?_
  refine V_iconst (pc := 27) (v := nI 1) dX12_readSum_27 (by decide) ?_
  refine V_iaddN (pc := 28) dX12_readSum_28 ?_
  refine V_aload_n (pc := 29) dX12_readSum_29 rfl ?_
  refine V_getI (pc := 30) 12 23 dX12_readSum_30 flX12_312 (by decide) h12.o ?_
  refine V_iastore (pc := 33) dX12_readSum_33 h12.A54 (by first | decide | omega) (by omega) ?_
  refine V_vret (pc := 34) dX12_readSum_34 rfl (by first | decide | omega) (by first | decide | omega) ?_
  exact ⟨rfl, rfl, (FQ.rf.row (Or.inr rfl)).row (Or.inr rfl), hs2.row (Or.inr rfl)⟩
theorem jw_w : ∀ k, k < 3 → 5 + k < 29 ∧ tcv (5 + k) = wrd5 k := by
  have h : ∀ k : Fin 3, 5 + k.1 < 29 ∧ tcv (5 + k.1) = wrd5 k.1 := by decide
  exact fun k hk => h ⟨k, hk⟩
theorem c_X12_mustJoin (h12 : Lay12 E S o) {k : Nat} {s : PT} (hk : k < 3) (hK : KL L o) (h : PS o t n I L I L none s) : C E kX12_mustJoin 3 0 0 [.ref o, .int (nI k)] S I L (fun rr S' I' L' => rr = none ∧ S = S' ∧ FP o I' I L' L ∧ (tc t n s.1 = 5 + k → PS o t n I' L' I' L' none (nxt t n s.1, s.2)) ∧ (tc t n s.1 ≠ 5 + k → PS o t n I' L' I' L' (some s.1) s)) := by
  refine C_of (by decide) (Nat.le_of_ble_eq_true rfl) ?_
  refine V_aload_n (pc := 0) dX12_mustJoin_0 rfl ?_
  refine V_getIE (pc := 1) 12 19 dX12_mustJoin_1 flX12_275 (by decide) h12.o (h.2.2.2.2.2.2.1) ?_
  refine V_if_neB (pc := 4) (tgt := 21) dX12_mustJoin_4 (by decide) (fun c4 => absurd c4 (by simp)) (fun n4 => ?_)
  refine V_aload_n (pc := 7) dX12_mustJoin_7 rfl ?_
  refine V_aload_n (pc := 8) dX12_mustJoin_8 rfl ?_
  refine V_aload_n (pc := 9) dX12_mustJoin_9 rfl ?_
  refine V_getR (pc := 10) 12 53 dX12_mustJoin_10 flX12_160 (by decide) h12.o h12.R53 ?_
  refine V_iload_n (pc := 13) dX12_mustJoin_13 rfl ?_
  refine V_laloadE (pc := 14) dX12_mustJoin_14 h12.A53 (by first | decide | omega) (by omega) (hK.2.2.2.2 k hk) ?_
  refine V_callVd (pc := 15) (ci := 12) (c_X12_isWord h12 h.1 (jw_w k hk).1 (jw_w k hk).2) dX12_mustJoin_15 mlX12_331 mkX12_isWord rfl rfl h12.o ⟨by decide, rfl⟩ ⟨Nat.le_of_ble_eq_true rfl, Nat.le_of_ble_eq_true rfl⟩ (Nat.le_of_ble_eq_true rfl) ⟨Nat.le_of_ble_eq_true rfl, Nat.le_of_ble_eq_true rfl⟩ ?_
  refine V_callV (pc := 18) (ci := 12) (c_X12_must h12 h) dX12_mustJoin_18 mlX12_308 mkX12_must rfl rfl h12.o ⟨by decide, rfl⟩ ⟨Nat.le_of_ble_eq_true rfl, Nat.le_of_ble_eq_true rfl⟩ (Nat.le_of_ble_eq_true rfl) ⟨Nat.le_of_ble_eq_true rfl, Nat.le_of_ble_eq_true rfl⟩ (fun r S' I' L' hp => ?_)
  obtain ⟨rfl, rfl, h1, h2⟩ := hp
  refine V_vret (pc := 21) dX12_mustJoin_21 rfl (by first | decide | omega) (by first | decide | omega) ?_
  by_cases e : tc t n s.1 = 5 + k
  · have h3 := h1 (decide_eq_true e)
    exact ⟨rfl, rfl, h3.2.2.2.2.2.2.2.2, (fun _ => h3.rb), fun z => absurd e z⟩
  · have h3 := h2 (decide_eq_false e)
    exact ⟨rfl, rfl, h3.2.2.2.2.2.2.2.2, (fun z => absurd z e), fun _ => h3.rb⟩
theorem c_X12_mustJoin_b (h12 : Lay12 E S o) {x : Int32} {q : Nat} {s : PT} (h : PS o t n I L I L (some q) s) : C E kX12_mustJoin 3 0 0 [.ref o, .int x] S I L (fun rr S' I' L' => rr = none ∧ S = S' ∧ I = I' ∧ L = L') := by
  refine C_of (by decide) (Nat.le_of_ble_eq_true rfl) ?_
  refine V_aload_n (pc := 0) dX12_mustJoin_0 rfl ?_
  refine V_getIE (pc := 1) 12 19 dX12_mustJoin_1 flX12_275 (by decide) h12.o (h.2.2.2.2.2.2.1) ?_
  refine V_if_neB (pc := 4) (tgt := 21) dX12_mustJoin_4 (by decide) (fun c4 => ?_) (fun n4 => absurd n4 (by simp))
  refine V_vret (pc := 21) dX12_mustJoin_21 rfl (by first | decide | omega) (by first | decide | omega) ?_
  exact ⟨rfl, rfl, rfl, rfl⟩
end PO
