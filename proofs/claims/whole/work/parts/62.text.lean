/-! THE REFERENCE reads a text: begin and end -/
def FT (o : Nat) (I' I : IT) (L' L : LT) : Prop := (∀ a, a ≠ o → (a < o + 10 ∨ (o + 14 < a ∧ a ≠ o + 34)) → I' a = I a) ∧ (∀ i, (i < 13 ∨ 30 < i) → I' o i = I o i) ∧ (∀ a, a ≠ o → L' a = L a) ∧ ∀ i, i ≠ 17 → L' o i = L o i
theorem FT.rf {o : Nat} {I : IT} {L : LT} : FT o I I L L := ⟨fun _ _ _ => rfl, fun _ _ => rfl, fun _ _ => rfl, fun _ _ => rfl⟩
theorem FT.tr {o : Nat} {I1 I2 I3 : IT} {L1 L2 L3 : LT} (h : FT o I1 I2 L1 L2) (g : FT o I2 I3 L2 L3) : FT o I1 I3 L1 L3 := ⟨fun a h1 h2 => (h.1 a h1 h2).trans (g.1 a h1 h2), fun i hi => (h.2.1 i hi).trans (g.2.1 i hi), fun a ha => (h.2.2.1 a ha).trans (g.2.2.1 a ha), fun i hi => (h.2.2.2 i hi).trans (g.2.2.2 i hi)⟩
theorem FQ.t {o : Nat} {I I' : IT} {L L' : LT} (h : FQ o I' I L' L) : FT o I' I L' L := ⟨h.1, fun i hi => h.2.1 i (by omega), h.2.2⟩
theorem FT.fld {o i : Nat} {v : Int32} {I I' : IT} {L L' : LT} (h : FT o I' I L' L) (hi : 13 ≤ i ∧ i ≤ 30) : FT o (up2 I' o i v) I L' L := ⟨fun x h1 h2 => by rw [up2_row h1]; exact h.1 x h1 h2, fun j hj => by rw [up2_nej (by omega)]; exact h.2.1 j hj, h.2.2⟩
theorem FT.kl {o : Nat} {I I' : IT} {L L' : LT} (h : FT o I' I L' L) (hK : KL L o) : KL L' o := by
  obtain ⟨k1, k2, k3, k4, k5⟩ := hK
  have e := h.2.2.1
  unfold KL
  rw [e _ (by omega), e _ (by omega), e _ (by omega), e _ (by omega), e _ (by omega)]
  exact ⟨k1, k2, k3, k4, k5⟩
theorem FT.fr {o : Nat} {I I' : IT} {L L' : LT} (h : FT o I' I L' L) : FrM o I' I L' L := fun a ha => ⟨h.1 a (by omega) (by omega), h.2.2.1 a (by omega)⟩
theorem FrM.tr2 {o : Nat} {I1 I2 I3 : IT} {L1 L2 L3 : LT} (h : FrM o I1 I2 L1 L2) (g : FrM o I2 I3 L2 L3) : FrM o I1 I3 L1 L3 := fun a ha => ⟨(h a ha).1.trans (g a ha).1, (h a ha).2.trans (g a ha).2⟩
def sfl (A : AT) (v : Int32) : AT := sx A ((ax A).1, v, (ax A).2.2)
def tp0 (A : AT) : AT := stp A (0, (atp A).2)
theorem MR.ft {o : Nat} {I I' : IT} {L L' : LT} {A : AT} {v : Int32} (h : MR o I L A) (f : FT o I' I L' L) (h13 : I' o 13 = nI 0) (h20 : I' o 20 = nI 0) (h18 : I' o 18 = v) : MR o I' L' (sfl (tp0 A) v) := by
  obtain ⟨h1, h2, h3, h4, h5, h6, h7, h8, h9⟩ := h
  have e := f.1
  have g := f.2.1
  refine ⟨h1.cg (e _ (by omega) (by omega)), ?_, ?_, ?_, ⟨h13, fun i hi => absurd hi (Nat.not_lt_zero i)⟩, ?_, ?_, h20, f.kl h9⟩
  · unfold LwsM at h2 ⊢; rw [e (o + 2) (by omega) (by omega)]; exact h2
  · unfold UndM at h3 ⊢; rw [e (o + 5) (by omega) (by omega), e (o + 6) (by omega) (by omega), g 8 (by omega)]; exact h3
  · unfold ImgM at h4 ⊢; rw [e (o + 3) (by omega) (by omega), e (o + 4) (by omega) (by omega)]; exact h4
  · obtain ⟨x1, x2, x3, x4, x5⟩ := h6
    exact ⟨(g 11 (by omega)).trans x1, h18, (g 57 (by omega)).trans x3, (g 1 (by omega)).trans x4, fun r hr => by rw [e (o + 1) (by omega) (by omega)]; exact x5 r hr⟩
  · unfold DrM at h7 ⊢; rw [e (o + 35) (by omega) (by omega), g 61 (by omega)]; exact h7
section PL
variable {E : EnT} {S : ST} {I I0 : IT} {L L0 : LT} {o n p l d : Nat} {t : Nat → Nat} {P : List (Nat × Nat)} {c : CT} {b : Option Nat}
theorem PlM_ex (I : IT) (o : Nat) : ∀ m, ∃ P : List (Nat × Nat), P.length = m ∧ PlM I o P
  | 0 => ⟨[], rfl, trivial⟩
  | m + 1 => by
    obtain ⟨P, h1, h2⟩ := PlM_ex I o m
    obtain ⟨x, hx⟩ := nI_ex (I (o + 13) m)
    obtain ⟨y, hy⟩ := nI_ex (I (o + 14) m)
    exact ⟨(x, y) :: P, by simp [h1], ⟨⟨by rw [h1]; exact hx, by rw [h1]; exact hy⟩, h2⟩⟩
theorem c_X12_begin (h12 : Lay12 E S o) (hT : TP o t n I) : C E kX12_begin 2 0 0 [.ref o] S I L (fun r S' I' L' => r = none ∧ S = S' ∧ TK o t n I' L' (skp t n 0) ∧ I' o 19 = nI 0 ∧ I' o 18 = -1 ∧ I' o 20 = I o 20 ∧ FT o I' I L' L) := by
  refine C_of (by decide) (Nat.le_of_ble_eq_true rfl) ?_
  refine V_aload_n (pc := 0) dX12_begin_0 rfl ?_
  refine V_iconst (pc := 1) (v := nI 0) dX12_begin_1 (by decide) ?_
  refine V_putI (pc := 2) 12 15 dX12_begin_2 flX12_272 (by decide) (by decide) (Or.inl rfl) rfl rfl h12.o ?_
  refine V_aload_n (pc := 5) dX12_begin_5 rfl ?_
  refine V_iconst (pc := 6) (v := nI 0) dX12_begin_6 (by decide) ?_
  refine V_putI (pc := 7) 12 19 dX12_begin_7 flX12_275 (by decide) (by decide) (Or.inl rfl) rfl rfl h12.o ?_
  refine V_aload_n (pc := 10) dX12_begin_10 rfl ?_
  refine V_iconst (pc := 11) (v := (-1)) dX12_begin_11 (by decide) ?_
  refine V_putI (pc := 12) 12 18 dX12_begin_12 flX12_38 (by decide) (by decide) (Or.inl rfl) rfl rfl h12.o ?_
  refine V_aload_n (pc := 15) dX12_begin_15 rfl ?_
  refine V_callV (pc := 16) (ci := 12) (c_X12_next h12 (((hT.up (by omega)).up (by omega)).up (by omega)) (show up2 (up2 (up2 I o 15 (nI 0)) o 19 (nI 0)) o 18 (-1) o 15 = nI 0 from by rw [up2_nej (by omega), up2_nej (by omega), up2_self]) (Nat.zero_le n)) dX12_begin_16 mlX12_279 mkX12_next rfl rfl h12.o ⟨by decide, rfl⟩ ⟨Nat.le_of_ble_eq_true rfl, Nat.le_of_ble_eq_true rfl⟩ (Nat.le_of_ble_eq_true rfl) ⟨Nat.le_of_ble_eq_true rfl, Nat.le_of_ble_eq_true rfl⟩ (fun r S' I' L' hp => ?_)
  obtain ⟨rfl, rfl, hTK, hFN⟩ := hp
  refine V_vret (pc := 19) dX12_begin_19 rfl (by first | decide | omega) (by first | decide | omega) ?_
  refine ⟨rfl, rfl, hTK, ?_, ?_, ?_, hFN.q.t.tr (((FT.rf.fld (by omega)).fld (by omega)).fld (by omega))⟩
  · rw [hFN.2.1 19 (by omega), up2_nej (by omega), up2_self]
  · rw [hFN.2.1 18 (by omega), up2_self]
  · rw [hFN.2.1 20 (by omega), up2_nej (by omega), up2_nej (by omega), up2_nej (by omega)]
def c00 : CT := (fun _ => 0, fun _ => 0, 0)
theorem c_X12_beginText (h12 : Lay12 E S o) {od : Bool} (hT : TP o t n I) : C E kX12_beginText 3 0 0 [.ref o, .int (b2i od)] S I L (fun r S' I' L' => r = none ∧ S = S' ∧ (∃ d P, PS o t n I' L' I' L' none (skp t n 0, 0, d, P, c00)) ∧ I' o 20 = b2i od ∧ I' o 21 = nI 0 ∧ FT o I' I L' L) := by
  refine C_of (by decide) (Nat.le_of_ble_eq_true rfl) ?_
  refine V_aload_n (pc := 0) dX12_beginText_0 rfl ?_
  refine V_iload_n (pc := 1) dX12_beginText_1 rfl ?_
  refine V_putI (pc := 2) 12 20 dX12_beginText_2 flX12_350 (by decide) (by decide) (Or.inl rfl) (b2i_n _) (by cases od <;> rfl) h12.o ?_
  refine V_aload_n (pc := 5) dX12_beginText_5 rfl ?_
  refine V_callV (pc := 6) (ci := 12) (c_X12_begin h12 (hT.up (i := 20) (by omega))) dX12_beginText_6 mlX12_401 mkX12_begin rfl rfl h12.o ⟨by decide, rfl⟩ ⟨Nat.le_of_ble_eq_true rfl, Nat.le_of_ble_eq_true rfl⟩ (Nat.le_of_ble_eq_true rfl) ⟨Nat.le_of_ble_eq_true rfl, Nat.le_of_ble_eq_true rfl⟩ (fun r S' I' L' hp => ?_)
  obtain ⟨rfl, rfl, hTK, h19, h18, h20, hF⟩ := hp
  refine V_aload_n (pc := 9) dX12_beginText_9 rfl ?_
  refine V_iconst (pc := 10) (v := nI 0) dX12_beginText_10 (by decide) ?_
  refine V_putI (pc := 11) 12 21 dX12_beginText_11 flX12_404 (by decide) (by decide) (Or.inl rfl) rfl rfl h12.o ?_
  refine V_aload_n (pc := 14) dX12_beginText_14 rfl ?_
  refine V_iconst (pc := 15) (v := nI 0) dX12_beginText_15 (by decide) ?_
  refine V_putI (pc := 16) 12 23 dX12_beginText_16 flX12_312 (by decide) (by decide) (Or.inl rfl) rfl rfl h12.o ?_
  refine V_aload_n (pc := 19) dX12_beginText_19 rfl ?_
  refine V_iconst (pc := 20) (v := nI 0) dX12_beginText_20 (by decide) ?_
  refine V_putI (pc := 21) 12 26 dX12_beginText_21 flX12_341 (by decide) (by decide) (Or.inl rfl) rfl rfl h12.o ?_
  refine V_vret (pc := 24) dX12_beginText_24 rfl (by first | decide | omega) (by first | decide | omega) ?_
  obtain ⟨m, hm⟩ := nI_ex (I' o 29)
  obtain ⟨d, hd⟩ := nI_ex (I' o 30)
  obtain ⟨P, hP1, hP2⟩ := PlM_ex I' o m
  have f : ∀ i, i ≠ 21 → i ≠ 23 → i ≠ 26 → up2 (up2 (up2 I' o 21 (nI 0)) o 23 (nI 0)) o 26 (nI 0) o i = I' o i := fun i a1 a2 a3 => by rw [up2_nej a3, up2_nej a2, up2_nej a1]
  have g : ∀ a, a ≠ o → up2 (up2 (up2 I' o 21 (nI 0)) o 23 (nI 0)) o 26 (nI 0) a = I' a := fun a a1 => by rw [up2_row a1, up2_row a1, up2_row a1]
  refine ⟨rfl, rfl, ⟨d, P, hTK.cg (g _ (by omega)) (fun i _ _ => f i (by omega) (by omega) (by omega)), up2_self, (f 30 (by omega) (by omega) (by omega)).trans hd, ?_, hP2.cg (fun k _ => ⟨by rw [g _ (by omega)], by rw [g _ (by omega)]⟩), ⟨?_, fun k hk => absurd hk (Nat.not_lt_zero k)⟩, (f 19 (by omega) (by omega) (by omega)).trans h19, (f 18 (by omega) (by omega) (by omega)).trans h18, FP.rf⟩, ?_, ?_, ((hF.tr (FT.rf.fld (by omega))).fld (by omega)).fld (by omega) |>.fld (by omega)⟩
  · rw [f 29 (by omega) (by omega) (by omega), hm, ← hP1]
  · rw [up2_nej (by omega), up2_self]; rfl
  · rw [f 20 (by omega) (by omega) (by omega), h20, up2_self]
  · rw [up2_nej (by omega), up2_nej (by omega), up2_self]
theorem c_X12_endText (h12 : Lay12 E S o) {s : PT} (h : PS o t n I L I L b s) : C E kX12_endText 3 0 0 [.ref o] S I L (fun r S' I' L' => r = none ∧ S = S' ∧ FT o I' I L' L ∧ I' o 13 = nI 0 ∧ I' o 20 = nI 0 ∧ I' o 21 = I o 21 ∧ I' (o + 10) = I (o + 10) ∧ I' (o + 34) = I (o + 34) ∧
    ((b = none ∧ tc t n s.1 ≠ 92) → I' o 18 = nI s.1 ∧ I' o 19 = nI 1) ∧ (∀ f, b = some f → I' o 18 = nI f ∧ I' o 19 = nI 1) ∧ ((b = none ∧ tc t n s.1 = 92) → I' o 18 = -1 ∧ I' o 19 = nI 0 ∧ CdM I' o s.2.2.2.2)) := by
  have h16 : I o 16 = nI (srt t n s.1) := h.1.2.2.2.2.1
  have h19 := h.2.2.2.2.2.2.1
  have h18 := h.2.2.2.2.2.2.2.1
  have hcd := h.2.2.2.2.2.1
  have hs4 := srt_le t n s.1
  refine C_of (by decide) (Nat.le_of_ble_eq_true rfl) ?_
  rcases b with _ | f
  · by_cases h92 : tc t n s.1 = 92
    · have h0 : srt t n s.1 = 0 := srt_end.mpr (tc_end.mp h92)
      refine V_aload_n (pc := 0) dX12_endText_0 rfl ?_
      refine V_getIE (pc := 1) 12 19 dX12_endText_1 flX12_275 (by decide) h12.o (h19) ?_
      refine V_if_neB (pc := 4) (tgt := 19) dX12_endText_4 (by decide) (fun c4 => absurd c4 (by simp)) (fun n4 => ?_)
      refine V_aload_n (pc := 7) dX12_endText_7 rfl ?_
      refine V_getIE (pc := 8) 12 16 dX12_endText_8 flX12_295 (by decide) h12.o (h16) ?_
      refine V_if_eqN (pc := 11) (tgt := 19) dX12_endText_11 (by decide) (by omega) (fun c11 => ?_) (fun n11 => absurd n11 (by omega))
      refine V_aload_n (pc := 19) dX12_endText_19 rfl ?_
      refine V_iconst (pc := 20) (v := nI 0) dX12_endText_20 (by decide) ?_
      refine V_putI (pc := 21) 12 20 dX12_endText_21 flX12_350 (by decide) (by decide) (Or.inl rfl) rfl rfl h12.o ?_
      refine V_aload_n (pc := 24) dX12_endText_24 rfl ?_
      refine V_iconst (pc := 25) (v := nI 0) dX12_endText_25 (by decide) ?_
      refine V_putI (pc := 26) 12 13 dX12_endText_26 flX12_263 (by decide) (by decide) (Or.inl rfl) rfl rfl h12.o ?_
      refine V_vret (pc := 29) dX12_endText_29 rfl (by first | decide | omega) (by first | decide | omega) ?_
      refine ⟨rfl, rfl, (FT.rf.fld (by omega)).fld (by omega), up2_self, ?_, ?_, ?_, ?_, (fun z => absurd h92 z.2), (fun f hf => by cases hf), fun _ => ⟨?_, ?_, ?_, fun k hk => ?_⟩⟩
      · rw [up2_nej (by omega), up2_self]
      · rw [up2_nej (by omega), up2_nej (by omega)]
      · rw [up2_row (by omega), up2_row (by omega)]
      · rw [up2_row (by omega), up2_row (by omega)]
      · rw [up2_nej (by omega), up2_nej (by omega)]; exact h18
      · rw [up2_nej (by omega), up2_nej (by omega)]; exact h19
      · rw [up2_nej (by omega), up2_nej (by omega)]; exact hcd.1
      · rw [up2_row (by omega), up2_row (by omega), up2_row (by omega), up2_row (by omega)]; exact hcd.2 k hk
    · have h0 : ¬ srt t n s.1 = 0 := fun z => h92 (tc_end.mpr (srt_end.mp z))
      refine V_aload_n (pc := 0) dX12_endText_0 rfl ?_
      refine V_getIE (pc := 1) 12 19 dX12_endText_1 flX12_275 (by decide) h12.o (h19) ?_
      refine V_if_neB (pc := 4) (tgt := 19) dX12_endText_4 (by decide) (fun c4 => absurd c4 (by simp)) (fun n4 => ?_)
      refine V_aload_n (pc := 7) dX12_endText_7 rfl ?_
      refine V_getIE (pc := 8) 12 16 dX12_endText_8 flX12_295 (by decide) h12.o (h16) ?_
      refine V_if_eqN (pc := 11) (tgt := 19) dX12_endText_11 (by decide) (by omega) (fun c11 => absurd c11 (by omega)) (fun n11 => ?_)
      refine V_aload_n (pc := 14) dX12_endText_14 rfl ?_
      refine V_iconst (pc := 15) (v := nI 0) dX12_endText_15 (by decide) ?_
      refine V_callV (pc := 16) (ci := 12) (c_X12_must (q := false) h12 h) dX12_endText_16 mlX12_308 mkX12_must rfl rfl h12.o ⟨by decide, rfl⟩ ⟨Nat.le_of_ble_eq_true rfl, Nat.le_of_ble_eq_true rfl⟩ (Nat.le_of_ble_eq_true rfl) ⟨Nat.le_of_ble_eq_true rfl, Nat.le_of_ble_eq_true rfl⟩ (fun r S' I' L' hp => ?_)
      obtain ⟨rfl, rfl, _, hP⟩ := hp
      have hP := hP rfl
      have hFP := hP.2.2.2.2.2.2.2.2
      refine V_aload_n (pc := 19) dX12_endText_19 rfl ?_
      refine V_iconst (pc := 20) (v := nI 0) dX12_endText_20 (by decide) ?_
      refine V_putI (pc := 21) 12 20 dX12_endText_21 flX12_350 (by decide) (by decide) (Or.inl rfl) rfl rfl h12.o ?_
      refine V_aload_n (pc := 24) dX12_endText_24 rfl ?_
      refine V_iconst (pc := 25) (v := nI 0) dX12_endText_25 (by decide) ?_
      refine V_putI (pc := 26) 12 13 dX12_endText_26 flX12_263 (by decide) (by decide) (Or.inl rfl) rfl rfl h12.o ?_
      refine V_vret (pc := 29) dX12_endText_29 rfl (by first | decide | omega) (by first | decide | omega) ?_
      refine ⟨rfl, rfl, ((hFP.q.t).fld (by omega)).fld (by omega), up2_self, ?_, ?_, ?_, ?_, (fun _ => ⟨?_, ?_⟩), (fun f hf => by cases hf), fun z => absurd z.2 h92⟩
      · rw [up2_nej (by omega), up2_self]
      · rw [up2_nej (by omega), up2_nej (by omega)]; exact hFP.2.1 21 (by omega)
      · rw [up2_row (by omega), up2_row (by omega)]; exact hFP.1 _ (by omega) (by omega)
      · rw [up2_row (by omega), up2_row (by omega)]; exact hFP.1 _ (by omega) (by omega)
      · rw [up2_nej (by omega), up2_nej (by omega)]; exact hP.2.2.2.2.2.2.2.1
      · rw [up2_nej (by omega), up2_nej (by omega)]; exact hP.2.2.2.2.2.2.1
  · skip
    refine V_aload_n (pc := 0) dX12_endText_0 rfl ?_
    refine V_getIE (pc := 1) 12 19 dX12_endText_1 flX12_275 (by decide) h12.o (h19) ?_
    refine V_if_neB (pc := 4) (tgt := 19) dX12_endText_4 (by decide) (fun c4 => ?_) (fun n4 => absurd n4 (by simp))
    refine V_aload_n (pc := 19) dX12_endText_19 rfl ?_
    refine V_iconst (pc := 20) (v := nI 0) dX12_endText_20 (by decide) ?_
    refine V_putI (pc := 21) 12 20 dX12_endText_21 flX12_350 (by decide) (by decide) (Or.inl rfl) rfl rfl h12.o ?_
    refine V_aload_n (pc := 24) dX12_endText_24 rfl ?_
    refine V_iconst (pc := 25) (v := nI 0) dX12_endText_25 (by decide) ?_
    refine V_putI (pc := 26) 12 13 dX12_endText_26 flX12_263 (by decide) (by decide) (Or.inl rfl) rfl rfl h12.o ?_
    refine V_vret (pc := 29) dX12_endText_29 rfl (by first | decide | omega) (by first | decide | omega) ?_
    refine ⟨rfl, rfl, (FT.rf.fld (by omega)).fld (by omega), up2_self, ?_, ?_, ?_, ?_, (fun z => by cases z.1), (fun f2 hf => ?_), fun z => by cases z.1⟩
    · rw [up2_nej (by omega), up2_self]
    · rw [up2_nej (by omega), up2_nej (by omega)]
    · rw [up2_row (by omega), up2_row (by omega)]
    · rw [up2_row (by omega), up2_row (by omega)]
    · cases hf
      exact ⟨by rw [up2_nej (by omega), up2_nej (by omega)]; exact h18, by rw [up2_nej (by omega), up2_nej (by omega)]; exact h19⟩
end PL
