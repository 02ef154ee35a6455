/-! THE REFERENCE: wed, years -/
section MI5
variable {E : EnT} {S : ST} {I : IT} {L : LT} {o : Nat} {A : AT}
def spWed (A : AT) (x y : Int32) : Int32 × AT := tll (dWed A x y)
theorem dWed_ok (A : AT) (x y : Int32) : (dWed A x y).1 < 7 ∧ (dWed A x y).2.1 < 2 ^ 31 := by
  unfold dWed
  split
  · split
    · exact ⟨by show 0 < 7; omega, Nat.lt_of_le_of_lt (lst_le _ _ _) (by omega)⟩
    · exact ⟨by show 3 < 7; omega, by show 0 < 2 ^ 31; omega⟩
  · exact ⟨by show 2 < 7; omega, by show 0 < 2 ^ 31; omega⟩
theorem c_X12_wed (h12 : Lay12 E S o) (hM : MR o I L A) (hA : wfA A) {x y : Int32} : Cm E kX12_wed 8 [.ref o, .int x, .int y] S I L o (.int (spWed A x y).1) (spWed A x y).2 := by
  refine C_of (by decide) (Nat.le_of_ble_eq_true rfl) ?_
  refine V_aload_n (pc := 0) dX12_wed_0 rfl ?_
  refine V_iconst (pc := 1) (v := nI 0) dX12_wed_1 (by decide) ?_
  refine V_putI (pc := 2) 12 0 dX12_wed_2 flX12_175 (by decide) (by decide) (Or.inl rfl) rfl rfl h12.o ?_
  have hM := hM.thrown (v := nI 0)
  have hF : FrM o (up2 I o 0 (nI 0)) I L L := FrM.rf.up (by omega)
  generalize up2 I o 0 (nI 0) = I0 at hM hF ⊢
  have hr := hM.row
  refine V_aload_n (pc := 5) dX12_wed_5 rfl ?_
  refine V_aload_n (pc := 6) dX12_wed_6 rfl ?_
  refine V_iload_n (pc := 7) dX12_wed_7 rfl ?_
  refine V_iload_n (pc := 8) dX12_wed_8 rfl ?_
  refine V_callV (pc := 9) (ci := 12) (c_X12_wedNow h12 hM hA) dX12_wed_9 mlX12_475 mkX12_wedNow rfl rfl h12.o ⟨by decide, rfl⟩ ⟨Nat.le_of_ble_eq_true rfl, Nat.le_of_ble_eq_true rfl⟩ (Nat.le_of_ble_eq_true rfl) ⟨Nat.le_of_ble_eq_true rfl, Nat.le_of_ble_eq_true rfl⟩ (fun r S' I' L' hp => ?_)
  obtain ⟨rfl, rfl, hM2, hF2⟩ := hp
  refine V_callVd (pc := 12) (ci := 12) (c_X12_telld h12 (dWed_ok A x y).1 (dWed_ok A x y).2) dX12_wed_12 mlX12_184 mkX12_tell rfl rfl h12.o ⟨by decide, rfl⟩ ⟨Nat.le_of_ble_eq_true rfl, Nat.le_of_ble_eq_true rfl⟩ (Nat.le_of_ble_eq_true rfl) ⟨Nat.le_of_ble_eq_true rfl, Nat.le_of_ble_eq_true rfl⟩ ?_
  refine V_iret (pc := 15) dX12_wed_15 rfl (by first | decide | omega) (by first | decide | omega) ?_
  exact ⟨rfl, rfl, hM2.htl, (FrM.tr hF2.1 hF).htl⟩
/-- the row with a year gone by for the first j boxes -/
def psj (law : LawT) (q : Nat → Nat) (j : Nat) : Nat → Nat := fun i => if 62 ≤ i ∧ i < 62 + j then q i - lss law q (i - 62) else if 68 ≤ i ∧ i < 68 + j then (if q (i + 6) = 1 then 0 else q i) else if 74 ≤ i ∧ i < 74 + j then q i - 1 else q i
theorem psj_0 (law : LawT) (q : Nat → Nat) : psj law q 0 = q := by
  funext i
  unfold psj
  rw [if_neg (by omega), if_neg (by omega), if_neg (by omega)]
theorem psj_u {law : LawT} {q : Nat → Nat} {j i : Nat} (h : i < 62 ∨ (62 + j ≤ i ∧ i < 68) ∨ (68 + j ≤ i ∧ i < 74) ∨ 74 + j ≤ i) : psj law q j i = q i := by
  unfold psj
  rw [if_neg (by omega), if_neg (by omega), if_neg (by omega)]
theorem psj_s {law : LawT} {q : Nat → Nat} {j : Nat} (hj : j < 6) : psj law q (j + 1) = setq (setq (setq (psj law q j) (62 + j) (q (62 + j) - lss law q j)) (74 + j) (q (74 + j) - 1)) (68 + j) (if q (74 + j) = 1 then 0 else q (68 + j)) := by
  funext i
  unfold setq
  by_cases h1 : i = 68 + j
  · subst h1
    rw [if_pos rfl]
    unfold psj
    rw [if_neg (by omega), if_pos (by omega), show 68 + j + 6 = 74 + j by omega]
  · rw [if_neg h1]
    by_cases h2 : i = 74 + j
    · subst h2
      rw [if_pos rfl]
      unfold psj
      rw [if_neg (by omega), if_neg (by omega), if_pos (by omega)]
    · rw [if_neg h2]
      by_cases h3 : i = 62 + j
      · subst h3
        rw [if_pos rfl]
        unfold psj
        rw [if_pos (by omega), Nat.add_sub_cancel_left]
      · rw [if_neg h3]
        unfold psj
        by_cases a1 : 62 ≤ i ∧ i < 62 + j
        · rw [if_pos a1, if_pos (by omega)]
        · rw [if_neg a1, if_neg (by omega)]
          by_cases a2 : 68 ≤ i ∧ i < 68 + j
          · rw [if_pos a2, if_pos (by omega)]
          · rw [if_neg a2, if_neg (by omega)]
            by_cases a3 : 74 ≤ i ∧ i < 74 + j
            · rw [if_pos a3, if_pos (by omega)]
            · rw [if_neg a3, if_neg (by omega)]
theorem psj_s0 {law : LawT} {q : Nat → Nat} {j : Nat} (hj : j < 6) (h0 : q (68 + j) = 0) (h1 : q (74 + j) = 0) : psj law q (j + 1) = setq (psj law q j) (62 + j) (q (62 + j) - lss law q j) := by
  rw [psj_s hj, h1, if_neg (by omega), h0]
  funext i
  unfold setq
  by_cases h1' : i = 68 + j
  · subst h1'
    rw [if_pos rfl, if_neg (by omega), psj_u (by omega), h0]
  · rw [if_neg h1']
    by_cases h2 : i = 74 + j
    · subst h2
      rw [if_pos rfl, if_neg (by omega), psj_u (by omega), h1]
    · rw [if_neg h2]
theorem psj_end {law : LawT} {q : Nat → Nat} (hq : wq q) : setq (psj law q (q 0)) 5 (q 5 + 1) = psq law q := by
  have hb := hq.nb
  funext i
  unfold setq
  by_cases h : i = 5
  · subst h; rw [if_pos rfl]; rfl
  · rw [if_neg h]
    unfold psj psq
    rw [if_neg h]
    by_cases a1 : 62 ≤ i ∧ i < 68
    · rw [if_pos a1]
      by_cases b1 : i < 62 + q 0
      · rw [if_pos (by omega)]
      · rw [if_neg (by omega), if_neg (by omega), if_neg (by omega)]
        have := (hq.un (i - 62) (by omega) (by omega)).2.2.1
        rw [show 62 + (i - 62) = i by omega] at this
        omega
    · rw [if_neg a1, if_neg (by omega)]
      by_cases a2 : 68 ≤ i ∧ i < 74
      · rw [if_pos a2]
        by_cases b1 : i < 68 + q 0
        · rw [if_pos (by omega)]
        · rw [if_neg (by omega), if_neg (by omega)]
          have := (hq.un (i - 68) (by omega) (by omega)).2.2.2
          rw [show 68 + (i - 68) = i by omega, show 74 + (i - 68) = i + 6 by omega] at this
          rw [this.2, if_neg (by omega)]
      · rw [if_neg a2, if_neg (by omega)]
        by_cases a3 : 74 ≤ i ∧ i < 80
        · rw [if_pos a3]
          by_cases b1 : i < 74 + q 0
          · rw [if_pos (by omega)]
          · rw [if_neg (by omega)]
            have := (hq.un (i - 74) (by omega) (by omega)).2.2.2.2
            rw [show 74 + (i - 74) = i by omega] at this
            omega
        · rw [if_neg a3, if_neg (by omega)]
theorem clamp_sub : ∀ a, a < 21 → ∀ b, b < 10 → clampI ((nI a - nI b).toInt64) (nI 0) (nI 20) = nI (a - b) := by decide +kernel
/-- what passing a year leaves: all but the row, what is lost, and what telling uses -/
def FrP (o : Nat) (I' I : IT) (L' L : LT) : Prop := (∀ a, a ≠ o → a ≠ o + 2 → a ≠ o + 21 → I' a = I a) ∧ (∀ i, i ≠ 34 → i ≠ 38 → I' o i = I o i) ∧ TsL o L' L
theorem FrP.frm {I' : IT} {L' : LT} (h : FrP o I' I L' L) : FrM o I' I L' L := fun a ha => ⟨h.1 a (by omega) (by omega) (by omega), h.2.2.1 a (by omega) (by omega) (by omega)⟩
theorem lp_pass1 (h12 : Lay12 E S o) {R : Room} {Q : QT} (hR : 7 ≤ R.frames ∧ 440 ≤ R.locals) (hM : MR o I L A) (hA : wfA A) (hk : ∀ I' L', FrP o I' I L' L → I' (o + 2) = I (o + 2) → (∀ b, b < aq A 0 → I' (o + 21) b = nI (lss (lwf A) (aq A) b)) → V E kX12_passIt R Q 0 0 S I' L' 29 [(0, .ref o), (1, .int (nI (aq A 0)))] []) : V E kX12_passIt R Q 0 0 S I L 2 [(0, .ref o), (1, .int (nI 0))] [] := by
  have hq := hA.q
  have hnb := hq.nb
  have hl := hA.law
  have key : ∀ j, j ≤ aq A 0 → ∀ I' L', FrP o I' I L' L → I' (o + 2) = I (o + 2) → (∀ b, b < j → I' (o + 21) b = nI (lss (lwf A) (aq A) b)) → V E kX12_passIt R Q 0 0 S I' L' 2 [(0, .ref o), (1, .int (nI j))] [] := by
    refine loopUp (P := fun j => ∀ I' L', FrP o I' I L' L → I' (o + 2) = I (o + 2) → (∀ b, b < j → I' (o + 21) b = nI (lss (lwf A) (aq A) b)) → V E kX12_passIt R Q 0 0 S I' L' 2 [(0, .ref o), (1, .int (nI j))] []) ?_ ?_
    · intro I' L' hf h2 hb
      have hr := hM.row.cg h2
      refine V_iload_n (pc := 2) dX12_passIt_2 rfl ?_
      refine V_aload_n (pc := 3) dX12_passIt_3 rfl ?_
      refine V_getR (pc := 4) 12 3 dX12_passIt_4 flX12_13 (by decide) h12.o h12.R3 ?_
      refine V_iconst (pc := 7) (v := nI 0) dX12_passIt_7 (by decide) ?_
      refine V_ialoadE (pc := 8) dX12_passIt_8 h12.A3 (by first | decide | omega) (by omega) (hr.n (by omega)) ?_
      refine V_icmp_geN (pc := 9) (tgt := 29) dX12_passIt_9 (by decide) (by omega) (by omega) (fun c9 => ?_) (fun n9 => absurd n9 (by omega))
      exact hk I' L' hf h2 hb
    · intro j hj ih I' L' hf h2 hb
      have hM' : MR o I' L' A := hM.dead ⟨fun a ha => by by_cases e : a = o + 2; (rw [e]; exact h2); exact hf.1 a (by simp at ha; omega) e (by simp at ha; omega), fun i hi => hf.2.1 i (by simp at hi; omega) (by simp at hi; omega), fun a ha => hf.2.2.1 a (by simp at ha; omega) (by simp at ha; omega) (by simp at ha; omega)⟩
      have hr := hM'.row
      refine V_iload_n (pc := 2) dX12_passIt_2 rfl ?_
      refine V_aload_n (pc := 3) dX12_passIt_3 rfl ?_
      refine V_getR (pc := 4) 12 3 dX12_passIt_4 flX12_13 (by decide) h12.o h12.R3 ?_
      refine V_iconst (pc := 7) (v := nI 0) dX12_passIt_7 (by decide) ?_
      refine V_ialoadE (pc := 8) dX12_passIt_8 h12.A3 (by first | decide | omega) (by omega) (hr.n (by omega)) ?_
      refine V_icmp_geN (pc := 9) (tgt := 29) dX12_passIt_9 (by decide) (by omega) (by omega) (fun c9 => absurd c9 (by omega)) (fun n9 => ?_)
      refine V_aload_n (pc := 12) dX12_passIt_12 rfl ?_
      refine V_getR (pc := 13) 12 41 dX12_passIt_13 flX12_110 (by decide) h12.o h12.R41 ?_
      refine V_iload_n (pc := 16) dX12_passIt_16 rfl ?_
      refine V_aload_n (pc := 17) dX12_passIt_17 rfl ?_
      refine V_iload_n (pc := 18) dX12_passIt_18 rfl ?_
      refine V_callV (pc := 19) (ci := 12) (c_X12_losesOf h12 hr hq (hM'.law hq) hl.1 hM'.od (by omega)) dX12_passIt_19 mlX12_225 mkX12_losesOf rfl rfl h12.o ⟨by decide, rfl⟩ ⟨by omega, by show 8 + (_ + 11) + 64 * 6 ≤ _; simp only []; omega⟩ (Nat.le_of_ble_eq_true rfl) ⟨by omega, by omega⟩ (fun r S' I' L' hp => ?_)
      obtain ⟨rfl, rfl, hI, hL⟩ := hp
      refine V_iastore (pc := 22) dX12_passIt_22 h12.A41 (by first | decide | omega) (by omega) ?_
      refine V_iinc1 (pc := 23) (ls' := [(0, _), (1, _)]) dX12_passIt_23 rfl (by decide) rfl ?_
      refine V_goto (pc := 26) (tgt := 2) dX12_passIt_26 (by decide) ?_
      refine ih _ _ ⟨fun a a1 a2 a3 => ?_, fun i a1 a2 => ?_, TsL.tr hL hf.2.2⟩ ?_ ?_
      · rw [up2_row a3]; exact (hI.1 a a1).trans (hf.1 a a1 a2 a3)
      · rw [up2_ne (by omega)]; exact (hI.2 i a1 a2).trans (hf.2.1 i a1 a2)
      · rw [up2_row (by omega)]; exact (hI.1 _ (by omega)).trans h2
      · intro b hb2
        by_cases e : b = j
        · subst e; exact up2_self
        · rw [up2_nej e, hI.1 _ (by omega)]; exact hb b (by omega)
  exact key 0 (by omega) I L ⟨fun _ _ _ _ => rfl, fun _ _ _ => rfl, TsL.rf⟩ rfl (fun b hb => absurd hb (Nat.not_lt_zero b))
theorem lp_pass2 (h12 : Lay12 E S o) {R : Room} {Q : QT} {law : LawT} {q : Nat → Nat} (hR : 7 ≤ R.frames ∧ 440 ≤ R.locals) (hq : wq q) (hr : RowM I (o + 2) q) (hl : ∀ b, b < q 0 → I (o + 21) b = nI (lss law q b)) (hk : ∀ I', (∀ a, a ≠ o + 2 → I' a = I a) → (∀ i, 116 ≤ i → I' (o + 2) i = I (o + 2) i) → RowM I' (o + 2) (psj law q (q 0)) → V E kX12_passIt R Q 0 0 S I' L 161 [(0, .ref o), (1, .int (nI (pse q))), (2, .int (nI (q 0)))] []) : V E kX12_passIt R Q 0 0 S I L 33 [(0, .ref o), (1, .int (nI 0)), (2, .int (nI 0))] [] := by
  have hnb := hq.nb
  have key : ∀ j, j ≤ q 0 → ∀ I', (∀ a, a ≠ o + 2 → I' a = I a) → (∀ i, 116 ≤ i → I' (o + 2) i = I (o + 2) i) → RowM I' (o + 2) (psj law q j) → V E kX12_passIt R Q 0 0 S I' L 33 [(0, .ref o), (1, .int (nI (sm (fun b => if q (74 + b) = 1 then 1 else 0) j))), (2, .int (nI j))] [] := by
    refine loopUp (P := fun j => ∀ I', (∀ a, a ≠ o + 2 → I' a = I a) → (∀ i, 116 ≤ i → I' (o + 2) i = I (o + 2) i) → RowM I' (o + 2) (psj law q j) → V E kX12_passIt R Q 0 0 S I' L 33 [(0, .ref o), (1, .int (nI (sm (fun b => if q (74 + b) = 1 then 1 else 0) j))), (2, .int (nI j))] []) ?_ ?_
    · intro I' ha ht hr'
      have e0 : I' (o + 2) 0 = nI (q 0) := by rw [hr'.n (by omega), psj_u (by omega)]
      refine V_iload_n (pc := 33) dX12_passIt_33 rfl ?_
      refine V_aload_n (pc := 34) dX12_passIt_34 rfl ?_
      refine V_getR (pc := 35) 12 3 dX12_passIt_35 flX12_13 (by decide) h12.o h12.R3 ?_
      refine V_iconst (pc := 38) (v := nI 0) dX12_passIt_38 (by decide) ?_
      refine V_ialoadE (pc := 39) dX12_passIt_39 h12.A3 (by first | decide | omega) (by omega) (e0) ?_
      refine V_icmp_geN (pc := 40) (tgt := 161) dX12_passIt_40 (by decide) (by omega) (by omega) (fun c40 => ?_) (fun n40 => absurd n40 (by omega))
      exact hk I' ha ht hr'
    · intro j hj ih I' ha ht hr'
      have e0 : I' (o + 2) 0 = nI (q 0) := by rw [hr'.n (by omega), psj_u (by omega)]
      have e62 : I' (o + 2) (62 + j) = nI (q (62 + j)) := by rw [hr'.n (by omega), psj_u (by omega)]
      have e68 : I' (o + 2) (68 + j) = pred1 (q (68 + j)) := by rw [hr'.w (by rw [psj_u (i := 0) (by omega)]; omega), psj_u (by omega)]
      have e74 : I' (o + 2) (74 + j) = nI (q (74 + j)) := by rw [hr'.n (by omega), psj_u (by omega)]
      have e21 : I' (o + 21) j = nI (lss law q j) := by rw [ha _ (by omega)]; exact hl j hj
      have hsp := hq.sp j (by omega)
      have hwe := hq.we j (by omega)
      have hns := hq.ns
      have hle := hq.le j (by omega)
      have hwl := hq.wl j (by omega)
      have hls := lss_le law q j
      have hcl := clamp_sub (q (62 + j)) (by omega) (lss law q j) (by omega)
      have hsm := sm_le (f := fun b => if q (74 + b) = 1 then 1 else 0) (c := 1) (n := j) (fun k _ => by split <;> omega)
      have r1 := hr'.st (i := 62 + j) (n := q (62 + j) - lss law q j) (by omega) (enc_n (by omega))
      have r2 := r1.st (i := 74 + j) (n := q (74 + j) - 1) (by omega) (enc_n (by omega))
      rw [sm] at ih
      refine V_iload_n (pc := 33) dX12_passIt_33 rfl ?_
      refine V_aload_n (pc := 34) dX12_passIt_34 rfl ?_
      refine V_getR (pc := 35) 12 3 dX12_passIt_35 flX12_13 (by decide) h12.o h12.R3 ?_
      refine V_iconst (pc := 38) (v := nI 0) dX12_passIt_38 (by decide) ?_
      refine V_ialoadE (pc := 39) dX12_passIt_39 h12.A3 (by first | decide | omega) (by omega) (e0) ?_
      refine V_icmp_geN (pc := 40) (tgt := 161) dX12_passIt_40 (by decide) (by omega) (by omega) (fun c40 => absurd c40 (by omega)) (fun n40 => ?_)
      refine V_aload_n (pc := 43) dX12_passIt_43 rfl ?_
      refine V_getR (pc := 44) 12 3 dX12_passIt_44 flX12_13 (by decide) h12.o h12.R3 ?_
      refine V_bipush (pc := 47) (v := nI 62) dX12_passIt_47 (by decide) ?_
      refine V_iload_n (pc := 49) dX12_passIt_49 rfl ?_
      refine V_iaddN (pc := 50) dX12_passIt_50 ?_
      refine V_aload_n (pc := 51) dX12_passIt_51 rfl ?_
      refine V_getR (pc := 52) 12 3 dX12_passIt_52 flX12_13 (by decide) h12.o h12.R3 ?_
      refine V_bipush (pc := 55) (v := nI 62) dX12_passIt_55 (by decide) ?_
      refine V_iload_n (pc := 57) dX12_passIt_57 rfl ?_
      refine V_iaddN (pc := 58) dX12_passIt_58 ?_
      refine V_ialoadE (pc := 59) dX12_passIt_59 h12.A3 (by first | decide | omega) (by omega) (e62) ?_
      refine V_aload_n (pc := 60) dX12_passIt_60 rfl ?_
      refine V_getR (pc := 61) 12 41 dX12_passIt_61 flX12_110 (by decide) h12.o h12.R41 ?_
      refine V_iload_n (pc := 64) dX12_passIt_64 rfl ?_
      refine V_ialoadE (pc := 65) dX12_passIt_65 h12.A41 (by first | decide | omega) (by omega) (e21) ?_
      refine V_isub (pc := 66) dX12_passIt_66 ?_
      refine V_i2l (pc := 67) dX12_passIt_67 rfl ?_
      refine V_iconst (pc := 68) (v := nI 0) dX12_passIt_68 (by decide) ?_
      refine V_bipush (pc := 69) (v := nI 20) dX12_passIt_69 (by decide) ?_
      refine V_callSd (pc := 71) (c_X12_within) dX12_passIt_71 mlX12_454 mkX12_within rfl rfl ⟨by omega, by show 8 + (_ + 11) + 64 * 0 ≤ _; simp only []; omega⟩ (Nat.le_of_ble_eq_true rfl) ⟨by omega, by omega⟩ ?_
      rw [hcl]
      refine V_iastore (pc := 74) dX12_passIt_74 h12.A3 (by first | decide | omega) (by omega) ?_
      refine V_aload_n (pc := 75) dX12_passIt_75 rfl ?_
      refine V_getR (pc := 76) 12 3 dX12_passIt_76 flX12_13 (by decide) h12.o h12.R3 ?_
      refine V_bipush (pc := 79) (v := nI 68) dX12_passIt_79 (by decide) ?_
      refine V_iload_n (pc := 81) dX12_passIt_81 rfl ?_
      refine V_iaddN (pc := 82) dX12_passIt_82 ?_
      refine V_ialoadE (pc := 83) dX12_passIt_83 h12.A3 (by first | decide | omega) (by omega) (show (_ : Int32) = pred1 (q (68 + j)) by rw [up2_nej (by omega)]; exact e68) ?_
      refine V_iconst (pc := 84) (v := (-1)) dX12_passIt_84 (by decide) ?_
      refine V_icmp_eq (pc := 85) (tgt := 155) dX12_passIt_85 (by decide) (fun c85 => ?_) (fun n85 => ?_)
      · skip
        refine V_iinc1 (pc := 155) (ls' := [(0, _), (1, _), (2, _)]) dX12_passIt_155 rfl (by decide) rfl ?_
        refine V_goto (pc := 158) (tgt := 33) dX12_passIt_158 (by decide) ?_
        first
        | (rw [if_neg (by have := hwl.mp ((pred1_none (by omega)).mp c85); omega)] at ih
           rw [psj_s0 (by omega) ((pred1_none (by omega)).mp c85) (hwl.mp ((pred1_none (by omega)).mp c85))] at ih
           exact ih _ (fun a ha' => by rw [up2_row ha']; exact ha a ha') (fun i hi => by rw [up2_nej (by omega)]; exact ht i hi) r1)
        | omega
        | (exact ih _ (fun a ha' => by rw [up2_row ha', up2_row ha', up2_row ha']; exact ha a ha') (fun i hi => by rw [up2_nej (by omega), up2_nej (by omega), up2_nej (by omega)]; exact ht i hi) r3)
      · skip
        have hw0 : q (68 + j) ≠ 0 := fun z => n85 ((pred1_none (by omega)).mpr z)
        refine V_aload_n (pc := 88) dX12_passIt_88 rfl ?_
        refine V_getR (pc := 89) 12 3 dX12_passIt_89 flX12_13 (by decide) h12.o h12.R3 ?_
        refine V_bipush (pc := 92) (v := nI 74) dX12_passIt_92 (by decide) ?_
        refine V_iload_n (pc := 94) dX12_passIt_94 rfl ?_
        refine V_iaddN (pc := 95) dX12_passIt_95 ?_
        refine V_dup2 (pc := 96) dX12_passIt_96 rfl rfl ?_
        refine V_ialoadE (pc := 97) dX12_passIt_97 h12.A3 (by first | decide | omega) (by omega) (show (_ : Int32) = nI (q (74 + j)) by rw [up2_nej (by omega)]; exact e74) ?_
        refine V_iconst (pc := 98) (v := nI 1) dX12_passIt_98 (by decide) ?_
        refine V_isubN (pc := 99) dX12_passIt_99 (by omega) ?_
        refine V_iastore (pc := 100) dX12_passIt_100 h12.A3 (by first | decide | omega) (by omega) ?_
        refine V_iload_n (pc := 101) dX12_passIt_101 rfl ?_
        refine V_aload_n (pc := 102) dX12_passIt_102 rfl ?_
        refine V_getR (pc := 103) 12 3 dX12_passIt_103 flX12_13 (by decide) h12.o h12.R3 ?_
        refine V_bipush (pc := 106) (v := nI 74) dX12_passIt_106 (by decide) ?_
        refine V_iload_n (pc := 108) dX12_passIt_108 rfl ?_
        refine V_iaddN (pc := 109) dX12_passIt_109 ?_
        refine V_ialoadE (pc := 110) dX12_passIt_110 h12.A3 (by first | decide | omega) (by omega) (show (_ : Int32) = nI (q (74 + j) - 1) from up2_self) ?_
        refine V_if_neN (pc := 111) (tgt := 118) dX12_passIt_111 (by decide) (by omega) (fun c111 => ?_) (fun n111 => ?_)
        · skip
          have h1 : ¬ q (74 + j) = 1 := by omega
          rw [if_neg h1, psj_s (by omega), if_neg h1] at ih
          have r3 := r2.st (i := 68 + j) (n := q (68 + j)) (by omega) (enc_w (by omega))
          refine V_iconst (pc := 118) (v := nI 0) dX12_passIt_118 (by decide) ?_
          refine V_iaddN (pc := 119) dX12_passIt_119 ?_
          refine V_istore_n (pc := 120) (ls' := [(0, _), (1, _), (2, _)]) dX12_passIt_120 (by decide) rfl ?_
          refine V_aload_n (pc := 121) dX12_passIt_121 rfl ?_
          refine V_getR (pc := 122) 12 3 dX12_passIt_122 flX12_13 (by decide) h12.o h12.R3 ?_
          refine V_bipush (pc := 125) (v := nI 68) dX12_passIt_125 (by decide) ?_
          refine V_iload_n (pc := 127) dX12_passIt_127 rfl ?_
          refine V_iaddN (pc := 128) dX12_passIt_128 ?_
          refine V_aload_n (pc := 129) dX12_passIt_129 rfl ?_
          refine V_getR (pc := 130) 12 3 dX12_passIt_130 flX12_13 (by decide) h12.o h12.R3 ?_
          refine V_bipush (pc := 133) (v := nI 74) dX12_passIt_133 (by decide) ?_
          refine V_iload_n (pc := 135) dX12_passIt_135 rfl ?_
          refine V_iaddN (pc := 136) dX12_passIt_136 ?_
          refine V_ialoadE (pc := 137) dX12_passIt_137 h12.A3 (by first | decide | omega) (by omega) (show (_ : Int32) = nI (q (74 + j) - 1) from up2_self) ?_
          refine V_if_neN (pc := 138) (tgt := 145) dX12_passIt_138 (by decide) (by omega) (fun c138 => ?_) (fun n138 => ?_)
          · skip
            refine V_aload_n (pc := 145) dX12_passIt_145 rfl ?_
            refine V_getR (pc := 146) 12 3 dX12_passIt_146 flX12_13 (by decide) h12.o h12.R3 ?_
            refine V_bipush (pc := 149) (v := nI 68) dX12_passIt_149 (by decide) ?_
            refine V_iload_n (pc := 151) dX12_passIt_151 rfl ?_
            refine V_iaddN (pc := 152) dX12_passIt_152 ?_
            refine V_ialoadE (pc := 153) dX12_passIt_153 h12.A3 (by first | decide | omega) (by omega) (show (_ : Int32) = pred1 (q (68 + j)) by rw [up2_nej (by omega), up2_nej (by omega)]; exact e68) ?_
            refine V_iastore (pc := 154) dX12_passIt_154 h12.A3 (by first | decide | omega) (by omega) ?_
            refine V_iinc1 (pc := 155) (ls' := [(0, _), (1, _), (2, _)]) dX12_passIt_155 rfl (by decide) rfl ?_
            refine V_goto (pc := 158) (tgt := 33) dX12_passIt_158 (by decide) ?_
            first
            | (rw [if_neg (by have := hwl.mp ((pred1_none (by omega)).mp c85); omega)] at ih
               rw [psj_s0 (by omega) ((pred1_none (by omega)).mp c85) (hwl.mp ((pred1_none (by omega)).mp c85))] at ih
               exact ih _ (fun a ha' => by rw [up2_row ha']; exact ha a ha') (fun i hi => by rw [up2_nej (by omega)]; exact ht i hi) r1)
            | omega
            | (exact ih _ (fun a ha' => by rw [up2_row ha', up2_row ha', up2_row ha']; exact ha a ha') (fun i hi => by rw [up2_nej (by omega), up2_nej (by omega), up2_nej (by omega)]; exact ht i hi) r3)
          · skip
            refine V_iconst (pc := 141) (v := (-1)) dX12_passIt_141 (by decide) ?_
            refine V_goto (pc := 142) (tgt := 154) dX12_passIt_142 (by decide) ?_
            refine V_iastore (pc := 154) dX12_passIt_154 h12.A3 (by first | decide | omega) (by omega) ?_
            refine V_iinc1 (pc := 155) (ls' := [(0, _), (1, _), (2, _)]) dX12_passIt_155 rfl (by decide) rfl ?_
            refine V_goto (pc := 158) (tgt := 33) dX12_passIt_158 (by decide) ?_
            first
            | (rw [if_neg (by have := hwl.mp ((pred1_none (by omega)).mp c85); omega)] at ih
               rw [psj_s0 (by omega) ((pred1_none (by omega)).mp c85) (hwl.mp ((pred1_none (by omega)).mp c85))] at ih
               exact ih _ (fun a ha' => by rw [up2_row ha']; exact ha a ha') (fun i hi => by rw [up2_nej (by omega)]; exact ht i hi) r1)
            | omega
            | (exact ih _ (fun a ha' => by rw [up2_row ha', up2_row ha', up2_row ha']; exact ha a ha') (fun i hi => by rw [up2_nej (by omega), up2_nej (by omega), up2_nej (by omega)]; exact ht i hi) r3)
        · skip
          have h1 : q (74 + j) = 1 := by omega
          rw [if_pos h1, psj_s (by omega), if_pos h1] at ih
          have r3 := r2.st (i := 68 + j) (n := 0) (by omega) (enc_w (by omega))
          rw [pred1_0] at r3
          refine V_iconst (pc := 114) (v := nI 1) dX12_passIt_114 (by decide) ?_
          refine V_goto (pc := 115) (tgt := 119) dX12_passIt_115 (by decide) ?_
          refine V_iaddN (pc := 119) dX12_passIt_119 ?_
          refine V_istore_n (pc := 120) (ls' := [(0, _), (1, _), (2, _)]) dX12_passIt_120 (by decide) rfl ?_
          refine V_aload_n (pc := 121) dX12_passIt_121 rfl ?_
          refine V_getR (pc := 122) 12 3 dX12_passIt_122 flX12_13 (by decide) h12.o h12.R3 ?_
          refine V_bipush (pc := 125) (v := nI 68) dX12_passIt_125 (by decide) ?_
          refine V_iload_n (pc := 127) dX12_passIt_127 rfl ?_
          refine V_iaddN (pc := 128) dX12_passIt_128 ?_
          refine V_aload_n (pc := 129) dX12_passIt_129 rfl ?_
          refine V_getR (pc := 130) 12 3 dX12_passIt_130 flX12_13 (by decide) h12.o h12.R3 ?_
          refine V_bipush (pc := 133) (v := nI 74) dX12_passIt_133 (by decide) ?_
          refine V_iload_n (pc := 135) dX12_passIt_135 rfl ?_
          refine V_iaddN (pc := 136) dX12_passIt_136 ?_
          refine V_ialoadE (pc := 137) dX12_passIt_137 h12.A3 (by first | decide | omega) (by omega) (show (_ : Int32) = nI (q (74 + j) - 1) from up2_self) ?_
          refine V_if_neN (pc := 138) (tgt := 145) dX12_passIt_138 (by decide) (by omega) (fun c138 => ?_) (fun n138 => ?_)
          · skip
            refine V_aload_n (pc := 145) dX12_passIt_145 rfl ?_
            refine V_getR (pc := 146) 12 3 dX12_passIt_146 flX12_13 (by decide) h12.o h12.R3 ?_
            refine V_bipush (pc := 149) (v := nI 68) dX12_passIt_149 (by decide) ?_
            refine V_iload_n (pc := 151) dX12_passIt_151 rfl ?_
            refine V_iaddN (pc := 152) dX12_passIt_152 ?_
            refine V_ialoadE (pc := 153) dX12_passIt_153 h12.A3 (by first | decide | omega) (by omega) (show (_ : Int32) = pred1 (q (68 + j)) by rw [up2_nej (by omega), up2_nej (by omega)]; exact e68) ?_
            refine V_iastore (pc := 154) dX12_passIt_154 h12.A3 (by first | decide | omega) (by omega) ?_
            refine V_iinc1 (pc := 155) (ls' := [(0, _), (1, _), (2, _)]) dX12_passIt_155 rfl (by decide) rfl ?_
            refine V_goto (pc := 158) (tgt := 33) dX12_passIt_158 (by decide) ?_
            first
            | (rw [if_neg (by have := hwl.mp ((pred1_none (by omega)).mp c85); omega)] at ih
               rw [psj_s0 (by omega) ((pred1_none (by omega)).mp c85) (hwl.mp ((pred1_none (by omega)).mp c85))] at ih
               exact ih _ (fun a ha' => by rw [up2_row ha']; exact ha a ha') (fun i hi => by rw [up2_nej (by omega)]; exact ht i hi) r1)
            | omega
            | (exact ih _ (fun a ha' => by rw [up2_row ha', up2_row ha', up2_row ha']; exact ha a ha') (fun i hi => by rw [up2_nej (by omega), up2_nej (by omega), up2_nej (by omega)]; exact ht i hi) r3)
          · skip
            refine V_iconst (pc := 141) (v := (-1)) dX12_passIt_141 (by decide) ?_
            refine V_goto (pc := 142) (tgt := 154) dX12_passIt_142 (by decide) ?_
            refine V_iastore (pc := 154) dX12_passIt_154 h12.A3 (by first | decide | omega) (by omega) ?_
            refine V_iinc1 (pc := 155) (ls' := [(0, _), (1, _), (2, _)]) dX12_passIt_155 rfl (by decide) rfl ?_
            refine V_goto (pc := 158) (tgt := 33) dX12_passIt_158 (by decide) ?_
            first
            | (rw [if_neg (by have := hwl.mp ((pred1_none (by omega)).mp c85); omega)] at ih
               rw [psj_s0 (by omega) ((pred1_none (by omega)).mp c85) (hwl.mp ((pred1_none (by omega)).mp c85))] at ih
               exact ih _ (fun a ha' => by rw [up2_row ha']; exact ha a ha') (fun i hi => by rw [up2_nej (by omega)]; exact ht i hi) r1)
            | omega
            | (exact ih _ (fun a ha' => by rw [up2_row ha', up2_row ha', up2_row ha']; exact ha a ha') (fun i hi => by rw [up2_nej (by omega), up2_nej (by omega), up2_nej (by omega)]; exact ht i hi) r3)
  exact key 0 (by omega) I (fun _ _ => rfl) (fun _ _ => rfl) (by rw [psj_0]; exact hr)
theorem c_X12_passIt (h12 : Lay12 E S o) (hM : MR o I L A) (hA : wfA A) : C E kX12_passIt 7 0 0 [.ref o] S I L (fun r S' I' L' => r = some (.int (nI (pse (aq A)))) ∧ S = S' ∧ MR o I' L' (sq A (psq (lwf A) (aq A))) ∧ FrP o I' I L' L) := by
  have hq := hA.q
  have hnb := hq.nb
  have hye := hq.ye
  refine C_of (by decide) (Nat.le_of_ble_eq_true rfl) ?_
  refine V_iconst (pc := 0) (v := nI 0) dX12_passIt_0 (by decide) ?_
  refine V_istore_n (pc := 1) (ls' := [(0, _), (1, _)]) dX12_passIt_1 (by decide) rfl ?_
  refine lp_pass1 h12 ⟨by decide, by decide⟩ hM hA (fun I1 L1 hf h2 hb => ?_)
  refine V_iconst (pc := 29) (v := nI 0) dX12_passIt_29 (by decide) ?_
  refine V_istore_n (pc := 30) (ls' := [(0, _), (1, _)]) dX12_passIt_30 (by decide) rfl ?_
  refine V_iconst (pc := 31) (v := nI 0) dX12_passIt_31 (by decide) ?_
  refine V_istore_n (pc := 32) (ls' := [(0, _), (1, _), (2, _)]) dX12_passIt_32 (by decide) rfl ?_
  refine lp_pass2 (law := lwf A) h12 ⟨by decide, by decide⟩ hq (hM.row.cg h2) hb (fun I2 ha ht hr2 => ?_)
  have e5 : I2 (o + 2) 5 = nI (aq A 5) := by rw [hr2.n (by omega), psj_u (by omega)]
  have r3 := hr2.st (i := 5) (n := aq A 5 + 1) (by omega) (enc_n (by omega))
  rw [psj_end hq] at r3
  refine V_aload_n (pc := 161) dX12_passIt_161 rfl ?_
  refine V_getR (pc := 162) 12 3 dX12_passIt_162 flX12_13 (by decide) h12.o h12.R3 ?_
  refine V_iconst (pc := 165) (v := nI 5) dX12_passIt_165 (by decide) ?_
  refine V_dup2 (pc := 166) dX12_passIt_166 rfl rfl ?_
  refine V_ialoadE (pc := 167) dX12_passIt_167 h12.A3 (by first | decide | omega) (by omega) (e5) ?_
  refine V_iconst (pc := 168) (v := nI 1) dX12_passIt_168 (by decide) ?_
  refine V_iaddN (pc := 169) dX12_passIt_169 ?_
  refine V_iastore (pc := 170) dX12_passIt_170 h12.A3 (by first | decide | omega) (by omega) ?_
  refine V_iload_n (pc := 171) dX12_passIt_171 rfl ?_
  refine V_iret (pc := 172) dX12_passIt_172 rfl (by first | decide | omega) (by first | decide | omega) ?_
  refine ⟨rfl, rfl, ?_, ⟨fun a a1 a2 a3 => ?_, fun i a1 a2 => ?_, hf.2.2⟩⟩
  · refine (hM.dead (I' := up2 (upr I1 (o + 2) (I (o + 2))) (o + 21) 0 (I1 (o + 21) 0)) (L' := L1) ⟨fun a ha => ?_, fun i hi => ?_, fun a ha => hf.2.2.1 a (by simp at ha; omega) (by simp at ha; omega) (by simp at ha; omega)⟩).srow (fun a hz => ?_) (fun i hi => ?_) r3 (psq_o (by omega)) (Or.inl (psq_o (by omega)))
    · rw [up2_row (by simp at ha; omega)]
      by_cases e : a = o + 2
      · subst e; rw [upr_self]
      · rw [upr_row e]; exact hf.1 a (by simp at ha; omega) e (by simp at ha; omega)
    · rw [up2_ne (by omega), upr_row (by omega)]; exact hf.2.1 i (by simp at hi; omega) (by simp at hi; omega)
    · rw [up2_row hz, ha a hz]
      by_cases e : a = o + 21
      · subst e; funext i; by_cases z : i = 0; (subst z; rw [up2_self]); rw [up2_nej z, upr_row (by omega)]
      · rw [up2_row e, upr_row hz]
    · rw [up2_nej (by omega), ht i hi, h2, up2_ne (by omega), upr_self]
  · rw [up2_row a2, ha a a2]; exact hf.1 a a1 a2 a3
  · rw [up2_ne (by omega), ha o (by omega)]; exact hf.2.1 i a1 a2
def dPass (A : AT) : Nat × Nat × AT := if aq A 5 = 999 then (3, 0, A) else (0, aq A 5 + 1, sq (rem1 A 3) (psq (lwf A) (aq A)))
theorem wq.mixi {q h : Nat → Nat} {i v : Nat} (hi : 5 ≤ i ∧ i < 80) : mix (setq q i v) h = mix q h := by
  funext j
  unfold mix setq
  by_cases c : 5 ≤ j ∧ j < 80
  · rw [if_pos c, if_pos c]
  · rw [if_neg c, if_neg c, if_neg (by omega)]
theorem mix_self (q : Nat → Nat) : mix q q = q := by
  funext j
  unfold mix
  split <;> rfl
/-- what was there can be undone to, by the ranges -/
theorem wfA.rem {A : AT} (h : wfA A) {s : Nat} (hs : s < 4) : wfA (rem1 A s) := by
  obtain ⟨h1, h2, h3, h4, h5⟩ := h
  refine ⟨h1, h2, ?_, fun k hk => ?_, h5⟩
  · show (pshu (aun A) (aq A) s).1 ≤ 16
    unfold pshu
    split
    · exact Nat.le_refl 16
    · show (aun A).1 + 1 ≤ 16; omega
  · have hk' : k < (pshu (aun A) (aq A) s).1 := hk
    show wq (mix (aq A) ((pshu (aun A) (aq A) s).2.1 k)) ∧ (pshu (aun A) (aq A) s).2.2 k < 4
    unfold pshu at hk' ⊢
    split
    · rename_i e
      rw [if_pos e] at hk'
      show wq (mix (aq A) (if k = 15 then aq A else (aun A).2.1 (k + 1))) ∧ (if k = 15 then s else (aun A).2.2 (k + 1)) < 4
      by_cases z : k = 15
      · rw [if_pos z, if_pos z, mix_self]; exact ⟨h1, hs⟩
      · rw [if_neg z, if_neg z]; exact h4 (k + 1) (by have : k < 16 := hk'; omega)
    · rename_i e
      rw [if_neg e] at hk'
      show wq (mix (aq A) (if k = (aun A).1 then aq A else (aun A).2.1 k)) ∧ (if k = (aun A).1 then s else (aun A).2.2 k) < 4
      by_cases z : k = (aun A).1
      · rw [if_pos z, if_pos z, mix_self]; exact ⟨h1, hs⟩
      · rw [if_neg z, if_neg z]; exact h4 k (by have : k < (aun A).1 + 1 := hk'; omega)
theorem c_X12_passNow (h12 : Lay12 E S o) (hM : MR o I L A) (hA : wfA A) : Cmd E kX12_passNow 8 [.ref o] S I L o (.int (dv (dPass A))) (dPass A).2.2 := by
  have hq := hA.q
  have hye := hq.ye
  have hF : FrD o I I L L := FrD.rf
  have hr := hM.row
  refine C_of (by decide) (Nat.le_of_ble_eq_true rfl) ?_
  refine V_aload_n (pc := 0) dX12_passNow_0 rfl ?_
  refine V_getR (pc := 1) 12 3 dX12_passNow_1 flX12_13 (by decide) h12.o h12.R3 ?_
  refine V_iconst (pc := 4) (v := nI 5) dX12_passNow_4 (by decide) ?_
  refine V_ialoadE (pc := 5) dX12_passNow_5 h12.A3 (by first | decide | omega) (by omega) (hr.n (by omega)) ?_
  refine V_sipush (pc := 6) (v := nI 999) dX12_passNow_6 (by decide) ?_
  refine V_icmp_neN (pc := 9) (tgt := 15) dX12_passNow_9 (by decide) (by omega) (by omega) (fun c9 => ?_) (fun n9 => ?_)
  · skip
    rw [dPass, if_neg c9]
    refine V_aload_n (pc := 15) dX12_passNow_15 rfl ?_
    refine V_iconst (pc := 16) (v := nI 3) dX12_passNow_16 (by decide) ?_
    refine V_callV (pc := 17) (ci := 12) (c_X12_remember h12 hM hA.2.2.1) dX12_passNow_17 mlX12_465 mkX12_remember rfl rfl h12.o ⟨by decide, rfl⟩ ⟨Nat.le_of_ble_eq_true rfl, Nat.le_of_ble_eq_true rfl⟩ (Nat.le_of_ble_eq_true rfl) ⟨Nat.le_of_ble_eq_true rfl, Nat.le_of_ble_eq_true rfl⟩ (fun r S' I' L' hp => ?_)
    obtain ⟨rfl, rfl, hM2, hF2⟩ := hp
    refine V_aload_n (pc := 20) dX12_passNow_20 rfl ?_
    refine V_callV (pc := 21) (ci := 12) (c_X12_passIt h12 hM2 (hA.rem (by omega))) dX12_passNow_21 mlX12_478 mkX12_passIt rfl rfl h12.o ⟨by decide, rfl⟩ ⟨Nat.le_of_ble_eq_true rfl, Nat.le_of_ble_eq_true rfl⟩ (Nat.le_of_ble_eq_true rfl) ⟨Nat.le_of_ble_eq_true rfl, Nat.le_of_ble_eq_true rfl⟩ (fun r S' I' L' hp => ?_)
    obtain ⟨rfl, rfl, hM3, hF3⟩ := hp
    have hr3 : RowM I' (o + 2) (psq (lwf A) (aq A)) := hM3.row
    refine V_pop (pc := 24) dX12_passNow_24 rfl ?_
    refine V_aload_n (pc := 25) dX12_passNow_25 rfl ?_
    refine V_getR (pc := 26) 12 3 dX12_passNow_26 flX12_13 (by decide) h12.o h12.R3 ?_
    refine V_iconst (pc := 29) (v := nI 5) dX12_passNow_29 (by decide) ?_
    refine V_ialoadE (pc := 30) dX12_passNow_30 h12.A3 (by first | decide | omega) (by omega) (show _ = nI (aq A 5 + 1) by rw [hr3.n (by omega)]; rfl) ?_
    refine V_iret (pc := 31) dX12_passNow_31 rfl (by first | decide | omega) (by first | decide | omega) ?_
    exact ⟨rfl, rfl, hM3, FrD.tr ⟨hF3.frm, fun a ha => hF3.1 a (by omega) (by omega) (by omega), fun i hi => hF3.2.1 i (by omega) (by omega), fun i _ => by rw [hF3.1 (o + 5) (by omega) (by omega) (by omega)]⟩ hF2⟩
  · skip
    refine V_bipush (pc := 12) (v := (-3)) dX12_passNow_12 (by decide) ?_
    refine V_iret (pc := 14) dX12_passNow_14 rfl (by first | decide | omega) (by first | decide | omega) ?_
    rw [dPass, if_pos n9]
    exact ⟨rfl, rfl, hM, hF⟩
def spPass (A : AT) : Int32 × AT := tll (dPass A)
theorem dPass_ok {A : AT} (hA : wfA A) : (dPass A).1 < 7 ∧ (dPass A).2.1 < 2 ^ 31 := by
  have := hA.q.ye
  unfold dPass
  split
  · exact ⟨by show 3 < 7; omega, by show 0 < 2 ^ 31; omega⟩
  · exact ⟨by show 0 < 7; omega, by show aq A 5 + 1 < 2 ^ 31; omega⟩
theorem c_X12_pass (h12 : Lay12 E S o) (hM : MR o I L A) (hA : wfA A) : Cm E kX12_pass 9 [.ref o] S I L o (.int (spPass A).1) (spPass A).2 := by
  refine C_of (by decide) (Nat.le_of_ble_eq_true rfl) ?_
  refine V_aload_n (pc := 0) dX12_pass_0 rfl ?_
  refine V_iconst (pc := 1) (v := nI 0) dX12_pass_1 (by decide) ?_
  refine V_putI (pc := 2) 12 0 dX12_pass_2 flX12_175 (by decide) (by decide) (Or.inl rfl) rfl rfl h12.o ?_
  have hM := hM.thrown (v := nI 0)
  have hF : FrM o (up2 I o 0 (nI 0)) I L L := FrM.rf.up (by omega)
  generalize up2 I o 0 (nI 0) = I0 at hM hF ⊢
  have hr := hM.row
  refine V_aload_n (pc := 5) dX12_pass_5 rfl ?_
  refine V_aload_n (pc := 6) dX12_pass_6 rfl ?_
  refine V_callV (pc := 7) (ci := 12) (c_X12_passNow h12 hM hA) dX12_pass_7 mlX12_481 mkX12_passNow rfl rfl h12.o ⟨by decide, rfl⟩ ⟨Nat.le_of_ble_eq_true rfl, Nat.le_of_ble_eq_true rfl⟩ (Nat.le_of_ble_eq_true rfl) ⟨Nat.le_of_ble_eq_true rfl, Nat.le_of_ble_eq_true rfl⟩ (fun r S' I' L' hp => ?_)
  obtain ⟨rfl, rfl, hM2, hF2⟩ := hp
  refine V_callVd (pc := 10) (ci := 12) (c_X12_telld h12 (dPass_ok hA).1 (dPass_ok hA).2) dX12_pass_10 mlX12_184 mkX12_tell rfl rfl h12.o ⟨by decide, rfl⟩ ⟨Nat.le_of_ble_eq_true rfl, Nat.le_of_ble_eq_true rfl⟩ (Nat.le_of_ble_eq_true rfl) ⟨Nat.le_of_ble_eq_true rfl, Nat.le_of_ble_eq_true rfl⟩ ?_
  refine V_iret (pc := 13) dX12_pass_13 rfl (by first | decide | omega) (by first | decide | omega) ?_
  exact ⟨rfl, rfl, hM2.htl, (FrM.tr hF2.1 hF).htl⟩
end MI5
