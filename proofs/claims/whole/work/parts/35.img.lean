/-! THE REFERENCE: images, rows -/
def sql (A : AT) (q : Nat → Nat) (lw : Nat → LawT) : AT := (q, lw, A.2.2)
theorem MR.im {o : Nat} {I I' : IT} {L : LT} {A : AT} {m : IMT} (h : MR o I L A) (hI : ∀ a, a ≠ o + 3 → a ≠ o + 4 → I' a = I a) (ht : ImgM I' o (sim A m)) : MR o I' L (sim A m) := by
  obtain ⟨h1, h2, h3, h4, h5, h6, h7, h8, h9⟩ := h
  refine ⟨h1.cg (hI _ (by omega) (by omega)), ?_, ?_, ht, ?_, ?_, ?_, by rw [hI o (by omega) (by omega)]; exact h8, h9⟩
  · unfold LwsM at h2 ⊢; rw [hI (o + 2) (by omega) (by omega)]; exact h2
  · unfold UndM at h3 ⊢; rw [hI (o + 5) (by omega) (by omega), hI (o + 6) (by omega) (by omega), hI o (by omega) (by omega)]; exact h3
  · unfold TapM at h5 ⊢; rw [hI (o + 9) (by omega) (by omega), hI o (by omega) (by omega)]; exact h5
  · unfold XM at h6 ⊢; rw [hI (o + 1) (by omega) (by omega), hI o (by omega) (by omega)]; exact h6
  · unfold DrM at h7 ⊢; rw [hI (o + 35) (by omega) (by omega), hI o (by omega) (by omega)]; exact h7
theorem MR.sbk {o : Nat} {I I' : IT} {L : LT} {A : AT} {q' : Nat → Nat} {lw : Nat → LawT} (h : MR o I L A) (h0 : (aun A).1 = 0) (hI : ∀ a, a ≠ o + 2 → I' a = I a) (hr : RowM I' (o + 2) q') (hl : ∀ l, l < q' 3 → LawM (I' (o + 2)) (116 + 900 * l) (lw l)) : MR o I' L (sql A q' lw) := by
  obtain ⟨h1, h2, h3', h4, h5, h6, h7, h8, h9⟩ := h
  refine ⟨hr, hl, ?_, ?_, ?_, ?_, ?_, (congrFun (hI o (by omega)) 20).trans h8, h9⟩
  · refine ⟨(congrFun (hI o (by omega)) 8).trans h3'.1, fun k hk => ?_⟩
    exact absurd hk (by rw [show (aun (sql A q' lw)).1 = 0 from h0]; omega)
  · unfold ImgM at h4 ⊢; rw [hI (o + 3) (by omega), hI (o + 4) (by omega)]; exact h4
  · unfold TapM at h5 ⊢; rw [hI (o + 9) (by omega), hI o (by omega)]; exact h5
  · unfold XM at h6 ⊢; rw [hI (o + 1) (by omega), hI o (by omega)]; exact h6
  · unfold DrM at h7 ⊢; rw [hI (o + 35) (by omega), hI o (by omega)]; exact h7
def spImage (A : AT) (x : Int32) : Int32 × AT := if bnd x 2 = true then (nI 0, ok0 (sim A (fun k => if k = cln x then (true, aq A, alw A) else aim A k))) else (-(nI 1), rfs A 1)
def spBack (A : AT) (x : Int32) : Int32 × AT := if bnd x 2 = true then (if (aim A (cln x)).1 = true then (nI 0, ok0 (sql (un0 A) (aim A (cln x)).2.1 (aim A (cln x)).2.2)) else (-(nI 2), rfs A 2)) else (-(nI 1), rfs A 1)
section MI6
variable {E : EnT} {S : ST} {I : IT} {L : LT} {o : Nat} {A : AT}
theorem lp_img (h12 : Lay12 E S o) {R : Room} {Q : QT} {cl sl k : Nat} (hk2 : k < 2) (hk : V E kX12_image R Q cl sl S (upr I (o + 3) (cpy (I (o + 2)) (I (o + 3)) 0 (5516 * k) 5516)) L 54 [(0, .ref o), (1, .int (nI k)), (2, .int (nI 5516))] []) : V E kX12_image R Q cl sl S I L 23 [(0, .ref o), (1, .int (nI k)), (2, .int (nI 0))] [] := by
  have e0 : I = upr I (o + 3) (cpy (I (o + 2)) (I (o + 3)) 0 (5516 * k) 0) := by rw [cpy_0, upr_same]
  refine (show V E _ _ _ _ _ _ (upr I (o + 3) (cpy (I (o + 2)) (I (o + 3)) 0 (5516 * k) 0)) _ _ _ _ → V _ _ _ _ _ _ _ I _ _ _ _ from fun h => by rw [← e0] at h; exact h) ?_
  refine loopUp (P := fun j => V E kX12_image R Q cl sl S (upr I (o + 3) (cpy (I (o + 2)) (I (o + 3)) 0 (5516 * k) j)) L 23 [(0, .ref o), (1, .int (nI k)), (2, .int (nI j))] []) (n := 5516) ?_ ?_ 0 (by omega)
  · skip
    refine V_iload_n (pc := 23) dX12_image_23 rfl ?_
    refine V_sipush (pc := 24) (v := nI 5516) dX12_image_24 (by decide) ?_
    refine V_icmp_geN (pc := 27) (tgt := 54) dX12_image_27 (by decide) (by omega) (by omega) (fun c27 => ?_) (fun n27 => absurd n27 (by omega))
    exact hk
  · intro j hj ih
    have e := upr_cpy_step (I := I) (a := o + 3) (I (o + 2)) (I (o + 3)) 0 (5516 * k) j
    rw [Nat.zero_add] at e
    refine V_iload_n (pc := 23) dX12_image_23 rfl ?_
    refine V_sipush (pc := 24) (v := nI 5516) dX12_image_24 (by decide) ?_
    refine V_icmp_geN (pc := 27) (tgt := 54) dX12_image_27 (by decide) (by omega) (by omega) (fun c27 => absurd c27 (by omega)) (fun n27 => ?_)
    refine V_aload_n (pc := 30) dX12_image_30 rfl ?_
    refine V_getR (pc := 31) 12 4 dX12_image_31 flX12_16 (by decide) h12.o h12.R4 ?_
    refine V_sipush (pc := 34) (v := nI 5516) dX12_image_34 (by decide) ?_
    refine V_iload_n (pc := 37) dX12_image_37 rfl ?_
    refine V_imulN (pc := 38) dX12_image_38 ?_
    refine V_iload_n (pc := 39) dX12_image_39 rfl ?_
    refine V_iaddN (pc := 40) dX12_image_40 ?_
    refine V_aload_n (pc := 41) dX12_image_41 rfl ?_
    refine V_getR (pc := 42) 12 3 dX12_image_42 flX12_13 (by decide) h12.o h12.R3 ?_
    refine V_iload_n (pc := 45) dX12_image_45 rfl ?_
    refine V_ialoadE (pc := 46) dX12_image_46 h12.A3 (by first | decide | omega) (by omega) (show upr I (o + 3) (cpy (I (o + 2)) (I (o + 3)) 0 (5516 * k) j) (o + 2) j = I (o + 2) j by rw [upr_row (by omega)]) ?_
    refine V_iastore (pc := 47) dX12_image_47 h12.A4 (by first | decide | omega) (by omega) ?_
    refine V_iinc1 (pc := 48) (ls' := [(0, _), (1, _), (2, _)]) dX12_image_48 rfl (by decide) rfl ?_
    refine V_goto (pc := 51) (tgt := 23) dX12_image_51 (by decide) ?_
    rw [e]; exact ih
theorem lp_bck (h12 : Lay12 E S o) {R : Room} {Q : QT} {cl sl k : Nat} (hk2 : k < 2) (hk : V E kX12_back R Q cl sl S (upr I (o + 2) (cpy (I (o + 3)) (I (o + 2)) (5516 * k) 0 5516)) L 70 [(0, .ref o), (1, .int (nI k)), (2, .int (nI 5516))] []) : V E kX12_back R Q cl sl S I L 39 [(0, .ref o), (1, .int (nI k)), (2, .int (nI 0))] [] := by
  have e0 : I = upr I (o + 2) (cpy (I (o + 3)) (I (o + 2)) (5516 * k) 0 0) := by rw [cpy_0, upr_same]
  refine (show V E _ _ _ _ _ _ (upr I (o + 2) (cpy (I (o + 3)) (I (o + 2)) (5516 * k) 0 0)) _ _ _ _ → V _ _ _ _ _ _ _ I _ _ _ _ from fun h => by rw [← e0] at h; exact h) ?_
  refine loopUp (P := fun j => V E kX12_back R Q cl sl S (upr I (o + 2) (cpy (I (o + 3)) (I (o + 2)) (5516 * k) 0 j)) L 39 [(0, .ref o), (1, .int (nI k)), (2, .int (nI j))] []) (n := 5516) ?_ ?_ 0 (by omega)
  · skip
    refine V_iload_n (pc := 39) dX12_back_39 rfl ?_
    refine V_sipush (pc := 40) (v := nI 5516) dX12_back_40 (by decide) ?_
    refine V_icmp_geN (pc := 43) (tgt := 70) dX12_back_43 (by decide) (by omega) (by omega) (fun c43 => ?_) (fun n43 => absurd n43 (by omega))
    exact hk
  · intro j hj ih
    have e := upr_cpy_step (I := I) (a := o + 2) (I (o + 3)) (I (o + 2)) (5516 * k) 0 j
    rw [Nat.zero_add] at e
    refine V_iload_n (pc := 39) dX12_back_39 rfl ?_
    refine V_sipush (pc := 40) (v := nI 5516) dX12_back_40 (by decide) ?_
    refine V_icmp_geN (pc := 43) (tgt := 70) dX12_back_43 (by decide) (by omega) (by omega) (fun c43 => absurd c43 (by omega)) (fun n43 => ?_)
    refine V_aload_n (pc := 46) dX12_back_46 rfl ?_
    refine V_getR (pc := 47) 12 3 dX12_back_47 flX12_13 (by decide) h12.o h12.R3 ?_
    refine V_iload_n (pc := 50) dX12_back_50 rfl ?_
    refine V_aload_n (pc := 51) dX12_back_51 rfl ?_
    refine V_getR (pc := 52) 12 4 dX12_back_52 flX12_16 (by decide) h12.o h12.R4 ?_
    refine V_sipush (pc := 55) (v := nI 5516) dX12_back_55 (by decide) ?_
    refine V_iload_n (pc := 58) dX12_back_58 rfl ?_
    refine V_imulN (pc := 59) dX12_back_59 ?_
    refine V_iload_n (pc := 60) dX12_back_60 rfl ?_
    refine V_iaddN (pc := 61) dX12_back_61 ?_
    refine V_ialoadE (pc := 62) dX12_back_62 h12.A4 (by first | decide | omega) (by omega) (show upr I (o + 2) (cpy (I (o + 3)) (I (o + 2)) (5516 * k) 0 j) (o + 3) (5516 * k + j) = I (o + 3) (5516 * k + j) by rw [upr_row (by omega)]) ?_
    refine V_iastore (pc := 63) dX12_back_63 h12.A3 (by first | decide | omega) (by omega) ?_
    refine V_iinc1 (pc := 64) (ls' := [(0, _), (1, _), (2, _)]) dX12_back_64 rfl (by decide) rfl ?_
    refine V_goto (pc := 67) (tgt := 39) dX12_back_67 (by decide) ?_
    rw [e]; exact ih
theorem c_X12_image (h12 : Lay12 E S o) (hM : MR o I L A) (hA : wfA A) {x : Int32} : Cm E kX12_image 1 [.ref o, .int x] S I L o (.int (spImage A x).1) (spImage A x).2 := by
  have hq := hA.q
  have hnl := hq.nl
  have e1 : decide (lN 0 ≤ x.toInt64 ∧ x.toInt64 ≤ lN 1) = bnd x 2 := bnd64' (n := 1) (by omega)
  refine C_of (by decide) (Nat.le_of_ble_eq_true rfl) ?_
  refine V_aload_n (pc := 0) dX12_image_0 rfl ?_
  refine V_iconst (pc := 1) (v := nI 0) dX12_image_1 (by decide) ?_
  refine V_putI (pc := 2) 12 0 dX12_image_2 flX12_175 (by decide) (by decide) (Or.inl rfl) rfl rfl h12.o ?_
  have hM := hM.thrown (v := nI 0)
  have hF : FrM o (up2 I o 0 (nI 0)) I L L := FrM.rf.up (by omega)
  generalize up2 I o 0 (nI 0) = I0 at hM hF ⊢
  have hr := hM.row
  refine V_iload_n (pc := 5) dX12_image_5 rfl ?_
  refine V_i2l (pc := 6) dX12_image_6 rfl ?_
  refine V_lconst (pc := 7) (v := lN 0) dX12_image_7 (by decide) ?_
  refine V_lconst (pc := 8) (v := lN 1) dX12_image_8 (by decide) ?_
  refine V_callSd (pc := 9) (c_X12_in) dX12_image_9 mlX12_195 mkX12_in rfl rfl ⟨Nat.le_of_ble_eq_true rfl, Nat.le_of_ble_eq_true rfl⟩ (Nat.le_of_ble_eq_true rfl) ⟨Nat.le_of_ble_eq_true rfl, Nat.le_of_ble_eq_true rfl⟩ ?_
  refine V_if_neB (pc := 12) (tgt := 21) dX12_image_12 (by decide) (fun c12 => ?_) (fun n12 => ?_)
  · skip
    rw [e1] at c12
    obtain ⟨k, hk, hx⟩ := bnd_ex (by omega) c12
    rw [spImage, if_pos c12]
    subst hx
    rw [cln_nI (by omega)]
    refine V_iconst (pc := 21) (v := nI 0) dX12_image_21 (by decide) ?_
    refine V_istore_n (pc := 22) (ls' := [(0, _), (1, _), (2, _)]) dX12_image_22 (by decide) rfl ?_
    refine lp_img h12 hk ?_
    refine V_aload_n (pc := 54) dX12_image_54 rfl ?_
    refine V_getR (pc := 55) 12 5 dX12_image_55 flX12_19 (by decide) h12.o h12.R5 ?_
    refine V_iload_n (pc := 58) dX12_image_58 rfl ?_
    refine V_iconst (pc := 59) (v := nI 1) dX12_image_59 (by decide) ?_
    refine V_bastore (pc := 60) dX12_image_60 h12.A5 (by first | decide | omega) (by omega) rfl ?_
    refine V_aload_n (pc := 61) dX12_image_61 rfl ?_
    refine V_iconst (pc := 62) (v := nI 0) dX12_image_62 (by decide) ?_
    refine V_callVd (pc := 63) (ci := 12) (c_X12_tell (by first | assumption | omega | exact h12) (by first | assumption | omega | exact h12)) dX12_image_63 mlX12_184 mkX12_tell rfl rfl h12.o ⟨by decide, rfl⟩ ⟨Nat.le_of_ble_eq_true rfl, Nat.le_of_ble_eq_true rfl⟩ (Nat.le_of_ble_eq_true rfl) ⟨Nat.le_of_ble_eq_true rfl, Nat.le_of_ble_eq_true rfl⟩ ?_
    refine V_iret (pc := 66) dX12_image_66 rfl (by first | decide | omega) (by first | decide | omega) ?_
    refine ⟨rfl, rfl, (hM.im (m := fun j => if j = k then (true, aq A, alw A) else aim A j) (fun a h1 h2 => ?_) (fun j hj => ?_)).hok, ((hF.upr (by omega)).up (by omega)).up (by omega)⟩
    · rw [up2_row h2, upr_row h1]
    · show up2 _ _ _ _ _ _ = b2i (if j = k then (true, aq A, alw A) else aim A j).1 ∧ ((if j = k then (true, aq A, alw A) else aim A j).1 = true → (∀ i, i < 116 → (68 ≤ i ∧ i < 74 → i < 68 + (if j = k then (true, aq A, alw A) else aim A j).2.1 0) → _ = enc (if j = k then (true, aq A, alw A) else aim A j).2.1 i) ∧ ∀ l, l < (if j = k then (true, aq A, alw A) else aim A j).2.1 3 → LawM _ _ ((if j = k then (true, aq A, alw A) else aim A j).2.2 l))
      by_cases z : j = k
      · subst z
        simp only [if_true]
        refine ⟨up2_self, fun _ => ⟨fun i hi hw => ?_, fun l hl => ?_⟩⟩
        · rw [up2_ne (by omega), upr_self]
          unfold cpy
          rw [if_pos (by omega), show 0 + (5516 * j + i - 5516 * j) = i by omega]
          exact hr i hi hw
        · refine (hM.2.1 l hl).cg (fun i i1 i2 => ?_)
          show up2 _ _ _ _ _ _ = _
          rw [up2_ne (by omega), upr_self]
          unfold cpy
          rw [if_pos (by omega), show 0 + (5516 * j + i - 5516 * j) = i by omega]
      · simp only [if_neg z]
        have hj' := hM.img j hj
        refine ⟨by rw [up2_nej z, upr_row (by omega)]; exact hj'.1, fun ht => ⟨fun i hi hw => ?_, fun l hl => ?_⟩⟩
        · rw [up2_ne (by omega), upr_self]
          unfold cpy
          rw [if_neg (by omega)]
          exact (hj'.2 ht).1 i hi hw
        · refine ((hj'.2 ht).2 l hl).cg (fun i i1 i2 => ?_)
          have h3 : (aim A j).2.1 3 ≤ 6 := ((hA.2.2.2.2.1 j hj ht).1).nl
          show up2 _ _ _ _ _ _ = _
          rw [up2_ne (by omega), upr_self]
          unfold cpy
          rw [if_neg (by omega)]
  · skip
    refine V_aload_n (pc := 15) dX12_image_15 rfl ?_
    refine V_iconst (pc := 16) (v := (-1)) dX12_image_16 (by decide) ?_
    refine V_callVd (pc := 17) (ci := 12) (c_X12_tellv (r := 1) h12 (by decide) (by decide) (by decide)) dX12_image_17 mlX12_184 mkX12_tell rfl rfl h12.o ⟨by decide, rfl⟩ ⟨Nat.le_of_ble_eq_true rfl, Nat.le_of_ble_eq_true rfl⟩ (Nat.le_of_ble_eq_true rfl) ⟨Nat.le_of_ble_eq_true rfl, Nat.le_of_ble_eq_true rfl⟩ ?_
    refine V_iret (pc := 20) dX12_image_20 rfl (by first | decide | omega) (by first | decide | omega) ?_
    rw [e1] at n12
    rw [spImage, if_neg (by rw [n12]; decide)]
    exact ⟨rfl, rfl, hM.hrf, hF.hrf⟩
theorem c_X12_back (h12 : Lay12 E S o) (hM : MR o I L A) (hA : wfA A) {x : Int32} : Cm E kX12_back 2 [.ref o, .int x] S I L o (.int (spBack A x).1) (spBack A x).2 := by
  have e1 : decide (lN 0 ≤ x.toInt64 ∧ x.toInt64 ≤ lN 1) = bnd x 2 := bnd64' (n := 1) (by omega)
  refine C_of (by decide) (Nat.le_of_ble_eq_true rfl) ?_
  refine V_aload_n (pc := 0) dX12_back_0 rfl ?_
  refine V_iconst (pc := 1) (v := nI 0) dX12_back_1 (by decide) ?_
  refine V_putI (pc := 2) 12 0 dX12_back_2 flX12_175 (by decide) (by decide) (Or.inl rfl) rfl rfl h12.o ?_
  have hM := hM.thrown (v := nI 0)
  have hF : FrM o (up2 I o 0 (nI 0)) I L L := FrM.rf.up (by omega)
  generalize up2 I o 0 (nI 0) = I0 at hM hF ⊢
  have hr := hM.row
  refine V_iload_n (pc := 5) dX12_back_5 rfl ?_
  refine V_i2l (pc := 6) dX12_back_6 rfl ?_
  refine V_lconst (pc := 7) (v := lN 0) dX12_back_7 (by decide) ?_
  refine V_lconst (pc := 8) (v := lN 1) dX12_back_8 (by decide) ?_
  refine V_callSd (pc := 9) (c_X12_in) dX12_back_9 mlX12_195 mkX12_in rfl rfl ⟨Nat.le_of_ble_eq_true rfl, Nat.le_of_ble_eq_true rfl⟩ (Nat.le_of_ble_eq_true rfl) ⟨Nat.le_of_ble_eq_true rfl, Nat.le_of_ble_eq_true rfl⟩ ?_
  refine V_if_neB (pc := 12) (tgt := 21) dX12_back_12 (by decide) (fun c12 => ?_) (fun n12 => ?_)
  · skip
    rw [e1] at c12
    obtain ⟨k, hk, hx⟩ := bnd_ex (by omega) c12
    rw [spBack, if_pos c12]
    subst hx
    rw [cln_nI (by omega)]
    have hj' := hM.img k hk
    refine V_aload_n (pc := 21) dX12_back_21 rfl ?_
    refine V_getR (pc := 22) 12 5 dX12_back_22 flX12_19 (by decide) h12.o h12.R5 ?_
    refine V_iload_n (pc := 25) dX12_back_25 rfl ?_
    refine V_baloadE (pc := 26) dX12_back_26 h12.A5 (by first | decide | omega) (by omega) (hj'.1) ?_
    refine V_if_neB (pc := 27) (tgt := 37) dX12_back_27 (by decide) (fun c27 => ?_) (fun n27 => ?_)
    · skip
      rw [if_pos c27]
      have hj2 := hj'.2 c27
      have h3 : (aim A k).2.1 3 ≤ 6 := ((hA.2.2.2.2.1 k hk c27).1).nl
      refine V_iconst (pc := 37) (v := nI 0) dX12_back_37 (by decide) ?_
      refine V_istore_n (pc := 38) (ls' := [(0, _), (1, _), (2, _)]) dX12_back_38 (by decide) rfl ?_
      refine lp_bck h12 hk ?_
      refine V_aload_n (pc := 70) dX12_back_70 rfl ?_
      refine V_iconst (pc := 71) (v := nI 0) dX12_back_71 (by decide) ?_
      refine V_callVd (pc := 72) (ci := 12) (c_X12_settled (by first | assumption | omega | exact h12) (by first | assumption | omega | exact h12)) dX12_back_72 mlX12_199 mkX12_settled rfl rfl h12.o ⟨by decide, rfl⟩ ⟨Nat.le_of_ble_eq_true rfl, Nat.le_of_ble_eq_true rfl⟩ (Nat.le_of_ble_eq_true rfl) ⟨Nat.le_of_ble_eq_true rfl, Nat.le_of_ble_eq_true rfl⟩ ?_
      refine V_iret (pc := 75) dX12_back_75 rfl (by first | decide | omega) (by first | decide | omega) ?_
      refine ⟨rfl, rfl, (MR.sbk hM.hun (q' := (aim A k).2.1) (lw := (aim A k).2.2) rfl (fun a ha => ?_) (fun i hi hw => ?_) (fun l hl => ?_)).hok, ((hF.upr (by omega)).up (by omega)).up (by omega)⟩
      · by_cases z : a = o
        · subst z; funext i; by_cases z2 : i = 8; (subst z2; rw [up2_self, up2_self]); rw [up2_nej z2, up2_nej z2, upr_row (by omega)]
        · rw [up2_row z, up2_row z, upr_row ha]
      · rw [up2_ne (by omega), upr_self]
        unfold cpy
        rw [if_pos (by omega), show 5516 * k + (i - 0) = 5516 * k + i by omega]
        exact hj2.1 i hi hw
      · refine (hj2.2 l hl).cg (fun i i1 i2 => ?_)
        rw [up2_ne (by omega), upr_self]
        unfold cpy
        rw [if_pos (by omega), show 5516 * k + (i - 0) = 5516 * k + i by omega]
    · skip
      refine V_aload_n (pc := 30) dX12_back_30 rfl ?_
      refine V_bipush (pc := 31) (v := (-2)) dX12_back_31 (by decide) ?_
      refine V_callVd (pc := 33) (ci := 12) (c_X12_tellv (r := 2) h12 (by decide) (by decide) (by decide)) dX12_back_33 mlX12_184 mkX12_tell rfl rfl h12.o ⟨by decide, rfl⟩ ⟨Nat.le_of_ble_eq_true rfl, Nat.le_of_ble_eq_true rfl⟩ (Nat.le_of_ble_eq_true rfl) ⟨Nat.le_of_ble_eq_true rfl, Nat.le_of_ble_eq_true rfl⟩ ?_
      refine V_iret (pc := 36) dX12_back_36 rfl (by first | decide | omega) (by first | decide | omega) ?_
      rw [if_neg (by rw [n27]; decide)]
      exact ⟨rfl, rfl, hM.hrf, hF.hrf⟩
  · skip
    refine V_aload_n (pc := 15) dX12_back_15 rfl ?_
    refine V_iconst (pc := 16) (v := (-1)) dX12_back_16 (by decide) ?_
    refine V_callVd (pc := 17) (ci := 12) (c_X12_tellv (r := 1) h12 (by decide) (by decide) (by decide)) dX12_back_17 mlX12_184 mkX12_tell rfl rfl h12.o ⟨by decide, rfl⟩ ⟨Nat.le_of_ble_eq_true rfl, Nat.le_of_ble_eq_true rfl⟩ (Nat.le_of_ble_eq_true rfl) ⟨Nat.le_of_ble_eq_true rfl, Nat.le_of_ble_eq_true rfl⟩ ?_
    refine V_iret (pc := 20) dX12_back_20 rfl (by first | decide | omega) (by first | decide | omega) ?_
    rw [e1] at n12
    rw [spBack, if_neg (by rw [n12]; decide)]
    exact ⟨rfl, rfl, hM.hrf, hF.hrf⟩
/-- the tape as threes: a box, a bar, teeth; how many are told, how many are rust -/
def rws (t : Nat → Nat) (had : Nat) (q : Nat → Nat) : Nat → (Nat → Nat) × Nat × Nat
  | 0 => (q, 0, 0)
  | m + 1 => if 3 * m + 2 < had ∧ t (3 * m) < q 0 ∧ t (3 * m + 1) < 8 then (setq (rws t had q m).1 (8 + 8 * t (3 * m) + t (3 * m + 1)) (t (3 * m + 2)), (rws t had q m).2.1 + 1, (rws t had q m).2.2) else ((rws t had q m).1, (rws t had q m).2.1, (rws t had q m).2.2 + 1)
def srust (A : AT) (v : Int32) : AT := sx A (v, (ax A).2)
def spRow (A : AT) : Int32 × AT := if (atp A).1 = 0 then (-(nI 6), rfs A 6) else (nI (rws (atp A).2 (atp A).1 (aq A) (((atp A).1 + 2) / 3)).2.1, ok0 (un0 (srust (sq (stp A (0, (atp A).2)) (rws (atp A).2 (atp A).1 (aq A) (((atp A).1 + 2) / 3)).1) (nI (rws (atp A).2 (atp A).1 (aq A) (((atp A).1 + 2) / 3)).2.2))))
theorem rws_ok {t : Nat → Nat} {had : Nat} {q : Nat → Nat} (hq : wq q) (ht : ∀ i, i < had → t i < 256) : ∀ m, wq (rws t had q m).1 ∧ (rws t had q m).1 0 = q 0 ∧ (rws t had q m).1 3 = q 3 ∧ (rws t had q m).2.1 ≤ m ∧ (rws t had q m).2.2 ≤ m
  | 0 => ⟨hq, rfl, rfl, Nat.le_refl 0, Nat.le_refl 0⟩
  | m + 1 => by
    obtain ⟨h1, h2, h3, h4, h5⟩ := rws_ok hq ht m
    have hb := hq.nb
    unfold rws
    split
    · rename_i c
      refine ⟨h1.pin (by omega) c.2.2 (ht _ c.1), ?_, ?_, Nat.succ_le_succ h4, Nat.le_succ_of_le h5⟩
      · show setq _ _ _ 0 = q 0
        rw [setq_n (by omega)]; exact h2
      · show setq _ _ _ 3 = q 3
        rw [setq_n (by omega)]; exact h3
    · exact ⟨h1, h2, h3, Nat.le_succ_of_le h4, Nat.succ_le_succ h5⟩
theorem MR.srst {v : Int32} (h : MR o I L A) : MR o (up2 I o 11 v) L (srust A v) := by
  refine h.xm (fun a ha => up2_row ha) (fun i h1 h2 h3 h4 => up2_nej h2) ?_
  obtain ⟨x1, x2, x3, x4, x5⟩ := h.x
  exact ⟨up2_self, by rw [up2_nej (by omega)]; exact x2, by rw [up2_nej (by omega)]; exact x3, by rw [up2_nej (by omega)]; exact x4, fun r hr => by rw [up2_ne (by omega)]; exact x5 r hr⟩
theorem lp_row (h12 : Lay12 E S o) {R : Room} {Q : QT} {q : Nat → Nat} {t : Nat → Nat} {had : Nat} {I0 : IT} (hR : 3 ≤ R.frames ∧ 150 ≤ R.locals) (hq : wq q) (ht : ∀ i, i < had → t i < 256) (hh : had ≤ 400) (h9 : ∀ i, i < had → I (o + 9) i = nI (t i)) (hM : MR o I L (srust (sq A q) (nI 0))) (hF : FrM o I I0 L L) (hk : ∀ I', MR o I' L (srust (sq A (rws t had q ((had + 2) / 3)).1) (nI (rws t had q ((had + 2) / 3)).2.2)) → FrM o I' I0 L L → ∀ w, V E kX12_row R Q 0 0 S I' L 130 [(0, .ref o), (1, .int (nI had)), (2, .int (nI (rws t had q ((had + 2) / 3)).2.1)), (3, .int w)] []) : V E kX12_row R Q 0 0 S I L 35 [(0, .ref o), (1, .int (nI had)), (2, .int (nI 0)), (3, .int (nI 0))] [] := by
  have hnb := hq.nb
  have key : ∀ m, m ≤ (had + 2) / 3 → ∀ I', MR o I' L (srust (sq A (rws t had q m).1) (nI (rws t had q m).2.2)) → FrM o I' I0 L L → I' (o + 9) = I (o + 9) → V E kX12_row R Q 0 0 S I' L 35 [(0, .ref o), (1, .int (nI had)), (2, .int (nI (rws t had q m).2.1)), (3, .int (nI (3 * m)))] [] := by
    refine loopUp (P := fun m => ∀ I', MR o I' L (srust (sq A (rws t had q m).1) (nI (rws t had q m).2.2)) → FrM o I' I0 L L → I' (o + 9) = I (o + 9) → V E kX12_row R Q 0 0 S I' L 35 [(0, .ref o), (1, .int (nI had)), (2, .int (nI (rws t had q m).2.1)), (3, .int (nI (3 * m)))] []) ?_ ?_
    · intro I' hM' hF' h9'
      refine V_iload_n (pc := 35) dX12_row_35 rfl ?_
      refine V_iload_n (pc := 36) dX12_row_36 rfl ?_
      refine V_icmp_geN (pc := 37) (tgt := 130) dX12_row_37 (by decide) (by omega) (by omega) (fun c37 => ?_) (fun n37 => absurd n37 (by omega))
      exact hk I' hM' hF' _
    · intro m hm ih I' hM' hF' h9'
      have hok := rws_ok hq ht m
      have hr : RowM I' (o + 2) (rws t had q m).1 := hM'.row
      have h11 : I' o 11 = nI (rws t had q m).2.2 := hM'.x.1
      have ei : nI (3 * m) + Int32.ofInt 3 = nI (3 * (m + 1)) := by rw [show Int32.ofInt 3 = nI 3 from rfl, nI_add]; rfl
      have ed : ∀ i, i < had → I' (o + 9) i = nI (t i) := fun i hi => by rw [h9']; exact h9 i hi
      have hbx : ∀ x, x < 256 → bnd (nI x) ((rws t had q m).1 0) = decide (x < q 0) := fun x hx => by rw [hok.2.1]; exact bnd_nI (by omega)
      rw [rws] at ih
      refine V_iload_n (pc := 35) dX12_row_35 rfl ?_
      refine V_iload_n (pc := 36) dX12_row_36 rfl ?_
      refine V_icmp_geN (pc := 37) (tgt := 130) dX12_row_37 (by decide) (by omega) (by omega) (fun c37 => absurd c37 (by omega)) (fun n37 => ?_)
      refine V_iload_n (pc := 40) dX12_row_40 rfl ?_
      refine V_iconst (pc := 41) (v := nI 2) dX12_row_41 (by decide) ?_
      refine V_iaddN (pc := 42) dX12_row_42 ?_
      refine V_iload_n (pc := 43) dX12_row_43 rfl ?_
      refine V_icmp_geN (pc := 44) (tgt := 114) dX12_row_44 (by decide) (by omega) (by omega) (fun c44 => ?_) (fun n44 => ?_)
      · skip
        first
        | rw [if_neg (by omega)] at ih
        | (rw [hbx _ h0] at c57; rw [if_neg (fun w => of_decide_eq_false c57 w.2.1)] at ih)
        | (rw [bnd_nI (by omega)] at c71; rw [if_neg (fun w => of_decide_eq_false c71 w.2.2)] at ih)
        refine V_aload_n (pc := 114) dX12_row_114 rfl ?_
        refine V_dup (pc := 115) dX12_row_115 rfl ?_
        refine V_getIE (pc := 116) 12 11 dX12_row_116 flX12_266 (by decide) h12.o (h11) ?_
        refine V_iconst (pc := 119) (v := nI 1) dX12_row_119 (by decide) ?_
        refine V_iaddN (pc := 120) dX12_row_120 ?_
        refine V_putI (pc := 121) 12 11 dX12_row_121 flX12_266 (by decide) (by decide) (Or.inl rfl) rfl rfl h12.o ?_
        refine V_iinc (pc := 124) (ls' := [(0, _), (1, _), (2, _), (3, _)]) dX12_row_124 rfl ei (by decide) rfl ?_
        refine V_goto (pc := 127) (tgt := 35) dX12_row_127 (by decide) ?_
        first
        | exact ih _ (hM'.srst (v := nI ((rws t had q m).2.2 + 1))) (hF'.up (by omega)) (by rw [up2_row (by omega)]; exact h9')
        | exact ih _ (hM'.st (i := 8 + 8 * t (3 * m) + t (3 * m + 1)) (n := t (3 * m + 2)) (by omega) (enc_n (by omega))) (hF'.up (by omega)) (by rw [up2_row (by omega)]; exact h9')
      · skip
        have h0 := ht (3 * m) (by omega)
        have h1 := ht (3 * m + 1) (by omega)
        have h2 := ht (3 * m + 2) (by omega)
        refine V_aload_n (pc := 47) dX12_row_47 rfl ?_
        refine V_aload_n (pc := 48) dX12_row_48 rfl ?_
        refine V_getR (pc := 49) 12 12 dX12_row_49 flX12_35 (by decide) h12.o h12.R12 ?_
        refine V_iload_n (pc := 52) dX12_row_52 rfl ?_
        refine V_ialoadE (pc := 53) dX12_row_53 h12.A12 (by first | decide | omega) (by omega) (ed _ (by omega)) ?_
        refine V_callVd (pc := 54) (ci := 12) (c_X12_isBox h12 hr hok.1) dX12_row_54 mlX12_213 mkX12_isBox rfl rfl h12.o ⟨by decide, rfl⟩ ⟨by omega, by show 8 + (_ + 11) + 64 * _ ≤ _; simp only []; omega⟩ (Nat.le_of_ble_eq_true rfl) ⟨by omega, by omega⟩ ?_
        refine V_if_eqB (pc := 57) (tgt := 114) dX12_row_57 (by decide) (fun c57 => ?_) (fun n57 => ?_)
        · skip
          first
          | rw [if_neg (by omega)] at ih
          | (rw [hbx _ h0] at c57; rw [if_neg (fun w => of_decide_eq_false c57 w.2.1)] at ih)
          | (rw [bnd_nI (by omega)] at c71; rw [if_neg (fun w => of_decide_eq_false c71 w.2.2)] at ih)
          refine V_aload_n (pc := 114) dX12_row_114 rfl ?_
          refine V_dup (pc := 115) dX12_row_115 rfl ?_
          refine V_getIE (pc := 116) 12 11 dX12_row_116 flX12_266 (by decide) h12.o (h11) ?_
          refine V_iconst (pc := 119) (v := nI 1) dX12_row_119 (by decide) ?_
          refine V_iaddN (pc := 120) dX12_row_120 ?_
          refine V_putI (pc := 121) 12 11 dX12_row_121 flX12_266 (by decide) (by decide) (Or.inl rfl) rfl rfl h12.o ?_
          refine V_iinc (pc := 124) (ls' := [(0, _), (1, _), (2, _), (3, _)]) dX12_row_124 rfl ei (by decide) rfl ?_
          refine V_goto (pc := 127) (tgt := 35) dX12_row_127 (by decide) ?_
          first
          | exact ih _ (hM'.srst (v := nI ((rws t had q m).2.2 + 1))) (hF'.up (by omega)) (by rw [up2_row (by omega)]; exact h9')
          | exact ih _ (hM'.st (i := 8 + 8 * t (3 * m) + t (3 * m + 1)) (n := t (3 * m + 2)) (by omega) (enc_n (by omega))) (hF'.up (by omega)) (by rw [up2_row (by omega)]; exact h9')
        · skip
          refine V_aload_n (pc := 60) dX12_row_60 rfl ?_
          refine V_getR (pc := 61) 12 12 dX12_row_61 flX12_35 (by decide) h12.o h12.R12 ?_
          refine V_iload_n (pc := 64) dX12_row_64 rfl ?_
          refine V_iconst (pc := 65) (v := nI 1) dX12_row_65 (by decide) ?_
          refine V_iaddN (pc := 66) dX12_row_66 ?_
          refine V_ialoadE (pc := 67) dX12_row_67 h12.A12 (by first | decide | omega) (by omega) (ed _ (by omega)) ?_
          refine V_callSd (pc := 68) (c_X12_isBar) dX12_row_68 mlX12_228 mkX12_isBar rfl rfl ⟨by omega, by show 8 + (_ + 11) + 64 * _ ≤ _; simp only []; omega⟩ (Nat.le_of_ble_eq_true rfl) ⟨by omega, by omega⟩ ?_
          refine V_if_eqB (pc := 71) (tgt := 114) dX12_row_71 (by decide) (fun c71 => ?_) (fun n71 => ?_)
          · skip
            first
            | rw [if_neg (by omega)] at ih
            | (rw [hbx _ h0] at c57; rw [if_neg (fun w => of_decide_eq_false c57 w.2.1)] at ih)
            | (rw [bnd_nI (by omega)] at c71; rw [if_neg (fun w => of_decide_eq_false c71 w.2.2)] at ih)
            refine V_aload_n (pc := 114) dX12_row_114 rfl ?_
            refine V_dup (pc := 115) dX12_row_115 rfl ?_
            refine V_getIE (pc := 116) 12 11 dX12_row_116 flX12_266 (by decide) h12.o (h11) ?_
            refine V_iconst (pc := 119) (v := nI 1) dX12_row_119 (by decide) ?_
            refine V_iaddN (pc := 120) dX12_row_120 ?_
            refine V_putI (pc := 121) 12 11 dX12_row_121 flX12_266 (by decide) (by decide) (Or.inl rfl) rfl rfl h12.o ?_
            refine V_iinc (pc := 124) (ls' := [(0, _), (1, _), (2, _), (3, _)]) dX12_row_124 rfl ei (by decide) rfl ?_
            refine V_goto (pc := 127) (tgt := 35) dX12_row_127 (by decide) ?_
            first
            | exact ih _ (hM'.srst (v := nI ((rws t had q m).2.2 + 1))) (hF'.up (by omega)) (by rw [up2_row (by omega)]; exact h9')
            | exact ih _ (hM'.st (i := 8 + 8 * t (3 * m) + t (3 * m + 1)) (n := t (3 * m + 2)) (by omega) (enc_n (by omega))) (hF'.up (by omega)) (by rw [up2_row (by omega)]; exact h9')
          · skip
            rw [hbx _ h0] at n57
            have b1 := of_decide_eq_true n57
            rw [bnd_nI (by omega)] at n71
            have b2 := of_decide_eq_true n71
            rw [if_pos ⟨by omega, b1, b2⟩] at ih
            refine V_aload_n (pc := 74) dX12_row_74 rfl ?_
            refine V_getR (pc := 75) 12 3 dX12_row_75 flX12_13 (by decide) h12.o h12.R3 ?_
            refine V_bipush (pc := 78) (v := nI 8) dX12_row_78 (by decide) ?_
            refine V_bipush (pc := 80) (v := nI 8) dX12_row_80 (by decide) ?_
            refine V_aload_n (pc := 82) dX12_row_82 rfl ?_
            refine V_getR (pc := 83) 12 12 dX12_row_83 flX12_35 (by decide) h12.o h12.R12 ?_
            refine V_iload_n (pc := 86) dX12_row_86 rfl ?_
            refine V_ialoadE (pc := 87) dX12_row_87 h12.A12 (by first | decide | omega) (by omega) (ed _ (by omega)) ?_
            refine V_imulN (pc := 88) dX12_row_88 ?_
            refine V_iaddN (pc := 89) dX12_row_89 ?_
            refine V_aload_n (pc := 90) dX12_row_90 rfl ?_
            refine V_getR (pc := 91) 12 12 dX12_row_91 flX12_35 (by decide) h12.o h12.R12 ?_
            refine V_iload_n (pc := 94) dX12_row_94 rfl ?_
            refine V_iconst (pc := 95) (v := nI 1) dX12_row_95 (by decide) ?_
            refine V_iaddN (pc := 96) dX12_row_96 ?_
            refine V_ialoadE (pc := 97) dX12_row_97 h12.A12 (by first | decide | omega) (by omega) (ed _ (by omega)) ?_
            refine V_iaddN (pc := 98) dX12_row_98 ?_
            refine V_aload_n (pc := 99) dX12_row_99 rfl ?_
            refine V_getR (pc := 100) 12 12 dX12_row_100 flX12_35 (by decide) h12.o h12.R12 ?_
            refine V_iload_n (pc := 103) dX12_row_103 rfl ?_
            refine V_iconst (pc := 104) (v := nI 2) dX12_row_104 (by decide) ?_
            refine V_iaddN (pc := 105) dX12_row_105 ?_
            refine V_ialoadE (pc := 106) dX12_row_106 h12.A12 (by first | decide | omega) (by omega) (ed _ (by omega)) ?_
            refine V_iastore (pc := 107) dX12_row_107 h12.A3 (by first | decide | omega) (by omega) ?_
            refine V_iinc1 (pc := 108) (ls' := [(0, _), (1, _), (2, _), (3, _)]) dX12_row_108 rfl (by decide) rfl ?_
            refine V_goto (pc := 111) (tgt := 124) dX12_row_111 (by decide) ?_
            refine V_iinc (pc := 124) (ls' := [(0, _), (1, _), (2, _), (3, _)]) dX12_row_124 rfl ei (by decide) rfl ?_
            refine V_goto (pc := 127) (tgt := 35) dX12_row_127 (by decide) ?_
            first
            | exact ih _ (hM'.srst (v := nI ((rws t had q m).2.2 + 1))) (hF'.up (by omega)) (by rw [up2_row (by omega)]; exact h9')
            | exact ih _ (hM'.st (i := 8 + 8 * t (3 * m) + t (3 * m + 1)) (n := t (3 * m + 2)) (by omega) (enc_n (by omega))) (hF'.up (by omega)) (by rw [up2_row (by omega)]; exact h9')
  exact key 0 (by omega) I hM hF rfl
theorem c_X12_row (h12 : Lay12 E S o) (hM : MR o I L A) (hA : wfA A) : Cm E kX12_row 4 [.ref o] S I L o (.int (spRow A).1) (spRow A).2 := by
  have hq := hA.q
  have ht : (atp A).1 ≤ 400 := hA.2.2.2.2.2.1
  have ht2 : ∀ i, i < (atp A).1 → (atp A).2 i < 256 := hA.2.2.2.2.2.2.1
  have hok := rws_ok hq ht2 (((atp A).1 + 2) / 3)
  refine C_of (by decide) (Nat.le_of_ble_eq_true rfl) ?_
  refine V_aload_n (pc := 0) dX12_row_0 rfl ?_
  refine V_iconst (pc := 1) (v := nI 0) dX12_row_1 (by decide) ?_
  refine V_putI (pc := 2) 12 0 dX12_row_2 flX12_175 (by decide) (by decide) (Or.inl rfl) rfl rfl h12.o ?_
  have hM := hM.thrown (v := nI 0)
  have hF : FrM o (up2 I o 0 (nI 0)) I L L := FrM.rf.up (by omega)
  generalize up2 I o 0 (nI 0) = I0 at hM hF ⊢
  have hr := hM.row
  refine V_aload_n (pc := 5) dX12_row_5 rfl ?_
  refine V_getIE (pc := 6) 12 13 dX12_row_6 flX12_263 (by decide) h12.o (hM.tap.1) ?_
  refine V_istore_n (pc := 9) (ls' := [(0, _), (1, _)]) dX12_row_9 (by decide) rfl ?_
  refine V_aload_n (pc := 10) dX12_row_10 rfl ?_
  refine V_iconst (pc := 11) (v := nI 0) dX12_row_11 (by decide) ?_
  refine V_putI (pc := 12) 12 13 dX12_row_12 flX12_263 (by decide) (by decide) (Or.inl rfl) rfl rfl h12.o ?_
  have m1 : MR o (up2 I0 o 13 (nI 0)) L (stp A (0, (atp A).2)) := hM.tpm (fun a h1 h2 => up2_row h1) (fun i hi => up2_nej hi) ⟨up2_self, fun i hi => absurd hi (Nat.not_lt_zero i)⟩
  have f1 : FrM o (up2 I0 o 13 (nI 0)) I L L := hF.up (by omega)
  refine V_iload_n (pc := 15) dX12_row_15 rfl ?_
  refine V_if_neN (pc := 16) (tgt := 26) dX12_row_16 (by decide) (by omega) (fun c16 => ?_) (fun n16 => ?_)
  · skip
    rw [spRow, if_neg c16]
    refine V_aload_n (pc := 26) dX12_row_26 rfl ?_
    refine V_iconst (pc := 27) (v := nI 0) dX12_row_27 (by decide) ?_
    refine V_putI (pc := 28) 12 11 dX12_row_28 flX12_266 (by decide) (by decide) (Or.inl rfl) rfl rfl h12.o ?_
    refine V_iconst (pc := 31) (v := nI 0) dX12_row_31 (by decide) ?_
    refine V_istore_n (pc := 32) (ls' := [(0, _), (1, _), (2, _)]) dX12_row_32 (by decide) rfl ?_
    refine V_iconst (pc := 33) (v := nI 0) dX12_row_33 (by decide) ?_
    refine V_istore_n (pc := 34) (ls' := [(0, _), (1, _), (2, _), (3, _)]) dX12_row_34 (by decide) rfl ?_
    refine lp_row (t := (atp A).2) (had := (atp A).1) (I0 := I) (A := stp A (0, (atp A).2)) (q := aq A) h12 ⟨by decide, by decide⟩ hq ht2 ht (fun i hi => by rw [up2_ne (by omega), up2_ne (by omega)]; exact hM.tap.2 i hi) m1.srst (f1.up (by omega)) (fun I1 m2 f2 w => ?_)
    refine V_aload_n (pc := 130) dX12_row_130 rfl ?_
    refine V_iload_n (pc := 131) dX12_row_131 rfl ?_
    refine V_callVd (pc := 132) (ci := 12) (c_X12_settled (by first | assumption | omega | exact h12) (by first | assumption | omega | exact h12)) dX12_row_132 mlX12_199 mkX12_settled rfl rfl h12.o ⟨by decide, rfl⟩ ⟨Nat.le_of_ble_eq_true rfl, Nat.le_of_ble_eq_true rfl⟩ (Nat.le_of_ble_eq_true rfl) ⟨Nat.le_of_ble_eq_true rfl, Nat.le_of_ble_eq_true rfl⟩ ?_
    refine V_iret (pc := 135) dX12_row_135 rfl (by first | decide | omega) (by first | decide | omega) ?_
    exact ⟨rfl, rfl, m2.hun.hok, (f2.up (by omega)).up (by omega)⟩
  · skip
    refine V_aload_n (pc := 19) dX12_row_19 rfl ?_
    refine V_bipush (pc := 20) (v := (-6)) dX12_row_20 (by decide) ?_
    refine V_callVd (pc := 22) (ci := 12) (c_X12_tellv (r := 6) h12 (by decide) (by decide) (by decide)) dX12_row_22 mlX12_184 mkX12_tell rfl rfl h12.o ⟨by decide, rfl⟩ ⟨Nat.le_of_ble_eq_true rfl, Nat.le_of_ble_eq_true rfl⟩ (Nat.le_of_ble_eq_true rfl) ⟨Nat.le_of_ble_eq_true rfl, Nat.le_of_ble_eq_true rfl⟩ ?_
    refine V_iret (pc := 25) dX12_row_25 rfl (by first | decide | omega) (by first | decide | omega) ?_
    rw [spRow, if_pos n16]
    refine ⟨rfl, rfl, ?_, f1.hrf⟩
    have e : stp A (0, (atp A).2) = A := by rw [← n16]; rfl
    rw [e] at m1
    exact m1.hrf
end MI6
