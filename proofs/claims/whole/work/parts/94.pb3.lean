/-! THE CLASS's public methods, III: deeds, terms, the tape -/
theorem dv_pos {d : Nat × Nat × AT} (h : d.1 = 0) (h2 : d.2.1 < 2 ^ 31) : ¬ dv d < 0 := by
  unfold dv; rw [if_pos h]; exact nI_pos h2
theorem neg_lt : ∀ r, r < 7 → r ≠ 0 → -(nI r) < (0 : Int32) := by decide
section CN
variable {E : EnT} {S : ST} {I : IT} {L : LT} {B : Nat} {A : AT}
theorem c_X11_settle (h11 : Lay11 E S B) {d : Nat × Nat × AT} (h1 : d.1 < 7 ∧ d.2.1 < 2 ^ 31) : Cd E kX11_settle 1 0 0 [.ref B, .int (dv d)] S I L (.int (dv d)) S (if d.1 = 0 then up2 I B 13 (nI 0) else rfuC I B d.1) L := by
  refine C_of (by decide) (Nat.le_of_ble_eq_true rfl) ?_
  by_cases h0 : d.1 = 0
  · rw [if_pos h0]
    refine V_iload_n (pc := 0) dX11_settle_0 rfl ?_
    refine V_if_ge (pc := 1) (tgt := 12) dX11_settle_1 (by decide) (fun c1 => ?_) (fun n1 => absurd n1 (by exact fun z => z (Int32.not_lt.mp (dv_pos h0 h1.2))))
    refine V_aload_n (pc := 12) dX11_settle_12 rfl ?_
    refine V_iload_n (pc := 13) dX11_settle_13 rfl ?_
    refine V_callVd (pc := 14) (ci := 11) (c_X11_grant h11) dX11_settle_14 mlX11_137 mkX11_grant rfl rfl h11.o ⟨by decide, rfl⟩ ⟨Nat.le_of_ble_eq_true rfl, Nat.le_of_ble_eq_true rfl⟩ (Nat.le_of_ble_eq_true rfl) ⟨Nat.le_of_ble_eq_true rfl, Nat.le_of_ble_eq_true rfl⟩ ?_
    refine V_iret (pc := 17) dX11_settle_17 rfl (by first | decide | omega) (by first | decide | omega) ?_
    exact ⟨rfl, rfl, rfl, rfl⟩
  · rw [if_neg h0]
    have hd : dv d = -(nI d.1) := by unfold dv; rw [if_neg h0]
    rw [hd]
    refine V_iload_n (pc := 0) dX11_settle_0 rfl ?_
    refine V_if_ge (pc := 1) (tgt := 12) dX11_settle_1 (by decide) (fun c1 => absurd c1 (by exact Int32.not_le.mpr (neg_lt _ h1.1 h0))) (fun n1 => ?_)
    refine V_aload_n (pc := 4) dX11_settle_4 rfl ?_
    refine V_iload_n (pc := 5) dX11_settle_5 rfl ?_
    refine V_callVd (pc := 6) (ci := 11) (c_X11_refuse (r := d.1) h11 (by omega) h1.1 rfl) dX11_settle_6 mlX11_112 mkX11_refuse rfl rfl h11.o ⟨by decide, rfl⟩ ⟨Nat.le_of_ble_eq_true rfl, Nat.le_of_ble_eq_true rfl⟩ (Nat.le_of_ble_eq_true rfl) ⟨Nat.le_of_ble_eq_true rfl, Nat.le_of_ble_eq_true rfl⟩ ?_
    refine V_goto (pc := 9) (tgt := 17) dX11_settle_9 (by decide) ?_
    refine V_iret (pc := 17) dX11_settle_17 rfl (by first | decide | omega) (by first | decide | omega) ?_
    exact ⟨rfl, rfl, rfl, rfl⟩
theorem CR.tls (h11 : Lay11 E S B) {d : Nat × Nat × AT} (h : CR E S B I d.2.2) : CR E S B (if d.1 = 0 then up2 I B 13 (nI 0) else rfuC I B d.1) (tll d).2 := by
  unfold tll
  by_cases h0 : d.1 = 0
  · rw [if_pos h0]; show CR E S B _ (if d.1 = 0 then _ else _); rw [if_pos h0]; exact h.hok
  · rw [if_neg h0]; show CR E S B _ (if d.1 = 0 then _ else _); rw [if_neg h0]; exact h.hrf
theorem FrC.tls {I0 : IT} {L0 : LT} {r : Nat} (h : FrC B I I0 L L0) : FrC B (if r = 0 then up2 I B 13 (nI 0) else rfuC I B r) I0 L L0 := by
  split
  · exact h.up (by omega)
  · exact rfuC_Fr h
theorem c_X11_pull (h11 : Lay11 E S B) (hR : CR E S B I A) (hA : wfA A) {x y z : Int32} : Cc E kX11_pull 4 [.ref B, .int x, .int y, .int z] S I L B (.int (spPull A x y z).1) (spPull A x y z).2 := by
  have hk := dPull_k hA x y z
  refine C_of (by decide) (Nat.le_of_ble_eq_true rfl) ?_
  refine V_aload_n (pc := 0) dX11_pull_0 rfl ?_
  refine V_aload_n (pc := 1) dX11_pull_1 rfl ?_
  refine V_getR (pc := 2) 11 4 dX11_pull_2 flX11_99 (by decide) h11.o h11.R4 ?_
  refine V_iload_n (pc := 5) dX11_pull_5 rfl ?_
  refine V_iload_n (pc := 6) dX11_pull_6 rfl ?_
  refine V_iload_n (pc := 7) dX11_pull_7 rfl ?_
  refine V_callV (pc := 8) (ci := 0) (c_X0_pullPin h11 hR hA) dX11_pull_8 mlX11_254 mkX0_pullPin rfl rfl h11.O4.o ⟨by decide, rfl⟩ ⟨Nat.le_of_ble_eq_true rfl, Nat.le_of_ble_eq_true rfl⟩ (Nat.le_of_ble_eq_true rfl) ⟨Nat.le_of_ble_eq_true rfl, Nat.le_of_ble_eq_true rfl⟩ (fun r S' I' L' hp => ?_)
  obtain ⟨rfl, rfl, rfl, hR1, hf⟩ := hp
  refine V_callVd (pc := 11) (ci := 11) (c_X11_settle h11 (dPull_ok A x y z)) dX11_pull_11 mlX11_258 mkX11_settle rfl rfl h11.o ⟨by decide, rfl⟩ ⟨Nat.le_of_ble_eq_true rfl, Nat.le_of_ble_eq_true rfl⟩ (Nat.le_of_ble_eq_true rfl) ⟨Nat.le_of_ble_eq_true rfl, Nat.le_of_ble_eq_true rfl⟩ ?_
  refine V_iret (pc := 14) dX11_pull_14 rfl (by first | decide | omega) (by first | decide | omega) ?_
  exact ⟨rfl, rfl, hR1.tls h11, hf.Fr.tls⟩
theorem c_X11_snap (h11 : Lay11 E S B) (hR : CR E S B I A) (hA : wfA A) {x y : Int32} : Cc E kX11_snap 4 [.ref B, .int x, .int y] S I L B (.int (spSnap A x y).1) (spSnap A x y).2 := by
  have hk := dSnap_k hA x y
  refine C_of (by decide) (Nat.le_of_ble_eq_true rfl) ?_
  refine V_aload_n (pc := 0) dX11_snap_0 rfl ?_
  refine V_aload_n (pc := 1) dX11_snap_1 rfl ?_
  refine V_getR (pc := 2) 11 4 dX11_snap_2 flX11_99 (by decide) h11.o h11.R4 ?_
  refine V_iload_n (pc := 5) dX11_snap_5 rfl ?_
  refine V_iload_n (pc := 6) dX11_snap_6 rfl ?_
  refine V_callV (pc := 7) (ci := 0) (c_X0_snapTooth h11 hR hA) dX11_snap_7 mlX11_261 mkX0_snapTooth rfl rfl h11.O4.o ⟨by decide, rfl⟩ ⟨Nat.le_of_ble_eq_true rfl, Nat.le_of_ble_eq_true rfl⟩ (Nat.le_of_ble_eq_true rfl) ⟨Nat.le_of_ble_eq_true rfl, Nat.le_of_ble_eq_true rfl⟩ (fun r S' I' L' hp => ?_)
  obtain ⟨rfl, rfl, rfl, hR1, hf⟩ := hp
  refine V_callVd (pc := 10) (ci := 11) (c_X11_settle h11 (dSnap_ok A x y)) dX11_snap_10 mlX11_258 mkX11_settle rfl rfl h11.o ⟨by decide, rfl⟩ ⟨Nat.le_of_ble_eq_true rfl, Nat.le_of_ble_eq_true rfl⟩ (Nat.le_of_ble_eq_true rfl) ⟨Nat.le_of_ble_eq_true rfl, Nat.le_of_ble_eq_true rfl⟩ ?_
  refine V_iret (pc := 13) dX11_snap_13 rfl (by first | decide | omega) (by first | decide | omega) ?_
  exact ⟨rfl, rfl, hR1.tls h11, hf.Fr.tls⟩
theorem c_X11_wed (h11 : Lay11 E S B) (hR : CR E S B I A) (hA : wfA A) {x y : Int32} : Cc E kX11_wed 6 [.ref B, .int x, .int y] S I L B (.int (spWed A x y).1) (spWed A x y).2 := by
  have hk := dWed_k hA x y
  refine C_of (by decide) (Nat.le_of_ble_eq_true rfl) ?_
  refine V_aload_n (pc := 0) dX11_wed_0 rfl ?_
  refine V_aload_n (pc := 1) dX11_wed_1 rfl ?_
  refine V_getR (pc := 2) 11 4 dX11_wed_2 flX11_99 (by decide) h11.o h11.R4 ?_
  refine V_iload_n (pc := 5) dX11_wed_5 rfl ?_
  refine V_iload_n (pc := 6) dX11_wed_6 rfl ?_
  refine V_callV (pc := 7) (ci := 0) (c_X0_wedBox h11 hR hA) dX11_wed_7 mlX11_264 mkX0_wedBox rfl rfl h11.O4.o ⟨by decide, rfl⟩ ⟨Nat.le_of_ble_eq_true rfl, Nat.le_of_ble_eq_true rfl⟩ (Nat.le_of_ble_eq_true rfl) ⟨Nat.le_of_ble_eq_true rfl, Nat.le_of_ble_eq_true rfl⟩ (fun r S' I' L' hp => ?_)
  obtain ⟨rfl, rfl, rfl, hR1, hf⟩ := hp
  refine V_callVd (pc := 10) (ci := 11) (c_X11_settle h11 (dWed_ok A x y)) dX11_wed_10 mlX11_258 mkX11_settle rfl rfl h11.o ⟨by decide, rfl⟩ ⟨Nat.le_of_ble_eq_true rfl, Nat.le_of_ble_eq_true rfl⟩ (Nat.le_of_ble_eq_true rfl) ⟨Nat.le_of_ble_eq_true rfl, Nat.le_of_ble_eq_true rfl⟩ ?_
  refine V_iret (pc := 13) dX11_wed_13 rfl (by first | decide | omega) (by first | decide | omega) ?_
  exact ⟨rfl, rfl, hR1.tls h11, hf.Fr.tls⟩
theorem c_X11_pass (h11 : Lay11 E S B) (hR : CR E S B I A) (hA : wfA A) : Cc E kX11_pass 6 [.ref B] S I L B (.int (spPass A).1) (spPass A).2 := by
  have hk := dPass_k hA
  refine C_of (by decide) (Nat.le_of_ble_eq_true rfl) ?_
  refine V_aload_n (pc := 0) dX11_pass_0 rfl ?_
  refine V_aload_n (pc := 1) dX11_pass_1 rfl ?_
  refine V_getR (pc := 2) 11 4 dX11_pass_2 flX11_99 (by decide) h11.o h11.R4 ?_
  refine V_callV (pc := 5) (ci := 0) (c_X0_passYear h11 hR hA) dX11_pass_5 mlX11_267 mkX0_passYear rfl rfl h11.O4.o ⟨by decide, rfl⟩ ⟨Nat.le_of_ble_eq_true rfl, Nat.le_of_ble_eq_true rfl⟩ (Nat.le_of_ble_eq_true rfl) ⟨Nat.le_of_ble_eq_true rfl, Nat.le_of_ble_eq_true rfl⟩ (fun r S' I' L' hp => ?_)
  obtain ⟨rfl, rfl, rfl, hR1, hf⟩ := hp
  refine V_callVd (pc := 8) (ci := 11) (c_X11_settle h11 (dPass_ok hA)) dX11_pass_8 mlX11_258 mkX11_settle rfl rfl h11.o ⟨by decide, rfl⟩ ⟨Nat.le_of_ble_eq_true rfl, Nat.le_of_ble_eq_true rfl⟩ (Nat.le_of_ble_eq_true rfl) ⟨Nat.le_of_ble_eq_true rfl, Nat.le_of_ble_eq_true rfl⟩ ?_
  refine V_iret (pc := 11) dX11_pass_11 rfl (by first | decide | omega) (by first | decide | omega) ?_
  exact ⟨rfl, rfl, hR1.tls h11, hf.Fr.tls⟩
theorem CR.tqu {I' : IT} {q' : Nat → Nat} {u : UT} (h : CR E S B I A) (e : ∀ x, (x < B + 37 ∨ B + 43 < x) → (x < B + 83 ∨ B + 197 < x) → I' x = I x) (hv : VlM I' (B + 36 + 1) q') (ho : ∀ i, (i < 5 ∨ 80 ≤ i) → q' i = aq A i) (hu : HsM I' (B + 83) (aq A) u) : CR E S B I' (sun (sq A q') u) := by
  obtain ⟨h1, h2, h3', h4, h5, h6, h7, h8⟩ := h
  refine ⟨h1.vl hv (fun a a1 a2 => e a (by omega) (by omega)) (fun i hi => ho i (by omega)), ?_, hu.q0 (ho 0 (by omega)), h4.cg fun x hx => e x (by omega) (by omega), ⟨by rw [e _ (by omega) (by omega)]; exact h5.1, fun i hi => by rw [e _ (by omega) (by omega)]; exact h5.2 i hi⟩, ?_, h7.cg fun x a1 a2 => e x (by omega) (by omega), h8⟩
  · have := h2.cg (I' := I') fun x hx => e x (by omega) (by omega)
    exact ⟨fun l hl => this.1 l (by rw [← ho 3 (by omega)]; exact hl), this.2⟩
  · obtain ⟨x1, x2, x3, x4, x5⟩ := h6
    exact ⟨by rw [e _ (by omega) (by omega)]; exact x1, by rw [e _ (by omega) (by omega)]; exact x2, by rw [e _ (by omega) (by omega)]; exact x3, by rw [e _ (by omega) (by omega)]; exact x4, fun r hr => by rw [e _ (by omega) (by omega)]; exact x5 r hr⟩
theorem c_X11_undo (h11 : Lay11 E S B) (hR : CR E S B I A) (hA : wfA A) : Cc E kX11_undo 3 [.ref B] S I L B (.int (spUndo A).1) (spUndo A).2 := by
  have hu16 : (aun A).1 ≤ 16 := hA.2.2.1
  refine C_of (by decide) (Nat.le_of_ble_eq_true rfl) ?_
  by_cases h0 : (aun A).1 = 0
  · rw [spUndo, if_pos h0]
    refine V_aload_n (pc := 0) dX11_undo_0 rfl ?_
    refine V_getR (pc := 1) 11 4 dX11_undo_1 flX11_99 (by decide) h11.o h11.R4 ?_
    refine V_getR (pc := 4) 0 3 dX11_undo_4 flX11_125 (by decide) h11.O4.o h11.O4.R3 ?_
    refine V_aload_n (pc := 7) dX11_undo_7 rfl ?_
    refine V_getR (pc := 8) 11 0 dX11_undo_8 flX11_91 (by decide) h11.o h11.R0 ?_
    refine V_getR (pc := 11) 10 0 dX11_undo_11 flX11_116 (by decide) h11.O0.o h11.O0.R0 ?_
    refine V_callVd (pc := 14) (ci := 2) (c_X2_takeBack0 h11.O4.O3 hR.2.2.1 h0) dX11_undo_14 mlX11_271 mkX2_takeBack rfl rfl h11.O4.O3.o ⟨by decide, rfl⟩ ⟨Nat.le_of_ble_eq_true rfl, Nat.le_of_ble_eq_true rfl⟩ (Nat.le_of_ble_eq_true rfl) ⟨Nat.le_of_ble_eq_true rfl, Nat.le_of_ble_eq_true rfl⟩ ?_
    refine V_istore_n (pc := 17) (ls' := [(0, _), (1, _)]) dX11_undo_17 (by decide) rfl ?_
    refine V_aload_n (pc := 18) dX11_undo_18 rfl ?_
    refine V_iload_n (pc := 19) dX11_undo_19 rfl ?_
    refine V_iconst (pc := 20) (v := (-1)) dX11_undo_20 (by decide) ?_
    refine V_icmp_ne (pc := 21) (tgt := 29) dX11_undo_21 (by decide) (fun c21 => absurd c21 (by exact fun z => z rfl)) (fun n21 => ?_)
    refine V_bipush (pc := 24) (v := (-3)) dX11_undo_24 (by decide) ?_
    refine V_goto (pc := 26) (tgt := 30) dX11_undo_26 (by decide) ?_
    refine V_callVd (pc := 30) (ci := 11) (c_X11_settle (d := (3, 0, A)) h11 ⟨by show 3 < 7; omega, by show 0 < 2 ^ 31; omega⟩) dX11_undo_30 mlX11_258 mkX11_settle rfl rfl h11.o ⟨by decide, rfl⟩ ⟨Nat.le_of_ble_eq_true rfl, Nat.le_of_ble_eq_true rfl⟩ (Nat.le_of_ble_eq_true rfl) ⟨Nat.le_of_ble_eq_true rfl, Nat.le_of_ble_eq_true rfl⟩ ?_
    refine V_iret (pc := 33) dX11_undo_33 rfl (by first | decide | omega) (by first | decide | omega) ?_
    exact ⟨rfl, rfl, hR.hrf, rfuC_Fr FrC.rf⟩
  · rw [spUndo, if_neg h0]
    have h4 : (aun A).2.2 ((aun A).1 - 1) < 4 := (hA.2.2.2.1 _ (by omega)).2
    refine V_aload_n (pc := 0) dX11_undo_0 rfl ?_
    refine V_getR (pc := 1) 11 4 dX11_undo_1 flX11_99 (by decide) h11.o h11.R4 ?_
    refine V_getR (pc := 4) 0 3 dX11_undo_4 flX11_125 (by decide) h11.O4.o h11.O4.R3 ?_
    refine V_aload_n (pc := 7) dX11_undo_7 rfl ?_
    refine V_getR (pc := 8) 11 0 dX11_undo_8 flX11_91 (by decide) h11.o h11.R0 ?_
    refine V_getR (pc := 11) 10 0 dX11_undo_11 flX11_116 (by decide) h11.O0.o h11.O0.R0 ?_
    refine V_callV (pc := 14) (ci := 2) (c_X2_takeBack h11.O4.O3 h11.O0.O0 hR.2.2.1 h0 hu16 (by omega)) dX11_undo_14 mlX11_271 mkX2_takeBack rfl rfl h11.O4.O3.o ⟨by decide, rfl⟩ ⟨Nat.le_of_ble_eq_true rfl, Nat.le_of_ble_eq_true rfl⟩ (Nat.le_of_ble_eq_true rfl) ⟨Nat.le_of_ble_eq_true rfl, Nat.le_of_ble_eq_true rfl⟩ (fun r S' I' L' hp => ?_)
    obtain ⟨rfl, rfl, rfl, hh, hvl, hf⟩ := hp
    have hR1 : CR E S B I' (und1 A) := hR.tqu (fun x a1 a2 => hf x (by omega) (by omega)) hvl (fun i hi => mix_o hi) hh
    refine V_istore_n (pc := 17) (ls' := [(0, _), (1, _)]) dX11_undo_17 (by decide) rfl ?_
    refine V_aload_n (pc := 18) dX11_undo_18 rfl ?_
    refine V_iload_n (pc := 19) dX11_undo_19 rfl ?_
    refine V_iconst (pc := 20) (v := (-1)) dX11_undo_20 (by decide) ?_
    refine V_icmp_ne (pc := 21) (tgt := 29) dX11_undo_21 (by decide) (fun c21 => ?_) (fun n21 => absurd n21 (by exact fun z => absurd (show nI ((aun A).2.2 ((aun A).1 - 1)) < 0 by rw [z]; decide) (nI_pos (by omega))))
    refine V_iload_n (pc := 29) dX11_undo_29 rfl ?_
    refine V_callVd (pc := 30) (ci := 11) (c_X11_settle (d := (0, (aun A).2.2 ((aun A).1 - 1), und1 A)) h11 ⟨by show 0 < 7; omega, by show (aun A).2.2 ((aun A).1 - 1) < 2 ^ 31; omega⟩) dX11_undo_30 mlX11_258 mkX11_settle rfl rfl h11.o ⟨by decide, rfl⟩ ⟨Nat.le_of_ble_eq_true rfl, Nat.le_of_ble_eq_true rfl⟩ (Nat.le_of_ble_eq_true rfl) ⟨Nat.le_of_ble_eq_true rfl, Nat.le_of_ble_eq_true rfl⟩ ?_
    refine V_iret (pc := 33) dX11_undo_33 rfl (by first | decide | omega) (by first | decide | omega) ?_
    exact ⟨rfl, rfl, hR1.hok, FrC.up (fun x hx => ⟨hf x (by omega) (by omega), rfl⟩) (by omega)⟩
end CN
