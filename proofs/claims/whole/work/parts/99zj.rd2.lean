section RE
variable {E : EnT} {S : ST} {I : IT} {L : LT} {o a n : Nat} {t : Nat → Nat} {od : Bool}
theorem c_X5_read (h5 : Lay5 E S o) (hao : a < o) (hT : TR E S I a t n) (hB : BL E S I L) : C E kX5_read 32 6 974 [.ref o, .ref a, .int (nI n), .int (b2i od)] S I L (PRe E S I L o od (rdR t n od)) := by
  have hn := hT.2.2.1
  have hb := hT.2.2.2
  have h9 := h5.A9
  refine C_of (by decide) (Nat.le_of_ble_eq_true rfl) ?_
  refine V_aload_n (pc := 0) dX5_read_0 rfl ?_
  refine V_aload_n (pc := 1) dX5_read_1 rfl ?_
  refine V_iload_n (pc := 2) dX5_read_2 rfl ?_
  refine V_callV (pc := 3) (ci := 5) (c_X5_scan (t := t) h5 hao hT) dX5_read_3 mlX5_58 mkX5_scan rfl rfl h5.o ⟨by decide, rfl⟩ ⟨Nat.le_of_ble_eq_true rfl, Nat.le_of_ble_eq_true rfl⟩ (Nat.le_of_ble_eq_true rfl) ⟨Nat.le_of_ble_eq_true rfl, Nat.le_of_ble_eq_true rfl⟩ (fun r S' I' L' hp => ?_)
  obtain ⟨rfl, rfl, rfl, hF, m, hS⟩ := hp
  refine V_aload_n (pc := 6) dX5_read_6 rfl ?_
  refine V_iconst (pc := 7) (v := nI 0) dX5_read_7 (by decide) ?_
  refine V_putI (pc := 8) 5 4 dX5_read_8 flX5_27 (by decide) (by decide) (Or.inl rfl) rfl rfl h5.o ?_
  refine V_aload_n (pc := 11) dX5_read_11 rfl ?_
  refine V_iconst (pc := 12) (v := nI 0) dX5_read_12 (by decide) ?_
  refine V_putI (pc := 13) 5 5 dX5_read_13 flX5_30 (by decide) (by decide) (Or.inl rfl) rfl rfl h5.o ?_
  refine V_aload_n (pc := 16) dX5_read_16 rfl ?_
  refine V_iconst (pc := 17) (v := nI 0) dX5_read_17 (by decide) ?_
  refine V_putI (pc := 18) 5 12 dX5_read_18 flX5_52 (by decide) (by decide) (Or.inl rfl) rfl rfl h5.o ?_
  refine V_aload_n (pc := 21) dX5_read_21 rfl ?_
  refine V_iload_n (pc := 22) dX5_read_22 rfl ?_
  refine V_putI (pc := 23) 5 6 dX5_read_23 flX5_33 (by decide) (by decide) (Or.inl rfl) (b2i_n _) (by cases od <;> rfl) h5.o ?_
  refine V_aload_n (pc := 26) dX5_read_26 rfl ?_
  refine V_getR (pc := 27) 5 9 dX5_read_27 flX5_43 (by decide) h5.o h5.R9 ?_
  refine V_iconst (pc := 30) (v := (-1)) dX5_read_30 (by decide) ?_
  refine V_callSn (pc := 31) (c_J7_fill_53178 h9 (by omega)) dX5_read_31 mlX5_62 mkJ7_fill_53178 rfl rfl ⟨Nat.le_of_ble_eq_true rfl, Nat.le_of_ble_eq_true rfl⟩ (Nat.le_of_ble_eq_true rfl) ⟨Nat.le_of_ble_eq_true rfl, Nat.le_of_ble_eq_true rfl⟩ ?_
  refine V_iconst (pc := 34) (v := nI 0) dX5_read_34 (by decide) ?_
  refine V_istore (pc := 35) (ls' := [(0, _), (1, _), (2, _), (3, _), (4, _)]) dX5_read_35 (by decide) rfl ?_
  skip
  refine rd_lp (I0 := I) (m := m) (od := od) h5 hb hn hB 12 0 (rd0 od) 0 0 (fun _ => 0, fun _ => 0, 0) _ (rdR t n od) rfl rfl ?_ (Nat.zero_le _) (Nat.zero_le _) ?_ (fun z _ hz => ?_) (fun i hi => absurd hi (Nat.not_lt_zero i)) rfl
  · obtain ⟨s1, s2, s3, s4, s5, s6⟩ := hS
    refine ⟨⟨?_, s2, s3, s4, fun j hj => ⟨?_, ?_⟩, fun j hj => ?_⟩, Nat.zero_le _, ?_, ?_, ?_, ?_, fun j hj => absurd hj (Nat.not_lt_zero j)⟩
    · rw [upr_row (by omega), up2_nej (by omega), up2_nej (by omega), up2_nej (by omega), up2_nej (by omega)]; exact s1
    · rw [upr_row (by omega), up2_row (by omega), up2_row (by omega), up2_row (by omega), up2_row (by omega)]; exact (s5 j hj).1
    · rw [upr_row (by omega), up2_row (by omega), up2_row (by omega), up2_row (by omega), up2_row (by omega)]; exact (s5 j hj).2
    · rw [upr_row (by omega), up2_row (by omega), up2_row (by omega), up2_row (by omega), up2_row (by omega)]; exact s6 j hj
    · rw [upr_row (by omega), up2_nej (by omega), up2_nej (by omega), up2_nej (by omega), up2_self]
    · rw [upr_row (by omega), up2_nej (by omega), up2_nej (by omega), up2_self]
    · rw [upr_row (by omega), up2_self]
    · rw [upr_row (by omega), up2_nej (by omega), up2_self]
  · exact ((((hF.g.u (by omega)).u (by omega)).u (by omega)).u (by omega)).ur (by omega)
  · rw [upr_self, if_pos hz]
end RE
