/-! THE CLASS: keep -/
theorem andn_zero {s al : Nat} (hs : s < 256) : andn s al = 0 ↔ s &&& al = s := by
  have hb : ∀ t, t < 8 → andn s al / 2 ^ t % 2 = s / 2 ^ t % 2 * (1 - al / 2 ^ t % 2) := fun t ht => by
    unfold andn
    rw [and_bitN, xor_bit, show 255 / 2 ^ t % 2 = 1 from by
      rcases (by omega : t = 0 ∨ t = 1 ∨ t = 2 ∨ t = 3 ∨ t = 4 ∨ t = 5 ∨ t = 6 ∨ t = 7) with rfl | rfl | rfl | rfl | rfl | rfl | rfl | rfl <;> rfl]
    rcases Nat.mod_two_eq_zero_or_one (al / 2 ^ t) with y | y <;> rw [y] <;> rfl
  constructor
  · intro h
    refine sub_of_bit hs fun t ht h1 => ?_
    have := hb t ht
    rw [h, h1, Nat.zero_div] at this
    have h2 := Nat.mod_two_eq_zero_or_one (al / 2 ^ t)
    omega
  · intro h
    refine eq_bits (Nat.lt_of_le_of_lt (andn_le s al) hs) (by omega) fun t ht => ?_
    rw [hb t ht, Nat.zero_div]
    rcases Nat.mod_two_eq_zero_or_one (s / 2 ^ t) with y | y
    · rw [y]; omega
    · rw [y, sub_bit h t y]
section DC
variable {E : EnT} {S : ST} {I : IT} {L : LT} {T v : Nat} {q : Nat → Nat}
theorem c_X8_weighSets (h8 : Lay8 E S T) {k pk al : Nat} {nr : Nat → Nat} (hk : k < 8) (hp : pk < 256) (hn : ∀ s, s < 256 → I (T + 2) s = nI (nr s) ∧ nr s ≤ 2000) : C E kX8_weighSets 1 0 0 [.ref T, .int (nI k), .int (nI pk), .int (nI al)] S I L (fun r S' I' L' => r = none ∧ S = S' ∧ L = L' ∧ (∀ x, x ≠ T + 1 → I' x = I x) ∧ (∀ i, (i < k * 256 ∨ k * 256 + 256 ≤ i) → I' (T + 1) i = I (T + 1) i) ∧ ∀ s, s < 256 → I' (T + 1) (k * 256 + s) = nI (if s &&& pk = pk ∧ s &&& al = s then pop8 (andn s pk) + nr s else 1000)) := by
  refine C_of (by decide) (Nat.le_of_ble_eq_true rfl) ?_
  generalize hPost : (fun (r : Option Value) (S' : ST) (I' : IT) (L' : LT) => r = none ∧ S = S' ∧ L = L' ∧ (∀ x, x ≠ T + 1 → I' x = I x) ∧ (∀ i, (i < k * 256 ∨ k * 256 + 256 ≤ i) → I' (T + 1) i = I (T + 1) i) ∧ ∀ s, s < 256 → I' (T + 1) (k * 256 + s) = nI (if s &&& pk = pk ∧ s &&& al = s then pop8 (andn s pk) + nr s else 1000)) = post
  have key : ∀ n, n ≤ 256 → ∀ J, (∀ x, x ≠ T + 1 → J x = I x) → (∀ i, (i < k * 256 ∨ k * 256 + 256 ≤ i) → J (T + 1) i = I (T + 1) i) → (∀ s, s < n → J (T + 1) (k * 256 + s) = nI (if s &&& pk = pk ∧ s &&& al = s then pop8 (andn s pk) + nr s else 1000)) → V E kX8_weighSets (rmOf 1 0 0) (QM E post 0 0) 0 0 S J L 3 [(0, .ref T), (1, .int (nI k)), (2, .int (nI pk)), (3, .int (nI al)), (4, .int (nI n))] [] := by
    refine loopUp (n := 256) (P := fun n => ∀ J, (∀ x, x ≠ T + 1 → J x = I x) → (∀ i, (i < k * 256 ∨ k * 256 + 256 ≤ i) → J (T + 1) i = I (T + 1) i) → (∀ s, s < n → J (T + 1) (k * 256 + s) = nI (if s &&& pk = pk ∧ s &&& al = s then pop8 (andn s pk) + nr s else 1000)) → V E kX8_weighSets (rmOf 1 0 0) (QM E post 0 0) 0 0 S J L 3 [(0, .ref T), (1, .int (nI k)), (2, .int (nI pk)), (3, .int (nI al)), (4, .int (nI n))] []) ?_ ?_
    · intro J hF hO hJ
      have hpp : post none S J L := by rw [← hPost]; exact ⟨rfl, rfl, rfl, hF, hO, hJ⟩
      refine V_iload (pc := 3) dX8_weighSets_3 rfl ?_
      refine V_sipush (pc := 5) (v := nI 256) dX8_weighSets_5 (by decide) ?_
      refine V_icmp_geN (pc := 8) (tgt := 82) dX8_weighSets_8 (by decide) (by omega) (by omega) (fun c8 => ?_) (fun n8 => absurd n8 (by omega))
      refine V_vret (pc := 82) dX8_weighSets_82 rfl (by first | decide | omega) (by first | decide | omega) ?_
      exact hpp
    · intro n hn1 ih J hF hO hJ
      have hnn := hn n hn1
      have h8p := pop8_le (andn n pk)
      have hand : n &&& pk < 256 := and256 hn1
      have handn : andn n al < 256 := Nat.lt_of_le_of_lt (andn_le n al) hn1
      have handn2 : andn n pk < 256 := Nat.lt_of_le_of_lt (andn_le n pk) hn1
      have nxt : ∀ w, w = (if n &&& pk = pk ∧ n &&& al = n then pop8 (andn n pk) + nr n else 1000) → V E kX8_weighSets (rmOf 1 0 0) (QM E post 0 0) 0 0 S (up2 J (T + 1) (k * 256 + n) (nI w)) L 76 [(0, .ref T), (1, .int (nI k)), (2, .int (nI pk)), (3, .int (nI al)), (4, .int (nI n))] [] := by
        intro w hw
        refine V_iinc1 (pc := 76) (ls' := [(0, _), (1, _), (2, _), (3, _), (4, _)]) dX8_weighSets_76 rfl (by decide) rfl ?_
        refine V_goto (pc := 79) (tgt := 3) dX8_weighSets_79 (by decide) ?_
        refine ih _ (fun x hx => by rw [up2_row hx]; exact hF x hx) (fun i hi => by rw [up2_nej (by omega)]; exact hO i hi) (fun s hs => ?_)
        by_cases e : s = n
        · subst e; rw [up2_self, hw]
        · rw [up2_nej (by omega)]; exact hJ s (by omega)
      by_cases h1 : n &&& pk = pk
      · by_cases h2 : n &&& al = n
        · have z2 := (andn_zero (al := al) hn1).mpr h2
          refine V_iload (pc := 3) dX8_weighSets_3 rfl ?_
          refine V_sipush (pc := 5) (v := nI 256) dX8_weighSets_5 (by decide) ?_
          refine V_icmp_geN (pc := 8) (tgt := 82) dX8_weighSets_8 (by decide) (by omega) (by omega) (fun c8 => absurd c8 (by omega)) (fun n8 => ?_)
          refine V_iload (pc := 11) dX8_weighSets_11 rfl ?_
          refine V_iload_n (pc := 13) dX8_weighSets_13 rfl ?_
          refine V_iandN (pc := 14) dX8_weighSets_14 ?_
          refine V_iload_n (pc := 15) dX8_weighSets_15 rfl ?_
          refine V_icmp_neN (pc := 16) (tgt := 32) dX8_weighSets_16 (by decide) (by omega) (by omega) (fun c16 => absurd c16 (by omega)) (fun n16 => ?_)
          refine V_iload (pc := 19) dX8_weighSets_19 rfl ?_
          refine V_iload_n (pc := 21) dX8_weighSets_21 rfl ?_
          refine V_iconst (pc := 22) (v := (-1)) dX8_weighSets_22 (by decide) ?_
          refine V_ixor (pc := 23) dX8_weighSets_23 ?_
          refine V_iandX (pc := 24) dX8_weighSets_24 hn1 ?_
          refine V_if_neN (pc := 25) (tgt := 32) dX8_weighSets_25 (by decide) (by omega) (fun c25 => absurd c25 (by omega)) (fun n25 => ?_)
          refine V_iconst (pc := 28) (v := nI 1) dX8_weighSets_28 (by decide) ?_
          refine V_goto (pc := 29) (tgt := 33) dX8_weighSets_29 (by decide) ?_
          refine V_istore (pc := 33) (ls' := [(0, _), (1, _), (2, _), (3, _), (4, _), (5, _)]) dX8_weighSets_33 (by decide) rfl ?_
          refine V_aload_n (pc := 35) dX8_weighSets_35 rfl ?_
          refine V_getR (pc := 36) 8 0 dX8_weighSets_36 flX8_9 (by decide) h8.o h8.R0 ?_
          refine V_iload_n (pc := 39) dX8_weighSets_39 rfl ?_
          refine V_sipush (pc := 40) (v := nI 256) dX8_weighSets_40 (by decide) ?_
          refine V_imulN (pc := 43) dX8_weighSets_43 ?_
          refine V_iload (pc := 44) dX8_weighSets_44 rfl ?_
          refine V_iaddN (pc := 46) dX8_weighSets_46 ?_
          refine V_iload (pc := 47) dX8_weighSets_47 rfl ?_
          refine V_if_eqN (pc := 49) (tgt := 72) dX8_weighSets_49 (by decide) (by omega) (fun c49 => absurd c49 (by omega)) (fun n49 => ?_)
          refine V_iload (pc := 52) dX8_weighSets_52 rfl ?_
          refine V_iload_n (pc := 54) dX8_weighSets_54 rfl ?_
          refine V_iconst (pc := 55) (v := (-1)) dX8_weighSets_55 (by decide) ?_
          refine V_ixor (pc := 56) dX8_weighSets_56 ?_
          refine V_iandX (pc := 57) dX8_weighSets_57 hn1 ?_
          refine V_callSd (pc := 58) (c_J6_bitCount_0f7a4) dX8_weighSets_58 mlX8_42 mkJ6_bitCount_0f7a4 rfl rfl ⟨Nat.le_of_ble_eq_true rfl, Nat.le_of_ble_eq_true rfl⟩ (Nat.le_of_ble_eq_true rfl) ⟨Nat.le_of_ble_eq_true rfl, Nat.le_of_ble_eq_true rfl⟩ ?_
          rw [bcI_N _ handn2]
          refine V_aload_n (pc := 61) dX8_weighSets_61 rfl ?_
          refine V_getR (pc := 62) 8 1 dX8_weighSets_62 flX8_15 (by decide) h8.o h8.R1 ?_
          refine V_iload (pc := 65) dX8_weighSets_65 rfl ?_
          refine V_ialoadE (pc := 67) dX8_weighSets_67 h8.A1 (by first | decide | omega) (by omega) ((congrFun (hF _ (by omega)) _).trans hnn.1) ?_
          refine V_iaddN (pc := 68) dX8_weighSets_68 ?_
          refine V_goto (pc := 69) (tgt := 75) dX8_weighSets_69 (by decide) ?_
          refine V_iastore (pc := 75) dX8_weighSets_75 h8.A0 (by first | decide | omega) (by omega) ?_
          refine V_loc [0, 1, 2, 3, 4] rfl ?_
          exact nxt _ (by rw [if_pos ⟨h1, h2⟩])
        · have z2 : andn n al ≠ 0 := fun z => h2 ((andn_zero hn1).mp z)
          refine V_iload (pc := 3) dX8_weighSets_3 rfl ?_
          refine V_sipush (pc := 5) (v := nI 256) dX8_weighSets_5 (by decide) ?_
          refine V_icmp_geN (pc := 8) (tgt := 82) dX8_weighSets_8 (by decide) (by omega) (by omega) (fun c8 => absurd c8 (by omega)) (fun n8 => ?_)
          refine V_iload (pc := 11) dX8_weighSets_11 rfl ?_
          refine V_iload_n (pc := 13) dX8_weighSets_13 rfl ?_
          refine V_iandN (pc := 14) dX8_weighSets_14 ?_
          refine V_iload_n (pc := 15) dX8_weighSets_15 rfl ?_
          refine V_icmp_neN (pc := 16) (tgt := 32) dX8_weighSets_16 (by decide) (by omega) (by omega) (fun c16 => absurd c16 (by omega)) (fun n16 => ?_)
          refine V_iload (pc := 19) dX8_weighSets_19 rfl ?_
          refine V_iload_n (pc := 21) dX8_weighSets_21 rfl ?_
          refine V_iconst (pc := 22) (v := (-1)) dX8_weighSets_22 (by decide) ?_
          refine V_ixor (pc := 23) dX8_weighSets_23 ?_
          refine V_iandX (pc := 24) dX8_weighSets_24 hn1 ?_
          refine V_if_neN (pc := 25) (tgt := 32) dX8_weighSets_25 (by decide) (by omega) (fun c25 => ?_) (fun n25 => absurd n25 (by omega))
          refine V_iconst (pc := 32) (v := nI 0) dX8_weighSets_32 (by decide) ?_
          refine V_istore (pc := 33) (ls' := [(0, _), (1, _), (2, _), (3, _), (4, _), (5, _)]) dX8_weighSets_33 (by decide) rfl ?_
          refine V_aload_n (pc := 35) dX8_weighSets_35 rfl ?_
          refine V_getR (pc := 36) 8 0 dX8_weighSets_36 flX8_9 (by decide) h8.o h8.R0 ?_
          refine V_iload_n (pc := 39) dX8_weighSets_39 rfl ?_
          refine V_sipush (pc := 40) (v := nI 256) dX8_weighSets_40 (by decide) ?_
          refine V_imulN (pc := 43) dX8_weighSets_43 ?_
          refine V_iload (pc := 44) dX8_weighSets_44 rfl ?_
          refine V_iaddN (pc := 46) dX8_weighSets_46 ?_
          refine V_iload (pc := 47) dX8_weighSets_47 rfl ?_
          refine V_if_eqN (pc := 49) (tgt := 72) dX8_weighSets_49 (by decide) (by omega) (fun c49 => ?_) (fun n49 => absurd n49 (by omega))
          refine V_sipush (pc := 72) (v := nI 1000) dX8_weighSets_72 (by decide) ?_
          refine V_iastore (pc := 75) dX8_weighSets_75 h8.A0 (by first | decide | omega) (by omega) ?_
          refine V_loc [0, 1, 2, 3, 4] rfl ?_
          exact nxt _ (by rw [if_neg (fun z => h2 z.2)])
      · skip
        refine V_iload (pc := 3) dX8_weighSets_3 rfl ?_
        refine V_sipush (pc := 5) (v := nI 256) dX8_weighSets_5 (by decide) ?_
        refine V_icmp_geN (pc := 8) (tgt := 82) dX8_weighSets_8 (by decide) (by omega) (by omega) (fun c8 => absurd c8 (by omega)) (fun n8 => ?_)
        refine V_iload (pc := 11) dX8_weighSets_11 rfl ?_
        refine V_iload_n (pc := 13) dX8_weighSets_13 rfl ?_
        refine V_iandN (pc := 14) dX8_weighSets_14 ?_
        refine V_iload_n (pc := 15) dX8_weighSets_15 rfl ?_
        refine V_icmp_neN (pc := 16) (tgt := 32) dX8_weighSets_16 (by decide) (by omega) (by omega) (fun c16 => ?_) (fun n16 => absurd n16 (by omega))
        refine V_iconst (pc := 32) (v := nI 0) dX8_weighSets_32 (by decide) ?_
        refine V_istore (pc := 33) (ls' := [(0, _), (1, _), (2, _), (3, _), (4, _), (5, _)]) dX8_weighSets_33 (by decide) rfl ?_
        refine V_aload_n (pc := 35) dX8_weighSets_35 rfl ?_
        refine V_getR (pc := 36) 8 0 dX8_weighSets_36 flX8_9 (by decide) h8.o h8.R0 ?_
        refine V_iload_n (pc := 39) dX8_weighSets_39 rfl ?_
        refine V_sipush (pc := 40) (v := nI 256) dX8_weighSets_40 (by decide) ?_
        refine V_imulN (pc := 43) dX8_weighSets_43 ?_
        refine V_iload (pc := 44) dX8_weighSets_44 rfl ?_
        refine V_iaddN (pc := 46) dX8_weighSets_46 ?_
        refine V_iload (pc := 47) dX8_weighSets_47 rfl ?_
        refine V_if_eqN (pc := 49) (tgt := 72) dX8_weighSets_49 (by decide) (by omega) (fun c49 => ?_) (fun n49 => absurd n49 (by omega))
        refine V_sipush (pc := 72) (v := nI 1000) dX8_weighSets_72 (by decide) ?_
        refine V_iastore (pc := 75) dX8_weighSets_75 h8.A0 (by first | decide | omega) (by omega) ?_
        refine V_loc [0, 1, 2, 3, 4] rfl ?_
        exact nxt _ (by rw [if_neg (fun z => h1 z.1)])
  refine V_iconst (pc := 0) (v := nI 0) dX8_weighSets_0 (by decide) ?_
  refine V_istore (pc := 1) (ls' := [(0, _), (1, _), (2, _), (3, _), (4, _)]) dX8_weighSets_1 (by decide) rfl ?_
  exact key 0 (by omega) I (fun _ _ => rfl) (fun _ _ => rfl) (fun s hs => absurd hs (Nat.not_lt_zero s))
theorem c_X8_widen (h8 : Lay8 E S T) {al : Nat} {f : Nat → Nat} (hn : ∀ s, s < 256 → I (T + 2) s = nI (f s)) (hf : ∀ s, f s ≤ 2000) : C E kX8_widen 1 0 0 [.ref T, .int (nI al)] S I L (fun r S' I' L' => r = none ∧ S = S' ∧ L = L' ∧ (∀ x, x ≠ T + 2 → x ≠ T + 3 → I' x = I x) ∧ ∀ s, s < 256 → I' (T + 2) s = nI (wd1 al f s)) := by
  refine C_of (by decide) (Nat.le_of_ble_eq_true rfl) ?_
  generalize hPost : (fun (r : Option Value) (S' : ST) (I' : IT) (L' : LT) => r = none ∧ S = S' ∧ L = L' ∧ (∀ x, x ≠ T + 2 → x ≠ T + 3 → I' x = I x) ∧ ∀ s, s < 256 → I' (T + 2) s = nI (wd1 al f s)) = post
  have sec : ∀ n, n ≤ 256 → ∀ J, (∀ x, x ≠ T + 2 → x ≠ T + 3 → J x = I x) → (∀ s, s < 256 → s &&& al = s → J (T + 3) s = nI (wm1 f s 8)) → (∀ s, s < n → J (T + 2) s = nI (wd1 al f s)) → V E kX8_widen (rmOf 1 0 0) (QM E post 0 0) 0 0 S J L 74 [(0, .ref T), (1, .int (nI al)), (2, .int (nI n))] [] := by
    refine loopUp (n := 256) (P := fun n => ∀ J, (∀ x, x ≠ T + 2 → x ≠ T + 3 → J x = I x) → (∀ s, s < 256 → s &&& al = s → J (T + 3) s = nI (wm1 f s 8)) → (∀ s, s < n → J (T + 2) s = nI (wd1 al f s)) → V E kX8_widen (rmOf 1 0 0) (QM E post 0 0) 0 0 S J L 74 [(0, .ref T), (1, .int (nI al)), (2, .int (nI n))] []) ?_ ?_
    · intro J hF hW hJ
      have hpp : post none S J L := by rw [← hPost]; exact ⟨rfl, rfl, rfl, hF, hJ⟩
      refine V_iload_n (pc := 74) dX8_widen_74 rfl ?_
      refine V_sipush (pc := 75) (v := nI 256) dX8_widen_75 (by decide) ?_
      refine V_icmp_geN (pc := 78) (tgt := 113) dX8_widen_78 (by decide) (by omega) (by omega) (fun c78 => ?_) (fun n78 => absurd n78 (by omega))
      refine V_vret (pc := 113) dX8_widen_113 rfl (by first | decide | omega) (by first | decide | omega) ?_
      exact hpp
    · intro n hn1 ih J hF hW hJ
      have handn : andn n al < 256 := Nat.lt_of_le_of_lt (andn_le n al) hn1
      have nxt : ∀ w, w = wd1 al f n → V E kX8_widen (rmOf 1 0 0) (QM E post 0 0) 0 0 S (up2 J (T + 2) n (nI w)) L 107 [(0, .ref T), (1, .int (nI al)), (2, .int (nI n))] [] := by
        intro w hw
        refine V_iinc1 (pc := 107) (ls' := [(0, _), (1, _), (2, _)]) dX8_widen_107 rfl (by decide) rfl ?_
        refine V_goto (pc := 110) (tgt := 74) dX8_widen_110 (by decide) ?_
        refine ih _ (fun x a1 a2 => by rw [up2_row a1]; exact hF x a1 a2) (fun s hs h => by rw [up2_ne (by omega)]; exact hW s hs h) (fun s hs => ?_)
        by_cases e : s = n
        · subst e; rw [up2_self, hw]
        · rw [up2_nej e]; exact hJ s (by omega)
      by_cases h2 : n &&& al = n
      · have z2 := (andn_zero (al := al) hn1).mpr h2
        have hwv := hW n hn1 h2
        refine V_iload_n (pc := 74) dX8_widen_74 rfl ?_
        refine V_sipush (pc := 75) (v := nI 256) dX8_widen_75 (by decide) ?_
        refine V_icmp_geN (pc := 78) (tgt := 113) dX8_widen_78 (by decide) (by omega) (by omega) (fun c78 => absurd c78 (by omega)) (fun n78 => ?_)
        refine V_aload_n (pc := 81) dX8_widen_81 rfl ?_
        refine V_getR (pc := 82) 8 1 dX8_widen_82 flX8_15 (by decide) h8.o h8.R1 ?_
        refine V_iload_n (pc := 85) dX8_widen_85 rfl ?_
        refine V_iload_n (pc := 86) dX8_widen_86 rfl ?_
        refine V_iload_n (pc := 87) dX8_widen_87 rfl ?_
        refine V_iconst (pc := 88) (v := (-1)) dX8_widen_88 (by decide) ?_
        refine V_ixor (pc := 89) dX8_widen_89 ?_
        refine V_iandX (pc := 90) dX8_widen_90 hn1 ?_
        refine V_if_neN (pc := 91) (tgt := 103) dX8_widen_91 (by decide) (by omega) (fun c91 => absurd c91 (by omega)) (fun n91 => ?_)
        refine V_aload_n (pc := 94) dX8_widen_94 rfl ?_
        refine V_getR (pc := 95) 8 2 dX8_widen_95 flX8_18 (by decide) h8.o h8.R2 ?_
        refine V_iload_n (pc := 98) dX8_widen_98 rfl ?_
        refine V_ialoadE (pc := 99) dX8_widen_99 h8.A2 (by first | decide | omega) (by omega) (hwv) ?_
        refine V_goto (pc := 100) (tgt := 106) dX8_widen_100 (by decide) ?_
        refine V_iastore (pc := 106) dX8_widen_106 h8.A1 (by first | decide | omega) (by omega) ?_
        exact nxt _ (by unfold wd1; rw [if_pos h2])
      · have z2 : andn n al ≠ 0 := fun z => h2 ((andn_zero hn1).mp z)
        refine V_iload_n (pc := 74) dX8_widen_74 rfl ?_
        refine V_sipush (pc := 75) (v := nI 256) dX8_widen_75 (by decide) ?_
        refine V_icmp_geN (pc := 78) (tgt := 113) dX8_widen_78 (by decide) (by omega) (by omega) (fun c78 => absurd c78 (by omega)) (fun n78 => ?_)
        refine V_aload_n (pc := 81) dX8_widen_81 rfl ?_
        refine V_getR (pc := 82) 8 1 dX8_widen_82 flX8_15 (by decide) h8.o h8.R1 ?_
        refine V_iload_n (pc := 85) dX8_widen_85 rfl ?_
        refine V_iload_n (pc := 86) dX8_widen_86 rfl ?_
        refine V_iload_n (pc := 87) dX8_widen_87 rfl ?_
        refine V_iconst (pc := 88) (v := (-1)) dX8_widen_88 (by decide) ?_
        refine V_ixor (pc := 89) dX8_widen_89 ?_
        refine V_iandX (pc := 90) dX8_widen_90 hn1 ?_
        refine V_if_neN (pc := 91) (tgt := 103) dX8_widen_91 (by decide) (by omega) (fun c91 => ?_) (fun n91 => absurd n91 (by omega))
        refine V_sipush (pc := 103) (v := nI 1000) dX8_widen_103 (by decide) ?_
        refine V_iastore (pc := 106) dX8_widen_106 h8.A1 (by first | decide | omega) (by omega) ?_
        exact nxt _ (by unfold wd1; rw [if_neg h2])
  have fir : ∀ n, n ≤ 256 → ∀ J, (∀ x, x ≠ T + 3 → J x = I x) → (∀ s, s < n → s &&& al = s → J (T + 3) s = nI (wm1 f s 8)) → V E kX8_widen (rmOf 1 0 0) (QM E post 0 0) 0 0 S J L 2 [(0, .ref T), (1, .int (nI al)), (2, .int (nI n))] [] := by
    refine loopUp (n := 256) (P := fun n => ∀ J, (∀ x, x ≠ T + 3 → J x = I x) → (∀ s, s < n → s &&& al = s → J (T + 3) s = nI (wm1 f s 8)) → V E kX8_widen (rmOf 1 0 0) (QM E post 0 0) 0 0 S J L 2 [(0, .ref T), (1, .int (nI al)), (2, .int (nI n))] []) ?_ ?_
    · intro J hF hW
      refine V_iload_n (pc := 2) dX8_widen_2 rfl ?_
      refine V_sipush (pc := 3) (v := nI 256) dX8_widen_3 (by decide) ?_
      refine V_icmp_geN (pc := 6) (tgt := 72) dX8_widen_6 (by decide) (by omega) (by omega) (fun c6 => ?_) (fun n6 => absurd n6 (by omega))
      refine V_iconst (pc := 72) (v := nI 0) dX8_widen_72 (by decide) ?_
      refine V_istore_n (pc := 73) (ls' := [(0, _), (1, _), (2, _)]) dX8_widen_73 (by decide) rfl ?_
      exact sec 0 (by omega) J (fun x a1 a2 => hF x a2) hW (fun s hs => absurd hs (Nat.not_lt_zero s))
    · intro n hn1 ih J hF hW
      have handn : andn n al < 256 := Nat.lt_of_le_of_lt (andn_le n al) hn1
      have hJ2 : ∀ s, s < 256 → J (T + 2) s = nI (f s) := fun s hs => by rw [hF _ (by omega)]; exact hn s hs
      by_cases h2 : n &&& al = n
      · have z2 := (andn_zero (al := al) hn1).mpr h2
        have inn : ∀ t, t ≤ 8 → V E kX8_widen (rmOf 1 0 0) (QM E post 0 0) 0 0 S J L 30 [(0, .ref T), (1, .int (nI al)), (2, .int (nI n)), (3, .int (nI (wm1 f n t))), (4, .int (nI t))] [] := by
          refine loopUp (n := 8) (P := fun t => V E kX8_widen (rmOf 1 0 0) (QM E post 0 0) 0 0 S J L 30 [(0, .ref T), (1, .int (nI al)), (2, .int (nI n)), (3, .int (nI (wm1 f n t))), (4, .int (nI t))] []) ?_ ?_
          · skip
            refine V_iload (pc := 30) dX8_widen_30 rfl ?_
            refine V_bipush (pc := 32) (v := nI 8) dX8_widen_32 (by decide) ?_
            refine V_icmp_geN (pc := 34) (tgt := 59) dX8_widen_34 (by decide) (by omega) (by omega) (fun c34 => ?_) (fun n34 => absurd n34 (by omega))
            refine V_aload_n (pc := 59) dX8_widen_59 rfl ?_
            refine V_getR (pc := 60) 8 2 dX8_widen_60 flX8_18 (by decide) h8.o h8.R2 ?_
            refine V_iload_n (pc := 63) dX8_widen_63 rfl ?_
            refine V_iload_n (pc := 64) dX8_widen_64 rfl ?_
            refine V_iastore (pc := 65) dX8_widen_65 h8.A2 (by first | decide | omega) (by omega) ?_
            refine V_loc [0, 1, 2] rfl ?_
            refine V_iinc1 (pc := 66) (ls' := [(0, _), (1, _), (2, _)]) dX8_widen_66 rfl (by decide) rfl ?_
            refine V_goto (pc := 69) (tgt := 2) dX8_widen_69 (by decide) ?_
            refine ih _ (fun x hx => by rw [up2_row hx]; exact hF x hx) (fun s hs h => ?_)
            by_cases e : s = n
            · subst e; rw [up2_self]
            · rw [up2_nej e]; exact hW s (by omega) h
          · intro t ht ih2
            have hx := xor256 hn1 (pow_256 ht)
            have hx1 : n ^^^ 1 * 2 ^ t < 256 := by rw [Nat.one_mul]; exact hx
            have hp2 := pow8 ht
            have hw1 := wm1_c (s := n) hf t
            have hfx := hf (n ^^^ 2 ^ t)
            have es : wm1 f n (t + 1) = min (wm1 f n t) (f (n ^^^ 2 ^ t)) := rfl
            rw [es] at ih2
            have hl : J (T + 2) (n ^^^ 1 * 2 ^ t) = nI (f (n ^^^ 2 ^ t)) := by rw [Nat.one_mul]; exact hJ2 _ hx
            refine V_iload (pc := 30) dX8_widen_30 rfl ?_
            refine V_bipush (pc := 32) (v := nI 8) dX8_widen_32 (by decide) ?_
            refine V_icmp_geN (pc := 34) (tgt := 59) dX8_widen_34 (by decide) (by omega) (by omega) (fun c34 => absurd c34 (by omega)) (fun n34 => ?_)
            refine V_iload_n (pc := 37) dX8_widen_37 rfl ?_
            refine V_aload_n (pc := 38) dX8_widen_38 rfl ?_
            refine V_getR (pc := 39) 8 1 dX8_widen_39 flX8_15 (by decide) h8.o h8.R1 ?_
            refine V_iload_n (pc := 42) dX8_widen_42 rfl ?_
            refine V_iconst (pc := 43) (v := nI 1) dX8_widen_43 (by decide) ?_
            refine V_iload (pc := 44) dX8_widen_44 rfl ?_
            refine V_ishlN (pc := 46) dX8_widen_46 (by omega) (by omega) ?_
            refine V_ixorN (pc := 47) dX8_widen_47 ?_
            refine V_ialoadE (pc := 48) dX8_widen_48 h8.A1 (by first | decide | omega) (by omega) (hl) ?_
            refine V_mminN (pc := 49) dX8_widen_49 mlX8_77 (Nat.le_of_ble_eq_true rfl) (Nat.le_of_ble_eq_true rfl) ⟨Nat.le_of_ble_eq_true rfl, Nat.le_of_ble_eq_true rfl⟩ (by omega) (by omega) ?_
            refine V_istore_n (pc := 52) (ls' := [(0, _), (1, _), (2, _), (3, _), (4, _)]) dX8_widen_52 (by decide) rfl ?_
            refine V_iinc1 (pc := 53) (ls' := [(0, _), (1, _), (2, _), (3, _), (4, _)]) dX8_widen_53 rfl (by decide) rfl ?_
            refine V_goto (pc := 56) (tgt := 30) dX8_widen_56 (by decide) ?_
            exact ih2
        refine V_iload_n (pc := 2) dX8_widen_2 rfl ?_
        refine V_sipush (pc := 3) (v := nI 256) dX8_widen_3 (by decide) ?_
        refine V_icmp_geN (pc := 6) (tgt := 72) dX8_widen_6 (by decide) (by omega) (by omega) (fun c6 => absurd c6 (by omega)) (fun n6 => ?_)
        refine V_iload_n (pc := 9) dX8_widen_9 rfl ?_
        refine V_iload_n (pc := 10) dX8_widen_10 rfl ?_
        refine V_iconst (pc := 11) (v := (-1)) dX8_widen_11 (by decide) ?_
        refine V_ixor (pc := 12) dX8_widen_12 ?_
        refine V_iandX (pc := 13) dX8_widen_13 hn1 ?_
        refine V_if_eqN (pc := 14) (tgt := 20) dX8_widen_14 (by decide) (by omega) (fun c14 => ?_) (fun n14 => absurd n14 (by omega))
        refine V_aload_n (pc := 20) dX8_widen_20 rfl ?_
        refine V_getR (pc := 21) 8 1 dX8_widen_21 flX8_15 (by decide) h8.o h8.R1 ?_
        refine V_iload_n (pc := 24) dX8_widen_24 rfl ?_
        refine V_ialoadE (pc := 25) dX8_widen_25 h8.A1 (by first | decide | omega) (by omega) (hJ2 n hn1) ?_
        refine V_istore_n (pc := 26) (ls' := [(0, _), (1, _), (2, _), (3, _)]) dX8_widen_26 (by decide) rfl ?_
        refine V_iconst (pc := 27) (v := nI 0) dX8_widen_27 (by decide) ?_
        refine V_istore (pc := 28) (ls' := [(0, _), (1, _), (2, _), (3, _), (4, _)]) dX8_widen_28 (by decide) rfl ?_
        exact inn 0 (by omega)
      · have z2 : andn n al ≠ 0 := fun z => h2 ((andn_zero hn1).mp z)
        refine V_iload_n (pc := 2) dX8_widen_2 rfl ?_
        refine V_sipush (pc := 3) (v := nI 256) dX8_widen_3 (by decide) ?_
        refine V_icmp_geN (pc := 6) (tgt := 72) dX8_widen_6 (by decide) (by omega) (by omega) (fun c6 => absurd c6 (by omega)) (fun n6 => ?_)
        refine V_iload_n (pc := 9) dX8_widen_9 rfl ?_
        refine V_iload_n (pc := 10) dX8_widen_10 rfl ?_
        refine V_iconst (pc := 11) (v := (-1)) dX8_widen_11 (by decide) ?_
        refine V_ixor (pc := 12) dX8_widen_12 ?_
        refine V_iandX (pc := 13) dX8_widen_13 hn1 ?_
        refine V_if_eqN (pc := 14) (tgt := 20) dX8_widen_14 (by decide) (by omega) (fun c14 => absurd c14 (by omega)) (fun n14 => ?_)
        refine V_goto (pc := 17) (tgt := 66) dX8_widen_17 (by decide) ?_
        refine V_iinc1 (pc := 66) (ls' := [(0, _), (1, _), (2, _)]) dX8_widen_66 rfl (by decide) rfl ?_
        refine V_goto (pc := 69) (tgt := 2) dX8_widen_69 (by decide) ?_
        exact ih J hF (fun s hs h => hW s (by by_cases e : s = n; rw [e] at h; exact absurd h h2; omega) h)
  refine V_iconst (pc := 0) (v := nI 0) dX8_widen_0 (by decide) ?_
  refine V_istore_n (pc := 1) (ls' := [(0, _), (1, _), (2, _)]) dX8_widen_1 (by decide) rfl ?_
  exact fir 0 (by omega) I (fun _ _ => rfl) (fun s hs => absurd hs (Nat.not_lt_zero s))
theorem c_X8_cheapest (h8 : Lay8 E S T) {k d ah : Nat} {w : Nat → Nat} (hk : k < 8) (hd : d < 9) (hah : ah < 256) (hw : ∀ s, s < 256 → I (T + 1) (k * 256 + s) = nI (w s) ∧ w s ≤ 2000) (hr : k ≠ 0 → I (T + 4) (k - 1) = nI ah) : Cd E kX8_cheapest 1 0 0 [.ref T, .int (nI k), .int (nI d)] S I L (.int (nI (chp w (fun s => decide (k = 0) || decide (pop8 (ah ^^^ s) ≤ d)) 256).1)) S I L := by
  have hcl : ∀ n, (chp w (fun s => decide (k = 0) || decide (pop8 (ah ^^^ s) ≤ d)) n).2 ≤ 1000 := by
    intro n
    induction n with
    | zero => exact Nat.le_refl _
    | succ n ih =>
      rw [chp_s]
      split
      · rename_i c; show w n ≤ _; exact Nat.le_trans (Nat.le_of_lt c.2) ih
      · exact ih
  generalize hmay : (fun s => decide (k = 0) || decide (pop8 (ah ^^^ s) ≤ d)) = may at hcl ⊢
  have hm1 : ∀ s, may s = (decide (k = 0) || decide (pop8 (ah ^^^ s) ≤ d)) := fun s => by rw [← hmay]
  refine C_of (by decide) (Nat.le_of_ble_eq_true rfl) ?_
  refine V_iconst (pc := 0) (v := nI 0) dX8_cheapest_0 (by decide) ?_
  refine V_istore_n (pc := 1) (ls' := [(0, _), (1, _), (2, _), (3, _)]) dX8_cheapest_1 (by decide) rfl ?_
  refine V_sipush (pc := 2) (v := nI 1000) dX8_cheapest_2 (by decide) ?_
  refine V_top (show nI 1000 = nI (chp w may 0).2 from rfl) ?_
  refine V_istore (pc := 5) (ls' := [(0, _), (1, _), (2, _), (3, _), (4, _)]) dX8_cheapest_5 (by decide) rfl ?_
  refine V_iconst (pc := 7) (v := nI 0) dX8_cheapest_7 (by decide) ?_
  refine V_istore (pc := 8) (ls' := [(0, _), (1, _), (2, _), (3, _), (4, _), (5, _)]) dX8_cheapest_8 (by decide) rfl ?_
  refine loopUp (n := 256) (P := fun n => V E kX8_cheapest (rmOf 1 0 0) (Qd E (.int (nI (chp w may 256).1)) S I L) 0 0 S I L 10 [(0, .ref T), (1, .int (nI k)), (2, .int (nI d)), (3, .int (nI (chp w may n).1)), (4, .int (nI (chp w may n).2)), (5, .int (nI n))] []) ?_ ?_ 0 (by omega)
  · generalize chp w may 256 = g
    refine V_iload (pc := 10) dX8_cheapest_10 rfl ?_
    refine V_sipush (pc := 12) (v := nI 256) dX8_cheapest_12 (by decide) ?_
    refine V_icmp_geN (pc := 15) (tgt := 94) dX8_cheapest_15 (by decide) (by omega) (by omega) (fun c15 => ?_) (fun n15 => absurd n15 (by omega))
    refine V_iload_n (pc := 94) dX8_cheapest_94 rfl ?_
    refine V_iret (pc := 95) dX8_cheapest_95 rfl (by first | decide | omega) (by first | decide | omega) ?_
    exact ⟨rfl, rfl, rfl, rfl⟩
  · intro n hn ih
    have hwn := hw n hn
    have hcn := hcl n
    have hx := xor256 hn hah
    have hpx := pop8_le (n ^^^ ah)
    rw [chp_s w may n] at ih
    have ym : ∀ m : Nat, m ≤ 1 → (m = 1 ↔ may n = true) → V E kX8_cheapest (rmOf 1 0 0) (Qd E (.int (nI (chp w may 256).1)) S I L) 0 0 S I L 45 [(0, .ref T), (1, .int (nI k)), (2, .int (nI d)), (3, .int (nI (chp w may n).1)), (4, .int (nI (chp w may n).2)), (5, .int (nI n))] [.int (nI m)] := by
      intro m hm01 hmi
      refine V_istore (pc := 45) (ls' := [(0, _), (1, _), (2, _), (3, _), (4, _), (5, _), (6, _)]) dX8_cheapest_45 (by decide) rfl ?_
      refine V_iload (pc := 47) dX8_cheapest_47 rfl ?_
      refine V_if_eqN (pc := 49) (tgt := 88) dX8_cheapest_49 (by decide) (by omega) (fun c49 => ?_) (fun n49 => ?_)
      · skip
        try first
        | rw [if_neg (fun z => by have := hmi.mpr z.1; omega)] at ih
        | rw [if_neg (fun z => by have := z.2; omega)] at ih
        | fail
        refine V_loc [0, 1, 2, 3, 4, 5] rfl ?_
        refine V_iinc1 (pc := 88) (ls' := [(0, _), (1, _), (2, _), (3, _), (4, _), (5, _)]) dX8_cheapest_88 rfl (by decide) rfl ?_
        refine V_goto (pc := 91) (tgt := 10) dX8_cheapest_91 (by decide) ?_
        exact ih
      · skip
        refine V_aload_n (pc := 52) dX8_cheapest_52 rfl ?_
        refine V_getR (pc := 53) 8 0 dX8_cheapest_53 flX8_9 (by decide) h8.o h8.R0 ?_
        refine V_iload_n (pc := 56) dX8_cheapest_56 rfl ?_
        refine V_sipush (pc := 57) (v := nI 256) dX8_cheapest_57 (by decide) ?_
        refine V_imulN (pc := 60) dX8_cheapest_60 ?_
        refine V_iload (pc := 61) dX8_cheapest_61 rfl ?_
        refine V_iaddN (pc := 63) dX8_cheapest_63 ?_
        refine V_ialoadE (pc := 64) dX8_cheapest_64 h8.A0 (by first | decide | omega) (by omega) (hwn.1) ?_
        refine V_iload (pc := 65) dX8_cheapest_65 rfl ?_
        refine V_icmp_geN (pc := 67) (tgt := 88) dX8_cheapest_67 (by decide) (by omega) (by omega) (fun c67 => ?_) (fun n67 => ?_)
        · skip
          try first
          | rw [if_neg (fun z => by have := hmi.mpr z.1; omega)] at ih
          | rw [if_neg (fun z => by have := z.2; omega)] at ih
          | fail
          refine V_loc [0, 1, 2, 3, 4, 5] rfl ?_
          refine V_iinc1 (pc := 88) (ls' := [(0, _), (1, _), (2, _), (3, _), (4, _), (5, _)]) dX8_cheapest_88 rfl (by decide) rfl ?_
          refine V_goto (pc := 91) (tgt := 10) dX8_cheapest_91 (by decide) ?_
          exact ih
        · skip
          rw [if_pos ⟨hmi.mp (by omega), by omega⟩] at ih
          refine V_aload_n (pc := 70) dX8_cheapest_70 rfl ?_
          refine V_getR (pc := 71) 8 0 dX8_cheapest_71 flX8_9 (by decide) h8.o h8.R0 ?_
          refine V_iload_n (pc := 74) dX8_cheapest_74 rfl ?_
          refine V_sipush (pc := 75) (v := nI 256) dX8_cheapest_75 (by decide) ?_
          refine V_imulN (pc := 78) dX8_cheapest_78 ?_
          refine V_iload (pc := 79) dX8_cheapest_79 rfl ?_
          refine V_iaddN (pc := 81) dX8_cheapest_81 ?_
          refine V_ialoadE (pc := 82) dX8_cheapest_82 h8.A0 (by first | decide | omega) (by omega) (hwn.1) ?_
          refine V_istore (pc := 83) (ls' := [(0, _), (1, _), (2, _), (3, _), (4, _), (5, _), (6, _)]) dX8_cheapest_83 (by decide) rfl ?_
          refine V_iload (pc := 85) dX8_cheapest_85 rfl ?_
          refine V_istore_n (pc := 87) (ls' := [(0, _), (1, _), (2, _), (3, _), (4, _), (5, _), (6, _)]) dX8_cheapest_87 (by decide) rfl ?_
          try first
          | rw [if_neg (fun z => by have := hmi.mpr z.1; omega)] at ih
          | rw [if_neg (fun z => by have := z.2; omega)] at ih
          | fail
          refine V_loc [0, 1, 2, 3, 4, 5] rfl ?_
          refine V_iinc1 (pc := 88) (ls' := [(0, _), (1, _), (2, _), (3, _), (4, _), (5, _)]) dX8_cheapest_88 rfl (by decide) rfl ?_
          refine V_goto (pc := 91) (tgt := 10) dX8_cheapest_91 (by decide) ?_
          exact ih
    by_cases h0 : k = 0
    · skip
      refine V_iload (pc := 10) dX8_cheapest_10 rfl ?_
      refine V_sipush (pc := 12) (v := nI 256) dX8_cheapest_12 (by decide) ?_
      refine V_icmp_geN (pc := 15) (tgt := 94) dX8_cheapest_15 (by decide) (by omega) (by omega) (fun c15 => absurd c15 (by omega)) (fun n15 => ?_)
      refine V_iload_n (pc := 18) dX8_cheapest_18 rfl ?_
      refine V_if_eqN (pc := 19) (tgt := 40) dX8_cheapest_19 (by decide) (by omega) (fun c19 => ?_) (fun n19 => absurd n19 (by omega))
      refine V_iconst (pc := 40) (v := nI 1) dX8_cheapest_40 (by decide) ?_
      refine V_goto (pc := 41) (tgt := 45) dX8_cheapest_41 (by decide) ?_
      exact ym 1 (by omega) (by rw [hm1, decide_eq_true h0]; simp)
    · have hr0 := hr h0
      have hmn : may n = decide (pop8 (n ^^^ ah) ≤ d) := by rw [hm1, decide_eq_false h0, Bool.false_or, Nat.xor_comm]
      refine V_iload (pc := 10) dX8_cheapest_10 rfl ?_
      refine V_sipush (pc := 12) (v := nI 256) dX8_cheapest_12 (by decide) ?_
      refine V_icmp_geN (pc := 15) (tgt := 94) dX8_cheapest_15 (by decide) (by omega) (by omega) (fun c15 => absurd c15 (by omega)) (fun n15 => ?_)
      refine V_iload_n (pc := 18) dX8_cheapest_18 rfl ?_
      refine V_if_eqN (pc := 19) (tgt := 40) dX8_cheapest_19 (by decide) (by omega) (fun c19 => absurd c19 (by omega)) (fun n19 => ?_)
      refine V_iload (pc := 22) dX8_cheapest_22 rfl ?_
      refine V_aload_n (pc := 24) dX8_cheapest_24 rfl ?_
      refine V_getR (pc := 25) 8 3 dX8_cheapest_25 flX8_21 (by decide) h8.o h8.R3 ?_
      refine V_iload_n (pc := 28) dX8_cheapest_28 rfl ?_
      refine V_iconst (pc := 29) (v := nI 1) dX8_cheapest_29 (by decide) ?_
      refine V_isubN (pc := 30) dX8_cheapest_30 (by omega) ?_
      refine V_ialoadE (pc := 31) dX8_cheapest_31 h8.A3 (by first | decide | omega) (by omega) (hr0) ?_
      refine V_ixorN (pc := 32) dX8_cheapest_32 ?_
      refine V_callSd (pc := 33) (c_J6_bitCount_0f7a4) dX8_cheapest_33 mlX8_42 mkJ6_bitCount_0f7a4 rfl rfl ⟨Nat.le_of_ble_eq_true rfl, Nat.le_of_ble_eq_true rfl⟩ (Nat.le_of_ble_eq_true rfl) ⟨Nat.le_of_ble_eq_true rfl, Nat.le_of_ble_eq_true rfl⟩ ?_
      rw [bcI_N _ hx]
      refine V_iload_n (pc := 36) dX8_cheapest_36 rfl ?_
      refine V_icmp_gtN (pc := 37) (tgt := 44) dX8_cheapest_37 (by decide) (by omega) (by omega) (fun c37 => ?_) (fun n37 => ?_)
      · skip
        have hy : ¬ pop8 (n ^^^ ah) ≤ d := by omega
        refine V_iconst (pc := 44) (v := nI 0) dX8_cheapest_44 (by decide) ?_
        first
        | exact ym 1 (by omega) (by rw [hmn, decide_eq_true hy]; simp)
        | exact ym 0 (by omega) (by rw [hmn, decide_eq_false hy]; simp)
        | fail
      · skip
        have hy : pop8 (n ^^^ ah) ≤ d := by omega
        refine V_iconst (pc := 40) (v := nI 1) dX8_cheapest_40 (by decide) ?_
        refine V_goto (pc := 41) (tgt := 45) dX8_cheapest_41 (by decide) ?_
        first
        | exact ym 1 (by omega) (by rw [hmn, decide_eq_true hy]; simp)
        | exact ym 0 (by omega) (by rw [hmn, decide_eq_false hy]; simp)
        | fail
end DC
