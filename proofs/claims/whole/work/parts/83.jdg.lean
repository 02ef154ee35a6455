/-! THE CLASS: texts of laws, the judge -/
def SgC (op arg : Nat → Nat) (m s e : Nat) (F : SF) : Prop := s ≤ e ∧ e < m ∧ op e = 31 ∧ (∀ k, s ≤ k → k < e → op k ≠ 31 ∧ ((op k = 29 ∨ op k = 30) → k < arg k ∧ arg k ≤ e)) ∧ ∃ d, d ≤ 50 ∧ Rn lfC op arg s e d F
def TxM (E : EnT) (S : ST) (I : IT) (a : Nat) (law : LawT) : Prop := law.1 ≤ 12 ∧ ∃ (m : Nat) (op arg : Nat → Nat), Lay7 E S a law.1 m ∧ m ≤ 448 ∧ I a 0 = nI law.1 ∧ ItM I a m op arg ∧ (∀ k, k < m → op k = 1 → arg k < 9) ∧ ∀ c, c < law.1 → law.2.1 c < 4 ∧ I (a + 1) c = nI (law.2.1 c) ∧ (law.2.1 c ≠ 3 → ∃ s e, I (a + 3) (c * 4) = nI s ∧ SgC op arg m s e (law.2.2.1 c)) ∧ (law.2.1 c = 3 → I (a + 3) (c * 4) = -1 ∧ law.2.2.1 c = one) ∧ ((I (a + 3) (c * 4 + 3) = -1 ∧ law.2.2.2 c = one) ∨ ∃ s e, I (a + 3) (c * 4 + 3) = nI s ∧ SgC op arg m s e (law.2.2.2 c) ∧ TFo (law.2.2.2 c))
theorem TxM.cg {E : EnT} {S : ST} {I I' : IT} {a : Nat} {law : LawT} (h : TxM E S I a law) (e : ∀ x, a ≤ x → x ≤ a + 5 → I' x = I x) : TxM E S I' a law := by
  obtain ⟨h12, m, op, arg, h1, h2, h3, h4, h5, h6⟩ := h
  refine ⟨h12, m, op, arg, h1, h2, (congrFun (e a (by omega) (by omega)) 0).trans h3, ?_, h5, ?_⟩
  · unfold ItM at h4 ⊢; rw [e (a + 4) (by omega) (by omega), e (a + 5) (by omega) (by omega)]; exact h4
  · rw [e (a + 1) (by omega) (by omega), e (a + 3) (by omega) (by omega)]; exact h6
theorem clampN_I {v : Int} (hv : sml v) {hi : Nat} (hh : hi ≤ 1000) : maxI (nI 0) (minI (Int32.ofInt v) (nI hi)) = nI (clampN v hi) := by
  have e1 : ∀ {a b : Int}, sml a → sml b → (Int32.ofInt a < Int32.ofInt b ↔ a < b) := fun ha hb => by rw [Int32.lt_iff_toInt_lt, i32_t ha, i32_t hb]
  have sh : sml (hi : Int) := ⟨by omega, by omega⟩
  have s0 : sml 0 := ⟨by decide, by decide⟩
  unfold minI
  rw [i32_N hi]
  by_cases h1 : (hi : Int) < v
  · rw [if_pos ((e1 sh hv).mpr h1)]
    unfold maxI clampN
    rw [show nI 0 = Int32.ofInt 0 from rfl, if_neg (show ¬ v < 0 by omega), if_pos h1]
    by_cases h2 : 0 < hi
    · rw [if_pos ((e1 s0 sh).mpr (by omega)), i32_N]
    · rw [if_neg (fun z => by have := (e1 s0 sh).mp z; omega), show hi = 0 by omega]; rfl
  · rw [if_neg (fun z => h1 ((e1 sh hv).mp z))]
    unfold maxI clampN
    rw [show nI 0 = Int32.ofInt 0 from rfl]
    by_cases h2 : v < 0
    · rw [if_neg (fun z => by have := (e1 s0 hv).mp z; omega), if_pos h2]; rfl
    · rw [if_neg h2, if_neg h1]
      have ev : Int32.ofInt v = nI v.toNat := by rw [i32_N]; congr 1; omega
      by_cases h3 : 0 < v
      · rw [if_pos ((e1 s0 hv).mpr h3), ev]
      · rw [if_neg (fun z => by have := (e1 s0 hv).mp z; omega), show v = 0 by omega]; rfl
section CD
variable {E : EnT} {S : ST} {I : IT} {L : LT} {j t a v : Nat} {law : LawT} {w : WT} {q : Nat → Nat}
def tdI (law : LawT) (kd : Nat) (w : WT) (n : Nat) (most : Nat) (wo : Int32) : Int32 := match tld law kd w n with | none => wo | some v => nI (clampN v most)
theorem tld_s (law : LawT) (kd : Nat) (w : WT) (n : Nat) : tld law kd w (n + 1) = if law.2.1 n = kd ∧ holds law n w = true then law.2.2.1 n w else tld law kd w n := rfl
theorem c_X3_told (h3 : Lay3 E S j t) (hT : TxM E S I a law) (hs : LawS law) (hat : (∀ x, a ≤ x → x ≤ a + 5 → x ≠ t + 1) ∧ j + 1 ≠ t + 1) (hwo : wok w) (hwd : ∀ i, i < 9 → I (j + 1) i = Int32.ofInt (w i)) {kd most : Nat} {wo : Int32} (hkd : kd < 4) (hm : most ≤ 1000) : C E kX3_told 2 0 0 [.ref j, .ref a, .int (nI kd), .int (nI most), .int wo] S I L (fun r S' I' L' => r = some (.int (tdI law kd w law.1 most wo)) ∧ S = S' ∧ L = L' ∧ ∀ x, x ≠ t + 1 → I' x = I x) := by
  have hT0 := hT
  obtain ⟨h12, m, op, arg, g1, g2, g3, g4, g5, g6⟩ := hT
  have h7 := g1
  refine C_of (by decide) (Nat.le_of_ble_eq_true rfl) ?_
  refine V_aload_n (pc := 0) dX3_told_0 rfl ?_
  refine V_getIE (pc := 1) 7 0 dX3_told_1 flX3_75 (by decide) h7.o (g3) ?_
  refine V_iconst (pc := 4) (v := nI 1) dX3_told_4 (by decide) ?_
  refine V_isub (pc := 5) dX3_told_5 ?_
  refine V_istore (pc := 6) (ls' := [(0, _), (1, _), (2, _), (3, _), (4, _), (5, _)]) dX3_told_6 (by decide) rfl ?_
  skip
  show V E kX3_told _ _ _ _ _ _ _ 8 [(0, .ref j), (1, .ref a), (2, .int (nI kd)), (3, .int (nI most)), (4, .int wo), (5, .int (pred1 law.1))] []
  have key : ∀ (n : Nat) (I' : IT) (ls : List (Nat × Value)), n ≤ law.1 → (∀ x, x ≠ t + 1 → I' x = I x) → tdI law kd w n most wo = tdI law kd w law.1 most wo → (ls = [(0, .ref j), (1, .ref a), (2, .int (nI kd)), (3, .int (nI most)), (4, .int wo), (5, .int (pred1 n))]) → V E kX3_told (rmOf 2 0 0) (QM E (fun r S' I' L' => r = some (.int (tdI law kd w law.1 most wo)) ∧ S = S' ∧ L = L' ∧ ∀ x, x ≠ t + 1 → I' x = I x) 0 0) 0 0 S I' L 8 ls [] := by
    intro n
    induction n with
    | zero =>
      intro I' ls _ hf htd hls
      subst hls
      rw [pred1_0]
      refine V_iload (pc := 8) dX3_told_8 rfl ?_
      refine V_if_lt (pc := 10) (tgt := 103) dX3_told_10 (by decide) (fun c10 => ?_) (fun n10 => absurd n10 (by decide))
      refine V_iload (pc := 103) dX3_told_103 rfl ?_
      refine V_iret (pc := 105) dX3_told_105 rfl (by first | decide | omega) (by first | decide | omega) ?_
      exact ⟨by rw [← htd]; rfl, rfl, rfl, hf⟩
    | succ n ih =>
      intro J ls hn hf htd hls
      subst hls
      rw [pred1_s]
      obtain ⟨k1, k2, k3, k4, k5⟩ := g6 n (by omega)
      have e1 : J (a + 1) = I (a + 1) := hf _ (hat.1 _ (by omega) (by omega))
      have e3 : J (a + 3) = I (a + 3) := hf _ (hat.1 _ (by omega) (by omega))
      have hI : ItM J a m op arg := by unfold ItM at g4 ⊢; rw [hf (a + 4) (hat.1 _ (by omega) (by omega)), hf (a + 5) (hat.1 _ (by omega) (by omega))]; exact g4
      have hwd2 : ∀ k, k < m → op k = 1 → J (j + 1) (arg k) = Int32.ofInt (w (arg k)) := fun k h1 h2 => by rw [hf _ hat.2]; exact hwd _ (g5 k h1 h2)
      have nxt1 : ∀ I2, (∀ x, x ≠ t + 1 → I2 x = I x) → ¬ (law.2.1 n = kd ∧ holds law n w = true) → V E kX3_told (rmOf 2 0 0) (QM E (fun r S' I' L' => r = some (.int (tdI law kd w law.1 most wo)) ∧ S = S' ∧ L = L' ∧ ∀ x, x ≠ t + 1 → I' x = I x) 0 0) 0 0 S I2 L 97 [(0, .ref j), (1, .ref a), (2, .int (nI kd)), (3, .int (nI most)), (4, .int wo), (5, .int (nI n))] [] := by
        intro I2 hf2 hno
        refine V_iinc (pc := 97) (ls' := [(0, _), (1, _), (2, _), (3, _), (4, _), (5, _)]) dX3_told_97 rfl (pred1_iinc _) (by decide) rfl ?_
        refine V_goto (pc := 100) (tgt := 8) dX3_told_100 (by decide) ?_
        refine ih I2 _ (by omega) hf2 ?_ rfl
        rw [← htd]
        unfold tdI
        rw [tld_s _ _ _ n, if_neg hno]
      by_cases hk : law.2.1 n = kd
      · have h6 := h3.O0
        -- the sum
        have aft : ∀ I2, (∀ x, x ≠ t + 1 → I2 x = I x) → law.2.2.2 n w = some 1 → V E kX3_told (rmOf 2 0 0) (QM E (fun r S' I' L' => r = some (.int (tdI law kd w law.1 most wo)) ∧ S = S' ∧ L = L' ∧ ∀ x, x ≠ t + 1 → I' x = I x) 0 0) 0 0 S I2 L 58 [(0, .ref j), (1, .ref a), (2, .int (nI kd)), (3, .int (nI most)), (4, .int wo), (5, .int (nI n)), (6, .int (nI (n * 4)))] [] := by
          intro I2 hf2 hT1
          have e3 : I2 (a + 3) = I (a + 3) := hf2 _ (hat.1 _ (by omega) (by omega))
          have hI2 : ItM I2 a m op arg := by unfold ItM at g4 ⊢; rw [hf2 (a + 4) (hat.1 _ (by omega) (by omega)), hf2 (a + 5) (hat.1 _ (by omega) (by omega))]; exact g4
          have hwd3 : ∀ k, k < m → op k = 1 → I2 (j + 1) (arg k) = Int32.ofInt (w (arg k)) := fun k h1 h2 => by rw [hf2 _ hat.2]; exact hwd _ (g5 k h1 h2)
          have yes : ∀ v, law.2.2.1 n w = some v → tdI law kd w law.1 most wo = nI (clampN v most) := fun v hv => by
            rw [← htd]
            unfold tdI
            rw [tld_s _ _ _ n, if_pos ⟨hk, by simp [holds, hT1, hv]⟩, hv]
          by_cases h3k : law.2.1 n = 3
          · obtain ⟨b1, b2⟩ := k4 h3k
            have ev := yes 1 (by rw [b2]; rfl)
            refine V_aload_n (pc := 58) dX3_told_58 rfl ?_
            refine V_getR (pc := 59) 3 0 dX3_told_59 flX3_17 (by decide) h3.o h3.R0 ?_
            refine V_aload_n (pc := 62) dX3_told_62 rfl ?_
            refine V_aload_n (pc := 63) dX3_told_63 rfl ?_
            refine V_getR (pc := 64) 7 3 dX3_told_64 flX3_82 (by decide) h7.o h7.R3 ?_
            refine V_iload (pc := 67) dX3_told_67 rfl ?_
            refine V_ialoadE (pc := 69) dX3_told_69 h7.A3 (by first | decide | omega) (by omega) ((congrFun e3 _).trans b1) ?_
            refine V_aload_n (pc := 70) dX3_told_70 rfl ?_
            refine V_getR (pc := 71) 3 1 dX3_told_71 flX3_11 (by decide) h3.o h3.R1 ?_
            refine V_callVd (pc := 74) (ci := 6) (c_X6_reckon_n h6) dX3_told_74 mlX3_85 mkX6_reckon rfl rfl h3.O0.o ⟨by decide, rfl⟩ ⟨Nat.le_of_ble_eq_true rfl, Nat.le_of_ble_eq_true rfl⟩ (Nat.le_of_ble_eq_true rfl) ⟨Nat.le_of_ble_eq_true rfl, Nat.le_of_ble_eq_true rfl⟩ ?_
            refine V_istore (pc := 77) (ls' := [(0, _), (1, _), (2, _), (3, _), (4, _), (5, _), (6, _), (7, _)]) dX3_told_77 (by decide) rfl ?_
            refine V_iload (pc := 79) dX3_told_79 rfl ?_
            refine V_ldc (pc := 81) dX3_told_81 coX3_89 ?_
            refine V_icmp_eq (pc := 83) (tgt := 97) dX3_told_83 (by decide) (fun c83 => absurd c83 (by decide)) (fun n83 => ?_)
            refine V_iconst (pc := 86) (v := nI 0) dX3_told_86 (by decide) ?_
            refine V_iload (pc := 87) dX3_told_87 rfl ?_
            refine V_iload_n (pc := 89) dX3_told_89 rfl ?_
            refine V_mminN (pc := 90) dX3_told_90 mlX3_90 (Nat.le_of_ble_eq_true rfl) (Nat.le_of_ble_eq_true rfl) ⟨Nat.le_of_ble_eq_true rfl, Nat.le_of_ble_eq_true rfl⟩ (by omega) (by omega) ?_
            refine V_mmaxN (pc := 93) dX3_told_93 mlX3_95 (Nat.le_of_ble_eq_true rfl) (Nat.le_of_ble_eq_true rfl) ⟨Nat.le_of_ble_eq_true rfl, Nat.le_of_ble_eq_true rfl⟩ (by omega) (by omega) ?_
            refine V_iret (pc := 96) dX3_told_96 rfl (by first | decide | omega) (by first | decide | omega) ?_
            refine ⟨?_, rfl, rfl, hf2⟩
            rw [ev]
            congr 2
            unfold clampN
            rw [if_neg (by decide)]
            by_cases z : (most : Int) < 1
            · rw [if_pos z]; congr 1; omega
            · rw [if_neg z]; congr 1; show max 0 (min 1 most) = 1; omega
          · obtain ⟨s1, e1', b1, b2, b3, b4, b5, d1, b6, b7⟩ := k3 h3k
            obtain ⟨fuel, hev⟩ := b7.ev (w := w) (by omega) hwo
            rcases hF : law.2.2.1 n w with _ | v
            · rw [hF] at hev
              refine V_aload_n (pc := 58) dX3_told_58 rfl ?_
              refine V_getR (pc := 59) 3 0 dX3_told_59 flX3_17 (by decide) h3.o h3.R0 ?_
              refine V_aload_n (pc := 62) dX3_told_62 rfl ?_
              refine V_aload_n (pc := 63) dX3_told_63 rfl ?_
              refine V_getR (pc := 64) 7 3 dX3_told_64 flX3_82 (by decide) h7.o h7.R3 ?_
              refine V_iload (pc := 67) dX3_told_67 rfl ?_
              refine V_ialoadE (pc := 69) dX3_told_69 h7.A3 (by first | decide | omega) (by omega) ((congrFun e3 _).trans b1) ?_
              refine V_aload_n (pc := 70) dX3_told_70 rfl ?_
              refine V_getR (pc := 71) 3 1 dX3_told_71 flX3_11 (by decide) h3.o h3.R1 ?_
              refine V_callV (pc := 74) (ci := 6) (c_X6_reckon h6 h7 h3.A1 g2 ⟨hat.1 _ (by omega) (by omega), hat.1 _ (by omega) (by omega), hat.2⟩ hI2 hwo hwd3 b2 b3 b4 b5 hev) dX3_told_74 mlX3_85 mkX6_reckon rfl rfl h3.O0.o ⟨by decide, rfl⟩ ⟨Nat.le_of_ble_eq_true rfl, Nat.le_of_ble_eq_true rfl⟩ (Nat.le_of_ble_eq_true rfl) ⟨Nat.le_of_ble_eq_true rfl, Nat.le_of_ble_eq_true rfl⟩ (fun r S' I' L' hp => ?_)
              obtain ⟨rfl, rfl, rfl, hf3⟩ := hp
              refine V_istore (pc := 77) (ls' := [(0, _), (1, _), (2, _), (3, _), (4, _), (5, _), (6, _), (7, _)]) dX3_told_77 (by decide) rfl ?_
              refine V_iload (pc := 79) dX3_told_79 rfl ?_
              refine V_ldc (pc := 81) dX3_told_81 coX3_89 ?_
              refine V_icmp_eq (pc := 83) (tgt := 97) dX3_told_83 (by decide) (fun c83 => ?_) (fun n83 => absurd n83 (by exact fun z => z rfl))
              refine V_loc [0, 1, 2, 3, 4, 5] rfl ?_
              exact nxt1 _ (fun x hx => (hf3 x hx).trans (hf2 x hx)) (fun z => by have := z.2; simp [holds, hF] at this)
            · rw [hF] at hev
              have sv : sml v := hs n w v (by omega) hwo hF
              have ev := yes v hF
              refine V_aload_n (pc := 58) dX3_told_58 rfl ?_
              refine V_getR (pc := 59) 3 0 dX3_told_59 flX3_17 (by decide) h3.o h3.R0 ?_
              refine V_aload_n (pc := 62) dX3_told_62 rfl ?_
              refine V_aload_n (pc := 63) dX3_told_63 rfl ?_
              refine V_getR (pc := 64) 7 3 dX3_told_64 flX3_82 (by decide) h7.o h7.R3 ?_
              refine V_iload (pc := 67) dX3_told_67 rfl ?_
              refine V_ialoadE (pc := 69) dX3_told_69 h7.A3 (by first | decide | omega) (by omega) ((congrFun e3 _).trans b1) ?_
              refine V_aload_n (pc := 70) dX3_told_70 rfl ?_
              refine V_getR (pc := 71) 3 1 dX3_told_71 flX3_11 (by decide) h3.o h3.R1 ?_
              refine V_callV (pc := 74) (ci := 6) (c_X6_reckon h6 h7 h3.A1 g2 ⟨hat.1 _ (by omega) (by omega), hat.1 _ (by omega) (by omega), hat.2⟩ hI2 hwo hwd3 b2 b3 b4 b5 hev) dX3_told_74 mlX3_85 mkX6_reckon rfl rfl h3.O0.o ⟨by decide, rfl⟩ ⟨Nat.le_of_ble_eq_true rfl, Nat.le_of_ble_eq_true rfl⟩ (Nat.le_of_ble_eq_true rfl) ⟨Nat.le_of_ble_eq_true rfl, Nat.le_of_ble_eq_true rfl⟩ (fun r S' I' L' hp => ?_)
              obtain ⟨rfl, rfl, rfl, hf3⟩ := hp
              refine V_istore (pc := 77) (ls' := [(0, _), (1, _), (2, _), (3, _), (4, _), (5, _), (6, _), (7, _)]) dX3_told_77 (by decide) rfl ?_
              refine V_iload (pc := 79) dX3_told_79 rfl ?_
              refine V_ldc (pc := 81) dX3_told_81 coX3_89 ?_
              refine V_icmp_eq (pc := 83) (tgt := 97) dX3_told_83 (by decide) (fun c83 => absurd c83 (by exact i32_min sv)) (fun n83 => ?_)
              refine V_iconst (pc := 86) (v := nI 0) dX3_told_86 (by decide) ?_
              refine V_iload (pc := 87) dX3_told_87 rfl ?_
              refine V_iload_n (pc := 89) dX3_told_89 rfl ?_
              refine V_mmin (pc := 90) dX3_told_90 mlX3_90 (Nat.le_of_ble_eq_true rfl) (Nat.le_of_ble_eq_true rfl) ⟨Nat.le_of_ble_eq_true rfl, Nat.le_of_ble_eq_true rfl⟩ ?_
              refine V_mmax (pc := 93) dX3_told_93 mlX3_95 (Nat.le_of_ble_eq_true rfl) (Nat.le_of_ble_eq_true rfl) ⟨Nat.le_of_ble_eq_true rfl, Nat.le_of_ble_eq_true rfl⟩ ?_
              refine V_iret (pc := 96) dX3_told_96 rfl (by first | decide | omega) (by first | decide | omega) ?_
              refine ⟨?_, rfl, rfl, fun x hx => (hf3 x hx).trans (hf2 x hx)⟩
              rw [ev, ← clampN_I sv hm]; rfl
        rcases k5 with ⟨b1, b2⟩ | ⟨s1, e1', b1, ⟨b2, b3, b4, b5, d1, b6, b7⟩, hTF⟩
        · skip
          refine V_iload (pc := 8) dX3_told_8 rfl ?_
          refine V_if_ltN (pc := 10) (tgt := 103) dX3_told_10 (by decide) (by omega) ?_
          refine V_iload (pc := 13) dX3_told_13 rfl ?_
          refine V_iconst (pc := 15) (v := nI 4) dX3_told_15 (by decide) ?_
          refine V_imulN (pc := 16) dX3_told_16 ?_
          refine V_istore (pc := 17) (ls' := [(0, _), (1, _), (2, _), (3, _), (4, _), (5, _), (6, _)]) dX3_told_17 (by decide) rfl ?_
          refine V_aload_n (pc := 19) dX3_told_19 rfl ?_
          refine V_getR (pc := 20) 7 1 dX3_told_20 flX3_79 (by decide) h7.o h7.R1 ?_
          refine V_iload (pc := 23) dX3_told_23 rfl ?_
          refine V_ialoadE (pc := 25) dX3_told_25 h7.A1 (by first | decide | omega) (by omega) ((congrFun e1 _).trans k2) ?_
          refine V_iload_n (pc := 26) dX3_told_26 rfl ?_
          refine V_icmp_neN (pc := 27) (tgt := 97) dX3_told_27 (by decide) (by omega) (by omega) (fun c27 => absurd c27 (by omega)) (fun n27 => ?_)
          refine V_aload_n (pc := 30) dX3_told_30 rfl ?_
          refine V_getR (pc := 31) 3 0 dX3_told_31 flX3_17 (by decide) h3.o h3.R0 ?_
          refine V_aload_n (pc := 34) dX3_told_34 rfl ?_
          refine V_aload_n (pc := 35) dX3_told_35 rfl ?_
          refine V_getR (pc := 36) 7 3 dX3_told_36 flX3_82 (by decide) h7.o h7.R3 ?_
          refine V_iload (pc := 39) dX3_told_39 rfl ?_
          refine V_iconst (pc := 41) (v := nI 3) dX3_told_41 (by decide) ?_
          refine V_iaddN (pc := 42) dX3_told_42 ?_
          refine V_ialoadE (pc := 43) dX3_told_43 h7.A3 (by first | decide | omega) (by omega) ((congrFun e3 _).trans b1) ?_
          refine V_aload_n (pc := 44) dX3_told_44 rfl ?_
          refine V_getR (pc := 45) 3 1 dX3_told_45 flX3_11 (by decide) h3.o h3.R1 ?_
          refine V_callVd (pc := 48) (ci := 6) (c_X6_reckon_n h6) dX3_told_48 mlX3_85 mkX6_reckon rfl rfl h3.O0.o ⟨by decide, rfl⟩ ⟨Nat.le_of_ble_eq_true rfl, Nat.le_of_ble_eq_true rfl⟩ (Nat.le_of_ble_eq_true rfl) ⟨Nat.le_of_ble_eq_true rfl, Nat.le_of_ble_eq_true rfl⟩ ?_
          refine V_iconst (pc := 51) (v := nI 1) dX3_told_51 (by decide) ?_
          refine V_icmp_eqN (pc := 52) (tgt := 58) dX3_told_52 (by decide) (by omega) (by omega) (fun c52 => ?_) (fun n52 => absurd n52 (by omega))
          exact aft J hf (by rw [b2]; rfl)
        · obtain ⟨fuel, hev⟩ := b7.ev (w := w) (by omega) hwo
          refine V_iload (pc := 8) dX3_told_8 rfl ?_
          refine V_if_ltN (pc := 10) (tgt := 103) dX3_told_10 (by decide) (by omega) ?_
          refine V_iload (pc := 13) dX3_told_13 rfl ?_
          refine V_iconst (pc := 15) (v := nI 4) dX3_told_15 (by decide) ?_
          refine V_imulN (pc := 16) dX3_told_16 ?_
          refine V_istore (pc := 17) (ls' := [(0, _), (1, _), (2, _), (3, _), (4, _), (5, _), (6, _)]) dX3_told_17 (by decide) rfl ?_
          refine V_aload_n (pc := 19) dX3_told_19 rfl ?_
          refine V_getR (pc := 20) 7 1 dX3_told_20 flX3_79 (by decide) h7.o h7.R1 ?_
          refine V_iload (pc := 23) dX3_told_23 rfl ?_
          refine V_ialoadE (pc := 25) dX3_told_25 h7.A1 (by first | decide | omega) (by omega) ((congrFun e1 _).trans k2) ?_
          refine V_iload_n (pc := 26) dX3_told_26 rfl ?_
          refine V_icmp_neN (pc := 27) (tgt := 97) dX3_told_27 (by decide) (by omega) (by omega) (fun c27 => absurd c27 (by omega)) (fun n27 => ?_)
          refine V_aload_n (pc := 30) dX3_told_30 rfl ?_
          refine V_getR (pc := 31) 3 0 dX3_told_31 flX3_17 (by decide) h3.o h3.R0 ?_
          refine V_aload_n (pc := 34) dX3_told_34 rfl ?_
          refine V_aload_n (pc := 35) dX3_told_35 rfl ?_
          refine V_getR (pc := 36) 7 3 dX3_told_36 flX3_82 (by decide) h7.o h7.R3 ?_
          refine V_iload (pc := 39) dX3_told_39 rfl ?_
          refine V_iconst (pc := 41) (v := nI 3) dX3_told_41 (by decide) ?_
          refine V_iaddN (pc := 42) dX3_told_42 ?_
          refine V_ialoadE (pc := 43) dX3_told_43 h7.A3 (by first | decide | omega) (by omega) ((congrFun e3 _).trans b1) ?_
          refine V_aload_n (pc := 44) dX3_told_44 rfl ?_
          refine V_getR (pc := 45) 3 1 dX3_told_45 flX3_11 (by decide) h3.o h3.R1 ?_
          refine V_callV (pc := 48) (ci := 6) (c_X6_reckon h6 h7 h3.A1 g2 ⟨hat.1 _ (by omega) (by omega), hat.1 _ (by omega) (by omega), hat.2⟩ hI hwo hwd2 b2 b3 b4 b5 hev) dX3_told_48 mlX3_85 mkX6_reckon rfl rfl h3.O0.o ⟨by decide, rfl⟩ ⟨Nat.le_of_ble_eq_true rfl, Nat.le_of_ble_eq_true rfl⟩ (Nat.le_of_ble_eq_true rfl) ⟨Nat.le_of_ble_eq_true rfl, Nat.le_of_ble_eq_true rfl⟩ (fun r S' I' L' hp => ?_)
          obtain ⟨rfl, rfl, rfl, hf3⟩ := hp
          skip
          have hff : ∀ x, x ≠ t + 1 → I' x = I x := fun x hx => (hf3 x hx).trans (hf x hx)
          have no : law.2.2.2 n w ≠ some 1 → ¬ (law.2.1 n = kd ∧ holds law n w = true) := fun z y => by have := y.2; simp [holds, z] at this
          rcases hTw : law.2.2.2 n w with _ | tv
          · skip
            refine V_iconst (pc := 51) (v := nI 1) dX3_told_51 (by decide) ?_
            refine V_icmp_eq (pc := 52) (tgt := 58) dX3_told_52 (by decide) (fun c52 => absurd c52 (by decide)) (fun n52 => ?_)
            refine V_goto (pc := 55) (tgt := 97) dX3_told_55 (by decide) ?_
            refine V_loc [0, 1, 2, 3, 4, 5] rfl ?_
            exact nxt1 _ hff (no (by rw [hTw]; simp))
          · rcases hTF w hwo tv hTw with e | e
            · subst e
              rw [show rI (some 0) = nI 0 from rfl]
              refine V_iconst (pc := 51) (v := nI 1) dX3_told_51 (by decide) ?_
              refine V_icmp_eqN (pc := 52) (tgt := 58) dX3_told_52 (by decide) (by omega) (by omega) (fun c52 => absurd c52 (by omega)) (fun n52 => ?_)
              refine V_goto (pc := 55) (tgt := 97) dX3_told_55 (by decide) ?_
              refine V_loc [0, 1, 2, 3, 4, 5] rfl ?_
              exact nxt1 _ hff (no (by rw [hTw]; simp))
            · subst e
              rw [show rI (some 1) = nI 1 from rfl]
              refine V_iconst (pc := 51) (v := nI 1) dX3_told_51 (by decide) ?_
              refine V_icmp_eqN (pc := 52) (tgt := 58) dX3_told_52 (by decide) (by omega) (by omega) (fun c52 => ?_) (fun n52 => absurd n52 (by omega))
              exact aft _ hff hTw
      · skip
        refine V_iload (pc := 8) dX3_told_8 rfl ?_
        refine V_if_ltN (pc := 10) (tgt := 103) dX3_told_10 (by decide) (by omega) ?_
        refine V_iload (pc := 13) dX3_told_13 rfl ?_
        refine V_iconst (pc := 15) (v := nI 4) dX3_told_15 (by decide) ?_
        refine V_imulN (pc := 16) dX3_told_16 ?_
        refine V_istore (pc := 17) (ls' := [(0, _), (1, _), (2, _), (3, _), (4, _), (5, _), (6, _)]) dX3_told_17 (by decide) rfl ?_
        refine V_aload_n (pc := 19) dX3_told_19 rfl ?_
        refine V_getR (pc := 20) 7 1 dX3_told_20 flX3_79 (by decide) h7.o h7.R1 ?_
        refine V_iload (pc := 23) dX3_told_23 rfl ?_
        refine V_ialoadE (pc := 25) dX3_told_25 h7.A1 (by first | decide | omega) (by omega) ((congrFun e1 _).trans k2) ?_
        refine V_iload_n (pc := 26) dX3_told_26 rfl ?_
        refine V_icmp_neN (pc := 27) (tgt := 97) dX3_told_27 (by decide) (by omega) (by omega) (fun c27 => ?_) (fun n27 => absurd n27 (by omega))
        refine V_loc [0, 1, 2, 3, 4, 5] rfl ?_
        exact nxt1 J hf (fun z => hk z.1)
  exact key law.1 I _ (Nat.le_refl _) (fun _ _ => rfl) rfl rfl
end CD
