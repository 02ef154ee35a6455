/-! THE CLASS: what joins two numbers -/
def rI (x : Option Int) : Int32 := match x with | none => -2000000000 | some v => Int32.ofInt v
section CB
variable {E : EnT} {S : ST} {I : IT} {L : LT}
/-- the end: within bounds, or broken -/
theorem jn149 {Q : QT} {a0 : Int32} {a1 a3 : Int64} {x : Int} (hx : -1000000000000000000 ≤ x ∧ x ≤ 1000000000000000000) (hk : ∀ z, z = rI (if rngd x then some x else none) → V E kX6_join (rmOf 0 0 0) Q 0 0 S I L 175 [(0, .int a0), (1, .long a1), (3, .long a3), (5, .long (i64 x))] [.int z]) : V E kX6_join (rmOf 0 0 0) Q 0 0 S I L 149 [(0, .int a0), (1, .long a1), (3, .long a3), (5, .long (i64 x))] [] := by
  have hgt : (1000000000 : Int64) < i64 x ↔ 1000000000 < x := by
    rw [Int64.lt_iff_toInt_lt, i64_toInt (by omega) (by omega), show (1000000000 : Int64).toInt = 1000000000 from by decide]
  have hge : (-1000000000 : Int64) ≤ i64 x ↔ -1000000000 ≤ x := by
    rw [Int64.le_iff_toInt_le, i64_toInt (by omega) (by omega), show (-1000000000 : Int64).toInt = -1000000000 from by decide]
  refine V_lload (pc := 149) dX6_join_149 rfl ?_
  refine V_ldc2 (pc := 151) dX6_join_151 coX6_34 ?_
  refine V_lcmp (pc := 154) dX6_join_154 ?_
  refine V_if_gt (pc := 155) (tgt := 167) dX6_join_155 (by decide) (fun c155 => ?_) (fun n155 => ?_)
  · skip
    have hr : rngd x = false := by
      first
        | exact decide_eq_false (fun z => absurd (hgt.mp ((lg_cmp_gt _ _).mp c155)) (by omega))
        | exact decide_eq_false (fun z => n164 ((lg_cmp_ge _ _).mpr (hge.mpr z.1)))
    refine V_ldc (pc := 167) dX6_join_167 coX6_23 ?_
    refine V_goto (pc := 169) (tgt := 175) dX6_join_169 (by decide) ?_
    first
      | exact hk _ (by rw [hr]; rfl)
      | exact hk _ (by rw [hr]; unfold i64; exact Int64.toInt32_ofInt)
  · skip
    have hle : ¬ 1000000000 < x := fun z => n155 ((lg_cmp_gt _ _).mpr (hgt.mpr z))
    refine V_lload (pc := 158) dX6_join_158 rfl ?_
    refine V_ldc2 (pc := 160) dX6_join_160 coX6_36 ?_
    refine V_lcmp (pc := 163) dX6_join_163 ?_
    refine V_if_ge (pc := 164) (tgt := 172) dX6_join_164 (by decide) (fun c164 => ?_) (fun n164 => ?_)
    · skip
      have hr : rngd x = true := decide_eq_true ⟨hge.mp ((lg_cmp_ge _ _).mp c164), by omega⟩
      refine V_lload (pc := 172) dX6_join_172 rfl ?_
      refine V_l2i (pc := 174) dX6_join_174 rfl ?_
      first
        | exact hk _ (by rw [hr]; rfl)
        | exact hk _ (by rw [hr]; unfold i64; exact Int64.toInt32_ofInt)
    · skip
      have hr : rngd x = false := by
        first
          | exact decide_eq_false (fun z => absurd (hgt.mp ((lg_cmp_gt _ _).mp c155)) (by omega))
          | exact decide_eq_false (fun z => n164 ((lg_cmp_ge _ _).mpr (hge.mpr z.1)))
      refine V_ldc (pc := 167) dX6_join_167 coX6_23 ?_
      refine V_goto (pc := 169) (tgt := 175) dX6_join_169 (by decide) ?_
      first
        | exact hk _ (by rw [hr]; rfl)
        | exact hk _ (by rw [hr]; unfold i64; exact Int64.toInt32_ofInt)
theorem c_X6_join {op : Nat} {a b : Int} (h1 : 20 ≤ op) (h2 : op < 28) (ha : sml a) (hb : sml b) : Cd E kX6_join 0 0 0 [.int (nI (op - 17)), .long (i64 a), .long (i64 b)] S I L (.int (rI (calc3 op a b))) S I L := by
  have hz : lN 0 = i64 0 := i64_lN 0
  have s0 : sml 0 := ⟨by decide, by decide⟩
  have hbig : ∀ {x}, calc2 op a b = some x → -1000000000000000000 ≤ x ∧ x ≤ 1000000000000000000 := fun h => calc2_big ha hb h
  have hc3 : ∀ {x}, calc2 op a b = some x → calc3 op a b = if rngd x then some x else none := fun h => by unfold calc3; rw [h]
  have fin : ∀ (x : Int) (a0 : Int32), calc2 op a b = some x → V E kX6_join (rmOf 0 0 0) (Qd E (.int (rI (calc3 op a b))) S I L) 0 0 S I L 149 [(0, .int a0), (1, .long (i64 a)), (3, .long (i64 b)), (5, .long (i64 x))] [] := by
    intro x a0 hx
    refine jn149 (hbig hx) (fun z hz => ?_)
    rw [hz, hc3 hx]
    exact V_iret dX6_join_175 rfl (by decide) (by decide) ⟨rfl, rfl, rfl, rfl⟩
  refine C_of (by decide) (Nat.le_of_ble_eq_true rfl) ?_
  have hop : op = 20 ∨ op = 21 ∨ op = 22 ∨ op = 23 ∨ op = 24 ∨ op = 25 ∨ op = 26 ∨ op = 27 := by omega
  rcases hop with rfl | rfl | rfl | rfl | rfl | rfl | rfl | rfl
  · skip
    refine V_iload_n (pc := 0) dX6_join_0 rfl ?_
    refine V_bipush (pc := 1) (v := nI 6) dX6_join_1 (by decide) ?_
    refine V_icmp_eqN (pc := 3) (tgt := 12) dX6_join_3 (by decide) (by omega) (by omega) (fun c3 => absurd c3 (by omega)) (fun n3 => ?_)
    refine V_iload_n (pc := 6) dX6_join_6 rfl ?_
    refine V_bipush (pc := 7) (v := nI 7) dX6_join_7 (by decide) ?_
    refine V_icmp_neN (pc := 9) (tgt := 21) dX6_join_9 (by decide) (by omega) (by omega) (fun c9 => ?_) (fun n9 => absurd n9 (by omega))
    refine V_iload_n (pc := 21) dX6_join_21 rfl ?_
    refine V_tableIn (pc := 22) (off := 42) (tgt := 64) dX6_join_22 (by decide) (by decide) (by decide) (by decide) ?_
    refine V_lload_n (pc := 64) dX6_join_64 rfl ?_
    refine V_lload_n (pc := 65) dX6_join_65 rfl ?_
    refine V_ladd (pc := 66) dX6_join_66 ?_
    refine V_lstore (pc := 67) (ls' := [(0, _), (1, _), (3, _), (5, _)]) dX6_join_67 (by decide) rfl ?_
    refine V_goto (pc := 69) (tgt := 149) dX6_join_69 (by decide) ?_
    rw [i64_add]
    exact fin _ _ rfl
  · skip
    refine V_iload_n (pc := 0) dX6_join_0 rfl ?_
    refine V_bipush (pc := 1) (v := nI 6) dX6_join_1 (by decide) ?_
    refine V_icmp_eqN (pc := 3) (tgt := 12) dX6_join_3 (by decide) (by omega) (by omega) (fun c3 => absurd c3 (by omega)) (fun n3 => ?_)
    refine V_iload_n (pc := 6) dX6_join_6 rfl ?_
    refine V_bipush (pc := 7) (v := nI 7) dX6_join_7 (by decide) ?_
    refine V_icmp_neN (pc := 9) (tgt := 21) dX6_join_9 (by decide) (by omega) (by omega) (fun c9 => ?_) (fun n9 => absurd n9 (by omega))
    refine V_iload_n (pc := 21) dX6_join_21 rfl ?_
    refine V_tableIn (pc := 22) (off := 50) (tgt := 72) dX6_join_22 (by decide) (by decide) (by decide) (by decide) ?_
    refine V_lload_n (pc := 72) dX6_join_72 rfl ?_
    refine V_lload_n (pc := 73) dX6_join_73 rfl ?_
    refine V_lsub (pc := 74) dX6_join_74 ?_
    refine V_lstore (pc := 75) (ls' := [(0, _), (1, _), (3, _), (5, _)]) dX6_join_75 (by decide) rfl ?_
    refine V_goto (pc := 77) (tgt := 149) dX6_join_77 (by decide) ?_
    rw [i64_sub]
    exact fin _ _ rfl
  · skip
    refine V_iload_n (pc := 0) dX6_join_0 rfl ?_
    refine V_bipush (pc := 1) (v := nI 6) dX6_join_1 (by decide) ?_
    refine V_icmp_eqN (pc := 3) (tgt := 12) dX6_join_3 (by decide) (by omega) (by omega) (fun c3 => absurd c3 (by omega)) (fun n3 => ?_)
    refine V_iload_n (pc := 6) dX6_join_6 rfl ?_
    refine V_bipush (pc := 7) (v := nI 7) dX6_join_7 (by decide) ?_
    refine V_icmp_neN (pc := 9) (tgt := 21) dX6_join_9 (by decide) (by omega) (by omega) (fun c9 => ?_) (fun n9 => absurd n9 (by omega))
    refine V_iload_n (pc := 21) dX6_join_21 rfl ?_
    refine V_tableIn (pc := 22) (off := 58) (tgt := 80) dX6_join_22 (by decide) (by decide) (by decide) (by decide) ?_
    refine V_lload_n (pc := 80) dX6_join_80 rfl ?_
    refine V_lload_n (pc := 81) dX6_join_81 rfl ?_
    refine V_lmul (pc := 82) dX6_join_82 ?_
    refine V_lstore (pc := 83) (ls' := [(0, _), (1, _), (3, _), (5, _)]) dX6_join_83 (by decide) rfl ?_
    refine V_goto (pc := 85) (tgt := 149) dX6_join_85 (by decide) ?_
    rw [i64_mul]
    exact fin _ _ rfl
  · by_cases hb0 : b = 0
    · rw [show calc3 23 a b = none from by simp [calc3, calc2, hb0]]
      refine V_iload_n (pc := 0) dX6_join_0 rfl ?_
      refine V_bipush (pc := 1) (v := nI 6) dX6_join_1 (by decide) ?_
      refine V_icmp_eqN (pc := 3) (tgt := 12) dX6_join_3 (by decide) (by omega) (by omega) (fun c3 => ?_) (fun n3 => absurd n3 (by omega))
      refine V_lload_n (pc := 12) dX6_join_12 rfl ?_
      refine V_lconst (pc := 13) (v := lN 0) dX6_join_13 (by decide) ?_
      refine V_lcmp (pc := 14) dX6_join_14 ?_
      refine V_if_ne (pc := 15) (tgt := 21) dX6_join_15 (by decide) (fun c15 => absurd c15 (by exact fun z => c15 ((lg_cmp_eq _ _).mpr (by rw [hb0, hz])))) (fun n15 => ?_)
      refine V_ldc (pc := 18) dX6_join_18 coX6_23 ?_
      refine V_iret (pc := 20) dX6_join_20 rfl (by first | decide | omega) (by first | decide | omega) ?_
      exact ⟨rfl, rfl, rfl, rfl⟩
    · have hb1 : ¬ i64 b = 0 := fun z => hb0 ((i64_inj hb s0).mp (z.trans hz))
      refine V_iload_n (pc := 0) dX6_join_0 rfl ?_
      refine V_bipush (pc := 1) (v := nI 6) dX6_join_1 (by decide) ?_
      refine V_icmp_eqN (pc := 3) (tgt := 12) dX6_join_3 (by decide) (by omega) (by omega) (fun c3 => ?_) (fun n3 => absurd n3 (by omega))
      refine V_lload_n (pc := 12) dX6_join_12 rfl ?_
      refine V_lconst (pc := 13) (v := lN 0) dX6_join_13 (by decide) ?_
      refine V_lcmp (pc := 14) dX6_join_14 ?_
      refine V_if_ne (pc := 15) (tgt := 21) dX6_join_15 (by decide) (fun c15 => ?_) (fun n15 => absurd n15 (by exact fun z => hb1 (((lg_cmp_eq _ _).mp n15).trans rfl)))
      refine V_iload_n (pc := 21) dX6_join_21 rfl ?_
      refine V_tableIn (pc := 22) (off := 66) (tgt := 88) dX6_join_22 (by decide) (by decide) (by decide) (by decide) ?_
      refine V_lload_n (pc := 88) dX6_join_88 rfl ?_
      refine V_lload_n (pc := 89) dX6_join_89 rfl ?_
      refine V_ldiv (pc := 90) dX6_join_90 (by first | decide | assumption) ?_
      refine V_lstore (pc := 91) (ls' := [(0, _), (1, _), (3, _), (5, _)]) dX6_join_91 (by decide) rfl ?_
      refine V_goto (pc := 93) (tgt := 149) dX6_join_93 (by decide) ?_
      rw [i64_div ha hb]
      exact fin _ _ (by simp [calc2, hb0])
  · by_cases hb0 : b = 0
    · rw [show calc3 24 a b = none from by simp [calc3, calc2, hb0]]
      refine V_iload_n (pc := 0) dX6_join_0 rfl ?_
      refine V_bipush (pc := 1) (v := nI 6) dX6_join_1 (by decide) ?_
      refine V_icmp_eqN (pc := 3) (tgt := 12) dX6_join_3 (by decide) (by omega) (by omega) (fun c3 => absurd c3 (by omega)) (fun n3 => ?_)
      refine V_iload_n (pc := 6) dX6_join_6 rfl ?_
      refine V_bipush (pc := 7) (v := nI 7) dX6_join_7 (by decide) ?_
      refine V_icmp_neN (pc := 9) (tgt := 21) dX6_join_9 (by decide) (by omega) (by omega) (fun c9 => absurd c9 (by omega)) (fun n9 => ?_)
      refine V_lload_n (pc := 12) dX6_join_12 rfl ?_
      refine V_lconst (pc := 13) (v := lN 0) dX6_join_13 (by decide) ?_
      refine V_lcmp (pc := 14) dX6_join_14 ?_
      refine V_if_ne (pc := 15) (tgt := 21) dX6_join_15 (by decide) (fun c15 => absurd c15 (by exact fun z => c15 ((lg_cmp_eq _ _).mpr (by rw [hb0, hz])))) (fun n15 => ?_)
      refine V_ldc (pc := 18) dX6_join_18 coX6_23 ?_
      refine V_iret (pc := 20) dX6_join_20 rfl (by first | decide | omega) (by first | decide | omega) ?_
      exact ⟨rfl, rfl, rfl, rfl⟩
    · have hb1 : ¬ i64 b = 0 := fun z => hb0 ((i64_inj hb s0).mp (z.trans hz))
      refine V_iload_n (pc := 0) dX6_join_0 rfl ?_
      refine V_bipush (pc := 1) (v := nI 6) dX6_join_1 (by decide) ?_
      refine V_icmp_eqN (pc := 3) (tgt := 12) dX6_join_3 (by decide) (by omega) (by omega) (fun c3 => absurd c3 (by omega)) (fun n3 => ?_)
      refine V_iload_n (pc := 6) dX6_join_6 rfl ?_
      refine V_bipush (pc := 7) (v := nI 7) dX6_join_7 (by decide) ?_
      refine V_icmp_neN (pc := 9) (tgt := 21) dX6_join_9 (by decide) (by omega) (by omega) (fun c9 => absurd c9 (by omega)) (fun n9 => ?_)
      refine V_lload_n (pc := 12) dX6_join_12 rfl ?_
      refine V_lconst (pc := 13) (v := lN 0) dX6_join_13 (by decide) ?_
      refine V_lcmp (pc := 14) dX6_join_14 ?_
      refine V_if_ne (pc := 15) (tgt := 21) dX6_join_15 (by decide) (fun c15 => ?_) (fun n15 => absurd n15 (by exact fun z => hb1 (((lg_cmp_eq _ _).mp n15).trans rfl)))
      refine V_iload_n (pc := 21) dX6_join_21 rfl ?_
      refine V_tableIn (pc := 22) (off := 74) (tgt := 96) dX6_join_22 (by decide) (by decide) (by decide) (by decide) ?_
      refine V_lload_n (pc := 96) dX6_join_96 rfl ?_
      refine V_lload_n (pc := 97) dX6_join_97 rfl ?_
      refine V_lrem (pc := 98) dX6_join_98 (by first | decide | assumption) ?_
      refine V_lstore (pc := 99) (ls' := [(0, _), (1, _), (3, _), (5, _)]) dX6_join_99 (by decide) rfl ?_
      refine V_goto (pc := 101) (tgt := 149) dX6_join_101 (by decide) ?_
      rw [i64_rem ha hb]
      exact fin _ _ (by simp [calc2, hb0])
  · skip
    refine V_iload_n (pc := 0) dX6_join_0 rfl ?_
    refine V_bipush (pc := 1) (v := nI 6) dX6_join_1 (by decide) ?_
    refine V_icmp_eqN (pc := 3) (tgt := 12) dX6_join_3 (by decide) (by omega) (by omega) (fun c3 => absurd c3 (by omega)) (fun n3 => ?_)
    refine V_iload_n (pc := 6) dX6_join_6 rfl ?_
    refine V_bipush (pc := 7) (v := nI 7) dX6_join_7 (by decide) ?_
    refine V_icmp_neN (pc := 9) (tgt := 21) dX6_join_9 (by decide) (by omega) (by omega) (fun c9 => ?_) (fun n9 => absurd n9 (by omega))
    refine V_iload_n (pc := 21) dX6_join_21 rfl ?_
    refine V_tableIn (pc := 22) (off := 82) (tgt := 104) dX6_join_22 (by decide) (by decide) (by decide) (by decide) ?_
    refine V_lload_n (pc := 104) dX6_join_104 rfl ?_
    refine V_lload_n (pc := 105) dX6_join_105 rfl ?_
    refine V_lcmp (pc := 106) dX6_join_106 ?_
    refine V_if_ge (pc := 107) (tgt := 114) dX6_join_107 (by decide) (fun c107 => ?_) (fun n107 => ?_)
    · skip
      have e : calc2 25 a b = some 0 := by have := (i64_le hb ha).mp ((lg_cmp_ge _ _).mp c107); simp [calc2]; omega
      refine V_lconst (pc := 114) (v := lN 0) dX6_join_114 (by decide) ?_
      refine V_lstore (pc := 115) (ls' := [(0, _), (1, _), (3, _), (5, _)]) dX6_join_115 (by decide) rfl ?_
      refine V_goto (pc := 117) (tgt := 149) dX6_join_117 (by decide) ?_
      rw [i64_lN]
      exact fin _ _ e
    · skip
      have e : calc2 25 a b = some 1 := by simp [calc2, (i64_lt ha hb).mp (Int64.not_le.mp (fun z => n107 ((lg_cmp_ge _ _).mpr z)))]
      refine V_lconst (pc := 110) (v := lN 1) dX6_join_110 (by decide) ?_
      refine V_goto (pc := 111) (tgt := 115) dX6_join_111 (by decide) ?_
      refine V_lstore (pc := 115) (ls' := [(0, _), (1, _), (3, _), (5, _)]) dX6_join_115 (by decide) rfl ?_
      refine V_goto (pc := 117) (tgt := 149) dX6_join_117 (by decide) ?_
      rw [i64_lN]
      exact fin _ _ e
  · skip
    refine V_iload_n (pc := 0) dX6_join_0 rfl ?_
    refine V_bipush (pc := 1) (v := nI 6) dX6_join_1 (by decide) ?_
    refine V_icmp_eqN (pc := 3) (tgt := 12) dX6_join_3 (by decide) (by omega) (by omega) (fun c3 => absurd c3 (by omega)) (fun n3 => ?_)
    refine V_iload_n (pc := 6) dX6_join_6 rfl ?_
    refine V_bipush (pc := 7) (v := nI 7) dX6_join_7 (by decide) ?_
    refine V_icmp_neN (pc := 9) (tgt := 21) dX6_join_9 (by decide) (by omega) (by omega) (fun c9 => ?_) (fun n9 => absurd n9 (by omega))
    refine V_iload_n (pc := 21) dX6_join_21 rfl ?_
    refine V_tableIn (pc := 22) (off := 98) (tgt := 120) dX6_join_22 (by decide) (by decide) (by decide) (by decide) ?_
    refine V_lload_n (pc := 120) dX6_join_120 rfl ?_
    refine V_lload_n (pc := 121) dX6_join_121 rfl ?_
    refine V_lcmp (pc := 122) dX6_join_122 ?_
    refine V_if_le (pc := 123) (tgt := 130) dX6_join_123 (by decide) (fun c123 => ?_) (fun n123 => ?_)
    · skip
      have e : calc2 26 a b = some 0 := by have := (i64_le ha hb).mp ((lg_cmp_le _ _).mp c123); simp [calc2]; omega
      refine V_lconst (pc := 130) (v := lN 0) dX6_join_130 (by decide) ?_
      refine V_lstore (pc := 131) (ls' := [(0, _), (1, _), (3, _), (5, _)]) dX6_join_131 (by decide) rfl ?_
      refine V_goto (pc := 133) (tgt := 149) dX6_join_133 (by decide) ?_
      rw [i64_lN]
      exact fin _ _ e
    · skip
      have e : calc2 26 a b = some 1 := by simp [calc2, (i64_lt hb ha).mp (Int64.not_le.mp (fun z => n123 ((lg_cmp_le _ _).mpr z)))]
      refine V_lconst (pc := 126) (v := lN 1) dX6_join_126 (by decide) ?_
      refine V_goto (pc := 127) (tgt := 131) dX6_join_127 (by decide) ?_
      refine V_lstore (pc := 131) (ls' := [(0, _), (1, _), (3, _), (5, _)]) dX6_join_131 (by decide) rfl ?_
      refine V_goto (pc := 133) (tgt := 149) dX6_join_133 (by decide) ?_
      rw [i64_lN]
      exact fin _ _ e
  · skip
    refine V_iload_n (pc := 0) dX6_join_0 rfl ?_
    refine V_bipush (pc := 1) (v := nI 6) dX6_join_1 (by decide) ?_
    refine V_icmp_eqN (pc := 3) (tgt := 12) dX6_join_3 (by decide) (by omega) (by omega) (fun c3 => absurd c3 (by omega)) (fun n3 => ?_)
    refine V_iload_n (pc := 6) dX6_join_6 rfl ?_
    refine V_bipush (pc := 7) (v := nI 7) dX6_join_7 (by decide) ?_
    refine V_icmp_neN (pc := 9) (tgt := 21) dX6_join_9 (by decide) (by omega) (by omega) (fun c9 => ?_) (fun n9 => absurd n9 (by omega))
    refine V_iload_n (pc := 21) dX6_join_21 rfl ?_
    refine V_tableOut (pc := 22) (tgt := 136) dX6_join_22 (by decide) (by decide) ?_
    refine V_lload_n (pc := 136) dX6_join_136 rfl ?_
    refine V_lload_n (pc := 137) dX6_join_137 rfl ?_
    refine V_lcmp (pc := 138) dX6_join_138 ?_
    refine V_if_ne (pc := 139) (tgt := 146) dX6_join_139 (by decide) (fun c139 => ?_) (fun n139 => ?_)
    · skip
      have e : calc2 27 a b = some 0 := by have : ¬ a = b := fun z => c139 ((lg_cmp_eq _ _).mpr (by rw [z])); simp [calc2, this]
      refine V_lconst (pc := 146) (v := lN 0) dX6_join_146 (by decide) ?_
      refine V_lstore (pc := 147) (ls' := [(0, _), (1, _), (3, _), (5, _)]) dX6_join_147 (by decide) rfl ?_
      rw [i64_lN]
      exact fin _ _ e
    · skip
      have e : calc2 27 a b = some 1 := by simp [calc2, (i64_inj ha hb).mp ((lg_cmp_eq _ _).mp n139)]
      refine V_lconst (pc := 142) (v := lN 1) dX6_join_142 (by decide) ?_
      refine V_goto (pc := 143) (tgt := 147) dX6_join_143 (by decide) ?_
      refine V_lstore (pc := 147) (ls' := [(0, _), (1, _), (3, _), (5, _)]) dX6_join_147 (by decide) rfl ?_
      rw [i64_lN]
      exact fin _ _ e
end CB
