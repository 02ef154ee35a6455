/-! LAWS: what a code of the reference is worth -/
def i64 (a : Int) : Int64 := Int64.ofInt a
def sml (a : Int) : Prop := -1000000000 ≤ a ∧ a ≤ 1000000000
theorem i64_toInt {a : Int} (h1 : -9000000000000000000 ≤ a) (h2 : a ≤ 9000000000000000000) : (i64 a).toInt = a := by
  unfold i64
  rw [Int64.toInt_ofInt, show Int64.size = 18446744073709551616 from rfl]
  exact Int.bmod_eq_of_le (by omega) (by omega)
theorem sml.t {a : Int} (h : sml a) : (i64 a).toInt = a := i64_toInt (by have := h.1; omega) (by have := h.2; omega)
theorem i64_add (a b : Int) : i64 a + i64 b = i64 (a + b) := (Int64.ofInt_add a b).symm
theorem i64_sub (a b : Int) : i64 a - i64 b = i64 (a - b) := (Int64.ofInt_sub a b).symm
theorem i64_mul (a b : Int) : i64 a * i64 b = i64 (a * b) := (Int64.ofInt_mul a b).symm
theorem i64_lN (n : Nat) : lN n = i64 (n : Int) := by
  unfold i64 lN
  exact Int64.ofInt_eq_ofNat.symm
theorem i64_inj {a b : Int} (ha : sml a) (hb : sml b) : i64 a = i64 b ↔ a = b := by
  constructor
  · intro h
    have := congrArg Int64.toInt h
    rw [ha.t, hb.t] at this
    exact this
  · intro h; rw [h]
theorem i64_lt {a b : Int} (ha : sml a) (hb : sml b) : i64 a < i64 b ↔ a < b := by rw [Int64.lt_iff_toInt_lt, ha.t, hb.t]
theorem i64_le {a b : Int} (ha : sml a) (hb : sml b) : i64 a ≤ i64 b ↔ a ≤ b := by rw [Int64.le_iff_toInt_le, ha.t, hb.t]
theorem tdiv_sml {a b : Int} (ha : sml a) : sml (a.tdiv b) := by
  have h := Int.natAbs_tdiv_le_natAbs a b
  have := ha.1; have := ha.2
  unfold sml
  omega
theorem i64_div {a b : Int} (ha : sml a) (hb : sml b) : i64 a / i64 b = i64 (a.tdiv b) := by
  apply Int64.toInt_inj.mp
  rw [Int64.toInt_div, ha.t, hb.t, (tdiv_sml ha).t]
  have := (tdiv_sml (b := b) ha)
  exact Int.bmod_eq_of_le (by have := this.1; omega) (by have := this.2; omega)
theorem i64_rem {a b : Int} (ha : sml a) (hb : sml b) : i64 a - i64 a / i64 b * i64 b = i64 (a.tmod b) := by
  rw [i64_div ha hb, i64_mul, i64_sub]
  congr 1
  have := Int.tmod_add_mul_tdiv a b
  rw [Int.mul_comm] at this
  omega
/-- what joins two numbers; none: divided by 0 -/
def calc2 (op : Nat) (a b : Int) : Option Int := if op = 20 then some (a + b) else if op = 21 then some (a - b) else if op = 22 then some (a * b) else if op = 23 then (if b = 0 then none else some (a.tdiv b)) else if op = 24 then (if b = 0 then none else some (a.tmod b)) else if op = 25 then some (if a < b then 1 else 0) else if op = 26 then some (if b < a then 1 else 0) else some (if a = b then 1 else 0)
def rngd (x : Int) : Bool := decide (-1000000000 ≤ x ∧ x ≤ 1000000000)
def calc3 (op : Nat) (a b : Int) : Option Int := match calc2 op a b with | none => none | some x => if rngd x then some x else none
section MC
variable {E : EnT} {S : ST} {I : IT} {L : LT} {o : Nat} {q : Nat → Nat}
theorem mul_big {a b : Int} (ha : sml a) (hb : sml b) : -1000000000000000000 ≤ a * b ∧ a * b ≤ 1000000000000000000 := by
  have h1 : (a * b).natAbs = a.natAbs * b.natAbs := Int.natAbs_mul a b
  have h2 : a.natAbs ≤ 1000000000 := by have := ha.1; have := ha.2; omega
  have h3 : b.natAbs ≤ 1000000000 := by have := hb.1; have := hb.2; omega
  have h4 := Nat.mul_le_mul h2 h3
  omega
theorem c_X12_reckon (h12 : Lay12 E S o) {op : Nat} {a b : Int} (h1 : 20 ≤ op) (h2 : op < 28) (ha : sml a) (hb : sml b) (h0 : I o 38 = nI 0) : C E kX12_reckon 0 0 0 [.ref o, .int (nI op), .long (i64 a), .long (i64 b)] S I L (fun r S' I' L' => S = S' ∧ L = L' ∧ ((calc2 op a b = none ∧ r = some (.long (lN 0)) ∧ I' = up2 I o 38 (nI 1)) ∨ (∃ x, calc2 op a b = some x ∧ r = some (.long (i64 x)) ∧ I' = I))) := by
  have e0 : up2 I o 38 (nI 0) = I := by
    funext x j
    unfold up2
    split
    · rename_i hx; subst hx
      split
      · rename_i hj; subst hj; exact h0.symm
      · rfl
    · rfl
  refine C_of (by decide) (Nat.le_of_ble_eq_true rfl) ?_
  have hop : op = 20 ∨ op = 21 ∨ op = 22 ∨ op = 23 ∨ op = 24 ∨ op = 25 ∨ op = 26 ∨ op = 27 := by omega
  have hz : lN 0 = i64 0 := i64_lN 0
  have s0 : sml 0 := ⟨by decide, by decide⟩
  rcases hop with rfl | rfl | rfl | rfl | rfl | rfl | rfl | rfl
  · skip
    refine V_iload_n (pc := 0) dX12_reckon_0 rfl ?_
    refine V_tableIn (pc := 1) (off := 43) (tgt := 44) dX12_reckon_1 (by decide) (by decide) (by decide) (by decide) ?_
    refine V_lload_n (pc := 44) dX12_reckon_44 rfl ?_
    refine V_lload (pc := 45) dX12_reckon_45 rfl ?_
    refine V_ladd (pc := 47) dX12_reckon_47 ?_
    refine V_lret (pc := 48) dX12_reckon_48 rfl (by first | decide | omega) (by first | decide | omega) ?_
    exact ⟨rfl, rfl, Or.inr ⟨a + b, rfl, by rw [i64_add], rfl⟩⟩
  · skip
    refine V_iload_n (pc := 0) dX12_reckon_0 rfl ?_
    refine V_tableIn (pc := 1) (off := 48) (tgt := 49) dX12_reckon_1 (by decide) (by decide) (by decide) (by decide) ?_
    refine V_lload_n (pc := 49) dX12_reckon_49 rfl ?_
    refine V_lload (pc := 50) dX12_reckon_50 rfl ?_
    refine V_lsub (pc := 52) dX12_reckon_52 ?_
    refine V_lret (pc := 53) dX12_reckon_53 rfl (by first | decide | omega) (by first | decide | omega) ?_
    exact ⟨rfl, rfl, Or.inr ⟨a - b, rfl, by rw [i64_sub], rfl⟩⟩
  · skip
    refine V_iload_n (pc := 0) dX12_reckon_0 rfl ?_
    refine V_tableIn (pc := 1) (off := 53) (tgt := 54) dX12_reckon_1 (by decide) (by decide) (by decide) (by decide) ?_
    refine V_lload_n (pc := 54) dX12_reckon_54 rfl ?_
    refine V_lload (pc := 55) dX12_reckon_55 rfl ?_
    refine V_lmul (pc := 57) dX12_reckon_57 ?_
    refine V_lret (pc := 58) dX12_reckon_58 rfl (by first | decide | omega) (by first | decide | omega) ?_
    exact ⟨rfl, rfl, Or.inr ⟨a * b, rfl, by rw [i64_mul], rfl⟩⟩
  · by_cases hb0 : b = 0
    · skip
      refine V_iload_n (pc := 0) dX12_reckon_0 rfl ?_
      refine V_tableIn (pc := 1) (off := 58) (tgt := 59) dX12_reckon_1 (by decide) (by decide) (by decide) (by decide) ?_
      refine V_aload_n (pc := 59) dX12_reckon_59 rfl ?_
      refine V_lload (pc := 60) dX12_reckon_60 rfl ?_
      refine V_lconst (pc := 62) (v := lN 0) dX12_reckon_62 (by decide) ?_
      refine V_lcmp (pc := 63) dX12_reckon_63 ?_
      refine V_if_ne (pc := 64) (tgt := 71) dX12_reckon_64 (by decide) (fun c64 => absurd c64 (by exact fun z => c64 ((lg_cmp_eq _ _).mpr (by rw [hb0, hz])))) (fun n64 => ?_)
      refine V_iconst (pc := 67) (v := nI 1) dX12_reckon_67 (by decide) ?_
      refine V_goto (pc := 68) (tgt := 72) dX12_reckon_68 (by decide) ?_
      refine V_putI (pc := 72) 12 38 dX12_reckon_72 flX12_424 (by decide) (by decide) (Or.inl rfl) rfl rfl h12.o ?_
      refine V_aload_n (pc := 75) dX12_reckon_75 rfl ?_
      refine V_getIE (pc := 76) 12 38 dX12_reckon_76 flX12_424 (by decide) h12.o (up2_self) ?_
      refine V_if_eqN (pc := 79) (tgt := 86) dX12_reckon_79 (by decide) (by omega) (fun c79 => absurd c79 (by omega)) (fun n79 => ?_)
      refine V_lconst (pc := 82) (v := lN 0) dX12_reckon_82 (by decide) ?_
      refine V_goto (pc := 83) (tgt := 90) dX12_reckon_83 (by decide) ?_
      refine V_lret (pc := 90) dX12_reckon_90 rfl (by first | decide | omega) (by first | decide | omega) ?_
      exact ⟨rfl, rfl, Or.inl ⟨by simp [calc2, hb0], rfl, rfl⟩⟩
    · have hb1 : ¬ i64 b = 0 := fun z => hb0 ((i64_inj hb s0).mp (z.trans hz))
      refine V_iload_n (pc := 0) dX12_reckon_0 rfl ?_
      refine V_tableIn (pc := 1) (off := 58) (tgt := 59) dX12_reckon_1 (by decide) (by decide) (by decide) (by decide) ?_
      refine V_aload_n (pc := 59) dX12_reckon_59 rfl ?_
      refine V_lload (pc := 60) dX12_reckon_60 rfl ?_
      refine V_lconst (pc := 62) (v := lN 0) dX12_reckon_62 (by decide) ?_
      refine V_lcmp (pc := 63) dX12_reckon_63 ?_
      refine V_if_ne (pc := 64) (tgt := 71) dX12_reckon_64 (by decide) (fun c64 => ?_) (fun n64 => absurd n64 (by exact fun z => hb1 (((lg_cmp_eq _ _).mp n64).trans rfl)))
      refine V_iconst (pc := 71) (v := nI 0) dX12_reckon_71 (by decide) ?_
      refine V_putI (pc := 72) 12 38 dX12_reckon_72 flX12_424 (by decide) (by decide) (Or.inl rfl) rfl rfl h12.o ?_
      refine V_aload_n (pc := 75) dX12_reckon_75 rfl ?_
      refine V_getIE (pc := 76) 12 38 dX12_reckon_76 flX12_424 (by decide) h12.o (up2_self) ?_
      refine V_if_eqN (pc := 79) (tgt := 86) dX12_reckon_79 (by decide) (by omega) (fun c79 => ?_) (fun n79 => absurd n79 (by omega))
      refine V_lload_n (pc := 86) dX12_reckon_86 rfl ?_
      refine V_lload (pc := 87) dX12_reckon_87 rfl ?_
      refine V_ldiv (pc := 89) dX12_reckon_89 (by first | decide | assumption) ?_
      refine V_lret (pc := 90) dX12_reckon_90 rfl (by first | decide | omega) (by first | decide | omega) ?_
      exact ⟨rfl, rfl, Or.inr ⟨a.tdiv b, by simp [calc2, hb0], by rw [i64_div ha hb], e0⟩⟩
  · by_cases hb0 : b = 0
    · skip
      refine V_iload_n (pc := 0) dX12_reckon_0 rfl ?_
      refine V_tableIn (pc := 1) (off := 90) (tgt := 91) dX12_reckon_1 (by decide) (by decide) (by decide) (by decide) ?_
      refine V_aload_n (pc := 91) dX12_reckon_91 rfl ?_
      refine V_lload (pc := 92) dX12_reckon_92 rfl ?_
      refine V_lconst (pc := 94) (v := lN 0) dX12_reckon_94 (by decide) ?_
      refine V_lcmp (pc := 95) dX12_reckon_95 ?_
      refine V_if_ne (pc := 96) (tgt := 103) dX12_reckon_96 (by decide) (fun c96 => absurd c96 (by exact fun z => c96 ((lg_cmp_eq _ _).mpr (by rw [hb0, hz])))) (fun n96 => ?_)
      refine V_iconst (pc := 99) (v := nI 1) dX12_reckon_99 (by decide) ?_
      refine V_goto (pc := 100) (tgt := 104) dX12_reckon_100 (by decide) ?_
      refine V_putI (pc := 104) 12 38 dX12_reckon_104 flX12_424 (by decide) (by decide) (Or.inl rfl) rfl rfl h12.o ?_
      refine V_aload_n (pc := 107) dX12_reckon_107 rfl ?_
      refine V_getIE (pc := 108) 12 38 dX12_reckon_108 flX12_424 (by decide) h12.o (up2_self) ?_
      refine V_if_eqN (pc := 111) (tgt := 118) dX12_reckon_111 (by decide) (by omega) (fun c111 => absurd c111 (by omega)) (fun n111 => ?_)
      refine V_lconst (pc := 114) (v := lN 0) dX12_reckon_114 (by decide) ?_
      refine V_goto (pc := 115) (tgt := 122) dX12_reckon_115 (by decide) ?_
      refine V_lret (pc := 122) dX12_reckon_122 rfl (by first | decide | omega) (by first | decide | omega) ?_
      exact ⟨rfl, rfl, Or.inl ⟨by simp [calc2, hb0], rfl, rfl⟩⟩
    · have hb1 : ¬ i64 b = 0 := fun z => hb0 ((i64_inj hb s0).mp (z.trans hz))
      refine V_iload_n (pc := 0) dX12_reckon_0 rfl ?_
      refine V_tableIn (pc := 1) (off := 90) (tgt := 91) dX12_reckon_1 (by decide) (by decide) (by decide) (by decide) ?_
      refine V_aload_n (pc := 91) dX12_reckon_91 rfl ?_
      refine V_lload (pc := 92) dX12_reckon_92 rfl ?_
      refine V_lconst (pc := 94) (v := lN 0) dX12_reckon_94 (by decide) ?_
      refine V_lcmp (pc := 95) dX12_reckon_95 ?_
      refine V_if_ne (pc := 96) (tgt := 103) dX12_reckon_96 (by decide) (fun c96 => ?_) (fun n96 => absurd n96 (by exact fun z => hb1 (((lg_cmp_eq _ _).mp n96).trans rfl)))
      refine V_iconst (pc := 103) (v := nI 0) dX12_reckon_103 (by decide) ?_
      refine V_putI (pc := 104) 12 38 dX12_reckon_104 flX12_424 (by decide) (by decide) (Or.inl rfl) rfl rfl h12.o ?_
      refine V_aload_n (pc := 107) dX12_reckon_107 rfl ?_
      refine V_getIE (pc := 108) 12 38 dX12_reckon_108 flX12_424 (by decide) h12.o (up2_self) ?_
      refine V_if_eqN (pc := 111) (tgt := 118) dX12_reckon_111 (by decide) (by omega) (fun c111 => ?_) (fun n111 => absurd n111 (by omega))
      refine V_lload_n (pc := 118) dX12_reckon_118 rfl ?_
      refine V_lload (pc := 119) dX12_reckon_119 rfl ?_
      refine V_lrem (pc := 121) dX12_reckon_121 (by first | decide | assumption) ?_
      refine V_lret (pc := 122) dX12_reckon_122 rfl (by first | decide | omega) (by first | decide | omega) ?_
      exact ⟨rfl, rfl, Or.inr ⟨a.tmod b, by simp [calc2, hb0], by rw [i64_rem ha hb], e0⟩⟩
  · skip
    refine V_iload_n (pc := 0) dX12_reckon_0 rfl ?_
    refine V_tableIn (pc := 1) (off := 122) (tgt := 123) dX12_reckon_1 (by decide) (by decide) (by decide) (by decide) ?_
    refine V_lload_n (pc := 123) dX12_reckon_123 rfl ?_
    refine V_lload (pc := 124) dX12_reckon_124 rfl ?_
    refine V_lcmp (pc := 126) dX12_reckon_126 ?_
    refine V_if_ge (pc := 127) (tgt := 134) dX12_reckon_127 (by decide) (fun c127 => ?_) (fun n127 => ?_)
    · skip
      refine V_lconst (pc := 134) (v := lN 0) dX12_reckon_134 (by decide) ?_
      refine V_lret (pc := 135) dX12_reckon_135 rfl (by first | decide | omega) (by first | decide | omega) ?_
      first | exact ⟨rfl, rfl, Or.inr ⟨1, by simp [calc2, (i64_lt ha hb).mp (Int64.not_le.mp (fun z => n127 ((lg_cmp_ge _ _).mpr z)))], rfl, rfl⟩⟩ | exact ⟨rfl, rfl, Or.inr ⟨0, by have := (i64_le hb ha).mp ((lg_cmp_ge _ _).mp c127); simp [calc2]; omega, rfl, rfl⟩⟩
    · skip
      refine V_lconst (pc := 130) (v := lN 1) dX12_reckon_130 (by decide) ?_
      refine V_goto (pc := 131) (tgt := 135) dX12_reckon_131 (by decide) ?_
      refine V_lret (pc := 135) dX12_reckon_135 rfl (by first | decide | omega) (by first | decide | omega) ?_
      first | exact ⟨rfl, rfl, Or.inr ⟨1, by simp [calc2, (i64_lt ha hb).mp (Int64.not_le.mp (fun z => n127 ((lg_cmp_ge _ _).mpr z)))], rfl, rfl⟩⟩ | exact ⟨rfl, rfl, Or.inr ⟨0, by have := (i64_le hb ha).mp ((lg_cmp_ge _ _).mp c127); simp [calc2]; omega, rfl, rfl⟩⟩
  · skip
    refine V_iload_n (pc := 0) dX12_reckon_0 rfl ?_
    refine V_tableIn (pc := 1) (off := 135) (tgt := 136) dX12_reckon_1 (by decide) (by decide) (by decide) (by decide) ?_
    refine V_lload_n (pc := 136) dX12_reckon_136 rfl ?_
    refine V_lload (pc := 137) dX12_reckon_137 rfl ?_
    refine V_lcmp (pc := 139) dX12_reckon_139 ?_
    refine V_if_le (pc := 140) (tgt := 147) dX12_reckon_140 (by decide) (fun c140 => ?_) (fun n140 => ?_)
    · skip
      refine V_lconst (pc := 147) (v := lN 0) dX12_reckon_147 (by decide) ?_
      refine V_lret (pc := 148) dX12_reckon_148 rfl (by first | decide | omega) (by first | decide | omega) ?_
      first | exact ⟨rfl, rfl, Or.inr ⟨1, by simp [calc2, (i64_lt hb ha).mp (Int64.not_le.mp (fun z => n140 ((lg_cmp_le _ _).mpr z)))], rfl, rfl⟩⟩ | exact ⟨rfl, rfl, Or.inr ⟨0, by have := (i64_le ha hb).mp ((lg_cmp_le _ _).mp c140); simp [calc2]; omega, rfl, rfl⟩⟩
    · skip
      refine V_lconst (pc := 143) (v := lN 1) dX12_reckon_143 (by decide) ?_
      refine V_goto (pc := 144) (tgt := 148) dX12_reckon_144 (by decide) ?_
      refine V_lret (pc := 148) dX12_reckon_148 rfl (by first | decide | omega) (by first | decide | omega) ?_
      first | exact ⟨rfl, rfl, Or.inr ⟨1, by simp [calc2, (i64_lt hb ha).mp (Int64.not_le.mp (fun z => n140 ((lg_cmp_le _ _).mpr z)))], rfl, rfl⟩⟩ | exact ⟨rfl, rfl, Or.inr ⟨0, by have := (i64_le ha hb).mp ((lg_cmp_le _ _).mp c140); simp [calc2]; omega, rfl, rfl⟩⟩
  · skip
    refine V_iload_n (pc := 0) dX12_reckon_0 rfl ?_
    refine V_tableOut (pc := 1) (tgt := 149) dX12_reckon_1 (by decide) (by decide) ?_
    refine V_lload_n (pc := 149) dX12_reckon_149 rfl ?_
    refine V_lload (pc := 150) dX12_reckon_150 rfl ?_
    refine V_lcmp (pc := 152) dX12_reckon_152 ?_
    refine V_if_ne (pc := 153) (tgt := 160) dX12_reckon_153 (by decide) (fun c153 => ?_) (fun n153 => ?_)
    · skip
      refine V_lconst (pc := 160) (v := lN 0) dX12_reckon_160 (by decide) ?_
      refine V_lret (pc := 161) dX12_reckon_161 rfl (by first | decide | omega) (by first | decide | omega) ?_
      first | exact ⟨rfl, rfl, Or.inr ⟨1, by simp [calc2, (i64_inj ha hb).mp ((lg_cmp_eq _ _).mp n153)], rfl, rfl⟩⟩ | exact ⟨rfl, rfl, Or.inr ⟨0, by have : ¬ a = b := fun z => c153 ((lg_cmp_eq _ _).mpr (by rw [z])); simp [calc2, this], rfl, rfl⟩⟩
    · skip
      refine V_lconst (pc := 156) (v := lN 1) dX12_reckon_156 (by decide) ?_
      refine V_goto (pc := 157) (tgt := 161) dX12_reckon_157 (by decide) ?_
      refine V_lret (pc := 161) dX12_reckon_161 rfl (by first | decide | omega) (by first | decide | omega) ?_
      first | exact ⟨rfl, rfl, Or.inr ⟨1, by simp [calc2, (i64_inj ha hb).mp ((lg_cmp_eq _ _).mp n153)], rfl, rfl⟩⟩ | exact ⟨rfl, rfl, Or.inr ⟨0, by have : ¬ a = b := fun z => c153 ((lg_cmp_eq _ _).mpr (by rw [z])); simp [calc2, this], rfl, rfl⟩⟩
end MC
