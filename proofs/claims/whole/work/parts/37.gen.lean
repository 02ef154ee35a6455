/-! THE REFERENCE: how likely a spring lasts; generations -/
def upf {α : Type} (f : Nat → α) (i : Nat) (v : α) : Nat → α := fun j => if j = i then v else f j
theorem upf_s {α : Type} {f : Nat → α} {i : Nat} {v : α} : upf f i v i = v := by simp [upf]
theorem upf_n {α : Type} {f : Nat → α} {i j : Nat} {v : α} (h : j ≠ i) : upf f i v j = f j := by simp [upf, h]
def sty (d : Nat) (f : Nat → Int64) : Nat → Nat → Int64 | 0 => f | k + 1 => upf (upf (sty d f k) (k + 1) (sty d f k (k + 1) * lN (10 - d) / 10)) k (sty d f k k + sty d f k (k + 1) * lN d / 10)
def stk (d : Nat) (f : Nat → Int64) : Nat → Nat → Int64 | 0 => f | n + 1 => sty d (stk d f n) 20
def stl (f : Nat → Int64) : Nat → Int64 | 0 => lN 0 | k + 1 => stl f k + f (k + 1)
def st0 (v : Nat) : Nat → Int64 := fun j => if j = v then 1000000000000 else lN 0
def spStands (A : AT) (x y : Int32) : Int64 := if bnd x (aq A 0) = true ∧ bnd y 61 = true then stl (stk (aq A 6) (st0 (aq A (62 + cln x))) (cln y)) 20 else -1
section MI8
variable {E : EnT} {S : ST} {I : IT} {L : LT} {o : Nat} {A : AT}
theorem lp_st0 (h12 : Lay12 E S o) {R : Room} {Q : QT} {q : Nat → Nat} {b n : Nat} (hr : RowM I (o + 2) q) (hq : wq q) (hb : b < 6) (hk : ∀ L', (∀ a, a ≠ o + 31 → L' a = L a) → (∀ v, v < 21 → L' (o + 31) v = st0 (q (62 + b)) v) → V E kX12_stands R Q 0 0 S I L' 69 [(0, .ref o), (1, .int (nI b)), (2, .int (nI n)), (3, .int (nI 21))] []) : V E kX12_stands R Q 0 0 S I L 31 [(0, .ref o), (1, .int (nI b)), (2, .int (nI n)), (3, .int (nI 0))] [] := by
  have hsp := hq.sp b hb
  have key : ∀ j, j ≤ 21 → ∀ L', (∀ a, a ≠ o + 31 → L' a = L a) → (∀ v, v < j → L' (o + 31) v = st0 (q (62 + b)) v) → V E kX12_stands R Q 0 0 S I L' 31 [(0, .ref o), (1, .int (nI b)), (2, .int (nI n)), (3, .int (nI j))] [] := by
    refine loopUp ?_ ?_
    · intro L' ha hv
      refine V_iload_n (pc := 31) dX12_stands_31 rfl ?_
      refine V_bipush (pc := 32) (v := nI 21) dX12_stands_32 (by decide) ?_
      refine V_icmp_geN (pc := 34) (tgt := 69) dX12_stands_34 (by decide) (by omega) (by omega) (fun c34 => ?_) (fun n34 => absurd n34 (by omega))
      exact hk L' ha hv
    · intro j hj ih L' ha hv
      refine V_iload_n (pc := 31) dX12_stands_31 rfl ?_
      refine V_bipush (pc := 32) (v := nI 21) dX12_stands_32 (by decide) ?_
      refine V_icmp_geN (pc := 34) (tgt := 69) dX12_stands_34 (by decide) (by omega) (by omega) (fun c34 => absurd c34 (by omega)) (fun n34 => ?_)
      refine V_aload_n (pc := 37) dX12_stands_37 rfl ?_
      refine V_getR (pc := 38) 12 51 dX12_stands_38 flX12_140 (by decide) h12.o h12.R51 ?_
      refine V_iload_n (pc := 41) dX12_stands_41 rfl ?_
      refine V_iload_n (pc := 42) dX12_stands_42 rfl ?_
      refine V_aload_n (pc := 43) dX12_stands_43 rfl ?_
      refine V_getR (pc := 44) 12 3 dX12_stands_44 flX12_13 (by decide) h12.o h12.R3 ?_
      refine V_bipush (pc := 47) (v := nI 62) dX12_stands_47 (by decide) ?_
      refine V_iload_n (pc := 49) dX12_stands_49 rfl ?_
      refine V_iaddN (pc := 50) dX12_stands_50 ?_
      refine V_ialoadE (pc := 51) dX12_stands_51 h12.A3 (by first | decide | omega) (by omega) (hr.n (by omega)) ?_
      refine V_icmp_neN (pc := 52) (tgt := 61) dX12_stands_52 (by decide) (by omega) (by omega) (fun c52 => ?_) (fun n52 => ?_)
      · skip
        refine V_lconst (pc := 61) (v := lN 0) dX12_stands_61 (by decide) ?_
        refine V_lastore (pc := 62) dX12_stands_62 h12.A51 (by first | decide | omega) (by omega) ?_
        refine V_iinc1 (pc := 63) (ls' := [(0, _), (1, _), (2, _), (3, _)]) dX12_stands_63 rfl (by decide) rfl ?_
        refine V_goto (pc := 66) (tgt := 31) dX12_stands_66 (by decide) ?_
        refine ih _ (fun a h => by rw [up2_row h]; exact ha a h) (fun v hv2 => ?_)
        by_cases e : v = j
        · subst e; rw [up2_self]; unfold st0; first | rw [if_pos n52] | rw [if_neg c52]
        · rw [up2_nej e]; exact hv v (by omega)
      · skip
        refine V_ldc2 (pc := 55) dX12_stands_55 coX12_529 ?_
        refine V_goto (pc := 58) (tgt := 62) dX12_stands_58 (by decide) ?_
        refine V_lastore (pc := 62) dX12_stands_62 h12.A51 (by first | decide | omega) (by omega) ?_
        refine V_iinc1 (pc := 63) (ls' := [(0, _), (1, _), (2, _), (3, _)]) dX12_stands_63 rfl (by decide) rfl ?_
        refine V_goto (pc := 66) (tgt := 31) dX12_stands_66 (by decide) ?_
        refine ih _ (fun a h => by rw [up2_row h]; exact ha a h) (fun v hv2 => ?_)
        by_cases e : v = j
        · subst e; rw [up2_self]; unfold st0; first | rw [if_pos n52] | rw [if_neg c52]
        · rw [up2_nej e]; exact hv v (by omega)
  exact key 0 (by omega) L (fun _ _ => rfl) (fun v hv => absurd hv (Nat.not_lt_zero v))
theorem lp_st1 (h12 : Lay12 E S o) {R : Room} {Q : QT} {b n d k : Nat} {f : Nat → Int64} {L0 : LT} (hd : d ≤ 10) (ha0 : ∀ a, a ≠ o + 31 → L a = L0 a) (hf : ∀ v, v < 21 → L (o + 31) v = f v) (hk : ∀ L', (∀ a, a ≠ o + 31 → L' a = L0 a) → (∀ v, v < 21 → L' (o + 31) v = sty d f 20 v) → V E kX12_stands R Q 0 0 S I L' 151 [(0, .ref o), (1, .int (nI b)), (2, .int (nI n)), (3, .int (nI d)), (4, .int (nI k)), (5, .int (nI 21))] []) : V E kX12_stands R Q 0 0 S I L 89 [(0, .ref o), (1, .int (nI b)), (2, .int (nI n)), (3, .int (nI d)), (4, .int (nI k)), (5, .int (nI 1))] [] := by
  have key : ∀ j, j ≤ 20 → ∀ L', (∀ a, a ≠ o + 31 → L' a = L0 a) → (∀ v, v < 21 → L' (o + 31) v = sty d f j v) → V E kX12_stands R Q 0 0 S I L' 89 [(0, .ref o), (1, .int (nI b)), (2, .int (nI n)), (3, .int (nI d)), (4, .int (nI k)), (5, .int (nI (j + 1)))] [] := by
    refine loopUp ?_ ?_
    · intro L' ha hv
      refine V_iload (pc := 89) dX12_stands_89 rfl ?_
      refine V_bipush (pc := 91) (v := nI 21) dX12_stands_91 (by decide) ?_
      refine V_icmp_geN (pc := 93) (tgt := 151) dX12_stands_93 (by decide) (by omega) (by omega) (fun c93 => ?_) (fun n93 => absurd n93 (by omega))
      exact hk L' ha hv
    · intro j hj ih L' ha hv
      refine V_iload (pc := 89) dX12_stands_89 rfl ?_
      refine V_bipush (pc := 91) (v := nI 21) dX12_stands_91 (by decide) ?_
      refine V_icmp_geN (pc := 93) (tgt := 151) dX12_stands_93 (by decide) (by omega) (by omega) (fun c93 => absurd c93 (by omega)) (fun n93 => ?_)
      refine V_aload_n (pc := 96) dX12_stands_96 rfl ?_
      refine V_getR (pc := 97) 12 51 dX12_stands_97 flX12_140 (by decide) h12.o h12.R51 ?_
      refine V_iload (pc := 100) dX12_stands_100 rfl ?_
      refine V_laloadE (pc := 102) dX12_stands_102 h12.A51 (by first | decide | omega) (by omega) (hv (j + 1) (by omega)) ?_
      refine V_lstore (pc := 103) (ls' := [(0, _), (1, _), (2, _), (3, _), (4, _), (5, _), (6, _)]) dX12_stands_103 (by decide) rfl ?_
      refine V_aload_n (pc := 105) dX12_stands_105 rfl ?_
      refine V_getR (pc := 106) 12 51 dX12_stands_106 flX12_140 (by decide) h12.o h12.R51 ?_
      refine V_iload (pc := 109) dX12_stands_109 rfl ?_
      refine V_lload (pc := 111) dX12_stands_111 rfl ?_
      refine V_bipush (pc := 113) (v := nI 10) dX12_stands_113 (by decide) ?_
      refine V_iload_n (pc := 115) dX12_stands_115 rfl ?_
      refine V_isubN (pc := 116) dX12_stands_116 (by omega) ?_
      refine V_i2lN (pc := 117) dX12_stands_117 (by omega) ?_
      refine V_lmul (pc := 118) dX12_stands_118 ?_
      refine V_ldc2 (pc := 119) dX12_stands_119 coX12_259 ?_
      refine V_ldiv (pc := 122) dX12_stands_122 (by first | decide | assumption) ?_
      refine V_lastore (pc := 123) dX12_stands_123 h12.A51 (by first | decide | omega) (by omega) ?_
      refine V_aload_n (pc := 124) dX12_stands_124 rfl ?_
      refine V_getR (pc := 125) 12 51 dX12_stands_125 flX12_140 (by decide) h12.o h12.R51 ?_
      refine V_iload (pc := 128) dX12_stands_128 rfl ?_
      refine V_iconst (pc := 130) (v := nI 1) dX12_stands_130 (by decide) ?_
      refine V_isubN (pc := 131) dX12_stands_131 (by omega) ?_
      refine V_dup2 (pc := 132) dX12_stands_132 rfl rfl ?_
      refine V_laloadE (pc := 133) dX12_stands_133 h12.A51 (by first | decide | omega) (by omega) (show (_ : Int64) = sty d f j j by rw [up2_nej (by omega), show j + 1 - 1 = j by omega]; exact hv j (by omega)) ?_
      refine V_lload (pc := 134) dX12_stands_134 rfl ?_
      refine V_iload_n (pc := 136) dX12_stands_136 rfl ?_
      refine V_i2lN (pc := 137) dX12_stands_137 (by omega) ?_
      refine V_lmul (pc := 138) dX12_stands_138 ?_
      refine V_ldc2 (pc := 139) dX12_stands_139 coX12_259 ?_
      refine V_ldiv (pc := 142) dX12_stands_142 (by first | decide | assumption) ?_
      refine V_ladd (pc := 143) dX12_stands_143 ?_
      refine V_lastore (pc := 144) dX12_stands_144 h12.A51 (by first | decide | omega) (by omega) ?_
      refine V_loc [0, 1, 2, 3, 4, 5] rfl ?_
      refine V_iinc1 (pc := 145) (ls' := [(0, _), (1, _), (2, _), (3, _), (4, _), (5, _)]) dX12_stands_145 rfl (by decide) rfl ?_
      refine V_goto (pc := 148) (tgt := 89) dX12_stands_148 (by decide) ?_
      refine ih _ (fun a h => by rw [up2_row h, up2_row h]; exact ha a h) (fun v hv2 => ?_)
      rw [sty, show j + 1 - 1 = j by omega]
      by_cases e : v = j
      · subst e; rw [up2_self, upf_s]
      · rw [up2_nej e, upf_n e]
        by_cases e2 : v = j + 1
        · subst e2; rw [up2_self, upf_s]
        · rw [up2_nej e2, upf_n e2]; exact hv v hv2
  exact key 0 (by omega) L ha0 hf
theorem lp_st2 (h12 : Lay12 E S o) {R : Room} {Q : QT} {b n d : Nat} {f : Nat → Int64} {L0 : LT} (hd : d ≤ 10) (hn : n < 61) (ha0 : ∀ a, a ≠ o + 31 → L a = L0 a) (hf : ∀ v, v < 21 → L (o + 31) v = f v) (hk : ∀ L', (∀ a, a ≠ o + 31 → L' a = L0 a) → (∀ v, v < 21 → L' (o + 31) v = stk d f n v) → V E kX12_stands R Q 0 0 S I L' 157 [(0, .ref o), (1, .int (nI b)), (2, .int (nI n)), (3, .int (nI d)), (4, .int (nI n))] []) : V E kX12_stands R Q 0 0 S I L 80 [(0, .ref o), (1, .int (nI b)), (2, .int (nI n)), (3, .int (nI d)), (4, .int (nI 0))] [] := by
  have key : ∀ j, j ≤ n → ∀ L', (∀ a, a ≠ o + 31 → L' a = L0 a) → (∀ v, v < 21 → L' (o + 31) v = stk d f j v) → V E kX12_stands R Q 0 0 S I L' 80 [(0, .ref o), (1, .int (nI b)), (2, .int (nI n)), (3, .int (nI d)), (4, .int (nI j))] [] := by
    refine loopUp ?_ ?_
    · intro L' ha hv
      refine V_iload (pc := 80) dX12_stands_80 rfl ?_
      refine V_iload_n (pc := 82) dX12_stands_82 rfl ?_
      refine V_icmp_geN (pc := 83) (tgt := 157) dX12_stands_83 (by decide) (by omega) (by omega) (fun c83 => ?_) (fun n83 => absurd n83 (by omega))
      exact hk L' ha hv
    · intro j hj ih L' ha hv
      refine V_iload (pc := 80) dX12_stands_80 rfl ?_
      refine V_iload_n (pc := 82) dX12_stands_82 rfl ?_
      refine V_icmp_geN (pc := 83) (tgt := 157) dX12_stands_83 (by decide) (by omega) (by omega) (fun c83 => absurd c83 (by omega)) (fun n83 => ?_)
      refine V_iconst (pc := 86) (v := nI 1) dX12_stands_86 (by decide) ?_
      refine V_istore (pc := 87) (ls' := [(0, _), (1, _), (2, _), (3, _), (4, _), (5, _)]) dX12_stands_87 (by decide) rfl ?_
      refine lp_st1 h12 hd ha hv (fun L2 ha2 hv2 => ?_)
      refine V_loc [0, 1, 2, 3, 4] rfl ?_
      refine V_iinc1 (pc := 151) (ls' := [(0, _), (1, _), (2, _), (3, _), (4, _)]) dX12_stands_151 rfl (by decide) rfl ?_
      refine V_goto (pc := 154) (tgt := 80) dX12_stands_154 (by decide) ?_
      exact ih L2 ha2 hv2
  exact key 0 (by omega) L ha0 hf
theorem lp_st3 (h12 : Lay12 E S o) {R : Room} {b n d : Nat} {f : Nat → Int64} {post : Option Value → ST → IT → LT → Prop} (hf : ∀ v, v < 21 → L (o + 31) v = f v) (hp : post (some (.long (stl f 20))) S I L) : V E kX12_stands R (QM E post 0 0) 0 0 S I L 163 [(0, .ref o), (1, .int (nI b)), (2, .int (nI n)), (3, .int (nI d)), (4, .long (lN 0)), (6, .int (nI 1))] [] := by
  refine loopUp (P := fun j => V E kX12_stands R (QM E post 0 0) 0 0 S I L 163 [(0, .ref o), (1, .int (nI b)), (2, .int (nI n)), (3, .int (nI d)), (4, .long (stl f j)), (6, .int (nI (j + 1)))] []) (n := 20) ?_ ?_ 0 (by omega)
  · skip
    refine V_iload (pc := 163) dX12_stands_163 rfl ?_
    refine V_bipush (pc := 165) (v := nI 21) dX12_stands_165 (by decide) ?_
    refine V_icmp_geN (pc := 167) (tgt := 188) dX12_stands_167 (by decide) (by omega) (by omega) (fun c167 => ?_) (fun n167 => absurd n167 (by omega))
    refine V_lload (pc := 188) dX12_stands_188 rfl ?_
    refine V_lret (pc := 190) dX12_stands_190 rfl (by first | decide | omega) (by first | decide | omega) ?_
    exact hp
  · intro j hj ih
    rw [stl] at ih
    refine V_iload (pc := 163) dX12_stands_163 rfl ?_
    refine V_bipush (pc := 165) (v := nI 21) dX12_stands_165 (by decide) ?_
    refine V_icmp_geN (pc := 167) (tgt := 188) dX12_stands_167 (by decide) (by omega) (by omega) (fun c167 => absurd c167 (by omega)) (fun n167 => ?_)
    refine V_lload (pc := 170) dX12_stands_170 rfl ?_
    refine V_aload_n (pc := 172) dX12_stands_172 rfl ?_
    refine V_getR (pc := 173) 12 51 dX12_stands_173 flX12_140 (by decide) h12.o h12.R51 ?_
    refine V_iload (pc := 176) dX12_stands_176 rfl ?_
    refine V_laloadE (pc := 178) dX12_stands_178 h12.A51 (by first | decide | omega) (by omega) (hf (j + 1) (by omega)) ?_
    refine V_ladd (pc := 179) dX12_stands_179 ?_
    refine V_lstore (pc := 180) (ls' := [(0, _), (1, _), (2, _), (3, _), (4, _), (6, _)]) dX12_stands_180 (by decide) rfl ?_
    refine V_iinc1 (pc := 182) (ls' := [(0, _), (1, _), (2, _), (3, _), (4, _), (6, _)]) dX12_stands_182 rfl (by decide) rfl ?_
    refine V_goto (pc := 185) (tgt := 163) dX12_stands_185 (by decide) ?_
    exact ih
theorem MR.l31 {L' : LT} (h : MR o I L A) (hL : ∀ a, a ≠ o + 31 → L' a = L a) : MR o I L' A := h.dead ⟨fun _ _ => rfl, fun _ _ => rfl, fun a ha => hL a (by simp at ha; omega)⟩
theorem c_X12_stands (h12 : Lay12 E S o) (hM : MR o I L A) (hA : wfA A) {x y : Int32} : Cm E kX12_stands 2 [.ref o, .int x, .int y] S I L o (.long (spStands A x y)) A := by
  have hq := hA.q
  have hnb := hq.nb
  have hda := hq.da
  have e60 : decide (lN 0 ≤ y.toInt64 ∧ y.toInt64 ≤ (60 : Int64)) = bnd y 61 := bnd64' (n := 60) (by omega)
  refine C_of (by decide) (Nat.le_of_ble_eq_true rfl) ?_
  refine V_aload_n (pc := 0) dX12_stands_0 rfl ?_
  refine V_iconst (pc := 1) (v := nI 0) dX12_stands_1 (by decide) ?_
  refine V_putI (pc := 2) 12 0 dX12_stands_2 flX12_175 (by decide) (by decide) (Or.inl rfl) rfl rfl h12.o ?_
  have hM := hM.thrown (v := nI 0)
  have hF : FrM o (up2 I o 0 (nI 0)) I L L := FrM.rf.up (by omega)
  generalize up2 I o 0 (nI 0) = I0 at hM hF ⊢
  have hr := hM.row
  refine V_aload_n (pc := 5) dX12_stands_5 rfl ?_
  refine V_iload_n (pc := 6) dX12_stands_6 rfl ?_
  refine V_callVd (pc := 7) (ci := 12) (c_X12_isBox (by first | assumption | omega | exact h12) (by first | assumption | omega | exact h12) (by first | assumption | omega | exact h12)) dX12_stands_7 mlX12_213 mkX12_isBox rfl rfl h12.o ⟨by decide, rfl⟩ ⟨Nat.le_of_ble_eq_true rfl, Nat.le_of_ble_eq_true rfl⟩ (Nat.le_of_ble_eq_true rfl) ⟨Nat.le_of_ble_eq_true rfl, Nat.le_of_ble_eq_true rfl⟩ ?_
  refine V_if_eqB (pc := 10) (tgt := 25) dX12_stands_10 (by decide) (fun c10 => ?_) (fun n10 => ?_)
  · skip
    refine V_ldc2 (pc := 25) dX12_stands_25 coX12_302 ?_
    refine V_lret (pc := 28) dX12_stands_28 rfl (by first | decide | omega) (by first | decide | omega) ?_
    first | (rw [spStands, if_neg (fun w => by rw [w.1] at c10; exact absurd c10 (by decide))]; exact ⟨rfl, rfl, hM, hF⟩) | (rw [e60] at n22; rw [spStands, if_neg (fun w => by rw [w.2] at n22; exact absurd n22 (by decide))]; exact ⟨rfl, rfl, hM, hF⟩)
  · skip
    refine V_iload_n (pc := 13) dX12_stands_13 rfl ?_
    refine V_i2l (pc := 14) dX12_stands_14 rfl ?_
    refine V_lconst (pc := 15) (v := lN 0) dX12_stands_15 (by decide) ?_
    refine V_ldc2 (pc := 16) dX12_stands_16 coX12_239 ?_
    refine V_callSd (pc := 19) (c_X12_in) dX12_stands_19 mlX12_195 mkX12_in rfl rfl ⟨Nat.le_of_ble_eq_true rfl, Nat.le_of_ble_eq_true rfl⟩ (Nat.le_of_ble_eq_true rfl) ⟨Nat.le_of_ble_eq_true rfl, Nat.le_of_ble_eq_true rfl⟩ ?_
    refine V_if_neB (pc := 22) (tgt := 29) dX12_stands_22 (by decide) (fun c22 => ?_) (fun n22 => ?_)
    · skip
      rw [e60] at c22
      rw [spStands, if_pos ⟨n10, c22⟩]
      obtain ⟨b, hb, hx⟩ := bnd_ex (by omega) n10
      obtain ⟨n, hn, hy⟩ := bnd_ex (by omega) c22
      subst hx hy
      rw [cln_nI (by omega), cln_nI (by omega)]
      refine V_iconst (pc := 29) (v := nI 0) dX12_stands_29 (by decide) ?_
      refine V_istore_n (pc := 30) (ls' := [(0, _), (1, _), (2, _), (3, _)]) dX12_stands_30 (by decide) rfl ?_
      refine lp_st0 h12 hr hq (by omega) (fun L1 ha1 hv1 => ?_)
      refine V_aload_n (pc := 69) dX12_stands_69 rfl ?_
      refine V_getR (pc := 70) 12 3 dX12_stands_70 flX12_13 (by decide) h12.o h12.R3 ?_
      refine V_bipush (pc := 73) (v := nI 6) dX12_stands_73 (by decide) ?_
      refine V_ialoadE (pc := 75) dX12_stands_75 h12.A3 (by first | decide | omega) (by omega) (hr.n (by omega)) ?_
      refine V_istore_n (pc := 76) (ls' := [(0, _), (1, _), (2, _), (3, _)]) dX12_stands_76 (by decide) rfl ?_
      refine V_iconst (pc := 77) (v := nI 0) dX12_stands_77 (by decide) ?_
      refine V_istore (pc := 78) (ls' := [(0, _), (1, _), (2, _), (3, _), (4, _)]) dX12_stands_78 (by decide) rfl ?_
      refine lp_st2 h12 (by omega) hn ha1 hv1 (fun L2 ha2 hv2 => ?_)
      refine V_lconst (pc := 157) (v := lN 0) dX12_stands_157 (by decide) ?_
      refine V_lstore (pc := 158) (ls' := [(0, _), (1, _), (2, _), (3, _), (4, _)]) dX12_stands_158 (by decide) rfl ?_
      refine V_iconst (pc := 160) (v := nI 1) dX12_stands_160 (by decide) ?_
      refine V_istore (pc := 161) (ls' := [(0, _), (1, _), (2, _), (3, _), (4, _), (6, _)]) dX12_stands_161 (by decide) rfl ?_
      exact lp_st3 h12 hv2 ⟨rfl, rfl, hM.l31 ha2, fun a ha => ⟨(hF a ha).1, ha2 a (by omega)⟩⟩
    · skip
      refine V_ldc2 (pc := 25) dX12_stands_25 coX12_302 ?_
      refine V_lret (pc := 28) dX12_stands_28 rfl (by first | decide | omega) (by first | decide | omega) ?_
      first | (rw [spStands, if_neg (fun w => by rw [w.1] at c10; exact absurd c10 (by decide))]; exact ⟨rfl, rfl, hM, hF⟩) | (rw [e60] at n22; rw [spStands, if_neg (fun w => by rw [w.2] at n22; exact absurd n22 (by decide))]; exact ⟨rfl, rfl, hM, hF⟩)
/-! draws -/
def drw (s : Nat) : Nat := (s * 1103 + 12345) % 1000003
theorem drw_lt (s : Nat) : drw s < 1000003 := Nat.mod_lt _ (by decide)
theorem c_X12_draw (h12 : Lay12 E S o) {s n : Nat} (hs : s < 2000000) (hn : 0 < n ∧ n < 2 ^ 31) (h59 : L o 59 = lN s) : Cd E kX12_draw 0 0 0 [.ref o, .int (nI n)] S I L (.int (nI (drw s % n))) S I (up2 L o 59 (lN (drw s))) := by
  have hd := drw_lt s
  have e1 : lN s * 1103 + 12345 - (lN s * 1103 + 12345) / 1000003 * 1000003 = lN (drw s) := by
    have e : lN s * 1103 + 12345 = lN (s * 1103 + 12345) := by
      rw [show (1103 : Int64) = lN 1103 from rfl, show (12345 : Int64) = lN 12345 from rfl, lN_mul, lN_add]
    rw [e, show (1000003 : Int64) = lN 1000003 from rfl]
    exact pk_lRem (by omega) (by omega) (by omega)
  have e2 : lN (drw s) - lN (drw s) / lN n * lN n = lN (drw s % n) := pk_lRem (by omega) hn.1 (by omega)
  have e3 : ¬ lN n = 0 := fun z => by
    have := (pk_lEQ (a := n) (b := 0) (by omega) (by omega)).mp (z.trans (show (0 : Int64) = lN 0 from rfl))
    omega
  refine C_of (by decide) (Nat.le_of_ble_eq_true rfl) ?_
  refine V_aload_n (pc := 0) dX12_draw_0 rfl ?_
  refine V_aload_n (pc := 1) dX12_draw_1 rfl ?_
  refine V_getLE (pc := 2) 12 59 dX12_draw_2 flX12_566 (by decide) h12.o (h59) ?_
  refine V_ldc2 (pc := 5) dX12_draw_5 coX12_569 ?_
  refine V_lmul (pc := 8) dX12_draw_8 ?_
  refine V_ldc2 (pc := 9) dX12_draw_9 coX12_571 ?_
  refine V_ladd (pc := 12) dX12_draw_12 ?_
  refine V_ldc2 (pc := 13) dX12_draw_13 coX12_573 ?_
  refine V_lrem (pc := 16) dX12_draw_16 (by decide) ?_
  rw [e1]
  refine V_putL (pc := 17) 12 59 dX12_draw_17 flX12_566 (by decide) (by decide) (Or.inl rfl) rfl rfl h12.o ?_
  refine V_aload_n (pc := 20) dX12_draw_20 rfl ?_
  refine V_getLE (pc := 21) 12 59 dX12_draw_21 flX12_566 (by decide) h12.o (show (_ : Int64) = lN (drw s) from up2_self) ?_
  refine V_iload_n (pc := 24) dX12_draw_24 rfl ?_
  refine V_i2lN (pc := 25) dX12_draw_25 (by omega) ?_
  refine V_lrem (pc := 26) dX12_draw_26 e3 ?_
  rw [e2]
  refine V_l2i (pc := 27) dX12_draw_27 rfl ?_
  rw [lN_i]
  refine V_iret (pc := 28) dX12_draw_28 rfl (by first | decide | omega) (by first | decide | omega) ?_
  exact ⟨rfl, rfl, rfl, rfl⟩
def bor (a t : Nat) : Nat := a ||| 2 ^ t
/-- what a draw does to a box -/
def tch (q : Nat → Nat) (b j t how : Nat) : Nat → Nat := if how = 0 then (if q (8 + 8 * b + j) / 2 ^ t % 2 = 1 then setq q (8 + 8 * b + j) (q (8 + 8 * b + j) - 2 ^ t) else q) else if how = 1 then setq q (56 + b) (bor (q (56 + b)) t) else setq q (62 + b) (q (62 + b) - 1)
def gn1 (law : LawT) (g : (Nat → Nat) × Nat × Nat) : (Nat → Nat) × Nat × Nat := if g.1 5 < 999 then (psq law (tch g.1 (drw g.2.1 % g.1 0) (drw (drw g.2.1) % 8) (drw (drw (drw g.2.1)) % 8) (drw (drw (drw (drw g.2.1))) % 3)), drw (drw (drw (drw g.2.1))), g.2.2 + pse (tch g.1 (drw g.2.1 % g.1 0) (drw (drw g.2.1) % 8) (drw (drw (drw g.2.1)) % 8) (drw (drw (drw (drw g.2.1))) % 3))) else g
def gnr (law : LawT) (q : Nat → Nat) (s : Nat) : Nat → (Nat → Nat) × Nat × Nat | 0 => (q, s, 0) | k + 1 => gn1 law (gnr law q s k)
theorem gnr_stop {law : LawT} {q : Nat → Nat} {s k : Nat} (h : ¬ (gnr law q s k).1 5 < 999) : ∀ m, gnr law q s (k + m) = gnr law q s k
  | 0 => rfl
  | m + 1 => by
    show gn1 law (gnr law q s (k + m)) = _
    rw [gnr_stop h m]
    unfold gn1
    rw [if_neg h]
theorem bor_lt {a t : Nat} (ha : a < 256) (ht : t < 8) : bor a t < 256 := Nat.or_lt_two_pow (n := 8) ha (by have := pow8 ht; omega)
theorem tch_ok {q : Nat → Nat} (hq : wq q) {b j t how : Nat} (hb : b < q 0) (hj : j < 8) (ht : t < 8) : wq (tch q b j t how) ∧ ∀ i, i < 5 ∨ i = 5 ∨ i = 7 ∨ 80 ≤ i → tch q b j t how i = q i := by
  have hnb := hq.nb
  have h1 := hq.pi b j (by omega) hj
  have h2 := hq.br b (by omega)
  have h3 := hq.sp b (by omega)
  unfold tch
  split
  · split
    · exact ⟨hq.pin hb hj (Nat.lt_of_le_of_lt (Nat.sub_le _ _) h1), fun i hi => setq_n (by omega)⟩
    · exact ⟨hq, fun _ _ => rfl⟩
  · split
    · exact ⟨hq.bro hb (bor_lt h2 ht), fun i hi => setq_n (by omega)⟩
    · exact ⟨hq.spr hb (Nat.le_trans (Nat.sub_le _ _) h3), fun i hi => setq_n (by omega)⟩
theorem gnr_ok {law : LawT} {q : Nat → Nat} (hq : wq q) (h0 : 0 < q 0) {s : Nat} (hs : s < 2000000) : ∀ k, wq (gnr law q s k).1 ∧ (∀ i, i < 5 ∨ 80 ≤ i → (gnr law q s k).1 i = q i) ∧ (gnr law q s k).2.1 < 2000000 ∧ (gnr law q s k).2.2 ≤ 6 * k
  | 0 => ⟨hq, fun _ _ => rfl, hs, Nat.le_refl 0⟩
  | k + 1 => by
    obtain ⟨g1, g2, g3, g4⟩ := gnr_ok hq h0 hs k
    show wq (gn1 law (gnr law q s k)).1 ∧ (∀ i, i < 5 ∨ 80 ≤ i → (gn1 law (gnr law q s k)).1 i = q i) ∧ (gn1 law (gnr law q s k)).2.1 < 2000000 ∧ (gn1 law (gnr law q s k)).2.2 ≤ 6 * (k + 1)
    generalize gnr law q s k = g at g1 g2 g3 g4 ⊢
    have hb0 : 0 < g.1 0 := by rw [g2 0 (by omega)]; exact h0
    have ht := tch_ok (t := drw (drw (drw g.2.1)) % 8) (how := drw (drw (drw (drw g.2.1))) % 3) g1 (Nat.mod_lt (drw g.2.1) hb0) (Nat.mod_lt (drw (drw g.2.1)) (show 0 < 8 by omega)) (Nat.mod_lt _ (by omega))
    unfold gn1
    split
    · rename_i h5
      refine ⟨ht.1.year (by rw [ht.2 5 (by omega)]; exact h5), fun i hi => ?_, Nat.lt_of_lt_of_le (drw_lt _) (by omega), ?_⟩
      · show psq law _ i = q i
        rw [psq_o (by omega), ht.2 i (by omega)]
        exact g2 i hi
      · show g.2.2 + pse _ ≤ 6 * (k + 1)
        have hp := pse_le (tch g.1 (drw g.2.1 % g.1 0) (drw (drw g.2.1) % 8) (drw (drw (drw g.2.1)) % 8) (drw (drw (drw (drw g.2.1))) % 3))
        have hb6 := ht.1.nb
        omega
    · exact ⟨g1, g2, g3, by omega⟩
/-- the terms and boxes anew -/
theorem wfA.nq {A : AT} (h : wfA A) {q' : Nat → Nat} (hq : wq q') (he : ∀ i, i < 5 ∨ 80 ≤ i → q' i = aq A i) : wfA (sq A q') := by
  obtain ⟨h1, h2, h3, h4, h5⟩ := h
  have hm : ∀ g, mix q' g = mix (aq A) g := fun g => by
    funext j
    unfold mix
    by_cases c : 5 ≤ j ∧ j < 80
    · rw [if_pos c, if_pos c]
    · rw [if_neg c, if_neg c]; exact he j (by omega)
  refine ⟨hq, fun l hl => h2 l (by rw [← he 3 (by omega)]; exact hl), h3, fun k hk => ?_, h5⟩
  show wq (mix q' _) ∧ _
  rw [hm]
  exact h4 k hk
end MI8
