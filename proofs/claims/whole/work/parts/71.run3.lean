/-! THE REFERENCE runs a clause, II -/
def RnP (o : Nat) (I : IT) (L : LT) (S : ST) (x : OC) (s : RT) (r : Option Value) (S' : ST) (I' : IT) (L' : LT) : Prop := S = S' ∧ FrO o I' I L' L ∧ (rn1 x s = none → r = some (.int (-3)) ∧ MR o I' L' s.1) ∧ ∀ s', rn1 x s = some s' → r = some (.int (nI 0)) ∧ MR o I' L' s'.1 ∧ I' o 55 = nI s'.2.1 ∧ I' o 56 = pred1 s'.2.2
section RD
variable {E : EnT} {S : ST} {I : IT} {L : LT} {o : Nat} {c : CT} {x : OC} {s : RT} {j : Nat}
theorem dv_neg {d : Nat × Nat × AT} (h : d.1 ≠ 0) (h7 : d.1 < 7) : dv d < 0 := by
  unfold dv
  rw [if_neg h]
  have : ∀ k : Fin 7, k.1 ≠ 0 → -(nI k.1) < 0 := by decide
  exact this ⟨d.1, h7⟩ h
theorem CdR.cg {I1 I2 : IT} (h : CdR I1 o c) (h1 : I2 (o + 11) = I1 (o + 11)) (h2 : I2 (o + 12) = I1 (o + 12)) : CdR I2 o c := ⟨fun k hk => by rw [h1, h2]; exact h.1 k hk, h.2⟩
theorem run94 (h12 : Lay12 E S o) (hA : wfA s.1) (hj : j < 12) {I1 : IT} {L1 : LT} (hF : FrO o I1 I L1 L) (hM : MR o I1 L1 s.1) (h55 : I1 o 55 = nI s.2.1) (h56 : I1 o 56 = pred1 s.2.2) (hd : s.2.1 ≤ 100000) (hC : CdR I1 o c) (hO : OM1 (I1 (o + 34)) c j x) (hN : NwR L1 o (wdR s)) (hwo : wok (wdR s)) (h58 : I1 o 58 = b2i false) (hT : x.2.2.2 (wdR s) = some 1) : V E kX12_run (rmOf 10 0 0) (QM E (RnP o I L S x s) 0 0) 0 0 S I1 L1 94 [(0, .ref o), (1, .int (nI (10 * j)))] [] := by
  have hq := hA.q
  obtain ⟨o1, o2, ⟨m1, m2, m3, m4⟩, _, _, _⟩ := hO
  have hl : ∀ a, a < 6 → wdR s (12 + a) = if a < aq s.1 0 then (aq s.1 (74 + a) : Int) else -1 := fun a ha => wdO_l ha
  have hn : ∀ a, a < 6 → wdR s (18 + a) = if a < aq s.1 0 then (nts (aq s.1) a : Int) else -1 := fun a ha => wdO_n ha
  refine V_aload_n (pc := 94) dX12_run_94 rfl ?_
  refine V_iload_n (pc := 95) dX12_run_95 rfl ?_
  refine V_iconst (pc := 96) (v := nI 1) dX12_run_96 (by decide) ?_
  refine V_iaddN (pc := 97) dX12_run_97 ?_
  refine V_callV (pc := 98) (ci := 12) (c_X12_sumOf_g (F := x.2.2.1.1) (us := decide (x.1 ≠ 3)) h12 hM hq (by omega) hC hwo hN hl hn h58 (fun z => (m1 (of_decide_eq_true z)).1) (fun z => (m2 (Classical.byContradiction fun y => of_decide_eq_false z y)).1)) dX12_run_98 mlX12_551 mkX12_sumOf rfl rfl h12.o ⟨by decide, rfl⟩ ⟨Nat.le_of_ble_eq_true rfl, Nat.le_of_ble_eq_true rfl⟩ (Nat.le_of_ble_eq_true rfl) ⟨Nat.le_of_ble_eq_true rfl, Nat.le_of_ble_eq_true rfl⟩ (fun r S' I' L' hp => ?_)
  obtain ⟨v1, rfl, rfl, f1, e1, g1⟩ := hp
  have r34 := f1.1 (o + 34) (by omega)
  refine V_istore_n (pc := 101) (ls' := [(0, _), (1, _), (2, _)]) dX12_run_101 (by decide) rfl ?_
  refine V_aload_n (pc := 102) dX12_run_102 rfl ?_
  refine V_iload_n (pc := 103) dX12_run_103 rfl ?_
  refine V_iconst (pc := 104) (v := nI 3) dX12_run_104 (by decide) ?_
  refine V_iaddN (pc := 105) dX12_run_105 ?_
  refine V_callV (pc := 106) (ci := 12) (c_X12_sumOf_g (F := x.2.2.1.2.1) (us := decide (x.1 ≠ 3)) h12 (f1.mr hM) hq (by omega) (hC.cg (f1.1 _ (by omega)) (f1.1 _ (by omega))) hwo (fun k h1 h2 => by rw [f1.2.2 _ (by omega) (by omega)]; exact hN k h1 h2) hl hn e1 (fun z => by rw [r34]; exact (m1 (of_decide_eq_true z)).2) (fun z => by rw [r34]; exact (m2 (Classical.byContradiction fun y => of_decide_eq_false z y)).2)) dX12_run_106 mlX12_551 mkX12_sumOf rfl rfl h12.o ⟨by decide, rfl⟩ ⟨Nat.le_of_ble_eq_true rfl, Nat.le_of_ble_eq_true rfl⟩ (Nat.le_of_ble_eq_true rfl) ⟨Nat.le_of_ble_eq_true rfl, Nat.le_of_ble_eq_true rfl⟩ (fun r S' I' L' hp => ?_)
  obtain ⟨v2, rfl, rfl, f2', e2, g2⟩ := hp
  have f2 := f2'.tr f1
  have r34b := f2.1 (o + 34) (by omega)
  refine V_istore_n (pc := 109) (ls' := [(0, _), (1, _), (2, _), (3, _)]) dX12_run_109 (by decide) rfl ?_
  refine V_aload_n (pc := 110) dX12_run_110 rfl ?_
  refine V_iload_n (pc := 111) dX12_run_111 rfl ?_
  refine V_iconst (pc := 112) (v := nI 5) dX12_run_112 (by decide) ?_
  refine V_iaddN (pc := 113) dX12_run_113 ?_
  refine V_callV (pc := 114) (ci := 12) (c_X12_sumOf_g (F := x.2.2.1.2.2) (us := decide (x.1 = 0)) h12 (f2.mr hM) hq (by omega) (hC.cg (f2.1 _ (by omega)) (f2.1 _ (by omega))) hwo (fun k h1 h2 => by rw [f2.2.2 _ (by omega) (by omega)]; exact hN k h1 h2) hl hn e2 (fun z => by rw [r34b]; exact m3 (of_decide_eq_true z)) (fun z => by rw [r34b]; exact m4 (of_decide_eq_false z))) dX12_run_114 mlX12_551 mkX12_sumOf rfl rfl h12.o ⟨by decide, rfl⟩ ⟨Nat.le_of_ble_eq_true rfl, Nat.le_of_ble_eq_true rfl⟩ (Nat.le_of_ble_eq_true rfl) ⟨Nat.le_of_ble_eq_true rfl, Nat.le_of_ble_eq_true rfl⟩ (fun r S' I' L' hp => ?_)
  obtain ⟨v3, rfl, rfl, f3', e3, g3⟩ := hp
  have f3 := f3'.tr f2
  have hM4 := f3.mr hM
  have r34c := f3.1 (o + 34) (by omega)
  have eb : (((false || (decide (x.1 ≠ 3) && (x.2.2.1.1 (wdR s)).isNone)) || (decide (x.1 ≠ 3) && (x.2.2.1.2.1 (wdR s)).isNone)) || (decide (x.1 = 0) && (x.2.2.1.2.2 (wdR s)).isNone)) = brk x (wdR s) := by
    unfold brk
    cases decide (x.1 ≠ 3) <;> simp
  rw [eb] at e3
  refine V_istore (pc := 117) (ls' := [(0, _), (1, _), (2, _), (3, _), (4, _)]) dX12_run_117 (by decide) rfl ?_
  skip
  have e55 : I' o 55 = nI s.2.1 := (f3.2.1 55 (by omega) (by omega)).trans h55
  have e56 : I' o 56 = pred1 s.2.2 := (f3.2.1 56 (by omega) (by omega)).trans h56
  cases hbr : brk x (wdR s) with
  | true =>
    rw [hbr] at e3
    refine V_aload_n (pc := 119) dX12_run_119 rfl ?_
    refine V_getIE (pc := 120) 12 58 dX12_run_120 flX12_539 (by decide) h12.o (e3) ?_
    refine V_if_eqB (pc := 123) (tgt := 129) dX12_run_123 (by decide) (fun c123 => absurd c123 (by decide)) (fun n123 => ?_)
    refine V_bipush (pc := 126) (v := (-3)) dX12_run_126 (by decide) ?_
    refine V_iret (pc := 128) dX12_run_128 rfl (by first | decide | omega) (by first | decide | omega) ?_
    exact ⟨rfl, f3.o.tr hF, (fun _ => ⟨rfl, hM4⟩), fun s' hs => by rw [rn1_b hT (Or.inl hbr)] at hs; cases hs⟩
  | false =>
    rw [hbr] at e3
    have hkd : x.1 < 3 → v1 = vI (x.2.2.1.1 (wdR s)) ∧ v2 = vI (x.2.2.1.2.1 (wdR s)) := fun z => by
      have z3 : x.1 ≠ 3 := by omega
      have hb : (x.2.2.1.1 (wdR s)).isNone = false ∧ (x.2.2.1.2.1 (wdR s)).isNone = false := by
        unfold brk at hbr
        rw [decide_eq_true z3] at hbr
        revert hbr
        cases (x.2.2.1.1 (wdR s)).isNone <;> cases (x.2.2.1.2.1 (wdR s)).isNone <;> simp
      obtain ⟨a1, ha1⟩ : ∃ a, x.2.2.1.1 (wdR s) = some a := by
        cases h9 : x.2.2.1.1 (wdR s) with
        | none => rw [h9] at hb; exact absurd hb.1 (by decide)
        | some a => exact ⟨a, rfl⟩
      obtain ⟨a2, ha2⟩ : ∃ a, x.2.2.1.2.1 (wdR s) = some a := by
        cases h9 : x.2.2.1.2.1 (wdR s) with
        | none => rw [h9] at hb; exact absurd hb.2 (by decide)
        | some a => exact ⟨a, rfl⟩
      refine ⟨?_, ?_⟩
      · rw [g1 rfl (decide_eq_true z3) a1 ha1, ha1]; rfl
      · rw [g2 (by rw [ha1]; simp) (decide_eq_true z3) a2 ha2, ha2]; rfl
    have hk0 : x.1 = 0 → v3 = vI (x.2.2.1.2.2 (wdR s)) := fun z => by
      have hb : (x.2.2.1.1 (wdR s)).isNone = false ∧ (x.2.2.1.2.1 (wdR s)).isNone = false ∧ (x.2.2.1.2.2 (wdR s)).isNone = false := by
        unfold brk at hbr
        rw [decide_eq_true (show x.1 ≠ 3 by omega), decide_eq_true z] at hbr
        revert hbr
        cases (x.2.2.1.1 (wdR s)).isNone <;> cases (x.2.2.1.2.1 (wdR s)).isNone <;> cases (x.2.2.1.2.2 (wdR s)).isNone <;> simp
      obtain ⟨a3, ha3⟩ : ∃ a, x.2.2.1.2.2 (wdR s) = some a := by
        cases h9 : x.2.2.1.2.2 (wdR s) with
        | none => rw [h9] at hb; exact absurd hb.2.2 (by decide)
        | some a => exact ⟨a, rfl⟩
      rw [g3 (by rw [hb.1, hb.2.1]; simp) (decide_eq_true z) a3 ha3, ha3]; rfl
    have eA : act1 s.1 x.1 v1 v2 v3 = rnA x s := act1_cg hkd hk0
    have hk := act1_k hA x.1 v1 v2 v3
    rw [eA] at hk
    obtain ⟨k1, k2, k3, k4, k5⟩ := hk
    have ca := c_X12_act (I := I') (L := L') h12 hM4 hA o1 (a := v1) (b := v2) (d := v3)
    rw [eA] at ca
    by_cases hd0 : (rnA x s).1 = 0
    · have hm := k5 hd0
      have ev : dv (rnA x s) = nI (rnA x s).2.1 := by unfold dv; rw [if_pos hd0]
      rw [ev] at ca
      have hs1 := rn1_t hT (show ¬ (brk x (wdR s) = true ∨ (rnA x s).1 ≠ 0) from fun z => z.elim (fun y => by rw [hbr] at y; cases y) (fun y => y hd0))
      by_cases h2 : x.1 = 2
      · skip
        refine V_aload_n (pc := 119) dX12_run_119 rfl ?_
        refine V_getIE (pc := 120) 12 58 dX12_run_120 flX12_539 (by decide) h12.o (e3) ?_
        refine V_if_eqB (pc := 123) (tgt := 129) dX12_run_123 (by decide) (fun c123 => ?_) (fun n123 => absurd n123 (by decide))
        refine V_aload_n (pc := 129) dX12_run_129 rfl ?_
        refine V_aload_n (pc := 130) dX12_run_130 rfl ?_
        refine V_getR (pc := 131) 12 54 dX12_run_131 flX12_163 (by decide) h12.o h12.R54 ?_
        refine V_iload_n (pc := 134) dX12_run_134 rfl ?_
        refine V_ialoadE (pc := 135) dX12_run_135 h12.A54 (by first | decide | omega) (by omega) ((congrFun r34c _).trans o2) ?_
        refine V_iload_n (pc := 136) dX12_run_136 rfl ?_
        refine V_iload_n (pc := 137) dX12_run_137 rfl ?_
        refine V_iload (pc := 138) dX12_run_138 rfl ?_
        refine V_callV (pc := 140) (ci := 12) ca dX12_run_140 mlX12_554 mkX12_act rfl rfl h12.o ⟨by decide, rfl⟩ ⟨Nat.le_of_ble_eq_true rfl, Nat.le_of_ble_eq_true rfl⟩ (Nat.le_of_ble_eq_true rfl) ⟨Nat.le_of_ble_eq_true rfl, Nat.le_of_ble_eq_true rfl⟩ (fun r S' I' L' hp => ?_)
        obtain ⟨rfl, rfl, hM5, hF5⟩ := hp
        refine V_istore (pc := 143) (ls' := [(0, _), (1, _), (2, _), (3, _), (4, _), (5, _)]) dX12_run_143 (by decide) rfl ?_
        refine V_iload (pc := 145) dX12_run_145 rfl ?_
        refine V_if_geN (pc := 147) (tgt := 153) dX12_run_147 (by decide) (by omega) ?_
        refine V_aload_n (pc := 153) dX12_run_153 rfl ?_
        refine V_aload_n (pc := 154) dX12_run_154 rfl ?_
        refine V_getR (pc := 155) 12 54 dX12_run_155 flX12_163 (by decide) h12.o h12.R54 ?_
        refine V_iload_n (pc := 158) dX12_run_158 rfl ?_
        refine V_ialoadE (pc := 159) dX12_run_159 h12.A54 (by first | decide | omega) (by omega) ((congrFun (hF5.2.1 (o + 34) (by omega)) _).trans ((congrFun r34c _).trans o2)) ?_
        refine V_iconst (pc := 160) (v := nI 2) dX12_run_160 (by decide) ?_
        refine V_icmp_neN (pc := 161) (tgt := 169) dX12_run_161 (by decide) (by omega) (by omega) (fun c161 => absurd c161 (by omega)) (fun n161 => ?_)
        refine V_iload (pc := 164) dX12_run_164 rfl ?_
        refine V_goto (pc := 166) (tgt := 173) dX12_run_166 (by decide) ?_
        refine V_putI (pc := 173) 12 56 dX12_run_173 flX12_545 (by decide) (by decide) (Or.inl rfl) rfl rfl h12.o ?_
        refine V_aload_n (pc := 176) dX12_run_176 rfl ?_
        refine V_dup (pc := 177) dX12_run_177 rfl ?_
        refine V_getIE (pc := 178) 12 55 dX12_run_178 flX12_542 (by decide) h12.o ((up2_nej (by omega)).trans ((hF5.2.2.1 55 (by omega)).trans e55)) ?_
        refine V_iconst (pc := 181) (v := nI 1) dX12_run_181 (by decide) ?_
        refine V_iaddN (pc := 182) dX12_run_182 ?_
        refine V_putI (pc := 183) 12 55 dX12_run_183 flX12_542 (by decide) (by decide) (Or.inl rfl) rfl rfl h12.o ?_
        refine V_iconst (pc := 186) (v := nI 0) dX12_run_186 (by decide) ?_
        refine V_iret (pc := 187) dX12_run_187 rfl (by first | decide | omega) (by first | decide | omega) ?_
        refine ⟨rfl, ((hF5.o.tr (f3.o.tr hF)).up (by omega)).up (by omega), (fun z => by rw [hs1] at z; cases z), fun s' hs => ?_⟩
        rw [hs1] at hs
        cases hs
        refine ⟨rfl, (hM5.dead ⟨fun a ha => by rw [up2_row (by simp at ha; omega), up2_row (by simp at ha; omega)], fun i hi => by rw [up2_nej (by simp at hi; omega), up2_nej (by simp at hi; omega)], fun _ _ => rfl⟩), up2_self, ?_⟩
        rw [up2_nej (by omega), up2_self]
        show _ = pred1 (if x.1 = 2 then (rnA x s).2.1 + 1 else s.2.2)
        rw [if_pos h2, pred1_s]
      · skip
        refine V_aload_n (pc := 119) dX12_run_119 rfl ?_
        refine V_getIE (pc := 120) 12 58 dX12_run_120 flX12_539 (by decide) h12.o (e3) ?_
        refine V_if_eqB (pc := 123) (tgt := 129) dX12_run_123 (by decide) (fun c123 => ?_) (fun n123 => absurd n123 (by decide))
        refine V_aload_n (pc := 129) dX12_run_129 rfl ?_
        refine V_aload_n (pc := 130) dX12_run_130 rfl ?_
        refine V_getR (pc := 131) 12 54 dX12_run_131 flX12_163 (by decide) h12.o h12.R54 ?_
        refine V_iload_n (pc := 134) dX12_run_134 rfl ?_
        refine V_ialoadE (pc := 135) dX12_run_135 h12.A54 (by first | decide | omega) (by omega) ((congrFun r34c _).trans o2) ?_
        refine V_iload_n (pc := 136) dX12_run_136 rfl ?_
        refine V_iload_n (pc := 137) dX12_run_137 rfl ?_
        refine V_iload (pc := 138) dX12_run_138 rfl ?_
        refine V_callV (pc := 140) (ci := 12) ca dX12_run_140 mlX12_554 mkX12_act rfl rfl h12.o ⟨by decide, rfl⟩ ⟨Nat.le_of_ble_eq_true rfl, Nat.le_of_ble_eq_true rfl⟩ (Nat.le_of_ble_eq_true rfl) ⟨Nat.le_of_ble_eq_true rfl, Nat.le_of_ble_eq_true rfl⟩ (fun r S' I' L' hp => ?_)
        obtain ⟨rfl, rfl, hM5, hF5⟩ := hp
        refine V_istore (pc := 143) (ls' := [(0, _), (1, _), (2, _), (3, _), (4, _), (5, _)]) dX12_run_143 (by decide) rfl ?_
        refine V_iload (pc := 145) dX12_run_145 rfl ?_
        refine V_if_geN (pc := 147) (tgt := 153) dX12_run_147 (by decide) (by omega) ?_
        refine V_aload_n (pc := 153) dX12_run_153 rfl ?_
        refine V_aload_n (pc := 154) dX12_run_154 rfl ?_
        refine V_getR (pc := 155) 12 54 dX12_run_155 flX12_163 (by decide) h12.o h12.R54 ?_
        refine V_iload_n (pc := 158) dX12_run_158 rfl ?_
        refine V_ialoadE (pc := 159) dX12_run_159 h12.A54 (by first | decide | omega) (by omega) ((congrFun (hF5.2.1 (o + 34) (by omega)) _).trans ((congrFun r34c _).trans o2)) ?_
        refine V_iconst (pc := 160) (v := nI 2) dX12_run_160 (by decide) ?_
        refine V_icmp_neN (pc := 161) (tgt := 169) dX12_run_161 (by decide) (by omega) (by omega) (fun c161 => ?_) (fun n161 => absurd n161 (by omega))
        refine V_aload_n (pc := 169) dX12_run_169 rfl ?_
        refine V_getIE (pc := 170) 12 56 dX12_run_170 flX12_545 (by decide) h12.o ((hF5.2.2.1 56 (by omega)).trans e56) ?_
        refine V_putI (pc := 173) 12 56 dX12_run_173 flX12_545 (by decide) (by decide) (Or.inl rfl) rfl rfl h12.o ?_
        refine V_aload_n (pc := 176) dX12_run_176 rfl ?_
        refine V_dup (pc := 177) dX12_run_177 rfl ?_
        refine V_getIE (pc := 178) 12 55 dX12_run_178 flX12_542 (by decide) h12.o ((up2_nej (by omega)).trans ((hF5.2.2.1 55 (by omega)).trans e55)) ?_
        refine V_iconst (pc := 181) (v := nI 1) dX12_run_181 (by decide) ?_
        refine V_iaddN (pc := 182) dX12_run_182 ?_
        refine V_putI (pc := 183) 12 55 dX12_run_183 flX12_542 (by decide) (by decide) (Or.inl rfl) rfl rfl h12.o ?_
        refine V_iconst (pc := 186) (v := nI 0) dX12_run_186 (by decide) ?_
        refine V_iret (pc := 187) dX12_run_187 rfl (by first | decide | omega) (by first | decide | omega) ?_
        refine ⟨rfl, ((hF5.o.tr (f3.o.tr hF)).up (by omega)).up (by omega), (fun z => by rw [hs1] at z; cases z), fun s' hs => ?_⟩
        rw [hs1] at hs
        cases hs
        refine ⟨rfl, (hM5.dead ⟨fun a ha => by rw [up2_row (by simp at ha; omega), up2_row (by simp at ha; omega)], fun i hi => by rw [up2_nej (by simp at hi; omega), up2_nej (by simp at hi; omega)], fun _ _ => rfl⟩), up2_self, ?_⟩
        rw [up2_nej (by omega), up2_self]
        show _ = pred1 (if x.1 = 2 then (rnA x s).2.1 + 1 else s.2.2)
        rw [if_neg h2]
    · have hneg := dv_neg hd0 k4
      have hs1 := rn1_b hT (Or.inr hd0)
      refine V_aload_n (pc := 119) dX12_run_119 rfl ?_
      refine V_getIE (pc := 120) 12 58 dX12_run_120 flX12_539 (by decide) h12.o (e3) ?_
      refine V_if_eqB (pc := 123) (tgt := 129) dX12_run_123 (by decide) (fun c123 => ?_) (fun n123 => absurd n123 (by decide))
      refine V_aload_n (pc := 129) dX12_run_129 rfl ?_
      refine V_aload_n (pc := 130) dX12_run_130 rfl ?_
      refine V_getR (pc := 131) 12 54 dX12_run_131 flX12_163 (by decide) h12.o h12.R54 ?_
      refine V_iload_n (pc := 134) dX12_run_134 rfl ?_
      refine V_ialoadE (pc := 135) dX12_run_135 h12.A54 (by first | decide | omega) (by omega) ((congrFun r34c _).trans o2) ?_
      refine V_iload_n (pc := 136) dX12_run_136 rfl ?_
      refine V_iload_n (pc := 137) dX12_run_137 rfl ?_
      refine V_iload (pc := 138) dX12_run_138 rfl ?_
      refine V_callV (pc := 140) (ci := 12) ca dX12_run_140 mlX12_554 mkX12_act rfl rfl h12.o ⟨by decide, rfl⟩ ⟨Nat.le_of_ble_eq_true rfl, Nat.le_of_ble_eq_true rfl⟩ (Nat.le_of_ble_eq_true rfl) ⟨Nat.le_of_ble_eq_true rfl, Nat.le_of_ble_eq_true rfl⟩ (fun r S' I' L' hp => ?_)
      obtain ⟨rfl, rfl, hM5, hF5⟩ := hp
      refine V_istore (pc := 143) (ls' := [(0, _), (1, _), (2, _), (3, _), (4, _), (5, _)]) dX12_run_143 (by decide) rfl ?_
      refine V_iload (pc := 145) dX12_run_145 rfl ?_
      refine V_if_ge (pc := 147) (tgt := 153) dX12_run_147 (by decide) (fun c147 => absurd c147 (by exact Int32.not_le.mpr hneg)) (fun n147 => ?_)
      refine V_bipush (pc := 150) (v := (-3)) dX12_run_150 (by decide) ?_
      refine V_iret (pc := 152) dX12_run_152 rfl (by first | decide | omega) (by first | decide | omega) ?_
      refine ⟨rfl, hF5.o.tr (f3.o.tr hF), (fun _ => ⟨rfl, ?_⟩), fun s' hs => by rw [hs1] at hs; cases hs⟩
      rw [k3 hd0] at hM5
      exact hM5
end RD
