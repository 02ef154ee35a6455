/-! THE CLASS: matches -/
theorem abs_sub : ∀ a, a < 61 → ∀ b, b < 61 → absI (nI a - nI b) = nI (if b < a then a - b else b - a) := by decide +kernel
/-- who may be matched, boxes and suitors there are -/
def mayc (law : LawT) (q : Nat → Nat) (b s : Nat) : Bool := decide (b < q 0) && (decide (s < q 1) && mayq law q b s)
def GaM (I : IT) (M : Nat) (law : LawT) (q : Nat → Nat) (j t : Nat) : Prop := ∀ b s, b < 6 → s < 6 → ((b < j ∨ b = j ∧ s < t) ∧ mayc law q b s = true → I (M + 1) (b * 6 + s) = nI (difq law q b s) ∧ I (M + 2) (b * 6 + s) = nI (lik law q b s)) ∧ (¬ ((b < j ∨ b = j ∧ s < t) ∧ mayc law q b s = true) → I (M + 1) (b * 6 + s) = -1)
theorem GaM.cg {I I' : IT} {M : Nat} {law : LawT} {q : Nat → Nat} {j t : Nat} (h : GaM I M law q j t) (e1 : I' (M + 1) = I (M + 1)) (e2 : I' (M + 2) = I (M + 2)) : GaM I' M law q j t := by
  unfold GaM at h ⊢; rw [e1, e2]; exact h
theorem GaM.no {I : IT} {M : Nat} {law : LawT} {q : Nat → Nat} {j t : Nat} (h : GaM I M law q j t) (hm : mayc law q j t = false) : GaM I M law q j (t + 1) := by
  intro b s hb hs
  have := h b s hb hs
  by_cases z : b = j ∧ s = t
  · obtain ⟨rfl, rfl⟩ := z
    exact ⟨fun w => by rw [hm] at w; exact absurd w.2 (by decide), fun _ => this.2 (fun w => by rw [hm] at w; exact absurd w.2 (by decide))⟩
  · exact ⟨fun w => this.1 ⟨by omega, w.2⟩, fun w => this.2 (fun u => w ⟨by omega, u.2⟩)⟩
theorem GaM.yes {I : IT} {M : Nat} {law : LawT} {q : Nat → Nat} {j t : Nat} (hj : j < 6) (ht : t < 6) (h : GaM I M law q j t) (hm : mayc law q j t = true) : GaM (up2 (up2 I (M + 1) (j * 6 + t) (nI (difq law q j t))) (M + 2) (j * 6 + t) (nI (lik law q j t))) M law q j (t + 1) := by
  intro b s hb hs
  have := h b s hb hs
  by_cases z : b = j ∧ s = t
  · obtain ⟨rfl, rfl⟩ := z
    refine ⟨fun _ => ⟨by rw [up2_ne (by omega), up2_self], up2_self⟩, fun w => absurd ⟨by omega, hm⟩ w⟩
  · rw [up2_ne (by omega), up2_nej (by omega), up2_nej (by omega), up2_ne (by omega)]
    exact ⟨fun w => this.1 ⟨by omega, w.2⟩, fun w => this.2 (fun u => w ⟨by omega, u.2⟩)⟩
theorem GaM.nx {I : IT} {M : Nat} {law : LawT} {q : Nat → Nat} {j : Nat} (h : GaM I M law q j (q 1)) (hj : j < q 0) : GaM I M law q (j + 1) 0 := by
  intro b s hb hs
  have := h b s hb hs
  have e : mayc law q b s = true → s < q 1 := fun w => by
    unfold mayc at w
    simp at w
    exact w.2.1
  exact ⟨fun w => this.1 ⟨by have := e w.2; omega, w.2⟩, fun w => this.2 (fun u => w ⟨by omega, u.2⟩)⟩
theorem up2_rw {f g : Nat → Nat → Int32} {a i : Nat} {v : Int32} (h : f a = g a) : up2 f a i v a = up2 g a i v a := by
  funext j; unfold up2; rw [h]
section CX
variable {E : EnT} {S : ST} {I : IT} {L : LT} {B : Nat} {A : AT}
/-- all but the matching's rows and what the judge uses -/
def FrG (B : Nat) (J I : IT) : Prop := ∀ x, (x < B + 3 ∨ B + 9 < x) → x ≠ B + 79 → x ≠ B + 81 → J x = I x
theorem FrG.dd {J : IT} (h : FrG B J I) : DdC B J I := DdC.of fun x hx => h x (by unfold lvC at hx; omega) (by unfold lvC at hx; omega) (by unfold lvC at hx; omega)
theorem c_X4_gather (h11 : Lay11 E S B) (hR : CR E S B I A) (hA : wfA A) : C E kX4_gather 5 0 0 [.ref (B + 3), .ref (B + 36), .ref (B + 80)] S I L (fun r S' I' L' => r = none ∧ S = S' ∧ L = L' ∧ FrG B I' I ∧ GaM I' (B + 3) (lwf A) (aq A) (aq A 0) 0) := by
  have hq := hA.q
  have hnb := hq.nb
  have hns := hq.ns
  have hlw := hA.law
  have h4 := h11.O6
  have h10 := h11.O0
  have h3 := h11.O3
  have h9 := h10.O0
  refine C_of (by decide) (Nat.le_of_ble_eq_true rfl) ?_
  have out : ∀ j, j ≤ aq A 0 → ∀ J, FrG B J I → GaM J (B + 3) (lwf A) (aq A) j 0 → V E kX4_gather (rmOf 5 0 0) (QM E (fun r S' I' L' => r = none ∧ S = S' ∧ L = L' ∧ FrG B I' I ∧ GaM I' (B + 3) (lwf A) (aq A) (aq A 0) 0) 0 0) 0 0 S J L 16 [(0, .ref (B + 3)), (1, .ref (B + 36)), (2, .ref (B + 80)), (3, .ref (B + 36 + 1)), (4, .int (nI j))] [] := by
    refine loopUp (n := aq A 0) (P := fun j => ∀ J, FrG B J I → GaM J (B + 3) (lwf A) (aq A) j 0 → V E kX4_gather (rmOf 5 0 0) (QM E (fun r S' I' L' => r = none ∧ S = S' ∧ L = L' ∧ FrG B I' I ∧ GaM I' (B + 3) (lwf A) (aq A) (aq A 0) 0) 0 0) 0 0 S J L 16 [(0, .ref (B + 3)), (1, .ref (B + 36)), (2, .ref (B + 80)), (3, .ref (B + 36 + 1)), (4, .int (nI j))] []) ?_ ?_
    · intro J hF hG
      have hRJ := hR.dd hF.dd
      refine V_iload (pc := 16) dX4_gather_16 rfl ?_
      refine V_aload_n (pc := 18) dX4_gather_18 rfl ?_
      refine V_getIE (pc := 19) 9 0 dX4_gather_19 flX4_42 (by decide) h9.o (hRJ.1.1.1) ?_
      refine V_icmp_geN (pc := 22) (tgt := 155) dX4_gather_22 (by decide) (by omega) (by omega) (fun c22 => ?_) (fun n22 => absurd n22 (by omega))
      refine V_vret (pc := 155) dX4_gather_155 rfl (by first | decide | omega) (by first | decide | omega) ?_
      exact ⟨rfl, rfl, rfl, hF, hG⟩
    · intro j hj ih J hF hG
      have inn : ∀ t, t ≤ aq A 1 → ∀ J, FrG B J I → GaM J (B + 3) (lwf A) (aq A) j t → V E kX4_gather (rmOf 5 0 0) (QM E (fun r S' I' L' => r = none ∧ S = S' ∧ L = L' ∧ FrG B I' I ∧ GaM I' (B + 3) (lwf A) (aq A) (aq A 0) 0) 0 0) 0 0 S J L 41 [(0, .ref (B + 3)), (1, .ref (B + 36)), (2, .ref (B + 80)), (3, .ref (B + 36 + 1)), (4, .int (nI j)), (5, .int (nI (lst (lwf A) (aq A) j))), (6, .int (nI t))] [] := by
        refine loopUp (n := aq A 1) (P := fun t => ∀ J, FrG B J I → GaM J (B + 3) (lwf A) (aq A) j t → V E kX4_gather (rmOf 5 0 0) (QM E (fun r S' I' L' => r = none ∧ S = S' ∧ L = L' ∧ FrG B I' I ∧ GaM I' (B + 3) (lwf A) (aq A) (aq A 0) 0) 0 0) 0 0 S J L 41 [(0, .ref (B + 3)), (1, .ref (B + 36)), (2, .ref (B + 80)), (3, .ref (B + 36 + 1)), (4, .int (nI j)), (5, .int (nI (lst (lwf A) (aq A) j))), (6, .int (nI t))] []) ?_ ?_
        · intro J hF hG
          have hRJ := hR.dd hF.dd
          refine V_iload (pc := 41) dX4_gather_41 rfl ?_
          refine V_aload_n (pc := 43) dX4_gather_43 rfl ?_
          refine V_getIE (pc := 44) 10 1 dX4_gather_44 flX4_58 (by decide) h10.o (hRJ.1.2.1) ?_
          refine V_icmp_geN (pc := 47) (tgt := 149) dX4_gather_47 (by decide) (by omega) (by omega) (fun c47 => ?_) (fun n47 => absurd n47 (by omega))
          refine V_loc [0, 1, 2, 3, 4] rfl ?_
          refine V_iinc1 (pc := 149) (ls' := [(0, _), (1, _), (2, _), (3, _), (4, _)]) dX4_gather_149 rfl (by decide) rfl ?_
          refine V_goto (pc := 152) (tgt := 16) dX4_gather_152 (by decide) ?_
          exact ih J hF (hG.nx hj)
        · intro t ht ih2 J hF hG
          have hRJ := hR.dd hF.dd
          have hwe := hq.we j (by omega)
          have hbo := bof_le (aq A) t (aq A 0)
          have hwa := hq.wa t (by omega)
          have hls : lst (lwf A) (aq A) j ≤ 60 := clampN_le _ _
          have go : ∀ J2, FrG B J2 I → GaM J2 (B + 3) (lwf A) (aq A) j (t + 1) → V E kX4_gather (rmOf 5 0 0) (QM E (fun r S' I' L' => r = none ∧ S = S' ∧ L = L' ∧ FrG B I' I ∧ GaM I' (B + 3) (lwf A) (aq A) (aq A 0) 0) 0 0) 0 0 S J2 L 143 [(0, .ref (B + 3)), (1, .ref (B + 36)), (2, .ref (B + 80)), (3, .ref (B + 36 + 1)), (4, .int (nI j)), (5, .int (nI (lst (lwf A) (aq A) j))), (6, .int (nI t))] [] := by
            intro J2 hF2 hG2
            refine V_iinc1 (pc := 143) (ls' := [(0, _), (1, _), (2, _), (3, _), (4, _), (5, _), (6, _)]) dX4_gather_143 rfl (by decide) rfl ?_
            refine V_goto (pc := 146) (tgt := 41) dX4_gather_146 (by decide) ?_
            exact ih2 J2 hF2 hG2
          have m0 : mayc (lwf A) (aq A) j t = mayq (lwf A) (aq A) j t := by unfold mayc; rw [decide_eq_true hj, decide_eq_true ht]; rfl
          have ed : difq (lwf A) (aq A) j t = (if lst (lwf A) (aq A) j < aq A (86 + t) then aq A (86 + t) - lst (lwf A) (aq A) j else lst (lwf A) (aq A) j - aq A (86 + t)) := rfl
          by_cases h68 : aq A (68 + j) = 0
          · by_cases hbf : bof (aq A) t (aq A 0) = 0
            · skip
              refine V_iload (pc := 41) dX4_gather_41 rfl ?_
              refine V_aload_n (pc := 43) dX4_gather_43 rfl ?_
              refine V_getIE (pc := 44) 10 1 dX4_gather_44 flX4_58 (by decide) h10.o (hRJ.1.2.1) ?_
              refine V_icmp_geN (pc := 47) (tgt := 149) dX4_gather_47 (by decide) (by omega) (by omega) (fun c47 => absurd c47 (by omega)) (fun n47 => ?_)
              refine V_aload_n (pc := 50) dX4_gather_50 rfl ?_
              refine V_getR (pc := 51) 9 4 dX4_gather_51 flX4_61 (by decide) h9.o h9.R4 ?_
              refine V_iload (pc := 54) dX4_gather_54 rfl ?_
              refine V_ialoadE (pc := 56) dX4_gather_56 h9.A4 (by first | decide | omega) (by omega) (hRJ.1.1.2.2.2.2.1 j (by omega)) ?_
              refine V_iconst (pc := 57) (v := (-1)) dX4_gather_57 (by decide) ?_
              refine V_icmp_ne (pc := 58) (tgt := 75) dX4_gather_58 (by decide) (fun c58 => absurd c58 (by exact fun z => z ((pred1_none (by omega)).mpr h68))) (fun n58 => ?_)
              refine V_aload_n (pc := 61) dX4_gather_61 rfl ?_
              refine V_iload (pc := 62) dX4_gather_62 rfl ?_
              refine V_callVd (pc := 64) (ci := 9) (c_X9_boxOf h9 hRJ.1.1 hq (by omega)) dX4_gather_64 mlX4_64 mkX9_boxOf rfl rfl h9.o ⟨by decide, rfl⟩ ⟨Nat.le_of_ble_eq_true rfl, Nat.le_of_ble_eq_true rfl⟩ (Nat.le_of_ble_eq_true rfl) ⟨Nat.le_of_ble_eq_true rfl, Nat.le_of_ble_eq_true rfl⟩ ?_
              refine V_iconst (pc := 67) (v := (-1)) dX4_gather_67 (by decide) ?_
              refine V_icmp_ne (pc := 68) (tgt := 75) dX4_gather_68 (by decide) (fun c68 => absurd c68 (by exact fun z => z ((pred1_none (by omega)).mpr hbf))) (fun n68 => ?_)
              refine V_iconst (pc := 71) (v := nI 1) dX4_gather_71 (by decide) ?_
              refine V_goto (pc := 72) (tgt := 76) dX4_gather_72 (by decide) ?_
              refine V_istore (pc := 76) (ls' := [(0, _), (1, _), (2, _), (3, _), (4, _), (5, _), (6, _), (7, _)]) dX4_gather_76 (by decide) rfl ?_
              refine V_iload (pc := 78) dX4_gather_78 rfl ?_
              refine V_if_eqN (pc := 80) (tgt := 143) dX4_gather_80 (by decide) (by omega) (fun c80 => absurd c80 (by omega)) (fun n80 => ?_)
              refine V_aload_n (pc := 83) dX4_gather_83 rfl ?_
              refine V_aload_n (pc := 84) dX4_gather_84 rfl ?_
              refine V_iload (pc := 85) dX4_gather_85 rfl ?_
              refine V_iload (pc := 87) dX4_gather_87 rfl ?_
              refine V_callV (pc := 89) (ci := 3) (c_X3_isBarred h3 h10 hRJ.1 hq hRJ.2.1 hlw.1 hlw.2.2 (fun z z1 z2 => by omega) (by omega) (by omega) (by omega)) dX4_gather_89 mlX4_68 mkX3_isBarred rfl rfl h3.o ⟨by decide, rfl⟩ ⟨Nat.le_of_ble_eq_true rfl, Nat.le_of_ble_eq_true rfl⟩ (Nat.le_of_ble_eq_true rfl) ⟨Nat.le_of_ble_eq_true rfl, Nat.le_of_ble_eq_true rfl⟩ (fun r S' I' L' hp => ?_)
              obtain ⟨rfl, rfl, rfl, hf⟩ := hp
              have hF2 : FrG B I' I := fun x a1 a2 a3 => (hf x a3 a2).trans (hF x a1 a2 a3)
              have hG2 : GaM I' (B + 3) (lwf A) (aq A) j t := hG.cg (hf _ (by omega) (by omega)) (hf _ (by omega) (by omega))
              have hRK := hR.dd hF2.dd
              refine V_if_neB (pc := 92) (tgt := 143) dX4_gather_92 (by decide) (fun c92 => ?_) (fun n92 => ?_)
              · skip
                refine V_loc [0, 1, 2, 3, 4, 5, 6] rfl ?_
                first
                | exact go I' hF2 (hG2.no (by rw [m0]; unfold mayq; rw [decide_eq_true h68, decide_eq_true hbf, show brd (lwf A) (aq A) j t = true from c92]; rfl))
                | (refine go _ (fun x a1 a2 a3 => by rw [up2_row (by omega), hf2 x a3 a2]; exact hF3 x a1 a2 a3) (hG3.cg ?_ ?_)
                   · rw [up2_row (by omega), up2_row (by omega), hf2 _ (by omega) (by omega)]
                   · refine up2_rw ?_
                     rw [hf2 _ (by omega) (by omega)])
                | fail
              · skip
                have hm : mayq (lwf A) (aq A) j t = true := by unfold mayq; rw [decide_eq_true h68, decide_eq_true hbf, show brd (lwf A) (aq A) j t = false from n92]; rfl
                refine V_aload_n (pc := 95) dX4_gather_95 rfl ?_
                refine V_getR (pc := 96) 4 0 dX4_gather_96 flX4_9 (by decide) h4.o h4.R0 ?_
                refine V_iload (pc := 99) dX4_gather_99 rfl ?_
                refine V_bipush (pc := 101) (v := nI 6) dX4_gather_101 (by decide) ?_
                refine V_imulN (pc := 103) dX4_gather_103 ?_
                refine V_iload (pc := 104) dX4_gather_104 rfl ?_
                refine V_iaddN (pc := 106) dX4_gather_106 ?_
                refine V_aload_n (pc := 107) dX4_gather_107 rfl ?_
                refine V_getR (pc := 108) 10 3 dX4_gather_108 flX4_72 (by decide) h10.o h10.R3 ?_
                refine V_iload (pc := 111) dX4_gather_111 rfl ?_
                refine V_ialoadE (pc := 113) dX4_gather_113 h10.A3 (by first | decide | omega) (by omega) (hRK.1.2.2.2.1 t (by omega)) ?_
                refine V_iload (pc := 114) dX4_gather_114 rfl ?_
                refine V_isub (pc := 116) dX4_gather_116 ?_
                refine V_mabs (pc := 117) dX4_gather_117 mlX4_75 (Nat.le_of_ble_eq_true rfl) (Nat.le_of_ble_eq_true rfl) ⟨Nat.le_of_ble_eq_true rfl, Nat.le_of_ble_eq_true rfl⟩ ?_
                rw [abs_sub _ (by omega) _ (by omega), ← ed]
                have hF3 : FrG B (up2 I' (B + 3 + 1) (j * 6 + t) (nI (difq (lwf A) (aq A) j t))) I := fun x a1 a2 a3 => by rw [up2_row (by omega)]; exact hF2 x a1 a2 a3
                have hRL := hR.dd hF3.dd
                have hG3 := hG2.yes (show j < 6 by omega) (show t < 6 by omega) (m0.trans hm)
                refine V_iastore (pc := 120) dX4_gather_120 h4.A0 (by first | decide | omega) (by omega) ?_
                refine V_aload_n (pc := 121) dX4_gather_121 rfl ?_
                refine V_getR (pc := 122) 4 1 dX4_gather_122 flX4_15 (by decide) h4.o h4.R1 ?_
                refine V_iload (pc := 125) dX4_gather_125 rfl ?_
                refine V_bipush (pc := 127) (v := nI 6) dX4_gather_127 (by decide) ?_
                refine V_imulN (pc := 129) dX4_gather_129 ?_
                refine V_iload (pc := 130) dX4_gather_130 rfl ?_
                refine V_iaddN (pc := 132) dX4_gather_132 ?_
                refine V_aload_n (pc := 133) dX4_gather_133 rfl ?_
                refine V_aload_n (pc := 134) dX4_gather_134 rfl ?_
                refine V_iload (pc := 135) dX4_gather_135 rfl ?_
                refine V_iload (pc := 137) dX4_gather_137 rfl ?_
                refine V_callV (pc := 139) (ci := 3) (c_X3_liking h3 h10 hRL.1 hq hRL.2.1 hlw.1 (fun z z1 z2 => by omega) (by omega) (by omega) (by omega)) dX4_gather_139 mlX4_80 mkX3_liking rfl rfl h3.o ⟨by decide, rfl⟩ ⟨Nat.le_of_ble_eq_true rfl, Nat.le_of_ble_eq_true rfl⟩ (Nat.le_of_ble_eq_true rfl) ⟨Nat.le_of_ble_eq_true rfl, Nat.le_of_ble_eq_true rfl⟩ (fun r S' I' L' hp => ?_)
                obtain ⟨rfl, rfl, rfl, hf2⟩ := hp
                refine V_iastore (pc := 142) dX4_gather_142 h4.A1 (by first | decide | omega) (by omega) ?_
                refine V_loc [0, 1, 2, 3, 4, 5, 6] rfl ?_
                first
                | exact go I' hF2 (hG2.no (by rw [m0]; unfold mayq; rw [decide_eq_true h68, decide_eq_true hbf, show brd (lwf A) (aq A) j t = true from c92]; rfl))
                | (refine go _ (fun x a1 a2 a3 => by rw [up2_row (by omega), hf2 x a3 a2]; exact hF3 x a1 a2 a3) (hG3.cg ?_ ?_)
                   · rw [up2_row (by omega), up2_row (by omega), hf2 _ (by omega) (by omega)]
                   · refine up2_rw ?_
                     rw [hf2 _ (by omega) (by omega)])
                | fail
            · skip
              refine V_iload (pc := 41) dX4_gather_41 rfl ?_
              refine V_aload_n (pc := 43) dX4_gather_43 rfl ?_
              refine V_getIE (pc := 44) 10 1 dX4_gather_44 flX4_58 (by decide) h10.o (hRJ.1.2.1) ?_
              refine V_icmp_geN (pc := 47) (tgt := 149) dX4_gather_47 (by decide) (by omega) (by omega) (fun c47 => absurd c47 (by omega)) (fun n47 => ?_)
              refine V_aload_n (pc := 50) dX4_gather_50 rfl ?_
              refine V_getR (pc := 51) 9 4 dX4_gather_51 flX4_61 (by decide) h9.o h9.R4 ?_
              refine V_iload (pc := 54) dX4_gather_54 rfl ?_
              refine V_ialoadE (pc := 56) dX4_gather_56 h9.A4 (by first | decide | omega) (by omega) (hRJ.1.1.2.2.2.2.1 j (by omega)) ?_
              refine V_iconst (pc := 57) (v := (-1)) dX4_gather_57 (by decide) ?_
              refine V_icmp_ne (pc := 58) (tgt := 75) dX4_gather_58 (by decide) (fun c58 => absurd c58 (by exact fun z => z ((pred1_none (by omega)).mpr h68))) (fun n58 => ?_)
              refine V_aload_n (pc := 61) dX4_gather_61 rfl ?_
              refine V_iload (pc := 62) dX4_gather_62 rfl ?_
              refine V_callVd (pc := 64) (ci := 9) (c_X9_boxOf h9 hRJ.1.1 hq (by omega)) dX4_gather_64 mlX4_64 mkX9_boxOf rfl rfl h9.o ⟨by decide, rfl⟩ ⟨Nat.le_of_ble_eq_true rfl, Nat.le_of_ble_eq_true rfl⟩ (Nat.le_of_ble_eq_true rfl) ⟨Nat.le_of_ble_eq_true rfl, Nat.le_of_ble_eq_true rfl⟩ ?_
              refine V_iconst (pc := 67) (v := (-1)) dX4_gather_67 (by decide) ?_
              refine V_icmp_ne (pc := 68) (tgt := 75) dX4_gather_68 (by decide) (fun c68 => ?_) (fun n68 => absurd n68 (by exact fun z => hbf ((pred1_none (by omega)).mp z)))
              refine V_iconst (pc := 75) (v := nI 0) dX4_gather_75 (by decide) ?_
              refine V_istore (pc := 76) (ls' := [(0, _), (1, _), (2, _), (3, _), (4, _), (5, _), (6, _), (7, _)]) dX4_gather_76 (by decide) rfl ?_
              refine V_iload (pc := 78) dX4_gather_78 rfl ?_
              refine V_if_eqN (pc := 80) (tgt := 143) dX4_gather_80 (by decide) (by omega) (fun c80 => ?_) (fun n80 => absurd n80 (by omega))
              refine V_loc [0, 1, 2, 3, 4, 5, 6] rfl ?_
              exact go J hF (hG.no (by rw [m0]; unfold mayq; rw [decide_eq_false hbf]; simp))
          · skip
            refine V_iload (pc := 41) dX4_gather_41 rfl ?_
            refine V_aload_n (pc := 43) dX4_gather_43 rfl ?_
            refine V_getIE (pc := 44) 10 1 dX4_gather_44 flX4_58 (by decide) h10.o (hRJ.1.2.1) ?_
            refine V_icmp_geN (pc := 47) (tgt := 149) dX4_gather_47 (by decide) (by omega) (by omega) (fun c47 => absurd c47 (by omega)) (fun n47 => ?_)
            refine V_aload_n (pc := 50) dX4_gather_50 rfl ?_
            refine V_getR (pc := 51) 9 4 dX4_gather_51 flX4_61 (by decide) h9.o h9.R4 ?_
            refine V_iload (pc := 54) dX4_gather_54 rfl ?_
            refine V_ialoadE (pc := 56) dX4_gather_56 h9.A4 (by first | decide | omega) (by omega) (hRJ.1.1.2.2.2.2.1 j (by omega)) ?_
            refine V_iconst (pc := 57) (v := (-1)) dX4_gather_57 (by decide) ?_
            refine V_icmp_ne (pc := 58) (tgt := 75) dX4_gather_58 (by decide) (fun c58 => ?_) (fun n58 => absurd n58 (by exact fun z => h68 ((pred1_none (by omega)).mp z)))
            refine V_iconst (pc := 75) (v := nI 0) dX4_gather_75 (by decide) ?_
            refine V_istore (pc := 76) (ls' := [(0, _), (1, _), (2, _), (3, _), (4, _), (5, _), (6, _), (7, _)]) dX4_gather_76 (by decide) rfl ?_
            refine V_iload (pc := 78) dX4_gather_78 rfl ?_
            refine V_if_eqN (pc := 80) (tgt := 143) dX4_gather_80 (by decide) (by omega) (fun c80 => ?_) (fun n80 => absurd n80 (by omega))
            refine V_loc [0, 1, 2, 3, 4, 5, 6] rfl ?_
            exact go J hF (hG.no (by rw [m0]; unfold mayq; rw [decide_eq_false h68]; rfl))
      have hRJ := hR.dd hF.dd
      refine V_iload (pc := 16) dX4_gather_16 rfl ?_
      refine V_aload_n (pc := 18) dX4_gather_18 rfl ?_
      refine V_getIE (pc := 19) 9 0 dX4_gather_19 flX4_42 (by decide) h9.o (hRJ.1.1.1) ?_
      refine V_icmp_geN (pc := 22) (tgt := 155) dX4_gather_22 (by decide) (by omega) (by omega) (fun c22 => absurd c22 (by omega)) (fun n22 => ?_)
      refine V_aload_n (pc := 25) dX4_gather_25 rfl ?_
      refine V_aload_n (pc := 26) dX4_gather_26 rfl ?_
      refine V_callV (pc := 27) (ci := 10) (c_X10_lawInForce h10 hRJ.1 hq hRJ.2.1) dX4_gather_27 mlX4_48 mkX10_lawInForce rfl rfl h10.o ⟨by decide, rfl⟩ ⟨Nat.le_of_ble_eq_true rfl, Nat.le_of_ble_eq_true rfl⟩ (Nat.le_of_ble_eq_true rfl) ⟨Nat.le_of_ble_eq_true rfl, Nat.le_of_ble_eq_true rfl⟩ (fun r S' I' L' hp => ?_)
      obtain ⟨⟨a, rfl, hT, hta⟩, rfl, rfl, rfl⟩ := hp
      unfold txa at hta
      refine V_aload_n (pc := 30) dX4_gather_30 rfl ?_
      refine V_iload (pc := 31) dX4_gather_31 rfl ?_
      refine V_callV (pc := 33) (ci := 3) (c_X3_lasting h3 h9 hRJ.1.1 hq (fun z z1 z2 => by omega) hT hlw.1 ⟨fun z z1 z2 => by omega, by omega⟩ (by omega)) dX4_gather_33 mlX4_52 mkX3_lasting rfl rfl h3.o ⟨by decide, rfl⟩ ⟨Nat.le_of_ble_eq_true rfl, Nat.le_of_ble_eq_true rfl⟩ (Nat.le_of_ble_eq_true rfl) ⟨Nat.le_of_ble_eq_true rfl, Nat.le_of_ble_eq_true rfl⟩ (fun r S' I' L' hp => ?_)
      obtain ⟨rfl, rfl, rfl, hf⟩ := hp
      refine V_istore (pc := 36) (ls' := [(0, _), (1, _), (2, _), (3, _), (4, _), (5, _)]) dX4_gather_36 (by decide) rfl ?_
      refine V_iconst (pc := 38) (v := nI 0) dX4_gather_38 (by decide) ?_
      refine V_istore (pc := 39) (ls' := [(0, _), (1, _), (2, _), (3, _), (4, _), (5, _), (6, _)]) dX4_gather_39 (by decide) rfl ?_
      exact inn 0 (by omega) I' (fun x a1 a2 a3 => (hf x a3 a2).trans (hF x a1 a2 a3)) (hG.cg (hf _ (by omega) (by omega)) (hf _ (by omega) (by omega)))
  refine V_aload_n (pc := 0) dX4_gather_0 rfl ?_
  refine V_getR (pc := 1) 4 0 dX4_gather_1 flX4_9 (by decide) h4.o h4.R0 ?_
  refine V_iconst (pc := 4) (v := (-1)) dX4_gather_4 (by decide) ?_
  refine V_callSn (pc := 5) (c_J7_fill_53178 h4.A0 (by omega)) dX4_gather_5 mlX4_30 mkJ7_fill_53178 rfl rfl ⟨Nat.le_of_ble_eq_true rfl, Nat.le_of_ble_eq_true rfl⟩ (Nat.le_of_ble_eq_true rfl) ⟨Nat.le_of_ble_eq_true rfl, Nat.le_of_ble_eq_true rfl⟩ ?_
  refine V_aload_n (pc := 8) dX4_gather_8 rfl ?_
  refine V_getR (pc := 9) 10 0 dX4_gather_9 flX4_36 (by decide) h10.o h10.R0 ?_
  refine V_astore_n (pc := 12) (ls' := [(0, _), (1, _), (2, _), (3, _)]) dX4_gather_12 (by decide) rfl ?_
  refine V_iconst (pc := 13) (v := nI 0) dX4_gather_13 (by decide) ?_
  refine V_istore (pc := 14) (ls' := [(0, _), (1, _), (2, _), (3, _), (4, _)]) dX4_gather_14 (by decide) rfl ?_
  refine out 0 (by omega) _ (fun x a1 a2 a3 => upr_row (by omega)) (fun b s hb hs => ⟨fun w => by omega, fun _ => ?_⟩)
  rw [upr_self, if_pos (by omega)]
def AbC (I : IT) (M : Nat) (law : LawT) (q : Nat → Nat) (d j t : Nat) : Prop := ∀ b u, b ≤ q 0 → u < 64 → (j ≤ b ∨ (b + 1 = j ∧ u < t)) → I (M + 5) (64 * b + u) = nI (abd law q d (q 0 - b) u)
def wwv (law : LawT) (q : Nat → Nat) (d tk b s v : Nat) : Int32 := if mayc law q b s = true ∧ difq law q b s ≤ d ∧ tk / 2 ^ s % 2 = 0 then nI (1000 - difq law q b s + v) else -1
theorem difq_leC {law : LawT} {q : Nat → Nat} (hq : wq q) {b s : Nat} (hs : s < 6) : difq law q b s ≤ 60 := by
  have h1 := hq.wa s hs
  have h2 : lst law q b ≤ 60 := clampN_le _ _
  unfold difq
  split <;> omega
theorem c_X4_worthWith {M : Nat} {law : LawT} {q : Nat → Nat} (h4 : Lay4 E S M) (hq : wq q) (hG : GaM I M law q (q 0) 0) {b s tk d v : Nat} (hb : b < 6) (hs : s < 6) (ht : tk < 64) (hd : d < 61) (hv : v ≤ 10000) (hM : I (M + 5) (64 * (b + 1) + (tk ||| 2 ^ s)) = nI v) : Cd E kX4_worthWith 0 0 0 [.ref M, .int (nI b), .int (nI s), .int (nI tk), .int (nI d)] S I L (.int (wwv law q d tk b s v)) S I L := by
  have hg := hG b s hb hs
  have hdl := difq_leC (law := law) hq (b := b) hs
  have hor := or64 ht hs
  have hor1 : tk ||| 1 * 2 ^ s < 64 := by rw [Nat.one_mul]; exact hor
  have hp2 := p64 (show s ≤ 6 by omega)
  have eM : I (M + 5) ((b + 1) * 64 + (tk ||| 1 * 2 ^ s)) = nI v := by rw [Nat.one_mul, show (b + 1) * 64 = 64 * (b + 1) by omega]; exact hM
  refine C_of (by decide) (Nat.le_of_ble_eq_true rfl) ?_
  by_cases hm : mayc law q b s = true
  · have hb0 : b < q 0 := by unfold mayc at hm; simp at hm; exact hm.1
    have hap := (hg.1 ⟨Or.inl hb0, hm⟩).1
    by_cases h1 : difq law q b s ≤ d
    · by_cases h2 : tk / 2 ^ s % 2 = 0
      · rw [wwv, if_pos ⟨hm, h1, h2⟩]
        refine V_aload_n (pc := 0) dX4_worthWith_0 rfl ?_
        refine V_getR (pc := 1) 4 0 dX4_worthWith_1 flX4_9 (by decide) h4.o h4.R0 ?_
        refine V_iload_n (pc := 4) dX4_worthWith_4 rfl ?_
        refine V_bipush (pc := 5) (v := nI 6) dX4_worthWith_5 (by decide) ?_
        refine V_imulN (pc := 7) dX4_worthWith_7 ?_
        refine V_iload_n (pc := 8) dX4_worthWith_8 rfl ?_
        refine V_iaddN (pc := 9) dX4_worthWith_9 ?_
        refine V_ialoadE (pc := 10) dX4_worthWith_10 h4.A0 (by first | decide | omega) (by omega) (hap) ?_
        refine V_istore (pc := 11) (ls' := [(0, _), (1, _), (2, _), (3, _), (4, _), (5, _)]) dX4_worthWith_11 (by decide) rfl ?_
        refine V_iload (pc := 13) dX4_worthWith_13 rfl ?_
        refine V_iconst (pc := 15) (v := (-1)) dX4_worthWith_15 (by decide) ?_
        refine V_icmp_eq (pc := 16) (tgt := 35) dX4_worthWith_16 (by decide) (fun c16 => absurd c16 (by exact fun z => absurd (show nI (difq law q b s) < 0 by rw [z]; decide) (nI_pos (by omega)))) (fun n16 => ?_)
        refine V_iload (pc := 19) dX4_worthWith_19 rfl ?_
        refine V_iload (pc := 21) dX4_worthWith_21 rfl ?_
        refine V_icmp_gtN (pc := 23) (tgt := 35) dX4_worthWith_23 (by decide) (by omega) (by omega) (fun c23 => absurd c23 (by omega)) (fun n23 => ?_)
        refine V_iload_n (pc := 26) dX4_worthWith_26 rfl ?_
        refine V_iload_n (pc := 27) dX4_worthWith_27 rfl ?_
        refine V_ishrN (pc := 28) dX4_worthWith_28 (by omega) (by omega) ?_
        refine V_iconst (pc := 29) (v := nI 1) dX4_worthWith_29 (by decide) ?_
        refine V_iand1 (pc := 30) dX4_worthWith_30 ?_
        refine V_iconst (pc := 31) (v := nI 1) dX4_worthWith_31 (by decide) ?_
        refine V_icmp_neN (pc := 32) (tgt := 37) dX4_worthWith_32 (by decide) (by omega) (by omega) (fun c32 => ?_) (fun n32 => absurd n32 (by omega))
        refine V_sipush (pc := 37) (v := nI 1000) dX4_worthWith_37 (by decide) ?_
        refine V_iload (pc := 40) dX4_worthWith_40 rfl ?_
        refine V_isubN (pc := 42) dX4_worthWith_42 (by omega) ?_
        refine V_aload_n (pc := 43) dX4_worthWith_43 rfl ?_
        refine V_getR (pc := 44) 4 4 dX4_worthWith_44 flX4_24 (by decide) h4.o h4.R4 ?_
        refine V_iload_n (pc := 47) dX4_worthWith_47 rfl ?_
        refine V_iconst (pc := 48) (v := nI 1) dX4_worthWith_48 (by decide) ?_
        refine V_iaddN (pc := 49) dX4_worthWith_49 ?_
        refine V_bipush (pc := 50) (v := nI 64) dX4_worthWith_50 (by decide) ?_
        refine V_imulN (pc := 52) dX4_worthWith_52 ?_
        refine V_iload_n (pc := 53) dX4_worthWith_53 rfl ?_
        refine V_iconst (pc := 54) (v := nI 1) dX4_worthWith_54 (by decide) ?_
        refine V_iload_n (pc := 55) dX4_worthWith_55 rfl ?_
        refine V_ishlN (pc := 56) dX4_worthWith_56 (by omega) (by omega) ?_
        refine V_iorN (pc := 57) dX4_worthWith_57 ?_
        refine V_iaddN (pc := 58) dX4_worthWith_58 ?_
        refine V_ialoadE (pc := 59) dX4_worthWith_59 h4.A4 (by first | decide | omega) (by omega) (eM) ?_
        refine V_iaddN (pc := 60) dX4_worthWith_60 ?_
        refine V_iret (pc := 61) dX4_worthWith_61 rfl (by first | decide | omega) (by first | decide | omega) ?_
        exact ⟨rfl, rfl, rfl, rfl⟩
      · rw [wwv, if_neg (fun z => h2 z.2.2)]
        refine V_aload_n (pc := 0) dX4_worthWith_0 rfl ?_
        refine V_getR (pc := 1) 4 0 dX4_worthWith_1 flX4_9 (by decide) h4.o h4.R0 ?_
        refine V_iload_n (pc := 4) dX4_worthWith_4 rfl ?_
        refine V_bipush (pc := 5) (v := nI 6) dX4_worthWith_5 (by decide) ?_
        refine V_imulN (pc := 7) dX4_worthWith_7 ?_
        refine V_iload_n (pc := 8) dX4_worthWith_8 rfl ?_
        refine V_iaddN (pc := 9) dX4_worthWith_9 ?_
        refine V_ialoadE (pc := 10) dX4_worthWith_10 h4.A0 (by first | decide | omega) (by omega) (hap) ?_
        refine V_istore (pc := 11) (ls' := [(0, _), (1, _), (2, _), (3, _), (4, _), (5, _)]) dX4_worthWith_11 (by decide) rfl ?_
        refine V_iload (pc := 13) dX4_worthWith_13 rfl ?_
        refine V_iconst (pc := 15) (v := (-1)) dX4_worthWith_15 (by decide) ?_
        refine V_icmp_eq (pc := 16) (tgt := 35) dX4_worthWith_16 (by decide) (fun c16 => absurd c16 (by exact fun z => absurd (show nI (difq law q b s) < 0 by rw [z]; decide) (nI_pos (by omega)))) (fun n16 => ?_)
        refine V_iload (pc := 19) dX4_worthWith_19 rfl ?_
        refine V_iload (pc := 21) dX4_worthWith_21 rfl ?_
        refine V_icmp_gtN (pc := 23) (tgt := 35) dX4_worthWith_23 (by decide) (by omega) (by omega) (fun c23 => absurd c23 (by omega)) (fun n23 => ?_)
        refine V_iload_n (pc := 26) dX4_worthWith_26 rfl ?_
        refine V_iload_n (pc := 27) dX4_worthWith_27 rfl ?_
        refine V_ishrN (pc := 28) dX4_worthWith_28 (by omega) (by omega) ?_
        refine V_iconst (pc := 29) (v := nI 1) dX4_worthWith_29 (by decide) ?_
        refine V_iand1 (pc := 30) dX4_worthWith_30 ?_
        refine V_iconst (pc := 31) (v := nI 1) dX4_worthWith_31 (by decide) ?_
        refine V_icmp_neN (pc := 32) (tgt := 37) dX4_worthWith_32 (by decide) (by omega) (by omega) (fun c32 => absurd c32 (by omega)) (fun n32 => ?_)
        refine V_iconst (pc := 35) (v := (-1)) dX4_worthWith_35 (by decide) ?_
        refine V_iret (pc := 36) dX4_worthWith_36 rfl (by first | decide | omega) (by first | decide | omega) ?_
        exact ⟨rfl, rfl, rfl, rfl⟩
    · rw [wwv, if_neg (fun z => h1 z.2.1)]
      refine V_aload_n (pc := 0) dX4_worthWith_0 rfl ?_
      refine V_getR (pc := 1) 4 0 dX4_worthWith_1 flX4_9 (by decide) h4.o h4.R0 ?_
      refine V_iload_n (pc := 4) dX4_worthWith_4 rfl ?_
      refine V_bipush (pc := 5) (v := nI 6) dX4_worthWith_5 (by decide) ?_
      refine V_imulN (pc := 7) dX4_worthWith_7 ?_
      refine V_iload_n (pc := 8) dX4_worthWith_8 rfl ?_
      refine V_iaddN (pc := 9) dX4_worthWith_9 ?_
      refine V_ialoadE (pc := 10) dX4_worthWith_10 h4.A0 (by first | decide | omega) (by omega) (hap) ?_
      refine V_istore (pc := 11) (ls' := [(0, _), (1, _), (2, _), (3, _), (4, _), (5, _)]) dX4_worthWith_11 (by decide) rfl ?_
      refine V_iload (pc := 13) dX4_worthWith_13 rfl ?_
      refine V_iconst (pc := 15) (v := (-1)) dX4_worthWith_15 (by decide) ?_
      refine V_icmp_eq (pc := 16) (tgt := 35) dX4_worthWith_16 (by decide) (fun c16 => absurd c16 (by exact fun z => absurd (show nI (difq law q b s) < 0 by rw [z]; decide) (nI_pos (by omega)))) (fun n16 => ?_)
      refine V_iload (pc := 19) dX4_worthWith_19 rfl ?_
      refine V_iload (pc := 21) dX4_worthWith_21 rfl ?_
      refine V_icmp_gtN (pc := 23) (tgt := 35) dX4_worthWith_23 (by decide) (by omega) (by omega) (fun c23 => ?_) (fun n23 => absurd n23 (by omega))
      refine V_iconst (pc := 35) (v := (-1)) dX4_worthWith_35 (by decide) ?_
      refine V_iret (pc := 36) dX4_worthWith_36 rfl (by first | decide | omega) (by first | decide | omega) ?_
      exact ⟨rfl, rfl, rfl, rfl⟩
  · have hap := hg.2 (fun z => hm z.2)
    rw [wwv, if_neg (fun z => hm z.1)]
    refine V_aload_n (pc := 0) dX4_worthWith_0 rfl ?_
    refine V_getR (pc := 1) 4 0 dX4_worthWith_1 flX4_9 (by decide) h4.o h4.R0 ?_
    refine V_iload_n (pc := 4) dX4_worthWith_4 rfl ?_
    refine V_bipush (pc := 5) (v := nI 6) dX4_worthWith_5 (by decide) ?_
    refine V_imulN (pc := 7) dX4_worthWith_7 ?_
    refine V_iload_n (pc := 8) dX4_worthWith_8 rfl ?_
    refine V_iaddN (pc := 9) dX4_worthWith_9 ?_
    refine V_ialoadE (pc := 10) dX4_worthWith_10 h4.A0 (by first | decide | omega) (by omega) (hap) ?_
    refine V_istore (pc := 11) (ls' := [(0, _), (1, _), (2, _), (3, _), (4, _), (5, _)]) dX4_worthWith_11 (by decide) rfl ?_
    refine V_iload (pc := 13) dX4_worthWith_13 rfl ?_
    refine V_iconst (pc := 15) (v := (-1)) dX4_worthWith_15 (by decide) ?_
    refine V_icmp_eq (pc := 16) (tgt := 35) dX4_worthWith_16 (by decide) (fun c16 => ?_) (fun n16 => absurd n16 (by exact fun z => z rfl))
    refine V_iconst (pc := 35) (v := (-1)) dX4_worthWith_35 (by decide) ?_
    refine V_iret (pc := 36) dX4_worthWith_36 rfl (by first | decide | omega) (by first | decide | omega) ?_
    exact ⟨rfl, rfl, rfl, rfl⟩
end CX
