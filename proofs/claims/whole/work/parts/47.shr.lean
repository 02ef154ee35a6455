/-! THE REFERENCE: shares -/
/-- what a sister has of the last m boxes, their sisters being the digits of code -/
def hsx (w : Nat → Nat) (k nb code j : Nat) : Nat → Nat | 0 => 0 | m + 1 => hsx w k nb code j m + (if code / k ^ m % k = j then w (nb - 1 - m) else 0)
def hsk (w : Nat → Nat) (k nb code m j : Nat) : Nat := if j < k then hsx w k nb code j m else FARN
def mn2 (a b : Nat) : Nat := if a < b then a else b
def lea (w : Nat → Nat) (k nb code : Nat) : Nat := mn2 (mn2 (hsk w k nb code nb 0) (hsk w k nb code nb 1)) (hsk w k nb code nb 2)
def shs (v : Nat → Nat) : Nat → Nat × Nat | 0 => (0, 0) | c + 1 => if (shs v c).1 < v c + 1 then (v c + 1, c) else shs v c
def bn3 (x : Int32) : Bool := decide (1 ≤ x.toInt ∧ x.toInt ≤ 3)
def spShares (A : AT) (x y : Int32) : Int32 := if bn3 x = true ∧ bnd y (aq A 0 + 1) = true then (if cln y = 0 then pred1 (shs (lea (fun b => lst (lwf A) (aq A) b) (cln x) (aq A 0)) (cln x ^ aq A 0)).1 else nI ((shs (lea (fun b => lst (lwf A) (aq A) b) (cln x) (aq A 0)) (cln x ^ aq A 0)).2 / cln x ^ (aq A 0 - cln y) % cln x)) else -1
theorem bn3_ex {y : Int32} (h : bn3 y = true) : ∃ n, 0 < n ∧ n ≤ 3 ∧ y = nI n := by
  have h1 := of_decide_eq_true h
  have h2 : bnd y 4 = true := decide_eq_true ⟨by omega, by omega⟩
  obtain ⟨n, hn, e⟩ := bnd_ex (by omega) h2
  subst e
  rw [nI_toInt (by omega)] at h1
  exact ⟨n, by omega, by omega, rfl⟩
theorem bn3_64 (y : Int32) : decide (lN 1 ≤ y.toInt64 ∧ y.toInt64 ≤ (3 : Int64)) = bn3 y := by
  unfold bn3
  congr 1
  rw [Int64.le_iff_toInt_le, Int64.le_iff_toInt_le, Int32.toInt_toInt64, lN_toInt (by decide), show (3 : Int64).toInt = 3 from rfl]
  rfl
theorem pred1_le {v m : Nat} (hv : v < 2 ^ 31) (hm : m < 2 ^ 31) : nI v ≤ pred1 m ↔ v + 1 ≤ m := by
  cases m with
  | zero =>
    rw [pred1_0]
    constructor
    · intro h
      exact absurd (Int32.lt_of_le_of_lt h (by decide : (-1 : Int32) < 0)) (nI_pos hv)
    · intro h; omega
  | succ m => rw [pred1_s, nI_leI hv (by omega)]; omega
theorem hsx_le {w : Nat → Nat} (hw : ∀ b, w b ≤ 60) (k nb code j : Nat) : ∀ m, hsx w k nb code j m ≤ 60 * m
  | 0 => Nat.le_refl _
  | m + 1 => by
    have h := hsx_le hw k nb code j m
    have h2 := hw (nb - 1 - m)
    unfold hsx
    split <;> omega
theorem hsk_le {w : Nat → Nat} (hw : ∀ b, w b ≤ 60) (k nb code m j : Nat) (hm : m ≤ 6) : hsk w k nb code m j ≤ FARN := by
  have h := hsx_le hw k nb code j m
  unfold hsk FARN
  split <;> omega
theorem pow3 {k n : Nat} (hk : k ≤ 3) (hn : n ≤ 6) : k ^ n ≤ 729 := Nat.le_trans (Nat.pow_le_pow_left hk n) (Nat.pow_le_pow_right (by omega : 0 < 3) hn)
theorem shs_ok {v : Nat → Nat} {c0 : Nat} (hv : ∀ c, v c ≤ c0) : ∀ n, (shs v n).1 ≤ c0 + 1 ∧ (shs v n).2 ≤ n
  | 0 => ⟨Nat.zero_le _, Nat.le_refl _⟩
  | n + 1 => by
    have h := shs_ok hv n
    have h2 := hv n
    unfold shs
    split
    · exact ⟨by show v n + 1 ≤ _; omega, Nat.le_succ n⟩
    · exact ⟨h.1, Nat.le_succ_of_le h.2⟩
theorem lea_le {w : Nat → Nat} (hw : ∀ b, w b ≤ 60) {k nb code : Nat} (hk : 0 < k) (hn : nb ≤ 6) : lea w k nb code ≤ 360 := by
  have h := hsx_le hw k nb code 0 nb
  have e : hsk w k nb code nb 0 = hsx w k nb code 0 nb := if_pos hk
  unfold lea mn2
  rw [e]
  split
  · split <;> omega
  · rename_i c
    split <;> omega
section MS
variable {E : EnT} {S : ST} {I : IT} {L : LT} {o : Nat} {A : AT}
theorem lp_le0 (h12 : Lay12 E S o) {Q : QT} {v1 v3 : Int32} {k : Nat} (hk3 : k ≤ 3) (hk : ∀ I', (∀ x, x ≠ o + 29 → I' x = I x) → (∀ j, j < 3 → I' (o + 29) j = nI (if j < k then 0 else FARN)) → V E kX12_leastOf (rmOf 0 0 0) Q 0 0 S I' L 37 [(0, .ref o), (1, .int v1), (2, .int (nI k)), (3, .int v3), (4, .int (nI 3))] []) : V E kX12_leastOf (rmOf 0 0 0) Q 0 0 S I L 5 [(0, .ref o), (1, .int v1), (2, .int (nI k)), (3, .int v3), (4, .int (nI 0))] [] := by
  have key : ∀ n, n ≤ 3 → ∀ I', (∀ x, x ≠ o + 29 → I' x = I x) → (∀ j, j < n → I' (o + 29) j = nI (if j < k then 0 else FARN)) → V E kX12_leastOf (rmOf 0 0 0) Q 0 0 S I' L 5 [(0, .ref o), (1, .int v1), (2, .int (nI k)), (3, .int v3), (4, .int (nI n))] [] := by
    refine loopUp ?_ ?_
    · intro I' ha hc
      refine V_iload (pc := 5) dX12_leastOf_5 rfl ?_
      refine V_iconst (pc := 7) (v := nI 3) dX12_leastOf_7 (by decide) ?_
      refine V_icmp_geN (pc := 8) (tgt := 37) dX12_leastOf_8 (by decide) (by omega) (by omega) (fun c8 => ?_) (fun n8 => absurd n8 (by omega))
      exact hk I' ha hc
    · intro n hn ih I' ha hc
      refine V_iload (pc := 5) dX12_leastOf_5 rfl ?_
      refine V_iconst (pc := 7) (v := nI 3) dX12_leastOf_7 (by decide) ?_
      refine V_icmp_geN (pc := 8) (tgt := 37) dX12_leastOf_8 (by decide) (by omega) (by omega) (fun c8 => absurd c8 (by omega)) (fun n8 => ?_)
      refine V_aload_n (pc := 11) dX12_leastOf_11 rfl ?_
      refine V_getR (pc := 12) 12 49 dX12_leastOf_12 flX12_134 (by decide) h12.o h12.R49 ?_
      refine V_iload (pc := 15) dX12_leastOf_15 rfl ?_
      refine V_iload (pc := 17) dX12_leastOf_17 rfl ?_
      refine V_iload_n (pc := 19) dX12_leastOf_19 rfl ?_
      refine V_icmp_geN (pc := 20) (tgt := 27) dX12_leastOf_20 (by decide) (by omega) (by omega) (fun c20 => ?_) (fun n20 => ?_)
      · skip
        refine V_ldcw (pc := 27) dX12_leastOf_27 coX12_487 ?_
        refine V_iastore (pc := 30) dX12_leastOf_30 h12.A49 (by first | decide | omega) (by omega) ?_
        refine V_iinc1 (pc := 31) (ls' := [(0, _), (1, _), (2, _), (3, _), (4, _)]) dX12_leastOf_31 rfl (by decide) rfl ?_
        refine V_goto (pc := 34) (tgt := 5) dX12_leastOf_34 (by decide) ?_
        refine ih _ (fun a h => by rw [up2_row h]; exact ha a h) (fun t ht => ?_)
        by_cases e : t = n
        · subst e; rw [up2_self]; first | (rw [if_pos (by omega)]) | (rw [if_neg (by omega)]; rfl)
        · rw [up2_nej e]; exact hc t (by omega)
      · skip
        refine V_iconst (pc := 23) (v := nI 0) dX12_leastOf_23 (by decide) ?_
        refine V_goto (pc := 24) (tgt := 30) dX12_leastOf_24 (by decide) ?_
        refine V_iastore (pc := 30) dX12_leastOf_30 h12.A49 (by first | decide | omega) (by omega) ?_
        refine V_iinc1 (pc := 31) (ls' := [(0, _), (1, _), (2, _), (3, _), (4, _)]) dX12_leastOf_31 rfl (by decide) rfl ?_
        refine V_goto (pc := 34) (tgt := 5) dX12_leastOf_34 (by decide) ?_
        refine ih _ (fun a h => by rw [up2_row h]; exact ha a h) (fun t ht => ?_)
        by_cases e : t = n
        · subst e; rw [up2_self]; first | (rw [if_pos (by omega)]) | (rw [if_neg (by omega)]; rfl)
        · rw [up2_nej e]; exact hc t (by omega)
  exact key 0 (by omega) I (fun _ _ => rfl) (fun t ht => absurd ht (Nat.not_lt_zero t))
theorem lp_le1 (h12 : Lay12 E S o) {Q : QT} {I1 : IT} {w : Nat → Nat} {v1 : Int32} {k nb code : Nat} (hk3 : 0 < k ∧ k ≤ 3) (hn : nb ≤ 6) (hc : code < 1000) (hw6 : ∀ b, w b ≤ 60) (hw : ∀ b, b < nb → I1 (o + 30) b = nI (w b)) (ha : ∀ x, x ≠ o + 29 → I x = I1 x) (h0 : ∀ j, j < 3 → I (o + 29) j = nI (if j < k then 0 else FARN)) (hk : ∀ I' u, (∀ x, x ≠ o + 29 → I' x = I1 x) → (∀ j, j < 3 → I' (o + 29) j = nI (hsk w k nb code nb j)) → V E kX12_leastOf (rmOf 0 0 0) Q 0 0 S I' L 80 [(0, .ref o), (1, .int v1), (2, .int (nI k)), (3, .int u), (4, .int (-1))] []) : V E kX12_leastOf (rmOf 0 0 0) Q 0 0 S I L 47 [(0, .ref o), (1, .int v1), (2, .int (nI k)), (3, .int (nI code)), (4, .int (pred1 nb))] [] := by
  have key : ∀ m, m ≤ nb → ∀ I', (∀ x, x ≠ o + 29 → I' x = I1 x) → (∀ j, j < 3 → I' (o + 29) j = nI (hsk w k nb code m j)) → V E kX12_leastOf (rmOf 0 0 0) Q 0 0 S I' L 47 [(0, .ref o), (1, .int v1), (2, .int (nI k)), (3, .int (nI (code / k ^ m))), (4, .int (pred1 (nb - m)))] [] := by
    refine loopUp ?_ ?_
    · intro I' ha' hc'
      rw [Nat.sub_self, pred1_0]
      refine V_iload (pc := 47) dX12_leastOf_47 rfl ?_
      refine V_if_lt (pc := 49) (tgt := 80) dX12_leastOf_49 (by decide) (fun c49 => ?_) (fun n49 => absurd n49 (by decide))
      exact hk I' _ ha' hc'
    · intro m hm ih I' ha' hc'
      have hdl : code / k ^ m ≤ code := Nat.div_le_self _ _
      have hml := Nat.mod_lt (code / k ^ m) hk3.1
      have hcell := hc' (code / k ^ m % k) (by omega)
      have hhl := hsk_le hw6 k nb code m (code / k ^ m % k) (by omega)
      have hww := hw6 (nb - 1 - m)
      unfold FARN at hhl
      have e1 : pred1 (nb - m) = nI (nb - 1 - m) := by rw [show nb - m = (nb - 1 - m) + 1 by omega, pred1_s]
      have e2 : nI (nb - 1 - m) + Int32.ofInt (-1) = pred1 (nb - (m + 1)) := by unfold pred1; rw [Int32.sub_eq_add_neg, show nb - (m + 1) = nb - 1 - m by omega]; rfl
      have e3 : code / k ^ m / k = code / k ^ (m + 1) := by rw [Nat.div_div_eq_div_mul, Nat.pow_succ]
      have e30 : I' (o + 30) (nb - 1 - m) = nI (w (nb - 1 - m)) := by rw [ha' _ (by omega)]; exact hw _ (by omega)
      rw [e1]
      refine V_iload (pc := 47) dX12_leastOf_47 rfl ?_
      refine V_if_ltN (pc := 49) (tgt := 80) dX12_leastOf_49 (by decide) (by omega) ?_
      refine V_aload_n (pc := 52) dX12_leastOf_52 rfl ?_
      refine V_getR (pc := 53) 12 49 dX12_leastOf_53 flX12_134 (by decide) h12.o h12.R49 ?_
      refine V_iload_n (pc := 56) dX12_leastOf_56 rfl ?_
      refine V_iload_n (pc := 57) dX12_leastOf_57 rfl ?_
      refine V_iremN (pc := 58) dX12_leastOf_58 (by omega) (by omega) (by omega) ?_
      refine V_dup2 (pc := 59) dX12_leastOf_59 rfl rfl ?_
      refine V_ialoadE (pc := 60) dX12_leastOf_60 h12.A49 (by first | decide | omega) (by omega) (hcell) ?_
      refine V_aload_n (pc := 61) dX12_leastOf_61 rfl ?_
      refine V_getR (pc := 62) 12 50 dX12_leastOf_62 flX12_137 (by decide) h12.o h12.R50 ?_
      refine V_iload (pc := 65) dX12_leastOf_65 rfl ?_
      refine V_ialoadE (pc := 67) dX12_leastOf_67 h12.A50 (by first | decide | omega) (by omega) (e30) ?_
      refine V_iaddN (pc := 68) dX12_leastOf_68 ?_
      refine V_iastore (pc := 69) dX12_leastOf_69 h12.A49 (by first | decide | omega) (by omega) ?_
      refine V_iload_n (pc := 70) dX12_leastOf_70 rfl ?_
      refine V_iload_n (pc := 71) dX12_leastOf_71 rfl ?_
      refine V_idivN (pc := 72) dX12_leastOf_72 (by omega) (by omega) (by omega) ?_
      rw [e3]
      refine V_istore_n (pc := 73) (ls' := [(0, _), (1, _), (2, _), (3, _), (4, _)]) dX12_leastOf_73 (by decide) rfl ?_
      refine V_iinc (pc := 74) (ls' := [(0, _), (1, _), (2, _), (3, _), (4, _)]) dX12_leastOf_74 rfl e2 (by decide) rfl ?_
      refine V_goto (pc := 77) (tgt := 47) dX12_leastOf_77 (by decide) ?_
      refine ih _ (fun x h => by rw [up2_row h]; exact ha' x h) (fun j hj => ?_)
      have es : hsx w k nb code j (m + 1) = hsx w k nb code j m + (if code / k ^ m % k = j then w (nb - 1 - m) else 0) := rfl
      by_cases e : j = code / k ^ m % k
      · rw [e, up2_self]
        unfold hsk
        rw [if_pos hml, if_pos hml, ← e, es, if_pos e.symm]
      · rw [up2_nej e, hc' j hj]
        unfold hsk
        by_cases c : j < k
        · rw [if_pos c, if_pos c, es, if_neg (fun z => e z.symm), Nat.add_zero]
        · rw [if_neg c, if_neg c]
  have k0 := key 0 (by omega) I ha (fun j hj => by rw [h0 j hj]; rfl)
  rw [Nat.pow_zero, Nat.div_one, Nat.sub_zero] at k0
  exact k0
theorem c_X12_leastOf (h12 : Lay12 E S o) {w : Nat → Nat} {k nb code : Nat} (hk3 : 0 < k ∧ k ≤ 3) (hn : nb ≤ 6) (hc : code < 1000) (h00 : I (o + 2) 0 = nI nb) (hw6 : ∀ b, w b ≤ 60) (hw : ∀ b, b < nb → I (o + 30) b = nI (w b)) : C E kX12_leastOf 0 0 0 [.ref o, .int (nI code), .int (nI k)] S I L (fun r S' I' L' => r = some (.int (nI (lea w k nb code))) ∧ S = S' ∧ L = L' ∧ ∀ x, x ≠ o + 29 → I' x = I x) := by
  have hh : ∀ j, hsk w k nb code nb j ≤ FARN := fun j => hsk_le hw6 k nb code nb j hn
  have hh0 := hh 0
  have hh1 := hh 1
  have hh2 := hh 2
  unfold FARN at hh0 hh1 hh2
  refine C_of (by decide) (Nat.le_of_ble_eq_true rfl) ?_
  refine V_iload_n (pc := 0) dX12_leastOf_0 rfl ?_
  refine V_istore_n (pc := 1) (ls' := [(0, _), (1, _), (2, _), (3, _)]) dX12_leastOf_1 (by decide) rfl ?_
  refine V_iconst (pc := 2) (v := nI 0) dX12_leastOf_2 (by decide) ?_
  refine V_istore (pc := 3) (ls' := [(0, _), (1, _), (2, _), (3, _), (4, _)]) dX12_leastOf_3 (by decide) rfl ?_
  refine lp_le0 h12 hk3.2 (fun I1 a1 c1 => ?_)
  refine V_aload_n (pc := 37) dX12_leastOf_37 rfl ?_
  refine V_getR (pc := 38) 12 3 dX12_leastOf_38 flX12_13 (by decide) h12.o h12.R3 ?_
  refine V_iconst (pc := 41) (v := nI 0) dX12_leastOf_41 (by decide) ?_
  refine V_ialoadE (pc := 42) dX12_leastOf_42 h12.A3 (by first | decide | omega) (by omega) (show I1 (o + 2) 0 = nI nb by rw [a1 _ (by omega)]; exact h00) ?_
  refine V_iconst (pc := 43) (v := nI 1) dX12_leastOf_43 (by decide) ?_
  refine V_isub (pc := 44) dX12_leastOf_44 ?_
  refine V_istore (pc := 45) (ls' := [(0, _), (1, _), (2, _), (3, _), (4, _)]) dX12_leastOf_45 (by decide) rfl ?_
  refine lp_le1 (I1 := I) h12 hk3 hn hc hw6 hw a1 c1 (fun I2 u a2 c2 => ?_)
  have c20 := c2 0 (by omega)
  have c21 := c2 1 (by omega)
  have c22 := c2 2 (by omega)
  refine V_aload_n (pc := 80) dX12_leastOf_80 rfl ?_
  refine V_getR (pc := 81) 12 49 dX12_leastOf_81 flX12_134 (by decide) h12.o h12.R49 ?_
  refine V_iconst (pc := 84) (v := nI 0) dX12_leastOf_84 (by decide) ?_
  refine V_ialoadE (pc := 85) dX12_leastOf_85 h12.A49 (by first | decide | omega) (by omega) (c20) ?_
  refine V_aload_n (pc := 86) dX12_leastOf_86 rfl ?_
  refine V_getR (pc := 87) 12 49 dX12_leastOf_87 flX12_134 (by decide) h12.o h12.R49 ?_
  refine V_iconst (pc := 90) (v := nI 1) dX12_leastOf_90 (by decide) ?_
  refine V_ialoadE (pc := 91) dX12_leastOf_91 h12.A49 (by first | decide | omega) (by omega) (c21) ?_
  refine V_icmp_geN (pc := 92) (tgt := 104) dX12_leastOf_92 (by decide) (by omega) (by omega) (fun c92 => ?_) (fun n92 => ?_)
  · skip
    have m0 : mn2 (hsk w k nb code nb 0) (hsk w k nb code nb 1) = hsk w k nb code nb 1 := if_neg (by omega)
    refine V_aload_n (pc := 104) dX12_leastOf_104 rfl ?_
    refine V_getR (pc := 105) 12 49 dX12_leastOf_105 flX12_134 (by decide) h12.o h12.R49 ?_
    refine V_iconst (pc := 108) (v := nI 1) dX12_leastOf_108 (by decide) ?_
    refine V_ialoadE (pc := 109) dX12_leastOf_109 h12.A49 (by first | decide | omega) (by omega) (c21) ?_
    refine V_istore (pc := 110) (ls' := [(0, _), (1, _), (2, _), (3, _), (4, _)]) dX12_leastOf_110 (by decide) rfl ?_
    refine V_iload (pc := 112) dX12_leastOf_112 rfl ?_
    refine V_aload_n (pc := 114) dX12_leastOf_114 rfl ?_
    refine V_getR (pc := 115) 12 49 dX12_leastOf_115 flX12_134 (by decide) h12.o h12.R49 ?_
    refine V_iconst (pc := 118) (v := nI 2) dX12_leastOf_118 (by decide) ?_
    refine V_ialoadE (pc := 119) dX12_leastOf_119 h12.A49 (by first | decide | omega) (by omega) (c22) ?_
    refine V_icmp_geN (pc := 120) (tgt := 128) dX12_leastOf_120 (by decide) (by omega) (by omega) (fun c120 => ?_) (fun n120 => ?_)
    · skip
      rw [lea, m0, mn2, if_neg (by omega)]
      refine V_aload_n (pc := 128) dX12_leastOf_128 rfl ?_
      refine V_getR (pc := 129) 12 49 dX12_leastOf_129 flX12_134 (by decide) h12.o h12.R49 ?_
      refine V_iconst (pc := 132) (v := nI 2) dX12_leastOf_132 (by decide) ?_
      refine V_ialoadE (pc := 133) dX12_leastOf_133 h12.A49 (by first | decide | omega) (by omega) (c22) ?_
      refine V_iret (pc := 134) dX12_leastOf_134 rfl (by first | decide | omega) (by first | decide | omega) ?_
      exact ⟨rfl, rfl, rfl, a2⟩
    · skip
      have m1 := m0
      rw [lea, m0, mn2, if_pos (by omega)]
      refine V_iload (pc := 123) dX12_leastOf_123 rfl ?_
      refine V_goto (pc := 125) (tgt := 134) dX12_leastOf_125 (by decide) ?_
      refine V_iret (pc := 134) dX12_leastOf_134 rfl (by first | decide | omega) (by first | decide | omega) ?_
      exact ⟨rfl, rfl, rfl, a2⟩
  · skip
    have m0 : mn2 (hsk w k nb code nb 0) (hsk w k nb code nb 1) = hsk w k nb code nb 0 := if_pos (by omega)
    refine V_aload_n (pc := 95) dX12_leastOf_95 rfl ?_
    refine V_getR (pc := 96) 12 49 dX12_leastOf_96 flX12_134 (by decide) h12.o h12.R49 ?_
    refine V_iconst (pc := 99) (v := nI 0) dX12_leastOf_99 (by decide) ?_
    refine V_ialoadE (pc := 100) dX12_leastOf_100 h12.A49 (by first | decide | omega) (by omega) (c20) ?_
    refine V_goto (pc := 101) (tgt := 110) dX12_leastOf_101 (by decide) ?_
    refine V_istore (pc := 110) (ls' := [(0, _), (1, _), (2, _), (3, _), (4, _)]) dX12_leastOf_110 (by decide) rfl ?_
    refine V_iload (pc := 112) dX12_leastOf_112 rfl ?_
    refine V_aload_n (pc := 114) dX12_leastOf_114 rfl ?_
    refine V_getR (pc := 115) 12 49 dX12_leastOf_115 flX12_134 (by decide) h12.o h12.R49 ?_
    refine V_iconst (pc := 118) (v := nI 2) dX12_leastOf_118 (by decide) ?_
    refine V_ialoadE (pc := 119) dX12_leastOf_119 h12.A49 (by first | decide | omega) (by omega) (c22) ?_
    refine V_icmp_geN (pc := 120) (tgt := 128) dX12_leastOf_120 (by decide) (by omega) (by omega) (fun c120 => ?_) (fun n120 => ?_)
    · skip
      rw [lea, m0, mn2, if_neg (by omega)]
      refine V_aload_n (pc := 128) dX12_leastOf_128 rfl ?_
      refine V_getR (pc := 129) 12 49 dX12_leastOf_129 flX12_134 (by decide) h12.o h12.R49 ?_
      refine V_iconst (pc := 132) (v := nI 2) dX12_leastOf_132 (by decide) ?_
      refine V_ialoadE (pc := 133) dX12_leastOf_133 h12.A49 (by first | decide | omega) (by omega) (c22) ?_
      refine V_iret (pc := 134) dX12_leastOf_134 rfl (by first | decide | omega) (by first | decide | omega) ?_
      exact ⟨rfl, rfl, rfl, a2⟩
    · skip
      have m1 := m0
      rw [lea, m0, mn2, if_pos (by omega)]
      refine V_iload (pc := 123) dX12_leastOf_123 rfl ?_
      refine V_goto (pc := 125) (tgt := 134) dX12_leastOf_125 (by decide) ?_
      refine V_iret (pc := 134) dX12_leastOf_134 rfl (by first | decide | omega) (by first | decide | omega) ?_
      exact ⟨rfl, rfl, rfl, a2⟩
theorem lp_sh0 (h12 : Lay12 E S o) {Q : QT} {k : Nat} {v2 : Int32} (hM : MR o I L A) (hA : wfA A) (hk3 : 0 < k ∧ k ≤ 3) (hk : ∀ I' L', (∀ a, a ≠ o → a ≠ o + 30 → I' a = I a) → (∀ i, i ≠ 34 → i ≠ 38 → I' o i = I o i) → TsL o L' L → (∀ b, b < aq A 0 → I' (o + 30) b = nI (lst (lwf A) (aq A) b)) → V E kX12_shares (rmOf 7 0 0) Q 0 0 S I' L' 74 [(0, .ref o), (1, .int (nI k)), (2, .int v2), (3, .int (nI (k ^ aq A 0))), (4, .int (nI (aq A 0)))] []) : V E kX12_shares (rmOf 7 0 0) Q 0 0 S I L 40 [(0, .ref o), (1, .int (nI k)), (2, .int v2), (3, .int (nI 1)), (4, .int (nI 0))] [] := by
  have hq := hA.q
  have hnb := hq.nb
  have hl := hA.law
  have key : ∀ j, j ≤ aq A 0 → ∀ I' L', (∀ a, a ≠ o → a ≠ o + 30 → I' a = I a) → (∀ i, i ≠ 34 → i ≠ 38 → I' o i = I o i) → TsL o L' L → (∀ b, b < j → I' (o + 30) b = nI (lst (lwf A) (aq A) b)) → V E kX12_shares (rmOf 7 0 0) Q 0 0 S I' L' 40 [(0, .ref o), (1, .int (nI k)), (2, .int v2), (3, .int (nI (k ^ j))), (4, .int (nI j))] [] := by
    refine loopUp ?_ ?_
    · intro I' L' ha hf hL hw
      have hr := hM.row.cg (ha (o + 2) (by omega) (by omega))
      refine V_iload (pc := 40) dX12_shares_40 rfl ?_
      refine V_aload_n (pc := 42) dX12_shares_42 rfl ?_
      refine V_getR (pc := 43) 12 3 dX12_shares_43 flX12_13 (by decide) h12.o h12.R3 ?_
      refine V_iconst (pc := 46) (v := nI 0) dX12_shares_46 (by decide) ?_
      refine V_ialoadE (pc := 47) dX12_shares_47 h12.A3 (by first | decide | omega) (by omega) (hr.n (by omega)) ?_
      refine V_icmp_geN (pc := 48) (tgt := 74) dX12_shares_48 (by decide) (by omega) (by omega) (fun c48 => ?_) (fun n48 => absurd n48 (by omega))
      exact hk I' L' ha hf hL hw
    · intro j hj ih I' L' ha hf hL hw
      have hM' : MR o I' L' A := hM.dead ⟨fun a h => ha a (by simp at h; omega) (by simp at h; omega), fun i h => hf i (by simp at h; omega) (by simp at h; omega), fun a h => hL.1 a (by simp at h; omega) (by simp at h; omega) (by simp at h; omega)⟩
      have hr := hM'.row
      have hp3 := pow3 hk3.2 (show j ≤ 6 by omega)
      rw [Nat.pow_succ] at ih
      refine V_iload (pc := 40) dX12_shares_40 rfl ?_
      refine V_aload_n (pc := 42) dX12_shares_42 rfl ?_
      refine V_getR (pc := 43) 12 3 dX12_shares_43 flX12_13 (by decide) h12.o h12.R3 ?_
      refine V_iconst (pc := 46) (v := nI 0) dX12_shares_46 (by decide) ?_
      refine V_ialoadE (pc := 47) dX12_shares_47 h12.A3 (by first | decide | omega) (by omega) (hr.n (by omega)) ?_
      refine V_icmp_geN (pc := 48) (tgt := 74) dX12_shares_48 (by decide) (by omega) (by omega) (fun c48 => absurd c48 (by omega)) (fun n48 => ?_)
      refine V_aload_n (pc := 51) dX12_shares_51 rfl ?_
      refine V_getR (pc := 52) 12 50 dX12_shares_52 flX12_137 (by decide) h12.o h12.R50 ?_
      refine V_iload (pc := 55) dX12_shares_55 rfl ?_
      refine V_aload_n (pc := 57) dX12_shares_57 rfl ?_
      refine V_iload (pc := 58) dX12_shares_58 rfl ?_
      refine V_callV (pc := 60) (ci := 12) (c_X12_lastsOf h12 hr hq (hM'.law hq) hl.1 hM'.od (by omega)) dX12_shares_60 mlX12_222 mkX12_lastsOf rfl rfl h12.o ⟨by decide, rfl⟩ ⟨Nat.le_of_ble_eq_true rfl, Nat.le_of_ble_eq_true rfl⟩ (Nat.le_of_ble_eq_true rfl) ⟨Nat.le_of_ble_eq_true rfl, Nat.le_of_ble_eq_true rfl⟩ (fun r S' I' L' hp => ?_)
      obtain ⟨rfl, rfl, hI2, hL2⟩ := hp
      refine V_iastore (pc := 63) dX12_shares_63 h12.A50 (by first | decide | omega) (by omega) ?_
      refine V_iload_n (pc := 64) dX12_shares_64 rfl ?_
      refine V_iload_n (pc := 65) dX12_shares_65 rfl ?_
      refine V_imulN (pc := 66) dX12_shares_66 ?_
      refine V_istore_n (pc := 67) (ls' := [(0, _), (1, _), (2, _), (3, _), (4, _)]) dX12_shares_67 (by decide) rfl ?_
      refine V_iinc1 (pc := 68) (ls' := [(0, _), (1, _), (2, _), (3, _), (4, _)]) dX12_shares_68 rfl (by decide) rfl ?_
      refine V_goto (pc := 71) (tgt := 40) dX12_shares_71 (by decide) ?_
      refine ih _ _ (fun a a1 a2 => by rw [up2_row a2, hI2.1 a a1]; exact ha a a1 a2) (fun i i1 i2 => by rw [up2_ne (by omega), hI2.2 i i1 i2]; exact hf i i1 i2) (TsL.tr hL2 hL) (fun b hb => ?_)
      by_cases e : b = j
      · subst e; exact up2_self
      · rw [up2_nej e, hI2.1 _ (by omega)]; exact hw b (by omega)
  have k0 := key 0 (by omega) I L (fun _ _ _ => rfl) (fun _ _ _ => rfl) TsL.rf (fun b hb => absurd hb (Nat.not_lt_zero b))
  rw [Nat.pow_zero] at k0
  exact k0
theorem lp_sh1 (h12 : Lay12 E S o) {Q : QT} {I1 : IT} {w : Nat → Nat} {k nb n : Nat} {v2 : Int32} (hk3 : 0 < k ∧ k ≤ 3) (hn : nb ≤ 6) (hn3 : n ≤ 729) (hw6 : ∀ b, w b ≤ 60) (h00 : I1 (o + 2) 0 = nI nb) (hw : ∀ b, b < nb → I1 (o + 30) b = nI (w b)) (hk : ∀ I', (∀ x, x ≠ o + 29 → I' x = I1 x) → V E kX12_shares (rmOf 7 0 0) Q 0 0 S I' L 136 [(0, .ref o), (1, .int (nI k)), (2, .int v2), (3, .int (nI n)), (4, .int (pred1 (shs (lea w k nb) n).1)), (5, .int (nI (shs (lea w k nb) n).2)), (6, .int (nI n))] []) : V E kX12_shares (rmOf 7 0 0) Q 0 0 S I1 L 83 [(0, .ref o), (1, .int (nI k)), (2, .int v2), (3, .int (nI n)), (4, .int (-1)), (5, .int (nI 0)), (6, .int (nI 0))] [] := by
  have key : ∀ c, c ≤ n → ∀ I', (∀ x, x ≠ o + 29 → I' x = I1 x) → V E kX12_shares (rmOf 7 0 0) Q 0 0 S I' L 83 [(0, .ref o), (1, .int (nI k)), (2, .int v2), (3, .int (nI n)), (4, .int (pred1 (shs (lea w k nb) c).1)), (5, .int (nI (shs (lea w k nb) c).2)), (6, .int (nI c))] [] := by
    refine loopUp ?_ ?_
    · intro I' hx
      refine V_iload (pc := 83) dX12_shares_83 rfl ?_
      refine V_iload_n (pc := 85) dX12_shares_85 rfl ?_
      refine V_icmp_geN (pc := 86) (tgt := 136) dX12_shares_86 (by decide) (by omega) (by omega) (fun c86 => ?_) (fun n86 => absurd n86 (by omega))
      exact hk I' hx
    · intro c hc ih I' hx
      have hll := lea_le (code := c) hw6 hk3.1 hn
      have hso := shs_ok (v := lea w k nb) (c0 := 360) (fun c => lea_le hw6 hk3.1 hn) c
      have hpl := pred1_le (v := lea w k nb c) (m := (shs (lea w k nb) c).1) (by omega) (by omega)
      have es : shs (lea w k nb) (c + 1) = if (shs (lea w k nb) c).1 < lea w k nb c + 1 then (lea w k nb c + 1, c) else shs (lea w k nb) c := rfl
      rw [es] at ih
      refine V_iload (pc := 83) dX12_shares_83 rfl ?_
      refine V_iload_n (pc := 85) dX12_shares_85 rfl ?_
      refine V_icmp_geN (pc := 86) (tgt := 136) dX12_shares_86 (by decide) (by omega) (by omega) (fun c86 => absurd c86 (by omega)) (fun n86 => ?_)
      refine V_aload_n (pc := 89) dX12_shares_89 rfl ?_
      refine V_iload (pc := 90) dX12_shares_90 rfl ?_
      refine V_iload_n (pc := 92) dX12_shares_92 rfl ?_
      refine V_callV (pc := 93) (ci := 12) (c_X12_leastOf h12 hk3 hn (by omega) (by rw [hx _ (by omega)]; exact h00) hw6 (fun b hb => by rw [hx _ (by omega)]; exact hw b hb)) dX12_shares_93 mlX12_526 mkX12_leastOf rfl rfl h12.o ⟨by decide, rfl⟩ ⟨Nat.le_of_ble_eq_true rfl, Nat.le_of_ble_eq_true rfl⟩ (Nat.le_of_ble_eq_true rfl) ⟨Nat.le_of_ble_eq_true rfl, Nat.le_of_ble_eq_true rfl⟩ (fun r S' I' L' hp => ?_)
      obtain ⟨rfl, rfl, rfl, hx2⟩ := hp
      refine V_istore (pc := 96) (ls' := [(0, _), (1, _), (2, _), (3, _), (4, _), (5, _), (6, _), (7, _)]) dX12_shares_96 (by decide) rfl ?_
      refine V_iload (pc := 98) dX12_shares_98 rfl ?_
      refine V_iload (pc := 100) dX12_shares_100 rfl ?_
      refine V_icmp_le (pc := 102) (tgt := 110) dX12_shares_102 (by decide) (fun c102 => ?_) (fun n102 => ?_)
      · skip
        rw [if_neg (by have := hpl.mp c102; omega)] at ih
        refine V_iload (pc := 110) dX12_shares_110 rfl ?_
        refine V_istore (pc := 112) (ls' := [(0, _), (1, _), (2, _), (3, _), (4, _), (5, _), (6, _), (7, _)]) dX12_shares_112 (by decide) rfl ?_
        refine V_iload (pc := 114) dX12_shares_114 rfl ?_
        refine V_iload (pc := 116) dX12_shares_116 rfl ?_
        refine V_icmp_le (pc := 118) (tgt := 126) dX12_shares_118 (by decide) (fun c118 => ?_) (fun n118 => ?_)
        · skip
          refine V_iload (pc := 126) dX12_shares_126 rfl ?_
          refine V_istore (pc := 128) (ls' := [(0, _), (1, _), (2, _), (3, _), (4, _), (5, _), (6, _), (7, _)]) dX12_shares_128 (by decide) rfl ?_
          refine V_loc [0, 1, 2, 3, 4, 5, 6] rfl ?_
          refine V_iinc1 (pc := 130) (ls' := [(0, _), (1, _), (2, _), (3, _), (4, _), (5, _), (6, _)]) dX12_shares_130 rfl (by decide) rfl ?_
          refine V_goto (pc := 133) (tgt := 83) dX12_shares_133 (by decide) ?_
          first
          | exact absurd c118 n102
          | exact absurd c102 n118
          | exact ih _ (fun x h => by rw [hx2 x h]; exact hx x h)
        · skip
          refine V_iload (pc := 121) dX12_shares_121 rfl ?_
          refine V_goto (pc := 123) (tgt := 128) dX12_shares_123 (by decide) ?_
          refine V_istore (pc := 128) (ls' := [(0, _), (1, _), (2, _), (3, _), (4, _), (5, _), (6, _), (7, _)]) dX12_shares_128 (by decide) rfl ?_
          refine V_loc [0, 1, 2, 3, 4, 5, 6] rfl ?_
          refine V_iinc1 (pc := 130) (ls' := [(0, _), (1, _), (2, _), (3, _), (4, _), (5, _), (6, _)]) dX12_shares_130 rfl (by decide) rfl ?_
          refine V_goto (pc := 133) (tgt := 83) dX12_shares_133 (by decide) ?_
          first
          | exact absurd c118 n102
          | exact absurd c102 n118
          | exact ih _ (fun x h => by rw [hx2 x h]; exact hx x h)
      · skip
        have hz : ¬ lea w k nb c + 1 ≤ (shs (lea w k nb) c).1 := fun z => n102 (hpl.mpr z)
        rw [if_pos (by omega)] at ih
        simp only [pred1_s] at ih
        refine V_iload (pc := 105) dX12_shares_105 rfl ?_
        refine V_goto (pc := 107) (tgt := 112) dX12_shares_107 (by decide) ?_
        refine V_istore (pc := 112) (ls' := [(0, _), (1, _), (2, _), (3, _), (4, _), (5, _), (6, _), (7, _)]) dX12_shares_112 (by decide) rfl ?_
        refine V_iload (pc := 114) dX12_shares_114 rfl ?_
        refine V_iload (pc := 116) dX12_shares_116 rfl ?_
        refine V_icmp_le (pc := 118) (tgt := 126) dX12_shares_118 (by decide) (fun c118 => ?_) (fun n118 => ?_)
        · skip
          refine V_iload (pc := 126) dX12_shares_126 rfl ?_
          refine V_istore (pc := 128) (ls' := [(0, _), (1, _), (2, _), (3, _), (4, _), (5, _), (6, _), (7, _)]) dX12_shares_128 (by decide) rfl ?_
          refine V_loc [0, 1, 2, 3, 4, 5, 6] rfl ?_
          refine V_iinc1 (pc := 130) (ls' := [(0, _), (1, _), (2, _), (3, _), (4, _), (5, _), (6, _)]) dX12_shares_130 rfl (by decide) rfl ?_
          refine V_goto (pc := 133) (tgt := 83) dX12_shares_133 (by decide) ?_
          first
          | exact absurd c118 n102
          | exact absurd c102 n118
          | exact ih _ (fun x h => by rw [hx2 x h]; exact hx x h)
        · skip
          refine V_iload (pc := 121) dX12_shares_121 rfl ?_
          refine V_goto (pc := 123) (tgt := 128) dX12_shares_123 (by decide) ?_
          refine V_istore (pc := 128) (ls' := [(0, _), (1, _), (2, _), (3, _), (4, _), (5, _), (6, _), (7, _)]) dX12_shares_128 (by decide) rfl ?_
          refine V_loc [0, 1, 2, 3, 4, 5, 6] rfl ?_
          refine V_iinc1 (pc := 130) (ls' := [(0, _), (1, _), (2, _), (3, _), (4, _), (5, _), (6, _)]) dX12_shares_130 rfl (by decide) rfl ?_
          refine V_goto (pc := 133) (tgt := 83) dX12_shares_133 (by decide) ?_
          first
          | exact absurd c118 n102
          | exact absurd c102 n118
          | exact ih _ (fun x h => by rw [hx2 x h]; exact hx x h)
  exact key 0 (by omega) I1 (fun _ _ => rfl)
theorem lp_sh2 (h12 : Lay12 E S o) {k nb y its : Nat} {v3 v4 : Int32} {post : Option Value → ST → IT → LT → Prop} (hk3 : 0 < k ∧ k ≤ 3) (hn : nb ≤ 6) (hy : 0 < y ∧ y ≤ nb) (hi : its ≤ 1000) (hp : post (some (.int (nI (its / k ^ (nb - y) % k)))) S I L) : V E kX12_shares (rmOf 7 0 0) (QM E post 0 0) 0 0 S I L 153 [(0, .ref o), (1, .int (nI k)), (2, .int (nI y)), (3, .int v3), (4, .int v4), (5, .int (nI its)), (6, .int (nI (nb - 1)))] [] := by
  have key : ∀ m, m ≤ nb - y → V E kX12_shares (rmOf 7 0 0) (QM E post 0 0) 0 0 S I L 153 [(0, .ref o), (1, .int (nI k)), (2, .int (nI y)), (3, .int v3), (4, .int v4), (5, .int (nI (its / k ^ m))), (6, .int (nI (nb - 1 - m)))] [] := by
    refine loopUp ?_ ?_
    · have hdl : its / k ^ (nb - y) ≤ its := Nat.div_le_self _ _
      refine V_iload (pc := 153) dX12_shares_153 rfl ?_
      refine V_iload_n (pc := 155) dX12_shares_155 rfl ?_
      refine V_iconst (pc := 156) (v := nI 1) dX12_shares_156 (by decide) ?_
      refine V_isubN (pc := 157) dX12_shares_157 (by omega) ?_
      refine V_icmp_leN (pc := 158) (tgt := 173) dX12_shares_158 (by decide) (by omega) (by omega) (fun c158 => ?_) (fun n158 => absurd n158 (by omega))
      refine V_iload (pc := 173) dX12_shares_173 rfl ?_
      refine V_iload_n (pc := 175) dX12_shares_175 rfl ?_
      refine V_iremN (pc := 176) dX12_shares_176 (by omega) (by omega) (by omega) ?_
      refine V_iret (pc := 177) dX12_shares_177 rfl (by first | decide | omega) (by first | decide | omega) ?_
      exact hp
    · intro m hm ih
      have hdl : its / k ^ m ≤ its := Nat.div_le_self _ _
      have e3 : its / k ^ m / k = its / k ^ (m + 1) := by rw [Nat.div_div_eq_div_mul, Nat.pow_succ]
      have ei : nI (nb - 1 - m) + Int32.ofInt (-1) = nI (nb - 1 - (m + 1)) := by
        have e : nb - 1 - m = (nb - 1 - (m + 1)) + 1 := by omega
        rw [e, show Int32.ofInt (-1) = -1 from rfl, ← Int32.sub_eq_add_neg, nI_pred]
      refine V_iload (pc := 153) dX12_shares_153 rfl ?_
      refine V_iload_n (pc := 155) dX12_shares_155 rfl ?_
      refine V_iconst (pc := 156) (v := nI 1) dX12_shares_156 (by decide) ?_
      refine V_isubN (pc := 157) dX12_shares_157 (by omega) ?_
      refine V_icmp_leN (pc := 158) (tgt := 173) dX12_shares_158 (by decide) (by omega) (by omega) (fun c158 => absurd c158 (by omega)) (fun n158 => ?_)
      refine V_iload (pc := 161) dX12_shares_161 rfl ?_
      refine V_iload_n (pc := 163) dX12_shares_163 rfl ?_
      refine V_idivN (pc := 164) dX12_shares_164 (by omega) (by omega) (by omega) ?_
      rw [e3]
      refine V_istore (pc := 165) (ls' := [(0, _), (1, _), (2, _), (3, _), (4, _), (5, _), (6, _)]) dX12_shares_165 (by decide) rfl ?_
      refine V_iinc (pc := 167) (ls' := [(0, _), (1, _), (2, _), (3, _), (4, _), (5, _), (6, _)]) dX12_shares_167 rfl ei (by decide) rfl ?_
      refine V_goto (pc := 170) (tgt := 153) dX12_shares_170 (by decide) ?_
      exact ih
  have k0 := key 0 (by omega)
  rw [Nat.pow_zero, Nat.div_one, Nat.sub_zero] at k0
  exact k0
theorem c_X12_shares (h12 : Lay12 E S o) (hM : MR o I L A) (hA : wfA A) {x y : Int32} : Cm E kX12_shares 7 [.ref o, .int x, .int y] S I L o (.int (spShares A x y)) A := by
  have hq := hA.q
  have hnb := hq.nb
  have e3 := bn3_64 x
  have ey : decide (lN 0 ≤ y.toInt64 ∧ y.toInt64 ≤ lN (aq A 0)) = bnd y (aq A 0 + 1) := bnd64' (by omega)
  refine C_of (by decide) (Nat.le_of_ble_eq_true rfl) ?_
  refine V_aload_n (pc := 0) dX12_shares_0 rfl ?_
  refine V_iconst (pc := 1) (v := nI 0) dX12_shares_1 (by decide) ?_
  refine V_putI (pc := 2) 12 0 dX12_shares_2 flX12_175 (by decide) (by decide) (Or.inl rfl) rfl rfl h12.o ?_
  have hM := hM.thrown (v := nI 0)
  have hF : FrM o (up2 I o 0 (nI 0)) I L L := FrM.rf.up (by omega)
  generalize up2 I o 0 (nI 0) = I0 at hM hF ⊢
  have hr := hM.row
  refine V_iload_n (pc := 5) dX12_shares_5 rfl ?_
  refine V_i2l (pc := 6) dX12_shares_6 rfl ?_
  refine V_lconst (pc := 7) (v := lN 1) dX12_shares_7 (by decide) ?_
  refine V_ldc2 (pc := 8) dX12_shares_8 coX12_524 ?_
  refine V_callSd (pc := 11) (c_X12_in) dX12_shares_11 mlX12_195 mkX12_in rfl rfl ⟨Nat.le_of_ble_eq_true rfl, Nat.le_of_ble_eq_true rfl⟩ (Nat.le_of_ble_eq_true rfl) ⟨Nat.le_of_ble_eq_true rfl, Nat.le_of_ble_eq_true rfl⟩ ?_
  refine V_if_eqB (pc := 14) (tgt := 33) dX12_shares_14 (by decide) (fun c14 => ?_) (fun n14 => ?_)
  · skip
    refine V_iconst (pc := 33) (v := (-1)) dX12_shares_33 (by decide) ?_
    refine V_iret (pc := 34) dX12_shares_34 rfl (by first | decide | omega) (by first | decide | omega) ?_
    first | (rw [e3] at c14; rw [spShares, if_neg (fun w => by rw [w.1] at c14; exact absurd c14 (by decide))]; exact ⟨rfl, rfl, hM, hF⟩) | (rw [ey] at n30; rw [spShares, if_neg (fun w => by rw [w.2] at n30; exact absurd n30 (by decide))]; exact ⟨rfl, rfl, hM, hF⟩)
  · skip
    refine V_iload_n (pc := 17) dX12_shares_17 rfl ?_
    refine V_i2l (pc := 18) dX12_shares_18 rfl ?_
    refine V_lconst (pc := 19) (v := lN 0) dX12_shares_19 (by decide) ?_
    refine V_aload_n (pc := 20) dX12_shares_20 rfl ?_
    refine V_getR (pc := 21) 12 3 dX12_shares_21 flX12_13 (by decide) h12.o h12.R3 ?_
    refine V_iconst (pc := 24) (v := nI 0) dX12_shares_24 (by decide) ?_
    refine V_ialoadE (pc := 25) dX12_shares_25 h12.A3 (by first | decide | omega) (by omega) (hr.n (by omega)) ?_
    refine V_i2lN (pc := 26) dX12_shares_26 (by omega) ?_
    refine V_callSd (pc := 27) (c_X12_in) dX12_shares_27 mlX12_195 mkX12_in rfl rfl ⟨Nat.le_of_ble_eq_true rfl, Nat.le_of_ble_eq_true rfl⟩ (Nat.le_of_ble_eq_true rfl) ⟨Nat.le_of_ble_eq_true rfl, Nat.le_of_ble_eq_true rfl⟩ ?_
    refine V_if_neB (pc := 30) (tgt := 35) dX12_shares_30 (by decide) (fun c30 => ?_) (fun n30 => ?_)
    · skip
      rw [e3] at n14
      rw [ey] at c30
      rw [spShares, if_pos ⟨n14, c30⟩]
      obtain ⟨k, hk0, hk3, hx⟩ := bn3_ex n14
      obtain ⟨w, hw, hy⟩ := bnd_ex (by omega) c30
      subst hx hy
      rw [cln_nI (by omega), cln_nI (by omega)]
      have hso := shs_ok (v := lea (fun b => lst (lwf A) (aq A) b) k (aq A 0)) (c0 := 360) (fun c => lea_le (fun b => lst_le _ _ _) hk0 hnb) (k ^ aq A 0)
      have hp3 := pow3 hk3 hnb
      refine V_iconst (pc := 35) (v := nI 1) dX12_shares_35 (by decide) ?_
      refine V_istore_n (pc := 36) (ls' := [(0, _), (1, _), (2, _), (3, _)]) dX12_shares_36 (by decide) rfl ?_
      refine V_iconst (pc := 37) (v := nI 0) dX12_shares_37 (by decide) ?_
      refine V_istore (pc := 38) (ls' := [(0, _), (1, _), (2, _), (3, _), (4, _)]) dX12_shares_38 (by decide) rfl ?_
      refine lp_sh0 h12 hM hA ⟨hk0, hk3⟩ (fun I1 L1 a1 f1 l1 w1 => ?_)
      have hM1 : MR o I1 L1 A := hM.dead ⟨fun a h => a1 a (by simp at h; omega) (by simp at h; omega), fun i h => f1 i (by simp at h; omega) (by simp at h; omega), fun a h => l1.1 a (by simp at h; omega) (by simp at h; omega) (by simp at h; omega)⟩
      refine V_iconst (pc := 74) (v := (-1)) dX12_shares_74 (by decide) ?_
      refine V_istore (pc := 75) (ls' := [(0, _), (1, _), (2, _), (3, _), (4, _)]) dX12_shares_75 (by decide) rfl ?_
      refine V_iconst (pc := 77) (v := nI 0) dX12_shares_77 (by decide) ?_
      refine V_istore (pc := 78) (ls' := [(0, _), (1, _), (2, _), (3, _), (4, _), (5, _)]) dX12_shares_78 (by decide) rfl ?_
      refine V_iconst (pc := 80) (v := nI 0) dX12_shares_80 (by decide) ?_
      refine V_istore (pc := 81) (ls' := [(0, _), (1, _), (2, _), (3, _), (4, _), (5, _), (6, _)]) dX12_shares_81 (by decide) rfl ?_
      refine lp_sh1 (w := fun b => lst (lwf A) (aq A) b) h12 ⟨hk0, hk3⟩ hnb hp3 (fun b => lst_le _ _ _) (hM1.row.n (by omega)) w1 (fun I2 x2 => ?_)
      have hM2 : MR o I2 L1 A := hM1.dead ⟨fun a h => x2 a (by simp at h; omega), fun i _ => by rw [x2 o (by omega)], fun _ _ => rfl⟩
      have hF2 : FrM o I2 I L1 L := fun a h => ⟨by rw [x2 a (by omega), a1 a (by omega) (by omega)]; exact (hF a h).1, l1.1 a (by omega) (by omega) (by omega)⟩
      refine V_iload_n (pc := 136) dX12_shares_136 rfl ?_
      refine V_if_neN (pc := 137) (tgt := 143) dX12_shares_137 (by decide) (by omega) (fun c137 => ?_) (fun n137 => ?_)
      · skip
        rw [if_neg c137]
        refine V_aload_n (pc := 143) dX12_shares_143 rfl ?_
        refine V_getR (pc := 144) 12 3 dX12_shares_144 flX12_13 (by decide) h12.o h12.R3 ?_
        refine V_iconst (pc := 147) (v := nI 0) dX12_shares_147 (by decide) ?_
        refine V_ialoadE (pc := 148) dX12_shares_148 h12.A3 (by first | decide | omega) (by omega) (hM2.row.n (by omega)) ?_
        refine V_iconst (pc := 149) (v := nI 1) dX12_shares_149 (by decide) ?_
        refine V_isubN (pc := 150) dX12_shares_150 (by omega) ?_
        refine V_istore (pc := 151) (ls' := [(0, _), (1, _), (2, _), (3, _), (4, _), (5, _), (6, _)]) dX12_shares_151 (by decide) rfl ?_
        exact lp_sh2 h12 ⟨hk0, hk3⟩ hnb (by omega) (by have := hso.2; omega) ⟨rfl, rfl, hM2, hF2⟩
      · skip
        refine V_iload (pc := 140) dX12_shares_140 rfl ?_
        refine V_iret (pc := 142) dX12_shares_142 rfl (by first | decide | omega) (by first | decide | omega) ?_
        rw [if_pos n137]
        exact ⟨rfl, rfl, hM2, hF2⟩
    · skip
      refine V_iconst (pc := 33) (v := (-1)) dX12_shares_33 (by decide) ?_
      refine V_iret (pc := 34) dX12_shares_34 rfl (by first | decide | omega) (by first | decide | omega) ?_
      first | (rw [e3] at c14; rw [spShares, if_neg (fun w => by rw [w.1] at c14; exact absurd c14 (by decide))]; exact ⟨rfl, rfl, hM, hF⟩) | (rw [ey] at n30; rw [spShares, if_neg (fun w => by rw [w.2] at n30; exact absurd n30 (by decide))]; exact ⟨rfl, rfl, hM, hF⟩)
end MS
