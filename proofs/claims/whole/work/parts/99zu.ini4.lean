/-! CONSTRUCTORS: Village, Deeds -/
section NY
variable {E : EnT} {S S0 S1 S2 : ST} {I I0 I1 I2 : IT} {L L0 L1 L2 : LT} {o k m t n tt : Nat}
def tb10 : List (Nat × Nat × Nat) := [(2, 0, 6), (3, 0, 6), (5, 0, 8), (6, 0, 8), (7, 0, 8), (9, 5, 6)]
/-- Village: i rows are made behind its valley -/
def Y10 (E : EnT) (o i : Nat) (S : ST) (I : IT) : Prop := S.2.2 o 0 = some (o + 1) ∧ Lay9 E S (o + 1) ∧ VlM I (o + 1) qz ∧ (0 < i → I o 1 = nI 0) ∧ (2 < i → I o 4 = nI 0) ∧ (5 < i → I o 8 = nI 0) ∧ ∀ j, j < i → S.2.2 o (tb10.getD j (0, 0, 0)).1 = some (o + 8 + j) ∧ isA E S (o + 8 + j) (tb10.getD j (0, 0, 0)).2.1 (tb10.getD j (0, 0, 0)).2.2 ∧ ∀ z, I (o + 8 + j) z = 0
theorem Y10.st {i : Nat} (hP : PB E S0 I0 L0 o (7 + i) S1 I1 L1) (h : Y10 E o i S1 I1) (ho1 : o + 1 = eB E + S0.1) (hi : tb10.getD i (0, 0, 0) = (k, t, n)) (hd : ∀ j, j < i → (tb10.getD j (0, 0, 0)).1 ≠ k) (hk : k ≠ 0) (hI : ∀ x, x ≠ o → I2 x = I1 x) (f1 : I2 o 1 = nI 0) (f4 : 1 < i → I2 o 4 = nI 0) (f8 : 4 < i → I2 o 8 = nI 0) : Y10 E o (i + 1) ((psh E S1 (13 + t) n).1, (psh E S1 (13 + t) n).2.1, up2 (psh E S1 (13 + t) n).2.2 o k (some (eB E + S1.1))) I2 := by
  obtain ⟨h1, h2, h3, h4, h5, h6, h7⟩ := h
  have en := hP.e ho1
  have hE : Ext E S1 ((psh E S1 (13 + t) n).1, (psh E S1 (13 + t) n).2.1, up2 (psh E S1 (13 + t) n).2.2 o k (some (eB E + S1.1))) (fun x => x ≠ o) := Ext.pu.tr Ext.uS
  refine ⟨?_, h2.ext hE (by omega), h3.cg fun a a1 a2 => hI a (by omega), fun _ => f1, fun z => f4 (by omega), fun z => f8 (by omega), fun j hj => ?_⟩
  · show up2 S1.2.2 o k _ o 0 = _
    rw [up2_nej (by omega)]; exact h1
  · by_cases e : j = i
    · subst e
      rw [hi]
      refine ⟨?_, ?_, fun z => ?_⟩
      · show up2 _ o k _ o k = _
        rw [up2_self, en, show o + 1 + (7 + j) = o + 8 + j by omega]
      · show isA E _ (o + 8 + j) t n
        rw [show o + 8 + j = eB E + S1.1 by omega]; exact isA_psh.ext (P := fun x => x ≠ o) Ext.uS
      · rw [hI _ (by omega)]; exact (hP.2.2.1 _ (by omega) z).1
    · obtain ⟨g1, g2, g3⟩ := h7 j (by omega)
      refine ⟨?_, g2.ext hE, fun z => by rw [hI _ (by omega)]; exact g3 z⟩
      show up2 S1.2.2 o k _ o _ = _
      rw [up2_nej (hd j (by omega))]; exact g1
def PN10 (E : EnT) (S : ST) (I : IT) (L : LT) (o tt : Nat) (r : Option Value) (S' : ST) (I' : IT) (L' : LT) : Prop := r = none ∧ PB E S I L o 13 S' I' L' ∧ Lay10 E S' o tt ∧ VgM I' o qz ∧ ∀ l, l < 6 → S'.2.2 (o + 13) l = some tt
theorem c_X10_init (ho : isO E S o 10) (ho1 : o + 1 = eB E + S.1) (hB : BL E S I L) (ht : isO E S tt 7) : C E kX10_init 2 13 124 [.ref o, .ref tt] S I L (PN10 E S I L o tt) := by
  have hto : tt ≠ o := fun e => by have h1 := ht.2; have h2 := ho.2; rw [e, h2] at h1; exact absurd h1 (by decide)
  refine C_of (by decide) (Nat.le_of_ble_eq_true rfl) ?_
  have fin : ∀ S1 I1, PB E S I L o 13 S1 I1 L → Lay10 E S1 o tt → VgM I1 o qz → isO E S1 tt 7 → V E kX10_init (rmOf 2 13 124) (QM E (PN10 E S I L o tt) 13 124) 13 124 S1 I1 L 91 [(0, .ref o), (1, .ref tt), (2, .int (nI 0))] [] := by
    intro S1 I1 hP hL hV hT
    have key : ∀ l, l ≤ 6 → ∀ S2, S2.1 = S1.1 → S2.2.1 = S1.2.1 → (∀ x, x ≠ o + 13 → S2.2.2 x = S1.2.2 x) → (∀ z, z < l → S2.2.2 (o + 13) z = some tt) → V E kX10_init (rmOf 2 13 124) (QM E (PN10 E S I L o tt) 13 124) 13 124 S2 I1 L 91 [(0, .ref o), (1, .ref tt), (2, .int (nI l))] [] := by
      refine loopUp (n := 6) (P := fun l => ∀ S2 : ST, S2.1 = S1.1 → S2.2.1 = S1.2.1 → (∀ x, x ≠ o + 13 → S2.2.2 x = S1.2.2 x) → (∀ z, z < l → S2.2.2 (o + 13) z = some tt) → V E kX10_init (rmOf 2 13 124) (QM E (PN10 E S I L o tt) 13 124) 13 124 S2 I1 L 91 [(0, .ref o), (1, .ref tt), (2, .int (nI l))] []) ?_ ?_
      · intro S2 e1 e2 e3 e4
        have ex : Ext E S1 S2 (fun x => x ≠ o + 13) := fun x hx => ⟨⟨hx.1, by rw [e1]; exact hx.2⟩, by rw [e2], fun p => e3 x p⟩
        have hP2 : PB E S I L o 13 S2 I1 L := ⟨e1.trans hP.1, hP.2.1.tn (a := o + 13) ex (fun z => by have := z.2; omega), fun q hq j => ⟨(hP.2.2.1 q (by rw [e1] at hq; exact hq) j).1, (hP.2.2.1 q (by rw [e1] at hq; exact hq) j).2.1, by rw [e3 q (by have := hP.e ho1; rw [e1] at hq; omega)]; exact (hP.2.2.1 q (by rw [e1] at hq; exact hq) j).2.2⟩, hP.2.2.2⟩
        refine V_iload_n (pc := 91) dX10_init_91 rfl ?_
        refine V_bipush (pc := 92) (v := nI 6) dX10_init_92 (by decide) ?_
        refine V_icmp_geN (pc := 94) (tgt := 110) dX10_init_94 (by decide) (by omega) (by omega) (fun c94 => ?_) (fun n94 => absurd n94 (by omega))
        refine V_vret (pc := 110) dX10_init_110 rfl (by first | decide | omega) (by first | decide | omega) ?_
        exact ⟨rfl, hP2, hL.ext ex (by omega) (by omega), hV, e4⟩
      · intro l hl ih S2 e1 e2 e3 e4
        have ex : Ext E S1 S2 (fun x => x ≠ o + 13) := fun x hx => ⟨⟨hx.1, by rw [e1]; exact hx.2⟩, by rw [e2], fun p => e3 x p⟩
        have hL2 := hL.ext ex (by omega) (by omega)
        refine V_iload_n (pc := 91) dX10_init_91 rfl ?_
        refine V_bipush (pc := 92) (v := nI 6) dX10_init_92 (by decide) ?_
        refine V_icmp_geN (pc := 94) (tgt := 110) dX10_init_94 (by decide) (by omega) (by omega) (fun c94 => absurd c94 (by omega)) (fun n94 => ?_)
        refine V_aload_n (pc := 97) dX10_init_97 rfl ?_
        refine V_getR (pc := 98) 10 9 dX10_init_98 flX10_46 (by decide) hL2.o hL2.R9 ?_
        refine V_iload_n (pc := 101) dX10_init_101 rfl ?_
        refine V_aload_n (pc := 102) dX10_init_102 rfl ?_
        refine V_aastore (pc := 103) dX10_init_103 hL2.A9 (by decide) hl (hT.ext ex) (by decide) ?_
        refine V_iinc1 (pc := 104) (ls' := [(0, _), (1, _), (2, _)]) dX10_init_104 rfl (by decide) rfl ?_
        refine V_goto (pc := 107) (tgt := 91) dX10_init_107 (by decide) ?_
        refine ih _ e1 e2 (fun x hx => by show up2 S2.2.2 _ _ _ x = _; rw [up2_row hx]; exact e3 x hx) (fun z hz => ?_)
        show up2 S2.2.2 (o + 13) l _ (o + 13) z = _
        by_cases y : z = l
        · subst y; exact up2_self
        · rw [up2_nej y]; exact e4 z (by omega)
    exact key 0 (by omega) S1 rfl rfl (fun _ _ => rfl) (fun z hz => absurd hz (Nat.not_lt_zero z))
  have s6 : ∀ S1 I1, PB E S I L o (7 + 6) S1 I1 L → Y10 E o 6 S1 I1 → V E kX10_init (rmOf 2 13 124) (QM E (PN10 E S I L o tt) 13 124) 13 124 S1 I1 L 79 [(0, .ref o), (1, .ref tt)] [] := by
    intro S1 I1 hP hY
    have hO : isO E S1 o 10 := ho.ext hP.2.1
    have hT1 : isO E S1 tt 7 := ht.ext hP.2.1
    obtain ⟨y1, y2, y3, y4, y5, y6, y7⟩ := hY
    have ex : Ext E S1 (S1.1, S1.2.1, up2 S1.2.2 o 10 (some tt)) (fun x => x ≠ o) := Ext.uS
    have r : ∀ f, f ≠ 10 → up2 S1.2.2 o 10 (some tt) o f = S1.2.2 o f := fun f hf => up2_nej hf
    have iz : ∀ j z, j < 6 → up2 I1 o 11 (-1) (o + 8 + j) z = nI 0 := fun j z hj => by rw [up2_row (by omega), (y7 j hj).2.2 z]; rfl
    refine V_aload_n (pc := 79) dX10_init_79 rfl ?_
    refine V_iconst (pc := 80) (v := (-1)) dX10_init_80 (by decide) ?_
    refine V_putI (pc := 81) 10 11 dX10_init_81 flX10_50 (by decide) (by decide) (Or.inl rfl) rfl rfl (by assumption) ?_
    refine V_aload_n (pc := 84) dX10_init_84 rfl ?_
    refine V_aload_n (pc := 85) dX10_init_85 rfl ?_
    refine V_putR (pc := 86) 10 10 dX10_init_86 flX10_53 (by decide) (by decide) (Or.inr ⟨rfl, rfl, rfl⟩) rfl rfl (by assumption) ?_
    refine V_iconst (pc := 89) (v := nI 0) dX10_init_89 (by decide) ?_
    refine V_istore_n (pc := 90) (ls' := [(0, _), (1, _), (2, _)]) dX10_init_90 (by decide) rfl ?_
    refine fin _ _ ((hP.ui ho1 (Nat.le_refl _) (by omega)).put ho1) ⟨hO.ext ex, (r 0 (by decide)).trans y1, y2.ext ex (by omega), (r 2 (by decide)).trans (y7 0 (by decide)).1, (y7 0 (by decide)).2.1.ext ex, (r 3 (by decide)).trans (y7 1 (by decide)).1, (y7 1 (by decide)).2.1.ext ex, (r 5 (by decide)).trans (y7 2 (by decide)).1, (y7 2 (by decide)).2.1.ext ex, (r 6 (by decide)).trans (y7 3 (by decide)).1, (y7 3 (by decide)).2.1.ext ex, (r 7 (by decide)).trans (y7 4 (by decide)).1, (y7 4 (by decide)).2.1.ext ex, (r 9 (by decide)).trans (y7 5 (by decide)).1, (y7 5 (by decide)).2.1.ext ex, up2_self⟩ ⟨y3.cg fun a a1 a2 => up2_row (by omega), (up2_nej (by omega)).trans (y4 (by decide)), fun s hs => ?_, fun s hs => ?_, (up2_nej (by omega)).trans (y5 (by decide)), fun k hk => ⟨?_, ?_, ?_⟩, (up2_nej (by omega)).trans (y6 (by decide)), ?_⟩ (hT1.ext ex)
    · rw [qz_0 (by omega)]; exact iz 0 s (by omega)
    · rw [qz_0 (by omega)]; exact iz 1 s (by omega)
    · rw [qz_0 (by omega)]; exact iz 2 k (by omega)
    · rw [qz_0 (by omega)]; exact iz 3 k (by omega)
    · rw [qz_0 (by omega)]; exact iz 4 k (by omega)
    · rw [up2_self, qz_0 (by omega), pred1_0]
  have s5 : ∀ S1 I1, PB E S I L o (7 + 5) S1 I1 L → Y10 E o 5 S1 I1 → V E kX10_init (rmOf 2 13 124) (QM E (PN10 E S I L o tt) 13 124) 12 118 S1 I1 L 65 [(0, .ref o), (1, .ref tt)] [] := by
    intro S1 I1 hP hY
    have hO : isO E S1 o 10 := ho.ext hP.2.1
    have hP2 : PB E S I L o (7 + 5) S1 (up2 I1 o 8 (nI 0)) L := hP.ui ho1 (Nat.le_refl _) (by omega)
    have hf := hP2.2.2.1.fr
    have hO2 : isO E (psh E S1 (13 + 5) 6) o 10 := hO.ext (P := fun _ => True) Ext.pu
    refine V_aload_n (pc := 65) dX10_init_65 rfl ?_
    refine V_iconst (pc := 66) (v := nI 0) dX10_init_66 (by decide) ?_
    refine V_putI (pc := 67) 10 8 dX10_init_67 flX10_41 (by decide) (by decide) (Or.inl rfl) rfl rfl (by assumption) ?_
    refine V_aload_n (pc := 70) dX10_init_70 rfl ?_
    refine V_bipush (pc := 71) (v := nI 6) dX10_init_71 (by decide) ?_
    refine V_anewarray (pc := 73) (t := 5) (ci := 7) (by decide) dX10_init_73 clX10_44 (by decide) hf (by decide) (by decide) ?_
    refine V_putR (pc := 76) 10 9 dX10_init_76 flX10_46 (by decide) (by decide) (Or.inr ⟨rfl, rfl, rfl⟩) rfl rfl (by assumption) ?_
    exact s6 _ _ (hP2.arr.put ho1) (Y10.st hP hY ho1 rfl (by decide) (by decide) (fun x hx => up2_row hx) ((up2_nej (by omega)).trans (hY.2.2.2.1 (by decide))) (fun _ => (up2_nej (by omega)).trans (hY.2.2.2.2.1 (by decide))) (fun _ => up2_self))
  have s4 : ∀ S1 I1, PB E S I L o (7 + 4) S1 I1 L → Y10 E o 4 S1 I1 → V E kX10_init (rmOf 2 13 124) (QM E (PN10 E S I L o tt) 13 124) 11 110 S1 I1 L 57 [(0, .ref o), (1, .ref tt)] [] := by
    intro S1 I1 hP hY
    have hO : isO E S1 o 10 := ho.ext hP.2.1
    have hP2 := hP
    have hf := hP2.2.2.1.fr
    have hO2 : isO E (psh E S1 (13 + 0) 8) o 10 := hO.ext (P := fun _ => True) Ext.pu
    refine V_aload_n (pc := 57) dX10_init_57 rfl ?_
    refine V_bipush (pc := 58) (v := nI 8) dX10_init_58 (by decide) ?_
    refine V_newarray (pc := 60) (t := 0) dX10_init_60 (by decide) acI (by first | decide | omega) (by assumption) (by first | decide | omega) (by first | decide | omega) ?_
    refine V_putR (pc := 62) 10 7 dX10_init_62 flX10_38 (by decide) (by decide) (Or.inr ⟨rfl, rfl, rfl⟩) rfl rfl (by assumption) ?_
    exact s5 _ _ (hP2.arr.put ho1) (Y10.st hP hY ho1 rfl (by decide) (by decide) (fun x hx => rfl) (hY.2.2.2.1 (by decide)) (fun _ => hY.2.2.2.2.1 (by decide)) (fun z => absurd z (by omega)))
  have s3 : ∀ S1 I1, PB E S I L o (7 + 3) S1 I1 L → Y10 E o 3 S1 I1 → V E kX10_init (rmOf 2 13 124) (QM E (PN10 E S I L o tt) 13 124) 10 102 S1 I1 L 49 [(0, .ref o), (1, .ref tt)] [] := by
    intro S1 I1 hP hY
    have hO : isO E S1 o 10 := ho.ext hP.2.1
    have hP2 := hP
    have hf := hP2.2.2.1.fr
    have hO2 : isO E (psh E S1 (13 + 0) 8) o 10 := hO.ext (P := fun _ => True) Ext.pu
    refine V_aload_n (pc := 49) dX10_init_49 rfl ?_
    refine V_bipush (pc := 50) (v := nI 8) dX10_init_50 (by decide) ?_
    refine V_newarray (pc := 52) (t := 0) dX10_init_52 (by decide) acI (by first | decide | omega) (by assumption) (by first | decide | omega) (by first | decide | omega) ?_
    refine V_putR (pc := 54) 10 6 dX10_init_54 flX10_35 (by decide) (by decide) (Or.inr ⟨rfl, rfl, rfl⟩) rfl rfl (by assumption) ?_
    exact s4 _ _ (hP2.arr.put ho1) (Y10.st hP hY ho1 rfl (by decide) (by decide) (fun x hx => rfl) (hY.2.2.2.1 (by decide)) (fun _ => hY.2.2.2.2.1 (by decide)) (fun z => absurd z (by omega)))
  have s2 : ∀ S1 I1, PB E S I L o (7 + 2) S1 I1 L → Y10 E o 2 S1 I1 → V E kX10_init (rmOf 2 13 124) (QM E (PN10 E S I L o tt) 13 124) 9 94 S1 I1 L 36 [(0, .ref o), (1, .ref tt)] [] := by
    intro S1 I1 hP hY
    have hO : isO E S1 o 10 := ho.ext hP.2.1
    have hP2 : PB E S I L o (7 + 2) S1 (up2 I1 o 4 (nI 0)) L := hP.ui ho1 (Nat.le_refl _) (by omega)
    have hf := hP2.2.2.1.fr
    have hO2 : isO E (psh E S1 (13 + 0) 8) o 10 := hO.ext (P := fun _ => True) Ext.pu
    refine V_aload_n (pc := 36) dX10_init_36 rfl ?_
    refine V_iconst (pc := 37) (v := nI 0) dX10_init_37 (by decide) ?_
    refine V_putI (pc := 38) 10 4 dX10_init_38 flX10_29 (by decide) (by decide) (Or.inl rfl) rfl rfl (by assumption) ?_
    refine V_aload_n (pc := 41) dX10_init_41 rfl ?_
    refine V_bipush (pc := 42) (v := nI 8) dX10_init_42 (by decide) ?_
    refine V_newarray (pc := 44) (t := 0) dX10_init_44 (by decide) acI (by first | decide | omega) (by assumption) (by first | decide | omega) (by first | decide | omega) ?_
    refine V_putR (pc := 46) 10 5 dX10_init_46 flX10_32 (by decide) (by decide) (Or.inr ⟨rfl, rfl, rfl⟩) rfl rfl (by assumption) ?_
    exact s3 _ _ (hP2.arr.put ho1) (Y10.st hP hY ho1 rfl (by decide) (by decide) (fun x hx => up2_row hx) ((up2_nej (by omega)).trans (hY.2.2.2.1 (by decide))) (fun _ => up2_self) (fun z => absurd z (by omega)))
  have s1 : ∀ S1 I1, PB E S I L o (7 + 1) S1 I1 L → Y10 E o 1 S1 I1 → V E kX10_init (rmOf 2 13 124) (QM E (PN10 E S I L o tt) 13 124) 8 88 S1 I1 L 28 [(0, .ref o), (1, .ref tt)] [] := by
    intro S1 I1 hP hY
    have hO : isO E S1 o 10 := ho.ext hP.2.1
    have hP2 := hP
    have hf := hP2.2.2.1.fr
    have hO2 : isO E (psh E S1 (13 + 0) 6) o 10 := hO.ext (P := fun _ => True) Ext.pu
    refine V_aload_n (pc := 28) dX10_init_28 rfl ?_
    refine V_bipush (pc := 29) (v := nI 6) dX10_init_29 (by decide) ?_
    refine V_newarray (pc := 31) (t := 0) dX10_init_31 (by decide) acI (by first | decide | omega) (by assumption) (by first | decide | omega) (by first | decide | omega) ?_
    refine V_putR (pc := 33) 10 3 dX10_init_33 flX10_26 (by decide) (by decide) (Or.inr ⟨rfl, rfl, rfl⟩) rfl rfl (by assumption) ?_
    exact s2 _ _ (hP2.arr.put ho1) (Y10.st hP hY ho1 rfl (by decide) (by decide) (fun x hx => rfl) (hY.2.2.2.1 (by decide)) (fun z => absurd z (by omega)) (fun z => absurd z (by omega)))
  have s0 : ∀ S1 I1, PB E S I L o (7 + 0) S1 I1 L → Y10 E o 0 S1 I1 → V E kX10_init (rmOf 2 13 124) (QM E (PN10 E S I L o tt) 13 124) 7 82 S1 I1 L 15 [(0, .ref o), (1, .ref tt)] [] := by
    intro S1 I1 hP hY
    have hO : isO E S1 o 10 := ho.ext hP.2.1
    have hP2 : PB E S I L o (7 + 0) S1 (up2 I1 o 1 (nI 0)) L := hP.ui ho1 (Nat.le_refl _) (by omega)
    have hf := hP2.2.2.1.fr
    have hO2 : isO E (psh E S1 (13 + 0) 6) o 10 := hO.ext (P := fun _ => True) Ext.pu
    refine V_aload_n (pc := 15) dX10_init_15 rfl ?_
    refine V_iconst (pc := 16) (v := nI 0) dX10_init_16 (by decide) ?_
    refine V_putI (pc := 17) 10 1 dX10_init_17 flX10_18 (by decide) (by decide) (Or.inl rfl) rfl rfl (by assumption) ?_
    refine V_aload_n (pc := 20) dX10_init_20 rfl ?_
    refine V_bipush (pc := 21) (v := nI 6) dX10_init_21 (by decide) ?_
    refine V_newarray (pc := 23) (t := 0) dX10_init_23 (by decide) acI (by first | decide | omega) (by assumption) (by first | decide | omega) (by first | decide | omega) ?_
    refine V_putR (pc := 25) 10 2 dX10_init_25 flX10_22 (by decide) (by decide) (Or.inr ⟨rfl, rfl, rfl⟩) rfl rfl (by assumption) ?_
    exact s1 _ _ (hP2.arr.put ho1) (Y10.st hP hY ho1 rfl (by decide) (by decide) (fun x hx => up2_row hx) up2_self (fun z => absurd z (by omega)) (fun z => absurd z (by omega)))
  have hf := hB.fr
  refine V_aload_n (pc := 0) dX10_init_0 rfl ?_
  refine V_objInit (pc := 1) dX10_init_1 mlX10_3 imO coO (Nat.le_of_ble_eq_true rfl) (Nat.le_of_ble_eq_true rfl) ?_
  refine V_aload_n (pc := 4) dX10_init_4 rfl ?_
  refine V_new (pc := 5) 9 dX10_init_5 clX10_9 it9 iz9 (by decide) (by decide) (by assumption) (by first | decide | omega) (by first | decide | omega) ?_
  refine V_dup (pc := 8) dX10_init_8 rfl ?_
  refine V_callI (pc := 9) (c_X9_new hB) dX10_init_9 mlX10_11 mkX9_init rfl rfl ⟨Nat.le_of_ble_eq_true rfl, Nat.le_of_ble_eq_true rfl⟩ (Nat.le_of_ble_eq_true rfl) ⟨Nat.le_of_ble_eq_true rfl, Nat.le_of_ble_eq_true rfl⟩ (fun r S' I' L' hp => ?_)
  obtain ⟨rfl, hG, hL9, hV⟩ := hp
  have hL := hG.2.2.2.1
  subst hL
  have hP := (PB.rf (o := o) hB).new hG ho1
  have hO2 : isO E S' o 10 := ho.ext (P := fun _ => True) hG.2.1
  refine V_putR (pc := 12) 10 0 dX10_init_12 flX10_12 (by decide) (by decide) (Or.inr ⟨rfl, rfl, rfl⟩) rfl rfl (by assumption) ?_
  refine s0 _ _ (hP.put ho1) ⟨?_, ?_, ?_, fun z => absurd z (by omega), fun z => absurd z (by omega), fun z => absurd z (by omega), fun j hj => absurd hj (Nat.not_lt_zero j)⟩
  · show up2 S'.2.2 o 0 _ o 0 = _
    rw [up2_self, ho1]
  · rw [ho1]; exact hL9.ext (P := fun x => x ≠ o) Ext.uS (by omega)
  · rw [ho1]; exact hV
end NY
