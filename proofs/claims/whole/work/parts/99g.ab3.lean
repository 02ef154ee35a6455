/-! THE CLASS: about, told -/
section CZ
variable {E : EnT} {S : ST} {I : IT} {L : LT} {M : Nat} {law : LawT} {q : Nat → Nat}
theorem c_X4_matchAbout (h4 : Lay4 E S M) (hq : wq q) (hG : GaM I M law q (q 0) 0) {d : Nat} (hd : d < 61) : C E kX4_matchAbout 2 0 0 [.ref M, .int (nI (q 0)), .int (nI d)] S I L (fun r S' I' L' => r = none ∧ S = S' ∧ L = L' ∧ (∀ x, x ≠ M + 5 → x ≠ M + 6 → I' x = I x) ∧ I' (M + 5) 0 = nI (abd law q d (q 0) 0) ∧ ∀ b, b < q 0 → I' (M + 6) b = nI (if abs1 law q d (abt1 law q d b) b < q 1 then abs1 law q d (abt1 law q d b) b else 100)) := by
  have hnb := hq.nb
  refine C_of (by decide) (Nat.le_of_ble_eq_true rfl) ?_
  generalize hPost : (fun (r : Option Value) (S' : ST) (I' : IT) (L' : LT) => r = none ∧ S = S' ∧ L = L' ∧ (∀ x, x ≠ M + 5 → x ≠ M + 6 → I' x = I x) ∧ I' (M + 5) 0 = nI (abd law q d (q 0) 0) ∧ ∀ b, b < q 0 → I' (M + 6) b = nI (if abs1 law q d (abt1 law q d b) b < q 1 then abs1 law q d (abt1 law q d b) b else 100)) = post
  have key : ∀ b, b ≤ q 0 → ∀ J, (∀ x, x ≠ M + 5 → J x = I x) → AbC J M law q d b 0 → ∀ ls, ls = [(0, .ref M), (1, .int (nI (q 0))), (2, .int (nI d)), (3, .int (pred1 b))] → V E kX4_matchAbout (rmOf 2 0 0) (QM E post 0 0) 0 0 S J L 12 ls [] := by
    intro b
    induction b with
    | zero =>
      intro _ J hF hC ls hls
      subst hls
      rw [pred1_0]
      have hGJ : GaM J M law q (q 0) 0 := hG.cg (hF _ (by omega)) (hF _ (by omega))
      refine V_iload_n (pc := 12) dX4_matchAbout_12 rfl ?_
      refine V_if_lt (pc := 13) (tgt := 101) dX4_matchAbout_13 (by decide) (fun c13 => ?_) (fun n13 => absurd n13 (by decide))
      refine V_aload_n (pc := 101) dX4_matchAbout_101 rfl ?_
      refine V_iload_n (pc := 102) dX4_matchAbout_102 rfl ?_
      refine V_iload_n (pc := 103) dX4_matchAbout_103 rfl ?_
      refine V_callV (pc := 104) (ci := 4) (c_X4_writeRow h4 hq hGJ hd hC) dX4_matchAbout_104 mlX4_102 mkX4_writeRow rfl rfl h4.o ⟨by decide, rfl⟩ ⟨Nat.le_of_ble_eq_true rfl, Nat.le_of_ble_eq_true rfl⟩ (Nat.le_of_ble_eq_true rfl) ⟨Nat.le_of_ble_eq_true rfl, Nat.le_of_ble_eq_true rfl⟩ (fun r S' I' L' hp => ?_)
      obtain ⟨rfl, rfl, rfl, hF2, hrow⟩ := hp
      refine V_vret (pc := 107) dX4_matchAbout_107 rfl (by first | decide | omega) (by first | decide | omega) ?_
      rw [← hPost]
      refine ⟨rfl, rfl, rfl, fun x a1 a2 => (hF2 x a2).trans (hF x a1), ?_, hrow⟩
      rw [hF2 _ (by omega)]
      exact hC 0 0 (by omega) (by omega) (Or.inl (Nat.le_refl _))
    | succ b ih =>
      intro hb J hF hC ls hls
      subst hls
      rw [pred1_s]
      refine V_iload_n (pc := 12) dX4_matchAbout_12 rfl ?_
      refine V_if_ltN (pc := 13) (tgt := 101) dX4_matchAbout_13 (by decide) (by omega) ?_
      refine V_iconst (pc := 16) (v := nI 0) dX4_matchAbout_16 (by decide) ?_
      refine V_istore (pc := 17) (ls' := [(0, _), (1, _), (2, _), (3, _), (4, _)]) dX4_matchAbout_17 (by decide) rfl ?_
      refine lp_abC2 (I1 := J) h4 hq (hG.cg (hF _ (by omega)) (hF _ (by omega))) (by omega) hd (fun J2 hF2 hC2 => ?_) 0 (by omega) J (fun _ _ => rfl) hC
      refine V_loc [0, 1, 2, 3] rfl ?_
      refine V_iinc (pc := 95) (ls' := [(0, _), (1, _), (2, _), (3, _)]) dX4_matchAbout_95 rfl (pred1_iinc _) (by decide) rfl ?_
      refine V_goto (pc := 98) (tgt := 12) dX4_matchAbout_98 (by decide) ?_
      exact ih (by omega) J2 (fun x hx => (hF2 x hx).trans (hF x hx)) hC2 _ rfl
  refine V_aload_n (pc := 0) dX4_matchAbout_0 rfl ?_
  refine V_getR (pc := 1) 4 4 dX4_matchAbout_1 flX4_24 (by decide) h4.o h4.R4 ?_
  refine V_iconst (pc := 4) (v := nI 0) dX4_matchAbout_4 (by decide) ?_
  refine V_callSn (pc := 5) (c_J7_fill_53178 h4.A4 (by omega)) dX4_matchAbout_5 mlX4_30 mkJ7_fill_53178 rfl rfl ⟨Nat.le_of_ble_eq_true rfl, Nat.le_of_ble_eq_true rfl⟩ (Nat.le_of_ble_eq_true rfl) ⟨Nat.le_of_ble_eq_true rfl, Nat.le_of_ble_eq_true rfl⟩ ?_
  refine V_iload_n (pc := 8) dX4_matchAbout_8 rfl ?_
  refine V_iconst (pc := 9) (v := nI 1) dX4_matchAbout_9 (by decide) ?_
  refine V_isub (pc := 10) dX4_matchAbout_10 ?_
  refine V_istore_n (pc := 11) (ls' := [(0, _), (1, _), (2, _), (3, _)]) dX4_matchAbout_11 (by decide) rfl ?_
  refine key (q 0) (Nat.le_refl _) _ (fun x hx => upr_row hx) (fun b u hb hu hj => ?_) _ rfl
  show upr I (M + 5) (fun j => if j < 448 then nI 0 else I (M + 5) j) (M + 5) (64 * b + u) = _
  rw [upr_self, if_pos (by omega), show q 0 - b = 0 by omega]
  rfl
theorem c_X4_matched (h4 : Lay4 E S M) {v : Nat} (hv : v ≤ 10000) (h5 : I (M + 5) 0 = nI v) : Cd E kX4_matched 0 0 0 [.ref M] S I L (.int (nI ((v + 999) / 1000))) S I L := by
  have e : v + 1000 - 1 = v + 999 := by omega
  refine C_of (by decide) (Nat.le_of_ble_eq_true rfl) ?_
  refine V_aload_n (pc := 0) dX4_matched_0 rfl ?_
  refine V_getR (pc := 1) 4 4 dX4_matched_1 flX4_24 (by decide) h4.o h4.R4 ?_
  refine V_iconst (pc := 4) (v := nI 0) dX4_matched_4 (by decide) ?_
  refine V_ialoadE (pc := 5) dX4_matched_5 h4.A4 (by first | decide | omega) (by omega) (h5) ?_
  refine V_sipush (pc := 6) (v := nI 1000) dX4_matched_6 (by decide) ?_
  refine V_iaddN (pc := 9) dX4_matched_9 ?_
  refine V_iconst (pc := 10) (v := nI 1) dX4_matched_10 (by decide) ?_
  refine V_isubN (pc := 11) dX4_matched_11 (by omega) ?_
  rw [e]
  refine V_sipush (pc := 12) (v := nI 1000) dX4_matched_12 (by decide) ?_
  refine V_idivN (pc := 15) dX4_matched_15 (by omega) (by omega) (by omega) ?_
  refine V_iret (pc := 16) dX4_matched_16 rfl (by first | decide | omega) (by first | decide | omega) ?_
  exact ⟨rfl, rfl, rfl, rfl⟩
theorem c_X4_differences (h4 : Lay4 E S M) {v : Nat} (hv : v ≤ 10000) (h5 : I (M + 5) 0 = nI v) : Cd E kX4_differences 1 0 0 [.ref M] S I L (.int (nI (1000 * ((v + 999) / 1000) - v))) S I L := by
  have h1 : v ≤ (v + 999) / 1000 * 1000 := by omega
  refine C_of (by decide) (Nat.le_of_ble_eq_true rfl) ?_
  refine V_aload_n (pc := 0) dX4_differences_0 rfl ?_
  refine V_callVd (pc := 1) (ci := 4) (c_X4_matched h4 hv h5) dX4_differences_1 mlX4_106 mkX4_matched rfl rfl h4.o ⟨by decide, rfl⟩ ⟨Nat.le_of_ble_eq_true rfl, Nat.le_of_ble_eq_true rfl⟩ (Nat.le_of_ble_eq_true rfl) ⟨Nat.le_of_ble_eq_true rfl, Nat.le_of_ble_eq_true rfl⟩ ?_
  refine V_sipush (pc := 4) (v := nI 1000) dX4_differences_4 (by decide) ?_
  refine V_imulN (pc := 7) dX4_differences_7 ?_
  refine V_aload_n (pc := 8) dX4_differences_8 rfl ?_
  refine V_getR (pc := 9) 4 4 dX4_differences_9 flX4_24 (by decide) h4.o h4.R4 ?_
  refine V_iconst (pc := 12) (v := nI 0) dX4_differences_12 (by decide) ?_
  refine V_ialoadE (pc := 13) dX4_differences_13 h4.A4 (by first | decide | omega) (by omega) (h5) ?_
  refine V_isubN (pc := 14) dX4_differences_14 (by omega) ?_
  refine V_iret (pc := 15) dX4_differences_15 rfl (by first | decide | omega) (by first | decide | omega) ?_
  exact ⟨by rw [Nat.mul_comm], rfl, rfl, rfl⟩
end CZ
section CZ2
variable {E : EnT} {S : ST} {I : IT} {L : LT} {B : Nat} {A : AT}
theorem bnd_2 {y n : Nat} (h2 : 2 ≤ y) (hy : y < 2 ^ 31) : bnd (nI y - nI 2) n = decide (y < n + 2) := by
  rw [pk_sub h2, bnd_nI (by omega)]
  apply decide_eq_decide.mpr
  omega
theorem ab_lo {y : Int32} {n : Nat} (h0 : 0 ≤ y) (h : y < nI 2) : bnd y (n + 2) = true := by
  obtain ⟨k, hk, rfl⟩ := bnd_ex (by omega) (bnd_ltx (n := 2) (by omega) (Int32.not_lt.mpr h0) h)
  exact bnd_lt (by omega) (by omega)
theorem ab_in {y : Int32} {n : Nat} (hn : n < 1000) (h : bnd (y - nI 2) n = true) : bnd y (n + 2) = true := by
  obtain ⟨k, hk, e⟩ := bnd_ex (by omega) h
  have e2 : y = nI (k + 2) := by rw [← nI_add, ← e, Int32.sub_add_cancel]
  rw [e2]; exact bnd_lt (by omega) (by omega)
theorem c_X11_about (h11 : Lay11 E S B) (hR : CR E S B I A) (hA : wfA A) {x y : Int32} : Cc E kX11_about 6 [.ref B, .int x, .int y] S I L B (.int (spAbout A x y)) A := by
  have hq := hA.q
  have hnb := hq.nb
  have hns := hq.ns
  have abl := abd_le (lwf A) (aq A)
  refine C_of (by decide) (Nat.le_of_ble_eq_true rfl) ?_
  by_cases hx : bnd x 61 = true
  · obtain ⟨d, hd, rfl⟩ := bnd_ex (by omega) hx
    have abl2 := abd_le (lwf A) (aq A) d (aq A 0) 0
    have go : ∀ z, z < aq A 0 + 2 → (2 ≤ z → aq A (68 + (z - 2)) = 0) → V E kX11_about (rmOf 6 0 0) (QM E (fun r S' I' L' => r = some (.int (if z = 0 then nI ((abd (lwf A) (aq A) d (aq A 0) 0 + 999) / 1000) else if z = 1 then nI (1000 * ((abd (lwf A) (aq A) d (aq A 0) 0 + 999) / 1000) - abd (lwf A) (aq A) d (aq A 0) 0) else abv1 (lwf A) (aq A) d (z - 2))) ∧ S = S' ∧ CR E S B I' A ∧ FrC B I' I L' L) 0 0) 0 0 S I L 54 [(0, .ref B), (1, .int (nI d)), (2, .int (nI z))] [] := by
      intro z hz hw
      refine V_aload_n (pc := 54) dX11_about_54 rfl ?_
      refine V_getR (pc := 55) 11 6 dX11_about_55 flX11_22 (by decide) h11.o h11.R6 ?_
      refine V_aload_n (pc := 58) dX11_about_58 rfl ?_
      refine V_getR (pc := 59) 11 0 dX11_about_59 flX11_91 (by decide) h11.o h11.R0 ?_
      refine V_aload_n (pc := 62) dX11_about_62 rfl ?_
      refine V_getR (pc := 63) 11 3 dX11_about_63 flX11_95 (by decide) h11.o h11.R3 ?_
      refine V_callV (pc := 66) (ci := 4) (c_X4_gather h11 hR hA) dX11_about_66 mlX11_303 mkX4_gather rfl rfl h11.O6.o ⟨by decide, rfl⟩ ⟨Nat.le_of_ble_eq_true rfl, Nat.le_of_ble_eq_true rfl⟩ (Nat.le_of_ble_eq_true rfl) ⟨Nat.le_of_ble_eq_true rfl, Nat.le_of_ble_eq_true rfl⟩ (fun r S' I' L' hp => ?_)
      obtain ⟨rfl, rfl, rfl, hF, hG⟩ := hp
      have hRJ := hR.dd hF.dd
      refine V_aload_n (pc := 69) dX11_about_69 rfl ?_
      refine V_getR (pc := 70) 11 6 dX11_about_70 flX11_22 (by decide) h11.o h11.R6 ?_
      refine V_aload_n (pc := 73) dX11_about_73 rfl ?_
      refine V_getR (pc := 74) 11 0 dX11_about_74 flX11_91 (by decide) h11.o h11.R0 ?_
      refine V_getR (pc := 77) 10 0 dX11_about_77 flX11_116 (by decide) h11.O0.o h11.O0.R0 ?_
      refine V_getIE (pc := 80) 9 0 dX11_about_80 flX11_120 (by decide) h11.O0.O0.o (hRJ.1.1.1) ?_
      refine V_iload_n (pc := 83) dX11_about_83 rfl ?_
      refine V_callV (pc := 84) (ci := 4) (c_X4_matchAbout h11.O6 hq hG hd) dX11_about_84 mlX11_314 mkX4_matchAbout rfl rfl h11.O6.o ⟨by decide, rfl⟩ ⟨Nat.le_of_ble_eq_true rfl, Nat.le_of_ble_eq_true rfl⟩ (Nat.le_of_ble_eq_true rfl) ⟨Nat.le_of_ble_eq_true rfl, Nat.le_of_ble_eq_true rfl⟩ (fun r S' I' L' hp => ?_)
      obtain ⟨rfl, rfl, rfl, hF2, h5, hrow⟩ := hp
      have hD : DdC B I' I := hF.dd.tr (DdC.of fun x hx => hF2 x (by unfold lvC at hx; omega) (by unfold lvC at hx; omega))
      have hRK := hR.dd hD
      have hFr : FrC B I' I L L := hD.Fr
      skip
      have hc : z = 0 ∨ z = 1 ∨ 2 ≤ z := by omega
      rcases hc with rfl | rfl | h2
      · skip
        refine V_iload_n (pc := 87) dX11_about_87 rfl ?_
        refine V_lookup (pc := 88) (off := 28) (tgt := 116) dX11_about_88 (by decide) (by decide) (by decide) ?_
        refine V_aload_n (pc := 116) dX11_about_116 rfl ?_
        refine V_getR (pc := 117) 11 6 dX11_about_117 flX11_22 (by decide) h11.o h11.R6 ?_
        refine V_callVd (pc := 120) (ci := 4) (c_X4_matched h11.O6 (by omega) h5) dX11_about_120 mlX11_318 mkX4_matched rfl rfl h11.O6.o ⟨by decide, rfl⟩ ⟨Nat.le_of_ble_eq_true rfl, Nat.le_of_ble_eq_true rfl⟩ (Nat.le_of_ble_eq_true rfl) ⟨Nat.le_of_ble_eq_true rfl, Nat.le_of_ble_eq_true rfl⟩ ?_
        refine V_iret (pc := 123) dX11_about_123 rfl (by first | decide | omega) (by first | decide | omega) ?_
        exact ⟨rfl, rfl, hRK, hFr⟩
      · skip
        refine V_iload_n (pc := 87) dX11_about_87 rfl ?_
        refine V_lookup (pc := 88) (off := 36) (tgt := 124) dX11_about_88 (by decide) (by decide) (by decide) ?_
        refine V_aload_n (pc := 124) dX11_about_124 rfl ?_
        refine V_getR (pc := 125) 11 6 dX11_about_125 flX11_22 (by decide) h11.o h11.R6 ?_
        refine V_callVd (pc := 128) (ci := 4) (c_X4_differences h11.O6 (by omega) h5) dX11_about_128 mlX11_321 mkX4_differences rfl rfl h11.O6.o ⟨by decide, rfl⟩ ⟨Nat.le_of_ble_eq_true rfl, Nat.le_of_ble_eq_true rfl⟩ (Nat.le_of_ble_eq_true rfl) ⟨Nat.le_of_ble_eq_true rfl, Nat.le_of_ble_eq_true rfl⟩ ?_
        refine V_iret (pc := 131) dX11_about_131 rfl (by first | decide | omega) (by first | decide | omega) ?_
        exact ⟨rfl, rfl, hRK, hFr⟩
      · have hz2 := hw h2
        have e1 : abv1 (lwf A) (aq A) d (z - 2) = nI (if abs1 (lwf A) (aq A) d (abt1 (lwf A) (aq A) d (z - 2)) (z - 2) < aq A 1 then abs1 (lwf A) (aq A) d (abt1 (lwf A) (aq A) d (z - 2)) (z - 2) else 100) := by
          unfold abv1
          rw [if_neg (fun w => w hz2)]
          split <;> rfl
        rw [if_neg (by omega), if_neg (by omega), e1]
        refine V_iload_n (pc := 87) dX11_about_87 rfl ?_
        refine V_lookup (pc := 88) (off := 44) (tgt := 132) dX11_about_88 (by decide) (by rcases (by omega : z = 2 ∨ z = 3 ∨ z = 4 ∨ z = 5 ∨ z = 6 ∨ z = 7) with rfl | rfl | rfl | rfl | rfl | rfl <;> decide) (by decide) ?_
        refine V_aload_n (pc := 132) dX11_about_132 rfl ?_
        refine V_getR (pc := 133) 11 6 dX11_about_133 flX11_22 (by decide) h11.o h11.R6 ?_
        refine V_getR (pc := 136) 4 5 dX11_about_136 flX11_324 (by decide) h11.O6.o h11.O6.R5 ?_
        refine V_iload_n (pc := 139) dX11_about_139 rfl ?_
        refine V_iconst (pc := 140) (v := nI 2) dX11_about_140 (by decide) ?_
        refine V_isubN (pc := 141) dX11_about_141 (by omega) ?_
        refine V_ialoadE (pc := 142) dX11_about_142 h11.O6.A5 (by first | decide | omega) (by omega) (hrow (z - 2) (by omega)) ?_
        refine V_iret (pc := 143) dX11_about_143 rfl (by first | decide | omega) (by first | decide | omega) ?_
        exact ⟨rfl, rfl, hRK, hFr⟩
    by_cases hy : bnd y (aq A 0 + 2) = true
    · obtain ⟨z, hz, rfl⟩ := bnd_ex (by omega) hy
      rw [spAbout, if_pos ⟨hx, hy⟩, cln_nI (by omega), cln_nI (by omega)]
      by_cases h2 : 2 ≤ z
      · have hbx : bnd (nI (z - 2)) (aq A 0) = true := bnd_lt (by omega) (by omega)
        have hwe := hq.we (z - 2) (by omega)
        by_cases hw : aq A (68 + (z - 2)) = 0
        · skip
          refine V_iload_n (pc := 0) dX11_about_0 rfl ?_
          refine V_callSd (pc := 1) (c_X11_isYears) dX11_about_1 mlX11_175 mkX11_isYears rfl rfl ⟨Nat.le_of_ble_eq_true rfl, Nat.le_of_ble_eq_true rfl⟩ (Nat.le_of_ble_eq_true rfl) ⟨Nat.le_of_ble_eq_true rfl, Nat.le_of_ble_eq_true rfl⟩ ?_
          refine V_if_eqB (pc := 4) (tgt := 11) dX11_about_4 (by decide) (fun c4 => absurd c4 (by rw [hx]; decide)) (fun n4 => ?_)
          refine V_iload_n (pc := 7) dX11_about_7 rfl ?_
          refine V_if_geN (pc := 8) (tgt := 13) dX11_about_8 (by decide) (by omega) ?_
          refine V_iload_n (pc := 13) dX11_about_13 rfl ?_
          refine V_iconst (pc := 14) (v := nI 2) dX11_about_14 (by decide) ?_
          refine V_icmp_ltN (pc := 15) (tgt := 54) dX11_about_15 (by decide) (by omega) (by omega) (fun c15 => absurd c15 (by omega)) (fun n15 => ?_)
          refine V_aload_n (pc := 18) dX11_about_18 rfl ?_
          refine V_getR (pc := 19) 11 0 dX11_about_19 flX11_91 (by decide) h11.o h11.R0 ?_
          refine V_getR (pc := 22) 10 0 dX11_about_22 flX11_116 (by decide) h11.O0.o h11.O0.R0 ?_
          refine V_iload_n (pc := 25) dX11_about_25 rfl ?_
          refine V_iconst (pc := 26) (v := nI 2) dX11_about_26 (by decide) ?_
          refine V_isubN (pc := 27) dX11_about_27 (by omega) ?_
          refine V_callVd (pc := 28) (ci := 9) (c_X9_hasBox h11.O0.O0 hR.1.1 hq) dX11_about_28 mlX11_140 mkX9_hasBox rfl rfl h11.O0.O0.o ⟨by decide, rfl⟩ ⟨Nat.le_of_ble_eq_true rfl, Nat.le_of_ble_eq_true rfl⟩ (Nat.le_of_ble_eq_true rfl) ⟨Nat.le_of_ble_eq_true rfl, Nat.le_of_ble_eq_true rfl⟩ ?_
          refine V_if_eqB (pc := 31) (tgt := 52) dX11_about_31 (by decide) (fun c31 => absurd c31 (by rw [hbx]; decide)) (fun n31 => ?_)
          refine V_aload_n (pc := 34) dX11_about_34 rfl ?_
          refine V_getR (pc := 35) 11 0 dX11_about_35 flX11_91 (by decide) h11.o h11.R0 ?_
          refine V_getR (pc := 38) 10 0 dX11_about_38 flX11_116 (by decide) h11.O0.o h11.O0.R0 ?_
          refine V_getR (pc := 41) 9 4 dX11_about_41 flX11_150 (by decide) h11.O0.O0.o h11.O0.O0.R4 ?_
          refine V_iload_n (pc := 44) dX11_about_44 rfl ?_
          refine V_iconst (pc := 45) (v := nI 2) dX11_about_45 (by decide) ?_
          refine V_isubN (pc := 46) dX11_about_46 (by omega) ?_
          refine V_ialoadE (pc := 47) dX11_about_47 h11.O0.O0.A4 (by first | decide | omega) (by omega) (hR.1.1.2.2.2.2.1 (z - 2) (by omega)) ?_
          refine V_iconst (pc := 48) (v := (-1)) dX11_about_48 (by decide) ?_
          refine V_icmp_eq (pc := 49) (tgt := 54) dX11_about_49 (by decide) (fun c49 => ?_) (fun n49 => absurd n49 (by exact fun w => w ((pred1_none (by omega)).mpr hw)))
          exact go z hz (fun _ => hw)
        · rw [if_neg (by omega), if_neg (by omega), abv1, if_pos hw]
          refine V_iload_n (pc := 0) dX11_about_0 rfl ?_
          refine V_callSd (pc := 1) (c_X11_isYears) dX11_about_1 mlX11_175 mkX11_isYears rfl rfl ⟨Nat.le_of_ble_eq_true rfl, Nat.le_of_ble_eq_true rfl⟩ (Nat.le_of_ble_eq_true rfl) ⟨Nat.le_of_ble_eq_true rfl, Nat.le_of_ble_eq_true rfl⟩ ?_
          refine V_if_eqB (pc := 4) (tgt := 11) dX11_about_4 (by decide) (fun c4 => absurd c4 (by rw [hx]; decide)) (fun n4 => ?_)
          refine V_iload_n (pc := 7) dX11_about_7 rfl ?_
          refine V_if_geN (pc := 8) (tgt := 13) dX11_about_8 (by decide) (by omega) ?_
          refine V_iload_n (pc := 13) dX11_about_13 rfl ?_
          refine V_iconst (pc := 14) (v := nI 2) dX11_about_14 (by decide) ?_
          refine V_icmp_ltN (pc := 15) (tgt := 54) dX11_about_15 (by decide) (by omega) (by omega) (fun c15 => absurd c15 (by omega)) (fun n15 => ?_)
          refine V_aload_n (pc := 18) dX11_about_18 rfl ?_
          refine V_getR (pc := 19) 11 0 dX11_about_19 flX11_91 (by decide) h11.o h11.R0 ?_
          refine V_getR (pc := 22) 10 0 dX11_about_22 flX11_116 (by decide) h11.O0.o h11.O0.R0 ?_
          refine V_iload_n (pc := 25) dX11_about_25 rfl ?_
          refine V_iconst (pc := 26) (v := nI 2) dX11_about_26 (by decide) ?_
          refine V_isubN (pc := 27) dX11_about_27 (by omega) ?_
          refine V_callVd (pc := 28) (ci := 9) (c_X9_hasBox h11.O0.O0 hR.1.1 hq) dX11_about_28 mlX11_140 mkX9_hasBox rfl rfl h11.O0.O0.o ⟨by decide, rfl⟩ ⟨Nat.le_of_ble_eq_true rfl, Nat.le_of_ble_eq_true rfl⟩ (Nat.le_of_ble_eq_true rfl) ⟨Nat.le_of_ble_eq_true rfl, Nat.le_of_ble_eq_true rfl⟩ ?_
          refine V_if_eqB (pc := 31) (tgt := 52) dX11_about_31 (by decide) (fun c31 => absurd c31 (by rw [hbx]; decide)) (fun n31 => ?_)
          refine V_aload_n (pc := 34) dX11_about_34 rfl ?_
          refine V_getR (pc := 35) 11 0 dX11_about_35 flX11_91 (by decide) h11.o h11.R0 ?_
          refine V_getR (pc := 38) 10 0 dX11_about_38 flX11_116 (by decide) h11.O0.o h11.O0.R0 ?_
          refine V_getR (pc := 41) 9 4 dX11_about_41 flX11_150 (by decide) h11.O0.O0.o h11.O0.O0.R4 ?_
          refine V_iload_n (pc := 44) dX11_about_44 rfl ?_
          refine V_iconst (pc := 45) (v := nI 2) dX11_about_45 (by decide) ?_
          refine V_isubN (pc := 46) dX11_about_46 (by omega) ?_
          refine V_ialoadE (pc := 47) dX11_about_47 h11.O0.O0.A4 (by first | decide | omega) (by omega) (hR.1.1.2.2.2.2.1 (z - 2) (by omega)) ?_
          refine V_iconst (pc := 48) (v := (-1)) dX11_about_48 (by decide) ?_
          refine V_icmp_eq (pc := 49) (tgt := 54) dX11_about_49 (by decide) (fun c49 => absurd c49 (by exact fun w => hw ((pred1_none (by omega)).mp w))) (fun n49 => ?_)
          refine V_iconst (pc := 52) (v := (-1)) dX11_about_52 (by decide) ?_
          refine V_iret (pc := 53) dX11_about_53 rfl (by first | decide | omega) (by first | decide | omega) ?_
          exact ⟨rfl, rfl, hR, FrC.rf⟩
      · skip
        refine V_iload_n (pc := 0) dX11_about_0 rfl ?_
        refine V_callSd (pc := 1) (c_X11_isYears) dX11_about_1 mlX11_175 mkX11_isYears rfl rfl ⟨Nat.le_of_ble_eq_true rfl, Nat.le_of_ble_eq_true rfl⟩ (Nat.le_of_ble_eq_true rfl) ⟨Nat.le_of_ble_eq_true rfl, Nat.le_of_ble_eq_true rfl⟩ ?_
        refine V_if_eqB (pc := 4) (tgt := 11) dX11_about_4 (by decide) (fun c4 => absurd c4 (by rw [hx]; decide)) (fun n4 => ?_)
        refine V_iload_n (pc := 7) dX11_about_7 rfl ?_
        refine V_if_geN (pc := 8) (tgt := 13) dX11_about_8 (by decide) (by omega) ?_
        refine V_iload_n (pc := 13) dX11_about_13 rfl ?_
        refine V_iconst (pc := 14) (v := nI 2) dX11_about_14 (by decide) ?_
        refine V_icmp_ltN (pc := 15) (tgt := 54) dX11_about_15 (by decide) (by omega) (by omega) (fun c15 => ?_) (fun n15 => absurd n15 (by omega))
        exact go z hz (fun w => absurd w h2)
    · rw [spAbout, if_neg (fun z => hy z.2)]
      refine V_iload_n (pc := 0) dX11_about_0 rfl ?_
      refine V_callSd (pc := 1) (c_X11_isYears) dX11_about_1 mlX11_175 mkX11_isYears rfl rfl ⟨Nat.le_of_ble_eq_true rfl, Nat.le_of_ble_eq_true rfl⟩ (Nat.le_of_ble_eq_true rfl) ⟨Nat.le_of_ble_eq_true rfl, Nat.le_of_ble_eq_true rfl⟩ ?_
      refine V_if_eqB (pc := 4) (tgt := 11) dX11_about_4 (by decide) (fun c4 => absurd c4 (by rw [hx]; decide)) (fun n4 => ?_)
      refine V_iload_n (pc := 7) dX11_about_7 rfl ?_
      refine V_if_ge (pc := 8) (tgt := 13) dX11_about_8 (by decide) (fun c8 => ?_) (fun n8 => ?_)
      · skip
        refine V_iload_n (pc := 13) dX11_about_13 rfl ?_
        refine V_iconst (pc := 14) (v := nI 2) dX11_about_14 (by decide) ?_
        refine V_icmp_lt (pc := 15) (tgt := 54) dX11_about_15 (by decide) (fun c15 => absurd c15 (by exact fun w => hy (ab_lo c8 w))) (fun n15 => ?_)
        refine V_aload_n (pc := 18) dX11_about_18 rfl ?_
        refine V_getR (pc := 19) 11 0 dX11_about_19 flX11_91 (by decide) h11.o h11.R0 ?_
        refine V_getR (pc := 22) 10 0 dX11_about_22 flX11_116 (by decide) h11.O0.o h11.O0.R0 ?_
        refine V_iload_n (pc := 25) dX11_about_25 rfl ?_
        refine V_iconst (pc := 26) (v := nI 2) dX11_about_26 (by decide) ?_
        refine V_isub (pc := 27) dX11_about_27 ?_
        refine V_callVd (pc := 28) (ci := 9) (c_X9_hasBox h11.O0.O0 hR.1.1 hq) dX11_about_28 mlX11_140 mkX9_hasBox rfl rfl h11.O0.O0.o ⟨by decide, rfl⟩ ⟨Nat.le_of_ble_eq_true rfl, Nat.le_of_ble_eq_true rfl⟩ (Nat.le_of_ble_eq_true rfl) ⟨Nat.le_of_ble_eq_true rfl, Nat.le_of_ble_eq_true rfl⟩ ?_
        refine V_if_eqB (pc := 31) (tgt := 52) dX11_about_31 (by decide) (fun c31 => ?_) (fun n31 => absurd n31 (by exact fun w => hy (ab_in (by omega) w)))
        refine V_iconst (pc := 52) (v := (-1)) dX11_about_52 (by decide) ?_
        refine V_iret (pc := 53) dX11_about_53 rfl (by first | decide | omega) (by first | decide | omega) ?_
        exact ⟨rfl, rfl, hR, FrC.rf⟩
      · skip
        refine V_iconst (pc := 11) (v := (-1)) dX11_about_11 (by decide) ?_
        refine V_iret (pc := 12) dX11_about_12 rfl (by first | decide | omega) (by first | decide | omega) ?_
        exact ⟨rfl, rfl, hR, FrC.rf⟩
  · rw [spAbout, if_neg (fun z => hx z.1)]
    refine V_iload_n (pc := 0) dX11_about_0 rfl ?_
    refine V_callSd (pc := 1) (c_X11_isYears) dX11_about_1 mlX11_175 mkX11_isYears rfl rfl ⟨Nat.le_of_ble_eq_true rfl, Nat.le_of_ble_eq_true rfl⟩ (Nat.le_of_ble_eq_true rfl) ⟨Nat.le_of_ble_eq_true rfl, Nat.le_of_ble_eq_true rfl⟩ ?_
    refine V_if_eqB (pc := 4) (tgt := 11) dX11_about_4 (by decide) (fun c4 => ?_) (fun n4 => absurd n4 (by exact fun z => hx z))
    refine V_iconst (pc := 11) (v := (-1)) dX11_about_11 (by decide) ?_
    refine V_iret (pc := 12) dX11_about_12 rfl (by first | decide | omega) (by first | decide | omega) ?_
    exact ⟨rfl, rfl, hR, FrC.rf⟩
end CZ2
