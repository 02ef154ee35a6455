/-! THE REFERENCE: keep, its answers -/
theorem mn0_s (f : Nat → Nat) (n : Nat) : mn0 f (n + 1) = if f n < mn0 f n then f n else mn0 f n := rfl
theorem and255 {a : Nat} (h : a < 256) : 255 &&& a = a := by
  rw [Nat.and_comm, show (255 : Nat) = 2 ^ 8 - 1 from rfl, Nat.and_two_pow_sub_one_eq_mod]
  exact Nat.mod_eq_of_lt h
section MK2
variable {E : EnT} {S : ST} {I : IT} {L : LT} {o : Nat} {A : AT}
theorem lp_kp0 (h12 : Lay12 E S o) {Q : QT} {p : Nat → Nat} {b d : Nat} {z : Int32} (hM : MoM I o p d 0 0) (hk : V E kX12_keep (rmOf 3 0 0) Q 0 0 S I L 93 [(0, .ref o), (1, .int (nI b)), (2, .int (nI d)), (3, .int z), (4, .int (nI (mn0 (mor p d 7) 256))), (5, .int (nI 256))] []) : V E kX12_keep (rmOf 3 0 0) Q 0 0 S I L 53 [(0, .ref o), (1, .int (nI b)), (2, .int (nI d)), (3, .int z), (4, .int (nI 100000000)), (5, .int (nI 0))] [] := by
  refine loopUp (P := fun n => V E kX12_keep (rmOf 3 0 0) Q 0 0 S I L 53 [(0, .ref o), (1, .int (nI b)), (2, .int (nI d)), (3, .int z), (4, .int (nI (mn0 (mor p d 7) n))), (5, .int (nI n))] []) (n := 256) ?_ ?_ 0 (by omega)
  · skip
    refine V_iload (pc := 53) dX12_keep_53 rfl ?_
    refine V_sipush (pc := 55) (v := nI 256) dX12_keep_55 (by decide) ?_
    refine V_icmp_geN (pc := 58) (tgt := 93) dX12_keep_58 (by decide) (by omega) (by omega) (fun c58 => ?_) (fun n58 => absurd n58 (by omega))
    exact hk
  · intro n hn ih
    have h27 : I (o + 27) n = nI (mor p d 7 n) := by have := hM 0 n (by omega) hn (by omega); rw [show 256 * 0 + n = n by omega] at this; exact this
    have h1 := mor_le p d 7 n
    have h2 := mn0_far (mor p d 7) n
    unfold FARN at h1 h2
    rw [mn0_s (mor p d 7) n] at ih
    refine V_iload (pc := 53) dX12_keep_53 rfl ?_
    refine V_sipush (pc := 55) (v := nI 256) dX12_keep_55 (by decide) ?_
    refine V_icmp_geN (pc := 58) (tgt := 93) dX12_keep_58 (by decide) (by omega) (by omega) (fun c58 => absurd c58 (by omega)) (fun n58 => ?_)
    refine V_aload_n (pc := 61) dX12_keep_61 rfl ?_
    refine V_getR (pc := 62) 12 47 dX12_keep_62 flX12_128 (by decide) h12.o h12.R47 ?_
    refine V_iload (pc := 65) dX12_keep_65 rfl ?_
    refine V_ialoadE (pc := 67) dX12_keep_67 h12.A47 (by first | decide | omega) (by omega) (h27) ?_
    refine V_iload (pc := 68) dX12_keep_68 rfl ?_
    refine V_icmp_geN (pc := 70) (tgt := 83) dX12_keep_70 (by decide) (by omega) (by omega) (fun c70 => ?_) (fun n70 => ?_)
    · skip
      rw [if_neg (by omega)] at ih
      refine V_iload (pc := 83) dX12_keep_83 rfl ?_
      refine V_istore (pc := 85) (ls' := [(0, _), (1, _), (2, _), (3, _), (4, _), (5, _)]) dX12_keep_85 (by decide) rfl ?_
      refine V_iinc1 (pc := 87) (ls' := [(0, _), (1, _), (2, _), (3, _), (4, _), (5, _)]) dX12_keep_87 rfl (by decide) rfl ?_
      refine V_goto (pc := 90) (tgt := 53) dX12_keep_90 (by decide) ?_
      exact ih
    · skip
      rw [if_pos (by omega)] at ih
      refine V_aload_n (pc := 73) dX12_keep_73 rfl ?_
      refine V_getR (pc := 74) 12 47 dX12_keep_74 flX12_128 (by decide) h12.o h12.R47 ?_
      refine V_iload (pc := 77) dX12_keep_77 rfl ?_
      refine V_ialoadE (pc := 79) dX12_keep_79 h12.A47 (by first | decide | omega) (by omega) (h27) ?_
      refine V_goto (pc := 80) (tgt := 85) dX12_keep_80 (by decide) ?_
      refine V_istore (pc := 85) (ls' := [(0, _), (1, _), (2, _), (3, _), (4, _), (5, _)]) dX12_keep_85 (by decide) rfl ?_
      refine V_iinc1 (pc := 87) (ls' := [(0, _), (1, _), (2, _), (3, _), (4, _), (5, _)]) dX12_keep_87 rfl (by decide) rfl ?_
      refine V_goto (pc := 90) (tgt := 53) dX12_keep_90 (by decide) ?_
      exact ih
theorem lp_kp1 (h12 : Lay12 E S o) {Q : QT} {p : Nat → Nat} {b d k l ah : Nat} {z v5 : Int32} (hM : MoM I o p d 0 0) (hk8 : k < 8) (hd : d < 9) (hl : l ≤ 64) (ha : ah < 256) (hk : V E kX12_keep (rmOf 3 0 0) Q 0 0 S I L 154 [(0, .ref o), (1, .int (nI b)), (2, .int (nI d)), (3, .int z), (4, .int (nI l)), (5, .int v5), (6, .int (nI ah)), (7, .int (nI k)), (8, .int (nI (fst1 (kpp p d k l ah) 0 256)))] []) (hex : ∃ u, u < 256 ∧ kpp p d k l ah u = true) : V E kX12_keep (rmOf 3 0 0) Q 0 0 S I L 112 [(0, .ref o), (1, .int (nI b)), (2, .int (nI d)), (3, .int z), (4, .int (nI l)), (5, .int v5), (6, .int (nI ah)), (7, .int (nI k)), (8, .int (nI 0))] [] := by
  obtain ⟨u, hu, hpu⟩ := hex
  have key : ∀ m s, s + m = 256 → s ≤ u → V E kX12_keep (rmOf 3 0 0) Q 0 0 S I L 154 [(0, .ref o), (1, .int (nI b)), (2, .int (nI d)), (3, .int z), (4, .int (nI l)), (5, .int v5), (6, .int (nI ah)), (7, .int (nI k)), (8, .int (nI (fst1 (kpp p d k l ah) s m)))] [] → V E kX12_keep (rmOf 3 0 0) Q 0 0 S I L 112 [(0, .ref o), (1, .int (nI b)), (2, .int (nI d)), (3, .int z), (4, .int (nI l)), (5, .int v5), (6, .int (nI ah)), (7, .int (nI k)), (8, .int (nI s))] [] := by
    intro m
    induction m with
    | zero => intro s hs hsu; omega
    | succ m ih =>
      intro s hs hsu hk
      have h27 := hM k s hk8 (by omega) (by omega)
      have h1 := mor_le p d (7 - k) s
      unfold FARN at h1
      have hx := xor256 ha (show s < 256 by omega)
      have hp8 := pop8_le (ah ^^^ s)
      rw [fst1] at hk
      have no : ¬ kpp p d k l ah s = true → V E kX12_keep (rmOf 3 0 0) Q 0 0 S I L 112 [(0, .ref o), (1, .int (nI b)), (2, .int (nI d)), (3, .int z), (4, .int (nI l)), (5, .int v5), (6, .int (nI ah)), (7, .int (nI k)), (8, .int (nI (s + 1)))] [] := fun hn => by
        rw [if_neg hn] at hk
        exact ih (s + 1) (by omega) (by rcases Nat.lt_or_ge s u with w | w; exact w; exact absurd (by rw [show s = u by omega]; exact hpu) hn) hk
      refine V_aload_n (pc := 112) dX12_keep_112 rfl ?_
      refine V_getR (pc := 113) 12 47 dX12_keep_113 flX12_128 (by decide) h12.o h12.R47 ?_
      refine V_sipush (pc := 116) (v := nI 256) dX12_keep_116 (by decide) ?_
      refine V_iload (pc := 119) dX12_keep_119 rfl ?_
      refine V_imulN (pc := 121) dX12_keep_121 ?_
      refine V_iload (pc := 122) dX12_keep_122 rfl ?_
      refine V_iaddN (pc := 124) dX12_keep_124 ?_
      refine V_ialoadE (pc := 125) dX12_keep_125 h12.A47 (by first | decide | omega) (by omega) (h27) ?_
      refine V_iload (pc := 126) dX12_keep_126 rfl ?_
      refine V_icmp_neN (pc := 128) (tgt := 148) dX12_keep_128 (by decide) (by omega) (by omega) (fun c128 => ?_) (fun n128 => ?_)
      · skip
        refine V_iinc1 (pc := 148) (ls' := [(0, _), (1, _), (2, _), (3, _), (4, _), (5, _), (6, _), (7, _), (8, _)]) dX12_keep_148 rfl (by decide) rfl ?_
        refine V_goto (pc := 151) (tgt := 112) dX12_keep_151 (by decide) ?_
        first
        | exact no (by unfold kpp; rw [decide_eq_false c128, Bool.false_and]; decide)
        | exact no (by unfold kpp; rw [decide_eq_false n133, decide_eq_false n145, Bool.or_false, Bool.and_false]; decide)
      · skip
        refine V_iload (pc := 131) dX12_keep_131 rfl ?_
        refine V_if_leN (pc := 133) (tgt := 154) dX12_keep_133 (by decide) (by omega) (fun c133 => ?_) (fun n133 => ?_)
        · skip
          first
          | (rw [if_pos (by unfold kpp; rw [decide_eq_true n128, decide_eq_true c133]; rfl)] at hk; exact hk)
          | (rw [if_pos (by unfold kpp; rw [decide_eq_true n128, decide_eq_true c145, Bool.or_true]; rfl)] at hk; exact hk)
        · skip
          refine V_iload (pc := 136) dX12_keep_136 rfl ?_
          refine V_iload (pc := 138) dX12_keep_138 rfl ?_
          refine V_ixorN (pc := 140) dX12_keep_140 ?_
          refine V_callSd (pc := 141) (c_X12_ones (by first | assumption | omega)) dX12_keep_141 mlX12_208 mkX12_ones rfl rfl ⟨Nat.le_of_ble_eq_true rfl, Nat.le_of_ble_eq_true rfl⟩ (Nat.le_of_ble_eq_true rfl) ⟨Nat.le_of_ble_eq_true rfl, Nat.le_of_ble_eq_true rfl⟩ ?_
          refine V_iload_n (pc := 144) dX12_keep_144 rfl ?_
          refine V_icmp_leN (pc := 145) (tgt := 154) dX12_keep_145 (by decide) (by omega) (by omega) (fun c145 => ?_) (fun n145 => ?_)
          · skip
            first
            | (rw [if_pos (by unfold kpp; rw [decide_eq_true n128, decide_eq_true c133]; rfl)] at hk; exact hk)
            | (rw [if_pos (by unfold kpp; rw [decide_eq_true n128, decide_eq_true c145, Bool.or_true]; rfl)] at hk; exact hk)
          · skip
            refine V_iinc1 (pc := 148) (ls' := [(0, _), (1, _), (2, _), (3, _), (4, _), (5, _), (6, _), (7, _), (8, _)]) dX12_keep_148 rfl (by decide) rfl ?_
            refine V_goto (pc := 151) (tgt := 112) dX12_keep_151 (by decide) ?_
            first
            | exact no (by unfold kpp; rw [decide_eq_false c128, Bool.false_and]; decide)
            | exact no (by unfold kpp; rw [decide_eq_false n133, decide_eq_false n145, Bool.or_false, Bool.and_false]; decide)
  exact key 256 0 (by omega) (Nat.zero_le u) hk
theorem lp_kp2 (h12 : Lay12 E S o) {q : Nat → Nat} {b d : Nat} {z : Int32} {post : Option Value → ST → IT → LT → Prop} (hr : RowM I (o + 2) q) (hq : wq q) (hb : b < 6) (hd : d < 9) (hz : z = -1 ∨ bnd z 8 = true) (hM : MoM I o (pn q b) d 0 0) (hp : post (some (.int (if z = -1 then nI (kpa (pn q b) d 0).1 else nI (kpa (pn q b) d (cln z + 1)).2))) S I L) : V E kX12_keep (rmOf 3 0 0) (QM E post 0 0) 0 0 S I L 103 [(0, .ref o), (1, .int (nI b)), (2, .int (nI d)), (3, .int z), (4, .int (nI (mn0 (mor (pn q b) d 7) 256))), (5, .int (nI (mn0 (mor (pn q b) d 7) 256))), (6, .int (nI 0)), (7, .int (nI 0))] [] := by
  have hpn : ∀ j, j < 8 → 255 &&& pn q b j = pn q b j := fun j hj => and255 (hq.pi b j hb hj)
  rcases hz with hz | hz
  · subst hz
    rw [if_pos rfl, kpa] at hp
    generalize mn0 (mor (pn q b) d 7) 256 = l at hp ⊢
    refine V_iload (pc := 103) dX12_keep_103 rfl ?_
    refine V_iload_n (pc := 105) dX12_keep_105 rfl ?_
    refine V_icmp_gt (pc := 106) (tgt := 197) dX12_keep_106 (by decide) (fun c106 => ?_) (fun n106 => absurd n106 (by exact fun z => z (by decide)))
    refine V_iload (pc := 197) dX12_keep_197 rfl ?_
    refine V_iret (pc := 199) dX12_keep_199 rfl (by first | decide | omega) (by first | decide | omega) ?_
    exact hp
  · obtain ⟨j, hj, e⟩ := bnd_ex (by omega) hz
    subst e
    rw [if_neg (fun w => absurd (by rw [w]; decide : nI j < 0) (nI_pos (by omega))), cln_nI (by omega)] at hp
    have key : ∀ k, k ≤ j + 1 → ∀ v5, (0 < k → v5 = nI (kpa (pn q b) d k).2) → V E kX12_keep (rmOf 3 0 0) (QM E post 0 0) 0 0 S I L 103 [(0, .ref o), (1, .int (nI b)), (2, .int (nI d)), (3, .int (nI j)), (4, .int (nI (kpa (pn q b) d k).1)), (5, .int v5), (6, .int (nI (kpa (pn q b) d k).2)), (7, .int (nI k))] [] := by
      refine loopUp ?_ ?_
      · intro v5 h5
        rw [h5 (by omega)]
        refine V_iload (pc := 103) dX12_keep_103 rfl ?_
        refine V_iload_n (pc := 105) dX12_keep_105 rfl ?_
        refine V_icmp_gtN (pc := 106) (tgt := 197) dX12_keep_106 (by decide) (by omega) (by omega) (fun c106 => ?_) (fun n106 => absurd n106 (by omega))
        refine V_iload (pc := 197) dX12_keep_197 rfl ?_
        refine V_iret (pc := 199) dX12_keep_199 rfl (by first | decide | omega) (by first | decide | omega) ?_
        exact hp
      · intro k hk ih v5 h5
        have hok := kpa_ok (d := d) hpn k (by omega)
        have hsb := kpa_sub (d := d) hpn (show k < 8 by omega)
        have h1 := hok.2.1
        have hpl := pop8_le (fst1 (kpp (pn q b) d k (kpa (pn q b) d k).1 (kpa (pn q b) d k).2) 0 256)
        have hpk := hq.pi b k hb (by omega)
        have ih' := ih _ (fun _ => rfl)
        rw [kpa] at ih'
        refine V_iload (pc := 103) dX12_keep_103 rfl ?_
        refine V_iload_n (pc := 105) dX12_keep_105 rfl ?_
        refine V_icmp_gtN (pc := 106) (tgt := 197) dX12_keep_106 (by decide) (by omega) (by omega) (fun c106 => absurd c106 (by omega)) (fun n106 => ?_)
        refine V_iconst (pc := 109) (v := nI 0) dX12_keep_109 (by decide) ?_
        refine V_istore (pc := 110) (ls' := [(0, _), (1, _), (2, _), (3, _), (4, _), (5, _), (6, _), (7, _), (8, _)]) dX12_keep_110 (by decide) rfl ?_
        refine lp_kp1 h12 hM (by omega) hd hok.2.1 hok.2.2 ?_ hok.1
        refine V_iload (pc := 154) dX12_keep_154 rfl ?_
        refine V_iload (pc := 156) dX12_keep_156 rfl ?_
        refine V_callSd (pc := 158) (c_X12_ones (by first | assumption | omega)) dX12_keep_158 mlX12_208 mkX12_ones rfl rfl ⟨Nat.le_of_ble_eq_true rfl, Nat.le_of_ble_eq_true rfl⟩ (Nat.le_of_ble_eq_true rfl) ⟨Nat.le_of_ble_eq_true rfl, Nat.le_of_ble_eq_true rfl⟩ ?_
        refine V_aload_n (pc := 161) dX12_keep_161 rfl ?_
        refine V_getR (pc := 162) 12 3 dX12_keep_162 flX12_13 (by decide) h12.o h12.R3 ?_
        refine V_bipush (pc := 165) (v := nI 8) dX12_keep_165 (by decide) ?_
        refine V_bipush (pc := 167) (v := nI 8) dX12_keep_167 (by decide) ?_
        refine V_iload_n (pc := 169) dX12_keep_169 rfl ?_
        refine V_imulN (pc := 170) dX12_keep_170 ?_
        refine V_iaddN (pc := 171) dX12_keep_171 ?_
        refine V_iload (pc := 172) dX12_keep_172 rfl ?_
        refine V_iaddN (pc := 174) dX12_keep_174 ?_
        refine V_ialoadE (pc := 175) dX12_keep_175 h12.A3 (by first | decide | omega) (by omega) (show (_ : Int32) = nI (pn q b k) from hr.n (by omega)) ?_
        refine V_callSd (pc := 176) (c_X12_ones (by show q (8 + 8 * b + k) < 2 ^ 31; omega)) dX12_keep_176 mlX12_208 mkX12_ones rfl rfl ⟨Nat.le_of_ble_eq_true rfl, Nat.le_of_ble_eq_true rfl⟩ (Nat.le_of_ble_eq_true rfl) ⟨Nat.le_of_ble_eq_true rfl, Nat.le_of_ble_eq_true rfl⟩ ?_
        refine V_isubN (pc := 179) dX12_keep_179 (by omega) ?_
        refine V_isubN (pc := 180) dX12_keep_180 (by omega) ?_
        refine V_istore (pc := 181) (ls' := [(0, _), (1, _), (2, _), (3, _), (4, _), (5, _), (6, _), (7, _), (8, _)]) dX12_keep_181 (by decide) rfl ?_
        refine V_iload (pc := 183) dX12_keep_183 rfl ?_
        refine V_istore (pc := 185) (ls' := [(0, _), (1, _), (2, _), (3, _), (4, _), (5, _), (6, _), (7, _), (8, _)]) dX12_keep_185 (by decide) rfl ?_
        refine V_iload (pc := 187) dX12_keep_187 rfl ?_
        refine V_istore (pc := 189) (ls' := [(0, _), (1, _), (2, _), (3, _), (4, _), (5, _), (6, _), (7, _), (8, _)]) dX12_keep_189 (by decide) rfl ?_
        refine V_loc [0, 1, 2, 3, 4, 5, 6, 7] rfl ?_
        refine V_iinc1 (pc := 191) (ls' := [(0, _), (1, _), (2, _), (3, _), (4, _), (5, _), (6, _), (7, _)]) dX12_keep_191 rfl (by decide) rfl ?_
        refine V_goto (pc := 194) (tgt := 103) dX12_keep_194 (by decide) ?_
        exact ih'
    have k0 := key 0 (by omega) (nI (mn0 (mor (pn q b) d 7) 256)) (fun h => absurd h (by omega))
    rw [kpa] at k0
    generalize mn0 (mor (pn q b) d 7) 256 = l at k0 ⊢
    exact k0
theorem c_X12_keep (h12 : Lay12 E S o) (hM : MR o I L A) (hA : wfA A) {x y z : Int32} : Cm E kX12_keep 3 [.ref o, .int x, .int y, .int z] S I L o (.int (spKeep A x y z)) A := by
  have hq := hA.q
  have hnb := hq.nb
  have e8 : decide (lN 0 ≤ y.toInt64 ∧ y.toInt64 ≤ (8 : Int64)) = bnd y 9 := bnd64' (n := 8) (by omega)
  refine C_of (by decide) (Nat.le_of_ble_eq_true rfl) ?_
  refine V_aload_n (pc := 0) dX12_keep_0 rfl ?_
  refine V_iconst (pc := 1) (v := nI 0) dX12_keep_1 (by decide) ?_
  refine V_putI (pc := 2) 12 0 dX12_keep_2 flX12_175 (by decide) (by decide) (Or.inl rfl) rfl rfl h12.o ?_
  have hM := hM.thrown (v := nI 0)
  have hF : FrM o (up2 I o 0 (nI 0)) I L L := FrM.rf.up (by omega)
  generalize up2 I o 0 (nI 0) = I0 at hM hF ⊢
  have hr := hM.row
  refine V_aload_n (pc := 5) dX12_keep_5 rfl ?_
  refine V_iload_n (pc := 6) dX12_keep_6 rfl ?_
  refine V_callVd (pc := 7) (ci := 12) (c_X12_isBox (by first | assumption | omega | exact h12) (by first | assumption | omega | exact h12) (by first | assumption | omega | exact h12)) dX12_keep_7 mlX12_213 mkX12_isBox rfl rfl h12.o ⟨by decide, rfl⟩ ⟨Nat.le_of_ble_eq_true rfl, Nat.le_of_ble_eq_true rfl⟩ (Nat.le_of_ble_eq_true rfl) ⟨Nat.le_of_ble_eq_true rfl, Nat.le_of_ble_eq_true rfl⟩ ?_
  refine V_if_eqB (pc := 10) (tgt := 37) dX12_keep_10 (by decide) (fun c10 => ?_) (fun n10 => ?_)
  · skip
    refine V_iconst (pc := 37) (v := (-1)) dX12_keep_37 (by decide) ?_
    refine V_iret (pc := 38) dX12_keep_38 rfl (by first | decide | omega) (by first | decide | omega) ?_
    first
    | (rw [spKeep, if_neg (fun w => by rw [w.1] at c10; exact absurd c10 (by decide))]; exact ⟨rfl, rfl, hM, hF⟩)
    | (rw [e8] at c22; rw [spKeep, if_neg (fun w => by rw [w.2.1] at c22; exact absurd c22 (by decide))]; exact ⟨rfl, rfl, hM, hF⟩)
    | (rw [spKeep, if_neg (fun w => w.2.2.elim n27 (fun w => by rw [w] at n34; exact absurd n34 (by decide)))]; exact ⟨rfl, rfl, hM, hF⟩)
  · skip
    refine V_iload_n (pc := 13) dX12_keep_13 rfl ?_
    refine V_i2l (pc := 14) dX12_keep_14 rfl ?_
    refine V_lconst (pc := 15) (v := lN 0) dX12_keep_15 (by decide) ?_
    refine V_ldc2 (pc := 16) dX12_keep_16 coX12_511 ?_
    refine V_callSd (pc := 19) (c_X12_in) dX12_keep_19 mlX12_195 mkX12_in rfl rfl ⟨Nat.le_of_ble_eq_true rfl, Nat.le_of_ble_eq_true rfl⟩ (Nat.le_of_ble_eq_true rfl) ⟨Nat.le_of_ble_eq_true rfl, Nat.le_of_ble_eq_true rfl⟩ ?_
    refine V_if_eqB (pc := 22) (tgt := 37) dX12_keep_22 (by decide) (fun c22 => ?_) (fun n22 => ?_)
    · skip
      refine V_iconst (pc := 37) (v := (-1)) dX12_keep_37 (by decide) ?_
      refine V_iret (pc := 38) dX12_keep_38 rfl (by first | decide | omega) (by first | decide | omega) ?_
      first
      | (rw [spKeep, if_neg (fun w => by rw [w.1] at c10; exact absurd c10 (by decide))]; exact ⟨rfl, rfl, hM, hF⟩)
      | (rw [e8] at c22; rw [spKeep, if_neg (fun w => by rw [w.2.1] at c22; exact absurd c22 (by decide))]; exact ⟨rfl, rfl, hM, hF⟩)
      | (rw [spKeep, if_neg (fun w => w.2.2.elim n27 (fun w => by rw [w] at n34; exact absurd n34 (by decide)))]; exact ⟨rfl, rfl, hM, hF⟩)
    · skip
      refine V_iload_n (pc := 25) dX12_keep_25 rfl ?_
      refine V_iconst (pc := 26) (v := (-1)) dX12_keep_26 (by decide) ?_
      refine V_icmp_eq (pc := 27) (tgt := 39) dX12_keep_27 (by decide) (fun c27 => ?_) (fun n27 => ?_)
      · skip
        rw [e8] at n22
        obtain ⟨b, hb, hx⟩ := bnd_ex (by omega) n10
        obtain ⟨d, hd, hy⟩ := bnd_ex (by omega) n22
        have hz : z = -1 ∨ bnd z 8 = true := by first | exact Or.inl c27 | exact Or.inr c34
        rw [spKeep, if_pos ⟨n10, n22, hz⟩]
        subst hx hy
        rw [cln_nI (by omega), cln_nI (by omega)]
        have hpn : ∀ j, j < 8 → 255 &&& pn (aq A) b j = pn (aq A) b j := fun j hj => and255 (hq.pi b j (by omega) hj)
        refine V_aload_n (pc := 39) dX12_keep_39 rfl ?_
        refine V_iload_n (pc := 40) dX12_keep_40 rfl ?_
        refine V_iload_n (pc := 41) dX12_keep_41 rfl ?_
        refine V_callV (pc := 42) (ci := 12) (c_X12_layMore h12 hr hq (by omega) (by omega)) dX12_keep_42 mlX12_513 mkX12_layMore rfl rfl h12.o ⟨by decide, rfl⟩ ⟨Nat.le_of_ble_eq_true rfl, Nat.le_of_ble_eq_true rfl⟩ (Nat.le_of_ble_eq_true rfl) ⟨Nat.le_of_ble_eq_true rfl, Nat.le_of_ble_eq_true rfl⟩ (fun r S' I' L' hp => ?_)
        obtain ⟨rfl, rfl, rfl, ha, hmo⟩ := hp
        have hm2 : MR o I' L A := hM.dead ⟨fun a ha' => ha a (by simp at ha'; omega), fun i hi => by rw [ha o (by omega)], fun _ _ => rfl⟩
        have hf2 : FrM o I' I L L := fun a h => ⟨by rw [ha a (by omega)]; exact (hF a h).1, rfl⟩
        refine V_ldcw (pc := 45) dX12_keep_45 coX12_487 ?_
        refine V_istore (pc := 48) (ls' := [(0, _), (1, _), (2, _), (3, _), (4, _)]) dX12_keep_48 (by decide) rfl ?_
        refine V_iconst (pc := 50) (v := nI 0) dX12_keep_50 (by decide) ?_
        refine V_istore (pc := 51) (ls' := [(0, _), (1, _), (2, _), (3, _), (4, _), (5, _)]) dX12_keep_51 (by decide) rfl ?_
        refine lp_kp0 h12 hmo ?_
        refine V_iload (pc := 93) dX12_keep_93 rfl ?_
        refine V_istore (pc := 95) (ls' := [(0, _), (1, _), (2, _), (3, _), (4, _), (5, _)]) dX12_keep_95 (by decide) rfl ?_
        refine V_iconst (pc := 97) (v := nI 0) dX12_keep_97 (by decide) ?_
        refine V_istore (pc := 98) (ls' := [(0, _), (1, _), (2, _), (3, _), (4, _), (5, _), (6, _)]) dX12_keep_98 (by decide) rfl ?_
        refine V_iconst (pc := 100) (v := nI 0) dX12_keep_100 (by decide) ?_
        refine V_istore (pc := 101) (ls' := [(0, _), (1, _), (2, _), (3, _), (4, _), (5, _), (6, _), (7, _)]) dX12_keep_101 (by decide) rfl ?_
        exact lp_kp2 h12 hm2.row hq (by omega) hd hz hmo ⟨rfl, rfl, hm2, hf2⟩
      · skip
        refine V_iload_n (pc := 30) dX12_keep_30 rfl ?_
        refine V_callSd (pc := 31) (c_X12_isBar) dX12_keep_31 mlX12_228 mkX12_isBar rfl rfl ⟨Nat.le_of_ble_eq_true rfl, Nat.le_of_ble_eq_true rfl⟩ (Nat.le_of_ble_eq_true rfl) ⟨Nat.le_of_ble_eq_true rfl, Nat.le_of_ble_eq_true rfl⟩ ?_
        refine V_if_neB (pc := 34) (tgt := 39) dX12_keep_34 (by decide) (fun c34 => ?_) (fun n34 => ?_)
        · skip
          rw [e8] at n22
          obtain ⟨b, hb, hx⟩ := bnd_ex (by omega) n10
          obtain ⟨d, hd, hy⟩ := bnd_ex (by omega) n22
          have hz : z = -1 ∨ bnd z 8 = true := by first | exact Or.inl c27 | exact Or.inr c34
          rw [spKeep, if_pos ⟨n10, n22, hz⟩]
          subst hx hy
          rw [cln_nI (by omega), cln_nI (by omega)]
          have hpn : ∀ j, j < 8 → 255 &&& pn (aq A) b j = pn (aq A) b j := fun j hj => and255 (hq.pi b j (by omega) hj)
          refine V_aload_n (pc := 39) dX12_keep_39 rfl ?_
          refine V_iload_n (pc := 40) dX12_keep_40 rfl ?_
          refine V_iload_n (pc := 41) dX12_keep_41 rfl ?_
          refine V_callV (pc := 42) (ci := 12) (c_X12_layMore h12 hr hq (by omega) (by omega)) dX12_keep_42 mlX12_513 mkX12_layMore rfl rfl h12.o ⟨by decide, rfl⟩ ⟨Nat.le_of_ble_eq_true rfl, Nat.le_of_ble_eq_true rfl⟩ (Nat.le_of_ble_eq_true rfl) ⟨Nat.le_of_ble_eq_true rfl, Nat.le_of_ble_eq_true rfl⟩ (fun r S' I' L' hp => ?_)
          obtain ⟨rfl, rfl, rfl, ha, hmo⟩ := hp
          have hm2 : MR o I' L A := hM.dead ⟨fun a ha' => ha a (by simp at ha'; omega), fun i hi => by rw [ha o (by omega)], fun _ _ => rfl⟩
          have hf2 : FrM o I' I L L := fun a h => ⟨by rw [ha a (by omega)]; exact (hF a h).1, rfl⟩
          refine V_ldcw (pc := 45) dX12_keep_45 coX12_487 ?_
          refine V_istore (pc := 48) (ls' := [(0, _), (1, _), (2, _), (3, _), (4, _)]) dX12_keep_48 (by decide) rfl ?_
          refine V_iconst (pc := 50) (v := nI 0) dX12_keep_50 (by decide) ?_
          refine V_istore (pc := 51) (ls' := [(0, _), (1, _), (2, _), (3, _), (4, _), (5, _)]) dX12_keep_51 (by decide) rfl ?_
          refine lp_kp0 h12 hmo ?_
          refine V_iload (pc := 93) dX12_keep_93 rfl ?_
          refine V_istore (pc := 95) (ls' := [(0, _), (1, _), (2, _), (3, _), (4, _), (5, _)]) dX12_keep_95 (by decide) rfl ?_
          refine V_iconst (pc := 97) (v := nI 0) dX12_keep_97 (by decide) ?_
          refine V_istore (pc := 98) (ls' := [(0, _), (1, _), (2, _), (3, _), (4, _), (5, _), (6, _)]) dX12_keep_98 (by decide) rfl ?_
          refine V_iconst (pc := 100) (v := nI 0) dX12_keep_100 (by decide) ?_
          refine V_istore (pc := 101) (ls' := [(0, _), (1, _), (2, _), (3, _), (4, _), (5, _), (6, _), (7, _)]) dX12_keep_101 (by decide) rfl ?_
          exact lp_kp2 h12 hm2.row hq (by omega) hd hz hmo ⟨rfl, rfl, hm2, hf2⟩
        · skip
          refine V_iconst (pc := 37) (v := (-1)) dX12_keep_37 (by decide) ?_
          refine V_iret (pc := 38) dX12_keep_38 rfl (by first | decide | omega) (by first | decide | omega) ?_
          first
          | (rw [spKeep, if_neg (fun w => by rw [w.1] at c10; exact absurd c10 (by decide))]; exact ⟨rfl, rfl, hM, hF⟩)
          | (rw [e8] at c22; rw [spKeep, if_neg (fun w => by rw [w.2.1] at c22; exact absurd c22 (by decide))]; exact ⟨rfl, rfl, hM, hF⟩)
          | (rw [spKeep, if_neg (fun w => w.2.2.elim n27 (fun w => by rw [w] at n34; exact absurd n34 (by decide)))]; exact ⟨rfl, rfl, hM, hF⟩)
end MK2
