/-! THE CLASS: what to listen for, shares -/
theorem sm_cut {f : Nat → Nat} {n : Nat} : ∀ m, n ≤ m → (∀ k, n ≤ k → k < m → f k = 0) → sm f m = sm f n := by
  intro m
  induction m with
  | zero => intro h _; rw [show n = 0 by omega]
  | succ m ih =>
    intro h h0
    by_cases e : n = m + 1
    · rw [e]
    · rw [sm, h0 m (by omega) (by omega), ih (by omega) (fun k a b => h0 k a (by omega)), Nat.add_zero]
theorem bit_N (x t : Nat) : x / 2 ^ t % 2 = (x.testBit t).toNat := by
  rw [Nat.testBit_eq_decide_div_mod_eq]
  rcases Nat.mod_two_eq_zero_or_one (x / 2 ^ t) with z | z
  · rw [z]; rfl
  · rw [z]; rfl
theorem lsm_pop {q : Nat → Nat} (hq : wq q) (all : Nat) {j t : Nat} (ht : t < 8) : pop8 (all &&& bwt q j t (q 0)) = lsm q all (8 * j + t) := by
  have hnb := hq.nb
  unfold lsm
  rw [← pop8_sm, sm_cut (n := q 0) 8 (by omega) (fun k h1 h2 => by
    rw [and_bitN, bit_N (bwt q j t (q 0)), bwt, bts_bit, decide_eq_false (by omega), Bool.false_and]; rfl)]
  refine sm_cong fun b hb => ?_
  rw [and_bitN, bit_N (bwt q j t (q 0)), bwt, bts_bit, decide_eq_true hb, Bool.true_and, show (8 * j + t) / 8 = j by omega, show (8 * j + t) % 8 = t by omega]
  rcases Nat.mod_two_eq_zero_or_one (all / 2 ^ b) with z | z
  · rw [z, if_neg (by omega), Nat.zero_mul]
  · rw [z, if_pos rfl, Nat.one_mul]
    rcases Nat.mod_two_eq_zero_or_one (nt q b j / 2 ^ t) with y | y
    · rw [y]; rfl
    · rw [y]; rfl
theorem lsm_leC {q : Nat → Nat} (hq : wq q) (all : Nat) {j t : Nat} (ht : t < 8) : lsm q all (8 * j + t) ≤ pop8 all := by
  rw [← lsm_pop hq all ht, ← pop8_sm, ← pop8_sm]
  refine sm_mono fun b hb => ?_
  show (all &&& bwt q j t (q 0)) / 2 ^ b % 2 ≤ all / 2 ^ b % 2
  rw [and_bitN]
  have := Nat.mod_two_eq_zero_or_one (bwt q j t (q 0) / 2 ^ b)
  rcases this with z | z
  · rw [z]; omega
  · rw [z]; omega
theorem lsx_max {q : Nat → Nat} {all k : Nat} : max (lsm q all k) (pop8 all - lsm q all k) = lsx q all k := by
  unfold lsx
  split <;> omega
theorem lsn_s (q : Nat → Nat) (all far k : Nat) : lsn q all far (k + 1) = if lsx q all k < (lsn q all far k).2 then (nI (10 * (k / 8) + k % 8), lsx q all k) else lsn q all far k := rfl
theorem lsn_far {q : Nat → Nat} {all : Nat} (h0 : lsx q all 0 < 9) : ∀ n, lsn q all 9 (n + 1) = lsn q all 100000000 (n + 1)
  | 0 => by
    rw [lsn_s, lsn_s]
    show (if lsx q all 0 < 9 then _ else _) = (if lsx q all 0 < 100000000 then _ else _)
    rw [if_pos h0, if_pos (by omega)]
  | n + 1 => by
    rw [lsn_s, lsn_s q all 100000000, lsn_far h0 n]
theorem lsn_far7 {q : Nat → Nat} {all : Nat} (h0 : lsx q all 0 < 7) : ∀ n, lsn q all 7 (n + 1) = lsn q all 100000000 (n + 1)
  | 0 => by
    rw [lsn_s, lsn_s]
    show (if lsx q all 0 < 7 then _ else _) = (if lsx q all 0 < 100000000 then _ else _)
    rw [if_pos h0, if_pos (by omega)]
  | n + 1 => by
    rw [lsn_s, lsn_s q all 100000000, lsn_far7 h0 n]
theorem lsn_le7 (q : Nat → Nat) (all : Nat) : ∀ n, (lsn q all 7 n).2 ≤ 7
  | 0 => Nat.le_refl _
  | n + 1 => by
    have := lsn_le7 q all n
    rw [lsn_s]
    split
    · rename_i c; exact Nat.le_of_lt (Nat.lt_of_lt_of_le c this)
    · exact this
theorem pop_bts (f : Nat → Bool) {n : Nat} (hn : n ≤ 6) : pop8 (bts f n) ≤ 6 := by
  rw [← pop8_sm, sm_cut (n := n) 8 (by omega) (fun k h1 h2 => by
    show bts f n / 2 ^ k % 2 = 0
    rw [bit_N, bts_bit, decide_eq_false (by omega), Bool.false_and]; rfl)]
  have := sm_le (f := fun t => bts f n / 2 ^ t % 2) (c := 1) (n := n) (fun k _ => by show bts f n / 2 ^ k % 2 ≤ 1; omega)
  omega
section CV
variable {E : EnT} {S : ST} {I : IT} {L : LT} {B : Nat} {A : AT}
theorem lp_lsC (h11 : Lay11 E S B) (hR : CR E S B I A) (hA : wfA A) {all w : Nat} (hall : all < 64) (hp : pop8 all ≤ 6) (hw : w < 2) (hP : lsn (aq A) all 7 64 = lsn (aq A) all 100000000 64) : ∀ j, j ≤ 8 → V E kX11_listen (rmOf 3 0 0) (QM E (fun r S' I' L' => r = some (.int (if w = 0 then (lsn (aq A) all 100000000 64).1 else nI (lsn (aq A) all 100000000 64).2)) ∧ S = S' ∧ CR E S B I' A ∧ FrC B I' I L' L) 0 0) 0 0 S I L 38 [(0, .ref B), (1, .int (nI w)), (2, .int (nI all)), (3, .int (nI (pop8 all))), (4, .int (nI (lsn (aq A) all 7 (8 * j)).2)), (5, .int (lsn (aq A) all 7 (8 * j)).1), (6, .int (nI j))] [] := by
  have hq := hA.q
  have hnb := hq.nb
  refine loopUp (n := 8) (P := fun j => V E kX11_listen (rmOf 3 0 0) (QM E (fun r S' I' L' => r = some (.int (if w = 0 then (lsn (aq A) all 100000000 64).1 else nI (lsn (aq A) all 100000000 64).2)) ∧ S = S' ∧ CR E S B I' A ∧ FrC B I' I L' L) 0 0) 0 0 S I L 38 [(0, .ref B), (1, .int (nI w)), (2, .int (nI all)), (3, .int (nI (pop8 all))), (4, .int (nI (lsn (aq A) all 7 (8 * j)).2)), (5, .int (lsn (aq A) all 7 (8 * j)).1), (6, .int (nI j))] []) ?_ ?_
  · rw [show 8 * 8 = 64 from rfl, hP]
    refine V_iload (pc := 38) dX11_listen_38 rfl ?_
    refine V_bipush (pc := 40) (v := nI 8) dX11_listen_40 (by decide) ?_
    refine V_icmp_geN (pc := 42) (tgt := 120) dX11_listen_42 (by decide) (by omega) (by omega) (fun c42 => ?_) (fun n42 => absurd n42 (by omega))
    refine V_iload_n (pc := 120) dX11_listen_120 rfl ?_
    refine V_if_neN (pc := 121) (tgt := 129) dX11_listen_121 (by decide) (by omega) (fun c121 => ?_) (fun n121 => ?_)
    · skip
      refine V_iload (pc := 129) dX11_listen_129 rfl ?_
      refine V_iret (pc := 131) dX11_listen_131 rfl (by first | decide | omega) (by first | decide | omega) ?_
      first
      | (rw [if_pos n121]; exact ⟨rfl, rfl, hR, FrC.rf⟩)
      | (rw [if_neg c121]; exact ⟨rfl, rfl, hR, FrC.rf⟩)
      | fail
    · skip
      refine V_iload (pc := 124) dX11_listen_124 rfl ?_
      refine V_goto (pc := 126) (tgt := 131) dX11_listen_126 (by decide) ?_
      refine V_iret (pc := 131) dX11_listen_131 rfl (by first | decide | omega) (by first | decide | omega) ?_
      first
      | (rw [if_pos n121]; exact ⟨rfl, rfl, hR, FrC.rf⟩)
      | (rw [if_neg c121]; exact ⟨rfl, rfl, hR, FrC.rf⟩)
      | fail
  · intro j hj ih
    have inn : ∀ t, t ≤ 8 → V E kX11_listen (rmOf 3 0 0) (QM E (fun r S' I' L' => r = some (.int (if w = 0 then (lsn (aq A) all 100000000 64).1 else nI (lsn (aq A) all 100000000 64).2)) ∧ S = S' ∧ CR E S B I' A ∧ FrC B I' I L' L) 0 0) 0 0 S I L 48 [(0, .ref B), (1, .int (nI w)), (2, .int (nI all)), (3, .int (nI (pop8 all))), (4, .int (nI (lsn (aq A) all 7 (8 * j + t)).2)), (5, .int (lsn (aq A) all 7 (8 * j + t)).1), (6, .int (nI j)), (7, .int (nI t))] [] := by
      refine loopUp (n := 8) (P := fun t => V E kX11_listen (rmOf 3 0 0) (QM E (fun r S' I' L' => r = some (.int (if w = 0 then (lsn (aq A) all 100000000 64).1 else nI (lsn (aq A) all 100000000 64).2)) ∧ S = S' ∧ CR E S B I' A ∧ FrC B I' I L' L) 0 0) 0 0 S I L 48 [(0, .ref B), (1, .int (nI w)), (2, .int (nI all)), (3, .int (nI (pop8 all))), (4, .int (nI (lsn (aq A) all 7 (8 * j + t)).2)), (5, .int (lsn (aq A) all 7 (8 * j + t)).1), (6, .int (nI j)), (7, .int (nI t))] []) ?_ ?_
      · skip
        refine V_iload (pc := 48) dX11_listen_48 rfl ?_
        refine V_bipush (pc := 50) (v := nI 8) dX11_listen_50 (by decide) ?_
        refine V_icmp_geN (pc := 52) (tgt := 114) dX11_listen_52 (by decide) (by omega) (by omega) (fun c52 => ?_) (fun n52 => absurd n52 (by omega))
        refine V_loc [0, 1, 2, 3, 4, 5, 6] rfl ?_
        refine V_iinc1 (pc := 114) (ls' := [(0, _), (1, _), (2, _), (3, _), (4, _), (5, _), (6, _)]) dX11_listen_114 rfl (by decide) rfl ?_
        refine V_goto (pc := 117) (tgt := 38) dX11_listen_117 (by decide) ?_
        exact ih
      · intro t ht ih2
        have hl7 := lsn_le7 (aq A) all (8 * j + t)
        have hlm := lsm_leC hq all (j := j) ht
        have hlx : lsx (aq A) all (8 * j + t) ≤ 6 := by rw [← lsx_max]; omega
        rw [show 8 * j + (t + 1) = (8 * j + t) + 1 by omega, lsn_s (aq A) all 7 (8 * j + t)] at ih2
        have e10 : 10 * ((8 * j + t) / 8) + (8 * j + t) % 8 = 10 * j + t := by omega
        rw [e10] at ih2
        refine V_iload (pc := 48) dX11_listen_48 rfl ?_
        refine V_bipush (pc := 50) (v := nI 8) dX11_listen_50 (by decide) ?_
        refine V_icmp_geN (pc := 52) (tgt := 114) dX11_listen_52 (by decide) (by omega) (by omega) (fun c52 => absurd c52 (by omega)) (fun n52 => ?_)
        refine V_iload_n (pc := 55) dX11_listen_55 rfl ?_
        refine V_aload_n (pc := 56) dX11_listen_56 rfl ?_
        refine V_getR (pc := 57) 11 0 dX11_listen_57 flX11_91 (by decide) h11.o h11.R0 ?_
        refine V_getR (pc := 60) 10 0 dX11_listen_60 flX11_116 (by decide) h11.O0.o h11.O0.R0 ?_
        refine V_iload (pc := 63) dX11_listen_63 rfl ?_
        refine V_iload (pc := 65) dX11_listen_65 rfl ?_
        refine V_callVd (pc := 67) (ci := 9) (c_X9_boxesWith h11.O0.O0 hR.1.1 hq hj ht) dX11_listen_67 mlX11_295 mkX9_boxesWith rfl rfl h11.O0.O0.o ⟨by decide, rfl⟩ ⟨Nat.le_of_ble_eq_true rfl, Nat.le_of_ble_eq_true rfl⟩ (Nat.le_of_ble_eq_true rfl) ⟨Nat.le_of_ble_eq_true rfl, Nat.le_of_ble_eq_true rfl⟩ ?_
        refine V_iandN (pc := 70) dX11_listen_70 ?_
        refine V_callSd (pc := 71) (c_J6_bitCount_0f7a4) dX11_listen_71 mlX11_290 mkJ6_bitCount_0f7a4 rfl rfl ⟨Nat.le_of_ble_eq_true rfl, Nat.le_of_ble_eq_true rfl⟩ (Nat.le_of_ble_eq_true rfl) ⟨Nat.le_of_ble_eq_true rfl, Nat.le_of_ble_eq_true rfl⟩ ?_
        rw [bcI_N _ (Nat.lt_of_le_of_lt Nat.and_le_left (show all < 256 by omega)), lsm_pop hq all ht]
        refine V_istore (pc := 74) (ls' := [(0, _), (1, _), (2, _), (3, _), (4, _), (5, _), (6, _), (7, _), (8, _)]) dX11_listen_74 (by decide) rfl ?_
        refine V_iload (pc := 76) dX11_listen_76 rfl ?_
        refine V_iload_n (pc := 78) dX11_listen_78 rfl ?_
        refine V_iload (pc := 79) dX11_listen_79 rfl ?_
        refine V_isubN (pc := 81) dX11_listen_81 (by omega) ?_
        refine V_mmaxN (pc := 82) dX11_listen_82 mlX11_298 (Nat.le_of_ble_eq_true rfl) (Nat.le_of_ble_eq_true rfl) ⟨Nat.le_of_ble_eq_true rfl, Nat.le_of_ble_eq_true rfl⟩ (by omega) (by omega) ?_
        rw [lsx_max]
        refine V_istore (pc := 85) (ls' := [(0, _), (1, _), (2, _), (3, _), (4, _), (5, _), (6, _), (7, _), (8, _), (9, _)]) dX11_listen_85 (by decide) rfl ?_
        refine V_iload (pc := 87) dX11_listen_87 rfl ?_
        refine V_iload (pc := 89) dX11_listen_89 rfl ?_
        refine V_icmp_geN (pc := 91) (tgt := 108) dX11_listen_91 (by decide) (by omega) (by omega) (fun c91 => ?_) (fun n91 => ?_)
        · skip
          try rw [if_neg (show ¬ lsx (aq A) all (8 * j + t) < (lsn (aq A) all 7 (8 * j + t)).2 by omega)] at ih2
          refine V_loc [0, 1, 2, 3, 4, 5, 6, 7] rfl ?_
          refine V_iinc1 (pc := 108) (ls' := [(0, _), (1, _), (2, _), (3, _), (4, _), (5, _), (6, _), (7, _)]) dX11_listen_108 rfl (by decide) rfl ?_
          refine V_goto (pc := 111) (tgt := 48) dX11_listen_111 (by decide) ?_
          exact ih2
        · skip
          rw [if_pos (show lsx (aq A) all (8 * j + t) < (lsn (aq A) all 7 (8 * j + t)).2 by omega)] at ih2
          refine V_iload (pc := 94) dX11_listen_94 rfl ?_
          refine V_istore (pc := 96) (ls' := [(0, _), (1, _), (2, _), (3, _), (4, _), (5, _), (6, _), (7, _), (8, _), (9, _)]) dX11_listen_96 (by decide) rfl ?_
          refine V_bipush (pc := 98) (v := nI 10) dX11_listen_98 (by decide) ?_
          refine V_iload (pc := 100) dX11_listen_100 rfl ?_
          refine V_imulN (pc := 102) dX11_listen_102 ?_
          refine V_iload (pc := 103) dX11_listen_103 rfl ?_
          refine V_iaddN (pc := 105) dX11_listen_105 ?_
          refine V_istore (pc := 106) (ls' := [(0, _), (1, _), (2, _), (3, _), (4, _), (5, _), (6, _), (7, _), (8, _), (9, _)]) dX11_listen_106 (by decide) rfl ?_
          try rw [if_neg (show ¬ lsx (aq A) all (8 * j + t) < (lsn (aq A) all 7 (8 * j + t)).2 by omega)] at ih2
          refine V_loc [0, 1, 2, 3, 4, 5, 6, 7] rfl ?_
          refine V_iinc1 (pc := 108) (ls' := [(0, _), (1, _), (2, _), (3, _), (4, _), (5, _), (6, _), (7, _)]) dX11_listen_108 rfl (by decide) rfl ?_
          refine V_goto (pc := 111) (tgt := 48) dX11_listen_111 (by decide) ?_
          exact ih2
    refine V_iload (pc := 38) dX11_listen_38 rfl ?_
    refine V_bipush (pc := 40) (v := nI 8) dX11_listen_40 (by decide) ?_
    refine V_icmp_geN (pc := 42) (tgt := 120) dX11_listen_42 (by decide) (by omega) (by omega) (fun c42 => absurd c42 (by omega)) (fun n42 => ?_)
    refine V_iconst (pc := 45) (v := nI 0) dX11_listen_45 (by decide) ?_
    refine V_istore (pc := 46) (ls' := [(0, _), (1, _), (2, _), (3, _), (4, _), (5, _), (6, _), (7, _)]) dX11_listen_46 (by decide) rfl ?_
    exact inn 0 (by omega)
theorem c_X11_listen (h11 : Lay11 E S B) (hR : CR E S B I A) (hA : wfA A) {x : Int32} : Cc E kX11_listen 3 [.ref B, .int x] S I L B (.int (spListen A x)) A := by
  have hq := hA.q
  have hnb := hq.nb
  have hlt : whc (aq A) < 64 := Nat.lt_of_lt_of_le (bts_lt _ _) (p64 (show aq A 0 ≤ 6 by omega))
  have hp6 : pop8 (whc (aq A)) ≤ 6 := pop_bts _ (by omega)
  have hl0 := lsm_leC hq (whc (aq A)) (j := 0) (t := 0) (by omega)
  have hl0' : lsm (aq A) (whc (aq A)) 0 ≤ pop8 (whc (aq A)) := hl0
  have hP : lsn (aq A) (whc (aq A)) 7 64 = lsn (aq A) (whc (aq A)) 100000000 64 := lsn_far7 (by rw [← lsx_max]; omega) 63
  refine C_of (by decide) (Nat.le_of_ble_eq_true rfl) ?_
  refine V_aload_n (pc := 0) dX11_listen_0 rfl ?_
  refine V_getR (pc := 1) 11 0 dX11_listen_1 flX11_91 (by decide) h11.o h11.R0 ?_
  refine V_callVd (pc := 4) (ci := 10) (c_X10_boxesHeard h11.O0 hR.1 hq) dX11_listen_4 mlX11_287 mkX10_boxesHeard rfl rfl h11.O0.o ⟨by decide, rfl⟩ ⟨Nat.le_of_ble_eq_true rfl, Nat.le_of_ble_eq_true rfl⟩ (Nat.le_of_ble_eq_true rfl) ⟨Nat.le_of_ble_eq_true rfl, Nat.le_of_ble_eq_true rfl⟩ ?_
  refine V_istore_n (pc := 7) (ls' := [(0, _), (1, _), (2, _)]) dX11_listen_7 (by decide) rfl ?_
  refine V_iload_n (pc := 8) dX11_listen_8 rfl ?_
  refine V_if_eqN (pc := 9) (tgt := 21) dX11_listen_9 (by decide) (by omega) (fun c9 => ?_) (fun n9 => ?_)
  · skip
    refine V_iconst (pc := 21) (v := (-1)) dX11_listen_21 (by decide) ?_
    refine V_iret (pc := 22) dX11_listen_22 rfl (by first | decide | omega) (by first | decide | omega) ?_
    first
    | (rw [spListen, if_neg (fun w => by exact absurd c9 w.2)]; exact ⟨rfl, rfl, hR, FrC.rf⟩)
    | (rw [spListen, if_neg (fun w => by rw [bnd_lo c13] at w; exact absurd w.1 (by decide))]; exact ⟨rfl, rfl, hR, FrC.rf⟩)
    | (rw [spListen, if_neg (fun w => by rw [bnd_nle (n := 1) (by omega) n18] at w; exact absurd w.1 (by decide))]; exact ⟨rfl, rfl, hR, FrC.rf⟩)
    | fail
  · skip
    refine V_iload_n (pc := 12) dX11_listen_12 rfl ?_
    refine V_if_lt (pc := 13) (tgt := 21) dX11_listen_13 (by decide) (fun c13 => ?_) (fun n13 => ?_)
    · skip
      refine V_iconst (pc := 21) (v := (-1)) dX11_listen_21 (by decide) ?_
      refine V_iret (pc := 22) dX11_listen_22 rfl (by first | decide | omega) (by first | decide | omega) ?_
      first
      | (rw [spListen, if_neg (fun w => by exact absurd c9 w.2)]; exact ⟨rfl, rfl, hR, FrC.rf⟩)
      | (rw [spListen, if_neg (fun w => by rw [bnd_lo c13] at w; exact absurd w.1 (by decide))]; exact ⟨rfl, rfl, hR, FrC.rf⟩)
      | (rw [spListen, if_neg (fun w => by rw [bnd_nle (n := 1) (by omega) n18] at w; exact absurd w.1 (by decide))]; exact ⟨rfl, rfl, hR, FrC.rf⟩)
      | fail
    · skip
      refine V_iload_n (pc := 16) dX11_listen_16 rfl ?_
      refine V_iconst (pc := 17) (v := nI 1) dX11_listen_17 (by decide) ?_
      refine V_icmp_le (pc := 18) (tgt := 23) dX11_listen_18 (by decide) (fun c18 => ?_) (fun n18 => ?_)
      · skip
        have hb : bnd x 2 = true := bnd_le (n := 1) (by omega) n13 c18
        rw [spListen, if_pos ⟨hb, n9⟩]
        obtain ⟨w, hw, hx⟩ := bnd_ex (by omega) hb
        subst hx
        rw [cln_nI (by omega)]
        refine V_iload_n (pc := 23) dX11_listen_23 rfl ?_
        refine V_callSd (pc := 24) (c_J6_bitCount_0f7a4) dX11_listen_24 mlX11_290 mkJ6_bitCount_0f7a4 rfl rfl ⟨Nat.le_of_ble_eq_true rfl, Nat.le_of_ble_eq_true rfl⟩ (Nat.le_of_ble_eq_true rfl) ⟨Nat.le_of_ble_eq_true rfl, Nat.le_of_ble_eq_true rfl⟩ ?_
        rw [bcI_N _ (by omega)]
        refine V_istore_n (pc := 27) (ls' := [(0, _), (1, _), (2, _), (3, _)]) dX11_listen_27 (by decide) rfl ?_
        refine V_bipush (pc := 28) (v := nI 7) dX11_listen_28 (by decide) ?_
        refine V_istore (pc := 30) (ls' := [(0, _), (1, _), (2, _), (3, _), (4, _)]) dX11_listen_30 (by decide) rfl ?_
        refine V_iconst (pc := 32) (v := (-1)) dX11_listen_32 (by decide) ?_
        refine V_istore (pc := 33) (ls' := [(0, _), (1, _), (2, _), (3, _), (4, _), (5, _)]) dX11_listen_33 (by decide) rfl ?_
        refine V_iconst (pc := 35) (v := nI 0) dX11_listen_35 (by decide) ?_
        refine V_istore (pc := 36) (ls' := [(0, _), (1, _), (2, _), (3, _), (4, _), (5, _), (6, _)]) dX11_listen_36 (by decide) rfl ?_
        exact lp_lsC h11 hR hA hlt hp6 hw hP 0 (by omega)
      · skip
        refine V_iconst (pc := 21) (v := (-1)) dX11_listen_21 (by decide) ?_
        refine V_iret (pc := 22) dX11_listen_22 rfl (by first | decide | omega) (by first | decide | omega) ?_
        first
        | (rw [spListen, if_neg (fun w => by exact absurd c9 w.2)]; exact ⟨rfl, rfl, hR, FrC.rf⟩)
        | (rw [spListen, if_neg (fun w => by rw [bnd_lo c13] at w; exact absurd w.1 (by decide))]; exact ⟨rfl, rfl, hR, FrC.rf⟩)
        | (rw [spListen, if_neg (fun w => by rw [bnd_nle (n := 1) (by omega) n18] at w; exact absurd w.1 (by decide))]; exact ⟨rfl, rfl, hR, FrC.rf⟩)
        | fail
end CV
/-! shares -/
theorem sm_rev (f : Nat → Nat) : ∀ n, sm f n = sm (fun m => f (n - 1 - m)) n := by
  have key : ∀ n, sm f (n + 1) = f 0 + sm (fun m => f (m + 1)) n := by
    intro n
    induction n with
    | zero => simp [sm]
    | succ n ih => rw [sm, ih, sm_s (fun m => f (m + 1)) n]; omega
  have key2 : ∀ (g : Nat → Nat) n, sm g (n + 1) = g 0 + sm (fun m => g (m + 1)) n := by
    intro g n
    induction n with
    | zero => simp [sm]
    | succ n ih => rw [sm, ih, sm_s (fun m => g (m + 1)) n]; omega
  intro n
  induction n with
  | zero => rfl
  | succ n ih =>
    rw [sm, ih, key2 (fun m => f (n + 1 - 1 - m)) n]
    have : sm (fun m => f (n - 1 - m)) n = sm (fun m => f (n + 1 - 1 - (m + 1))) n := sm_cong fun m hm => by congr 1; omega
    rw [this]
    show _ + f n = f (n + 1 - 1 - 0) + _
    rw [show n + 1 - 1 - 0 = n by omega]
    omega
theorem hsx_sm (w : Nat → Nat) (k nb code j : Nat) : ∀ m, hsx w k nb code j m = sm (fun m => if code / k ^ m % k = j then w (nb - 1 - m) else 0) m
  | 0 => rfl
  | m + 1 => by rw [hsx, hsx_sm w k nb code j m]; rfl
theorem hsx_fw (w : Nat → Nat) (k nb code j : Nat) : hsx w k nb code j nb = sm (fun b => if code / k ^ (nb - 1 - b) % k = j then w b else 0) nb := by
  rw [hsx_sm, sm_rev (fun b => if code / k ^ (nb - 1 - b) % k = j then w b else 0) nb]
  refine sm_cong fun m hm => ?_
  show _ = if code / k ^ (nb - 1 - (nb - 1 - m)) % k = j then w (nb - 1 - m) else 0
  rw [show nb - 1 - (nb - 1 - m) = m by omega]
def mnk (h : Nat → Nat) : Nat → Nat | 0 => 360 | j + 1 => min (mnk h j) (h j)
theorem mnk_le (h : Nat → Nat) : ∀ j, mnk h j ≤ 360
  | 0 => Nat.le_refl _
  | j + 1 => by have := mnk_le h j; unfold mnk; omega
theorem mnk_lea {w : Nat → Nat} (hw : ∀ b, w b ≤ 60) {k nb code : Nat} (hk : 0 < k ∧ k ≤ 3) (hn : nb ≤ 6) : mnk (fun j => hsx w k nb code j nb) k = lea w k nb code := by
  have h : ∀ j, hsx w k nb code j nb ≤ 60 * nb := fun j => hsx_le hw k nb code j nb
  have h0 := h 0
  have h1 := h 1
  have h2 := h 2
  have hc : k = 1 ∨ k = 2 ∨ k = 3 := by omega
  unfold lea hsk mn2 FARN
  rcases hc with rfl | rfl | rfl
  · have p0 : hsx w 1 nb code 0 nb < 100000000 := by omega
    simp only [mnk, show (0 : Nat) < 1 from by omega, show ¬ (1 : Nat) < 1 from by omega, show ¬ (2 : Nat) < 1 from by omega, if_true, if_false, if_pos p0]
    omega
  · have p0 : hsx w 2 nb code 0 nb < 100000000 := by omega
    have p1 : hsx w 2 nb code 1 nb < 100000000 := by omega
    simp only [mnk, show (0 : Nat) < 2 from by omega, show (1 : Nat) < 2 from by omega, show ¬ (2 : Nat) < 2 from by omega, if_true, if_false]
    by_cases h01 : hsx w 2 nb code 0 nb < hsx w 2 nb code 1 nb
    · simp only [if_pos h01, if_pos p0]; omega
    · simp only [if_neg h01, if_pos p1]; omega
  · simp only [mnk, show (0 : Nat) < 3 from by omega, show (1 : Nat) < 3 from by omega, show (2 : Nat) < 3 from by omega, if_true]
    by_cases h01 : hsx w 3 nb code 0 nb < hsx w 3 nb code 1 nb
    · simp only [if_pos h01]
      split <;> omega
    · simp only [if_neg h01]
      split <;> omega
section CV2
variable {E : EnT} {S : ST} {I : IT} {L : LT} {B : Nat} {A : AT}
theorem c_X11_gatherLasting (h11 : Lay11 E S B) (hR : CR E S B I A) (hA : wfA A) : C E kX11_gatherLasting 4 0 0 [.ref B] S I L (fun r S' I' L' => r = none ∧ S = S' ∧ L = L' ∧ (∀ x, x ≠ B + 19 → x ≠ B + 81 → x ≠ B + 79 → I' x = I x) ∧ ∀ b, b < aq A 0 → I' (B + 19) b = nI (lst (lwf A) (aq A) b)) := by
  have hq := hA.q
  have hnb := hq.nb
  have hlw := hA.law
  refine C_of (by decide) (Nat.le_of_ble_eq_true rfl) ?_
  have key : ∀ j, j ≤ aq A 0 → ∀ J, (∀ x, x ≠ B + 19 → x ≠ B + 81 → x ≠ B + 79 → J x = I x) → (∀ b, b < j → J (B + 19) b = nI (lst (lwf A) (aq A) b)) → V E kX11_gatherLasting (rmOf 4 0 0) (QM E (fun r S' I' L' => r = none ∧ S = S' ∧ L = L' ∧ (∀ x, x ≠ B + 19 → x ≠ B + 81 → x ≠ B + 79 → I' x = I x) ∧ ∀ b, b < aq A 0 → I' (B + 19) b = nI (lst (lwf A) (aq A) b)) 0 0) 0 0 S J L 2 [(0, .ref B), (1, .int (nI j))] [] := by
    refine loopUp (n := aq A 0) (P := fun j => ∀ J, (∀ x, x ≠ B + 19 → x ≠ B + 81 → x ≠ B + 79 → J x = I x) → (∀ b, b < j → J (B + 19) b = nI (lst (lwf A) (aq A) b)) → V E kX11_gatherLasting (rmOf 4 0 0) (QM E (fun r S' I' L' => r = none ∧ S = S' ∧ L = L' ∧ (∀ x, x ≠ B + 19 → x ≠ B + 81 → x ≠ B + 79 → I' x = I x) ∧ ∀ b, b < aq A 0 → I' (B + 19) b = nI (lst (lwf A) (aq A) b)) 0 0) 0 0 S J L 2 [(0, .ref B), (1, .int (nI j))] []) ?_ ?_
    · intro J hF hJ
      have hRJ := hR.dd (DdC.of fun x hx => hF x (by unfold lvC at hx; omega) (by unfold lvC at hx; omega) (by unfold lvC at hx; omega))
      refine V_iload_n (pc := 2) dX11_gatherLasting_2 rfl ?_
      refine V_aload_n (pc := 3) dX11_gatherLasting_3 rfl ?_
      refine V_getR (pc := 4) 11 0 dX11_gatherLasting_4 flX11_91 (by decide) h11.o h11.R0 ?_
      refine V_getR (pc := 7) 10 0 dX11_gatherLasting_7 flX11_116 (by decide) h11.O0.o h11.O0.R0 ?_
      refine V_getIE (pc := 10) 9 0 dX11_gatherLasting_10 flX11_120 (by decide) h11.O0.O0.o (hRJ.1.1.1) ?_
      refine V_icmp_geN (pc := 13) (tgt := 50) dX11_gatherLasting_13 (by decide) (by omega) (by omega) (fun c13 => ?_) (fun n13 => absurd n13 (by omega))
      refine V_vret (pc := 50) dX11_gatherLasting_50 rfl (by first | decide | omega) (by first | decide | omega) ?_
      exact ⟨rfl, rfl, rfl, hF, hJ⟩
    · intro j hj ih J hF hJ
      have hRJ := hR.dd (DdC.of fun x hx => hF x (by unfold lvC at hx; omega) (by unfold lvC at hx; omega) (by unfold lvC at hx; omega))
      refine V_iload_n (pc := 2) dX11_gatherLasting_2 rfl ?_
      refine V_aload_n (pc := 3) dX11_gatherLasting_3 rfl ?_
      refine V_getR (pc := 4) 11 0 dX11_gatherLasting_4 flX11_91 (by decide) h11.o h11.R0 ?_
      refine V_getR (pc := 7) 10 0 dX11_gatherLasting_7 flX11_116 (by decide) h11.O0.o h11.O0.R0 ?_
      refine V_getIE (pc := 10) 9 0 dX11_gatherLasting_10 flX11_120 (by decide) h11.O0.O0.o (hRJ.1.1.1) ?_
      refine V_icmp_geN (pc := 13) (tgt := 50) dX11_gatherLasting_13 (by decide) (by omega) (by omega) (fun c13 => absurd c13 (by omega)) (fun n13 => ?_)
      refine V_aload_n (pc := 16) dX11_gatherLasting_16 rfl ?_
      refine V_getR (pc := 17) 11 16 dX11_gatherLasting_17 flX11_57 (by decide) h11.o h11.R16 ?_
      refine V_iload_n (pc := 20) dX11_gatherLasting_20 rfl ?_
      refine V_aload_n (pc := 21) dX11_gatherLasting_21 rfl ?_
      refine V_getR (pc := 22) 11 3 dX11_gatherLasting_22 flX11_95 (by decide) h11.o h11.R3 ?_
      refine V_aload_n (pc := 25) dX11_gatherLasting_25 rfl ?_
      refine V_getR (pc := 26) 11 0 dX11_gatherLasting_26 flX11_91 (by decide) h11.o h11.R0 ?_
      refine V_callV (pc := 29) (ci := 10) (c_X10_lawInForce h11.O0 hRJ.1 hq hRJ.2.1) dX11_gatherLasting_29 mlX11_156 mkX10_lawInForce rfl rfl h11.O0.o ⟨by decide, rfl⟩ ⟨Nat.le_of_ble_eq_true rfl, Nat.le_of_ble_eq_true rfl⟩ (Nat.le_of_ble_eq_true rfl) ⟨Nat.le_of_ble_eq_true rfl, Nat.le_of_ble_eq_true rfl⟩ (fun r S' I' L' hp => ?_)
      obtain ⟨⟨a, rfl, hT, hta⟩, rfl, rfl, rfl⟩ := hp
      unfold txa at hta
      refine V_aload_n (pc := 32) dX11_gatherLasting_32 rfl ?_
      refine V_getR (pc := 33) 11 0 dX11_gatherLasting_33 flX11_91 (by decide) h11.o h11.R0 ?_
      refine V_getR (pc := 36) 10 0 dX11_gatherLasting_36 flX11_116 (by decide) h11.O0.o h11.O0.R0 ?_
      refine V_iload_n (pc := 39) dX11_gatherLasting_39 rfl ?_
      refine V_callV (pc := 40) (ci := 3) (c_X3_lasting h11.O3 h11.O0.O0 hRJ.1.1 hq (fun z z1 z2 => by omega) hT hlw.1 ⟨fun z z1 z2 => by omega, by omega⟩ (by omega)) dX11_gatherLasting_40 mlX11_160 mkX3_lasting rfl rfl h11.O3.o ⟨by decide, rfl⟩ ⟨Nat.le_of_ble_eq_true rfl, Nat.le_of_ble_eq_true rfl⟩ (Nat.le_of_ble_eq_true rfl) ⟨Nat.le_of_ble_eq_true rfl, Nat.le_of_ble_eq_true rfl⟩ (fun r S' I' L' hp => ?_)
      obtain ⟨rfl, rfl, rfl, hf⟩ := hp
      refine V_iastore (pc := 43) dX11_gatherLasting_43 h11.A16 (by first | decide | omega) (by omega) ?_
      refine V_iinc1 (pc := 44) (ls' := [(0, _), (1, _)]) dX11_gatherLasting_44 rfl (by decide) rfl ?_
      refine V_goto (pc := 47) (tgt := 2) dX11_gatherLasting_47 (by decide) ?_
      refine ih _ (fun x a1 a2 a3 => by rw [up2_row a1, hf x a2 a3]; exact hF x a1 a2 a3) (fun b hb => ?_)
      by_cases z : b = j
      · subst z; rw [up2_self]; rfl
      · rw [up2_nej z, hf (B + 19) (by omega) (by omega)]; exact hJ b (by omega)
  refine V_iconst (pc := 0) (v := nI 0) dX11_gatherLasting_0 (by decide) ?_
  refine V_istore_n (pc := 1) (ls' := [(0, _), (1, _)]) dX11_gatherLasting_1 (by decide) rfl ?_
  exact key 0 (by omega) I (fun _ _ _ _ => rfl) (fun b hb => absurd hb (Nat.not_lt_zero b))
theorem c_X11_writeShareRow (h11 : Lay11 E S B) (hv : VlM I (B + 36 + 1) (aq A)) (hA : wfA A) {n k : Nat} (hn : n < 1000) (hk : 0 < k ∧ k ≤ 3) : C E kX11_writeShareRow 0 0 0 [.ref B, .int (nI n), .int (nI k)] S I L (fun r S' I' L' => r = none ∧ S = S' ∧ L = L' ∧ (∀ x, x ≠ B + 20 → I' x = I x) ∧ ∀ b, b < aq A 0 → I' (B + 20) b = nI (n / k ^ (aq A 0 - 1 - b) % k)) := by
  have hq := hA.q
  have hnb := hq.nb
  refine C_of (by decide) (Nat.le_of_ble_eq_true rfl) ?_
  have key : ∀ j, j ≤ aq A 0 → ∀ (J : IT) (rs : Nat), (∀ x, x ≠ B + 20 → J x = I x) → (∀ b, j ≤ b → b < aq A 0 → J (B + 20) b = nI (n / k ^ (aq A 0 - 1 - b) % k)) → (k = 1 ∨ rs = n / k ^ (aq A 0 - j)) → rs < 1000 → ∀ ls, ls = [(0, .ref B), (1, .int (nI n)), (2, .int (nI k)), (3, .int (nI rs)), (4, .int (pred1 j))] → V E kX11_writeShareRow (rmOf 0 0 0) (QM E (fun r S' I' L' => r = none ∧ S = S' ∧ L = L' ∧ (∀ x, x ≠ B + 20 → I' x = I x) ∧ ∀ b, b < aq A 0 → I' (B + 20) b = nI (n / k ^ (aq A 0 - 1 - b) % k)) 0 0) 0 0 S J L 16 ls [] := by
    intro j
    induction j with
    | zero =>
      intro _ J rs hF hJ hr hr2 ls hls
      subst hls
      rw [pred1_0]
      refine V_iload (pc := 16) dX11_writeShareRow_16 rfl ?_
      refine V_if_lt (pc := 18) (tgt := 59) dX11_writeShareRow_18 (by decide) (fun c18 => ?_) (fun n18 => absurd n18 (by decide))
      refine V_vret (pc := 59) dX11_writeShareRow_59 rfl (by first | decide | omega) (by first | decide | omega) ?_
      exact ⟨rfl, rfl, rfl, hF, fun b hb => hJ b (by omega) hb⟩
    | succ j ih =>
      intro hj J rs hF hJ hr hr2 ls hls
      subst hls
      rw [pred1_s]
      have hdv := Nat.div_le_self rs k
      have nxt : ∀ d r2, d = n / k ^ (aq A 0 - 1 - j) % k → (k = 1 ∨ r2 = n / k ^ (aq A 0 - j)) → r2 < 1000 → V E kX11_writeShareRow (rmOf 0 0 0) (QM E (fun r S' I' L' => r = none ∧ S = S' ∧ L = L' ∧ (∀ x, x ≠ B + 20 → I' x = I x) ∧ ∀ b, b < aq A 0 → I' (B + 20) b = nI (n / k ^ (aq A 0 - 1 - b) % k)) 0 0) 0 0 S (up2 J (B + 20) j (nI d)) L 53 [(0, .ref B), (1, .int (nI n)), (2, .int (nI k)), (3, .int (nI r2)), (4, .int (nI j))] [] := by
        intro d r2 hd hr3 hr4
        refine V_iinc (pc := 53) (ls' := [(0, _), (1, _), (2, _), (3, _), (4, _)]) dX11_writeShareRow_53 rfl (pred1_iinc _) (by decide) rfl ?_
        refine V_goto (pc := 56) (tgt := 16) dX11_writeShareRow_56 (by decide) ?_
        refine ih (by omega) _ r2 (fun x hx => by rw [up2_row hx]; exact hF x hx) (fun b h1 h2 => ?_) hr3 hr4 _ rfl
        by_cases z : b = j
        · subst z; rw [up2_self, hd]
        · rw [up2_nej z]; exact hJ b (by omega) h2
      by_cases k1 : k = 1
      · subst k1
        refine V_iload (pc := 16) dX11_writeShareRow_16 rfl ?_
        refine V_if_ltN (pc := 18) (tgt := 59) dX11_writeShareRow_18 (by decide) (by omega) ?_
        refine V_aload_n (pc := 21) dX11_writeShareRow_21 rfl ?_
        refine V_getR (pc := 22) 11 17 dX11_writeShareRow_22 flX11_60 (by decide) h11.o h11.R17 ?_
        refine V_iload (pc := 25) dX11_writeShareRow_25 rfl ?_
        refine V_iload_n (pc := 27) dX11_writeShareRow_27 rfl ?_
        refine V_iconst (pc := 28) (v := nI 1) dX11_writeShareRow_28 (by decide) ?_
        refine V_icmp_leN (pc := 29) (tgt := 38) dX11_writeShareRow_29 (by decide) (by omega) (by omega) (fun c29 => ?_) (fun n29 => absurd n29 (by omega))
        refine V_iconst (pc := 38) (v := nI 0) dX11_writeShareRow_38 (by decide) ?_
        refine V_iastore (pc := 39) dX11_writeShareRow_39 h11.A17 (by first | decide | omega) (by omega) ?_
        refine V_iload_n (pc := 40) dX11_writeShareRow_40 rfl ?_
        refine V_iconst (pc := 41) (v := nI 1) dX11_writeShareRow_41 (by decide) ?_
        refine V_icmp_leN (pc := 42) (tgt := 51) dX11_writeShareRow_42 (by decide) (by omega) (by omega) (fun c42 => ?_) (fun n42 => absurd n42 (by omega))
        refine V_iconst (pc := 51) (v := nI 0) dX11_writeShareRow_51 (by decide) ?_
        refine V_istore_n (pc := 52) (ls' := [(0, _), (1, _), (2, _), (3, _), (4, _)]) dX11_writeShareRow_52 (by decide) rfl ?_
        exact nxt 0 0 (by rw [Nat.mod_one]) (Or.inl rfl) (by omega)
      · have hr' : rs = n / k ^ (aq A 0 - 1 - j) := by
          rcases hr with hr | hr
          · exact absurd hr k1
          · rw [hr, show aq A 0 - (j + 1) = aq A 0 - 1 - j by omega]
        refine V_iload (pc := 16) dX11_writeShareRow_16 rfl ?_
        refine V_if_ltN (pc := 18) (tgt := 59) dX11_writeShareRow_18 (by decide) (by omega) ?_
        refine V_aload_n (pc := 21) dX11_writeShareRow_21 rfl ?_
        refine V_getR (pc := 22) 11 17 dX11_writeShareRow_22 flX11_60 (by decide) h11.o h11.R17 ?_
        refine V_iload (pc := 25) dX11_writeShareRow_25 rfl ?_
        refine V_iload_n (pc := 27) dX11_writeShareRow_27 rfl ?_
        refine V_iconst (pc := 28) (v := nI 1) dX11_writeShareRow_28 (by decide) ?_
        refine V_icmp_leN (pc := 29) (tgt := 38) dX11_writeShareRow_29 (by decide) (by omega) (by omega) (fun c29 => absurd c29 (by omega)) (fun n29 => ?_)
        refine V_iload_n (pc := 32) dX11_writeShareRow_32 rfl ?_
        refine V_iload_n (pc := 33) dX11_writeShareRow_33 rfl ?_
        refine V_iremN (pc := 34) dX11_writeShareRow_34 (by omega) (by omega) (by omega) ?_
        refine V_goto (pc := 35) (tgt := 39) dX11_writeShareRow_35 (by decide) ?_
        refine V_iastore (pc := 39) dX11_writeShareRow_39 h11.A17 (by first | decide | omega) (by omega) ?_
        refine V_iload_n (pc := 40) dX11_writeShareRow_40 rfl ?_
        refine V_iconst (pc := 41) (v := nI 1) dX11_writeShareRow_41 (by decide) ?_
        refine V_icmp_leN (pc := 42) (tgt := 51) dX11_writeShareRow_42 (by decide) (by omega) (by omega) (fun c42 => absurd c42 (by omega)) (fun n42 => ?_)
        refine V_iload_n (pc := 45) dX11_writeShareRow_45 rfl ?_
        refine V_iload_n (pc := 46) dX11_writeShareRow_46 rfl ?_
        refine V_idivN (pc := 47) dX11_writeShareRow_47 (by omega) (by omega) (by omega) ?_
        refine V_goto (pc := 48) (tgt := 52) dX11_writeShareRow_48 (by decide) ?_
        refine V_istore_n (pc := 52) (ls' := [(0, _), (1, _), (2, _), (3, _), (4, _)]) dX11_writeShareRow_52 (by decide) rfl ?_
        exact nxt _ _ (by rw [hr']) (Or.inr (by rw [hr', Nat.div_div_eq_div_mul, ← Nat.pow_succ, show (aq A 0 - 1 - j).succ = aq A 0 - j by omega])) (by omega)
  refine V_iload_n (pc := 0) dX11_writeShareRow_0 rfl ?_
  refine V_istore_n (pc := 1) (ls' := [(0, _), (1, _), (2, _), (3, _)]) dX11_writeShareRow_1 (by decide) rfl ?_
  refine V_aload_n (pc := 2) dX11_writeShareRow_2 rfl ?_
  refine V_getR (pc := 3) 11 0 dX11_writeShareRow_3 flX11_91 (by decide) h11.o h11.R0 ?_
  refine V_getR (pc := 6) 10 0 dX11_writeShareRow_6 flX11_116 (by decide) h11.O0.o h11.O0.R0 ?_
  refine V_getIE (pc := 9) 9 0 dX11_writeShareRow_9 flX11_120 (by decide) h11.O0.O0.o (hv.1) ?_
  refine V_iconst (pc := 12) (v := nI 1) dX11_writeShareRow_12 (by decide) ?_
  refine V_isub (pc := 13) dX11_writeShareRow_13 ?_
  refine V_istore (pc := 14) (ls' := [(0, _), (1, _), (2, _), (3, _), (4, _)]) dX11_writeShareRow_14 (by decide) rfl ?_
  exact key (aq A 0) (Nat.le_refl _) I n (fun _ _ => rfl) (fun b h1 h2 => by omega) (Or.inr (by rw [Nat.sub_self, Nat.pow_zero, Nat.div_one])) hn _ rfl
theorem c_X11_leastShare (h11 : Lay11 E S B) (hv : VlM I (B + 36 + 1) (aq A)) (hA : wfA A) {w : Nat → Nat} (hw : ∀ b, w b ≤ 60) {n k : Nat} (hk : 0 < k ∧ k ≤ 3) (hl : ∀ b, b < aq A 0 → I (B + 19) b = nI (w b)) (hs : ∀ b, b < aq A 0 → I (B + 20) b = nI (n / k ^ (aq A 0 - 1 - b) % k)) : Cd E kX11_leastShare 1 0 0 [.ref B, .int (nI k)] S I L (.int (nI (lea w k (aq A 0) n))) S I L := by
  have hq := hA.q
  have hnb := hq.nb
  have hbd : ∀ j m, m ≤ aq A 0 → sm (fun b => if n / k ^ (aq A 0 - 1 - b) % k = j then w b else 0) m ≤ 360 := fun j m hm => by
    have := sm_le (f := fun b => if n / k ^ (aq A 0 - 1 - b) % k = j then w b else 0) (c := 60) (n := m) (fun b _ => by have := hw b; split <;> omega)
    omega
  rw [← mnk_lea hw hk (by omega)]
  refine C_of (by decide) (Nat.le_of_ble_eq_true rfl) ?_
  refine V_sipush (pc := 0) (v := nI 360) dX11_leastShare_0 (by decide) ?_
  refine V_top (show nI 360 = nI (mnk (fun j => hsx w k (aq A 0) n j (aq A 0)) 0) from rfl) ?_
  refine V_istore_n (pc := 3) (ls' := [(0, _), (1, _), (2, _)]) dX11_leastShare_3 (by decide) rfl ?_
  refine V_iconst (pc := 4) (v := nI 0) dX11_leastShare_4 (by decide) ?_
  refine V_istore_n (pc := 5) (ls' := [(0, _), (1, _), (2, _), (3, _)]) dX11_leastShare_5 (by decide) rfl ?_
  refine loopUp (n := k) (P := fun j => V E kX11_leastShare (rmOf 1 0 0) (Qd E (.int (nI (mnk (fun j => hsx w k (aq A 0) n j (aq A 0)) k))) S I L) 0 0 S I L 6 [(0, .ref B), (1, .int (nI k)), (2, .int (nI (mnk (fun j => hsx w k (aq A 0) n j (aq A 0)) j))), (3, .int (nI j))] []) ?_ ?_ 0 (by omega)
  · skip
    refine V_iload_n (pc := 6) dX11_leastShare_6 rfl ?_
    refine V_iload_n (pc := 7) dX11_leastShare_7 rfl ?_
    refine V_icmp_geN (pc := 8) (tgt := 78) dX11_leastShare_8 (by decide) (by omega) (by omega) (fun c8 => ?_) (fun n8 => absurd n8 (by omega))
    refine V_iload_n (pc := 78) dX11_leastShare_78 rfl ?_
    refine V_iret (pc := 79) dX11_leastShare_79 rfl (by first | decide | omega) (by first | decide | omega) ?_
    exact ⟨rfl, rfl, rfl, rfl⟩
  · intro j hj ih
    have hmk := mnk_le (fun j => hsx w k (aq A 0) n j (aq A 0)) j
    have es : mnk (fun j => hsx w k (aq A 0) n j (aq A 0)) (j + 1) = min (mnk (fun j => hsx w k (aq A 0) n j (aq A 0)) j) (hsx w k (aq A 0) n j (aq A 0)) := rfl
    rw [es, hsx_fw] at ih
    have hb0 := hbd j (aq A 0) (Nat.le_refl _)
    have inn : ∀ b, b ≤ aq A 0 → V E kX11_leastShare (rmOf 1 0 0) (Qd E (.int (nI (mnk (fun j => hsx w k (aq A 0) n j (aq A 0)) k))) S I L) 0 0 S I L 17 [(0, .ref B), (1, .int (nI k)), (2, .int (nI (mnk (fun j => hsx w k (aq A 0) n j (aq A 0)) j))), (3, .int (nI j)), (4, .int (nI (sm (fun b => if n / k ^ (aq A 0 - 1 - b) % k = j then w b else 0) b))), (5, .int (nI b))] [] := by
      refine loopUp (n := aq A 0) (P := fun b => V E kX11_leastShare (rmOf 1 0 0) (Qd E (.int (nI (mnk (fun j => hsx w k (aq A 0) n j (aq A 0)) k))) S I L) 0 0 S I L 17 [(0, .ref B), (1, .int (nI k)), (2, .int (nI (mnk (fun j => hsx w k (aq A 0) n j (aq A 0)) j))), (3, .int (nI j)), (4, .int (nI (sm (fun b => if n / k ^ (aq A 0 - 1 - b) % k = j then w b else 0) b))), (5, .int (nI b))] []) ?_ ?_
      · skip
        refine V_iload (pc := 17) dX11_leastShare_17 rfl ?_
        refine V_aload_n (pc := 19) dX11_leastShare_19 rfl ?_
        refine V_getR (pc := 20) 11 0 dX11_leastShare_20 flX11_91 (by decide) h11.o h11.R0 ?_
        refine V_getR (pc := 23) 10 0 dX11_leastShare_23 flX11_116 (by decide) h11.O0.o h11.O0.R0 ?_
        refine V_getIE (pc := 26) 9 0 dX11_leastShare_26 flX11_120 (by decide) h11.O0.O0.o (hv.1) ?_
        refine V_icmp_geN (pc := 29) (tgt := 65) dX11_leastShare_29 (by decide) (by omega) (by omega) (fun c29 => ?_) (fun n29 => absurd n29 (by omega))
        refine V_iload_n (pc := 65) dX11_leastShare_65 rfl ?_
        refine V_iload (pc := 66) dX11_leastShare_66 rfl ?_
        refine V_mminN (pc := 68) dX11_leastShare_68 mlX11_365 (Nat.le_of_ble_eq_true rfl) (Nat.le_of_ble_eq_true rfl) ⟨Nat.le_of_ble_eq_true rfl, Nat.le_of_ble_eq_true rfl⟩ (by omega) (by omega) ?_
        refine V_istore_n (pc := 71) (ls' := [(0, _), (1, _), (2, _), (3, _), (4, _), (5, _)]) dX11_leastShare_71 (by decide) rfl ?_
        refine V_loc [0, 1, 2, 3] rfl ?_
        refine V_iinc1 (pc := 72) (ls' := [(0, _), (1, _), (2, _), (3, _)]) dX11_leastShare_72 rfl (by decide) rfl ?_
        refine V_goto (pc := 75) (tgt := 6) dX11_leastShare_75 (by decide) ?_
        exact ih
      · intro b hb ih2
        have hdg : n / k ^ (aq A 0 - 1 - b) % k < k := Nat.mod_lt _ hk.1
        rw [sm_s _ b] at ih2
        refine V_iload (pc := 17) dX11_leastShare_17 rfl ?_
        refine V_aload_n (pc := 19) dX11_leastShare_19 rfl ?_
        refine V_getR (pc := 20) 11 0 dX11_leastShare_20 flX11_91 (by decide) h11.o h11.R0 ?_
        refine V_getR (pc := 23) 10 0 dX11_leastShare_23 flX11_116 (by decide) h11.O0.o h11.O0.R0 ?_
        refine V_getIE (pc := 26) 9 0 dX11_leastShare_26 flX11_120 (by decide) h11.O0.O0.o (hv.1) ?_
        refine V_icmp_geN (pc := 29) (tgt := 65) dX11_leastShare_29 (by decide) (by omega) (by omega) (fun c29 => absurd c29 (by omega)) (fun n29 => ?_)
        refine V_iload (pc := 32) dX11_leastShare_32 rfl ?_
        refine V_aload_n (pc := 34) dX11_leastShare_34 rfl ?_
        refine V_getR (pc := 35) 11 17 dX11_leastShare_35 flX11_60 (by decide) h11.o h11.R17 ?_
        refine V_iload (pc := 38) dX11_leastShare_38 rfl ?_
        refine V_ialoadE (pc := 40) dX11_leastShare_40 h11.A17 (by first | decide | omega) (by omega) (hs b hb) ?_
        refine V_iload_n (pc := 41) dX11_leastShare_41 rfl ?_
        refine V_icmp_neN (pc := 42) (tgt := 55) dX11_leastShare_42 (by decide) (by omega) (by omega) (fun c42 => ?_) (fun n42 => ?_)
        · skip
          rw [if_neg c42] at ih2
          refine V_iconst (pc := 55) (v := nI 0) dX11_leastShare_55 (by decide) ?_
          refine V_iaddN (pc := 56) dX11_leastShare_56 ?_
          refine V_istore (pc := 57) (ls' := [(0, _), (1, _), (2, _), (3, _), (4, _), (5, _)]) dX11_leastShare_57 (by decide) rfl ?_
          refine V_iinc1 (pc := 59) (ls' := [(0, _), (1, _), (2, _), (3, _), (4, _), (5, _)]) dX11_leastShare_59 rfl (by decide) rfl ?_
          refine V_goto (pc := 62) (tgt := 17) dX11_leastShare_62 (by decide) ?_
          exact ih2
        · skip
          rw [if_pos n42] at ih2
          refine V_aload_n (pc := 45) dX11_leastShare_45 rfl ?_
          refine V_getR (pc := 46) 11 16 dX11_leastShare_46 flX11_57 (by decide) h11.o h11.R16 ?_
          refine V_iload (pc := 49) dX11_leastShare_49 rfl ?_
          refine V_ialoadE (pc := 51) dX11_leastShare_51 h11.A16 (by first | decide | omega) (by omega) (hl b hb) ?_
          refine V_goto (pc := 52) (tgt := 56) dX11_leastShare_52 (by decide) ?_
          refine V_iaddN (pc := 56) dX11_leastShare_56 ?_
          refine V_istore (pc := 57) (ls' := [(0, _), (1, _), (2, _), (3, _), (4, _), (5, _)]) dX11_leastShare_57 (by decide) rfl ?_
          refine V_iinc1 (pc := 59) (ls' := [(0, _), (1, _), (2, _), (3, _), (4, _), (5, _)]) dX11_leastShare_59 rfl (by decide) rfl ?_
          refine V_goto (pc := 62) (tgt := 17) dX11_leastShare_62 (by decide) ?_
          exact ih2
    refine V_iload_n (pc := 6) dX11_leastShare_6 rfl ?_
    refine V_iload_n (pc := 7) dX11_leastShare_7 rfl ?_
    refine V_icmp_geN (pc := 8) (tgt := 78) dX11_leastShare_8 (by decide) (by omega) (by omega) (fun c8 => absurd c8 (by omega)) (fun n8 => ?_)
    refine V_iconst (pc := 11) (v := nI 0) dX11_leastShare_11 (by decide) ?_
    refine V_istore (pc := 12) (ls' := [(0, _), (1, _), (2, _), (3, _), (4, _)]) dX11_leastShare_12 (by decide) rfl ?_
    refine V_iconst (pc := 14) (v := nI 0) dX11_leastShare_14 (by decide) ?_
    refine V_istore (pc := 15) (ls' := [(0, _), (1, _), (2, _), (3, _), (4, _), (5, _)]) dX11_leastShare_15 (by decide) rfl ?_
    exact inn 0 (by omega)
end CV2
