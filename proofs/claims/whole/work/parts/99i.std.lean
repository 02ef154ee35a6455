/-! THE CLASS: steady -/
/-- the cells of what was asked, and who keeps whom -/
def AkM (I : IT) (M : Nat) (as : Nat → Nat → Bool) (kp : Nat → Nat) : Prop := (∀ b s, b < 6 → s < 6 → I (M + 3) (b * 6 + s) = b2i (as b s)) ∧ ∀ s, s < 6 → I (M + 4) s = pred1 (kp s)
def pr6 (b m : Nat) : Int32 := if m = 0 then -1 else nI (b * 6 + (m - 1))
theorem pr6_none {b m : Nat} (hb : b < 6) (hm : m ≤ 6) : pr6 b m = -1 ↔ m = 0 := by
  unfold pr6
  by_cases z : m = 0
  · rw [if_pos z]; simp [z]
  · rw [if_neg z]
    constructor
    · intro h; exact absurd (show nI (b * 6 + (m - 1)) < 0 by rw [h]; decide) (nI_pos (by omega))
    · intro h; exact absurd h z
section DA
variable {E : EnT} {S : ST} {I : IT} {L : LT} {M : Nat} {law : LawT} {q : Nat → Nat} {as : Nat → Nat → Bool} {kp : Nat → Nat}
theorem mk1_s (kp : Nat → Nat) (b n : Nat) : mk1 kp b (n + 1) = if mk1 kp b n ≠ 0 then mk1 kp b n else if kp n = b + 1 then n + 1 else 0 := rfl
theorem c_X4_suitorThatKeeps (h4 : Lay4 E S M) (hkp : ∀ s, s < 6 → kp s ≤ 6) (hA : ∀ s, s < 6 → I (M + 4) s = pred1 (kp s)) {b : Nat} (hb : b < 6) : Cd E kX4_suitorThatKeeps 0 0 0 [.ref M, .int (nI b)] S I L (.int (pred1 (mk1 kp b 6))) S I L := by
  refine C_of (by decide) (Nat.le_of_ble_eq_true rfl) ?_
  refine V_iconst (pc := 0) (v := nI 0) dX4_suitorThatKeeps_0 (by decide) ?_
  refine V_istore_n (pc := 1) (ls' := [(0, _), (1, _), (2, _)]) dX4_suitorThatKeeps_1 (by decide) rfl ?_
  refine loopUp (n := 6) (P := fun n => mk1 kp b n = 0 → V E kX4_suitorThatKeeps (rmOf 0 0 0) (Qd E (.int (pred1 (mk1 kp b 6))) S I L) 0 0 S I L 2 [(0, .ref M), (1, .int (nI b)), (2, .int (nI n))] []) ?_ ?_ 0 (by omega) rfl
  · intro h0
    rw [h0, pred1_0]
    refine V_iload_n (pc := 2) dX4_suitorThatKeeps_2 rfl ?_
    refine V_bipush (pc := 3) (v := nI 6) dX4_suitorThatKeeps_3 (by decide) ?_
    refine V_icmp_geN (pc := 5) (tgt := 26) dX4_suitorThatKeeps_5 (by decide) (by omega) (by omega) (fun c5 => ?_) (fun n5 => absurd n5 (by omega))
    refine V_iconst (pc := 26) (v := (-1)) dX4_suitorThatKeeps_26 (by decide) ?_
    refine V_iret (pc := 27) dX4_suitorThatKeeps_27 rfl (by first | decide | omega) (by first | decide | omega) ?_
    exact ⟨rfl, rfl, rfl, rfl⟩
  · intro n hn ih h0
    have hk := hkp n hn
    by_cases e : kp n = b + 1
    · have key : ∀ m, n + 1 ≤ m → m ≤ 6 → mk1 kp b m = n + 1 := by
        intro m
        induction m with
        | zero => intro h; omega
        | succ m ihm =>
          intro h1 h2
          rw [mk1_s]
          by_cases z : m = n
          · subst z; rw [if_neg (fun w => w h0), if_pos e]
          · rw [ihm (by omega) (by omega), if_pos (by omega)]
      rw [key 6 (by omega) (by omega), pred1_s]
      refine V_iload_n (pc := 2) dX4_suitorThatKeeps_2 rfl ?_
      refine V_bipush (pc := 3) (v := nI 6) dX4_suitorThatKeeps_3 (by decide) ?_
      refine V_icmp_geN (pc := 5) (tgt := 26) dX4_suitorThatKeeps_5 (by decide) (by omega) (by omega) (fun c5 => absurd c5 (by omega)) (fun n5 => ?_)
      refine V_aload_n (pc := 8) dX4_suitorThatKeeps_8 rfl ?_
      refine V_getR (pc := 9) 4 3 dX4_suitorThatKeeps_9 flX4_21 (by decide) h4.o h4.R3 ?_
      refine V_iload_n (pc := 12) dX4_suitorThatKeeps_12 rfl ?_
      refine V_ialoadE (pc := 13) dX4_suitorThatKeeps_13 h4.A3 (by first | decide | omega) (by omega) (hA n hn) ?_
      refine V_iload_n (pc := 14) dX4_suitorThatKeeps_14 rfl ?_
      refine V_icmp_ne (pc := 15) (tgt := 20) dX4_suitorThatKeeps_15 (by decide) (fun c15 => absurd c15 (by exact fun z => z ((pred1_some (by omega) (by omega)).mpr e))) (fun n15 => ?_)
      refine V_iload_n (pc := 18) dX4_suitorThatKeeps_18 rfl ?_
      refine V_iret (pc := 19) dX4_suitorThatKeeps_19 rfl (by first | decide | omega) (by first | decide | omega) ?_
      exact ⟨rfl, rfl, rfl, rfl⟩
    · skip
      refine V_iload_n (pc := 2) dX4_suitorThatKeeps_2 rfl ?_
      refine V_bipush (pc := 3) (v := nI 6) dX4_suitorThatKeeps_3 (by decide) ?_
      refine V_icmp_geN (pc := 5) (tgt := 26) dX4_suitorThatKeeps_5 (by decide) (by omega) (by omega) (fun c5 => absurd c5 (by omega)) (fun n5 => ?_)
      refine V_aload_n (pc := 8) dX4_suitorThatKeeps_8 rfl ?_
      refine V_getR (pc := 9) 4 3 dX4_suitorThatKeeps_9 flX4_21 (by decide) h4.o h4.R3 ?_
      refine V_iload_n (pc := 12) dX4_suitorThatKeeps_12 rfl ?_
      refine V_ialoadE (pc := 13) dX4_suitorThatKeeps_13 h4.A3 (by first | decide | omega) (by omega) (hA n hn) ?_
      refine V_iload_n (pc := 14) dX4_suitorThatKeeps_14 rfl ?_
      refine V_icmp_ne (pc := 15) (tgt := 20) dX4_suitorThatKeeps_15 (by decide) (fun c15 => ?_) (fun n15 => absurd n15 (by exact fun z => e ((pred1_some (by omega) (by omega)).mp z)))
      refine V_iinc1 (pc := 20) (ls' := [(0, _), (1, _), (2, _)]) dX4_suitorThatKeeps_20 rfl (by decide) rfl ?_
      refine V_goto (pc := 23) (tgt := 2) dX4_suitorThatKeeps_23 (by decide) ?_
      exact ih (by rw [mk1_s, if_neg (fun w => w h0), if_neg e])
theorem c_X4_isLiked (h4 : Lay4 E S M) {s b c lb lc : Nat} (hs : s < 6) (hb : b < 6) (hc : c < 6) (hl : lb ≤ 99 ∧ lc ≤ 99) (h1 : I (M + 2) (b * 6 + s) = nI lb) (h2 : I (M + 2) (c * 6 + s) = nI lc) : Cd E kX4_isLiked 0 0 0 [.ref M, .int (nI s), .int (nI b), .int (nI c)] S I L (.int (b2i (decide (lc < lb ∨ (lb = lc ∧ b < c))))) S I L := by
  refine C_of (by decide) (Nat.le_of_ble_eq_true rfl) ?_
  refine V_aload_n (pc := 0) dX4_isLiked_0 rfl ?_
  refine V_getR (pc := 1) 4 1 dX4_isLiked_1 flX4_15 (by decide) h4.o h4.R1 ?_
  refine V_iload_n (pc := 4) dX4_isLiked_4 rfl ?_
  refine V_bipush (pc := 5) (v := nI 6) dX4_isLiked_5 (by decide) ?_
  refine V_imulN (pc := 7) dX4_isLiked_7 ?_
  refine V_iload_n (pc := 8) dX4_isLiked_8 rfl ?_
  refine V_iaddN (pc := 9) dX4_isLiked_9 ?_
  refine V_ialoadE (pc := 10) dX4_isLiked_10 h4.A1 (by first | decide | omega) (by omega) (h1) ?_
  refine V_istore (pc := 11) (ls' := [(0, _), (1, _), (2, _), (3, _), (4, _)]) dX4_isLiked_11 (by decide) rfl ?_
  refine V_aload_n (pc := 13) dX4_isLiked_13 rfl ?_
  refine V_getR (pc := 14) 4 1 dX4_isLiked_14 flX4_15 (by decide) h4.o h4.R1 ?_
  refine V_iload_n (pc := 17) dX4_isLiked_17 rfl ?_
  refine V_bipush (pc := 18) (v := nI 6) dX4_isLiked_18 (by decide) ?_
  refine V_imulN (pc := 20) dX4_isLiked_20 ?_
  refine V_iload_n (pc := 21) dX4_isLiked_21 rfl ?_
  refine V_iaddN (pc := 22) dX4_isLiked_22 ?_
  refine V_ialoadE (pc := 23) dX4_isLiked_23 h4.A1 (by first | decide | omega) (by omega) (h2) ?_
  refine V_istore (pc := 24) (ls' := [(0, _), (1, _), (2, _), (3, _), (4, _), (5, _)]) dX4_isLiked_24 (by decide) rfl ?_
  refine V_iload (pc := 26) dX4_isLiked_26 rfl ?_
  refine V_iload (pc := 28) dX4_isLiked_28 rfl ?_
  refine V_icmp_gtN (pc := 30) (tgt := 45) dX4_isLiked_30 (by decide) (by omega) (by omega) (fun c30 => ?_) (fun n30 => ?_)
  · skip
    rw [decide_eq_true (show lc < lb ∨ (lb = lc ∧ b < c) by omega)]
    refine V_iconst (pc := 45) (v := nI 1) dX4_isLiked_45 (by decide) ?_
    refine V_goto (pc := 46) (tgt := 50) dX4_isLiked_46 (by decide) ?_
    refine V_zretB (pc := 50) (p := true) dX4_isLiked_50 rfl rfl (by first | decide | omega) (by first | decide | omega) ?_
    exact ⟨rfl, rfl, rfl, rfl⟩
  · skip
    refine V_iload (pc := 33) dX4_isLiked_33 rfl ?_
    refine V_iload (pc := 35) dX4_isLiked_35 rfl ?_
    refine V_icmp_neN (pc := 37) (tgt := 49) dX4_isLiked_37 (by decide) (by omega) (by omega) (fun c37 => ?_) (fun n37 => ?_)
    · skip
      rw [decide_eq_false (show ¬ (lc < lb ∨ (lb = lc ∧ b < c)) by omega)]
      refine V_iconst (pc := 49) (v := nI 0) dX4_isLiked_49 (by decide) ?_
      refine V_zretB (pc := 50) (p := false) dX4_isLiked_50 rfl rfl (by first | decide | omega) (by first | decide | omega) ?_
      exact ⟨rfl, rfl, rfl, rfl⟩
    · skip
      refine V_iload_n (pc := 40) dX4_isLiked_40 rfl ?_
      refine V_iload_n (pc := 41) dX4_isLiked_41 rfl ?_
      refine V_icmp_geN (pc := 42) (tgt := 49) dX4_isLiked_42 (by decide) (by omega) (by omega) (fun c42 => ?_) (fun n42 => ?_)
      · skip
        rw [decide_eq_false (show ¬ (lc < lb ∨ (lb = lc ∧ b < c)) by omega)]
        refine V_iconst (pc := 49) (v := nI 0) dX4_isLiked_49 (by decide) ?_
        refine V_zretB (pc := 50) (p := false) dX4_isLiked_50 rfl rfl (by first | decide | omega) (by first | decide | omega) ?_
        exact ⟨rfl, rfl, rfl, rfl⟩
      · skip
        rw [decide_eq_true (show lc < lb ∨ (lb = lc ∧ b < c) by omega)]
        refine V_iconst (pc := 45) (v := nI 1) dX4_isLiked_45 (by decide) ?_
        refine V_goto (pc := 46) (tgt := 50) dX4_isLiked_46 (by decide) ?_
        refine V_zretB (pc := 50) (p := true) dX4_isLiked_50 rfl rfl (by first | decide | omega) (by first | decide | omega) ?_
        exact ⟨rfl, rfl, rfl, rfl⟩
/-- who can't ask, or has asked -/
def rfA (law : LawT) (q : Nat → Nat) (as : Nat → Nat → Bool) : Nat → Nat → Bool := fun b s => !(mayc law q b s && !as b s)
theorem rfA_f {law : LawT} {q : Nat → Nat} {as : Nat → Nat → Bool} {b s : Nat} : rfA law q as b s = false ↔ mayc law q b s = true ∧ as b s = false := by
  unfold rfA
  cases mayc law q b s <;> cases as b s <;> simp
theorem nst_s (rf : Nat → Nat → Bool) (dif : Nat → Nat → Nat) (b n : Nat) : nst rf dif b (n + 1) = if rf b n = false ∧ (nst rf dif b n = 0 ∨ dif b n < dif b (nst rf dif b n - 1)) then n + 1 else nst rf dif b n := rfl
theorem nst_le' (rf : Nat → Nat → Bool) (dif : Nat → Nat → Nat) (b : Nat) : ∀ n, nst rf dif b n ≤ n
  | 0 => Nat.le_refl _
  | n + 1 => by
    have := nst_le' rf dif b n
    rw [nst_s]
    split <;> omega
theorem lp_nx (h4 : Lay4 E S M) (hq : wq q) (hG : GaM I M law q (q 0) 0) (hA : AkM I M as kp) {b nb : Nat} (hb : b < q 0) {Q : QT} (hk : ∀ w5 : Int32, V E kX4_nextToAsk (rmOf 1 0 0) Q 0 0 S I L 101 [(0, .ref M), (1, .int (nI nb)), (2, .int (nI b)), (3, .int (pr6 b (nst (rfA law q as) (difq law q) b 6))), (4, .int (nI (b * 6 + 6)))] []) : V E kX4_nextToAsk (rmOf 1 0 0) Q 0 0 S I L 27 [(0, .ref M), (1, .int (nI nb)), (2, .int (nI b)), (3, .int (-1)), (4, .int (nI (b * 6)))] [] := by
  have hnb := hq.nb
  have key : ∀ n, n ≤ 6 → V E kX4_nextToAsk (rmOf 1 0 0) Q 0 0 S I L 27 [(0, .ref M), (1, .int (nI nb)), (2, .int (nI b)), (3, .int (pr6 b (nst (rfA law q as) (difq law q) b n))), (4, .int (nI (b * 6 + n)))] [] := by
    refine loopUp (n := 6) (P := fun n => V E kX4_nextToAsk (rmOf 1 0 0) Q 0 0 S I L 27 [(0, .ref M), (1, .int (nI nb)), (2, .int (nI b)), (3, .int (pr6 b (nst (rfA law q as) (difq law q) b n))), (4, .int (nI (b * 6 + n)))] []) ?_ ?_
    · skip
      refine V_iload (pc := 27) dX4_nextToAsk_27 rfl ?_
      refine V_iload_n (pc := 29) dX4_nextToAsk_29 rfl ?_
      refine V_iconst (pc := 30) (v := nI 1) dX4_nextToAsk_30 (by decide) ?_
      refine V_iaddN (pc := 31) dX4_nextToAsk_31 ?_
      refine V_bipush (pc := 32) (v := nI 6) dX4_nextToAsk_32 (by decide) ?_
      refine V_imulN (pc := 34) dX4_nextToAsk_34 ?_
      refine V_icmp_geN (pc := 35) (tgt := 101) dX4_nextToAsk_35 (by decide) (by omega) (by omega) (fun c35 => ?_) (fun n35 => absurd n35 (by omega))
      exact hk 0
    · intro n hn ih
      have hg := hG b n (by omega) hn
      have has := hA.1 b n (by omega) hn
      have hdl := difq_leC (law := law) hq (b := b) hn
      have hnl := nst_le' (rfA law q as) (difq law q) b n
      rw [nst_s] at ih
      have skp : ∀ w5 : Int32, ¬ (rfA law q as b n = false ∧ (nst (rfA law q as) (difq law q) b n = 0 ∨ difq law q b n < difq law q b (nst (rfA law q as) (difq law q) b n - 1))) → V E kX4_nextToAsk (rmOf 1 0 0) Q 0 0 S I L 95 [(0, .ref M), (1, .int (nI nb)), (2, .int (nI b)), (3, .int (pr6 b (nst (rfA law q as) (difq law q) b n))), (4, .int (nI (b * 6 + n))), (5, .int w5)] [] := by
        intro w5 hno
        rw [if_neg hno] at ih
        refine V_loc [0, 1, 2, 3, 4] rfl ?_
        refine V_iinc1 (pc := 95) (ls' := [(0, _), (1, _), (2, _), (3, _), (4, _)]) dX4_nextToAsk_95 rfl (by decide) rfl ?_
        refine V_goto (pc := 98) (tgt := 27) dX4_nextToAsk_98 (by decide) ?_
        exact ih
      have tak : ∀ w5 : Int32, (rfA law q as b n = false ∧ (nst (rfA law q as) (difq law q) b n = 0 ∨ difq law q b n < difq law q b (nst (rfA law q as) (difq law q) b n - 1))) → V E kX4_nextToAsk (rmOf 1 0 0) Q 0 0 S I L 92 [(0, .ref M), (1, .int (nI nb)), (2, .int (nI b)), (3, .int (pr6 b (nst (rfA law q as) (difq law q) b n))), (4, .int (nI (b * 6 + n))), (5, .int w5)] [] := by
        intro w5 hyes
        rw [if_pos hyes] at ih
        refine V_iload (pc := 92) dX4_nextToAsk_92 rfl ?_
        refine V_istore_n (pc := 94) (ls' := [(0, _), (1, _), (2, _), (3, _), (4, _), (5, _)]) dX4_nextToAsk_94 (by decide) rfl ?_
        refine V_loc [0, 1, 2, 3, 4] rfl ?_
        refine V_iinc1 (pc := 95) (ls' := [(0, _), (1, _), (2, _), (3, _), (4, _)]) dX4_nextToAsk_95 rfl (by decide) rfl ?_
        refine V_goto (pc := 98) (tgt := 27) dX4_nextToAsk_98 (by decide) ?_
        exact ih
      by_cases hm : mayc law q b n = true
      · have hap := (hg.1 ⟨Or.inl hb, hm⟩).1
        cases ha : as b n with
        | true =>
          rw [ha] at has
          refine V_iload (pc := 27) dX4_nextToAsk_27 rfl ?_
          refine V_iload_n (pc := 29) dX4_nextToAsk_29 rfl ?_
          refine V_iconst (pc := 30) (v := nI 1) dX4_nextToAsk_30 (by decide) ?_
          refine V_iaddN (pc := 31) dX4_nextToAsk_31 ?_
          refine V_bipush (pc := 32) (v := nI 6) dX4_nextToAsk_32 (by decide) ?_
          refine V_imulN (pc := 34) dX4_nextToAsk_34 ?_
          refine V_icmp_geN (pc := 35) (tgt := 101) dX4_nextToAsk_35 (by decide) (by omega) (by omega) (fun c35 => absurd c35 (by omega)) (fun n35 => ?_)
          refine V_aload_n (pc := 38) dX4_nextToAsk_38 rfl ?_
          refine V_getR (pc := 39) 4 0 dX4_nextToAsk_39 flX4_9 (by decide) h4.o h4.R0 ?_
          refine V_iload (pc := 42) dX4_nextToAsk_42 rfl ?_
          refine V_ialoadE (pc := 44) dX4_nextToAsk_44 h4.A0 (by first | decide | omega) (by omega) (hap) ?_
          refine V_iconst (pc := 45) (v := (-1)) dX4_nextToAsk_45 (by decide) ?_
          refine V_icmp_eq (pc := 46) (tgt := 63) dX4_nextToAsk_46 (by decide) (fun c46 => absurd c46 (by exact fun z => absurd (show nI (difq law q b n) < 0 by rw [z]; decide) (nI_pos (by omega)))) (fun n46 => ?_)
          refine V_aload_n (pc := 49) dX4_nextToAsk_49 rfl ?_
          refine V_getR (pc := 50) 4 2 dX4_nextToAsk_50 flX4_18 (by decide) h4.o h4.R2 ?_
          refine V_iload (pc := 53) dX4_nextToAsk_53 rfl ?_
          refine V_ialoadE (pc := 55) dX4_nextToAsk_55 h4.A2 (by first | decide | omega) (by omega) (has) ?_
          refine V_if_neB (pc := 56) (tgt := 63) dX4_nextToAsk_56 (by decide) (fun c56 => ?_) (fun n56 => absurd n56 (by exact fun z => by cases z))
          refine V_iconst (pc := 63) (v := nI 0) dX4_nextToAsk_63 (by decide) ?_
          refine V_istore (pc := 64) (ls' := [(0, _), (1, _), (2, _), (3, _), (4, _), (5, _)]) dX4_nextToAsk_64 (by decide) rfl ?_
          refine V_iload (pc := 66) dX4_nextToAsk_66 rfl ?_
          refine V_if_eqN (pc := 68) (tgt := 95) dX4_nextToAsk_68 (by decide) (by omega) (fun c68 => ?_) (fun n68 => absurd n68 (by omega))
          exact skp _ (fun z => by have := (rfA_f.mp z.1).2; rw [ha] at this; cases this)
        | false =>
          rw [ha] at has
          have hrf : rfA law q as b n = false := rfA_f.mpr ⟨hm, ha⟩
          by_cases h0 : nst (rfA law q as) (difq law q) b n = 0
          · skip
            refine V_iload (pc := 27) dX4_nextToAsk_27 rfl ?_
            refine V_iload_n (pc := 29) dX4_nextToAsk_29 rfl ?_
            refine V_iconst (pc := 30) (v := nI 1) dX4_nextToAsk_30 (by decide) ?_
            refine V_iaddN (pc := 31) dX4_nextToAsk_31 ?_
            refine V_bipush (pc := 32) (v := nI 6) dX4_nextToAsk_32 (by decide) ?_
            refine V_imulN (pc := 34) dX4_nextToAsk_34 ?_
            refine V_icmp_geN (pc := 35) (tgt := 101) dX4_nextToAsk_35 (by decide) (by omega) (by omega) (fun c35 => absurd c35 (by omega)) (fun n35 => ?_)
            refine V_aload_n (pc := 38) dX4_nextToAsk_38 rfl ?_
            refine V_getR (pc := 39) 4 0 dX4_nextToAsk_39 flX4_9 (by decide) h4.o h4.R0 ?_
            refine V_iload (pc := 42) dX4_nextToAsk_42 rfl ?_
            refine V_ialoadE (pc := 44) dX4_nextToAsk_44 h4.A0 (by first | decide | omega) (by omega) (hap) ?_
            refine V_iconst (pc := 45) (v := (-1)) dX4_nextToAsk_45 (by decide) ?_
            refine V_icmp_eq (pc := 46) (tgt := 63) dX4_nextToAsk_46 (by decide) (fun c46 => absurd c46 (by exact fun z => absurd (show nI (difq law q b n) < 0 by rw [z]; decide) (nI_pos (by omega)))) (fun n46 => ?_)
            refine V_aload_n (pc := 49) dX4_nextToAsk_49 rfl ?_
            refine V_getR (pc := 50) 4 2 dX4_nextToAsk_50 flX4_18 (by decide) h4.o h4.R2 ?_
            refine V_iload (pc := 53) dX4_nextToAsk_53 rfl ?_
            refine V_ialoadE (pc := 55) dX4_nextToAsk_55 h4.A2 (by first | decide | omega) (by omega) (has) ?_
            refine V_if_neB (pc := 56) (tgt := 63) dX4_nextToAsk_56 (by decide) (fun c56 => absurd c56 (by exact fun z => by cases z)) (fun n56 => ?_)
            refine V_iconst (pc := 59) (v := nI 1) dX4_nextToAsk_59 (by decide) ?_
            refine V_goto (pc := 60) (tgt := 64) dX4_nextToAsk_60 (by decide) ?_
            refine V_istore (pc := 64) (ls' := [(0, _), (1, _), (2, _), (3, _), (4, _), (5, _)]) dX4_nextToAsk_64 (by decide) rfl ?_
            refine V_iload (pc := 66) dX4_nextToAsk_66 rfl ?_
            refine V_if_eqN (pc := 68) (tgt := 95) dX4_nextToAsk_68 (by decide) (by omega) (fun c68 => absurd c68 (by omega)) (fun n68 => ?_)
            refine V_iload_n (pc := 71) dX4_nextToAsk_71 rfl ?_
            refine V_iconst (pc := 72) (v := (-1)) dX4_nextToAsk_72 (by decide) ?_
            refine V_icmp_eq (pc := 73) (tgt := 92) dX4_nextToAsk_73 (by decide) (fun c73 => ?_) (fun n73 => absurd n73 (by exact fun z => z ((pr6_none (by omega) (by omega)).mpr h0)))
            exact tak _ ⟨hrf, Or.inl h0⟩
          · have hok := nst_ok (rfA law q as) (difq law q) b n
            obtain ⟨t, ht, hnt, hrt, -⟩ : ∃ s, s < n ∧ nst (rfA law q as) (difq law q) b n = s + 1 ∧ rfA law q as b s = false ∧ ∀ t, t < n → rfA law q as b t = false → t = s ∨ bbet (difq law q) b s t := by
              rcases hok with ⟨z, -⟩ | z
              · exact absurd z h0
              · exact z
            have hgt := (hG b t (by omega) (by omega)).1 ⟨Or.inl hb, (rfA_f.mp hrt).1⟩
            have hdt := difq_leC (law := law) hq (b := b) (show t < 6 by omega)
            have ep : pr6 b (nst (rfA law q as) (difq law q) b n) = nI (b * 6 + t) := by unfold pr6; rw [if_neg h0, hnt, Nat.add_sub_cancel]
            rw [ep, hnt, Nat.add_sub_cancel] at skp tak
            rw [ep]
            refine V_iload (pc := 27) dX4_nextToAsk_27 rfl ?_
            refine V_iload_n (pc := 29) dX4_nextToAsk_29 rfl ?_
            refine V_iconst (pc := 30) (v := nI 1) dX4_nextToAsk_30 (by decide) ?_
            refine V_iaddN (pc := 31) dX4_nextToAsk_31 ?_
            refine V_bipush (pc := 32) (v := nI 6) dX4_nextToAsk_32 (by decide) ?_
            refine V_imulN (pc := 34) dX4_nextToAsk_34 ?_
            refine V_icmp_geN (pc := 35) (tgt := 101) dX4_nextToAsk_35 (by decide) (by omega) (by omega) (fun c35 => absurd c35 (by omega)) (fun n35 => ?_)
            refine V_aload_n (pc := 38) dX4_nextToAsk_38 rfl ?_
            refine V_getR (pc := 39) 4 0 dX4_nextToAsk_39 flX4_9 (by decide) h4.o h4.R0 ?_
            refine V_iload (pc := 42) dX4_nextToAsk_42 rfl ?_
            refine V_ialoadE (pc := 44) dX4_nextToAsk_44 h4.A0 (by first | decide | omega) (by omega) (hap) ?_
            refine V_iconst (pc := 45) (v := (-1)) dX4_nextToAsk_45 (by decide) ?_
            refine V_icmp_eq (pc := 46) (tgt := 63) dX4_nextToAsk_46 (by decide) (fun c46 => absurd c46 (by exact fun z => absurd (show nI (difq law q b n) < 0 by rw [z]; decide) (nI_pos (by omega)))) (fun n46 => ?_)
            refine V_aload_n (pc := 49) dX4_nextToAsk_49 rfl ?_
            refine V_getR (pc := 50) 4 2 dX4_nextToAsk_50 flX4_18 (by decide) h4.o h4.R2 ?_
            refine V_iload (pc := 53) dX4_nextToAsk_53 rfl ?_
            refine V_ialoadE (pc := 55) dX4_nextToAsk_55 h4.A2 (by first | decide | omega) (by omega) (has) ?_
            refine V_if_neB (pc := 56) (tgt := 63) dX4_nextToAsk_56 (by decide) (fun c56 => absurd c56 (by exact fun z => by cases z)) (fun n56 => ?_)
            refine V_iconst (pc := 59) (v := nI 1) dX4_nextToAsk_59 (by decide) ?_
            refine V_goto (pc := 60) (tgt := 64) dX4_nextToAsk_60 (by decide) ?_
            refine V_istore (pc := 64) (ls' := [(0, _), (1, _), (2, _), (3, _), (4, _), (5, _)]) dX4_nextToAsk_64 (by decide) rfl ?_
            refine V_iload (pc := 66) dX4_nextToAsk_66 rfl ?_
            refine V_if_eqN (pc := 68) (tgt := 95) dX4_nextToAsk_68 (by decide) (by omega) (fun c68 => absurd c68 (by omega)) (fun n68 => ?_)
            refine V_iload_n (pc := 71) dX4_nextToAsk_71 rfl ?_
            refine V_iconst (pc := 72) (v := (-1)) dX4_nextToAsk_72 (by decide) ?_
            refine V_icmp_eq (pc := 73) (tgt := 92) dX4_nextToAsk_73 (by decide) (fun c73 => absurd c73 (by exact fun z => absurd (show nI (b * 6 + t) < 0 by rw [z]; decide) (nI_pos (by omega)))) (fun n73 => ?_)
            refine V_aload_n (pc := 76) dX4_nextToAsk_76 rfl ?_
            refine V_getR (pc := 77) 4 0 dX4_nextToAsk_77 flX4_9 (by decide) h4.o h4.R0 ?_
            refine V_iload (pc := 80) dX4_nextToAsk_80 rfl ?_
            refine V_ialoadE (pc := 82) dX4_nextToAsk_82 h4.A0 (by first | decide | omega) (by omega) (hap) ?_
            refine V_aload_n (pc := 83) dX4_nextToAsk_83 rfl ?_
            refine V_getR (pc := 84) 4 0 dX4_nextToAsk_84 flX4_9 (by decide) h4.o h4.R0 ?_
            refine V_iload_n (pc := 87) dX4_nextToAsk_87 rfl ?_
            refine V_ialoadE (pc := 88) dX4_nextToAsk_88 h4.A0 (by first | decide | omega) (by omega) (hgt.1) ?_
            refine V_icmp_geN (pc := 89) (tgt := 95) dX4_nextToAsk_89 (by decide) (by omega) (by omega) (fun c89 => ?_) (fun n89 => ?_)
            · skip
              exact skp _ (fun z => by rcases z.2 with w | w <;> omega)
            · skip
              exact tak _ ⟨hrf, Or.inr (by omega)⟩
      · have hap := hg.2 (fun z => hm z.2)
        refine V_iload (pc := 27) dX4_nextToAsk_27 rfl ?_
        refine V_iload_n (pc := 29) dX4_nextToAsk_29 rfl ?_
        refine V_iconst (pc := 30) (v := nI 1) dX4_nextToAsk_30 (by decide) ?_
        refine V_iaddN (pc := 31) dX4_nextToAsk_31 ?_
        refine V_bipush (pc := 32) (v := nI 6) dX4_nextToAsk_32 (by decide) ?_
        refine V_imulN (pc := 34) dX4_nextToAsk_34 ?_
        refine V_icmp_geN (pc := 35) (tgt := 101) dX4_nextToAsk_35 (by decide) (by omega) (by omega) (fun c35 => absurd c35 (by omega)) (fun n35 => ?_)
        refine V_aload_n (pc := 38) dX4_nextToAsk_38 rfl ?_
        refine V_getR (pc := 39) 4 0 dX4_nextToAsk_39 flX4_9 (by decide) h4.o h4.R0 ?_
        refine V_iload (pc := 42) dX4_nextToAsk_42 rfl ?_
        refine V_ialoadE (pc := 44) dX4_nextToAsk_44 h4.A0 (by first | decide | omega) (by omega) (hap) ?_
        refine V_iconst (pc := 45) (v := (-1)) dX4_nextToAsk_45 (by decide) ?_
        refine V_icmp_eq (pc := 46) (tgt := 63) dX4_nextToAsk_46 (by decide) (fun c46 => ?_) (fun n46 => absurd n46 (by exact fun z => z rfl))
        refine V_iconst (pc := 63) (v := nI 0) dX4_nextToAsk_63 (by decide) ?_
        refine V_istore (pc := 64) (ls' := [(0, _), (1, _), (2, _), (3, _), (4, _), (5, _)]) dX4_nextToAsk_64 (by decide) rfl ?_
        refine V_iload (pc := 66) dX4_nextToAsk_66 rfl ?_
        refine V_if_eqN (pc := 68) (tgt := 95) dX4_nextToAsk_68 (by decide) (by omega) (fun c68 => ?_) (fun n68 => absurd n68 (by omega))
        exact skp _ (fun z => hm (rfA_f.mp z.1).1)
  exact key 0 (by omega)
theorem c_X4_nextToAsk (h4 : Lay4 E S M) (hq : wq q) (hG : GaM I M law q (q 0) 0) (hA : AkM I M as kp) (hkp : ∀ s, s < 6 → kp s ≤ 6) : C E kX4_nextToAsk 1 0 0 [.ref M, .int (nI (q 0))] S I L (fun r S' I' L' => ((r = some (.int (-1)) ∧ ∀ b, b < q 0 → mk1 kp b 6 = 0 → ∀ s, s < 6 → mayc law q b s = true → as b s = true) ∨ ∃ b s, r = some (.int (nI (b * 6 + s))) ∧ b < q 0 ∧ s < 6 ∧ mk1 kp b 6 = 0 ∧ mayc law q b s = true ∧ as b s = false ∧ ∀ t, t < 6 → mayc law q b t = true → as b t = false → t = s ∨ bbet (difq law q) b s t) ∧ S = S' ∧ I = I' ∧ L = L') := by
  have hnb := hq.nb
  refine C_of (by decide) (Nat.le_of_ble_eq_true rfl) ?_
  generalize hPost : (fun (r : Option Value) (S' : ST) (I' : IT) (L' : LT) => ((r = some (.int (-1)) ∧ ∀ b, b < q 0 → mk1 kp b 6 = 0 → ∀ s, s < 6 → mayc law q b s = true → as b s = true) ∨ ∃ b s, r = some (.int (nI (b * 6 + s))) ∧ b < q 0 ∧ s < 6 ∧ mk1 kp b 6 = 0 ∧ mayc law q b s = true ∧ as b s = false ∧ ∀ t, t < 6 → mayc law q b t = true → as b t = false → t = s ∨ bbet (difq law q) b s t) ∧ S = S' ∧ I = I' ∧ L = L') = post
  refine V_iconst (pc := 0) (v := nI 0) dX4_nextToAsk_0 (by decide) ?_
  refine V_istore_n (pc := 1) (ls' := [(0, _), (1, _), (2, _)]) dX4_nextToAsk_1 (by decide) rfl ?_
  refine loopUp (n := q 0) (P := fun b => (∀ c, c < b → mk1 kp c 6 = 0 → ∀ s, s < 6 → mayc law q c s = true → as c s = true) → V E kX4_nextToAsk (rmOf 1 0 0) (QM E post 0 0) 0 0 S I L 2 [(0, .ref M), (1, .int (nI (q 0))), (2, .int (nI b))] []) ?_ ?_ 0 (by omega) (fun c hc => absurd hc (Nat.not_lt_zero c))
  · intro hno
    have hpp : post (some (.int (-1))) S I L := by rw [← hPost]; exact ⟨Or.inl ⟨rfl, hno⟩, rfl, rfl, rfl⟩
    refine V_iload_n (pc := 2) dX4_nextToAsk_2 rfl ?_
    refine V_iload_n (pc := 3) dX4_nextToAsk_3 rfl ?_
    refine V_icmp_geN (pc := 4) (tgt := 114) dX4_nextToAsk_4 (by decide) (by omega) (by omega) (fun c4 => ?_) (fun n4 => absurd n4 (by omega))
    refine V_iconst (pc := 114) (v := (-1)) dX4_nextToAsk_114 (by decide) ?_
    refine V_iret (pc := 115) dX4_nextToAsk_115 rfl (by first | decide | omega) (by first | decide | omega) ?_
    exact hpp
  · intro b hb ih hno
    have hml : mk1 kp b 6 ≤ 6 := by
      rcases mk1_ok kp b 6 with ⟨z, -⟩ | ⟨s, z1, z2, -⟩ <;> omega
    by_cases h0 : mk1 kp b 6 = 0
    · have hok := nst_ok (rfA law q as) (difq law q) b 6
      have hnl := nst_le' (rfA law q as) (difq law q) b 6
      refine V_iload_n (pc := 2) dX4_nextToAsk_2 rfl ?_
      refine V_iload_n (pc := 3) dX4_nextToAsk_3 rfl ?_
      refine V_icmp_geN (pc := 4) (tgt := 114) dX4_nextToAsk_4 (by decide) (by omega) (by omega) (fun c4 => absurd c4 (by omega)) (fun n4 => ?_)
      refine V_aload_n (pc := 7) dX4_nextToAsk_7 rfl ?_
      refine V_iload_n (pc := 8) dX4_nextToAsk_8 rfl ?_
      refine V_callVd (pc := 9) (ci := 4) (c_X4_suitorThatKeeps h4 hkp hA.2 (by omega)) dX4_nextToAsk_9 mlX4_91 mkX4_suitorThatKeeps rfl rfl h4.o ⟨by decide, rfl⟩ ⟨Nat.le_of_ble_eq_true rfl, Nat.le_of_ble_eq_true rfl⟩ (Nat.le_of_ble_eq_true rfl) ⟨Nat.le_of_ble_eq_true rfl, Nat.le_of_ble_eq_true rfl⟩ ?_
      refine V_iconst (pc := 12) (v := (-1)) dX4_nextToAsk_12 (by decide) ?_
      refine V_icmp_eq (pc := 13) (tgt := 19) dX4_nextToAsk_13 (by decide) (fun c13 => ?_) (fun n13 => absurd n13 (by exact fun z => z ((pred1_none (by omega)).mpr h0)))
      refine V_iconst (pc := 19) (v := (-1)) dX4_nextToAsk_19 (by decide) ?_
      refine V_istore_n (pc := 20) (ls' := [(0, _), (1, _), (2, _), (3, _)]) dX4_nextToAsk_20 (by decide) rfl ?_
      refine V_iload_n (pc := 21) dX4_nextToAsk_21 rfl ?_
      refine V_bipush (pc := 22) (v := nI 6) dX4_nextToAsk_22 (by decide) ?_
      refine V_imulN (pc := 24) dX4_nextToAsk_24 ?_
      refine V_istore (pc := 25) (ls' := [(0, _), (1, _), (2, _), (3, _), (4, _)]) dX4_nextToAsk_25 (by decide) rfl ?_
      refine lp_nx h4 hq hG hA hb (fun _ => ?_)
      rcases hok with ⟨z1, z2⟩ | ⟨s, z1, z2, z3, z4⟩
      · rw [z1]
        refine V_iload_n (pc := 101) dX4_nextToAsk_101 rfl ?_
        refine V_iconst (pc := 102) (v := (-1)) dX4_nextToAsk_102 (by decide) ?_
        refine V_icmp_eq (pc := 103) (tgt := 108) dX4_nextToAsk_103 (by decide) (fun c103 => ?_) (fun n103 => absurd n103 (by exact fun w => w rfl))
        refine V_loc [0, 1, 2] rfl ?_
        refine V_iinc1 (pc := 108) (ls' := [(0, _), (1, _), (2, _)]) dX4_nextToAsk_108 rfl (by decide) rfl ?_
        refine V_goto (pc := 111) (tgt := 2) dX4_nextToAsk_111 (by decide) ?_
        refine ih (fun c hc hc0 s hs hm => ?_)
        by_cases e : c = b
        · subst e
          cases ha : as c s with
          | true => rfl
          | false => exact absurd (z2 s hs) (by rw [rfA_f.mpr ⟨hm, ha⟩]; decide)
        · exact hno c (by omega) hc0 s hs hm
      · rw [z2, show pr6 b (s + 1) = nI (b * 6 + s) from by unfold pr6; rw [if_neg (by omega), Nat.add_sub_cancel]]
        have hpp : post (some (.int (nI (b * 6 + s)))) S I L := by
          rw [← hPost]
          exact ⟨Or.inr ⟨b, s, rfl, hb, z1, h0, (rfA_f.mp z3).1, (rfA_f.mp z3).2, fun t ht hm ha => z4 t ht (rfA_f.mpr ⟨hm, ha⟩)⟩, rfl, rfl, rfl⟩
        refine V_iload_n (pc := 101) dX4_nextToAsk_101 rfl ?_
        refine V_iconst (pc := 102) (v := (-1)) dX4_nextToAsk_102 (by decide) ?_
        refine V_icmp_eq (pc := 103) (tgt := 108) dX4_nextToAsk_103 (by decide) (fun c103 => absurd c103 (by exact fun z => absurd (show nI (b * 6 + s) < 0 by rw [z]; decide) (nI_pos (by omega)))) (fun n103 => ?_)
        refine V_iload_n (pc := 106) dX4_nextToAsk_106 rfl ?_
        refine V_iret (pc := 107) dX4_nextToAsk_107 rfl (by first | decide | omega) (by first | decide | omega) ?_
        exact hpp
    · skip
      refine V_iload_n (pc := 2) dX4_nextToAsk_2 rfl ?_
      refine V_iload_n (pc := 3) dX4_nextToAsk_3 rfl ?_
      refine V_icmp_geN (pc := 4) (tgt := 114) dX4_nextToAsk_4 (by decide) (by omega) (by omega) (fun c4 => absurd c4 (by omega)) (fun n4 => ?_)
      refine V_aload_n (pc := 7) dX4_nextToAsk_7 rfl ?_
      refine V_iload_n (pc := 8) dX4_nextToAsk_8 rfl ?_
      refine V_callVd (pc := 9) (ci := 4) (c_X4_suitorThatKeeps h4 hkp hA.2 (by omega)) dX4_nextToAsk_9 mlX4_91 mkX4_suitorThatKeeps rfl rfl h4.o ⟨by decide, rfl⟩ ⟨Nat.le_of_ble_eq_true rfl, Nat.le_of_ble_eq_true rfl⟩ (Nat.le_of_ble_eq_true rfl) ⟨Nat.le_of_ble_eq_true rfl, Nat.le_of_ble_eq_true rfl⟩ ?_
      refine V_iconst (pc := 12) (v := (-1)) dX4_nextToAsk_12 (by decide) ?_
      refine V_icmp_eq (pc := 13) (tgt := 19) dX4_nextToAsk_13 (by decide) (fun c13 => absurd c13 (by exact fun z => h0 ((pred1_none (by omega)).mp z))) (fun n13 => ?_)
      refine V_goto (pc := 16) (tgt := 108) dX4_nextToAsk_16 (by decide) ?_
      refine V_iinc1 (pc := 108) (ls' := [(0, _), (1, _), (2, _)]) dX4_nextToAsk_108 rfl (by decide) rfl ?_
      refine V_goto (pc := 111) (tgt := 2) dX4_nextToAsk_111 (by decide) ?_
      exact ih (fun c hc hc0 s hs hm => if e : c = b then absurd (e ▸ hc0) h0 else hno c (by omega) hc0 s hs hm)
end DA
