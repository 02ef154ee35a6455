/-! THE CLASS: clashes, teeth filed -/
theorem sm_addC (f g : Nat → Nat) : ∀ n, sm f n + sm g n = sm (fun k => f k + g k) n
  | 0 => rfl
  | n + 1 => by rw [sm, sm, sm, ← sm_addC f g n]; omega
theorem and_bitN (a c t : Nat) : (a &&& c) / 2 ^ t % 2 = a / 2 ^ t % 2 * (c / 2 ^ t % 2) := by
  have h : ∀ x : Nat, x / 2 ^ t % 2 = (x.testBit t).toNat := fun x => by
    rw [Nat.testBit_eq_decide_div_mod_eq]
    rcases Nat.mod_two_eq_zero_or_one (x / 2 ^ t) with z | z
    · rw [z]; rfl
    · rw [z]; rfl
  rw [h, h, h, Nat.testBit_and]
  cases a.testBit t <;> cases c.testBit t <;> rfl
theorem bes_bits : ∀ b, b < 256 → ∀ t, t < 8 → b * 2 ^ 1 / 2 ^ t % 2 + b / 2 ^ 1 / 2 ^ t % 2 = pop8 (b &&& bes t) := by decide +kernel
theorem clash_bits {a b : Nat} (hb : b < 256) : pop8 (a &&& b * 2 ^ 1) + pop8 (a &&& b / 2 ^ 1) = sm (fun t => if a / 2 ^ t % 2 = 1 then pop8 (b &&& bes t) else 0) 8 := by
  rw [← pop8_sm, ← pop8_sm, sm_addC]
  refine sm_cong fun t ht => ?_
  rw [and_bitN, and_bitN, ← Nat.mul_add, bes_bits b hb t ht]
  rcases Nat.mod_two_eq_zero_or_one (a / 2 ^ t) with z | z
  · rw [z, if_neg (by omega)]; omega
  · rw [z, if_pos rfl]; omega
theorem nea_sum {q : Nat → Nat} (hq : wq q) {a b tu j : Nat} (hb : b < 6) : pop8 (nt q a j &&& nt q b ((j + tu) % 8) * 2 ^ 1) + pop8 (nt q a j &&& nt q b ((j + tu) % 8) / 2 ^ 1) = sm (fun t => pop8 (nea q a b tu j t)) 8 := by
  rw [clash_bits (nt_lt hq hb (Nat.mod_lt _ (by omega)))]
  refine sm_cong fun t ht => ?_
  unfold nea
  split
  · rfl
  · rfl
theorem and_lt256 {a c : Nat} (h : a < 256) : a &&& c < 256 := Nat.lt_of_le_of_lt Nat.and_le_left h
section CU
variable {E : EnT} {S : ST} {I : IT} {L : LT} {p v : Nat} {q : Nat → Nat}
theorem c_X8_clashes (h9 : Lay9 E S v) (hv : VlM I v q) (hq : wq q) {a b tu : Nat} (ha : a < 6) (hb : b < 6) (ht : tu < 8) : Cd E kX8_clashes 1 0 0 [.ref p, .ref v, .int (nI a), .int (nI b), .int (nI tu)] S I L (.int (nI (clc q a b tu))) S I L := by
  refine C_of (by decide) (Nat.le_of_ble_eq_true rfl) ?_
  refine V_iconst (pc := 0) (v := nI 0) dX8_clashes_0 (by decide) ?_
  refine V_istore (pc := 1) (ls' := [(0, _), (1, _), (2, _), (3, _), (4, _), (5, _)]) dX8_clashes_1 (by decide) rfl ?_
  refine V_iconst (pc := 3) (v := nI 0) dX8_clashes_3 (by decide) ?_
  refine V_istore (pc := 4) (ls' := [(0, _), (1, _), (2, _), (3, _), (4, _), (5, _), (6, _)]) dX8_clashes_4 (by decide) rfl ?_
  refine loopUp (P := fun j => V E kX8_clashes (rmOf 1 0 0) (Qd E (.int (nI (clc q a b tu))) S I L) 0 0 S I L 6 [(0, .ref p), (1, .ref v), (2, .int (nI a)), (3, .int (nI b)), (4, .int (nI tu)), (5, .int (nI (sm (fun j => sm (fun t => pop8 (nea q a b tu j t)) 8) j))), (6, .int (nI j))] []) (n := 8) ?_ ?_ 0 (by omega)
  · skip
    refine V_iload (pc := 6) dX8_clashes_6 rfl ?_
    refine V_bipush (pc := 8) (v := nI 8) dX8_clashes_8 (by decide) ?_
    refine V_icmp_geN (pc := 10) (tgt := 69) dX8_clashes_10 (by decide) (by omega) (by omega) (fun c10 => ?_) (fun n10 => absurd n10 (by omega))
    refine V_iload (pc := 69) dX8_clashes_69 rfl ?_
    refine V_iret (pc := 71) dX8_clashes_71 rfl (by first | decide | omega) (by first | decide | omega) ?_
    exact ⟨rfl, rfl, rfl, rfl⟩
  · intro j hj ih
    have n1 := nt_lt hq ha hj
    have n2 := nt_lt hq hb (Nat.mod_lt (j + tu) (show 0 < 8 by omega))
    rw [sm_s _ j, ← nea_sum hq hb] at ih
    refine V_iload (pc := 6) dX8_clashes_6 rfl ?_
    refine V_bipush (pc := 8) (v := nI 8) dX8_clashes_8 (by decide) ?_
    refine V_icmp_geN (pc := 10) (tgt := 69) dX8_clashes_10 (by decide) (by omega) (by omega) (fun c10 => absurd c10 (by omega)) (fun n10 => ?_)
    refine V_aload_n (pc := 13) dX8_clashes_13 rfl ?_
    refine V_iload_n (pc := 14) dX8_clashes_14 rfl ?_
    refine V_iload (pc := 15) dX8_clashes_15 rfl ?_
    refine V_callVd (pc := 17) (ci := 9) (c_X9_notesAt h9 hv hq ha hj) dX8_clashes_17 mlX8_80 mkX9_notesAt rfl rfl h9.o ⟨by decide, rfl⟩ ⟨Nat.le_of_ble_eq_true rfl, Nat.le_of_ble_eq_true rfl⟩ (Nat.le_of_ble_eq_true rfl) ⟨Nat.le_of_ble_eq_true rfl, Nat.le_of_ble_eq_true rfl⟩ ?_
    refine V_istore (pc := 20) (ls' := [(0, _), (1, _), (2, _), (3, _), (4, _), (5, _), (6, _), (7, _)]) dX8_clashes_20 (by decide) rfl ?_
    refine V_aload_n (pc := 22) dX8_clashes_22 rfl ?_
    refine V_iload_n (pc := 23) dX8_clashes_23 rfl ?_
    refine V_iload (pc := 24) dX8_clashes_24 rfl ?_
    refine V_iload (pc := 26) dX8_clashes_26 rfl ?_
    refine V_iaddN (pc := 28) dX8_clashes_28 ?_
    refine V_bipush (pc := 29) (v := nI 8) dX8_clashes_29 (by decide) ?_
    refine V_iremN (pc := 31) dX8_clashes_31 (by omega) (by omega) (by omega) ?_
    refine V_callVd (pc := 32) (ci := 9) (c_X9_notesAt h9 hv hq hb (Nat.mod_lt _ (by omega))) dX8_clashes_32 mlX8_80 mkX9_notesAt rfl rfl h9.o ⟨by decide, rfl⟩ ⟨Nat.le_of_ble_eq_true rfl, Nat.le_of_ble_eq_true rfl⟩ (Nat.le_of_ble_eq_true rfl) ⟨Nat.le_of_ble_eq_true rfl, Nat.le_of_ble_eq_true rfl⟩ ?_
    refine V_istore (pc := 35) (ls' := [(0, _), (1, _), (2, _), (3, _), (4, _), (5, _), (6, _), (7, _), (8, _)]) dX8_clashes_35 (by decide) rfl ?_
    refine V_iload (pc := 37) dX8_clashes_37 rfl ?_
    refine V_iload (pc := 39) dX8_clashes_39 rfl ?_
    refine V_iload (pc := 41) dX8_clashes_41 rfl ?_
    refine V_iconst (pc := 43) (v := nI 1) dX8_clashes_43 (by decide) ?_
    refine V_ishlN (pc := 44) dX8_clashes_44 (by omega) (by omega) ?_
    refine V_iandN (pc := 45) dX8_clashes_45 ?_
    refine V_callSd (pc := 46) (c_J6_bitCount_0f7a4) dX8_clashes_46 mlX8_42 mkJ6_bitCount_0f7a4 rfl rfl ⟨Nat.le_of_ble_eq_true rfl, Nat.le_of_ble_eq_true rfl⟩ (Nat.le_of_ble_eq_true rfl) ⟨Nat.le_of_ble_eq_true rfl, Nat.le_of_ble_eq_true rfl⟩ ?_
    rw [bcI_N _ (and_lt256 n1)]
    refine V_iload (pc := 49) dX8_clashes_49 rfl ?_
    refine V_iload (pc := 51) dX8_clashes_51 rfl ?_
    refine V_iconst (pc := 53) (v := nI 1) dX8_clashes_53 (by decide) ?_
    refine V_ishrN (pc := 54) dX8_clashes_54 (by omega) (by omega) ?_
    refine V_iandN (pc := 55) dX8_clashes_55 ?_
    refine V_callSd (pc := 56) (c_J6_bitCount_0f7a4) dX8_clashes_56 mlX8_42 mkJ6_bitCount_0f7a4 rfl rfl ⟨Nat.le_of_ble_eq_true rfl, Nat.le_of_ble_eq_true rfl⟩ (Nat.le_of_ble_eq_true rfl) ⟨Nat.le_of_ble_eq_true rfl, Nat.le_of_ble_eq_true rfl⟩ ?_
    rw [bcI_N _ (and_lt256 n1)]
    refine V_iaddN (pc := 59) dX8_clashes_59 ?_
    refine V_iaddN (pc := 60) dX8_clashes_60 ?_
    refine V_istore (pc := 61) (ls' := [(0, _), (1, _), (2, _), (3, _), (4, _), (5, _), (6, _), (7, _), (8, _)]) dX8_clashes_61 (by decide) rfl ?_
    refine V_loc [0, 1, 2, 3, 4, 5, 6] rfl ?_
    refine V_iinc1 (pc := 63) (ls' := [(0, _), (1, _), (2, _), (3, _), (4, _), (5, _), (6, _)]) dX8_clashes_63 rfl (by decide) rfl ?_
    refine V_goto (pc := 66) (tgt := 6) dX8_clashes_66 (by decide) ?_
    exact ih
def ClC (I : IT) (p : Nat) (q : Nat → Nat) (a b tu j t : Nat) : Prop := ∀ u, u < 8 → I (p + 5) u = nI (orr (fun j => nea q a b tu j u) (if u < t then j + 1 else j))
theorem c_X8_gatherClashes (h8 : Lay8 E S p) (h9 : Lay9 E S v) (hv : VlM I v q) (hq : wq q) (hvp : v + 6 < p ∨ p + 5 < v) {a b tu : Nat} (ha : a < 6) (hb : b < 6) (ht : tu < 8) : C E kX8_gatherClashes 1 0 0 [.ref p, .ref v, .int (nI a), .int (nI b), .int (nI tu)] S I L (fun r S' I' L' => r = none ∧ S = S' ∧ L = L' ∧ (∀ x, x ≠ p + 5 → I' x = I x) ∧ ∀ t, t < 8 → I' (p + 5) t = nI (cwt q a b tu t)) := by
  refine C_of (by decide) (Nat.le_of_ble_eq_true rfl) ?_
  have out : ∀ j, j ≤ 8 → ∀ J, (∀ x, x ≠ p + 5 → J x = I x) → ClC J p q a b tu j 0 → V E kX8_gatherClashes (rmOf 1 0 0) (QM E (fun r S' I' L' => r = none ∧ S = S' ∧ L = L' ∧ (∀ x, x ≠ p + 5 → I' x = I x) ∧ ∀ t, t < 8 → I' (p + 5) t = nI (cwt q a b tu t)) 0 0) 0 0 S J L 11 [(0, .ref p), (1, .ref v), (2, .int (nI a)), (3, .int (nI b)), (4, .int (nI tu)), (5, .int (nI j))] [] := by
    refine loopUp (n := 8) (P := fun j => ∀ J, (∀ x, x ≠ p + 5 → J x = I x) → ClC J p q a b tu j 0 → V E kX8_gatherClashes (rmOf 1 0 0) (QM E (fun r S' I' L' => r = none ∧ S = S' ∧ L = L' ∧ (∀ x, x ≠ p + 5 → I' x = I x) ∧ ∀ t, t < 8 → I' (p + 5) t = nI (cwt q a b tu t)) 0 0) 0 0 S J L 11 [(0, .ref p), (1, .ref v), (2, .int (nI a)), (3, .int (nI b)), (4, .int (nI tu)), (5, .int (nI j))] []) ?_ ?_
    · intro J hF hC
      refine V_iload (pc := 11) dX8_gatherClashes_11 rfl ?_
      refine V_bipush (pc := 13) (v := nI 8) dX8_gatherClashes_13 (by decide) ?_
      refine V_icmp_geN (pc := 15) (tgt := 109) dX8_gatherClashes_15 (by decide) (by omega) (by omega) (fun c15 => ?_) (fun n15 => absurd n15 (by omega))
      refine V_vret (pc := 109) dX8_gatherClashes_109 rfl (by first | decide | omega) (by first | decide | omega) ?_
      exact ⟨rfl, rfl, rfl, hF, fun t ht => by have := hC t ht; rw [if_neg (by omega)] at this; exact this⟩
    · intro j hj ih J hF hC
      have hv' : VlM J v q := hv.cg fun x a1 a2 => hF x (by omega)
      have n1 := nt_lt hq ha hj
      have n2 := nt_lt hq hb (Nat.mod_lt (j + tu) (show 0 < 8 by omega))
      have inn : ∀ t, t ≤ 8 → ∀ J, (∀ x, x ≠ p + 5 → J x = I x) → ClC J p q a b tu j t → V E kX8_gatherClashes (rmOf 1 0 0) (QM E (fun r S' I' L' => r = none ∧ S = S' ∧ L = L' ∧ (∀ x, x ≠ p + 5 → I' x = I x) ∧ ∀ t, t < 8 → I' (p + 5) t = nI (cwt q a b tu t)) 0 0) 0 0 S J L 45 [(0, .ref p), (1, .ref v), (2, .int (nI a)), (3, .int (nI b)), (4, .int (nI tu)), (5, .int (nI j)), (6, .int (nI (nt q a j))), (7, .int (nI (nt q b ((j + tu) % 8)))), (8, .int (nI t))] [] := by
        refine loopUp (n := 8) (P := fun t => ∀ J, (∀ x, x ≠ p + 5 → J x = I x) → ClC J p q a b tu j t → V E kX8_gatherClashes (rmOf 1 0 0) (QM E (fun r S' I' L' => r = none ∧ S = S' ∧ L = L' ∧ (∀ x, x ≠ p + 5 → I' x = I x) ∧ ∀ t, t < 8 → I' (p + 5) t = nI (cwt q a b tu t)) 0 0) 0 0 S J L 45 [(0, .ref p), (1, .ref v), (2, .int (nI a)), (3, .int (nI b)), (4, .int (nI tu)), (5, .int (nI j)), (6, .int (nI (nt q a j))), (7, .int (nI (nt q b ((j + tu) % 8)))), (8, .int (nI t))] []) ?_ ?_
        · intro J hF hC
          refine V_iload (pc := 45) dX8_gatherClashes_45 rfl ?_
          refine V_bipush (pc := 47) (v := nI 8) dX8_gatherClashes_47 (by decide) ?_
          refine V_icmp_geN (pc := 49) (tgt := 103) dX8_gatherClashes_49 (by decide) (by omega) (by omega) (fun c49 => ?_) (fun n49 => absurd n49 (by omega))
          refine V_loc [0, 1, 2, 3, 4, 5] rfl ?_
          refine V_iinc1 (pc := 103) (ls' := [(0, _), (1, _), (2, _), (3, _), (4, _), (5, _)]) dX8_gatherClashes_103 rfl (by decide) rfl ?_
          refine V_goto (pc := 106) (tgt := 11) dX8_gatherClashes_106 (by decide) ?_
          exact ih J hF (fun u hu => by have := hC u hu; rw [if_pos hu] at this; rw [if_neg (by omega)]; exact this)
        · intro t ht2 ih2 J hF hC
          have hp2 := pow8 ht2
          have hct := hC t ht2
          rw [if_neg (by omega)] at hct
          have ebs : (1 * 2 ^ t * 2 ^ 1 ||| 1 * 2 ^ t / 2 ^ 1) = bes t := by unfold bes; show 1 * 2 ^ t * 2 ||| 1 * 2 ^ t / 2 = _; rw [Nat.one_mul, Nat.pow_succ]
          have nxt : ∀ w, w = nea q a b tu j t → ∀ (w9 : Int32), V E kX8_gatherClashes (rmOf 1 0 0) (QM E (fun r S' I' L' => r = none ∧ S = S' ∧ L = L' ∧ (∀ x, x ≠ p + 5 → I' x = I x) ∧ ∀ t, t < 8 → I' (p + 5) t = nI (cwt q a b tu t)) 0 0) 0 0 S J L 95 [(0, .ref p), (1, .ref v), (2, .int (nI a)), (3, .int (nI b)), (4, .int (nI tu)), (5, .int (nI j)), (6, .int (nI (nt q a j))), (7, .int (nI (nt q b ((j + tu) % 8)))), (8, .int (nI t)), (9, .int w9)] [.int (nI w), .int (nI (orr (fun j => nea q a b tu j t) j)), .int (nI t), .ref (p + 5)] := by
            intro w hw w9
            subst hw
            refine V_iorN (pc := 95) dX8_gatherClashes_95 ?_
            refine V_iastore (pc := 96) dX8_gatherClashes_96 h8.A4 (by first | decide | omega) (by omega) ?_
            refine V_loc [0, 1, 2, 3, 4, 5, 6, 7, 8] rfl ?_
            refine V_iinc1 (pc := 97) (ls' := [(0, _), (1, _), (2, _), (3, _), (4, _), (5, _), (6, _), (7, _), (8, _)]) dX8_gatherClashes_97 rfl (by decide) rfl ?_
            refine V_goto (pc := 100) (tgt := 45) dX8_gatherClashes_100 (by decide) ?_
            refine ih2 _ (fun x h => by rw [up2_row h]; exact hF x h) (fun u hu => ?_)
            by_cases e : u = t
            · subst e; rw [up2_self, if_pos (by omega)]; rfl
            · rw [up2_nej e, hC u hu]
              by_cases e2 : u < t
              · rw [if_pos e2, if_pos (by omega)]
              · rw [if_neg e2, if_neg (by omega)]
          refine V_iload (pc := 45) dX8_gatherClashes_45 rfl ?_
          refine V_bipush (pc := 47) (v := nI 8) dX8_gatherClashes_47 (by decide) ?_
          refine V_icmp_geN (pc := 49) (tgt := 103) dX8_gatherClashes_49 (by decide) (by omega) (by omega) (fun c49 => absurd c49 (by omega)) (fun n49 => ?_)
          refine V_iconst (pc := 52) (v := nI 1) dX8_gatherClashes_52 (by decide) ?_
          refine V_iload (pc := 53) dX8_gatherClashes_53 rfl ?_
          refine V_ishlN (pc := 55) dX8_gatherClashes_55 (by omega) (by omega) ?_
          refine V_iconst (pc := 56) (v := nI 1) dX8_gatherClashes_56 (by decide) ?_
          refine V_ishlN (pc := 57) dX8_gatherClashes_57 (by omega) (by omega) ?_
          refine V_iconst (pc := 58) (v := nI 1) dX8_gatherClashes_58 (by decide) ?_
          refine V_iload (pc := 59) dX8_gatherClashes_59 rfl ?_
          refine V_ishlN (pc := 61) dX8_gatherClashes_61 (by omega) (by omega) ?_
          refine V_iconst (pc := 62) (v := nI 1) dX8_gatherClashes_62 (by decide) ?_
          refine V_ishrN (pc := 63) dX8_gatherClashes_63 (by omega) (by omega) ?_
          refine V_iorN (pc := 64) dX8_gatherClashes_64 ?_
          rw [ebs]
          refine V_istore (pc := 65) (ls' := [(0, _), (1, _), (2, _), (3, _), (4, _), (5, _), (6, _), (7, _), (8, _), (9, _)]) dX8_gatherClashes_65 (by decide) rfl ?_
          refine V_aload_n (pc := 67) dX8_gatherClashes_67 rfl ?_
          refine V_getR (pc := 68) 8 4 dX8_gatherClashes_68 flX8_24 (by decide) h8.o h8.R4 ?_
          refine V_iload (pc := 71) dX8_gatherClashes_71 rfl ?_
          refine V_dup2 (pc := 73) dX8_gatherClashes_73 rfl rfl ?_
          refine V_ialoadE (pc := 74) dX8_gatherClashes_74 h8.A4 (by first | decide | omega) (by omega) (hct) ?_
          refine V_iload (pc := 75) dX8_gatherClashes_75 rfl ?_
          refine V_iload (pc := 77) dX8_gatherClashes_77 rfl ?_
          refine V_ishrN (pc := 79) dX8_gatherClashes_79 (by omega) (by omega) ?_
          refine V_iconst (pc := 80) (v := nI 1) dX8_gatherClashes_80 (by decide) ?_
          refine V_iand1 (pc := 81) dX8_gatherClashes_81 ?_
          refine V_iconst (pc := 82) (v := nI 1) dX8_gatherClashes_82 (by decide) ?_
          refine V_icmp_neN (pc := 83) (tgt := 94) dX8_gatherClashes_83 (by decide) (by omega) (by omega) (fun c83 => ?_) (fun n83 => ?_)
          · skip
            refine V_iconst (pc := 94) (v := nI 0) dX8_gatherClashes_94 (by decide) ?_
            first
            | exact nxt _ (by unfold nea; rw [if_pos n83]) _
            | exact nxt _ (by unfold nea; rw [if_neg c83]) _
            | fail
          · skip
            refine V_iload (pc := 86) dX8_gatherClashes_86 rfl ?_
            refine V_iload (pc := 88) dX8_gatherClashes_88 rfl ?_
            refine V_iandN (pc := 90) dX8_gatherClashes_90 ?_
            refine V_goto (pc := 91) (tgt := 95) dX8_gatherClashes_91 (by decide) ?_
            first
            | exact nxt _ (by unfold nea; rw [if_pos n83]) _
            | exact nxt _ (by unfold nea; rw [if_neg c83]) _
            | fail
      refine V_iload (pc := 11) dX8_gatherClashes_11 rfl ?_
      refine V_bipush (pc := 13) (v := nI 8) dX8_gatherClashes_13 (by decide) ?_
      refine V_icmp_geN (pc := 15) (tgt := 109) dX8_gatherClashes_15 (by decide) (by omega) (by omega) (fun c15 => absurd c15 (by omega)) (fun n15 => ?_)
      refine V_aload_n (pc := 18) dX8_gatherClashes_18 rfl ?_
      refine V_iload_n (pc := 19) dX8_gatherClashes_19 rfl ?_
      refine V_iload (pc := 20) dX8_gatherClashes_20 rfl ?_
      refine V_callVd (pc := 22) (ci := 9) (c_X9_notesAt h9 hv' hq ha hj) dX8_gatherClashes_22 mlX8_80 mkX9_notesAt rfl rfl h9.o ⟨by decide, rfl⟩ ⟨Nat.le_of_ble_eq_true rfl, Nat.le_of_ble_eq_true rfl⟩ (Nat.le_of_ble_eq_true rfl) ⟨Nat.le_of_ble_eq_true rfl, Nat.le_of_ble_eq_true rfl⟩ ?_
      refine V_istore (pc := 25) (ls' := [(0, _), (1, _), (2, _), (3, _), (4, _), (5, _), (6, _)]) dX8_gatherClashes_25 (by decide) rfl ?_
      refine V_aload_n (pc := 27) dX8_gatherClashes_27 rfl ?_
      refine V_iload_n (pc := 28) dX8_gatherClashes_28 rfl ?_
      refine V_iload (pc := 29) dX8_gatherClashes_29 rfl ?_
      refine V_iload (pc := 31) dX8_gatherClashes_31 rfl ?_
      refine V_iaddN (pc := 33) dX8_gatherClashes_33 ?_
      refine V_bipush (pc := 34) (v := nI 8) dX8_gatherClashes_34 (by decide) ?_
      refine V_iremN (pc := 36) dX8_gatherClashes_36 (by omega) (by omega) (by omega) ?_
      refine V_callVd (pc := 37) (ci := 9) (c_X9_notesAt h9 hv' hq hb (Nat.mod_lt _ (by omega))) dX8_gatherClashes_37 mlX8_80 mkX9_notesAt rfl rfl h9.o ⟨by decide, rfl⟩ ⟨Nat.le_of_ble_eq_true rfl, Nat.le_of_ble_eq_true rfl⟩ (Nat.le_of_ble_eq_true rfl) ⟨Nat.le_of_ble_eq_true rfl, Nat.le_of_ble_eq_true rfl⟩ ?_
      refine V_istore (pc := 40) (ls' := [(0, _), (1, _), (2, _), (3, _), (4, _), (5, _), (6, _), (7, _)]) dX8_gatherClashes_40 (by decide) rfl ?_
      refine V_iconst (pc := 42) (v := nI 0) dX8_gatherClashes_42 (by decide) ?_
      refine V_istore (pc := 43) (ls' := [(0, _), (1, _), (2, _), (3, _), (4, _), (5, _), (6, _), (7, _), (8, _)]) dX8_gatherClashes_43 (by decide) rfl ?_
      exact inn 0 (by omega) J hF hC
  refine V_aload_n (pc := 0) dX8_gatherClashes_0 rfl ?_
  refine V_getR (pc := 1) 8 4 dX8_gatherClashes_1 flX8_24 (by decide) h8.o h8.R4 ?_
  refine V_iconst (pc := 4) (v := nI 0) dX8_gatherClashes_4 (by decide) ?_
  refine V_callSn (pc := 5) (c_J7_fill_53178 h8.A4 (by omega)) dX8_gatherClashes_5 mlX8_54 mkJ7_fill_53178 rfl rfl ⟨Nat.le_of_ble_eq_true rfl, Nat.le_of_ble_eq_true rfl⟩ (Nat.le_of_ble_eq_true rfl) ⟨Nat.le_of_ble_eq_true rfl, Nat.le_of_ble_eq_true rfl⟩ ?_
  refine V_iconst (pc := 8) (v := nI 0) dX8_gatherClashes_8 (by decide) ?_
  refine V_istore (pc := 9) (ls' := [(0, _), (1, _), (2, _), (3, _), (4, _), (5, _)]) dX8_gatherClashes_9 (by decide) rfl ?_
  refine out 0 (by omega) _ (fun x hx => upr_row hx) (fun u hu => ?_)
  rw [if_neg (by omega), upr_self, if_pos hu]
  rfl
theorem c_X8_file (h8 : Lay8 E S p) (h9 : Lay9 E S v) (hv : VlM I v q) (hq : wq q) (hvp : v + 6 < p ∨ p + 5 < v) {a b tu : Nat} (ha : a < 6) (hb : b < 6) (ht : tu < 8) : C E kX8_file 2 0 0 [.ref p, .ref v, .int (nI a), .int (nI b), .int (nI tu)] S I L (fun r S' I' L' => r = none ∧ S = S' ∧ L = L' ∧ (∀ x, x ≠ p + 5 → x ≠ p → I' x = I x) ∧ I' p 5 = nI (fil (cwt q a b tu) 256).1 ∧ I' p 6 = nI (fil (cwt q a b tu) 256).2.1 ∧ I' p 7 = nI (fil (cwt q a b tu) 256).2.2) := by
  have hcl : ∀ t, cwt q a b tu t < 256 := fun t => orr_lt (fun j => nea_lt hq hb) 8
  refine C_of (by decide) (Nat.le_of_ble_eq_true rfl) ?_
  have key : ∀ s, s ≤ 256 → ∀ J, (∀ x, x ≠ p + 5 → x ≠ p → J x = I x) → (∀ t, t < 8 → J (p + 5) t = nI (cwt q a b tu t)) → (s = 0 → J p 5 = nI 17) → (s ≠ 0 → J p 5 = nI (fil (cwt q a b tu) s).1 ∧ J p 6 = nI (fil (cwt q a b tu) s).2.1 ∧ J p 7 = nI (fil (cwt q a b tu) s).2.2) → V E kX8_file (rmOf 2 0 0) (QM E (fun r S' I' L' => r = none ∧ S = S' ∧ L = L' ∧ (∀ x, x ≠ p + 5 → x ≠ p → I' x = I x) ∧ I' p 5 = nI (fil (cwt q a b tu) 256).1 ∧ I' p 6 = nI (fil (cwt q a b tu) 256).2.1 ∧ I' p 7 = nI (fil (cwt q a b tu) 256).2.2) 0 0) 0 0 S J L 18 [(0, .ref p), (1, .ref v), (2, .int (nI a)), (3, .int (nI b)), (4, .int (nI tu)), (5, .int (nI s))] [] := by
    generalize hcw : cwt q a b tu = cw at hcl
    generalize hP : (fun (r : Option Value) (S' : ST) (I' : IT) (L' : LT) => r = none ∧ S = S' ∧ L = L' ∧ (∀ x, x ≠ p + 5 → x ≠ p → I' x = I x) ∧ I' p 5 = nI (fil cw 256).1 ∧ I' p 6 = nI (fil cw 256).2.1 ∧ I' p 7 = nI (fil cw 256).2.2) = post
    refine loopUp (n := 256) (P := fun s => ∀ J, (∀ x, x ≠ p + 5 → x ≠ p → J x = I x) → (∀ t, t < 8 → J (p + 5) t = nI (cw t)) → (s = 0 → J p 5 = nI 17) → (s ≠ 0 → J p 5 = nI (fil cw s).1 ∧ J p 6 = nI (fil cw s).2.1 ∧ J p 7 = nI (fil cw s).2.2) → V E kX8_file (rmOf 2 0 0) (QM E post 0 0) 0 0 S J L 18 [(0, .ref p), (1, .ref v), (2, .int (nI a)), (3, .int (nI b)), (4, .int (nI tu)), (5, .int (nI s))] []) ?_ ?_
    · intro J hF hC h0 h1
      have hpp : post none S J L := by rw [← hP]; exact ⟨rfl, rfl, rfl, hF, h1 (by omega)⟩
      refine V_iload (pc := 18) dX8_file_18 rfl ?_
      refine V_sipush (pc := 20) (v := nI 256) dX8_file_20 (by decide) ?_
      refine V_icmp_geN (pc := 23) (tgt := 117) dX8_file_23 (by decide) (by omega) (by omega) (fun c23 => ?_) (fun n23 => absurd n23 (by omega))
      refine V_vret (pc := 117) dX8_file_117 rfl (by first | decide | omega) (by first | decide | omega) ?_
      exact hpp
    · intro s hs ih J hF hC h0 h1
      have g1 := pop8_le s
      have g2 := pop8_le (thr1 cw s 8)
      have g3 := fil_le (cw := cw) s
      unfold FARN at g3
      have g4 : thr1 cw s 8 < 256 := orr_lt (fun t => by show (if _ then 0 else cw t) < 256; split; omega; exact hcl t) 8
      have e5 : ∃ m, J p 5 = nI m ∧ m ≤ 100000000 ∧ (pop8 s + pop8 (thr1 cw s 8) < (fil cw s).1 ↔ pop8 s + pop8 (thr1 cw s 8) < m) := by
        by_cases z : s = 0
        · refine ⟨17, h0 z, by omega, ?_⟩
          subst z
          have : (fil cw 0).1 = 100000000 := rfl
          omega
        · exact ⟨_, (h1 z).1, g3, Iff.rfl⟩
      obtain ⟨m, hm, hm2, hmi⟩ := e5
      have es := fil_s cw s
      have inn : V E kX8_file (rmOf 2 0 0) (QM E post 0 0) 0 0 S J L 71 [(0, .ref p), (1, .ref v), (2, .int (nI a)), (3, .int (nI b)), (4, .int (nI tu)), (5, .int (nI s)), (6, .int (nI (thr1 cw s 8))), (7, .int (nI 8))] [] := by
        refine V_iload (pc := 71) dX8_file_71 rfl ?_
        refine V_callSd (pc := 73) (c_J6_bitCount_0f7a4) dX8_file_73 mlX8_42 mkJ6_bitCount_0f7a4 rfl rfl ⟨Nat.le_of_ble_eq_true rfl, Nat.le_of_ble_eq_true rfl⟩ (Nat.le_of_ble_eq_true rfl) ⟨Nat.le_of_ble_eq_true rfl, Nat.le_of_ble_eq_true rfl⟩ ?_
        rw [bcI_N _ hs]
        refine V_iload (pc := 76) dX8_file_76 rfl ?_
        refine V_callSd (pc := 78) (c_J6_bitCount_0f7a4) dX8_file_78 mlX8_42 mkJ6_bitCount_0f7a4 rfl rfl ⟨Nat.le_of_ble_eq_true rfl, Nat.le_of_ble_eq_true rfl⟩ (Nat.le_of_ble_eq_true rfl) ⟨Nat.le_of_ble_eq_true rfl, Nat.le_of_ble_eq_true rfl⟩ ?_
        rw [bcI_N _ g4]
        refine V_iaddN (pc := 81) dX8_file_81 ?_
        refine V_istore (pc := 82) (ls' := [(0, _), (1, _), (2, _), (3, _), (4, _), (5, _), (6, _), (7, _)]) dX8_file_82 (by decide) rfl ?_
        refine V_iload (pc := 84) dX8_file_84 rfl ?_
        refine V_aload_n (pc := 86) dX8_file_86 rfl ?_
        refine V_getIE (pc := 87) 8 5 dX8_file_87 flX8_27 (by decide) h8.o (hm) ?_
        refine V_icmp_geN (pc := 90) (tgt := 111) dX8_file_90 (by decide) (by omega) (by omega) (fun c90 => ?_) (fun n90 => ?_)
        · skip
          try rw [if_neg (fun w => by have := hmi.mp w; omega)] at es
          refine V_loc [0, 1, 2, 3, 4, 5] rfl ?_
          refine V_iinc1 (pc := 111) (ls' := [(0, _), (1, _), (2, _), (3, _), (4, _), (5, _)]) dX8_file_111 rfl (by decide) rfl ?_
          refine V_goto (pc := 114) (tgt := 18) dX8_file_114 (by decide) ?_
          first
          | (refine ih _ (fun x a1 a2 => by rw [up2_row a2, up2_row a2, up2_row a2]; exact hF x a1 a2) (fun t ht => by rw [up2_ne (by omega), up2_ne (by omega), up2_ne (by omega)]; exact hC t ht) (fun w => absurd w (by omega)) (fun _ => ?_)
             rw [es]
             exact ⟨by rw [up2_nej (by omega), up2_nej (by omega), up2_self], by rw [up2_nej (by omega), up2_self], by rw [up2_self]⟩)
          | (refine ih _ hF hC (fun w => absurd w (by omega)) (fun _ => ?_)
             rw [es]
             refine h1 (fun w => ?_)
             have h17 := h0 w
             rw [hm] at h17
             have := (nI_eq (by omega) (by omega)).mp h17
             omega)
          | fail
        · skip
          rw [if_pos (hmi.mpr (by omega))] at es
          refine V_aload_n (pc := 93) dX8_file_93 rfl ?_
          refine V_iload (pc := 94) dX8_file_94 rfl ?_
          refine V_putI (pc := 96) 8 5 dX8_file_96 flX8_27 (by decide) (by decide) (Or.inl rfl) rfl rfl h8.o ?_
          refine V_aload_n (pc := 99) dX8_file_99 rfl ?_
          refine V_iload (pc := 100) dX8_file_100 rfl ?_
          refine V_putI (pc := 102) 8 6 dX8_file_102 flX8_31 (by decide) (by decide) (Or.inl rfl) rfl rfl h8.o ?_
          refine V_aload_n (pc := 105) dX8_file_105 rfl ?_
          refine V_iload (pc := 106) dX8_file_106 rfl ?_
          refine V_putI (pc := 108) 8 7 dX8_file_108 flX8_34 (by decide) (by decide) (Or.inl rfl) rfl rfl h8.o ?_
          try rw [if_neg (fun w => by have := hmi.mp w; omega)] at es
          refine V_loc [0, 1, 2, 3, 4, 5] rfl ?_
          refine V_iinc1 (pc := 111) (ls' := [(0, _), (1, _), (2, _), (3, _), (4, _), (5, _)]) dX8_file_111 rfl (by decide) rfl ?_
          refine V_goto (pc := 114) (tgt := 18) dX8_file_114 (by decide) ?_
          first
          | (refine ih _ (fun x a1 a2 => by rw [up2_row a2, up2_row a2, up2_row a2]; exact hF x a1 a2) (fun t ht => by rw [up2_ne (by omega), up2_ne (by omega), up2_ne (by omega)]; exact hC t ht) (fun w => absurd w (by omega)) (fun _ => ?_)
             rw [es]
             exact ⟨by rw [up2_nej (by omega), up2_nej (by omega), up2_self], by rw [up2_nej (by omega), up2_self], by rw [up2_self]⟩)
          | (refine ih _ hF hC (fun w => absurd w (by omega)) (fun _ => ?_)
             rw [es]
             refine h1 (fun w => ?_)
             have h17 := h0 w
             rw [hm] at h17
             have := (nI_eq (by omega) (by omega)).mp h17
             omega)
          | fail
      have inl : ∀ t, t ≤ 8 → V E kX8_file (rmOf 2 0 0) (QM E post 0 0) 0 0 S J L 32 [(0, .ref p), (1, .ref v), (2, .int (nI a)), (3, .int (nI b)), (4, .int (nI tu)), (5, .int (nI s)), (6, .int (nI (thr1 cw s t))), (7, .int (nI t))] [] := by
        refine loopUp (n := 8) (P := fun t => V E kX8_file (rmOf 2 0 0) (QM E post 0 0) 0 0 S J L 32 [(0, .ref p), (1, .ref v), (2, .int (nI a)), (3, .int (nI b)), (4, .int (nI tu)), (5, .int (nI s)), (6, .int (nI (thr1 cw s t))), (7, .int (nI t))] []) ?_ ?_
        · skip
          refine V_iload (pc := 32) dX8_file_32 rfl ?_
          refine V_bipush (pc := 34) (v := nI 8) dX8_file_34 (by decide) ?_
          refine V_icmp_geN (pc := 36) (tgt := 71) dX8_file_36 (by decide) (by omega) (by omega) (fun c36 => ?_) (fun n36 => absurd n36 (by omega))
          exact inn
        · intro t ht2 ih2
          have es2 : thr1 cw s (t + 1) = thr1 cw s t ||| (if s / 2 ^ t % 2 = 1 then 0 else cw t) := rfl
          rw [es2] at ih2
          refine V_iload (pc := 32) dX8_file_32 rfl ?_
          refine V_bipush (pc := 34) (v := nI 8) dX8_file_34 (by decide) ?_
          refine V_icmp_geN (pc := 36) (tgt := 71) dX8_file_36 (by decide) (by omega) (by omega) (fun c36 => absurd c36 (by omega)) (fun n36 => ?_)
          refine V_iload (pc := 39) dX8_file_39 rfl ?_
          refine V_iload (pc := 41) dX8_file_41 rfl ?_
          refine V_iload (pc := 43) dX8_file_43 rfl ?_
          refine V_ishrN (pc := 45) dX8_file_45 (by omega) (by omega) ?_
          refine V_iconst (pc := 46) (v := nI 1) dX8_file_46 (by decide) ?_
          refine V_iand1 (pc := 47) dX8_file_47 ?_
          refine V_if_neN (pc := 48) (tgt := 61) dX8_file_48 (by decide) (by omega) (fun c48 => ?_) (fun n48 => ?_)
          · skip
            rw [if_pos (by omega)] at ih2
            refine V_iconst (pc := 61) (v := nI 0) dX8_file_61 (by decide) ?_
            refine V_iorN (pc := 62) dX8_file_62 ?_
            refine V_istore (pc := 63) (ls' := [(0, _), (1, _), (2, _), (3, _), (4, _), (5, _), (6, _), (7, _)]) dX8_file_63 (by decide) rfl ?_
            refine V_iinc1 (pc := 65) (ls' := [(0, _), (1, _), (2, _), (3, _), (4, _), (5, _), (6, _), (7, _)]) dX8_file_65 rfl (by decide) rfl ?_
            refine V_goto (pc := 68) (tgt := 32) dX8_file_68 (by decide) ?_
            exact ih2
          · skip
            rw [if_neg (by omega)] at ih2
            refine V_aload_n (pc := 51) dX8_file_51 rfl ?_
            refine V_getR (pc := 52) 8 4 dX8_file_52 flX8_24 (by decide) h8.o h8.R4 ?_
            refine V_iload (pc := 55) dX8_file_55 rfl ?_
            refine V_ialoadE (pc := 57) dX8_file_57 h8.A4 (by first | decide | omega) (by omega) (hC t ht2) ?_
            refine V_goto (pc := 58) (tgt := 62) dX8_file_58 (by decide) ?_
            refine V_iorN (pc := 62) dX8_file_62 ?_
            refine V_istore (pc := 63) (ls' := [(0, _), (1, _), (2, _), (3, _), (4, _), (5, _), (6, _), (7, _)]) dX8_file_63 (by decide) rfl ?_
            refine V_iinc1 (pc := 65) (ls' := [(0, _), (1, _), (2, _), (3, _), (4, _), (5, _), (6, _), (7, _)]) dX8_file_65 rfl (by decide) rfl ?_
            refine V_goto (pc := 68) (tgt := 32) dX8_file_68 (by decide) ?_
            exact ih2
      refine V_iload (pc := 18) dX8_file_18 rfl ?_
      refine V_sipush (pc := 20) (v := nI 256) dX8_file_20 (by decide) ?_
      refine V_icmp_geN (pc := 23) (tgt := 117) dX8_file_23 (by decide) (by omega) (by omega) (fun c23 => absurd c23 (by omega)) (fun n23 => ?_)
      refine V_iconst (pc := 26) (v := nI 0) dX8_file_26 (by decide) ?_
      refine V_istore (pc := 27) (ls' := [(0, _), (1, _), (2, _), (3, _), (4, _), (5, _), (6, _)]) dX8_file_27 (by decide) rfl ?_
      refine V_iconst (pc := 29) (v := nI 0) dX8_file_29 (by decide) ?_
      refine V_istore (pc := 30) (ls' := [(0, _), (1, _), (2, _), (3, _), (4, _), (5, _), (6, _), (7, _)]) dX8_file_30 (by decide) rfl ?_
      exact inl 0 (by omega)
  refine V_aload_n (pc := 0) dX8_file_0 rfl ?_
  refine V_aload_n (pc := 1) dX8_file_1 rfl ?_
  refine V_iload_n (pc := 2) dX8_file_2 rfl ?_
  refine V_iload_n (pc := 3) dX8_file_3 rfl ?_
  refine V_iload (pc := 4) dX8_file_4 rfl ?_
  refine V_callV (pc := 6) (ci := 8) (c_X8_gatherClashes h8 h9 hv hq hvp ha hb ht) dX8_file_6 mlX8_83 mkX8_gatherClashes rfl rfl h8.o ⟨by decide, rfl⟩ ⟨Nat.le_of_ble_eq_true rfl, Nat.le_of_ble_eq_true rfl⟩ (Nat.le_of_ble_eq_true rfl) ⟨Nat.le_of_ble_eq_true rfl, Nat.le_of_ble_eq_true rfl⟩ (fun r S' I' L' hp => ?_)
  obtain ⟨rfl, rfl, rfl, hF, hC⟩ := hp
  refine V_aload_n (pc := 9) dX8_file_9 rfl ?_
  refine V_bipush (pc := 10) (v := nI 17) dX8_file_10 (by decide) ?_
  refine V_putI (pc := 12) 8 5 dX8_file_12 flX8_27 (by decide) (by decide) (Or.inl rfl) rfl rfl h8.o ?_
  refine V_iconst (pc := 15) (v := nI 0) dX8_file_15 (by decide) ?_
  refine V_istore (pc := 16) (ls' := [(0, _), (1, _), (2, _), (3, _), (4, _), (5, _)]) dX8_file_16 (by decide) rfl ?_
  exact key 0 (by omega) _ (fun x a1 a2 => by rw [up2_row a2]; exact hF x a1) (fun t ht => by rw [up2_ne (by omega)]; exact hC t ht) (fun _ => up2_self) (fun w => absurd rfl w)
end CU
section CU2
variable {E : EnT} {S : ST} {I : IT} {L : LT} {B : Nat} {A : AT}
theorem c_X11_clash (h11 : Lay11 E S B) (hR : CR E S B I A) (hA : wfA A) {x y z : Int32} : Cc E kX11_clash 2 [.ref B, .int x, .int y, .int z] S I L B (.int (spClash A x y z)) A := by
  have hq := hA.q
  have hnb := hq.nb
  refine C_of (by decide) (Nat.le_of_ble_eq_true rfl) ?_
  refine V_aload_n (pc := 0) dX11_clash_0 rfl ?_
  refine V_iload_n (pc := 1) dX11_clash_1 rfl ?_
  refine V_iload_n (pc := 2) dX11_clash_2 rfl ?_
  refine V_callVd (pc := 3) (ci := 11) (c_X11_areTwo h11 hR hA) dX11_clash_3 mlX11_332 mkX11_areTwo rfl rfl h11.o ⟨by decide, rfl⟩ ⟨Nat.le_of_ble_eq_true rfl, Nat.le_of_ble_eq_true rfl⟩ (Nat.le_of_ble_eq_true rfl) ⟨Nat.le_of_ble_eq_true rfl, Nat.le_of_ble_eq_true rfl⟩ ?_
  refine V_if_eqB (pc := 6) (tgt := 36) dX11_clash_6 (by decide) (fun c6 => ?_) (fun n6 => ?_)
  · skip
    refine V_iconst (pc := 36) (v := (-1)) dX11_clash_36 (by decide) ?_
    refine V_iret (pc := 37) dX11_clash_37 rfl (by first | decide | omega) (by first | decide | omega) ?_
    first
    | exact ⟨rfl, rfl, hR, FrC.rf⟩
    | (rw [spClash, if_neg (fun w => by rw [w.1] at c6; exact absurd c6 (by decide))]; exact ⟨rfl, rfl, hR, FrC.rf⟩)
    | (rw [spClash, if_neg (fun w => by rw [w.2] at c13; exact absurd c13 (by decide))]; exact ⟨rfl, rfl, hR, FrC.rf⟩)
    | fail
  · skip
    refine V_iload_n (pc := 9) dX11_clash_9 rfl ?_
    refine V_callSd (pc := 10) (c_X11_isBar) dX11_clash_10 mlX11_166 mkX11_isBar rfl rfl ⟨Nat.le_of_ble_eq_true rfl, Nat.le_of_ble_eq_true rfl⟩ (Nat.le_of_ble_eq_true rfl) ⟨Nat.le_of_ble_eq_true rfl, Nat.le_of_ble_eq_true rfl⟩ ?_
    refine V_if_eqB (pc := 13) (tgt := 36) dX11_clash_13 (by decide) (fun c13 => ?_) (fun n13 => ?_)
    · skip
      refine V_iconst (pc := 36) (v := (-1)) dX11_clash_36 (by decide) ?_
      refine V_iret (pc := 37) dX11_clash_37 rfl (by first | decide | omega) (by first | decide | omega) ?_
      first
      | exact ⟨rfl, rfl, hR, FrC.rf⟩
      | (rw [spClash, if_neg (fun w => by rw [w.1] at c6; exact absurd c6 (by decide))]; exact ⟨rfl, rfl, hR, FrC.rf⟩)
      | (rw [spClash, if_neg (fun w => by rw [w.2] at c13; exact absurd c13 (by decide))]; exact ⟨rfl, rfl, hR, FrC.rf⟩)
      | fail
    · skip
      rw [spClash, if_pos ⟨n6, n13⟩]
      obtain ⟨a, b, ha, hb, -, e1, e2⟩ := are2_ex hA n6
      obtain ⟨t, ht, e3⟩ := bnd_ex (by omega) n13
      subst e1 e2 e3
      rw [cln_nI (by omega), cln_nI (by omega), cln_nI (by omega)]
      refine V_aload_n (pc := 16) dX11_clash_16 rfl ?_
      refine V_getR (pc := 17) 11 7 dX11_clash_17 flX11_29 (by decide) h11.o h11.R7 ?_
      refine V_aload_n (pc := 20) dX11_clash_20 rfl ?_
      refine V_getR (pc := 21) 11 0 dX11_clash_21 flX11_91 (by decide) h11.o h11.R0 ?_
      refine V_getR (pc := 24) 10 0 dX11_clash_24 flX11_116 (by decide) h11.O0.o h11.O0.R0 ?_
      refine V_iload_n (pc := 27) dX11_clash_27 rfl ?_
      refine V_iload_n (pc := 28) dX11_clash_28 rfl ?_
      refine V_iload_n (pc := 29) dX11_clash_29 rfl ?_
      refine V_callVd (pc := 30) (ci := 8) (c_X8_clashes h11.O0.O0 hR.1.1 hq (by omega) (by omega) ht) dX11_clash_30 mlX11_336 mkX8_clashes rfl rfl h11.O7.o ⟨by decide, rfl⟩ ⟨Nat.le_of_ble_eq_true rfl, Nat.le_of_ble_eq_true rfl⟩ (Nat.le_of_ble_eq_true rfl) ⟨Nat.le_of_ble_eq_true rfl, Nat.le_of_ble_eq_true rfl⟩ ?_
      refine V_goto (pc := 33) (tgt := 37) dX11_clash_33 (by decide) ?_
      refine V_iret (pc := 37) dX11_clash_37 rfl (by first | decide | omega) (by first | decide | omega) ?_
      first
      | exact ⟨rfl, rfl, hR, FrC.rf⟩
      | (rw [spClash, if_neg (fun w => by rw [w.1] at c6; exact absurd c6 (by decide))]; exact ⟨rfl, rfl, hR, FrC.rf⟩)
      | (rw [spClash, if_neg (fun w => by rw [w.2] at c13; exact absurd c13 (by decide))]; exact ⟨rfl, rfl, hR, FrC.rf⟩)
      | fail
theorem bst_1 (q : Nat → Nat) (a b : Nat) : bst q a b 1 = (nI 0, clc q a b 0) := by
  have h := clc_le q a b 0
  show (if clc q a b 0 < 100000000 then (nI 0, clc q a b 0) else (-1, 100000000)) = _
  rw [if_pos (by omega)]
theorem lp_bstC (h11 : Lay11 E S B) (hR : CR E S B I A) (hA : wfA A) {a b t : Nat} (ha : a < 6) (hb : b < 6) (ht : t < 2) : ∀ n, n ≤ 8 → n ≠ 0 → V E kX11_best (rmOf 2 0 0) (QM E (fun r S' I' L' => r = some (.int (if t = 0 then (bst (aq A) a b 8).1 else nI (bst (aq A) a b 8).2)) ∧ S = S' ∧ CR E S B I' A ∧ FrC B I' I L' L) 0 0) 0 0 S I L 45 [(0, .ref B), (1, .int (nI a)), (2, .int (nI b)), (3, .int (nI t)), (4, .int (bst (aq A) a b n).1), (5, .int (nI (bst (aq A) a b n).2)), (6, .int (nI n))] [] := by
  have hq := hA.q
  refine loopUp (n := 8) (P := fun n => n ≠ 0 → V E kX11_best (rmOf 2 0 0) (QM E (fun r S' I' L' => r = some (.int (if t = 0 then (bst (aq A) a b 8).1 else nI (bst (aq A) a b 8).2)) ∧ S = S' ∧ CR E S B I' A ∧ FrC B I' I L' L) 0 0) 0 0 S I L 45 [(0, .ref B), (1, .int (nI a)), (2, .int (nI b)), (3, .int (nI t)), (4, .int (bst (aq A) a b n).1), (5, .int (nI (bst (aq A) a b n).2)), (6, .int (nI n))] []) ?_ ?_
  · intro _
    refine V_iload (pc := 45) dX11_best_45 rfl ?_
    refine V_bipush (pc := 47) (v := nI 8) dX11_best_47 (by decide) ?_
    refine V_icmp_geN (pc := 49) (tgt := 93) dX11_best_49 (by decide) (by omega) (by omega) (fun c49 => ?_) (fun n49 => absurd n49 (by omega))
    refine V_iload_n (pc := 93) dX11_best_93 rfl ?_
    refine V_if_neN (pc := 94) (tgt := 102) dX11_best_94 (by decide) (by omega) (fun c94 => ?_) (fun n94 => ?_)
    · skip
      refine V_iload (pc := 102) dX11_best_102 rfl ?_
      refine V_iret (pc := 104) dX11_best_104 rfl (by first | decide | omega) (by first | decide | omega) ?_
      first
      | (rw [if_pos n94]; exact ⟨rfl, rfl, hR, FrC.rf⟩)
      | (rw [if_neg c94]; exact ⟨rfl, rfl, hR, FrC.rf⟩)
      | fail
    · skip
      refine V_iload (pc := 97) dX11_best_97 rfl ?_
      refine V_goto (pc := 99) (tgt := 104) dX11_best_99 (by decide) ?_
      refine V_iret (pc := 104) dX11_best_104 rfl (by first | decide | omega) (by first | decide | omega) ?_
      first
      | (rw [if_pos n94]; exact ⟨rfl, rfl, hR, FrC.rf⟩)
      | (rw [if_neg c94]; exact ⟨rfl, rfl, hR, FrC.rf⟩)
      | fail
  · intro n hn ih h0
    have hcl := clc_le (aq A) a b n
    have hbl := bst_le (aq A) a b n
    unfold FARN at hbl
    have es : bst (aq A) a b (n + 1) = if clc (aq A) a b n < (bst (aq A) a b n).2 then (nI n, clc (aq A) a b n) else bst (aq A) a b n := rfl
    rw [es] at ih
    refine V_iload (pc := 45) dX11_best_45 rfl ?_
    refine V_bipush (pc := 47) (v := nI 8) dX11_best_47 (by decide) ?_
    refine V_icmp_geN (pc := 49) (tgt := 93) dX11_best_49 (by decide) (by omega) (by omega) (fun c49 => absurd c49 (by omega)) (fun n49 => ?_)
    refine V_aload_n (pc := 52) dX11_best_52 rfl ?_
    refine V_getR (pc := 53) 11 7 dX11_best_53 flX11_29 (by decide) h11.o h11.R7 ?_
    refine V_aload_n (pc := 56) dX11_best_56 rfl ?_
    refine V_getR (pc := 57) 11 0 dX11_best_57 flX11_91 (by decide) h11.o h11.R0 ?_
    refine V_getR (pc := 60) 10 0 dX11_best_60 flX11_116 (by decide) h11.O0.o h11.O0.R0 ?_
    refine V_iload_n (pc := 63) dX11_best_63 rfl ?_
    refine V_iload_n (pc := 64) dX11_best_64 rfl ?_
    refine V_iload (pc := 65) dX11_best_65 rfl ?_
    refine V_callVd (pc := 67) (ci := 8) (c_X8_clashes h11.O0.O0 hR.1.1 hq (by omega) (by omega) hn) dX11_best_67 mlX11_336 mkX8_clashes rfl rfl h11.O7.o ⟨by decide, rfl⟩ ⟨Nat.le_of_ble_eq_true rfl, Nat.le_of_ble_eq_true rfl⟩ (Nat.le_of_ble_eq_true rfl) ⟨Nat.le_of_ble_eq_true rfl, Nat.le_of_ble_eq_true rfl⟩ ?_
    refine V_istore (pc := 70) (ls' := [(0, _), (1, _), (2, _), (3, _), (4, _), (5, _), (6, _), (7, _)]) dX11_best_70 (by decide) rfl ?_
    refine V_iload (pc := 72) dX11_best_72 rfl ?_
    refine V_iload (pc := 74) dX11_best_74 rfl ?_
    refine V_icmp_geN (pc := 76) (tgt := 87) dX11_best_76 (by decide) (by omega) (by omega) (fun c76 => ?_) (fun n76 => ?_)
    · skip
      try rw [if_neg (show ¬ clc (aq A) a b n < (bst (aq A) a b n).2 by omega)] at ih
      refine V_loc [0, 1, 2, 3, 4, 5, 6] rfl ?_
      refine V_iinc1 (pc := 87) (ls' := [(0, _), (1, _), (2, _), (3, _), (4, _), (5, _), (6, _)]) dX11_best_87 rfl (by decide) rfl ?_
      refine V_goto (pc := 90) (tgt := 45) dX11_best_90 (by decide) ?_
      exact ih (by omega)
    · skip
      rw [if_pos (show clc (aq A) a b n < (bst (aq A) a b n).2 by omega)] at ih
      refine V_iload (pc := 79) dX11_best_79 rfl ?_
      refine V_istore (pc := 81) (ls' := [(0, _), (1, _), (2, _), (3, _), (4, _), (5, _), (6, _), (7, _)]) dX11_best_81 (by decide) rfl ?_
      refine V_iload (pc := 83) dX11_best_83 rfl ?_
      refine V_istore (pc := 85) (ls' := [(0, _), (1, _), (2, _), (3, _), (4, _), (5, _), (6, _), (7, _)]) dX11_best_85 (by decide) rfl ?_
      try rw [if_neg (show ¬ clc (aq A) a b n < (bst (aq A) a b n).2 by omega)] at ih
      refine V_loc [0, 1, 2, 3, 4, 5, 6] rfl ?_
      refine V_iinc1 (pc := 87) (ls' := [(0, _), (1, _), (2, _), (3, _), (4, _), (5, _), (6, _)]) dX11_best_87 rfl (by decide) rfl ?_
      refine V_goto (pc := 90) (tgt := 45) dX11_best_90 (by decide) ?_
      exact ih (by omega)
theorem c_X11_best (h11 : Lay11 E S B) (hR : CR E S B I A) (hA : wfA A) {x y z : Int32} : Cc E kX11_best 2 [.ref B, .int x, .int y, .int z] S I L B (.int (spBest A x y z)) A := by
  have hq := hA.q
  have hnb := hq.nb
  refine C_of (by decide) (Nat.le_of_ble_eq_true rfl) ?_
  refine V_aload_n (pc := 0) dX11_best_0 rfl ?_
  refine V_iload_n (pc := 1) dX11_best_1 rfl ?_
  refine V_iload_n (pc := 2) dX11_best_2 rfl ?_
  refine V_callVd (pc := 3) (ci := 11) (c_X11_areTwo h11 hR hA) dX11_best_3 mlX11_332 mkX11_areTwo rfl rfl h11.o ⟨by decide, rfl⟩ ⟨Nat.le_of_ble_eq_true rfl, Nat.le_of_ble_eq_true rfl⟩ (Nat.le_of_ble_eq_true rfl) ⟨Nat.le_of_ble_eq_true rfl, Nat.le_of_ble_eq_true rfl⟩ ?_
  refine V_if_eqB (pc := 6) (tgt := 18) dX11_best_6 (by decide) (fun c6 => ?_) (fun n6 => ?_)
  · skip
    refine V_iconst (pc := 18) (v := (-1)) dX11_best_18 (by decide) ?_
    refine V_iret (pc := 19) dX11_best_19 rfl (by first | decide | omega) (by first | decide | omega) ?_
    first
    | (rw [spBest, if_neg (fun w => by rw [w.1] at c6; exact absurd c6 (by decide))]; exact ⟨rfl, rfl, hR, FrC.rf⟩)
    | (rw [spBest, if_neg (fun w => by rw [bnd_lo c10] at w; exact absurd w.2 (by decide))]; exact ⟨rfl, rfl, hR, FrC.rf⟩)
    | (rw [spBest, if_neg (fun w => by rw [bnd_nle (n := 1) (by omega) n15] at w; exact absurd w.2 (by decide))]; exact ⟨rfl, rfl, hR, FrC.rf⟩)
    | fail
  · skip
    refine V_iload_n (pc := 9) dX11_best_9 rfl ?_
    refine V_if_lt (pc := 10) (tgt := 18) dX11_best_10 (by decide) (fun c10 => ?_) (fun n10 => ?_)
    · skip
      refine V_iconst (pc := 18) (v := (-1)) dX11_best_18 (by decide) ?_
      refine V_iret (pc := 19) dX11_best_19 rfl (by first | decide | omega) (by first | decide | omega) ?_
      first
      | (rw [spBest, if_neg (fun w => by rw [w.1] at c6; exact absurd c6 (by decide))]; exact ⟨rfl, rfl, hR, FrC.rf⟩)
      | (rw [spBest, if_neg (fun w => by rw [bnd_lo c10] at w; exact absurd w.2 (by decide))]; exact ⟨rfl, rfl, hR, FrC.rf⟩)
      | (rw [spBest, if_neg (fun w => by rw [bnd_nle (n := 1) (by omega) n15] at w; exact absurd w.2 (by decide))]; exact ⟨rfl, rfl, hR, FrC.rf⟩)
      | fail
    · skip
      refine V_iload_n (pc := 13) dX11_best_13 rfl ?_
      refine V_iconst (pc := 14) (v := nI 1) dX11_best_14 (by decide) ?_
      refine V_icmp_le (pc := 15) (tgt := 20) dX11_best_15 (by decide) (fun c15 => ?_) (fun n15 => ?_)
      · skip
        have hb2 : bnd z 2 = true := bnd_le (n := 1) (by omega) n10 c15
        rw [spBest, if_pos ⟨n6, hb2⟩]
        obtain ⟨a, b, ha, hb, -, f1, f2⟩ := are2_ex hA n6
        obtain ⟨t, ht, f3⟩ := bnd_ex (by omega) hb2
        subst f1 f2 f3
        rw [cln_nI (by omega), cln_nI (by omega), cln_nI (by omega)]
        have key : ∀ n, n ≤ 8 → n ≠ 0 → V E kX11_best (rmOf 2 0 0) (QM E (fun r S' I' L' => r = some (.int (if t = 0 then (bst (aq A) a b 8).1 else nI (bst (aq A) a b 8).2)) ∧ S = S' ∧ CR E S B I' A ∧ FrC B I' I L' L) 0 0) 0 0 S I L 45 [(0, .ref B), (1, .int (nI a)), (2, .int (nI b)), (3, .int (nI t)), (4, .int (bst (aq A) a b n).1), (5, .int (nI (bst (aq A) a b n).2)), (6, .int (nI n))] [] := by
          exact lp_bstC h11 hR hA (by omega) (by omega) ht
        refine V_iconst (pc := 20) (v := nI 0) dX11_best_20 (by decide) ?_
        refine V_istore (pc := 21) (ls' := [(0, _), (1, _), (2, _), (3, _), (4, _)]) dX11_best_21 (by decide) rfl ?_
        refine V_aload_n (pc := 23) dX11_best_23 rfl ?_
        refine V_getR (pc := 24) 11 7 dX11_best_24 flX11_29 (by decide) h11.o h11.R7 ?_
        refine V_aload_n (pc := 27) dX11_best_27 rfl ?_
        refine V_getR (pc := 28) 11 0 dX11_best_28 flX11_91 (by decide) h11.o h11.R0 ?_
        refine V_getR (pc := 31) 10 0 dX11_best_31 flX11_116 (by decide) h11.O0.o h11.O0.R0 ?_
        refine V_iload_n (pc := 34) dX11_best_34 rfl ?_
        refine V_iload_n (pc := 35) dX11_best_35 rfl ?_
        refine V_iconst (pc := 36) (v := nI 0) dX11_best_36 (by decide) ?_
        refine V_callVd (pc := 37) (ci := 8) (c_X8_clashes h11.O0.O0 hR.1.1 hq (by omega) (by omega) (by omega)) dX11_best_37 mlX11_336 mkX8_clashes rfl rfl h11.O7.o ⟨by decide, rfl⟩ ⟨Nat.le_of_ble_eq_true rfl, Nat.le_of_ble_eq_true rfl⟩ (Nat.le_of_ble_eq_true rfl) ⟨Nat.le_of_ble_eq_true rfl, Nat.le_of_ble_eq_true rfl⟩ ?_
        refine V_istore (pc := 40) (ls' := [(0, _), (1, _), (2, _), (3, _), (4, _), (5, _)]) dX11_best_40 (by decide) rfl ?_
        refine V_iconst (pc := 42) (v := nI 1) dX11_best_42 (by decide) ?_
        refine V_istore (pc := 43) (ls' := [(0, _), (1, _), (2, _), (3, _), (4, _), (5, _), (6, _)]) dX11_best_43 (by decide) rfl ?_
        have k1 := key 1 (by omega) (by omega)
        rw [bst_1] at k1
        exact k1
      · skip
        refine V_iconst (pc := 18) (v := (-1)) dX11_best_18 (by decide) ?_
        refine V_iret (pc := 19) dX11_best_19 rfl (by first | decide | omega) (by first | decide | omega) ?_
        first
        | (rw [spBest, if_neg (fun w => by rw [w.1] at c6; exact absurd c6 (by decide))]; exact ⟨rfl, rfl, hR, FrC.rf⟩)
        | (rw [spBest, if_neg (fun w => by rw [bnd_lo c10] at w; exact absurd w.2 (by decide))]; exact ⟨rfl, rfl, hR, FrC.rf⟩)
        | (rw [spBest, if_neg (fun w => by rw [bnd_nle (n := 1) (by omega) n15] at w; exact absurd w.2 (by decide))]; exact ⟨rfl, rfl, hR, FrC.rf⟩)
        | fail
theorem tl_fl (h11 : Lay11 E S B) {v1 v2 v3 : Int32} {k f1 f2 f3 : Nat} {post : Option Value → ST → IT → LT → Prop} (hk : k < 3) (g5 : I (B + 10) 5 = nI f1) (g6 : I (B + 10) 6 = nI f2) (g7 : I (B + 10) 7 = nI f3) (hp : ∀ v, v = (if k = 0 then nI f1 else if k = 1 then nI f2 else nI f3) → post (some (.int v)) S I L) : V E kX11_filed (rmOf 3 0 0) (QM E post 0 0) 0 0 S I L 35 [(0, .ref B), (1, .int v1), (2, .int v2), (3, .int v3), (4, .int (nI k))] [] := by
  have hc : k = 0 ∨ k = 1 ∨ k = 2 := by omega
  rcases hc with rfl | rfl | rfl
  · skip
    refine V_iload (pc := 35) dX11_filed_35 rfl ?_
    refine V_tableIn (pc := 37) (off := 27) (tgt := 64) dX11_filed_37 (by decide) (by decide) (by decide) (by decide) ?_
    refine V_aload_n (pc := 64) dX11_filed_64 rfl ?_
    refine V_getR (pc := 65) 11 7 dX11_filed_65 flX11_29 (by decide) h11.o h11.R7 ?_
    refine V_getIE (pc := 68) 8 5 dX11_filed_68 flX11_344 (by decide) h11.O7.o (g5) ?_
    refine V_iret (pc := 71) dX11_filed_71 rfl (by first | decide | omega) (by first | decide | omega) ?_
    exact hp _ rfl
  · skip
    refine V_iload (pc := 35) dX11_filed_35 rfl ?_
    refine V_tableIn (pc := 37) (off := 35) (tgt := 72) dX11_filed_37 (by decide) (by decide) (by decide) (by decide) ?_
    refine V_aload_n (pc := 72) dX11_filed_72 rfl ?_
    refine V_getR (pc := 73) 11 7 dX11_filed_73 flX11_29 (by decide) h11.o h11.R7 ?_
    refine V_getIE (pc := 76) 8 6 dX11_filed_76 flX11_347 (by decide) h11.O7.o (g6) ?_
    refine V_iret (pc := 79) dX11_filed_79 rfl (by first | decide | omega) (by first | decide | omega) ?_
    exact hp _ rfl
  · skip
    refine V_iload (pc := 35) dX11_filed_35 rfl ?_
    refine V_tableIn (pc := 37) (off := 43) (tgt := 80) dX11_filed_37 (by decide) (by decide) (by decide) (by decide) ?_
    refine V_aload_n (pc := 80) dX11_filed_80 rfl ?_
    refine V_getR (pc := 81) 11 7 dX11_filed_81 flX11_29 (by decide) h11.o h11.R7 ?_
    refine V_getIE (pc := 84) 8 7 dX11_filed_84 flX11_350 (by decide) h11.O7.o (g7) ?_
    refine V_iret (pc := 87) dX11_filed_87 rfl (by first | decide | omega) (by first | decide | omega) ?_
    exact hp _ rfl
theorem tl_fl2 (h11 : Lay11 E S B) {v1 v2 v3 w : Int32} {post : Option Value → ST → IT → LT → Prop} (hw : ¬ bnd w 3 = true) (hp : post (some (.int (-1))) S I L) : V E kX11_filed (rmOf 3 0 0) (QM E post 0 0) 0 0 S I L 35 [(0, .ref B), (1, .int v1), (2, .int v2), (3, .int v3), (4, .int w)] [] := by
  refine V_iload (pc := 35) dX11_filed_35 rfl ?_
  refine V_tableOut (pc := 37) (tgt := 88) dX11_filed_37 (out_of (m := 2) hw (by omega)) (by decide) ?_
  refine V_iconst (pc := 88) (v := (-1)) dX11_filed_88 (by decide) ?_
  refine V_iret (pc := 89) dX11_filed_89 rfl (by first | decide | omega) (by first | decide | omega) ?_
  exact hp
theorem c_X11_filed (h11 : Lay11 E S B) (hR : CR E S B I A) (hA : wfA A) {x y z w : Int32} : Cc E kX11_filed 3 [.ref B, .int x, .int y, .int z, .int w] S I L B (.int (spFiled A x y z w)) A := by
  have hq := hA.q
  have hnb := hq.nb
  refine C_of (by decide) (Nat.le_of_ble_eq_true rfl) ?_
  refine V_aload_n (pc := 0) dX11_filed_0 rfl ?_
  refine V_iload_n (pc := 1) dX11_filed_1 rfl ?_
  refine V_iload_n (pc := 2) dX11_filed_2 rfl ?_
  refine V_callVd (pc := 3) (ci := 11) (c_X11_areTwo h11 hR hA) dX11_filed_3 mlX11_332 mkX11_areTwo rfl rfl h11.o ⟨by decide, rfl⟩ ⟨Nat.le_of_ble_eq_true rfl, Nat.le_of_ble_eq_true rfl⟩ (Nat.le_of_ble_eq_true rfl) ⟨Nat.le_of_ble_eq_true rfl, Nat.le_of_ble_eq_true rfl⟩ ?_
  refine V_if_eqB (pc := 6) (tgt := 16) dX11_filed_6 (by decide) (fun c6 => ?_) (fun n6 => ?_)
  · skip
    refine V_iconst (pc := 16) (v := (-1)) dX11_filed_16 (by decide) ?_
    refine V_iret (pc := 17) dX11_filed_17 rfl (by first | decide | omega) (by first | decide | omega) ?_
    first
    | (rw [spFiled, if_neg (fun u => by rw [u.1] at c6; exact absurd c6 (by decide))]; exact ⟨rfl, rfl, hR, FrC.rf⟩)
    | (rw [spFiled, if_neg (fun u => by rw [u.2.1] at n13; exact absurd n13 (by decide))]; exact ⟨rfl, rfl, hR, FrC.rf⟩)
    | fail
  · skip
    refine V_iload_n (pc := 9) dX11_filed_9 rfl ?_
    refine V_callSd (pc := 10) (c_X11_isBar) dX11_filed_10 mlX11_166 mkX11_isBar rfl rfl ⟨Nat.le_of_ble_eq_true rfl, Nat.le_of_ble_eq_true rfl⟩ (Nat.le_of_ble_eq_true rfl) ⟨Nat.le_of_ble_eq_true rfl, Nat.le_of_ble_eq_true rfl⟩ ?_
    refine V_if_neB (pc := 13) (tgt := 18) dX11_filed_13 (by decide) (fun c13 => ?_) (fun n13 => ?_)
    · skip
      obtain ⟨a, b, ha, hb, -, f1, f2⟩ := are2_ex hA n6
      obtain ⟨t, ht, f3⟩ := bnd_ex (by omega) c13
      subst f1 f2 f3
      refine V_aload_n (pc := 18) dX11_filed_18 rfl ?_
      refine V_getR (pc := 19) 11 7 dX11_filed_19 flX11_29 (by decide) h11.o h11.R7 ?_
      refine V_aload_n (pc := 22) dX11_filed_22 rfl ?_
      refine V_getR (pc := 23) 11 0 dX11_filed_23 flX11_91 (by decide) h11.o h11.R0 ?_
      refine V_getR (pc := 26) 10 0 dX11_filed_26 flX11_116 (by decide) h11.O0.o h11.O0.R0 ?_
      refine V_iload_n (pc := 29) dX11_filed_29 rfl ?_
      refine V_iload_n (pc := 30) dX11_filed_30 rfl ?_
      refine V_iload_n (pc := 31) dX11_filed_31 rfl ?_
      refine V_callV (pc := 32) (ci := 8) (c_X8_file h11.O7 h11.O0.O0 hR.1.1 hq (by omega) (by omega) (by omega) ht) dX11_filed_32 mlX11_340 mkX8_file rfl rfl h11.O7.o ⟨by decide, rfl⟩ ⟨Nat.le_of_ble_eq_true rfl, Nat.le_of_ble_eq_true rfl⟩ (Nat.le_of_ble_eq_true rfl) ⟨Nat.le_of_ble_eq_true rfl, Nat.le_of_ble_eq_true rfl⟩ (fun r S' I' L' hp => ?_)
      obtain ⟨rfl, rfl, rfl, hF, g5, g6, g7⟩ := hp
      have hD : DdC B I' I := DdC.of fun x hx => hF x (by unfold lvC at hx; omega) (by unfold lvC at hx; omega)
      by_cases hw : bnd w 3 = true
      · obtain ⟨k, hk, rfl⟩ := bnd_ex (by omega) hw
        rw [spFiled, if_pos ⟨n6, c13, hw⟩, cln_nI (by omega), cln_nI (by omega), cln_nI (by omega), cln_nI (by omega)]
        exact tl_fl h11 hk g5 g6 g7 (fun v hv => ⟨by rw [hv], rfl, hR.dd hD, hD.Fr⟩)
      · rw [spFiled, if_neg (fun u => hw u.2.2)]
        exact tl_fl2 h11 hw ⟨rfl, rfl, hR.dd hD, hD.Fr⟩
    · skip
      refine V_iconst (pc := 16) (v := (-1)) dX11_filed_16 (by decide) ?_
      refine V_iret (pc := 17) dX11_filed_17 rfl (by first | decide | omega) (by first | decide | omega) ?_
      first
      | (rw [spFiled, if_neg (fun u => by rw [u.1] at c6; exact absurd c6 (by decide))]; exact ⟨rfl, rfl, hR, FrC.rf⟩)
      | (rw [spFiled, if_neg (fun u => by rw [u.2.1] at n13; exact absurd n13 (by decide))]; exact ⟨rfl, rfl, hR, FrC.rf⟩)
      | fail
end CU2
