/-! THE REFERENCE: clash, best, filed -/
def orr (f : Nat → Nat) : Nat → Nat | 0 => 0 | n + 1 => orr f n ||| f n
theorem orr_lt {f : Nat → Nat} (h : ∀ j, f j < 256) : ∀ n, orr f n < 256
  | 0 => by show 0 < 256; omega
  | n + 1 => Nat.or_lt_two_pow (n := 8) (orr_lt h n) (h n)
def bes (t : Nat) : Nat := 2 ^ (t + 1) ||| 2 ^ t / 2
/-- the other's teeth beside a tooth of the one, at a bar -/
def nea (q : Nat → Nat) (a b tu j t : Nat) : Nat := if nt q a j / 2 ^ t % 2 = 1 then nt q b ((j + tu) % 8) &&& bes t else 0
def clc (q : Nat → Nat) (a b tu : Nat) : Nat := sm (fun j => sm (fun t => pop8 (nea q a b tu j t)) 8) 8
def cwt (q : Nat → Nat) (a b tu t : Nat) : Nat := orr (fun j => nea q a b tu j t) 8
theorem nea_lt {q : Nat → Nat} (hq : wq q) {a b tu j t : Nat} (hb : b < 6) : nea q a b tu j t < 256 := by
  unfold nea
  split
  · exact Nat.lt_of_le_of_lt Nat.and_le_left (nt_lt hq hb (Nat.mod_lt _ (by omega)))
  · omega
section MN
variable {E : EnT} {S : ST} {I : IT} {L : LT} {o : Nat} {A : AT}
theorem lp_cl0 (h12 : Lay12 E S o) {Q : QT} {v1 v2 v3 v4 : Int32} (hk : ∀ I', (∀ a, a ≠ o + 28 → I' a = I a) → (∀ t, t < 8 → I' (o + 28) t = nI 0) → V E kX12_layClash (rmOf 1 0 0) Q 0 0 S I' L 27 [(0, .ref o), (1, .int v1), (2, .int v2), (3, .int v3), (4, .int v4), (5, .int (nI 8))] []) : V E kX12_layClash (rmOf 1 0 0) Q 0 0 S I L 6 [(0, .ref o), (1, .int v1), (2, .int v2), (3, .int v3), (4, .int v4), (5, .int (nI 0))] [] := by
  have key : ∀ n, n ≤ 8 → ∀ I', (∀ a, a ≠ o + 28 → I' a = I a) → (∀ t, t < n → I' (o + 28) t = nI 0) → V E kX12_layClash (rmOf 1 0 0) Q 0 0 S I' L 6 [(0, .ref o), (1, .int v1), (2, .int v2), (3, .int v3), (4, .int v4), (5, .int (nI n))] [] := by
    refine loopUp ?_ ?_
    · intro I' ha hc
      refine V_iload (pc := 6) dX12_layClash_6 rfl ?_
      refine V_bipush (pc := 8) (v := nI 8) dX12_layClash_8 (by decide) ?_
      refine V_icmp_geN (pc := 10) (tgt := 27) dX12_layClash_10 (by decide) (by omega) (by omega) (fun c10 => ?_) (fun n10 => absurd n10 (by omega))
      exact hk I' ha hc
    · intro n hn ih I' ha hc
      refine V_iload (pc := 6) dX12_layClash_6 rfl ?_
      refine V_bipush (pc := 8) (v := nI 8) dX12_layClash_8 (by decide) ?_
      refine V_icmp_geN (pc := 10) (tgt := 27) dX12_layClash_10 (by decide) (by omega) (by omega) (fun c10 => absurd c10 (by omega)) (fun n10 => ?_)
      refine V_aload_n (pc := 13) dX12_layClash_13 rfl ?_
      refine V_getR (pc := 14) 12 48 dX12_layClash_14 flX12_131 (by decide) h12.o h12.R48 ?_
      refine V_iload (pc := 17) dX12_layClash_17 rfl ?_
      refine V_iconst (pc := 19) (v := nI 0) dX12_layClash_19 (by decide) ?_
      refine V_iastore (pc := 20) dX12_layClash_20 h12.A48 (by first | decide | omega) (by omega) ?_
      refine V_iinc1 (pc := 21) (ls' := [(0, _), (1, _), (2, _), (3, _), (4, _), (5, _)]) dX12_layClash_21 rfl (by decide) rfl ?_
      refine V_goto (pc := 24) (tgt := 6) dX12_layClash_24 (by decide) ?_
      refine ih _ (fun a h => by rw [up2_row h]; exact ha a h) (fun t ht => ?_)
      by_cases e : t = n
      · subst e; exact up2_self
      · rw [up2_nej e]; exact hc t (by omega)
  exact key 0 (by omega) I (fun _ _ => rfl) (fun t ht => absurd ht (Nat.not_lt_zero t))
/-- all bars ahead of j, and bar j for the teeth ahead of t -/
def ClM (I : IT) (o : Nat) (q : Nat → Nat) (a b tu j t : Nat) : Prop := ∀ u, u < 8 → I (o + 28) u = nI (orr (fun j => nea q a b tu j u) (if u < t then j + 1 else j))
theorem lp_cl1 (h12 : Lay12 E S o) {Q : QT} {I1 : IT} {q : Nat → Nat} {a b tu j n : Nat} (hq : wq q) (ha6 : a < 6) (hb6 : b < 6) (hj : j < 8) (hn : n ≤ 600) (ha : ∀ x, x ≠ o + 28 → I x = I1 x) (hC : ClM I o q a b tu j 0) (hk : ∀ I', (∀ x, x ≠ o + 28 → I' x = I1 x) → ClM I' o q a b tu (j + 1) 0 → V E kX12_layClash (rmOf 1 0 0) Q 0 0 S I' L 130 [(0, .ref o), (1, .int (nI a)), (2, .int (nI b)), (3, .int (nI tu)), (4, .int (nI (n + sm (fun t => pop8 (nea q a b tu j t)) 8))), (5, .int (nI j))] []) : V E kX12_layClash (rmOf 1 0 0) Q 0 0 S I L 63 [(0, .ref o), (1, .int (nI a)), (2, .int (nI b)), (3, .int (nI tu)), (4, .int (nI n)), (5, .int (nI j)), (6, .int (nI (nt q a j))), (7, .int (nI (nt q b ((j + tu) % 8)))), (8, .int (nI 0))] [] := by
  have hna := nt_lt hq ha6 hj
  have hnb := nt_lt hq hb6 (Nat.mod_lt (j + tu) (show 0 < 8 by omega))
  have key : ∀ t, t ≤ 8 → ∀ I', (∀ x, x ≠ o + 28 → I' x = I1 x) → ClM I' o q a b tu j t → V E kX12_layClash (rmOf 1 0 0) Q 0 0 S I' L 63 [(0, .ref o), (1, .int (nI a)), (2, .int (nI b)), (3, .int (nI tu)), (4, .int (nI (n + sm (fun t => pop8 (nea q a b tu j t)) t))), (5, .int (nI j)), (6, .int (nI (nt q a j))), (7, .int (nI (nt q b ((j + tu) % 8)))), (8, .int (nI t))] [] := by
    refine loopUp ?_ ?_
    · intro I' ha' hC'
      refine V_iload (pc := 63) dX12_layClash_63 rfl ?_
      refine V_bipush (pc := 65) (v := nI 8) dX12_layClash_65 (by decide) ?_
      refine V_icmp_geN (pc := 67) (tgt := 130) dX12_layClash_67 (by decide) (by omega) (by omega) (fun c67 => ?_) (fun n67 => absurd n67 (by omega))
      refine V_loc [0, 1, 2, 3, 4, 5] rfl ?_
      exact hk I' ha' (fun u hu => by have := hC' u hu; rw [if_pos hu] at this; rw [if_neg (by omega)]; exact this)
    · intro t ht ih I' ha' hC'
      have hp2 := pow8 ht
      have hps : 2 ^ (t + 1) = 2 * 2 ^ t := by rw [Nat.pow_succ]; omega
      have hsm := sm_le (f := fun t => pop8 (nea q a b tu j t)) (c := 8) (n := t) (fun k _ => pop8_le _)
      have hnl := nea_lt (a := a) (tu := tu) (j := j) (t := t) hq hb6
      have hpl := pop8_le (nea q a b tu j t)
      have hor := orr_lt (f := fun j => nea q a b tu j t) (fun j => nea_lt hq hb6) j
      have hct := hC' t ht
      rw [if_neg (by omega)] at hct
      have ebs : (1 * 2 ^ (t + 1) ||| 1 * 2 ^ t / 2 ^ 1) = bes t := by unfold bes; rw [Nat.one_mul, Nat.one_mul, Nat.pow_one]
      have es : n + sm (fun t => pop8 (nea q a b tu j t)) (t + 1) = n + sm (fun t => pop8 (nea q a b tu j t)) t + pop8 (nea q a b tu j t) := (Nat.add_assoc _ _ _).symm
      rw [es] at ih
      have nxt : ∀ w, w = nea q a b tu j t → V E kX12_layClash (rmOf 1 0 0) Q 0 0 S I' L 102 [(0, .ref o), (1, .int (nI a)), (2, .int (nI b)), (3, .int (nI tu)), (4, .int (nI (n + sm (fun t => pop8 (nea q a b tu j t)) t))), (5, .int (nI j)), (6, .int (nI (nt q a j))), (7, .int (nI (nt q b ((j + tu) % 8)))), (8, .int (nI t)), (9, .int (nI w))] [] := by
        intro w hw
        subst hw
        refine V_iload (pc := 102) dX12_layClash_102 rfl ?_
        refine V_iload (pc := 104) dX12_layClash_104 rfl ?_
        refine V_callSd (pc := 106) (c_X12_ones (by first | assumption | omega)) dX12_layClash_106 mlX12_208 mkX12_ones rfl rfl ⟨Nat.le_of_ble_eq_true rfl, Nat.le_of_ble_eq_true rfl⟩ (Nat.le_of_ble_eq_true rfl) ⟨Nat.le_of_ble_eq_true rfl, Nat.le_of_ble_eq_true rfl⟩ ?_
        refine V_iaddN (pc := 109) dX12_layClash_109 ?_
        refine V_istore (pc := 110) (ls' := [(0, _), (1, _), (2, _), (3, _), (4, _), (5, _), (6, _), (7, _), (8, _), (9, _)]) dX12_layClash_110 (by decide) rfl ?_
        refine V_aload_n (pc := 112) dX12_layClash_112 rfl ?_
        refine V_getR (pc := 113) 12 48 dX12_layClash_113 flX12_131 (by decide) h12.o h12.R48 ?_
        refine V_iload (pc := 116) dX12_layClash_116 rfl ?_
        refine V_dup2 (pc := 118) dX12_layClash_118 rfl rfl ?_
        refine V_ialoadE (pc := 119) dX12_layClash_119 h12.A48 (by first | decide | omega) (by omega) (hct) ?_
        refine V_iload (pc := 120) dX12_layClash_120 rfl ?_
        refine V_iorN (pc := 122) dX12_layClash_122 ?_
        refine V_iastore (pc := 123) dX12_layClash_123 h12.A48 (by first | decide | omega) (by omega) ?_
        refine V_loc [0, 1, 2, 3, 4, 5, 6, 7, 8] rfl ?_
        refine V_iinc1 (pc := 124) (ls' := [(0, _), (1, _), (2, _), (3, _), (4, _), (5, _), (6, _), (7, _), (8, _)]) dX12_layClash_124 rfl (by decide) rfl ?_
        refine V_goto (pc := 127) (tgt := 63) dX12_layClash_127 (by decide) ?_
        refine ih _ (fun x h => by rw [up2_row h]; exact ha' x h) (fun u hu => ?_)
        by_cases e : u = t
        · subst e; rw [up2_self, if_pos (by omega)]; rfl
        · rw [up2_nej e, hC' u hu]
          by_cases e2 : u < t
          · rw [if_pos e2, if_pos (by omega)]
          · rw [if_neg e2, if_neg (by omega)]
      refine V_iload (pc := 63) dX12_layClash_63 rfl ?_
      refine V_bipush (pc := 65) (v := nI 8) dX12_layClash_65 (by decide) ?_
      refine V_icmp_geN (pc := 67) (tgt := 130) dX12_layClash_67 (by decide) (by omega) (by omega) (fun c67 => absurd c67 (by omega)) (fun n67 => ?_)
      refine V_iload (pc := 70) dX12_layClash_70 rfl ?_
      refine V_iload (pc := 72) dX12_layClash_72 rfl ?_
      refine V_callSd (pc := 74) (c_X12_is (by first | assumption | omega) (by first | assumption | omega)) dX12_layClash_74 mlX12_458 mkX12_is rfl rfl ⟨Nat.le_of_ble_eq_true rfl, Nat.le_of_ble_eq_true rfl⟩ (Nat.le_of_ble_eq_true rfl) ⟨Nat.le_of_ble_eq_true rfl, Nat.le_of_ble_eq_true rfl⟩ ?_
      refine V_if_eqB (pc := 77) (tgt := 99) dX12_layClash_77 (by decide) (fun c77 => ?_) (fun n77 => ?_)
      · skip
        refine V_iconst (pc := 99) (v := nI 0) dX12_layClash_99 (by decide) ?_
        refine V_istore (pc := 100) (ls' := [(0, _), (1, _), (2, _), (3, _), (4, _), (5, _), (6, _), (7, _), (8, _), (9, _)]) dX12_layClash_100 (by decide) rfl ?_
        first
        | exact nxt _ (by unfold nea; rw [if_pos (of_decide_eq_true n77)])
        | exact nxt _ (by unfold nea; rw [if_neg (of_decide_eq_false c77)])
      · skip
        refine V_iload (pc := 80) dX12_layClash_80 rfl ?_
        refine V_iconst (pc := 82) (v := nI 1) dX12_layClash_82 (by decide) ?_
        refine V_iload (pc := 83) dX12_layClash_83 rfl ?_
        refine V_iconst (pc := 85) (v := nI 1) dX12_layClash_85 (by decide) ?_
        refine V_iaddN (pc := 86) dX12_layClash_86 ?_
        refine V_ishlN (pc := 87) dX12_layClash_87 (by omega) (by omega) ?_
        refine V_iconst (pc := 88) (v := nI 1) dX12_layClash_88 (by decide) ?_
        refine V_iload (pc := 89) dX12_layClash_89 rfl ?_
        refine V_ishlN (pc := 91) dX12_layClash_91 (by omega) (by omega) ?_
        refine V_iconst (pc := 92) (v := nI 1) dX12_layClash_92 (by decide) ?_
        refine V_ishrN (pc := 93) dX12_layClash_93 (by omega) (by omega) ?_
        refine V_iorN (pc := 94) dX12_layClash_94 ?_
        rw [ebs]
        refine V_iandN (pc := 95) dX12_layClash_95 ?_
        refine V_goto (pc := 96) (tgt := 100) dX12_layClash_96 (by decide) ?_
        refine V_istore (pc := 100) (ls' := [(0, _), (1, _), (2, _), (3, _), (4, _), (5, _), (6, _), (7, _), (8, _), (9, _)]) dX12_layClash_100 (by decide) rfl ?_
        first
        | exact nxt _ (by unfold nea; rw [if_pos (of_decide_eq_true n77)])
        | exact nxt _ (by unfold nea; rw [if_neg (of_decide_eq_false c77)])
  exact key 0 (by omega) I ha (fun u hu => by rw [if_neg (by omega)]; have := hC u hu; rw [if_neg (by omega)] at this; exact this)
theorem xt_cl (h12 : Lay12 E S o) {q : Nat → Nat} {a b tu : Nat} {post : Option Value → ST → IT → LT → Prop} (hp : post (some (.int (nI (clc q a b tu)))) S I L) : V E kX12_layClash (rmOf 1 0 0) (QM E post 0 0) 0 0 S I L 30 [(0, .ref o), (1, .int (nI a)), (2, .int (nI b)), (3, .int (nI tu)), (4, .int (nI (sm (fun j => sm (fun t => pop8 (nea q a b tu j t)) 8) 8))), (5, .int (nI 8))] [] := by
  refine V_iload (pc := 30) dX12_layClash_30 rfl ?_
  refine V_bipush (pc := 32) (v := nI 8) dX12_layClash_32 (by decide) ?_
  refine V_icmp_geN (pc := 34) (tgt := 136) dX12_layClash_34 (by decide) (by omega) (by omega) (fun c34 => ?_) (fun n34 => absurd n34 (by omega))
  refine V_iload (pc := 136) dX12_layClash_136 rfl ?_
  refine V_iret (pc := 138) dX12_layClash_138 rfl (by first | decide | omega) (by first | decide | omega) ?_
  exact hp
theorem st_cl (h12 : Lay12 E S o) {Q : QT} {q : Nat → Nat} {a b tu j n : Nat} (hr : RowM I (o + 2) q) (hq : wq q) (ha6 : a < 6) (hb6 : b < 6) (hj : j < 8) (htu : tu < 8) (hk : V E kX12_layClash (rmOf 1 0 0) Q 0 0 S I L 63 [(0, .ref o), (1, .int (nI a)), (2, .int (nI b)), (3, .int (nI tu)), (4, .int (nI n)), (5, .int (nI j)), (6, .int (nI (nt q a j))), (7, .int (nI (nt q b ((j + tu) % 8)))), (8, .int (nI 0))] []) : V E kX12_layClash (rmOf 1 0 0) Q 0 0 S I L 30 [(0, .ref o), (1, .int (nI a)), (2, .int (nI b)), (3, .int (nI tu)), (4, .int (nI n)), (5, .int (nI j))] [] := by
  refine V_iload (pc := 30) dX12_layClash_30 rfl ?_
  refine V_bipush (pc := 32) (v := nI 8) dX12_layClash_32 (by decide) ?_
  refine V_icmp_geN (pc := 34) (tgt := 136) dX12_layClash_34 (by decide) (by omega) (by omega) (fun c34 => absurd c34 (by omega)) (fun n34 => ?_)
  refine V_aload_n (pc := 37) dX12_layClash_37 rfl ?_
  refine V_iload_n (pc := 38) dX12_layClash_38 rfl ?_
  refine V_iload (pc := 39) dX12_layClash_39 rfl ?_
  refine V_callVd (pc := 41) (ci := 12) (c_X12_notesAt (by first | assumption | omega | exact h12) (by first | assumption | omega | exact h12) (by first | assumption | omega | exact h12) (by first | assumption | omega | exact h12) (by first | assumption | omega | exact h12)) dX12_layClash_41 mlX12_204 mkX12_notesAt rfl rfl h12.o ⟨by decide, rfl⟩ ⟨Nat.le_of_ble_eq_true rfl, Nat.le_of_ble_eq_true rfl⟩ (Nat.le_of_ble_eq_true rfl) ⟨Nat.le_of_ble_eq_true rfl, Nat.le_of_ble_eq_true rfl⟩ ?_
  refine V_istore (pc := 44) (ls' := [(0, _), (1, _), (2, _), (3, _), (4, _), (5, _), (6, _)]) dX12_layClash_44 (by decide) rfl ?_
  refine V_aload_n (pc := 46) dX12_layClash_46 rfl ?_
  refine V_iload_n (pc := 47) dX12_layClash_47 rfl ?_
  refine V_iload (pc := 48) dX12_layClash_48 rfl ?_
  refine V_iload_n (pc := 50) dX12_layClash_50 rfl ?_
  refine V_iaddN (pc := 51) dX12_layClash_51 ?_
  refine V_bipush (pc := 52) (v := nI 8) dX12_layClash_52 (by decide) ?_
  refine V_iremN (pc := 54) dX12_layClash_54 (by omega) (by omega) (by omega) ?_
  refine V_callVd (pc := 55) (ci := 12) (c_X12_notesAt h12 hr hq hb6 (Nat.mod_lt _ (by omega))) dX12_layClash_55 mlX12_204 mkX12_notesAt rfl rfl h12.o ⟨by decide, rfl⟩ ⟨Nat.le_of_ble_eq_true rfl, Nat.le_of_ble_eq_true rfl⟩ (Nat.le_of_ble_eq_true rfl) ⟨Nat.le_of_ble_eq_true rfl, Nat.le_of_ble_eq_true rfl⟩ ?_
  refine V_istore (pc := 58) (ls' := [(0, _), (1, _), (2, _), (3, _), (4, _), (5, _), (6, _), (7, _)]) dX12_layClash_58 (by decide) rfl ?_
  refine V_iconst (pc := 60) (v := nI 0) dX12_layClash_60 (by decide) ?_
  refine V_istore (pc := 61) (ls' := [(0, _), (1, _), (2, _), (3, _), (4, _), (5, _), (6, _), (7, _), (8, _)]) dX12_layClash_61 (by decide) rfl ?_
  exact hk
theorem st_cl2 (h12 : Lay12 E S o) {Q : QT} {v1 v2 v3 v4 : Int32} {j : Nat} (hj : j < 8) (hk : V E kX12_layClash (rmOf 1 0 0) Q 0 0 S I L 30 [(0, .ref o), (1, .int v1), (2, .int v2), (3, .int v3), (4, .int v4), (5, .int (nI (j + 1)))] []) : V E kX12_layClash (rmOf 1 0 0) Q 0 0 S I L 130 [(0, .ref o), (1, .int v1), (2, .int v2), (3, .int v3), (4, .int v4), (5, .int (nI j))] [] := by
  refine V_iinc1 (pc := 130) (ls' := [(0, _), (1, _), (2, _), (3, _), (4, _), (5, _)]) dX12_layClash_130 rfl (by decide) rfl ?_
  refine V_goto (pc := 133) (tgt := 30) dX12_layClash_133 (by decide) ?_
  exact hk
theorem c_X12_layClash (h12 : Lay12 E S o) {q : Nat → Nat} {a b tu : Nat} (hr : RowM I (o + 2) q) (hq : wq q) (ha6 : a < 6) (hb6 : b < 6) (htu : tu < 8) : C E kX12_layClash 1 0 0 [.ref o, .int (nI a), .int (nI b), .int (nI tu)] S I L (fun r S' I' L' => r = some (.int (nI (clc q a b tu))) ∧ S = S' ∧ L = L' ∧ (∀ x, x ≠ o + 28 → I' x = I x) ∧ ∀ t, t < 8 → I' (o + 28) t = nI (cwt q a b tu t)) := by
  refine C_of (by decide) (Nat.le_of_ble_eq_true rfl) ?_
  refine V_iconst (pc := 0) (v := nI 0) dX12_layClash_0 (by decide) ?_
  refine V_istore (pc := 1) (ls' := [(0, _), (1, _), (2, _), (3, _), (4, _)]) dX12_layClash_1 (by decide) rfl ?_
  refine V_iconst (pc := 3) (v := nI 0) dX12_layClash_3 (by decide) ?_
  refine V_istore (pc := 4) (ls' := [(0, _), (1, _), (2, _), (3, _), (4, _), (5, _)]) dX12_layClash_4 (by decide) rfl ?_
  refine lp_cl0 h12 (fun I1 a1 c1 => ?_)
  refine V_iconst (pc := 27) (v := nI 0) dX12_layClash_27 (by decide) ?_
  refine V_istore (pc := 28) (ls' := [(0, _), (1, _), (2, _), (3, _), (4, _), (5, _)]) dX12_layClash_28 (by decide) rfl ?_
  have key : ∀ j, j ≤ 8 → ∀ I', (∀ x, x ≠ o + 28 → I' x = I x) → ClM I' o q a b tu j 0 → V E kX12_layClash (rmOf 1 0 0) (QM E (fun r S' I' L' => r = some (.int (nI (clc q a b tu))) ∧ S = S' ∧ L = L' ∧ (∀ x, x ≠ o + 28 → I' x = I x) ∧ ∀ t, t < 8 → I' (o + 28) t = nI (cwt q a b tu t)) 0 0) 0 0 S I' L 30 [(0, .ref o), (1, .int (nI a)), (2, .int (nI b)), (3, .int (nI tu)), (4, .int (nI (sm (fun j => sm (fun t => pop8 (nea q a b tu j t)) 8) j))), (5, .int (nI j))] [] := by
    refine loopUp ?_ ?_
    · intro I' ha' hC'
      exact xt_cl h12 ⟨rfl, rfl, rfl, ha', fun t ht => by have := hC' t ht; rw [if_neg (by omega)] at this; exact this⟩
    · intro j hj ih I' ha' hC'
      have hsm := sm_le (f := fun j => sm (fun t => pop8 (nea q a b tu j t)) 8) (c := 64) (n := j) (fun k _ => sm_le (c := 8) (fun t _ => pop8_le _))
      exact st_cl h12 (hr.cg (ha' _ (by omega))) hq ha6 hb6 hj htu (lp_cl1 h12 hq ha6 hb6 hj (by omega) ha' hC' (fun I2 a2 C2 => st_cl2 h12 hj (ih I2 a2 C2)))
  exact key 0 (by omega) I1 a1 (fun u hu => by rw [if_neg (by omega)]; exact c1 u hu)
def are2 (A : AT) (x y : Int32) : Bool := bnd x (aq A 0) && (bnd y (aq A 0) && !decide (x = y))
theorem c_X12_areTwo (h12 : Lay12 E S o) (hr : RowM I (o + 2) (aq A)) (hq : wq (aq A)) {x y : Int32} : Cd E kX12_areTwo 2 0 0 [.ref o, .int x, .int y] S I L (.int (b2i (are2 A x y))) S I L := by
  refine C_of (by decide) (Nat.le_of_ble_eq_true rfl) ?_
  refine V_aload_n (pc := 0) dX12_areTwo_0 rfl ?_
  refine V_iload_n (pc := 1) dX12_areTwo_1 rfl ?_
  refine V_callVd (pc := 2) (ci := 12) (c_X12_isBox (by first | assumption | omega | exact h12) (by first | assumption | omega | exact h12) (by first | assumption | omega | exact h12)) dX12_areTwo_2 mlX12_213 mkX12_isBox rfl rfl h12.o ⟨by decide, rfl⟩ ⟨Nat.le_of_ble_eq_true rfl, Nat.le_of_ble_eq_true rfl⟩ (Nat.le_of_ble_eq_true rfl) ⟨Nat.le_of_ble_eq_true rfl, Nat.le_of_ble_eq_true rfl⟩ ?_
  refine V_if_eqB (pc := 5) (tgt := 25) dX12_areTwo_5 (by decide) (fun c5 => ?_) (fun n5 => ?_)
  · skip
    first
    | rw [show are2 A x y = false from by unfold are2; rw [c5]; rfl]
    | rw [show are2 A x y = false from by unfold are2; rw [c13, Bool.false_and, Bool.and_false]]
    | rw [show are2 A x y = false from by unfold are2; rw [decide_eq_true c18, Bool.not_true, Bool.and_false, Bool.and_false]]
    refine V_iconst (pc := 25) (v := nI 0) dX12_areTwo_25 (by decide) ?_
    refine V_zretB (pc := 26) (p := false) dX12_areTwo_26 rfl rfl (by first | decide | omega) (by first | decide | omega) ?_
    exact ⟨rfl, rfl, rfl, rfl⟩
  · skip
    refine V_aload_n (pc := 8) dX12_areTwo_8 rfl ?_
    refine V_iload_n (pc := 9) dX12_areTwo_9 rfl ?_
    refine V_callVd (pc := 10) (ci := 12) (c_X12_isBox (by first | assumption | omega | exact h12) (by first | assumption | omega | exact h12) (by first | assumption | omega | exact h12)) dX12_areTwo_10 mlX12_213 mkX12_isBox rfl rfl h12.o ⟨by decide, rfl⟩ ⟨Nat.le_of_ble_eq_true rfl, Nat.le_of_ble_eq_true rfl⟩ (Nat.le_of_ble_eq_true rfl) ⟨Nat.le_of_ble_eq_true rfl, Nat.le_of_ble_eq_true rfl⟩ ?_
    refine V_if_eqB (pc := 13) (tgt := 25) dX12_areTwo_13 (by decide) (fun c13 => ?_) (fun n13 => ?_)
    · skip
      first
      | rw [show are2 A x y = false from by unfold are2; rw [c5]; rfl]
      | rw [show are2 A x y = false from by unfold are2; rw [c13, Bool.false_and, Bool.and_false]]
      | rw [show are2 A x y = false from by unfold are2; rw [decide_eq_true c18, Bool.not_true, Bool.and_false, Bool.and_false]]
      refine V_iconst (pc := 25) (v := nI 0) dX12_areTwo_25 (by decide) ?_
      refine V_zretB (pc := 26) (p := false) dX12_areTwo_26 rfl rfl (by first | decide | omega) (by first | decide | omega) ?_
      exact ⟨rfl, rfl, rfl, rfl⟩
    · skip
      refine V_iload_n (pc := 16) dX12_areTwo_16 rfl ?_
      refine V_iload_n (pc := 17) dX12_areTwo_17 rfl ?_
      refine V_icmp_eq (pc := 18) (tgt := 25) dX12_areTwo_18 (by decide) (fun c18 => ?_) (fun n18 => ?_)
      · skip
        first
        | rw [show are2 A x y = false from by unfold are2; rw [c5]; rfl]
        | rw [show are2 A x y = false from by unfold are2; rw [c13, Bool.false_and, Bool.and_false]]
        | rw [show are2 A x y = false from by unfold are2; rw [decide_eq_true c18, Bool.not_true, Bool.and_false, Bool.and_false]]
        refine V_iconst (pc := 25) (v := nI 0) dX12_areTwo_25 (by decide) ?_
        refine V_zretB (pc := 26) (p := false) dX12_areTwo_26 rfl rfl (by first | decide | omega) (by first | decide | omega) ?_
        exact ⟨rfl, rfl, rfl, rfl⟩
      · skip
        rw [show are2 A x y = true from by unfold are2; rw [n5, n13, decide_eq_false n18]; rfl]
        refine V_iconst (pc := 21) (v := nI 1) dX12_areTwo_21 (by decide) ?_
        refine V_goto (pc := 22) (tgt := 26) dX12_areTwo_22 (by decide) ?_
        refine V_zretB (pc := 26) (p := true) dX12_areTwo_26 rfl rfl (by first | decide | omega) (by first | decide | omega) ?_
        exact ⟨rfl, rfl, rfl, rfl⟩
theorem are2_ex {x y : Int32} (hA : wfA A) (h : are2 A x y = true) : ∃ a b, a < aq A 0 ∧ b < aq A 0 ∧ a ≠ b ∧ x = nI a ∧ y = nI b := by
  have hnb := hA.q.nb
  unfold are2 at h
  obtain ⟨h1, h2⟩ := Bool.and_eq_true_iff.mp h
  obtain ⟨h2, h3⟩ := Bool.and_eq_true_iff.mp h2
  obtain ⟨a, ha, e1⟩ := bnd_ex (by omega) h1
  obtain ⟨b, hb, e2⟩ := bnd_ex (by omega) h2
  refine ⟨a, b, ha, hb, fun z => ?_, e1, e2⟩
  subst z
  rw [e1, e2] at h3
  simp at h3
theorem MR.d28 {I' : IT} (h : MR o I L A) (ha : ∀ x, x ≠ o + 28 → I' x = I x) : MR o I' L A := h.dead ⟨fun a ha' => ha a (by simp at ha'; omega), fun i hi => by rw [ha o (by omega)], fun _ _ => rfl⟩
def spClash (A : AT) (x y z : Int32) : Int32 := if are2 A x y = true ∧ bnd z 8 = true then nI (clc (aq A) (cln x) (cln y) (cln z)) else -1
theorem c_X12_clash (h12 : Lay12 E S o) (hM : MR o I L A) (hA : wfA A) {x y z : Int32} : Cm E kX12_clash 3 [.ref o, .int x, .int y, .int z] S I L o (.int (spClash A x y z)) A := by
  have hq := hA.q
  have hnb := hq.nb
  refine C_of (by decide) (Nat.le_of_ble_eq_true rfl) ?_
  refine V_aload_n (pc := 0) dX12_clash_0 rfl ?_
  refine V_iconst (pc := 1) (v := nI 0) dX12_clash_1 (by decide) ?_
  refine V_putI (pc := 2) 12 0 dX12_clash_2 flX12_175 (by decide) (by decide) (Or.inl rfl) rfl rfl h12.o ?_
  have hM := hM.thrown (v := nI 0)
  have hF : FrM o (up2 I o 0 (nI 0)) I L L := FrM.rf.up (by omega)
  generalize up2 I o 0 (nI 0) = I0 at hM hF ⊢
  have hr := hM.row
  refine V_aload_n (pc := 5) dX12_clash_5 rfl ?_
  refine V_iload_n (pc := 6) dX12_clash_6 rfl ?_
  refine V_iload_n (pc := 7) dX12_clash_7 rfl ?_
  refine V_callVd (pc := 8) (ci := 12) (c_X12_areTwo h12 hr hq) dX12_clash_8 mlX12_516 mkX12_areTwo rfl rfl h12.o ⟨by decide, rfl⟩ ⟨Nat.le_of_ble_eq_true rfl, Nat.le_of_ble_eq_true rfl⟩ (Nat.le_of_ble_eq_true rfl) ⟨Nat.le_of_ble_eq_true rfl, Nat.le_of_ble_eq_true rfl⟩ ?_
  refine V_if_eqB (pc := 11) (tgt := 31) dX12_clash_11 (by decide) (fun c11 => ?_) (fun n11 => ?_)
  · skip
    refine V_iconst (pc := 31) (v := (-1)) dX12_clash_31 (by decide) ?_
    refine V_iret (pc := 32) dX12_clash_32 rfl (by first | decide | omega) (by first | decide | omega) ?_
    first
    | exact ⟨rfl, rfl, hM.d28 hx, fun a h => ⟨by rw [hx a (by omega)]; exact (hF a h).1, rfl⟩⟩
    | (rw [spClash, if_neg (fun w => by rw [w.1] at c11; exact absurd c11 (by decide))]; exact ⟨rfl, rfl, hM, hF⟩)
    | (rw [spClash, if_neg (fun w => by rw [w.2] at c18; exact absurd c18 (by decide))]; exact ⟨rfl, rfl, hM, hF⟩)
  · skip
    refine V_iload_n (pc := 14) dX12_clash_14 rfl ?_
    refine V_callSd (pc := 15) (c_X12_isBar) dX12_clash_15 mlX12_228 mkX12_isBar rfl rfl ⟨Nat.le_of_ble_eq_true rfl, Nat.le_of_ble_eq_true rfl⟩ (Nat.le_of_ble_eq_true rfl) ⟨Nat.le_of_ble_eq_true rfl, Nat.le_of_ble_eq_true rfl⟩ ?_
    refine V_if_eqB (pc := 18) (tgt := 31) dX12_clash_18 (by decide) (fun c18 => ?_) (fun n18 => ?_)
    · skip
      refine V_iconst (pc := 31) (v := (-1)) dX12_clash_31 (by decide) ?_
      refine V_iret (pc := 32) dX12_clash_32 rfl (by first | decide | omega) (by first | decide | omega) ?_
      first
      | exact ⟨rfl, rfl, hM.d28 hx, fun a h => ⟨by rw [hx a (by omega)]; exact (hF a h).1, rfl⟩⟩
      | (rw [spClash, if_neg (fun w => by rw [w.1] at c11; exact absurd c11 (by decide))]; exact ⟨rfl, rfl, hM, hF⟩)
      | (rw [spClash, if_neg (fun w => by rw [w.2] at c18; exact absurd c18 (by decide))]; exact ⟨rfl, rfl, hM, hF⟩)
    · skip
      rw [spClash, if_pos ⟨n11, n18⟩]
      obtain ⟨a, b, ha, hb, -, e1, e2⟩ := are2_ex hA n11
      obtain ⟨t, ht, e3⟩ := bnd_ex (by omega) n18
      subst e1 e2 e3
      rw [cln_nI (by omega), cln_nI (by omega), cln_nI (by omega)]
      refine V_aload_n (pc := 21) dX12_clash_21 rfl ?_
      refine V_iload_n (pc := 22) dX12_clash_22 rfl ?_
      refine V_iload_n (pc := 23) dX12_clash_23 rfl ?_
      refine V_iload_n (pc := 24) dX12_clash_24 rfl ?_
      refine V_callV (pc := 25) (ci := 12) (c_X12_layClash h12 hr hq (by omega) (by omega) ht) dX12_clash_25 mlX12_519 mkX12_layClash rfl rfl h12.o ⟨by decide, rfl⟩ ⟨Nat.le_of_ble_eq_true rfl, Nat.le_of_ble_eq_true rfl⟩ (Nat.le_of_ble_eq_true rfl) ⟨Nat.le_of_ble_eq_true rfl, Nat.le_of_ble_eq_true rfl⟩ (fun r S' I' L' hp => ?_)
      obtain ⟨rfl, rfl, rfl, hx, hc⟩ := hp
      refine V_goto (pc := 28) (tgt := 32) dX12_clash_28 (by decide) ?_
      refine V_iret (pc := 32) dX12_clash_32 rfl (by first | decide | omega) (by first | decide | omega) ?_
      first
      | exact ⟨rfl, rfl, hM.d28 hx, fun a h => ⟨by rw [hx a (by omega)]; exact (hF a h).1, rfl⟩⟩
      | (rw [spClash, if_neg (fun w => by rw [w.1] at c11; exact absurd c11 (by decide))]; exact ⟨rfl, rfl, hM, hF⟩)
      | (rw [spClash, if_neg (fun w => by rw [w.2] at c18; exact absurd c18 (by decide))]; exact ⟨rfl, rfl, hM, hF⟩)
def bst (q : Nat → Nat) (a b : Nat) : Nat → Int32 × Nat | 0 => (-1, FARN) | n + 1 => if clc q a b n < (bst q a b n).2 then (nI n, clc q a b n) else bst q a b n
theorem clc_le (q : Nat → Nat) (a b t : Nat) : clc q a b t ≤ 512 := sm_le (c := 64) (fun k _ => sm_le (c := 8) (fun t _ => pop8_le _))
theorem bst_le (q : Nat → Nat) (a b : Nat) : ∀ n, (bst q a b n).2 ≤ FARN
  | 0 => Nat.le_refl _
  | n + 1 => by
    have h := bst_le q a b n
    unfold bst
    split
    · rename_i c; exact Nat.le_trans (Nat.le_of_lt c) h
    · exact h
def spBest (A : AT) (x y z : Int32) : Int32 := if are2 A x y = true ∧ bnd z 2 = true then (if cln z = 0 then (bst (aq A) (cln x) (cln y) 8).1 else nI (bst (aq A) (cln x) (cln y) 8).2) else -1
theorem lp_bst (h12 : Lay12 E S o) {I0 : IT} {a b k : Nat} {post : Option Value → ST → IT → LT → Prop} (hM : MR o I0 L A) (hq : wq (aq A)) (ha6 : a < 6) (hb6 : b < 6) (hk : k < 2) (hp : ∀ I', (∀ x, x ≠ o + 28 → I' x = I0 x) → post (some (.int (if k = 0 then (bst (aq A) a b 8).1 else nI (bst (aq A) a b 8).2))) S I' L) : V E kX12_best (rmOf 3 0 0) (QM E post 0 0) 0 0 S I0 L 37 [(0, .ref o), (1, .int (nI a)), (2, .int (nI b)), (3, .int (nI k)), (4, .int (nI 100000000)), (5, .int (-1)), (6, .int (nI 0))] [] := by
  have key : ∀ n, n ≤ 8 → ∀ I', (∀ x, x ≠ o + 28 → I' x = I0 x) → V E kX12_best (rmOf 3 0 0) (QM E post 0 0) 0 0 S I' L 37 [(0, .ref o), (1, .int (nI a)), (2, .int (nI b)), (3, .int (nI k)), (4, .int (nI (bst (aq A) a b n).2)), (5, .int (bst (aq A) a b n).1), (6, .int (nI n))] [] := by
    refine loopUp ?_ ?_
    · intro I' hx
      have hp' := hp I' hx
      refine V_iload (pc := 37) dX12_best_37 rfl ?_
      refine V_bipush (pc := 39) (v := nI 8) dX12_best_39 (by decide) ?_
      refine V_icmp_geN (pc := 41) (tgt := 92) dX12_best_41 (by decide) (by omega) (by omega) (fun c41 => ?_) (fun n41 => absurd n41 (by omega))
      refine V_iload_n (pc := 92) dX12_best_92 rfl ?_
      refine V_if_neN (pc := 93) (tgt := 101) dX12_best_93 (by decide) (by omega) (fun c93 => ?_) (fun n93 => ?_)
      · skip
        refine V_iload (pc := 101) dX12_best_101 rfl ?_
        refine V_iret (pc := 103) dX12_best_103 rfl (by first | decide | omega) (by first | decide | omega) ?_
        first | (rw [if_pos n93] at hp'; exact hp') | (rw [if_neg c93] at hp'; exact hp')
      · skip
        refine V_iload (pc := 96) dX12_best_96 rfl ?_
        refine V_goto (pc := 98) (tgt := 103) dX12_best_98 (by decide) ?_
        refine V_iret (pc := 103) dX12_best_103 rfl (by first | decide | omega) (by first | decide | omega) ?_
        first | (rw [if_pos n93] at hp'; exact hp') | (rw [if_neg c93] at hp'; exact hp')
    · intro n hn ih I' hx
      have hr' := hM.row.cg (hx (o + 2) (by omega))
      have hcl := clc_le (aq A) a b n
      have hbl := bst_le (aq A) a b n
      unfold FARN at hbl
      have es : bst (aq A) a b (n + 1) = if clc (aq A) a b n < (bst (aq A) a b n).2 then (nI n, clc (aq A) a b n) else bst (aq A) a b n := rfl
      rw [es] at ih
      refine V_iload (pc := 37) dX12_best_37 rfl ?_
      refine V_bipush (pc := 39) (v := nI 8) dX12_best_39 (by decide) ?_
      refine V_icmp_geN (pc := 41) (tgt := 92) dX12_best_41 (by decide) (by omega) (by omega) (fun c41 => absurd c41 (by omega)) (fun n41 => ?_)
      refine V_aload_n (pc := 44) dX12_best_44 rfl ?_
      refine V_iload_n (pc := 45) dX12_best_45 rfl ?_
      refine V_iload_n (pc := 46) dX12_best_46 rfl ?_
      refine V_iload (pc := 47) dX12_best_47 rfl ?_
      refine V_callV (pc := 49) (ci := 12) (c_X12_layClash h12 hr' hq ha6 hb6 hn) dX12_best_49 mlX12_519 mkX12_layClash rfl rfl h12.o ⟨by decide, rfl⟩ ⟨Nat.le_of_ble_eq_true rfl, Nat.le_of_ble_eq_true rfl⟩ (Nat.le_of_ble_eq_true rfl) ⟨Nat.le_of_ble_eq_true rfl, Nat.le_of_ble_eq_true rfl⟩ (fun r S' I' L' hp => ?_)
      obtain ⟨rfl, rfl, rfl, hx2, -⟩ := hp
      refine V_istore (pc := 52) (ls' := [(0, _), (1, _), (2, _), (3, _), (4, _), (5, _), (6, _), (7, _)]) dX12_best_52 (by decide) rfl ?_
      refine V_iload (pc := 54) dX12_best_54 rfl ?_
      refine V_iload (pc := 56) dX12_best_56 rfl ?_
      refine V_icmp_geN (pc := 58) (tgt := 66) dX12_best_58 (by decide) (by omega) (by omega) (fun c58 => ?_) (fun n58 => ?_)
      · skip
        rw [if_neg (by omega)] at ih
        refine V_iload (pc := 66) dX12_best_66 rfl ?_
        refine V_istore (pc := 68) (ls' := [(0, _), (1, _), (2, _), (3, _), (4, _), (5, _), (6, _), (7, _)]) dX12_best_68 (by decide) rfl ?_
        refine V_iload (pc := 70) dX12_best_70 rfl ?_
        refine V_iload (pc := 72) dX12_best_72 rfl ?_
        refine V_icmp_geN (pc := 74) (tgt := 82) dX12_best_74 (by decide) (by omega) (by omega) (fun c74 => ?_) (fun n74 => ?_)
        · skip
          refine V_iload (pc := 82) dX12_best_82 rfl ?_
          refine V_istore (pc := 84) (ls' := [(0, _), (1, _), (2, _), (3, _), (4, _), (5, _), (6, _), (7, _)]) dX12_best_84 (by decide) rfl ?_
          refine V_loc [0, 1, 2, 3, 4, 5, 6] rfl ?_
          refine V_iinc1 (pc := 86) (ls' := [(0, _), (1, _), (2, _), (3, _), (4, _), (5, _), (6, _)]) dX12_best_86 rfl (by decide) rfl ?_
          refine V_goto (pc := 89) (tgt := 37) dX12_best_89 (by decide) ?_
          first | omega | exact ih _ (fun x h => by rw [hx2 x h]; exact hx x h)
        · skip
          refine V_iload (pc := 77) dX12_best_77 rfl ?_
          refine V_goto (pc := 79) (tgt := 84) dX12_best_79 (by decide) ?_
          refine V_istore (pc := 84) (ls' := [(0, _), (1, _), (2, _), (3, _), (4, _), (5, _), (6, _), (7, _)]) dX12_best_84 (by decide) rfl ?_
          refine V_loc [0, 1, 2, 3, 4, 5, 6] rfl ?_
          refine V_iinc1 (pc := 86) (ls' := [(0, _), (1, _), (2, _), (3, _), (4, _), (5, _), (6, _)]) dX12_best_86 rfl (by decide) rfl ?_
          refine V_goto (pc := 89) (tgt := 37) dX12_best_89 (by decide) ?_
          first | omega | exact ih _ (fun x h => by rw [hx2 x h]; exact hx x h)
      · skip
        rw [if_pos (by omega)] at ih
        refine V_iload (pc := 61) dX12_best_61 rfl ?_
        refine V_goto (pc := 63) (tgt := 68) dX12_best_63 (by decide) ?_
        refine V_istore (pc := 68) (ls' := [(0, _), (1, _), (2, _), (3, _), (4, _), (5, _), (6, _), (7, _)]) dX12_best_68 (by decide) rfl ?_
        refine V_iload (pc := 70) dX12_best_70 rfl ?_
        refine V_iload (pc := 72) dX12_best_72 rfl ?_
        refine V_icmp_geN (pc := 74) (tgt := 82) dX12_best_74 (by decide) (by omega) (by omega) (fun c74 => ?_) (fun n74 => ?_)
        · skip
          refine V_iload (pc := 82) dX12_best_82 rfl ?_
          refine V_istore (pc := 84) (ls' := [(0, _), (1, _), (2, _), (3, _), (4, _), (5, _), (6, _), (7, _)]) dX12_best_84 (by decide) rfl ?_
          refine V_loc [0, 1, 2, 3, 4, 5, 6] rfl ?_
          refine V_iinc1 (pc := 86) (ls' := [(0, _), (1, _), (2, _), (3, _), (4, _), (5, _), (6, _)]) dX12_best_86 rfl (by decide) rfl ?_
          refine V_goto (pc := 89) (tgt := 37) dX12_best_89 (by decide) ?_
          first | omega | exact ih _ (fun x h => by rw [hx2 x h]; exact hx x h)
        · skip
          refine V_iload (pc := 77) dX12_best_77 rfl ?_
          refine V_goto (pc := 79) (tgt := 84) dX12_best_79 (by decide) ?_
          refine V_istore (pc := 84) (ls' := [(0, _), (1, _), (2, _), (3, _), (4, _), (5, _), (6, _), (7, _)]) dX12_best_84 (by decide) rfl ?_
          refine V_loc [0, 1, 2, 3, 4, 5, 6] rfl ?_
          refine V_iinc1 (pc := 86) (ls' := [(0, _), (1, _), (2, _), (3, _), (4, _), (5, _), (6, _)]) dX12_best_86 rfl (by decide) rfl ?_
          refine V_goto (pc := 89) (tgt := 37) dX12_best_89 (by decide) ?_
          first | omega | exact ih _ (fun x h => by rw [hx2 x h]; exact hx x h)
  exact key 0 (by omega) I0 (fun _ _ => rfl)
theorem c_X12_best (h12 : Lay12 E S o) (hM : MR o I L A) (hA : wfA A) {x y z : Int32} : Cm E kX12_best 3 [.ref o, .int x, .int y, .int z] S I L o (.int (spBest A x y z)) A := by
  have hq := hA.q
  have hnb := hq.nb
  have e1 : decide (lN 0 ≤ z.toInt64 ∧ z.toInt64 ≤ lN 1) = bnd z 2 := bnd64' (n := 1) (by omega)
  refine C_of (by decide) (Nat.le_of_ble_eq_true rfl) ?_
  refine V_aload_n (pc := 0) dX12_best_0 rfl ?_
  refine V_iconst (pc := 1) (v := nI 0) dX12_best_1 (by decide) ?_
  refine V_putI (pc := 2) 12 0 dX12_best_2 flX12_175 (by decide) (by decide) (Or.inl rfl) rfl rfl h12.o ?_
  have hM := hM.thrown (v := nI 0)
  have hF : FrM o (up2 I o 0 (nI 0)) I L L := FrM.rf.up (by omega)
  generalize up2 I o 0 (nI 0) = I0 at hM hF ⊢
  have hr := hM.row
  refine V_aload_n (pc := 5) dX12_best_5 rfl ?_
  refine V_iload_n (pc := 6) dX12_best_6 rfl ?_
  refine V_iload_n (pc := 7) dX12_best_7 rfl ?_
  refine V_callVd (pc := 8) (ci := 12) (c_X12_areTwo h12 hr hq) dX12_best_8 mlX12_516 mkX12_areTwo rfl rfl h12.o ⟨by decide, rfl⟩ ⟨Nat.le_of_ble_eq_true rfl, Nat.le_of_ble_eq_true rfl⟩ (Nat.le_of_ble_eq_true rfl) ⟨Nat.le_of_ble_eq_true rfl, Nat.le_of_ble_eq_true rfl⟩ ?_
  refine V_if_eqB (pc := 11) (tgt := 24) dX12_best_11 (by decide) (fun c11 => ?_) (fun n11 => ?_)
  · skip
    refine V_iconst (pc := 24) (v := (-1)) dX12_best_24 (by decide) ?_
    refine V_iret (pc := 25) dX12_best_25 rfl (by first | decide | omega) (by first | decide | omega) ?_
    first
    | (rw [spBest, if_neg (fun w => by rw [w.1] at c11; exact absurd c11 (by decide))]; exact ⟨rfl, rfl, hM, hF⟩)
    | (rw [e1] at n21; rw [spBest, if_neg (fun w => by rw [w.2] at n21; exact absurd n21 (by decide))]; exact ⟨rfl, rfl, hM, hF⟩)
  · skip
    refine V_iload_n (pc := 14) dX12_best_14 rfl ?_
    refine V_i2l (pc := 15) dX12_best_15 rfl ?_
    refine V_lconst (pc := 16) (v := lN 0) dX12_best_16 (by decide) ?_
    refine V_lconst (pc := 17) (v := lN 1) dX12_best_17 (by decide) ?_
    refine V_callSd (pc := 18) (c_X12_in) dX12_best_18 mlX12_195 mkX12_in rfl rfl ⟨Nat.le_of_ble_eq_true rfl, Nat.le_of_ble_eq_true rfl⟩ (Nat.le_of_ble_eq_true rfl) ⟨Nat.le_of_ble_eq_true rfl, Nat.le_of_ble_eq_true rfl⟩ ?_
    refine V_if_neB (pc := 21) (tgt := 26) dX12_best_21 (by decide) (fun c21 => ?_) (fun n21 => ?_)
    · skip
      rw [e1] at c21
      rw [spBest, if_pos ⟨n11, c21⟩]
      obtain ⟨a, b, ha, hb, -, f1, f2⟩ := are2_ex hA n11
      obtain ⟨t, ht, f3⟩ := bnd_ex (by omega) c21
      subst f1 f2 f3
      rw [cln_nI (by omega), cln_nI (by omega), cln_nI (by omega)]
      refine V_ldcw (pc := 26) dX12_best_26 coX12_487 ?_
      refine V_istore (pc := 29) (ls' := [(0, _), (1, _), (2, _), (3, _), (4, _)]) dX12_best_29 (by decide) rfl ?_
      refine V_iconst (pc := 31) (v := (-1)) dX12_best_31 (by decide) ?_
      refine V_istore (pc := 32) (ls' := [(0, _), (1, _), (2, _), (3, _), (4, _), (5, _)]) dX12_best_32 (by decide) rfl ?_
      refine V_iconst (pc := 34) (v := nI 0) dX12_best_34 (by decide) ?_
      refine V_istore (pc := 35) (ls' := [(0, _), (1, _), (2, _), (3, _), (4, _), (5, _), (6, _)]) dX12_best_35 (by decide) rfl ?_
      exact lp_bst h12 hM hq (by omega) (by omega) ht (fun I' hx => ⟨rfl, rfl, hM.d28 hx, fun a h => ⟨by rw [hx a (by omega)]; exact (hF a h).1, rfl⟩⟩)
    · skip
      refine V_iconst (pc := 24) (v := (-1)) dX12_best_24 (by decide) ?_
      refine V_iret (pc := 25) dX12_best_25 rfl (by first | decide | omega) (by first | decide | omega) ?_
      first
      | (rw [spBest, if_neg (fun w => by rw [w.1] at c11; exact absurd c11 (by decide))]; exact ⟨rfl, rfl, hM, hF⟩)
      | (rw [e1] at n21; rw [spBest, if_neg (fun w => by rw [w.2] at n21; exact absurd n21 (by decide))]; exact ⟨rfl, rfl, hM, hF⟩)
/-- the teeth of the other that must be filed with those of the set filed -/
def thr1 (cw : Nat → Nat) (s : Nat) : Nat → Nat := orr (fun t => if s / 2 ^ t % 2 = 1 then 0 else cw t)
def fil (cw : Nat → Nat) : Nat → Nat × Nat × Nat | 0 => (FARN, 0, 0) | s + 1 => if pop8 s + pop8 (thr1 cw s 8) < (fil cw s).1 then (pop8 s + pop8 (thr1 cw s 8), s, thr1 cw s 8) else fil cw s
theorem fil_s (cw : Nat → Nat) (s : Nat) : fil cw (s + 1) = if pop8 s + pop8 (thr1 cw s 8) < (fil cw s).1 then (pop8 s + pop8 (thr1 cw s 8), s, thr1 cw s 8) else fil cw s := rfl
theorem fil_le {cw : Nat → Nat} : ∀ s, (fil cw s).1 ≤ FARN
  | 0 => Nat.le_refl _
  | s + 1 => by
    have h := fil_le (cw := cw) s
    rw [fil_s]
    split
    · rename_i c; exact Nat.le_trans (Nat.le_of_lt c) h
    · exact h
def spFiled (A : AT) (x y z w : Int32) : Int32 := if are2 A x y = true ∧ bnd z 8 = true ∧ bnd w 3 = true then (if cln w = 0 then nI (fil (cwt (aq A) (cln x) (cln y) (cln z)) 256).1 else if cln w = 1 then nI (fil (cwt (aq A) (cln x) (cln y) (cln z)) 256).2.1 else nI (fil (cwt (aq A) (cln x) (cln y) (cln z)) 256).2.2) else -1
theorem lp_fl1 (h12 : Lay12 E S o) {Q : QT} {cw : Nat → Nat} {v1 v2 v3 v4 v5 v6 v7 : Int32} {s : Nat} (hs : s < 256) (hc : ∀ t, t < 8 → I (o + 28) t = nI (cw t)) (hk : V E kX12_filed (rmOf 3 0 0) Q 0 0 S I L 111 [(0, .ref o), (1, .int v1), (2, .int v2), (3, .int v3), (4, .int v4), (5, .int v5), (6, .int v6), (7, .int v7), (8, .int (nI s)), (9, .int (nI (thr1 cw s 8))), (10, .int (nI 8))] []) : V E kX12_filed (rmOf 3 0 0) Q 0 0 S I L 72 [(0, .ref o), (1, .int v1), (2, .int v2), (3, .int v3), (4, .int v4), (5, .int v5), (6, .int v6), (7, .int v7), (8, .int (nI s)), (9, .int (nI 0)), (10, .int (nI 0))] [] := by
  refine loopUp (P := fun t => V E kX12_filed (rmOf 3 0 0) Q 0 0 S I L 72 [(0, .ref o), (1, .int v1), (2, .int v2), (3, .int v3), (4, .int v4), (5, .int v5), (6, .int v6), (7, .int v7), (8, .int (nI s)), (9, .int (nI (thr1 cw s t))), (10, .int (nI t))] []) (n := 8) ?_ ?_ 0 (by omega)
  · skip
    refine V_iload (pc := 72) dX12_filed_72 rfl ?_
    refine V_bipush (pc := 74) (v := nI 8) dX12_filed_74 (by decide) ?_
    refine V_icmp_geN (pc := 76) (tgt := 111) dX12_filed_76 (by decide) (by omega) (by omega) (fun c76 => ?_) (fun n76 => absurd n76 (by omega))
    exact hk
  · intro t ht ih
    have es : thr1 cw s (t + 1) = thr1 cw s t ||| (if s / 2 ^ t % 2 = 1 then 0 else cw t) := rfl
    rw [es] at ih
    refine V_iload (pc := 72) dX12_filed_72 rfl ?_
    refine V_bipush (pc := 74) (v := nI 8) dX12_filed_74 (by decide) ?_
    refine V_icmp_geN (pc := 76) (tgt := 111) dX12_filed_76 (by decide) (by omega) (by omega) (fun c76 => absurd c76 (by omega)) (fun n76 => ?_)
    refine V_iload (pc := 79) dX12_filed_79 rfl ?_
    refine V_iload (pc := 81) dX12_filed_81 rfl ?_
    refine V_iload (pc := 83) dX12_filed_83 rfl ?_
    refine V_callSd (pc := 85) (c_X12_is (by first | assumption | omega) (by first | assumption | omega)) dX12_filed_85 mlX12_458 mkX12_is rfl rfl ⟨Nat.le_of_ble_eq_true rfl, Nat.le_of_ble_eq_true rfl⟩ (Nat.le_of_ble_eq_true rfl) ⟨Nat.le_of_ble_eq_true rfl, Nat.le_of_ble_eq_true rfl⟩ ?_
    refine V_if_eqB (pc := 88) (tgt := 95) dX12_filed_88 (by decide) (fun c88 => ?_) (fun n88 => ?_)
    · skip
      rw [if_neg (of_decide_eq_false c88)] at ih
      refine V_aload_n (pc := 95) dX12_filed_95 rfl ?_
      refine V_getR (pc := 96) 12 48 dX12_filed_96 flX12_131 (by decide) h12.o h12.R48 ?_
      refine V_iload (pc := 99) dX12_filed_99 rfl ?_
      refine V_ialoadE (pc := 101) dX12_filed_101 h12.A48 (by first | decide | omega) (by omega) (hc t ht) ?_
      refine V_iorN (pc := 102) dX12_filed_102 ?_
      refine V_istore (pc := 103) (ls' := [(0, _), (1, _), (2, _), (3, _), (4, _), (5, _), (6, _), (7, _), (8, _), (9, _), (10, _)]) dX12_filed_103 (by decide) rfl ?_
      refine V_iinc1 (pc := 105) (ls' := [(0, _), (1, _), (2, _), (3, _), (4, _), (5, _), (6, _), (7, _), (8, _), (9, _), (10, _)]) dX12_filed_105 rfl (by decide) rfl ?_
      refine V_goto (pc := 108) (tgt := 72) dX12_filed_108 (by decide) ?_
      exact ih
    · skip
      rw [if_pos (of_decide_eq_true n88)] at ih
      refine V_iconst (pc := 91) (v := nI 0) dX12_filed_91 (by decide) ?_
      refine V_goto (pc := 92) (tgt := 102) dX12_filed_92 (by decide) ?_
      refine V_iorN (pc := 102) dX12_filed_102 ?_
      refine V_istore (pc := 103) (ls' := [(0, _), (1, _), (2, _), (3, _), (4, _), (5, _), (6, _), (7, _), (8, _), (9, _), (10, _)]) dX12_filed_103 (by decide) rfl ?_
      refine V_iinc1 (pc := 105) (ls' := [(0, _), (1, _), (2, _), (3, _), (4, _), (5, _), (6, _), (7, _), (8, _), (9, _), (10, _)]) dX12_filed_105 rfl (by decide) rfl ?_
      refine V_goto (pc := 108) (tgt := 72) dX12_filed_108 (by decide) ?_
      exact ih
theorem lp_fl2 (h12 : Lay12 E S o) {cw : Nat → Nat} {v1 v2 v3 : Int32} {w : Nat} {post : Option Value → ST → IT → LT → Prop} (hw : w < 3) (hc : ∀ t, t < 8 → I (o + 28) t = nI (cw t)) (hcl : ∀ t, cw t < 256) (hp : post (some (.int (if w = 0 then nI (fil cw 256).1 else if w = 1 then nI (fil cw 256).2.1 else nI (fil cw 256).2.2))) S I L) : V E kX12_filed (rmOf 3 0 0) (QM E post 0 0) 0 0 S I L 58 [(0, .ref o), (1, .int v1), (2, .int v2), (3, .int v3), (4, .int (nI w)), (5, .int (nI 100000000)), (6, .int (nI 0)), (7, .int (nI 0)), (8, .int (nI 0))] [] := by
  refine loopUp (P := fun s => V E kX12_filed (rmOf 3 0 0) (QM E post 0 0) 0 0 S I L 58 [(0, .ref o), (1, .int v1), (2, .int v2), (3, .int v3), (4, .int (nI w)), (5, .int (nI (fil cw s).1)), (6, .int (nI (fil cw s).2.1)), (7, .int (nI (fil cw s).2.2)), (8, .int (nI s))] []) (n := 256) ?_ ?_ 0 (by omega)
  · generalize fil cw 256 = g at hp ⊢
    refine V_iload (pc := 58) dX12_filed_58 rfl ?_
    refine V_sipush (pc := 60) (v := nI 256) dX12_filed_60 (by decide) ?_
    refine V_icmp_geN (pc := 63) (tgt := 191) dX12_filed_63 (by decide) (by omega) (by omega) (fun c63 => ?_) (fun n63 => absurd n63 (by omega))
    refine V_iload (pc := 191) dX12_filed_191 rfl ?_
    refine V_if_neN (pc := 193) (tgt := 201) dX12_filed_193 (by decide) (by omega) (fun c193 => ?_) (fun n193 => ?_)
    · skip
      rw [if_neg c193] at hp
      refine V_iload (pc := 201) dX12_filed_201 rfl ?_
      refine V_iconst (pc := 203) (v := nI 1) dX12_filed_203 (by decide) ?_
      refine V_icmp_neN (pc := 204) (tgt := 212) dX12_filed_204 (by decide) (by omega) (by omega) (fun c204 => ?_) (fun n204 => ?_)
      · skip
        rw [if_neg c204] at hp
        refine V_iload (pc := 212) dX12_filed_212 rfl ?_
        refine V_iret (pc := 214) dX12_filed_214 rfl (by first | decide | omega) (by first | decide | omega) ?_
        exact hp
      · skip
        rw [if_pos n204] at hp
        refine V_iload (pc := 207) dX12_filed_207 rfl ?_
        refine V_goto (pc := 209) (tgt := 214) dX12_filed_209 (by decide) ?_
        refine V_iret (pc := 214) dX12_filed_214 rfl (by first | decide | omega) (by first | decide | omega) ?_
        exact hp
    · skip
      rw [if_pos n193] at hp
      refine V_iload (pc := 196) dX12_filed_196 rfl ?_
      refine V_goto (pc := 198) (tgt := 214) dX12_filed_198 (by decide) ?_
      refine V_iret (pc := 214) dX12_filed_214 rfl (by first | decide | omega) (by first | decide | omega) ?_
      exact hp
  · intro s hs ih
    have h1 := pop8_le s
    have h2 := pop8_le (thr1 cw s 8)
    have h3 := fil_le (cw := cw) s
    unfold FARN at h3
    have h4 : thr1 cw s 8 < 256 := orr_lt (fun t => by show (if _ then 0 else cw t) < 256; split; omega; exact hcl t) 8
    rw [fil_s cw s] at ih
    refine V_iload (pc := 58) dX12_filed_58 rfl ?_
    refine V_sipush (pc := 60) (v := nI 256) dX12_filed_60 (by decide) ?_
    refine V_icmp_geN (pc := 63) (tgt := 191) dX12_filed_63 (by decide) (by omega) (by omega) (fun c63 => absurd c63 (by omega)) (fun n63 => ?_)
    refine V_iconst (pc := 66) (v := nI 0) dX12_filed_66 (by decide) ?_
    refine V_istore (pc := 67) (ls' := [(0, _), (1, _), (2, _), (3, _), (4, _), (5, _), (6, _), (7, _), (8, _), (9, _)]) dX12_filed_67 (by decide) rfl ?_
    refine V_iconst (pc := 69) (v := nI 0) dX12_filed_69 (by decide) ?_
    refine V_istore (pc := 70) (ls' := [(0, _), (1, _), (2, _), (3, _), (4, _), (5, _), (6, _), (7, _), (8, _), (9, _), (10, _)]) dX12_filed_70 (by decide) rfl ?_
    refine lp_fl1 h12 hs hc ?_
    refine V_iload (pc := 111) dX12_filed_111 rfl ?_
    refine V_callSd (pc := 113) (c_X12_ones (by first | assumption | omega)) dX12_filed_113 mlX12_208 mkX12_ones rfl rfl ⟨Nat.le_of_ble_eq_true rfl, Nat.le_of_ble_eq_true rfl⟩ (Nat.le_of_ble_eq_true rfl) ⟨Nat.le_of_ble_eq_true rfl, Nat.le_of_ble_eq_true rfl⟩ ?_
    refine V_iload (pc := 116) dX12_filed_116 rfl ?_
    refine V_callSd (pc := 118) (c_X12_ones (by first | assumption | omega)) dX12_filed_118 mlX12_208 mkX12_ones rfl rfl ⟨Nat.le_of_ble_eq_true rfl, Nat.le_of_ble_eq_true rfl⟩ (Nat.le_of_ble_eq_true rfl) ⟨Nat.le_of_ble_eq_true rfl, Nat.le_of_ble_eq_true rfl⟩ ?_
    refine V_iaddN (pc := 121) dX12_filed_121 ?_
    refine V_iload (pc := 122) dX12_filed_122 rfl ?_
    refine V_icmp_geN (pc := 124) (tgt := 131) dX12_filed_124 (by decide) (by omega) (by omega) (fun c124 => ?_) (fun n124 => ?_)
    · skip
      rw [if_neg (by omega)] at ih
      refine V_iconst (pc := 131) (v := nI 0) dX12_filed_131 (by decide) ?_
      refine V_istore (pc := 132) (ls' := [(0, _), (1, _), (2, _), (3, _), (4, _), (5, _), (6, _), (7, _), (8, _), (9, _), (10, _)]) dX12_filed_132 (by decide) rfl ?_
      refine V_iload (pc := 134) dX12_filed_134 rfl ?_
      refine V_if_eqN (pc := 136) (tgt := 144) dX12_filed_136 (by decide) (by omega) (fun c136 => ?_) (fun n136 => ?_)
      · skip
        refine V_iload (pc := 144) dX12_filed_144 rfl ?_
        refine V_istore (pc := 146) (ls' := [(0, _), (1, _), (2, _), (3, _), (4, _), (5, _), (6, _), (7, _), (8, _), (9, _), (10, _)]) dX12_filed_146 (by decide) rfl ?_
        refine V_iload (pc := 148) dX12_filed_148 rfl ?_
        refine V_if_eqN (pc := 150) (tgt := 158) dX12_filed_150 (by decide) (by omega) (fun c150 => ?_) (fun n150 => ?_)
        · skip
          refine V_iload (pc := 158) dX12_filed_158 rfl ?_
          refine V_istore (pc := 160) (ls' := [(0, _), (1, _), (2, _), (3, _), (4, _), (5, _), (6, _), (7, _), (8, _), (9, _), (10, _)]) dX12_filed_160 (by decide) rfl ?_
          refine V_iload (pc := 162) dX12_filed_162 rfl ?_
          refine V_if_eqN (pc := 164) (tgt := 181) dX12_filed_164 (by decide) (by omega) (fun c164 => ?_) (fun n164 => ?_)
          · skip
            refine V_iload (pc := 181) dX12_filed_181 rfl ?_
            refine V_istore (pc := 183) (ls' := [(0, _), (1, _), (2, _), (3, _), (4, _), (5, _), (6, _), (7, _), (8, _), (9, _), (10, _)]) dX12_filed_183 (by decide) rfl ?_
            refine V_loc [0, 1, 2, 3, 4, 5, 6, 7, 8] rfl ?_
            refine V_iinc1 (pc := 185) (ls' := [(0, _), (1, _), (2, _), (3, _), (4, _), (5, _), (6, _), (7, _), (8, _)]) dX12_filed_185 rfl (by decide) rfl ?_
            refine V_goto (pc := 188) (tgt := 58) dX12_filed_188 (by decide) ?_
            first | omega | exact ih
          · skip
            refine V_iload (pc := 167) dX12_filed_167 rfl ?_
            refine V_callSd (pc := 169) (c_X12_ones (by first | assumption | omega)) dX12_filed_169 mlX12_208 mkX12_ones rfl rfl ⟨Nat.le_of_ble_eq_true rfl, Nat.le_of_ble_eq_true rfl⟩ (Nat.le_of_ble_eq_true rfl) ⟨Nat.le_of_ble_eq_true rfl, Nat.le_of_ble_eq_true rfl⟩ ?_
            refine V_iload (pc := 172) dX12_filed_172 rfl ?_
            refine V_callSd (pc := 174) (c_X12_ones (by first | assumption | omega)) dX12_filed_174 mlX12_208 mkX12_ones rfl rfl ⟨Nat.le_of_ble_eq_true rfl, Nat.le_of_ble_eq_true rfl⟩ (Nat.le_of_ble_eq_true rfl) ⟨Nat.le_of_ble_eq_true rfl, Nat.le_of_ble_eq_true rfl⟩ ?_
            refine V_iaddN (pc := 177) dX12_filed_177 ?_
            refine V_goto (pc := 178) (tgt := 183) dX12_filed_178 (by decide) ?_
            refine V_istore (pc := 183) (ls' := [(0, _), (1, _), (2, _), (3, _), (4, _), (5, _), (6, _), (7, _), (8, _), (9, _), (10, _)]) dX12_filed_183 (by decide) rfl ?_
            refine V_loc [0, 1, 2, 3, 4, 5, 6, 7, 8] rfl ?_
            refine V_iinc1 (pc := 185) (ls' := [(0, _), (1, _), (2, _), (3, _), (4, _), (5, _), (6, _), (7, _), (8, _)]) dX12_filed_185 rfl (by decide) rfl ?_
            refine V_goto (pc := 188) (tgt := 58) dX12_filed_188 (by decide) ?_
            first | omega | exact ih
        · skip
          refine V_iload (pc := 153) dX12_filed_153 rfl ?_
          refine V_goto (pc := 155) (tgt := 160) dX12_filed_155 (by decide) ?_
          refine V_istore (pc := 160) (ls' := [(0, _), (1, _), (2, _), (3, _), (4, _), (5, _), (6, _), (7, _), (8, _), (9, _), (10, _)]) dX12_filed_160 (by decide) rfl ?_
          refine V_iload (pc := 162) dX12_filed_162 rfl ?_
          refine V_if_eqN (pc := 164) (tgt := 181) dX12_filed_164 (by decide) (by omega) (fun c164 => ?_) (fun n164 => ?_)
          · skip
            refine V_iload (pc := 181) dX12_filed_181 rfl ?_
            refine V_istore (pc := 183) (ls' := [(0, _), (1, _), (2, _), (3, _), (4, _), (5, _), (6, _), (7, _), (8, _), (9, _), (10, _)]) dX12_filed_183 (by decide) rfl ?_
            refine V_loc [0, 1, 2, 3, 4, 5, 6, 7, 8] rfl ?_
            refine V_iinc1 (pc := 185) (ls' := [(0, _), (1, _), (2, _), (3, _), (4, _), (5, _), (6, _), (7, _), (8, _)]) dX12_filed_185 rfl (by decide) rfl ?_
            refine V_goto (pc := 188) (tgt := 58) dX12_filed_188 (by decide) ?_
            first | omega | exact ih
          · skip
            refine V_iload (pc := 167) dX12_filed_167 rfl ?_
            refine V_callSd (pc := 169) (c_X12_ones (by first | assumption | omega)) dX12_filed_169 mlX12_208 mkX12_ones rfl rfl ⟨Nat.le_of_ble_eq_true rfl, Nat.le_of_ble_eq_true rfl⟩ (Nat.le_of_ble_eq_true rfl) ⟨Nat.le_of_ble_eq_true rfl, Nat.le_of_ble_eq_true rfl⟩ ?_
            refine V_iload (pc := 172) dX12_filed_172 rfl ?_
            refine V_callSd (pc := 174) (c_X12_ones (by first | assumption | omega)) dX12_filed_174 mlX12_208 mkX12_ones rfl rfl ⟨Nat.le_of_ble_eq_true rfl, Nat.le_of_ble_eq_true rfl⟩ (Nat.le_of_ble_eq_true rfl) ⟨Nat.le_of_ble_eq_true rfl, Nat.le_of_ble_eq_true rfl⟩ ?_
            refine V_iaddN (pc := 177) dX12_filed_177 ?_
            refine V_goto (pc := 178) (tgt := 183) dX12_filed_178 (by decide) ?_
            refine V_istore (pc := 183) (ls' := [(0, _), (1, _), (2, _), (3, _), (4, _), (5, _), (6, _), (7, _), (8, _), (9, _), (10, _)]) dX12_filed_183 (by decide) rfl ?_
            refine V_loc [0, 1, 2, 3, 4, 5, 6, 7, 8] rfl ?_
            refine V_iinc1 (pc := 185) (ls' := [(0, _), (1, _), (2, _), (3, _), (4, _), (5, _), (6, _), (7, _), (8, _)]) dX12_filed_185 rfl (by decide) rfl ?_
            refine V_goto (pc := 188) (tgt := 58) dX12_filed_188 (by decide) ?_
            first | omega | exact ih
      · skip
        refine V_iload (pc := 139) dX12_filed_139 rfl ?_
        refine V_goto (pc := 141) (tgt := 146) dX12_filed_141 (by decide) ?_
        refine V_istore (pc := 146) (ls' := [(0, _), (1, _), (2, _), (3, _), (4, _), (5, _), (6, _), (7, _), (8, _), (9, _), (10, _)]) dX12_filed_146 (by decide) rfl ?_
        refine V_iload (pc := 148) dX12_filed_148 rfl ?_
        refine V_if_eqN (pc := 150) (tgt := 158) dX12_filed_150 (by decide) (by omega) (fun c150 => ?_) (fun n150 => ?_)
        · skip
          refine V_iload (pc := 158) dX12_filed_158 rfl ?_
          refine V_istore (pc := 160) (ls' := [(0, _), (1, _), (2, _), (3, _), (4, _), (5, _), (6, _), (7, _), (8, _), (9, _), (10, _)]) dX12_filed_160 (by decide) rfl ?_
          refine V_iload (pc := 162) dX12_filed_162 rfl ?_
          refine V_if_eqN (pc := 164) (tgt := 181) dX12_filed_164 (by decide) (by omega) (fun c164 => ?_) (fun n164 => ?_)
          · skip
            refine V_iload (pc := 181) dX12_filed_181 rfl ?_
            refine V_istore (pc := 183) (ls' := [(0, _), (1, _), (2, _), (3, _), (4, _), (5, _), (6, _), (7, _), (8, _), (9, _), (10, _)]) dX12_filed_183 (by decide) rfl ?_
            refine V_loc [0, 1, 2, 3, 4, 5, 6, 7, 8] rfl ?_
            refine V_iinc1 (pc := 185) (ls' := [(0, _), (1, _), (2, _), (3, _), (4, _), (5, _), (6, _), (7, _), (8, _)]) dX12_filed_185 rfl (by decide) rfl ?_
            refine V_goto (pc := 188) (tgt := 58) dX12_filed_188 (by decide) ?_
            first | omega | exact ih
          · skip
            refine V_iload (pc := 167) dX12_filed_167 rfl ?_
            refine V_callSd (pc := 169) (c_X12_ones (by first | assumption | omega)) dX12_filed_169 mlX12_208 mkX12_ones rfl rfl ⟨Nat.le_of_ble_eq_true rfl, Nat.le_of_ble_eq_true rfl⟩ (Nat.le_of_ble_eq_true rfl) ⟨Nat.le_of_ble_eq_true rfl, Nat.le_of_ble_eq_true rfl⟩ ?_
            refine V_iload (pc := 172) dX12_filed_172 rfl ?_
            refine V_callSd (pc := 174) (c_X12_ones (by first | assumption | omega)) dX12_filed_174 mlX12_208 mkX12_ones rfl rfl ⟨Nat.le_of_ble_eq_true rfl, Nat.le_of_ble_eq_true rfl⟩ (Nat.le_of_ble_eq_true rfl) ⟨Nat.le_of_ble_eq_true rfl, Nat.le_of_ble_eq_true rfl⟩ ?_
            refine V_iaddN (pc := 177) dX12_filed_177 ?_
            refine V_goto (pc := 178) (tgt := 183) dX12_filed_178 (by decide) ?_
            refine V_istore (pc := 183) (ls' := [(0, _), (1, _), (2, _), (3, _), (4, _), (5, _), (6, _), (7, _), (8, _), (9, _), (10, _)]) dX12_filed_183 (by decide) rfl ?_
            refine V_loc [0, 1, 2, 3, 4, 5, 6, 7, 8] rfl ?_
            refine V_iinc1 (pc := 185) (ls' := [(0, _), (1, _), (2, _), (3, _), (4, _), (5, _), (6, _), (7, _), (8, _)]) dX12_filed_185 rfl (by decide) rfl ?_
            refine V_goto (pc := 188) (tgt := 58) dX12_filed_188 (by decide) ?_
            first | omega | exact ih
        · skip
          refine V_iload (pc := 153) dX12_filed_153 rfl ?_
          refine V_goto (pc := 155) (tgt := 160) dX12_filed_155 (by decide) ?_
          refine V_istore (pc := 160) (ls' := [(0, _), (1, _), (2, _), (3, _), (4, _), (5, _), (6, _), (7, _), (8, _), (9, _), (10, _)]) dX12_filed_160 (by decide) rfl ?_
          refine V_iload (pc := 162) dX12_filed_162 rfl ?_
          refine V_if_eqN (pc := 164) (tgt := 181) dX12_filed_164 (by decide) (by omega) (fun c164 => ?_) (fun n164 => ?_)
          · skip
            refine V_iload (pc := 181) dX12_filed_181 rfl ?_
            refine V_istore (pc := 183) (ls' := [(0, _), (1, _), (2, _), (3, _), (4, _), (5, _), (6, _), (7, _), (8, _), (9, _), (10, _)]) dX12_filed_183 (by decide) rfl ?_
            refine V_loc [0, 1, 2, 3, 4, 5, 6, 7, 8] rfl ?_
            refine V_iinc1 (pc := 185) (ls' := [(0, _), (1, _), (2, _), (3, _), (4, _), (5, _), (6, _), (7, _), (8, _)]) dX12_filed_185 rfl (by decide) rfl ?_
            refine V_goto (pc := 188) (tgt := 58) dX12_filed_188 (by decide) ?_
            first | omega | exact ih
          · skip
            refine V_iload (pc := 167) dX12_filed_167 rfl ?_
            refine V_callSd (pc := 169) (c_X12_ones (by first | assumption | omega)) dX12_filed_169 mlX12_208 mkX12_ones rfl rfl ⟨Nat.le_of_ble_eq_true rfl, Nat.le_of_ble_eq_true rfl⟩ (Nat.le_of_ble_eq_true rfl) ⟨Nat.le_of_ble_eq_true rfl, Nat.le_of_ble_eq_true rfl⟩ ?_
            refine V_iload (pc := 172) dX12_filed_172 rfl ?_
            refine V_callSd (pc := 174) (c_X12_ones (by first | assumption | omega)) dX12_filed_174 mlX12_208 mkX12_ones rfl rfl ⟨Nat.le_of_ble_eq_true rfl, Nat.le_of_ble_eq_true rfl⟩ (Nat.le_of_ble_eq_true rfl) ⟨Nat.le_of_ble_eq_true rfl, Nat.le_of_ble_eq_true rfl⟩ ?_
            refine V_iaddN (pc := 177) dX12_filed_177 ?_
            refine V_goto (pc := 178) (tgt := 183) dX12_filed_178 (by decide) ?_
            refine V_istore (pc := 183) (ls' := [(0, _), (1, _), (2, _), (3, _), (4, _), (5, _), (6, _), (7, _), (8, _), (9, _), (10, _)]) dX12_filed_183 (by decide) rfl ?_
            refine V_loc [0, 1, 2, 3, 4, 5, 6, 7, 8] rfl ?_
            refine V_iinc1 (pc := 185) (ls' := [(0, _), (1, _), (2, _), (3, _), (4, _), (5, _), (6, _), (7, _), (8, _)]) dX12_filed_185 rfl (by decide) rfl ?_
            refine V_goto (pc := 188) (tgt := 58) dX12_filed_188 (by decide) ?_
            first | omega | exact ih
    · skip
      rw [if_pos (by omega)] at ih
      refine V_iconst (pc := 127) (v := nI 1) dX12_filed_127 (by decide) ?_
      refine V_goto (pc := 128) (tgt := 132) dX12_filed_128 (by decide) ?_
      refine V_istore (pc := 132) (ls' := [(0, _), (1, _), (2, _), (3, _), (4, _), (5, _), (6, _), (7, _), (8, _), (9, _), (10, _)]) dX12_filed_132 (by decide) rfl ?_
      refine V_iload (pc := 134) dX12_filed_134 rfl ?_
      refine V_if_eqN (pc := 136) (tgt := 144) dX12_filed_136 (by decide) (by omega) (fun c136 => ?_) (fun n136 => ?_)
      · skip
        refine V_iload (pc := 144) dX12_filed_144 rfl ?_
        refine V_istore (pc := 146) (ls' := [(0, _), (1, _), (2, _), (3, _), (4, _), (5, _), (6, _), (7, _), (8, _), (9, _), (10, _)]) dX12_filed_146 (by decide) rfl ?_
        refine V_iload (pc := 148) dX12_filed_148 rfl ?_
        refine V_if_eqN (pc := 150) (tgt := 158) dX12_filed_150 (by decide) (by omega) (fun c150 => ?_) (fun n150 => ?_)
        · skip
          refine V_iload (pc := 158) dX12_filed_158 rfl ?_
          refine V_istore (pc := 160) (ls' := [(0, _), (1, _), (2, _), (3, _), (4, _), (5, _), (6, _), (7, _), (8, _), (9, _), (10, _)]) dX12_filed_160 (by decide) rfl ?_
          refine V_iload (pc := 162) dX12_filed_162 rfl ?_
          refine V_if_eqN (pc := 164) (tgt := 181) dX12_filed_164 (by decide) (by omega) (fun c164 => ?_) (fun n164 => ?_)
          · skip
            refine V_iload (pc := 181) dX12_filed_181 rfl ?_
            refine V_istore (pc := 183) (ls' := [(0, _), (1, _), (2, _), (3, _), (4, _), (5, _), (6, _), (7, _), (8, _), (9, _), (10, _)]) dX12_filed_183 (by decide) rfl ?_
            refine V_loc [0, 1, 2, 3, 4, 5, 6, 7, 8] rfl ?_
            refine V_iinc1 (pc := 185) (ls' := [(0, _), (1, _), (2, _), (3, _), (4, _), (5, _), (6, _), (7, _), (8, _)]) dX12_filed_185 rfl (by decide) rfl ?_
            refine V_goto (pc := 188) (tgt := 58) dX12_filed_188 (by decide) ?_
            first | omega | exact ih
          · skip
            refine V_iload (pc := 167) dX12_filed_167 rfl ?_
            refine V_callSd (pc := 169) (c_X12_ones (by first | assumption | omega)) dX12_filed_169 mlX12_208 mkX12_ones rfl rfl ⟨Nat.le_of_ble_eq_true rfl, Nat.le_of_ble_eq_true rfl⟩ (Nat.le_of_ble_eq_true rfl) ⟨Nat.le_of_ble_eq_true rfl, Nat.le_of_ble_eq_true rfl⟩ ?_
            refine V_iload (pc := 172) dX12_filed_172 rfl ?_
            refine V_callSd (pc := 174) (c_X12_ones (by first | assumption | omega)) dX12_filed_174 mlX12_208 mkX12_ones rfl rfl ⟨Nat.le_of_ble_eq_true rfl, Nat.le_of_ble_eq_true rfl⟩ (Nat.le_of_ble_eq_true rfl) ⟨Nat.le_of_ble_eq_true rfl, Nat.le_of_ble_eq_true rfl⟩ ?_
            refine V_iaddN (pc := 177) dX12_filed_177 ?_
            refine V_goto (pc := 178) (tgt := 183) dX12_filed_178 (by decide) ?_
            refine V_istore (pc := 183) (ls' := [(0, _), (1, _), (2, _), (3, _), (4, _), (5, _), (6, _), (7, _), (8, _), (9, _), (10, _)]) dX12_filed_183 (by decide) rfl ?_
            refine V_loc [0, 1, 2, 3, 4, 5, 6, 7, 8] rfl ?_
            refine V_iinc1 (pc := 185) (ls' := [(0, _), (1, _), (2, _), (3, _), (4, _), (5, _), (6, _), (7, _), (8, _)]) dX12_filed_185 rfl (by decide) rfl ?_
            refine V_goto (pc := 188) (tgt := 58) dX12_filed_188 (by decide) ?_
            first | omega | exact ih
        · skip
          refine V_iload (pc := 153) dX12_filed_153 rfl ?_
          refine V_goto (pc := 155) (tgt := 160) dX12_filed_155 (by decide) ?_
          refine V_istore (pc := 160) (ls' := [(0, _), (1, _), (2, _), (3, _), (4, _), (5, _), (6, _), (7, _), (8, _), (9, _), (10, _)]) dX12_filed_160 (by decide) rfl ?_
          refine V_iload (pc := 162) dX12_filed_162 rfl ?_
          refine V_if_eqN (pc := 164) (tgt := 181) dX12_filed_164 (by decide) (by omega) (fun c164 => ?_) (fun n164 => ?_)
          · skip
            refine V_iload (pc := 181) dX12_filed_181 rfl ?_
            refine V_istore (pc := 183) (ls' := [(0, _), (1, _), (2, _), (3, _), (4, _), (5, _), (6, _), (7, _), (8, _), (9, _), (10, _)]) dX12_filed_183 (by decide) rfl ?_
            refine V_loc [0, 1, 2, 3, 4, 5, 6, 7, 8] rfl ?_
            refine V_iinc1 (pc := 185) (ls' := [(0, _), (1, _), (2, _), (3, _), (4, _), (5, _), (6, _), (7, _), (8, _)]) dX12_filed_185 rfl (by decide) rfl ?_
            refine V_goto (pc := 188) (tgt := 58) dX12_filed_188 (by decide) ?_
            first | omega | exact ih
          · skip
            refine V_iload (pc := 167) dX12_filed_167 rfl ?_
            refine V_callSd (pc := 169) (c_X12_ones (by first | assumption | omega)) dX12_filed_169 mlX12_208 mkX12_ones rfl rfl ⟨Nat.le_of_ble_eq_true rfl, Nat.le_of_ble_eq_true rfl⟩ (Nat.le_of_ble_eq_true rfl) ⟨Nat.le_of_ble_eq_true rfl, Nat.le_of_ble_eq_true rfl⟩ ?_
            refine V_iload (pc := 172) dX12_filed_172 rfl ?_
            refine V_callSd (pc := 174) (c_X12_ones (by first | assumption | omega)) dX12_filed_174 mlX12_208 mkX12_ones rfl rfl ⟨Nat.le_of_ble_eq_true rfl, Nat.le_of_ble_eq_true rfl⟩ (Nat.le_of_ble_eq_true rfl) ⟨Nat.le_of_ble_eq_true rfl, Nat.le_of_ble_eq_true rfl⟩ ?_
            refine V_iaddN (pc := 177) dX12_filed_177 ?_
            refine V_goto (pc := 178) (tgt := 183) dX12_filed_178 (by decide) ?_
            refine V_istore (pc := 183) (ls' := [(0, _), (1, _), (2, _), (3, _), (4, _), (5, _), (6, _), (7, _), (8, _), (9, _), (10, _)]) dX12_filed_183 (by decide) rfl ?_
            refine V_loc [0, 1, 2, 3, 4, 5, 6, 7, 8] rfl ?_
            refine V_iinc1 (pc := 185) (ls' := [(0, _), (1, _), (2, _), (3, _), (4, _), (5, _), (6, _), (7, _), (8, _)]) dX12_filed_185 rfl (by decide) rfl ?_
            refine V_goto (pc := 188) (tgt := 58) dX12_filed_188 (by decide) ?_
            first | omega | exact ih
      · skip
        refine V_iload (pc := 139) dX12_filed_139 rfl ?_
        refine V_goto (pc := 141) (tgt := 146) dX12_filed_141 (by decide) ?_
        refine V_istore (pc := 146) (ls' := [(0, _), (1, _), (2, _), (3, _), (4, _), (5, _), (6, _), (7, _), (8, _), (9, _), (10, _)]) dX12_filed_146 (by decide) rfl ?_
        refine V_iload (pc := 148) dX12_filed_148 rfl ?_
        refine V_if_eqN (pc := 150) (tgt := 158) dX12_filed_150 (by decide) (by omega) (fun c150 => ?_) (fun n150 => ?_)
        · skip
          refine V_iload (pc := 158) dX12_filed_158 rfl ?_
          refine V_istore (pc := 160) (ls' := [(0, _), (1, _), (2, _), (3, _), (4, _), (5, _), (6, _), (7, _), (8, _), (9, _), (10, _)]) dX12_filed_160 (by decide) rfl ?_
          refine V_iload (pc := 162) dX12_filed_162 rfl ?_
          refine V_if_eqN (pc := 164) (tgt := 181) dX12_filed_164 (by decide) (by omega) (fun c164 => ?_) (fun n164 => ?_)
          · skip
            refine V_iload (pc := 181) dX12_filed_181 rfl ?_
            refine V_istore (pc := 183) (ls' := [(0, _), (1, _), (2, _), (3, _), (4, _), (5, _), (6, _), (7, _), (8, _), (9, _), (10, _)]) dX12_filed_183 (by decide) rfl ?_
            refine V_loc [0, 1, 2, 3, 4, 5, 6, 7, 8] rfl ?_
            refine V_iinc1 (pc := 185) (ls' := [(0, _), (1, _), (2, _), (3, _), (4, _), (5, _), (6, _), (7, _), (8, _)]) dX12_filed_185 rfl (by decide) rfl ?_
            refine V_goto (pc := 188) (tgt := 58) dX12_filed_188 (by decide) ?_
            first | omega | exact ih
          · skip
            refine V_iload (pc := 167) dX12_filed_167 rfl ?_
            refine V_callSd (pc := 169) (c_X12_ones (by first | assumption | omega)) dX12_filed_169 mlX12_208 mkX12_ones rfl rfl ⟨Nat.le_of_ble_eq_true rfl, Nat.le_of_ble_eq_true rfl⟩ (Nat.le_of_ble_eq_true rfl) ⟨Nat.le_of_ble_eq_true rfl, Nat.le_of_ble_eq_true rfl⟩ ?_
            refine V_iload (pc := 172) dX12_filed_172 rfl ?_
            refine V_callSd (pc := 174) (c_X12_ones (by first | assumption | omega)) dX12_filed_174 mlX12_208 mkX12_ones rfl rfl ⟨Nat.le_of_ble_eq_true rfl, Nat.le_of_ble_eq_true rfl⟩ (Nat.le_of_ble_eq_true rfl) ⟨Nat.le_of_ble_eq_true rfl, Nat.le_of_ble_eq_true rfl⟩ ?_
            refine V_iaddN (pc := 177) dX12_filed_177 ?_
            refine V_goto (pc := 178) (tgt := 183) dX12_filed_178 (by decide) ?_
            refine V_istore (pc := 183) (ls' := [(0, _), (1, _), (2, _), (3, _), (4, _), (5, _), (6, _), (7, _), (8, _), (9, _), (10, _)]) dX12_filed_183 (by decide) rfl ?_
            refine V_loc [0, 1, 2, 3, 4, 5, 6, 7, 8] rfl ?_
            refine V_iinc1 (pc := 185) (ls' := [(0, _), (1, _), (2, _), (3, _), (4, _), (5, _), (6, _), (7, _), (8, _)]) dX12_filed_185 rfl (by decide) rfl ?_
            refine V_goto (pc := 188) (tgt := 58) dX12_filed_188 (by decide) ?_
            first | omega | exact ih
        · skip
          refine V_iload (pc := 153) dX12_filed_153 rfl ?_
          refine V_goto (pc := 155) (tgt := 160) dX12_filed_155 (by decide) ?_
          refine V_istore (pc := 160) (ls' := [(0, _), (1, _), (2, _), (3, _), (4, _), (5, _), (6, _), (7, _), (8, _), (9, _), (10, _)]) dX12_filed_160 (by decide) rfl ?_
          refine V_iload (pc := 162) dX12_filed_162 rfl ?_
          refine V_if_eqN (pc := 164) (tgt := 181) dX12_filed_164 (by decide) (by omega) (fun c164 => ?_) (fun n164 => ?_)
          · skip
            refine V_iload (pc := 181) dX12_filed_181 rfl ?_
            refine V_istore (pc := 183) (ls' := [(0, _), (1, _), (2, _), (3, _), (4, _), (5, _), (6, _), (7, _), (8, _), (9, _), (10, _)]) dX12_filed_183 (by decide) rfl ?_
            refine V_loc [0, 1, 2, 3, 4, 5, 6, 7, 8] rfl ?_
            refine V_iinc1 (pc := 185) (ls' := [(0, _), (1, _), (2, _), (3, _), (4, _), (5, _), (6, _), (7, _), (8, _)]) dX12_filed_185 rfl (by decide) rfl ?_
            refine V_goto (pc := 188) (tgt := 58) dX12_filed_188 (by decide) ?_
            first | omega | exact ih
          · skip
            refine V_iload (pc := 167) dX12_filed_167 rfl ?_
            refine V_callSd (pc := 169) (c_X12_ones (by first | assumption | omega)) dX12_filed_169 mlX12_208 mkX12_ones rfl rfl ⟨Nat.le_of_ble_eq_true rfl, Nat.le_of_ble_eq_true rfl⟩ (Nat.le_of_ble_eq_true rfl) ⟨Nat.le_of_ble_eq_true rfl, Nat.le_of_ble_eq_true rfl⟩ ?_
            refine V_iload (pc := 172) dX12_filed_172 rfl ?_
            refine V_callSd (pc := 174) (c_X12_ones (by first | assumption | omega)) dX12_filed_174 mlX12_208 mkX12_ones rfl rfl ⟨Nat.le_of_ble_eq_true rfl, Nat.le_of_ble_eq_true rfl⟩ (Nat.le_of_ble_eq_true rfl) ⟨Nat.le_of_ble_eq_true rfl, Nat.le_of_ble_eq_true rfl⟩ ?_
            refine V_iaddN (pc := 177) dX12_filed_177 ?_
            refine V_goto (pc := 178) (tgt := 183) dX12_filed_178 (by decide) ?_
            refine V_istore (pc := 183) (ls' := [(0, _), (1, _), (2, _), (3, _), (4, _), (5, _), (6, _), (7, _), (8, _), (9, _), (10, _)]) dX12_filed_183 (by decide) rfl ?_
            refine V_loc [0, 1, 2, 3, 4, 5, 6, 7, 8] rfl ?_
            refine V_iinc1 (pc := 185) (ls' := [(0, _), (1, _), (2, _), (3, _), (4, _), (5, _), (6, _), (7, _), (8, _)]) dX12_filed_185 rfl (by decide) rfl ?_
            refine V_goto (pc := 188) (tgt := 58) dX12_filed_188 (by decide) ?_
            first | omega | exact ih
theorem c_X12_filed (h12 : Lay12 E S o) (hM : MR o I L A) (hA : wfA A) {x y z w : Int32} : Cm E kX12_filed 3 [.ref o, .int x, .int y, .int z, .int w] S I L o (.int (spFiled A x y z w)) A := by
  have hq := hA.q
  have hnb := hq.nb
  have e2 : decide (lN 0 ≤ w.toInt64 ∧ w.toInt64 ≤ (2 : Int64)) = bnd w 3 := bnd64' (n := 2) (by omega)
  refine C_of (by decide) (Nat.le_of_ble_eq_true rfl) ?_
  refine V_aload_n (pc := 0) dX12_filed_0 rfl ?_
  refine V_iconst (pc := 1) (v := nI 0) dX12_filed_1 (by decide) ?_
  refine V_putI (pc := 2) 12 0 dX12_filed_2 flX12_175 (by decide) (by decide) (Or.inl rfl) rfl rfl h12.o ?_
  have hM := hM.thrown (v := nI 0)
  have hF : FrM o (up2 I o 0 (nI 0)) I L L := FrM.rf.up (by omega)
  generalize up2 I o 0 (nI 0) = I0 at hM hF ⊢
  have hr := hM.row
  refine V_aload_n (pc := 5) dX12_filed_5 rfl ?_
  refine V_iload_n (pc := 6) dX12_filed_6 rfl ?_
  refine V_iload_n (pc := 7) dX12_filed_7 rfl ?_
  refine V_callVd (pc := 8) (ci := 12) (c_X12_areTwo h12 hr hq) dX12_filed_8 mlX12_516 mkX12_areTwo rfl rfl h12.o ⟨by decide, rfl⟩ ⟨Nat.le_of_ble_eq_true rfl, Nat.le_of_ble_eq_true rfl⟩ (Nat.le_of_ble_eq_true rfl) ⟨Nat.le_of_ble_eq_true rfl, Nat.le_of_ble_eq_true rfl⟩ ?_
  refine V_if_eqB (pc := 11) (tgt := 34) dX12_filed_11 (by decide) (fun c11 => ?_) (fun n11 => ?_)
  · skip
    refine V_iconst (pc := 34) (v := (-1)) dX12_filed_34 (by decide) ?_
    refine V_iret (pc := 35) dX12_filed_35 rfl (by first | decide | omega) (by first | decide | omega) ?_
    first
    | (rw [spFiled, if_neg (fun w => by rw [w.1] at c11; exact absurd c11 (by decide))]; exact ⟨rfl, rfl, hM, hF⟩)
    | (rw [spFiled, if_neg (fun w => by rw [w.2.1] at c18; exact absurd c18 (by decide))]; exact ⟨rfl, rfl, hM, hF⟩)
    | (rw [e2] at n31; rw [spFiled, if_neg (fun w => by rw [w.2.2] at n31; exact absurd n31 (by decide))]; exact ⟨rfl, rfl, hM, hF⟩)
  · skip
    refine V_iload_n (pc := 14) dX12_filed_14 rfl ?_
    refine V_callSd (pc := 15) (c_X12_isBar) dX12_filed_15 mlX12_228 mkX12_isBar rfl rfl ⟨Nat.le_of_ble_eq_true rfl, Nat.le_of_ble_eq_true rfl⟩ (Nat.le_of_ble_eq_true rfl) ⟨Nat.le_of_ble_eq_true rfl, Nat.le_of_ble_eq_true rfl⟩ ?_
    refine V_if_eqB (pc := 18) (tgt := 34) dX12_filed_18 (by decide) (fun c18 => ?_) (fun n18 => ?_)
    · skip
      refine V_iconst (pc := 34) (v := (-1)) dX12_filed_34 (by decide) ?_
      refine V_iret (pc := 35) dX12_filed_35 rfl (by first | decide | omega) (by first | decide | omega) ?_
      first
      | (rw [spFiled, if_neg (fun w => by rw [w.1] at c11; exact absurd c11 (by decide))]; exact ⟨rfl, rfl, hM, hF⟩)
      | (rw [spFiled, if_neg (fun w => by rw [w.2.1] at c18; exact absurd c18 (by decide))]; exact ⟨rfl, rfl, hM, hF⟩)
      | (rw [e2] at n31; rw [spFiled, if_neg (fun w => by rw [w.2.2] at n31; exact absurd n31 (by decide))]; exact ⟨rfl, rfl, hM, hF⟩)
    · skip
      refine V_iload (pc := 21) dX12_filed_21 rfl ?_
      refine V_i2l (pc := 23) dX12_filed_23 rfl ?_
      refine V_lconst (pc := 24) (v := lN 0) dX12_filed_24 (by decide) ?_
      refine V_ldc2 (pc := 25) dX12_filed_25 coX12_522 ?_
      refine V_callSd (pc := 28) (c_X12_in) dX12_filed_28 mlX12_195 mkX12_in rfl rfl ⟨Nat.le_of_ble_eq_true rfl, Nat.le_of_ble_eq_true rfl⟩ (Nat.le_of_ble_eq_true rfl) ⟨Nat.le_of_ble_eq_true rfl, Nat.le_of_ble_eq_true rfl⟩ ?_
      refine V_if_neB (pc := 31) (tgt := 36) dX12_filed_31 (by decide) (fun c31 => ?_) (fun n31 => ?_)
      · skip
        rw [e2] at c31
        rw [spFiled, if_pos ⟨n11, n18, c31⟩]
        obtain ⟨a, b, ha, hb, -, f1, f2⟩ := are2_ex hA n11
        obtain ⟨t, ht, f3⟩ := bnd_ex (by omega) n18
        obtain ⟨k, hk, f4⟩ := bnd_ex (by omega) c31
        subst f1 f2 f3 f4
        rw [cln_nI (by omega), cln_nI (by omega), cln_nI (by omega), cln_nI (by omega)]
        refine V_aload_n (pc := 36) dX12_filed_36 rfl ?_
        refine V_iload_n (pc := 37) dX12_filed_37 rfl ?_
        refine V_iload_n (pc := 38) dX12_filed_38 rfl ?_
        refine V_iload_n (pc := 39) dX12_filed_39 rfl ?_
        refine V_callV (pc := 40) (ci := 12) (c_X12_layClash h12 hr hq (by omega) (by omega) ht) dX12_filed_40 mlX12_519 mkX12_layClash rfl rfl h12.o ⟨by decide, rfl⟩ ⟨Nat.le_of_ble_eq_true rfl, Nat.le_of_ble_eq_true rfl⟩ (Nat.le_of_ble_eq_true rfl) ⟨Nat.le_of_ble_eq_true rfl, Nat.le_of_ble_eq_true rfl⟩ (fun r S' I' L' hp => ?_)
        obtain ⟨rfl, rfl, rfl, hx, hc⟩ := hp
        refine V_pop (pc := 43) dX12_filed_43 rfl ?_
        refine V_ldcw (pc := 44) dX12_filed_44 coX12_487 ?_
        refine V_istore (pc := 47) (ls' := [(0, _), (1, _), (2, _), (3, _), (4, _), (5, _)]) dX12_filed_47 (by decide) rfl ?_
        refine V_iconst (pc := 49) (v := nI 0) dX12_filed_49 (by decide) ?_
        refine V_istore (pc := 50) (ls' := [(0, _), (1, _), (2, _), (3, _), (4, _), (5, _), (6, _)]) dX12_filed_50 (by decide) rfl ?_
        refine V_iconst (pc := 52) (v := nI 0) dX12_filed_52 (by decide) ?_
        refine V_istore (pc := 53) (ls' := [(0, _), (1, _), (2, _), (3, _), (4, _), (5, _), (6, _), (7, _)]) dX12_filed_53 (by decide) rfl ?_
        refine V_iconst (pc := 55) (v := nI 0) dX12_filed_55 (by decide) ?_
        refine V_istore (pc := 56) (ls' := [(0, _), (1, _), (2, _), (3, _), (4, _), (5, _), (6, _), (7, _), (8, _)]) dX12_filed_56 (by decide) rfl ?_
        exact lp_fl2 h12 hk hc (fun t => orr_lt (fun j => nea_lt hq (by omega)) 8) ⟨rfl, rfl, hM.d28 hx, fun a h => ⟨by rw [hx a (by omega)]; exact (hF a h).1, rfl⟩⟩
      · skip
        refine V_iconst (pc := 34) (v := (-1)) dX12_filed_34 (by decide) ?_
        refine V_iret (pc := 35) dX12_filed_35 rfl (by first | decide | omega) (by first | decide | omega) ?_
        first
        | (rw [spFiled, if_neg (fun w => by rw [w.1] at c11; exact absurd c11 (by decide))]; exact ⟨rfl, rfl, hM, hF⟩)
        | (rw [spFiled, if_neg (fun w => by rw [w.2.1] at c18; exact absurd c18 (by decide))]; exact ⟨rfl, rfl, hM, hF⟩)
        | (rw [e2] at n31; rw [spFiled, if_neg (fun w => by rw [w.2.2] at n31; exact absurd n31 (by decide))]; exact ⟨rfl, rfl, hM, hF⟩)
end MN
