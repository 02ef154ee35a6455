/-! JDK's own small methods -/
section JD
variable {E : EnT} {S : ST} {I : IT} {L : LT}
def ush (x y : Int32) : Int32 := (x.toUInt32 >>> (y.toUInt32 &&& Int32.toUInt32 31)).toInt32
def bc1 (x : Int32) : Int32 := x - (ush x (nI 1) &&& 1431655765)
def bc2 (x : Int32) : Int32 := (bc1 x &&& 858993459) + (ush (bc1 x) (nI 2) &&& 858993459)
def bc3 (x : Int32) : Int32 := (bc2 x + ush (bc2 x) (nI 4)) &&& 252645135
def bc4 (x : Int32) : Int32 := bc3 x + ush (bc3 x) (nI 8)
def bcI (x : Int32) : Int32 := (bc4 x + ush (bc4 x) (nI 16)) &&& nI 63
theorem c_J6_bitCount_0f7a4 {x : Int32} : Cd E kJ6_bitCount_0f7a4 0 0 0 [.int x] S I L (.int (bcI x)) S I L := by
  refine C_of (by decide) (Nat.le_of_ble_eq_true rfl) ?_
  refine V_iload_n (pc := 0) dJ6_bitCount_0f7a4_0 rfl ?_
  refine V_iload_n (pc := 1) dJ6_bitCount_0f7a4_1 rfl ?_
  refine V_iconst (pc := 2) (v := nI 1) dJ6_bitCount_0f7a4_2 (by decide) ?_
  refine V_iushr (pc := 3) dJ6_bitCount_0f7a4_3 rfl ?_
  refine V_ldcw (pc := 4) dJ6_bitCount_0f7a4_4 coJ6_265 ?_
  refine V_iand (pc := 7) dJ6_bitCount_0f7a4_7 ?_
  refine V_isub (pc := 8) dJ6_bitCount_0f7a4_8 ?_
  refine V_istore_n (pc := 9) (ls' := [(0, _)]) dJ6_bitCount_0f7a4_9 (by decide) rfl ?_
  refine V_iload_n (pc := 10) dJ6_bitCount_0f7a4_10 rfl ?_
  refine V_ldcw (pc := 11) dJ6_bitCount_0f7a4_11 coJ6_266 ?_
  refine V_iand (pc := 14) dJ6_bitCount_0f7a4_14 ?_
  refine V_iload_n (pc := 15) dJ6_bitCount_0f7a4_15 rfl ?_
  refine V_iconst (pc := 16) (v := nI 2) dJ6_bitCount_0f7a4_16 (by decide) ?_
  refine V_iushr (pc := 17) dJ6_bitCount_0f7a4_17 rfl ?_
  refine V_ldcw (pc := 18) dJ6_bitCount_0f7a4_18 coJ6_266 ?_
  refine V_iand (pc := 21) dJ6_bitCount_0f7a4_21 ?_
  refine V_iadd (pc := 22) dJ6_bitCount_0f7a4_22 ?_
  refine V_istore_n (pc := 23) (ls' := [(0, _)]) dJ6_bitCount_0f7a4_23 (by decide) rfl ?_
  refine V_iload_n (pc := 24) dJ6_bitCount_0f7a4_24 rfl ?_
  refine V_iload_n (pc := 25) dJ6_bitCount_0f7a4_25 rfl ?_
  refine V_iconst (pc := 26) (v := nI 4) dJ6_bitCount_0f7a4_26 (by decide) ?_
  refine V_iushr (pc := 27) dJ6_bitCount_0f7a4_27 rfl ?_
  refine V_iadd (pc := 28) dJ6_bitCount_0f7a4_28 ?_
  refine V_ldcw (pc := 29) dJ6_bitCount_0f7a4_29 coJ6_267 ?_
  refine V_iand (pc := 32) dJ6_bitCount_0f7a4_32 ?_
  refine V_istore_n (pc := 33) (ls' := [(0, _)]) dJ6_bitCount_0f7a4_33 (by decide) rfl ?_
  refine V_iload_n (pc := 34) dJ6_bitCount_0f7a4_34 rfl ?_
  refine V_iload_n (pc := 35) dJ6_bitCount_0f7a4_35 rfl ?_
  refine V_bipush (pc := 36) (v := nI 8) dJ6_bitCount_0f7a4_36 (by decide) ?_
  refine V_iushr (pc := 38) dJ6_bitCount_0f7a4_38 rfl ?_
  refine V_iadd (pc := 39) dJ6_bitCount_0f7a4_39 ?_
  refine V_istore_n (pc := 40) (ls' := [(0, _)]) dJ6_bitCount_0f7a4_40 (by decide) rfl ?_
  refine V_iload_n (pc := 41) dJ6_bitCount_0f7a4_41 rfl ?_
  refine V_iload_n (pc := 42) dJ6_bitCount_0f7a4_42 rfl ?_
  refine V_bipush (pc := 43) (v := nI 16) dJ6_bitCount_0f7a4_43 (by decide) ?_
  refine V_iushr (pc := 45) dJ6_bitCount_0f7a4_45 rfl ?_
  refine V_iadd (pc := 46) dJ6_bitCount_0f7a4_46 ?_
  refine V_istore_n (pc := 47) (ls' := [(0, _)]) dJ6_bitCount_0f7a4_47 (by decide) rfl ?_
  refine V_iload_n (pc := 48) dJ6_bitCount_0f7a4_48 rfl ?_
  refine V_bipush (pc := 49) (v := nI 63) dJ6_bitCount_0f7a4_49 (by decide) ?_
  refine V_iand (pc := 51) dJ6_bitCount_0f7a4_51 ?_
  refine V_iret (pc := 52) dJ6_bitCount_0f7a4_52 rfl (by first | decide | omega) (by first | decide | omega) ?_
  exact ⟨rfl, rfl, rfl, rfl⟩
/-- the ones among the lowest eight bits -/
def pop8 (n : Nat) : Nat := n % 2 + n / 2 % 2 + n / 4 % 2 + n / 8 % 2 + n / 16 % 2 + n / 32 % 2 + n / 64 % 2 + n / 128 % 2
theorem bcI_N : ∀ n, n < 256 → bcI (nI n) = nI (pop8 n) := by decide +kernel
theorem lp_fill {R : Room} {Q : QT} {cl sl a n : Nat} {v : Int32} (hA : isA E S a 0 n) (hn : n < 2 ^ 31) :
    ∀ (m i : Nat) (I : IT), i + m = n → V E kJ7_fill_53178 R Q cl sl S (upr I a (fun j => if i ≤ j ∧ j < n then v else I a j)) L 20 [(0, .ref a), (1, .int v), (2, .int (nI n)), (3, .int (nI n))] [] → V E kJ7_fill_53178 R Q cl sl S I L 5 [(0, .ref a), (1, .int v), (2, .int (nI i)), (3, .int (nI n))] [] := by
  intro m
  induction m with
  | zero =>
    intro i I hi hk
    have e : i = n := by omega
    subst e
    have e2 : upr I a (fun j => if i ≤ j ∧ j < i then v else I a j) = I := by
      funext x j
      unfold upr
      split
      · rename_i h; subst h; show (if i ≤ j ∧ j < i then v else I x j) = I x j; rw [if_neg (by omega)]
      · rfl
    rw [e2] at hk
    refine V_iload_n (pc := 5) dJ7_fill_53178_5 rfl ?_
    refine V_iload_n (pc := 6) dJ7_fill_53178_6 rfl ?_
    refine V_icmp_geN (pc := 7) (tgt := 20) dJ7_fill_53178_7 (by decide) (by omega) (by omega) (fun c7 => ?_) (fun n7 => absurd n7 (by omega))
    exact hk
  | succ m ih =>
    intro i I hi hk
    refine V_iload_n (pc := 5) dJ7_fill_53178_5 rfl ?_
    refine V_iload_n (pc := 6) dJ7_fill_53178_6 rfl ?_
    refine V_icmp_geN (pc := 7) (tgt := 20) dJ7_fill_53178_7 (by decide) (by omega) (by omega) (fun c7 => absurd c7 (by omega)) (fun n7 => ?_)
    refine V_aload_n (pc := 10) dJ7_fill_53178_10 rfl ?_
    refine V_iload_n (pc := 11) dJ7_fill_53178_11 rfl ?_
    refine V_iload_n (pc := 12) dJ7_fill_53178_12 rfl ?_
    refine V_iastore (pc := 13) dJ7_fill_53178_13 (by assumption) (by first | decide | omega) (by omega) ?_
    refine V_iinc1 (pc := 14) (ls' := [(0, _), (1, _), (2, _), (3, _)]) dJ7_fill_53178_14 rfl (by decide) rfl ?_
    refine V_goto (pc := 17) (tgt := 5) dJ7_fill_53178_17 (by decide) ?_
    refine ih (i + 1) _ (by omega) ?_
    have e2 : upr (up2 I a i v) a (fun j => if i + 1 ≤ j ∧ j < n then v else up2 I a i v a j) = upr I a (fun j => if i ≤ j ∧ j < n then v else I a j) := by
      funext x j
      unfold upr up2
      by_cases hx : x = a
      · subst hx
        by_cases hj : j = i
        · subst hj; simp; omega
        · simp only [if_true, if_neg hj]
          by_cases h1 : i ≤ j ∧ j < n
          · rw [if_pos h1, if_pos (by omega)]
          · rw [if_neg h1, if_neg (by omega)]
      · simp only [if_neg hx]
    rw [e2]
    exact hk
theorem c_J7_fill_53178 {a n : Nat} {v : Int32} (hA : isA E S a 0 n) (hn : n < 2 ^ 31) : Cn E kJ7_fill_53178 0 0 0 [.ref a, .int v] S I L S (upr I a (fun j => if j < n then v else I a j)) L := by
  refine C_of (by decide) (Nat.le_of_ble_eq_true rfl) ?_
  refine V_iconst (pc := 0) (v := nI 0) dJ7_fill_53178_0 (by decide) ?_
  refine V_istore_n (pc := 1) (ls' := [(0, _), (1, _), (2, _)]) dJ7_fill_53178_1 (by decide) rfl ?_
  refine V_aload_n (pc := 2) dJ7_fill_53178_2 rfl ?_
  refine V_alen (pc := 3) dJ7_fill_53178_3 (by assumption) (by decide) ?_
  refine V_istore_n (pc := 4) (ls' := [(0, _), (1, _), (2, _), (3, _)]) dJ7_fill_53178_4 (by decide) rfl ?_
  refine lp_fill hA hn n 0 I (by omega) ?_
  simp only [Nat.zero_le, true_and]
  refine V_vret dJ7_fill_53178_20 rfl (by decide) (by decide) ⟨rfl, rfl, rfl, rfl⟩
end JD
