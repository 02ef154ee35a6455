/-! THE READER: words -/
section R2
variable {E : EnT} {S : ST} {I : IT} {L : LT} {a n : Nat} {t : Nat → Nat}
def smw (t : Nat → Nat) (f b m : Nat) : Bool := decide (∀ j, j < m → t (f + j) = wch (b + j))
theorem smw_n {f m i : Nat} (h : smw t f (wst i).2 m = false) : ¬ wmt t f m i := fun z => by
  have h9 := of_decide_eq_false h
  exact h9 z.2
theorem lp_same {R : Room} {f b m : Nat} (hR : R = rmOf 4 0 0) (hT : TR E S I a t n) (hf : f + m ≤ n) (hb : b + m ≤ 146) : ∀ (k j : Nat), j + k = m → (∀ i, i < j → t (f + i) = wch (b + i)) → V E kX5_isSame R (QM E (fun r S' I' L' => r = some (.int (b2i (smw t f b m))) ∧ S' = S ∧ I' = I ∧ L' = L) 0 0) 0 0 S I L 3 [(0, .ref a), (1, .int (nI f)), (2, .int (nI b)), (3, .int (nI (b + m))), (4, .int (nI (b + j)))] [] := by
  obtain ⟨hA, ht, hn, h256⟩ := hT
  subst hR
  intro k
  induction k with
  | zero =>
    intro j hj hi
    have e1 : smw t f b m = true := decide_eq_true (fun i hi' => hi i (by omega))
    rw [e1]
    refine V_iload (pc := 3) dX5_isSame_3 rfl ?_
    refine V_iload_n (pc := 5) dX5_isSame_5 rfl ?_
    refine V_icmp_geN (pc := 6) (tgt := 35) dX5_isSame_6 (by decide) (by omega) (by omega) (fun c6 => ?_) (fun n6 => absurd n6 (by omega))
    refine V_iconst (pc := 35) (v := nI 1) dX5_isSame_35 (by decide) ?_
    refine V_zretB (pc := 36) (p := true) dX5_isSame_36 rfl rfl (by first | decide | omega) (by first | decide | omega) ?_
    exact ⟨rfl, rfl, rfl, rfl⟩
  | succ k ih =>
    intro j hj hi
    have h1 := ht (f + j) (by omega)
    have h2 := h256 (f + j) (by omega)
    have h3 := (wch_n (b + j) (by omega)).2
    have e1 : f + (b + j) - b = f + j := by omega
    have h1' : I a (f + (b + j) - b) = nI (t (f + j)) := by rw [e1]; exact h1
    refine V_iload (pc := 3) dX5_isSame_3 rfl ?_
    refine V_iload_n (pc := 5) dX5_isSame_5 rfl ?_
    refine V_icmp_geN (pc := 6) (tgt := 35) dX5_isSame_6 (by decide) (by omega) (by omega) (fun c6 => absurd c6 (by omega)) (fun n6 => ?_)
    refine V_ldcT rfl dX5_isSame_9 ?_
    refine V_iload (pc := 11) dX5_isSame_11 rfl ?_
    refine V_callVSd (pc := 13) (c_chr (j := b + j) (by omega)) dX5_isSame_13 mlX5_114 mkJ0_charAt_5068e rfl rfl rfl ⟨Nat.le_of_ble_eq_true rfl, Nat.le_of_ble_eq_true rfl⟩ (Nat.le_of_ble_eq_true rfl) ⟨Nat.le_of_ble_eq_true rfl, Nat.le_of_ble_eq_true rfl⟩ ?_
    refine V_aload_n (pc := 16) dX5_isSame_16 rfl ?_
    refine V_iload_n (pc := 17) dX5_isSame_17 rfl ?_
    refine V_iload (pc := 18) dX5_isSame_18 rfl ?_
    refine V_iaddN (pc := 20) dX5_isSame_20 ?_
    refine V_iload_n (pc := 21) dX5_isSame_21 rfl ?_
    refine V_isubN (pc := 22) dX5_isSame_22 (by omega) ?_
    refine V_ialoadE (pc := 23) dX5_isSame_23 (by assumption) (by first | decide | omega) (by omega) (h1') ?_
    refine V_icmp_eqN (pc := 24) (tgt := 29) dX5_isSame_24 (by decide) (by omega) (by omega) (fun c24 => ?_) (fun n24 => ?_)
    · skip
      refine V_iinc1 (pc := 29) (ls' := [(0, _), (1, _), (2, _), (3, _), (4, _)]) dX5_isSame_29 rfl (by decide) rfl ?_
      refine V_goto (pc := 32) (tgt := 3) dX5_isSame_32 (by decide) ?_
      refine ih (j + 1) (by omega) (fun i hi' => ?_)
      by_cases e : i = j
      · rw [e]; omega
      · exact hi i (by omega)
    · skip
      rw [show smw t f b m = false from decide_eq_false (fun z => by have := z j (by omega); omega)]
      refine V_iconst (pc := 27) (v := nI 0) dX5_isSame_27 (by decide) ?_
      refine V_zretB (pc := 28) (p := false) dX5_isSame_28 rfl rfl (by first | decide | omega) (by first | decide | omega) ?_
      exact ⟨rfl, rfl, rfl, rfl⟩
theorem c_X5_isSame {f b m : Nat} (hT : TR E S I a t n) (hf : f + m ≤ n) (hb : b + m ≤ 146) : Cd E kX5_isSame 4 0 0 [.ref a, .int (nI f), .int (nI b), .int (nI (b + m))] S I L (.int (b2i (smw t f b m))) S I L := by
  have hn := hT.2.2.1
  refine C_of (by decide) (Nat.le_of_ble_eq_true rfl) ?_
  refine V_iload_n (pc := 0) dX5_isSame_0 rfl ?_
  refine V_istore (pc := 1) (ls' := [(0, _), (1, _), (2, _), (3, _), (4, _)]) dX5_isSame_1 (by decide) rfl ?_
  exact lp_same rfl hT hf hb m 0 (by omega) (fun i hi => by omega)
theorem lp_word {R : Room} {p e : Nat} (hR : R = rmOf 5 0 0) (hT : TR E S I a t n) (hp : p < e) (he : e ≤ n) (hl : ∀ j, p ≤ j → j < e → 97 ≤ t j ∧ t j ≤ 122) : ∀ (k i : Nat), i + k = 147 → (∀ i', i' < i → (i' = 146 ∨ wch i' = 32) → ¬ wmt t p (e - p) i') → V E kX5_wordAt R (QM E (fun r S' I' L' => r = some (.int (nI (tcw (i64 (hsh t p (e - p)))))) ∧ S' = S ∧ I' = I ∧ L' = L) 0 0) 0 0 S I L 8 [(0, .ref a), (1, .int (nI p)), (2, .int (nI e)), (3, .int (nI (wst i).1)), (4, .int (nI (wst i).2)), (5, .int (nI i))] [] := by
  have hn := hT.2.2.1
  subst hR
  intro k
  induction k with
  | zero =>
    intro i hi hno
    have e1 : tcw (i64 (hsh t p (e - p))) = 90 := wmt_n (fun j hj => hl (p + j) (by omega) (by omega)) (fun i' h1 h2 => hno i' (by omega) h2)
    rw [e1]
    refine V_iload (pc := 8) dX5_wordAt_8 rfl ?_
    refine V_ldcT rfl dX5_wordAt_10 ?_
    refine V_callVSd (pc := 12) (c_J0_length_8abf5) dX5_wordAt_12 mlX5_108 mkJ0_length_8abf5 rfl rfl rfl ⟨Nat.le_of_ble_eq_true rfl, Nat.le_of_ble_eq_true rfl⟩ (Nat.le_of_ble_eq_true rfl) ⟨Nat.le_of_ble_eq_true rfl, Nat.le_of_ble_eq_true rfl⟩ ?_
    refine V_icmp_gtN (pc := 15) (tgt := 80) dX5_wordAt_15 (by decide) (by omega) (by omega) (fun c15 => ?_) (fun n15 => absurd n15 (by omega))
    refine V_bipush (pc := 80) (v := nI 90) dX5_wordAt_80 (by decide) ?_
    refine V_iret (pc := 82) dX5_wordAt_82 rfl (by first | decide | omega) (by first | decide | omega) ?_
    exact ⟨rfl, rfl, rfl, rfl⟩
  | succ k ih =>
    intro i hi hno
    obtain ⟨w1, w2, w3⟩ := wst_ok i (by omega)
    have hw0 : ∀ i', i' < i + 1 → (i' = 146 ∨ wch i' = 32) → (¬ (i = 146 ∨ wch i = 32) ∨ ¬ wmt t p (e - p) i) → ¬ wmt t p (e - p) i' := by
      intro i' h1 h2 h3 h4
      by_cases ei : i' = i
      · subst ei
        rcases h3 with h3 | h3
        · exact h3 h2
        · exact h3 h4
      · exact hno i' (by omega) h2 h4
    have key : (i = 146 ∨ wch i = 32) → V E kX5_wordAt (rmOf 5 0 0) (QM E (fun r S' I' L' => r = some (.int (nI (tcw (i64 (hsh t p (e - p)))))) ∧ S' = S ∧ I' = I ∧ L' = L) 0 0) 0 0 S I L 40 [(0, .ref a), (1, .int (nI p)), (2, .int (nI e)), (3, .int (nI (wst i).1)), (4, .int (nI (wst i).2)), (5, .int (nI i))] [] := by
      intro hE
      have nxtV : ¬ wmt t p (e - p) i → V E kX5_wordAt (rmOf 5 0 0) (QM E (fun r S' I' L' => r = some (.int (nI (tcw (i64 (hsh t p (e - p)))))) ∧ S' = S ∧ I' = I ∧ L' = L) 0 0) 0 0 S I L 65 [(0, .ref a), (1, .int (nI p)), (2, .int (nI e)), (3, .int (nI (wst i).1)), (4, .int (nI (wst i).2)), (5, .int (nI i))] [] := by
        intro hW
        by_cases hz : i = 146
        · have e1 : tcw (i64 (hsh t p (e - p))) = 90 := wmt_n (fun j hj => hl (p + j) (by omega) (by omega)) (fun i' h1 h2 => hw0 i' (by omega) h2 (Or.inr hW))
          rw [e1]
          refine V_iinc1 (pc := 65) (ls' := [(0, _), (1, _), (2, _), (3, _), (4, _), (5, _)]) dX5_wordAt_65 rfl (by decide) rfl ?_
          refine V_iload (pc := 68) dX5_wordAt_68 rfl ?_
          refine V_iconst (pc := 70) (v := nI 1) dX5_wordAt_70 (by decide) ?_
          refine V_iaddN (pc := 71) dX5_wordAt_71 ?_
          refine V_istore (pc := 72) (ls' := [(0, _), (1, _), (2, _), (3, _), (4, _), (5, _)]) dX5_wordAt_72 (by decide) rfl ?_
          refine V_iinc1 (pc := 74) (ls' := [(0, _), (1, _), (2, _), (3, _), (4, _), (5, _)]) dX5_wordAt_74 rfl (by decide) rfl ?_
          refine V_goto (pc := 77) (tgt := 8) dX5_wordAt_77 (by decide) ?_
          refine V_iload (pc := 8) dX5_wordAt_8 rfl ?_
          refine V_ldcT rfl dX5_wordAt_10 ?_
          refine V_callVSd (pc := 12) (c_J0_length_8abf5) dX5_wordAt_12 mlX5_108 mkJ0_length_8abf5 rfl rfl rfl ⟨Nat.le_of_ble_eq_true rfl, Nat.le_of_ble_eq_true rfl⟩ (Nat.le_of_ble_eq_true rfl) ⟨Nat.le_of_ble_eq_true rfl, Nat.le_of_ble_eq_true rfl⟩ ?_
          refine V_icmp_gtN (pc := 15) (tgt := 80) dX5_wordAt_15 (by decide) (by omega) (by omega) (fun c15 => ?_) (fun n15 => absurd n15 (by omega))
          refine V_bipush (pc := 80) (v := nI 90) dX5_wordAt_80 (by decide) ?_
          refine V_iret (pc := 82) dX5_wordAt_82 rfl (by first | decide | omega) (by first | decide | omega) ?_
          exact ⟨rfl, rfl, rfl, rfl⟩
        · have hb : wch i = 32 := by omega
          have h2 := ih (i + 1) (by omega) (fun i' h1 h2 => hw0 i' h1 h2 (Or.inr hW))
          rw [wst_b hb] at h2
          refine V_iinc1 (pc := 65) (ls' := [(0, _), (1, _), (2, _), (3, _), (4, _), (5, _)]) dX5_wordAt_65 rfl (by decide) rfl ?_
          refine V_iload (pc := 68) dX5_wordAt_68 rfl ?_
          refine V_iconst (pc := 70) (v := nI 1) dX5_wordAt_70 (by decide) ?_
          refine V_iaddN (pc := 71) dX5_wordAt_71 ?_
          refine V_istore (pc := 72) (ls' := [(0, _), (1, _), (2, _), (3, _), (4, _), (5, _)]) dX5_wordAt_72 (by decide) rfl ?_
          refine V_iinc1 (pc := 74) (ls' := [(0, _), (1, _), (2, _), (3, _), (4, _), (5, _)]) dX5_wordAt_74 rfl (by decide) rfl ?_
          refine V_goto (pc := 77) (tgt := 8) dX5_wordAt_77 (by decide) ?_
          exact h2
      have hm : i - (wst i).2 = e - p → wmt t p (e - p) i ∨ smw t p (wst i).2 (e - p) = false := by
        intro h1
        cases h2 : smw t p (wst i).2 (e - p) with
        | true => exact Or.inl ⟨h1, of_decide_eq_true h2⟩
        | false => exact Or.inr rfl
      refine V_iload (pc := 40) dX5_wordAt_40 rfl ?_
      refine V_iload (pc := 42) dX5_wordAt_42 rfl ?_
      refine V_isubN (pc := 44) dX5_wordAt_44 (by omega) ?_
      refine V_iload_n (pc := 45) dX5_wordAt_45 rfl ?_
      refine V_iload_n (pc := 46) dX5_wordAt_46 rfl ?_
      refine V_isubN (pc := 47) dX5_wordAt_47 (by omega) ?_
      refine V_icmp_neN (pc := 48) (tgt := 65) dX5_wordAt_48 (by decide) (by omega) (by omega) (fun c48 => ?_) (fun n48 => ?_)
      · skip
        first | exact nxtV (fun z => absurd z.1 (by omega)) | exact nxtV (smw_n c60) | fail
      · skip
        have hsz : (wst i).2 + (e - p) = i := by omega
        have hS57 : Cd E kX5_isSame 4 0 0 [.ref a, .int (nI p), .int (nI (wst i).2), .int (nI i)] S I L (.int (b2i (smw t p (wst i).2 (e - p)))) S I L := by
          have h9 := c_X5_isSame (E := E) (S := S) (I := I) (L := L) (f := p) (b := (wst i).2) (m := e - p) hT (by omega) (by omega)
          rw [hsz] at h9
          exact h9
        refine V_aload_n (pc := 51) dX5_wordAt_51 rfl ?_
        refine V_iload_n (pc := 52) dX5_wordAt_52 rfl ?_
        refine V_iload (pc := 53) dX5_wordAt_53 rfl ?_
        refine V_iload (pc := 55) dX5_wordAt_55 rfl ?_
        refine V_callSd (pc := 57) hS57 dX5_wordAt_57 mlX5_118 mkX5_isSame rfl rfl ⟨Nat.le_of_ble_eq_true rfl, Nat.le_of_ble_eq_true rfl⟩ (Nat.le_of_ble_eq_true rfl) ⟨Nat.le_of_ble_eq_true rfl, Nat.le_of_ble_eq_true rfl⟩ ?_
        refine V_if_eqB (pc := 60) (tgt := 65) dX5_wordAt_60 (by decide) (fun c60 => ?_) (fun n60 => ?_)
        · skip
          first | exact nxtV (fun z => absurd z.1 (by omega)) | exact nxtV (smw_n c60) | fail
        · skip
          rw [wmt_y (by omega) hE ⟨by omega, of_decide_eq_true n60⟩]
          refine V_iload_n (pc := 63) dX5_wordAt_63 rfl ?_
          refine V_iret (pc := 64) dX5_wordAt_64 rfl (by first | decide | omega) (by first | decide | omega) ?_
          exact ⟨rfl, rfl, rfl, rfl⟩
    refine V_iload (pc := 8) dX5_wordAt_8 rfl ?_
    refine V_ldcT rfl dX5_wordAt_10 ?_
    refine V_callVSd (pc := 12) (c_J0_length_8abf5) dX5_wordAt_12 mlX5_108 mkJ0_length_8abf5 rfl rfl rfl ⟨Nat.le_of_ble_eq_true rfl, Nat.le_of_ble_eq_true rfl⟩ (Nat.le_of_ble_eq_true rfl) ⟨Nat.le_of_ble_eq_true rfl, Nat.le_of_ble_eq_true rfl⟩ ?_
    refine V_icmp_gtN (pc := 15) (tgt := 80) dX5_wordAt_15 (by decide) (by omega) (by omega) (fun c15 => absurd c15 (by omega)) (fun n15 => ?_)
    refine V_iload (pc := 18) dX5_wordAt_18 rfl ?_
    refine V_ldcT rfl dX5_wordAt_20 ?_
    refine V_callVSd (pc := 22) (c_J0_length_8abf5) dX5_wordAt_22 mlX5_108 mkJ0_length_8abf5 rfl rfl rfl ⟨Nat.le_of_ble_eq_true rfl, Nat.le_of_ble_eq_true rfl⟩ (Nat.le_of_ble_eq_true rfl) ⟨Nat.le_of_ble_eq_true rfl, Nat.le_of_ble_eq_true rfl⟩ ?_
    refine V_icmp_eqN (pc := 25) (tgt := 40) dX5_wordAt_25 (by decide) (by omega) (by omega) (fun c25 => ?_) (fun n25 => ?_)
    · skip
      exact key (by omega)
    · skip
      refine V_ldcT rfl dX5_wordAt_28 ?_
      refine V_iload (pc := 30) dX5_wordAt_30 rfl ?_
      refine V_callVSd (pc := 32) (c_chr (j := i) (by omega)) dX5_wordAt_32 mlX5_114 mkJ0_charAt_5068e rfl rfl rfl ⟨Nat.le_of_ble_eq_true rfl, Nat.le_of_ble_eq_true rfl⟩ (Nat.le_of_ble_eq_true rfl) ⟨Nat.le_of_ble_eq_true rfl, Nat.le_of_ble_eq_true rfl⟩ ?_
      have hcc := (wch_n i (by omega)).2
      refine V_bipush (pc := 35) (v := nI 32) dX5_wordAt_35 (by decide) ?_
      refine V_icmp_neN (pc := 37) (tgt := 74) dX5_wordAt_37 (by decide) (by omega) (by omega) (fun c37 => ?_) (fun n37 => ?_)
      · skip
        have h2 := ih (i + 1) (by omega) (fun i' h1 h2 => hw0 i' h1 h2 (Or.inl (by omega)))
        rw [wst_o (by omega)] at h2
        refine V_iinc1 (pc := 74) (ls' := [(0, _), (1, _), (2, _), (3, _), (4, _), (5, _)]) dX5_wordAt_74 rfl (by decide) rfl ?_
        refine V_goto (pc := 77) (tgt := 8) dX5_wordAt_77 (by decide) ?_
        exact h2
      · skip
        exact key (by omega)
theorem c_X5_wordAt {p e : Nat} (hT : TR E S I a t n) (hp : p < e) (he : e ≤ n) (hl : ∀ j, p ≤ j → j < e → 97 ≤ t j ∧ t j ≤ 122) : Cd E kX5_wordAt 5 0 0 [.ref a, .int (nI p), .int (nI e)] S I L (.int (nI (tcw (i64 (hsh t p (e - p)))))) S I L := by
  have hn := hT.2.2.1
  refine C_of (by decide) (Nat.le_of_ble_eq_true rfl) ?_
  refine V_iconst (pc := 0) (v := nI 0) dX5_wordAt_0 (by decide) ?_
  refine V_istore_n (pc := 1) (ls' := [(0, _), (1, _), (2, _), (3, _)]) dX5_wordAt_1 (by decide) rfl ?_
  refine V_iconst (pc := 2) (v := nI 0) dX5_wordAt_2 (by decide) ?_
  refine V_istore (pc := 3) (ls' := [(0, _), (1, _), (2, _), (3, _), (4, _)]) dX5_wordAt_3 (by decide) rfl ?_
  refine V_iconst (pc := 5) (v := nI 0) dX5_wordAt_5 (by decide) ?_
  refine V_istore (pc := 6) (ls' := [(0, _), (1, _), (2, _), (3, _), (4, _), (5, _)]) dX5_wordAt_6 (by decide) rfl ?_
  exact lp_word rfl hT hp he hl 147 0 (by omega) (fun i' h => absurd h (by omega))
end R2
