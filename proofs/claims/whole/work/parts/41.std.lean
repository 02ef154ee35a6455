/-! THE REFERENCE: steady -/
section MT2
variable {nb ns : Nat} {may rf : Nat → Nat → Bool} {dif lk : Nat → Nat → Nat} {M : Nat → Nat}
def mz (nb ns : Nat) (rf : Nat → Nat → Bool) : Nat := sm (fun b => sm (fun s => if rf b s = true then 0 else 1) ns) nb
theorem sm_lt {f g : Nat → Nat} {n k : Nat} (hk : k < n) (h1 : ∀ i, i < n → f i ≤ g i) (h2 : f k < g k) : sm f n < sm g n := by
  induction n with
  | zero => omega
  | succ n ih =>
    rw [sm, sm]
    by_cases e : k = n
    · subst e
      have := sm_mono (f := f) (g := g) (n := k) (fun i hi => h1 i (by omega))
      omega
    · have := ih (by omega) (fun i hi => h1 i (by omega))
      have := h1 n (by omega)
      omega
theorem mz_lt {rf rf' : Nat → Nat → Bool} {b s : Nat} (hb : b < nb) (hs : s < ns) (h1 : rf b s = false) (h2 : rf' b s = true) (hm : ∀ c t, c < nb → t < ns → rf c t = true → rf' c t = true) : mz nb ns rf' < mz nb ns rf := by
  have step : ∀ c t, c < nb → t < ns → (if rf' c t = true then 0 else 1) ≤ (if rf c t = true then 0 else 1) := by
    intro c t hc ht
    by_cases h : rf c t = true
    · rw [if_pos h, if_pos (hm c t hc ht h)]; omega
    · rw [if_neg h]; split <;> omega
  unfold mz
  refine sm_lt hb (fun c hc => sm_mono (fun t ht => step c t hc ht)) ?_
  refine sm_lt hs (fun t ht => step b t hb ht) ?_
  rw [if_pos h2, if_neg (by rw [h1]; decide)]
  omega
def gz (M : Nat → Nat) (lk : Nat → Nat → Nat) (nb : Nat) : Nat → Bool | 0 => false | j + 1 => gz M lk nb j || decide (M j ≠ 0 ∧ kpt M lk (M j - 1) nb ≠ j + 1)
theorem gz_f : ∀ {j : Nat}, gz M lk nb j = false → ∀ b, b < j → ∀ s, M b = s + 1 → kpt M lk s nb = b + 1
  | 0, _, b, hb, _, _ => absurd hb (Nat.not_lt_zero b)
  | j + 1, h, b, hb, s, hs => by
    have h' := Bool.or_eq_false_iff.mp h
    by_cases e : b = j
    · subst e
      have h2 := of_decide_eq_false h'.2
      rw [hs] at h2
      simp at h2
      exact h2
    · exact gz_f h'.1 b (by omega) s hs
theorem gz_t : ∀ {j : Nat}, gz M lk nb j = true → ∃ b s, b < j ∧ M b = s + 1 ∧ kpt M lk s nb ≠ b + 1
  | 0, h => absurd h Bool.false_ne_true
  | j + 1, h => by
    rcases Bool.or_eq_true_iff.mp h with z | z
    · obtain ⟨b, s, h1, h2⟩ := gz_t z
      exact ⟨b, s, by omega, h2⟩
    · obtain ⟨z1, z2⟩ := of_decide_eq_true z
      obtain ⟨s, hs⟩ := Nat.exists_eq_succ_of_ne_zero z1
      refine ⟨j, s, by omega, hs, ?_⟩
      rw [hs] at z2
      simpa using z2
/-- the refusals with those of the first j boxes in a round -/
def rj (rf : Nat → Nat → Bool) (M : Nat → Nat) (lk : Nat → Nat → Nat) (nb j : Nat) : Nat → Nat → Bool := fun b s => rf b s || (decide (b < j) && decide (M b = s + 1 ∧ kpt M lk s nb ≠ b + 1))
end MT2
section MJ2
variable {E : EnT} {S : ST} {I : IT} {L : LT} {o : Nat} {A : AT}
theorem nst_le (rf : Nat → Nat → Bool) (dif : Nat → Nat → Nat) (b n : Nat) : nst rf dif b n ≤ n := by
  rcases nst_ok rf dif b n with ⟨e, -⟩ | ⟨t, t1, e, -, -⟩ <;> omega
theorem kpt_le (M : Nat → Nat) (lk : Nat → Nat → Nat) (s n : Nat) : kpt M lk s n ≤ n := by
  rcases kpt_ok M lk s n with ⟨e, -⟩ | ⟨t, t1, e, -, -⟩ <;> omega
theorem NrM.cg {I I' : IT} {nb ns : Nat} {may rf rf' : Nat → Nat → Bool} {dif lk : Nat → Nat → Nat} (h : NrM I o nb ns may rf dif lk) (h1 : I' (o + 22) = I (o + 22)) (h2 : I' (o + 23) = I (o + 23)) (h3 : ∀ b s, b < nb → s < ns → I' (o + 25) (6 * b + s) = b2i (rf' b s)) : NrM I' o nb ns may rf' dif lk := fun b s hb hs => ⟨by rw [h1]; exact (h b s hb hs).1, by rw [h2]; exact (h b s hb hs).2.1, h3 b s hb hs⟩
theorem lp_sd1 (h12 : Lay12 E S o) {Q : QT} {q : Nat → Nat} {may rf : Nat → Nat → Bool} {dif lk : Nat → Nat → Nat} {v1 : Int32} (hr : RowM I (o + 2) q) (hq : wq q) (hN : NrM I o (q 0) (q 1) may rf dif lk) (hm : ∀ b s, b < q 0 → s < q 1 → rf b s = false → may b s = true) (hd : ∀ b s, s < 6 → dif b s ≤ 60) (hk : ∀ I', (∀ a, a ≠ o + 24 → I' a = I a) → (∀ b, b < q 0 → I' (o + 24) b = pred1 (nst rf dif b (q 1))) → V E kX12_laySteady (rmOf 8 0 0) Q 0 0 S I' L 41 [(0, .ref o), (1, .int v1), (2, .int (nI (q 0)))] []) : V E kX12_laySteady (rmOf 8 0 0) Q 0 0 S I L 14 [(0, .ref o), (1, .int v1), (2, .int (nI 0))] [] := by
  have hnb := hq.nb
  have key : ∀ j, j ≤ q 0 → ∀ I', (∀ a, a ≠ o + 24 → I' a = I a) → (∀ b, b < j → I' (o + 24) b = pred1 (nst rf dif b (q 1))) → V E kX12_laySteady (rmOf 8 0 0) Q 0 0 S I' L 14 [(0, .ref o), (1, .int v1), (2, .int (nI j))] [] := by
    refine loopUp ?_ ?_
    · intro I' ha hb
      have hr' := hr.cg (ha (o + 2) (by omega))
      refine V_iload_n (pc := 14) dX12_laySteady_14 rfl ?_
      refine V_aload_n (pc := 15) dX12_laySteady_15 rfl ?_
      refine V_getR (pc := 16) 12 3 dX12_laySteady_16 flX12_13 (by decide) h12.o h12.R3 ?_
      refine V_iconst (pc := 19) (v := nI 0) dX12_laySteady_19 (by decide) ?_
      refine V_ialoadE (pc := 20) dX12_laySteady_20 h12.A3 (by first | decide | omega) (by omega) (hr'.n (by omega)) ?_
      refine V_icmp_geN (pc := 21) (tgt := 41) dX12_laySteady_21 (by decide) (by omega) (by omega) (fun c21 => ?_) (fun n21 => absurd n21 (by omega))
      exact hk I' ha hb
    · intro j hj ih I' ha hb
      have hr' := hr.cg (ha (o + 2) (by omega))
      have hN' : NrM I' o (q 0) (q 1) may rf dif lk := hN.cg (ha _ (by omega)) (ha _ (by omega)) (fun b s hb hs => by rw [ha _ (by omega)]; exact (hN b s hb hs).2.2)
      refine V_iload_n (pc := 14) dX12_laySteady_14 rfl ?_
      refine V_aload_n (pc := 15) dX12_laySteady_15 rfl ?_
      refine V_getR (pc := 16) 12 3 dX12_laySteady_16 flX12_13 (by decide) h12.o h12.R3 ?_
      refine V_iconst (pc := 19) (v := nI 0) dX12_laySteady_19 (by decide) ?_
      refine V_ialoadE (pc := 20) dX12_laySteady_20 h12.A3 (by first | decide | omega) (by omega) (hr'.n (by omega)) ?_
      refine V_icmp_geN (pc := 21) (tgt := 41) dX12_laySteady_21 (by decide) (by omega) (by omega) (fun c21 => absurd c21 (by omega)) (fun n21 => ?_)
      refine V_aload_n (pc := 24) dX12_laySteady_24 rfl ?_
      refine V_getR (pc := 25) 12 44 dX12_laySteady_25 flX12_119 (by decide) h12.o h12.R44 ?_
      refine V_iload_n (pc := 28) dX12_laySteady_28 rfl ?_
      refine V_aload_n (pc := 29) dX12_laySteady_29 rfl ?_
      refine V_iload_n (pc := 30) dX12_laySteady_30 rfl ?_
      refine V_callVd (pc := 31) (ci := 12) (c_X12_nearest h12 hr' hq hj hN' hm hd) dX12_laySteady_31 mlX12_491 mkX12_nearest rfl rfl h12.o ⟨by decide, rfl⟩ ⟨Nat.le_of_ble_eq_true rfl, Nat.le_of_ble_eq_true rfl⟩ (Nat.le_of_ble_eq_true rfl) ⟨Nat.le_of_ble_eq_true rfl, Nat.le_of_ble_eq_true rfl⟩ ?_
      refine V_iastore (pc := 34) dX12_laySteady_34 h12.A44 (by first | decide | omega) (by omega) ?_
      refine V_iinc1 (pc := 35) (ls' := [(0, _), (1, _), (2, _)]) dX12_laySteady_35 rfl (by decide) rfl ?_
      refine V_goto (pc := 38) (tgt := 14) dX12_laySteady_38 (by decide) ?_
      refine ih _ (fun a h => by rw [up2_row h]; exact ha a h) (fun b hb2 => ?_)
      by_cases e : b = j
      · subst e; exact up2_self
      · rw [up2_nej e]; exact hb b (by omega)
  exact key 0 (by omega) I (fun _ _ => rfl) (fun b hb => absurd hb (Nat.not_lt_zero b))
theorem lp_sd2 (h12 : Lay12 E S o) {Q : QT} {q : Nat → Nat} {may rf : Nat → Nat → Bool} {dif lk : Nat → Nat → Nat} {M : Nat → Nat} (hr : RowM I (o + 2) q) (hq : wq q) (hN : NrM I o (q 0) (q 1) may rf dif lk) (hM : ∀ b, b < q 0 → I (o + 24) b = pred1 (M b) ∧ M b ≤ q 1) (hl : ∀ b s, lk b s ≤ 99) (hk : ∀ I', (∀ a, a ≠ o + 25 → I' a = I a) → NrM I' o (q 0) (q 1) may (rj rf M lk (q 0) (q 0)) dif lk → V E kX12_laySteady (rmOf 8 0 0) Q 0 0 S I' L 94 [(0, .ref o), (1, .int (b2i (gz M lk (q 0) (q 0)))), (2, .int (nI (q 0)))] []) : V E kX12_laySteady (rmOf 8 0 0) Q 0 0 S I L 43 [(0, .ref o), (1, .int (nI 0)), (2, .int (nI 0))] [] := by
  have hnb := hq.nb
  have hns := hq.ns
  have key : ∀ j, j ≤ q 0 → ∀ I', (∀ a, a ≠ o + 25 → I' a = I a) → NrM I' o (q 0) (q 1) may (rj rf M lk (q 0) j) dif lk → V E kX12_laySteady (rmOf 8 0 0) Q 0 0 S I' L 43 [(0, .ref o), (1, .int (b2i (gz M lk (q 0) j))), (2, .int (nI j))] [] := by
    refine loopUp ?_ ?_
    · intro I' ha hn
      have hr' := hr.cg (ha (o + 2) (by omega))
      refine V_iload_n (pc := 43) dX12_laySteady_43 rfl ?_
      refine V_aload_n (pc := 44) dX12_laySteady_44 rfl ?_
      refine V_getR (pc := 45) 12 3 dX12_laySteady_45 flX12_13 (by decide) h12.o h12.R3 ?_
      refine V_iconst (pc := 48) (v := nI 0) dX12_laySteady_48 (by decide) ?_
      refine V_ialoadE (pc := 49) dX12_laySteady_49 h12.A3 (by first | decide | omega) (by omega) (hr'.n (by omega)) ?_
      refine V_icmp_geN (pc := 50) (tgt := 94) dX12_laySteady_50 (by decide) (by omega) (by omega) (fun c50 => ?_) (fun n50 => absurd n50 (by omega))
      exact hk I' ha hn
    · intro j hj ih I' ha hn
      have hr' := hr.cg (ha (o + 2) (by omega))
      have hM' : ∀ b, b < q 0 → I' (o + 24) b = pred1 (M b) ∧ M b ≤ q 1 := fun b hb => by rw [ha _ (by omega)]; exact hM b hb
      rw [gz] at ih
      have same : (M j = 0 ∨ kpt M lk (M j - 1) (q 0) = j + 1) → NrM I' o (q 0) (q 1) may (rj rf M lk (q 0) (j + 1)) dif lk := fun h => hn.cg rfl rfl (fun b s hb hs => by
        rw [(hn b s hb hs).2.2]
        congr 1
        unfold rj
        by_cases e : b = j
        · subst e
          rw [decide_eq_false (Nat.lt_irrefl b), Bool.false_and, Bool.or_false]
          rw [decide_eq_false (p := M b = s + 1 ∧ _) (fun z => ?_), Bool.and_false, Bool.or_false]
          rw [z.1] at h
          simp at h
          exact z.2 h
        · rw [show (decide (b < j + 1)) = decide (b < j) from by congr 1; simp; omega])
      cases hMz : M j with
      | zero =>
        rw [decide_eq_false (fun z => z.1 hMz), Bool.or_false] at ih
        have e24 : I' (o + 24) j = -1 := by rw [(hM' j hj).1, hMz]; exact pred1_0
        refine V_iload_n (pc := 43) dX12_laySteady_43 rfl ?_
        refine V_aload_n (pc := 44) dX12_laySteady_44 rfl ?_
        refine V_getR (pc := 45) 12 3 dX12_laySteady_45 flX12_13 (by decide) h12.o h12.R3 ?_
        refine V_iconst (pc := 48) (v := nI 0) dX12_laySteady_48 (by decide) ?_
        refine V_ialoadE (pc := 49) dX12_laySteady_49 h12.A3 (by first | decide | omega) (by omega) (hr'.n (by omega)) ?_
        refine V_icmp_geN (pc := 50) (tgt := 94) dX12_laySteady_50 (by decide) (by omega) (by omega) (fun c50 => absurd c50 (by omega)) (fun n50 => ?_)
        refine V_aload_n (pc := 53) dX12_laySteady_53 rfl ?_
        refine V_getR (pc := 54) 12 44 dX12_laySteady_54 flX12_119 (by decide) h12.o h12.R44 ?_
        refine V_iload_n (pc := 57) dX12_laySteady_57 rfl ?_
        refine V_ialoadE (pc := 58) dX12_laySteady_58 h12.A44 (by first | decide | omega) (by omega) (e24) ?_
        refine V_istore_n (pc := 59) (ls' := [(0, _), (1, _), (2, _), (3, _)]) dX12_laySteady_59 (by decide) rfl ?_
        refine V_iload_n (pc := 60) dX12_laySteady_60 rfl ?_
        refine V_iconst (pc := 61) (v := (-1)) dX12_laySteady_61 (by decide) ?_
        refine V_icmp_eq (pc := 62) (tgt := 88) dX12_laySteady_62 (by decide) (fun c62 => ?_) (fun n62 => absurd n62 (by exact fun z => z rfl))
        refine V_loc [0, 1, 2] rfl ?_
        refine V_iinc1 (pc := 88) (ls' := [(0, _), (1, _), (2, _)]) dX12_laySteady_88 rfl (by decide) rfl ?_
        refine V_goto (pc := 91) (tgt := 43) dX12_laySteady_91 (by decide) ?_
        exact ih I' ha (same (Or.inl hMz))
      | succ s =>
        have hs := (hM' j hj).2
        have e24 : I' (o + 24) j = nI s := by rw [(hM' j hj).1, hMz]; exact pred1_s s
        have hkl := kpt_le M lk s (q 0)
        by_cases hk2 : kpt M lk s (q 0) = j + 1
        · rw [decide_eq_false (fun z => z.2 (by rw [hMz]; exact hk2)), Bool.or_false] at ih
          refine V_iload_n (pc := 43) dX12_laySteady_43 rfl ?_
          refine V_aload_n (pc := 44) dX12_laySteady_44 rfl ?_
          refine V_getR (pc := 45) 12 3 dX12_laySteady_45 flX12_13 (by decide) h12.o h12.R3 ?_
          refine V_iconst (pc := 48) (v := nI 0) dX12_laySteady_48 (by decide) ?_
          refine V_ialoadE (pc := 49) dX12_laySteady_49 h12.A3 (by first | decide | omega) (by omega) (hr'.n (by omega)) ?_
          refine V_icmp_geN (pc := 50) (tgt := 94) dX12_laySteady_50 (by decide) (by omega) (by omega) (fun c50 => absurd c50 (by omega)) (fun n50 => ?_)
          refine V_aload_n (pc := 53) dX12_laySteady_53 rfl ?_
          refine V_getR (pc := 54) 12 44 dX12_laySteady_54 flX12_119 (by decide) h12.o h12.R44 ?_
          refine V_iload_n (pc := 57) dX12_laySteady_57 rfl ?_
          refine V_ialoadE (pc := 58) dX12_laySteady_58 h12.A44 (by first | decide | omega) (by omega) (e24) ?_
          refine V_istore_n (pc := 59) (ls' := [(0, _), (1, _), (2, _), (3, _)]) dX12_laySteady_59 (by decide) rfl ?_
          refine V_iload_n (pc := 60) dX12_laySteady_60 rfl ?_
          refine V_iconst (pc := 61) (v := (-1)) dX12_laySteady_61 (by decide) ?_
          refine V_icmp_eq (pc := 62) (tgt := 88) dX12_laySteady_62 (by decide) (fun c62 => absurd c62 (by exact fun z => absurd (by rw [z]; decide : nI s < 0) (nI_pos (by omega)))) (fun n62 => ?_)
          refine V_aload_n (pc := 65) dX12_laySteady_65 rfl ?_
          refine V_iload_n (pc := 66) dX12_laySteady_66 rfl ?_
          refine V_callVd (pc := 67) (ci := 12) (c_X12_keptBy h12 hr' hq (by omega) hn hM' hl) dX12_laySteady_67 mlX12_494 mkX12_keptBy rfl rfl h12.o ⟨by decide, rfl⟩ ⟨Nat.le_of_ble_eq_true rfl, Nat.le_of_ble_eq_true rfl⟩ (Nat.le_of_ble_eq_true rfl) ⟨Nat.le_of_ble_eq_true rfl, Nat.le_of_ble_eq_true rfl⟩ ?_
          refine V_iload_n (pc := 70) dX12_laySteady_70 rfl ?_
          refine V_icmp_eq (pc := 71) (tgt := 88) dX12_laySteady_71 (by decide) (fun c71 => ?_) (fun n71 => absurd n71 (by exact fun z => z (by rw [hk2, pred1_s])))
          refine V_loc [0, 1, 2] rfl ?_
          refine V_iinc1 (pc := 88) (ls' := [(0, _), (1, _), (2, _)]) dX12_laySteady_88 rfl (by decide) rfl ?_
          refine V_goto (pc := 91) (tgt := 43) dX12_laySteady_91 (by decide) ?_
          exact ih I' ha (same (Or.inr (by rw [hMz]; exact hk2)))
        · rw [decide_eq_true (⟨by omega, by rw [hMz]; exact hk2⟩ : M j ≠ 0 ∧ kpt M lk (M j - 1) (q 0) ≠ j + 1), Bool.or_true] at ih
          refine V_iload_n (pc := 43) dX12_laySteady_43 rfl ?_
          refine V_aload_n (pc := 44) dX12_laySteady_44 rfl ?_
          refine V_getR (pc := 45) 12 3 dX12_laySteady_45 flX12_13 (by decide) h12.o h12.R3 ?_
          refine V_iconst (pc := 48) (v := nI 0) dX12_laySteady_48 (by decide) ?_
          refine V_ialoadE (pc := 49) dX12_laySteady_49 h12.A3 (by first | decide | omega) (by omega) (hr'.n (by omega)) ?_
          refine V_icmp_geN (pc := 50) (tgt := 94) dX12_laySteady_50 (by decide) (by omega) (by omega) (fun c50 => absurd c50 (by omega)) (fun n50 => ?_)
          refine V_aload_n (pc := 53) dX12_laySteady_53 rfl ?_
          refine V_getR (pc := 54) 12 44 dX12_laySteady_54 flX12_119 (by decide) h12.o h12.R44 ?_
          refine V_iload_n (pc := 57) dX12_laySteady_57 rfl ?_
          refine V_ialoadE (pc := 58) dX12_laySteady_58 h12.A44 (by first | decide | omega) (by omega) (e24) ?_
          refine V_istore_n (pc := 59) (ls' := [(0, _), (1, _), (2, _), (3, _)]) dX12_laySteady_59 (by decide) rfl ?_
          refine V_iload_n (pc := 60) dX12_laySteady_60 rfl ?_
          refine V_iconst (pc := 61) (v := (-1)) dX12_laySteady_61 (by decide) ?_
          refine V_icmp_eq (pc := 62) (tgt := 88) dX12_laySteady_62 (by decide) (fun c62 => absurd c62 (by exact fun z => absurd (by rw [z]; decide : nI s < 0) (nI_pos (by omega)))) (fun n62 => ?_)
          refine V_aload_n (pc := 65) dX12_laySteady_65 rfl ?_
          refine V_iload_n (pc := 66) dX12_laySteady_66 rfl ?_
          refine V_callVd (pc := 67) (ci := 12) (c_X12_keptBy h12 hr' hq (by omega) hn hM' hl) dX12_laySteady_67 mlX12_494 mkX12_keptBy rfl rfl h12.o ⟨by decide, rfl⟩ ⟨Nat.le_of_ble_eq_true rfl, Nat.le_of_ble_eq_true rfl⟩ (Nat.le_of_ble_eq_true rfl) ⟨Nat.le_of_ble_eq_true rfl, Nat.le_of_ble_eq_true rfl⟩ ?_
          refine V_iload_n (pc := 70) dX12_laySteady_70 rfl ?_
          refine V_icmp_eq (pc := 71) (tgt := 88) dX12_laySteady_71 (by decide) (fun c71 => absurd c71 (by exact fun z => hk2 ((pred1_some (by omega) (by omega)).mp z))) (fun n71 => ?_)
          refine V_aload_n (pc := 74) dX12_laySteady_74 rfl ?_
          refine V_getR (pc := 75) 12 45 dX12_laySteady_75 flX12_122 (by decide) h12.o h12.R45 ?_
          refine V_bipush (pc := 78) (v := nI 6) dX12_laySteady_78 (by decide) ?_
          refine V_iload_n (pc := 80) dX12_laySteady_80 rfl ?_
          refine V_imulN (pc := 81) dX12_laySteady_81 ?_
          refine V_iload_n (pc := 82) dX12_laySteady_82 rfl ?_
          refine V_iaddN (pc := 83) dX12_laySteady_83 ?_
          refine V_iconst (pc := 84) (v := nI 1) dX12_laySteady_84 (by decide) ?_
          refine V_bastore (pc := 85) dX12_laySteady_85 h12.A45 (by first | decide | omega) (by omega) rfl ?_
          refine V_iconst (pc := 86) (v := nI 1) dX12_laySteady_86 (by decide) ?_
          refine V_istore_n (pc := 87) (ls' := [(0, _), (1, _), (2, _), (3, _)]) dX12_laySteady_87 (by decide) rfl ?_
          refine V_loc [0, 1, 2] rfl ?_
          refine V_iinc1 (pc := 88) (ls' := [(0, _), (1, _), (2, _)]) dX12_laySteady_88 rfl (by decide) rfl ?_
          refine V_goto (pc := 91) (tgt := 43) dX12_laySteady_91 (by decide) ?_
          refine ih _ (fun a h => by rw [up2_row h]; exact ha a h) (hn.cg (up2_row (by omega)) (up2_row (by omega)) (fun b t hb ht => ?_))
          unfold rj
          by_cases e : b = j
          · subst e
            by_cases e2 : t = s
            · subst e2
              rw [up2_self, decide_eq_true (show b < b + 1 by omega), decide_eq_true (⟨hMz, hk2⟩ : M b = t + 1 ∧ _), Bool.and_true, Bool.or_true]; rfl
            · rw [up2_nej (by omega), (hn b t hb ht).2.2]
              congr 1
              unfold rj
              rw [decide_eq_false (Nat.lt_irrefl b), Bool.false_and, Bool.or_false, decide_eq_false (p := M b = t + 1 ∧ _) (fun z => by have := z.1; omega), Bool.and_false, Bool.or_false]
          · rw [up2_nej (by omega), (hn b t hb ht).2.2]
            congr 1
            unfold rj
            rw [show (decide (b < j + 1)) = decide (b < j) from by congr 1; simp; omega]
  exact key 0 (by omega) I (fun _ _ => rfl) (hN.cg rfl rfl (fun b s hb hs => by rw [(hN b s hb hs).2.2]; congr 1; unfold rj; rw [decide_eq_false (Nat.not_lt_zero b), Bool.false_and, Bool.or_false]))
theorem rj_rnd {nb ns : Nat} {rf : Nat → Nat → Bool} {dif lk : Nat → Nat → Nat} {b s : Nat} (hb : b < nb) : rj rf (fun c => nst rf dif c ns) lk nb nb b s = rnd nb ns rf dif lk b s := by
  unfold rj rnd
  rw [decide_eq_true hb, Bool.true_and]
theorem xt_std (h12 : Lay12 E S o) {post : Option Value → ST → IT → LT → Prop} (hp : post none S I L) : V E kX12_laySteady (rmOf 8 0 0) (QM E post 0 0) 0 0 S I L 6 [(0, .ref o), (1, .int (b2i false))] [] := by
  refine V_iload_n (pc := 6) dX12_laySteady_6 rfl ?_
  refine V_if_eqB (pc := 7) (tgt := 97) dX12_laySteady_7 (by decide) (fun c7 => ?_) (fun n7 => absurd n7 (by decide))
  refine V_vret (pc := 97) dX12_laySteady_97 rfl (by first | decide | omega) (by first | decide | omega) ?_
  exact hp
theorem lp_std (h12 : Lay12 E S o) {q : Nat → Nat} {may : Nat → Nat → Bool} {dif lk : Nat → Nat → Nat} {post : Option Value → ST → IT → LT → Prop} (hr : RowM I (o + 2) q) (hq : wq q) (hd : ∀ b s, s < 6 → dif b s ≤ 60) (hl : ∀ b s, lk b s ≤ 99) (hp : ∀ I' M, (∀ a, a ≠ o + 24 → a ≠ o + 25 → I' a = I a) → BestM (q 0) (q 1) may dif lk M → (∀ b, b < q 0 → I' (o + 24) b = pred1 (M b)) → post none S I' L) : ∀ (m : Nat) (rf : Nat → Nat → Bool) (I' : IT), mz (q 0) (q 1) rf < m → (∀ a, a ≠ o + 24 → a ≠ o + 25 → I' a = I a) → NrM I' o (q 0) (q 1) may rf dif lk → Rinv (q 0) (q 1) may rf dif lk → V E kX12_laySteady (rmOf 8 0 0) (QM E post 0 0) 0 0 S I' L 6 [(0, .ref o), (1, .int (nI 1))] [] := by
  intro m
  induction m with
  | zero => intro rf I' hm; omega
  | succ m ih =>
    intro rf I' hm ha hN hI
    have hr' := hr.cg (ha (o + 2) (by omega) (by omega))
    refine V_iload_n (pc := 6) dX12_laySteady_6 rfl ?_
    refine V_if_eqN (pc := 7) (tgt := 97) dX12_laySteady_7 (by decide) (by omega) (fun c7 => absurd c7 (by omega)) (fun n7 => ?_)
    refine V_iconst (pc := 10) (v := nI 0) dX12_laySteady_10 (by decide) ?_
    refine V_istore_n (pc := 11) (ls' := [(0, _), (1, _)]) dX12_laySteady_11 (by decide) rfl ?_
    refine V_iconst (pc := 12) (v := nI 0) dX12_laySteady_12 (by decide) ?_
    refine V_istore_n (pc := 13) (ls' := [(0, _), (1, _), (2, _)]) dX12_laySteady_13 (by decide) rfl ?_
    refine lp_sd1 h12 hr' hq hN hI.1 hd (fun I1 a1 b1 => ?_)
    have hN1 : NrM I1 o (q 0) (q 1) may rf dif lk := hN.cg (a1 _ (by omega)) (a1 _ (by omega)) (fun b s hb hs => by rw [a1 _ (by omega)]; exact (hN b s hb hs).2.2)
    refine V_iconst (pc := 41) (v := nI 0) dX12_laySteady_41 (by decide) ?_
    refine V_istore_n (pc := 42) (ls' := [(0, _), (1, _), (2, _)]) dX12_laySteady_42 (by decide) rfl ?_
    refine lp_sd2 (M := fun b => nst rf dif b (q 1)) h12 (hr'.cg (a1 _ (by omega))) hq hN1 (fun b hb => ⟨b1 b hb, nst_le _ _ _ _⟩) hl (fun I2 a2 n2 => ?_)
    have n3 : NrM I2 o (q 0) (q 1) may (rnd (q 0) (q 1) rf dif lk) dif lk := n2.cg rfl rfl (fun b s hb hs => by rw [(n2 b s hb hs).2.2, rj_rnd hb])
    have a3 : ∀ a, a ≠ o + 24 → a ≠ o + 25 → I2 a = I a := fun a h1 h2 => by rw [a2 a h2, a1 a h1]; exact ha a h1 h2
    refine V_goto (pc := 94) (tgt := 6) dX12_laySteady_94 (by decide) ?_
    refine V_loc [0, 1] rfl ?_
    cases hg : gz (fun b => nst rf dif b (q 1)) lk (q 0) (q 0) with
    | true =>
      obtain ⟨b, s, g1, g2, g3⟩ := gz_t hg
      refine ih _ I2 (Nat.lt_of_lt_of_le (mz_lt (rf := rf) (rf' := rnd (q 0) (q 1) rf dif lk) (s := s) g1 ?_ ?_ ?_ (fun c t _ _ h => ?_)) (by omega)) a3 n3 hI.round
      · rcases nst_ok rf dif b (q 1) with ⟨n1, _⟩ | ⟨t, t1, t2, t3, _⟩
        · have g2' : nst rf dif b (q 1) = s + 1 := g2; omega
        · have g2' : nst rf dif b (q 1) = s + 1 := g2; omega
      · rcases nst_ok rf dif b (q 1) with ⟨n1, _⟩ | ⟨t, t1, t2, t3, _⟩
        · have g2' : nst rf dif b (q 1) = s + 1 := g2; omega
        · have g2' : nst rf dif b (q 1) = s + 1 := g2
          have e : t = s := by omega
          subst e; exact t3
      · show (rf b s || decide (nst rf dif b (q 1) = s + 1 ∧ kpt (fun c => nst rf dif c (q 1)) lk s (q 0) ≠ b + 1)) = true
        rw [decide_eq_true (⟨g2, g3⟩ : nst rf dif b (q 1) = s + 1 ∧ _), Bool.or_true]
      · show (rf c t || _) = true
        rw [h, Bool.true_or]
    | false =>
      have hb := hI.done (fun b s hb hs => gz_f hg b hb s hs)
      exact xt_std h12 (hp I2 _ a3 hb (fun b hb => by rw [a2 _ (by omega)]; exact b1 b hb))
    skip
end MJ2
