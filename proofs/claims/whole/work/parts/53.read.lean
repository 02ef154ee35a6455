/-! THE REFERENCE reads: parts, tests, what stands behind them -/
theorem l2iN {a : Int} (h0 : 0 ≤ a) : (i64 a).toInt32 = nI a.toNat := by
  unfold i64
  rw [Int64.toInt32_ofInt]
  obtain ⟨k, rfl⟩ := Int.eq_ofNat_of_zero_le h0
  rw [Int.toNat_natCast]
  exact Int32.ofInt_eq_ofNat
theorem nI_ex (v : Int32) : ∃ m, v = nI m := by
  refine ⟨v.toInt.toNat + (if v.toInt < 0 then (v.toInt + 4294967296).toNat else 0), ?_⟩
  apply Int32.toInt_inj.mp
  unfold nI
  have h1 := Int32.toInt_lt v
  have h2 := Int32.le_toInt v
  rw [← Int32.ofInt_eq_ofNat, Int32.toInt_ofInt]
  rw [show Int32.size = 4294967296 from rfl]
  by_cases h : v.toInt < 0
  · rw [if_pos h]
    have e : ((v.toInt.toNat + (v.toInt + 4294967296).toNat : Nat) : Int) = v.toInt + 4294967296 := by omega
    rw [e, show (v.toInt + 4294967296).bmod 4294967296 = v.toInt.bmod 4294967296 from Int.add_bmod_right _ _]
    exact (Int.bmod_eq_of_le (by omega) (by omega)).symm
  · rw [if_neg h]
    have e : ((v.toInt.toNat + 0 : Nat) : Int) = v.toInt := by omega
    rw [e]
    exact (Int.bmod_eq_of_le (by omega) (by omega)).symm
theorem wth_dig {t : Nat → Nat} {n p : Nat} (h : srt t n p = 2) : 0 ≤ wth t n p ∧ wth t n p ≤ 10000009 := by
  have e : enT t n p = run1 (fun j => isD (t j)) (n - p) p := by rw [enT, h]; rfl
  rw [wth, h]
  show 0 ≤ dgv t p (enT t n p - p) ∧ dgv t p (enT t n p - p) ≤ 10000009
  refine dgv_sml _ fun j hj => ?_
  exact run1_in (fun j => isD (t j)) (n - p) p (p + j) (by omega) (by rw [← e]; omega)
theorem nm_rng {t : Nat → Nat} {n p lo hi : Nat} (h : srt t n p = 2) (hh : hi ≤ 1000) : (lo ≤ nm t n p ∧ nm t n p ≤ hi) ↔ ((lo : Int) ≤ wth t n p ∧ wth t n p ≤ (hi : Int)) := by
  have := wth_dig h
  unfold nm
  omega
theorem nm_wth {t : Nat → Nat} {n p hi : Nat} (hh : hi ≤ 1000) (h2 : nm t n p ≤ hi) : (wth t n p).toNat = nm t n p := by
  unfold nm at h2 ⊢
  omega
theorem nI_nneg1 {v : Nat} (h : v < 2 ^ 31) : ¬ nI v = -1 := fun z => by
  have := (pred1_some (w := 0) (s := v) (by omega) h).mp (by rw [pred1_0]; exact z.symm)
  omega
section PC
variable {E : EnT} {S : ST} {I I0 : IT} {L L0 : LT} {o n p l d : Nat} {t : Nat → Nat} {P : List (Nat × Nat)} {c : CT} {b : Option Nat}
theorem c_X12_inD {w : Int} {lo hi : Nat} (h : 0 ≤ w ∧ w ≤ 10000009) (hlo : lo ≤ 1000) (hhi : hi ≤ 1000) : Cd E kX12_in 0 0 0 [.long (i64 w), .long (lN lo), .long (lN hi)] S I L (.int (b2i (decide ((lo : Int) ≤ w ∧ w ≤ (hi : Int))))) S I L := by
  have e : decide (lN lo ≤ i64 w ∧ i64 w ≤ lN hi) = decide ((lo : Int) ≤ w ∧ w ≤ (hi : Int)) := by
    apply decide_eq_decide.mpr
    rw [i64_lN, i64_lN, i64_le ⟨by omega, by omega⟩ ⟨by omega, by omega⟩, i64_le ⟨by omega, by omega⟩ ⟨by omega, by omega⟩]
  rw [← e]
  exact c_X12_in
theorem c_X12_number (h12 : Lay12 E S o) {lo hi : Nat} {s : PT} (h : PS o t n I0 L0 I L none s) (hlo : lo ≤ 1000) (hhi : hi ≤ 1000) : C E kX12_number 3 0 0 [.ref o, .long (lN lo), .long (lN hi)] S I L (fun r S' I' L' => ∃ v, r = some (.int v) ∧ S = S' ∧ ((tc t n s.1 = 91 ∧ lo ≤ nm t n s.1 ∧ nm t n s.1 ≤ hi) → v = nI (nm t n s.1) ∧ PS o t n I0 L0 I' L' none (nxt t n s.1, s.2)) ∧ (¬ (tc t n s.1 = 91 ∧ lo ≤ nm t n s.1 ∧ nm t n s.1 ≤ hi) → PS o t n I0 L0 I' L' (some s.1) s)) := by
  have h16 := h.1.2.2.2.2.1
  have h17 := h.1.2.2.2.2.2
  have hs := srt_le t n s.1
  have ho := h12.o
  refine C_of (by decide) (Nat.le_of_ble_eq_true rfl) ?_
  have go : ∀ (q : Bool) (v : Int32), (q = decide (tc t n s.1 = 91 ∧ lo ≤ nm t n s.1 ∧ nm t n s.1 ≤ hi)) → ((tc t n s.1 = 91 ∧ lo ≤ nm t n s.1 ∧ nm t n s.1 ≤ hi) → v = nI (nm t n s.1)) → V E kX12_number (rmOf 3 0 0) (QM E (fun r S' I' L' => ∃ v, r = some (.int v) ∧ S = S' ∧ ((tc t n s.1 = 91 ∧ lo ≤ nm t n s.1 ∧ nm t n s.1 ≤ hi) → v = nI (nm t n s.1) ∧ PS o t n I0 L0 I' L' none (nxt t n s.1, s.2)) ∧ (¬ (tc t n s.1 = 91 ∧ lo ≤ nm t n s.1 ∧ nm t n s.1 ≤ hi) → PS o t n I0 L0 I' L' (some s.1) s)) 0 0) 0 0 S I L 33 [(0, .ref o), (1, .long (lN lo)), (3, .long (lN hi)), (5, .int v)] [.int (b2i q), .ref o] := by
    intro q v hq hv
    refine V_callV (pc := 33) (ci := 12) (c_X12_must h12 h) dX12_number_33 mlX12_308 mkX12_must rfl rfl (by assumption) ⟨by decide, rfl⟩ ⟨Nat.le_of_ble_eq_true rfl, Nat.le_of_ble_eq_true rfl⟩ (Nat.le_of_ble_eq_true rfl) ⟨Nat.le_of_ble_eq_true rfl, Nat.le_of_ble_eq_true rfl⟩ (fun r S' I' L' hp => ?_)
    obtain ⟨rfl, rfl, hP, hB⟩ := hp
    refine V_iload (pc := 36) dX12_number_36 rfl ?_
    refine V_iret (pc := 38) dX12_number_38 rfl (by first | decide | omega) (by first | decide | omega) ?_
    refine ⟨v, rfl, rfl, (fun z => ⟨hv z, hP (by rw [hq]; exact decide_eq_true z)⟩), fun z => hB (by rw [hq]; exact decide_eq_false z)⟩
  refine V_aload_n (pc := 0) dX12_number_0 rfl ?_
  refine V_getLE (pc := 1) 12 17 dX12_number_1 flX12_285 (by decide) h12.o (h17) ?_
  refine V_l2i (pc := 4) dX12_number_4 rfl ?_
  refine V_istore (pc := 5) (ls' := [(0, _), (1, _), (3, _), (5, _)]) dX12_number_5 (by decide) rfl ?_
  refine V_aload_n (pc := 7) dX12_number_7 rfl ?_
  refine V_aload_n (pc := 8) dX12_number_8 rfl ?_
  refine V_getIE (pc := 9) 12 16 dX12_number_9 flX12_295 (by decide) h12.o (h16) ?_
  refine V_iconst (pc := 12) (v := nI 2) dX12_number_12 (by decide) ?_
  refine V_icmp_neN (pc := 13) (tgt := 32) dX12_number_13 (by decide) (by omega) (by omega) (fun c13 => ?_) (fun n13 => ?_)
  · skip
    refine V_iconst (pc := 32) (v := nI 0) dX12_number_32 (by decide) ?_
    first
      | exact go false _ (decide_eq_false fun z => by have := tc_n.mp z.1; omega).symm (fun z => by have := tc_n.mp z.1; omega)
      | exact go false _ (decide_eq_false fun z => (of_decide_eq_false c25) ((nm_rng (by omega) hhi).mp z.2)).symm (fun z => absurd ((nm_rng (by omega) hhi).mp z.2) (of_decide_eq_false c25))
      | exact go true _ (decide_eq_true ⟨tc_n.mpr (by omega), (nm_rng (by omega) hhi).mpr (of_decide_eq_true n25)⟩).symm (fun z => by rw [l2iN (wth_dig (by omega)).1, nm_wth hhi z.2.2])
  · skip
    refine V_aload_n (pc := 16) dX12_number_16 rfl ?_
    refine V_getLE (pc := 17) 12 17 dX12_number_17 flX12_285 (by decide) h12.o (h17) ?_
    refine V_lload_n (pc := 20) dX12_number_20 rfl ?_
    refine V_lload_n (pc := 21) dX12_number_21 rfl ?_
    refine V_callSd (pc := 22) (c_X12_inD (wth_dig (by omega)) hlo hhi) dX12_number_22 mlX12_195 mkX12_in rfl rfl ⟨Nat.le_of_ble_eq_true rfl, Nat.le_of_ble_eq_true rfl⟩ (Nat.le_of_ble_eq_true rfl) ⟨Nat.le_of_ble_eq_true rfl, Nat.le_of_ble_eq_true rfl⟩ ?_
    refine V_if_eqB (pc := 25) (tgt := 32) dX12_number_25 (by decide) (fun c25 => ?_) (fun n25 => ?_)
    · skip
      refine V_iconst (pc := 32) (v := nI 0) dX12_number_32 (by decide) ?_
      first
        | exact go false _ (decide_eq_false fun z => by have := tc_n.mp z.1; omega).symm (fun z => by have := tc_n.mp z.1; omega)
        | exact go false _ (decide_eq_false fun z => (of_decide_eq_false c25) ((nm_rng (by omega) hhi).mp z.2)).symm (fun z => absurd ((nm_rng (by omega) hhi).mp z.2) (of_decide_eq_false c25))
        | exact go true _ (decide_eq_true ⟨tc_n.mpr (by omega), (nm_rng (by omega) hhi).mpr (of_decide_eq_true n25)⟩).symm (fun z => by rw [l2iN (wth_dig (by omega)).1, nm_wth hhi z.2.2])
    · skip
      refine V_iconst (pc := 28) (v := nI 1) dX12_number_28 (by decide) ?_
      refine V_goto (pc := 29) (tgt := 33) dX12_number_29 (by decide) ?_
      first
        | exact go false _ (decide_eq_false fun z => by have := tc_n.mp z.1; omega).symm (fun z => by have := tc_n.mp z.1; omega)
        | exact go false _ (decide_eq_false fun z => (of_decide_eq_false c25) ((nm_rng (by omega) hhi).mp z.2)).symm (fun z => absurd ((nm_rng (by omega) hhi).mp z.2) (of_decide_eq_false c25))
        | exact go true _ (decide_eq_true ⟨tc_n.mpr (by omega), (nm_rng (by omega) hhi).mpr (of_decide_eq_true n25)⟩).symm (fun z => by rw [l2iN (wth_dig (by omega)).1, nm_wth hhi z.2.2])
/-- the operation of a part that is a word -/
def lfx (od : Bool) (k : Nat) : Nat := if od = true then itk ow k 6 else itk (fun k => 16 + k) k 9
theorem lfx_le (od : Bool) (k : Nat) : lfx od k ≤ 9 := by
  unfold lfx
  have h1 := itk_le ow k 6
  have h2 := itk_le (fun k => 16 + k) k 9
  split <;> omega
theorem c_X12_readPart_sq (h12 : Lay12 E S o) (h : PS o t n I0 L0 I L none (p, l, d, P, c)) (ht : tc t n p = 191) (hd : d ≤ 8) (hl : P.length < 400) : C E kX12_readPart 4 0 0 [.ref o] S I L (fun r S' I' L' => r = some (.int (nI 1)) ∧ S = S' ∧ (d < 8 → PS o t n I0 L0 I' L' none (nxt t n p, l, d + 1, (32, 0) :: P, c)) ∧ (¬ d < 8 → PS o t n I0 L0 I' L' (some p) (p, l, d, P, c))) := by
  refine C_of (by decide) (Nat.le_of_ble_eq_true rfl) ?_
  refine V_aload_n (pc := 0) dX12_readPart_0 rfl ?_
  refine V_bipush (pc := 1) (v := nI 91) dX12_readPart_1 (by decide) ?_
  refine V_callVd (pc := 3) (ci := 12) (c_X12_isSign h12 h.1 (by omega)) dX12_readPart_3 mlX12_344 mkX12_isSign rfl rfl h12.o ⟨by decide, rfl⟩ ⟨Nat.le_of_ble_eq_true rfl, Nat.le_of_ble_eq_true rfl⟩ (Nat.le_of_ble_eq_true rfl) ⟨Nat.le_of_ble_eq_true rfl, Nat.le_of_ble_eq_true rfl⟩ ?_
  refine V_if_eqB (pc := 6) (tgt := 17) dX12_readPart_6 (by decide) (fun c6 => absurd c6 (by rw [decide_eq_true (show tc t n (p, l, d, P, c).1 = 100 + 91 from ht)]; decide)) (fun n6 => ?_)
  refine V_aload_n (pc := 9) dX12_readPart_9 rfl ?_
  refine V_bipush (pc := 10) (v := nI 32) dX12_readPart_10 (by decide) ?_
  refine V_callV (pc := 12) (ci := 12) (c_X12_openBracket h12 h hd hl) dX12_readPart_12 mlX12_347 mkX12_openBracket rfl rfl h12.o ⟨by decide, rfl⟩ ⟨Nat.le_of_ble_eq_true rfl, Nat.le_of_ble_eq_true rfl⟩ (Nat.le_of_ble_eq_true rfl) ⟨Nat.le_of_ble_eq_true rfl, Nat.le_of_ble_eq_true rfl⟩ (fun r S' I' L' hp => ?_)
  obtain ⟨rfl, rfl, h1, h2⟩ := hp
  refine V_iconst (pc := 15) (v := nI 1) dX12_readPart_15 (by decide) ?_
  refine V_iret (pc := 16) dX12_readPart_16 rfl (by first | decide | omega) (by first | decide | omega) ?_
  exact ⟨rfl, rfl, h1, h2⟩
theorem c_X12_readPart_lf (h12 : Lay12 E S o) {od : Bool} (h : PS o t n I0 L0 I L none (p, l, d, P, c)) (hod : I0 o 20 = b2i od) (hK : KL L0 o) (ht : tc t n p ≠ 191) (hl : l ≤ 50) (hn : tc t n p ≠ 92 → c.2.2 < 400) :
    C E kX12_readPart 4 0 0 [.ref o] S I L (fun r S' I' L' => r = some (.int (nI 3)) ∧ S = S' ∧
      (¬ ((lfx od (tc t n p) ≠ 0 ∨ (tc t n p = 91 ∧ nm t n p ≤ 1000)) ∧ l < 50) → PS o t n I0 L0 I' L' (some p) (p, l, d, P, c)) ∧
      (((lfx od (tc t n p) ≠ 0 ∨ (tc t n p = 91 ∧ nm t n p ≤ 1000)) ∧ l < 50) → ¬ (od = true ∧ 5 ≤ lfx od (tc t n p)) → PS o t n I0 L0 I' L' none (nxt t n p, l + 1, d, P, (setq c.1 c.2.2 (lfx od (tc t n p)), setq c.2.1 c.2.2 (if tc t n p = 91 ∧ nm t n p ≤ 1000 then nm t n p else 0), c.2.2 + 1))) ∧
      (l < 50 → (od = true ∧ 5 ≤ lfx od (tc t n p)) → (tc t n (nxt t n p) = 91 ∧ nm t n (nxt t n p) ≤ 5) → PS o t n I0 L0 I' L' none (nxt t n (nxt t n p), l + 1, d, P, (setq c.1 c.2.2 (lfx od (tc t n p)), setq (setq c.2.1 c.2.2 0) c.2.2 (nm t n (nxt t n p)), c.2.2 + 1))) ∧
      (l < 50 → (od = true ∧ 5 ≤ lfx od (tc t n p)) → ¬ (tc t n (nxt t n p) = 91 ∧ nm t n (nxt t n p) ≤ 5) → ∃ m, PS o t n I0 L0 I' L' (some (nxt t n p)) (nxt t n p, l + 1, d, P, (setq c.1 c.2.2 (lfx od (tc t n p)), setq (setq c.2.1 c.2.2 0) c.2.2 m, c.2.2 + 1)))) := by
  have h16 : I o 16 = nI (srt t n p) := h.1.2.2.2.2.1
  have h17 : L o 17 = i64 (wth t n p) := h.1.2.2.2.2.2
  have hs := srt_le t n p
  have ho := h12.o
  have hKL : KL L o := by
    obtain ⟨k1, k2, k3, k4, k5⟩ := hK
    have e := h.2.2.2.2.2.2.2.2.2.2.1
    unfold KL
    rw [e _ (by omega), e _ (by omega), e _ (by omega), e _ (by omega), e _ (by omega)]
    exact ⟨k1, k2, k3, k4, k5⟩
  have h20 : I o 20 = b2i od := (h.2.2.2.2.2.2.2.2.2.1 20 (by omega)).trans hod
  have h9 := lfx_le od (tc t n p)
  generalize hpost : (fun (r : Option Value) (S' : ST) (I' : IT) (L' : LT) => r = some (.int (nI 3)) ∧ S = S' ∧
      (¬ ((lfx od (tc t n p) ≠ 0 ∨ (tc t n p = 91 ∧ nm t n p ≤ 1000)) ∧ l < 50) → PS o t n I0 L0 I' L' (some p) (p, l, d, P, c)) ∧
      (((lfx od (tc t n p) ≠ 0 ∨ (tc t n p = 91 ∧ nm t n p ≤ 1000)) ∧ l < 50) → ¬ (od = true ∧ 5 ≤ lfx od (tc t n p)) → PS o t n I0 L0 I' L' none (nxt t n p, l + 1, d, P, (setq c.1 c.2.2 (lfx od (tc t n p)), setq c.2.1 c.2.2 (if tc t n p = 91 ∧ nm t n p ≤ 1000 then nm t n p else 0), c.2.2 + 1))) ∧
      (l < 50 → (od = true ∧ 5 ≤ lfx od (tc t n p)) → (tc t n (nxt t n p) = 91 ∧ nm t n (nxt t n p) ≤ 5) → PS o t n I0 L0 I' L' none (nxt t n (nxt t n p), l + 1, d, P, (setq c.1 c.2.2 (lfx od (tc t n p)), setq (setq c.2.1 c.2.2 0) c.2.2 (nm t n (nxt t n p)), c.2.2 + 1))) ∧
      (l < 50 → (od = true ∧ 5 ≤ lfx od (tc t n p)) → ¬ (tc t n (nxt t n p) = 91 ∧ nm t n (nxt t n p) ≤ 5) → ∃ m, PS o t n I0 L0 I' L' (some (nxt t n p)) (nxt t n p, l + 1, d, P, (setq c.1 c.2.2 (lfx od (tc t n p)), setq (setq c.2.1 c.2.2 0) c.2.2 m, c.2.2 + 1)))) = post
  have endb : ∀ (I1 : IT) (L1 : LT) (v : Nat) (dg : Bool), v ≤ 9 → I1 o 20 = b2i od → (¬ (od = true ∧ 5 ≤ v) ∨ I1 o 19 = b2i true) → post (some (.int (nI 3))) S I1 L1 → V E kX12_readPart (rmOf 4 0 0) (QM E post 0 0) 0 0 S I1 L1 102 [(0, .ref o), (1, .int (itI v)), (2, .int (b2i dg))] [] := by
    intro I1 L1 v dg hv9 g20 hcase hp
    cases od with
    | false =>
      refine V_aload_n (pc := 102) dX12_readPart_102 rfl ?_
      refine V_getIE (pc := 103) 12 20 dX12_readPart_103 flX12_350 (by decide) h12.o (g20) ?_
      refine V_if_eqB (pc := 106) (tgt := 142) dX12_readPart_106 (by decide) (fun c106 => ?_) (fun n106 => absurd n106 (by decide))
      refine V_iconst (pc := 142) (v := nI 3) dX12_readPart_142 (by decide) ?_
      refine V_iret (pc := 143) dX12_readPart_143 rfl (by first | decide | omega) (by first | decide | omega) ?_
      exact hp
    | true =>
      by_cases hv0 : v = 0
      · rw [show itI v = -1 from by unfold itI; rw [if_pos hv0]]
        refine V_aload_n (pc := 102) dX12_readPart_102 rfl ?_
        refine V_getIE (pc := 103) 12 20 dX12_readPart_103 flX12_350 (by decide) h12.o (g20) ?_
        refine V_if_eqB (pc := 106) (tgt := 142) dX12_readPart_106 (by decide) (fun c106 => absurd c106 (by decide)) (fun n106 => ?_)
        refine V_iload_n (pc := 109) dX12_readPart_109 rfl ?_
        refine V_iconst (pc := 110) (v := nI 5) dX12_readPart_110 (by decide) ?_
        refine V_icmp_lt (pc := 111) (tgt := 142) dX12_readPart_111 (by decide) (fun c111 => ?_) (fun n111 => absurd n111 (by decide))
        refine V_iconst (pc := 142) (v := nI 3) dX12_readPart_142 (by decide) ?_
        refine V_iret (pc := 143) dX12_readPart_143 rfl (by first | decide | omega) (by first | decide | omega) ?_
        exact hp
      · rw [show itI v = nI v from by unfold itI; rw [if_neg hv0]]
        by_cases h5 : 5 ≤ v
        · have g19 : I1 o 19 = b2i true := hcase.resolve_left (fun z => z ⟨rfl, h5⟩)
          refine V_aload_n (pc := 102) dX12_readPart_102 rfl ?_
          refine V_getIE (pc := 103) 12 20 dX12_readPart_103 flX12_350 (by decide) h12.o (g20) ?_
          refine V_if_eqB (pc := 106) (tgt := 142) dX12_readPart_106 (by decide) (fun c106 => absurd c106 (by decide)) (fun n106 => ?_)
          refine V_iload_n (pc := 109) dX12_readPart_109 rfl ?_
          refine V_iconst (pc := 110) (v := nI 5) dX12_readPart_110 (by decide) ?_
          refine V_icmp_ltN (pc := 111) (tgt := 142) dX12_readPart_111 (by decide) (by omega) (by omega) (fun c111 => absurd c111 (by omega)) (fun n111 => ?_)
          refine V_aload_n (pc := 114) dX12_readPart_114 rfl ?_
          refine V_getIE (pc := 115) 12 19 dX12_readPart_115 flX12_275 (by decide) h12.o (g19) ?_
          refine V_if_neB (pc := 118) (tgt := 142) dX12_readPart_118 (by decide) (fun c118 => ?_) (fun n118 => absurd n118 (by decide))
          refine V_iconst (pc := 142) (v := nI 3) dX12_readPart_142 (by decide) ?_
          refine V_iret (pc := 143) dX12_readPart_143 rfl (by first | decide | omega) (by first | decide | omega) ?_
          exact hp
        · skip
          refine V_aload_n (pc := 102) dX12_readPart_102 rfl ?_
          refine V_getIE (pc := 103) 12 20 dX12_readPart_103 flX12_350 (by decide) h12.o (g20) ?_
          refine V_if_eqB (pc := 106) (tgt := 142) dX12_readPart_106 (by decide) (fun c106 => absurd c106 (by decide)) (fun n106 => ?_)
          refine V_iload_n (pc := 109) dX12_readPart_109 rfl ?_
          refine V_iconst (pc := 110) (v := nI 5) dX12_readPart_110 (by decide) ?_
          refine V_icmp_ltN (pc := 111) (tgt := 142) dX12_readPart_111 (by decide) (by omega) (by omega) (fun c111 => ?_) (fun n111 => absurd n111 (by omega))
          refine V_iconst (pc := 142) (v := nI 3) dX12_readPart_142 (by decide) ?_
          refine V_iret (pc := 143) dX12_readPart_143 rfl (by first | decide | omega) (by first | decide | omega) ?_
          exact hp
  -- behind the leaf
  have end1 : ∀ (v : Nat) (dg q : Bool) (y : Nat), v = lfx od (tc t n p) → q = decide (v ≠ 0 ∨ (tc t n p = 91 ∧ nm t n p ≤ 1000)) → dg = decide (tc t n p = 91 ∧ nm t n p ≤ 1000) → y = (if tc t n p = 91 ∧ nm t n p ≤ 1000 then nm t n p else 0) → V E kX12_readPart (rmOf 4 0 0) (QM E post 0 0) 0 0 S I L 99 [(0, .ref o), (1, .int (itI v)), (2, .int (b2i dg))] [.int (nI y), .int (nI v), .int (b2i q), .ref o] := by
    intro v dg q y hv hq hdg hy
    have hod5 : (od = true ∧ 5 ≤ v) → y = 0 := fun z => by
      rw [hy]
      rw [if_neg]
      intro z2
      have : lfx od (tc t n p) = 0 := by rw [z2.1, z.1]; rfl
      omega
    have hn2 : q = true → c.2.2 < 400 := fun z => hn (fun y => by
      rw [hq] at z
      rcases of_decide_eq_true z with z1 | z1
      · exact z1 (by rw [hv, y]; unfold lfx; split <;> rfl)
      · omega)
    refine V_callV (pc := 99) (ci := 12) (c_X12_leaf h12 h hl hn2) dX12_readPart_99 mlX12_362 mkX12_leaf rfl rfl (by assumption) ⟨by decide, rfl⟩ ⟨Nat.le_of_ble_eq_true rfl, Nat.le_of_ble_eq_true rfl⟩ (Nat.le_of_ble_eq_true rfl) ⟨Nat.le_of_ble_eq_true rfl, Nat.le_of_ble_eq_true rfl⟩ (fun r S' I' L' hp => ?_)
    obtain ⟨rfl, rfl, hok, hbad⟩ := hp
    by_cases hall : (v ≠ 0 ∨ (tc t n p = 91 ∧ nm t n p ≤ 1000)) ∧ l < 50
    skip
    · have hP := hok ⟨by rw [hq]; exact decide_eq_true hall.1, hall.2⟩
      by_cases h5 : od = true ∧ 5 ≤ v
      · have ev : itI v = nI v := by unfold itI; rw [if_neg (by omega)]
        rw [ev]
        have hy0 := hod5 h5
        subst hy0
        refine V_aload_n (pc := 102) dX12_readPart_102 rfl ?_
        refine V_getIE (pc := 103) 12 20 dX12_readPart_103 flX12_350 (by decide) h12.o ((hP.2.2.2.2.2.2.2.2.2.1 20 (by omega)).trans hod) ?_
        refine V_if_eqB (pc := 106) (tgt := 142) dX12_readPart_106 (by decide) (fun c106 => absurd c106 (by rw [h5.1]; decide)) (fun n106 => ?_)
        refine V_iload_n (pc := 109) dX12_readPart_109 rfl ?_
        refine V_iconst (pc := 110) (v := nI 5) dX12_readPart_110 (by decide) ?_
        refine V_icmp_ltN (pc := 111) (tgt := 142) dX12_readPart_111 (by decide) (by omega) (by omega) (fun c111 => absurd c111 (by omega)) (fun n111 => ?_)
        refine V_aload_n (pc := 114) dX12_readPart_114 rfl ?_
        refine V_getIE (pc := 115) 12 19 dX12_readPart_115 flX12_275 (by decide) h12.o (hP.2.2.2.2.2.2.1) ?_
        refine V_if_neB (pc := 118) (tgt := 142) dX12_readPart_118 (by decide) (fun c118 => absurd c118 (by simp)) (fun n118 => ?_)
        have hn3 : c.2.2 < 400 := hn (fun y => by rw [hv, y] at h5; have := h5.2; unfold lfx at this; split at this <;> exact absurd this (by decide))
        refine V_aload_n (pc := 121) dX12_readPart_121 rfl ?_
        refine V_getIE (pc := 122) 12 23 dX12_readPart_122 flX12_312 (by decide) h12.o ((show I' o 23 = nI (c.2.2 + 1) from hP.2.2.2.2.2.1.1)) ?_
        refine V_iconst (pc := 125) (v := nI 1) dX12_readPart_125 (by decide) ?_
        refine V_isubN (pc := 126) dX12_readPart_126 (by omega) ?_
        refine V_istore_n (pc := 127) (ls' := [(0, _), (1, _), (2, _), (3, _)]) dX12_readPart_127 (by decide) rfl ?_
        refine V_aload_n (pc := 128) dX12_readPart_128 rfl ?_
        refine V_getR (pc := 129) 12 25 dX12_readPart_129 flX12_48 (by decide) h12.o h12.R25 ?_
        refine V_iload_n (pc := 132) dX12_readPart_132 rfl ?_
        refine V_aload_n (pc := 133) dX12_readPart_133 rfl ?_
        refine V_lconst (pc := 134) (v := lN 0) dX12_readPart_134 (by decide) ?_
        refine V_ldc2 (pc := 135) dX12_readPart_135 coX12_366 ?_
        refine V_callV (pc := 138) (ci := 12) (c_X12_number (lo := 0) (hi := 5) h12 hP (by omega) (by omega)) dX12_readPart_138 mlX12_368 mkX12_number rfl rfl h12.o ⟨by decide, rfl⟩ ⟨Nat.le_of_ble_eq_true rfl, Nat.le_of_ble_eq_true rfl⟩ (Nat.le_of_ble_eq_true rfl) ⟨Nat.le_of_ble_eq_true rfl, Nat.le_of_ble_eq_true rfl⟩ (fun r S' I' L' hp => ?_)
        obtain ⟨v2, rfl, rfl, hn1, hn2⟩ := hp
        by_cases hnum : tc t n (nxt t n p) = 91 ∧ nm t n (nxt t n p) ≤ 5
        skip
        · obtain ⟨rfl, hP2⟩ := hn1 ⟨hnum.1, Nat.zero_le _, hnum.2⟩
          refine V_iastore (pc := 141) dX12_readPart_141 h12.A25 (by first | decide | omega) (by omega) ?_
          refine V_iconst (pc := 142) (v := nI 3) dX12_readPart_142 (by decide) ?_
          refine V_iret (pc := 143) dX12_readPart_143 rfl (by first | decide | omega) (by first | decide | omega) ?_
          subst hpost
          refine ⟨rfl, rfl, (fun z => absurd (hv ▸ hall) z), (fun _ z => absurd (hv ▸ h5) z), (fun _ _ _ => ?_), (fun _ _ z => absurd hnum z)⟩
          rw [← hv]; exact hP2.patch
        · have hP2 := hn2 (fun z => hnum ⟨z.1, z.2.2⟩)
          obtain ⟨m, rfl⟩ := nI_ex v2
          refine V_iastore (pc := 141) dX12_readPart_141 h12.A25 (by first | decide | omega) (by omega) ?_
          refine V_iconst (pc := 142) (v := nI 3) dX12_readPart_142 (by decide) ?_
          refine V_iret (pc := 143) dX12_readPart_143 rfl (by first | decide | omega) (by first | decide | omega) ?_
          subst hpost
          refine ⟨rfl, rfl, (fun z => absurd (hv ▸ hall) z), (fun _ z => absurd (hv ▸ h5) z), (fun _ _ z => absurd z hnum), (fun _ _ _ => ⟨m, ?_⟩)⟩
          rw [← hv]; exact hP2.patch
      · have fin : post (some (.int (nI 3))) S I' L' := by
          subst hpost
          refine ⟨rfl, rfl, (fun z => absurd (hv ▸ hall) z), (fun _ _ => ?_), (fun _ z => absurd (hv ▸ z) h5), (fun _ z => absurd (hv ▸ z) h5)⟩
          rw [← hv, ← hy]; exact hP
        exact endb _ _ v dg (by omega) ((hP.2.2.2.2.2.2.2.2.2.1 20 (by omega)).trans hod) (Or.inl h5) fin
    · have hP := hbad (fun z => hall ⟨by have := z.1; rw [hq] at this; exact of_decide_eq_true this, z.2⟩)
      have fin : post (some (.int (nI 3))) S I' L' := by
        subst hpost
        refine ⟨rfl, rfl, (fun _ => hP), (fun z _ => absurd (hv ▸ z) hall), (fun z1 z2 => absurd ⟨Or.inl (by have := hv ▸ z2.2; omega), z1⟩ hall), (fun z1 z2 => absurd ⟨Or.inl (by have := hv ▸ z2.2; omega), z1⟩ hall)⟩
      exact endb _ _ v dg (by omega) ((hP.2.2.2.2.2.2.2.2.2.1 20 (by omega)).trans hod) (Or.inr hP.2.2.2.2.2.2.1) fin
  have mid : ∀ v : Nat, v = lfx od (tc t n p) → V E kX12_readPart (rmOf 4 0 0) (QM E post 0 0) 0 0 S I L 36 [(0, .ref o), (1, .int (itI v))] [] := by
    intro v hv
    by_cases hv0 : v = 0
    · have e0 : itI v = -1 := by unfold itI; rw [if_pos hv0]
      have st := end1 v
      rw [e0] at st ⊢
      subst hv0
      by_cases hdg : tc t n p = 91 ∧ nm t n p ≤ 1000
      · have h2 := tc_n.mp hdg.1
        have hw := wth_dig h2
        have hcmp : ¬ (1000 : Int64) < i64 (wth t n p) := by
          rw [show (1000 : Int64) = i64 1000 from by decide, i64_lt ⟨by decide, by decide⟩ ⟨by omega, by omega⟩]
          have := (nm_rng (lo := 0) (hi := 1000) h2 (by omega)).mp ⟨by omega, hdg.2⟩
          omega
        refine V_aload_n (pc := 36) dX12_readPart_36 rfl ?_
        refine V_getIE (pc := 37) 12 16 dX12_readPart_37 flX12_295 (by decide) h12.o (h16) ?_
        refine V_iconst (pc := 40) (v := nI 2) dX12_readPart_40 (by decide) ?_
        refine V_icmp_neN (pc := 41) (tgt := 59) dX12_readPart_41 (by decide) (by omega) (by omega) (fun c41 => absurd c41 (by omega)) (fun n41 => ?_)
        refine V_aload_n (pc := 44) dX12_readPart_44 rfl ?_
        refine V_getLE (pc := 45) 12 17 dX12_readPart_45 flX12_285 (by decide) h12.o (h17) ?_
        refine V_ldc2 (pc := 48) dX12_readPart_48 coX12_360 ?_
        refine V_lcmp (pc := 51) dX12_readPart_51 ?_
        refine V_if_gt (pc := 52) (tgt := 59) dX12_readPart_52 (by decide) (fun c52 => absurd c52 (by exact fun z => hcmp ((lg_cmp_gt _ _).mp z))) (fun n52 => ?_)
        refine V_iconst (pc := 55) (v := nI 1) dX12_readPart_55 (by decide) ?_
        refine V_goto (pc := 56) (tgt := 60) dX12_readPart_56 (by decide) ?_
        refine V_istore_n (pc := 60) (ls' := [(0, _), (1, _), (2, _)]) dX12_readPart_60 (by decide) rfl ?_
        refine V_aload_n (pc := 61) dX12_readPart_61 rfl ?_
        refine V_iload_n (pc := 62) dX12_readPart_62 rfl ?_
        refine V_iconst (pc := 63) (v := (-1)) dX12_readPart_63 (by decide) ?_
        refine V_icmp_ne (pc := 64) (tgt := 71) dX12_readPart_64 (by decide) (fun c64 => absurd c64 (by decide)) (fun n64 => ?_)
        refine V_iload_n (pc := 67) dX12_readPart_67 rfl ?_
        refine V_if_eqN (pc := 68) (tgt := 75) dX12_readPart_68 (by decide) (by omega) (fun c68 => absurd c68 (by omega)) (fun n68 => ?_)
        refine V_iconst (pc := 71) (v := nI 1) dX12_readPart_71 (by decide) ?_
        refine V_goto (pc := 72) (tgt := 76) dX12_readPart_72 (by decide) ?_
        refine V_iload_n (pc := 76) dX12_readPart_76 rfl ?_
        refine V_iconst (pc := 77) (v := (-1)) dX12_readPart_77 (by decide) ?_
        refine V_icmp_ne (pc := 78) (tgt := 85) dX12_readPart_78 (by decide) (fun c78 => absurd c78 (by decide)) (fun n78 => ?_)
        refine V_iconst (pc := 81) (v := nI 0) dX12_readPart_81 (by decide) ?_
        refine V_goto (pc := 82) (tgt := 86) dX12_readPart_82 (by decide) ?_
        refine V_iload_n (pc := 86) dX12_readPart_86 rfl ?_
        refine V_if_eqN (pc := 87) (tgt := 98) dX12_readPart_87 (by decide) (by omega) (fun c87 => absurd c87 (by omega)) (fun n87 => ?_)
        refine V_aload_n (pc := 90) dX12_readPart_90 rfl ?_
        refine V_getLE (pc := 91) 12 17 dX12_readPart_91 flX12_285 (by decide) h12.o (h17) ?_
        refine V_l2i (pc := 94) dX12_readPart_94 rfl ?_
        refine V_goto (pc := 95) (tgt := 99) dX12_readPart_95 (by decide) ?_
        rw [l2iN hw.1, nm_wth (hi := 1000) (by omega) hdg.2]
        exact st true true _ hv (decide_eq_true (Or.inr hdg)).symm (decide_eq_true hdg).symm (by rw [if_pos hdg])
      · have hcmp : srt t n p = 2 → (1000 : Int64) < i64 (wth t n p) := fun h2 => by
          have hw := wth_dig h2
          rw [show (1000 : Int64) = i64 1000 from by decide, i64_lt ⟨by decide, by decide⟩ ⟨by omega, by omega⟩]
          exact Classical.byContradiction fun z => hdg ⟨tc_n.mpr h2, ((nm_rng (lo := 0) (hi := 1000) h2 (by omega)).mpr ⟨by omega, by omega⟩).2⟩
        refine V_aload_n (pc := 36) dX12_readPart_36 rfl ?_
        refine V_getIE (pc := 37) 12 16 dX12_readPart_37 flX12_295 (by decide) h12.o (h16) ?_
        refine V_iconst (pc := 40) (v := nI 2) dX12_readPart_40 (by decide) ?_
        refine V_icmp_neN (pc := 41) (tgt := 59) dX12_readPart_41 (by decide) (by omega) (by omega) (fun c41 => ?_) (fun n41 => ?_)
        · skip
          refine V_iconst (pc := 59) (v := nI 0) dX12_readPart_59 (by decide) ?_
          refine V_istore_n (pc := 60) (ls' := [(0, _), (1, _), (2, _)]) dX12_readPart_60 (by decide) rfl ?_
          refine V_aload_n (pc := 61) dX12_readPart_61 rfl ?_
          refine V_iload_n (pc := 62) dX12_readPart_62 rfl ?_
          refine V_iconst (pc := 63) (v := (-1)) dX12_readPart_63 (by decide) ?_
          refine V_icmp_ne (pc := 64) (tgt := 71) dX12_readPart_64 (by decide) (fun c64 => absurd c64 (by decide)) (fun n64 => ?_)
          refine V_iload_n (pc := 67) dX12_readPart_67 rfl ?_
          refine V_if_eqN (pc := 68) (tgt := 75) dX12_readPart_68 (by decide) (by omega) (fun c68 => ?_) (fun n68 => absurd n68 (by omega))
          refine V_iconst (pc := 75) (v := nI 0) dX12_readPart_75 (by decide) ?_
          refine V_iload_n (pc := 76) dX12_readPart_76 rfl ?_
          refine V_iconst (pc := 77) (v := (-1)) dX12_readPart_77 (by decide) ?_
          refine V_icmp_ne (pc := 78) (tgt := 85) dX12_readPart_78 (by decide) (fun c78 => absurd c78 (by decide)) (fun n78 => ?_)
          refine V_iconst (pc := 81) (v := nI 0) dX12_readPart_81 (by decide) ?_
          refine V_goto (pc := 82) (tgt := 86) dX12_readPart_82 (by decide) ?_
          refine V_iload_n (pc := 86) dX12_readPart_86 rfl ?_
          refine V_if_eqN (pc := 87) (tgt := 98) dX12_readPart_87 (by decide) (by omega) (fun c87 => ?_) (fun n87 => absurd n87 (by omega))
          refine V_iconst (pc := 98) (v := nI 0) dX12_readPart_98 (by decide) ?_
          exact st false false 0 hv (decide_eq_false (fun z => z.elim (fun y => y rfl) hdg)).symm (decide_eq_false hdg).symm (by rw [if_neg hdg])
        · skip
          refine V_aload_n (pc := 44) dX12_readPart_44 rfl ?_
          refine V_getLE (pc := 45) 12 17 dX12_readPart_45 flX12_285 (by decide) h12.o (h17) ?_
          refine V_ldc2 (pc := 48) dX12_readPart_48 coX12_360 ?_
          refine V_lcmp (pc := 51) dX12_readPart_51 ?_
          refine V_if_gt (pc := 52) (tgt := 59) dX12_readPart_52 (by decide) (fun c52 => ?_) (fun n52 => absurd n52 (by exact fun z => z ((lg_cmp_gt _ _).mpr (hcmp (by omega)))))
          refine V_iconst (pc := 59) (v := nI 0) dX12_readPart_59 (by decide) ?_
          refine V_istore_n (pc := 60) (ls' := [(0, _), (1, _), (2, _)]) dX12_readPart_60 (by decide) rfl ?_
          refine V_aload_n (pc := 61) dX12_readPart_61 rfl ?_
          refine V_iload_n (pc := 62) dX12_readPart_62 rfl ?_
          refine V_iconst (pc := 63) (v := (-1)) dX12_readPart_63 (by decide) ?_
          refine V_icmp_ne (pc := 64) (tgt := 71) dX12_readPart_64 (by decide) (fun c64 => absurd c64 (by decide)) (fun n64 => ?_)
          refine V_iload_n (pc := 67) dX12_readPart_67 rfl ?_
          refine V_if_eqN (pc := 68) (tgt := 75) dX12_readPart_68 (by decide) (by omega) (fun c68 => ?_) (fun n68 => absurd n68 (by omega))
          refine V_iconst (pc := 75) (v := nI 0) dX12_readPart_75 (by decide) ?_
          refine V_iload_n (pc := 76) dX12_readPart_76 rfl ?_
          refine V_iconst (pc := 77) (v := (-1)) dX12_readPart_77 (by decide) ?_
          refine V_icmp_ne (pc := 78) (tgt := 85) dX12_readPart_78 (by decide) (fun c78 => absurd c78 (by decide)) (fun n78 => ?_)
          refine V_iconst (pc := 81) (v := nI 0) dX12_readPart_81 (by decide) ?_
          refine V_goto (pc := 82) (tgt := 86) dX12_readPart_82 (by decide) ?_
          refine V_iload_n (pc := 86) dX12_readPart_86 rfl ?_
          refine V_if_eqN (pc := 87) (tgt := 98) dX12_readPart_87 (by decide) (by omega) (fun c87 => ?_) (fun n87 => absurd n87 (by omega))
          refine V_iconst (pc := 98) (v := nI 0) dX12_readPart_98 (by decide) ?_
          exact st false false 0 hv (decide_eq_false (fun z => z.elim (fun y => y rfl) hdg)).symm (decide_eq_false hdg).symm (by rw [if_neg hdg])
    · have e0 : itI v = nI v := by unfold itI; rw [if_neg hv0]
      have st := end1 v
      rw [e0] at st ⊢
      have hne : ¬ tc t n p = 91 := fun z => hv0 (by rw [hv, z]; unfold lfx; split <;> rfl)
      have h2 : ¬ srt t n p = 2 := fun z => hne (tc_n.mpr z)
      refine V_aload_n (pc := 36) dX12_readPart_36 rfl ?_
      refine V_getIE (pc := 37) 12 16 dX12_readPart_37 flX12_295 (by decide) h12.o (h16) ?_
      refine V_iconst (pc := 40) (v := nI 2) dX12_readPart_40 (by decide) ?_
      refine V_icmp_neN (pc := 41) (tgt := 59) dX12_readPart_41 (by decide) (by omega) (by omega) (fun c41 => ?_) (fun n41 => absurd n41 (by omega))
      refine V_iconst (pc := 59) (v := nI 0) dX12_readPart_59 (by decide) ?_
      refine V_istore_n (pc := 60) (ls' := [(0, _), (1, _), (2, _)]) dX12_readPart_60 (by decide) rfl ?_
      refine V_aload_n (pc := 61) dX12_readPart_61 rfl ?_
      refine V_iload_n (pc := 62) dX12_readPart_62 rfl ?_
      refine V_iconst (pc := 63) (v := (-1)) dX12_readPart_63 (by decide) ?_
      refine V_icmp_ne (pc := 64) (tgt := 71) dX12_readPart_64 (by decide) (fun c64 => ?_) (fun n64 => absurd n64 (by exact fun z => nI_nneg1 (by omega) z))
      refine V_iconst (pc := 71) (v := nI 1) dX12_readPart_71 (by decide) ?_
      refine V_goto (pc := 72) (tgt := 76) dX12_readPart_72 (by decide) ?_
      refine V_iload_n (pc := 76) dX12_readPart_76 rfl ?_
      refine V_iconst (pc := 77) (v := (-1)) dX12_readPart_77 (by decide) ?_
      refine V_icmp_ne (pc := 78) (tgt := 85) dX12_readPart_78 (by decide) (fun c78 => ?_) (fun n78 => absurd n78 (by exact fun z => nI_nneg1 (by omega) z))
      refine V_iload_n (pc := 85) dX12_readPart_85 rfl ?_
      refine V_iload_n (pc := 86) dX12_readPart_86 rfl ?_
      refine V_if_eqN (pc := 87) (tgt := 98) dX12_readPart_87 (by decide) (by omega) (fun c87 => ?_) (fun n87 => absurd n87 (by omega))
      refine V_iconst (pc := 98) (v := nI 0) dX12_readPart_98 (by decide) ?_
      exact st false true 0 hv (decide_eq_true (Or.inl hv0)).symm (decide_eq_false (fun z => hne z.1)).symm (by rw [if_neg (fun z => hne z.1)])
  subst hpost
  refine C_of (by decide) (Nat.le_of_ble_eq_true rfl) ?_
  cases od with
  | true =>
    refine V_aload_n (pc := 0) dX12_readPart_0 rfl ?_
    refine V_bipush (pc := 1) (v := nI 91) dX12_readPart_1 (by decide) ?_
    refine V_callVd (pc := 3) (ci := 12) (c_X12_isSign h12 h.1 (by omega)) dX12_readPart_3 mlX12_344 mkX12_isSign rfl rfl h12.o ⟨by decide, rfl⟩ ⟨Nat.le_of_ble_eq_true rfl, Nat.le_of_ble_eq_true rfl⟩ (Nat.le_of_ble_eq_true rfl) ⟨Nat.le_of_ble_eq_true rfl, Nat.le_of_ble_eq_true rfl⟩ ?_
    refine V_if_eqB (pc := 6) (tgt := 17) dX12_readPart_6 (by decide) (fun c6 => ?_) (fun n6 => absurd n6 (by rw [decide_eq_false (show ¬ tc t n (p, l, d, P, c).1 = 100 + 91 from ht)]; decide))
    refine V_aload_n (pc := 17) dX12_readPart_17 rfl ?_
    refine V_getIE (pc := 18) 12 20 dX12_readPart_18 flX12_350 (by decide) h12.o (h20) ?_
    refine V_if_eqB (pc := 21) (tgt := 31) dX12_readPart_21 (by decide) (fun c21 => absurd c21 (by decide)) (fun n21 => ?_)
    refine V_aload_n (pc := 24) dX12_readPart_24 rfl ?_
    refine V_callVd (pc := 25) (ci := 12) (c_X12_orderPartAt h12 h.1 hKL) dX12_readPart_25 mlX12_353 mkX12_orderPartAt rfl rfl h12.o ⟨by decide, rfl⟩ ⟨Nat.le_of_ble_eq_true rfl, Nat.le_of_ble_eq_true rfl⟩ (Nat.le_of_ble_eq_true rfl) ⟨Nat.le_of_ble_eq_true rfl, Nat.le_of_ble_eq_true rfl⟩ ?_
    refine V_goto (pc := 28) (tgt := 35) dX12_readPart_28 (by decide) ?_
    refine V_istore_n (pc := 35) (ls' := [(0, _), (1, _)]) dX12_readPart_35 (by decide) rfl ?_
    exact mid _ rfl
  | false =>
    refine V_aload_n (pc := 0) dX12_readPart_0 rfl ?_
    refine V_bipush (pc := 1) (v := nI 91) dX12_readPart_1 (by decide) ?_
    refine V_callVd (pc := 3) (ci := 12) (c_X12_isSign h12 h.1 (by omega)) dX12_readPart_3 mlX12_344 mkX12_isSign rfl rfl h12.o ⟨by decide, rfl⟩ ⟨Nat.le_of_ble_eq_true rfl, Nat.le_of_ble_eq_true rfl⟩ (Nat.le_of_ble_eq_true rfl) ⟨Nat.le_of_ble_eq_true rfl, Nat.le_of_ble_eq_true rfl⟩ ?_
    refine V_if_eqB (pc := 6) (tgt := 17) dX12_readPart_6 (by decide) (fun c6 => ?_) (fun n6 => absurd n6 (by rw [decide_eq_false (show ¬ tc t n (p, l, d, P, c).1 = 100 + 91 from ht)]; decide))
    refine V_aload_n (pc := 17) dX12_readPart_17 rfl ?_
    refine V_getIE (pc := 18) 12 20 dX12_readPart_18 flX12_350 (by decide) h12.o (h20) ?_
    refine V_if_eqB (pc := 21) (tgt := 31) dX12_readPart_21 (by decide) (fun c21 => ?_) (fun n21 => absurd n21 (by decide))
    refine V_aload_n (pc := 31) dX12_readPart_31 rfl ?_
    refine V_callVd (pc := 32) (ci := 12) (c_X12_partAt h12 h.1 hKL) dX12_readPart_32 mlX12_357 mkX12_partAt rfl rfl h12.o ⟨by decide, rfl⟩ ⟨Nat.le_of_ble_eq_true rfl, Nat.le_of_ble_eq_true rfl⟩ (Nat.le_of_ble_eq_true rfl) ⟨Nat.le_of_ble_eq_true rfl, Nat.le_of_ble_eq_true rfl⟩ ?_
    refine V_istore_n (pc := 35) (ls' := [(0, _), (1, _)]) dX12_readPart_35 (by decide) rfl ?_
    exact mid _ rfl
end PC
