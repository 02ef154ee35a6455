/-! THE CLASS's public methods, VI: ends, compare, again, stands -/
theorem lwn_n {A : AT} {x : Int32} (hn : aq A 3 < 2 ^ 31 - 1) (h : isl x (aq A 3) = true) : (if bnd x (aq A 3) = true then alw A (cln x) else lwe) = lwn A (suc1 x) := by
  unfold lwn
  by_cases hx : x = -1
  · subst hx
    rw [if_neg (by rw [bnd_lo (by decide)]; decide), show suc1 (-1) = 0 from by decide, if_pos rfl]
    rfl
  · unfold isl at h
    rw [decide_eq_false hx, Bool.false_or] at h
    obtain ⟨k, hk, rfl⟩ := bnd_ex (by omega) h
    have e : suc1 (nI k) = k + 1 := by unfold suc1; rw [nI_1, cln_nI (by omega)]
    rw [if_pos h, e, if_neg (by omega), cln_nI (by omega)]
    rfl
/-- counting on does not change what was found -/
theorem ag1_le (q : Nat → Nat) (x : Nat) (y : Int32) (b c : Nat) (s : Nat × Int32) : s.1 ≤ (ag1 q x y b c s).1 ∧ (ag1 q x y b c s).1 ≤ s.1 + 1 := by
  unfold ag1; split <;> simp
theorem agj_le (q : Nat → Nat) (x : Nat) (y : Int32) (b : Nat) : ∀ k s, s.1 ≤ (agi q x y b k s).1 ∧ (agi q x y b k s).1 ≤ s.1 + k
  | 0, s => ⟨Nat.le_refl _, Nat.le_refl _⟩
  | k + 1, s => by
    have h1 := agj_le q x y b k s
    have h2 := ag1_le q x y b (b + 1 + k) (agi q x y b k s)
    unfold agi
    omega
theorem agp_le (q : Nat → Nat) (x : Nat) (y : Int32) : ∀ b, (ago q x y b).1 ≤ 7 * b
  | 0 => Nat.le_refl _
  | b + 1 => by
    have h1 := agp_le q x y b
    have h2 := agj_le q x y b (7 - b) (ago q x y b)
    unfold ago
    omega
theorem ag1_keep {q : Nat → Nat} {x m b c : Nat} {s : Nat × Int32} (hm : m < 1000) (hs : m < s.1) (hb : s.1 < 1000) : (ag1 q x (nI m) b c s).2 = s.2 := by
  unfold ag1
  split
  · show (if nI s.1 = nI m then _ else _) = _
    rw [if_neg (fun z => by have := (nI_eq (by omega) (by omega)).mp z; omega)]
  · rfl
theorem agi_keep {q : Nat → Nat} {x m b : Nat} (hm : m < 1000) : ∀ k s, m < s.1 → s.1 + k < 1000 → (agi q x (nI m) b k s).2 = s.2
  | 0, s, _, _ => rfl
  | k + 1, s, h1, h2 => by
    have h3 := agj_le q x (nI m) b k s
    unfold agi
    rw [ag1_keep hm (by omega) (by omega), agi_keep hm k s h1 (by omega)]
theorem agi_add (q : Nat → Nat) (x : Nat) (y : Int32) (b k : Nat) (s : Nat × Int32) {m : Nat} (hm : m < 1000) (hy : y = nI m) (h1 : m < (agi q x y b k s).1) (hs : s.1 ≤ 100) (hk : k ≤ 100) : ∀ d, d ≤ 100 → (agi q x y b (k + d) s).2 = (agi q x y b k s).2 ∧ m < (agi q x y b (k + d) s).1
  | 0, _ => ⟨rfl, h1⟩
  | d + 1, hd => by
    obtain ⟨i1, i2⟩ := agi_add q x y b k s hm hy h1 hs hk d (by omega)
    have h3 := agj_le q x y b (k + d) s
    have h4 := ag1_le q x y b (b + 1 + (k + d)) (agi q x y b (k + d) s)
    subst hy
    show (ag1 q x (nI m) b (b + 1 + (k + d)) (agi q x (nI m) b (k + d) s)).2 = _ ∧ m < (ag1 q x (nI m) b (b + 1 + (k + d)) (agi q x (nI m) b (k + d) s)).1
    exact ⟨by rw [ag1_keep hm i2 (by omega)]; exact i1, by omega⟩
theorem ago_add (q : Nat → Nat) (x : Nat) (y : Int32) (b : Nat) {m : Nat} (hm : m < 1000) (hy : y = nI m) (h1 : m < (ago q x y b).1) (hb : b ≤ 8) : ∀ d, b + d ≤ 8 → (ago q x y (b + d)).2 = (ago q x y b).2 ∧ m < (ago q x y (b + d)).1
  | 0, _ => ⟨rfl, h1⟩
  | d + 1, hd => by
    obtain ⟨i1, i2⟩ := ago_add q x y b hm hy h1 hb d (by omega)
    have h3 := agp_le q x y (b + d)
    have h4 := agj_le q x y (b + d) (7 - (b + d)) (ago q x y (b + d))
    subst hy
    show (agi q x (nI m) (b + d) (7 - (b + d)) (ago q x (nI m) (b + d))).2 = _ ∧ m < (agi q x (nI m) (b + d) (7 - (b + d)) (ago q x (nI m) (b + d))).1
    exact ⟨by rw [agi_keep hm _ _ i2 (by omega)]; exact i1, by omega⟩
theorem ag_fin {q : Nat → Nat} {x b k : Nat} {y : Int32} (hb : b < 8) (hk : k < 7 - b) (he : nt q x b = nt q x (b + 1 + k)) (hy : nI (agi q x y b k (ago q x y b)).1 = y) : (ago q x y 8).2 = nI (10 * b + (b + 1 + k)) := by
  have h1 := agp_le q x y b
  have h2 := agj_le q x y b k (ago q x y b)
  have hm : (agi q x y b k (ago q x y b)).1 < 1000 := by omega
  have e : agi q x y b (k + 1) (ago q x y b) = ((agi q x y b k (ago q x y b)).1 + 1, nI (10 * b + (b + 1 + k))) := by
    show ag1 q x y b (b + 1 + k) _ = _
    unfold ag1
    rw [if_pos he, if_pos hy]
  obtain ⟨h3, h4⟩ := agi_add q x y b (k + 1) (ago q x y b) hm hy.symm (by rw [e]; show _ < _ + 1; omega) (by omega) (by omega) (7 - b - (k + 1)) (by omega)
  rw [show k + 1 + (7 - b - (k + 1)) = 7 - b by omega, e] at h3
  rw [show k + 1 + (7 - b - (k + 1)) = 7 - b by omega] at h4
  obtain ⟨h5, -⟩ := ago_add q x y (b + 1) hm hy.symm h4 (by omega) (8 - (b + 1)) (by omega)
  rw [show b + 1 + (8 - (b + 1)) = 8 by omega] at h5
  rw [h5]
  exact h3
theorem ag1_none {q : Nat → Nat} {x b c : Nat} {y : Int32} {s : Nat × Int32} (h : ¬ nI s.1 = y) : (ag1 q x y b c s).2 = s.2 := by
  unfold ag1
  by_cases he : nt q x b = nt q x c
  · rw [if_pos he, if_neg h]
  · rw [if_neg he]
theorem ago_neg {q : Nat → Nat} {x : Nat} {y : Int32} (h : y < 0) : ∀ b, b ≤ 8 → (ago q x y b).2 = -1 := by
  have hn : ∀ n, n < 1000 → ¬ nI n = y := fun n hn z => absurd (z ▸ h) (nI_pos (by omega))
  have hi : ∀ b k s, s.1 + k < 1000 → (agi q x y b k s).2 = s.2 := by
    intro b k
    induction k with
    | zero => intro s _; rfl
    | succ k ih =>
      intro s hs
      have h3 := agj_le q x y b k s
      show (ag1 q x y b (b + 1 + k) (agi q x y b k s)).2 = _
      rw [ag1_none (hn _ (by omega)), ih s (by omega)]
  intro b
  induction b with
  | zero => intro _; rfl
  | succ b ih =>
    intro hb
    have h1 := agp_le q x y b
    show (agi q x y b (7 - b) (ago q x y b)).2 = -1
    rw [hi _ _ _ (by omega), ih (by omega)]
section CS
variable {E : EnT} {S : ST} {I : IT} {L : LT} {B : Nat} {A : AT}
theorem lp_endsC (h11 : Lay11 E S B) {q : Nat → Nat} (hv : VlM I (B + 36 + 1) q) (hq : wq q) {n : Nat} (hn : n < 61) {post : Option Value → ST → IT → LT → Prop} (hp : post (some (.int (nI (bts (fun b => decide (n < q (74 + b))) (q 0))))) S I L) : V E kX11_ends (rmOf 1 0 0) (QM E post 0 0) 0 0 S I L 13 [(0, .ref B), (1, .int (nI n)), (2, .int (nI 0)), (3, .int (nI 0))] [] := by
  have hnb := hq.nb
  refine loopUp (P := fun j => V E kX11_ends (rmOf 1 0 0) (QM E post 0 0) 0 0 S I L 13 [(0, .ref B), (1, .int (nI n)), (2, .int (nI (bts (fun b => decide (n < q (74 + b))) j))), (3, .int (nI j))] []) (n := q 0) ?_ ?_ 0 (by omega)
  · skip
    refine V_iload_n (pc := 13) dX11_ends_13 rfl ?_
    refine V_aload_n (pc := 14) dX11_ends_14 rfl ?_
    refine V_getR (pc := 15) 11 0 dX11_ends_15 flX11_91 (by decide) h11.o h11.R0 ?_
    refine V_getR (pc := 18) 10 0 dX11_ends_18 flX11_116 (by decide) h11.O0.o h11.O0.R0 ?_
    refine V_getIE (pc := 21) 9 0 dX11_ends_21 flX11_120 (by decide) h11.O0.O0.o (hv.1) ?_
    refine V_icmp_geN (pc := 24) (tgt := 59) dX11_ends_24 (by decide) (by omega) (by omega) (fun c24 => ?_) (fun n24 => absurd n24 (by omega))
    refine V_iload_n (pc := 59) dX11_ends_59 rfl ?_
    refine V_iret (pc := 60) dX11_ends_60 rfl (by first | decide | omega) (by first | decide | omega) ?_
    exact hp
  · intro j hj ih
    have hle := hq.le j (by omega)
    have hp2 : 2 ^ j ≤ 64 := p64 (show j ≤ 6 by omega)
    have e : bts (fun b => decide (n < q (74 + b))) (j + 1) = bts (fun b => decide (n < q (74 + b))) j ||| (if decide (n < q (74 + j)) = true then 2 ^ j else 0) := rfl
    rw [e] at ih
    refine V_iload_n (pc := 13) dX11_ends_13 rfl ?_
    refine V_aload_n (pc := 14) dX11_ends_14 rfl ?_
    refine V_getR (pc := 15) 11 0 dX11_ends_15 flX11_91 (by decide) h11.o h11.R0 ?_
    refine V_getR (pc := 18) 10 0 dX11_ends_18 flX11_116 (by decide) h11.O0.o h11.O0.R0 ?_
    refine V_getIE (pc := 21) 9 0 dX11_ends_21 flX11_120 (by decide) h11.O0.O0.o (hv.1) ?_
    refine V_icmp_geN (pc := 24) (tgt := 59) dX11_ends_24 (by decide) (by omega) (by omega) (fun c24 => absurd c24 (by omega)) (fun n24 => ?_)
    refine V_iload_n (pc := 27) dX11_ends_27 rfl ?_
    refine V_aload_n (pc := 28) dX11_ends_28 rfl ?_
    refine V_getR (pc := 29) 11 0 dX11_ends_29 flX11_91 (by decide) h11.o h11.R0 ?_
    refine V_getR (pc := 32) 10 0 dX11_ends_32 flX11_116 (by decide) h11.O0.o h11.O0.R0 ?_
    refine V_getR (pc := 35) 9 5 dX11_ends_35 flX11_153 (by decide) h11.O0.O0.o h11.O0.O0.R5 ?_
    refine V_iload_n (pc := 38) dX11_ends_38 rfl ?_
    refine V_ialoadE (pc := 39) dX11_ends_39 h11.O0.O0.A5 (by first | decide | omega) (by omega) (hv.2.2.2.2.2.1 j (by omega)) ?_
    refine V_iload_n (pc := 40) dX11_ends_40 rfl ?_
    refine V_icmp_leN (pc := 41) (tgt := 50) dX11_ends_41 (by decide) (by omega) (by omega) (fun c41 => ?_) (fun n41 => ?_)
    · skip
      rw [if_neg (by simp; omega)] at ih
      refine V_iconst (pc := 50) (v := nI 0) dX11_ends_50 (by decide) ?_
      refine V_iorN (pc := 51) dX11_ends_51 ?_
      refine V_istore_n (pc := 52) (ls' := [(0, _), (1, _), (2, _), (3, _)]) dX11_ends_52 (by decide) rfl ?_
      refine V_iinc1 (pc := 53) (ls' := [(0, _), (1, _), (2, _), (3, _)]) dX11_ends_53 rfl (by decide) rfl ?_
      refine V_goto (pc := 56) (tgt := 13) dX11_ends_56 (by decide) ?_
      exact ih
    · skip
      rw [if_pos (decide_eq_true (by omega)), ← Nat.one_mul (2 ^ j)] at ih
      refine V_iconst (pc := 44) (v := nI 1) dX11_ends_44 (by decide) ?_
      refine V_iload_n (pc := 45) dX11_ends_45 rfl ?_
      refine V_ishlN (pc := 46) dX11_ends_46 (by omega) (by omega) ?_
      refine V_goto (pc := 47) (tgt := 51) dX11_ends_47 (by decide) ?_
      refine V_iorN (pc := 51) dX11_ends_51 ?_
      refine V_istore_n (pc := 52) (ls' := [(0, _), (1, _), (2, _), (3, _)]) dX11_ends_52 (by decide) rfl ?_
      refine V_iinc1 (pc := 53) (ls' := [(0, _), (1, _), (2, _), (3, _)]) dX11_ends_53 rfl (by decide) rfl ?_
      refine V_goto (pc := 56) (tgt := 13) dX11_ends_56 (by decide) ?_
      exact ih
theorem c_X11_ends (h11 : Lay11 E S B) (hR : CR E S B I A) (hA : wfA A) {x : Int32} : Cc E kX11_ends 1 [.ref B, .int x] S I L B (.int (spEnds A x)) A := by
  have hq := hA.q
  refine C_of (by decide) (Nat.le_of_ble_eq_true rfl) ?_
  refine V_iload_n (pc := 0) dX11_ends_0 rfl ?_
  refine V_callSd (pc := 1) (c_X11_isYears) dX11_ends_1 mlX11_175 mkX11_isYears rfl rfl ⟨Nat.le_of_ble_eq_true rfl, Nat.le_of_ble_eq_true rfl⟩ (Nat.le_of_ble_eq_true rfl) ⟨Nat.le_of_ble_eq_true rfl, Nat.le_of_ble_eq_true rfl⟩ ?_
  refine V_if_neB (pc := 4) (tgt := 9) dX11_ends_4 (by decide) (fun c4 => ?_) (fun n4 => ?_)
  · skip
    obtain ⟨n, hn, hx⟩ := bnd_ex (by omega) c4
    rw [spEnds, if_pos c4]
    subst hx
    rw [cln_nI (by omega)]
    refine V_iconst (pc := 9) (v := nI 0) dX11_ends_9 (by decide) ?_
    refine V_istore_n (pc := 10) (ls' := [(0, _), (1, _), (2, _)]) dX11_ends_10 (by decide) rfl ?_
    refine V_iconst (pc := 11) (v := nI 0) dX11_ends_11 (by decide) ?_
    refine V_istore_n (pc := 12) (ls' := [(0, _), (1, _), (2, _), (3, _)]) dX11_ends_12 (by decide) rfl ?_
    exact lp_endsC h11 hR.1.1 hq hn ⟨rfl, rfl, hR, FrC.rf⟩
  · skip
    refine V_iconst (pc := 7) (v := (-1)) dX11_ends_7 (by decide) ?_
    refine V_iret (pc := 8) dX11_ends_8 rfl (by first | decide | omega) (by first | decide | omega) ?_
    rw [spEnds, if_neg (by rw [n4]; decide)]
    exact ⟨rfl, rfl, hR, FrC.rf⟩
theorem c_X11_compare (h11 : Lay11 E S B) (hR : CR E S B I A) (hA : wfA A) {x : Int32} : Cc E kX11_compare 4 [.ref B, .int x] S I L B (.int (spCompare A x)) A := by
  have hq := hA.q
  have hnb := hq.nb
  have hnl := hq.nl
  refine C_of (by decide) (Nat.le_of_ble_eq_true rfl) ?_
  have key : isl x (aq A 3) = true → ∀ j, j ≤ aq A 0 → ∀ J, CR E S B J A → FrC B J I L L → V E kX11_compare (rmOf 4 0 0) (QM E (fun r S' I' L' => r = some (.int (nI (sm (fun b => lst (lwn A (suc1 x)) (aq A) b) (aq A 0)))) ∧ S = S' ∧ CR E S B I' A ∧ FrC B I' I L' L) 0 0) 0 0 S J L 22 [(0, .ref B), (1, .int x), (2, .int (nI (sm (fun b => lst (lwn A (suc1 x)) (aq A) b) j))), (3, .int (nI j))] [] := by
    intro hx
    have hlw := hA.lawn (isl_ex (by omega) hx).1
    have el := lwn_n (A := A) (x := x) (by omega) hx
    refine loopUp (n := aq A 0) (P := fun j => ∀ J, CR E S B J A → FrC B J I L L → V E kX11_compare (rmOf 4 0 0) (QM E (fun r S' I' L' => r = some (.int (nI (sm (fun b => lst (lwn A (suc1 x)) (aq A) b) (aq A 0)))) ∧ S = S' ∧ CR E S B I' A ∧ FrC B I' I L' L) 0 0) 0 0 S J L 22 [(0, .ref B), (1, .int x), (2, .int (nI (sm (fun b => lst (lwn A (suc1 x)) (aq A) b) j))), (3, .int (nI j))] []) ?_ ?_
    · intro J hJ hF
      refine V_iload_n (pc := 22) dX11_compare_22 rfl ?_
      refine V_aload_n (pc := 23) dX11_compare_23 rfl ?_
      refine V_getR (pc := 24) 11 0 dX11_compare_24 flX11_91 (by decide) h11.o h11.R0 ?_
      refine V_getR (pc := 27) 10 0 dX11_compare_27 flX11_116 (by decide) h11.O0.o h11.O0.R0 ?_
      refine V_getIE (pc := 30) 9 0 dX11_compare_30 flX11_120 (by decide) h11.O0.O0.o (hJ.1.1.1) ?_
      refine V_icmp_geN (pc := 33) (tgt := 68) dX11_compare_33 (by decide) (by omega) (by omega) (fun c33 => ?_) (fun n33 => absurd n33 (by omega))
      refine V_iload_n (pc := 68) dX11_compare_68 rfl ?_
      refine V_iret (pc := 69) dX11_compare_69 rfl (by first | decide | omega) (by first | decide | omega) ?_
      exact ⟨rfl, rfl, hJ, hF⟩
    · intro j hj ih J hJ hF
      rw [sm_s _ j] at ih
      refine V_iload_n (pc := 22) dX11_compare_22 rfl ?_
      refine V_aload_n (pc := 23) dX11_compare_23 rfl ?_
      refine V_getR (pc := 24) 11 0 dX11_compare_24 flX11_91 (by decide) h11.o h11.R0 ?_
      refine V_getR (pc := 27) 10 0 dX11_compare_27 flX11_116 (by decide) h11.O0.o h11.O0.R0 ?_
      refine V_getIE (pc := 30) 9 0 dX11_compare_30 flX11_120 (by decide) h11.O0.O0.o (hJ.1.1.1) ?_
      refine V_icmp_geN (pc := 33) (tgt := 68) dX11_compare_33 (by decide) (by omega) (by omega) (fun c33 => absurd c33 (by omega)) (fun n33 => ?_)
      refine V_iload_n (pc := 36) dX11_compare_36 rfl ?_
      refine V_aload_n (pc := 37) dX11_compare_37 rfl ?_
      refine V_getR (pc := 38) 11 3 dX11_compare_38 flX11_95 (by decide) h11.o h11.R3 ?_
      refine V_aload_n (pc := 41) dX11_compare_41 rfl ?_
      refine V_getR (pc := 42) 11 0 dX11_compare_42 flX11_91 (by decide) h11.o h11.R0 ?_
      refine V_iload_n (pc := 45) dX11_compare_45 rfl ?_
      refine V_callV (pc := 46) (ci := 10) (c_X10_lawNumbered h11.O0 hJ.1 hq hJ.2.1) dX11_compare_46 mlX11_380 mkX10_lawNumbered rfl rfl h11.O0.o ⟨by decide, rfl⟩ ⟨Nat.le_of_ble_eq_true rfl, Nat.le_of_ble_eq_true rfl⟩ (Nat.le_of_ble_eq_true rfl) ⟨Nat.le_of_ble_eq_true rfl, Nat.le_of_ble_eq_true rfl⟩ (fun r S' I' L' hp => ?_)
      obtain ⟨⟨a, rfl, hT, hta⟩, rfl, rfl, rfl⟩ := hp
      unfold txa at hta
      rw [el] at hT
      refine V_aload_n (pc := 49) dX11_compare_49 rfl ?_
      refine V_getR (pc := 50) 11 0 dX11_compare_50 flX11_91 (by decide) h11.o h11.R0 ?_
      refine V_getR (pc := 53) 10 0 dX11_compare_53 flX11_116 (by decide) h11.O0.o h11.O0.R0 ?_
      refine V_iload_n (pc := 56) dX11_compare_56 rfl ?_
      refine V_callV (pc := 57) (ci := 3) (c_X3_lasting h11.O3 h11.O0.O0 hJ.1.1 hq (fun z z1 z2 => by omega) hT hlw.1 ⟨fun z z1 z2 => by omega, by omega⟩ (by omega)) dX11_compare_57 mlX11_160 mkX3_lasting rfl rfl h11.O3.o ⟨by decide, rfl⟩ ⟨Nat.le_of_ble_eq_true rfl, Nat.le_of_ble_eq_true rfl⟩ (Nat.le_of_ble_eq_true rfl) ⟨Nat.le_of_ble_eq_true rfl, Nat.le_of_ble_eq_true rfl⟩ (fun r S' I' L' hp => ?_)
      obtain ⟨rfl, rfl, rfl, hf⟩ := hp
      refine V_iaddN (pc := 60) dX11_compare_60 ?_
      refine V_istore_n (pc := 61) (ls' := [(0, _), (1, _), (2, _), (3, _)]) dX11_compare_61 (by decide) rfl ?_
      refine V_iinc1 (pc := 62) (ls' := [(0, _), (1, _), (2, _), (3, _)]) dX11_compare_62 rfl (by decide) rfl ?_
      refine V_goto (pc := 65) (tgt := 22) dX11_compare_65 (by decide) ?_
      exact ih _ (hJ.dd (DdC.ofj hf)) (hF.to fun y hy => hf y (by omega) (by omega))
  refine V_iload_n (pc := 0) dX11_compare_0 rfl ?_
  refine V_iconst (pc := 1) (v := (-1)) dX11_compare_1 (by decide) ?_
  refine V_icmp_eq (pc := 2) (tgt := 18) dX11_compare_2 (by decide) (fun c2 => ?_) (fun n2 => ?_)
  · skip
    have hb : isl x (aq A 3) = true := by
      unfold isl
      first
        | (rw [decide_eq_true c2]; rfl)
        | (rw [c13]; simp)
        | fail
    rw [spCompare, if_pos hb]
    refine V_iconst (pc := 18) (v := nI 0) dX11_compare_18 (by decide) ?_
    refine V_istore_n (pc := 19) (ls' := [(0, _), (1, _), (2, _)]) dX11_compare_19 (by decide) rfl ?_
    refine V_iconst (pc := 20) (v := nI 0) dX11_compare_20 (by decide) ?_
    refine V_istore_n (pc := 21) (ls' := [(0, _), (1, _), (2, _), (3, _)]) dX11_compare_21 (by decide) rfl ?_
    exact key hb 0 (by omega) I hR FrC.rf
  · skip
    refine V_aload_n (pc := 5) dX11_compare_5 rfl ?_
    refine V_getR (pc := 6) 11 0 dX11_compare_6 flX11_91 (by decide) h11.o h11.R0 ?_
    refine V_iload_n (pc := 9) dX11_compare_9 rfl ?_
    refine V_callVd (pc := 10) (ci := 10) (c_X10_hasLaw h11.O0 hR.1 hq) dX11_compare_10 mlX11_248 mkX10_hasLaw rfl rfl h11.O0.o ⟨by decide, rfl⟩ ⟨Nat.le_of_ble_eq_true rfl, Nat.le_of_ble_eq_true rfl⟩ (Nat.le_of_ble_eq_true rfl) ⟨Nat.le_of_ble_eq_true rfl, Nat.le_of_ble_eq_true rfl⟩ ?_
    refine V_if_neB (pc := 13) (tgt := 18) dX11_compare_13 (by decide) (fun c13 => ?_) (fun n13 => ?_)
    · skip
      have hb : isl x (aq A 3) = true := by
        unfold isl
        first
          | (rw [decide_eq_true c2]; rfl)
          | (rw [c13]; simp)
          | fail
      rw [spCompare, if_pos hb]
      refine V_iconst (pc := 18) (v := nI 0) dX11_compare_18 (by decide) ?_
      refine V_istore_n (pc := 19) (ls' := [(0, _), (1, _), (2, _)]) dX11_compare_19 (by decide) rfl ?_
      refine V_iconst (pc := 20) (v := nI 0) dX11_compare_20 (by decide) ?_
      refine V_istore_n (pc := 21) (ls' := [(0, _), (1, _), (2, _), (3, _)]) dX11_compare_21 (by decide) rfl ?_
      exact key hb 0 (by omega) I hR FrC.rf
    · skip
      refine V_iconst (pc := 16) (v := (-1)) dX11_compare_16 (by decide) ?_
      refine V_iret (pc := 17) dX11_compare_17 rfl (by first | decide | omega) (by first | decide | omega) ?_
      have hb : isl x (aq A 3) = false := by unfold isl; rw [n13, decide_eq_false n2]; rfl
      rw [spCompare, if_neg (by rw [hb]; decide)]
      exact ⟨rfl, rfl, hR, FrC.rf⟩
theorem c_X11_again (h11 : Lay11 E S B) (hR : CR E S B I A) (hA : wfA A) {x y : Int32} : Cc E kX11_again 1 [.ref B, .int x, .int y] S I L B (.int (spAgain A x y)) A := by
  have hq := hA.q
  have hnb := hq.nb
  have hv := hR.1.1
  refine C_of (by decide) (Nat.le_of_ble_eq_true rfl) ?_
  by_cases hx : bnd x (aq A 0) = true
  · obtain ⟨z, hz, rfl⟩ := bnd_ex (by omega) hx
    rw [spAgain, if_pos hx, cln_nI (by omega)]
    have fin : ∀ v, v = (if y = -1 then nI (ago (aq A) z y 8).1 else (ago (aq A) z y 8).2) → (some (Value.int v) = some (.int (if y = -1 then nI (ago (aq A) z y 8).1 else (ago (aq A) z y 8).2)) ∧ S = S ∧ CR E S B I A ∧ FrC B I I L L) := fun v h => ⟨by rw [h], rfl, hR, FrC.rf⟩
    generalize hP : (fun (r : Option Value) (S' : ST) (I' : IT) (L' : LT) => r = some (Value.int (if y = -1 then nI (ago (aq A) z y 8).1 else (ago (aq A) z y 8).2)) ∧ S = S' ∧ CR E S B I' A ∧ FrC B I' I L' L) = post
    have fin : ∀ v, v = (if y = -1 then nI (ago (aq A) z y 8).1 else (ago (aq A) z y 8).2) → post (some (.int v)) S I L := fun v h => by rw [← hP]; exact fin v h
    clear hP
    have out : ∀ b, b ≤ 8 → (y = -1 ∨ (ago (aq A) z y b).2 = -1) → V E kX11_again (rmOf 1 0 0) (QM E post 0 0) 0 0 S I L 26 [(0, .ref B), (1, .int (nI z)), (2, .int y), (3, .int (nI (ago (aq A) z y b).1)), (4, .int (nI b))] [] := by
      refine loopUp (n := 8) (P := fun b => (y = -1 ∨ (ago (aq A) z y b).2 = -1) → V E kX11_again (rmOf 1 0 0) (QM E post 0 0) 0 0 S I L 26 [(0, .ref B), (1, .int (nI z)), (2, .int y), (3, .int (nI (ago (aq A) z y b).1)), (4, .int (nI b))] []) ?_ ?_
      · intro h1
        refine V_iload (pc := 26) dX11_again_26 rfl ?_
        refine V_bipush (pc := 28) (v := nI 8) dX11_again_28 (by decide) ?_
        refine V_icmp_geN (pc := 30) (tgt := 104) dX11_again_30 (by decide) (by omega) (by omega) (fun c30 => ?_) (fun n30 => absurd n30 (by omega))
        refine V_iload_n (pc := 104) dX11_again_104 rfl ?_
        refine V_iconst (pc := 105) (v := (-1)) dX11_again_105 (by decide) ?_
        refine V_icmp_ne (pc := 106) (tgt := 113) dX11_again_106 (by decide) (fun c106 => ?_) (fun n106 => ?_)
        · skip
          refine V_iconst (pc := 113) (v := (-1)) dX11_again_113 (by decide) ?_
          refine V_iret (pc := 114) dX11_again_114 rfl (by first | decide | omega) (by first | decide | omega) ?_
          first
          | exact fin _ (by rw [if_pos n106])
          | exact fin _ (by rw [if_neg c106]; rcases h1 with h1 | h1; exact absurd h1 c106; exact h1.symm)
          | fail
        · skip
          refine V_iload_n (pc := 109) dX11_again_109 rfl ?_
          refine V_goto (pc := 110) (tgt := 114) dX11_again_110 (by decide) ?_
          refine V_iret (pc := 114) dX11_again_114 rfl (by first | decide | omega) (by first | decide | omega) ?_
          first
          | exact fin _ (by rw [if_pos n106])
          | exact fin _ (by rw [if_neg c106]; rcases h1 with h1 | h1; exact absurd h1 c106; exact h1.symm)
          | fail
      · intro b hb ih h1
        have inn : ∀ k, k ≤ 7 - b → (y = -1 ∨ (agi (aq A) z y b k (ago (aq A) z y b)).2 = -1) → V E kX11_again (rmOf 1 0 0) (QM E post 0 0) 0 0 S I L 39 [(0, .ref B), (1, .int (nI z)), (2, .int y), (3, .int (nI (agi (aq A) z y b k (ago (aq A) z y b)).1)), (4, .int (nI b)), (5, .int (nI (b + 1 + k)))] [] := by
          refine loopUp (n := 7 - b) (P := fun k => (y = -1 ∨ (agi (aq A) z y b k (ago (aq A) z y b)).2 = -1) → V E kX11_again (rmOf 1 0 0) (QM E post 0 0) 0 0 S I L 39 [(0, .ref B), (1, .int (nI z)), (2, .int y), (3, .int (nI (agi (aq A) z y b k (ago (aq A) z y b)).1)), (4, .int (nI b)), (5, .int (nI (b + 1 + k)))] []) ?_ ?_
          · intro h2
            refine V_iload (pc := 39) dX11_again_39 rfl ?_
            refine V_bipush (pc := 41) (v := nI 8) dX11_again_41 (by decide) ?_
            refine V_icmp_geN (pc := 43) (tgt := 98) dX11_again_43 (by decide) (by omega) (by omega) (fun c43 => ?_) (fun n43 => absurd n43 (by omega))
            refine V_loc [0, 1, 2, 3, 4] rfl ?_
            refine V_iinc1 (pc := 98) (ls' := [(0, _), (1, _), (2, _), (3, _), (4, _)]) dX11_again_98 rfl (by decide) rfl ?_
            refine V_goto (pc := 101) (tgt := 26) dX11_again_101 (by decide) ?_
            exact ih h2
          · intro k hk ih2 h2
            have n1 := nt_lt hq (show z < 6 by omega) hb
            have n2 := nt_lt hq (show z < 6 by omega) (show b + 1 + k < 8 by omega)
            have hl1 := agp_le (aq A) z y b
            have hl2 := agj_le (aq A) z y b k (ago (aq A) z y b)
            have e1 : agi (aq A) z y b (k + 1) (ago (aq A) z y b) = ag1 (aq A) z y b (b + 1 + k) (agi (aq A) z y b k (ago (aq A) z y b)) := rfl
            rw [e1] at ih2
            refine V_iload (pc := 39) dX11_again_39 rfl ?_
            refine V_bipush (pc := 41) (v := nI 8) dX11_again_41 (by decide) ?_
            refine V_icmp_geN (pc := 43) (tgt := 98) dX11_again_43 (by decide) (by omega) (by omega) (fun c43 => absurd c43 (by omega)) (fun n43 => ?_)
            refine V_aload_n (pc := 46) dX11_again_46 rfl ?_
            refine V_getR (pc := 47) 11 0 dX11_again_47 flX11_91 (by decide) h11.o h11.R0 ?_
            refine V_getR (pc := 50) 10 0 dX11_again_50 flX11_116 (by decide) h11.O0.o h11.O0.R0 ?_
            refine V_iload_n (pc := 53) dX11_again_53 rfl ?_
            refine V_iload (pc := 54) dX11_again_54 rfl ?_
            refine V_callVd (pc := 56) (ci := 9) (c_X9_notesAt h11.O0.O0 hv hq (by omega) hb) dX11_again_56 mlX11_353 mkX9_notesAt rfl rfl h11.O0.O0.o ⟨by decide, rfl⟩ ⟨Nat.le_of_ble_eq_true rfl, Nat.le_of_ble_eq_true rfl⟩ (Nat.le_of_ble_eq_true rfl) ⟨Nat.le_of_ble_eq_true rfl, Nat.le_of_ble_eq_true rfl⟩ ?_
            refine V_aload_n (pc := 59) dX11_again_59 rfl ?_
            refine V_getR (pc := 60) 11 0 dX11_again_60 flX11_91 (by decide) h11.o h11.R0 ?_
            refine V_getR (pc := 63) 10 0 dX11_again_63 flX11_116 (by decide) h11.O0.o h11.O0.R0 ?_
            refine V_iload_n (pc := 66) dX11_again_66 rfl ?_
            refine V_iload (pc := 67) dX11_again_67 rfl ?_
            refine V_callVd (pc := 69) (ci := 9) (c_X9_notesAt h11.O0.O0 hv hq (by omega) (by omega)) dX11_again_69 mlX11_353 mkX9_notesAt rfl rfl h11.O0.O0.o ⟨by decide, rfl⟩ ⟨Nat.le_of_ble_eq_true rfl, Nat.le_of_ble_eq_true rfl⟩ (Nat.le_of_ble_eq_true rfl) ⟨Nat.le_of_ble_eq_true rfl, Nat.le_of_ble_eq_true rfl⟩ ?_
            refine V_icmp_neN (pc := 72) (tgt := 92) dX11_again_72 (by decide) (by omega) (by omega) (fun c72 => ?_) (fun n72 => ?_)
            · skip
              try rw [show ag1 (aq A) z y b (b + 1 + k) (agi (aq A) z y b k (ago (aq A) z y b)) = agi (aq A) z y b k (ago (aq A) z y b) from by unfold ag1; rw [if_neg c72]] at ih2
              refine V_iinc1 (pc := 92) (ls' := [(0, _), (1, _), (2, _), (3, _), (4, _), (5, _)]) dX11_again_92 rfl (by decide) rfl ?_
              refine V_goto (pc := 95) (tgt := 39) dX11_again_95 (by decide) ?_
              exact ih2 h2
            · skip
              refine V_iload_n (pc := 75) dX11_again_75 rfl ?_
              refine V_iload_n (pc := 76) dX11_again_76 rfl ?_
              refine V_icmp_ne (pc := 77) (tgt := 89) dX11_again_77 (by decide) (fun c77 => ?_) (fun n77 => ?_)
              · skip
                have e2 : ag1 (aq A) z y b (b + 1 + k) (agi (aq A) z y b k (ago (aq A) z y b)) = ((agi (aq A) z y b k (ago (aq A) z y b)).1 + 1, (agi (aq A) z y b k (ago (aq A) z y b)).2) := by
                  unfold ag1; rw [if_pos n72, if_neg c77]
                rw [e2] at ih2
                refine V_iinc1 (pc := 89) (ls' := [(0, _), (1, _), (2, _), (3, _), (4, _), (5, _)]) dX11_again_89 rfl (by decide) rfl ?_
                try rw [show ag1 (aq A) z y b (b + 1 + k) (agi (aq A) z y b k (ago (aq A) z y b)) = agi (aq A) z y b k (ago (aq A) z y b) from by unfold ag1; rw [if_neg c72]] at ih2
                refine V_iinc1 (pc := 92) (ls' := [(0, _), (1, _), (2, _), (3, _), (4, _), (5, _)]) dX11_again_92 rfl (by decide) rfl ?_
                refine V_goto (pc := 95) (tgt := 39) dX11_again_95 (by decide) ?_
                exact ih2 h2
              · skip
                have hy1 : ¬ y = -1 := fun w => absurd (show nI (agi (aq A) z y b k (ago (aq A) z y b)).1 < 0 by rw [n77, w]; decide) (nI_pos (by omega))
                refine V_bipush (pc := 80) (v := nI 10) dX11_again_80 (by decide) ?_
                refine V_iload (pc := 82) dX11_again_82 rfl ?_
                refine V_imulN (pc := 84) dX11_again_84 ?_
                refine V_iload (pc := 85) dX11_again_85 rfl ?_
                refine V_iaddN (pc := 87) dX11_again_87 ?_
                refine V_iret (pc := 88) dX11_again_88 rfl (by first | decide | omega) (by first | decide | omega) ?_
                exact fin _ (by rw [if_neg hy1, ag_fin hb hk n72 n77])
        refine V_iload (pc := 26) dX11_again_26 rfl ?_
        refine V_bipush (pc := 28) (v := nI 8) dX11_again_28 (by decide) ?_
        refine V_icmp_geN (pc := 30) (tgt := 104) dX11_again_30 (by decide) (by omega) (by omega) (fun c30 => absurd c30 (by omega)) (fun n30 => ?_)
        refine V_iload (pc := 33) dX11_again_33 rfl ?_
        refine V_iconst (pc := 35) (v := nI 1) dX11_again_35 (by decide) ?_
        refine V_iaddN (pc := 36) dX11_again_36 ?_
        refine V_istore (pc := 37) (ls' := [(0, _), (1, _), (2, _), (3, _), (4, _), (5, _)]) dX11_again_37 (by decide) rfl ?_
        exact inn 0 (by omega) h1
    refine V_aload_n (pc := 0) dX11_again_0 rfl ?_
    refine V_getR (pc := 1) 11 0 dX11_again_1 flX11_91 (by decide) h11.o h11.R0 ?_
    refine V_getR (pc := 4) 10 0 dX11_again_4 flX11_116 (by decide) h11.O0.o h11.O0.R0 ?_
    refine V_iload_n (pc := 7) dX11_again_7 rfl ?_
    refine V_callVd (pc := 8) (ci := 9) (c_X9_hasBox h11.O0.O0 hv hq) dX11_again_8 mlX11_140 mkX9_hasBox rfl rfl h11.O0.O0.o ⟨by decide, rfl⟩ ⟨Nat.le_of_ble_eq_true rfl, Nat.le_of_ble_eq_true rfl⟩ (Nat.le_of_ble_eq_true rfl) ⟨Nat.le_of_ble_eq_true rfl, Nat.le_of_ble_eq_true rfl⟩ ?_
    refine V_if_eqB (pc := 11) (tgt := 19) dX11_again_11 (by decide) (fun c11 => absurd c11 (by rw [hx]; decide)) (fun n11 => ?_)
    refine V_iload_n (pc := 14) dX11_again_14 rfl ?_
    refine V_iconst (pc := 15) (v := (-1)) dX11_again_15 (by decide) ?_
    refine V_icmp_ge (pc := 16) (tgt := 21) dX11_again_16 (by decide) (fun c16 => ?_) (fun n16 => ?_)
    · skip
      refine V_iconst (pc := 21) (v := nI 0) dX11_again_21 (by decide) ?_
      refine V_istore_n (pc := 22) (ls' := [(0, _), (1, _), (2, _), (3, _)]) dX11_again_22 (by decide) rfl ?_
      refine V_iconst (pc := 23) (v := nI 0) dX11_again_23 (by decide) ?_
      refine V_istore (pc := 24) (ls' := [(0, _), (1, _), (2, _), (3, _), (4, _)]) dX11_again_24 (by decide) rfl ?_
      exact out 0 (by omega) (Or.inr rfl)
    · skip
      refine V_iconst (pc := 19) (v := (-1)) dX11_again_19 (by decide) ?_
      refine V_iret (pc := 20) dX11_again_20 rfl (by first | decide | omega) (by first | decide | omega) ?_
      exact fin _ (by
        have hy : y < -1 := Int32.not_le.mp n16
        have hy1 : ¬ y = -1 := fun w => by rw [w] at hy; exact absurd hy (by decide)
        rw [if_neg hy1, ago_neg (Int32.lt_trans hy (by decide)) 8 (by omega)])
  · rw [spAgain, if_neg hx]
    refine V_aload_n (pc := 0) dX11_again_0 rfl ?_
    refine V_getR (pc := 1) 11 0 dX11_again_1 flX11_91 (by decide) h11.o h11.R0 ?_
    refine V_getR (pc := 4) 10 0 dX11_again_4 flX11_116 (by decide) h11.O0.o h11.O0.R0 ?_
    refine V_iload_n (pc := 7) dX11_again_7 rfl ?_
    refine V_callVd (pc := 8) (ci := 9) (c_X9_hasBox h11.O0.O0 hv hq) dX11_again_8 mlX11_140 mkX9_hasBox rfl rfl h11.O0.O0.o ⟨by decide, rfl⟩ ⟨Nat.le_of_ble_eq_true rfl, Nat.le_of_ble_eq_true rfl⟩ (Nat.le_of_ble_eq_true rfl) ⟨Nat.le_of_ble_eq_true rfl, Nat.le_of_ble_eq_true rfl⟩ ?_
    refine V_if_eqB (pc := 11) (tgt := 19) dX11_again_11 (by decide) (fun c11 => ?_) (fun n11 => absurd n11 (by exact fun z => hx z))
    refine V_iconst (pc := 19) (v := (-1)) dX11_again_19 (by decide) ?_
    refine V_iret (pc := 20) dX11_again_20 rfl (by first | decide | omega) (by first | decide | omega) ?_
    exact ⟨rfl, rfl, hR, FrC.rf⟩
theorem lp_stC1 (h11 : Lay11 E S B) {Q : QT} {b n d k : Nat} {f : Nat → Int64} {L0 : LT} (hd : d ≤ 10) (ha0 : ∀ a, a ≠ B + 18 → L a = L0 a) (hf : ∀ v, v < 21 → L (B + 18) v = f v) (hk : ∀ L', (∀ a, a ≠ B + 18 → L' a = L0 a) → (∀ v, v < 21 → L' (B + 18) v = sty d f 20 v) → ∀ w7 : Int64, V E kX11_stands (rmOf 1 0 0) Q 0 0 S I L' 140 [(0, .ref B), (1, .int (nI b)), (2, .int (nI n)), (3, .long (lN d)), (5, .int (nI k)), (6, .int (nI 21))] []) : V E kX11_stands (rmOf 1 0 0) Q 0 0 S I L 79 [(0, .ref B), (1, .int (nI b)), (2, .int (nI n)), (3, .long (lN d)), (5, .int (nI k)), (6, .int (nI 1))] [] := by
  have e10 : (10 : Int64) - lN d = lN (10 - d) := by rw [show (10 : Int64) = lN 10 from by decide]; exact lN_sub hd
  have key : ∀ j, j ≤ 20 → ∀ L', (∀ a, a ≠ B + 18 → L' a = L0 a) → (∀ v, v < 21 → L' (B + 18) v = sty d f j v) → V E kX11_stands (rmOf 1 0 0) Q 0 0 S I L' 79 [(0, .ref B), (1, .int (nI b)), (2, .int (nI n)), (3, .long (lN d)), (5, .int (nI k)), (6, .int (nI (j + 1)))] [] := by
    refine loopUp ?_ ?_
    · intro L' ha hv
      refine V_iload (pc := 79) dX11_stands_79 rfl ?_
      refine V_bipush (pc := 81) (v := nI 20) dX11_stands_81 (by decide) ?_
      refine V_icmp_gtN (pc := 83) (tgt := 140) dX11_stands_83 (by decide) (by omega) (by omega) (fun c83 => ?_) (fun n83 => absurd n83 (by omega))
      exact hk L' ha hv (lN 0)
    · intro j hj ih L' ha hv
      refine V_iload (pc := 79) dX11_stands_79 rfl ?_
      refine V_bipush (pc := 81) (v := nI 20) dX11_stands_81 (by decide) ?_
      refine V_icmp_gtN (pc := 83) (tgt := 140) dX11_stands_83 (by decide) (by omega) (by omega) (fun c83 => absurd c83 (by omega)) (fun n83 => ?_)
      refine V_aload_n (pc := 86) dX11_stands_86 rfl ?_
      refine V_getR (pc := 87) 11 15 dX11_stands_87 flX11_53 (by decide) h11.o h11.R15 ?_
      refine V_iload (pc := 90) dX11_stands_90 rfl ?_
      refine V_laloadE (pc := 92) dX11_stands_92 h11.A15 (by first | decide | omega) (by omega) (hv (j + 1) (by omega)) ?_
      refine V_lstore (pc := 93) (ls' := [(0, _), (1, _), (2, _), (3, _), (5, _), (6, _), (7, _)]) dX11_stands_93 (by decide) rfl ?_
      refine V_aload_n (pc := 95) dX11_stands_95 rfl ?_
      refine V_getR (pc := 96) 11 15 dX11_stands_96 flX11_53 (by decide) h11.o h11.R15 ?_
      refine V_iload (pc := 99) dX11_stands_99 rfl ?_
      refine V_lload (pc := 101) dX11_stands_101 rfl ?_
      refine V_ldc2 (pc := 103) dX11_stands_103 coX11_378 ?_
      refine V_lload_n (pc := 106) dX11_stands_106 rfl ?_
      refine V_lsub (pc := 107) dX11_stands_107 ?_
      rw [e10]
      refine V_lmul (pc := 108) dX11_stands_108 ?_
      refine V_ldc2 (pc := 109) dX11_stands_109 coX11_378 ?_
      refine V_ldiv (pc := 112) dX11_stands_112 (by first | decide | assumption) ?_
      refine V_lastore (pc := 113) dX11_stands_113 h11.A15 (by first | decide | omega) (by omega) ?_
      refine V_aload_n (pc := 114) dX11_stands_114 rfl ?_
      refine V_getR (pc := 115) 11 15 dX11_stands_115 flX11_53 (by decide) h11.o h11.R15 ?_
      refine V_iload (pc := 118) dX11_stands_118 rfl ?_
      refine V_iconst (pc := 120) (v := nI 1) dX11_stands_120 (by decide) ?_
      refine V_isubN (pc := 121) dX11_stands_121 (by omega) ?_
      refine V_dup2 (pc := 122) dX11_stands_122 rfl rfl ?_
      refine V_laloadE (pc := 123) dX11_stands_123 h11.A15 (by first | decide | omega) (by omega) (show (_ : Int64) = sty d f j j by rw [up2_nej (by omega), show j + 1 - 1 = j by omega]; exact hv j (by omega)) ?_
      refine V_lload (pc := 124) dX11_stands_124 rfl ?_
      refine V_lload_n (pc := 126) dX11_stands_126 rfl ?_
      refine V_lmul (pc := 127) dX11_stands_127 ?_
      refine V_ldc2 (pc := 128) dX11_stands_128 coX11_378 ?_
      refine V_ldiv (pc := 131) dX11_stands_131 (by first | decide | assumption) ?_
      refine V_ladd (pc := 132) dX11_stands_132 ?_
      refine V_lastore (pc := 133) dX11_stands_133 h11.A15 (by first | decide | omega) (by omega) ?_
      refine V_loc [0, 1, 2, 3, 4, 5] rfl ?_
      refine V_iinc1 (pc := 134) (ls' := [(0, _), (1, _), (2, _), (3, _), (5, _), (6, _)]) dX11_stands_134 rfl (by decide) rfl ?_
      refine V_goto (pc := 137) (tgt := 79) dX11_stands_137 (by decide) ?_
      refine ih _ (fun a h => by rw [up2_row h, up2_row h]; exact ha a h) (fun v hv2 => ?_)
      rw [sty, show j + 1 - 1 = j by omega]
      by_cases e : v = j
      · subst e; rw [up2_self, upf_s]
      · rw [up2_nej e, upf_n e]
        by_cases e2 : v = j + 1
        · subst e2; rw [up2_self, upf_s]
        · rw [up2_nej e2, upf_n e2]; exact hv v hv2
  exact key 0 (by omega) L ha0 hf
theorem lp_stC2 (h11 : Lay11 E S B) {Q : QT} {b n d : Nat} {f : Nat → Int64} {L0 : LT} (hd : d ≤ 10) (hn : n < 61) (ha0 : ∀ a, a ≠ B + 18 → L a = L0 a) (hf : ∀ v, v < 21 → L (B + 18) v = f v) (hk : ∀ L', (∀ a, a ≠ B + 18 → L' a = L0 a) → (∀ v, v < 21 → L' (B + 18) v = stk d f n v) → V E kX11_stands (rmOf 1 0 0) Q 0 0 S I L' 146 [(0, .ref B), (1, .int (nI b)), (2, .int (nI n)), (3, .long (lN d)), (5, .int (nI n))] []) : V E kX11_stands (rmOf 1 0 0) Q 0 0 S I L 70 [(0, .ref B), (1, .int (nI b)), (2, .int (nI n)), (3, .long (lN d)), (5, .int (nI 0))] [] := by
  have key : ∀ j, j ≤ n → ∀ L', (∀ a, a ≠ B + 18 → L' a = L0 a) → (∀ v, v < 21 → L' (B + 18) v = stk d f j v) → V E kX11_stands (rmOf 1 0 0) Q 0 0 S I L' 70 [(0, .ref B), (1, .int (nI b)), (2, .int (nI n)), (3, .long (lN d)), (5, .int (nI j))] [] := by
    refine loopUp ?_ ?_
    · intro L' ha hv
      refine V_iload (pc := 70) dX11_stands_70 rfl ?_
      refine V_iload_n (pc := 72) dX11_stands_72 rfl ?_
      refine V_icmp_geN (pc := 73) (tgt := 146) dX11_stands_73 (by decide) (by omega) (by omega) (fun c73 => ?_) (fun n73 => absurd n73 (by omega))
      exact hk L' ha hv
    · intro j hj ih L' ha hv
      refine V_iload (pc := 70) dX11_stands_70 rfl ?_
      refine V_iload_n (pc := 72) dX11_stands_72 rfl ?_
      refine V_icmp_geN (pc := 73) (tgt := 146) dX11_stands_73 (by decide) (by omega) (by omega) (fun c73 => absurd c73 (by omega)) (fun n73 => ?_)
      refine V_iconst (pc := 76) (v := nI 1) dX11_stands_76 (by decide) ?_
      refine V_istore (pc := 77) (ls' := [(0, _), (1, _), (2, _), (3, _), (5, _), (6, _)]) dX11_stands_77 (by decide) rfl ?_
      refine lp_stC1 h11 hd ha hv (fun L2 ha2 hv2 _ => ?_)
      refine V_loc [0, 1, 2, 3, 4] rfl ?_
      refine V_iinc1 (pc := 140) (ls' := [(0, _), (1, _), (2, _), (3, _), (5, _)]) dX11_stands_140 rfl (by decide) rfl ?_
      refine V_goto (pc := 143) (tgt := 70) dX11_stands_143 (by decide) ?_
      exact ih L2 ha2 hv2
  exact key 0 (by omega) L ha0 hf
theorem lp_stC3 (h11 : Lay11 E S B) {b n d : Nat} {f : Nat → Int64} {post : Option Value → ST → IT → LT → Prop} (hf : ∀ v, v < 21 → L (B + 18) v = f v) (hp : post (some (.long (stl f 20))) S I L) : V E kX11_stands (rmOf 1 0 0) (QM E post 0 0) 0 0 S I L 152 [(0, .ref B), (1, .int (nI b)), (2, .int (nI n)), (3, .long (lN d)), (5, .long (lN 0)), (7, .int (nI 1))] [] := by
  refine loopUp (P := fun j => V E kX11_stands (rmOf 1 0 0) (QM E post 0 0) 0 0 S I L 152 [(0, .ref B), (1, .int (nI b)), (2, .int (nI n)), (3, .long (lN d)), (5, .long (stl f j)), (7, .int (nI (j + 1)))] []) (n := 20) ?_ ?_ 0 (by omega)
  · skip
    refine V_iload (pc := 152) dX11_stands_152 rfl ?_
    refine V_bipush (pc := 154) (v := nI 20) dX11_stands_154 (by decide) ?_
    refine V_icmp_gtN (pc := 156) (tgt := 177) dX11_stands_156 (by decide) (by omega) (by omega) (fun c156 => ?_) (fun n156 => absurd n156 (by omega))
    refine V_lload (pc := 177) dX11_stands_177 rfl ?_
    refine V_lret (pc := 179) dX11_stands_179 rfl (by first | decide | omega) (by first | decide | omega) ?_
    exact hp
  · intro j hj ih
    rw [stl] at ih
    refine V_iload (pc := 152) dX11_stands_152 rfl ?_
    refine V_bipush (pc := 154) (v := nI 20) dX11_stands_154 (by decide) ?_
    refine V_icmp_gtN (pc := 156) (tgt := 177) dX11_stands_156 (by decide) (by omega) (by omega) (fun c156 => absurd c156 (by omega)) (fun n156 => ?_)
    refine V_lload (pc := 159) dX11_stands_159 rfl ?_
    refine V_aload_n (pc := 161) dX11_stands_161 rfl ?_
    refine V_getR (pc := 162) 11 15 dX11_stands_162 flX11_53 (by decide) h11.o h11.R15 ?_
    refine V_iload (pc := 165) dX11_stands_165 rfl ?_
    refine V_laloadE (pc := 167) dX11_stands_167 h11.A15 (by first | decide | omega) (by omega) (hf (j + 1) (by omega)) ?_
    refine V_ladd (pc := 168) dX11_stands_168 ?_
    refine V_lstore (pc := 169) (ls' := [(0, _), (1, _), (2, _), (3, _), (5, _), (7, _)]) dX11_stands_169 (by decide) rfl ?_
    refine V_iinc1 (pc := 171) (ls' := [(0, _), (1, _), (2, _), (3, _), (5, _), (7, _)]) dX11_stands_171 rfl (by decide) rfl ?_
    refine V_goto (pc := 174) (tgt := 152) dX11_stands_174 (by decide) ?_
    exact ih
theorem c_X11_stands (h11 : Lay11 E S B) (hR : CR E S B I A) (hA : wfA A) {x y : Int32} : Cc E kX11_stands 1 [.ref B, .int x, .int y] S I L B (.long (spStands A x y)) A := by
  have hq := hA.q
  have hnb := hq.nb
  have hda := hq.da
  have hv := hR.1.1
  have hda1 : aq A (5 + 1) ≤ 10 := hda
  refine C_of (by decide) (Nat.le_of_ble_eq_true rfl) ?_
  refine V_aload_n (pc := 0) dX11_stands_0 rfl ?_
  refine V_getR (pc := 1) 11 0 dX11_stands_1 flX11_91 (by decide) h11.o h11.R0 ?_
  refine V_getR (pc := 4) 10 0 dX11_stands_4 flX11_116 (by decide) h11.O0.o h11.O0.R0 ?_
  refine V_iload_n (pc := 7) dX11_stands_7 rfl ?_
  refine V_callVd (pc := 8) (ci := 9) (c_X9_hasBox h11.O0.O0 hv hq) dX11_stands_8 mlX11_140 mkX9_hasBox rfl rfl h11.O0.O0.o ⟨by decide, rfl⟩ ⟨Nat.le_of_ble_eq_true rfl, Nat.le_of_ble_eq_true rfl⟩ (Nat.le_of_ble_eq_true rfl) ⟨Nat.le_of_ble_eq_true rfl, Nat.le_of_ble_eq_true rfl⟩ ?_
  refine V_if_eqB (pc := 11) (tgt := 21) dX11_stands_11 (by decide) (fun c11 => ?_) (fun n11 => ?_)
  · skip
    refine V_ldc2 (pc := 21) dX11_stands_21 coX11_368 ?_
    refine V_lret (pc := 24) dX11_stands_24 rfl (by first | decide | omega) (by first | decide | omega) ?_
    first
      | (rw [spStands, if_neg (fun w => by rw [w.1] at c11; exact absurd c11 (by decide))]; exact ⟨rfl, rfl, hR, FrC.rf⟩)
      | (rw [spStands, if_neg (fun w => by rw [w.2] at n18; exact absurd n18 (by decide))]; exact ⟨rfl, rfl, hR, FrC.rf⟩)
      | fail
  · skip
    refine V_iload_n (pc := 14) dX11_stands_14 rfl ?_
    refine V_callSd (pc := 15) (c_X11_isYears) dX11_stands_15 mlX11_175 mkX11_isYears rfl rfl ⟨Nat.le_of_ble_eq_true rfl, Nat.le_of_ble_eq_true rfl⟩ (Nat.le_of_ble_eq_true rfl) ⟨Nat.le_of_ble_eq_true rfl, Nat.le_of_ble_eq_true rfl⟩ ?_
    refine V_if_neB (pc := 18) (tgt := 25) dX11_stands_18 (by decide) (fun c18 => ?_) (fun n18 => ?_)
    · skip
      rw [spStands, if_pos ⟨n11, c18⟩]
      obtain ⟨b, hb, hx⟩ := bnd_ex (by omega) n11
      obtain ⟨n, hn, hy⟩ := bnd_ex (by omega) c18
      subst hx hy
      rw [cln_nI (by omega), cln_nI (by omega)]
      have hsp := hq.sp b (by omega)
      refine V_aload_n (pc := 25) dX11_stands_25 rfl ?_
      refine V_getR (pc := 26) 11 0 dX11_stands_26 flX11_91 (by decide) h11.o h11.R0 ?_
      refine V_getR (pc := 29) 10 0 dX11_stands_29 flX11_116 (by decide) h11.O0.o h11.O0.R0 ?_
      refine V_getR (pc := 32) 9 6 dX11_stands_32 flX11_208 (by decide) h11.O0.O0.o h11.O0.O0.R6 ?_
      refine V_iconst (pc := 35) (v := nI 1) dX11_stands_35 (by decide) ?_
      refine V_ialoadE (pc := 36) dX11_stands_36 h11.O0.O0.A6 (by first | decide | omega) (by omega) (hv.2.2.2.2.2.2 1 (by omega)) ?_
      refine V_i2lN (pc := 37) dX11_stands_37 (by omega) ?_
      refine V_lstore_n (pc := 38) (ls' := [(0, _), (1, _), (2, _), (3, _)]) dX11_stands_38 (by decide) rfl ?_
      refine V_aload_n (pc := 39) dX11_stands_39 rfl ?_
      refine V_getR (pc := 40) 11 15 dX11_stands_40 flX11_53 (by decide) h11.o h11.R15 ?_
      refine V_lconst (pc := 43) (v := lN 0) dX11_stands_43 (by decide) ?_
      refine V_callSn (pc := 44) (c_J7_fill_d0a16 h11.A15 (by omega)) dX11_stands_44 mlX11_370 mkJ7_fill_d0a16 rfl rfl ⟨Nat.le_of_ble_eq_true rfl, Nat.le_of_ble_eq_true rfl⟩ (Nat.le_of_ble_eq_true rfl) ⟨Nat.le_of_ble_eq_true rfl, Nat.le_of_ble_eq_true rfl⟩ ?_
      refine V_aload_n (pc := 47) dX11_stands_47 rfl ?_
      refine V_getR (pc := 48) 11 15 dX11_stands_48 flX11_53 (by decide) h11.o h11.R15 ?_
      refine V_aload_n (pc := 51) dX11_stands_51 rfl ?_
      refine V_getR (pc := 52) 11 0 dX11_stands_52 flX11_91 (by decide) h11.o h11.R0 ?_
      refine V_getR (pc := 55) 10 0 dX11_stands_55 flX11_116 (by decide) h11.O0.o h11.O0.R0 ?_
      refine V_getR (pc := 58) 9 3 dX11_stands_58 flX11_134 (by decide) h11.O0.O0.o h11.O0.O0.R3 ?_
      refine V_iload_n (pc := 61) dX11_stands_61 rfl ?_
      refine V_ialoadE (pc := 62) dX11_stands_62 h11.O0.O0.A3 (by first | decide | omega) (by omega) (hv.2.2.2.1 b (by omega)) ?_
      refine V_ldc2 (pc := 63) dX11_stands_63 coX11_376 ?_
      refine V_lastore (pc := 66) dX11_stands_66 h11.A15 (by first | decide | omega) (by omega) ?_
      refine V_iconst (pc := 67) (v := nI 0) dX11_stands_67 (by decide) ?_
      refine V_istore (pc := 68) (ls' := [(0, _), (1, _), (2, _), (3, _), (5, _)]) dX11_stands_68 (by decide) rfl ?_
      refine lp_stC2 (f := st0 (aq A (62 + b))) (L0 := L) h11 hda1 hn (fun a ha => by rw [up2_row ha, upr_row ha]) (fun v hv2 => ?_) (fun L2 ha2 hv2 => ?_)
      · unfold st0
        by_cases z : v = aq A (62 + b)
        · rw [if_pos z, z, up2_self]
        · rw [if_neg z, up2_nej z, upr_self, if_pos hv2]
      · refine V_lconst (pc := 146) (v := lN 0) dX11_stands_146 (by decide) ?_
        refine V_lstore (pc := 147) (ls' := [(0, _), (1, _), (2, _), (3, _), (5, _)]) dX11_stands_147 (by decide) rfl ?_
        refine V_iconst (pc := 149) (v := nI 1) dX11_stands_149 (by decide) ?_
        refine V_istore (pc := 150) (ls' := [(0, _), (1, _), (2, _), (3, _), (5, _), (7, _)]) dX11_stands_150 (by decide) rfl ?_
        exact lp_stC3 h11 hv2 ⟨rfl, rfl, hR, fun a ha => ⟨rfl, ha2 a (by omega)⟩⟩
    · skip
      refine V_ldc2 (pc := 21) dX11_stands_21 coX11_368 ?_
      refine V_lret (pc := 24) dX11_stands_24 rfl (by first | decide | omega) (by first | decide | omega) ?_
      first
        | (rw [spStands, if_neg (fun w => by rw [w.1] at c11; exact absurd c11 (by decide))]; exact ⟨rfl, rfl, hR, FrC.rf⟩)
        | (rw [spStands, if_neg (fun w => by rw [w.2] at n18; exact absurd n18 (by decide))]; exact ⟨rfl, rfl, hR, FrC.rf⟩)
        | fail
end CS
