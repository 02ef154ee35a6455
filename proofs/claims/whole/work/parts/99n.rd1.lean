/-! THE READER: letters, digits, words -/
def TR (E : EnT) (S : ST) (I : IT) (a : Nat) (t : Nat → Nat) (n : Nat) : Prop := isA E S a 0 400 ∧ (∀ i, i < n → I a i = nI (t i)) ∧ n ≤ 400 ∧ ∀ i, i < n → t i < 256
def wch (j : Nat) : Nat := (wByt.getD j 0).toInt.toNat
theorem wch_n : ∀ j, j < 146 → wByt.getD j 0 = nI (wch j) ∧ (wch j = 32 ∨ (97 ≤ wch j ∧ wch j ≤ 122)) := by decide +kernel
def wst : Nat → Nat × Nat | 0 => (0, 0) | i + 1 => if wch i = 32 then ((wst i).1 + 1, i + 1) else wst i
theorem wst_ok : ∀ i, i < 147 → (wst i).1 < 29 ∧ (wst i).2 ≤ i ∧ ((i = 146 ∨ wch i = 32) → i - (wst i).2 ≤ 9 ∧ 0 < i - (wst i).2 ∧ hsh wch (wst i).2 (i - (wst i).2) = (tcv (wst i).1).toInt) := by decide +kernel
theorem wst_lt : ∀ i, i < 147 → ∀ j, j < i → (wst i).2 ≤ j → 97 ≤ wch j ∧ wch j ≤ 122 := by decide +kernel
theorem wst_all : ∀ w, w < 29 → ∃ i, i < 147 ∧ (i = 146 ∨ wch i = 32) ∧ (wst i).1 = w := by decide +kernel
theorem wst_b {i : Nat} (h : wch i = 32) : wst (i + 1) = ((wst i).1 + 1, i + 1) := by rw [wst, if_pos h]
theorem wst_o {i : Nat} (h : ¬ wch i = 32) : wst (i + 1) = wst i := by rw [wst, if_neg h]
theorem hsh_s {t : Nat → Nat} {f i : Nat} (h : i < 10) : hsh t f (i + 1) = hsh t f i * 32 + (t (f + i) : Int) - 96 := by rw [hsh, if_pos h]
theorem hsh_b {t : Nat → Nat} {f : Nat} : ∀ (i : Nat), i ≤ 10 → (∀ j, j < i → 97 ≤ t (f + j) ∧ t (f + j) ≤ 122) → 0 ≤ hsh t f i ∧ hsh t f i < 32 ^ i ∧ (0 < i → 0 < hsh t f i) := by
  intro i
  induction i with
  | zero => intro _ _; exact ⟨Int.le_refl 0, (by decide : (0 : Int) < 32 ^ 0), fun h => absurd h (by omega)⟩
  | succ i ih =>
    intro hi hj
    have h1 := ih (by omega) (fun j hj' => hj j (by omega))
    have h2 := hj i (by omega)
    rw [hsh_s (by omega)]
    have h3 : (32 : Int) ^ (i + 1) = 32 ^ i * 32 := Int.pow_succ ..
    rw [h3]
    exact ⟨by omega, by omega, by omega⟩
theorem hsh_inj {t u : Nat → Nat} {f g : Nat} : ∀ (i j : Nat), i ≤ 10 → j ≤ 10 → (∀ k, k < i → 97 ≤ t (f + k) ∧ t (f + k) ≤ 122) → (∀ k, k < j → 97 ≤ u (g + k) ∧ u (g + k) ≤ 122) → hsh t f i = hsh u g j → i = j ∧ ∀ k, k < i → t (f + k) = u (g + k) := by
  intro i
  induction i with
  | zero =>
    intro j _ hj _ h2 e
    have h3 := hsh_b j hj h2
    have h4 : hsh t f 0 = 0 := rfl
    have : j = 0 := by omega
    exact ⟨this.symm, fun k hk => by omega⟩
  | succ i ih =>
    intro j hi hj h1 h2 e
    cases j with
    | zero =>
      have h3 := hsh_b (i + 1) hi h1
      have h4 : hsh u g 0 = 0 := rfl
      omega
    | succ j =>
      rw [hsh_s (by omega), hsh_s (by omega)] at e
      have a1 := h1 i (by omega)
      have a2 := h2 j (by omega)
      obtain ⟨e1, e2⟩ := ih j (by omega) (by omega) (fun k hk => h1 k (by omega)) (fun k hk => h2 k (by omega)) (by omega)
      subst e1
      refine ⟨rfl, fun k hk => ?_⟩
      by_cases ek : k = i
      · rw [ek]; omega
      · exact e2 k (by omega)
theorem hsh_big {t : Nat → Nat} {f i : Nat} (h : 10 < i) : hsh t f i = -1 := by
  obtain ⟨i, rfl⟩ : ∃ j, i = j + 1 := ⟨i - 1, by omega⟩
  rw [hsh, if_neg (by omega)]
def wmt (t : Nat → Nat) (f m i : Nat) : Prop := i - (wst i).2 = m ∧ ∀ j, j < m → t (f + j) = wch ((wst i).2 + j)
theorem i64_to {x : Int} (h1 : -2 ≤ x) (h2 : x < 32 ^ 10) : (i64 x).toInt = x := by
  have : (32 : Int) ^ 10 = 1125899906842624 := by decide
  have h3 : (Int64.size : Int) = 18446744073709551616 := rfl
  unfold i64; rw [Int64.toInt_ofInt]; rw [Int.bmod_def, h3]; split <;> omega
theorem wmt_y {t : Nat → Nat} {f m i : Nat} (hi : i < 147) (he : i = 146 ∨ wch i = 32) (h : wmt t f m i) : tcw (i64 (hsh t f m)) = (wst i).1 := by
  obtain ⟨h1, h2⟩ := h
  obtain ⟨w1, w2, w3⟩ := wst_ok i hi
  obtain ⟨w4, w5, w6⟩ := w3 he
  rw [tcw_i w1]
  have e : ∀ k, k ≤ m → hsh t f k = hsh wch (wst i).2 k := by
    intro k
    induction k with
    | zero => intro _; rfl
    | succ k ih => intro hk; rw [hsh_s (by omega), hsh_s (by omega), ih (by omega), h2 k (by omega)]
  rw [e m (Nat.le_refl _), ← h1, w6]
  apply Int64.toInt_inj.mp
  unfold i64
  rw [Int64.ofInt_toInt]
theorem wmt_n {t : Nat → Nat} {f m : Nat} (hl : ∀ j, j < m → 97 ≤ t (f + j) ∧ t (f + j) ≤ 122) (h : ∀ i, i < 147 → (i = 146 ∨ wch i = 32) → ¬ wmt t f m i) : tcw (i64 (hsh t f m)) = 90 := by
  rcases tcw_le (i64 (hsh t f m)) with h1 | h1
  · exfalso
    obtain ⟨i, hi, he, hw⟩ := wst_all _ (Nat.lt_succ_of_le h1)
    obtain ⟨w1, w2, w3⟩ := wst_ok i hi
    obtain ⟨w4, w5, w6⟩ := w3 he
    have h2 := (tcw_i (Nat.lt_succ_of_le h1)).mp rfl
    rw [← hw] at h2
    have h3 := congrArg Int64.toInt h2
    rw [← w6] at h3
    have hL := wst_lt i hi
    have hLk : ∀ k, k < i - (wst i).2 → 97 ≤ wch ((wst i).2 + k) ∧ wch ((wst i).2 + k) ≤ 122 := fun k hk => hL _ (by omega) (by omega)
    have b2 := hsh_b (i - (wst i).2) (by omega) hLk
    by_cases hm : 10 < m
    · rw [hsh_big hm, i64_to (by omega) (by decide)] at h3
      omega
    · have b1 := hsh_b m (by omega) hl
      have b3 : (32 : Int) ^ m ≤ 32 ^ 10 := by
        have : (32 : Nat) ^ m ≤ 32 ^ 10 := Nat.pow_le_pow_right (by decide) (by omega)
        exact_mod_cast this
      rw [i64_to (by omega) (by omega)] at h3
      obtain ⟨e1, e2⟩ := hsh_inj m _ (by omega) (by omega) hl hLk h3
      exact h i hi he ⟨e1.symm, e2⟩
  · exact h1
theorem eor_t1 {lt dg x y : Bool} (h1 : lt = true) (h2 : x = true) : ((lt && x) || (dg && y)) = true := by subst h1 h2; rfl
theorem eor_t2 {lt dg x y : Bool} (h1 : dg = true) (h2 : y = true) : ((lt && x) || (dg && y)) = true := by subst h1 h2; cases lt <;> cases x <;> rfl
theorem eor_f {lt dg x y : Bool} (h1 : lt = false ∨ x = false) (h2 : dg = false ∨ y = false) : ((lt && x) || (dg && y)) = false := by cases lt <;> cases x <;> cases dg <;> cases y <;> simp_all
theorem srt_1 {t : Nat → Nat} {n p : Nat} (h : p ≠ n) (hl : isL (t p) = true) : srt t n p = 1 := by unfold srt; rw [if_neg h, if_pos hl]
theorem isLD {c : Nat} (h : isL c = true) : isD c = false := by unfold isL at h; unfold isD; simp at h ⊢; omega
theorem srt_2 {t : Nat → Nat} {n p : Nat} (h : p ≠ n) (hl : isL (t p) = false) (hd : isD (t p) = true) : srt t n p = 2 := by unfold srt; rw [if_neg h, if_neg (by rw [hl]; decide), if_pos hd]
theorem srt_3 {t : Nat → Nat} {n p : Nat} (h : p ≠ n) (hl : isL (t p) = false) (hd : isD (t p) = false) : srt t n p = 3 := by unfold srt; rw [if_neg h, if_neg (by rw [hl]; decide), if_neg (by rw [hd]; decide)]
theorem enT_1 {t : Nat → Nat} {n p : Nat} (h : srt t n p = 1) : enT t n p = run1 (fun j => isL (t j)) (n - p) p := by unfold enT; rw [if_pos h]
theorem enT_2 {t : Nat → Nat} {n p : Nat} (h : srt t n p = 2) : enT t n p = run1 (fun j => isD (t j)) (n - p) p := by unfold enT; rw [if_neg (by omega), if_pos h]
theorem enT_3 {t : Nat → Nat} {n p : Nat} (h : srt t n p = 3) : enT t n p = p + 1 := by unfold enT; rw [if_neg (by omega), if_neg (by omega), if_pos h]
section R1
variable {E : EnT} {S : ST} {I : IT} {L : LT} {a n : Nat} {t : Nat → Nat}
theorem c_X5_isLetter {c : Nat} (hc : c < 256) : Cd E kX5_isLetter 0 0 0 [.int (nI c)] S I L (.int (b2i (isL c))) S I L := by
  refine C_of (by decide) (Nat.le_of_ble_eq_true rfl) ?_
  refine V_iload_n (pc := 0) dX5_isLetter_0 rfl ?_
  refine V_bipush (pc := 1) (v := nI 97) dX5_isLetter_1 (by decide) ?_
  refine V_icmp_ltN (pc := 3) (tgt := 16) dX5_isLetter_3 (by decide) (by omega) (by omega) (fun c3 => ?_) (fun n3 => ?_)
  · skip
    rw [show isL c = false from decide_eq_false (by omega)]
    refine V_iconst (pc := 16) (v := nI 0) dX5_isLetter_16 (by decide) ?_
    refine V_zretB (pc := 17) (p := false) dX5_isLetter_17 rfl rfl (by first | decide | omega) (by first | decide | omega) ?_
    exact ⟨rfl, rfl, rfl, rfl⟩
  · skip
    refine V_iload_n (pc := 6) dX5_isLetter_6 rfl ?_
    refine V_bipush (pc := 7) (v := nI 122) dX5_isLetter_7 (by decide) ?_
    refine V_icmp_gtN (pc := 9) (tgt := 16) dX5_isLetter_9 (by decide) (by omega) (by omega) (fun c9 => ?_) (fun n9 => ?_)
    · skip
      rw [show isL c = false from decide_eq_false (by omega)]
      refine V_iconst (pc := 16) (v := nI 0) dX5_isLetter_16 (by decide) ?_
      refine V_zretB (pc := 17) (p := false) dX5_isLetter_17 rfl rfl (by first | decide | omega) (by first | decide | omega) ?_
      exact ⟨rfl, rfl, rfl, rfl⟩
    · skip
      rw [show isL c = true from decide_eq_true (by omega)]
      refine V_iconst (pc := 12) (v := nI 1) dX5_isLetter_12 (by decide) ?_
      refine V_goto (pc := 13) (tgt := 17) dX5_isLetter_13 (by decide) ?_
      refine V_zretB (pc := 17) (p := true) dX5_isLetter_17 rfl rfl (by first | decide | omega) (by first | decide | omega) ?_
      exact ⟨rfl, rfl, rfl, rfl⟩
theorem c_X5_isDigit {c : Nat} (hc : c < 256) : Cd E kX5_isDigit 0 0 0 [.int (nI c)] S I L (.int (b2i (isD c))) S I L := by
  refine C_of (by decide) (Nat.le_of_ble_eq_true rfl) ?_
  refine V_iload_n (pc := 0) dX5_isDigit_0 rfl ?_
  refine V_bipush (pc := 1) (v := nI 48) dX5_isDigit_1 (by decide) ?_
  refine V_icmp_ltN (pc := 3) (tgt := 16) dX5_isDigit_3 (by decide) (by omega) (by omega) (fun c3 => ?_) (fun n3 => ?_)
  · skip
    rw [show isD c = false from decide_eq_false (by omega)]
    refine V_iconst (pc := 16) (v := nI 0) dX5_isDigit_16 (by decide) ?_
    refine V_zretB (pc := 17) (p := false) dX5_isDigit_17 rfl rfl (by first | decide | omega) (by first | decide | omega) ?_
    exact ⟨rfl, rfl, rfl, rfl⟩
  · skip
    refine V_iload_n (pc := 6) dX5_isDigit_6 rfl ?_
    refine V_bipush (pc := 7) (v := nI 57) dX5_isDigit_7 (by decide) ?_
    refine V_icmp_gtN (pc := 9) (tgt := 16) dX5_isDigit_9 (by decide) (by omega) (by omega) (fun c9 => ?_) (fun n9 => ?_)
    · skip
      rw [show isD c = false from decide_eq_false (by omega)]
      refine V_iconst (pc := 16) (v := nI 0) dX5_isDigit_16 (by decide) ?_
      refine V_zretB (pc := 17) (p := false) dX5_isDigit_17 rfl rfl (by first | decide | omega) (by first | decide | omega) ?_
      exact ⟨rfl, rfl, rfl, rfl⟩
    · skip
      rw [show isD c = true from decide_eq_true (by omega)]
      refine V_iconst (pc := 12) (v := nI 1) dX5_isDigit_12 (by decide) ?_
      refine V_goto (pc := 13) (tgt := 17) dX5_isDigit_13 (by decide) ?_
      refine V_zretB (pc := 17) (p := true) dX5_isDigit_17 rfl rfl (by first | decide | omega) (by first | decide | omega) ?_
      exact ⟨rfl, rfl, rfl, rfl⟩
theorem lp_eor {Q : QT} {p : Nat} {lt dg : Bool} (hT : TR E S I a t n) : ∀ (k j : Nat), j + k = n → V E kX5_endOfRow (rmOf 1 0 0) Q 0 0 S I L 61 [(0, .ref a), (1, .int (nI p)), (2, .int (nI n)), (3, .int (b2i lt)), (4, .int (b2i dg)), (5, .int (nI (run1 (fun j => (lt && isL (t j)) || (dg && isD (t j))) k j)))] [] → V E kX5_endOfRow (rmOf 1 0 0) Q 0 0 S I L 20 [(0, .ref a), (1, .int (nI p)), (2, .int (nI n)), (3, .int (b2i lt)), (4, .int (b2i dg)), (5, .int (nI j))] [] := by
  obtain ⟨hA, ht, hn, h256⟩ := hT
  intro k
  induction k with
  | zero =>
    intro j hj hk
    rw [run1_0] at hk
    refine V_iload (pc := 20) dX5_endOfRow_20 rfl ?_
    refine V_iload_n (pc := 22) dX5_endOfRow_22 rfl ?_
    refine V_icmp_geN (pc := 23) (tgt := 61) dX5_endOfRow_23 (by decide) (by omega) (by omega) (fun c23 => ?_) (fun n23 => absurd n23 (by omega))
    exact hk
  | succ k ih =>
    intro j hj hk
    have hb := h256 j (by omega)
    have hi := ht j (by omega)
    refine V_iload (pc := 20) dX5_endOfRow_20 rfl ?_
    refine V_iload_n (pc := 22) dX5_endOfRow_22 rfl ?_
    refine V_icmp_geN (pc := 23) (tgt := 61) dX5_endOfRow_23 (by decide) (by omega) (by omega) (fun c23 => absurd c23 (by omega)) (fun n23 => ?_)
    refine V_iload_n (pc := 26) dX5_endOfRow_26 rfl ?_
    refine V_if_eqB (pc := 27) (tgt := 40) dX5_endOfRow_27 (by decide) (fun c27 => ?_) (fun n27 => ?_)
    · skip
      refine V_iload (pc := 40) dX5_endOfRow_40 rfl ?_
      refine V_if_eqB (pc := 42) (tgt := 61) dX5_endOfRow_42 (by decide) (fun c42 => ?_) (fun n42 => ?_)
      · skip
        first | rw [run1_f (eor_f (Or.inl c27) (Or.inl c42))] at hk | rw [run1_f (eor_f (Or.inr n37) (Or.inl c42))] at hk | rw [run1_f (eor_f (Or.inl c27) (Or.inr c52))] at hk | rw [run1_f (eor_f (Or.inr n37) (Or.inr c52))] at hk | fail
        exact hk
      · skip
        refine V_aload_n (pc := 45) dX5_endOfRow_45 rfl ?_
        refine V_iload (pc := 46) dX5_endOfRow_46 rfl ?_
        refine V_ialoadE (pc := 48) dX5_endOfRow_48 (by assumption) (by first | decide | omega) (by omega) (hi) ?_
        refine V_callSd (pc := 49) (c_X5_isDigit hb) dX5_endOfRow_49 mlX5_91 mkX5_isDigit rfl rfl ⟨Nat.le_of_ble_eq_true rfl, Nat.le_of_ble_eq_true rfl⟩ (Nat.le_of_ble_eq_true rfl) ⟨Nat.le_of_ble_eq_true rfl, Nat.le_of_ble_eq_true rfl⟩ ?_
        refine V_if_eqB (pc := 52) (tgt := 61) dX5_endOfRow_52 (by decide) (fun c52 => ?_) (fun n52 => ?_)
        · skip
          first | rw [run1_f (eor_f (Or.inl c27) (Or.inl c42))] at hk | rw [run1_f (eor_f (Or.inr n37) (Or.inl c42))] at hk | rw [run1_f (eor_f (Or.inl c27) (Or.inr c52))] at hk | rw [run1_f (eor_f (Or.inr n37) (Or.inr c52))] at hk | fail
          exact hk
        · skip
          refine V_iinc1 (pc := 55) (ls' := [(0, _), (1, _), (2, _), (3, _), (4, _), (5, _)]) dX5_endOfRow_55 rfl (by decide) rfl ?_
          refine V_goto (pc := 58) (tgt := 20) dX5_endOfRow_58 (by decide) ?_
          refine ih (j + 1) (by omega) ?_
          first | rw [run1_t (eor_t1 n27 c37)] at hk | rw [run1_t (eor_t2 n42 n52)] at hk | fail
          exact hk
    · skip
      refine V_aload_n (pc := 30) dX5_endOfRow_30 rfl ?_
      refine V_iload (pc := 31) dX5_endOfRow_31 rfl ?_
      refine V_ialoadE (pc := 33) dX5_endOfRow_33 (by assumption) (by first | decide | omega) (by omega) (hi) ?_
      refine V_callSd (pc := 34) (c_X5_isLetter hb) dX5_endOfRow_34 mlX5_85 mkX5_isLetter rfl rfl ⟨Nat.le_of_ble_eq_true rfl, Nat.le_of_ble_eq_true rfl⟩ (Nat.le_of_ble_eq_true rfl) ⟨Nat.le_of_ble_eq_true rfl, Nat.le_of_ble_eq_true rfl⟩ ?_
      refine V_if_neB (pc := 37) (tgt := 55) dX5_endOfRow_37 (by decide) (fun c37 => ?_) (fun n37 => ?_)
      · skip
        refine V_iinc1 (pc := 55) (ls' := [(0, _), (1, _), (2, _), (3, _), (4, _), (5, _)]) dX5_endOfRow_55 rfl (by decide) rfl ?_
        refine V_goto (pc := 58) (tgt := 20) dX5_endOfRow_58 (by decide) ?_
        refine ih (j + 1) (by omega) ?_
        first | rw [run1_t (eor_t1 n27 c37)] at hk | rw [run1_t (eor_t2 n42 n52)] at hk | fail
        exact hk
      · skip
        refine V_iload (pc := 40) dX5_endOfRow_40 rfl ?_
        refine V_if_eqB (pc := 42) (tgt := 61) dX5_endOfRow_42 (by decide) (fun c42 => ?_) (fun n42 => ?_)
        · skip
          first | rw [run1_f (eor_f (Or.inl c27) (Or.inl c42))] at hk | rw [run1_f (eor_f (Or.inr n37) (Or.inl c42))] at hk | rw [run1_f (eor_f (Or.inl c27) (Or.inr c52))] at hk | rw [run1_f (eor_f (Or.inr n37) (Or.inr c52))] at hk | fail
          exact hk
        · skip
          refine V_aload_n (pc := 45) dX5_endOfRow_45 rfl ?_
          refine V_iload (pc := 46) dX5_endOfRow_46 rfl ?_
          refine V_ialoadE (pc := 48) dX5_endOfRow_48 (by assumption) (by first | decide | omega) (by omega) (hi) ?_
          refine V_callSd (pc := 49) (c_X5_isDigit hb) dX5_endOfRow_49 mlX5_91 mkX5_isDigit rfl rfl ⟨Nat.le_of_ble_eq_true rfl, Nat.le_of_ble_eq_true rfl⟩ (Nat.le_of_ble_eq_true rfl) ⟨Nat.le_of_ble_eq_true rfl, Nat.le_of_ble_eq_true rfl⟩ ?_
          refine V_if_eqB (pc := 52) (tgt := 61) dX5_endOfRow_52 (by decide) (fun c52 => ?_) (fun n52 => ?_)
          · skip
            first | rw [run1_f (eor_f (Or.inl c27) (Or.inl c42))] at hk | rw [run1_f (eor_f (Or.inr n37) (Or.inl c42))] at hk | rw [run1_f (eor_f (Or.inl c27) (Or.inr c52))] at hk | rw [run1_f (eor_f (Or.inr n37) (Or.inr c52))] at hk | fail
            exact hk
          · skip
            refine V_iinc1 (pc := 55) (ls' := [(0, _), (1, _), (2, _), (3, _), (4, _), (5, _)]) dX5_endOfRow_55 rfl (by decide) rfl ?_
            refine V_goto (pc := 58) (tgt := 20) dX5_endOfRow_58 (by decide) ?_
            refine ih (j + 1) (by omega) ?_
            first | rw [run1_t (eor_t1 n27 c37)] at hk | rw [run1_t (eor_t2 n42 n52)] at hk | fail
            exact hk
theorem c_X5_endOfRow {p : Nat} (hT : TR E S I a t n) (hp : p < n) : Cd E kX5_endOfRow 1 0 0 [.ref a, .int (nI p), .int (nI n)] S I L (.int (nI (enT t n p))) S I L := by
  have hT' := hT
  obtain ⟨hA, ht, hn, h256⟩ := hT
  have hb := h256 p (by omega)
  have hi := ht p (by omega)
  refine C_of (by decide) (Nat.le_of_ble_eq_true rfl) ?_
  refine V_aload_n (pc := 0) dX5_endOfRow_0 rfl ?_
  refine V_iload_n (pc := 1) dX5_endOfRow_1 rfl ?_
  refine V_ialoadE (pc := 2) dX5_endOfRow_2 (by assumption) (by first | decide | omega) (by omega) (hi) ?_
  refine V_callSd (pc := 3) (c_X5_isLetter hb) dX5_endOfRow_3 mlX5_85 mkX5_isLetter rfl rfl ⟨Nat.le_of_ble_eq_true rfl, Nat.le_of_ble_eq_true rfl⟩ (Nat.le_of_ble_eq_true rfl) ⟨Nat.le_of_ble_eq_true rfl, Nat.le_of_ble_eq_true rfl⟩ ?_
  refine V_istore_n (pc := 6) (ls' := [(0, _), (1, _), (2, _), (3, _)]) dX5_endOfRow_6 (by decide) rfl ?_
  refine V_aload_n (pc := 7) dX5_endOfRow_7 rfl ?_
  refine V_iload_n (pc := 8) dX5_endOfRow_8 rfl ?_
  refine V_ialoadE (pc := 9) dX5_endOfRow_9 (by assumption) (by first | decide | omega) (by omega) (hi) ?_
  refine V_callSd (pc := 10) (c_X5_isDigit hb) dX5_endOfRow_10 mlX5_91 mkX5_isDigit rfl rfl ⟨Nat.le_of_ble_eq_true rfl, Nat.le_of_ble_eq_true rfl⟩ (Nat.le_of_ble_eq_true rfl) ⟨Nat.le_of_ble_eq_true rfl, Nat.le_of_ble_eq_true rfl⟩ ?_
  refine V_istore (pc := 13) (ls' := [(0, _), (1, _), (2, _), (3, _), (4, _)]) dX5_endOfRow_13 (by decide) rfl ?_
  refine V_iload_n (pc := 15) dX5_endOfRow_15 rfl ?_
  refine V_iconst (pc := 16) (v := nI 1) dX5_endOfRow_16 (by decide) ?_
  refine V_iaddN (pc := 17) dX5_endOfRow_17 ?_
  refine V_istore (pc := 18) (ls' := [(0, _), (1, _), (2, _), (3, _), (4, _), (5, _)]) dX5_endOfRow_18 (by decide) rfl ?_
  refine lp_eor hT' (n - (p + 1)) (p + 1) (by omega) ?_
  have e : run1 (fun j => (isL (t p) && isL (t j)) || (isD (t p) && isD (t j))) (n - (p + 1)) (p + 1) = enT t n p := by
    have e0 : n - p = (n - (p + 1)) + 1 := by omega
    have hpn : p ≠ n := by omega
    cases hl : isL (t p) with
    | true =>
      rw [enT_1 (srt_1 hpn hl), e0, run1_t (P := fun j => isL (t j)) hl, isLD hl]
      congr 1; funext j; cases isL (t j) <;> rfl
    | false =>
      cases hd : isD (t p) with
      | true =>
        rw [enT_2 (srt_2 hpn hl hd), e0, run1_t (P := fun j => isD (t j)) hd]
        rfl
      | false =>
        rw [enT_3 (srt_3 hpn hl hd)]
        cases hm : n - (p + 1) with
        | zero => rfl
        | succ m => rw [run1_f (by rfl)]
  rw [e]
  refine V_iload (pc := 61) dX5_endOfRow_61 rfl ?_
  refine V_iret (pc := 63) dX5_endOfRow_63 rfl (by first | decide | omega) (by first | decide | omega) ?_
  exact ⟨rfl, rfl, rfl, rfl⟩
theorem dgv_b {f : Nat} : ∀ (i : Nat), (∀ j, j < i → 48 ≤ t (f + j) ∧ t (f + j) ≤ 57) → 0 ≤ dgv t f i := by
  intro i
  induction i with
  | zero => intro _; exact Int.le_refl 0
  | succ i ih =>
    intro h
    have h1 := ih (fun j hj => h j (by omega))
    have h2 := h i (by omega)
    rw [dgv]; split <;> omega
theorem dgv_s {f i : Nat} (h : ∀ j, j < i + 1 → 48 ≤ t (f + j) ∧ t (f + j) ≤ 57) : min (min (dgv t f i).toNat 1001 * 10 + t (f + i) - 48) 1001 = min (dgv t f (i + 1)).toNat 1001 := by
  have h1 := dgv_b i (fun j hj => h j (by omega))
  have h2 := h i (by omega)
  rw [dgv]; split <;> omega
theorem lp_num {Q : QT} {p e : Nat} (hT : TR E S I a t n) (he : e ≤ n) (hd : ∀ j, p ≤ j → j < e → 48 ≤ t j ∧ t j ≤ 57) : ∀ (k j : Nat), j + k = e → p ≤ j → V E kX5_numberAt (rmOf 1 0 0) Q 0 0 S I L 36 [(0, .ref a), (1, .int (nI p)), (2, .int (nI e)), (3, .int (nI (min (dgv t p (e - p)).toNat 1001))), (4, .int (nI e))] [] → V E kX5_numberAt (rmOf 1 0 0) Q 0 0 S I L 5 [(0, .ref a), (1, .int (nI p)), (2, .int (nI e)), (3, .int (nI (min (dgv t p (j - p)).toNat 1001))), (4, .int (nI j))] [] := by
  obtain ⟨hA, ht, hn, h256⟩ := hT
  intro k
  induction k with
  | zero =>
    intro j hj hpj hk
    obtain rfl : j = e := by omega
    refine V_iload (pc := 5) dX5_numberAt_5 rfl ?_
    refine V_iload_n (pc := 7) dX5_numberAt_7 rfl ?_
    refine V_icmp_geN (pc := 8) (tgt := 36) dX5_numberAt_8 (by decide) (by omega) (by omega) (fun c8 => ?_) (fun n8 => absurd n8 (by omega))
    exact hk
  | succ k ih =>
    intro j hj hpj hk
    have hb := hd j hpj (by omega)
    have hi := ht j (by omega)
    have h3 := dgv_s (t := t) (f := p) (i := j - p) (fun i hi => hd (p + i) (by omega) (by omega))
    rw [show p + (j - p) = j from by omega, show j - p + 1 = j + 1 - p from by omega] at h3
    refine V_iload (pc := 5) dX5_numberAt_5 rfl ?_
    refine V_iload_n (pc := 7) dX5_numberAt_7 rfl ?_
    refine V_icmp_geN (pc := 8) (tgt := 36) dX5_numberAt_8 (by decide) (by omega) (by omega) (fun c8 => absurd c8 (by omega)) (fun n8 => ?_)
    refine V_iload_n (pc := 11) dX5_numberAt_11 rfl ?_
    refine V_bipush (pc := 12) (v := nI 10) dX5_numberAt_12 (by decide) ?_
    refine V_imulN (pc := 14) dX5_numberAt_14 ?_
    refine V_aload_n (pc := 15) dX5_numberAt_15 rfl ?_
    refine V_iload (pc := 16) dX5_numberAt_16 rfl ?_
    refine V_ialoadE (pc := 18) dX5_numberAt_18 (by assumption) (by first | decide | omega) (by omega) (hi) ?_
    refine V_iaddN (pc := 19) dX5_numberAt_19 ?_
    refine V_bipush (pc := 20) (v := nI 48) dX5_numberAt_20 (by decide) ?_
    refine V_isubN (pc := 22) dX5_numberAt_22 (by omega) ?_
    refine V_sipush (pc := 23) (v := nI 1001) dX5_numberAt_23 (by decide) ?_
    refine V_mminN (pc := 26) dX5_numberAt_26 mlX5_103 (Nat.le_of_ble_eq_true rfl) (Nat.le_of_ble_eq_true rfl) ⟨Nat.le_of_ble_eq_true rfl, Nat.le_of_ble_eq_true rfl⟩ (by omega) (by omega) ?_
    refine V_istore_n (pc := 29) (ls' := [(0, _), (1, _), (2, _), (3, _), (4, _)]) dX5_numberAt_29 (by decide) rfl ?_
    refine V_iinc1 (pc := 30) (ls' := [(0, _), (1, _), (2, _), (3, _), (4, _)]) dX5_numberAt_30 rfl (by decide) rfl ?_
    refine V_goto (pc := 33) (tgt := 5) dX5_numberAt_33 (by decide) ?_
    rw [h3]
    exact ih (j + 1) (by omega) (by omega) hk
theorem c_X5_numberAt {p e : Nat} (hT : TR E S I a t n) (hp : p ≤ e) (he : e ≤ n) (hd : ∀ j, p ≤ j → j < e → 48 ≤ t j ∧ t j ≤ 57) : Cd E kX5_numberAt 1 0 0 [.ref a, .int (nI p), .int (nI e)] S I L (.int (nI (min (dgv t p (e - p)).toNat 1001))) S I L := by
  have hn := hT.2.2.1
  refine C_of (by decide) (Nat.le_of_ble_eq_true rfl) ?_
  refine V_iconst (pc := 0) (v := nI 0) dX5_numberAt_0 (by decide) ?_
  refine V_istore_n (pc := 1) (ls' := [(0, _), (1, _), (2, _), (3, _)]) dX5_numberAt_1 (by decide) rfl ?_
  refine V_iload_n (pc := 2) dX5_numberAt_2 rfl ?_
  refine V_istore (pc := 3) (ls' := [(0, _), (1, _), (2, _), (3, _), (4, _)]) dX5_numberAt_3 (by decide) rfl ?_
  rw [show nI 0 = nI (min (dgv t p (p - p)).toNat 1001) from by rw [Nat.sub_self]; rfl]
  refine lp_num hT he hd (e - p) p (by omega) (by omega) ?_
  refine V_iload_n (pc := 36) dX5_numberAt_36 rfl ?_
  refine V_iret (pc := 37) dX5_numberAt_37 rfl (by first | decide | omega) (by first | decide | omega) ?_
  exact ⟨rfl, rfl, rfl, rfl⟩
theorem c_chr {j : Nat} (hj : j < 146) : Cd E kJ0_charAt_5068e 3 0 0 [.ref (E.2.2.2.2 1), .int (nI j)] S I L (.int (nI (wch j))) S I L := by
  rw [← (wch_n j hj).1]; exact c_J0_charAt_5068e hj
end R1
