/-! TEXTS: the tokens of a tape (t: its bytes, n: how many); a token is told by where it starts -/
def run1 (P : Nat → Bool) : Nat → Nat → Nat | 0, p => p | k + 1, p => if P p = true then run1 P k (p + 1) else p
theorem run1_0 (P : Nat → Bool) (p : Nat) : run1 P 0 p = p := rfl
theorem run1_t {P : Nat → Bool} {k p : Nat} (h : P p = true) : run1 P (k + 1) p = run1 P k (p + 1) := by rw [run1, if_pos h]
theorem run1_f {P : Nat → Bool} {k p : Nat} (h : P p = false) : run1 P (k + 1) p = p := by rw [run1, if_neg (by rw [h]; decide)]
theorem run1_le (P : Nat → Bool) : ∀ (k p : Nat), p ≤ run1 P k p ∧ run1 P k p ≤ p + k := by
  intro k
  induction k with
  | zero => intro p; rw [run1_0]; omega
  | succ k ih =>
    intro p
    cases h : P p with
    | true => rw [run1_t h]; have := ih (p + 1); omega
    | false => rw [run1_f h]; omega
theorem run1_in (P : Nat → Bool) : ∀ (k p j : Nat), p ≤ j → j < run1 P k p → P j = true := by
  intro k
  induction k with
  | zero => intro p j h1 h2; rw [run1_0] at h2; omega
  | succ k ih =>
    intro p j h1 h2
    cases h : P p with
    | true =>
      rw [run1_t h] at h2
      by_cases e : j = p
      · rw [e]; exact h
      · exact ih (p + 1) j (by omega) h2
    | false => rw [run1_f h] at h2; omega
theorem run1_end (P : Nat → Bool) : ∀ (k p : Nat), run1 P k p < p + k → P (run1 P k p) = false := by
  intro k
  induction k with
  | zero => intro p h; rw [run1_0] at h; omega
  | succ k ih =>
    intro p h
    cases h1 : P p with
    | true => rw [run1_t h1] at h ⊢; exact ih (p + 1) (by omega)
    | false => rw [run1_f h1]; exact h1
def isL (c : Nat) : Bool := decide (97 ≤ c ∧ c ≤ 122)
def isD (c : Nat) : Bool := decide (48 ≤ c ∧ c ≤ 57)
def skp (t : Nat → Nat) (n p : Nat) : Nat := run1 (fun j => decide (t j = 32)) (n - p) p
/-- 0: the end, 1: letters, 2: digits, 3: a sign -/
def srt (t : Nat → Nat) (n p : Nat) : Nat := if p = n then 0 else if isL (t p) = true then 1 else if isD (t p) = true then 2 else 3
def enT (t : Nat → Nat) (n p : Nat) : Nat := if srt t n p = 1 then run1 (fun j => isL (t j)) (n - p) p else if srt t n p = 2 then run1 (fun j => isD (t j)) (n - p) p else if srt t n p = 3 then p + 1 else p
def hsh (t : Nat → Nat) (f : Nat) : Nat → Int | 0 => 0 | i + 1 => if i < 10 then hsh t f i * 32 + (t (f + i) : Int) - 96 else -1
def dgv (t : Nat → Nat) (f : Nat) : Nat → Int | 0 => 0 | i + 1 => if 1000000 < dgv t f i then dgv t f i else dgv t f i * 10 + (t (f + i) : Int) - 48
def wth (t : Nat → Nat) (n p : Nat) : Int := if srt t n p = 1 then hsh t p (enT t n p - p) else if srt t n p = 2 then dgv t p (enT t n p - p) else if srt t n p = 3 then (t p : Int) else 0
def nxt (t : Nat → Nat) (n p : Nat) : Nat := skp t n (enT t n p)
theorem skp_le {t : Nat → Nat} {n p : Nat} (h : p ≤ n) : p ≤ skp t n p ∧ skp t n p ≤ n := by
  have := run1_le (fun j => decide (t j = 32)) (n - p) p
  unfold skp; omega
theorem srt_le (t : Nat → Nat) (n p : Nat) : srt t n p ≤ 3 := by unfold srt; split; omega; split; omega; split <;> omega
theorem run1_pos {P : Nat → Bool} {k p : Nat} (h : P p = true) (hk : 0 < k) : p < run1 P k p := by
  obtain ⟨k, rfl⟩ : ∃ j, k = j + 1 := ⟨k - 1, by omega⟩
  rw [run1_t h]; have := run1_le P k (p + 1); omega
theorem enT_le {t : Nat → Nat} {n p : Nat} (h : p ≤ n) : p ≤ enT t n p ∧ enT t n p ≤ n ∧ (p < n → p < enT t n p) := by
  have h1 := run1_le (fun j => isL (t j)) (n - p) p
  have h2 := run1_le (fun j => isD (t j)) (n - p) p
  unfold enT srt
  by_cases hp : p = n
  · simp [hp]
  · by_cases hl : isL (t p) = true
    · have := run1_pos (P := fun j => isL (t j)) (k := n - p) (p := p) hl (by omega)
      simp only [hp, hl, if_true, if_false, if_pos]; omega
    · by_cases hd : isD (t p) = true
      · have := run1_pos (P := fun j => isD (t j)) (k := n - p) (p := p) hd (by omega)
        simp [hp, hl, hd]; omega
      · simp [hp, hl, hd]; omega
theorem nxt_le {t : Nat → Nat} {n p : Nat} (h : p ≤ n) : p ≤ nxt t n p ∧ nxt t n p ≤ n ∧ (p < n → p < nxt t n p) := by
  have h1 := enT_le (t := t) h
  have h2 := skp_le (t := t) h1.2.1
  unfold nxt; omega
theorem srt_end {t : Nat → Nat} {n p : Nat} : srt t n p = 0 ↔ p = n := by
  unfold srt
  by_cases hp : p = n
  · simp [hp]
  · simp only [hp, if_false]
    constructor
    · intro h; split at h; omega; split at h <;> omega
    · intro h; exact absurd h (by simp)
def TP (o : Nat) (t : Nat → Nat) (n : Nat) (I : IT) : Prop := I o 13 = nI n ∧ (∀ i, i < n → I (o + 9) i = nI (t i)) ∧ n ≤ 400 ∧ ∀ i, i < n → t i < 256
/-- the reference's current token -/
def TK (o : Nat) (t : Nat → Nat) (n : Nat) (I : IT) (L : LT) (p : Nat) : Prop := TP o t n I ∧ p ≤ n ∧ I o 14 = nI p ∧ I o 15 = nI (enT t n p) ∧ I o 16 = nI (srt t n p) ∧ L o 17 = i64 (wth t n p)
def FN (o : Nat) (I' I : IT) (L' L : LT) : Prop := (∀ a, a ≠ o → I' a = I a) ∧ (∀ i, (i < 14 ∨ 16 < i) → I' o i = I o i) ∧ (∀ a, a ≠ o → L' a = L a) ∧ ∀ i, i ≠ 17 → L' o i = L o i
theorem up2_comj {α : Type} {f : Nat → Nat → α} {a i j : Nat} {v w : α} (h : i ≠ j) : up2 (up2 f a i v) a j w = up2 (up2 f a j w) a i v := by
  funext x y
  by_cases h1 : x = a
  · subst h1
    by_cases h2 : y = i
    · subst h2; rw [up2_nej h, up2_self, up2_self]
    · by_cases h3 : y = j
      · subst h3; rw [up2_self, up2_nej h2, up2_self]
      · rw [up2_nej h3, up2_nej h2, up2_nej h2, up2_nej h3]
  · rw [up2_row h1, up2_row h1, up2_row h1, up2_row h1]
section TA
variable {E : EnT} {S : ST} {I : IT} {L : LT} {o n : Nat} {t : Nat → Nat}
theorem FN.rf : FN o I I L L := ⟨fun _ _ => rfl, fun _ _ => rfl, fun _ _ => rfl, fun _ _ => rfl⟩
theorem FN.up {I' : IT} {L' : LT} {i : Nat} {v : Int32} (h : FN o I' I L' L) (hi : 14 ≤ i ∧ i ≤ 16) : FN o (up2 I' o i v) I L' L := ⟨fun a ha => by rw [up2_row ha]; exact h.1 a ha, fun j hj => by rw [up2_nej (by omega)]; exact h.2.1 j hj, h.2.2⟩
theorem FN.upL {I' : IT} {L' : LT} {v : Int64} (h : FN o I' I L' L) : FN o I' I (up2 L' o 17 v) L := ⟨h.1, h.2.1, fun a ha => by rw [up2_row ha]; exact h.2.2.1 a ha, fun j hj => by rw [up2_nej hj]; exact h.2.2.2 j hj⟩
theorem TP.up {i : Nat} {v : Int32} (h : TP o t n I) (hi : i ≠ 13) : TP o t n (up2 I o i v) := ⟨by rw [up2_nej (Ne.symm hi)]; exact h.1, fun j hj => by rw [up2_ne (by omega)]; exact h.2.1 j hj, h.2.2⟩
theorem TP.fn {I' : IT} {L' : LT} (h : TP o t n I) (f : FN o I' I L' L) : TP o t n I' := ⟨by rw [f.2.1 13 (by omega)]; exact h.1, fun j hj => by rw [f.1 (o + 9) (by omega)]; exact h.2.1 j hj, h.2.2⟩
theorem c_X12_isSmall {c : Nat} (hc : c < 256) : Cd E kX12_isSmall 0 0 0 [.int (nI c)] S I L (.int (b2i (isL c))) S I L := by
  refine C_of (by decide) (Nat.le_of_ble_eq_true rfl) ?_
  refine V_iload_n (pc := 0) dX12_isSmall_0 rfl ?_
  refine V_bipush (pc := 1) (v := nI 97) dX12_isSmall_1 (by decide) ?_
  refine V_icmp_ltN (pc := 3) (tgt := 16) dX12_isSmall_3 (by decide) (by omega) (by omega) (fun c3 => ?_) (fun n3 => ?_)
  · skip
    rw [show isL c = false from decide_eq_false (by omega)]
    refine V_iconst (pc := 16) (v := nI 0) dX12_isSmall_16 (by decide) ?_
    refine V_zretB (pc := 17) (p := false) dX12_isSmall_17 rfl rfl (by first | decide | omega) (by first | decide | omega) ?_
    exact ⟨rfl, rfl, rfl, rfl⟩
  · skip
    refine V_iload_n (pc := 6) dX12_isSmall_6 rfl ?_
    refine V_bipush (pc := 7) (v := nI 122) dX12_isSmall_7 (by decide) ?_
    refine V_icmp_gtN (pc := 9) (tgt := 16) dX12_isSmall_9 (by decide) (by omega) (by omega) (fun c9 => ?_) (fun n9 => ?_)
    · skip
      rw [show isL c = false from decide_eq_false (by omega)]
      refine V_iconst (pc := 16) (v := nI 0) dX12_isSmall_16 (by decide) ?_
      refine V_zretB (pc := 17) (p := false) dX12_isSmall_17 rfl rfl (by first | decide | omega) (by first | decide | omega) ?_
      exact ⟨rfl, rfl, rfl, rfl⟩
    · skip
      rw [show isL c = true from decide_eq_true (by omega)]
      refine V_iconst (pc := 12) (v := nI 1) dX12_isSmall_12 (by decide) ?_
      refine V_goto (pc := 13) (tgt := 17) dX12_isSmall_13 (by decide) ?_
      refine V_zretB (pc := 17) (p := true) dX12_isSmall_17 rfl rfl (by first | decide | omega) (by first | decide | omega) ?_
      exact ⟨rfl, rfl, rfl, rfl⟩
theorem c_X12_isDigit {c : Nat} (hc : c < 256) : Cd E kX12_isDigit 0 0 0 [.int (nI c)] S I L (.int (b2i (isD c))) S I L := by
  refine C_of (by decide) (Nat.le_of_ble_eq_true rfl) ?_
  refine V_iload_n (pc := 0) dX12_isDigit_0 rfl ?_
  refine V_bipush (pc := 1) (v := nI 48) dX12_isDigit_1 (by decide) ?_
  refine V_icmp_ltN (pc := 3) (tgt := 16) dX12_isDigit_3 (by decide) (by omega) (by omega) (fun c3 => ?_) (fun n3 => ?_)
  · skip
    rw [show isD c = false from decide_eq_false (by omega)]
    refine V_iconst (pc := 16) (v := nI 0) dX12_isDigit_16 (by decide) ?_
    refine V_zretB (pc := 17) (p := false) dX12_isDigit_17 rfl rfl (by first | decide | omega) (by first | decide | omega) ?_
    exact ⟨rfl, rfl, rfl, rfl⟩
  · skip
    refine V_iload_n (pc := 6) dX12_isDigit_6 rfl ?_
    refine V_bipush (pc := 7) (v := nI 57) dX12_isDigit_7 (by decide) ?_
    refine V_icmp_gtN (pc := 9) (tgt := 16) dX12_isDigit_9 (by decide) (by omega) (by omega) (fun c9 => ?_) (fun n9 => ?_)
    · skip
      rw [show isD c = false from decide_eq_false (by omega)]
      refine V_iconst (pc := 16) (v := nI 0) dX12_isDigit_16 (by decide) ?_
      refine V_zretB (pc := 17) (p := false) dX12_isDigit_17 rfl rfl (by first | decide | omega) (by first | decide | omega) ?_
      exact ⟨rfl, rfl, rfl, rfl⟩
    · skip
      rw [show isD c = true from decide_eq_true (by omega)]
      refine V_iconst (pc := 12) (v := nI 1) dX12_isDigit_12 (by decide) ?_
      refine V_goto (pc := 13) (tgt := 17) dX12_isDigit_13 (by decide) ?_
      refine V_zretB (pc := 17) (p := true) dX12_isDigit_17 rfl rfl (by first | decide | omega) (by first | decide | omega) ?_
      exact ⟨rfl, rfl, rfl, rfl⟩
theorem lp_nx1 (h12 : Lay12 E S o) {R : Room} {Q : QT} (hT : TP o t n I) : ∀ (k j : Nat), j + k = n → V E kX12_next R Q 0 0 S (up2 I o 14 (nI (run1 (fun j => decide (t j = 32)) k j))) L 46 [(0, .ref o)] [] → V E kX12_next R Q 0 0 S (up2 I o 14 (nI j)) L 8 [(0, .ref o)] [] := by
  obtain ⟨h13, ht, hn, h256⟩ := hT
  intro k
  induction k with
  | zero =>
    intro j hj hk
    rw [run1_0] at hk
    refine V_aload_n (pc := 8) dX12_next_8 rfl ?_
    refine V_getIE (pc := 9) 12 14 dX12_next_9 flX12_282 (by decide) h12.o (up2_self) ?_
    refine V_aload_n (pc := 12) dX12_next_12 rfl ?_
    refine V_getIE (pc := 13) 12 13 dX12_next_13 flX12_263 (by decide) h12.o ((up2_nej (by omega)).trans h13) ?_
    refine V_icmp_geN (pc := 16) (tgt := 46) dX12_next_16 (by decide) (by omega) (by omega) (fun c16 => ?_) (fun n16 => absurd n16 (by omega))
    exact hk
  | succ k ih =>
    intro j hj hk
    have hb := h256 j (by omega)
    by_cases hc : t j = 32
    · rw [run1_t (decide_eq_true hc)] at hk
      refine V_aload_n (pc := 8) dX12_next_8 rfl ?_
      refine V_getIE (pc := 9) 12 14 dX12_next_9 flX12_282 (by decide) h12.o (up2_self) ?_
      refine V_aload_n (pc := 12) dX12_next_12 rfl ?_
      refine V_getIE (pc := 13) 12 13 dX12_next_13 flX12_263 (by decide) h12.o ((up2_nej (by omega)).trans h13) ?_
      refine V_icmp_geN (pc := 16) (tgt := 46) dX12_next_16 (by decide) (by omega) (by omega) (fun c16 => absurd c16 (by omega)) (fun n16 => ?_)
      refine V_aload_n (pc := 19) dX12_next_19 rfl ?_
      refine V_getR (pc := 20) 12 12 dX12_next_20 flX12_35 (by decide) h12.o h12.R12 ?_
      refine V_aload_n (pc := 23) dX12_next_23 rfl ?_
      refine V_getIE (pc := 24) 12 14 dX12_next_24 flX12_282 (by decide) h12.o (up2_self) ?_
      refine V_ialoadE (pc := 27) dX12_next_27 h12.A12 (by first | decide | omega) (by omega) ((up2_ne (by omega)).trans (ht j (by omega))) ?_
      refine V_bipush (pc := 28) (v := nI 32) dX12_next_28 (by decide) ?_
      refine V_icmp_neN (pc := 30) (tgt := 46) dX12_next_30 (by decide) (by omega) (by omega) (fun c30 => absurd c30 (by omega)) (fun n30 => ?_)
      refine V_aload_n (pc := 33) dX12_next_33 rfl ?_
      refine V_dup (pc := 34) dX12_next_34 rfl ?_
      refine V_getIE (pc := 35) 12 14 dX12_next_35 flX12_282 (by decide) h12.o (up2_self) ?_
      refine V_iconst (pc := 38) (v := nI 1) dX12_next_38 (by decide) ?_
      refine V_iaddN (pc := 39) dX12_next_39 ?_
      refine V_putI (pc := 40) 12 14 dX12_next_40 flX12_282 (by decide) (by decide) (Or.inl rfl) rfl rfl h12.o ?_
      refine V_goto (pc := 43) (tgt := 8) dX12_next_43 (by decide) ?_
      rw [up2_up2]
      exact ih (j + 1) (by omega) hk
    · rw [run1_f (decide_eq_false hc)] at hk
      refine V_aload_n (pc := 8) dX12_next_8 rfl ?_
      refine V_getIE (pc := 9) 12 14 dX12_next_9 flX12_282 (by decide) h12.o (up2_self) ?_
      refine V_aload_n (pc := 12) dX12_next_12 rfl ?_
      refine V_getIE (pc := 13) 12 13 dX12_next_13 flX12_263 (by decide) h12.o ((up2_nej (by omega)).trans h13) ?_
      refine V_icmp_geN (pc := 16) (tgt := 46) dX12_next_16 (by decide) (by omega) (by omega) (fun c16 => absurd c16 (by omega)) (fun n16 => ?_)
      refine V_aload_n (pc := 19) dX12_next_19 rfl ?_
      refine V_getR (pc := 20) 12 12 dX12_next_20 flX12_35 (by decide) h12.o h12.R12 ?_
      refine V_aload_n (pc := 23) dX12_next_23 rfl ?_
      refine V_getIE (pc := 24) 12 14 dX12_next_24 flX12_282 (by decide) h12.o (up2_self) ?_
      refine V_ialoadE (pc := 27) dX12_next_27 h12.A12 (by first | decide | omega) (by omega) ((up2_ne (by omega)).trans (ht j (by omega))) ?_
      refine V_bipush (pc := 28) (v := nI 32) dX12_next_28 (by decide) ?_
      refine V_icmp_neN (pc := 30) (tgt := 46) dX12_next_30 (by decide) (by omega) (by omega) (fun c30 => ?_) (fun n30 => absurd n30 (by omega))
      exact hk
theorem lp_nx2 (h12 : Lay12 E S o) {Q : QT} {p : Nat} (hT : TP o t n I) (h14 : I o 14 = nI p) (h16 : I o 16 = nI 1) : ∀ (k j : Nat), j + k = n → p ≤ j → V E kX12_next (rmOf 1 0 0) Q 0 0 S (up2 I o 15 (nI (run1 (fun j => isL (t j)) k j))) (up2 L o 17 (i64 (hsh t p (run1 (fun j => isL (t j)) k j - p)))) 335 [(0, .ref o)] [] → V E kX12_next (rmOf 1 0 0) Q 0 0 S (up2 I o 15 (nI j)) (up2 L o 17 (i64 (hsh t p (j - p)))) 149 [(0, .ref o)] [] := by
  obtain ⟨h13, ht, hn, h256⟩ := hT
  intro k
  induction k with
  | zero =>
    intro j hj hp hk
    rw [run1_0] at hk
    refine V_aload_n (pc := 149) dX12_next_149 rfl ?_
    refine V_getIE (pc := 150) 12 16 dX12_next_150 flX12_295 (by decide) h12.o ((up2_nej (by omega)).trans h16) ?_
    refine V_iconst (pc := 153) (v := nI 1) dX12_next_153 (by decide) ?_
    refine V_icmp_neN (pc := 154) (tgt := 243) dX12_next_154 (by decide) (by omega) (by omega) (fun c154 => absurd c154 (by omega)) (fun n154 => ?_)
    refine V_aload_n (pc := 157) dX12_next_157 rfl ?_
    refine V_getIE (pc := 158) 12 15 dX12_next_158 flX12_272 (by decide) h12.o (up2_self) ?_
    refine V_aload_n (pc := 161) dX12_next_161 rfl ?_
    refine V_getIE (pc := 162) 12 13 dX12_next_162 flX12_263 (by decide) h12.o ((up2_nej (by omega)).trans h13) ?_
    refine V_icmp_geN (pc := 165) (tgt := 243) dX12_next_165 (by decide) (by omega) (by omega) (fun c165 => ?_) (fun n165 => absurd n165 (by omega))
    refine V_aload_n (pc := 243) dX12_next_243 rfl ?_
    refine V_getIE (pc := 244) 12 16 dX12_next_244 flX12_295 (by decide) h12.o ((up2_nej (by omega)).trans h16) ?_
    refine V_iconst (pc := 247) (v := nI 2) dX12_next_247 (by decide) ?_
    refine V_icmp_neN (pc := 248) (tgt := 335) dX12_next_248 (by decide) (by omega) (by omega) (fun c248 => ?_) (fun n248 => absurd n248 (by omega))
    exact hk
  | succ k ih =>
    intro j hj hp hk
    have hb := h256 j (by omega)
    cases hc : isL (t j) with
    | true =>
      rw [run1_t (P := fun j => isL (t j)) hc] at hk
      have e : (j + 1) - p = (j - p) + 1 := by omega
      have hi := ih (j + 1) (by omega) (by omega) hk
      have ep : p + (j - p) = j := by omega
      rw [e, hsh, ep] at hi
      refine V_aload_n (pc := 149) dX12_next_149 rfl ?_
      refine V_getIE (pc := 150) 12 16 dX12_next_150 flX12_295 (by decide) h12.o ((up2_nej (by omega)).trans h16) ?_
      refine V_iconst (pc := 153) (v := nI 1) dX12_next_153 (by decide) ?_
      refine V_icmp_neN (pc := 154) (tgt := 243) dX12_next_154 (by decide) (by omega) (by omega) (fun c154 => absurd c154 (by omega)) (fun n154 => ?_)
      refine V_aload_n (pc := 157) dX12_next_157 rfl ?_
      refine V_getIE (pc := 158) 12 15 dX12_next_158 flX12_272 (by decide) h12.o (up2_self) ?_
      refine V_aload_n (pc := 161) dX12_next_161 rfl ?_
      refine V_getIE (pc := 162) 12 13 dX12_next_162 flX12_263 (by decide) h12.o ((up2_nej (by omega)).trans h13) ?_
      refine V_icmp_geN (pc := 165) (tgt := 243) dX12_next_165 (by decide) (by omega) (by omega) (fun c165 => absurd c165 (by omega)) (fun n165 => ?_)
      refine V_aload_n (pc := 168) dX12_next_168 rfl ?_
      refine V_getR (pc := 169) 12 12 dX12_next_169 flX12_35 (by decide) h12.o h12.R12 ?_
      refine V_aload_n (pc := 172) dX12_next_172 rfl ?_
      refine V_getIE (pc := 173) 12 15 dX12_next_173 flX12_272 (by decide) h12.o (up2_self) ?_
      refine V_ialoadE (pc := 176) dX12_next_176 h12.A12 (by first | decide | omega) (by omega) ((up2_ne (by omega)).trans (ht j (by omega))) ?_
      refine V_callSd (pc := 177) (c_X12_isSmall hb) dX12_next_177 mlX12_289 mkX12_isSmall rfl rfl ⟨Nat.le_of_ble_eq_true rfl, Nat.le_of_ble_eq_true rfl⟩ (Nat.le_of_ble_eq_true rfl) ⟨Nat.le_of_ble_eq_true rfl, Nat.le_of_ble_eq_true rfl⟩ ?_
      refine V_if_eqB (pc := 180) (tgt := 243) dX12_next_180 (by decide) (fun c180 => absurd c180 (by rw [hc]; decide)) (fun n180 => ?_)
      refine V_aload_n (pc := 183) dX12_next_183 rfl ?_
      refine V_aload_n (pc := 184) dX12_next_184 rfl ?_
      refine V_getIE (pc := 185) 12 15 dX12_next_185 flX12_272 (by decide) h12.o (up2_self) ?_
      refine V_aload_n (pc := 188) dX12_next_188 rfl ?_
      refine V_getIE (pc := 189) 12 14 dX12_next_189 flX12_282 (by decide) h12.o ((up2_nej (by omega)).trans h14) ?_
      refine V_isubN (pc := 192) dX12_next_192 (by omega) ?_
      refine V_bipush (pc := 193) (v := nI 10) dX12_next_193 (by decide) ?_
      refine V_icmp_geN (pc := 195) (tgt := 224) dX12_next_195 (by decide) (by omega) (by omega) (fun c195 => ?_) (fun n195 => ?_)
      · skip
        rw [if_neg (by omega)] at hi
        refine V_ldc2 (pc := 224) dX12_next_224 coX12_302 ?_
        refine V_putL (pc := 227) 12 17 dX12_next_227 flX12_285 (by decide) (by decide) (Or.inl rfl) rfl rfl h12.o ?_
        refine V_aload_n (pc := 230) dX12_next_230 rfl ?_
        refine V_dup (pc := 231) dX12_next_231 rfl ?_
        refine V_getIE (pc := 232) 12 15 dX12_next_232 flX12_272 (by decide) h12.o (up2_self) ?_
        refine V_iconst (pc := 235) (v := nI 1) dX12_next_235 (by decide) ?_
        refine V_iaddN (pc := 236) dX12_next_236 ?_
        refine V_putI (pc := 237) 12 15 dX12_next_237 flX12_272 (by decide) (by decide) (Or.inl rfl) rfl rfl h12.o ?_
        refine V_goto (pc := 240) (tgt := 149) dX12_next_240 (by decide) ?_
        rw [up2_up2, up2_up2]
        first | exact hi | (rw [i64_lN, show (32 : Int64) = i64 32 from by decide, show (96 : Int64) = i64 96 from by decide, i64_mul, i64_add, i64_sub]; exact hi)
      · skip
        rw [if_pos (by omega)] at hi
        refine V_aload_n (pc := 198) dX12_next_198 rfl ?_
        refine V_getLE (pc := 199) 12 17 dX12_next_199 flX12_285 (by decide) h12.o (up2_self) ?_
        refine V_ldc2 (pc := 202) dX12_next_202 coX12_298 ?_
        refine V_lmul (pc := 205) dX12_next_205 ?_
        refine V_aload_n (pc := 206) dX12_next_206 rfl ?_
        refine V_getR (pc := 207) 12 12 dX12_next_207 flX12_35 (by decide) h12.o h12.R12 ?_
        refine V_aload_n (pc := 210) dX12_next_210 rfl ?_
        refine V_getIE (pc := 211) 12 15 dX12_next_211 flX12_272 (by decide) h12.o (up2_self) ?_
        refine V_ialoadE (pc := 214) dX12_next_214 h12.A12 (by first | decide | omega) (by omega) ((up2_ne (by omega)).trans (ht j (by omega))) ?_
        refine V_i2lN (pc := 215) dX12_next_215 (by omega) ?_
        refine V_ladd (pc := 216) dX12_next_216 ?_
        refine V_ldc2 (pc := 217) dX12_next_217 coX12_300 ?_
        refine V_lsub (pc := 220) dX12_next_220 ?_
        refine V_goto (pc := 221) (tgt := 227) dX12_next_221 (by decide) ?_
        refine V_putL (pc := 227) 12 17 dX12_next_227 flX12_285 (by decide) (by decide) (Or.inl rfl) rfl rfl h12.o ?_
        refine V_aload_n (pc := 230) dX12_next_230 rfl ?_
        refine V_dup (pc := 231) dX12_next_231 rfl ?_
        refine V_getIE (pc := 232) 12 15 dX12_next_232 flX12_272 (by decide) h12.o (up2_self) ?_
        refine V_iconst (pc := 235) (v := nI 1) dX12_next_235 (by decide) ?_
        refine V_iaddN (pc := 236) dX12_next_236 ?_
        refine V_putI (pc := 237) 12 15 dX12_next_237 flX12_272 (by decide) (by decide) (Or.inl rfl) rfl rfl h12.o ?_
        refine V_goto (pc := 240) (tgt := 149) dX12_next_240 (by decide) ?_
        rw [up2_up2, up2_up2]
        first | exact hi | (rw [i64_lN, show (32 : Int64) = i64 32 from by decide, show (96 : Int64) = i64 96 from by decide, i64_mul, i64_add, i64_sub]; exact hi)
    | false =>
      rw [run1_f (P := fun j => isL (t j)) hc] at hk
      refine V_aload_n (pc := 149) dX12_next_149 rfl ?_
      refine V_getIE (pc := 150) 12 16 dX12_next_150 flX12_295 (by decide) h12.o ((up2_nej (by omega)).trans h16) ?_
      refine V_iconst (pc := 153) (v := nI 1) dX12_next_153 (by decide) ?_
      refine V_icmp_neN (pc := 154) (tgt := 243) dX12_next_154 (by decide) (by omega) (by omega) (fun c154 => absurd c154 (by omega)) (fun n154 => ?_)
      refine V_aload_n (pc := 157) dX12_next_157 rfl ?_
      refine V_getIE (pc := 158) 12 15 dX12_next_158 flX12_272 (by decide) h12.o (up2_self) ?_
      refine V_aload_n (pc := 161) dX12_next_161 rfl ?_
      refine V_getIE (pc := 162) 12 13 dX12_next_162 flX12_263 (by decide) h12.o ((up2_nej (by omega)).trans h13) ?_
      refine V_icmp_geN (pc := 165) (tgt := 243) dX12_next_165 (by decide) (by omega) (by omega) (fun c165 => absurd c165 (by omega)) (fun n165 => ?_)
      refine V_aload_n (pc := 168) dX12_next_168 rfl ?_
      refine V_getR (pc := 169) 12 12 dX12_next_169 flX12_35 (by decide) h12.o h12.R12 ?_
      refine V_aload_n (pc := 172) dX12_next_172 rfl ?_
      refine V_getIE (pc := 173) 12 15 dX12_next_173 flX12_272 (by decide) h12.o (up2_self) ?_
      refine V_ialoadE (pc := 176) dX12_next_176 h12.A12 (by first | decide | omega) (by omega) ((up2_ne (by omega)).trans (ht j (by omega))) ?_
      refine V_callSd (pc := 177) (c_X12_isSmall hb) dX12_next_177 mlX12_289 mkX12_isSmall rfl rfl ⟨Nat.le_of_ble_eq_true rfl, Nat.le_of_ble_eq_true rfl⟩ (Nat.le_of_ble_eq_true rfl) ⟨Nat.le_of_ble_eq_true rfl, Nat.le_of_ble_eq_true rfl⟩ ?_
      refine V_if_eqB (pc := 180) (tgt := 243) dX12_next_180 (by decide) (fun c180 => ?_) (fun n180 => absurd n180 (by rw [hc]; decide))
      refine V_aload_n (pc := 243) dX12_next_243 rfl ?_
      refine V_getIE (pc := 244) 12 16 dX12_next_244 flX12_295 (by decide) h12.o ((up2_nej (by omega)).trans h16) ?_
      refine V_iconst (pc := 247) (v := nI 2) dX12_next_247 (by decide) ?_
      refine V_icmp_neN (pc := 248) (tgt := 335) dX12_next_248 (by decide) (by omega) (by omega) (fun c248 => ?_) (fun n248 => absurd n248 (by omega))
      exact hk
theorem dgv_sml {t : Nat → Nat} {f : Nat} : ∀ (i : Nat), (∀ j, j < i → isD (t (f + j)) = true) → 0 ≤ dgv t f i ∧ dgv t f i ≤ 10000009 := by
  intro i
  induction i with
  | zero => intro _; rw [dgv]; omega
  | succ i ih =>
    intro h
    have h1 := ih (fun j hj => h j (by omega))
    have h2 : 48 ≤ t (f + i) ∧ t (f + i) ≤ 57 := of_decide_eq_true (h i (by omega))
    rw [dgv]
    split <;> omega
theorem lp_nx3 (h12 : Lay12 E S o) {Q : QT} {p : Nat} (hT : TP o t n I) (h16 : I o 16 = nI 2) : ∀ (k j : Nat), j + k = n → p ≤ j → (∀ i, i < j - p → isD (t (p + i)) = true) → V E kX12_next (rmOf 1 0 0) Q 0 0 S (up2 I o 15 (nI (run1 (fun j => isD (t j)) k j))) (up2 L o 17 (i64 (dgv t p (run1 (fun j => isD (t j)) k j - p)))) 335 [(0, .ref o)] [] → V E kX12_next (rmOf 1 0 0) Q 0 0 S (up2 I o 15 (nI j)) (up2 L o 17 (i64 (dgv t p (j - p)))) 243 [(0, .ref o)] [] := by
  obtain ⟨h13, ht, hn, h256⟩ := hT
  intro k
  induction k with
  | zero =>
    intro j hj hp hd hk
    rw [run1_0] at hk
    refine V_aload_n (pc := 243) dX12_next_243 rfl ?_
    refine V_getIE (pc := 244) 12 16 dX12_next_244 flX12_295 (by decide) h12.o ((up2_nej (by omega)).trans h16) ?_
    refine V_iconst (pc := 247) (v := nI 2) dX12_next_247 (by decide) ?_
    refine V_icmp_neN (pc := 248) (tgt := 335) dX12_next_248 (by decide) (by omega) (by omega) (fun c248 => absurd c248 (by omega)) (fun n248 => ?_)
    refine V_aload_n (pc := 251) dX12_next_251 rfl ?_
    refine V_getIE (pc := 252) 12 15 dX12_next_252 flX12_272 (by decide) h12.o (up2_self) ?_
    refine V_aload_n (pc := 255) dX12_next_255 rfl ?_
    refine V_getIE (pc := 256) 12 13 dX12_next_256 flX12_263 (by decide) h12.o ((up2_nej (by omega)).trans h13) ?_
    refine V_icmp_geN (pc := 259) (tgt := 335) dX12_next_259 (by decide) (by omega) (by omega) (fun c259 => ?_) (fun n259 => absurd n259 (by omega))
    exact hk
  | succ k ih =>
    intro j hj hp hd hk
    have hb := h256 j (by omega)
    cases hc : isD (t j) with
    | true =>
      rw [run1_t (P := fun j => isD (t j)) hc] at hk
      have e : (j + 1) - p = (j - p) + 1 := by omega
      have ep : p + (j - p) = j := by omega
      have hi := ih (j + 1) (by omega) (by omega) (fun i hi => by
        by_cases z : i = j - p
        · rw [z, ep]; exact hc
        · exact hd i (by omega)) hk
      have hs := dgv_sml (t := t) (f := p) (j - p) hd
      rw [e, dgv, ep] at hi
      have hcmp : (i64 (dgv t p (j - p)) ≤ (1000000 : Int64)) ↔ ¬ (1000000 < dgv t p (j - p)) := by
        rw [show (1000000 : Int64) = i64 1000000 from by decide, i64_le ⟨by omega, by omega⟩ ⟨by decide, by decide⟩]
        omega
      refine V_aload_n (pc := 243) dX12_next_243 rfl ?_
      refine V_getIE (pc := 244) 12 16 dX12_next_244 flX12_295 (by decide) h12.o ((up2_nej (by omega)).trans h16) ?_
      refine V_iconst (pc := 247) (v := nI 2) dX12_next_247 (by decide) ?_
      refine V_icmp_neN (pc := 248) (tgt := 335) dX12_next_248 (by decide) (by omega) (by omega) (fun c248 => absurd c248 (by omega)) (fun n248 => ?_)
      refine V_aload_n (pc := 251) dX12_next_251 rfl ?_
      refine V_getIE (pc := 252) 12 15 dX12_next_252 flX12_272 (by decide) h12.o (up2_self) ?_
      refine V_aload_n (pc := 255) dX12_next_255 rfl ?_
      refine V_getIE (pc := 256) 12 13 dX12_next_256 flX12_263 (by decide) h12.o ((up2_nej (by omega)).trans h13) ?_
      refine V_icmp_geN (pc := 259) (tgt := 335) dX12_next_259 (by decide) (by omega) (by omega) (fun c259 => absurd c259 (by omega)) (fun n259 => ?_)
      refine V_aload_n (pc := 262) dX12_next_262 rfl ?_
      refine V_getR (pc := 263) 12 12 dX12_next_263 flX12_35 (by decide) h12.o h12.R12 ?_
      refine V_aload_n (pc := 266) dX12_next_266 rfl ?_
      refine V_getIE (pc := 267) 12 15 dX12_next_267 flX12_272 (by decide) h12.o (up2_self) ?_
      refine V_ialoadE (pc := 270) dX12_next_270 h12.A12 (by first | decide | omega) (by omega) ((up2_ne (by omega)).trans (ht j (by omega))) ?_
      refine V_callSd (pc := 271) (c_X12_isDigit hb) dX12_next_271 mlX12_292 mkX12_isDigit rfl rfl ⟨Nat.le_of_ble_eq_true rfl, Nat.le_of_ble_eq_true rfl⟩ (Nat.le_of_ble_eq_true rfl) ⟨Nat.le_of_ble_eq_true rfl, Nat.le_of_ble_eq_true rfl⟩ ?_
      refine V_if_eqB (pc := 274) (tgt := 335) dX12_next_274 (by decide) (fun c274 => absurd c274 (by rw [hc]; decide)) (fun n274 => ?_)
      refine V_aload_n (pc := 277) dX12_next_277 rfl ?_
      refine V_aload_n (pc := 278) dX12_next_278 rfl ?_
      refine V_getLE (pc := 279) 12 17 dX12_next_279 flX12_285 (by decide) h12.o (up2_self) ?_
      refine V_ldc2 (pc := 282) dX12_next_282 coX12_304 ?_
      refine V_lcmp (pc := 285) dX12_next_285 ?_
      refine V_if_le (pc := 286) (tgt := 296) dX12_next_286 (by decide) (fun c286 => ?_) (fun n286 => ?_)
      · skip
        rw [if_neg (hcmp.mp ((lg_cmp_le _ _).mp c286))] at hi
        refine V_aload_n (pc := 296) dX12_next_296 rfl ?_
        refine V_getLE (pc := 297) 12 17 dX12_next_297 flX12_285 (by decide) h12.o (up2_self) ?_
        refine V_ldc2 (pc := 300) dX12_next_300 coX12_259 ?_
        refine V_lmul (pc := 303) dX12_next_303 ?_
        refine V_aload_n (pc := 304) dX12_next_304 rfl ?_
        refine V_getR (pc := 305) 12 12 dX12_next_305 flX12_35 (by decide) h12.o h12.R12 ?_
        refine V_aload_n (pc := 308) dX12_next_308 rfl ?_
        refine V_getIE (pc := 309) 12 15 dX12_next_309 flX12_272 (by decide) h12.o (up2_self) ?_
        refine V_ialoadE (pc := 312) dX12_next_312 h12.A12 (by first | decide | omega) (by omega) ((up2_ne (by omega)).trans (ht j (by omega))) ?_
        refine V_i2lN (pc := 313) dX12_next_313 (by omega) ?_
        refine V_ladd (pc := 314) dX12_next_314 ?_
        refine V_ldc2 (pc := 315) dX12_next_315 coX12_306 ?_
        refine V_lsub (pc := 318) dX12_next_318 ?_
        refine V_putL (pc := 319) 12 17 dX12_next_319 flX12_285 (by decide) (by decide) (Or.inl rfl) rfl rfl h12.o ?_
        refine V_aload_n (pc := 322) dX12_next_322 rfl ?_
        refine V_dup (pc := 323) dX12_next_323 rfl ?_
        refine V_getIE (pc := 324) 12 15 dX12_next_324 flX12_272 (by decide) h12.o (up2_self) ?_
        refine V_iconst (pc := 327) (v := nI 1) dX12_next_327 (by decide) ?_
        refine V_iaddN (pc := 328) dX12_next_328 ?_
        refine V_putI (pc := 329) 12 15 dX12_next_329 flX12_272 (by decide) (by decide) (Or.inl rfl) rfl rfl h12.o ?_
        refine V_goto (pc := 332) (tgt := 243) dX12_next_332 (by decide) ?_
        rw [up2_up2, up2_up2]
        first | exact hi | (rw [i64_lN, show (10 : Int64) = i64 10 from by decide, show (48 : Int64) = i64 48 from by decide, i64_mul, i64_add, i64_sub]; exact hi)
      · skip
        rw [if_pos (Classical.byContradiction fun z => n286 ((lg_cmp_le _ _).mpr (hcmp.mpr z)))] at hi
        refine V_aload_n (pc := 289) dX12_next_289 rfl ?_
        refine V_getLE (pc := 290) 12 17 dX12_next_290 flX12_285 (by decide) h12.o (up2_self) ?_
        refine V_goto (pc := 293) (tgt := 319) dX12_next_293 (by decide) ?_
        refine V_putL (pc := 319) 12 17 dX12_next_319 flX12_285 (by decide) (by decide) (Or.inl rfl) rfl rfl h12.o ?_
        refine V_aload_n (pc := 322) dX12_next_322 rfl ?_
        refine V_dup (pc := 323) dX12_next_323 rfl ?_
        refine V_getIE (pc := 324) 12 15 dX12_next_324 flX12_272 (by decide) h12.o (up2_self) ?_
        refine V_iconst (pc := 327) (v := nI 1) dX12_next_327 (by decide) ?_
        refine V_iaddN (pc := 328) dX12_next_328 ?_
        refine V_putI (pc := 329) 12 15 dX12_next_329 flX12_272 (by decide) (by decide) (Or.inl rfl) rfl rfl h12.o ?_
        refine V_goto (pc := 332) (tgt := 243) dX12_next_332 (by decide) ?_
        rw [up2_up2, up2_up2]
        first | exact hi | (rw [i64_lN, show (10 : Int64) = i64 10 from by decide, show (48 : Int64) = i64 48 from by decide, i64_mul, i64_add, i64_sub]; exact hi)
    | false =>
      rw [run1_f (P := fun j => isD (t j)) hc] at hk
      refine V_aload_n (pc := 243) dX12_next_243 rfl ?_
      refine V_getIE (pc := 244) 12 16 dX12_next_244 flX12_295 (by decide) h12.o ((up2_nej (by omega)).trans h16) ?_
      refine V_iconst (pc := 247) (v := nI 2) dX12_next_247 (by decide) ?_
      refine V_icmp_neN (pc := 248) (tgt := 335) dX12_next_248 (by decide) (by omega) (by omega) (fun c248 => absurd c248 (by omega)) (fun n248 => ?_)
      refine V_aload_n (pc := 251) dX12_next_251 rfl ?_
      refine V_getIE (pc := 252) 12 15 dX12_next_252 flX12_272 (by decide) h12.o (up2_self) ?_
      refine V_aload_n (pc := 255) dX12_next_255 rfl ?_
      refine V_getIE (pc := 256) 12 13 dX12_next_256 flX12_263 (by decide) h12.o ((up2_nej (by omega)).trans h13) ?_
      refine V_icmp_geN (pc := 259) (tgt := 335) dX12_next_259 (by decide) (by omega) (by omega) (fun c259 => absurd c259 (by omega)) (fun n259 => ?_)
      refine V_aload_n (pc := 262) dX12_next_262 rfl ?_
      refine V_getR (pc := 263) 12 12 dX12_next_263 flX12_35 (by decide) h12.o h12.R12 ?_
      refine V_aload_n (pc := 266) dX12_next_266 rfl ?_
      refine V_getIE (pc := 267) 12 15 dX12_next_267 flX12_272 (by decide) h12.o (up2_self) ?_
      refine V_ialoadE (pc := 270) dX12_next_270 h12.A12 (by first | decide | omega) (by omega) ((up2_ne (by omega)).trans (ht j (by omega))) ?_
      refine V_callSd (pc := 271) (c_X12_isDigit hb) dX12_next_271 mlX12_292 mkX12_isDigit rfl rfl ⟨Nat.le_of_ble_eq_true rfl, Nat.le_of_ble_eq_true rfl⟩ (Nat.le_of_ble_eq_true rfl) ⟨Nat.le_of_ble_eq_true rfl, Nat.le_of_ble_eq_true rfl⟩ ?_
      refine V_if_eqB (pc := 274) (tgt := 335) dX12_next_274 (by decide) (fun c274 => ?_) (fun n274 => absurd n274 (by rw [hc]; decide))
      exact hk
/-- the next token -/
theorem c_X12_next (h12 : Lay12 E S o) (hT : TP o t n I) {e : Nat} (h15 : I o 15 = nI e) (he : e ≤ n) : C E kX12_next 1 0 0 [.ref o] S I L (fun r S' I' L' => r = none ∧ S = S' ∧ TK o t n I' L' (skp t n e) ∧ FN o I' I L' L) := by
  obtain ⟨h13, ht, hn, h256⟩ := hT
  have hT : TP o t n I := ⟨h13, ht, hn, h256⟩
  have hs := skp_le (t := t) he
  refine C_of (by decide) (Nat.le_of_ble_eq_true rfl) ?_
  refine V_aload_n (pc := 0) dX12_next_0 rfl ?_
  refine V_aload_n (pc := 1) dX12_next_1 rfl ?_
  refine V_getIE (pc := 2) 12 15 dX12_next_2 flX12_272 (by decide) h12.o (h15) ?_
  refine V_putI (pc := 5) 12 14 dX12_next_5 flX12_282 (by decide) (by decide) (Or.inl rfl) rfl rfl h12.o ?_
  refine lp_nx1 h12 hT (n - e) e (by omega) ?_
  show V E kX12_next _ _ 0 0 S (up2 I o 14 (nI (skp t n e))) L 46 _ _
  generalize hp : skp t n e = p at hs
  skip
  have hF : FN o (up2 I o 14 (nI p)) I L L := FN.rf.up (by omega)
  have hT1 : TP o t n (up2 I o 14 (nI p)) := hT.up (by omega)
  have h14 : up2 I o 14 (nI p) o 14 = nI p := up2_self
  generalize up2 I o 14 (nI p) = I1 at hF hT1 h14 ⊢
  obtain ⟨k13, kt, _, _⟩ := hT1
  have hT1 : TP o t n I1 := ⟨k13, kt, hn, h256⟩
  by_cases hpn : p = n
  · have e0 : srt t n p = 0 := srt_end.mpr hpn
    refine V_aload_n (pc := 46) dX12_next_46 rfl ?_
    refine V_aload_n (pc := 47) dX12_next_47 rfl ?_
    refine V_getIE (pc := 48) 12 14 dX12_next_48 flX12_282 (by decide) h12.o (h14) ?_
    refine V_putI (pc := 51) 12 15 dX12_next_51 flX12_272 (by decide) (by decide) (Or.inl rfl) rfl rfl h12.o ?_
    refine V_aload_n (pc := 54) dX12_next_54 rfl ?_
    refine V_lconst (pc := 55) (v := lN 0) dX12_next_55 (by decide) ?_
    refine V_putL (pc := 56) 12 17 dX12_next_56 flX12_285 (by decide) (by decide) (Or.inl rfl) rfl rfl h12.o ?_
    refine V_aload_n (pc := 59) dX12_next_59 rfl ?_
    refine V_aload_n (pc := 60) dX12_next_60 rfl ?_
    refine V_getIE (pc := 61) 12 14 dX12_next_61 flX12_282 (by decide) h12.o ((up2_nej (by omega)).trans h14) ?_
    refine V_aload_n (pc := 64) dX12_next_64 rfl ?_
    refine V_getIE (pc := 65) 12 13 dX12_next_65 flX12_263 (by decide) h12.o ((up2_nej (by omega)).trans k13) ?_
    refine V_icmp_neN (pc := 68) (tgt := 75) dX12_next_68 (by decide) (by omega) (by omega) (fun c68 => absurd c68 (by omega)) (fun n68 => ?_)
    refine V_iconst (pc := 71) (v := nI 0) dX12_next_71 (by decide) ?_
    refine V_goto (pc := 72) (tgt := 114) dX12_next_72 (by decide) ?_
    refine V_putI (pc := 114) 12 16 dX12_next_114 flX12_295 (by decide) (by decide) (Or.inl rfl) rfl rfl h12.o ?_
    refine V_aload_n (pc := 117) dX12_next_117 rfl ?_
    refine V_getIE (pc := 118) 12 16 dX12_next_118 flX12_295 (by decide) h12.o (up2_self) ?_
    refine V_iconst (pc := 121) (v := nI 3) dX12_next_121 (by decide) ?_
    refine V_icmp_neN (pc := 122) (tgt := 149) dX12_next_122 (by decide) (by omega) (by omega) (fun c122 => ?_) (fun n122 => absurd n122 (by omega))
    refine V_aload_n (pc := 149) dX12_next_149 rfl ?_
    refine V_getIE (pc := 150) 12 16 dX12_next_150 flX12_295 (by decide) h12.o (up2_self) ?_
    refine V_iconst (pc := 153) (v := nI 1) dX12_next_153 (by decide) ?_
    refine V_icmp_neN (pc := 154) (tgt := 243) dX12_next_154 (by decide) (by omega) (by omega) (fun c154 => ?_) (fun n154 => absurd n154 (by omega))
    refine V_aload_n (pc := 243) dX12_next_243 rfl ?_
    refine V_getIE (pc := 244) 12 16 dX12_next_244 flX12_295 (by decide) h12.o (up2_self) ?_
    refine V_iconst (pc := 247) (v := nI 2) dX12_next_247 (by decide) ?_
    refine V_icmp_neN (pc := 248) (tgt := 335) dX12_next_248 (by decide) (by omega) (by omega) (fun c248 => ?_) (fun n248 => absurd n248 (by omega))
    refine V_vret (pc := 335) dX12_next_335 rfl (by first | decide | omega) (by first | decide | omega) ?_
    refine ⟨rfl, rfl, ⟨((hT1.up (by omega)).up (by omega)), by omega, ?_, ?_, ?_, ?_⟩, ((hF.up (by omega)).upL).up (by omega)⟩
    · rw [up2_nej (by omega), up2_nej (by omega)]; exact h14
    · rw [up2_nej (by omega), up2_self, enT, e0]; rfl
    · rw [up2_self, e0]
    · rw [up2_self, wth, e0]; exact i64_lN 0
  · have hb := h256 p (by omega)
    by_cases hl : isL (t p) = true
    · have e1 : srt t n p = 1 := by rw [srt, if_neg hpn, if_pos hl]
      refine V_aload_n (pc := 46) dX12_next_46 rfl ?_
      refine V_aload_n (pc := 47) dX12_next_47 rfl ?_
      refine V_getIE (pc := 48) 12 14 dX12_next_48 flX12_282 (by decide) h12.o (h14) ?_
      refine V_putI (pc := 51) 12 15 dX12_next_51 flX12_272 (by decide) (by decide) (Or.inl rfl) rfl rfl h12.o ?_
      refine V_aload_n (pc := 54) dX12_next_54 rfl ?_
      refine V_lconst (pc := 55) (v := lN 0) dX12_next_55 (by decide) ?_
      refine V_putL (pc := 56) 12 17 dX12_next_56 flX12_285 (by decide) (by decide) (Or.inl rfl) rfl rfl h12.o ?_
      refine V_aload_n (pc := 59) dX12_next_59 rfl ?_
      refine V_aload_n (pc := 60) dX12_next_60 rfl ?_
      refine V_getIE (pc := 61) 12 14 dX12_next_61 flX12_282 (by decide) h12.o ((up2_nej (by omega)).trans h14) ?_
      refine V_aload_n (pc := 64) dX12_next_64 rfl ?_
      refine V_getIE (pc := 65) 12 13 dX12_next_65 flX12_263 (by decide) h12.o ((up2_nej (by omega)).trans k13) ?_
      refine V_icmp_neN (pc := 68) (tgt := 75) dX12_next_68 (by decide) (by omega) (by omega) (fun c68 => ?_) (fun n68 => absurd n68 (by omega))
      refine V_aload_n (pc := 75) dX12_next_75 rfl ?_
      refine V_getR (pc := 76) 12 12 dX12_next_76 flX12_35 (by decide) h12.o h12.R12 ?_
      refine V_aload_n (pc := 79) dX12_next_79 rfl ?_
      refine V_getIE (pc := 80) 12 14 dX12_next_80 flX12_282 (by decide) h12.o ((up2_nej (by omega)).trans h14) ?_
      refine V_ialoadE (pc := 83) dX12_next_83 h12.A12 (by first | decide | omega) (by omega) ((up2_ne (by omega)).trans (kt p (by omega))) ?_
      refine V_callSd (pc := 84) (c_X12_isSmall hb) dX12_next_84 mlX12_289 mkX12_isSmall rfl rfl ⟨Nat.le_of_ble_eq_true rfl, Nat.le_of_ble_eq_true rfl⟩ (Nat.le_of_ble_eq_true rfl) ⟨Nat.le_of_ble_eq_true rfl, Nat.le_of_ble_eq_true rfl⟩ ?_
      refine V_if_eqB (pc := 87) (tgt := 94) dX12_next_87 (by decide) (fun c87 => absurd c87 (by rw [hl]; decide)) (fun n87 => ?_)
      refine V_iconst (pc := 90) (v := nI 1) dX12_next_90 (by decide) ?_
      refine V_goto (pc := 91) (tgt := 114) dX12_next_91 (by decide) ?_
      refine V_putI (pc := 114) 12 16 dX12_next_114 flX12_295 (by decide) (by decide) (Or.inl rfl) rfl rfl h12.o ?_
      refine V_aload_n (pc := 117) dX12_next_117 rfl ?_
      refine V_getIE (pc := 118) 12 16 dX12_next_118 flX12_295 (by decide) h12.o (up2_self) ?_
      refine V_iconst (pc := 121) (v := nI 3) dX12_next_121 (by decide) ?_
      refine V_icmp_neN (pc := 122) (tgt := 149) dX12_next_122 (by decide) (by omega) (by omega) (fun c122 => ?_) (fun n122 => absurd n122 (by omega))
      rw [up2_comj (a := o) (i := 15) (j := 16) (by omega), show lN 0 = i64 (hsh t p (p - p)) from by rw [Nat.sub_self]; exact i64_lN 0]
      refine lp_nx2 h12 (hT1.up (by omega)) ((up2_nej (by omega)).trans h14) up2_self (n - p) p (by omega) (Nat.le_refl p) ?_
      refine V_vret dX12_next_335 rfl (by decide) (by decide) ?_
      refine ⟨rfl, rfl, ⟨((hT1.up (by omega)).up (by omega)), by omega, ?_, ?_, ?_, ?_⟩, ((hF.up (by omega)).up (by omega)).upL⟩
      · rw [up2_nej (by omega), up2_nej (by omega)]; exact h14
      · rw [up2_self, enT, if_pos e1]
      · rw [up2_nej (by omega), up2_self, e1]
      · rw [up2_self, wth, if_pos e1, enT, if_pos e1]
    · by_cases hd : isD (t p) = true
      · have e1 : srt t n p = 2 := by rw [srt, if_neg hpn, if_neg hl, if_pos hd]
        refine V_aload_n (pc := 46) dX12_next_46 rfl ?_
        refine V_aload_n (pc := 47) dX12_next_47 rfl ?_
        refine V_getIE (pc := 48) 12 14 dX12_next_48 flX12_282 (by decide) h12.o (h14) ?_
        refine V_putI (pc := 51) 12 15 dX12_next_51 flX12_272 (by decide) (by decide) (Or.inl rfl) rfl rfl h12.o ?_
        refine V_aload_n (pc := 54) dX12_next_54 rfl ?_
        refine V_lconst (pc := 55) (v := lN 0) dX12_next_55 (by decide) ?_
        refine V_putL (pc := 56) 12 17 dX12_next_56 flX12_285 (by decide) (by decide) (Or.inl rfl) rfl rfl h12.o ?_
        refine V_aload_n (pc := 59) dX12_next_59 rfl ?_
        refine V_aload_n (pc := 60) dX12_next_60 rfl ?_
        refine V_getIE (pc := 61) 12 14 dX12_next_61 flX12_282 (by decide) h12.o ((up2_nej (by omega)).trans h14) ?_
        refine V_aload_n (pc := 64) dX12_next_64 rfl ?_
        refine V_getIE (pc := 65) 12 13 dX12_next_65 flX12_263 (by decide) h12.o ((up2_nej (by omega)).trans k13) ?_
        refine V_icmp_neN (pc := 68) (tgt := 75) dX12_next_68 (by decide) (by omega) (by omega) (fun c68 => ?_) (fun n68 => absurd n68 (by omega))
        refine V_aload_n (pc := 75) dX12_next_75 rfl ?_
        refine V_getR (pc := 76) 12 12 dX12_next_76 flX12_35 (by decide) h12.o h12.R12 ?_
        refine V_aload_n (pc := 79) dX12_next_79 rfl ?_
        refine V_getIE (pc := 80) 12 14 dX12_next_80 flX12_282 (by decide) h12.o ((up2_nej (by omega)).trans h14) ?_
        refine V_ialoadE (pc := 83) dX12_next_83 h12.A12 (by first | decide | omega) (by omega) ((up2_ne (by omega)).trans (kt p (by omega))) ?_
        refine V_callSd (pc := 84) (c_X12_isSmall hb) dX12_next_84 mlX12_289 mkX12_isSmall rfl rfl ⟨Nat.le_of_ble_eq_true rfl, Nat.le_of_ble_eq_true rfl⟩ (Nat.le_of_ble_eq_true rfl) ⟨Nat.le_of_ble_eq_true rfl, Nat.le_of_ble_eq_true rfl⟩ ?_
        refine V_if_eqB (pc := 87) (tgt := 94) dX12_next_87 (by decide) (fun c87 => ?_) (fun n87 => absurd n87 (by rw [Bool.eq_false_iff.mpr hl]; decide))
        refine V_aload_n (pc := 94) dX12_next_94 rfl ?_
        refine V_getR (pc := 95) 12 12 dX12_next_95 flX12_35 (by decide) h12.o h12.R12 ?_
        refine V_aload_n (pc := 98) dX12_next_98 rfl ?_
        refine V_getIE (pc := 99) 12 14 dX12_next_99 flX12_282 (by decide) h12.o ((up2_nej (by omega)).trans h14) ?_
        refine V_ialoadE (pc := 102) dX12_next_102 h12.A12 (by first | decide | omega) (by omega) ((up2_ne (by omega)).trans (kt p (by omega))) ?_
        refine V_callSd (pc := 103) (c_X12_isDigit hb) dX12_next_103 mlX12_292 mkX12_isDigit rfl rfl ⟨Nat.le_of_ble_eq_true rfl, Nat.le_of_ble_eq_true rfl⟩ (Nat.le_of_ble_eq_true rfl) ⟨Nat.le_of_ble_eq_true rfl, Nat.le_of_ble_eq_true rfl⟩ ?_
        refine V_if_eqB (pc := 106) (tgt := 113) dX12_next_106 (by decide) (fun c106 => absurd c106 (by rw [hd]; decide)) (fun n106 => ?_)
        refine V_iconst (pc := 109) (v := nI 2) dX12_next_109 (by decide) ?_
        refine V_goto (pc := 110) (tgt := 114) dX12_next_110 (by decide) ?_
        refine V_putI (pc := 114) 12 16 dX12_next_114 flX12_295 (by decide) (by decide) (Or.inl rfl) rfl rfl h12.o ?_
        refine V_aload_n (pc := 117) dX12_next_117 rfl ?_
        refine V_getIE (pc := 118) 12 16 dX12_next_118 flX12_295 (by decide) h12.o (up2_self) ?_
        refine V_iconst (pc := 121) (v := nI 3) dX12_next_121 (by decide) ?_
        refine V_icmp_neN (pc := 122) (tgt := 149) dX12_next_122 (by decide) (by omega) (by omega) (fun c122 => ?_) (fun n122 => absurd n122 (by omega))
        refine V_aload_n (pc := 149) dX12_next_149 rfl ?_
        refine V_getIE (pc := 150) 12 16 dX12_next_150 flX12_295 (by decide) h12.o (up2_self) ?_
        refine V_iconst (pc := 153) (v := nI 1) dX12_next_153 (by decide) ?_
        refine V_icmp_neN (pc := 154) (tgt := 243) dX12_next_154 (by decide) (by omega) (by omega) (fun c154 => ?_) (fun n154 => absurd n154 (by omega))
        rw [up2_comj (a := o) (i := 15) (j := 16) (by omega), show lN 0 = i64 (dgv t p (p - p)) from by rw [Nat.sub_self]; exact i64_lN 0]
        refine lp_nx3 h12 (hT1.up (by omega)) up2_self (n - p) p (by omega) (Nat.le_refl p) (fun i hi => absurd hi (by omega)) ?_
        refine V_vret dX12_next_335 rfl (by decide) (by decide) ?_
        refine ⟨rfl, rfl, ⟨((hT1.up (by omega)).up (by omega)), by omega, ?_, ?_, ?_, ?_⟩, ((hF.up (by omega)).up (by omega)).upL⟩
        · rw [up2_nej (by omega), up2_nej (by omega)]; exact h14
        · rw [up2_self, enT, e1]; rfl
        · rw [up2_nej (by omega), up2_self, e1]
        · rw [up2_self, wth, enT, e1]; rfl
      · have e1 : srt t n p = 3 := by rw [srt, if_neg hpn, if_neg hl, if_neg hd]
        refine V_aload_n (pc := 46) dX12_next_46 rfl ?_
        refine V_aload_n (pc := 47) dX12_next_47 rfl ?_
        refine V_getIE (pc := 48) 12 14 dX12_next_48 flX12_282 (by decide) h12.o (h14) ?_
        refine V_putI (pc := 51) 12 15 dX12_next_51 flX12_272 (by decide) (by decide) (Or.inl rfl) rfl rfl h12.o ?_
        refine V_aload_n (pc := 54) dX12_next_54 rfl ?_
        refine V_lconst (pc := 55) (v := lN 0) dX12_next_55 (by decide) ?_
        refine V_putL (pc := 56) 12 17 dX12_next_56 flX12_285 (by decide) (by decide) (Or.inl rfl) rfl rfl h12.o ?_
        refine V_aload_n (pc := 59) dX12_next_59 rfl ?_
        refine V_aload_n (pc := 60) dX12_next_60 rfl ?_
        refine V_getIE (pc := 61) 12 14 dX12_next_61 flX12_282 (by decide) h12.o ((up2_nej (by omega)).trans h14) ?_
        refine V_aload_n (pc := 64) dX12_next_64 rfl ?_
        refine V_getIE (pc := 65) 12 13 dX12_next_65 flX12_263 (by decide) h12.o ((up2_nej (by omega)).trans k13) ?_
        refine V_icmp_neN (pc := 68) (tgt := 75) dX12_next_68 (by decide) (by omega) (by omega) (fun c68 => ?_) (fun n68 => absurd n68 (by omega))
        refine V_aload_n (pc := 75) dX12_next_75 rfl ?_
        refine V_getR (pc := 76) 12 12 dX12_next_76 flX12_35 (by decide) h12.o h12.R12 ?_
        refine V_aload_n (pc := 79) dX12_next_79 rfl ?_
        refine V_getIE (pc := 80) 12 14 dX12_next_80 flX12_282 (by decide) h12.o ((up2_nej (by omega)).trans h14) ?_
        refine V_ialoadE (pc := 83) dX12_next_83 h12.A12 (by first | decide | omega) (by omega) ((up2_ne (by omega)).trans (kt p (by omega))) ?_
        refine V_callSd (pc := 84) (c_X12_isSmall hb) dX12_next_84 mlX12_289 mkX12_isSmall rfl rfl ⟨Nat.le_of_ble_eq_true rfl, Nat.le_of_ble_eq_true rfl⟩ (Nat.le_of_ble_eq_true rfl) ⟨Nat.le_of_ble_eq_true rfl, Nat.le_of_ble_eq_true rfl⟩ ?_
        refine V_if_eqB (pc := 87) (tgt := 94) dX12_next_87 (by decide) (fun c87 => ?_) (fun n87 => absurd n87 (by rw [Bool.eq_false_iff.mpr hl]; decide))
        refine V_aload_n (pc := 94) dX12_next_94 rfl ?_
        refine V_getR (pc := 95) 12 12 dX12_next_95 flX12_35 (by decide) h12.o h12.R12 ?_
        refine V_aload_n (pc := 98) dX12_next_98 rfl ?_
        refine V_getIE (pc := 99) 12 14 dX12_next_99 flX12_282 (by decide) h12.o ((up2_nej (by omega)).trans h14) ?_
        refine V_ialoadE (pc := 102) dX12_next_102 h12.A12 (by first | decide | omega) (by omega) ((up2_ne (by omega)).trans (kt p (by omega))) ?_
        refine V_callSd (pc := 103) (c_X12_isDigit hb) dX12_next_103 mlX12_292 mkX12_isDigit rfl rfl ⟨Nat.le_of_ble_eq_true rfl, Nat.le_of_ble_eq_true rfl⟩ (Nat.le_of_ble_eq_true rfl) ⟨Nat.le_of_ble_eq_true rfl, Nat.le_of_ble_eq_true rfl⟩ ?_
        refine V_if_eqB (pc := 106) (tgt := 113) dX12_next_106 (by decide) (fun c106 => ?_) (fun n106 => absurd n106 (by rw [Bool.eq_false_iff.mpr hd]; decide))
        refine V_iconst (pc := 113) (v := nI 3) dX12_next_113 (by decide) ?_
        refine V_putI (pc := 114) 12 16 dX12_next_114 flX12_295 (by decide) (by decide) (Or.inl rfl) rfl rfl h12.o ?_
        refine V_aload_n (pc := 117) dX12_next_117 rfl ?_
        refine V_getIE (pc := 118) 12 16 dX12_next_118 flX12_295 (by decide) h12.o (up2_self) ?_
        refine V_iconst (pc := 121) (v := nI 3) dX12_next_121 (by decide) ?_
        refine V_icmp_neN (pc := 122) (tgt := 149) dX12_next_122 (by decide) (by omega) (by omega) (fun c122 => absurd c122 (by omega)) (fun n122 => ?_)
        refine V_aload_n (pc := 125) dX12_next_125 rfl ?_
        refine V_aload_n (pc := 126) dX12_next_126 rfl ?_
        refine V_getR (pc := 127) 12 12 dX12_next_127 flX12_35 (by decide) h12.o h12.R12 ?_
        refine V_aload_n (pc := 130) dX12_next_130 rfl ?_
        refine V_getIE (pc := 131) 12 14 dX12_next_131 flX12_282 (by decide) h12.o ((up2_nej (by omega)).trans ((up2_nej (by omega)).trans h14)) ?_
        refine V_ialoadE (pc := 134) dX12_next_134 h12.A12 (by first | decide | omega) (by omega) ((up2_ne (by omega)).trans ((up2_ne (by omega)).trans (kt p (by omega)))) ?_
        refine V_i2lN (pc := 135) dX12_next_135 (by omega) ?_
        refine V_putL (pc := 136) 12 17 dX12_next_136 flX12_285 (by decide) (by decide) (Or.inl rfl) rfl rfl h12.o ?_
        refine V_aload_n (pc := 139) dX12_next_139 rfl ?_
        refine V_dup (pc := 140) dX12_next_140 rfl ?_
        refine V_getIE (pc := 141) 12 15 dX12_next_141 flX12_272 (by decide) h12.o ((up2_nej (by omega)).trans up2_self) ?_
        refine V_iconst (pc := 144) (v := nI 1) dX12_next_144 (by decide) ?_
        refine V_iaddN (pc := 145) dX12_next_145 ?_
        refine V_putI (pc := 146) 12 15 dX12_next_146 flX12_272 (by decide) (by decide) (Or.inl rfl) rfl rfl h12.o ?_
        refine V_aload_n (pc := 149) dX12_next_149 rfl ?_
        refine V_getIE (pc := 150) 12 16 dX12_next_150 flX12_295 (by decide) h12.o ((up2_nej (by omega)).trans up2_self) ?_
        refine V_iconst (pc := 153) (v := nI 1) dX12_next_153 (by decide) ?_
        refine V_icmp_neN (pc := 154) (tgt := 243) dX12_next_154 (by decide) (by omega) (by omega) (fun c154 => ?_) (fun n154 => absurd n154 (by omega))
        refine V_aload_n (pc := 243) dX12_next_243 rfl ?_
        refine V_getIE (pc := 244) 12 16 dX12_next_244 flX12_295 (by decide) h12.o ((up2_nej (by omega)).trans up2_self) ?_
        refine V_iconst (pc := 247) (v := nI 2) dX12_next_247 (by decide) ?_
        refine V_icmp_neN (pc := 248) (tgt := 335) dX12_next_248 (by decide) (by omega) (by omega) (fun c248 => ?_) (fun n248 => absurd n248 (by omega))
        refine V_vret (pc := 335) dX12_next_335 rfl (by first | decide | omega) (by first | decide | omega) ?_
        refine ⟨rfl, rfl, ⟨(((hT1.up (by omega)).up (by omega)).up (by omega)), by omega, ?_, ?_, ?_, ?_⟩, ((((hF.up (by omega)).upL).up (by omega)).upL).up (by omega)⟩
        · rw [up2_nej (by omega), up2_nej (by omega), up2_nej (by omega)]; exact h14
        · rw [up2_self, enT, e1]; rfl
        · rw [up2_nej (by omega), up2_self, e1]
        · rw [up2_self, wth, e1]; exact i64_lN _
end TA
