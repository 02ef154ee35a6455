/-! THE REFERENCE: keep -/
theorem xor256 {a b : Nat} (ha : a < 256) (hb : b < 256) : a ^^^ b < 256 := Nat.xor_lt_two_pow (n := 8) ha hb
theorem bit_and {a b t : Nat} : (a &&& b) / 2 ^ t % 2 = (a / 2 ^ t % 2) * (b / 2 ^ t % 2) := by
  have h := Nat.testBit_and a b t
  rw [Nat.testBit_eq_decide_div_mod_eq, Nat.testBit_eq_decide_div_mod_eq, Nat.testBit_eq_decide_div_mod_eq] at h
  have h1 := Nat.mod_two_eq_zero_or_one (a / 2 ^ t)
  have h2 := Nat.mod_two_eq_zero_or_one (b / 2 ^ t)
  have h3 := Nat.mod_two_eq_zero_or_one ((a &&& b) / 2 ^ t)
  rcases h1 with h1 | h1 <;> rcases h2 with h2 | h2 <;> rcases h3 with h3 | h3 <;> simp [h1, h2, h3] at h ⊢
theorem pop_sub {s p : Nat} (h : s &&& p = p) : pop8 p ≤ pop8 s := by
  rw [← pop8_sm, ← pop8_sm]
  refine sm_mono (fun t _ => ?_)
  show p / 2 ^ t % 2 ≤ s / 2 ^ t % 2
  have e := bit_and (a := s) (b := p) (t := t)
  rw [h] at e
  have h1 := Nat.mod_two_eq_zero_or_one (s / 2 ^ t)
  rcases h1 with h1 | h1
  · rw [h1, Nat.zero_mul] at e; omega
  · omega
def FARN : Nat := 100000000
/-- the least of the sets that are near, of the first n -/
def lnx (d : Nat) (f : Nat → Nat) (s : Nat) : Nat → Nat | 0 => FARN | n + 1 => if pop8 (s ^^^ n) ≤ d ∧ f n < lnx d f s n then f n else lnx d f s n
/-- the fewest pins more of the last m + 1 bars, the first of them being s -/
def mor (p : Nat → Nat) (d : Nat) : Nat → Nat → Nat | 0 => fun s => if s &&& p 7 = p 7 then pop8 s - pop8 (p 7) else FARN | m + 1 => fun s => if s &&& p (6 - m) = p (6 - m) then pop8 s - pop8 (p (6 - m)) + lnx d (mor p d m) s 256 else FARN
theorem lnx_s (d : Nat) (f : Nat → Nat) (s n : Nat) : lnx d f s (n + 1) = if pop8 (s ^^^ n) ≤ d ∧ f n < lnx d f s n then f n else lnx d f s n := rfl
theorem lnx_le (d : Nat) (f : Nat → Nat) (s : Nat) : ∀ n, lnx d f s n ≤ FARN
  | 0 => Nat.le_refl _
  | n + 1 => by
    have := lnx_le d f s n
    unfold lnx
    split <;> omega
theorem lnx_at {d : Nat} {f : Nat → Nat} {s : Nat} : ∀ {n : Nat}, lnx d f s n < FARN → ∃ u, u < n ∧ pop8 (s ^^^ u) ≤ d ∧ f u = lnx d f s n
  | 0, h => absurd h (Nat.lt_irrefl _)
  | n + 1, h => by
    unfold lnx at h ⊢
    split
    · rename_i c; exact ⟨n, by omega, c.1, rfl⟩
    · rename_i c
      rw [if_neg c] at h
      obtain ⟨u, h1, h2, h3⟩ := lnx_at h
      exact ⟨u, by omega, h2, h3⟩
theorem lnx_min {d : Nat} {f : Nat → Nat} {s : Nat} : ∀ {n u : Nat}, u < n → pop8 (s ^^^ u) ≤ d → lnx d f s n ≤ f u
  | 0, u, hu, _ => absurd hu (Nat.not_lt_zero u)
  | n + 1, u, hu, hd => by
    unfold lnx
    by_cases e : u = n
    · subst e
      by_cases c : pop8 (s ^^^ u) ≤ d ∧ f u < lnx d f s u
      · rw [if_pos c]; exact Nat.le_refl _
      · rw [if_neg c]; omega
    · have ih := lnx_min (d := d) (f := f) (s := s) (show u < n by omega) hd
      split <;> omega
theorem mor_le (p : Nat → Nat) (d : Nat) : ∀ m s, mor p d m s ≤ FARN + 8
  | 0, s => by
    have := pop8_le s
    show (if s &&& p 7 = p 7 then pop8 s - pop8 (p 7) else FARN) ≤ FARN + 8
    split
    · exact Nat.le_trans (Nat.sub_le _ _) (by omega)
    · omega
  | m + 1, s => by
    have h1 := pop8_le s
    have h2 := lnx_le d (mor p d m) s 256
    show (if s &&& p (6 - m) = p (6 - m) then pop8 s - pop8 (p (6 - m)) + lnx d (mor p d m) s 256 else FARN) ≤ FARN + 8
    have h3 := Nat.sub_le (pop8 s) (pop8 (p (6 - m)))
    split
    · omega
    · omega
theorem mor_255 {p : Nat → Nat} (hp : ∀ j, j < 8 → 255 &&& p j = p j) (d : Nat) : ∀ m, m < 8 → mor p d m 255 ≤ 8 * (m + 1)
  | 0, _ => by
    show (if _ then _ else _) ≤ _
    rw [if_pos (hp 7 (by omega))]
    have := pop8_le 255
    omega
  | m + 1, hm => by
    have ih := mor_255 hp d m (by omega)
    have h1 := pop8_le 255
    have h2 : lnx d (mor p d m) 255 256 ≤ mor p d m 255 := lnx_min (by omega) (by rw [Nat.xor_self]; show pop8 0 ≤ d; exact Nat.zero_le d)
    show (if _ then _ else _) ≤ _
    rw [if_pos (hp (6 - m) (by omega))]
    omega
def mn0 (f : Nat → Nat) : Nat → Nat | 0 => FARN | n + 1 => if f n < mn0 f n then f n else mn0 f n
theorem mn0_le (f : Nat → Nat) : ∀ {n u : Nat}, u < n → mn0 f n ≤ f u
  | 0, u, hu => absurd hu (Nat.not_lt_zero u)
  | n + 1, u, hu => by
    unfold mn0
    by_cases e : u = n
    · subst e; split <;> omega
    · have := mn0_le f (show u < n by omega)
      split <;> omega
theorem mn0_at {f : Nat → Nat} : ∀ {n : Nat}, mn0 f n < FARN → ∃ u, u < n ∧ f u = mn0 f n
  | 0, h => absurd h (Nat.lt_irrefl _)
  | n + 1, h => by
    unfold mn0 at h ⊢
    split
    · exact ⟨n, by omega, rfl⟩
    · rename_i c
      rw [if_neg c] at h
      obtain ⟨u, h1, h2⟩ := mn0_at h
      exact ⟨u, by omega, h2⟩
theorem mn0_far (f : Nat → Nat) : ∀ n, mn0 f n ≤ FARN
  | 0 => Nat.le_refl _
  | n + 1 => by
    have := mn0_far f n
    unfold mn0
    split <;> omega
/-- the first sets: what is left to pay, and the set of the bar ahead -/
def kpp (p : Nat → Nat) (d k l ah : Nat) : Nat → Bool := fun s => decide (mor p d (7 - k) s = l) && (decide (k = 0) || decide (pop8 (ah ^^^ s) ≤ d))
def kpa (p : Nat → Nat) (d : Nat) : Nat → Nat × Nat | 0 => (mn0 (mor p d 7) 256, 0) | k + 1 => ((kpa p d k).1 - (pop8 (fst1 (kpp p d k (kpa p d k).1 (kpa p d k).2) 0 256) - pop8 (p k)), fst1 (kpp p d k (kpa p d k).1 (kpa p d k).2) 0 256)
def pn (q : Nat → Nat) (b : Nat) : Nat → Nat := fun j => q (8 + 8 * b + j)
def spKeep (A : AT) (x y z : Int32) : Int32 := if bnd x (aq A 0) = true ∧ bnd y 9 = true ∧ (z = -1 ∨ bnd z 8 = true) then (if z = -1 then nI (kpa (pn (aq A) (cln x)) (cln y) 0).1 else nI (kpa (pn (aq A) (cln x)) (cln y) (cln z + 1)).2) else -1
theorem fst1_at {p : Nat → Bool} : ∀ {k s u : Nat}, s ≤ u → u < s + k → p u = true → p (fst1 p s k) = true ∧ fst1 p s k ≤ u
  | 0, s, u, h1, h2, _ => by omega
  | k + 1, s, u, h1, h2, h3 => by
    unfold fst1
    by_cases c : p s = true
    · rw [if_pos c]; exact ⟨c, h1⟩
    · rw [if_neg c]
      exact fst1_at (by rcases Nat.lt_or_ge s u with z | z; omega; exact absurd (by rw [show s = u by omega]; exact h3) c) (by omega) h3
/-- there is a set for each bar -/
theorem kpa_ok {p : Nat → Nat} (hp : ∀ j, j < 8 → 255 &&& p j = p j) {d : Nat} : ∀ k, k < 8 → (∃ u, u < 256 ∧ kpp p d k (kpa p d k).1 (kpa p d k).2 u = true) ∧ (kpa p d k).1 ≤ 64 ∧ (kpa p d k).2 < 256
  | 0, _ => by
    have h1 : mn0 (mor p d 7) 256 ≤ 64 := Nat.le_trans (mn0_le _ (show 255 < 256 by omega)) (mor_255 hp d 7 (by omega))
    obtain ⟨u, hu, e⟩ := mn0_at (f := mor p d 7) (n := 256) (by unfold FARN; omega)
    rw [kpa]
    generalize mn0 (mor p d 7) 256 = l at h1 e ⊢
    refine ⟨⟨u, hu, ?_⟩, h1, Nat.lt_of_sub_eq_succ (show 256 - 0 = 255 + 1 from rfl)⟩
    unfold kpp
    rw [decide_eq_true (p := mor p d (7 - 0) u = _) e, decide_eq_true (p := 0 = 0) rfl, Bool.true_or, Bool.true_and]
  | k + 1, hk => by
    obtain ⟨⟨u, hu, hpu⟩, hl, ha⟩ := kpa_ok hp k (by omega)
    have hf := fst1_at (s := 0) (k := 256) (Nat.zero_le u) (by omega) hpu
    generalize hs : fst1 (kpp p d k (kpa p d k).1 (kpa p d k).2) 0 256 = s at hf
    have hm := of_decide_eq_true (Bool.and_eq_true_iff.mp hf.1).1
    have hlt : s < 256 := by omega
    have e7 : 7 - k = (6 - k) + 1 := by omega
    rw [e7] at hm
    have hm2 : (if s &&& p (6 - (6 - k)) = p (6 - (6 - k)) then pop8 s - pop8 (p (6 - (6 - k))) + lnx d (mor p d (6 - k)) s 256 else FARN) = (kpa p d k).1 := hm
    rw [show 6 - (6 - k) = k by omega] at hm2
    have hsup : s &&& p k = p k := by
      by_cases c : s &&& p k = p k
      · exact c
      · rw [if_neg c] at hm2; unfold FARN at hm2; omega
    rw [if_pos hsup] at hm2
    have e1 : (kpa p d (k + 1)).1 = lnx d (mor p d (6 - k)) s 256 := by
      show (kpa p d k).1 - (pop8 (fst1 (kpp p d k (kpa p d k).1 (kpa p d k).2) 0 256) - pop8 (p k)) = _
      rw [hs]; omega
    have e2 : (kpa p d (k + 1)).2 = s := hs
    rw [e1, e2]
    obtain ⟨v, v1, v2, v3⟩ := lnx_at (d := d) (f := mor p d (6 - k)) (s := s) (n := 256) (by unfold FARN; omega)
    refine ⟨⟨v, v1, ?_⟩, by omega, hlt⟩
    show (decide (mor p d (7 - (k + 1)) v = _) && (decide (k + 1 = 0) || decide (pop8 (s ^^^ v) ≤ d))) = true
    rw [show 7 - (k + 1) = 6 - k by omega, decide_eq_true v3, decide_eq_true v2]
    simp
theorem kpa_sub {p : Nat → Nat} (hp : ∀ j, j < 8 → 255 &&& p j = p j) {d k : Nat} (hk : k < 8) : fst1 (kpp p d k (kpa p d k).1 (kpa p d k).2) 0 256 < 256 ∧ pop8 (p k) ≤ pop8 (fst1 (kpp p d k (kpa p d k).1 (kpa p d k).2) 0 256) ∧ pop8 (fst1 (kpp p d k (kpa p d k).1 (kpa p d k).2) 0 256) - pop8 (p k) ≤ (kpa p d k).1 := by
  obtain ⟨⟨u, hu, hpu⟩, hl, ha⟩ := kpa_ok (d := d) hp k hk
  have hf := fst1_at (s := 0) (k := 256) (Nat.zero_le u) (by omega) hpu
  generalize fst1 (kpp p d k (kpa p d k).1 (kpa p d k).2) 0 256 = s at hf ⊢
  have hm := of_decide_eq_true (Bool.and_eq_true_iff.mp hf.1).1
  refine ⟨by omega, ?_⟩
  rcases Nat.lt_or_ge k 7 with h7 | h7
  · rw [show 7 - k = (6 - k) + 1 by omega] at hm
    have hm2 : (if s &&& p (6 - (6 - k)) = p (6 - (6 - k)) then pop8 s - pop8 (p (6 - (6 - k))) + lnx d (mor p d (6 - k)) s 256 else FARN) = (kpa p d k).1 := hm
    rw [show 6 - (6 - k) = k by omega] at hm2
    by_cases c : s &&& p k = p k
    · rw [if_pos c] at hm2; exact ⟨pop_sub c, by omega⟩
    · rw [if_neg c] at hm2; unfold FARN at hm2; omega
  · have e : k = 7 := by omega
    subst e
    have hm2 : (if s &&& p 7 = p 7 then pop8 s - pop8 (p 7) else FARN) = (kpa p d 7).1 := hm
    by_cases c : s &&& p 7 = p 7
    · rw [if_pos c] at hm2; exact ⟨pop_sub c, by omega⟩
    · rw [if_neg c] at hm2; unfold FARN at hm2; omega
section MK
variable {E : EnT} {S : ST} {I : IT} {L : LT} {o : Nat} {A : AT}
theorem c_X12_leastNext (h12 : Lay12 E S o) {f : Nat → Nat} {j s d : Nat} (hj : j < 7) (hs : s < 256) (hd : d < 9) (hf : ∀ u, u < 256 → I (o + 27) (256 * (j + 1) + u) = nI (f u) ∧ f u ≤ FARN + 8) : Cd E kX12_leastNext 1 0 0 [.ref o, .int (nI j), .int (nI s), .int (nI d)] S I L (.int (nI (lnx d f s 256))) S I L := by
  refine C_of (by decide) (Nat.le_of_ble_eq_true rfl) ?_
  refine V_ldcw (pc := 0) dX12_leastNext_0 coX12_487 ?_
  refine V_istore (pc := 3) (ls' := [(0, _), (1, _), (2, _), (3, _), (4, _)]) dX12_leastNext_3 (by decide) rfl ?_
  refine V_iconst (pc := 5) (v := nI 0) dX12_leastNext_5 (by decide) ?_
  refine V_istore (pc := 6) (ls' := [(0, _), (1, _), (2, _), (3, _), (4, _), (5, _)]) dX12_leastNext_6 (by decide) rfl ?_
  refine loopUp (P := fun n => V E kX12_leastNext (rmOf 1 0 0) (Qd E (.int (nI (lnx d f s 256))) S I L) 0 0 S I L 8 [(0, .ref o), (1, .int (nI j)), (2, .int (nI s)), (3, .int (nI d)), (4, .int (nI (lnx d f s n))), (5, .int (nI n))] []) (n := 256) ?_ ?_ 0 (by omega)
  · skip
    refine V_iload (pc := 8) dX12_leastNext_8 rfl ?_
    refine V_sipush (pc := 10) (v := nI 256) dX12_leastNext_10 (by decide) ?_
    refine V_icmp_geN (pc := 13) (tgt := 70) dX12_leastNext_13 (by decide) (by omega) (by omega) (fun c13 => ?_) (fun n13 => absurd n13 (by omega))
    refine V_iload (pc := 70) dX12_leastNext_70 rfl ?_
    refine V_iret (pc := 72) dX12_leastNext_72 rfl (by first | decide | omega) (by first | decide | omega) ?_
    exact ⟨rfl, rfl, rfl, rfl⟩
  · intro n hn ih
    have hx := xor256 hs hn
    have hp := pop8_le (s ^^^ n)
    have hfn := hf n hn
    have hfb := hfn.2
    have hl := lnx_le d f s n
    unfold FARN at hfb hl
    rw [lnx_s d f s n] at ih
    refine V_iload (pc := 8) dX12_leastNext_8 rfl ?_
    refine V_sipush (pc := 10) (v := nI 256) dX12_leastNext_10 (by decide) ?_
    refine V_icmp_geN (pc := 13) (tgt := 70) dX12_leastNext_13 (by decide) (by omega) (by omega) (fun c13 => absurd c13 (by omega)) (fun n13 => ?_)
    refine V_iload_n (pc := 16) dX12_leastNext_16 rfl ?_
    refine V_iload (pc := 17) dX12_leastNext_17 rfl ?_
    refine V_ixorN (pc := 19) dX12_leastNext_19 ?_
    refine V_callSd (pc := 20) (c_X12_ones (by first | assumption | omega)) dX12_leastNext_20 mlX12_208 mkX12_ones rfl rfl ⟨Nat.le_of_ble_eq_true rfl, Nat.le_of_ble_eq_true rfl⟩ (Nat.le_of_ble_eq_true rfl) ⟨Nat.le_of_ble_eq_true rfl, Nat.le_of_ble_eq_true rfl⟩ ?_
    refine V_iload_n (pc := 23) dX12_leastNext_23 rfl ?_
    refine V_icmp_gtN (pc := 24) (tgt := 64) dX12_leastNext_24 (by decide) (by omega) (by omega) (fun c24 => ?_) (fun n24 => ?_)
    · skip
      first | (rw [if_neg (by omega)] at ih) | skip
      refine V_iinc1 (pc := 64) (ls' := [(0, _), (1, _), (2, _), (3, _), (4, _), (5, _)]) dX12_leastNext_64 rfl (by decide) rfl ?_
      refine V_goto (pc := 67) (tgt := 8) dX12_leastNext_67 (by decide) ?_
      exact ih
    · skip
      refine V_aload_n (pc := 27) dX12_leastNext_27 rfl ?_
      refine V_getR (pc := 28) 12 47 dX12_leastNext_28 flX12_128 (by decide) h12.o h12.R47 ?_
      refine V_sipush (pc := 31) (v := nI 256) dX12_leastNext_31 (by decide) ?_
      refine V_iload_n (pc := 34) dX12_leastNext_34 rfl ?_
      refine V_iconst (pc := 35) (v := nI 1) dX12_leastNext_35 (by decide) ?_
      refine V_iaddN (pc := 36) dX12_leastNext_36 ?_
      refine V_imulN (pc := 37) dX12_leastNext_37 ?_
      refine V_iload (pc := 38) dX12_leastNext_38 rfl ?_
      refine V_iaddN (pc := 40) dX12_leastNext_40 ?_
      refine V_ialoadE (pc := 41) dX12_leastNext_41 h12.A47 (by first | decide | omega) (by omega) (hfn.1) ?_
      refine V_iload (pc := 42) dX12_leastNext_42 rfl ?_
      refine V_icmp_geN (pc := 44) (tgt := 64) dX12_leastNext_44 (by decide) (by omega) (by omega) (fun c44 => ?_) (fun n44 => ?_)
      · skip
        first | (rw [if_neg (by omega)] at ih) | skip
        refine V_iinc1 (pc := 64) (ls' := [(0, _), (1, _), (2, _), (3, _), (4, _), (5, _)]) dX12_leastNext_64 rfl (by decide) rfl ?_
        refine V_goto (pc := 67) (tgt := 8) dX12_leastNext_67 (by decide) ?_
        exact ih
      · skip
        rw [if_pos (by omega)] at ih
        refine V_aload_n (pc := 47) dX12_leastNext_47 rfl ?_
        refine V_getR (pc := 48) 12 47 dX12_leastNext_48 flX12_128 (by decide) h12.o h12.R47 ?_
        refine V_sipush (pc := 51) (v := nI 256) dX12_leastNext_51 (by decide) ?_
        refine V_iload_n (pc := 54) dX12_leastNext_54 rfl ?_
        refine V_iconst (pc := 55) (v := nI 1) dX12_leastNext_55 (by decide) ?_
        refine V_iaddN (pc := 56) dX12_leastNext_56 ?_
        refine V_imulN (pc := 57) dX12_leastNext_57 ?_
        refine V_iload (pc := 58) dX12_leastNext_58 rfl ?_
        refine V_iaddN (pc := 60) dX12_leastNext_60 ?_
        refine V_ialoadE (pc := 61) dX12_leastNext_61 h12.A47 (by first | decide | omega) (by omega) (hfn.1) ?_
        refine V_istore (pc := 62) (ls' := [(0, _), (1, _), (2, _), (3, _), (4, _), (5, _)]) dX12_leastNext_62 (by decide) rfl ?_
        first | (rw [if_neg (by omega)] at ih) | skip
        refine V_iinc1 (pc := 64) (ls' := [(0, _), (1, _), (2, _), (3, _), (4, _), (5, _)]) dX12_leastNext_64 rfl (by decide) rfl ?_
        refine V_goto (pc := 67) (tgt := 8) dX12_leastNext_67 (by decide) ?_
        exact ih
/-- the bars from j on, and of bar j - 1 the sets ahead of t -/
def MoM (I : IT) (o : Nat) (p : Nat → Nat) (d j t : Nat) : Prop := ∀ k u, k < 8 → u < 256 → (j ≤ k ∨ (k + 1 = j ∧ u < t)) → I (o + 27) (256 * k + u) = nI (mor p d (7 - k) u)
theorem lp_mo1 (h12 : Lay12 E S o) {Q : QT} {I1 : IT} {p : Nat → Nat} {b d k : Nat} (hp : p k < 256) (hk8 : k < 8) (hd : d < 9) (ha : ∀ a, a ≠ o + 27 → I a = I1 a) (hM : MoM I o p d (k + 1) 0) (hk : ∀ I', (∀ a, a ≠ o + 27 → I' a = I1 a) → MoM I' o p d k 0 → V E kX12_layMore (rmOf 2 0 0) Q 0 0 S I' L 109 [(0, .ref o), (1, .int (nI b)), (2, .int (nI d)), (3, .int (nI k)), (4, .int (nI (p k))), (5, .int (nI 256))] []) : V E kX12_layMore (rmOf 2 0 0) Q 0 0 S I L 26 [(0, .ref o), (1, .int (nI b)), (2, .int (nI d)), (3, .int (nI k)), (4, .int (nI (p k))), (5, .int (nI 0))] [] := by
  have key : ∀ t, t ≤ 256 → ∀ I', (∀ a, a ≠ o + 27 → I' a = I1 a) → MoM I' o p d (k + 1) t → V E kX12_layMore (rmOf 2 0 0) Q 0 0 S I' L 26 [(0, .ref o), (1, .int (nI b)), (2, .int (nI d)), (3, .int (nI k)), (4, .int (nI (p k))), (5, .int (nI t))] [] := by
    refine loopUp ?_ ?_
    · intro I' ha' hM'
      refine V_iload (pc := 26) dX12_layMore_26 rfl ?_
      refine V_sipush (pc := 28) (v := nI 256) dX12_layMore_28 (by decide) ?_
      refine V_icmp_geN (pc := 31) (tgt := 109) dX12_layMore_31 (by decide) (by omega) (by omega) (fun c31 => ?_) (fun n31 => absurd n31 (by omega))
      exact hk I' ha' (fun c u hc hu h => hM' c u hc hu (by omega))
    · intro t ht ih I' ha' hM'
      have nxt : ∀ I2, (∀ a, a ≠ o + 27 → I2 a = I' a) → (∀ i, I2 (o + 27) i = upf (I' (o + 27)) (256 * k + t) (nI (mor p d (7 - k) t)) i) → V E kX12_layMore (rmOf 2 0 0) Q 0 0 S I2 L 26 [(0, .ref o), (1, .int (nI b)), (2, .int (nI d)), (3, .int (nI k)), (4, .int (nI (p k))), (5, .int (nI (t + 1)))] [] := by
        intro I2 h1 h2
        refine ih I2 (fun a h => by rw [h1 a h]; exact ha' a h) (fun c u hc hu h => ?_)
        rw [h2]
        by_cases e : c = k ∧ u = t
        · rw [e.1, e.2, upf_s]
        · rw [upf_n (by omega)]; exact hM' c u hc hu (by omega)
      have hpt := pop8_le t
      have hpp := pop8_le (p k)
      have hand : t &&& p k < 256 := Nat.lt_of_le_of_lt Nat.and_le_left ht
      rcases Nat.lt_or_ge k 7 with h7 | h7
      · have e : mor p d (7 - k) t = if t &&& p k = p k then pop8 t - pop8 (p k) + lnx d (mor p d (6 - k)) t 256 else FARN := by
          rw [show 7 - k = (6 - k) + 1 by omega]
          show (if t &&& p (6 - (6 - k)) = p (6 - (6 - k)) then _ else _) = _
          rw [show 6 - (6 - k) = k by omega]
        rw [e] at nxt
        refine V_iload (pc := 26) dX12_layMore_26 rfl ?_
        refine V_sipush (pc := 28) (v := nI 256) dX12_layMore_28 (by decide) ?_
        refine V_icmp_geN (pc := 31) (tgt := 109) dX12_layMore_31 (by decide) (by omega) (by omega) (fun c31 => absurd c31 (by omega)) (fun n31 => ?_)
        refine V_aload_n (pc := 34) dX12_layMore_34 rfl ?_
        refine V_getR (pc := 35) 12 47 dX12_layMore_35 flX12_128 (by decide) h12.o h12.R47 ?_
        refine V_sipush (pc := 38) (v := nI 256) dX12_layMore_38 (by decide) ?_
        refine V_iload_n (pc := 41) dX12_layMore_41 rfl ?_
        refine V_imulN (pc := 42) dX12_layMore_42 ?_
        refine V_iload (pc := 43) dX12_layMore_43 rfl ?_
        refine V_iaddN (pc := 45) dX12_layMore_45 ?_
        refine V_ldcw (pc := 46) dX12_layMore_46 coX12_487 ?_
        refine V_iastore (pc := 49) dX12_layMore_49 h12.A47 (by first | decide | omega) (by omega) ?_
        refine V_iload (pc := 50) dX12_layMore_50 rfl ?_
        refine V_iload (pc := 52) dX12_layMore_52 rfl ?_
        refine V_iandN (pc := 54) dX12_layMore_54 ?_
        refine V_iload (pc := 55) dX12_layMore_55 rfl ?_
        refine V_icmp_neN (pc := 57) (tgt := 103) dX12_layMore_57 (by decide) (by omega) (by omega) (fun c57 => ?_) (fun n57 => ?_)
        · skip
          first | (rw [if_neg c57] at nxt) | skip
          refine V_iinc1 (pc := 103) (ls' := [(0, _), (1, _), (2, _), (3, _), (4, _), (5, _)]) dX12_layMore_103 rfl (by decide) rfl ?_
          refine V_goto (pc := 106) (tgt := 26) dX12_layMore_106 (by decide) ?_
          first
          | exact nxt _ (fun a h => by rw [up2_row h, up2_row h]) (fun i => by unfold upf; by_cases z : i = 256 * k + t; (rw [if_pos z, z, up2_self]); rw [if_neg z, up2_nej z, up2_nej z])
          | exact nxt _ (fun a h => by rw [up2_row h]) (fun i => by unfold upf; by_cases z : i = 256 * k + t; (rw [if_pos z, z, up2_self]; rfl); rw [if_neg z, up2_nej z])
        · skip
          rw [if_pos n57] at nxt
          have hle := pop_sub n57
          refine V_aload_n (pc := 60) dX12_layMore_60 rfl ?_
          refine V_getR (pc := 61) 12 47 dX12_layMore_61 flX12_128 (by decide) h12.o h12.R47 ?_
          refine V_sipush (pc := 64) (v := nI 256) dX12_layMore_64 (by decide) ?_
          refine V_iload_n (pc := 67) dX12_layMore_67 rfl ?_
          refine V_imulN (pc := 68) dX12_layMore_68 ?_
          refine V_iload (pc := 69) dX12_layMore_69 rfl ?_
          refine V_iaddN (pc := 71) dX12_layMore_71 ?_
          refine V_iload (pc := 72) dX12_layMore_72 rfl ?_
          refine V_callSd (pc := 74) (c_X12_ones (by first | assumption | omega)) dX12_layMore_74 mlX12_208 mkX12_ones rfl rfl ⟨Nat.le_of_ble_eq_true rfl, Nat.le_of_ble_eq_true rfl⟩ (Nat.le_of_ble_eq_true rfl) ⟨Nat.le_of_ble_eq_true rfl, Nat.le_of_ble_eq_true rfl⟩ ?_
          refine V_iload (pc := 77) dX12_layMore_77 rfl ?_
          refine V_callSd (pc := 79) (c_X12_ones (by first | assumption | omega)) dX12_layMore_79 mlX12_208 mkX12_ones rfl rfl ⟨Nat.le_of_ble_eq_true rfl, Nat.le_of_ble_eq_true rfl⟩ (Nat.le_of_ble_eq_true rfl) ⟨Nat.le_of_ble_eq_true rfl, Nat.le_of_ble_eq_true rfl⟩ ?_
          refine V_isubN (pc := 82) dX12_layMore_82 (by omega) ?_
          refine V_iload_n (pc := 83) dX12_layMore_83 rfl ?_
          refine V_bipush (pc := 84) (v := nI 7) dX12_layMore_84 (by decide) ?_
          refine V_icmp_neN (pc := 86) (tgt := 93) dX12_layMore_86 (by decide) (by omega) (by omega) (fun c86 => ?_) (fun n86 => absurd n86 (by omega))
          refine V_aload_n (pc := 93) dX12_layMore_93 rfl ?_
          refine V_iload_n (pc := 94) dX12_layMore_94 rfl ?_
          refine V_iload (pc := 95) dX12_layMore_95 rfl ?_
          refine V_iload_n (pc := 97) dX12_layMore_97 rfl ?_
          refine V_callVd (pc := 98) (ci := 12) (c_X12_leastNext (f := mor p d (6 - k)) h12 h7 ht hd (fun u hu => ⟨by rw [up2_nej (by omega), show 6 - k = 7 - (k + 1) by omega]; exact hM' (k + 1) u (by omega) hu (by omega), mor_le _ _ _ _⟩)) dX12_layMore_98 mlX12_508 mkX12_leastNext rfl rfl h12.o ⟨by decide, rfl⟩ ⟨Nat.le_of_ble_eq_true rfl, Nat.le_of_ble_eq_true rfl⟩ (Nat.le_of_ble_eq_true rfl) ⟨Nat.le_of_ble_eq_true rfl, Nat.le_of_ble_eq_true rfl⟩ ?_
          refine V_iaddN (pc := 101) dX12_layMore_101 ?_
          refine V_iastore (pc := 102) dX12_layMore_102 h12.A47 (by first | decide | omega) (by omega) ?_
          first | (rw [if_neg c57] at nxt) | skip
          refine V_iinc1 (pc := 103) (ls' := [(0, _), (1, _), (2, _), (3, _), (4, _), (5, _)]) dX12_layMore_103 rfl (by decide) rfl ?_
          refine V_goto (pc := 106) (tgt := 26) dX12_layMore_106 (by decide) ?_
          first
          | exact nxt _ (fun a h => by rw [up2_row h, up2_row h]) (fun i => by unfold upf; by_cases z : i = 256 * k + t; (rw [if_pos z, z, up2_self]); rw [if_neg z, up2_nej z, up2_nej z])
          | exact nxt _ (fun a h => by rw [up2_row h]) (fun i => by unfold upf; by_cases z : i = 256 * k + t; (rw [if_pos z, z, up2_self]; rfl); rw [if_neg z, up2_nej z])
      · have e : mor p d (7 - k) t = if t &&& p k = p k then pop8 t - pop8 (p k) else FARN := by
          have e7 : k = 7 := by omega
          subst e7; rfl
        rw [e] at nxt
        refine V_iload (pc := 26) dX12_layMore_26 rfl ?_
        refine V_sipush (pc := 28) (v := nI 256) dX12_layMore_28 (by decide) ?_
        refine V_icmp_geN (pc := 31) (tgt := 109) dX12_layMore_31 (by decide) (by omega) (by omega) (fun c31 => absurd c31 (by omega)) (fun n31 => ?_)
        refine V_aload_n (pc := 34) dX12_layMore_34 rfl ?_
        refine V_getR (pc := 35) 12 47 dX12_layMore_35 flX12_128 (by decide) h12.o h12.R47 ?_
        refine V_sipush (pc := 38) (v := nI 256) dX12_layMore_38 (by decide) ?_
        refine V_iload_n (pc := 41) dX12_layMore_41 rfl ?_
        refine V_imulN (pc := 42) dX12_layMore_42 ?_
        refine V_iload (pc := 43) dX12_layMore_43 rfl ?_
        refine V_iaddN (pc := 45) dX12_layMore_45 ?_
        refine V_ldcw (pc := 46) dX12_layMore_46 coX12_487 ?_
        refine V_iastore (pc := 49) dX12_layMore_49 h12.A47 (by first | decide | omega) (by omega) ?_
        refine V_iload (pc := 50) dX12_layMore_50 rfl ?_
        refine V_iload (pc := 52) dX12_layMore_52 rfl ?_
        refine V_iandN (pc := 54) dX12_layMore_54 ?_
        refine V_iload (pc := 55) dX12_layMore_55 rfl ?_
        refine V_icmp_neN (pc := 57) (tgt := 103) dX12_layMore_57 (by decide) (by omega) (by omega) (fun c57 => ?_) (fun n57 => ?_)
        · skip
          first | (rw [if_neg c57] at nxt) | skip
          refine V_iinc1 (pc := 103) (ls' := [(0, _), (1, _), (2, _), (3, _), (4, _), (5, _)]) dX12_layMore_103 rfl (by decide) rfl ?_
          refine V_goto (pc := 106) (tgt := 26) dX12_layMore_106 (by decide) ?_
          first
          | exact nxt _ (fun a h => by rw [up2_row h, up2_row h]) (fun i => by unfold upf; by_cases z : i = 256 * k + t; (rw [if_pos z, z, up2_self]; rfl); rw [if_neg z, up2_nej z, up2_nej z])
          | exact nxt _ (fun a h => by rw [up2_row h]) (fun i => by unfold upf; by_cases z : i = 256 * k + t; (rw [if_pos z, z, up2_self]; rfl); rw [if_neg z, up2_nej z])
        · skip
          rw [if_pos n57] at nxt
          have hle := pop_sub n57
          refine V_aload_n (pc := 60) dX12_layMore_60 rfl ?_
          refine V_getR (pc := 61) 12 47 dX12_layMore_61 flX12_128 (by decide) h12.o h12.R47 ?_
          refine V_sipush (pc := 64) (v := nI 256) dX12_layMore_64 (by decide) ?_
          refine V_iload_n (pc := 67) dX12_layMore_67 rfl ?_
          refine V_imulN (pc := 68) dX12_layMore_68 ?_
          refine V_iload (pc := 69) dX12_layMore_69 rfl ?_
          refine V_iaddN (pc := 71) dX12_layMore_71 ?_
          refine V_iload (pc := 72) dX12_layMore_72 rfl ?_
          refine V_callSd (pc := 74) (c_X12_ones (by first | assumption | omega)) dX12_layMore_74 mlX12_208 mkX12_ones rfl rfl ⟨Nat.le_of_ble_eq_true rfl, Nat.le_of_ble_eq_true rfl⟩ (Nat.le_of_ble_eq_true rfl) ⟨Nat.le_of_ble_eq_true rfl, Nat.le_of_ble_eq_true rfl⟩ ?_
          refine V_iload (pc := 77) dX12_layMore_77 rfl ?_
          refine V_callSd (pc := 79) (c_X12_ones (by first | assumption | omega)) dX12_layMore_79 mlX12_208 mkX12_ones rfl rfl ⟨Nat.le_of_ble_eq_true rfl, Nat.le_of_ble_eq_true rfl⟩ (Nat.le_of_ble_eq_true rfl) ⟨Nat.le_of_ble_eq_true rfl, Nat.le_of_ble_eq_true rfl⟩ ?_
          refine V_isubN (pc := 82) dX12_layMore_82 (by omega) ?_
          refine V_iload_n (pc := 83) dX12_layMore_83 rfl ?_
          refine V_bipush (pc := 84) (v := nI 7) dX12_layMore_84 (by decide) ?_
          refine V_icmp_neN (pc := 86) (tgt := 93) dX12_layMore_86 (by decide) (by omega) (by omega) (fun c86 => absurd c86 (by omega)) (fun n86 => ?_)
          refine V_iconst (pc := 89) (v := nI 0) dX12_layMore_89 (by decide) ?_
          refine V_goto (pc := 90) (tgt := 101) dX12_layMore_90 (by decide) ?_
          refine V_iaddN (pc := 101) dX12_layMore_101 ?_
          refine V_iastore (pc := 102) dX12_layMore_102 h12.A47 (by first | decide | omega) (by omega) ?_
          first | (rw [if_neg c57] at nxt) | skip
          refine V_iinc1 (pc := 103) (ls' := [(0, _), (1, _), (2, _), (3, _), (4, _), (5, _)]) dX12_layMore_103 rfl (by decide) rfl ?_
          refine V_goto (pc := 106) (tgt := 26) dX12_layMore_106 (by decide) ?_
          first
          | exact nxt _ (fun a h => by rw [up2_row h, up2_row h]) (fun i => by unfold upf; by_cases z : i = 256 * k + t; (rw [if_pos z, z, up2_self]; rfl); rw [if_neg z, up2_nej z, up2_nej z])
          | exact nxt _ (fun a h => by rw [up2_row h]) (fun i => by unfold upf; by_cases z : i = 256 * k + t; (rw [if_pos z, z, up2_self]; rfl); rw [if_neg z, up2_nej z])
  exact key 0 (by omega) I ha hM
theorem lp_mo2 (h12 : Lay12 E S o) {Q : QT} {I1 : IT} {q : Nat → Nat} {b d : Nat} (hr : RowM I1 (o + 2) q) (hq : wq q) (hb : b < 6) (hd : d < 9) (hk : ∀ I', (∀ a, a ≠ o + 27 → I' a = I1 a) → MoM I' o (pn q b) d 0 0 → V E kX12_layMore (rmOf 2 0 0) Q 0 0 S I' L 115 [(0, .ref o), (1, .int (nI b)), (2, .int (nI d)), (3, .int (-1))] []) : ∀ j, j ≤ 8 → ∀ I', (∀ a, a ≠ o + 27 → I' a = I1 a) → MoM I' o (pn q b) d j 0 → V E kX12_layMore (rmOf 2 0 0) Q 0 0 S I' L 3 [(0, .ref o), (1, .int (nI b)), (2, .int (nI d)), (3, .int (pred1 j))] [] := by
  intro j
  induction j with
  | zero =>
    intro hj I' ha hA
    rw [pred1_0]
    refine V_iload_n (pc := 3) dX12_layMore_3 rfl ?_
    refine V_if_lt (pc := 4) (tgt := 115) dX12_layMore_4 (by decide) (fun c4 => ?_) (fun n4 => absurd n4 (by decide))
    exact hk I' ha hA
  | succ j ih =>
    intro hj I' ha hA
    rw [pred1_s]
    have ei : nI j + Int32.ofInt (-1) = pred1 j := by unfold pred1; rw [Int32.sub_eq_add_neg]; rfl
    have hr' := hr.cg (ha (o + 2) (by omega))
    have hp := hq.pi b j hb (by omega)
    refine V_iload_n (pc := 3) dX12_layMore_3 rfl ?_
    refine V_if_ltN (pc := 4) (tgt := 115) dX12_layMore_4 (by decide) (by omega) ?_
    refine V_aload_n (pc := 7) dX12_layMore_7 rfl ?_
    refine V_getR (pc := 8) 12 3 dX12_layMore_8 flX12_13 (by decide) h12.o h12.R3 ?_
    refine V_bipush (pc := 11) (v := nI 8) dX12_layMore_11 (by decide) ?_
    refine V_bipush (pc := 13) (v := nI 8) dX12_layMore_13 (by decide) ?_
    refine V_iload_n (pc := 15) dX12_layMore_15 rfl ?_
    refine V_imulN (pc := 16) dX12_layMore_16 ?_
    refine V_iaddN (pc := 17) dX12_layMore_17 ?_
    refine V_iload_n (pc := 18) dX12_layMore_18 rfl ?_
    refine V_iaddN (pc := 19) dX12_layMore_19 ?_
    refine V_ialoadE (pc := 20) dX12_layMore_20 h12.A3 (by first | decide | omega) (by omega) (show (_ : Int32) = nI (pn q b j) from hr'.n (by omega)) ?_
    refine V_istore (pc := 21) (ls' := [(0, _), (1, _), (2, _), (3, _), (4, _)]) dX12_layMore_21 (by decide) rfl ?_
    refine V_iconst (pc := 23) (v := nI 0) dX12_layMore_23 (by decide) ?_
    refine V_istore (pc := 24) (ls' := [(0, _), (1, _), (2, _), (3, _), (4, _), (5, _)]) dX12_layMore_24 (by decide) rfl ?_
    refine lp_mo1 h12 hp (by omega) hd ha hA (fun I2 a2 A2 => ?_)
    refine V_loc [0, 1, 2, 3] rfl ?_
    refine V_iinc (pc := 109) (ls' := [(0, _), (1, _), (2, _), (3, _)]) dX12_layMore_109 rfl ei (by decide) rfl ?_
    refine V_goto (pc := 112) (tgt := 3) dX12_layMore_112 (by decide) ?_
    exact ih (by omega) I2 a2 A2
theorem c_X12_layMore (h12 : Lay12 E S o) {q : Nat → Nat} {b d : Nat} (hr : RowM I (o + 2) q) (hq : wq q) (hb : b < 6) (hd : d < 9) : C E kX12_layMore 2 0 0 [.ref o, .int (nI b), .int (nI d)] S I L (fun r S' I' L' => r = none ∧ S = S' ∧ L = L' ∧ (∀ a, a ≠ o + 27 → I' a = I a) ∧ MoM I' o (pn q b) d 0 0) := by
  refine C_of (by decide) (Nat.le_of_ble_eq_true rfl) ?_
  refine V_bipush (pc := 0) (v := nI 7) dX12_layMore_0 (by decide) ?_
  refine V_istore_n (pc := 2) (ls' := [(0, _), (1, _), (2, _), (3, _)]) dX12_layMore_2 (by decide) rfl ?_
  rw [← pred1_s 7]
  refine lp_mo2 h12 hr hq hb hd (fun I2 a2 A2 => ?_) 8 (Nat.le_refl _) I (fun _ _ => rfl) (fun k u hk hu h => absurd h (by omega))
  exact V_vret (pc := 115) dX12_layMore_115 rfl (by decide) (by decide) ⟨rfl, rfl, rfl, a2, A2⟩
end MK
