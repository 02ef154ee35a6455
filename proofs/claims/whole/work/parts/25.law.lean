/-! LAWS as what their clauses are worth: how many, their kinds (0 lasts, 1 likes, 2 loses, 3 bars), their sums, their tests -/
abbrev WT : Type := Nat → Int
abbrev LawT : Type := Nat × (Nat → Nat) × (Nat → WT → Option Int) × (Nat → WT → Option Int)
def holds (law : LawT) (c : Nat) (w : WT) : Bool := decide (law.2.2.2 c w = some 1) && (law.2.2.1 c w).isSome
def tld (law : LawT) (kd : Nat) (w : WT) : Nat → Option Int | 0 => none | n + 1 => if law.2.1 n = kd ∧ holds law n w = true then law.2.2.1 n w else tld law kd w n
def wok (w : WT) : Prop := ∀ j, sml (w j)
/-- the words by their numbers; sp: the suitor and one, 0 without -/
def wdq (q : Nat → Nat) (b sp : Nat) : WT := fun j => if j = 0 then (b : Int) else if j = 1 then (q (62 + b) : Int) else if j = 2 then (nts q b : Int) else if j = 3 then (pop8 (q (56 + b)) : Int) else if j = 4 then (sp : Int) - 1 else if j = 5 then (if sp = 0 then -1 else (erq q b (sp - 1) : Int)) else if j = 6 then (if sp = 0 then -1 else (q (86 + (sp - 1)) : Int)) else if j = 7 then (q 5 : Int) else (q 7 : Int)
def clampN (v : Int) (hi : Nat) : Nat := if v < 0 then 0 else if (hi : Int) < v then hi else v.toNat
theorem clampN_le (v : Int) (hi : Nat) : clampN v hi ≤ hi := by unfold clampN; split; omega; split <;> omega
def lst (law : LawT) (q : Nat → Nat) (b : Nat) : Nat := clampN ((tld law 0 (wdq q b 0) law.1).getD (q (62 + b) + nts q b / 4 : Nat)) 60
def lss (law : LawT) (q : Nat → Nat) (b : Nat) : Nat := clampN ((tld law 2 (wdq q b 0) law.1).getD 0) 9
def lik (law : LawT) (q : Nat → Nat) (b s : Nat) : Nat := clampN ((tld law 1 (wdq q b (s + 1)) law.1).getD (erq q b s : Nat)) 99
def brd (law : LawT) (q : Nat → Nat) (b s : Nat) : Bool := (tld law 3 (wdq q b (s + 1)) law.1).isSome
/-- the reference's text of a law, from lb on in its row -/
def lfM (w : WT) : Nat → Nat → Int := fun p a => if p = 0 then (a : Int) else w (p - 1)
def LawM (f : Nat → Int32) (lb : Nat) (law : LawT) : Prop := law.1 ≤ 12 ∧ f (lb + 1) = nI law.1 ∧ ∃ (nc : Nat) (op arg : Nat → Nat), nc ≤ 400 ∧ (∀ k, k < nc → f (lb + 98 + 2 * k) = nI (op k) ∧ op k < 31 ∧ (op k < 20 → op k < 10) ∧ f (lb + 98 + 2 * k + 1) = nI (arg k) ∧ arg k ≤ 1000) ∧ ∀ c, c < law.1 → law.2.1 c < 4 ∧ f (lb + 2 + 8 * c) = nI (law.2.1 c) ∧ ∃ s1 e1 s2 e2 : Nat, s1 ≤ 400 ∧ e1 ≤ nc ∧ s2 ≤ 400 ∧ e2 ≤ nc ∧ f (lb + 2 + 8 * c + 3) = nI s1 ∧ f (lb + 2 + 8 * c + 4) = nI e1 ∧ f (lb + 2 + 8 * c + 5) = nI s2 ∧ f (lb + 2 + 8 * c + 6) = nI e2 ∧ ∀ w, wok w → (law.2.2.2 c w = none ∨ law.2.2.2 c w = some 0 ∨ law.2.2.2 c w = some 1) ∧ (s2 < e2 → ∃ fuel, evM op arg (lfM w) e2 fuel s2 [] = some (law.2.2.2 c w)) ∧ (¬ s2 < e2 → law.2.2.2 c w = some 1) ∧ (law.2.1 c ≠ 3 → ∃ fuel, evM op arg (lfM w) e1 fuel s1 [] = some (law.2.2.1 c w)) ∧ (law.2.1 c = 3 → law.2.2.1 c w = some 1)
theorem wdq_ok {q : Nat → Nat} (hq : wq q) {b sp : Nat} (hb : b < 6) (hs : sp ≤ 6) : wok (wdq q b sp) := by
  have h1 := hq.sp b hb
  have h2 := nts_le q b
  have h3 := pop8_le (q (56 + b))
  have h4 := erq_le q b (sp - 1)
  have h5 := hq.ye
  have h6 := hq.mo
  intro j
  unfold wdq sml
  split; omega
  split; omega
  split; omega
  split; omega
  split; omega
  split; (split <;> omega)
  split
  · split
    · omega
    · have := hq.wa (sp - 1) (by omega); omega
  split <;> omega
/-- all but the evaluator's own cells -/
def TsL (o : Nat) (L' L : LT) : Prop := (∀ a, a ≠ o → a ≠ o + 18 → a ≠ o + 20 → L' a = L a) ∧ ∀ i, i ≠ 39 → i ≠ 40 → L' o i = L o i
def TsI (o : Nat) (I' I : IT) : Prop := (∀ a, a ≠ o → I' a = I a) ∧ ∀ i, i ≠ 34 → i ≠ 38 → I' o i = I o i
theorem TsL.rf {o : Nat} {L : LT} : TsL o L L := ⟨fun _ _ _ _ => rfl, fun _ _ _ => rfl⟩
theorem TsI.rf {o : Nat} {I : IT} : TsI o I I := ⟨fun _ _ => rfl, fun _ _ _ => rfl⟩
theorem TsL.tr {o : Nat} {A B D : LT} (h : TsL o A B) (g : TsL o B D) : TsL o A D := ⟨fun a h1 h2 h3 => (h.1 a h1 h2 h3).trans (g.1 a h1 h2 h3), fun i h1 h2 => (h.2 i h1 h2).trans (g.2 i h1 h2)⟩
theorem TsI.tr {o : Nat} {A B D : IT} (h : TsI o A B) (g : TsI o B D) : TsI o A D := ⟨fun a h1 => (h.1 a h1).trans (g.1 a h1), fun i h1 h2 => (h.2 i h1 h2).trans (g.2 i h1 h2)⟩
theorem RowM.cg {I I' : IT} {a : Nat} {q : Nat → Nat} (h : RowM I a q) (e : I' a = I a) : RowM I' a q := fun i h1 h2 => by rw [e]; exact h i h1 h2
section ME
variable {E : EnT} {S : ST} {I : IT} {L : LT} {o : Nat} {q : Nat → Nat}
def RkL2 (o : Nat) (L' L : LT) : Prop := (∀ a, a ≠ o + 20 → a ≠ o → L' a = L a) ∧ ∀ i, i ≠ 39 → i ≠ 40 → L' o i = L o i
theorem RkL.two {o : Nat} {L' L : LT} (h : RkL o L' L) : RkL2 o L' L := ⟨h.1, fun i h1 _ => h.2 i h1⟩
theorem RkL2.tr {o : Nat} {A B D : LT} (h : RkL2 o A B) (g : RkL2 o B D) : RkL2 o A D := ⟨fun a h1 h2 => (h.1 a h1 h2).trans (g.1 a h1 h2), fun i h1 h2 => (h.2 i h1 h2).trans (g.2 i h1 h2)⟩
theorem RkL2.up {o : Nat} {A B : LT} {v : Int64} (h : RkL2 o A B) : RkL2 o (up2 A o 40 v) B := ⟨fun a h1 h2 => by rw [up2_row h2]; exact h.1 a h1 h2, fun i h1 h2 => by rw [up2_nej h2]; exact h.2 i h1 h2⟩
/-- whether a clause holds -/
theorem c_X12_isSo (h12 : Lay12 E S o) (hr : RowM I (o + 2) q) {lb c : Nat} {law : LawT} {w : WT} (hord : I o 20 = nI 0) (hlaw : I o 34 = nI lb) (hlb : lb + 900 ≤ 5516) (hL : LawM (I (o + 2)) lb law) (hc : c < law.1) (hwo : wok w) (hw : ∀ j, 0 < j → j < 10 → L (o + 18) j = i64 (w (j - 1))) :
    C E kX12_isSo 4 0 0 [.ref o, .int (nI (lb + 2 + 8 * c))] S I L (fun r S' I' L' => r = some (.int (b2i (holds law c w))) ∧ S = S' ∧ (∃ v, I' = up2 I o 38 v) ∧ RkL2 o L' L ∧ (holds law c w = true → law.2.1 c ≠ 3 → ∃ v, law.2.2.1 c w = some v ∧ L' o 40 = i64 v)) := by
  obtain ⟨hn12, hn, nc, op, arg, hnc, hop, hcl⟩ := hL
  obtain ⟨hk4, hkc, s1, e1, s2, e2, b1, b2, b3, b4, f3, f4, f5, f6, hsem⟩ := hcl c hc
  obtain ⟨ht, htest, hno, hsum, hbar⟩ := hsem w hwo
  have hbnd : lb + 2 + 8 * c + 8 ≤ 5516 := by omega
  have hw' : ∀ j, 0 < j → j < 10 → L (o + 18) j = i64 ((fun p => w (p - 1)) j) ∧ sml ((fun p => w (p - 1)) j) := fun j h1 h2 => ⟨hw j h1 h2, hwo _⟩
  have s0 : sml 0 := ⟨by decide, by decide⟩
  -- the second half, behind the test
  have snd : ∀ (I1 : IT) (L1 : LT) (v1 : Int32), I1 = up2 I o 38 v1 → RkL2 o L1 L → law.2.2.2 c w = some 1 → V E kX12_isSo (rmOf 4 0 0) (QM E (fun r S' I' L' => r = some (.int (b2i (holds law c w))) ∧ S = S' ∧ (∃ v, I' = up2 I o 38 v) ∧ RkL2 o L' L ∧ (holds law c w = true → law.2.1 c ≠ 3 → ∃ v, law.2.2.1 c w = some v ∧ L' o 40 = i64 v)) 0 0) 0 0 S I1 L1 59 [(0, .ref o), (1, .int (nI (lb + 2 + 8 * c)))] [] := by
    intro I1 L1 v1 e1I hL1 ht1
    have gr : I1 (o + 2) = I (o + 2) := by rw [e1I]; exact up2_row (by omega)
    have go : I1 o 20 = nI 0 := by rw [e1I, up2_nej (by omega)]; exact hord
    have gl : I1 o 34 = nI lb := by rw [e1I, up2_nej (by omega)]; exact hlaw
    by_cases h3 : law.2.1 c = 3
    · have hh : holds law c w = true := by simp [holds, ht1, hbar h3]
      refine V_aload_n (pc := 59) dX12_isSo_59 rfl ?_
      refine V_getR (pc := 60) 12 3 dX12_isSo_60 flX12_13 (by decide) h12.o h12.R3 ?_
      refine V_iload_n (pc := 63) dX12_isSo_63 rfl ?_
      refine V_ialoadE (pc := 64) dX12_isSo_64 h12.A3 (by first | decide | omega) (by omega) ((congrFun gr _).trans hkc) ?_
      refine V_iconst (pc := 65) (v := nI 3) dX12_isSo_65 (by decide) ?_
      refine V_icmp_eqN (pc := 66) (tgt := 110) dX12_isSo_66 (by decide) (by omega) (by omega) (fun c66 => ?_) (fun n66 => absurd n66 (by omega))
      refine V_iconst (pc := 110) (v := nI 1) dX12_isSo_110 (by decide) ?_
      refine V_zretB (pc := 111) (p := true) dX12_isSo_111 rfl rfl (by first | decide | omega) (by first | decide | omega) ?_
      exact ⟨by rw [hh], rfl, ⟨v1, e1I⟩, hL1, fun _ h => absurd h3 h⟩
    · obtain ⟨fuel, hev⟩ := hsum h3
      refine V_aload_n (pc := 59) dX12_isSo_59 rfl ?_
      refine V_getR (pc := 60) 12 3 dX12_isSo_60 flX12_13 (by decide) h12.o h12.R3 ?_
      refine V_iload_n (pc := 63) dX12_isSo_63 rfl ?_
      refine V_ialoadE (pc := 64) dX12_isSo_64 h12.A3 (by first | decide | omega) (by omega) ((congrFun gr _).trans hkc) ?_
      refine V_iconst (pc := 65) (v := nI 3) dX12_isSo_65 (by decide) ?_
      refine V_icmp_eqN (pc := 66) (tgt := 110) dX12_isSo_66 (by decide) (by omega) (by omega) (fun c66 => absurd c66 (by omega)) (fun n66 => ?_)
      refine V_aload_n (pc := 69) dX12_isSo_69 rfl ?_
      refine V_aload_n (pc := 70) dX12_isSo_70 rfl ?_
      refine V_getR (pc := 71) 12 3 dX12_isSo_71 flX12_13 (by decide) h12.o h12.R3 ?_
      refine V_iload_n (pc := 74) dX12_isSo_74 rfl ?_
      refine V_iconst (pc := 75) (v := nI 3) dX12_isSo_75 (by decide) ?_
      refine V_iaddN (pc := 76) dX12_isSo_76 ?_
      refine V_ialoadE (pc := 77) dX12_isSo_77 h12.A3 (by first | decide | omega) (by omega) ((congrFun gr _).trans f3) ?_
      refine V_aload_n (pc := 78) dX12_isSo_78 rfl ?_
      refine V_getR (pc := 79) 12 3 dX12_isSo_79 flX12_13 (by decide) h12.o h12.R3 ?_
      refine V_iload_n (pc := 82) dX12_isSo_82 rfl ?_
      refine V_iconst (pc := 83) (v := nI 4) dX12_isSo_83 (by decide) ?_
      refine V_iaddN (pc := 84) dX12_isSo_84 ?_
      refine V_ialoadE (pc := 85) dX12_isSo_85 h12.A3 (by first | decide | omega) (by omega) ((congrFun gr _).trans f4) ?_
      refine V_callV (pc := 86) (ci := 12) (c_X12_reckonAll (w := fun p => w (p - 1)) h12 (hr.cg gr) go gl hlb (by omega) (by omega) (fun k hk => by rw [gr]; exact hop k (by omega)) (fun j h1 h2 => by rw [hL1.1 (o + 18) (by omega) (by omega)]; exact hw' j h1 h2) hev) dX12_isSo_86 mlX12_441 mkX12_reckonAll rfl rfl h12.o ⟨by decide, rfl⟩ ⟨Nat.le_of_ble_eq_true rfl, Nat.le_of_ble_eq_true rfl⟩ (Nat.le_of_ble_eq_true rfl) ⟨Nat.le_of_ble_eq_true rfl, Nat.le_of_ble_eq_true rfl⟩ (fun r S' I' L' hp => ?_)
      obtain ⟨rfl, rfl, rfl, hR, hval⟩ := hp
      refine V_aload_n (pc := 89) dX12_isSo_89 rfl ?_
      refine V_aload_n (pc := 90) dX12_isSo_90 rfl ?_
      refine V_getL (pc := 91) 12 39 dX12_isSo_91 flX12_438 (by decide) h12.o ?_
      refine V_putL (pc := 94) 12 40 dX12_isSo_94 flX12_444 (by decide) (by decide) (Or.inl rfl) rfl rfl h12.o ?_
      refine V_aload_n (pc := 97) dX12_isSo_97 rfl ?_
      refine V_getIE (pc := 98) 12 38 dX12_isSo_98 flX12_424 (by decide) h12.o (up2_self) ?_
      refine V_if_neB (pc := 101) (tgt := 108) dX12_isSo_101 (by decide) (fun c101 => ?_) (fun n101 => ?_)
      · skip
        refine V_iconst (pc := 108) (v := nI 0) dX12_isSo_108 (by decide) ?_
        refine V_zretB (pc := 109) (p := false) dX12_isSo_109 rfl rfl (by first | decide | omega) (by first | decide | omega) ?_
        have hh : holds law c w = (law.2.2.1 c w).isSome := by simp [holds, ht1]
        refine ⟨?_, rfl, ⟨b2i (law.2.2.1 c w).isNone, by rw [e1I, up2_up2]⟩, (hR.two.tr hL1).up, fun h1 _ => ?_⟩
        · rw [hh]; cases h9 : law.2.2.1 c w <;> simp_all
        · rw [hh] at h1
          obtain ⟨v, hv⟩ := Option.isSome_iff_exists.mp h1
          exact ⟨v, hv, by rw [up2_self]; exact hval v hv⟩
      · skip
        refine V_iconst (pc := 104) (v := nI 1) dX12_isSo_104 (by decide) ?_
        refine V_goto (pc := 105) (tgt := 109) dX12_isSo_105 (by decide) ?_
        refine V_zretB (pc := 109) (p := true) dX12_isSo_109 rfl rfl (by first | decide | omega) (by first | decide | omega) ?_
        have hh : holds law c w = (law.2.2.1 c w).isSome := by simp [holds, ht1]
        refine ⟨?_, rfl, ⟨b2i (law.2.2.1 c w).isNone, by rw [e1I, up2_up2]⟩, (hR.two.tr hL1).up, fun h1 _ => ?_⟩
        · rw [hh]; cases h9 : law.2.2.1 c w <;> simp_all
        · rw [hh] at h1
          obtain ⟨v, hv⟩ := Option.isSome_iff_exists.mp h1
          exact ⟨v, hv, by rw [up2_self]; exact hval v hv⟩
  refine C_of (by decide) (Nat.le_of_ble_eq_true rfl) ?_
  have e38 : I = up2 I o 38 (I o 38) := by
    funext x j
    unfold up2
    split
    · rename_i hx; subst hx; split
      · rename_i hj; rw [hj]
      · rfl
    · rfl
  by_cases h2 : s2 < e2
  · obtain ⟨fuel, hev⟩ := htest h2
    refine V_aload_n (pc := 0) dX12_isSo_0 rfl ?_
    refine V_getR (pc := 1) 12 3 dX12_isSo_1 flX12_13 (by decide) h12.o h12.R3 ?_
    refine V_iload_n (pc := 4) dX12_isSo_4 rfl ?_
    refine V_iconst (pc := 5) (v := nI 5) dX12_isSo_5 (by decide) ?_
    refine V_iaddN (pc := 6) dX12_isSo_6 ?_
    refine V_ialoadE (pc := 7) dX12_isSo_7 h12.A3 (by first | decide | omega) (by omega) (f5) ?_
    refine V_aload_n (pc := 8) dX12_isSo_8 rfl ?_
    refine V_getR (pc := 9) 12 3 dX12_isSo_9 flX12_13 (by decide) h12.o h12.R3 ?_
    refine V_iload_n (pc := 12) dX12_isSo_12 rfl ?_
    refine V_bipush (pc := 13) (v := nI 6) dX12_isSo_13 (by decide) ?_
    refine V_iaddN (pc := 15) dX12_isSo_15 ?_
    refine V_ialoadE (pc := 16) dX12_isSo_16 h12.A3 (by first | decide | omega) (by omega) (f6) ?_
    refine V_icmp_geN (pc := 17) (tgt := 59) dX12_isSo_17 (by decide) (by omega) (by omega) (fun c17 => absurd c17 (by omega)) (fun n17 => ?_)
    refine V_aload_n (pc := 20) dX12_isSo_20 rfl ?_
    refine V_aload_n (pc := 21) dX12_isSo_21 rfl ?_
    refine V_getR (pc := 22) 12 3 dX12_isSo_22 flX12_13 (by decide) h12.o h12.R3 ?_
    refine V_iload_n (pc := 25) dX12_isSo_25 rfl ?_
    refine V_iconst (pc := 26) (v := nI 5) dX12_isSo_26 (by decide) ?_
    refine V_iaddN (pc := 27) dX12_isSo_27 ?_
    refine V_ialoadE (pc := 28) dX12_isSo_28 h12.A3 (by first | decide | omega) (by omega) (f5) ?_
    refine V_aload_n (pc := 29) dX12_isSo_29 rfl ?_
    refine V_getR (pc := 30) 12 3 dX12_isSo_30 flX12_13 (by decide) h12.o h12.R3 ?_
    refine V_iload_n (pc := 33) dX12_isSo_33 rfl ?_
    refine V_bipush (pc := 34) (v := nI 6) dX12_isSo_34 (by decide) ?_
    refine V_iaddN (pc := 36) dX12_isSo_36 ?_
    refine V_ialoadE (pc := 37) dX12_isSo_37 h12.A3 (by first | decide | omega) (by omega) (f6) ?_
    refine V_callV (pc := 38) (ci := 12) (c_X12_reckonAll (w := fun p => w (p - 1)) h12 hr hord hlaw hlb (by omega) (by omega) (fun k hk => hop k (by omega)) hw' hev) dX12_isSo_38 mlX12_441 mkX12_reckonAll rfl rfl h12.o ⟨by decide, rfl⟩ ⟨Nat.le_of_ble_eq_true rfl, Nat.le_of_ble_eq_true rfl⟩ (Nat.le_of_ble_eq_true rfl) ⟨Nat.le_of_ble_eq_true rfl, Nat.le_of_ble_eq_true rfl⟩ (fun r S' I' L' hp => ?_)
    obtain ⟨rfl, rfl, rfl, hR, hval⟩ := hp
    refine V_aload_n (pc := 41) dX12_isSo_41 rfl ?_
    refine V_getIE (pc := 42) 12 38 dX12_isSo_42 flX12_424 (by decide) h12.o (up2_self) ?_
    refine V_if_neB (pc := 45) (tgt := 57) dX12_isSo_45 (by decide) (fun c45 => ?_) (fun n45 => ?_)
    · skip
      refine V_iconst (pc := 57) (v := nI 0) dX12_isSo_57 (by decide) ?_
      refine V_zretB (pc := 58) (p := false) dX12_isSo_58 rfl rfl (by first | decide | omega) (by first | decide | omega) ?_
      have hh : holds law c w = false := by
        rcases ht with h9 | h9 | h9
        · simp [holds, h9]
        · simp [holds, h9]
        · first | (rw [h9] at c45; cases c45) | (have h8 := (lg_cmp_eq _ _).mp n54; rw [hval 1 h9, i64_lN] at h8; exact absurd ((i64_inj ⟨by decide, by decide⟩ s0).mp h8) (by decide))
      exact ⟨by rw [hh], rfl, ⟨_, rfl⟩, hR.two, fun h => by rw [hh] at h; cases h⟩
    · skip
      refine V_aload_n (pc := 48) dX12_isSo_48 rfl ?_
      refine V_getL (pc := 49) 12 39 dX12_isSo_49 flX12_438 (by decide) h12.o ?_
      refine V_lconst (pc := 52) (v := lN 0) dX12_isSo_52 (by decide) ?_
      refine V_lcmp (pc := 53) dX12_isSo_53 ?_
      refine V_if_ne (pc := 54) (tgt := 59) dX12_isSo_54 (by decide) (fun c54 => ?_) (fun n54 => ?_)
      · skip
        have ht1 : law.2.2.2 c w = some 1 := by
          rcases ht with h9 | h9 | h9
          · rw [h9] at n45; cases n45
          · exact absurd ((lg_cmp_eq _ _).mpr (by rw [hval 0 h9, i64_lN]; rfl)) c54
          · exact h9
        exact snd _ _ _ rfl hR.two ht1
      · skip
        refine V_iconst (pc := 57) (v := nI 0) dX12_isSo_57 (by decide) ?_
        refine V_zretB (pc := 58) (p := false) dX12_isSo_58 rfl rfl (by first | decide | omega) (by first | decide | omega) ?_
        have hh : holds law c w = false := by
          rcases ht with h9 | h9 | h9
          · simp [holds, h9]
          · simp [holds, h9]
          · first | (rw [h9] at c45; cases c45) | (have h8 := (lg_cmp_eq _ _).mp n54; rw [hval 1 h9, i64_lN] at h8; exact absurd ((i64_inj ⟨by decide, by decide⟩ s0).mp h8) (by decide))
        exact ⟨by rw [hh], rfl, ⟨_, rfl⟩, hR.two, fun h => by rw [hh] at h; cases h⟩
  · have ht1 := hno h2
    refine V_aload_n (pc := 0) dX12_isSo_0 rfl ?_
    refine V_getR (pc := 1) 12 3 dX12_isSo_1 flX12_13 (by decide) h12.o h12.R3 ?_
    refine V_iload_n (pc := 4) dX12_isSo_4 rfl ?_
    refine V_iconst (pc := 5) (v := nI 5) dX12_isSo_5 (by decide) ?_
    refine V_iaddN (pc := 6) dX12_isSo_6 ?_
    refine V_ialoadE (pc := 7) dX12_isSo_7 h12.A3 (by first | decide | omega) (by omega) (f5) ?_
    refine V_aload_n (pc := 8) dX12_isSo_8 rfl ?_
    refine V_getR (pc := 9) 12 3 dX12_isSo_9 flX12_13 (by decide) h12.o h12.R3 ?_
    refine V_iload_n (pc := 12) dX12_isSo_12 rfl ?_
    refine V_bipush (pc := 13) (v := nI 6) dX12_isSo_13 (by decide) ?_
    refine V_iaddN (pc := 15) dX12_isSo_15 ?_
    refine V_ialoadE (pc := 16) dX12_isSo_16 h12.A3 (by first | decide | omega) (by omega) (f6) ?_
    refine V_icmp_geN (pc := 17) (tgt := 59) dX12_isSo_17 (by decide) (by omega) (by omega) (fun c17 => ?_) (fun n17 => absurd n17 (by omega))
    exact snd I L _ e38 RkL.rf.two ht1
end ME
