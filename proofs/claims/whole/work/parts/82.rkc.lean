/-! THE CLASS reckons -/
def itC (op : Nat) : Nat := if op = 0 then 1 else if op = 1 then 2 else if op < 28 then op - 17 else if op = 28 then 11 else if op = 29 then 12 else if op = 30 then 13 else 0
def opC (op : Nat) : Prop := op = 0 ∨ op = 1 ∨ (20 ≤ op ∧ op ≤ 31)
def lfC (w : WT) (p a : Nat) : Int := if p = 0 then (a : Int) else w a
/-- the items of a text at a, m of them -/
def ItM (I : IT) (a m : Nat) (op arg : Nat → Nat) : Prop := ∀ k, k < m → I (a + 4) k = nI (itC (op k)) ∧ I (a + 5) k = nI (arg k) ∧ opC (op k) ∧ arg k ≤ 1000 ∧ (op k = 1 → arg k < 24)
def StI (f : Nat → Int32) : List Int → Prop | [] => True | a :: t => f t.length = Int32.ofInt a ∧ StI f t
theorem StI_up {f : Nat → Nat → Int32} {a i : Nat} {v : Int32} : ∀ {st : List Int}, StI (f a) st → st.length ≤ i → StI (up2 f a i v a) st
  | [], _, _ => trivial
  | x :: t, h, hi => ⟨by rw [up2_nej (by simp at hi; omega)]; exact h.1, StI_up h.2 (by simp at hi; omega)⟩
theorem i32_t {a : Int} (h : sml a) : (Int32.ofInt a).toInt = a := by
  have h1 := h.1; have h2 := h.2
  rw [Int32.toInt_ofInt, show Int32.size = 4294967296 from rfl]
  exact Int.bmod_eq_of_le (by omega) (by omega)
theorem i32_l {a : Int} (h : sml a) : (Int32.ofInt a).toInt64 = i64 a := by
  have h1 := h.1; have h2 := h.2
  apply Int64.toInt_inj.mp
  rw [Int32.toInt_toInt64, i32_t h, i64_toInt (by omega) (by omega)]
theorem i32_inj {a b : Int} (ha : sml a) (hb : sml b) : Int32.ofInt a = Int32.ofInt b ↔ a = b := by
  constructor
  · intro h
    have := congrArg Int32.toInt h
    rw [i32_t ha, i32_t hb] at this
    exact this
  · intro h; rw [h]
theorem i32_N (n : Nat) : nI n = Int32.ofInt (n : Int) := Int32.ofInt_eq_ofNat.symm
theorem i32_min {a : Int} (h : sml a) : ¬ Int32.ofInt a = -2000000000 := fun z => by
  have := congrArg Int32.toInt z
  rw [i32_t h, show (-2000000000 : Int32).toInt = -2000000000 from by decide] at this
  have h1 := h.1; have h2 := h.2
  omega
section CC
variable {E : EnT} {S : ST} {I : IT} {L : LT} {t a wa n m : Nat} {op arg : Nat → Nat} {w : WT}
abbrev QC (E : EnT) (S : ST) (I : IT) (L : LT) (t : Nat) (res : Option Int) : QT := QM E (fun r S' I' L' => r = some (.int (rI res)) ∧ S = S' ∧ L = L' ∧ ∀ x, x ≠ t + 1 → I' x = I x) 0 0
theorem lp_reckonC (h6 : Lay6 E S t) (h7 : Lay7 E S a n m) (hw : isA E S wa 0 24) (hm : m ≤ 448) (hat : a + 4 ≠ t + 1 ∧ a + 5 ≠ t + 1 ∧ wa ≠ t + 1) (hI : ItM I a m op arg) (hwo : wok w) (hwd : ∀ k, k < m → op k = 1 → I wa (arg k) = Int32.ofInt (w (arg k))) {s e : Nat} (he : e < m) (hs : op e = 31) (hin : ∀ k, s ≤ k → k < e → op k ≠ 31 ∧ ((op k = 29 ∨ op k = 30) → k < arg k ∧ arg k ≤ e)) (res : Option Int) {a2 : Int32} :
    ∀ (fuel k : Nat) (st : List Int) (I' : IT) (ls : List (Nat × Value)), s ≤ k → k ≤ e → st.length ≤ 60 → AllS st → StI (I' (t + 1)) st → (∀ x, x ≠ t + 1 → I' x = I x) → evM op arg (lfC w) e fuel k st = some res →
      V E kX6_reckon (rmOf 1 0 0) (QC E S I L t res) 0 0 S I' L 12 [(0, .ref t), (1, .ref a), (2, .int a2), (3, .ref wa), (4, .int (nI st.length)), (5, .int (nI k))] [] := by
  intro fuel
  induction fuel with
  | zero => intro k st I' ls _ _ _ _ _ _ h; rw [evM_0] at h; cases h
  | succ n' ih =>
    intro k st I' ls hsk hke hst hall hsl hfr h
    have ih := fun k st I' => ih k st I' ls
    rw [evM_s] at h
    have hk := hI k (by omega)
    obtain ⟨o1, o2, o3, o4, o5⟩ := hk
    have g4 : I' (a + 4) k = nI (itC (op k)) := by rw [hfr _ hat.1]; exact o1
    have g5 : I' (a + 5) k = nI (arg k) := by rw [hfr _ hat.2.1]; exact o2
    by_cases hlk : e ≤ k
    · have ek : k = e := by omega
      subst ek
      rw [if_pos hlk] at h
      obtain ⟨v, rfl, hres⟩ : ∃ v, st = [v] ∧ res = some v := by
        cases st with
        | nil => cases h
        | cons v t =>
          cases t with
          | nil => exact ⟨v, rfl, (Option.some.inj h).symm⟩
          | cons x t => cases h
      subst hres
      have e0 : itC (op k) = 0 := by rw [hs]; rfl
      rw [e0] at g4
      have g1 : I' (t + 1) 0 = Int32.ofInt v := hsl.1
      have hlen : ([v] : List Int).length = 1 := rfl
      rw [hlen]
      refine V_iload (pc := 12) dX6_reckon_12 rfl ?_
      refine V_aload_n (pc := 14) dX6_reckon_14 rfl ?_
      refine V_getR (pc := 15) 7 4 dX6_reckon_15 flX6_15 (by decide) h7.o h7.R4 ?_
      refine V_alen (pc := 18) dX6_reckon_18 h7.A4 (by decide) ?_
      refine V_icmp_geN (pc := 19) (tgt := 292) dX6_reckon_19 (by decide) (by omega) (by omega) (fun c19 => absurd c19 (by omega)) (fun n19 => ?_)
      refine V_aload_n (pc := 22) dX6_reckon_22 rfl ?_
      refine V_getR (pc := 23) 7 4 dX6_reckon_23 flX6_15 (by decide) h7.o h7.R4 ?_
      refine V_iload (pc := 26) dX6_reckon_26 rfl ?_
      refine V_ialoadE (pc := 28) dX6_reckon_28 h7.A4 (by first | decide | omega) (by omega) (g4) ?_
      refine V_istore (pc := 29) (ls' := [(0, _), (1, _), (2, _), (3, _), (4, _), (5, _), (6, _)]) dX6_reckon_29 (by decide) rfl ?_
      refine V_aload_n (pc := 31) dX6_reckon_31 rfl ?_
      refine V_getR (pc := 32) 7 5 dX6_reckon_32 flX6_20 (by decide) h7.o h7.R5 ?_
      refine V_iload (pc := 35) dX6_reckon_35 rfl ?_
      refine V_ialoadE (pc := 37) dX6_reckon_37 h7.A5 (by first | decide | omega) (by omega) (g5) ?_
      refine V_istore (pc := 38) (ls' := [(0, _), (1, _), (2, _), (3, _), (4, _), (5, _), (6, _), (7, _)]) dX6_reckon_38 (by decide) rfl ?_
      refine V_iload (pc := 40) dX6_reckon_40 rfl ?_
      refine V_if_neN (pc := 42) (tgt := 63) dX6_reckon_42 (by decide) (by omega) (fun c42 => absurd c42 (by omega)) (fun n42 => ?_)
      refine V_iload (pc := 45) dX6_reckon_45 rfl ?_
      refine V_iconst (pc := 47) (v := nI 1) dX6_reckon_47 (by decide) ?_
      refine V_icmp_neN (pc := 48) (tgt := 60) dX6_reckon_48 (by decide) (by omega) (by omega) (fun c48 => absurd c48 (by omega)) (fun n48 => ?_)
      refine V_aload_n (pc := 51) dX6_reckon_51 rfl ?_
      refine V_getR (pc := 52) 6 0 dX6_reckon_52 flX6_11 (by decide) h6.o h6.R0 ?_
      refine V_iconst (pc := 55) (v := nI 0) dX6_reckon_55 (by decide) ?_
      refine V_ialoadE (pc := 56) dX6_reckon_56 h6.A0 (by first | decide | omega) (by omega) (g1) ?_
      refine V_goto (pc := 57) (tgt := 62) dX6_reckon_57 (by decide) ?_
      refine V_iret (pc := 62) dX6_reckon_62 rfl (by first | decide | omega) (by first | decide | omega) ?_
      exact ⟨rfl, rfl, rfl, hfr⟩
    · rw [if_neg hlk] at h
      obtain ⟨n31, hleap⟩ := hin k hsk (by omega)
      by_cases h20 : op k < 20
      · rw [if_pos h20] at h
        by_cases hl60 : st.length < 60
        · rw [if_pos hl60] at h
          by_cases hz : op k = 0
          · have e0 : itC (op k) = 1 := by rw [hz]; rfl
            rw [e0] at g4
            rw [show lfC w (op k) (arg k) = (arg k : Int) from by unfold lfC; rw [if_pos hz]] at h
            refine V_iload (pc := 12) dX6_reckon_12 rfl ?_
            refine V_aload_n (pc := 14) dX6_reckon_14 rfl ?_
            refine V_getR (pc := 15) 7 4 dX6_reckon_15 flX6_15 (by decide) h7.o h7.R4 ?_
            refine V_alen (pc := 18) dX6_reckon_18 h7.A4 (by decide) ?_
            refine V_icmp_geN (pc := 19) (tgt := 292) dX6_reckon_19 (by decide) (by omega) (by omega) (fun c19 => absurd c19 (by omega)) (fun n19 => ?_)
            refine V_aload_n (pc := 22) dX6_reckon_22 rfl ?_
            refine V_getR (pc := 23) 7 4 dX6_reckon_23 flX6_15 (by decide) h7.o h7.R4 ?_
            refine V_iload (pc := 26) dX6_reckon_26 rfl ?_
            refine V_ialoadE (pc := 28) dX6_reckon_28 h7.A4 (by first | decide | omega) (by omega) (g4) ?_
            refine V_istore (pc := 29) (ls' := [(0, _), (1, _), (2, _), (3, _), (4, _), (5, _), (6, _)]) dX6_reckon_29 (by decide) rfl ?_
            refine V_aload_n (pc := 31) dX6_reckon_31 rfl ?_
            refine V_getR (pc := 32) 7 5 dX6_reckon_32 flX6_20 (by decide) h7.o h7.R5 ?_
            refine V_iload (pc := 35) dX6_reckon_35 rfl ?_
            refine V_ialoadE (pc := 37) dX6_reckon_37 h7.A5 (by first | decide | omega) (by omega) (g5) ?_
            refine V_istore (pc := 38) (ls' := [(0, _), (1, _), (2, _), (3, _), (4, _), (5, _), (6, _), (7, _)]) dX6_reckon_38 (by decide) rfl ?_
            refine V_iload (pc := 40) dX6_reckon_40 rfl ?_
            refine V_if_neN (pc := 42) (tgt := 63) dX6_reckon_42 (by decide) (by omega) (fun c42 => ?_) (fun n42 => absurd n42 (by omega))
            refine V_iload (pc := 63) dX6_reckon_63 rfl ?_
            refine V_iconst (pc := 65) (v := nI 1) dX6_reckon_65 (by decide) ?_
            refine V_icmp_eqN (pc := 66) (tgt := 75) dX6_reckon_66 (by decide) (by omega) (by omega) (fun c66 => ?_) (fun n66 => absurd n66 (by omega))
            refine V_iload (pc := 75) dX6_reckon_75 rfl ?_
            refine V_aload_n (pc := 77) dX6_reckon_77 rfl ?_
            refine V_getR (pc := 78) 6 0 dX6_reckon_78 flX6_11 (by decide) h6.o h6.R0 ?_
            refine V_alen (pc := 81) dX6_reckon_81 h6.A0 (by decide) ?_
            refine V_icmp_geN (pc := 82) (tgt := 103) dX6_reckon_82 (by decide) (by omega) (by omega) (fun c82 => absurd c82 (by omega)) (fun n82 => ?_)
            refine V_iload (pc := 85) dX6_reckon_85 rfl ?_
            refine V_if_ltN (pc := 87) (tgt := 103) dX6_reckon_87 (by decide) (by omega) ?_
            refine V_iload (pc := 90) dX6_reckon_90 rfl ?_
            refine V_iconst (pc := 92) (v := nI 2) dX6_reckon_92 (by decide) ?_
            refine V_icmp_neN (pc := 93) (tgt := 106) dX6_reckon_93 (by decide) (by omega) (by omega) (fun c93 => ?_) (fun n93 => absurd n93 (by omega))
            refine V_aload_n (pc := 106) dX6_reckon_106 rfl ?_
            refine V_getR (pc := 107) 6 0 dX6_reckon_107 flX6_11 (by decide) h6.o h6.R0 ?_
            refine V_iload (pc := 110) dX6_reckon_110 rfl ?_
            refine V_iload (pc := 112) dX6_reckon_112 rfl ?_
            refine V_iconst (pc := 114) (v := nI 1) dX6_reckon_114 (by decide) ?_
            refine V_icmp_neN (pc := 115) (tgt := 123) dX6_reckon_115 (by decide) (by omega) (by omega) (fun c115 => absurd c115 (by omega)) (fun n115 => ?_)
            refine V_iload (pc := 118) dX6_reckon_118 rfl ?_
            refine V_goto (pc := 120) (tgt := 127) dX6_reckon_120 (by decide) ?_
            refine V_iastore (pc := 127) dX6_reckon_127 h6.A0 (by first | decide | omega) (by omega) ?_
            refine V_iinc1 (pc := 128) (ls' := [(0, _), (1, _), (2, _), (3, _), (4, _), (5, _), (6, _), (7, _)]) dX6_reckon_128 rfl (by decide) rfl ?_
            refine V_goto (pc := 131) (tgt := 286) dX6_reckon_131 (by decide) ?_
            refine V_iinc1 (pc := 286) (ls' := [(0, _), (1, _), (2, _), (3, _), (4, _), (5, _), (6, _), (7, _)]) dX6_reckon_286 rfl (by decide) rfl ?_
            refine V_goto (pc := 289) (tgt := 12) dX6_reckon_289 (by decide) ?_
            refine V_loc [0, 1, 2, 3, 4, 5] rfl ?_
            rw [i32_N (arg k)]
            exact ih (k + 1) (_ :: st) _ (by omega) (by omega) (by simp; omega) (fun a ha => (List.mem_cons.mp ha).elim (fun e => by rw [e]; unfold sml; omega) (hall a)) ⟨up2_self, StI_up hsl (Nat.le_refl _)⟩ (fun x hx => by rw [up2_row hx]; exact hfr x hx) h
          · have h1 : op k = 1 := by unfold opC at o3; omega
            have e0 : itC (op k) = 2 := by rw [h1]; rfl
            rw [e0] at g4
            have h24 := o5 h1
            rw [show lfC w (op k) (arg k) = w (arg k) from by unfold lfC; rw [if_neg hz]] at h
            refine V_iload (pc := 12) dX6_reckon_12 rfl ?_
            refine V_aload_n (pc := 14) dX6_reckon_14 rfl ?_
            refine V_getR (pc := 15) 7 4 dX6_reckon_15 flX6_15 (by decide) h7.o h7.R4 ?_
            refine V_alen (pc := 18) dX6_reckon_18 h7.A4 (by decide) ?_
            refine V_icmp_geN (pc := 19) (tgt := 292) dX6_reckon_19 (by decide) (by omega) (by omega) (fun c19 => absurd c19 (by omega)) (fun n19 => ?_)
            refine V_aload_n (pc := 22) dX6_reckon_22 rfl ?_
            refine V_getR (pc := 23) 7 4 dX6_reckon_23 flX6_15 (by decide) h7.o h7.R4 ?_
            refine V_iload (pc := 26) dX6_reckon_26 rfl ?_
            refine V_ialoadE (pc := 28) dX6_reckon_28 h7.A4 (by first | decide | omega) (by omega) (g4) ?_
            refine V_istore (pc := 29) (ls' := [(0, _), (1, _), (2, _), (3, _), (4, _), (5, _), (6, _)]) dX6_reckon_29 (by decide) rfl ?_
            refine V_aload_n (pc := 31) dX6_reckon_31 rfl ?_
            refine V_getR (pc := 32) 7 5 dX6_reckon_32 flX6_20 (by decide) h7.o h7.R5 ?_
            refine V_iload (pc := 35) dX6_reckon_35 rfl ?_
            refine V_ialoadE (pc := 37) dX6_reckon_37 h7.A5 (by first | decide | omega) (by omega) (g5) ?_
            refine V_istore (pc := 38) (ls' := [(0, _), (1, _), (2, _), (3, _), (4, _), (5, _), (6, _), (7, _)]) dX6_reckon_38 (by decide) rfl ?_
            refine V_iload (pc := 40) dX6_reckon_40 rfl ?_
            refine V_if_neN (pc := 42) (tgt := 63) dX6_reckon_42 (by decide) (by omega) (fun c42 => ?_) (fun n42 => absurd n42 (by omega))
            refine V_iload (pc := 63) dX6_reckon_63 rfl ?_
            refine V_iconst (pc := 65) (v := nI 1) dX6_reckon_65 (by decide) ?_
            refine V_icmp_eqN (pc := 66) (tgt := 75) dX6_reckon_66 (by decide) (by omega) (by omega) (fun c66 => absurd c66 (by omega)) (fun n66 => ?_)
            refine V_iload (pc := 69) dX6_reckon_69 rfl ?_
            refine V_iconst (pc := 71) (v := nI 2) dX6_reckon_71 (by decide) ?_
            refine V_icmp_neN (pc := 72) (tgt := 134) dX6_reckon_72 (by decide) (by omega) (by omega) (fun c72 => absurd c72 (by omega)) (fun n72 => ?_)
            refine V_iload (pc := 75) dX6_reckon_75 rfl ?_
            refine V_aload_n (pc := 77) dX6_reckon_77 rfl ?_
            refine V_getR (pc := 78) 6 0 dX6_reckon_78 flX6_11 (by decide) h6.o h6.R0 ?_
            refine V_alen (pc := 81) dX6_reckon_81 h6.A0 (by decide) ?_
            refine V_icmp_geN (pc := 82) (tgt := 103) dX6_reckon_82 (by decide) (by omega) (by omega) (fun c82 => absurd c82 (by omega)) (fun n82 => ?_)
            refine V_iload (pc := 85) dX6_reckon_85 rfl ?_
            refine V_if_ltN (pc := 87) (tgt := 103) dX6_reckon_87 (by decide) (by omega) ?_
            refine V_iload (pc := 90) dX6_reckon_90 rfl ?_
            refine V_iconst (pc := 92) (v := nI 2) dX6_reckon_92 (by decide) ?_
            refine V_icmp_neN (pc := 93) (tgt := 106) dX6_reckon_93 (by decide) (by omega) (by omega) (fun c93 => absurd c93 (by omega)) (fun n93 => ?_)
            refine V_iload (pc := 96) dX6_reckon_96 rfl ?_
            refine V_aload_n (pc := 98) dX6_reckon_98 rfl ?_
            refine V_alen (pc := 99) dX6_reckon_99 (by assumption) (by decide) ?_
            refine V_icmp_ltN (pc := 100) (tgt := 106) dX6_reckon_100 (by decide) (by omega) (by omega) (fun c100 => ?_) (fun n100 => absurd n100 (by omega))
            refine V_aload_n (pc := 106) dX6_reckon_106 rfl ?_
            refine V_getR (pc := 107) 6 0 dX6_reckon_107 flX6_11 (by decide) h6.o h6.R0 ?_
            refine V_iload (pc := 110) dX6_reckon_110 rfl ?_
            refine V_iload (pc := 112) dX6_reckon_112 rfl ?_
            refine V_iconst (pc := 114) (v := nI 1) dX6_reckon_114 (by decide) ?_
            refine V_icmp_neN (pc := 115) (tgt := 123) dX6_reckon_115 (by decide) (by omega) (by omega) (fun c115 => ?_) (fun n115 => absurd n115 (by omega))
            refine V_aload_n (pc := 123) dX6_reckon_123 rfl ?_
            refine V_iload (pc := 124) dX6_reckon_124 rfl ?_
            refine V_ialoadE (pc := 126) dX6_reckon_126 (by assumption) (by first | decide | omega) (by omega) ((congrFun (hfr wa hat.2.2) _).trans (hwd k (by omega) h1)) ?_
            refine V_iastore (pc := 127) dX6_reckon_127 h6.A0 (by first | decide | omega) (by omega) ?_
            refine V_iinc1 (pc := 128) (ls' := [(0, _), (1, _), (2, _), (3, _), (4, _), (5, _), (6, _), (7, _)]) dX6_reckon_128 rfl (by decide) rfl ?_
            refine V_goto (pc := 131) (tgt := 286) dX6_reckon_131 (by decide) ?_
            refine V_iinc1 (pc := 286) (ls' := [(0, _), (1, _), (2, _), (3, _), (4, _), (5, _), (6, _), (7, _)]) dX6_reckon_286 rfl (by decide) rfl ?_
            refine V_goto (pc := 289) (tgt := 12) dX6_reckon_289 (by decide) ?_
            refine V_loc [0, 1, 2, 3, 4, 5] rfl ?_
            exact ih (k + 1) (_ :: st) _ (by omega) (by omega) (by simp; omega) (fun a ha => (List.mem_cons.mp ha).elim (fun e => by rw [e]; exact hwo _) (hall a)) ⟨up2_self, StI_up hsl (Nat.le_refl _)⟩ (fun x hx => by rw [up2_row hx]; exact hfr x hx) h
        · rw [if_neg hl60] at h; cases h
      · rw [if_neg h20] at h
        by_cases h28 : op k < 28
        · rw [if_pos h28] at h
          have e0 : itC (op k) = op k - 17 := by unfold itC; rw [if_neg (by omega), if_neg (by omega), if_pos h28]
          rw [e0] at g4
          match st, h, hst, hall, hsl with
          | y :: x :: tl, h, hst, hall, hsl =>
            have sa : sml x := hall x (by simp)
            have sb : sml y := hall y (by simp)
            have g1 : I' (t + 1) tl.length = Int32.ofInt x := hsl.2.1
            have g2 : I' (t + 1) (tl.length + 1) = Int32.ofInt y := hsl.1
            have hlen : (y :: x :: tl).length = tl.length + 2 := rfl
            rw [hlen] at hst ⊢
            have h : (match calc3 (op k) x y with | none => some none | some z => evM op arg (lfC w) e n' (k + 1) (z :: tl)) = some res := h
            cases hc : calc3 (op k) x y with
            | none =>
              rw [hc] at h
              have hres : res = none := (Option.some.inj h).symm
              subst hres
              have cj := c_X6_join (E := E) (S := S) (I := I') (L := L) (op := op k) (by omega) h28 sa sb
              rw [hc] at cj
              refine V_iload (pc := 12) dX6_reckon_12 rfl ?_
              refine V_aload_n (pc := 14) dX6_reckon_14 rfl ?_
              refine V_getR (pc := 15) 7 4 dX6_reckon_15 flX6_15 (by decide) h7.o h7.R4 ?_
              refine V_alen (pc := 18) dX6_reckon_18 h7.A4 (by decide) ?_
              refine V_icmp_geN (pc := 19) (tgt := 292) dX6_reckon_19 (by decide) (by omega) (by omega) (fun c19 => absurd c19 (by omega)) (fun n19 => ?_)
              refine V_aload_n (pc := 22) dX6_reckon_22 rfl ?_
              refine V_getR (pc := 23) 7 4 dX6_reckon_23 flX6_15 (by decide) h7.o h7.R4 ?_
              refine V_iload (pc := 26) dX6_reckon_26 rfl ?_
              refine V_ialoadE (pc := 28) dX6_reckon_28 h7.A4 (by first | decide | omega) (by omega) (g4) ?_
              refine V_istore (pc := 29) (ls' := [(0, _), (1, _), (2, _), (3, _), (4, _), (5, _), (6, _)]) dX6_reckon_29 (by decide) rfl ?_
              refine V_aload_n (pc := 31) dX6_reckon_31 rfl ?_
              refine V_getR (pc := 32) 7 5 dX6_reckon_32 flX6_20 (by decide) h7.o h7.R5 ?_
              refine V_iload (pc := 35) dX6_reckon_35 rfl ?_
              refine V_ialoadE (pc := 37) dX6_reckon_37 h7.A5 (by first | decide | omega) (by omega) (g5) ?_
              refine V_istore (pc := 38) (ls' := [(0, _), (1, _), (2, _), (3, _), (4, _), (5, _), (6, _), (7, _)]) dX6_reckon_38 (by decide) rfl ?_
              refine V_iload (pc := 40) dX6_reckon_40 rfl ?_
              refine V_if_neN (pc := 42) (tgt := 63) dX6_reckon_42 (by decide) (by omega) (fun c42 => ?_) (fun n42 => absurd n42 (by omega))
              refine V_iload (pc := 63) dX6_reckon_63 rfl ?_
              refine V_iconst (pc := 65) (v := nI 1) dX6_reckon_65 (by decide) ?_
              refine V_icmp_eqN (pc := 66) (tgt := 75) dX6_reckon_66 (by decide) (by omega) (by omega) (fun c66 => absurd c66 (by omega)) (fun n66 => ?_)
              refine V_iload (pc := 69) dX6_reckon_69 rfl ?_
              refine V_iconst (pc := 71) (v := nI 2) dX6_reckon_71 (by decide) ?_
              refine V_icmp_neN (pc := 72) (tgt := 134) dX6_reckon_72 (by decide) (by omega) (by omega) (fun c72 => ?_) (fun n72 => absurd n72 (by omega))
              refine V_iload (pc := 134) dX6_reckon_134 rfl ?_
              refine V_bipush (pc := 136) (v := nI 11) dX6_reckon_136 (by decide) ?_
              refine V_icmp_ltN (pc := 138) (tgt := 224) dX6_reckon_138 (by decide) (by omega) (by omega) (fun c138 => ?_) (fun n138 => absurd n138 (by omega))
              refine V_iload (pc := 224) dX6_reckon_224 rfl ?_
              refine V_iconst (pc := 226) (v := nI 2) dX6_reckon_226 (by decide) ?_
              refine V_icmp_geN (pc := 227) (tgt := 235) dX6_reckon_227 (by decide) (by omega) (by omega) (fun c227 => ?_) (fun n227 => absurd n227 (by omega))
              refine V_iload (pc := 235) dX6_reckon_235 rfl ?_
              refine V_aload_n (pc := 237) dX6_reckon_237 rfl ?_
              refine V_getR (pc := 238) 6 0 dX6_reckon_238 flX6_11 (by decide) h6.o h6.R0 ?_
              refine V_iload (pc := 241) dX6_reckon_241 rfl ?_
              refine V_iconst (pc := 243) (v := nI 2) dX6_reckon_243 (by decide) ?_
              refine V_isubN (pc := 244) dX6_reckon_244 (by omega) ?_
              refine V_ialoadE (pc := 245) dX6_reckon_245 h6.A0 (by first | decide | omega) (by omega) (g1) ?_
              refine V_i2l (pc := 246) dX6_reckon_246 rfl ?_
              rw [i32_l sa]
              refine V_aload_n (pc := 247) dX6_reckon_247 rfl ?_
              refine V_getR (pc := 248) 6 0 dX6_reckon_248 flX6_11 (by decide) h6.o h6.R0 ?_
              refine V_iload (pc := 251) dX6_reckon_251 rfl ?_
              refine V_iconst (pc := 253) (v := nI 1) dX6_reckon_253 (by decide) ?_
              refine V_isubN (pc := 254) dX6_reckon_254 (by omega) ?_
              refine V_ialoadE (pc := 255) dX6_reckon_255 h6.A0 (by first | decide | omega) (by omega) (g2) ?_
              refine V_i2l (pc := 256) dX6_reckon_256 rfl ?_
              rw [i32_l sb]
              refine V_callSd (pc := 257) cj dX6_reckon_257 mlX6_30 mkX6_join rfl rfl ⟨Nat.le_of_ble_eq_true rfl, Nat.le_of_ble_eq_true rfl⟩ (Nat.le_of_ble_eq_true rfl) ⟨Nat.le_of_ble_eq_true rfl, Nat.le_of_ble_eq_true rfl⟩ ?_
              refine V_istore (pc := 260) (ls' := [(0, _), (1, _), (2, _), (3, _), (4, _), (5, _), (6, _), (7, _), (8, _)]) dX6_reckon_260 (by decide) rfl ?_
              refine V_iload (pc := 262) dX6_reckon_262 rfl ?_
              refine V_ldc (pc := 264) dX6_reckon_264 coX6_23 ?_
              refine V_icmp_ne (pc := 266) (tgt := 272) dX6_reckon_266 (by decide) (fun c266 => absurd c266 (by exact fun z => z rfl)) (fun n266 => ?_)
              refine V_ldc (pc := 269) dX6_reckon_269 coX6_23 ?_
              refine V_iret (pc := 271) dX6_reckon_271 rfl (by first | decide | omega) (by first | decide | omega) ?_
              exact ⟨rfl, rfl, rfl, hfr⟩
            | some z =>
              rw [hc] at h
              have sz := calc3_sml hc
              have cj := c_X6_join (E := E) (S := S) (I := I') (L := L) (op := op k) (by omega) h28 sa sb
              rw [hc] at cj
              refine V_iload (pc := 12) dX6_reckon_12 rfl ?_
              refine V_aload_n (pc := 14) dX6_reckon_14 rfl ?_
              refine V_getR (pc := 15) 7 4 dX6_reckon_15 flX6_15 (by decide) h7.o h7.R4 ?_
              refine V_alen (pc := 18) dX6_reckon_18 h7.A4 (by decide) ?_
              refine V_icmp_geN (pc := 19) (tgt := 292) dX6_reckon_19 (by decide) (by omega) (by omega) (fun c19 => absurd c19 (by omega)) (fun n19 => ?_)
              refine V_aload_n (pc := 22) dX6_reckon_22 rfl ?_
              refine V_getR (pc := 23) 7 4 dX6_reckon_23 flX6_15 (by decide) h7.o h7.R4 ?_
              refine V_iload (pc := 26) dX6_reckon_26 rfl ?_
              refine V_ialoadE (pc := 28) dX6_reckon_28 h7.A4 (by first | decide | omega) (by omega) (g4) ?_
              refine V_istore (pc := 29) (ls' := [(0, _), (1, _), (2, _), (3, _), (4, _), (5, _), (6, _)]) dX6_reckon_29 (by decide) rfl ?_
              refine V_aload_n (pc := 31) dX6_reckon_31 rfl ?_
              refine V_getR (pc := 32) 7 5 dX6_reckon_32 flX6_20 (by decide) h7.o h7.R5 ?_
              refine V_iload (pc := 35) dX6_reckon_35 rfl ?_
              refine V_ialoadE (pc := 37) dX6_reckon_37 h7.A5 (by first | decide | omega) (by omega) (g5) ?_
              refine V_istore (pc := 38) (ls' := [(0, _), (1, _), (2, _), (3, _), (4, _), (5, _), (6, _), (7, _)]) dX6_reckon_38 (by decide) rfl ?_
              refine V_iload (pc := 40) dX6_reckon_40 rfl ?_
              refine V_if_neN (pc := 42) (tgt := 63) dX6_reckon_42 (by decide) (by omega) (fun c42 => ?_) (fun n42 => absurd n42 (by omega))
              refine V_iload (pc := 63) dX6_reckon_63 rfl ?_
              refine V_iconst (pc := 65) (v := nI 1) dX6_reckon_65 (by decide) ?_
              refine V_icmp_eqN (pc := 66) (tgt := 75) dX6_reckon_66 (by decide) (by omega) (by omega) (fun c66 => absurd c66 (by omega)) (fun n66 => ?_)
              refine V_iload (pc := 69) dX6_reckon_69 rfl ?_
              refine V_iconst (pc := 71) (v := nI 2) dX6_reckon_71 (by decide) ?_
              refine V_icmp_neN (pc := 72) (tgt := 134) dX6_reckon_72 (by decide) (by omega) (by omega) (fun c72 => ?_) (fun n72 => absurd n72 (by omega))
              refine V_iload (pc := 134) dX6_reckon_134 rfl ?_
              refine V_bipush (pc := 136) (v := nI 11) dX6_reckon_136 (by decide) ?_
              refine V_icmp_ltN (pc := 138) (tgt := 224) dX6_reckon_138 (by decide) (by omega) (by omega) (fun c138 => ?_) (fun n138 => absurd n138 (by omega))
              refine V_iload (pc := 224) dX6_reckon_224 rfl ?_
              refine V_iconst (pc := 226) (v := nI 2) dX6_reckon_226 (by decide) ?_
              refine V_icmp_geN (pc := 227) (tgt := 235) dX6_reckon_227 (by decide) (by omega) (by omega) (fun c227 => ?_) (fun n227 => absurd n227 (by omega))
              refine V_iload (pc := 235) dX6_reckon_235 rfl ?_
              refine V_aload_n (pc := 237) dX6_reckon_237 rfl ?_
              refine V_getR (pc := 238) 6 0 dX6_reckon_238 flX6_11 (by decide) h6.o h6.R0 ?_
              refine V_iload (pc := 241) dX6_reckon_241 rfl ?_
              refine V_iconst (pc := 243) (v := nI 2) dX6_reckon_243 (by decide) ?_
              refine V_isubN (pc := 244) dX6_reckon_244 (by omega) ?_
              refine V_ialoadE (pc := 245) dX6_reckon_245 h6.A0 (by first | decide | omega) (by omega) (g1) ?_
              refine V_i2l (pc := 246) dX6_reckon_246 rfl ?_
              rw [i32_l sa]
              refine V_aload_n (pc := 247) dX6_reckon_247 rfl ?_
              refine V_getR (pc := 248) 6 0 dX6_reckon_248 flX6_11 (by decide) h6.o h6.R0 ?_
              refine V_iload (pc := 251) dX6_reckon_251 rfl ?_
              refine V_iconst (pc := 253) (v := nI 1) dX6_reckon_253 (by decide) ?_
              refine V_isubN (pc := 254) dX6_reckon_254 (by omega) ?_
              refine V_ialoadE (pc := 255) dX6_reckon_255 h6.A0 (by first | decide | omega) (by omega) (g2) ?_
              refine V_i2l (pc := 256) dX6_reckon_256 rfl ?_
              rw [i32_l sb]
              refine V_callSd (pc := 257) cj dX6_reckon_257 mlX6_30 mkX6_join rfl rfl ⟨Nat.le_of_ble_eq_true rfl, Nat.le_of_ble_eq_true rfl⟩ (Nat.le_of_ble_eq_true rfl) ⟨Nat.le_of_ble_eq_true rfl, Nat.le_of_ble_eq_true rfl⟩ ?_
              refine V_istore (pc := 260) (ls' := [(0, _), (1, _), (2, _), (3, _), (4, _), (5, _), (6, _), (7, _), (8, _)]) dX6_reckon_260 (by decide) rfl ?_
              refine V_iload (pc := 262) dX6_reckon_262 rfl ?_
              refine V_ldc (pc := 264) dX6_reckon_264 coX6_23 ?_
              refine V_icmp_ne (pc := 266) (tgt := 272) dX6_reckon_266 (by decide) (fun c266 => ?_) (fun n266 => absurd n266 (by exact i32_min sz))
              refine V_iinc (pc := 272) (ls' := [(0, _), (1, _), (2, _), (3, _), (4, _), (5, _), (6, _), (7, _), (8, _)]) dX6_reckon_272 rfl (nI_pred' (by omega)) (by decide) rfl ?_
              refine V_aload_n (pc := 275) dX6_reckon_275 rfl ?_
              refine V_getR (pc := 276) 6 0 dX6_reckon_276 flX6_11 (by decide) h6.o h6.R0 ?_
              refine V_iload (pc := 279) dX6_reckon_279 rfl ?_
              refine V_iconst (pc := 281) (v := nI 1) dX6_reckon_281 (by decide) ?_
              refine V_isubN (pc := 282) dX6_reckon_282 (by omega) ?_
              refine V_iload (pc := 283) dX6_reckon_283 rfl ?_
              refine V_iastore (pc := 285) dX6_reckon_285 h6.A0 (by first | decide | omega) (by omega) ?_
              refine V_iinc1 (pc := 286) (ls' := [(0, _), (1, _), (2, _), (3, _), (4, _), (5, _), (6, _), (7, _), (8, _)]) dX6_reckon_286 rfl (by decide) rfl ?_
              refine V_goto (pc := 289) (tgt := 12) dX6_reckon_289 (by decide) ?_
              refine V_loc [0, 1, 2, 3, 4, 5] rfl ?_
              exact ih (k + 1) (z :: tl) _ (by omega) (by omega) (by simp; omega) (fun q hq => (List.mem_cons.mp hq).elim (fun e => by rw [e]; exact sz) (fun e => hall q (by simp [e]))) ⟨up2_self, StI_up hsl.2.2 (Nat.le_refl _)⟩ (fun x hx => by rw [up2_row hx]; exact hfr x hx) h
          | [], h, _, _, _ => cases h
          | [_], h, _, _, _ => cases h
        · rw [if_neg h28] at h
          by_cases h28e : op k = 28
          · rw [if_pos h28e] at h
            have e0 : itC (op k) = 11 := by rw [h28e]; rfl
            rw [e0] at g4
            match st, h, hst, hall, hsl with
            | x :: tl, h, hst, hall, hsl =>
              have h : (if x = 0 ∨ x = 1 then evM op arg (lfC w) e n' (k + 1) ((1 - x) :: tl) else none) = some res := h
              by_cases hx : x = 0 ∨ x = 1
              · rw [if_pos hx] at h
                have g1 : I' (t + 1) tl.length = Int32.ofInt x := hsl.1
                have hlen : (x :: tl).length = tl.length + 1 := rfl
                rw [hlen] at hst ⊢
                have es : nI 1 - Int32.ofInt x = Int32.ofInt (1 - x) := by rcases hx with e | e <;> subst e <;> decide
                refine V_iload (pc := 12) dX6_reckon_12 rfl ?_
                refine V_aload_n (pc := 14) dX6_reckon_14 rfl ?_
                refine V_getR (pc := 15) 7 4 dX6_reckon_15 flX6_15 (by decide) h7.o h7.R4 ?_
                refine V_alen (pc := 18) dX6_reckon_18 h7.A4 (by decide) ?_
                refine V_icmp_geN (pc := 19) (tgt := 292) dX6_reckon_19 (by decide) (by omega) (by omega) (fun c19 => absurd c19 (by omega)) (fun n19 => ?_)
                refine V_aload_n (pc := 22) dX6_reckon_22 rfl ?_
                refine V_getR (pc := 23) 7 4 dX6_reckon_23 flX6_15 (by decide) h7.o h7.R4 ?_
                refine V_iload (pc := 26) dX6_reckon_26 rfl ?_
                refine V_ialoadE (pc := 28) dX6_reckon_28 h7.A4 (by first | decide | omega) (by omega) (g4) ?_
                refine V_istore (pc := 29) (ls' := [(0, _), (1, _), (2, _), (3, _), (4, _), (5, _), (6, _)]) dX6_reckon_29 (by decide) rfl ?_
                refine V_aload_n (pc := 31) dX6_reckon_31 rfl ?_
                refine V_getR (pc := 32) 7 5 dX6_reckon_32 flX6_20 (by decide) h7.o h7.R5 ?_
                refine V_iload (pc := 35) dX6_reckon_35 rfl ?_
                refine V_ialoadE (pc := 37) dX6_reckon_37 h7.A5 (by first | decide | omega) (by omega) (g5) ?_
                refine V_istore (pc := 38) (ls' := [(0, _), (1, _), (2, _), (3, _), (4, _), (5, _), (6, _), (7, _)]) dX6_reckon_38 (by decide) rfl ?_
                refine V_iload (pc := 40) dX6_reckon_40 rfl ?_
                refine V_if_neN (pc := 42) (tgt := 63) dX6_reckon_42 (by decide) (by omega) (fun c42 => ?_) (fun n42 => absurd n42 (by omega))
                refine V_iload (pc := 63) dX6_reckon_63 rfl ?_
                refine V_iconst (pc := 65) (v := nI 1) dX6_reckon_65 (by decide) ?_
                refine V_icmp_eqN (pc := 66) (tgt := 75) dX6_reckon_66 (by decide) (by omega) (by omega) (fun c66 => absurd c66 (by omega)) (fun n66 => ?_)
                refine V_iload (pc := 69) dX6_reckon_69 rfl ?_
                refine V_iconst (pc := 71) (v := nI 2) dX6_reckon_71 (by decide) ?_
                refine V_icmp_neN (pc := 72) (tgt := 134) dX6_reckon_72 (by decide) (by omega) (by omega) (fun c72 => ?_) (fun n72 => absurd n72 (by omega))
                refine V_iload (pc := 134) dX6_reckon_134 rfl ?_
                refine V_bipush (pc := 136) (v := nI 11) dX6_reckon_136 (by decide) ?_
                refine V_icmp_ltN (pc := 138) (tgt := 224) dX6_reckon_138 (by decide) (by omega) (by omega) (fun c138 => absurd c138 (by omega)) (fun n138 => ?_)
                refine V_iload (pc := 141) dX6_reckon_141 rfl ?_
                refine V_iconst (pc := 143) (v := nI 1) dX6_reckon_143 (by decide) ?_
                refine V_icmp_geN (pc := 144) (tgt := 150) dX6_reckon_144 (by decide) (by omega) (by omega) (fun c144 => ?_) (fun n144 => absurd n144 (by omega))
                refine V_iload (pc := 150) dX6_reckon_150 rfl ?_
                refine V_bipush (pc := 152) (v := nI 11) dX6_reckon_152 (by decide) ?_
                refine V_icmp_neN (pc := 154) (tgt := 180) dX6_reckon_154 (by decide) (by omega) (by omega) (fun c154 => absurd c154 (by omega)) (fun n154 => ?_)
                refine V_aload_n (pc := 157) dX6_reckon_157 rfl ?_
                refine V_getR (pc := 158) 6 0 dX6_reckon_158 flX6_11 (by decide) h6.o h6.R0 ?_
                refine V_iload (pc := 161) dX6_reckon_161 rfl ?_
                refine V_iconst (pc := 163) (v := nI 1) dX6_reckon_163 (by decide) ?_
                refine V_isubN (pc := 164) dX6_reckon_164 (by omega) ?_
                refine V_iconst (pc := 165) (v := nI 1) dX6_reckon_165 (by decide) ?_
                refine V_aload_n (pc := 166) dX6_reckon_166 rfl ?_
                refine V_getR (pc := 167) 6 0 dX6_reckon_167 flX6_11 (by decide) h6.o h6.R0 ?_
                refine V_iload (pc := 170) dX6_reckon_170 rfl ?_
                refine V_iconst (pc := 172) (v := nI 1) dX6_reckon_172 (by decide) ?_
                refine V_isubN (pc := 173) dX6_reckon_173 (by omega) ?_
                refine V_ialoadE (pc := 174) dX6_reckon_174 h6.A0 (by first | decide | omega) (by omega) (g1) ?_
                refine V_isub (pc := 175) dX6_reckon_175 ?_
                rw [es]
                refine V_iastore (pc := 176) dX6_reckon_176 h6.A0 (by first | decide | omega) (by omega) ?_
                refine V_goto (pc := 177) (tgt := 286) dX6_reckon_177 (by decide) ?_
                refine V_iinc1 (pc := 286) (ls' := [(0, _), (1, _), (2, _), (3, _), (4, _), (5, _), (6, _), (7, _)]) dX6_reckon_286 rfl (by decide) rfl ?_
                refine V_goto (pc := 289) (tgt := 12) dX6_reckon_289 (by decide) ?_
                refine V_loc [0, 1, 2, 3, 4, 5] rfl ?_
                exact ih (k + 1) ((1 - x) :: tl) _ (by omega) (by omega) (by simp; omega) (fun q hq => (List.mem_cons.mp hq).elim (fun e => by rw [e]; unfold sml; omega) (fun e => hall q (by simp [e]))) ⟨up2_self, StI_up hsl.2 (Nat.le_refl _)⟩ (fun x hx => by rw [up2_row hx]; exact hfr x hx) h
              · rw [if_neg hx] at h; cases h
            | [], h, _, _, _ => cases h
          · rw [if_neg h28e] at h
            have h9 : op k = 29 ∨ op k = 30 := by unfold opC at o3; omega
            obtain ⟨l1, l2⟩ := hleap h9
            match st, h, hst, hall, hsl with
            | x :: tl, h, hst, hall, hsl =>
              have h : (if x = (if op k = 29 then 0 else 1) then evM op arg (lfC w) e n' (arg k) (x :: tl) else evM op arg (lfC w) e n' (k + 1) tl) = some res := h
              have g1 : I' (t + 1) tl.length = Int32.ofInt x := hsl.1
              have hlen : (x :: tl).length = tl.length + 1 := rfl
              have sx : sml x := hall x (by simp)
              rw [hlen] at hst ⊢
              have fin : ∀ (g : Int) (hg : (if op k = 29 then (0 : Int) else 1) = g) (sg : sml g) (z6 : Int32), V E kX6_reckon (rmOf 1 0 0) (QC E S I L t res) 0 0 S I' L 201 [(0, .ref t), (1, .ref a), (2, .int a2), (3, .ref wa), (4, .int (nI (tl.length + 1))), (5, .int (nI k)), (6, .int z6), (7, .int (nI (arg k)))] [.int (Int32.ofInt g), .int (Int32.ofInt x)] := by
                intro g hg sg z6
                rw [hg] at h
                have em : max k (arg k - 1) + 1 = arg k := by omega
                refine V_icmp_ne (pc := 201) (tgt := 218) dX6_reckon_201 (by decide) (fun c201 => ?_) (fun n201 => ?_)
                · skip
                  rw [if_neg (fun z => c201 ((i32_inj sx sg).mpr z))] at h
                  refine V_iinc (pc := 218) (ls' := [(0, _), (1, _), (2, _), (3, _), (4, _), (5, _), (6, _), (7, _)]) dX6_reckon_218 rfl (nI_pred' (by omega)) (by decide) rfl ?_
                  refine V_goto (pc := 221) (tgt := 286) dX6_reckon_221 (by decide) ?_
                  refine V_iinc1 (pc := 286) (ls' := [(0, _), (1, _), (2, _), (3, _), (4, _), (5, _), (6, _), (7, _)]) dX6_reckon_286 rfl (by decide) rfl ?_
                  refine V_goto (pc := 289) (tgt := 12) dX6_reckon_289 (by decide) ?_
                  refine V_loc [0, 1, 2, 3, 4, 5] rfl ?_
                  first
                    | (rw [em]; exact ih (arg k) (x :: tl) I' (by omega) (by omega) hst hall hsl hfr h)
                    | exact ih (k + 1) tl I' (by omega) (by omega) (by omega) (fun q hq => hall q (by simp [hq])) hsl.2 hfr h
                · skip
                  rw [if_pos ((i32_inj sx sg).mp n201)] at h
                  refine V_iload (pc := 204) dX6_reckon_204 rfl ?_
                  refine V_iload (pc := 206) dX6_reckon_206 rfl ?_
                  refine V_iconst (pc := 208) (v := nI 1) dX6_reckon_208 (by decide) ?_
                  refine V_isubN (pc := 209) dX6_reckon_209 (by omega) ?_
                  refine V_mmaxN (pc := 210) dX6_reckon_210 mlX6_24 (Nat.le_of_ble_eq_true rfl) (Nat.le_of_ble_eq_true rfl) ⟨Nat.le_of_ble_eq_true rfl, Nat.le_of_ble_eq_true rfl⟩ (by omega) (by omega) ?_
                  refine V_istore (pc := 213) (ls' := [(0, _), (1, _), (2, _), (3, _), (4, _), (5, _), (6, _), (7, _)]) dX6_reckon_213 (by decide) rfl ?_
                  refine V_goto (pc := 215) (tgt := 286) dX6_reckon_215 (by decide) ?_
                  refine V_iinc1 (pc := 286) (ls' := [(0, _), (1, _), (2, _), (3, _), (4, _), (5, _), (6, _), (7, _)]) dX6_reckon_286 rfl (by decide) rfl ?_
                  refine V_goto (pc := 289) (tgt := 12) dX6_reckon_289 (by decide) ?_
                  refine V_loc [0, 1, 2, 3, 4, 5] rfl ?_
                  first
                    | (rw [em]; exact ih (arg k) (x :: tl) I' (by omega) (by omega) hst hall hsl hfr h)
                    | exact ih (k + 1) tl I' (by omega) (by omega) (by omega) (fun q hq => hall q (by simp [hq])) hsl.2 hfr h
              rcases h9 with h9 | h9
              · have e0 : itC (op k) = 12 := by rw [h9]; rfl
                rw [e0] at g4
                refine V_iload (pc := 12) dX6_reckon_12 rfl ?_
                refine V_aload_n (pc := 14) dX6_reckon_14 rfl ?_
                refine V_getR (pc := 15) 7 4 dX6_reckon_15 flX6_15 (by decide) h7.o h7.R4 ?_
                refine V_alen (pc := 18) dX6_reckon_18 h7.A4 (by decide) ?_
                refine V_icmp_geN (pc := 19) (tgt := 292) dX6_reckon_19 (by decide) (by omega) (by omega) (fun c19 => absurd c19 (by omega)) (fun n19 => ?_)
                refine V_aload_n (pc := 22) dX6_reckon_22 rfl ?_
                refine V_getR (pc := 23) 7 4 dX6_reckon_23 flX6_15 (by decide) h7.o h7.R4 ?_
                refine V_iload (pc := 26) dX6_reckon_26 rfl ?_
                refine V_ialoadE (pc := 28) dX6_reckon_28 h7.A4 (by first | decide | omega) (by omega) (g4) ?_
                refine V_istore (pc := 29) (ls' := [(0, _), (1, _), (2, _), (3, _), (4, _), (5, _), (6, _)]) dX6_reckon_29 (by decide) rfl ?_
                refine V_aload_n (pc := 31) dX6_reckon_31 rfl ?_
                refine V_getR (pc := 32) 7 5 dX6_reckon_32 flX6_20 (by decide) h7.o h7.R5 ?_
                refine V_iload (pc := 35) dX6_reckon_35 rfl ?_
                refine V_ialoadE (pc := 37) dX6_reckon_37 h7.A5 (by first | decide | omega) (by omega) (g5) ?_
                refine V_istore (pc := 38) (ls' := [(0, _), (1, _), (2, _), (3, _), (4, _), (5, _), (6, _), (7, _)]) dX6_reckon_38 (by decide) rfl ?_
                refine V_iload (pc := 40) dX6_reckon_40 rfl ?_
                refine V_if_neN (pc := 42) (tgt := 63) dX6_reckon_42 (by decide) (by omega) (fun c42 => ?_) (fun n42 => absurd n42 (by omega))
                refine V_iload (pc := 63) dX6_reckon_63 rfl ?_
                refine V_iconst (pc := 65) (v := nI 1) dX6_reckon_65 (by decide) ?_
                refine V_icmp_eqN (pc := 66) (tgt := 75) dX6_reckon_66 (by decide) (by omega) (by omega) (fun c66 => absurd c66 (by omega)) (fun n66 => ?_)
                refine V_iload (pc := 69) dX6_reckon_69 rfl ?_
                refine V_iconst (pc := 71) (v := nI 2) dX6_reckon_71 (by decide) ?_
                refine V_icmp_neN (pc := 72) (tgt := 134) dX6_reckon_72 (by decide) (by omega) (by omega) (fun c72 => ?_) (fun n72 => absurd n72 (by omega))
                refine V_iload (pc := 134) dX6_reckon_134 rfl ?_
                refine V_bipush (pc := 136) (v := nI 11) dX6_reckon_136 (by decide) ?_
                refine V_icmp_ltN (pc := 138) (tgt := 224) dX6_reckon_138 (by decide) (by omega) (by omega) (fun c138 => absurd c138 (by omega)) (fun n138 => ?_)
                refine V_iload (pc := 141) dX6_reckon_141 rfl ?_
                refine V_iconst (pc := 143) (v := nI 1) dX6_reckon_143 (by decide) ?_
                refine V_icmp_geN (pc := 144) (tgt := 150) dX6_reckon_144 (by decide) (by omega) (by omega) (fun c144 => ?_) (fun n144 => absurd n144 (by omega))
                refine V_iload (pc := 150) dX6_reckon_150 rfl ?_
                refine V_bipush (pc := 152) (v := nI 11) dX6_reckon_152 (by decide) ?_
                refine V_icmp_neN (pc := 154) (tgt := 180) dX6_reckon_154 (by decide) (by omega) (by omega) (fun c154 => ?_) (fun n154 => absurd n154 (by omega))
                refine V_aload_n (pc := 180) dX6_reckon_180 rfl ?_
                refine V_getR (pc := 181) 6 0 dX6_reckon_181 flX6_11 (by decide) h6.o h6.R0 ?_
                refine V_iload (pc := 184) dX6_reckon_184 rfl ?_
                refine V_iconst (pc := 186) (v := nI 1) dX6_reckon_186 (by decide) ?_
                refine V_isubN (pc := 187) dX6_reckon_187 (by omega) ?_
                refine V_ialoadE (pc := 188) dX6_reckon_188 h6.A0 (by first | decide | omega) (by omega) (g1) ?_
                refine V_iload (pc := 189) dX6_reckon_189 rfl ?_
                refine V_bipush (pc := 191) (v := nI 13) dX6_reckon_191 (by decide) ?_
                refine V_icmp_neN (pc := 193) (tgt := 200) dX6_reckon_193 (by decide) (by omega) (by omega) (fun c193 => ?_) (fun n193 => absurd n193 (by omega))
                refine V_iconst (pc := 200) (v := nI 0) dX6_reckon_200 (by decide) ?_
                exact fin 0 (by rw [if_pos h9]) ⟨by decide, by decide⟩ _
              · have e0 : itC (op k) = 13 := by rw [h9]; rfl
                rw [e0] at g4
                refine V_iload (pc := 12) dX6_reckon_12 rfl ?_
                refine V_aload_n (pc := 14) dX6_reckon_14 rfl ?_
                refine V_getR (pc := 15) 7 4 dX6_reckon_15 flX6_15 (by decide) h7.o h7.R4 ?_
                refine V_alen (pc := 18) dX6_reckon_18 h7.A4 (by decide) ?_
                refine V_icmp_geN (pc := 19) (tgt := 292) dX6_reckon_19 (by decide) (by omega) (by omega) (fun c19 => absurd c19 (by omega)) (fun n19 => ?_)
                refine V_aload_n (pc := 22) dX6_reckon_22 rfl ?_
                refine V_getR (pc := 23) 7 4 dX6_reckon_23 flX6_15 (by decide) h7.o h7.R4 ?_
                refine V_iload (pc := 26) dX6_reckon_26 rfl ?_
                refine V_ialoadE (pc := 28) dX6_reckon_28 h7.A4 (by first | decide | omega) (by omega) (g4) ?_
                refine V_istore (pc := 29) (ls' := [(0, _), (1, _), (2, _), (3, _), (4, _), (5, _), (6, _)]) dX6_reckon_29 (by decide) rfl ?_
                refine V_aload_n (pc := 31) dX6_reckon_31 rfl ?_
                refine V_getR (pc := 32) 7 5 dX6_reckon_32 flX6_20 (by decide) h7.o h7.R5 ?_
                refine V_iload (pc := 35) dX6_reckon_35 rfl ?_
                refine V_ialoadE (pc := 37) dX6_reckon_37 h7.A5 (by first | decide | omega) (by omega) (g5) ?_
                refine V_istore (pc := 38) (ls' := [(0, _), (1, _), (2, _), (3, _), (4, _), (5, _), (6, _), (7, _)]) dX6_reckon_38 (by decide) rfl ?_
                refine V_iload (pc := 40) dX6_reckon_40 rfl ?_
                refine V_if_neN (pc := 42) (tgt := 63) dX6_reckon_42 (by decide) (by omega) (fun c42 => ?_) (fun n42 => absurd n42 (by omega))
                refine V_iload (pc := 63) dX6_reckon_63 rfl ?_
                refine V_iconst (pc := 65) (v := nI 1) dX6_reckon_65 (by decide) ?_
                refine V_icmp_eqN (pc := 66) (tgt := 75) dX6_reckon_66 (by decide) (by omega) (by omega) (fun c66 => absurd c66 (by omega)) (fun n66 => ?_)
                refine V_iload (pc := 69) dX6_reckon_69 rfl ?_
                refine V_iconst (pc := 71) (v := nI 2) dX6_reckon_71 (by decide) ?_
                refine V_icmp_neN (pc := 72) (tgt := 134) dX6_reckon_72 (by decide) (by omega) (by omega) (fun c72 => ?_) (fun n72 => absurd n72 (by omega))
                refine V_iload (pc := 134) dX6_reckon_134 rfl ?_
                refine V_bipush (pc := 136) (v := nI 11) dX6_reckon_136 (by decide) ?_
                refine V_icmp_ltN (pc := 138) (tgt := 224) dX6_reckon_138 (by decide) (by omega) (by omega) (fun c138 => absurd c138 (by omega)) (fun n138 => ?_)
                refine V_iload (pc := 141) dX6_reckon_141 rfl ?_
                refine V_iconst (pc := 143) (v := nI 1) dX6_reckon_143 (by decide) ?_
                refine V_icmp_geN (pc := 144) (tgt := 150) dX6_reckon_144 (by decide) (by omega) (by omega) (fun c144 => ?_) (fun n144 => absurd n144 (by omega))
                refine V_iload (pc := 150) dX6_reckon_150 rfl ?_
                refine V_bipush (pc := 152) (v := nI 11) dX6_reckon_152 (by decide) ?_
                refine V_icmp_neN (pc := 154) (tgt := 180) dX6_reckon_154 (by decide) (by omega) (by omega) (fun c154 => ?_) (fun n154 => absurd n154 (by omega))
                refine V_aload_n (pc := 180) dX6_reckon_180 rfl ?_
                refine V_getR (pc := 181) 6 0 dX6_reckon_181 flX6_11 (by decide) h6.o h6.R0 ?_
                refine V_iload (pc := 184) dX6_reckon_184 rfl ?_
                refine V_iconst (pc := 186) (v := nI 1) dX6_reckon_186 (by decide) ?_
                refine V_isubN (pc := 187) dX6_reckon_187 (by omega) ?_
                refine V_ialoadE (pc := 188) dX6_reckon_188 h6.A0 (by first | decide | omega) (by omega) (g1) ?_
                refine V_iload (pc := 189) dX6_reckon_189 rfl ?_
                refine V_bipush (pc := 191) (v := nI 13) dX6_reckon_191 (by decide) ?_
                refine V_icmp_neN (pc := 193) (tgt := 200) dX6_reckon_193 (by decide) (by omega) (by omega) (fun c193 => absurd c193 (by omega)) (fun n193 => ?_)
                refine V_iconst (pc := 196) (v := nI 1) dX6_reckon_196 (by decide) ?_
                refine V_goto (pc := 197) (tgt := 201) dX6_reckon_197 (by decide) ?_
                exact fin 1 (by rw [if_neg (by omega)]) ⟨by decide, by decide⟩ _
            | [], h, _, _, _ => cases h
/-- the class's worth of what begins at s and stops at e -/
theorem c_X6_reckon (h6 : Lay6 E S t) (h7 : Lay7 E S a n m) (hw : isA E S wa 0 24) (hm : m ≤ 448) (hat : a + 4 ≠ t + 1 ∧ a + 5 ≠ t + 1 ∧ wa ≠ t + 1) (hI : ItM I a m op arg) (hwo : wok w) (hwd : ∀ k, k < m → op k = 1 → I wa (arg k) = Int32.ofInt (w (arg k))) {s e fuel : Nat} (hse : s ≤ e) (he : e < m) (hs : op e = 31) (hin : ∀ k, s ≤ k → k < e → op k ≠ 31 ∧ ((op k = 29 ∨ op k = 30) → k < arg k ∧ arg k ≤ e)) {res : Option Int} (hev : evM op arg (lfC w) e fuel s [] = some res) : C E kX6_reckon 1 0 0 [.ref t, .ref a, .int (nI s), .ref wa] S I L (fun r S' I' L' => r = some (.int (rI res)) ∧ S = S' ∧ L = L' ∧ ∀ x, x ≠ t + 1 → I' x = I x) := by
  refine C_of (by decide) (Nat.le_of_ble_eq_true rfl) ?_
  refine V_iload_n (pc := 0) dX6_reckon_0 rfl ?_
  refine V_if_geN (pc := 1) (tgt := 6) dX6_reckon_1 (by decide) (by omega) ?_
  refine V_iconst (pc := 6) (v := nI 0) dX6_reckon_6 (by decide) ?_
  refine V_istore (pc := 7) (ls' := [(0, _), (1, _), (2, _), (3, _), (4, _)]) dX6_reckon_7 (by decide) rfl ?_
  refine V_iload_n (pc := 9) dX6_reckon_9 rfl ?_
  refine V_istore (pc := 10) (ls' := [(0, _), (1, _), (2, _), (3, _), (4, _), (5, _)]) dX6_reckon_10 (by decide) rfl ?_
  exact lp_reckonC h6 h7 hw hm hat hI hwo hwd he hs hin res fuel s [] I [] (Nat.le_refl s) hse (by simp) (fun a ha => by cases ha) trivial (fun _ _ => rfl) hev
theorem c_X6_reckon_n (h6 : Lay6 E S t) : Cd E kX6_reckon 1 0 0 [.ref t, .ref a, .int (-1), .ref wa] S I L (.int (nI 1)) S I L := by
  refine C_of (by decide) (Nat.le_of_ble_eq_true rfl) ?_
  refine V_iload_n (pc := 0) dX6_reckon_0 rfl ?_
  refine V_if_ge (pc := 1) (tgt := 6) dX6_reckon_1 (by decide) (fun c1 => absurd c1 (by decide)) (fun n1 => ?_)
  refine V_iconst (pc := 4) (v := nI 1) dX6_reckon_4 (by decide) ?_
  refine V_iret (pc := 5) dX6_reckon_5 rfl (by first | decide | omega) (by first | decide | omega) ?_
  exact ⟨rfl, rfl, rfl, rfl⟩
end CC
