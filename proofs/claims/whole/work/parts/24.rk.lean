/-! LAWS: the reference's evaluator. The outer none: the code isn't one; the inner none: broken -/
def evM (op arg : Nat → Nat) (lf : Nat → Nat → Int) (last : Nat) : Nat → Nat → List Int → Option (Option Int)
  | 0, _, _ => none
  | n + 1, k, st =>
    if last ≤ k then (match st with | [v] => some (some v) | _ => none)
    else if op k < 20 then (if st.length < 60 then evM op arg lf last n (k + 1) (lf (op k) (arg k) :: st) else none)
    else if op k < 28 then (match st with | b :: a :: t => (match calc3 (op k) a b with | none => some none | some x => evM op arg lf last n (k + 1) (x :: t)) | _ => none)
    else if op k = 28 then (match st with | a :: t => if a = 0 ∨ a = 1 then evM op arg lf last n (k + 1) ((1 - a) :: t) else none | _ => none)
    else (match st with | a :: t => if a = (if op k = 29 then 0 else 1) then evM op arg lf last n (arg k) (a :: t) else evM op arg lf last n (k + 1) t | _ => none)
theorem evM_s (op arg : Nat → Nat) (lf : Nat → Nat → Int) (last n k : Nat) (st : List Int) : evM op arg lf last (n + 1) k st = (
    if last ≤ k then (match st with | [v] => some (some v) | _ => none)
    else if op k < 20 then (if st.length < 60 then evM op arg lf last n (k + 1) (lf (op k) (arg k) :: st) else none)
    else if op k < 28 then (match st with | b :: a :: t => (match calc3 (op k) a b with | none => some none | some x => evM op arg lf last n (k + 1) (x :: t)) | _ => none)
    else if op k = 28 then (match st with | a :: t => if a = 0 ∨ a = 1 then evM op arg lf last n (k + 1) ((1 - a) :: t) else none | _ => none)
    else (match st with | a :: t => if a = (if op k = 29 then 0 else 1) then evM op arg lf last n (arg k) (a :: t) else evM op arg lf last n (k + 1) t | _ => none)) := rfl
theorem evM_0 (op arg : Nat → Nat) (lf : Nat → Nat → Int) (last k : Nat) (st : List Int) : evM op arg lf last 0 k st = none := rfl
def StL (f : Nat → Int64) : List Int → Prop | [] => True | a :: t => f t.length = i64 a ∧ StL f t
theorem StL_up {L : LT} {a i : Nat} {v : Int64} : ∀ {st : List Int}, StL (L a) st → st.length ≤ i → StL (up2 L a i v a) st
  | [], _, _ => trivial
  | x :: t, h, hi => ⟨by rw [up2_nej (by simp at hi; omega)]; exact h.1, StL_up h.2 (by simp at hi; omega)⟩
def AllS (st : List Int) : Prop := ∀ a ∈ st, sml a
/-- all but the rest's row, and the number kept as value -/
def RkL (o : Nat) (L' L : LT) : Prop := (∀ a, a ≠ o + 20 → a ≠ o → L' a = L a) ∧ ∀ i, i ≠ 39 → L' o i = L o i
theorem RkL.rf {o : Nat} {L : LT} : RkL o L L := ⟨fun _ _ _ => rfl, fun _ _ => rfl⟩
theorem RkL.up {o i : Nat} {L' L : LT} {v : Int64} (h : RkL o L' L) : RkL o (up2 L' (o + 20) i v) L := ⟨fun a h1 h2 => by rw [up2_row h1]; exact h.1 a h1 h2, fun j hj => by rw [up2_ne (by omega)]; exact h.2 j hj⟩
theorem RkL.val {o : Nat} {L' L : LT} {v : Int64} (h : RkL o L' L) : RkL o (up2 L' o 39 v) L := ⟨fun a h1 h2 => by rw [up2_row h2]; exact h.1 a h1 h2, fun j hj => by rw [up2_nej hj]; exact h.2 j hj⟩
def QRk (E : EnT) (o : Nat) (S : ST) (I : IT) (L : LT) (res : Option Int) : QT := QM E (fun r S' I' L' => r = none ∧ S = S' ∧ I' = up2 I o 38 (b2i res.isNone) ∧ RkL o L' L ∧ ∀ v, res = some v → L' o 39 = i64 v) 0 0
section MD
variable {E : EnT} {S : ST} {I : IT} {L : LT} {o : Nat} {q : Nat → Nat}
theorem up2_up2 {α : Type} (f : Nat → Nat → α) (a i : Nat) (v w : α) : up2 (up2 f a i v) a i w = up2 f a i w := by
  funext x j
  unfold up2
  split
  · split <;> rfl
  · rfl
theorem nI_pred' {n : Nat} (h : 0 < n) : nI n + Int32.ofInt (-1) = nI (n - 1) := by
  have e : n = (n - 1) + 1 := by omega
  rw [e, show Int32.ofInt (-1) = (-1) from rfl, pk_m1]
  rfl
/-- the end: the value -/
theorem rk_end (h12 : Lay12 E S o) {L' : LT} {n : Nat} {res : Option Int} {a1 a2 a4 : Int32} (hL : RkL o L' L) (hn : n < 400) (hv : ∀ v, res = some v → 0 < n ∧ L' (o + 20) 0 = i64 v) :
    V E kX12_reckonAll (rmOf 3 0 0) (QRk E o S I L res) 0 0 S (up2 I o 38 (b2i res.isNone)) L' 347 [(0, .ref o), (1, .int a1), (2, .int a2), (3, .int (nI n)), (4, .int a4)] [] := by
  refine V_aload_n (pc := 347) dX12_reckonAll_347 rfl ?_
  refine V_iload_n (pc := 348) dX12_reckonAll_348 rfl ?_
  refine V_if_leN (pc := 349) (tgt := 361) dX12_reckonAll_349 (by decide) (by omega) (fun c349 => ?_) (fun n349 => ?_)
  · skip
    refine V_lconst (pc := 361) (v := lN 0) dX12_reckonAll_361 (by decide) ?_
    refine V_putL (pc := 362) 12 39 dX12_reckonAll_362 flX12_438 (by decide) (by decide) (Or.inl rfl) rfl rfl h12.o ?_
    refine V_vret (pc := 365) dX12_reckonAll_365 rfl (by first | decide | omega) (by first | decide | omega) ?_
    first | exact ⟨rfl, rfl, rfl, hL.val, fun v hr => by rw [up2_self]; exact (hv v hr).2⟩ | exact ⟨rfl, rfl, rfl, hL.val, fun v hr => absurd (hv v hr).1 (by omega)⟩
  · skip
    refine V_aload_n (pc := 352) dX12_reckonAll_352 rfl ?_
    refine V_getR (pc := 353) 12 37 dX12_reckonAll_353 flX12_107 (by decide) h12.o h12.R37 ?_
    refine V_iconst (pc := 356) (v := nI 0) dX12_reckonAll_356 (by decide) ?_
    refine V_laload (pc := 357) dX12_reckonAll_357 h12.A37 (by first | decide | omega) (by omega) ?_
    refine V_goto (pc := 358) (tgt := 362) dX12_reckonAll_358 (by decide) ?_
    refine V_putL (pc := 362) 12 39 dX12_reckonAll_362 flX12_438 (by decide) (by decide) (Or.inl rfl) rfl rfl h12.o ?_
    refine V_vret (pc := 365) dX12_reckonAll_365 rfl (by first | decide | omega) (by first | decide | omega) ?_
    first | exact ⟨rfl, rfl, rfl, hL.val, fun v hr => by rw [up2_self]; exact (hv v hr).2⟩ | exact ⟨rfl, rfl, rfl, hL.val, fun v hr => absurd (hv v hr).1 (by omega)⟩
theorem rk_brk (h12 : Lay12 E S o) {L' : LT} {n last k : Nat} {a1 : Int32} (hL : RkL o L' L) (hn : n < 400) (hk : k ≤ 1000) (hlast : last ≤ 400) :
    V E kX12_reckonAll (rmOf 3 0 0) (QRk E o S I L none) 0 0 S (up2 I o 38 (nI 1)) L' 10 [(0, .ref o), (1, .int a1), (2, .int (nI last)), (3, .int (nI n)), (4, .int (nI k))] [] := by
  have gb : up2 I o 38 (nI 1) o 38 = nI 1 := up2_self
  refine V_iload (pc := 10) dX12_reckonAll_10 rfl ?_
  refine V_iload_n (pc := 12) dX12_reckonAll_12 rfl ?_
  refine V_icmp_geN (pc := 13) (tgt := 347) dX12_reckonAll_13 (by decide) (by omega) (by omega) (fun c13 => ?_) (fun n13 => ?_)
  · skip
    exact rk_end h12 hL hn (fun v hv => by cases hv)
  · skip
    refine V_aload_n (pc := 16) dX12_reckonAll_16 rfl ?_
    refine V_getIE (pc := 17) 12 38 dX12_reckonAll_17 flX12_424 (by decide) h12.o (gb) ?_
    refine V_if_neN (pc := 20) (tgt := 347) dX12_reckonAll_20 (by decide) (by omega) (fun c20 => ?_) (fun n20 => absurd n20 (by omega))
    exact rk_end h12 hL hn (fun v hv => by cases hv)
theorem in9 {x : Int} (h : -1000000000000000000 ≤ x ∧ x ≤ 1000000000000000000) : decide ((-1000000000 : Int64) ≤ i64 x ∧ i64 x ≤ 1000000000) = rngd x := by
  unfold rngd
  apply decide_eq_decide.mpr
  rw [Int64.le_iff_toInt_le, Int64.le_iff_toInt_le, i64_toInt (by omega) (by omega)]
  rw [show (-1000000000 : Int64).toInt = -1000000000 from by decide, show (1000000000 : Int64).toInt = 1000000000 from by decide]
theorem calc2_big {op : Nat} {a b x : Int} (ha : sml a) (hb : sml b) (h : calc2 op a b = some x) : -1000000000000000000 ≤ x ∧ x ≤ 1000000000000000000 := by
  have h1 := ha.1; have h2 := ha.2; have h3 := hb.1; have h4 := hb.2
  have hm := mul_big ha hb
  have hd := tdiv_sml (b := b) ha
  have d1 := hd.1; have d2 := hd.2
  unfold calc2 at h
  split at h
  · cases h; omega
  split at h
  · cases h; omega
  split at h
  · cases h; exact hm
  split at h
  · split at h
    · cases h
    · cases h; omega
  split at h
  · split at h
    · cases h
    · cases h
      have e := Int.tmod_add_mul_tdiv a b
      have hb0 : b ≠ 0 := by assumption
      have hmod : (a.tmod b).natAbs ≤ a.natAbs := by rw [Int.natAbs_tmod]; exact Nat.mod_le _ _
      omega
  split at h
  · cases h; split <;> omega
  split at h
  · cases h; split <;> omega
  · cases h; split <;> omega
theorem rngd_sml {x : Int} (h : rngd x = true) : sml x := by
  have h2 : -1000000000 ≤ x ∧ x ≤ 1000000000 := of_decide_eq_true h
  exact h2
theorem c_X12_in9 {x : Int} (h : -1000000000000000000 ≤ x ∧ x ≤ 1000000000000000000) : Cd E kX12_in 0 0 0 [.long (i64 x), .long (-1000000000), .long 1000000000] S I L (.int (b2i (rngd x))) S I L := by
  rw [← in9 h]
  exact c_X12_in
theorem lp_reckonAll (h12 : Lay12 E S o) (hr : RowM I (o + 2) q) {lb last : Nat} {op arg : Nat → Nat} {w : Nat → Int} (hord : I o 20 = nI 0) (hlaw : I o 34 = nI lb) (hlb : lb + 900 ≤ 5516) (hlast : last ≤ 400)
    (hop : ∀ k, k < last → I (o + 2) (lb + 98 + 2 * k) = nI (op k) ∧ op k < 31 ∧ (op k < 20 → op k < 10) ∧ I (o + 2) (lb + 98 + 2 * k + 1) = nI (arg k) ∧ arg k ≤ 1000) (hw : ∀ j, 0 < j → j < 10 → L (o + 18) j = i64 (w j) ∧ sml (w j)) (res : Option Int) {a1 : Int32} :
    ∀ (fuel k : Nat) (st : List Int) (L' : LT), k ≤ 1000 → st.length ≤ 60 → AllS st → StL (L' (o + 20)) st → RkL o L' L → evM op arg (fun p a => if p = 0 then (a : Int) else w p) last fuel k st = some res →
      V E kX12_reckonAll (rmOf 3 0 0) (QRk E o S I L res) 0 0 S (up2 I o 38 (nI 0)) L' 10 [(0, .ref o), (1, .int a1), (2, .int (nI last)), (3, .int (nI st.length)), (4, .int (nI k))] [] := by
  intro fuel
  induction fuel with
  | zero => intro k st L' _ _ _ _ _ h; rw [evM_0] at h; cases h
  | succ n ih =>
    intro k st L' hk hst hall hsl hL h
    rw [evM_s] at h
    have gb : up2 I o 38 (nI 0) o 38 = nI 0 := up2_self
    have go : up2 I o 38 (nI 0) o 20 = nI 0 := by rw [up2_nej (by omega)]; exact hord
    have gl : up2 I o 38 (nI 0) o 34 = nI lb := by rw [up2_nej (by omega)]; exact hlaw
    have gr : up2 I o 38 (nI 0) (o + 2) = I (o + 2) := up2_row (by omega)
    by_cases hlk : last ≤ k
    · rw [if_pos hlk] at h
      obtain ⟨v, rfl, hres⟩ : ∃ v, st = [v] ∧ res = some v := by
        cases st with
        | nil => cases h
        | cons v t =>
          cases t with
          | nil => exact ⟨v, rfl, (Option.some.inj h).symm⟩
          | cons x t => cases h
      subst hres
      refine V_iload (pc := 10) dX12_reckonAll_10 rfl ?_
      refine V_iload_n (pc := 12) dX12_reckonAll_12 rfl ?_
      refine V_icmp_geN (pc := 13) (tgt := 347) dX12_reckonAll_13 (by decide) (by omega) (by omega) (fun c13 => ?_) (fun n13 => absurd n13 (by omega))
      exact rk_end h12 hL (by simp) (fun z hz => ⟨by simp, by cases hz; exact hsl.1⟩)
    · rw [if_neg hlk] at h
      obtain ⟨ho1, ho2, ho3, ho4, ho5⟩ := hop k (by omega)
      by_cases h20 : op k < 20
      · rw [if_pos h20] at h
        by_cases hl60 : st.length < 60
        · rw [if_pos hl60] at h
          have h10 := ho3 h20
          by_cases hz : op k = 0
          · rw [if_pos hz] at h
            refine V_iload (pc := 10) dX12_reckonAll_10 rfl ?_
            refine V_iload_n (pc := 12) dX12_reckonAll_12 rfl ?_
            refine V_icmp_geN (pc := 13) (tgt := 347) dX12_reckonAll_13 (by decide) (by omega) (by omega) (fun c13 => absurd c13 (by omega)) (fun n13 => ?_)
            refine V_aload_n (pc := 16) dX12_reckonAll_16 rfl ?_
            refine V_getIE (pc := 17) 12 38 dX12_reckonAll_17 flX12_424 (by decide) h12.o (gb) ?_
            refine V_if_neN (pc := 20) (tgt := 347) dX12_reckonAll_20 (by decide) (by omega) (fun c20 => absurd c20 (by omega)) (fun n20 => ?_)
            refine V_aload_n (pc := 23) dX12_reckonAll_23 rfl ?_
            refine V_getIE (pc := 24) 12 20 dX12_reckonAll_24 flX12_350 (by decide) h12.o (go) ?_
            refine V_if_eqN (pc := 27) (tgt := 40) dX12_reckonAll_27 (by decide) (by omega) (fun c27 => ?_) (fun n27 => absurd n27 (by omega))
            refine V_aload_n (pc := 40) dX12_reckonAll_40 rfl ?_
            refine V_getR (pc := 41) 12 3 dX12_reckonAll_41 flX12_13 (by decide) h12.o h12.R3 ?_
            refine V_aload_n (pc := 44) dX12_reckonAll_44 rfl ?_
            refine V_getIE (pc := 45) 12 34 dX12_reckonAll_45 flX12_427 (by decide) h12.o (gl) ?_
            refine V_bipush (pc := 48) (v := nI 98) dX12_reckonAll_48 (by decide) ?_
            refine V_iaddN (pc := 50) dX12_reckonAll_50 ?_
            refine V_iconst (pc := 51) (v := nI 2) dX12_reckonAll_51 (by decide) ?_
            refine V_iload (pc := 52) dX12_reckonAll_52 rfl ?_
            refine V_imulN (pc := 54) dX12_reckonAll_54 ?_
            refine V_iaddN (pc := 55) dX12_reckonAll_55 ?_
            refine V_ialoadE (pc := 56) dX12_reckonAll_56 h12.A3 (by first | decide | omega) (by omega) ((congrFun gr _).trans ho1) ?_
            refine V_istore (pc := 57) (ls' := [(0, _), (1, _), (2, _), (3, _), (4, _), (5, _)]) dX12_reckonAll_57 (by decide) rfl ?_
            refine V_aload_n (pc := 59) dX12_reckonAll_59 rfl ?_
            refine V_getIE (pc := 60) 12 20 dX12_reckonAll_60 flX12_350 (by decide) h12.o (go) ?_
            refine V_if_eqN (pc := 63) (tgt := 76) dX12_reckonAll_63 (by decide) (by omega) (fun c63 => ?_) (fun n63 => absurd n63 (by omega))
            refine V_aload_n (pc := 76) dX12_reckonAll_76 rfl ?_
            refine V_getR (pc := 77) 12 3 dX12_reckonAll_77 flX12_13 (by decide) h12.o h12.R3 ?_
            refine V_aload_n (pc := 80) dX12_reckonAll_80 rfl ?_
            refine V_getIE (pc := 81) 12 34 dX12_reckonAll_81 flX12_427 (by decide) h12.o (gl) ?_
            refine V_bipush (pc := 84) (v := nI 98) dX12_reckonAll_84 (by decide) ?_
            refine V_iaddN (pc := 86) dX12_reckonAll_86 ?_
            refine V_iconst (pc := 87) (v := nI 2) dX12_reckonAll_87 (by decide) ?_
            refine V_iload (pc := 88) dX12_reckonAll_88 rfl ?_
            refine V_imulN (pc := 90) dX12_reckonAll_90 ?_
            refine V_iaddN (pc := 91) dX12_reckonAll_91 ?_
            refine V_iconst (pc := 92) (v := nI 1) dX12_reckonAll_92 (by decide) ?_
            refine V_iaddN (pc := 93) dX12_reckonAll_93 ?_
            refine V_ialoadE (pc := 94) dX12_reckonAll_94 h12.A3 (by first | decide | omega) (by omega) ((congrFun gr _).trans ho4) ?_
            refine V_istore (pc := 95) (ls' := [(0, _), (1, _), (2, _), (3, _), (4, _), (5, _), (6, _)]) dX12_reckonAll_95 (by decide) rfl ?_
            refine V_iinc1 (pc := 97) (ls' := [(0, _), (1, _), (2, _), (3, _), (4, _), (5, _), (6, _)]) dX12_reckonAll_97 rfl (by decide) rfl ?_
            refine V_iload (pc := 100) dX12_reckonAll_100 rfl ?_
            refine V_bipush (pc := 102) (v := nI 20) dX12_reckonAll_102 (by decide) ?_
            refine V_icmp_geN (pc := 104) (tgt := 205) dX12_reckonAll_104 (by decide) (by omega) (by omega) (fun c104 => absurd c104 (by omega)) (fun n104 => ?_)
            refine V_aload_n (pc := 107) dX12_reckonAll_107 rfl ?_
            refine V_getR (pc := 108) 12 37 dX12_reckonAll_108 flX12_107 (by decide) h12.o h12.R37 ?_
            refine V_iload_n (pc := 111) dX12_reckonAll_111 rfl ?_
            refine V_iload (pc := 112) dX12_reckonAll_112 rfl ?_
            refine V_if_neN (pc := 114) (tgt := 123) dX12_reckonAll_114 (by decide) (by omega) (fun c114 => absurd c114 (by omega)) (fun n114 => ?_)
            refine V_iload (pc := 117) dX12_reckonAll_117 rfl ?_
            refine V_i2lN (pc := 119) dX12_reckonAll_119 (by omega) ?_
            refine V_goto (pc := 120) (tgt := 198) dX12_reckonAll_120 (by decide) ?_
            refine V_lastore (pc := 198) dX12_reckonAll_198 h12.A37 (by first | decide | omega) (by omega) ?_
            refine V_iinc1 (pc := 199) (ls' := [(0, _), (1, _), (2, _), (3, _), (4, _), (5, _), (6, _)]) dX12_reckonAll_199 rfl (by decide) rfl ?_
            refine V_goto (pc := 202) (tgt := 344) dX12_reckonAll_202 (by decide) ?_
            refine V_goto (pc := 344) (tgt := 10) dX12_reckonAll_344 (by decide) ?_
            rw [i64_lN]
            refine V_loc [0, 1, 2, 3, 4] rfl ?_
            exact ih (k + 1) (_ :: st) _ (by omega) (by simp; omega) (fun a ha => (List.mem_cons.mp ha).elim (fun e => by rw [e]; unfold sml; omega) (hall a)) ⟨up2_self, StL_up hsl (Nat.le_refl _)⟩ hL.up h
          · rw [if_neg hz] at h
            have hw1 := hw (op k) (by omega) h10
            refine V_iload (pc := 10) dX12_reckonAll_10 rfl ?_
            refine V_iload_n (pc := 12) dX12_reckonAll_12 rfl ?_
            refine V_icmp_geN (pc := 13) (tgt := 347) dX12_reckonAll_13 (by decide) (by omega) (by omega) (fun c13 => absurd c13 (by omega)) (fun n13 => ?_)
            refine V_aload_n (pc := 16) dX12_reckonAll_16 rfl ?_
            refine V_getIE (pc := 17) 12 38 dX12_reckonAll_17 flX12_424 (by decide) h12.o (gb) ?_
            refine V_if_neN (pc := 20) (tgt := 347) dX12_reckonAll_20 (by decide) (by omega) (fun c20 => absurd c20 (by omega)) (fun n20 => ?_)
            refine V_aload_n (pc := 23) dX12_reckonAll_23 rfl ?_
            refine V_getIE (pc := 24) 12 20 dX12_reckonAll_24 flX12_350 (by decide) h12.o (go) ?_
            refine V_if_eqN (pc := 27) (tgt := 40) dX12_reckonAll_27 (by decide) (by omega) (fun c27 => ?_) (fun n27 => absurd n27 (by omega))
            refine V_aload_n (pc := 40) dX12_reckonAll_40 rfl ?_
            refine V_getR (pc := 41) 12 3 dX12_reckonAll_41 flX12_13 (by decide) h12.o h12.R3 ?_
            refine V_aload_n (pc := 44) dX12_reckonAll_44 rfl ?_
            refine V_getIE (pc := 45) 12 34 dX12_reckonAll_45 flX12_427 (by decide) h12.o (gl) ?_
            refine V_bipush (pc := 48) (v := nI 98) dX12_reckonAll_48 (by decide) ?_
            refine V_iaddN (pc := 50) dX12_reckonAll_50 ?_
            refine V_iconst (pc := 51) (v := nI 2) dX12_reckonAll_51 (by decide) ?_
            refine V_iload (pc := 52) dX12_reckonAll_52 rfl ?_
            refine V_imulN (pc := 54) dX12_reckonAll_54 ?_
            refine V_iaddN (pc := 55) dX12_reckonAll_55 ?_
            refine V_ialoadE (pc := 56) dX12_reckonAll_56 h12.A3 (by first | decide | omega) (by omega) ((congrFun gr _).trans ho1) ?_
            refine V_istore (pc := 57) (ls' := [(0, _), (1, _), (2, _), (3, _), (4, _), (5, _)]) dX12_reckonAll_57 (by decide) rfl ?_
            refine V_aload_n (pc := 59) dX12_reckonAll_59 rfl ?_
            refine V_getIE (pc := 60) 12 20 dX12_reckonAll_60 flX12_350 (by decide) h12.o (go) ?_
            refine V_if_eqN (pc := 63) (tgt := 76) dX12_reckonAll_63 (by decide) (by omega) (fun c63 => ?_) (fun n63 => absurd n63 (by omega))
            refine V_aload_n (pc := 76) dX12_reckonAll_76 rfl ?_
            refine V_getR (pc := 77) 12 3 dX12_reckonAll_77 flX12_13 (by decide) h12.o h12.R3 ?_
            refine V_aload_n (pc := 80) dX12_reckonAll_80 rfl ?_
            refine V_getIE (pc := 81) 12 34 dX12_reckonAll_81 flX12_427 (by decide) h12.o (gl) ?_
            refine V_bipush (pc := 84) (v := nI 98) dX12_reckonAll_84 (by decide) ?_
            refine V_iaddN (pc := 86) dX12_reckonAll_86 ?_
            refine V_iconst (pc := 87) (v := nI 2) dX12_reckonAll_87 (by decide) ?_
            refine V_iload (pc := 88) dX12_reckonAll_88 rfl ?_
            refine V_imulN (pc := 90) dX12_reckonAll_90 ?_
            refine V_iaddN (pc := 91) dX12_reckonAll_91 ?_
            refine V_iconst (pc := 92) (v := nI 1) dX12_reckonAll_92 (by decide) ?_
            refine V_iaddN (pc := 93) dX12_reckonAll_93 ?_
            refine V_ialoadE (pc := 94) dX12_reckonAll_94 h12.A3 (by first | decide | omega) (by omega) ((congrFun gr _).trans ho4) ?_
            refine V_istore (pc := 95) (ls' := [(0, _), (1, _), (2, _), (3, _), (4, _), (5, _), (6, _)]) dX12_reckonAll_95 (by decide) rfl ?_
            refine V_iinc1 (pc := 97) (ls' := [(0, _), (1, _), (2, _), (3, _), (4, _), (5, _), (6, _)]) dX12_reckonAll_97 rfl (by decide) rfl ?_
            refine V_iload (pc := 100) dX12_reckonAll_100 rfl ?_
            refine V_bipush (pc := 102) (v := nI 20) dX12_reckonAll_102 (by decide) ?_
            refine V_icmp_geN (pc := 104) (tgt := 205) dX12_reckonAll_104 (by decide) (by omega) (by omega) (fun c104 => absurd c104 (by omega)) (fun n104 => ?_)
            refine V_aload_n (pc := 107) dX12_reckonAll_107 rfl ?_
            refine V_getR (pc := 108) 12 37 dX12_reckonAll_108 flX12_107 (by decide) h12.o h12.R37 ?_
            refine V_iload_n (pc := 111) dX12_reckonAll_111 rfl ?_
            refine V_iload (pc := 112) dX12_reckonAll_112 rfl ?_
            refine V_if_neN (pc := 114) (tgt := 123) dX12_reckonAll_114 (by decide) (by omega) (fun c114 => ?_) (fun n114 => absurd n114 (by omega))
            refine V_aload_n (pc := 123) dX12_reckonAll_123 rfl ?_
            refine V_getIE (pc := 124) 12 20 dX12_reckonAll_124 flX12_350 (by decide) h12.o (go) ?_
            refine V_if_neN (pc := 127) (tgt := 140) dX12_reckonAll_127 (by decide) (by omega) (fun c127 => absurd c127 (by omega)) (fun n127 => ?_)
            refine V_aload_n (pc := 130) dX12_reckonAll_130 rfl ?_
            refine V_getR (pc := 131) 12 35 dX12_reckonAll_131 flX12_101 (by decide) h12.o h12.R35 ?_
            refine V_iload (pc := 134) dX12_reckonAll_134 rfl ?_
            refine V_laloadE (pc := 136) dX12_reckonAll_136 h12.A35 (by first | decide | omega) (by omega) ((congrFun (hL.1 (o + 18) (by omega) (by omega)) _).trans hw1.1) ?_
            refine V_goto (pc := 137) (tgt := 198) dX12_reckonAll_137 (by decide) ?_
            refine V_lastore (pc := 198) dX12_reckonAll_198 h12.A37 (by first | decide | omega) (by omega) ?_
            refine V_iinc1 (pc := 199) (ls' := [(0, _), (1, _), (2, _), (3, _), (4, _), (5, _), (6, _)]) dX12_reckonAll_199 rfl (by decide) rfl ?_
            refine V_goto (pc := 202) (tgt := 344) dX12_reckonAll_202 (by decide) ?_
            refine V_goto (pc := 344) (tgt := 10) dX12_reckonAll_344 (by decide) ?_
            refine V_loc [0, 1, 2, 3, 4] rfl ?_
            exact ih (k + 1) (_ :: st) _ (by omega) (by simp; omega) (fun a ha => (List.mem_cons.mp ha).elim (fun e => by rw [e]; exact hw1.2) (hall a)) ⟨up2_self, StL_up hsl (Nat.le_refl _)⟩ hL.up h
        · rw [if_neg hl60] at h; cases h
      · rw [if_neg h20] at h
        by_cases h28 : op k < 28
        · rw [if_pos h28] at h
          match st, h, hst, hall, hsl with
          | b :: a :: t, h, hst, hall, hsl =>
            have sa : sml a := hall a (by simp)
            have sb : sml b := hall b (by simp)
            have g1 : L' (o + 20) t.length = i64 a := hsl.2.1
            have g2 : L' (o + 20) (t.length + 1) = i64 b := hsl.1
            have hlen : (b :: a :: t).length = t.length + 2 := rfl
            rw [hlen] at hst ⊢
            have h : (match calc3 (op k) a b with | none => some none | some x => evM op arg (fun p a => if p = 0 then (a : Int) else w p) last n (k + 1) (x :: t)) = some res := h
            refine V_iload (pc := 10) dX12_reckonAll_10 rfl ?_
            refine V_iload_n (pc := 12) dX12_reckonAll_12 rfl ?_
            refine V_icmp_geN (pc := 13) (tgt := 347) dX12_reckonAll_13 (by decide) (by omega) (by omega) (fun c13 => absurd c13 (by omega)) (fun n13 => ?_)
            refine V_aload_n (pc := 16) dX12_reckonAll_16 rfl ?_
            refine V_getIE (pc := 17) 12 38 dX12_reckonAll_17 flX12_424 (by decide) h12.o (gb) ?_
            refine V_if_neN (pc := 20) (tgt := 347) dX12_reckonAll_20 (by decide) (by omega) (fun c20 => absurd c20 (by omega)) (fun n20 => ?_)
            refine V_aload_n (pc := 23) dX12_reckonAll_23 rfl ?_
            refine V_getIE (pc := 24) 12 20 dX12_reckonAll_24 flX12_350 (by decide) h12.o (go) ?_
            refine V_if_eqN (pc := 27) (tgt := 40) dX12_reckonAll_27 (by decide) (by omega) (fun c27 => ?_) (fun n27 => absurd n27 (by omega))
            refine V_aload_n (pc := 40) dX12_reckonAll_40 rfl ?_
            refine V_getR (pc := 41) 12 3 dX12_reckonAll_41 flX12_13 (by decide) h12.o h12.R3 ?_
            refine V_aload_n (pc := 44) dX12_reckonAll_44 rfl ?_
            refine V_getIE (pc := 45) 12 34 dX12_reckonAll_45 flX12_427 (by decide) h12.o (gl) ?_
            refine V_bipush (pc := 48) (v := nI 98) dX12_reckonAll_48 (by decide) ?_
            refine V_iaddN (pc := 50) dX12_reckonAll_50 ?_
            refine V_iconst (pc := 51) (v := nI 2) dX12_reckonAll_51 (by decide) ?_
            refine V_iload (pc := 52) dX12_reckonAll_52 rfl ?_
            refine V_imulN (pc := 54) dX12_reckonAll_54 ?_
            refine V_iaddN (pc := 55) dX12_reckonAll_55 ?_
            refine V_ialoadE (pc := 56) dX12_reckonAll_56 h12.A3 (by first | decide | omega) (by omega) ((congrFun gr _).trans ho1) ?_
            refine V_istore (pc := 57) (ls' := [(0, _), (1, _), (2, _), (3, _), (4, _), (5, _)]) dX12_reckonAll_57 (by decide) rfl ?_
            refine V_aload_n (pc := 59) dX12_reckonAll_59 rfl ?_
            refine V_getIE (pc := 60) 12 20 dX12_reckonAll_60 flX12_350 (by decide) h12.o (go) ?_
            refine V_if_eqN (pc := 63) (tgt := 76) dX12_reckonAll_63 (by decide) (by omega) (fun c63 => ?_) (fun n63 => absurd n63 (by omega))
            refine V_aload_n (pc := 76) dX12_reckonAll_76 rfl ?_
            refine V_getR (pc := 77) 12 3 dX12_reckonAll_77 flX12_13 (by decide) h12.o h12.R3 ?_
            refine V_aload_n (pc := 80) dX12_reckonAll_80 rfl ?_
            refine V_getIE (pc := 81) 12 34 dX12_reckonAll_81 flX12_427 (by decide) h12.o (gl) ?_
            refine V_bipush (pc := 84) (v := nI 98) dX12_reckonAll_84 (by decide) ?_
            refine V_iaddN (pc := 86) dX12_reckonAll_86 ?_
            refine V_iconst (pc := 87) (v := nI 2) dX12_reckonAll_87 (by decide) ?_
            refine V_iload (pc := 88) dX12_reckonAll_88 rfl ?_
            refine V_imulN (pc := 90) dX12_reckonAll_90 ?_
            refine V_iaddN (pc := 91) dX12_reckonAll_91 ?_
            refine V_iconst (pc := 92) (v := nI 1) dX12_reckonAll_92 (by decide) ?_
            refine V_iaddN (pc := 93) dX12_reckonAll_93 ?_
            refine V_ialoadE (pc := 94) dX12_reckonAll_94 h12.A3 (by first | decide | omega) (by omega) ((congrFun gr _).trans ho4) ?_
            refine V_istore (pc := 95) (ls' := [(0, _), (1, _), (2, _), (3, _), (4, _), (5, _), (6, _)]) dX12_reckonAll_95 (by decide) rfl ?_
            refine V_iinc1 (pc := 97) (ls' := [(0, _), (1, _), (2, _), (3, _), (4, _), (5, _), (6, _)]) dX12_reckonAll_97 rfl (by decide) rfl ?_
            refine V_iload (pc := 100) dX12_reckonAll_100 rfl ?_
            refine V_bipush (pc := 102) (v := nI 20) dX12_reckonAll_102 (by decide) ?_
            refine V_icmp_geN (pc := 104) (tgt := 205) dX12_reckonAll_104 (by decide) (by omega) (by omega) (fun c104 => ?_) (fun n104 => absurd n104 (by omega))
            refine V_iload (pc := 205) dX12_reckonAll_205 rfl ?_
            refine V_bipush (pc := 207) (v := nI 28) dX12_reckonAll_207 (by decide) ?_
            refine V_icmp_geN (pc := 209) (tgt := 282) dX12_reckonAll_209 (by decide) (by omega) (by omega) (fun c209 => absurd c209 (by omega)) (fun n209 => ?_)
            refine V_iinc (pc := 212) (ls' := [(0, _), (1, _), (2, _), (3, _), (4, _), (5, _), (6, _)]) dX12_reckonAll_212 rfl (nI_pred' (by omega)) (by decide) rfl ?_
            refine V_aload_n (pc := 215) dX12_reckonAll_215 rfl ?_
            refine V_getR (pc := 216) 12 37 dX12_reckonAll_216 flX12_107 (by decide) h12.o h12.R37 ?_
            refine V_iload_n (pc := 219) dX12_reckonAll_219 rfl ?_
            refine V_iconst (pc := 220) (v := nI 1) dX12_reckonAll_220 (by decide) ?_
            refine V_isubN (pc := 221) dX12_reckonAll_221 (by omega) ?_
            refine V_aload_n (pc := 222) dX12_reckonAll_222 rfl ?_
            refine V_iload (pc := 223) dX12_reckonAll_223 rfl ?_
            refine V_aload_n (pc := 225) dX12_reckonAll_225 rfl ?_
            refine V_getR (pc := 226) 12 37 dX12_reckonAll_226 flX12_107 (by decide) h12.o h12.R37 ?_
            refine V_iload_n (pc := 229) dX12_reckonAll_229 rfl ?_
            refine V_iconst (pc := 230) (v := nI 1) dX12_reckonAll_230 (by decide) ?_
            refine V_isubN (pc := 231) dX12_reckonAll_231 (by omega) ?_
            refine V_laloadE (pc := 232) dX12_reckonAll_232 h12.A37 (by first | decide | omega) (by omega) (g1) ?_
            refine V_aload_n (pc := 233) dX12_reckonAll_233 rfl ?_
            refine V_getR (pc := 234) 12 37 dX12_reckonAll_234 flX12_107 (by decide) h12.o h12.R37 ?_
            refine V_iload_n (pc := 237) dX12_reckonAll_237 rfl ?_
            refine V_laloadE (pc := 238) dX12_reckonAll_238 h12.A37 (by first | decide | omega) (by omega) (g2) ?_
            refine V_callV (pc := 239) (ci := 12) (c_X12_reckon h12 (by omega) h28 sa sb gb) dX12_reckonAll_239 mlX12_430 mkX12_reckon rfl rfl h12.o ⟨by decide, rfl⟩ ⟨Nat.le_of_ble_eq_true rfl, Nat.le_of_ble_eq_true rfl⟩ (Nat.le_of_ble_eq_true rfl) ⟨Nat.le_of_ble_eq_true rfl, Nat.le_of_ble_eq_true rfl⟩ (fun r S' I' L' hp => ?_)
            obtain ⟨rfl, rfl, hcase⟩ := hp
            rcases hcase with ⟨hc1, rfl, rfl⟩ | ⟨x, hc1, rfl, rfl⟩
            skip
            · have hres : res = none := by rw [calc3, hc1] at h; exact (Option.some.inj h).symm
              subst hres
              rw [up2_up2]
              refine V_lastore (pc := 242) dX12_reckonAll_242 h12.A37 (by first | decide | omega) (by omega) ?_
              refine V_aload_n (pc := 243) dX12_reckonAll_243 rfl ?_
              refine V_aload_n (pc := 244) dX12_reckonAll_244 rfl ?_
              refine V_getIE (pc := 245) 12 38 dX12_reckonAll_245 flX12_424 (by decide) h12.o (up2_self) ?_
              refine V_if_neN (pc := 248) (tgt := 271) dX12_reckonAll_248 (by decide) (by omega) (fun c248 => ?_) (fun n248 => absurd n248 (by omega))
              refine V_iconst (pc := 271) (v := nI 1) dX12_reckonAll_271 (by decide) ?_
              refine V_goto (pc := 272) (tgt := 276) dX12_reckonAll_272 (by decide) ?_
              refine V_putI (pc := 276) 12 38 dX12_reckonAll_276 flX12_424 (by decide) (by decide) (Or.inl rfl) rfl rfl h12.o ?_
              rw [up2_up2]
              refine V_goto (pc := 279) (tgt := 344) dX12_reckonAll_279 (by decide) ?_
              refine V_goto (pc := 344) (tgt := 10) dX12_reckonAll_344 (by decide) ?_
              refine V_loc [0, 1, 2, 3, 4] rfl ?_
              exact rk_brk h12 hL.up (by omega) (by omega) hlast
            · rw [calc3, hc1] at h
              have hbig := calc2_big sa sb hc1
              refine V_lastore (pc := 242) dX12_reckonAll_242 h12.A37 (by first | decide | omega) (by omega) ?_
              refine V_aload_n (pc := 243) dX12_reckonAll_243 rfl ?_
              refine V_aload_n (pc := 244) dX12_reckonAll_244 rfl ?_
              refine V_getIE (pc := 245) 12 38 dX12_reckonAll_245 flX12_424 (by decide) h12.o (up2_self) ?_
              refine V_if_neN (pc := 248) (tgt := 271) dX12_reckonAll_248 (by decide) (by omega) (fun c248 => absurd c248 (by omega)) (fun n248 => ?_)
              refine V_aload_n (pc := 251) dX12_reckonAll_251 rfl ?_
              refine V_getR (pc := 252) 12 37 dX12_reckonAll_252 flX12_107 (by decide) h12.o h12.R37 ?_
              refine V_iload_n (pc := 255) dX12_reckonAll_255 rfl ?_
              refine V_iconst (pc := 256) (v := nI 1) dX12_reckonAll_256 (by decide) ?_
              refine V_isubN (pc := 257) dX12_reckonAll_257 (by omega) ?_
              refine V_laloadE (pc := 258) dX12_reckonAll_258 h12.A37 (by first | decide | omega) (by omega) (up2_self) ?_
              refine V_ldc2 (pc := 259) dX12_reckonAll_259 coX12_434 ?_
              refine V_ldc2 (pc := 262) dX12_reckonAll_262 coX12_436 ?_
              refine V_callSd (pc := 265) (c_X12_in9 hbig) dX12_reckonAll_265 mlX12_195 mkX12_in rfl rfl ⟨Nat.le_of_ble_eq_true rfl, Nat.le_of_ble_eq_true rfl⟩ (Nat.le_of_ble_eq_true rfl) ⟨Nat.le_of_ble_eq_true rfl, Nat.le_of_ble_eq_true rfl⟩ ?_
              refine V_if_neB (pc := 268) (tgt := 275) dX12_reckonAll_268 (by decide) (fun c268 => ?_) (fun n268 => ?_)
              · skip
                have h : evM op arg (fun p a => if p = 0 then (a : Int) else w p) last n (k + 1) (x :: t) = some res := by
                  have h2 : (match (if rngd x then some x else none) with | none => some none | some x => evM op arg (fun p a => if p = 0 then (a : Int) else w p) last n (k + 1) (x :: t)) = some res := h
                  rw [c268] at h2
                  exact h2
                refine V_iconst (pc := 275) (v := nI 0) dX12_reckonAll_275 (by decide) ?_
                refine V_putI (pc := 276) 12 38 dX12_reckonAll_276 flX12_424 (by decide) (by decide) (Or.inl rfl) rfl rfl h12.o ?_
                refine V_goto (pc := 279) (tgt := 344) dX12_reckonAll_279 (by decide) ?_
                rw [up2_up2]
                refine V_loc [0, 1, 2, 3, 4] rfl ?_
                refine V_goto (pc := 344) (tgt := 10) dX12_reckonAll_344 (by decide) ?_
                first | exact rk_brk h12 hL.up (by omega) (by omega) hlast | exact ih (k + 1) (x :: t) _ (by omega) (by simp; omega) (fun z hz => (List.mem_cons.mp hz).elim (fun e => by rw [e]; exact rngd_sml c268) (fun e => hall z (by simp [e]))) ⟨up2_self, StL_up hsl.2.2 (Nat.le_refl _)⟩ hL.up h
              · skip
                have hres : res = none := by
                  have h2 : (match (if rngd x then some x else none) with | none => some none | some x => evM op arg (fun p a => if p = 0 then (a : Int) else w p) last n (k + 1) (x :: t)) = some res := h
                  rw [n268] at h2
                  exact (Option.some.inj h2).symm
                subst hres
                refine V_iconst (pc := 271) (v := nI 1) dX12_reckonAll_271 (by decide) ?_
                refine V_goto (pc := 272) (tgt := 276) dX12_reckonAll_272 (by decide) ?_
                refine V_putI (pc := 276) 12 38 dX12_reckonAll_276 flX12_424 (by decide) (by decide) (Or.inl rfl) rfl rfl h12.o ?_
                refine V_goto (pc := 279) (tgt := 344) dX12_reckonAll_279 (by decide) ?_
                rw [up2_up2]
                refine V_loc [0, 1, 2, 3, 4] rfl ?_
                refine V_goto (pc := 344) (tgt := 10) dX12_reckonAll_344 (by decide) ?_
                first | exact rk_brk h12 hL.up (by omega) (by omega) hlast | exact ih (k + 1) (x :: t) _ (by omega) (by simp; omega) (fun z hz => (List.mem_cons.mp hz).elim (fun e => by rw [e]; exact rngd_sml c268) (fun e => hall z (by simp [e]))) ⟨up2_self, StL_up hsl.2.2 (Nat.le_refl _)⟩ hL.up h
          | [], h, _, _, _ => cases h
          | [_], h, _, _, _ => cases h
        · rw [if_neg h28] at h
          by_cases h28e : op k = 28
          · rw [if_pos h28e] at h
            match st, h, hst, hall, hsl with
            | a :: t, h, hst, hall, hsl =>
              have h : (if a = 0 ∨ a = 1 then evM op arg (fun p a => if p = 0 then (a : Int) else w p) last n (k + 1) ((1 - a) :: t) else none) = some res := h
              by_cases ha : a = 0 ∨ a = 1
              · rw [if_pos ha] at h
                have g1 : L' (o + 20) t.length = i64 a := hsl.1
                have hlen : (a :: t).length = t.length + 1 := rfl
                rw [hlen] at hst ⊢
                refine V_iload (pc := 10) dX12_reckonAll_10 rfl ?_
                refine V_iload_n (pc := 12) dX12_reckonAll_12 rfl ?_
                refine V_icmp_geN (pc := 13) (tgt := 347) dX12_reckonAll_13 (by decide) (by omega) (by omega) (fun c13 => absurd c13 (by omega)) (fun n13 => ?_)
                refine V_aload_n (pc := 16) dX12_reckonAll_16 rfl ?_
                refine V_getIE (pc := 17) 12 38 dX12_reckonAll_17 flX12_424 (by decide) h12.o (gb) ?_
                refine V_if_neN (pc := 20) (tgt := 347) dX12_reckonAll_20 (by decide) (by omega) (fun c20 => absurd c20 (by omega)) (fun n20 => ?_)
                refine V_aload_n (pc := 23) dX12_reckonAll_23 rfl ?_
                refine V_getIE (pc := 24) 12 20 dX12_reckonAll_24 flX12_350 (by decide) h12.o (go) ?_
                refine V_if_eqN (pc := 27) (tgt := 40) dX12_reckonAll_27 (by decide) (by omega) (fun c27 => ?_) (fun n27 => absurd n27 (by omega))
                refine V_aload_n (pc := 40) dX12_reckonAll_40 rfl ?_
                refine V_getR (pc := 41) 12 3 dX12_reckonAll_41 flX12_13 (by decide) h12.o h12.R3 ?_
                refine V_aload_n (pc := 44) dX12_reckonAll_44 rfl ?_
                refine V_getIE (pc := 45) 12 34 dX12_reckonAll_45 flX12_427 (by decide) h12.o (gl) ?_
                refine V_bipush (pc := 48) (v := nI 98) dX12_reckonAll_48 (by decide) ?_
                refine V_iaddN (pc := 50) dX12_reckonAll_50 ?_
                refine V_iconst (pc := 51) (v := nI 2) dX12_reckonAll_51 (by decide) ?_
                refine V_iload (pc := 52) dX12_reckonAll_52 rfl ?_
                refine V_imulN (pc := 54) dX12_reckonAll_54 ?_
                refine V_iaddN (pc := 55) dX12_reckonAll_55 ?_
                refine V_ialoadE (pc := 56) dX12_reckonAll_56 h12.A3 (by first | decide | omega) (by omega) ((congrFun gr _).trans ho1) ?_
                refine V_istore (pc := 57) (ls' := [(0, _), (1, _), (2, _), (3, _), (4, _), (5, _)]) dX12_reckonAll_57 (by decide) rfl ?_
                refine V_aload_n (pc := 59) dX12_reckonAll_59 rfl ?_
                refine V_getIE (pc := 60) 12 20 dX12_reckonAll_60 flX12_350 (by decide) h12.o (go) ?_
                refine V_if_eqN (pc := 63) (tgt := 76) dX12_reckonAll_63 (by decide) (by omega) (fun c63 => ?_) (fun n63 => absurd n63 (by omega))
                refine V_aload_n (pc := 76) dX12_reckonAll_76 rfl ?_
                refine V_getR (pc := 77) 12 3 dX12_reckonAll_77 flX12_13 (by decide) h12.o h12.R3 ?_
                refine V_aload_n (pc := 80) dX12_reckonAll_80 rfl ?_
                refine V_getIE (pc := 81) 12 34 dX12_reckonAll_81 flX12_427 (by decide) h12.o (gl) ?_
                refine V_bipush (pc := 84) (v := nI 98) dX12_reckonAll_84 (by decide) ?_
                refine V_iaddN (pc := 86) dX12_reckonAll_86 ?_
                refine V_iconst (pc := 87) (v := nI 2) dX12_reckonAll_87 (by decide) ?_
                refine V_iload (pc := 88) dX12_reckonAll_88 rfl ?_
                refine V_imulN (pc := 90) dX12_reckonAll_90 ?_
                refine V_iaddN (pc := 91) dX12_reckonAll_91 ?_
                refine V_iconst (pc := 92) (v := nI 1) dX12_reckonAll_92 (by decide) ?_
                refine V_iaddN (pc := 93) dX12_reckonAll_93 ?_
                refine V_ialoadE (pc := 94) dX12_reckonAll_94 h12.A3 (by first | decide | omega) (by omega) ((congrFun gr _).trans ho4) ?_
                refine V_istore (pc := 95) (ls' := [(0, _), (1, _), (2, _), (3, _), (4, _), (5, _), (6, _)]) dX12_reckonAll_95 (by decide) rfl ?_
                refine V_iinc1 (pc := 97) (ls' := [(0, _), (1, _), (2, _), (3, _), (4, _), (5, _), (6, _)]) dX12_reckonAll_97 rfl (by decide) rfl ?_
                refine V_iload (pc := 100) dX12_reckonAll_100 rfl ?_
                refine V_bipush (pc := 102) (v := nI 20) dX12_reckonAll_102 (by decide) ?_
                refine V_icmp_geN (pc := 104) (tgt := 205) dX12_reckonAll_104 (by decide) (by omega) (by omega) (fun c104 => ?_) (fun n104 => absurd n104 (by omega))
                refine V_iload (pc := 205) dX12_reckonAll_205 rfl ?_
                refine V_bipush (pc := 207) (v := nI 28) dX12_reckonAll_207 (by decide) ?_
                refine V_icmp_geN (pc := 209) (tgt := 282) dX12_reckonAll_209 (by decide) (by omega) (by omega) (fun c209 => ?_) (fun n209 => absurd n209 (by omega))
                refine V_iload (pc := 282) dX12_reckonAll_282 rfl ?_
                refine V_bipush (pc := 284) (v := nI 28) dX12_reckonAll_284 (by decide) ?_
                refine V_icmp_neN (pc := 286) (tgt := 310) dX12_reckonAll_286 (by decide) (by omega) (by omega) (fun c286 => absurd c286 (by omega)) (fun n286 => ?_)
                refine V_aload_n (pc := 289) dX12_reckonAll_289 rfl ?_
                refine V_getR (pc := 290) 12 37 dX12_reckonAll_290 flX12_107 (by decide) h12.o h12.R37 ?_
                refine V_iload_n (pc := 293) dX12_reckonAll_293 rfl ?_
                refine V_iconst (pc := 294) (v := nI 1) dX12_reckonAll_294 (by decide) ?_
                refine V_isubN (pc := 295) dX12_reckonAll_295 (by omega) ?_
                refine V_lconst (pc := 296) (v := lN 1) dX12_reckonAll_296 (by decide) ?_
                refine V_aload_n (pc := 297) dX12_reckonAll_297 rfl ?_
                refine V_getR (pc := 298) 12 37 dX12_reckonAll_298 flX12_107 (by decide) h12.o h12.R37 ?_
                refine V_iload_n (pc := 301) dX12_reckonAll_301 rfl ?_
                refine V_iconst (pc := 302) (v := nI 1) dX12_reckonAll_302 (by decide) ?_
                refine V_isubN (pc := 303) dX12_reckonAll_303 (by omega) ?_
                refine V_laloadE (pc := 304) dX12_reckonAll_304 h12.A37 (by first | decide | omega) (by omega) (g1) ?_
                refine V_lsub (pc := 305) dX12_reckonAll_305 ?_
                refine V_lastore (pc := 306) dX12_reckonAll_306 h12.A37 (by first | decide | omega) (by omega) ?_
                refine V_goto (pc := 307) (tgt := 344) dX12_reckonAll_307 (by decide) ?_
                refine V_goto (pc := 344) (tgt := 10) dX12_reckonAll_344 (by decide) ?_
                refine V_loc [0, 1, 2, 3, 4] rfl ?_
                rw [i64_lN, i64_sub]
                exact ih (k + 1) ((1 - a) :: t) _ (by omega) (by simp; omega) (fun z hz => (List.mem_cons.mp hz).elim (fun e => by rw [e]; unfold sml; omega) (fun e => hall z (by simp [e]))) ⟨up2_self, StL_up hsl.2 (Nat.le_refl _)⟩ hL.up h
              · rw [if_neg ha] at h; cases h
            | [], h, _, _, _ => cases h
          · rw [if_neg h28e] at h
            match st, h, hst, hall, hsl with
            | a :: t, h, hst, hall, hsl =>
              have h : (if a = (if op k = 29 then 0 else 1) then evM op arg (fun p a => if p = 0 then (a : Int) else w p) last n (arg k) (a :: t) else evM op arg (fun p a => if p = 0 then (a : Int) else w p) last n (k + 1) t) = some res := h
              have g1 : L' (o + 20) t.length = i64 a := hsl.1
              have hlen : (a :: t).length = t.length + 1 := rfl
              have sa : sml a := hall a (by simp)
              rw [hlen] at hst ⊢
              have fin : ∀ (g : Int) (hg : (if op k = 29 then (0 : Int) else 1) = g) (sg : sml g), V E kX12_reckonAll (rmOf 3 0 0) (QRk E o S I L res) 0 0 S (up2 I o 38 (nI 0)) L' 330 [(0, .ref o), (1, .int a1), (2, .int (nI last)), (3, .int (nI (t.length + 1))), (4, .int (nI (k + 1))), (5, .int (nI (op k))), (6, .int (nI (arg k)))] [.long (i64 g), .long (i64 a)] := by
                intro g hg sg
                rw [hg] at h
                refine V_lcmp (pc := 330) dX12_reckonAll_330 ?_
                refine V_if_ne (pc := 331) (tgt := 341) dX12_reckonAll_331 (by decide) (fun c331 => ?_) (fun n331 => ?_)
                · skip
                  have ea : ¬ a = g := fun z => c331 ((lg_cmp_eq _ _).mpr (by rw [z]))
                  rw [if_neg ea] at h
                  refine V_iinc (pc := 341) (ls' := [(0, _), (1, _), (2, _), (3, _), (4, _), (5, _), (6, _)]) dX12_reckonAll_341 rfl (nI_pred' (by omega)) (by decide) rfl ?_
                  refine V_goto (pc := 344) (tgt := 10) dX12_reckonAll_344 (by decide) ?_
                  refine V_loc [0, 1, 2, 3, 4] rfl ?_
                  first | exact ih (arg k) (a :: t) L' (by omega) hst hall hsl hL h | exact ih (k + 1) t L' (by omega) (by omega) (fun z hz => hall z (by simp [hz])) hsl.2 hL h
                · skip
                  have ea : a = g := (i64_inj sa sg).mp ((lg_cmp_eq _ _).mp n331)
                  rw [if_pos ea] at h
                  refine V_iload (pc := 334) dX12_reckonAll_334 rfl ?_
                  refine V_istore (pc := 336) (ls' := [(0, _), (1, _), (2, _), (3, _), (4, _), (5, _), (6, _)]) dX12_reckonAll_336 (by decide) rfl ?_
                  refine V_goto (pc := 338) (tgt := 344) dX12_reckonAll_338 (by decide) ?_
                  refine V_goto (pc := 344) (tgt := 10) dX12_reckonAll_344 (by decide) ?_
                  refine V_loc [0, 1, 2, 3, 4] rfl ?_
                  first | exact ih (arg k) (a :: t) L' (by omega) hst hall hsl hL h | exact ih (k + 1) t L' (by omega) (by omega) (fun z hz => hall z (by simp [hz])) hsl.2 hL h
              refine V_iload (pc := 10) dX12_reckonAll_10 rfl ?_
              refine V_iload_n (pc := 12) dX12_reckonAll_12 rfl ?_
              refine V_icmp_geN (pc := 13) (tgt := 347) dX12_reckonAll_13 (by decide) (by omega) (by omega) (fun c13 => absurd c13 (by omega)) (fun n13 => ?_)
              refine V_aload_n (pc := 16) dX12_reckonAll_16 rfl ?_
              refine V_getIE (pc := 17) 12 38 dX12_reckonAll_17 flX12_424 (by decide) h12.o (gb) ?_
              refine V_if_neN (pc := 20) (tgt := 347) dX12_reckonAll_20 (by decide) (by omega) (fun c20 => absurd c20 (by omega)) (fun n20 => ?_)
              refine V_aload_n (pc := 23) dX12_reckonAll_23 rfl ?_
              refine V_getIE (pc := 24) 12 20 dX12_reckonAll_24 flX12_350 (by decide) h12.o (go) ?_
              refine V_if_eqN (pc := 27) (tgt := 40) dX12_reckonAll_27 (by decide) (by omega) (fun c27 => ?_) (fun n27 => absurd n27 (by omega))
              refine V_aload_n (pc := 40) dX12_reckonAll_40 rfl ?_
              refine V_getR (pc := 41) 12 3 dX12_reckonAll_41 flX12_13 (by decide) h12.o h12.R3 ?_
              refine V_aload_n (pc := 44) dX12_reckonAll_44 rfl ?_
              refine V_getIE (pc := 45) 12 34 dX12_reckonAll_45 flX12_427 (by decide) h12.o (gl) ?_
              refine V_bipush (pc := 48) (v := nI 98) dX12_reckonAll_48 (by decide) ?_
              refine V_iaddN (pc := 50) dX12_reckonAll_50 ?_
              refine V_iconst (pc := 51) (v := nI 2) dX12_reckonAll_51 (by decide) ?_
              refine V_iload (pc := 52) dX12_reckonAll_52 rfl ?_
              refine V_imulN (pc := 54) dX12_reckonAll_54 ?_
              refine V_iaddN (pc := 55) dX12_reckonAll_55 ?_
              refine V_ialoadE (pc := 56) dX12_reckonAll_56 h12.A3 (by first | decide | omega) (by omega) ((congrFun gr _).trans ho1) ?_
              refine V_istore (pc := 57) (ls' := [(0, _), (1, _), (2, _), (3, _), (4, _), (5, _)]) dX12_reckonAll_57 (by decide) rfl ?_
              refine V_aload_n (pc := 59) dX12_reckonAll_59 rfl ?_
              refine V_getIE (pc := 60) 12 20 dX12_reckonAll_60 flX12_350 (by decide) h12.o (go) ?_
              refine V_if_eqN (pc := 63) (tgt := 76) dX12_reckonAll_63 (by decide) (by omega) (fun c63 => ?_) (fun n63 => absurd n63 (by omega))
              refine V_aload_n (pc := 76) dX12_reckonAll_76 rfl ?_
              refine V_getR (pc := 77) 12 3 dX12_reckonAll_77 flX12_13 (by decide) h12.o h12.R3 ?_
              refine V_aload_n (pc := 80) dX12_reckonAll_80 rfl ?_
              refine V_getIE (pc := 81) 12 34 dX12_reckonAll_81 flX12_427 (by decide) h12.o (gl) ?_
              refine V_bipush (pc := 84) (v := nI 98) dX12_reckonAll_84 (by decide) ?_
              refine V_iaddN (pc := 86) dX12_reckonAll_86 ?_
              refine V_iconst (pc := 87) (v := nI 2) dX12_reckonAll_87 (by decide) ?_
              refine V_iload (pc := 88) dX12_reckonAll_88 rfl ?_
              refine V_imulN (pc := 90) dX12_reckonAll_90 ?_
              refine V_iaddN (pc := 91) dX12_reckonAll_91 ?_
              refine V_iconst (pc := 92) (v := nI 1) dX12_reckonAll_92 (by decide) ?_
              refine V_iaddN (pc := 93) dX12_reckonAll_93 ?_
              refine V_ialoadE (pc := 94) dX12_reckonAll_94 h12.A3 (by first | decide | omega) (by omega) ((congrFun gr _).trans ho4) ?_
              refine V_istore (pc := 95) (ls' := [(0, _), (1, _), (2, _), (3, _), (4, _), (5, _), (6, _)]) dX12_reckonAll_95 (by decide) rfl ?_
              refine V_iinc1 (pc := 97) (ls' := [(0, _), (1, _), (2, _), (3, _), (4, _), (5, _), (6, _)]) dX12_reckonAll_97 rfl (by decide) rfl ?_
              refine V_iload (pc := 100) dX12_reckonAll_100 rfl ?_
              refine V_bipush (pc := 102) (v := nI 20) dX12_reckonAll_102 (by decide) ?_
              refine V_icmp_geN (pc := 104) (tgt := 205) dX12_reckonAll_104 (by decide) (by omega) (by omega) (fun c104 => ?_) (fun n104 => absurd n104 (by omega))
              refine V_iload (pc := 205) dX12_reckonAll_205 rfl ?_
              refine V_bipush (pc := 207) (v := nI 28) dX12_reckonAll_207 (by decide) ?_
              refine V_icmp_geN (pc := 209) (tgt := 282) dX12_reckonAll_209 (by decide) (by omega) (by omega) (fun c209 => ?_) (fun n209 => absurd n209 (by omega))
              refine V_iload (pc := 282) dX12_reckonAll_282 rfl ?_
              refine V_bipush (pc := 284) (v := nI 28) dX12_reckonAll_284 (by decide) ?_
              refine V_icmp_neN (pc := 286) (tgt := 310) dX12_reckonAll_286 (by decide) (by omega) (by omega) (fun c286 => ?_) (fun n286 => absurd n286 (by omega))
              refine V_aload_n (pc := 310) dX12_reckonAll_310 rfl ?_
              refine V_getR (pc := 311) 12 37 dX12_reckonAll_311 flX12_107 (by decide) h12.o h12.R37 ?_
              refine V_iload_n (pc := 314) dX12_reckonAll_314 rfl ?_
              refine V_iconst (pc := 315) (v := nI 1) dX12_reckonAll_315 (by decide) ?_
              refine V_isubN (pc := 316) dX12_reckonAll_316 (by omega) ?_
              refine V_laloadE (pc := 317) dX12_reckonAll_317 h12.A37 (by first | decide | omega) (by omega) (g1) ?_
              refine V_iload (pc := 318) dX12_reckonAll_318 rfl ?_
              refine V_bipush (pc := 320) (v := nI 29) dX12_reckonAll_320 (by decide) ?_
              refine V_icmp_neN (pc := 322) (tgt := 329) dX12_reckonAll_322 (by decide) (by omega) (by omega) (fun c322 => ?_) (fun n322 => ?_)
              · skip
                refine V_lconst (pc := 329) (v := lN 1) dX12_reckonAll_329 (by decide) ?_
                first | (rw [i64_lN]; exact fin _ (by rw [if_pos n322]; rfl) ⟨by decide, by decide⟩) | (rw [i64_lN]; exact fin _ (by rw [if_neg c322]; rfl) ⟨by decide, by decide⟩)
              · skip
                refine V_lconst (pc := 325) (v := lN 0) dX12_reckonAll_325 (by decide) ?_
                refine V_goto (pc := 326) (tgt := 330) dX12_reckonAll_326 (by decide) ?_
                first | (rw [i64_lN]; exact fin _ (by rw [if_pos n322]; rfl) ⟨by decide, by decide⟩) | (rw [i64_lN]; exact fin _ (by rw [if_neg c322]; rfl) ⟨by decide, by decide⟩)
            | [], h, _, _, _ => cases h
/-- the reference's evaluator on a stretch of a law's code -/
theorem c_X12_reckonAll (h12 : Lay12 E S o) (hr : RowM I (o + 2) q) {lb first last : Nat} {op arg : Nat → Nat} {w : Nat → Int} (hord : I o 20 = nI 0) (hlaw : I o 34 = nI lb) (hlb : lb + 900 ≤ 5516) (hlast : last ≤ 400) (hfirst : first ≤ 1000)
    (hop : ∀ k, k < last → I (o + 2) (lb + 98 + 2 * k) = nI (op k) ∧ op k < 31 ∧ (op k < 20 → op k < 10) ∧ I (o + 2) (lb + 98 + 2 * k + 1) = nI (arg k) ∧ arg k ≤ 1000) (hw : ∀ j, 0 < j → j < 10 → L (o + 18) j = i64 (w j) ∧ sml (w j)) {res : Option Int} {fuel : Nat} (hev : evM op arg (fun p a => if p = 0 then (a : Int) else w p) last fuel first [] = some res) :
    C E kX12_reckonAll 3 0 0 [.ref o, .int (nI first), .int (nI last)] S I L (fun r S' I' L' => r = none ∧ S = S' ∧ I' = up2 I o 38 (b2i res.isNone) ∧ RkL o L' L ∧ ∀ v, res = some v → L' o 39 = i64 v) := by
  refine C_of (by decide) (Nat.le_of_ble_eq_true rfl) ?_
  refine V_aload_n (pc := 0) dX12_reckonAll_0 rfl ?_
  refine V_iconst (pc := 1) (v := nI 0) dX12_reckonAll_1 (by decide) ?_
  refine V_putI (pc := 2) 12 38 dX12_reckonAll_2 flX12_424 (by decide) (by decide) (Or.inl rfl) rfl rfl h12.o ?_
  refine V_iconst (pc := 5) (v := nI 0) dX12_reckonAll_5 (by decide) ?_
  refine V_istore_n (pc := 6) (ls' := [(0, _), (1, _), (2, _), (3, _)]) dX12_reckonAll_6 (by decide) rfl ?_
  refine V_iload_n (pc := 7) dX12_reckonAll_7 rfl ?_
  refine V_istore (pc := 8) (ls' := [(0, _), (1, _), (2, _), (3, _), (4, _)]) dX12_reckonAll_8 (by decide) rfl ?_
  exact lp_reckonAll h12 hr hord hlaw hlb hlast hop hw res fuel first [] L hfirst (by simp) (fun a ha => by cases ha) trivial RkL.rf hev
end MD
