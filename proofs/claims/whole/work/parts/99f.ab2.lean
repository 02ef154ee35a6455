/-! THE CLASS: about -/
theorem abf_s (law : LawT) (q : Nat → Nat) (d tk b : Nat) (nx : Nat → Nat) (s : Nat) : abf law q d tk b nx (s + 1) = if cas law q d tk b s = true then max2 (abf law q d tk b nx s) (1000 - difq law q b s + nx (tk ||| 2 ^ s)) else abf law q d tk b nx s := rfl
theorem abd_s (law : LawT) (q : Nat → Nat) (d m tk : Nat) : abd law q d (m + 1) tk = abf law q d tk (q 0 - 1 - m) (abd law q d m) (q 1) := rfl
theorem cas_iff {law : LawT} {q : Nat → Nat} {d tk b s : Nat} (hb : b < q 0) (hs : s < q 1) : cas law q d tk b s = true ↔ (mayc law q b s = true ∧ difq law q b s ≤ d ∧ tk / 2 ^ s % 2 = 0) := by
  unfold cas mayc
  rw [decide_eq_true hb, decide_eq_true hs]
  simp
theorem max_m1 {n : Nat} (h : n < 2 ^ 31) : maxI (nI n) (-1) = nI n := by
  unfold maxI
  rw [if_neg (fun z => absurd (Int32.lt_trans z (by decide : (-1 : Int32) < 0)) (nI_pos h))]
theorem AbC.up {I : IT} {M : Nat} {law : LawT} {q : Nat → Nat} {d b u v : Nat} (h : AbC I M law q d (b + 1) u) (hu : u < 64) (hv : v = abd law q d (q 0 - b) u) : AbC (up2 I (M + 5) (64 * b + u) (nI v)) M law q d (b + 1) (u + 1) := by
  intro c w hc hw hj
  by_cases z : c = b ∧ w = u
  · obtain ⟨rfl, rfl⟩ := z; rw [up2_self, hv]
  · rw [up2_nej (by omega)]; exact h c w hc hw (by omega)
theorem fst1_tt {p : Nat → Bool} : ∀ (k s : Nat), fst1 p s k < s + k → p (fst1 p s k) = true
  | 0, s, h => absurd h (by show ¬ s < s + 0; omega)
  | k + 1, s, h => by
    unfold fst1 at h ⊢
    by_cases z : p s = true
    · rw [if_pos z]; exact z
    · rw [if_neg z] at h ⊢
      exact fst1_tt k (s + 1) (by omega)
section CY
variable {E : EnT} {S : ST} {I : IT} {L : LT} {M : Nat} {law : LawT} {q : Nat → Nat}
theorem lp_abC1 (h4 : Lay4 E S M) (hq : wq q) (hG : GaM I M law q (q 0) 0) {b tk d : Nat} (hb : b < q 0) (ht : tk < 64) (hd : d < 61) (hA : ∀ u, u < 64 → I (M + 5) (64 * (b + 1) + u) = nI (abd law q d (q 0 - (b + 1)) u)) {Q : QT} (hk : V E kX4_matchAbout (rmOf 2 0 0) Q 0 0 S I L 75 [(0, .ref M), (1, .int (nI (q 0))), (2, .int (nI d)), (3, .int (nI b)), (4, .int (nI tk)), (5, .int (nI (abd law q d (q 0 - b) tk))), (6, .int (nI 6))] []) : V E kX4_matchAbout (rmOf 2 0 0) Q 0 0 S I L 45 [(0, .ref M), (1, .int (nI (q 0))), (2, .int (nI d)), (3, .int (nI b)), (4, .int (nI tk)), (5, .int (nI (abd law q d (q 0 - (b + 1)) tk))), (6, .int (nI 0))] [] := by
  have hnb := hq.nb
  have hns := hq.ns
  obtain ⟨m, hm⟩ : ∃ m, q 0 - b = m + 1 := ⟨q 0 - b - 1, by omega⟩
  have e1 : q 0 - (b + 1) = m := by omega
  have e2 : q 0 - 1 - m = b := by omega
  rw [hm, abd_s, e2] at hk
  rw [e1] at hA ⊢
  have hab := abd_le law q d m
  have hbf := fun s => abf_le (law := law) (q := q) (d := d) (tk := tk) (b := b) (nx := abd law q d m) hab s
  have key : ∀ s, s ≤ 6 → V E kX4_matchAbout (rmOf 2 0 0) Q 0 0 S I L 45 [(0, .ref M), (1, .int (nI (q 0))), (2, .int (nI d)), (3, .int (nI b)), (4, .int (nI tk)), (5, .int (nI (abf law q d tk b (abd law q d m) (min s (q 1))))), (6, .int (nI s))] [] := by
    refine loopUp (n := 6) (P := fun s => V E kX4_matchAbout (rmOf 2 0 0) Q 0 0 S I L 45 [(0, .ref M), (1, .int (nI (q 0))), (2, .int (nI d)), (3, .int (nI b)), (4, .int (nI tk)), (5, .int (nI (abf law q d tk b (abd law q d m) (min s (q 1))))), (6, .int (nI s))] []) ?_ ?_
    · rw [Nat.min_eq_right (show q 1 ≤ 6 by omega)]
      refine V_iload (pc := 45) dX4_matchAbout_45 rfl ?_
      refine V_bipush (pc := 47) (v := nI 6) dX4_matchAbout_47 (by decide) ?_
      refine V_icmp_geN (pc := 49) (tgt := 75) dX4_matchAbout_49 (by decide) (by omega) (by omega) (fun c49 => ?_) (fun n49 => absurd n49 (by omega))
      exact hk
    · intro s hs ih
      have hor := or64 ht hs
      have hab2 := hab (tk ||| 2 ^ s)
      have hdl := difq_leC (law := law) hq (b := b) hs
      have hbs := hbf (min s (q 1))
      have nxt : ∀ w, maxI (nI (abf law q d tk b (abd law q d m) (min s (q 1)))) w = nI (abf law q d tk b (abd law q d m) (min (s + 1) (q 1))) → V E kX4_matchAbout (rmOf 2 0 0) Q 0 0 S I L 64 [(0, .ref M), (1, .int (nI (q 0))), (2, .int (nI d)), (3, .int (nI b)), (4, .int (nI tk)), (5, .int (nI (abf law q d tk b (abd law q d m) (min s (q 1))))), (6, .int (nI s))] [.int w, .int (nI (abf law q d tk b (abd law q d m) (min s (q 1))))] := by
        intro w hw
        refine V_mmax (pc := 64) dX4_matchAbout_64 mlX4_98 (Nat.le_of_ble_eq_true rfl) (Nat.le_of_ble_eq_true rfl) ⟨Nat.le_of_ble_eq_true rfl, Nat.le_of_ble_eq_true rfl⟩ ?_
        rw [hw]
        refine V_istore (pc := 67) (ls' := [(0, _), (1, _), (2, _), (3, _), (4, _), (5, _), (6, _)]) dX4_matchAbout_67 (by decide) rfl ?_
        refine V_iinc1 (pc := 69) (ls' := [(0, _), (1, _), (2, _), (3, _), (4, _), (5, _), (6, _)]) dX4_matchAbout_69 rfl (by decide) rfl ?_
        refine V_goto (pc := 72) (tgt := 45) dX4_matchAbout_72 (by decide) ?_
        exact ih
      refine V_iload (pc := 45) dX4_matchAbout_45 rfl ?_
      refine V_bipush (pc := 47) (v := nI 6) dX4_matchAbout_47 (by decide) ?_
      refine V_icmp_geN (pc := 49) (tgt := 75) dX4_matchAbout_49 (by decide) (by omega) (by omega) (fun c49 => absurd c49 (by omega)) (fun n49 => ?_)
      refine V_iload (pc := 52) dX4_matchAbout_52 rfl ?_
      refine V_aload_n (pc := 54) dX4_matchAbout_54 rfl ?_
      refine V_iload_n (pc := 55) dX4_matchAbout_55 rfl ?_
      refine V_iload (pc := 56) dX4_matchAbout_56 rfl ?_
      refine V_iload (pc := 58) dX4_matchAbout_58 rfl ?_
      refine V_iload_n (pc := 60) dX4_matchAbout_60 rfl ?_
      refine V_callVd (pc := 61) (ci := 4) (c_X4_worthWith h4 hq hG (by omega) hs ht hd (by omega) (hA _ hor)) dX4_matchAbout_61 mlX4_94 mkX4_worthWith rfl rfl h4.o ⟨by decide, rfl⟩ ⟨Nat.le_of_ble_eq_true rfl, Nat.le_of_ble_eq_true rfl⟩ (Nat.le_of_ble_eq_true rfl) ⟨Nat.le_of_ble_eq_true rfl, Nat.le_of_ble_eq_true rfl⟩ ?_
      refine nxt _ ?_
      unfold wwv
      by_cases hsq : s < q 1
      · rw [Nat.min_eq_left (show s ≤ q 1 by omega), Nat.min_eq_left (show s + 1 ≤ q 1 by omega), abf_s]
        have hb2 := hbf s
        by_cases hc : mayc law q b s = true ∧ difq law q b s ≤ d ∧ tk / 2 ^ s % 2 = 0
        · rw [if_pos hc, if_pos ((cas_iff hb hsq).mpr hc), maxI_N (by omega) (by omega)]
          congr 1
          unfold max2
          split <;> omega
        · rw [if_neg hc, if_neg (fun z => hc ((cas_iff hb hsq).mp z)), max_m1 (by omega)]
      · have hc : ¬ (mayc law q b s = true ∧ difq law q b s ≤ d ∧ tk / 2 ^ s % 2 = 0) := fun z => by
          have h1 := z.1
          unfold mayc at h1
          rw [decide_eq_false hsq] at h1
          simp at h1
        rw [if_neg hc, max_m1 (by omega), Nat.min_eq_right (show q 1 ≤ s by omega), Nat.min_eq_right (show q 1 ≤ s + 1 by omega)]
  have k0 := key 0 (by omega)
  rw [Nat.zero_min] at k0
  exact k0
theorem lp_abC2 (h4 : Lay4 E S M) (hq : wq q) {I1 : IT} (hG : GaM I1 M law q (q 0) 0) {b d : Nat} (hb : b < q 0) (hd : d < 61) {Q : QT} (hk : ∀ J, (∀ x, x ≠ M + 5 → J x = I1 x) → AbC J M law q d b 0 → V E kX4_matchAbout (rmOf 2 0 0) Q 0 0 S J L 95 [(0, .ref M), (1, .int (nI (q 0))), (2, .int (nI d)), (3, .int (nI b)), (4, .int (nI 64))] []) : ∀ u, u ≤ 64 → ∀ J, (∀ x, x ≠ M + 5 → J x = I1 x) → AbC J M law q d (b + 1) u → V E kX4_matchAbout (rmOf 2 0 0) Q 0 0 S J L 19 [(0, .ref M), (1, .int (nI (q 0))), (2, .int (nI d)), (3, .int (nI b)), (4, .int (nI u))] [] := by
  have hnb := hq.nb
  refine loopUp (n := 64) (P := fun u => ∀ J, (∀ x, x ≠ M + 5 → J x = I1 x) → AbC J M law q d (b + 1) u → V E kX4_matchAbout (rmOf 2 0 0) Q 0 0 S J L 19 [(0, .ref M), (1, .int (nI (q 0))), (2, .int (nI d)), (3, .int (nI b)), (4, .int (nI u))] []) ?_ ?_
  · intro J hF hC
    refine V_iload (pc := 19) dX4_matchAbout_19 rfl ?_
    refine V_bipush (pc := 21) (v := nI 64) dX4_matchAbout_21 (by decide) ?_
    refine V_icmp_geN (pc := 23) (tgt := 95) dX4_matchAbout_23 (by decide) (by omega) (by omega) (fun c23 => ?_) (fun n23 => absurd n23 (by omega))
    exact hk J hF (fun c w hc hw hj => hC c w hc hw (by omega))
  · intro u hu ih J hF hC
    have hGJ : GaM J M law q (q 0) 0 := hG.cg (hF _ (by omega)) (hF _ (by omega))
    have e64 : (b + 1) * 64 + u = 64 * (b + 1) + u := by omega
    have e64b : b * 64 + u = 64 * b + u := by omega
    have hl : J (M + 5) ((b + 1) * 64 + u) = nI (abd law q d (q 0 - (b + 1)) u) := by rw [e64]; exact hC (b + 1) u (by omega) hu (Or.inl (Nat.le_refl _))
    refine V_iload (pc := 19) dX4_matchAbout_19 rfl ?_
    refine V_bipush (pc := 21) (v := nI 64) dX4_matchAbout_21 (by decide) ?_
    refine V_icmp_geN (pc := 23) (tgt := 95) dX4_matchAbout_23 (by decide) (by omega) (by omega) (fun c23 => absurd c23 (by omega)) (fun n23 => ?_)
    refine V_aload_n (pc := 26) dX4_matchAbout_26 rfl ?_
    refine V_getR (pc := 27) 4 4 dX4_matchAbout_27 flX4_24 (by decide) h4.o h4.R4 ?_
    refine V_iload_n (pc := 30) dX4_matchAbout_30 rfl ?_
    refine V_iconst (pc := 31) (v := nI 1) dX4_matchAbout_31 (by decide) ?_
    refine V_iaddN (pc := 32) dX4_matchAbout_32 ?_
    refine V_bipush (pc := 33) (v := nI 64) dX4_matchAbout_33 (by decide) ?_
    refine V_imulN (pc := 35) dX4_matchAbout_35 ?_
    refine V_iload (pc := 36) dX4_matchAbout_36 rfl ?_
    refine V_iaddN (pc := 38) dX4_matchAbout_38 ?_
    refine V_ialoadE (pc := 39) dX4_matchAbout_39 h4.A4 (by first | decide | omega) (by omega) (hl) ?_
    refine V_istore (pc := 40) (ls' := [(0, _), (1, _), (2, _), (3, _), (4, _), (5, _)]) dX4_matchAbout_40 (by decide) rfl ?_
    refine V_iconst (pc := 42) (v := nI 0) dX4_matchAbout_42 (by decide) ?_
    refine V_istore (pc := 43) (ls' := [(0, _), (1, _), (2, _), (3, _), (4, _), (5, _), (6, _)]) dX4_matchAbout_43 (by decide) rfl ?_
    refine lp_abC1 h4 hq hGJ hb hu hd (fun w hw => hC (b + 1) w (by omega) hw (Or.inl (Nat.le_refl _))) ?_
    refine V_aload_n (pc := 75) dX4_matchAbout_75 rfl ?_
    refine V_getR (pc := 76) 4 4 dX4_matchAbout_76 flX4_24 (by decide) h4.o h4.R4 ?_
    refine V_iload_n (pc := 79) dX4_matchAbout_79 rfl ?_
    refine V_bipush (pc := 80) (v := nI 64) dX4_matchAbout_80 (by decide) ?_
    refine V_imulN (pc := 82) dX4_matchAbout_82 ?_
    refine V_iload (pc := 83) dX4_matchAbout_83 rfl ?_
    refine V_iaddN (pc := 85) dX4_matchAbout_85 ?_
    refine V_iload (pc := 86) dX4_matchAbout_86 rfl ?_
    refine V_iastore (pc := 88) dX4_matchAbout_88 h4.A4 (by first | decide | omega) (by omega) ?_
    refine V_loc [0, 1, 2, 3, 4] rfl ?_
    refine V_iinc1 (pc := 89) (ls' := [(0, _), (1, _), (2, _), (3, _), (4, _)]) dX4_matchAbout_89 rfl (by decide) rfl ?_
    refine V_goto (pc := 92) (tgt := 19) dX4_matchAbout_92 (by decide) ?_
    rw [e64b]
    exact ih _ (fun x hx => by rw [up2_row hx]; exact hF x hx) (hC.up hu rfl)
theorem c_X4_writeRow (h4 : Lay4 E S M) (hq : wq q) (hG : GaM I M law q (q 0) 0) {d : Nat} (hd : d < 61) (hC : AbC I M law q d 0 0) : C E kX4_writeRow 1 0 0 [.ref M, .int (nI (q 0)), .int (nI d)] S I L (fun r S' I' L' => r = none ∧ S = S' ∧ L = L' ∧ (∀ x, x ≠ M + 6 → I' x = I x) ∧ ∀ b, b < q 0 → I' (M + 6) b = nI (if abs1 law q d (abt1 law q d b) b < q 1 then abs1 law q d (abt1 law q d b) b else 100)) := by
  have hnb := hq.nb
  have hns := hq.ns
  refine C_of (by decide) (Nat.le_of_ble_eq_true rfl) ?_
  have out : ∀ b, b ≤ q 0 → ∀ J, (∀ x, x ≠ M + 6 → J x = I x) → (∀ c, c < b → J (M + 6) c = nI (if abs1 law q d (abt1 law q d c) c < q 1 then abs1 law q d (abt1 law q d c) c else 100)) → V E kX4_writeRow (rmOf 1 0 0) (QM E (fun r S' I' L' => r = none ∧ S = S' ∧ L = L' ∧ (∀ x, x ≠ M + 6 → I' x = I x) ∧ ∀ b, b < q 0 → I' (M + 6) b = nI (if abs1 law q d (abt1 law q d b) b < q 1 then abs1 law q d (abt1 law q d b) b else 100)) 0 0) 0 0 S J L 5 [(0, .ref M), (1, .int (nI (q 0))), (2, .int (nI d)), (3, .int (nI (abt1 law q d b))), (4, .int (nI b))] [] := by
    refine loopUp (n := q 0) (P := fun b => ∀ J, (∀ x, x ≠ M + 6 → J x = I x) → (∀ c, c < b → J (M + 6) c = nI (if abs1 law q d (abt1 law q d c) c < q 1 then abs1 law q d (abt1 law q d c) c else 100)) → V E kX4_writeRow (rmOf 1 0 0) (QM E (fun r S' I' L' => r = none ∧ S = S' ∧ L = L' ∧ (∀ x, x ≠ M + 6 → I' x = I x) ∧ ∀ b, b < q 0 → I' (M + 6) b = nI (if abs1 law q d (abt1 law q d b) b < q 1 then abs1 law q d (abt1 law q d b) b else 100)) 0 0) 0 0 S J L 5 [(0, .ref M), (1, .int (nI (q 0))), (2, .int (nI d)), (3, .int (nI (abt1 law q d b))), (4, .int (nI b))] []) ?_ ?_
    · intro J hF hc
      refine V_iload (pc := 5) dX4_writeRow_5 rfl ?_
      refine V_iload_n (pc := 7) dX4_writeRow_7 rfl ?_
      refine V_icmp_geN (pc := 8) (tgt := 112) dX4_writeRow_8 (by decide) (by omega) (by omega) (fun c8 => ?_) (fun n8 => absurd n8 (by omega))
      refine V_vret (pc := 112) dX4_writeRow_112 rfl (by first | decide | omega) (by first | decide | omega) ?_
      exact ⟨rfl, rfl, rfl, hF, hc⟩
    · intro b hb ih J0 hF0 hc0
      have htk := abt1_lt (law := law) (d := d) hns b
      generalize hPost : (fun (r : Option Value) (S' : ST) (I' : IT) (L' : LT) => r = none ∧ S = S' ∧ L = L' ∧ (∀ x, x ≠ M + 6 → I' x = I x) ∧ ∀ b, b < q 0 → I' (M + 6) b = nI (if abs1 law q d (abt1 law q d b) b < q 1 then abs1 law q d (abt1 law q d b) b else 100)) = post at ih ⊢
      have es : abt1 law q d (b + 1) = abt1 law q d b ||| (if abs1 law q d (abt1 law q d b) b < q 1 then 2 ^ abs1 law q d (abt1 law q d b) b else 0) := rfl
      rw [es] at ih
      have ha1 := fst1_ge (fun s => cas law q d (abt1 law q d b) b s && decide (1000 - difq law q b s + abd law q d (q 0 - (b + 1)) (abt1 law q d b ||| 2 ^ s) = abd law q d (q 0 - b) (abt1 law q d b))) (q 1) 0
      have hab1 : abs1 law q d (abt1 law q d b) b ≤ q 1 := by unfold abs1; omega
      -- behind the inner loop
      have tail : ∀ (J : IT) (rv : Nat) (w5 : Int32), (∀ x, x ≠ M + 6 → J x = I x) → (∀ c, c < b → J (M + 6) c = nI (if abs1 law q d (abt1 law q d c) c < q 1 then abs1 law q d (abt1 law q d c) c else 100)) → J (M + 6) b = nI rv → rv = (if abs1 law q d (abt1 law q d b) b < q 1 then abs1 law q d (abt1 law q d b) b else 100) → V E kX4_writeRow (rmOf 1 0 0) (QM E post 0 0) 0 0 S J L 82 [(0, .ref M), (1, .int (nI (q 0))), (2, .int (nI d)), (3, .int (nI (abt1 law q d b))), (4, .int (nI b)), (5, .int w5)] [] := by
        intro J rv w5 hF hc hJ hrv
        have hcb : ∀ c, c < b + 1 → J (M + 6) c = nI (if abs1 law q d (abt1 law q d c) c < q 1 then abs1 law q d (abt1 law q d c) c else 100) := fun c hcc => by
          by_cases z : c = b
          · subst z; rw [hJ, hrv]
          · exact hc c (by omega)
        by_cases hlt : abs1 law q d (abt1 law q d b) b < q 1
        · rw [if_pos hlt] at hrv ih
          have hp2 := p64 (show abs1 law q d (abt1 law q d b) b ≤ 6 by omega)
          rw [hrv] at hJ
          refine V_aload_n (pc := 82) dX4_writeRow_82 rfl ?_
          refine V_getR (pc := 83) 4 5 dX4_writeRow_83 flX4_27 (by decide) h4.o h4.R5 ?_
          refine V_iload (pc := 86) dX4_writeRow_86 rfl ?_
          refine V_ialoadE (pc := 88) dX4_writeRow_88 h4.A5 (by first | decide | omega) (by omega) (hJ) ?_
          refine V_bipush (pc := 89) (v := nI 100) dX4_writeRow_89 (by decide) ?_
          refine V_icmp_eqN (pc := 91) (tgt := 106) dX4_writeRow_91 (by decide) (by omega) (by omega) (fun c91 => absurd c91 (by omega)) (fun n91 => ?_)
          refine V_iload_n (pc := 94) dX4_writeRow_94 rfl ?_
          refine V_iconst (pc := 95) (v := nI 1) dX4_writeRow_95 (by decide) ?_
          refine V_aload_n (pc := 96) dX4_writeRow_96 rfl ?_
          refine V_getR (pc := 97) 4 5 dX4_writeRow_97 flX4_27 (by decide) h4.o h4.R5 ?_
          refine V_iload (pc := 100) dX4_writeRow_100 rfl ?_
          refine V_ialoadE (pc := 102) dX4_writeRow_102 h4.A5 (by first | decide | omega) (by omega) (hJ) ?_
          refine V_ishlN (pc := 103) dX4_writeRow_103 (by omega) (by omega) ?_
          refine V_iorN (pc := 104) dX4_writeRow_104 ?_
          refine V_istore_n (pc := 105) (ls' := [(0, _), (1, _), (2, _), (3, _), (4, _), (5, _)]) dX4_writeRow_105 (by decide) rfl ?_
          refine V_loc [0, 1, 2, 3, 4] rfl ?_
          refine V_iinc1 (pc := 106) (ls' := [(0, _), (1, _), (2, _), (3, _), (4, _)]) dX4_writeRow_106 rfl (by decide) rfl ?_
          refine V_goto (pc := 109) (tgt := 5) dX4_writeRow_109 (by decide) ?_
          rw [Nat.one_mul]
          exact ih J hF hcb
        · rw [if_neg hlt] at hrv ih
          rw [Nat.or_zero] at ih
          rw [hrv] at hJ
          refine V_aload_n (pc := 82) dX4_writeRow_82 rfl ?_
          refine V_getR (pc := 83) 4 5 dX4_writeRow_83 flX4_27 (by decide) h4.o h4.R5 ?_
          refine V_iload (pc := 86) dX4_writeRow_86 rfl ?_
          refine V_ialoadE (pc := 88) dX4_writeRow_88 h4.A5 (by first | decide | omega) (by omega) (hJ) ?_
          refine V_bipush (pc := 89) (v := nI 100) dX4_writeRow_89 (by decide) ?_
          refine V_icmp_eqN (pc := 91) (tgt := 106) dX4_writeRow_91 (by decide) (by omega) (by omega) (fun c91 => ?_) (fun n91 => absurd n91 (by omega))
          refine V_loc [0, 1, 2, 3, 4] rfl ?_
          refine V_iinc1 (pc := 106) (ls' := [(0, _), (1, _), (2, _), (3, _), (4, _)]) dX4_writeRow_106 rfl (by decide) rfl ?_
          refine V_goto (pc := 109) (tgt := 5) dX4_writeRow_109 (by decide) ?_
          exact ih J hF hcb
      have hlv : ∀ J : IT, (∀ x, x ≠ M + 6 → J x = I x) → J (M + 5) (b * 64 + abt1 law q d b) = nI (abd law q d (q 0 - b) (abt1 law q d b)) := fun J hF => by
        rw [hF _ (by omega), show b * 64 + abt1 law q d b = 64 * b + abt1 law q d b by omega]
        exact hC b _ (by omega) htk (Or.inl (Nat.zero_le _))
      have habl := abd_le law q d (q 0 - b) (abt1 law q d b)
      have inn : ∀ s, s ≤ 6 → ∀ J, (∀ x, x ≠ M + 6 → J x = I x) → (∀ c, c < b → J (M + 6) c = nI (if abs1 law q d (abt1 law q d c) c < q 1 then abs1 law q d (abt1 law q d c) c else 100)) → J (M + 6) b = nI 100 → (abs1 law q d (abt1 law q d b) b < q 1 → s ≤ abs1 law q d (abt1 law q d b) b) → V E kX4_writeRow (rmOf 1 0 0) (QM E post 0 0) 0 0 S J L 23 [(0, .ref M), (1, .int (nI (q 0))), (2, .int (nI d)), (3, .int (nI (abt1 law q d b))), (4, .int (nI b)), (5, .int (nI s))] [] := by
        refine loopUp (n := 6) (P := fun s => ∀ J, (∀ x, x ≠ M + 6 → J x = I x) → (∀ c, c < b → J (M + 6) c = nI (if abs1 law q d (abt1 law q d c) c < q 1 then abs1 law q d (abt1 law q d c) c else 100)) → J (M + 6) b = nI 100 → (abs1 law q d (abt1 law q d b) b < q 1 → s ≤ abs1 law q d (abt1 law q d b) b) → V E kX4_writeRow (rmOf 1 0 0) (QM E post 0 0) 0 0 S J L 23 [(0, .ref M), (1, .int (nI (q 0))), (2, .int (nI d)), (3, .int (nI (abt1 law q d b))), (4, .int (nI b)), (5, .int (nI s))] []) ?_ ?_
        · intro J hF hc h100 hs6
          refine V_iload (pc := 23) dX4_writeRow_23 rfl ?_
          refine V_bipush (pc := 25) (v := nI 6) dX4_writeRow_25 (by decide) ?_
          refine V_icmp_geN (pc := 27) (tgt := 82) dX4_writeRow_27 (by decide) (by omega) (by omega) (fun c27 => ?_) (fun n27 => absurd n27 (by omega))
          exact tail J 100 _ hF hc h100 (by rw [if_neg (fun z => by have := hs6 z; omega)])
        · intro s hs ih2 J hF hc h100 hsl
          have hGJ : GaM J M law q (q 0) 0 := hG.cg (hF _ (by omega)) (hF _ (by omega))
          have hor := or64 htk hs
          have hab2 := abd_le law q d (q 0 - (b + 1)) (abt1 law q d b ||| 2 ^ s)
          have hdl := difq_leC (law := law) hq (b := b) hs
          have hJ5 : J (M + 5) (64 * (b + 1) + (abt1 law q d b ||| 2 ^ s)) = nI (abd law q d (q 0 - (b + 1)) (abt1 law q d b ||| 2 ^ s)) := by
            rw [hF _ (by omega)]; exact hC (b + 1) _ (by omega) hor (Or.inl (Nat.zero_le _))
          have hpe : (s < q 1 ∧ (cas law q d (abt1 law q d b) b s && decide (1000 - difq law q b s + abd law q d (q 0 - (b + 1)) (abt1 law q d b ||| 2 ^ s) = abd law q d (q 0 - b) (abt1 law q d b))) = true) ↔ wwv law q d (abt1 law q d b) b s (abd law q d (q 0 - (b + 1)) (abt1 law q d b ||| 2 ^ s)) = nI (abd law q d (q 0 - b) (abt1 law q d b)) := by
            unfold wwv
            by_cases hsq : s < q 1
            · by_cases hcm : mayc law q b s = true ∧ difq law q b s ≤ d ∧ abt1 law q d b / 2 ^ s % 2 = 0
              · rw [if_pos hcm, (cas_iff hb hsq).mpr hcm, nI_eq (by omega) (by omega)]
                simp [hsq]
              · rw [if_neg hcm]
                constructor
                · intro z
                  have h1 := z.2
                  rw [Bool.and_eq_true] at h1
                  exact absurd ((cas_iff hb hsq).mp h1.1) hcm
                · intro z
                  exact absurd (show nI (abd law q d (q 0 - b) (abt1 law q d b)) < 0 by rw [← z]; decide) (nI_pos (by omega))
            · have hcm : ¬ (mayc law q b s = true ∧ difq law q b s ≤ d ∧ abt1 law q d b / 2 ^ s % 2 = 0) := fun z => by
                have h1 := z.1
                unfold mayc at h1
                rw [decide_eq_false hsq] at h1
                simp at h1
              rw [if_neg hcm]
              constructor
              · intro z; exact absurd z.1 hsq
              · intro z
                exact absurd (show nI (abd law q d (q 0 - b) (abt1 law q d b)) < 0 by rw [← z]; decide) (nI_pos (by omega))
          by_cases hp1 : s < q 1 ∧ (cas law q d (abt1 law q d b) b s && decide (1000 - difq law q b s + abd law q d (q 0 - (b + 1)) (abt1 law q d b ||| 2 ^ s) = abd law q d (q 0 - b) (abt1 law q d b))) = true
          · have hfs := fst1_at (p := fun s => cas law q d (abt1 law q d b) b s && decide (1000 - difq law q b s + abd law q d (q 0 - (b + 1)) (abt1 law q d b ||| 2 ^ s) = abd law q d (q 0 - b) (abt1 law q d b))) (k := q 1) (s := 0) (u := s) (by omega) (by omega) hp1.2
            have hle : abs1 law q d (abt1 law q d b) b ≤ s := hfs.2
            have heq : abs1 law q d (abt1 law q d b) b = s := by have := hsl (by omega); omega
            refine V_iload (pc := 23) dX4_writeRow_23 rfl ?_
            refine V_bipush (pc := 25) (v := nI 6) dX4_writeRow_25 (by decide) ?_
            refine V_icmp_geN (pc := 27) (tgt := 82) dX4_writeRow_27 (by decide) (by omega) (by omega) (fun c27 => absurd c27 (by omega)) (fun n27 => ?_)
            refine V_aload_n (pc := 30) dX4_writeRow_30 rfl ?_
            refine V_getR (pc := 31) 4 5 dX4_writeRow_31 flX4_27 (by decide) h4.o h4.R5 ?_
            refine V_iload (pc := 34) dX4_writeRow_34 rfl ?_
            refine V_ialoadE (pc := 36) dX4_writeRow_36 h4.A5 (by first | decide | omega) (by omega) (h100) ?_
            refine V_bipush (pc := 37) (v := nI 100) dX4_writeRow_37 (by decide) ?_
            refine V_icmp_neN (pc := 39) (tgt := 82) dX4_writeRow_39 (by decide) (by omega) (by omega) (fun c39 => absurd c39 (by omega)) (fun n39 => ?_)
            refine V_aload_n (pc := 42) dX4_writeRow_42 rfl ?_
            refine V_iload (pc := 43) dX4_writeRow_43 rfl ?_
            refine V_iload (pc := 45) dX4_writeRow_45 rfl ?_
            refine V_iload_n (pc := 47) dX4_writeRow_47 rfl ?_
            refine V_iload_n (pc := 48) dX4_writeRow_48 rfl ?_
            refine V_callVd (pc := 49) (ci := 4) (c_X4_worthWith h4 hq hGJ (by omega) hs htk hd (by omega) hJ5) dX4_writeRow_49 mlX4_94 mkX4_worthWith rfl rfl h4.o ⟨by decide, rfl⟩ ⟨Nat.le_of_ble_eq_true rfl, Nat.le_of_ble_eq_true rfl⟩ (Nat.le_of_ble_eq_true rfl) ⟨Nat.le_of_ble_eq_true rfl, Nat.le_of_ble_eq_true rfl⟩ ?_
            refine V_aload_n (pc := 52) dX4_writeRow_52 rfl ?_
            refine V_getR (pc := 53) 4 4 dX4_writeRow_53 flX4_24 (by decide) h4.o h4.R4 ?_
            refine V_iload (pc := 56) dX4_writeRow_56 rfl ?_
            refine V_bipush (pc := 58) (v := nI 64) dX4_writeRow_58 (by decide) ?_
            refine V_imulN (pc := 60) dX4_writeRow_60 ?_
            refine V_iload_n (pc := 61) dX4_writeRow_61 rfl ?_
            refine V_iaddN (pc := 62) dX4_writeRow_62 ?_
            refine V_ialoadE (pc := 63) dX4_writeRow_63 h4.A4 (by first | decide | omega) (by omega) (hlv J hF) ?_
            refine V_icmp_ne (pc := 64) (tgt := 76) dX4_writeRow_64 (by decide) (fun c64 => absurd c64 (by exact fun z => z (hpe.mp hp1))) (fun n64 => ?_)
            refine V_aload_n (pc := 67) dX4_writeRow_67 rfl ?_
            refine V_getR (pc := 68) 4 5 dX4_writeRow_68 flX4_27 (by decide) h4.o h4.R5 ?_
            refine V_iload (pc := 71) dX4_writeRow_71 rfl ?_
            refine V_iload (pc := 73) dX4_writeRow_73 rfl ?_
            refine V_iastore (pc := 75) dX4_writeRow_75 h4.A5 (by first | decide | omega) (by omega) ?_
            refine V_iinc1 (pc := 76) (ls' := [(0, _), (1, _), (2, _), (3, _), (4, _), (5, _)]) dX4_writeRow_76 rfl (by decide) rfl ?_
            refine V_goto (pc := 79) (tgt := 23) dX4_writeRow_79 (by decide) ?_
            skip
            refine V_iload (pc := 23) dX4_writeRow_23 rfl ?_
            refine V_bipush (pc := 25) (v := nI 6) dX4_writeRow_25 (by decide) ?_
            refine V_icmp_geN (pc := 27) (tgt := 82) dX4_writeRow_27 (by decide) (by omega) (by omega) (fun c27 => ?_) (fun n27 => ?_)
            · skip
              exact tail _ s _ (fun x hx => by rw [up2_row hx]; exact hF x hx) (fun c hcc => by rw [up2_nej (by omega)]; exact hc c hcc) up2_self (by rw [heq, if_pos hp1.1])
            · skip
              refine V_aload_n (pc := 30) dX4_writeRow_30 rfl ?_
              refine V_getR (pc := 31) 4 5 dX4_writeRow_31 flX4_27 (by decide) h4.o h4.R5 ?_
              refine V_iload (pc := 34) dX4_writeRow_34 rfl ?_
              refine V_ialoadE (pc := 36) dX4_writeRow_36 h4.A5 (by first | decide | omega) (by omega) (up2_self) ?_
              refine V_bipush (pc := 37) (v := nI 100) dX4_writeRow_37 (by decide) ?_
              refine V_icmp_neN (pc := 39) (tgt := 82) dX4_writeRow_39 (by decide) (by omega) (by omega) (fun c39 => ?_) (fun n39 => absurd n39 (by omega))
              exact tail _ s _ (fun x hx => by rw [up2_row hx]; exact hF x hx) (fun c hcc => by rw [up2_nej (by omega)]; exact hc c hcc) up2_self (by rw [heq, if_pos hp1.1])
          · skip
            refine V_iload (pc := 23) dX4_writeRow_23 rfl ?_
            refine V_bipush (pc := 25) (v := nI 6) dX4_writeRow_25 (by decide) ?_
            refine V_icmp_geN (pc := 27) (tgt := 82) dX4_writeRow_27 (by decide) (by omega) (by omega) (fun c27 => absurd c27 (by omega)) (fun n27 => ?_)
            refine V_aload_n (pc := 30) dX4_writeRow_30 rfl ?_
            refine V_getR (pc := 31) 4 5 dX4_writeRow_31 flX4_27 (by decide) h4.o h4.R5 ?_
            refine V_iload (pc := 34) dX4_writeRow_34 rfl ?_
            refine V_ialoadE (pc := 36) dX4_writeRow_36 h4.A5 (by first | decide | omega) (by omega) (h100) ?_
            refine V_bipush (pc := 37) (v := nI 100) dX4_writeRow_37 (by decide) ?_
            refine V_icmp_neN (pc := 39) (tgt := 82) dX4_writeRow_39 (by decide) (by omega) (by omega) (fun c39 => absurd c39 (by omega)) (fun n39 => ?_)
            refine V_aload_n (pc := 42) dX4_writeRow_42 rfl ?_
            refine V_iload (pc := 43) dX4_writeRow_43 rfl ?_
            refine V_iload (pc := 45) dX4_writeRow_45 rfl ?_
            refine V_iload_n (pc := 47) dX4_writeRow_47 rfl ?_
            refine V_iload_n (pc := 48) dX4_writeRow_48 rfl ?_
            refine V_callVd (pc := 49) (ci := 4) (c_X4_worthWith h4 hq hGJ (by omega) hs htk hd (by omega) hJ5) dX4_writeRow_49 mlX4_94 mkX4_worthWith rfl rfl h4.o ⟨by decide, rfl⟩ ⟨Nat.le_of_ble_eq_true rfl, Nat.le_of_ble_eq_true rfl⟩ (Nat.le_of_ble_eq_true rfl) ⟨Nat.le_of_ble_eq_true rfl, Nat.le_of_ble_eq_true rfl⟩ ?_
            refine V_aload_n (pc := 52) dX4_writeRow_52 rfl ?_
            refine V_getR (pc := 53) 4 4 dX4_writeRow_53 flX4_24 (by decide) h4.o h4.R4 ?_
            refine V_iload (pc := 56) dX4_writeRow_56 rfl ?_
            refine V_bipush (pc := 58) (v := nI 64) dX4_writeRow_58 (by decide) ?_
            refine V_imulN (pc := 60) dX4_writeRow_60 ?_
            refine V_iload_n (pc := 61) dX4_writeRow_61 rfl ?_
            refine V_iaddN (pc := 62) dX4_writeRow_62 ?_
            refine V_ialoadE (pc := 63) dX4_writeRow_63 h4.A4 (by first | decide | omega) (by omega) (hlv J hF) ?_
            refine V_icmp_ne (pc := 64) (tgt := 76) dX4_writeRow_64 (by decide) (fun c64 => ?_) (fun n64 => absurd n64 (by exact fun z => hp1 (hpe.mpr z)))
            refine V_iinc1 (pc := 76) (ls' := [(0, _), (1, _), (2, _), (3, _), (4, _), (5, _)]) dX4_writeRow_76 rfl (by decide) rfl ?_
            refine V_goto (pc := 79) (tgt := 23) dX4_writeRow_79 (by decide) ?_
            refine ih2 J hF hc h100 (fun z => ?_)
            have h1 := hsl z
            have h2 : abs1 law q d (abt1 law q d b) b ≠ s := fun w => hp1 ⟨by omega, by
              have h3 := fst1_tt (p := fun s => cas law q d (abt1 law q d b) b s && decide (1000 - difq law q b s + abd law q d (q 0 - (b + 1)) (abt1 law q d b ||| 2 ^ s) = abd law q d (q 0 - b) (abt1 law q d b))) (q 1) 0 (by have z2 : abs1 law q d (abt1 law q d b) b < q 1 := z; unfold abs1 at z2; omega)
              have w2 : abs1 law q d (abt1 law q d b) b = s := w
              unfold abs1 at w2
              rw [w2] at h3
              exact h3⟩
            omega
      refine V_iload (pc := 5) dX4_writeRow_5 rfl ?_
      refine V_iload_n (pc := 7) dX4_writeRow_7 rfl ?_
      refine V_icmp_geN (pc := 8) (tgt := 112) dX4_writeRow_8 (by decide) (by omega) (by omega) (fun c8 => absurd c8 (by omega)) (fun n8 => ?_)
      refine V_aload_n (pc := 11) dX4_writeRow_11 rfl ?_
      refine V_getR (pc := 12) 4 5 dX4_writeRow_12 flX4_27 (by decide) h4.o h4.R5 ?_
      refine V_iload (pc := 15) dX4_writeRow_15 rfl ?_
      refine V_bipush (pc := 17) (v := nI 100) dX4_writeRow_17 (by decide) ?_
      refine V_iastore (pc := 19) dX4_writeRow_19 h4.A5 (by first | decide | omega) (by omega) ?_
      refine V_iconst (pc := 20) (v := nI 0) dX4_writeRow_20 (by decide) ?_
      refine V_istore (pc := 21) (ls' := [(0, _), (1, _), (2, _), (3, _), (4, _), (5, _)]) dX4_writeRow_21 (by decide) rfl ?_
      exact inn 0 (by omega) _ (fun x hx => by rw [up2_row hx]; exact hF0 x hx) (fun c hcc => by rw [up2_nej (by omega)]; exact hc0 c hcc) up2_self (fun _ => Nat.zero_le _)
  refine V_iconst (pc := 0) (v := nI 0) dX4_writeRow_0 (by decide) ?_
  refine V_istore_n (pc := 1) (ls' := [(0, _), (1, _), (2, _), (3, _)]) dX4_writeRow_1 (by decide) rfl ?_
  refine V_iconst (pc := 2) (v := nI 0) dX4_writeRow_2 (by decide) ?_
  refine V_istore (pc := 3) (ls' := [(0, _), (1, _), (2, _), (3, _), (4, _)]) dX4_writeRow_3 (by decide) rfl ?_
  exact out 0 (by omega) I (fun _ _ => rfl) (fun c hcc => absurd hcc (Nat.not_lt_zero c))
end CY
