/-! THE CLASS: steady, told -/
theorem sm_one {p0 : Nat} : ∀ n, p0 < n → sm (fun p => if p = p0 then 1 else 0) n = 1 := by
  intro n
  induction n with
  | zero => intro h; omega
  | succ n ih =>
    intro h
    rw [sm]
    by_cases e : p0 = n
    · rw [if_pos e.symm]
      have h0 : sm (fun p => if p = p0 then 1 else 0) n = 0 := by
        have := sm_le (f := fun p => if p = p0 then 1 else 0) (c := 0) (n := n) (fun k hk => by show (if k = p0 then 1 else 0) ≤ 0; rw [if_neg (by omega)]; omega)
        omega
      rw [h0]
    · rw [if_neg (fun z => e z.symm), ih (by omega)]
theorem sm_full {f : Nat → Nat} : ∀ n, (∀ k, k < n → f k ≤ 1) → sm f n = n → ∀ k, k < n → f k = 1 := by
  intro n
  induction n with
  | zero => intro _ _ k hk; omega
  | succ n ih =>
    intro h1 h2 k hk
    have h3 := sm_le (f := f) (c := 1) (n := n) (fun k hk => h1 k (by omega))
    have h4 := h1 n (by omega)
    rw [sm] at h2
    by_cases e : k = n
    · subst e; omega
    · exact ih (fun k hk => h1 k (by omega)) (by omega) k (by omega)
def cntA (as : Nat → Nat → Bool) : Nat := sm (fun p => (as (p / 6) (p % 6)).toNat) 36
theorem cntA_s {as : Nat → Nat → Bool} {b s : Nat} (hb : b < 6) (hs : s < 6) (ha : as b s = false) : cntA (fun c t => as c t || (decide (c = b) && decide (t = s))) = cntA as + 1 := by
  unfold cntA
  rw [← sm_one (p0 := b * 6 + s) 36 (by omega), sm_addC]
  refine sm_cong fun p hp => ?_
  show (as (p / 6) (p % 6) || (decide (p / 6 = b) && decide (p % 6 = s))).toNat = (as (p / 6) (p % 6)).toNat + if p = b * 6 + s then 1 else 0
  by_cases e : p = b * 6 + s
  · rw [if_pos e, show p / 6 = b by omega, show p % 6 = s by omega, ha]; simp
  · rw [if_neg e]
    have : (decide (p / 6 = b) && decide (p % 6 = s)) = false := by
      cases h : (decide (p / 6 = b) && decide (p % 6 = s)) with
      | false => rfl
      | true => rw [Bool.and_eq_true, decide_eq_true_iff, decide_eq_true_iff] at h; omega
    rw [this, Bool.or_false, Nat.add_zero]
theorem cntA_36 {as : Nat → Nat → Bool} (h : cntA as = 36) {b s : Nat} (hb : b < 6) (hs : s < 6) : as b s = true := by
  have := sm_full (f := fun p => (as (p / 6) (p % 6)).toNat) 36 (fun k _ => by show (as (k / 6) (k % 6)).toNat ≤ 1; cases as (k / 6) (k % 6) <;> decide) h (b * 6 + s) (by omega)
  have this : (as ((b * 6 + s) / 6) ((b * 6 + s) % 6)).toNat = 1 := this
  rw [show (b * 6 + s) / 6 = b by omega, show (b * 6 + s) % 6 = s by omega] at this
  cases z : as b s with
  | true => rfl
  | false => rw [z] at this; cases this
section DB
variable {E : EnT} {S : ST} {I : IT} {L : LT} {M g tt : Nat} {law : LawT} {q : Nat → Nat}
theorem c_X4_askAll (h4 : Lay4 E S M) (h10 : Lay10 E S g tt) (hq : wq q) (hv : I (g + 1) 0 = nI (q 0)) (hG : GaM I M law q (q 0) 0) (hgM : g + 1 < M ∨ M + 6 < g + 1) : C E kX4_askAll 2 0 0 [.ref M, .ref g] S I L (fun r S' I' L' => r = none ∧ S = S' ∧ L = L' ∧ (∀ x, x ≠ M + 3 → x ≠ M + 4 → I' x = I x) ∧ ∃ kp, (∀ s, s < 6 → I' (M + 4) s = pred1 (kp s)) ∧ (∀ s, s < 6 → kp s ≤ 6) ∧ BestM (q 0) (q 1) (mayq law q) (difq law q) (lik law q) (fun b => mk1 kp b 6)) := by
  have hnb := hq.nb
  have hns := hq.ns
  refine C_of (by decide) (Nat.le_of_ble_eq_true rfl) ?_
  generalize hPost : (fun (r : Option Value) (S' : ST) (I' : IT) (L' : LT) => r = none ∧ S = S' ∧ L = L' ∧ (∀ x, x ≠ M + 3 → x ≠ M + 4 → I' x = I x) ∧ ∃ kp, (∀ s, s < 6 → I' (M + 4) s = pred1 (kp s)) ∧ (∀ s, s < 6 → kp s ≤ 6) ∧ BestM (q 0) (q 1) (mayq law q) (difq law q) (lik law q) (fun b => mk1 kp b 6)) = post
  have fin : ∀ J as kp, (∀ x, x ≠ M + 3 → x ≠ M + 4 → J x = I x) → AkM J M as kp → Ask (q 0) (q 1) (mayq law q) as (difq law q) (lik law q) kp → (∀ b, b < q 0 → mk1 kp b 6 = 0 → ∀ s, s < 6 → mayc law q b s = true → as b s = true) → post none S J L := by
    intro J as kp hF hA hK hend
    rw [← hPost]
    refine ⟨rfl, rfl, rfl, hF, kp, hA.2, fun s hs => ?_, hK.fin hns (fun b hb hun s hs hm => ?_)⟩
    · rcases hz : kp s with _ | c
      · omega
      · have := (hK.1 c s (hK.2.1 c s hz)).1; omega
    · refine hend b hb ?_ s (by omega) (by unfold mayc; rw [decide_eq_true hb, decide_eq_true hs, hm]; rfl)
      rcases mk1_ok kp b 6 with ⟨z, -⟩ | ⟨t, t1, t2, t3⟩
      · exact z
      · exact absurd t3 (hun t t1)
  have key : ∀ n, n ≤ 36 → ∀ J as kp, (∀ x, x ≠ M + 3 → x ≠ M + 4 → J x = I x) → AkM J M as kp → Ask (q 0) (q 1) (mayq law q) as (difq law q) (lik law q) kp → cntA as = n → V E kX4_askAll (rmOf 2 0 0) (QM E post 0 0) 0 0 S J L 18 [(0, .ref M), (1, .ref g), (2, .int (nI n))] [] := by
    refine loopUp (n := 36) (P := fun n => ∀ J as kp, (∀ x, x ≠ M + 3 → x ≠ M + 4 → J x = I x) → AkM J M as kp → Ask (q 0) (q 1) (mayq law q) as (difq law q) (lik law q) kp → cntA as = n → V E kX4_askAll (rmOf 2 0 0) (QM E post 0 0) 0 0 S J L 18 [(0, .ref M), (1, .ref g), (2, .int (nI n))] []) ?_ ?_
    · intro J as kp hF hA hK hc
      have hpp := fin J as kp hF hA hK (fun b hb _ s hs _ => cntA_36 hc (by omega) hs)
      refine V_iload_n (pc := 18) dX4_askAll_18 rfl ?_
      refine V_bipush (pc := 19) (v := nI 36) dX4_askAll_19 (by decide) ?_
      refine V_icmp_geN (pc := 21) (tgt := 104) dX4_askAll_21 (by decide) (by omega) (by omega) (fun c21 => ?_) (fun n21 => absurd n21 (by omega))
      refine V_vret (pc := 104) dX4_askAll_104 rfl (by first | decide | omega) (by first | decide | omega) ?_
      exact hpp
    · intro n hn ih J as kp hF hA hK hc
      have hGJ : GaM J M law q (q 0) 0 := hG.cg (hF _ (by omega) (by omega)) (hF _ (by omega) (by omega))
      have hvJ : J (g + 1) 0 = nI (q 0) := by rw [hF _ (by omega) (by omega)]; exact hv
      have hkp : ∀ s, s < 6 → kp s ≤ 6 := fun s hs => by
        rcases hz : kp s with _ | c
        · omega
        · have := (hK.1 c s (hK.2.1 c s hz)).1; omega
      refine V_iload_n (pc := 18) dX4_askAll_18 rfl ?_
      refine V_bipush (pc := 19) (v := nI 36) dX4_askAll_19 (by decide) ?_
      refine V_icmp_geN (pc := 21) (tgt := 104) dX4_askAll_21 (by decide) (by omega) (by omega) (fun c21 => absurd c21 (by omega)) (fun n21 => ?_)
      refine V_aload_n (pc := 24) dX4_askAll_24 rfl ?_
      refine V_aload_n (pc := 25) dX4_askAll_25 rfl ?_
      refine V_getR (pc := 26) 10 0 dX4_askAll_26 flX4_36 (by decide) h10.o h10.R0 ?_
      refine V_getIE (pc := 29) 9 0 dX4_askAll_29 flX4_42 (by decide) h10.O0.o (hvJ) ?_
      refine V_callV (pc := 32) (ci := 4) (c_X4_nextToAsk h4 hq hGJ hA hkp) dX4_askAll_32 mlX4_84 mkX4_nextToAsk rfl rfl h4.o ⟨by decide, rfl⟩ ⟨Nat.le_of_ble_eq_true rfl, Nat.le_of_ble_eq_true rfl⟩ (Nat.le_of_ble_eq_true rfl) ⟨Nat.le_of_ble_eq_true rfl, Nat.le_of_ble_eq_true rfl⟩ (fun r S' I' L' hp => ?_)
      obtain ⟨hpo, rfl, rfl, rfl⟩ := hp
      skip
      rcases hpo with ⟨rfl, hend⟩ | ⟨b, s, rfl, hb, hs, hun, hm, ha, hnear⟩
      · have hpp := fin J as kp hF hA hK hend
        refine V_istore_n (pc := 35) (ls' := [(0, _), (1, _), (2, _), (3, _)]) dX4_askAll_35 (by decide) rfl ?_
        refine V_iload_n (pc := 36) dX4_askAll_36 rfl ?_
        refine V_iconst (pc := 37) (v := (-1)) dX4_askAll_37 (by decide) ?_
        refine V_icmp_ne (pc := 38) (tgt := 42) dX4_askAll_38 (by decide) (fun c38 => absurd c38 (by exact fun z => z rfl)) (fun n38 => ?_)
        refine V_vret (pc := 41) dX4_askAll_41 rfl (by first | decide | omega) (by first | decide | omega) ?_
        exact hpp
      · have hm3 : b < q 0 ∧ s < q 1 ∧ mayq law q b s = true := by
          unfold mayc at hm
          rw [Bool.and_eq_true, Bool.and_eq_true, decide_eq_true_iff, decide_eq_true_iff] at hm
          exact hm
        have hunk : ∀ t, kp t ≠ b + 1 := fun t z => by
          have h1 := (hK.1 b t (hK.2.1 b t z)).2.1
          rcases mk1_ok kp b 6 with ⟨-, y⟩ | ⟨u, -, y2, -⟩
          · exact y t (by omega) z
          · rw [y2] at hun; omega
        have hstep := hK.step hb hm3.2.1 hm3.2.2 ha hunk (fun t ht hmt hat => hnear t (by omega) (by unfold mayc; rw [decide_eq_true hb, decide_eq_true ht, hmt]; rfl) hat)
        have hcnt := cntA_s (show b < 6 by omega) hs ha
        rw [hc] at hcnt
        have d6 : (b * 6 + s) / 6 = b := by omega
        have m6 : (b * 6 + s) % 6 = s := by omega
        have hks := hkp s hs
        have hlb := lik_le law q b s
        have nsts : ∀ J2, (∀ x, x ≠ M + 3 → x ≠ M + 4 → J2 x = I x) → J2 (M + 3) = up2 J (M + 3) (b * 6 + s) (nI 1) (M + 3) → (∀ t, t < 6 → J2 (M + 4) t = pred1 (if t = s then (if kp s = 0 ∨ (lik law q (kp s - 1) s < lik law q b s ∨ (lik law q b s = lik law q (kp s - 1) s ∧ b < kp s - 1)) then b + 1 else kp s) else kp t)) → V E kX4_askAll (rmOf 2 0 0) (QM E post 0 0) 0 0 S J2 L 98 [(0, .ref M), (1, .ref g), (2, .int (nI n))] [] := by
          intro J2 hF2 h3 h4'
          refine V_iinc1 (pc := 98) (ls' := [(0, _), (1, _), (2, _)]) dX4_askAll_98 rfl (by decide) rfl ?_
          refine V_goto (pc := 101) (tgt := 18) dX4_askAll_101 (by decide) ?_
          refine ih J2 _ _ hF2 ⟨fun c t hc6 ht6 => ?_, h4'⟩ hstep hcnt
          rw [h3]
          by_cases e : c = b ∧ t = s
          · obtain ⟨rfl, rfl⟩ := e
            rw [up2_self]; simp [b2i]
          · rw [up2_nej (by omega), hA.1 c t hc6 ht6]
            have : (decide (c = b) && decide (t = s)) = false := by
              cases h : (decide (c = b) && decide (t = s)) with
              | false => rfl
              | true => rw [Bool.and_eq_true, decide_eq_true_iff, decide_eq_true_iff] at h; exact absurd h e
            show b2i (as c t) = b2i (as c t || (decide (c = b) && decide (t = s)))
            rw [this, Bool.or_false]
        have fr1 : ∀ x, x ≠ M + 3 → x ≠ M + 4 → up2 J (M + 3) (b * 6 + s) (nI 1) x = I x := fun x a1 a2 => by rw [up2_row a1]; exact hF x a1 a2
        have fr2 : ∀ x, x ≠ M + 3 → x ≠ M + 4 → up2 (up2 J (M + 3) (b * 6 + s) (nI 1)) (M + 4) s (nI b) x = I x := fun x a1 a2 => by rw [up2_row a2]; exact fr1 x a1 a2
        have taken : (kp s = 0 ∨ (lik law q (kp s - 1) s < lik law q b s ∨ (lik law q b s = lik law q (kp s - 1) s ∧ b < kp s - 1))) → V E kX4_askAll (rmOf 2 0 0) (QM E post 0 0) 0 0 S (up2 (up2 J (M + 3) (b * 6 + s) (nI 1)) (M + 4) s (nI b)) L 98 [(0, .ref M), (1, .ref g), (2, .int (nI n))] [] := fun hw => by
          rw [if_pos hw] at nsts
          refine nsts _ fr2 (by rw [up2_row (by omega)]) (fun t ht => ?_)
          by_cases e : t = s
          · subst e; rw [up2_self, if_pos rfl, pred1_s]
          · rw [up2_nej e, if_neg e, up2_ne (by omega)]; exact hA.2 t ht
        by_cases hk0 : kp s = 0
        · skip
          refine V_istore_n (pc := 35) (ls' := [(0, _), (1, _), (2, _), (3, _)]) dX4_askAll_35 (by decide) rfl ?_
          refine V_iload_n (pc := 36) dX4_askAll_36 rfl ?_
          refine V_iconst (pc := 37) (v := (-1)) dX4_askAll_37 (by decide) ?_
          refine V_icmp_ne (pc := 38) (tgt := 42) dX4_askAll_38 (by decide) (fun c38 => ?_) (fun n38 => absurd n38 (by exact fun z => absurd (show nI (b * 6 + s) < 0 by rw [z]; decide) (nI_pos (by omega))))
          refine V_aload_n (pc := 42) dX4_askAll_42 rfl ?_
          refine V_getR (pc := 43) 4 2 dX4_askAll_43 flX4_18 (by decide) h4.o h4.R2 ?_
          refine V_iload_n (pc := 46) dX4_askAll_46 rfl ?_
          refine V_iconst (pc := 47) (v := nI 1) dX4_askAll_47 (by decide) ?_
          refine V_iastore (pc := 48) dX4_askAll_48 h4.A2 (by first | decide | omega) (by omega) ?_
          refine V_iload_n (pc := 49) dX4_askAll_49 rfl ?_
          refine V_bipush (pc := 50) (v := nI 6) dX4_askAll_50 (by decide) ?_
          refine V_idivN (pc := 52) dX4_askAll_52 (by omega) (by omega) (by omega) ?_
          rw [d6]
          refine V_istore (pc := 53) (ls' := [(0, _), (1, _), (2, _), (3, _), (4, _)]) dX4_askAll_53 (by decide) rfl ?_
          refine V_iload_n (pc := 55) dX4_askAll_55 rfl ?_
          refine V_bipush (pc := 56) (v := nI 6) dX4_askAll_56 (by decide) ?_
          refine V_iremN (pc := 58) dX4_askAll_58 (by omega) (by omega) (by omega) ?_
          rw [m6]
          refine V_istore (pc := 59) (ls' := [(0, _), (1, _), (2, _), (3, _), (4, _), (5, _)]) dX4_askAll_59 (by decide) rfl ?_
          refine V_aload_n (pc := 61) dX4_askAll_61 rfl ?_
          refine V_getR (pc := 62) 4 3 dX4_askAll_62 flX4_21 (by decide) h4.o h4.R3 ?_
          refine V_iload (pc := 65) dX4_askAll_65 rfl ?_
          refine V_ialoadE (pc := 67) dX4_askAll_67 h4.A3 (by first | decide | omega) (by omega) ((up2_ne (by omega)).trans (hA.2 s hs)) ?_
          refine V_istore (pc := 68) (ls' := [(0, _), (1, _), (2, _), (3, _), (4, _), (5, _), (6, _)]) dX4_askAll_68 (by decide) rfl ?_
          refine V_iload (pc := 70) dX4_askAll_70 rfl ?_
          refine V_iconst (pc := 72) (v := (-1)) dX4_askAll_72 (by decide) ?_
          refine V_icmp_eq (pc := 73) (tgt := 89) dX4_askAll_73 (by decide) (fun c73 => ?_) (fun n73 => absurd n73 (by exact fun z => z ((pred1_none (by omega)).mpr hk0)))
          refine V_aload_n (pc := 89) dX4_askAll_89 rfl ?_
          refine V_getR (pc := 90) 4 3 dX4_askAll_90 flX4_21 (by decide) h4.o h4.R3 ?_
          refine V_iload (pc := 93) dX4_askAll_93 rfl ?_
          refine V_iload (pc := 95) dX4_askAll_95 rfl ?_
          refine V_iastore (pc := 97) dX4_askAll_97 h4.A3 (by first | decide | omega) (by omega) ?_
          refine V_loc [0, 1, 2] rfl ?_
          exact taken (Or.inl hk0)
        · obtain ⟨c, hc1⟩ : ∃ c, kp s = c + 1 := ⟨kp s - 1, by omega⟩
          have hcm := hK.1 c s (hK.2.1 c s hc1)
          have hgb := (hGJ b s (by omega) hs).1 ⟨Or.inl hb, hm⟩
          have hgc := (hGJ c s (by omega) hs).1 ⟨Or.inl hcm.1, by unfold mayc; rw [decide_eq_true hcm.1, decide_eq_true hcm.2.1, hcm.2.2]; rfl⟩
          have hlc := lik_le law q c s
          rw [hc1, Nat.add_sub_cancel] at taken nsts
          have hps : J (M + 4) s = nI c := by rw [hA.2 s hs, hc1, pred1_s]
          refine V_istore_n (pc := 35) (ls' := [(0, _), (1, _), (2, _), (3, _)]) dX4_askAll_35 (by decide) rfl ?_
          refine V_iload_n (pc := 36) dX4_askAll_36 rfl ?_
          refine V_iconst (pc := 37) (v := (-1)) dX4_askAll_37 (by decide) ?_
          refine V_icmp_ne (pc := 38) (tgt := 42) dX4_askAll_38 (by decide) (fun c38 => ?_) (fun n38 => absurd n38 (by exact fun z => absurd (show nI (b * 6 + s) < 0 by rw [z]; decide) (nI_pos (by omega))))
          refine V_aload_n (pc := 42) dX4_askAll_42 rfl ?_
          refine V_getR (pc := 43) 4 2 dX4_askAll_43 flX4_18 (by decide) h4.o h4.R2 ?_
          refine V_iload_n (pc := 46) dX4_askAll_46 rfl ?_
          refine V_iconst (pc := 47) (v := nI 1) dX4_askAll_47 (by decide) ?_
          refine V_iastore (pc := 48) dX4_askAll_48 h4.A2 (by first | decide | omega) (by omega) ?_
          refine V_iload_n (pc := 49) dX4_askAll_49 rfl ?_
          refine V_bipush (pc := 50) (v := nI 6) dX4_askAll_50 (by decide) ?_
          refine V_idivN (pc := 52) dX4_askAll_52 (by omega) (by omega) (by omega) ?_
          rw [d6]
          refine V_istore (pc := 53) (ls' := [(0, _), (1, _), (2, _), (3, _), (4, _)]) dX4_askAll_53 (by decide) rfl ?_
          refine V_iload_n (pc := 55) dX4_askAll_55 rfl ?_
          refine V_bipush (pc := 56) (v := nI 6) dX4_askAll_56 (by decide) ?_
          refine V_iremN (pc := 58) dX4_askAll_58 (by omega) (by omega) (by omega) ?_
          rw [m6]
          refine V_istore (pc := 59) (ls' := [(0, _), (1, _), (2, _), (3, _), (4, _), (5, _)]) dX4_askAll_59 (by decide) rfl ?_
          refine V_aload_n (pc := 61) dX4_askAll_61 rfl ?_
          refine V_getR (pc := 62) 4 3 dX4_askAll_62 flX4_21 (by decide) h4.o h4.R3 ?_
          refine V_iload (pc := 65) dX4_askAll_65 rfl ?_
          refine V_ialoadE (pc := 67) dX4_askAll_67 h4.A3 (by first | decide | omega) (by omega) ((up2_ne (by omega)).trans hps) ?_
          refine V_istore (pc := 68) (ls' := [(0, _), (1, _), (2, _), (3, _), (4, _), (5, _), (6, _)]) dX4_askAll_68 (by decide) rfl ?_
          refine V_iload (pc := 70) dX4_askAll_70 rfl ?_
          refine V_iconst (pc := 72) (v := (-1)) dX4_askAll_72 (by decide) ?_
          refine V_icmp_eq (pc := 73) (tgt := 89) dX4_askAll_73 (by decide) (fun c73 => absurd c73 (by exact fun z => absurd (show nI c < 0 by rw [z]; decide) (nI_pos (by omega)))) (fun n73 => ?_)
          refine V_aload_n (pc := 76) dX4_askAll_76 rfl ?_
          refine V_iload (pc := 77) dX4_askAll_77 rfl ?_
          refine V_iload (pc := 79) dX4_askAll_79 rfl ?_
          refine V_iload (pc := 81) dX4_askAll_81 rfl ?_
          refine V_callVd (pc := 83) (ci := 4) (c_X4_isLiked h4 hs (by omega) (by omega) ⟨hlb, hlc⟩ ((up2_ne (by omega)).trans hgb.2) ((up2_ne (by omega)).trans hgc.2)) dX4_askAll_83 mlX4_87 mkX4_isLiked rfl rfl h4.o ⟨by decide, rfl⟩ ⟨Nat.le_of_ble_eq_true rfl, Nat.le_of_ble_eq_true rfl⟩ (Nat.le_of_ble_eq_true rfl) ⟨Nat.le_of_ble_eq_true rfl, Nat.le_of_ble_eq_true rfl⟩ ?_
          refine V_if_eqB (pc := 86) (tgt := 98) dX4_askAll_86 (by decide) (fun c86 => ?_) (fun n86 => ?_)
          · skip
            refine V_loc [0, 1, 2] rfl ?_
            first
            | exact taken (Or.inr (of_decide_eq_true n86))
            | (have hw : ¬ (c + 1 = 0 ∨ (lik law q c s < lik law q b s ∨ (lik law q b s = lik law q c s ∧ b < c))) := fun z => by
                 rcases z with z | z
                 · omega
                 · exact of_decide_eq_false c86 z
               rw [if_neg hw] at nsts
               refine nsts _ fr1 rfl (fun t ht => ?_)
               by_cases e : t = s
               · subst e; rw [if_pos rfl, up2_ne (by omega), hps, pred1_s]
               · rw [if_neg e, up2_ne (by omega)]; exact hA.2 t ht)
            | fail
          · skip
            refine V_aload_n (pc := 89) dX4_askAll_89 rfl ?_
            refine V_getR (pc := 90) 4 3 dX4_askAll_90 flX4_21 (by decide) h4.o h4.R3 ?_
            refine V_iload (pc := 93) dX4_askAll_93 rfl ?_
            refine V_iload (pc := 95) dX4_askAll_95 rfl ?_
            refine V_iastore (pc := 97) dX4_askAll_97 h4.A3 (by first | decide | omega) (by omega) ?_
            refine V_loc [0, 1, 2] rfl ?_
            first
            | exact taken (Or.inr (of_decide_eq_true n86))
            | (have hw : ¬ (c + 1 = 0 ∨ (lik law q c s < lik law q b s ∨ (lik law q b s = lik law q c s ∧ b < c))) := fun z => by
                 rcases z with z | z
                 · omega
                 · exact of_decide_eq_false c86 z
               rw [if_neg hw] at nsts
               refine nsts _ fr1 rfl (fun t ht => ?_)
               by_cases e : t = s
               · subst e; rw [if_pos rfl, up2_ne (by omega), hps, pred1_s]
               · rw [if_neg e, up2_ne (by omega)]; exact hA.2 t ht)
            | fail
  refine V_aload_n (pc := 0) dX4_askAll_0 rfl ?_
  refine V_getR (pc := 1) 4 2 dX4_askAll_1 flX4_18 (by decide) h4.o h4.R2 ?_
  refine V_iconst (pc := 4) (v := nI 0) dX4_askAll_4 (by decide) ?_
  refine V_callSn (pc := 5) (c_J7_fill_53178 h4.A2 (by omega)) dX4_askAll_5 mlX4_30 mkJ7_fill_53178 rfl rfl ⟨Nat.le_of_ble_eq_true rfl, Nat.le_of_ble_eq_true rfl⟩ (Nat.le_of_ble_eq_true rfl) ⟨Nat.le_of_ble_eq_true rfl, Nat.le_of_ble_eq_true rfl⟩ ?_
  refine V_aload_n (pc := 8) dX4_askAll_8 rfl ?_
  refine V_getR (pc := 9) 4 3 dX4_askAll_9 flX4_21 (by decide) h4.o h4.R3 ?_
  refine V_iconst (pc := 12) (v := (-1)) dX4_askAll_12 (by decide) ?_
  refine V_callSn (pc := 13) (c_J7_fill_53178 h4.A3 (by omega)) dX4_askAll_13 mlX4_30 mkJ7_fill_53178 rfl rfl ⟨Nat.le_of_ble_eq_true rfl, Nat.le_of_ble_eq_true rfl⟩ (Nat.le_of_ble_eq_true rfl) ⟨Nat.le_of_ble_eq_true rfl, Nat.le_of_ble_eq_true rfl⟩ ?_
  refine V_iconst (pc := 16) (v := nI 0) dX4_askAll_16 (by decide) ?_
  refine V_istore_n (pc := 17) (ls' := [(0, _), (1, _), (2, _)]) dX4_askAll_17 (by decide) rfl ?_
  refine key 0 (by omega) _ (fun _ _ => false) (fun _ => 0) (fun x a1 a2 => by rw [upr_row a2, upr_row a1]) ⟨fun b s hb hs => ?_, fun s hs => ?_⟩ Ask.start ?_
  · rw [upr_row (by omega), upr_self, if_pos (by omega)]; rfl
  · rw [upr_self, if_pos (by omega)]; rfl
  · decide
end DB
section DB2
variable {E : EnT} {S : ST} {I : IT} {L : LT} {B : Nat} {A : AT}
theorem c_X11_steady (h11 : Lay11 E S B) (hR : CR E S B I A) (hA : wfA A) {x : Int32} : Cc E kX11_steady 6 [.ref B, .int x] S I L B (.int (spSteady A x)) A := by
  have hq := hA.q
  have hnb := hq.nb
  refine C_of (by decide) (Nat.le_of_ble_eq_true rfl) ?_
  refine V_aload_n (pc := 0) dX11_steady_0 rfl ?_
  refine V_getR (pc := 1) 11 0 dX11_steady_1 flX11_91 (by decide) h11.o h11.R0 ?_
  refine V_getR (pc := 4) 10 0 dX11_steady_4 flX11_116 (by decide) h11.O0.o h11.O0.R0 ?_
  refine V_iload_n (pc := 7) dX11_steady_7 rfl ?_
  refine V_callVd (pc := 8) (ci := 9) (c_X9_hasBox h11.O0.O0 hR.1.1 hq) dX11_steady_8 mlX11_140 mkX9_hasBox rfl rfl h11.O0.O0.o ⟨by decide, rfl⟩ ⟨Nat.le_of_ble_eq_true rfl, Nat.le_of_ble_eq_true rfl⟩ (Nat.le_of_ble_eq_true rfl) ⟨Nat.le_of_ble_eq_true rfl, Nat.le_of_ble_eq_true rfl⟩ ?_
  refine V_if_neB (pc := 11) (tgt := 16) dX11_steady_11 (by decide) (fun c11 => ?_) (fun n11 => ?_)
  · skip
    rw [spSteady, if_pos c11]
    obtain ⟨b, hb, hx⟩ := bnd_ex (by omega) c11
    subst hx
    rw [cln_nI (by omega)]
    refine V_aload_n (pc := 16) dX11_steady_16 rfl ?_
    refine V_getR (pc := 17) 11 6 dX11_steady_17 flX11_22 (by decide) h11.o h11.R6 ?_
    refine V_aload_n (pc := 20) dX11_steady_20 rfl ?_
    refine V_getR (pc := 21) 11 0 dX11_steady_21 flX11_91 (by decide) h11.o h11.R0 ?_
    refine V_aload_n (pc := 24) dX11_steady_24 rfl ?_
    refine V_getR (pc := 25) 11 3 dX11_steady_25 flX11_95 (by decide) h11.o h11.R3 ?_
    refine V_callV (pc := 28) (ci := 4) (c_X4_gather h11 hR hA) dX11_steady_28 mlX11_303 mkX4_gather rfl rfl h11.O6.o ⟨by decide, rfl⟩ ⟨Nat.le_of_ble_eq_true rfl, Nat.le_of_ble_eq_true rfl⟩ (Nat.le_of_ble_eq_true rfl) ⟨Nat.le_of_ble_eq_true rfl, Nat.le_of_ble_eq_true rfl⟩ (fun r S' I' L' hp => ?_)
    obtain ⟨rfl, rfl, rfl, hF, hG⟩ := hp
    have hRJ := hR.dd hF.dd
    refine V_aload_n (pc := 31) dX11_steady_31 rfl ?_
    refine V_getR (pc := 32) 11 6 dX11_steady_32 flX11_22 (by decide) h11.o h11.R6 ?_
    refine V_aload_n (pc := 35) dX11_steady_35 rfl ?_
    refine V_getR (pc := 36) 11 0 dX11_steady_36 flX11_91 (by decide) h11.o h11.R0 ?_
    refine V_callV (pc := 39) (ci := 4) (c_X4_askAll h11.O6 h11.O0 hq hRJ.1.1.1 hG (by omega)) dX11_steady_39 mlX11_307 mkX4_askAll rfl rfl h11.O6.o ⟨by decide, rfl⟩ ⟨Nat.le_of_ble_eq_true rfl, Nat.le_of_ble_eq_true rfl⟩ (Nat.le_of_ble_eq_true rfl) ⟨Nat.le_of_ble_eq_true rfl, Nat.le_of_ble_eq_true rfl⟩ (fun r S' I' L' hp => ?_)
    obtain ⟨rfl, rfl, rfl, hF2, kp, hk1, hk2, hB⟩ := hp
    have hD : DdC B I' I := hF.dd.tr (DdC.of fun x hx => hF2 x (by unfold lvC at hx; omega) (by unfold lvC at hx; omega))
    have hRK := hR.dd hD
    refine V_aload_n (pc := 42) dX11_steady_42 rfl ?_
    refine V_getR (pc := 43) 11 6 dX11_steady_43 flX11_22 (by decide) h11.o h11.R6 ?_
    refine V_iload_n (pc := 46) dX11_steady_46 rfl ?_
    refine V_callVd (pc := 47) (ci := 4) (c_X4_suitorThatKeeps h11.O6 hk2 hk1 (by omega)) dX11_steady_47 mlX11_311 mkX4_suitorThatKeeps rfl rfl h11.O6.o ⟨by decide, rfl⟩ ⟨Nat.le_of_ble_eq_true rfl, Nat.le_of_ble_eq_true rfl⟩ (Nat.le_of_ble_eq_true rfl) ⟨Nat.le_of_ble_eq_true rfl, Nat.le_of_ble_eq_true rfl⟩ ?_
    refine V_iret (pc := 50) dX11_steady_50 rfl (by first | decide | omega) (by first | decide | omega) ?_
    exact ⟨by rw [← stdM_eq hB b hb], rfl, hRK, hD.Fr⟩
  · skip
    refine V_iconst (pc := 14) (v := (-1)) dX11_steady_14 (by decide) ?_
    refine V_iret (pc := 15) dX11_steady_15 rfl (by first | decide | omega) (by first | decide | omega) ?_
    rw [spSteady, if_neg (by rw [n11]; decide)]
    exact ⟨rfl, rfl, hR, FrC.rf⟩
end DB2
