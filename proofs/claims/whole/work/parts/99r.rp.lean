/-! THE READER: parts -/
def SgR (s : Nat) (c c' : CT) (l l' : Nat) (G : SF) : Prop := AG s c' c ∧ (∀ j, s ≤ j → j < c'.2.2 → c'.1 j ≠ 31 ∧ ((c'.1 j = 29 ∨ c'.1 j = 30) → j < c'.2.1 j ∧ c'.2.1 j ≤ c'.2.2)) ∧ ∃ mm, mm + l ≤ l' ∧ Rn lfC c'.1 c'.2.1 s c'.2.2 mm G
def PO (o : Nat) (t : Nat → Nat) (n m : Nat) (od : Bool) (S : ST) (L : LT) (I : IT) (k l : Nat) (c : CT) (nt : Nat) (r0 : PR) (r : Option Value) (S' : ST) (I' : IT) (L' : LT) : Prop := S = S' ∧ L = L' ∧ FrX5 o I' I ∧ ((r0.2.2 = none ∧ r = some (.int (b2i false)) ∧ ∃ k', k' ≤ m ∧ I' o 4 = nI k' ∧ pk t n k' = r0.1) ∨ ∃ G, r0.2.2 = some G ∧ r = some (.int (b2i true)) ∧ ∃ k' c', RS I' o t n m od k' r0.2.1 c' ∧ pk t n k' = r0.1 ∧ k < k' ∧ c'.2.2 + k ≤ c.2.2 + k' ∧ SgR c.2.2 c c' l r0.2.1 G ∧ (3 ≤ nt → TFo G))
def CLS (E : EnT) (S : ST) (o : Nat) (t : Nat → Nat) (n m : Nat) (od : Bool) (lv f : Nat) : Prop := ∀ (d k l : Nat) (c : CT) (I : IT) (L : LT) (F : SF) (s : Nat), d ≤ 8 → rkn lv + 8 * (n - pk t n k) ≤ f → RS I o t n m od k l c → c.2.2 ≤ k + s → s ≤ 47 → l ≤ 50 → C E kX5_readSum (3 * (8 - d) + rkn lv) 0 0 [.ref o, .int (nI lv), .int (nI d)] S I L (PO o t n m od S L I k l c lv (ps t n od f lv d (pk t n k) l F))
def CLP (E : EnT) (S : ST) (o : Nat) (t : Nat → Nat) (n m : Nat) (od : Bool) (f : Nat) : Prop := ∀ (d k l : Nat) (c : CT) (I : IT) (L : LT) (F : SF) (s : Nat), d ≤ 8 → rkn 2 + 8 * (n - pk t n k) ≤ f → RS I o t n m od k l c → c.2.2 ≤ k + s → s ≤ 47 → l ≤ 50 → C E kX5_readPart (3 * (8 - d) + 1) 0 0 [.ref o, .int (nI d)] S I L (PO o t n m od S L I k l c 2 (ps t n od f 2 d (pk t n k) l F))
theorem rmS {D d' x : Nat} (h : d' + 1 ≤ D) (hx : x ≤ 45) : d' + 1 ≤ (rmOf D 0 0).frames ∧ 8 + (x + 11) + 64 * d' ≤ (rmOf D 0 0).locals := ⟨h, by show _ ≤ 64 * D; omega⟩
section RP
variable {E : EnT} {S : ST} {I : IT} {L : LT} {o n m k l d f s : Nat} {t : Nat → Nat} {od : Bool} {c : CT} {F : SF}
theorem SgR.leaf {x b : Nat} {G : SF} {l : Nat} (hx : x < 20) (hG : ∀ w, G w = some (lfC w x b)) : SgR c.2.2 c (pc1 c x b) l (l + 1) G := by
  have e1 : (pc1 c x b).1 c.2.2 = x := if_pos rfl
  have e2 : (pc1 c x b).2.1 c.2.2 = b := if_pos rfl
  refine ⟨fun j hj => ⟨if_neg (by omega), if_neg (by omega)⟩, fun j h1 h2 => ?_, 1, by omega, ?_⟩
  · have h3 : j < c.2.2 + 1 := h2
    have h4 : j = c.2.2 := by omega
    rw [h4, e1]
    exact ⟨by omega, fun h => by omega⟩
  · refine Rn_leaf (s := c.2.2) (by rw [e1]; exact hx) (fun w => ?_)
    rw [e1, e2]; exact hG w
theorem pkm_lt (h : ScM I o t n m) (hk : k < m) : pk t n k < pk t n (k + 1) ∧ pk t n (k + 1) ≤ n := by
  have h1 := h.2.2.2.1 k hk
  have h2 := nxt_le (t := t) (n := n) (p := pk t n k) (by omega)
  rw [pk_s]; omega
theorem rp_br (h5 : Lay5 E S o) (hb : ∀ i, i < n → t i < 256) (hS : CLS E S o t n m od 0 f) (hd : d ≤ 8) (hf : rkn 2 + 8 * (n - pk t n k) ≤ f + 1) (hR : RS I o t n m od k l c) (hc : c.2.2 ≤ k + s) (hs : s ≤ 47) (hl : l ≤ 50) (hx : tc t n (pk t n k) = 191) : C E kX5_readPart (3 * (8 - d) + 1) 0 0 [.ref o, .int (nI d)] S I L (PO o t n m od S L I k l c 2 (ps t n od (f + 1) 2 d (pk t n k) l F)) := by
  have hk := hR.lt (by omega)
  have hpp := pkm_lt hR.1 hk
  have h400 := hR.1.2.2.1
  rw [ps_2, if_pos hx]
  refine C_of (by decide) (Nat.le_of_ble_eq_true rfl) ?_
  by_cases h8 : 8 ≤ d
  · rw [if_pos h8]
    refine V_aload_n (pc := 0) dX5_readPart_0 rfl ?_
    refine V_bipush (pc := 1) (v := nI 91) dX5_readPart_1 (by decide) ?_
    refine V_callVd (pc := 3) (ci := 5) (c_X5_isSign (x := 91) h5 hR hb (by omega)) dX5_readPart_3 mlX5_74 mkX5_isSign rfl rfl h5.o ⟨by decide, rfl⟩ (rmS (by omega) (Nat.le_of_ble_eq_true rfl)) (Nat.le_of_ble_eq_true rfl) ⟨Nat.le_of_ble_eq_true rfl, Nat.le_of_ble_eq_true rfl⟩ ?_
    refine V_if_eqB (pc := 6) (tgt := 49) dX5_readPart_6 (by decide) (fun c6 => absurd c6 (by simp [hx])) (fun n6 => ?_)
    refine V_iload_n (pc := 9) dX5_readPart_9 rfl ?_
    refine V_bipush (pc := 10) (v := nI 8) dX5_readPart_10 (by decide) ?_
    refine V_icmp_ltN (pc := 12) (tgt := 17) dX5_readPart_12 (by decide) (by omega) (by omega) (fun c12 => absurd c12 (by omega)) (fun n12 => ?_)
    refine V_iconst (pc := 15) (v := nI 0) dX5_readPart_15 (by decide) ?_
    refine V_zretB (pc := 16) (p := false) dX5_readPart_16 rfl rfl (by first | decide | omega) (by first | decide | omega) ?_
    exact ⟨rfl, rfl, FrX5.rf, Or.inl ⟨rfl, rfl, k, hR.2.1, hR.2.2.1, rfl⟩⟩
  · rw [if_neg h8]
    have hr1 : rkn 0 = 3 := rfl
    have hr2 : rkn 2 = 1 := rfl
    have hC := hS (d + 1) (k + 1) l c (up2 I o 4 (nI (k + 1))) L F s (by omega) (by omega) (hR.go hk) (by omega) hs hl
    rw [pk_s] at hC
    generalize ps t n od f 0 (d + 1) (nxt t n (pk t n k)) l F = r1 at hC ⊢
    refine V_aload_n (pc := 0) dX5_readPart_0 rfl ?_
    refine V_bipush (pc := 1) (v := nI 91) dX5_readPart_1 (by decide) ?_
    refine V_callVd (pc := 3) (ci := 5) (c_X5_isSign (x := 91) h5 hR hb (by omega)) dX5_readPart_3 mlX5_74 mkX5_isSign rfl rfl h5.o ⟨by decide, rfl⟩ (rmS (by omega) (Nat.le_of_ble_eq_true rfl)) (Nat.le_of_ble_eq_true rfl) ⟨Nat.le_of_ble_eq_true rfl, Nat.le_of_ble_eq_true rfl⟩ ?_
    refine V_if_eqB (pc := 6) (tgt := 49) dX5_readPart_6 (by decide) (fun c6 => absurd c6 (by simp [hx])) (fun n6 => ?_)
    refine V_iload_n (pc := 9) dX5_readPart_9 rfl ?_
    refine V_bipush (pc := 10) (v := nI 8) dX5_readPart_10 (by decide) ?_
    refine V_icmp_ltN (pc := 12) (tgt := 17) dX5_readPart_12 (by decide) (by omega) (by omega) (fun c12 => ?_) (fun n12 => absurd n12 (by omega))
    refine V_aload_n (pc := 17) dX5_readPart_17 rfl ?_
    refine V_callVn (pc := 18) (ci := 5) (c_X5_goOn h5 hR hk) dX5_readPart_18 mlX5_78 mkX5_goOn rfl rfl h5.o ⟨by decide, rfl⟩ (rmS (by omega) (Nat.le_of_ble_eq_true rfl)) (Nat.le_of_ble_eq_true rfl) ⟨Nat.le_of_ble_eq_true rfl, Nat.le_of_ble_eq_true rfl⟩ ?_
    refine V_aload_n (pc := 21) dX5_readPart_21 rfl ?_
    refine V_iconst (pc := 22) (v := nI 0) dX5_readPart_22 (by decide) ?_
    refine V_iload_n (pc := 23) dX5_readPart_23 rfl ?_
    refine V_iconst (pc := 24) (v := nI 1) dX5_readPart_24 (by decide) ?_
    refine V_iaddN (pc := 25) dX5_readPart_25 ?_
    refine V_callV (pc := 26) (ci := 5) hC dX5_readPart_26 mlX5_141 mkX5_readSum rfl rfl h5.o ⟨by decide, rfl⟩ (rmS (by omega) (Nat.le_of_ble_eq_true rfl)) (Nat.le_of_ble_eq_true rfl) ⟨Nat.le_of_ble_eq_true rfl, Nat.le_of_ble_eq_true rfl⟩ (fun r S' I' L' hp => ?_)
    skip
    obtain ⟨rfl, rfl, hF, ⟨g1, rfl, k', hk', h4', hp'⟩ | ⟨G, g1, rfl, k', c', hR', hp', hkk, hcc, hsg, -⟩⟩ := hp
    · rw [bd_n g1]
      refine V_if_eqB (pc := 29) (tgt := 41) dX5_readPart_29 (by decide) (fun c29 => ?_) (fun n29 => absurd n29 (by decide))
      refine V_iconst (pc := 41) (v := nI 0) dX5_readPart_41 (by decide) ?_
      refine V_zretB (pc := 42) (p := false) dX5_readPart_42 rfl rfl (by first | decide | omega) (by first | decide | omega) ?_
      exact ⟨rfl, rfl, hF.tr (FrX5.rf.u (by omega)), Or.inl ⟨g1, rfl, k', hk', h4', hp'⟩⟩
    · rw [bd_s g1]
      by_cases h193 : tc t n r1.1 = 193
      · rw [if_pos h193]
        have hk2 := hR'.lt (by rw [hp', h193]; decide)
        refine V_if_eqB (pc := 29) (tgt := 41) dX5_readPart_29 (by decide) (fun c29 => absurd c29 (by decide)) (fun n29 => ?_)
        refine V_aload_n (pc := 32) dX5_readPart_32 rfl ?_
        refine V_bipush (pc := 33) (v := nI 93) dX5_readPart_33 (by decide) ?_
        refine V_callVd (pc := 35) (ci := 5) (c_X5_isSign (x := 93) h5 hR' hb (by omega)) dX5_readPart_35 mlX5_74 mkX5_isSign rfl rfl h5.o ⟨by decide, rfl⟩ (rmS (by omega) (Nat.le_of_ble_eq_true rfl)) (Nat.le_of_ble_eq_true rfl) ⟨Nat.le_of_ble_eq_true rfl, Nat.le_of_ble_eq_true rfl⟩ ?_
        refine V_if_neB (pc := 38) (tgt := 43) dX5_readPart_38 (by decide) (fun c38 => ?_) (fun n38 => absurd n38 (by simp [hp', h193]))
        refine V_aload_n (pc := 43) dX5_readPart_43 rfl ?_
        refine V_callVn (pc := 44) (ci := 5) (c_X5_goOn h5 hR' hk2) dX5_readPart_44 mlX5_78 mkX5_goOn rfl rfl h5.o ⟨by decide, rfl⟩ (rmS (by omega) (Nat.le_of_ble_eq_true rfl)) (Nat.le_of_ble_eq_true rfl) ⟨Nat.le_of_ble_eq_true rfl, Nat.le_of_ble_eq_true rfl⟩ ?_
        refine V_iconst (pc := 47) (v := nI 1) dX5_readPart_47 (by decide) ?_
        refine V_zretB (pc := 48) (p := true) dX5_readPart_48 rfl rfl (by first | decide | omega) (by first | decide | omega) ?_
        refine ⟨rfl, rfl, (FrX5.rf.u (by omega)).tr (hF.tr (FrX5.rf.u (by omega))), Or.inr ⟨G, rfl, rfl, k' + 1, c', hR'.go hk2, ?_, by omega, by omega, hsg, fun h => absurd h (by omega)⟩⟩
        rw [pk_s, hp']
      · rw [if_neg h193]
        refine V_if_eqB (pc := 29) (tgt := 41) dX5_readPart_29 (by decide) (fun c29 => absurd c29 (by decide)) (fun n29 => ?_)
        refine V_aload_n (pc := 32) dX5_readPart_32 rfl ?_
        refine V_bipush (pc := 33) (v := nI 93) dX5_readPart_33 (by decide) ?_
        refine V_callVd (pc := 35) (ci := 5) (c_X5_isSign (x := 93) h5 hR' hb (by omega)) dX5_readPart_35 mlX5_74 mkX5_isSign rfl rfl h5.o ⟨by decide, rfl⟩ (rmS (by omega) (Nat.le_of_ble_eq_true rfl)) (Nat.le_of_ble_eq_true rfl) ⟨Nat.le_of_ble_eq_true rfl, Nat.le_of_ble_eq_true rfl⟩ ?_
        refine V_if_neB (pc := 38) (tgt := 43) dX5_readPart_38 (by decide) (fun c38 => absurd c38 (by simp [hp', h193])) (fun n38 => ?_)
        refine V_iconst (pc := 41) (v := nI 0) dX5_readPart_41 (by decide) ?_
        refine V_zretB (pc := 42) (p := false) dX5_readPart_42 rfl rfl (by first | decide | omega) (by first | decide | omega) ?_
        exact ⟨rfl, rfl, hF.tr (FrX5.rf.u (by omega)), Or.inl ⟨rfl, rfl, k', hR'.2.1, hR'.2.2.1, hp'⟩⟩
end RP
