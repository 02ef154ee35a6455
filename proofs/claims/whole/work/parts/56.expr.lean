/-! THE REFERENCE reads: expressions -/
abbrev VX (E : EnT) (Q : QT) (S : ST) (o : Nat) (te : Bool) (I : IT) (L : LT) (tn : Nat) : Prop := V E kX12_readExpression (rmOf 6 0 0) Q 0 0 S I L 20 [(0, .ref o), (1, .int (b2i te)), (2, .int (nI tn))] []
section PF
variable {E : EnT} {S : ST} {I I0 : IT} {L L0 : LT} {o n p l d : Nat} {t : Nat → Nat} {P : List (Nat × Nat)} {c : CT} {Q : QT} {te : Bool}
theorem xs0 (h12 : Lay12 E S o) {s : PT} (h : PS o t n I0 L0 I L none s) {post : Option Value → ST → IT → LT → Prop} (hc : C E kX12_readPlain 5 0 0 [.ref o] S I L post) (hk : ∀ r S' I' L', post r S' I' L' → ∃ tn, r = some (.int (nI tn)) ∧ S = S' ∧ VX E Q S o te I' L' tn) : VX E Q S o te I L 0 := by
  refine V_aload_n (pc := 20) dX12_readExpression_20 rfl ?_
  refine V_getIE (pc := 21) 12 19 dX12_readExpression_21 flX12_275 (by decide) h12.o (h.2.2.2.2.2.2.1) ?_
  refine V_if_neB (pc := 24) (tgt := 76) dX12_readExpression_24 (by decide) (fun c24 => absurd c24 (by simp)) (fun n24 => ?_)
  refine V_iload_n (pc := 27) dX12_readExpression_27 rfl ?_
  refine V_iconst (pc := 28) (v := nI 4) dX12_readExpression_28 (by decide) ?_
  refine V_icmp_eqN (pc := 29) (tgt := 76) dX12_readExpression_29 (by decide) (by omega) (by omega) (fun c29 => absurd c29 (by omega)) (fun n29 => ?_)
  refine V_iload_n (pc := 32) dX12_readExpression_32 rfl ?_
  refine V_if_neN (pc := 33) (tgt := 43) dX12_readExpression_33 (by decide) (by omega) (fun c33 => absurd c33 (by omega)) (fun n33 => ?_)
  refine V_aload_n (pc := 36) dX12_readExpression_36 rfl ?_
  refine V_callV (pc := 37) (ci := 12) hc dX12_readExpression_37 mlX12_391 mkX12_readPlain rfl rfl h12.o ⟨by decide, rfl⟩ ⟨Nat.le_of_ble_eq_true rfl, Nat.le_of_ble_eq_true rfl⟩ (Nat.le_of_ble_eq_true rfl) ⟨Nat.le_of_ble_eq_true rfl, Nat.le_of_ble_eq_true rfl⟩ (fun r S' I' L' hp => ?_)
  obtain ⟨tn, rfl, rfl, hv⟩ := hk _ _ _ _ hp
  refine V_goto (pc := 40) (tgt := 72) dX12_readExpression_40 (by decide) ?_
  refine V_istore_n (pc := 72) (ls' := [(0, _), (1, _), (2, _)]) dX12_readExpression_72 (by decide) rfl ?_
  refine V_goto (pc := 73) (tgt := 20) dX12_readExpression_73 (by decide) ?_
  exact hv
theorem xs1 (h12 : Lay12 E S o) {s : PT} (h : PS o t n I0 L0 I L none s) {post : Option Value → ST → IT → LT → Prop} (hc : C E kX12_readPart 4 0 0 [.ref o] S I L post) (hk : ∀ r S' I' L', post r S' I' L' → ∃ tn, r = some (.int (nI tn)) ∧ S = S' ∧ VX E Q S o te I' L' tn) : VX E Q S o te I L 1 := by
  refine V_aload_n (pc := 20) dX12_readExpression_20 rfl ?_
  refine V_getIE (pc := 21) 12 19 dX12_readExpression_21 flX12_275 (by decide) h12.o (h.2.2.2.2.2.2.1) ?_
  refine V_if_neB (pc := 24) (tgt := 76) dX12_readExpression_24 (by decide) (fun c24 => absurd c24 (by simp)) (fun n24 => ?_)
  refine V_iload_n (pc := 27) dX12_readExpression_27 rfl ?_
  refine V_iconst (pc := 28) (v := nI 4) dX12_readExpression_28 (by decide) ?_
  refine V_icmp_eqN (pc := 29) (tgt := 76) dX12_readExpression_29 (by decide) (by omega) (by omega) (fun c29 => absurd c29 (by omega)) (fun n29 => ?_)
  refine V_iload_n (pc := 32) dX12_readExpression_32 rfl ?_
  refine V_if_neN (pc := 33) (tgt := 43) dX12_readExpression_33 (by decide) (by omega) (fun c33 => ?_) (fun n33 => absurd n33 (by omega))
  refine V_iload_n (pc := 43) dX12_readExpression_43 rfl ?_
  refine V_iconst (pc := 44) (v := nI 1) dX12_readExpression_44 (by decide) ?_
  refine V_icmp_neN (pc := 45) (tgt := 55) dX12_readExpression_45 (by decide) (by omega) (by omega) (fun c45 => absurd c45 (by omega)) (fun n45 => ?_)
  refine V_aload_n (pc := 48) dX12_readExpression_48 rfl ?_
  refine V_callV (pc := 49) (ci := 12) hc dX12_readExpression_49 mlX12_374 mkX12_readPart rfl rfl h12.o ⟨by decide, rfl⟩ ⟨Nat.le_of_ble_eq_true rfl, Nat.le_of_ble_eq_true rfl⟩ (Nat.le_of_ble_eq_true rfl) ⟨Nat.le_of_ble_eq_true rfl, Nat.le_of_ble_eq_true rfl⟩ (fun r S' I' L' hp => ?_)
  obtain ⟨tn, rfl, rfl, hv⟩ := hk _ _ _ _ hp
  refine V_goto (pc := 52) (tgt := 72) dX12_readExpression_52 (by decide) ?_
  refine V_istore_n (pc := 72) (ls' := [(0, _), (1, _), (2, _)]) dX12_readExpression_72 (by decide) rfl ?_
  refine V_goto (pc := 73) (tgt := 20) dX12_readExpression_73 (by decide) ?_
  exact hv
theorem xs3 (h12 : Lay12 E S o) {s : PT} (h : PS o t n I0 L0 I L none s) {post : Option Value → ST → IT → LT → Prop} (hc : C E kX12_behindSum 4 0 0 [.ref o, .int (b2i te)] S I L post) (hk : ∀ r S' I' L', post r S' I' L' → ∃ tn, r = some (.int (nI tn)) ∧ S = S' ∧ VX E Q S o te I' L' tn) : VX E Q S o te I L 3 := by
  refine V_aload_n (pc := 20) dX12_readExpression_20 rfl ?_
  refine V_getIE (pc := 21) 12 19 dX12_readExpression_21 flX12_275 (by decide) h12.o (h.2.2.2.2.2.2.1) ?_
  refine V_if_neB (pc := 24) (tgt := 76) dX12_readExpression_24 (by decide) (fun c24 => absurd c24 (by simp)) (fun n24 => ?_)
  refine V_iload_n (pc := 27) dX12_readExpression_27 rfl ?_
  refine V_iconst (pc := 28) (v := nI 4) dX12_readExpression_28 (by decide) ?_
  refine V_icmp_eqN (pc := 29) (tgt := 76) dX12_readExpression_29 (by decide) (by omega) (by omega) (fun c29 => absurd c29 (by omega)) (fun n29 => ?_)
  refine V_iload_n (pc := 32) dX12_readExpression_32 rfl ?_
  refine V_if_neN (pc := 33) (tgt := 43) dX12_readExpression_33 (by decide) (by omega) (fun c33 => ?_) (fun n33 => absurd n33 (by omega))
  refine V_iload_n (pc := 43) dX12_readExpression_43 rfl ?_
  refine V_iconst (pc := 44) (v := nI 1) dX12_readExpression_44 (by decide) ?_
  refine V_icmp_neN (pc := 45) (tgt := 55) dX12_readExpression_45 (by decide) (by omega) (by omega) (fun c45 => ?_) (fun n45 => absurd n45 (by omega))
  refine V_iload_n (pc := 55) dX12_readExpression_55 rfl ?_
  refine V_iconst (pc := 56) (v := nI 3) dX12_readExpression_56 (by decide) ?_
  refine V_icmp_neN (pc := 57) (tgt := 68) dX12_readExpression_57 (by decide) (by omega) (by omega) (fun c57 => absurd c57 (by omega)) (fun n57 => ?_)
  refine V_aload_n (pc := 60) dX12_readExpression_60 rfl ?_
  refine V_iload_n (pc := 61) dX12_readExpression_61 rfl ?_
  refine V_callV (pc := 62) (ci := 12) hc dX12_readExpression_62 mlX12_394 mkX12_behindSum rfl rfl h12.o ⟨by decide, rfl⟩ ⟨Nat.le_of_ble_eq_true rfl, Nat.le_of_ble_eq_true rfl⟩ (Nat.le_of_ble_eq_true rfl) ⟨Nat.le_of_ble_eq_true rfl, Nat.le_of_ble_eq_true rfl⟩ (fun r S' I' L' hp => ?_)
  obtain ⟨tn, rfl, rfl, hv⟩ := hk _ _ _ _ hp
  refine V_goto (pc := 65) (tgt := 72) dX12_readExpression_65 (by decide) ?_
  refine V_istore_n (pc := 72) (ls' := [(0, _), (1, _), (2, _)]) dX12_readExpression_72 (by decide) rfl ?_
  refine V_goto (pc := 73) (tgt := 20) dX12_readExpression_73 (by decide) ?_
  exact hv
theorem xs2 (h12 : Lay12 E S o) {s : PT} (h : PS o t n I0 L0 I L none s) {post : Option Value → ST → IT → LT → Prop} (hc : C E kX12_behindTest 4 0 0 [.ref o] S I L post) (hk : ∀ r S' I' L', post r S' I' L' → ∃ tn, r = some (.int (nI tn)) ∧ S = S' ∧ VX E Q S o te I' L' tn) : VX E Q S o te I L 2 := by
  refine V_aload_n (pc := 20) dX12_readExpression_20 rfl ?_
  refine V_getIE (pc := 21) 12 19 dX12_readExpression_21 flX12_275 (by decide) h12.o (h.2.2.2.2.2.2.1) ?_
  refine V_if_neB (pc := 24) (tgt := 76) dX12_readExpression_24 (by decide) (fun c24 => absurd c24 (by simp)) (fun n24 => ?_)
  refine V_iload_n (pc := 27) dX12_readExpression_27 rfl ?_
  refine V_iconst (pc := 28) (v := nI 4) dX12_readExpression_28 (by decide) ?_
  refine V_icmp_eqN (pc := 29) (tgt := 76) dX12_readExpression_29 (by decide) (by omega) (by omega) (fun c29 => absurd c29 (by omega)) (fun n29 => ?_)
  refine V_iload_n (pc := 32) dX12_readExpression_32 rfl ?_
  refine V_if_neN (pc := 33) (tgt := 43) dX12_readExpression_33 (by decide) (by omega) (fun c33 => ?_) (fun n33 => absurd n33 (by omega))
  refine V_iload_n (pc := 43) dX12_readExpression_43 rfl ?_
  refine V_iconst (pc := 44) (v := nI 1) dX12_readExpression_44 (by decide) ?_
  refine V_icmp_neN (pc := 45) (tgt := 55) dX12_readExpression_45 (by decide) (by omega) (by omega) (fun c45 => ?_) (fun n45 => absurd n45 (by omega))
  refine V_iload_n (pc := 55) dX12_readExpression_55 rfl ?_
  refine V_iconst (pc := 56) (v := nI 3) dX12_readExpression_56 (by decide) ?_
  refine V_icmp_neN (pc := 57) (tgt := 68) dX12_readExpression_57 (by decide) (by omega) (by omega) (fun c57 => ?_) (fun n57 => absurd n57 (by omega))
  refine V_aload_n (pc := 68) dX12_readExpression_68 rfl ?_
  refine V_callV (pc := 69) (ci := 12) hc dX12_readExpression_69 mlX12_398 mkX12_behindTest rfl rfl h12.o ⟨by decide, rfl⟩ ⟨Nat.le_of_ble_eq_true rfl, Nat.le_of_ble_eq_true rfl⟩ (Nat.le_of_ble_eq_true rfl) ⟨Nat.le_of_ble_eq_true rfl, Nat.le_of_ble_eq_true rfl⟩ (fun r S' I' L' hp => ?_)
  obtain ⟨tn, rfl, rfl, hv⟩ := hk _ _ _ _ hp
  refine V_istore_n (pc := 72) (ls' := [(0, _), (1, _), (2, _)]) dX12_readExpression_72 (by decide) rfl ?_
  refine V_goto (pc := 73) (tgt := 20) dX12_readExpression_73 (by decide) ?_
  exact hv
end PF
/-- what the reference's code lays for a part: laws', orders' -/
def lfO (w : WT) (p a : Nat) : Int := if p = 0 then (a : Int) else if p = 1 then w 7 else if p ≤ 4 then w (p + 7) else if p = 5 then (if a < 6 then w (12 + a) else -1) else (if a < 6 then w (18 + a) else -1)
def lfA (od : Bool) (w : WT) (p a : Nat) : Int := if od = true then lfO w p a else lfM w p a
def CG (c : CT) : Prop := ∀ k, k < c.2.2 → c.1 k < 31 ∧ (c.1 k < 20 → c.1 k < 10) ∧ c.2.1 k ≤ 1000
def INV (o : Nat) (t : Nat → Nat) (n : Nat) (I0 : IT) (L0 : LT) (I : IT) (L : LT) (s : PT) : Prop := PS o t n I0 L0 I L none s ∧ BD s.1 s.2.2.2.1 s.2.2.2.2 ∧ s.2.1 ≤ 50 ∧ s.2.2.1 ≤ 8 ∧ CG s.2.2.2.2
def AG (s : Nat) (c' c : CT) : Prop := ∀ k, k < s → c'.1 k = c.1 k ∧ c'.2.1 k = c.2.1 k
theorem AG.tr {s : Nat} {a b c : CT} (h : AG s a b) (g : AG s b c) : AG s a c := fun k hk => ⟨(h k hk).1.trans (g k hk).1, (h k hk).2.trans (g k hk).2⟩
theorem AG.rf {s : Nat} {a : CT} : AG s a a := fun _ _ => ⟨rfl, rfl⟩
theorem AG.w {s s' : Nat} {a b : CT} (h : AG s a b) (hs : s' ≤ s) : AG s' a b := fun k hk => h k (by omega)
theorem CG.leaf {c : CT} {x y : Nat} (h : CG c) (hx : x < 31 ∧ (x < 20 → x < 10)) (hy : y ≤ 1000) : CG (setq c.1 c.2.2 x, setq c.2.1 c.2.2 y, c.2.2 + 1) := by
  intro k hk
  have hk : k < c.2.2 + 1 := hk
  show setq c.1 c.2.2 x k < 31 ∧ (setq c.1 c.2.2 x k < 20 → _) ∧ setq c.2.1 c.2.2 y k ≤ 1000
  by_cases e : k = c.2.2
  · subst e; rw [setq_s, setq_s]; exact ⟨hx.1, fun z => by show setq c.1 c.2.2 x c.2.2 < 10; rw [setq_s]; exact hx.2 z, hy⟩
  · rw [setq_n e, setq_n e]; have := h k (by omega); exact ⟨this.1, fun z => by show setq c.1 c.2.2 x k < 10; rw [setq_n e]; exact this.2.1 z, this.2.2⟩
theorem CG.em {x : Nat × Nat} {c : CT} (h : CG c) (hx : 20 ≤ x.1 ∧ x.1 < 31) (hn : c.2.2 ≤ 400) : CG (em1 x c) := by
  unfold em1
  split
  · intro k hk
    have h1 := h k hk
    refine ⟨h1.1, h1.2.1, ?_⟩
    show setq c.2.1 x.2 c.2.2 k ≤ 1000
    unfold setq
    split
    · omega
    · exact h1.2.2
  · exact h.leaf ⟨hx.2, fun z => absurd z (by omega)⟩ (by omega)
theorem bnds1 {x : Nat} (h : 1 ≤ bnds x) : x < 31 := by
  unfold bnds at h
  split at h <;> omega
theorem CG.st {u k : Nat} (hk : 1 ≤ k) (hu : u ≤ 400) : ∀ {P : List (Nat × Nat)} {c : CT}, CG c → BD u P c → CG (sto k P c).2
  | [], _, h, _ => h
  | x :: P, c, h, hb => by
    by_cases hk2 : k ≤ bnds x.1
    · have h1 := BD.st (k := bnds x.1) hb
      rw [sto, if_pos hk2]
      have h3 := hb.2.2 x (by simp)
      have hn : c.2.2 ≤ 400 := by have := hb.2.1; omega
      refine CG.st hk hu (h.em ⟨h3.1, bnds1 (by omega)⟩ hn) ?_
      obtain ⟨b1, b2, b3⟩ := hb
      have b1' : P.length + 1 ≤ u := b1
      rw [cntP] at b2
      have hP : PlB c.2.2 P := fun y hy => b3 y (List.mem_cons_of_mem x hy)
      unfold em1
      by_cases ha : x.1 = 29 ∨ x.1 = 30
      · rw [if_pos ha] at b2 ⊢
        exact ⟨by omega, by show c.2.2 + cntP P ≤ u; omega, hP⟩
      · rw [if_neg ha] at b2 ⊢
        exact ⟨by omega, by show c.2.2 + 1 + cntP P ≤ u; omega, hP.up (by show _ ≤ c.2.2 + 1; omega)⟩
    · rw [sto, if_neg hk2]; exact h
theorem BD.up {u v : Nat} {P : List (Nat × Nat)} {c : CT} (h : BD u P c) (hv : u ≤ v) : BD v P c := ⟨by have := h.1; omega, by have := h.2.1; omega, h.2.2⟩
theorem BD.push {u v x : Nat} {P : List (Nat × Nat)} {c : CT} (h : BD u P c) (hv : u < v) (hx : 20 ≤ x ∧ x ≤ 32) (ha : ¬ (x = 29 ∨ x = 30)) : BD v ((x, 0) :: P) c := by
  refine ⟨by have := h.1; show P.length + 1 ≤ v; omega, ?_, fun y hy => ?_⟩
  · have := h.2.1
    show c.2.2 + ((if x = 29 ∨ x = 30 then 0 else 1) + cntP P) ≤ v
    split <;> omega
  · rcases List.mem_cons.mp hy with e | e
    · subst e; exact ⟨hx.1, hx.2, fun z => absurd z ha⟩
    · exact h.2.2 y e
theorem BD.ao {u v x : Nat} {P : List (Nat × Nat)} {c c' : CT} (h : BD u P c) (hv : u < v) (hx : x = 29 ∨ x = 30) (hc : c'.2.2 = c.2.2 + 1) : BD v ((x, c.2.2) :: P) c' := by
  refine ⟨by have := h.1; show P.length + 1 ≤ v; omega, ?_, fun y hy => ?_⟩
  · have := h.2.1
    show c'.2.2 + ((if x = 29 ∨ x = 30 then 0 else 1) + cntP P) ≤ v
    rw [if_pos hx, hc]; omega
  · rcases List.mem_cons.mp hy with e | e
    · subst e; exact ⟨by show 20 ≤ x; omega, by show x ≤ 32; omega, fun z => by show c.2.2 < c'.2.2; omega⟩
    · have := h.2.2 y e; exact ⟨this.1, this.2.1, fun z => by have := this.2.2 z; omega⟩
theorem BD.tail {u : Nat} {x : Nat × Nat} {P : List (Nat × Nat)} {c : CT} (h : BD u (x :: P) c) : BD u P c := by
  refine ⟨by have : P.length + 1 ≤ u := h.1; omega, ?_, fun y hy => h.2.2 y (List.mem_cons_of_mem x hy)⟩
  have : c.2.2 + ((if x.1 = 29 ∨ x.1 = 30 then 0 else 1) + cntP P) ≤ u := h.2.1
  omega
theorem BD.leaf {u v x y : Nat} {P : List (Nat × Nat)} {c : CT} (h : BD u P c) (hv : u < v) : BD v P (setq c.1 c.2.2 x, setq c.2.1 c.2.2 y, c.2.2 + 1) := ⟨by have := h.1; omega, by have := h.2.1; show c.2.2 + 1 + cntP P ≤ v; omega, h.2.2.up (Nat.le_succ _)⟩
theorem AG.leaf {c : CT} {x y : Nat} : AG c.2.2 (setq c.1 c.2.2 x, setq c.2.1 c.2.2 y, c.2.2 + 1) c := fun k hk => ⟨setq_n (by omega), setq_n (by omega)⟩
