/-! THE REFERENCE reads: its pile and its code -/
abbrev PT : Type := Nat × Nat × Nat × List (Nat × Nat) × CT
def PlM (I : IT) (o : Nat) : List (Nat × Nat) → Prop | [] => True | x :: P => (I (o + 13) P.length = nI x.1 ∧ I (o + 14) P.length = nI x.2) ∧ PlM I o P
def CdM (I : IT) (o : Nat) (c : CT) : Prop := I o 23 = nI c.2.2 ∧ ∀ k, k < c.2.2 → I (o + 11) k = nI (c.1 k) ∧ I (o + 12) k = nI (c.2.1 k)
def FP (o : Nat) (I' I : IT) (L' L : LT) : Prop := (∀ a, a ≠ o → (a < o + 11 ∨ o + 14 < a) → I' a = I a) ∧ (∀ i, (i < 14 ∨ (19 < i ∧ i ≠ 23 ∧ i ≠ 26 ∧ i ≠ 29 ∧ i ≠ 30)) → I' o i = I o i) ∧ (∀ a, a ≠ o → L' a = L a) ∧ ∀ i, i ≠ 17 → L' o i = L o i
def fltI (b : Option Nat) : Int32 := match b with | none => -1 | some f => nI f
def PS (o : Nat) (t : Nat → Nat) (n : Nat) (I0 : IT) (L0 : LT) (I : IT) (L : LT) (b : Option Nat) (s : PT) : Prop := TK o t n I L s.1 ∧ I o 26 = nI s.2.1 ∧ I o 30 = nI s.2.2.1 ∧ I o 29 = nI s.2.2.2.1.length ∧ PlM I o s.2.2.2.1 ∧ CdM I o s.2.2.2.2 ∧ I o 19 = b2i b.isSome ∧ I o 18 = fltI b ∧ FP o I I0 L L0
theorem PlM.cg {I I' : IT} {o : Nat} : ∀ {P : List (Nat × Nat)}, PlM I o P → (∀ k, k < P.length → I' (o + 13) k = I (o + 13) k ∧ I' (o + 14) k = I (o + 14) k) → PlM I' o P
  | [], _, _ => trivial
  | x :: P, h, g => ⟨⟨by rw [(g P.length (by simp)).1]; exact h.1.1, by rw [(g P.length (by simp)).2]; exact h.1.2⟩, PlM.cg h.2 fun k hk => g k (by simp; omega)⟩
theorem TK.cg {o n p : Nat} {t : Nat → Nat} {I I' : IT} {L : LT} (h : TK o t n I L p) (h9 : I' (o + 9) = I (o + 9)) (ho : ∀ i, 13 ≤ i → i < 17 → I' o i = I o i) : TK o t n I' L p :=
  ⟨⟨(ho 13 (by omega) (by omega)).trans h.1.1, fun i hi => by rw [h9]; exact h.1.2.1 i hi, h.1.2.2⟩, h.2.1, (ho 14 (by omega) (by omega)).trans h.2.2.1, (ho 15 (by omega) (by omega)).trans h.2.2.2.1, (ho 16 (by omega) (by omega)).trans h.2.2.2.2.1, h.2.2.2.2.2⟩
section PA
variable {E : EnT} {S : ST} {I I0 : IT} {L L0 : LT} {o n p l d : Nat} {t : Nat → Nat} {P : List (Nat × Nat)} {c : CT} {b : Option Nat}
theorem FP.rf : FP o I I L L := ⟨fun _ _ _ => rfl, fun _ _ => rfl, fun _ _ => rfl, fun _ _ => rfl⟩
theorem FP.fn {I' : IT} {L' : LT} (h : FP o I I0 L L0) (f : FN o I' I L' L) : FP o I' I0 L' L0 := ⟨fun a h1 h2 => (f.1 a h1).trans (h.1 a h1 h2), fun i hi => (f.2.1 i (by omega)).trans (h.2.1 i hi), fun a ha => (f.2.2.1 a ha).trans (h.2.2.1 a ha), fun i hi => (f.2.2.2 i hi).trans (h.2.2.2 i hi)⟩
theorem FP.upo {i : Nat} {v : Int32} (h : FP o I I0 L L0) (hi : ¬ (i < 14 ∨ (19 < i ∧ i ≠ 23 ∧ i ≠ 26 ∧ i ≠ 29 ∧ i ≠ 30))) : FP o (up2 I o i v) I0 L L0 := ⟨fun a h1 h2 => by rw [up2_row h1]; exact h.1 a h1 h2, fun j hj => by rw [up2_nej (fun z => hi (by rw [← z]; exact hj))]; exact h.2.1 j hj, h.2.2⟩
theorem FP.upr {a i : Nat} {v : Int32} (h : FP o I I0 L L0) (h1 : o + 11 ≤ a) (h2 : a ≤ o + 14) : FP o (up2 I a i v) I0 L L0 := ⟨fun x h3 h4 => by rw [up2_row (by omega)]; exact h.1 x h3 h4, fun j hj => by rw [up2_ne (by omega)]; exact h.2.1 j hj, h.2.2⟩
/-- the next token's state -/
theorem PS.nx {I' : IT} {L' : LT} {p' : Nat} {s : PT} (h : PS o t n I0 L0 I L b s) (f : FN o I' I L' L) (hT : TK o t n I' L' p') : PS o t n I0 L0 I' L' b (p', s.2) := by
  obtain ⟨h1, h2, h3, h4, h5, h6, h7, h8, h9⟩ := h
  refine ⟨hT, (f.2.1 _ (by omega)).trans h2, (f.2.1 _ (by omega)).trans h3, (f.2.1 _ (by omega)).trans h4, h5.cg fun k _ => ⟨by rw [f.1 _ (by omega)], by rw [f.1 _ (by omega)]⟩, ⟨(f.2.1 _ (by omega)).trans h6.1, fun k hk => ?_⟩, (f.2.1 _ (by omega)).trans h7, (f.2.1 _ (by omega)).trans h8, h9.fn f⟩
  rw [f.1 _ (by omega), f.1 _ (by omega)]; exact h6.2 k hk
theorem PS.bad {s : PT} (h : PS o t n I0 L0 I L none s) : PS o t n I0 L0 (up2 (up2 I o 19 (nI 1)) o 18 (nI s.1)) L (some s.1) s := by
  obtain ⟨h1, h2, h3, h4, h5, h6, h7, h8, h9⟩ := h
  have f : ∀ i, i ≠ 18 → i ≠ 19 → up2 (up2 I o 19 (nI 1)) o 18 (nI s.1) o i = I o i := fun i a1 a2 => by rw [up2_nej a1, up2_nej a2]
  have g : ∀ a, a ≠ o → up2 (up2 I o 19 (nI 1)) o 18 (nI s.1) a = I a := fun a ha => by rw [up2_row ha, up2_row ha]
  refine ⟨h1.cg (g _ (by omega)) fun i h1 h2 => f i (by omega) (by omega), (f _ (by omega) (by omega)).trans h2, (f _ (by omega) (by omega)).trans h3, (f _ (by omega) (by omega)).trans h4, h5.cg fun k _ => ⟨by rw [g _ (by omega)], by rw [g _ (by omega)]⟩, ⟨(f _ (by omega) (by omega)).trans h6.1, fun k hk => ?_⟩, ?_, up2_self, (h9.upo (by omega)).upo (by omega)⟩
  · rw [g _ (by omega), g _ (by omega)]; exact h6.2 k hk
  · rw [up2_nej (by omega), up2_self]; rfl
theorem PS.emit {x y : Nat} (h : PS o t n I0 L0 I L b (p, l, d, P, c)) : PS o t n I0 L0 (up2 (up2 (up2 I (o + 11) c.2.2 (nI x)) (o + 12) c.2.2 (nI y)) o 23 (nI (c.2.2 + 1))) L b (p, l, d, P, (setq c.1 c.2.2 x, setq c.2.1 c.2.2 y, c.2.2 + 1)) := by
  obtain ⟨h1, h2, h3, h4, h5, h6, h7, h8, h9⟩ := h
  have f : ∀ i, i ≠ 23 → up2 (up2 (up2 I (o + 11) c.2.2 (nI x)) (o + 12) c.2.2 (nI y)) o 23 (nI (c.2.2 + 1)) o i = I o i := fun i a1 => by rw [up2_nej a1, up2_ne (by omega), up2_ne (by omega)]
  have g : ∀ a, a ≠ o → a ≠ o + 11 → a ≠ o + 12 → up2 (up2 (up2 I (o + 11) c.2.2 (nI x)) (o + 12) c.2.2 (nI y)) o 23 (nI (c.2.2 + 1)) a = I a := fun a a1 a2 a3 => by rw [up2_row a1, up2_row a3, up2_row a2]
  refine ⟨h1.cg (g _ (by omega) (by omega) (by omega)) fun i h1 h2 => f i (by omega), (f _ (by omega)).trans h2, (f _ (by omega)).trans h3, (f _ (by omega)).trans h4, h5.cg fun k _ => ⟨by rw [g _ (by omega) (by omega) (by omega)], by rw [g _ (by omega) (by omega) (by omega)]⟩, ⟨up2_self, fun k hk => ?_⟩, (f _ (by omega)).trans h7, (f _ (by omega)).trans h8, ((h9.upr (by omega) (by omega)).upr (by omega) (by omega)).upo (by omega)⟩
  have hk : k < c.2.2 + 1 := hk
  show _ = nI (setq c.1 c.2.2 x k) ∧ _ = nI (setq c.2.1 c.2.2 y k)
  by_cases e : k = c.2.2
  · subst e; rw [setq_s, setq_s, up2_ne (by omega), up2_ne (by omega), up2_self, up2_ne (by omega), up2_self]; exact ⟨rfl, rfl⟩
  · rw [setq_n e, setq_n e, up2_ne (by omega), up2_ne (by omega), up2_nej e, up2_ne (by omega), up2_nej e, up2_ne (by omega)]; exact h6.2 k (by omega)
theorem PS.push {x y : Nat} (h : PS o t n I0 L0 I L b (p, l, d, P, c)) : PS o t n I0 L0 (up2 (up2 (up2 I (o + 13) P.length (nI x)) (o + 14) P.length (nI y)) o 29 (nI (P.length + 1))) L b (p, l, d, (x, y) :: P, c) := by
  obtain ⟨h1, h2, h3, h4, h5, h6, h7, h8, h9⟩ := h
  have f : ∀ i, i ≠ 29 → up2 (up2 (up2 I (o + 13) P.length (nI x)) (o + 14) P.length (nI y)) o 29 (nI (P.length + 1)) o i = I o i := fun i a1 => by rw [up2_nej a1, up2_ne (by omega), up2_ne (by omega)]
  have g : ∀ a, a ≠ o → a ≠ o + 13 → a ≠ o + 14 → up2 (up2 (up2 I (o + 13) P.length (nI x)) (o + 14) P.length (nI y)) o 29 (nI (P.length + 1)) a = I a := fun a a1 a2 a3 => by rw [up2_row a1, up2_row a3, up2_row a2]
  refine ⟨h1.cg (g _ (by omega) (by omega) (by omega)) fun i h1 h2 => f i (by omega), (f _ (by omega)).trans h2, (f _ (by omega)).trans h3, up2_self, ⟨⟨?_, ?_⟩, h5.cg fun k hk => ?_⟩, ⟨(f _ (by omega)).trans h6.1, fun k hk => ?_⟩, (f _ (by omega)).trans h7, (f _ (by omega)).trans h8, ((h9.upr (by omega) (by omega)).upr (by omega) (by omega)).upo (by omega)⟩
  · rw [up2_ne (by omega), up2_ne (by omega), up2_self]
  · rw [up2_ne (by omega), up2_self]
  · have hk : k < P.length := hk
    rw [up2_ne (by omega), up2_ne (by omega), up2_nej (by omega), up2_ne (by omega), up2_nej (by omega), up2_ne (by omega)]; exact ⟨rfl, rfl⟩
  · rw [g _ (by omega) (by omega) (by omega), g _ (by omega) (by omega) (by omega)]; exact h6.2 k hk
theorem PS.pop {x : Nat × Nat} (h : PS o t n I0 L0 I L b (p, l, d, x :: P, c)) : PS o t n I0 L0 (up2 I o 29 (nI P.length)) L b (p, l, d, P, c) := by
  obtain ⟨h1, h2, h3, h4, h5, h6, h7, h8, h9⟩ := h
  have f : ∀ i, i ≠ 29 → up2 I o 29 (nI P.length) o i = I o i := fun i a1 => up2_nej a1
  have g : ∀ a, a ≠ o → up2 I o 29 (nI P.length) a = I a := fun a a1 => up2_row a1
  refine ⟨h1.cg (g _ (by omega)) fun i h1 h2 => f i (by omega), (f _ (by omega)).trans h2, (f _ (by omega)).trans h3, up2_self, h5.2.cg fun k hk => ?_, ⟨(f _ (by omega)).trans h6.1, fun k hk => ?_⟩, (f _ (by omega)).trans h7, (f _ (by omega)).trans h8, h9.upo (by omega)⟩
  · rw [g _ (by omega), g _ (by omega)]; exact ⟨rfl, rfl⟩
  · rw [g _ (by omega), g _ (by omega)]; exact h6.2 k hk
theorem PS.set26 {l' : Nat} (h : PS o t n I0 L0 I L b (p, l, d, P, c)) : PS o t n I0 L0 (up2 I o 26 (nI l')) L b (p, l', d, P, c) := by
  obtain ⟨h1, h2, h3, h4, h5, h6, h7, h8, h9⟩ := h
  have f : ∀ i, i ≠ 26 → up2 I o 26 (nI l') o i = I o i := fun i a1 => up2_nej a1
  have g : ∀ a, a ≠ o → up2 I o 26 (nI l') a = I a := fun a a1 => up2_row a1
  refine ⟨h1.cg (g _ (by omega)) fun i h1 h2 => f i (by omega), up2_self, (f _ (by omega)).trans h3, (f _ (by omega)).trans h4, h5.cg fun k hk => ?_, ⟨(f _ (by omega)).trans h6.1, fun k hk => ?_⟩, (f _ (by omega)).trans h7, (f _ (by omega)).trans h8, h9.upo (by omega)⟩
  · rw [g _ (by omega), g _ (by omega)]; exact ⟨rfl, rfl⟩
  · rw [g _ (by omega), g _ (by omega)]; exact h6.2 k hk
theorem PS.set30 {d' : Nat} (h : PS o t n I0 L0 I L b (p, l, d, P, c)) : PS o t n I0 L0 (up2 I o 30 (nI d')) L b (p, l, d', P, c) := by
  obtain ⟨h1, h2, h3, h4, h5, h6, h7, h8, h9⟩ := h
  have f : ∀ i, i ≠ 30 → up2 I o 30 (nI d') o i = I o i := fun i a1 => up2_nej a1
  have g : ∀ a, a ≠ o → up2 I o 30 (nI d') a = I a := fun a a1 => up2_row a1
  refine ⟨h1.cg (g _ (by omega)) fun i h1 h2 => f i (by omega), (f _ (by omega)).trans h2, up2_self, (f _ (by omega)).trans h4, h5.cg fun k hk => ?_, ⟨(f _ (by omega)).trans h6.1, fun k hk => ?_⟩, (f _ (by omega)).trans h7, (f _ (by omega)).trans h8, h9.upo (by omega)⟩
  · rw [g _ (by omega), g _ (by omega)]; exact ⟨rfl, rfl⟩
  · rw [g _ (by omega), g _ (by omega)]; exact h6.2 k hk
theorem PS.patch {k v : Nat} (h : PS o t n I0 L0 I L b (p, l, d, P, c)) : PS o t n I0 L0 (up2 I (o + 12) k (nI v)) L b (p, l, d, P, (c.1, setq c.2.1 k v, c.2.2)) := by
  obtain ⟨h1, h2, h3, h4, h5, h6, h7, h8, h9⟩ := h
  have f : ∀ i, up2 I (o + 12) k (nI v) o i = I o i := fun i => up2_ne (by omega)
  have g : ∀ a, a ≠ o + 12 → up2 I (o + 12) k (nI v) a = I a := fun a a1 => up2_row a1
  refine ⟨h1.cg (g _ (by omega)) fun i h1 h2 => f i, (f _).trans h2, (f _).trans h3, (f _).trans h4, h5.cg fun k hk => ?_, ⟨(f _).trans h6.1, fun j hj => ?_⟩, (f _).trans h7, (f _).trans h8, h9.upr (by omega) (by omega)⟩
  · rw [g _ (by omega), g _ (by omega)]; exact ⟨rfl, rfl⟩
  · refine ⟨by rw [g _ (by omega)]; exact (h6.2 j hj).1, ?_⟩
    show _ = nI (setq c.2.1 k v j)
    by_cases e : j = k
    · subst e; rw [setq_s, up2_self]
    · rw [setq_n e, up2_nej e]; exact (h6.2 j hj).2
theorem c_X12_isWord (h12 : Lay12 E S o) (hT : TK o t n I L p) {w : Int64} {k : Nat} (hk : k < 29) (hw : tcv k = w) : Cd E kX12_isWord 0 0 0 [.ref o, .long w] S I L (.int (b2i (decide (tc t n p = k)))) S I L := by
  subst hw
  have h16 := hT.2.2.2.2.1
  have h17 := hT.2.2.2.2.2
  have hs := srt_le t n p
  refine C_of (by decide) (Nat.le_of_ble_eq_true rfl) ?_
  refine V_aload_n (pc := 0) dX12_isWord_0 rfl ?_
  refine V_getIE (pc := 1) 12 16 dX12_isWord_1 flX12_295 (by decide) h12.o (h16) ?_
  refine V_iconst (pc := 4) (v := nI 1) dX12_isWord_4 (by decide) ?_
  refine V_icmp_neN (pc := 5) (tgt := 21) dX12_isWord_5 (by decide) (by omega) (by omega) (fun c5 => ?_) (fun n5 => ?_)
  · skip
    rw [decide_eq_false (fun z => by have := (tc_w hk).mp z; first | omega | exact c14 ((lg_cmp_eq _ _).mpr this.2))]
    refine V_iconst (pc := 21) (v := nI 0) dX12_isWord_21 (by decide) ?_
    refine V_zretB (pc := 22) (p := false) dX12_isWord_22 rfl rfl (by first | decide | omega) (by first | decide | omega) ?_
    exact ⟨rfl, rfl, rfl, rfl⟩
  · skip
    refine V_aload_n (pc := 8) dX12_isWord_8 rfl ?_
    refine V_getLE (pc := 9) 12 17 dX12_isWord_9 flX12_285 (by decide) h12.o (h17) ?_
    refine V_lload_n (pc := 12) dX12_isWord_12 rfl ?_
    refine V_lcmp (pc := 13) dX12_isWord_13 ?_
    refine V_if_ne (pc := 14) (tgt := 21) dX12_isWord_14 (by decide) (fun c14 => ?_) (fun n14 => ?_)
    · skip
      rw [decide_eq_false (fun z => by have := (tc_w hk).mp z; first | omega | exact c14 ((lg_cmp_eq _ _).mpr this.2))]
      refine V_iconst (pc := 21) (v := nI 0) dX12_isWord_21 (by decide) ?_
      refine V_zretB (pc := 22) (p := false) dX12_isWord_22 rfl rfl (by first | decide | omega) (by first | decide | omega) ?_
      exact ⟨rfl, rfl, rfl, rfl⟩
    · skip
      rw [decide_eq_true ((tc_w hk).mpr ⟨by omega, Classical.byContradiction fun z => absurd (show lg_cmp (i64 (wth t n p)) (tcv k) ≠ 0 from fun y => z ((lg_cmp_eq _ _).mp y)) (by first | exact not_not_intro n14 | exact n14 | exact fun y => n14 y)⟩)]
      refine V_iconst (pc := 17) (v := nI 1) dX12_isWord_17 (by decide) ?_
      refine V_goto (pc := 18) (tgt := 22) dX12_isWord_18 (by decide) ?_
      refine V_zretB (pc := 22) (p := true) dX12_isWord_22 rfl rfl (by first | decide | omega) (by first | decide | omega) ?_
      exact ⟨rfl, rfl, rfl, rfl⟩
end PA
