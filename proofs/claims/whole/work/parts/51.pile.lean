/-! THE REFERENCE reads: its pile and its code -/
abbrev PT : Type := Nat × Nat × Nat × List (Nat × Nat) × CT
def PlM (I : IT) (o : Nat) : List (Nat × Nat) → Prop | [] => True | x :: P => (I (o + 13) P.length = nI x.1 ∧ I (o + 14) P.length = nI x.2) ∧ PlM I o P
def CdM (I : IT) (o : Nat) (c : CT) : Prop := I o 23 = nI c.2.2 ∧ ∀ k, k < c.2.2 → I (o + 11) k = nI (c.1 k) ∧ I (o + 12) k = nI (c.2.1 k)
def FP (o : Nat) (I' I : IT) (L' L : LT) : Prop := (∀ a, a ≠ o → (a < o + 11 ∨ o + 14 < a) → I' a = I a) ∧ (∀ i, (i < 14 ∨ (19 < i ∧ i ≠ 23 ∧ i ≠ 26 ∧ i ≠ 29 ∧ i ≠ 30)) → I' o i = I o i) ∧ (∀ a, a ≠ o → L' a = L a) ∧ ∀ i, i ≠ 17 → L' o i = L o i
def fltI (b : Option Nat) : Int32 := match b with | none => -1 | some f => nI f
def PS (o : Nat) (t : Nat → Nat) (n : Nat) (I0 : IT) (L0 : LT) (I : IT) (L : LT) (b : Option Nat) (s : PT) : Prop := TK o t n I L s.1 ∧ I o 26 = nI s.2.1 ∧ I o 30 = nI s.2.2.1 ∧ I o 29 = nI s.2.2.2.1.length ∧ PlM I o s.2.2.2.1 ∧ CdM I o s.2.2.2.2 ∧ I o 19 = b2i b.isSome ∧ I o 18 = fltI b ∧ FP o I I0 L L0
theorem PlM.cg {I I' : IT} {o : Nat} : ∀ {P : List (Nat × Nat)}, PlM I o P → (∀ k, k < P.length → I' (o + 13) k = I (o + 13) k ∧ I' (o + 14) k = I (o + 14) k) → PlM I' o P
  | [], _, _ => trivial
  | x :: P, h, g => ⟨⟨by rw [(g P.length (by simp)).1]; exact h.1.1, by rw [(g P.length (by simp)).2]; exact h.1.2⟩, PlM.cg h.2 fun k hk => g k (by simp; omega)⟩
theorem TK.cg {o n p : Nat} {t : Nat → Nat} {I I' : IT} {L : LT} (h : TK o t n I L p) (h9 : I' (o + 9) = I (o + 9)) (ho : ∀ i, 13 ≤ i → i < 17 → I' o i = I o i) : TK o t n I' L p :=
  ⟨⟨(ho 13 (by omega) (by omega)).trans h.1.1, fun i hi => by rw [h9]; exact h.1.2.1 i hi, h.1.2.2⟩, h.2.1, (ho 14 (by omega) (by omega)).trans h.2.2.1, (ho 15 (by omega) (by omega)).trans h.2.2.2.1, (ho 16 (by omega) (by omega)).trans h.2.2.2.2.1, h.2.2.2.2.2⟩
theorem C_mono {E : EnT} {k : MI} {d mc ms : Nat} {av : List Value} {S : ST} {I : IT} {L : LT} {post post' : Option Value → ST → IT → LT → Prop} (h : C E k d mc ms av S I L post) (hi : ∀ r S' I' L', post r S' I' L' → post' r S' I' L') : C E k d mc ms av S I L post' := by
  intro p e h1 h2 h3 s m args below h4 h5 h6 h7
  obtain ⟨n, o, a1, a2, a3, ⟨r, S', I', L', b1, b2, b3, b4⟩, a5⟩ := h p e h1 h2 h3 s m args below h4 h5 h6 h7
  exact ⟨n, o, a1, a2, a3, ⟨r, S', I', L', b1, hi r S' I' L' b2, b3, b4⟩, a5⟩
theorem bnds_le (x : Nat) : bnds x ≤ 6 := by
  unfold bnds
  split; omega
  split; omega
  split; omega
  split; omega
  split; omega
  split <;> omega
section PA
variable {E : EnT} {S : ST} {I I0 : IT} {L L0 : LT} {o n p l d : Nat} {t : Nat → Nat} {P : List (Nat × Nat)} {c : CT} {b : Option Nat}
theorem FP.rf : FP o I I L L := ⟨fun _ _ _ => rfl, fun _ _ => rfl, fun _ _ => rfl, fun _ _ => rfl⟩
theorem FP.fn {I' : IT} {L' : LT} (h : FP o I I0 L L0) (f : FN o I' I L' L) : FP o I' I0 L' L0 := ⟨fun a h1 h2 => (f.1 a h1).trans (h.1 a h1 h2), fun i hi => (f.2.1 i (by omega)).trans (h.2.1 i hi), fun a ha => (f.2.2.1 a ha).trans (h.2.2.1 a ha), fun i hi => (f.2.2.2 i hi).trans (h.2.2.2 i hi)⟩
theorem FP.upo {i : Nat} {v : Int32} (h : FP o I I0 L L0) (hi : ¬ (i < 14 ∨ (19 < i ∧ i ≠ 23 ∧ i ≠ 26 ∧ i ≠ 29 ∧ i ≠ 30))) : FP o (up2 I o i v) I0 L L0 := ⟨fun a h1 h2 => by rw [up2_row h1]; exact h.1 a h1 h2, fun j hj => by rw [up2_nej (fun z => hi (by rw [← z]; exact hj))]; exact h.2.1 j hj, h.2.2⟩
theorem FP.upr {a i : Nat} {v : Int32} (h : FP o I I0 L L0) (h1 : o + 11 ≤ a) (h2 : a ≤ o + 14) : FP o (up2 I a i v) I0 L L0 := ⟨fun x h3 h4 => by rw [up2_row (by omega)]; exact h.1 x h3 h4, fun j hj => by rw [up2_ne (by omega)]; exact h.2.1 j hj, h.2.2⟩
/-- the next token's state -/
theorem PS.nx {I' : IT} {L' : LT} {p' : Nat} {s : PT} (h : PS o t n I0 L0 I L b s) (f : FN o I' I L' L) (hT : TK o t n I' L' p') : PS o t n I0 L0 I' L' b (p', s.2) := by
  obtain ⟨h1, h2, h3, h4, h5, h6, h7, h8, h9⟩ := h
  refine ⟨hT, (f.2.1 _ (by omega)).trans h2, (f.2.1 _ (by omega)).trans h3, (f.2.1 _ (by omega)).trans h4, h5.cg fun k _ => ⟨by rw [f.1 _ (by omega)], by rw [f.1 _ (by omega)]⟩, ⟨(f.2.1 _ (by omega)).trans h6.1, fun k hk => ?_⟩, (f.2.1 _ (by omega)).trans h7, (f.2.1 _ (by omega)).trans h8, h9.fn f⟩
  rw [f.1 _ (by omega), f.1 _ (by omega)]; exact h6.2 k hk
theorem PS.bad {s : PT} (h : PS o t n I0 L0 I L none s) : PS o t n I0 L0 (up2 (up2 I o 19 (nI 1)) o 18 (nI s.1)) L (some s.1) s := by
  obtain ⟨h1, h2, h3, h4, h5, h6, h7, h8, h9⟩ := h
  have f : ∀ i, i ≠ 18 → i ≠ 19 → up2 (up2 I o 19 (nI 1)) o 18 (nI s.1) o i = I o i := fun i a1 a2 => by rw [up2_nej a1, up2_nej a2]
  have g : ∀ a, a ≠ o → up2 (up2 I o 19 (nI 1)) o 18 (nI s.1) a = I a := fun a ha => by rw [up2_row ha, up2_row ha]
  refine ⟨h1.cg (g _ (by omega)) fun i h1 h2 => f i (by omega) (by omega), (f _ (by omega) (by omega)).trans h2, (f _ (by omega) (by omega)).trans h3, (f _ (by omega) (by omega)).trans h4, h5.cg fun k _ => ⟨by rw [g _ (by omega)], by rw [g _ (by omega)]⟩, ⟨(f _ (by omega) (by omega)).trans h6.1, fun k hk => ?_⟩, ?_, up2_self, (h9.upo (by omega)).upo (by omega)⟩
  · rw [g _ (by omega), g _ (by omega)]; exact h6.2 k hk
  · rw [up2_nej (by omega), up2_self]; rfl
theorem PS.emit {x y : Nat} (h : PS o t n I0 L0 I L b (p, l, d, P, c)) : PS o t n I0 L0 (up2 (up2 (up2 I (o + 11) c.2.2 (nI x)) (o + 12) c.2.2 (nI y)) o 23 (nI (c.2.2 + 1))) L b (p, l, d, P, (setq c.1 c.2.2 x, setq c.2.1 c.2.2 y, c.2.2 + 1)) := by
  obtain ⟨h1, h2, h3, h4, h5, h6, h7, h8, h9⟩ := h
  have f : ∀ i, i ≠ 23 → up2 (up2 (up2 I (o + 11) c.2.2 (nI x)) (o + 12) c.2.2 (nI y)) o 23 (nI (c.2.2 + 1)) o i = I o i := fun i a1 => by rw [up2_nej a1, up2_ne (by omega), up2_ne (by omega)]
  have g : ∀ a, a ≠ o → a ≠ o + 11 → a ≠ o + 12 → up2 (up2 (up2 I (o + 11) c.2.2 (nI x)) (o + 12) c.2.2 (nI y)) o 23 (nI (c.2.2 + 1)) a = I a := fun a a1 a2 a3 => by rw [up2_row a1, up2_row a3, up2_row a2]
  refine ⟨h1.cg (g _ (by omega) (by omega) (by omega)) fun i h1 h2 => f i (by omega), (f _ (by omega)).trans h2, (f _ (by omega)).trans h3, (f _ (by omega)).trans h4, h5.cg fun k _ => ⟨by rw [g _ (by omega) (by omega) (by omega)], by rw [g _ (by omega) (by omega) (by omega)]⟩, ⟨up2_self, fun k hk => ?_⟩, (f _ (by omega)).trans h7, (f _ (by omega)).trans h8, ((h9.upr (by omega) (by omega)).upr (by omega) (by omega)).upo (by omega)⟩
  have hk : k < c.2.2 + 1 := hk
  show _ = nI (setq c.1 c.2.2 x k) ∧ _ = nI (setq c.2.1 c.2.2 y k)
  by_cases e : k = c.2.2
  · subst e; rw [setq_s, setq_s, up2_ne (by omega), up2_ne (by omega), up2_self, up2_ne (by omega), up2_self]; exact ⟨rfl, rfl⟩
  · rw [setq_n e, setq_n e, up2_ne (by omega), up2_ne (by omega), up2_nej e, up2_ne (by omega), up2_nej e, up2_ne (by omega)]; exact h6.2 k (show k < c.2.2 by omega)
theorem PS.push {x y : Nat} (h : PS o t n I0 L0 I L b (p, l, d, P, c)) : PS o t n I0 L0 (up2 (up2 (up2 I (o + 13) P.length (nI x)) (o + 14) P.length (nI y)) o 29 (nI (P.length + 1))) L b (p, l, d, (x, y) :: P, c) := by
  obtain ⟨h1, h2, h3, h4, h5, h6, h7, h8, h9⟩ := h
  have f : ∀ i, i ≠ 29 → up2 (up2 (up2 I (o + 13) P.length (nI x)) (o + 14) P.length (nI y)) o 29 (nI (P.length + 1)) o i = I o i := fun i a1 => by rw [up2_nej a1, up2_ne (by omega), up2_ne (by omega)]
  have g : ∀ a, a ≠ o → a ≠ o + 13 → a ≠ o + 14 → up2 (up2 (up2 I (o + 13) P.length (nI x)) (o + 14) P.length (nI y)) o 29 (nI (P.length + 1)) a = I a := fun a a1 a2 a3 => by rw [up2_row a1, up2_row a3, up2_row a2]
  refine ⟨h1.cg (g _ (by omega) (by omega) (by omega)) fun i h1 h2 => f i (by omega), (f _ (by omega)).trans h2, (f _ (by omega)).trans h3, up2_self, ⟨⟨?_, ?_⟩, h5.cg fun k hk => ?_⟩, ⟨(f _ (by omega)).trans h6.1, fun k hk => ?_⟩, (f _ (by omega)).trans h7, (f _ (by omega)).trans h8, ((h9.upr (by omega) (by omega)).upr (by omega) (by omega)).upo (by omega)⟩
  · rw [up2_ne (by omega), up2_ne (by omega), up2_self]
  · rw [up2_ne (by omega), up2_self]
  · have hk : k < P.length := hk
    rw [up2_ne (by omega), up2_ne (by omega), up2_nej (by omega), up2_ne (by omega), up2_nej (by omega), up2_ne (by omega)]; exact ⟨rfl, rfl⟩
  · rw [g _ (by omega) (by omega) (by omega), g _ (by omega) (by omega) (by omega)]; exact h6.2 k hk
theorem PS.pop {x : Nat × Nat} (h : PS o t n I0 L0 I L b (p, l, d, x :: P, c)) : PS o t n I0 L0 (up2 I o 29 (nI P.length)) L b (p, l, d, P, c) := by
  obtain ⟨h1, h2, h3, h4, h5, h6, h7, h8, h9⟩ := h
  have f : ∀ i, i ≠ 29 → up2 I o 29 (nI P.length) o i = I o i := fun i a1 => up2_nej a1
  have g : ∀ a, a ≠ o → up2 I o 29 (nI P.length) a = I a := fun a a1 => up2_row a1
  refine ⟨h1.cg (g _ (by omega)) fun i h1 h2 => f i (by omega), (f _ (by omega)).trans h2, (f _ (by omega)).trans h3, up2_self, h5.2.cg fun k hk => ?_, ⟨(f _ (by omega)).trans h6.1, fun k hk => ?_⟩, (f _ (by omega)).trans h7, (f _ (by omega)).trans h8, h9.upo (by omega)⟩
  · rw [g _ (by omega), g _ (by omega)]; exact ⟨rfl, rfl⟩
  · rw [g _ (by omega), g _ (by omega)]; exact h6.2 k hk
theorem PS.set26 {l' : Nat} (h : PS o t n I0 L0 I L b (p, l, d, P, c)) : PS o t n I0 L0 (up2 I o 26 (nI l')) L b (p, l', d, P, c) := by
  obtain ⟨h1, h2, h3, h4, h5, h6, h7, h8, h9⟩ := h
  have f : ∀ i, i ≠ 26 → up2 I o 26 (nI l') o i = I o i := fun i a1 => up2_nej a1
  have g : ∀ a, a ≠ o → up2 I o 26 (nI l') a = I a := fun a a1 => up2_row a1
  refine ⟨h1.cg (g _ (by omega)) fun i h1 h2 => f i (by omega), up2_self, (f _ (by omega)).trans h3, (f _ (by omega)).trans h4, h5.cg fun k hk => ?_, ⟨(f _ (by omega)).trans h6.1, fun k hk => ?_⟩, (f _ (by omega)).trans h7, (f _ (by omega)).trans h8, h9.upo (by omega)⟩
  · rw [g _ (by omega), g _ (by omega)]; exact ⟨rfl, rfl⟩
  · rw [g _ (by omega), g _ (by omega)]; exact h6.2 k hk
theorem PS.set30 {d' : Nat} (h : PS o t n I0 L0 I L b (p, l, d, P, c)) : PS o t n I0 L0 (up2 I o 30 (nI d')) L b (p, l, d', P, c) := by
  obtain ⟨h1, h2, h3, h4, h5, h6, h7, h8, h9⟩ := h
  have f : ∀ i, i ≠ 30 → up2 I o 30 (nI d') o i = I o i := fun i a1 => up2_nej a1
  have g : ∀ a, a ≠ o → up2 I o 30 (nI d') a = I a := fun a a1 => up2_row a1
  refine ⟨h1.cg (g _ (by omega)) fun i h1 h2 => f i (by omega), (f _ (by omega)).trans h2, up2_self, (f _ (by omega)).trans h4, h5.cg fun k hk => ?_, ⟨(f _ (by omega)).trans h6.1, fun k hk => ?_⟩, (f _ (by omega)).trans h7, (f _ (by omega)).trans h8, h9.upo (by omega)⟩
  · rw [g _ (by omega), g _ (by omega)]; exact ⟨rfl, rfl⟩
  · rw [g _ (by omega), g _ (by omega)]; exact h6.2 k hk
theorem PS.patch {k v : Nat} (h : PS o t n I0 L0 I L b (p, l, d, P, c)) : PS o t n I0 L0 (up2 I (o + 12) k (nI v)) L b (p, l, d, P, (c.1, setq c.2.1 k v, c.2.2)) := by
  obtain ⟨h1, h2, h3, h4, h5, h6, h7, h8, h9⟩ := h
  have f : ∀ i, up2 I (o + 12) k (nI v) o i = I o i := fun i => up2_ne (by omega)
  have g : ∀ a, a ≠ o + 12 → up2 I (o + 12) k (nI v) a = I a := fun a a1 => up2_row a1
  refine ⟨h1.cg (g _ (by omega)) fun i h1 h2 => f i, (f _).trans h2, (f _).trans h3, (f _).trans h4, h5.cg fun k hk => ?_, ⟨(f _).trans h6.1, fun j hj => ?_⟩, (f _).trans h7, (f _).trans h8, h9.upr (by omega) (by omega)⟩
  · rw [g _ (by omega), g _ (by omega)]; exact ⟨rfl, rfl⟩
  · refine ⟨by rw [g _ (by omega)]; exact (h6.2 j hj).1, ?_⟩
    show _ = nI (setq c.2.1 k v j)
    by_cases e : j = k
    · subst e; rw [setq_s, up2_self]
    · rw [setq_n e, up2_nej e]; exact (h6.2 j hj).2
theorem c_X12_isWord (h12 : Lay12 E S o) (hT : TK o t n I L p) {w : Int64} {k : Nat} (hk : k < 29) (hw : tcv k = w) : Cd E kX12_isWord 0 0 0 [.ref o, .long w] S I L (.int (b2i (decide (tc t n p = k)))) S I L := by
  subst hw
  have h16 := hT.2.2.2.2.1
  have h17 := hT.2.2.2.2.2
  have hs := srt_le t n p
  refine C_of (by decide) (Nat.le_of_ble_eq_true rfl) ?_
  refine V_aload_n (pc := 0) dX12_isWord_0 rfl ?_
  refine V_getIE (pc := 1) 12 16 dX12_isWord_1 flX12_295 (by decide) h12.o (h16) ?_
  refine V_iconst (pc := 4) (v := nI 1) dX12_isWord_4 (by decide) ?_
  refine V_icmp_neN (pc := 5) (tgt := 21) dX12_isWord_5 (by decide) (by omega) (by omega) (fun c5 => ?_) (fun n5 => ?_)
  · skip
    rw [decide_eq_false (fun z => by have := (tc_w hk).mp z; first | omega | exact c14 ((lg_cmp_eq _ _).mpr this.2))]
    refine V_iconst (pc := 21) (v := nI 0) dX12_isWord_21 (by decide) ?_
    refine V_zretB (pc := 22) (p := false) dX12_isWord_22 rfl rfl (by first | decide | omega) (by first | decide | omega) ?_
    exact ⟨rfl, rfl, rfl, rfl⟩
  · skip
    refine V_aload_n (pc := 8) dX12_isWord_8 rfl ?_
    refine V_getLE (pc := 9) 12 17 dX12_isWord_9 flX12_285 (by decide) h12.o (h17) ?_
    refine V_lload_n (pc := 12) dX12_isWord_12 rfl ?_
    refine V_lcmp (pc := 13) dX12_isWord_13 ?_
    refine V_if_ne (pc := 14) (tgt := 21) dX12_isWord_14 (by decide) (fun c14 => ?_) (fun n14 => ?_)
    · skip
      rw [decide_eq_false (fun z => by have := (tc_w hk).mp z; first | omega | exact c14 ((lg_cmp_eq _ _).mpr this.2))]
      refine V_iconst (pc := 21) (v := nI 0) dX12_isWord_21 (by decide) ?_
      refine V_zretB (pc := 22) (p := false) dX12_isWord_22 rfl rfl (by first | decide | omega) (by first | decide | omega) ?_
      exact ⟨rfl, rfl, rfl, rfl⟩
    · skip
      rw [decide_eq_true ((tc_w hk).mpr ⟨by omega, Classical.byContradiction fun z => absurd (show lg_cmp (i64 (wth t n p)) (tcv k) ≠ 0 from fun y => z ((lg_cmp_eq _ _).mp y)) (by first | exact not_not_intro n14 | exact n14 | exact fun y => n14 y)⟩)]
      refine V_iconst (pc := 17) (v := nI 1) dX12_isWord_17 (by decide) ?_
      refine V_goto (pc := 18) (tgt := 22) dX12_isWord_18 (by decide) ?_
      refine V_zretB (pc := 22) (p := true) dX12_isWord_22 rfl rfl (by first | decide | omega) (by first | decide | omega) ?_
      exact ⟨rfl, rfl, rfl, rfl⟩
theorem c_X12_isSign (h12 : Lay12 E S o) (hT : TK o t n I L p) {c : Nat} (hc : c < 256) : Cd E kX12_isSign 0 0 0 [.ref o, .int (nI c)] S I L (.int (b2i (decide (tc t n p = 100 + c)))) S I L := by
  have h16 := hT.2.2.2.2.1
  have h17 := hT.2.2.2.2.2
  have hs := srt_le t n p
  have hw : srt t n p = 3 → wth t n p = (t p : Int) ∧ t p < 256 := fun h => ⟨by rw [wth, h]; rfl, hT.1.2.2.2 p (by
    have h1 := hT.2.1
    have h2 : ¬ p = n := fun z => by have := (srt_end (t := t)).mpr z; omega
    omega)⟩
  have hcmp : srt t n p = 3 → (i64 (wth t n p) = lN c ↔ t p = c) := fun h => by
    rw [(hw h).1, i64_lN, i64_inj ⟨by omega, by have := (hw h).2; omega⟩ ⟨by omega, by omega⟩]; omega
  refine C_of (by decide) (Nat.le_of_ble_eq_true rfl) ?_
  refine V_aload_n (pc := 0) dX12_isSign_0 rfl ?_
  refine V_getIE (pc := 1) 12 16 dX12_isSign_1 flX12_295 (by decide) h12.o (h16) ?_
  refine V_iconst (pc := 4) (v := nI 3) dX12_isSign_4 (by decide) ?_
  refine V_icmp_neN (pc := 5) (tgt := 22) dX12_isSign_5 (by decide) (by omega) (by omega) (fun c5 => ?_) (fun n5 => ?_)
  · skip
    rw [decide_eq_false (fun z => by have := tc_s.mp z; first | omega | exact c15 ((lg_cmp_eq _ _).mpr ((hcmp this.1).mpr this.2)))]
    refine V_iconst (pc := 22) (v := nI 0) dX12_isSign_22 (by decide) ?_
    refine V_zretB (pc := 23) (p := false) dX12_isSign_23 rfl rfl (by first | decide | omega) (by first | decide | omega) ?_
    exact ⟨rfl, rfl, rfl, rfl⟩
  · skip
    refine V_aload_n (pc := 8) dX12_isSign_8 rfl ?_
    refine V_getLE (pc := 9) 12 17 dX12_isSign_9 flX12_285 (by decide) h12.o (h17) ?_
    refine V_iload_n (pc := 12) dX12_isSign_12 rfl ?_
    refine V_i2lN (pc := 13) dX12_isSign_13 (by omega) ?_
    refine V_lcmp (pc := 14) dX12_isSign_14 ?_
    refine V_if_ne (pc := 15) (tgt := 22) dX12_isSign_15 (by decide) (fun c15 => ?_) (fun n15 => ?_)
    · skip
      rw [decide_eq_false (fun z => by have := tc_s.mp z; first | omega | exact c15 ((lg_cmp_eq _ _).mpr ((hcmp this.1).mpr this.2)))]
      refine V_iconst (pc := 22) (v := nI 0) dX12_isSign_22 (by decide) ?_
      refine V_zretB (pc := 23) (p := false) dX12_isSign_23 rfl rfl (by first | decide | omega) (by first | decide | omega) ?_
      exact ⟨rfl, rfl, rfl, rfl⟩
    · skip
      rw [decide_eq_true (tc_s.mpr ⟨by omega, (hcmp (by omega)).mp (Classical.byContradiction fun z => absurd (show lg_cmp (i64 (wth t n p)) (lN c) ≠ 0 from fun y => z ((lg_cmp_eq _ _).mp y)) (by first | exact not_not_intro n15 | exact n15 | exact fun y => n15 y))⟩)]
      refine V_iconst (pc := 18) (v := nI 1) dX12_isSign_18 (by decide) ?_
      refine V_goto (pc := 19) (tgt := 23) dX12_isSign_19 (by decide) ?_
      refine V_zretB (pc := 23) (p := true) dX12_isSign_23 rfl rfl (by first | decide | omega) (by first | decide | omega) ?_
      exact ⟨rfl, rfl, rfl, rfl⟩
theorem c_X12_nextP (h12 : Lay12 E S o) {s : PT} (h : PS o t n I0 L0 I L b s) : C E kX12_next 1 0 0 [.ref o] S I L (fun r S' I' L' => r = none ∧ S = S' ∧ PS o t n I0 L0 I' L' b (nxt t n s.1, s.2)) := by
  refine C_mono (c_X12_next h12 h.1.1 h.1.2.2.2.1 (enT_le h.1.2.1).2.1) ?_
  intro r S' I' L' hz
  obtain ⟨h1, h2, h3, h4⟩ := hz
  exact ⟨h1, h2, h.nx h4 h3⟩
theorem c_X12_emit (h12 : Lay12 E S o) {x y : Nat} (h : PS o t n I0 L0 I L b (p, l, d, P, c)) (hn : c.2.2 < 400) : C E kX12_emit 0 0 0 [.ref o, .int (nI x), .int (nI y)] S I L (fun r S' I' L' => r = none ∧ S = S' ∧ L' = L ∧ PS o t n I0 L0 I' L' b (p, l, d, P, (setq c.1 c.2.2 x, setq c.2.1 c.2.2 y, c.2.2 + 1))) := by
  have h23 : I o 23 = nI c.2.2 := h.2.2.2.2.2.1.1
  refine C_of (by decide) (Nat.le_of_ble_eq_true rfl) ?_
  refine V_aload_n (pc := 0) dX12_emit_0 rfl ?_
  refine V_getR (pc := 1) 12 24 dX12_emit_1 flX12_45 (by decide) h12.o h12.R24 ?_
  refine V_aload_n (pc := 4) dX12_emit_4 rfl ?_
  refine V_getIE (pc := 5) 12 23 dX12_emit_5 flX12_312 (by decide) h12.o (h23) ?_
  refine V_iload_n (pc := 8) dX12_emit_8 rfl ?_
  refine V_iastore (pc := 9) dX12_emit_9 h12.A24 (by first | decide | omega) (by omega) ?_
  refine V_aload_n (pc := 10) dX12_emit_10 rfl ?_
  refine V_getR (pc := 11) 12 25 dX12_emit_11 flX12_48 (by decide) h12.o h12.R25 ?_
  refine V_aload_n (pc := 14) dX12_emit_14 rfl ?_
  refine V_getIE (pc := 15) 12 23 dX12_emit_15 flX12_312 (by decide) h12.o ((up2_ne (by omega)).trans h23) ?_
  refine V_iload_n (pc := 18) dX12_emit_18 rfl ?_
  refine V_iastore (pc := 19) dX12_emit_19 h12.A25 (by first | decide | omega) (by omega) ?_
  refine V_aload_n (pc := 20) dX12_emit_20 rfl ?_
  refine V_dup (pc := 21) dX12_emit_21 rfl ?_
  refine V_getIE (pc := 22) 12 23 dX12_emit_22 flX12_312 (by decide) h12.o ((up2_ne (by omega)).trans ((up2_ne (by omega)).trans h23)) ?_
  refine V_iconst (pc := 25) (v := nI 1) dX12_emit_25 (by decide) ?_
  refine V_iaddN (pc := 26) dX12_emit_26 ?_
  refine V_putI (pc := 27) 12 23 dX12_emit_27 flX12_312 (by decide) (by decide) (Or.inl rfl) rfl rfl h12.o ?_
  refine V_vret (pc := 30) dX12_emit_30 rfl (by first | decide | omega) (by first | decide | omega) ?_
  exact ⟨rfl, rfl, rfl, h.emit⟩
theorem c_X12_push (h12 : Lay12 E S o) {x y : Nat} (h : PS o t n I0 L0 I L b (p, l, d, P, c)) (hn : P.length < 400) : C E kX12_push 0 0 0 [.ref o, .int (nI x), .int (nI y)] S I L (fun r S' I' L' => r = none ∧ S = S' ∧ L' = L ∧ PS o t n I0 L0 I' L' b (p, l, d, (x, y) :: P, c)) := by
  have h29 : I o 29 = nI P.length := h.2.2.2.1
  refine C_of (by decide) (Nat.le_of_ble_eq_true rfl) ?_
  refine V_aload_n (pc := 0) dX12_push_0 rfl ?_
  refine V_getR (pc := 1) 12 27 dX12_push_1 flX12_51 (by decide) h12.o h12.R27 ?_
  refine V_aload_n (pc := 4) dX12_push_4 rfl ?_
  refine V_getIE (pc := 5) 12 29 dX12_push_5 flX12_315 (by decide) h12.o (h29) ?_
  refine V_iload_n (pc := 8) dX12_push_8 rfl ?_
  refine V_iastore (pc := 9) dX12_push_9 h12.A27 (by first | decide | omega) (by omega) ?_
  refine V_aload_n (pc := 10) dX12_push_10 rfl ?_
  refine V_getR (pc := 11) 12 28 dX12_push_11 flX12_54 (by decide) h12.o h12.R28 ?_
  refine V_aload_n (pc := 14) dX12_push_14 rfl ?_
  refine V_getIE (pc := 15) 12 29 dX12_push_15 flX12_315 (by decide) h12.o ((up2_ne (by omega)).trans h29) ?_
  refine V_iload_n (pc := 18) dX12_push_18 rfl ?_
  refine V_iastore (pc := 19) dX12_push_19 h12.A28 (by first | decide | omega) (by omega) ?_
  refine V_aload_n (pc := 20) dX12_push_20 rfl ?_
  refine V_dup (pc := 21) dX12_push_21 rfl ?_
  refine V_getIE (pc := 22) 12 29 dX12_push_22 flX12_315 (by decide) h12.o ((up2_ne (by omega)).trans ((up2_ne (by omega)).trans h29)) ?_
  refine V_iconst (pc := 25) (v := nI 1) dX12_push_25 (by decide) ?_
  refine V_iaddN (pc := 26) dX12_push_26 ?_
  refine V_putI (pc := 27) 12 29 dX12_push_27 flX12_315 (by decide) (by decide) (Or.inl rfl) rfl rfl h12.o ?_
  refine V_vret (pc := 30) dX12_push_30 rfl (by first | decide | omega) (by first | decide | omega) ?_
  exact ⟨rfl, rfl, rfl, h.push⟩
theorem c_X12_must (h12 : Lay12 E S o) {s : PT} {q : Bool} (h : PS o t n I0 L0 I L none s) : C E kX12_must 2 0 0 [.ref o, .int (b2i q)] S I L (fun r S' I' L' => r = none ∧ S = S' ∧ (q = true → PS o t n I0 L0 I' L' none (nxt t n s.1, s.2)) ∧ (q = false → PS o t n I0 L0 I' L' (some s.1) s)) := by
  have h19 : I o 19 = nI 0 := h.2.2.2.2.2.2.1
  have h14 := h.1.2.2.1
  refine C_of (by decide) (Nat.le_of_ble_eq_true rfl) ?_
  cases q with
  | true =>
    refine V_aload_n (pc := 0) dX12_must_0 rfl ?_
    refine V_getIE (pc := 1) 12 19 dX12_must_1 flX12_275 (by decide) h12.o (h19) ?_
    refine V_if_neN (pc := 4) (tgt := 24) dX12_must_4 (by decide) (by omega) (fun c4 => absurd c4 (by omega)) (fun n4 => ?_)
    refine V_iload_n (pc := 7) dX12_must_7 rfl ?_
    refine V_if_neB (pc := 8) (tgt := 24) dX12_must_8 (by decide) (fun c8 => ?_) (fun n8 => absurd n8 (by decide))
    refine V_aload_n (pc := 24) dX12_must_24 rfl ?_
    refine V_getIE (pc := 25) 12 19 dX12_must_25 flX12_275 (by decide) h12.o (h19) ?_
    refine V_if_neN (pc := 28) (tgt := 35) dX12_must_28 (by decide) (by omega) (fun c28 => absurd c28 (by omega)) (fun n28 => ?_)
    refine V_aload_n (pc := 31) dX12_must_31 rfl ?_
    refine V_callV (pc := 32) (ci := 12) (c_X12_nextP h12 h) dX12_must_32 mlX12_279 mkX12_next rfl rfl h12.o ⟨by decide, rfl⟩ ⟨Nat.le_of_ble_eq_true rfl, Nat.le_of_ble_eq_true rfl⟩ (Nat.le_of_ble_eq_true rfl) ⟨Nat.le_of_ble_eq_true rfl, Nat.le_of_ble_eq_true rfl⟩ (fun r S' I' L' hp => ?_)
    obtain ⟨rfl, rfl, hP⟩ := hp
    refine V_vret (pc := 35) dX12_must_35 rfl (by first | decide | omega) (by first | decide | omega) ?_
    exact ⟨rfl, rfl, (fun _ => hP), fun z => absurd z (by decide)⟩
  | false =>
    refine V_aload_n (pc := 0) dX12_must_0 rfl ?_
    refine V_getIE (pc := 1) 12 19 dX12_must_1 flX12_275 (by decide) h12.o (h19) ?_
    refine V_if_neN (pc := 4) (tgt := 24) dX12_must_4 (by decide) (by omega) (fun c4 => absurd c4 (by omega)) (fun n4 => ?_)
    refine V_iload_n (pc := 7) dX12_must_7 rfl ?_
    refine V_if_neB (pc := 8) (tgt := 24) dX12_must_8 (by decide) (fun c8 => absurd c8 (by decide)) (fun n8 => ?_)
    refine V_aload_n (pc := 11) dX12_must_11 rfl ?_
    refine V_iconst (pc := 12) (v := nI 1) dX12_must_12 (by decide) ?_
    refine V_putI (pc := 13) 12 19 dX12_must_13 flX12_275 (by decide) (by decide) (Or.inl rfl) rfl rfl h12.o ?_
    refine V_aload_n (pc := 16) dX12_must_16 rfl ?_
    refine V_aload_n (pc := 17) dX12_must_17 rfl ?_
    refine V_getIE (pc := 18) 12 14 dX12_must_18 flX12_282 (by decide) h12.o ((up2_nej (by omega)).trans h14) ?_
    refine V_putI (pc := 21) 12 18 dX12_must_21 flX12_38 (by decide) (by decide) (Or.inl rfl) rfl rfl h12.o ?_
    refine V_aload_n (pc := 24) dX12_must_24 rfl ?_
    refine V_getIE (pc := 25) 12 19 dX12_must_25 flX12_275 (by decide) h12.o ((up2_nej (by omega)).trans up2_self) ?_
    refine V_if_neN (pc := 28) (tgt := 35) dX12_must_28 (by decide) (by omega) (fun c28 => ?_) (fun n28 => absurd n28 (by omega))
    refine V_vret (pc := 35) dX12_must_35 rfl (by first | decide | omega) (by first | decide | omega) ?_
    exact ⟨rfl, rfl, (fun z => absurd z (by decide)), fun _ => h.bad⟩
theorem c_X12_binds {x : Nat} (hx : x < 400) : Cd E kX12_binds 0 0 0 [.int (nI x)] S I L (.int (nI (bnds x))) S I L := by
  refine C_of (by decide) (Nat.le_of_ble_eq_true rfl) ?_
  refine V_iload_n (pc := 0) dX12_binds_0 rfl ?_
  refine V_bipush (pc := 1) (v := nI 31) dX12_binds_1 (by decide) ?_
  refine V_icmp_ltN (pc := 3) (tgt := 10) dX12_binds_3 (by decide) (by omega) (by omega) (fun c3 => ?_) (fun n3 => ?_)
  · skip
    refine V_iload_n (pc := 10) dX12_binds_10 rfl ?_
    refine V_bipush (pc := 11) (v := nI 30) dX12_binds_11 (by decide) ?_
    refine V_icmp_neN (pc := 13) (tgt := 20) dX12_binds_13 (by decide) (by omega) (by omega) (fun c13 => ?_) (fun n13 => ?_)
    · skip
      refine V_iload_n (pc := 20) dX12_binds_20 rfl ?_
      refine V_bipush (pc := 21) (v := nI 29) dX12_binds_21 (by decide) ?_
      refine V_icmp_neN (pc := 23) (tgt := 30) dX12_binds_23 (by decide) (by omega) (by omega) (fun c23 => ?_) (fun n23 => ?_)
      · skip
        refine V_iload_n (pc := 30) dX12_binds_30 rfl ?_
        refine V_bipush (pc := 31) (v := nI 28) dX12_binds_31 (by decide) ?_
        refine V_icmp_neN (pc := 33) (tgt := 40) dX12_binds_33 (by decide) (by omega) (by omega) (fun c33 => ?_) (fun n33 => ?_)
        · skip
          refine V_iload_n (pc := 40) dX12_binds_40 rfl ?_
          refine V_bipush (pc := 41) (v := nI 25) dX12_binds_41 (by decide) ?_
          refine V_icmp_ltN (pc := 43) (tgt := 50) dX12_binds_43 (by decide) (by omega) (by omega) (fun c43 => ?_) (fun n43 => ?_)
          · skip
            refine V_iload_n (pc := 50) dX12_binds_50 rfl ?_
            refine V_bipush (pc := 51) (v := nI 22) dX12_binds_51 (by decide) ?_
            refine V_icmp_ltN (pc := 53) (tgt := 61) dX12_binds_53 (by decide) (by omega) (by omega) (fun c53 => ?_) (fun n53 => ?_)
            · skip
              rw [show bnds x = 5 from by unfold bnds; rw [if_neg (by omega), if_neg (by omega), if_neg (by omega), if_neg (by omega), if_neg (by omega), if_neg (by omega)]]
              refine V_iconst (pc := 61) (v := nI 5) dX12_binds_61 (by decide) ?_
              refine V_iret (pc := 62) dX12_binds_62 rfl (by first | decide | omega) (by first | decide | omega) ?_
              exact ⟨rfl, rfl, rfl, rfl⟩
            · skip
              rw [show bnds x = 6 from by unfold bnds; rw [if_neg (by omega), if_neg (by omega), if_neg (by omega), if_neg (by omega), if_neg (by omega), if_pos (by omega)]]
              refine V_bipush (pc := 56) (v := nI 6) dX12_binds_56 (by decide) ?_
              refine V_goto (pc := 58) (tgt := 62) dX12_binds_58 (by decide) ?_
              refine V_iret (pc := 62) dX12_binds_62 rfl (by first | decide | omega) (by first | decide | omega) ?_
              exact ⟨rfl, rfl, rfl, rfl⟩
          · skip
            rw [show bnds x = 4 from by unfold bnds; rw [if_neg (by omega), if_neg (by omega), if_neg (by omega), if_neg (by omega), if_pos (by omega)]]
            refine V_iconst (pc := 46) (v := nI 4) dX12_binds_46 (by decide) ?_
            refine V_goto (pc := 47) (tgt := 62) dX12_binds_47 (by decide) ?_
            refine V_iret (pc := 62) dX12_binds_62 rfl (by first | decide | omega) (by first | decide | omega) ?_
            exact ⟨rfl, rfl, rfl, rfl⟩
        · skip
          rw [show bnds x = 3 from by unfold bnds; rw [if_neg (by omega), if_neg (by omega), if_neg (by omega), if_pos (by omega)]]
          refine V_iconst (pc := 36) (v := nI 3) dX12_binds_36 (by decide) ?_
          refine V_goto (pc := 37) (tgt := 62) dX12_binds_37 (by decide) ?_
          refine V_iret (pc := 62) dX12_binds_62 rfl (by first | decide | omega) (by first | decide | omega) ?_
          exact ⟨rfl, rfl, rfl, rfl⟩
      · skip
        rw [show bnds x = 2 from by unfold bnds; rw [if_neg (by omega), if_neg (by omega), if_pos (by omega)]]
        refine V_iconst (pc := 26) (v := nI 2) dX12_binds_26 (by decide) ?_
        refine V_goto (pc := 27) (tgt := 62) dX12_binds_27 (by decide) ?_
        refine V_iret (pc := 62) dX12_binds_62 rfl (by first | decide | omega) (by first | decide | omega) ?_
        exact ⟨rfl, rfl, rfl, rfl⟩
    · skip
      rw [show bnds x = 1 from by unfold bnds; rw [if_neg (by omega), if_pos (by omega)]]
      refine V_iconst (pc := 16) (v := nI 1) dX12_binds_16 (by decide) ?_
      refine V_goto (pc := 17) (tgt := 62) dX12_binds_17 (by decide) ?_
      refine V_iret (pc := 62) dX12_binds_62 rfl (by first | decide | omega) (by first | decide | omega) ?_
      exact ⟨rfl, rfl, rfl, rfl⟩
  · skip
    rw [show bnds x = 0 from by unfold bnds; rw [if_pos (by omega)]]
    refine V_iconst (pc := 6) (v := nI 0) dX12_binds_6 (by decide) ?_
    refine V_goto (pc := 7) (tgt := 62) dX12_binds_7 (by decide) ?_
    refine V_iret (pc := 62) dX12_binds_62 rfl (by first | decide | omega) (by first | decide | omega) ?_
    exact ⟨rfl, rfl, rfl, rfl⟩
/-- room for what waits -/
def cntP : List (Nat × Nat) → Nat | [] => 0 | x :: P => (if x.1 = 29 ∨ x.1 = 30 then 0 else 1) + cntP P
def PlB (nc : Nat) (P : List (Nat × Nat)) : Prop := ∀ x ∈ P, 20 ≤ x.1 ∧ x.1 ≤ 32 ∧ ((x.1 = 29 ∨ x.1 = 30) → x.2 < nc)
theorem lp_settle (h12 : Lay12 E S o) {Q : QT} {k : Nat} (hk : k < 400) (hn : n ≤ 400) : ∀ (P : List (Nat × Nat)) (c : CT) (I : IT) (L : LT), PS o t n I0 L0 I L b (p, l, d, P, c) → P.length ≤ 400 → c.2.2 + cntP P ≤ 400 → PlB c.2.2 P → (∀ I' L', L' = L → PS o t n I0 L0 I' L' b (p, l, d, (sto k P c).1, (sto k P c).2) → V E kX12_settle (rmOf 1 0 0) Q 0 0 S I' L' 101 [(0, .ref o), (1, .int (nI k))] []) → V E kX12_settle (rmOf 1 0 0) Q 0 0 S I L 0 [(0, .ref o), (1, .int (nI k))] [] := by
  intro P
  induction P with
  | nil =>
    intro c I L h _ _ _ hq
    have h29 : I o 29 = nI 0 := h.2.2.2.1
    refine V_aload_n (pc := 0) dX12_settle_0 rfl ?_
    refine V_getIE (pc := 1) 12 29 dX12_settle_1 flX12_315 (by decide) h12.o (h29) ?_
    refine V_if_leN (pc := 4) (tgt := 101) dX12_settle_4 (by decide) (by omega) (fun c4 => ?_) (fun n4 => absurd n4 (by omega))
    exact hq I L rfl h
  | cons x P ih =>
    intro c I L h hl hc hb hq
    have h29 : I o 29 = nI (P.length + 1) := h.2.2.2.1
    obtain ⟨b1, b2, b3⟩ := hb x (by simp)
    have hl2 : P.length + 1 ≤ 400 := hl
    have hb6 := bnds_le x.1
    have hpl : PlM I o (x :: P) := h.2.2.2.2.1
    have hc0 : (if x.1 = 29 ∨ x.1 = 30 then 0 else 1) + cntP P + c.2.2 ≤ 400 := by have : cntP (x :: P) = _ := rfl; rw [cntP] at hc; omega
    have hpx : I (o + 13) P.length = nI x.1 := hpl.1.1
    have hpy : I (o + 14) P.length = nI x.2 := hpl.1.2
    by_cases hk2 : k ≤ bnds x.1
    · rw [sto, if_pos hk2] at hq
      have hpop := h.pop
      have r13 : up2 I o 29 (nI P.length) (o + 13) P.length = nI x.1 := (up2_ne (by omega)).trans hpx
      have r14 : up2 I o 29 (nI P.length) (o + 14) P.length = nI x.2 := (up2_ne (by omega)).trans hpy
      have r23 : up2 I o 29 (nI P.length) o 23 = nI c.2.2 := (up2_nej (by omega)).trans h.2.2.2.2.2.1.1
      by_cases ha : x.1 = 29 ∨ x.1 = 30
      · rw [if_pos ha] at hc0
        have hx2 := b3 ha
        have st := ih (em1 x c) _ L (show PS o t n I0 L0 (up2 (up2 I o 29 (nI P.length)) (o + 12) x.2 (nI c.2.2)) L b (p, l, d, P, em1 x c) from by unfold em1; rw [if_pos ha]; exact hpop.patch) (by omega) (by unfold em1; rw [if_pos ha]; show c.2.2 + _ ≤ 400; omega) (by unfold em1; rw [if_pos ha]; exact fun y hy => hb y (List.mem_cons_of_mem x hy)) hq
        refine V_aload_n (pc := 0) dX12_settle_0 rfl ?_
        refine V_getIE (pc := 1) 12 29 dX12_settle_1 flX12_315 (by decide) h12.o (h29) ?_
        refine V_if_leN (pc := 4) (tgt := 101) dX12_settle_4 (by decide) (by omega) (fun c4 => absurd c4 (by omega)) (fun n4 => ?_)
        refine V_aload_n (pc := 7) dX12_settle_7 rfl ?_
        refine V_getR (pc := 8) 12 27 dX12_settle_8 flX12_51 (by decide) h12.o h12.R27 ?_
        refine V_aload_n (pc := 11) dX12_settle_11 rfl ?_
        refine V_getIE (pc := 12) 12 29 dX12_settle_12 flX12_315 (by decide) h12.o (h29) ?_
        refine V_iconst (pc := 15) (v := nI 1) dX12_settle_15 (by decide) ?_
        refine V_isubN (pc := 16) dX12_settle_16 (by omega) ?_
        refine V_ialoadE (pc := 17) dX12_settle_17 h12.A27 (by first | decide | omega) (by omega) (hpx) ?_
        refine V_callSd (pc := 18) (c_X12_binds (by omega)) dX12_settle_18 mlX12_318 mkX12_binds rfl rfl ⟨Nat.le_of_ble_eq_true rfl, Nat.le_of_ble_eq_true rfl⟩ (Nat.le_of_ble_eq_true rfl) ⟨Nat.le_of_ble_eq_true rfl, Nat.le_of_ble_eq_true rfl⟩ ?_
        refine V_iload_n (pc := 21) dX12_settle_21 rfl ?_
        refine V_icmp_ltN (pc := 22) (tgt := 101) dX12_settle_22 (by decide) (by omega) (by omega) (fun c22 => absurd c22 (by omega)) (fun n22 => ?_)
        refine V_aload_n (pc := 25) dX12_settle_25 rfl ?_
        refine V_dup (pc := 26) dX12_settle_26 rfl ?_
        refine V_getIE (pc := 27) 12 29 dX12_settle_27 flX12_315 (by decide) h12.o (h29) ?_
        refine V_iconst (pc := 30) (v := nI 1) dX12_settle_30 (by decide) ?_
        refine V_isubN (pc := 31) dX12_settle_31 (by omega) ?_
        refine V_putI (pc := 32) 12 29 dX12_settle_32 flX12_315 (by decide) (by decide) (Or.inl rfl) rfl rfl h12.o ?_
        refine V_aload_n (pc := 35) dX12_settle_35 rfl ?_
        refine V_getR (pc := 36) 12 27 dX12_settle_36 flX12_51 (by decide) h12.o h12.R27 ?_
        refine V_aload_n (pc := 39) dX12_settle_39 rfl ?_
        refine V_getIE (pc := 40) 12 29 dX12_settle_40 flX12_315 (by decide) h12.o (up2_self) ?_
        refine V_ialoadE (pc := 43) dX12_settle_43 h12.A27 (by first | decide | omega) (by omega) (r13) ?_
        refine V_bipush (pc := 44) (v := nI 29) dX12_settle_44 (by decide) ?_
        refine V_icmp_eqN (pc := 46) (tgt := 63) dX12_settle_46 (by decide) (by omega) (by omega) (fun c46 => ?_) (fun n46 => ?_)
        · skip
          refine V_aload_n (pc := 63) dX12_settle_63 rfl ?_
          refine V_getR (pc := 64) 12 25 dX12_settle_64 flX12_48 (by decide) h12.o h12.R25 ?_
          refine V_aload_n (pc := 67) dX12_settle_67 rfl ?_
          refine V_getR (pc := 68) 12 28 dX12_settle_68 flX12_54 (by decide) h12.o h12.R28 ?_
          refine V_aload_n (pc := 71) dX12_settle_71 rfl ?_
          refine V_getIE (pc := 72) 12 29 dX12_settle_72 flX12_315 (by decide) h12.o (up2_self) ?_
          refine V_ialoadE (pc := 75) dX12_settle_75 h12.A28 (by first | decide | omega) (by omega) (r14) ?_
          refine V_aload_n (pc := 76) dX12_settle_76 rfl ?_
          refine V_getIE (pc := 77) 12 23 dX12_settle_77 flX12_312 (by decide) h12.o (r23) ?_
          refine V_iastore (pc := 80) dX12_settle_80 h12.A25 (by first | decide | omega) (by omega) ?_
          refine V_goto (pc := 81) (tgt := 0) dX12_settle_81 (by decide) ?_
          exact st
        · skip
          refine V_aload_n (pc := 49) dX12_settle_49 rfl ?_
          refine V_getR (pc := 50) 12 27 dX12_settle_50 flX12_51 (by decide) h12.o h12.R27 ?_
          refine V_aload_n (pc := 53) dX12_settle_53 rfl ?_
          refine V_getIE (pc := 54) 12 29 dX12_settle_54 flX12_315 (by decide) h12.o (up2_self) ?_
          refine V_ialoadE (pc := 57) dX12_settle_57 h12.A27 (by first | decide | omega) (by omega) (r13) ?_
          refine V_bipush (pc := 58) (v := nI 30) dX12_settle_58 (by decide) ?_
          refine V_icmp_neN (pc := 60) (tgt := 84) dX12_settle_60 (by decide) (by omega) (by omega) (fun c60 => absurd c60 (by omega)) (fun n60 => ?_)
          refine V_aload_n (pc := 63) dX12_settle_63 rfl ?_
          refine V_getR (pc := 64) 12 25 dX12_settle_64 flX12_48 (by decide) h12.o h12.R25 ?_
          refine V_aload_n (pc := 67) dX12_settle_67 rfl ?_
          refine V_getR (pc := 68) 12 28 dX12_settle_68 flX12_54 (by decide) h12.o h12.R28 ?_
          refine V_aload_n (pc := 71) dX12_settle_71 rfl ?_
          refine V_getIE (pc := 72) 12 29 dX12_settle_72 flX12_315 (by decide) h12.o (up2_self) ?_
          refine V_ialoadE (pc := 75) dX12_settle_75 h12.A28 (by first | decide | omega) (by omega) (r14) ?_
          refine V_aload_n (pc := 76) dX12_settle_76 rfl ?_
          refine V_getIE (pc := 77) 12 23 dX12_settle_77 flX12_312 (by decide) h12.o (r23) ?_
          refine V_iastore (pc := 80) dX12_settle_80 h12.A25 (by first | decide | omega) (by omega) ?_
          refine V_goto (pc := 81) (tgt := 0) dX12_settle_81 (by decide) ?_
          exact st
      · rw [if_neg ha] at hc0
        refine V_aload_n (pc := 0) dX12_settle_0 rfl ?_
        refine V_getIE (pc := 1) 12 29 dX12_settle_1 flX12_315 (by decide) h12.o (h29) ?_
        refine V_if_leN (pc := 4) (tgt := 101) dX12_settle_4 (by decide) (by omega) (fun c4 => absurd c4 (by omega)) (fun n4 => ?_)
        refine V_aload_n (pc := 7) dX12_settle_7 rfl ?_
        refine V_getR (pc := 8) 12 27 dX12_settle_8 flX12_51 (by decide) h12.o h12.R27 ?_
        refine V_aload_n (pc := 11) dX12_settle_11 rfl ?_
        refine V_getIE (pc := 12) 12 29 dX12_settle_12 flX12_315 (by decide) h12.o (h29) ?_
        refine V_iconst (pc := 15) (v := nI 1) dX12_settle_15 (by decide) ?_
        refine V_isubN (pc := 16) dX12_settle_16 (by omega) ?_
        refine V_ialoadE (pc := 17) dX12_settle_17 h12.A27 (by first | decide | omega) (by omega) (hpx) ?_
        refine V_callSd (pc := 18) (c_X12_binds (by omega)) dX12_settle_18 mlX12_318 mkX12_binds rfl rfl ⟨Nat.le_of_ble_eq_true rfl, Nat.le_of_ble_eq_true rfl⟩ (Nat.le_of_ble_eq_true rfl) ⟨Nat.le_of_ble_eq_true rfl, Nat.le_of_ble_eq_true rfl⟩ ?_
        refine V_iload_n (pc := 21) dX12_settle_21 rfl ?_
        refine V_icmp_ltN (pc := 22) (tgt := 101) dX12_settle_22 (by decide) (by omega) (by omega) (fun c22 => absurd c22 (by omega)) (fun n22 => ?_)
        refine V_aload_n (pc := 25) dX12_settle_25 rfl ?_
        refine V_dup (pc := 26) dX12_settle_26 rfl ?_
        refine V_getIE (pc := 27) 12 29 dX12_settle_27 flX12_315 (by decide) h12.o (h29) ?_
        refine V_iconst (pc := 30) (v := nI 1) dX12_settle_30 (by decide) ?_
        refine V_isubN (pc := 31) dX12_settle_31 (by omega) ?_
        refine V_putI (pc := 32) 12 29 dX12_settle_32 flX12_315 (by decide) (by decide) (Or.inl rfl) rfl rfl h12.o ?_
        refine V_aload_n (pc := 35) dX12_settle_35 rfl ?_
        refine V_getR (pc := 36) 12 27 dX12_settle_36 flX12_51 (by decide) h12.o h12.R27 ?_
        refine V_aload_n (pc := 39) dX12_settle_39 rfl ?_
        refine V_getIE (pc := 40) 12 29 dX12_settle_40 flX12_315 (by decide) h12.o (up2_self) ?_
        refine V_ialoadE (pc := 43) dX12_settle_43 h12.A27 (by first | decide | omega) (by omega) (r13) ?_
        refine V_bipush (pc := 44) (v := nI 29) dX12_settle_44 (by decide) ?_
        refine V_icmp_eqN (pc := 46) (tgt := 63) dX12_settle_46 (by decide) (by omega) (by omega) (fun c46 => absurd c46 (by omega)) (fun n46 => ?_)
        refine V_aload_n (pc := 49) dX12_settle_49 rfl ?_
        refine V_getR (pc := 50) 12 27 dX12_settle_50 flX12_51 (by decide) h12.o h12.R27 ?_
        refine V_aload_n (pc := 53) dX12_settle_53 rfl ?_
        refine V_getIE (pc := 54) 12 29 dX12_settle_54 flX12_315 (by decide) h12.o (up2_self) ?_
        refine V_ialoadE (pc := 57) dX12_settle_57 h12.A27 (by first | decide | omega) (by omega) (r13) ?_
        refine V_bipush (pc := 58) (v := nI 30) dX12_settle_58 (by decide) ?_
        refine V_icmp_neN (pc := 60) (tgt := 84) dX12_settle_60 (by decide) (by omega) (by omega) (fun c60 => ?_) (fun n60 => absurd n60 (by omega))
        refine V_aload_n (pc := 84) dX12_settle_84 rfl ?_
        refine V_aload_n (pc := 85) dX12_settle_85 rfl ?_
        refine V_getR (pc := 86) 12 27 dX12_settle_86 flX12_51 (by decide) h12.o h12.R27 ?_
        refine V_aload_n (pc := 89) dX12_settle_89 rfl ?_
        refine V_getIE (pc := 90) 12 29 dX12_settle_90 flX12_315 (by decide) h12.o (up2_self) ?_
        refine V_ialoadE (pc := 93) dX12_settle_93 h12.A27 (by first | decide | omega) (by omega) (r13) ?_
        refine V_iconst (pc := 94) (v := nI 0) dX12_settle_94 (by decide) ?_
        refine V_callV (pc := 95) (ci := 12) (c_X12_emit h12 hpop (by omega)) dX12_settle_95 mlX12_321 mkX12_emit rfl rfl h12.o ⟨by decide, rfl⟩ ⟨Nat.le_of_ble_eq_true rfl, Nat.le_of_ble_eq_true rfl⟩ (Nat.le_of_ble_eq_true rfl) ⟨Nat.le_of_ble_eq_true rfl, Nat.le_of_ble_eq_true rfl⟩ (fun r S' I' L' hp => ?_)
        obtain ⟨rfl, rfl, rfl, hP⟩ := hp
        refine V_goto (pc := 98) (tgt := 0) dX12_settle_98 (by decide) ?_
        refine ih (em1 x c) _ _ ?_ (by omega) ?_ ?_ hq
        · unfold em1; rw [if_neg ha]; exact hP
        · unfold em1; rw [if_neg ha]; show c.2.2 + 1 + _ ≤ 400; omega
        · unfold em1; rw [if_neg ha]; exact fun y hy => ⟨(hb y (List.mem_cons_of_mem x hy)).1, (hb y (List.mem_cons_of_mem x hy)).2.1, fun z => by have := (hb y (List.mem_cons_of_mem x hy)).2.2 z; show y.2 < c.2.2 + 1; omega⟩
    · rw [sto, if_neg hk2] at hq
      refine V_aload_n (pc := 0) dX12_settle_0 rfl ?_
      refine V_getIE (pc := 1) 12 29 dX12_settle_1 flX12_315 (by decide) h12.o (h29) ?_
      refine V_if_leN (pc := 4) (tgt := 101) dX12_settle_4 (by decide) (by omega) (fun c4 => absurd c4 (by omega)) (fun n4 => ?_)
      refine V_aload_n (pc := 7) dX12_settle_7 rfl ?_
      refine V_getR (pc := 8) 12 27 dX12_settle_8 flX12_51 (by decide) h12.o h12.R27 ?_
      refine V_aload_n (pc := 11) dX12_settle_11 rfl ?_
      refine V_getIE (pc := 12) 12 29 dX12_settle_12 flX12_315 (by decide) h12.o (h29) ?_
      refine V_iconst (pc := 15) (v := nI 1) dX12_settle_15 (by decide) ?_
      refine V_isubN (pc := 16) dX12_settle_16 (by omega) ?_
      refine V_ialoadE (pc := 17) dX12_settle_17 h12.A27 (by first | decide | omega) (by omega) (hpx) ?_
      refine V_callSd (pc := 18) (c_X12_binds (by omega)) dX12_settle_18 mlX12_318 mkX12_binds rfl rfl ⟨Nat.le_of_ble_eq_true rfl, Nat.le_of_ble_eq_true rfl⟩ (Nat.le_of_ble_eq_true rfl) ⟨Nat.le_of_ble_eq_true rfl, Nat.le_of_ble_eq_true rfl⟩ ?_
      refine V_iload_n (pc := 21) dX12_settle_21 rfl ?_
      refine V_icmp_ltN (pc := 22) (tgt := 101) dX12_settle_22 (by decide) (by omega) (by omega) (fun c22 => ?_) (fun n22 => absurd n22 (by omega))
      exact hq I L rfl h
theorem c_X12_settle (h12 : Lay12 E S o) {k : Nat} (hk : k < 400) (h : PS o t n I0 L0 I L b (p, l, d, P, c)) (h1 : P.length ≤ 400) (h2 : c.2.2 + cntP P ≤ 400) (h3 : PlB c.2.2 P) : C E kX12_settle 1 0 0 [.ref o, .int (nI k)] S I L (fun r S' I' L' => r = none ∧ S = S' ∧ L' = L ∧ PS o t n I0 L0 I' L' b (p, l, d, (sto k P c).1, (sto k P c).2)) := by
  refine C_of (by decide) (Nat.le_of_ble_eq_true rfl) ?_
  refine lp_settle h12 hk h.1.1.2.2.1 P c I L h h1 h2 h3 (fun I' L' e hP => ?_)
  exact V_vret dX12_settle_101 rfl (by decide) (by decide) ⟨rfl, rfl, e, hP⟩
end PA
