/-! THE STATE of which both sides speak: q, laws, what can be undone, images, the tape, what is told, the latest generations -/
abbrev UT : Type := Nat × (Nat → Nat → Nat) × (Nat → Nat)
abbrev IMT : Type := Nat → Bool × (Nat → Nat) × (Nat → LawT)
abbrev XT : Type := Int32 × Int32 × Int32 × Int32 × (Nat → Int32)
abbrev AT : Type := (Nat → Nat) × (Nat → LawT) × UT × IMT × (Nat × (Nat → Nat)) × XT × (Nat × (Nat → Nat → Nat))
abbrev aq (A : AT) : Nat → Nat := A.1
abbrev alw (A : AT) : Nat → LawT := A.2.1
abbrev aun (A : AT) : UT := A.2.2.1
abbrev aim (A : AT) : IMT := A.2.2.2.1
abbrev atp (A : AT) : Nat × (Nat → Nat) := A.2.2.2.2.1
abbrev ax (A : AT) : XT := A.2.2.2.2.2.1
abbrev adr (A : AT) : Nat × (Nat → Nat → Nat) := A.2.2.2.2.2.2
def sq (A : AT) (q : Nat → Nat) : AT := (q, A.2)
def sun (A : AT) (u : UT) : AT := (A.1, A.2.1, u, A.2.2.2)
def sx (A : AT) (x : XT) : AT := (A.1, A.2.1, A.2.2.1, A.2.2.2.1, A.2.2.2.2.1, x, A.2.2.2.2.2.2)
def stp (A : AT) (t : Nat × (Nat → Nat)) : AT := (A.1, A.2.1, A.2.2.1, A.2.2.2.1, t, A.2.2.2.2.2)
def sim (A : AT) (m : IMT) : AT := (A.1, A.2.1, A.2.2.1, m, A.2.2.2.2)
def sdr (A : AT) (d : Nat × (Nat → Nat → Nat)) : AT := (A.1, A.2.1, A.2.2.1, A.2.2.2.1, A.2.2.2.2.1, A.2.2.2.2.2.1, d)
def setq (q : Nat → Nat) (i v : Nat) : Nat → Nat := fun j => if j = i then v else q j
theorem setq_s (q : Nat → Nat) (i v : Nat) : setq q i v i = v := by simp [setq]
theorem setq_n {q : Nat → Nat} {i v j : Nat} (h : j ≠ i) : setq q i v j = q j := by simp [setq, h]
/-- refused by -r; not refused; nothing can be undone -/
def rfs (A : AT) (r : Nat) : AT := sx A ((ax A).1, (ax A).2.1, (ax A).2.2.1, -(nI r), fun j => if j = r then (ax A).2.2.2.2 j + nI 1 else (ax A).2.2.2.2 j)
def ok0 (A : AT) : AT := sx A ((ax A).1, (ax A).2.1, (ax A).2.2.1, nI 0, (ax A).2.2.2.2)
def un0 (A : AT) : AT := sun A (0, (aun A).2)
/-- the law in force -/
def lwf (A : AT) : LawT := if aq A 4 = 0 then (0, (fun _ => 0), (fun _ _ => none), (fun _ _ => none)) else alw A (aq A 4 - 1)
/-- a state with the terms and boxes of another -/
def mix (q s : Nat → Nat) : Nat → Nat := fun i => if 5 ≤ i ∧ i < 80 then s i else q i
def lawOk (law : LawT) : Prop := law.1 ≤ 12 ∧ LawS law ∧ (∀ c, c < law.1 → law.2.1 c < 4) ∧ (∀ c w, c < law.1 → wok w → law.2.1 c = 3 → law.2.2.1 c w = some 1)
def wfA (A : AT) : Prop := wq (aq A) ∧ (∀ l, l < aq A 3 → lawOk (alw A l)) ∧ (aun A).1 ≤ 16 ∧ (∀ k, k < (aun A).1 → wq (mix (aq A) ((aun A).2.1 k)) ∧ (aun A).2.2 k < 4) ∧ (∀ k, k < 2 → (aim A k).1 = true → wq (aim A k).2.1 ∧ ∀ l, l < (aim A k).2.1 3 → lawOk ((aim A k).2.2 l)) ∧ (atp A).1 ≤ 400 ∧ (∀ i, i < (atp A).1 → (atp A).2 i < 256) ∧ (adr A).1 ≤ 7 ∧ (∀ w b, w < 3 → b < 6 → (adr A).2 w b ≤ 64)
theorem wfA.q {A : AT} (h : wfA A) : wq (aq A) := h.1
theorem wfA.law {A : AT} (h : wfA A) : LawS (lwf A) ∧ (∀ c, c < (lwf A).1 → (lwf A).2.1 c < 4) ∧ (∀ c w, c < (lwf A).1 → wok w → (lwf A).2.1 c = 3 → (lwf A).2.2.1 c w = some 1) := by
  unfold lwf
  split
  · exact ⟨fun c w v hc => absurd hc (Nat.not_lt_zero c), fun c hc => absurd hc (Nat.not_lt_zero c), fun c w hc => absurd hc (Nat.not_lt_zero c)⟩
  · rename_i h4
    have h5 := h.1.fo
    exact (h.2.1 (aq A 4 - 1) (by omega)).2
/-! the reference's cells of it -/
def UndM (I : IT) (o : Nat) (A : AT) : Prop := I o 8 = nI (aun A).1 ∧ ∀ k, k < (aun A).1 → (∀ i, 5 ≤ i → i < 80 → (68 ≤ i ∧ i < 74 → i < 68 + aq A 0) → I (o + 5) (75 * k + (i - 5)) = enc ((aun A).2.1 k) i) ∧ I (o + 6) k = nI ((aun A).2.2 k)
def ImgM (I : IT) (o : Nat) (A : AT) : Prop := ∀ k, k < 2 → I (o + 4) k = b2i (aim A k).1 ∧ ((aim A k).1 = true → (∀ i, i < 116 → (68 ≤ i ∧ i < 74 → i < 68 + (aim A k).2.1 0) → I (o + 3) (5516 * k + i) = enc (aim A k).2.1 i) ∧ ∀ l, l < (aim A k).2.1 3 → LawM (fun i => I (o + 3) (5516 * k + i)) (116 + 900 * l) ((aim A k).2.2 l))
def TapM (I : IT) (o : Nat) (A : AT) : Prop := I o 13 = nI (atp A).1 ∧ ∀ i, i < (atp A).1 → I (o + 9) i = nI ((atp A).2 i)
def XM (I : IT) (o : Nat) (A : AT) : Prop := I o 11 = (ax A).1 ∧ I o 18 = (ax A).2.1 ∧ I o 57 = (ax A).2.2.1 ∧ I o 1 = (ax A).2.2.2.1 ∧ ∀ r, r < 7 → I (o + 1) r = (ax A).2.2.2.2 r
def DrM (I : IT) (o : Nat) (A : AT) : Prop := I o 61 = pred1 (adr A).1 ∧ ∀ w b, w < 3 → b + 1 < (adr A).1 → I (o + 35) (6 * w + b) = nI ((adr A).2 w b)
def LwsM (I : IT) (o : Nat) (A : AT) : Prop := ∀ l, l < aq A 3 → LawM (I (o + 2)) (116 + 900 * l) (alw A l)
def wrd1 (j : Nat) : Int64 := ([2552, 654910919, 15192243, 86486190, 659870194, 5170, 24165011, 824370, 441828] : List Int64).getD j 0
def wrd2 (j : Nat) : Int64 := ([824370, 146885, 404362868, 3747098803, 398548, 15192243] : List Int64).getD j 0
def wrd3 (j : Nat) : Int64 := ([12635795, 12889267, 13094067, 67155] : List Int64).getD j 0
def wrd4 (j : Nat) : Int64 := ([546188, 636976, 23716, 525939] : List Int64).getD j 0
def wrd5 (j : Nat) : Int64 := ([52, 486, 655] : List Int64).getD j 0
def KL (L : LT) (o : Nat) : Prop := (∀ j, j < 9 → L (o + 15) j = wrd1 j) ∧ (∀ j, j < 6 → L (o + 16) j = wrd2 j) ∧ (∀ j, j < 4 → L (o + 17) j = wrd3 j) ∧ (∀ j, j < 4 → L (o + 32) j = wrd4 j) ∧ (∀ j, j < 3 → L (o + 33) j = wrd5 j)
def MR (o : Nat) (I : IT) (L : LT) (A : AT) : Prop := RowM I (o + 2) (aq A) ∧ LwsM I o A ∧ UndM I o A ∧ ImgM I o A ∧ TapM I o A ∧ XM I o A ∧ DrM I o A ∧ I o 20 = nI 0 ∧ KL L o
theorem MR.row {o : Nat} {I : IT} {L : LT} {A : AT} (h : MR o I L A) : RowM I (o + 2) (aq A) := h.1
theorem MR.und {o : Nat} {I : IT} {L : LT} {A : AT} (h : MR o I L A) : UndM I o A := h.2.2.1
theorem MR.img {o : Nat} {I : IT} {L : LT} {A : AT} (h : MR o I L A) : ImgM I o A := h.2.2.2.1
theorem MR.tap {o : Nat} {I : IT} {L : LT} {A : AT} (h : MR o I L A) : TapM I o A := h.2.2.2.2.1
theorem MR.x {o : Nat} {I : IT} {L : LT} {A : AT} (h : MR o I L A) : XM I o A := h.2.2.2.2.2.1
theorem MR.dr {o : Nat} {I : IT} {L : LT} {A : AT} (h : MR o I L A) : DrM I o A := h.2.2.2.2.2.2.1
theorem MR.od {o : Nat} {I : IT} {L : LT} {A : AT} (h : MR o I L A) : I o 20 = nI 0 := h.2.2.2.2.2.2.2.1
theorem MR.law {o : Nat} {I : IT} {L : LT} {A : AT} (h : MR o I L A) (hq : wq (aq A)) : LawIn I o (aq A) (lwf A) := by
  refine ⟨fun h0 => by simp [lwf, h0], fun h0 => ?_⟩
  have h5 := hq.fo
  have h6 := h.2.1 (aq A 4 - 1) (by omega)
  unfold lwf
  rw [if_neg h0]
  exact h6
/-- only cells that nothing speaks of have changed -/
def DeadM (o : Nat) (I' I : IT) (L' L : LT) : Prop := (∀ a, a ∈ [o + 1, o + 2, o + 3, o + 4, o + 5, o + 6, o + 9, o + 35] → I' a = I a) ∧ (∀ i, i ∈ [1, 8, 11, 13, 18, 20, 57, 61] → I' o i = I o i) ∧ (∀ a, a ∈ [o + 15, o + 16, o + 17, o + 32, o + 33] → L' a = L a)
theorem MR.dead {o : Nat} {I I' : IT} {L L' : LT} {A : AT} (h : MR o I L A) (hd : DeadM o I' I L' L) : MR o I' L' A := by
  obtain ⟨hI, hf, hl⟩ := hd
  have r1 := hI (o + 1) (by simp)
  have r2 := hI (o + 2) (by simp)
  have r3 := hI (o + 3) (by simp)
  have r4 := hI (o + 4) (by simp)
  have r5 := hI (o + 5) (by simp)
  have r6 := hI (o + 6) (by simp)
  have r9 := hI (o + 9) (by simp)
  have r35 := hI (o + 35) (by simp)
  have f1 := hf 1 (by simp)
  have f8 := hf 8 (by simp)
  have f11 := hf 11 (by simp)
  have f13 := hf 13 (by simp)
  have f18 := hf 18 (by simp)
  have f20 := hf 20 (by simp)
  have f57 := hf 57 (by simp)
  have f61 := hf 61 (by simp)
  have l1 := hl (o + 15) (by simp)
  have l2 := hl (o + 16) (by simp)
  have l3 := hl (o + 17) (by simp)
  have l4 := hl (o + 32) (by simp)
  have l5 := hl (o + 33) (by simp)
  obtain ⟨h1, h2, h3, h4, h5, h6, h7, h8, h9⟩ := h
  refine ⟨h1.cg r2, ?_, ?_, ?_, ?_, ?_, ?_, f20.trans h8, ?_⟩
  · unfold LwsM at h2 ⊢; rw [r2]; exact h2
  · unfold UndM at h3 ⊢; rw [r5, r6, f8]; exact h3
  · unfold ImgM at h4 ⊢; rw [r3, r4]; exact h4
  · unfold TapM at h5 ⊢; rw [r9, f13]; exact h5
  · unfold XM at h6 ⊢; rw [r1, f1, f11, f18, f57]; exact h6
  · unfold DrM at h7 ⊢; rw [r35, f61]; exact h7
  · unfold KL at h9 ⊢; rw [l1, l2, l3, l4, l5]; exact h9
theorem MR.thrown {o : Nat} {I : IT} {L : LT} {A : AT} {v : Int32} (h : MR o I L A) : MR o (up2 I o 0 v) L A := h.dead ⟨fun a ha => up2_row (by simp at ha; omega), fun i hi => up2_nej (by simp at hi; omega), fun _ _ => rfl⟩
theorem MR.ts {o : Nat} {I I' : IT} {L L' : LT} {A : AT} (h : MR o I L A) (hI : TsI o I' I) (hL : TsL o L' L) : MR o I' L' A := h.dead ⟨fun a ha => hI.1 a (by simp at ha; omega), fun i hi => hI.2 i (by simp at hi; omega) (by simp at hi; omega), fun a ha => hL.1 a (by simp at ha; omega) (by simp at ha; omega) (by simp at ha; omega)⟩
theorem MR.hrf {o r : Nat} {I : IT} {L : LT} {A : AT} (h : MR o I L A) : MR o (refu I o r) L (rfs A r) := by
  obtain ⟨h1, h2, h3, h4, h5, h6, h7, h8, h9⟩ := h
  have e : ∀ a, a ≠ o → a ≠ o + 1 → refu I o r a = I a := fun a q1 q2 => by unfold refu; rw [up2_row q2, up2_row q1]
  have f : ∀ i, i ≠ 1 → refu I o r o i = I o i := fun i q => by unfold refu; rw [up2_ne (by omega), up2_nej q]
  refine ⟨h1.cg (e _ (by omega) (by omega)), ?_, ?_, ?_, ?_, ?_, ?_, (f 20 (by omega)).trans h8, h9⟩
  · unfold LwsM at h2 ⊢; rw [e (o + 2) (by omega) (by omega)]; exact h2
  · unfold UndM at h3 ⊢; rw [e (o + 5) (by omega) (by omega), e (o + 6) (by omega) (by omega), f 8 (by omega)]; exact h3
  · unfold ImgM at h4 ⊢; rw [e (o + 3) (by omega) (by omega), e (o + 4) (by omega) (by omega)]; exact h4
  · unfold TapM at h5 ⊢; rw [e (o + 9) (by omega) (by omega), f 13 (by omega)]; exact h5
  · obtain ⟨x1, x2, x3, x4, x5⟩ := h6
    refine ⟨(f 11 (by omega)).trans x1, (f 18 (by omega)).trans x2, (f 57 (by omega)).trans x3, ?_, fun j hj => ?_⟩
    · unfold refu; rw [up2_ne (by omega), up2_self]; rfl
    · show refu I o r (o + 1) j = if j = r then _ else _
      unfold refu
      by_cases hr : j = r
      · subst hr; rw [up2_self, if_pos rfl, x5 j hj]
      · rw [up2_nej hr, up2_ne (by omega), if_neg hr]; exact x5 j hj
  · unfold DrM at h7 ⊢; rw [e (o + 35) (by omega) (by omega), f 61 (by omega)]; exact h7
theorem MR.hok {o : Nat} {I : IT} {L : LT} {A : AT} (h : MR o I L A) : MR o (up2 I o 1 (nI 0)) L (ok0 A) := by
  obtain ⟨h1, h2, h3, h4, h5, h6, h7, h8, h9⟩ := h
  have e : ∀ a, a ≠ o → up2 I o 1 (nI 0) a = I a := fun a q1 => up2_row q1
  have f : ∀ i, i ≠ 1 → up2 I o 1 (nI 0) o i = I o i := fun i q => up2_nej q
  refine ⟨h1.cg (e _ (by omega)), ?_, ?_, ?_, ?_, ?_, ?_, (f 20 (by omega)).trans h8, h9⟩
  · unfold LwsM at h2 ⊢; rw [e (o + 2) (by omega)]; exact h2
  · unfold UndM at h3 ⊢; rw [e (o + 5) (by omega), e (o + 6) (by omega), f 8 (by omega)]; exact h3
  · unfold ImgM at h4 ⊢; rw [e (o + 3) (by omega), e (o + 4) (by omega)]; exact h4
  · unfold TapM at h5 ⊢; rw [e (o + 9) (by omega), f 13 (by omega)]; exact h5
  · obtain ⟨x1, x2, x3, x4, x5⟩ := h6
    exact ⟨(f 11 (by omega)).trans x1, (f 18 (by omega)).trans x2, (f 57 (by omega)).trans x3, up2_self, fun j hj => by rw [e (o + 1) (by omega)]; exact x5 j hj⟩
  · unfold DrM at h7 ⊢; rw [e (o + 35) (by omega), f 61 (by omega)]; exact h7
theorem MR.hun {o : Nat} {I : IT} {L : LT} {A : AT} (h : MR o I L A) : MR o (up2 I o 8 (nI 0)) L (un0 A) := by
  obtain ⟨h1, h2, h3, h4, h5, h6, h7, h8, h9⟩ := h
  have e : ∀ a, a ≠ o → up2 I o 8 (nI 0) a = I a := fun a q1 => up2_row q1
  have f : ∀ i, i ≠ 8 → up2 I o 8 (nI 0) o i = I o i := fun i q => up2_nej q
  refine ⟨h1.cg (e _ (by omega)), ?_, ?_, ?_, ?_, ?_, ?_, (f 20 (by omega)).trans h8, h9⟩
  · unfold LwsM at h2 ⊢; rw [e (o + 2) (by omega)]; exact h2
  · exact ⟨up2_self, fun k hk => absurd hk (Nat.not_lt_zero k)⟩
  · unfold ImgM at h4 ⊢; rw [e (o + 3) (by omega), e (o + 4) (by omega)]; exact h4
  · unfold TapM at h5 ⊢; rw [e (o + 9) (by omega), f 13 (by omega)]; exact h5
  · unfold XM at h6 ⊢; rw [e (o + 1) (by omega), f 1 (by omega), f 11 (by omega), f 18 (by omega), f 57 (by omega)]; exact h6
  · unfold DrM at h7 ⊢; rw [e (o + 35) (by omega), f 61 (by omega)]; exact h7
/-- the row anew, where its texts stay; if the boxes are others, nothing can be undone -/
theorem LawM.cg {f g : Nat → Int32} {lb : Nat} {law : LawT} (h : LawM f lb law) (e : ∀ i, lb ≤ i → i < lb + 900 → g i = f i) : LawM g lb law := by
  obtain ⟨a1, a2, nc, op, arg, a3, a4, a5⟩ := h
  refine ⟨a1, by rw [e _ (by omega) (by omega)]; exact a2, nc, op, arg, a3, fun k hk => ?_, fun c hc => ?_⟩
  · rw [e _ (by omega) (by omega), e _ (by omega) (by omega)]; exact a4 k hk
  · obtain ⟨b1, b2, s1, e1, s2, e2, c1, c2, c3, c4, c5, c6, c7, c8, c9⟩ := a5 c hc
    refine ⟨b1, by rw [e _ (by omega) (by omega)]; exact b2, s1, e1, s2, e2, c1, c2, c3, c4, ?_, ?_, ?_, ?_, c9⟩
    · rw [e _ (by omega) (by omega)]; exact c5
    · rw [e _ (by omega) (by omega)]; exact c6
    · rw [e _ (by omega) (by omega)]; exact c7
    · rw [e _ (by omega) (by omega)]; exact c8
theorem MR.srow {o : Nat} {I I' : IT} {L : LT} {A : AT} {q' : Nat → Nat} (h : MR o I L A) (hI : ∀ a, a ≠ o + 2 → I' a = I a) (ht : ∀ i, 116 ≤ i → I' (o + 2) i = I (o + 2) i) (hr : RowM I' (o + 2) q') (h3 : q' 3 = aq A 3) (h0 : q' 0 = aq A 0 ∨ (aun A).1 = 0) : MR o I' L (sq A q') := by
  obtain ⟨h1, h2, h3', h4, h5, h6, h7, h8, h9⟩ := h
  have e := hI
  refine ⟨hr, ?_, ?_, ?_, ?_, ?_, ?_, (congrFun (e o (by omega)) 20).trans h8, h9⟩
  · intro l hl
    have hl2 : l < aq A 3 := by rw [← h3]; exact hl
    exact (h2 l hl2).cg (fun i h1 _ => ht i (by omega))
  · refine ⟨(congrFun (e o (by omega)) 8).trans h3'.1, fun k hk => ?_⟩
    have h5' := h3'.2 k hk
    rcases h0 with h0 | h0
    · refine ⟨fun i a1 a2 a3 => ?_, by rw [e (o + 6) (by omega)]; exact h5'.2⟩
      rw [e (o + 5) (by omega)]
      exact h5'.1 i a1 a2 (fun z => by have := a3 z; rw [show aq (sq A q') 0 = aq A 0 from h0] at this; exact this)
    · exact absurd hk (by rw [show (aun (sq A q')).1 = 0 from h0]; omega)
  · unfold ImgM at h4 ⊢; rw [e (o + 3) (by omega), e (o + 4) (by omega)]; exact h4
  · unfold TapM at h5 ⊢; rw [e (o + 9) (by omega), e o (by omega)]; exact h5
  · unfold XM at h6 ⊢; rw [e (o + 1) (by omega), e o (by omega)]; exact h6
  · unfold DrM at h7 ⊢; rw [e (o + 35) (by omega), e o (by omega)]; exact h7
def FrM (o : Nat) (I' I : IT) (L' L : LT) : Prop := ∀ a, (a < o ∨ o + 36 ≤ a) → I' a = I a ∧ L' a = L a
