/-! THE REFERENCE reads sums -/
theorem jx_jn {c : Nat} : jx c = 0 ↔ (jn 0 c = 0 ∧ jn 1 c = 0) := by
  by_cases h1 : c = 143
  · subst h1; decide
  by_cases h2 : c = 145
  · subst h2; decide
  by_cases h3 : c = 142
  · subst h3; decide
  by_cases h4 : c = 147
  · subst h4; decide
  by_cases h5 : c = 137
  · subst h5; decide
  simp [jx, jn, h1, h2, h3, h4, h5]
theorem jn0_jx {c : Nat} (h : jn 0 c ≠ 0) : jx c = jn 0 c ∧ bnds (jn 0 c) = 5 ∧ 20 ≤ jn 0 c ∧ jn 0 c < 22 := by
  unfold jn at *
  rw [if_pos rfl] at *
  by_cases h1 : c = 143
  · subst h1; decide
  by_cases h2 : c = 145
  · subst h2; decide
  exact absurd (by rw [if_neg h1, if_neg h2]) h
theorem jn1_jx {c : Nat} (h : jn 1 c ≠ 0) : jx c = jn 1 c ∧ bnds (jn 1 c) = 6 ∧ 22 ≤ jn 1 c ∧ jn 1 c < 25 := by
  unfold jn at *
  rw [if_neg (by omega)] at *
  by_cases h1 : c = 142
  · subst h1; decide
  by_cases h2 : c = 147
  · subst h2; decide
  by_cases h3 : c = 137
  · subst h3; decide
  exact absurd (by rw [if_neg h1, if_neg h2, if_neg h3]) h
def HF (E : EnT) (Q : QT) (S : ST) (o : Nat) (te : Bool) (t : Nat → Nat) (n : Nat) (I0 : IT) (L0 : LT) (q : Nat) : Prop := ∀ I' L' s tn, PS o t n I0 L0 I' L' (some q) s → BD 400 s.2.2.2.1 s.2.2.2.2 → tn ≤ 4 → VX E Q S o te I' L' tn
def KS (E : EnT) (Q : QT) (S : ST) (o : Nat) (te : Bool) (t : Nat → Nat) (n : Nat) (I0 : IT) (L0 : LT) (od : Bool) (tn K s l0 d : Nat) (P : List (Nat × Nat)) (c0 : CT) (p' l' : Nat) (G : SF) (X : Prop) : Prop := X → ∀ I' L' c' U m, INV o t n I0 L0 I' L' (p', l', d, U ++ P, c') → s ≤ c'.2.2 → AG s c' c0 → QB K s U → Pd (lfA od) c' s U m G → m + l0 ≤ l' → VX E Q S o te I' L' tn
def XS (nt c : Nat) : Prop := if nt = 0 then jx c = 0 else if nt = 1 then jn 1 c = 0 else True
def tn0k (t : Nat → Nat) (n p tn : Nat) : Prop := tn = 1 ∨ (tn = 0 ∧ tc t n p ≠ 3 ∧ tc t n p ≠ 140)
/-- nt 0, 1, 2 -/
def ClS (E : EnT) (Q : QT) (S : ST) (o : Nat) (te : Bool) (t : Nat → Nat) (n : Nat) (I0 : IT) (L0 : LT) (od : Bool) (nt f : Nat) : Prop := ∀ d p l F P c I L tn, tn0k t n p tn → rkn nt + 8 * (n - p) ≤ f → INV o t n I0 L0 I L (p, l, d, P, c) → TL (5 + nt) P → (∀ r, r = ps t n od f nt d p l F → (r.2.2 = none → HF E Q S o te t n I0 L0 r.1) → (∀ G, r.2.2 = some G → KS E Q S o te t n I0 L0 od 3 (5 + nt) c.2.2 l d P c r.1 r.2.1 G (XS nt (tc t n r.1))) → VX E Q S o te I L tn)
/-- the rest: of nt 0 or 1, behind F -/
def ClT (E : EnT) (Q : QT) (S : ST) (o : Nat) (te : Bool) (t : Nat → Nat) (n : Nat) (I0 : IT) (L0 : LT) (od : Bool) (nt f : Nat) : Prop := ∀ d p l F P c0 c I L s l0 U m, 1 + 8 * (n - p) ≤ f → INV o t n I0 L0 I L (p, l, d, U ++ P, c) → TL (5 + nt) P → s ≤ c.2.2 → AG s c c0 → QB (5 + nt) s U → Pd (lfA od) c s U m F → m + l0 ≤ l → (nt = 0 → jn 1 (tc t n p) = 0) → (∀ r, r = ps t n od f (6 + nt) d p l F → (r.2.2 = none → HF E Q S o te t n I0 L0 r.1) → (∀ G, r.2.2 = some G → KS E Q S o te t n I0 L0 od 3 (5 + nt) s l0 d P c0 r.1 r.2.1 G (XS nt (tc t n r.1))) → VX E Q S o te I L 3)
section PG
variable {E : EnT} {S : ST} {I0 : IT} {L0 : LT} {o n : Nat} {t : Nat → Nat} {Q : QT} {te od : Bool}
/-- nt 0 and 1 out of what they begin with and their rest -/
theorem clS_of (nt f : Nat) (hnt : nt < 2) (h1 : ClS E Q S o te t n I0 L0 od (nt + 1) f) (h2 : ClT E Q S o te t n I0 L0 od nt f) : ClS E Q S o te t n I0 L0 od nt (f + 1) := by
  intro d p l F P c I L tn htn hf hI hT r hr hF hS
  have hpn := hI.1.n400.2
  have hps : ps t n od (f + 1) nt d p l F = bd (ps t n od f (nt + 1) d p l F) fun p1 l1 G => ps t n od f (6 + nt) d p1 l1 G := by
    rcases (show nt = 0 ∨ nt = 1 by omega) with e | e
    · subst e; exact ps_0
    · subst e; exact ps_1
  rw [hps] at hr
  have hle := ps_le (t := t) (n := n) (od := od) f (nt + 1) d p l F hpn
  rw [if_pos (by omega)] at hle
  refine h1 d p l F P c I L tn htn ?_ hI ?_ _ rfl ?_ ?_
  · rcases (show nt = 0 ∨ nt = 1 by omega) with e | e <;> subst e <;> simp [rkn] at hf ⊢ <;> omega
  · cases P with
    | nil => trivial
    | cons x P => have h3 : bnds x.1 < 5 + nt := hT; show bnds x.1 < 5 + (nt + 1); omega
  · intro hn
    rw [bd_n hn] at hr
    subst hr
    exact hF hn
  · intro G hG
    rw [bd_s hG] at hr
    intro hX I' L' c' U m hI' hs hA hQ hP hm
    have hlt := hle.2.2.2.2 G hG
    refine h2 d _ _ G P c c' I' L' c.2.2 l U m ?_ hI' hT hs hA (hQ.w (by omega) (Nat.le_refl _)) hP hm ?_ r hr hF hS
    · have : rkn nt ≤ 3 := by rcases (show nt = 0 ∨ nt = 1 by omega) with e | e <;> subst e <;> decide
      have := hle.2.1
      have : 2 ≤ rkn nt := by rcases (show nt = 0 ∨ nt = 1 by omega) with e | e <;> subst e <;> decide
      omega
    · intro h0; subst h0; exact hX
theorem clT_of (nt f : Nat) (hnt : nt < 2) (h12 : Lay12 E S o) (h1 : ClS E Q S o te t n I0 L0 od (nt + 1) f) (h2 : ClT E Q S o te t n I0 L0 od nt f) : ClT E Q S o te t n I0 L0 od nt (f + 1) := by
  intro d p l F P c0 c I L s l0 U m hf hI hT hs hA hQ hP hm hj r hr hF hS
  have hpn := hI.1.n400
  have hpn2 : p ≤ n := hpn.2
  have hps : ps t n od (f + 1) (6 + nt) d p l F = (if jn nt (tc t n p) = 0 then (p, l, some F) else bd (ps t n od f (nt + 1) d (nxt t n p) l F) fun p1 l1 G => ps t n od f (6 + nt) d p1 l1 (binS (jn nt (tc t n p)) F G)) := by
    rcases (show nt = 0 ∨ nt = 1 by omega) with e | e
    · subst e; exact ps_6
    · subst e; exact ps_7
  rw [hps] at hr
  by_cases hjn : jn nt (tc t n p) = 0
  · rw [if_pos hjn] at hr
    subst hr
    refine hS F rfl ?_ I L c U m hI hs hA hQ hP hm
    rcases (show nt = 0 ∨ nt = 1 by omega) with e | e
    · subst e; exact jx_jn.mpr ⟨hjn, hj rfl⟩
    · subst e; exact hjn
  · rw [if_neg hjn] at hr
    have hne := jn_n92 hjn
    have hx := nxt_lt (t := t) hpn2 hne
    have hle := ps_le (t := t) (n := n) (od := od) f (nt + 1) d (nxt t n p) l F hx.2
    rw [if_pos (by omega)] at hle
    obtain ⟨e1, e2, e3, e4⟩ : jx (tc t n p) = jn nt (tc t n p) ∧ bnds (jn nt (tc t n p)) = 5 + nt ∧ 20 ≤ jn nt (tc t n p) ∧ jn nt (tc t n p) < 25 := by
      rcases (show nt = 0 ∨ nt = 1 by omega) with e | e
      · subst e; have := jn0_jx hjn; exact ⟨this.1, this.2.1, this.2.2.1, by omega⟩
      · subst e; have := jn1_jx hjn; exact ⟨this.1, this.2.1, by omega, by omega⟩
    obtain ⟨hPS, hB, hl50, hd8, hCG⟩ := hI
    have hB : BD p (U ++ P) c := hB
    have hst := sto_app (k := 5 + nt) (c := c) hT hQ
    have hBs := BD.st (k := 5 + nt) hB
    have hCs := CG.st (k := 5 + nt) (by omega) (by omega) hCG hB
    rw [hst] at hBs hCs
    have hlow := emQ_low (m := s) hQ (Nat.le_refl _) hs
    have hRn : Rn (lfA od) (emQ U c).1 (emQ U c).2.1 s (emQ U c).2.2 m F := hP
    generalize hx0 : jn nt (tc t n p) = x at *
    refine xs3 h12 hPS (c_X12_behindSum_op h12 hPS (by rw [e1]; omega) (by have := hB.1; omega) (hB.up (by omega))) ?_
    intro r0 S' I' L' hp
    obtain ⟨h3, h4, h5⟩ := hp
    rw [e1, e2, hst] at h5
    refine ⟨1, h3, h4, ?_⟩
    refine h1 d (nxt t n p) l F ((x, 0) :: P) (emQ U c) I' L' 1 (Or.inl rfl) ?_ ⟨h5, BD.push hBs.1 (by omega) (by omega) (by omega), hl50, hd8, hCs⟩ ?_ _ rfl ?_ ?_
    · have : rkn (nt + 1) ≤ 2 := by rcases (show nt = 0 ∨ nt = 1 by omega) with e | e <;> subst e <;> decide
      omega
    · show bnds x < 5 + (nt + 1); omega
    · intro hn
      rw [bd_n hn] at hr
      subst hr
      exact hF hn
    · intro G hG
      rw [bd_s hG] at hr
      intro hX I2 L2 c2 U2 m2 hI2 hs2 hA2 hQ2 hP2 hm2
      have hlt := hle.2.2.2.2 G hG
      have hA3 : AG s c2 (emQ U c) := hA2.w (Nat.le_of_lt hRn.1)
      refine h2 d _ _ (binS x F G) P c0 c2 I2 L2 s l0 (U2 ++ [(x, 0)]) (m + m2) ?_ (by rw [List.append_assoc]; exact hI2) hT ?_ (hA3.tr (AG.tr (fun k hk => hlow.2 k hk) hA)) ?_ ?_ ?_ ?_ r hr hF hS
      · have := hle.2.1; omega
      · have := hRn.1; omega
      · exact (hQ2.w (by omega) (Nat.le_of_lt hRn.1)).app (QB.one (by omega) (by omega) (by omega) (fun z => by omega))
      · exact Pd.bin (hRn.cg fun k h6 h7 => hA2 k h7) hP2 hQ2 hs2 (by omega) (by omega)
      · omega
      · intro h0; subst h0; exact hX
theorem setq_setq {q : Nat → Nat} {i v w : Nat} : setq (setq q i v) i w = setq q i w := by
  funext j
  unfold setq
  split <;> rfl
theorem lfx_f (k : Nat) : lfx false k = if 16 ≤ k ∧ k ≤ 24 then k - 15 else 0 := by
  unfold lfx
  rw [if_neg (by decide)]
  show (if k = 16 + 8 then 9 else if k = 16 + 7 then 8 else if k = 16 + 6 then 7 else if k = 16 + 5 then 6 else if k = 16 + 4 then 5 else if k = 16 + 3 then 4 else if k = 16 + 2 then 3 else if k = 16 + 1 then 2 else if k = 16 + 0 then 1 else 0) = _
  by_cases h : 16 ≤ k ∧ k ≤ 24
  · rw [if_pos h]
    obtain ⟨j, hj, rfl⟩ : ∃ j, j < 9 ∧ k = 16 + j := ⟨k - 16, by omega, by omega⟩
    have h2 : ∀ j : Fin 9, (if 16 + j.1 = 16 + 8 then 9 else if 16 + j.1 = 16 + 7 then 8 else if 16 + j.1 = 16 + 6 then 7 else if 16 + j.1 = 16 + 5 then 6 else if 16 + j.1 = 16 + 4 then 5 else if 16 + j.1 = 16 + 3 then 4 else if 16 + j.1 = 16 + 2 then 3 else if 16 + j.1 = 16 + 1 then 2 else if 16 + j.1 = 16 + 0 then 1 else 0) = 16 + j.1 - 15 := by decide
    exact h2 ⟨j, hj⟩
  · rw [if_neg h, if_neg (by omega), if_neg (by omega), if_neg (by omega), if_neg (by omega), if_neg (by omega), if_neg (by omega), if_neg (by omega), if_neg (by omega), if_neg (by omega)]
theorem lfx_t (k : Nat) : lfx true k = if k = 18 then 6 else if k = 28 then 5 else if k = 27 then 4 else if k = 26 then 3 else if k = 25 then 2 else if k = 23 then 1 else 0 := rfl
theorem xsP (h12 : Lay12 E S o) {I : IT} {L : LT} {p l d : Nat} {P : List (Nat × Nat)} {c : CT} {tn : Nat} (htn : tn0k t n p tn) (h : PS o t n I0 L0 I L none (p, l, d, P, c)) {post : Option Value → ST → IT → LT → Prop} (hc : C E kX12_readPart 4 0 0 [.ref o] S I L post) (hk : ∀ r S' I' L', post r S' I' L' → ∃ tn, r = some (.int (nI tn)) ∧ S = S' ∧ VX E Q S o te I' L' tn) : VX E Q S o te I L tn := by
  rcases htn with e | ⟨e, h3, h4⟩
  · subst e; exact xs1 h12 h hc hk
  · subst e
    exact xs0 h12 h (c_X12_readPlain_pt h12 h h3 h4 (fun r S' I' L' hp => by obtain ⟨tn, h5, _⟩ := hk r S' I' L' hp; exact ⟨_, h5⟩) hc) hk
theorem clP_of (f : Nat) (h12 : Lay12 E S o) (hod : I0 o 20 = b2i od) (hK : KL L0 o) (h0 : ClS E Q S o te t n I0 L0 od 0 f) : ClS E Q S o te t n I0 L0 od 2 (f + 1) := by
  intro d p l F P c I L tn htn hf hI hT r hr hF hS
  have hf : 1 + 8 * (n - p) ≤ f + 1 := hf
  have hpn := hI.1.n400
  have hpn2 : p ≤ n := hpn.2
  rw [ps_2] at hr
  obtain ⟨hPS, hB, hl50, hd8, hCG⟩ := hI
  have hB : BD p P c := hB
  have hd8 : d ≤ 8 := hd8
  have hl50 : l ≤ 50 := hl50
  have hB1 := hB.1
  have hB2 := hB.2.1
  have hnc : tc t n p ≠ 92 → c.2.2 < 400 := fun z => by have := nxt_lt (t := t) hpn2 z; omega
  by_cases h191 : tc t n p = 191
  · rw [if_pos h191] at hr
    have hx := nxt_lt (t := t) hpn2 (by omega)
    refine xsP h12 htn hPS (c_X12_readPart_sq h12 hPS h191 hd8 (by omega)) ?_
    intro r0 S' I' L' hp
    obtain ⟨h3, h4, h5, h6⟩ := hp
    refine ⟨1, h3, h4, ?_⟩
    by_cases hd : 8 ≤ d
    · rw [if_pos hd] at hr
      subst hr
      exact hF rfl _ _ _ _ (h6 (by omega)) (hB.up (by omega)) (by omega)
    · rw [if_neg hd] at hr
      have hle := ps_le (t := t) (n := n) (od := od) f 0 (d + 1) (nxt t n p) l F hx.2
      refine h0 (d + 1) (nxt t n p) l F ((32, 0) :: P) c I' L' 1 (Or.inl rfl) (by show 3 + 8 * (n - nxt t n p) ≤ f; omega) ⟨h5 (by omega), BD.push hB hx.1 (by omega) (by omega), hl50, by show d + 1 ≤ 8; omega, hCG⟩ (by show (0 : Nat) < 5; omega) _ rfl ?_ ?_
      · intro hn
        rw [bd_n hn] at hr
        subst hr
        exact hF hn
      · intro G hG
        rw [bd_s hG] at hr
        generalize ps t n od f 0 (d + 1) (nxt t n p) l F = r1 at hr hle hG
        intro hX I2 L2 c2 U m hI2 hs2 hA2 hQ2 hP2 hm2
        obtain ⟨hPS2, hB3, hl2, hd2, hCG2⟩ := hI2
        have hB3 : BD r1.1 (U ++ (32, 0) :: P) c2 := hB3
        have h400 := hPS2.n400
        have h401 : r1.1 ≤ n := h400.2
        have hst := sto_app (k := 5) (P := (32, 0) :: P) (c := c2) (by show (0 : Nat) < 5; omega) hQ2
        have hin : inr (U ++ (32, 0) :: P) = 33 := by rw [inr_app hQ2]; rfl
        have hBs := BD.st (k := 5) hB3
        have hCs := CG.st (k := 5) (by omega) (by omega) hCG2 hB3
        rw [hst] at hBs hCs
        have hlow := emQ_low (m := c.2.2) hQ2 (Nat.le_refl _) hs2
        refine xs3 h12 hPS2 (c_X12_behindSum_sq h12 hPS2 hX (hB3.up (by omega)) hin ⟨by omega, by omega⟩ hst) ?_
        intro r2 S3 I3 L3 hp3
        obtain ⟨k3, k4, k5, k6⟩ := hp3
        refine ⟨3, k3, k4, ?_⟩
        by_cases h193 : tc t n r1.1 = 193
        · rw [if_pos h193] at hr
          subst hr
          have hy := nxt_lt (t := t) h401 (by omega)
          exact hS G rfl trivial I3 L3 (emQ U c2) [] m ⟨k5 h193, hBs.1.tail.up (Nat.le_of_lt hy.1), hl2, hd8, hCs⟩ (by have := hlow.1; omega) (AG.tr (fun k hk => hlow.2 k hk) hA2) (fun x hx => by cases hx) hP2 hm2
        · rw [if_neg h193] at hr
          subst hr
          exact hF rfl _ _ _ _ (k6 h193) (hB3.up (by omega)) (by omega)
  · rw [if_neg h191] at hr
    by_cases hl : 50 ≤ l
    · rw [if_pos hl] at hr
      subst hr
      refine xsP h12 htn hPS (c_X12_readPart_lf (od := od) h12 hPS hod hK h191 hl50 hnc) ?_
      intro r0 S' I' L' hp
      obtain ⟨h3, h4, h5, _⟩ := hp
      exact ⟨3, h3, h4, hF rfl _ _ _ _ (h5 (by omega)) (hB.up (by omega)) (by omega)⟩
    · rw [if_neg hl] at hr
      refine xsP h12 htn hPS (c_X12_readPart_lf (od := od) h12 hPS hod hK h191 hl50 hnc) ?_
      intro r0 S' I' L' hp
      obtain ⟨h3, h4, h5, h6, h7, h8⟩ := hp
      refine ⟨3, h3, h4, ?_⟩
      -- a leaf of one token
      have one : ∀ (x y : Nat) (G : SF), tc t n p ≠ 92 → (x < 20 → x < 10) → x < 20 → y ≤ 1000 → PS o t n I0 L0 I' L' none (nxt t n p, l + 1, d, P, (setq c.1 c.2.2 x, setq c.2.1 c.2.2 y, c.2.2 + 1)) → (∀ w, G w = some (lfA od w x y)) → r = (nxt t n p, l + 1, some G) → VX E Q S o te I' L' 3 := by
        intro x y G h92 hx10 hx20 hy hPS2 hG hr2
        have hx := nxt_lt (t := t) hpn2 h92
        have k2 := hS G (by rw [hr2])
        rw [hr2] at k2
        refine k2 trivial I' L' _ [] 1 ⟨hPS2, hB.leaf hx.1, by show l + 1 ≤ 50; omega, hd8, hCG.leaf ⟨by omega, hx10⟩ hy⟩ (Nat.le_succ _) AG.leaf (fun x hx => by cases hx) ?_ (by show 1 + l ≤ l + 1; omega)
        show Rn (lfA od) (setq c.1 c.2.2 x) (setq c.2.1 c.2.2 y) c.2.2 (c.2.2 + 1) 1 G
        exact Rn_leaf (by rw [setq_s]; exact hx20) (fun w => by rw [setq_s, setq_s]; exact hG w)
      have bad : ¬ ((lfx od (tc t n p) ≠ 0 ∨ (tc t n p = 91 ∧ nm t n p ≤ 1000)) ∧ l < 50) → r = (p, l, none) → VX E Q S o te I' L' 3 := by
        intro z hr2
        have k2 := hF (by rw [hr2])
        rw [hr2] at k2
        exact k2 _ _ _ _ (h5 z) (hB.up (by omega)) (by omega)
      have h0x : lfx od 91 = 0 := by unfold lfx; split <;> rfl
      by_cases h91 : tc t n p = 91
      · rw [if_pos h91] at hr
        by_cases hnm : nm t n p ≤ 1000
        · rw [if_pos hnm] at hr
          have := h6 ⟨Or.inr ⟨h91, hnm⟩, by omega⟩ (fun z => by have := z.2; rw [h91, h0x] at this; omega)
          rw [h91, h0x, if_pos ⟨rfl, hnm⟩] at this
          exact one 0 (nm t n p) _ (by omega) (by omega) (by omega) hnm this (fun w => by unfold lfA lfO lfM; split <;> rfl) hr
        · rw [if_neg hnm] at hr
          exact bad (fun z => by rw [h91, h0x] at z; rcases z.1 with z1 | z1; exact z1 rfl; exact hnm z1.2) hr
      · rw [if_neg h91] at hr
        have h91n : ¬ (tc t n p = 91 ∧ nm t n p ≤ 1000) := fun z => h91 z.1
        cases od with
        | false =>
          rw [if_neg (by decide)] at hr
          by_cases hw : 16 ≤ tc t n p ∧ tc t n p ≤ 24
          · rw [if_pos hw] at hr
            have e : lfx false (tc t n p) = tc t n p - 15 := by rw [lfx_f, if_pos hw]
            have := h6 ⟨Or.inl (by rw [e]; omega), by omega⟩ (fun z => by cases z.1)
            rw [e, if_neg h91n] at this
            refine one _ 0 _ (by omega) (by omega) (by omega) (by omega) this (fun w => ?_) hr
            show some (w (tc t n p - 16)) = some (lfM w (tc t n p - 15) 0)
            unfold lfM
            rw [if_neg (by omega), show tc t n p - 15 - 1 = tc t n p - 16 from by omega]
          · rw [if_neg hw] at hr
            refine bad (fun z => ?_) hr
            rcases z.1 with z1 | z1
            · rw [lfx_f, if_neg hw] at z1; exact z1 rfl
            · exact h91n z1
        | true =>
          rw [if_pos rfl] at hr
          by_cases ho : tc t n p = 28 ∨ tc t n p = 18
          · rw [if_pos ho] at hr
            have hx := nxt_lt (t := t) hpn2 (by omega)
            have e : lfx true (tc t n p) = if tc t n p = 28 then 5 else 6 := by
              rcases ho with h | h <;> rw [h] <;> rfl
            have h56 : true = true ∧ 5 ≤ lfx true (tc t n p) := ⟨rfl, by rw [e]; split <;> omega⟩
            by_cases hnum : tc t n (nxt t n p) = 91 ∧ nm t n (nxt t n p) < 6
            · rw [if_pos hnum] at hr
              have hy := nxt_lt (t := t) hx.2 (by omega)
              have k1 := h7 (by omega) h56 ⟨hnum.1, by omega⟩
              rw [setq_setq] at k1
              have k2 := hS _ (by rw [hr])
              rw [hr] at k2
              refine k2 trivial I' L' _ [] 1 ⟨k1, hB.leaf (by show p < nxt t n (nxt t n p); omega), by show l + 1 ≤ 50; omega, hd8, hCG.leaf ⟨by rw [e]; split <;> omega, fun _ => by rw [e]; split <;> omega⟩ (by omega)⟩ (Nat.le_succ _) AG.leaf (fun x hx => by cases hx) ?_ (by show 1 + l ≤ l + 1; omega)
              refine Rn_leaf (op := setq c.1 c.2.2 (lfx true (tc t n p))) (arg := setq c.2.1 c.2.2 (nm t n (nxt t n p))) (by rw [setq_s, e]; split <;> omega) (fun w => ?_)
              rw [setq_s, setq_s, e]
              show some (w _) = some (lfO w _ _)
              unfold lfO
              by_cases h28 : tc t n p = 28
              · rw [if_pos h28, if_pos h28, if_neg (by omega), if_neg (by omega), if_neg (by omega), if_pos rfl, if_pos hnum.2]
              · rw [if_neg h28, if_neg h28, if_neg (by omega), if_neg (by omega), if_neg (by omega), if_neg (by omega), if_pos hnum.2]
            · rw [if_neg hnum] at hr
              obtain ⟨m, k1⟩ := h8 (by omega) h56 (fun z => hnum ⟨z.1, by omega⟩)
              have k2 := hF (by rw [hr])
              rw [hr] at k2
              rw [setq_setq] at k1
              exact k2 _ _ _ _ k1 ((hB.leaf (x := lfx true (tc t n p)) (y := m) hx.1).up (by have := hx.2; omega)) (by omega)
          · rw [if_neg ho] at hr
            by_cases hw : tc t n p = 23 ∨ tc t n p = 25 ∨ tc t n p = 26 ∨ tc t n p = 27
            · rw [if_pos hw] at hr
              have e : lfx true (tc t n p) = if tc t n p = 23 then 1 else tc t n p - 23 := by
                rcases hw with h | h | h | h <;> rw [h] <;> rfl
              have hx4 : 1 ≤ lfx true (tc t n p) ∧ lfx true (tc t n p) ≤ 4 := by rw [e]; split <;> omega
              have := h6 ⟨Or.inl (by omega), by omega⟩ (fun z => by have := z.2; omega)
              rw [if_neg h91n] at this
              refine one _ 0 _ (by omega) (by omega) (by omega) (by omega) this (fun w => ?_) hr
              rw [e]
              show some (w (tc t n p - 16)) = some (lfO w _ 0)
              rcases hw with h | h | h | h <;> rw [h] <;> rfl
            · rw [if_neg hw] at hr
              refine bad (fun z => ?_) hr
              rcases z.1 with z1 | z1
              · rw [lfx_t, if_neg (by omega), if_neg (by omega), if_neg (by omega), if_neg (by omega), if_neg (by omega), if_neg (by omega)] at z1; exact z1 rfl
              · exact h91n z1
theorem clS_all (h12 : Lay12 E S o) (hod : I0 o 20 = b2i od) (hK : KL L0 o) : ∀ f, (ClS E Q S o te t n I0 L0 od 0 f ∧ ClS E Q S o te t n I0 L0 od 1 f ∧ ClS E Q S o te t n I0 L0 od 2 f) ∧ ClT E Q S o te t n I0 L0 od 0 f ∧ ClT E Q S o te t n I0 L0 od 1 f := by
  intro f
  induction f with
  | zero =>
    refine ⟨⟨?_, ?_, ?_⟩, ?_, ?_⟩
    · intro d p l F P c I L tn htn hf; exact absurd hf (by unfold rkn; simp)
    · intro d p l F P c I L tn htn hf; exact absurd hf (by unfold rkn; simp)
    · intro d p l F P c I L tn htn hf; exact absurd hf (by unfold rkn; simp)
    · intro d p l F P c0 c I L s l0 U m hf; exact absurd hf (by omega)
    · intro d p l F P c0 c I L s l0 U m hf; exact absurd hf (by omega)
  | succ f ih =>
    obtain ⟨⟨i0, i1, i2⟩, t0, t1⟩ := ih
    exact ⟨⟨clS_of 0 f (by omega) i1 t0, clS_of 1 f (by omega) i2 t1, clP_of f h12 hod hK i0⟩, clT_of 0 f (by omega) h12 i1 t0, clT_of 1 f (by omega) h12 i2 t1⟩
end PG
