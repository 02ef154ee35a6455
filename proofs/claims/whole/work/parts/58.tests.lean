/-! THE REFERENCE reads tests -/
def XU (nt c : Nat) : Prop := if nt = 3 then (c ≠ 1 ∧ c ≠ 2) else if nt = 4 then c ≠ 2 else True
def tlk (nt : Nat) : Nat := if nt = 3 then 1 else if nt = 4 then 2 else 4
def ClU (E : EnT) (Q : QT) (S : ST) (o : Nat) (t : Nat → Nat) (n : Nat) (I0 : IT) (L0 : LT) (od : Bool) (nt f : Nat) : Prop := ∀ d p l F P c I L, rkn nt + 8 * (n - p) ≤ f → INV o t n I0 L0 I L (p, l, d, P, c) → TL (tlk nt) P → inr P ≠ 33 → (∀ r, r = ps t n od f nt d p l F → (r.2.2 = none → HF E Q S o true t n I0 L0 r.1) → (∀ G, r.2.2 = some G → KS E Q S o true t n I0 L0 od 2 (nt - 2) c.2.2 l d P c r.1 r.2.1 G (XU nt (tc t n r.1) ∧ TFo G)) → VX E Q S o true I L 0)
def ClW (E : EnT) (Q : QT) (S : ST) (o : Nat) (t : Nat → Nat) (n : Nat) (I0 : IT) (L0 : LT) (od : Bool) (nt f : Nat) : Prop := ∀ d p l F P c0 c I L s l0 U m, 1 + 8 * (n - p) ≤ f → INV o t n I0 L0 I L (p, l, d, U ++ P, c) → TL (tlk nt) P → inr P ≠ 33 → s ≤ c.2.2 → AG s c c0 → QB (nt - 2) s U → Pd (lfA od) c s U m F → TFo F → m + l0 ≤ l → (nt = 3 → tc t n p ≠ 2) → (∀ r, r = ps t n od f (5 + nt) d p l F → (r.2.2 = none → HF E Q S o true t n I0 L0 r.1) → (∀ G, r.2.2 = some G → KS E Q S o true t n I0 L0 od 2 (nt - 2) s l0 d P c0 r.1 r.2.1 G (XU nt (tc t n r.1) ∧ TFo G)) → VX E Q S o true I L 2)
section PH
variable {E : EnT} {S : ST} {I0 : IT} {L0 : LT} {o n : Nat} {t : Nat → Nat} {Q : QT} {od : Bool}
theorem TL.w {k k' : Nat} {P : List (Nat × Nat)} (h : TL k P) (hk : k ≤ k') : TL k' P := by
  cases P with
  | nil => trivial
  | cons x P => have h3 : bnds x.1 < k := h; show bnds x.1 < k'; omega
theorem clU_of (nt f : Nat) (hnt : nt = 3 ∨ nt = 4) (h1 : ClU E Q S o t n I0 L0 od (nt + 1) f) (h2 : ClW E Q S o t n I0 L0 od nt f) : ClU E Q S o t n I0 L0 od nt (f + 1) := by
  intro d p l F P c I L hf hI hT hin r hr hF hS
  have hpn := hI.1.n400.2
  have hps : ps t n od (f + 1) nt d p l F = bd (ps t n od f (nt + 1) d p l F) fun p1 l1 G => ps t n od f (5 + nt) d p1 l1 G := by
    rcases hnt with e | e
    · subst e; exact ps_3
    · subst e; exact ps_4
  rw [hps] at hr
  have hle := ps_le (t := t) (n := n) (od := od) f (nt + 1) d p l F hpn
  rw [if_pos (by omega)] at hle
  have hrk : rkn nt = rkn (nt + 1) + 1 ∧ 4 ≤ rkn (nt + 1) ∧ rkn (nt + 1) ≤ 5 ∧ tlk nt ≤ tlk (nt + 1) := by rcases hnt with e | e <;> subst e <;> decide
  refine h1 d p l F P c I L (by omega) hI (hT.w hrk.2.2.2) hin _ rfl ?_ ?_
  · intro hn
    rw [bd_n hn] at hr
    subst hr
    exact hF hn
  · intro G hG
    rw [bd_s hG] at hr
    intro hX I' L' c' U m hI' hs hA hQ hP hm
    have hlt := hle.2.2.2.2 G hG
    have := hle.2.1
    refine h2 d _ _ G P c c' I' L' c.2.2 l U m (by omega) hI' hT hin hs hA (hQ.w (by omega) (Nat.le_refl _)) hP hX.2 hm ?_ r hr hF hS
    intro h0; subst h0; exact hX.1
theorem clW_of (nt f : Nat) (hnt : nt = 3 ∨ nt = 4) (h12 : Lay12 E S o) (h1 : ClU E Q S o t n I0 L0 od (nt + 1) f) (h2 : ClW E Q S o t n I0 L0 od nt f) : ClW E Q S o t n I0 L0 od nt (f + 1) := by
  intro d p l F P c0 c I L s l0 U m hf hI hT hin hs hA hQ hP hTF hm hj r hr hF hS
  have hpn := hI.1.n400
  have hpn2 : p ≤ n := hpn.2
  have hps : ps t n od (f + 1) (5 + nt) d p l F = (if tc t n p = nt - 2 then bd (ps t n od f (nt + 1) d (nxt t n p) l F) fun p1 l1 G => ps t n od f (5 + nt) d p1 l1 (if nt = 4 then andS F G else orS F G) else (p, l, some F)) := by
    rcases hnt with e | e
    · subst e; exact ps_8
    · subst e; exact ps_9
  rw [hps] at hr
  by_cases htc : tc t n p = nt - 2
  · rw [if_pos htc] at hr
    have hx := nxt_lt (t := t) hpn2 (by omega)
    have hle := ps_le (t := t) (n := n) (od := od) f (nt + 1) d (nxt t n p) l F hx.2
    rw [if_pos (by omega)] at hle
    obtain ⟨hPS, hB, hl50, hd8, hCG⟩ := hI
    have hB : BD p (U ++ P) c := hB
    have hk : tlk nt = nt - 2 := by rcases hnt with e | e <;> subst e <;> rfl
    have hst := sto_app (k := nt - 2) (c := c) (hk ▸ hT) hQ
    have hBs := BD.st (k := nt - 2) hB
    have hCs := CG.st (k := nt - 2) (by omega) (by omega) hCG hB
    rw [hst] at hBs hCs
    have hlow := emQ_low (m := s) hQ (Nat.le_refl _) hs
    have hRn : Rn (lfA od) (emQ U c).1 (emQ U c).2.1 s (emQ U c).2.2 m F := hP
    generalize hcc : emQ U c = c1 at *
    have hc400 : c1.2.2 < 400 := by have h1 : c1.2.2 + cntP P ≤ p := hBs.1.2.1; omega
    -- where it goes on
    have go : ∀ x I' L', x = (if nt = 4 then 29 else 30) → PS o t n I0 L0 I' L' none (nxt t n p, l, d, (x, c1.2.2) :: P, (setq c1.1 c1.2.2 x, setq c1.2.1 c1.2.2 0, c1.2.2 + 1)) → VX E Q S o true I' L' 0 := by
      intro x I' L' hx0 h5
      have hx9 : x = 29 ∨ x = 30 := by rw [hx0]; split <;> omega
      refine h1 d (nxt t n p) l F ((x, c1.2.2) :: P) _ I' L' ?_ ⟨h5, BD.ao hBs.1 hx.1 hx9 rfl, hl50, hd8, hCs.leaf ⟨by omega, by omega⟩ (by omega)⟩ ?_ ?_ _ rfl ?_ ?_
      · have : rkn (nt + 1) ≤ 5 := by rcases hnt with e | e <;> subst e <;> decide
        omega
      · rcases hnt with e | e
        · subst e; rw [hx0]; show (1 : Nat) < 2; omega
        · subst e; rw [hx0]; show (2 : Nat) < 4; omega
      · show (if 31 ≤ x then x + 1 else inr P) ≠ 33
        rw [if_neg (by omega)]; exact hin
      · intro hn
        rw [bd_n hn] at hr
        subst hr
        exact hF hn
      · intro G hG
        rw [bd_s hG] at hr
        intro hX I2 L2 c2 U2 m2 hI2 hs2 hA2 hQ2 hP2 hm2
        have hlt := hle.2.2.2.2 G hG
        have hlen := hle.2.1
        have hs1 := hRn.1
        have hs2 : c1.2.2 + 1 ≤ c2.2.2 := hs2
        have hA3 : AG c1.2.2 c2 c1 := fun k hk => ⟨(hA2 k (show k < c1.2.2 + 1 by omega)).1.trans (setq_n (by omega)), (hA2 k (show k < c1.2.2 + 1 by omega)).2.trans (setq_n (by omega))⟩
        have hc2 : c2.1 c1.2.2 = x := (hA2 c1.2.2 (show c1.2.2 < c1.2.2 + 1 by omega)).1.trans (setq_s _ _ _)
        have hPd := Pd.ao (x := x) (hRn.cg fun k h6 h7 => hA3 k h7) hP2 hQ2 hs2 hc2 hx9
        have eF : (if x = 29 then andS F G else orS F G) = (if nt = 4 then andS F G else orS F G) := by
          rcases hnt with e | e
          · subst e; rw [hx0]; rfl
          · subst e; rw [hx0]; rfl
        rw [eF] at hPd
        refine h2 d _ _ _ P c0 c2 I2 L2 s l0 (U2 ++ [(x, c1.2.2)]) (m + m2) (by omega) (by rw [List.append_assoc]; exact hI2) hT hin (by omega) ((hA3.w (by omega)).tr (AG.tr (fun k hk => hlow.2 k hk) hA)) ?_ hPd ?_ (by omega) ?_ r hr hF hS
        · refine (hQ2.w (by omega) (by show s ≤ c1.2.2 + 1; omega)).app (QB.one ?_ (by omega) (by omega) (fun z => by omega))
          rcases hnt with e | e
          · subst e; rw [hx0]; decide
          · subst e; rw [hx0]; decide
        · split
          · exact hTF.an hX.2
          · exact hTF.or hX.2
        · intro h0; subst h0; exact hX.1
    rcases hnt with e | e
    · subst e
      refine xs2 h12 hPS (c_X12_behindTest_or h12 hPS htc (by have := hB.1; omega) (hB.up (by omega))) ?_
      intro r0 S' I' L' hp
      obtain ⟨h3, h4, h5⟩ := hp
      rw [hst] at h5
      exact ⟨0, h3, h4, go 30 I' L' rfl h5⟩
    · subst e
      refine xs2 h12 hPS (c_X12_behindTest_and h12 hPS htc (by have := hB.1; omega) (hB.up (by omega))) ?_
      intro r0 S' I' L' hp
      obtain ⟨h3, h4, h5⟩ := hp
      rw [hst] at h5
      exact ⟨0, h3, h4, go 29 I' L' rfl h5⟩
  · rw [if_neg htc] at hr
    subst hr
    refine hS F rfl ⟨?_, hTF⟩ I L c U m hI hs hA hQ hP hm
    rcases hnt with e | e
    · subst e; exact ⟨htc, hj rfl⟩
    · subst e; exact htc
theorem cmpd_TL {P : List (Nat × Nat)} (h : TL 4 P) (hb : ∀ x ∈ P, 20 ≤ x.1) : cmpd P = false := by
  cases P with
  | nil => rfl
  | cons x P =>
    have h3 : bnds x.1 < 4 := h
    have h4 := hb x (by simp)
    have h5 : 28 ≤ x.1 := by
      unfold bnds at h3
      split at h3; omega
      split at h3; omega
      split at h3; omega
      split at h3; omega
      split at h3; omega
      split at h3 <;> omega
    rw [cmpd, if_neg (by omega)]
    exact decide_eq_false (by omega)
theorem cmpS_le {c : Nat} (h : cmpS c ≠ 0) : 25 ≤ cmpS c ∧ cmpS c ≤ 27 := by
  unfold cmpS at *
  split; omega
  split; omega
  split; omega
  rename_i h1 h2 h3
  rw [if_neg h1, if_neg h2, if_neg h3] at h
  exact absurd rfl h
theorem bnds4 {x : Nat} (h1 : 25 ≤ x) (h2 : x ≤ 27) : bnds x = 4 := by
  unfold bnds
  rw [if_neg (by omega), if_neg (by omega), if_neg (by omega), if_neg (by omega), if_pos (by omega)]
theorem clPl_of (f : Nat) (h12 : Lay12 E S o) (h0 : ClS E Q S o true t n I0 L0 od 0 f) (h3 : ClU E Q S o t n I0 L0 od 3 f) (h5 : ClU E Q S o t n I0 L0 od 5 f) : ClU E Q S o t n I0 L0 od 5 (f + 1) := by
  intro d p l F P c I L hf hI hT hin r hr hF hS
  have hf : 4 + 8 * (n - p) ≤ f + 1 := hf
  have hT : TL 4 P := hT
  have hpn := hI.1.n400
  have hpn2 : p ≤ n := hpn.2
  rw [ps_5] at hr
  have hI0 := hI
  obtain ⟨hPS, hB, hl50, hd8, hCG⟩ := hI
  have hB : BD p P c := hB
  have hd8 : d ≤ 8 := hd8
  have hl50 : l ≤ 50 := hl50
  have hB1 := hB.1
  by_cases hno : tc t n p = 3
  · rw [if_pos hno] at hr
    have hx := nxt_lt (t := t) hpn2 (by omega)
    have hle := ps_le (t := t) (n := n) (od := od) f 5 d (nxt t n p) l F hx.2
    refine xs0 h12 hPS (c_X12_readPlain_not h12 hPS hno (by omega)) ?_
    intro r0 S' I' L' hp
    obtain ⟨k3, k4, k5⟩ := hp
    refine ⟨0, k3, k4, ?_⟩
    refine h5 d (nxt t n p) l F ((28, 0) :: P) c I' L' (by show 4 + 8 * (n - nxt t n p) ≤ f; omega) ⟨k5, BD.push hB hx.1 (by omega) (by omega), hl50, hd8, hCG⟩ (by show (3 : Nat) < 4; omega) (by show (if 31 ≤ 28 then 29 else inr P) ≠ 33; rw [if_neg (by omega)]; exact hin) _ rfl ?_ ?_
    · intro hn
      rw [bd_n hn] at hr
      subst hr
      exact hF hn
    · intro G hG
      rw [bd_s hG] at hr
      subst hr
      intro hX I2 L2 c2 U m hI2 hs2 hA2 hQ2 hP2 hm2
      exact hS (notS G) rfl ⟨trivial, hX.2.no⟩ I2 L2 c2 (U ++ [(28, 0)]) m (by rw [List.append_assoc]; exact hI2) hs2 hA2 (hQ2.app (QB.one (by decide) (by omega) (by omega) (fun z => by omega))) (hP2.no hX.2) hm2
  · rw [if_neg hno] at hr
    by_cases hbr : tc t n p = 140
    · rw [if_pos hbr] at hr
      have hx := nxt_lt (t := t) hpn2 (by omega)
      refine xs0 h12 hPS (c_X12_readPlain_br h12 hPS hbr hd8 (by omega)) ?_
      intro r0 S' I' L' hp
      obtain ⟨k3, k4, k5, k6⟩ := hp
      refine ⟨0, k3, k4, ?_⟩
      by_cases hd : 8 ≤ d
      · rw [if_pos hd] at hr
        subst hr
        exact hF rfl _ _ _ _ (k6 (by omega)) (hB.up (by omega)) (by omega)
      · rw [if_neg hd] at hr
        refine h3 (d + 1) (nxt t n p) l F ((31, 0) :: P) c I' L' (by show 6 + 8 * (n - nxt t n p) ≤ f; omega) ⟨k5 (by omega), BD.push hB hx.1 (by omega) (by omega), hl50, by show d + 1 ≤ 8; omega, hCG⟩ (by show (0 : Nat) < 1; omega) (by show (32 : Nat) ≠ 33; omega) _ rfl ?_ ?_
        · intro hn
          rw [bd_n hn] at hr
          subst hr
          exact hF hn
        · intro G hG
          rw [bd_s hG] at hr
          generalize ps t n od f 3 (d + 1) (nxt t n p) l F = r1 at hr hG
          intro hX I2 L2 c2 U m hI2 hs2 hA2 hQ2 hP2 hm2
          obtain ⟨hPS2, hB3, hl2, hd2, hCG2⟩ := hI2
          have hB3 : BD r1.1 (U ++ (31, 0) :: P) c2 := hB3
          have h400 := hPS2.n400
          have h401 : r1.1 ≤ n := h400.2
          have hst := sto_app (k := 1) (P := (31, 0) :: P) (c := c2) (by show (0 : Nat) < 1; omega) hQ2
          have hin2 : inr (U ++ (31, 0) :: P) = 32 := by rw [inr_app hQ2]; rfl
          have hBs := BD.st (k := 1) hB3
          have hCs := CG.st (k := 1) (by omega) (by omega) hCG2 hB3
          rw [hst] at hBs hCs
          have hlow := emQ_low (m := c.2.2) hQ2 (Nat.le_refl _) hs2
          refine xs2 h12 hPS2 (c_X12_behindTest_br h12 hPS2 hX.1.1 hX.1.2 (hB3.up (by omega)) (by omega) ⟨by omega, by omega⟩ hst) ?_
          intro r2 S3 I3 L3 hp3
          obtain ⟨j3, j4, j5, j6⟩ := hp3
          refine ⟨2, j3, j4, ?_⟩
          by_cases h141 : tc t n r1.1 = 141
          · rw [if_pos h141] at hr
            subst hr
            have hy := nxt_lt (t := t) h401 (by omega)
            exact hS G rfl ⟨trivial, hX.2⟩ I3 L3 (emQ U c2) [] m ⟨j5 h141, hBs.1.tail.up (Nat.le_of_lt hy.1), hl2, hd8, hCs⟩ (by have := hlow.1; omega) (AG.tr (fun k hk => hlow.2 k hk) hA2) (fun x hx => by cases hx) hP2 hm2
          · rw [if_neg h141] at hr
            subst hr
            exact hF rfl _ _ _ _ (j6 h141) (hB3.up (by omega)) (by omega)
    · rw [if_neg hbr] at hr
      refine h0 d p l F P c I L 0 (Or.inr ⟨rfl, hno, hbr⟩) (by show 3 + 8 * (n - p) ≤ f; omega) hI0 (hT.w (by omega)) _ rfl ?_ ?_
      · intro hn
        rw [bd_n hn] at hr
        subst hr
        exact hF hn
      · intro G hG
        rw [bd_s hG] at hr
        have hle := ps_le (t := t) (n := n) (od := od) f 0 d p l F hpn2
        have hlt := hle.2.2.2.2 G hG
        generalize ps t n od f 0 d p l F = r1 at hr hG hle hlt
        intro hX I2 L2 c2 U m hI2 hs2 hA2 hQ2 hP2 hm2
        obtain ⟨hPS2, hB3, hl2, hd2, hCG2⟩ := hI2
        have hB3 : BD r1.1 (U ++ P) c2 := hB3
        have h400 := hPS2.n400
        have h401 : r1.1 ≤ n := h400.2
        have hst := sto_app (k := 5) (c := c2) (hT.w (by omega)) hQ2
        have hBs := BD.st (k := 5) hB3
        have hCs := CG.st (k := 5) (by omega) (by omega) hCG2 hB3
        rw [hst] at hBs hCs
        have hlow := emQ_low (m := c.2.2) hQ2 (Nat.le_refl _) hs2
        have hin2 : inr (U ++ P) ≠ 33 := by rw [inr_app hQ2]; exact hin
        have hcm : cmpd (U ++ P) = false := by rw [cmpd_app hQ2]; exact cmpd_TL hT (fun x hx => (hB.2.2 x hx).1)
        have hlen : (U ++ P).length < 400 ∨ cmpS (tc t n r1.1) = 0 := by
          by_cases h92 : tc t n r1.1 = 92
          · right; rw [h92]; rfl
          · left; have := nxt_lt (t := t) h401 h92; have := hB3.1; omega
        by_cases hcs : cmpS (tc t n r1.1) = 0
        · rw [if_pos hcs] at hr
          subst hr
          refine xs3 h12 hPS2 (c_X12_behindSum_cmp h12 hPS2 hX (hB3.up (by omega)) (fun z => absurd hcs z) hin2 rfl hcm) ?_
          intro r2 S3 I3 L3 hp3
          obtain ⟨j3, j4, j5, j6⟩ := hp3
          exact ⟨1, j3, j4, hF rfl _ _ _ _ (j6 hcs) (hB3.up (by omega)) (by omega)⟩
        · rw [if_neg hcs] at hr
          have hc9 := cmpS_le hcs
          have hy := nxt_lt (t := t) h401 (cmpS_n92 hcs)
          have hRn : Rn (lfA od) (emQ U c2).1 (emQ U c2).2.1 c.2.2 (emQ U c2).2.2 m G := hP2
          have hs1 := hRn.1
          refine xs3 h12 hPS2 (c_X12_behindSum_cmp h12 hPS2 hX (hB3.up (by omega)) (fun _ => hlen.resolve_right hcs) hin2 rfl hcm) ?_
          intro r2 S3 I3 L3 hp3
          obtain ⟨j3, j4, j5, j6⟩ := hp3
          refine ⟨1, j3, j4, ?_⟩
          have j5 := j5 hcs
          rw [hst] at j5
          generalize hxx : cmpS (tc t n r1.1) = x at *
          refine h0 d (nxt t n r1.1) r1.2.1 F ((x, 0) :: P) (emQ U c2) I3 L3 1 (Or.inl rfl) (by show 3 + 8 * (n - nxt t n r1.1) ≤ f; omega) ⟨j5, BD.push hBs.1 hy.1 (by omega) (by omega), hl2, hd8, hCs⟩ (by show bnds x < 5; rw [bnds4 (by omega) (by omega)]; omega) _ rfl ?_ ?_
          · intro hn
            rw [bd_n hn] at hr
            subst hr
            exact hF hn
          · intro H hH
            rw [bd_s hH] at hr
            generalize ps t n od f 0 d (nxt t n r1.1) r1.2.1 F = r3 at hr hH
            subst hr
            intro hX4 I4 L4 c4 U4 m4 hI4 hs4 hA4 hQ4 hP4 hm4
            have hB4 : BD r3.1 (U4 ++ (x, 0) :: P) c4 := hI4.2.1
            have h403 : r3.1 ≤ n := hI4.1.n400.2
            have hcm4 : cmpd (U4 ++ (x, 0) :: P) = true := by
              rw [cmpd_app hQ4, cmpd, if_neg (by show ¬ (20 ≤ x ∧ x ≤ 24); omega)]
              exact decide_eq_true hc9
            have hin4 : inr (U4 ++ (x, 0) :: P) ≠ 33 := by
              rw [inr_app hQ4, inr, if_neg (by show ¬ 31 ≤ x; omega)]; exact hin
            refine xs3 h12 hI4.1 (c_X12_behindSum_told h12 hI4.1 hX4 (hB4.up (by omega)) hin4 rfl hcm4) ?_
            intro r5 S5 I5 L5 hp5
            obtain ⟨q3, q4, q5⟩ := hp5
            refine ⟨2, q3, q4, ?_⟩
            refine hS (binS x G H) rfl ⟨trivial, TFo.bin (by omega) G H⟩ I5 L5 c4 (U4 ++ [(x, 0)]) (m + m4) (by rw [List.append_assoc]; exact ⟨q5, hI4.2⟩) (by omega) ((hA4.w (by omega)).tr (AG.tr (fun k hk => hlow.2 k hk) hA2)) ((hQ4.w (by omega) (by omega)).app (QB.one (by rw [bnds4 (by omega) (by omega)]; omega) (by omega) (by omega) (fun z => by omega))) (Pd.bin (hRn.cg fun k h6 h7 => hA4 k h7) hP4 hQ4 hs4 (by omega) (by omega)) (by show m + m4 + l ≤ r3.2.1; omega)
theorem clU_all (h12 : Lay12 E S o) (hod : I0 o 20 = b2i od) (hK : KL L0 o) : ∀ f, (ClU E Q S o t n I0 L0 od 3 f ∧ ClU E Q S o t n I0 L0 od 4 f ∧ ClU E Q S o t n I0 L0 od 5 f) ∧ ClW E Q S o t n I0 L0 od 3 f ∧ ClW E Q S o t n I0 L0 od 4 f := by
  intro f
  induction f with
  | zero =>
    refine ⟨⟨?_, ?_, ?_⟩, ?_, ?_⟩
    · intro d p l F P c I L hf; exact absurd hf (by unfold rkn; simp)
    · intro d p l F P c I L hf; exact absurd hf (by unfold rkn; simp)
    · intro d p l F P c I L hf; exact absurd hf (by unfold rkn; simp)
    · intro d p l F P c0 c I L s l0 U m hf; exact absurd hf (by omega)
    · intro d p l F P c0 c I L s l0 U m hf; exact absurd hf (by omega)
  | succ f ih =>
    obtain ⟨⟨i3, i4, i5⟩, t3, t4⟩ := ih
    exact ⟨⟨clU_of 3 f (by omega) i4 t3, clU_of 4 f (by omega) i5 t4, clPl_of f h12 (clS_all h12 hod hK f).1.1 i3 i5⟩, clW_of 3 f (by omega) h12 i4 t3, clW_of 4 f (by omega) h12 i5 t4⟩
end PH
