/-! CODES that are worth what an expression is -/
def SFo (F : SF) : Prop := ∀ w, wok w → ∀ v, F w = some v → sml v
def TFo (F : SF) : Prop := ∀ w, wok w → ∀ v, F w = some v → v = 0 ∨ v = 1
theorem calc3_sml {op : Nat} {a b v : Int} (h : calc3 op a b = some v) : sml v := by
  unfold calc3 at h
  split at h
  · cases h
  · split at h
    · rename_i hr; cases h; exact rngd_sml hr
    · cases h
theorem calc3_cmp {op : Nat} {a b v : Int} (ho : 25 ≤ op) (h : calc3 op a b = some v) : v = 0 ∨ v = 1 := by
  unfold calc3 calc2 at h
  rw [if_neg (by omega), if_neg (by omega), if_neg (by omega), if_neg (by omega), if_neg (by omega)] at h
  split at h
  · cases h
  · rename_i x hx
    split at h
    · cases h
      split at hx
      · cases hx; split <;> simp
      · split at hx
        · cases hx; split <;> simp
        · cases hx; split <;> simp
    · cases h
theorem SFo.bin (op : Nat) (F G : SF) : SFo (binS op F G) := by
  intro w _ v h
  unfold binS at h
  split at h
  · cases h
  · split at h
    · cases h
    · exact calc3_sml h
theorem TFo.bin {op : Nat} (ho : 25 ≤ op) (F G : SF) : TFo (binS op F G) := by
  intro w _ v h
  unfold binS at h
  split at h
  · cases h
  · split at h
    · cases h
    · exact calc3_cmp ho h
theorem TFo.no {F : SF} (hF : TFo F) : TFo (notS F) := by
  intro w hw v h
  unfold notS at h
  split at h
  · cases h
  · rename_i a ha
    cases h
    have := hF w hw a ha
    omega
theorem TFo.an {F G : SF} (hF : TFo F) (hG : TFo G) : TFo (andS F G) := by
  intro w hw v h
  unfold andS at h
  split at h
  · cases h
  · rename_i a ha
    split at h
    · cases h; exact hF w hw _ ha
    · exact hG w hw v h
theorem TFo.or {F G : SF} (hF : TFo F) (hG : TFo G) : TFo (orS F G) := by
  intro w hw v h
  unfold orS at h
  split at h
  · cases h
  · rename_i a ha
    split at h
    · cases h; exact hF w hw _ ha
    · exact hG w hw v h
/-- the code from s to e is worth F: it lays F's worth on what lies there, or breaks -/
def Rn (lf : WT → Nat → Nat → Int) (op arg : Nat → Nat) (s e m : Nat) (F : SF) : Prop := s < e ∧ 1 ≤ m ∧ ∀ op' arg' : Nat → Nat, (∀ k, s ≤ k → k < e → op' k = op k ∧ arg' k = arg k) → ∀ w, wok w → ∀ last, e ≤ last → ∀ st : List Int, st.length + m ≤ 60 → ∃ k, ∀ fuel, evM op' arg' (lf w) last (fuel + k) s st = (match F w with | none => some none | some v => evM op' arg' (lf w) last fuel e (v :: st))
section RN
variable {lf : WT → Nat → Nat → Int} {op arg : Nat → Nat}
theorem Rn.cg {s e m : Nat} {F : SF} {op' arg' : Nat → Nat} (h : Rn lf op arg s e m F) (hc : ∀ k, s ≤ k → k < e → op' k = op k ∧ arg' k = arg k) : Rn lf op' arg' s e m F :=
  ⟨h.1, h.2.1, fun o2 a2 h2 => h.2.2 o2 a2 fun k h3 h4 => ⟨(h2 k h3 h4).1.trans (hc k h3 h4).1, (h2 k h3 h4).2.trans (hc k h3 h4).2⟩⟩
theorem Rn_leaf {s : Nat} {F : SF} (ho : op s < 20) (hF : ∀ w, F w = some (lf w (op s) (arg s))) : Rn lf op arg s (s + 1) 1 F := by
  refine ⟨by omega, by omega, fun o2 a2 h2 w hw last hl st hst => ⟨1, fun fuel => ?_⟩⟩
  have h3 := h2 s (by omega) (by omega)
  rw [evM_s, if_neg (by omega), h3.1, h3.2, if_pos ho, if_pos (by omega), hF w]
theorem Rn.bin {s m1 m2 a b x : Nat} {F G : SF} (hF : Rn lf op arg s m1 a F) (hG : Rn lf op arg m1 m2 b G) (ho : op m2 = x) (h1 : 20 ≤ x) (h2 : x < 28) : Rn lf op arg s (m2 + 1) (a + b) (binS x F G) := by
  have := hF.1; have := hG.1; have ha := hF.2.1; have := hG.2.1
  refine ⟨by omega, by omega, fun o2 a2 hc w hw last hl st hst => ?_⟩
  obtain ⟨k1, e1⟩ := hF.2.2 o2 a2 (fun k h3 h4 => hc k (by omega) (by omega)) w hw last (by omega) st (by omega)
  unfold binS
  cases hFw : F w with
  | none => rw [hFw] at e1; exact ⟨k1, e1⟩
  | some x1 =>
    rw [hFw] at e1
    obtain ⟨k2, e2⟩ := hG.2.2 o2 a2 (fun k h3 h4 => hc k (by omega) (by omega)) w hw last (by omega) (x1 :: st) (by simp; omega)
    cases hGw : G w with
    | none =>
      rw [hGw] at e2
      exact ⟨k2 + k1, fun fuel => by rw [← Nat.add_assoc, e1]; exact e2 fuel⟩
    | some x2 =>
      rw [hGw] at e2
      refine ⟨1 + k2 + k1, fun fuel => ?_⟩
      have h4 := (hc m2 (by omega) (by omega)).1
      have e3 := e1 (fuel + 1 + k2)
      have e4 := e2 (fuel + 1)
      rw [show fuel + (1 + k2 + k1) = fuel + 1 + k2 + k1 from by omega, e3]
      show evM o2 a2 (lf w) last (fuel + 1 + k2) m1 (x1 :: st) = _
      rw [e4]
      show evM o2 a2 (lf w) last (fuel + 1) m2 (x2 :: x1 :: st) = _
      rw [evM_s, if_neg (by omega), if_neg (by omega), if_pos (by omega), h4, ho]
      show (match calc3 x x1 x2 with | none => some none | some y => evM o2 a2 (lf w) last fuel (m2 + 1) (y :: st)) = (match calc3 x x1 x2 with | none => some none | some y => evM o2 a2 (lf w) last fuel (m2 + 1) (y :: st))
      rfl
theorem Rn.no {s e a : Nat} {F : SF} (hF : Rn lf op arg s e a F) (hT : TFo F) (ho : op e = 28) : Rn lf op arg s (e + 1) a (notS F) := by
  have := hF.1; have := hF.2.1
  refine ⟨by omega, by omega, fun o2 a2 hc w hw last hl st hst => ?_⟩
  obtain ⟨k1, e1⟩ := hF.2.2 o2 a2 (fun k h3 h4 => hc k (by omega) (by omega)) w hw last (by omega) st (by omega)
  unfold notS
  cases hFw : F w with
  | none => rw [hFw] at e1; exact ⟨k1, e1⟩
  | some x1 =>
    rw [hFw] at e1
    refine ⟨1 + k1, fun fuel => ?_⟩
    have h4 := (hc e (by omega) (by omega)).1
    have h5 := hT w hw x1 hFw
    rw [show fuel + (1 + k1) = fuel + 1 + k1 from by omega, e1 (fuel + 1)]
    show evM o2 a2 (lf w) last (fuel + 1) e (x1 :: st) = _
    rw [evM_s, if_neg (by omega), if_neg (by omega), if_neg (by omega), if_pos (by omega)]
    show (if x1 = 0 ∨ x1 = 1 then _ else _) = _
    rw [if_pos h5]
theorem Rn.an {s m e a b : Nat} {F G : SF} (hF : Rn lf op arg s m a F) (hG : Rn lf op arg (m + 1) e b G) (ho : op m = 29) (hr : arg m = e) : Rn lf op arg s e (a + b) (andS F G) := by
  have := hF.1; have := hG.1; have := hF.2.1; have := hG.2.1
  refine ⟨by omega, by omega, fun o2 a2 hc w hw last hl st hst => ?_⟩
  obtain ⟨k1, e1⟩ := hF.2.2 o2 a2 (fun k h3 h4 => hc k (by omega) (by omega)) w hw last (by omega) st (by omega)
  have h4 := hc m (by omega) (by omega)
  unfold andS
  cases hFw : F w with
  | none => rw [hFw] at e1; exact ⟨k1, e1⟩
  | some x1 =>
    rw [hFw] at e1
    have st1 : ∀ fuel, evM o2 a2 (lf w) last (fuel + 1) m (x1 :: st) = if x1 = 0 then evM o2 a2 (lf w) last fuel e (x1 :: st) else evM o2 a2 (lf w) last fuel (m + 1) st := by
      intro fuel
      rw [evM_s, if_neg (by omega), if_neg (by omega), if_neg (by omega), if_neg (by omega)]
      show (if x1 = (if o2 m = 29 then 0 else 1) then evM o2 a2 (lf w) last fuel (a2 m) (x1 :: st) else evM o2 a2 (lf w) last fuel (m + 1) st) = _
      rw [h4.1, ho, if_pos rfl, h4.2, hr]
    by_cases h0 : x1 = 0
    · refine ⟨1 + k1, fun fuel => ?_⟩
      rw [show fuel + (1 + k1) = fuel + 1 + k1 from by omega, e1 (fuel + 1)]
      show evM o2 a2 (lf w) last (fuel + 1) m (x1 :: st) = _
      rw [st1, if_pos h0]
      show _ = (match (if x1 = 0 then some x1 else G w) with | none => some none | some v => evM o2 a2 (lf w) last fuel e (v :: st))
      rw [if_pos h0]
    · obtain ⟨k2, e2⟩ := hG.2.2 o2 a2 (fun k h3 h4 => hc k (by omega) (by omega)) w hw last (by omega) st (by omega)
      refine ⟨k2 + (1 + k1), fun fuel => ?_⟩
      rw [show fuel + (k2 + (1 + k1)) = fuel + k2 + 1 + k1 from by omega, e1 (fuel + k2 + 1)]
      show evM o2 a2 (lf w) last (fuel + k2 + 1) m (x1 :: st) = _
      rw [st1, if_neg h0, e2 fuel]
      show _ = (match (if x1 = 0 then some x1 else G w) with | none => some none | some v => evM o2 a2 (lf w) last fuel e (v :: st))
      rw [if_neg h0]
theorem Rn.or {s m e a b : Nat} {F G : SF} (hF : Rn lf op arg s m a F) (hG : Rn lf op arg (m + 1) e b G) (ho : op m = 30) (hr : arg m = e) : Rn lf op arg s e (a + b) (orS F G) := by
  have := hF.1; have := hG.1; have := hF.2.1; have := hG.2.1
  refine ⟨by omega, by omega, fun o2 a2 hc w hw last hl st hst => ?_⟩
  obtain ⟨k1, e1⟩ := hF.2.2 o2 a2 (fun k h3 h4 => hc k (by omega) (by omega)) w hw last (by omega) st (by omega)
  have h4 := hc m (by omega) (by omega)
  unfold orS
  cases hFw : F w with
  | none => rw [hFw] at e1; exact ⟨k1, e1⟩
  | some x1 =>
    rw [hFw] at e1
    have st1 : ∀ fuel, evM o2 a2 (lf w) last (fuel + 1) m (x1 :: st) = if x1 = 1 then evM o2 a2 (lf w) last fuel e (x1 :: st) else evM o2 a2 (lf w) last fuel (m + 1) st := by
      intro fuel
      rw [evM_s, if_neg (by omega), if_neg (by omega), if_neg (by omega), if_neg (by omega)]
      show (if x1 = (if o2 m = 29 then 0 else 1) then evM o2 a2 (lf w) last fuel (a2 m) (x1 :: st) else evM o2 a2 (lf w) last fuel (m + 1) st) = _
      rw [h4.1, ho, if_neg (show ¬ ((30 : Nat) = 29) by decide), h4.2, hr]
    by_cases h0 : x1 = 1
    · refine ⟨1 + k1, fun fuel => ?_⟩
      rw [show fuel + (1 + k1) = fuel + 1 + k1 from by omega, e1 (fuel + 1)]
      show evM o2 a2 (lf w) last (fuel + 1) m (x1 :: st) = _
      rw [st1, if_pos h0]
      show _ = (match (if x1 = 1 then some x1 else G w) with | none => some none | some v => evM o2 a2 (lf w) last fuel e (v :: st))
      rw [if_pos h0]
    · obtain ⟨k2, e2⟩ := hG.2.2 o2 a2 (fun k h3 h4 => hc k (by omega) (by omega)) w hw last (by omega) st (by omega)
      refine ⟨k2 + (1 + k1), fun fuel => ?_⟩
      rw [show fuel + (k2 + (1 + k1)) = fuel + k2 + 1 + k1 from by omega, e1 (fuel + k2 + 1)]
      show evM o2 a2 (lf w) last (fuel + k2 + 1) m (x1 :: st) = _
      rw [st1, if_neg h0, e2 fuel]
      show _ = (match (if x1 = 1 then some x1 else G w) with | none => some none | some v => evM o2 a2 (lf w) last fuel e (v :: st))
      rw [if_neg h0]
theorem Rn.ev {s e m : Nat} {F : SF} {w : WT} (h : Rn lf op arg s e m F) (hm : m ≤ 60) (hw : wok w) : ∃ fuel, evM op arg (lf w) e fuel s [] = some (F w) := by
  obtain ⟨k, hk⟩ := h.2.2 op arg (fun _ _ _ => ⟨rfl, rfl⟩) w hw e (Nat.le_refl e) [] (by simpa using hm)
  refine ⟨1 + k, ?_⟩
  rw [hk 1]
  cases hF : F w with
  | none => rfl
  | some v =>
    show evM op arg (lf w) e (0 + 1) e [v] = _
    rw [evM_s, if_pos (Nat.le_refl e)]
end RN
/-- code: operations, arguments, how many; what still waits on a pile is put behind it -/
abbrev CT : Type := (Nat → Nat) × (Nat → Nat) × Nat
def em1 (x : Nat × Nat) (c : CT) : CT := if x.1 = 29 ∨ x.1 = 30 then (c.1, setq c.2.1 x.2 c.2.2, c.2.2) else (setq c.1 c.2.2 x.1, setq c.2.1 c.2.2 0, c.2.2 + 1)
def emQ : List (Nat × Nat) → CT → CT | [], c => c | x :: Q, c => emQ Q (em1 x c)
def bnds (x : Nat) : Nat := if 31 ≤ x then 0 else if x = 30 then 1 else if x = 29 then 2 else if x = 28 then 3 else if 25 ≤ x then 4 else if 22 ≤ x then 6 else 5
def sto (k : Nat) : List (Nat × Nat) → CT → List (Nat × Nat) × CT | [], c => ([], c) | x :: P, c => if k ≤ bnds x.1 then sto k P (em1 x c) else (x :: P, c)
def inr : List (Nat × Nat) → Nat | [] => 0 | x :: P => if 31 ≤ x.1 then x.1 + 1 else inr P
def cmpd : List (Nat × Nat) → Bool | [] => false | x :: P => if 20 ≤ x.1 ∧ x.1 ≤ 24 then cmpd P else decide (25 ≤ x.1 ∧ x.1 ≤ 27)
def QB (k s : Nat) (Q : List (Nat × Nat)) : Prop := ∀ x ∈ Q, k ≤ bnds x.1 ∧ 20 ≤ x.1 ∧ x.1 < 31 ∧ ((x.1 = 29 ∨ x.1 = 30) → s ≤ x.2)
def TL (k : Nat) : List (Nat × Nat) → Prop | [] => True | x :: _ => bnds x.1 < k
theorem QB.t {k s : Nat} {x : Nat × Nat} {Q : List (Nat × Nat)} (h : QB k s (x :: Q)) : QB k s Q := fun y hy => h y (List.mem_cons_of_mem x hy)
theorem QB.app {k s : Nat} {Q R : List (Nat × Nat)} (h : QB k s Q) (g : QB k s R) : QB k s (Q ++ R) := fun y hy => (List.mem_append.mp hy).elim (h y) (g y)
theorem QB.w {k k' s s' : Nat} {Q : List (Nat × Nat)} (h : QB k s Q) (h1 : k' ≤ k) (h2 : s' ≤ s) : QB k' s' Q := fun y hy => ⟨by have := (h y hy).1; omega, (h y hy).2.1, (h y hy).2.2.1, fun z => by have := (h y hy).2.2.2 z; omega⟩
theorem QB.one {k s x y : Nat} (h1 : k ≤ bnds x) (h2 : 20 ≤ x) (h3 : x < 31) (h4 : (x = 29 ∨ x = 30) → s ≤ y) : QB k s [(x, y)] := fun z hz => by
  have e : z = (x, y) := List.mem_singleton.mp hz
  subst e; exact ⟨h1, h2, h3, h4⟩
theorem emQ_app : ∀ (Q R : List (Nat × Nat)) (c : CT), emQ (Q ++ R) c = emQ R (emQ Q c)
  | [], _, _ => rfl
  | x :: Q, R, c => emQ_app Q R (em1 x c)
theorem sto_app {k s : Nat} {P : List (Nat × Nat)} (hP : TL k P) : ∀ {Q : List (Nat × Nat)} {c : CT}, QB k s Q → sto k (Q ++ P) c = (P, emQ Q c)
  | [], c, _ => by
    cases P with
    | nil => rfl
    | cons x P =>
      have h : bnds x.1 < k := hP
      show sto k (x :: P) c = (x :: P, c)
      rw [sto, if_neg (by omega)]
  | x :: Q, c, h => by
    show sto k (x :: (Q ++ P)) c = _
    rw [sto, if_pos (h x (by simp)).1]
    exact sto_app hP h.t
theorem inr_app {k s : Nat} {P : List (Nat × Nat)} : ∀ {Q : List (Nat × Nat)}, QB k s Q → inr (Q ++ P) = inr P
  | [], _ => rfl
  | x :: Q, h => by
    show inr (x :: (Q ++ P)) = _
    rw [inr, if_neg (by have := (h x (by simp)).2.2.1; omega)]
    exact inr_app h.t
theorem bnds5 {x : Nat} (h : 5 ≤ bnds x) (h2 : 20 ≤ x) : 20 ≤ x ∧ x ≤ 24 := by
  unfold bnds at h
  split at h; omega
  split at h; omega
  split at h; omega
  split at h; omega
  split at h <;> omega
theorem cmpd_app {s : Nat} {P : List (Nat × Nat)} : ∀ {Q : List (Nat × Nat)}, QB 5 s Q → cmpd (Q ++ P) = cmpd P
  | [], _ => rfl
  | x :: Q, h => by
    show cmpd (x :: (Q ++ P)) = _
    rw [cmpd, if_pos (bnds5 (h x (by simp)).1 (h x (by simp)).2.1)]
    exact cmpd_app h.t
theorem em1_low {x : Nat × Nat} {c : CT} {m : Nat} (hx : (x.1 = 29 ∨ x.1 = 30) → m ≤ x.2) (hm : m ≤ c.2.2) : c.2.2 ≤ (em1 x c).2.2 ∧ ∀ k, k < m → (em1 x c).1 k = c.1 k ∧ (em1 x c).2.1 k = c.2.1 k := by
  unfold em1
  split
  · rename_i h
    exact ⟨Nat.le_refl _, fun k hk => ⟨rfl, setq_n (by have := hx h; omega)⟩⟩
  · exact ⟨Nat.le_succ _, fun k hk => ⟨setq_n (by omega), setq_n (by omega)⟩⟩
theorem emQ_low {m k0 s : Nat} : ∀ {Q : List (Nat × Nat)} {c : CT}, QB k0 s Q → m ≤ s → m ≤ c.2.2 → c.2.2 ≤ (emQ Q c).2.2 ∧ ∀ k, k < m → (emQ Q c).1 k = c.1 k ∧ (emQ Q c).2.1 k = c.2.1 k
  | [], c, _, _, _ => ⟨Nat.le_refl _, fun _ _ => ⟨rfl, rfl⟩⟩
  | x :: Q, c, h, hs, hm => by
    have h1 := em1_low (x := x) (c := c) (m := m) (fun z => by have := (h x (by simp)).2.2.2 z; omega) hm
    have h2 := emQ_low (c := em1 x c) h.t hs (by omega)
    refine ⟨by have := h2.1; show c.2.2 ≤ (emQ Q (em1 x c)).2.2; omega, fun k hk => ?_⟩
    exact ⟨(h2.2 k hk).1.trans (h1.2 k hk).1, (h2.2 k hk).2.trans (h1.2 k hk).2⟩
def Pd (lf : WT → Nat → Nat → Int) (c : CT) (s : Nat) (Q : List (Nat × Nat)) (m : Nat) (F : SF) : Prop := Rn lf (emQ Q c).1 (emQ Q c).2.1 s (emQ Q c).2.2 m F
theorem Pd.bin {lf : WT → Nat → Nat → Int} {c : CT} {s m1 a b x k y : Nat} {Q : List (Nat × Nat)} {F G : SF} (hF : Rn lf c.1 c.2.1 s m1 a F) (hG : Pd lf c m1 Q b G) (hQ : QB k m1 Q) (hm : m1 ≤ c.2.2) (h1 : 20 ≤ x) (h2 : x < 28) : Pd lf c s (Q ++ [(x, y)]) (a + b) (binS x F G) := by
  have hl := emQ_low (m := m1) hQ (Nat.le_refl _) hm
  unfold Pd at hG ⊢
  rw [emQ_app]
  show Rn lf (em1 (x, y) (emQ Q c)).1 (em1 (x, y) (emQ Q c)).2.1 s (em1 (x, y) (emQ Q c)).2.2 (a + b) (binS x F G)
  have := hG.1
  have e : em1 (x, y) (emQ Q c) = (setq (emQ Q c).1 (emQ Q c).2.2 x, setq (emQ Q c).2.1 (emQ Q c).2.2 0, (emQ Q c).2.2 + 1) := by
    unfold em1; rw [if_neg (by show ¬ (x = 29 ∨ x = 30); omega)]
  rw [e]
  refine Rn.bin (hF.cg fun k h3 h4 => ?_) (hG.cg fun k h3 h4 => ?_) (setq_s _ _ _) h1 h2
  · show setq _ _ _ k = _ ∧ setq _ _ _ k = _
    rw [setq_n (by omega), setq_n (by omega)]; exact hl.2 k h4
  · show setq _ _ _ k = _ ∧ setq _ _ _ k = _
    rw [setq_n (by omega), setq_n (by omega)]; exact ⟨rfl, rfl⟩
theorem Pd.no {lf : WT → Nat → Nat → Int} {c : CT} {s a y : Nat} {Q : List (Nat × Nat)} {F : SF} (hF : Pd lf c s Q a F) (hT : TFo F) : Pd lf c s (Q ++ [(28, y)]) a (notS F) := by
  unfold Pd at hF ⊢
  rw [emQ_app]
  show Rn lf (em1 (28, y) (emQ Q c)).1 (em1 (28, y) (emQ Q c)).2.1 s (em1 (28, y) (emQ Q c)).2.2 a (notS F)
  have e : em1 (28, y) (emQ Q c) = (setq (emQ Q c).1 (emQ Q c).2.2 28, setq (emQ Q c).2.1 (emQ Q c).2.2 0, (emQ Q c).2.2 + 1) := by
    unfold em1; rw [if_neg (by show ¬ (28 = 29 ∨ 28 = 30); omega)]
  rw [e]
  refine Rn.no (hF.cg fun k h3 h4 => ?_) hT (setq_s _ _ _)
  show setq _ _ _ k = _ ∧ setq _ _ _ k = _
  rw [setq_n (by omega), setq_n (by omega)]; exact ⟨rfl, rfl⟩
theorem Pd.ao {lf : WT → Nat → Nat → Int} {c : CT} {s m a b x k : Nat} {Q : List (Nat × Nat)} {F G : SF} (hF : Rn lf c.1 c.2.1 s m a F) (hG : Pd lf c (m + 1) Q b G) (hQ : QB k (m + 1) Q) (hm : m + 1 ≤ c.2.2) (hx : c.1 m = x) (h1 : x = 29 ∨ x = 30) : Pd lf c s (Q ++ [(x, m)]) (a + b) (if x = 29 then andS F G else orS F G) := by
  have hl := emQ_low (m := m + 1) hQ (Nat.le_refl _) hm
  unfold Pd at hG ⊢
  rw [emQ_app]
  show Rn lf (em1 (x, m) (emQ Q c)).1 (em1 (x, m) (emQ Q c)).2.1 s (em1 (x, m) (emQ Q c)).2.2 (a + b) _
  have := hG.1; have := hF.1
  have e : em1 (x, m) (emQ Q c) = ((emQ Q c).1, setq (emQ Q c).2.1 m (emQ Q c).2.2, (emQ Q c).2.2) := by
    unfold em1; rw [if_pos (by exact h1)]
  rw [e]
  have g1 : Rn lf (emQ Q c).1 (setq (emQ Q c).2.1 m (emQ Q c).2.2) s m a F := hF.cg fun k h3 h4 => by
    rw [setq_n (by omega)]; exact hl.2 k (by omega)
  have g2 : Rn lf (emQ Q c).1 (setq (emQ Q c).2.1 m (emQ Q c).2.2) (m + 1) (emQ Q c).2.2 b G := hG.cg fun k h3 h4 => by
    rw [setq_n (by omega)]; exact ⟨rfl, rfl⟩
  have g3 : (emQ Q c).1 m = x := (hl.2 m (by omega)).1.trans hx
  rcases h1 with h1 | h1
  · rw [if_pos h1]; exact Rn.an g1 g2 (g3.trans h1) (setq_s _ _ _)
  · rw [if_neg (by omega)]; exact Rn.or g1 g2 (g3.trans h1) (setq_s _ _ _)
