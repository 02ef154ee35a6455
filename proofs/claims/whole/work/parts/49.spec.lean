/-! TEXTS: what their expressions are worth -/
abbrev SF : Type := WT → Option Int
/-- where, how many parts so far, what (none: a fault there) -/
abbrev PR : Type := Nat × Nat × Option SF
def bd (r : PR) (k : Nat → Nat → SF → PR) : PR := match r.2.2 with | none => r | some F => k r.1 r.2.1 F
theorem bd_n {r : PR} {k : Nat → Nat → SF → PR} (h : r.2.2 = none) : bd r k = r := by unfold bd; rw [h]
theorem bd_s {r : PR} {k : Nat → Nat → SF → PR} {F : SF} (h : r.2.2 = some F) : bd r k = k r.1 r.2.1 F := by unfold bd; rw [h]
def binS (op : Nat) (F G : SF) : SF := fun w => match F w with | none => none | some a => match G w with | none => none | some b => calc3 op a b
def notS (F : SF) : SF := fun w => match F w with | none => none | some a => some (1 - a)
def andS (F G : SF) : SF := fun w => match F w with | none => none | some a => if a = 0 then some a else G w
def orS (F G : SF) : SF := fun w => match F w with | none => none | some a => if a = 1 then some a else G w
/-- the words' numbers by their letters, 32-fold -/
def TW : List Int64 := [294, 498, 1476, 14836, 21279923, 52, 486, 655, 12635795, 12889267, 13094067, 67155, 546188, 636976, 23716, 525939, 2552, 654910919, 15192243, 86486190, 659870194, 5170, 24165011, 824370, 441828, 146885, 404362868, 3747098803, 398548]
def fnd (h : Int64) : List Int64 → Nat → Nat | [], _ => 90 | x :: l, k => if h = x then k else fnd h l (k + 1)
def tcw (h : Int64) : Nat := fnd h TW 0
def tcv (k : Nat) : Int64 := TW.getD k 0
theorem fnd_ok (h : Int64) : ∀ (l : List Int64) (k : Nat), fnd h l k = 90 ∨ (k ≤ fnd h l k ∧ fnd h l k < k + l.length ∧ l.getD (fnd h l k - k) 0 = h)
  | [], k => Or.inl rfl
  | x :: l, k => by
    by_cases e : h = x
    · right
      rw [fnd, if_pos e]
      exact ⟨Nat.le_refl k, by simp, by rw [Nat.sub_self]; exact e.symm⟩
    · rw [fnd, if_neg e]
      rcases fnd_ok h l (k + 1) with h1 | ⟨h1, h2, h3⟩
      · exact Or.inl h1
      · right
        refine ⟨by omega, by simp; omega, ?_⟩
        rw [show fnd h l (k + 1) - k = (fnd h l (k + 1) - (k + 1)) + 1 from by omega]
        exact h3
/-- a token: 0 to 28 a word, 90 another, 91 a number, 92 the end, from 100 on a sign -/
def tc (t : Nat → Nat) (n p : Nat) : Nat := if srt t n p = 0 then 92 else if srt t n p = 1 then tcw (i64 (wth t n p)) else if srt t n p = 2 then 91 else 100 + t p
def nm (t : Nat → Nat) (n p : Nat) : Nat := min (wth t n p).toNat 1001
def jn (lv c : Nat) : Nat := if lv = 0 then (if c = 143 then 20 else if c = 145 then 21 else 0) else (if c = 142 then 22 else if c = 147 then 23 else if c = 137 then 24 else 0)
def cmpS (c : Nat) : Nat := if c = 160 then 25 else if c = 162 then 26 else if c = 161 then 27 else 0
def wordS (j : Nat) : SF := fun w => some (w j)
/-- 0: a sum, 1: what * / % join, 2: a part, 3: what or joins, 4: what and joins, 5: a plain test; 6 to 9: the rest of 0, 1, 3, 4 behind F -/
def ps (t : Nat → Nat) (n : Nat) (od : Bool) : Nat → Nat → Nat → Nat → Nat → SF → PR
  | 0, _, _, p, l, _ => (p, l, none)
  | f + 1, nt, d, p, l, F =>
    if nt = 0 then bd (ps t n od f 1 d p l F) fun p1 l1 G => ps t n od f 6 d p1 l1 G
    else if nt = 1 then bd (ps t n od f 2 d p l F) fun p1 l1 G => ps t n od f 7 d p1 l1 G
    else if nt = 2 then
      if tc t n p = 191 then (if 8 ≤ d then (p, l, none) else bd (ps t n od f 0 (d + 1) (nxt t n p) l F) fun p1 l1 G => if tc t n p1 = 193 then (nxt t n p1, l1, some G) else (p1, l1, none))
      else if 50 ≤ l then (p, l, none)
      else if tc t n p = 91 then (if nm t n p ≤ 1000 then (nxt t n p, l + 1, some fun _ => some (nm t n p : Int)) else (p, l, none))
      else if od = true then (if tc t n p = 28 ∨ tc t n p = 18 then (if tc t n (nxt t n p) = 91 ∧ nm t n (nxt t n p) < 6 then (nxt t n (nxt t n p), l + 1, some (wordS ((if tc t n p = 28 then 12 else 18) + nm t n (nxt t n p)))) else (nxt t n p, l + 1, none)) else if tc t n p = 23 ∨ tc t n p = 25 ∨ tc t n p = 26 ∨ tc t n p = 27 then (nxt t n p, l + 1, some (wordS (tc t n p - 16))) else (p, l, none))
      else if 16 ≤ tc t n p ∧ tc t n p ≤ 24 then (nxt t n p, l + 1, some (wordS (tc t n p - 16))) else (p, l, none)
    else if nt = 3 then bd (ps t n od f 4 d p l F) fun p1 l1 G => ps t n od f 8 d p1 l1 G
    else if nt = 4 then bd (ps t n od f 5 d p l F) fun p1 l1 G => ps t n od f 9 d p1 l1 G
    else if nt = 5 then
      if tc t n p = 3 then bd (ps t n od f 5 d (nxt t n p) l F) fun p1 l1 G => (p1, l1, some (notS G))
      else if tc t n p = 140 then (if 8 ≤ d then (p, l, none) else bd (ps t n od f 3 (d + 1) (nxt t n p) l F) fun p1 l1 G => if tc t n p1 = 141 then (nxt t n p1, l1, some G) else (p1, l1, none))
      else bd (ps t n od f 0 d p l F) fun p1 l1 G => if cmpS (tc t n p1) = 0 then (p1, l1, none) else bd (ps t n od f 0 d (nxt t n p1) l1 F) fun p2 l2 H => (p2, l2, some (binS (cmpS (tc t n p1)) G H))
    else if nt = 6 then (if jn 0 (tc t n p) = 0 then (p, l, some F) else bd (ps t n od f 1 d (nxt t n p) l F) fun p1 l1 G => ps t n od f 6 d p1 l1 (binS (jn 0 (tc t n p)) F G))
    else if nt = 7 then (if jn 1 (tc t n p) = 0 then (p, l, some F) else bd (ps t n od f 2 d (nxt t n p) l F) fun p1 l1 G => ps t n od f 7 d p1 l1 (binS (jn 1 (tc t n p)) F G))
    else if nt = 8 then (if tc t n p = 1 then bd (ps t n od f 4 d (nxt t n p) l F) fun p1 l1 G => ps t n od f 8 d p1 l1 (orS F G) else (p, l, some F))
    else (if tc t n p = 2 then bd (ps t n od f 5 d (nxt t n p) l F) fun p1 l1 G => ps t n od f 9 d p1 l1 (andS F G) else (p, l, some F))
section SP
variable {t : Nat → Nat} {n : Nat} {od : Bool} {f d p l : Nat} {F : SF}
theorem ps_0 : ps t n od (f + 1) 0 d p l F = bd (ps t n od f 1 d p l F) fun p1 l1 G => ps t n od f 6 d p1 l1 G := rfl
theorem ps_1 : ps t n od (f + 1) 1 d p l F = bd (ps t n od f 2 d p l F) fun p1 l1 G => ps t n od f 7 d p1 l1 G := rfl
theorem ps_2 : ps t n od (f + 1) 2 d p l F = (
      if tc t n p = 191 then (if 8 ≤ d then (p, l, none) else bd (ps t n od f 0 (d + 1) (nxt t n p) l F) fun p1 l1 G => if tc t n p1 = 193 then (nxt t n p1, l1, some G) else (p1, l1, none))
      else if 50 ≤ l then (p, l, none)
      else if tc t n p = 91 then (if nm t n p ≤ 1000 then (nxt t n p, l + 1, some fun _ => some (nm t n p : Int)) else (p, l, none))
      else if od = true then (if tc t n p = 28 ∨ tc t n p = 18 then (if tc t n (nxt t n p) = 91 ∧ nm t n (nxt t n p) < 6 then (nxt t n (nxt t n p), l + 1, some (wordS ((if tc t n p = 28 then 12 else 18) + nm t n (nxt t n p)))) else (nxt t n p, l + 1, none)) else if tc t n p = 23 ∨ tc t n p = 25 ∨ tc t n p = 26 ∨ tc t n p = 27 then (nxt t n p, l + 1, some (wordS (tc t n p - 16))) else (p, l, none))
      else if 16 ≤ tc t n p ∧ tc t n p ≤ 24 then (nxt t n p, l + 1, some (wordS (tc t n p - 16))) else (p, l, none)) := rfl
theorem ps_3 : ps t n od (f + 1) 3 d p l F = bd (ps t n od f 4 d p l F) fun p1 l1 G => ps t n od f 8 d p1 l1 G := rfl
theorem ps_4 : ps t n od (f + 1) 4 d p l F = bd (ps t n od f 5 d p l F) fun p1 l1 G => ps t n od f 9 d p1 l1 G := rfl
theorem ps_5 : ps t n od (f + 1) 5 d p l F = (
      if tc t n p = 3 then bd (ps t n od f 5 d (nxt t n p) l F) fun p1 l1 G => (p1, l1, some (notS G))
      else if tc t n p = 140 then (if 8 ≤ d then (p, l, none) else bd (ps t n od f 3 (d + 1) (nxt t n p) l F) fun p1 l1 G => if tc t n p1 = 141 then (nxt t n p1, l1, some G) else (p1, l1, none))
      else bd (ps t n od f 0 d p l F) fun p1 l1 G => if cmpS (tc t n p1) = 0 then (p1, l1, none) else bd (ps t n od f 0 d (nxt t n p1) l1 F) fun p2 l2 H => (p2, l2, some (binS (cmpS (tc t n p1)) G H))) := rfl
theorem ps_6 : ps t n od (f + 1) 6 d p l F = (if jn 0 (tc t n p) = 0 then (p, l, some F) else bd (ps t n od f 1 d (nxt t n p) l F) fun p1 l1 G => ps t n od f 6 d p1 l1 (binS (jn 0 (tc t n p)) F G)) := rfl
theorem ps_7 : ps t n od (f + 1) 7 d p l F = (if jn 1 (tc t n p) = 0 then (p, l, some F) else bd (ps t n od f 2 d (nxt t n p) l F) fun p1 l1 G => ps t n od f 7 d p1 l1 (binS (jn 1 (tc t n p)) F G)) := rfl
theorem ps_8 : ps t n od (f + 1) 8 d p l F = (if tc t n p = 1 then bd (ps t n od f 4 d (nxt t n p) l F) fun p1 l1 G => ps t n od f 8 d p1 l1 (orS F G) else (p, l, some F)) := rfl
theorem ps_9 : ps t n od (f + 1) 9 d p l F = (if tc t n p = 2 then bd (ps t n od f 5 d (nxt t n p) l F) fun p1 l1 G => ps t n od f 9 d p1 l1 (andS F G) else (p, l, some F)) := rfl
theorem tcw_le (h : Int64) : tcw h ≤ 28 ∨ tcw h = 90 := by
  rcases fnd_ok h TW 0 with h1 | ⟨_, h1, _⟩
  · exact Or.inr h1
  · left
    have : TW.length = 29 := rfl
    unfold tcw; omega
theorem tcw_v {k : Nat} (h : k < 29) : tcw (tcv k) = k := by
  have h2 : ∀ k : Fin 29, tcw (tcv k.1) = k.1 := by decide
  exact h2 ⟨k, h⟩
theorem tcw_i {h : Int64} {k : Nat} (hk : k < 29) : tcw h = k ↔ h = tcv k := by
  constructor
  · intro e
    rcases fnd_ok h TW 0 with h1 | ⟨_, _, h1⟩
    · exact absurd (h1.symm.trans e) (by omega)
    · rw [← h1, ← e]; rfl
  · intro e; rw [e]; exact tcw_v hk
theorem tc_0 (h : srt t n p = 0) : tc t n p = 92 := by unfold tc; rw [if_pos h]
theorem tc_1 (h : srt t n p = 1) : tc t n p = tcw (i64 (wth t n p)) := by unfold tc; rw [h]; rfl
theorem tc_2 (h : srt t n p = 2) : tc t n p = 91 := by unfold tc; rw [h]; rfl
theorem tc_3 (h : srt t n p = 3) : tc t n p = 100 + t p := by unfold tc; rw [h]; rfl
theorem srt4 (t : Nat → Nat) (n p : Nat) : srt t n p = 0 ∨ srt t n p = 1 ∨ srt t n p = 2 ∨ srt t n p = 3 := by have := srt_le t n p; omega
theorem tc_end : tc t n p = 92 ↔ p = n := by
  refine Iff.trans ?_ (srt_end (t := t))
  have h2 := tcw_le (i64 (wth t n p))
  rcases srt4 t n p with h | h | h | h
  · rw [tc_0 h, h]; simp
  · rw [tc_1 h, h]; omega
  · rw [tc_2 h, h]; simp
  · rw [tc_3 h, h]; omega
theorem tc_w {k : Nat} (hk : k < 29) : tc t n p = k ↔ (srt t n p = 1 ∧ i64 (wth t n p) = tcv k) := by
  rw [← tcw_i hk]
  rcases srt4 t n p with h | h | h | h
  · rw [tc_0 h, h]; omega
  · rw [tc_1 h, h]; simp
  · rw [tc_2 h, h]; omega
  · rw [tc_3 h, h]; omega
theorem tc_s {c : Nat} : tc t n p = 100 + c ↔ (srt t n p = 3 ∧ t p = c) := by
  have h2 := tcw_le (i64 (wth t n p))
  rcases srt4 t n p with h | h | h | h
  · rw [tc_0 h, h]; omega
  · rw [tc_1 h, h]; omega
  · rw [tc_2 h, h]; omega
  · rw [tc_3 h, h]; omega
theorem tc_n : tc t n p = 91 ↔ srt t n p = 2 := by
  have h2 := tcw_le (i64 (wth t n p))
  rcases srt4 t n p with h | h | h | h
  · rw [tc_0 h, h]; omega
  · rw [tc_1 h, h]; omega
  · rw [tc_2 h, h]; simp
  · rw [tc_3 h, h]; omega
theorem nxt_lt (hp : p ≤ n) (h : tc t n p ≠ 92) : p < nxt t n p ∧ nxt t n p ≤ n := by
  have := nxt_le (t := t) hp
  have h2 : ¬ p = n := fun z => h (tc_end.mpr z)
  omega
def rkn (nt : Nat) : Nat := if nt = 0 then 3 else if nt = 1 then 2 else if nt = 2 then 1 else if nt = 3 then 6 else if nt = 4 then 5 else if nt = 5 then 4 else 1
theorem jn_n92 {lv : Nat} (h : ¬ jn lv (tc t n p) = 0) : tc t n p ≠ 92 := by
  intro z; rw [z] at h; apply h; unfold jn; split <;> rfl
theorem cmpS_n92 (h : ¬ cmpS (tc t n p) = 0) : tc t n p ≠ 92 := by
  intro z; rw [z] at h; exact h rfl
end SP
/-- how far a reading goes -/
def PL (n p l : Nat) (r : PR) (s : Nat) : Prop := p ≤ r.1 ∧ r.1 ≤ n ∧ l ≤ r.2.1 ∧ (l ≤ 50 → r.2.1 ≤ 50) ∧ ∀ G, r.2.2 = some G → p + s ≤ r.1
theorem PL.b {n p l s1 s2 : Nat} {r : PR} {k : Nat → Nat → SF → PR} (h : PL n p l r s1) (hk : ∀ G, r.2.2 = some G → PL n r.1 r.2.1 (k r.1 r.2.1 G) s2) : PL n p l (bd r k) (s1 + s2) := by
  obtain ⟨h1, h2, h3, h4, h5⟩ := h
  cases hr : r.2.2 with
  | none => rw [bd_n hr]; exact ⟨h1, h2, h3, h4, fun G hG => by rw [hr] at hG; cases hG⟩
  | some G =>
    obtain ⟨k1, k2, k3, k4, k5⟩ := hk G hr
    have h6 := h5 G hr
    rw [bd_s hr]
    exact ⟨by omega, k2, by omega, fun z => k4 (h4 z), fun H hH => by have := k5 H hH; omega⟩
theorem PL.w {n p l s1 s2 : Nat} {r : PR} (h : PL n p l r s1) (hs : s2 ≤ s1) : PL n p l r s2 := ⟨h.1, h.2.1, h.2.2.1, h.2.2.2.1, fun G hG => by have := h.2.2.2.2 G hG; omega⟩
theorem PL.from' {n p p1 l s : Nat} {r : PR} (h : PL n p1 l r s) (hp : p < p1) : PL n p l r (s + 1) := ⟨by have := h.1; omega, h.2.1, h.2.2.1, h.2.2.2.1, fun G hG => by have := h.2.2.2.2 G hG; omega⟩
theorem PL.here {n p l : Nat} {o : Option SF} (hp : p ≤ n) : PL n p l (p, l, o) 0 := ⟨Nat.le_refl _, hp, Nat.le_refl _, fun h => h, fun _ _ => Nat.le_refl _⟩
theorem PL.no {n p l s : Nat} (hp : p ≤ n) : PL n p l (p, l, none) s := ⟨Nat.le_refl _, hp, Nat.le_refl _, fun h => h, fun _ h => by cases h⟩
theorem ps_le {t : Nat → Nat} {n : Nat} {od : Bool} : ∀ (f nt d p l : Nat) (F : SF), p ≤ n → PL n p l (ps t n od f nt d p l F) (if nt < 6 then 1 else 0) := by
  intro f
  induction f with
  | zero => intro nt d p l F hp; exact PL.no hp
  | succ f ih =>
    intro nt d p l F hp
    have nx1 := fun (h : tc t n p ≠ 92) => nxt_lt (t := t) hp h
    by_cases c0 : nt = 0
    · subst c0; show PL n p l _ 1; rw [ps_0]; exact ((ih 1 d p l F hp).b (s2 := 0) fun G hG => ih 6 d _ _ G (ih 1 d p l F hp).2.1).w (by simp)
    by_cases c1 : nt = 1
    · subst c1; show PL n p l _ 1; rw [ps_1]; exact ((ih 2 d p l F hp).b (s2 := 0) fun G hG => ih 7 d _ _ G (ih 2 d p l F hp).2.1).w (by simp)
    by_cases c2 : nt = 2
    · subst c2; show PL n p l _ 1; rw [ps_2]
      split
      · rename_i h191
        have hx := nx1 (by omega)
        split
        · exact PL.no hp
        · refine ((PL.from' (ih 0 (d + 1) (nxt t n p) l F hx.2) hx.1).b (s2 := 0) fun G hG => ?_).w (by simp)
          have h2 := (ih 0 (d + 1) (nxt t n p) l F hx.2).2.1
          split
          · rename_i h193
            have hy := nxt_lt (t := t) h2 (by omega)
            exact ⟨by show _ ≤ nxt t n _; omega, hy.2, Nat.le_refl _, fun h => h, fun _ _ => by show _ ≤ nxt t n _; omega⟩
          · exact PL.here h2
      · split
        · exact PL.no hp
        · have go : tc t n p ≠ 92 → ∀ o, PL n p l (nxt t n p, l + 1, o) 1 := fun h o => ⟨by have := nx1 h; show p ≤ nxt t n p; omega, (nx1 h).2, Nat.le_succ _, fun _ => by show l + 1 ≤ 50; omega, fun _ _ => (nx1 h).1⟩
          split
          · rename_i h91
            split
            · exact go (by omega) _
            · exact PL.no hp
          · split
            · split
              · rename_i h28
                have hx := nx1 (by omega)
                split
                · rename_i h6
                  have hy := nxt_lt (t := t) hx.2 (by omega)
                  exact ⟨by show p ≤ nxt t n (nxt t n p); omega, hy.2, Nat.le_succ _, fun _ => by show l + 1 ≤ 50; omega, fun _ _ => by show _ ≤ nxt t n (nxt t n p); omega⟩
                · exact go (by omega) _
              · split
                · exact go (by omega) _
                · exact PL.no hp
            · split
              · exact go (by omega) _
              · exact PL.no hp
    by_cases c3 : nt = 3
    · subst c3; show PL n p l _ 1; rw [ps_3]; exact ((ih 4 d p l F hp).b (s2 := 0) fun G hG => ih 8 d _ _ G (ih 4 d p l F hp).2.1).w (by simp)
    by_cases c4 : nt = 4
    · subst c4; show PL n p l _ 1; rw [ps_4]; exact ((ih 5 d p l F hp).b (s2 := 0) fun G hG => ih 9 d _ _ G (ih 5 d p l F hp).2.1).w (by simp)
    by_cases c5 : nt = 5
    · subst c5; show PL n p l _ 1; rw [ps_5]
      split
      · have hx := nx1 (by omega)
        exact ((PL.from' (ih 5 d (nxt t n p) l F hx.2) hx.1).b (s2 := 0) fun G hG => PL.here (ih 5 d (nxt t n p) l F hx.2).2.1).w (by simp)
      · split
        · have hx := nx1 (by omega)
          split
          · exact PL.no hp
          · refine ((PL.from' (ih 3 (d + 1) (nxt t n p) l F hx.2) hx.1).b (s2 := 0) fun G hG => ?_).w (by simp)
            have h2 := (ih 3 (d + 1) (nxt t n p) l F hx.2).2.1
            split
            · rename_i h193
              have hy := nxt_lt (t := t) h2 (by omega)
              exact ⟨by show _ ≤ nxt t n _; omega, hy.2, Nat.le_refl _, fun h => h, fun _ _ => by show _ ≤ nxt t n _; omega⟩
            · exact PL.here h2
        · refine ((ih 0 d p l F hp).b (s2 := 0) fun G hG => ?_).w (by simp)
          have h2 := (ih 0 d p l F hp).2.1
          split
          · exact PL.here h2
          · rename_i hc
            have hy := nxt_lt (t := t) h2 (cmpS_n92 hc)
            exact ((PL.from' (ih 0 d _ _ F hy.2) hy.1).b (s2 := 0) fun H hH => PL.here (ih 0 d _ _ F hy.2).2.1).w (by simp)
    rw [if_neg (by omega)]
    by_cases c6 : nt = 6
    · subst c6; rw [ps_6]
      split
      · exact PL.here hp
      · rename_i hj
        have hx := nx1 (jn_n92 hj)
        exact ((PL.from' (ih 1 d (nxt t n p) l F hx.2) hx.1).b (s2 := 0) (k := fun p1 l1 G => ps t n od f 6 d p1 l1 (binS (jn 0 (tc t n p)) F G)) fun G hG => ih 6 d _ _ (binS (jn 0 (tc t n p)) F G) (ih 1 d (nxt t n p) l F hx.2).2.1).w (s2 := 0) (Nat.zero_le _)
    by_cases c7 : nt = 7
    · subst c7; rw [ps_7]
      split
      · exact PL.here hp
      · rename_i hj
        have hx := nx1 (jn_n92 hj)
        exact ((PL.from' (ih 2 d (nxt t n p) l F hx.2) hx.1).b (s2 := 0) (k := fun p1 l1 G => ps t n od f 7 d p1 l1 (binS (jn 1 (tc t n p)) F G)) fun G hG => ih 7 d _ _ (binS (jn 1 (tc t n p)) F G) (ih 2 d (nxt t n p) l F hx.2).2.1).w (s2 := 0) (Nat.zero_le _)
    by_cases c8 : nt = 8
    · subst c8; rw [ps_8]
      split
      · have hx := nx1 (by omega)
        exact ((PL.from' (ih 4 d (nxt t n p) l F hx.2) hx.1).b (s2 := 0) (k := fun p1 l1 G => ps t n od f 8 d p1 l1 (orS F G)) fun G hG => ih 8 d _ _ (orS F G) (ih 4 d (nxt t n p) l F hx.2).2.1).w (s2 := 0) (Nat.zero_le _)
      · exact PL.here hp
    · rw [show ps t n od (f + 1) nt d p l F = (if tc t n p = 2 then bd (ps t n od f 5 d (nxt t n p) l F) fun p1 l1 G => ps t n od f 9 d p1 l1 (andS F G) else (p, l, some F)) from by rw [ps, if_neg c0, if_neg c1, if_neg c2, if_neg c3, if_neg c4, if_neg c5, if_neg c6, if_neg c7, if_neg c8]]
      split
      · have hx := nx1 (by omega)
        exact ((PL.from' (ih 5 d (nxt t n p) l F hx.2) hx.1).b (s2 := 0) (k := fun p1 l1 G => ps t n od f 9 d p1 l1 (andS F G)) fun G hG => ih 9 d _ _ (andS F G) (ih 5 d (nxt t n p) l F hx.2).2.1).w (s2 := 0) (Nat.zero_le _)
      · exact PL.here hp
