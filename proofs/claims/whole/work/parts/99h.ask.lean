/-! BOXES ASK one behind the other: what holds meanwhile, and that it ends in the best match none would leave -/
section SA
variable {nb ns : Nat} {may as : Nat → Nat → Bool} {dif lk : Nat → Nat → Nat} {kp : Nat → Nat}
theorem bbet_tot (dif : Nat → Nat → Nat) (b s t : Nat) : s = t ∨ bbet dif b s t ∨ bbet dif b t s := by unfold bbet; omega
theorem bbet_as {b s t : Nat} (h : bbet dif b s t) : ¬ bbet dif b t s := by unfold bbet at *; omega
theorem bbet_ir {b s : Nat} : ¬ bbet dif b s s := by unfold bbet; omega
theorem sbet_as {s b c : Nat} (h : sbet lk s b c) : ¬ sbet lk s c b := by unfold sbet at *; omega
def Ask (nb ns : Nat) (may as : Nat → Nat → Bool) (dif lk : Nat → Nat → Nat) (kp : Nat → Nat) : Prop :=
  (∀ b s, as b s = true → b < nb ∧ s < ns ∧ may b s = true) ∧ (∀ b s, kp s = b + 1 → as b s = true) ∧ (∀ b s, as b s = true → ∃ c, kp s = c + 1 ∧ (c = b ∨ sbet lk s c b)) ∧ (∀ b s t, kp s = b + 1 → kp t = b + 1 → s = t) ∧ (∀ b s t, as b s = true → t < ns → may b t = true → bbet dif b t s → as b t = true) ∧ (∀ μ, Stab nb ns may dif lk μ → ∀ b s, as b s = true → kp s ≠ b + 1 → μ b ≠ s + 1)
theorem Ask.start : Ask nb ns may (fun _ _ => false) dif lk (fun _ => 0) :=
  ⟨fun _ _ h => Bool.noConfusion h, fun b s h => by (have h : 0 = b + 1 := h; omega), fun _ _ h => Bool.noConfusion h, fun b s t h _ => by (have h : 0 = b + 1 := h; omega), fun _ _ _ h => Bool.noConfusion h, fun _ _ _ _ h => Bool.noConfusion h⟩
/-- who loses at s: w has asked s, and is kept by none but s; no match none would leave gives s to x -/
theorem Ask.lose (h : Ask nb ns may as dif lk kp) {w x s : Nat} (hw : w < nb) (hx : x < nb) (hs : s < ns) (hm : may w s = true) (hord : ∀ t, t < ns → may w t = true → bbet dif w t s → as w t = true) (hk : ∀ t, t ≠ s → kp t ≠ w + 1) (hne : w ≠ x) (hb : sbet lk s w x) : ∀ μ, Stab nb ns may dif lk μ → μ x ≠ s + 1 := by
  intro μ hμ hμx
  obtain ⟨m1, m2, m3⟩ := id hμ
  have hpref : μ w = 0 ∨ bbet dif w s (μ w - 1) := by
    rcases hz : μ w with _ | t
    · exact Or.inl rfl
    · right
      obtain ⟨ht, hmt⟩ := m1 w hw t hz
      have hts : t ≠ s := fun e => hne (m2 w x hw hx (by rw [hz]; omega) (by rw [hz, hμx, e]))
      rcases bbet_tot dif w s t with e | e | e
      · exact absurd e.symm hts
      · exact e
      · have ha := hord t ht hmt e
        exact absurd hz (h.2.2.2.2.2 μ hμ w t ha (hk t hts))
  obtain ⟨c, hc, hμc, hsc⟩ := m3 w s hw hs hm hpref
  have ecx : c = x := m2 c x hc hx (by rw [hμc]; omega) (by rw [hμc, hμx])
  subst ecx
  exact sbet_as hb hsc
theorem sbet_tot (lk : Nat → Nat → Nat) (s b c : Nat) : b = c ∨ sbet lk s b c ∨ sbet lk s c b := by unfold sbet; omega
theorem Ask.step (h : Ask nb ns may as dif lk kp) {b s : Nat} (hb : b < nb) (hs : s < ns) (hm : may b s = true) (hna : as b s = false) (hun : ∀ t, kp t ≠ b + 1) (hnear : ∀ t, t < ns → may b t = true → as b t = false → t = s ∨ bbet dif b s t) : Ask nb ns may (fun c t => as c t || (decide (c = b) && decide (t = s))) dif lk (fun t => if t = s then (if kp s = 0 ∨ (lk (kp s - 1) s < lk b s ∨ (lk b s = lk (kp s - 1) s ∧ b < kp s - 1)) then b + 1 else kp s) else kp t) := by
  obtain ⟨h1, h2, h3, h4, h5, h6⟩ := id h
  have hord : ∀ t, t < ns → may b t = true → bbet dif b t s → as b t = true := fun t ht hmt hbt => by
    cases ha : as b t with
    | true => rfl
    | false =>
      rcases hnear t ht hmt ha with e | e
      · rw [e] at hbt; exact absurd hbt bbet_ir
      · exact absurd hbt (bbet_as e)
  have has : ∀ c t, (as c t || (decide (c = b) && decide (t = s))) = true ↔ (as c t = true ∨ (c = b ∧ t = s)) := fun c t => by simp
  by_cases hw : kp s = 0 ∨ (lk (kp s - 1) s < lk b s ∨ (lk b s = lk (kp s - 1) s ∧ b < kp s - 1))
  · -- b is kept now
    have hk2 : ∀ t, (if t = s then (if kp s = 0 ∨ (lk (kp s - 1) s < lk b s ∨ (lk b s = lk (kp s - 1) s ∧ b < kp s - 1)) then b + 1 else kp s) else kp t) = if t = s then b + 1 else kp t := fun t => by rw [if_pos hw]
    refine ⟨fun c t hc => ?_, fun c t hc => ?_, fun c t hc => ?_, fun c t u hc hd => ?_, fun c t u hc hu hmu hbu => ?_, fun μ hμ c t hc hkc => ?_⟩
    · rcases (has c t).mp hc with hc | ⟨rfl, rfl⟩
      · exact h1 c t hc
      · exact ⟨hb, hs, hm⟩
    · replace hc := (hk2 t).symm.trans hc
      by_cases e : t = s
      · rw [if_pos e] at hc
        exact (has c t).mpr (Or.inr ⟨by omega, e⟩)
      · rw [if_neg e] at hc
        exact (has c t).mpr (Or.inl (h2 c t hc))
    · show ∃ d, (if t = s then _ else _) = d + 1 ∧ _
      rw [hk2]
      by_cases e : t = s
      · subst e
        rw [if_pos rfl]
        refine ⟨b, rfl, ?_⟩
        rcases (has c t).mp hc with hc | ⟨rfl, -⟩
        · obtain ⟨d, hd, hd2⟩ := h3 c t hc
          right
          rcases hw with hw | hw
          · rw [hd] at hw; omega
          · rw [hd, Nat.add_sub_cancel] at hw
            rcases hd2 with rfl | hd2
            · exact hw
            · exact (show sbet lk _ b d from hw).tr hd2
        · exact Or.inl rfl
      · rw [if_neg e]
        rcases (has c t).mp hc with hc | ⟨-, e2⟩
        · exact h3 c t hc
        · exact absurd e2 e
    · replace hc := (hk2 t).symm.trans hc
      replace hd := (hk2 u).symm.trans hd
      by_cases e : t = s
      · by_cases e2 : u = s
        · rw [e, e2]
        · rw [if_pos e] at hc; rw [if_neg e2] at hd
          have : c = b := by omega
          subst this
          exact absurd hd (hun u)
      · by_cases e2 : u = s
        · rw [if_neg e] at hc; rw [if_pos e2] at hd
          have : c = b := by omega
          subst this
          exact absurd hc (hun t)
        · rw [if_neg e] at hc; rw [if_neg e2] at hd
          exact h4 c t u hc hd
    · rcases (has c t).mp hc with hc | ⟨rfl, rfl⟩
      · exact (has c u).mpr (Or.inl (h5 c t u hc hu hmu hbu))
      · exact (has c u).mpr (Or.inl (hord u hu hmu hbu))
    · have hkc := fun z => hkc ((hk2 t).trans z)
      by_cases e : t = s
      · subst e
        rw [if_pos rfl] at hkc
        have hcb : c ≠ b := fun z => hkc (by rw [z])
        rcases (has c t).mp hc with hc | ⟨e2, -⟩
        · obtain ⟨c1, c2, c3⟩ := h1 c t hc
          refine h.lose hb c1 hs hm hord (fun u _ => hun u) (fun z => hcb z.symm) ?_ μ hμ
          obtain ⟨d, hd, hd2⟩ := h3 c t hc
          rcases hw with hw | hw
          · rw [hd] at hw; omega
          · rw [hd, Nat.add_sub_cancel] at hw
            rcases hd2 with rfl | hd2
            · exact hw
            · exact (show sbet lk _ b d from hw).tr hd2
        · exact absurd e2 hcb
      · rw [if_neg e] at hkc
        rcases (has c t).mp hc with hc | ⟨-, e2⟩
        · exact h6 μ hμ c t hc hkc
        · exact absurd e2 e
  · -- b is refused
    have hk2 : ∀ t, (if t = s then (if kp s = 0 ∨ (lk (kp s - 1) s < lk b s ∨ (lk b s = lk (kp s - 1) s ∧ b < kp s - 1)) then b + 1 else kp s) else kp t) = kp t := fun t => by
      rw [if_neg hw]; split
      · rename_i e; rw [e]
      · rfl
    obtain ⟨d, hd⟩ : ∃ d, kp s = d + 1 := ⟨kp s - 1, by omega⟩
    have hdb : d ≠ b := fun e => hun s (by rw [hd, e])
    have hsd : sbet lk s d b := by
      rcases sbet_tot lk s b d with e | e | e
      · exact absurd e.symm hdb
      · exact absurd (Or.inr (by rw [hd, Nat.add_sub_cancel]; exact e)) hw
      · exact e
    refine ⟨fun c t hc => ?_, fun c t hc => ?_, fun c t hc => ?_, fun c t u hc hd => ?_, fun c t u hc hu hmu hbu => ?_, fun μ hμ c t hc hkc => ?_⟩
    · rcases (has c t).mp hc with hc | ⟨rfl, rfl⟩
      · exact h1 c t hc
      · exact ⟨hb, hs, hm⟩
    · replace hc := (hk2 t).symm.trans hc
      exact (has c t).mpr (Or.inl (h2 c t hc))
    · show ∃ d, (if t = s then _ else _) = d + 1 ∧ _
      rw [hk2]
      rcases (has c t).mp hc with hc | ⟨rfl, rfl⟩
      · exact h3 c t hc
      · exact ⟨d, hd, Or.inr hsd⟩
    · replace hc := (hk2 t).symm.trans hc
      replace hd := (hk2 u).symm.trans hd
      exact h4 c t u hc hd
    · rcases (has c t).mp hc with hc | ⟨rfl, rfl⟩
      · exact (has c u).mpr (Or.inl (h5 c t u hc hu hmu hbu))
      · exact (has c u).mpr (Or.inl (hord u hu hmu hbu))
    · have hkc := fun z => hkc ((hk2 t).trans z)
      rcases (has c t).mp hc with hc | ⟨rfl, rfl⟩
      · exact h6 μ hμ c t hc hkc
      · obtain ⟨d1, d2, d3⟩ := h1 d t (h2 d t hd)
        exact h.lose d1 hb hs d3 (fun u hu hmu hbu => h5 d t u (h2 d t hd) hu hmu hbu) (fun u hut z => hut (h4 d u t z hd)) hdb hsd μ hμ
/-- whom a box has: the first of n who keeps it, and one -/
def mk1 (kp : Nat → Nat) (b : Nat) : Nat → Nat | 0 => 0 | n + 1 => if mk1 kp b n ≠ 0 then mk1 kp b n else if kp n = b + 1 then n + 1 else 0
theorem mk1_ok (kp : Nat → Nat) (b : Nat) : ∀ n, (mk1 kp b n = 0 ∧ ∀ s, s < n → kp s ≠ b + 1) ∨ ∃ s, s < n ∧ mk1 kp b n = s + 1 ∧ kp s = b + 1
  | 0 => Or.inl ⟨rfl, fun s hs => absurd hs (Nat.not_lt_zero s)⟩
  | n + 1 => by
    unfold mk1
    rcases mk1_ok kp b n with ⟨h1, h2⟩ | ⟨s, h1, h2, h3⟩
    · rw [if_neg (fun z => z h1)]
      by_cases e : kp n = b + 1
      · rw [if_pos e]; exact Or.inr ⟨n, by omega, rfl, e⟩
      · rw [if_neg e]
        exact Or.inl ⟨rfl, fun s hs => if z : s = n then by rw [z]; exact e else h2 s (by omega)⟩
    · rw [if_pos (by omega)]; exact Or.inr ⟨s, by omega, h2, h3⟩
theorem Ask.fin (h : Ask nb ns may as dif lk kp) (hn : ns ≤ 6) (hend : ∀ b, b < nb → (∀ s, s < 6 → kp s ≠ b + 1) → ∀ s, s < ns → may b s = true → as b s = true) : BestM nb ns may dif lk (fun b => mk1 kp b 6) := by
  obtain ⟨h1, h2, h3, h4, h5, h6⟩ := id h
  have key : ∀ b s, mk1 kp b 6 = s + 1 ↔ kp s = b + 1 := fun b s => by
    constructor
    · intro e
      rcases mk1_ok kp b 6 with ⟨z, -⟩ | ⟨t, -, z1, z2⟩
      · omega
      · rw [show s = t by omega]; exact z2
    · intro e
      have hs6 := (h1 b s (h2 b s e)).2.1
      rcases mk1_ok kp b 6 with ⟨-, z⟩ | ⟨t, -, z1, z2⟩
      · exact absurd e (z s (by omega))
      · rw [h4 b s t e z2]; exact z1
  have key0 : ∀ b, mk1 kp b 6 = 0 → ∀ s, s < 6 → kp s ≠ b + 1 := fun b e s hs z => by
    rw [(key b s).mpr z] at e; omega
  refine ⟨⟨fun b hb s hM => ?_, fun b c hb hc hne he => ?_, fun b s hb hs hm hp => ?_⟩, fun μ hμ b hb s hs => ?_⟩
  · have := h1 b s (h2 b s ((key b s).mp hM))
    exact ⟨this.2.1, this.2.2⟩
  · obtain ⟨t, ht⟩ : ∃ t, mk1 kp b 6 = t + 1 := ⟨mk1 kp b 6 - 1, by have : mk1 kp b 6 ≠ 0 := hne; omega⟩
    have e1 := (key b t).mp ht
    have e2 := (key c t).mp (by have he : mk1 kp b 6 = mk1 kp c 6 := he; rw [← he]; exact ht)
    omega
  · have hp : mk1 kp b 6 = 0 ∨ bbet dif b s (mk1 kp b 6 - 1) := hp
    have ha : as b s = true ∧ kp s ≠ b + 1 := by
      rcases hp with hp | hp
      · exact ⟨hend b hb (key0 b hp) s hs hm, key0 b hp s (by omega)⟩
      · rcases hz : mk1 kp b 6 with _ | t
        · exact ⟨hend b hb (key0 b hz) s hs hm, key0 b hz s (by omega)⟩
        · rw [hz, Nat.add_sub_cancel] at hp
          have ht := (key b t).mp hz
          exact ⟨h5 b t s (h2 b t ht) hs hm hp, fun z => by rw [h4 b s t z ht] at hp; exact bbet_ir hp⟩
    obtain ⟨c, hc, hc2⟩ := h3 b s ha.1
    have hcb : c ≠ b := fun z => ha.2 (by rw [hc, z])
    rcases hc2 with e | e
    · exact absurd e hcb
    · exact ⟨c, (h1 c s (h2 c s hc)).1, (key c s).mpr hc, e⟩
  · obtain ⟨hsn, hms⟩ := hμ.1 b hb s hs
    cases ha : as b s with
    | true =>
      refine ⟨s, (key b s).mpr ?_, Or.inl rfl⟩
      refine Classical.byContradiction fun z => h6 μ hμ b s ha z hs
    | false =>
      rcases hz : mk1 kp b 6 with _ | t
      · rw [hend b hb (key0 b hz) s hsn hms] at ha; exact absurd ha (by decide)
      · have ht := (key b t).mp hz
        refine ⟨t, hz, ?_⟩
        rcases bbet_tot dif b t s with e | e | e
        · exact Or.inl e
        · exact Or.inr e
        · rw [h5 b t s (h2 b t ht) hsn hms e] at ha; exact absurd ha (by decide)
end SA
