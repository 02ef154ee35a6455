/-! MATCHES NONE WOULD LEAVE: b prefers by difference, then number; s by liking, then number. M b: the suitor and one; 0 for none -/
def bbet (dif : Nat → Nat → Nat) (b s t : Nat) : Prop := dif b s < dif b t ∨ (dif b s = dif b t ∧ s < t)
def sbet (lk : Nat → Nat → Nat) (s b c : Nat) : Prop := lk c s < lk b s ∨ (lk b s = lk c s ∧ b < c)
theorem sbet.tr {lk : Nat → Nat → Nat} {s b c d : Nat} (h1 : sbet lk s b c) (h2 : sbet lk s c d) : sbet lk s b d := by unfold sbet at *; omega
def Stab (nb ns : Nat) (may : Nat → Nat → Bool) (dif lk : Nat → Nat → Nat) (M : Nat → Nat) : Prop := (∀ b, b < nb → ∀ s, M b = s + 1 → s < ns ∧ may b s = true) ∧ (∀ b c, b < nb → c < nb → M b ≠ 0 → M b = M c → b = c) ∧ (∀ b s, b < nb → s < ns → may b s = true → (M b = 0 ∨ bbet dif b s (M b - 1)) → ∃ c, c < nb ∧ M c = s + 1 ∧ sbet lk s c b)
def BestM (nb ns : Nat) (may : Nat → Nat → Bool) (dif lk : Nat → Nat → Nat) (M : Nat → Nat) : Prop := Stab nb ns may dif lk M ∧ ∀ μ, Stab nb ns may dif lk μ → ∀ b, b < nb → ∀ s, μ b = s + 1 → ∃ t, M b = t + 1 ∧ (t = s ∨ bbet dif b t s)
theorem BestM.uni {nb ns : Nat} {may : Nat → Nat → Bool} {dif lk : Nat → Nat → Nat} {M N : Nat → Nat} (h : BestM nb ns may dif lk M) (g : BestM nb ns may dif lk N) : ∀ b, b < nb → M b = N b := by
  intro b hb
  cases hm : M b with
  | zero =>
    cases hn : N b with
    | zero => rfl
    | succ t =>
      obtain ⟨u, hu, -⟩ := h.2 N g.1 b hb t hn
      omega
  | succ s =>
    obtain ⟨t, ht, h1⟩ := g.2 M h.1 b hb s hm
    obtain ⟨u, hu, h2⟩ := h.2 N g.1 b hb t ht
    have e : u = s := by omega
    subst e
    unfold bbet at h1 h2
    omega
section MT
variable {nb ns : Nat} {may rf : Nat → Nat → Bool} {dif lk : Nat → Nat → Nat} {M : Nat → Nat}
/-- the nearest of the first n that has not refused -/
def nst (rf : Nat → Nat → Bool) (dif : Nat → Nat → Nat) (b : Nat) : Nat → Nat | 0 => 0 | n + 1 => if rf b n = false ∧ (nst rf dif b n = 0 ∨ dif b n < dif b (nst rf dif b n - 1)) then n + 1 else nst rf dif b n
/-- whom of the first n boxes that ask it s likes best -/
def kpt (M : Nat → Nat) (lk : Nat → Nat → Nat) (s : Nat) : Nat → Nat | 0 => 0 | n + 1 => if M n = s + 1 ∧ (kpt M lk s n = 0 ∨ lk (kpt M lk s n - 1) s < lk n s) then n + 1 else kpt M lk s n
theorem nst_ok (rf : Nat → Nat → Bool) (dif : Nat → Nat → Nat) (b : Nat) : ∀ n, (nst rf dif b n = 0 ∧ ∀ s, s < n → rf b s = true) ∨ (∃ s, s < n ∧ nst rf dif b n = s + 1 ∧ rf b s = false ∧ ∀ t, t < n → rf b t = false → t = s ∨ bbet dif b s t)
  | 0 => Or.inl ⟨rfl, fun s hs => absurd hs (Nat.not_lt_zero s)⟩
  | n + 1 => by
    have ih := nst_ok rf dif b n
    unfold nst
    split
    · rename_i c
      refine Or.inr ⟨n, by omega, rfl, c.1, fun t ht hr => ?_⟩
      by_cases e : t = n
      · exact Or.inl e
      · right
        rcases ih with ⟨_, h2⟩ | ⟨s, h1, h2, h3, h4⟩
        · rw [h2 t (by omega)] at hr; exact absurd hr (by decide)
        · have h5 := h4 t (by omega) hr
          have h6 := c.2
          rw [h2] at h6
          unfold bbet at *
          rcases h5 with rfl | h5
          · left; simp at h6; omega
          · simp at h6; left; omega
    · rename_i c
      rcases ih with ⟨h1, h2⟩ | ⟨s, h1, h2, h3, h4⟩
      · left
        refine ⟨h1, fun t ht => ?_⟩
        by_cases e : t = n
        · subst e
          cases hr : rf b t with
          | true => rfl
          | false => exact absurd ⟨hr, Or.inl h1⟩ c
        · exact h2 t (by omega)
      · right
        refine ⟨s, by omega, h2, h3, fun t ht hr => ?_⟩
        by_cases e : t = n
        · subst e
          right
          have h6 : ¬ (dif b t < dif b s) := fun z => c ⟨hr, Or.inr (by rw [h2]; simpa using z)⟩
          unfold bbet
          omega
        · exact h4 t (by omega) hr
theorem kpt_ok (M : Nat → Nat) (lk : Nat → Nat → Nat) (s : Nat) : ∀ n, (kpt M lk s n = 0 ∧ ∀ b, b < n → M b ≠ s + 1) ∨ (∃ b, b < n ∧ kpt M lk s n = b + 1 ∧ M b = s + 1 ∧ ∀ c, c < n → M c = s + 1 → c = b ∨ sbet lk s b c)
  | 0 => Or.inl ⟨rfl, fun s hs => absurd hs (Nat.not_lt_zero s)⟩
  | n + 1 => by
    have ih := kpt_ok M lk s n
    unfold kpt
    split
    · rename_i c
      refine Or.inr ⟨n, by omega, rfl, c.1, fun t ht hr => ?_⟩
      by_cases e : t = n
      · exact Or.inl e
      · right
        rcases ih with ⟨_, h2⟩ | ⟨b, h1, h2, h3, h4⟩
        · exact absurd hr (h2 t (by omega))
        · have h5 := h4 t (by omega) hr
          have h6 := c.2
          rw [h2] at h6
          unfold sbet at *
          rcases h5 with rfl | h5
          · left; simp at h6; omega
          · simp at h6; left; omega
    · rename_i c
      rcases ih with ⟨h1, h2⟩ | ⟨b, h1, h2, h3, h4⟩
      · left
        refine ⟨h1, fun t ht => ?_⟩
        by_cases e : t = n
        · subst e
          exact fun z => c ⟨z, Or.inl h1⟩
        · exact h2 t (by omega)
      · right
        refine ⟨b, by omega, h2, h3, fun t ht hr => ?_⟩
        by_cases e : t = n
        · subst e
          right
          have h6 : ¬ (lk b s < lk t s) := fun z => c ⟨hr, Or.inr (by rw [h2]; simpa using z)⟩
          unfold sbet
          omega
        · exact h4 t (by omega) hr
/-- what holds of the refusals: only such as can be matched are not refused; no match none would leave has a refused pair; who is refused is refused for one that is liked better -/
def Rinv (nb ns : Nat) (may rf : Nat → Nat → Bool) (dif lk : Nat → Nat → Nat) : Prop := (∀ b s, b < nb → s < ns → rf b s = false → may b s = true) ∧ (∀ μ, Stab nb ns may dif lk μ → ∀ b s, b < nb → s < ns → rf b s = true → μ b ≠ s + 1) ∧ (∀ b s, b < nb → s < ns → may b s = true → rf b s = true → ∃ c, c < nb ∧ nst rf dif c ns = s + 1 ∧ sbet lk s c b)
def rnd (nb ns : Nat) (rf : Nat → Nat → Bool) (dif lk : Nat → Nat → Nat) : Nat → Nat → Bool := fun b s => rf b s || decide (nst rf dif b ns = s + 1 ∧ kpt (fun c => nst rf dif c ns) lk s nb ≠ b + 1)
theorem nst_row {rf rf' : Nat → Nat → Bool} {b : Nat} (h : ∀ s, s < ns → rf' b s = rf b s) : ∀ n, n ≤ ns → nst rf' dif b n = nst rf dif b n
  | 0, _ => rfl
  | n + 1, hn => by
    unfold nst
    rw [nst_row h n (by omega), h n (by omega)]
theorem Rinv.round (h : Rinv nb ns may rf dif lk) : Rinv nb ns may (rnd nb ns rf dif lk) dif lk := by
  obtain ⟨h1, h2, h3⟩ := h
  have hkeep : ∀ c s, c < nb → nst rf dif c ns = s + 1 → kpt (fun c => nst rf dif c ns) lk s nb = c + 1 → nst (rnd nb ns rf dif lk) dif c ns = s + 1 := by
    intro c s hc hs hk
    rw [nst_row (rf := rf) (ns := ns) (fun t _ => ?_) ns (Nat.le_refl _)]
    · exact hs
    · show (rf c t || decide (nst rf dif c ns = t + 1 ∧ kpt (fun c => nst rf dif c ns) lk t nb ≠ c + 1)) = rf c t
      rw [decide_eq_false (fun z => ?_), Bool.or_false]
      have e : t = s := by have := z.1; omega
      subst e
      exact z.2 hk
  refine ⟨fun b s hb hs hr => h1 b s hb hs (Bool.or_eq_false_iff.mp hr).1, ?_, ?_⟩
  · intro μ hμ b s hb hs hr hm
    rcases Bool.or_eq_true_iff.mp hr with z | z
    · exact h2 μ hμ b s hb hs z hm
    · obtain ⟨z1, z2⟩ := of_decide_eq_true z
      rcases kpt_ok (fun c => nst rf dif c ns) lk s nb with ⟨_, k2⟩ | ⟨c, k1, k2, k3, k4⟩
      · exact k2 b hb z1
      · have hcb : c ≠ b := fun e => z2 (by rw [k2, e])
        have hsb : sbet lk s c b := (k4 b hb z1).resolve_left (fun e => hcb e.symm)
        have k3' : nst rf dif c ns = s + 1 := k3
        rcases nst_ok rf dif c ns with ⟨n1, _⟩ | ⟨t, n1, n2, n3, n4⟩
        · omega
        · have e : t = s := by omega
          subst e
          have hmay := h1 c t k1 hs n3
          have hpref : μ c = 0 ∨ bbet dif c t (μ c - 1) := by
            cases hc : μ c with
            | zero => exact Or.inl rfl
            | succ u =>
              right
              have hu := hμ.1 c k1 u hc
              have hru : rf c u = false := by
                cases hru : rf c u with
                | false => rfl
                | true => exact absurd hc (h2 μ hμ c u k1 hu.1 hru)
              rcases n4 u hu.1 hru with e | e
              · subst e
                exact absurd (hμ.2.1 c b k1 hb (by omega) (by omega)) hcb
              · simpa using e
          obtain ⟨d, d1, d2, d3⟩ := hμ.2.2 c t k1 hs hmay hpref
          have e : d = b := hμ.2.1 d b d1 hb (by omega) (by omega)
          subst e
          unfold sbet at hsb d3
          omega
  · intro b s hb hs hm hr
    have new : ∀ c, c < nb → nst rf dif c ns = s + 1 → ∃ d, d < nb ∧ nst (rnd nb ns rf dif lk) dif d ns = s + 1 ∧ (d = c ∨ sbet lk s d c) := by
      intro c hc hn
      rcases kpt_ok (fun c => nst rf dif c ns) lk s nb with ⟨_, k2⟩ | ⟨d, k1, k2, k3, k4⟩
      · exact absurd hn (k2 c hc)
      · refine ⟨d, k1, hkeep d s k1 k3 k2, ?_⟩
        rcases k4 c hc hn with e | e
        · exact Or.inl e.symm
        · exact Or.inr e
    rcases Bool.or_eq_true_iff.mp hr with z | z
    · obtain ⟨c, c1, c2, c3⟩ := h3 b s hb hs hm z
      obtain ⟨d, d1, d2, d3⟩ := new c c1 c2
      refine ⟨d, d1, d2, ?_⟩
      rcases d3 with e | e
      · rw [e]; exact c3
      · exact e.tr c3
    · obtain ⟨z1, z2⟩ := of_decide_eq_true z
      obtain ⟨d, d1, d2, d3⟩ := new b hb z1
      refine ⟨d, d1, d2, ?_⟩
      rcases d3 with e | e
      · subst e
        exfalso
        have hr2 : rnd nb ns rf dif lk d s = true := hr
        rcases nst_ok (rnd nb ns rf dif lk) dif d ns with ⟨n1, _⟩ | ⟨t, n1, n2, n3, n4⟩
        · omega
        · have e : t = s := by omega
          subst e
          rw [hr2] at n3
          exact absurd n3 (by decide)
      · exact e
theorem Rinv.done (h : Rinv nb ns may rf dif lk) (hd : ∀ b s, b < nb → nst rf dif b ns = s + 1 → kpt (fun c => nst rf dif c ns) lk s nb = b + 1) : BestM nb ns may dif lk (fun b => nst rf dif b ns) := by
  obtain ⟨h1, h2, h3⟩ := h
  have hs : ∀ b, b < nb → ∀ s, nst rf dif b ns = s + 1 → s < ns ∧ rf b s = false := by
    intro b hb s e
    rcases nst_ok rf dif b ns with ⟨n1, _⟩ | ⟨t, n1, n2, n3, n4⟩
    · omega
    · have e2 : t = s := by omega
      subst e2
      exact ⟨n1, n3⟩
  refine ⟨⟨fun b hb s e => ?_, fun b c hb hc h0 e => ?_, fun b s hb hs2 hm hp => ?_⟩, fun μ hμ b hb s e => ?_⟩
  · exact ⟨(hs b hb s e).1, h1 b s hb (hs b hb s e).1 (hs b hb s e).2⟩
  · have e' : nst rf dif b ns = nst rf dif c ns := e
    obtain ⟨s, es⟩ := Nat.exists_eq_succ_of_ne_zero h0
    have k1 := hd b s hb es
    have k2 := hd c s hc (e'.symm.trans es)
    omega
  · cases hr : rf b s with
    | true => exact h3 b s hb hs2 hm hr
    | false =>
      rcases nst_ok rf dif b ns with ⟨n1, n2⟩ | ⟨t, n1, n2, n3, n4⟩
      · rw [n2 s hs2] at hr; exact absurd hr (by decide)
      · have hp' : nst rf dif b ns = 0 ∨ bbet dif b s (nst rf dif b ns - 1) := hp
        rw [n2] at hp'
        simp at hp'
        rcases n4 s hs2 hr with e | e
        · subst e; unfold bbet at hp'; omega
        · unfold bbet at hp' e; omega
  · have hu := hμ.1 b hb s e
    have hru : rf b s = false := by
      cases hru : rf b s with
      | false => rfl
      | true => exact absurd e (h2 μ hμ b s hb hu.1 hru)
    rcases nst_ok rf dif b ns with ⟨_, n2⟩ | ⟨t, n1, n2, n3, n4⟩
    · rw [n2 s hu.1] at hru; exact absurd hru (by decide)
    · refine ⟨t, n2, ?_⟩
      rcases n4 s hu.1 hru with e | e
      · exact Or.inl e.symm
      · exact Or.inr e
theorem Rinv.start : Rinv nb ns may (fun b s => !may b s) dif lk := ⟨fun b s _ _ h => by simpa using h, fun μ hμ b s hb hs h e => by have := (hμ.1 b hb s e).2; simp [this] at h, fun b s _ _ h h2 => by simp [h] at h2⟩
end MT
