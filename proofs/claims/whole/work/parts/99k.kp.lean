/-! KEEPING A RULE with fewer sets: teeth that no bar has only make a tune dearer -/
theorem sm_pt {f g : Nat → Nat} : ∀ n, (∀ k, k < n → f k ≤ g k) → sm g n ≤ sm f n → ∀ k, k < n → f k = g k := by
  intro n
  induction n with
  | zero => intro _ _ k hk; omega
  | succ n ih =>
    intro h1 h2 k hk
    have h3 := sm_mono (f := f) (g := g) (n := n) (fun k hk => h1 k (by omega))
    have h4 := h1 n (by omega)
    rw [sm, sm] at h2
    by_cases e : k = n
    · subst e; omega
    · exact ih (fun k hk => h1 k (by omega)) (by omega) k (by omega)
theorem bit_hi {a i : Nat} (h : a < 256) (hi : 8 ≤ i) : a.testBit i = false := Nat.testBit_lt_two_pow (Nat.lt_of_lt_of_le h (show 2 ^ 8 ≤ 2 ^ i from Nat.pow_le_pow_right (by decide) hi))
theorem eq_bits {a b : Nat} (ha : a < 256) (hb : b < 256) (h : ∀ t, t < 8 → a / 2 ^ t % 2 = b / 2 ^ t % 2) : a = b := by
  apply Nat.eq_of_testBit_eq
  intro i
  by_cases hi : i < 8
  · have := h i hi
    rw [bit_N, bit_N] at this
    cases h1 : a.testBit i <;> cases h2 : b.testBit i <;> rw [h1, h2] at this <;> first | rfl | (cases this)
  · rw [bit_hi ha (by omega), bit_hi hb (by omega)]
theorem pop_and (a c : Nat) : pop8 (a &&& c) ≤ pop8 a := by
  rw [← pop8_sm, ← pop8_sm]
  refine sm_mono fun t _ => ?_
  show (a &&& c) / 2 ^ t % 2 ≤ a / 2 ^ t % 2
  rw [and_bitN]
  rcases Nat.mod_two_eq_zero_or_one (c / 2 ^ t) with z | z
  · rw [z]; omega
  · rw [z]; omega
theorem pop_and_lt {a c : Nat} (ha : a < 256) (h : a &&& c ≠ a) : pop8 (a &&& c) < pop8 a := by
  refine Nat.lt_of_le_of_ne (pop_and a c) (fun e => h ?_)
  refine eq_bits (Nat.lt_of_le_of_lt Nat.and_le_left ha) ha ?_
  refine sm_pt (f := fun t => (a &&& c) / 2 ^ t % 2) (g := fun t => a / 2 ^ t % 2) 8 (fun t _ => ?_) (by rw [pop8_sm, pop8_sm, e]; exact Nat.le_refl _)
  show (a &&& c) / 2 ^ t % 2 ≤ a / 2 ^ t % 2
  rw [and_bitN]
  rcases Nat.mod_two_eq_zero_or_one (c / 2 ^ t) with z | z
  · rw [z]; omega
  · rw [z]; omega
theorem pop_eq_sub {s p : Nat} (hs : s < 256) (h : s &&& p = p) (e : pop8 s ≤ pop8 p) : s = p := by
  refine Classical.byContradiction fun hne => ?_
  have h1 := pop_and_lt (c := p) hs (fun z => hne (z.symm.trans h))
  rw [h] at h1
  omega
theorem xor_and (a b c : Nat) : (a &&& c) ^^^ (b &&& c) = (a ^^^ b) &&& c := by
  apply Nat.eq_of_testBit_eq
  intro i
  rw [Nat.testBit_xor, Nat.testBit_and, Nat.testBit_and, Nat.testBit_and, Nat.testBit_xor]
  cases a.testBit i <;> cases b.testBit i <;> cases c.testBit i <;> rfl
theorem pop_xor_and (a b c : Nat) : pop8 ((a &&& c) ^^^ (b &&& c)) ≤ pop8 (a ^^^ b) := by rw [xor_and]; exact pop_and _ _
theorem sub_and {s p al : Nat} (h : s &&& p = p) (hp : p &&& al = p) : (s &&& al) &&& p = p := by
  rw [Nat.and_assoc, Nat.and_comm al p, hp, h]
theorem and_idem2 (s al : Nat) : (s &&& al) &&& al = s &&& al := by rw [Nat.and_assoc, Nat.and_self]
theorem and256 {a c : Nat} (h : a < 256) : a &&& c < 256 := Nat.lt_of_le_of_lt Nat.and_le_left h
section KP
variable {p : Nat → Nat} {al d : Nat}
theorem mor_0 (p : Nat → Nat) (d s : Nat) : mor p d 0 s = if s &&& p 7 = p 7 then pop8 s - pop8 (p 7) else FARN := rfl
theorem mor_s (p : Nat → Nat) (d m s : Nat) : mor p d (m + 1) s = if s &&& p (6 - m) = p (6 - m) then pop8 s - pop8 (p (6 - m)) + lnx d (mor p d m) s 256 else FARN := rfl
theorem mor_fin : ∀ m s, mor p d m s < FARN → mor p d m s ≤ 8 * (m + 1)
  | 0, s, h => by
    have := pop8_le s
    rw [mor_0] at h ⊢
    split
    · omega
    · rename_i c; rw [if_neg c] at h; omega
  | m + 1, s, h => by
    have h1 := pop8_le s
    rw [mor_s] at h ⊢
    split
    · rename_i c
      rw [if_pos c] at h
      obtain ⟨u, hu, -, e⟩ := lnx_at (show lnx d (mor p d m) s 256 < FARN by omega)
      have := mor_fin m u (by omega)
      omega
    · rename_i c; rw [if_neg c] at h; omega
theorem mor_and (hp : ∀ j, j < 8 → p j &&& al = p j) : ∀ m, m < 8 → ∀ s, s < 256 → mor p d m s < FARN → mor p d m (s &&& al) ≤ mor p d m s ∧ (s &&& al ≠ s → mor p d m (s &&& al) < mor p d m s)
  | 0, _, s, hs, h => by
    rw [mor_0] at h ⊢
    have hc : s &&& p 7 = p 7 := Classical.byContradiction fun z => by rw [if_neg z] at h; omega
    have hc2 := sub_and hc (hp 7 (by omega))
    rw [mor_0, if_pos hc, if_pos hc2]
    have h1 := pop_and s al
    have h2 := pop_sub hc2
    refine ⟨by omega, fun hne => ?_⟩
    have h3 := pop_and_lt hs hne
    omega
  | m + 1, hm, s, hs, h => by
    rw [mor_s] at h ⊢
    have hc : s &&& p (6 - m) = p (6 - m) := Classical.byContradiction fun z => by rw [if_neg z] at h; omega
    have hc2 := sub_and hc (hp (6 - m) (by omega))
    rw [if_pos hc] at h
    rw [mor_s, if_pos hc, if_pos hc2]
    obtain ⟨u, hu, hd, e⟩ := lnx_at (show lnx d (mor p d m) s 256 < FARN by omega)
    have ih := (mor_and hp m (by omega) u hu (by omega)).1
    have h4 := lnx_min (d := d) (f := mor p d m) (s := s &&& al) (n := 256) (u := u &&& al) (and256 hu) (Nat.le_trans (pop_xor_and s u al) hd)
    have h1 := pop_and s al
    have h2 := pop_sub hc2
    refine ⟨by omega, fun hne => ?_⟩
    have h3 := pop_and_lt hs hne
    omega
/-- widening: the least of itself and of all that differ in one tooth -/
def wm1 (g : Nat → Nat) (s : Nat) : Nat → Nat | 0 => g s | t + 1 => min (wm1 g s t) (g (s ^^^ 2 ^ t))
def wd1 (al : Nat) (g : Nat → Nat) : Nat → Nat := fun s => if s &&& al = s then wm1 g s 8 else 1000
def wdn (al : Nat) (f : Nat → Nat) : Nat → Nat → Nat | 0 => f | k + 1 => wd1 al (wdn al f k)
theorem wm1_le (g : Nat → Nat) (s : Nat) : ∀ n, wm1 g s n ≤ g s ∧ ∀ t, t < n → wm1 g s n ≤ g (s ^^^ 2 ^ t)
  | 0 => ⟨Nat.le_refl _, fun t ht => absurd ht (Nat.not_lt_zero t)⟩
  | n + 1 => by
    obtain ⟨h1, h2⟩ := wm1_le g s n
    unfold wm1
    refine ⟨by omega, fun t ht => ?_⟩
    by_cases e : t = n
    · subst e; omega
    · have := h2 t (by omega); omega
theorem wm1_at (g : Nat → Nat) (s : Nat) : ∀ n, wm1 g s n = g s ∨ ∃ t, t < n ∧ wm1 g s n = g (s ^^^ 2 ^ t)
  | 0 => Or.inl rfl
  | n + 1 => by
    unfold wm1
    rcases Nat.le_total (wm1 g s n) (g (s ^^^ 2 ^ n)) with z | z
    · rw [Nat.min_eq_left z]
      rcases wm1_at g s n with e | ⟨t, ht, e⟩
      · exact Or.inl e
      · exact Or.inr ⟨t, by omega, e⟩
    · rw [Nat.min_eq_right z]; exact Or.inr ⟨n, by omega, rfl⟩
theorem pow_256 {t : Nat} (ht : t < 8) : 2 ^ t < 256 := Nat.pow_lt_pow_right (show 1 < 2 by omega) (show t < 8 from ht)
theorem flip_bit (s t i : Nat) : (s ^^^ 2 ^ t) / 2 ^ i % 2 = if i = t then 1 - s / 2 ^ i % 2 else s / 2 ^ i % 2 := by
  rw [bit_N, bit_N, Nat.testBit_xor, Nat.testBit_two_pow]
  by_cases e : i = t
  · rw [if_pos e, decide_eq_true e.symm]
    cases s.testBit i <;> rfl
  · rw [if_neg e, decide_eq_false (fun z => e z.symm)]
    cases s.testBit i <;> rfl
theorem xor_bit (s u i : Nat) : (s ^^^ u) / 2 ^ i % 2 = if s / 2 ^ i % 2 = u / 2 ^ i % 2 then 0 else 1 := by
  rw [bit_N, bit_N, bit_N, Nat.testBit_xor]
  cases s.testBit i <;> cases u.testBit i <;> rfl
/-- one tooth less apart -/
theorem ham_flip {s u t : Nat} (ht : t < 8) (h : s / 2 ^ t % 2 ≠ u / 2 ^ t % 2) : pop8 ((s ^^^ 2 ^ t) ^^^ u) + 1 = pop8 (s ^^^ u) := by
  rw [← pop8_sm, ← pop8_sm, ← sm_one (p0 := t) 8 ht, sm_addC]
  refine sm_cong fun i hi => ?_
  show ((s ^^^ 2 ^ t) ^^^ u) / 2 ^ i % 2 + (if i = t then 1 else 0) = (s ^^^ u) / 2 ^ i % 2
  rw [xor_bit (s ^^^ 2 ^ t) u, xor_bit s u, flip_bit]
  by_cases e : i = t
  · subst e
    have h1 := Nat.mod_two_eq_zero_or_one (s / 2 ^ i)
    have h2 := Nat.mod_two_eq_zero_or_one (u / 2 ^ i)
    rw [if_pos rfl, if_pos rfl, if_neg h, if_pos (by omega)]
  · rw [if_neg e, if_neg e, Nat.add_zero]
theorem ham_one {s u t : Nat} : pop8 (s ^^^ u) ≤ pop8 ((s ^^^ 2 ^ t) ^^^ u) + 1 := by
  by_cases ht : t < 8
  · by_cases h : s / 2 ^ t % 2 = u / 2 ^ t % 2
    · have h1 : (s ^^^ 2 ^ t) / 2 ^ t % 2 ≠ u / 2 ^ t % 2 := by rw [flip_bit, if_pos rfl]; omega
      have h2 := ham_flip ht h1
      rw [Nat.xor_assoc s (2 ^ t) (2 ^ t), Nat.xor_self, Nat.xor_zero] at h2
      omega
    · have := ham_flip ht h; omega
  · have e : pop8 ((s ^^^ 2 ^ t) ^^^ u) = pop8 (s ^^^ u) := by
      rw [← pop8_sm, ← pop8_sm]
      refine sm_cong fun i hi => ?_
      rw [xor_bit (s ^^^ 2 ^ t) u, xor_bit s u, flip_bit, if_neg (show ¬ i = t by omega)]
    omega
theorem ham_pos {s u : Nat} (hs : s < 256) (hu : u < 256) (h : s ≠ u) : ∃ t, t < 8 ∧ s / 2 ^ t % 2 ≠ u / 2 ^ t % 2 := by
  refine Classical.byContradiction fun z => h (eq_bits hs hu fun t ht => ?_)
  exact Classical.byContradiction fun y => z ⟨t, ht, y⟩
theorem sub_bit {s al : Nat} (h : s &&& al = s) (t : Nat) (h1 : s / 2 ^ t % 2 = 1) : al / 2 ^ t % 2 = 1 := by
  have := and_bitN s al t
  rw [h, h1] at this
  omega
theorem sub_of_bit {s al : Nat} (hs : s < 256) (h : ∀ t, t < 8 → s / 2 ^ t % 2 = 1 → al / 2 ^ t % 2 = 1) : s &&& al = s := by
  refine eq_bits (and256 hs) hs fun t ht => ?_
  rw [and_bitN]
  rcases Nat.mod_two_eq_zero_or_one (s / 2 ^ t) with z | z
  · rw [z]; omega
  · rw [z, h t ht z]
theorem flip_sub {s u al t : Nat} (hs : s < 256) (ht : t < 8) (h1 : s &&& al = s) (h2 : u &&& al = u) (h : s / 2 ^ t % 2 ≠ u / 2 ^ t % 2) : (s ^^^ 2 ^ t) &&& al = s ^^^ 2 ^ t := by
  refine sub_of_bit (xor256 hs (pow_256 ht)) fun i hi hb => ?_
  rw [flip_bit] at hb
  by_cases e : i = t
  · subst e
    rw [if_pos rfl] at hb
    exact sub_bit h2 i (by omega)
  · rw [if_neg e] at hb; exact sub_bit h1 i hb
theorem wdn_le {f : Nat → Nat} : ∀ k s, s < 256 → s &&& al = s → ∀ u, u < 256 → u &&& al = u → pop8 (s ^^^ u) ≤ k → wdn al f k s ≤ f u
  | 0, s, hs, h1, u, hu, h2, hd => by
    have e : s = u := Classical.byContradiction fun z => by
      obtain ⟨t, ht, hb⟩ := ham_pos hs hu z
      have := ham_flip ht hb
      omega
    rw [e]; exact Nat.le_refl _
  | k + 1, s, hs, h1, u, hu, h2, hd => by
    show wd1 al (wdn al f k) s ≤ f u
    unfold wd1
    rw [if_pos h1]
    obtain ⟨a1, a2⟩ := wm1_le (wdn al f k) s 8
    by_cases hk : pop8 (s ^^^ u) ≤ k
    · exact Nat.le_trans a1 (wdn_le k s hs h1 u hu h2 hk)
    · have hne : s ≠ u := fun z => by rw [z, Nat.xor_self] at hk; exact hk (Nat.zero_le k)
      obtain ⟨t, ht, hb⟩ := ham_pos hs hu hne
      have h3 := ham_flip ht hb
      exact Nat.le_trans (a2 t ht) (wdn_le k _ (xor256 hs (pow_256 ht)) (flip_sub hs ht h1 h2 hb) u hu h2 (by omega))
theorem wdn_at {f : Nat → Nat} (hf : ∀ v, v < 256 → v &&& al ≠ v → f v = 1000) : ∀ k s, s < 256 → wdn al f k s < 1000 → s &&& al = s ∧ ∃ u, u < 256 ∧ u &&& al = u ∧ pop8 (s ^^^ u) ≤ k ∧ f u = wdn al f k s
  | 0, s, hs, h => by
    have h : f s < 1000 := h
    have h1 : s &&& al = s := Classical.byContradiction fun z => by rw [hf s hs z] at h; omega
    exact ⟨h1, s, hs, h1, by rw [Nat.xor_self]; exact Nat.le_refl _, rfl⟩
  | k + 1, s, hs, h => by
    have h : wd1 al (wdn al f k) s < 1000 := h
    show s &&& al = s ∧ ∃ u, u < 256 ∧ u &&& al = u ∧ pop8 (s ^^^ u) ≤ k + 1 ∧ f u = wd1 al (wdn al f k) s
    unfold wd1 at h ⊢
    by_cases h1 : s &&& al = s
    · rw [if_pos h1] at h ⊢
      refine ⟨h1, ?_⟩
      rcases wm1_at (wdn al f k) s 8 with e | ⟨t, ht, e⟩
      · rw [e] at h ⊢
        obtain ⟨-, u, a1, a2, a3, a4⟩ := wdn_at hf k s hs h
        exact ⟨u, a1, a2, by omega, a4⟩
      · rw [e] at h ⊢
        obtain ⟨-, u, a1, a2, a3, a4⟩ := wdn_at hf k _ (xor256 hs (pow_256 ht)) h
        exact ⟨u, a1, a2, by have := ham_one (s := s) (u := u) (t := t); omega, a4⟩
    · rw [if_neg h1] at h; omega
/-- the class's weights -/
def mrc (p : Nat → Nat) (al d : Nat) : Nat → Nat → Nat
  | 0 => fun s => if s &&& p 7 = p 7 ∧ s &&& al = s then pop8 (andn s (p 7)) + 0 else 1000
  | m + 1 => fun s => if s &&& p (6 - m) = p (6 - m) ∧ s &&& al = s then pop8 (andn s (p (6 - m))) + wdn al (mrc p al d m) d s else 1000
theorem mrc_0 (p : Nat → Nat) (al d s : Nat) : mrc p al d 0 s = if s &&& p 7 = p 7 ∧ s &&& al = s then pop8 (andn s (p 7)) + 0 else 1000 := rfl
theorem mrc_s (p : Nat → Nat) (al d m s : Nat) : mrc p al d (m + 1) s = if s &&& p (6 - m) = p (6 - m) ∧ s &&& al = s then pop8 (andn s (p (6 - m))) + wdn al (mrc p al d m) d s else 1000 := rfl
theorem pop_andn {s p : Nat} (h : s &&& p = p) : pop8 (andn s p) = pop8 s - pop8 p := by
  have e : pop8 (andn s p) + pop8 (s &&& p) = pop8 s := by
    rw [← pop8_sm, ← pop8_sm, ← pop8_sm, sm_addC]
    refine sm_cong fun t ht => ?_
    show andn s p / 2 ^ t % 2 + (s &&& p) / 2 ^ t % 2 = s / 2 ^ t % 2
    unfold andn
    rw [and_bitN, and_bitN, xor_bit, show 255 / 2 ^ t % 2 = 1 from by
      rcases (by omega : t = 0 ∨ t = 1 ∨ t = 2 ∨ t = 3 ∨ t = 4 ∨ t = 5 ∨ t = 6 ∨ t = 7) with rfl | rfl | rfl | rfl | rfl | rfl | rfl | rfl <;> rfl]
    rcases Nat.mod_two_eq_zero_or_one (s / 2 ^ t) with z | z <;> rcases Nat.mod_two_eq_zero_or_one (p / 2 ^ t) with y | y <;> rw [z, y] <;> rfl
  rw [h] at e
  omega
theorem mrc_far : ∀ m s, s &&& al ≠ s → mrc p al d m s = 1000
  | 0, s, h => by rw [mrc_0, if_neg (fun z => h z.2)]
  | m + 1, s, h => by rw [mrc_s, if_neg (fun z => h z.2)]
theorem mrc_mor (hp : ∀ j, j < 8 → p j &&& al = p j) : ∀ m, m < 8 → ∀ s, s < 256 → s &&& al = s → (mor p d m s < FARN → mrc p al d m s = mor p d m s) ∧ (FARN ≤ mor p d m s → 1000 ≤ mrc p al d m s)
  | 0, _, s, hs, hal => by
    rw [mor_0, mrc_0]
    by_cases hc : s &&& p 7 = p 7
    · rw [if_pos hc, if_pos ⟨hc, hal⟩, pop_andn hc]
      have := pop8_le s
      refine ⟨fun _ => rfl, fun h => ?_⟩
      unfold FARN at h; omega
    · rw [if_neg hc, if_neg (fun z => hc z.1)]
      exact ⟨fun h => by omega, fun _ => Nat.le_refl _⟩
  | m + 1, hm, s, hs, hal => by
    have ih := mrc_mor hp m (by omega)
    rw [mor_s, mrc_s]
    by_cases hc : s &&& p (6 - m) = p (6 - m)
    · rw [if_pos hc, if_pos ⟨hc, hal⟩, pop_andn hc]
      have hps := pop8_le s
      have hat := wdn_at (al := al) (f := mrc p al d m) (fun v _ hv => mrc_far m v hv) d s hs
      have key : lnx d (mor p d m) s 256 < FARN → wdn al (mrc p al d m) d s = lnx d (mor p d m) s 256 := fun hl => by
        obtain ⟨u, hu, hd, e⟩ := lnx_at hl
        have hfin := mor_fin (p := p) (d := d) m u (by omega)
        have h1 := (mor_and (d := d) hp m (by omega) u hu (by omega)).1
        have h2 := lnx_min (d := d) (f := mor p d m) (s := s) (n := 256) (u := u &&& al) (and256 hu) (by have := pop_xor_and s u al; rw [hal] at this; omega)
        have h3 := (ih (u &&& al) (and256 hu) (and_idem2 u al)).1 (by omega)
        have h4 := wdn_le (al := al) (f := mrc p al d m) d s hs hal (u &&& al) (and256 hu) (and_idem2 u al) (by have := pop_xor_and s u al; rw [hal] at this; omega)
        obtain ⟨-, v, v1, v2, v3, v4⟩ := hat (by omega)
        have h5 : mor p d m v < FARN := Classical.byContradiction fun z => by
          have := (ih v v1 v2).2 (by omega)
          omega
        have h6 := (ih v v1 v2).1 h5
        have h7 := lnx_min (d := d) (f := mor p d m) (s := s) (n := 256) v1 v3
        omega
      refine ⟨fun h => by rw [key (by omega)], fun h => ?_⟩
      have hl : ¬ lnx d (mor p d m) s 256 < FARN := fun z => by
        obtain ⟨u, hu, -, e⟩ := lnx_at z
        have := mor_fin (p := p) (d := d) m u (by omega)
        unfold FARN at h
        omega
      refine Classical.byContradiction fun z => hl ?_
      obtain ⟨-, v, v1, v2, v3, v4⟩ := hat (by omega)
      have h5 : mor p d m v < FARN := Classical.byContradiction fun y => by
        have := (ih v v1 v2).2 (by omega)
        omega
      have h7 := lnx_min (d := d) (f := mor p d m) (s := s) (n := 256) v1 v3
      omega
    · rw [if_neg hc, if_neg (fun z => hc z.1)]
      exact ⟨fun h => by omega, fun _ => Nat.le_refl _⟩
theorem kpa_s (p : Nat → Nat) (d k : Nat) : kpa p d (k + 1) = ((kpa p d k).1 - (pop8 (fst1 (kpp p d k (kpa p d k).1 (kpa p d k).2) 0 256) - pop8 (p k)), fst1 (kpp p d k (kpa p d k).1 (kpa p d k).2) 0 256) := rfl
/-- what is left to pay is the least -/
theorem kpa_min (hp : ∀ j, j < 8 → 255 &&& p j = p j) : ∀ k, k < 8 → ∀ u, u < 256 → (k = 0 ∨ pop8 ((kpa p d k).2 ^^^ u) ≤ d) → (kpa p d k).1 ≤ mor p d (7 - k) u
  | 0, _, u, hu, _ => by
    have h := mn0_le (mor p d 7) (n := 256) hu
    rw [kpa]
    generalize mn0 (mor p d 7) 256 = l at h ⊢
    exact h
  | k + 1, hk, u, hu, h => by
    obtain ⟨⟨w, hw, hkw⟩, hl64, -⟩ := kpa_ok (d := d) hp k (by omega)
    have hf := fst1_at (s := 0) (k := 256) (Nat.zero_le w) (by omega) hkw
    have hsub := kpa_sub (d := d) hp (show k < 8 by omega)
    rw [kpa_s] at h ⊢
    generalize fst1 (kpp p d k (kpa p d k).1 (kpa p d k).2) 0 256 = s at hf h hsub ⊢
    have hm := of_decide_eq_true (Bool.and_eq_true_iff.mp hf.1).1
    rw [show 7 - k = (6 - k) + 1 by omega, mor_s, show 6 - (6 - k) = k by omega] at hm
    have hc : s &&& p k = p k := Classical.byContradiction fun z => by rw [if_neg z] at hm; unfold FARN at hm; omega
    rw [if_pos hc] at hm
    have h2 := lnx_min (d := d) (f := mor p d (6 - k)) (s := s) (n := 256) hu (by rcases h with h | h; omega; exact h)
    rw [show 7 - (k + 1) = 6 - k by omega]
    show (kpa p d k).1 - (pop8 s - pop8 (p k)) ≤ _
    omega
theorem kpa_al (hp : ∀ j, j < 8 → 255 &&& p j = p j) (ha : ∀ j, j < 8 → p j &&& al = p j) : ∀ k, k < 9 → (kpa p d k).2 &&& al = (kpa p d k).2
  | 0, _ => Nat.zero_and al
  | k + 1, hk => by
    obtain ⟨⟨w, hw, hkw⟩, hl64, hlt⟩ := kpa_ok (d := d) hp k (by omega)
    have hf := fst1_at (s := 0) (k := 256) (Nat.zero_le w) (by omega) hkw
    have ih := kpa_al hp ha k (by omega)
    have hmin := kpa_min (d := d) hp k (by omega)
    rw [kpa_s]
    show fst1 (kpp p d k (kpa p d k).1 (kpa p d k).2) 0 256 &&& al = _
    generalize fst1 (kpp p d k (kpa p d k).1 (kpa p d k).2) 0 256 = s at hf ⊢
    have h1 := Bool.and_eq_true_iff.mp hf.1
    have hm := of_decide_eq_true h1.1
    have hs : s < 256 := by omega
    refine Classical.byContradiction fun hne => ?_
    have h2 := (mor_and (d := d) ha (7 - k) (by omega) s hs (by unfold FARN; omega)).2 hne
    have h3 := hmin (s &&& al) (and256 hs) (by
      rcases Bool.or_eq_true_iff.mp h1.2 with z | z
      · exact Or.inl (of_decide_eq_true z)
      · right
        have z := of_decide_eq_true z
        have := pop_xor_and (kpa p d k).2 s al
        rw [ih] at this
        omega)
    omega
/-- the first of the cheapest, by the class's weights -/
def chp (w : Nat → Nat) (may : Nat → Bool) : Nat → Nat × Nat | 0 => (0, 1000) | n + 1 => if may n = true ∧ w n < (chp w may n).2 then (n, w n) else chp w may n
theorem chp_s (w : Nat → Nat) (may : Nat → Bool) (n : Nat) : chp w may (n + 1) = if may n = true ∧ w n < (chp w may n).2 then (n, w n) else chp w may n := rfl
theorem chp_at {w : Nat → Nat} {may : Nat → Bool} {s l : Nat} (h1 : may s = true) (h2 : w s = l) (hl : l < 1000) (h3 : ∀ u, u < 256 → may u = true → l ≤ w u) (h4 : ∀ u, u < s → may u = true → l < w u) : ∀ n, n ≤ 256 → (n ≤ s → l < (chp w may n).2) ∧ (s < n → chp w may n = (s, l))
  | 0, _ => ⟨fun _ => hl, fun h => absurd h (Nat.not_lt_zero s)⟩
  | n + 1, hn => by
    obtain ⟨i1, i2⟩ := chp_at h1 h2 hl h3 h4 n (by omega)
    rw [chp_s]
    by_cases e : n < s
    · refine ⟨fun _ => ?_, fun z => by omega⟩
      split
      · rename_i c; exact h4 n e c.1
      · exact i1 (by omega)
    · refine ⟨fun z => by omega, fun _ => ?_⟩
      by_cases e2 : n = s
      · subst e2
        rw [if_pos ⟨h1, by rw [h2]; exact i1 (Nat.le_refl _)⟩, h2]
      · rw [i2 (by omega), if_neg (fun z => by have := h3 n (by omega) z.1; have := z.2; omega)]
theorem chp_kpa (hp : ∀ j, j < 8 → 255 &&& p j = p j) (ha : ∀ j, j < 8 → p j &&& al = p j) {k : Nat} (hk : k < 8) : chp (mrc p al d (7 - k)) (fun s => decide (k = 0) || decide (pop8 ((kpa p d k).2 ^^^ s) ≤ d)) 256 = ((kpa p d (k + 1)).2, (kpa p d k).1) := by
  obtain ⟨⟨w, hw, hkw⟩, hl64, hlt⟩ := kpa_ok (d := d) hp k hk
  have hf := fst1_at (s := 0) (k := 256) (Nat.zero_le w) (by omega) hkw
  have hal := kpa_al (d := d) hp ha (k + 1) (by omega)
  have hmin := kpa_min (d := d) hp k hk
  have hlow : ∀ u, u < fst1 (kpp p d k (kpa p d k).1 (kpa p d k).2) 0 256 → kpp p d k (kpa p d k).1 (kpa p d k).2 u = false := fun u hu => by
    cases hz : kpp p d k (kpa p d k).1 (kpa p d k).2 u with
    | false => rfl
    | true =>
      have := (fst1_at (s := 0) (k := 256) (Nat.zero_le u) (by omega) hz).2
      omega
  rw [kpa_s] at hal
  rw [kpa_s]
  show _ = (fst1 (kpp p d k (kpa p d k).1 (kpa p d k).2) 0 256, _)
  have hal : fst1 (kpp p d k (kpa p d k).1 (kpa p d k).2) 0 256 &&& al = fst1 (kpp p d k (kpa p d k).1 (kpa p d k).2) 0 256 := hal
  generalize fst1 (kpp p d k (kpa p d k).1 (kpa p d k).2) 0 256 = s at hf hal hlow ⊢
  have h1 := Bool.and_eq_true_iff.mp hf.1
  have hm := of_decide_eq_true h1.1
  have hs : s < 256 := by omega
  have hms := (mrc_mor (d := d) ha (7 - k) (by omega) s hs hal).1 (by unfold FARN; omega)
  have hor : ∀ u, (decide (k = 0) || decide (pop8 ((kpa p d k).2 ^^^ u) ≤ d)) = true → (k = 0 ∨ pop8 ((kpa p d k).2 ^^^ u) ≤ d) := fun u z => by
    rcases Bool.or_eq_true_iff.mp z with z | z
    · exact Or.inl (of_decide_eq_true z)
    · exact Or.inr (of_decide_eq_true z)
  have hw : ∀ u, u < 256 → (k = 0 ∨ pop8 ((kpa p d k).2 ^^^ u) ≤ d) → mrc p al d (7 - k) u = mor p d (7 - k) u ∨ 1000 ≤ mrc p al d (7 - k) u := fun u hu _ => by
    by_cases e : u &&& al = u
    · have := mrc_mor (d := d) ha (7 - k) (by omega) u hu e
      by_cases z : mor p d (7 - k) u < FARN
      · exact Or.inl (this.1 z)
      · exact Or.inr (this.2 (by omega))
    · exact Or.inr (by rw [mrc_far _ _ e]; exact Nat.le_refl _)
  refine (chp_at (w := mrc p al d (7 - k)) (s := s) (l := (kpa p d k).1) h1.2 (hms.trans hm) (by omega) (fun u hu hmu => ?_) (fun u hu hmu => ?_) 256 (Nat.le_refl _)).2 hs
  · have h3 := hmin u hu (hor u hmu)
    rcases hw u hu (hor u hmu) with e | e <;> omega
  · have h3 := hmin u (by omega) (hor u hmu)
    have h4 := hlow u hu
    have h5 : mor p d (7 - k) u ≠ (kpa p d k).1 := fun z => by
      unfold kpp at h4
      rw [decide_eq_true z, Bool.true_and] at h4
      rw [h4] at hmu
      cases hmu
    rcases hw u (by omega) (hor u hmu) with e | e <;> omega
theorem kpa_mrc (hp : ∀ j, j < 8 → 255 &&& p j = p j) (ha : ∀ j, j < 8 → p j &&& al = p j) {k : Nat} (hk : k < 8) : mrc p al d (7 - k) (kpa p d (k + 1)).2 = (kpa p d k).1 := by
  obtain ⟨⟨w, hw, hkw⟩, hl64, hlt⟩ := kpa_ok (d := d) hp k hk
  have hf := fst1_at (s := 0) (k := 256) (Nat.zero_le w) (by omega) hkw
  have hal := kpa_al (d := d) hp ha (k + 1) (by omega)
  rw [kpa_s] at hal ⊢
  have hal : fst1 (kpp p d k (kpa p d k).1 (kpa p d k).2) 0 256 &&& al = fst1 (kpp p d k (kpa p d k).1 (kpa p d k).2) 0 256 := hal
  show mrc p al d (7 - k) (fst1 (kpp p d k (kpa p d k).1 (kpa p d k).2) 0 256) = _
  generalize fst1 (kpp p d k (kpa p d k).1 (kpa p d k).2) 0 256 = s at hf hal ⊢
  have h1 := Bool.and_eq_true_iff.mp hf.1
  have hm := of_decide_eq_true h1.1
  exact ((mrc_mor (d := d) ha (7 - k) (by omega) s (by omega) hal).1 (by unfold FARN; omega)).trans hm
theorem wm1_c {g : Nat → Nat} {c s : Nat} (hg : ∀ u, g u ≤ c) : ∀ n, wm1 g s n ≤ c
  | 0 => hg s
  | n + 1 => by have := wm1_c (s := s) hg n; unfold wm1; omega
theorem wdn_c {f : Nat → Nat} {c : Nat} (hf : ∀ u, f u ≤ c) (hc : 1000 ≤ c) : ∀ k s, wdn al f k s ≤ c
  | 0, s => hf s
  | k + 1, s => by
    show wd1 al (wdn al f k) s ≤ c
    unfold wd1
    split
    · exact wm1_c (fun u => wdn_c hf hc k u) 8
    · exact hc
theorem mrc_c : ∀ m s, mrc p al d m s ≤ 1000 + 8 * (m + 1)
  | 0, s => by
    have := pop8_le (andn s (p 7))
    rw [mrc_0]; split <;> omega
  | m + 1, s => by
    have h1 := pop8_le (andn s (p (6 - m)))
    have h2 := wdn_c (al := al) (fun u => mrc_c m u) (by omega) d s
    rw [mrc_s]; split <;> omega
/-- the tune as it is, if it keeps the rule -/
theorem mor_self (hd : ∀ j, j < 7 → pop8 (p j ^^^ p (j + 1)) ≤ d) (hp : ∀ j, j < 8 → p j < 256) : ∀ m, m < 8 → mor p d m (p (7 - m)) = 0
  | 0, _ => by rw [mor_0, if_pos (Nat.and_self _), Nat.sub_self]
  | m + 1, hm => by
    have ih := mor_self hd hp m (by omega)
    have h1 := hd (6 - m) (by omega)
    rw [show 6 - m + 1 = 7 - m by omega] at h1
    have h2 := lnx_min (d := d) (f := mor p d m) (s := p (6 - m)) (n := 256) (hp (7 - m) (by omega)) h1
    rw [mor_s, show 7 - (m + 1) = 6 - m by omega, if_pos (Nat.and_self _), Nat.sub_self]
    omega
theorem mor_zero (hp : ∀ j, j < 8 → p j < 256) : ∀ m, m < 8 → ∀ s, s < 256 → mor p d m s = 0 → s = p (7 - m)
  | 0, _, s, hs, h => by
    rw [mor_0] at h
    have hc : s &&& p 7 = p 7 := Classical.byContradiction fun z => by rw [if_neg z] at h; unfold FARN at h; omega
    rw [if_pos hc] at h
    have e : s = p 7 := pop_eq_sub hs hc (by omega)
    exact e
  | m + 1, hm, s, hs, h => by
    rw [mor_s] at h
    have hc : s &&& p (6 - m) = p (6 - m) := Classical.byContradiction fun z => by rw [if_neg z] at h; unfold FARN at h; omega
    rw [if_pos hc] at h
    rw [show 7 - (m + 1) = 6 - m by omega]
    exact pop_eq_sub hs hc (by omega)
theorem kpa_self (hd : ∀ j, j < 7 → pop8 (p j ^^^ p (j + 1)) ≤ d) (hp : ∀ j, j < 8 → p j < 256) : ∀ k, k < 9 → (kpa p d k).1 = 0 ∧ (0 < k → (kpa p d k).2 = p (k - 1))
  | 0, _ => by
    have h1 := mn0_le (mor p d 7) (n := 256) (hp 0 (by omega))
    have h2 := mor_self hd hp 7 (by omega)
    rw [show 7 - 7 = 0 from rfl] at h2
    rw [h2] at h1
    rw [kpa]
    generalize mn0 (mor p d 7) 256 = l at h1 ⊢
    exact ⟨by show l = 0; omega, fun h => absurd h (Nat.lt_irrefl _)⟩
  | k + 1, hk => by
    obtain ⟨i1, i2⟩ := kpa_self hd hp k (by omega)
    have h255 : ∀ j, j < 8 → 255 &&& p j = p j := fun j hj => and255 (hp j hj)
    obtain ⟨⟨w, hw, hkw⟩, -, -⟩ := kpa_ok (d := d) h255 k (by omega)
    have hf := fst1_at (s := 0) (k := 256) (Nat.zero_le w) (by omega) hkw
    rw [kpa_s]
    generalize fst1 (kpp p d k (kpa p d k).1 (kpa p d k).2) 0 256 = s at hf ⊢
    have hm := of_decide_eq_true (Bool.and_eq_true_iff.mp hf.1).1
    rw [i1] at hm
    have hs := mor_zero (d := d) hp (7 - k) (by omega) s (by omega) hm
    rw [show 7 - (7 - k) = k by omega] at hs
    exact ⟨by show (kpa p d k).1 - _ = 0; omega, fun _ => hs⟩
end KP
