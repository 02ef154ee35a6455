/-! THE START: class and reference, newly made -/
def A0 : AT := (qz, fun _ => lwe, (0, fun _ _ => 0, fun _ => 0), fun _ => (false, qz, fun _ => lwe), (0, fun _ => 0), (nI 0, -1, -1, nI 0, fun _ => nI 0), (0, fun _ _ => 0))
theorem wq_z : wq qz := by
  have z : ∀ i, i ≠ 6 → qz i = 0 := fun i h => qz_0 h
  refine ⟨by decide, by decide, by decide, by decide, by decide, by decide, by decide, by decide, fun b j _ _ => by rw [z _ (by omega)]; omega, fun b _ => by rw [z _ (by omega)]; omega, fun b _ => by rw [z _ (by omega)]; omega, fun b _ => by rw [z _ (by omega)]; omega, fun b _ => by rw [z _ (by omega)]; omega, fun b _ => by rw [z _ (by omega)]; omega, fun b _ => by rw [z _ (by omega)]; omega, fun k _ => ⟨by rw [z _ (by omega)]; omega, by rw [z _ (by omega)]; omega, by rw [z _ (by omega)]; omega⟩, fun b _ => by rw [z _ (by omega), z _ (by omega)], fun b c _ _ _ h => absurd (z _ (by omega)) h, fun b _ _ => ⟨fun j _ => z _ (by omega), z _ (by omega), z _ (by omega), z _ (by omega), z _ (by omega)⟩⟩
theorem wfA_0 : wfA A0 := ⟨wq_z, fun l hl => absurd hl (Nat.not_lt_zero l), Nat.zero_le _, fun k hk => absurd hk (Nat.not_lt_zero k), (fun k _ h => by cases h), Nat.zero_le _, fun i hi => absurd hi (Nat.not_lt_zero i), Nat.zero_le _, fun _ _ _ _ => Nat.zero_le _⟩
section S0
variable {E : EnT} {S S0 S1 S2 : ST} {I I0 I1 I2 : IT} {L L0 L1 L2 : LT} {B : Nat} {r : Option Value}
theorem P11.lay (h : P11 E S0 I0 L0 B r S I L) (ho : isO E S0 B 11) : Lay11 E S B := by
  obtain ⟨-, hP, h1, h2, h3⟩ := h
  have o := fun j (hj : j < 19) => h1 j hj
  have o1 : ob11 E B S I 1 := h1 1 (by decide)
  have o6 : ob11 E B S I 6 := h1 6 (by decide)
  have o10 : ob11 E B S I 10 := h1 10 (by decide)
  have o11 : ob11 E B S I 11 := h1 11 (by decide)
  have o12 : ob11 E B S I 12 := h1 12 (by decide)
  have o13 : ob11 E B S I 13 := h1 13 (by decide)
  have o14 : ob11 E B S I 14 := h1 14 (by decide)
  have o17 : ob11 E B S I 17 := h1 17 (by decide)
  have o18 : ob11 E B S I 18 := h1 18 (by decide)
  exact ⟨ho.ext hP.2.1, h2 (0, B + 36) (by simp), o12.1, h2 (1, B + 1) (by simp), h1 0 (by decide), h2 (2, B + 2) (by simp), o1.1, h2 (3, B + 80) (by simp), h1 16 (by decide), h2 (4, B + 82) (by simp), o17.1, h2 (5, B + 321) (by simp), o18.1, h2 (6, B + 3) (by simp), h1 2 (by decide), h2 (7, B + 10) (by simp), h1 3 (by decide), h2 (8, B + 21) (by simp), o10.1, h2 (9, B + 16) (by simp), h1 4 (by decide), h2 (14, B + 17) (by simp), o6.1, h2 (15, B + 18) (by simp), h1 7 (by decide), h2 (16, B + 19) (by simp), h1 8 (by decide), h2 (17, B + 20) (by simp), h1 9 (by decide), h3 0 (by decide), h3 1 (by decide), o13.1, o14.1, o11.1⟩
theorem P11.cr (h : P11 E S0 I0 L0 B r S I L) : CR E S B I A0 := by
  obtain ⟨-, hP, h1, h2, h3⟩ := h
  have o1 : ob11 E B S I 1 := h1 1 (by decide)
  have o5 : ob11 E B S I 5 := h1 5 (by decide)
  have o6 : ob11 E B S I 6 := h1 6 (by decide)
  have o10 : ob11 E B S I 10 := h1 10 (by decide)
  have o11 : ob11 E B S I 11 := h1 11 (by decide)
  have o12 : ob11 E B S I 12 := h1 12 (by decide)
  have o13 : ob11 E B S I 13 := h1 13 (by decide)
  have o14 : ob11 E B S I 14 := h1 14 (by decide)
  have o17 : ob11 E B S I 17 := h1 17 (by decide)
  have o18 : ob11 E B S I 18 := h1 18 (by decide)
  have hT : TxM E S I (B + 30) lwe := ⟨Nat.zero_le _, 0, fun _ => 0, fun _ => 0, o11.1, Nat.zero_le _, o11.2, fun k hk => absurd hk (Nat.not_lt_zero k), fun k hk => absurd hk (Nat.not_lt_zero k), fun c hc => absurd hc (Nat.not_lt_zero c)⟩
  refine ⟨o12.2.1, ⟨fun l hl => absurd hl (Nat.not_lt_zero l), Or.inl rfl, hT⟩, ⟨0, by decide, o17.2.1, o17.2.2, fun k hk => absurd hk (Nat.not_lt_zero k)⟩, fun k hk => ⟨?_, fun z => by cases z⟩, ⟨o5.1, fun i hi => absurd hi (Nat.not_lt_zero i)⟩, ⟨o5.2.1, o10.2.2, o5.2.2.1, o5.2.2.2, fun r hr => ?_⟩, ⟨qz, wq_z, o18.2, rfl, fun b hb => absurd hb (Nat.not_lt_zero b)⟩, fun g hg l hl => ⟨B + 30, ?_, o11.1.o⟩⟩
  · rw [o1.2 k]; rfl
  · rw [o6.2 r]; rfl
  · rcases hg with rfl | rfl | rfl
    · exact o12.2.2 l hl
    · exact o13.2.2 l hl
    · exact o14.2.2 l hl
theorem P112.mr {o : Nat} (h : P112 E S0 I0 L0 o r S I L) (hz : ∀ q, o ≤ q → ∀ j, I0 q j = 0) : MR o I L A0 := by
  obtain ⟨-, -, -, hI, hL⟩ := h
  subst hI
  subst hL
  have f : ∀ i, i ≠ 18 → i ≠ 57 → i ≠ 61 → (up2 (up2 (up2 (up2 (up2 I0 o 18 (-1)) o 57 (-1)) o 61 (-1)) (o + 2) 4 (-1)) (o + 2) 6 (nI 2)) o i = nI 0 := fun i h1 h2 h3 => by
    rw [up2_row (by omega), up2_row (by omega), up2_nej h3, up2_nej h2, up2_nej h1, hz o (Nat.le_refl _)]; rfl
  have g : ∀ q i, o < q → q ≠ o + 2 → (up2 (up2 (up2 (up2 (up2 I0 o 18 (-1)) o 57 (-1)) o 61 (-1)) (o + 2) 4 (-1)) (o + 2) 6 (nI 2)) q i = nI 0 := fun q i h1 h2 => by
    rw [up2_row h2, up2_row h2, up2_row (by omega), up2_row (by omega), up2_row (by omega), hz q (by omega)]; rfl
  refine ⟨fun i hi hc => ?_, fun l hl => absurd hl (Nat.not_lt_zero l), ⟨f 8 (by decide) (by decide) (by decide), fun k hk => absurd hk (Nat.not_lt_zero k)⟩, fun k hk => ⟨g _ _ (by omega) (by omega), fun z => by cases z⟩, ⟨f 13 (by decide) (by decide) (by decide), fun i hi => absurd hi (Nat.not_lt_zero i)⟩, ⟨f 11 (by decide) (by decide) (by decide), ?_, ?_, f 1 (by decide) (by decide) (by decide), fun r hr => g _ _ (by omega) (by omega)⟩, ⟨?_, fun w b _ hb => absurd hb (Nat.not_lt_zero _)⟩, f 20 (by decide) (by decide) (by decide), ?_⟩
  · have hn : ¬ (68 ≤ i ∧ i < 74) := fun z => by
      have h1 := hc z
      have h2 : aq A0 0 = 0 := rfl
      omega
    show _ = enc qz i
    unfold enc
    by_cases e4 : i = 4
    · subst e4; rw [up2_nej (by decide), up2_self]; decide
    · rw [if_neg (by omega)]
      by_cases e6 : i = 6
      · subst e6; rw [up2_self]; rfl
      · rw [up2_nej e6, up2_nej e4, up2_row (by omega), up2_row (by omega), up2_row (by omega), hz _ (by omega), qz_0 e6]; rfl
  · rw [up2_row (by omega), up2_row (by omega), up2_nej (by decide), up2_nej (by decide), up2_self]; rfl
  · rw [up2_row (by omega), up2_row (by omega), up2_nej (by decide), up2_self]; rfl
  · rw [up2_row (by omega), up2_row (by omega), up2_self]; decide
  · refine ⟨fun j hj => ?_, fun j hj => ?_, fun j hj => ?_, fun j hj => ?_, fun j hj => ?_⟩
    · have hc : j = 0 ∨ j = 1 ∨ j = 2 ∨ j = 3 ∨ j = 4 ∨ j = 5 ∨ j = 6 ∨ j = 7 ∨ j = 8 := by omega
      rcases hc with rfl | rfl | rfl | rfl | rfl | rfl | rfl | rfl | rfl <;> simp [up2, wrd1]
    · have hc : j = 0 ∨ j = 1 ∨ j = 2 ∨ j = 3 ∨ j = 4 ∨ j = 5 := by omega
      rcases hc with rfl | rfl | rfl | rfl | rfl | rfl <;> simp [up2, wrd2]
    · have hc : j = 0 ∨ j = 1 ∨ j = 2 ∨ j = 3 := by omega
      rcases hc with rfl | rfl | rfl | rfl <;> simp [up2, wrd3]
    · have hc : j = 0 ∨ j = 1 ∨ j = 2 ∨ j = 3 := by omega
      rcases hc with rfl | rfl | rfl | rfl <;> simp [up2, wrd4]
    · have hc : j = 0 ∨ j = 1 ∨ j = 2 := by omega
      rcases hc with rfl | rfl | rfl <;> simp [up2, wrd5]
end S0
