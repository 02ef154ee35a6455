/-! what code is worth is small; laws of texts are good -/
theorem evM_sml {op arg : Nat → Nat} {lf : Nat → Nat → Int} {last : Nat} (hl : ∀ k, k < last → op k < 20 → sml (lf (op k) (arg k))) : ∀ (n k : Nat) (st : List Int) (v : Int), (∀ a, a ∈ st → sml a) → evM op arg lf last n k st = some (some v) → sml v := by
  intro n
  induction n with
  | zero => intro k st v _ h; cases h
  | succ n ih =>
    intro k st v hst h
    rw [evM_s] at h
    by_cases c0 : last ≤ k
    · rw [if_pos c0] at h
      match st, hst, h with
      | [a], hst, h =>
        have e : a = v := Option.some.inj (Option.some.inj h)
        rw [← e]; exact hst a (by simp)
      | [], _, h => cases h
      | _ :: _ :: _, _, h => cases h
    rw [if_neg c0] at h
    by_cases c1 : op k < 20
    · rw [if_pos c1] at h
      by_cases c2 : st.length < 60
      · rw [if_pos c2] at h
        exact ih _ _ v (fun a ha => (List.mem_cons.mp ha).elim (fun e => by rw [e]; exact hl k (by omega) c1) (hst a)) h
      · rw [if_neg c2] at h; cases h
    rw [if_neg c1] at h
    by_cases c2 : op k < 28
    · rw [if_pos c2] at h
      match st, hst, h with
      | [], _, h => cases h
      | [_], _, h => cases h
      | b :: a :: t, hst, h =>
        have h : (match calc3 (op k) a b with | none => some none | some x => evM op arg lf last n (k + 1) (x :: t)) = some (some v) := h
        cases hc : calc3 (op k) a b with
        | none => rw [hc] at h; cases h
        | some x =>
          rw [hc] at h
          exact ih _ _ v (fun z hz => (List.mem_cons.mp hz).elim (fun e => by rw [e]; exact calc3_sml hc) (fun e => hst z (by simp [e]))) h
    rw [if_neg c2] at h
    by_cases c3 : op k = 28
    · rw [if_pos c3] at h
      match st, hst, h with
      | [], _, h => cases h
      | a :: t, hst, h =>
        have h : (if a = 0 ∨ a = 1 then evM op arg lf last n (k + 1) ((1 - a) :: t) else none) = some (some v) := h
        by_cases c4 : a = 0 ∨ a = 1
        · rw [if_pos c4] at h
          exact ih _ _ v (fun z hz => (List.mem_cons.mp hz).elim (fun e => by rw [e]; unfold sml; omega) (fun e => hst z (by simp [e]))) h
        · rw [if_neg c4] at h; cases h
    rw [if_neg c3] at h
    match st, hst, h with
    | [], _, h => cases h
    | a :: t, hst, h =>
      have h : (if a = (if op k = 29 then 0 else 1) then evM op arg lf last n (arg k) (a :: t) else evM op arg lf last n (k + 1) t) = some (some v) := h
      by_cases c4 : a = (if op k = 29 then 0 else 1)
      · rw [if_pos c4] at h; exact ih _ _ v hst h
      · rw [if_neg c4] at h; exact ih _ _ v (fun z hz => hst z (by simp [hz])) h
theorem SgC.sm {op arg : Nat → Nat} {m s e : Nat} {F : SF} {w : WT} {v : Int} (h : SgC op arg m s e F) (ha : ∀ k, k < m → arg k ≤ 1000) (hw : wok w) (hv : F w = some v) : sml v := by
  obtain ⟨h1, h2, h3, h4, d, hd, hF⟩ := h
  obtain ⟨fuel, hev⟩ := hF.ev (w := w) (by omega) hw
  rw [hv] at hev
  refine evM_sml (fun k hk ho => ?_) fuel s [] v (fun a ha => by cases ha) hev
  unfold lfC
  by_cases e0 : op k = 0
  · rw [if_pos e0]; have := ha k (by omega); unfold sml; omega
  · rw [if_neg e0]; exact hw _
theorem TxM.ok {E : EnT} {S : ST} {I : IT} {a : Nat} {law : LawT} (h : TxM E S I a law) : lawOk law := by
  obtain ⟨h12, m, op, arg, h1, h2, h3, h4, h5, h6⟩ := h
  have ha : ∀ k, k < m → arg k ≤ 1000 := fun k hk => (h4 k hk).2.2.2.1
  refine ⟨h12, fun c w v hc hw hv => ?_, fun c hc => (h6 c hc).1, fun c w hc _ h3 => ?_⟩
  · obtain ⟨g1, g2, g3, g4, g5⟩ := h6 c hc
    by_cases e : law.2.1 c = 3
    · rw [(g4 e).2] at hv
      have : (1 : Int) = v := Option.some.inj hv
      rw [← this]; unfold sml; omega
    · obtain ⟨s, e', _, b2⟩ := g3 e
      exact b2.sm ha hw hv
  · obtain ⟨g1, g2, g3, g4, g5⟩ := h6 c hc
    rw [(g4 h3).2]; rfl
