/-! THE READER: what it reads, held against what the reference reads -/
def mpo {α β : Type} (f : α → β) (r : Nat × Nat × Option α) : Nat × Nat × Option β := (r.1, r.2.1, r.2.2.map f)
theorem bq_bq {α β γ : Type} (r : Nat × Nat × Option α) (f : Nat → Nat → α → Nat × Nat × Option β) (g : Nat → Nat → β → Nat × Nat × Option γ) : bq (bq r f) g = bq r fun p l x => bq (f p l x) g := by
  obtain ⟨p, l, r⟩ := r
  cases r with
  | none => rfl
  | some x => rfl
theorem mpo_bq {α β γ : Type} (h : β → γ) (r : Nat × Nat × Option α) (f : Nat → Nat → α → Nat × Nat × Option β) : mpo h (bq r f) = bq r fun p l x => mpo h (f p l x) := by
  obtain ⟨p, l, r⟩ := r
  cases r with
  | none => rfl
  | some x => rfl
theorem bq_ite {α β : Type} {c : Prop} [Decidable c] (a b : Nat × Nat × Option α) (k : Nat → Nat → α → Nat × Nat × Option β) : bq (if c then a else b) k = if c then bq a k else bq b k := by
  by_cases h : c
  · rw [if_pos h, if_pos h]
  · rw [if_neg h, if_neg h]
theorem mpo_ite {α β : Type} {c : Prop} [Decidable c] (f : α → β) (a b : Nat × Nat × Option α) : mpo f (if c then a else b) = if c then mpo f a else mpo f b := by
  by_cases h : c
  · rw [if_pos h, if_pos h]
  · rw [if_neg h, if_neg h]
theorem bq_c1 {α β : Type} (p l : Nat) (x : α) (k : Nat → Nat → α → Nat × Nat × Option β) : bq (p, l, some x) k = k p l x := rfl
theorem bq_c0 {α β : Type} (p l : Nat) (k : Nat → Nat → α → Nat × Nat × Option β) : bq (p, l, none) k = (p, l, none) := rfl
theorem mpo_c1 {α β : Type} (p l : Nat) (x : α) (f : α → β) : mpo f (p, l, some x) = (p, l, some (f x)) := rfl
theorem mpo_c0 {α β : Type} (p l : Nat) (f : α → β) : mpo f (p, l, none) = (p, l, none) := rfl
theorem rdS_0 {t : Nat → Nat} {n : Nat} {od : Bool} {kd i p l : Nat} : rdS t n od kd 0 i p l = (p, l, some []) := rfl
theorem rdS_a {t : Nat → Nat} {n : Nat} {od : Bool} {kd j p l : Nat} : rdS t n od kd (j + 1) 0 p l = bq (ps t n od (FU n) 0 0 p l one) fun p1 l1 F => bq (rdS t n od kd j 1 p1 l1) fun p2 l2 fs => (p2, l2, some (F :: fs)) := by
  cases h1 : (ps t n od (FU n) 0 0 p l one).2.2 with
  | none => exact (rdS_n (p1 := p) (Or.inl rfl) (if_pos rfl).symm rfl h1).trans (bq_n h1).symm
  | some F =>
    rw [bq_s h1]
    cases h2 : (rdS t n od kd j 1 (ps t n od (FU n) 0 0 p l one).1 (ps t n od (FU n) 0 0 p l one).2.1).2.2 with
    | none => exact (rdS_sn (p1 := p) (Or.inl rfl) (if_pos rfl).symm rfl h1 h2).trans (bq_n h2).symm
    | some fs => rw [bq_s h2]; exact rdS_ss (p1 := p) (Or.inl rfl) (if_pos rfl).symm rfl h1 h2
theorem rdS_b {t : Nat → Nat} {n : Nat} {od : Bool} {kd j i p l : Nat} : rdS t n od kd (j + 1) (i + 1) p l = if tc t n p = whd kd (i + 1) then bq (ps t n od (FU n) 0 0 (nxt t n p) l one) fun p1 l1 F => bq (rdS t n od kd j (i + 2) p1 l1) fun p2 l2 fs => (p2, l2, some (F :: fs)) else (p, l, none) := by
  by_cases hw : tc t n p = whd kd (i + 1)
  · rw [if_pos hw]
    have hW : i + 1 = 0 ∨ tc t n p = whd kd (i + 1) := Or.inr hw
    have hp : nxt t n p = if i + 1 = 0 then p else nxt t n p := (if_neg (by omega)).symm
    cases h1 : (ps t n od (FU n) 0 0 (nxt t n p) l one).2.2 with
    | none => rw [rdS_n hW hp rfl h1, bq_n h1]
    | some F =>
      rw [bq_s h1]
      cases h2 : (rdS t n od kd j (i + 2) (ps t n od (FU n) 0 0 (nxt t n p) l one).1 (ps t n od (FU n) 0 0 (nxt t n p) l one).2.1).2.2 with
      | none => rw [rdS_sn hW hp rfl h1 h2, bq_n h2]
      | some fs => rw [rdS_ss hW hp rfl h1 h2, bq_s h2]
  · rw [if_neg hw, rdS_f (by omega)]
def toL (x : RC4) : Nat × SF × SF := (x.1, x.2.2.1.getD 0 one, x.2.2.2)
def toO (x : RC4) : OC := (x.1, x.2.1, (x.2.2.1.getD 0 one, x.2.2.1.getD 1 one, x.2.2.1.getD 2 one), x.2.2.2)
theorem clB_b {t : Nat → Nat} {n kd : Nat} {r : PR} : clB t n kd r = bq r fun p1 l1 F => bq (rdI t n false p1 l1) fun p2 l2 T => (p2, l2, some (kd, F, T)) := by
  obtain ⟨p, l, r⟩ := r
  cases r with
  | none => rfl
  | some F =>
    rw [clB_s rfl, bq_c1]
    unfold rdI
    by_cases h0 : tc t n p = 0
    · rw [if_pos h0, if_pos h0]
      unfold clC
      generalize ps t n false (FU n) 3 0 (nxt t n p) l one = q
      obtain ⟨q1, q2, q3⟩ := q
      cases q3 with
      | none => rfl
      | some T => rfl
    · rw [if_neg h0, if_neg h0]; rfl
theorem clL_rd {t : Nat → Nat} {n p l : Nat} : clL t n p l = mpo toL (rdC t n false p l) := by
  unfold clL rdC
  rw [if_neg (show ¬ (false = true) by decide)]
  by_cases h : 8 ≤ tc t n p ∧ tc t n p ≤ 11
  · rw [if_pos h, if_pos (show 8 ≤ tc t n p ∧ tc t n p < 8 + 4 by omega), clB_b]
    by_cases h3 : tc t n p = 11
    · rw [if_pos h3, h3]
      show bq _ _ = mpo toL (bq (rdS t n false 3 0 0 _ l) _)
      simp only [rdS_0, bq_c1, mpo_bq, bq_bq, mpo_c1]
      rfl
    · rw [if_neg h3, show sms false (tc t n p - 8) = 1 from by unfold sms; rw [if_neg (by decide), if_neg (by omega)]]
      simp only [rdS_a, rdS_0, bq_c1, mpo_bq, bq_bq, mpo_c1]
      rfl
  · rw [if_neg h, if_neg (show ¬ (8 ≤ tc t n p ∧ tc t n p < 8 + 4) by omega)]; rfl
theorem clO_rd {t : Nat → Nat} {n p l : Nat} : clO t n p l = mpo toO (rdC t n true p l) := by
  unfold clO rdC
  rw [if_pos (show true = true from rfl)]
  by_cases h : 12 ≤ tc t n p ∧ tc t n p ≤ 15
  · rw [if_pos h, if_pos (show 12 ≤ tc t n p ∧ tc t n p < 12 + 4 by omega)]
    have hc : tc t n p = 12 ∨ tc t n p = 13 ∨ tc t n p = 14 ∨ tc t n p = 15 := by omega
    rcases hc with e | e | e | e
    · rw [e]
      show bq (oS t n 0 _ l) _ = mpo toO (bq (rdS t n true 0 3 0 _ l) _)
      simp only [oS, oSum, rdS_a, rdS_b, rdS_0, bq_c1, bq_c0, bq_ite, mpo_ite, mpo_bq, bq_bq, mpo_c1, mpo_c0]
      rfl
    · rw [e]
      show bq (oS t n 1 _ l) _ = mpo toO (bq (rdS t n true 1 2 0 _ l) _)
      simp only [oS, oSum, rdS_a, rdS_b, rdS_0, bq_c1, bq_c0, bq_ite, mpo_ite, mpo_bq, bq_bq, mpo_c1, mpo_c0]
      rfl
    · rw [e]
      show bq (oS t n 2 _ l) _ = mpo toO (bq (rdS t n true 2 2 0 _ l) _)
      simp only [oS, oSum, rdS_a, rdS_b, rdS_0, bq_c1, bq_c0, bq_ite, mpo_ite, mpo_bq, bq_bq, mpo_c1, mpo_c0]
      rfl
    · rw [e]
      show bq (oS t n 3 _ l) _ = mpo toO (bq (rdS t n true 3 0 0 _ l) _)
      simp only [oS, rdS_0, bq_c1, bq_c0, bq_ite, mpo_ite, mpo_bq, bq_bq, mpo_c1, mpo_c0]
      rfl
  · rw [if_neg h, if_neg (show ¬ (12 ≤ tc t n p ∧ tc t n p < 12 + 4) by omega)]; rfl
/-- a text: its clauses -/
abbrev RdT : Type := Nat × (Nat → RC4)
def rd0 (od : Bool) : RdT := (0, fun _ => (if od = true then 3 else 0, 1, [], one))
def addr (d : RdT) (x : RC4) : RdT := (d.1 + 1, setf d.2 d.1 x)
def rdP (t : Nat → Nat) (n : Nat) (od : Bool) : Nat → Nat → Nat → RdT → Nat × Option RdT
  | 0, p, _, _ => (p, none)
  | m + 1, p, l, d => match (rdC t n od p l).2.2 with | none => ((rdC t n od p l).1, none) | some x => if tc t n (rdC t n od p l).1 = 159 then rdP t n od m (nxt t n (rdC t n od p l).1) (rdC t n od p l).2.1 (addr d x) else if tc t n (rdC t n od p l).1 = 92 then ((rdC t n od p l).1, some (addr d x)) else ((rdC t n od p l).1, none)
theorem rdP_0 {t : Nat → Nat} {n p l : Nat} {od : Bool} {d : RdT} : rdP t n od 0 p l d = (p, none) := rfl
theorem rdP_n {t : Nat → Nat} {n m p l : Nat} {od : Bool} {d : RdT} (h : (rdC t n od p l).2.2 = none) : rdP t n od (m + 1) p l d = ((rdC t n od p l).1, none) := by rw [rdP, h]
theorem rdP_s {t : Nat → Nat} {n m p l : Nat} {od : Bool} {d : RdT} {x : RC4} (h : (rdC t n od p l).2.2 = some x) : rdP t n od (m + 1) p l d = if tc t n (rdC t n od p l).1 = 159 then rdP t n od m (nxt t n (rdC t n od p l).1) (rdC t n od p l).2.1 (addr d x) else if tc t n (rdC t n od p l).1 = 92 then ((rdC t n od p l).1, some (addr d x)) else ((rdC t n od p l).1, none) := by rw [rdP, h]
def rdR (t : Nat → Nat) (n : Nat) (od : Bool) : Nat × Option RdT := rdP t n od 12 (skp t n 0) 0 (rd0 od)
def toLw (d : RdT) : LawT := (d.1, fun j => (toL (d.2 j)).1, fun j => (toL (d.2 j)).2.1, fun j => (toL (d.2 j)).2.2)
def toOr (d : RdT) : OrdT := (d.1, fun j => toO (d.2 j))
theorem setf_map {α β : Type} (g : α → β) (f : Nat → α) (i : Nat) (v : α) : (fun j => g (setf f i v j)) = setf (fun j => g (f j)) i (g v) := by
  funext j
  by_cases e : j = i
  · subst e; rw [setf_s, setf_s]
  · rw [setf_n e, setf_n e]
theorem toLw_a (d : RdT) (x : RC4) : toLw (addr d x) = addc (toLw d) (toL x) := by
  have h1 := setf_map (fun y => (toL y).1) d.2 d.1 x
  have h2 := setf_map (fun y => (toL y).2.1) d.2 d.1 x
  have h3 := setf_map (fun y => (toL y).2.2) d.2 d.1 x
  have h4 : toLw (addr d x) = (d.1 + 1, (fun j => (toL (setf d.2 d.1 x j)).1), (fun j => (toL (setf d.2 d.1 x j)).2.1), fun j => (toL (setf d.2 d.1 x j)).2.2) := rfl
  rw [h4, h1, h2, h3]
  rfl
theorem toOr_a (d : RdT) (x : RC4) : toOr (addr d x) = addo (toOr d) (toO x) := by
  have h1 := setf_map toO d.2 d.1 x
  have h4 : toOr (addr d x) = (d.1 + 1, fun j => toO (setf d.2 d.1 x j)) := rfl
  rw [h4, h1]
  rfl
theorem lwP_rd {t : Nat → Nat} {n : Nat} : ∀ (m p l : Nat) (d : RdT), lwP t n m p l (toLw d) = ((rdP t n false m p l d).1, (rdP t n false m p l d).2.map toLw) := by
  intro m
  induction m with
  | zero => intro p l d; rfl
  | succ m ih =>
    intro p l d
    have hc := clL_rd (t := t) (n := n) (p := p) (l := l)
    have e1 : (clL t n p l).1 = (rdC t n false p l).1 := by rw [hc]; rfl
    have e2 : (clL t n p l).2.1 = (rdC t n false p l).2.1 := by rw [hc]; rfl
    have e3 : (clL t n p l).2.2 = (rdC t n false p l).2.2.map toL := by rw [hc]; rfl
    cases hx : (rdC t n false p l).2.2 with
    | none => rw [hx] at e3; rw [rdP_n hx, lwP_n e3, e1]; rfl
    | some x =>
      rw [hx] at e3
      rw [rdP_s hx, lwP_s e3, e1, e2]
      by_cases h1 : tc t n (rdC t n false p l).1 = 159
      · rw [if_pos h1, if_pos h1, ← toLw_a]; exact ih _ _ _
      · rw [if_neg h1, if_neg h1]
        by_cases h2 : tc t n (rdC t n false p l).1 = 92
        · rw [if_pos h2, if_pos h2, ← toLw_a]; rfl
        · rw [if_neg h2, if_neg h2]; rfl
theorem orP_rd {t : Nat → Nat} {n : Nat} : ∀ (m p l : Nat) (d : RdT), orP t n m p l (toOr d) = ((rdP t n true m p l d).1, (rdP t n true m p l d).2.map toOr) := by
  intro m
  induction m with
  | zero => intro p l d; rfl
  | succ m ih =>
    intro p l d
    have hc := clO_rd (t := t) (n := n) (p := p) (l := l)
    have e1 : (clO t n p l).1 = (rdC t n true p l).1 := by rw [hc]; rfl
    have e2 : (clO t n p l).2.1 = (rdC t n true p l).2.1 := by rw [hc]; rfl
    have e3 : (clO t n p l).2.2 = (rdC t n true p l).2.2.map toO := by rw [hc]; rfl
    cases hx : (rdC t n true p l).2.2 with
    | none => rw [hx] at e3; rw [rdP_n hx, orP_n e3, e1]; rfl
    | some x =>
      rw [hx] at e3
      rw [rdP_s hx, orP_s e3, e1, e2]
      by_cases h1 : tc t n (rdC t n true p l).1 = 159
      · rw [if_pos h1, if_pos h1, ← toOr_a]; exact ih _ _ _
      · rw [if_neg h1, if_neg h1]
        by_cases h2 : tc t n (rdC t n true p l).1 = 92
        · rw [if_pos h2, if_pos h2, ← toOr_a]; rfl
        · rw [if_neg h2, if_neg h2]; rfl
theorem lwR_rd {t : Nat → Nat} {n : Nat} : lwR t n = ((rdR t n false).1, (rdR t n false).2.map toLw) := lwP_rd 12 (skp t n 0) 0 (rd0 false)
theorem orR_rd {t : Nat → Nat} {n : Nat} : orR t n = ((rdR t n true).1, (rdR t n true).2.map toOr) := orP_rd 12 (skp t n 0) 0 (rd0 true)
