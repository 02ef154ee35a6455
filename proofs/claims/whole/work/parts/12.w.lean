/-! arrays, new cells, calls, returns -/
section VW
variable {E : EnT} {k : MI} {R : Room} {Q : QT} {cl sl : Nat} {S : ST} {I : IT} {L : LT} {pc : Nat} {ls : List (Nat × Value)} {st : List Value}
theorem V_iaload {a n j : Nat} (hd : decode k.2.1 pc = .ok (.iaload, 1)) (ha : isA E S a 0 n) (hn : n < 2 ^ 31) (hj : j < n) (h : V E k R Q cl sl S I L (pc + 1) ls (.int (I a j) :: st)) : V E k R Q cl sl S I L pc ls (.int (nI j) :: .ref a :: st) := by
  intro p e s m args below meth c H locs lsA hc hr hS hl
  refine va_iald hc.1 hc.2.1 hc.2.2.2.2.2.2.2.1.1 (hr.A ha) 0 0 (n := n) (f := I a) rfl rfl (vp_in_nI hj hn) hd ?_
  rw [nI_clamp (by omega)]
  exact h p e s m args below meth c H locs lsA hc hr hS hl
theorem V_baload {a n j : Nat} (hd : decode k.2.1 pc = .ok (.baload, 1)) (ha : isA E S a 2 n) (hn : n < 2 ^ 31) (hj : j < n) (h : V E k R Q cl sl S I L (pc + 1) ls (.int (I a j) :: st)) : V E k R Q cl sl S I L pc ls (.int (nI j) :: .ref a :: st) := by
  intro p e s m args below meth c H locs lsA hc hr hS hl
  refine va_zald hc.1 hc.2.1 hc.2.2.2.2.2.2.2.1.1 (hr.A ha) 0 2 (n := n) (f := I a) rfl rfl (vp_in_nI hj hn) hd ?_
  rw [nI_clamp (by omega)]
  exact h p e s m args below meth c H locs lsA hc hr hS hl
theorem V_laload {a n j : Nat} (hd : decode k.2.1 pc = .ok (.laload, 1)) (ha : isA E S a 1 n) (hn : n < 2 ^ 31) (hj : j < n) (h : V E k R Q cl sl S I L (pc + 1) ls (.long (L a j) :: st)) : V E k R Q cl sl S I L pc ls (.int (nI j) :: .ref a :: st) := by
  intro p e s m args below meth c H locs lsA hc hr hS hl
  refine va_lald hc.1 hc.2.1 hc.2.2.2.2.2.2.2.1.1 (hr.A ha) 0 1 (n := n) (f := L a) rfl rfl (vp_in_nI hj hn) hd ?_
  rw [nI_clamp (by omega)]
  exact h p e s m args below meth c H locs lsA hc hr hS hl
theorem V_aaload {a n j t q : Nat} (hd : decode k.2.1 pc = .ok (.aaload, 1)) (ha : isA E S a t n) (ht : t = 3 ∨ t = 4 ∨ t = 5) (hn : n < 2 ^ 31) (hj : j < n) (hq : S.2.2 a j = some q) (h : V E k R Q cl sl S I L (pc + 1) ls (.ref q :: st)) : V E k R Q cl sl S I L pc ls (.int (nI j) :: .ref a :: st) := by
  intro p e s m args below meth c H locs lsA hc hr hS hl
  have key : W p E.1 e R s m args below meth c H locs cl sl (Q below args s) (F0 m (pc + 1) lsA (va_rf (S.2.2 a (nI j).toNatClampNeg) :: st)) := by
    rw [nI_clamp (by omega), hq]
    exact h p e s m args below meth c H locs lsA hc hr hS hl
  rcases ht with rfl | rfl | rfl
  · exact va_aldq (C := RX9) hc.1 hc.2.1 hc.2.2.2.2.2.2.2.1.1 (hr.A ha) 0 3 (n := n) (f := S.2.2 a) rfl rfl (vp_in_nI hj hn) hd key
  · exact va_aldq (C := RX10) hc.1 hc.2.1 hc.2.2.2.2.2.2.2.1.1 (hr.A ha) 0 4 (n := n) (f := S.2.2 a) rfl rfl (vp_in_nI hj hn) hd key
  · exact va_aldq (C := RX7) hc.1 hc.2.1 hc.2.2.2.2.2.2.2.1.1 (hr.A ha) 0 5 (n := n) (f := S.2.2 a) rfl rfl (vp_in_nI hj hn) hd key
theorem V_alen {a n t : Nat} (hd : decode k.2.1 pc = .ok (.arraylength, 1)) (ha : isA E S a t n) (ht : t < 6) (h : V E k R Q cl sl S I L (pc + 1) ls (.int (nI n) :: st)) : V E k R Q cl sl S I L pc ls (.ref a :: st) := by
  intro p e s m args below meth c H locs lsA hc hr hS hl
  have hw := h p e s m args below meth c H locs lsA hc hr hS hl
  have ht' : t = 0 ∨ t = 1 ∨ t = 2 ∨ t = 3 ∨ t = 4 ∨ t = 5 := by omega
  rcases ht' with rfl | rfl | rfl | rfl | rfl | rfl
  · exact va_alen hc.1 hc.2.1 hc.2.2.2.2.2.2.2.1.1 (hr.A ha) 0 0 rfl rfl rfl hd hw
  · exact va_alen hc.1 hc.2.1 hc.2.2.2.2.2.2.2.1.1 (hr.A ha) 0 1 rfl rfl rfl hd hw
  · exact va_alen hc.1 hc.2.1 hc.2.2.2.2.2.2.2.1.1 (hr.A ha) 0 2 rfl rfl rfl hd hw
  · exact va_alen hc.1 hc.2.1 hc.2.2.2.2.2.2.2.1.1 (hr.A ha) 0 3 rfl rfl rfl hd hw
  · exact va_alen hc.1 hc.2.1 hc.2.2.2.2.2.2.2.1.1 (hr.A ha) 0 4 rfl rfl rfl hd hw
  · exact va_alen hc.1 hc.2.1 hc.2.2.2.2.2.2.2.1.1 (hr.A ha) 0 5 rfl rfl rfl hd hw
theorem upd_up2 {α : Type} (f : Nat → Nat → α) (a j : Nat) (x : α) (q : Nat) : up2 f a j x a q = if q = j then x else f a q := by simp [up2]
theorem V_iastore {a n j : Nat} {x : Int32} (hd : decode k.2.1 pc = .ok (.iastore, 1)) (ha : isA E S a 0 n) (hn : n < 2 ^ 31) (hj : j < n) (h : V E k R Q cl sl S (up2 I a j x) L (pc + 1) ls st) : V E k R Q cl sl S I L pc ls (.int x :: .int (nI j) :: .ref a :: st) := by
  intro p e s m args below meth c H locs lsA hc hr hS hl
  have hin : vp_in (nI j) n := vp_in_nI hj hn
  refine W.iast hc.1 hc.2.1 (hr.cA ha) ((hc.2.2.2.2.2.2.2.1.1.2 0 _ rfl).1 n (fun j => .int (I a j))) (fun q => by cases q) (by show ¬ (nI j < 0 ∨ (arrV _ _ _).slots.size ≤ _); rw [arrV_size]; exact hin) rfl rfl hd fun H1 e1 z oq => ?_
  refine h p e s m args below meth c H1 _ lsA hc (hr.upd1 z oq rfl (fun q hq => cellE_ne rfl (up2_row hq) rfl rfl) ?_) (hS.put z oq ha.1.1) hl
  rw [cellE_A ha]
  show H1[a]? = some (vp_cell _ (n, .inl (up2 I a j x a)))
  rw [e1]
  show some ((vp_cell _ (n, .inl (I a))).setSlot _ _) = _
  rw [vp_cell_i, vp_cell_i, arrV_store, nI_clamp (by omega)]
  congr 2
  funext q
  rw [upd_up2]
  by_cases hq : q = j
  · subst hq; simp [updV]
  · simp [updV, hq]
theorem V_bastore {a n j : Nat} {x : Int32} (hd : decode k.2.1 pc = .ok (.bastore, 1)) (ha : isA E S a 2 n) (hn : n < 2 ^ 31) (hj : j < n) (hx : narrow .boolean (.int x) = .int x) (h : V E k R Q cl sl S (up2 I a j x) L (pc + 1) ls st) : V E k R Q cl sl S I L pc ls (.int x :: .int (nI j) :: .ref a :: st) := by
  intro p e s m args below meth c H locs lsA hc hr hS hl
  have hin : vp_in (nI j) n := vp_in_nI hj hn
  refine W.zast hc.1 hc.2.1 (hr.cA ha) ((hc.2.2.2.2.2.2.2.1.1.2 2 _ rfl).1 n (fun j => .int (I a j))) (fun q => by cases q) (by show ¬ (nI j < 0 ∨ (arrV _ _ _).slots.size ≤ _); rw [arrV_size]; exact hin) rfl rfl hd fun H1 e1 z oq => ?_
  refine h p e s m args below meth c H1 _ lsA hc (hr.upd1 z oq rfl (fun q hq => cellE_ne rfl (up2_row hq) rfl rfl) ?_) (hS.put z oq ha.1.1) hl
  rw [cellE_A ha]
  show H1[a]? = some (vp_cell _ (n, .inl (up2 I a j x a)))
  rw [e1, hx]
  show some ((vp_cell _ (n, .inl (I a))).setSlot _ _) = _
  rw [vp_cell_i, vp_cell_i, arrV_store, nI_clamp (by omega)]
  congr 2
  funext q
  rw [upd_up2]
  by_cases hq : q = j
  · subst hq; simp [updV]
  · simp [updV, hq]
theorem V_lastore {a n j : Nat} {x : Int64} (hd : decode k.2.1 pc = .ok (.lastore, 1)) (ha : isA E S a 1 n) (hn : n < 2 ^ 31) (hj : j < n) (h : V E k R Q cl sl S I (up2 L a j x) (pc + 1) ls st) : V E k R Q cl sl S I L pc ls (.long x :: .int (nI j) :: .ref a :: st) := by
  intro p e s m args below meth c H locs lsA hc hr hS hl
  have hin : vp_in (nI j) n := vp_in_nI hj hn
  refine W.last hc.1 hc.2.1 (hr.cA ha) ((hc.2.2.2.2.2.2.2.1.1.2 1 _ rfl).1 n (fun j => .long (L a j))) (fun q => by cases q) (by show ¬ (nI j < 0 ∨ (arrV _ _ _).slots.size ≤ _); rw [arrV_size]; exact hin) rfl rfl hd fun H1 e1 z oq => ?_
  refine h p e s m args below meth c H1 _ lsA hc (hr.upd1 z oq rfl (fun q hq => cellE_ne rfl rfl (up2_row hq) rfl) ?_) (hS.put z oq ha.1.1) hl
  rw [cellE_A ha]
  show H1[a]? = some (vp_cell _ (n, .inr (.inl (up2 L a j x a))))
  rw [e1]
  show some ((vp_cell _ (n, .inr (.inl (L a)))).setSlot _ _) = _
  rw [vp_cell_l, vp_cell_l, arrV_store, nI_clamp (by omega)]
  congr 2
  funext q
  rw [upd_up2]
  by_cases hq : q = j
  · subst hq; simp [updV]
  · simp [updV, hq]
theorem V_aastore {a n j t ci v : Nat} (hd : decode k.2.1 pc = .ok (.aastore, 1)) (ha : isA E S a t n) (hn : n < 2 ^ 31) (hj : j < n) (hv : isO E S v ci) (ht : (t = 3 ∧ ci = 9) ∨ (t = 4 ∧ ci = 10) ∨ (t = 5 ∧ ci = 7)) (h : V E k R Q cl sl (S.1, S.2.1, up2 S.2.2 a j (some v)) I L (pc + 1) ls st) : V E k R Q cl sl S I L pc ls (.ref v :: .int (nI j) :: .ref a :: st) := by
  intro p e s m args below meth c H locs lsA hc hr hS hl
  have hin : vp_in (nI j) n := vp_in_nI hj hn
  have hlt : (nI j).toNatClampNeg < n := Nat.not_le.mp fun q => hin (Or.inr q)
  have h0 : ¬ nI j < 0 := fun q => hin (Or.inl q)
  have hci : ci < 13 := by omega
  have hK := hc.2.2.2.2.2.2.2.1.1
  obtain ⟨r', hr', cellV, g1, g2, g3, -⟩ := hr.O hci hv 0 _ rfl
  have hcls := (hK.1 ci _ (vwCl_at ci hci)).2
  obtain ⟨kC, hkC, -⟩ := hcls.2
  have harr : arrE S I L a t = .inr (.inr (.inr (.inr (S.2.2 a)))) := by rcases ht with ⟨rfl, -⟩ | ⟨rfl, -⟩ | ⟨rfl, -⟩ <;> rfl
  have hA := hr.cA ha
  rw [harr] at hA
  have kR : ∃ (kA : Class), s.vm.classes[E.2.2.1 t]? = some kA ∧ kA.kind = .array (E.2.1.1 ci) (.object (RC ci)) := by
    have f : ∀ (x : Nat), (tysE E)[x]? = some (E.2.2.1 t, .object (RC ci)) → ∃ (kA : Class), s.vm.classes[E.2.2.1 t]? = some kA ∧ kA.kind = .array (E.2.1.1 ci) (.object (RC ci)) := by
      intro x hx
      obtain ⟨kA, comp, k1, k2, k3, -⟩ := (hK.2 x _ hx).2
      have hcomp : comp = E.2.1.1 ci := Option.some.inj (k3.symm.trans hcls.1)
      subst hcomp
      exact ⟨kA, k1, k2⟩
    rcases ht with ⟨rfl, rfl⟩ | ⟨rfl, rfl⟩ | ⟨rfl, rfl⟩
    · exact f 3 rfl
    · exact f 4 rfl
    · exact f 5 rfl
  obtain ⟨kA, k1, k2⟩ := kR
  refine W.aast hc.1 hc.2.1 hA (fun q h => by cases h) (fun h => by cases h) k1 k2 rfl hkC ⟨h0, by show _ < (arrV _ _ _).slots.size; rw [arrV_size]; exact hlt⟩ g1 (fun q h => by rw [g3] at h; cases h) (by rw [g2]; exact hkC) (by rw [g2]; exact va_assign hcls) rfl rfl hd fun H1 e1 z oq => ?_
  have ha' : isA E (S.1, S.2.1, up2 S.2.2 a j (some v)) a t n := ha
  refine h p e s m args below meth c H1 _ lsA hc (hr.upd1 z oq rfl (fun q hq => cellE_ne rfl rfl rfl (up2_row hq)) ?_) (hS.put z oq ha.1.1) hl
  rw [cellE_A ha']
  have harr' : arrE (S.1, S.2.1, up2 S.2.2 a j (some v)) I L a t = .inr (.inr (.inr (.inr (up2 S.2.2 a j (some v) a)))) := by rcases ht with ⟨rfl, -⟩ | ⟨rfl, -⟩ | ⟨rfl, -⟩ <;> rfl
  rw [harr']
  show H1[a]? = some (vp_cell _ _)
  rw [e1, vp_cell_q, vp_cell_q, arrV_store, nI_clamp (by omega)]
  congr 2
  funext q
  rw [upd_up2]
  by_cases hq : q = j
  · subst hq; simp [updV, va_rf]
  · simp [updV, hq]
end VW
