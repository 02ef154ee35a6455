/-! what every call keeps of the state -/
theorem bnd_cl {x : Int32} {n : Nat} (hn : n < 2 ^ 31) (h : bnd x n = true) : cln x < n := by
  obtain ⟨j, hj, e⟩ := bnd_ex hn h
  rw [e, cln_nI (by omega)]; exact hj
theorem mix_set {q s : Nat → Nat} {i v : Nat} (h : i < 5 ∨ 80 ≤ i) : mix (setq q i v) s = setq (mix q s) i v := by
  funext j
  show (if 5 ≤ j ∧ j < 80 then s j else if j = i then v else q j) = if j = i then v else (if 5 ≤ j ∧ j < 80 then s j else q j)
  by_cases e : j = i
  · subst e
    rw [if_neg (by omega), if_pos rfl, if_pos rfl]
  · by_cases z : 5 ≤ j ∧ j < 80
    · rw [if_pos z, if_neg e, if_pos z]
    · rw [if_neg z, if_neg e, if_neg e, if_neg z]
theorem mix_mix {q s s' : Nat → Nat} : mix (mix q s) s' = mix q s' := by
  funext j
  unfold mix
  by_cases z : 5 ≤ j ∧ j < 80
  · rw [if_pos z, if_pos z]
  · rw [if_neg z, if_neg z, if_neg z]
section WF
variable {A : AT}
theorem wfA_x (h : wfA A) {x : XT} : wfA (sx A x) := h
theorem wfA_un (h : wfA A) {q' : Nat → Nat} (hq : wq q') (h3 : q' 3 = aq A 3) : wfA (un0 (sq A q')) := ⟨hq, fun l hl => h.2.1 l (by have hl : l < q' 3 := hl; omega), Nat.zero_le _, fun k hk => absurd hk (Nat.not_lt_zero k), h.2.2.2.2⟩
/-- a change that what may be undone has too -/
theorem wfA_ch (h : wfA A) {q' : Nat → Nat} (hq : wq q') (h3 : q' 3 = aq A 3) (hm : ∀ s, wq (mix (aq A) s) → wq (mix q' s)) : wfA (sq A q') := ⟨hq, fun l hl => h.2.1 l (by have hl : l < q' 3 := hl; omega), h.2.2.1, fun k hk => ⟨hm _ (h.2.2.2.1 k hk).1, (h.2.2.2.1 k hk).2⟩, h.2.2.2.2⟩
theorem wfA_tp (h : wfA A) {t : Nat × (Nat → Nat)} (h1 : t.1 ≤ 400) (h2 : ∀ i, i < t.1 → t.2 i < 256) : wfA (stp A t) := ⟨h.1, h.2.1, h.2.2.1, h.2.2.2.1, h.2.2.2.2.1, h1, h2, h.2.2.2.2.2.2.2⟩
theorem wf_box (h : wfA A) (x : Int32) : wfA (spBox A x).2 := by
  unfold spBox
  split
  · rename_i hx
    have hc := bnd_cl (by omega) hx
    split
    · exact h
    · rename_i h6
      have hnb := h.1.nb
      exact wfA_un (q' := setq (setq (aq A) (62 + aq A 0) (cln x)) 0 (aq A 0 + 1)) h (h.1.addb (v := cln x) (by omega) (by omega)) (by rw [setq_n (by omega), setq_n (by omega)])
  · exact h
theorem wf_pins (h : wfA A) (x y z : Int32) : wfA (spPins A x y z).2 := by
  have hnb := h.1.nb
  unfold spPins
  split
  · rename_i hx
    have h1 := bnd_cl (by omega) hx.1
    have h2 := bnd_cl (by omega) hx.2
    split
    · rename_i hb
      have h3 := bnd_cl (by omega) hb
      exact wfA_un h (h.1.pin h3 h1 h2) (setq_n (by omega))
    · exact h
  · exact h
theorem wf_suitor (h : wfA A) (x y : Int32) : wfA (spSuitor A x y).2 := by
  have hns := h.1.ns
  unfold spSuitor
  split
  · rename_i hx
    have h1 := bnd_cl (by omega) hx.1
    have h2 := bnd_cl (by omega) hx.2
    split
    · exact h
    · rename_i h6
      have w1 := (h.1.ear1 (n := aq A 1) (v := cln x) (by omega) h1).want1 (n := aq A 1) (v := cln y) (by omega) (by omega)
      have e1 : setq (setq (aq A) (80 + aq A 1) (cln x)) (86 + aq A 1) (cln y) 1 = aq A 1 := by rw [setq_n (by omega), setq_n (by omega)]
      exact wfA_un (q' := setq (setq (setq (aq A) (80 + aq A 1) (cln x)) (86 + aq A 1) (cln y)) 1 (aq A 1 + 1)) h (w1.nsu ⟨by rw [e1]; omega, by omega⟩) (by rw [setq_n (by omega), setq_n (by omega), setq_n (by omega)])
  · exact h
theorem wf_terms (h : wfA A) (x y : Int32) : wfA (spTerms A x y).2 := by
  unfold spTerms
  split
  · rename_i hx
    have h1 := bnd_cl (by omega) hx.1
    have ht : tmx (cln x) < 2 ^ 31 := by
      unfold tmx
      by_cases z : cln x = 0
      · rw [if_pos z]; omega
      · rw [if_neg z]; split <;> omega
    have h2 := bnd_cl ht hx.2
    exact wfA_un h (h.1.ter h1 h2) (setq_n (by omega))
  · exact h
theorem wf_force (h : wfA A) (x : Int32) : wfA (spForce A x).2 := by
  have hnl := h.1.nl
  unfold spForce
  split
  · rename_i hx
    have h1 := (isl_ex (by omega) hx).1
    exact wfA_x (wfA_ch h (h.1.forc h1) (setq_n (by omega)) fun s hs => by rw [mix_set (by omega)]; exact hs.forc (by rw [mix_o (by omega)]; exact h1))
  · exact h
theorem wf_hear (h : wfA A) (x y z : Int32) : wfA (spHear A x y z).2 := by
  have hnh := h.1.nh
  unfold spHear
  split
  · rename_i hx
    have h1 := bnd_cl (by omega) hx.1
    have h2 := bnd_cl (by omega) hx.2.1
    have h3 := bnd_cl (by omega) hx.2.2
    split
    · exact h
    · rename_i h8
      have key : ∀ q, wq q → wq (setq (setq (setq (setq q (92 + 3 * aq A 2) (cln x)) (92 + 3 * aq A 2 + 1) (cln y)) (92 + 3 * aq A 2 + 2) (cln z)) 2 (aq A 2 + 1)) := fun q hq => (((hq.he0 (by omega) h1).he1 (by omega) h2).he2 (v := cln z) (by omega) (by omega)).heard (by omega)
      exact wfA_x (wfA_ch h (key _ h.1) (by rw [setq_n (by omega), setq_n (by omega), setq_n (by omega), setq_n (by omega)]) fun s hs => by rw [mix_set (by omega), mix_set (by omega), mix_set (by omega), mix_set (by omega)]; exact key _ hs)
  · exact h
theorem wf_forget (h : wfA A) : wfA (sq A (setq (aq A) 2 0)) := wfA_ch h (h.1.heard (by omega)) (setq_n (by omega)) fun s hs => by rw [mix_set (by omega)]; exact hs.heard (by omega)
theorem wf_feed (h : wfA A) (a b c d e : Int32) : wfA (spFeed A a b c d e).2 := by
  unfold spFeed
  split
  · rename_i hx
    have key : ∀ (t : Nat × (Nat → Nat)) (v : Int32), (∀ i, i < t.1 → t.2 i < 256) → ∀ i, i < (put4 t v).1 → (put4 t v).2 i < 256 := by
      intro t v ht i hi
      have hi : i < t.1 + 4 := hi
      show (if t.1 ≤ i ∧ i < t.1 + 4 then byt v (i - t.1) else t.2 i) < 256
      split
      · exact byt_lt _ _
      · exact ht i (by omega)
    exact wfA_tp h (by show (atp A).1 + 4 + 4 + 4 + 4 + 4 ≤ 400; omega) (key _ _ (key _ _ (key _ _ (key _ _ (key _ _ h.2.2.2.2.2.2.1)))))
  · exact h
theorem wf_end (h : wfA A) (x : Int32) : wfA (spEnd A x).2 := by
  have h4 := h.2.2.2.2.2.1
  unfold spEnd
  split
  · rename_i hx
    have h1 := bnd_cl (by omega) hx
    exact wfA_tp h (by show cln x ≤ 400; omega) (fun i hi => h.2.2.2.2.2.2.1 i (by have hi : i < cln x := hi; omega))
  · exact h
theorem wf_undo (h : wfA A) : wfA (spUndo A).2 := by
  unfold spUndo
  split
  · exact h
  · rename_i h0
    have hu := h.2.2.1
    have hm := (h.2.2.2.1 ((aun A).1 - 1) (by omega)).1
    refine wfA_x (A := und1 A) ⟨hm, fun l hl => h.2.1 l ?_, by show (aun A).1 - 1 ≤ 16; omega, fun k hk => ⟨?_, (h.2.2.2.1 k (by have hk : k < (aun A).1 - 1 := hk; omega)).2⟩, h.2.2.2.2⟩
    · have hl : l < mix (aq A) ((aun A).2.1 ((aun A).1 - 1)) 3 := hl
      rw [mix_o (by omega)] at hl; exact hl
    · show wq (mix (mix (aq A) ((aun A).2.1 ((aun A).1 - 1))) ((aun A).2.1 k))
      rw [mix_mix]
      exact (h.2.2.2.1 k (by have hk : k < (aun A).1 - 1 := hk; omega)).1
theorem wf_tll {d : Nat × Nat × AT} (h : Dok A d) : wfA (tll d).2 := by
  show wfA (if d.1 = 0 then ok0 d.2.2 else rfs d.2.2 d.1)
  split
  · exact h.1
  · exact h.1
theorem wf_pull (h : wfA A) (x y z : Int32) : wfA (spPull A x y z).2 := wf_tll (dPull_k h x y z)
theorem wf_snap (h : wfA A) (x y : Int32) : wfA (spSnap A x y).2 := wf_tll (dSnap_k h x y)
theorem wf_wed (h : wfA A) (x y : Int32) : wfA (spWed A x y).2 := wf_tll (dWed_k h x y)
theorem wf_pass (h : wfA A) : wfA (spPass A).2 := wf_tll (dPass_k h)
theorem wf_image (h : wfA A) (x : Int32) : wfA (spImage A x).2 := by
  unfold spImage
  split
  · refine wfA_x (A := sim A (fun k => if k = cln x then (true, aq A, alw A) else aim A k)) ⟨h.1, h.2.1, h.2.2.1, h.2.2.2.1, fun k hk => ?_, h.2.2.2.2.2⟩
    show ((if k = cln x then (true, aq A, alw A) else aim A k : Bool × (Nat → Nat) × (Nat → LawT)).1 = true → wq (if k = cln x then (true, aq A, alw A) else aim A k : Bool × (Nat → Nat) × (Nat → LawT)).2.1 ∧ ∀ l, l < (if k = cln x then (true, aq A, alw A) else aim A k : Bool × (Nat → Nat) × (Nat → LawT)).2.1 3 → lawOk ((if k = cln x then (true, aq A, alw A) else aim A k : Bool × (Nat → Nat) × (Nat → LawT)).2.2 l))
    by_cases e : k = cln x
    · rw [if_pos e]; exact fun _ => ⟨h.1, h.2.1⟩
    · rw [if_neg e]; exact h.2.2.2.2.1 k hk
  · exact h
theorem wf_back (h : wfA A) (x : Int32) : wfA (spBack A x).2 := by
  unfold spBack
  split
  · rename_i hx
    have h1 := bnd_cl (by omega) hx
    split
    · rename_i hi
      have h2 := h.2.2.2.2.1 (cln x) h1 hi
      exact wfA_x (A := sql (un0 A) (aim A (cln x)).2.1 (aim A (cln x)).2.2) ⟨h2.1, h2.2, Nat.zero_le _, fun k hk => absurd hk (Nat.not_lt_zero k), h.2.2.2.2⟩
    · exact h
  · exact h
theorem wf_row (h : wfA A) : wfA (spRow A).2 := by
  unfold spRow
  split
  · exact h
  · have hr := rws_ok (had := (atp A).1) h.1 h.2.2.2.2.2.2.1 (((atp A).1 + 2) / 3)
    exact wfA_un (A := stp A (0, (atp A).2)) (wfA_tp h (Nat.zero_le _) fun i hi => absurd hi (Nat.not_lt_zero i)) hr.1 hr.2.2.1
theorem wf_gen (h : wfA A) (x y : Int32) : wfA (spGen A x y).2 := by
  have hnb := h.1.nb
  unfold spGen
  split
  · rename_i hx
    have h1 := bnd_cl (by omega) hx.1
    split
    · exact h
    · rename_i h0
      have hg := gnr_ok (law := lwf A) h.1 (by omega) (s := cln x) (by omega) (cln y)
      refine wfA_x (A := sdr A (aq A 0 + 1, dra (gnr (lwf A) (aq A) (cln x) (cln y)).1)) ⟨h.1, h.2.1, h.2.2.1, h.2.2.2.1, h.2.2.2.2.1, h.2.2.2.2.2.1, h.2.2.2.2.2.2.1, by show aq A 0 + 1 ≤ 7; omega, fun w b hw hb => ?_⟩
      show dra (gnr (lwf A) (aq A) (cln x) (cln y)).1 w b ≤ 64
      unfold dra
      split
      · exact nts_le _ _
      · split
        · have := hg.1.2.2.2.2.2.2.2.2.2.2.1 b hb; omega
        · have := hg.1.le b hb; omega
  · exact h
theorem rnT_k {x : OC} : ∀ (m : Nat) (s s' : RT), wfA s.1 → s.2.2 ≤ 1001 → rnT x m s = some s' → wfA s'.1 ∧ s'.2.2 ≤ 1001 := by
  intro m
  induction m with
  | zero => intro s s' h1 h2 h; cases h; exact ⟨h1, h2⟩
  | succ m ih =>
    intro s s' h1 h2 h
    cases hr : rn1 x s with
    | none => rw [rnT_n hr] at h; cases h
    | some s1 =>
      rw [rnT_s hr] at h
      obtain ⟨k1, k2, k3, k4⟩ := rn1_k h1 h2 hr
      exact ih s1 s' k1 k3 h
theorem rnC_k {f : Nat → OC} : ∀ (m k : Nat) (s s' : RT), wfA s.1 → s.2.2 ≤ 1001 → (rnC f m k s).2 = some s' → wfA s'.1 := by
  intro m
  induction m with
  | zero => intro k s s' h1 h2 h; cases h; exact h1
  | succ m ih =>
    intro k s s' h1 h2 h
    cases hr : rnT (f k) (f k).2.1 s with
    | none => rw [rnC_n hr] at h; cases h
    | some s1 =>
      rw [rnC_s hr] at h
      obtain ⟨k1, k2⟩ := rnT_k _ _ _ h1 h2 hr
      exact ih (k + 1) s1 s' k1 k2 h
theorem wf_orders (h : wfA A) : wfA (spOrders A).2 := by
  have hB : wfA (sfl (tp0 (sst A (-1))) (-1)) := h.tB
  cases hr : (orR (atp A).2 (atp A).1).2 with
  | none =>
    have e : spOrders A = (-(nI 6), rfs (sfl (tp0 (sst A (-1))) (nI (orR (atp A).2 (atp A).1).1)) 6) := by unfold spOrders; rw [hr]
    rw [e]
    exact wfA_x h.tB
  | some od =>
    have e : spOrders A = orE (sfl (tp0 (sst A (-1))) (-1)) od := by unfold spOrders; rw [hr]
    rw [e]
    generalize sfl (tp0 (sst A (-1))) (-1) = A1 at hB
    cases hs : (rnC od.2 od.1 0 (A1, 0, 0)).2 with
    | none =>
      have e2 : orE A1 od = (-(nI 3), rfs (sst A1 (nI (rnC od.2 od.1 0 (A1, 0, 0)).1)) 3) := by unfold orE; rw [hs]
      rw [e2]
      exact wfA_x (wfA_x hB)
    | some s =>
      have e2 : orE A1 od = (nI s.2.1, ok0 s.1) := by unfold orE; rw [hs]
      rw [e2]
      exact wfA_x (rnC_k _ _ _ s hB (Nat.zero_le _) hs)
theorem wf_law {E : EnT} {S : ST} {I : IT} {B : Nat} (h : wfA A) (hC : CR E S B I (spLaw A).2) : wfA (spLaw A).2 := by
  have hnl := h.1.nl
  have h0 : wfA (tp0 A) := wfA_tp h (Nat.zero_le _) fun i hi => absurd hi (Nat.not_lt_zero i)
  have hlw := hC.2.1.1
  by_cases h6 : aq A 3 = 6
  · have e : spLaw A = (-(nI 5), rfs (tp0 A) 5) := by unfold spLaw; rw [if_pos h6]
    rw [e]
    exact wfA_x h0
  · cases hr : (lwR (atp A).2 (atp A).1).2 with
    | none =>
      have e : spLaw A = (-(nI 6), rfs (sfl (tp0 A) (nI (lwR (atp A).2 (atp A).1).1)) 6) := by unfold spLaw; rw [if_neg h6, hr]
      rw [e]
      exact wfA_x (wfA_x h0)
    | some law =>
      have e : spLaw A = (nI (aq A 3), ok0 (sq (sla (sfl (tp0 A) (-1)) (setf (alw A) (aq A 3) law)) (setq (aq A) 3 (aq A 3 + 1)))) := by unfold spLaw; rw [if_neg h6, hr]
      rw [e] at hlw ⊢
      have key : ∀ q : Nat → Nat, wq q → q 3 = aq A 3 → wq (setq q 3 (aq A 3 + 1)) := fun q hq e => hq.nlaw (by omega) (by have := hq.fo; omega)
      refine wfA_x (A := sq (sla (sfl (tp0 A) (-1)) (setf (alw A) (aq A 3) law)) (setq (aq A) 3 (aq A 3 + 1))) ⟨key _ h.1 rfl, fun l hl => ?_, h.2.2.1, fun k hk => ⟨?_, (h.2.2.2.1 k hk).2⟩, h0.2.2.2.2⟩
      · obtain ⟨a, _, a2, _⟩ := hlw l hl
        exact a2.ok
      · show wq (mix (setq (aq A) 3 (aq A 3 + 1)) ((aun A).2.1 k))
        rw [mix_set (by omega)]
        exact key _ (h.2.2.2.1 k hk).1 (mix_o (by omega))
end WF
