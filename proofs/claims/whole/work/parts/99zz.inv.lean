/-! THE LAW: what stands between its calls -/
abbrev kL_law : MI := (yL_law, cL_law, 4, some .boolean)
def INVL (E : EnT) (B : Nat) (S : ST) (I : IT) (L : LT) (A : AT) : Prop := Lay11 E S B ∧ Lay12 E S (B + 329) ∧ CR E S B I A ∧ MR (B + 329) I L A ∧ wfA A ∧ BL E S I L ∧ B + 365 ≤ eB E + S.1
/-- the class has answered, the reference not yet -/
def MID (E : EnT) (B : Nat) (S : ST) (I : IT) (L : LT) (A A' : AT) : Prop := Lay11 E S B ∧ Lay12 E S (B + 329) ∧ CR E S B I A' ∧ MR (B + 329) I L A ∧ wfA A ∧ BL E S I L ∧ B + 365 ≤ eB E + S.1
section IV
variable {E : EnT} {S S' : ST} {I I' : IT} {L L' : LT} {B : Nat} {A A' : AT}
theorem CR.fm (h : CR E S B I A) (e : ∀ x, (x < B + 329 ∨ B + 365 ≤ x) → I' x = I x) : CR E S B I' A := by
  obtain ⟨h1, h2, h3, h4, h5, h6, h7, h8⟩ := h
  exact ⟨h1.cg fun x x1 x2 => e x (by omega), h2.cg fun x hx => e x (by omega), h3.cg fun x x1 x2 => e x (by omega), h4.cg fun x hx => e x (by omega), h5.cg fun x hx => e x (by omega), h6.cg fun x hx => e x (by omega), h7.cg fun x x1 x2 => e x (by omega), h8⟩
theorem MR.fc {o : Nat} (h : MR o I L A) (e : ∀ x, o ≤ x → x ≤ o + 35 → I' x = I x ∧ L' x = L x) : MR o I' L' A := h.dead ⟨fun a ha => (e a (by simp at ha; omega) (by simp at ha; omega)).1, fun i _ => by rw [(e o (by omega) (by omega)).1], fun a ha => (e a (by simp at ha; omega) (by simp at ha; omega)).2⟩
theorem INVL.cc (h : INVL E B S I L A) (hR : CR E S B I' A') (hF : FrC B I' I L' L) : MID E B S I' L' A A' := ⟨h.1, h.2.1, hR, h.2.2.2.1.fc fun x x1 x2 => hF x x1, h.2.2.2.2.1, h.2.2.2.2.2.1.to (fun q hq => (hF q (by have := h.2.2.2.2.2.2; omega)).1) (fun q hq => (hF q (by have := h.2.2.2.2.2.2; omega)).2), h.2.2.2.2.2.2⟩
theorem INVL.ci (h : INVL E B S I L A) (hS : SmS E S' S B) (hR : CR E S' B I' A') (hF : FrC B I' I L' L) : MID E B S' I' L' A A' := by
  obtain ⟨h1, h2, h3, h4, h5, h6, h7⟩ := h
  refine ⟨h1.nt hS.ext, h2.nt hS.ext, hR, h4.fc fun x x1 x2 => hF x x1, h5, fun q hq j => ?_, by rw [hS.1]; exact h7⟩
  rw [hS.1] at hq
  rw [(hF q (by omega)).1, (hF q (by omega)).2, hS.2.2 q (by unfold NT; omega)]
  exact h6 q hq j
theorem INVL.cn {v : Int32} {r : Option Value} (h : INVL E B S I L A) (hp : PNw E S I L B v A' r S' I' L') : r = some (.int v) ∧ MID E B S' I' L' A A' := by
  obtain ⟨h1, h2, h3, h4, h5, h6, h7⟩ := h
  obtain ⟨p1, p2, p3, p4, p5, p6, p7⟩ := hp
  subst p2
  exact ⟨p1, h1.nt p5, h2.nt p5, p3, h4.fc fun x x1 x2 => ⟨p7 x x1 (by omega), rfl⟩, h5, p4, by omega⟩
theorem MID.cm (h : MID E B S I L A A') (hM : MR (B + 329) I' L' A') (hF : FrM (B + 329) I' I L' L) (hA : wfA A') : INVL E B S I' L' A' := ⟨h.1, h.2.1, h.2.2.1.fm fun x hx => (hF x (by omega)).1, hM, hA, h.2.2.2.2.2.1.to (fun q hq => (hF q (by have := h.2.2.2.2.2.2; omega)).1) (fun q hq => (hF q (by have := h.2.2.2.2.2.2; omega)).2), h.2.2.2.2.2.2⟩
end IV
/-! the script; the law's end -/
def ScP (E : EnT) (b n : Nat) (xs : Nat → Int32) (args : Array Value) (s : State) : Prop := args = #[Value.ref b] ∧ va_X b n xs s s.heap ∧ b < s.heap.size ∧ eB E = s.heap.size
def QL (E : EnT) (b n : Nat) (xs : Nat → Int32) : QT := fun below args s t => ScP E b n xs args s → lw_Z below args s t
section LR
variable {E : EnT} {R : Room} {cl sl : Nat} {S : ST} {I : IT} {L : LT} {pc b n : Nat} {xs : Nat → Int32} {ls : List (Nat × Value)} {st : List Value}
theorem V_sld {i : Nat} (hd : decode cL_law pc = .ok (.iaload, 1)) (hi : i < n) (hn : n ≤ 3072) (h : V E kL_law R (QL E b n xs) cl sl S I L (pc + 1) ls (.int (xs i) :: st)) : V E kL_law R (QL E b n xs) cl sl S I L pc ls (.int (nI i) :: .ref b :: st) := by
  intro p e s m args below meth c H locs lsA hc hr hS hl
  by_cases hX : ScP E b n xs args s
  · have hk := h p e s m args below meth c H locs lsA hc hr hS hl
    have ec : (nI i).toNatClampNeg = i := nI_clamp (by omega)
    refine va_sld (A := EA E) (H0 := s.heap) hc.1 hc.2.1 hX.2.1 hX.2.2.1 (fun z => ?_) hS (i := nI i) (fun z => ?_) hd (by rw [ec]; exact hk)
    · have z : eB E ≤ b := z
      have := hX.2.2.1
      have := hX.2.2.2
      omega
    · rcases z with z | z
      · exact absurd z (nI_pos (by omega))
      · rw [ec] at z; omega
  · exact fun T _ _ => ⟨_, Steps.refl _, fun z => absurd z hX⟩
theorem V_slen (hd : decode cL_law pc = .ok (.arraylength, 1)) (h : V E kL_law R (QL E b n xs) cl sl S I L (pc + 1) ls (.int (nI n) :: st)) : V E kL_law R (QL E b n xs) cl sl S I L pc ls (.ref b :: st) := by
  intro p e s m args below meth c H locs lsA hc hr hS hl
  by_cases hX : ScP E b n xs args s
  · have hk := h p e s m args below meth c H locs lsA hc hr hS hl
    refine va_slen (A := EA E) (H0 := s.heap) hc.1 hc.2.1 hX.2.1 hX.2.2.1 (fun z => ?_) hS hd hk
    have z : eB E ≤ b := z
    have := hX.2.2.1
    have := hX.2.2.2
    omega
  · exact fun T _ _ => ⟨_, Steps.refl _, fun z => absurd z hX⟩
theorem V_lend (hd : decode cL_law pc = .ok (.ireturn, 1)) (h1 : cl ≤ 600000) (h2 : sl ≤ 7302249) : V E kL_law room_1 (QL E b n xs) cl sl S I L pc ls [.int (nI 1)] := by
  intro p e s m args below meth c H locs lsA hc hr hS hl
  by_cases hX : ScP E b n xs args s
  · have hx := hX
    obtain ⟨rfl, x2, x3, x4⟩ := hx
    have hw : W p E.1 e room_1 s m #[Value.ref b] below meth c H locs cl sl (lw_Z below #[Value.ref b] s) (F0 m pc lsA [.int (nI 1)]) := by
      refine W.widen h1 h2 (va_forget (fun q hq => ?_) (lw_ret hc.1 hc.2.1 hc.2.2.2.1 hc.2.2.2.2.1 hd))
      rw [← x4]; exact hS.2.2 q hq
    intro T hT X
    obtain ⟨t, a1, a2⟩ := hw T hT X
    exact ⟨t, a1, fun _ => a2⟩
  · exact fun T _ _ => ⟨_, Steps.refl _, fun z => absurd z hX⟩
theorem V_wid {k : MI} {Q : QT} {cl' sl' : Nat} (h : V E k R Q cl' sl' S I L pc ls st) (h1 : cl ≤ cl') (h2 : sl ≤ sl') : V E k R Q cl sl S I L pc ls st := by
  intro p e s m args below meth c H locs lsA hc hr hS hl
  exact W.widen h1 h2 (h p e s m args below meth c H locs lsA hc hr hS hl)
end LR
theorem and63 (v : Int32) : ∃ k, k < 64 ∧ v &&& nI 63 = nI k := by
  refine ⟨v.toBitVec.toNat % 64, Nat.mod_lt _ (by decide), ?_⟩
  apply Int32.toBitVec_inj.mp
  rw [Int32.toBitVec_and]
  apply BitVec.eq_of_toNat_eq
  rw [BitVec.toNat_and]
  show v.toBitVec.toNat &&& (63 : Nat) = (BitVec.ofNat 32 (v.toBitVec.toNat % 64)).toNat
  rw [BitVec.toNat_ofNat, show (63 : Nat) = 2 ^ 6 - 1 from rfl, Nat.and_two_pow_sub_one_eq_mod]
  omega
theorem sub6 {i n : Nat} (hi : i ≤ 4000) (hn : n ≤ 3072) : (nI n - nI 6 < nI i) ↔ ¬ (i + 6 ≤ n) := by
  have e1 : (nI n - nI 6).toInt = (n : Int) - 6 := by
    rw [Int32.toInt_sub, nI_toInt (by omega), nI_toInt (by omega)]
    have : ((n : Int) - 6).bmod (2 ^ 32) = (n : Int) - 6 := by
      apply Int.bmod_eq_of_le <;> omega
    exact this
  rw [Int32.lt_iff_toInt_lt, e1, nI_toInt (by omega)]
  omega
