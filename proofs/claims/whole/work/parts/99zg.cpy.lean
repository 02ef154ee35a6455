/-! MACHINE: a clone of a row of ints, its cast; blank cells; copyOf -/
set_option maxRecDepth 20000 in
theorem mlJ7_316 : Cond.methodLink RJ7 316 ⟨"[I", "clone", "()Ljava/lang/Object;"⟩ ∈ TT := mT1 161 rfl rfl
set_option maxRecDepth 20000 in
theorem smCln : Cond.sameMethod "[I" "java/lang/Object" "clone" "()Ljava/lang/Object;" ∈ TT := mT1 162 rfl rfl
set_option maxRecDepth 20000 in
theorem natCln : Cond.native ⟨"java/lang/Object", "clone", "()Ljava/lang/Object;"⟩ ∈ TT := mT1 163 rfl rfl
set_option maxRecDepth 20000 in
theorem imCln : Cond.instanceMethod ⟨"java/lang/Object", "clone", "()Ljava/lang/Object;"⟩ ∈ TT := mT1 164 rfl rfl
set_option maxRecDepth 20000 in
theorem selCln : Cond.selects "[I" ⟨"[I", "clone", "()Ljava/lang/Object;"⟩ ⟨"java/lang/Object", "clone", "()Ljava/lang/Object;"⟩ ∈ TT := mT1 165 rfl rfl
set_option maxRecDepth 20000 in
theorem clJ7_317 : Cond.classLink RJ7 317 "[I" ∈ TT := mT1 167 rfl rfl
section MZ
variable {E : EnT} {k : MI} {R : Room} {Q : QT} {cl sl : Nat} {S : ST} {I : IT} {L : LT} {pc : Nat} {ls : List (Nat × Value)} {st : List Value}
theorem V_clone {index a n : Nat} (hd : decode k.2.1 pc = .ok (.invokevirtual index, 3)) (hlink : Cond.methodLink k.1.cls index ⟨"[I", "clone", "()Ljava/lang/Object;"⟩ ∈ TT) (h0 : isA E S a 0 n) (hfr : 1 ≤ R.frames) (hlo : (st.map fun v => v.category).sum + 14 ≤ R.locals) (hcells : cl + 1 ≤ R.cells) (hslots : sl + n ≤ R.slots)
    (h : V E k R Q (cl + 1) (sl + n) (psh E S 13 n) (upr I (eB E + S.1) (I a)) L (pc + 3) ls (.ref (eB E + S.1) :: st)) : V E k R Q cl sl S I L pc ls (.ref a :: st) := by
  intro p e s m args below meth c H locs lsA hc hr hS hl
  have hc0 : H[a]? = some (vp_cell (E.2.2.1 0) (n, .inl (I a))) := hr.cA h0
  have hK := hc.2.2.2.2.2.2.2.1.1
  have hts := hc.2.2.2.2.2.2.1
  have hcl := hc.2.2.2.2.2.2.2.1.2.2.2.2.2
  have hnm : s.vm.findClass "[I" = some (E.2.2.1 0) := va_nm_int (hK.2 0 _ rfl).2
  have hsz : (vp_cell (E.2.2.1 0) (n, .inl (I a))).slots.size = n := arrV_size _ _ _
  have hcellE : ({ cls := (vp_cell (E.2.2.1 0) (n, .inl (I a))).cls, slots := (vp_cell (E.2.2.1 0) (n, .inl (I a))).slots } : Cell) = vp_cell (E.2.2.1 0) (n, .inl (I a)) := rfl
  obtain ⟨c0, t0', f1, f2, f3⟩ := Cond.castable_spec (va_Nw.use (A := args) rfl hcl)
  have ec : c0 = E.2.2.1 0 := Option.some.inj (f1.symm.trans hnm)
  subst ec
  intro T hT X
  have hcellT : T.heap[a]? = some (vp_cell (E.2.2.1 0) (n, .inl (I a))) := by rw [hT]; exact hc0
  obtain ⟨-, kA, hkA, comp, hkind⟩ := State.isArrayOf_alike X.warmed.alike ((hK.2 0 _ rfl).1 0 (fun _ => .null))
  obtain ⟨-, kS, hkS, compS, hkindS⟩ := (hK.2 0 _ rfl).1 0 (fun _ => .null)
  have hfit : ∀ (i : Nat) (v : Value), (vp_cell (E.2.2.1 0) (n, .inl (I a))).slots[i]? = some v → fits .int v = true := fun i v hv => va_fit (cA := E.2.2.1 0) (n := n) (F := fun j => .int (I a j)) (fun _ _ => rfl) i v hv
  obtain ⟨vm', X', step⟩ := X.cloneArray hc.1 hc.2.2.2.2.2.1 (hts _ hlink) (hts _ smCln) (hts _ natCln) (hts _ imCln) (hts _ selCln) (a := a) (cell := vp_cell (E.2.2.1 0) (n, .inl (I a))) hcellT (fun k h => by cases h) (fun h => by cases h) hnm f2 f3
    (fun i v hv => by
      have hk' : T.vm.classes[E.2.2.1 0]? = some kA := hkA
      have h9 := hfit i v hv
      rw [show (vp_cell (E.2.2.1 0) (n, .inl (I a))).cls = E.2.2.1 0 from rfl]
      simpa [State.fitsSlot, State.slotType?, hk', hkind] using h9)
    (g := F0 m pc lsA (.ref a :: st)) rfl (by rw [hc.2.2.1]; exact hl.1) rfl (by rw [hc.2.1]; exact hd) hfr (by show 2 * 0 + _ + 14 ≤ _; omega) hcells (by rw [hsz]; exact hslots) (hloader := Vm.clonesLoader_of_array hkS hkindS)
  rw [hcellE, hsz] at X'
  generalize hH1 : H.push (vp_cell (E.2.2.1 0) (n, .inl (I a))) = H1
  have z1 : H1.size = H.size + 1 := by rw [← hH1, Array.size_push]
  have e1 : H1[H.size]? = some (vp_cell (E.2.2.1 0) (n, .inl (I a))) := by rw [← hH1, Array.getElem?_push_size]
  have o1 : ∀ q : Nat, q < H.size → H1[q]? = H[q]? := fun q hq => by rw [← hH1, Array.getElem?_push, if_neg (Nat.ne_of_lt hq)]
  have hr1 : Rep E S (upr I (eB E + S.1) (I a)) L H := ⟨hr.1, fun q hq => by
    have h2 := hr.2 q hq
    rw [cellE_ne (S := S) (I := I) (L := L) (S' := S) (I' := upr I (eB E + S.1) (I a)) (L' := L) rfl (upr_row (by have := hq.2; omega)) rfl rfl]
    exact h2⟩
  obtain ⟨t, b1, b2⟩ := h p e s m args below meth c H1 locs lsA hc (hr1.push z1 o1 (by
      have hA : isA E (psh E S 13 n) (eB E + S.1) 0 n := ⟨⟨Nat.le_add_right _ _, Nat.add_lt_add_left (Nat.lt_succ_self _) _⟩, psh_sh⟩
      rw [cellE_A hA]
      show H1[eB E + S.1]? = some (vp_cell _ (n, .inl (upr I (eB E + S.1) (I a) (eB E + S.1))))
      rw [upr_self, ← hr.1]
      exact e1)) (hS.push z1 o1) hl ((T.setVm vm').pushCell (vp_cell (E.2.2.1 0) (n, .inl (I a)))) (by rw [← hH1, ← hT]; rfl) X'
  refine ⟨t, step t ?_, b2⟩
  rw [hcellE, hT, hr.1]
  exact b1
theorem V_castA {index a n : Nat} (hd : decode k.2.1 pc = .ok (.checkcast index, 3)) (hlink : Cond.classLink k.1.cls index "[I" ∈ TT) (h0 : isA E S a 0 n) (h : V E k R Q cl sl S I L (pc + 3) ls (.ref a :: st)) : V E k R Q cl sl S I L pc ls (.ref a :: st) := by
  intro p e s m args below meth c H locs lsA hc hr hS hl
  have hc0 : H[a]? = some (vp_cell (E.2.2.1 0) (n, .inl (I a))) := hr.cA h0
  have hK := hc.2.2.2.2.2.2.2.1.1
  have hts := hc.2.2.2.2.2.2.1
  refine va_castA (D := E.2.1) (cl := vwCl) (ws := [(a, .inl (E.2.2.1 0, n, .inl (I a)))]) hc.1 hc.2.1 hc.2.2.2.2.2.1 (hts _ hlink) (fun q y hy => ?_) 0 rfl (va_nm_int (hK.2 0 _ rfl).2) hd (h p e s m args below meth c H locs lsA hc hr hS hl)
  have hz : q < 1 := (List.getElem?_eq_some_iff.mp hy).1
  rw [show q = 0 by omega] at hy
  cases hy
  exact hc0
/-- the cells that are not made yet are blank -/
def BL (E : EnT) (S : ST) (I : IT) (L : LT) : Prop := ∀ q, eB E + S.1 ≤ q → ∀ j, I q j = 0 ∧ L q j = 0 ∧ S.2.2 q j = none
theorem BL.fr (h : BL E S I L) : frsh E S I L := fun j => h _ (Nat.le_refl _) j
theorem BL.pu {t n : Nat} (h : BL E S I L) : BL E (psh E S t n) I L := fun q hq j => h q (Nat.le_of_succ_le hq) j
theorem BL.ur {a : Nat} {g : Nat → Int32} (h : BL E S I L) (ha : a < eB E + S.1) : BL E S (upr I a g) L := fun q hq j => by
  rw [upr_row (show q ≠ a by omega)]; exact h q hq j
theorem BL.u2 {a i : Nat} {v : Int32} (h : BL E S I L) (ha : a < eB E + S.1) : BL E S (up2 I a i v) L := fun q hq j => by
  rw [up2_row (show q ≠ a by omega)]; exact h q hq j
theorem BL.uS {a i : Nat} {v : Option Nat} (h : BL E S I L) (ha : a < eB E + S.1) : BL E (S.1, S.2.1, up2 S.2.2 a i v) I L := fun q hq j => by
  have h1 := h q hq j
  refine ⟨h1.1, h1.2.1, ?_⟩
  show up2 S.2.2 a i v q j = none
  rw [up2_row (show q ≠ a by omega)]; exact h1.2.2
theorem BL.to {I' : IT} {L' : LT} (h : BL E S I L) (hI : ∀ q, eB E + S.1 ≤ q → I' q = I q) (hL : ∀ q, eB E + S.1 ≤ q → L' q = L q) : BL E S I' L' := fun q hq j => by rw [hI q hq, hL q hq]; exact h q hq j
theorem Ext.pu {t n : Nat} {P : Nat → Prop} : Ext E S (psh E S t n) P := fun x hx => ⟨⟨hx.1, Nat.lt_succ_of_lt hx.2⟩, if_neg (by have := hx.2; omega), fun _ => rfl⟩
theorem Ext.uS {a i : Nat} {v : Option Nat} : Ext E S (S.1, S.2.1, up2 S.2.2 a i v) (fun x => x ≠ a) := fun x hx => ⟨hx, rfl, fun h => up2_row h⟩
theorem Ext.wk {S1 : ST} {P P' : Nat → Prop} (h : Ext E S S1 P) (hp : ∀ x, P' x → P x) : Ext E S S1 P' := fun x hx => ⟨(h x hx).1, (h x hx).2.1, fun q => (h x hx).2.2 (hp x q)⟩
theorem isA_psh {t n : Nat} : isA E (psh E S (13 + t) n) (eB E + S.1) t n := ⟨⟨Nat.le_add_right _ _, Nat.add_lt_add_left (Nat.lt_succ_self _) _⟩, psh_sh⟩
theorem isO_psh {ci : Nat} : isO E (psh E S ci 0) (eB E + S.1) ci := ⟨⟨Nat.le_add_right _ _, Nat.add_lt_add_left (Nat.lt_succ_self _) _⟩, by rw [psh_sh]⟩
theorem c_J7_copyOf_59c91 {a n0 n : Nat} (h0 : isA E S a 0 n0) (hn : n ≤ n0) (hn0 : n0 < 1000) (hB : BL E S I L) : C E kJ7_copyOf_59c91 1 1 n [.ref a, .int (nI n)] S I L (fun r S' I' L' => r = some (.ref (eB E + S.1)) ∧ S' = psh E S 13 n ∧ L' = L ∧ ∃ g, I' = upr I (eB E + S.1) g ∧ ∀ j, j < n → g j = I a j) := by
  have hf := hB.fr
  have hsl : 0 + n ≤ (rmOf 1 1 n).slots := Nat.le_of_eq (Nat.zero_add n)
  have hcc : 0 + 1 ≤ (rmOf 1 1 n).cells := Nat.le_refl 1
  refine C_of (by decide) (Nat.le_of_ble_eq_true rfl) ?_
  by_cases e : n = n0
  · subst e
    have hA := isA_psh (E := E) (S := S) (t := 0) (n := n)
    refine V_iload_n (pc := 0) dJ7_copyOf_59c91_0 rfl ?_
    refine V_aload_n (pc := 1) dJ7_copyOf_59c91_1 rfl ?_
    refine V_alen (pc := 2) dJ7_copyOf_59c91_2 (by assumption) (by decide) ?_
    refine V_icmp_neN (pc := 3) (tgt := 14) dJ7_copyOf_59c91_3 (by decide) (by omega) (by omega) (fun c3 => absurd c3 (by omega)) (fun n3 => ?_)
    refine V_aload_n (pc := 6) dJ7_copyOf_59c91_6 rfl ?_
    refine V_clone (pc := 7) dJ7_copyOf_59c91_7 mlJ7_316 h0 (Nat.le_of_ble_eq_true rfl) (Nat.le_of_ble_eq_true rfl) hcc hsl ?_
    refine V_castA (pc := 10) dJ7_copyOf_59c91_10 clJ7_317 hA ?_
    refine V_aret (pc := 13) dJ7_copyOf_59c91_13 rfl (by simp) (by simp) (by first | decide | omega) (by first | decide | omega) ?_
    exact ⟨rfl, rfl, rfl, _, rfl, fun j hj => rfl⟩
  · have hA := isA_psh (E := E) (S := S) (t := 0) (n := n)
    have h0' : isA E (psh E S 13 n) a 0 n0 := h0.ext (P := fun _ => True) Ext.pu
    have hne : a ≠ eB E + S.1 := by have := h0.1.2; omega
    refine V_iload_n (pc := 0) dJ7_copyOf_59c91_0 rfl ?_
    refine V_aload_n (pc := 1) dJ7_copyOf_59c91_1 rfl ?_
    refine V_alen (pc := 2) dJ7_copyOf_59c91_2 (by assumption) (by decide) ?_
    refine V_icmp_neN (pc := 3) (tgt := 14) dJ7_copyOf_59c91_3 (by decide) (by omega) (by omega) (fun c3 => ?_) (fun n3 => absurd n3 (by omega))
    refine V_iload_n (pc := 14) dJ7_copyOf_59c91_14 rfl ?_
    refine V_newarray (pc := 15) (t := 0) dJ7_copyOf_59c91_15 (by decide) acI (by first | decide | omega) (by assumption) (by first | decide | omega) (by first | decide | omega) ?_
    refine V_astore_n (pc := 17) (ls' := [(0, _), (1, _), (2, _)]) dJ7_copyOf_59c91_17 (by decide) rfl ?_
    refine V_aload_n (pc := 18) dJ7_copyOf_59c91_18 rfl ?_
    refine V_iconst (pc := 19) (v := nI 0) dJ7_copyOf_59c91_19 (by decide) ?_
    refine V_aload_n (pc := 20) dJ7_copyOf_59c91_20 rfl ?_
    refine V_iconst (pc := 21) (v := nI 0) dJ7_copyOf_59c91_21 (by decide) ?_
    refine V_aload_n (pc := 22) dJ7_copyOf_59c91_22 rfl ?_
    refine V_alen (pc := 23) dJ7_copyOf_59c91_23 (by assumption) (by decide) ?_
    refine V_iload_n (pc := 24) dJ7_copyOf_59c91_24 rfl ?_
    refine V_mminN (pc := 25) dJ7_copyOf_59c91_25 mlJ7_304 (Nat.le_of_ble_eq_true rfl) (Nat.le_of_ble_eq_true rfl) ⟨hcc, hsl⟩ (by omega) (by omega) ?_
    rw [show min n0 n = n by omega]
    refine V_copy (pc := 28) dJ7_copyOf_59c91_28 mlJ7_150 natAC stAC izSys (by assumption) (by assumption) (by first | decide | omega) (by first | decide | omega) (by omega) (by omega) (Nat.le_of_ble_eq_true rfl) (Nat.le_of_ble_eq_true rfl) ?_
    refine V_aload_n (pc := 31) dJ7_copyOf_59c91_31 rfl ?_
    refine V_aret (pc := 32) dJ7_copyOf_59c91_32 rfl (by simp) (by simp) (by first | decide | omega) (by first | decide | omega) ?_
    refine ⟨rfl, rfl, rfl, _, rfl, fun j hj => ?_⟩
    unfold va_cpy
    rw [if_pos (by omega), show 0 + (j - 0) = j by omega]
end MZ
