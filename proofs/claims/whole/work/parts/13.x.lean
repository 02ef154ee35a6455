section VX
variable {E : EnT} {k : MI} {R : Room} {Q : QT} {cl sl : Nat} {S : ST} {I : IT} {L : LT} {pc : Nat} {ls : List (Nat × Value)} {st : List Value}
/-- a cell at the end: tag and length -/
def psh (E : EnT) (S : ST) (t n : Nat) : ST := (S.1 + 1, (fun q => if q = eB E + S.1 then (t, n) else S.2.1 q), S.2.2)
/-- the next cell is blank -/
def frsh (E : EnT) (S : ST) (I : IT) (L : LT) : Prop := ∀ j, I (eB E + S.1) j = 0 ∧ L (eB E + S.1) j = 0 ∧ S.2.2 (eB E + S.1) j = none
theorem Rep.push {H H1 : Heap} {t n : Nat} (hr : Rep E S I L H) (z : H1.size = H.size + 1) (o : ∀ q, q < H.size → H1[q]? = H[q]?) (ha : va_at E.2.1 vwCl (eB E + S.1, cellE E (psh E S t n) I L (eB E + S.1)) H1) : Rep E (psh E S t n) I L H1 := by
  refine ⟨by rw [z, hr.1]; rfl, fun q hq => ?_⟩
  by_cases e : q = eB E + S.1
  · rw [e]; exact ha
  · have hlt : q < eB E + S.1 := by
      have h2 : q < eB E + (S.1 + 1) := hq.2
      omega
    have h3 := (hr.2 q ⟨hq.1, hlt⟩).kept (o q (by rw [hr.1]; exact hlt))
    have e1 : cellE E (psh E S t n) I L q = cellE E S I L q := cellE_ne (S := S) (by simp [psh, e]) rfl rfl rfl
    rw [e1]
    exact h3
theorem psh_sh {t n : Nat} : (psh E S t n).2.1 (eB E + S.1) = (t, n) := by simp [psh]
theorem va_S.push {H0 H H1 : Heap} {locs : List Loc} (hS : va_S (EA E) H0 H locs) (z : H1.size = H.size + 1) (o : ∀ q, q < H.size → H1[q]? = H[q]?) : va_S (EA E) H0 H1 locs := ⟨by rw [z]; exact Nat.le_succ_of_le hS.1, fun q h1 h2 => (o q (Nat.lt_of_lt_of_le h1 hS.1)).trans (hS.2.1 q h1 h2), hS.2.2⟩
theorem V_new (ci : Nat) {index : Nat} (hd : decode k.2.1 pc = .ok (.new index, 3)) (hcl : Cond.classLink k.1.cls index (RC ci) ∈ TT) (hin : Cond.instantiable (RC ci) (nfC ci) ∈ TT) (hini : Cond.initialized (RC ci) ∈ TT) (hci : ci < 13) (hdf : ∀ j, j < nfC ci → defaultValue (tyC ci j) = match fcd (tyC ci j) with | 0 => .int 0 | 1 => .long 0 | _ => .null) (hf : frsh E S I L) (hcells : cl + 1 ≤ R.cells) (hslots : sl + nfC ci ≤ R.slots)
    (h : V E k R Q (cl + 1) (sl + nfC ci) (psh E S ci 0) I L (pc + 3) ls (.ref (eB E + S.1) :: st)) : V E k R Q cl sl S I L pc ls st := by
  intro p e s m args below meth c H locs lsA hc hr hS hl
  have hKn := hc.2.2.2.2.2.2.2.1.1.1 ci _ (vwCl_at ci hci)
  refine W.newcK hc.1 hc.2.1 hc.2.2.2.2.2.1 (hc.2.2.2.2.2.2.1 _ hcl) (hc.2.2.2.2.2.2.1 _ hin) (hc.2.2.2.2.2.2.1 _ hini) rfl hd hcells hslots hKn.2.1 hr.1 fun H1 kC hkC e1 z1 o1 => ?_
  have z2 : H1.size = H.size + 1 := by rw [z1, hr.1]
  have o2 : ∀ q, q < H.size → H1[q]? = H[q]? := fun q hq => o1 q (by rw [← hr.1]; exact hq)
  refine h p e s m args below meth c H1 locs lsA hc (hr.push z2 o2 ?_) (hS.push z2 o2) hl
  have ho : isO E (psh E S ci 0) (eB E + S.1) ci := ⟨⟨Nat.le_add_right _ _, Nat.add_lt_add_left (Nat.lt_succ_self _) _⟩, by rw [psh_sh]⟩
  rw [cellE_O hci ho]
  refine ⟨_, vwCl_at ci hci, (u_born (tyC ci) hc.2.2.2.2.2.2.1 (inC ci hci) hKn hkC e1 (tyC_ok ci hci)).to (fun j hj => ?_)⟩
  show defaultValue (tyC ci j) = vp_V (fvs (psh E S ci 0) I L ci (eB E + S.1)) j
  rw [hdf j hj]
  have e2 : vp_V (fvs (psh E S ci 0) I L ci (eB E + S.1)) j = fv (psh E S ci 0) I L ci (eB E + S.1) j := by
    have hj' : j < nfC ci := hj
    simp [vp_V, fvs, hj']
  rw [e2]
  unfold fv
  have h3 := hf j
  rw [h3.1, h3.2.1, show (psh E S ci 0).2.2 (eB E + S.1) j = none from h3.2.2]
  generalize fcd (tyC ci j) = z
  cases z with
  | zero => rfl
  | succ z => cases z <;> rfl
/-- newarray of int, long, boolean -/
theorem V_newarray {t n : Nat} {atype : ArrayType} (hd : decode k.2.1 pc = .ok (.newarray atype, 2)) (ht : (t = 0 ∧ newarray.typeOf atype = .int) ∨ (t = 1 ∧ newarray.typeOf atype = .long) ∨ (t = 2 ∧ newarray.typeOf atype = .boolean)) (hac : Cond.arrayClass (newarray.typeOf atype) ∈ TT) (hn : n < 60000000) (hf : frsh E S I L) (hcells : cl + 1 ≤ R.cells) (hslots : sl + n ≤ R.slots)
    (h : V E k R Q (cl + 1) (sl + n) (psh E S (13 + t) n) I L (pc + 2) ls (.ref (eB E + S.1) :: st)) : V E k R Q cl sl S I L pc ls (.int (nI n) :: st) := by
  intro p e s m args below meth c H locs lsA hc hr hS hl
  have hb8 : n * componentBytes (newarray.typeOf atype) ≤ 536870912 := by
    rcases ht with ⟨-, e⟩ | ⟨-, e⟩ | ⟨-, e⟩ <;> rw [e] <;> simp [componentBytes] <;> omega
  refine va_newaK hc.1 hc.2.1 (hc.2.2.2.2.2.2.1 _ hac) rfl hd rfl (nI_pos (by omega)) (nI_clamp (by omega)) hb8 hcells hslots hr.1 fun H1 cA e1 z1 o1 hAr hNm => ?_
  have z2 : H1.size = H.size + 1 := by rw [z1, hr.1]
  have o2 : ∀ q, q < H.size → H1[q]? = H[q]? := fun q hq => o1 q (by rw [← hr.1]; exact hq)
  refine h p e s m args below meth c H1 locs lsA hc (hr.push z2 o2 ?_) (hS.push z2 o2) hl
  have hA : isA E (psh E S (13 + t) n) (eB E + S.1) t n := ⟨⟨Nat.le_add_right _ _, Nat.add_lt_add_left (Nat.lt_succ_self _) _⟩, psh_sh⟩
  rw [cellE_A hA]
  show H1[eB E + S.1]? = some (vp_cell _ _)
  rw [e1]
  have hK := hc.2.2.2.2.2.2.2.1.1.2
  have i0 : I (eB E + S.1) = fun _ => 0 := by funext j; exact (hf j).1
  have l0 : L (eB E + S.1) = fun _ => 0 := by funext j; exact (hf j).2.1
  rcases ht with ⟨rfl, e⟩ | ⟨rfl, e⟩ | ⟨rfl, e⟩
  · have h1 : s.vm.findClass ("[" ++ (FieldType.int).toString) = some (E.2.2.1 0) := (hK 0 _ rfl).2
    rw [e] at hNm ⊢
    rw [Option.some.inj (hNm.symm.trans h1)]
    show _ = some (vp_cell _ (n, .inl (I (eB E + S.1))))
    rw [i0, vp_cell_i]
    rfl
  · have h1 : s.vm.findClass ("[" ++ (FieldType.long).toString) = some (E.2.2.1 1) := (hK 1 _ rfl).2
    rw [e] at hNm ⊢
    rw [Option.some.inj (hNm.symm.trans h1)]
    show _ = some (vp_cell _ (n, .inr (.inl (L (eB E + S.1)))))
    rw [l0, vp_cell_l]
    rfl
  · have h1 : s.vm.findClass ("[" ++ (FieldType.boolean).toString) = some (E.2.2.1 2) := (hK 2 _ rfl).2
    rw [e] at hNm ⊢
    rw [Option.some.inj (hNm.symm.trans h1)]
    show _ = some (vp_cell _ (n, .inl (I (eB E + S.1))))
    rw [i0, vp_cell_i]
    rfl
theorem V_anewarray {t n index ci : Nat} (ht : (t = 3 ∧ ci = 9) ∨ (t = 4 ∧ ci = 10) ∨ (t = 5 ∧ ci = 7)) (hd : decode k.2.1 pc = .ok (.anewarray index, 3)) (hcl : Cond.classLink k.1.cls index (RC ci) ∈ TT) (hn : n < 60000000) (hf : frsh E S I L) (hcells : cl + 1 ≤ R.cells) (hslots : sl + n ≤ R.slots)
    (h : V E k R Q (cl + 1) (sl + n) (psh E S (13 + t) n) I L (pc + 3) ls (.ref (eB E + S.1) :: st)) : V E k R Q cl sl S I L pc ls (.int (nI n) :: st) := by
  intro p e s m args below meth c H locs lsA hc hr hS hl
  have hci : ci < 13 := by omega
  have hAO : va_AO (RC ci) s := by
    have h7 := hc.2.2.2.2.2.2.2.1.2.2.2.2.1
    rcases ht with ⟨-, rfl⟩ | ⟨-, rfl⟩ | ⟨-, rfl⟩
    · exact h7.1
    · exact h7.2.1
    · exact h7.2.2
  have hlt : n < 2 ^ 31 := by omega
  refine W.anew hc.1 hc.2.1 hc.2.2.2.2.2.1 (hc.2.2.2.2.2.2.1 _ hcl) (va_AO.use hAO) rfl hd rfl (nI_pos hlt) (by rw [nI_clamp hlt]; omega) hcells (by rw [nI_clamp hlt]; exact hslots) fun cA kA comp f1 f2 f3 f4 => ?_
  rw [nI_clamp hlt]
  generalize hH1 : H.push ({ cls := cA, slots := Array.replicate n .null, vm := .none } : Cell) = H1
  have z2 : H1.size = H.size + 1 := by rw [← hH1, Array.size_push]
  have e1 : H1[H.size]? = some (arrV cA n (fun _ => .null)) := by rw [← hH1, Array.getElem?_push_size, ← arrV_new]
  have o2 : ∀ q, q < H.size → H1[q]? = H[q]? := fun q hq => by rw [← hH1, Array.getElem?_push, if_neg (Nat.ne_of_lt hq)]
  rw [hr.1] at e1 ⊢
  refine h p e s m args below meth c H1 locs lsA hc (hr.push z2 o2 ?_) (hS.push z2 o2) hl
  have hA : isA E (psh E S (13 + t) n) (eB E + S.1) t n := ⟨⟨Nat.le_add_right _ _, Nat.add_lt_add_left (Nat.lt_succ_self _) _⟩, psh_sh⟩
  rw [cellE_A hA]
  show H1[eB E + S.1]? = some (vp_cell _ _)
  rw [e1]
  have hK := hc.2.2.2.2.2.2.2.1.1.2
  have r0 : (psh E S (13 + t) n).2.2 (eB E + S.1) = fun _ => none := by funext j; exact (hf j).2.2
  have harr : arrE (psh E S (13 + t) n) I L (eB E + S.1) t = .inr (.inr (.inr (.inr (fun _ => none)))) := by
    rcases ht with ⟨rfl, -⟩ | ⟨rfl, -⟩ | ⟨rfl, -⟩ <;> (show Sum.inr (Sum.inr (Sum.inr (Sum.inr _))) = _; rw [r0])
  have f : ∀ (x : Nat), (tysE E)[x]? = some (E.2.2.1 t, .object (RC ci)) → cA = E.2.2.1 t := by
    intro x hx
    obtain ⟨kA', comp', -, -, -, k4⟩ := (hK x _ hx).2
    exact Option.some.inj (f1.symm.trans k4)
  have hcA : cA = E.2.2.1 t := by
    rcases ht with ⟨rfl, rfl⟩ | ⟨rfl, rfl⟩ | ⟨rfl, rfl⟩
    · exact f 3 rfl
    · exact f 4 rfl
    · exact f 5 rfl
  rw [harr, hcA, vp_cell_q]
  rfl
/-- System.arraycopy of ints -/
theorem V_copy {index a0 a1 n0 n1 sp dp n : Nat} (hd : decode k.2.1 pc = .ok (.invokestatic index, 3)) (hlink : Cond.methodLink k.1.cls index arraycopyName ∈ TT) (hnat : Cond.native arraycopyName ∈ TT) (hstat : Cond.static arraycopyName ∈ TT) (hini : Cond.initialized "java/lang/System" ∈ TT)
    (h0 : isA E S a0 0 n0) (h1 : isA E S a1 0 n1) (hn0 : n0 < 2 ^ 31) (hn1 : n1 < 2 ^ 31) (h4 : sp + n ≤ n0) (h5 : dp + n ≤ n1) (hfr : 1 ≤ R.frames) (hlo : (st.map fun v => v.category).sum + (nativeFrameWords "java/lang/System" "arraycopy" 5 + 11) ≤ R.locals)
    (h : V E k R Q cl sl S (upr I a1 (va_cpy (I a0) (I a1) sp dp n)) L (pc + 3) ls st) : V E k R Q cl sl S I L pc ls (.int (nI n) :: .int (nI dp) :: .ref a1 :: .int (nI sp) :: .ref a0 :: st) := by
  intro p e s m args below meth c H locs lsA hc hr hS hl
  intro T hT X
  have hc0 : H[a0]? = some (vp_cell (E.2.2.1 0) (n0, .inl (I a0))) := hr.cA h0
  have hc1 : H[a1]? = some (vp_cell (E.2.2.1 0) (n1, .inl (I a1))) := hr.cA h1
  have hK := hc.2.2.2.2.2.2.2.1.1
  have hts := hc.2.2.2.2.2.2.1
  obtain ⟨-, k0, hk0, cm0, hkk0⟩ := (hK.2 0 _ rfl).1 n0 (fun j => .int (I a0 j))
  obtain ⟨-, k1, hk1, cm1, hkk1⟩ := (hK.2 0 _ rfl).1 n1 (fun j => .int (I a1 j))
  have g1 := nI_clamp (show sp < 2 ^ 31 by omega)
  have g2 := nI_clamp (show dp < 2 ^ 31 by omega)
  have g3 := nI_clamp (show n < 2 ^ 31 by omega)
  obtain ⟨vm', X', step⟩ := X.arraycopy hc.1 hc.2.2.2.2.2.1 (hts _ hlink) (hts _ hnat) (hts _ hstat) (hts _ hini) (src := a0) (dst := a1) (cs := vp_cell (E.2.2.1 0) (n0, .inl (I a0))) (cd := vp_cell (E.2.2.1 0) (n1, .inl (I a1))) (srcPos := nI sp) (destPos := nI dp) (n := nI n) (by rw [hT]; exact hc0) (by rw [hT]; exact hc1)
    (fun _ h => by cases h) (fun _ h => by cases h) (fun h => by cases h) (fun h => by cases h) hk0 hk1 hkk0 hkk1 (by simp [refKind]) (nI_pos (by omega)) (nI_pos (by omega)) (nI_pos (by omega))
    (by rw [nI_toInt (by omega), nI_toInt (by omega)]; show ¬ _ > ((arrV _ n0 (fun j => .int (I a0 j))).slots.size : Int); rw [arrV_size]; omega)
    (by rw [nI_toInt (by omega), nI_toInt (by omega)]; show ¬ _ > ((arrV _ n1 (fun j => .int (I a1 j))).slots.size : Int); rw [arrV_size]; omega)
    (fun vm₁ _ i hi => by
      rw [g3] at hi
      have e : (vp_cell (E.2.2.1 0) (n0, .inl (I a0))).slots.getD ((nI sp).toNatClampNeg + i) .null = .int (I a0 ((nI sp).toNatClampNeg + i)) := by
        show (arrV _ n0 (fun j => .int (I a0 j))).slots.getD _ _ = _
        rw [Array.getD_eq_getD_getElem?, arrV_read _ _ (by rw [g1]; omega)]
        rfl
      refine ⟨?_, ?_⟩
      · rw [e]
        rfl
      · rw [e]
        exact trivial)
    (g := F0 m pc lsA (.int (nI n) :: .int (nI dp) :: .ref a1 :: .int (nI sp) :: .ref a0 :: st)) rfl (by rw [hc.2.2.1]; exact hl.1) (rest := st) rfl (by rw [hc.2.1]; exact hd) hfr (by show 2 * 0 + _ + _ ≤ _; omega)
  have e1 : copied (vp_cell (E.2.2.1 0) (n0, .inl (I a0))) (vp_cell (E.2.2.1 0) (n1, .inl (I a1))) (nI sp) (nI dp) (nI n) = vp_cell (E.2.2.1 0) (n1, .inl (va_cpy (I a0) (I a1) sp dp n)) := by
    have h9 := va_copied (fun z => Value.int z) (E.2.2.1 0) (E.2.2.1 0) (n1 := n1) (dp := dp) (I a0) (I a1) h4
    unfold copied
    rw [g1, g2, g3]
    exact h9
  rw [e1] at X' step
  have hl1 : a1 < H.size := (Array.getElem?_eq_some_iff.mp hc1).1
  have hheap : ((T.setVm vm').setCell a1 (vp_cell (E.2.2.1 0) (n1, .inl (va_cpy (I a0) (I a1) sp dp n)))).heap = H.setIfInBounds a1 (vp_cell (E.2.2.1 0) (n1, .inl (va_cpy (I a0) (I a1) sp dp n))) := by rw [← hT]; rfl
  have oq : ∀ q : Nat, q ≠ a1 → (H.setIfInBounds a1 (vp_cell (E.2.2.1 0) (n1, .inl (va_cpy (I a0) (I a1) sp dp n))))[q]? = H[q]? := fun q hq => by simp [Array.getElem?_setIfInBounds, Ne.symm hq]
  have hz : (H.setIfInBounds a1 (vp_cell (E.2.2.1 0) (n1, .inl (va_cpy (I a0) (I a1) sp dp n)))).size = H.size := by simp
  obtain ⟨t, a2, b2⟩ := h p e s m args below meth c _ _ lsA hc (hr.upd1 hz oq rfl (fun q hq => cellE_ne rfl (upr_row hq) rfl rfl) (by
      rw [cellE_A h1]
      show (H.setIfInBounds a1 _)[a1]? = some (vp_cell _ (n1, .inl (upr I a1 (va_cpy (I a0) (I a1) sp dp n) a1)))
      rw [upr_self]
      simp [Array.getElem?_setIfInBounds, hl1])) ⟨by rw [hz]; exact hS.1, fun q q1 q2 => by
      rw [oq q (fun e => q2 (by rw [e]; exact h1.1.1))]
      exact hS.2.1 q q1 q2, fun q hq => by
      rcases List.mem_append.mp hq with h | h
      · exact hS.2.2 q h
      · obtain ⟨z, -, hz⟩ := List.mem_map.mp h
        rw [← hz]
        exact h1.1.1⟩ hl _ hheap X'
  exact ⟨t, step t a2, b2⟩
end VX
