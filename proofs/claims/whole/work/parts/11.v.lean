/-! cells as values -/
def fcd : FieldType → Nat | .int => 0 | .boolean => 0 | .long => 1 | _ => 2
def fv (S : ST) (I : IT) (L : LT) (ci a k : Nat) : Value := match fcd (tyC ci k) with | 0 => .int (I a k) | 1 => .long (L a k) | _ => va_rf (S.2.2 a k)
def fvs (S : ST) (I : IT) (L : LT) (ci a : Nat) : List Value := (List.range (nfC ci)).map (fv S I L ci a)
def arrE (S : ST) (I : IT) (L : LT) (a : Nat) : Nat → (Nat → Int32) ⊕ (Nat → Int64) ⊕ (Nat → UInt32) ⊕ (Nat → UInt64) ⊕ (Nat → Option Nat) | 0 => .inl (I a) | 1 => .inr (.inl (L a)) | 2 => .inl (I a) | _ => .inr (.inr (.inr (.inr (S.2.2 a))))
def cellE (E : EnT) (S : ST) (I : IT) (L : LT) (a : Nat) : va_E := if (S.2.1 a).1 < 13 then .inr ((S.2.1 a).1, fvs S I L (S.2.1 a).1 a) else .inl (E.2.2.1 ((S.2.1 a).1 - 13), (S.2.1 a).2, arrE S I L a ((S.2.1 a).1 - 13))
def aty : Nat → FieldType | 0 => .int | 1 => .long | 2 => .boolean | 3 => .object RX9 | 4 => .object RX10 | _ => .object RX7
def tysE (E : EnT) : List (ClassId × FieldType) := [(E.2.2.1 0, .int), (E.2.2.1 1, .long), (E.2.2.1 2, .boolean), (E.2.2.1 3, .object RX9), (E.2.2.1 4, .object RX10), (E.2.2.1 5, .object RX7)]
def inb (E : EnT) (S : ST) (a : Nat) : Prop := eB E ≤ a ∧ a < eB E + S.1
def isO (E : EnT) (S : ST) (a ci : Nat) : Prop := inb E S a ∧ (S.2.1 a).1 = ci
def isA (E : EnT) (S : ST) (a t n : Nat) : Prop := inb E S a ∧ S.2.1 a = (13 + t, n)
def Rep (E : EnT) (S : ST) (I : IT) (L : LT) (H : Heap) : Prop := H.size = eB E + S.1 ∧ ∀ a, inb E S a → va_at E.2.1 vwCl (a, cellE E S I L a) H
theorem cellE_O {E : EnT} {S : ST} {I : IT} {L : LT} {a ci : Nat} (hc : ci < 13) (h : isO E S a ci) : cellE E S I L a = .inr (ci, fvs S I L ci a) := by
  unfold cellE
  rw [h.2, if_pos hc]
theorem cellE_A {E : EnT} {S : ST} {I : IT} {L : LT} {a t n : Nat} (h : isA E S a t n) : cellE E S I L a = .inl (E.2.2.1 t, n, arrE S I L a t) := by
  unfold cellE
  rw [h.2, if_neg (by simp), Nat.add_sub_cancel_left]
theorem Rep.O {E : EnT} {S : ST} {I : IT} {L : LT} {H : Heap} {a ci : Nat} (hr : Rep E S I L H) (hc : ci < 13) (h : isO E S a ci) : va_P E.2.1 vwCl [(a, .inr (ci, fvs S I L ci a))] H := by
  intro k q hq
  have hk : k < 1 := (List.getElem?_eq_some_iff.mp hq).1
  rw [show k = 0 by omega] at hq
  cases hq
  have h1 := hr.2 a h.1
  rw [cellE_O hc h] at h1
  exact h1
theorem Rep.A {E : EnT} {S : ST} {I : IT} {L : LT} {H : Heap} {a t n : Nat} (hr : Rep E S I L H) (h : isA E S a t n) : va_P E.2.1 vwCl [(a, .inl (E.2.2.1 t, n, arrE S I L a t))] H := by
  intro k q hq
  have hk : k < 1 := (List.getElem?_eq_some_iff.mp hq).1
  rw [show k = 0 by omega] at hq
  cases hq
  have h1 := hr.2 a h.1
  rw [cellE_A h] at h1
  exact h1
theorem Rep.cA {E : EnT} {S : ST} {I : IT} {L : LT} {H : Heap} {a t n : Nat} (hr : Rep E S I L H) (h : isA E S a t n) : H[a]? = some (vp_cell (E.2.2.1 t) (n, arrE S I L a t)) := hr.A h 0 _ rfl
/-- one cell changes, nothing else -/
theorem Rep.upd1 {E : EnT} {S S' : ST} {I I' : IT} {L L' : LT} {H H' : Heap} {a : Nat} (hr : Rep E S I L H) (hz : H'.size = H.size) (ho : ∀ q, q ≠ a → H'[q]? = H[q]?) (hn : S'.1 = S.1) (hc : ∀ q, q ≠ a → cellE E S' I' L' q = cellE E S I L q) (ha : va_at E.2.1 vwCl (a, cellE E S' I' L' a) H') : Rep E S' I' L' H' := by
  refine ⟨by rw [hz, hn]; exact hr.1, fun q hq => ?_⟩
  by_cases e : q = a
  · subst e; exact ha
  · rw [hc q e]
    exact (hr.2 q ⟨hq.1, by rw [← hn]; exact hq.2⟩).kept (ho q e)
def up2 {α : Type} (f : Nat → Nat → α) (a i : Nat) (v : α) : Nat → Nat → α := fun x j => if x = a then (if j = i then v else f x j) else f x j
theorem up2_self {α : Type} {f : Nat → Nat → α} {a i : Nat} {v : α} : up2 f a i v a i = v := by simp [up2]
theorem up2_ne {α : Type} {f : Nat → Nat → α} {a i x j : Nat} {v : α} (h : x ≠ a) : up2 f a i v x j = f x j := by simp [up2, h]
theorem up2_nej {α : Type} {f : Nat → Nat → α} {a i x j : Nat} {v : α} (h : j ≠ i) : up2 f a i v x j = f x j := by simp [up2, h]
theorem up2_row {α : Type} {f : Nat → Nat → α} {a i x : Nat} {v : α} (h : x ≠ a) : up2 f a i v x = f x := by funext j; simp [up2, h]
/-- a whole row anew -/
def upr {α : Type} (f : Nat → Nat → α) (a : Nat) (g : Nat → α) : Nat → Nat → α := fun x j => if x = a then g j else f x j
theorem upr_row {α : Type} {f : Nat → Nat → α} {a x : Nat} {g : Nat → α} (h : x ≠ a) : upr f a g x = f x := by funext j; simp [upr, h]
theorem upr_self {α : Type} {f : Nat → Nat → α} {a : Nat} {g : Nat → α} : upr f a g a = g := by funext j; simp [upr]
/-! what holds of the machine at every point -/
def nestW : List Cond := [.methodLinkNest "DowryBoxes" 21 yX4_init "DowryBoxes", .methodLinkNest "DowryBoxes" 28 yX8_init "DowryBoxes", .methodLinkNest "DowryBoxes" 65 yX5_init "DowryBoxes", .methodLinkNest "DowryBoxes" 76 yX6_init "DowryBoxes", .methodLinkNest "DowryBoxes$Deeds" 58 yX11_isTooth "DowryBoxes", .methodLinkNest "DowryBoxes$Deeds" 62 yX11_isBar "DowryBoxes"]
def wText : String := "if or and not times at of to lasts likes loses bars pull snap wed pass box spring notes broken suitor ear wants year mood done latest couples left"
def wByt : List Int32 := [105, 102, 32, 111, 114, 32, 97, 110, 100, 32, 110, 111, 116, 32, 116, 105, 109, 101, 115, 32, 97, 116, 32, 111, 102, 32, 116, 111, 32, 108, 97, 115, 116, 115, 32, 108, 105, 107, 101, 115, 32, 108, 111, 115, 101, 115, 32, 98, 97, 114, 115, 32, 112, 117, 108, 108, 32, 115, 110, 97, 112, 32, 119, 101, 100, 32, 112, 97, 115, 115, 32, 98, 111, 120, 32, 115, 112, 114, 105, 110, 103, 32, 110, 111, 116, 101, 115, 32, 98, 114, 111, 107, 101, 110, 32, 115, 117, 105, 116, 111, 114, 32, 101, 97, 114, 32, 119, 97, 110, 116, 115, 32, 121, 101, 97, 114, 32, 109, 111, 111, 100, 32, 100, 111, 110, 101, 32, 108, 97, 116, 101, 115, 116, 32, 99, 111, 117, 112, 108, 101, 115, 32, 108, 101, 102, 116]
def SKa (E : EnT) (U : State) (H : Heap) : Prop := va_Z "DowryBoxes" "MOST_OF_TERM" "[I" (.ref (E.2.2.2.2 0)) (EA E) U H ∧ va_T .int (E.2.2.2.2 0) 3 (fun j => .int (([999, 10, 9] : List Int32).getD j 0)) (EA E) U H ∧ vk_S 1 [146] [wByt] (fun _ => E.2.2.2.2 1) (fun _ => E.2.2.2.2 2) (EA E) U H ∧ va_Z "java/lang/String" "COMPACT_STRINGS" "Z" (.int 1) (EA E) U H ∧ va_Zq "jdk/internal/util/Preconditions" "SIOOBE_FORMATTER" "Ljava/util/function/BiFunction;" (EA E) U H
def KK (E : EnT) (U : State) : Prop := va_K E.2.1 vwCl (tysE E) U ∧ (∀ w ∈ nestW, va_Nw w U) ∧ vk_R "DowryBoxes$Reader" 106 wText (E.2.2.2.2 1) U ∧ SKa E U U.heap ∧ (va_AO RX9 U ∧ va_AO RX10 U ∧ va_AO RX7 U) ∧ va_Nw (.castable "[I" "java/lang/Cloneable") U
theorem SKa.moved {E : EnT} {u U : State} {H : Heap} (hvm : u.vm.Alike U.vm) (h : SKa E u H) : SKa E U H := ⟨h.1.moved hvm, h.2.1.moved hvm, h.2.2.1.moved hvm, h.2.2.2.1.moved hvm, h.2.2.2.2.moved hvm⟩
theorem SKa.kept {E : EnT} {U : State} {H H1 : Heap} (h : SKa E U H) (hq : ∀ a : Nat, a < H.size → ¬ EA E a → H1[a]? = H[a]?) : SKa E U H1 := ⟨h.1.kept hq, h.2.1.kept hq, h.2.2.1.kept hq, h.2.2.2.1.kept hq, h.2.2.2.2.kept hq⟩
theorem KK.to {E : EnT} {s U : State} (h : KK E s) (hW : s.WarmedH U.vm) (hq : ∀ a : Nat, a < s.heap.size → ¬ EA E a → U.heap[a]? = s.heap[a]?) : KK E U := by
  obtain ⟨h1, h2, h3, h4, h7, h8⟩ := h
  refine ⟨va_K.moved hW.alike h1, fun w hw => ?_, h3.warm hW, (h4.moved hW.alike).kept hq, ⟨h7.1.moved hW.alike, h7.2.1.moved hW.alike, h7.2.2.moved hW.alike⟩, va_Nw.warmC hW h8⟩
  have h5 := h2 w hw
  simp only [nestW, List.mem_cons, List.not_mem_nil, or_false] at hw
  rcases hw with rfl | rfl | rfl | rfl | rfl | rfl <;> exact va_Nw.warmM hW h5
theorem KK.calling {E : EnT} {U : State} {g : JFrame} {mk : MethodId} {a : Array Value} (h : KK E U) : KK E (U.calling g mk a) := by
  obtain ⟨h1, h2, h3, h4, h7, h8⟩ := h
  refine ⟨va_K.moved (u := U) (U := U.calling g mk a) (Vm.Alike.refl U.vm) h1, fun w hw => ?_, vk_R.same (u := U) rfl h3, SKa.moved (u := U) (U := U.calling g mk a) (Vm.Alike.refl U.vm) h4, ⟨va_AO.moved (u := U) (U := U.calling g mk a) (Vm.Alike.refl U.vm) h7.1, va_AO.moved (u := U) (U := U.calling g mk a) (Vm.Alike.refl U.vm) h7.2.1, va_AO.moved (u := U) (U := U.calling g mk a) (Vm.Alike.refl U.vm) h7.2.2⟩, va_Nw.same rfl (u := U) rfl h8⟩
  have h5 := h2 w hw
  simp only [nestW, List.mem_cons, List.not_mem_nil, or_false] at hw
  rcases hw with rfl | rfl | rfl | rfl | rfl | rfl <;> exact va_Nw.same rfl (u := U) rfl h5
def CtxOk (E : EnT) (k : MI) (p : Program) (s : State) (m : MethodId) (args : Array Value) (meth : Method) (c : Code) : Prop :=
  p.tables.exec = Jvm.exec ∧ c.code = k.2.1 ∧ c.maxLocals = k.2.2.1 ∧ meth.sig.returnType = k.2.2.2 ∧ meth.locks = false ∧ s.vm.findClass k.1.cls = some m.cls ∧ (∀ w ∈ TT, w.before args s = true) ∧ KK E s ∧ meth.name = k.1.name ∧ eB E ≤ s.heap.size
/-- THE JUDGEMENT: in method k, room R, with the world S I L, at pc with these locals and this stack, the machine comes to Q -/
def V (E : EnT) (k : MI) (R : Room) (Q : QT) (cl sl : Nat) (S : ST) (I : IT) (L : LT) (pc : Nat) (ls : List (Nat × Value)) (st : List Value) : Prop :=
  ∀ (p : Program) (e : Env) (s : State) (m : MethodId) (args : Array Value) (below : List Frame) (meth : Method) (c : Code) (H : Heap) (locs : List Loc) (lsA : Array Slot), CtxOk E k p s m args meth c → Rep E S I L H → va_S (EA E) s.heap H locs → lv_has lsA k.2.2.1 ls → W p E.1 e R s m args below meth c H locs cl sl (Q below args s) (F0 m pc lsA st)
def rmOf (d mc ms : Nat) : Room := { frames := d, cells := mc, slots := ms, locals := 64 * d }
def QcM (E : EnT) (post : Option Value → ST → IT → LT → Prop) : Array Value → State → Outcome → State → Prop := fun _ st o t => ∃ (r : Option Value) (S' : ST) (I' : IT) (L' : LT), o = .returned r ∧ post r S' I' L' ∧ Rep E S' I' L' t.heap ∧ va_F (EA E) st t
def QM (E : EnT) (post : Option Value → ST → IT → LT → Prop) (mc ms : Nat) : QT := fun below args s => MQ below (QcM E post) args s mc ms (EA E)
/-- THE CONTRACT of method k: from the world S I L with these arguments it returns, and post holds of its answer and the world then -/
def C (E : EnT) (k : MI) (d mc ms : Nat) (av : List Value) (S : ST) (I : IT) (L : LT) (post : Option Value → ST → IT → LT → Prop) : Prop :=
  Met E.1 k.1 (wsK k) (rmOf d mc ms) (va_Pc av (fun U => Rep E S I L U.heap ∧ KK E U)) (QcM E post) mc ms (EA E)
def lk (ls : List (Nat × Value)) (i : Nat) : Option Value := (ls.find? (fun q => q.1 == i)).map (fun q => q.2)
theorem lk_at {lsA : Array Slot} {nL : Nat} {ls : List (Nat × Value)} {i : Nat} {v : Value} (hl : lv_has lsA nL ls) (h : lk ls i = some v) : lsA[i]? = some (.val v) := by
  unfold lk at h
  cases hf : ls.find? (fun q => q.1 == i) with
  | none => rw [hf] at h; cases h
  | some q =>
    rw [hf] at h
    have h1 := List.find?_some hf
    have h2 := List.mem_of_find?_eq_some hf
    have e1 : q.1 = i := by simpa using h1
    have e2 : q.2 = v := Option.some.inj h
    have := hl.2.2 q h2
    rw [e1, e2] at this
    exact this
def insk (i : Nat) (v : Value) : List (Nat × Value) → List (Nat × Value)
  | [] => [(i, v)]
  | q :: t => if i < q.1 then (i, v) :: q :: t else q :: insk i v t
theorem mem_insk {i : Nat} {v : Value} {q : Nat × Value} : ∀ {l : List (Nat × Value)}, q ∈ insk i v l → q = (i, v) ∨ q ∈ l
  | [], h => by simpa [insk] using h
  | x :: t, h => by
    unfold insk at h
    split at h
    · exact List.mem_cons.mp h
    · rcases List.mem_cons.mp h with e | e
      · exact Or.inr (by rw [e]; exact List.mem_cons_self)
      · rcases mem_insk e with e | e
        · exact Or.inl e
        · exact Or.inr (List.mem_cons_of_mem _ e)
def sto1 (ls : List (Nat × Value)) (i : Nat) (v : Value) : List (Nat × Value) := insk i v (ls.filter (fun q => !(q.1 == i) && !(q.1 + 1 == i && q.2.category == 2)))
def sto2 (ls : List (Nat × Value)) (i : Nat) (v : Value) : List (Nat × Value) := insk i v (ls.filter (fun q => !(q.1 == i) && (!(q.1 == i + 1) && !(q.1 + 1 == i && q.2.category == 2))))
theorem has_insk {lsA : Array Slot} {nL i : Nat} {v : Value} {l : List (Nat × Value)} (h : lv_has lsA nL ((i, v) :: l)) : lv_has lsA nL (insk i v l) := ⟨h.1, h.2.1, fun q hq => h.2.2 q ((mem_insk hq).elim (fun e => e ▸ List.mem_cons_self) (fun e => List.mem_cons_of_mem _ e))⟩

section VR
variable {E : EnT} {k : MI} {R : Room} {Q : QT} {cl sl : Nat} {S : ST} {I : IT} {L : LT} {pc : Nat} {ls : List (Nat × Value)} {st : List Value}
theorem V_iconst {n : Int} {v : Int32} (hd : decode k.2.1 pc = .ok (.iconst n, 1)) (hv : Int32.ofInt n = v) (h : V E k R Q cl sl S I L (pc + 1) ls (.int v :: st)) : V E k R Q cl sl S I L pc ls (st) := by
  intro p e s m args below meth c H locs lsA hc hr hS hl
  exact lv_iconst hc.1 hc.2.1 hd hv (h p e s m args below meth c H locs lsA hc hr hS hl)
theorem V_bipush {n : Int} {v : Int32} (hd : decode k.2.1 pc = .ok (.bipush n, 2)) (hv : (Int8.ofInt n).toInt32 = v) (h : V E k R Q cl sl S I L (pc + 2) ls (.int v :: st)) : V E k R Q cl sl S I L pc ls (st) := by
  intro p e s m args below meth c H locs lsA hc hr hS hl
  exact lv_bipush hc.1 hc.2.1 hd hv (h p e s m args below meth c H locs lsA hc hr hS hl)
theorem V_sipush {n : Int} {v : Int32} (hd : decode k.2.1 pc = .ok (.sipush n, 3)) (hv : (Int16.ofInt n).toInt32 = v) (h : V E k R Q cl sl S I L (pc + 3) ls (.int v :: st)) : V E k R Q cl sl S I L pc ls (st) := by
  intro p e s m args below meth c H locs lsA hc hr hS hl
  exact lv_sipush hc.1 hc.2.1 hd hv (h p e s m args below meth c H locs lsA hc hr hS hl)
theorem V_lconst {n : Fin 2} {v : Int64} (hd : decode k.2.1 pc = .ok (.lconst n, 1)) (hv : Int64.ofNat (n : Nat) = v) (h : V E k R Q cl sl S I L (pc + 1) ls (.long v :: st)) : V E k R Q cl sl S I L pc ls (st) := by
  intro p e s m args below meth c H locs lsA hc hr hS hl
  exact lv_lconst hc.1 hc.2.1 hd hv (h p e s m args below meth c H locs lsA hc hr hS hl)
theorem V_iload_n {j : Fin 4} {x : Int32} (hd : decode k.2.1 pc = .ok (.iload_n j, 1)) (hv : lk ls j = some (.int x)) (h : V E k R Q cl sl S I L (pc + 1) ls (.int x :: st)) : V E k R Q cl sl S I L pc ls st := by
  intro p e s m args below meth c H locs lsA hc hr hS hl
  exact lv_iload_n hc.1 hc.2.1 hd rfl (lk_at hl hv) (h p e s m args below meth c H locs lsA hc hr hS hl)
theorem V_iload {i : Nat} {x : Int32} (hd : decode k.2.1 pc = .ok (.iload i, 2)) (hv : lk ls i = some (.int x)) (h : V E k R Q cl sl S I L (pc + 2) ls (.int x :: st)) : V E k R Q cl sl S I L pc ls st := by
  intro p e s m args below meth c H locs lsA hc hr hS hl
  exact lv_iload hc.1 hc.2.1 hd (lk_at hl hv) (h p e s m args below meth c H locs lsA hc hr hS hl)
theorem V_istore_n {j : Fin 4} {x : Int32} {ls' : List (Nat × Value)} (hd : decode k.2.1 pc = .ok (.istore_n j, 1)) (hn : (j : Nat) < k.2.2.1) (hl0 : sto1 ls j (.int x) = ls') (h : V E k R Q cl sl S I L (pc + 1) ls' st) : V E k R Q cl sl S I L pc ls (.int x :: st) := by
  intro p e s m args below meth c H locs lsA hc hr hS hl
  subst hl0
  exact lv_istore_n hc.1 hc.2.1 hd rfl hl hn rfl (fun la hla => h p e s m args below meth c H locs la hc hr hS (has_insk hla))
theorem V_istore {i : Nat} {x : Int32} {ls' : List (Nat × Value)} (hd : decode k.2.1 pc = .ok (.istore i, 2)) (hn : i < k.2.2.1) (hl0 : sto1 ls i (.int x) = ls') (h : V E k R Q cl sl S I L (pc + 2) ls' st) : V E k R Q cl sl S I L pc ls (.int x :: st) := by
  intro p e s m args below meth c H locs lsA hc hr hS hl
  subst hl0
  exact lv_istore hc.1 hc.2.1 hd hl hn rfl (fun la hla => h p e s m args below meth c H locs la hc hr hS (has_insk hla))
theorem V_lload_n {j : Fin 4} {x : Int64} (hd : decode k.2.1 pc = .ok (.lload_n j, 1)) (hv : lk ls j = some (.long x)) (h : V E k R Q cl sl S I L (pc + 1) ls (.long x :: st)) : V E k R Q cl sl S I L pc ls st := by
  intro p e s m args below meth c H locs lsA hc hr hS hl
  exact lv_lload_n hc.1 hc.2.1 hd rfl (lk_at hl hv) (h p e s m args below meth c H locs lsA hc hr hS hl)
theorem V_lload {i : Nat} {x : Int64} (hd : decode k.2.1 pc = .ok (.lload i, 2)) (hv : lk ls i = some (.long x)) (h : V E k R Q cl sl S I L (pc + 2) ls (.long x :: st)) : V E k R Q cl sl S I L pc ls st := by
  intro p e s m args below meth c H locs lsA hc hr hS hl
  exact lv_lload hc.1 hc.2.1 hd (lk_at hl hv) (h p e s m args below meth c H locs lsA hc hr hS hl)
theorem V_lstore_n {j : Fin 4} {x : Int64} {ls' : List (Nat × Value)} (hd : decode k.2.1 pc = .ok (.lstore_n j, 1)) (hn : (j : Nat) + 1 < k.2.2.1) (hl0 : sto2 ls j (.long x) = ls') (h : V E k R Q cl sl S I L (pc + 1) ls' st) : V E k R Q cl sl S I L pc ls (.long x :: st) := by
  intro p e s m args below meth c H locs lsA hc hr hS hl
  subst hl0
  exact lv_lstore_n hc.1 hc.2.1 hd rfl hl hn rfl (fun la hla => h p e s m args below meth c H locs la hc hr hS (has_insk hla))
theorem V_lstore {i : Nat} {x : Int64} {ls' : List (Nat × Value)} (hd : decode k.2.1 pc = .ok (.lstore i, 2)) (hn : i + 1 < k.2.2.1) (hl0 : sto2 ls i (.long x) = ls') (h : V E k R Q cl sl S I L (pc + 2) ls' st) : V E k R Q cl sl S I L pc ls (.long x :: st) := by
  intro p e s m args below meth c H locs lsA hc hr hS hl
  subst hl0
  exact lv_lstore hc.1 hc.2.1 hd hl hn rfl (fun la hla => h p e s m args below meth c H locs la hc hr hS (has_insk hla))
theorem V_aload_n {j : Fin 4} {x : Nat} (hd : decode k.2.1 pc = .ok (.aload_n j, 1)) (hv : lk ls j = some (.ref x)) (h : V E k R Q cl sl S I L (pc + 1) ls (.ref x :: st)) : V E k R Q cl sl S I L pc ls st := by
  intro p e s m args below meth c H locs lsA hc hr hS hl
  exact lv_aload_n hc.1 hc.2.1 hd rfl (lk_at hl hv) (h p e s m args below meth c H locs lsA hc hr hS hl)
theorem V_aload {i : Nat} {x : Nat} (hd : decode k.2.1 pc = .ok (.aload i, 2)) (hv : lk ls i = some (.ref x)) (h : V E k R Q cl sl S I L (pc + 2) ls (.ref x :: st)) : V E k R Q cl sl S I L pc ls st := by
  intro p e s m args below meth c H locs lsA hc hr hS hl
  exact lv_aload hc.1 hc.2.1 hd (lk_at hl hv) (h p e s m args below meth c H locs lsA hc hr hS hl)
theorem V_astore_n {j : Fin 4} {x : Nat} {ls' : List (Nat × Value)} (hd : decode k.2.1 pc = .ok (.astore_n j, 1)) (hn : (j : Nat) < k.2.2.1) (hl0 : sto1 ls j (.ref x) = ls') (h : V E k R Q cl sl S I L (pc + 1) ls' st) : V E k R Q cl sl S I L pc ls (.ref x :: st) := by
  intro p e s m args below meth c H locs lsA hc hr hS hl
  subst hl0
  exact lv_astore_n hc.1 hc.2.1 hd rfl hl hn rfl (fun la hla => h p e s m args below meth c H locs la hc hr hS (has_insk hla))
theorem V_astore {i : Nat} {x : Nat} {ls' : List (Nat × Value)} (hd : decode k.2.1 pc = .ok (.astore i, 2)) (hn : i < k.2.2.1) (hl0 : sto1 ls i (.ref x) = ls') (h : V E k R Q cl sl S I L (pc + 2) ls' st) : V E k R Q cl sl S I L pc ls (.ref x :: st) := by
  intro p e s m args below meth c H locs lsA hc hr hS hl
  subst hl0
  exact lv_astore hc.1 hc.2.1 hd hl hn rfl (fun la hla => h p e s m args below meth c H locs la hc hr hS (has_insk hla))
theorem lk_mem {l : List (Nat × Value)} {i : Nat} {v : Value} (h : lk l i = some v) : ∃ q : Nat, l[q]? = some (i, v) := by
  unfold lk at h
  cases hf : l.find? (fun q => q.1 == i) with
  | none => rw [hf] at h; cases h
  | some q =>
    rw [hf] at h
    have e1 : q.1 = i := by simpa using List.find?_some hf
    have e2 : q.2 = v := Option.some.inj h
    obtain ⟨n, hn⟩ := List.getElem?_of_mem (List.mem_of_find?_eq_some hf)
    exact ⟨n, by rw [hn, ← e1, ← e2]⟩
theorem V_iinc {i : Nat} {n : Int} {x v : Int32} {ls' : List (Nat × Value)} (hd : decode k.2.1 pc = .ok (.iinc i n, 3)) (hx : lk ls i = some (.int x)) (hv : x + Int32.ofInt n = v) (hn : i < k.2.2.1) (hl0 : sto1 ls i (.int v) = ls') (h : V E k R Q cl sl S I L (pc + 3) ls' st) : V E k R Q cl sl S I L pc ls st := by
  intro p e s m args below meth c H locs lsA hc hr hS hl
  subst hl0
  obtain ⟨q, hq⟩ := lk_mem hx
  exact lv_iinc hc.1 hc.2.1 hd hl hq hv hn rfl (fun la hla => h p e s m args below meth c H locs la hc hr hS (has_insk hla))
/-- fewer locals -/
theorem V_loc {ls' : List (Nat × Value)} (ks : List Nat) (hl0 : lv_pick ls ks = ls') (h : V E k R Q cl sl S I L pc ls' st) : V E k R Q cl sl S I L pc ls st := by
  intro p e s m args below meth c H locs lsA hc hr hS hl
  exact h p e s m args below meth c H locs lsA hc hr hS (lv_sub hl ks hl0)
theorem V_top {x y : Int32} (hxy : x = y) (h : V E k R Q cl sl S I L pc ls (.int y :: st)) : V E k R Q cl sl S I L pc ls (.int x :: st) := hxy ▸ h
theorem V_topl {x y : Int64} (hxy : x = y) (h : V E k R Q cl sl S I L pc ls (.long y :: st)) : V E k R Q cl sl S I L pc ls (.long x :: st) := hxy ▸ h
theorem V_topn {x : Int32} (h : ∀ y, y = x → V E k R Q cl sl S I L pc ls (.int y :: st)) : V E k R Q cl sl S I L pc ls (.int x :: st) := h x rfl
theorem V_widen {k1 n1 : Nat} (h1 : cl ≤ k1) (h2 : sl ≤ n1) (h : V E k R Q k1 n1 S I L pc ls st) : V E k R Q cl sl S I L pc ls st := by
  intro p e s m args below meth c H locs lsA hc hr hS hl
  exact W.widen h1 h2 (h p e s m args below meth c H locs lsA hc hr hS hl)

theorem V_iadd {x y : Int32} (hd : decode k.2.1 pc = .ok (.iadd, 1))  (h : V E k R Q cl sl S I L (pc + 1) ls (.int (x + y) :: st)) : V E k R Q cl sl S I L pc ls (.int y :: .int x :: st) := by
  intro p e s m args below meth c H locs lsA hc hr hS hl
  exact lv_iadd hc.1 hc.2.1 hd  (h p e s m args below meth c H locs lsA hc hr hS hl)
theorem V_isub {x y : Int32} (hd : decode k.2.1 pc = .ok (.isub, 1))  (h : V E k R Q cl sl S I L (pc + 1) ls (.int (x - y) :: st)) : V E k R Q cl sl S I L pc ls (.int y :: .int x :: st) := by
  intro p e s m args below meth c H locs lsA hc hr hS hl
  exact lv_isub hc.1 hc.2.1 hd  (h p e s m args below meth c H locs lsA hc hr hS hl)
theorem V_imul {x y : Int32} (hd : decode k.2.1 pc = .ok (.imul, 1))  (h : V E k R Q cl sl S I L (pc + 1) ls (.int (x * y) :: st)) : V E k R Q cl sl S I L pc ls (.int y :: .int x :: st) := by
  intro p e s m args below meth c H locs lsA hc hr hS hl
  exact lv_imul hc.1 hc.2.1 hd  (h p e s m args below meth c H locs lsA hc hr hS hl)
theorem V_iand {x y : Int32} (hd : decode k.2.1 pc = .ok (.iand, 1))  (h : V E k R Q cl sl S I L (pc + 1) ls (.int (x &&& y) :: st)) : V E k R Q cl sl S I L pc ls (.int y :: .int x :: st) := by
  intro p e s m args below meth c H locs lsA hc hr hS hl
  exact lv_iand hc.1 hc.2.1 hd  (h p e s m args below meth c H locs lsA hc hr hS hl)
theorem V_ior {x y : Int32} (hd : decode k.2.1 pc = .ok (.ior, 1))  (h : V E k R Q cl sl S I L (pc + 1) ls (.int (x ||| y) :: st)) : V E k R Q cl sl S I L pc ls (.int y :: .int x :: st) := by
  intro p e s m args below meth c H locs lsA hc hr hS hl
  exact lv_ior hc.1 hc.2.1 hd  (h p e s m args below meth c H locs lsA hc hr hS hl)
theorem V_ixor {x y : Int32} (hd : decode k.2.1 pc = .ok (.ixor, 1))  (h : V E k R Q cl sl S I L (pc + 1) ls (.int (x ^^^ y) :: st)) : V E k R Q cl sl S I L pc ls (.int y :: .int x :: st) := by
  intro p e s m args below meth c H locs lsA hc hr hS hl
  exact lv_ixor hc.1 hc.2.1 hd  (h p e s m args below meth c H locs lsA hc hr hS hl)
theorem V_ishl {x y : Int32} (hd : decode k.2.1 pc = .ok (.ishl, 1))  (h : V E k R Q cl sl S I L (pc + 1) ls (.int (x <<< (y &&& 31)) :: st)) : V E k R Q cl sl S I L pc ls (.int y :: .int x :: st) := by
  intro p e s m args below meth c H locs lsA hc hr hS hl
  exact lv_ishl hc.1 hc.2.1 hd  (h p e s m args below meth c H locs lsA hc hr hS hl)
theorem V_ishr {x y : Int32} (hd : decode k.2.1 pc = .ok (.ishr, 1))  (h : V E k R Q cl sl S I L (pc + 1) ls (.int (x >>> (y &&& 31)) :: st)) : V E k R Q cl sl S I L pc ls (.int y :: .int x :: st) := by
  intro p e s m args below meth c H locs lsA hc hr hS hl
  exact lv_ishr hc.1 hc.2.1 hd  (h p e s m args below meth c H locs lsA hc hr hS hl)
theorem V_idiv {x y : Int32} (hd : decode k.2.1 pc = .ok (.idiv, 1)) (hne : ¬ y = 0) (h : V E k R Q cl sl S I L (pc + 1) ls (.int (x / y) :: st)) : V E k R Q cl sl S I L pc ls (.int y :: .int x :: st) := by
  intro p e s m args below meth c H locs lsA hc hr hS hl
  exact lv_idiv hc.1 hc.2.1 hd hne (h p e s m args below meth c H locs lsA hc hr hS hl)
theorem V_irem {x y : Int32} (hd : decode k.2.1 pc = .ok (.irem, 1)) (hne : ¬ y = 0) (h : V E k R Q cl sl S I L (pc + 1) ls (.int (x - x / y * y) :: st)) : V E k R Q cl sl S I L pc ls (.int y :: .int x :: st) := by
  intro p e s m args below meth c H locs lsA hc hr hS hl
  exact lv_irem hc.1 hc.2.1 hd hne (h p e s m args below meth c H locs lsA hc hr hS hl)
theorem V_ineg {x : Int32} (hd : decode k.2.1 pc = .ok (.ineg, 1))  (h : V E k R Q cl sl S I L (pc + 1) ls (.int (-x) :: st)) : V E k R Q cl sl S I L pc ls (.int x :: st) := by
  intro p e s m args below meth c H locs lsA hc hr hS hl
  exact lv_ineg hc.1 hc.2.1 hd  (h p e s m args below meth c H locs lsA hc hr hS hl)
theorem V_iushr {x y v : Int32} (hd : decode k.2.1 pc = .ok (.iushr, 1)) (hv : (x.toUInt32 >>> (y.toUInt32 &&& Int32.toUInt32 31)).toInt32 = v) (h : V E k R Q cl sl S I L (pc + 1) ls (.int v :: st)) : V E k R Q cl sl S I L pc ls (.int y :: .int x :: st) := by
  intro p e s m args below meth c H locs lsA hc hr hS hl
  exact lv_iushr hc.1 hc.2.1 hd hv (h p e s m args below meth c H locs lsA hc hr hS hl)
theorem V_i2l {x : Int32} {v : Int64} (hd : decode k.2.1 pc = .ok (.i2l, 1)) (hv : x.toInt64 = v) (h : V E k R Q cl sl S I L (pc + 1) ls (.long v :: st)) : V E k R Q cl sl S I L pc ls (.int x :: st) := by
  intro p e s m args below meth c H locs lsA hc hr hS hl
  exact lv_i2l hc.1 hc.2.1 hd hv (h p e s m args below meth c H locs lsA hc hr hS hl)
theorem V_l2i {x : Int64} {v : Int32} (hd : decode k.2.1 pc = .ok (.l2i, 1)) (hv : x.toInt32 = v) (h : V E k R Q cl sl S I L (pc + 1) ls (.int v :: st)) : V E k R Q cl sl S I L pc ls (.long x :: st) := by
  intro p e s m args below meth c H locs lsA hc hr hS hl
  exact lv_l2i hc.1 hc.2.1 hd hv (h p e s m args below meth c H locs lsA hc hr hS hl)
theorem V_i2c {x : Int32} {v : Int32} (hd : decode k.2.1 pc = .ok (.i2c, 1)) (hv : (x.toUInt32 % 65536).toInt32 = v) (h : V E k R Q cl sl S I L (pc + 1) ls (.int v :: st)) : V E k R Q cl sl S I L pc ls (.int x :: st) := by
  intro p e s m args below meth c H locs lsA hc hr hS hl
  exact lv_i2c hc.1 hc.2.1 hd hv (h p e s m args below meth c H locs lsA hc hr hS hl)
theorem V_ladd {x y : Int64} (hd : decode k.2.1 pc = .ok (.ladd, 1))  (h : V E k R Q cl sl S I L (pc + 1) ls (.long (x + y) :: st)) : V E k R Q cl sl S I L pc ls (.long y :: .long x :: st) := by
  intro p e s m args below meth c H locs lsA hc hr hS hl
  exact lv_ladd hc.1 hc.2.1 hd  (h p e s m args below meth c H locs lsA hc hr hS hl)
theorem V_lsub {x y : Int64} (hd : decode k.2.1 pc = .ok (.lsub, 1))  (h : V E k R Q cl sl S I L (pc + 1) ls (.long (x - y) :: st)) : V E k R Q cl sl S I L pc ls (.long y :: .long x :: st) := by
  intro p e s m args below meth c H locs lsA hc hr hS hl
  exact lv_lsub hc.1 hc.2.1 hd  (h p e s m args below meth c H locs lsA hc hr hS hl)
theorem V_lmul {x y : Int64} (hd : decode k.2.1 pc = .ok (.lmul, 1))  (h : V E k R Q cl sl S I L (pc + 1) ls (.long (x * y) :: st)) : V E k R Q cl sl S I L pc ls (.long y :: .long x :: st) := by
  intro p e s m args below meth c H locs lsA hc hr hS hl
  exact lv_lmul hc.1 hc.2.1 hd  (h p e s m args below meth c H locs lsA hc hr hS hl)
theorem V_ldiv {x y : Int64} (hd : decode k.2.1 pc = .ok (.ldiv, 1)) (hne : ¬ y = 0) (h : V E k R Q cl sl S I L (pc + 1) ls (.long (x / y) :: st)) : V E k R Q cl sl S I L pc ls (.long y :: .long x :: st) := by
  intro p e s m args below meth c H locs lsA hc hr hS hl
  exact lv_ldiv hc.1 hc.2.1 hd hne (h p e s m args below meth c H locs lsA hc hr hS hl)
theorem V_lrem {x y : Int64} (hd : decode k.2.1 pc = .ok (.lrem, 1)) (hne : ¬ y = 0) (h : V E k R Q cl sl S I L (pc + 1) ls (.long (x - x / y * y) :: st)) : V E k R Q cl sl S I L pc ls (.long y :: .long x :: st) := by
  intro p e s m args below meth c H locs lsA hc hr hS hl
  exact lv_lrem hc.1 hc.2.1 hd hne (h p e s m args below meth c H locs lsA hc hr hS hl)
theorem V_lcmp {x y : Int64} (hd : decode k.2.1 pc = .ok (.lcmp, 1))  (h : V E k R Q cl sl S I L (pc + 1) ls (.int (lg_cmp x y) :: st)) : V E k R Q cl sl S I L pc ls (.long y :: .long x :: st) := by
  intro p e s m args below meth c H locs lsA hc hr hS hl
  exact W.lcmp hc.1 hc.2.1 hd  (h p e s m args below meth c H locs lsA hc hr hS hl)
theorem V_dup {va : Value} (hd : decode k.2.1 pc = .ok (.dup, 1)) (hva : va.category = 1) (h : V E k R Q cl sl S I L (pc + 1) ls (va :: va :: st)) : V E k R Q cl sl S I L pc ls (va :: st) := by
  intro p e s m args below meth c H locs lsA hc hr hS hl
  exact lv_dup hc.1 hc.2.1 hd hva (h p e s m args below meth c H locs lsA hc hr hS hl)
theorem V_pop {va : Value} (hd : decode k.2.1 pc = .ok (.pop, 1)) (hva : va.category = 1) (h : V E k R Q cl sl S I L (pc + 1) ls (st)) : V E k R Q cl sl S I L pc ls (va :: st) := by
  intro p e s m args below meth c H locs lsA hc hr hS hl
  exact lv_pop hc.1 hc.2.1 hd hva (h p e s m args below meth c H locs lsA hc hr hS hl)
theorem V_dup2 {va vb : Value} (hd : decode k.2.1 pc = .ok (.dup2, 1)) (hva : va.category = 1) (hvb : vb.category = 1) (h : V E k R Q cl sl S I L (pc + 1) ls (va :: vb :: va :: vb :: st)) : V E k R Q cl sl S I L pc ls (va :: vb :: st) := by
  intro p e s m args below meth c H locs lsA hc hr hS hl
  exact lv_dup2_11 hc.1 hc.2.1 hd hva hvb (h p e s m args below meth c H locs lsA hc hr hS hl)
theorem V_dup2l {va : Value} (hd : decode k.2.1 pc = .ok (.dup2, 1)) (hva : va.category = 2) (h : V E k R Q cl sl S I L (pc + 1) ls (va :: va :: st)) : V E k R Q cl sl S I L pc ls (va :: st) := by
  intro p e s m args below meth c H locs lsA hc hr hS hl
  exact lv_dup2_2 hc.1 hc.2.1 hd hva (h p e s m args below meth c H locs lsA hc hr hS hl)
theorem V_dup_x1 {va vb : Value} (hd : decode k.2.1 pc = .ok (.dup_x1, 1)) (hva : va.category = 1) (hvb : vb.category = 1) (h : V E k R Q cl sl S I L (pc + 1) ls (va :: vb :: va :: st)) : V E k R Q cl sl S I L pc ls (va :: vb :: st) := by
  intro p e s m args below meth c H locs lsA hc hr hS hl
  exact lv_dup_x1 hc.1 hc.2.1 hd hva hvb (h p e s m args below meth c H locs lsA hc hr hS hl)
theorem V_dup_x2 {va vb vd : Value} (hd : decode k.2.1 pc = .ok (.dup_x2, 1)) (hva : va.category = 1) (hvb : vb.category = 1) (hvd : vd.category = 1) (h : V E k R Q cl sl S I L (pc + 1) ls (va :: vb :: vd :: va :: st)) : V E k R Q cl sl S I L pc ls (va :: vb :: vd :: st) := by
  intro p e s m args below meth c H locs lsA hc hr hS hl
  exact lv_dup_x2 hc.1 hc.2.1 hd hva hvb hvd (h p e s m args below meth c H locs lsA hc hr hS hl)
theorem V_aconst_null  (hd : decode k.2.1 pc = .ok (.aconst_null, 1))  (h : V E k R Q cl sl S I L (pc + 1) ls (.null :: st)) : V E k R Q cl sl S I L pc ls (st) := by
  intro p e s m args below meth c H locs lsA hc hr hS hl
  exact lv_null hc.1 hc.2.1 hd  (h p e s m args below meth c H locs lsA hc hr hS hl)
theorem V_if_eq {x : Int32} {off : Int} {tgt : Nat} (hd : decode k.2.1 pc = .ok (.ifCond .eq off, 3)) (ht : (pc : Int) + off = (tgt : Int)) (kt : x = 0 → V E k R Q cl sl S I L tgt ls st) (kf : ¬ (x = 0) → V E k R Q cl sl S I L (pc + 3) ls st) : V E k R Q cl sl S I L pc ls (.int x :: st) := by
  intro p e s m args below meth c H locs lsA hc hr hS hl
  exact lv_if_eq hc.1 hc.2.1 hd ht (fun q => kt q p e s m args below meth c H locs lsA hc hr hS hl) (fun q => kf q p e s m args below meth c H locs lsA hc hr hS hl)
theorem V_icmp_eq {x y : Int32} {off : Int} {tgt : Nat} (hd : decode k.2.1 pc = .ok (.if_icmp .eq off, 3)) (ht : (pc : Int) + off = (tgt : Int)) (kt : x = y → V E k R Q cl sl S I L tgt ls st) (kf : ¬ (x = y) → V E k R Q cl sl S I L (pc + 3) ls st) : V E k R Q cl sl S I L pc ls (.int y :: .int x :: st) := by
  intro p e s m args below meth c H locs lsA hc hr hS hl
  exact lv_icmp_eq hc.1 hc.2.1 hd ht (fun q => kt q p e s m args below meth c H locs lsA hc hr hS hl) (fun q => kf q p e s m args below meth c H locs lsA hc hr hS hl)
theorem V_if_ne {x : Int32} {off : Int} {tgt : Nat} (hd : decode k.2.1 pc = .ok (.ifCond .ne off, 3)) (ht : (pc : Int) + off = (tgt : Int)) (kt : ¬ x = 0 → V E k R Q cl sl S I L tgt ls st) (kf : x = 0 → V E k R Q cl sl S I L (pc + 3) ls st) : V E k R Q cl sl S I L pc ls (.int x :: st) := by
  intro p e s m args below meth c H locs lsA hc hr hS hl
  exact lv_if_ne hc.1 hc.2.1 hd ht (fun q => kt q p e s m args below meth c H locs lsA hc hr hS hl) (fun q => kf q p e s m args below meth c H locs lsA hc hr hS hl)
theorem V_icmp_ne {x y : Int32} {off : Int} {tgt : Nat} (hd : decode k.2.1 pc = .ok (.if_icmp .ne off, 3)) (ht : (pc : Int) + off = (tgt : Int)) (kt : ¬ x = y → V E k R Q cl sl S I L tgt ls st) (kf : x = y → V E k R Q cl sl S I L (pc + 3) ls st) : V E k R Q cl sl S I L pc ls (.int y :: .int x :: st) := by
  intro p e s m args below meth c H locs lsA hc hr hS hl
  exact lv_icmp_ne hc.1 hc.2.1 hd ht (fun q => kt q p e s m args below meth c H locs lsA hc hr hS hl) (fun q => kf q p e s m args below meth c H locs lsA hc hr hS hl)
theorem V_if_lt {x : Int32} {off : Int} {tgt : Nat} (hd : decode k.2.1 pc = .ok (.ifCond .lt off, 3)) (ht : (pc : Int) + off = (tgt : Int)) (kt : x < 0 → V E k R Q cl sl S I L tgt ls st) (kf : ¬ (x < 0) → V E k R Q cl sl S I L (pc + 3) ls st) : V E k R Q cl sl S I L pc ls (.int x :: st) := by
  intro p e s m args below meth c H locs lsA hc hr hS hl
  exact lv_if_lt hc.1 hc.2.1 hd ht (fun q => kt q p e s m args below meth c H locs lsA hc hr hS hl) (fun q => kf q p e s m args below meth c H locs lsA hc hr hS hl)
theorem V_icmp_lt {x y : Int32} {off : Int} {tgt : Nat} (hd : decode k.2.1 pc = .ok (.if_icmp .lt off, 3)) (ht : (pc : Int) + off = (tgt : Int)) (kt : x < y → V E k R Q cl sl S I L tgt ls st) (kf : ¬ (x < y) → V E k R Q cl sl S I L (pc + 3) ls st) : V E k R Q cl sl S I L pc ls (.int y :: .int x :: st) := by
  intro p e s m args below meth c H locs lsA hc hr hS hl
  exact lv_icmp_lt hc.1 hc.2.1 hd ht (fun q => kt q p e s m args below meth c H locs lsA hc hr hS hl) (fun q => kf q p e s m args below meth c H locs lsA hc hr hS hl)
theorem V_if_ge {x : Int32} {off : Int} {tgt : Nat} (hd : decode k.2.1 pc = .ok (.ifCond .ge off, 3)) (ht : (pc : Int) + off = (tgt : Int)) (kt : 0 ≤ x → V E k R Q cl sl S I L tgt ls st) (kf : ¬ (0 ≤ x) → V E k R Q cl sl S I L (pc + 3) ls st) : V E k R Q cl sl S I L pc ls (.int x :: st) := by
  intro p e s m args below meth c H locs lsA hc hr hS hl
  exact lv_if_ge hc.1 hc.2.1 hd ht (fun q => kt q p e s m args below meth c H locs lsA hc hr hS hl) (fun q => kf q p e s m args below meth c H locs lsA hc hr hS hl)
theorem V_icmp_ge {x y : Int32} {off : Int} {tgt : Nat} (hd : decode k.2.1 pc = .ok (.if_icmp .ge off, 3)) (ht : (pc : Int) + off = (tgt : Int)) (kt : y ≤ x → V E k R Q cl sl S I L tgt ls st) (kf : ¬ (y ≤ x) → V E k R Q cl sl S I L (pc + 3) ls st) : V E k R Q cl sl S I L pc ls (.int y :: .int x :: st) := by
  intro p e s m args below meth c H locs lsA hc hr hS hl
  exact lv_icmp_ge hc.1 hc.2.1 hd ht (fun q => kt q p e s m args below meth c H locs lsA hc hr hS hl) (fun q => kf q p e s m args below meth c H locs lsA hc hr hS hl)
theorem V_if_gt {x : Int32} {off : Int} {tgt : Nat} (hd : decode k.2.1 pc = .ok (.ifCond .gt off, 3)) (ht : (pc : Int) + off = (tgt : Int)) (kt : 0 < x → V E k R Q cl sl S I L tgt ls st) (kf : ¬ (0 < x) → V E k R Q cl sl S I L (pc + 3) ls st) : V E k R Q cl sl S I L pc ls (.int x :: st) := by
  intro p e s m args below meth c H locs lsA hc hr hS hl
  exact lv_if_gt hc.1 hc.2.1 hd ht (fun q => kt q p e s m args below meth c H locs lsA hc hr hS hl) (fun q => kf q p e s m args below meth c H locs lsA hc hr hS hl)
theorem V_icmp_gt {x y : Int32} {off : Int} {tgt : Nat} (hd : decode k.2.1 pc = .ok (.if_icmp .gt off, 3)) (ht : (pc : Int) + off = (tgt : Int)) (kt : y < x → V E k R Q cl sl S I L tgt ls st) (kf : ¬ (y < x) → V E k R Q cl sl S I L (pc + 3) ls st) : V E k R Q cl sl S I L pc ls (.int y :: .int x :: st) := by
  intro p e s m args below meth c H locs lsA hc hr hS hl
  exact lv_icmp_gt hc.1 hc.2.1 hd ht (fun q => kt q p e s m args below meth c H locs lsA hc hr hS hl) (fun q => kf q p e s m args below meth c H locs lsA hc hr hS hl)
theorem V_if_le {x : Int32} {off : Int} {tgt : Nat} (hd : decode k.2.1 pc = .ok (.ifCond .le off, 3)) (ht : (pc : Int) + off = (tgt : Int)) (kt : x ≤ 0 → V E k R Q cl sl S I L tgt ls st) (kf : ¬ (x ≤ 0) → V E k R Q cl sl S I L (pc + 3) ls st) : V E k R Q cl sl S I L pc ls (.int x :: st) := by
  intro p e s m args below meth c H locs lsA hc hr hS hl
  exact lv_if_le hc.1 hc.2.1 hd ht (fun q => kt q p e s m args below meth c H locs lsA hc hr hS hl) (fun q => kf q p e s m args below meth c H locs lsA hc hr hS hl)
theorem V_icmp_le {x y : Int32} {off : Int} {tgt : Nat} (hd : decode k.2.1 pc = .ok (.if_icmp .le off, 3)) (ht : (pc : Int) + off = (tgt : Int)) (kt : x ≤ y → V E k R Q cl sl S I L tgt ls st) (kf : ¬ (x ≤ y) → V E k R Q cl sl S I L (pc + 3) ls st) : V E k R Q cl sl S I L pc ls (.int y :: .int x :: st) := by
  intro p e s m args below meth c H locs lsA hc hr hS hl
  exact lv_icmp_le hc.1 hc.2.1 hd ht (fun q => kt q p e s m args below meth c H locs lsA hc hr hS hl) (fun q => kf q p e s m args below meth c H locs lsA hc hr hS hl)
theorem V_goto {off : Int} {tgt : Nat} (hd : decode k.2.1 pc = .ok (.goto off, 3)) (ht : (pc : Int) + off = (tgt : Int)) (h : V E k R Q cl sl S I L tgt ls st) : V E k R Q cl sl S I L pc ls st := by
  intro p e s m args below meth c H locs lsA hc hr hS hl
  exact lv_goto hc.1 hc.2.1 hd ht (h p e s m args below meth c H locs lsA hc hr hS hl)
theorem V_ifnonnull {x : Nat} {off : Int} {tgt : Nat} (hd : decode k.2.1 pc = .ok (.ifnonnull off, 3)) (ht : (pc : Int) + off = (tgt : Int)) (h : V E k R Q cl sl S I L tgt ls st) : V E k R Q cl sl S I L pc ls (.ref x :: st) := by
  intro p e s m args below meth c H locs lsA hc hr hS hl
  exact lv_ifnonnull hc.1 hc.2.1 hd ht (h p e s m args below meth c H locs lsA hc hr hS hl)
theorem V_ifnonnullN {off : Int} (hd : decode k.2.1 pc = .ok (.ifnonnull off, 3)) (h : V E k R Q cl sl S I L (pc + 3) ls st) : V E k R Q cl sl S I L pc ls (.null :: st) := by
  intro p e s m args below meth c H locs lsA hc hr hS hl
  exact lv_ifnonnullN hc.1 hc.2.1 hd (h p e s m args below meth c H locs lsA hc hr hS hl)
theorem V_ldc {index : Nat} {v : Int32} (hd : decode k.2.1 pc = .ok (.ldc index, 2)) (hw : Cond.constant k.1.cls index v ∈ TT) (h : V E k R Q cl sl S I L (pc + 2) ls (.int v :: st)) : V E k R Q cl sl S I L pc ls st := by
  intro p e s m args below meth c H locs lsA hc hr hS hl
  exact lv_ldc hc.1 hc.2.1 hc.2.2.2.2.2.1 (hc.2.2.2.2.2.2.1 _ hw) hd (h p e s m args below meth c H locs lsA hc hr hS hl)
theorem V_ldcw {index : Nat} {v : Int32} (hd : decode k.2.1 pc = .ok (.ldc_w index, 3)) (hw : Cond.constant k.1.cls index v ∈ TT) (h : V E k R Q cl sl S I L (pc + 3) ls (.int v :: st)) : V E k R Q cl sl S I L pc ls st := by
  intro p e s m args below meth c H locs lsA hc hr hS hl
  exact lv_ldcw hc.1 hc.2.1 hc.2.2.2.2.2.1 (hc.2.2.2.2.2.2.1 _ hw) hd (h p e s m args below meth c H locs lsA hc hr hS hl)
theorem V_ldc2 {index : Nat} {v : Int64} (hd : decode k.2.1 pc = .ok (.ldc2_w index, 3)) (hw : Cond.constantLong k.1.cls index v ∈ TT) (h : V E k R Q cl sl S I L (pc + 3) ls (.long v :: st)) : V E k R Q cl sl S I L pc ls st := by
  intro p e s m args below meth c H locs lsA hc hr hS hl
  exact lv_ldc2 hc.1 hc.2.1 hc.2.2.2.2.2.1 (hc.2.2.2.2.2.2.1 _ hw) hd (h p e s m args below meth c H locs lsA hc hr hS hl)
theorem V_tableOut {dflt lo hi : Int} {offs : Array Int} {len : Nat} {x : Int32} {tgt : Nat} (hd : decode k.2.1 pc = .ok (.tableswitch dflt lo hi offs, len)) (hx : x.toInt < lo ∨ hi < x.toInt) (ht : (pc : Int) + dflt = (tgt : Int)) (h : V E k R Q cl sl S I L tgt ls st) : V E k R Q cl sl S I L pc ls (.int x :: st) := by
  intro p e s m args below meth c H locs lsA hc hr hS hl
  exact lv_tableOut hc.1 hc.2.1 hd hx ht (h p e s m args below meth c H locs lsA hc hr hS hl)
theorem V_tableIn {dflt lo hi : Int} {offs : Array Int} {len : Nat} {x : Int32} {off : Int} {tgt : Nat} (hd : decode k.2.1 pc = .ok (.tableswitch dflt lo hi offs, len)) (h1 : ¬ x.toInt < lo) (h2 : ¬ hi < x.toInt) (ho : offs[(x.toInt - lo).toNat]? = some off) (ht : (pc : Int) + off = (tgt : Int)) (h : V E k R Q cl sl S I L tgt ls st) : V E k R Q cl sl S I L pc ls (.int x :: st) := by
  intro p e s m args below meth c H locs lsA hc hr hS hl
  exact lv_tableIn hc.1 hc.2.1 hd h1 h2 ho ht (h p e s m args below meth c H locs lsA hc hr hS hl)
theorem V_lookup {dflt : Int} {ps : Array (Int × Int)} {len : Nat} {x : Int32} {off : Int} {tgt : Nat} (hd : decode k.2.1 pc = .ok (.lookupswitch dflt ps, len)) (hp : (ps.toList.zip (ps.toList.drop 1)).all (fun (a, next) => a.1 < next.1) = true) (ho : Op.lookupswitch.offset ps.toList dflt x.toInt = off) (ht : (pc : Int) + off = (tgt : Int)) (h : V E k R Q cl sl S I L tgt ls st) : V E k R Q cl sl S I L pc ls (.int x :: st) := by
  intro p e s m args below meth c H locs lsA hc hr hS hl
  exact lv_lookup hc.1 hc.2.1 hd hp ho ht (h p e s m args below meth c H locs lsA hc hr hS hl)

theorem fvs_at {ci kf a : Nat} (hk : kf < nfC ci) : (fvs S I L ci a)[kf]? = some (fv S I L ci a kf) := by
  simp [fvs, hk]
theorem V_getv {ci kf a index : Nat} {v : Value} (hd : decode k.2.1 pc = .ok (.getfield index, 3)) (hw : Cond.fieldLink k.1.cls index (TC ci kf).1 (TC ci kf).2.1 (TC ci kf).2.2.1 ∈ TT) (hci : ci < 13) (hk : kf < nfC ci) (ho : isO E S a ci) (hv : fv S I L ci a kf = v) (h : V E k R Q cl sl S I L (pc + 3) ls (v :: st)) : V E k R Q cl sl S I L pc ls (.ref a :: st) := by
  intro p e s m args below meth c H locs lsA hc hr hS hl
  subst hv
  exact va_get hc.1 hc.2.1 (C := RC ci) (T := TC ci) (N := nfC ci) hc.2.2.2.2.2.2.1 (inC ci hci) hc.2.2.2.2.2.1 hc.2.2.2.2.2.2.2.1.1 (hr.O hci ho) 0 rfl (vwCl_at ci hci) kf hk (hc.2.2.2.2.2.2.1 _ hw) (fun x hx => hx) (fvs_at hk) hd (h p e s m args below meth c H locs lsA hc hr hS hl)
theorem fv_I {ci kf a : Nat} (hf : fcd (tyC ci kf) = 0) : fv S I L ci a kf = .int (I a kf) := by unfold fv; rw [hf]; rfl
theorem fv_L {ci kf a : Nat} (hf : fcd (tyC ci kf) = 1) : fv S I L ci a kf = .long (L a kf) := by unfold fv; rw [hf]; rfl
theorem fv_R {ci kf a : Nat} (hf : fcd (tyC ci kf) = 2) : fv S I L ci a kf = va_rf (S.2.2 a kf) := by unfold fv; rw [hf]; rfl
theorem V_getI (ci kf : Nat) {a index : Nat} (hd : decode k.2.1 pc = .ok (.getfield index, 3)) (hw : Cond.fieldLink k.1.cls index (TC ci kf).1 (TC ci kf).2.1 (TC ci kf).2.2.1 ∈ TT) (hci : ci < 13 ∧ kf < nfC ci ∧ fcd (tyC ci kf) = 0) (ho : isO E S a ci) (h : V E k R Q cl sl S I L (pc + 3) ls (.int (I a kf) :: st)) : V E k R Q cl sl S I L pc ls (.ref a :: st) := V_getv hd hw hci.1 hci.2.1 ho (fv_I hci.2.2) h
theorem V_getL (ci kf : Nat) {a index : Nat} (hd : decode k.2.1 pc = .ok (.getfield index, 3)) (hw : Cond.fieldLink k.1.cls index (TC ci kf).1 (TC ci kf).2.1 (TC ci kf).2.2.1 ∈ TT) (hci : ci < 13 ∧ kf < nfC ci ∧ fcd (tyC ci kf) = 1) (ho : isO E S a ci) (h : V E k R Q cl sl S I L (pc + 3) ls (.long (L a kf) :: st)) : V E k R Q cl sl S I L pc ls (.ref a :: st) := V_getv hd hw hci.1 hci.2.1 ho (fv_L hci.2.2) h
theorem V_getR (ci kf : Nat) {a index q : Nat} (hd : decode k.2.1 pc = .ok (.getfield index, 3)) (hw : Cond.fieldLink k.1.cls index (TC ci kf).1 (TC ci kf).2.1 (TC ci kf).2.2.1 ∈ TT) (hci : ci < 13 ∧ kf < nfC ci ∧ fcd (tyC ci kf) = 2) (ho : isO E S a ci) (hq : S.2.2 a kf = some q) (h : V E k R Q cl sl S I L (pc + 3) ls (.ref q :: st)) : V E k R Q cl sl S I L pc ls (.ref a :: st) := V_getv hd hw hci.1 hci.2.1 ho ((fv_R hci.2.2).trans (by rw [hq]; rfl)) h

theorem fvs_put {S' : ST} {I' : IT} {L' : LT} {ci kf a : Nat} (hk : kf < nfC ci) {v : Value} (h1 : fv S' I' L' ci a kf = v) (h2 : ∀ j, j < nfC ci → j ≠ kf → fv S' I' L' ci a j = fv S I L ci a j) : ∀ j, j < nfC ci → updV (vp_V (fvs S I L ci a)) kf v j = vp_V (fvs S' I' L' ci a) j := by
  intro j hj
  by_cases e : j = kf
  · subst e
    simp [updV, vp_V, fvs, hj, h1]
  · simp [updV, vp_V, fvs, hj, e, h2 j hj e]
theorem cellE_ne {S' : ST} {I' : IT} {L' : LT} {q : Nat} (h1 : S'.2.1 q = S.2.1 q) (h2 : I' q = I q) (h3 : L' q = L q) (h4 : S'.2.2 q = S.2.2 q) : cellE E S' I' L' q = cellE E S I L q := by
  have hf : ∀ ci, fvs S' I' L' ci q = fvs S I L ci q := fun ci => List.map_congr_left (fun j _ => by simp only [fv, h2, h3, h4])
  have ha : ∀ t, arrE S' I' L' q t = arrE S I L q t := fun t => by unfold arrE; split <;> simp only [h2, h3, h4]
  simp only [cellE, h1, hf, ha]
/-- putfield, any field that may be written there -/
theorem V_putv (ci kf : Nat) {a index : Nat} {v : Value} {S' : ST} {I' : IT} {L' : LT} (hd : decode k.2.1 pc = .ok (.putfield index, 3)) (hw : Cond.fieldLink k.1.cls index (TC ci kf).1 (TC ci kf).2.1 (TC ci kf).2.2.1 ∈ TT) (hci : ci < 13 ∧ kf < nfC ci) (hfin : (TC ci kf).2.2.2 = false ∨ ((TC ci kf).2.2.2 = true ∧ k.1.name = "<init>" ∧ (TC ci kf).1 = k.1.cls)) (hn : narrow (tyC ci kf) v = v) (hfit : fits (tyC ci kf) v = true) (ho : isO E S a ci)
    (hS1 : S'.1 = S.1 ∧ S'.2.1 = S.2.1) (h2 : ∀ q, q ≠ a → I' q = I q ∧ L' q = L q ∧ S'.2.2 q = S.2.2 q) (hv : fv S' I' L' ci a kf = v) (hj : ∀ j, j < nfC ci → j ≠ kf → fv S' I' L' ci a j = fv S I L ci a j)
    (h : V E k R Q cl sl S' I' L' (pc + 3) ls st) : V E k R Q cl sl S I L pc ls (v :: .ref a :: st) := by
  intro p e s m args below meth c H locs lsA hc hr hS hl
  obtain ⟨hx, hb, hml, hrt, hlk, hown, hts, hK, hnm, hbs⟩ := id hc
  obtain ⟨hc13, hkN⟩ := hci
  have hap := va_apart (own := k.1.cls) hts (inC ci hc13) (tyC ci) (tyC_ok ci hc13) (nmC ci hc13) hK.1 (vwCl_at ci hc13)
  obtain ⟨r, h1, cell, q1, q2, q3, q4⟩ := hr.O hc13 ho 0 _ rfl
  have hr' : r = (RC ci, TC ci, nfC ci) := Option.some.inj (h1.symm.trans (vwCl_at ci hc13))
  subst hr'
  obtain ⟨hSl, hfc, kC, hkC, hkind⟩ := hK.1.1 ci _ (vwCl_at ci hc13)
  obtain ⟨cf, kf', fi, f, hi, hsl⟩ := hSl kf hkN
  have hlay := hts _ (inC ci hc13 _ (u_in_lay hkN))
  have hst := (u_facts hfc hkC (u_lays hts (inC ci hc13) hkN) hi).1
  have fin : ∀ H' : Heap, H'[a]? = some (cell.setSlot (E.2.1.2 ci kf) v) → H'.size = H.size → (∀ q, q ≠ a → H'[q]? = H[q]?) → W p E.1 e R s m args below meth c H' (locs ++ [⟨a, E.2.1.2 ci kf⟩]) cl sl (Q below args s) (F0 m (pc + 3) lsA st) := by
    intro H' e1 e2 e3
    refine h p e s m args below meth c H' _ lsA hc (hr.upd1 e2 e3 hS1.1 (fun q hq => cellE_ne (by rw [hS1.2]) (h2 q hq).1 (h2 q hq).2.1 (h2 q hq).2.2) ?_) (hS.put e2 e3 ho.1.1) hl
    have ho' : isO E S' a ci := ⟨⟨ho.1.1, by rw [hS1.1]; exact ho.1.2⟩, by rw [hS1.2]; exact ho.2⟩
    rw [cellE_O hc13 ho']
    exact ⟨_, vwCl_at ci hc13, t_OB.to (V := updV (vp_V (fvs S I L ci a)) kf v) ⟨_, e1, q2, q3, t_set q4 hap hkN v⟩ (fvs_put hkN hv hj)⟩
  unfold u_lay at hlay
  rcases hfin with hfin | ⟨hfin, hin, hdecl⟩
  · rw [if_neg (by rw [hfin]; decide)] at hlay
    have h6 := u_store hfc hkC hkind hlay hi (tyC_ok ci hc13 kf hkN) hn hfit
    refine W.putK hx hb (f := f) ⟨hown, hts _ hw, ⟨_, _, _, hi⟩, hst⟩ (by rw [q2]; exact h6) q1 q3 (by rw [hsl]; exact k2_hasslot (q4 kf hkN)) rfl rfl hd fun H' e1 e2 e3 => ?_
    rw [hsl] at e1 ⊢
    exact fin H' e1 e2 e3
  · rw [if_pos hfin] at hlay
    have hcf : m.cls = cf := by
      obtain ⟨_, _, c', _, _, _, -, -, hf', -, -, -, hown2, -⟩ := Cond.laysFinal_spec hlay
      have e1 : c' = cf := by have := hi.symm.trans hf'; simp at this; exact this.1.symm
      rw [hdecl] at hown2
      rw [← e1]; exact Option.some.inj (hown.symm.trans hown2)
    have h6 := u_fits hfc hkC hkind (Or.inr hlay) hi (tyC_ok ci hc13 kf hkN) hn hfit
    refine W.putFinK hx hb hown (hts _ hw) hi hst hcf (hnm.trans hin) (by rw [q2]; exact h6) q1 q3 (by rw [hsl]; exact k2_hasslot (q4 kf hkN)) rfl rfl hd fun H' e1 e2 e3 => ?_
    rw [hsl] at e1 ⊢
    exact fin H' e1 e2 e3
theorem fv_upI {ci kf a : Nat} {x : Int32} (hf : fcd (tyC ci kf) = 0) : fv S (up2 I a kf x) L ci a kf = .int x ∧ ∀ j, j < nfC ci → j ≠ kf → fv S (up2 I a kf x) L ci a j = fv S I L ci a j := by
  refine ⟨by rw [fv_I hf, up2_self], fun j _ hj => ?_⟩
  unfold fv
  rw [up2_nej hj]
theorem V_putI (ci kf : Nat) {a index : Nat} {x : Int32} (hd : decode k.2.1 pc = .ok (.putfield index, 3)) (hw : Cond.fieldLink k.1.cls index (TC ci kf).1 (TC ci kf).2.1 (TC ci kf).2.2.1 ∈ TT) (hci : ci < 13 ∧ kf < nfC ci) (hf : fcd (tyC ci kf) = 0) (hfin : (TC ci kf).2.2.2 = false ∨ ((TC ci kf).2.2.2 = true ∧ k.1.name = "<init>" ∧ (TC ci kf).1 = k.1.cls)) (hn : narrow (tyC ci kf) (.int x) = .int x) (hfit : fits (tyC ci kf) (.int x) = true) (ho : isO E S a ci)
    (h : V E k R Q cl sl S (up2 I a kf x) L (pc + 3) ls st) : V E k R Q cl sl S I L pc ls (.int x :: .ref a :: st) := V_putv (S' := S) (I' := up2 I a kf x) (L' := L) ci kf hd hw hci hfin hn hfit ho ⟨rfl, rfl⟩ (fun q hq => ⟨up2_row hq, rfl, rfl⟩) (fv_upI hf).1 (fv_upI hf).2 h
theorem V_putL (ci kf : Nat) {a index : Nat} {x : Int64} (hd : decode k.2.1 pc = .ok (.putfield index, 3)) (hw : Cond.fieldLink k.1.cls index (TC ci kf).1 (TC ci kf).2.1 (TC ci kf).2.2.1 ∈ TT) (hci : ci < 13 ∧ kf < nfC ci) (hf : fcd (tyC ci kf) = 1) (hfin : (TC ci kf).2.2.2 = false ∨ ((TC ci kf).2.2.2 = true ∧ k.1.name = "<init>" ∧ (TC ci kf).1 = k.1.cls)) (hn : narrow (tyC ci kf) (.long x) = .long x) (hfit : fits (tyC ci kf) (.long x) = true) (ho : isO E S a ci)
    (h : V E k R Q cl sl S I (up2 L a kf x) (pc + 3) ls st) : V E k R Q cl sl S I L pc ls (.long x :: .ref a :: st) := V_putv (S' := S) (I' := I) (L' := up2 L a kf x) ci kf hd hw hci hfin hn hfit ho ⟨rfl, rfl⟩ (fun q hq => ⟨rfl, up2_row hq, rfl⟩) (by rw [fv_L hf, up2_self]) (fun j _ hj => by unfold fv; rw [up2_nej hj]) h
theorem V_putR (ci kf : Nat) {a index q : Nat} (hd : decode k.2.1 pc = .ok (.putfield index, 3)) (hw : Cond.fieldLink k.1.cls index (TC ci kf).1 (TC ci kf).2.1 (TC ci kf).2.2.1 ∈ TT) (hci : ci < 13 ∧ kf < nfC ci) (hf : fcd (tyC ci kf) = 2) (hfin : (TC ci kf).2.2.2 = false ∨ ((TC ci kf).2.2.2 = true ∧ k.1.name = "<init>" ∧ (TC ci kf).1 = k.1.cls)) (hn : narrow (tyC ci kf) (.ref q) = .ref q) (hfit : fits (tyC ci kf) (.ref q) = true) (ho : isO E S a ci)
    (h : V E k R Q cl sl (S.1, S.2.1, up2 S.2.2 a kf (some q)) I L (pc + 3) ls st) : V E k R Q cl sl S I L pc ls (.ref q :: .ref a :: st) := V_putv (S' := (S.1, S.2.1, up2 S.2.2 a kf (some q))) (I' := I) (L' := L) ci kf hd hw hci hfin hn hfit ho ⟨rfl, rfl⟩ (fun q hq => ⟨rfl, rfl, up2_row hq⟩) (by rw [fv_R hf]; show va_rf (up2 S.2.2 a kf (some q) a kf) = _; rw [up2_self]; rfl) (fun j _ hj => by unfold fv; dsimp only; rw [up2_nej hj]) h

end VR
