section VY
variable {E : EnT} {k : MI} {R : Room} {Q : QT} {cl sl : Nat} {S : ST} {I : IT} {L : LT} {pc : Nat} {ls : List (Nat × Value)} {st : List Value}
/-- a contract out of a walk -/
theorem C_of {d mc ms : Nat} {av : List Value} {post : Option Value → ST → IT → LT → Prop} (hy : plainName k.1.cls = true) (hn : (lg_sl av).length ≤ k.2.2.1) (h : V E k (rmOf d mc ms) (QM E post mc ms) 0 0 S I L 0 (lv_args 0 av) []) : C E k d mc ms av S I L post := by
  refine Met.ofW (cc := k.2.1) (maxL := k.2.2.1) (ret := k.2.2.2) hy rfl ?_
  intro p e s m args below meth c s₁ B hml hv
  obtain ⟨rfl, hr, hK⟩ := hv
  have hl := lv_entry av hn
  rw [lg_entry_eq]
  have hts := atoms_spec (ws := wsK k) B.pre
  exact h p e s m _ below meth c s.heap [] _ ⟨B.exec, B.bytes, hml, B.returns, B.notSynchronized, findClass_of_methodNamed B.named, fun w hw => hts w (List.mem_cons_of_mem _ hw), hK, (name_of_methodNamed B.named B.method).1, by rw [hr.1]; exact Nat.le_add_right _ _⟩ hr va_S.rf hl
theorem FB {av : List Value} : FrameBlind (va_Pc av (fun U => Rep E S I L U.heap ∧ KK E U)) := fun a U g mk q => ⟨q.1, q.2.1, q.2.2.calling⟩
/-- behind a call -/
theorem W_run {p : Program} {e : Env} {s : State} {m : MethodId} {args : Array Value} {below : List Frame} {meth : Method} {c : Code} {H : Heap} {locs : List Loc} {lsA : Array Slot} {Qs : State → Prop} {mc ms : Nat} {rest : List Value} {a : Array Value} {post : Option Value → ST → IT → LT → Prop}
    (hr : va_Run p E.1 e R s m args below meth c H locs cl sl mc ms (F0 m pc lsA st) rest (QcM E post a) (EA E)) (hS : va_S (EA E) s.heap H locs)
    (kk : ∀ (r : Option Value) (S' : ST) (I' : IT) (L' : LT) (H1 : Heap) (locs1 : List Loc), post r S' I' L' → Rep E S' I' L' H1 → va_S (EA E) s.heap H1 locs1 → W p E.1 e R s m args below meth c H1 locs1 (cl + mc) (sl + ms) Qs (F0 m (pc + 3) lsA (r.toList ++ rest))) : W p E.1 e R s m args below meth c H locs cl sl Qs (F0 m pc lsA st) := by
  intro T hT X
  obtain ⟨v, st₀, t, T', L0, h0, X', hL, e1, e2, ⟨r, S', I', L', hv, hp, hR, hz, hk⟩, stp⟩ := hr T hT X
  cases hv
  rw [h0] at hz hk
  obtain ⟨t2, a1, b1⟩ := kk v S' I' L' T'.heap (locs ++ L0) hp (by rw [e1]; exact hR) ⟨Nat.le_trans hS.1 (by rw [e1]; exact hz), fun q h1 h2 => by rw [e1, hk q (Nat.lt_of_lt_of_le h1 hS.1) h2]; exact hS.2.1 q h1 h2, fun q hq => by
      rcases List.mem_append.mp hq with h | h
      · exact hS.2.2 q h
      · exact hL q h⟩ T' rfl X'
  exact ⟨t2, stp t2 a1, b1⟩
/-- what a method's own words are -/
def MkV (k' : MI) (n : Nat) : Prop := Cond.instanceMethod k'.1 ∈ TT ∧ Cond.selects k'.1.cls k'.1 k'.1 ∈ TT ∧ Cond.initialized k'.1.cls ∈ TT ∧ Cond.code k'.1 k'.2.1 k'.2.2.1 k'.2.2.2 ∈ TT ∧ (k'.1.cls ≠ "java/lang/invoke/MethodHandle" ∧ k'.1.cls ≠ "java/lang/invoke/VarHandle" ∧ (parseMethodDescriptor k'.1.desc).map (fun d => d.parameters.length) = some n)
def MkS (k' : MI) (n : Nat) : Prop := Cond.static k'.1 ∈ TT ∧ Cond.initialized k'.1.cls ∈ TT ∧ Cond.code k'.1 k'.2.1 k'.2.2.1 k'.2.2.2 ∈ TT ∧ (k'.1.cls ≠ "java/lang/invoke/MethodHandle" ∧ k'.1.cls ≠ "java/lang/invoke/VarHandle" ∧ (parseMethodDescriptor k'.1.desc).map (fun d => d.parameters.length) = some n)
def MkI (k' : MI) (n : Nat) : Prop := Cond.instanceMethod k'.1 ∈ TT ∧ Cond.initialized k'.1.cls ∈ TT ∧ Cond.code k'.1 k'.2.1 k'.2.2.1 none ∈ TT ∧ k'.2.2.2 = none ∧ k'.1.name = "<init>" ∧ (k'.1.cls ≠ "java/lang/invoke/MethodHandle" ∧ k'.1.cls ≠ "java/lang/invoke/VarHandle" ∧ (parseMethodDescriptor k'.1.desc).map (fun d => d.parameters.length) = some n)
theorem cellOf {H : Heap} {s : State} {a ci : Nat} (hK : KK E s) (hr : Rep E S I L H) (hci : ci < 13) (ho : isO E S a ci) : ∃ cell : Cell, H[a]? = some cell ∧ cell.vm.isStatics = false ∧ s.vm.findClass (RC ci) = some cell.cls := va_recv hK.1 (hr.O hci ho) (vwCl_at ci hci) (q0 := 0) rfl
theorem preOf {H : Heap} {s : State} {locs : List Loc} {av : List Value} (hK : KK E s) (hr : Rep E S I L H) (hS : va_S (EA E) s.heap H locs) : ∀ U : State, U.heap = H → s.WarmedH U.vm → va_Pc av (fun U => Rep E S I L U.heap ∧ KK E U) av.toArray U := fun U hU hW => ⟨rfl, by rw [hU]; exact hr, hK.to hW (fun q h1 h2 => by rw [hU]; exact hS.2.1 q h1 h2)⟩
theorem V_callV {k' : MI} {index d' mc ms n ci b : Nat} {As rest : List Value} {post : Option Value → ST → IT → LT → Prop} (hC : C E k' d' mc ms (.ref b :: As) S I L post) (hd : decode k.2.1 pc = .ok (.invokevirtual index, 3)) (hl0 : Cond.methodLink k.1.cls index k'.1 ∈ TT) (hm : MkV k' n) (hn : As.length = n) (hs : st = As.reverse ++ .ref b :: rest) (ho : isO E S b ci) (hci : ci < 13 ∧ RC ci = k'.1.cls)
    (hR : d' + 1 ≤ R.frames ∧ 8 + (k'.2.2.1 + 11) + 64 * d' ≤ R.locals) (hsum : (rest.map fun v => v.category).sum ≤ 8) (hf : cl + mc ≤ R.cells ∧ sl + ms ≤ R.slots)
    (h : ∀ (r : Option Value) (S' : ST) (I' : IT) (L' : LT), post r S' I' L' → V E k R Q (cl + mc) (sl + ms) S' I' L' (pc + 3) ls (r.toList ++ rest)) : V E k R Q cl sl S I L pc ls st := by
  intro p e s m args below meth c H locs lsA hc hr hS hl
  obtain ⟨hx, hb, hml, hrt, hlk, hown, hts, hK, hnm, hbs⟩ := id hc
  obtain ⟨w1, w2, w3, w4, w5⟩ := hm
  have cb : CallB R s args k.1.cls index k'.1 k'.2.1 k'.2.2.1 k'.2.2.2 (wsK k') (rmOf d' mc ms) mc ms n := callB_of n hts (goodK w4) rfl rfl rfl (hts _ w3) (hts _ hl0) w5 hR
  refine W_run (a := (Value.ref b :: As).toArray) (rest := rest) (va_runV (C := k'.1.cls) ⟨hx, hb, hml, hown, hts⟩ hC ⟨cb, hts _ w1, hts _ w2⟩ ⟨FB, by rw [← hci.2]; exact cellOf hK hr hci.1 ho, preOf hK hr hS⟩ rfl hn hl.1 hs (lv_room hsum) hd hf) hS (fun r S' I' L' H1 locs1 hp hR' hS' => h r S' I' L' hp p e s m args below meth c H1 locs1 lsA hc hR' hS' hl)
theorem V_callS {k' : MI} {index d' mc ms n : Nat} {As rest : List Value} {post : Option Value → ST → IT → LT → Prop} (hC : C E k' d' mc ms As S I L post) (hd : decode k.2.1 pc = .ok (.invokestatic index, 3)) (hl0 : Cond.methodLink k.1.cls index k'.1 ∈ TT) (hm : MkS k' n) (hn : As.length = n) (hs : st = As.reverse ++ rest)
    (hR : d' + 1 ≤ R.frames ∧ 8 + (k'.2.2.1 + 11) + 64 * d' ≤ R.locals) (hsum : (rest.map fun v => v.category).sum ≤ 8) (hf : cl + mc ≤ R.cells ∧ sl + ms ≤ R.slots)
    (h : ∀ (r : Option Value) (S' : ST) (I' : IT) (L' : LT), post r S' I' L' → V E k R Q (cl + mc) (sl + ms) S' I' L' (pc + 3) ls (r.toList ++ rest)) : V E k R Q cl sl S I L pc ls st := by
  intro p e s m args below meth c H locs lsA hc hr hS hl
  obtain ⟨hx, hb, hml, hrt, hlk, hown, hts, hK, hnm, hbs⟩ := id hc
  obtain ⟨w1, w3, w4, w5⟩ := hm
  have cb : CallB R s args k.1.cls index k'.1 k'.2.1 k'.2.2.1 k'.2.2.2 (wsK k') (rmOf d' mc ms) mc ms n := callB_of n hts (goodK w4) rfl rfl rfl (hts _ w3) (hts _ hl0) w5 hR
  refine W_run (a := As.toArray) (rest := rest) (va_runS ⟨hx, hb, hml, hown, hts⟩ hC ⟨cb, hts _ w1⟩ ⟨FB, preOf hK hr hS⟩ rfl hn hl.1 hs (lv_room hsum) hd hf) hS (fun r S' I' L' H1 locs1 hp hR' hS' => h r S' I' L' hp p e s m args below meth c H1 locs1 lsA hc hR' hS' hl)
theorem V_callI {k' : MI} {index d' mc ms n b : Nat} {As rest : List Value} {post : Option Value → ST → IT → LT → Prop} (hC : C E k' d' mc ms (.ref b :: As) S I L post) (hd : decode k.2.1 pc = .ok (.invokespecial index, 3)) (hl0 : Cond.methodLink k.1.cls index k'.1 ∈ TT) (hm : MkI k' n) (hn : As.length = n) (hs : st = As.reverse ++ .ref b :: rest)
    (hR : d' + 1 ≤ R.frames ∧ 8 + (k'.2.2.1 + 11) + 64 * d' ≤ R.locals) (hsum : (rest.map fun v => v.category).sum ≤ 8) (hf : cl + mc ≤ R.cells ∧ sl + ms ≤ R.slots)
    (h : ∀ (r : Option Value) (S' : ST) (I' : IT) (L' : LT), post r S' I' L' → V E k R Q (cl + mc) (sl + ms) S' I' L' (pc + 3) ls (r.toList ++ rest)) : V E k R Q cl sl S I L pc ls st := by
  intro p e s m args below meth c H locs lsA hc hr hS hl
  obtain ⟨hx, hb, hml, hrt, hlk, hown, hts, hK, hnm, hbs⟩ := id hc
  obtain ⟨w1, w3, w4, w6, w7, w5⟩ := hm
  have cb : CallB R s args k.1.cls index k'.1 k'.2.1 k'.2.2.1 none (wsK k') (rmOf d' mc ms) mc ms n := callB_of n hts (goodK (by rw [w6]; exact w4)) (by unfold wsK; rw [w6]) rfl rfl (hts _ w3) (hts _ hl0) w5 hR
  refine W_run (a := (Value.ref b :: As).toArray) (rest := rest) (va_runI ⟨hx, hb, hml, hown, hts⟩ hC ⟨cb, w7, hts _ w1⟩ ⟨FB, preOf hK hr hS⟩ rfl hn hl.1 hs (lv_room hsum) hd hf) hS (fun r S' I' L' H1 locs1 hp hR' hS' => h r S' I' L' hp p e s m args below meth c H1 locs1 lsA hc hR' hS' hl)
/-- nest mates: static methods, constructors -/
theorem V_callSN {k' : MI} {index d' mc ms n : Nat} {host : String} {As rest : List Value} {post : Option Value → ST → IT → LT → Prop} (hC : C E k' d' mc ms As S I L post) (hd : decode k.2.1 pc = .ok (.invokestatic index, 3)) (hl0 : Cond.methodLinkNest k.1.cls index k'.1 host ∈ nestW) (hm : MkS k' n) (hn : As.length = n) (hs : st = As.reverse ++ rest)
    (hR : d' + 1 ≤ R.frames ∧ 8 + (k'.2.2.1 + 11) + 64 * d' ≤ R.locals) (hsum : (rest.map fun v => v.category).sum ≤ 8) (hf : cl + mc ≤ R.cells ∧ sl + ms ≤ R.slots)
    (h : ∀ (r : Option Value) (S' : ST) (I' : IT) (L' : LT), post r S' I' L' → V E k R Q (cl + mc) (sl + ms) S' I' L' (pc + 3) ls (r.toList ++ rest)) : V E k R Q cl sl S I L pc ls st := by
  intro p e s m args below meth c H locs lsA hc hr hS hl
  obtain ⟨hx, hb, hml, hrt, hlk, hown, hts, hK, hnm, hbs⟩ := id hc
  obtain ⟨w1, w3, w4, w5⟩ := hm
  have cb : va_CN R s args k.1.cls index k'.1 host k'.2.1 k'.2.2.1 k'.2.2.2 (wsK k') (rmOf d' mc ms) mc ms n := va_cnB n hts (goodK w4) rfl rfl rfl (hK.2.1 _ hl0) (hts _ w3) w5 hR
  refine W_run (a := As.toArray) (rest := rest) (va_runSN ⟨hx, hb, hml, hown, hts⟩ hC ⟨cb, hts _ w1, trivial⟩ ⟨FB, preOf hK hr hS⟩ rfl hn hl.1 hs (lv_room hsum) hd hf) hS (fun r S' I' L' H1 locs1 hp hR' hS' => h r S' I' L' hp p e s m args below meth c H1 locs1 lsA hc hR' hS' hl)
theorem V_callIN {k' : MI} {index d' mc ms n b : Nat} {host : String} {As rest : List Value} {post : Option Value → ST → IT → LT → Prop} (hC : C E k' d' mc ms (.ref b :: As) S I L post) (hd : decode k.2.1 pc = .ok (.invokespecial index, 3)) (hl0 : Cond.methodLinkNest k.1.cls index k'.1 host ∈ nestW) (hm : MkI k' n) (hn : As.length = n) (hs : st = As.reverse ++ .ref b :: rest)
    (hR : d' + 1 ≤ R.frames ∧ 8 + (k'.2.2.1 + 11) + 64 * d' ≤ R.locals) (hsum : (rest.map fun v => v.category).sum ≤ 8) (hf : cl + mc ≤ R.cells ∧ sl + ms ≤ R.slots)
    (h : ∀ (r : Option Value) (S' : ST) (I' : IT) (L' : LT), post r S' I' L' → V E k R Q (cl + mc) (sl + ms) S' I' L' (pc + 3) ls (r.toList ++ rest)) : V E k R Q cl sl S I L pc ls st := by
  intro p e s m args below meth c H locs lsA hc hr hS hl
  obtain ⟨hx, hb, hml, hrt, hlk, hown, hts, hK, hnm, hbs⟩ := id hc
  obtain ⟨w1, w3, w4, w6, w7, w5⟩ := hm
  have cb : va_CN R s args k.1.cls index k'.1 host k'.2.1 k'.2.2.1 none (wsK k') (rmOf d' mc ms) mc ms n := va_cnB n hts (goodK (by rw [w6]; exact w4)) (by unfold wsK; rw [w6]) rfl rfl (hK.2.1 _ hl0) (hts _ w3) w5 hR
  refine W_run (a := (Value.ref b :: As).toArray) (rest := rest) (va_runIN ⟨hx, hb, hml, hown, hts⟩ hC ⟨cb, w7, hts _ w1⟩ ⟨FB, preOf hK hr hS⟩ rfl hn hl.1 hs (lv_room hsum) hd hf) hS (fun r S' I' L' H1 locs1 hp hR' hS' => h r S' I' L' hp p e s m args below meth c H1 locs1 lsA hc hR' hS' hl)
/-- Object() -/
theorem V_objInit {index a : Nat} (hd : decode k.2.1 pc = .ok (.invokespecial index, 3)) (hl0 : Cond.methodLink k.1.cls index objectInit ∈ TT) (hin : Cond.instanceMethod objectInit ∈ TT) (hco : Cond.code objectInit ⟨#[0xb1]⟩ 1 none ∈ TT) (hfr : 1 ≤ R.frames) (hlo : (st.map fun v => v.category).sum + 12 ≤ R.locals) (h : V E k R Q cl sl S I L (pc + 3) ls st) : V E k R Q cl sl S I L pc ls (.ref a :: st) := by
  intro p e s m args below meth c H locs lsA hc hr hS hl
  obtain ⟨hx, hb, hml, hrt, hlk, hown, hts, hK, hnm, hbs⟩ := id hc
  exact W.objInit hx hb hown (hts _ hl0) (hts _ hin) (hts _ hco) rfl (by rw [hml]; exact hl.1) rfl hd hfr (by show 2 * 0 + _ + 12 ≤ _; omega) (h p e s m args below meth c H locs lsA hc hr hS hl)
variable {post : Option Value → ST → IT → LT → Prop} {mc ms : Nat}
theorem V_iret {v : Int32} (hd : decode k.2.1 pc = .ok (.ireturn, 1)) (hr0 : k.2.2.2 = some .int) (h1 : cl ≤ mc) (h2 : sl ≤ ms) (hp : post (some (.int v)) S I L) : V E k R (QM E post mc ms) cl sl S I L pc ls [.int v] := by
  intro p e s m args below meth c H locs lsA hc hr hS hl
  refine W.widen h1 h2 ?_
  exact W.iret hc.1 hc.2.1 (hc.2.2.2.1.trans hr0) (fun t ht hW => ⟨_, S, I, L, rfl, hp, by rw [ht]; exact hr, hS.F ht⟩) hS.2.2 hd hc.2.2.2.2.1
theorem V_zret {v : Int32} (hd : decode k.2.1 pc = .ok (.ireturn, 1)) (hr0 : k.2.2.2 = some .boolean) (hn : narrow .boolean (.int v) = .int v) (h1 : cl ≤ mc) (h2 : sl ≤ ms) (hp : post (some (.int v)) S I L) : V E k R (QM E post mc ms) cl sl S I L pc ls [.int v] := by
  intro p e s m args below meth c H locs lsA hc hr hS hl
  refine W.widen h1 h2 ?_
  exact W.zret hc.1 hc.2.1 (hc.2.2.2.1.trans hr0) hn (fun t ht hW => ⟨_, S, I, L, rfl, hp, by rw [ht]; exact hr, hS.F ht⟩) hS.2.2 hd hc.2.2.2.2.1
theorem V_cret {v : Int32} (hd : decode k.2.1 pc = .ok (.ireturn, 1)) (hr0 : k.2.2.2 = some .char) (hn : narrow .char (.int v) = .int v) (h1 : cl ≤ mc) (h2 : sl ≤ ms) (hp : post (some (.int v)) S I L) : V E k R (QM E post mc ms) cl sl S I L pc ls [.int v] := by
  intro p e s m args below meth c H locs lsA hc hr hS hl
  refine W.widen h1 h2 ?_
  exact W.zret hc.1 hc.2.1 (hc.2.2.2.1.trans hr0) hn (fun t ht hW => ⟨_, S, I, L, rfl, hp, by rw [ht]; exact hr, hS.F ht⟩) hS.2.2 hd hc.2.2.2.2.1
theorem V_lret {v : Int64} (hd : decode k.2.1 pc = .ok (.lreturn, 1)) (hr0 : k.2.2.2 = some .long) (h1 : cl ≤ mc) (h2 : sl ≤ ms) (hp : post (some (.long v)) S I L) : V E k R (QM E post mc ms) cl sl S I L pc ls [.long v] := by
  intro p e s m args below meth c H locs lsA hc hr hS hl
  refine W.widen h1 h2 ?_
  exact W.lret hc.1 hc.2.1 (hc.2.2.2.1.trans hr0) (fun t ht hW => ⟨_, S, I, L, rfl, hp, by rw [ht]; exact hr, hS.F ht⟩) hS.2.2 hd hc.2.2.2.2.1
theorem V_vret (hd : decode k.2.1 pc = .ok (.return_, 1)) (hr0 : k.2.2.2 = none) (h1 : cl ≤ mc) (h2 : sl ≤ ms) (hp : post none S I L) : V E k R (QM E post mc ms) cl sl S I L pc ls [] := by
  intro p e s m args below meth c H locs lsA hc hr hS hl
  refine W.widen h1 h2 ?_
  exact W.vret hc.1 hc.2.1 (hc.2.2.2.1.trans hr0) (fun t ht hW => ⟨_, S, I, L, rfl, hp, by rw [ht]; exact hr, hS.F ht⟩) hS.2.2 hd hc.2.2.2.2.1
theorem V_aret {v : Value} {rt : FieldType} (hd : decode k.2.1 pc = .ok (.areturn, 1)) (hr0 : k.2.2.2 = some rt) (hrt : (∃ n, rt = .object n) ∨ ∃ t, rt = .array t) (hv : v = .null ∨ ∃ a, v = .ref a) (h1 : cl ≤ mc) (h2 : sl ≤ ms) (hp : post (some v) S I L) : V E k R (QM E post mc ms) cl sl S I L pc ls [v] := by
  intro p e s m args below meth c H locs lsA hc hr hS hl
  refine W.widen h1 h2 ?_
  exact W.aret hc.1 hc.2.1 (hc.2.2.2.1.trans hr0) hrt hv (fun t ht hW => ⟨_, S, I, L, rfl, hp, by rw [ht]; exact hr, hS.F ht⟩) hS.2.2 hd hc.2.2.2.2.1
theorem C.imp {k' : MI} {d mc ms : Nat} {av : List Value} {post post' : Option Value → ST → IT → LT → Prop} (h : C E k' d mc ms av S I L post) (hi : ∀ r S' I' L', post r S' I' L' → post' r S' I' L') : C E k' d mc ms av S I L post' := by
  unfold C Met at h ⊢
  intro p e ha hc hk s m args below hf happ hP hT
  obtain ⟨t, o, h1, h2, h3, ⟨⟨r, S', I', L', g1, g2, g3⟩, g4⟩⟩ := h p e ha hc hk s m args below hf happ hP hT
  exact ⟨t, o, h1, h2, h3, ⟨r, S', I', L', g1, hi _ _ _ _ g2, g3⟩, g4⟩
end VY
