/-! THE LAW'S ENTRY: what the tables and the statics say there -/
theorem nT1 {w : Cond} (i : Nat) (h : tables_1_1[i]? = some w) : w ∈ lw_tbl := List.mem_append_right _ (List.mem_append_left _ (List.mem_of_getElem? h))
theorem nT2 {w : Cond} (i : Nat) (h : tables_1_2[i]? = some w) : w ∈ lw_tbl := List.mem_append_right _ (List.mem_append_right _ (List.mem_append_left _ (List.mem_of_getElem? h)))
theorem nT3 {w : Cond} (i : Nat) (h : tables_1_3[i]? = some w) : w ∈ lw_tbl := List.mem_append_right _ (List.mem_append_right _ (List.mem_append_right _ (List.mem_append_left _ (List.mem_of_getElem? h))))
theorem nT4 {w : Cond} (i : Nat) (h : tables_1_4[i]? = some w) : w ∈ lw_tbl := List.mem_append_right _ (List.mem_append_right _ (List.mem_append_right _ (List.mem_append_right _ (List.mem_append_left _ (List.mem_of_getElem? h)))))
set_option maxRecDepth 20000 in
theorem nw_all : ∀ w ∈ nestW, w ∈ lw_tbl := List.forall_mem_cons.mpr ⟨nT1 34 rfl, List.forall_mem_cons.mpr ⟨nT1 62 rfl, List.forall_mem_cons.mpr ⟨nT1 97 rfl, List.forall_mem_cons.mpr ⟨nT2 84 rfl, List.forall_mem_cons.mpr ⟨nT4 99 rfl, List.forall_mem_cons.mpr ⟨nT4 100 rfl, fun _ h => absurd h List.not_mem_nil⟩⟩⟩⟩⟩⟩
set_option maxRecDepth 20000 in
theorem w_cast : Cond.castable "[I" "java/lang/Cloneable" ∈ lw_tbl := nT1 166 rfl
set_option maxRecDepth 20000 in
theorem w_ao10 : Cond.arrayOver (.object RX10) ∈ lw_tbl := nT1 31 rfl
set_option maxRecDepth 20000 in
theorem w_ao7 : Cond.arrayOver (.object RX7) ∈ lw_tbl := nT2 25 rfl
set_option maxRecDepth 20000 in
theorem w_ao9 : Cond.arrayOver (.object RX9) ∈ lw_tbl := nT2 118 rfl
set_option maxRecDepth 20000 in
theorem w_ls1 : Cond.laysStatic "DowryBoxes" "MOST_OF_TERM" "[I" ∈ lw_tbl := nT3 140 rfl
set_option maxRecDepth 20000 in
theorem w_sr : Cond.stringRef "DowryBoxes$Reader" 106 wText ∈ lw_tbl := nT3 185 rfl
set_option maxRecDepth 20000 in
theorem w_ls2 : Cond.laysStatic "java/lang/String" "COMPACT_STRINGS" "Z" ∈ lw_tbl := nT3 195 rfl
set_option maxRecDepth 20000 in
theorem w_ls3 : Cond.laysStatic "jdk/internal/util/Preconditions" "SIOOBE_FORMATTER" "Ljava/util/function/BiFunction;" ∈ lw_tbl := nT3 211 rfl
set_option maxRecDepth 20000 in
theorem w_in1 : Cond.initialized "DowryBoxes" ∈ lw_tbl := nT1 1 rfl
set_option maxRecDepth 20000 in
theorem w_in2 : Cond.initialized "java/lang/String" ∈ lw_tbl := nT1 18 rfl
set_option maxRecDepth 20000 in
theorem w_in3 : Cond.initialized "jdk/internal/util/Preconditions" ∈ lw_tbl := nT1 20 rfl
theorem itA : ∀ ci, ci < 13 → Cond.instantiable (RC ci) (nfC ci) ∈ TT := all13 it0 it1 it2 it3 it4 it5 it6 it7 it8 it9 it10 it11 it12
section KE
variable {s : State} {args : Array Value}
theorem arrP {ty : FieldType} (h : (Cond.arrayClass ty).before args s = true) : ∃ cA, ArrOfT s cA ty ∧ s.vm.findClass ("[" ++ ty.toString) = some cA := by
  obtain ⟨cA, kA, comp, h1, h2, h3⟩ := Cond.arrayClass_spec h
  exact ⟨cA, fun n z => ⟨fun k h => (by cases h), kA, h2, comp, h3⟩, h1⟩
theorem arrO {C : String} (h : (Cond.arrayOver (.object C)).before args s = true) : ∃ cA, ArrOfT s cA (.object C) ∧ va_RA s cA (.object C) := by
  obtain ⟨comp, cA, kA, h1, h2, h3, h4, h5⟩ := Cond.arrayOver_spec h
  exact ⟨cA, fun n z => ⟨fun k h => (by cases h), kA, h3, comp, h4⟩, kA, comp, h3, h4, h1, h5⟩
abbrev tStr : Term := .string "DowryBoxes$Reader" 106
abbrev tVal : Term := .field tStr "java/lang/String" "value" "[B"
set_option maxRecDepth 100000 in
theorem fl_el : ∀ j : Fin 146, (flatC (Jvm.Cond.and given_1 narrow_1))[58 + j.1]? = some (Cond.eq (.elem tVal (.int (Int32.ofNat j.1))) (.int (wByt.getD j.1 0))) := by decide +kernel
theorem lw_env (l : Launch) (hts : ∀ w ∈ lw_tbl, w.before args s = true) (hgv : (Jvm.Cond.and given_1 narrow_1).before args s = true) : ∃ E : EnT, E.1 = l ∧ eB E = s.heap.size ∧ KK E s := by
  have hs := flat_of_before _ hgv
  have hT : ∀ w ∈ TT, w.before args s = true := fun w hw => hts w (List.mem_filter.mp hw).1
  have hA : ∀ a : Nat, a < s.heap.size → ¬ (s.heap.size ≤ a) := fun a h => by omega
  have h0 : ∀ ci : Nat, ∃ q : ClassId × (Nat → Nat), ci < 13 → u_Kn s (RC ci) (TC ci) (nfC ci) q.1 q.2 := by
    intro ci
    by_cases hc : ci < 13
    · obtain ⟨cC, iS, h⟩ := u_known (n := nfC ci) hT (inC ci hc) (hT _ (itA ci hc))
      exact ⟨(cC, iS), fun _ => h⟩
    · exact ⟨(0, fun _ => 0), fun h => absurd h hc⟩
  obtain ⟨f, hf⟩ := Classical.axiomOfChoice h0
  obtain ⟨cI, i1, i2⟩ := arrP (hT _ acI)
  obtain ⟨cJ, j1, j2⟩ := arrP (hT _ acJ)
  obtain ⟨cZ, z1, z2⟩ := arrP (hT _ acZ)
  obtain ⟨c9, n1, n2⟩ := arrO (hts _ w_ao9)
  obtain ⟨c10, t1, t2⟩ := arrO (hts _ w_ao10)
  obtain ⟨c7, s1, s2⟩ := arrO (hts _ w_ao7)
  obtain ⟨t0, ht0, hTm⟩ := va_Tof (args := args) (s := s) (tm := .static "DowryBoxes" "MOST_OF_TERM" "[I") (ty := .int) (N := 3) (f := fun j => .int (([999, 10, 9] : List Int32).getD j 0)) (A := fun q => s.heap.size ≤ q) (by decide) (hs _ (by decide +kernel)) (va_eqt (hs _ (by decide +kernel))) (fun j hj => by
    have hc : j = 0 ∨ j = 1 ∨ j = 2 := by omega
    rcases hc with rfl | rfl | rfl
    · exact va_eqt (hs _ (by decide +kernel))
    · exact va_eqt (hs _ (by decide +kernel))
    · exact va_eqt (hs _ (by decide +kernel))) hA
  obtain ⟨adK, adV, hS, hE⟩ := vk_Sof (args := args) (s := s) (N := 1) (tm := fun _ => tStr) (len := [146]) (byt := [wByt]) (A := fun q => s.heap.size ≤ q) (fun i hi => by
      rw [show i = 0 by omega]; decide) (fun i _ => hs _ (by decide +kernel)) (fun i _ => hs _ (by decide +kernel)) (fun i _ => hs _ (by decide +kernel)) (fun i hi => by
      rw [show i = 0 by omega]; exact hs _ (by decide +kernel)) (fun i hi j hj => by
      have e : i = 0 := by omega
      subst e
      exact hs _ (List.mem_of_getElem? (fl_el ⟨j, hj⟩))) (fun i j hi hj hne => absurd (by omega) hne) hA
  refine ⟨(l, (fun ci => (f ci).1, fun ci => (f ci).2), (fun k => if k = 0 then cI else if k = 1 then cJ else if k = 2 then cZ else if k = 3 then c9 else if k = 4 then c10 else c7), s.heap.size, fun k => if k = 0 then t0 else if k = 1 then adK 0 else adV 0), rfl, rfl, ⟨fun c q hq => ?_, fun k q hq => ?_⟩, fun w hw => ?_, vk_R.of (A := args) (hts _ w_sr) (hE 0 (by decide)), ⟨va_Zref (hts _ w_ls1) (hts _ w_in1) ht0 hA, hTm, ⟨fun i hi => ?_, fun i j hi hj _ => by omega⟩, va_Zof (hts _ w_ls2) (hts _ w_in2) (va_eqi (hs _ (by decide +kernel))) hA, va_Zqof (hts _ w_ls3) (hts _ w_in3) (hs _ (by decide +kernel)) hA⟩, ⟨va_AO.of (hts _ w_ao9), va_AO.of (hts _ w_ao10), va_AO.of (hts _ w_ao7)⟩, va_Nw.of rfl (hts _ w_cast)⟩
  · have hc : c < 13 := by
      have h1 := (List.getElem?_eq_some_iff.mp hq).1
      exact h1
    have e : q = (RC c, TC c, nfC c) := Option.some.inj (hq.symm.trans (vwCl_at c hc))
    subst e
    exact hf c hc
  · have hk : k < 6 := (List.getElem?_eq_some_iff.mp hq).1
    have hc : k = 0 ∨ k = 1 ∨ k = 2 ∨ k = 3 ∨ k = 4 ∨ k = 5 := by omega
    rcases hc with rfl | rfl | rfl | rfl | rfl | rfl
    · have e := Option.some.inj hq; rw [← e]; exact ⟨i1, i2⟩
    · have e := Option.some.inj hq; rw [← e]; exact ⟨j1, j2⟩
    · have e := Option.some.inj hq; rw [← e]; exact ⟨z1, z2⟩
    · have e := Option.some.inj hq; rw [← e]; exact ⟨n1, n2⟩
    · have e := Option.some.inj hq; rw [← e]; exact ⟨t1, t2⟩
    · have e := Option.some.inj hq; rw [← e]; exact ⟨s1, s2⟩
  · have h1 := hts w (nw_all w hw)
    simp only [nestW, List.mem_cons, List.not_mem_nil, or_false] at hw
    rcases hw with rfl | rfl | rfl | rfl | rfl | rfl <;> exact va_Nw.of rfl h1
  · have e : i = 0 := by omega
    subst e
    exact hS.1 0 (by decide)
end KE
