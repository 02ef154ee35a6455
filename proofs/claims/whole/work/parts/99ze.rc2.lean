/-! THE READER: readClause, from its start -/
section SE
variable {E : EnT} {S : ST} {L : LT} {o n m cl : Nat} {t : Nat → Nat} {od : Bool}
theorem c_X5_readClause {k l s : Nat} {c : CT} {I : IT} (h5 : Lay5 E S o) (hb : ∀ i, i < n → t i < 256) (hn : n ≤ 400) (hcl : cl < 12) (hR : RS I o t n m od k l c) (hc : c.2.2 ≤ k + s) (hs : s ≤ 44) (hl : l ≤ 50) : C E kX5_readClause 31 0 0 [.ref o, .int (nI cl)] S I L (PCl o t n m od S L I cl k c (rdC t n od (pk t n k) l)) := by
  have h6 := hR.2.2.2.2.1
  have key := fun ah hah => rc_main (E := E) (L := L) (ah := ah) h5 hb hn hcl hR hc hs hl hah
  refine C_of (by decide) (Nat.le_of_ble_eq_true rfl) ?_
  refine V_aload_n (pc := 0) dX5_readClause_0 rfl ?_
  refine V_getIE (pc := 1) 5 6 dX5_readClause_1 flX5_33 (by decide) h5.o (h6) ?_
  refine V_if_eqB (pc := 4) (tgt := 12) dX5_readClause_4 (by decide) (fun c4 => ?_) (fun n4 => ?_)
  · skip
    refine V_bipush (pc := 12) (v := nI 8) dX5_readClause_12 (by decide) ?_
    refine V_istore_n (pc := 14) (ls' := [(0, _), (1, _), (2, _)]) dX5_readClause_14 (by decide) rfl ?_
    first | exact key 12 (by rw [if_pos n4]) | exact key 8 (by rw [if_neg (by rw [c4]; decide)]) | fail
  · skip
    refine V_bipush (pc := 7) (v := nI 12) dX5_readClause_7 (by decide) ?_
    refine V_goto (pc := 9) (tgt := 14) dX5_readClause_9 (by decide) ?_
    refine V_istore_n (pc := 14) (ls' := [(0, _), (1, _), (2, _)]) dX5_readClause_14 (by decide) rfl ?_
    first | exact key 12 (by rw [if_pos n4]) | exact key 8 (by rw [if_neg (by rw [c4]; decide)]) | fail
end SE
