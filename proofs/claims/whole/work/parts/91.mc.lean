/-! the static table, the words' string, rows of longs -/
section VS
variable {E : EnT} {k : MI} {R : Room} {Q : QT} {cl sl : Nat} {S : ST} {I : IT} {L : LT} {pc : Nat} {ls : List (Nat × Value)} {st : List Value}
theorem V_getsM {index : Nat} (hd : decode k.2.1 pc = .ok (.getstatic index, 3)) (hl0 : Cond.fieldLink k.1.cls index "DowryBoxes" "MOST_OF_TERM" "[I" ∈ TT) (h : V E k R Q cl sl S I L (pc + 3) ls (.ref (E.2.2.2.2 0) :: st)) : V E k R Q cl sl S I L pc ls st := by
  intro p e s m args below meth c H locs lsA hc hr hS hl
  obtain ⟨hx, hb, hml, hrt, hlk, hown, hts, hK, hnm, hbs⟩ := id hc
  exact va_gets hx hb hK.2.2.2.1.1 hS hown (hts _ hl0) (fun _ q => q) hd (h p e s m args below meth c H locs lsA hc hr hS hl)
def mot (j : Nat) : Nat := if j = 0 then 999 else if j = 1 then 10 else 9
theorem V_iaT {j : Nat} (hd : decode k.2.1 pc = .ok (.iaload, 1)) (hj : j < 3) (h : V E k R Q cl sl S I L (pc + 1) ls (.int (nI (mot j)) :: st)) : V E k R Q cl sl S I L pc ls (.int (nI j) :: .ref (E.2.2.2.2 0) :: st) := by
  intro p e s m args below meth c H locs lsA hc hr hS hl
  obtain ⟨hx, hb, hml, hrt, hlk, hown, hts, hK, hnm, hbs⟩ := id hc
  refine va_ti hx hb hK.2.2.2.1.2.1 hS (vp_in_nI hj (by omega)) (v := .int (nI (mot j))) ?_ hd (h p e s m args below meth c H locs lsA hc hr hS hl)
  rw [nI_clamp (by omega)]
  have hc3 : j = 0 ∨ j = 1 ∨ j = 2 := by omega
  rcases hc3 with rfl | rfl | rfl <;> rfl
theorem V_ldcT (hk : k.1.cls = "DowryBoxes$Reader") (hd : decode k.2.1 pc = .ok (.ldc 106, 2)) (h : V E k R Q cl sl S I L (pc + 2) ls (.ref (E.2.2.2.2 1) :: st)) : V E k R Q cl sl S I L pc ls st := by
  intro p e s m args below meth c H locs lsA hc hr hS hl
  obtain ⟨hx, hb, hml, hrt, hlk, hown, hts, hK, hnm, hbs⟩ := id hc
  rw [hk] at hown
  exact va_ldcS hx hb hown hK.2.2.1 hd (h p e s m args below meth c H locs lsA hc hr hS hl)
theorem V_getsC {index : Nat} (hd : decode k.2.1 pc = .ok (.getstatic index, 3)) (hl0 : Cond.fieldLink k.1.cls index "java/lang/String" "COMPACT_STRINGS" "Z" ∈ TT) (h : V E k R Q cl sl S I L (pc + 3) ls (.int (nI 1) :: st)) : V E k R Q cl sl S I L pc ls st := by
  intro p e s m args below meth c H locs lsA hc hr hS hl
  obtain ⟨hx, hb, hml, hrt, hlk, hown, hts, hK, hnm, hbs⟩ := id hc
  exact va_gets hx hb hK.2.2.2.1.2.2.2.1 hS hown (hts _ hl0) (fun _ q => q) hd (h p e s m args below meth c H locs lsA hc hr hS hl)
theorem V_getsF {index : Nat} (hd : decode k.2.1 pc = .ok (.getstatic index, 3)) (hl0 : Cond.fieldLink k.1.cls index "jdk/internal/util/Preconditions" "SIOOBE_FORMATTER" "Ljava/util/function/BiFunction;" ∈ TT) (h1 : V E k R Q cl sl S I L (pc + 3) ls (.null :: st)) (h2 : ∀ t, V E k R Q cl sl S I L (pc + 3) ls (.ref t :: st)) : V E k R Q cl sl S I L pc ls st := by
  intro p e s m args below meth c H locs lsA hc hr hS hl
  obtain ⟨hx, hb, hml, hrt, hlk, hown, hts, hK, hnm, hbs⟩ := id hc
  rcases hK.2.2.2.1.2.2.2.2 with hZ | ⟨t, hZ⟩
  · exact va_gets hx hb hZ hS hown (hts _ hl0) (fun _ q => q) hd (h1 p e s m args below meth c H locs lsA hc hr hS hl)
  · exact va_gets hx hb hZ hS hown (hts _ hl0) (fun _ q => q) hd (h2 t p e s m args below meth c H locs lsA hc hr hS hl)
theorem V_getfV {index : Nat} (hd : decode k.2.1 pc = .ok (.getfield index, 3)) (hl0 : Cond.fieldLink k.1.cls index "java/lang/String" "value" "[B" ∈ TT) (h : V E k R Q cl sl S I L (pc + 3) ls (.ref (E.2.2.2.2 2) :: st)) : V E k R Q cl sl S I L pc ls (.ref (E.2.2.2.2 1) :: st) := by
  intro p e s m args below meth c H locs lsA hc hr hS hl
  obtain ⟨hx, hb, hml, hrt, hlk, hown, hts, hK, hnm, hbs⟩ := id hc
  exact vk_getf hx hb (hK.2.2.2.1.2.2.1.1 0 (by decide)).2.2.1 hS hown (hts _ hl0) (fun _ q => q) hd (h p e s m args below meth c H locs lsA hc hr hS hl)
theorem V_getfC {index : Nat} (hd : decode k.2.1 pc = .ok (.getfield index, 3)) (hl0 : Cond.fieldLink k.1.cls index "java/lang/String" "coder" "B" ∈ TT) (h : V E k R Q cl sl S I L (pc + 3) ls (.int (nI 0) :: st)) : V E k R Q cl sl S I L pc ls (.ref (E.2.2.2.2 1) :: st) := by
  intro p e s m args below meth c H locs lsA hc hr hS hl
  obtain ⟨hx, hb, hml, hrt, hlk, hown, hts, hK, hnm, hbs⟩ := id hc
  exact vk_getf hx hb (hK.2.2.2.1.2.2.1.1 0 (by decide)).2.1 hS hown (hts _ hl0) (fun _ q => q) hd (h p e s m args below meth c H locs lsA hc hr hS hl)
theorem V_alenS (hd : decode k.2.1 pc = .ok (.arraylength, 1)) (h : V E k R Q cl sl S I L (pc + 1) ls (.int (nI 146) :: st)) : V E k R Q cl sl S I L pc ls (.ref (E.2.2.2.2 2) :: st) := by
  intro p e s m args below meth c H locs lsA hc hr hS hl
  obtain ⟨hx, hb, hml, hrt, hlk, hown, hts, hK, hnm, hbs⟩ := id hc
  exact va_tlen hx hb (hK.2.2.2.1.2.2.1.1 0 (by decide)).2.2.2 hS (v := nI 146) rfl hd (h p e s m args below meth c H locs lsA hc hr hS hl)
theorem V_baldS {j : Nat} (hd : decode k.2.1 pc = .ok (.baload, 1)) (hj : j < 146) (h : V E k R Q cl sl S I L (pc + 1) ls (.int (wByt.getD j 0) :: st)) : V E k R Q cl sl S I L pc ls (.int (nI j) :: .ref (E.2.2.2.2 2) :: st) := by
  intro p e s m args below meth c H locs lsA hc hr hS hl
  obtain ⟨hx, hb, hml, hrt, hlk, hown, hts, hK, hnm, hbs⟩ := id hc
  refine va_tb hx hb (hK.2.2.2.1.2.2.1.1 0 (by decide)).2.2.2 hS (vp_in_nI hj (by decide)) (v := .int (wByt.getD j 0)) ?_ hd (h p e s m args below meth c H locs lsA hc hr hS hl)
  rw [nI_clamp (by omega)]
  rfl
theorem V_callVS {k' : MI} {index d' mc ms n : Nat} {As rest : List Value} {post : Option Value → ST → IT → LT → Prop} (hC : C E k' d' mc ms (.ref (E.2.2.2.2 1) :: As) S I L post) (hd : decode k.2.1 pc = .ok (.invokevirtual index, 3)) (hl0 : Cond.methodLink k.1.cls index k'.1 ∈ TT) (hm : MkV k' n) (hn : As.length = n) (hs : st = As.reverse ++ .ref (E.2.2.2.2 1) :: rest) (hci : k'.1.cls = "java/lang/String")
    (hR : d' + 1 ≤ R.frames ∧ 8 + (k'.2.2.1 + 11) + 64 * d' ≤ R.locals) (hsum : (rest.map fun v => v.category).sum ≤ 8) (hf : cl + mc ≤ R.cells ∧ sl + ms ≤ R.slots)
    (h : ∀ (r : Option Value) (S' : ST) (I' : IT) (L' : LT), post r S' I' L' → V E k R Q (cl + mc) (sl + ms) S' I' L' (pc + 3) ls (r.toList ++ rest)) : V E k R Q cl sl S I L pc ls st := by
  intro p e s m args below meth c H locs lsA hc hr hS hl
  obtain ⟨hx, hb, hml, hrt, hlk, hown, hts, hK, hnm, hbs⟩ := id hc
  obtain ⟨w1, w2, w3, w4, w5⟩ := hm
  have cb : CallB R s args k.1.cls index k'.1 k'.2.1 k'.2.2.1 k'.2.2.2 (wsK k') (rmOf d' mc ms) mc ms n := callB_of n hts (goodK w4) rfl rfl rfl (hts _ w3) (hts _ hl0) w5 hR
  refine W_run (a := (Value.ref (E.2.2.2.2 1) :: As).toArray) (rest := rest) (va_runV (C := k'.1.cls) ⟨hx, hb, hml, hown, hts⟩ hC ⟨cb, hts _ w1, hts _ w2⟩ ⟨FB, by rw [hci]; exact vk_recv (i := 0) hK.2.2.2.1.2.2.1 (by decide) hS, preOf hK hr hS⟩ rfl hn hl.1 hs (lv_room hsum) hd hf) hS (fun r S' I' L' H1 locs1 hp hR' hS' => h r S' I' L' hp p e s m args below meth c H1 locs1 lsA hc hR' hS' hl)
theorem V_callVSd {k' : MI} {index d' mc ms n : Nat} {As rest : List Value} {v : Value} {S2 : ST} {I2 : IT} {L2 : LT} (hC : Cd E k' d' mc ms (.ref (E.2.2.2.2 1) :: As) S I L v S2 I2 L2) (hd : decode k.2.1 pc = .ok (.invokevirtual index, 3)) (hl0 : Cond.methodLink k.1.cls index k'.1 ∈ TT) (hm : MkV k' n) (hn : As.length = n) (hs : st = As.reverse ++ .ref (E.2.2.2.2 1) :: rest) (hci : k'.1.cls = "java/lang/String")
    (hR : d' + 1 ≤ R.frames ∧ 8 + (k'.2.2.1 + 11) + 64 * d' ≤ R.locals) (hsum : (rest.map fun v => v.category).sum ≤ 8) (hf : cl + mc ≤ R.cells ∧ sl + ms ≤ R.slots)
    (h : V E k R Q (cl + mc) (sl + ms) S2 I2 L2 (pc + 3) ls (v :: rest)) : V E k R Q cl sl S I L pc ls st := V_callVS hC hd hl0 hm hn hs hci hR hsum hf (fun r S' I' L' ⟨e1, e2, e3, e4⟩ => by subst e1 e2 e3 e4; exact h)
theorem V_bret {post : Option Value → ST → IT → LT → Prop} {mc ms : Nat} {v : Int32} (hd : decode k.2.1 pc = .ok (.ireturn, 1)) (hr0 : k.2.2.2 = some .byte) (hn : narrow .byte (.int v) = .int v) (h1 : cl ≤ mc) (h2 : sl ≤ ms) (hp : post (some (.int v)) S I L) : V E k R (QM E post mc ms) cl sl S I L pc ls [.int v] := by
  intro p e s m args below meth c H locs lsA hc hr hS hl
  refine W.widen h1 h2 ?_
  exact W.zret hc.1 hc.2.1 (hc.2.2.2.1.trans hr0) hn (fun t ht hW => ⟨_, S, I, L, rfl, hp, by rw [ht]; exact hr, hS.F ht⟩) hS.2.2 hd hc.2.2.2.2.1
end VS
section VS2
variable {E : EnT} {S : ST} {I : IT} {L : LT}
theorem c_J0_coder_7d493 : Cd E kJ0_coder_7d493 0 0 0 [.ref (E.2.2.2.2 1)] S I L (.int (nI 0)) S I L := by
  refine C_of (by decide) (Nat.le_of_ble_eq_true rfl) ?_
  refine V_getsC dJ0_coder_7d493_0 flJ0_38 ?_
  refine V_if_eqN (pc := 3) (tgt := 13) dJ0_coder_7d493_3 (by decide) (by omega) (fun c3 => absurd c3 (by omega)) (fun n3 => ?_)
  refine V_aload_n (pc := 6) dJ0_coder_7d493_6 rfl ?_
  refine V_getfC dJ0_coder_7d493_7 flJ0_15 ?_
  refine V_goto (pc := 10) (tgt := 14) dJ0_coder_7d493_10 (by decide) ?_
  refine V_bret (pc := 14) dJ0_coder_7d493_14 rfl rfl (by first | decide | omega) (by first | decide | omega) ?_
  exact ⟨rfl, rfl, rfl, rfl⟩
theorem c_J0_isLatin1_aae02 : Cd E kJ0_isLatin1_aae02 0 0 0 [.ref (E.2.2.2.2 1)] S I L (.int (nI 1)) S I L := by
  refine C_of (by decide) (Nat.le_of_ble_eq_true rfl) ?_
  refine V_getsC dJ0_isLatin1_aae02_0 flJ0_38 ?_
  refine V_if_eqN (pc := 3) (tgt := 17) dJ0_isLatin1_aae02_3 (by decide) (by omega) (fun c3 => absurd c3 (by omega)) (fun n3 => ?_)
  refine V_aload_n (pc := 6) dJ0_isLatin1_aae02_6 rfl ?_
  refine V_getfC dJ0_isLatin1_aae02_7 flJ0_15 ?_
  refine V_if_neN (pc := 10) (tgt := 17) dJ0_isLatin1_aae02_10 (by decide) (by omega) (fun c10 => absurd c10 (by omega)) (fun n10 => ?_)
  refine V_iconst (pc := 13) (v := nI 1) dJ0_isLatin1_aae02_13 (by decide) ?_
  refine V_goto (pc := 14) (tgt := 18) dJ0_isLatin1_aae02_14 (by decide) ?_
  refine V_zretB (pc := 18) (p := true) dJ0_isLatin1_aae02_18 rfl rfl (by first | decide | omega) (by first | decide | omega) ?_
  exact ⟨rfl, rfl, rfl, rfl⟩
theorem c_J0_length_8abf5 : Cd E kJ0_length_8abf5 1 0 0 [.ref (E.2.2.2.2 1)] S I L (.int (nI 146)) S I L := by
  refine C_of (by decide) (Nat.le_of_ble_eq_true rfl) ?_
  refine V_aload_n (pc := 0) dJ0_length_8abf5_0 rfl ?_
  refine V_getfV dJ0_length_8abf5_1 flJ0_9 ?_
  refine V_alenS dJ0_length_8abf5_4 ?_
  refine V_aload_n (pc := 5) dJ0_length_8abf5_5 rfl ?_
  refine V_callVSd (pc := 6) (c_J0_coder_7d493) dJ0_length_8abf5_6 mlJ0_335 mkJ0_coder_7d493 rfl rfl rfl ⟨Nat.le_of_ble_eq_true rfl, Nat.le_of_ble_eq_true rfl⟩ (Nat.le_of_ble_eq_true rfl) ⟨Nat.le_of_ble_eq_true rfl, Nat.le_of_ble_eq_true rfl⟩ ?_
  refine V_ishrN (pc := 9) dJ0_length_8abf5_9 (by omega) (by omega) ?_
  refine V_iret (pc := 10) dJ0_length_8abf5_10 rfl (by first | decide | omega) (by first | decide | omega) ?_
  exact ⟨rfl, rfl, rfl, rfl⟩
theorem c_J3_checkIndex_n {i n : Nat} (hi : i < n) (hn : n < 2 ^ 31) : Cd E kJ3_checkIndex_8e157 0 0 0 [.int (nI i), .int (nI n), .null] S I L (.int (nI i)) S I L := by
  refine C_of (by decide) (Nat.le_of_ble_eq_true rfl) ?_
  refine V_iload_n (pc := 0) dJ3_checkIndex_8e157_0 rfl ?_
  refine V_if_ltN (pc := 1) (tgt := 9) dJ3_checkIndex_8e157_1 (by decide) (by omega) ?_
  refine V_iload_n (pc := 4) dJ3_checkIndex_8e157_4 rfl ?_
  refine V_iload_n (pc := 5) dJ3_checkIndex_8e157_5 rfl ?_
  refine V_icmp_ltN (pc := 6) (tgt := 16) dJ3_checkIndex_8e157_6 (by decide) (by omega) (by omega) (fun c6 => ?_) (fun n6 => absurd n6 (by omega))
  refine V_iload_n (pc := 16) dJ3_checkIndex_8e157_16 rfl ?_
  refine V_iret (pc := 17) dJ3_checkIndex_8e157_17 rfl (by first | decide | omega) (by first | decide | omega) ?_
  exact ⟨rfl, rfl, rfl, rfl⟩
theorem c_J3_checkIndex_r {i n t : Nat} (hi : i < n) (hn : n < 2 ^ 31) : Cd E kJ3_checkIndex_8e157 0 0 0 [.int (nI i), .int (nI n), .ref t] S I L (.int (nI i)) S I L := by
  refine C_of (by decide) (Nat.le_of_ble_eq_true rfl) ?_
  refine V_iload_n (pc := 0) dJ3_checkIndex_8e157_0 rfl ?_
  refine V_if_ltN (pc := 1) (tgt := 9) dJ3_checkIndex_8e157_1 (by decide) (by omega) ?_
  refine V_iload_n (pc := 4) dJ3_checkIndex_8e157_4 rfl ?_
  refine V_iload_n (pc := 5) dJ3_checkIndex_8e157_5 rfl ?_
  refine V_icmp_ltN (pc := 6) (tgt := 16) dJ3_checkIndex_8e157_6 (by decide) (by omega) (by omega) (fun c6 => ?_) (fun n6 => absurd n6 (by omega))
  refine V_iload_n (pc := 16) dJ3_checkIndex_8e157_16 rfl ?_
  refine V_iret (pc := 17) dJ3_checkIndex_8e157_17 rfl (by first | decide | omega) (by first | decide | omega) ?_
  exact ⟨rfl, rfl, rfl, rfl⟩
theorem c_J0_checkIndex_df160 {i n : Nat} (hi : i < n) (hn : n < 2 ^ 31) : Cn E kJ0_checkIndex_df160 1 0 0 [.int (nI i), .int (nI n)] S I L S I L := by
  refine C_of (by decide) (Nat.le_of_ble_eq_true rfl) ?_
  refine V_iload_n (pc := 0) dJ0_checkIndex_df160_0 rfl ?_
  refine V_iload_n (pc := 1) dJ0_checkIndex_df160_1 rfl ?_
  refine V_getsF dJ0_checkIndex_df160_2 flJ0_1053 ?_ (fun t => ?_)
  · skip
    refine V_callSd (pc := 5) (c_J3_checkIndex_n hi hn) dJ0_checkIndex_df160_5 mlJ0_1059 mkJ3_checkIndex_8e157 rfl rfl ⟨Nat.le_of_ble_eq_true rfl, Nat.le_of_ble_eq_true rfl⟩ (Nat.le_of_ble_eq_true rfl) ⟨Nat.le_of_ble_eq_true rfl, Nat.le_of_ble_eq_true rfl⟩ ?_
    refine V_pop (pc := 8) dJ0_checkIndex_df160_8 rfl ?_
    refine V_vret (pc := 9) dJ0_checkIndex_df160_9 rfl (by first | decide | omega) (by first | decide | omega) ?_
    exact ⟨rfl, rfl, rfl, rfl⟩
  · skip
    refine V_callSd (pc := 5) (c_J3_checkIndex_r hi hn) dJ0_checkIndex_df160_5 mlJ0_1059 mkJ3_checkIndex_8e157 rfl rfl ⟨Nat.le_of_ble_eq_true rfl, Nat.le_of_ble_eq_true rfl⟩ (Nat.le_of_ble_eq_true rfl) ⟨Nat.le_of_ble_eq_true rfl, Nat.le_of_ble_eq_true rfl⟩ ?_
    refine V_pop (pc := 8) dJ0_checkIndex_df160_8 rfl ?_
    refine V_vret (pc := 9) dJ0_checkIndex_df160_9 rfl (by first | decide | omega) (by first | decide | omega) ?_
    exact ⟨rfl, rfl, rfl, rfl⟩
theorem wByt_and : ∀ j, j < 146 → ((wByt.getD j 0 &&& nI 255).toUInt32 % 65536).toInt32 = wByt.getD j 0 := by decide +kernel
theorem wByt_chr : ∀ j, j < 146 → narrow .char (.int (wByt.getD j 0)) = .int (wByt.getD j 0) := by decide +kernel
theorem c_J1_charAt_3b067 {j : Nat} (hj : j < 146) : Cd E kJ1_charAt_3b067 2 0 0 [.ref (E.2.2.2.2 2), .int (nI j)] S I L (.int (wByt.getD j 0)) S I L := by
  refine C_of (by decide) (Nat.le_of_ble_eq_true rfl) ?_
  refine V_iload_n (pc := 0) dJ1_charAt_3b067_0 rfl ?_
  refine V_aload_n (pc := 1) dJ1_charAt_3b067_1 rfl ?_
  refine V_alenS dJ1_charAt_3b067_2 ?_
  refine V_callSn (pc := 3) (c_J0_checkIndex_df160 hj (by omega)) dJ1_charAt_3b067_3 mlJ1_9 mkJ0_checkIndex_df160 rfl rfl ⟨Nat.le_of_ble_eq_true rfl, Nat.le_of_ble_eq_true rfl⟩ (Nat.le_of_ble_eq_true rfl) ⟨Nat.le_of_ble_eq_true rfl, Nat.le_of_ble_eq_true rfl⟩ ?_
  refine V_aload_n (pc := 6) dJ1_charAt_3b067_6 rfl ?_
  refine V_iload_n (pc := 7) dJ1_charAt_3b067_7 rfl ?_
  refine V_baldS dJ1_charAt_3b067_8 hj ?_
  refine V_sipush (pc := 9) (v := nI 255) dJ1_charAt_3b067_9 (by decide) ?_
  refine V_iand (pc := 12) dJ1_charAt_3b067_12 ?_
  refine V_i2c dJ1_charAt_3b067_13 (wByt_and j hj) ?_
  refine V_cret (pc := 14) dJ1_charAt_3b067_14 rfl (wByt_chr j hj) (by first | decide | omega) (by first | decide | omega) ?_
  exact ⟨rfl, rfl, rfl, rfl⟩
theorem c_J0_charAt_5068e {j : Nat} (hj : j < 146) : Cd E kJ0_charAt_5068e 3 0 0 [.ref (E.2.2.2.2 1), .int (nI j)] S I L (.int (wByt.getD j 0)) S I L := by
  refine C_of (by decide) (Nat.le_of_ble_eq_true rfl) ?_
  refine V_aload_n (pc := 0) dJ0_charAt_5068e_0 rfl ?_
  refine V_callVSd (pc := 1) (c_J0_isLatin1_aae02) dJ0_charAt_5068e_1 mlJ0_492 mkJ0_isLatin1_aae02 rfl rfl rfl ⟨Nat.le_of_ble_eq_true rfl, Nat.le_of_ble_eq_true rfl⟩ (Nat.le_of_ble_eq_true rfl) ⟨Nat.le_of_ble_eq_true rfl, Nat.le_of_ble_eq_true rfl⟩ ?_
  refine V_if_eqN (pc := 4) (tgt := 16) dJ0_charAt_5068e_4 (by decide) (by omega) (fun c4 => absurd c4 (by omega)) (fun n4 => ?_)
  refine V_aload_n (pc := 7) dJ0_charAt_5068e_7 rfl ?_
  refine V_getfV dJ0_charAt_5068e_8 flJ0_9 ?_
  refine V_iload_n (pc := 11) dJ0_charAt_5068e_11 rfl ?_
  refine V_callSd (pc := 12) (c_J1_charAt_3b067 hj) dJ0_charAt_5068e_12 mlJ0_495 mkJ1_charAt_3b067 rfl rfl ⟨Nat.le_of_ble_eq_true rfl, Nat.le_of_ble_eq_true rfl⟩ (Nat.le_of_ble_eq_true rfl) ⟨Nat.le_of_ble_eq_true rfl, Nat.le_of_ble_eq_true rfl⟩ ?_
  refine V_cret (pc := 15) dJ0_charAt_5068e_15 rfl (wByt_chr j hj) (by first | decide | omega) (by first | decide | omega) ?_
  exact ⟨rfl, rfl, rfl, rfl⟩
theorem lp_fillL {Q : QT} {a n : Nat} {v : Int64} (hA : isA E S a 1 n) (hn : n < 2 ^ 31) :
    ∀ m i L, i + m = n → V E kJ7_fill_d0a16 (rmOf 0 0 0) Q 0 0 S I (upr L a (fun j => if i ≤ j ∧ j < n then v else L a j)) 22 [(0, .ref a), (1, .long v), (3, .int (nI n)), (4, .int (nI n))] [] → V E kJ7_fill_d0a16 (rmOf 0 0 0) Q 0 0 S I L 6 [(0, .ref a), (1, .long v), (3, .int (nI i)), (4, .int (nI n))] [] := by
  intro m
  induction m with
  | zero =>
    intro i L hi hk
    have e1 : i = n := by omega
    subst e1
    have e2 : upr L a (fun j => if i ≤ j ∧ j < i then v else L a j) = L := by
      funext x j
      unfold upr
      split
      · rename_i hx; subst hx
        show (if i ≤ j ∧ j < i then v else L x j) = L x j
        rw [if_neg (by omega)]
      · rfl
    rw [e2] at hk
    refine V_iload_n (pc := 6) dJ7_fill_d0a16_6 rfl ?_
    refine V_iload (pc := 7) dJ7_fill_d0a16_7 rfl ?_
    refine V_icmp_geN (pc := 9) (tgt := 22) dJ7_fill_d0a16_9 (by decide) (by omega) (by omega) (fun c9 => ?_) (fun n9 => absurd n9 (by omega))
    exact hk
  | succ m ih =>
    intro i L hi hk
    refine V_iload_n (pc := 6) dJ7_fill_d0a16_6 rfl ?_
    refine V_iload (pc := 7) dJ7_fill_d0a16_7 rfl ?_
    refine V_icmp_geN (pc := 9) (tgt := 22) dJ7_fill_d0a16_9 (by decide) (by omega) (by omega) (fun c9 => absurd c9 (by omega)) (fun n9 => ?_)
    refine V_aload_n (pc := 12) dJ7_fill_d0a16_12 rfl ?_
    refine V_iload_n (pc := 13) dJ7_fill_d0a16_13 rfl ?_
    refine V_lload_n (pc := 14) dJ7_fill_d0a16_14 rfl ?_
    refine V_lastore (pc := 15) dJ7_fill_d0a16_15 (by assumption) (by first | decide | omega) (by omega) ?_
    refine V_iinc1 (pc := 16) (ls' := [(0, _), (1, _), (3, _), (4, _)]) dJ7_fill_d0a16_16 rfl (by decide) rfl ?_
    refine V_goto (pc := 19) (tgt := 6) dJ7_fill_d0a16_19 (by decide) ?_
    refine ih (i + 1) _ (by omega) ?_
    have e2 : upr (up2 L a i v) a (fun j => if i + 1 ≤ j ∧ j < n then v else up2 L a i v a j) = upr L a (fun j => if i ≤ j ∧ j < n then v else L a j) := by
      funext x j
      unfold upr up2
      by_cases hx : x = a
      · subst hx
        by_cases hj : j = i
        · subst hj; simp; omega
        · simp only [if_true, if_neg hj]
          by_cases h1 : i ≤ j ∧ j < n
          · rw [if_pos h1, if_pos (by omega)]
          · rw [if_neg h1, if_neg (by omega)]
      · simp only [if_neg hx]
    rw [e2]
    exact hk
theorem c_J7_fill_d0a16 {a n : Nat} {v : Int64} (hA : isA E S a 1 n) (hn : n < 2 ^ 31) : Cn E kJ7_fill_d0a16 0 0 0 [.ref a, .long v] S I L S I (upr L a (fun j => if j < n then v else L a j)) := by
  refine C_of (by decide) (Nat.le_of_ble_eq_true rfl) ?_
  refine V_iconst (pc := 0) (v := nI 0) dJ7_fill_d0a16_0 (by decide) ?_
  refine V_istore_n (pc := 1) (ls' := [(0, _), (1, _), (3, _)]) dJ7_fill_d0a16_1 (by decide) rfl ?_
  refine V_aload_n (pc := 2) dJ7_fill_d0a16_2 rfl ?_
  refine V_alen (pc := 3) dJ7_fill_d0a16_3 (by assumption) (by decide) ?_
  refine V_istore (pc := 4) (ls' := [(0, _), (1, _), (3, _), (4, _)]) dJ7_fill_d0a16_4 (by decide) rfl ?_
  refine lp_fillL hA hn n 0 L (by omega) ?_
  simp only [Nat.zero_le, true_and]
  refine V_vret dJ7_fill_d0a16_22 rfl (by decide) (by decide) ⟨rfl, rfl, rfl, rfl⟩
end VS2
