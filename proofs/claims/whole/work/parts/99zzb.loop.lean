/-! THE LAW: its loop, its beginning (gen_loop.py) -/
section LL
variable {E : EnT} {B b n : Nat} {xs : Nat → Int32}
theorem lw_exit {S : ST} {I : IT} {L : LT} {cl sl i : Nat} (h1 : cl ≤ 600000) (h2 : sl ≤ 7302249) : VL E B b n xs cl sl S I L 1409 i := by
  refine V_iconst (pc := 1409) (v := nI 1) dL_law_1409 (by decide) ?_
  exact V_lend dL_law_1410 h1 h2
theorem lw_loop (hn : n ≤ 3072) : ∀ (m i : Nat) (S : ST) (I : IT) (L : LT) (A : AT) (cl sl : Nat), n ≤ i + 6 * m → i ≤ 4000 → INVL E B S I L A → cl + 6 * m ≤ 600000 → sl + 974 * m ≤ 7302249 → VL E B b n xs cl sl S I L 18 i := by
  intro m
  induction m with
  | zero =>
    intro i S I L A cl sl hm hi hI hcl hsl
    have hs := (sub6 (i := i) (n := n) hi hn).mpr (by omega)
    have key := lw_exit (E := E) (B := B) (b := b) (n := n) (xs := xs) (S := S) (I := I) (L := L) (i := i) (cl := cl) (sl := sl) (by omega) (by omega)
    refine V_iload_n (pc := 18) dL_law_18 rfl ?_
    refine V_aload_n (pc := 19) dL_law_19 rfl ?_
    refine V_slen (pc := 20) dL_law_20 ?_
    refine V_bipush (pc := 21) (v := nI 6) dL_law_21 (by decide) ?_
    refine V_isub (pc := 23) dL_law_23 ?_
    refine V_icmp_gt (pc := 24) (tgt := 1409) dL_law_24 (by decide) (fun c24 => ?_) (fun n24 => absurd n24 (by exact fun z => z hs))
    exact key
  | succ m ih =>
    intro i S I L A cl sl hm hi hI hcl hsl
    by_cases h6 : i + 6 ≤ n
    · have hcl1 : cl + 6 ≤ 600000 := by omega
      have hsl1 : sl + 974 ≤ 7302249 := Nat.le_trans (Nat.add_le_add_left (Nat.le_mul_of_pos_right 974 (Nat.succ_pos m)) sl) hsl
      have hs : ¬ nI n - nI 6 < nI i := fun z => (sub6 hi hn).mp z h6
      have N : ∀ S' I' L' A', INVL E B S' I' L' A' → VL E B b n xs (cl + 6) (sl + 974) S' I' L' 1403 i := by
        intro S' I' L' A' hI'
        have key := ih (i + 6) S' I' L' A' (cl + 6) (sl + 974) (by omega) (by omega) hI' (by omega) (by omega)
        refine V_iinc (pc := 1403) (ls' := [(0, _), (1, _), (2, _), (3, _)]) dL_law_1403 rfl (iinc6 _) (by decide) rfl ?_
        refine V_goto (pc := 1406) (tgt := 18) dL_law_1406 (by decide) ?_
        exact key
      obtain ⟨k, hk, ek⟩ := and63 (xs i)
      refine V_iload_n (pc := 18) dL_law_18 rfl ?_
      refine V_aload_n (pc := 19) dL_law_19 rfl ?_
      refine V_slen (pc := 20) dL_law_20 ?_
      refine V_bipush (pc := 21) (v := nI 6) dL_law_21 (by decide) ?_
      refine V_isub (pc := 23) dL_law_23 ?_
      refine V_icmp_gt (pc := 24) (tgt := 1409) dL_law_24 (by decide) (fun c24 => absurd c24 (by exact hs)) (fun n24 => ?_)
      refine V_aload_n (pc := 27) dL_law_27 rfl ?_
      refine V_iload_n (pc := 28) dL_law_28 rfl ?_
      refine V_sld (pc := 29) dL_law_29 (by omega) hn ?_
      refine V_bipush (pc := 30) (v := nI 63) dL_law_30 (by decide) ?_
      refine V_iand (pc := 32) dL_law_32 ?_
      skip
      rw [ek]
      have hc : k = 0 ∨ k = 1 ∨ k = 2 ∨ k = 3 ∨ k = 4 ∨ k = 5 ∨ k = 6 ∨ k = 7 ∨ k = 8 ∨ k = 9 ∨ k = 10 ∨ k = 11 ∨ k = 12 ∨ k = 13 ∨ k = 14 ∨ k = 15 ∨ k = 16 ∨ k = 17 ∨ k = 18 ∨ k = 19 ∨ k = 20 ∨ k = 21 ∨ k = 22 ∨ k = 23 ∨ k = 24 ∨ k = 25 ∨ k = 26 ∨ k = 27 ∨ k = 28 ∨ k = 29 ∨ k = 30 ∨ k = 31 ∨ k = 32 ∨ k = 33 ∨ k = 34 ∨ k = 35 ∨ k = 36 ∨ k = 37 ∨ k = 38 ∨ k = 39 ∨ k = 40 ∨ k = 41 ∨ 42 ≤ k := by omega
      rcases hc with rfl | rfl | rfl | rfl | rfl | rfl | rfl | rfl | rfl | rfl | rfl | rfl | rfl | rfl | rfl | rfl | rfl | rfl | rfl | rfl | rfl | rfl | rfl | rfl | rfl | rfl | rfl | rfl | rfl | rfl | rfl | rfl | rfl | rfl | rfl | rfl | rfl | rfl | rfl | rfl | rfl | rfl | hk2
      · skip
        refine V_tableIn (pc := 33) (off := 183) (tgt := 216) dL_law_33 (by decide) (by decide) (by decide) (by decide) ?_
        exact lw_box (cl := cl) (sl := sl) (i := i) hI h6 hn hcl1 hsl1 N
      · skip
        refine V_tableIn (pc := 33) (off := 206) (tgt := 239) dL_law_33 (by decide) (by decide) (by decide) (by decide) ?_
        exact lw_of (cl := cl) (sl := sl) (i := i) hI h6 hn hcl1 hsl1 N
      · skip
        refine V_tableIn (pc := 33) (off := 239) (tgt := 272) dL_law_33 (by decide) (by decide) (by decide) (by decide) ?_
        exact lw_pins (cl := cl) (sl := sl) (i := i) hI h6 hn hcl1 hsl1 N
      · skip
        refine V_tableIn (pc := 33) (off := 282) (tgt := 315) dL_law_33 (by decide) (by decide) (by decide) (by decide) ?_
        exact lw_suitor (cl := cl) (sl := sl) (i := i) hI h6 hn hcl1 hsl1 N
      · skip
        refine V_tableIn (pc := 33) (off := 315) (tgt := 348) dL_law_33 (by decide) (by decide) (by decide) (by decide) ?_
        exact lw_at (cl := cl) (sl := sl) (i := i) hI h6 hn hcl1 hsl1 N
      · skip
        refine V_tableIn (pc := 33) (off := 348) (tgt := 381) dL_law_33 (by decide) (by decide) (by decide) (by decide) ?_
        exact lw_asks (cl := cl) (sl := sl) (i := i) hI h6 hn hcl1 hsl1 N
      · skip
        refine V_tableIn (pc := 33) (off := 391) (tgt := 424) dL_law_33 (by decide) (by decide) (by decide) (by decide) ?_
        exact lw_terms (cl := cl) (sl := sl) (i := i) hI h6 hn hcl1 hsl1 N
      · skip
        refine V_tableIn (pc := 33) (off := 424) (tgt := 457) dL_law_33 (by decide) (by decide) (by decide) (by decide) ?_
        exact lw_feed (cl := cl) (sl := sl) (i := i) hI h6 hn hcl1 hsl1 N
      · skip
        refine V_tableIn (pc := 33) (off := 487) (tgt := 520) dL_law_33 (by decide) (by decide) (by decide) (by decide) ?_
        exact lw_end (cl := cl) (sl := sl) (i := i) hI h6 hn hcl1 hsl1 N
      · skip
        refine V_tableIn (pc := 33) (off := 510) (tgt := 543) dL_law_33 (by decide) (by decide) (by decide) (by decide) ?_
        exact lw_row (cl := cl) (sl := sl) (i := i) hI h6 hn hcl1 hsl1 N
      · skip
        refine V_tableIn (pc := 33) (off := 523) (tgt := 556) dL_law_33 (by decide) (by decide) (by decide) (by decide) ?_
        exact lw_rust (cl := cl) (sl := sl) (i := i) hI h6 hn hcl1 hsl1 N
      · skip
        refine V_tableIn (pc := 33) (off := 536) (tgt := 569) dL_law_33 (by decide) (by decide) (by decide) (by decide) ?_
        exact lw_law (cl := cl) (sl := sl) (i := i) hI h6 hn hcl1 hsl1 N
      · skip
        refine V_tableIn (pc := 33) (off := 549) (tgt := 582) dL_law_33 (by decide) (by decide) (by decide) (by decide) ?_
        exact lw_orders (cl := cl) (sl := sl) (i := i) hI h6 hn hcl1 hsl1 N
      · skip
        refine V_tableIn (pc := 33) (off := 562) (tgt := 595) dL_law_33 (by decide) (by decide) (by decide) (by decide) ?_
        exact lw_fault (cl := cl) (sl := sl) (i := i) hI h6 hn hcl1 hsl1 N
      · skip
        refine V_tableIn (pc := 33) (off := 575) (tgt := 608) dL_law_33 (by decide) (by decide) (by decide) (by decide) ?_
        exact lw_stopped (cl := cl) (sl := sl) (i := i) hI h6 hn hcl1 hsl1 N
      · skip
        refine V_tableIn (pc := 33) (off := 588) (tgt := 621) dL_law_33 (by decide) (by decide) (by decide) (by decide) ?_
        exact lw_force (cl := cl) (sl := sl) (i := i) hI h6 hn hcl1 hsl1 N
      · skip
        refine V_tableIn (pc := 33) (off := 611) (tgt := 644) dL_law_33 (by decide) (by decide) (by decide) (by decide) ?_
        exact lw_pull (cl := cl) (sl := sl) (i := i) hI h6 hn hcl1 hsl1 N
      · skip
        refine V_tableIn (pc := 33) (off := 654) (tgt := 687) dL_law_33 (by decide) (by decide) (by decide) (by decide) ?_
        exact lw_snap (cl := cl) (sl := sl) (i := i) hI h6 hn hcl1 hsl1 N
      · skip
        refine V_tableIn (pc := 33) (off := 687) (tgt := 720) dL_law_33 (by decide) (by decide) (by decide) (by decide) ?_
        exact lw_wed (cl := cl) (sl := sl) (i := i) hI h6 hn hcl1 hsl1 N
      · skip
        refine V_tableIn (pc := 33) (off := 720) (tgt := 753) dL_law_33 (by decide) (by decide) (by decide) (by decide) ?_
        exact lw_pass (cl := cl) (sl := sl) (i := i) hI h6 hn hcl1 hsl1 N
      · skip
        refine V_tableIn (pc := 33) (off := 733) (tgt := 766) dL_law_33 (by decide) (by decide) (by decide) (by decide) ?_
        exact lw_undo (cl := cl) (sl := sl) (i := i) hI h6 hn hcl1 hsl1 N
      · skip
        refine V_tableIn (pc := 33) (off := 746) (tgt := 779) dL_law_33 (by decide) (by decide) (by decide) (by decide) ?_
        exact lw_hear (cl := cl) (sl := sl) (i := i) hI h6 hn hcl1 hsl1 N
      · skip
        refine V_tableIn (pc := 33) (off := 789) (tgt := 822) dL_law_33 (by decide) (by decide) (by decide) (by decide) ?_
        exact lw_forget (cl := cl) (sl := sl) (i := i) hI h6 hn hcl1 hsl1 N
      · skip
        refine V_tableIn (pc := 33) (off := 802) (tgt := 835) dL_law_33 (by decide) (by decide) (by decide) (by decide) ?_
        exact lw_which (cl := cl) (sl := sl) (i := i) hI h6 hn hcl1 hsl1 N
      · skip
        refine V_tableIn (pc := 33) (off := 815) (tgt := 848) dL_law_33 (by decide) (by decide) (by decide) (by decide) ?_
        exact lw_listen (cl := cl) (sl := sl) (i := i) hI h6 hn hcl1 hsl1 N
      · skip
        refine V_tableIn (pc := 33) (off := 838) (tgt := 871) dL_law_33 (by decide) (by decide) (by decide) (by decide) ?_
        exact lw_steady (cl := cl) (sl := sl) (i := i) hI h6 hn hcl1 hsl1 N
      · skip
        refine V_tableIn (pc := 33) (off := 861) (tgt := 894) dL_law_33 (by decide) (by decide) (by decide) (by decide) ?_
        exact lw_about (cl := cl) (sl := sl) (i := i) hI h6 hn hcl1 hsl1 N
      · skip
        refine V_tableIn (pc := 33) (off := 894) (tgt := 927) dL_law_33 (by decide) (by decide) (by decide) (by decide) ?_
        exact lw_keep (cl := cl) (sl := sl) (i := i) hI h6 hn hcl1 hsl1 N
      · skip
        refine V_tableIn (pc := 33) (off := 937) (tgt := 970) dL_law_33 (by decide) (by decide) (by decide) (by decide) ?_
        exact lw_clash (cl := cl) (sl := sl) (i := i) hI h6 hn hcl1 hsl1 N
      · skip
        refine V_tableIn (pc := 33) (off := 980) (tgt := 1013) dL_law_33 (by decide) (by decide) (by decide) (by decide) ?_
        exact lw_best (cl := cl) (sl := sl) (i := i) hI h6 hn hcl1 hsl1 N
      · skip
        refine V_tableIn (pc := 33) (off := 1023) (tgt := 1056) dL_law_33 (by decide) (by decide) (by decide) (by decide) ?_
        exact lw_filed (cl := cl) (sl := sl) (i := i) hI h6 hn hcl1 hsl1 N
      · skip
        refine V_tableIn (pc := 33) (off := 1076) (tgt := 1109) dL_law_33 (by decide) (by decide) (by decide) (by decide) ?_
        exact lw_shares (cl := cl) (sl := sl) (i := i) hI h6 hn hcl1 hsl1 N
      · skip
        refine V_tableIn (pc := 33) (off := 1109) (tgt := 1142) dL_law_33 (by decide) (by decide) (by decide) (by decide) ?_
        exact lw_again (cl := cl) (sl := sl) (i := i) hI h6 hn hcl1 hsl1 N
      · skip
        refine V_tableIn (pc := 33) (off := 1142) (tgt := 1175) dL_law_33 (by decide) (by decide) (by decide) (by decide) ?_
        exact lw_ends (cl := cl) (sl := sl) (i := i) hI h6 hn hcl1 hsl1 N
      · skip
        refine V_tableIn (pc := 33) (off := 1165) (tgt := 1198) dL_law_33 (by decide) (by decide) (by decide) (by decide) ?_
        exact lw_stands (cl := cl) (sl := sl) (i := i) hI h6 hn hcl1 hsl1 N
      · skip
        refine V_tableIn (pc := 33) (off := 1199) (tgt := 1232) dL_law_33 (by decide) (by decide) (by decide) (by decide) ?_
        exact lw_compare (cl := cl) (sl := sl) (i := i) hI h6 hn hcl1 hsl1 N
      · skip
        refine V_tableIn (pc := 33) (off := 1222) (tgt := 1255) dL_law_33 (by decide) (by decide) (by decide) (by decide) ?_
        exact lw_generations (cl := cl) (sl := sl) (i := i) hI h6 hn hcl1 hsl1 N
      · skip
        refine V_tableIn (pc := 33) (off := 1255) (tgt := 1288) dL_law_33 (by decide) (by decide) (by decide) (by decide) ?_
        exact lw_drawn (cl := cl) (sl := sl) (i := i) hI h6 hn hcl1 hsl1 N
      · skip
        refine V_tableIn (pc := 33) (off := 1288) (tgt := 1321) dL_law_33 (by decide) (by decide) (by decide) (by decide) ?_
        exact lw_image (cl := cl) (sl := sl) (i := i) hI h6 hn hcl1 hsl1 N
      · skip
        refine V_tableIn (pc := 33) (off := 1311) (tgt := 1344) dL_law_33 (by decide) (by decide) (by decide) (by decide) ?_
        exact lw_back (cl := cl) (sl := sl) (i := i) hI h6 hn hcl1 hsl1 N
      · skip
        refine V_tableIn (pc := 33) (off := 1334) (tgt := 1367) dL_law_33 (by decide) (by decide) (by decide) (by decide) ?_
        exact lw_count (cl := cl) (sl := sl) (i := i) hI h6 hn hcl1 hsl1 N
      · skip
        refine V_tableIn (pc := 33) (off := 1357) (tgt := 1390) dL_law_33 (by decide) (by decide) (by decide) (by decide) ?_
        exact lw_status (cl := cl) (sl := sl) (i := i) hI h6 hn hcl1 hsl1 N
      · have hx : (nI k).toInt < 0 ∨ 41 < (nI k).toInt := Or.inr (by rw [nI_toInt (by omega)]; omega)
        refine V_tableOut (pc := 33) (tgt := 1403) dL_law_33 (hx) (by decide) ?_
        exact V_wid (N _ _ _ _ hI) (by omega) (by omega)
    · have hs := (sub6 (i := i) (n := n) hi hn).mpr h6
      have key := lw_exit (E := E) (B := B) (b := b) (n := n) (xs := xs) (S := S) (I := I) (L := L) (i := i) (cl := cl) (sl := sl) (by omega) (by omega)
      refine V_iload_n (pc := 18) dL_law_18 rfl ?_
      refine V_aload_n (pc := 19) dL_law_19 rfl ?_
      refine V_slen (pc := 20) dL_law_20 ?_
      refine V_bipush (pc := 21) (v := nI 6) dL_law_21 (by decide) ?_
      refine V_isub (pc := 23) dL_law_23 ?_
      refine V_icmp_gt (pc := 24) (tgt := 1409) dL_law_24 (by decide) (fun c24 => ?_) (fun n24 => absurd n24 (by exact fun z => z hs))
      exact key
end LL
