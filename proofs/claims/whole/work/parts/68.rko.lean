/-! THE REFERENCE runs orders: sums -/
section RA
variable {E : EnT} {S : ST} {I : IT} {L : LT} {o : Nat} {q : Nat → Nat}
theorem bnd_lt {a m : Nat} (ha : a < 2 ^ 31) (h : a < m) : bnd (nI a) m = true := by
  rw [bnd_nI ha]; exact decide_eq_true h
theorem bnd_ge {a m : Nat} (ha : a < 2 ^ 31) (h : ¬ a < m) : bnd (nI a) m = false := by
  rw [bnd_nI ha]; exact decide_eq_false h
theorem lp_reckonAllO (h12 : Lay12 E S o) (hr : RowM I (o + 2) q) (hq : wq q) {last : Nat} {op arg : Nat → Nat} {w : WT} (hwo : wok w) (hord : I o 20 = nI 1) (hlast : last ≤ 400)
    (hop : ∀ k, k < last → I (o + 11) k = nI (op k) ∧ op k < 31 ∧ (op k < 20 → op k < 10) ∧ I (o + 12) k = nI (arg k) ∧ arg k ≤ 1000) (hw : ∀ j, 0 < j → j < 5 → L (o + 19) j = i64 (lfO w j 0)) (hwl : ∀ a, a < 6 → w (12 + a) = if a < q 0 then (q (74 + a) : Int) else -1) (hwn : ∀ a, a < 6 → w (18 + a) = if a < q 0 then (nts q a : Int) else -1) (res : Option Int) {a1 : Int32} :
    ∀ (fuel k : Nat) (st : List Int) (L' : LT), k ≤ 1000 → st.length ≤ 60 → AllS st → StL (L' (o + 20)) st → RkL o L' L → evM op arg (lfO w) last fuel k st = some res →
      V E kX12_reckonAll (rmOf 3 0 0) (QRk E o S I L res) 0 0 S (up2 I o 38 (nI 0)) L' 10 [(0, .ref o), (1, .int a1), (2, .int (nI last)), (3, .int (nI st.length)), (4, .int (nI k))] [] := by
  intro fuel
  induction fuel with
  | zero => intro k st L' _ _ _ _ _ h; rw [evM_0] at h; cases h
  | succ n ih =>
    intro k st L' hk hst hall hsl hL h
    rw [evM_s] at h
    have gb : up2 I o 38 (nI 0) o 38 = nI 0 := up2_self
    have go : up2 I o 38 (nI 0) o 20 = nI 1 := by rw [up2_nej (by omega)]; exact hord
    have gr11 : up2 I o 38 (nI 0) (o + 11) = I (o + 11) := up2_row (by omega)
    have gr12 : up2 I o 38 (nI 0) (o + 12) = I (o + 12) := up2_row (by omega)
    have gr : up2 I o 38 (nI 0) (o + 2) = I (o + 2) := up2_row (by omega)
    have hnb := hq.nb
    by_cases hlk : last ≤ k
    · rw [if_pos hlk] at h
      obtain ⟨v, rfl, hres⟩ : ∃ v, st = [v] ∧ res = some v := by
        cases st with
        | nil => cases h
        | cons v t =>
          cases t with
          | nil => exact ⟨v, rfl, (Option.some.inj h).symm⟩
          | cons x t => cases h
      subst hres
      refine V_iload (pc := 10) dX12_reckonAll_10 rfl ?_
      refine V_iload_n (pc := 12) dX12_reckonAll_12 rfl ?_
      refine V_icmp_geN (pc := 13) (tgt := 347) dX12_reckonAll_13 (by decide) (by omega) (by omega) (fun c13 => ?_) (fun n13 => absurd n13 (by omega))
      exact rk_end h12 hL (by simp) (fun z hz => ⟨by simp, by cases hz; exact hsl.1⟩)
    · rw [if_neg hlk] at h
      obtain ⟨ho1, ho2, ho3, ho4, ho5⟩ := hop k (by omega)
      by_cases h20 : op k < 20
      · rw [if_pos h20] at h
        by_cases hl60 : st.length < 60
        · rw [if_pos hl60] at h
          have h10 := ho3 h20
          by_cases hz : op k = 0
          · rw [show lfO w (op k) (arg k) = (arg k : Int) from by unfold lfO; rw [if_pos hz]] at h
            refine V_iload (pc := 10) dX12_reckonAll_10 rfl ?_
            refine V_iload_n (pc := 12) dX12_reckonAll_12 rfl ?_
            refine V_icmp_geN (pc := 13) (tgt := 347) dX12_reckonAll_13 (by decide) (by omega) (by omega) (fun c13 => absurd c13 (by omega)) (fun n13 => ?_)
            refine V_aload_n (pc := 16) dX12_reckonAll_16 rfl ?_
            refine V_getIE (pc := 17) 12 38 dX12_reckonAll_17 flX12_424 (by decide) h12.o (gb) ?_
            refine V_if_neN (pc := 20) (tgt := 347) dX12_reckonAll_20 (by decide) (by omega) (fun c20 => absurd c20 (by omega)) (fun n20 => ?_)
            refine V_aload_n (pc := 23) dX12_reckonAll_23 rfl ?_
            refine V_getIE (pc := 24) 12 20 dX12_reckonAll_24 flX12_350 (by decide) h12.o (go) ?_
            refine V_if_eqN (pc := 27) (tgt := 40) dX12_reckonAll_27 (by decide) (by omega) (fun c27 => absurd c27 (by omega)) (fun n27 => ?_)
            refine V_aload_n (pc := 30) dX12_reckonAll_30 rfl ?_
            refine V_getR (pc := 31) 12 24 dX12_reckonAll_31 flX12_45 (by decide) h12.o h12.R24 ?_
            refine V_iload (pc := 34) dX12_reckonAll_34 rfl ?_
            refine V_ialoadE (pc := 36) dX12_reckonAll_36 h12.A24 (by first | decide | omega) (by omega) ((congrFun gr11 _).trans ho1) ?_
            refine V_goto (pc := 37) (tgt := 57) dX12_reckonAll_37 (by decide) ?_
            refine V_istore (pc := 57) (ls' := [(0, _), (1, _), (2, _), (3, _), (4, _), (5, _)]) dX12_reckonAll_57 (by decide) rfl ?_
            refine V_aload_n (pc := 59) dX12_reckonAll_59 rfl ?_
            refine V_getIE (pc := 60) 12 20 dX12_reckonAll_60 flX12_350 (by decide) h12.o (go) ?_
            refine V_if_eqN (pc := 63) (tgt := 76) dX12_reckonAll_63 (by decide) (by omega) (fun c63 => absurd c63 (by omega)) (fun n63 => ?_)
            refine V_aload_n (pc := 66) dX12_reckonAll_66 rfl ?_
            refine V_getR (pc := 67) 12 25 dX12_reckonAll_67 flX12_48 (by decide) h12.o h12.R25 ?_
            refine V_iload (pc := 70) dX12_reckonAll_70 rfl ?_
            refine V_ialoadE (pc := 72) dX12_reckonAll_72 h12.A25 (by first | decide | omega) (by omega) ((congrFun gr12 _).trans ho4) ?_
            refine V_goto (pc := 73) (tgt := 95) dX12_reckonAll_73 (by decide) ?_
            refine V_istore (pc := 95) (ls' := [(0, _), (1, _), (2, _), (3, _), (4, _), (5, _), (6, _)]) dX12_reckonAll_95 (by decide) rfl ?_
            refine V_iinc1 (pc := 97) (ls' := [(0, _), (1, _), (2, _), (3, _), (4, _), (5, _), (6, _)]) dX12_reckonAll_97 rfl (by decide) rfl ?_
            refine V_iload (pc := 100) dX12_reckonAll_100 rfl ?_
            refine V_bipush (pc := 102) (v := nI 20) dX12_reckonAll_102 (by decide) ?_
            refine V_icmp_geN (pc := 104) (tgt := 205) dX12_reckonAll_104 (by decide) (by omega) (by omega) (fun c104 => absurd c104 (by omega)) (fun n104 => ?_)
            refine V_aload_n (pc := 107) dX12_reckonAll_107 rfl ?_
            refine V_getR (pc := 108) 12 37 dX12_reckonAll_108 flX12_107 (by decide) h12.o h12.R37 ?_
            refine V_iload_n (pc := 111) dX12_reckonAll_111 rfl ?_
            refine V_iload (pc := 112) dX12_reckonAll_112 rfl ?_
            refine V_if_neN (pc := 114) (tgt := 123) dX12_reckonAll_114 (by decide) (by omega) (fun c114 => absurd c114 (by omega)) (fun n114 => ?_)
            refine V_iload (pc := 117) dX12_reckonAll_117 rfl ?_
            refine V_i2lN (pc := 119) dX12_reckonAll_119 (by omega) ?_
            refine V_goto (pc := 120) (tgt := 198) dX12_reckonAll_120 (by decide) ?_
            refine V_lastore (pc := 198) dX12_reckonAll_198 h12.A37 (by first | decide | omega) (by omega) ?_
            refine V_iinc1 (pc := 199) (ls' := [(0, _), (1, _), (2, _), (3, _), (4, _), (5, _), (6, _)]) dX12_reckonAll_199 rfl (by decide) rfl ?_
            refine V_goto (pc := 202) (tgt := 344) dX12_reckonAll_202 (by decide) ?_
            refine V_goto (pc := 344) (tgt := 10) dX12_reckonAll_344 (by decide) ?_
            rw [i64_lN]
            refine V_loc [0, 1, 2, 3, 4] rfl ?_
            exact ih (k + 1) (_ :: st) _ (by omega) (by simp; omega) (fun a ha => (List.mem_cons.mp ha).elim (fun e => by rw [e]; unfold sml; omega) (hall a)) ⟨up2_self, StL_up hsl (Nat.le_refl _)⟩ hL.up h
          · by_cases h5 : op k < 5
            · have hw1 := hw (op k) (by omega) h5
              have el : lfO w (op k) (arg k) = lfO w (op k) 0 := by
                unfold lfO
                rw [if_neg hz, if_neg hz]
                by_cases h1 : op k = 1
                · rw [if_pos h1, if_pos h1]
                · rw [if_neg h1, if_neg h1, if_pos (by omega), if_pos (by omega)]
              have sl : sml (lfO w (op k) 0) := by
                unfold lfO
                rw [if_neg hz]
                split
                · exact hwo _
                · rw [if_pos (by omega)]; exact hwo _
              rw [el] at h
              refine V_iload (pc := 10) dX12_reckonAll_10 rfl ?_
              refine V_iload_n (pc := 12) dX12_reckonAll_12 rfl ?_
              refine V_icmp_geN (pc := 13) (tgt := 347) dX12_reckonAll_13 (by decide) (by omega) (by omega) (fun c13 => absurd c13 (by omega)) (fun n13 => ?_)
              refine V_aload_n (pc := 16) dX12_reckonAll_16 rfl ?_
              refine V_getIE (pc := 17) 12 38 dX12_reckonAll_17 flX12_424 (by decide) h12.o (gb) ?_
              refine V_if_neN (pc := 20) (tgt := 347) dX12_reckonAll_20 (by decide) (by omega) (fun c20 => absurd c20 (by omega)) (fun n20 => ?_)
              refine V_aload_n (pc := 23) dX12_reckonAll_23 rfl ?_
              refine V_getIE (pc := 24) 12 20 dX12_reckonAll_24 flX12_350 (by decide) h12.o (go) ?_
              refine V_if_eqN (pc := 27) (tgt := 40) dX12_reckonAll_27 (by decide) (by omega) (fun c27 => absurd c27 (by omega)) (fun n27 => ?_)
              refine V_aload_n (pc := 30) dX12_reckonAll_30 rfl ?_
              refine V_getR (pc := 31) 12 24 dX12_reckonAll_31 flX12_45 (by decide) h12.o h12.R24 ?_
              refine V_iload (pc := 34) dX12_reckonAll_34 rfl ?_
              refine V_ialoadE (pc := 36) dX12_reckonAll_36 h12.A24 (by first | decide | omega) (by omega) ((congrFun gr11 _).trans ho1) ?_
              refine V_goto (pc := 37) (tgt := 57) dX12_reckonAll_37 (by decide) ?_
              refine V_istore (pc := 57) (ls' := [(0, _), (1, _), (2, _), (3, _), (4, _), (5, _)]) dX12_reckonAll_57 (by decide) rfl ?_
              refine V_aload_n (pc := 59) dX12_reckonAll_59 rfl ?_
              refine V_getIE (pc := 60) 12 20 dX12_reckonAll_60 flX12_350 (by decide) h12.o (go) ?_
              refine V_if_eqN (pc := 63) (tgt := 76) dX12_reckonAll_63 (by decide) (by omega) (fun c63 => absurd c63 (by omega)) (fun n63 => ?_)
              refine V_aload_n (pc := 66) dX12_reckonAll_66 rfl ?_
              refine V_getR (pc := 67) 12 25 dX12_reckonAll_67 flX12_48 (by decide) h12.o h12.R25 ?_
              refine V_iload (pc := 70) dX12_reckonAll_70 rfl ?_
              refine V_ialoadE (pc := 72) dX12_reckonAll_72 h12.A25 (by first | decide | omega) (by omega) ((congrFun gr12 _).trans ho4) ?_
              refine V_goto (pc := 73) (tgt := 95) dX12_reckonAll_73 (by decide) ?_
              refine V_istore (pc := 95) (ls' := [(0, _), (1, _), (2, _), (3, _), (4, _), (5, _), (6, _)]) dX12_reckonAll_95 (by decide) rfl ?_
              refine V_iinc1 (pc := 97) (ls' := [(0, _), (1, _), (2, _), (3, _), (4, _), (5, _), (6, _)]) dX12_reckonAll_97 rfl (by decide) rfl ?_
              refine V_iload (pc := 100) dX12_reckonAll_100 rfl ?_
              refine V_bipush (pc := 102) (v := nI 20) dX12_reckonAll_102 (by decide) ?_
              refine V_icmp_geN (pc := 104) (tgt := 205) dX12_reckonAll_104 (by decide) (by omega) (by omega) (fun c104 => absurd c104 (by omega)) (fun n104 => ?_)
              refine V_aload_n (pc := 107) dX12_reckonAll_107 rfl ?_
              refine V_getR (pc := 108) 12 37 dX12_reckonAll_108 flX12_107 (by decide) h12.o h12.R37 ?_
              refine V_iload_n (pc := 111) dX12_reckonAll_111 rfl ?_
              refine V_iload (pc := 112) dX12_reckonAll_112 rfl ?_
              refine V_if_neN (pc := 114) (tgt := 123) dX12_reckonAll_114 (by decide) (by omega) (fun c114 => ?_) (fun n114 => absurd n114 (by omega))
              refine V_aload_n (pc := 123) dX12_reckonAll_123 rfl ?_
              refine V_getIE (pc := 124) 12 20 dX12_reckonAll_124 flX12_350 (by decide) h12.o (go) ?_
              refine V_if_neN (pc := 127) (tgt := 140) dX12_reckonAll_127 (by decide) (by omega) (fun c127 => ?_) (fun n127 => absurd n127 (by omega))
              refine V_iload (pc := 140) dX12_reckonAll_140 rfl ?_
              refine V_iconst (pc := 142) (v := nI 5) dX12_reckonAll_142 (by decide) ?_
              refine V_icmp_geN (pc := 143) (tgt := 156) dX12_reckonAll_143 (by decide) (by omega) (by omega) (fun c143 => absurd c143 (by omega)) (fun n143 => ?_)
              refine V_aload_n (pc := 146) dX12_reckonAll_146 rfl ?_
              refine V_getR (pc := 147) 12 36 dX12_reckonAll_147 flX12_104 (by decide) h12.o h12.R36 ?_
              refine V_iload (pc := 150) dX12_reckonAll_150 rfl ?_
              refine V_laloadE (pc := 152) dX12_reckonAll_152 h12.A36 (by first | decide | omega) (by omega) ((congrFun (hL.1 (o + 19) (by omega) (by omega)) _).trans hw1) ?_
              refine V_goto (pc := 153) (tgt := 198) dX12_reckonAll_153 (by decide) ?_
              refine V_lastore (pc := 198) dX12_reckonAll_198 h12.A37 (by first | decide | omega) (by omega) ?_
              refine V_iinc1 (pc := 199) (ls' := [(0, _), (1, _), (2, _), (3, _), (4, _), (5, _), (6, _)]) dX12_reckonAll_199 rfl (by decide) rfl ?_
              refine V_goto (pc := 202) (tgt := 344) dX12_reckonAll_202 (by decide) ?_
              refine V_goto (pc := 344) (tgt := 10) dX12_reckonAll_344 (by decide) ?_
              refine V_loc [0, 1, 2, 3, 4] rfl ?_
              exact ih (k + 1) (_ :: st) _ (by omega) (by simp; omega) (fun a ha => (List.mem_cons.mp ha).elim (fun e => by rw [e]; exact sl) (hall a)) ⟨up2_self, StL_up hsl (Nat.le_refl _)⟩ hL.up h
            · have hrow : RowM (up2 I o 38 (nI 0)) (o + 2) q := hr.cg gr
              by_cases hb : arg k < q 0
              · by_cases ho5 : op k = 5
                · have el : lfO w (op k) (arg k) = (q (74 + arg k) : Int) := by
                    unfold lfO
                    rw [if_neg hz, if_neg (by omega), if_neg (by omega), if_pos ho5, if_pos (by omega), hwl _ (by omega), if_pos hb]
                  have hle := hq.le (arg k) (by omega)
                  rw [el] at h
                  refine V_iload (pc := 10) dX12_reckonAll_10 rfl ?_
                  refine V_iload_n (pc := 12) dX12_reckonAll_12 rfl ?_
                  refine V_icmp_geN (pc := 13) (tgt := 347) dX12_reckonAll_13 (by decide) (by omega) (by omega) (fun c13 => absurd c13 (by omega)) (fun n13 => ?_)
                  refine V_aload_n (pc := 16) dX12_reckonAll_16 rfl ?_
                  refine V_getIE (pc := 17) 12 38 dX12_reckonAll_17 flX12_424 (by decide) h12.o (gb) ?_
                  refine V_if_neN (pc := 20) (tgt := 347) dX12_reckonAll_20 (by decide) (by omega) (fun c20 => absurd c20 (by omega)) (fun n20 => ?_)
                  refine V_aload_n (pc := 23) dX12_reckonAll_23 rfl ?_
                  refine V_getIE (pc := 24) 12 20 dX12_reckonAll_24 flX12_350 (by decide) h12.o (go) ?_
                  refine V_if_eqN (pc := 27) (tgt := 40) dX12_reckonAll_27 (by decide) (by omega) (fun c27 => absurd c27 (by omega)) (fun n27 => ?_)
                  refine V_aload_n (pc := 30) dX12_reckonAll_30 rfl ?_
                  refine V_getR (pc := 31) 12 24 dX12_reckonAll_31 flX12_45 (by decide) h12.o h12.R24 ?_
                  refine V_iload (pc := 34) dX12_reckonAll_34 rfl ?_
                  refine V_ialoadE (pc := 36) dX12_reckonAll_36 h12.A24 (by first | decide | omega) (by omega) ((congrFun gr11 _).trans ho1) ?_
                  refine V_goto (pc := 37) (tgt := 57) dX12_reckonAll_37 (by decide) ?_
                  refine V_istore (pc := 57) (ls' := [(0, _), (1, _), (2, _), (3, _), (4, _), (5, _)]) dX12_reckonAll_57 (by decide) rfl ?_
                  refine V_aload_n (pc := 59) dX12_reckonAll_59 rfl ?_
                  refine V_getIE (pc := 60) 12 20 dX12_reckonAll_60 flX12_350 (by decide) h12.o (go) ?_
                  refine V_if_eqN (pc := 63) (tgt := 76) dX12_reckonAll_63 (by decide) (by omega) (fun c63 => absurd c63 (by omega)) (fun n63 => ?_)
                  refine V_aload_n (pc := 66) dX12_reckonAll_66 rfl ?_
                  refine V_getR (pc := 67) 12 25 dX12_reckonAll_67 flX12_48 (by decide) h12.o h12.R25 ?_
                  refine V_iload (pc := 70) dX12_reckonAll_70 rfl ?_
                  refine V_ialoadE (pc := 72) dX12_reckonAll_72 h12.A25 (by first | decide | omega) (by omega) ((congrFun gr12 _).trans ho4) ?_
                  refine V_goto (pc := 73) (tgt := 95) dX12_reckonAll_73 (by decide) ?_
                  refine V_istore (pc := 95) (ls' := [(0, _), (1, _), (2, _), (3, _), (4, _), (5, _), (6, _)]) dX12_reckonAll_95 (by decide) rfl ?_
                  refine V_iinc1 (pc := 97) (ls' := [(0, _), (1, _), (2, _), (3, _), (4, _), (5, _), (6, _)]) dX12_reckonAll_97 rfl (by decide) rfl ?_
                  refine V_iload (pc := 100) dX12_reckonAll_100 rfl ?_
                  refine V_bipush (pc := 102) (v := nI 20) dX12_reckonAll_102 (by decide) ?_
                  refine V_icmp_geN (pc := 104) (tgt := 205) dX12_reckonAll_104 (by decide) (by omega) (by omega) (fun c104 => absurd c104 (by omega)) (fun n104 => ?_)
                  refine V_aload_n (pc := 107) dX12_reckonAll_107 rfl ?_
                  refine V_getR (pc := 108) 12 37 dX12_reckonAll_108 flX12_107 (by decide) h12.o h12.R37 ?_
                  refine V_iload_n (pc := 111) dX12_reckonAll_111 rfl ?_
                  refine V_iload (pc := 112) dX12_reckonAll_112 rfl ?_
                  refine V_if_neN (pc := 114) (tgt := 123) dX12_reckonAll_114 (by decide) (by omega) (fun c114 => ?_) (fun n114 => absurd n114 (by omega))
                  refine V_aload_n (pc := 123) dX12_reckonAll_123 rfl ?_
                  refine V_getIE (pc := 124) 12 20 dX12_reckonAll_124 flX12_350 (by decide) h12.o (go) ?_
                  refine V_if_neN (pc := 127) (tgt := 140) dX12_reckonAll_127 (by decide) (by omega) (fun c127 => ?_) (fun n127 => absurd n127 (by omega))
                  refine V_iload (pc := 140) dX12_reckonAll_140 rfl ?_
                  refine V_iconst (pc := 142) (v := nI 5) dX12_reckonAll_142 (by decide) ?_
                  refine V_icmp_geN (pc := 143) (tgt := 156) dX12_reckonAll_143 (by decide) (by omega) (by omega) (fun c143 => ?_) (fun n143 => absurd n143 (by omega))
                  refine V_aload_n (pc := 156) dX12_reckonAll_156 rfl ?_
                  refine V_iload (pc := 157) dX12_reckonAll_157 rfl ?_
                  refine V_callVd (pc := 159) (ci := 12) (c_X12_isBox h12 hrow hq) dX12_reckonAll_159 mlX12_213 mkX12_isBox rfl rfl h12.o ⟨by decide, rfl⟩ ⟨Nat.le_of_ble_eq_true rfl, Nat.le_of_ble_eq_true rfl⟩ (Nat.le_of_ble_eq_true rfl) ⟨Nat.le_of_ble_eq_true rfl, Nat.le_of_ble_eq_true rfl⟩ ?_
                  refine V_if_neB (pc := 162) (tgt := 171) dX12_reckonAll_162 (by decide) (fun c162 => ?_) (fun n162 => absurd n162 (by rw [bnd_lt (by omega) hb]; decide))
                  refine V_iload (pc := 171) dX12_reckonAll_171 rfl ?_
                  refine V_iconst (pc := 173) (v := nI 5) dX12_reckonAll_173 (by decide) ?_
                  refine V_icmp_neN (pc := 174) (tgt := 191) dX12_reckonAll_174 (by decide) (by omega) (by omega) (fun c174 => absurd c174 (by omega)) (fun n174 => ?_)
                  refine V_aload_n (pc := 177) dX12_reckonAll_177 rfl ?_
                  refine V_getR (pc := 178) 12 3 dX12_reckonAll_178 flX12_13 (by decide) h12.o h12.R3 ?_
                  refine V_bipush (pc := 181) (v := nI 74) dX12_reckonAll_181 (by decide) ?_
                  refine V_iload (pc := 183) dX12_reckonAll_183 rfl ?_
                  refine V_iaddN (pc := 185) dX12_reckonAll_185 ?_
                  refine V_ialoadE (pc := 186) dX12_reckonAll_186 h12.A3 (by first | decide | omega) (by omega) (hrow.n (by omega)) ?_
                  refine V_i2lN (pc := 187) dX12_reckonAll_187 (by omega) ?_
                  refine V_goto (pc := 188) (tgt := 198) dX12_reckonAll_188 (by decide) ?_
                  refine V_lastore (pc := 198) dX12_reckonAll_198 h12.A37 (by first | decide | omega) (by omega) ?_
                  refine V_iinc1 (pc := 199) (ls' := [(0, _), (1, _), (2, _), (3, _), (4, _), (5, _), (6, _)]) dX12_reckonAll_199 rfl (by decide) rfl ?_
                  refine V_goto (pc := 202) (tgt := 344) dX12_reckonAll_202 (by decide) ?_
                  refine V_goto (pc := 344) (tgt := 10) dX12_reckonAll_344 (by decide) ?_
                  rw [i64_lN]
                  refine V_loc [0, 1, 2, 3, 4] rfl ?_
                  exact ih (k + 1) (_ :: st) _ (by omega) (by simp; omega) (fun a ha => (List.mem_cons.mp ha).elim (fun e => by rw [e]; unfold sml; omega) (hall a)) ⟨up2_self, StL_up hsl (Nat.le_refl _)⟩ hL.up h
                · have el : lfO w (op k) (arg k) = (nts q (arg k) : Int) := by
                    unfold lfO
                    rw [if_neg hz, if_neg (by omega), if_neg (by omega), if_neg ho5, if_pos (by omega), hwn _ (by omega), if_pos hb]
                  have hle := nts_le q (arg k)
                  rw [el] at h
                  refine V_iload (pc := 10) dX12_reckonAll_10 rfl ?_
                  refine V_iload_n (pc := 12) dX12_reckonAll_12 rfl ?_
                  refine V_icmp_geN (pc := 13) (tgt := 347) dX12_reckonAll_13 (by decide) (by omega) (by omega) (fun c13 => absurd c13 (by omega)) (fun n13 => ?_)
                  refine V_aload_n (pc := 16) dX12_reckonAll_16 rfl ?_
                  refine V_getIE (pc := 17) 12 38 dX12_reckonAll_17 flX12_424 (by decide) h12.o (gb) ?_
                  refine V_if_neN (pc := 20) (tgt := 347) dX12_reckonAll_20 (by decide) (by omega) (fun c20 => absurd c20 (by omega)) (fun n20 => ?_)
                  refine V_aload_n (pc := 23) dX12_reckonAll_23 rfl ?_
                  refine V_getIE (pc := 24) 12 20 dX12_reckonAll_24 flX12_350 (by decide) h12.o (go) ?_
                  refine V_if_eqN (pc := 27) (tgt := 40) dX12_reckonAll_27 (by decide) (by omega) (fun c27 => absurd c27 (by omega)) (fun n27 => ?_)
                  refine V_aload_n (pc := 30) dX12_reckonAll_30 rfl ?_
                  refine V_getR (pc := 31) 12 24 dX12_reckonAll_31 flX12_45 (by decide) h12.o h12.R24 ?_
                  refine V_iload (pc := 34) dX12_reckonAll_34 rfl ?_
                  refine V_ialoadE (pc := 36) dX12_reckonAll_36 h12.A24 (by first | decide | omega) (by omega) ((congrFun gr11 _).trans ho1) ?_
                  refine V_goto (pc := 37) (tgt := 57) dX12_reckonAll_37 (by decide) ?_
                  refine V_istore (pc := 57) (ls' := [(0, _), (1, _), (2, _), (3, _), (4, _), (5, _)]) dX12_reckonAll_57 (by decide) rfl ?_
                  refine V_aload_n (pc := 59) dX12_reckonAll_59 rfl ?_
                  refine V_getIE (pc := 60) 12 20 dX12_reckonAll_60 flX12_350 (by decide) h12.o (go) ?_
                  refine V_if_eqN (pc := 63) (tgt := 76) dX12_reckonAll_63 (by decide) (by omega) (fun c63 => absurd c63 (by omega)) (fun n63 => ?_)
                  refine V_aload_n (pc := 66) dX12_reckonAll_66 rfl ?_
                  refine V_getR (pc := 67) 12 25 dX12_reckonAll_67 flX12_48 (by decide) h12.o h12.R25 ?_
                  refine V_iload (pc := 70) dX12_reckonAll_70 rfl ?_
                  refine V_ialoadE (pc := 72) dX12_reckonAll_72 h12.A25 (by first | decide | omega) (by omega) ((congrFun gr12 _).trans ho4) ?_
                  refine V_goto (pc := 73) (tgt := 95) dX12_reckonAll_73 (by decide) ?_
                  refine V_istore (pc := 95) (ls' := [(0, _), (1, _), (2, _), (3, _), (4, _), (5, _), (6, _)]) dX12_reckonAll_95 (by decide) rfl ?_
                  refine V_iinc1 (pc := 97) (ls' := [(0, _), (1, _), (2, _), (3, _), (4, _), (5, _), (6, _)]) dX12_reckonAll_97 rfl (by decide) rfl ?_
                  refine V_iload (pc := 100) dX12_reckonAll_100 rfl ?_
                  refine V_bipush (pc := 102) (v := nI 20) dX12_reckonAll_102 (by decide) ?_
                  refine V_icmp_geN (pc := 104) (tgt := 205) dX12_reckonAll_104 (by decide) (by omega) (by omega) (fun c104 => absurd c104 (by omega)) (fun n104 => ?_)
                  refine V_aload_n (pc := 107) dX12_reckonAll_107 rfl ?_
                  refine V_getR (pc := 108) 12 37 dX12_reckonAll_108 flX12_107 (by decide) h12.o h12.R37 ?_
                  refine V_iload_n (pc := 111) dX12_reckonAll_111 rfl ?_
                  refine V_iload (pc := 112) dX12_reckonAll_112 rfl ?_
                  refine V_if_neN (pc := 114) (tgt := 123) dX12_reckonAll_114 (by decide) (by omega) (fun c114 => ?_) (fun n114 => absurd n114 (by omega))
                  refine V_aload_n (pc := 123) dX12_reckonAll_123 rfl ?_
                  refine V_getIE (pc := 124) 12 20 dX12_reckonAll_124 flX12_350 (by decide) h12.o (go) ?_
                  refine V_if_neN (pc := 127) (tgt := 140) dX12_reckonAll_127 (by decide) (by omega) (fun c127 => ?_) (fun n127 => absurd n127 (by omega))
                  refine V_iload (pc := 140) dX12_reckonAll_140 rfl ?_
                  refine V_iconst (pc := 142) (v := nI 5) dX12_reckonAll_142 (by decide) ?_
                  refine V_icmp_geN (pc := 143) (tgt := 156) dX12_reckonAll_143 (by decide) (by omega) (by omega) (fun c143 => ?_) (fun n143 => absurd n143 (by omega))
                  refine V_aload_n (pc := 156) dX12_reckonAll_156 rfl ?_
                  refine V_iload (pc := 157) dX12_reckonAll_157 rfl ?_
                  refine V_callVd (pc := 159) (ci := 12) (c_X12_isBox h12 hrow hq) dX12_reckonAll_159 mlX12_213 mkX12_isBox rfl rfl h12.o ⟨by decide, rfl⟩ ⟨Nat.le_of_ble_eq_true rfl, Nat.le_of_ble_eq_true rfl⟩ (Nat.le_of_ble_eq_true rfl) ⟨Nat.le_of_ble_eq_true rfl, Nat.le_of_ble_eq_true rfl⟩ ?_
                  refine V_if_neB (pc := 162) (tgt := 171) dX12_reckonAll_162 (by decide) (fun c162 => ?_) (fun n162 => absurd n162 (by rw [bnd_lt (by omega) hb]; decide))
                  refine V_iload (pc := 171) dX12_reckonAll_171 rfl ?_
                  refine V_iconst (pc := 173) (v := nI 5) dX12_reckonAll_173 (by decide) ?_
                  refine V_icmp_neN (pc := 174) (tgt := 191) dX12_reckonAll_174 (by decide) (by omega) (by omega) (fun c174 => ?_) (fun n174 => absurd n174 (by omega))
                  refine V_aload_n (pc := 191) dX12_reckonAll_191 rfl ?_
                  refine V_iload (pc := 192) dX12_reckonAll_192 rfl ?_
                  refine V_callVd (pc := 194) (ci := 12) (c_X12_notesOf h12 hrow hq (by omega)) dX12_reckonAll_194 mlX12_219 mkX12_notesOf rfl rfl h12.o ⟨by decide, rfl⟩ ⟨Nat.le_of_ble_eq_true rfl, Nat.le_of_ble_eq_true rfl⟩ (Nat.le_of_ble_eq_true rfl) ⟨Nat.le_of_ble_eq_true rfl, Nat.le_of_ble_eq_true rfl⟩ ?_
                  refine V_i2lN (pc := 197) dX12_reckonAll_197 (by omega) ?_
                  refine V_lastore (pc := 198) dX12_reckonAll_198 h12.A37 (by first | decide | omega) (by omega) ?_
                  refine V_iinc1 (pc := 199) (ls' := [(0, _), (1, _), (2, _), (3, _), (4, _), (5, _), (6, _)]) dX12_reckonAll_199 rfl (by decide) rfl ?_
                  refine V_goto (pc := 202) (tgt := 344) dX12_reckonAll_202 (by decide) ?_
                  refine V_goto (pc := 344) (tgt := 10) dX12_reckonAll_344 (by decide) ?_
                  rw [i64_lN]
                  refine V_loc [0, 1, 2, 3, 4] rfl ?_
                  exact ih (k + 1) (_ :: st) _ (by omega) (by simp; omega) (fun a ha => (List.mem_cons.mp ha).elim (fun e => by rw [e]; unfold sml; omega) (hall a)) ⟨up2_self, StL_up hsl (Nat.le_refl _)⟩ hL.up h
              · have el : lfO w (op k) (arg k) = -1 := by
                  unfold lfO
                  rw [if_neg hz, if_neg (by omega), if_neg (by omega)]
                  by_cases h6 : arg k < 6
                  · rw [if_pos h6, if_pos h6, hwl _ h6, hwn _ h6, if_neg hb, if_neg hb]; split <;> rfl
                  · rw [if_neg h6, if_neg h6]; split <;> rfl
                rw [el] at h
                refine V_iload (pc := 10) dX12_reckonAll_10 rfl ?_
                refine V_iload_n (pc := 12) dX12_reckonAll_12 rfl ?_
                refine V_icmp_geN (pc := 13) (tgt := 347) dX12_reckonAll_13 (by decide) (by omega) (by omega) (fun c13 => absurd c13 (by omega)) (fun n13 => ?_)
                refine V_aload_n (pc := 16) dX12_reckonAll_16 rfl ?_
                refine V_getIE (pc := 17) 12 38 dX12_reckonAll_17 flX12_424 (by decide) h12.o (gb) ?_
                refine V_if_neN (pc := 20) (tgt := 347) dX12_reckonAll_20 (by decide) (by omega) (fun c20 => absurd c20 (by omega)) (fun n20 => ?_)
                refine V_aload_n (pc := 23) dX12_reckonAll_23 rfl ?_
                refine V_getIE (pc := 24) 12 20 dX12_reckonAll_24 flX12_350 (by decide) h12.o (go) ?_
                refine V_if_eqN (pc := 27) (tgt := 40) dX12_reckonAll_27 (by decide) (by omega) (fun c27 => absurd c27 (by omega)) (fun n27 => ?_)
                refine V_aload_n (pc := 30) dX12_reckonAll_30 rfl ?_
                refine V_getR (pc := 31) 12 24 dX12_reckonAll_31 flX12_45 (by decide) h12.o h12.R24 ?_
                refine V_iload (pc := 34) dX12_reckonAll_34 rfl ?_
                refine V_ialoadE (pc := 36) dX12_reckonAll_36 h12.A24 (by first | decide | omega) (by omega) ((congrFun gr11 _).trans ho1) ?_
                refine V_goto (pc := 37) (tgt := 57) dX12_reckonAll_37 (by decide) ?_
                refine V_istore (pc := 57) (ls' := [(0, _), (1, _), (2, _), (3, _), (4, _), (5, _)]) dX12_reckonAll_57 (by decide) rfl ?_
                refine V_aload_n (pc := 59) dX12_reckonAll_59 rfl ?_
                refine V_getIE (pc := 60) 12 20 dX12_reckonAll_60 flX12_350 (by decide) h12.o (go) ?_
                refine V_if_eqN (pc := 63) (tgt := 76) dX12_reckonAll_63 (by decide) (by omega) (fun c63 => absurd c63 (by omega)) (fun n63 => ?_)
                refine V_aload_n (pc := 66) dX12_reckonAll_66 rfl ?_
                refine V_getR (pc := 67) 12 25 dX12_reckonAll_67 flX12_48 (by decide) h12.o h12.R25 ?_
                refine V_iload (pc := 70) dX12_reckonAll_70 rfl ?_
                refine V_ialoadE (pc := 72) dX12_reckonAll_72 h12.A25 (by first | decide | omega) (by omega) ((congrFun gr12 _).trans ho4) ?_
                refine V_goto (pc := 73) (tgt := 95) dX12_reckonAll_73 (by decide) ?_
                refine V_istore (pc := 95) (ls' := [(0, _), (1, _), (2, _), (3, _), (4, _), (5, _), (6, _)]) dX12_reckonAll_95 (by decide) rfl ?_
                refine V_iinc1 (pc := 97) (ls' := [(0, _), (1, _), (2, _), (3, _), (4, _), (5, _), (6, _)]) dX12_reckonAll_97 rfl (by decide) rfl ?_
                refine V_iload (pc := 100) dX12_reckonAll_100 rfl ?_
                refine V_bipush (pc := 102) (v := nI 20) dX12_reckonAll_102 (by decide) ?_
                refine V_icmp_geN (pc := 104) (tgt := 205) dX12_reckonAll_104 (by decide) (by omega) (by omega) (fun c104 => absurd c104 (by omega)) (fun n104 => ?_)
                refine V_aload_n (pc := 107) dX12_reckonAll_107 rfl ?_
                refine V_getR (pc := 108) 12 37 dX12_reckonAll_108 flX12_107 (by decide) h12.o h12.R37 ?_
                refine V_iload_n (pc := 111) dX12_reckonAll_111 rfl ?_
                refine V_iload (pc := 112) dX12_reckonAll_112 rfl ?_
                refine V_if_neN (pc := 114) (tgt := 123) dX12_reckonAll_114 (by decide) (by omega) (fun c114 => ?_) (fun n114 => absurd n114 (by omega))
                refine V_aload_n (pc := 123) dX12_reckonAll_123 rfl ?_
                refine V_getIE (pc := 124) 12 20 dX12_reckonAll_124 flX12_350 (by decide) h12.o (go) ?_
                refine V_if_neN (pc := 127) (tgt := 140) dX12_reckonAll_127 (by decide) (by omega) (fun c127 => ?_) (fun n127 => absurd n127 (by omega))
                refine V_iload (pc := 140) dX12_reckonAll_140 rfl ?_
                refine V_iconst (pc := 142) (v := nI 5) dX12_reckonAll_142 (by decide) ?_
                refine V_icmp_geN (pc := 143) (tgt := 156) dX12_reckonAll_143 (by decide) (by omega) (by omega) (fun c143 => ?_) (fun n143 => absurd n143 (by omega))
                refine V_aload_n (pc := 156) dX12_reckonAll_156 rfl ?_
                refine V_iload (pc := 157) dX12_reckonAll_157 rfl ?_
                refine V_callVd (pc := 159) (ci := 12) (c_X12_isBox h12 hrow hq) dX12_reckonAll_159 mlX12_213 mkX12_isBox rfl rfl h12.o ⟨by decide, rfl⟩ ⟨Nat.le_of_ble_eq_true rfl, Nat.le_of_ble_eq_true rfl⟩ (Nat.le_of_ble_eq_true rfl) ⟨Nat.le_of_ble_eq_true rfl, Nat.le_of_ble_eq_true rfl⟩ ?_
                refine V_if_neB (pc := 162) (tgt := 171) dX12_reckonAll_162 (by decide) (fun c162 => absurd c162 (by rw [bnd_ge (by omega) hb]; decide)) (fun n162 => ?_)
                refine V_ldc2 (pc := 165) dX12_reckonAll_165 coX12_302 ?_
                refine V_goto (pc := 168) (tgt := 198) dX12_reckonAll_168 (by decide) ?_
                refine V_lastore (pc := 198) dX12_reckonAll_198 h12.A37 (by first | decide | omega) (by omega) ?_
                refine V_iinc1 (pc := 199) (ls' := [(0, _), (1, _), (2, _), (3, _), (4, _), (5, _), (6, _)]) dX12_reckonAll_199 rfl (by decide) rfl ?_
                refine V_goto (pc := 202) (tgt := 344) dX12_reckonAll_202 (by decide) ?_
                refine V_goto (pc := 344) (tgt := 10) dX12_reckonAll_344 (by decide) ?_
                rw [show (-1 : Int64) = i64 (-1) from by decide]
                refine V_loc [0, 1, 2, 3, 4] rfl ?_
                exact ih (k + 1) (_ :: st) _ (by omega) (by simp; omega) (fun a ha => (List.mem_cons.mp ha).elim (fun e => by rw [e]; unfold sml; omega) (hall a)) ⟨up2_self, StL_up hsl (Nat.le_refl _)⟩ hL.up h
        · rw [if_neg hl60] at h; cases h
      · rw [if_neg h20] at h
        by_cases h28 : op k < 28
        · rw [if_pos h28] at h
          match st, h, hst, hall, hsl with
          | b :: a :: t, h, hst, hall, hsl =>
            have sa : sml a := hall a (by simp)
            have sb : sml b := hall b (by simp)
            have g1 : L' (o + 20) t.length = i64 a := hsl.2.1
            have g2 : L' (o + 20) (t.length + 1) = i64 b := hsl.1
            have hlen : (b :: a :: t).length = t.length + 2 := rfl
            rw [hlen] at hst ⊢
            have h : (match calc3 (op k) a b with | none => some none | some x => evM op arg (lfO w) last n (k + 1) (x :: t)) = some res := h
            refine V_iload (pc := 10) dX12_reckonAll_10 rfl ?_
            refine V_iload_n (pc := 12) dX12_reckonAll_12 rfl ?_
            refine V_icmp_geN (pc := 13) (tgt := 347) dX12_reckonAll_13 (by decide) (by omega) (by omega) (fun c13 => absurd c13 (by omega)) (fun n13 => ?_)
            refine V_aload_n (pc := 16) dX12_reckonAll_16 rfl ?_
            refine V_getIE (pc := 17) 12 38 dX12_reckonAll_17 flX12_424 (by decide) h12.o (gb) ?_
            refine V_if_neN (pc := 20) (tgt := 347) dX12_reckonAll_20 (by decide) (by omega) (fun c20 => absurd c20 (by omega)) (fun n20 => ?_)
            refine V_aload_n (pc := 23) dX12_reckonAll_23 rfl ?_
            refine V_getIE (pc := 24) 12 20 dX12_reckonAll_24 flX12_350 (by decide) h12.o (go) ?_
            refine V_if_eqN (pc := 27) (tgt := 40) dX12_reckonAll_27 (by decide) (by omega) (fun c27 => absurd c27 (by omega)) (fun n27 => ?_)
            refine V_aload_n (pc := 30) dX12_reckonAll_30 rfl ?_
            refine V_getR (pc := 31) 12 24 dX12_reckonAll_31 flX12_45 (by decide) h12.o h12.R24 ?_
            refine V_iload (pc := 34) dX12_reckonAll_34 rfl ?_
            refine V_ialoadE (pc := 36) dX12_reckonAll_36 h12.A24 (by first | decide | omega) (by omega) ((congrFun gr11 _).trans ho1) ?_
            refine V_goto (pc := 37) (tgt := 57) dX12_reckonAll_37 (by decide) ?_
            refine V_istore (pc := 57) (ls' := [(0, _), (1, _), (2, _), (3, _), (4, _), (5, _)]) dX12_reckonAll_57 (by decide) rfl ?_
            refine V_aload_n (pc := 59) dX12_reckonAll_59 rfl ?_
            refine V_getIE (pc := 60) 12 20 dX12_reckonAll_60 flX12_350 (by decide) h12.o (go) ?_
            refine V_if_eqN (pc := 63) (tgt := 76) dX12_reckonAll_63 (by decide) (by omega) (fun c63 => absurd c63 (by omega)) (fun n63 => ?_)
            refine V_aload_n (pc := 66) dX12_reckonAll_66 rfl ?_
            refine V_getR (pc := 67) 12 25 dX12_reckonAll_67 flX12_48 (by decide) h12.o h12.R25 ?_
            refine V_iload (pc := 70) dX12_reckonAll_70 rfl ?_
            refine V_ialoadE (pc := 72) dX12_reckonAll_72 h12.A25 (by first | decide | omega) (by omega) ((congrFun gr12 _).trans ho4) ?_
            refine V_goto (pc := 73) (tgt := 95) dX12_reckonAll_73 (by decide) ?_
            refine V_istore (pc := 95) (ls' := [(0, _), (1, _), (2, _), (3, _), (4, _), (5, _), (6, _)]) dX12_reckonAll_95 (by decide) rfl ?_
            refine V_iinc1 (pc := 97) (ls' := [(0, _), (1, _), (2, _), (3, _), (4, _), (5, _), (6, _)]) dX12_reckonAll_97 rfl (by decide) rfl ?_
            refine V_iload (pc := 100) dX12_reckonAll_100 rfl ?_
            refine V_bipush (pc := 102) (v := nI 20) dX12_reckonAll_102 (by decide) ?_
            refine V_icmp_geN (pc := 104) (tgt := 205) dX12_reckonAll_104 (by decide) (by omega) (by omega) (fun c104 => ?_) (fun n104 => absurd n104 (by omega))
            refine V_iload (pc := 205) dX12_reckonAll_205 rfl ?_
            refine V_bipush (pc := 207) (v := nI 28) dX12_reckonAll_207 (by decide) ?_
            refine V_icmp_geN (pc := 209) (tgt := 282) dX12_reckonAll_209 (by decide) (by omega) (by omega) (fun c209 => absurd c209 (by omega)) (fun n209 => ?_)
            refine V_iinc (pc := 212) (ls' := [(0, _), (1, _), (2, _), (3, _), (4, _), (5, _), (6, _)]) dX12_reckonAll_212 rfl (nI_pred' (by omega)) (by decide) rfl ?_
            refine V_aload_n (pc := 215) dX12_reckonAll_215 rfl ?_
            refine V_getR (pc := 216) 12 37 dX12_reckonAll_216 flX12_107 (by decide) h12.o h12.R37 ?_
            refine V_iload_n (pc := 219) dX12_reckonAll_219 rfl ?_
            refine V_iconst (pc := 220) (v := nI 1) dX12_reckonAll_220 (by decide) ?_
            refine V_isubN (pc := 221) dX12_reckonAll_221 (by omega) ?_
            refine V_aload_n (pc := 222) dX12_reckonAll_222 rfl ?_
            refine V_iload (pc := 223) dX12_reckonAll_223 rfl ?_
            refine V_aload_n (pc := 225) dX12_reckonAll_225 rfl ?_
            refine V_getR (pc := 226) 12 37 dX12_reckonAll_226 flX12_107 (by decide) h12.o h12.R37 ?_
            refine V_iload_n (pc := 229) dX12_reckonAll_229 rfl ?_
            refine V_iconst (pc := 230) (v := nI 1) dX12_reckonAll_230 (by decide) ?_
            refine V_isubN (pc := 231) dX12_reckonAll_231 (by omega) ?_
            refine V_laloadE (pc := 232) dX12_reckonAll_232 h12.A37 (by first | decide | omega) (by omega) (g1) ?_
            refine V_aload_n (pc := 233) dX12_reckonAll_233 rfl ?_
            refine V_getR (pc := 234) 12 37 dX12_reckonAll_234 flX12_107 (by decide) h12.o h12.R37 ?_
            refine V_iload_n (pc := 237) dX12_reckonAll_237 rfl ?_
            refine V_laloadE (pc := 238) dX12_reckonAll_238 h12.A37 (by first | decide | omega) (by omega) (g2) ?_
            refine V_callV (pc := 239) (ci := 12) (c_X12_reckon h12 (by omega) h28 sa sb gb) dX12_reckonAll_239 mlX12_430 mkX12_reckon rfl rfl h12.o ⟨by decide, rfl⟩ ⟨Nat.le_of_ble_eq_true rfl, Nat.le_of_ble_eq_true rfl⟩ (Nat.le_of_ble_eq_true rfl) ⟨Nat.le_of_ble_eq_true rfl, Nat.le_of_ble_eq_true rfl⟩ (fun r S' I' L' hp => ?_)
            obtain ⟨rfl, rfl, hcase⟩ := hp
            rcases hcase with ⟨hc1, rfl, rfl⟩ | ⟨x, hc1, rfl, rfl⟩
            skip
            · have hres : res = none := by rw [calc3, hc1] at h; exact (Option.some.inj h).symm
              subst hres
              rw [up2_up2]
              refine V_lastore (pc := 242) dX12_reckonAll_242 h12.A37 (by first | decide | omega) (by omega) ?_
              refine V_aload_n (pc := 243) dX12_reckonAll_243 rfl ?_
              refine V_aload_n (pc := 244) dX12_reckonAll_244 rfl ?_
              refine V_getIE (pc := 245) 12 38 dX12_reckonAll_245 flX12_424 (by decide) h12.o (up2_self) ?_
              refine V_if_neN (pc := 248) (tgt := 271) dX12_reckonAll_248 (by decide) (by omega) (fun c248 => ?_) (fun n248 => absurd n248 (by omega))
              refine V_iconst (pc := 271) (v := nI 1) dX12_reckonAll_271 (by decide) ?_
              refine V_goto (pc := 272) (tgt := 276) dX12_reckonAll_272 (by decide) ?_
              refine V_putI (pc := 276) 12 38 dX12_reckonAll_276 flX12_424 (by decide) (by decide) (Or.inl rfl) rfl rfl h12.o ?_
              rw [up2_up2]
              refine V_goto (pc := 279) (tgt := 344) dX12_reckonAll_279 (by decide) ?_
              refine V_goto (pc := 344) (tgt := 10) dX12_reckonAll_344 (by decide) ?_
              refine V_loc [0, 1, 2, 3, 4] rfl ?_
              exact rk_brk h12 hL.up (by omega) (by omega) hlast
            · rw [calc3, hc1] at h
              have hbig := calc2_big sa sb hc1
              refine V_lastore (pc := 242) dX12_reckonAll_242 h12.A37 (by first | decide | omega) (by omega) ?_
              refine V_aload_n (pc := 243) dX12_reckonAll_243 rfl ?_
              refine V_aload_n (pc := 244) dX12_reckonAll_244 rfl ?_
              refine V_getIE (pc := 245) 12 38 dX12_reckonAll_245 flX12_424 (by decide) h12.o (up2_self) ?_
              refine V_if_neN (pc := 248) (tgt := 271) dX12_reckonAll_248 (by decide) (by omega) (fun c248 => absurd c248 (by omega)) (fun n248 => ?_)
              refine V_aload_n (pc := 251) dX12_reckonAll_251 rfl ?_
              refine V_getR (pc := 252) 12 37 dX12_reckonAll_252 flX12_107 (by decide) h12.o h12.R37 ?_
              refine V_iload_n (pc := 255) dX12_reckonAll_255 rfl ?_
              refine V_iconst (pc := 256) (v := nI 1) dX12_reckonAll_256 (by decide) ?_
              refine V_isubN (pc := 257) dX12_reckonAll_257 (by omega) ?_
              refine V_laloadE (pc := 258) dX12_reckonAll_258 h12.A37 (by first | decide | omega) (by omega) (up2_self) ?_
              refine V_ldc2 (pc := 259) dX12_reckonAll_259 coX12_434 ?_
              refine V_ldc2 (pc := 262) dX12_reckonAll_262 coX12_436 ?_
              refine V_callSd (pc := 265) (c_X12_in9 hbig) dX12_reckonAll_265 mlX12_195 mkX12_in rfl rfl ⟨Nat.le_of_ble_eq_true rfl, Nat.le_of_ble_eq_true rfl⟩ (Nat.le_of_ble_eq_true rfl) ⟨Nat.le_of_ble_eq_true rfl, Nat.le_of_ble_eq_true rfl⟩ ?_
              refine V_if_neB (pc := 268) (tgt := 275) dX12_reckonAll_268 (by decide) (fun c268 => ?_) (fun n268 => ?_)
              · skip
                have h : evM op arg (lfO w) last n (k + 1) (x :: t) = some res := by
                  have h2 : (match (if rngd x then some x else none) with | none => some none | some x => evM op arg (lfO w) last n (k + 1) (x :: t)) = some res := h
                  rw [c268] at h2
                  exact h2
                refine V_iconst (pc := 275) (v := nI 0) dX12_reckonAll_275 (by decide) ?_
                refine V_putI (pc := 276) 12 38 dX12_reckonAll_276 flX12_424 (by decide) (by decide) (Or.inl rfl) rfl rfl h12.o ?_
                refine V_goto (pc := 279) (tgt := 344) dX12_reckonAll_279 (by decide) ?_
                rw [up2_up2]
                refine V_loc [0, 1, 2, 3, 4] rfl ?_
                refine V_goto (pc := 344) (tgt := 10) dX12_reckonAll_344 (by decide) ?_
                first | exact rk_brk h12 hL.up (by omega) (by omega) hlast | exact ih (k + 1) (x :: t) _ (by omega) (by simp; omega) (fun z hz => (List.mem_cons.mp hz).elim (fun e => by rw [e]; exact rngd_sml c268) (fun e => hall z (by simp [e]))) ⟨up2_self, StL_up hsl.2.2 (Nat.le_refl _)⟩ hL.up h
              · skip
                have hres : res = none := by
                  have h2 : (match (if rngd x then some x else none) with | none => some none | some x => evM op arg (lfO w) last n (k + 1) (x :: t)) = some res := h
                  rw [n268] at h2
                  exact (Option.some.inj h2).symm
                subst hres
                refine V_iconst (pc := 271) (v := nI 1) dX12_reckonAll_271 (by decide) ?_
                refine V_goto (pc := 272) (tgt := 276) dX12_reckonAll_272 (by decide) ?_
                refine V_putI (pc := 276) 12 38 dX12_reckonAll_276 flX12_424 (by decide) (by decide) (Or.inl rfl) rfl rfl h12.o ?_
                refine V_goto (pc := 279) (tgt := 344) dX12_reckonAll_279 (by decide) ?_
                rw [up2_up2]
                refine V_loc [0, 1, 2, 3, 4] rfl ?_
                refine V_goto (pc := 344) (tgt := 10) dX12_reckonAll_344 (by decide) ?_
                first | exact rk_brk h12 hL.up (by omega) (by omega) hlast | exact ih (k + 1) (x :: t) _ (by omega) (by simp; omega) (fun z hz => (List.mem_cons.mp hz).elim (fun e => by rw [e]; exact rngd_sml c268) (fun e => hall z (by simp [e]))) ⟨up2_self, StL_up hsl.2.2 (Nat.le_refl _)⟩ hL.up h
          | [], h, _, _, _ => cases h
          | [_], h, _, _, _ => cases h
        · rw [if_neg h28] at h
          by_cases h28e : op k = 28
          · rw [if_pos h28e] at h
            match st, h, hst, hall, hsl with
            | a :: t, h, hst, hall, hsl =>
              have h : (if a = 0 ∨ a = 1 then evM op arg (lfO w) last n (k + 1) ((1 - a) :: t) else none) = some res := h
              by_cases ha : a = 0 ∨ a = 1
              · rw [if_pos ha] at h
                have g1 : L' (o + 20) t.length = i64 a := hsl.1
                have hlen : (a :: t).length = t.length + 1 := rfl
                rw [hlen] at hst ⊢
                refine V_iload (pc := 10) dX12_reckonAll_10 rfl ?_
                refine V_iload_n (pc := 12) dX12_reckonAll_12 rfl ?_
                refine V_icmp_geN (pc := 13) (tgt := 347) dX12_reckonAll_13 (by decide) (by omega) (by omega) (fun c13 => absurd c13 (by omega)) (fun n13 => ?_)
                refine V_aload_n (pc := 16) dX12_reckonAll_16 rfl ?_
                refine V_getIE (pc := 17) 12 38 dX12_reckonAll_17 flX12_424 (by decide) h12.o (gb) ?_
                refine V_if_neN (pc := 20) (tgt := 347) dX12_reckonAll_20 (by decide) (by omega) (fun c20 => absurd c20 (by omega)) (fun n20 => ?_)
                refine V_aload_n (pc := 23) dX12_reckonAll_23 rfl ?_
                refine V_getIE (pc := 24) 12 20 dX12_reckonAll_24 flX12_350 (by decide) h12.o (go) ?_
                refine V_if_eqN (pc := 27) (tgt := 40) dX12_reckonAll_27 (by decide) (by omega) (fun c27 => absurd c27 (by omega)) (fun n27 => ?_)
                refine V_aload_n (pc := 30) dX12_reckonAll_30 rfl ?_
                refine V_getR (pc := 31) 12 24 dX12_reckonAll_31 flX12_45 (by decide) h12.o h12.R24 ?_
                refine V_iload (pc := 34) dX12_reckonAll_34 rfl ?_
                refine V_ialoadE (pc := 36) dX12_reckonAll_36 h12.A24 (by first | decide | omega) (by omega) ((congrFun gr11 _).trans ho1) ?_
                refine V_goto (pc := 37) (tgt := 57) dX12_reckonAll_37 (by decide) ?_
                refine V_istore (pc := 57) (ls' := [(0, _), (1, _), (2, _), (3, _), (4, _), (5, _)]) dX12_reckonAll_57 (by decide) rfl ?_
                refine V_aload_n (pc := 59) dX12_reckonAll_59 rfl ?_
                refine V_getIE (pc := 60) 12 20 dX12_reckonAll_60 flX12_350 (by decide) h12.o (go) ?_
                refine V_if_eqN (pc := 63) (tgt := 76) dX12_reckonAll_63 (by decide) (by omega) (fun c63 => absurd c63 (by omega)) (fun n63 => ?_)
                refine V_aload_n (pc := 66) dX12_reckonAll_66 rfl ?_
                refine V_getR (pc := 67) 12 25 dX12_reckonAll_67 flX12_48 (by decide) h12.o h12.R25 ?_
                refine V_iload (pc := 70) dX12_reckonAll_70 rfl ?_
                refine V_ialoadE (pc := 72) dX12_reckonAll_72 h12.A25 (by first | decide | omega) (by omega) ((congrFun gr12 _).trans ho4) ?_
                refine V_goto (pc := 73) (tgt := 95) dX12_reckonAll_73 (by decide) ?_
                refine V_istore (pc := 95) (ls' := [(0, _), (1, _), (2, _), (3, _), (4, _), (5, _), (6, _)]) dX12_reckonAll_95 (by decide) rfl ?_
                refine V_iinc1 (pc := 97) (ls' := [(0, _), (1, _), (2, _), (3, _), (4, _), (5, _), (6, _)]) dX12_reckonAll_97 rfl (by decide) rfl ?_
                refine V_iload (pc := 100) dX12_reckonAll_100 rfl ?_
                refine V_bipush (pc := 102) (v := nI 20) dX12_reckonAll_102 (by decide) ?_
                refine V_icmp_geN (pc := 104) (tgt := 205) dX12_reckonAll_104 (by decide) (by omega) (by omega) (fun c104 => ?_) (fun n104 => absurd n104 (by omega))
                refine V_iload (pc := 205) dX12_reckonAll_205 rfl ?_
                refine V_bipush (pc := 207) (v := nI 28) dX12_reckonAll_207 (by decide) ?_
                refine V_icmp_geN (pc := 209) (tgt := 282) dX12_reckonAll_209 (by decide) (by omega) (by omega) (fun c209 => ?_) (fun n209 => absurd n209 (by omega))
                refine V_iload (pc := 282) dX12_reckonAll_282 rfl ?_
                refine V_bipush (pc := 284) (v := nI 28) dX12_reckonAll_284 (by decide) ?_
                refine V_icmp_neN (pc := 286) (tgt := 310) dX12_reckonAll_286 (by decide) (by omega) (by omega) (fun c286 => absurd c286 (by omega)) (fun n286 => ?_)
                refine V_aload_n (pc := 289) dX12_reckonAll_289 rfl ?_
                refine V_getR (pc := 290) 12 37 dX12_reckonAll_290 flX12_107 (by decide) h12.o h12.R37 ?_
                refine V_iload_n (pc := 293) dX12_reckonAll_293 rfl ?_
                refine V_iconst (pc := 294) (v := nI 1) dX12_reckonAll_294 (by decide) ?_
                refine V_isubN (pc := 295) dX12_reckonAll_295 (by omega) ?_
                refine V_lconst (pc := 296) (v := lN 1) dX12_reckonAll_296 (by decide) ?_
                refine V_aload_n (pc := 297) dX12_reckonAll_297 rfl ?_
                refine V_getR (pc := 298) 12 37 dX12_reckonAll_298 flX12_107 (by decide) h12.o h12.R37 ?_
                refine V_iload_n (pc := 301) dX12_reckonAll_301 rfl ?_
                refine V_iconst (pc := 302) (v := nI 1) dX12_reckonAll_302 (by decide) ?_
                refine V_isubN (pc := 303) dX12_reckonAll_303 (by omega) ?_
                refine V_laloadE (pc := 304) dX12_reckonAll_304 h12.A37 (by first | decide | omega) (by omega) (g1) ?_
                refine V_lsub (pc := 305) dX12_reckonAll_305 ?_
                refine V_lastore (pc := 306) dX12_reckonAll_306 h12.A37 (by first | decide | omega) (by omega) ?_
                refine V_goto (pc := 307) (tgt := 344) dX12_reckonAll_307 (by decide) ?_
                refine V_goto (pc := 344) (tgt := 10) dX12_reckonAll_344 (by decide) ?_
                refine V_loc [0, 1, 2, 3, 4] rfl ?_
                rw [i64_lN, i64_sub]
                exact ih (k + 1) ((1 - a) :: t) _ (by omega) (by simp; omega) (fun z hz => (List.mem_cons.mp hz).elim (fun e => by rw [e]; unfold sml; omega) (fun e => hall z (by simp [e]))) ⟨up2_self, StL_up hsl.2 (Nat.le_refl _)⟩ hL.up h
              · rw [if_neg ha] at h; cases h
            | [], h, _, _, _ => cases h
          · rw [if_neg h28e] at h
            match st, h, hst, hall, hsl with
            | a :: t, h, hst, hall, hsl =>
              have h : (if a = (if op k = 29 then 0 else 1) then evM op arg (lfO w) last n (arg k) (a :: t) else evM op arg (lfO w) last n (k + 1) t) = some res := h
              have g1 : L' (o + 20) t.length = i64 a := hsl.1
              have hlen : (a :: t).length = t.length + 1 := rfl
              have sa : sml a := hall a (by simp)
              rw [hlen] at hst ⊢
              have fin : ∀ (g : Int) (hg : (if op k = 29 then (0 : Int) else 1) = g) (sg : sml g), V E kX12_reckonAll (rmOf 3 0 0) (QRk E o S I L res) 0 0 S (up2 I o 38 (nI 0)) L' 330 [(0, .ref o), (1, .int a1), (2, .int (nI last)), (3, .int (nI (t.length + 1))), (4, .int (nI (k + 1))), (5, .int (nI (op k))), (6, .int (nI (arg k)))] [.long (i64 g), .long (i64 a)] := by
                intro g hg sg
                rw [hg] at h
                refine V_lcmp (pc := 330) dX12_reckonAll_330 ?_
                refine V_if_ne (pc := 331) (tgt := 341) dX12_reckonAll_331 (by decide) (fun c331 => ?_) (fun n331 => ?_)
                · skip
                  have ea : ¬ a = g := fun z => c331 ((lg_cmp_eq _ _).mpr (by rw [z]))
                  rw [if_neg ea] at h
                  refine V_iinc (pc := 341) (ls' := [(0, _), (1, _), (2, _), (3, _), (4, _), (5, _), (6, _)]) dX12_reckonAll_341 rfl (nI_pred' (by omega)) (by decide) rfl ?_
                  refine V_goto (pc := 344) (tgt := 10) dX12_reckonAll_344 (by decide) ?_
                  refine V_loc [0, 1, 2, 3, 4] rfl ?_
                  first | exact ih (arg k) (a :: t) L' (by omega) hst hall hsl hL h | exact ih (k + 1) t L' (by omega) (by omega) (fun z hz => hall z (by simp [hz])) hsl.2 hL h
                · skip
                  have ea : a = g := (i64_inj sa sg).mp ((lg_cmp_eq _ _).mp n331)
                  rw [if_pos ea] at h
                  refine V_iload (pc := 334) dX12_reckonAll_334 rfl ?_
                  refine V_istore (pc := 336) (ls' := [(0, _), (1, _), (2, _), (3, _), (4, _), (5, _), (6, _)]) dX12_reckonAll_336 (by decide) rfl ?_
                  refine V_goto (pc := 338) (tgt := 344) dX12_reckonAll_338 (by decide) ?_
                  refine V_goto (pc := 344) (tgt := 10) dX12_reckonAll_344 (by decide) ?_
                  refine V_loc [0, 1, 2, 3, 4] rfl ?_
                  first | exact ih (arg k) (a :: t) L' (by omega) hst hall hsl hL h | exact ih (k + 1) t L' (by omega) (by omega) (fun z hz => hall z (by simp [hz])) hsl.2 hL h
              refine V_iload (pc := 10) dX12_reckonAll_10 rfl ?_
              refine V_iload_n (pc := 12) dX12_reckonAll_12 rfl ?_
              refine V_icmp_geN (pc := 13) (tgt := 347) dX12_reckonAll_13 (by decide) (by omega) (by omega) (fun c13 => absurd c13 (by omega)) (fun n13 => ?_)
              refine V_aload_n (pc := 16) dX12_reckonAll_16 rfl ?_
              refine V_getIE (pc := 17) 12 38 dX12_reckonAll_17 flX12_424 (by decide) h12.o (gb) ?_
              refine V_if_neN (pc := 20) (tgt := 347) dX12_reckonAll_20 (by decide) (by omega) (fun c20 => absurd c20 (by omega)) (fun n20 => ?_)
              refine V_aload_n (pc := 23) dX12_reckonAll_23 rfl ?_
              refine V_getIE (pc := 24) 12 20 dX12_reckonAll_24 flX12_350 (by decide) h12.o (go) ?_
              refine V_if_eqN (pc := 27) (tgt := 40) dX12_reckonAll_27 (by decide) (by omega) (fun c27 => absurd c27 (by omega)) (fun n27 => ?_)
              refine V_aload_n (pc := 30) dX12_reckonAll_30 rfl ?_
              refine V_getR (pc := 31) 12 24 dX12_reckonAll_31 flX12_45 (by decide) h12.o h12.R24 ?_
              refine V_iload (pc := 34) dX12_reckonAll_34 rfl ?_
              refine V_ialoadE (pc := 36) dX12_reckonAll_36 h12.A24 (by first | decide | omega) (by omega) ((congrFun gr11 _).trans ho1) ?_
              refine V_goto (pc := 37) (tgt := 57) dX12_reckonAll_37 (by decide) ?_
              refine V_istore (pc := 57) (ls' := [(0, _), (1, _), (2, _), (3, _), (4, _), (5, _)]) dX12_reckonAll_57 (by decide) rfl ?_
              refine V_aload_n (pc := 59) dX12_reckonAll_59 rfl ?_
              refine V_getIE (pc := 60) 12 20 dX12_reckonAll_60 flX12_350 (by decide) h12.o (go) ?_
              refine V_if_eqN (pc := 63) (tgt := 76) dX12_reckonAll_63 (by decide) (by omega) (fun c63 => absurd c63 (by omega)) (fun n63 => ?_)
              refine V_aload_n (pc := 66) dX12_reckonAll_66 rfl ?_
              refine V_getR (pc := 67) 12 25 dX12_reckonAll_67 flX12_48 (by decide) h12.o h12.R25 ?_
              refine V_iload (pc := 70) dX12_reckonAll_70 rfl ?_
              refine V_ialoadE (pc := 72) dX12_reckonAll_72 h12.A25 (by first | decide | omega) (by omega) ((congrFun gr12 _).trans ho4) ?_
              refine V_goto (pc := 73) (tgt := 95) dX12_reckonAll_73 (by decide) ?_
              refine V_istore (pc := 95) (ls' := [(0, _), (1, _), (2, _), (3, _), (4, _), (5, _), (6, _)]) dX12_reckonAll_95 (by decide) rfl ?_
              refine V_iinc1 (pc := 97) (ls' := [(0, _), (1, _), (2, _), (3, _), (4, _), (5, _), (6, _)]) dX12_reckonAll_97 rfl (by decide) rfl ?_
              refine V_iload (pc := 100) dX12_reckonAll_100 rfl ?_
              refine V_bipush (pc := 102) (v := nI 20) dX12_reckonAll_102 (by decide) ?_
              refine V_icmp_geN (pc := 104) (tgt := 205) dX12_reckonAll_104 (by decide) (by omega) (by omega) (fun c104 => ?_) (fun n104 => absurd n104 (by omega))
              refine V_iload (pc := 205) dX12_reckonAll_205 rfl ?_
              refine V_bipush (pc := 207) (v := nI 28) dX12_reckonAll_207 (by decide) ?_
              refine V_icmp_geN (pc := 209) (tgt := 282) dX12_reckonAll_209 (by decide) (by omega) (by omega) (fun c209 => ?_) (fun n209 => absurd n209 (by omega))
              refine V_iload (pc := 282) dX12_reckonAll_282 rfl ?_
              refine V_bipush (pc := 284) (v := nI 28) dX12_reckonAll_284 (by decide) ?_
              refine V_icmp_neN (pc := 286) (tgt := 310) dX12_reckonAll_286 (by decide) (by omega) (by omega) (fun c286 => ?_) (fun n286 => absurd n286 (by omega))
              refine V_aload_n (pc := 310) dX12_reckonAll_310 rfl ?_
              refine V_getR (pc := 311) 12 37 dX12_reckonAll_311 flX12_107 (by decide) h12.o h12.R37 ?_
              refine V_iload_n (pc := 314) dX12_reckonAll_314 rfl ?_
              refine V_iconst (pc := 315) (v := nI 1) dX12_reckonAll_315 (by decide) ?_
              refine V_isubN (pc := 316) dX12_reckonAll_316 (by omega) ?_
              refine V_laloadE (pc := 317) dX12_reckonAll_317 h12.A37 (by first | decide | omega) (by omega) (g1) ?_
              refine V_iload (pc := 318) dX12_reckonAll_318 rfl ?_
              refine V_bipush (pc := 320) (v := nI 29) dX12_reckonAll_320 (by decide) ?_
              refine V_icmp_neN (pc := 322) (tgt := 329) dX12_reckonAll_322 (by decide) (by omega) (by omega) (fun c322 => ?_) (fun n322 => ?_)
              · skip
                refine V_lconst (pc := 329) (v := lN 1) dX12_reckonAll_329 (by decide) ?_
                first | (rw [i64_lN]; exact fin _ (by rw [if_pos n322]; rfl) ⟨by decide, by decide⟩) | (rw [i64_lN]; exact fin _ (by rw [if_neg c322]; rfl) ⟨by decide, by decide⟩)
              · skip
                refine V_lconst (pc := 325) (v := lN 0) dX12_reckonAll_325 (by decide) ?_
                refine V_goto (pc := 326) (tgt := 330) dX12_reckonAll_326 (by decide) ?_
                first | (rw [i64_lN]; exact fin _ (by rw [if_pos n322]; rfl) ⟨by decide, by decide⟩) | (rw [i64_lN]; exact fin _ (by rw [if_neg c322]; rfl) ⟨by decide, by decide⟩)
            | [], h, _, _, _ => cases h
theorem c_X12_reckonAllO (h12 : Lay12 E S o) (hr : RowM I (o + 2) q) (hq : wq q) {first last : Nat} {op arg : Nat → Nat} {w : WT} (hwo : wok w) (hord : I o 20 = nI 1) (hlast : last ≤ 400) (hfirst : first ≤ 1000)
    (hop : ∀ k, k < last → I (o + 11) k = nI (op k) ∧ op k < 31 ∧ (op k < 20 → op k < 10) ∧ I (o + 12) k = nI (arg k) ∧ arg k ≤ 1000) (hw : ∀ j, 0 < j → j < 5 → L (o + 19) j = i64 (lfO w j 0)) (hwl : ∀ a, a < 6 → w (12 + a) = if a < q 0 then (q (74 + a) : Int) else -1) (hwn : ∀ a, a < 6 → w (18 + a) = if a < q 0 then (nts q a : Int) else -1) {res : Option Int} {fuel : Nat} (hev : evM op arg (lfO w) last fuel first [] = some res) :
    C E kX12_reckonAll 3 0 0 [.ref o, .int (nI first), .int (nI last)] S I L (fun r S' I' L' => r = none ∧ S = S' ∧ I' = up2 I o 38 (b2i res.isNone) ∧ RkL o L' L ∧ ∀ v, res = some v → L' o 39 = i64 v) := by
  refine C_of (by decide) (Nat.le_of_ble_eq_true rfl) ?_
  refine V_aload_n (pc := 0) dX12_reckonAll_0 rfl ?_
  refine V_iconst (pc := 1) (v := nI 0) dX12_reckonAll_1 (by decide) ?_
  refine V_putI (pc := 2) 12 38 dX12_reckonAll_2 flX12_424 (by decide) (by decide) (Or.inl rfl) rfl rfl h12.o ?_
  refine V_iconst (pc := 5) (v := nI 0) dX12_reckonAll_5 (by decide) ?_
  refine V_istore_n (pc := 6) (ls' := [(0, _), (1, _), (2, _), (3, _)]) dX12_reckonAll_6 (by decide) rfl ?_
  refine V_iload_n (pc := 7) dX12_reckonAll_7 rfl ?_
  refine V_istore (pc := 8) (ls' := [(0, _), (1, _), (2, _), (3, _), (4, _)]) dX12_reckonAll_8 (by decide) rfl ?_
  exact lp_reckonAllO h12 hr hq hwo hord hlast hop hw hwl hwn res fuel first [] L hfirst (by simp) (fun a ha => by cases ha) trivial RkL.rf hev
end RA
