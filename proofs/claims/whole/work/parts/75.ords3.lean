/-! THE REFERENCE: orders, III -/
theorem rn1_k {x : OC} {s s' : RT} (hA : wfA s.1) (hl : s.2.2 ≤ 1001) (h : rn1 x s = some s') : wfA s'.1 ∧ SmO s'.1 s.1 ∧ s'.2.2 ≤ 1001 ∧ s'.2.1 ≤ s.2.1 + 1 := by
  unfold rn1 at h
  split at h
  · split at h
    · cases h
    · rename_i h2
      cases h
      have h0 : (rnA x s).1 = 0 := Classical.byContradiction fun z => h2 (Or.inr z)
      obtain ⟨k1, k2, k3, k4, k5⟩ := act1_k hA x.1 (vI (x.2.2.1.1 (wdR s))) (vI (x.2.2.1.2.1 (wdR s))) (vI (x.2.2.1.2.2 (wdR s)))
      refine ⟨k1, k2, ?_, Nat.le_refl _⟩
      show (if x.1 = 2 then (rnA x s).2.1 + 1 else s.2.2) ≤ 1001
      have := k5 h0
      split
      · show (rnA x s).2.1 + 1 ≤ 1001; unfold rnA; omega
      · exact hl
  · cases h; exact ⟨hA, SmO.rf, hl, Nat.le_succ _⟩
def ORS (o : Nat) (Ib : IT) (Lb : LT) (J : IT) (B : AT) (c : CT) (od : OrdT) (s : RT) (I : IT) (L : LT) : Prop := MR o I L s.1 ∧ wfA s.1 ∧ SmO s.1 B ∧ I o 55 = nI s.2.1 ∧ I o 56 = pred1 s.2.2 ∧ s.2.2 ≤ 1001 ∧ CdR I o c ∧ OMs (I (o + 34)) c od ∧ I o 21 = nI od.1 ∧ Sv o I J ∧ FrM o I Ib L Lb
section RH
variable {E : EnT} {S : ST} {I J Ib : IT} {L LJ Lb : LT} {o : Nat} {A B : AT} {c : CT} {od : OrdT} {Q : QT} {had k : Nat}
theorem lp_or3 (h12 : Lay12 E S o) (hk : k < od.1) (hk12 : od.1 ≤ 12) : ∀ (m t : Nat) (s : RT) (I : IT) (L : LT), t + m = (od.2 k).2.1 → (od.2 k).2.1 ≤ 20 → s.2.1 ≤ 20 * k + t → ORS o Ib Lb J B c od s I L → (rnT (od.2 k) m s = none → ∀ I' L' A2 t', MR o I' L' A2 → SmO A2 B → Sv o I' J → FrM o I' Ib L' Lb → V E kX12_orders (rmOf 11 0 0) Q 0 0 S I' L' 177 [(0, .ref o), (1, .int (nI had)), (2, .int (nI k)), (3, .int (nI t'))] []) → (∀ s2, rnT (od.2 k) m s = some s2 → ∀ I' L', ORS o Ib Lb J B c od s2 I' L' → s2.2.1 ≤ 20 * k + 20 → V E kX12_orders (rmOf 11 0 0) Q 0 0 S I' L' 200 [(0, .ref o), (1, .int (nI had)), (2, .int (nI k)), (3, .int (nI (od.2 k).2.1))] []) → V E kX12_orders (rmOf 11 0 0) Q 0 0 S I L 150 [(0, .ref o), (1, .int (nI had)), (2, .int (nI k)), (3, .int (nI t))] [] := by
  intro m
  induction m with
  | zero =>
    intro t s I L ht h20 hd hO hb hg
    have hO0 := hO
    obtain ⟨a1, a2, a3, a4, a5, a6, a7, a8, a9, a10, a11⟩ := hO
    have h9 := (a8 k hk).2.2.2.2.1
    have e : t = (od.2 k).2.1 := by omega
    subst e
    refine V_iload_n (pc := 150) dX12_orders_150 rfl ?_
    refine V_aload_n (pc := 151) dX12_orders_151 rfl ?_
    refine V_getR (pc := 152) 12 54 dX12_orders_152 flX12_163 (by decide) h12.o h12.R54 ?_
    refine V_bipush (pc := 155) (v := nI 10) dX12_orders_155 (by decide) ?_
    refine V_iload_n (pc := 157) dX12_orders_157 rfl ?_
    refine V_imulN (pc := 158) dX12_orders_158 ?_
    refine V_bipush (pc := 159) (v := nI 9) dX12_orders_159 (by decide) ?_
    refine V_iaddN (pc := 161) dX12_orders_161 ?_
    refine V_ialoadE (pc := 162) dX12_orders_162 h12.A54 (by first | decide | omega) (by omega) (h9) ?_
    refine V_icmp_geN (pc := 163) (tgt := 200) dX12_orders_163 (by decide) (by omega) (by omega) (fun c163 => ?_) (fun n163 => absurd n163 (by omega))
    exact hg s rfl I L hO0 (by omega)
  | succ m ih =>
    intro t s I L ht h20 hd hO hb hg
    obtain ⟨a1, a2, a3, a4, a5, a6, a7, a8, a9, a10, a11⟩ := hO
    have h9 := (a8 k hk).2.2.2.2.1
    refine V_iload_n (pc := 150) dX12_orders_150 rfl ?_
    refine V_aload_n (pc := 151) dX12_orders_151 rfl ?_
    refine V_getR (pc := 152) 12 54 dX12_orders_152 flX12_163 (by decide) h12.o h12.R54 ?_
    refine V_bipush (pc := 155) (v := nI 10) dX12_orders_155 (by decide) ?_
    refine V_iload_n (pc := 157) dX12_orders_157 rfl ?_
    refine V_imulN (pc := 158) dX12_orders_158 ?_
    refine V_bipush (pc := 159) (v := nI 9) dX12_orders_159 (by decide) ?_
    refine V_iaddN (pc := 161) dX12_orders_161 ?_
    refine V_ialoadE (pc := 162) dX12_orders_162 h12.A54 (by first | decide | omega) (by omega) (h9) ?_
    refine V_icmp_geN (pc := 163) (tgt := 200) dX12_orders_163 (by decide) (by omega) (by omega) (fun c163 => absurd c163 (by omega)) (fun n163 => ?_)
    refine V_aload_n (pc := 166) dX12_orders_166 rfl ?_
    refine V_bipush (pc := 167) (v := nI 10) dX12_orders_167 (by decide) ?_
    refine V_iload_n (pc := 169) dX12_orders_169 rfl ?_
    refine V_imulN (pc := 170) dX12_orders_170 ?_
    refine V_callV (pc := 171) (ci := 12) (c_X12_run (s := s) (x := od.2 k) h12 a2 (by omega) a1 a4 a5 (by omega) a6 a7 (a8 k hk)) dX12_orders_171 mlX12_560 mkX12_run rfl rfl h12.o ⟨by decide, rfl⟩ ⟨Nat.le_of_ble_eq_true rfl, Nat.le_of_ble_eq_true rfl⟩ (Nat.le_of_ble_eq_true rfl) ⟨Nat.le_of_ble_eq_true rfl, Nat.le_of_ble_eq_true rfl⟩ (fun r S' I' L' hp => ?_)
    obtain ⟨rfl, hF, hn, hs⟩ := hp
    have b7 := a7.cg (hF.2.1 (o + 11) (by omega)) (hF.2.1 (o + 12) (by omega))
    have b8 : OMs (I' (o + 34)) c od := by rw [hF.2.1 (o + 34) (by omega)]; exact a8
    have b9 := (hF.2.2.1 21 (by omega)).trans a9
    rcases hr : rn1 (od.2 k) s with _ | s'
    skip
    · obtain ⟨rfl, hM2⟩ := hn hr
      rw [rnT_n hr] at hb
      refine V_if_ge (pc := 174) (tgt := 194) dX12_orders_174 (by decide) (fun c174 => absurd c174 (by decide)) (fun n174 => ?_)
      exact hb rfl _ _ s.1 t hM2 a3 (a10.o hF) (FrM.tr hF.1 a11)
    · obtain ⟨rfl, hM2, e55, e56⟩ := hs s' hr
      rw [rnT_s hr] at hb hg
      obtain ⟨k1, k2, k3, k4⟩ := rn1_k a2 a6 hr
      refine V_if_geN (pc := 174) (tgt := 194) dX12_orders_174 (by decide) (by omega) ?_
      refine V_iinc1 (pc := 194) (ls' := [(0, _), (1, _), (2, _), (3, _)]) dX12_orders_194 rfl (by decide) rfl ?_
      refine V_goto (pc := 197) (tgt := 150) dX12_orders_197 (by decide) ?_
      exact ih (t + 1) s' _ _ (by omega) h20 (by omega) ⟨hM2, k1, k2.tr a3, e55, e56, k3, b7, b8, b9, a10.o hF, FrM.tr hF.1 a11⟩ hb hg
theorem lp_or4 (h12 : Lay12 E S o) (hk12 : od.1 ≤ 12) : ∀ (m k : Nat) (s : RT) (I : IT) (L : LT) (ls : List (Nat × Value)), k + m = od.1 → s.2.1 ≤ 20 * k → ORS o Ib Lb J B c od s I L → (ls = [(0, .ref o), (1, .int (nI had)), (2, .int (nI k))] ∨ ∃ z, ls = [(0, .ref o), (1, .int (nI had)), (2, .int (nI k)), (3, z)]) →
    ((rnC od.2 m k s).2 = none → ∀ I' L' A2 t', MR o I' L' A2 → SmO A2 B → Sv o I' J → FrM o I' Ib L' Lb → V E kX12_orders (rmOf 11 0 0) Q 0 0 S I' L' 177 [(0, .ref o), (1, .int (nI had)), (2, .int (nI (rnC od.2 m k s).1)), (3, .int (nI t'))] []) → (∀ s2, (rnC od.2 m k s).2 = some s2 → ∀ I' L', ORS o Ib Lb J B c od s2 I' L' → s2.2.1 ≤ 1000 → V E kX12_orders (rmOf 11 0 0) Q 0 0 S I' L' 206 [(0, .ref o)] []) → V E kX12_orders (rmOf 11 0 0) Q 0 0 S I L 140 ls [] := by
  intro m
  induction m with
  | zero =>
    intro k s I L ls hkm hd hO hls hb hg
    have h21 := hO.2.2.2.2.2.2.2.2.1
    rcases hls with e | ⟨z, e⟩
    · subst e
      refine V_iload_n (pc := 140) dX12_orders_140 rfl ?_
      refine V_aload_n (pc := 141) dX12_orders_141 rfl ?_
      refine V_getIE (pc := 142) 12 21 dX12_orders_142 flX12_404 (by decide) h12.o (h21) ?_
      refine V_icmp_geN (pc := 145) (tgt := 206) dX12_orders_145 (by decide) (by omega) (by omega) (fun c145 => ?_) (fun n145 => absurd n145 (by omega))
      refine V_loc [0] rfl ?_
      exact hg s rfl I L hO (by omega)
    · subst e
      refine V_iload_n (pc := 140) dX12_orders_140 rfl ?_
      refine V_aload_n (pc := 141) dX12_orders_141 rfl ?_
      refine V_getIE (pc := 142) 12 21 dX12_orders_142 flX12_404 (by decide) h12.o (h21) ?_
      refine V_icmp_geN (pc := 145) (tgt := 206) dX12_orders_145 (by decide) (by omega) (by omega) (fun c145 => ?_) (fun n145 => absurd n145 (by omega))
      refine V_loc [0] rfl ?_
      exact hg s rfl I L hO (by omega)
  | succ m ih =>
    intro k s I L ls hkm hd hO hls hb hg
    have h21 := hO.2.2.2.2.2.2.2.2.1
    have h20 := (hO.2.2.2.2.2.2.2.1 k (by omega)).2.2.2.1
    have inner : V E kX12_orders (rmOf 11 0 0) Q 0 0 S I L 150 [(0, .ref o), (1, .int (nI had)), (2, .int (nI k)), (3, .int (nI 0))] [] := by
      refine lp_or3 h12 (by omega) hk12 (od.2 k).2.1 0 s I L (by omega) h20 (by omega) hO (fun hn => ?_) (fun s2 hs I' L' hO2 hd2 => ?_)
      · rw [rnC_n hn] at hb
        exact hb rfl
      · rw [rnC_s hs] at hb hg
        refine V_iinc1 (pc := 200) (ls' := [(0, _), (1, _), (2, _), (3, _)]) dX12_orders_200 rfl (by decide) rfl ?_
        refine V_goto (pc := 203) (tgt := 140) dX12_orders_203 (by decide) ?_
        exact ih (k + 1) s2 _ _ _ (by omega) (by omega) hO2 (Or.inr ⟨_, rfl⟩) hb hg
    rcases hls with e | ⟨z, e⟩
    · subst e
      refine V_iload_n (pc := 140) dX12_orders_140 rfl ?_
      refine V_aload_n (pc := 141) dX12_orders_141 rfl ?_
      refine V_getIE (pc := 142) 12 21 dX12_orders_142 flX12_404 (by decide) h12.o (h21) ?_
      refine V_icmp_geN (pc := 145) (tgt := 206) dX12_orders_145 (by decide) (by omega) (by omega) (fun c145 => absurd c145 (by omega)) (fun n145 => ?_)
      refine V_iconst (pc := 148) (v := nI 0) dX12_orders_148 (by decide) ?_
      refine V_istore_n (pc := 149) (ls' := [(0, _), (1, _), (2, _), (3, _)]) dX12_orders_149 (by decide) rfl ?_
      exact inner
    · subst e
      refine V_iload_n (pc := 140) dX12_orders_140 rfl ?_
      refine V_aload_n (pc := 141) dX12_orders_141 rfl ?_
      refine V_getIE (pc := 142) 12 21 dX12_orders_142 flX12_404 (by decide) h12.o (h21) ?_
      refine V_icmp_geN (pc := 145) (tgt := 206) dX12_orders_145 (by decide) (by omega) (by omega) (fun c145 => absurd c145 (by omega)) (fun n145 => ?_)
      refine V_iconst (pc := 148) (v := nI 0) dX12_orders_148 (by decide) ?_
      refine V_istore_n (pc := 149) (ls' := [(0, _), (1, _), (2, _), (3, _)]) dX12_orders_149 (by decide) rfl ?_
      exact inner
end RH
