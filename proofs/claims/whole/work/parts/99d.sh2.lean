/-! THE CLASS: shares -/
theorem bn3_in {y : Int32} (h1 : ¬ y < nI 1) (h2 : ¬ nI 3 < y) : bn3 y = true := by
  unfold bn3
  apply decide_eq_true
  have h3 := Int32.le_iff_toInt_le.mp (Int32.not_lt.mp h1)
  have h4 := Int32.le_iff_toInt_le.mp (Int32.not_lt.mp h2)
  rw [nI_toInt (by decide)] at h3 h4
  omega
theorem bn3_out {y : Int32} (h : y < nI 1 ∨ nI 3 < y) : bn3 y = false := by
  unfold bn3
  apply decide_eq_false
  intro z
  rcases h with h | h
  · have h3 := Int32.lt_iff_toInt_lt.mp h
    rw [nI_toInt (by decide)] at h3
    omega
  · have h3 := Int32.lt_iff_toInt_lt.mp h
    rw [nI_toInt (by decide)] at h3
    omega
theorem shs_okC (v : Nat → Nat) : ∀ c, (shs v c).2 ≤ c ∧ (0 < c → (shs v c).2 < c)
  | 0 => ⟨Nat.le_refl _, fun h => absurd h (Nat.lt_irrefl _)⟩
  | c + 1 => by
    have h := shs_okC v c
    unfold shs
    split
    · exact ⟨by show c ≤ c + 1; omega, fun _ => by show c < c + 1; omega⟩
    · exact ⟨by omega, fun _ => by omega⟩
theorem shs_le {v : Nat → Nat} {m : Nat} (hv : ∀ c, v c ≤ m) : ∀ c, (shs v c).1 ≤ m + 1
  | 0 => Nat.zero_le _
  | c + 1 => by
    have h := shs_le hv c
    have h2 := hv c
    unfold shs
    split
    · show v c + 1 ≤ m + 1; omega
    · exact h
theorem pow_729 {k n : Nat} (hk : k ≤ 3) (hn : n ≤ 6) : k ^ n ≤ 729 := Nat.le_trans (Nat.pow_le_pow_left hk n) (Nat.pow_le_pow_right (by decide) hn)
theorem pred_bnd {y n : Nat} (h0 : 0 < y) (hy : y < 2 ^ 31) : bnd (nI y - nI 1) n = decide (y ≤ n) := by
  obtain ⟨m, rfl⟩ : ∃ m, y = m + 1 := ⟨y - 1, by omega⟩
  rw [pk_sub (by omega), Nat.add_sub_cancel, bnd_nI (by omega)]
  apply decide_eq_decide.mpr
  omega
section CW
variable {E : EnT} {S : ST} {I : IT} {L : LT} {B : Nat} {A : AT}
theorem tl_shC (h11 : Lay11 E S B) (hA : wfA A) (hv : VlM I (B + 36 + 1) (aq A)) {k y rows m f : Nat} {w7 : Int32} (hk : 0 < k ∧ k ≤ 3) (hy : y ≤ aq A 0) (hf : f < 1000) {post : Option Value → ST → IT → LT → Prop} (hpp : ∀ I', (∀ x, x ≠ B + 20 → I' x = I x) → post (some (.int (if y = 0 then pred1 m else nI (f / k ^ (aq A 0 - y) % k)))) S I' L) : V E kX11_shares (rmOf 5 0 0) (QM E post 0 0) 0 0 S I L 126 [(0, .ref B), (1, .int (nI k)), (2, .int (nI y)), (3, .int (nI (aq A 0))), (4, .int (nI rows)), (5, .int (pred1 m)), (6, .int (nI f)), (7, .int w7)] [] := by
  have hnb := hA.q.nb
  by_cases y0 : y = 0
  · rw [if_pos y0] at hpp
    refine V_aload_n (pc := 126) dX11_shares_126 rfl ?_
    refine V_iload (pc := 127) dX11_shares_127 rfl ?_
    refine V_iload_n (pc := 129) dX11_shares_129 rfl ?_
    refine V_callV (pc := 130) (ci := 11) (c_X11_writeShareRow h11 hv hA hf hk) dX11_shares_130 mlX11_359 mkX11_writeShareRow rfl rfl h11.o ⟨by decide, rfl⟩ ⟨Nat.le_of_ble_eq_true rfl, Nat.le_of_ble_eq_true rfl⟩ (Nat.le_of_ble_eq_true rfl) ⟨Nat.le_of_ble_eq_true rfl, Nat.le_of_ble_eq_true rfl⟩ (fun r S' I' L' hp => ?_)
    obtain ⟨rfl, rfl, rfl, hF, hs⟩ := hp
    refine V_iload_n (pc := 133) dX11_shares_133 rfl ?_
    refine V_if_neN (pc := 134) (tgt := 142) dX11_shares_134 (by decide) (by omega) (fun c134 => absurd c134 (by omega)) (fun n134 => ?_)
    refine V_iload (pc := 137) dX11_shares_137 rfl ?_
    refine V_goto (pc := 139) (tgt := 150) dX11_shares_139 (by decide) ?_
    refine V_iret (pc := 150) dX11_shares_150 rfl (by first | decide | omega) (by first | decide | omega) ?_
    exact hpp _ hF
  · rw [if_neg y0] at hpp
    refine V_aload_n (pc := 126) dX11_shares_126 rfl ?_
    refine V_iload (pc := 127) dX11_shares_127 rfl ?_
    refine V_iload_n (pc := 129) dX11_shares_129 rfl ?_
    refine V_callV (pc := 130) (ci := 11) (c_X11_writeShareRow h11 hv hA hf hk) dX11_shares_130 mlX11_359 mkX11_writeShareRow rfl rfl h11.o ⟨by decide, rfl⟩ ⟨Nat.le_of_ble_eq_true rfl, Nat.le_of_ble_eq_true rfl⟩ (Nat.le_of_ble_eq_true rfl) ⟨Nat.le_of_ble_eq_true rfl, Nat.le_of_ble_eq_true rfl⟩ (fun r S' I' L' hp => ?_)
    obtain ⟨rfl, rfl, rfl, hF, hs⟩ := hp
    refine V_iload_n (pc := 133) dX11_shares_133 rfl ?_
    refine V_if_neN (pc := 134) (tgt := 142) dX11_shares_134 (by decide) (by omega) (fun c134 => ?_) (fun n134 => absurd n134 (by omega))
    refine V_aload_n (pc := 142) dX11_shares_142 rfl ?_
    refine V_getR (pc := 143) 11 17 dX11_shares_143 flX11_60 (by decide) h11.o h11.R17 ?_
    refine V_iload_n (pc := 146) dX11_shares_146 rfl ?_
    refine V_iconst (pc := 147) (v := nI 1) dX11_shares_147 (by decide) ?_
    refine V_isubN (pc := 148) dX11_shares_148 (by omega) ?_
    refine V_ialoadE (pc := 149) dX11_shares_149 h11.A17 (by first | decide | omega) (by omega) ((hs (y - 1) (by omega)).trans (by rw [show aq A 0 - 1 - (y - 1) = aq A 0 - y by omega])) ?_
    refine V_iret (pc := 150) dX11_shares_150 rfl (by first | decide | omega) (by first | decide | omega) ?_
    exact hpp _ hF
theorem lp_shC (h11 : Lay11 E S B) (hA : wfA A) {w : Nat → Nat} (hw : ∀ b, w b ≤ 60) {I0 : IT} (hv : VlM I0 (B + 36 + 1) (aq A)) (hl : ∀ b, b < aq A 0 → I0 (B + 19) b = nI (w b)) {k y : Nat} (hk : 0 < k ∧ k ≤ 3) (hy : y ≤ aq A 0) {post : Option Value → ST → IT → LT → Prop} (hpp : ∀ I', (∀ x, x ≠ B + 20 → I' x = I0 x) → post (some (.int (if y = 0 then pred1 (shs (lea w k (aq A 0)) (k ^ aq A 0)).1 else nI ((shs (lea w k (aq A 0)) (k ^ aq A 0)).2 / k ^ (aq A 0 - y) % k)))) S I' L) : ∀ c, c ≤ k ^ aq A 0 → ∀ J, (∀ x, x ≠ B + 20 → J x = I0 x) → V E kX11_shares (rmOf 5 0 0) (QM E post 0 0) 0 0 S J L 84 [(0, .ref B), (1, .int (nI k)), (2, .int (nI y)), (3, .int (nI (aq A 0))), (4, .int (nI (k ^ aq A 0))), (5, .int (pred1 (shs (lea w k (aq A 0)) c).1)), (6, .int (nI (shs (lea w k (aq A 0)) c).2)), (7, .int (nI c))] [] := by
  have hnb := hA.q.nb
  have hpw : k ^ aq A 0 ≤ 729 := pow_729 hk.2 (by omega)
  have hle : ∀ c, lea w k (aq A 0) c ≤ 360 := fun c => by
    rw [← mnk_lea hw hk (by omega)]
    have h1 := hsx_le hw k (aq A 0) c 0 (aq A 0)
    have key : ∀ j, 0 < j → mnk (fun j => hsx w k (aq A 0) c j (aq A 0)) j ≤ hsx w k (aq A 0) c 0 (aq A 0) := by
      intro j
      induction j with
      | zero => intro h; omega
      | succ j ih =>
        intro _
        show min (mnk _ j) _ ≤ _
        by_cases z : j = 0
        · subst z; exact Nat.min_le_right _ _
        · exact Nat.le_trans (Nat.min_le_left _ _) (ih (by omega))
    have := key k hk.1
    omega
  refine loopUp (n := k ^ aq A 0) (P := fun c => ∀ J, (∀ x, x ≠ B + 20 → J x = I0 x) → V E kX11_shares (rmOf 5 0 0) (QM E post 0 0) 0 0 S J L 84 [(0, .ref B), (1, .int (nI k)), (2, .int (nI y)), (3, .int (nI (aq A 0))), (4, .int (nI (k ^ aq A 0))), (5, .int (pred1 (shs (lea w k (aq A 0)) c).1)), (6, .int (nI (shs (lea w k (aq A 0)) c).2)), (7, .int (nI c))] []) ?_ ?_
  · intro J hF
    have hs2 := (shs_okC (lea w k (aq A 0)) (k ^ aq A 0)).1
    refine V_iload (pc := 84) dX11_shares_84 rfl ?_
    refine V_iload (pc := 86) dX11_shares_86 rfl ?_
    refine V_icmp_geN (pc := 88) (tgt := 126) dX11_shares_88 (by decide) (by omega) (by omega) (fun c88 => ?_) (fun n88 => absurd n88 (by omega))
    exact tl_shC h11 hA (hv.cg fun x a1 a2 => hF x (by omega)) hk hy (by omega) (fun I' hF' => hpp I' (fun x hx => (hF' x hx).trans (hF x hx)))
  · intro c hc ih J hF
    have hvJ : VlM J (B + 36 + 1) (aq A) := hv.cg fun x a1 a2 => hF x (by omega)
    have h1 := hle c
    have h2 := shs_le hle c
    have es : shs (lea w k (aq A 0)) (c + 1) = if (shs (lea w k (aq A 0)) c).1 < lea w k (aq A 0) c + 1 then (lea w k (aq A 0) c + 1, c) else shs (lea w k (aq A 0)) c := rfl
    rw [es] at ih
    refine V_iload (pc := 84) dX11_shares_84 rfl ?_
    refine V_iload (pc := 86) dX11_shares_86 rfl ?_
    refine V_icmp_geN (pc := 88) (tgt := 126) dX11_shares_88 (by decide) (by omega) (by omega) (fun c88 => absurd c88 (by omega)) (fun n88 => ?_)
    refine V_aload_n (pc := 91) dX11_shares_91 rfl ?_
    refine V_iload (pc := 92) dX11_shares_92 rfl ?_
    refine V_iload_n (pc := 94) dX11_shares_94 rfl ?_
    refine V_callV (pc := 95) (ci := 11) (c_X11_writeShareRow h11 hvJ hA (by omega) hk) dX11_shares_95 mlX11_359 mkX11_writeShareRow rfl rfl h11.o ⟨by decide, rfl⟩ ⟨Nat.le_of_ble_eq_true rfl, Nat.le_of_ble_eq_true rfl⟩ (Nat.le_of_ble_eq_true rfl) ⟨Nat.le_of_ble_eq_true rfl, Nat.le_of_ble_eq_true rfl⟩ (fun r S' I' L' hp => ?_)
    obtain ⟨rfl, rfl, rfl, hF2, hs⟩ := hp
    have hv2 : VlM I' (B + 36 + 1) (aq A) := hvJ.cg fun x a1 a2 => hF2 x (by omega)
    refine V_aload_n (pc := 98) dX11_shares_98 rfl ?_
    refine V_iload_n (pc := 99) dX11_shares_99 rfl ?_
    refine V_callVd (pc := 100) (ci := 11) (c_X11_leastShare h11 hv2 hA hw hk (fun b hb => by rw [hF2 _ (by omega), hF _ (by omega)]; exact hl b hb) hs) dX11_shares_100 mlX11_362 mkX11_leastShare rfl rfl h11.o ⟨by decide, rfl⟩ ⟨Nat.le_of_ble_eq_true rfl, Nat.le_of_ble_eq_true rfl⟩ (Nat.le_of_ble_eq_true rfl) ⟨Nat.le_of_ble_eq_true rfl, Nat.le_of_ble_eq_true rfl⟩ ?_
    refine V_istore (pc := 103) (ls' := [(0, _), (1, _), (2, _), (3, _), (4, _), (5, _), (6, _), (7, _), (8, _)]) dX11_shares_103 (by decide) rfl ?_
    refine V_iload (pc := 105) dX11_shares_105 rfl ?_
    refine V_iload (pc := 107) dX11_shares_107 rfl ?_
    refine V_icmp_le (pc := 109) (tgt := 120) dX11_shares_109 (by decide) (fun c109 => ?_) (fun n109 => ?_)
    · skip
      try rw [if_neg (show ¬ (shs (lea w k (aq A 0)) c).1 < lea w k (aq A 0) c + 1 from fun z => by have := (pred1_le (by omega) (by omega)).mp c109; omega)] at ih
      refine V_loc [0, 1, 2, 3, 4, 5, 6, 7] rfl ?_
      refine V_iinc1 (pc := 120) (ls' := [(0, _), (1, _), (2, _), (3, _), (4, _), (5, _), (6, _), (7, _)]) dX11_shares_120 rfl (by decide) rfl ?_
      refine V_goto (pc := 123) (tgt := 84) dX11_shares_123 (by decide) ?_
      exact ih _ (fun x hx => (hF2 x hx).trans (hF x hx))
    · skip
      have h9 : ¬ lea w k (aq A 0) c + 1 ≤ (shs (lea w k (aq A 0)) c).1 := fun z => n109 ((pred1_le (by omega) (by omega)).mpr z)
      rw [if_pos (show (shs (lea w k (aq A 0)) c).1 < lea w k (aq A 0) c + 1 by omega), pred1_s] at ih
      refine V_iload (pc := 112) dX11_shares_112 rfl ?_
      refine V_istore (pc := 114) (ls' := [(0, _), (1, _), (2, _), (3, _), (4, _), (5, _), (6, _), (7, _), (8, _)]) dX11_shares_114 (by decide) rfl ?_
      refine V_iload (pc := 116) dX11_shares_116 rfl ?_
      refine V_istore (pc := 118) (ls' := [(0, _), (1, _), (2, _), (3, _), (4, _), (5, _), (6, _), (7, _), (8, _)]) dX11_shares_118 (by decide) rfl ?_
      try rw [if_neg (show ¬ (shs (lea w k (aq A 0)) c).1 < lea w k (aq A 0) c + 1 from fun z => by have := (pred1_le (by omega) (by omega)).mp c109; omega)] at ih
      refine V_loc [0, 1, 2, 3, 4, 5, 6, 7] rfl ?_
      refine V_iinc1 (pc := 120) (ls' := [(0, _), (1, _), (2, _), (3, _), (4, _), (5, _), (6, _), (7, _)]) dX11_shares_120 rfl (by decide) rfl ?_
      refine V_goto (pc := 123) (tgt := 84) dX11_shares_123 (by decide) ?_
      exact ih _ (fun x hx => (hF2 x hx).trans (hF x hx))
theorem c_X11_shares (h11 : Lay11 E S B) (hR : CR E S B I A) (hA : wfA A) {x y : Int32} : Cc E kX11_shares 5 [.ref B, .int x, .int y] S I L B (.int (spShares A x y)) A := by
  have hq := hA.q
  have hnb := hq.nb
  refine C_of (by decide) (Nat.le_of_ble_eq_true rfl) ?_
  have go : ∀ k, 0 < k → k ≤ 3 → ∀ z, z ≤ aq A 0 → V E kX11_shares (rmOf 5 0 0) (QM E (fun r S' I' L' => r = some (.int (if z = 0 then pred1 (shs (lea (fun b => lst (lwf A) (aq A) b) k (aq A 0)) (k ^ aq A 0)).1 else nI ((shs (lea (fun b => lst (lwf A) (aq A) b) k (aq A 0)) (k ^ aq A 0)).2 / k ^ (aq A 0 - z) % k))) ∧ S = S' ∧ CR E S B I' A ∧ FrC B I' I L' L) 0 0) 0 0 S I L 36 [(0, .ref B), (1, .int (nI k)), (2, .int (nI z))] [] := by
    intro k hk0 hk3 z hz
    have hpw : ∀ n, n ≤ 6 → k ^ n ≤ 729 := fun n hn => pow_729 hk3 hn
    refine V_aload_n (pc := 36) dX11_shares_36 rfl ?_
    refine V_callV (pc := 37) (ci := 11) (c_X11_gatherLasting h11 hR hA) dX11_shares_37 mlX11_356 mkX11_gatherLasting rfl rfl h11.o ⟨by decide, rfl⟩ ⟨Nat.le_of_ble_eq_true rfl, Nat.le_of_ble_eq_true rfl⟩ (Nat.le_of_ble_eq_true rfl) ⟨Nat.le_of_ble_eq_true rfl, Nat.le_of_ble_eq_true rfl⟩ (fun r S' I' L' hp => ?_)
    obtain ⟨rfl, rfl, rfl, hF, hl⟩ := hp
    have hD : DdC B I' I := DdC.of fun x hx => hF x (by unfold lvC at hx; omega) (by unfold lvC at hx; omega) (by unfold lvC at hx; omega)
    have hRJ := hR.dd hD
    refine V_aload_n (pc := 40) dX11_shares_40 rfl ?_
    refine V_getR (pc := 41) 11 0 dX11_shares_41 flX11_91 (by decide) h11.o h11.R0 ?_
    refine V_getR (pc := 44) 10 0 dX11_shares_44 flX11_116 (by decide) h11.O0.o h11.O0.R0 ?_
    refine V_getIE (pc := 47) 9 0 dX11_shares_47 flX11_120 (by decide) h11.O0.O0.o (hRJ.1.1.1) ?_
    refine V_istore_n (pc := 50) (ls' := [(0, _), (1, _), (2, _), (3, _)]) dX11_shares_50 (by decide) rfl ?_
    refine V_iconst (pc := 51) (v := nI 1) dX11_shares_51 (by decide) ?_
    refine V_istore (pc := 52) (ls' := [(0, _), (1, _), (2, _), (3, _), (4, _)]) dX11_shares_52 (by decide) rfl ?_
    refine V_iconst (pc := 54) (v := nI 0) dX11_shares_54 (by decide) ?_
    refine V_istore (pc := 55) (ls' := [(0, _), (1, _), (2, _), (3, _), (4, _), (5, _)]) dX11_shares_55 (by decide) rfl ?_
    refine loopUp (n := aq A 0) (P := fun n => V E kX11_shares (rmOf 5 0 0) (QM E (fun r S' I' L' => r = some (.int (if z = 0 then pred1 (shs (lea (fun b => lst (lwf A) (aq A) b) k (aq A 0)) (k ^ aq A 0)).1 else nI ((shs (lea (fun b => lst (lwf A) (aq A) b) k (aq A 0)) (k ^ aq A 0)).2 / k ^ (aq A 0 - z) % k))) ∧ S = S' ∧ CR E S B I' A ∧ FrC B I' I L' L) 0 0) 0 0 S I' L 57 [(0, .ref B), (1, .int (nI k)), (2, .int (nI z)), (3, .int (nI (aq A 0))), (4, .int (nI (k ^ n))), (5, .int (nI n))] []) ?_ ?_ 0 (by omega)
    · skip
      refine V_iload (pc := 57) dX11_shares_57 rfl ?_
      refine V_iload_n (pc := 59) dX11_shares_59 rfl ?_
      refine V_icmp_geN (pc := 60) (tgt := 75) dX11_shares_60 (by decide) (by omega) (by omega) (fun c60 => ?_) (fun n60 => absurd n60 (by omega))
      refine V_iconst (pc := 75) (v := (-1)) dX11_shares_75 (by decide) ?_
      refine V_istore (pc := 76) (ls' := [(0, _), (1, _), (2, _), (3, _), (4, _), (5, _)]) dX11_shares_76 (by decide) rfl ?_
      refine V_iconst (pc := 78) (v := nI 0) dX11_shares_78 (by decide) ?_
      refine V_istore (pc := 79) (ls' := [(0, _), (1, _), (2, _), (3, _), (4, _), (5, _), (6, _)]) dX11_shares_79 (by decide) rfl ?_
      refine V_iconst (pc := 81) (v := nI 0) dX11_shares_81 (by decide) ?_
      refine V_istore (pc := 82) (ls' := [(0, _), (1, _), (2, _), (3, _), (4, _), (5, _), (6, _), (7, _)]) dX11_shares_82 (by decide) rfl ?_
      refine lp_shC (w := fun b => lst (lwf A) (aq A) b) (I0 := I') h11 hA (fun b => clampN_le _ _) hRJ.1.1 hl ⟨hk0, hk3⟩ hz (fun J hJ => ⟨rfl, rfl, ?_, ?_⟩) 0 (Nat.zero_le _) I' (fun _ _ => rfl)
      · exact hRJ.dd (DdC.of fun x hx => hJ x (by unfold lvC at hx; omega))
      · exact fun x hx => ⟨(hJ x (by omega)).trans (hF x (by omega) (by omega) (by omega)), rfl⟩
    · intro n hn ih
      have h1 := hpw n (by omega)
      rw [Nat.pow_succ] at ih
      refine V_iload (pc := 57) dX11_shares_57 rfl ?_
      refine V_iload_n (pc := 59) dX11_shares_59 rfl ?_
      refine V_icmp_geN (pc := 60) (tgt := 75) dX11_shares_60 (by decide) (by omega) (by omega) (fun c60 => absurd c60 (by omega)) (fun n60 => ?_)
      refine V_iload (pc := 63) dX11_shares_63 rfl ?_
      refine V_iload_n (pc := 65) dX11_shares_65 rfl ?_
      refine V_imulN (pc := 66) dX11_shares_66 ?_
      refine V_istore (pc := 67) (ls' := [(0, _), (1, _), (2, _), (3, _), (4, _), (5, _)]) dX11_shares_67 (by decide) rfl ?_
      refine V_iinc1 (pc := 69) (ls' := [(0, _), (1, _), (2, _), (3, _), (4, _), (5, _)]) dX11_shares_69 rfl (by decide) rfl ?_
      refine V_goto (pc := 72) (tgt := 57) dX11_shares_72 (by decide) ?_
      exact ih
  refine V_iload_n (pc := 0) dX11_shares_0 rfl ?_
  refine V_iconst (pc := 1) (v := nI 1) dX11_shares_1 (by decide) ?_
  refine V_icmp_lt (pc := 2) (tgt := 34) dX11_shares_2 (by decide) (fun c2 => ?_) (fun n2 => ?_)
  · skip
    refine V_iconst (pc := 34) (v := (-1)) dX11_shares_34 (by decide) ?_
    refine V_iret (pc := 35) dX11_shares_35 rfl (by first | decide | omega) (by first | decide | omega) ?_
    first
    | (rw [spShares, if_neg (fun u => by rw [bn3_out (Or.inl c2)] at u; exact absurd u.1 (by decide))]; exact ⟨rfl, rfl, hR, FrC.rf⟩)
    | (rw [spShares, if_neg (fun u => by rw [bn3_out (Or.inr c7)] at u; exact absurd u.1 (by decide))]; exact ⟨rfl, rfl, hR, FrC.rf⟩)
    | (rw [spShares, if_neg (fun u => by rw [bnd_lo c11] at u; exact absurd u.2 (by decide))]; exact ⟨rfl, rfl, hR, FrC.rf⟩)
    | (rw [spShares, if_neg (fun u => by
         obtain ⟨z, hz, rfl⟩ := bnd_ex (by omega) u.2
         have z0 : 0 < z := Nat.pos_of_ne_zero (fun w => n15 (by rw [w]; decide))
         rw [pred_bnd z0 (by omega), decide_eq_true (by omega)] at n31
         exact absurd n31 (by decide))]; exact ⟨rfl, rfl, hR, FrC.rf⟩)
    | fail
  · skip
    refine V_iload_n (pc := 5) dX11_shares_5 rfl ?_
    refine V_iconst (pc := 6) (v := nI 3) dX11_shares_6 (by decide) ?_
    refine V_icmp_gt (pc := 7) (tgt := 34) dX11_shares_7 (by decide) (fun c7 => ?_) (fun n7 => ?_)
    · skip
      refine V_iconst (pc := 34) (v := (-1)) dX11_shares_34 (by decide) ?_
      refine V_iret (pc := 35) dX11_shares_35 rfl (by first | decide | omega) (by first | decide | omega) ?_
      first
      | (rw [spShares, if_neg (fun u => by rw [bn3_out (Or.inl c2)] at u; exact absurd u.1 (by decide))]; exact ⟨rfl, rfl, hR, FrC.rf⟩)
      | (rw [spShares, if_neg (fun u => by rw [bn3_out (Or.inr c7)] at u; exact absurd u.1 (by decide))]; exact ⟨rfl, rfl, hR, FrC.rf⟩)
      | (rw [spShares, if_neg (fun u => by rw [bnd_lo c11] at u; exact absurd u.2 (by decide))]; exact ⟨rfl, rfl, hR, FrC.rf⟩)
      | (rw [spShares, if_neg (fun u => by
           obtain ⟨z, hz, rfl⟩ := bnd_ex (by omega) u.2
           have z0 : 0 < z := Nat.pos_of_ne_zero (fun w => n15 (by rw [w]; decide))
           rw [pred_bnd z0 (by omega), decide_eq_true (by omega)] at n31
           exact absurd n31 (by decide))]; exact ⟨rfl, rfl, hR, FrC.rf⟩)
      | fail
    · skip
      have hb1 : bn3 x = true := bn3_in n2 n7
      obtain ⟨k, hk0, hk3, hx⟩ := bn3_ex hb1
      subst hx
      refine V_iload_n (pc := 10) dX11_shares_10 rfl ?_
      refine V_if_lt (pc := 11) (tgt := 34) dX11_shares_11 (by decide) (fun c11 => ?_) (fun n11 => ?_)
      · skip
        refine V_iconst (pc := 34) (v := (-1)) dX11_shares_34 (by decide) ?_
        refine V_iret (pc := 35) dX11_shares_35 rfl (by first | decide | omega) (by first | decide | omega) ?_
        first
        | (rw [spShares, if_neg (fun u => by rw [bn3_out (Or.inl c2)] at u; exact absurd u.1 (by decide))]; exact ⟨rfl, rfl, hR, FrC.rf⟩)
        | (rw [spShares, if_neg (fun u => by rw [bn3_out (Or.inr c7)] at u; exact absurd u.1 (by decide))]; exact ⟨rfl, rfl, hR, FrC.rf⟩)
        | (rw [spShares, if_neg (fun u => by rw [bnd_lo c11] at u; exact absurd u.2 (by decide))]; exact ⟨rfl, rfl, hR, FrC.rf⟩)
        | (rw [spShares, if_neg (fun u => by
             obtain ⟨z, hz, rfl⟩ := bnd_ex (by omega) u.2
             have z0 : 0 < z := Nat.pos_of_ne_zero (fun w => n15 (by rw [w]; decide))
             rw [pred_bnd z0 (by omega), decide_eq_true (by omega)] at n31
             exact absurd n31 (by decide))]; exact ⟨rfl, rfl, hR, FrC.rf⟩)
        | fail
      · skip
        refine V_iload_n (pc := 14) dX11_shares_14 rfl ?_
        refine V_if_le (pc := 15) (tgt := 36) dX11_shares_15 (by decide) (fun c15 => ?_) (fun n15 => ?_)
        · skip
          first
          | (have hy0 : y = nI 0 := by
               have h1 := Int32.not_lt.mp n11
               exact Int32.le_antisymm c15 h1
             subst hy0
             rw [spShares, if_pos ⟨hb1, bnd_lt (by omega) (by omega)⟩, cln_nI (by omega), cln_nI (by omega)]
             exact go k hk0 hk3 0 (by omega))
          | (obtain ⟨m, hm, hy⟩ := bnd_ex (by omega) c31
             have hy2 : y = nI (m + 1) := by rw [← nI_add, ← hy, Int32.sub_add_cancel]
             subst hy2
             rw [spShares, if_pos ⟨hb1, bnd_lt (by omega) (by omega)⟩, cln_nI (by omega), cln_nI (by omega)]
             exact go k hk0 hk3 (m + 1) (by omega))
          | fail
        · skip
          refine V_aload_n (pc := 18) dX11_shares_18 rfl ?_
          refine V_getR (pc := 19) 11 0 dX11_shares_19 flX11_91 (by decide) h11.o h11.R0 ?_
          refine V_getR (pc := 22) 10 0 dX11_shares_22 flX11_116 (by decide) h11.O0.o h11.O0.R0 ?_
          refine V_iload_n (pc := 25) dX11_shares_25 rfl ?_
          refine V_iconst (pc := 26) (v := nI 1) dX11_shares_26 (by decide) ?_
          refine V_isub (pc := 27) dX11_shares_27 ?_
          refine V_callVd (pc := 28) (ci := 9) (c_X9_hasBox h11.O0.O0 hR.1.1 hq) dX11_shares_28 mlX11_140 mkX9_hasBox rfl rfl h11.O0.O0.o ⟨by decide, rfl⟩ ⟨Nat.le_of_ble_eq_true rfl, Nat.le_of_ble_eq_true rfl⟩ (Nat.le_of_ble_eq_true rfl) ⟨Nat.le_of_ble_eq_true rfl, Nat.le_of_ble_eq_true rfl⟩ ?_
          refine V_if_neB (pc := 31) (tgt := 36) dX11_shares_31 (by decide) (fun c31 => ?_) (fun n31 => ?_)
          · skip
            first
            | (have hy0 : y = nI 0 := by
                 have h1 := Int32.not_lt.mp n11
                 exact Int32.le_antisymm c15 h1
               subst hy0
               rw [spShares, if_pos ⟨hb1, bnd_lt (by omega) (by omega)⟩, cln_nI (by omega), cln_nI (by omega)]
               exact go k hk0 hk3 0 (by omega))
            | (obtain ⟨m, hm, hy⟩ := bnd_ex (by omega) c31
               have hy2 : y = nI (m + 1) := by rw [← nI_add, ← hy, Int32.sub_add_cancel]
               subst hy2
               rw [spShares, if_pos ⟨hb1, bnd_lt (by omega) (by omega)⟩, cln_nI (by omega), cln_nI (by omega)]
               exact go k hk0 hk3 (m + 1) (by omega))
            | fail
          · skip
            refine V_iconst (pc := 34) (v := (-1)) dX11_shares_34 (by decide) ?_
            refine V_iret (pc := 35) dX11_shares_35 rfl (by first | decide | omega) (by first | decide | omega) ?_
            first
            | (rw [spShares, if_neg (fun u => by rw [bn3_out (Or.inl c2)] at u; exact absurd u.1 (by decide))]; exact ⟨rfl, rfl, hR, FrC.rf⟩)
            | (rw [spShares, if_neg (fun u => by rw [bn3_out (Or.inr c7)] at u; exact absurd u.1 (by decide))]; exact ⟨rfl, rfl, hR, FrC.rf⟩)
            | (rw [spShares, if_neg (fun u => by rw [bnd_lo c11] at u; exact absurd u.2 (by decide))]; exact ⟨rfl, rfl, hR, FrC.rf⟩)
            | (rw [spShares, if_neg (fun u => by
                 obtain ⟨z, hz, rfl⟩ := bnd_ex (by omega) u.2
                 have z0 : 0 < z := Nat.pos_of_ne_zero (fun w => n15 (by rw [w]; decide))
                 rw [pred_bnd z0 (by omega), decide_eq_true (by omega)] at n31
                 exact absurd n31 (by decide))]; exact ⟨rfl, rfl, hR, FrC.rf⟩)
            | fail
end CW
