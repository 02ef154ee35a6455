/-! THE LAW: its beginning -/
def Sz : ST := (0, fun _ => (0, 0), fun _ _ => none)
def Iz : IT := fun _ _ => 0
def Lz : LT := fun _ _ => 0
section LB
variable {E : EnT} {b n : Nat} {xs : Nat → Int32}
theorem BL_z : BL E Sz Iz Lz := fun _ _ _ => ⟨rfl, rfl, rfl⟩
theorem lw_begin (hn : n ≤ 3072) : V E kL_law room_1 (QL E b n xs) 0 0 Sz Iz Lz 0 [(0, .ref b)] [] := by
  have hf : frsh E Sz Iz Lz := BL_z.fr
  have hC := c_X11_init (S := psh E Sz 11 0) (B := eB E + Sz.1) isO_psh rfl (BL_z (E := E)).pu
  refine V_new (pc := 0) 11 dL_law_0 clL_7 it11 iz11 (by decide) (by decide) (by assumption) (by first | decide | omega) (by first | decide | omega) ?_
  refine V_dup (pc := 3) dL_law_3 rfl ?_
  refine V_callI (pc := 4) hC dL_law_4 mlL_9 mkX11_init rfl rfl ⟨Nat.le_of_ble_eq_true rfl, Nat.le_of_ble_eq_true rfl⟩ (Nat.le_of_ble_eq_true rfl) ⟨Nat.le_of_ble_eq_true rfl, Nat.le_of_ble_eq_true rfl⟩ (fun r S' I' L' hp => ?_)
  have hp0 := hp
  obtain ⟨rfl, hSt⟩ := hp
  have h11 := hp0.lay isO_psh
  have hcr := hp0.cr
  have hPB := hSt.1
  have hL := hPB.2.2.2.1
  subst hL
  have e1 : S'.1 = 329 := hPB.1
  have hf1 := hPB.2.2.1.fr
  have hC2 := c_X12_init (S := psh E S' 12 0) (o := eB E + S'.1) isO_psh rfl hPB.2.2.1.pu
  refine V_astore_n (pc := 7) (ls' := [(0, _), (1, _)]) dL_law_7 (by decide) rfl ?_
  skip
  rename IT => J
  rename ST => U
  refine V_new (pc := 8) 12 dL_law_8 clL_10 it12 iz12 (by decide) (by decide) (by assumption) (by first | decide | omega) (by first | decide | omega) ?_
  refine V_dup (pc := 11) dL_law_11 rfl ?_
  refine V_callI (pc := 12) hC2 dL_law_12 mlL_12 mkX12_init rfl rfl ⟨Nat.le_of_ble_eq_true rfl, Nat.le_of_ble_eq_true rfl⟩ (Nat.le_of_ble_eq_true rfl) ⟨Nat.le_of_ble_eq_true rfl, Nat.le_of_ble_eq_true rfl⟩ (fun r S' I' L' hp => ?_)
  have hq0 := hp
  obtain ⟨rfl, hCA, h12, hI2, hL2⟩ := hp
  have hM := P112.mr hq0 (fun q hq j => (hPB.2.2.1 q hq j).1)
  refine V_astore_n (pc := 15) (ls' := [(0, _), (1, _), (2, _)]) dL_law_15 (by decide) rfl ?_
  refine V_iconst (pc := 16) (v := nI 0) dL_law_16 (by decide) ?_
  refine V_istore_n (pc := 17) (ls' := [(0, _), (1, _), (2, _), (3, _)]) dL_law_17 (by decide) rfl ?_
  skip
  have e2 : S'.1 = U.1 + 1 + 35 := hCA.1
  have eo : eB E + U.1 = eB E + Sz.1 + 329 := by rw [e1]; rfl
  have hI : ∀ x, x < eB E + U.1 → I' x = J x := fun x hx => by rw [hI2, up2_row (by omega), up2_row (by omega), up2_row (by omega), up2_row (by omega), up2_row (by omega)]
  have hE : Ext E U S' (fun _ => True) := Ext.tn Ext.pu hCA.2.1 (fun z => by have := z.2; omega)
  have hEn : Ext E U S' (NT (eB E + Sz.1)) := hE.wk fun _ _ => trivial
  have hR2 : CR E S' (eB E + Sz.1) I' A0 := hcr.gr (v := -1) hEn (fun g hg => (hE (g + 13) ⟨by omega, by omega⟩).2.2 trivial) (by omega) (fun x hx => hI x (by omega)) (by rw [hI _ (by omega)]; exact hcr.2.2.2.2.2.1.2.1)
  rw [eo] at h12 hM ⊢
  exact lw_loop hn 512 0 S' I' L' A0 _ _ (by omega) (by omega) ⟨h11.nt hEn, h12, hR2, hM, wfA_0, hCA.2.2.1, by omega⟩ (by decide) (by decide)
end LB
