/-! CONSTRUCTOR of the class (gen_init11.py) -/
section NV
variable {E : EnT} {S S0 S1 S2 : ST} {I I0 I1 I2 : IT} {L L0 L1 L2 : LT} {B k m t n : Nat}
def ob11 (E : EnT) (B : Nat) (S : ST) (I : IT) : Nat → Prop
  | 0 => isA E S (B + 1) 4 2
  | 1 => isA E S (B + 2) 2 2 ∧ ∀ z, I (B + 2) z = 0
  | 2 => Lay4 E S (B + 3)
  | 3 => Lay8 E S (B + 10)
  | 4 => isA E S (B + 16) 0 400
  | 5 => I B 10 = nI 0 ∧ I B 11 = nI 0 ∧ I B 12 = -1 ∧ I B 13 = nI 0
  | 6 => isA E S (B + 17) 0 7 ∧ ∀ z, I (B + 17) z = 0
  | 7 => isA E S (B + 18) 1 21
  | 8 => isA E S (B + 19) 0 6
  | 9 => isA E S (B + 20) 0 6
  | 10 => Lay5 E S (B + 21) ∧ I (B + 21) 12 = nI 0 ∧ I (B + 21) 13 = -1
  | 11 => Lay7 E S (B + 30) 0 0 ∧ I (B + 30) 0 = nI 0
  | 12 => Lay10 E S (B + 36) (B + 30) ∧ VgM I (B + 36) qz ∧ ∀ l, l < 6 → S.2.2 (B + 36 + 13) l = some (B + 30)
  | 13 => Lay10 E S (B + 50) (B + 30) ∧ VgM I (B + 50) qz ∧ ∀ l, l < 6 → S.2.2 (B + 50 + 13) l = some (B + 30)
  | 14 => Lay10 E S (B + 64) (B + 30) ∧ VgM I (B + 64) qz ∧ ∀ l, l < 6 → S.2.2 (B + 64 + 13) l = some (B + 30)
  | 15 => Lay6 E S (B + 78)
  | 16 => Lay3 E S (B + 80) (B + 78)
  | 17 => Lay0 E S (B + 82) (B + 36) (B + 80) (B + 78) ∧ I (B + 83) 0 = nI 0 ∧ I (B + 83) 1 = nI 0
  | 18 => Lay1 E S (B + 321) (B + 36) (B + 80) (B + 78) (B + 82) ∧ VlM I (B + 322) qz
  | _ => True
def NB (B x : Nat) : Prop := x ≠ B ∧ x ≠ B + 1
theorem vg_k {g tt : Nat} (h : Lay10 E S g tt) (hV : VgM I g qz) (hT : ∀ l, l < 6 → S.2.2 (g + 13) l = some tt) (e : Ext E S S2 (NB B)) (hg : B + 2 ≤ g) (hI : ∀ x, B ≤ x → x < eB E + S.1 → I2 x = I x) : Lay10 E S2 g tt ∧ VgM I2 g qz ∧ ∀ l, l < 6 → S2.2.2 (g + 13) l = some tt := by
  have hin := h.A9.1.2
  refine ⟨h.ext e (by unfold NB; omega) (by unfold NB; omega), hV.cg fun a a1 a2 => hI a (by omega) (by omega), fun l hl => ?_⟩
  rw [(e (g + 13) h.A9.1).2.2 (by unfold NB; omega)]; exact hT l hl
theorem ob11_k (hB : B < eB E + S.1) (e : Ext E S S2 (NB B)) (hI : ∀ x, B ≤ x → x < eB E + S.1 → I2 x = I x) : ∀ j, ob11 E B S I j → ob11 E B S2 I2 j := by
  intro j h
  match j, h with
  | 0, h => exact h.ext e
  | 1, h => exact ⟨h.1.ext e, fun z => by rw [hI _ (by omega) h.1.1.2]; exact h.2 z⟩
  | 2, h => exact h.ext e (by unfold NB; omega)
  | 3, h => exact h.ext e (by unfold NB; omega)
  | 4, h => exact h.ext e
  | 5, h => exact ⟨by rw [hI B (Nat.le_refl _) hB]; exact h.1, by rw [hI B (Nat.le_refl _) hB]; exact h.2.1, by rw [hI B (Nat.le_refl _) hB]; exact h.2.2.1, by rw [hI B (Nat.le_refl _) hB]; exact h.2.2.2⟩
  | 6, h => exact ⟨h.1.ext e, fun z => by rw [hI _ (by omega) h.1.1.2]; exact h.2 z⟩
  | 7, h => exact h.ext e
  | 8, h => exact h.ext e
  | 9, h => exact h.ext e
  | 10, h => exact ⟨h.1.ext e (by unfold NB; omega), by rw [hI _ (by omega) h.1.o.1.2]; exact h.2.1, by rw [hI _ (by omega) h.1.o.1.2]; exact h.2.2⟩
  | 11, h => exact ⟨h.1.ext e (by unfold NB; omega), by rw [hI _ (by omega) h.1.o.1.2]; exact h.2⟩
  | 12, h => exact vg_k h.1 h.2.1 h.2.2 e (by omega) hI
  | 13, h => exact vg_k h.1 h.2.1 h.2.2 e (by omega) hI
  | 14, h => exact vg_k h.1 h.2.1 h.2.2 e (by omega) hI
  | 15, h => exact h.ext e (by unfold NB; omega)
  | 16, h => exact h.ext e (by unfold NB; omega) (by unfold NB; omega)
  | 17, h =>
    have hin := h.1.O3.o.1.2
    exact ⟨h.1.ext e (by unfold NB; omega) (by unfold NB; omega) (by unfold NB; omega) (by unfold NB; omega) (by unfold NB; omega) (fun i hi => by unfold NB; omega) (by unfold NB; omega) (by unfold NB; omega) (by unfold NB; omega) (fun i hi => by unfold NB; omega), by rw [hI _ (by omega) hin]; exact h.2.1, by rw [hI _ (by omega) hin]; exact h.2.2⟩
  | 18, h =>
    have hin : B + 321 + 1 + 6 < eB E + S.1 := h.1.2.2.2.2.A6.1.2
    exact ⟨h.1.ext e (by unfold NB; omega) (by unfold NB; omega) (by unfold NB; omega) (by unfold NB; omega) (by unfold NB; omega) (by unfold NB; omega) (fun i hi => by unfold NB; omega) (by unfold NB; omega) (by unfold NB; omega) (by unfold NB; omega) (fun i hi => by unfold NB; omega) (by unfold NB; omega), h.2.cg fun a a1 a2 => hI a (by omega) (by omega)⟩
  | _ + 19, _ => trivial
/-- k parts of it are made, these fields are set, im images stand in their row -/
def St11 (E : EnT) (S0 : ST) (I0 : IT) (L0 : LT) (B c k : Nat) (rl : List (Nat × Nat)) (im : Nat) (S : ST) (I : IT) (L : LT) : Prop := PB E S0 I0 L0 B c S I L ∧ (∀ j, j < k → ob11 E B S I j) ∧ (∀ p, p ∈ rl → S.2.2 B p.1 = some p.2) ∧ ∀ i, i < im → S.2.2 (B + 1) i = some (B + 50 + 14 * i)
theorem St11.go {c c2 : Nat} {rl rl2 : List (Nat × Nat)} {im im2 : Nat} (h : St11 E S0 I0 L0 B c k rl im S I L) (hP : PB E S0 I0 L0 B c2 S2 I2 L2) (hB : B + 1 = eB E + S0.1) (e : Ext E S S2 (NB B)) (hI : ∀ x, B ≤ x → x < eB E + S.1 → I2 x = I x) (hn : ob11 E B S2 I2 k) (hr : ∀ p, p ∈ rl2 → S2.2.2 B p.1 = some p.2) (hm : ∀ i, i < im2 → S2.2.2 (B + 1) i = some (B + 50 + 14 * i)) : St11 E S0 I0 L0 B c2 (k + 1) rl2 im2 S2 I2 L2 := by
  refine ⟨hP, fun j hj => ?_, hr, hm⟩
  by_cases z : j = k
  · rw [z]; exact hn
  · exact ob11_k (by have := h.1.1; omega) e hI j (h.2.1 j (by omega))
/-- a row more, its field set -/
theorem St11.arr {c f : Nat} {rl : List (Nat × Nat)} {im t n : Nat} (h : St11 E S0 I0 L0 B c k rl im S I L) (hB : B + 1 = eB E + S0.1) (h0 : 0 < im → 0 < k) (hf : ∀ p, p ∈ rl → p.1 ≠ f) (hn : isA E ((psh E S (13 + t) n).1, (psh E S (13 + t) n).2.1, up2 (psh E S (13 + t) n).2.2 B f (some (eB E + S.1))) (B + 1 + c) t n → (∀ z, I (B + 1 + c) z = 0) → ob11 E B ((psh E S (13 + t) n).1, (psh E S (13 + t) n).2.1, up2 (psh E S (13 + t) n).2.2 B f (some (eB E + S.1))) I k) : St11 E S0 I0 L0 B (c + 1) (k + 1) ((f, B + 1 + c) :: rl) im ((psh E S (13 + t) n).1, (psh E S (13 + t) n).2.1, up2 (psh E S (13 + t) n).2.2 B f (some (eB E + S.1))) I L := by
  have en := h.1.e hB
  refine h.go (h.1.arr.put hB) hB (Ext.pu.tr (Ext.uS.wk fun x hx => hx.1)) (fun _ _ _ => rfl) (hn ?_ fun z => ?_) (fun p hp => ?_) (fun i hi => ?_)
  · rw [← en]; exact isA_psh.ext (P := fun x => x ≠ B) Ext.uS
  · exact (h.1.2.2.1 _ (by omega) z).1
  · rcases List.mem_cons.mp hp with z | z
    · rw [z]
      show up2 _ B f _ B f = _
      rw [up2_self, en]
    · show up2 _ B f _ B p.1 = _
      rw [up2_nej (hf p z)]; exact h.2.2.1 p z
  · show up2 _ B f _ (B + 1) i = _
    rw [up2_row (by omega)]; exact h.2.2.2 i hi
/-- an object more, its field set -/
theorem St11.obp {c f m : Nat} {rl : List (Nat × Nat)} {im : Nat} (h : St11 E S0 I0 L0 B c k rl im S I L) (hB : B + 1 = eB E + S0.1) (ho : isO E S0 B 11) (hA : 0 < im → isA E S (B + 1) 4 2) (hG : GR E S I L m S2 I2 L2) (hf : ∀ p, p ∈ rl → p.1 ≠ f) (hn : ob11 E B (S2.1, S2.2.1, up2 S2.2.2 B f (some (eB E + S.1))) I2 k) : St11 E S0 I0 L0 B (c + m) (k + 1) ((f, B + 1 + c) :: rl) im (S2.1, S2.2.1, up2 S2.2.2 B f (some (eB E + S.1))) I2 L2 := by
  have en := h.1.e hB
  have hq : S2.2.2 B = S.2.2 B := (hG.2.1 B (ho.ext h.1.2.1).1).2.2 trivial
  refine h.go ((h.1.new hG hB).put hB) hB ((hG.2.1.wk fun _ _ => trivial).tr (Ext.uS.wk fun x hx => hx.1)) (fun x _ hx => hG.2.2.2.2 x hx) hn (fun p hp => ?_) (fun i hi => ?_)
  · rcases List.mem_cons.mp hp with z | z
    · rw [z]
      show up2 _ B f _ B f = _
      rw [up2_self, en]
    · show up2 _ B f _ B p.1 = _
      rw [up2_nej (hf p z), hq]; exact h.2.2.1 p z
  · show up2 _ B f _ (B + 1) i = _
    rw [up2_row (by omega), (hG.2.1 (B + 1) (hA (by omega)).1).2.2 trivial]; exact h.2.2.2 i hi
/-- an object more -/
theorem St11.ob {c m : Nat} {rl : List (Nat × Nat)} {im : Nat} (h : St11 E S0 I0 L0 B c k rl im S I L) (hB : B + 1 = eB E + S0.1) (ho : isO E S0 B 11) (hA : 0 < im → isA E S (B + 1) 4 2) (hG : GR E S I L m S2 I2 L2) (hn : ob11 E B S2 I2 k) : St11 E S0 I0 L0 B (c + m) (k + 1) rl im S2 I2 L2 := by
  have hq : S2.2.2 B = S.2.2 B := (hG.2.1 B (ho.ext h.1.2.1).1).2.2 trivial
  refine h.go (h.1.new hG hB) hB (hG.2.1.wk fun _ _ => trivial) (fun x _ hx => hG.2.2.2.2 x hx) hn (fun p hp => by rw [hq]; exact h.2.2.1 p hp) (fun i hi => ?_)
  rw [(hG.2.1 (B + 1) (hA (by omega)).1).2.2 trivial]; exact h.2.2.2 i hi
theorem St11.bl {c : Nat} {rl : List (Nat × Nat)} {im : Nat} (h : St11 E S0 I0 L0 B c k rl im S I L) : BL E S I L := h.1.2.2.1
def P11 (E : EnT) (S : ST) (I : IT) (L : LT) (B : Nat) (r : Option Value) (S' : ST) (I' : IT) (L' : LT) : Prop := r = none ∧ St11 E S I L B 328 19 [(5, B + 321), (4, B + 82), (3, B + 80), (0, B + 36), (8, B + 21), (17, B + 20), (16, B + 19), (15, B + 18), (14, B + 17), (9, B + 16), (7, B + 10), (6, B + 3), (2, B + 2), (1, B + 1)] 2 S' I' L'
theorem c_X11_init (ho : isO E S B 11) (hB : B + 1 = eB E + S.1) (hBL : BL E S I L) : C E kX11_init 4 328 10156 [.ref B] S I L (P11 E S I L B) := by
  refine C_of (by decide) (Nat.le_of_ble_eq_true rfl) ?_
  have s18b : ∀ S1 I1, St11 E S I L B 320 18 [(4, B + 82), (3, B + 80), (0, B + 36), (8, B + 21), (17, B + 20), (16, B + 19), (15, B + 18), (14, B + 17), (9, B + 16), (7, B + 10), (6, B + 3), (2, B + 2), (1, B + 1)] 2 S1 I1 L → V E kX11_init (rmOf 4 328 10156) (QM E (P11 E S I L B) 328 10156) 320 10071 S1 I1 L 215 [(0, .ref B), (1, .ref (B + 21)), (2, .ref (B + 30)), (3, .ref (B + 36)), (4, .ref (B + 78)), (5, .ref (B + 80)), (6, .ref (B + 82))] [] := by
    intro S1 I1 h
    have hO : isO E S1 B 11 := ho.ext h.1.2.1
    have hf := h.bl.fr
    have en : eB E + S1.1 = B + 321 := by have := h.1.e hB; omega
    have h17 := h.2.1 17 (by decide)
    refine V_aload_n (pc := 215) dX11_init_215 rfl ?_
    refine V_new (pc := 216) 1 dX11_init_216 clX11_103 it1 iz1 (by decide) (by decide) (by assumption) (by first | decide | omega) (by first | decide | omega) ?_
    refine V_dup (pc := 219) dX11_init_219 rfl ?_
    refine V_aload (pc := 220) dX11_init_220 rfl ?_
    refine V_callI (pc := 222) (c_X1_new h.bl h17.1) dX11_init_222 mlX11_105 mkX1_init rfl rfl ⟨Nat.le_of_ble_eq_true rfl, Nat.le_of_ble_eq_true rfl⟩ (Nat.le_of_ble_eq_true rfl) ⟨Nat.le_of_ble_eq_true rfl, Nat.le_of_ble_eq_true rfl⟩ (fun r S' I' L' hp => ?_)
    obtain ⟨rfl, hG, g1, g2⟩ := hp
    have hL := hG.2.2.2.1
    subst hL
    rw [en] at g1 g2
    have hO2 : isO E S' B 11 := hO.ext hG.2.1
    refine V_putR (pc := 225) 11 5 dX11_init_225 flX11_108 (by decide) (by decide) (Or.inr ⟨rfl, rfl, rfl⟩) rfl rfl (by assumption) ?_
    refine V_vret (pc := 228) dX11_init_228 rfl (by first | decide | omega) (by first | decide | omega) ?_
    refine ⟨rfl, h.obp (m := 8) hB ho (fun _ => h.2.1 0 (by decide)) hG (by simp) ?_⟩
    have ex : Ext E S' (S'.1, S'.2.1, up2 S'.2.2 B 5 (some (eB E + S1.1))) (fun x => x ≠ B) := Ext.uS
    exact ⟨g1.ext ex (by omega) (by omega) (by omega) (by omega) (by omega) (by omega) (fun i hi => by omega) (by omega) (by omega) (by omega) (fun i hi => by omega) (by omega), g2⟩
  have s18 : ∀ S1 I1, St11 E S I L B 320 18 [(17, B + 20), (16, B + 19), (15, B + 18), (14, B + 17), (9, B + 16), (7, B + 10), (6, B + 3), (2, B + 2), (1, B + 1)] 2 S1 I1 L → V E kX11_init (rmOf 4 328 10156) (QM E (P11 E S I L B) 328 10156) 320 10071 S1 I1 L 193 [(0, .ref B), (1, .ref (B + 21)), (2, .ref (B + 30)), (3, .ref (B + 36)), (4, .ref (B + 78)), (5, .ref (B + 80)), (6, .ref (B + 82))] [] := by
    intro S1 I1 h
    have hO : isO E S1 B 11 := ho.ext h.1.2.1
    have hf := h.bl.fr
    have en : eB E + S1.1 = B + 321 := by have := h.1.e hB; omega
    have ex0 : Ext E S1 (S1.1, S1.2.1, up2 S1.2.2 B 8 (some (B + 21))) (fun x => x ≠ B) := Ext.uS
    have hO1 : isO E (S1.1, S1.2.1, up2 S1.2.2 B 8 (some (B + 21))) B 11 := hO.ext ex0
    have ex1 : Ext E S1 (S1.1, S1.2.1, up2 (up2 S1.2.2 B 8 (some (B + 21))) B 0 (some (B + 36))) (fun x => x ≠ B) := ex0.tr Ext.uS
    have hO2 : isO E (S1.1, S1.2.1, up2 (up2 S1.2.2 B 8 (some (B + 21))) B 0 (some (B + 36))) B 11 := hO.ext ex1
    have ex2 : Ext E S1 (S1.1, S1.2.1, up2 (up2 (up2 S1.2.2 B 8 (some (B + 21))) B 0 (some (B + 36))) B 3 (some (B + 80))) (fun x => x ≠ B) := ex1.tr Ext.uS
    have hO3 : isO E (S1.1, S1.2.1, up2 (up2 (up2 S1.2.2 B 8 (some (B + 21))) B 0 (some (B + 36))) B 3 (some (B + 80))) B 11 := hO.ext ex2
    have ex3 : Ext E S1 (S1.1, S1.2.1, up2 (up2 (up2 (up2 S1.2.2 B 8 (some (B + 21))) B 0 (some (B + 36))) B 3 (some (B + 80))) B 4 (some (B + 82))) (fun x => x ≠ B) := ex2.tr Ext.uS
    refine V_aload_n (pc := 193) dX11_init_193 rfl ?_
    refine V_aload_n (pc := 194) dX11_init_194 rfl ?_
    refine V_putR (pc := 195) 11 8 dX11_init_195 flX11_87 (by decide) (by decide) (Or.inr ⟨rfl, rfl, rfl⟩) rfl rfl hO ?_
    refine V_aload_n (pc := 198) dX11_init_198 rfl ?_
    refine V_aload_n (pc := 199) dX11_init_199 rfl ?_
    refine V_putR (pc := 200) 11 0 dX11_init_200 flX11_91 (by decide) (by decide) (Or.inr ⟨rfl, rfl, rfl⟩) rfl rfl hO1 ?_
    refine V_aload_n (pc := 203) dX11_init_203 rfl ?_
    refine V_aload (pc := 204) dX11_init_204 rfl ?_
    refine V_putR (pc := 206) 11 3 dX11_init_206 flX11_95 (by decide) (by decide) (Or.inr ⟨rfl, rfl, rfl⟩) rfl rfl hO2 ?_
    refine V_aload_n (pc := 209) dX11_init_209 rfl ?_
    refine V_aload (pc := 210) dX11_init_210 rfl ?_
    refine V_putR (pc := 212) 11 4 dX11_init_212 flX11_99 (by decide) (by decide) (Or.inr ⟨rfl, rfl, rfl⟩) rfl rfl hO3 ?_
    refine s18b _ _ ⟨(((h.1.put hB).put hB).put hB).put hB, fun j hj => ob11_k (by omega) (ex3.wk fun x hx => hx.1) (fun _ _ _ => rfl) j (h.2.1 j hj), fun p hp => ?_, fun i hi => ?_⟩
    · show up2 (up2 (up2 (up2 S1.2.2 B 8 (some (B + 21))) B 0 (some (B + 36))) B 3 (some (B + 80))) B 4 (some (B + 82)) B p.1 = some p.2
      rcases List.mem_cons.mp hp with z | hp
      · rw [z]; exact up2_self
      rcases List.mem_cons.mp hp with z | hp
      · rw [z, up2_nej (by simp)]; exact up2_self
      rcases List.mem_cons.mp hp with z | hp
      · rw [z, up2_nej (by simp), up2_nej (by simp)]; exact up2_self
      rcases List.mem_cons.mp hp with z | hp
      · rw [z, up2_nej (by simp), up2_nej (by simp), up2_nej (by simp)]; exact up2_self
      have hne : ∀ q : Nat × Nat, q ∈ [(17, B + 20), (16, B + 19), (15, B + 18), (14, B + 17), (9, B + 16), (7, B + 10), (6, B + 3), (2, B + 2), (1, B + 1)] → q.1 ≠ 4 ∧ q.1 ≠ 3 ∧ q.1 ≠ 0 ∧ q.1 ≠ 8 := by simp
      obtain ⟨n1, n2, n3, n4⟩ := hne p hp
      rw [up2_nej n1, up2_nej n2, up2_nej n3, up2_nej n4]; exact h.2.2.1 p hp
    · show up2 (up2 (up2 (up2 S1.2.2 B 8 (some (B + 21))) B 0 (some (B + 36))) B 3 (some (B + 80))) B 4 (some (B + 82)) (B + 1) i = _
      rw [up2_row (by omega), up2_row (by omega), up2_row (by omega), up2_row (by omega)]; exact h.2.2.2 i hi
  have s17 : ∀ S1 I1, St11 E S I L B 81 17 [(17, B + 20), (16, B + 19), (15, B + 18), (14, B + 17), (9, B + 16), (7, B + 10), (6, B + 3), (2, B + 2), (1, B + 1)] 2 S1 I1 L → V E kX11_init (rmOf 4 328 10156) (QM E (P11 E S I L B) 328 10156) 81 7260 S1 I1 L 179 [(0, .ref B), (1, .ref (B + 21)), (2, .ref (B + 30)), (3, .ref (B + 36)), (4, .ref (B + 78)), (5, .ref (B + 80))] [] := by
    intro S1 I1 h
    have hO : isO E S1 B 11 := ho.ext h.1.2.1
    have hf := h.bl.fr
    have en : eB E + S1.1 = B + 82 := by have := h.1.e hB; omega
    have h16 := h.2.1 16 (by decide)
    refine V_new (pc := 179) 0 dX11_init_179 clX11_82 it0 iz0 (by decide) (by decide) (by assumption) (by first | decide | omega) (by first | decide | omega) ?_
    refine V_dup (pc := 182) dX11_init_182 rfl ?_
    refine V_aload_n (pc := 183) dX11_init_183 rfl ?_
    refine V_aload (pc := 184) dX11_init_184 rfl ?_
    refine V_aload (pc := 186) dX11_init_186 rfl ?_
    refine V_callI (pc := 188) (c_X0_new h.bl h16) dX11_init_188 mlX11_84 mkX0_init rfl rfl ⟨Nat.le_of_ble_eq_true rfl, Nat.le_of_ble_eq_true rfl⟩ (Nat.le_of_ble_eq_true rfl) ⟨Nat.le_of_ble_eq_true rfl, Nat.le_of_ble_eq_true rfl⟩ (fun r S' I' L' hp => ?_)
    obtain ⟨rfl, hG, g1, g2, g3⟩ := hp
    have hL := hG.2.2.2.1
    subst hL
    rw [en] at g1 g2 g3
    rw [en]
    refine V_astore (pc := 191) (ls' := [(0, _), (1, _), (2, _), (3, _), (4, _), (5, _), (6, _)]) dX11_init_191 (by decide) rfl ?_
    exact s18 _ _ (h.ob (m := 239) hB ho (fun _ => h.2.1 0 (by decide)) hG ⟨g1, g2, g3⟩)
  have s16 : ∀ S1 I1, St11 E S I L B 79 16 [(17, B + 20), (16, B + 19), (15, B + 18), (14, B + 17), (9, B + 16), (7, B + 10), (6, B + 3), (2, B + 2), (1, B + 1)] 2 S1 I1 L → V E kX11_init (rmOf 4 328 10156) (QM E (P11 E S I L B) 328 10156) 79 7234 S1 I1 L 168 [(0, .ref B), (1, .ref (B + 21)), (2, .ref (B + 30)), (3, .ref (B + 36)), (4, .ref (B + 78))] [] := by
    intro S1 I1 h
    have hO : isO E S1 B 11 := ho.ext h.1.2.1
    have hf := h.bl.fr
    have en : eB E + S1.1 = B + 80 := by have := h.1.e hB; omega
    have h15 := h.2.1 15 (by decide)
    refine V_new (pc := 168) 3 dX11_init_168 clX11_77 it3 iz3 (by decide) (by decide) (by assumption) (by first | decide | omega) (by first | decide | omega) ?_
    refine V_dup (pc := 171) dX11_init_171 rfl ?_
    refine V_aload (pc := 172) dX11_init_172 rfl ?_
    refine V_callI (pc := 174) (c_X3_new h.bl h15) dX11_init_174 mlX11_79 mkX3_init rfl rfl ⟨Nat.le_of_ble_eq_true rfl, Nat.le_of_ble_eq_true rfl⟩ (Nat.le_of_ble_eq_true rfl) ⟨Nat.le_of_ble_eq_true rfl, Nat.le_of_ble_eq_true rfl⟩ (fun r S' I' L' hp => ?_)
    obtain ⟨rfl, hG, g1⟩ := hp
    have hL := hG.2.2.2.1
    subst hL
    rw [en] at g1
    rw [en]
    refine V_astore (pc := 177) (ls' := [(0, _), (1, _), (2, _), (3, _), (4, _), (5, _)]) dX11_init_177 (by decide) rfl ?_
    exact s17 _ _ (h.ob (m := 2) hB ho (fun _ => h.2.1 0 (by decide)) hG g1)
  have s15 : ∀ S1 I1, St11 E S I L B 77 15 [(17, B + 20), (16, B + 19), (15, B + 18), (14, B + 17), (9, B + 16), (7, B + 10), (6, B + 3), (2, B + 2), (1, B + 1)] 2 S1 I1 L → V E kX11_init (rmOf 4 328 10156) (QM E (P11 E S I L B) 328 10156) 77 7169 S1 I1 L 132 [(0, .ref B), (1, .ref (B + 21)), (2, .ref (B + 30)), (3, .ref (B + 36)), (4, .int (nI 2))] [] := by
    intro S1 I1 h
    have hO : isO E S1 B 11 := ho.ext h.1.2.1
    have hf := h.bl.fr
    have en : eB E + S1.1 = B + 78 := by have := h.1.e hB; omega
    refine V_iload (pc := 132) dX11_init_132 rfl ?_
    refine V_iconst (pc := 134) (v := nI 2) dX11_init_134 (by decide) ?_
    refine V_icmp_geN (pc := 135) (tgt := 159) dX11_init_135 (by decide) (by omega) (by omega) (fun c135 => ?_) (fun n135 => absurd n135 (by omega))
    refine V_new (pc := 159) 6 dX11_init_159 clX11_74 it6 iz6 (by decide) (by decide) (by assumption) (by first | decide | omega) (by first | decide | omega) ?_
    refine V_dup (pc := 162) dX11_init_162 rfl ?_
    refine V_callIN (pc := 163) (host := "DowryBoxes") (c_X6_new h.bl) dX11_init_163 (by decide) mkX6_init rfl rfl ⟨Nat.le_of_ble_eq_true rfl, Nat.le_of_ble_eq_true rfl⟩ (Nat.le_of_ble_eq_true rfl) ⟨Nat.le_of_ble_eq_true rfl, Nat.le_of_ble_eq_true rfl⟩ (fun r S' I' L' hp => ?_)
    obtain ⟨rfl, hG, g1⟩ := hp
    have hL := hG.2.2.2.1
    subst hL
    rw [en] at g1
    rw [en]
    refine V_astore (pc := 166) (ls' := [(0, _), (1, _), (2, _), (3, _), (4, _)]) dX11_init_166 (by decide) rfl ?_
    exact s16 _ _ (h.ob (m := 2) hB ho (fun _ => h.2.1 0 (by decide)) hG g1)
  have s14 : ∀ S1 I1, St11 E S I L B 63 14 [(17, B + 20), (16, B + 19), (15, B + 18), (14, B + 17), (9, B + 16), (7, B + 10), (6, B + 3), (2, B + 2), (1, B + 1)] 1 S1 I1 L → V E kX11_init (rmOf 4 328 10156) (QM E (P11 E S I L B) 328 10156) 63 7033 S1 I1 L 132 [(0, .ref B), (1, .ref (B + 21)), (2, .ref (B + 30)), (3, .ref (B + 36)), (4, .int (nI 1))] [] := by
    intro S1 I1 h
    have hO : isO E S1 B 11 := ho.ext h.1.2.1
    have hf := h.bl.fr
    have en : eB E + S1.1 = B + 64 := by have := h.1.e hB; omega
    have h0 : isA E S1 (B + 1) 4 2 := h.2.1 0 (by decide)
    have h11t := h.2.1 11 (by decide)
    have hR1 : S1.2.2 B 1 = some (B + 1) := h.2.2.1 (1, B + 1) (by simp)
    refine V_iload (pc := 132) dX11_init_132 rfl ?_
    refine V_iconst (pc := 134) (v := nI 2) dX11_init_134 (by decide) ?_
    refine V_icmp_geN (pc := 135) (tgt := 159) dX11_init_135 (by decide) (by omega) (by omega) (fun c135 => absurd c135 (by omega)) (fun n135 => ?_)
    refine V_aload_n (pc := 138) dX11_init_138 rfl ?_
    refine V_getR (pc := 139) 11 1 dX11_init_139 flX11_11 (by decide) hO hR1 ?_
    refine V_iload (pc := 142) dX11_init_142 rfl ?_
    refine V_new (pc := 144) 10 dX11_init_144 clX11_9 it10 iz10 (by decide) (by decide) (by assumption) (by first | decide | omega) (by first | decide | omega) ?_
    refine V_dup (pc := 147) dX11_init_147 rfl ?_
    refine V_aload_n (pc := 148) dX11_init_148 rfl ?_
    refine V_callI (pc := 149) (c_X10_new h.bl h11t.1.o) dX11_init_149 mlX11_71 mkX10_init rfl rfl ⟨Nat.le_of_ble_eq_true rfl, Nat.le_of_ble_eq_true rfl⟩ (Nat.le_of_ble_eq_true rfl) ⟨Nat.le_of_ble_eq_true rfl, Nat.le_of_ble_eq_true rfl⟩ (fun r S' I' L' hp => ?_)
    obtain ⟨rfl, hG, g1, g2, g3⟩ := hp
    have hL := hG.2.2.2.1
    subst hL
    rw [en] at g1 g2 g3
    rw [en]
    have hA2 : isA E S' (B + 1) 4 2 := h0.ext hG.2.1
    have hq : S'.2.2 B = S1.2.2 B := (hG.2.1 B hO.1).2.2 trivial
    have hq1 : S'.2.2 (B + 1) = S1.2.2 (B + 1) := (hG.2.1 (B + 1) h0.1).2.2 trivial
    refine V_aastore (pc := 152) dX11_init_152 hA2 (by decide) (by decide) g1.o (by decide) ?_
    refine V_iinc1 (pc := 153) (ls' := [(0, _), (1, _), (2, _), (3, _), (4, _)]) dX11_init_153 rfl (by decide) rfl ?_
    refine V_goto (pc := 156) (tgt := 132) dX11_init_156 (by decide) ?_
    have ex : Ext E S' (S'.1, S'.2.1, up2 S'.2.2 (B + 1) 1 (some (B + 64))) (fun x => x ≠ B + 1) := Ext.uS
    refine s15 _ _ (h.go ((h.1.new hG hB).putq hB (by omega) (by omega)) hB ((hG.2.1.wk fun _ _ => trivial).tr (ex.wk fun x hx => hx.2)) (fun x _ hx => hG.2.2.2.2 x hx) ⟨g1.ext ex (by omega) (by omega), g2, fun l hl => ?_⟩ (fun p hp => ?_) (fun i hi => ?_))
    · show up2 S'.2.2 (B + 1) _ _ (B + 64 + 13) l = _
      rw [up2_row (by omega)]; exact g3 l hl
    · show up2 S'.2.2 (B + 1) _ _ B p.1 = _
      rw [up2_row (by omega), hq]; exact h.2.2.1 p hp
    · show up2 S'.2.2 (B + 1) 1 _ (B + 1) i = _
      by_cases z : i = 1
      · subst z; rw [up2_self]
      · rw [up2_nej z, hq1]; exact h.2.2.2 i (by omega)
  have s13 : ∀ S1 I1, St11 E S I L B 49 13 [(17, B + 20), (16, B + 19), (15, B + 18), (14, B + 17), (9, B + 16), (7, B + 10), (6, B + 3), (2, B + 2), (1, B + 1)] 0 S1 I1 L → V E kX11_init (rmOf 4 328 10156) (QM E (P11 E S I L B) 328 10156) 49 6897 S1 I1 L 132 [(0, .ref B), (1, .ref (B + 21)), (2, .ref (B + 30)), (3, .ref (B + 36)), (4, .int (nI 0))] [] := by
    intro S1 I1 h
    have hO : isO E S1 B 11 := ho.ext h.1.2.1
    have hf := h.bl.fr
    have en : eB E + S1.1 = B + 50 := by have := h.1.e hB; omega
    have h0 : isA E S1 (B + 1) 4 2 := h.2.1 0 (by decide)
    have h11t := h.2.1 11 (by decide)
    have hR1 : S1.2.2 B 1 = some (B + 1) := h.2.2.1 (1, B + 1) (by simp)
    refine V_iload (pc := 132) dX11_init_132 rfl ?_
    refine V_iconst (pc := 134) (v := nI 2) dX11_init_134 (by decide) ?_
    refine V_icmp_geN (pc := 135) (tgt := 159) dX11_init_135 (by decide) (by omega) (by omega) (fun c135 => absurd c135 (by omega)) (fun n135 => ?_)
    refine V_aload_n (pc := 138) dX11_init_138 rfl ?_
    refine V_getR (pc := 139) 11 1 dX11_init_139 flX11_11 (by decide) hO hR1 ?_
    refine V_iload (pc := 142) dX11_init_142 rfl ?_
    refine V_new (pc := 144) 10 dX11_init_144 clX11_9 it10 iz10 (by decide) (by decide) (by assumption) (by first | decide | omega) (by first | decide | omega) ?_
    refine V_dup (pc := 147) dX11_init_147 rfl ?_
    refine V_aload_n (pc := 148) dX11_init_148 rfl ?_
    refine V_callI (pc := 149) (c_X10_new h.bl h11t.1.o) dX11_init_149 mlX11_71 mkX10_init rfl rfl ⟨Nat.le_of_ble_eq_true rfl, Nat.le_of_ble_eq_true rfl⟩ (Nat.le_of_ble_eq_true rfl) ⟨Nat.le_of_ble_eq_true rfl, Nat.le_of_ble_eq_true rfl⟩ (fun r S' I' L' hp => ?_)
    obtain ⟨rfl, hG, g1, g2, g3⟩ := hp
    have hL := hG.2.2.2.1
    subst hL
    rw [en] at g1 g2 g3
    rw [en]
    have hA2 : isA E S' (B + 1) 4 2 := h0.ext hG.2.1
    have hq : S'.2.2 B = S1.2.2 B := (hG.2.1 B hO.1).2.2 trivial
    have hq1 : S'.2.2 (B + 1) = S1.2.2 (B + 1) := (hG.2.1 (B + 1) h0.1).2.2 trivial
    refine V_aastore (pc := 152) dX11_init_152 hA2 (by decide) (by decide) g1.o (by decide) ?_
    refine V_iinc1 (pc := 153) (ls' := [(0, _), (1, _), (2, _), (3, _), (4, _)]) dX11_init_153 rfl (by decide) rfl ?_
    refine V_goto (pc := 156) (tgt := 132) dX11_init_156 (by decide) ?_
    have ex : Ext E S' (S'.1, S'.2.1, up2 S'.2.2 (B + 1) 0 (some (B + 50))) (fun x => x ≠ B + 1) := Ext.uS
    refine s14 _ _ (h.go ((h.1.new hG hB).putq hB (by omega) (by omega)) hB ((hG.2.1.wk fun _ _ => trivial).tr (ex.wk fun x hx => hx.2)) (fun x _ hx => hG.2.2.2.2 x hx) ⟨g1.ext ex (by omega) (by omega), g2, fun l hl => ?_⟩ (fun p hp => ?_) (fun i hi => ?_))
    · show up2 S'.2.2 (B + 1) _ _ (B + 50 + 13) l = _
      rw [up2_row (by omega)]; exact g3 l hl
    · show up2 S'.2.2 (B + 1) _ _ B p.1 = _
      rw [up2_row (by omega), hq]; exact h.2.2.1 p hp
    · show up2 S'.2.2 (B + 1) 0 _ (B + 1) i = _
      by_cases z : i = 0
      · subst z; rw [up2_self]
      · rw [up2_nej z, hq1]; exact h.2.2.2 i (by omega)
  have s12 : ∀ S1 I1, St11 E S I L B 35 12 [(17, B + 20), (16, B + 19), (15, B + 18), (14, B + 17), (9, B + 16), (7, B + 10), (6, B + 3), (2, B + 2), (1, B + 1)] 0 S1 I1 L → V E kX11_init (rmOf 4 328 10156) (QM E (P11 E S I L B) 328 10156) 35 6761 S1 I1 L 120 [(0, .ref B), (1, .ref (B + 21)), (2, .ref (B + 30))] [] := by
    intro S1 I1 h
    have hO : isO E S1 B 11 := ho.ext h.1.2.1
    have hf := h.bl.fr
    have en : eB E + S1.1 = B + 36 := by have := h.1.e hB; omega
    have h11t := h.2.1 11 (by decide)
    refine V_new (pc := 120) 10 dX11_init_120 clX11_9 it10 iz10 (by decide) (by decide) (by assumption) (by first | decide | omega) (by first | decide | omega) ?_
    refine V_dup (pc := 123) dX11_init_123 rfl ?_
    refine V_aload_n (pc := 124) dX11_init_124 rfl ?_
    refine V_callI (pc := 125) (c_X10_new h.bl h11t.1.o) dX11_init_125 mlX11_71 mkX10_init rfl rfl ⟨Nat.le_of_ble_eq_true rfl, Nat.le_of_ble_eq_true rfl⟩ (Nat.le_of_ble_eq_true rfl) ⟨Nat.le_of_ble_eq_true rfl, Nat.le_of_ble_eq_true rfl⟩ (fun r S' I' L' hp => ?_)
    obtain ⟨rfl, hG, g1, g2, g3⟩ := hp
    have hL := hG.2.2.2.1
    subst hL
    rw [en] at g1 g2 g3
    rw [en]
    refine V_astore_n (pc := 128) (ls' := [(0, _), (1, _), (2, _), (3, _)]) dX11_init_128 (by decide) rfl ?_
    refine V_iconst (pc := 129) (v := nI 0) dX11_init_129 (by decide) ?_
    refine V_istore (pc := 130) (ls' := [(0, _), (1, _), (2, _), (3, _), (4, _)]) dX11_init_130 (by decide) rfl ?_
    exact s13 _ _ (h.ob (m := 14) hB ho (fun z => absurd z (by omega)) hG ⟨g1, g2, g3⟩)
  have s11 : ∀ S1 I1, St11 E S I L B 29 11 [(17, B + 20), (16, B + 19), (15, B + 18), (14, B + 17), (9, B + 16), (7, B + 10), (6, B + 3), (2, B + 2), (1, B + 1)] 0 S1 I1 L → V E kX11_init (rmOf 4 328 10156) (QM E (P11 E S I L B) 328 10156) 29 5787 S1 I1 L 110 [(0, .ref B), (1, .ref (B + 21))] [] := by
    intro S1 I1 h
    have hO : isO E S1 B 11 := ho.ext h.1.2.1
    have hf := h.bl.fr
    have en : eB E + S1.1 = B + 30 := by have := h.1.e hB; omega
    have h10t := h.2.1 10 (by decide)
    refine V_new (pc := 110) 7 dX11_init_110 clX11_66 it7 iz7 (by decide) (by decide) (by assumption) (by first | decide | omega) (by first | decide | omega) ?_
    refine V_dup (pc := 113) dX11_init_113 rfl ?_
    refine V_iconst (pc := 114) (v := nI 0) dX11_init_114 (by decide) ?_
    refine V_aload_n (pc := 115) dX11_init_115 rfl ?_
    refine V_callI (pc := 116) (c_X7_new h10t.1 h.bl h10t.2.1) dX11_init_116 mlX11_68 mkX7_init rfl rfl ⟨Nat.le_of_ble_eq_true rfl, Nat.le_of_ble_eq_true rfl⟩ (Nat.le_of_ble_eq_true rfl) ⟨Nat.le_of_ble_eq_true rfl, Nat.le_of_ble_eq_true rfl⟩ (fun r S' I' L' hp => ?_)
    obtain ⟨rfl, hG, g1, g2⟩ := hp
    have hL := hG.2.2.2.1
    subst hL
    rw [en] at g1 g2
    rw [en]
    refine V_astore_n (pc := 119) (ls' := [(0, _), (1, _), (2, _)]) dX11_init_119 (by decide) rfl ?_
    exact s12 _ _ (h.ob (m := 6) hB ho (fun z => absurd z (by omega)) hG ⟨g1, g2⟩)
  have s10 : ∀ S1 I1, St11 E S I L B 20 10 [(17, B + 20), (16, B + 19), (15, B + 18), (14, B + 17), (9, B + 16), (7, B + 10), (6, B + 3), (2, B + 2), (1, B + 1)] 0 S1 I1 L → V E kX11_init (rmOf 4 328 10156) (QM E (P11 E S I L B) 328 10156) 20 3602 S1 I1 L 102 [(0, .ref B)] [] := by
    intro S1 I1 h
    have hO : isO E S1 B 11 := ho.ext h.1.2.1
    have hf := h.bl.fr
    have en : eB E + S1.1 = B + 21 := by have := h.1.e hB; omega
    refine V_new (pc := 102) 5 dX11_init_102 clX11_63 it5 iz5 (by decide) (by decide) (by assumption) (by first | decide | omega) (by first | decide | omega) ?_
    refine V_dup (pc := 105) dX11_init_105 rfl ?_
    refine V_callIN (pc := 106) (host := "DowryBoxes") (c_X5_new h.bl) dX11_init_106 (by decide) mkX5_init rfl rfl ⟨Nat.le_of_ble_eq_true rfl, Nat.le_of_ble_eq_true rfl⟩ (Nat.le_of_ble_eq_true rfl) ⟨Nat.le_of_ble_eq_true rfl, Nat.le_of_ble_eq_true rfl⟩ (fun r S' I' L' hp => ?_)
    obtain ⟨rfl, hG, g1, g2, g3⟩ := hp
    have hL := hG.2.2.2.1
    subst hL
    rw [en] at g1 g2 g3
    rw [en]
    refine V_astore_n (pc := 109) (ls' := [(0, _), (1, _)]) dX11_init_109 (by decide) rfl ?_
    exact s11 _ _ (h.ob (m := 9) hB ho (fun z => absurd z (by omega)) hG ⟨g1, g2, g3⟩)
  have s9 : ∀ S1 I1, St11 E S I L B 19 9 [(16, B + 19), (15, B + 18), (14, B + 17), (9, B + 16), (7, B + 10), (6, B + 3), (2, B + 2), (1, B + 1)] 0 S1 I1 L → V E kX11_init (rmOf 4 328 10156) (QM E (P11 E S I L B) 328 10156) 19 3596 S1 I1 L 94 [(0, .ref B)] [] := by
    intro S1 I1 h
    have hO : isO E S1 B 11 := ho.ext h.1.2.1
    have hf := h.bl.fr
    have en : eB E + S1.1 = B + 20 := by have := h.1.e hB; omega
    have hO2 : isO E (psh E S1 (13 + 0) 6) B 11 := hO.ext (P := fun _ => True) Ext.pu
    refine V_aload_n (pc := 94) dX11_init_94 rfl ?_
    refine V_bipush (pc := 95) (v := nI 6) dX11_init_95 (by decide) ?_
    refine V_newarray (pc := 97) (t := 0) dX11_init_97 (by decide) acI (by first | decide | omega) (by assumption) (by first | decide | omega) (by first | decide | omega) ?_
    refine V_putR (pc := 99) 11 17 dX11_init_99 flX11_60 (by decide) (by decide) (Or.inr ⟨rfl, rfl, rfl⟩) rfl rfl (by assumption) ?_
    exact s10 _ _ (h.arr hB (fun z => absurd z (by omega)) (by simp) (fun q _ => q))
  have s8 : ∀ S1 I1, St11 E S I L B 18 8 [(15, B + 18), (14, B + 17), (9, B + 16), (7, B + 10), (6, B + 3), (2, B + 2), (1, B + 1)] 0 S1 I1 L → V E kX11_init (rmOf 4 328 10156) (QM E (P11 E S I L B) 328 10156) 18 3590 S1 I1 L 86 [(0, .ref B)] [] := by
    intro S1 I1 h
    have hO : isO E S1 B 11 := ho.ext h.1.2.1
    have hf := h.bl.fr
    have en : eB E + S1.1 = B + 19 := by have := h.1.e hB; omega
    have hO2 : isO E (psh E S1 (13 + 0) 6) B 11 := hO.ext (P := fun _ => True) Ext.pu
    refine V_aload_n (pc := 86) dX11_init_86 rfl ?_
    refine V_bipush (pc := 87) (v := nI 6) dX11_init_87 (by decide) ?_
    refine V_newarray (pc := 89) (t := 0) dX11_init_89 (by decide) acI (by first | decide | omega) (by assumption) (by first | decide | omega) (by first | decide | omega) ?_
    refine V_putR (pc := 91) 11 16 dX11_init_91 flX11_57 (by decide) (by decide) (Or.inr ⟨rfl, rfl, rfl⟩) rfl rfl (by assumption) ?_
    exact s9 _ _ (h.arr hB (fun z => absurd z (by omega)) (by simp) (fun q _ => q))
  have s7 : ∀ S1 I1, St11 E S I L B 17 7 [(14, B + 17), (9, B + 16), (7, B + 10), (6, B + 3), (2, B + 2), (1, B + 1)] 0 S1 I1 L → V E kX11_init (rmOf 4 328 10156) (QM E (P11 E S I L B) 328 10156) 17 3569 S1 I1 L 78 [(0, .ref B)] [] := by
    intro S1 I1 h
    have hO : isO E S1 B 11 := ho.ext h.1.2.1
    have hf := h.bl.fr
    have en : eB E + S1.1 = B + 18 := by have := h.1.e hB; omega
    have hO2 : isO E (psh E S1 (13 + 1) 21) B 11 := hO.ext (P := fun _ => True) Ext.pu
    refine V_aload_n (pc := 78) dX11_init_78 rfl ?_
    refine V_bipush (pc := 79) (v := nI 21) dX11_init_79 (by decide) ?_
    refine V_newarray (pc := 81) (t := 1) dX11_init_81 (by decide) acJ (by first | decide | omega) (by assumption) (by first | decide | omega) (by first | decide | omega) ?_
    refine V_putR (pc := 83) 11 15 dX11_init_83 flX11_53 (by decide) (by decide) (Or.inr ⟨rfl, rfl, rfl⟩) rfl rfl (by assumption) ?_
    exact s8 _ _ (h.arr hB (fun z => absurd z (by omega)) (by simp) (fun q _ => q))
  have s6 : ∀ S1 I1, St11 E S I L B 16 6 [(9, B + 16), (7, B + 10), (6, B + 3), (2, B + 2), (1, B + 1)] 0 S1 I1 L → V E kX11_init (rmOf 4 328 10156) (QM E (P11 E S I L B) 328 10156) 16 3562 S1 I1 L 70 [(0, .ref B)] [] := by
    intro S1 I1 h
    have hO : isO E S1 B 11 := ho.ext h.1.2.1
    have hf := h.bl.fr
    have en : eB E + S1.1 = B + 17 := by have := h.1.e hB; omega
    have hO2 : isO E (psh E S1 (13 + 0) 7) B 11 := hO.ext (P := fun _ => True) Ext.pu
    refine V_aload_n (pc := 70) dX11_init_70 rfl ?_
    refine V_bipush (pc := 71) (v := nI 7) dX11_init_71 (by decide) ?_
    refine V_newarray (pc := 73) (t := 0) dX11_init_73 (by decide) acI (by first | decide | omega) (by assumption) (by first | decide | omega) (by first | decide | omega) ?_
    refine V_putR (pc := 75) 11 14 dX11_init_75 flX11_50 (by decide) (by decide) (Or.inr ⟨rfl, rfl, rfl⟩) rfl rfl (by assumption) ?_
    exact s7 _ _ (h.arr hB (fun z => absurd z (by omega)) (by simp) (fun q y => ⟨q, y⟩))
  have s5 : ∀ S1 I1, St11 E S I L B 16 5 [(9, B + 16), (7, B + 10), (6, B + 3), (2, B + 2), (1, B + 1)] 0 S1 I1 L → V E kX11_init (rmOf 4 328 10156) (QM E (P11 E S I L B) 328 10156) 16 3562 S1 I1 L 50 [(0, .ref B)] [] := by
    intro S1 I1 h
    have hO : isO E S1 B 11 := ho.ext h.1.2.1
    have hf := h.bl.fr
    have en : eB E + S1.1 = B + 17 := by have := h.1.e hB; omega
    refine V_aload_n (pc := 50) dX11_init_50 rfl ?_
    refine V_iconst (pc := 51) (v := nI 0) dX11_init_51 (by decide) ?_
    refine V_putI (pc := 52) 11 10 dX11_init_52 flX11_37 (by decide) (by decide) (Or.inl rfl) rfl rfl (by assumption) ?_
    refine V_aload_n (pc := 55) dX11_init_55 rfl ?_
    refine V_iconst (pc := 56) (v := nI 0) dX11_init_56 (by decide) ?_
    refine V_putI (pc := 57) 11 11 dX11_init_57 flX11_41 (by decide) (by decide) (Or.inl rfl) rfl rfl (by assumption) ?_
    refine V_aload_n (pc := 60) dX11_init_60 rfl ?_
    refine V_iconst (pc := 61) (v := (-1)) dX11_init_61 (by decide) ?_
    refine V_putI (pc := 62) 11 12 dX11_init_62 flX11_44 (by decide) (by decide) (Or.inl rfl) rfl rfl (by assumption) ?_
    refine V_aload_n (pc := 65) dX11_init_65 rfl ?_
    refine V_iconst (pc := 66) (v := nI 0) dX11_init_66 (by decide) ?_
    refine V_putI (pc := 67) 11 13 dX11_init_67 flX11_47 (by decide) (by decide) (Or.inl rfl) rfl rfl (by assumption) ?_
    refine s6 _ _ ⟨(((h.1.ui hB (Nat.le_refl _) (by omega)).ui hB (Nat.le_refl _) (by omega)).ui hB (Nat.le_refl _) (by omega)).ui hB (Nat.le_refl _) (by omega), fun j hj => ?_, h.2.2.1, fun i hi => absurd hi (Nat.not_lt_zero i)⟩
    have hc : j = 0 ∨ j = 1 ∨ j = 2 ∨ j = 3 ∨ j = 4 ∨ j = 5 := by omega
    rcases hc with rfl | rfl | rfl | rfl | rfl | rfl
    · exact h.2.1 0 (by decide)
    · have h1 := h.2.1 1 (by decide)
      exact ⟨h1.1, fun z => by rw [up2_row (by omega), up2_row (by omega), up2_row (by omega), up2_row (by omega)]; exact h1.2 z⟩
    · exact h.2.1 2 (by decide)
    · exact h.2.1 3 (by decide)
    · exact h.2.1 4 (by decide)
    · refine ⟨?_, ?_, ?_, up2_self⟩
      · rw [up2_nej (by decide), up2_nej (by decide), up2_nej (by decide), up2_self]
      · rw [up2_nej (by decide), up2_nej (by decide), up2_self]
      · rw [up2_nej (by decide), up2_self]
  have s4 : ∀ S1 I1, St11 E S I L B 15 4 [(7, B + 10), (6, B + 3), (2, B + 2), (1, B + 1)] 0 S1 I1 L → V E kX11_init (rmOf 4 328 10156) (QM E (P11 E S I L B) 328 10156) 15 3162 S1 I1 L 41 [(0, .ref B)] [] := by
    intro S1 I1 h
    have hO : isO E S1 B 11 := ho.ext h.1.2.1
    have hf := h.bl.fr
    have en : eB E + S1.1 = B + 16 := by have := h.1.e hB; omega
    have hO2 : isO E (psh E S1 (13 + 0) 400) B 11 := hO.ext (P := fun _ => True) Ext.pu
    refine V_aload_n (pc := 41) dX11_init_41 rfl ?_
    refine V_sipush (pc := 42) (v := nI 400) dX11_init_42 (by decide) ?_
    refine V_newarray (pc := 45) (t := 0) dX11_init_45 (by decide) acI (by first | decide | omega) (by assumption) (by first | decide | omega) (by first | decide | omega) ?_
    refine V_putR (pc := 47) 11 9 dX11_init_47 flX11_33 (by decide) (by decide) (Or.inr ⟨rfl, rfl, rfl⟩) rfl rfl (by assumption) ?_
    exact s5 _ _ (h.arr hB (fun z => absurd z (by omega)) (by simp) (fun q _ => q))
  have s3 : ∀ S1 I1, St11 E S I L B 9 3 [(6, B + 3), (2, B + 2), (1, B + 1)] 0 S1 I1 L → V E kX11_init (rmOf 4 328 10156) (QM E (P11 E S I L B) 328 10156) 9 578 S1 I1 L 30 [(0, .ref B)] [] := by
    intro S1 I1 h
    have hO : isO E S1 B 11 := ho.ext h.1.2.1
    have hf := h.bl.fr
    have en : eB E + S1.1 = B + 10 := by have := h.1.e hB; omega
    refine V_aload_n (pc := 30) dX11_init_30 rfl ?_
    refine V_new (pc := 31) 8 dX11_init_31 clX11_26 it8 iz8 (by decide) (by decide) (by assumption) (by first | decide | omega) (by first | decide | omega) ?_
    refine V_dup (pc := 34) dX11_init_34 rfl ?_
    refine V_callIN (pc := 35) (host := "DowryBoxes") (c_X8_new h.bl) dX11_init_35 (by decide) mkX8_init rfl rfl ⟨Nat.le_of_ble_eq_true rfl, Nat.le_of_ble_eq_true rfl⟩ (Nat.le_of_ble_eq_true rfl) ⟨Nat.le_of_ble_eq_true rfl, Nat.le_of_ble_eq_true rfl⟩ (fun r S' I' L' hp => ?_)
    obtain ⟨rfl, hG, g1⟩ := hp
    have hL := hG.2.2.2.1
    subst hL
    rw [en] at g1
    have hO2 : isO E S' B 11 := hO.ext hG.2.1
    refine V_putR (pc := 38) 11 7 dX11_init_38 flX11_29 (by decide) (by decide) (Or.inr ⟨rfl, rfl, rfl⟩) rfl rfl (by assumption) ?_
    exact s4 _ _ (h.obp (m := 6) hB ho (fun z => absurd z (by omega)) hG (by simp) (g1.ext (P := fun x => x ≠ B) Ext.uS (by omega)))
  have s2 : ∀ S1 I1, St11 E S I L B 2 2 [(2, B + 2), (1, B + 1)] 0 S1 I1 L → V E kX11_init (rmOf 4 328 10156) (QM E (P11 E S I L B) 328 10156) 2 4 S1 I1 L 19 [(0, .ref B)] [] := by
    intro S1 I1 h
    have hO : isO E S1 B 11 := ho.ext h.1.2.1
    have hf := h.bl.fr
    have en : eB E + S1.1 = B + 3 := by have := h.1.e hB; omega
    refine V_aload_n (pc := 19) dX11_init_19 rfl ?_
    refine V_new (pc := 20) 4 dX11_init_20 clX11_19 it4 iz4 (by decide) (by decide) (by assumption) (by first | decide | omega) (by first | decide | omega) ?_
    refine V_dup (pc := 23) dX11_init_23 rfl ?_
    refine V_callIN (pc := 24) (host := "DowryBoxes") (c_X4_new h.bl) dX11_init_24 (by decide) mkX4_init rfl rfl ⟨Nat.le_of_ble_eq_true rfl, Nat.le_of_ble_eq_true rfl⟩ (Nat.le_of_ble_eq_true rfl) ⟨Nat.le_of_ble_eq_true rfl, Nat.le_of_ble_eq_true rfl⟩ (fun r S' I' L' hp => ?_)
    obtain ⟨rfl, hG, g1⟩ := hp
    have hL := hG.2.2.2.1
    subst hL
    rw [en] at g1
    have hO2 : isO E S' B 11 := hO.ext hG.2.1
    refine V_putR (pc := 27) 11 6 dX11_init_27 flX11_22 (by decide) (by decide) (Or.inr ⟨rfl, rfl, rfl⟩) rfl rfl (by assumption) ?_
    exact s3 _ _ (h.obp (m := 7) hB ho (fun z => absurd z (by omega)) hG (by simp) (g1.ext (P := fun x => x ≠ B) Ext.uS (by omega)))
  have s1 : ∀ S1 I1, St11 E S I L B 1 1 [(1, B + 1)] 0 S1 I1 L → V E kX11_init (rmOf 4 328 10156) (QM E (P11 E S I L B) 328 10156) 1 2 S1 I1 L 12 [(0, .ref B)] [] := by
    intro S1 I1 h
    have hO : isO E S1 B 11 := ho.ext h.1.2.1
    have hf := h.bl.fr
    have en : eB E + S1.1 = B + 2 := by have := h.1.e hB; omega
    have hO2 : isO E (psh E S1 (13 + 2) 2) B 11 := hO.ext (P := fun _ => True) Ext.pu
    refine V_aload_n (pc := 12) dX11_init_12 rfl ?_
    refine V_iconst (pc := 13) (v := nI 2) dX11_init_13 (by decide) ?_
    refine V_newarray (pc := 14) (t := 2) dX11_init_14 (by decide) acZ (by first | decide | omega) (by assumption) (by first | decide | omega) (by first | decide | omega) ?_
    refine V_putR (pc := 16) 11 2 dX11_init_16 flX11_15 (by decide) (by decide) (Or.inr ⟨rfl, rfl, rfl⟩) rfl rfl (by assumption) ?_
    exact s2 _ _ (h.arr hB (fun z => absurd z (by omega)) (by simp) (fun q y => ⟨q, y⟩))
  have s0 : ∀ S1 I1, St11 E S I L B 0 0 [] 0 S1 I1 L → V E kX11_init (rmOf 4 328 10156) (QM E (P11 E S I L B) 328 10156) 0 0 S1 I1 L 0 [(0, .ref B)] [] := by
    intro S1 I1 h
    have hO : isO E S1 B 11 := ho.ext h.1.2.1
    have hf := h.bl.fr
    have en : eB E + S1.1 = B + 1 := by have := h.1.e hB; omega
    have hO2 : isO E (psh E S1 (13 + 4) 2) B 11 := hO.ext (P := fun _ => True) Ext.pu
    refine V_aload_n (pc := 0) dX11_init_0 rfl ?_
    refine V_objInit (pc := 1) dX11_init_1 mlX11_1 imO coO (Nat.le_of_ble_eq_true rfl) (Nat.le_of_ble_eq_true rfl) ?_
    refine V_aload_n (pc := 4) dX11_init_4 rfl ?_
    refine V_iconst (pc := 5) (v := nI 2) dX11_init_5 (by decide) ?_
    refine V_anewarray (pc := 6) (t := 4) (ci := 10) (by decide) dX11_init_6 clX11_9 (by decide) hf (by decide) (by decide) ?_
    refine V_putR (pc := 9) 11 1 dX11_init_9 flX11_11 (by decide) (by decide) (Or.inr ⟨rfl, rfl, rfl⟩) rfl rfl (by assumption) ?_
    exact s1 _ _ (h.arr hB (fun z => absurd z (by omega)) (by simp) (fun q _ => q))
  exact s0 S I ⟨PB.rf hBL, fun j hj => absurd hj (Nat.not_lt_zero j), fun p hp => absurd hp List.not_mem_nil, fun i hi => absurd hi (Nat.not_lt_zero i)⟩
end NV
