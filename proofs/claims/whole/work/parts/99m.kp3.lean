/-! THE CLASS: keep, told -/
/-- how much bars behind one another differ at most -/
def wdt (p : Nat → Nat) : Nat → Nat | 0 => 0 | j + 1 => max (wdt p j) (if 0 < j then pop8 (p j ^^^ p (j - 1)) else 0)
theorem wdt_s (p : Nat → Nat) (j : Nat) : wdt p (j + 1) = max (wdt p j) (if 0 < j then pop8 (p j ^^^ p (j - 1)) else 0) := rfl
theorem wdt_le (p : Nat → Nat) : ∀ n, wdt p n ≤ 8
  | 0 => by show 0 ≤ 8; omega
  | n + 1 => by
    have h1 := wdt_le p n
    have h2 := pop8_le (p n ^^^ p (n - 1))
    rw [wdt_s]; split <;> omega
theorem wdt_at {p : Nat → Nat} : ∀ n j, j + 1 < n → pop8 (p j ^^^ p (j + 1)) ≤ wdt p n
  | 0, j, h => by omega
  | n + 1, j, h => by
    rw [wdt_s]
    by_cases e : j + 1 = n
    · subst e
      rw [if_pos (by omega), Nat.add_sub_cancel, Nat.xor_comm]; omega
    · have := wdt_at (p := p) n j (by omega); omega
theorem orr_sub {p : Nat → Nat} : ∀ n j, j < n → p j &&& orr p n = p j
  | 0, j, h => by omega
  | n + 1, j, h => by
    apply Nat.eq_of_testBit_eq
    intro i
    rw [Nat.testBit_and]
    show (_ && (orr p n ||| p n).testBit i) = _
    rw [Nat.testBit_or]
    by_cases e : j = n
    · subst e; cases (p j).testBit i <;> simp
    · have := congrArg (fun x => x.testBit i) (orr_sub (p := p) n j (by omega))
      simp only [Nat.testBit_and] at this
      cases h1 : (p j).testBit i
      · rfl
      · rw [h1, Bool.true_and] at this; rw [this]; rfl
theorem orr_256 {p : Nat → Nat} (h : ∀ j, j < 8 → p j < 256) : ∀ n, n ≤ 8 → orr p n < 256
  | 0, _ => by show 0 < 256; omega
  | n + 1, hn => Nat.or_lt_two_pow (n := 8) (orr_256 h n (by omega)) (h n (by omega))
theorem cpyx {f g : Nat → Int32} {sp n i : Nat} : va_cpy f g sp 0 n i = if i < n then f (sp + i) else g i := by
  unfold va_cpy
  by_cases h : i < n
  · rw [if_pos (by omega), if_pos h]; congr 1
  · rw [if_neg (by omega), if_neg h]
section DD
variable {E : EnT} {S : ST} {I : IT} {L : LT} {T v : Nat} {q : Nat → Nat}
def MoC (I : IT) (T : Nat) (p : Nat → Nat) (al d j : Nat) : Prop := ∀ k s, j ≤ k → k < 8 → s < 256 → I (T + 1) (k * 256 + s) = nI (mrc p al d (7 - k) s)
/-- what near holds ahead of bar j - 1 -/
def nrf (p : Nat → Nat) (al d j : Nat) : Nat → Nat := fun s => if j = 8 then 0 else wdn al (mrc p al d (7 - j)) d s
theorem nrf_le (p : Nat → Nat) (al d j s : Nat) : nrf p al d j s ≤ 2000 := by
  unfold nrf
  split
  · omega
  · have := wdn_c (al := al) (f := mrc p al d (7 - j)) (c := 1100) (fun u => by have := mrc_c (p := p) (al := al) (d := d) (7 - j) u; omega) (by omega) d s
    omega
theorem mrc_bar (p : Nat → Nat) (al d j s : Nat) (hj : j < 8) : mrc p al d (7 - j) s = if s &&& p j = p j ∧ s &&& al = s then pop8 (andn s (p j)) + nrf p al d (j + 1) s else 1000 := by
  unfold nrf
  by_cases e : j = 7
  · subst e
    rw [if_pos rfl]; rfl
  · rw [if_neg (show ¬ j + 1 = 8 by omega), show 7 - j = (6 - j) + 1 by omega, mrc_s, show 6 - (6 - j) = j by omega, show 7 - (j + 1) = 6 - j by omega]
theorem lp_kr1 (h8 : Lay8 E S T) {al d j : Nat} {f : Nat → Nat} {b : Nat} {w5 : Int32} (hd : d < 9) (hj : j < 8) (hf : ∀ s, f s ≤ 1100) {I0 : IT} {Q : QT} (hk : ∀ J, (∀ x, x ≠ T + 2 → x ≠ T + 3 → J x = I0 x) → (j ≠ 0 → ∀ s, s < 256 → J (T + 2) s = nI (wdn al f d s)) → ∀ w7 : Int32, V E kX8_keepRule (rmOf 2 0 0) Q 0 0 S J L 181 [(0, .ref T), (1, .ref v), (2, .int (nI b)), (3, .int (nI d)), (4, .int (nI al)), (5, .int w5), (6, .int (nI j)), (7, .int w7)] []) : ∀ n, n ≤ d → ∀ J, (∀ x, x ≠ T + 2 → x ≠ T + 3 → J x = I0 x) → (∀ s, s < 256 → J (T + 2) s = nI (wdn al f n s)) → V E kX8_keepRule (rmOf 2 0 0) Q 0 0 S J L 158 [(0, .ref T), (1, .ref v), (2, .int (nI b)), (3, .int (nI d)), (4, .int (nI al)), (5, .int w5), (6, .int (nI j)), (7, .int (nI n))] [] := by
  refine loopUp (n := d) (P := fun n => ∀ J, (∀ x, x ≠ T + 2 → x ≠ T + 3 → J x = I0 x) → (∀ s, s < 256 → J (T + 2) s = nI (wdn al f n s)) → V E kX8_keepRule (rmOf 2 0 0) Q 0 0 S J L 158 [(0, .ref T), (1, .ref v), (2, .int (nI b)), (3, .int (nI d)), (4, .int (nI al)), (5, .int w5), (6, .int (nI j)), (7, .int (nI n))] []) ?_ ?_
  · intro J hF hN
    refine V_iload (pc := 158) dX8_keepRule_158 rfl ?_
    refine V_iload_n (pc := 160) dX8_keepRule_160 rfl ?_
    refine V_icmp_geN (pc := 161) (tgt := 181) dX8_keepRule_161 (by decide) (by omega) (by omega) (fun c161 => ?_) (fun n161 => absurd n161 (by omega))
    exact hk J hF (fun _ => hN) _
  · intro n hn ih J hF hN
    by_cases j0 : j = 0
    · skip
      refine V_iload (pc := 158) dX8_keepRule_158 rfl ?_
      refine V_iload_n (pc := 160) dX8_keepRule_160 rfl ?_
      refine V_icmp_geN (pc := 161) (tgt := 181) dX8_keepRule_161 (by decide) (by omega) (by omega) (fun c161 => absurd c161 (by omega)) (fun n161 => ?_)
      refine V_iload (pc := 164) dX8_keepRule_164 rfl ?_
      refine V_if_leN (pc := 166) (tgt := 181) dX8_keepRule_166 (by decide) (by omega) (fun c166 => ?_) (fun n166 => absurd n166 (by omega))
      exact hk J hF (fun z => absurd j0 z) _
    · skip
      refine V_iload (pc := 158) dX8_keepRule_158 rfl ?_
      refine V_iload_n (pc := 160) dX8_keepRule_160 rfl ?_
      refine V_icmp_geN (pc := 161) (tgt := 181) dX8_keepRule_161 (by decide) (by omega) (by omega) (fun c161 => absurd c161 (by omega)) (fun n161 => ?_)
      refine V_iload (pc := 164) dX8_keepRule_164 rfl ?_
      refine V_if_leN (pc := 166) (tgt := 181) dX8_keepRule_166 (by decide) (by omega) (fun c166 => absurd c166 (by omega)) (fun n166 => ?_)
      refine V_aload_n (pc := 169) dX8_keepRule_169 rfl ?_
      refine V_iload (pc := 170) dX8_keepRule_170 rfl ?_
      refine V_callV (pc := 172) (ci := 8) (c_X8_widen h8 hN (fun s => by have := wdn_c (al := al) (f := f) (c := 1100) hf (by omega) n s; omega)) dX8_keepRule_172 mlX8_70 mkX8_widen rfl rfl h8.o ⟨by decide, rfl⟩ ⟨Nat.le_of_ble_eq_true rfl, Nat.le_of_ble_eq_true rfl⟩ (Nat.le_of_ble_eq_true rfl) ⟨Nat.le_of_ble_eq_true rfl, Nat.le_of_ble_eq_true rfl⟩ (fun r S' I' L' hp => ?_)
      obtain ⟨rfl, rfl, rfl, hF2, hN2⟩ := hp
      refine V_iinc1 (pc := 175) (ls' := [(0, _), (1, _), (2, _), (3, _), (4, _), (5, _), (6, _), (7, _)]) dX8_keepRule_175 rfl (by decide) rfl ?_
      refine V_goto (pc := 178) (tgt := 158) dX8_keepRule_178 (by decide) ?_
      exact ih _ (fun x a1 a2 => (hF2 x a1 a2).trans (hF x a1 a2)) hN2
theorem lp_kr2 (h8 : Lay8 E S T) (h9 : Lay9 E S v) (hvT : v + 6 < T ∨ T + 5 < v) {b d al : Nat} {w5 : Int32} {I0 : IT} (hv : VlM I0 v q) (hq : wq q) (hb : b < 6) (hd : d < 9) {Q : QT} (hk : ∀ J, (∀ x, x ≠ T + 1 → x ≠ T + 2 → x ≠ T + 3 → J x = I0 x) → MoC J T (pn q b) al d 0 → V E kX8_keepRule (rmOf 2 0 0) Q 0 0 S J L 187 [(0, .ref T), (1, .ref v), (2, .int (nI b)), (3, .int (nI d)), (4, .int (nI al)), (5, .int w5), (6, .int (-1))] []) : ∀ j, j ≤ 8 → ∀ J, (∀ x, x ≠ T + 1 → x ≠ T + 2 → x ≠ T + 3 → J x = I0 x) → MoC J T (pn q b) al d j → (j ≠ 0 → ∀ s, s < 256 → J (T + 2) s = nI (nrf (pn q b) al d j s)) → ∀ ls, ls = [(0, .ref T), (1, .ref v), (2, .int (nI b)), (3, .int (nI d)), (4, .int (nI al)), (5, .int w5), (6, .int (pred1 j))] → V E kX8_keepRule (rmOf 2 0 0) Q 0 0 S J L 109 ls [] := by
  intro j
  induction j with
  | zero =>
    intro _ J hF hM _ ls hls
    subst hls
    rw [pred1_0]
    refine V_iload (pc := 109) dX8_keepRule_109 rfl ?_
    refine V_if_lt (pc := 111) (tgt := 187) dX8_keepRule_111 (by decide) (fun c111 => ?_) (fun n111 => absurd n111 (by decide))
    exact hk J hF hM
  | succ j ih =>
    intro hj J hF hM hN ls hls
    subst hls
    rw [pred1_s]
    have hvJ : VlM J v q := hv.cg fun x a1 a2 => hF x (by omega) (by omega) (by omega)
    have hpj := hq.pi b j hb (by omega)
    have h1 := h8.A0
    have h2 := h8.A1
    refine V_iload (pc := 109) dX8_keepRule_109 rfl ?_
    refine V_if_ltN (pc := 111) (tgt := 187) dX8_keepRule_111 (by decide) (by omega) ?_
    refine V_aload_n (pc := 114) dX8_keepRule_114 rfl ?_
    refine V_iload (pc := 115) dX8_keepRule_115 rfl ?_
    refine V_aload_n (pc := 117) dX8_keepRule_117 rfl ?_
    refine V_getR (pc := 118) 9 1 dX8_keepRule_118 flX8_37 (by decide) h9.o h9.R1 ?_
    refine V_iload_n (pc := 121) dX8_keepRule_121 rfl ?_
    refine V_bipush (pc := 122) (v := nI 8) dX8_keepRule_122 (by decide) ?_
    refine V_imulN (pc := 124) dX8_keepRule_124 ?_
    refine V_iload (pc := 125) dX8_keepRule_125 rfl ?_
    refine V_iaddN (pc := 127) dX8_keepRule_127 ?_
    refine V_ialoadE (pc := 128) dX8_keepRule_128 h9.A1 (by first | decide | omega) (by omega) (hvJ.pi hb (by omega)) ?_
    refine V_iload (pc := 129) dX8_keepRule_129 rfl ?_
    refine V_callV (pc := 131) (ci := 8) (c_X8_weighSets h8 (nr := nrf (pn q b) al d (j + 1)) (by omega) hpj (fun s hs => ⟨hN (by omega) s hs, nrf_le _ _ _ _ _⟩)) dX8_keepRule_131 mlX8_60 mkX8_weighSets rfl rfl h8.o ⟨by decide, rfl⟩ ⟨Nat.le_of_ble_eq_true rfl, Nat.le_of_ble_eq_true rfl⟩ (Nat.le_of_ble_eq_true rfl) ⟨Nat.le_of_ble_eq_true rfl, Nat.le_of_ble_eq_true rfl⟩ (fun r S' I' L' hp => ?_)
    obtain ⟨rfl, rfl, rfl, hF2, hO2, hW2⟩ := hp
    have hM2 : MoC I' T (pn q b) al d j := fun k s hk1 hk8 hs => by
      by_cases e : k = j
      · rw [e, mrc_bar _ _ _ _ _ (by omega)]; exact hW2 s hs
      · rw [hO2 _ (by omega)]; exact hM k s (by omega) hk8 hs
    refine V_aload_n (pc := 134) dX8_keepRule_134 rfl ?_
    refine V_getR (pc := 135) 8 0 dX8_keepRule_135 flX8_9 (by decide) h8.o h8.R0 ?_
    refine V_iload (pc := 138) dX8_keepRule_138 rfl ?_
    refine V_sipush (pc := 140) (v := nI 256) dX8_keepRule_140 (by decide) ?_
    refine V_imulN (pc := 143) dX8_keepRule_143 ?_
    refine V_aload_n (pc := 144) dX8_keepRule_144 rfl ?_
    refine V_getR (pc := 145) 8 1 dX8_keepRule_145 flX8_15 (by decide) h8.o h8.R1 ?_
    refine V_iconst (pc := 148) (v := nI 0) dX8_keepRule_148 (by decide) ?_
    refine V_sipush (pc := 149) (v := nI 256) dX8_keepRule_149 (by decide) ?_
    refine V_copy (pc := 152) dX8_keepRule_152 mlX8_64 natAC stAC izSys (by assumption) (by assumption) (by first | decide | omega) (by first | decide | omega) (by omega) (by omega) (Nat.le_of_ble_eq_true rfl) (Nat.le_of_ble_eq_true rfl) ?_
    refine V_iconst (pc := 155) (v := nI 0) dX8_keepRule_155 (by decide) ?_
    refine V_istore (pc := 156) (ls' := [(0, _), (1, _), (2, _), (3, _), (4, _), (5, _), (6, _), (7, _)]) dX8_keepRule_156 (by decide) rfl ?_
    refine lp_kr1 (f := mrc (pn q b) al d (7 - j)) (I0 := upr I' (T + 2) (va_cpy (I' (T + 1)) (I' (T + 2)) (j * 256) 0 256)) h8 hd (by omega) (fun u => by have := mrc_c (p := pn q b) (al := al) (d := d) (7 - j) u; omega) (fun J3 hF3 hN3 w7 => ?_) 0 (Nat.zero_le _) _ (fun _ _ _ => rfl) (fun s hs => ?_)
    · skip
      refine V_loc [0, 1, 2, 3, 4, 5, 6] rfl ?_
      refine V_iinc (pc := 181) (ls' := [(0, _), (1, _), (2, _), (3, _), (4, _), (5, _), (6, _)]) dX8_keepRule_181 rfl (pred1_iinc _) (by decide) rfl ?_
      refine V_goto (pc := 184) (tgt := 109) dX8_keepRule_184 (by decide) ?_
      refine ih (by omega) J3 (fun x a1 a2 a3 => by rw [hF3 x a2 a3, upr_row a2, hF2 x a1]; exact hF x a1 a2 a3) (fun k s hk1 hk8 hs => ?_) (fun j0 s hs => ?_) _ rfl
      · rw [hF3 (T + 1) (by omega) (by omega), upr_row (by omega)]; exact hM2 k s hk1 hk8 hs
      · rw [hN3 j0 s hs]; unfold nrf; rw [if_neg (show ¬ j = 8 by omega)]
    · rw [upr_self, cpyx, if_pos hs]
      exact hM2 j s (Nat.le_refl _) (by omega) hs
theorem lp_kr3 (h8 : Lay8 E S T) {b d al : Nat} {w5 : Int32} {I0 : IT} {p : Nat → Nat} (h255 : ∀ j, j < 8 → 255 &&& p j = p j) (ha : ∀ j, j < 8 → p j &&& al = p j) (hd : d < 9) (hM : MoC I0 T p al d 0) {post : Option Value → ST → IT → LT → Prop} (hpp : ∀ J, (∀ x, x ≠ T + 4 → J x = I0 x) → (∀ j, j < 8 → J (T + 4) j = nI (kpa p d (j + 1)).2) → post (some (.int (nI (kpa p d 0).1))) S J L) : ∀ k, k ≤ 8 → ∀ J, (∀ x, x ≠ T + 4 → J x = I0 x) → (∀ j, j < k → J (T + 4) j = nI (kpa p d (j + 1)).2) → V E kX8_keepRule (rmOf 2 0 0) (QM E post 0 0) 0 0 S J L 190 [(0, .ref T), (1, .ref v), (2, .int (nI b)), (3, .int (nI d)), (4, .int (nI al)), (5, .int w5), (6, .int (nI k))] [] := by
  have hlt : ∀ k, k < 8 → (kpa p d k).2 < 256 := fun k hk => (kpa_ok (d := d) h255 k hk).2.2
  have hlt1 : (kpa p d 1).2 < 256 := hlt 1 (by omega)
  refine loopUp (n := 8) (P := fun k => ∀ J, (∀ x, x ≠ T + 4 → J x = I0 x) → (∀ j, j < k → J (T + 4) j = nI (kpa p d (j + 1)).2) → V E kX8_keepRule (rmOf 2 0 0) (QM E post 0 0) 0 0 S J L 190 [(0, .ref T), (1, .ref v), (2, .int (nI b)), (3, .int (nI d)), (4, .int (nI al)), (5, .int w5), (6, .int (nI k))] []) ?_ ?_
  · intro J hF hJ
    have hpq := hpp J hF hJ
    have hm := kpa_mrc (d := d) h255 ha (show 0 < 8 by omega)
    have hl : J (T + 1) (kpa p d 1).2 = nI (kpa p d 0).1 := by
      rw [hF _ (by omega)]
      have := hM 0 (kpa p d 1).2 (Nat.le_refl _) (by omega) hlt1
      rw [Nat.zero_mul, Nat.zero_add] at this
      rw [this, ← hm]
    have hr0 : J (T + 4) 0 = nI (kpa p d 1).2 := hJ 0 (by omega)
    generalize (kpa p d 1).2 = g1 at hlt1 hl hr0
    generalize (kpa p d 0).1 = g0 at hl hpq
    refine V_iload (pc := 190) dX8_keepRule_190 rfl ?_
    refine V_bipush (pc := 192) (v := nI 8) dX8_keepRule_192 (by decide) ?_
    refine V_icmp_geN (pc := 194) (tgt := 217) dX8_keepRule_194 (by decide) (by omega) (by omega) (fun c194 => ?_) (fun n194 => absurd n194 (by omega))
    refine V_aload_n (pc := 217) dX8_keepRule_217 rfl ?_
    refine V_getR (pc := 218) 8 0 dX8_keepRule_218 flX8_9 (by decide) h8.o h8.R0 ?_
    refine V_aload_n (pc := 221) dX8_keepRule_221 rfl ?_
    refine V_getR (pc := 222) 8 3 dX8_keepRule_222 flX8_21 (by decide) h8.o h8.R3 ?_
    refine V_iconst (pc := 225) (v := nI 0) dX8_keepRule_225 (by decide) ?_
    refine V_ialoadE (pc := 226) dX8_keepRule_226 h8.A3 (by first | decide | omega) (by omega) (hr0) ?_
    refine V_ialoadE (pc := 227) dX8_keepRule_227 h8.A0 (by first | decide | omega) (by omega) (hl) ?_
    refine V_iret (pc := 228) dX8_keepRule_228 rfl (by first | decide | omega) (by first | decide | omega) ?_
    exact hpq
  · intro k hk ih J hF hJ
    have hch := chp_kpa (d := d) h255 ha hk
    refine V_iload (pc := 190) dX8_keepRule_190 rfl ?_
    refine V_bipush (pc := 192) (v := nI 8) dX8_keepRule_192 (by decide) ?_
    refine V_icmp_geN (pc := 194) (tgt := 217) dX8_keepRule_194 (by decide) (by omega) (by omega) (fun c194 => absurd c194 (by omega)) (fun n194 => ?_)
    refine V_aload_n (pc := 197) dX8_keepRule_197 rfl ?_
    refine V_getR (pc := 198) 8 3 dX8_keepRule_198 flX8_21 (by decide) h8.o h8.R3 ?_
    refine V_iload (pc := 201) dX8_keepRule_201 rfl ?_
    refine V_aload_n (pc := 203) dX8_keepRule_203 rfl ?_
    refine V_iload (pc := 204) dX8_keepRule_204 rfl ?_
    refine V_iload_n (pc := 206) dX8_keepRule_206 rfl ?_
    refine V_callVd (pc := 207) (ci := 8) (c_X8_cheapest h8 (ah := (kpa p d k).2) (w := mrc p al d (7 - k)) hk hd (hlt k hk) (fun s hs => ⟨by rw [hF _ (by omega)]; exact hM k s (Nat.zero_le _) hk hs, by have := mrc_c (p := p) (al := al) (d := d) (7 - k) s; omega⟩) (fun h0 => by have := hJ (k - 1) (by omega); rw [show k - 1 + 1 = k by omega] at this; exact this)) dX8_keepRule_207 mlX8_74 mkX8_cheapest rfl rfl h8.o ⟨by decide, rfl⟩ ⟨Nat.le_of_ble_eq_true rfl, Nat.le_of_ble_eq_true rfl⟩ (Nat.le_of_ble_eq_true rfl) ⟨Nat.le_of_ble_eq_true rfl, Nat.le_of_ble_eq_true rfl⟩ ?_
    rw [hch]
    refine V_iastore (pc := 210) dX8_keepRule_210 h8.A3 (by first | decide | omega) (by omega) ?_
    refine V_iinc1 (pc := 211) (ls' := [(0, _), (1, _), (2, _), (3, _), (4, _), (5, _), (6, _)]) dX8_keepRule_211 rfl (by decide) rfl ?_
    refine V_goto (pc := 214) (tgt := 190) dX8_keepRule_214 (by decide) ?_
    refine ih _ (fun x hx => by rw [up2_row hx]; exact hF x hx) (fun j hj => ?_)
    by_cases e : j = k
    · subst e; rw [up2_self]
    · rw [up2_nej e]; exact hJ j (by omega)
theorem c_X8_keepRule (h8 : Lay8 E S T) (h9 : Lay9 E S v) (hvT : v + 6 < T ∨ T + 5 < v) {b d : Nat} (hv : VlM I v q) (hq : wq q) (hb : b < 6) (hd : d < 9) : C E kX8_keepRule 2 0 0 [.ref T, .ref v, .int (nI b), .int (nI d)] S I L (fun r S' I' L' => r = some (.int (nI (kpa (pn q b) d 0).1)) ∧ S = S' ∧ L = L' ∧ (∀ x, (x < T + 1 ∨ T + 4 < x) → I' x = I x) ∧ ∀ j, j < 8 → I' (T + 4) j = nI (kpa (pn q b) d (j + 1)).2) := by
  have hp : ∀ j, j < 8 → pn q b j < 256 := fun j hj => hq.pi b j hb hj
  have h255 : ∀ j, j < 8 → 255 &&& pn q b j = pn q b j := fun j hj => and255 (hp j hj)
  have hal : ∀ j, j < 8 → pn q b j &&& orr (pn q b) 8 = pn q b j := fun j hj => orr_sub 8 j hj
  have h256 := orr_256 hp
  generalize hPost : (fun (r : Option Value) (S' : ST) (I' : IT) (L' : LT) => r = some (.int (nI (kpa (pn q b) d 0).1)) ∧ S = S' ∧ L = L' ∧ (∀ x, (x < T + 1 ∨ T + 4 < x) → I' x = I x) ∧ ∀ j, j < 8 → I' (T + 4) j = nI (kpa (pn q b) d (j + 1)).2) = post
  refine C_of (by decide) (Nat.le_of_ble_eq_true rfl) ?_
  have behind : ∀ J, (∀ x, x ≠ T + 4 → J x = I x) → (∀ j, j < 8 → J (T + 4) j = nI (pn q b j)) → V E kX8_keepRule (rmOf 2 0 0) (QM E post 0 0) 0 0 S J L 89 [(0, .ref T), (1, .ref v), (2, .int (nI b)), (3, .int (nI d)), (4, .int (nI (orr (pn q b) 8))), (5, .int (nI (wdt (pn q b) 8))), (6, .int (nI 8))] [] := by
    intro J hF hJ
    have hw8 := wdt_le (pn q b) 8
    by_cases hw : wdt (pn q b) 8 ≤ d
    · have hself := kpa_self (p := pn q b) (d := d) (fun j hj => Nat.le_trans (wdt_at 8 j (by omega)) hw) hp
      have hpp : post (some (.int (nI 0))) S J L := by
        rw [← hPost]
        refine ⟨by rw [(hself 0 (by omega)).1], rfl, rfl, fun x hx => hF x (by omega), fun j hj => ?_⟩
        rw [hJ j hj, (hself (j + 1) (by omega)).2 (by omega), Nat.add_sub_cancel]
      refine V_iload (pc := 89) dX8_keepRule_89 rfl ?_
      refine V_iload_n (pc := 91) dX8_keepRule_91 rfl ?_
      refine V_icmp_gtN (pc := 92) (tgt := 97) dX8_keepRule_92 (by decide) (by omega) (by omega) (fun c92 => absurd c92 (by omega)) (fun n92 => ?_)
      refine V_iconst (pc := 95) (v := nI 0) dX8_keepRule_95 (by decide) ?_
      refine V_iret (pc := 96) dX8_keepRule_96 rfl (by first | decide | omega) (by first | decide | omega) ?_
      exact hpp
    · have hvJ : VlM J v q := hv.cg fun x a1 a2 => hF x (by omega)
      refine V_iload (pc := 89) dX8_keepRule_89 rfl ?_
      refine V_iload_n (pc := 91) dX8_keepRule_91 rfl ?_
      refine V_icmp_gtN (pc := 92) (tgt := 97) dX8_keepRule_92 (by decide) (by omega) (by omega) (fun c92 => ?_) (fun n92 => absurd n92 (by omega))
      refine V_aload_n (pc := 97) dX8_keepRule_97 rfl ?_
      refine V_getR (pc := 98) 8 1 dX8_keepRule_98 flX8_15 (by decide) h8.o h8.R1 ?_
      refine V_iconst (pc := 101) (v := nI 0) dX8_keepRule_101 (by decide) ?_
      refine V_callSn (pc := 102) (c_J7_fill_53178 h8.A1 (by omega)) dX8_keepRule_102 mlX8_54 mkJ7_fill_53178 rfl rfl ⟨Nat.le_of_ble_eq_true rfl, Nat.le_of_ble_eq_true rfl⟩ (Nat.le_of_ble_eq_true rfl) ⟨Nat.le_of_ble_eq_true rfl, Nat.le_of_ble_eq_true rfl⟩ ?_
      refine V_bipush (pc := 105) (v := nI 7) dX8_keepRule_105 (by decide) ?_
      refine V_istore (pc := 107) (ls' := [(0, _), (1, _), (2, _), (3, _), (4, _), (5, _), (6, _)]) dX8_keepRule_107 (by decide) rfl ?_
      refine lp_kr2 (I0 := J) h8 h9 hvT hvJ hq hb hd (fun J2 hF2 hM2 => ?_) 8 (Nat.le_refl _) _ (fun x a1 a2 a3 => upr_row a2) (fun k s h1 h2 hs => by omega) (fun _ s hs => ?_) _ rfl
      · skip
        refine V_iconst (pc := 187) (v := nI 0) dX8_keepRule_187 (by decide) ?_
        refine V_istore (pc := 188) (ls' := [(0, _), (1, _), (2, _), (3, _), (4, _), (5, _), (6, _)]) dX8_keepRule_188 (by decide) rfl ?_
        refine lp_kr3 (I0 := J2) h8 h255 hal hd hM2 (fun J3 hF3 hJ3 => ?_) 0 (by omega) J2 (fun _ _ => rfl) (fun j hj => absurd hj (Nat.not_lt_zero j))
        rw [← hPost]
        exact ⟨rfl, rfl, rfl, fun x hx => by rw [hF3 x (by omega), hF2 x (by omega) (by omega) (by omega)]; exact hF x (by omega), hJ3⟩
      · rw [upr_self, if_pos hs]; rfl
  have key : ∀ j, j ≤ 8 → ∀ J, (∀ x, x ≠ T + 4 → J x = I x) → (∀ k, k < j → J (T + 4) k = nI (pn q b k)) → V E kX8_keepRule (rmOf 2 0 0) (QM E post 0 0) 0 0 S J L 9 [(0, .ref T), (1, .ref v), (2, .int (nI b)), (3, .int (nI d)), (4, .int (nI (orr (pn q b) j))), (5, .int (nI (wdt (pn q b) j))), (6, .int (nI j))] [] := by
    refine loopUp (n := 8) (P := fun j => ∀ J, (∀ x, x ≠ T + 4 → J x = I x) → (∀ k, k < j → J (T + 4) k = nI (pn q b k)) → V E kX8_keepRule (rmOf 2 0 0) (QM E post 0 0) 0 0 S J L 9 [(0, .ref T), (1, .ref v), (2, .int (nI b)), (3, .int (nI d)), (4, .int (nI (orr (pn q b) j))), (5, .int (nI (wdt (pn q b) j))), (6, .int (nI j))] []) ?_ ?_
    · intro J hF hJ
      refine V_iload (pc := 9) dX8_keepRule_9 rfl ?_
      refine V_bipush (pc := 11) (v := nI 8) dX8_keepRule_11 (by decide) ?_
      refine V_icmp_geN (pc := 13) (tgt := 89) dX8_keepRule_13 (by decide) (by omega) (by omega) (fun c13 => ?_) (fun n13 => absurd n13 (by omega))
      exact behind J hF hJ
    · intro j hj ih J hF hJ
      have hvJ : VlM J v q := hv.cg fun x a1 a2 => hF x (by omega)
      have hpj := hp j hj
      have hwj := wdt_le (pn q b) j
      have epj : J (v + 1) (b * 8 + j) = nI (pn q b j) := hvJ.pi hb hj
      have eo : orr (pn q b) (j + 1) = orr (pn q b) j ||| pn q b j := rfl
      rw [wdt_s, eo] at ih
      have fin : ∀ m, m ≤ 8 → m = (if 0 < j then pop8 (pn q b j ^^^ pn q b (j - 1)) else 0) → V E kX8_keepRule (rmOf 2 0 0) (QM E post 0 0) 0 0 S (up2 J (T + 4) j (nI (pn q b j))) L 78 [(0, .ref T), (1, .ref v), (2, .int (nI b)), (3, .int (nI d)), (4, .int (nI (orr (pn q b) j ||| pn q b j))), (5, .int (nI (wdt (pn q b) j))), (6, .int (nI j))] [.int (nI m), .int (nI (wdt (pn q b) j))] := by
        intro m hm8 hm
        rw [← hm] at ih
        refine V_mmaxN (pc := 78) dX8_keepRule_78 mlX8_48 (Nat.le_of_ble_eq_true rfl) (Nat.le_of_ble_eq_true rfl) ⟨Nat.le_of_ble_eq_true rfl, Nat.le_of_ble_eq_true rfl⟩ (by omega) (by omega) ?_
        refine V_istore (pc := 81) (ls' := [(0, _), (1, _), (2, _), (3, _), (4, _), (5, _), (6, _)]) dX8_keepRule_81 (by decide) rfl ?_
        refine V_iinc1 (pc := 83) (ls' := [(0, _), (1, _), (2, _), (3, _), (4, _), (5, _), (6, _)]) dX8_keepRule_83 rfl (by decide) rfl ?_
        refine V_goto (pc := 86) (tgt := 9) dX8_keepRule_86 (by decide) ?_
        refine ih _ (fun x hx => by rw [up2_row hx]; exact hF x hx) (fun k hk => ?_)
        by_cases e : k = j
        · subst e; rw [up2_self]
        · rw [up2_nej e]; exact hJ k (by omega)
      by_cases j0 : j = 0
      · skip
        refine V_iload (pc := 9) dX8_keepRule_9 rfl ?_
        refine V_bipush (pc := 11) (v := nI 8) dX8_keepRule_11 (by decide) ?_
        refine V_icmp_geN (pc := 13) (tgt := 89) dX8_keepRule_13 (by decide) (by omega) (by omega) (fun c13 => absurd c13 (by omega)) (fun n13 => ?_)
        refine V_aload_n (pc := 16) dX8_keepRule_16 rfl ?_
        refine V_getR (pc := 17) 8 3 dX8_keepRule_17 flX8_21 (by decide) h8.o h8.R3 ?_
        refine V_iload (pc := 20) dX8_keepRule_20 rfl ?_
        refine V_aload_n (pc := 22) dX8_keepRule_22 rfl ?_
        refine V_getR (pc := 23) 9 1 dX8_keepRule_23 flX8_37 (by decide) h9.o h9.R1 ?_
        refine V_iload_n (pc := 26) dX8_keepRule_26 rfl ?_
        refine V_bipush (pc := 27) (v := nI 8) dX8_keepRule_27 (by decide) ?_
        refine V_imulN (pc := 29) dX8_keepRule_29 ?_
        refine V_iload (pc := 30) dX8_keepRule_30 rfl ?_
        refine V_iaddN (pc := 32) dX8_keepRule_32 ?_
        refine V_ialoadE (pc := 33) dX8_keepRule_33 h9.A1 (by first | decide | omega) (by omega) (epj) ?_
        refine V_iastore (pc := 34) dX8_keepRule_34 h8.A3 (by first | decide | omega) (by omega) ?_
        refine V_iload (pc := 35) dX8_keepRule_35 rfl ?_
        refine V_aload_n (pc := 37) dX8_keepRule_37 rfl ?_
        refine V_getR (pc := 38) 8 3 dX8_keepRule_38 flX8_21 (by decide) h8.o h8.R3 ?_
        refine V_iload (pc := 41) dX8_keepRule_41 rfl ?_
        refine V_ialoadE (pc := 43) dX8_keepRule_43 h8.A3 (by first | decide | omega) (by omega) (up2_self) ?_
        refine V_iorN (pc := 44) dX8_keepRule_44 ?_
        refine V_istore (pc := 45) (ls' := [(0, _), (1, _), (2, _), (3, _), (4, _), (5, _), (6, _)]) dX8_keepRule_45 (by decide) rfl ?_
        refine V_iload (pc := 47) dX8_keepRule_47 rfl ?_
        refine V_iload (pc := 49) dX8_keepRule_49 rfl ?_
        refine V_if_leN (pc := 51) (tgt := 77) dX8_keepRule_51 (by decide) (by omega) (fun c51 => ?_) (fun n51 => absurd n51 (by omega))
        refine V_iconst (pc := 77) (v := nI 0) dX8_keepRule_77 (by decide) ?_
        exact fin 0 (by omega) (by rw [if_neg (by omega)])
      · have hx := xor256 hpj (hp (j - 1) (by omega))
        have epk : up2 J (T + 4) j (nI (pn q b j)) (T + 4) (j - 1) = nI (pn q b (j - 1)) := by rw [up2_nej (by omega)]; exact hJ (j - 1) (by omega)
        refine V_iload (pc := 9) dX8_keepRule_9 rfl ?_
        refine V_bipush (pc := 11) (v := nI 8) dX8_keepRule_11 (by decide) ?_
        refine V_icmp_geN (pc := 13) (tgt := 89) dX8_keepRule_13 (by decide) (by omega) (by omega) (fun c13 => absurd c13 (by omega)) (fun n13 => ?_)
        refine V_aload_n (pc := 16) dX8_keepRule_16 rfl ?_
        refine V_getR (pc := 17) 8 3 dX8_keepRule_17 flX8_21 (by decide) h8.o h8.R3 ?_
        refine V_iload (pc := 20) dX8_keepRule_20 rfl ?_
        refine V_aload_n (pc := 22) dX8_keepRule_22 rfl ?_
        refine V_getR (pc := 23) 9 1 dX8_keepRule_23 flX8_37 (by decide) h9.o h9.R1 ?_
        refine V_iload_n (pc := 26) dX8_keepRule_26 rfl ?_
        refine V_bipush (pc := 27) (v := nI 8) dX8_keepRule_27 (by decide) ?_
        refine V_imulN (pc := 29) dX8_keepRule_29 ?_
        refine V_iload (pc := 30) dX8_keepRule_30 rfl ?_
        refine V_iaddN (pc := 32) dX8_keepRule_32 ?_
        refine V_ialoadE (pc := 33) dX8_keepRule_33 h9.A1 (by first | decide | omega) (by omega) (epj) ?_
        refine V_iastore (pc := 34) dX8_keepRule_34 h8.A3 (by first | decide | omega) (by omega) ?_
        refine V_iload (pc := 35) dX8_keepRule_35 rfl ?_
        refine V_aload_n (pc := 37) dX8_keepRule_37 rfl ?_
        refine V_getR (pc := 38) 8 3 dX8_keepRule_38 flX8_21 (by decide) h8.o h8.R3 ?_
        refine V_iload (pc := 41) dX8_keepRule_41 rfl ?_
        refine V_ialoadE (pc := 43) dX8_keepRule_43 h8.A3 (by first | decide | omega) (by omega) (up2_self) ?_
        refine V_iorN (pc := 44) dX8_keepRule_44 ?_
        refine V_istore (pc := 45) (ls' := [(0, _), (1, _), (2, _), (3, _), (4, _), (5, _), (6, _)]) dX8_keepRule_45 (by decide) rfl ?_
        refine V_iload (pc := 47) dX8_keepRule_47 rfl ?_
        refine V_iload (pc := 49) dX8_keepRule_49 rfl ?_
        refine V_if_leN (pc := 51) (tgt := 77) dX8_keepRule_51 (by decide) (by omega) (fun c51 => absurd c51 (by omega)) (fun n51 => ?_)
        refine V_aload_n (pc := 54) dX8_keepRule_54 rfl ?_
        refine V_getR (pc := 55) 8 3 dX8_keepRule_55 flX8_21 (by decide) h8.o h8.R3 ?_
        refine V_iload (pc := 58) dX8_keepRule_58 rfl ?_
        refine V_ialoadE (pc := 60) dX8_keepRule_60 h8.A3 (by first | decide | omega) (by omega) (up2_self) ?_
        refine V_aload_n (pc := 61) dX8_keepRule_61 rfl ?_
        refine V_getR (pc := 62) 8 3 dX8_keepRule_62 flX8_21 (by decide) h8.o h8.R3 ?_
        refine V_iload (pc := 65) dX8_keepRule_65 rfl ?_
        refine V_iconst (pc := 67) (v := nI 1) dX8_keepRule_67 (by decide) ?_
        refine V_isubN (pc := 68) dX8_keepRule_68 (by omega) ?_
        refine V_ialoadE (pc := 69) dX8_keepRule_69 h8.A3 (by first | decide | omega) (by omega) (epk) ?_
        refine V_ixorN (pc := 70) dX8_keepRule_70 ?_
        refine V_callSd (pc := 71) (c_J6_bitCount_0f7a4) dX8_keepRule_71 mlX8_42 mkJ6_bitCount_0f7a4 rfl rfl ⟨Nat.le_of_ble_eq_true rfl, Nat.le_of_ble_eq_true rfl⟩ (Nat.le_of_ble_eq_true rfl) ⟨Nat.le_of_ble_eq_true rfl, Nat.le_of_ble_eq_true rfl⟩ ?_
        rw [bcI_N _ hx]
        refine V_goto (pc := 74) (tgt := 78) dX8_keepRule_74 (by decide) ?_
        exact fin _ (pop8_le _) (by rw [if_pos (by omega)])
  refine V_iconst (pc := 0) (v := nI 0) dX8_keepRule_0 (by decide) ?_
  refine V_istore (pc := 1) (ls' := [(0, _), (1, _), (2, _), (3, _), (4, _)]) dX8_keepRule_1 (by decide) rfl ?_
  refine V_iconst (pc := 3) (v := nI 0) dX8_keepRule_3 (by decide) ?_
  refine V_istore (pc := 4) (ls' := [(0, _), (1, _), (2, _), (3, _), (4, _), (5, _)]) dX8_keepRule_4 (by decide) rfl ?_
  refine V_iconst (pc := 6) (v := nI 0) dX8_keepRule_6 (by decide) ?_
  refine V_istore (pc := 7) (ls' := [(0, _), (1, _), (2, _), (3, _), (4, _), (5, _), (6, _)]) dX8_keepRule_7 (by decide) rfl ?_
  exact key 0 (by omega) I (fun _ _ => rfl) (fun k hk => absurd hk (Nat.not_lt_zero k))
end DD
section DD2
variable {E : EnT} {S : ST} {I : IT} {L : LT} {B : Nat} {A : AT}
theorem c_X11_keep (h11 : Lay11 E S B) (hR : CR E S B I A) (hA : wfA A) {x y z : Int32} : Cc E kX11_keep 3 [.ref B, .int x, .int y, .int z] S I L B (.int (spKeep A x y z)) A := by
  have hq := hA.q
  have hnb := hq.nb
  refine C_of (by decide) (Nat.le_of_ble_eq_true rfl) ?_
  refine V_aload_n (pc := 0) dX11_keep_0 rfl ?_
  refine V_getR (pc := 1) 11 0 dX11_keep_1 flX11_91 (by decide) h11.o h11.R0 ?_
  refine V_getR (pc := 4) 10 0 dX11_keep_4 flX11_116 (by decide) h11.O0.o h11.O0.R0 ?_
  refine V_iload_n (pc := 7) dX11_keep_7 rfl ?_
  refine V_callVd (pc := 8) (ci := 9) (c_X9_hasBox h11.O0.O0 hR.1.1 hq) dX11_keep_8 mlX11_140 mkX9_hasBox rfl rfl h11.O0.O0.o ⟨by decide, rfl⟩ ⟨Nat.le_of_ble_eq_true rfl, Nat.le_of_ble_eq_true rfl⟩ (Nat.le_of_ble_eq_true rfl) ⟨Nat.le_of_ble_eq_true rfl, Nat.le_of_ble_eq_true rfl⟩ ?_
  refine V_if_eqB (pc := 11) (tgt := 36) dX11_keep_11 (by decide) (fun c11 => ?_) (fun n11 => ?_)
  · skip
    refine V_iconst (pc := 36) (v := (-1)) dX11_keep_36 (by decide) ?_
    refine V_iret (pc := 37) dX11_keep_37 rfl (by first | decide | omega) (by first | decide | omega) ?_
    first
    | (rw [spKeep, if_neg (fun u => by rw [u.1] at c11; exact absurd c11 (by decide))]; exact ⟨rfl, rfl, hR, FrC.rf⟩)
    | (rw [spKeep, if_neg (fun u => by rw [bnd_lo c15] at u; exact absurd u.2.1 (by decide))]; exact ⟨rfl, rfl, hR, FrC.rf⟩)
    | (rw [spKeep, if_neg (fun u => by rw [bnd_gt (n := 8) (by omega) c21] at u; exact absurd u.2.1 (by decide))]; exact ⟨rfl, rfl, hR, FrC.rf⟩)
    | (rw [spKeep, if_neg (fun u => by rcases u.2.2 with w | w; exact absurd w n26; rw [w] at n33; exact absurd n33 (by decide))]; exact ⟨rfl, rfl, hR, FrC.rf⟩)
    | fail
  · skip
    refine V_iload_n (pc := 14) dX11_keep_14 rfl ?_
    refine V_if_lt (pc := 15) (tgt := 36) dX11_keep_15 (by decide) (fun c15 => ?_) (fun n15 => ?_)
    · skip
      refine V_iconst (pc := 36) (v := (-1)) dX11_keep_36 (by decide) ?_
      refine V_iret (pc := 37) dX11_keep_37 rfl (by first | decide | omega) (by first | decide | omega) ?_
      first
      | (rw [spKeep, if_neg (fun u => by rw [u.1] at c11; exact absurd c11 (by decide))]; exact ⟨rfl, rfl, hR, FrC.rf⟩)
      | (rw [spKeep, if_neg (fun u => by rw [bnd_lo c15] at u; exact absurd u.2.1 (by decide))]; exact ⟨rfl, rfl, hR, FrC.rf⟩)
      | (rw [spKeep, if_neg (fun u => by rw [bnd_gt (n := 8) (by omega) c21] at u; exact absurd u.2.1 (by decide))]; exact ⟨rfl, rfl, hR, FrC.rf⟩)
      | (rw [spKeep, if_neg (fun u => by rcases u.2.2 with w | w; exact absurd w n26; rw [w] at n33; exact absurd n33 (by decide))]; exact ⟨rfl, rfl, hR, FrC.rf⟩)
      | fail
    · skip
      refine V_iload_n (pc := 18) dX11_keep_18 rfl ?_
      refine V_bipush (pc := 19) (v := nI 8) dX11_keep_19 (by decide) ?_
      refine V_icmp_gt (pc := 21) (tgt := 36) dX11_keep_21 (by decide) (fun c21 => ?_) (fun n21 => ?_)
      · skip
        refine V_iconst (pc := 36) (v := (-1)) dX11_keep_36 (by decide) ?_
        refine V_iret (pc := 37) dX11_keep_37 rfl (by first | decide | omega) (by first | decide | omega) ?_
        first
        | (rw [spKeep, if_neg (fun u => by rw [u.1] at c11; exact absurd c11 (by decide))]; exact ⟨rfl, rfl, hR, FrC.rf⟩)
        | (rw [spKeep, if_neg (fun u => by rw [bnd_lo c15] at u; exact absurd u.2.1 (by decide))]; exact ⟨rfl, rfl, hR, FrC.rf⟩)
        | (rw [spKeep, if_neg (fun u => by rw [bnd_gt (n := 8) (by omega) c21] at u; exact absurd u.2.1 (by decide))]; exact ⟨rfl, rfl, hR, FrC.rf⟩)
        | (rw [spKeep, if_neg (fun u => by rcases u.2.2 with w | w; exact absurd w n26; rw [w] at n33; exact absurd n33 (by decide))]; exact ⟨rfl, rfl, hR, FrC.rf⟩)
        | fail
      · skip
        refine V_iload_n (pc := 24) dX11_keep_24 rfl ?_
        refine V_iconst (pc := 25) (v := (-1)) dX11_keep_25 (by decide) ?_
        refine V_icmp_eq (pc := 26) (tgt := 38) dX11_keep_26 (by decide) (fun c26 => ?_) (fun n26 => ?_)
        · skip
          have hb2 : bnd y 9 = true := bnd_ngt (n := 8) (by omega) n15 n21
          have hz : z = -1 ∨ bnd z 8 = true := by
            first
              | exact Or.inl c26
              | exact Or.inr c33
              | fail
          rw [spKeep, if_pos ⟨n11, hb2, hz⟩]
          obtain ⟨b, hb, e1⟩ := bnd_ex (by omega) n11
          obtain ⟨d, hd, e2⟩ := bnd_ex (by omega) hb2
          subst e1 e2
          rw [cln_nI (by omega), cln_nI (by omega)]
          refine V_aload_n (pc := 38) dX11_keep_38 rfl ?_
          refine V_getR (pc := 39) 11 7 dX11_keep_39 flX11_29 (by decide) h11.o h11.R7 ?_
          refine V_aload_n (pc := 42) dX11_keep_42 rfl ?_
          refine V_getR (pc := 43) 11 0 dX11_keep_43 flX11_91 (by decide) h11.o h11.R0 ?_
          refine V_getR (pc := 46) 10 0 dX11_keep_46 flX11_116 (by decide) h11.O0.o h11.O0.R0 ?_
          refine V_iload_n (pc := 49) dX11_keep_49 rfl ?_
          refine V_iload_n (pc := 50) dX11_keep_50 rfl ?_
          refine V_callV (pc := 51) (ci := 8) (c_X8_keepRule h11.O7 h11.O0.O0 (by omega) hR.1.1 hq (by omega) hd) dX11_keep_51 mlX11_327 mkX8_keepRule rfl rfl h11.O7.o ⟨by decide, rfl⟩ ⟨Nat.le_of_ble_eq_true rfl, Nat.le_of_ble_eq_true rfl⟩ (Nat.le_of_ble_eq_true rfl) ⟨Nat.le_of_ble_eq_true rfl, Nat.le_of_ble_eq_true rfl⟩ (fun r S' I' L' hp => ?_)
          obtain ⟨rfl, rfl, rfl, hF, hrow⟩ := hp
          have hD : DdC B I' I := DdC.of fun x hx => hF x (by unfold lvC at hx; omega)
          refine V_istore (pc := 54) (ls' := [(0, _), (1, _), (2, _), (3, _), (4, _)]) dX11_keep_54 (by decide) rfl ?_
          refine V_iload_n (pc := 56) dX11_keep_56 rfl ?_
          refine V_iconst (pc := 57) (v := (-1)) dX11_keep_57 (by decide) ?_
          refine V_icmp_ne (pc := 58) (tgt := 66) dX11_keep_58 (by decide) (fun c58 => ?_) (fun n58 => ?_)
          · skip
            obtain ⟨j, hj, e3⟩ := bnd_ex (n := 8) (x := z) (by omega) (by rcases hz with w | w; exact absurd w c58; exact w)
            subst e3
            rw [if_neg c58, cln_nI (by omega)]
            refine V_aload_n (pc := 66) dX11_keep_66 rfl ?_
            refine V_getR (pc := 67) 11 7 dX11_keep_67 flX11_29 (by decide) h11.o h11.R7 ?_
            refine V_getR (pc := 70) 8 3 dX11_keep_70 flX11_331 (by decide) h11.O7.o h11.O7.R3 ?_
            refine V_iload_n (pc := 73) dX11_keep_73 rfl ?_
            refine V_ialoadE (pc := 74) dX11_keep_74 h11.O7.A3 (by first | decide | omega) (by omega) (hrow j hj) ?_
            refine V_iret (pc := 75) dX11_keep_75 rfl (by first | decide | omega) (by first | decide | omega) ?_
            first
            | (rw [if_pos n58]; exact ⟨rfl, rfl, hR.dd hD, hD.Fr⟩)
            | exact ⟨rfl, rfl, hR.dd hD, hD.Fr⟩
            | fail
          · skip
            refine V_iload (pc := 61) dX11_keep_61 rfl ?_
            refine V_goto (pc := 63) (tgt := 75) dX11_keep_63 (by decide) ?_
            refine V_iret (pc := 75) dX11_keep_75 rfl (by first | decide | omega) (by first | decide | omega) ?_
            first
            | (rw [if_pos n58]; exact ⟨rfl, rfl, hR.dd hD, hD.Fr⟩)
            | exact ⟨rfl, rfl, hR.dd hD, hD.Fr⟩
            | fail
        · skip
          refine V_iload_n (pc := 29) dX11_keep_29 rfl ?_
          refine V_callSd (pc := 30) (c_X11_isBar) dX11_keep_30 mlX11_166 mkX11_isBar rfl rfl ⟨Nat.le_of_ble_eq_true rfl, Nat.le_of_ble_eq_true rfl⟩ (Nat.le_of_ble_eq_true rfl) ⟨Nat.le_of_ble_eq_true rfl, Nat.le_of_ble_eq_true rfl⟩ ?_
          refine V_if_neB (pc := 33) (tgt := 38) dX11_keep_33 (by decide) (fun c33 => ?_) (fun n33 => ?_)
          · skip
            have hb2 : bnd y 9 = true := bnd_ngt (n := 8) (by omega) n15 n21
            have hz : z = -1 ∨ bnd z 8 = true := by
              first
                | exact Or.inl c26
                | exact Or.inr c33
                | fail
            rw [spKeep, if_pos ⟨n11, hb2, hz⟩]
            obtain ⟨b, hb, e1⟩ := bnd_ex (by omega) n11
            obtain ⟨d, hd, e2⟩ := bnd_ex (by omega) hb2
            subst e1 e2
            rw [cln_nI (by omega), cln_nI (by omega)]
            refine V_aload_n (pc := 38) dX11_keep_38 rfl ?_
            refine V_getR (pc := 39) 11 7 dX11_keep_39 flX11_29 (by decide) h11.o h11.R7 ?_
            refine V_aload_n (pc := 42) dX11_keep_42 rfl ?_
            refine V_getR (pc := 43) 11 0 dX11_keep_43 flX11_91 (by decide) h11.o h11.R0 ?_
            refine V_getR (pc := 46) 10 0 dX11_keep_46 flX11_116 (by decide) h11.O0.o h11.O0.R0 ?_
            refine V_iload_n (pc := 49) dX11_keep_49 rfl ?_
            refine V_iload_n (pc := 50) dX11_keep_50 rfl ?_
            refine V_callV (pc := 51) (ci := 8) (c_X8_keepRule h11.O7 h11.O0.O0 (by omega) hR.1.1 hq (by omega) hd) dX11_keep_51 mlX11_327 mkX8_keepRule rfl rfl h11.O7.o ⟨by decide, rfl⟩ ⟨Nat.le_of_ble_eq_true rfl, Nat.le_of_ble_eq_true rfl⟩ (Nat.le_of_ble_eq_true rfl) ⟨Nat.le_of_ble_eq_true rfl, Nat.le_of_ble_eq_true rfl⟩ (fun r S' I' L' hp => ?_)
            obtain ⟨rfl, rfl, rfl, hF, hrow⟩ := hp
            have hD : DdC B I' I := DdC.of fun x hx => hF x (by unfold lvC at hx; omega)
            refine V_istore (pc := 54) (ls' := [(0, _), (1, _), (2, _), (3, _), (4, _)]) dX11_keep_54 (by decide) rfl ?_
            refine V_iload_n (pc := 56) dX11_keep_56 rfl ?_
            refine V_iconst (pc := 57) (v := (-1)) dX11_keep_57 (by decide) ?_
            refine V_icmp_ne (pc := 58) (tgt := 66) dX11_keep_58 (by decide) (fun c58 => ?_) (fun n58 => ?_)
            · skip
              obtain ⟨j, hj, e3⟩ := bnd_ex (n := 8) (x := z) (by omega) (by rcases hz with w | w; exact absurd w c58; exact w)
              subst e3
              rw [if_neg c58, cln_nI (by omega)]
              refine V_aload_n (pc := 66) dX11_keep_66 rfl ?_
              refine V_getR (pc := 67) 11 7 dX11_keep_67 flX11_29 (by decide) h11.o h11.R7 ?_
              refine V_getR (pc := 70) 8 3 dX11_keep_70 flX11_331 (by decide) h11.O7.o h11.O7.R3 ?_
              refine V_iload_n (pc := 73) dX11_keep_73 rfl ?_
              refine V_ialoadE (pc := 74) dX11_keep_74 h11.O7.A3 (by first | decide | omega) (by omega) (hrow j hj) ?_
              refine V_iret (pc := 75) dX11_keep_75 rfl (by first | decide | omega) (by first | decide | omega) ?_
              first
              | (rw [if_pos n58]; exact ⟨rfl, rfl, hR.dd hD, hD.Fr⟩)
              | exact ⟨rfl, rfl, hR.dd hD, hD.Fr⟩
              | fail
            · skip
              refine V_iload (pc := 61) dX11_keep_61 rfl ?_
              refine V_goto (pc := 63) (tgt := 75) dX11_keep_63 (by decide) ?_
              refine V_iret (pc := 75) dX11_keep_75 rfl (by first | decide | omega) (by first | decide | omega) ?_
              first
              | (rw [if_pos n58]; exact ⟨rfl, rfl, hR.dd hD, hD.Fr⟩)
              | exact ⟨rfl, rfl, hR.dd hD, hD.Fr⟩
              | fail
          · skip
            refine V_iconst (pc := 36) (v := (-1)) dX11_keep_36 (by decide) ?_
            refine V_iret (pc := 37) dX11_keep_37 rfl (by first | decide | omega) (by first | decide | omega) ?_
            first
            | (rw [spKeep, if_neg (fun u => by rw [u.1] at c11; exact absurd c11 (by decide))]; exact ⟨rfl, rfl, hR, FrC.rf⟩)
            | (rw [spKeep, if_neg (fun u => by rw [bnd_lo c15] at u; exact absurd u.2.1 (by decide))]; exact ⟨rfl, rfl, hR, FrC.rf⟩)
            | (rw [spKeep, if_neg (fun u => by rw [bnd_gt (n := 8) (by omega) c21] at u; exact absurd u.2.1 (by decide))]; exact ⟨rfl, rfl, hR, FrC.rf⟩)
            | (rw [spKeep, if_neg (fun u => by rcases u.2.2 with w | w; exact absurd w n26; rw [w] at n33; exact absurd n33 (by decide))]; exact ⟨rfl, rfl, hR, FrC.rf⟩)
            | fail
end DD2
