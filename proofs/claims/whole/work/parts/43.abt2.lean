/-! THE REFERENCE: about -/
def fst1 (p : Nat → Bool) (s : Nat) : Nat → Nat | 0 => s | k + 1 => if p s = true then s else fst1 p (s + 1) k
/-- whom a box has, of the couples that are best: the first suitor, or as many as there are for none -/
def abs1 (law : LawT) (q : Nat → Nat) (d tk b : Nat) : Nat := fst1 (fun s => cas law q d tk b s && decide (1000 - difq law q b s + abd law q d (q 0 - (b + 1)) (tk ||| 2 ^ s) = abd law q d (q 0 - b) tk)) 0 (q 1)
def abt1 (law : LawT) (q : Nat → Nat) (d : Nat) : Nat → Nat | 0 => 0 | b + 1 => abt1 law q d b ||| (if abs1 law q d (abt1 law q d b) b < q 1 then 2 ^ abs1 law q d (abt1 law q d b) b else 0)
def abv1 (law : LawT) (q : Nat → Nat) (d b : Nat) : Int32 := if q (68 + b) ≠ 0 then -1 else if abs1 law q d (abt1 law q d b) b < q 1 then nI (abs1 law q d (abt1 law q d b) b) else nI 100
def spAbout (A : AT) (x y : Int32) : Int32 := if bnd x 61 = true ∧ bnd y (aq A 0 + 2) = true then (if cln y = 0 then nI ((abd (lwf A) (aq A) (cln x) (aq A 0) 0 + 999) / 1000) else if cln y = 1 then nI (1000 * ((abd (lwf A) (aq A) (cln x) (aq A 0) 0 + 999) / 1000) - abd (lwf A) (aq A) (cln x) (aq A 0) 0) else abv1 (lwf A) (aq A) (cln x) (cln y - 2)) else -1
theorem fst1_ge (p : Nat → Bool) : ∀ (k s : Nat), s ≤ fst1 p s k ∧ fst1 p s k ≤ s + k
  | 0, s => ⟨Nat.le_refl _, Nat.le_refl _⟩
  | k + 1, s => by
    have := fst1_ge p k (s + 1)
    unfold fst1
    split <;> omega
theorem abt1_lt {law : LawT} {q : Nat → Nat} {d : Nat} (hn : q 1 ≤ 6) : ∀ b, abt1 law q d b < 64
  | 0 => by show 0 < 64; omega
  | b + 1 => by
    have h := abt1_lt (law := law) (d := d) hn b
    unfold abt1
    split
    · exact or64 h (by omega)
    · rw [Nat.or_zero]; exact h
section MJ4
variable {E : EnT} {S : ST} {I : IT} {L : LT} {o : Nat} {A : AT}
theorem lp_av1 (h12 : Lay12 E S o) {Q : QT} {law : LawT} {q : Nat → Nat} {d y tk b : Nat} {v3 v5 : Int32} (hr : RowM I (o + 2) q) (hq : wq q) (hd : d < 61) (ht : tk < 64) (hb : b < q 0) (hab : AbM I o law q d 0 0) (h22 : ∀ b s, b < q 0 → s < q 1 → I (o + 22) (6 * b + s) = offI law q b s) (hk : V E kX12_about (rmOf 9 0 0) Q 0 0 S I L 149 [(0, .ref o), (1, .int (nI d)), (2, .int (nI y)), (3, .int v3), (4, .int (nI tk)), (5, .int v5), (6, .int (nI b)), (7, .int (nI (abs1 law q d tk b)))] []) : V E kX12_about (rmOf 9 0 0) Q 0 0 S I L 105 [(0, .ref o), (1, .int (nI d)), (2, .int (nI y)), (3, .int v3), (4, .int (nI tk)), (5, .int v5), (6, .int (nI b)), (7, .int (nI 0))] [] := by
  have hnb := hq.nb
  have hns := hq.ns
  have hl1 := abd_le law q d (q 0 - (b + 1))
  have hl2 := abd_le law q d (q 0 - b) tk
  have key : ∀ m s, s + m = q 1 → V E kX12_about (rmOf 9 0 0) Q 0 0 S I L 149 [(0, .ref o), (1, .int (nI d)), (2, .int (nI y)), (3, .int v3), (4, .int (nI tk)), (5, .int v5), (6, .int (nI b)), (7, .int (nI (fst1 (fun s => cas law q d tk b s && decide (1000 - difq law q b s + abd law q d (q 0 - (b + 1)) (tk ||| 2 ^ s) = abd law q d (q 0 - b) tk)) s m)))] [] → V E kX12_about (rmOf 9 0 0) Q 0 0 S I L 105 [(0, .ref o), (1, .int (nI d)), (2, .int (nI y)), (3, .int v3), (4, .int (nI tk)), (5, .int v5), (6, .int (nI b)), (7, .int (nI s))] [] := by
    intro m
    induction m with
    | zero =>
      intro s hs hk
      refine V_iload (pc := 105) dX12_about_105 rfl ?_
      refine V_aload_n (pc := 107) dX12_about_107 rfl ?_
      refine V_getR (pc := 108) 12 3 dX12_about_108 flX12_13 (by decide) h12.o h12.R3 ?_
      refine V_iconst (pc := 111) (v := nI 1) dX12_about_111 (by decide) ?_
      refine V_ialoadE (pc := 112) dX12_about_112 h12.A3 (by first | decide | omega) (by omega) (hr.n (by omega)) ?_
      refine V_icmp_geN (pc := 113) (tgt := 149) dX12_about_113 (by decide) (by omega) (by omega) (fun c113 => ?_) (fun n113 => absurd n113 (by omega))
      exact hk
    | succ m ih =>
      intro s hs hk
      have h26 : I (o + 26) (64 * (b + 1) + (tk ||| 2 ^ s)) = nI (abd law q d (q 0 - (b + 1)) (tk ||| 2 ^ s)) := hab (b + 1) _ (by omega) (or64 ht (by omega)) (by omega)
      have h26b : I (o + 26) (64 * b + tk) = nI (abd law q d (q 0 - b) tk) := hab b tk (by omega) ht (by omega)
      have hc := c_X12_withSuitor (E := E) (S := S) (I := I) (L := L) h12 hq (show b < 6 by omega) ht (show s < 6 by omega) hd (h22 b s hb (by omega)) h26
      have hl3 := hl1 (tk ||| 2 ^ s)
      rw [fst1] at hk
      by_cases hca : cas law q d tk b s = true
      · rw [if_pos hca] at hc
        refine V_iload (pc := 105) dX12_about_105 rfl ?_
        refine V_aload_n (pc := 107) dX12_about_107 rfl ?_
        refine V_getR (pc := 108) 12 3 dX12_about_108 flX12_13 (by decide) h12.o h12.R3 ?_
        refine V_iconst (pc := 111) (v := nI 1) dX12_about_111 (by decide) ?_
        refine V_ialoadE (pc := 112) dX12_about_112 h12.A3 (by first | decide | omega) (by omega) (hr.n (by omega)) ?_
        refine V_icmp_geN (pc := 113) (tgt := 149) dX12_about_113 (by decide) (by omega) (by omega) (fun c113 => absurd c113 (by omega)) (fun n113 => ?_)
        refine V_aload_n (pc := 116) dX12_about_116 rfl ?_
        refine V_iload (pc := 117) dX12_about_117 rfl ?_
        refine V_iload (pc := 119) dX12_about_119 rfl ?_
        refine V_iload (pc := 121) dX12_about_121 rfl ?_
        refine V_iload_n (pc := 123) dX12_about_123 rfl ?_
        refine V_callVd (pc := 124) (ci := 12) hc dX12_about_124 mlX12_501 mkX12_withSuitor rfl rfl h12.o ⟨by decide, rfl⟩ ⟨Nat.le_of_ble_eq_true rfl, Nat.le_of_ble_eq_true rfl⟩ (Nat.le_of_ble_eq_true rfl) ⟨Nat.le_of_ble_eq_true rfl, Nat.le_of_ble_eq_true rfl⟩ ?_
        refine V_aload_n (pc := 127) dX12_about_127 rfl ?_
        refine V_getR (pc := 128) 12 46 dX12_about_128 flX12_125 (by decide) h12.o h12.R46 ?_
        refine V_bipush (pc := 131) (v := nI 64) dX12_about_131 (by decide) ?_
        refine V_iload (pc := 133) dX12_about_133 rfl ?_
        refine V_imulN (pc := 135) dX12_about_135 ?_
        refine V_iload (pc := 136) dX12_about_136 rfl ?_
        refine V_iaddN (pc := 138) dX12_about_138 ?_
        refine V_ialoadE (pc := 139) dX12_about_139 h12.A46 (by first | decide | omega) (by omega) (h26b) ?_
        refine V_icmp_eqN (pc := 140) (tgt := 149) dX12_about_140 (by decide) (by omega) (by omega) (fun c140 => ?_) (fun n140 => ?_)
        · skip
          rw [if_pos (by show (_ && _) = true; rw [hca, decide_eq_true c140]; rfl)] at hk
          exact hk
        · skip
          refine V_iinc1 (pc := 143) (ls' := [(0, _), (1, _), (2, _), (3, _), (4, _), (5, _), (6, _), (7, _)]) dX12_about_143 rfl (by decide) rfl ?_
          refine V_goto (pc := 146) (tgt := 105) dX12_about_146 (by decide) ?_
          rw [if_neg (by show ¬ (_ && _) = true; rw [decide_eq_false n140, Bool.and_false]; decide)] at hk
          exact ih (s + 1) (by omega) hk
      · rw [if_neg hca] at hc
        rw [if_neg (by show ¬ (_ && _) = true; rw [Bool.eq_false_iff.mpr hca, Bool.false_and]; decide)] at hk
        have hne : ¬ (-100000000 : Int32) = nI (abd law q d (q 0 - b) tk) := fun z => absurd (by rw [← z]; decide : nI (abd law q d (q 0 - b) tk) < 0) (nI_pos (by omega))
        refine V_iload (pc := 105) dX12_about_105 rfl ?_
        refine V_aload_n (pc := 107) dX12_about_107 rfl ?_
        refine V_getR (pc := 108) 12 3 dX12_about_108 flX12_13 (by decide) h12.o h12.R3 ?_
        refine V_iconst (pc := 111) (v := nI 1) dX12_about_111 (by decide) ?_
        refine V_ialoadE (pc := 112) dX12_about_112 h12.A3 (by first | decide | omega) (by omega) (hr.n (by omega)) ?_
        refine V_icmp_geN (pc := 113) (tgt := 149) dX12_about_113 (by decide) (by omega) (by omega) (fun c113 => absurd c113 (by omega)) (fun n113 => ?_)
        refine V_aload_n (pc := 116) dX12_about_116 rfl ?_
        refine V_iload (pc := 117) dX12_about_117 rfl ?_
        refine V_iload (pc := 119) dX12_about_119 rfl ?_
        refine V_iload (pc := 121) dX12_about_121 rfl ?_
        refine V_iload_n (pc := 123) dX12_about_123 rfl ?_
        refine V_callVd (pc := 124) (ci := 12) hc dX12_about_124 mlX12_501 mkX12_withSuitor rfl rfl h12.o ⟨by decide, rfl⟩ ⟨Nat.le_of_ble_eq_true rfl, Nat.le_of_ble_eq_true rfl⟩ (Nat.le_of_ble_eq_true rfl) ⟨Nat.le_of_ble_eq_true rfl, Nat.le_of_ble_eq_true rfl⟩ ?_
        refine V_aload_n (pc := 127) dX12_about_127 rfl ?_
        refine V_getR (pc := 128) 12 46 dX12_about_128 flX12_125 (by decide) h12.o h12.R46 ?_
        refine V_bipush (pc := 131) (v := nI 64) dX12_about_131 (by decide) ?_
        refine V_iload (pc := 133) dX12_about_133 rfl ?_
        refine V_imulN (pc := 135) dX12_about_135 ?_
        refine V_iload (pc := 136) dX12_about_136 rfl ?_
        refine V_iaddN (pc := 138) dX12_about_138 ?_
        refine V_ialoadE (pc := 139) dX12_about_139 h12.A46 (by first | decide | omega) (by omega) (h26b) ?_
        refine V_icmp_eq (pc := 140) (tgt := 149) dX12_about_140 (by decide) (fun c140 => absurd c140 (by exact hne)) (fun n140 => ?_)
        refine V_iinc1 (pc := 143) (ls' := [(0, _), (1, _), (2, _), (3, _), (4, _), (5, _), (6, _), (7, _)]) dX12_about_143 rfl (by decide) rfl ?_
        refine V_goto (pc := 146) (tgt := 105) dX12_about_146 (by decide) ?_
        exact ih (s + 1) (by omega) hk
  exact key (q 1) 0 (by omega) hk
theorem lp_av2 (h12 : Lay12 E S o) {law : LawT} {q : Nat → Nat} {d y : Nat} {v3 : Int32} {post : Option Value → ST → IT → LT → Prop} (hr : RowM I (o + 2) q) (hq : wq q) (hd : d < 61) (hy : 2 ≤ y ∧ y < q 0 + 2) (hab : AbM I o law q d 0 0) (h22 : ∀ b s, b < q 0 → s < q 1 → I (o + 22) (6 * b + s) = offI law q b s) (hp : post (some (.int (abv1 law q d (y - 2)))) S I L) : V E kX12_about (rmOf 9 0 0) (QM E post 0 0) 0 0 S I L 94 [(0, .ref o), (1, .int (nI d)), (2, .int (nI y)), (3, .int v3), (4, .int (nI 0)), (5, .int (-1)), (6, .int (nI 0))] [] := by
  have hnb := hq.nb
  have hns := hq.ns
  have key : ∀ b, b ≤ y - 1 → ∀ v5, (0 < b → v5 = abv1 law q d (b - 1)) → V E kX12_about (rmOf 9 0 0) (QM E post 0 0) 0 0 S I L 94 [(0, .ref o), (1, .int (nI d)), (2, .int (nI y)), (3, .int v3), (4, .int (nI (abt1 law q d b))), (5, .int v5), (6, .int (nI b))] [] := by
    refine loopUp ?_ ?_
    · intro v5 h5
      rw [h5 (by omega), show y - 1 - 1 = y - 2 by omega]
      refine V_iload (pc := 94) dX12_about_94 rfl ?_
      refine V_iload_n (pc := 96) dX12_about_96 rfl ?_
      refine V_iconst (pc := 97) (v := nI 2) dX12_about_97 (by decide) ?_
      refine V_isubN (pc := 98) dX12_about_98 (by omega) ?_
      refine V_icmp_gtN (pc := 99) (tgt := 217) dX12_about_99 (by decide) (by omega) (by omega) (fun c99 => ?_) (fun n99 => absurd n99 (by omega))
      refine V_iload (pc := 217) dX12_about_217 rfl ?_
      refine V_iret (pc := 219) dX12_about_219 rfl (by first | decide | omega) (by first | decide | omega) ?_
      exact hp
    · intro b hb ih v5 h5
      have htk := abt1_lt (law := law) (d := d) hns b
      have hge := fst1_ge (fun s => cas law q d (abt1 law q d b) b s && decide (1000 - difq law q b s + abd law q d (q 0 - (b + 1)) (abt1 law q d b ||| 2 ^ s) = abd law q d (q 0 - b) (abt1 law q d b))) (q 1) 0
      have hle : abs1 law q d (abt1 law q d b) b ≤ q 1 := by have := hge.2; unfold abs1; omega
      have hwe := hq.we b (by omega)
      have hp6 := p64 (show abs1 law q d (abt1 law q d b) b ≤ 6 by omega)
      have ih' : ∀ v5, v5 = abv1 law q d b → _ := fun v5 h => ih v5 (fun _ => h)
      rw [abt1] at ih'
      unfold abv1 at ih'
      refine V_iload (pc := 94) dX12_about_94 rfl ?_
      refine V_iload_n (pc := 96) dX12_about_96 rfl ?_
      refine V_iconst (pc := 97) (v := nI 2) dX12_about_97 (by decide) ?_
      refine V_isubN (pc := 98) dX12_about_98 (by omega) ?_
      refine V_icmp_gtN (pc := 99) (tgt := 217) dX12_about_99 (by decide) (by omega) (by omega) (fun c99 => absurd c99 (by omega)) (fun n99 => ?_)
      refine V_iconst (pc := 102) (v := nI 0) dX12_about_102 (by decide) ?_
      refine V_istore (pc := 103) (ls' := [(0, _), (1, _), (2, _), (3, _), (4, _), (5, _), (6, _), (7, _)]) dX12_about_103 (by decide) rfl ?_
      refine lp_av1 h12 hr hq hd htk (by omega) hab h22 ?_
      refine V_aload_n (pc := 149) dX12_about_149 rfl ?_
      refine V_getR (pc := 150) 12 3 dX12_about_150 flX12_13 (by decide) h12.o h12.R3 ?_
      refine V_bipush (pc := 153) (v := nI 68) dX12_about_153 (by decide) ?_
      refine V_iload (pc := 155) dX12_about_155 rfl ?_
      refine V_iaddN (pc := 157) dX12_about_157 ?_
      refine V_ialoadE (pc := 158) dX12_about_158 h12.A3 (by first | decide | omega) (by omega) (hr.w (by omega)) ?_
      refine V_iconst (pc := 159) (v := (-1)) dX12_about_159 (by decide) ?_
      refine V_icmp_eq (pc := 160) (tgt := 167) dX12_about_160 (by decide) (fun c160 => ?_) (fun n160 => ?_)
      · skip
        rw [if_neg (fun z => z ((pred1_none (by omega)).mp c160))] at ih'
        refine V_iload (pc := 167) dX12_about_167 rfl ?_
        refine V_aload_n (pc := 169) dX12_about_169 rfl ?_
        refine V_getR (pc := 170) 12 3 dX12_about_170 flX12_13 (by decide) h12.o h12.R3 ?_
        refine V_iconst (pc := 173) (v := nI 1) dX12_about_173 (by decide) ?_
        refine V_ialoadE (pc := 174) dX12_about_174 h12.A3 (by first | decide | omega) (by omega) (hr.n (by omega)) ?_
        refine V_icmp_geN (pc := 175) (tgt := 183) dX12_about_175 (by decide) (by omega) (by omega) (fun c175 => ?_) (fun n175 => ?_)
        · skip
          refine V_bipush (pc := 183) (v := nI 100) dX12_about_183 (by decide) ?_
          refine V_istore (pc := 185) (ls' := [(0, _), (1, _), (2, _), (3, _), (4, _), (5, _), (6, _), (7, _)]) dX12_about_185 (by decide) rfl ?_
          refine V_iload (pc := 187) dX12_about_187 rfl ?_
          refine V_iload (pc := 189) dX12_about_189 rfl ?_
          refine V_aload_n (pc := 191) dX12_about_191 rfl ?_
          refine V_getR (pc := 192) 12 3 dX12_about_192 flX12_13 (by decide) h12.o h12.R3 ?_
          refine V_iconst (pc := 195) (v := nI 1) dX12_about_195 (by decide) ?_
          refine V_ialoadE (pc := 196) dX12_about_196 h12.A3 (by first | decide | omega) (by omega) (hr.n (by omega)) ?_
          refine V_icmp_geN (pc := 197) (tgt := 207) dX12_about_197 (by decide) (by omega) (by omega) (fun c197 => ?_) (fun n197 => ?_)
          · skip
            refine V_iconst (pc := 207) (v := nI 0) dX12_about_207 (by decide) ?_
            refine V_iorN (pc := 208) dX12_about_208 ?_
            refine V_istore (pc := 209) (ls' := [(0, _), (1, _), (2, _), (3, _), (4, _), (5, _), (6, _), (7, _)]) dX12_about_209 (by decide) rfl ?_
            refine V_loc [0, 1, 2, 3, 4, 5, 6] rfl ?_
            refine V_iinc1 (pc := 211) (ls' := [(0, _), (1, _), (2, _), (3, _), (4, _), (5, _), (6, _)]) dX12_about_211 rfl (by decide) rfl ?_
            refine V_goto (pc := 214) (tgt := 94) dX12_about_214 (by decide) ?_
            first
            | omega
            | (rw [Nat.one_mul]; rw [if_pos (by omega), if_pos (by omega)] at ih'; exact ih' _ rfl)
            | (rw [Nat.one_mul]; rw [if_pos (by omega)] at ih'; exact ih' _ rfl)
            | (rw [if_neg (by omega), if_neg (by omega)] at ih'; exact ih' _ rfl)
            | (rw [if_neg (by omega)] at ih'; exact ih' _ rfl)
          · skip
            refine V_iconst (pc := 200) (v := nI 1) dX12_about_200 (by decide) ?_
            refine V_iload (pc := 201) dX12_about_201 rfl ?_
            refine V_ishlN (pc := 203) dX12_about_203 (by omega) (by omega) ?_
            refine V_goto (pc := 204) (tgt := 208) dX12_about_204 (by decide) ?_
            refine V_iorN (pc := 208) dX12_about_208 ?_
            refine V_istore (pc := 209) (ls' := [(0, _), (1, _), (2, _), (3, _), (4, _), (5, _), (6, _), (7, _)]) dX12_about_209 (by decide) rfl ?_
            refine V_loc [0, 1, 2, 3, 4, 5, 6] rfl ?_
            refine V_iinc1 (pc := 211) (ls' := [(0, _), (1, _), (2, _), (3, _), (4, _), (5, _), (6, _)]) dX12_about_211 rfl (by decide) rfl ?_
            refine V_goto (pc := 214) (tgt := 94) dX12_about_214 (by decide) ?_
            first
            | omega
            | (rw [Nat.one_mul]; rw [if_pos (by omega), if_pos (by omega)] at ih'; exact ih' _ rfl)
            | (rw [Nat.one_mul]; rw [if_pos (by omega)] at ih'; exact ih' _ rfl)
            | (rw [if_neg (by omega), if_neg (by omega)] at ih'; exact ih' _ rfl)
            | (rw [if_neg (by omega)] at ih'; exact ih' _ rfl)
        · skip
          refine V_iload (pc := 178) dX12_about_178 rfl ?_
          refine V_goto (pc := 180) (tgt := 185) dX12_about_180 (by decide) ?_
          refine V_istore (pc := 185) (ls' := [(0, _), (1, _), (2, _), (3, _), (4, _), (5, _), (6, _), (7, _)]) dX12_about_185 (by decide) rfl ?_
          refine V_iload (pc := 187) dX12_about_187 rfl ?_
          refine V_iload (pc := 189) dX12_about_189 rfl ?_
          refine V_aload_n (pc := 191) dX12_about_191 rfl ?_
          refine V_getR (pc := 192) 12 3 dX12_about_192 flX12_13 (by decide) h12.o h12.R3 ?_
          refine V_iconst (pc := 195) (v := nI 1) dX12_about_195 (by decide) ?_
          refine V_ialoadE (pc := 196) dX12_about_196 h12.A3 (by first | decide | omega) (by omega) (hr.n (by omega)) ?_
          refine V_icmp_geN (pc := 197) (tgt := 207) dX12_about_197 (by decide) (by omega) (by omega) (fun c197 => ?_) (fun n197 => ?_)
          · skip
            refine V_iconst (pc := 207) (v := nI 0) dX12_about_207 (by decide) ?_
            refine V_iorN (pc := 208) dX12_about_208 ?_
            refine V_istore (pc := 209) (ls' := [(0, _), (1, _), (2, _), (3, _), (4, _), (5, _), (6, _), (7, _)]) dX12_about_209 (by decide) rfl ?_
            refine V_loc [0, 1, 2, 3, 4, 5, 6] rfl ?_
            refine V_iinc1 (pc := 211) (ls' := [(0, _), (1, _), (2, _), (3, _), (4, _), (5, _), (6, _)]) dX12_about_211 rfl (by decide) rfl ?_
            refine V_goto (pc := 214) (tgt := 94) dX12_about_214 (by decide) ?_
            first
            | omega
            | (rw [Nat.one_mul]; rw [if_pos (by omega), if_pos (by omega)] at ih'; exact ih' _ rfl)
            | (rw [Nat.one_mul]; rw [if_pos (by omega)] at ih'; exact ih' _ rfl)
            | (rw [if_neg (by omega), if_neg (by omega)] at ih'; exact ih' _ rfl)
            | (rw [if_neg (by omega)] at ih'; exact ih' _ rfl)
          · skip
            refine V_iconst (pc := 200) (v := nI 1) dX12_about_200 (by decide) ?_
            refine V_iload (pc := 201) dX12_about_201 rfl ?_
            refine V_ishlN (pc := 203) dX12_about_203 (by omega) (by omega) ?_
            refine V_goto (pc := 204) (tgt := 208) dX12_about_204 (by decide) ?_
            refine V_iorN (pc := 208) dX12_about_208 ?_
            refine V_istore (pc := 209) (ls' := [(0, _), (1, _), (2, _), (3, _), (4, _), (5, _), (6, _), (7, _)]) dX12_about_209 (by decide) rfl ?_
            refine V_loc [0, 1, 2, 3, 4, 5, 6] rfl ?_
            refine V_iinc1 (pc := 211) (ls' := [(0, _), (1, _), (2, _), (3, _), (4, _), (5, _), (6, _)]) dX12_about_211 rfl (by decide) rfl ?_
            refine V_goto (pc := 214) (tgt := 94) dX12_about_214 (by decide) ?_
            first
            | omega
            | (rw [Nat.one_mul]; rw [if_pos (by omega), if_pos (by omega)] at ih'; exact ih' _ rfl)
            | (rw [Nat.one_mul]; rw [if_pos (by omega)] at ih'; exact ih' _ rfl)
            | (rw [if_neg (by omega), if_neg (by omega)] at ih'; exact ih' _ rfl)
            | (rw [if_neg (by omega)] at ih'; exact ih' _ rfl)
      · skip
        rw [if_pos (fun z => n160 ((pred1_none (by omega)).mpr z))] at ih'
        refine V_iconst (pc := 163) (v := (-1)) dX12_about_163 (by decide) ?_
        refine V_goto (pc := 164) (tgt := 185) dX12_about_164 (by decide) ?_
        refine V_istore (pc := 185) (ls' := [(0, _), (1, _), (2, _), (3, _), (4, _), (5, _), (6, _), (7, _)]) dX12_about_185 (by decide) rfl ?_
        refine V_iload (pc := 187) dX12_about_187 rfl ?_
        refine V_iload (pc := 189) dX12_about_189 rfl ?_
        refine V_aload_n (pc := 191) dX12_about_191 rfl ?_
        refine V_getR (pc := 192) 12 3 dX12_about_192 flX12_13 (by decide) h12.o h12.R3 ?_
        refine V_iconst (pc := 195) (v := nI 1) dX12_about_195 (by decide) ?_
        refine V_ialoadE (pc := 196) dX12_about_196 h12.A3 (by first | decide | omega) (by omega) (hr.n (by omega)) ?_
        refine V_icmp_geN (pc := 197) (tgt := 207) dX12_about_197 (by decide) (by omega) (by omega) (fun c197 => ?_) (fun n197 => ?_)
        · skip
          refine V_iconst (pc := 207) (v := nI 0) dX12_about_207 (by decide) ?_
          refine V_iorN (pc := 208) dX12_about_208 ?_
          refine V_istore (pc := 209) (ls' := [(0, _), (1, _), (2, _), (3, _), (4, _), (5, _), (6, _), (7, _)]) dX12_about_209 (by decide) rfl ?_
          refine V_loc [0, 1, 2, 3, 4, 5, 6] rfl ?_
          refine V_iinc1 (pc := 211) (ls' := [(0, _), (1, _), (2, _), (3, _), (4, _), (5, _), (6, _)]) dX12_about_211 rfl (by decide) rfl ?_
          refine V_goto (pc := 214) (tgt := 94) dX12_about_214 (by decide) ?_
          first
          | omega
          | (rw [Nat.one_mul]; rw [if_pos (by omega), if_pos (by omega)] at ih'; exact ih' _ rfl)
          | (rw [Nat.one_mul]; rw [if_pos (by omega)] at ih'; exact ih' _ rfl)
          | (rw [if_neg (by omega), if_neg (by omega)] at ih'; exact ih' _ rfl)
          | (rw [if_neg (by omega)] at ih'; exact ih' _ rfl)
        · skip
          refine V_iconst (pc := 200) (v := nI 1) dX12_about_200 (by decide) ?_
          refine V_iload (pc := 201) dX12_about_201 rfl ?_
          refine V_ishlN (pc := 203) dX12_about_203 (by omega) (by omega) ?_
          refine V_goto (pc := 204) (tgt := 208) dX12_about_204 (by decide) ?_
          refine V_iorN (pc := 208) dX12_about_208 ?_
          refine V_istore (pc := 209) (ls' := [(0, _), (1, _), (2, _), (3, _), (4, _), (5, _), (6, _), (7, _)]) dX12_about_209 (by decide) rfl ?_
          refine V_loc [0, 1, 2, 3, 4, 5, 6] rfl ?_
          refine V_iinc1 (pc := 211) (ls' := [(0, _), (1, _), (2, _), (3, _), (4, _), (5, _), (6, _)]) dX12_about_211 rfl (by decide) rfl ?_
          refine V_goto (pc := 214) (tgt := 94) dX12_about_214 (by decide) ?_
          first
          | omega
          | (rw [Nat.one_mul]; rw [if_pos (by omega), if_pos (by omega)] at ih'; exact ih' _ rfl)
          | (rw [Nat.one_mul]; rw [if_pos (by omega)] at ih'; exact ih' _ rfl)
          | (rw [if_neg (by omega), if_neg (by omega)] at ih'; exact ih' _ rfl)
          | (rw [if_neg (by omega)] at ih'; exact ih' _ rfl)
  exact key 0 (by omega) (-1) (fun h => absurd h (by omega))
theorem c_X12_about (h12 : Lay12 E S o) (hM : MR o I L A) (hA : wfA A) {x y : Int32} : Cm E kX12_about 9 [.ref o, .int x, .int y] S I L o (.int (spAbout A x y)) A := by
  have hq := hA.q
  have hnb := hq.nb
  have e60 : decide (lN 0 ≤ x.toInt64 ∧ x.toInt64 ≤ (60 : Int64)) = bnd x 61 := bnd64' (n := 60) (by omega)
  have ey : decide (lN 0 ≤ y.toInt64 ∧ y.toInt64 ≤ lN 1 + lN (aq A 0)) = bnd y (aq A 0 + 2) := by rw [lN_add, bnd64' (by omega), show 1 + aq A 0 + 1 = aq A 0 + 2 by omega]
  refine C_of (by decide) (Nat.le_of_ble_eq_true rfl) ?_
  refine V_aload_n (pc := 0) dX12_about_0 rfl ?_
  refine V_iconst (pc := 1) (v := nI 0) dX12_about_1 (by decide) ?_
  refine V_putI (pc := 2) 12 0 dX12_about_2 flX12_175 (by decide) (by decide) (Or.inl rfl) rfl rfl h12.o ?_
  have hM := hM.thrown (v := nI 0)
  have hF : FrM o (up2 I o 0 (nI 0)) I L L := FrM.rf.up (by omega)
  generalize up2 I o 0 (nI 0) = I0 at hM hF ⊢
  have hr := hM.row
  refine V_iload_n (pc := 5) dX12_about_5 rfl ?_
  refine V_i2l (pc := 6) dX12_about_6 rfl ?_
  refine V_lconst (pc := 7) (v := lN 0) dX12_about_7 (by decide) ?_
  refine V_ldc2 (pc := 8) dX12_about_8 coX12_239 ?_
  refine V_callSd (pc := 11) (c_X12_in) dX12_about_11 mlX12_195 mkX12_in rfl rfl ⟨Nat.le_of_ble_eq_true rfl, Nat.le_of_ble_eq_true rfl⟩ (Nat.le_of_ble_eq_true rfl) ⟨Nat.le_of_ble_eq_true rfl, Nat.le_of_ble_eq_true rfl⟩ ?_
  refine V_if_eqB (pc := 14) (tgt := 35) dX12_about_14 (by decide) (fun c14 => ?_) (fun n14 => ?_)
  · skip
    refine V_iconst (pc := 35) (v := (-1)) dX12_about_35 (by decide) ?_
    refine V_iret (pc := 36) dX12_about_36 rfl (by first | decide | omega) (by first | decide | omega) ?_
    first | (rw [e60] at c14; rw [spAbout, if_neg (fun w => by rw [w.1] at c14; exact absurd c14 (by decide))]; exact ⟨rfl, rfl, hM, hF⟩) | (rw [ey] at n32; rw [spAbout, if_neg (fun w => by rw [w.2] at n32; exact absurd n32 (by decide))]; exact ⟨rfl, rfl, hM, hF⟩)
  · skip
    refine V_iload_n (pc := 17) dX12_about_17 rfl ?_
    refine V_i2l (pc := 18) dX12_about_18 rfl ?_
    refine V_lconst (pc := 19) (v := lN 0) dX12_about_19 (by decide) ?_
    refine V_lconst (pc := 20) (v := lN 1) dX12_about_20 (by decide) ?_
    refine V_aload_n (pc := 21) dX12_about_21 rfl ?_
    refine V_getR (pc := 22) 12 3 dX12_about_22 flX12_13 (by decide) h12.o h12.R3 ?_
    refine V_iconst (pc := 25) (v := nI 0) dX12_about_25 (by decide) ?_
    refine V_ialoadE (pc := 26) dX12_about_26 h12.A3 (by first | decide | omega) (by omega) (hr.n (by omega)) ?_
    refine V_i2lN (pc := 27) dX12_about_27 (by omega) ?_
    refine V_ladd (pc := 28) dX12_about_28 ?_
    refine V_callSd (pc := 29) (c_X12_in) dX12_about_29 mlX12_195 mkX12_in rfl rfl ⟨Nat.le_of_ble_eq_true rfl, Nat.le_of_ble_eq_true rfl⟩ (Nat.le_of_ble_eq_true rfl) ⟨Nat.le_of_ble_eq_true rfl, Nat.le_of_ble_eq_true rfl⟩ ?_
    refine V_if_neB (pc := 32) (tgt := 37) dX12_about_32 (by decide) (fun c32 => ?_) (fun n32 => ?_)
    · skip
      rw [e60] at n14
      rw [ey] at c32
      rw [spAbout, if_pos ⟨n14, c32⟩]
      obtain ⟨d, hd, hx⟩ := bnd_ex (by omega) n14
      obtain ⟨w, hw, hy⟩ := bnd_ex (by omega) c32
      subst hx hy
      rw [cln_nI (by omega), cln_nI (by omega)]
      refine V_aload_n (pc := 37) dX12_about_37 rfl ?_
      refine V_iload_n (pc := 38) dX12_about_38 rfl ?_
      refine V_callV (pc := 39) (ci := 12) (c_X12_layAbout h12 hM hA hd) dX12_about_39 mlX12_505 mkX12_layAbout rfl rfl h12.o ⟨by decide, rfl⟩ ⟨Nat.le_of_ble_eq_true rfl, Nat.le_of_ble_eq_true rfl⟩ (Nat.le_of_ble_eq_true rfl) ⟨Nat.le_of_ble_eq_true rfl, Nat.le_of_ble_eq_true rfl⟩ (fun r S' I' L' hp => ?_)
      obtain ⟨rfl, rfl, hf, hab, h22⟩ := hp
      have hm2 := hf.mr hM
      have hr2 := hm2.row
      have hf2 := FrM.tr hf.frm hF
      have e0 : I' (o + 26) 0 = nI (abd (lwf A) (aq A) d (aq A 0) 0) := hab 0 0 (by omega) (by omega) (by omega)
      have hle := abd_le (lwf A) (aq A) d (aq A 0) 0
      refine V_aload_n (pc := 42) dX12_about_42 rfl ?_
      refine V_getR (pc := 43) 12 46 dX12_about_43 flX12_125 (by decide) h12.o h12.R46 ?_
      refine V_iconst (pc := 46) (v := nI 0) dX12_about_46 (by decide) ?_
      refine V_ialoadE (pc := 47) dX12_about_47 h12.A46 (by first | decide | omega) (by omega) (e0) ?_
      refine V_sipush (pc := 48) (v := nI 1000) dX12_about_48 (by decide) ?_
      refine V_iaddN (pc := 51) dX12_about_51 ?_
      refine V_iconst (pc := 52) (v := nI 1) dX12_about_52 (by decide) ?_
      refine V_isubN (pc := 53) dX12_about_53 (by omega) ?_
      refine V_sipush (pc := 54) (v := nI 1000) dX12_about_54 (by decide) ?_
      refine V_idivN (pc := 57) dX12_about_57 (by omega) (by omega) (by omega) ?_
      refine V_istore_n (pc := 58) (ls' := [(0, _), (1, _), (2, _), (3, _)]) dX12_about_58 (by decide) rfl ?_
      refine V_iload_n (pc := 59) dX12_about_59 rfl ?_
      refine V_iconst (pc := 60) (v := nI 2) dX12_about_60 (by decide) ?_
      refine V_icmp_geN (pc := 61) (tgt := 85) dX12_about_61 (by decide) (by omega) (by omega) (fun c61 => ?_) (fun n61 => ?_)
      · skip
        rw [if_neg (by omega), if_neg (by omega)]
        refine V_iconst (pc := 85) (v := nI 0) dX12_about_85 (by decide) ?_
        refine V_istore (pc := 86) (ls' := [(0, _), (1, _), (2, _), (3, _), (4, _)]) dX12_about_86 (by decide) rfl ?_
        refine V_iconst (pc := 88) (v := (-1)) dX12_about_88 (by decide) ?_
        refine V_istore (pc := 89) (ls' := [(0, _), (1, _), (2, _), (3, _), (4, _), (5, _)]) dX12_about_89 (by decide) rfl ?_
        refine V_iconst (pc := 91) (v := nI 0) dX12_about_91 (by decide) ?_
        refine V_istore (pc := 92) (ls' := [(0, _), (1, _), (2, _), (3, _), (4, _), (5, _), (6, _)]) dX12_about_92 (by decide) rfl ?_
        exact lp_av2 h12 hr2 hq hd (by omega) hab h22 ⟨rfl, rfl, hm2, hf2⟩
      · skip
        refine V_iload_n (pc := 64) dX12_about_64 rfl ?_
        refine V_if_neN (pc := 65) (tgt := 72) dX12_about_65 (by decide) (by omega) (fun c65 => ?_) (fun n65 => ?_)
        · skip
          rw [if_neg c65, if_pos (by omega)]
          refine V_sipush (pc := 72) (v := nI 1000) dX12_about_72 (by decide) ?_
          refine V_iload_n (pc := 75) dX12_about_75 rfl ?_
          refine V_imulN (pc := 76) dX12_about_76 ?_
          refine V_aload_n (pc := 77) dX12_about_77 rfl ?_
          refine V_getR (pc := 78) 12 46 dX12_about_78 flX12_125 (by decide) h12.o h12.R46 ?_
          refine V_iconst (pc := 81) (v := nI 0) dX12_about_81 (by decide) ?_
          refine V_ialoadE (pc := 82) dX12_about_82 h12.A46 (by first | decide | omega) (by omega) (e0) ?_
          refine V_isubN (pc := 83) dX12_about_83 (by omega) ?_
          refine V_iret (pc := 84) dX12_about_84 rfl (by first | decide | omega) (by first | decide | omega) ?_
          first | exact ⟨rfl, rfl, hm2, hf2⟩ | (rw [show abd (lwf A) (aq A) d (aq A 0) 0 + 1000 - 1 = abd (lwf A) (aq A) d (aq A 0) 0 + 999 by omega]; exact ⟨rfl, rfl, hm2, hf2⟩)
        · skip
          rw [if_pos n65]
          refine V_iload_n (pc := 68) dX12_about_68 rfl ?_
          refine V_goto (pc := 69) (tgt := 84) dX12_about_69 (by decide) ?_
          refine V_iret (pc := 84) dX12_about_84 rfl (by first | decide | omega) (by first | decide | omega) ?_
          first | exact ⟨rfl, rfl, hm2, hf2⟩ | (rw [show abd (lwf A) (aq A) d (aq A 0) 0 + 1000 - 1 = abd (lwf A) (aq A) d (aq A 0) 0 + 999 by omega]; exact ⟨rfl, rfl, hm2, hf2⟩)
    · skip
      refine V_iconst (pc := 35) (v := (-1)) dX12_about_35 (by decide) ?_
      refine V_iret (pc := 36) dX12_about_36 rfl (by first | decide | omega) (by first | decide | omega) ?_
      first | (rw [e60] at c14; rw [spAbout, if_neg (fun w => by rw [w.1] at c14; exact absurd c14 (by decide))]; exact ⟨rfl, rfl, hM, hF⟩) | (rw [ey] at n32; rw [spAbout, if_neg (fun w => by rw [w.2] at n32; exact absurd n32 (by decide))]; exact ⟨rfl, rfl, hM, hF⟩)
end MJ4
