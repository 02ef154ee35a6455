/-! THE REFERENCE: what the law in force tells -/
theorem nI_m1 {l : Nat} (h : l < 2 ^ 31) : ¬ nI l = -1 := fun e => absurd (by rw [e]; decide : nI l < 0) (nI_pos h)
def LawIn (I : IT) (o : Nat) (q : Nat → Nat) (law : LawT) : Prop := (q 4 = 0 → law.1 = 0) ∧ (q 4 ≠ 0 → LawM (I (o + 2)) (116 + 900 * (q 4 - 1)) law)
theorem LawIn.cg {I I' : IT} {o : Nat} {q : Nat → Nat} {law : LawT} (h : LawIn I o q law) (e : I' (o + 2) = I (o + 2)) : LawIn I' o q law := ⟨h.1, fun z => by rw [e]; exact h.2 z⟩
def tolL (law : LawT) (hd : Nat) (w : WT) (wo : Int64) (n : Nat) : Int64 := match tld law hd w n with | some v => i64 v | none => wo
theorem TsI.up34 {o : Nat} {I : IT} {v : Int32} : TsI o (up2 I o 34 v) I := ⟨fun a h => up2_row h, fun i h _ => up2_nej h⟩
theorem TsI.up38 {o : Nat} {I : IT} {v : Int32} : TsI o (up2 I o 38 v) I := ⟨fun a h => up2_row h, fun i _ h => up2_nej h⟩
theorem TsL.up18 {o i : Nat} {L' L : LT} {v : Int64} (h : TsL o L' L) : TsL o (up2 L' (o + 18) i v) L := ⟨fun a h1 h2 h3 => by rw [up2_row h2]; exact h.1 a h1 h2 h3, fun j h1 h2 => by rw [up2_ne (by omega)]; exact h.2 j h1 h2⟩
theorem RkL2.ts {o : Nat} {L' L : LT} (h : RkL2 o L' L) : TsL o L' L := ⟨fun a h1 _ h3 => h.1 a h3 h1, h.2⟩
section MF
variable {E : EnT} {S : ST} {I : IT} {L : LT} {o : Nat} {q : Nat → Nat}
theorem lp_tells (h12 : Lay12 E S o) {I1 : IT} {L1 : LT} (hr : RowM I1 (o + 2) q) {lb hd : Nat} {law : LawT} {w : WT} {wo : Int64} {a2 a3 : Int32} (hord : I1 o 20 = nI 0) (hlaw : I1 o 34 = nI lb) (hlb : lb + 900 ≤ 5516) (hL : LawM (I1 (o + 2)) lb law) (hhd : hd < 4) (hwo : wok w) (hw : ∀ j, 0 < j → j < 10 → L1 (o + 18) j = i64 (w (j - 1))) (hI1 : TsI o I1 I) (hL1 : TsL o L1 L) :
    V E kX12_tells (rmOf 5 0 0) (QM E (fun r S' I' L' => r = some (.long (tolL law hd w wo law.1)) ∧ S = S' ∧ TsI o I' I ∧ TsL o L' L) 0 0) 0 0 S I1 L1 182 [(0, .ref o), (1, .int (nI hd)), (2, .int a2), (3, .int a3), (4, .long wo), (6, .long wo), (8, .int (nI 0))] [] := by
  have hn12 := hL.1
  have hn := hL.2.1
  have key := loopUp (P := fun c => ∀ (I' : IT) (L' : LT) (v : Int32), I' = up2 I1 o 38 v → RkL2 o L' L1 → V E kX12_tells (rmOf 5 0 0) (QM E (fun r S' I' L' => r = some (.long (tolL law hd w wo law.1)) ∧ S = S' ∧ TsI o I' I ∧ TsL o L' L) 0 0) 0 0 S I' L' 182 [(0, .ref o), (1, .int (nI hd)), (2, .int a2), (3, .int a3), (4, .long wo), (6, .long (tolL law hd w wo c)), (8, .int (nI c))] []) (n := law.1) ?_ ?_ 0 (by omega)
  · exact key I1 L1 (I1 o 38) (by
      funext x j
      unfold up2
      split
      · rename_i hx; subst hx; split
        · rename_i hj; rw [hj]
        · rfl
      · rfl) RkL.rf.two
  · intro I' L' v eI hRk
    have gr : I' (o + 2) = I1 (o + 2) := by rw [eI]; exact up2_row (by omega)
    have gl : I' o 34 = nI lb := by rw [eI, up2_nej (by omega)]; exact hlaw
    refine V_iload (pc := 182) dX12_tells_182 rfl ?_
    refine V_aload_n (pc := 184) dX12_tells_184 rfl ?_
    refine V_getR (pc := 185) 12 3 dX12_tells_185 flX12_13 (by decide) h12.o h12.R3 ?_
    refine V_aload_n (pc := 188) dX12_tells_188 rfl ?_
    refine V_getIE (pc := 189) 12 34 dX12_tells_189 flX12_427 (by decide) h12.o (gl) ?_
    refine V_iconst (pc := 192) (v := nI 1) dX12_tells_192 (by decide) ?_
    refine V_iaddN (pc := 193) dX12_tells_193 ?_
    refine V_ialoadE (pc := 194) dX12_tells_194 h12.A3 (by first | decide | omega) (by omega) ((congrFun gr _).trans hn) ?_
    refine V_icmp_geN (pc := 195) (tgt := 253) dX12_tells_195 (by decide) (by omega) (by omega) (fun c195 => ?_) (fun n195 => absurd n195 (by omega))
    refine V_lload (pc := 253) dX12_tells_253 rfl ?_
    refine V_lret (pc := 255) dX12_tells_255 rfl (by first | decide | omega) (by first | decide | omega) ?_
    exact ⟨rfl, rfl, by rw [eI]; exact TsI.up38.tr hI1, hRk.ts.tr hL1⟩
  · intro c hc ih I' L' v eI hRk
    have gr : I' (o + 2) = I1 (o + 2) := by rw [eI]; exact up2_row (by omega)
    have gl : I' o 34 = nI lb := by rw [eI, up2_nej (by omega)]; exact hlaw
    have go : I' o 20 = nI 0 := by rw [eI, up2_nej (by omega)]; exact hord
    obtain ⟨hk4, hkc, -⟩ := hL.2.2.choose_spec.choose_spec.choose_spec.2.2 c hc
    have hL' : LawM (I' (o + 2)) lb law := by rw [gr]; exact hL
    have fin : ∀ (I2 : IT) (L2 : LT) (v2 : Int32) (T : Int64), I2 = up2 I1 o 38 v2 → RkL2 o L2 L1 → T = tolL law hd w wo (c + 1) → V E kX12_tells (rmOf 5 0 0) (QM E (fun r S' I' L' => r = some (.long (tolL law hd w wo law.1)) ∧ S = S' ∧ TsI o I' I ∧ TsL o L' L) 0 0) 0 0 S I2 L2 247 [(0, .ref o), (1, .int (nI hd)), (2, .int a2), (3, .int a3), (4, .long wo), (6, .long T), (8, .int (nI c)), (9, .int (nI (lb + 2 + 8 * c)))] [] := by
      intro I2 L2 v2 T e2 hR eT
      subst eT
      refine V_iinc1 (pc := 247) (ls' := [(0, _), (1, _), (2, _), (3, _), (4, _), (6, _), (8, _), (9, _)]) dX12_tells_247 rfl (by decide) rfl ?_
      refine V_loc [0, 1, 2, 3, 4, 5, 6] rfl ?_
      refine V_goto (pc := 250) (tgt := 182) dX12_tells_250 (by decide) ?_
      exact ih I2 L2 v2 e2 hR
    by_cases hkd : law.2.1 c = hd
    · skip
      refine V_iload (pc := 182) dX12_tells_182 rfl ?_
      refine V_aload_n (pc := 184) dX12_tells_184 rfl ?_
      refine V_getR (pc := 185) 12 3 dX12_tells_185 flX12_13 (by decide) h12.o h12.R3 ?_
      refine V_aload_n (pc := 188) dX12_tells_188 rfl ?_
      refine V_getIE (pc := 189) 12 34 dX12_tells_189 flX12_427 (by decide) h12.o (gl) ?_
      refine V_iconst (pc := 192) (v := nI 1) dX12_tells_192 (by decide) ?_
      refine V_iaddN (pc := 193) dX12_tells_193 ?_
      refine V_ialoadE (pc := 194) dX12_tells_194 h12.A3 (by first | decide | omega) (by omega) ((congrFun gr _).trans hn) ?_
      refine V_icmp_geN (pc := 195) (tgt := 253) dX12_tells_195 (by decide) (by omega) (by omega) (fun c195 => absurd c195 (by omega)) (fun n195 => ?_)
      refine V_aload_n (pc := 198) dX12_tells_198 rfl ?_
      refine V_getIE (pc := 199) 12 34 dX12_tells_199 flX12_427 (by decide) h12.o (gl) ?_
      refine V_iconst (pc := 202) (v := nI 2) dX12_tells_202 (by decide) ?_
      refine V_iaddN (pc := 203) dX12_tells_203 ?_
      refine V_bipush (pc := 204) (v := nI 8) dX12_tells_204 (by decide) ?_
      refine V_iload (pc := 206) dX12_tells_206 rfl ?_
      refine V_imulN (pc := 208) dX12_tells_208 ?_
      refine V_iaddN (pc := 209) dX12_tells_209 ?_
      refine V_istore (pc := 210) (ls' := [(0, _), (1, _), (2, _), (3, _), (4, _), (6, _), (8, _), (9, _)]) dX12_tells_210 (by decide) rfl ?_
      refine V_aload_n (pc := 212) dX12_tells_212 rfl ?_
      refine V_getR (pc := 213) 12 3 dX12_tells_213 flX12_13 (by decide) h12.o h12.R3 ?_
      refine V_iload (pc := 216) dX12_tells_216 rfl ?_
      refine V_ialoadE (pc := 218) dX12_tells_218 h12.A3 (by first | decide | omega) (by omega) ((congrFun gr _).trans hkc) ?_
      refine V_iload_n (pc := 219) dX12_tells_219 rfl ?_
      refine V_icmp_neN (pc := 220) (tgt := 247) dX12_tells_220 (by decide) (by omega) (by omega) (fun c220 => absurd c220 (by omega)) (fun n220 => ?_)
      refine V_aload_n (pc := 223) dX12_tells_223 rfl ?_
      refine V_iload (pc := 224) dX12_tells_224 rfl ?_
      refine V_callV (pc := 226) (ci := 12) (c_X12_isSo (w := w) h12 (hr.cg gr) go gl hlb hL' hc hwo (fun j h1 h2 => by rw [hRk.1 (o + 18) (by omega) (by omega)]; exact hw j h1 h2)) dX12_tells_226 mlX12_447 mkX12_isSo rfl rfl h12.o ⟨by decide, rfl⟩ ⟨Nat.le_of_ble_eq_true rfl, Nat.le_of_ble_eq_true rfl⟩ (Nat.le_of_ble_eq_true rfl) ⟨Nat.le_of_ble_eq_true rfl, Nat.le_of_ble_eq_true rfl⟩ (fun r S' I' L' hp => ?_)
      obtain ⟨rfl, rfl, ⟨v2, rfl⟩, hR2, hsum⟩ := hp
      refine V_if_eqB (pc := 229) (tgt := 247) dX12_tells_229 (by decide) (fun c229 => ?_) (fun n229 => ?_)
      · skip
        refine fin _ _ v2 _ (by rw [eI, up2_up2]) (hR2.tr hRk) ?_
        first | exact hv1.symm | (unfold tolL; rw [tld, if_neg (fun z => by rw [z.2] at c229; cases c229)])
      · skip
        refine V_iload_n (pc := 232) dX12_tells_232 rfl ?_
        refine V_iconst (pc := 233) (v := nI 3) dX12_tells_233 (by decide) ?_
        refine V_icmp_neN (pc := 234) (tgt := 241) dX12_tells_234 (by decide) (by omega) (by omega) (fun c234 => ?_) (fun n234 => ?_)
        · skip
          obtain ⟨v9, hv9, hsum'⟩ := hsum n229 (by omega)
          have hv1 : tolL law hd w wo (c + 1) = i64 v9 := by
            unfold tolL
            rw [tld, if_pos ⟨hkd, n229⟩, hv9]
          refine V_aload_n (pc := 241) dX12_tells_241 rfl ?_
          refine V_getLE (pc := 242) 12 40 dX12_tells_242 flX12_444 (by decide) h12.o (hsum') ?_
          refine V_lstore (pc := 245) (ls' := [(0, _), (1, _), (2, _), (3, _), (4, _), (6, _), (8, _), (9, _)]) dX12_tells_245 (by decide) rfl ?_
          refine fin _ _ v2 _ (by rw [eI, up2_up2]) (hR2.tr hRk) ?_
          first | exact hv1.symm | (unfold tolL; rw [tld, if_neg (fun z => by rw [z.2] at c229; cases c229)])
        · skip
          have hv1 : tolL law hd w wo (c + 1) = lN 1 := by
            have h3 : law.2.1 c = 3 := by omega
            obtain ⟨nc, op, arg, -, -, hcl⟩ := hL.2.2
            obtain ⟨-, -, s1, e1, s2, e2, -, -, -, -, -, -, -, -, hsem⟩ := hcl c hc
            have hb3 := (hsem w hwo).2.2.2.2 h3
            unfold tolL
            rw [tld, if_pos ⟨hkd, n229⟩, hb3]
            exact (i64_lN 1).symm
          refine V_lconst (pc := 237) (v := lN 1) dX12_tells_237 (by decide) ?_
          refine V_goto (pc := 238) (tgt := 245) dX12_tells_238 (by decide) ?_
          refine V_lstore (pc := 245) (ls' := [(0, _), (1, _), (2, _), (3, _), (4, _), (6, _), (8, _), (9, _)]) dX12_tells_245 (by decide) rfl ?_
          refine fin _ _ v2 _ (by rw [eI, up2_up2]) (hR2.tr hRk) ?_
          first | exact hv1.symm | (unfold tolL; rw [tld, if_neg (fun z => by rw [z.2] at c229; cases c229)])
    · have hv1 : tolL law hd w wo (c + 1) = tolL law hd w wo c := by
        unfold tolL
        rw [tld, if_neg (fun z => hkd z.1)]
      refine V_iload (pc := 182) dX12_tells_182 rfl ?_
      refine V_aload_n (pc := 184) dX12_tells_184 rfl ?_
      refine V_getR (pc := 185) 12 3 dX12_tells_185 flX12_13 (by decide) h12.o h12.R3 ?_
      refine V_aload_n (pc := 188) dX12_tells_188 rfl ?_
      refine V_getIE (pc := 189) 12 34 dX12_tells_189 flX12_427 (by decide) h12.o (gl) ?_
      refine V_iconst (pc := 192) (v := nI 1) dX12_tells_192 (by decide) ?_
      refine V_iaddN (pc := 193) dX12_tells_193 ?_
      refine V_ialoadE (pc := 194) dX12_tells_194 h12.A3 (by first | decide | omega) (by omega) ((congrFun gr _).trans hn) ?_
      refine V_icmp_geN (pc := 195) (tgt := 253) dX12_tells_195 (by decide) (by omega) (by omega) (fun c195 => absurd c195 (by omega)) (fun n195 => ?_)
      refine V_aload_n (pc := 198) dX12_tells_198 rfl ?_
      refine V_getIE (pc := 199) 12 34 dX12_tells_199 flX12_427 (by decide) h12.o (gl) ?_
      refine V_iconst (pc := 202) (v := nI 2) dX12_tells_202 (by decide) ?_
      refine V_iaddN (pc := 203) dX12_tells_203 ?_
      refine V_bipush (pc := 204) (v := nI 8) dX12_tells_204 (by decide) ?_
      refine V_iload (pc := 206) dX12_tells_206 rfl ?_
      refine V_imulN (pc := 208) dX12_tells_208 ?_
      refine V_iaddN (pc := 209) dX12_tells_209 ?_
      refine V_istore (pc := 210) (ls' := [(0, _), (1, _), (2, _), (3, _), (4, _), (6, _), (8, _), (9, _)]) dX12_tells_210 (by decide) rfl ?_
      refine V_aload_n (pc := 212) dX12_tells_212 rfl ?_
      refine V_getR (pc := 213) 12 3 dX12_tells_213 flX12_13 (by decide) h12.o h12.R3 ?_
      refine V_iload (pc := 216) dX12_tells_216 rfl ?_
      refine V_ialoadE (pc := 218) dX12_tells_218 h12.A3 (by first | decide | omega) (by omega) ((congrFun gr _).trans hkc) ?_
      refine V_iload_n (pc := 219) dX12_tells_219 rfl ?_
      refine V_icmp_neN (pc := 220) (tgt := 247) dX12_tells_220 (by decide) (by omega) (by omega) (fun c220 => ?_) (fun n220 => absurd n220 (by omega))
      exact fin _ _ v _ eI hRk hv1.symm
end MF
