section LB
variable {E : EnT} {k : MI} {R : Room} {Q : QT} {cl sl : Nat} {S : ST} {I : IT} {L : LT} {pc : Nat} {ls : List (Nat × Value)} {st : List Value}
theorem nx_and (a b : Nat) : nI a &&& nI b = nI (a &&& b) := by
  apply Int32.toBitVec_inj.1
  show BitVec.ofNat 32 a &&& BitVec.ofNat 32 b = BitVec.ofNat 32 (a &&& b)
  apply BitVec.eq_of_getLsbD_eq
  intro i hi
  simp [hi]
theorem nx_or (a b : Nat) : nI a ||| nI b = nI (a ||| b) := by
  apply Int32.toBitVec_inj.1
  show BitVec.ofNat 32 a ||| BitVec.ofNat 32 b = BitVec.ofNat 32 (a ||| b)
  apply BitVec.eq_of_getLsbD_eq
  intro i hi
  simp [hi]
theorem nx_xor (a b : Nat) : nI a ^^^ nI b = nI (a ^^^ b) := by
  apply Int32.toBitVec_inj.1
  show BitVec.ofNat 32 a ^^^ BitVec.ofNat 32 b = BitVec.ofNat 32 (a ^^^ b)
  apply BitVec.eq_of_getLsbD_eq
  intro i hi
  simp [hi]
theorem s_l : ∀ n, n < 32 → ((nI n &&& 31).toBitVec.smod 32).toNat = n := by decide +kernel
/-- a without what b has, of eight bits -/
def andn (a b : Nat) : Nat := a &&& (b ^^^ 255)
theorem nx_not (b : Nat) : nI b ^^^ (-1) = nI (b ^^^ 4294967295) := by
  rw [show (-1 : Int32) = nI 4294967295 from by decide, nx_xor]
theorem andn_eq {a b : Nat} (ha : a < 256) : a &&& (b ^^^ 4294967295) = andn a b := by
  apply Nat.eq_of_testBit_eq
  intro i
  unfold andn
  rw [Nat.testBit_and, Nat.testBit_and, Nat.testBit_xor, Nat.testBit_xor]
  by_cases hi : i < 8
  · have h1 : Nat.testBit 4294967295 i = true := by
      rw [show (4294967295 : Nat) = 2 ^ 32 - 1 from rfl, Nat.testBit_two_pow_sub_one]; simp; omega
    have h2 : Nat.testBit 255 i = true := by
      rw [show (255 : Nat) = 2 ^ 8 - 1 from rfl, Nat.testBit_two_pow_sub_one]; simp; omega
    rw [h1, h2]
  · have h3 : a.testBit i = false := Nat.testBit_lt_two_pow (Nat.lt_of_lt_of_le ha (show 2 ^ 8 ≤ 2 ^ i from Nat.pow_le_pow_right (by decide) (by omega)))
    rw [h3]; simp
theorem andn_le (a b : Nat) : andn a b ≤ a := Nat.and_le_left
theorem V_iandN {a b : Nat} (hd : decode k.2.1 pc = .ok (.iand, 1)) (h : V E k R Q cl sl S I L (pc + 1) ls (.int (nI (a &&& b)) :: st)) : V E k R Q cl sl S I L pc ls (.int (nI b) :: .int (nI a) :: st) := V_iand hd (by rw [nx_and]; exact h)
theorem V_iorN {a b : Nat} (hd : decode k.2.1 pc = .ok (.ior, 1)) (h : V E k R Q cl sl S I L (pc + 1) ls (.int (nI (a ||| b)) :: st)) : V E k R Q cl sl S I L pc ls (.int (nI b) :: .int (nI a) :: st) := V_ior hd (by rw [nx_or]; exact h)
theorem V_ixorN {a b : Nat} (hd : decode k.2.1 pc = .ok (.ixor, 1)) (h : V E k R Q cl sl S I L (pc + 1) ls (.int (nI (a ^^^ b)) :: st)) : V E k R Q cl sl S I L pc ls (.int (nI b) :: .int (nI a) :: st) := V_ixor hd (by rw [nx_xor]; exact h)
theorem V_iandX {a b : Nat} (hd : decode k.2.1 pc = .ok (.iand, 1)) (ha : a < 256) (h : V E k R Q cl sl S I L (pc + 1) ls (.int (nI (andn a b)) :: st)) : V E k R Q cl sl S I L pc ls (.int (nI b ^^^ (-1)) :: .int (nI a) :: st) := V_iand hd (by rw [nx_not, nx_and, andn_eq ha]; exact h)
theorem V_ishlN {a t : Nat} (hd : decode k.2.1 pc = .ok (.ishl, 1)) (ht : t < 32) (hb : a * 2 ^ t < 2 ^ 32) (h : V E k R Q cl sl S I L (pc + 1) ls (.int (nI (a * 2 ^ t)) :: st)) : V E k R Q cl sl S I L pc ls (.int (nI t) :: .int (nI a) :: st) := V_ishl hd (by rw [pk_shlN _ t (s_l t ht) hb]; exact h)
theorem V_ishrN {a t : Nat} (hd : decode k.2.1 pc = .ok (.ishr, 1)) (ht : t < 32) (ha : a < 2 ^ 31) (h : V E k R Q cl sl S I L (pc + 1) ls (.int (nI (a / 2 ^ t)) :: st)) : V E k R Q cl sl S I L pc ls (.int (nI t) :: .int (nI a) :: st) := V_ishr hd (by rw [pk_shrN ha _ t (s_l t ht)]; exact h)
theorem V_iand1 {a : Nat} (hd : decode k.2.1 pc = .ok (.iand, 1)) (h : V E k R Q cl sl S I L (pc + 1) ls (.int (nI (a % 2)) :: st)) : V E k R Q cl sl S I L pc ls (.int (nI 1) :: .int (nI a) :: st) := V_iandN hd (by rw [show a &&& 1 = a % 2 from Nat.and_two_pow_sub_one_eq_mod a 1]; exact h)
theorem V_ialoadE {a n j : Nat} {v : Int32} (hd : decode k.2.1 pc = .ok (.iaload, 1)) (ha : isA E S a 0 n) (hn : n < 2 ^ 31) (hj : j < n) (hv : I a j = v) (h : V E k R Q cl sl S I L (pc + 1) ls (.int v :: st)) : V E k R Q cl sl S I L pc ls (.int (nI j) :: .ref a :: st) := V_iaload hd ha hn hj (hv ▸ h)
theorem V_baloadE {a n j : Nat} {v : Int32} (hd : decode k.2.1 pc = .ok (.baload, 1)) (ha : isA E S a 2 n) (hn : n < 2 ^ 31) (hj : j < n) (hv : I a j = v) (h : V E k R Q cl sl S I L (pc + 1) ls (.int v :: st)) : V E k R Q cl sl S I L pc ls (.int (nI j) :: .ref a :: st) := V_baload hd ha hn hj (hv ▸ h)
theorem V_laloadE {a n j : Nat} {v : Int64} (hd : decode k.2.1 pc = .ok (.laload, 1)) (ha : isA E S a 1 n) (hn : n < 2 ^ 31) (hj : j < n) (hv : L a j = v) (h : V E k R Q cl sl S I L (pc + 1) ls (.long v :: st)) : V E k R Q cl sl S I L pc ls (.int (nI j) :: .ref a :: st) := V_laload hd ha hn hj (hv ▸ h)
theorem V_getIE (ci kf : Nat) {a index : Nat} {v : Int32} (hd : decode k.2.1 pc = .ok (.getfield index, 3)) (hw : Cond.fieldLink k.1.cls index (TC ci kf).1 (TC ci kf).2.1 (TC ci kf).2.2.1 ∈ TT) (hci : ci < 13 ∧ kf < nfC ci ∧ fcd (tyC ci kf) = 0) (ho : isO E S a ci) (hv : I a kf = v) (h : V E k R Q cl sl S I L (pc + 3) ls (.int v :: st)) : V E k R Q cl sl S I L pc ls (.ref a :: st) := V_getI ci kf hd hw hci ho (hv ▸ h)
theorem V_getLE (ci kf : Nat) {a index : Nat} {v : Int64} (hd : decode k.2.1 pc = .ok (.getfield index, 3)) (hw : Cond.fieldLink k.1.cls index (TC ci kf).1 (TC ci kf).2.1 (TC ci kf).2.2.1 ∈ TT) (hci : ci < 13 ∧ kf < nfC ci ∧ fcd (tyC ci kf) = 1) (ho : isO E S a ci) (hv : L a kf = v) (h : V E k R Q cl sl S I L (pc + 3) ls (.long v :: st)) : V E k R Q cl sl S I L pc ls (.ref a :: st) := V_getL ci kf hd hw hci ho (hv ▸ h)
/-- booleans -/
def b2i (p : Bool) : Int32 := nI p.toNat
theorem b2i_t : b2i true = nI 1 := rfl
theorem b2i_f : b2i false = nI 0 := rfl
theorem b2i_n (p : Bool) : narrow .boolean (.int (b2i p)) = .int (b2i p) := by cases p <;> rfl
theorem b2i_0 {p : Bool} : b2i p = 0 ↔ p = false := by cases p <;> decide
theorem V_if_eqB {p : Bool} {off : Int} {tgt : Nat} (hd : decode k.2.1 pc = .ok (.ifCond .eq off, 3)) (ht : (pc : Int) + off = (tgt : Int)) (kt : p = false → V E k R Q cl sl S I L tgt ls st) (kf : p = true → V E k R Q cl sl S I L (pc + 3) ls st) : V E k R Q cl sl S I L pc ls (.int (b2i p) :: st) := V_if_eq hd ht (fun q => kt (b2i_0.mp q)) (fun q => kf (by cases p with | true => rfl | false => exact absurd rfl q))
theorem V_if_neB {p : Bool} {off : Int} {tgt : Nat} (hd : decode k.2.1 pc = .ok (.ifCond .ne off, 3)) (ht : (pc : Int) + off = (tgt : Int)) (kt : p = true → V E k R Q cl sl S I L tgt ls st) (kf : p = false → V E k R Q cl sl S I L (pc + 3) ls st) : V E k R Q cl sl S I L pc ls (.int (b2i p) :: st) := V_if_ne hd ht (fun q => kt (by cases p with | true => rfl | false => exact absurd rfl q)) (fun q => kf (b2i_0.mp q))
theorem V_zretB {post : Option Value → ST → IT → LT → Prop} {mc ms : Nat} {p : Bool} {v : Int32} (hd : decode k.2.1 pc = .ok (.ireturn, 1)) (hr0 : k.2.2.2 = some .boolean) (hv : v = b2i p) (h1 : cl ≤ mc) (h2 : sl ≤ ms) (hp : post (some (.int (b2i p))) S I L) : V E k R (QM E post mc ms) cl sl S I L pc ls [.int v] := by
  subst hv
  exact V_zret hd hr0 (b2i_n p) h1 h2 hp
/-- x is one of 0 .. n - 1 -/
def bnd (x : Int32) (n : Nat) : Bool := decide (0 ≤ x.toInt ∧ x.toInt < n)
theorem bnd_ex {x : Int32} {n : Nat} (hn : n < 2 ^ 31) (h : bnd x n = true) : ∃ j, j < n ∧ x = nI j := by
  have h1 : 0 ≤ x.toInt ∧ x.toInt < n := of_decide_eq_true h
  have h2 : vp_in x n := vp_in_iff.mpr h1
  obtain ⟨j, h3, h4⟩ := vp_in_of h2 hn
  exact ⟨j, h3, h4⟩
theorem bnd_nI {j n : Nat} (hj : j < 2 ^ 31) : bnd (nI j) n = decide (j < n) := by
  unfold bnd
  rw [nI_toInt hj]
  apply decide_eq_decide.mpr
  omega
theorem bnd_lo {x : Int32} {n : Nat} (h : x < 0) : bnd x n = false := by
  unfold bnd
  apply decide_eq_false
  intro q
  have h1 := Int32.lt_iff_toInt_lt.mp h
  simp at h1
  omega
theorem bnd_hi {x : Int32} {n : Nat} (hn : n < 2 ^ 31) (h : nI n ≤ x) : bnd x n = false := by
  unfold bnd
  apply decide_eq_false
  intro q
  have h1 := Int32.le_iff_toInt_le.mp h
  rw [nI_toInt hn] at h1
  omega
theorem bnd_in {x : Int32} {n : Nat} (hn : n < 2 ^ 31) (h0 : ¬ x < 0) (h : ¬ nI n ≤ x) : bnd x n = true := by
  unfold bnd
  apply decide_eq_true
  have h1 : ¬ x.toInt < 0 := fun q => h0 (Int32.lt_iff_toInt_lt.mpr (by simpa using q))
  have h2 : ¬ (n : Int) ≤ x.toInt := fun q => h (Int32.le_iff_toInt_le.mpr (by rw [nI_toInt hn]; exact q))
  omega
/-- the same by longs -/
theorem bnd64 {x : Int32} {n : Nat} (hn : n < 2 ^ 31) : decide (lN 0 ≤ x.toInt64 ∧ x.toInt64 ≤ lN n - lN 1) = bnd x n := by
  unfold bnd
  apply decide_eq_decide.mpr
  rw [Int64.le_iff_toInt_le, Int64.le_iff_toInt_le, Int32.toInt_toInt64, lN_toInt (by decide)]
  have h1 : (lN n - lN 1).toInt = (n : Int) - 1 := by
    cases n with
    | zero => decide
    | succ n => rw [lN_sub (by omega), lN_toInt (by omega)]; omega
  rw [h1]
  omega
theorem bnd64' {x : Int32} {n : Nat} (hn : n < 2 ^ 31) : decide (lN 0 ≤ x.toInt64 ∧ x.toInt64 ≤ lN n) = bnd x (n + 1) := by
  unfold bnd
  apply decide_eq_decide.mpr
  rw [Int64.le_iff_toInt_le, Int64.le_iff_toInt_le, Int32.toInt_toInt64, lN_toInt (by decide), lN_toInt hn]
  omega
end LB
def Lay9 (E : EnT) (S : ST) (o : Nat) : Prop := (isO E S o 9) ∧ (S.2.2 o 1 = some (o + 1)) ∧ (isA E S (o + 1) 0 48) ∧ (S.2.2 o 2 = some (o + 2)) ∧ (isA E S (o + 2) 0 6) ∧ (S.2.2 o 3 = some (o + 3)) ∧ (isA E S (o + 3) 0 6) ∧ (S.2.2 o 4 = some (o + 4)) ∧ (isA E S (o + 4) 0 6) ∧ (S.2.2 o 5 = some (o + 5)) ∧ (isA E S (o + 5) 0 6) ∧ (S.2.2 o 6 = some (o + 6)) ∧ (isA E S (o + 6) 0 3)
theorem Lay9.o {E : EnT} {S : ST} {o : Nat} (h : Lay9 E S o) : isO E S o 9 := h.1
theorem Lay9.R1 {E : EnT} {S : ST} {o : Nat} (h : Lay9 E S o) : S.2.2 o 1 = some (o + 1) := h.2.1
theorem Lay9.A1 {E : EnT} {S : ST} {o : Nat} (h : Lay9 E S o) : isA E S (o + 1) 0 48 := h.2.2.1
theorem Lay9.R2 {E : EnT} {S : ST} {o : Nat} (h : Lay9 E S o) : S.2.2 o 2 = some (o + 2) := h.2.2.2.1
theorem Lay9.A2 {E : EnT} {S : ST} {o : Nat} (h : Lay9 E S o) : isA E S (o + 2) 0 6 := h.2.2.2.2.1
theorem Lay9.R3 {E : EnT} {S : ST} {o : Nat} (h : Lay9 E S o) : S.2.2 o 3 = some (o + 3) := h.2.2.2.2.2.1
theorem Lay9.A3 {E : EnT} {S : ST} {o : Nat} (h : Lay9 E S o) : isA E S (o + 3) 0 6 := h.2.2.2.2.2.2.1
theorem Lay9.R4 {E : EnT} {S : ST} {o : Nat} (h : Lay9 E S o) : S.2.2 o 4 = some (o + 4) := h.2.2.2.2.2.2.2.1
theorem Lay9.A4 {E : EnT} {S : ST} {o : Nat} (h : Lay9 E S o) : isA E S (o + 4) 0 6 := h.2.2.2.2.2.2.2.2.1
theorem Lay9.R5 {E : EnT} {S : ST} {o : Nat} (h : Lay9 E S o) : S.2.2 o 5 = some (o + 5) := h.2.2.2.2.2.2.2.2.2.1
theorem Lay9.A5 {E : EnT} {S : ST} {o : Nat} (h : Lay9 E S o) : isA E S (o + 5) 0 6 := h.2.2.2.2.2.2.2.2.2.2.1
theorem Lay9.R6 {E : EnT} {S : ST} {o : Nat} (h : Lay9 E S o) : S.2.2 o 6 = some (o + 6) := h.2.2.2.2.2.2.2.2.2.2.2.1
theorem Lay9.A6 {E : EnT} {S : ST} {o : Nat} (h : Lay9 E S o) : isA E S (o + 6) 0 3 := h.2.2.2.2.2.2.2.2.2.2.2.2
def Lay7 (E : EnT) (S : ST) (o : Nat) (n m : Nat) : Prop := (isO E S o 7) ∧ (S.2.2 o 1 = some (o + 1)) ∧ (S.2.2 o 2 = some (o + 2)) ∧ (S.2.2 o 3 = some (o + 3)) ∧ (S.2.2 o 4 = some (o + 4)) ∧ (S.2.2 o 5 = some (o + 5)) ∧ (isA E S (o + 1) 0 n) ∧ (isA E S (o + 2) 0 n) ∧ (isA E S (o + 3) 0 (n * 4)) ∧ (isA E S (o + 4) 0 m) ∧ (isA E S (o + 5) 0 m)
theorem Lay7.o {E : EnT} {S : ST} {o n m : Nat} (h : Lay7 E S o n m) : isO E S o 7 := h.1
theorem Lay7.R1 {E : EnT} {S : ST} {o n m : Nat} (h : Lay7 E S o n m) : S.2.2 o 1 = some (o + 1) := h.2.1
theorem Lay7.R2 {E : EnT} {S : ST} {o n m : Nat} (h : Lay7 E S o n m) : S.2.2 o 2 = some (o + 2) := h.2.2.1
theorem Lay7.R3 {E : EnT} {S : ST} {o n m : Nat} (h : Lay7 E S o n m) : S.2.2 o 3 = some (o + 3) := h.2.2.2.1
theorem Lay7.R4 {E : EnT} {S : ST} {o n m : Nat} (h : Lay7 E S o n m) : S.2.2 o 4 = some (o + 4) := h.2.2.2.2.1
theorem Lay7.R5 {E : EnT} {S : ST} {o n m : Nat} (h : Lay7 E S o n m) : S.2.2 o 5 = some (o + 5) := h.2.2.2.2.2.1
theorem Lay7.A1 {E : EnT} {S : ST} {o n m : Nat} (h : Lay7 E S o n m) : isA E S (o + 1) 0 n := h.2.2.2.2.2.2.1
theorem Lay7.A2 {E : EnT} {S : ST} {o n m : Nat} (h : Lay7 E S o n m) : isA E S (o + 2) 0 n := h.2.2.2.2.2.2.2.1
theorem Lay7.A3 {E : EnT} {S : ST} {o n m : Nat} (h : Lay7 E S o n m) : isA E S (o + 3) 0 (n * 4) := h.2.2.2.2.2.2.2.2.1
theorem Lay7.A4 {E : EnT} {S : ST} {o n m : Nat} (h : Lay7 E S o n m) : isA E S (o + 4) 0 m := h.2.2.2.2.2.2.2.2.2.1
theorem Lay7.A5 {E : EnT} {S : ST} {o n m : Nat} (h : Lay7 E S o n m) : isA E S (o + 5) 0 m := h.2.2.2.2.2.2.2.2.2.2
def Lay10 (E : EnT) (S : ST) (o : Nat) (t : Nat) : Prop := (isO E S o 10) ∧ (S.2.2 o 0 = some (o + 1)) ∧ (Lay9 E S (o + 1)) ∧ (S.2.2 o 2 = some (o + 8)) ∧ (isA E S (o + 8) 0 6) ∧ (S.2.2 o 3 = some (o + 9)) ∧ (isA E S (o + 9) 0 6) ∧ (S.2.2 o 5 = some (o + 10)) ∧ (isA E S (o + 10) 0 8) ∧ (S.2.2 o 6 = some (o + 11)) ∧ (isA E S (o + 11) 0 8) ∧ (S.2.2 o 7 = some (o + 12)) ∧ (isA E S (o + 12) 0 8) ∧ (S.2.2 o 9 = some (o + 13)) ∧ (isA E S (o + 13) 5 6) ∧ (S.2.2 o 10 = some (t))
theorem Lay10.o {E : EnT} {S : ST} {o t : Nat} (h : Lay10 E S o t) : isO E S o 10 := h.1
theorem Lay10.R0 {E : EnT} {S : ST} {o t : Nat} (h : Lay10 E S o t) : S.2.2 o 0 = some (o + 1) := h.2.1
theorem Lay10.O0 {E : EnT} {S : ST} {o t : Nat} (h : Lay10 E S o t) : Lay9 E S (o + 1) := h.2.2.1
theorem Lay10.R2 {E : EnT} {S : ST} {o t : Nat} (h : Lay10 E S o t) : S.2.2 o 2 = some (o + 8) := h.2.2.2.1
theorem Lay10.A2 {E : EnT} {S : ST} {o t : Nat} (h : Lay10 E S o t) : isA E S (o + 8) 0 6 := h.2.2.2.2.1
theorem Lay10.R3 {E : EnT} {S : ST} {o t : Nat} (h : Lay10 E S o t) : S.2.2 o 3 = some (o + 9) := h.2.2.2.2.2.1
theorem Lay10.A3 {E : EnT} {S : ST} {o t : Nat} (h : Lay10 E S o t) : isA E S (o + 9) 0 6 := h.2.2.2.2.2.2.1
theorem Lay10.R5 {E : EnT} {S : ST} {o t : Nat} (h : Lay10 E S o t) : S.2.2 o 5 = some (o + 10) := h.2.2.2.2.2.2.2.1
theorem Lay10.A5 {E : EnT} {S : ST} {o t : Nat} (h : Lay10 E S o t) : isA E S (o + 10) 0 8 := h.2.2.2.2.2.2.2.2.1
theorem Lay10.R6 {E : EnT} {S : ST} {o t : Nat} (h : Lay10 E S o t) : S.2.2 o 6 = some (o + 11) := h.2.2.2.2.2.2.2.2.2.1
theorem Lay10.A6 {E : EnT} {S : ST} {o t : Nat} (h : Lay10 E S o t) : isA E S (o + 11) 0 8 := h.2.2.2.2.2.2.2.2.2.2.1
theorem Lay10.R7 {E : EnT} {S : ST} {o t : Nat} (h : Lay10 E S o t) : S.2.2 o 7 = some (o + 12) := h.2.2.2.2.2.2.2.2.2.2.2.1
theorem Lay10.A7 {E : EnT} {S : ST} {o t : Nat} (h : Lay10 E S o t) : isA E S (o + 12) 0 8 := h.2.2.2.2.2.2.2.2.2.2.2.2.1
theorem Lay10.R9 {E : EnT} {S : ST} {o t : Nat} (h : Lay10 E S o t) : S.2.2 o 9 = some (o + 13) := h.2.2.2.2.2.2.2.2.2.2.2.2.2.1
theorem Lay10.A9 {E : EnT} {S : ST} {o t : Nat} (h : Lay10 E S o t) : isA E S (o + 13) 5 6 := h.2.2.2.2.2.2.2.2.2.2.2.2.2.2.1
theorem Lay10.R10 {E : EnT} {S : ST} {o t : Nat} (h : Lay10 E S o t) : S.2.2 o 10 = some (t) := h.2.2.2.2.2.2.2.2.2.2.2.2.2.2.2
def Lay2 (E : EnT) (S : ST) (o : Nat) : Prop := (isO E S o 2) ∧ (S.2.2 o 2 = some (o + 1)) ∧ (isA E S (o + 1) 0 16) ∧ (S.2.2 o 3 = some (o + 2)) ∧ (isA E S (o + 2) 3 16) ∧ (∀ i, i < 16 → S.2.2 (o + 2) i = some (o + 3 + 7 * i)) ∧ (∀ i, i < 16 → Lay9 E S (o + 3 + 7 * i))
theorem Lay2.o {E : EnT} {S : ST} {o : Nat} (h : Lay2 E S o) : isO E S o 2 := h.1
theorem Lay2.R2 {E : EnT} {S : ST} {o : Nat} (h : Lay2 E S o) : S.2.2 o 2 = some (o + 1) := h.2.1
theorem Lay2.A2 {E : EnT} {S : ST} {o : Nat} (h : Lay2 E S o) : isA E S (o + 1) 0 16 := h.2.2.1
theorem Lay2.R3 {E : EnT} {S : ST} {o : Nat} (h : Lay2 E S o) : S.2.2 o 3 = some (o + 2) := h.2.2.2.1
theorem Lay2.A3 {E : EnT} {S : ST} {o : Nat} (h : Lay2 E S o) : isA E S (o + 2) 3 16 := h.2.2.2.2.1
theorem Lay2.E3 {E : EnT} {S : ST} {o : Nat} (h : Lay2 E S o) : ∀ i, i < 16 → S.2.2 (o + 2) i = some (o + 3 + 7 * i) := h.2.2.2.2.2.1
theorem Lay2.V3 {E : EnT} {S : ST} {o : Nat} (h : Lay2 E S o) : ∀ i, i < 16 → Lay9 E S (o + 3 + 7 * i) := h.2.2.2.2.2.2
def Lay6 (E : EnT) (S : ST) (o : Nat) : Prop := (isO E S o 6) ∧ (S.2.2 o 0 = some (o + 1)) ∧ (isA E S (o + 1) 0 64)
theorem Lay6.o {E : EnT} {S : ST} {o : Nat} (h : Lay6 E S o) : isO E S o 6 := h.1
theorem Lay6.R0 {E : EnT} {S : ST} {o : Nat} (h : Lay6 E S o) : S.2.2 o 0 = some (o + 1) := h.2.1
theorem Lay6.A0 {E : EnT} {S : ST} {o : Nat} (h : Lay6 E S o) : isA E S (o + 1) 0 64 := h.2.2
def Lay3 (E : EnT) (S : ST) (o : Nat) (t : Nat) : Prop := (isO E S o 3) ∧ (S.2.2 o 0 = some (t)) ∧ (Lay6 E S (t)) ∧ (S.2.2 o 1 = some (o + 1)) ∧ (isA E S (o + 1) 0 24)
theorem Lay3.o {E : EnT} {S : ST} {o t : Nat} (h : Lay3 E S o t) : isO E S o 3 := h.1
theorem Lay3.R0 {E : EnT} {S : ST} {o t : Nat} (h : Lay3 E S o t) : S.2.2 o 0 = some (t) := h.2.1
theorem Lay3.O0 {E : EnT} {S : ST} {o t : Nat} (h : Lay3 E S o t) : Lay6 E S (t) := h.2.2.1
theorem Lay3.R1 {E : EnT} {S : ST} {o t : Nat} (h : Lay3 E S o t) : S.2.2 o 1 = some (o + 1) := h.2.2.2.1
theorem Lay3.A1 {E : EnT} {S : ST} {o t : Nat} (h : Lay3 E S o t) : isA E S (o + 1) 0 24 := h.2.2.2.2
def Lay0 (E : EnT) (S : ST) (o : Nat) (w j t : Nat) : Prop := (isO E S o 0) ∧ (S.2.2 o 0 = some (w)) ∧ (S.2.2 o 1 = some (j)) ∧ (Lay3 E S (j) t) ∧ (S.2.2 o 2 = some (t)) ∧ (Lay6 E S (t)) ∧ (S.2.2 o 3 = some (o + 1)) ∧ (Lay2 E S (o + 1)) ∧ (S.2.2 o 4 = some (o + 116)) ∧ (isA E S (o + 116) 0 24) ∧ (S.2.2 o 5 = some (o + 117)) ∧ (Lay9 E S (o + 117)) ∧ (S.2.2 o 6 = some (o + 124)) ∧ (Lay2 E S (o + 124))
theorem Lay0.o {E : EnT} {S : ST} {o w j t : Nat} (h : Lay0 E S o w j t) : isO E S o 0 := h.1
theorem Lay0.R0 {E : EnT} {S : ST} {o w j t : Nat} (h : Lay0 E S o w j t) : S.2.2 o 0 = some (w) := h.2.1
theorem Lay0.R1 {E : EnT} {S : ST} {o w j t : Nat} (h : Lay0 E S o w j t) : S.2.2 o 1 = some (j) := h.2.2.1
theorem Lay0.O1 {E : EnT} {S : ST} {o w j t : Nat} (h : Lay0 E S o w j t) : Lay3 E S (j) t := h.2.2.2.1
theorem Lay0.R2 {E : EnT} {S : ST} {o w j t : Nat} (h : Lay0 E S o w j t) : S.2.2 o 2 = some (t) := h.2.2.2.2.1
theorem Lay0.O2 {E : EnT} {S : ST} {o w j t : Nat} (h : Lay0 E S o w j t) : Lay6 E S (t) := h.2.2.2.2.2.1
theorem Lay0.R3 {E : EnT} {S : ST} {o w j t : Nat} (h : Lay0 E S o w j t) : S.2.2 o 3 = some (o + 1) := h.2.2.2.2.2.2.1
theorem Lay0.O3 {E : EnT} {S : ST} {o w j t : Nat} (h : Lay0 E S o w j t) : Lay2 E S (o + 1) := h.2.2.2.2.2.2.2.1
theorem Lay0.R4 {E : EnT} {S : ST} {o w j t : Nat} (h : Lay0 E S o w j t) : S.2.2 o 4 = some (o + 116) := h.2.2.2.2.2.2.2.2.1
theorem Lay0.A4 {E : EnT} {S : ST} {o w j t : Nat} (h : Lay0 E S o w j t) : isA E S (o + 116) 0 24 := h.2.2.2.2.2.2.2.2.2.1
theorem Lay0.R5 {E : EnT} {S : ST} {o w j t : Nat} (h : Lay0 E S o w j t) : S.2.2 o 5 = some (o + 117) := h.2.2.2.2.2.2.2.2.2.2.1
theorem Lay0.O5 {E : EnT} {S : ST} {o w j t : Nat} (h : Lay0 E S o w j t) : Lay9 E S (o + 117) := h.2.2.2.2.2.2.2.2.2.2.2.1
theorem Lay0.R6 {E : EnT} {S : ST} {o w j t : Nat} (h : Lay0 E S o w j t) : S.2.2 o 6 = some (o + 124) := h.2.2.2.2.2.2.2.2.2.2.2.2.1
theorem Lay0.O6 {E : EnT} {S : ST} {o w j t : Nat} (h : Lay0 E S o w j t) : Lay2 E S (o + 124) := h.2.2.2.2.2.2.2.2.2.2.2.2.2
def Lay1 (E : EnT) (S : ST) (o : Nat) (w j t d : Nat) : Prop := (isO E S o 1) ∧ (S.2.2 o 0 = some (d)) ∧ (Lay0 E S (d) w j t) ∧ (S.2.2 o 1 = some (o + 1)) ∧ (Lay9 E S (o + 1))
theorem Lay1.o {E : EnT} {S : ST} {o w j t d : Nat} (h : Lay1 E S o w j t d) : isO E S o 1 := h.1
theorem Lay1.R0 {E : EnT} {S : ST} {o w j t d : Nat} (h : Lay1 E S o w j t d) : S.2.2 o 0 = some (d) := h.2.1
theorem Lay1.O0 {E : EnT} {S : ST} {o w j t d : Nat} (h : Lay1 E S o w j t d) : Lay0 E S (d) w j t := h.2.2.1
theorem Lay1.R1 {E : EnT} {S : ST} {o w j t d : Nat} (h : Lay1 E S o w j t d) : S.2.2 o 1 = some (o + 1) := h.2.2.2.1
theorem Lay1.O1 {E : EnT} {S : ST} {o w j t d : Nat} (h : Lay1 E S o w j t d) : Lay9 E S (o + 1) := h.2.2.2.2
def Lay4 (E : EnT) (S : ST) (o : Nat) : Prop := (isO E S o 4) ∧ (S.2.2 o 0 = some (o + 1)) ∧ (isA E S (o + 1) 0 36) ∧ (S.2.2 o 1 = some (o + 2)) ∧ (isA E S (o + 2) 0 36) ∧ (S.2.2 o 2 = some (o + 3)) ∧ (isA E S (o + 3) 0 36) ∧ (S.2.2 o 3 = some (o + 4)) ∧ (isA E S (o + 4) 0 6) ∧ (S.2.2 o 4 = some (o + 5)) ∧ (isA E S (o + 5) 0 448) ∧ (S.2.2 o 5 = some (o + 6)) ∧ (isA E S (o + 6) 0 6)
theorem Lay4.o {E : EnT} {S : ST} {o : Nat} (h : Lay4 E S o) : isO E S o 4 := h.1
theorem Lay4.R0 {E : EnT} {S : ST} {o : Nat} (h : Lay4 E S o) : S.2.2 o 0 = some (o + 1) := h.2.1
theorem Lay4.A0 {E : EnT} {S : ST} {o : Nat} (h : Lay4 E S o) : isA E S (o + 1) 0 36 := h.2.2.1
theorem Lay4.R1 {E : EnT} {S : ST} {o : Nat} (h : Lay4 E S o) : S.2.2 o 1 = some (o + 2) := h.2.2.2.1
theorem Lay4.A1 {E : EnT} {S : ST} {o : Nat} (h : Lay4 E S o) : isA E S (o + 2) 0 36 := h.2.2.2.2.1
theorem Lay4.R2 {E : EnT} {S : ST} {o : Nat} (h : Lay4 E S o) : S.2.2 o 2 = some (o + 3) := h.2.2.2.2.2.1
theorem Lay4.A2 {E : EnT} {S : ST} {o : Nat} (h : Lay4 E S o) : isA E S (o + 3) 0 36 := h.2.2.2.2.2.2.1
theorem Lay4.R3 {E : EnT} {S : ST} {o : Nat} (h : Lay4 E S o) : S.2.2 o 3 = some (o + 4) := h.2.2.2.2.2.2.2.1
theorem Lay4.A3 {E : EnT} {S : ST} {o : Nat} (h : Lay4 E S o) : isA E S (o + 4) 0 6 := h.2.2.2.2.2.2.2.2.1
theorem Lay4.R4 {E : EnT} {S : ST} {o : Nat} (h : Lay4 E S o) : S.2.2 o 4 = some (o + 5) := h.2.2.2.2.2.2.2.2.2.1
theorem Lay4.A4 {E : EnT} {S : ST} {o : Nat} (h : Lay4 E S o) : isA E S (o + 5) 0 448 := h.2.2.2.2.2.2.2.2.2.2.1
theorem Lay4.R5 {E : EnT} {S : ST} {o : Nat} (h : Lay4 E S o) : S.2.2 o 5 = some (o + 6) := h.2.2.2.2.2.2.2.2.2.2.2.1
theorem Lay4.A5 {E : EnT} {S : ST} {o : Nat} (h : Lay4 E S o) : isA E S (o + 6) 0 6 := h.2.2.2.2.2.2.2.2.2.2.2.2
def Lay8 (E : EnT) (S : ST) (o : Nat) : Prop := (isO E S o 8) ∧ (S.2.2 o 0 = some (o + 1)) ∧ (isA E S (o + 1) 0 2048) ∧ (S.2.2 o 1 = some (o + 2)) ∧ (isA E S (o + 2) 0 256) ∧ (S.2.2 o 2 = some (o + 3)) ∧ (isA E S (o + 3) 0 256) ∧ (S.2.2 o 3 = some (o + 4)) ∧ (isA E S (o + 4) 0 8) ∧ (S.2.2 o 4 = some (o + 5)) ∧ (isA E S (o + 5) 0 8)
theorem Lay8.o {E : EnT} {S : ST} {o : Nat} (h : Lay8 E S o) : isO E S o 8 := h.1
theorem Lay8.R0 {E : EnT} {S : ST} {o : Nat} (h : Lay8 E S o) : S.2.2 o 0 = some (o + 1) := h.2.1
theorem Lay8.A0 {E : EnT} {S : ST} {o : Nat} (h : Lay8 E S o) : isA E S (o + 1) 0 2048 := h.2.2.1
theorem Lay8.R1 {E : EnT} {S : ST} {o : Nat} (h : Lay8 E S o) : S.2.2 o 1 = some (o + 2) := h.2.2.2.1
theorem Lay8.A1 {E : EnT} {S : ST} {o : Nat} (h : Lay8 E S o) : isA E S (o + 2) 0 256 := h.2.2.2.2.1
theorem Lay8.R2 {E : EnT} {S : ST} {o : Nat} (h : Lay8 E S o) : S.2.2 o 2 = some (o + 3) := h.2.2.2.2.2.1
theorem Lay8.A2 {E : EnT} {S : ST} {o : Nat} (h : Lay8 E S o) : isA E S (o + 3) 0 256 := h.2.2.2.2.2.2.1
theorem Lay8.R3 {E : EnT} {S : ST} {o : Nat} (h : Lay8 E S o) : S.2.2 o 3 = some (o + 4) := h.2.2.2.2.2.2.2.1
theorem Lay8.A3 {E : EnT} {S : ST} {o : Nat} (h : Lay8 E S o) : isA E S (o + 4) 0 8 := h.2.2.2.2.2.2.2.2.1
theorem Lay8.R4 {E : EnT} {S : ST} {o : Nat} (h : Lay8 E S o) : S.2.2 o 4 = some (o + 5) := h.2.2.2.2.2.2.2.2.2.1
theorem Lay8.A4 {E : EnT} {S : ST} {o : Nat} (h : Lay8 E S o) : isA E S (o + 5) 0 8 := h.2.2.2.2.2.2.2.2.2.2
def Lay5 (E : EnT) (S : ST) (o : Nat) : Prop := (isO E S o 5) ∧ (S.2.2 o 0 = some (o + 1)) ∧ (isA E S (o + 1) 0 401) ∧ (S.2.2 o 1 = some (o + 2)) ∧ (isA E S (o + 2) 0 401) ∧ (S.2.2 o 2 = some (o + 3)) ∧ (isA E S (o + 3) 0 401) ∧ (S.2.2 o 7 = some (o + 4)) ∧ (isA E S (o + 4) 0 12) ∧ (S.2.2 o 8 = some (o + 5)) ∧ (isA E S (o + 5) 0 12) ∧ (S.2.2 o 9 = some (o + 6)) ∧ (isA E S (o + 6) 0 48) ∧ (S.2.2 o 10 = some (o + 7)) ∧ (isA E S (o + 7) 0 448) ∧ (S.2.2 o 11 = some (o + 8)) ∧ (isA E S (o + 8) 0 448)
theorem Lay5.o {E : EnT} {S : ST} {o : Nat} (h : Lay5 E S o) : isO E S o 5 := h.1
theorem Lay5.R0 {E : EnT} {S : ST} {o : Nat} (h : Lay5 E S o) : S.2.2 o 0 = some (o + 1) := h.2.1
theorem Lay5.A0 {E : EnT} {S : ST} {o : Nat} (h : Lay5 E S o) : isA E S (o + 1) 0 401 := h.2.2.1
theorem Lay5.R1 {E : EnT} {S : ST} {o : Nat} (h : Lay5 E S o) : S.2.2 o 1 = some (o + 2) := h.2.2.2.1
theorem Lay5.A1 {E : EnT} {S : ST} {o : Nat} (h : Lay5 E S o) : isA E S (o + 2) 0 401 := h.2.2.2.2.1
theorem Lay5.R2 {E : EnT} {S : ST} {o : Nat} (h : Lay5 E S o) : S.2.2 o 2 = some (o + 3) := h.2.2.2.2.2.1
theorem Lay5.A2 {E : EnT} {S : ST} {o : Nat} (h : Lay5 E S o) : isA E S (o + 3) 0 401 := h.2.2.2.2.2.2.1
theorem Lay5.R7 {E : EnT} {S : ST} {o : Nat} (h : Lay5 E S o) : S.2.2 o 7 = some (o + 4) := h.2.2.2.2.2.2.2.1
theorem Lay5.A7 {E : EnT} {S : ST} {o : Nat} (h : Lay5 E S o) : isA E S (o + 4) 0 12 := h.2.2.2.2.2.2.2.2.1
theorem Lay5.R8 {E : EnT} {S : ST} {o : Nat} (h : Lay5 E S o) : S.2.2 o 8 = some (o + 5) := h.2.2.2.2.2.2.2.2.2.1
theorem Lay5.A8 {E : EnT} {S : ST} {o : Nat} (h : Lay5 E S o) : isA E S (o + 5) 0 12 := h.2.2.2.2.2.2.2.2.2.2.1
theorem Lay5.R9 {E : EnT} {S : ST} {o : Nat} (h : Lay5 E S o) : S.2.2 o 9 = some (o + 6) := h.2.2.2.2.2.2.2.2.2.2.2.1
theorem Lay5.A9 {E : EnT} {S : ST} {o : Nat} (h : Lay5 E S o) : isA E S (o + 6) 0 48 := h.2.2.2.2.2.2.2.2.2.2.2.2.1
theorem Lay5.R10 {E : EnT} {S : ST} {o : Nat} (h : Lay5 E S o) : S.2.2 o 10 = some (o + 7) := h.2.2.2.2.2.2.2.2.2.2.2.2.2.1
theorem Lay5.A10 {E : EnT} {S : ST} {o : Nat} (h : Lay5 E S o) : isA E S (o + 7) 0 448 := h.2.2.2.2.2.2.2.2.2.2.2.2.2.2.1
theorem Lay5.R11 {E : EnT} {S : ST} {o : Nat} (h : Lay5 E S o) : S.2.2 o 11 = some (o + 8) := h.2.2.2.2.2.2.2.2.2.2.2.2.2.2.2.1
theorem Lay5.A11 {E : EnT} {S : ST} {o : Nat} (h : Lay5 E S o) : isA E S (o + 8) 0 448 := h.2.2.2.2.2.2.2.2.2.2.2.2.2.2.2.2
def Lay11 (E : EnT) (S : ST) (o : Nat) : Prop := (isO E S o 11) ∧ (S.2.2 o 0 = some (o + 36)) ∧ (Lay10 E S (o + 36) (o + 30)) ∧ (S.2.2 o 1 = some (o + 1)) ∧ (isA E S (o + 1) 4 2) ∧ (S.2.2 o 2 = some (o + 2)) ∧ (isA E S (o + 2) 2 2) ∧ (S.2.2 o 3 = some (o + 80)) ∧ (Lay3 E S (o + 80) (o + 78)) ∧ (S.2.2 o 4 = some (o + 82)) ∧ (Lay0 E S (o + 82) (o + 36) (o + 80) (o + 78)) ∧ (S.2.2 o 5 = some (o + 321)) ∧ (Lay1 E S (o + 321) (o + 36) (o + 80) (o + 78) (o + 82)) ∧ (S.2.2 o 6 = some (o + 3)) ∧ (Lay4 E S (o + 3)) ∧ (S.2.2 o 7 = some (o + 10)) ∧ (Lay8 E S (o + 10)) ∧ (S.2.2 o 8 = some (o + 21)) ∧ (Lay5 E S (o + 21)) ∧ (S.2.2 o 9 = some (o + 16)) ∧ (isA E S (o + 16) 0 400) ∧ (S.2.2 o 14 = some (o + 17)) ∧ (isA E S (o + 17) 0 7) ∧ (S.2.2 o 15 = some (o + 18)) ∧ (isA E S (o + 18) 1 21) ∧ (S.2.2 o 16 = some (o + 19)) ∧ (isA E S (o + 19) 0 6) ∧ (S.2.2 o 17 = some (o + 20)) ∧ (isA E S (o + 20) 0 6) ∧ (S.2.2 (o + 1) 0 = some (o + 50)) ∧ (S.2.2 (o + 1) 1 = some (o + 64)) ∧ (Lay10 E S (o + 50) (o + 30)) ∧ (Lay10 E S (o + 64) (o + 30)) ∧ (Lay7 E S (o + 30) 0 0)
theorem Lay11.o {E : EnT} {S : ST} {o : Nat} (h : Lay11 E S o) : isO E S o 11 := h.1
theorem Lay11.R0 {E : EnT} {S : ST} {o : Nat} (h : Lay11 E S o) : S.2.2 o 0 = some (o + 36) := h.2.1
theorem Lay11.O0 {E : EnT} {S : ST} {o : Nat} (h : Lay11 E S o) : Lay10 E S (o + 36) (o + 30) := h.2.2.1
theorem Lay11.R1 {E : EnT} {S : ST} {o : Nat} (h : Lay11 E S o) : S.2.2 o 1 = some (o + 1) := h.2.2.2.1
theorem Lay11.A1 {E : EnT} {S : ST} {o : Nat} (h : Lay11 E S o) : isA E S (o + 1) 4 2 := h.2.2.2.2.1
theorem Lay11.R2 {E : EnT} {S : ST} {o : Nat} (h : Lay11 E S o) : S.2.2 o 2 = some (o + 2) := h.2.2.2.2.2.1
theorem Lay11.A2 {E : EnT} {S : ST} {o : Nat} (h : Lay11 E S o) : isA E S (o + 2) 2 2 := h.2.2.2.2.2.2.1
theorem Lay11.R3 {E : EnT} {S : ST} {o : Nat} (h : Lay11 E S o) : S.2.2 o 3 = some (o + 80) := h.2.2.2.2.2.2.2.1
theorem Lay11.O3 {E : EnT} {S : ST} {o : Nat} (h : Lay11 E S o) : Lay3 E S (o + 80) (o + 78) := h.2.2.2.2.2.2.2.2.1
theorem Lay11.R4 {E : EnT} {S : ST} {o : Nat} (h : Lay11 E S o) : S.2.2 o 4 = some (o + 82) := h.2.2.2.2.2.2.2.2.2.1
theorem Lay11.O4 {E : EnT} {S : ST} {o : Nat} (h : Lay11 E S o) : Lay0 E S (o + 82) (o + 36) (o + 80) (o + 78) := h.2.2.2.2.2.2.2.2.2.2.1
theorem Lay11.R5 {E : EnT} {S : ST} {o : Nat} (h : Lay11 E S o) : S.2.2 o 5 = some (o + 321) := h.2.2.2.2.2.2.2.2.2.2.2.1
theorem Lay11.O5 {E : EnT} {S : ST} {o : Nat} (h : Lay11 E S o) : Lay1 E S (o + 321) (o + 36) (o + 80) (o + 78) (o + 82) := h.2.2.2.2.2.2.2.2.2.2.2.2.1
theorem Lay11.R6 {E : EnT} {S : ST} {o : Nat} (h : Lay11 E S o) : S.2.2 o 6 = some (o + 3) := h.2.2.2.2.2.2.2.2.2.2.2.2.2.1
theorem Lay11.O6 {E : EnT} {S : ST} {o : Nat} (h : Lay11 E S o) : Lay4 E S (o + 3) := h.2.2.2.2.2.2.2.2.2.2.2.2.2.2.1
theorem Lay11.R7 {E : EnT} {S : ST} {o : Nat} (h : Lay11 E S o) : S.2.2 o 7 = some (o + 10) := h.2.2.2.2.2.2.2.2.2.2.2.2.2.2.2.1
theorem Lay11.O7 {E : EnT} {S : ST} {o : Nat} (h : Lay11 E S o) : Lay8 E S (o + 10) := h.2.2.2.2.2.2.2.2.2.2.2.2.2.2.2.2.1
theorem Lay11.R8 {E : EnT} {S : ST} {o : Nat} (h : Lay11 E S o) : S.2.2 o 8 = some (o + 21) := h.2.2.2.2.2.2.2.2.2.2.2.2.2.2.2.2.2.1
theorem Lay11.O8 {E : EnT} {S : ST} {o : Nat} (h : Lay11 E S o) : Lay5 E S (o + 21) := h.2.2.2.2.2.2.2.2.2.2.2.2.2.2.2.2.2.2.1
theorem Lay11.R9 {E : EnT} {S : ST} {o : Nat} (h : Lay11 E S o) : S.2.2 o 9 = some (o + 16) := h.2.2.2.2.2.2.2.2.2.2.2.2.2.2.2.2.2.2.2.1
theorem Lay11.A9 {E : EnT} {S : ST} {o : Nat} (h : Lay11 E S o) : isA E S (o + 16) 0 400 := h.2.2.2.2.2.2.2.2.2.2.2.2.2.2.2.2.2.2.2.2.1
theorem Lay11.R14 {E : EnT} {S : ST} {o : Nat} (h : Lay11 E S o) : S.2.2 o 14 = some (o + 17) := h.2.2.2.2.2.2.2.2.2.2.2.2.2.2.2.2.2.2.2.2.2.1
theorem Lay11.A14 {E : EnT} {S : ST} {o : Nat} (h : Lay11 E S o) : isA E S (o + 17) 0 7 := h.2.2.2.2.2.2.2.2.2.2.2.2.2.2.2.2.2.2.2.2.2.2.1
theorem Lay11.R15 {E : EnT} {S : ST} {o : Nat} (h : Lay11 E S o) : S.2.2 o 15 = some (o + 18) := h.2.2.2.2.2.2.2.2.2.2.2.2.2.2.2.2.2.2.2.2.2.2.2.1
theorem Lay11.A15 {E : EnT} {S : ST} {o : Nat} (h : Lay11 E S o) : isA E S (o + 18) 1 21 := h.2.2.2.2.2.2.2.2.2.2.2.2.2.2.2.2.2.2.2.2.2.2.2.2.1
theorem Lay11.R16 {E : EnT} {S : ST} {o : Nat} (h : Lay11 E S o) : S.2.2 o 16 = some (o + 19) := h.2.2.2.2.2.2.2.2.2.2.2.2.2.2.2.2.2.2.2.2.2.2.2.2.2.1
theorem Lay11.A16 {E : EnT} {S : ST} {o : Nat} (h : Lay11 E S o) : isA E S (o + 19) 0 6 := h.2.2.2.2.2.2.2.2.2.2.2.2.2.2.2.2.2.2.2.2.2.2.2.2.2.2.1
theorem Lay11.R17 {E : EnT} {S : ST} {o : Nat} (h : Lay11 E S o) : S.2.2 o 17 = some (o + 20) := h.2.2.2.2.2.2.2.2.2.2.2.2.2.2.2.2.2.2.2.2.2.2.2.2.2.2.2.1
theorem Lay11.A17 {E : EnT} {S : ST} {o : Nat} (h : Lay11 E S o) : isA E S (o + 20) 0 6 := h.2.2.2.2.2.2.2.2.2.2.2.2.2.2.2.2.2.2.2.2.2.2.2.2.2.2.2.2.1
theorem Lay11.E1a {E : EnT} {S : ST} {o : Nat} (h : Lay11 E S o) : S.2.2 (o + 1) 0 = some (o + 50) := h.2.2.2.2.2.2.2.2.2.2.2.2.2.2.2.2.2.2.2.2.2.2.2.2.2.2.2.2.2.1
theorem Lay11.E1b {E : EnT} {S : ST} {o : Nat} (h : Lay11 E S o) : S.2.2 (o + 1) 1 = some (o + 64) := h.2.2.2.2.2.2.2.2.2.2.2.2.2.2.2.2.2.2.2.2.2.2.2.2.2.2.2.2.2.2.1
theorem Lay11.V1a {E : EnT} {S : ST} {o : Nat} (h : Lay11 E S o) : Lay10 E S (o + 50) (o + 30) := h.2.2.2.2.2.2.2.2.2.2.2.2.2.2.2.2.2.2.2.2.2.2.2.2.2.2.2.2.2.2.2.1
theorem Lay11.V1b {E : EnT} {S : ST} {o : Nat} (h : Lay11 E S o) : Lay10 E S (o + 64) (o + 30) := h.2.2.2.2.2.2.2.2.2.2.2.2.2.2.2.2.2.2.2.2.2.2.2.2.2.2.2.2.2.2.2.2.1
theorem Lay11.T0 {E : EnT} {S : ST} {o : Nat} (h : Lay11 E S o) : Lay7 E S (o + 30) 0 0 := h.2.2.2.2.2.2.2.2.2.2.2.2.2.2.2.2.2.2.2.2.2.2.2.2.2.2.2.2.2.2.2.2.2
def Lay12 (E : EnT) (S : ST) (o : Nat) : Prop := (isO E S o 12) ∧ (S.2.2 o 2 = some (o + 1)) ∧ (isA E S (o + 1) 0 7) ∧ (S.2.2 o 3 = some (o + 2)) ∧ (isA E S (o + 2) 0 5516) ∧ (S.2.2 o 4 = some (o + 3)) ∧ (isA E S (o + 3) 0 11032) ∧ (S.2.2 o 5 = some (o + 4)) ∧ (isA E S (o + 4) 2 2) ∧ (S.2.2 o 6 = some (o + 5)) ∧ (isA E S (o + 5) 0 1350) ∧ (S.2.2 o 7 = some (o + 6)) ∧ (isA E S (o + 6) 0 16) ∧ (S.2.2 o 9 = some (o + 7)) ∧ (isA E S (o + 7) 0 1200) ∧ (S.2.2 o 10 = some (o + 8)) ∧ (isA E S (o + 8) 0 16) ∧ (S.2.2 o 12 = some (o + 9)) ∧ (isA E S (o + 9) 0 400) ∧ (S.2.2 o 22 = some (o + 10)) ∧ (isA E S (o + 10) 0 96) ∧ (S.2.2 o 24 = some (o + 11)) ∧ (isA E S (o + 11) 0 400) ∧ (S.2.2 o 25 = some (o + 12)) ∧ (isA E S (o + 12) 0 400) ∧ (S.2.2 o 27 = some (o + 13)) ∧ (isA E S (o + 13) 0 400) ∧ (S.2.2 o 28 = some (o + 14)) ∧ (isA E S (o + 14) 0 400) ∧ (S.2.2 o 31 = some (o + 15)) ∧ (isA E S (o + 15) 1 9) ∧ (S.2.2 o 32 = some (o + 16)) ∧ (isA E S (o + 16) 1 6) ∧ (S.2.2 o 33 = some (o + 17)) ∧ (isA E S (o + 17) 1 4) ∧ (S.2.2 o 35 = some (o + 18)) ∧ (isA E S (o + 18) 1 13) ∧ (S.2.2 o 36 = some (o + 19)) ∧ (isA E S (o + 19) 1 13) ∧ (S.2.2 o 37 = some (o + 20)) ∧ (isA E S (o + 20) 1 400) ∧ (S.2.2 o 41 = some (o + 21)) ∧ (isA E S (o + 21) 0 6) ∧ (S.2.2 o 42 = some (o + 22)) ∧ (isA E S (o + 22) 0 36) ∧ (S.2.2 o 43 = some (o + 23)) ∧ (isA E S (o + 23) 0 36) ∧ (S.2.2 o 44 = some (o + 24)) ∧ (isA E S (o + 24) 0 6) ∧ (S.2.2 o 45 = some (o + 25)) ∧ (isA E S (o + 25) 2 36) ∧ (S.2.2 o 46 = some (o + 26)) ∧ (isA E S (o + 26) 0 448) ∧ (S.2.2 o 47 = some (o + 27)) ∧ (isA E S (o + 27) 0 2048) ∧ (S.2.2 o 48 = some (o + 28)) ∧ (isA E S (o + 28) 0 8) ∧ (S.2.2 o 49 = some (o + 29)) ∧ (isA E S (o + 29) 0 3) ∧ (S.2.2 o 50 = some (o + 30)) ∧ (isA E S (o + 30) 0 6) ∧ (S.2.2 o 51 = some (o + 31)) ∧ (isA E S (o + 31) 1 21) ∧ (S.2.2 o 52 = some (o + 32)) ∧ (isA E S (o + 32) 1 4) ∧ (S.2.2 o 53 = some (o + 33)) ∧ (isA E S (o + 33) 1 3) ∧ (S.2.2 o 54 = some (o + 34)) ∧ (isA E S (o + 34) 0 120) ∧ (S.2.2 o 60 = some (o + 35)) ∧ (isA E S (o + 35) 0 18)
theorem Lay12.o {E : EnT} {S : ST} {o : Nat} (h : Lay12 E S o) : isO E S o 12 := h.1
theorem Lay12.R2 {E : EnT} {S : ST} {o : Nat} (h : Lay12 E S o) : S.2.2 o 2 = some (o + 1) := h.2.1
theorem Lay12.A2 {E : EnT} {S : ST} {o : Nat} (h : Lay12 E S o) : isA E S (o + 1) 0 7 := h.2.2.1
theorem Lay12.R3 {E : EnT} {S : ST} {o : Nat} (h : Lay12 E S o) : S.2.2 o 3 = some (o + 2) := h.2.2.2.1
theorem Lay12.A3 {E : EnT} {S : ST} {o : Nat} (h : Lay12 E S o) : isA E S (o + 2) 0 5516 := h.2.2.2.2.1
theorem Lay12.R4 {E : EnT} {S : ST} {o : Nat} (h : Lay12 E S o) : S.2.2 o 4 = some (o + 3) := h.2.2.2.2.2.1
theorem Lay12.A4 {E : EnT} {S : ST} {o : Nat} (h : Lay12 E S o) : isA E S (o + 3) 0 11032 := h.2.2.2.2.2.2.1
theorem Lay12.R5 {E : EnT} {S : ST} {o : Nat} (h : Lay12 E S o) : S.2.2 o 5 = some (o + 4) := h.2.2.2.2.2.2.2.1
theorem Lay12.A5 {E : EnT} {S : ST} {o : Nat} (h : Lay12 E S o) : isA E S (o + 4) 2 2 := h.2.2.2.2.2.2.2.2.1
theorem Lay12.R6 {E : EnT} {S : ST} {o : Nat} (h : Lay12 E S o) : S.2.2 o 6 = some (o + 5) := h.2.2.2.2.2.2.2.2.2.1
theorem Lay12.A6 {E : EnT} {S : ST} {o : Nat} (h : Lay12 E S o) : isA E S (o + 5) 0 1350 := h.2.2.2.2.2.2.2.2.2.2.1
theorem Lay12.R7 {E : EnT} {S : ST} {o : Nat} (h : Lay12 E S o) : S.2.2 o 7 = some (o + 6) := h.2.2.2.2.2.2.2.2.2.2.2.1
theorem Lay12.A7 {E : EnT} {S : ST} {o : Nat} (h : Lay12 E S o) : isA E S (o + 6) 0 16 := h.2.2.2.2.2.2.2.2.2.2.2.2.1
theorem Lay12.R9 {E : EnT} {S : ST} {o : Nat} (h : Lay12 E S o) : S.2.2 o 9 = some (o + 7) := h.2.2.2.2.2.2.2.2.2.2.2.2.2.1
theorem Lay12.A9 {E : EnT} {S : ST} {o : Nat} (h : Lay12 E S o) : isA E S (o + 7) 0 1200 := h.2.2.2.2.2.2.2.2.2.2.2.2.2.2.1
theorem Lay12.R10 {E : EnT} {S : ST} {o : Nat} (h : Lay12 E S o) : S.2.2 o 10 = some (o + 8) := h.2.2.2.2.2.2.2.2.2.2.2.2.2.2.2.1
theorem Lay12.A10 {E : EnT} {S : ST} {o : Nat} (h : Lay12 E S o) : isA E S (o + 8) 0 16 := h.2.2.2.2.2.2.2.2.2.2.2.2.2.2.2.2.1
theorem Lay12.R12 {E : EnT} {S : ST} {o : Nat} (h : Lay12 E S o) : S.2.2 o 12 = some (o + 9) := h.2.2.2.2.2.2.2.2.2.2.2.2.2.2.2.2.2.1
theorem Lay12.A12 {E : EnT} {S : ST} {o : Nat} (h : Lay12 E S o) : isA E S (o + 9) 0 400 := h.2.2.2.2.2.2.2.2.2.2.2.2.2.2.2.2.2.2.1
theorem Lay12.R22 {E : EnT} {S : ST} {o : Nat} (h : Lay12 E S o) : S.2.2 o 22 = some (o + 10) := h.2.2.2.2.2.2.2.2.2.2.2.2.2.2.2.2.2.2.2.1
theorem Lay12.A22 {E : EnT} {S : ST} {o : Nat} (h : Lay12 E S o) : isA E S (o + 10) 0 96 := h.2.2.2.2.2.2.2.2.2.2.2.2.2.2.2.2.2.2.2.2.1
theorem Lay12.R24 {E : EnT} {S : ST} {o : Nat} (h : Lay12 E S o) : S.2.2 o 24 = some (o + 11) := h.2.2.2.2.2.2.2.2.2.2.2.2.2.2.2.2.2.2.2.2.2.1
theorem Lay12.A24 {E : EnT} {S : ST} {o : Nat} (h : Lay12 E S o) : isA E S (o + 11) 0 400 := h.2.2.2.2.2.2.2.2.2.2.2.2.2.2.2.2.2.2.2.2.2.2.1
theorem Lay12.R25 {E : EnT} {S : ST} {o : Nat} (h : Lay12 E S o) : S.2.2 o 25 = some (o + 12) := h.2.2.2.2.2.2.2.2.2.2.2.2.2.2.2.2.2.2.2.2.2.2.2.1
theorem Lay12.A25 {E : EnT} {S : ST} {o : Nat} (h : Lay12 E S o) : isA E S (o + 12) 0 400 := h.2.2.2.2.2.2.2.2.2.2.2.2.2.2.2.2.2.2.2.2.2.2.2.2.1
theorem Lay12.R27 {E : EnT} {S : ST} {o : Nat} (h : Lay12 E S o) : S.2.2 o 27 = some (o + 13) := h.2.2.2.2.2.2.2.2.2.2.2.2.2.2.2.2.2.2.2.2.2.2.2.2.2.1
theorem Lay12.A27 {E : EnT} {S : ST} {o : Nat} (h : Lay12 E S o) : isA E S (o + 13) 0 400 := h.2.2.2.2.2.2.2.2.2.2.2.2.2.2.2.2.2.2.2.2.2.2.2.2.2.2.1
theorem Lay12.R28 {E : EnT} {S : ST} {o : Nat} (h : Lay12 E S o) : S.2.2 o 28 = some (o + 14) := h.2.2.2.2.2.2.2.2.2.2.2.2.2.2.2.2.2.2.2.2.2.2.2.2.2.2.2.1
theorem Lay12.A28 {E : EnT} {S : ST} {o : Nat} (h : Lay12 E S o) : isA E S (o + 14) 0 400 := h.2.2.2.2.2.2.2.2.2.2.2.2.2.2.2.2.2.2.2.2.2.2.2.2.2.2.2.2.1
theorem Lay12.R31 {E : EnT} {S : ST} {o : Nat} (h : Lay12 E S o) : S.2.2 o 31 = some (o + 15) := h.2.2.2.2.2.2.2.2.2.2.2.2.2.2.2.2.2.2.2.2.2.2.2.2.2.2.2.2.2.1
theorem Lay12.A31 {E : EnT} {S : ST} {o : Nat} (h : Lay12 E S o) : isA E S (o + 15) 1 9 := h.2.2.2.2.2.2.2.2.2.2.2.2.2.2.2.2.2.2.2.2.2.2.2.2.2.2.2.2.2.2.1
theorem Lay12.R32 {E : EnT} {S : ST} {o : Nat} (h : Lay12 E S o) : S.2.2 o 32 = some (o + 16) := h.2.2.2.2.2.2.2.2.2.2.2.2.2.2.2.2.2.2.2.2.2.2.2.2.2.2.2.2.2.2.2.1
theorem Lay12.A32 {E : EnT} {S : ST} {o : Nat} (h : Lay12 E S o) : isA E S (o + 16) 1 6 := h.2.2.2.2.2.2.2.2.2.2.2.2.2.2.2.2.2.2.2.2.2.2.2.2.2.2.2.2.2.2.2.2.1
theorem Lay12.R33 {E : EnT} {S : ST} {o : Nat} (h : Lay12 E S o) : S.2.2 o 33 = some (o + 17) := h.2.2.2.2.2.2.2.2.2.2.2.2.2.2.2.2.2.2.2.2.2.2.2.2.2.2.2.2.2.2.2.2.2.1
theorem Lay12.A33 {E : EnT} {S : ST} {o : Nat} (h : Lay12 E S o) : isA E S (o + 17) 1 4 := h.2.2.2.2.2.2.2.2.2.2.2.2.2.2.2.2.2.2.2.2.2.2.2.2.2.2.2.2.2.2.2.2.2.2.1
theorem Lay12.R35 {E : EnT} {S : ST} {o : Nat} (h : Lay12 E S o) : S.2.2 o 35 = some (o + 18) := h.2.2.2.2.2.2.2.2.2.2.2.2.2.2.2.2.2.2.2.2.2.2.2.2.2.2.2.2.2.2.2.2.2.2.2.1
theorem Lay12.A35 {E : EnT} {S : ST} {o : Nat} (h : Lay12 E S o) : isA E S (o + 18) 1 13 := h.2.2.2.2.2.2.2.2.2.2.2.2.2.2.2.2.2.2.2.2.2.2.2.2.2.2.2.2.2.2.2.2.2.2.2.2.1
theorem Lay12.R36 {E : EnT} {S : ST} {o : Nat} (h : Lay12 E S o) : S.2.2 o 36 = some (o + 19) := h.2.2.2.2.2.2.2.2.2.2.2.2.2.2.2.2.2.2.2.2.2.2.2.2.2.2.2.2.2.2.2.2.2.2.2.2.2.1
theorem Lay12.A36 {E : EnT} {S : ST} {o : Nat} (h : Lay12 E S o) : isA E S (o + 19) 1 13 := h.2.2.2.2.2.2.2.2.2.2.2.2.2.2.2.2.2.2.2.2.2.2.2.2.2.2.2.2.2.2.2.2.2.2.2.2.2.2.1
theorem Lay12.R37 {E : EnT} {S : ST} {o : Nat} (h : Lay12 E S o) : S.2.2 o 37 = some (o + 20) := h.2.2.2.2.2.2.2.2.2.2.2.2.2.2.2.2.2.2.2.2.2.2.2.2.2.2.2.2.2.2.2.2.2.2.2.2.2.2.2.1
theorem Lay12.A37 {E : EnT} {S : ST} {o : Nat} (h : Lay12 E S o) : isA E S (o + 20) 1 400 := h.2.2.2.2.2.2.2.2.2.2.2.2.2.2.2.2.2.2.2.2.2.2.2.2.2.2.2.2.2.2.2.2.2.2.2.2.2.2.2.2.1
theorem Lay12.R41 {E : EnT} {S : ST} {o : Nat} (h : Lay12 E S o) : S.2.2 o 41 = some (o + 21) := h.2.2.2.2.2.2.2.2.2.2.2.2.2.2.2.2.2.2.2.2.2.2.2.2.2.2.2.2.2.2.2.2.2.2.2.2.2.2.2.2.2.1
theorem Lay12.A41 {E : EnT} {S : ST} {o : Nat} (h : Lay12 E S o) : isA E S (o + 21) 0 6 := h.2.2.2.2.2.2.2.2.2.2.2.2.2.2.2.2.2.2.2.2.2.2.2.2.2.2.2.2.2.2.2.2.2.2.2.2.2.2.2.2.2.2.1
theorem Lay12.R42 {E : EnT} {S : ST} {o : Nat} (h : Lay12 E S o) : S.2.2 o 42 = some (o + 22) := h.2.2.2.2.2.2.2.2.2.2.2.2.2.2.2.2.2.2.2.2.2.2.2.2.2.2.2.2.2.2.2.2.2.2.2.2.2.2.2.2.2.2.2.1
theorem Lay12.A42 {E : EnT} {S : ST} {o : Nat} (h : Lay12 E S o) : isA E S (o + 22) 0 36 := h.2.2.2.2.2.2.2.2.2.2.2.2.2.2.2.2.2.2.2.2.2.2.2.2.2.2.2.2.2.2.2.2.2.2.2.2.2.2.2.2.2.2.2.2.1
theorem Lay12.R43 {E : EnT} {S : ST} {o : Nat} (h : Lay12 E S o) : S.2.2 o 43 = some (o + 23) := h.2.2.2.2.2.2.2.2.2.2.2.2.2.2.2.2.2.2.2.2.2.2.2.2.2.2.2.2.2.2.2.2.2.2.2.2.2.2.2.2.2.2.2.2.2.1
theorem Lay12.A43 {E : EnT} {S : ST} {o : Nat} (h : Lay12 E S o) : isA E S (o + 23) 0 36 := h.2.2.2.2.2.2.2.2.2.2.2.2.2.2.2.2.2.2.2.2.2.2.2.2.2.2.2.2.2.2.2.2.2.2.2.2.2.2.2.2.2.2.2.2.2.2.1
theorem Lay12.R44 {E : EnT} {S : ST} {o : Nat} (h : Lay12 E S o) : S.2.2 o 44 = some (o + 24) := h.2.2.2.2.2.2.2.2.2.2.2.2.2.2.2.2.2.2.2.2.2.2.2.2.2.2.2.2.2.2.2.2.2.2.2.2.2.2.2.2.2.2.2.2.2.2.2.1
theorem Lay12.A44 {E : EnT} {S : ST} {o : Nat} (h : Lay12 E S o) : isA E S (o + 24) 0 6 := h.2.2.2.2.2.2.2.2.2.2.2.2.2.2.2.2.2.2.2.2.2.2.2.2.2.2.2.2.2.2.2.2.2.2.2.2.2.2.2.2.2.2.2.2.2.2.2.2.1
theorem Lay12.R45 {E : EnT} {S : ST} {o : Nat} (h : Lay12 E S o) : S.2.2 o 45 = some (o + 25) := h.2.2.2.2.2.2.2.2.2.2.2.2.2.2.2.2.2.2.2.2.2.2.2.2.2.2.2.2.2.2.2.2.2.2.2.2.2.2.2.2.2.2.2.2.2.2.2.2.2.1
theorem Lay12.A45 {E : EnT} {S : ST} {o : Nat} (h : Lay12 E S o) : isA E S (o + 25) 2 36 := h.2.2.2.2.2.2.2.2.2.2.2.2.2.2.2.2.2.2.2.2.2.2.2.2.2.2.2.2.2.2.2.2.2.2.2.2.2.2.2.2.2.2.2.2.2.2.2.2.2.2.1
theorem Lay12.R46 {E : EnT} {S : ST} {o : Nat} (h : Lay12 E S o) : S.2.2 o 46 = some (o + 26) := h.2.2.2.2.2.2.2.2.2.2.2.2.2.2.2.2.2.2.2.2.2.2.2.2.2.2.2.2.2.2.2.2.2.2.2.2.2.2.2.2.2.2.2.2.2.2.2.2.2.2.2.1
theorem Lay12.A46 {E : EnT} {S : ST} {o : Nat} (h : Lay12 E S o) : isA E S (o + 26) 0 448 := h.2.2.2.2.2.2.2.2.2.2.2.2.2.2.2.2.2.2.2.2.2.2.2.2.2.2.2.2.2.2.2.2.2.2.2.2.2.2.2.2.2.2.2.2.2.2.2.2.2.2.2.2.1
theorem Lay12.R47 {E : EnT} {S : ST} {o : Nat} (h : Lay12 E S o) : S.2.2 o 47 = some (o + 27) := h.2.2.2.2.2.2.2.2.2.2.2.2.2.2.2.2.2.2.2.2.2.2.2.2.2.2.2.2.2.2.2.2.2.2.2.2.2.2.2.2.2.2.2.2.2.2.2.2.2.2.2.2.2.1
theorem Lay12.A47 {E : EnT} {S : ST} {o : Nat} (h : Lay12 E S o) : isA E S (o + 27) 0 2048 := h.2.2.2.2.2.2.2.2.2.2.2.2.2.2.2.2.2.2.2.2.2.2.2.2.2.2.2.2.2.2.2.2.2.2.2.2.2.2.2.2.2.2.2.2.2.2.2.2.2.2.2.2.2.2.1
theorem Lay12.R48 {E : EnT} {S : ST} {o : Nat} (h : Lay12 E S o) : S.2.2 o 48 = some (o + 28) := h.2.2.2.2.2.2.2.2.2.2.2.2.2.2.2.2.2.2.2.2.2.2.2.2.2.2.2.2.2.2.2.2.2.2.2.2.2.2.2.2.2.2.2.2.2.2.2.2.2.2.2.2.2.2.2.1
theorem Lay12.A48 {E : EnT} {S : ST} {o : Nat} (h : Lay12 E S o) : isA E S (o + 28) 0 8 := h.2.2.2.2.2.2.2.2.2.2.2.2.2.2.2.2.2.2.2.2.2.2.2.2.2.2.2.2.2.2.2.2.2.2.2.2.2.2.2.2.2.2.2.2.2.2.2.2.2.2.2.2.2.2.2.2.1
theorem Lay12.R49 {E : EnT} {S : ST} {o : Nat} (h : Lay12 E S o) : S.2.2 o 49 = some (o + 29) := h.2.2.2.2.2.2.2.2.2.2.2.2.2.2.2.2.2.2.2.2.2.2.2.2.2.2.2.2.2.2.2.2.2.2.2.2.2.2.2.2.2.2.2.2.2.2.2.2.2.2.2.2.2.2.2.2.2.1
theorem Lay12.A49 {E : EnT} {S : ST} {o : Nat} (h : Lay12 E S o) : isA E S (o + 29) 0 3 := h.2.2.2.2.2.2.2.2.2.2.2.2.2.2.2.2.2.2.2.2.2.2.2.2.2.2.2.2.2.2.2.2.2.2.2.2.2.2.2.2.2.2.2.2.2.2.2.2.2.2.2.2.2.2.2.2.2.2.1
theorem Lay12.R50 {E : EnT} {S : ST} {o : Nat} (h : Lay12 E S o) : S.2.2 o 50 = some (o + 30) := h.2.2.2.2.2.2.2.2.2.2.2.2.2.2.2.2.2.2.2.2.2.2.2.2.2.2.2.2.2.2.2.2.2.2.2.2.2.2.2.2.2.2.2.2.2.2.2.2.2.2.2.2.2.2.2.2.2.2.2.1
theorem Lay12.A50 {E : EnT} {S : ST} {o : Nat} (h : Lay12 E S o) : isA E S (o + 30) 0 6 := h.2.2.2.2.2.2.2.2.2.2.2.2.2.2.2.2.2.2.2.2.2.2.2.2.2.2.2.2.2.2.2.2.2.2.2.2.2.2.2.2.2.2.2.2.2.2.2.2.2.2.2.2.2.2.2.2.2.2.2.2.1
theorem Lay12.R51 {E : EnT} {S : ST} {o : Nat} (h : Lay12 E S o) : S.2.2 o 51 = some (o + 31) := h.2.2.2.2.2.2.2.2.2.2.2.2.2.2.2.2.2.2.2.2.2.2.2.2.2.2.2.2.2.2.2.2.2.2.2.2.2.2.2.2.2.2.2.2.2.2.2.2.2.2.2.2.2.2.2.2.2.2.2.2.2.1
theorem Lay12.A51 {E : EnT} {S : ST} {o : Nat} (h : Lay12 E S o) : isA E S (o + 31) 1 21 := h.2.2.2.2.2.2.2.2.2.2.2.2.2.2.2.2.2.2.2.2.2.2.2.2.2.2.2.2.2.2.2.2.2.2.2.2.2.2.2.2.2.2.2.2.2.2.2.2.2.2.2.2.2.2.2.2.2.2.2.2.2.2.1
theorem Lay12.R52 {E : EnT} {S : ST} {o : Nat} (h : Lay12 E S o) : S.2.2 o 52 = some (o + 32) := h.2.2.2.2.2.2.2.2.2.2.2.2.2.2.2.2.2.2.2.2.2.2.2.2.2.2.2.2.2.2.2.2.2.2.2.2.2.2.2.2.2.2.2.2.2.2.2.2.2.2.2.2.2.2.2.2.2.2.2.2.2.2.2.1
theorem Lay12.A52 {E : EnT} {S : ST} {o : Nat} (h : Lay12 E S o) : isA E S (o + 32) 1 4 := h.2.2.2.2.2.2.2.2.2.2.2.2.2.2.2.2.2.2.2.2.2.2.2.2.2.2.2.2.2.2.2.2.2.2.2.2.2.2.2.2.2.2.2.2.2.2.2.2.2.2.2.2.2.2.2.2.2.2.2.2.2.2.2.2.1
theorem Lay12.R53 {E : EnT} {S : ST} {o : Nat} (h : Lay12 E S o) : S.2.2 o 53 = some (o + 33) := h.2.2.2.2.2.2.2.2.2.2.2.2.2.2.2.2.2.2.2.2.2.2.2.2.2.2.2.2.2.2.2.2.2.2.2.2.2.2.2.2.2.2.2.2.2.2.2.2.2.2.2.2.2.2.2.2.2.2.2.2.2.2.2.2.2.1
theorem Lay12.A53 {E : EnT} {S : ST} {o : Nat} (h : Lay12 E S o) : isA E S (o + 33) 1 3 := h.2.2.2.2.2.2.2.2.2.2.2.2.2.2.2.2.2.2.2.2.2.2.2.2.2.2.2.2.2.2.2.2.2.2.2.2.2.2.2.2.2.2.2.2.2.2.2.2.2.2.2.2.2.2.2.2.2.2.2.2.2.2.2.2.2.2.1
theorem Lay12.R54 {E : EnT} {S : ST} {o : Nat} (h : Lay12 E S o) : S.2.2 o 54 = some (o + 34) := h.2.2.2.2.2.2.2.2.2.2.2.2.2.2.2.2.2.2.2.2.2.2.2.2.2.2.2.2.2.2.2.2.2.2.2.2.2.2.2.2.2.2.2.2.2.2.2.2.2.2.2.2.2.2.2.2.2.2.2.2.2.2.2.2.2.2.2.1
theorem Lay12.A54 {E : EnT} {S : ST} {o : Nat} (h : Lay12 E S o) : isA E S (o + 34) 0 120 := h.2.2.2.2.2.2.2.2.2.2.2.2.2.2.2.2.2.2.2.2.2.2.2.2.2.2.2.2.2.2.2.2.2.2.2.2.2.2.2.2.2.2.2.2.2.2.2.2.2.2.2.2.2.2.2.2.2.2.2.2.2.2.2.2.2.2.2.2.1
theorem Lay12.R60 {E : EnT} {S : ST} {o : Nat} (h : Lay12 E S o) : S.2.2 o 60 = some (o + 35) := h.2.2.2.2.2.2.2.2.2.2.2.2.2.2.2.2.2.2.2.2.2.2.2.2.2.2.2.2.2.2.2.2.2.2.2.2.2.2.2.2.2.2.2.2.2.2.2.2.2.2.2.2.2.2.2.2.2.2.2.2.2.2.2.2.2.2.2.2.2.1
theorem Lay12.A60 {E : EnT} {S : ST} {o : Nat} (h : Lay12 E S o) : isA E S (o + 35) 0 18 := h.2.2.2.2.2.2.2.2.2.2.2.2.2.2.2.2.2.2.2.2.2.2.2.2.2.2.2.2.2.2.2.2.2.2.2.2.2.2.2.2.2.2.2.2.2.2.2.2.2.2.2.2.2.2.2.2.2.2.2.2.2.2.2.2.2.2.2.2.2.2
