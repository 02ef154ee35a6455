/-! THE STATE AS NUMBERS: q i as the reference's row has it (0 boxes, 1 suitors, 2 heard, 3 laws, 4 the law in force and one, 5 .. 7 terms, 8 pins, 56 broken, 62 springs, 68 wed to, and one, 74 left, 80 ears, 86 wants, 92 heard by threes) -/
def sm (f : Nat → Nat) : Nat → Nat | 0 => 0 | n + 1 => sm f n + f n
theorem sm_cong {f g : Nat → Nat} : ∀ {n : Nat}, (∀ k, k < n → f k = g k) → sm f n = sm g n
  | 0, _ => rfl
  | n + 1, h => by
    rw [sm, sm, sm_cong (fun k hk => h k (by omega)), h n (by omega)]
theorem sm_le {f : Nat → Nat} {c : Nat} : ∀ {n : Nat}, (∀ k, k < n → f k ≤ c) → sm f n ≤ n * c
  | 0, _ => by simp [sm]
  | n + 1, h => by
    have h1 := sm_le (f := f) (c := c) (n := n) (fun k hk => h k (by omega))
    have h2 := h n (by omega)
    rw [sm, Nat.succ_mul]
    omega
def wq (q : Nat → Nat) : Prop := (q 0 ≤ 6) ∧ (q 1 ≤ 6) ∧ (q 2 ≤ 8) ∧ (q 3 ≤ 6) ∧ (q 4 ≤ q 3) ∧ (q 5 ≤ 999) ∧ (q 6 ≤ 10) ∧ (q 7 ≤ 9) ∧ (∀ b j, b < 6 → j < 8 → q (8 + 8 * b + j) < 256) ∧ (∀ b, b < 6 → q (56 + b) < 256) ∧ (∀ b, b < 6 → q (62 + b) ≤ 20) ∧ (∀ b, b < 6 → q (68 + b) ≤ q 1) ∧ (∀ b, b < 6 → q (74 + b) ≤ 60) ∧ (∀ s, s < 6 → q (80 + s) < 8) ∧ (∀ s, s < 6 → q (86 + s) ≤ 60) ∧ (∀ k, k < 8 → q (92 + 3 * k) < 8 ∧ q (92 + 3 * k + 1) < 8 ∧ q (92 + 3 * k + 2) ≤ 1) ∧ (∀ b, b < 6 → (q (68 + b) = 0 ↔ q (74 + b) = 0)) ∧ (∀ b c, b < 6 → c < 6 → b ≠ c → q (68 + b) ≠ 0 → q (68 + b) ≠ q (68 + c)) ∧ (∀ b, q 0 ≤ b → b < 6 → (∀ j, j < 8 → q (8 + 8 * b + j) = 0) ∧ q (56 + b) = 0 ∧ q (62 + b) = 0 ∧ q (68 + b) = 0 ∧ q (74 + b) = 0)
theorem wq.nb {q : Nat → Nat} (h : wq q) : q 0 ≤ 6 := h.1
theorem wq.ns {q : Nat → Nat} (h : wq q) : q 1 ≤ 6 := h.2.1
theorem wq.nh {q : Nat → Nat} (h : wq q) : q 2 ≤ 8 := h.2.2.1
theorem wq.nl {q : Nat → Nat} (h : wq q) : q 3 ≤ 6 := h.2.2.2.1
theorem wq.fo {q : Nat → Nat} (h : wq q) : q 4 ≤ q 3 := h.2.2.2.2.1
theorem wq.ye {q : Nat → Nat} (h : wq q) : q 5 ≤ 999 := h.2.2.2.2.2.1
theorem wq.da {q : Nat → Nat} (h : wq q) : q 6 ≤ 10 := h.2.2.2.2.2.2.1
theorem wq.mo {q : Nat → Nat} (h : wq q) : q 7 ≤ 9 := h.2.2.2.2.2.2.2.1
theorem wq.pi {q : Nat → Nat} (h : wq q) (b j : Nat) (hb : b < 6) (hj : j < 8) : q (8 + 8 * b + j) < 256 := h.2.2.2.2.2.2.2.2.1 b j hb hj
theorem wq.br {q : Nat → Nat} (h : wq q) (b : Nat) (hb : b < 6) : q (56 + b) < 256 := h.2.2.2.2.2.2.2.2.2.1 b hb
theorem wq.sp {q : Nat → Nat} (h : wq q) (b : Nat) (hb : b < 6) : q (62 + b) ≤ 20 := h.2.2.2.2.2.2.2.2.2.2.1 b hb
theorem wq.we {q : Nat → Nat} (h : wq q) (b : Nat) (hb : b < 6) : q (68 + b) ≤ q 1 := h.2.2.2.2.2.2.2.2.2.2.2.1 b hb
theorem wq.le {q : Nat → Nat} (h : wq q) (b : Nat) (hb : b < 6) : q (74 + b) ≤ 60 := h.2.2.2.2.2.2.2.2.2.2.2.2.1 b hb
theorem wq.ea {q : Nat → Nat} (h : wq q) (s : Nat) (hs : s < 6) : q (80 + s) < 8 := h.2.2.2.2.2.2.2.2.2.2.2.2.2.1 s hs
theorem wq.wa {q : Nat → Nat} (h : wq q) (s : Nat) (hs : s < 6) : q (86 + s) ≤ 60 := h.2.2.2.2.2.2.2.2.2.2.2.2.2.2.1 s hs
theorem wq.he {q : Nat → Nat} (h : wq q) (k : Nat) (hk : k < 8) : q (92 + 3 * k) < 8 ∧ q (92 + 3 * k + 1) < 8 ∧ q (92 + 3 * k + 2) ≤ 1 := h.2.2.2.2.2.2.2.2.2.2.2.2.2.2.2.1 k hk
theorem wq.wl {q : Nat → Nat} (h : wq q) (b : Nat) (hb : b < 6) : q (68 + b) = 0 ↔ q (74 + b) = 0 := h.2.2.2.2.2.2.2.2.2.2.2.2.2.2.2.2.1 b hb
theorem wq.ww {q : Nat → Nat} (h : wq q) (b c : Nat) (hb : b < 6) (hc : c < 6) (hbc : b ≠ c) (h0 : q (68 + b) ≠ 0) : q (68 + b) ≠ q (68 + c) := h.2.2.2.2.2.2.2.2.2.2.2.2.2.2.2.2.2.1 b c hb hc hbc h0
theorem wq.un {q : Nat → Nat} (h : wq q) (b : Nat) (hb : q 0 ≤ b) (h6 : b < 6) : (∀ j, j < 8 → q (8 + 8 * b + j) = 0) ∧ q (56 + b) = 0 ∧ q (62 + b) = 0 ∧ q (68 + b) = 0 ∧ q (74 + b) = 0 := h.2.2.2.2.2.2.2.2.2.2.2.2.2.2.2.2.2.2 b hb h6
/-- less one: -1 for none -/
def pred1 (w : Nat) : Int32 := nI w - 1
theorem pred1_0 : pred1 0 = -1 := by decide
theorem pred1_s (s : Nat) : pred1 (s + 1) = nI s := nI_pred s
theorem pred1_none {w : Nat} (hw : w < 2 ^ 31) : pred1 w = -1 ↔ w = 0 := by
  cases w with
  | zero => simp [pred1_0]
  | succ s =>
    rw [pred1_s]
    constructor
    · intro h
      exact absurd (by rw [h]; decide : nI s < 0) (nI_pos (by omega))
    · intro h; omega
theorem pred1_some {w s : Nat} (hw : w < 2 ^ 31) (hs : s < 2 ^ 31) : pred1 w = nI s ↔ w = s + 1 := by
  cases w with
  | zero =>
    rw [pred1_0]
    constructor
    · intro h
      exact absurd (by rw [← h]; decide : nI s < 0) (nI_pos hs)
    · intro h; omega
  | succ t => rw [pred1_s, nI_eq (by omega) hs]; omega
def enc (q : Nat → Nat) (i : Nat) : Int32 := if i = 4 ∨ (68 ≤ i ∧ i < 74) then pred1 (q i) else nI (q i)
/-- the reference's row -/
def RowM (I : IT) (a : Nat) (q : Nat → Nat) : Prop := ∀ i, i < 116 → (68 ≤ i ∧ i < 74 → i < 68 + q 0) → I a i = enc q i
theorem RowM.n {I : IT} {a : Nat} {q : Nat → Nat} (h : RowM I a q) {i : Nat} (hi : i < 116 ∧ i ≠ 4 ∧ (i < 68 ∨ 74 ≤ i)) : I a i = nI (q i) := by
  rw [h i hi.1 (by omega), enc, if_neg (by omega)]
theorem RowM.w {I : IT} {a : Nat} {q : Nat → Nat} (h : RowM I a q) {b : Nat} (hb : b < q 0 ∧ q 0 ≤ 6) : I a (68 + b) = pred1 (q (68 + b)) := by
  rw [h (68 + b) (by omega) (by omega), enc, if_pos (by omega)]
theorem RowM.f {I : IT} {a : Nat} {q : Nat → Nat} (h : RowM I a q) : I a 4 = pred1 (q 4) := by
  rw [h 4 (by omega) (by omega), enc, if_pos (by omega)]
/-- the notes of a box at a bar, how many it has, at how many bars one of an ear -/
def nt (q : Nat → Nat) (b j : Nat) : Nat := andn (q (8 + 8 * b + j)) (q (56 + b))
def nts (q : Nat → Nat) (b : Nat) : Nat := sm (fun j => pop8 (nt q b j)) 8
def erq (q : Nat → Nat) (b s : Nat) : Nat := sm (fun j => nt q b j / 2 ^ q (80 + s) % 2) 8
def cpl (q : Nat → Nat) : Nat := sm (fun b => if q (68 + b) = 0 then 0 else 1) (q 0)
/-- whom a suitor is wed to, and one: the last box of the first n -/
def bof (q : Nat → Nat) (s : Nat) : Nat → Nat | 0 => 0 | n + 1 => if q (68 + n) = s + 1 then n + 1 else bof q s n
theorem nt_lt {q : Nat → Nat} (hq : wq q) {b j : Nat} (hb : b < 6) (hj : j < 8) : nt q b j < 256 := Nat.lt_of_le_of_lt (andn_le _ _) (hq.pi b j hb hj)
theorem pop8_le (n : Nat) : pop8 n ≤ 8 := by unfold pop8; omega
theorem nts_le (q : Nat → Nat) (b : Nat) : nts q b ≤ 64 := sm_le (c := 8) (fun k _ => pop8_le _)
theorem erq_le (q : Nat → Nat) (b s : Nat) : erq q b s ≤ 8 := sm_le (c := 1) (fun k _ => by omega)
theorem bof_le (q : Nat → Nat) (s : Nat) : ∀ n, bof q s n ≤ n
  | 0 => Nat.le_refl 0
  | n + 1 => by
    have := bof_le q s n
    unfold bof
    split <;> omega
theorem cpl_le (q : Nat → Nat) : cpl q ≤ q 0 := by
  have := sm_le (f := fun b => if q (68 + b) = 0 then 0 else 1) (c := 1) (n := q 0) (fun k _ => by split <;> omega)
  unfold cpl
  omega
theorem pop8_sm (a : Nat) : sm (fun t => a / 2 ^ t % 2) 8 = pop8 a := by
  simp [sm, pop8]
