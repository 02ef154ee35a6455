/-! the ranges stay -/
theorem wq.pin {q : Nat → Nat} (h : wq q) {b j v : Nat} (hb : b < q 0) (hj : j < 8) (hv : v < 256) : wq (setq q (8 + 8 * b + j) v) := by
  have hnb := h.nb
  have hns := h.ns
  have hnl := h.nl
  have hnh := h.nh
  have hfo := h.fo
  have e : ∀ k, k ≠ 8 + 8 * b + j → setq q (8 + 8 * b + j) v k = q k := fun k hk => setq_n hk
  exact ⟨by rw [e 0 (by omega)]; exact h.nb,
    by rw [e 1 (by omega)]; exact h.ns,
    by rw [e 2 (by omega)]; exact h.nh,
    by rw [e 3 (by omega)]; exact h.nl,
    by rw [e 4 (by omega), e 3 (by omega)]; exact h.fo,
    by rw [e 5 (by omega)]; exact h.ye,
    by rw [e 6 (by omega)]; exact h.da,
    by rw [e 7 (by omega)]; exact h.mo,
    fun c t h1 h2 => by
      by_cases z : 8 + 8 * c + t = 8 + 8 * b + j
      · rw [z, setq_s]; exact hv
      · rw [e _ z]; exact h.pi c t h1 h2,
    fun c h1 => by rw [e _ (by omega)]; exact h.br c h1,
    fun c h1 => by rw [e _ (by omega)]; exact h.sp c h1,
    fun c h1 => by rw [e _ (by omega), e 1 (by omega)]; exact h.we c h1,
    fun c h1 => by rw [e _ (by omega)]; exact h.le c h1,
    fun c h1 => by rw [e _ (by omega)]; exact h.ea c h1,
    fun c h1 => by rw [e _ (by omega)]; exact h.wa c h1,
    fun c h1 => by rw [e _ (by omega), e (92 + 3 * c + 1) (by omega), e (92 + 3 * c + 2) (by omega)]; exact h.he c h1,
    fun c h1 => by rw [e _ (by omega), e (74 + c) (by omega)]; exact h.wl c h1,
    fun c d h1 h2 h3 h4 => by rw [e _ (by omega)] at h4; rw [e _ (by omega), e (68 + d) (by omega)]; exact h.ww c d h1 h2 h3 h4,
    fun c h1 h2 => by rw [e 0 (by omega)] at h1; have hu := h.un c h1 h2; rw [e (56 + c) (by omega), e (62 + c) (by omega), e (68 + c) (by omega), e (74 + c) (by omega)]; exact ⟨fun t ht => by rw [e _ (by omega)]; exact hu.1 t ht, hu.2⟩⟩
theorem wq.bro {q : Nat → Nat} (h : wq q) {b v : Nat} (hb : b < q 0) (hv : v < 256) : wq (setq q (56 + b) v) := by
  have hnb := h.nb
  have hns := h.ns
  have hnl := h.nl
  have hnh := h.nh
  have hfo := h.fo
  have e : ∀ k, k ≠ 56 + b → setq q (56 + b) v k = q k := fun k hk => setq_n hk
  exact ⟨by rw [e 0 (by omega)]; exact h.nb,
    by rw [e 1 (by omega)]; exact h.ns,
    by rw [e 2 (by omega)]; exact h.nh,
    by rw [e 3 (by omega)]; exact h.nl,
    by rw [e 4 (by omega), e 3 (by omega)]; exact h.fo,
    by rw [e 5 (by omega)]; exact h.ye,
    by rw [e 6 (by omega)]; exact h.da,
    by rw [e 7 (by omega)]; exact h.mo,
    fun c t h1 h2 => by rw [e _ (by omega)]; exact h.pi c t h1 h2,
    fun c h1 => by
      by_cases z : 56 + c = 56 + b
      · rw [z, setq_s]; exact hv
      · rw [e _ z]; exact h.br c h1,
    fun c h1 => by rw [e _ (by omega)]; exact h.sp c h1,
    fun c h1 => by rw [e _ (by omega), e 1 (by omega)]; exact h.we c h1,
    fun c h1 => by rw [e _ (by omega)]; exact h.le c h1,
    fun c h1 => by rw [e _ (by omega)]; exact h.ea c h1,
    fun c h1 => by rw [e _ (by omega)]; exact h.wa c h1,
    fun c h1 => by rw [e _ (by omega), e (92 + 3 * c + 1) (by omega), e (92 + 3 * c + 2) (by omega)]; exact h.he c h1,
    fun c h1 => by rw [e _ (by omega), e (74 + c) (by omega)]; exact h.wl c h1,
    fun c d h1 h2 h3 h4 => by rw [e _ (by omega)] at h4; rw [e _ (by omega), e (68 + d) (by omega)]; exact h.ww c d h1 h2 h3 h4,
    fun c h1 h2 => by rw [e 0 (by omega)] at h1; have hu := h.un c h1 h2; rw [e (56 + c) (by omega), e (62 + c) (by omega), e (68 + c) (by omega), e (74 + c) (by omega)]; exact ⟨fun t ht => by rw [e _ (by omega)]; exact hu.1 t ht, hu.2⟩⟩
theorem wq.spr {q : Nat → Nat} (h : wq q) {b v : Nat} (hb : b < q 0) (hv : v ≤ 20) : wq (setq q (62 + b) v) := by
  have hnb := h.nb
  have hns := h.ns
  have hnl := h.nl
  have hnh := h.nh
  have hfo := h.fo
  have e : ∀ k, k ≠ 62 + b → setq q (62 + b) v k = q k := fun k hk => setq_n hk
  exact ⟨by rw [e 0 (by omega)]; exact h.nb,
    by rw [e 1 (by omega)]; exact h.ns,
    by rw [e 2 (by omega)]; exact h.nh,
    by rw [e 3 (by omega)]; exact h.nl,
    by rw [e 4 (by omega), e 3 (by omega)]; exact h.fo,
    by rw [e 5 (by omega)]; exact h.ye,
    by rw [e 6 (by omega)]; exact h.da,
    by rw [e 7 (by omega)]; exact h.mo,
    fun c t h1 h2 => by rw [e _ (by omega)]; exact h.pi c t h1 h2,
    fun c h1 => by rw [e _ (by omega)]; exact h.br c h1,
    fun c h1 => by
      by_cases z : 62 + c = 62 + b
      · rw [z, setq_s]; exact hv
      · rw [e _ z]; exact h.sp c h1,
    fun c h1 => by rw [e _ (by omega), e 1 (by omega)]; exact h.we c h1,
    fun c h1 => by rw [e _ (by omega)]; exact h.le c h1,
    fun c h1 => by rw [e _ (by omega)]; exact h.ea c h1,
    fun c h1 => by rw [e _ (by omega)]; exact h.wa c h1,
    fun c h1 => by rw [e _ (by omega), e (92 + 3 * c + 1) (by omega), e (92 + 3 * c + 2) (by omega)]; exact h.he c h1,
    fun c h1 => by rw [e _ (by omega), e (74 + c) (by omega)]; exact h.wl c h1,
    fun c d h1 h2 h3 h4 => by rw [e _ (by omega)] at h4; rw [e _ (by omega), e (68 + d) (by omega)]; exact h.ww c d h1 h2 h3 h4,
    fun c h1 h2 => by rw [e 0 (by omega)] at h1; have hu := h.un c h1 h2; rw [e (56 + c) (by omega), e (62 + c) (by omega), e (68 + c) (by omega), e (74 + c) (by omega)]; exact ⟨fun t ht => by rw [e _ (by omega)]; exact hu.1 t ht, hu.2⟩⟩
theorem wq.ter {q : Nat → Nat} (h : wq q) {k v : Nat} (hk : k < 3) (hv : v < tmx k) : wq (setq q (5 + k) v) := by
  have hnb := h.nb
  have hns := h.ns
  have hnl := h.nl
  have hnh := h.nh
  have hfo := h.fo
  have e : ∀ i, i ≠ 5 + k → setq q (5 + k) v i = q i := fun i hi => setq_n hi
  exact ⟨by rw [e 0 (by omega)]; exact h.nb,
    by rw [e 1 (by omega)]; exact h.ns,
    by rw [e 2 (by omega)]; exact h.nh,
    by rw [e 3 (by omega)]; exact h.nl,
    by rw [e 4 (by omega), e 3 (by omega)]; exact h.fo,
    by
      by_cases z : 5 = 5 + k
      · have hk0 : k = 0 := by omega
        subst hk0; rw [setq_s]; unfold tmx at hv; simp at hv; omega
      · rw [e _ z]; exact h.ye,
    by
      by_cases z : 6 = 5 + k
      · have hk0 : k = 1 := by omega
        subst hk0; rw [setq_s]; unfold tmx at hv; simp at hv; omega
      · rw [e _ z]; exact h.da,
    by
      by_cases z : 7 = 5 + k
      · have hk0 : k = 2 := by omega
        subst hk0; rw [setq_s]; unfold tmx at hv; simp at hv; omega
      · rw [e _ z]; exact h.mo,
    fun c t h1 h2 => by rw [e _ (by omega)]; exact h.pi c t h1 h2,
    fun c h1 => by rw [e _ (by omega)]; exact h.br c h1,
    fun c h1 => by rw [e _ (by omega)]; exact h.sp c h1,
    fun c h1 => by rw [e _ (by omega), e 1 (by omega)]; exact h.we c h1,
    fun c h1 => by rw [e _ (by omega)]; exact h.le c h1,
    fun c h1 => by rw [e _ (by omega)]; exact h.ea c h1,
    fun c h1 => by rw [e _ (by omega)]; exact h.wa c h1,
    fun c h1 => by rw [e _ (by omega), e (92 + 3 * c + 1) (by omega), e (92 + 3 * c + 2) (by omega)]; exact h.he c h1,
    fun c h1 => by rw [e _ (by omega), e (74 + c) (by omega)]; exact h.wl c h1,
    fun c d h1 h2 h3 h4 => by rw [e _ (by omega)] at h4; rw [e _ (by omega), e (68 + d) (by omega)]; exact h.ww c d h1 h2 h3 h4,
    fun c h1 h2 => by rw [e 0 (by omega)] at h1; have hu := h.un c h1 h2; rw [e (56 + c) (by omega), e (62 + c) (by omega), e (68 + c) (by omega), e (74 + c) (by omega)]; exact ⟨fun t ht => by rw [e _ (by omega)]; exact hu.1 t ht, hu.2⟩⟩
theorem wq.forc {q : Nat → Nat} (h : wq q) {v : Nat} (hv : v ≤ q 3) : wq (setq q 4 v) := by
  have hnb := h.nb
  have hns := h.ns
  have hnl := h.nl
  have hnh := h.nh
  have hfo := h.fo
  have e : ∀ i, i ≠ 4 → setq q 4 v i = q i := fun i hi => setq_n hi
  exact ⟨by rw [e 0 (by omega)]; exact h.nb,
    by rw [e 1 (by omega)]; exact h.ns,
    by rw [e 2 (by omega)]; exact h.nh,
    by rw [e 3 (by omega)]; exact h.nl,
    by rw [setq_s, e 3 (by omega)]; exact hv,
    by rw [e 5 (by omega)]; exact h.ye,
    by rw [e 6 (by omega)]; exact h.da,
    by rw [e 7 (by omega)]; exact h.mo,
    fun c t h1 h2 => by rw [e _ (by omega)]; exact h.pi c t h1 h2,
    fun c h1 => by rw [e _ (by omega)]; exact h.br c h1,
    fun c h1 => by rw [e _ (by omega)]; exact h.sp c h1,
    fun c h1 => by rw [e _ (by omega), e 1 (by omega)]; exact h.we c h1,
    fun c h1 => by rw [e _ (by omega)]; exact h.le c h1,
    fun c h1 => by rw [e _ (by omega)]; exact h.ea c h1,
    fun c h1 => by rw [e _ (by omega)]; exact h.wa c h1,
    fun c h1 => by rw [e _ (by omega), e (92 + 3 * c + 1) (by omega), e (92 + 3 * c + 2) (by omega)]; exact h.he c h1,
    fun c h1 => by rw [e _ (by omega), e (74 + c) (by omega)]; exact h.wl c h1,
    fun c d h1 h2 h3 h4 => by rw [e _ (by omega)] at h4; rw [e _ (by omega), e (68 + d) (by omega)]; exact h.ww c d h1 h2 h3 h4,
    fun c h1 h2 => by rw [e 0 (by omega)] at h1; have hu := h.un c h1 h2; rw [e (56 + c) (by omega), e (62 + c) (by omega), e (68 + c) (by omega), e (74 + c) (by omega)]; exact ⟨fun t ht => by rw [e _ (by omega)]; exact hu.1 t ht, hu.2⟩⟩
theorem wq.heard {q : Nat → Nat} (h : wq q) {v : Nat} (hv : v ≤ 8) : wq (setq q 2 v) := by
  have hnb := h.nb
  have hns := h.ns
  have hnl := h.nl
  have hnh := h.nh
  have hfo := h.fo
  have e : ∀ i, i ≠ 2 → setq q 2 v i = q i := fun i hi => setq_n hi
  exact ⟨by rw [e 0 (by omega)]; exact h.nb,
    by rw [e 1 (by omega)]; exact h.ns,
    by rw [setq_s]; exact hv,
    by rw [e 3 (by omega)]; exact h.nl,
    by rw [e 4 (by omega), e 3 (by omega)]; exact h.fo,
    by rw [e 5 (by omega)]; exact h.ye,
    by rw [e 6 (by omega)]; exact h.da,
    by rw [e 7 (by omega)]; exact h.mo,
    fun c t h1 h2 => by rw [e _ (by omega)]; exact h.pi c t h1 h2,
    fun c h1 => by rw [e _ (by omega)]; exact h.br c h1,
    fun c h1 => by rw [e _ (by omega)]; exact h.sp c h1,
    fun c h1 => by rw [e _ (by omega), e 1 (by omega)]; exact h.we c h1,
    fun c h1 => by rw [e _ (by omega)]; exact h.le c h1,
    fun c h1 => by rw [e _ (by omega)]; exact h.ea c h1,
    fun c h1 => by rw [e _ (by omega)]; exact h.wa c h1,
    fun c h1 => by rw [e _ (by omega), e (92 + 3 * c + 1) (by omega), e (92 + 3 * c + 2) (by omega)]; exact h.he c h1,
    fun c h1 => by rw [e _ (by omega), e (74 + c) (by omega)]; exact h.wl c h1,
    fun c d h1 h2 h3 h4 => by rw [e _ (by omega)] at h4; rw [e _ (by omega), e (68 + d) (by omega)]; exact h.ww c d h1 h2 h3 h4,
    fun c h1 h2 => by rw [e 0 (by omega)] at h1; have hu := h.un c h1 h2; rw [e (56 + c) (by omega), e (62 + c) (by omega), e (68 + c) (by omega), e (74 + c) (by omega)]; exact ⟨fun t ht => by rw [e _ (by omega)]; exact hu.1 t ht, hu.2⟩⟩
theorem wq.nlaw {q : Nat → Nat} (h : wq q) {v : Nat} (hv : v ≤ 6) (hl : q 4 ≤ v) : wq (setq q 3 v) := by
  have hnb := h.nb
  have hns := h.ns
  have hnl := h.nl
  have hnh := h.nh
  have hfo := h.fo
  have e : ∀ i, i ≠ 3 → setq q 3 v i = q i := fun i hi => setq_n hi
  exact ⟨by rw [e 0 (by omega)]; exact h.nb,
    by rw [e 1 (by omega)]; exact h.ns,
    by rw [e 2 (by omega)]; exact h.nh,
    by rw [setq_s]; exact hv,
    by rw [setq_s, e 4 (by omega)]; exact hl,
    by rw [e 5 (by omega)]; exact h.ye,
    by rw [e 6 (by omega)]; exact h.da,
    by rw [e 7 (by omega)]; exact h.mo,
    fun c t h1 h2 => by rw [e _ (by omega)]; exact h.pi c t h1 h2,
    fun c h1 => by rw [e _ (by omega)]; exact h.br c h1,
    fun c h1 => by rw [e _ (by omega)]; exact h.sp c h1,
    fun c h1 => by rw [e _ (by omega), e 1 (by omega)]; exact h.we c h1,
    fun c h1 => by rw [e _ (by omega)]; exact h.le c h1,
    fun c h1 => by rw [e _ (by omega)]; exact h.ea c h1,
    fun c h1 => by rw [e _ (by omega)]; exact h.wa c h1,
    fun c h1 => by rw [e _ (by omega), e (92 + 3 * c + 1) (by omega), e (92 + 3 * c + 2) (by omega)]; exact h.he c h1,
    fun c h1 => by rw [e _ (by omega), e (74 + c) (by omega)]; exact h.wl c h1,
    fun c d h1 h2 h3 h4 => by rw [e _ (by omega)] at h4; rw [e _ (by omega), e (68 + d) (by omega)]; exact h.ww c d h1 h2 h3 h4,
    fun c h1 h2 => by rw [e 0 (by omega)] at h1; have hu := h.un c h1 h2; rw [e (56 + c) (by omega), e (62 + c) (by omega), e (68 + c) (by omega), e (74 + c) (by omega)]; exact ⟨fun t ht => by rw [e _ (by omega)]; exact hu.1 t ht, hu.2⟩⟩
theorem wq.he0 {q : Nat → Nat} (h : wq q) {n v : Nat} (hn : n < 8) (hv : v < 8) : wq (setq q (92 + 3 * n) v) := by
  have hnb := h.nb
  have hns := h.ns
  have hnl := h.nl
  have hnh := h.nh
  have hfo := h.fo
  have e : ∀ i, i ≠ 92 + 3 * n → setq q (92 + 3 * n) v i = q i := fun i hi => setq_n hi
  exact ⟨by rw [e 0 (by omega)]; exact h.nb,
    by rw [e 1 (by omega)]; exact h.ns,
    by rw [e 2 (by omega)]; exact h.nh,
    by rw [e 3 (by omega)]; exact h.nl,
    by rw [e 4 (by omega), e 3 (by omega)]; exact h.fo,
    by rw [e 5 (by omega)]; exact h.ye,
    by rw [e 6 (by omega)]; exact h.da,
    by rw [e 7 (by omega)]; exact h.mo,
    fun c t h1 h2 => by rw [e _ (by omega)]; exact h.pi c t h1 h2,
    fun c h1 => by rw [e _ (by omega)]; exact h.br c h1,
    fun c h1 => by rw [e _ (by omega)]; exact h.sp c h1,
    fun c h1 => by rw [e _ (by omega), e 1 (by omega)]; exact h.we c h1,
    fun c h1 => by rw [e _ (by omega)]; exact h.le c h1,
    fun c h1 => by rw [e _ (by omega)]; exact h.ea c h1,
    fun c h1 => by rw [e _ (by omega)]; exact h.wa c h1,
    fun c h1 => ⟨(by
      by_cases z : 92 + 3 * c = 92 + 3 * n
      · rw [z, setq_s]; exact hv
      · rw [e _ z]; exact (h.he c h1).1), (by rw [e _ (by omega)]; exact (h.he c h1).2.1), (by rw [e _ (by omega)]; exact (h.he c h1).2.2)⟩,
    fun c h1 => by rw [e _ (by omega), e (74 + c) (by omega)]; exact h.wl c h1,
    fun c d h1 h2 h3 h4 => by rw [e _ (by omega)] at h4; rw [e _ (by omega), e (68 + d) (by omega)]; exact h.ww c d h1 h2 h3 h4,
    fun c h1 h2 => by rw [e 0 (by omega)] at h1; have hu := h.un c h1 h2; rw [e (56 + c) (by omega), e (62 + c) (by omega), e (68 + c) (by omega), e (74 + c) (by omega)]; exact ⟨fun t ht => by rw [e _ (by omega)]; exact hu.1 t ht, hu.2⟩⟩
theorem wq.he1 {q : Nat → Nat} (h : wq q) {n v : Nat} (hn : n < 8) (hv : v < 8) : wq (setq q (92 + 3 * n + 1) v) := by
  have hnb := h.nb
  have hns := h.ns
  have hnl := h.nl
  have hnh := h.nh
  have hfo := h.fo
  have e : ∀ i, i ≠ 92 + 3 * n + 1 → setq q (92 + 3 * n + 1) v i = q i := fun i hi => setq_n hi
  exact ⟨by rw [e 0 (by omega)]; exact h.nb,
    by rw [e 1 (by omega)]; exact h.ns,
    by rw [e 2 (by omega)]; exact h.nh,
    by rw [e 3 (by omega)]; exact h.nl,
    by rw [e 4 (by omega), e 3 (by omega)]; exact h.fo,
    by rw [e 5 (by omega)]; exact h.ye,
    by rw [e 6 (by omega)]; exact h.da,
    by rw [e 7 (by omega)]; exact h.mo,
    fun c t h1 h2 => by rw [e _ (by omega)]; exact h.pi c t h1 h2,
    fun c h1 => by rw [e _ (by omega)]; exact h.br c h1,
    fun c h1 => by rw [e _ (by omega)]; exact h.sp c h1,
    fun c h1 => by rw [e _ (by omega), e 1 (by omega)]; exact h.we c h1,
    fun c h1 => by rw [e _ (by omega)]; exact h.le c h1,
    fun c h1 => by rw [e _ (by omega)]; exact h.ea c h1,
    fun c h1 => by rw [e _ (by omega)]; exact h.wa c h1,
    fun c h1 => ⟨(by rw [e _ (by omega)]; exact (h.he c h1).1), (by
      by_cases z : 92 + 3 * c + 1 = 92 + 3 * n + 1
      · rw [z, setq_s]; exact hv
      · rw [e _ z]; exact (h.he c h1).2.1), (by rw [e _ (by omega)]; exact (h.he c h1).2.2)⟩,
    fun c h1 => by rw [e _ (by omega), e (74 + c) (by omega)]; exact h.wl c h1,
    fun c d h1 h2 h3 h4 => by rw [e _ (by omega)] at h4; rw [e _ (by omega), e (68 + d) (by omega)]; exact h.ww c d h1 h2 h3 h4,
    fun c h1 h2 => by rw [e 0 (by omega)] at h1; have hu := h.un c h1 h2; rw [e (56 + c) (by omega), e (62 + c) (by omega), e (68 + c) (by omega), e (74 + c) (by omega)]; exact ⟨fun t ht => by rw [e _ (by omega)]; exact hu.1 t ht, hu.2⟩⟩
theorem wq.he2 {q : Nat → Nat} (h : wq q) {n v : Nat} (hn : n < 8) (hv : v ≤ 1) : wq (setq q (92 + 3 * n + 2) v) := by
  have hnb := h.nb
  have hns := h.ns
  have hnl := h.nl
  have hnh := h.nh
  have hfo := h.fo
  have e : ∀ i, i ≠ 92 + 3 * n + 2 → setq q (92 + 3 * n + 2) v i = q i := fun i hi => setq_n hi
  exact ⟨by rw [e 0 (by omega)]; exact h.nb,
    by rw [e 1 (by omega)]; exact h.ns,
    by rw [e 2 (by omega)]; exact h.nh,
    by rw [e 3 (by omega)]; exact h.nl,
    by rw [e 4 (by omega), e 3 (by omega)]; exact h.fo,
    by rw [e 5 (by omega)]; exact h.ye,
    by rw [e 6 (by omega)]; exact h.da,
    by rw [e 7 (by omega)]; exact h.mo,
    fun c t h1 h2 => by rw [e _ (by omega)]; exact h.pi c t h1 h2,
    fun c h1 => by rw [e _ (by omega)]; exact h.br c h1,
    fun c h1 => by rw [e _ (by omega)]; exact h.sp c h1,
    fun c h1 => by rw [e _ (by omega), e 1 (by omega)]; exact h.we c h1,
    fun c h1 => by rw [e _ (by omega)]; exact h.le c h1,
    fun c h1 => by rw [e _ (by omega)]; exact h.ea c h1,
    fun c h1 => by rw [e _ (by omega)]; exact h.wa c h1,
    fun c h1 => ⟨(by rw [e _ (by omega)]; exact (h.he c h1).1), (by rw [e _ (by omega)]; exact (h.he c h1).2.1), (by
      by_cases z : 92 + 3 * c + 2 = 92 + 3 * n + 2
      · rw [z, setq_s]; exact hv
      · rw [e _ z]; exact (h.he c h1).2.2)⟩,
    fun c h1 => by rw [e _ (by omega), e (74 + c) (by omega)]; exact h.wl c h1,
    fun c d h1 h2 h3 h4 => by rw [e _ (by omega)] at h4; rw [e _ (by omega), e (68 + d) (by omega)]; exact h.ww c d h1 h2 h3 h4,
    fun c h1 h2 => by rw [e 0 (by omega)] at h1; have hu := h.un c h1 h2; rw [e (56 + c) (by omega), e (62 + c) (by omega), e (68 + c) (by omega), e (74 + c) (by omega)]; exact ⟨fun t ht => by rw [e _ (by omega)]; exact hu.1 t ht, hu.2⟩⟩
theorem wq.ear1 {q : Nat → Nat} (h : wq q) {n v : Nat} (hn : n < 6) (hv : v < 8) : wq (setq q (80 + n) v) := by
  have hnb := h.nb
  have hns := h.ns
  have hnl := h.nl
  have hnh := h.nh
  have hfo := h.fo
  have e : ∀ i, i ≠ 80 + n → setq q (80 + n) v i = q i := fun i hi => setq_n hi
  exact ⟨by rw [e 0 (by omega)]; exact h.nb,
    by rw [e 1 (by omega)]; exact h.ns,
    by rw [e 2 (by omega)]; exact h.nh,
    by rw [e 3 (by omega)]; exact h.nl,
    by rw [e 4 (by omega), e 3 (by omega)]; exact h.fo,
    by rw [e 5 (by omega)]; exact h.ye,
    by rw [e 6 (by omega)]; exact h.da,
    by rw [e 7 (by omega)]; exact h.mo,
    fun c t h1 h2 => by rw [e _ (by omega)]; exact h.pi c t h1 h2,
    fun c h1 => by rw [e _ (by omega)]; exact h.br c h1,
    fun c h1 => by rw [e _ (by omega)]; exact h.sp c h1,
    fun c h1 => by rw [e _ (by omega), e 1 (by omega)]; exact h.we c h1,
    fun c h1 => by rw [e _ (by omega)]; exact h.le c h1,
    fun c h1 => by
      by_cases z : 80 + c = 80 + n
      · rw [z, setq_s]; exact hv
      · rw [e _ z]; exact h.ea c h1,
    fun c h1 => by rw [e _ (by omega)]; exact h.wa c h1,
    fun c h1 => by rw [e _ (by omega), e (92 + 3 * c + 1) (by omega), e (92 + 3 * c + 2) (by omega)]; exact h.he c h1,
    fun c h1 => by rw [e _ (by omega), e (74 + c) (by omega)]; exact h.wl c h1,
    fun c d h1 h2 h3 h4 => by rw [e _ (by omega)] at h4; rw [e _ (by omega), e (68 + d) (by omega)]; exact h.ww c d h1 h2 h3 h4,
    fun c h1 h2 => by rw [e 0 (by omega)] at h1; have hu := h.un c h1 h2; rw [e (56 + c) (by omega), e (62 + c) (by omega), e (68 + c) (by omega), e (74 + c) (by omega)]; exact ⟨fun t ht => by rw [e _ (by omega)]; exact hu.1 t ht, hu.2⟩⟩
theorem wq.want1 {q : Nat → Nat} (h : wq q) {n v : Nat} (hn : n < 6) (hv : v ≤ 60) : wq (setq q (86 + n) v) := by
  have hnb := h.nb
  have hns := h.ns
  have hnl := h.nl
  have hnh := h.nh
  have hfo := h.fo
  have e : ∀ i, i ≠ 86 + n → setq q (86 + n) v i = q i := fun i hi => setq_n hi
  exact ⟨by rw [e 0 (by omega)]; exact h.nb,
    by rw [e 1 (by omega)]; exact h.ns,
    by rw [e 2 (by omega)]; exact h.nh,
    by rw [e 3 (by omega)]; exact h.nl,
    by rw [e 4 (by omega), e 3 (by omega)]; exact h.fo,
    by rw [e 5 (by omega)]; exact h.ye,
    by rw [e 6 (by omega)]; exact h.da,
    by rw [e 7 (by omega)]; exact h.mo,
    fun c t h1 h2 => by rw [e _ (by omega)]; exact h.pi c t h1 h2,
    fun c h1 => by rw [e _ (by omega)]; exact h.br c h1,
    fun c h1 => by rw [e _ (by omega)]; exact h.sp c h1,
    fun c h1 => by rw [e _ (by omega), e 1 (by omega)]; exact h.we c h1,
    fun c h1 => by rw [e _ (by omega)]; exact h.le c h1,
    fun c h1 => by rw [e _ (by omega)]; exact h.ea c h1,
    fun c h1 => by
      by_cases z : 86 + c = 86 + n
      · rw [z, setq_s]; exact hv
      · rw [e _ z]; exact h.wa c h1,
    fun c h1 => by rw [e _ (by omega), e (92 + 3 * c + 1) (by omega), e (92 + 3 * c + 2) (by omega)]; exact h.he c h1,
    fun c h1 => by rw [e _ (by omega), e (74 + c) (by omega)]; exact h.wl c h1,
    fun c d h1 h2 h3 h4 => by rw [e _ (by omega)] at h4; rw [e _ (by omega), e (68 + d) (by omega)]; exact h.ww c d h1 h2 h3 h4,
    fun c h1 h2 => by rw [e 0 (by omega)] at h1; have hu := h.un c h1 h2; rw [e (56 + c) (by omega), e (62 + c) (by omega), e (68 + c) (by omega), e (74 + c) (by omega)]; exact ⟨fun t ht => by rw [e _ (by omega)]; exact hu.1 t ht, hu.2⟩⟩
theorem wq.nsu {q : Nat → Nat} (h : wq q) {v : Nat} (hv : q 1 ≤ v ∧ v ≤ 6) : wq (setq q 1 v) := by
  have hnb := h.nb
  have hns := h.ns
  have hnl := h.nl
  have hnh := h.nh
  have hfo := h.fo
  have e : ∀ i, i ≠ 1 → setq q 1 v i = q i := fun i hi => setq_n hi
  exact ⟨by rw [e 0 (by omega)]; exact h.nb,
    by rw [setq_s]; exact hv.2,
    by rw [e 2 (by omega)]; exact h.nh,
    by rw [e 3 (by omega)]; exact h.nl,
    by rw [e 4 (by omega), e 3 (by omega)]; exact h.fo,
    by rw [e 5 (by omega)]; exact h.ye,
    by rw [e 6 (by omega)]; exact h.da,
    by rw [e 7 (by omega)]; exact h.mo,
    fun c t h1 h2 => by rw [e _ (by omega)]; exact h.pi c t h1 h2,
    fun c h1 => by rw [e _ (by omega)]; exact h.br c h1,
    fun c h1 => by rw [e _ (by omega)]; exact h.sp c h1,
    fun c h1 => by rw [e _ (by omega), setq_s]; have := h.we c h1; omega,
    fun c h1 => by rw [e _ (by omega)]; exact h.le c h1,
    fun c h1 => by rw [e _ (by omega)]; exact h.ea c h1,
    fun c h1 => by rw [e _ (by omega)]; exact h.wa c h1,
    fun c h1 => by rw [e _ (by omega), e (92 + 3 * c + 1) (by omega), e (92 + 3 * c + 2) (by omega)]; exact h.he c h1,
    fun c h1 => by rw [e _ (by omega), e (74 + c) (by omega)]; exact h.wl c h1,
    fun c d h1 h2 h3 h4 => by rw [e _ (by omega)] at h4; rw [e _ (by omega), e (68 + d) (by omega)]; exact h.ww c d h1 h2 h3 h4,
    fun c h1 h2 => by rw [e 0 (by omega)] at h1; have hu := h.un c h1 h2; rw [e (56 + c) (by omega), e (62 + c) (by omega), e (68 + c) (by omega), e (74 + c) (by omega)]; exact ⟨fun t ht => by rw [e _ (by omega)]; exact hu.1 t ht, hu.2⟩⟩
theorem wq.addb {q : Nat → Nat} (h : wq q) {v : Nat} (hn : q 0 < 6) (hv : v ≤ 20) : wq (setq (setq q (62 + q 0) v) 0 (q 0 + 1)) := by
  have hnb := h.nb
  have hns := h.ns
  have hnl := h.nl
  have hnh := h.nh
  have hfo := h.fo
  have e : ∀ i, i ≠ 0 → i ≠ 62 + q 0 → setq (setq q (62 + q 0) v) 0 (q 0 + 1) i = q i := fun i h1 h2 => by rw [setq_n h1, setq_n h2]
  exact ⟨by rw [setq_s]; omega,
    by rw [e 1 (by omega) (by omega)]; exact h.ns,
    by rw [e 2 (by omega) (by omega)]; exact h.nh,
    by rw [e 3 (by omega) (by omega)]; exact h.nl,
    by rw [e 4 (by omega) (by omega), e 3 (by omega) (by omega)]; exact h.fo,
    by rw [e 5 (by omega) (by omega)]; exact h.ye,
    by rw [e 6 (by omega) (by omega)]; exact h.da,
    by rw [e 7 (by omega) (by omega)]; exact h.mo,
    fun c t h1 h2 => by rw [e _ (by omega) (by omega)]; exact h.pi c t h1 h2,
    fun c h1 => by rw [e _ (by omega) (by omega)]; exact h.br c h1,
    fun c h1 => by
      by_cases z : 62 + c = 62 + q 0
      · rw [setq_n (by omega), z, setq_s]; exact hv
      · rw [e _ (by omega) z]; exact h.sp c h1,
    fun c h1 => by rw [e _ (by omega) (by omega), e 1 (by omega) (by omega)]; exact h.we c h1,
    fun c h1 => by rw [e _ (by omega) (by omega)]; exact h.le c h1,
    fun c h1 => by rw [e _ (by omega) (by omega)]; exact h.ea c h1,
    fun c h1 => by rw [e _ (by omega) (by omega)]; exact h.wa c h1,
    fun c h1 => by rw [e _ (by omega) (by omega), e (92 + 3 * c + 1) (by omega) (by omega), e (92 + 3 * c + 2) (by omega) (by omega)]; exact h.he c h1,
    fun c h1 => by rw [e _ (by omega) (by omega), e (74 + c) (by omega) (by omega)]; exact h.wl c h1,
    fun c d h1 h2 h3 h4 => by rw [e _ (by omega) (by omega)] at h4; rw [e _ (by omega) (by omega), e (68 + d) (by omega) (by omega)]; exact h.ww c d h1 h2 h3 h4,
    fun c h1 h2 => by rw [setq_s] at h1; have hu := h.un c (by omega) h2; rw [e (56 + c) (by omega) (by omega), e (62 + c) (by omega) (by omega), e (68 + c) (by omega) (by omega), e (74 + c) (by omega) (by omega)]; exact ⟨fun t ht => by rw [e _ (by omega) (by omega)]; exact hu.1 t ht, hu.2⟩⟩
theorem wq.wedd {q : Nat → Nat} (h : wq q) {b s y : Nat} (hb : b < q 0) (hs : s < q 1) (h0 : ∀ c, c < 6 → q (68 + c) ≠ s + 1) (hy : 0 < y ∧ y ≤ 60) : wq (setq (setq q (68 + b) (s + 1)) (74 + b) y) := by
  have hnb := h.nb
  have hns := h.ns
  have hnl := h.nl
  have hnh := h.nh
  have hfo := h.fo
  have w1 : setq (setq q (68 + b) (s + 1)) (74 + b) y (68 + b) = s + 1 := by rw [setq_n (by omega), setq_s]
  have w2 : setq (setq q (68 + b) (s + 1)) (74 + b) y (74 + b) = y := setq_s _ _ _
  have e : ∀ i, i ≠ 68 + b → i ≠ 74 + b → setq (setq q (68 + b) (s + 1)) (74 + b) y i = q i := fun i h1 h2 => by rw [setq_n h2, setq_n h1]
  exact ⟨by rw [e 0 (by omega) (by omega)]; exact h.nb,
    by rw [e 1 (by omega) (by omega)]; exact h.ns,
    by rw [e 2 (by omega) (by omega)]; exact h.nh,
    by rw [e 3 (by omega) (by omega)]; exact h.nl,
    by rw [e 4 (by omega) (by omega), e 3 (by omega) (by omega)]; exact h.fo,
    by rw [e 5 (by omega) (by omega)]; exact h.ye,
    by rw [e 6 (by omega) (by omega)]; exact h.da,
    by rw [e 7 (by omega) (by omega)]; exact h.mo,
    fun c t h1 h2 => by rw [e _ (by omega) (by omega)]; exact h.pi c t h1 h2,
    fun c h1 => by rw [e _ (by omega) (by omega)]; exact h.br c h1,
    fun c h1 => by rw [e _ (by omega) (by omega)]; exact h.sp c h1,
    fun c h1 => by
      rw [e 1 (by omega) (by omega)]
      by_cases z : c = b
      · subst z; rw [w1]; omega
      · rw [e _ (by omega) (by omega)]; exact h.we c h1,
    fun c h1 => by
      by_cases z : c = b
      · subst z; rw [w2]; exact hy.2
      · rw [e _ (by omega) (by omega)]; exact h.le c h1,
    fun c h1 => by rw [e _ (by omega) (by omega)]; exact h.ea c h1,
    fun c h1 => by rw [e _ (by omega) (by omega)]; exact h.wa c h1,
    fun c h1 => by rw [e _ (by omega) (by omega), e (92 + 3 * c + 1) (by omega) (by omega), e (92 + 3 * c + 2) (by omega) (by omega)]; exact h.he c h1,
    fun c h1 => by
      by_cases z : c = b
      · subst z; rw [w1, w2]; omega
      · rw [e _ (by omega) (by omega), e (74 + c) (by omega) (by omega)]; exact h.wl c h1,
    fun c d h1 h2 h3 h4 => by
      by_cases z : c = b
      · subst z; rw [w1, e (68 + d) (by omega) (by omega)]; exact (h0 d h2).symm
      · rw [e (68 + c) (by omega) (by omega)] at h4 ⊢
        by_cases z2 : d = b
        · subst z2; rw [w1]; exact h0 c h1
        · rw [e (68 + d) (by omega) (by omega)]; exact h.ww c d h1 h2 h3 h4,
    fun c h1 h2 => by rw [e 0 (by omega) (by omega)] at h1; have hu := h.un c h1 h2; rw [e (56 + c) (by omega) (by omega), e (62 + c) (by omega) (by omega), e (68 + c) (by omega) (by omega), e (74 + c) (by omega) (by omega)]; exact ⟨fun t ht => by rw [e _ (by omega) (by omega)]; exact hu.1 t ht, hu.2⟩⟩
/-- a year later, by a law: what springs lose, what is left -/
def psq (law : LawT) (q : Nat → Nat) : Nat → Nat := fun i => if i = 5 then q 5 + 1 else if 62 ≤ i ∧ i < 68 then q i - lss law q (i - 62) else if 68 ≤ i ∧ i < 74 then (if q (i + 6) = 1 then 0 else q i) else if 74 ≤ i ∧ i < 80 then q i - 1 else q i
def pse (q : Nat → Nat) : Nat := sm (fun b => if q (74 + b) = 1 then 1 else 0) (q 0)
theorem psq_o {law : LawT} {q : Nat → Nat} {i : Nat} (h : i ≠ 5 ∧ (i < 62 ∨ 80 ≤ i)) : psq law q i = q i := by
  unfold psq
  rw [if_neg (by omega), if_neg (by omega), if_neg (by omega), if_neg (by omega)]
theorem psq_sp {law : LawT} {q : Nat → Nat} {b : Nat} (h : b < 6) : psq law q (62 + b) = q (62 + b) - lss law q b := by
  unfold psq
  rw [if_neg (by omega), if_pos (by omega), Nat.add_sub_cancel_left]
theorem psq_we {law : LawT} {q : Nat → Nat} {b : Nat} (h : b < 6) : psq law q (68 + b) = if q (74 + b) = 1 then 0 else q (68 + b) := by
  unfold psq
  rw [if_neg (by omega), if_neg (by omega), if_pos (by omega), show 68 + b + 6 = 74 + b by omega]
theorem psq_le {law : LawT} {q : Nat → Nat} {b : Nat} (h : b < 6) : psq law q (74 + b) = q (74 + b) - 1 := by
  unfold psq
  rw [if_neg (by omega), if_neg (by omega), if_neg (by omega), if_pos (by omega)]
theorem wq.year {q : Nat → Nat} (h : wq q) {law : LawT} (hy : q 5 < 999) : wq (psq law q) := by
  have hnb := h.nb
  have hns := h.ns
  have hnl := h.nl
  have hnh := h.nh
  have hfo := h.fo
  have e : ∀ i, i ≠ 5 ∧ (i < 62 ∨ 80 ≤ i) → psq law q i = q i := fun i h1 => psq_o h1
  exact ⟨by rw [e 0 (by omega)]; exact h.nb,
    by rw [e 1 (by omega)]; exact h.ns,
    by rw [e 2 (by omega)]; exact h.nh,
    by rw [e 3 (by omega)]; exact h.nl,
    by rw [e 4 (by omega), e 3 (by omega)]; exact h.fo,
    by show (if 5 = 5 then q 5 + 1 else _) ≤ 999; rw [if_pos rfl]; omega,
    by rw [e 6 (by omega)]; exact h.da,
    by rw [e 7 (by omega)]; exact h.mo,
    fun c t h1 h2 => by rw [e _ (by omega)]; exact h.pi c t h1 h2,
    fun c h1 => by rw [e _ (by omega)]; exact h.br c h1,
    fun c h1 => by rw [psq_sp h1]; have := h.sp c h1; omega,
    fun c h1 => by rw [psq_we h1, e 1 (by omega)]; have := h.we c h1; split <;> omega,
    fun c h1 => by rw [psq_le h1]; have := h.le c h1; omega,
    fun c h1 => by rw [e _ (by omega)]; exact h.ea c h1,
    fun c h1 => by rw [e _ (by omega)]; exact h.wa c h1,
    fun c h1 => by rw [e _ (by omega), e (92 + 3 * c + 1) (by omega), e (92 + 3 * c + 2) (by omega)]; exact h.he c h1,
    fun c h1 => by rw [psq_le h1, psq_we h1]; have := h.wl c h1; split <;> omega,
    fun c d h1 h2 h3 h4 => by
      rw [psq_we h1] at h4 ⊢; rw [psq_we h2]; have h5 := h.ww c d h1 h2 h3
      split at h4
      · omega
      · rename_i hz; rw [if_neg hz]; have h6 := h5 h4; split <;> omega,
    fun c h1 h2 => by rw [e 0 (by omega)] at h1; have hu := h.un c h1 h2; rw [e (56 + c) (by omega), psq_sp h2, psq_we h2, psq_le h2]; refine ⟨fun t ht => by rw [e _ (by omega)]; exact hu.1 t ht, hu.2.1, by have := hu.2.2.1; omega, by have := hu.2.2.2.1; split <;> omega, by have := hu.2.2.2.2; omega⟩⟩
theorem pse_le (q : Nat → Nat) : pse q ≤ q 0 := by
  have := sm_le (f := fun b => if q (74 + b) = 1 then 1 else 0) (c := 1) (n := q 0) (fun k _ => by split <;> omega)
  unfold pse
  omega
theorem bof_0 {q : Nat → Nat} (h : wq q) {s : Nat} (hs : bof q s (q 0) = 0) : ∀ c, c < 6 → q (68 + c) ≠ s + 1 := by
  have key : ∀ n, bof q s n = 0 → ∀ c, c < n → q (68 + c) ≠ s + 1 := by
    intro n
    induction n with
    | zero => intro _ c hc; omega
    | succ n ih =>
      intro hn c hc
      unfold bof at hn
      split at hn
      · omega
      · rename_i hz
        by_cases e : c = n
        · subst e; exact hz
        · exact ih hn c (by omega)
  intro c hc
  by_cases hb : c < q 0
  · exact key _ hs c hb
  · rw [(h.un c (by omega) hc).2.2.2.1]; omega
