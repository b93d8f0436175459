/-! ===== a State: what its methods do, on ===== -/
theorem okS.mono {τ : Nat → Nat → Nat} {T U : Nat} (h : okS τ T) (hT : T ≤ U) : okS τ U := by
  obtain ⟨h0, h1, h2, h6, h7, h8, h9, h10, h11, h12, h14, h15⟩ := h
  exact ⟨h0, fun j hj => Nat.le_trans (h1 j hj) (by omega), h2, h6, h7, h8, h9, h10, h11, Nat.le_trans h12 hT, Nat.le_trans h14 hT, Nat.le_trans h15 hT⟩
theorem okS.p0 {τ : Nat → Nat → Nat} {T : Nat} (h : okS τ T) {g : Nat → Nat} (hg : ∀ k, k < 96 → g k < 4096) : okS (pu τ 0 g) T := ⟨hg, h.2⟩
theorem okS.p1 {τ : Nat → Nat → Nat} {T : Nat} (h : okS τ T) {g : Nat → Nat} (hg : ∀ j, j < 12 → g j ≤ T + 90) : okS (pu τ 1 g) T := by
  obtain ⟨h0, h1, h2, h6, h7, h8, h9, h10, h11, h12, h14, h15⟩ := h
  exact ⟨h0, hg, h2, h6, h7, h8, h9, h10, h11, h12, h14, h15⟩
theorem okS.p2 {τ : Nat → Nat → Nat} {T : Nat} (h : okS τ T) {g : Nat → Nat} (hg : ∀ j, j < 12 → g j ≤ 9) : okS (pu τ 2 g) T := by
  obtain ⟨h0, h1, h2, h6, h7, h8, h9, h10, h11, h12, h14, h15⟩ := h
  exact ⟨h0, h1, hg, h6, h7, h8, h9, h10, h11, h12, h14, h15⟩
theorem okS.p3 {τ : Nat → Nat → Nat} {T : Nat} (h : okS τ T) (g : Nat → Nat) : okS (pu τ 3 g) T := h
theorem okS.p4 {τ : Nat → Nat → Nat} {T : Nat} (h : okS τ T) (g : Nat → Nat) : okS (pu τ 4 g) T := h
theorem okS.p5 {τ : Nat → Nat → Nat} {T : Nat} (h : okS τ T) (g : Nat → Nat) : okS (pu τ 5 g) T := h
theorem okS.p7 {τ : Nat → Nat → Nat} {T : Nat} (h : okS τ T) {v : Nat} (hv : v < 4096) : okS (pu τ 7 (kc v)) T := by
  obtain ⟨h0, h1, h2, h6, h7, h8, h9, h10, h11, h12, h14, h15⟩ := h
  exact ⟨h0, h1, h2, h6, hv, h8, h9, h10, h11, h12, h14, h15⟩
theorem okS.p8 {τ : Nat → Nat → Nat} {T : Nat} (h : okS τ T) {v : Nat} (hv : v < 32) : okS (pu τ 8 (kc v)) T := by
  obtain ⟨h0, h1, h2, h6, h7, h8, h9, h10, h11, h12, h14, h15⟩ := h
  exact ⟨h0, h1, h2, h6, h7, hv, h9, h10, h11, h12, h14, h15⟩
theorem okS.p9 {τ : Nat → Nat → Nat} {T : Nat} (h : okS τ T) {v : Nat} (hv : v < 3) : okS (pu τ 9 (kc v)) T := by
  obtain ⟨h0, h1, h2, h6, h7, h8, h9, h10, h11, h12, h14, h15⟩ := h
  exact ⟨h0, h1, h2, h6, h7, h8, hv, h10, h11, h12, h14, h15⟩
theorem okS.p10 {τ : Nat → Nat → Nat} {T : Nat} (h : okS τ T) {v : Nat} (hv : v ≤ 400) : okS (pu τ 10 (kc v)) T := by
  obtain ⟨h0, h1, h2, h6, h7, h8, h9, h10, h11, h12, h14, h15⟩ := h
  exact ⟨h0, h1, h2, h6, h7, h8, h9, hv, h11, h12, h14, h15⟩
theorem okS.p11 {τ : Nat → Nat → Nat} {T : Nat} (h : okS τ T) {v : Nat} (hv : v ≤ 9) : okS (pu τ 11 (kc v)) T := by
  obtain ⟨h0, h1, h2, h6, h7, h8, h9, h10, h11, h12, h14, h15⟩ := h
  exact ⟨h0, h1, h2, h6, h7, h8, h9, h10, hv, h12, h14, h15⟩
theorem okS.p12 {τ : Nat → Nat → Nat} {T : Nat} (h : okS τ T) {v : Nat} (hv : v ≤ T) : okS (pu τ 12 (kc v)) T := by
  obtain ⟨h0, h1, h2, h6, h7, h8, h9, h10, h11, h12, h14, h15⟩ := h
  exact ⟨h0, h1, h2, h6, h7, h8, h9, h10, h11, hv, h14, h15⟩
theorem okS.p13 {τ : Nat → Nat → Nat} {T : Nat} (h : okS τ T) (g : Nat → Nat) : okS (pu τ 13 g) T := h
theorem okS.p14 {τ : Nat → Nat → Nat} {T : Nat} (h : okS τ T) {v : Nat} (hv : v ≤ T) : okS (pu τ 14 (kc v)) T := by
  obtain ⟨h0, h1, h2, h6, h7, h8, h9, h10, h11, h12, h14, h15⟩ := h
  exact ⟨h0, h1, h2, h6, h7, h8, h9, h10, h11, h12, hv, h15⟩
theorem okS.p15 {τ : Nat → Nat → Nat} {T : Nat} (h : okS τ T) {v : Nat} (hv : v ≤ T) : okS (pu τ 15 (kc v)) T := by
  obtain ⟨h0, h1, h2, h6, h7, h8, h9, h10, h11, h12, h14, h15⟩ := h
  exact ⟨h0, h1, h2, h6, h7, h8, h9, h10, h11, h12, h14, hv⟩
theorem okS.p16 {τ : Nat → Nat → Nat} {T : Nat} (h : okS τ T) (g : Nat → Nat) : okS (pu τ 16 g) T := h
theorem bit_lt {x j : Nat} (hx : x < 4096) (hj : j < 12) : x ||| 2 ^ j < 4096 :=
  Nat.or_lt_two_pow (n := 12) hx (Nat.pow_lt_pow_right (by decide) hj)
theorem fu_lt {g : Nat → Nat} {i v : Nat} (hg : ∀ k, k < 96 → g k < 4096) (hv : v < 4096) : ∀ k, k < 96 → fu g i v k < 4096 := by
  intro k hk
  unfold fu
  split
  · exact hv
  · exact hg k hk
/-- a range of pins is set, k steps from x on -/
def prC (τ : Nat → Nat → Nat) (t j x : Nat) : Nat → Nat × (Nat → Nat)
  | 0 => (0, τ 0)
  | k + 1 => if hiS' (pu τ 0 (prC τ t j x k).2) t j (x + k) = 0 then ((prC τ t j x k).1 + 1, fu (prC τ t j x k).2 (t * 32 + (x + k)) ((prC τ t j x k).2 (t * 32 + (x + k)) ||| 2 ^ j)) else prC τ t j x k
theorem prC_t {τ : Nat → Nat → Nat} {t j x k n : Nat} {g : Nat → Nat} (h : prC τ t j x k = (n, g)) (hh : hiS' (pu τ 0 g) t j (x + k) = 0) : prC τ t j x (k + 1) = (n + 1, fu g (t * 32 + (x + k)) (g (t * 32 + (x + k)) ||| 2 ^ j)) := by
  rw [prC, h]
  exact if_pos hh
theorem prC_f {τ : Nat → Nat → Nat} {t j x k n : Nat} {g : Nat → Nat} (h : prC τ t j x k = (n, g)) (hh : ¬ hiS' (pu τ 0 g) t j (x + k) = 0) : prC τ t j x (k + 1) = (n, g) := by
  rw [prC, h]
  exact if_neg hh
theorem prC_ok {τ : Nat → Nat → Nat} {t j x : Nat} (h : ∀ k, k < 96 → τ 0 k < 4096) (hj : j < 12) (ht : t < 3) : ∀ k, x + k ≤ 32 → (prC τ t j x k).1 ≤ k ∧ ∀ i, i < 96 → (prC τ t j x k).2 i < 4096
  | 0, _ => ⟨Nat.le_refl 0, h⟩
  | k + 1, hk => by
    have ih := prC_ok (x := x) h hj ht k (by omega)
    by_cases c : hiS' (pu τ 0 (prC τ t j x k).2) t j (x + k) = 0
    · rw [prC_t rfl c]
      exact ⟨Nat.succ_le_succ ih.1, fu_lt ih.2 (bit_lt (ih.2 _ (by omega)) hj)⟩
    · rw [prC_f rfl c]
      exact ⟨Nat.le_succ_of_le ih.1, ih.2⟩
/-- a range of pins is taken -/
def tkC (τ : Nat → Nat → Nat) (t j x : Nat) : Nat → Nat × (Nat → Nat)
  | 0 => (0, τ 0)
  | k + 1 => if hb (pu τ 0 (tkC τ t j x k).2) t j (x + k) then ((tkC τ t j x k).1 + 1, fu (tkC τ t j x k).2 (t * 32 + (x + k)) ((tkC τ t j x k).2 (t * 32 + (x + k)) &&& (2 ^ j ^^^ 4294967295))) else tkC τ t j x k
theorem tkC_t {τ : Nat → Nat → Nat} {t j x k n : Nat} {g : Nat → Nat} (h : tkC τ t j x k = (n, g)) (hh : hb (pu τ 0 g) t j (x + k) = true) : tkC τ t j x (k + 1) = (n + 1, fu g (t * 32 + (x + k)) (g (t * 32 + (x + k)) &&& (2 ^ j ^^^ 4294967295))) := by
  rw [tkC, h]
  exact if_pos hh
theorem tkC_f {τ : Nat → Nat → Nat} {t j x k n : Nat} {g : Nat → Nat} (h : tkC τ t j x k = (n, g)) (hh : hb (pu τ 0 g) t j (x + k) = false) : tkC τ t j x (k + 1) = (n, g) := by
  rw [tkC, h]
  exact if_neg (by rw [hh]; decide)
theorem tkC_ok {τ : Nat → Nat → Nat} {t j x : Nat} (h : ∀ k, k < 96 → τ 0 k < 4096) (hj : j < 12) (ht : t < 3) : ∀ k, x + k ≤ 32 → (tkC τ t j x k).1 ≤ k ∧ ∀ i, i < 96 → (tkC τ t j x k).2 i < 4096
  | 0, _ => ⟨Nat.le_refl 0, h⟩
  | k + 1, hk => by
    have ih := tkC_ok (x := x) h hj ht k (by omega)
    cases c : hb (pu τ 0 (tkC τ t j x k).2) t j (x + k)
    · rw [tkC_f rfl c]
      exact ⟨Nat.le_succ_of_le ih.1, ih.2⟩
    · rw [tkC_t rfl c]
      exact ⟨Nat.succ_le_succ ih.1, fu_lt ih.2 (Nat.lt_of_le_of_lt Nat.and_le_left (ih.2 _ (by omega)))⟩
/-- a tune is replaced by another, turned by w steps and moved by mv -/
def rpC (τ : Nat → Nat → Nat) (u v w : Nat) (mv : Nat → Nat) : Nat → Nat → Nat
  | 0 => τ 0
  | k + 1 => fu (rpC τ u v w mv k) (v * 32 + (k + w) % 32) (mv (rpC τ u v w mv k (u * 32 + k)) &&& 4095)
theorem rpC_ok {τ : Nat → Nat → Nat} {u v w : Nat} {mv : Nat → Nat} (h : ∀ k, k < 96 → τ 0 k < 4096) : ∀ k, ∀ i, i < 96 → rpC τ u v w mv k i < 4096
  | 0 => h
  | k + 1 => fu_lt (rpC_ok h k) (Nat.lt_of_le_of_lt Nat.and_le_right (by decide))
theorem sh_lt {x h : Nat} (hx : x < 4096) (hh : h ≤ 11) : x * 2 ^ h < 2 ^ 32 := by
  have h1 : 2 ^ h ≤ 2 ^ 11 := Nat.pow_le_pow_right (by decide) hh
  have h2 : x * 2 ^ h ≤ 4095 * 2 ^ 11 := Nat.mul_le_mul (by omega) h1
  omega
theorem ng_12 : ∀ q, q < 12 → nI q - nI 12 < 0 ∧ -(nI q - nI 12) = nI (12 - q) := by decide +kernel
/-- the next pin of a tooth -/
def nfS (τ : Nat → Nat → Nat) (t j p i : Nat) : Nat → Nat
  | 0 => 4294967295
  | n + 1 => if hb τ t j ((p + i) % 32) then (p + i) % 32 else nfS τ t j p (i + 1) n
theorem nfS_t {τ : Nat → Nat → Nat} {t j p k N : Nat} (hk : k < N) (h : hb τ t j ((p + k) % 32) = true) : nfS τ t j p k (N - k) = (p + k) % 32 := by
  rw [show N - k = (N - (k + 1)) + 1 by omega, nfS, if_pos h]
theorem nfS_f {τ : Nat → Nat → Nat} {t j p k N : Nat} (hk : k < N) (h : hb τ t j ((p + k) % 32) = false) : nfS τ t j p k (N - k) = nfS τ t j p (k + 1) (N - (k + 1)) := by
  rw [show N - k = (N - (k + 1)) + 1 by omega, nfS, if_neg (by rw [h]; decide)]
theorem nfS_0 {τ : Nat → Nat → Nat} {t j p k N : Nat} (hk : N ≤ k) : nfS τ t j p k (N - k) = 4294967295 := by
  rw [show N - k = 0 by omega, nfS]
/-- the tune at a step that comes -/
def tcS (τ : Nat → Nat → Nat) (t p : Nat) : Nat := if p = 0 ∧ ¬ τ 6 2 = 0 then (t + 1) % 3 else t
theorem tcS_lt {τ : Nat → Nat → Nat} {t p : Nat} (ht : t < 3) : tcS τ t p < 3 := by
  unfold tcS
  split <;> omega
def wfS (τ : Nat → Nat → Nat) (t p : Nat) : Nat := 1 + ones (τ 0 (t * 32 + p) &&& (τ 7 0 ^^^ 4294967295))
theorem wfS_le (τ : Nat → Nat → Nat) (t p : Nat) : wfS τ t p ≤ 33 := by
  have := ones_le (τ 0 (t * 32 + p) &&& (τ 7 0 ^^^ 4294967295))
  unfold wfS
  omega
/-- the spring that k steps need; the step and the tune behind them -/
def woS (τ : Nat → Nat → Nat) : Nat → Nat × Nat × Nat
  | 0 => (0, τ 8 0, τ 9 0)
  | k + 1 => ((woS τ k).1 + wfS τ (tcS τ (woS τ k).2.2 (((woS τ k).2.1 + 1) % 32)) (((woS τ k).2.1 + 1) % 32), ((woS τ k).2.1 + 1) % 32, tcS τ (woS τ k).2.2 (((woS τ k).2.1 + 1) % 32))
theorem woS_s {τ : Nat → Nat → Nat} {k n p t : Nat} (h : woS τ k = (n, p, t)) : woS τ (k + 1) = (n + wfS τ (tcS τ t ((p + 1) % 32)) ((p + 1) % 32), (p + 1) % 32, tcS τ t ((p + 1) % 32)) := by
  rw [woS, h]
/-- the damper squeaks -/
def sqS (τ : Nat → Nat → Nat) (j : Nat) : Nat → Nat → Nat :=
  if τ 2 j < 9 then pu (pu τ 15 (kc (τ 15 0 + 1))) 2 (fu (τ 2) j (τ 2 j + 1))
  else pu (pu (pu τ 15 (kc (τ 15 0 + 1))) 7 (kc (τ 7 0 ||| 2 ^ j))) 1 (fu (τ 1) j (τ 12 0))
theorem sqS_ok {τ : Nat → Nat → Nat} {T j : Nat} (h : okS τ T) (hj : j < 12) : okS (sqS τ j) (T + 1) := by
  have h12 : τ 12 0 ≤ T := h.2.2.2.2.2.2.2.2.2.1
  have h15 : τ 15 0 ≤ T := h.2.2.2.2.2.2.2.2.2.2.2
  have h7 : τ 7 0 < 4096 := h.2.2.2.2.1
  have h' := h.mono (Nat.le_succ T)
  unfold sqS
  split
  · rename_i c
    refine (h'.p15 (by omega)).p2 (fun i hi => ?_)
    have := h.2.2.1 i hi
    show fu (τ 2) j (τ 2 j + 1) i ≤ 9
    unfold fu
    split <;> omega
  · refine ((h'.p15 (by omega)).p7 (bit_lt h7 hj)).p1 (fun i hi => ?_)
    have := h.2.1 i hi
    show fu (τ 1) j (τ 12 0) i ≤ T + 1 + 90
    unfold fu
    split <;> omega
/-- the tooth sounds -/
def plS (τ : Nat → Nat → Nat) (j : Nat) : Nat → Nat → Nat :=
  pu (pu (pu (pu (pu τ 1 (fu (τ 1) j (τ 12 0 + max 4 (τ 6 0 - 2 * j)))) 3 (fu (τ 3) j (τ 3 j + 1))) 4 (fu (τ 4) (τ 14 0 % 24) j)) 5 (fu (τ 5) (τ 14 0 % 24) (τ 12 0))) 14 (kc (τ 14 0 + 1))
theorem plS_ok {τ : Nat → Nat → Nat} {T j : Nat} (h : okS τ T) : okS (plS τ j) (T + 1) := by
  have h12 : τ 12 0 ≤ T := h.2.2.2.2.2.2.2.2.2.1
  have h14 : τ 14 0 ≤ T := h.2.2.2.2.2.2.2.2.2.2.1
  have h6 : τ 6 0 ≤ 90 := h.2.2.2.1.1
  have h' := h.mono (Nat.le_succ T)
  unfold plS
  refine ((((h'.p1 (fun i hi => ?_)).p3 _).p4 _).p5 _).p14 (by omega)
  have := h.2.1 i hi
  show fu (τ 1) j (τ 12 0 + max 4 (τ 6 0 - 2 * j)) i ≤ T + 1 + 90
  unfold fu
  split <;> omega
/-- a pin comes to a tooth -/
def stS (τ : Nat → Nat → Nat) (j w : Nat) : Nat → Nat → Nat := if 0 < τ 1 j - τ 12 0 ∧ ¬ τ 6 1 + τ 2 j < w then sqS τ j else τ
def srS (τ : Nat → Nat → Nat) (j w : Nat) : Nat → Nat → Nat := if (stS τ j w 7 0).testBit j then stS τ j w else plS (stS τ j w) j
theorem stS_ok {τ : Nat → Nat → Nat} {T j w : Nat} (h : okS τ T) (hj : j < 12) : okS (stS τ j w) (T + 1) := by
  unfold stS
  split
  · exact sqS_ok h hj
  · exact h.mono (Nat.le_succ T)
theorem srS_ok {τ : Nat → Nat → Nat} {T j w : Nat} (h : okS τ T) (hj : j < 12) : okS (srS τ j w) (T + 2) := by
  unfold srS
  split
  · exact (stS_ok h hj).mono (Nat.le_succ _)
  · exact plS_ok (stS_ok h hj)
def skS (τ : Nat → Nat → Nat) (x w : Nat) : Nat → Nat → Nat → Nat
  | 0 => τ
  | k + 1 => if x.testBit k then srS (skS τ x w k) k w else skS τ x w k
theorem skS_t {τ : Nat → Nat → Nat} {x w k : Nat} (h : x.testBit k = true) : skS τ x w (k + 1) = srS (skS τ x w k) k w := by
  rw [skS, if_pos h]
theorem skS_f {τ : Nat → Nat → Nat} {x w k : Nat} (h : x.testBit k = false) : skS τ x w (k + 1) = skS τ x w k := by
  rw [skS, if_neg (by rw [h]; decide)]
theorem skS_ok {τ : Nat → Nat → Nat} {T x w : Nat} (h : okS τ T) : ∀ k, k ≤ 12 → okS (skS τ x w k) (T + 2 * k)
  | 0, _ => h
  | k + 1, hk => by
    have ih := skS_ok (x := x) (w := w) h k (by omega)
    cases c : x.testBit k
    · rw [skS_f c]; exact ih.mono (by omega)
    · rw [skS_t c]; exact srS_ok ih (by omega)
/-- a step on -/
def pnS (τ : Nat → Nat → Nat) : Nat := (τ 8 0 + 1) % 32
def tnS (τ : Nat → Nat → Nat) : Nat := tcS τ (τ 9 0) (pnS τ)
def stk (τ : Nat → Nat → Nat) : Nat := τ 0 (tnS τ * 32 + pnS τ) &&& (τ 7 0 ^^^ 4294967295)
def ndS (τ : Nat → Nat → Nat) : Nat := wfS τ (tnS τ) (pnS τ)
def tiS (τ : Nat → Nat → Nat) : Nat := max 2 (12 - (τ 10 0 - ndS τ) / 50 + τ 11 0)
def goA (τ : Nat → Nat → Nat) : Nat → Nat → Nat :=
  pu (pu (pu (pu (pu (pu τ 8 (kc (pnS τ))) 9 (kc (tnS τ))) 10 (kc (τ 10 0 - ndS τ))) 16 (kc (τ 16 0 + ndS τ))) 12 (kc (τ 12 0 + tiS τ))) 13 (kc (τ 13 0 + 1))
def goS (τ : Nat → Nat → Nat) : Nat → Nat → Nat := skS (goA τ) (stk τ) (tiS τ) 12
def canS (τ : Nat → Nat → Nat) : Bool := decide (ndS τ ≤ τ 10 0)
theorem tiS_le {τ : Nat → Nat → Nat} {T : Nat} (h : okS τ T) : tiS τ ≤ 21 := by
  have h11 : τ 11 0 ≤ 9 := h.2.2.2.2.2.2.2.2.1
  unfold tiS
  omega
theorem goA_ok {τ : Nat → Nat → Nat} {T : Nat} (h : okS τ T) : okS (goA τ) (T + 21) := by
  have h8 := tiS_le h
  have h12 : τ 12 0 ≤ T := h.2.2.2.2.2.2.2.2.2.1
  have h10 : τ 10 0 ≤ 400 := h.2.2.2.2.2.2.2.1
  have h9 : τ 9 0 < 3 := h.2.2.2.2.2.2.1
  have h' := h.mono (show T ≤ T + 21 by omega)
  unfold goA
  exact (((((h'.p8 (Nat.mod_lt _ (by decide))).p9 (tcS_lt h9)).p10 (by omega)).p16 _).p12 (by omega)).p13 _
theorem goS_ok {τ : Nat → Nat → Nat} {T : Nat} (h : okS τ T) : okS (goS τ) (T + 45) := (skS_ok (goA_ok h) 12 (Nat.le_refl _)).mono (by omega)
/-- n steps on: how many came, and what is then -/
def onS : Nat → (Nat → Nat → Nat) → Nat × (Nat → Nat → Nat)
  | 0, τ => (0, τ)
  | n + 1, τ => if canS τ then ((onS n (goS τ)).1 + 1, (onS n (goS τ)).2) else (0, τ)
theorem onS_0 (τ : Nat → Nat → Nat) : onS 0 τ = (0, τ) := rfl
theorem onS_t {n : Nat} {τ : Nat → Nat → Nat} (h : canS τ = true) : onS (n + 1) τ = ((onS n (goS τ)).1 + 1, (onS n (goS τ)).2) := by
  rw [onS, if_pos h]
theorem onS_f {n : Nat} {τ : Nat → Nat → Nat} (h : canS τ = false) : onS (n + 1) τ = (0, τ) := by
  rw [onS, if_neg (by rw [h]; decide)]
theorem onS_ok : ∀ (n : Nat) {τ : Nat → Nat → Nat} {T : Nat}, okS τ T → okS (onS n τ).2 (T + 45 * n)
  | 0, τ, T, h => h
  | n + 1, τ, T, h => by
    cases c : canS τ
    · rw [onS_f c]; exact h.mono (by omega)
    · rw [onS_t c]; exact (onS_ok n (goS_ok h)).mono (by omega)
/-- a tooth is mended -/
def mdS (τ : Nat → Nat → Nat) (j : Nat) : Nat → Nat → Nat := pu (pu (pu τ 2 (fu (τ 2) j 0)) 7 (kc (τ 7 0 &&& (2 ^ j ^^^ 4294967295)))) 1 (fu (τ 1) j (τ 12 0))
def poS (τ : Nat → Nat → Nat) (t : Nat) : Nat → Nat := sm (fun p => ones (τ 0 (t * 32 + p)))
def pbS (τ : Nat → Nat → Nat) (t j : Nat) : Nat → Nat := ct (fun p => hb τ t j p)
def flS (τ : Nat → Nat → Nat) (t : Nat) : Nat → Nat
  | 0 => 0
  | k + 1 => if ones (τ 0 (t * 32 + flS τ t k)) < ones (τ 0 (t * 32 + (1 + k))) then 1 + k else flS τ t k
theorem flS_t {τ : Nat → Nat → Nat} {t k : Nat} (h : ones (τ 0 (t * 32 + flS τ t k)) < ones (τ 0 (t * 32 + (1 + k)))) : flS τ t (k + 1) = 1 + k := by
  rw [flS, if_pos h]
theorem flS_f {τ : Nat → Nat → Nat} {t k : Nat} (h : ones (τ 0 (t * 32 + (1 + k))) ≤ ones (τ 0 (t * 32 + flS τ t k))) : flS τ t (k + 1) = flS τ t k := by
  rw [flS, if_neg (by omega)]
theorem flS_le (τ : Nat → Nat → Nat) (t : Nat) : ∀ k, flS τ t k ≤ k
  | 0 => Nat.le_refl 0
  | k + 1 => by
    have := flS_le τ t k
    rw [flS]
    split <;> omega
def tuS (τ : Nat → Nat → Nat) (t : Nat) : Nat → Nat
  | 0 => 0
  | k + 1 => tuS τ t k ||| τ 0 (t * 32 + k)
theorem tuS_lt {τ : Nat → Nat → Nat} {t : Nat} (h : ∀ k, k < 96 → τ 0 k < 4096) (ht : t < 3) : ∀ k, k ≤ 32 → tuS τ t k < 4096
  | 0, _ => Nat.zero_lt_succ _
  | k + 1, hk => Nat.or_lt_two_pow (n := 12) (tuS_lt h ht k (by omega)) (h _ (by omega))
/-- first and latest pin of a tooth, the widest gap so far -/
def wgS (τ : Nat → Nat → Nat) (t j : Nat) : Nat → Nat × Nat × Nat
  | 0 => (4294967295, 4294967295, 0)
  | k + 1 => if hb τ t j k then (if (wgS τ t j k).1 = 4294967295 then (k, k, (wgS τ t j k).2.2) else ((wgS τ t j k).1, k, max (wgS τ t j k).2.2 (k - (wgS τ t j k).2.1))) else wgS τ t j k
theorem wgS_0 (τ : Nat → Nat → Nat) (t j : Nat) : wgS τ t j 0 = (4294967295, 4294967295, 0) := rfl
theorem wgS_n {τ : Nat → Nat → Nat} {t j k f g w : Nat} (h : wgS τ t j k = (f, g, w)) (hh : hb τ t j k = false) : wgS τ t j (k + 1) = (f, g, w) := by
  rw [wgS, if_neg (by rw [hh]; decide), h]
theorem wgS_1 {τ : Nat → Nat → Nat} {t j k f g w : Nat} (h : wgS τ t j k = (f, g, w)) (hh : hb τ t j k = true) (hf : f = 4294967295) : wgS τ t j (k + 1) = (k, k, w) := by
  rw [wgS, if_pos hh, h]
  exact if_pos hf
theorem wgS_2 {τ : Nat → Nat → Nat} {t j k f g w : Nat} (h : wgS τ t j k = (f, g, w)) (hh : hb τ t j k = true) (hf : ¬ f = 4294967295) : wgS τ t j (k + 1) = (f, k, max w (k - g)) := by
  rw [wgS, if_pos hh, h]
  exact if_neg hf
def wgN (x : Nat × Nat × Nat) : Nat := if x.1 = 4294967295 then 0 else max x.2.2 (x.1 + 32 - x.2.1)
def rgS (τ : Nat → Nat → Nat) : Nat → Nat := ct (fun j => decide (0 < τ 1 j - τ 12 0))
/-- the numbers of a tune, of a tooth, of the whole -/
def numT (τ : Nat → Nat → Nat) (t w : Nat) : Nat :=
  if w = 0 then poS τ t 32 else if w = 1 then sm (fun j => pbS τ t j 32) 12 else if w = 2 then ones (τ 0 (t * 32 + flS τ t 31)) else if w = 3 then flS τ t 31 else tuS τ t 32
def numK (τ : Nat → Nat → Nat) (j w : Nat) : Nat :=
  if w = 0 then τ 1 j - τ 12 0 else if w = 1 then τ 2 j else if w = 2 then ((τ 7 0).testBit j).toNat else if w = 3 then τ 3 j else wgN (wgS τ (τ 9 0) j 32)
section KV
variable {p : Program} {l : Launch} {e : Env} {R : Room} {s : State} {m : MethodId} {args : Array Value} {below : List Frame} {meth : Method} {cd : Code} {H : Heap} {locs : List Loc} {cells slots : Nat} {Q : State → Prop} {pc : Nat} {ls : Array Slot} {rest : List Value} {cc : ByteArray} {nL : Nat} {Ts : List Cond} {own : String}
theorem k_w32 {x y : Nat} (hx : x < 2 ^ 32) (hy : y < 2 ^ 32) : nI x = nI y ↔ x = y := by
  constructor
  · intro h
    have h2 : (nI x).toBitVec.toNat = (nI y).toBitVec.toNat := by rw [h]
    rwa [pk_tn hx, pk_tn hy] at h2
  · intro h
    rw [h]
theorem kv_ne (S : CallFix p m cd cc nL s args Ts own) {x y : Nat} {off : Int} {tgt : Nat} (hdg : decode cc pc = .ok (.if_icmp .ne off, 3)) (ht : (pc : Int) + off = (tgt : Int)) (hx : x < 2 ^ 32) (hy : y < 2 ^ 32) (kt : ¬ x = y → W p l e R s m args below meth cd H locs cells slots Q (F0 m tgt ls rest)) (kf : x = y → W p l e R s m args below meth cd H locs cells slots Q (F0 m (pc + 3) ls rest)) : W p l e R s m args below meth cd H locs cells slots Q (F0 m pc ls (.int (nI y) :: .int (nI x) :: rest)) :=
  lv_icmp_ne S.1 S.2.1 hdg ht (fun h => kt (fun q => h ((k_w32 hx hy).mpr q))) (fun h => kf ((k_w32 hx hy).mp h))
end KV
