theorem plk_1 {σ : Nat → Nat} {j T : Nat} (h1 : 0 < σ (36 + 4 * j + 0)) (h2 : T ≤ σ 143 + σ (36 + 4 * j + 1)) (h3 : σ (36 + 4 * j + 1) = 9) : plk σ j T = pkX σ j := by
  unfold plk
  rw [if_pos ⟨h1, h2⟩, if_pos h3]
theorem plk_2 {σ : Nat → Nat} {j T : Nat} (h1 : 0 < σ (36 + 4 * j + 0)) (h2 : T ≤ σ 143 + σ (36 + 4 * j + 1)) (h3 : ¬ σ (36 + 4 * j + 1) = 9) : plk σ j T = sounds (pkY σ j) j := by
  unfold plk
  rw [if_pos ⟨h1, h2⟩, if_neg h3]
theorem plk_3 {σ : Nat → Nat} {j T : Nat} (h : ¬ (0 < σ (36 + 4 * j + 0) ∧ T ≤ σ 143 + σ (36 + 4 * j + 1))) : plk σ j T = sounds σ j := by
  unfold plk
  rw [if_neg h]
/-- the step itself: shifted, drawn from the spring, counted -/
def g1 (σ : Nat → Nat) : Nat → Nat := fu σ 134 (ntu σ)
def g2 (σ : Nat → Nat) : Nat → Nat := fu (g1 σ) 133 ((g1 σ 133 + 1) % 32)
def g3 (σ : Nat → Nat) : Nat → Nat := fu (g2 σ) 135 (g2 σ 135 - need σ)
def g4 (σ : Nat → Nat) : Nat → Nat := fu (g3 σ) 141 (g3 σ 141 + need σ)
def g5 (σ : Nat → Nat) : Nat → Nat := fu (g4 σ) 138 (g4 σ 138 + 1)
def tks (σ : Nat → Nat) : Nat := max 2 (12 - g5 σ 135 / 50 + g5 σ 136)
def g6 (σ : Nat → Nat) : Nat → Nat := fu (g5 σ) 137 (g5 σ 137 + tks σ)
def g7 (g : Nat → Nat) (T : Nat) : Nat → Nat → Nat
  | 0 => g
  | k + 1 => fu (g7 g T k) (36 + 4 * k + 0) (g7 g T k (36 + 4 * k + 0) - T)
def g8 (g : Nat → Nat) (T : Nat) : Nat → Nat → Nat
  | 0 => g
  | k + 1 => if pb (g8 g T k) (g8 g T k 134) k (g8 g T k 133) && decide (g8 g T k (36 + 4 * k + 2) = 0) then plk (g8 g T k) k T else g8 g T k
/-- a step that goes on -/
def goes (σ : Nat → Nat) : Nat → Nat := g8 (g7 (g6 σ) (tks σ) 12) (tks σ) 12
theorem need_le (σ : Nat → Nat) : need σ ≤ 13 := by
  have := ct_le (strk σ) 12
  unfold need
  omega
theorem okM.g1 {σ : Nat → Nat} (ok : okM σ) : okM (g1 σ) := ok.put fun _ => by
  have := ntu_lt ok
  show _ ≤ 2
  omega
theorem okM.g2 {σ : Nat → Nat} (ok : okM σ) : okM (g2 σ) := ok.g1.put fun _ => by
  show _ ≤ 31
  omega
theorem okM.g3 {σ : Nat → Nat} (ok : okM σ) : okM (g3 σ) := ok.g2.put fun _ => by
  have := ok.g2.k135
  show _ ≤ 400
  omega
theorem okM.g4 {σ : Nat → Nat} (ok : okM σ) : okM (g4 σ) := ok.g3.put fun h => by unfold bnds at h; omega
theorem okM.g5 {σ : Nat → Nat} (ok : okM σ) : okM (g5 σ) := ok.g4.put fun h => by unfold bnds at h; omega
theorem okM.g6 {σ : Nat → Nat} (ok : okM σ) : okM (g6 σ) := ok.g5.put fun h => by unfold bnds at h; omega
theorem tks_le {σ : Nat → Nat} (ok : okM σ) : tks σ ≤ 21 := by
  have := ok.g5.k136
  unfold tks
  omega
theorem okM.g7 {g : Nat → Nat} (ok : okM g) (T : Nat) : ∀ k, k ≤ 12 → okM (g7 g T k)
  | 0, _ => ok
  | k + 1, hk => (ok.g7 T k (by omega)).put fun _ => by
    have := (ok.g7 T k (by omega)).rings (j := k) (by omega)
    rw [(bnd_rw (by omega) (by decide)).2]
    show _ ≤ 90
    omega
theorem okM.g8 {g : Nat → Nat} (ok : okM g) (T : Nat) : ∀ k, k ≤ 12 → okM (g8 g T k)
  | 0, _ => ok
  | k + 1, hk => by
    show okM (if _ then _ else _)
    split
    · exact (ok.g8 T k (by omega)).plk (by omega)
    · exact ok.g8 T k (by omega)
theorem okM.goes {σ : Nat → Nat} (ok : okM σ) : okM (goes σ) := (ok.g6.g7 _ 12 (Nat.le_refl _)).g8 _ 12 (Nat.le_refl _)
theorem g8_t {g : Nat → Nat} {T k : Nat} (h1 : pb (g8 g T k) (g8 g T k 134) k (g8 g T k 133) = true) (h2 : g8 g T k (36 + 4 * k + 2) = 0) : plk (g8 g T k) k T = g8 g T (k + 1) := by
  show _ = if _ then _ else _
  rw [if_pos (by rw [h1, h2]; rfl)]
theorem g8_f {g : Nat → Nat} {T k : Nat} (h : pb (g8 g T k) (g8 g T k 134) k (g8 g T k 133) = false ∨ ¬ g8 g T k (36 + 4 * k + 2) = 0) : g8 g T k = g8 g T (k + 1) := by
  show _ = if _ then _ else _
  rw [if_neg]
  rcases h with h | h
  · rw [h]; simp
  · simp [h]
/-- the spring holds a step -/
def can (σ : Nat → Nat) : Bool := decide (need σ ≤ σ 135)
/-- on, for n steps at most: how many, and what then is -/
def on : Nat → (Nat → Nat) → Nat × (Nat → Nat)
  | 0, σ => (0, σ)
  | n + 1, σ => if can σ then ((on n (goes σ)).1 + 1, (on n (goes σ)).2) else (0, σ)
theorem on_le : ∀ n σ, (on n σ).1 ≤ n
  | 0, _ => Nat.le_refl 0
  | n + 1, σ => by
    show (if _ then _ else _ : Nat × _).1 ≤ _
    split
    · have := on_le n (goes σ)
      show _ + 1 ≤ _
      omega
    · exact Nat.zero_le _
theorem okM.on : ∀ (n : Nat) {σ : Nat → Nat}, okM σ → okM (on n σ).2
  | 0, _, ok => ok
  | n + 1, σ, ok => by
    show okM (if _ then _ else _ : Nat × _).2
    split
    · exact okM.on n ok.goes
    · exact ok
