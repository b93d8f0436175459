/-! ===== the reference's steps as functions of its row ===== -/
theorem fu_at (f : Nat → Nat) (i v : Nat) : fu f i v i = v := if_pos rfl
theorem fu_ne {f : Nat → Nat} {i v k : Nat} (h : k ≠ i) : fu f i v k = f k := if_neg h
/-- k places of f laid into g from o on, one by one -/
def cpo (f g : Nat → Nat) (o : Nat) : Nat → Nat → Nat
  | 0 => g
  | k + 1 => fu (cpo f g o k) (o + k) (f k)
theorem cpo_eq (f g : Nat → Nat) (o i : Nat) : ∀ k, cpo f g o k i = if o ≤ i ∧ i < o + k then f (i - o) else g i
  | 0 => by rw [if_neg (by omega)]; rfl
  | k + 1 => by
    show fu (cpo f g o k) (o + k) (f k) i = _
    by_cases e : i = o + k
    · rw [e, fu_at, if_pos ⟨by omega, by omega⟩, Nat.add_sub_cancel_left]
    · rw [fu_ne e, cpo_eq f g o i k]
      by_cases h : o ≤ i ∧ i < o + k
      · rw [if_pos h, if_pos ⟨h.1, by omega⟩]
      · rw [if_neg h, if_neg (by omega)]
/-- one by one, each from 147 places behind -/
def shl (v : Nat → Nat) : Nat → Nat → Nat
  | 0 => v
  | k + 1 => fu (shl v k) k (shl v k (k + 147))
theorem shl_eq (v : Nat → Nat) (i : Nat) : ∀ k, shl v k i = if i < k then v (i + 147) else v i
  | 0 => by rw [if_neg (by omega)]; rfl
  | k + 1 => by
    show fu (shl v k) k (shl v k (k + 147)) i = _
    by_cases e : i = k
    · rw [e, fu_at, shl_eq v (k + 147) k, if_neg (by omega), if_pos (by omega)]
    · rw [fu_ne e, shl_eq v i k]
      by_cases h : i < k
      · rw [if_pos h, if_pos (by omega)]
      · rw [if_neg h, if_neg (by omega)]
/-- the rows that are known, and how many, behind a save -/
def svn (n : Nat) : Nat := if n = 6 then 6 else n + 1
def svf (v σ : Nat → Nat) (n : Nat) : Nat → Nat := fun i => if n = 6 then (if i < 735 then v (i + 147) else if i < 882 then σ (i - 735) else v i) else if 147 * n ≤ i ∧ i < 147 * n + 147 then σ (i - 147 * n) else v i
theorem sv_full {v σ : Nat → Nat} {n : Nat} (hn : n = 6) (i : Nat) : cpo σ (shl v 735) (147 * (n - 1)) 147 i = svf v σ n i := by
  subst hn
  rw [cpo_eq]
  unfold svf
  rw [if_pos rfl]
  by_cases h : 147 * (6 - 1) ≤ i ∧ i < 147 * (6 - 1) + 147
  · rw [if_pos h, if_neg (by omega), if_pos (by omega)]
  · rw [if_neg h, shl_eq]
    by_cases h2 : i < 735
    · rw [if_pos h2, if_pos h2]
    · rw [if_neg h2, if_neg h2, if_neg (by omega)]
theorem sv_more {v σ : Nat → Nat} {n : Nat} (hn : ¬ n = 6) (i : Nat) : cpo σ v (147 * n) 147 i = svf v σ n i := by
  rw [cpo_eq]
  unfold svf
  rw [if_neg hn]
def sdA (σ : Nat → Nat) (j : Nat) : Nat → Nat := fu σ (36 + 4 * j + 0) (max 4 (σ 142 - 2 * j))
def sdB (σ : Nat → Nat) (j : Nat) : Nat → Nat := fu (sdA σ j) (36 + 4 * j + 3) (sdA σ j (36 + 4 * j + 3) + 1)
def sdC (σ : Nat → Nat) (j : Nat) : Nat → Nat := fu (sdB σ j) 139 (sdB σ j 139 + 1)
def shr (g : Nat → Nat) : Nat → Nat → Nat
  | 0 => g
  | n + 1 => fu (shr g n) (84 + (47 - n)) (shr g n (84 + (47 - n) - 2))
def sdE (σ : Nat → Nat) (j : Nat) : Nat → Nat := fu (shr (sdC σ j) 46) 84 j
def sdF (σ : Nat → Nat) (j : Nat) : Nat → Nat := fu (sdE σ j) 85 (sdE σ j 137)
/-- a tooth sounds -/
def sounds (σ : Nat → Nat) (j : Nat) : Nat → Nat := fu (sdF σ j) 132 (sdF σ j 132 + (if sdF σ j 132 < 24 then 1 else 0))
theorem shr_eq (g : Nat → Nat) (i : Nat) : ∀ n, n ≤ 46 → shr g n i = if 131 - n < i ∧ i < 132 then g (i - 2) else g i
  | 0, _ => by rw [if_neg (by omega)]; rfl
  | n + 1, hn => by
    show fu (shr g n) (84 + (47 - n)) (shr g n (84 + (47 - n) - 2)) i = _
    by_cases e : i = 84 + (47 - n)
    · rw [e, fu_at, shr_eq g _ n (by omega), if_neg (by omega), if_pos (by omega)]
    · rw [fu_ne e, shr_eq g i n (by omega)]
      by_cases h : 131 - n < i ∧ i < 132
      · rw [if_pos h, if_pos (by omega)]
      · rw [if_neg h, if_neg (by omega)]
theorem rg_int {x y : Nat} (hx : x ≤ 90) (hy : y ≤ 22) : (nI x - nI y).toInt = (x : Int) - y := pk_sub_toInt (by omega) (by omega)
theorem rg_lo {x y : Nat} (hx : x ≤ 90) (hy : y ≤ 22) (h : ¬ nI 4 ≤ nI x - nI y) : nI 4 = nI (max 4 (x - y)) := by
  rw [Int32.le_iff_toInt_le, rg_int hx hy, nI_toInt (by decide)] at h
  refine congrArg nI ?_
  omega
theorem rg_hi {x y : Nat} (hx : x ≤ 90) (hy : y ≤ 22) (h : nI 4 ≤ nI x - nI y) : nI x - nI y = nI (max 4 (x - y)) := by
  rw [Int32.le_iff_toInt_le, rg_int hx hy, nI_toInt (by decide)] at h
  rw [pk_sub (by omega)]
  refine congrArg nI ?_
  omega
/-- what sounds leaves -/
theorem sounds_out {σ : Nat → Nat} {j i : Nat} (hj : j < 12) (h1 : i < 84 ∨ 132 < i) (h2 : i ≠ 36 + 4 * j + 0) (h3 : i ≠ 36 + 4 * j + 3) (h4 : i ≠ 139) : sounds σ j i = σ i := by
  unfold sounds sdF sdE
  rw [fu_ne (by omega), fu_ne (by omega), fu_ne (by omega), shr_eq _ _ 46 (Nat.le_refl _), if_neg (by omega)]
  unfold sdC sdB sdA
  rw [fu_ne h4, fu_ne h3, fu_ne h2]
theorem sdF_132 {σ : Nat → Nat} {j : Nat} (hj : j < 12) : sdF σ j 132 = σ 132 := by
  unfold sdF sdE
  rw [fu_ne (by omega), fu_ne (by omega), shr_eq _ _ 46 (Nat.le_refl _), if_neg (by omega)]
  unfold sdC sdB sdA
  rw [fu_ne (by omega), fu_ne (by omega), fu_ne (by omega)]
theorem sounds_132 {σ : Nat → Nat} {j : Nat} (hj : j < 12) : sounds σ j 132 = σ 132 + (if σ 132 < 24 then 1 else 0) := by
  unfold sounds
  rw [fu_at, sdF_132 hj]
theorem sounds_ring {σ : Nat → Nat} {j : Nat} (hj : j < 12) : sounds σ j (36 + 4 * j + 0) = max 4 (σ 142 - 2 * j) := by
  unfold sounds sdF sdE
  rw [fu_ne (by omega), fu_ne (by omega), fu_ne (by omega), shr_eq _ _ 46 (Nat.le_refl _), if_neg (by omega)]
  unfold sdC sdB sdA
  rw [fu_ne (by omega), fu_ne (by omega), fu_at]
theorem okM.sounds {σ : Nat → Nat} (ok : okM σ) {j : Nat} (hj : j < 12) : okM (sounds σ j) := by
  intro i hi
  by_cases e1 : i = 36 + 4 * j + 0
  · subst e1
    rw [sounds_ring hj, (bnd_rw hj (by decide)).2, if_pos rfl]
    have := ok.k142
    omega
  by_cases e2 : i = 132
  · subst e2
    rw [sounds_132 hj]
    have := ok.k132
    show _ ≤ 24
    split <;> omega
  have h0 := ok i hi
  rw [sounds_out hj (by unfold bnds at hi; omega) e1 (by unfold bnds at hi; omega) (by unfold bnds at hi; omega)]
  exact h0
/-- a squeak: that breaks the tooth, or wears its damper -/
def pkX (σ : Nat → Nat) (j : Nat) : Nat → Nat := fu (fu (fu (fu σ 140 (σ 140 + 1)) (36 + 4 * j + 1) (fu σ 140 (σ 140 + 1) (36 + 4 * j + 1) + 0)) (36 + 4 * j + 2) 1) (36 + 4 * j + 0) 0
def pkZ (σ : Nat → Nat) (j : Nat) : Nat → Nat := fu (fu (fu σ 140 (σ 140 + 1)) (36 + 4 * j + 1) (fu σ 140 (σ 140 + 1) (36 + 4 * j + 1) + 1)) (36 + 4 * j + 2) 0
def pkY (σ : Nat → Nat) (j : Nat) : Nat → Nat := fu (pkZ σ j) (36 + 4 * j + 0) (pkZ σ j (36 + 4 * j + 0))
def plk (σ : Nat → Nat) (j T : Nat) : Nat → Nat := if 0 < σ (36 + 4 * j + 0) ∧ T ≤ σ 143 + σ (36 + 4 * j + 1) then (if σ (36 + 4 * j + 1) = 9 then pkX σ j else sounds (pkY σ j) j) else sounds σ j
theorem pkA_w {σ : Nat → Nat} {j : Nat} (hj : j < 12) : fu σ 140 (σ 140 + 1) (36 + 4 * j + 1) = σ (36 + 4 * j + 1) := fu_ne (by omega)
theorem pkX_b {σ : Nat → Nat} {j : Nat} : pkX σ j (36 + 4 * j + 2) = 1 := by
  unfold pkX
  rw [fu_ne (by omega), fu_at]
theorem pkY_b {σ : Nat → Nat} {j : Nat} : pkY σ j (36 + 4 * j + 2) = 0 := by
  unfold pkY pkZ
  rw [fu_ne (by omega), fu_at]
theorem okM.pkX {σ : Nat → Nat} (ok : okM σ) {j : Nat} (hj : j < 12) : okM (pkX σ j) := by
  refine (((ok.put ?_).put ?_).put ?_).put ?_
  · intro h; unfold bnds at h; omega
  · intro _; rw [pkA_w hj, (bnd_rw hj (by decide)).2]; exact ok.wear hj
  · intro _; rw [(bnd_rw hj (by decide)).2]; decide
  · intro _; exact Nat.zero_le _
theorem okM.pkY {σ : Nat → Nat} (ok : okM σ) {j : Nat} (hj : j < 12) (h9 : ¬ σ (36 + 4 * j + 1) = 9) : okM (pkY σ j) := by
  have hz : okM (pkZ σ j) := by
    refine ((ok.put ?_).put ?_).put ?_
    · intro h; unfold bnds at h; omega
    · intro _; rw [pkA_w hj, (bnd_rw hj (by decide)).2]
      have := ok.wear hj
      show _ ≤ 9
      omega
    · intro _; exact Nat.zero_le _
  refine hz.put ?_
  intro _
  rw [(bnd_rw hj (by decide)).2]
  exact hz.rings hj
theorem okM.plk {σ : Nat → Nat} (ok : okM σ) {j T : Nat} (hj : j < 12) : okM (plk σ j T) := by
  show okM (if _ then _ else _)
  split
  · split
    · exact ok.pkX hj
    · rename_i h9
      exact (ok.pkY hj h9).sounds hj
  · exact ok.sounds hj
