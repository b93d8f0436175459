/-! ===== steps, parts, the whole buffer ===== -/
def rsF (u : Nat → Nat) (m s : Nat) (w : Bool) : Int32 := nmV2 u m s w (nI 0) (nI 31)
def rsS1 (u : Nat → Nat) (m s : Nat) (w : Bool) : Nat := nmS2 u m s w (nI 0) (nI 31)
def rsW1 (u : Nat → Nat) (m s : Nat) (w : Bool) : Bool := nmW2 u m s w (nI 0) (nI 31)
def rsC (u : Nat → Nat) (m s : Nat) (w : Bool) : Bool := !(decide (nI 31 ≤ rsF u m s w)) && nxb u m (rsS1 u m s w) (rsW1 u m s w) (nI 45) (nI 45)
def rsT (u : Nat → Nat) (m s : Nat) (w : Bool) : Int32 := if rsC u m s w then nmV2 u m (rsS1 u m s w + 1) (rsW1 u m s w) (rsF u m s w + nI 1) (nI 31) else rsF u m s w
def rsS (u : Nat → Nat) (m s : Nat) (w : Bool) : Nat := if rsC u m s w then nmS2 u m (rsS1 u m s w + 1) (rsW1 u m s w) (rsF u m s w + nI 1) (nI 31) else rsS1 u m s w
def rsW (u : Nat → Nat) (m s : Nat) (w : Bool) : Bool := if rsC u m s w then nmW2 u m (rsS1 u m s w + 1) (rsW1 u m s w) (rsF u m s w + nI 1) (nI 31) else rsW1 u m s w
theorem rsS_le (u : Nat → Nat) (m s : Nat) (w : Bool) : s ≤ rsS u m s w ∧ rsS u m s w ≤ s + 5 := by
  have h1 := nmS2_le u m s w (nI 0) (nI 31)
  have h2 := nmS2_le u m (rsS1 u m s w + 1) (rsW1 u m s w) (rsF u m s w + nI 1) (nI 31)
  have e : rsS1 u m s w = nmS2 u m s w (nI 0) (nI 31) := rfl
  unfold rsS
  split <;> omega
theorem rsC_1 {u : Nat → Nat} {m s : Nat} {w : Bool} (h : nI 31 ≤ rsF u m s w) : rsC u m s w = false := by
  unfold rsC
  rw [decide_eq_true h]; rfl
theorem rsC_2 {u : Nat → Nat} {m s : Nat} {w : Bool} (h : nxb u m (rsS1 u m s w) (rsW1 u m s w) (nI 45) (nI 45) = false) : rsC u m s w = false := by
  unfold rsC
  rw [h, Bool.and_false]
theorem rsC_3 {u : Nat → Nat} {m s : Nat} {w : Bool} (h : ¬ nI 31 ≤ rsF u m s w) (h2 : nxb u m (rsS1 u m s w) (rsW1 u m s w) (nI 45) (nI 45) = true) : rsC u m s w = true := by
  unfold rsC
  rw [h2, decide_eq_false h]; rfl
theorem rs_t {u : Nat → Nat} {m s : Nat} {w : Bool} (h : rsC u m s w = true) : rsS u m s w = nmS2 u m (rsS1 u m s w + 1) (rsW1 u m s w) (rsF u m s w + nI 1) (nI 31) ∧ rsW u m s w = nmW2 u m (rsS1 u m s w + 1) (rsW1 u m s w) (rsF u m s w + nI 1) (nI 31) ∧ rsT u m s w = nmV2 u m (rsS1 u m s w + 1) (rsW1 u m s w) (rsF u m s w + nI 1) (nI 31) := by
  refine ⟨?_, ?_, ?_⟩ <;> (first | unfold rsS | unfold rsW | unfold rsT) <;> rw [if_pos h]
theorem rs_f {u : Nat → Nat} {m s : Nat} {w : Bool} (h : rsC u m s w = false) : rsS u m s w = rsS1 u m s w ∧ rsW u m s w = rsW1 u m s w ∧ rsT u m s w = rsF u m s w := by
  have h2 : ¬ rsC u m s w = true := by rw [h]; decide
  refine ⟨?_, ?_, ?_⟩ <;> (first | unfold rsS | unfold rsW | unfold rsT) <;> rw [if_neg h2]
/-- a number that isn't wrong is in its range -/
theorem inb_rng {v : Int32} {a b : Nat} (ha : a < 2 ^ 31) (hb : b < 2 ^ 31) (h : inb v (nI a) (nI b) = true) : ∃ n : Nat, a ≤ n ∧ n ≤ b ∧ v = nI n := by
  unfold inb at h
  simp only [Bool.and_eq_true, Bool.not_eq_true', decide_eq_false_iff_not] at h
  have h0 : ¬ v < 0 := fun q => h.1 (by
    rw [Int32.lt_iff_toInt_lt] at q ⊢
    rw [nI_toInt ha]
    have e : (0 : Int32).toInt = 0 := rfl
    omega)
  obtain ⟨j, hj, rfl⟩ := nI_of h0
  exact ⟨j, Nat.le_of_not_lt (fun q => h.1 (nI_lt q ha)), Nat.le_of_not_lt (fun q => h.2 (nI_lt q hj)), rfl⟩
theorem nm_ok {u : Nat → Nat} {m s : Nat} {w : Bool} {a b : Nat} (ha : a < 2 ^ 31) (hb : b < 2 ^ 31) (h : nmW2 u m s w (nI a) (nI b) = false) : w = false ∧ ∃ n : Nat, a ≤ n ∧ n ≤ b ∧ nmV2 u m s w (nI a) (nI b) = nI n := by
  unfold nmW2 at h
  simp only [Bool.or_eq_false_iff, Bool.not_eq_false'] at h
  refine ⟨?_, inb_rng ha hb h.2⟩
  have h1 := h.1
  unfold nmW1 at h1
  simp only [Bool.or_eq_false_iff] at h1
  exact h1.1
def rsf (u : Nat → Nat) (m s : Nat) (w : Bool) : Nat := (rsF u m s w).toNatClampNeg
def rsg (u : Nat → Nat) (m s : Nat) (w : Bool) : Nat := (rsT u m s w).toNatClampNeg
theorem rs_ok {u : Nat → Nat} {m s : Nat} {w : Bool} (h : rsW u m s w = false) : w = false ∧ rsF u m s w = nI (rsf u m s w) ∧ rsT u m s w = nI (rsg u m s w) ∧ rsf u m s w ≤ rsg u m s w ∧ rsg u m s w < 32 := by
  have key : rsW1 u m s w = false → w = false ∧ ∃ n : Nat, n ≤ 31 ∧ rsF u m s w = nI n := by
    intro h1
    obtain ⟨h2, n, -, h3, h4⟩ := nm_ok (a := 0) (b := 31) (by decide) (by decide) h1
    exact ⟨h2, n, h3, h4⟩
  cases hC : rsC u m s w with
  | false =>
    obtain ⟨-, e2, e3⟩ := rs_f hC
    rw [e2] at h
    obtain ⟨h1, n, h2, h3⟩ := key h
    have c1 : rsf u m s w = n := by unfold rsf; rw [h3]; exact nI_clamp (by omega)
    have c2 : rsg u m s w = n := by unfold rsg; rw [e3, h3]; exact nI_clamp (by omega)
    refine ⟨h1, by rw [c1]; exact h3, by rw [c2, e3]; exact h3, by omega, by omega⟩
  | true =>
    obtain ⟨-, e2, e3⟩ := rs_t hC
    rw [e2] at h
    have hw1 : rsW1 u m s w = false := by
      unfold nmW2 at h
      simp only [Bool.or_eq_false_iff] at h
      have h1 := h.1
      unfold nmW1 at h1
      simp only [Bool.or_eq_false_iff] at h1
      exact h1.1
    obtain ⟨h1, n, h2, h3⟩ := key hw1
    have e5 : rsF u m s w + nI 1 = nI (n + 1) := by rw [h3]; exact nI_add n 1
    have h4 := h
    rw [e5] at h4
    obtain ⟨-, k, k1, k2, k3⟩ := nm_ok (a := n + 1) (b := 31) (by omega) (by decide) h4
    rw [e5, k3] at e3
    have c1 : rsf u m s w = n := by unfold rsf; rw [h3]; exact nI_clamp (by omega)
    have c2 : rsg u m s w = k := by unfold rsg; rw [e3]; exact nI_clamp (by omega)
    refine ⟨h1, by rw [c1]; exact h3, by rw [c2]; exact e3, by omega, by omega⟩
/-- pins that are set, one after the other, from the step f on -/
def prs (σ : Nat → Nat) (t j f : Nat) : Nat → Nat → Nat
  | 0 => σ
  | k + 1 => if hind (prs σ t j f k) t j (f + k) = 0 then fu (prs σ t j f k) (12 * t + j) (prs σ t j f k (12 * t + j) ||| 2 ^ (f + k)) else prs σ t j f k
def prc (σ : Nat → Nat) (t j f : Nat) : Nat → Nat
  | 0 => 0
  | k + 1 => prc σ t j f k + (if hind (prs σ t j f k) t j (f + k) = 0 then 1 else 0)
theorem prs_t {σ : Nat → Nat} {t j f k : Nat} (h : hind (prs σ t j f k) t j (f + k) = 0) : prs σ t j f (k + 1) = fu (prs σ t j f k) (12 * t + j) (prs σ t j f k (12 * t + j) ||| 2 ^ (f + k)) ∧ prc σ t j f (k + 1) = prc σ t j f k + 1 := by
  constructor
  · rw [prs, if_pos h]
  · rw [prc, if_pos h]
theorem prs_f {σ : Nat → Nat} {t j f k : Nat} (h : ¬ hind (prs σ t j f k) t j (f + k) = 0) : prs σ t j f (k + 1) = prs σ t j f k ∧ prc σ t j f (k + 1) = prc σ t j f k := by
  constructor
  · rw [prs, if_neg h]
  · rw [prc, if_neg h]; rfl
theorem okM.setpin {σ : Nat → Nat} (ok : okM σ) {i p : Nat} (hi : i < 36) (hp : p < 32) : okM (fu σ i (σ i ||| 2 ^ p)) := ok.put fun _ => by
  have h1 := ok.pin hi
  have h2 : σ i ||| 2 ^ p < 2 ^ 32 := Nat.or_lt_two_pow h1 (Nat.pow_lt_pow_right (by decide) hp)
  unfold bnd
  rw [if_pos hi]
  omega
theorem okM.prk {σ : Nat → Nat} (ok : okM σ) {t j f : Nat} (ht : t < 3) (hj : j < 12) : ∀ k, f + k ≤ 32 → okM (prs σ t j f k)
  | 0, _ => ok
  | k + 1, hk => by
    have ih := ok.prk (f := f) ht hj k (by omega)
    by_cases h : hind (prs σ t j f k) t j (f + k) = 0
    · rw [(prs_t h).1]; exact ih.setpin (i := 12 * t + j) (p := f + k) (by omega) (by omega)
    · rw [(prs_f h).1]; exact ih
def tkx (u : Nat → Nat) (m : Nat) (x : Nat × Bool) (lo hi : Int32) : Nat × Bool := (x.1 + (nxb u m x.1 x.2 lo hi).toNat, x.2 || !(nxb u m x.1 x.2 lo hi))
def nmx (u : Nat → Nat) (m : Nat) (x : Nat × Bool) (lo hi : Int32) : Nat × Bool := (nmS2 u m x.1 x.2 lo hi, nmW2 u m x.1 x.2 lo hi)
def rsx (u : Nat → Nat) (m : Nat) (x : Nat × Bool) : Nat × Bool := (rsS u m x.1 x.2, rsW u m x.1 x.2)
def rq1 (u : Nat → Nat) (m : Nat) (x : Nat × Bool) : Nat × Bool := tkx u m x (nI 48) (nI 50)
def rq2 (u : Nat → Nat) (m : Nat) (x : Nat × Bool) : Nat × Bool := tkx u m (rq1 u m x) (nI 47) (nI 47)
def rq3 (u : Nat → Nat) (m : Nat) (x : Nat × Bool) : Nat × Bool := nmx u m (rq2 u m x) (nI 0) (nI 11)
def rq4 (u : Nat → Nat) (m : Nat) (x : Nat × Bool) : Nat × Bool := tkx u m (rq3 u m x) (nI 58) (nI 58)
def rq5 (u : Nat → Nat) (m : Nat) (x : Nat × Bool) : Nat × Bool := rsx u m (rq4 u m x)
def rpl (u : Nat → Nat) (m : Nat) : Nat → Nat × Bool → Nat × Bool
  | 0, x => x
  | n + 1, x => if nxb u m x.1 x.2 (nI 44) (nI 44) then rpl u m n (rsx u m (x.1 + 1, x.2)) else x
def rpx (u : Nat → Nat) (m : Nat) (x : Nat × Bool) : Nat × Bool := rpl u m (m + 1) (rq5 u m x)
theorem tkx_le (u : Nat → Nat) (m : Nat) (x : Nat × Bool) (lo hi : Int32) : x.1 ≤ (tkx u m x lo hi).1 ∧ (tkx u m x lo hi).1 ≤ x.1 + 1 := by
  have := Bool.toNat_le (nxb u m x.1 x.2 lo hi)
  show x.1 ≤ x.1 + _ ∧ x.1 + _ ≤ x.1 + 1
  omega
theorem nmx_le (u : Nat → Nat) (m : Nat) (x : Nat × Bool) (lo hi : Int32) : x.1 ≤ (nmx u m x lo hi).1 ∧ (nmx u m x lo hi).1 ≤ x.1 + 2 := nmS2_le u m x.1 x.2 lo hi
theorem rsx_le (u : Nat → Nat) (m : Nat) (x : Nat × Bool) : x.1 ≤ (rsx u m x).1 ∧ (rsx u m x).1 ≤ x.1 + 5 := rsS_le u m x.1 x.2
theorem rq_le (u : Nat → Nat) (m : Nat) (x : Nat × Bool) : (x.1 ≤ (rq1 u m x).1 ∧ (rq1 u m x).1 ≤ x.1 + 1) ∧ (x.1 ≤ (rq2 u m x).1 ∧ (rq2 u m x).1 ≤ x.1 + 2) ∧ (x.1 ≤ (rq3 u m x).1 ∧ (rq3 u m x).1 ≤ x.1 + 4) ∧ (x.1 ≤ (rq4 u m x).1 ∧ (rq4 u m x).1 ≤ x.1 + 5) ∧ (x.1 ≤ (rq5 u m x).1 ∧ (rq5 u m x).1 ≤ x.1 + 10) := by
  have h1 := tkx_le u m x (nI 48) (nI 50)
  have h2 := tkx_le u m (rq1 u m x) (nI 47) (nI 47)
  have h3 := nmx_le u m (rq2 u m x) (nI 0) (nI 11)
  have h4 := tkx_le u m (rq3 u m x) (nI 58) (nI 58)
  have h5 := rsx_le u m (rq4 u m x)
  have e1 : rq1 u m x = tkx u m x (nI 48) (nI 50) := rfl
  have e2 : rq2 u m x = tkx u m (rq1 u m x) (nI 47) (nI 47) := rfl
  have e3 : rq3 u m x = nmx u m (rq2 u m x) (nI 0) (nI 11) := rfl
  have e4 : rq4 u m x = tkx u m (rq3 u m x) (nI 58) (nI 58) := rfl
  have e5 : rq5 u m x = rsx u m (rq4 u m x) := rfl
  rw [← e1] at h1
  rw [← e2] at h2
  rw [← e3] at h3
  rw [← e4] at h4
  rw [← e5] at h5
  refine ⟨h1, ⟨?_, ?_⟩, ⟨?_, ?_⟩, ⟨?_, ?_⟩, ⟨?_, ?_⟩⟩ <;> omega
theorem rpl_f {u : Nat → Nat} {m : Nat} {x : Nat × Bool} (h : nxb u m x.1 x.2 (nI 44) (nI 44) = false) : ∀ n, rpl u m n x = x
  | 0 => rfl
  | n + 1 => by rw [rpl, if_neg (by rw [h]; decide)]
theorem rpl_t {u : Nat → Nat} {m : Nat} {x : Nat × Bool} (h : nxb u m x.1 x.2 (nI 44) (nI 44) = true) {n : Nat} (hn : m < x.1 + n) : 0 < n ∧ rpl u m n x = rpl u m (n - 1) (rsx u m (x.1 + 1, x.2)) := by
  have := nxb_lt h
  obtain ⟨k, rfl⟩ : ∃ k, n = k + 1 := ⟨n - 1, by omega⟩
  exact ⟨by omega, by rw [rpl, if_pos h]; rfl⟩
theorem rpl_le (u : Nat → Nat) (m : Nat) : ∀ n (x : Nat × Bool), x.1 ≤ (rpl u m n x).1 ∧ (rpl u m n x).1 ≤ max x.1 (m + 5)
  | 0, x => ⟨Nat.le_refl _, Nat.le_max_left _ _⟩
  | n + 1, x => by
    rw [rpl]
    split
    · rename_i h
      have h1 := nxb_lt h
      have h2 := rpl_le u m n (rsx u m (x.1 + 1, x.2))
      have h3 := rsx_le u m (x.1 + 1, x.2)
      dsimp only at h3
      omega
    · omega
theorem rpx_le (u : Nat → Nat) (m : Nat) (x : Nat × Bool) : x.1 ≤ (rpx u m x).1 ∧ (rpx u m x).1 ≤ max (x.1 + 10) (m + 5) := by
  have h1 := rpl_le u m (m + 1) (rq5 u m x)
  have h2 := (rq_le u m x).2.2.2.2
  unfold rpx
  omega
def rdl (u : Nat → Nat) (m : Nat) : Nat → Nat × Bool → Nat × Bool
  | 0, x => x
  | n + 1, x => if nxb u m x.1 x.2 (nI 59) (nI 59) then rdl u m n (rpx u m (x.1 + 1, x.2)) else x
def rdx (u : Nat → Nat) (m : Nat) : Nat × Bool := rdl u m (m + 1) (rpx u m (0, false))
theorem rdl_f {u : Nat → Nat} {m : Nat} {x : Nat × Bool} (h : nxb u m x.1 x.2 (nI 59) (nI 59) = false) : ∀ n, rdl u m n x = x
  | 0 => rfl
  | n + 1 => by rw [rdl, if_neg (by rw [h]; decide)]
theorem rdl_t {u : Nat → Nat} {m : Nat} {x : Nat × Bool} (h : nxb u m x.1 x.2 (nI 59) (nI 59) = true) {n : Nat} (hn : m < x.1 + n) : 0 < n ∧ rdl u m n x = rdl u m (n - 1) (rpx u m (x.1 + 1, x.2)) := by
  have := nxb_lt h
  obtain ⟨k, rfl⟩ : ∃ k, n = k + 1 := ⟨n - 1, by omega⟩
  exact ⟨by omega, by rw [rdl, if_pos h]; rfl⟩
/-- is the buffer whole -/
def whl (u : Nat → Nat) (m : Nat) : Bool := !(rdx u m).2 && decide ((rdx u m).1 = m)
