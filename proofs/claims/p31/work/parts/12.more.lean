theorem inb_t {v a b : Nat} (h1 : a ≤ v) (h2 : v ≤ b) (hb : b < 2 ^ 31) : inb (nI v) (nI a) (nI b) = true := by
  unfold inb
  have e1 : ¬ nI v < nI a := nI_nlt h1 (by omega)
  have e2 : ¬ nI b < nI v := nI_nlt h2 hb
  simp [e1, e2]
theorem hind_le (σ : Nat → Nat) (t j p : Nat) : hind σ t j p ≤ 3 := by
  unfold hind
  repeat' split
  all_goals omega
theorem on_0 (σ : Nat → Nat) : on 0 σ = (0, σ) := rfl
theorem on_t {n : Nat} {σ : Nat → Nat} (h : can σ = true) : on (n + 1) σ = ((on n (goes σ)).1 + 1, (on n (goes σ)).2) := if_pos h
theorem on_f {n : Nat} {σ : Nat → Nat} (h : can σ = false) : on n σ = (0, σ) := by
  cases n with
  | zero => rfl
  | succ n => show (if _ then _ else _ : Nat × _) = _; rw [h]; rfl
/-- pins of a tooth are taken out, one by one from p on -/
def pul (g : Nat → Nat) (i p : Nat) : Nat → Nat → Nat
  | 0 => g
  | k + 1 => fu (pul g i p k) i (pul g i p k i &&& (2 ^ (p + k) ^^^ 4294967295))
def pulc (g : Nat → Nat) (i p : Nat) : Nat → Nat
  | 0 => 0
  | k + 1 => pulc g i p k + ((pul g i p k i).testBit (p + k)).toNat
/-- the values of a setting -/
def loS (i : Nat) : Nat := if i = 0 then 4 else if i = 1 then 0 else if i = 2 then 0 else 1
def hiS (i : Nat) : Nat := if i = 0 then 90 else if i = 1 then 20 else if i = 2 then 1 else if i = 3 then 8 else 12
/-- the next pin, as the reference looks: from the far end down -/
def nxd (σ : Nat → Nat) (t j p : Nat) : Nat → Nat
  | 0 => 4294967295
  | k + 1 => if pb σ t j ((p + (31 - k)) % 32) then (p + (31 - k)) % 32 else nxd σ t j p k
/-- the first fullest step -/
def ful (σ : Nat → Nat) (t : Nat) : Nat → Nat
  | 0 => 0
  | k + 1 => if ones (mk (fun j => pb σ t j (ful σ t k)) 12) < ones (mk (fun j => pb σ t j (1 + k)) 12) then 1 + k else ful σ t k
theorem ful_le (σ : Nat → Nat) (t : Nat) : ∀ k, ful σ t k ≤ k
  | 0 => Nat.le_refl 0
  | k + 1 => by
    have := ful_le σ t k
    rw [ful]
    split <;> omega
def tof (σ : Nat → Nat) (t : Nat) : Nat := mk (fun j => decide (¬ σ (12 * t + j) = 0)) 12
/-- a number of a tune -/
def otu (σ : Nat → Nat) (t w : Nat) : Nat := if w = 0 ∨ w = 1 then pins σ t else if w = 2 then ones (mk (fun j => pb σ t j (ful σ t 31)) 12) else if w = 3 then ful σ t 31 else tof σ t
/-- the widest gap, as the reference goes: the most, and steps since -/
def wid (x : Nat) : Nat → Nat × Nat
  | 0 => (0, 0)
  | k + 1 => (if x.testBit (k % 32) && decide (32 ≤ k) && decide ((wid x k).1 < (wid x k).2 + 1) then (wid x k).2 + 1 else (wid x k).1, if x.testBit (k % 32) then 0 else (wid x k).2 + 1)
theorem wid_le (x : Nat) : ∀ k, (wid x k).1 ≤ k ∧ (wid x k).2 ≤ k
  | 0 => ⟨Nat.le_refl 0, Nat.le_refl 0⟩
  | k + 1 => by
    have := wid_le x k
    rw [wid]
    dsimp only
    constructor <;> split <;> omega
def wide (σ : Nat → Nat) (j : Nat) : Nat := if σ (12 * σ 134 + j) = 0 then 0 else (wid (σ (12 * σ 134 + j)) 64).1
/-- a number of a tooth -/
def oto (σ : Nat → Nat) (j w : Nat) : Nat := if w < 4 then σ (36 + 4 * j + w) else wide σ j
def tth (σ : Nat → Nat) (w : Nat) : Nat := ct (fun j => decide (0 < σ (36 + 4 * j + w))) 12
/-- a number of the whole -/
def cnt (σ : Nat → Nat) (n w : Nat) : Nat := if w = 8 then tth σ 0 else if w = 9 then tth σ 2 else if w = 10 then allp σ else if w = 11 then σ 141 else if w < 12 then σ (133 + w) else if w < 17 then σ (142 + w - 12) else n
theorem i32_dn (x y : Int32) : x - y + (-1) = x - (y + 1) := by grind
theorem kn_dn (x k : Nat) : nI x - nI k + (-1) = nI x - nI (k + 1) := by
  rw [nI_succ]
  exact i32_dn _ _
