/-! ===== the reference's numbers, in natural numbers ===== -/
theorem inb_d {v a b : Nat} (hv : v < 2 ^ 31) (ha : a < 2 ^ 31) (hb : b < 2 ^ 31) : inb (nI v) (nI a) (nI b) = decide (a ≤ v ∧ v ≤ b) := by
  have h1 : (nI v < nI a) ↔ v < a := nI_ltI hv ha
  have h2 : (nI b < nI v) ↔ b < v := nI_ltI hb hv
  unfold inb
  rw [Bool.eq_iff_iff]
  simp only [Bool.and_eq_true, Bool.not_eq_true', decide_eq_true_eq, decide_eq_false_iff_not, h1, h2]
  omega
section
variable {u : Nat → Nat} {m s : Nat}
theorem nxb_d (hu : ∀ i, i < m → u i < 128) {a b : Nat} (ha : a < 128) (hb : b < 128) : nxb u m s false (nI a) (nI b) = decide (s < m ∧ a ≤ u s ∧ u s ≤ b) := by
  unfold nxb
  by_cases c : s < m
  · rw [inb_d (by have := hu s c; omega) (by omega) (by omega), decide_eq_true c, Bool.eq_iff_iff]
    simp only [Bool.and_eq_true, Bool.not_false, Bool.true_and, decide_eq_true_eq, true_and]
    exact ⟨fun q => ⟨c, q⟩, fun q => q.2⟩
  · rw [decide_eq_false c, decide_eq_false (p := s < m ∧ a ≤ u s ∧ u s ≤ b) (fun q => c q.1)]
    rfl
abbrev dgA (u : Nat → Nat) (m s : Nat) : Prop := s < m ∧ 48 ≤ u s ∧ u s ≤ 57
abbrev bgN (d lo hi : Nat) : Prop := (lo ≤ d ∧ d ≤ hi) ∨ (0 < d ∧ 10 * d ≤ hi ∧ lo ≤ 10 * d + 9)
theorem bg_d {d lo hi : Nat} (hd : d ≤ 9) (hlo : lo ≤ 31) (hhi : hi ≤ 31) : bgI (nI d) (nI lo) (nI hi) = decide (bgN d lo hi) := by
  have l1 : (nI d ≤ 0) ↔ d ≤ 0 := (nI_leI (by omega) (by decide) : nI d ≤ nI 0 ↔ d ≤ 0)
  have l2 : (nI hi < nI 10 * nI d) ↔ hi < 10 * d := by rw [pk_mul]; exact nI_ltI (by omega) (by omega)
  have l3 : (nI 10 * nI d + nI 9 < nI lo) ↔ 10 * d + 9 < lo := by rw [pk_mul, nI_add]; exact nI_ltI (by omega) (by omega)
  unfold bgI
  rw [inb_d (by omega) (by omega) (by omega), Bool.eq_iff_iff]
  simp only [Bool.or_eq_true, Bool.and_eq_true, Bool.not_eq_true', decide_eq_true_eq, decide_eq_false_iff_not, l1, l2, l3]
  omega
theorem nmV_d (hu : ∀ i, i < m → u i < 128) (h : dgA u m s) : nmV u m s false = nI (u s - 48) := by
  unfold nmV
  rw [nxb_d hu (by decide) (by decide), decide_eq_true h, if_pos rfl, pk_sub h.2.1]
theorem nm_none (hu : ∀ i, i < m → u i < 128) (h : ¬ dgA u m s) {lo hi : Nat} (hlo : lo ≤ 31) : nmx u m (s, false) (nI lo) (nI hi) = (s, true) := by
  have e1 : nmV u m s false = nI 4294967295 := by
    unfold nmV
    rw [nxb_d hu (by decide) (by decide), decide_eq_false h]
    rfl
  have l1 : nI 4294967295 < nI lo := by
    rw [Int32.lt_iff_toInt_lt, nI_toInt (n := lo) (by omega), show (nI 4294967295).toInt = -1 by decide]
    omega
  have l2 : nI 4294967295 ≤ (0 : Int32) := by decide
  have e2 : bgI (nI 4294967295) (nI lo) (nI hi) = false := by
    unfold bgI inb
    rw [decide_eq_true l1, decide_eq_true l2]
    rfl
  have e3 : nmW1 u m s false (nI lo) (nI hi) = true := by
    unfold nmW1
    rw [e1, e2]
    rfl
  have e4 : nmS1 u m s false (nI lo) (nI hi) = s := by
    unfold nmS1
    rw [e3]
    rfl
  have e5 : nmN2 u m s false (nI lo) (nI hi) = false := by
    unfold nmN2
    rw [e1, decide_eq_true l2]
    rfl
  show (nmS2 u m s false (nI lo) (nI hi), nmW2 u m s false (nI lo) (nI hi)) = _
  unfold nmS2 nmW2
  rw [e5, e4, e3]
  rfl
theorem nm_bad (hu : ∀ i, i < m → u i < 128) (h : dgA u m s) {lo hi : Nat} (hlo : lo ≤ 31) (hhi : hi ≤ 31) (hb : ¬ bgN (u s - 48) lo hi) : nmx u m (s, false) (nI lo) (nI hi) = (s, true) := by
  have e1 := nmV_d hu h
  have e3 : nmW1 u m s false (nI lo) (nI hi) = true := by
    unfold nmW1
    rw [e1, bg_d (by omega) hlo hhi, decide_eq_false hb]
    rfl
  have e4 : nmS1 u m s false (nI lo) (nI hi) = s := by
    unfold nmS1
    rw [e3]
    rfl
  have e5 : nmN2 u m s false (nI lo) (nI hi) = false := by
    unfold nmN2
    rw [e4, e3, show nxb u m s true (nI 48) (nI 57) = false from rfl, Bool.and_false, Bool.false_and]
  show (nmS2 u m s false (nI lo) (nI hi), nmW2 u m s false (nI lo) (nI hi)) = _
  unfold nmS2 nmW2
  rw [e5, e4, e3]
  rfl
/-- a second digit goes on with the number -/
abbrev twN (u : Nat → Nat) (m s lo hi : Nat) : Prop := 0 < u s - 48 ∧ dgA u m (s + 1) ∧ lo ≤ 10 * (u s - 48) + (u (s + 1) - 48) ∧ 10 * (u s - 48) + (u (s + 1) - 48) ≤ hi
theorem nm_n2 (hu : ∀ i, i < m → u i < 128) (h : dgA u m s) {lo hi : Nat} (hlo : lo ≤ 31) (hhi : hi ≤ 31) (hb : bgN (u s - 48) lo hi) :
    nmW1 u m s false (nI lo) (nI hi) = false ∧ nmS1 u m s false (nI lo) (nI hi) = s + 1 ∧ nmN2 u m s false (nI lo) (nI hi) = decide (twN u m s lo hi) ∧ (dgA u m (s + 1) → nmV1 u m s false (nI lo) (nI hi) = nI (10 * (u s - 48) + (u (s + 1) - 48))) := by
  have e1 := nmV_d hu h
  have e3 : nmW1 u m s false (nI lo) (nI hi) = false := by
    unfold nmW1
    rw [e1, bg_d (by omega) hlo hhi, decide_eq_true hb]
    rfl
  have e4 : nmS1 u m s false (nI lo) (nI hi) = s + 1 := by
    unfold nmS1
    rw [e3]
    rfl
  have eV : dgA u m (s + 1) → nmV1 u m s false (nI lo) (nI hi) = nI (10 * (u s - 48) + (u (s + 1) - 48)) := fun hd => by
    unfold nmV1
    rw [e1, e4, pk_mul, nI_add, pk_sub (by omega)]
    exact congrArg nI (by omega)
  have l1 : (nI (u s - 48) ≤ 0) ↔ u s - 48 ≤ 0 := (nI_leI (by omega) (by decide) : nI (u s - 48) ≤ nI 0 ↔ u s - 48 ≤ 0)
  refine ⟨e3, e4, ?_, eV⟩
  unfold nmN2
  rw [e3, e4, e1, nxb_d hu (by decide) (by decide)]
  by_cases hd : dgA u m (s + 1)
  · rw [eV hd, inb_d (by omega) (by omega) (by omega), Bool.eq_iff_iff]
    simp only [Bool.and_eq_true, Bool.not_eq_true', decide_eq_true_eq, decide_eq_false_iff_not, l1]
    omega
  · rw [decide_eq_false hd, Bool.and_false, Bool.false_and, decide_eq_false (p := twN u m s lo hi) (fun q => hd q.2.1)]
theorem nm_two (hu : ∀ i, i < m → u i < 128) (h : dgA u m s) {lo hi : Nat} (hlo : lo ≤ 31) (hhi : hi ≤ 31) (hb : bgN (u s - 48) lo hi) (h2 : twN u m s lo hi) :
    nmx u m (s, false) (nI lo) (nI hi) = (s + 2, false) ∧ nmV2 u m s false (nI lo) (nI hi) = nI (10 * (u s - 48) + (u (s + 1) - 48)) := by
  obtain ⟨e3, e4, e5, eV⟩ := nm_n2 hu h hlo hhi hb
  rw [decide_eq_true h2] at e5
  have e6 : nmV2 u m s false (nI lo) (nI hi) = nI (10 * (u s - 48) + (u (s + 1) - 48)) := by
    unfold nmV2
    rw [e5, if_pos rfl]
    exact eV h2.2.1
  refine ⟨?_, e6⟩
  show (nmS2 u m s false (nI lo) (nI hi), nmW2 u m s false (nI lo) (nI hi)) = _
  unfold nmS2 nmW2
  rw [e5, e4, e3, e6, inb_d (by omega) (by omega) (by omega), decide_eq_true h2.2.2]
  rfl
theorem nm_one (hu : ∀ i, i < m → u i < 128) (h : dgA u m s) {lo hi : Nat} (hlo : lo ≤ 31) (hhi : hi ≤ 31) (hb : bgN (u s - 48) lo hi) (h2 : ¬ twN u m s lo hi) :
    nmx u m (s, false) (nI lo) (nI hi) = (s + 1, !(decide (lo ≤ u s - 48 ∧ u s - 48 ≤ hi))) ∧ nmV2 u m s false (nI lo) (nI hi) = nI (u s - 48) := by
  obtain ⟨e3, e4, e5, eV⟩ := nm_n2 hu h hlo hhi hb
  rw [decide_eq_false h2] at e5
  have e6 : nmV2 u m s false (nI lo) (nI hi) = nI (u s - 48) := by
    unfold nmV2
    rw [e5, nmV_d hu h]
    rfl
  refine ⟨?_, e6⟩
  show (nmS2 u m s false (nI lo) (nI hi), nmW2 u m s false (nI lo) (nI hi)) = _
  unfold nmS2 nmW2
  rw [e5, e4, e3, e6, inb_d (by omega) (by omega) (by omega)]
  rfl
theorem nm_wrong (lo hi : Int32) : nmx u m (s, true) lo hi = (s, true) := by
  have e3 : nmW1 u m s true lo hi = true := rfl
  have e4 : nmS1 u m s true lo hi = s := by
    unfold nmS1
    rw [e3]
    rfl
  have e5 : nmN2 u m s true lo hi = false := by
    unfold nmN2
    rw [e3, show ∀ k, nxb u m k true (nI 48) (nI 57) = false from fun _ => rfl, Bool.and_false, Bool.false_and]
  show (nmS2 u m s true lo hi, nmW2 u m s true lo hi) = _
  unfold nmS2 nmW2
  rw [e5, e4, e3]
  rfl
theorem tk_wrong (lo hi : Int32) : tkx u m (s, true) lo hi = (s, true) := rfl
theorem rs_wrong : rsx u m (s, true) = (s, true) := by
  have h1 : nmx u m (s, true) (nI 0) (nI 31) = (s, true) := nm_wrong _ _
  have s1 : rsS1 u m s true = s := congrArg Prod.fst h1
  have w1 : rsW1 u m s true = true := congrArg Prod.snd h1
  have c : rsC u m s true = false := rsC_2 (by rw [w1]; rfl)
  obtain ⟨a1, a2, -⟩ := rs_f c
  show (rsS u m s true, rsW u m s true) = _
  rw [a1, a2, s1, w1]
theorem tk_t (hu : ∀ i, i < m → u i < 128) {a b : Nat} (ha : a < 128) (hb : b < 128) (h : s < m ∧ a ≤ u s ∧ u s ≤ b) : tkx u m (s, false) (nI a) (nI b) = (s + 1, false) ∧ tkv u m s false (nI a) (nI b) = nI (u s - a) := by
  have e : nxb u m s false (nI a) (nI b) = true := by rw [nxb_d hu ha hb, decide_eq_true h]
  refine ⟨?_, ?_⟩
  · show (s + (nxb u m s false (nI a) (nI b)).toNat, false || !(nxb u m s false (nI a) (nI b))) = _
    rw [e]
    rfl
  · unfold tkv
    rw [e, if_pos rfl, pk_sub h.2.1]
theorem tk_f (hu : ∀ i, i < m → u i < 128) {a b : Nat} (ha : a < 128) (hb : b < 128) (h : ¬ (s < m ∧ a ≤ u s ∧ u s ≤ b)) : tkx u m (s, false) (nI a) (nI b) = (s, true) := by
  have e : nxb u m s false (nI a) (nI b) = false := by rw [nxb_d hu ha hb, decide_eq_false h]
  show (s + (nxb u m s false (nI a) (nI b)).toNat, false || !(nxb u m s false (nI a) (nI b))) = _
  rw [e]
  rfl
end
