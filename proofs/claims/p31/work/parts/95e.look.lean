/-! ===== pins, gaps and next pins, as the law counts them ===== -/
theorem bt_lt (b : Bool) : b.toNat < 2 ^ 31 := by cases b <;> decide
theorem bt_1 {b : Bool} (h : b.toNat = 1) : b = true := by cases b <;> first | rfl | (exact absurd h (by decide))
theorem bt_0 {b : Bool} (h : ¬ b.toNat = 1) : b = false := by cases b <;> first | rfl | (exact absurd rfl h)
/-- the first fullest step, the most -/
def fmS (τ : Nat → Nat → Nat) (t : Nat) : Nat → Nat × Nat
  | 0 => (4294967295, 0)
  | k + 1 => (if (fmS τ t k).2 < ones (τ 0 (t * 32 + k)) ∨ (fmS τ t k).1 = 4294967295 then k else (fmS τ t k).1, if (fmS τ t k).2 < ones (τ 0 (t * 32 + k)) then ones (τ 0 (t * 32 + k)) else (fmS τ t k).2)
theorem fm_s (τ : Nat → Nat → Nat) (t k : Nat) : fmS τ t (k + 1) = (if (fmS τ t k).2 < ones (τ 0 (t * 32 + k)) ∨ (fmS τ t k).1 = 4294967295 then k else (fmS τ t k).1, if (fmS τ t k).2 < ones (τ 0 (t * 32 + k)) then ones (τ 0 (t * 32 + k)) else (fmS τ t k).2) := rfl
theorem fm_fl (τ : Nat → Nat → Nat) (t : Nat) : ∀ k, k ≤ 31 → fmS τ t (k + 1) = (flS τ t k, ones (τ 0 (t * 32 + flS τ t k)))
  | 0, _ => by
    rw [fm_s]
    have e0 : fmS τ t 0 = (4294967295, 0) := rfl
    have e1 : flS τ t 0 = 0 := rfl
    rw [e0, e1, if_pos (Or.inr rfl)]
    by_cases q : 0 < ones (τ 0 (t * 32 + 0))
    · rw [if_pos q]
    · rw [if_neg q]
      have : ones (τ 0 (t * 32 + 0)) = 0 := by omega
      rw [this]
  | k + 1, hk => by
    rw [fm_s, fm_fl τ t k (by omega)]
    have hl := flS_le τ t k
    have e : ∀ x, (if ones (τ 0 (t * 32 + flS τ t k)) < ones (τ 0 (t * 32 + (1 + k))) then 1 + k else flS τ t k) = x → flS τ t (k + 1) = x := fun x h => h
    rw [Nat.add_comm 1 k] at e
    by_cases q : ones (τ 0 (t * 32 + flS τ t k)) < ones (τ 0 (t * 32 + (k + 1)))
    · have e1 := e (k + 1) (if_pos q)
      rw [e1]
      show (if _ < _ ∨ _ then _ else _, if _ < _ then _ else _) = _
      rw [if_pos (Or.inl q), if_pos q]
    · have e1 := e (flS τ t k) (if_neg q)
      rw [e1]
      show (if _ < _ ∨ _ then _ else _, if _ < _ then _ else _) = _
      rw [if_neg (fun z => z.elim q (fun z => by have z' : flS τ t k = 4294967295 := z; omega)), if_neg q]
theorem fm_b (τ : Nat → Nat → Nat) (t : Nat) : ∀ k, k ≤ 32 → ((fmS τ t k).1 = 4294967295 ∨ (fmS τ t k).1 < 32) ∧ (fmS τ t k).2 ≤ 32
  | 0, _ => ⟨Or.inl rfl, Nat.zero_le _⟩
  | k + 1, hk => by
    rw [fm_fl τ t k (by omega)]
    have hl := flS_le τ t k
    exact ⟨Or.inr (by show flS τ t k < 32; omega), ones_le _⟩
theorem fm_1 {τ : Nat → Nat → Nat} {t k : Nat} (h : (fmS τ t k).2 < ones (τ 0 (t * 32 + k)) ∨ (fmS τ t k).1 = 4294967295) : nI k = nI (fmS τ t (k + 1)).1 := by
  rw [fm_s]
  show _ = nI (if _ then _ else _)
  rw [if_pos h]
theorem fm_2 {τ : Nat → Nat → Nat} {t k : Nat} (h : ones (τ 0 (t * 32 + k)) ≤ (fmS τ t k).2) (h2 : ¬ (fmS τ t k).1 = 4294967295) : nI (fmS τ t k).1 = nI (fmS τ t (k + 1)).1 := by
  rw [fm_s]
  show _ = nI (if _ then _ else _)
  rw [if_neg (fun z => z.elim (Nat.not_lt.mpr h) h2)]
theorem fm_3 {τ : Nat → Nat → Nat} {t k : Nat} (h : (fmS τ t k).2 < ones (τ 0 (t * 32 + k))) : nI (ones (τ 0 (t * 32 + k))) = nI (fmS τ t (k + 1)).2 := by
  rw [fm_s]
  show _ = nI (if _ then _ else _)
  rw [if_pos h]
theorem fm_4 {τ : Nat → Nat → Nat} {t k : Nat} (h : ones (τ 0 (t * 32 + k)) ≤ (fmS τ t k).2) : nI (fmS τ t k).2 = nI (fmS τ t (k + 1)).2 := by
  rw [fm_s]
  show _ = nI (if _ then _ else _)
  rw [if_neg (Nat.not_lt.mpr h)]
theorem fm_neg {τ : Nat → Nat → Nat} {t k : Nat} (hk : k ≤ 32) (h : ¬ 0 ≤ nI (fmS τ t k).1) : (fmS τ t k).1 = 4294967295 := by
  rcases (fm_b τ t k hk).1 with e | e
  · exact e
  · exact absurd (nI_pos' (by omega)) h
theorem fm_nn {τ : Nat → Nat → Nat} {t k : Nat} (h : 0 ≤ nI (fmS τ t k).1) : ¬ (fmS τ t k).1 = 4294967295 := fun e => by
  rw [e] at h
  exact absurd h (by decide)
def df (p k : Nat) : Nat := if p < k then k - p else p - k
def fr (p k : Nat) : Nat := if 16 < df p k then 32 - df p k else df p k
theorem df_le {p k : Nat} (hp : p < 32) (hk : k < 32) : df p k ≤ 31 := by unfold df; split <;> omega
theorem df_1 {p k : Nat} (h : p < k) : nI (k - p) = nI (df p k) := by unfold df; rw [if_pos h]
theorem df_2 {p k : Nat} (h : k ≤ p) : nI (p - k) = nI (df p k) := by unfold df; rw [if_neg (by omega)]
theorem fr_1 {p k : Nat} (h : 16 < df p k) : nI (32 - df p k) = nI (fr p k) := by unfold fr; rw [if_pos h]
theorem fr_2 {p k : Nat} (h : df p k ≤ 16) : nI (df p k) = nI (fr p k) := by unfold fr; rw [if_neg (by omega)]
theorem fr_le {p k : Nat} (hp : p < 32) (hk : k < 32) : fr p k ≤ 31 := by
  have := df_le hp hk
  unfold fr
  split <;> omega
/-- a pin near the step -/
def nrq (τ : Nat → Nat → Nat) (t j p k : Nat) : Bool := !decide (k = p) && (decide (fr p k < τ 6 3) && hb τ t j k)
theorem nrq_1 {τ : Nat → Nat → Nat} {t j p k : Nat} (h : k = p) : nI 0 = nI (nrq τ t j p k).toNat := by
  unfold nrq; rw [decide_eq_true h]; rfl
theorem nrq_2 {τ : Nat → Nat → Nat} {t j p k : Nat} (h : τ 6 3 ≤ fr p k) : nI 0 = nI (nrq τ t j p k).toNat := by
  unfold nrq; rw [decide_eq_false (Nat.not_lt.mpr h), Bool.false_and, Bool.and_false]; rfl
theorem nrq_3 {τ : Nat → Nat → Nat} {t j p k : Nat} (h : hb τ t j k = false) : nI 0 = nI (nrq τ t j p k).toNat := by
  unfold nrq; rw [h, Bool.and_false, Bool.and_false]; rfl
theorem nrq_4 {τ : Nat → Nat → Nat} {t j p k : Nat} (h1 : ¬ k = p) (h2 : fr p k < τ 6 3) (h3 : hb τ t j k = true) : nI 1 = nI (nrq τ t j p k).toNat := by
  unfold nrq; rw [decide_eq_false h1, decide_eq_true h2, h3]; rfl
theorem ct_pos {f : Nat → Bool} : ∀ n, 0 < ct f n ↔ ∃ k, k < n ∧ f k = true
  | 0 => by
    constructor
    · intro h; exact absurd h (Nat.lt_irrefl 0)
    · rintro ⟨k, hk, -⟩; omega
  | n + 1 => by
    show 0 < ct f n + (f n).toNat ↔ _
    have ih := ct_pos (f := f) n
    constructor
    · intro h
      cases c : f n
      · rw [c] at h
        have h' : 0 < ct f n := h
        obtain ⟨k, hk, q⟩ := ih.mp h'
        exact ⟨k, by omega, q⟩
      · exact ⟨n, Nat.lt_succ_self n, c⟩
    · rintro ⟨k, hk, q⟩
      by_cases e : k = n
      · subst e; rw [q]; exact Nat.succ_pos _
      · have := ih.mpr ⟨k, by omega, q⟩
        omega
theorem nrS_iff {τ : Nat → Nat → Nat} {t j p : Nat} : ∀ n, nrS τ t j p n = true ↔ ∃ d, 1 ≤ d ∧ d ≤ n ∧ (hb τ t j ((p + d) % 32) = true ∨ hb τ t j ((p + 32 - d) % 32) = true)
  | 0 => by
    constructor
    · intro h; cases h
    · rintro ⟨d, h1, h2, -⟩; omega
  | n + 1 => by
    show (nrS τ t j p n || hb τ t j ((p + (1 + n)) % 32) || hb τ t j ((p + 32 - (1 + n)) % 32)) = true ↔ _
    rw [Bool.or_eq_true, Bool.or_eq_true, nrS_iff n]
    constructor
    · rintro ((⟨d, h1, h2, h3⟩ | h) | h)
      · exact ⟨d, h1, by omega, h3⟩
      · exact ⟨1 + n, by omega, by omega, Or.inl h⟩
      · exact ⟨1 + n, by omega, by omega, Or.inr h⟩
    · rintro ⟨d, h1, h2, h3⟩
      by_cases e : d = 1 + n
      · subst e
        rcases h3 with h3 | h3
        · exact Or.inl (Or.inr h3)
        · exact Or.inr h3
      · exact Or.inl (Or.inl ⟨d, h1, by omega, h3⟩)
theorem nr_iff {τ : Nat → Nat → Nat} {t j p : Nat} (hp : p < 32) (h8 : τ 6 3 ≤ 8) : nrS τ t j p (τ 6 3 - 1) = true ↔ 0 < ct (nrq τ t j p) 32 := by
  rw [nrS_iff, ct_pos]
  constructor
  · rintro ⟨d, h1, h2, h3⟩
    have key : ∀ k, k < 32 → k ≠ p → fr p k < τ 6 3 → hb τ t j k = true → ∃ k, k < 32 ∧ nrq τ t j p k = true := fun k a1 a2 a3 a4 => ⟨k, a1, by unfold nrq; rw [decide_eq_false a2, decide_eq_true a3, a4]; rfl⟩
    rcases h3 with h3 | h3
    · refine key ((p + d) % 32) (Nat.mod_lt _ (by decide)) (by omega) ?_ h3
      unfold fr df
      split <;> split <;> omega
    · refine key ((p + 32 - d) % 32) (Nat.mod_lt _ (by decide)) (by omega) ?_ h3
      unfold fr df
      split <;> split <;> omega
  · rintro ⟨k, hk, h⟩
    unfold nrq at h
    obtain ⟨a1, a2⟩ := and_true_iff' h
    obtain ⟨a2, a3⟩ := and_true_iff' a2
    have b1 : ¬ k = p := by
      intro e
      rw [decide_eq_true e] at a1
      cases a1
    have b2 : fr p k < τ 6 3 := of_decide_eq_true a2
    refine ⟨fr p k, ?_, by omega, ?_⟩
    · unfold fr df
      split <;> split <;> omega
    · have hd := df_le hp hk
      by_cases c : (p + fr p k) % 32 = k
      · left; rw [c]; exact a3
      · right
        have : (p + 32 - fr p k) % 32 = k := by
          revert c
          unfold fr df
          split <;> split <;> intro c <;> omega
        rw [this]; exact a3
theorem hi_1 {τ : Nat → Nat → Nat} {t j p : Nat} (h : hb τ t j p = true) : nI 1 = nI (hiS' τ t j p) := by unfold hiS'; rw [if_pos h]
theorem hi_2 {τ : Nat → Nat → Nat} {t j p : Nat} (hp : p < 32) (h8 : τ 6 3 ≤ 8) (h : hb τ t j p = false) (h2 : 0 < ct (nrq τ t j p) 32) : nI 2 = nI (hiS' τ t j p) := by
  unfold hiS'; rw [if_neg (by rw [h]; decide), if_pos ((nr_iff hp h8).mpr h2)]
theorem hi_n {τ : Nat → Nat → Nat} {t j p : Nat} (hp : p < 32) (h8 : τ 6 3 ≤ 8) (h2 : ct (nrq τ t j p) 32 = 0) : ¬ nrS τ t j p (τ 6 3 - 1) = true := fun q => by
  have := (nr_iff hp h8).mp q
  omega
theorem hi_3 {τ : Nat → Nat → Nat} {t j p : Nat} (hp : p < 32) (h8 : τ 6 3 ≤ 8) (h : hb τ t j p = false) (h2 : ct (nrq τ t j p) 32 = 0) (h3 : τ 6 4 ≤ ones (τ 0 (t * 32 + p))) : nI 3 = nI (hiS' τ t j p) := by
  unfold hiS'; rw [if_neg (by rw [h]; decide), if_neg (hi_n hp h8 h2), if_pos h3]
theorem hi_4 {τ : Nat → Nat → Nat} {t j p : Nat} (hp : p < 32) (h8 : τ 6 3 ≤ 8) (h : hb τ t j p = false) (h2 : ct (nrq τ t j p) 32 = 0) (h3 : ones (τ 0 (t * 32 + p)) < τ 6 4) : nI 0 = nI (hiS' τ t j p) := by
  unfold hiS'; rw [if_neg (by rw [h]; decide), if_neg (hi_n hp h8 h2), if_neg (by omega)]
/-- the next pin -/
theorem nf_is {τ : Nat → Nat → Nat} {t j p : Nat} : ∀ n i, (nfS τ t j p i n = 4294967295 ∧ ∀ q, i ≤ q → q < i + n → hb τ t j ((p + q) % 32) = false) ∨ (∃ q, i ≤ q ∧ q < i + n ∧ nfS τ t j p i n = (p + q) % 32 ∧ hb τ t j ((p + q) % 32) = true ∧ ∀ r, i ≤ r → r < q → hb τ t j ((p + r) % 32) = false)
  | 0, i => Or.inl ⟨rfl, fun q h1 h2 => by omega⟩
  | n + 1, i => by
    cases c : hb τ t j ((p + i) % 32)
    · have e : nfS τ t j p i (n + 1) = nfS τ t j p (i + 1) n := if_neg (by rw [c]; decide)
      rw [e]
      rcases nf_is n (i + 1) with ⟨h1, h2⟩ | ⟨q, h1, h2, h3, h4, h5⟩
      · refine Or.inl ⟨h1, fun q a b => ?_⟩
        by_cases e : q = i
        · subst e; exact c
        · exact h2 q (by omega) (by omega)
      · refine Or.inr ⟨q, by omega, by omega, h3, h4, fun r a b => ?_⟩
        by_cases e : r = i
        · subst e; exact c
        · exact h5 r (by omega) b
    · have e : nfS τ t j p i (n + 1) = (p + i) % 32 := if_pos c
      exact Or.inr ⟨i, Nat.le_refl i, by omega, e, c, fun r a b => by omega⟩
theorem nf_all {τ : Nat → Nat → Nat} {t j p : Nat} (hp : p < 32) : (nfS τ t j p 0 32 = 4294967295 ∧ ∀ k, k < 32 → hb τ t j k = false) ∨ (nfS τ t j p 0 32 < 32 ∧ hb τ t j (nfS τ t j p 0 32) = true ∧ ∃ q, q < 32 ∧ nfS τ t j p 0 32 = (p + q) % 32 ∧ ∀ r, r < q → hb τ t j ((p + r) % 32) = false) := by
  rcases nf_is (τ := τ) (t := t) (j := j) (p := p) 32 0 with ⟨h1, h2⟩ | ⟨q, h1, h2, h3, h4, h5⟩
  · refine Or.inl ⟨h1, fun k hk => ?_⟩
    have := h2 ((k + 32 - p) % 32) (Nat.zero_le _) (by have := Nat.mod_lt (k + 32 - p) (show 0 < 32 by decide); omega)
    rw [show (p + (k + 32 - p) % 32) % 32 = k by omega] at this
    exact this
  · refine Or.inr ⟨by rw [h3]; exact Nat.mod_lt _ (by decide), by rw [h3]; exact h4, q, by omega, h3, fun r hr => h5 r (Nat.zero_le _) hr⟩
theorem nf_lt {τ : Nat → Nat → Nat} {t j p : Nat} (hp : p < 32) : nfS τ t j p 0 32 < 2 ^ 32 := by
  rcases nf_all (τ := τ) (t := t) (j := j) hp with ⟨h, -⟩ | ⟨h, -⟩ <;> omega
theorem nf_ok {τ : Nat → Nat → Nat} {t j p : Nat} (hp : p < 32) (h : ¬ nfS τ t j p 0 32 = 4294967295) : nfS τ t j p 0 32 < 32 ∧ hb τ t j (nfS τ t j p 0 32) = true := by
  rcases nf_all (τ := τ) (t := t) (j := j) hp with ⟨q, -⟩ | ⟨a, b, -⟩
  · exact absurd q h
  · exact ⟨a, b⟩
theorem nf_no {τ : Nat → Nat → Nat} {t j p : Nat} (hp : p < 32) (h : nfS τ t j p 0 32 = 4294967295) : ∀ k, k < 32 → hb τ t j k = false := by
  rcases nf_all (τ := τ) (t := t) (j := j) hp with ⟨-, q⟩ | ⟨a, -⟩
  · exact q
  · omega
theorem nf_tu {τ : Nat → Nat → Nat} {t j p : Nat} (hp : p < 32) (h : nfS τ t j p 0 32 = 4294967295) : (tuS τ t 32).testBit j = false := by
  cases c : (tuS τ t 32).testBit j
  · rfl
  · obtain ⟨k, hk, q⟩ := (tuS_bit τ t j 32).mp c
    have := nf_no hp h k hk
    unfold hb at this
    rw [q] at this
    cases this
theorem nf_neg {τ : Nat → Nat → Nat} {t j p : Nat} (hp : p < 32) (h : ¬ nI (nfS τ t j p 0 32) < 0) : ¬ nfS τ t j p 0 32 = 4294967295 := fun e => by
  rw [e] at h
  exact h (by decide)
theorem nf_go {τ : Nat → Nat → Nat} {t j p i : Nat} (hp : p < 32) (h : ¬ nI (nfS τ t j p 0 32) < 0) (hi : ∀ q, q < i → hb τ t j ((p + q) % 32) = false) (hn : ¬ nI ((p + i) % 32) = nI (nfS τ t j p 0 32)) : i < 31 ∧ hb τ t j ((p + i) % 32) = false := by
  rcases nf_all (τ := τ) (t := t) (j := j) hp with ⟨q, -⟩ | ⟨a, b, q, h1, h2, h3⟩
  · exact absurd q (nf_neg hp h)
  · have hiq : i ≤ q := Nat.le_of_not_lt fun z => by
      have := hi q z
      rw [← h2, b] at this
      cases this
    have hne : i ≠ q := fun e => hn (by rw [e, ← h2])
    exact ⟨by omega, h3 i (by omega)⟩
theorem po_pb {τ : Nat → Nat → Nat} {t : Nat} (hg : ∀ k, k < 96 → τ 0 k < 4096) (ht : t < 3) : pbA τ t 12 = poS τ t 32 := by
  have e1 : poS τ t 32 = sm (fun p => ct (fun j => hb τ t j p) 12) 32 := sm_congr 32 (fun p hp => ones12 (hg _ (by omega)))
  rw [e1, ct_swap (fun p j => hb τ t j p) 32 12]
  rfl
theorem po_le (τ : Nat → Nat → Nat) (t : Nat) : poS τ t 32 ≤ 1024 := sm_le (fun _ => ones_le _) 32
theorem pa_3 (τ : Nat → Nat → Nat) : poS τ 0 32 + poS τ 1 32 + poS τ 2 32 = paS τ 3 := by
  show _ = 0 + poS τ 0 32 + poS τ 1 32 + poS τ 2 32
  omega
/-- the gaps of a tooth -/
theorem wg_is {τ : Nat → Nat → Nat} {t j : Nat} : ∀ k, k ≤ 32 → (wgS τ t j k = (4294967295, 4294967295, 0) ∧ ∀ p, p < k → hb τ t j p = false) ∨ (∃ f g w, wgS τ t j k = (f, g, w) ∧ f ≤ g ∧ g < k ∧ w ≤ g - f ∧ hb τ t j f = true ∧ (∀ p, p < f → hb τ t j p = false) ∧ (∀ p, g < p → p < k → hb τ t j p = false))
  | 0, _ => Or.inl ⟨rfl, fun p hp => absurd hp (Nat.not_lt_zero p)⟩
  | k + 1, hk => by
    cases c : hb τ t j k
    · rcases wg_is (τ := τ) (t := t) (j := j) k (by omega) with ⟨h1, h2⟩ | ⟨f, g, w, h1, h2, h3, h4, h5, h6, h7⟩
      · refine Or.inl ⟨wgS_n h1 c, fun p hp => ?_⟩
        by_cases e : p = k
        · subst e; exact c
        · exact h2 p (by omega)
      · refine Or.inr ⟨f, g, w, wgS_n h1 c, h2, by omega, h4, h5, h6, fun p a b => ?_⟩
        by_cases e : p = k
        · subst e; exact c
        · exact h7 p a (by omega)
    · rcases wg_is (τ := τ) (t := t) (j := j) k (by omega) with ⟨h1, h2⟩ | ⟨f, g, w, h1, h2, h3, h4, h5, h6, h7⟩
      · exact Or.inr ⟨k, k, 0, wgS_1 h1 c rfl, Nat.le_refl k, Nat.lt_succ_self k, Nat.zero_le _, c, fun p hp => h2 p hp, fun p a b => by omega⟩
      · exact Or.inr ⟨f, k, max w (k - g), wgS_2 h1 c (by omega), by omega, Nat.lt_succ_self k, by omega, h5, h6, fun p a b => by omega⟩
theorem wn_is {τ : Nat → Nat → Nat} {t j : Nat} : (wgN (wgS τ t j 32) = 0 ∧ ∀ p, p < 32 → hb τ t j p = false) ∨ (0 < wgN (wgS τ t j 32) ∧ wgN (wgS τ t j 32) ≤ 32 ∧ ∃ f, f < 32 ∧ hb τ t j f = true ∧ (32 ≤ wgN (wgS τ t j 32) → ∀ p, p < 32 → hb τ t j p = true → p = f)) := by
  rcases wg_is (τ := τ) (t := t) (j := j) 32 (Nat.le_refl _) with ⟨h1, h2⟩ | ⟨f, g, w, h1, h2, h3, h4, h5, h6, h7⟩
  · exact Or.inl ⟨by rw [h1]; rfl, h2⟩
  · have e : wgN (wgS τ t j 32) = max w (f + 32 - g) := by rw [h1]; exact if_neg (by show ¬ f = 4294967295; omega)
    rw [e]
    refine Or.inr ⟨by omega, by omega, f, by omega, h5, fun h32 p hp hb => ?_⟩
    have hfg : f = g := by omega
    subst hfg
    rcases Nat.lt_trichotomy p f with q | q | q
    · rw [h6 p q] at hb; cases hb
    · exact q
    · rw [h7 p q hp] at hb; cases hb
theorem wn_le {τ : Nat → Nat → Nat} {t j : Nat} : wgN (wgS τ t j 32) ≤ 32 := by
  rcases wn_is (τ := τ) (t := t) (j := j) with ⟨h, -⟩ | ⟨-, h, -⟩ <;> omega
theorem wn_no {τ : Nat → Nat → Nat} {t j p : Nat} (hp : p < 32) (h : wgN (wgS τ t j 32) = 0) : nI (nfS τ t j p 0 32) < 0 := by
  rcases wn_is (τ := τ) (t := t) (j := j) with ⟨-, q⟩ | ⟨q, -⟩
  · rcases nf_all (τ := τ) (t := t) (j := j) hp with ⟨e, -⟩ | ⟨a, b, -⟩
    · rw [e]; decide
    · rw [q _ a] at b; cases b
  · omega
theorem wn_ok {τ : Nat → Nat → Nat} {t j p : Nat} (hp : p < 32) (h : 0 < wgN (wgS τ t j 32)) : nfS τ t j p 0 32 < 32 ∧ hb τ t j (nfS τ t j p 0 32) = true := by
  rcases wn_is (τ := τ) (t := t) (j := j) with ⟨q, -⟩ | ⟨-, -, f, hf, hbf, -⟩
  · omega
  · refine nf_ok hp (fun e => ?_)
    rw [nf_no hp e f hf] at hbf
    cases hbf
theorem wn_yes {τ : Nat → Nat → Nat} {t j p : Nat} (hp : p < 32) (h : 0 < wgN (wgS τ t j 32)) : ¬ nI (nfS τ t j p 0 32) < 0 := nI_pos (by have := (wn_ok hp h).1; omega)
theorem wn_32 {τ : Nat → Nat → Nat} {t j p q : Nat} (hp : p < 32) (hq : q < 32) (h : 32 ≤ wgN (wgS τ t j 32)) : nfS τ t j p 0 32 = nfS τ t j q 0 32 := by
  obtain ⟨a1, a2⟩ := wn_ok hp (show 0 < wgN (wgS τ t j 32) by omega)
  obtain ⟨b1, b2⟩ := wn_ok hq (show 0 < wgN (wgS τ t j 32) by omega)
  rcases wn_is (τ := τ) (t := t) (j := j) with ⟨z, -⟩ | ⟨-, -, f, hf, hbf, hz⟩
  · omega
  · rw [hz h _ a1 a2, hz h _ b1 b2]
