/-! ===== what p31 asks of a State: what it keeps to ===== -/
/-- all but the spring's account -/
def Iw (τ : Nat → Nat → Nat) (T : Nat) : Prop :=
  okS τ T ∧ τ 11 = kc (τ 11 0) ∧ (τ 13 0 ≤ T ∧ τ 16 0 ≤ T ∧ 2 * τ 13 0 ≤ τ 12 0) ∧ (∀ j, j < 12 → τ 1 j ≤ τ 12 0 + 90) ∧ (∀ j, j < 12 → (τ 7 0).testBit j = true → τ 1 j ≤ τ 12 0) ∧ sm (τ 3) 12 = τ 14 0 ∧
  (∀ b, b < 24 → b < τ 14 0 → τ 4 ((τ 14 0 - 1 - b) % 24) < 12 ∧ τ 5 ((τ 14 0 - 1 - b) % 24) ≤ τ 12 0) ∧ (∀ b, b + 1 < 24 → b + 1 < τ 14 0 → τ 5 ((τ 14 0 - 1 - (b + 1)) % 24) ≤ τ 5 ((τ 14 0 - 1 - b) % 24))
def Iv (τ : Nat → Nat → Nat) (T : Nat) : Prop := Iw τ T ∧ τ 14 0 + τ 13 0 ≤ τ 16 0
theorem Iw.mono {τ : Nat → Nat → Nat} {T U : Nat} (h : Iw τ T) (hT : T ≤ U) : Iw τ U := by
  obtain ⟨h1, h2, ⟨h3, h4, h5⟩, h6⟩ := h
  exact ⟨h1.mono hT, h2, ⟨by omega, by omega, h5⟩, h6⟩
theorem Iv.mono {τ : Nat → Nat → Nat} {T U : Nat} (h : Iv τ T) (hT : T ≤ U) : Iv τ U := ⟨h.1.mono hT, h.2⟩
theorem sm_fu {f : Nat → Nat} {j : Nat} : ∀ n, sm (fu f j (f j + 1)) n = sm f n + (if j < n then 1 else 0)
  | 0 => rfl
  | n + 1 => by
    show sm (fu f j (f j + 1)) n + fu f j (f j + 1) n = sm f n + f n + _
    rw [sm_fu n]
    by_cases e : n = j
    · subst e
      rw [fu_at, if_neg (Nat.lt_irrefl n), if_pos (Nat.lt_succ_self n)]
      omega
    · rw [fu_ne e]
      by_cases q : j < n
      · rw [if_pos q, if_pos (by omega)]; omega
      · rw [if_neg q, if_neg (by omega)]; omega
theorem Iw.pl {τ : Nat → Nat → Nat} {T j : Nat} (h : Iw τ T) (hj : j < 12) (hb : (τ 7 0).testBit j = false) : Iw (plS τ j) (T + 1) := by
  obtain ⟨h1, h2, ⟨h3, h4, h5⟩, h6, h7, h8, h9, h10⟩ := h
  have h60 : τ 6 0 ≤ 90 := h1.2.2.2.1.1
  refine ⟨plS_ok h1, h2, ⟨Nat.le_succ_of_le h3, Nat.le_succ_of_le h4, h5⟩, ?_, ?_, ?_, ?_, ?_⟩
  · intro i hi
    show fu (τ 1) j (τ 12 0 + max 4 (τ 6 0 - 2 * j)) i ≤ τ 12 0 + 90
    by_cases e : i = j
    · subst e; rw [fu_at]; omega
    · rw [fu_ne e]; exact h6 i hi
  · intro i hi hbi
    have hbi' : (τ 7 0).testBit i = true := hbi
    show fu (τ 1) j (τ 12 0 + max 4 (τ 6 0 - 2 * j)) i ≤ τ 12 0
    by_cases e : i = j
    · subst e; rw [hb] at hbi'; cases hbi'
    · rw [fu_ne e]; exact h7 i hi hbi'
  · show sm (fu (τ 3) j (τ 3 j + 1)) 12 = τ 14 0 + 1
    rw [sm_fu, if_pos hj, h8]
  · intro b hb24 hbn
    have hbn' : b < τ 14 0 + 1 := hbn
    show fu (τ 4) (τ 14 0 % 24) j ((τ 14 0 + 1 - 1 - b) % 24) < 12 ∧ fu (τ 5) (τ 14 0 % 24) (τ 12 0) ((τ 14 0 + 1 - 1 - b) % 24) ≤ τ 12 0
    match b, hb24, hbn' with
    | 0, _, _ =>
      rw [show (τ 14 0 + 1 - 1 - 0) % 24 = τ 14 0 % 24 from rfl, fu_at, fu_at]
      exact ⟨hj, Nat.le_refl _⟩
    | b + 1, hb24, hbn' =>
      have e : (τ 14 0 + 1 - 1 - (b + 1)) % 24 = (τ 14 0 - 1 - b) % 24 := by congr 1; omega
      have ne : (τ 14 0 - 1 - b) % 24 ≠ τ 14 0 % 24 := by omega
      rw [e, fu_ne ne, fu_ne ne]
      exact h9 b (by omega) (by omega)
  · intro b hb24 hbn
    have hbn' : b + 1 < τ 14 0 + 1 := hbn
    show fu (τ 5) (τ 14 0 % 24) (τ 12 0) ((τ 14 0 + 1 - 1 - (b + 1)) % 24) ≤ fu (τ 5) (τ 14 0 % 24) (τ 12 0) ((τ 14 0 + 1 - 1 - b) % 24)
    have e : (τ 14 0 + 1 - 1 - (b + 1)) % 24 = (τ 14 0 - 1 - b) % 24 := by congr 1; omega
    have ne : (τ 14 0 - 1 - b) % 24 ≠ τ 14 0 % 24 := by omega
    rw [e, fu_ne ne]
    match b, hb24, hbn', ne with
    | 0, _, hbn', _ =>
      rw [show (τ 14 0 + 1 - 1 - 0) % 24 = τ 14 0 % 24 from rfl, fu_at]
      exact (h9 0 (by decide) (by omega)).2
    | b + 1, hb24, hbn', _ =>
      have e2 : (τ 14 0 + 1 - 1 - (b + 1)) % 24 = (τ 14 0 - 1 - b) % 24 := by congr 1; omega
      have ne2 : (τ 14 0 - 1 - b) % 24 ≠ τ 14 0 % 24 := by omega
      rw [e2, fu_ne ne2]
      exact h10 b (by omega) (by omega)
theorem sq_w {τ : Nat → Nat → Nat} {j : Nat} (h : τ 2 j < 9) : sqS τ j = pu (pu τ 15 (kc (τ 15 0 + 1))) 2 (fu (τ 2) j (τ 2 j + 1)) := if_pos h
theorem sq_b {τ : Nat → Nat → Nat} {j : Nat} (h : ¬ τ 2 j < 9) : sqS τ j = pu (pu (pu τ 15 (kc (τ 15 0 + 1))) 7 (kc (τ 7 0 ||| 2 ^ j))) 1 (fu (τ 1) j (τ 12 0)) := if_neg h
theorem bit_or {x j : Nat} : (x ||| 2 ^ j).testBit j = true := by
  rw [Nat.testBit_or, Nat.testBit_two_pow]; simp
theorem bit_or_ne {x i j : Nat} (h : i ≠ j) : (x ||| 2 ^ j).testBit i = x.testBit i := by
  rw [Nat.testBit_or, Nat.testBit_two_pow]
  have : ¬ j = i := fun e => h e.symm
  simp [this]
theorem Iw.wear {τ : Nat → Nat → Nat} {T j : Nat} (h : Iw τ T) (hj : j < 12) (h9 : τ 2 j < 9) : Iw (sqS τ j) (T + 1) := by
  have ok := sqS_ok h.1 hj
  rw [sq_w h9] at ok ⊢
  obtain ⟨h1, h2, ⟨h3, h4, h5⟩, h6⟩ := h
  exact ⟨ok, h2, ⟨Nat.le_succ_of_le h3, Nat.le_succ_of_le h4, h5⟩, h6⟩
theorem Iw.brk {τ : Nat → Nat → Nat} {T j : Nat} (h : Iw τ T) (hj : j < 12) (h9 : ¬ τ 2 j < 9) : Iw (sqS τ j) (T + 1) := by
  have ok := sqS_ok h.1 hj
  rw [sq_b h9] at ok ⊢
  obtain ⟨h1, h2, ⟨h3, h4, h5⟩, h6, h7, h8⟩ := h
  refine ⟨ok, h2, ⟨Nat.le_succ_of_le h3, Nat.le_succ_of_le h4, h5⟩, ?_, ?_, h8⟩
  · intro i hi
    show fu (τ 1) j (τ 12 0) i ≤ τ 12 0 + 90
    by_cases e : i = j
    · subst e; rw [fu_at]; omega
    · rw [fu_ne e]; exact h6 i hi
  · intro i hi hbi
    have hbi' : (τ 7 0 ||| 2 ^ j).testBit i = true := hbi
    show fu (τ 1) j (τ 12 0) i ≤ τ 12 0
    by_cases e : i = j
    · subst e; rw [fu_at]; exact Nat.le_refl _
    · rw [fu_ne e]
      rw [bit_or_ne e] at hbi'
      exact h7 i hi hbi'
/-- a strike: the tooth sounds, or it breaks -/
def srO (τ υ : Nat → Nat → Nat) (j : Nat) : Prop :=
  (∀ i, (i = 0 ∨ i = 6 ∨ (8 ≤ i ∧ i ≤ 13) ∨ i = 16) → υ i = τ i) ∧
  ((υ 14 0 = τ 14 0 + 1 ∧ υ 7 0 = τ 7 0 ∧ (υ 15 0 = τ 15 0 ∨ υ 15 0 = τ 15 0 + 1) ∧ υ 4 = fu (τ 4) (τ 14 0 % 24) j ∧ υ 5 = fu (τ 5) (τ 14 0 % 24) (τ 12 0) ∧ υ 1 = fu (τ 1) j (τ 12 0 + max 4 (τ 6 0 - 2 * j)))
  ∨ (υ 14 0 = τ 14 0 ∧ υ 7 0 = τ 7 0 ||| 2 ^ j ∧ υ 15 0 = τ 15 0 + 1 ∧ υ 4 = τ 4 ∧ υ 5 = τ 5 ∧ υ 1 = fu (τ 1) j (τ 12 0)))
theorem i_cases {P : Nat → Prop} (h0 : P 0) (h6 : P 6) (h8 : P 8) (h9 : P 9) (h10 : P 10) (h11 : P 11) (h12 : P 12) (h13 : P 13) (h16 : P 16) : ∀ i, (i = 0 ∨ i = 6 ∨ (8 ≤ i ∧ i ≤ 13) ∨ i = 16) → P i := by
  intro i hi
  rcases hi with rfl | rfl | ⟨a, b⟩ | rfl
  · exact h0
  · exact h6
  · rcases (show i = 8 ∨ i = 9 ∨ i = 10 ∨ i = 11 ∨ i = 12 ∨ i = 13 by omega) with rfl | rfl | rfl | rfl | rfl | rfl
    · exact h8
    · exact h9
    · exact h10
    · exact h11
    · exact h12
    · exact h13
  · exact h16
theorem sr_out {τ : Nat → Nat → Nat} {T j : Nat} (h : Iw τ T) (hj : j < 12) (hb : (τ 7 0).testBit j = false) (w : Nat) : Iw (srS τ j w) (T + 2) ∧ srO τ (srS τ j w) j := by
  unfold srS stS
  by_cases c : 0 < τ 1 j - τ 12 0 ∧ ¬ τ 6 1 + τ 2 j < w
  · rw [if_pos c]
    by_cases h9 : τ 2 j < 9
    · have e7 : (sqS τ j 7 0).testBit j = false := by rw [sq_w h9]; exact hb
      rw [if_neg (by rw [e7]; decide)]
      refine ⟨(h.wear hj h9).pl hj e7, ?_⟩
      rw [sq_w h9]
      exact ⟨i_cases rfl rfl rfl rfl rfl rfl rfl rfl rfl, Or.inl ⟨rfl, rfl, Or.inr rfl, rfl, rfl, rfl⟩⟩
    · have e7 : (sqS τ j 7 0).testBit j = true := by rw [sq_b h9]; exact bit_or
      rw [if_pos e7]
      refine ⟨(h.brk hj h9).mono (by omega), ?_⟩
      rw [sq_b h9]
      exact ⟨i_cases rfl rfl rfl rfl rfl rfl rfl rfl rfl, Or.inr ⟨rfl, rfl, rfl, rfl, rfl, rfl⟩⟩
  · rw [if_neg c, if_neg (by rw [hb]; decide)]
    exact ⟨(h.pl hj hb).mono (by omega), i_cases rfl rfl rfl rfl rfl rfl rfl rfl rfl, Or.inl ⟨rfl, rfl, Or.inl rfl, rfl, rfl, rfl⟩⟩
theorem ct_or {x j : Nat} (hb : x.testBit j = false) : ∀ n, ct (fun i => (x ||| 2 ^ j).testBit i) n = ct (fun i => x.testBit i) n + (if j < n then 1 else 0)
  | 0 => rfl
  | n + 1 => by
    show ct (fun i => (x ||| 2 ^ j).testBit i) n + ((x ||| 2 ^ j).testBit n).toNat = ct (fun i => x.testBit i) n + (x.testBit n).toNat + _
    rw [ct_or hb n]
    by_cases e : n = j
    · subst e
      rw [bit_or, hb, if_neg (Nat.lt_irrefl n), if_pos (Nat.lt_succ_self n)]
      rfl
    · rw [bit_or_ne e]
      by_cases q : j < n
      · rw [if_pos q, if_pos (by omega)]; omega
      · rw [if_neg q, if_neg (by omega)]; omega
theorem ones_or {x j : Nat} (hj : j < 32) (hb : x.testBit j = false) : ones (x ||| 2 ^ j) = ones x + 1 := by
  unfold ones
  rw [ct_or hb, if_pos hj]
/-- k teeth have been looked at, u is what came of it -/
def SKq (τ u : Nat → Nat → Nat) (x k : Nat) : Prop :=
  (∀ i, (i = 0 ∨ i = 6 ∨ (8 ≤ i ∧ i ≤ 13) ∨ i = 16) → u i = τ i) ∧ (τ 14 0 ≤ u 14 0 ∧ τ 15 0 ≤ u 15 0 ∧ ones (τ 7 0) ≤ ones (u 7 0)) ∧
  ((u 14 0 - τ 14 0) + (ones (u 7 0) - ones (τ 7 0)) = ct (fun i => x.testBit i) k ∧ ones (u 7 0) - ones (τ 7 0) ≤ u 15 0 - τ 15 0 ∧ u 15 0 - τ 15 0 ≤ ct (fun i => x.testBit i) k) ∧
  (∀ j, k ≤ j → (u 7 0).testBit j = (τ 7 0).testBit j) ∧
  (∀ b, b < u 14 0 - τ 14 0 → u 4 ((u 14 0 - 1 - b) % 24) < k ∧ x.testBit (u 4 ((u 14 0 - 1 - b) % 24)) = true ∧ u 5 ((u 14 0 - 1 - b) % 24) = τ 12 0 ∧ τ 12 0 + 4 ≤ u 1 (u 4 ((u 14 0 - 1 - b) % 24)) ∧ (∀ b', b' < b → u 4 ((u 14 0 - 1 - b) % 24) < u 4 ((u 14 0 - 1 - b') % 24)))
theorem sk_out {τ : Nat → Nat → Nat} {T x w : Nat} (h : Iw τ T) (hx : ∀ j, j < 12 → x.testBit j = true → (τ 7 0).testBit j = false) : ∀ k, k ≤ 12 → Iw (skS τ x w k) (T + 2 * k) ∧ SKq τ (skS τ x w k) x k
  | 0, _ => ⟨h, fun _ _ => rfl, ⟨Nat.le_refl _, Nat.le_refl _, Nat.le_refl _⟩, ⟨by show τ 14 0 - τ 14 0 + (ones (τ 7 0) - ones (τ 7 0)) = 0; omega, by show ones (τ 7 0) - ones (τ 7 0) ≤ τ 15 0 - τ 15 0; omega, by show τ 15 0 - τ 15 0 ≤ 0; omega⟩, fun _ _ => rfl, fun b hb => by have : b < τ 14 0 - τ 14 0 := hb; omega⟩
  | k + 1, hk => by
    obtain ⟨i1, q1, ⟨q2, q3, q4⟩, ⟨q5, q6, q7⟩, q8, q9⟩ := sk_out h hx (w := w) k (by omega)
    have e12 : skS τ x w k 12 0 = τ 12 0 := by rw [q1 12 (by omega)]
    have hle : ct (fun i => x.testBit i) k ≤ k := ct_le _ k
    have hct : ct (fun i => x.testBit i) (k + 1) = ct (fun i => x.testBit i) k + (x.testBit k).toNat := rfl
    cases c : x.testBit k
    · rw [skS_f c]
      rw [c] at hct
      have hct' : ct (fun i => x.testBit i) (k + 1) = ct (fun i => x.testBit i) k := hct
      refine ⟨i1.mono (by omega), q1, ⟨q2, q3, q4⟩, ⟨by rw [hct']; exact q5, q6, by rw [hct']; exact q7⟩, fun j hj => q8 j (by omega), fun b hb => ?_⟩
      obtain ⟨r1, r2⟩ := q9 b hb
      exact ⟨by omega, r2⟩
    · rw [skS_t c]
      rw [c] at hct
      have hct' : ct (fun i => x.testBit i) (k + 1) = ct (fun i => x.testBit i) k + 1 := hct
      generalize skS τ x w k = u at *
      have hb7 : (u 7 0).testBit k = false := by rw [q8 k (Nat.le_refl k)]; exact hx k (by omega) c
      obtain ⟨i2, s1, s2⟩ := sr_out i1 (show k < 12 by omega) hb7 w
      refine ⟨i2.mono (by omega), fun i hi => (s1 i hi).trans (q1 i hi), ?_⟩
      rw [hct']
      generalize srS u k w = v at *
      rcases s2 with ⟨a1, a2, a3, a4, a5, a6⟩ | ⟨a1, a2, a3, a4, a5, a6⟩
      · rw [a1, a2, a4, a5, a6]
        refine ⟨⟨by omega, by omega, q4⟩, ⟨by omega, by omega, by omega⟩, fun j hj => q8 j (by omega), fun b hb => ?_⟩
        have hsl : ∀ b, (u 14 0 + 1 - 1 - (b + 1)) % 24 = (u 14 0 - 1 - b) % 24 := fun b => by congr 1; omega
        have hn : ∀ b, b < u 14 0 - τ 14 0 → (u 14 0 - 1 - b) % 24 ≠ u 14 0 % 24 := fun b hb => by omega
        have h00 : (u 14 0 + 1 - 1 - 0) % 24 = u 14 0 % 24 := rfl
        match b, hb with
        | 0, _ =>
          rw [h00, fu_at, fu_at, fu_at, e12]
          exact ⟨Nat.lt_succ_self k, c, rfl, by omega, fun b' hb' => absurd hb' (Nat.not_lt_zero _)⟩
        | b + 1, hb =>
          have hb1 : b < u 14 0 - τ 14 0 := by omega
          obtain ⟨r1, r2, r3, r4, r5⟩ := q9 b hb1
          rw [hsl b, fu_ne (hn b hb1), fu_ne (hn b hb1), fu_ne (show u 4 ((u 14 0 - 1 - b) % 24) ≠ k by omega)]
          refine ⟨by omega, r2, r3, r4, fun b' hb' => ?_⟩
          match b', hb' with
          | 0, _ => rw [h00, fu_at]; exact r1
          | b' + 1, hb' =>
            rw [hsl b', fu_ne (hn b' (by omega))]
            exact r5 b' (by omega)
      · have e7 := ones_or (show k < 32 by omega) hb7
        rw [a1, a2, a3, a4, a5, a6, e7]
        refine ⟨⟨q2, by omega, by omega⟩, ⟨by omega, by omega, by omega⟩, fun j hj => by rw [bit_or_ne (by omega)]; exact q8 j (by omega), fun b hb => ?_⟩
        obtain ⟨r1, r2, r3, r4, r5⟩ := q9 b hb
        rw [fu_ne (show u 4 ((u 14 0 - 1 - b) % 24) ≠ k by omega)]
        exact ⟨by omega, r2, r3, r4, r5⟩
