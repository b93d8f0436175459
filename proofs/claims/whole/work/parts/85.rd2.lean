/-! ===== the reader over one step or range, against the reference ===== -/
section
variable {ρ : Nat → Nat → Nat} {x : Nat}
theorem sep_n (h : x ≠ 44) (h2 : x ≠ 59) : sepB x = false := decide_eq_false (fun q => q.elim h h2)
theorem t4 (h4 : ρ 0 0 = 4) (hx : 48 ≤ x ∧ x ≤ 57) : ∃ ρ', stR ρ x = some ρ' ∧ ρ' 0 0 = 5 ∧ ρ' 4 0 = x - 48 ∧ ρ' 1 = ρ 1 ∧ ρ' 2 = ρ 2 := by
  rw [stR_4 h4]
  unfold a4R
  rw [if_pos hx]
  exact ⟨_, rfl, rfl, rfl, rfl, rfl⟩
theorem x4 (h4 : ρ 0 0 = 4) (hx : ¬ (48 ≤ x ∧ x ≤ 57)) : stR ρ x = none := by
  rw [stR_4 h4]
  unfold a4R
  rw [if_neg hx]
theorem t5d (h5 : ρ 0 0 = 5) (hx : 48 ≤ x ∧ x ≤ 57) (hn : ¬ ρ 4 0 = 0) (h : ρ 4 0 * 10 + (x - 48) < 32) : ∃ ρ', stR ρ x = some ρ' ∧ ρ' 0 0 = 5 ∧ ρ' 4 0 = ρ 4 0 * 10 + (x - 48) ∧ ρ' 1 = ρ 1 ∧ ρ' 2 = ρ 2 := by
  rw [stR_5 h5]
  unfold a5R
  rw [if_neg (by rw [sep_n (by omega) (by omega)]; decide), if_neg (by omega)]
  unfold s5R
  rw [if_pos ⟨⟨hn, hx⟩, h⟩]
  exact ⟨_, rfl, h5, rfl, rfl, rfl⟩
theorem t5r (h5 : ρ 0 0 = 5) (h : ρ 4 0 < 31) : ∃ ρ', stR ρ 45 = some ρ' ∧ ρ' 0 0 = 6 ∧ ρ' 3 0 = ρ 4 0 ∧ ρ' 1 = ρ 1 ∧ ρ' 2 = ρ 2 := by
  rw [stR_5 h5]
  unfold a5R
  rw [if_neg (by decide), if_pos rfl]
  unfold rgR
  rw [if_pos h]
  exact ⟨_, rfl, rfl, rfl, rfl, rfl⟩
theorem x5 (h5 : ρ 0 0 = 5) (hs : sepB x = false) (h45 : x = 45 → 31 ≤ ρ 4 0) (hd : ¬ ((¬ ρ 4 0 = 0 ∧ 48 ≤ x ∧ x ≤ 57) ∧ ρ 4 0 * 10 + (x - 48) < 32)) : stR ρ x = none := by
  rw [stR_5 h5]
  unfold a5R
  rw [if_neg (by rw [hs]; decide)]
  by_cases c : x = 45
  · rw [if_pos c]
    unfold rgR
    rw [if_neg (by have := h45 c; omega)]
  · rw [if_neg c]
    unfold s5R
    rw [if_neg hd]
theorem t6 (h6 : ρ 0 0 = 6) (hx : 48 ≤ x ∧ x ≤ 57) (h : ρ 3 0 < grF (x - 48)) : ∃ ρ', stR ρ x = some ρ' ∧ ρ' 0 0 = 7 ∧ ρ' 3 0 = ρ 3 0 ∧ ρ' 4 0 = x - 48 ∧ ρ' 1 = ρ 1 ∧ ρ' 2 = ρ 2 := by
  rw [stR_6 h6]
  unfold a6R
  rw [if_pos ⟨hx, h⟩]
  exact ⟨_, rfl, rfl, rfl, rfl, rfl, rfl⟩
theorem x6 (h6 : ρ 0 0 = 6) (h : ¬ ((48 ≤ x ∧ x ≤ 57) ∧ ρ 3 0 < grF (x - 48))) : stR ρ x = none := by
  rw [stR_6 h6]
  unfold a6R
  rw [if_neg h]
theorem t7 (h7 : ρ 0 0 = 7) (hx : 48 ≤ x ∧ x ≤ 57) (hn : ¬ ρ 4 0 = 0) (h : ρ 3 0 < ρ 4 0 * 10 + (x - 48) ∧ ρ 4 0 * 10 + (x - 48) < 32) : ∃ ρ', stR ρ x = some ρ' ∧ ρ' 0 0 = 7 ∧ ρ' 3 0 = ρ 3 0 ∧ ρ' 4 0 = ρ 4 0 * 10 + (x - 48) ∧ ρ' 1 = ρ 1 ∧ ρ' 2 = ρ 2 := by
  rw [stR_7 h7]
  unfold a7R
  rw [if_neg (by rw [sep_n (by omega) (by omega)]; decide)]
  unfold s7R
  rw [if_pos ⟨⟨hn, hx⟩, h⟩]
  exact ⟨_, rfl, h7, rfl, rfl, rfl, rfl⟩
theorem x7 (h7 : ρ 0 0 = 7) (hs : sepB x = true → ¬ ρ 3 0 < ρ 4 0) (hd : ¬ ((¬ ρ 4 0 = 0 ∧ 48 ≤ x ∧ x ≤ 57) ∧ ρ 3 0 < ρ 4 0 * 10 + (x - 48) ∧ ρ 4 0 * 10 + (x - 48) < 32)) : stR ρ x = none := by
  rw [stR_7 h7]
  unfold a7R
  cases c : sepB x
  · rw [if_neg (by decide)]
    unfold s7R
    rw [if_neg hd]
  · rw [if_pos rfl, if_neg (hs c)]
/-- the reader could end here -/
def cmR (ρ : Nat → Nat → Nat) : Prop := ρ 0 0 = 5 ∨ (ρ 0 0 = 7 ∧ ρ 3 0 < ρ 4 0)
theorem tsep (h : cmR ρ) (hs : sepB x = true) : stR ρ x = some (spR ρ x) := by
  rcases h with h5 | ⟨h7, h⟩
  · rw [stR_5 h5]
    unfold a5R
    rw [if_pos hs]
  · rw [stR_7 h7]
    unfold a7R
    rw [if_pos hs, if_pos h]
theorem grF_bg {d n : Nat} (hd : d ≤ 9) (hn : n < 31) : bgN d (n + 1) 31 ↔ n < grF d := by
  unfold grF
  split <;> omega
end
def Go (u : Nat → Nat) (m s : Nat) (ρ : Nat → Nat → Nat) (s' : Nat) (ρ' : Nat → Nat → Nat) : Prop :=
  s ≤ s' ∧ s' ≤ m ∧ rbR u (m - s) s ρ = rbR u (m - s') s' ρ' ∧ ∀ d τ, ppR u (m - s) s d τ ρ = ppR u (m - s') s' d τ ρ'
section
variable {u : Nat → Nat} {m s q : Nat} {ρ ρ1 ρ2 : Nat → Nat → Nat}
theorem Go.refl (h : s ≤ m) : Go u m s ρ s ρ := ⟨Nat.le_refl _, h, rfl, fun _ _ => rfl⟩
theorem Go.trans {s1 s2 : Nat} (h1 : Go u m s ρ s1 ρ1) (h2 : Go u m s1 ρ1 s2 ρ2) : Go u m s ρ s2 ρ2 := ⟨Nat.le_trans h1.1 h2.1, h2.2.1, h1.2.2.1.trans h2.2.2.1, fun d τ => (h1.2.2.2 d τ).trans (h2.2.2.2 d τ)⟩
theorem Go.one (hs : s < m) (h : stR ρ (u s) = some ρ1) (hp : sepB (u s) = false) : Go u m s ρ (s + 1) ρ1 := by
  refine ⟨Nat.le_succ s, hs, ?_, fun d τ => ?_⟩
  · rw [rbR_t hs (by rw [h]; rfl), h]
    rfl
  · rw [ppR_f hs hp, h]
    rfl
/-- the reader stops at q, and what is read so far is not whole -/
def Bad (u : Nat → Nat) (m s : Nat) (ρ : Nat → Nat → Nat) (q : Nat) : Prop := (rbR u (m - s) s ρ).1 = q ∧ ¬ (q = m ∧ cmR (rbR u (m - s) s ρ).2)
theorem Bad.go {s1 : Nat} (h1 : Go u m s ρ s1 ρ1) (h2 : Bad u m s1 ρ1 q) : Bad u m s ρ q := by
  unfold Bad
  rw [h1.2.2.1]
  exact h2
theorem Bad.stop (hs : s ≤ m) (h : ¬ cmR ρ) (h2 : s < m → stR ρ (u s) = none) : Bad u m s ρ s := by
  unfold Bad
  by_cases c : s < m
  · rw [(rbR_f c (by rw [h2 c]; rfl)).1]
    exact ⟨rfl, fun q => by have := q.1; omega⟩
  · rw [rbR_0 (by omega)]
    exact ⟨rfl, fun q => h q.2⟩
/-- what stands behind a step or a range that is read -/
def Okk (u : Nat → Nat) (m f g q : Nat) (ρ : Nat → Nat → Nat) : Prop := cmR ρ ∧ fromR ρ = f ∧ ρ 4 0 = g ∧ (q < m → sepB (u q) = false → stR ρ (u q) = none)
theorem tf_abs {P : Prop} (h : true = false) : P := by cases h
theorem cl_at {v : Int32} {n : Nat} (h : v = nI n) (hn : n < 2 ^ 31) : v.toNatClampNeg = n := by
  rw [h]
  exact nI_clamp hn
theorem st5 (hu : ∀ i, i < m → u i < 128) {s0 : Nat} (hs : s ≤ m) (h5 : ρ 0 0 = 5) (h31 : ρ 4 0 ≤ 31) (hF : nmV2 u m s0 false (nI 0) (nI 31) = nI (ρ 4 0)) (hX : nmx u m (s0, false) (nI 0) (nI 31) = (s, false))
    (hne : s < m → 48 ≤ u s → u s ≤ 57 → ρ 4 0 = 0 ∨ 32 ≤ ρ 4 0 * 10 + (u s - 48)) :
    ((rsx u m (s0, false)).2 = false → ∃ ρ', Go u m s ρ (rsx u m (s0, false)).1 ρ' ∧ ρ' 1 = ρ 1 ∧ ρ' 2 = ρ 2 ∧ Okk u m (rsf u m s0 false) (rsg u m s0 false) (rsx u m (s0, false)).1 ρ') ∧ ((rsx u m (s0, false)).2 = true → Bad u m s ρ (rsx u m (s0, false)).1) := by
  have s1 : rsS1 u m s0 false = s := congrArg Prod.fst hX
  have w1 : rsW1 u m s0 false = false := congrArg Prod.snd hX
  have f1 : rsF u m s0 false = nI (ρ 4 0) := hF
  have rf : rsf u m s0 false = ρ 4 0 := cl_at f1 (by omega)
  have eC : rsC u m s0 false = decide (ρ 4 0 < 31 ∧ s < m ∧ u s = 45) := by
    have l : (nI 31 ≤ nI (ρ 4 0)) ↔ 31 ≤ ρ 4 0 := nI_leI (by decide) (by omega)
    unfold rsC
    rw [s1, w1, f1, nxb_d hu (by decide) (by decide), Bool.eq_iff_iff]
    simp only [Bool.and_eq_true, Bool.not_eq_true', decide_eq_true_eq, decide_eq_false_iff_not, l]
    omega
  by_cases c : ρ 4 0 < 31 ∧ s < m ∧ u s = 45
  · rw [decide_eq_true c] at eC
    obtain ⟨eS, eW, eT⟩ := rs_t eC
    rw [s1, w1, f1, nI_add] at eS eW eT
    have ey : rsx u m (s0, false) = nmx u m (s + 1, false) (nI (ρ 4 0 + 1)) (nI 31) := Prod.ext eS eW
    obtain ⟨ρ3, a1, a2, a3, a4, a5⟩ := t5r h5 c.1
    have go1 : Go u m s ρ (s + 1) ρ3 := Go.one c.2.1 (by rw [c.2.2]; exact a1) (by rw [c.2.2]; rfl)
    have n6 : ¬ cmR ρ3 := fun h => by
      rcases h with h | ⟨h, -⟩ <;> omega
    by_cases d : dgA u m (s + 1)
    · by_cases b : bgN (u (s + 1) - 48) (ρ 4 0 + 1) 31
      · obtain ⟨ρ4, b1, b2, b3, b4, b5, b6⟩ := t6 (x := u (s + 1)) a2 d.2 (by rw [a3]; exact (grF_bg (by omega) c.1).mp b)
        have go2 : Go u m (s + 1) ρ3 (s + 2) ρ4 := Go.one d.1 b1 (sep_n (by omega) (by omega))
        have g12 := go1.trans go2
        by_cases t : twN u m (s + 1) (ρ 4 0 + 1) 31
        · have tt : 0 < u (s + 1) - 48 ∧ (s + 2 < m ∧ 48 ≤ u (s + 2) ∧ u (s + 2) ≤ 57) ∧ ρ 4 0 + 1 ≤ 10 * (u (s + 1) - 48) + (u (s + 2) - 48) ∧ 10 * (u (s + 1) - 48) + (u (s + 2) - 48) ≤ 31 := t
          obtain ⟨e1, e2⟩ := nm_two hu d (lo := ρ 4 0 + 1) (hi := 31) (by omega) (by decide) b t
          rw [e2] at eT
          obtain ⟨ρ5, c1, c2, c3, c4, c5, c6⟩ := t7 (x := u (s + 2)) b2 t.2.1.2 (by rw [b4]; omega) (by rw [b3, b4, a3]; omega)
          have go3 : Go u m (s + 2) ρ4 (s + 3) ρ5 := Go.one tt.2.1.1 c1 (sep_n (by omega) (by omega))
          rw [ey, e1]
          have hv : ρ5 4 0 = 10 * (u (s + 1) - 48) + (u (s + 1 + 1) - 48) := by
            rw [c4, b4]
            show (u (s + 1) - 48) * 10 + (u (s + 2) - 48) = 10 * (u (s + 1) - 48) + (u (s + 2) - 48)
            omega
          refine ⟨fun _ => ⟨ρ5, g12.trans go3, by rw [c5, b5, a4], by rw [c6, b6, a5], Or.inr ⟨c2, ?_⟩, ?_, ?_, fun hq hsep => ?_⟩, fun h => tf_abs h.symm⟩
          · rw [c3, b3, a3, hv]; have := t.2.2; omega
          · unfold fromR; rw [if_pos c2, c3, b3, a3, rf]
          · rw [hv]; exact (cl_at eT (by have := t.2.2; omega)).symm
          · refine x7 c2 (fun h => by rw [hsep] at h; cases h) ?_
            rw [hv]
            have := t.1
            omega
        · obtain ⟨e1, e2⟩ := nm_one hu d (lo := ρ 4 0 + 1) (hi := 31) (by omega) (by decide) b t
          rw [e2] at eT
          rw [ey, e1]
          have hnx : s + 2 < m → ¬ ((¬ ρ4 4 0 = 0 ∧ 48 ≤ u (s + 2) ∧ u (s + 2) ≤ 57) ∧ ρ4 3 0 < ρ4 4 0 * 10 + (u (s + 2) - 48) ∧ ρ4 4 0 * 10 + (u (s + 2) - 48) < 32) := fun hq h => by
            rw [b4, b3, a3] at h
            exact t ⟨by omega, ⟨hq, h.1.2⟩, by show ρ 4 0 + 1 ≤ 10 * (u (s + 1) - 48) + (u (s + 2) - 48); omega, by show 10 * (u (s + 1) - 48) + (u (s + 2) - 48) ≤ 31; omega⟩
          by_cases r : ρ 4 0 + 1 ≤ u (s + 1) - 48
          · rw [decide_eq_true (p := ρ 4 0 + 1 ≤ u (s + 1) - 48 ∧ u (s + 1) - 48 ≤ 31) ⟨r, by omega⟩]
            refine ⟨fun _ => ⟨ρ4, g12, by rw [b5, a4], by rw [b6, a5], Or.inr ⟨b2, ?_⟩, ?_, ?_, fun hq hsep => ?_⟩, fun h => tf_abs h.symm⟩
            · rw [b3, b4, a3]; omega
            · unfold fromR; rw [if_pos b2, b3, a3, rf]
            · rw [b4]; exact (cl_at eT (by omega)).symm
            · exact x7 b2 (fun h => by rw [hsep] at h; cases h) (hnx hq)
          · rw [decide_eq_false (p := ρ 4 0 + 1 ≤ u (s + 1) - 48 ∧ u (s + 1) - 48 ≤ 31) (fun h => r h.1)]
            refine ⟨fun h => tf_abs h, fun _ => Bad.go g12 (Bad.stop d.1 (fun h => ?_) (fun hq => ?_))⟩
            · rcases h with h | ⟨-, h⟩
              · omega
              · rw [b3, b4, a3] at h; omega
            · exact x7 b2 (fun _ => by rw [b3, b4, a3]; omega) (hnx hq)
      · rw [ey, nm_bad hu d (by omega) (by decide) b]
        refine ⟨fun h => tf_abs h, fun _ => Bad.go go1 (Bad.stop c.2.1 n6 (fun hq => x6 a2 (fun h => b ?_)))⟩
        rw [a3] at h
        exact (grF_bg (by omega) c.1).mpr h.2
    · rw [ey, nm_none hu d (by omega)]
      exact ⟨fun h => tf_abs h, fun _ => Bad.go go1 (Bad.stop c.2.1 n6 (fun hq => x6 a2 (fun h => d ⟨hq, h.1⟩)))⟩
  · rw [decide_eq_false c] at eC
    obtain ⟨eS, eW, eT⟩ := rs_f eC
    rw [s1] at eS
    rw [w1] at eW
    rw [f1] at eT
    have ey : rsx u m (s0, false) = (s, false) := Prod.ext eS eW
    rw [ey]
    refine ⟨fun _ => ⟨ρ, Go.refl hs, rfl, rfl, Or.inl h5, ?_, (cl_at eT (by omega)).symm, fun hq hsep => x5 h5 hsep (fun h45 => ?_) (fun h => ?_)⟩, fun h => tf_abs h.symm⟩
    · unfold fromR
      rw [if_neg (by omega), rf]
    · have hq' : s < m := hq
      have h45' : u s = 45 := h45
      omega
    · have hq' : s < m := hq
      have h' : (¬ ρ 4 0 = 0 ∧ 48 ≤ u s ∧ u s ≤ 57) ∧ ρ 4 0 * 10 + (u s - 48) < 32 := h
      have := hne hq' h'.1.2.1 h'.1.2.2
      omega
/-- from where a step is wanted -/
theorem st4 (hu : ∀ i, i < m → u i < 128) (hs : s ≤ m) (h4 : ρ 0 0 = 4) :
    ((rsx u m (s, false)).2 = false → ∃ ρ', Go u m s ρ (rsx u m (s, false)).1 ρ' ∧ ρ' 1 = ρ 1 ∧ ρ' 2 = ρ 2 ∧ Okk u m (rsf u m s false) (rsg u m s false) (rsx u m (s, false)).1 ρ') ∧ ((rsx u m (s, false)).2 = true → Bad u m s ρ (rsx u m (s, false)).1) := by
  by_cases d : dgA u m s
  · have b : bgN (u s - 48) 0 31 := Or.inl ⟨Nat.zero_le _, by omega⟩
    obtain ⟨ρ1, a1, a2, a3, a4, a5⟩ := t4 (x := u s) h4 d.2
    have go1 : Go u m s ρ (s + 1) ρ1 := Go.one d.1 a1 (sep_n (by omega) (by omega))
    by_cases t : twN u m s 0 31
    · obtain ⟨e1, e2⟩ := nm_two hu d (lo := 0) (hi := 31) (by decide) (by decide) b t
      obtain ⟨ρ2, b1, b2, b3, b4, b5⟩ := t5d (x := u (s + 1)) a2 t.2.1.2 (by rw [a3]; omega) (by rw [a3]; have := t.2.2; omega)
      have go2 : Go u m (s + 1) ρ1 (s + 2) ρ2 := Go.one t.2.1.1 b1 (sep_n (by have := t.2.1.2; omega) (by have := t.2.1.2; omega))
      have hv : ρ2 4 0 = 10 * (u s - 48) + (u (s + 1) - 48) := by rw [b3, a3]; omega
      obtain ⟨k1, k2⟩ := st5 (s := s + 2) hu (s0 := s) t.2.1.1 b2 (by rw [hv]; have := t.2.2; omega) (by rw [hv]; exact e2) e1 (fun _ _ _ => by rw [hv]; have := t.1; omega)
      refine ⟨fun h => ?_, fun h => Bad.go (go1.trans go2) (k2 h)⟩
      obtain ⟨ρ', g, p1, p2, p3⟩ := k1 h
      exact ⟨ρ', (go1.trans go2).trans g, by rw [p1, b4, a4], by rw [p2, b5, a5], p3⟩
    · obtain ⟨e1, e2⟩ := nm_one hu d (lo := 0) (hi := 31) (by decide) (by decide) b t
      rw [decide_eq_true (p := 0 ≤ u s - 48 ∧ u s - 48 ≤ 31) ⟨Nat.zero_le _, by omega⟩] at e1
      obtain ⟨k1, k2⟩ := st5 (s := s + 1) hu (s0 := s) d.1 a2 (by rw [a3]; omega) (by rw [a3]; exact e2) e1 (fun q1 q2 q3 => by
        rw [a3]
        by_cases z : u s - 48 = 0
        · exact Or.inl z
        · refine Or.inr (Nat.le_of_not_lt fun h => t ⟨by omega, ⟨q1, q2, q3⟩, Nat.zero_le _, by omega⟩))
      refine ⟨fun h => ?_, fun h => Bad.go go1 (k2 h)⟩
      obtain ⟨ρ', g, p1, p2, p3⟩ := k1 h
      exact ⟨ρ', go1.trans g, by rw [p1, a4], by rw [p2, a5], p3⟩
  · have hX : nmx u m (s, false) (nI 0) (nI 31) = (s, true) := nm_none hu d (by decide)
    have s1 : rsS1 u m s false = s := congrArg Prod.fst hX
    have w1 : rsW1 u m s false = true := congrArg Prod.snd hX
    obtain ⟨eS, eW, -⟩ := rs_f (u := u) (m := m) (s := s) (w := false) (rsC_2 (by rw [w1]; rfl))
    rw [s1] at eS
    rw [w1] at eW
    have ey : rsx u m (s, false) = (s, true) := Prod.ext eS eW
    rw [ey]
    exact ⟨fun h => tf_abs h, fun _ => Bad.stop hs (fun h => by rcases h with h | ⟨h, -⟩ <;> omega) (fun hq => x4 h4 (fun h => d ⟨hq, h⟩))⟩
end
