/-! ===== the pins of the buffer are set, on both sides ===== -/
theorem R0.range {τ : Nat → Nat → Nat} {σ : Nat → Nat} {T t j f k : Nat} (h : R0 τ σ T) (ht : t < 3) (hj : j < 12) (hf : f + k ≤ 32) : R0 (pu τ 0 (prC τ t j f k).2) (prs σ t j f k) T ∧ (prC τ t j f k).1 = prc σ t j f k := by
  obtain ⟨r, ok, om⟩ := h
  obtain ⟨h1, h2, h3⟩ := rl_range (x := f) r.1 ok.1 r.2.2.2.2.2.2.2.1 r.2.2.2.2.2.2.2.2 ht hj k hf
  exact ⟨⟨r.cho h1 h3, ok.p0 (prC_ok (x := f) ok.1 hj ht k hf).2, om.prk ht hj k hf⟩, h2⟩
theorem prR_is {τ ρ : Nat → Nat → Nat} {t j f g : Nat} (h1 : ρ 1 0 = t) (h2 : ρ 2 0 = j) (hf : fromR ρ = f) (hg : ρ 4 0 = g) : prR τ ρ = prC τ t j f (g + 1 - f) := by
  unfold fromR at hf
  unfold prR
  rw [h1, h2, hf, hg]
section
variable {u : Nat → Nat} {m q : Nat} {ρ : Nat → Nat → Nat}
/-- what is to be shown of the reader at q, behind a step or range f .. g of the tooth j of the tune t, d pins being set -/
def PnE (u : Nat → Nat) (m q : Nat) (ρ τ : Nat → Nat → Nat) (σ : Nat → Nat) (T t j f g d : Nat) : Prop :=
  (ppR u (m - q) q d τ ρ).1 = (DT u m (PT u m t j ((q, false), prs σ t j f (g + 1 - f), d + prc σ t j f (g + 1 - f)))).2.2 ∧ R0 (ppR u (m - q) q d τ ρ).2.1 (DT u m (PT u m t j ((q, false), prs σ t j f (g + 1 - f), d + prc σ t j f (g + 1 - f)))).2.1 T
theorem pn_one (hu : ∀ i, i < m → u i < 128) {τ : Nat → Nat → Nat} {σ : Nat → Nat} {T t j f g d : Nat} (hq : q ≤ m) (ok : Okk u m f g q ρ) (h1 : ρ 1 0 = t) (h2 : ρ 2 0 = j) (ht : t < 3) (hj : j < 12) (hfg : f ≤ g) (hg : g < 32) (h : R0 τ σ T)
    (hw : (DL u m (PL u m (q, false))).2 = false ∧ (DL u m (PL u m (q, false))).1 = m)
    (ih : ∀ q' ρ' τ' σ' t' j' f' g' d', q < q' → q' ≤ m → Okk u m f' g' q' ρ' → ρ' 1 0 = t' → ρ' 2 0 = j' → t' < 3 → j' < 12 → f' ≤ g' → g' < 32 → R0 τ' σ' T → ((DL u m (PL u m (q', false))).2 = false ∧ (DL u m (PL u m (q', false))).1 = m) → PnE u m q' ρ' τ' σ' T t' j' f' g' d') : PnE u m q ρ τ σ T t j f g d := by
  obtain ⟨hc, hf, hgg, hr⟩ := ok
  obtain ⟨r1, r2⟩ := h.range (f := f) (k := g + 1 - f) ht hj (by omega)
  have er : prR τ ρ = prC τ t j f (g + 1 - f) := prR_is h1 h2 hf hgg
  have n44 : nxb u m q false (nI 44) (nI 44) = decide (q < m ∧ 44 ≤ u q ∧ u q ≤ 44) := nxb_d hu (by decide) (by decide)
  have n59 : nxb u m q false (nI 59) (nI 59) = decide (q < m ∧ 59 ≤ u q ∧ u q ≤ 59) := nxb_d hu (by decide) (by decide)
  unfold PnE
  by_cases c : q < m
  · by_cases c44 : u q = 44
    · rw [decide_eq_true (p := q < m ∧ 44 ≤ u q ∧ u q ≤ 44) ⟨c, by omega, by omega⟩] at n44
      have st : stR ρ (u q) = some (spR ρ (u q)) := tsep hc (by rw [c44]; rfl)
      have g0 : ∀ d, ppR u (m - q) q d τ ρ = ppR u (m - (q + 1)) (q + 1) (d + prc σ t j f (g + 1 - f)) (pu τ 0 (prC τ t j f (g + 1 - f)).2) (spR ρ (u q)) := fun d => by
        rw [ppR_t c (by rw [c44]; rfl), st, er, r2]
        rfl
      have e1 : PL u m (q, false) = PL u m (rsx u m (q + 1, false)) := PL_t (x := (q, false)) n44
      have e2 := PT_t (u := u) (m := m) (t := t) (j := j) (z := ((q, false), prs σ t j f (g + 1 - f), d + prc σ t j f (g + 1 - f))) n44
      obtain ⟨k1, k2⟩ := st4 (s := q + 1) (ρ := spR ρ (u q)) hu c (by rw [c44]; rfl)
      rw [e1] at hw
      have hy : (rsx u m (q + 1, false)).2 = false := rpl_w _ _ (rdl_w _ _ hw.1)
      obtain ⟨-, -, -, b1, b2⟩ := rs_ok (u := u) (m := m) (s := q + 1) (w := false) hy
      obtain ⟨ρ', gg, p1, p2, p3⟩ := k1 hy
      have ey : rsx u m (q + 1, false) = ((rsx u m (q + 1, false)).1, false) := Prod.ext rfl hy
      have hq' : q < (rsx u m (q + 1, false)).1 := by have := gg.1; omega
      have i1 := ih (rsx u m (q + 1, false)).1 ρ' (pu τ 0 (prC τ t j f (g + 1 - f)).2) (prs σ t j f (g + 1 - f)) t j (rsf u m (q + 1) false) (rsg u m (q + 1) false) (d + prc σ t j f (g + 1 - f)) hq' gg.2.1 p3 (by rw [p1]; exact h1) (by rw [p2]; exact h2) ht hj b1 b2 r1 (by rw [← ey]; exact hw)
      rw [e2, g0, gg.2.2.2]
      unfold PnE at i1
      rw [← ey] at i1
      exact i1
    · rw [decide_eq_false (p := q < m ∧ 44 ≤ u q ∧ u q ≤ 44) (by omega)] at n44
      have e1 : PL u m (q, false) = (q, false) := PL_f (x := (q, false)) n44
      have e2 := PT_f (u := u) (m := m) (t := t) (j := j) (z := ((q, false), prs σ t j f (g + 1 - f), d + prc σ t j f (g + 1 - f))) n44
      rw [e1] at hw
      rw [e2]
      by_cases c59 : u q = 59
      · rw [decide_eq_true (p := q < m ∧ 59 ≤ u q ∧ u q ≤ 59) ⟨c, by omega, by omega⟩] at n59
        have st : stR ρ (u q) = some (spR ρ (u q)) := tsep hc (by rw [c59]; rfl)
        have g0 : ∀ d, ppR u (m - q) q d τ ρ = ppR u (m - (q + 1)) (q + 1) (d + prc σ t j f (g + 1 - f)) (pu τ 0 (prC τ t j f (g + 1 - f)).2) (spR ρ (u q)) := fun d => by
          rw [ppR_t c (by rw [c59]; rfl), st, er, r2]
          rfl
        have e3 : DL u m (q, false) = DL u m (PL u m (rq5 u m (q + 1, false))) := DL_t (x := (q, false)) n59
        have e4 := DT_t (u := u) (m := m) (z := ((q, false), prs σ t j f (g + 1 - f), d + prc σ t j f (g + 1 - f))) n59
        obtain ⟨k1, k2⟩ := pt5 (s := q + 1) (ρ := spR ρ (u q)) hu c (by rw [c59]; rfl)
        rw [e3] at hw
        have hx : (rpx u m (q + 1, false)).2 = false := rdl_w _ _ hw.1
        have hy : (rq5 u m (q + 1, false)).2 = false := (rq_w hx).1
        obtain ⟨-, -, -, b1, b2⟩ := rs_ok (u := u) (m := m) (s := (rq4 u m (q + 1, false)).1) (w := (rq4 u m (q + 1, false)).2) hy
        obtain ⟨ρ', gg, p1, p2, p3⟩ := k1 hy
        have ey : rq5 u m (q + 1, false) = ((rq5 u m (q + 1, false)).1, false) := Prod.ext rfl hy
        have hq' : q < (rq5 u m (q + 1, false)).1 := by have := gg.1; omega
        have i1 := ih (rq5 u m (q + 1, false)).1 ρ' (pu τ 0 (prC τ t j f (g + 1 - f)).2) (prs σ t j f (g + 1 - f)) (rqt u m (q + 1, false)) (rqj u m (q + 1, false)) (rsf u m (rq4 u m (q + 1, false)).1 (rq4 u m (q + 1, false)).2) (rsg u m (rq4 u m (q + 1, false)).1 (rq4 u m (q + 1, false)).2) (d + prc σ t j f (g + 1 - f)) hq' gg.2.1 p3 p1 p2 (rqt_ok hx).2 (rqj_ok hx).2 b1 b2 r1 (by rw [← ey]; exact hw)
        rw [e4, g0, gg.2.2.2]
        unfold PnE at i1
        rw [← ey] at i1
        exact i1
      · rw [decide_eq_false (p := q < m ∧ 59 ≤ u q ∧ u q ≤ 59) (by omega)] at n59
        have e3 : DL u m (q, false) = (q, false) := DL_f (x := (q, false)) n59
        rw [e3] at hw
        have := hw.2
        dsimp only at this
        omega
  · rw [decide_eq_false (p := q < m ∧ 44 ≤ u q ∧ u q ≤ 44) (fun h => c h.1)] at n44
    rw [decide_eq_false (p := q < m ∧ 59 ≤ u q ∧ u q ≤ 59) (fun h => c h.1)] at n59
    have e2 := PT_f (u := u) (m := m) (t := t) (j := j) (z := ((q, false), prs σ t j f (g + 1 - f), d + prc σ t j f (g + 1 - f))) n44
    have e4 := DT_f (u := u) (m := m) (z := ((q, false), prs σ t j f (g + 1 - f), d + prc σ t j f (g + 1 - f))) n59
    rw [e2, e4, ppR_0 (by omega), er]
    exact ⟨by rw [r2], r1⟩
theorem pn_all (hu : ∀ i, i < m → u i < 128) {T : Nat} : ∀ (k q : Nat) (ρ τ : Nat → Nat → Nat) (σ : Nat → Nat) (t j f g d : Nat), m ≤ q + k → q ≤ m → Okk u m f g q ρ → ρ 1 0 = t → ρ 2 0 = j → t < 3 → j < 12 → f ≤ g → g < 32 → R0 τ σ T → ((DL u m (PL u m (q, false))).2 = false ∧ (DL u m (PL u m (q, false))).1 = m) → PnE u m q ρ τ σ T t j f g d
  | 0, q, ρ, τ, σ, t, j, f, g, d, hk, hq, a1, a2, a3, a4, a5, a6, a7, a8, a9 => pn_one hu hq a1 a2 a3 a4 a5 a6 a7 a8 a9 (fun q' _ _ _ _ _ _ _ _ b1 b2 _ _ _ _ _ _ _ _ _ => absurd b1 (by omega))
  | k + 1, q, ρ, τ, σ, t, j, f, g, d, hk, hq, a1, a2, a3, a4, a5, a6, a7, a8, a9 => pn_one hu hq a1 a2 a3 a4 a5 a6 a7 a8 a9 (fun q' ρ' τ' σ' t' j' f' g' d' b1 b2 b3 b4 b5 b6 b7 b8 b9 b10 b11 => pn_all hu k q' ρ' τ' σ' t' j' f' g' d' (by omega) b2 b3 b4 b5 b6 b7 b8 b9 b10 b11)
theorem rd_pins (hu : ∀ i, i < m → u i < 128) {τ : Nat → Nat → Nat} {σ : Nat → Nat} {T : Nat} (h0 : ρ 0 0 = 0) (hw : whl u m = true) (h : R0 τ σ T) : (ppR u m 0 0 τ ρ).1 = (rdy u m σ).2.2 ∧ R0 (ppR u m 0 0 τ ρ).2.1 (rdy u m σ).2.1 T := by
  have hw' : (DL u m (PL u m (rq5 u m (0, false)))).2 = false ∧ (DL u m (PL u m (rq5 u m (0, false)))).1 = m := whl_iff.mp hw
  obtain ⟨k1, k2⟩ := pt5 (s := 0) hu (Nat.zero_le m) h0
  have hx : (rpx u m (0, false)).2 = false := rdl_w _ _ hw'.1
  have hy : (rq5 u m (0, false)).2 = false := (rq_w hx).1
  obtain ⟨-, -, -, b1, b2⟩ := rs_ok (u := u) (m := m) (s := (rq4 u m (0, false)).1) (w := (rq4 u m (0, false)).2) hy
  obtain ⟨ρ', gg, p1, p2, p3⟩ := k1 hy
  have ey : rq5 u m (0, false) = ((rq5 u m (0, false)).1, false) := Prod.ext rfl hy
  have i1 := pn_all hu m (rq5 u m (0, false)).1 ρ' τ σ (rqt u m (0, false)) (rqj u m (0, false)) (rsf u m (rq4 u m (0, false)).1 (rq4 u m (0, false)).2) (rsg u m (rq4 u m (0, false)).1 (rq4 u m (0, false)).2) 0 (by omega) gg.2.1 p3 p1 p2 (rqt_ok hx).2 (rqj_ok hx).2 b1 b2 h (by rw [← ey]; exact hw')
  unfold PnE at i1
  rw [← gg.2.2.2, Nat.sub_zero, ← ey] at i1
  exact i1
end
