/-! ===== the reader over the whole buffer, against the reference ===== -/
section
variable {u : Nat → Nat} {m s q : Nat} {ρ ρ1 ρ2 : Nat → Nat → Nat}
theorem t0 {x : Nat} (h0 : ρ 0 0 = 0) (hx : 48 ≤ x ∧ x ≤ 50) : ∃ ρ', stR ρ x = some ρ' ∧ ρ' 0 0 = 1 ∧ ρ' 1 0 = x - 48 := by
  rw [stR_0 h0]
  unfold a0R
  rw [if_pos (by omega)]
  exact ⟨_, rfl, rfl, rfl⟩
theorem x0 {x : Nat} (h0 : ρ 0 0 = 0) (hx : ¬ (48 ≤ x ∧ x ≤ 50)) : stR ρ x = none := by
  rw [stR_0 h0]
  unfold a0R
  rw [if_neg (by omega)]
theorem t1 (h1 : ρ 0 0 = 1) : ∃ ρ', stR ρ 47 = some ρ' ∧ ρ' 0 0 = 2 ∧ ρ' 1 = ρ 1 := by
  rw [stR_1 h1, if_pos rfl]
  exact ⟨_, rfl, rfl, rfl⟩
theorem x1 {x : Nat} (h1 : ρ 0 0 = 1) (hx : x ≠ 47) : stR ρ x = none := by
  rw [stR_1 h1, if_neg hx]
theorem t2 {x : Nat} (h2 : ρ 0 0 = 2) (hx : 48 ≤ x ∧ x ≤ 57) : ∃ ρ', stR ρ x = some ρ' ∧ ρ' 0 0 = 3 ∧ ρ' 2 0 = x - 48 ∧ ρ' 1 = ρ 1 := by
  rw [stR_2 h2]
  unfold a2R
  rw [if_pos hx]
  exact ⟨_, rfl, rfl, rfl, rfl⟩
theorem x2 {x : Nat} (h2 : ρ 0 0 = 2) (hx : ¬ (48 ≤ x ∧ x ≤ 57)) : stR ρ x = none := by
  rw [stR_2 h2]
  unfold a2R
  rw [if_neg hx]
theorem t3d {x : Nat} (h3 : ρ 0 0 = 3) (hx : 48 ≤ x ∧ x ≤ 57) (hn : ¬ ρ 2 0 = 0) (h : ρ 2 0 * 10 + (x - 48) < 12) : ∃ ρ', stR ρ x = some ρ' ∧ ρ' 0 0 = 3 ∧ ρ' 2 0 = ρ 2 0 * 10 + (x - 48) ∧ ρ' 1 = ρ 1 := by
  rw [stR_3 h3, if_neg (by omega)]
  unfold a3R
  rw [if_pos ⟨⟨hn, hx⟩, h⟩]
  exact ⟨_, rfl, h3, rfl, rfl⟩
theorem t3c (h3 : ρ 0 0 = 3) : ∃ ρ', stR ρ 58 = some ρ' ∧ ρ' 0 0 = 4 ∧ ρ' 1 = ρ 1 ∧ ρ' 2 = ρ 2 := by
  rw [stR_3 h3, if_pos rfl]
  exact ⟨_, rfl, rfl, rfl, rfl⟩
theorem x3 {x : Nat} (h3 : ρ 0 0 = 3) (hx : x ≠ 58) (hd : ¬ ((¬ ρ 2 0 = 0 ∧ 48 ≤ x ∧ x ≤ 57) ∧ ρ 2 0 * 10 + (x - 48) < 12)) : stR ρ x = none := by
  rw [stR_3 h3, if_neg hx]
  unfold a3R
  rw [if_neg hd]
/-- ':' behind the tooth -/
theorem pt3 (hu : ∀ i, i < m → u i < 128) (hs : s ≤ m) (h3 : ρ 0 0 = 3) (hne : s < m → 48 ≤ u s → u s ≤ 57 → ρ 2 0 = 0 ∨ 12 ≤ ρ 2 0 * 10 + (u s - 48)) :
    ((tkx u m (s, false) (nI 58) (nI 58)).2 = false → ∃ ρ', Go u m s ρ (tkx u m (s, false) (nI 58) (nI 58)).1 ρ' ∧ ρ' 0 0 = 4 ∧ ρ' 1 = ρ 1 ∧ ρ' 2 = ρ 2) ∧ ((tkx u m (s, false) (nI 58) (nI 58)).2 = true → Bad u m s ρ (tkx u m (s, false) (nI 58) (nI 58)).1) := by
  by_cases c : s < m ∧ 58 ≤ u s ∧ u s ≤ 58
  · rw [(tk_t hu (by decide) (by decide) c).1]
    have e : u s = 58 := by omega
    obtain ⟨ρ', a1, a2, a3, a4⟩ := t3c h3
    exact ⟨fun _ => ⟨ρ', Go.one c.1 (by rw [e]; exact a1) (by rw [e]; rfl), a2, a3, a4⟩, fun h => tf_abs h.symm⟩
  · rw [tk_f hu (by decide) (by decide) c]
    refine ⟨fun h => tf_abs h, fun _ => Bad.stop hs (fun h => by rcases h with h | ⟨h, -⟩ <;> omega) (fun hq => x3 h3 (fun e => c ⟨hq, by omega, by omega⟩) (fun h => ?_))⟩
    have := hne hq h.1.2.1 h.1.2.2
    omega
theorem pt0 (hu : ∀ i, i < m → u i < 128) (hs : s ≤ m) (h0 : ρ 0 0 = 0) :
    ((rq4 u m (s, false)).2 = false → ∃ ρ', Go u m s ρ (rq4 u m (s, false)).1 ρ' ∧ ρ' 0 0 = 4 ∧ ρ' 1 0 = rqt u m (s, false) ∧ ρ' 2 0 = rqj u m (s, false)) ∧ ((rq4 u m (s, false)).2 = true → Bad u m s ρ (rq4 u m (s, false)).1) := by
  have q1 : rq1 u m (s, false) = tkx u m (s, false) (nI 48) (nI 50) := rfl
  have q2 : rq2 u m (s, false) = tkx u m (rq1 u m (s, false)) (nI 47) (nI 47) := rfl
  have q3 : rq3 u m (s, false) = nmx u m (rq2 u m (s, false)) (nI 0) (nI 11) := rfl
  have q4 : rq4 u m (s, false) = tkx u m (rq3 u m (s, false)) (nI 58) (nI 58) := rfl
  by_cases c : s < m ∧ 48 ≤ u s ∧ u s ≤ 50
  · obtain ⟨e1, v1⟩ := tk_t hu (a := 48) (b := 50) (by decide) (by decide) c
    rw [q1, e1] at q2
    obtain ⟨ρ1, a1, a2, a3⟩ := t0 (x := u s) h0 c.2
    have go1 : Go u m s ρ (s + 1) ρ1 := Go.one c.1 a1 (sep_n (by omega) (by omega))
    have hT : rqt u m (s, false) = u s - 48 := cl_at v1 (by omega)
    by_cases d : s + 1 < m ∧ 47 ≤ u (s + 1) ∧ u (s + 1) ≤ 47
    · rw [(tk_t hu (a := 47) (b := 47) (by decide) (by decide) d).1] at q2
      have hJ : rqj u m (s, false) = (nmV2 u m (s + 1 + 1) false (nI 0) (nI 11)).toNatClampNeg := by
        unfold rqj
        rw [q2]
      rw [q2] at q3
      have e47 : u (s + 1) = 47 := by omega
      obtain ⟨ρ2, b1, b2, b3⟩ := t1 a2
      have go2 : Go u m (s + 1) ρ1 (s + 1 + 1) ρ2 := Go.one d.1 (by rw [e47]; exact b1) (by rw [e47]; rfl)
      have g12 := go1.trans go2
      by_cases e : dgA u m (s + 1 + 1)
      · have b : bgN (u (s + 1 + 1) - 48) 0 11 := Or.inl ⟨Nat.zero_le _, by omega⟩
        obtain ⟨ρ3, c1, c2, c3, c4⟩ := t2 (x := u (s + 1 + 1)) b2 e.2
        have go3 : Go u m (s + 1 + 1) ρ2 (s + 1 + 1 + 1) ρ3 := Go.one e.1 c1 (sep_n (by omega) (by omega))
        by_cases t : twN u m (s + 1 + 1) 0 11
        · obtain ⟨f1, f2⟩ := nm_two hu e (lo := 0) (hi := 11) (by decide) (by decide) b t
          obtain ⟨ρ4, d1, d2, d3, d4⟩ := t3d (x := u (s + 1 + 1 + 1)) c2 t.2.1.2 (by rw [c3]; omega) (by rw [c3]; have := t.2.2; omega)
          have go4 : Go u m (s + 1 + 1 + 1) ρ3 (s + 1 + 1 + 2) ρ4 := Go.one t.2.1.1 d1 (sep_n (by have := t.2.1.2; omega) (by have := t.2.1.2; omega))
          rw [f1] at q3
          rw [q3] at q4
          have hv : ρ4 2 0 = 10 * (u (s + 1 + 1) - 48) + (u (s + 1 + 1 + 1) - 48) := by rw [d3, c3]; omega
          obtain ⟨k1, k2⟩ := pt3 (s := s + 1 + 1 + 2) hu t.2.1.1 d2 (fun _ _ _ => by rw [hv]; have := t.1; omega)
          rw [q4]
          have g := (g12.trans go3).trans go4
          refine ⟨fun h => ?_, fun h => Bad.go g (k2 h)⟩
          obtain ⟨ρ', g', p1, p2, p3⟩ := k1 h
          refine ⟨ρ', g.trans g', p1, by rw [p2, d4, c4, b3, a3, hT], ?_⟩
          rw [p3, hv, hJ]
          exact (cl_at f2 (by have := t.2.2; omega)).symm
        · obtain ⟨f1, f2⟩ := nm_one hu e (lo := 0) (hi := 11) (by decide) (by decide) b t
          rw [decide_eq_true (p := 0 ≤ u (s + 1 + 1) - 48 ∧ u (s + 1 + 1) - 48 ≤ 11) ⟨Nat.zero_le _, by omega⟩] at f1
          rw [f1] at q3
          rw [q3] at q4
          obtain ⟨k1, k2⟩ := pt3 (s := s + 1 + 1 + 1) hu e.1 c2 (fun h1 h2 h3 => by
            rw [c3]
            by_cases z : u (s + 1 + 1) - 48 = 0
            · exact Or.inl z
            · exact Or.inr (Nat.le_of_not_lt fun h => t ⟨by omega, ⟨h1, h2, h3⟩, Nat.zero_le _, by omega⟩))
          rw [q4]
          have g := g12.trans go3
          refine ⟨fun h => ?_, fun h => Bad.go g (k2 h)⟩
          obtain ⟨ρ', g', p1, p2, p3⟩ := k1 h
          refine ⟨ρ', g.trans g', p1, by rw [p2, c4, b3, a3, hT], ?_⟩
          rw [p3, c3, hJ]
          exact (cl_at f2 (by omega)).symm
      · rw [nm_none hu e (lo := 0) (hi := 11) (by decide)] at q3
        rw [q3, tk_wrong] at q4
        rw [q4]
        exact ⟨fun h => tf_abs h, fun _ => Bad.go g12 (Bad.stop d.1 (fun h => by rcases h with h | ⟨h, -⟩ <;> omega) (fun hq => x2 b2 (fun h => e ⟨hq, h⟩)))⟩
    · rw [tk_f hu (a := 47) (b := 47) (by decide) (by decide) d] at q2
      rw [q2, nm_wrong] at q3
      rw [q3, tk_wrong] at q4
      rw [q4]
      exact ⟨fun h => tf_abs h, fun _ => Bad.go go1 (Bad.stop c.1 (fun h => by rcases h with h | ⟨h, -⟩ <;> omega) (fun hq => x1 a2 (fun h => d ⟨hq, by omega, by omega⟩)))⟩
  · rw [tk_f hu (a := 48) (b := 50) (by decide) (by decide) c] at q1
    rw [q1, tk_wrong] at q2
    rw [q2, nm_wrong] at q3
    rw [q3, tk_wrong] at q4
    rw [q4]
    exact ⟨fun h => tf_abs h, fun _ => Bad.stop hs (fun h => by rcases h with h | ⟨h, -⟩ <;> omega) (fun hq => x0 h0 (fun h => c ⟨hq, h⟩))⟩
theorem pt5 (hu : ∀ i, i < m → u i < 128) (hs : s ≤ m) (h0 : ρ 0 0 = 0) :
    ((rq5 u m (s, false)).2 = false → ∃ ρ', Go u m s ρ (rq5 u m (s, false)).1 ρ' ∧ ρ' 1 0 = rqt u m (s, false) ∧ ρ' 2 0 = rqj u m (s, false) ∧ Okk u m (rsf u m (rq4 u m (s, false)).1 (rq4 u m (s, false)).2) (rsg u m (rq4 u m (s, false)).1 (rq4 u m (s, false)).2) (rq5 u m (s, false)).1 ρ') ∧ ((rq5 u m (s, false)).2 = true → Bad u m s ρ (rq5 u m (s, false)).1) := by
  obtain ⟨k1, k2⟩ := pt0 hu hs h0
  have e5 : rq5 u m (s, false) = rsx u m (rq4 u m (s, false)) := rfl
  generalize hy : rq4 u m (s, false) = y at *
  obtain ⟨y1, y2⟩ := y
  cases y2 with
  | true =>
    rw [rs_wrong] at e5
    rw [e5]
    exact ⟨fun h => tf_abs h, fun _ => k2 rfl⟩
  | false =>
    obtain ⟨ρ', g, p1, p2, p3⟩ := k1 rfl
    obtain ⟨j1, j2⟩ := st4 (s := y1) hu g.2.1 p1
    rw [e5]
    refine ⟨fun h => ?_, fun h => Bad.go g (j2 h)⟩
    obtain ⟨ρ'', g', r1, r2, r3⟩ := j1 h
    exact ⟨ρ'', g.trans g', by rw [r1, p2], by rw [r2, p3], r3⟩
end
