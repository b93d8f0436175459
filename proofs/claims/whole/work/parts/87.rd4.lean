/-! ===== the loops of the reading ===== -/
section
variable {u : Nat → Nat} {m : Nat}
theorem rpl_fuel : ∀ (n n' : Nat) (x : Nat × Bool), m < x.1 + n → m < x.1 + n' → rpl u m n x = rpl u m n' x
  | 0, n', x, h, h' => by
    cases c : nxb u m x.1 x.2 (nI 44) (nI 44)
    · rw [rpl_f c, rpl_f c]
    · exact absurd (rpl_t c h).1 (Nat.lt_irrefl 0)
  | n + 1, n', x, h, h' => by
    cases c : nxb u m x.1 x.2 (nI 44) (nI 44)
    · rw [rpl_f c, rpl_f c]
    · obtain ⟨p2, e2⟩ := rpl_t c h'
      have e1 := (rpl_t c h).2
      have hl := (rsx_le u m (x.1 + 1, x.2)).1
      dsimp only at hl
      rw [e1, e2]
      exact rpl_fuel n (n' - 1) _ (by omega) (by omega)
theorem rdl_fuel : ∀ (n n' : Nat) (x : Nat × Bool), m < x.1 + n → m < x.1 + n' → rdl u m n x = rdl u m n' x
  | 0, n', x, h, h' => by
    cases c : nxb u m x.1 x.2 (nI 59) (nI 59)
    · rw [rdl_f c, rdl_f c]
    · exact absurd (rdl_t c h).1 (Nat.lt_irrefl 0)
  | n + 1, n', x, h, h' => by
    cases c : nxb u m x.1 x.2 (nI 59) (nI 59)
    · rw [rdl_f c, rdl_f c]
    · obtain ⟨p2, e2⟩ := rdl_t c h'
      have e1 := (rdl_t c h).2
      have hl := (rpx_le u m (x.1 + 1, x.2)).1
      dsimp only at hl
      rw [e1, e2]
      exact rdl_fuel n (n' - 1) _ (by omega) (by omega)
theorem rtl_fuel {t j : Nat} : ∀ (n n' : Nat) (z : zT), m < z.1.1 + n → m < z.1.1 + n' → rtl u m t j n z = rtl u m t j n' z
  | 0, n', z, h, h' => by
    cases c : nxb u m z.1.1 z.1.2 (nI 44) (nI 44)
    · rw [rtl_f c, rtl_f c]
    · exact absurd (rtl_t (t := t) (j := j) c h).1 (Nat.lt_irrefl 0)
  | n + 1, n', z, h, h' => by
    cases c : nxb u m z.1.1 z.1.2 (nI 44) (nI 44)
    · rw [rtl_f c, rtl_f c]
    · obtain ⟨p2, e2⟩ := rtl_t (t := t) (j := j) c h'
      have e1 := (rtl_t (t := t) (j := j) c h).2
      have hl := (rsx_le u m (z.1.1 + 1, z.1.2)).1
      dsimp only at hl
      rw [e1, e2]
      exact rtl_fuel n (n' - 1) _ (by dsimp only; omega) (by dsimp only; omega)
theorem rdt_fuel : ∀ (n n' : Nat) (z : zT), m < z.1.1 + n → m < z.1.1 + n' → rdt u m n z = rdt u m n' z
  | 0, n', z, h, h' => by
    cases c : nxb u m z.1.1 z.1.2 (nI 59) (nI 59)
    · rw [rdt_f c, rdt_f c]
    · exact absurd (rdt_t c h).1 (Nat.lt_irrefl 0)
  | n + 1, n', z, h, h' => by
    cases c : nxb u m z.1.1 z.1.2 (nI 59) (nI 59)
    · rw [rdt_f c, rdt_f c]
    · obtain ⟨p2, e2⟩ := rdt_t c h'
      have e1 := (rdt_t c h).2
      have hl := (rpx_le u m (z.1.1 + 1, z.1.2)).1
      dsimp only at hl
      rw [← rtx_1 u m (z.1.1 + 1, z.1.2) z.2.1 z.2.2] at hl
      rw [e1, e2]
      exact rdt_fuel n (n' - 1) _ (by omega) (by omega)
end
def PL (u : Nat → Nat) (m : Nat) (x : Nat × Bool) : Nat × Bool := rpl u m (m + 1) x
def DL (u : Nat → Nat) (m : Nat) (x : Nat × Bool) : Nat × Bool := rdl u m (m + 1) x
def PT (u : Nat → Nat) (m t j : Nat) (z : zT) : zT := rtl u m t j (m + 1) z
def DT (u : Nat → Nat) (m : Nat) (z : zT) : zT := rdt u m (m + 1) z
section
variable {u : Nat → Nat} {m : Nat} {x : Nat × Bool} {z : zT} {t j : Nat}
theorem PL_t (c : nxb u m x.1 x.2 (nI 44) (nI 44) = true) : PL u m x = PL u m (rsx u m (x.1 + 1, x.2)) := by
  have hl := (rsx_le u m (x.1 + 1, x.2)).1
  dsimp only at hl
  exact (rpl_t c (by omega)).2.trans (rpl_fuel _ _ _ (by omega) (by omega))
theorem PL_f (c : nxb u m x.1 x.2 (nI 44) (nI 44) = false) : PL u m x = x := rpl_f c _
theorem DL_t (c : nxb u m x.1 x.2 (nI 59) (nI 59) = true) : DL u m x = DL u m (PL u m (rq5 u m (x.1 + 1, x.2))) := by
  have hl := (rpx_le u m (x.1 + 1, x.2)).1
  dsimp only at hl
  exact (rdl_t c (by omega)).2.trans (rdl_fuel _ _ _ (by omega) (by omega))
theorem DL_f (c : nxb u m x.1 x.2 (nI 59) (nI 59) = false) : DL u m x = x := rdl_f c _
theorem PT_t (c : nxb u m z.1.1 z.1.2 (nI 44) (nI 44) = true) : PT u m t j z = PT u m t j (rsx u m (z.1.1 + 1, z.1.2), sps z.2.1 u m t j (z.1.1 + 1, z.1.2), z.2.2 + spc z.2.1 u m t j (z.1.1 + 1, z.1.2)) := by
  have hl := (rsx_le u m (z.1.1 + 1, z.1.2)).1
  dsimp only at hl
  exact (rtl_t c (by omega)).2.trans (rtl_fuel _ _ _ (by dsimp only; omega) (by dsimp only; omega))
theorem PT_f (c : nxb u m z.1.1 z.1.2 (nI 44) (nI 44) = false) : PT u m t j z = z := rtl_f c _
theorem DT_t (c : nxb u m z.1.1 z.1.2 (nI 59) (nI 59) = true) : DT u m z = DT u m (rtx u m (z.1.1 + 1, z.1.2) z.2.1 z.2.2) := by
  have hl := (rpx_le u m (z.1.1 + 1, z.1.2)).1
  dsimp only at hl
  rw [← rtx_1 u m (z.1.1 + 1, z.1.2) z.2.1 z.2.2] at hl
  exact (rdt_t c (by omega)).2.trans (rdt_fuel _ _ _ (by omega) (by omega))
theorem DT_f (c : nxb u m z.1.1 z.1.2 (nI 59) (nI 59) = false) : DT u m z = z := rdt_f c _
end
/-- the reader's end is the reference's -/
def Eqv (u : Nat → Nat) (m s : Nat) (ρ : Nat → Nat → Nat) (z : Nat × Bool) : Prop := (rbR u (m - s) s ρ).1 = z.1 ∧ ((z.2 = false ∧ z.1 = m) ↔ (z.1 = m ∧ cmR (rbR u (m - s) s ρ).2))
section
variable {u : Nat → Nat} {m s q : Nat} {ρ ρ1 : Nat → Nat → Nat}
theorem Eqv.bad (h : Bad u m s ρ q) : Eqv u m s ρ (q, true) := ⟨h.1, fun k => tf_abs k.1, fun k => absurd k h.2⟩
theorem Eqv.go {s1 : Nat} {z : Nat × Bool} (g : Go u m s ρ s1 ρ1) (h : Eqv u m s1 ρ1 z) : Eqv u m s ρ z := by
  unfold Eqv
  rw [g.2.2.1]
  exact h
theorem lp_one (hu : ∀ i, i < m → u i < 128) (hq : q ≤ m) (hc : cmR ρ) (hr : q < m → sepB (u q) = false → stR ρ (u q) = none)
    (ih : ∀ q' ρ', q < q' → q' ≤ m → cmR ρ' → (q' < m → sepB (u q') = false → stR ρ' (u q') = none) → Eqv u m q' ρ' (DL u m (PL u m (q', false)))) : Eqv u m q ρ (DL u m (PL u m (q, false))) := by
  have n44 : nxb u m q false (nI 44) (nI 44) = decide (q < m ∧ 44 ≤ u q ∧ u q ≤ 44) := nxb_d hu (by decide) (by decide)
  have n59 : nxb u m q false (nI 59) (nI 59) = decide (q < m ∧ 59 ≤ u q ∧ u q ≤ 59) := nxb_d hu (by decide) (by decide)
  by_cases c : q < m
  · by_cases c44 : u q = 44
    · rw [decide_eq_true (p := q < m ∧ 44 ≤ u q ∧ u q ≤ 44) ⟨c, by omega, by omega⟩] at n44
      have st : stR ρ (u q) = some (spR ρ (u q)) := tsep hc (by rw [c44]; rfl)
      have g0 : rbR u (m - q) q ρ = rbR u (m - (q + 1)) (q + 1) (spR ρ (u q)) := by
        rw [rbR_t c (by rw [st]; rfl), st]
        rfl
      obtain ⟨k1, k2⟩ := st4 (s := q + 1) (ρ := spR ρ (u q)) hu c (by rw [c44]; rfl)
      have e : PL u m (q, false) = PL u m (rsx u m (q + 1, false)) := PL_t (x := (q, false)) n44
      rw [e]
      unfold Eqv
      rw [g0]
      show Eqv u m (q + 1) (spR ρ (u q)) (DL u m (PL u m (rsx u m (q + 1, false))))
      generalize rsx u m (q + 1, false) = y at k1 k2 ⊢
      obtain ⟨y1, y2⟩ := y
      cases y2 with
      | true =>
        rw [PL_f rfl, DL_f rfl]
        exact Eqv.bad (k2 rfl)
      | false =>
        obtain ⟨ρ', g, -, -, o1, -, -, o4⟩ := k1 rfl
        exact Eqv.go g (ih y1 ρ' (by have := g.1; dsimp only at this; omega) g.2.1 o1 o4)
    · rw [decide_eq_false (p := q < m ∧ 44 ≤ u q ∧ u q ≤ 44) (by omega)] at n44
      have e : PL u m (q, false) = (q, false) := PL_f (x := (q, false)) n44
      rw [e]
      by_cases c59 : u q = 59
      · rw [decide_eq_true (p := q < m ∧ 59 ≤ u q ∧ u q ≤ 59) ⟨c, by omega, by omega⟩] at n59
        have st : stR ρ (u q) = some (spR ρ (u q)) := tsep hc (by rw [c59]; rfl)
        have g0 : rbR u (m - q) q ρ = rbR u (m - (q + 1)) (q + 1) (spR ρ (u q)) := by
          rw [rbR_t c (by rw [st]; rfl), st]
          rfl
        obtain ⟨k1, k2⟩ := pt5 (s := q + 1) (ρ := spR ρ (u q)) hu c (by rw [c59]; rfl)
        have e : DL u m (q, false) = DL u m (PL u m (rq5 u m (q + 1, false))) := DL_t (x := (q, false)) n59
        rw [e]
        unfold Eqv
        rw [g0]
        show Eqv u m (q + 1) (spR ρ (u q)) (DL u m (PL u m (rq5 u m (q + 1, false))))
        generalize rq5 u m (q + 1, false) = y at k1 k2 ⊢
        obtain ⟨y1, y2⟩ := y
        cases y2 with
        | true =>
          rw [PL_f rfl, DL_f rfl]
          exact Eqv.bad (k2 rfl)
        | false =>
          obtain ⟨ρ', g, -, -, o1, -, -, o4⟩ := k1 rfl
          exact Eqv.go g (ih y1 ρ' (by have := g.1; dsimp only at this; omega) g.2.1 o1 o4)
      · rw [decide_eq_false (p := q < m ∧ 59 ≤ u q ∧ u q ≤ 59) (by omega)] at n59
        have e : DL u m (q, false) = (q, false) := DL_f (x := (q, false)) n59
        rw [e]
        have rj := hr c (sep_n c44 c59)
        unfold Eqv
        rw [(rbR_f c (by rw [rj]; rfl)).1]
        exact ⟨rfl, fun k => by have := k.2; dsimp only at this; omega, fun k => by have := k.1; dsimp only at this; omega⟩
  · rw [decide_eq_false (p := q < m ∧ 44 ≤ u q ∧ u q ≤ 44) (fun h => c h.1)] at n44
    rw [decide_eq_false (p := q < m ∧ 59 ≤ u q ∧ u q ≤ 59) (fun h => c h.1)] at n59
    have e1 : PL u m (q, false) = (q, false) := PL_f (x := (q, false)) n44
    have e2 : DL u m (q, false) = (q, false) := DL_f (x := (q, false)) n59
    rw [e1, e2]
    unfold Eqv
    rw [rbR_0 (by omega)]
    exact ⟨rfl, fun k => ⟨k.2, hc⟩, fun k => ⟨rfl, k.1⟩⟩
theorem lp_all (hu : ∀ i, i < m → u i < 128) : ∀ (k q : Nat) (ρ : Nat → Nat → Nat), m ≤ q + k → q ≤ m → cmR ρ → (q < m → sepB (u q) = false → stR ρ (u q) = none) → Eqv u m q ρ (DL u m (PL u m (q, false)))
  | 0, q, ρ, h, hq, hc, hr => lp_one hu hq hc hr (fun q' ρ' h1 h2 _ _ => absurd h1 (by omega))
  | k + 1, q, ρ, h, hq, hc, hr => lp_one hu hq hc hr (fun q' ρ' h1 h2 h3 h4 => lp_all hu k q' ρ' (by omega) h2 h3 h4)
theorem rd_eq (hu : ∀ i, i < m → u i < 128) (h0 : ρ 0 0 = 0) : Eqv u m 0 ρ (rdx u m) := by
  obtain ⟨k1, k2⟩ := pt5 (s := 0) hu (Nat.zero_le m) h0
  show Eqv u m 0 ρ (DL u m (PL u m (rq5 u m (0, false))))
  generalize rq5 u m (0, false) = y at k1 k2 ⊢
  obtain ⟨y1, y2⟩ := y
  cases y2 with
  | true =>
    rw [PL_f rfl, DL_f rfl]
    exact Eqv.bad (k2 rfl)
  | false =>
    obtain ⟨ρ', g, -, -, o1, -, -, o4⟩ := k1 rfl
    exact Eqv.go g (lp_all hu m y1 ρ' (by omega) g.2.1 o1 o4)
theorem whl_iff : whl u m = true ↔ (rdx u m).2 = false ∧ (rdx u m).1 = m := by
  unfold whl
  simp only [Bool.and_eq_true, Bool.not_eq_true', decide_eq_true_eq]
theorem rd_first (hu : ∀ i, i < m → u i < 128) (h0 : ρ 0 0 = 0) : (rbR u m 0 ρ).1 = if whl u m then m else (rdx u m).1 := by
  have e := (rd_eq hu h0).1
  rw [Nat.sub_zero] at e
  by_cases c : whl u m = true
  · rw [if_pos c, e]
    exact (whl_iff.mp c).2
  · rw [if_neg c]
    exact e
theorem rd_whole (hu : ∀ i, i < m → u i < 128) (h0 : ρ 0 0 = 0) : whl u m = true ↔ (rbR u m 0 ρ).1 = m ∧ cmR (rbR u m 0 ρ).2 := by
  obtain ⟨e1, e2⟩ := rd_eq hu h0
  rw [Nat.sub_zero] at e1 e2
  rw [whl_iff, e2, e1]
end
