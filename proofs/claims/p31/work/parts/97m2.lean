theorem onS_le : ∀ (n : Nat) (τ : Nat → Nat → Nat), (onS n τ).1 ≤ n
  | 0, _ => Nat.le_refl 0
  | n + 1, τ => by
    cases c : canS τ
    · rw [onS_f c]; exact Nat.zero_le _
    · rw [onS_t c]
      have := onS_le n (goS τ)
      show (onS n (goS τ)).1 + 1 ≤ n + 1
      omega
/-! ===== the law's acts: what they come to ===== -/
theorem AcR.k {yL : MethodName} {wsL : List Cond} {rmL : Room} {av : List Value} {τ τ' : Nat → Nat → Nat} {T r U : Nat} (hr : r < 2000000000) (h : Iv τ' U) (hU : U ≤ T + 5760) (hk : AcK yL wsL rmL av τ r τ') : AcR yL wsL rmL av τ T := Or.inl ⟨r, τ', hr, h.mono hU, hk⟩
theorem AcR.x {yL : MethodName} {wsL : List Cond} {rmL : Room} {av : List Value} {τ : Nat → Nat → Nat} {T : Nat} (th : Nat) (h0 : 0 < th) (h3 : th ≤ 3) (hx : AcX yL wsL rmL av τ th) : AcR yL wsL rmL av τ T := Or.inr ⟨th, h0, h3, hx⟩
theorem rp_lt {τ : Nat → Nat → Nat} {u v w : Nat} {mv : Nat → Nat} (h : ∀ k, k < 96 → τ 0 k < 4096) : ∀ k, k < 96 → rpC τ u v w mv 32 k < 4096 := fun k hk => rpC_ok h 32 k hk
section ACT
variable {τ : Nat → Nat → Nat} {T : Nat}
theorem ch_0 (h : Iv τ T) (x y z : Int32) : AcR yL_changes wsL_changes rmL_changes [.int (nI 0), .int x, .int y, .int z] τ T := by
  have ok := h.1.1
  by_cases c1 : (blw x (nI 3) && blw y (nI 12) && blw z (nI 32)) = true
  case neg =>
    refine AcR.x 1 (by decide) (by decide) (fun l D c a b θ ρ κ sz o f hfl he hold hcnt => ?_)
    exact wchanges_0_xI l D c o f sz _ _ _ x y z rfl (mX2_pin_x1 l hfl D c a b θ ρ κ sz x y z (eq_false_of_ne_true c1))
  case pos =>
    obtain ⟨d2, b2⟩ := and_true_iff' c1
    obtain ⟨b0, b1⟩ := and_true_iff' d2
    obtain ⟨t, ht, rfl⟩ := blw_of (by decide) b0
    obtain ⟨j, hj, rfl⟩ := blw_of (by decide) b1
    obtain ⟨p, hp, rfl⟩ := blw_of (by decide) b2
    by_cases hh : hiS' τ t j p = 0
    · refine AcR.k (r := poS (pu τ 0 (fu (τ 0) (t * 32 + p) (τ 0 (t * 32 + p) ||| 2 ^ j))) t 32) (Nat.lt_of_le_of_lt (po_le _ _) (by decide)) (h.c0 (fu_lt (i := t * 32 + p) ok.1 (bit_lt (ok.1 (t * 32 + p) (by omega)) hj))) (Nat.le_add_right _ _) (fun l D c a b θ ρ κ sz o f hfl he hold hcnt => ?_)
      subst he
      exact wchanges_0_k l D c o f sz _ _ _ (nI t) (nI j) (nI p) _ rfl (mX2_pin_k l D c a b θ ρ κ sz t j p T ht hj hp ok hold hcnt hh).to3
    · refine AcR.x 3 (by decide) (by decide) (fun l D c a b θ ρ κ sz o f hfl he hold hcnt => ?_)
      subst he
      exact wchanges_0_xS l D c o f sz _ _ _ _ _ _ rfl (mX2_pin_x2 l hfl D c a b θ ρ κ sz t j p T ht hj hp ok hh)
theorem ch_1 (h : Iv τ T) (x y z : Int32) : AcR yL_changes wsL_changes rmL_changes [.int (nI 1), .int x, .int y, .int z] τ T := by
  have ok := h.1.1
  generalize hu : z + nI 5 = u
  by_cases c1 : (blw x (nI 3) && blw y (nI 12) && blw z (nI 32) && blw u (nI 32)) = true
  case neg =>
    refine AcR.x 1 (by decide) (by decide) (fun l D c a b θ ρ κ sz o f hfl he hold hcnt => ?_)
    exact wchanges_1_xI l D c o f sz _ _ _ x y z rfl (hu ▸ mX2_pull_x1 l hfl D c a b θ ρ κ sz x y z u (eq_false_of_ne_true c1))
  case pos =>
    obtain ⟨d3, b3⟩ := and_true_iff' c1
    obtain ⟨d2, b2⟩ := and_true_iff' d3
    obtain ⟨b0, b1⟩ := and_true_iff' d2
    obtain ⟨t, ht, rfl⟩ := blw_of (by decide) b0
    obtain ⟨j, hj, rfl⟩ := blw_of (by decide) b1
    obtain ⟨p, hp, rfl⟩ := blw_of (by decide) b2
    obtain ⟨q, hq, rfl⟩ := blw_of (by decide) b3
    by_cases hpq : p ≤ q
    · have e := tkC_ok (τ := τ) (t := t) (j := j) (x := p) ok.1 hj ht (q + 1 - p) (by omega)
      refine AcR.k (Nat.lt_of_le_of_lt e.1 (by omega)) (h.c0 e.2) (Nat.le_add_right _ _) (fun l D c a b θ ρ κ sz o f hfl he hold hcnt => ?_)
      subst he
      exact wchanges_1_k l D c o f sz _ _ _ (nI t) (nI j) (nI p) _ rfl (hu ▸ (mX2_pull_k l D c a b θ ρ κ sz t j p q T ht hj hp hq hpq ok hold hcnt).to3)
    · refine AcR.x 2 (by decide) (by decide) (fun l D c a b θ ρ κ sz o f hfl he hold hcnt => ?_)
      exact wchanges_1_xA l D c o f sz _ _ _ _ _ _ rfl (hu ▸ mX2_pull_x2 l hfl D c a b θ ρ κ sz t j p q ht hj hp hq (Nat.lt_of_not_le hpq))
theorem ch_2 (h : Iv τ T) (x y z : Int32) : AcR yL_changes wsL_changes rmL_changes [.int (nI 2), .int x, .int y, .int z] τ T := by
  have ok := h.1.1
  by_cases c1 : (inb x (nI 1) (nI 400)) = true
  case neg =>
    refine AcR.x 2 (by decide) (by decide) (fun l D c a b θ ρ κ sz o f hfl he hold hcnt => ?_)
    exact wchanges_2_xA l D c o f sz _ _ _ x y z rfl (mX2_wind_x1 l hfl D c a b θ ρ κ sz x (eq_false_of_ne_true c1))
  case pos =>
    obtain ⟨n, n1, n2, rfl⟩ := inb_rng (by decide) (by decide) c1
    refine AcR.k (r := min 400 (τ 10 0 + n)) (by omega) (h.c10 (Nat.min_le_left 400 (τ 10 0 + n))) (Nat.le_add_right _ _) (fun l D c a b θ ρ κ sz o f hfl he hold hcnt => ?_)
    subst he
    exact wchanges_2_k l D c o f sz _ _ _ (nI n) y z _ rfl (mX2_wind_k l D c a b θ ρ κ sz n T n1 n2 ok hold hcnt).to3
theorem ch_3 (h : Iv τ T) (x y z : Int32) : AcR yL_changes wsL_changes rmL_changes [.int (nI 3), .int x, .int y, .int z] τ T := by
  have ok := h.1.1
  by_cases c1 : (inb x (nI 1) (nI 9)) = true
  case neg =>
    refine AcR.x 2 (by decide) (by decide) (fun l D c a b θ ρ κ sz o f hfl he hold hcnt => ?_)
    exact wchanges_3_xA l D c o f sz _ _ _ x y z rfl (mX2_vanes_x1 l hfl D c a b θ ρ κ sz x (eq_false_of_ne_true c1))
  case pos =>
    obtain ⟨n, n1, n2, rfl⟩ := inb_rng (by decide) (by decide) c1
    refine AcR.k (Nat.lt_of_le_of_lt ok.2.2.2.2.2.2.2.2.1 (by decide)) (h.c11 n2) (Nat.le_add_right _ _) (fun l D c a b θ ρ κ sz o f hfl he hold hcnt => ?_)
    subst he
    exact wchanges_3_k l D c o f sz _ _ _ (nI n) y z _ rfl (mX2_vanes_k l D c a b θ ρ κ sz n n1 n2 hold hcnt).to3
theorem ch_4 (h : Iv τ T) (x y z : Int32) : AcR yL_changes wsL_changes rmL_changes [.int (nI 4), .int x, .int y, .int z] τ T := by
  have ok := h.1.1
  by_cases c1 : (blw x (nI 3)) = true
  case neg =>
    refine AcR.x 1 (by decide) (by decide) (fun l D c a b θ ρ κ sz o f hfl he hold hcnt => ?_)
    exact wchanges_4_xI l D c o f sz _ _ _ x y z rfl (mX2_shift_x1 l hfl D c a b θ ρ κ sz x (eq_false_of_ne_true c1))
  case pos =>
    obtain ⟨t, ht, rfl⟩ := blw_of (by decide) c1
    refine AcR.k (Nat.lt_trans ok.2.2.2.2.2.2.1 (by decide)) (h.c9 ht) (Nat.le_add_right _ _) (fun l D c a b θ ρ κ sz o f hfl he hold hcnt => ?_)
    subst he
    exact wchanges_4_k l D c o f sz _ _ _ (nI t) y z _ rfl (mX2_shift_k l D c a b θ ρ κ sz t ht hold hcnt).to3
theorem ch_5 (h : Iv τ T) (hT : T < 100000000) (x y z : Int32) : AcR yL_changes wsL_changes rmL_changes [.int (nI 5), .int x, .int y, .int z] τ T := by
  have ok := h.1.1
  by_cases c1 : (inb x (nI 1) (nI 128)) = true
  case neg =>
    refine AcR.x 2 (by decide) (by decide) (fun l D c a b θ ρ κ sz o f hfl he hold hcnt => ?_)
    exact wchanges_5_xA l D c o f sz _ _ _ x y z rfl (mX2_play_x1 l hfl D c a b θ ρ κ sz x (eq_false_of_ne_true c1))
  case pos =>
    obtain ⟨n, n1, n2, rfl⟩ := inb_rng (by decide) (by decide) c1
    refine AcR.k (Nat.lt_of_le_of_lt (onS_le n τ) (by omega)) (Iv.on n h) (by omega) (fun l D c a b θ ρ κ sz o f hfl he hold hcnt => ?_)
    subst he
    exact wchanges_5_k l D c o f sz _ _ _ (nI n) y z _ rfl (mX2_play_k l D c a b θ ρ κ sz n T n1 n2 ok (by omega) hold hcnt).to3
theorem ch_6 (h : Iv τ T) (x y z : Int32) : AcR yL_changes wsL_changes rmL_changes [.int (nI 6), .int x, .int y, .int z] τ T := by
  have ok := h.1.1
  by_cases c1 : (blw x (nI 12)) = true
  case neg =>
    refine AcR.x 1 (by decide) (by decide) (fun l D c a b θ ρ κ sz o f hfl he hold hcnt => ?_)
    exact wchanges_6_xI l D c o f sz _ _ _ x y z rfl (mX2_mend_x1 l hfl D c a b θ ρ κ sz x (eq_false_of_ne_true c1))
  case pos =>
    obtain ⟨j, hj, rfl⟩ := blw_of (by decide) c1
    refine AcR.k (Nat.lt_of_le_of_lt (ok.2.2.1 j hj) (by decide)) (h.md hj) (Nat.le_add_right _ _) (fun l D c a b θ ρ κ sz o f hfl he hold hcnt => ?_)
    subst he
    exact wchanges_6_k l D c o f sz _ _ _ (nI j) y z _ rfl (mX2_mend_k l D c a b θ ρ κ sz j T hj ok hold hcnt).to3
theorem ch_7 (h : Iv τ T) (x y z : Int32) : AcR yL_changes wsL_changes rmL_changes [.int (nI 7), .int x, .int y, .int z] τ T := by
  have ok := h.1.1
  by_cases c1 : (blw x (nI 5)) = true
  case neg =>
    refine AcR.x 1 (by decide) (by decide) (fun l D c a b θ ρ κ sz o f hfl he hold hcnt => ?_)
    exact wchanges_7_xI l D c o f sz _ _ _ x y z rfl (mX2_set_x1 l hfl D c a b θ ρ κ sz x y (eq_false_of_ne_true c1))
  case pos =>
    obtain ⟨i, hi, rfl⟩ := blw_of (by decide) c1
    by_cases hv : inb y (nI (loS i)) (nI (hiS i)) = true
    · have hlo : loS i < 2 ^ 31 := by rcases (show i = 0 ∨ i = 1 ∨ i = 2 ∨ i = 3 ∨ i = 4 by omega) with rfl | rfl | rfl | rfl | rfl <;> decide
      have hhi : hiS i < 2 ^ 31 := by rcases (show i = 0 ∨ i = 1 ∨ i = 2 ∨ i = 3 ∨ i = 4 by omega) with rfl | rfl | rfl | rfl | rfl <;> decide
      obtain ⟨n, n1, n2, rfl⟩ := inb_rng hlo hhi hv
      have h6 : τ 6 i ≤ 90 := by
        obtain ⟨s0, s1, s2, s3, s4⟩ := ok.2.2.2.1
        rcases (show i = 0 ∨ i = 1 ∨ i = 2 ∨ i = 3 ∨ i = 4 by omega) with rfl | rfl | rfl | rfl | rfl <;> omega
      refine AcR.k (r := τ 6 i) (by omega) (h.c6 hi n2) (Nat.le_add_right _ _) (fun l D c a b θ ρ κ sz o f hfl he hold hcnt => ?_)
      subst he
      exact wchanges_7_k l D c o f sz _ _ _ (nI i) (nI n) z _ rfl (mX2_set_k l D c a b θ ρ κ sz i n hi hv hold hcnt)
    · refine AcR.x 2 (by decide) (by decide) (fun l D c a b θ ρ κ sz o f hfl he hold hcnt => ?_)
      exact wchanges_7_xA l D c o f sz _ _ _ _ _ _ rfl (mX2_set_x2 l hfl D c a b θ ρ κ sz i y hi (eq_false_of_ne_true hv))
theorem co_r (h : Iv τ T) (x y z u : Int32) : AcR yL_copies wsL_copies rmL_copies [.int x, .int y, .int z, .int u] τ T := by
  have ok := h.1.1
  by_cases c1 : (blw x (nI 3) && blw y (nI 3)) = true
  case neg =>
    refine AcR.x 1 (by decide) (by decide) (fun l D c a b θ ρ κ sz o f hfl he hold hcnt => ?_)
    exact wcopies_xI l D c o f sz _ _ _ x y z u rfl (mX2_copy_x1 l hfl D c a b θ ρ κ sz x y z u (eq_false_of_ne_true c1))
  case pos =>
    obtain ⟨b0, b1⟩ := and_true_iff' c1
    obtain ⟨t, ht, rfl⟩ := blw_of (by decide) b0
    obtain ⟨v, hv, rfl⟩ := blw_of (by decide) b1
    by_cases hbad : t = v ∨ inb z (nI (4294967265)) (nI (31)) = false ∨ inb u (nI (4294967285)) (nI (11)) = false
    · refine AcR.x 2 (by decide) (by decide) (fun l D c a b θ ρ κ sz o f hfl he hold hcnt => ?_)
      exact wcopies_xA l D c o f sz _ _ _ _ _ _ _ rfl (mX2_copy_x2 l hfl D c a b θ ρ κ sz t v z u ht hv hbad)
    · have n1 : ¬ t = v := fun q => hbad (Or.inl q)
      obtain ⟨w, w1, w2, rfl⟩ := inb_sub (k := 32) (by decide) (by decide) (by decide) (eq_true_of_ne_false fun q => hbad (Or.inr (Or.inl q)))
      obtain ⟨g, g1, g2, rfl⟩ := inb_sub (k := 12) (by decide) (by decide) (by decide) (eq_true_of_ne_false fun q => hbad (Or.inr (Or.inr q)))
      by_cases hg : g < 12
      · refine AcR.k (r := poS (pu τ 0 (rpC τ t v w (fun x => x / 2 ^ (12 - g)) 32)) v 32) (Nat.lt_of_le_of_lt (po_le _ _) (by decide)) (h.c0 (rp_lt (u := t) (v := v) (w := w) (mv := fun x => x / 2 ^ (12 - g)) ok.1)) (Nat.le_add_right _ _) (fun l D c a b θ ρ κ sz o f hfl he hold hcnt => ?_)
        subst he
        exact wcopies_k l D c o f sz _ _ _ (nI t) (nI v) (nI w - nI 32) (nI g - nI 12) _ rfl (mX2_copy_m l D c a b θ ρ κ sz t v w g T ht hv n1 w1 (by omega) g1 hg ok hold hcnt).to3
      · obtain ⟨i, rfl⟩ : ∃ i, g = i + 12 := ⟨g - 12, by omega⟩
        have ei : nI (i + 12) - nI 12 = nI i := by rw [pk_sub (by omega)]; exact congrArg nI (by omega)
        rw [ei]
        refine AcR.k (r := poS (pu τ 0 (rpC τ t v w (fun x => x * 2 ^ i) 32)) v 32) (Nat.lt_of_le_of_lt (po_le _ _) (by decide)) (h.c0 (rp_lt (u := t) (v := v) (w := w) (mv := fun x => x * 2 ^ i) ok.1)) (Nat.le_add_right _ _) (fun l D c a b θ ρ κ sz o f hfl he hold hcnt => ?_)
        subst he
        exact wcopies_k l D c o f sz _ _ _ (nI t) (nI v) (nI w - nI 32) (nI i) _ rfl (mX2_copy_k l D c a b θ ρ κ sz t v w i T ht hv n1 w1 (by omega) (by omega) ok hold hcnt).to3
end ACT
