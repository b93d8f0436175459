/-! ===== the law's steps: the wrapper and the reference ===== -/
theorem blw_inb {v : Int32} {k : Nat} (hk : k + 1 < 2 ^ 31) : blw v (nI (k + 1)) = inb v (nI 0) (nI k) := by
  unfold blw inb
  congr 1
  rw [Bool.eq_iff_iff, Bool.not_eq_true', decide_eq_true_eq, decide_eq_false_iff_not, Int32.lt_iff_toInt_lt, Int32.lt_iff_toInt_lt, nI_toInt hk, nI_toInt (by omega)]
  omega
theorem inb_sub {x : Int32} {k lo hi : Nat} (hk : k < 2 ^ 30) (hlo : (nI lo).toInt = -(k : Int) + 1) (hhi : hi < 2 ^ 30) (h : inb x (nI lo) (nI hi) = true) : ∃ n : Nat, 1 ≤ n ∧ n ≤ k + hi ∧ x = nI n - nI k := by
  unfold inb at h
  simp only [Bool.and_eq_true, Bool.not_eq_true', decide_eq_false_iff_not] at h
  obtain ⟨h1, h2⟩ := h
  rw [Int32.lt_iff_toInt_lt, hlo] at h1
  rw [Int32.lt_iff_toInt_lt, nI_toInt (by omega)] at h2
  refine ⟨(x.toInt + k).toNat, by omega, by omega, Int32.toInt_inj.mp ?_⟩
  have e : (nI (x.toInt + k).toNat - nI k).toInt = ((x.toInt + k).toNat : Int) - k := by
    rw [Int32.toInt_sub, nI_toInt (by omega), nI_toInt (by omega)]
    exact Int.bmod_eq_of_le (by omega) (by omega)
  rw [e]
  omega
theorem Rl.ok {θ : Nat → Nat → Nat → Nat} {ρ κ φ : Nat → Nat → Nat} {T : Nat} (h : Rl θ ρ κ φ T) : okS (θ 0) T := h.1.2.1
theorem Rl.om {θ : Nat → Nat → Nat → Nat} {ρ κ φ : Nat → Nat → Nat} {T : Nat} (h : Rl θ ρ κ φ T) : okM (φ 0) := h.1.2.2
theorem Rl.rl {θ : Nat → Nat → Nat → Nat} {ρ κ φ : Nat → Nat → Nat} {T : Nat} (h : Rl θ ρ κ φ T) : rl (θ 0) (φ 0) := h.1.1
theorem Rl.hold {θ : Nat → Nat → Nat → Nat} {ρ κ φ : Nat → Nat → Nat} {T : Nat} (h : Rl θ ρ κ φ T) : κ 2 0 < 6 := h.2.1.2.1
theorem Rl.cnt {θ : Nat → Nat → Nat → Nat} {ρ κ φ : Nat → Nat → Nat} {T : Nat} (h : Rl θ ρ κ φ T) : κ 3 0 ≤ 6 := h.2.1.2.2.1
theorem Rl.e6 {θ : Nat → Nat → Nat → Nat} {ρ κ φ : Nat → Nat → Nat} {T : Nat} (h : Rl θ ρ κ φ T) : κ 3 0 = φ 6 0 := h.2.1.1
theorem Rl.six {θ : Nat → Nat → Nat → Nat} {ρ κ φ : Nat → Nat → Nat} {T : Nat} (h : Rl θ ρ κ φ T) : φ 6 0 ≤ 6 := h.e6 ▸ h.cnt
theorem Rl.t9 {θ : Nat → Nat → Nat → Nat} {ρ κ φ : Nat → Nat → Nat} {T : Nat} (h : Rl θ ρ κ φ T) : θ 0 9 0 < 3 := h.ok.2.2.2.2.2.2.1
theorem Rl.pin32 {θ : Nat → Nat → Nat → Nat} {ρ κ φ : Nat → Nat → Nat} {T : Nat} (h : Rl θ ρ κ φ T) : ∀ i, i < 36 → φ 0 i < 2 ^ 32 := fun _ hi => h.om.pin hi
theorem Rl.hind {θ : Nat → Nat → Nat → Nat} {ρ κ φ : Nat → Nat → Nat} {T t j p : Nat} (h : Rl θ ρ κ φ T) (ht : t < 3) (hj : j < 12) (hp : p < 32) : hiS' (θ 0) t j p = hind (φ 0) t j p := rl_hind h.rl.1 ht hj hp (h.ok.1 _ (by omega)) h.rl.2.2.2.2.2.2.2.1 h.rl.2.2.2.2.2.2.2.2
def StE (l : Launch) (D : va_G) (c : Nat → ClassId) (yL : MethodName) (wsL : List Cond) (rmL : Room) (yX : MethodName) (wsX : List Cond) (rmX : Room) (av : List Value) (a : Nat → Nat) (b : Nat → Nat → Nat) (a' : Nat → Nat) (o : Nat) (f : Nat → Int64) (θ : Nat → Nat → Nat → Nat) (ρ κ φ : Nat → Nat → Nat) (δ : Int64) (T : Nat) : Prop :=
  ∃ (k : Nat) (r : Int32) (θ' : Nat → Nat → Nat → Nat) (ρ' κ' φ' : Nat → Nat → Nat) (f' : Nat → Int64), k < 3 ∧ φ' 5 0 = k ∧ (k = 0 → f' 0 = r.toInt64) ∧ Rl θ' ρ' κ' φ' (T + 5760) ∧
    (∀ sz, MW l yL wsL rmL D c sz (wP c a b θ ρ κ ++ wO c o f) (.ref (a 0) :: (av ++ [.ref o])) (nI k) (wP c a b θ' ρ' κ' ++ wO c o f')) ∧ (∀ sz, MI l yX wsX rmX D c sz (wM c a' φ δ) (.ref (a' 0) :: av) r (wM c a' φ' δ))
/-- a step of the law: what the wrapper answers is what the reference says was thrown; where nothing was, the two answers are one; the relation holds again -/
def Stq (l : Launch) (D : va_G) (c : Nat → ClassId) (yL : MethodName) (wsL : List Cond) (rmL : Room) (yX : MethodName) (wsX : List Cond) (rmX : Room) (av : List Value) : Prop :=
  ∀ (a : Nat → Nat) (b : Nat → Nat → Nat) (a' : Nat → Nat) (o : Nat) (f : Nat → Int64) (θ : Nat → Nat → Nat → Nat) (ρ κ φ : Nat → Nat → Nat) (δ : Int64) (T : Nat), Rl θ ρ κ φ T → T + 5760 < 200000000 → StE l D c yL wsL rmL yX wsX rmX av a b a' o f θ ρ κ φ δ T
section STE
variable {l : Launch} {D : va_G} {c : Nat → ClassId} {yL : MethodName} {wsL : List Cond} {rmL : Room} {yX : MethodName} {wsX : List Cond} {rmX : Room} {av : List Value} {a : Nat → Nat} {b : Nat → Nat → Nat} {a' : Nat → Nat} {o : Nat} {f : Nat → Int64} {θ : Nat → Nat → Nat → Nat} {ρ κ φ : Nat → Nat → Nat} {δ : Int64} {T : Nat}
theorem StE.x (k : Nat) {ρ' φ' : Nat → Nat → Nat} {r : Int32} (hk : k < 3) (h0 : k ≠ 0) (h5 : φ' 5 0 = k) (h : Rl θ ρ' κ φ' T) (hw : ∀ sz, MW l yL wsL rmL D c sz (wP c a b θ ρ κ ++ wO c o f) (.ref (a 0) :: (av ++ [.ref o])) (nI k) (wP c a b θ ρ' κ ++ wO c o f)) (hm : ∀ sz, MI l yX wsX rmX D c sz (wM c a' φ δ) (.ref (a' 0) :: av) r (wM c a' φ' δ)) : StE l D c yL wsL rmL yX wsX rmX av a b a' o f θ ρ κ φ δ T :=
  ⟨k, r, θ, ρ', κ, φ', f, hk, h5, fun e => absurd e h0, h.mono (Nat.le_add_right _ _), hw, hm⟩
theorem StE.k {θ' : Nat → Nat → Nat → Nat} {ρ' κ' φ' : Nat → Nat → Nat} {r r' : Int32} (hw : ∀ sz, MW l yL wsL rmL D c sz (wP c a b θ ρ κ ++ wO c o f) (.ref (a 0) :: (av ++ [.ref o])) (nI 0) (wP c a b θ' ρ' κ' ++ wO c o (vp_updL f 0 r'.toInt64))) (hm : ∀ sz, MI l yX wsX rmX D c sz (wM c a' φ δ) (.ref (a' 0) :: av) r (wM c a' φ' δ)) (hr : r' = r) (h5 : φ' 5 0 = 0) (h : Rl θ' ρ' κ' φ' (T + 5760)) : StE l D c yL wsL rmL yX wsX rmX av a b a' o f θ ρ κ φ δ T :=
  ⟨0, r, θ', ρ', κ', φ', vp_updL f 0 r'.toInt64, by decide, h5, fun _ => by rw [← hr]; exact if_pos rfl, h, hw, hm⟩
end STE
theorem and_true_iff' {x y : Bool} (h : (x && y) = true) : x = true ∧ y = true := by
  cases x <;> cases y <;> first | exact ⟨rfl, rfl⟩ | cases h
theorem st_pin (l : Launch) (hfl : l.stackTraces = false) (D : va_G) (c : Nat → ClassId) (x y z : Int32) : Stq l D c yL_pin wsL_pin rmL_pin yX3_pin wsX3_pin rmX3_pin [.int x, .int y, .int z] := by
  intro a b a' o f θ ρ κ φ δ T h hT
  by_cases c1 : (blw x (nI 3) && blw y (nI 12) && blw z (nI 32)) = true
  case neg =>
    have c2 : (blw x (nI 3) && blw y (nI 12) && blw z (nI 32)) = false := eq_false_of_ne_true c1
    have c3 : (inb x (nI 0) (nI 2) && inb y (nI 0) (nI 11) && inb z (nI 0) (nI 31)) = false := by rw [← (blw_inb (k := 2) (by decide) : blw x (nI 3) = inb x (nI 0) (nI 2)), ← (blw_inb (k := 11) (by decide) : blw y (nI 12) = inb y (nI 0) (nI 11)), ← (blw_inb (k := 31) (by decide) : blw z (nI 32) = inb z (nI 0) (nI 31))]; exact c2
    exact StE.x 1 (by decide) (by decide) rfl (h.five _) (fun sz => wL_pin_x1 l D c o f sz _ _ _ x y z rfl (mX2_pin_x1 l hfl D c a b θ ρ κ sz x y z c2)) (fun sz => mX3_pin_x1 l D c a' φ δ sz x y z c3)
  case pos =>
    obtain ⟨d2, b2⟩ := and_true_iff' c1
    obtain ⟨d1, b1⟩ := and_true_iff' d2
    have b0 := d1
    obtain ⟨t, ht, rfl⟩ := blw_of (by decide) b0
    obtain ⟨j, hj, rfl⟩ := blw_of (by decide) b1
    obtain ⟨p, hp, rfl⟩ := blw_of (by decide) b2
    by_cases hh : hiS' (θ 0) t j p = 0
    · have e := R0.pin h.1 ht hj hp
      exact StE.k (fun sz => wL_pin_k l D c o f sz _ _ _ (nI t) (nI j) (nI p) _ rfl (mX2_pin_k l D c a b θ ρ κ sz t j p T ht hj hp h.ok h.hold h.cnt hh).to3) (fun sz => mX3_pin_k l D c a' φ δ sz t j p ht hj hp h.om h.six (h.hind ht hj hp ▸ hh)) (congrArg nI (e.2)) rfl (h.chg (Nat.le_add_right T 5760) (e.1.mono (Nat.le_add_right T 5760)) rfl rfl rfl rfl rfl rfl)
    · exact StE.x 2 (by decide) (by decide) rfl (h.five _) (fun sz => wL_pin_x2 l D c o f sz _ _ _ _ _ _ rfl (mX2_pin_x2 l hfl D c a b θ ρ κ sz t j p T ht hj hp h.ok hh)) (fun sz => mX3_pin_x2 l D c a' φ δ sz t j p ht hj hp h.om (Nat.pos_of_ne_zero (h.hind ht hj hp ▸ hh)))
theorem st_pull (l : Launch) (hfl : l.stackTraces = false) (D : va_G) (c : Nat → ClassId) (x y z u : Int32) : Stq l D c yL_pull wsL_pull rmL_pull yX3_pull wsX3_pull rmX3_pull [.int x, .int y, .int z, .int u] := by
  intro a b a' o f θ ρ κ φ δ T h hT
  by_cases c1 : (blw x (nI 3) && blw y (nI 12) && blw z (nI 32) && blw u (nI 32)) = true
  case neg =>
    have c2 : (blw x (nI 3) && blw y (nI 12) && blw z (nI 32) && blw u (nI 32)) = false := eq_false_of_ne_true c1
    have c3 : (inb x (nI 0) (nI 2) && inb y (nI 0) (nI 11) && inb z (nI 0) (nI 31) && inb u (nI 0) (nI 31)) = false := by rw [← (blw_inb (k := 2) (by decide) : blw x (nI 3) = inb x (nI 0) (nI 2)), ← (blw_inb (k := 11) (by decide) : blw y (nI 12) = inb y (nI 0) (nI 11)), ← (blw_inb (k := 31) (by decide) : blw z (nI 32) = inb z (nI 0) (nI 31)), ← (blw_inb (k := 31) (by decide) : blw u (nI 32) = inb u (nI 0) (nI 31))]; exact c2
    exact StE.x 1 (by decide) (by decide) rfl (h.five _) (fun sz => wL_pull_x1 l D c o f sz _ _ _ x y z u rfl (mX2_pull_x1 l hfl D c a b θ ρ κ sz x y z u c2)) (fun sz => mX3_pull_x1 l D c a' φ δ sz x y z u c3)
  case pos =>
    obtain ⟨d3, b3⟩ := and_true_iff' c1
    obtain ⟨d2, b2⟩ := and_true_iff' d3
    obtain ⟨d1, b1⟩ := and_true_iff' d2
    have b0 := d1
    obtain ⟨t, ht, rfl⟩ := blw_of (by decide) b0
    obtain ⟨j, hj, rfl⟩ := blw_of (by decide) b1
    obtain ⟨p, hp, rfl⟩ := blw_of (by decide) b2
    obtain ⟨q, hq, rfl⟩ := blw_of (by decide) b3
    by_cases hpq : p ≤ q
    · have e := R0.pull (x := p) (k := q + 1 - p) h.1 ht hj (by omega)
      exact StE.k (fun sz => wL_pull_k l D c o f sz _ _ _ (nI t) (nI j) (nI p) (nI q) _ rfl (mX2_pull_k l D c a b θ ρ κ sz t j p q T ht hj hp hq hpq h.ok h.hold h.cnt).to3) (fun sz => mX3_pull_k l D c a' φ δ sz t j p q ht hj hp hq hpq h.om h.six) (congrArg nI (e.2)) rfl (h.chg (Nat.le_add_right T 5760) (e.1.mono (Nat.le_add_right T 5760)) rfl rfl rfl rfl rfl rfl)
    · exact StE.x 2 (by decide) (by decide) rfl (h.five _) (fun sz => wL_pull_x2 l D c o f sz _ _ _ _ _ _ _ rfl (mX2_pull_x2 l hfl D c a b θ ρ κ sz t j p q ht hj hp hq (Nat.lt_of_not_le hpq))) (fun sz => mX3_pull_x2 l D c a' φ δ sz t j p q ht hj hp hq (Nat.lt_of_not_le hpq))
theorem st_copy (l : Launch) (hfl : l.stackTraces = false) (D : va_G) (c : Nat → ClassId) (x y z u : Int32) : Stq l D c yL_copy wsL_copy rmL_copy yX3_copy wsX3_copy rmX3_copy [.int x, .int y, .int z, .int u] := by
  intro a b a' o f θ ρ κ φ δ T h hT
  by_cases c1 : (blw x (nI 3) && blw y (nI 3)) = true
  case neg =>
    have c2 : (blw x (nI 3) && blw y (nI 3)) = false := eq_false_of_ne_true c1
    have c3 : (inb x (nI 0) (nI 2) && inb y (nI 0) (nI 2)) = false := by rw [← (blw_inb (k := 2) (by decide) : blw x (nI 3) = inb x (nI 0) (nI 2)), ← (blw_inb (k := 2) (by decide) : blw y (nI 3) = inb y (nI 0) (nI 2))]; exact c2
    exact StE.x 1 (by decide) (by decide) rfl (h.five _) (fun sz => wL_copy_x1 l D c o f sz _ _ _ x y z u rfl (mX2_copy_x1 l hfl D c a b θ ρ κ sz x y z u c2)) (fun sz => mX3_copy_x1 l D c a' φ δ sz x y z u c3)
  case pos =>
    obtain ⟨d1, b1⟩ := and_true_iff' c1
    have b0 := d1
    obtain ⟨t, ht, rfl⟩ := blw_of (by decide) b0
    obtain ⟨v, hv, rfl⟩ := blw_of (by decide) b1
    by_cases hbad : t = v ∨ inb z (nI (4294967265)) (nI (31)) = false ∨ inb u (nI (4294967285)) (nI (11)) = false
    · exact StE.x 2 (by decide) (by decide) rfl (h.five _) (fun sz => wL_copy_x2 l D c o f sz _ _ _ _ _ _ _ rfl (mX2_copy_x2 l hfl D c a b θ ρ κ sz t v z u ht hv hbad)) (fun sz => mX3_copy_x2 l D c a' φ δ sz t v z u ht hv hbad)
    · have n1 : ¬ t = v := fun q => hbad (Or.inl q)
      obtain ⟨w, w1, w2, rfl⟩ := inb_sub (k := 32) (by decide) (by decide) (by decide) (eq_true_of_ne_false fun q => hbad (Or.inr (Or.inl q)))
      obtain ⟨g, g1, g2, rfl⟩ := inb_sub (k := 12) (by decide) (by decide) (by decide) (eq_true_of_ne_false fun q => hbad (Or.inr (Or.inr q)))
      by_cases hg : g < 12
      · have e := R0.copy (w := w) (v := g) (mv := fun x => x / 2 ^ (12 - g)) h.1 ht hv n1 (by omega) (mv_dn hg)
        exact StE.k (fun sz => wL_copy_k l D c o f sz _ _ _ (nI t) (nI v) (nI w - nI 32) (nI g - nI 12) _ rfl (mX2_copy_m l D c a b θ ρ κ sz t v w g T ht hv n1 w1 (by omega) g1 hg h.ok h.hold h.cnt).to3) (fun sz => mX3_copy_k l D c a' φ δ sz t v w g ht hv n1 w1 (by omega) g1 (by omega) h.six) (congrArg nI (e.2)) rfl (h.chg (Nat.le_add_right T 5760) (e.1.mono (Nat.le_add_right T 5760)) rfl rfl rfl rfl rfl rfl)
      · obtain ⟨i, rfl⟩ : ∃ i, g = i + 12 := ⟨g - 12, by omega⟩
        have e := R0.copy (w := w) (v := i + 12) (mv := fun x => x * 2 ^ i) h.1 ht hv n1 (by omega) (mv_up (by omega))
        have ei : nI (i + 12) - nI 12 = nI i := by rw [pk_sub (by omega)]; exact congrArg nI (by omega)
        have q3 := fun sz => mX3_copy_k l D c a' φ δ sz t v w (i + 12) ht hv n1 w1 (by omega) (by omega) (by omega) h.six
        rw [ei]
        simp only [ei] at q3
        exact StE.k (fun sz => wL_copy_k l D c o f sz _ _ _ (nI t) (nI v) (nI w - nI 32) (nI i) _ rfl (mX2_copy_k l D c a b θ ρ κ sz t v w i T ht hv n1 w1 (by omega) (by omega) h.ok h.hold h.cnt).to3) q3 (congrArg nI (e.2)) rfl (h.chg (Nat.le_add_right T 5760) (e.1.mono (Nat.le_add_right T 5760)) rfl rfl rfl rfl rfl rfl)
theorem st_wind (l : Launch) (hfl : l.stackTraces = false) (D : va_G) (c : Nat → ClassId) (x : Int32) : Stq l D c yL_wind wsL_wind rmL_wind yX3_wind wsX3_wind rmX3_wind [.int x] := by
  intro a b a' o f θ ρ κ φ δ T h hT
  by_cases c1 : (inb x (nI 1) (nI 400)) = true
  case neg =>
    exact StE.x 1 (by decide) (by decide) rfl (h.five _) (fun sz => wL_wind_x1 l D c o f sz _ _ _ x rfl (mX2_wind_x1 l hfl D c a b θ ρ κ sz x (eq_false_of_ne_true c1))) (fun sz => mX3_wind_x1 l D c a' φ δ sz x (eq_false_of_ne_true c1))
  case pos =>
    obtain ⟨n, n1, n2, rfl⟩ := inb_rng (by decide) (by decide) c1
    have e : min 400 (θ 0 10 0 + n) = min 400 (φ 0 135 + n) := congrArg (fun z => min 400 (z + n)) (h.rl.2.2.2.1.2.2.1 : θ 0 10 0 = φ 0 135)
    have e0 : R0 (pu (θ 0) 10 (kc (min 400 (θ 0 10 0 + n)))) (fu (φ 0) 135 (min 400 (φ 0 135 + n))) T := by rw [← e]; exact h.1.wind (Nat.min_le_left _ _)
    exact StE.k (fun sz => wL_wind_k l D c o f sz _ _ _ (nI n) _ rfl (mX2_wind_k l D c a b θ ρ κ sz n T n1 n2 h.ok h.hold h.cnt).to3) (fun sz => mX3_wind_k l D c a' φ δ sz n n1 n2 h.om h.six) (congrArg nI (e)) rfl (h.chg (Nat.le_add_right T 5760) (e0.mono (Nat.le_add_right T 5760)) rfl rfl rfl rfl rfl rfl)
theorem st_vanes (l : Launch) (hfl : l.stackTraces = false) (D : va_G) (c : Nat → ClassId) (x : Int32) : Stq l D c yL_vanes wsL_vanes rmL_vanes yX3_vanes wsX3_vanes rmX3_vanes [.int x] := by
  intro a b a' o f θ ρ κ φ δ T h hT
  by_cases c1 : (inb x (nI 1) (nI 9)) = true
  case neg =>
    exact StE.x 1 (by decide) (by decide) rfl (h.five _) (fun sz => wL_vanes_x1 l D c o f sz _ _ _ x rfl (mX2_vanes_x1 l hfl D c a b θ ρ κ sz x (eq_false_of_ne_true c1))) (fun sz => mX3_vanes_x1 l D c a' φ δ sz x (eq_false_of_ne_true c1))
  case pos =>
    obtain ⟨n, n1, n2, rfl⟩ := inb_rng (by decide) (by decide) c1
    have e : θ 0 11 0 = φ 0 136 := h.rl.2.2.2.1.2.2.2.1
    exact StE.k (fun sz => wL_vanes_k l D c o f sz _ _ _ (nI n) _ rfl (mX2_vanes_k l D c a b θ ρ κ sz n n1 n2 h.hold h.cnt).to3) (fun sz => mX3_vanes_k l D c a' φ δ sz n n1 n2 h.six) (congrArg nI (e)) rfl (h.chg (Nat.le_add_right T 5760) ((h.1.vanes n2).mono (Nat.le_add_right T 5760)) rfl rfl rfl rfl rfl rfl)
theorem st_shift (l : Launch) (hfl : l.stackTraces = false) (D : va_G) (c : Nat → ClassId) (x : Int32) : Stq l D c yL_shift wsL_shift rmL_shift yX3_shift wsX3_shift rmX3_shift [.int x] := by
  intro a b a' o f θ ρ κ φ δ T h hT
  by_cases c1 : (blw x (nI 3)) = true
  case neg =>
    have c2 : (blw x (nI 3)) = false := eq_false_of_ne_true c1
    have c3 : (inb x (nI 0) (nI 2)) = false := by rw [← (blw_inb (k := 2) (by decide) : blw x (nI 3) = inb x (nI 0) (nI 2))]; exact c2
    exact StE.x 1 (by decide) (by decide) rfl (h.five _) (fun sz => wL_shift_x1 l D c o f sz _ _ _ x rfl (mX2_shift_x1 l hfl D c a b θ ρ κ sz x c2)) (fun sz => mX3_shift_x1 l D c a' φ δ sz x c3)
  case pos =>
    have b0 := c1
    obtain ⟨n, hn, rfl⟩ := blw_of (by decide) b0
    have e : θ 0 9 0 = φ 0 134 := h.rl.2.2.2.1.2.1
    exact StE.k (fun sz => wL_shift_k l D c o f sz _ _ _ (nI n) _ rfl (mX2_shift_k l D c a b θ ρ κ sz n hn h.hold h.cnt).to3) (fun sz => mX3_shift_k l D c a' φ δ sz n (Nat.zero_le n) (by omega) h.six) (congrArg nI (e)) rfl (h.chg (Nat.le_add_right T 5760) ((h.1.shift hn).mono (Nat.le_add_right T 5760)) rfl rfl rfl rfl rfl rfl)
theorem st_play (l : Launch) (hfl : l.stackTraces = false) (D : va_G) (c : Nat → ClassId) (x : Int32) : Stq l D c yL_play wsL_play rmL_play yX3_play wsX3_play rmX3_play [.int x] := by
  intro a b a' o f θ ρ κ φ δ T h hT
  by_cases c1 : (inb x (nI 1) (nI 128)) = true
  case neg =>
    exact StE.x 1 (by decide) (by decide) rfl (h.five _) (fun sz => wL_play_x1 l D c o f sz _ _ _ x rfl (mX2_play_x1 l hfl D c a b θ ρ κ sz x (eq_false_of_ne_true c1))) (fun sz => mX3_play_x1 l D c a' φ δ sz x (eq_false_of_ne_true c1))
  case pos =>
    obtain ⟨n, n1, n2, rfl⟩ := inb_rng (by decide) (by decide) c1
    have e := R0.play (n := n) h.1 (by omega)
    exact StE.k (fun sz => wL_play_k l D c o f sz _ _ _ (nI n) _ rfl (mX2_play_k l D c a b θ ρ κ sz n T n1 n2 h.ok (by omega) h.hold h.cnt).to3) (fun sz => mX3_play_k l D c a' φ δ sz n n1 n2 h.om h.six) (congrArg nI (e.2)) rfl (h.chg (Nat.le_add_right T 5760) (e.1.mono (by omega)) rfl rfl rfl rfl rfl rfl)
theorem st_mend (l : Launch) (hfl : l.stackTraces = false) (D : va_G) (c : Nat → ClassId) (x : Int32) : Stq l D c yL_mend wsL_mend rmL_mend yX3_mend wsX3_mend rmX3_mend [.int x] := by
  intro a b a' o f θ ρ κ φ δ T h hT
  by_cases c1 : (blw x (nI 12)) = true
  case neg =>
    have c2 : (blw x (nI 12)) = false := eq_false_of_ne_true c1
    have c3 : (inb x (nI 0) (nI 11)) = false := by rw [← (blw_inb (k := 11) (by decide) : blw x (nI 12) = inb x (nI 0) (nI 11))]; exact c2
    exact StE.x 1 (by decide) (by decide) rfl (h.five _) (fun sz => wL_mend_x1 l D c o f sz _ _ _ x rfl (mX2_mend_x1 l hfl D c a b θ ρ κ sz x c2)) (fun sz => mX3_mend_x1 l D c a' φ δ sz x c3)
  case pos =>
    have b0 := c1
    obtain ⟨j, hj, rfl⟩ := blw_of (by decide) b0
    have e : θ 0 2 j = φ 0 (36 + 4 * j + 1) := (h.rl.2.1 j hj).2.1
    exact StE.k (fun sz => wL_mend_k l D c o f sz _ _ _ (nI j) _ rfl (mX2_mend_k l D c a b θ ρ κ sz j T hj h.ok h.hold h.cnt).to3) (fun sz => mX3_mend_k l D c a' φ δ sz j (Nat.zero_le j) (by omega) h.six) (congrArg nI (e)) rfl (h.chg (Nat.le_add_right T 5760) ((h.1.mend hj).mono (Nat.le_add_right T 5760)) rfl rfl rfl rfl rfl rfl)
theorem st_set (l : Launch) (hfl : l.stackTraces = false) (D : va_G) (c : Nat → ClassId) (x y : Int32) : Stq l D c yL_set wsL_set rmL_set yX3_set wsX3_set rmX3_set [.int x, .int y] := by
  intro a b a' o f θ ρ κ φ δ T h hT
  by_cases c1 : (blw x (nI 5)) = true
  case neg =>
    have c2 : (blw x (nI 5)) = false := eq_false_of_ne_true c1
    have c3 : (inb x (nI 0) (nI 4)) = false := by rw [← (blw_inb (k := 4) (by decide) : blw x (nI 5) = inb x (nI 0) (nI 4))]; exact c2
    exact StE.x 1 (by decide) (by decide) rfl (h.five _) (fun sz => wL_set_x1 l D c o f sz _ _ _ x y rfl (mX2_set_x1 l hfl D c a b θ ρ κ sz x y c2)) (fun sz => mX3_set_x1 l D c a' φ δ sz x y c3)
  case pos =>
    have b0 := c1
    obtain ⟨i, hi, rfl⟩ := blw_of (by decide) b0
    by_cases hv : inb y (nI (loS i)) (nI (hiS i)) = true
    · have hlo : loS i < 2 ^ 31 := by rcases (show i = 0 ∨ i = 1 ∨ i = 2 ∨ i = 3 ∨ i = 4 by omega) with rfl | rfl | rfl | rfl | rfl <;> decide
      have hhi : hiS i < 2 ^ 31 := by rcases (show i = 0 ∨ i = 1 ∨ i = 2 ∨ i = 3 ∨ i = 4 by omega) with rfl | rfl | rfl | rfl | rfl <;> decide
      obtain ⟨n, n1, n2, rfl⟩ := inb_rng hlo hhi hv
      have e : θ 0 6 i = φ 0 (142 + i) := by
        obtain ⟨s0, s1, s2, s3, s4⟩ := h.rl.2.2.2.2
        rcases (show i = 0 ∨ i = 1 ∨ i = 2 ∨ i = 3 ∨ i = 4 by omega) with rfl | rfl | rfl | rfl | rfl
        · exact s0
        · exact s1
        · exact s2
        · exact s3
        · exact s4
      exact StE.k (fun sz => wL_set_k l D c o f sz _ _ _ (nI i) (nI n) _ rfl (mX2_set_k l D c a b θ ρ κ sz i n hi hv h.hold h.cnt)) (fun sz => mX3_set_k l D c a' φ δ sz i n hi hv h.six) (congrArg nI (e)) rfl (h.chg (Nat.le_add_right T 5760) ((h.1.set hi n2).mono (Nat.le_add_right T 5760)) rfl rfl rfl rfl rfl rfl)
    · exact StE.x 2 (by decide) (by decide) rfl (h.five _) (fun sz => wL_set_x2 l D c o f sz _ _ _ _ _ rfl (mX2_set_x2 l hfl D c a b θ ρ κ sz i y hi (eq_false_of_ne_true hv))) (fun sz => mX3_set_x2 l D c a' φ δ sz i y hi (eq_false_of_ne_true hv))
theorem st_append (l : Launch) (hfl : l.stackTraces = false) (D : va_G) (c : Nat → ClassId) (x : Int32) : Stq l D c yL_append wsL_append rmL_append yX3_append wsX3_append rmX3_append [.int x] := by
  intro a b a' o f θ ρ κ φ δ T h hT
  by_cases c1 : (inb x (nI 33) (nI 126)) = true
  case neg =>
    exact StE.x 1 (by decide) (by decide) rfl (h.five _) (fun sz => wL_append_x1 l D c o f sz _ _ _ x rfl (mX2_append_x1 l hfl D c a b θ ρ κ sz x (eq_false_of_ne_true c1))) (fun sz => mX3_append_x1 l D c a' φ δ sz x (eq_false_of_ne_true c1))
  case pos =>
    obtain ⟨n, n1, n2, rfl⟩ := inb_rng (by decide) (by decide) c1
    have e : κ 4 0 = φ 8 0 := h.2.2.2.1.1
    have e60 : κ 4 0 ≤ 60 := h.2.2.2.1.2.1
    by_cases hl : κ 4 0 < 60
    · have er : κ 4 0 + 1 = φ 8 0 + 1 := by rw [e]
      exact StE.k (fun sz => wL_append_k l D c o f sz _ _ _ (nI n) _ rfl (mX2_append_k l D c a b θ ρ κ sz n n1 n2 hl).to3) (fun sz => mX3_append_k l D c a' φ δ sz n n1 n2 (e ▸ hl)) (congrArg nI (er)) rfl ((h.append (by omega) hl).mono (Nat.le_add_right T 5760))
    · exact StE.x 2 (by decide) (by decide) rfl (h.five _) (fun sz => wL_append_x2 l D c o f sz _ _ _ _ rfl (mX2_append_x2 l hfl D c a b θ ρ κ sz n n1 n2 (by omega))) (fun sz => mX3_append_x2 l D c a' φ δ sz n n1 n2 (by omega))
theorem st_undo (l : Launch) (hfl : l.stackTraces = false) (D : va_G) (c : Nat → ClassId) : Stq l D c yL_undo wsL_undo rmL_undo yX3_undo wsX3_undo rmX3_undo [] := by
  intro a b a' o f θ ρ κ φ δ T h hT
  by_cases c1 : κ 3 0 = 0
  · exact StE.x 1 (by decide) (by decide) rfl (h.five _) (fun sz => wL_undo_x1 l D c o f sz _ _ _ rfl (mX2_undo_x1 l hfl D c a b θ ρ κ sz c1)) (fun sz => mX3_undo_x1 l D c a' φ δ sz (h.e6 ▸ c1))
  · have er : κ 3 0 - 1 = φ 6 0 - 1 := by rw [h.e6]
    exact StE.k (fun sz => wL_undo_k l D c o f sz _ _ _ _ rfl (mX2_undo_k l D c a b θ ρ κ sz h.hold h.cnt c1).to3) (fun sz => mX3_undo_k l D c a' φ δ sz (Nat.pos_of_ne_zero (h.e6 ▸ c1)) h.six) (congrArg nI (er)) rfl ((h.undo c1).mono (Nat.le_add_right T 5760))
theorem st_restore (l : Launch) (hfl : l.stackTraces = false) (D : va_G) (c : Nat → ClassId) : Stq l D c yL_restore wsL_restore rmL_restore yX3_restore wsX3_restore rmX3_restore [] := by
  intro a b a' o f θ ρ κ φ δ T h hT
  have e : κ 1 0 = φ 7 0 := h.2.2.1.1
  have e1 : κ 1 0 ≤ 1 := h.2.2.1.2.1
  by_cases c1 : κ 1 0 = 0
  · exact StE.x 1 (by decide) (by decide) rfl (h.five _) (fun sz => wL_restore_x1 l D c o f sz _ _ _ rfl (mX2_restore_x1 l hfl D c a b θ ρ κ sz c1)) (fun sz => mX3_restore_x1 l D c a' φ δ sz (e ▸ c1))
  · have h2 : R0 (θ 2) (φ 3) T := h.2.2.1.2.2 (by omega)
    have er : paS (θ 2) 3 = allp (φ 3) := rl_all h2.1.1 h2.2.1.1
    exact StE.k (fun sz => wL_restore_k l D c o f sz _ _ _ _ rfl (mX2_restore_k l D c a b θ ρ κ sz T h.hold h.cnt (by omega) h2.2.1).to3) (fun sz => mX3_restore_k l D c a' φ δ sz (by omega) h.six) (congrArg nI (er)) rfl (h.chg (Nat.le_add_right T 5760) (h2.mono (Nat.le_add_right T 5760)) rfl rfl rfl rfl rfl rfl)
theorem st_whyNot (l : Launch) (hfl : l.stackTraces = false) (D : va_G) (c : Nat → ClassId) (x y z : Int32) : Stq l D c yL_whyNot wsL_whyNot rmL_whyNot yX3_whyNot wsX3_whyNot rmX3_whyNot [.int x, .int y, .int z] := by
  intro a b a' o f θ ρ κ φ δ T h hT
  by_cases c1 : (blw x (nI 3) && blw y (nI 12) && blw z (nI 32)) = true
  case neg =>
    have c2 : (blw x (nI 3) && blw y (nI 12) && blw z (nI 32)) = false := eq_false_of_ne_true c1
    have c3 : (inb x (nI 0) (nI 2) && inb y (nI 0) (nI 11) && inb z (nI 0) (nI 31)) = false := by rw [← (blw_inb (k := 2) (by decide) : blw x (nI 3) = inb x (nI 0) (nI 2)), ← (blw_inb (k := 11) (by decide) : blw y (nI 12) = inb y (nI 0) (nI 11)), ← (blw_inb (k := 31) (by decide) : blw z (nI 32) = inb z (nI 0) (nI 31))]; exact c2
    exact StE.x 1 (by decide) (by decide) rfl (h.five _) (fun sz => wL_whyNot_x1 l D c o f sz _ _ _ x y z rfl (mX2_whyNot_x1 l hfl D c a b θ ρ κ sz x y z c2)) (fun sz => mX3_whyNot_x1 l D c a' φ δ sz x y z c3)
  case pos =>
    obtain ⟨d2, b2⟩ := and_true_iff' c1
    obtain ⟨d1, b1⟩ := and_true_iff' d2
    have b0 := d1
    obtain ⟨t, ht, rfl⟩ := blw_of (by decide) b0
    obtain ⟨j, hj, rfl⟩ := blw_of (by decide) b1
    obtain ⟨p, hp, rfl⟩ := blw_of (by decide) b2
    exact StE.k (fun sz => wL_whyNot_k l D c o f sz _ _ _ (nI t) (nI j) (nI p) _ rfl (mX2_whyNot_k l D c a b θ ρ κ sz t j p T ht hj hp h.ok).to3) (fun sz => mX3_whyNot_k l D c a' φ δ sz t j p ht hj hp h.om) (congrArg nI (h.hind ht hj hp)) rfl ((h.five _).mono (Nat.le_add_right T 5760))
theorem st_next (l : Launch) (hfl : l.stackTraces = false) (D : va_G) (c : Nat → ClassId) (x y z : Int32) : Stq l D c yL_next wsL_next rmL_next yX3_next wsX3_next rmX3_next [.int x, .int y, .int z] := by
  intro a b a' o f θ ρ κ φ δ T h hT
  by_cases c1 : (blw x (nI 3) && blw y (nI 12) && blw z (nI 32)) = true
  case neg =>
    have c2 : (blw x (nI 3) && blw y (nI 12) && blw z (nI 32)) = false := eq_false_of_ne_true c1
    have c3 : (inb x (nI 0) (nI 2) && inb y (nI 0) (nI 11) && inb z (nI 0) (nI 31)) = false := by rw [← (blw_inb (k := 2) (by decide) : blw x (nI 3) = inb x (nI 0) (nI 2)), ← (blw_inb (k := 11) (by decide) : blw y (nI 12) = inb y (nI 0) (nI 11)), ← (blw_inb (k := 31) (by decide) : blw z (nI 32) = inb z (nI 0) (nI 31))]; exact c2
    exact StE.x 1 (by decide) (by decide) rfl (h.five _) (fun sz => wL_next_x1 l D c o f sz _ _ _ x y z rfl (mX2_next_x1 l hfl D c a b θ ρ κ sz x y z c2)) (fun sz => mX3_next_x1 l D c a' φ δ sz x y z c3)
  case pos =>
    obtain ⟨d2, b2⟩ := and_true_iff' c1
    obtain ⟨d1, b1⟩ := and_true_iff' d2
    have b0 := d1
    obtain ⟨t, ht, rfl⟩ := blw_of (by decide) b0
    obtain ⟨j, hj, rfl⟩ := blw_of (by decide) b1
    obtain ⟨p, hp, rfl⟩ := blw_of (by decide) b2
    have e : nfS (θ 0) t j p 0 32 = nxd (φ 0) t j p 32 := rl_next h.rl.1 ht hj 32 (Nat.le_refl 32)
    exact StE.k (fun sz => wL_next_k l D c o f sz _ _ _ (nI t) (nI j) (nI p) _ rfl (mX2_next_k l D c a b θ ρ κ sz t j p ht hj hp).to3) (fun sz => mX3_next_k l D c a' φ δ sz t j p ht hj hp h.om) (congrArg nI (e)) rfl ((h.five _).mono (Nat.le_add_right T 5760))
theorem st_tune (l : Launch) (hfl : l.stackTraces = false) (D : va_G) (c : Nat → ClassId) (x y : Int32) : Stq l D c yL_tune wsL_tune rmL_tune yX3_tune wsX3_tune rmX3_tune [.int x, .int y] := by
  intro a b a' o f θ ρ κ φ δ T h hT
  by_cases c1 : (blw x (nI 3)) = true
  case neg =>
    have c2 : (blw x (nI 3)) = false := eq_false_of_ne_true c1
    have c3 : (inb x (nI 0) (nI 2)) = false := by rw [← (blw_inb (k := 2) (by decide) : blw x (nI 3) = inb x (nI 0) (nI 2))]; exact c2
    exact StE.x 1 (by decide) (by decide) rfl (h.five _) (fun sz => wL_tune_x1 l D c o f sz _ _ _ x y rfl (mX2_tune_x1 l hfl D c a b θ ρ κ sz x y c2)) (fun sz => mX3_tune_x1 l D c a' φ δ sz x y c3)
  case pos =>
    have b0 := c1
    obtain ⟨t, ht, rfl⟩ := blw_of (by decide) b0
    by_cases c4 : blw y (nI 5) = true
    case neg =>
      have c5 : blw y (nI 5) = false := eq_false_of_ne_true c4
      have c6 : inb y (nI 0) (nI 4) = false := by rw [← (blw_inb (k := 4) (by decide) : blw y (nI 5) = inb y (nI 0) (nI 4))]; exact c5
      exact StE.x 2 (by decide) (by decide) rfl (h.five _) (fun sz => wL_tune_x2 l D c o f sz _ _ _ _ _ rfl (mX2_tune_x2 l hfl D c a b θ ρ κ sz t y ht c5)) (fun sz => mX3_tune_x2 l D c a' φ δ sz t y (by omega) c6)
    case pos =>
      obtain ⟨w, hw, rfl⟩ := blw_of (by decide) c4
      have e : numT (θ 0) t w = otu (φ 0) t w := rl_numT h.rl.1 h.ok.1 h.pin32 ht hw
      exact StE.k (fun sz => wL_tune_k l D c o f sz _ _ _ (nI t) (nI w) _ rfl (mX2_tune_k l D c a b θ ρ κ sz t w T ht hw h.ok).to3) (fun sz => mX3_tune_k l D c a' φ δ sz t w (by omega) (by omega) h.om) (congrArg nI (e)) rfl ((h.five _).mono (Nat.le_add_right T 5760))
theorem st_tooth (l : Launch) (hfl : l.stackTraces = false) (D : va_G) (c : Nat → ClassId) (x y : Int32) : Stq l D c yL_tooth wsL_tooth rmL_tooth yX3_tooth wsX3_tooth rmX3_tooth [.int x, .int y] := by
  intro a b a' o f θ ρ κ φ δ T h hT
  by_cases c1 : (blw x (nI 12)) = true
  case neg =>
    have c2 : (blw x (nI 12)) = false := eq_false_of_ne_true c1
    have c3 : (inb x (nI 0) (nI 11)) = false := by rw [← (blw_inb (k := 11) (by decide) : blw x (nI 12) = inb x (nI 0) (nI 11))]; exact c2
    exact StE.x 1 (by decide) (by decide) rfl (h.five _) (fun sz => wL_tooth_x1 l D c o f sz _ _ _ x y rfl (mX2_tooth_x1 l hfl D c a b θ ρ κ sz x y c2)) (fun sz => mX3_tooth_x1 l D c a' φ δ sz x y c3)
  case pos =>
    have b0 := c1
    obtain ⟨t, ht, rfl⟩ := blw_of (by decide) b0
    by_cases c4 : blw y (nI 5) = true
    case neg =>
      have c5 : blw y (nI 5) = false := eq_false_of_ne_true c4
      have c6 : inb y (nI 0) (nI 4) = false := by rw [← (blw_inb (k := 4) (by decide) : blw y (nI 5) = inb y (nI 0) (nI 4))]; exact c5
      exact StE.x 2 (by decide) (by decide) rfl (h.five _) (fun sz => wL_tooth_x2 l D c o f sz _ _ _ _ _ rfl (mX2_tooth_x2 l hfl D c a b θ ρ κ sz t y ht c5)) (fun sz => mX3_tooth_x2 l D c a' φ δ sz t y (by omega) c6)
    case pos =>
      obtain ⟨w, hw, rfl⟩ := blw_of (by decide) c4
      have e : numK (θ 0) t w = oto (φ 0) t w := rl_numK h.rl h.om h.t9 ht hw
      exact StE.k (fun sz => wL_tooth_k l D c o f sz _ _ _ (nI t) (nI w) _ rfl (mX2_tooth_k l D c a b θ ρ κ sz t w T ht hw h.ok (by omega)).to3) (fun sz => mX3_tooth_k l D c a' φ δ sz t w (by omega) (by omega) h.om) (congrArg nI (e)) rfl ((h.five _).mono (Nat.le_add_right T 5760))
theorem st_chord (l : Launch) (hfl : l.stackTraces = false) (D : va_G) (c : Nat → ClassId) (x y : Int32) : Stq l D c yL_chord wsL_chord rmL_chord yX3_chord wsX3_chord rmX3_chord [.int x, .int y] := by
  intro a b a' o f θ ρ κ φ δ T h hT
  by_cases c1 : (blw x (nI 3) && blw y (nI 32)) = true
  case neg =>
    have c2 : (blw x (nI 3) && blw y (nI 32)) = false := eq_false_of_ne_true c1
    have c3 : (inb x (nI 0) (nI 2) && inb y (nI 0) (nI 31)) = false := by rw [← (blw_inb (k := 2) (by decide) : blw x (nI 3) = inb x (nI 0) (nI 2)), ← (blw_inb (k := 31) (by decide) : blw y (nI 32) = inb y (nI 0) (nI 31))]; exact c2
    exact StE.x 1 (by decide) (by decide) rfl (h.five _) (fun sz => wL_chord_x1 l D c o f sz _ _ _ x y rfl (mX2_chord_x1 l hfl D c a b θ ρ κ sz x y c2)) (fun sz => mX3_chord_x1 l D c a' φ δ sz x y c3)
  case pos =>
    obtain ⟨d1, b1⟩ := and_true_iff' c1
    have b0 := d1
    obtain ⟨t, ht, rfl⟩ := blw_of (by decide) b0
    obtain ⟨p, hp, rfl⟩ := blw_of (by decide) b1
    have e : θ 0 0 (t * 32 + p) = mk (fun j => pb (φ 0) t j p) 12 := rl_chord h.rl.1 ht hp (h.ok.1 _ (by omega))
    exact StE.k (fun sz => wL_chord_k l D c o f sz _ _ _ (nI t) (nI p) _ rfl (mX2_chord_k l D c a b θ ρ κ sz t p ht hp).to3) (fun sz => mX3_chord_k l D c a' φ δ sz t p ht hp) (congrArg nI (e)) rfl ((h.five _).mono (Nat.le_add_right T 5760))
theorem st_note (l : Launch) (hfl : l.stackTraces = false) (D : va_G) (c : Nat → ClassId) (x y : Int32) : Stq l D c yL_note wsL_note rmL_note yX3_note wsX3_note rmX3_note [.int x, .int y] := by
  intro a b a' o f θ ρ κ φ δ T h hT
  by_cases c1 : (blw x (nI 24) && blw y (nI 2)) = true
  case neg =>
    have c2 : (blw x (nI 24) && blw y (nI 2)) = false := eq_false_of_ne_true c1
    have c3 : (inb x (nI 0) (nI 23) && inb y (nI 0) (nI 1)) = false := by rw [← (blw_inb (k := 23) (by decide) : blw x (nI 24) = inb x (nI 0) (nI 23)), ← (blw_inb (k := 1) (by decide) : blw y (nI 2) = inb y (nI 0) (nI 1))]; exact c2
    exact StE.x 1 (by decide) (by decide) rfl (h.five _) (fun sz => wL_note_x1 l D c o f sz _ _ _ x y rfl (mX2_note_x1 l hfl D c a b θ ρ κ sz x y c2)) (fun sz => mX3_note_x1 l D c a' φ δ sz x y c3)
  case pos =>
    obtain ⟨d1, b1⟩ := and_true_iff' c1
    have b0 := d1
    obtain ⟨t, ht, rfl⟩ := blw_of (by decide) b0
    obtain ⟨w, hw, rfl⟩ := blw_of (by decide) b1
    have e : (if t < min 24 (θ 0 14 0) then (if w = 0 then θ 0 4 ((θ 0 14 0 - 1 - t) % 24) else θ 0 5 ((θ 0 14 0 - 1 - t) % 24)) else 4294967295) = nte (φ 0) t w := by
      obtain ⟨n1, n2⟩ := h.rl.2.2.1
      unfold nte
      rw [n1]
      split
      · rename_i hh
        have n3 := n2 t (by rw [n1]; exact hh)
        rcases (show w = 0 ∨ w = 1 by omega) with rfl | rfl
        · rw [if_pos rfl, n3.1]
        · rw [if_neg (by decide), n3.2]
      · rfl
    exact StE.k (fun sz => wL_note_k l D c o f sz _ _ _ (nI t) (nI w) _ rfl (mX2_note_k l D c a b θ ρ κ sz t w T ht hw h.ok (by omega)).to3) (fun sz => mX3_note_k l D c a' φ δ sz t w (by omega) (by omega) h.om) (congrArg nI (e)) rfl ((h.five _).mono (Nat.le_add_right T 5760))
theorem st_count (l : Launch) (hfl : l.stackTraces = false) (D : va_G) (c : Nat → ClassId) (x : Int32) : Stq l D c yL_count wsL_count rmL_count yX3_count wsX3_count rmX3_count [.int x] := by
  intro a b a' o f θ ρ κ φ δ T h hT
  by_cases c1 : (blw x (nI 18)) = true
  case neg =>
    have c2 : (blw x (nI 18)) = false := eq_false_of_ne_true c1
    have c3 : (inb x (nI 0) (nI 17)) = false := by rw [← (blw_inb (k := 17) (by decide) : blw x (nI 18) = inb x (nI 0) (nI 17))]; exact c2
    exact StE.x 1 (by decide) (by decide) rfl (h.five _) (fun sz => wL_count_x1 l D c o f sz _ _ _ x rfl (mX2_count_x1 l hfl D c a b θ ρ κ sz x c2)) (fun sz => mX3_count_x1 l D c a' φ δ sz x c3)
  case pos =>
    have b0 := c1
    obtain ⟨w, hw, rfl⟩ := blw_of (by decide) b0
    have e : (if w = 17 then κ 3 0 else numN (θ 0) w) = cnt (φ 0) (φ 6 0) w := by rw [← h.e6]; exact rl_numN h.rl h.ok.1 h.ok.2.2.2.2.1 (κ 3 0) hw
    exact StE.k (fun sz => wL_count_k l D c o f sz _ _ _ (nI w) _ rfl (mX2_count_k l D c a b θ ρ κ sz w T hw h.ok (by omega)).to3) (fun sz => mX3_count_k l D c a' φ δ sz w (Nat.zero_le w) (by omega) h.om) (congrArg nI (e)) rfl ((h.five _).mono (Nat.le_add_right T 5760))
theorem st_ifPlayed (l : Launch) (hfl : l.stackTraces = false) (D : va_G) (c : Nat → ClassId) (x y : Int32) : Stq l D c yL_ifPlayed wsL_ifPlayed rmL_ifPlayed yX3_ifPlayed wsX3_ifPlayed rmX3_ifPlayed [.int x, .int y] := by
  intro a b a' o f θ ρ κ φ δ T h hT
  by_cases c1 : (inb x (nI (1)) (nI (128)) && blw y (nI (5))) = true
  case neg =>
    have c2 : (inb x (nI (1)) (nI (128)) && blw y (nI (5))) = false := eq_false_of_ne_true c1
    have c3 : (inb x (nI (1)) (nI (128)) && inb y (nI (0)) (nI (4))) = false := by rw [← (blw_inb (k := 4) (by decide) : blw y (nI 5) = inb y (nI 0) (nI 4))]; exact c2
    exact StE.x 1 (by decide) (by decide) rfl (h.five _) (fun sz => wL_ifPlayed_x1 l D c o f sz _ _ _ x y rfl (mX2_ifPlayed_x1 l hfl D c a b θ ρ κ sz x y c2)) (fun sz => mX3_ifPlayed_x1 l D c a' φ δ sz x y c3)
  case pos =>
    obtain ⟨d1, d2⟩ := and_true_iff' c1
    obtain ⟨n, n1, n2, rfl⟩ := inb_rng (by decide) (by decide) d1
    obtain ⟨w, hw, rfl⟩ := blw_of (by decide) d2
    have e : wbS (θ 0) (onS n (pu (θ 0) 11 (kc (θ 0 11 0)))).2 w = wb (φ 0) n w := rl_wb (τ := pu (θ 0) 11 (kc (θ 0 11 0))) (rl_same h.rl) (h.ok.p11 h.ok.2.2.2.2.2.2.2.2.1) (by omega) hw
    exact StE.k (fun sz => wL_ifPlayed_k l D c o f sz _ _ _ (nI n) (nI w) _ rfl (mX2_ifPlayed_k l D c a b θ ρ κ sz n w T n1 n2 hw h.ok (by omega)).to3) (fun sz => mX3_ifPlayed_k l D c a' φ δ sz n w n1 n2 hw h.om) (e) rfl ((h.look (fun i hi => if_neg hi) rfl rfl rfl rfl rfl rfl rfl).mono (Nat.le_add_right T 5760))
theorem st_windFor (l : Launch) (hfl : l.stackTraces = false) (D : va_G) (c : Nat → ClassId) (x : Int32) : Stq l D c yL_windFor wsL_windFor rmL_windFor yX3_windFor wsX3_windFor rmX3_windFor [.int x] := by
  intro a b a' o f θ ρ κ φ δ T h hT
  by_cases c1 : (inb x (nI 1) (nI 9)) = true
  case neg =>
    exact StE.x 1 (by decide) (by decide) rfl (h.five _) (fun sz => wL_windFor_x1 l D c o f sz _ _ _ x rfl (mX2_windFor_x1 l hfl D c a b θ ρ κ sz x (eq_false_of_ne_true c1))) (fun sz => mX3_windFor_x1 l D c a' φ δ sz x (eq_false_of_ne_true c1))
  case pos =>
    obtain ⟨n, n1, n2, rfl⟩ := inb_rng (by decide) (by decide) c1
    have e : (woS (θ 0) (n * 32)).1 = wsm (φ 0) (32 * n) := by rw [Nat.mul_comm n 32]; exact rl_woS h.rl h.t9 h.ok.1 _
    exact StE.k (fun sz => wL_windFor_k l D c o f sz _ _ _ (nI n) _ rfl (mX2_windFor_k l D c a b θ ρ κ sz n T n1 n2 h.ok).to3) (fun sz => mX3_windFor_k l D c a' φ δ sz n n1 n2 h.om) (congrArg nI (e)) rfl ((h.look (fun _ _ => rfl) rfl rfl rfl rfl rfl rfl rfl).mono (Nat.le_add_right T 5760))
