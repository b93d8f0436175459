/-! ===== the law's steps that are left: the buffer, what is asked without a wrapper ===== -/
theorem ppR_okR {β : Nat → Nat} : ∀ (n i d : Nat) {τ ρ : Nat → Nat → Nat}, okR ρ → okR (ppR β n i d τ ρ).2.2
  | 0, _, _, _, _, h => h
  | n + 1, i, d, τ, ρ, h => by
    rw [ppR]
    split
    · exact ppR_okR n (i + 1) _ (stR_ok h (β i))
    · exact ppR_okR n (i + 1) _ (stR_ok h (β i))
theorem okR.zero {ρ : Nat → Nat → Nat} (okr : okR ρ) : okR (pu ρ 0 (kc 0)) := a_ok okr 0 0 (fun _ => by omega) (fun q => by omega) (fun q => by omega) (fun q => by omega) (fun q => by omega)
theorem st_pins (l : Launch) (hfl : l.stackTraces = false) (D : va_G) (c : Nat → ClassId) : Stq l D c yL_pins wsL_pins rmL_pins yX3_pins wsX3_pins rmX3_pins [] := by
  intro a b a' o f θ ρ κ φ δ T h hT
  obtain ⟨e4, l60, hb⟩ := h.2.2.2.1
  have okr : okR ρ := h.2.2.2.2
  have hu : ∀ i, i < κ 4 0 → φ 4 i < 128 := fun i hi => (hb i hi).1 ▸ (hb i hi).2
  have hcg : ∀ r, rbR (κ 0) (κ 4 0) 0 r = rbR (φ 4) (κ 4 0) 0 r := fun r => rbR_congr _ _ _ (fun i _ h2 => (hb i (by omega)).1)
  have hpg : ∀ d τ r, ppR (κ 0) (κ 4 0) 0 d τ r = ppR (φ 4) (κ 4 0) 0 d τ r := fun d τ r => ppR_congr _ _ _ _ _ (fun i _ h2 => (hb i (by omega)).1)
  by_cases w : whl (φ 4) (κ 4 0) = true
  · have k1 := (rd_whole (ρ := pu ρ 0 (kc 0)) hu rfl).mp w
    rw [← hcg] at k1
    have k2 := (rd_whole (ρ := pu ((rbR (κ 0) (κ 4 0) 0 (pu (ρ) 0 (kc 0))).2) 0 (kc 0)) hu rfl).mp w
    rw [← hcg] at k2
    obtain ⟨k3, k4⟩ := rd_pins (ρ := pu ((rbR (κ 0) (κ 4 0) 0 (pu (ρ) 0 (kc 0))).2) 0 (kc 0)) hu rfl w h.1
    rw [← hpg, e4] at k3 k4
    rw [← e4] at k3 k4
    have q := h.chg (φ' := pu (pu (pu (pu φ 2 (svf (φ 2) (φ 0) (φ 6 0))) 6 (kc (svn (φ 6 0)))) 5 (kc (0))) 0 ((rdy (φ 4) (κ 4 0) (φ 0)).2.1)) (Nat.le_add_right T 5760) (k4.mono (Nat.le_add_right T 5760)) rfl rfl rfl rfl rfl rfl
    have okr1 := (rbR_ok (β := κ 0) (κ 4 0) 0 okr.zero).zero
    have okr2 := ppR_okR (β := κ 0) (κ 4 0) 0 0 (τ := θ 0) okr1
    have m3 := fun sz => mX3_pins_k l D c a' φ δ sz (e4 ▸ l60) (e4 ▸ w) h.om h.six
    simp only [← e4] at m3
    exact StE.k (fun sz => wL_pins_k l D c o f sz _ _ _ _ rfl (mX2_pins_k l D c a b θ ρ κ sz T l60 (fun i hi => (hb i hi).2) okr h.ok h.hold h.cnt k1.1 k1.2 k2.1 k2.2).to3) m3 (congrArg nI k3) rfl ⟨q.1, q.2.1, q.2.2.1, ⟨rfl, Nat.zero_le _, fun i hi => absurd hi (Nat.not_lt_zero i)⟩, okr2⟩
  · have k1 : ¬ ((rbR (κ 0) (κ 4 0) 0 (pu (ρ) 0 (kc 0))).1 = κ 4 0 ∧ cmR (rbR (κ 0) (κ 4 0) 0 (pu (ρ) 0 (kc 0))).2) := by
      rw [hcg]
      exact fun q => w ((rd_whole hu rfl).mpr q)
    have k2 : (rbR (κ 0) (κ 4 0) 0 (pu (ρ) 0 (kc 0))).1 ≤ κ 4 0 := Nat.le_trans (rbR_le _ _ _) (Nat.le_of_eq (Nat.zero_add _))
    exact StE.x (φ' := pu (pu (pu (pu φ 5 (kc (1))) 11 (kc (0))) 9 (kc ((rdx (φ 4) (φ 8 0)).1))) 10 (kc (((rdx (φ 4) (φ 8 0)).2).toNat))) 1 (by decide) (by decide) rfl ((h.look (fun _ _ => rfl) rfl rfl rfl rfl rfl rfl rfl).reader (rbR_ok (β := κ 0) (κ 4 0) 0 okr.zero)) (fun sz => wL_pins_x1 l D c o f sz _ _ _ rfl (mX2_pins_x1 l hfl D c a b θ ρ κ sz l60 (fun i hi => (hb i hi).2) okr k1 k2)) (fun sz => mX3_pins_x1 l D c a' φ δ sz (e4 ▸ l60) (e4 ▸ eq_false_of_ne_true w))
/-- a step without a wrapper, whose answers are ints -/
def StD (l : Launch) (D : va_G) (c : Nat → ClassId) (yP : MethodName) (wsP : List Cond) (rmP : Room) (yX : MethodName) (wsX : List Cond) (rmX : Room) : Prop :=
  ∀ (a : Nat → Nat) (b : Nat → Nat → Nat) (a' : Nat → Nat) (θ : Nat → Nat → Nat → Nat) (ρ κ φ : Nat → Nat → Nat) (δ : Int64) (T : Nat), Rl θ ρ κ φ T → T + 5760 < 200000000 → ∃ (r : Int32) (θ' : Nat → Nat → Nat → Nat) (ρ' κ' φ' : Nat → Nat → Nat), Rl θ' ρ' κ' φ' (T + 5760) ∧
    (∀ sz, MI2 l yP wsP rmP D c sz (wP c a b θ ρ κ) [.ref (a 0)] r (wP c a b θ' ρ' κ')) ∧ (∀ sz, MI l yX wsX rmX D c sz (wM c a' φ δ) [.ref (a' 0)] r (wM c a' φ' δ))
section STD
variable {l : Launch} {D : va_G} {c : Nat → ClassId} {yP : MethodName} {wsP : List Cond} {rmP : Room} {yX : MethodName} {wsX : List Cond} {rmX : Room} {a : Nat → Nat} {b : Nat → Nat → Nat} {a' : Nat → Nat} {θ : Nat → Nat → Nat → Nat} {ρ κ φ : Nat → Nat → Nat} {δ : Int64} {T : Nat}
theorem StD.k {θ' : Nat → Nat → Nat → Nat} {ρ' κ' φ' : Nat → Nat → Nat} {r r' : Int32} (hw : ∀ sz, MI2 l yP wsP rmP D c sz (wP c a b θ ρ κ) [.ref (a 0)] r' (wP c a b θ' ρ' κ')) (hm : ∀ sz, MI l yX wsX rmX D c sz (wM c a' φ δ) [.ref (a' 0)] r (wM c a' φ' δ)) (hr : r' = r) (h : Rl θ' ρ' κ' φ' (T + 5760)) :
    ∃ (r : Int32) (θ' : Nat → Nat → Nat → Nat) (ρ' κ' φ' : Nat → Nat → Nat), Rl θ' ρ' κ' φ' (T + 5760) ∧ (∀ sz, MI2 l yP wsP rmP D c sz (wP c a b θ ρ κ) [.ref (a 0)] r (wP c a b θ' ρ' κ')) ∧ (∀ sz, MI l yX wsX rmX D c sz (wM c a' φ δ) [.ref (a' 0)] r (wM c a' φ' δ)) :=
  ⟨r, θ', ρ', κ', φ', h, hr ▸ hw, hm⟩
end STD
theorem st_clearBuffer (l : Launch) (D : va_G) (c : Nat → ClassId) : StD l D c yX2_clearBuffer wsX2_clearBuffer rmX2_clearBuffer yX3_clearBuffer wsX3_clearBuffer rmX3_clearBuffer := by
  intro a b a' θ ρ κ φ δ T h hT
  obtain ⟨e4, l60, hb⟩ := h.2.2.2.1
  exact StD.k (fun sz => mX2_clearBuffer l D c a b θ ρ κ sz l60) (fun sz => mX3_clearBuffer l D c a' φ δ sz) (congrArg nI e4) (h.clear.mono (Nat.le_add_right T 5760))
theorem st_firstError (l : Launch) (D : va_G) (c : Nat → ClassId) : StD l D c yX2_firstError wsX2_firstError rmX2_firstError yX3_firstError wsX3_firstError rmX3_firstError := by
  intro a b a' θ ρ κ φ δ T h hT
  obtain ⟨e4, l60, hb⟩ := h.2.2.2.1
  have okr : okR ρ := h.2.2.2.2
  have hu : ∀ i, i < κ 4 0 → φ 4 i < 128 := fun i hi => (hb i hi).1 ▸ (hb i hi).2
  have hcg : ∀ r, rbR (κ 0) (κ 4 0) 0 r = rbR (φ 4) (κ 4 0) 0 r := fun r => rbR_congr _ _ _ (fun i _ h2 => (hb i (by omega)).1)
  have e : (rbR (κ 0) (κ 4 0) 0 (pu (ρ) 0 (kc 0))).1 = if whl (φ 4) (φ 8 0) then φ 8 0 else (rdx (φ 4) (φ 8 0)).1 := by
    rw [hcg, ← e4]
    exact rd_first hu rfl
  exact StD.k (fun sz => mX2_firstError l D c a b θ ρ κ sz l60 (fun i hi => (hb i hi).2) okr) (fun sz => mX3_firstError l D c a' φ δ sz (e4 ▸ l60)) (congrArg nI e) (((h.look (fun _ _ => rfl) rfl rfl rfl rfl rfl rfl rfl).reader (rbR_ok (β := κ 0) (κ 4 0) 0 okr.zero)).mono (Nat.le_add_right T 5760))
theorem st_keep (l : Launch) (D : va_G) (c : Nat → ClassId) : StD l D c yX2_keep wsX2_keep rmX2_keep yX3_keep wsX3_keep rmX3_keep := by
  intro a b a' θ ρ κ φ δ T h hT
  have e : paS (θ 0) 3 = allp (φ 0) := rl_all h.rl.1 h.ok.1
  exact StD.k (fun sz => mX2_keep l D c a b θ ρ κ sz T h.ok) (fun sz => mX3_keep l D c a' φ δ sz) (congrArg nI e) (h.keep.mono (Nat.le_add_right T 5760))
theorem st_fewestVanes (l : Launch) (D : va_G) (c : Nat → ClassId) : StD l D c yX2_fewestVanes wsX2_fewestVanes rmX2_fewestVanes yX3_fewestVanes wsX3_fewestVanes rmX3_fewestVanes := by
  intro a b a' θ ρ κ φ δ T h hT
  have e : (fqT (θ 0) 9 1 (θ 1)).1 = qf (φ 0) 9 := rl_quiet h.rl h.ok (by omega) 9 (Nat.le_refl 9) (θ 1)
  exact StD.k (fun sz => mX2_fewestVanes l D c a b θ ρ κ sz T h.ok (by omega)) (fun sz => mX3_fewestVanes l D c a' φ δ sz h.om) (congrArg nI e) ((h.look (fun i hi => if_neg hi) rfl rfl rfl rfl rfl rfl rfl).mono (Nat.le_add_right T 5760))
/-- what the doubles come to: no NaN, and one and the same number by both ways -/
def fpOk : Prop := ∀ n q : Nat, n < 2147483648 → q < 2147483648 → (¬ n = 0 → vf_n64 (FP.ddiv (FP.i2d (nI (n - q))) (FP.i2d (nI n)))) ∧ ∃ b : Int64, bitP (sh n q) b ∧ bitQ (sh n q) b
theorem st_clean (hfp : fpOk) (l : Launch) (D : va_G) (c : Nat → ClassId) (a : Nat → Nat) (b : Nat → Nat → Nat) (a' : Nat → Nat) (θ : Nat → Nat → Nat → Nat) (ρ κ φ : Nat → Nat → Nat) (δ : Int64) (T : Nat) (h : Rl θ ρ κ φ T) (hT : T + 5760 < 200000000) : ∃ (v : UInt64) (φ' : Nat → Nat → Nat), Rl θ ρ κ φ' (T + 5760) ∧
    (∀ sz, MF2 l yX2_clean wsX2_clean rmX2_clean D c sz (wP c a b θ ρ κ) [.ref (a 0)] v (wP c a b θ ρ κ)) ∧ (∀ sz, MF l yX3_clean wsX3_clean rmX3_clean D c sz (wM c a' φ δ) [.ref (a' 0)] v (wM c a' φ' δ)) := by
  have e1 : θ 0 14 0 = φ 0 139 := h.rl.2.2.2.1.2.2.2.2.2.2.1
  have e2 : θ 0 15 0 = φ 0 140 := h.rl.2.2.2.1.2.2.2.2.2.2.2.1
  have b1 : θ 0 14 0 ≤ T := h.ok.2.2.2.2.2.2.2.2.2.2.1
  have b2 : θ 0 15 0 ≤ T := h.ok.2.2.2.2.2.2.2.2.2.2.2
  have hn := (hfp (θ 0 14 0) (θ 0 15 0) (by omega) (by omega)).1
  refine ⟨sh (θ 0 14 0) (θ 0 15 0), pu φ 5 (kc 0), (h.five _).mono (Nat.le_add_right T 5760), fun sz => mX2_clean l D c a b θ ρ κ sz T h.ok (by omega) hn, fun sz => ?_⟩
  have q := mX3_clean l D c a' φ δ sz (by omega) (by omega) (e1 ▸ e2 ▸ hn)
  rw [← e1, ← e2] at q
  exact q
theorem st_digest (hfp : fpOk) (l : Launch) (D : va_G) (c : Nat → ClassId) (a : Nat → Nat) (b : Nat → Nat → Nat) (a' : Nat → Nat) (θ : Nat → Nat → Nat → Nat) (ρ κ φ : Nat → Nat → Nat) (δ : Int64) (T : Nat) (h : Rl θ ρ κ φ T) (hT : T + 5760 < 200000000) : ∃ (v : Int64) (θ' : Nat → Nat → Nat → Nat) (φ' : Nat → Nat → Nat) (δ' : Int64), Rl θ' ρ κ φ' (T + 5760) ∧
    (∀ sz, ML2 l yX2_digest wsX2_digest rmX2_digest D c sz (wP c a b θ ρ κ) [.ref (a 0)] v (wP c a b θ' ρ κ)) ∧ (∀ sz, ML l yX3_digest wsX3_digest rmX3_digest D c sz (wM c a' φ δ) [.ref (a' 0)] v (wM c a' φ' δ')) := by
  have e1 : θ 0 14 0 = φ 0 139 := h.rl.2.2.2.1.2.2.2.2.2.2.1
  have e2 : θ 0 15 0 = φ 0 140 := h.rl.2.2.2.1.2.2.2.2.2.2.2.1
  have b1 : θ 0 14 0 ≤ T := h.ok.2.2.2.2.2.2.2.2.2.2.1
  have b2 : θ 0 15 0 ≤ T := h.ok.2.2.2.2.2.2.2.2.2.2.2
  obtain ⟨e4, l60, hb⟩ := h.2.2.2.1
  obtain ⟨hn, bb, hP, hQ⟩ := hfp (θ 0 14 0) (θ 0 15 0) (by omega) (by omega)
  have e := rl_digest h (by omega) bb
  refine ⟨digS θ κ bb, _, pu (pu φ 5 (kc (0))) 1 (φ 0), dig (φ 0) (φ 6 0) bb (φ 4) (φ 8 0), (h.look (fun i hi => if_neg hi) rfl rfl rfl rfl rfl rfl rfl).mono (Nat.le_add_right T 5760), fun sz => mX2_digest l D c a b θ ρ κ sz bb T h.ok (by omega) hn l60 hQ, fun sz => ?_⟩
  rw [e]
  exact mX3_digest l D c a' φ δ sz bb h.om (by omega) (by omega) (e1 ▸ e2 ▸ hn) (e4 ▸ l60) (e1 ▸ e2 ▸ hP)
