/-! ===== the same reading, and the pins are set ===== -/
theorem tkx_w {u : Nat → Nat} {m : Nat} {x : Nat × Bool} {lo hi : Int32} (h : (tkx u m x lo hi).2 = false) : x.2 = false ∧ nxb u m x.1 x.2 lo hi = true := by
  have h1 : (x.2 || !(nxb u m x.1 x.2 lo hi)) = false := h
  simp only [Bool.or_eq_false_iff, Bool.not_eq_false'] at h1
  exact h1
theorem rsx_w {u : Nat → Nat} {m : Nat} {x : Nat × Bool} (h : (rsx u m x).2 = false) : x.2 = false := (rs_ok (u := u) (m := m) (s := x.1) (w := x.2) h).1
theorem rpl_w {u : Nat → Nat} {m : Nat} : ∀ n (x : Nat × Bool), (rpl u m n x).2 = false → x.2 = false
  | 0, _, h => h
  | n + 1, x, h => by
    rw [rpl] at h
    split at h
    · have h2 := rsx_w (rpl_w n _ h)
      exact h2
    · exact h
theorem rq_w {u : Nat → Nat} {m : Nat} {x : Nat × Bool} (h : (rpx u m x).2 = false) : (rq5 u m x).2 = false ∧ (rq4 u m x).2 = false ∧ (rq3 u m x).2 = false ∧ (rq2 u m x).2 = false ∧ (rq1 u m x).2 = false ∧ x.2 = false := by
  have h5 := rpl_w _ _ h
  have h4 : (rq4 u m x).2 = false := rsx_w h5
  have h3 : (rq3 u m x).2 = false := (tkx_w h4).1
  have h2 : (rq2 u m x).2 = false := (nm_ok (a := 0) (b := 11) (by decide) (by decide) h3).1
  have h1 : (rq1 u m x).2 = false := (tkx_w h2).1
  exact ⟨h5, h4, h3, h2, h1, (tkx_w h1).1⟩
def rqt (u : Nat → Nat) (m : Nat) (x : Nat × Bool) : Nat := (tkv u m x.1 x.2 (nI 48) (nI 50)).toNatClampNeg
def rqj (u : Nat → Nat) (m : Nat) (x : Nat × Bool) : Nat := (nmV2 u m (rq2 u m x).1 (rq2 u m x).2 (nI 0) (nI 11)).toNatClampNeg
theorem tk_ok {u : Nat → Nat} {m s : Nat} {w : Bool} {a b : Nat} (ha : a < 2 ^ 31) (hb : b < 2 ^ 31) (h : nxb u m s w (nI a) (nI b) = true) : ∃ n : Nat, n ≤ b - a ∧ tkv u m s w (nI a) (nI b) = nI n := by
  have h1 : inb (nI (u s)) (nI a) (nI b) = true := by
    unfold nxb at h
    simp only [Bool.and_eq_true] at h
    exact h.2
  obtain ⟨n, h2, h3, h4⟩ := inb_rng ha hb h1
  refine ⟨n - a, by omega, ?_⟩
  unfold tkv
  rw [if_pos h, h4, pk_sub h2]
theorem rqt_ok {u : Nat → Nat} {m : Nat} {x : Nat × Bool} (h : (rpx u m x).2 = false) : tkv u m x.1 x.2 (nI 48) (nI 50) = nI (rqt u m x) ∧ rqt u m x < 3 := by
  obtain ⟨n, h1, h2⟩ := tk_ok (a := 48) (b := 50) (by decide) (by decide) (tkx_w (rq_w h).2.2.2.2.1).2
  have e : rqt u m x = n := by unfold rqt; rw [h2]; exact nI_clamp (by omega)
  rw [e]
  exact ⟨h2, by omega⟩
theorem rqj_ok {u : Nat → Nat} {m : Nat} {x : Nat × Bool} (h : (rpx u m x).2 = false) : nmV2 u m (rq2 u m x).1 (rq2 u m x).2 (nI 0) (nI 11) = nI (rqj u m x) ∧ rqj u m x < 12 := by
  obtain ⟨-, n, -, h1, h2⟩ := nm_ok (a := 0) (b := 11) (by decide) (by decide) (rq_w h).2.2.1
  have e : rqj u m x = n := by unfold rqj; rw [h2]; exact nI_clamp (by omega)
  rw [e]
  exact ⟨h2, by omega⟩
def sps (σ u : Nat → Nat) (m t j : Nat) (x : Nat × Bool) : Nat → Nat := prs σ t j (rsf u m x.1 x.2) (rsg u m x.1 x.2 + 1 - rsf u m x.1 x.2)
def spc (σ u : Nat → Nat) (m t j : Nat) (x : Nat × Bool) : Nat := prc σ t j (rsf u m x.1 x.2) (rsg u m x.1 x.2 + 1 - rsf u m x.1 x.2)
theorem okM.spk {σ : Nat → Nat} (ok : okM σ) {u : Nat → Nat} {m t j : Nat} {x : Nat × Bool} (ht : t < 3) (hj : j < 12) (h : (rsx u m x).2 = false) : okM (sps σ u m t j x) := by
  obtain ⟨-, -, -, h1, h2⟩ := rs_ok (u := u) (m := m) (s := x.1) (w := x.2) h
  exact ok.prk ht hj _ (by omega)
abbrev zT : Type := (Nat × Bool) × (Nat → Nat) × Nat
def rtl (u : Nat → Nat) (m t j : Nat) : Nat → zT → zT
  | 0, z => z
  | n + 1, z => if nxb u m z.1.1 z.1.2 (nI 44) (nI 44) then rtl u m t j n (rsx u m (z.1.1 + 1, z.1.2), sps z.2.1 u m t j (z.1.1 + 1, z.1.2), z.2.2 + spc z.2.1 u m t j (z.1.1 + 1, z.1.2)) else z
def rtx (u : Nat → Nat) (m : Nat) (x : Nat × Bool) (σ : Nat → Nat) (c : Nat) : zT := rtl u m (rqt u m x) (rqj u m x) (m + 1) (rq5 u m x, sps σ u m (rqt u m x) (rqj u m x) (rq4 u m x), c + spc σ u m (rqt u m x) (rqj u m x) (rq4 u m x))
theorem rtl_1 (u : Nat → Nat) (m t j : Nat) : ∀ n z, (rtl u m t j n z).1 = rpl u m n z.1
  | 0, _ => rfl
  | n + 1, z => by
    rw [rtl, rpl]
    split
    · exact rtl_1 u m t j n _
    · rfl
theorem rtx_1 (u : Nat → Nat) (m : Nat) (x : Nat × Bool) (σ : Nat → Nat) (c : Nat) : (rtx u m x σ c).1 = rpx u m x := rtl_1 _ _ _ _ _ _
theorem rtl_f {u : Nat → Nat} {m t j : Nat} {z : zT} (h : nxb u m z.1.1 z.1.2 (nI 44) (nI 44) = false) : ∀ n, rtl u m t j n z = z
  | 0 => rfl
  | n + 1 => by rw [rtl, if_neg (by rw [h]; decide)]
theorem rtl_t {u : Nat → Nat} {m t j : Nat} {z : zT} (h : nxb u m z.1.1 z.1.2 (nI 44) (nI 44) = true) {n : Nat} (hn : m < z.1.1 + n) : 0 < n ∧ rtl u m t j n z = rtl u m t j (n - 1) (rsx u m (z.1.1 + 1, z.1.2), sps z.2.1 u m t j (z.1.1 + 1, z.1.2), z.2.2 + spc z.2.1 u m t j (z.1.1 + 1, z.1.2)) := by
  have := nxb_lt h
  obtain ⟨k, rfl⟩ : ∃ k, n = k + 1 := ⟨n - 1, by omega⟩
  exact ⟨by omega, by rw [rtl, if_pos h]; rfl⟩
theorem okM.rtk {u : Nat → Nat} {m t j : Nat} (ht : t < 3) (hj : j < 12) : ∀ n (z : zT), okM z.2.1 → (rtl u m t j n z).1.2 = false → okM (rtl u m t j n z).2.1
  | 0, _, ok, _ => ok
  | n + 1, z, ok, h => by
    rw [rtl] at h ⊢
    split at h
    · rename_i h0
      rw [if_pos h0]
      have h1 : (rsx u m (z.1.1 + 1, z.1.2)).2 = false := by
        have h2 := h
        rw [rtl_1] at h2
        exact rpl_w n _ h2
      exact okM.rtk ht hj n _ (ok.spk ht hj h1) h
    · rename_i h0
      rw [if_neg h0]
      exact ok
theorem okM.rtw {u : Nat → Nat} {m : Nat} {x : Nat × Bool} {σ : Nat → Nat} (ok : okM σ) (c : Nat) (h : (rpx u m x).2 = false) : okM (rtx u m x σ c).2.1 := by
  refine okM.rtk (rqt_ok h).2 (rqj_ok h).2 _ _ (ok.spk (rqt_ok h).2 (rqj_ok h).2 (rq_w h).1) ?_
  rw [rtl_1]
  exact h
def rdt (u : Nat → Nat) (m : Nat) : Nat → zT → zT
  | 0, z => z
  | n + 1, z => if nxb u m z.1.1 z.1.2 (nI 59) (nI 59) then rdt u m n (rtx u m (z.1.1 + 1, z.1.2) z.2.1 z.2.2) else z
def rdy (u : Nat → Nat) (m : Nat) (σ : Nat → Nat) : zT := rdt u m (m + 1) (rtx u m (0, false) σ 0)
theorem rdt_1 (u : Nat → Nat) (m : Nat) : ∀ n z, (rdt u m n z).1 = rdl u m n z.1
  | 0, _ => rfl
  | n + 1, z => by
    rw [rdt, rdl]
    split
    · rw [rdt_1 u m n _, rtx_1]
    · rfl
theorem rdt_f {u : Nat → Nat} {m : Nat} {z : zT} (h : nxb u m z.1.1 z.1.2 (nI 59) (nI 59) = false) : ∀ n, rdt u m n z = z
  | 0 => rfl
  | n + 1 => by rw [rdt, if_neg (by rw [h]; decide)]
theorem rdt_t {u : Nat → Nat} {m : Nat} {z : zT} (h : nxb u m z.1.1 z.1.2 (nI 59) (nI 59) = true) {n : Nat} (hn : m < z.1.1 + n) : 0 < n ∧ rdt u m n z = rdt u m (n - 1) (rtx u m (z.1.1 + 1, z.1.2) z.2.1 z.2.2) := by
  have := nxb_lt h
  obtain ⟨k, rfl⟩ : ∃ k, n = k + 1 := ⟨n - 1, by omega⟩
  exact ⟨by omega, by rw [rdt, if_pos h]; rfl⟩
theorem rpx_w {u : Nat → Nat} {m : Nat} {x : Nat × Bool} (h : (rpx u m x).2 = false) : x.2 = false := (rq_w h).2.2.2.2.2
theorem rdl_w {u : Nat → Nat} {m : Nat} : ∀ n (x : Nat × Bool), (rdl u m n x).2 = false → x.2 = false
  | 0, _, h => h
  | n + 1, x, h => by
    rw [rdl] at h
    split at h
    · have h2 := rpx_w (x := (x.1 + 1, x.2)) (rdl_w n (rpx u m (x.1 + 1, x.2)) h)
      exact h2
    · exact h
theorem rdy_1 (u : Nat → Nat) (m : Nat) (σ : Nat → Nat) : (rdy u m σ).1 = rdx u m := by
  unfold rdy rdx
  rw [rdt_1, rtx_1]
theorem okM.rdk {u : Nat → Nat} {m : Nat} : ∀ n (z : zT), okM z.2.1 → (rdl u m n z.1).2 = false → okM (rdt u m n z).2.1
  | 0, _, ok, _ => ok
  | n + 1, z, ok, h => by
    rw [rdt]
    rw [rdl] at h
    split at h
    · rename_i h0
      rw [if_pos h0]
      have h1 := rdl_w n (rpx u m (z.1.1 + 1, z.1.2)) h
      exact okM.rdk n _ (ok.rtw _ h1) (by rw [rtx_1]; exact h)
    · rename_i h0
      rw [if_neg h0]
      exact ok
