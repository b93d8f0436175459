/-! ===== what the start gives ===== -/
theorem lw_kn {s : State} {b : Nat} (hts : ∀ w ∈ lw_tbl, w.before #[Value.ref b] s = true) : ∃ (D : va_G) (c : Nat → ClassId), va_K D vwCl (vT c) s := by
  obtain ⟨c0, i0, k0⟩ := u_known (C := RX0) (T := TX0) (N := 5) (n := 5) hts inX0 (hts (.instantiable RX0 5) (by decide +kernel))
  obtain ⟨c1, i1, k1⟩ := u_known (C := RX1) (T := TX1) (N := 17) (n := 17) hts inX1 (hts (.instantiable RX1 17) (by decide +kernel))
  obtain ⟨c2, i2, k2⟩ := u_known (C := RX2) (T := TX2) (N := 10) (n := 10) hts inX2 (hts (.instantiable RX2 10) (by decide +kernel))
  obtain ⟨cA, kA, pA, a1, a2, a3⟩ := Cond.arrayClass_spec (hts (.arrayClass .int) (by decide +kernel))
  obtain ⟨cC, kC, pC, b1, b2, b3⟩ := Cond.arrayClass_spec (hts (.arrayClass .char) (by decide +kernel))
  obtain ⟨pR, cR, kR, r1, r2, r3, r4, r5⟩ := Cond.arrayOver_spec (hts (.arrayOver (.object RX1)) (by decide +kernel))
  refine ⟨(fun k => if k = 0 then c0 else if k = 1 then c1 else c2, fun k => if k = 0 then i0 else if k = 1 then i1 else i2), fun k => if k = 0 then cA else if k = 1 then cC else cR, fun k q hq => ?_, fun k q hq => ?_⟩
  · match k, hq with
    | 0, hq => cases hq; exact k0
    | 1, hq => cases hq; exact k1
    | 2, hq => cases hq; exact k2
    | k + 3, hq => simp [vwCl] at hq
  · match k, hq with
    | 0, hq => cases hq; exact ⟨fun n z => ⟨fun k h => (by cases h), kA, a2, pA, a3⟩, a1⟩
    | 1, hq => cases hq; exact ⟨fun n z => ⟨fun k h => (by cases h), kC, b2, pC, b3⟩, b1⟩
    | 2, hq => cases hq; exact ⟨fun n z => ⟨fun k h => (by cases h), kR, r3, pR, r4⟩, kR, pR, r3, r4, r1, r5⟩
    | k + 3, hq => simp [vT] at hq
theorem lw_nst {s : State} {b : Nat} (hts : ∀ w ∈ lw_tbl, w.before #[Value.ref b] s = true) : nW s := fun w hw => va_Nw.of ((by decide +kernel : ∀ w ∈ nstL, w.onTables = true) w hw) (hts w ((by decide +kernel : ∀ w ∈ nstL, w ∈ lw_tbl) w hw))
theorem lw_nC {s : State} {b : Nat} (hts : ∀ w ∈ lw_tbl, w.before #[Value.ref b] s = true) : nC s := ⟨va_Nw.of rfl (hts _ (by decide +kernel)), va_Nw.of rfl (hts _ (by decide +kernel)), va_AO.of (hts _ (by decide +kernel))⟩
theorem lw_str {s : State} {b : Nat} (hts : ∀ w ∈ lw_tbl, w.before #[Value.ref b] s = true) (hgv : (Jvm.Cond.and given_1 narrow_1).before #[Value.ref b] s = true) : sW s := by
  have hs := flat_of_before _ hgv
  obtain ⟨cC, kC, hfc, -⟩ := Cond.instantiable_spec (hts (.instantiable RX2 10) (by decide +kernel))
  refine ⟨fun x hx => ?_, ⟨va_Nc.of (hs _ (by decide +kernel)), va_Nc.of (hs _ (by decide +kernel)), va_Nc.of (hs _ (by decide +kernel))⟩, va_Nw.of rfl (hts _ (by decide +kernel)), va_Nw.of rfl (hts _ (by decide +kernel)), va_Nw.of rfl (hts _ (by decide +kernel)), fun y hy => va_Nw.of rfl (hts _ ((by decide +kernel : ∀ y ∈ Bundle.tN :: xNm, Cond.declares (Bundle.initS y) ∈ lw_tbl) y hy))⟩
  have hm := hts _ ((by decide +kernel : ∀ x ∈ strL, Cond.stringRef RX2 x.1 x.2 ∈ lw_tbl) x hx)
  obtain ⟨k, cf, j, a, hk, -, -, -, hr, hev⟩ := Cond.stringRef_spec hfc hm
  exact ⟨a, vk_R.of hm hev⟩
theorem lw_stat {s : State} {b : Nat} (hts : ∀ w ∈ lw_tbl, w.before #[Value.ref b] s = true) (hgv : (Jvm.Cond.and given_1 narrow_1).before #[Value.ref b] s = true) : eV (fun q => s.heap.size ≤ q) s s.heap := by
  have hs := flat_of_before _ hgv
  have hA : ∀ a : Nat, a < s.heap.size → ¬ (fun q : Nat => s.heap.size ≤ q) a := fun a h => Nat.not_le.mpr h
  refine ⟨vx_Zqof (hts _ (by decide +kernel)) (hts _ (by decide +kernel)) (hs _ (by decide +kernel)) hA, vx_Zqof (hts _ (by decide +kernel)) (hts _ (by decide +kernel)) (hs _ (by decide +kernel)) hA, ?_, ?_⟩
  · have hel : ∀ j : Nat, j < 5 → (Term.elem (.static RX2 "LEAST_VALUE" "[I") (.int (Int32.ofNat j))).eval #[Value.ref b] s none [] s = some (.int (nI (loS j))) := by
      intro j hj
      rcases (show j = 0 ∨ j = 1 ∨ j = 2 ∨ j = 3 ∨ j = 4 by omega) with rfl | rfl | rfl | rfl | rfl
      · exact va_eqt (hs (.eq (.elem (.static RX2 "LEAST_VALUE" "[I") (.int 0)) (.int 4)) (by decide +kernel))
      · exact va_eqt (hs (.eq (.elem (.static RX2 "LEAST_VALUE" "[I") (.int 1)) (.int 0)) (by decide +kernel))
      · exact va_eqt (hs (.eq (.elem (.static RX2 "LEAST_VALUE" "[I") (.int 2)) (.int 0)) (by decide +kernel))
      · exact va_eqt (hs (.eq (.elem (.static RX2 "LEAST_VALUE" "[I") (.int 3)) (.int 1)) (by decide +kernel))
      · exact va_eqt (hs (.eq (.elem (.static RX2 "LEAST_VALUE" "[I") (.int 4)) (.int 1)) (by decide +kernel))
    obtain ⟨t, h1, h2⟩ := va_Tof (N := 5) (f := fun j => .int (nI (loS j))) (by decide) (hs (.arrayOf (.static RX2 "LEAST_VALUE" "[I") .int) (by decide +kernel)) (va_eqt (hs (.eq (.length (.static RX2 "LEAST_VALUE" "[I")) (.int 5)) (by decide +kernel))) hel hA
    exact ⟨t, va_Zof (hts _ (by decide +kernel)) (hts _ (by decide +kernel)) h1 hA, h2⟩
  · have hel : ∀ j : Nat, j < 5 → (Term.elem (.static RX2 "MOST_VALUE" "[I") (.int (Int32.ofNat j))).eval #[Value.ref b] s none [] s = some (.int (nI (hiS j))) := by
      intro j hj
      rcases (show j = 0 ∨ j = 1 ∨ j = 2 ∨ j = 3 ∨ j = 4 by omega) with rfl | rfl | rfl | rfl | rfl
      · exact va_eqt (hs (.eq (.elem (.static RX2 "MOST_VALUE" "[I") (.int 0)) (.int 90)) (by decide +kernel))
      · exact va_eqt (hs (.eq (.elem (.static RX2 "MOST_VALUE" "[I") (.int 1)) (.int 20)) (by decide +kernel))
      · exact va_eqt (hs (.eq (.elem (.static RX2 "MOST_VALUE" "[I") (.int 2)) (.int 1)) (by decide +kernel))
      · exact va_eqt (hs (.eq (.elem (.static RX2 "MOST_VALUE" "[I") (.int 3)) (.int 8)) (by decide +kernel))
      · exact va_eqt (hs (.eq (.elem (.static RX2 "MOST_VALUE" "[I") (.int 4)) (.int 12)) (by decide +kernel))
    obtain ⟨t, h1, h2⟩ := va_Tof (N := 5) (f := fun j => .int (nI (hiS j))) (by decide) (hs (.arrayOf (.static RX2 "MOST_VALUE" "[I") .int) (by decide +kernel)) (va_eqt (hs (.eq (.length (.static RX2 "MOST_VALUE" "[I")) (.int 5)) (by decide +kernel))) hel hA
    exact ⟨t, va_Zof (hts _ (by decide +kernel)) (hts _ (by decide +kernel)) h1 hA, h2⟩
