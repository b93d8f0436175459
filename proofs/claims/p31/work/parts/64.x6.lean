abbrev rmX2_pins : Room := { frames := 6, cells := 0, slots := 0, locals := 137 }
abbrev rmX2_mixedBuffer : Room := { frames := 1, cells := 0, slots := 0, locals := 23 }
abbrev rmX2_mixedOutcomes : Room := { frames := 6, cells := 0, slots := 0, locals := 137 }
abbrev rmX2_cleanShare : Room := { frames := 1, cells := 0, slots := 0, locals := 21 }
theorem pdX2_cleanShare : kPd yX2_cleanShare 0 := by decide +kernel
set_option maxHeartbeats 400000 in
set_option maxRecDepth 100000 in
theorem mX2_cleanShare (l : Launch) (D : va_G) (c : Nat → ClassId) (a : Nat → Nat) (b : Nat → Nat → Nat) (θ : Nat → Nat → Nat → Nat) (ρ κ : Nat → Nat → Nat) (sz : Nat) (T : Nat) (ok : okS (θ 0) T) (hT : T < 500000000) (hne : ¬ θ 0 14 0 = 0 → vf_n64 (FP.ddiv (FP.i2d (nI (θ 0 14 0 - θ 0 15 0))) (FP.i2d (nI (θ 0 14 0))))) : MF2 l yX2_cleanShare wsX2_cleanShare rmX2_cleanShare D c sz (wP c a b θ ρ κ) [.ref (a 0)] (sh (θ 0 14 0) (θ 0 15 0)) (wP c a b θ ρ κ) := by
  refine MF2.of (cc := cX2_cleanShare) (maxL := 1) (by decide) rfl (Nat.le_of_ble_eq_true rfl) ?_
  intro P e s m below meth cd A Q ls hsz S hK hN hW hA hl hret
  have hl : lv_has ls 1 [(0, .ref (a 0))] := hl
  have hinX1 : ∀ w ∈ u_ws RX1 TX1 17, w ∈ wsX2_cleanShare := by decide +kernel
  have hinX2 : ∀ w ∈ u_ws RX2 TX2 10, w ∈ wsX2_cleanShare := by decide +kernel
  have h14 : θ 0 14 0 ≤ T := ok.2.2.2.2.2.2.2.2.2.2.1
  have h15 : θ 0 15 0 ≤ T := ok.2.2.2.2.2.2.2.2.2.2.2
  refine lv_aload_n S.1 S.2.1 dX2_cleanShare_0 rfl (lv_at hl 0 rfl) ?_
  refine kx_get S hK hW hinX2 0 2 rfl rfl 0 (by decide) (List.mem_of_getElem? (i := 1) rfl) (v := .ref (b 0 0)) rfl dX2_cleanShare_1 ?_
  refine kx_getN S hK hW hinX1 4 1 rfl rfl 14 (by decide) (hN _ (List.mem_of_getElem? (i := 6) rfl)) (v := .int (nI ((θ 0) 14 0))) rfl dX2_cleanShare_4 ?_
  refine kz_gt S (tgt := 12) dX2_cleanShare_7 (by decide) (by omega) (fun c_7 => ?_) (fun c_7 => ?_)
  · have hs : sh (θ 0 14 0) (θ 0 15 0) = FP.ddiv (FP.i2d (nI (θ 0 14 0 - θ 0 15 0))) (FP.i2d (nI (θ 0 14 0))) := if_neg (by omega)
    refine lv_iconst (v := nI (0)) S.1 S.2.1 dX2_cleanShare_12 rfl ?_
    refine lv_aload_n S.1 S.2.1 dX2_cleanShare_13 rfl (lv_at hl 0 rfl) ?_
    refine kx_get S hK hW hinX2 0 2 rfl rfl 0 (by decide) (List.mem_of_getElem? (i := 1) rfl) (v := .ref (b 0 0)) rfl dX2_cleanShare_14 ?_
    refine kx_getN S hK hW hinX1 4 1 rfl rfl 14 (by decide) (hN _ (List.mem_of_getElem? (i := 6) rfl)) (v := .int (nI ((θ 0) 14 0))) rfl dX2_cleanShare_17 ?_
    refine lv_aload_n S.1 S.2.1 dX2_cleanShare_20 rfl (lv_at hl 0 rfl) ?_
    refine kx_get S hK hW hinX2 0 2 rfl rfl 0 (by decide) (List.mem_of_getElem? (i := 1) rfl) (v := .ref (b 0 0)) rfl dX2_cleanShare_21 ?_
    refine kx_getN S hK hW hinX1 4 1 rfl rfl 15 (by decide) (hN _ (List.mem_of_getElem? (i := 7) rfl)) (v := .int (nI ((θ 0) 15 0))) rfl dX2_cleanShare_24 ?_
    refine lv_isub S.1 S.2.1 dX2_cleanShare_27 ?_
    refine kr_max S hl.1 (List.mem_of_getElem? (i := 2) rfl) (List.mem_of_getElem? (i := 3) rfl) (List.mem_of_getElem? (i := 4) rfl) (List.mem_of_getElem? (i := 5) rfl) ⟨Nat.le_of_ble_eq_true rfl, Nat.le_of_ble_eq_true rfl⟩ ⟨Nat.le_of_ble_eq_true rfl, Nat.le_of_ble_eq_true rfl⟩ dX2_cleanShare_28 ?_
    refine k_top (y := nI (θ 0 14 0 - θ 0 15 0)) (k_mx0 (by omega) (by omega)) ?_
    refine lv_i2d S.1 S.2.1 dX2_cleanShare_31 ?_
    refine lv_aload_n S.1 S.2.1 dX2_cleanShare_32 rfl (lv_at hl 0 rfl) ?_
    refine kx_get S hK hW hinX2 0 2 rfl rfl 0 (by decide) (List.mem_of_getElem? (i := 1) rfl) (v := .ref (b 0 0)) rfl dX2_cleanShare_33 ?_
    refine kx_getN S hK hW hinX1 4 1 rfl rfl 14 (by decide) (hN _ (List.mem_of_getElem? (i := 6) rfl)) (v := .int (nI ((θ 0) 14 0))) rfl dX2_cleanShare_36 ?_
    refine lv_i2d S.1 S.2.1 dX2_cleanShare_39 ?_
    refine lv_ddiv S.1 S.2.1 dX2_cleanShare_40 (hne (by omega)) ?_
    exact hret 41 _ _ _ _ _ dX2_cleanShare_41 hW (hs.symm) (rfl)
  · have hs : sh (θ 0 14 0) (θ 0 15 0) = FP.dconst1 := if_pos c_7
    refine lv_dconst1 S.1 S.2.1 dX2_cleanShare_10 ?_
    exact hret 11 _ _ _ _ _ dX2_cleanShare_11 hW (hs.symm) (rfl)
abbrev rmX2_clean : Room := { frames := 2, cells := 0, slots := 0, locals := 41 }
theorem pdX2_clean : kPd yX2_clean 0 := by decide +kernel
set_option maxHeartbeats 400000 in
set_option maxRecDepth 100000 in
theorem mX2_clean (l : Launch) (D : va_G) (c : Nat → ClassId) (a : Nat → Nat) (b : Nat → Nat → Nat) (θ : Nat → Nat → Nat → Nat) (ρ κ : Nat → Nat → Nat) (sz : Nat) (T : Nat) (ok : okS (θ 0) T) (hT : T < 500000000) (hne : ¬ θ 0 14 0 = 0 → vf_n64 (FP.ddiv (FP.i2d (nI (θ 0 14 0 - θ 0 15 0))) (FP.i2d (nI (θ 0 14 0))))) : MF2 l yX2_clean wsX2_clean rmX2_clean D c sz (wP c a b θ ρ κ) [.ref (a 0)] (sh (θ 0 14 0) (θ 0 15 0)) (wP c a b θ ρ κ) := by
  refine MF2.of (cc := cX2_clean) (maxL := 1) (by decide) rfl (Nat.le_of_ble_eq_true rfl) ?_
  intro P e s m below meth cd A Q ls hsz S hK hN hW hA hl hret
  have hl : lv_has ls 1 [(0, .ref (a 0))] := hl
  refine lv_aload_n S.1 S.2.1 dX2_clean_0 rfl (lv_at hl 0 rfl) ?_
  refine k_VD2 (rest := []) S hK hl.1 hW (KFr.all hW hA) hN (mX2_cleanShare l D c a b θ ρ κ _ T ok (by first | omega | exact hT | assumption | (show T < 500000000; omega) | rfl) (by first | omega | exact hne | assumption | (show ¬ ((θ 0)) 14 0 = 0 → vf_n64 (FP.ddiv (FP.i2d (nI (((θ 0)) 14 0 - ((θ 0)) 15 0))) (FP.i2d (nI (((θ 0)) 14 0)))); omega) | rfl)) gX2_clean_X2_cleanShare rfl pdX2_cleanShare ⟨⟨rfl, rfl⟩, Nat.le_of_ble_eq_true rfl, Nat.le_of_ble_eq_true rfl⟩ 0 2 rfl rfl rfl rfl (Nat.le_of_ble_eq_true rfl) dX2_clean_1 ⟨Nat.le_of_ble_eq_true rfl, Nat.le_of_ble_eq_true rfl⟩ (fun H locs hW => ?_)
  have hW : kw D A s.heap (wP c a b θ ρ κ) H locs := hW
  exact hret 4 _ _ _ _ _ dX2_clean_4 hW (rfl) (rfl)
