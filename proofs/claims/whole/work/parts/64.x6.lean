abbrev rmX2_pins : Room := { frames := 6, cells := 0, slots := 0, locals := 137 }
theorem pdX2_pins : kPd yX2_pins 0 := by decide +kernel
set_option maxHeartbeats 400000 in
set_option maxRecDepth 100000 in
theorem mX2_pins_k (l : Launch) (D : va_G) (c : Nat → ClassId) (a : Nat → Nat) (b : Nat → Nat → Nat) (θ : Nat → Nat → Nat → Nat) (ρ κ : Nat → Nat → Nat) (sz : Nat) (T : Nat) (hbl : κ 4 0 ≤ 60) (hbf : ∀ i, i < κ 4 0 → κ 0 i < 128) (okr : okR ρ) (ok : okS (θ 0) T) (hold : κ 2 0 < 6) (hcnt : κ 3 0 ≤ 6) (hall : (rbR (κ 0) (κ 4 0) 0 (pu (ρ) 0 (kc 0))).1 = κ 4 0) (hcm1 : ((rbR (κ 0) (κ 4 0) 0 (pu (ρ) 0 (kc 0))).2 0 0 = 5 ∨ ((rbR (κ 0) (κ 4 0) 0 (pu (ρ) 0 (kc 0))).2 0 0 = 7 ∧ (rbR (κ 0) (κ 4 0) 0 (pu (ρ) 0 (kc 0))).2 3 0 < (rbR (κ 0) (κ 4 0) 0 (pu (ρ) 0 (kc 0))).2 4 0))) (hall2 : (rbR (κ 0) (κ 4 0) 0 (pu ((rbR (κ 0) (κ 4 0) 0 (pu (ρ) 0 (kc 0))).2) 0 (kc 0))).1 = κ 4 0) (hcm2 : ((rbR (κ 0) (κ 4 0) 0 (pu ((rbR (κ 0) (κ 4 0) 0 (pu (ρ) 0 (kc 0))).2) 0 (kc 0))).2 0 0 = 5 ∨ ((rbR (κ 0) (κ 4 0) 0 (pu ((rbR (κ 0) (κ 4 0) 0 (pu (ρ) 0 (kc 0))).2) 0 (kc 0))).2 0 0 = 7 ∧ (rbR (κ 0) (κ 4 0) 0 (pu ((rbR (κ 0) (κ 4 0) 0 (pu (ρ) 0 (kc 0))).2) 0 (kc 0))).2 3 0 < (rbR (κ 0) (κ 4 0) 0 (pu ((rbR (κ 0) (κ 4 0) 0 (pu (ρ) 0 (kc 0))).2) 0 (kc 0))).2 4 0))) : MI2 l yX2_pins wsX2_pins rmX2_pins D c sz (wP c a b θ ρ κ) [.ref (a 0)] (nI ((ppR (κ 0) (κ 4 0) 0 0 (θ 0) (pu ((rbR (κ 0) (κ 4 0) 0 (pu (ρ) 0 (kc 0))).2) 0 (kc 0))).1)) (wP c a b (pst (svT θ ((κ 2 0 + κ 3 0) % 6)) 0 ((ppR (κ 0) (κ 4 0) 0 0 (θ 0) (pu ((rbR (κ 0) (κ 4 0) 0 (pu (ρ) 0 (kc 0))).2) 0 (kc 0))).2.1)) ((ppR (κ 0) (κ 4 0) 0 0 (θ 0) (pu ((rbR (κ 0) (κ 4 0) 0 (pu (ρ) 0 (kc 0))).2) 0 (kc 0))).2.2) (pu (svK κ) 4 (kc (0)))) := by
  refine MI2.of (cc := cX2_pins) (maxL := 3) (ty := .int) (by decide) rfl (Nat.le_of_ble_eq_true rfl) rfl ?_
  intro P e s m below meth cd A Q ls hsz S hK hN hW hA hl hret
  have hl : lv_has ls 3 [(0, .ref (a 0))] := hl
  have hinX2 : ∀ w ∈ u_ws RX2 TX2 10, w ∈ wsX2_pins := by decide +kernel
  have okr0 : okR (pu ρ 0 (kc 0)) := a_ok okr 0 0 (fun _ => by omega) (fun q => by omega) (fun q => by omega) (fun q => by omega) (fun q => by omega)
  have okr1 : okR (rbR (κ 0) (κ 4 0) 0 (pu (ρ) 0 (kc 0))).2 := rbR_ok _ _ okr0
  refine lv_aload_n S.1 S.2.1 dX2_pins_0 rfl (lv_at hl 0 rfl) ?_
  refine k_VI2 (rest := []) S hK hl.1 hW (KFr.all hW hA) hN (mX2_readBuffer l D c a b θ ρ κ _ (by first | omega | exact hbl | assumption | (show (κ 4 0) ≤ 60; omega) | rfl) (by first | omega | exact hbf | assumption | (show ∀ i, i < (κ 4 0) → (κ 0) i < 128; omega) | rfl) (by first | omega | exact okr | assumption | (show okR ρ; omega) | rfl)) gX2_pins_X2_readBuffer rfl pdX2_readBuffer ⟨⟨rfl, rfl⟩, Nat.le_of_ble_eq_true rfl, Nat.le_of_ble_eq_true rfl⟩ 0 2 rfl rfl rfl rfl (Nat.le_of_ble_eq_true rfl) dX2_pins_1 ⟨Nat.le_of_ble_eq_true rfl, Nat.le_of_ble_eq_true rfl⟩ (fun H locs hW => ?_)
  have hW : kw D A s.heap (wP c a b θ ((rbR ((κ 0)) ((κ 4 0)) 0 (pu (ρ) 0 (kc 0))).2) κ) H locs := hW
  refine k_top (y := nI ((rbR ((κ 0)) ((κ 4 0)) 0 (pu (ρ) 0 (kc 0))).1)) rfl ?_
  refine lv_istore_n (lv' := [(1, .int (nI ((rbR ((κ 0)) ((κ 4 0)) 0 (pu (ρ) 0 (kc 0))).1))), (0, .ref (a 0))]) S.1 S.2.1 dX2_pins_4 rfl hl (by decide) rfl (fun ls hl => ?_)
  refine lv_iload_n S.1 S.2.1 dX2_pins_5 rfl (lv_at hl 0 rfl) ?_
  refine lv_aload_n S.1 S.2.1 dX2_pins_6 rfl (lv_at hl 1 rfl) ?_
  refine kx_get S hK hW hinX2 0 2 rfl rfl 8 (by decide) (List.mem_of_getElem? (i := 3) rfl) (v := .int (nI (κ 4 0))) rfl dX2_pins_7 ?_
  refine kn_lt S (tgt := 23) dX2_pins_10 (by decide) (by omega) (by omega) (fun c_10 => ?_) (fun c_10 => ?_)
  · exact absurd c_10 (by omega)
  · refine lv_aload_n S.1 S.2.1 dX2_pins_13 rfl (lv_at hl 1 rfl) ?_
    refine kx_get S hK hW hinX2 0 2 rfl rfl 9 (by decide) (List.mem_of_getElem? (i := 4) rfl) (v := .ref (a 3)) rfl dX2_pins_14 ?_
    refine k_VI (rest := []) S hK hl.1 hW (fR hW hA _) (mX0_isComplete l D c (fun _ => a 3) (((rbR ((κ 0)) ((κ 4 0)) 0 (pu (ρ) 0 (kc 0))).2)) _ okr1) gX2_pins_X0_isComplete rfl pdX0_isComplete ⟨⟨rfl, rfl⟩, Nat.le_of_ble_eq_true rfl, Nat.le_of_ble_eq_true rfl⟩ 0 0 rfl rfl rfl rfl (Nat.le_of_ble_eq_true rfl) dX2_pins_17 ⟨Nat.le_of_ble_eq_true rfl, Nat.le_of_ble_eq_true rfl⟩ (fun H locs hW => ?_)
    have hW : kw D A s.heap (wP c a b θ ((rbR ((κ 0)) ((κ 4 0)) 0 (pu (ρ) 0 (kc 0))).2) κ) H locs := hW
    refine k_top (y := nI (((decide ((((rbR ((κ 0)) ((κ 4 0)) 0 (pu (ρ) 0 (kc 0))).2) 0 0) = 5 ∨ ((((rbR ((κ 0)) ((κ 4 0)) 0 (pu (ρ) 0 (kc 0))).2) 0 0) = 7 ∧ (((rbR ((κ 0)) ((κ 4 0)) 0 (pu (ρ) 0 (kc 0))).2) 3 0) < (((rbR ((κ 0)) ((κ 4 0)) 0 (pu (ρ) 0 (kc 0))).2) 4 0))))).toNat)) rfl ?_
    refine kb_ne S (tgt := 33) dX2_pins_20 (by decide) (fun c_20 => ?_) (fun c_20 => ?_)
    · refine lv_aload_n S.1 S.2.1 dX2_pins_33 rfl (lv_at hl 1 rfl) ?_
      refine k_VV2 (rest := []) S hK hl.1 hW (KFr.all hW hA) hN (mX2_saveState l D c a b θ (((rbR ((κ 0)) ((κ 4 0)) 0 (pu (ρ) 0 (kc 0))).2)) κ _ (by first | omega | exact hold | assumption | (show (κ 2 0) < 6; omega) | rfl) (by first | omega | exact hcnt | assumption | (show (κ 3 0) ≤ 6; omega) | rfl)) gX2_pins_X2_saveState rfl pdX2_saveState ⟨⟨rfl, rfl⟩, Nat.le_of_ble_eq_true rfl, Nat.le_of_ble_eq_true rfl⟩ 0 2 rfl rfl rfl rfl (Nat.le_of_ble_eq_true rfl) dX2_pins_34 ⟨Nat.le_of_ble_eq_true rfl, Nat.le_of_ble_eq_true rfl⟩ (fun H locs hW => ?_)
      have hW : kw D A s.heap (wP c a b (svT θ (((κ 2 0) + (κ 3 0)) % 6)) ((rbR ((κ 0)) ((κ 4 0)) 0 (pu (ρ) 0 (kc 0))).2) (svK κ)) H locs := hW
      refine lv_aload_n S.1 S.2.1 dX2_pins_37 rfl (lv_at hl 1 rfl) ?_
      refine k_VI2 (rest := []) S hK hl.1 hW (KFr.all hW hA) hN (mX2_putBufferPins l D c a b ((svT θ (((κ 2 0) + (κ 3 0)) % 6))) (((rbR ((κ 0)) ((κ 4 0)) 0 (pu (ρ) 0 (kc 0))).2)) ((svK κ)) _ T (by rw [svK_4]; exact hbl) (by rw [svK_4, svK_0]; exact hbf) okr1 ok (by rw [svK_4, svK_0]; exact hall2) (by rw [svK_4, svK_0]; exact hcm2)) gX2_pins_X2_putBufferPins rfl pdX2_putBufferPins ⟨⟨rfl, rfl⟩, Nat.le_of_ble_eq_true rfl, Nat.le_of_ble_eq_true rfl⟩ 0 2 rfl rfl rfl rfl (Nat.le_of_ble_eq_true rfl) dX2_pins_38 ⟨Nat.le_of_ble_eq_true rfl, Nat.le_of_ble_eq_true rfl⟩ (fun H locs hW => ?_)
      have hW : kw D A s.heap (wP c a b (pst (svT θ (((κ 2 0) + (κ 3 0)) % 6)) 0 ((ppR (((svK κ) 0)) (((svK κ) 4 0)) 0 0 (((θ 0))) (pu (((rbR ((κ 0)) ((κ 4 0)) 0 (pu (ρ) 0 (kc 0))).2)) 0 (kc 0))).2.1)) ((ppR (((svK κ) 0)) (((svK κ) 4 0)) 0 0 (((θ 0))) (pu (((rbR ((κ 0)) ((κ 4 0)) 0 (pu (ρ) 0 (kc 0))).2)) 0 (kc 0))).2.2) (svK κ)) H locs := hW
      refine k_top (y := nI ((ppR (((svK κ) 0)) (((svK κ) 4 0)) 0 0 (((θ 0))) (pu (((rbR ((κ 0)) ((κ 4 0)) 0 (pu (ρ) 0 (kc 0))).2)) 0 (kc 0))).1)) rfl ?_
      refine lv_istore_n (lv' := [(2, .int (nI ((ppR (((svK κ) 0)) (((svK κ) 4 0)) 0 0 (((θ 0))) (pu (((rbR ((κ 0)) ((κ 4 0)) 0 (pu (ρ) 0 (kc 0))).2)) 0 (kc 0))).1))), (1, .int (nI ((rbR ((κ 0)) ((κ 4 0)) 0 (pu (ρ) 0 (kc 0))).1))), (0, .ref (a 0))]) S.1 S.2.1 dX2_pins_41 rfl hl (by decide) rfl (fun ls hl => ?_)
      refine lv_aload_n S.1 S.2.1 dX2_pins_42 rfl (lv_at hl 2 rfl) ?_
      refine lv_iconst (v := nI (0)) S.1 S.2.1 dX2_pins_43 rfl ?_
      refine kx_put S hK hW hinX2 tyX2_ok nmX2 0 2 rfl rfl 8 (by decide) (List.mem_of_getElem? (i := 3) rfl) rfl (v := .int (nI (0))) rfl rfl (Nat.le_of_ble_eq_true rfl) dX2_pins_44 (fun H locs hW => ?_)
      have hW : kw D A s.heap (wP c a b (pst (svT θ (((κ 2 0) + (κ 3 0)) % 6)) 0 ((ppR (((svK κ) 0)) (((svK κ) 4 0)) 0 0 (((θ 0))) (pu (((rbR ((κ 0)) ((κ 4 0)) 0 (pu (ρ) 0 (kc 0))).2)) 0 (kc 0))).2.1)) ((ppR (((svK κ) 0)) (((svK κ) 4 0)) 0 0 (((θ 0))) (pu (((rbR ((κ 0)) ((κ 4 0)) 0 (pu (ρ) 0 (kc 0))).2)) 0 (kc 0))).2.2) (pu (svK κ) 4 (kc (0)))) H locs := hW
      refine lv_iload_n S.1 S.2.1 dX2_pins_47 rfl (lv_at hl 0 rfl) ?_
      exact hret 48 _ _ _ _ _ dX2_pins_48 hW (congrArg nI (by rw [svK_0, svK_4])) (by rw [svK_0, svK_4] <;> rfl)
    · exact absurd ((decide_eq_true hcm1).symm.trans c_20) (by decide)
abbrev rmX2_mixedBuffer : Room := { frames := 1, cells := 0, slots := 0, locals := 23 }
theorem pdX2_mixedBuffer : kPd yX2_mixedBuffer 1 := by decide +kernel
set_option maxHeartbeats 400000 in
set_option maxRecDepth 100000 in
theorem mX2_mixedBuffer (l : Launch) (D : va_G) (c : Nat → ClassId) (a : Nat → Nat) (b : Nat → Nat → Nat) (θ : Nat → Nat → Nat → Nat) (ρ κ : Nat → Nat → Nat) (sz : Nat) (h : Int64) (hbl : κ 4 0 ≤ 60) : ML2 l yX2_mixedBuffer wsX2_mixedBuffer rmX2_mixedBuffer D c sz (wP c a b θ ρ κ) [.ref (a 0), .long (h)] (d1 (31 * h + (nI (κ 4 0)).toInt64) (fbS (κ 0)) (κ 4 0)) (wP c a b θ ρ κ) := by
  refine ML2.of (cc := cX2_mixedBuffer) (maxL := 6) (by decide) rfl (Nat.le_of_ble_eq_true rfl) ?_
  intro P e s m below meth cd A Q ls hsz S hK hN hW hA hl hret
  have hl : lv_has ls 6 [(0, .ref (a 0)), (1, .long (h))] := hl
  have hinX2 : ∀ w ∈ u_ws RX2 TX2 10, w ∈ wsX2_mixedBuffer := by decide +kernel
  refine lv_lload_n S.1 S.2.1 dX2_mixedBuffer_0 rfl (lv_at hl 1 rfl) ?_
  refine lv_aload_n S.1 S.2.1 dX2_mixedBuffer_1 rfl (lv_at hl 0 rfl) ?_
  refine kx_get S hK hW hinX2 0 2 rfl rfl 8 (by decide) (List.mem_of_getElem? (i := 1) rfl) (v := .int (nI (κ 4 0))) rfl dX2_mixedBuffer_2 ?_
  refine lv_i2l S.1 S.2.1 dX2_mixedBuffer_5 rfl ?_
  refine k_SL (rest := []) S hK hl.1 hW (KFr.nil hW hA) (mX2_mixed l D c  _ h ((nI (κ 4 0)).toInt64)) gX2_mixedBuffer_X2_mixed rfl pdX2_mixed ⟨⟨rfl, rfl⟩, Nat.le_of_ble_eq_true rfl, Nat.le_of_ble_eq_true rfl⟩ rfl (Nat.le_of_ble_eq_true rfl) dX2_mixedBuffer_6 ⟨Nat.le_of_ble_eq_true rfl, Nat.le_of_ble_eq_true rfl⟩ (fun H locs hW => ?_)
  have hW : kw D A s.heap (wP c a b θ ρ κ) H locs := hW
  refine lv_lstore_n (lv' := [(3, .long (31 * h + ((nI (κ 4 0)).toInt64))), (0, .ref (a 0)), (1, .long (h))]) S.1 S.2.1 dX2_mixedBuffer_9 rfl hl (by decide) rfl (fun ls hl => ?_)
  rw [← d1_0 (31 * h + (nI (κ 4 0)).toInt64) (fbS (κ 0))] at hl
  refine lv_iconst (v := nI (0)) S.1 S.2.1 dX2_mixedBuffer_10 rfl ?_
  refine lv_istore (lv' := [(5, .int (nI (0))), (3, .long (d1 (31 * h + (nI (κ 4 0)).toInt64) (fbS (κ 0)) 0)), (0, .ref (a 0)), (1, .long (h))]) S.1 S.2.1 dX2_mixedBuffer_11 hl (by decide) rfl (fun ls hl => ?_)
  refine k_loop (fun (zz : Nat) H lo ls => match zz with | k => kw D A s.heap (wP c a b θ ρ κ) H lo ∧ lv_has ls 6 [(0, .ref (a 0)), (1, .long (h)), (3, .long (d1 (31 * h + (nI (κ 4 0)).toInt64) (fbS (κ 0)) k)), (5, .int (nI (k)))] ∧ k ≤ κ 4 0) (fun (zz : Nat) => match zz with | k => κ 4 0 - k) [] ?_ 0 _ _ _ ⟨hW, lv_sub hl [2, 3, 1, 0] rfl, (Nat.zero_le _)⟩
  rintro k ih13 H locs ls ⟨hW, hl, hi13_0⟩
  refine lv_iload S.1 S.2.1 dX2_mixedBuffer_13 (lv_at hl 3 rfl) ?_
  refine lv_aload_n S.1 S.2.1 dX2_mixedBuffer_15 rfl (lv_at hl 0 rfl) ?_
  refine kx_get S hK hW hinX2 0 2 rfl rfl 8 (by decide) (List.mem_of_getElem? (i := 1) rfl) (v := .int (nI (κ 4 0))) rfl dX2_mixedBuffer_16 ?_
  refine kn_ge S (tgt := 41) dX2_mixedBuffer_19 (by decide) (by omega) (by omega) (fun c_19 => ?_) (fun c_19 => ?_)
  · have e9 : k = κ 4 0 := by omega
    subst e9
    refine lv_lload_n S.1 S.2.1 dX2_mixedBuffer_41 rfl (lv_at hl 2 rfl) ?_
    exact hret 42 _ _ _ _ _ dX2_mixedBuffer_42 hW (rfl) (rfl)
  · refine lv_lload_n S.1 S.2.1 dX2_mixedBuffer_22 rfl (lv_at hl 2 rfl) ?_
    refine lv_aload_n S.1 S.2.1 dX2_mixedBuffer_23 rfl (lv_at hl 0 rfl) ?_
    refine kx_get S hK hW hinX2 0 2 rfl rfl 7 (by decide) (List.mem_of_getElem? (i := 2) rfl) (v := .ref (a 2)) rfl dX2_mixedBuffer_24 ?_
    refine lv_iload S.1 S.2.1 dX2_mixedBuffer_27 (lv_at hl 3 rfl) ?_
    refine kn_cld S hK hW 2 (f := κ 0) rfl (by omega) (by decide) dX2_mixedBuffer_29 ?_
    refine lv_i2l S.1 S.2.1 dX2_mixedBuffer_30 rfl ?_
    refine k_SL (rest := []) S hK hl.1 hW (KFr.nil hW hA) (mX2_mixed l D c  _ (d1 (31 * h + (nI (κ 4 0)).toInt64) (fbS (κ 0)) k) ((nI (κ 0 (k))).toInt64)) gX2_mixedBuffer_X2_mixed rfl pdX2_mixed ⟨⟨rfl, rfl⟩, Nat.le_of_ble_eq_true rfl, Nat.le_of_ble_eq_true rfl⟩ rfl (Nat.le_of_ble_eq_true rfl) dX2_mixedBuffer_31 ⟨Nat.le_of_ble_eq_true rfl, Nat.le_of_ble_eq_true rfl⟩ (fun H locs hW => ?_)
    have hW : kw D A s.heap (wP c a b θ ρ κ) H locs := hW
    refine k_topl (y := d1 (31 * h + (nI (κ 4 0)).toInt64) (fbS (κ 0)) (k + 1)) ((d1_s _ _ _).symm) ?_
    refine lv_lstore_n (lv' := [(3, .long (d1 (31 * h + (nI (κ 4 0)).toInt64) (fbS (κ 0)) (k + 1))), (0, .ref (a 0)), (1, .long (h)), (5, .int (nI (k)))]) S.1 S.2.1 dX2_mixedBuffer_34 rfl hl (by decide) rfl (fun ls hl => ?_)
    refine lv_iinc (v := nI (k + 1)) (lv' := [(5, .int (nI (k + 1))), (3, .long (d1 (31 * h + (nI (κ 4 0)).toInt64) (fbS (κ 0)) (k + 1))), (0, .ref (a 0)), (1, .long (h))]) S.1 S.2.1 dX2_mixedBuffer_35 hl (k := 3) rfl (nI_add _ _) (by decide) rfl (fun ls hl => ?_)
    refine lv_goto (tgt := 13) S.1 S.2.1 dX2_mixedBuffer_38 (by decide) ?_
    exact ih13 (k + 1) _ _ _ ⟨hW, lv_sub hl [2, 3, 1, 0] rfl, (by omega)⟩ (by show κ 4 0 - (k + 1) < κ 4 0 - k; omega)
abbrev rmX2_mixedOutcomes : Room := { frames := 6, cells := 0, slots := 0, locals := 137 }
theorem pdX2_mixedOutcomes : kPd yX2_mixedOutcomes 1 := by decide +kernel
set_option maxHeartbeats 400000 in
set_option maxRecDepth 100000 in
theorem mX2_mixedOutcomes (l : Launch) (D : va_G) (c : Nat → ClassId) (a : Nat → Nat) (b : Nat → Nat → Nat) (θ : Nat → Nat → Nat → Nat) (ρ κ : Nat → Nat → Nat) (sz : Nat) (h : Int64) (T : Nat) (ok : okS (θ 0) T) (hT : T < 200000000) : ML2 l yX2_mixedOutcomes wsX2_mixedOutcomes rmX2_mixedOutcomes D c sz (wP c a b θ ρ κ) [.ref (a 0), .long (h)] (d1 h (fwS (θ 0) ((onS 40 (pu (θ 0) 11 (kc (θ 0 11 0)))).2)) 5) (wP c a b (pst θ 1 ((onS 40 (pu (θ 0) 11 (kc (θ 0 11 0)))).2)) ρ κ) := by
  refine ML2.of (cc := cX2_mixedOutcomes) (maxL := 6) (by decide) rfl (Nat.le_of_ble_eq_true rfl) ?_
  intro P e s m below meth cd A Q ls hsz S hK hN hW hA hl hret
  have hl : lv_has ls 6 [(0, .ref (a 0)), (1, .long (h))] := hl
  have hinX1 : ∀ w ∈ u_ws RX1 TX1 17, w ∈ wsX2_mixedOutcomes := by decide +kernel
  have hinX2 : ∀ w ∈ u_ws RX2 TX2 10, w ∈ wsX2_mixedOutcomes := by decide +kernel
  have h11 : θ 0 11 0 ≤ 9 := ok.2.2.2.2.2.2.2.2.1
  refine lv_lload_n S.1 S.2.1 dX2_mixedOutcomes_0 rfl (lv_at hl 1 rfl) ?_
  refine lv_lstore_n (lv' := [(3, .long (h)), (0, .ref (a 0)), (1, .long (h))]) S.1 S.2.1 dX2_mixedOutcomes_1 rfl hl (by decide) rfl (fun ls hl => ?_)
  refine lv_aload_n S.1 S.2.1 dX2_mixedOutcomes_2 rfl (lv_at hl 1 rfl) ?_
  refine lv_bipush (v := nI (40)) S.1 S.2.1 dX2_mixedOutcomes_3 rfl ?_
  refine lv_aload_n S.1 S.2.1 dX2_mixedOutcomes_5 rfl (lv_at hl 1 rfl) ?_
  refine kx_get S hK hW hinX2 0 2 rfl rfl 0 (by decide) (List.mem_of_getElem? (i := 1) rfl) (v := .ref (b 0 0)) rfl dX2_mixedOutcomes_6 ?_
  refine kx_getN S hK hW hinX1 4 1 rfl rfl 11 (by decide) (hN _ (List.mem_of_getElem? (i := 3) rfl)) (v := .int (nI ((θ 0) 11 0))) rfl dX2_mixedOutcomes_9 ?_
  refine k_VV2 (rest := []) S hK hl.1 hW (KFr.all hW hA) hN (mX2_tryOut l D c a b θ ρ κ _ 40 ((θ 0) 11 0) T (by first | omega | exact hn | assumption | (show 40 < 200; omega) | rfl) (by first | omega | exact hv | assumption | (show ((θ 0) 11 0) ≤ 9; omega) | rfl) ok (by first | omega | exact hT | assumption | (show T < 200000000; omega) | rfl)) gX2_mixedOutcomes_X2_tryOut rfl pdX2_tryOut ⟨⟨rfl, rfl⟩, Nat.le_of_ble_eq_true rfl, Nat.le_of_ble_eq_true rfl⟩ 0 2 rfl rfl rfl rfl (Nat.le_of_ble_eq_true rfl) dX2_mixedOutcomes_12 ⟨Nat.le_of_ble_eq_true rfl, Nat.le_of_ble_eq_true rfl⟩ (fun H locs hW => ?_)
  have hW : kw D A s.heap (wP c a b (pst θ 1 ((onS 40 (pu (((θ 0))) 11 (kc ((θ 0) 11 0)))).2)) ρ κ) H locs := hW
  have hl : lv_has ls 6 [(3, .long (d1 h (fwS (θ 0) ((onS 40 (pu (θ 0) 11 (kc (θ 0 11 0)))).2)) 0)), (0, .ref (a 0)), (1, .long (h))] := by rw [d1_0]; exact hl
  refine lv_iconst (v := nI (0)) S.1 S.2.1 dX2_mixedOutcomes_15 rfl ?_
  refine lv_istore (lv' := [(5, .int (nI (0))), (3, .long (d1 h (fwS (θ 0) ((onS 40 (pu (θ 0) 11 (kc (θ 0 11 0)))).2)) 0)), (0, .ref (a 0)), (1, .long (h))]) S.1 S.2.1 dX2_mixedOutcomes_16 hl (by decide) rfl (fun ls hl => ?_)
  refine k_loop (fun (zz : Nat) H lo ls => match zz with | k => kw D A s.heap (wP c a b (pst θ 1 ((onS 40 (pu (((θ 0))) 11 (kc ((θ 0) 11 0)))).2)) ρ κ) H lo ∧ lv_has ls 6 [(0, .ref (a 0)), (1, .long (h)), (3, .long (d1 h (fwS (θ 0) ((onS 40 (pu (θ 0) 11 (kc (θ 0 11 0)))).2)) k)), (5, .int (nI (k)))] ∧ k ≤ 5) (fun (zz : Nat) => match zz with | k => 5 - k) [] ?_ 0 _ _ _ ⟨hW, lv_sub hl [2, 3, 1, 0] rfl, (by decide)⟩
  rintro k ih18 H locs ls ⟨hW, hl, hi18_0⟩
  refine lv_iload S.1 S.2.1 dX2_mixedOutcomes_18 (lv_at hl 3 rfl) ?_
  refine lv_iconst (v := nI (5)) S.1 S.2.1 dX2_mixedOutcomes_20 rfl ?_
  refine kn_ge S (tgt := 42) dX2_mixedOutcomes_21 (by decide) (by omega) (by omega) (fun c_21 => ?_) (fun c_21 => ?_)
  · have e9 : k = 5 := by omega
    subst e9
    refine lv_lload_n S.1 S.2.1 dX2_mixedOutcomes_42 rfl (lv_at hl 2 rfl) ?_
    exact hret 43 _ _ _ _ _ dX2_mixedOutcomes_43 hW (rfl) (rfl)
  · refine lv_lload_n S.1 S.2.1 dX2_mixedOutcomes_24 rfl (lv_at hl 2 rfl) ?_
    refine lv_aload_n S.1 S.2.1 dX2_mixedOutcomes_25 rfl (lv_at hl 0 rfl) ?_
    refine lv_iload S.1 S.2.1 dX2_mixedOutcomes_26 (lv_at hl 3 rfl) ?_
    refine k_VI2 (rest := [.long (d1 h (fwS (θ 0) ((onS 40 (pu (θ 0) 11 (kc (θ 0 11 0)))).2)) k)]) S hK hl.1 hW (KFr.all hW hA) hN (mX2_outcome l D c a b ((pst θ 1 ((onS 40 (pu (((θ 0))) 11 (kc ((θ 0) 11 0)))).2))) ρ κ _ k T (T + 45 * 40) (by first | omega | exact hw | assumption | (show k < 5; omega) | rfl) ok (onS_ok 40 (ok.p11 h11))) gX2_mixedOutcomes_X2_outcome rfl pdX2_outcome ⟨⟨rfl, rfl⟩, Nat.le_of_ble_eq_true rfl, Nat.le_of_ble_eq_true rfl⟩ 0 2 rfl rfl rfl rfl (Nat.le_of_ble_eq_true rfl) dX2_mixedOutcomes_28 ⟨Nat.le_of_ble_eq_true rfl, Nat.le_of_ble_eq_true rfl⟩ (fun H locs hW => ?_)
    have hW : kw D A s.heap (wP c a b (pst θ 1 ((onS 40 (pu (((θ 0))) 11 (kc ((θ 0) 11 0)))).2)) ρ κ) H locs := hW
    refine k_top (y := (if k = 0 then nI ((((onS 40 (pu (((θ 0))) 11 (kc ((θ 0) 11 0)))).2)) 13 0) - nI (((θ 0)) 13 0) else if k = 1 then nI ((((onS 40 (pu (((θ 0))) 11 (kc ((θ 0) 11 0)))).2)) 14 0) - nI (((θ 0)) 14 0) else if k = 2 then nI ((((onS 40 (pu (((θ 0))) 11 (kc ((θ 0) 11 0)))).2)) 15 0) - nI (((θ 0)) 15 0) else if k = 3 then nI ((((onS 40 (pu (((θ 0))) 11 (kc ((θ 0) 11 0)))).2)) 12 0) - nI (((θ 0)) 12 0) else nI (ones ((((onS 40 (pu (((θ 0))) 11 (kc ((θ 0) 11 0)))).2)) 7 0)) - nI (ones (((θ 0)) 7 0)))) rfl ?_
    refine lv_i2l S.1 S.2.1 dX2_mixedOutcomes_31 rfl ?_
    refine k_SL (rest := []) S hK hl.1 hW (KFr.nil hW hA) (mX2_mixed l D c  _ (d1 h (fwS (θ 0) ((onS 40 (pu (θ 0) 11 (kc (θ 0 11 0)))).2)) k) (((if k = 0 then nI ((((onS 40 (pu (((θ 0))) 11 (kc ((θ 0) 11 0)))).2)) 13 0) - nI (((θ 0)) 13 0) else if k = 1 then nI ((((onS 40 (pu (((θ 0))) 11 (kc ((θ 0) 11 0)))).2)) 14 0) - nI (((θ 0)) 14 0) else if k = 2 then nI ((((onS 40 (pu (((θ 0))) 11 (kc ((θ 0) 11 0)))).2)) 15 0) - nI (((θ 0)) 15 0) else if k = 3 then nI ((((onS 40 (pu (((θ 0))) 11 (kc ((θ 0) 11 0)))).2)) 12 0) - nI (((θ 0)) 12 0) else nI (ones ((((onS 40 (pu (((θ 0))) 11 (kc ((θ 0) 11 0)))).2)) 7 0)) - nI (ones (((θ 0)) 7 0)))).toInt64)) gX2_mixedOutcomes_X2_mixed rfl pdX2_mixed ⟨⟨rfl, rfl⟩, Nat.le_of_ble_eq_true rfl, Nat.le_of_ble_eq_true rfl⟩ rfl (Nat.le_of_ble_eq_true rfl) dX2_mixedOutcomes_32 ⟨Nat.le_of_ble_eq_true rfl, Nat.le_of_ble_eq_true rfl⟩ (fun H locs hW => ?_)
    have hW : kw D A s.heap (wP c a b (pst θ 1 ((onS 40 (pu (((θ 0))) 11 (kc ((θ 0) 11 0)))).2)) ρ κ) H locs := hW
    refine k_topl (y := d1 h (fwS (θ 0) ((onS 40 (pu (θ 0) 11 (kc (θ 0 11 0)))).2)) (k + 1)) ((d1_s _ _ _).symm) ?_
    refine lv_lstore_n (lv' := [(3, .long (d1 h (fwS (θ 0) ((onS 40 (pu (θ 0) 11 (kc (θ 0 11 0)))).2)) (k + 1))), (0, .ref (a 0)), (1, .long (h)), (5, .int (nI (k)))]) S.1 S.2.1 dX2_mixedOutcomes_35 rfl hl (by decide) rfl (fun ls hl => ?_)
    refine lv_iinc (v := nI (k + 1)) (lv' := [(5, .int (nI (k + 1))), (3, .long (d1 h (fwS (θ 0) ((onS 40 (pu (θ 0) 11 (kc (θ 0 11 0)))).2)) (k + 1))), (0, .ref (a 0)), (1, .long (h))]) S.1 S.2.1 dX2_mixedOutcomes_36 hl (k := 3) rfl (nI_add _ _) (by decide) rfl (fun ls hl => ?_)
    refine lv_goto (tgt := 18) S.1 S.2.1 dX2_mixedOutcomes_39 (by decide) ?_
    exact ih18 (k + 1) _ _ _ ⟨hW, lv_sub hl [2, 3, 1, 0] rfl, (by omega)⟩ (by show 5 - (k + 1) < 5 - k; omega)
abbrev rmX2_cleanShare : Room := { frames := 1, cells := 0, slots := 0, locals := 21 }
theorem pdX2_cleanShare : kPd yX2_cleanShare 0 := by decide +kernel
set_option maxHeartbeats 400000 in
set_option maxRecDepth 100000 in
theorem mX2_cleanShare (l : Launch) (D : va_G) (c : Nat → ClassId) (a : Nat → Nat) (b : Nat → Nat → Nat) (θ : Nat → Nat → Nat → Nat) (ρ κ : Nat → Nat → Nat) (sz : Nat) (T : Nat) (ok : okS (θ 0) T) (hT : T < 500000000) (hne : ¬ θ 0 14 0 = 0 → vf_n64 (FP.ddiv (FP.i2d (nI (θ 0 14 0 - θ 0 15 0))) (FP.i2d (nI (θ 0 14 0))))) : MF2 l yX2_cleanShare wsX2_cleanShare rmX2_cleanShare D c sz (wP c a b θ ρ κ) [.ref (a 0)] (sh (θ 0 14 0) (θ 0 15 0)) (wP c a b θ ρ κ) := by
  refine MF2.of (cc := cX2_cleanShare) (maxL := 1) (by decide) rfl (Nat.le_of_ble_eq_true rfl) ?_
  intro P e s m below meth cd A Q ls hsz S hK hN hW hA hl hret
  have hl : lv_has ls 1 [(0, .ref (a 0))] := hl
  have hinX1 : ∀ w ∈ u_ws RX1 TX1 17, w ∈ wsX2_cleanShare := by decide +kernel
  have hinX2 : ∀ w ∈ u_ws RX2 TX2 10, w ∈ wsX2_cleanShare := by decide +kernel
  have h14 : θ 0 14 0 ≤ T := ok.2.2.2.2.2.2.2.2.2.2.1
  have h15 : θ 0 15 0 ≤ T := ok.2.2.2.2.2.2.2.2.2.2.2
  refine lv_aload_n S.1 S.2.1 dX2_cleanShare_0 rfl (lv_at hl 0 rfl) ?_
  refine kx_get S hK hW hinX2 0 2 rfl rfl 0 (by decide) (List.mem_of_getElem? (i := 1) rfl) (v := .ref (b 0 0)) rfl dX2_cleanShare_1 ?_
  refine kx_getN S hK hW hinX1 4 1 rfl rfl 14 (by decide) (hN _ (List.mem_of_getElem? (i := 6) rfl)) (v := .int (nI ((θ 0) 14 0))) rfl dX2_cleanShare_4 ?_
  refine kz_gt S (tgt := 12) dX2_cleanShare_7 (by decide) (by omega) (fun c_7 => ?_) (fun c_7 => ?_)
  · have hs : sh (θ 0 14 0) (θ 0 15 0) = FP.ddiv (FP.i2d (nI (θ 0 14 0 - θ 0 15 0))) (FP.i2d (nI (θ 0 14 0))) := if_neg (by omega)
    refine lv_iconst (v := nI (0)) S.1 S.2.1 dX2_cleanShare_12 rfl ?_
    refine lv_aload_n S.1 S.2.1 dX2_cleanShare_13 rfl (lv_at hl 0 rfl) ?_
    refine kx_get S hK hW hinX2 0 2 rfl rfl 0 (by decide) (List.mem_of_getElem? (i := 1) rfl) (v := .ref (b 0 0)) rfl dX2_cleanShare_14 ?_
    refine kx_getN S hK hW hinX1 4 1 rfl rfl 14 (by decide) (hN _ (List.mem_of_getElem? (i := 6) rfl)) (v := .int (nI ((θ 0) 14 0))) rfl dX2_cleanShare_17 ?_
    refine lv_aload_n S.1 S.2.1 dX2_cleanShare_20 rfl (lv_at hl 0 rfl) ?_
    refine kx_get S hK hW hinX2 0 2 rfl rfl 0 (by decide) (List.mem_of_getElem? (i := 1) rfl) (v := .ref (b 0 0)) rfl dX2_cleanShare_21 ?_
    refine kx_getN S hK hW hinX1 4 1 rfl rfl 15 (by decide) (hN _ (List.mem_of_getElem? (i := 7) rfl)) (v := .int (nI ((θ 0) 15 0))) rfl dX2_cleanShare_24 ?_
    refine lv_isub S.1 S.2.1 dX2_cleanShare_27 ?_
    refine kr_max S hl.1 (List.mem_of_getElem? (i := 2) rfl) (List.mem_of_getElem? (i := 3) rfl) (List.mem_of_getElem? (i := 4) rfl) (List.mem_of_getElem? (i := 5) rfl) ⟨Nat.le_of_ble_eq_true rfl, Nat.le_of_ble_eq_true rfl⟩ ⟨Nat.le_of_ble_eq_true rfl, Nat.le_of_ble_eq_true rfl⟩ dX2_cleanShare_28 ?_
    refine k_top (y := nI (θ 0 14 0 - θ 0 15 0)) (k_mx0 (by omega) (by omega)) ?_
    refine lv_i2d S.1 S.2.1 dX2_cleanShare_31 ?_
    refine lv_aload_n S.1 S.2.1 dX2_cleanShare_32 rfl (lv_at hl 0 rfl) ?_
    refine kx_get S hK hW hinX2 0 2 rfl rfl 0 (by decide) (List.mem_of_getElem? (i := 1) rfl) (v := .ref (b 0 0)) rfl dX2_cleanShare_33 ?_
    refine kx_getN S hK hW hinX1 4 1 rfl rfl 14 (by decide) (hN _ (List.mem_of_getElem? (i := 6) rfl)) (v := .int (nI ((θ 0) 14 0))) rfl dX2_cleanShare_36 ?_
    refine lv_i2d S.1 S.2.1 dX2_cleanShare_39 ?_
    refine lv_ddiv S.1 S.2.1 dX2_cleanShare_40 (hne (by omega)) ?_
    exact hret 41 _ _ _ _ _ dX2_cleanShare_41 hW (hs.symm) (rfl)
  · have hs : sh (θ 0 14 0) (θ 0 15 0) = FP.dconst1 := if_pos c_7
    refine lv_dconst1 S.1 S.2.1 dX2_cleanShare_10 ?_
    exact hret 11 _ _ _ _ _ dX2_cleanShare_11 hW (hs.symm) (rfl)
abbrev rmX2_clean : Room := { frames := 2, cells := 0, slots := 0, locals := 41 }
theorem pdX2_clean : kPd yX2_clean 0 := by decide +kernel
set_option maxHeartbeats 400000 in
set_option maxRecDepth 100000 in
theorem mX2_clean (l : Launch) (D : va_G) (c : Nat → ClassId) (a : Nat → Nat) (b : Nat → Nat → Nat) (θ : Nat → Nat → Nat → Nat) (ρ κ : Nat → Nat → Nat) (sz : Nat) (T : Nat) (ok : okS (θ 0) T) (hT : T < 500000000) (hne : ¬ θ 0 14 0 = 0 → vf_n64 (FP.ddiv (FP.i2d (nI (θ 0 14 0 - θ 0 15 0))) (FP.i2d (nI (θ 0 14 0))))) : MF2 l yX2_clean wsX2_clean rmX2_clean D c sz (wP c a b θ ρ κ) [.ref (a 0)] (sh (θ 0 14 0) (θ 0 15 0)) (wP c a b θ ρ κ) := by
  refine MF2.of (cc := cX2_clean) (maxL := 1) (by decide) rfl (Nat.le_of_ble_eq_true rfl) ?_
  intro P e s m below meth cd A Q ls hsz S hK hN hW hA hl hret
  have hl : lv_has ls 1 [(0, .ref (a 0))] := hl
  refine lv_aload_n S.1 S.2.1 dX2_clean_0 rfl (lv_at hl 0 rfl) ?_
  refine k_VD2 (rest := []) S hK hl.1 hW (KFr.all hW hA) hN (mX2_cleanShare l D c a b θ ρ κ _ T ok (by first | omega | exact hT | assumption | (show T < 500000000; omega) | rfl) (by first | omega | exact hne | assumption | (show ¬ ((θ 0)) 14 0 = 0 → vf_n64 (FP.ddiv (FP.i2d (nI (((θ 0)) 14 0 - ((θ 0)) 15 0))) (FP.i2d (nI (((θ 0)) 14 0)))); omega) | rfl)) gX2_clean_X2_cleanShare rfl pdX2_cleanShare ⟨⟨rfl, rfl⟩, Nat.le_of_ble_eq_true rfl, Nat.le_of_ble_eq_true rfl⟩ 0 2 rfl rfl rfl rfl (Nat.le_of_ble_eq_true rfl) dX2_clean_1 ⟨Nat.le_of_ble_eq_true rfl, Nat.le_of_ble_eq_true rfl⟩ (fun H locs hW => ?_)
  have hW : kw D A s.heap (wP c a b θ ρ κ) H locs := hW
  exact hret 4 _ _ _ _ _ dX2_clean_4 hW (rfl) (rfl)
