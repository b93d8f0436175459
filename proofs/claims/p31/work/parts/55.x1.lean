abbrev rmX2_isWithin : Room := { frames := 0, cells := 0, slots := 0, locals := 0 }
theorem pdX2_isWithin : kPd yX2_isWithin 3 := by decide +kernel
set_option maxHeartbeats 400000 in
set_option maxRecDepth 100000 in
theorem mX2_isWithin (l : Launch) (D : va_G) (c : Nat → ClassId) (sz : Nat) (v : Int32) (lo : Int32) (hi : Int32) : MI l yX2_isWithin wsX2_isWithin rmX2_isWithin D c sz [] [.int (v), .int (lo), .int (hi)] (nI (inb v lo hi).toNat) [] := by
  refine MI.of (cc := cX2_isWithin) (maxL := 3) (ty := .boolean) (by decide) rfl (Nat.le_of_ble_eq_true rfl) (k_narB _) ?_
  intro P e s m below meth cd A Q ls hsz S hK hW hA hl hret
  have hl : lv_has ls 3 [(0, .int (v)), (1, .int (lo)), (2, .int (hi))] := hl
  refine lv_iload_n S.1 S.2.1 dX2_isWithin_0 rfl (lv_at hl 0 rfl) ?_
  refine lv_iload_n S.1 S.2.1 dX2_isWithin_1 rfl (lv_at hl 1 rfl) ?_
  refine lv_icmp_lt (tgt := 14) S.1 S.2.1 dX2_isWithin_2 (by decide) (fun c_2 => ?_) (fun c_2 => ?_)
  · refine lv_iconst (v := nI (0)) S.1 S.2.1 dX2_isWithin_14 rfl ?_
    exact hret 15 _ _ _ _ _ dX2_isWithin_15 hW (by simp [inb, *]) (rfl)
  · refine lv_iload_n S.1 S.2.1 dX2_isWithin_5 rfl (lv_at hl 0 rfl) ?_
    refine lv_iload_n S.1 S.2.1 dX2_isWithin_6 rfl (lv_at hl 2 rfl) ?_
    refine lv_icmp_gt (tgt := 14) S.1 S.2.1 dX2_isWithin_7 (by decide) (fun c_7 => ?_) (fun c_7 => ?_)
    · refine lv_iconst (v := nI (0)) S.1 S.2.1 dX2_isWithin_14 rfl ?_
      exact hret 15 _ _ _ _ _ dX2_isWithin_15 hW (by simp [inb, *]) (rfl)
    · refine lv_iconst (v := nI (1)) S.1 S.2.1 dX2_isWithin_10 rfl ?_
      refine lv_goto (tgt := 15) S.1 S.2.1 dX2_isWithin_11 (by decide) ?_
      exact hret 15 _ _ _ _ _ dX2_isWithin_15 hW (by simp [inb, *]) (rfl)
abbrev rmX2_isBelow : Room := { frames := 0, cells := 0, slots := 0, locals := 0 }
theorem pdX2_isBelow : kPd yX2_isBelow 2 := by decide +kernel
set_option maxHeartbeats 400000 in
set_option maxRecDepth 100000 in
theorem mX2_isBelow (l : Launch) (D : va_G) (c : Nat → ClassId) (sz : Nat) (v : Int32) (k : Int32) : MI l yX2_isBelow wsX2_isBelow rmX2_isBelow D c sz [] [.int (v), .int (k)] (nI (blw v k).toNat) [] := by
  refine MI.of (cc := cX2_isBelow) (maxL := 2) (ty := .boolean) (by decide) rfl (Nat.le_of_ble_eq_true rfl) (k_narB _) ?_
  intro P e s m below meth cd A Q ls hsz S hK hW hA hl hret
  have hl : lv_has ls 2 [(0, .int (v)), (1, .int (k))] := hl
  refine lv_iload_n S.1 S.2.1 dX2_isBelow_0 rfl (lv_at hl 0 rfl) ?_
  refine lv_if_lt (tgt := 13) S.1 S.2.1 dX2_isBelow_1 (by decide) (fun c_1 => ?_) (fun c_1 => ?_)
  · have hs : blw v k = false := blw_1 c_1
    refine lv_iconst (v := nI (0)) S.1 S.2.1 dX2_isBelow_13 rfl ?_
    exact hret 14 _ _ _ _ _ dX2_isBelow_14 hW (by rw [hs] <;> rfl) (rfl)
  · refine lv_iload_n S.1 S.2.1 dX2_isBelow_4 rfl (lv_at hl 0 rfl) ?_
    refine lv_iload_n S.1 S.2.1 dX2_isBelow_5 rfl (lv_at hl 1 rfl) ?_
    refine lv_icmp_ge (tgt := 13) S.1 S.2.1 dX2_isBelow_6 (by decide) (fun c_6 => ?_) (fun c_6 => ?_)
    · have hs : blw v k = false := blw_2 c_6
      refine lv_iconst (v := nI (0)) S.1 S.2.1 dX2_isBelow_13 rfl ?_
      exact hret 14 _ _ _ _ _ dX2_isBelow_14 hW (by rw [hs] <;> rfl) (rfl)
    · have hs : blw v k = true := blw_3 c_1 c_6
      refine lv_iconst (v := nI (1)) S.1 S.2.1 dX2_isBelow_9 rfl ?_
      refine lv_goto (tgt := 14) S.1 S.2.1 dX2_isBelow_10 (by decide) ?_
      exact hret 14 _ _ _ _ _ dX2_isBelow_14 hW (by rw [hs] <;> rfl) (rfl)
abbrev rmX2_isPlace : Room := { frames := 1, cells := 0, slots := 0, locals := 21 }
theorem pdX2_isPlace : kPd yX2_isPlace 3 := by decide +kernel
set_option maxHeartbeats 400000 in
set_option maxRecDepth 100000 in
theorem mX2_isPlace (l : Launch) (D : va_G) (c : Nat → ClassId) (sz : Nat) (t : Int32) (j : Int32) (p : Int32) : MI l yX2_isPlace wsX2_isPlace rmX2_isPlace D c sz [] [.int (t), .int (j), .int (p)] (nI (blw t (nI 3) && blw j (nI 12) && blw p (nI 32)).toNat) [] := by
  refine MI.of (cc := cX2_isPlace) (maxL := 3) (ty := .boolean) (by decide) rfl (Nat.le_of_ble_eq_true rfl) (k_narB _) ?_
  intro P e s m below meth cd A Q ls hsz S hK hW hA hl hret
  have hl : lv_has ls 3 [(0, .int (t)), (1, .int (j)), (2, .int (p))] := hl
  refine lv_iload_n S.1 S.2.1 dX2_isPlace_0 rfl (lv_at hl 0 rfl) ?_
  refine lv_iconst (v := nI (3)) S.1 S.2.1 dX2_isPlace_1 rfl ?_
  refine k_SI (rest := []) S hK hl.1 hW (KFr.nil hW hA) (mX2_isBelow l D c  _ t (nI (3))) gX2_isPlace_X2_isBelow rfl pdX2_isBelow ⟨⟨rfl, rfl⟩, Nat.le_of_ble_eq_true rfl, Nat.le_of_ble_eq_true rfl⟩ rfl (Nat.le_of_ble_eq_true rfl) dX2_isPlace_2 ⟨Nat.le_of_ble_eq_true rfl, Nat.le_of_ble_eq_true rfl⟩ (fun H locs hW => ?_)
  have hW : kw D A s.heap [] H locs := hW
  refine kb_eq S (tgt := 30) dX2_isPlace_5 (by decide) (fun c_5 => ?_) (fun c_5 => ?_)
  · refine lv_iconst (v := nI (0)) S.1 S.2.1 dX2_isPlace_30 rfl ?_
    exact hret 31 _ _ _ _ _ dX2_isPlace_31 hW (by simp [*]) (rfl)
  · refine lv_iload_n S.1 S.2.1 dX2_isPlace_8 rfl (lv_at hl 1 rfl) ?_
    refine lv_bipush (v := nI (12)) S.1 S.2.1 dX2_isPlace_9 rfl ?_
    refine k_SI (rest := []) S hK hl.1 hW (KFr.nil hW hA) (mX2_isBelow l D c  _ j (nI (12))) gX2_isPlace_X2_isBelow rfl pdX2_isBelow ⟨⟨rfl, rfl⟩, Nat.le_of_ble_eq_true rfl, Nat.le_of_ble_eq_true rfl⟩ rfl (Nat.le_of_ble_eq_true rfl) dX2_isPlace_11 ⟨Nat.le_of_ble_eq_true rfl, Nat.le_of_ble_eq_true rfl⟩ (fun H locs hW => ?_)
    have hW : kw D A s.heap [] H locs := hW
    refine kb_eq S (tgt := 30) dX2_isPlace_14 (by decide) (fun c_14 => ?_) (fun c_14 => ?_)
    · refine lv_iconst (v := nI (0)) S.1 S.2.1 dX2_isPlace_30 rfl ?_
      exact hret 31 _ _ _ _ _ dX2_isPlace_31 hW (by simp [*]) (rfl)
    · refine lv_iload_n S.1 S.2.1 dX2_isPlace_17 rfl (lv_at hl 2 rfl) ?_
      refine lv_bipush (v := nI (32)) S.1 S.2.1 dX2_isPlace_18 rfl ?_
      refine k_SI (rest := []) S hK hl.1 hW (KFr.nil hW hA) (mX2_isBelow l D c  _ p (nI (32))) gX2_isPlace_X2_isBelow rfl pdX2_isBelow ⟨⟨rfl, rfl⟩, Nat.le_of_ble_eq_true rfl, Nat.le_of_ble_eq_true rfl⟩ rfl (Nat.le_of_ble_eq_true rfl) dX2_isPlace_20 ⟨Nat.le_of_ble_eq_true rfl, Nat.le_of_ble_eq_true rfl⟩ (fun H locs hW => ?_)
      have hW : kw D A s.heap [] H locs := hW
      refine kb_eq S (tgt := 30) dX2_isPlace_23 (by decide) (fun c_23 => ?_) (fun c_23 => ?_)
      · refine lv_iconst (v := nI (0)) S.1 S.2.1 dX2_isPlace_30 rfl ?_
        exact hret 31 _ _ _ _ _ dX2_isPlace_31 hW (by simp [*]) (rfl)
      · refine lv_iconst (v := nI (1)) S.1 S.2.1 dX2_isPlace_26 rfl ?_
        refine lv_goto (tgt := 31) S.1 S.2.1 dX2_isPlace_27 (by decide) ?_
        exact hret 31 _ _ _ _ _ dX2_isPlace_31 hW (by simp [*]) (rfl)
abbrev rmX2_saveState : Room := { frames := 2, cells := 0, slots := 0, locals := 61 }
theorem pdX2_saveState : kPd yX2_saveState 0 := by decide +kernel
set_option maxHeartbeats 400000 in
set_option maxRecDepth 100000 in
theorem mX2_saveState (l : Launch) (D : va_G) (c : Nat → ClassId) (a : Nat → Nat) (b : Nat → Nat → Nat) (θ : Nat → Nat → Nat → Nat) (ρ κ : Nat → Nat → Nat) (sz : Nat) (hold : κ 2 0 < 6) (hcnt : κ 3 0 ≤ 6) : MV2 l yX2_saveState wsX2_saveState rmX2_saveState D c sz (wP c a b θ ρ κ) [.ref (a 0)]  (wP c a b (svT θ ((κ 2 0 + κ 3 0) % 6)) ρ (svK κ)) := by
  refine MV2.of (cc := cX2_saveState) (maxL := 1) (by decide) rfl (Nat.le_of_ble_eq_true rfl) ?_
  intro P e s m below meth cd A Q ls hsz S hK hN hW hA hl hret
  have hl : lv_has ls 1 [(0, .ref (a 0))] := hl
  have hinX2 : ∀ w ∈ u_ws RX2 TX2 10, w ∈ wsX2_saveState := by decide +kernel
  refine lv_aload_n S.1 S.2.1 dX2_saveState_0 rfl (lv_at hl 0 rfl) ?_
  refine kx_get S hK hW hinX2 0 2 rfl rfl 4 (by decide) (List.mem_of_getElem? (i := 1) rfl) (v := .ref (a 1)) rfl dX2_saveState_1 ?_
  refine lv_aload_n S.1 S.2.1 dX2_saveState_4 rfl (lv_at hl 0 rfl) ?_
  refine kx_get S hK hW hinX2 0 2 rfl rfl 5 (by decide) (List.mem_of_getElem? (i := 2) rfl) (v := .int (nI (κ 2 0))) rfl dX2_saveState_5 ?_
  refine lv_aload_n S.1 S.2.1 dX2_saveState_8 rfl (lv_at hl 0 rfl) ?_
  refine kx_get S hK hW hinX2 0 2 rfl rfl 6 (by decide) (List.mem_of_getElem? (i := 3) rfl) (v := .int (nI (κ 3 0))) rfl dX2_saveState_9 ?_
  refine kn_iadd S dX2_saveState_12 ?_
  refine lv_bipush (v := nI (6)) S.1 S.2.1 dX2_saveState_13 rfl ?_
  refine kn_irem S dX2_saveState_15 (by omega) (by omega) (by omega) ?_
  rcases lt6 (Nat.mod_lt (κ 2 0 + κ 3 0) (by decide : 0 < 6)) with hq | hq | hq | hq | hq | hq
  · refine k_top (y := nI (0)) (congrArg nI hq) ?_
    refine kq_ald S hK hW 1 (f := fun k => some (b (3 + k) 0)) rfl (by decide) (by decide) dX2_saveState_16 ?_
    refine lv_aload_n S.1 S.2.1 dX2_saveState_17 rfl (lv_at hl 0 rfl) ?_
    refine kx_get S hK hW hinX2 0 2 rfl rfl 0 (by decide) (List.mem_of_getElem? (i := 4) rfl) (v := .ref (b 0 0)) rfl dX2_saveState_18 ?_
    refine k_VV (rest := []) S hK hl.1 hW (fV0 hW hA) (mX1_become l D c (b 3) (b 0) ((θ 3)) ((θ 0)) _ ) gX2_saveState_X1_become rfl pdX1_become ⟨⟨rfl, rfl⟩, Nat.le_of_ble_eq_true rfl, Nat.le_of_ble_eq_true rfl⟩ 0 1 rfl rfl rfl rfl (Nat.le_of_ble_eq_true rfl) dX2_saveState_21 ⟨Nat.le_of_ble_eq_true rfl, Nat.le_of_ble_eq_true rfl⟩ (fun H locs hW => ?_)
    have hW : kw D A s.heap (wP c a b (svT θ 0) ρ κ) H locs := hW
    refine lv_aload_n S.1 S.2.1 dX2_saveState_24 rfl (lv_at hl 0 rfl) ?_
    refine kx_get S hK hW hinX2 0 2 rfl rfl 6 (by decide) (List.mem_of_getElem? (i := 3) rfl) (v := .int (nI (κ 3 0))) rfl dX2_saveState_25 ?_
    refine lv_bipush (v := nI (6)) S.1 S.2.1 dX2_saveState_28 rfl ?_
    refine kn_ge S (tgt := 46) dX2_saveState_30 (by decide) (by omega) (by omega) (fun c_30 => ?_) (fun c_30 => ?_)
    · have hk : svK κ = pu κ 2 (kc ((κ 2 0 + 1) % 6)) := if_neg (by omega)
      refine lv_aload_n S.1 S.2.1 dX2_saveState_46 rfl (lv_at hl 0 rfl) ?_
      refine lv_aload_n S.1 S.2.1 dX2_saveState_47 rfl (lv_at hl 0 rfl) ?_
      refine kx_get S hK hW hinX2 0 2 rfl rfl 5 (by decide) (List.mem_of_getElem? (i := 2) rfl) (v := .int (nI (κ 2 0))) rfl dX2_saveState_48 ?_
      refine lv_iconst (v := nI (1)) S.1 S.2.1 dX2_saveState_51 rfl ?_
      refine kn_iadd S dX2_saveState_52 ?_
      refine lv_bipush (v := nI (6)) S.1 S.2.1 dX2_saveState_53 rfl ?_
      refine kn_irem S dX2_saveState_55 (by omega) (by omega) (by omega) ?_
      refine kx_put S hK hW hinX2 tyX2_ok nmX2 0 2 rfl rfl 5 (by decide) (List.mem_of_getElem? (i := 2) rfl) rfl (v := .int (nI ((κ 2 0 + 1) % 6))) rfl rfl (Nat.le_of_ble_eq_true rfl) dX2_saveState_56 (fun H locs hW => ?_)
      have hW : kw D A s.heap (wP c a b (svT θ 0) ρ (pu κ 2 (kc ((κ 2 0 + 1) % 6)))) H locs := hW
      exact hret 59 _ _ _ _ dX2_saveState_59 hW (by rw [hq, hk])
    · have hk : svK κ = pu κ 3 (kc (κ 3 0 + 1)) := if_pos c_30
      refine lv_aload_n S.1 S.2.1 dX2_saveState_33 rfl (lv_at hl 0 rfl) ?_
      refine lv_dup S.1 S.2.1 dX2_saveState_34 rfl ?_
      refine kx_get S hK hW hinX2 0 2 rfl rfl 6 (by decide) (List.mem_of_getElem? (i := 3) rfl) (v := .int (nI (κ 3 0))) rfl dX2_saveState_35 ?_
      refine lv_iconst (v := nI (1)) S.1 S.2.1 dX2_saveState_38 rfl ?_
      refine kn_iadd S dX2_saveState_39 ?_
      refine kx_put S hK hW hinX2 tyX2_ok nmX2 0 2 rfl rfl 6 (by decide) (List.mem_of_getElem? (i := 3) rfl) rfl (v := .int (nI (κ 3 0 + 1))) rfl rfl (Nat.le_of_ble_eq_true rfl) dX2_saveState_40 (fun H locs hW => ?_)
      have hW : kw D A s.heap (wP c a b (svT θ 0) ρ (pu κ 3 (kc (κ 3 0 + 1)))) H locs := hW
      refine lv_goto (tgt := 59) S.1 S.2.1 dX2_saveState_43 (by decide) ?_
      exact hret 59 _ _ _ _ dX2_saveState_59 hW (by rw [hq, hk])
  · refine k_top (y := nI (1)) (congrArg nI hq) ?_
    refine kq_ald S hK hW 1 (f := fun k => some (b (3 + k) 0)) rfl (by decide) (by decide) dX2_saveState_16 ?_
    refine lv_aload_n S.1 S.2.1 dX2_saveState_17 rfl (lv_at hl 0 rfl) ?_
    refine kx_get S hK hW hinX2 0 2 rfl rfl 0 (by decide) (List.mem_of_getElem? (i := 4) rfl) (v := .ref (b 0 0)) rfl dX2_saveState_18 ?_
    refine k_VV (rest := []) S hK hl.1 hW (fV1 hW hA) (mX1_become l D c (b 4) (b 0) ((θ 4)) ((θ 0)) _ ) gX2_saveState_X1_become rfl pdX1_become ⟨⟨rfl, rfl⟩, Nat.le_of_ble_eq_true rfl, Nat.le_of_ble_eq_true rfl⟩ 0 1 rfl rfl rfl rfl (Nat.le_of_ble_eq_true rfl) dX2_saveState_21 ⟨Nat.le_of_ble_eq_true rfl, Nat.le_of_ble_eq_true rfl⟩ (fun H locs hW => ?_)
    have hW : kw D A s.heap (wP c a b (svT θ 1) ρ κ) H locs := hW
    refine lv_aload_n S.1 S.2.1 dX2_saveState_24 rfl (lv_at hl 0 rfl) ?_
    refine kx_get S hK hW hinX2 0 2 rfl rfl 6 (by decide) (List.mem_of_getElem? (i := 3) rfl) (v := .int (nI (κ 3 0))) rfl dX2_saveState_25 ?_
    refine lv_bipush (v := nI (6)) S.1 S.2.1 dX2_saveState_28 rfl ?_
    refine kn_ge S (tgt := 46) dX2_saveState_30 (by decide) (by omega) (by omega) (fun c_30 => ?_) (fun c_30 => ?_)
    · have hk : svK κ = pu κ 2 (kc ((κ 2 0 + 1) % 6)) := if_neg (by omega)
      refine lv_aload_n S.1 S.2.1 dX2_saveState_46 rfl (lv_at hl 0 rfl) ?_
      refine lv_aload_n S.1 S.2.1 dX2_saveState_47 rfl (lv_at hl 0 rfl) ?_
      refine kx_get S hK hW hinX2 0 2 rfl rfl 5 (by decide) (List.mem_of_getElem? (i := 2) rfl) (v := .int (nI (κ 2 0))) rfl dX2_saveState_48 ?_
      refine lv_iconst (v := nI (1)) S.1 S.2.1 dX2_saveState_51 rfl ?_
      refine kn_iadd S dX2_saveState_52 ?_
      refine lv_bipush (v := nI (6)) S.1 S.2.1 dX2_saveState_53 rfl ?_
      refine kn_irem S dX2_saveState_55 (by omega) (by omega) (by omega) ?_
      refine kx_put S hK hW hinX2 tyX2_ok nmX2 0 2 rfl rfl 5 (by decide) (List.mem_of_getElem? (i := 2) rfl) rfl (v := .int (nI ((κ 2 0 + 1) % 6))) rfl rfl (Nat.le_of_ble_eq_true rfl) dX2_saveState_56 (fun H locs hW => ?_)
      have hW : kw D A s.heap (wP c a b (svT θ 1) ρ (pu κ 2 (kc ((κ 2 0 + 1) % 6)))) H locs := hW
      exact hret 59 _ _ _ _ dX2_saveState_59 hW (by rw [hq, hk])
    · have hk : svK κ = pu κ 3 (kc (κ 3 0 + 1)) := if_pos c_30
      refine lv_aload_n S.1 S.2.1 dX2_saveState_33 rfl (lv_at hl 0 rfl) ?_
      refine lv_dup S.1 S.2.1 dX2_saveState_34 rfl ?_
      refine kx_get S hK hW hinX2 0 2 rfl rfl 6 (by decide) (List.mem_of_getElem? (i := 3) rfl) (v := .int (nI (κ 3 0))) rfl dX2_saveState_35 ?_
      refine lv_iconst (v := nI (1)) S.1 S.2.1 dX2_saveState_38 rfl ?_
      refine kn_iadd S dX2_saveState_39 ?_
      refine kx_put S hK hW hinX2 tyX2_ok nmX2 0 2 rfl rfl 6 (by decide) (List.mem_of_getElem? (i := 3) rfl) rfl (v := .int (nI (κ 3 0 + 1))) rfl rfl (Nat.le_of_ble_eq_true rfl) dX2_saveState_40 (fun H locs hW => ?_)
      have hW : kw D A s.heap (wP c a b (svT θ 1) ρ (pu κ 3 (kc (κ 3 0 + 1)))) H locs := hW
      refine lv_goto (tgt := 59) S.1 S.2.1 dX2_saveState_43 (by decide) ?_
      exact hret 59 _ _ _ _ dX2_saveState_59 hW (by rw [hq, hk])
  · refine k_top (y := nI (2)) (congrArg nI hq) ?_
    refine kq_ald S hK hW 1 (f := fun k => some (b (3 + k) 0)) rfl (by decide) (by decide) dX2_saveState_16 ?_
    refine lv_aload_n S.1 S.2.1 dX2_saveState_17 rfl (lv_at hl 0 rfl) ?_
    refine kx_get S hK hW hinX2 0 2 rfl rfl 0 (by decide) (List.mem_of_getElem? (i := 4) rfl) (v := .ref (b 0 0)) rfl dX2_saveState_18 ?_
    refine k_VV (rest := []) S hK hl.1 hW (fV2 hW hA) (mX1_become l D c (b 5) (b 0) ((θ 5)) ((θ 0)) _ ) gX2_saveState_X1_become rfl pdX1_become ⟨⟨rfl, rfl⟩, Nat.le_of_ble_eq_true rfl, Nat.le_of_ble_eq_true rfl⟩ 0 1 rfl rfl rfl rfl (Nat.le_of_ble_eq_true rfl) dX2_saveState_21 ⟨Nat.le_of_ble_eq_true rfl, Nat.le_of_ble_eq_true rfl⟩ (fun H locs hW => ?_)
    have hW : kw D A s.heap (wP c a b (svT θ 2) ρ κ) H locs := hW
    refine lv_aload_n S.1 S.2.1 dX2_saveState_24 rfl (lv_at hl 0 rfl) ?_
    refine kx_get S hK hW hinX2 0 2 rfl rfl 6 (by decide) (List.mem_of_getElem? (i := 3) rfl) (v := .int (nI (κ 3 0))) rfl dX2_saveState_25 ?_
    refine lv_bipush (v := nI (6)) S.1 S.2.1 dX2_saveState_28 rfl ?_
    refine kn_ge S (tgt := 46) dX2_saveState_30 (by decide) (by omega) (by omega) (fun c_30 => ?_) (fun c_30 => ?_)
    · have hk : svK κ = pu κ 2 (kc ((κ 2 0 + 1) % 6)) := if_neg (by omega)
      refine lv_aload_n S.1 S.2.1 dX2_saveState_46 rfl (lv_at hl 0 rfl) ?_
      refine lv_aload_n S.1 S.2.1 dX2_saveState_47 rfl (lv_at hl 0 rfl) ?_
      refine kx_get S hK hW hinX2 0 2 rfl rfl 5 (by decide) (List.mem_of_getElem? (i := 2) rfl) (v := .int (nI (κ 2 0))) rfl dX2_saveState_48 ?_
      refine lv_iconst (v := nI (1)) S.1 S.2.1 dX2_saveState_51 rfl ?_
      refine kn_iadd S dX2_saveState_52 ?_
      refine lv_bipush (v := nI (6)) S.1 S.2.1 dX2_saveState_53 rfl ?_
      refine kn_irem S dX2_saveState_55 (by omega) (by omega) (by omega) ?_
      refine kx_put S hK hW hinX2 tyX2_ok nmX2 0 2 rfl rfl 5 (by decide) (List.mem_of_getElem? (i := 2) rfl) rfl (v := .int (nI ((κ 2 0 + 1) % 6))) rfl rfl (Nat.le_of_ble_eq_true rfl) dX2_saveState_56 (fun H locs hW => ?_)
      have hW : kw D A s.heap (wP c a b (svT θ 2) ρ (pu κ 2 (kc ((κ 2 0 + 1) % 6)))) H locs := hW
      exact hret 59 _ _ _ _ dX2_saveState_59 hW (by rw [hq, hk])
    · have hk : svK κ = pu κ 3 (kc (κ 3 0 + 1)) := if_pos c_30
      refine lv_aload_n S.1 S.2.1 dX2_saveState_33 rfl (lv_at hl 0 rfl) ?_
      refine lv_dup S.1 S.2.1 dX2_saveState_34 rfl ?_
      refine kx_get S hK hW hinX2 0 2 rfl rfl 6 (by decide) (List.mem_of_getElem? (i := 3) rfl) (v := .int (nI (κ 3 0))) rfl dX2_saveState_35 ?_
      refine lv_iconst (v := nI (1)) S.1 S.2.1 dX2_saveState_38 rfl ?_
      refine kn_iadd S dX2_saveState_39 ?_
      refine kx_put S hK hW hinX2 tyX2_ok nmX2 0 2 rfl rfl 6 (by decide) (List.mem_of_getElem? (i := 3) rfl) rfl (v := .int (nI (κ 3 0 + 1))) rfl rfl (Nat.le_of_ble_eq_true rfl) dX2_saveState_40 (fun H locs hW => ?_)
      have hW : kw D A s.heap (wP c a b (svT θ 2) ρ (pu κ 3 (kc (κ 3 0 + 1)))) H locs := hW
      refine lv_goto (tgt := 59) S.1 S.2.1 dX2_saveState_43 (by decide) ?_
      exact hret 59 _ _ _ _ dX2_saveState_59 hW (by rw [hq, hk])
  · refine k_top (y := nI (3)) (congrArg nI hq) ?_
    refine kq_ald S hK hW 1 (f := fun k => some (b (3 + k) 0)) rfl (by decide) (by decide) dX2_saveState_16 ?_
    refine lv_aload_n S.1 S.2.1 dX2_saveState_17 rfl (lv_at hl 0 rfl) ?_
    refine kx_get S hK hW hinX2 0 2 rfl rfl 0 (by decide) (List.mem_of_getElem? (i := 4) rfl) (v := .ref (b 0 0)) rfl dX2_saveState_18 ?_
    refine k_VV (rest := []) S hK hl.1 hW (fV3 hW hA) (mX1_become l D c (b 6) (b 0) ((θ 6)) ((θ 0)) _ ) gX2_saveState_X1_become rfl pdX1_become ⟨⟨rfl, rfl⟩, Nat.le_of_ble_eq_true rfl, Nat.le_of_ble_eq_true rfl⟩ 0 1 rfl rfl rfl rfl (Nat.le_of_ble_eq_true rfl) dX2_saveState_21 ⟨Nat.le_of_ble_eq_true rfl, Nat.le_of_ble_eq_true rfl⟩ (fun H locs hW => ?_)
    have hW : kw D A s.heap (wP c a b (svT θ 3) ρ κ) H locs := hW
    refine lv_aload_n S.1 S.2.1 dX2_saveState_24 rfl (lv_at hl 0 rfl) ?_
    refine kx_get S hK hW hinX2 0 2 rfl rfl 6 (by decide) (List.mem_of_getElem? (i := 3) rfl) (v := .int (nI (κ 3 0))) rfl dX2_saveState_25 ?_
    refine lv_bipush (v := nI (6)) S.1 S.2.1 dX2_saveState_28 rfl ?_
    refine kn_ge S (tgt := 46) dX2_saveState_30 (by decide) (by omega) (by omega) (fun c_30 => ?_) (fun c_30 => ?_)
    · have hk : svK κ = pu κ 2 (kc ((κ 2 0 + 1) % 6)) := if_neg (by omega)
      refine lv_aload_n S.1 S.2.1 dX2_saveState_46 rfl (lv_at hl 0 rfl) ?_
      refine lv_aload_n S.1 S.2.1 dX2_saveState_47 rfl (lv_at hl 0 rfl) ?_
      refine kx_get S hK hW hinX2 0 2 rfl rfl 5 (by decide) (List.mem_of_getElem? (i := 2) rfl) (v := .int (nI (κ 2 0))) rfl dX2_saveState_48 ?_
      refine lv_iconst (v := nI (1)) S.1 S.2.1 dX2_saveState_51 rfl ?_
      refine kn_iadd S dX2_saveState_52 ?_
      refine lv_bipush (v := nI (6)) S.1 S.2.1 dX2_saveState_53 rfl ?_
      refine kn_irem S dX2_saveState_55 (by omega) (by omega) (by omega) ?_
      refine kx_put S hK hW hinX2 tyX2_ok nmX2 0 2 rfl rfl 5 (by decide) (List.mem_of_getElem? (i := 2) rfl) rfl (v := .int (nI ((κ 2 0 + 1) % 6))) rfl rfl (Nat.le_of_ble_eq_true rfl) dX2_saveState_56 (fun H locs hW => ?_)
      have hW : kw D A s.heap (wP c a b (svT θ 3) ρ (pu κ 2 (kc ((κ 2 0 + 1) % 6)))) H locs := hW
      exact hret 59 _ _ _ _ dX2_saveState_59 hW (by rw [hq, hk])
    · have hk : svK κ = pu κ 3 (kc (κ 3 0 + 1)) := if_pos c_30
      refine lv_aload_n S.1 S.2.1 dX2_saveState_33 rfl (lv_at hl 0 rfl) ?_
      refine lv_dup S.1 S.2.1 dX2_saveState_34 rfl ?_
      refine kx_get S hK hW hinX2 0 2 rfl rfl 6 (by decide) (List.mem_of_getElem? (i := 3) rfl) (v := .int (nI (κ 3 0))) rfl dX2_saveState_35 ?_
      refine lv_iconst (v := nI (1)) S.1 S.2.1 dX2_saveState_38 rfl ?_
      refine kn_iadd S dX2_saveState_39 ?_
      refine kx_put S hK hW hinX2 tyX2_ok nmX2 0 2 rfl rfl 6 (by decide) (List.mem_of_getElem? (i := 3) rfl) rfl (v := .int (nI (κ 3 0 + 1))) rfl rfl (Nat.le_of_ble_eq_true rfl) dX2_saveState_40 (fun H locs hW => ?_)
      have hW : kw D A s.heap (wP c a b (svT θ 3) ρ (pu κ 3 (kc (κ 3 0 + 1)))) H locs := hW
      refine lv_goto (tgt := 59) S.1 S.2.1 dX2_saveState_43 (by decide) ?_
      exact hret 59 _ _ _ _ dX2_saveState_59 hW (by rw [hq, hk])
  · refine k_top (y := nI (4)) (congrArg nI hq) ?_
    refine kq_ald S hK hW 1 (f := fun k => some (b (3 + k) 0)) rfl (by decide) (by decide) dX2_saveState_16 ?_
    refine lv_aload_n S.1 S.2.1 dX2_saveState_17 rfl (lv_at hl 0 rfl) ?_
    refine kx_get S hK hW hinX2 0 2 rfl rfl 0 (by decide) (List.mem_of_getElem? (i := 4) rfl) (v := .ref (b 0 0)) rfl dX2_saveState_18 ?_
    refine k_VV (rest := []) S hK hl.1 hW (fV4 hW hA) (mX1_become l D c (b 7) (b 0) ((θ 7)) ((θ 0)) _ ) gX2_saveState_X1_become rfl pdX1_become ⟨⟨rfl, rfl⟩, Nat.le_of_ble_eq_true rfl, Nat.le_of_ble_eq_true rfl⟩ 0 1 rfl rfl rfl rfl (Nat.le_of_ble_eq_true rfl) dX2_saveState_21 ⟨Nat.le_of_ble_eq_true rfl, Nat.le_of_ble_eq_true rfl⟩ (fun H locs hW => ?_)
    have hW : kw D A s.heap (wP c a b (svT θ 4) ρ κ) H locs := hW
    refine lv_aload_n S.1 S.2.1 dX2_saveState_24 rfl (lv_at hl 0 rfl) ?_
    refine kx_get S hK hW hinX2 0 2 rfl rfl 6 (by decide) (List.mem_of_getElem? (i := 3) rfl) (v := .int (nI (κ 3 0))) rfl dX2_saveState_25 ?_
    refine lv_bipush (v := nI (6)) S.1 S.2.1 dX2_saveState_28 rfl ?_
    refine kn_ge S (tgt := 46) dX2_saveState_30 (by decide) (by omega) (by omega) (fun c_30 => ?_) (fun c_30 => ?_)
    · have hk : svK κ = pu κ 2 (kc ((κ 2 0 + 1) % 6)) := if_neg (by omega)
      refine lv_aload_n S.1 S.2.1 dX2_saveState_46 rfl (lv_at hl 0 rfl) ?_
      refine lv_aload_n S.1 S.2.1 dX2_saveState_47 rfl (lv_at hl 0 rfl) ?_
      refine kx_get S hK hW hinX2 0 2 rfl rfl 5 (by decide) (List.mem_of_getElem? (i := 2) rfl) (v := .int (nI (κ 2 0))) rfl dX2_saveState_48 ?_
      refine lv_iconst (v := nI (1)) S.1 S.2.1 dX2_saveState_51 rfl ?_
      refine kn_iadd S dX2_saveState_52 ?_
      refine lv_bipush (v := nI (6)) S.1 S.2.1 dX2_saveState_53 rfl ?_
      refine kn_irem S dX2_saveState_55 (by omega) (by omega) (by omega) ?_
      refine kx_put S hK hW hinX2 tyX2_ok nmX2 0 2 rfl rfl 5 (by decide) (List.mem_of_getElem? (i := 2) rfl) rfl (v := .int (nI ((κ 2 0 + 1) % 6))) rfl rfl (Nat.le_of_ble_eq_true rfl) dX2_saveState_56 (fun H locs hW => ?_)
      have hW : kw D A s.heap (wP c a b (svT θ 4) ρ (pu κ 2 (kc ((κ 2 0 + 1) % 6)))) H locs := hW
      exact hret 59 _ _ _ _ dX2_saveState_59 hW (by rw [hq, hk])
    · have hk : svK κ = pu κ 3 (kc (κ 3 0 + 1)) := if_pos c_30
      refine lv_aload_n S.1 S.2.1 dX2_saveState_33 rfl (lv_at hl 0 rfl) ?_
      refine lv_dup S.1 S.2.1 dX2_saveState_34 rfl ?_
      refine kx_get S hK hW hinX2 0 2 rfl rfl 6 (by decide) (List.mem_of_getElem? (i := 3) rfl) (v := .int (nI (κ 3 0))) rfl dX2_saveState_35 ?_
      refine lv_iconst (v := nI (1)) S.1 S.2.1 dX2_saveState_38 rfl ?_
      refine kn_iadd S dX2_saveState_39 ?_
      refine kx_put S hK hW hinX2 tyX2_ok nmX2 0 2 rfl rfl 6 (by decide) (List.mem_of_getElem? (i := 3) rfl) rfl (v := .int (nI (κ 3 0 + 1))) rfl rfl (Nat.le_of_ble_eq_true rfl) dX2_saveState_40 (fun H locs hW => ?_)
      have hW : kw D A s.heap (wP c a b (svT θ 4) ρ (pu κ 3 (kc (κ 3 0 + 1)))) H locs := hW
      refine lv_goto (tgt := 59) S.1 S.2.1 dX2_saveState_43 (by decide) ?_
      exact hret 59 _ _ _ _ dX2_saveState_59 hW (by rw [hq, hk])
  · refine k_top (y := nI (5)) (congrArg nI hq) ?_
    refine kq_ald S hK hW 1 (f := fun k => some (b (3 + k) 0)) rfl (by decide) (by decide) dX2_saveState_16 ?_
    refine lv_aload_n S.1 S.2.1 dX2_saveState_17 rfl (lv_at hl 0 rfl) ?_
    refine kx_get S hK hW hinX2 0 2 rfl rfl 0 (by decide) (List.mem_of_getElem? (i := 4) rfl) (v := .ref (b 0 0)) rfl dX2_saveState_18 ?_
    refine k_VV (rest := []) S hK hl.1 hW (fV5 hW hA) (mX1_become l D c (b 8) (b 0) ((θ 8)) ((θ 0)) _ ) gX2_saveState_X1_become rfl pdX1_become ⟨⟨rfl, rfl⟩, Nat.le_of_ble_eq_true rfl, Nat.le_of_ble_eq_true rfl⟩ 0 1 rfl rfl rfl rfl (Nat.le_of_ble_eq_true rfl) dX2_saveState_21 ⟨Nat.le_of_ble_eq_true rfl, Nat.le_of_ble_eq_true rfl⟩ (fun H locs hW => ?_)
    have hW : kw D A s.heap (wP c a b (svT θ 5) ρ κ) H locs := hW
    refine lv_aload_n S.1 S.2.1 dX2_saveState_24 rfl (lv_at hl 0 rfl) ?_
    refine kx_get S hK hW hinX2 0 2 rfl rfl 6 (by decide) (List.mem_of_getElem? (i := 3) rfl) (v := .int (nI (κ 3 0))) rfl dX2_saveState_25 ?_
    refine lv_bipush (v := nI (6)) S.1 S.2.1 dX2_saveState_28 rfl ?_
    refine kn_ge S (tgt := 46) dX2_saveState_30 (by decide) (by omega) (by omega) (fun c_30 => ?_) (fun c_30 => ?_)
    · have hk : svK κ = pu κ 2 (kc ((κ 2 0 + 1) % 6)) := if_neg (by omega)
      refine lv_aload_n S.1 S.2.1 dX2_saveState_46 rfl (lv_at hl 0 rfl) ?_
      refine lv_aload_n S.1 S.2.1 dX2_saveState_47 rfl (lv_at hl 0 rfl) ?_
      refine kx_get S hK hW hinX2 0 2 rfl rfl 5 (by decide) (List.mem_of_getElem? (i := 2) rfl) (v := .int (nI (κ 2 0))) rfl dX2_saveState_48 ?_
      refine lv_iconst (v := nI (1)) S.1 S.2.1 dX2_saveState_51 rfl ?_
      refine kn_iadd S dX2_saveState_52 ?_
      refine lv_bipush (v := nI (6)) S.1 S.2.1 dX2_saveState_53 rfl ?_
      refine kn_irem S dX2_saveState_55 (by omega) (by omega) (by omega) ?_
      refine kx_put S hK hW hinX2 tyX2_ok nmX2 0 2 rfl rfl 5 (by decide) (List.mem_of_getElem? (i := 2) rfl) rfl (v := .int (nI ((κ 2 0 + 1) % 6))) rfl rfl (Nat.le_of_ble_eq_true rfl) dX2_saveState_56 (fun H locs hW => ?_)
      have hW : kw D A s.heap (wP c a b (svT θ 5) ρ (pu κ 2 (kc ((κ 2 0 + 1) % 6)))) H locs := hW
      exact hret 59 _ _ _ _ dX2_saveState_59 hW (by rw [hq, hk])
    · have hk : svK κ = pu κ 3 (kc (κ 3 0 + 1)) := if_pos c_30
      refine lv_aload_n S.1 S.2.1 dX2_saveState_33 rfl (lv_at hl 0 rfl) ?_
      refine lv_dup S.1 S.2.1 dX2_saveState_34 rfl ?_
      refine kx_get S hK hW hinX2 0 2 rfl rfl 6 (by decide) (List.mem_of_getElem? (i := 3) rfl) (v := .int (nI (κ 3 0))) rfl dX2_saveState_35 ?_
      refine lv_iconst (v := nI (1)) S.1 S.2.1 dX2_saveState_38 rfl ?_
      refine kn_iadd S dX2_saveState_39 ?_
      refine kx_put S hK hW hinX2 tyX2_ok nmX2 0 2 rfl rfl 6 (by decide) (List.mem_of_getElem? (i := 3) rfl) rfl (v := .int (nI (κ 3 0 + 1))) rfl rfl (Nat.le_of_ble_eq_true rfl) dX2_saveState_40 (fun H locs hW => ?_)
      have hW : kw D A s.heap (wP c a b (svT θ 5) ρ (pu κ 3 (kc (κ 3 0 + 1)))) H locs := hW
      refine lv_goto (tgt := 59) S.1 S.2.1 dX2_saveState_43 (by decide) ?_
      exact hret 59 _ _ _ _ dX2_saveState_59 hW (by rw [hq, hk])
abbrev rmX2_numberNow : Room := { frames := 4, cells := 0, slots := 0, locals := 88 }
theorem pdX2_numberNow : kPd yX2_numberNow 1 := by decide +kernel
set_option maxHeartbeats 400000 in
set_option maxRecDepth 100000 in
theorem mX2_numberNow (l : Launch) (D : va_G) (c : Nat → ClassId) (a : Nat → Nat) (b : Nat → Nat → Nat) (θ : Nat → Nat → Nat → Nat) (ρ κ : Nat → Nat → Nat) (sz : Nat) (w : Nat) (T : Nat) (hw : w < 18) (ok : okS (θ 0) T) (hT : T < 500000000) : MI2 l yX2_numberNow wsX2_numberNow rmX2_numberNow D c sz (wP c a b θ ρ κ) [.ref (a 0), .int (nI (w))] (nI ((if w = 17 then κ 3 0 else numN (θ 0) w))) (wP c a b θ ρ κ) := by
  refine MI2.of (cc := cX2_numberNow) (maxL := 2) (ty := .int) (by decide) rfl (Nat.le_of_ble_eq_true rfl) rfl ?_
  intro P e s m below meth cd A Q ls hsz S hK hN hW hA hl hret
  have hl : lv_has ls 2 [(0, .ref (a 0)), (1, .int (nI (w)))] := hl
  have hinX2 : ∀ w ∈ u_ws RX2 TX2 10, w ∈ wsX2_numberNow := by decide +kernel
  refine lv_iload_n S.1 S.2.1 dX2_numberNow_0 rfl (lv_at hl 1 rfl) ?_
  refine lv_bipush (v := nI (17)) S.1 S.2.1 dX2_numberNow_1 rfl ?_
  refine kn_ne S (tgt := 13) dX2_numberNow_3 (by decide) (by omega) (by omega) (fun c_3 => ?_) (fun c_3 => ?_)
  · have hs : (if w = 17 then κ 3 0 else numN (θ 0) w) = numN (θ 0) w := if_neg c_3
    refine lv_aload_n S.1 S.2.1 dX2_numberNow_13 rfl (lv_at hl 0 rfl) ?_
    refine kx_get S hK hW hinX2 0 2 rfl rfl 0 (by decide) (List.mem_of_getElem? (i := 2) rfl) (v := .ref (b 0 0)) rfl dX2_numberNow_14 ?_
    refine lv_iload_n S.1 S.2.1 dX2_numberNow_17 rfl (lv_at hl 1 rfl) ?_
    refine k_VI (rest := []) S hK hl.1 hW (fS0 hW hA _) (mX1_numberOfState l D c (b 0) ((θ 0)) _ w T (by first | omega | exact hw | assumption | (show w < 17; omega) | rfl) ok (by first | omega | exact hT | assumption | (show T < 500000000; omega) | rfl)) gX2_numberNow_X1_numberOfState rfl pdX1_numberOfState ⟨⟨rfl, rfl⟩, Nat.le_of_ble_eq_true rfl, Nat.le_of_ble_eq_true rfl⟩ 0 1 rfl rfl rfl rfl (Nat.le_of_ble_eq_true rfl) dX2_numberNow_18 ⟨Nat.le_of_ble_eq_true rfl, Nat.le_of_ble_eq_true rfl⟩ (fun H locs hW => ?_)
    have hW : kw D A s.heap (wP c a b θ ρ κ) H locs := hW
    refine k_top (y := nI (numN (θ 0) w)) rfl ?_
    exact hret 21 _ _ _ _ _ dX2_numberNow_21 hW (congrArg nI hs.symm) (rfl)
  · have hs : (if w = 17 then κ 3 0 else numN (θ 0) w) = κ 3 0 := if_pos c_3
    refine lv_aload_n S.1 S.2.1 dX2_numberNow_6 rfl (lv_at hl 0 rfl) ?_
    refine kx_get S hK hW hinX2 0 2 rfl rfl 6 (by decide) (List.mem_of_getElem? (i := 1) rfl) (v := .int (nI (κ 3 0))) rfl dX2_numberNow_7 ?_
    refine lv_goto (tgt := 21) S.1 S.2.1 dX2_numberNow_10 (by decide) ?_
    exact hret 21 _ _ _ _ _ dX2_numberNow_21 hW (congrArg nI hs.symm) (rfl)
abbrev rmX2_tryOut : Room := { frames := 5, cells := 0, slots := 0, locals := 115 }
theorem pdX2_tryOut : kPd yX2_tryOut 2 := by decide +kernel
set_option maxHeartbeats 400000 in
set_option maxRecDepth 100000 in
theorem mX2_tryOut (l : Launch) (D : va_G) (c : Nat → ClassId) (a : Nat → Nat) (b : Nat → Nat → Nat) (θ : Nat → Nat → Nat → Nat) (ρ κ : Nat → Nat → Nat) (sz : Nat) (n : Nat) (v : Nat) (T : Nat) (hn : n < 200) (hv : v ≤ 9) (ok : okS (θ 0) T) (hT : T < 200000000) : MV2 l yX2_tryOut wsX2_tryOut rmX2_tryOut D c sz (wP c a b θ ρ κ) [.ref (a 0), .int (nI (n)), .int (nI (v))]  (wP c a b (pst θ 1 ((onS n (pu (θ 0) 11 (kc v))).2)) ρ κ) := by
  refine MV2.of (cc := cX2_tryOut) (maxL := 3) (by decide) rfl (Nat.le_of_ble_eq_true rfl) ?_
  intro P e s m below meth cd A Q ls hsz S hK hN hW hA hl hret
  have hl : lv_has ls 3 [(0, .ref (a 0)), (1, .int (nI (n))), (2, .int (nI (v)))] := hl
  have hinX1 : ∀ w ∈ u_ws RX1 TX1 17, w ∈ wsX2_tryOut := by decide +kernel
  have hinX2 : ∀ w ∈ u_ws RX2 TX2 10, w ∈ wsX2_tryOut := by decide +kernel
  refine lv_aload_n S.1 S.2.1 dX2_tryOut_0 rfl (lv_at hl 0 rfl) ?_
  refine kx_get S hK hW hinX2 0 2 rfl rfl 1 (by decide) (List.mem_of_getElem? (i := 1) rfl) (v := .ref (b 1 0)) rfl dX2_tryOut_1 ?_
  refine lv_aload_n S.1 S.2.1 dX2_tryOut_4 rfl (lv_at hl 0 rfl) ?_
  refine kx_get S hK hW hinX2 0 2 rfl rfl 0 (by decide) (List.mem_of_getElem? (i := 2) rfl) (v := .ref (b 0 0)) rfl dX2_tryOut_5 ?_
  refine k_VV (rest := []) S hK hl.1 hW (fB10 hW hA) (mX1_become l D c (b 1) (b 0) ((θ 1)) ((θ 0)) _ ) gX2_tryOut_X1_become rfl pdX1_become ⟨⟨rfl, rfl⟩, Nat.le_of_ble_eq_true rfl, Nat.le_of_ble_eq_true rfl⟩ 0 1 rfl rfl rfl rfl (Nat.le_of_ble_eq_true rfl) dX2_tryOut_8 ⟨Nat.le_of_ble_eq_true rfl, Nat.le_of_ble_eq_true rfl⟩ (fun H locs hW => ?_)
  have hW : kw D A s.heap (wP c a b (pst θ 1 (θ 0)) ρ κ) H locs := hW
  refine lv_aload_n S.1 S.2.1 dX2_tryOut_11 rfl (lv_at hl 0 rfl) ?_
  refine kx_get S hK hW hinX2 0 2 rfl rfl 1 (by decide) (List.mem_of_getElem? (i := 1) rfl) (v := .ref (b 1 0)) rfl dX2_tryOut_12 ?_
  refine lv_iload_n S.1 S.2.1 dX2_tryOut_15 rfl (lv_at hl 2 rfl) ?_
  refine kx_putN S hK hW hinX1 tyX1_ok nmX1 12 1 rfl rfl 11 (by decide) (hN _ (List.mem_of_getElem? (i := 3) rfl)) rfl (v := .int (nI (v))) rfl rfl (Nat.le_of_ble_eq_true rfl) dX2_tryOut_16 (fun H locs hW => ?_)
  have hW : kw D A s.heap (wP c a b (pst θ 1 (pu (θ 0) 11 (kc (v)))) ρ κ) H locs := hW
  refine lv_aload_n S.1 S.2.1 dX2_tryOut_19 rfl (lv_at hl 0 rfl) ?_
  refine kx_get S hK hW hinX2 0 2 rfl rfl 1 (by decide) (List.mem_of_getElem? (i := 1) rfl) (v := .ref (b 1 0)) rfl dX2_tryOut_20 ?_
  refine lv_iload_n S.1 S.2.1 dX2_tryOut_23 rfl (lv_at hl 1 rfl) ?_
  refine k_VI (rest := []) S hK hl.1 hW (fS1 hW hA _) (mX1_goOnFor l D c (b 1) ((pu (θ 0) 11 (kc (v)))) _ n T (by first | omega | exact hn | assumption | (show n < 200; omega) | rfl) (okS.p11 ok hv) (by first | omega | exact hT | assumption | (show T < 200000000; omega) | rfl)) gX2_tryOut_X1_goOnFor rfl pdX1_goOnFor ⟨⟨rfl, rfl⟩, Nat.le_of_ble_eq_true rfl, Nat.le_of_ble_eq_true rfl⟩ 0 1 rfl rfl rfl rfl (Nat.le_of_ble_eq_true rfl) dX2_tryOut_24 ⟨Nat.le_of_ble_eq_true rfl, Nat.le_of_ble_eq_true rfl⟩ (fun H locs hW => ?_)
  have hW : kw D A s.heap (wP c a b (pst θ 1 ((onS n ((pu (θ 0) 11 (kc (v))))).2)) ρ κ) H locs := hW
  refine k_top (y := nI ((onS n (pu (θ 0) 11 (kc (v)))).1)) rfl ?_
  refine lv_pop S.1 S.2.1 dX2_tryOut_27 rfl ?_
  exact hret 28 _ _ _ _ dX2_tryOut_28 hW (rfl)
abbrev rmX2_undo : Room := { frames := 2, cells := 0, slots := 0, locals := 61 }
theorem pdX2_undo : kPd yX2_undo 0 := by decide +kernel
set_option maxHeartbeats 400000 in
set_option maxRecDepth 100000 in
theorem mX2_undo_k (l : Launch) (D : va_G) (c : Nat → ClassId) (a : Nat → Nat) (b : Nat → Nat → Nat) (θ : Nat → Nat → Nat → Nat) (ρ κ : Nat → Nat → Nat) (sz : Nat) (hold : κ 2 0 < 6) (hcnt : κ 3 0 ≤ 6) (h0 : ¬ κ 3 0 = 0) : MI2 l yX2_undo wsX2_undo rmX2_undo D c sz (wP c a b θ ρ κ) [.ref (a 0)] (nI (κ 3 0 - 1)) (wP c a b (pst θ 0 (θ (3 + (κ 2 0 + (κ 3 0 - 1)) % 6))) ρ (pu κ 3 (kc (κ 3 0 - 1)))) := by
  refine MI2.of (cc := cX2_undo) (maxL := 1) (ty := .int) (by decide) rfl (Nat.le_of_ble_eq_true rfl) rfl ?_
  intro P e s m below meth cd A Q ls hsz S hK hN hW hA hl hret
  have hl : lv_has ls 1 [(0, .ref (a 0))] := hl
  have hinX2 : ∀ w ∈ u_ws RX2 TX2 10, w ∈ wsX2_undo := by decide +kernel
  refine lv_aload_n S.1 S.2.1 dX2_undo_0 rfl (lv_at hl 0 rfl) ?_
  refine kx_get S hK hW hinX2 0 2 rfl rfl 6 (by decide) (List.mem_of_getElem? (i := 3) rfl) (v := .int (nI (κ 3 0))) rfl dX2_undo_1 ?_
  refine kz_ne S (tgt := 17) dX2_undo_4 (by decide) (by omega) (fun c_4 => ?_) (fun c_4 => ?_)
  · refine lv_aload_n S.1 S.2.1 dX2_undo_17 rfl (lv_at hl 0 rfl) ?_
    refine lv_dup S.1 S.2.1 dX2_undo_18 rfl ?_
    refine kx_get S hK hW hinX2 0 2 rfl rfl 6 (by decide) (List.mem_of_getElem? (i := 3) rfl) (v := .int (nI (κ 3 0))) rfl dX2_undo_19 ?_
    refine lv_iconst (v := nI (1)) S.1 S.2.1 dX2_undo_22 rfl ?_
    refine kn_isub S dX2_undo_23 (by omega) ?_
    refine kx_put S hK hW hinX2 tyX2_ok nmX2 0 2 rfl rfl 6 (by decide) (List.mem_of_getElem? (i := 3) rfl) rfl (v := .int (nI ((κ 3 0) - 1))) rfl rfl (Nat.le_of_ble_eq_true rfl) dX2_undo_24 (fun H locs hW => ?_)
    have hW : kw D A s.heap (wP c a b θ ρ (pu κ 3 (kc ((κ 3 0) - 1)))) H locs := hW
    refine lv_aload_n S.1 S.2.1 dX2_undo_27 rfl (lv_at hl 0 rfl) ?_
    refine kx_get S hK hW hinX2 0 2 rfl rfl 0 (by decide) (List.mem_of_getElem? (i := 4) rfl) (v := .ref (b 0 0)) rfl dX2_undo_28 ?_
    refine lv_aload_n S.1 S.2.1 dX2_undo_31 rfl (lv_at hl 0 rfl) ?_
    refine kx_get S hK hW hinX2 0 2 rfl rfl 4 (by decide) (List.mem_of_getElem? (i := 5) rfl) (v := .ref (a 1)) rfl dX2_undo_32 ?_
    refine lv_aload_n S.1 S.2.1 dX2_undo_35 rfl (lv_at hl 0 rfl) ?_
    refine kx_get S hK hW hinX2 0 2 rfl rfl 5 (by decide) (List.mem_of_getElem? (i := 6) rfl) (v := .int (nI (κ 2 0))) rfl dX2_undo_36 ?_
    refine lv_aload_n S.1 S.2.1 dX2_undo_39 rfl (lv_at hl 0 rfl) ?_
    refine kx_get S hK hW hinX2 0 2 rfl rfl 6 (by decide) (List.mem_of_getElem? (i := 3) rfl) (v := .int (nI ((κ 3 0) - 1))) rfl dX2_undo_40 ?_
    refine kn_iadd S dX2_undo_43 ?_
    refine lv_bipush (v := nI (6)) S.1 S.2.1 dX2_undo_44 rfl ?_
    refine kn_irem S dX2_undo_46 (by omega) (by omega) (by omega) ?_
    rcases lt6 (Nat.mod_lt (κ 2 0 + (κ 3 0 - 1)) (by decide : 0 < 6)) with hq | hq | hq | hq | hq | hq
    · refine k_top (y := nI (0)) (congrArg nI hq) ?_
      refine kq_ald S hK hW 1 (f := fun k => some (b (3 + k) 0)) rfl (by decide) (by decide) dX2_undo_47 ?_
      refine k_VV (rest := []) S hK hl.1 hW (fU0 hW hA) (mX1_become l D c (b 0) (b 3) ((θ 0)) ((θ 3)) _ ) gX2_undo_X1_become rfl pdX1_become ⟨⟨rfl, rfl⟩, Nat.le_of_ble_eq_true rfl, Nat.le_of_ble_eq_true rfl⟩ 0 1 rfl rfl rfl rfl (Nat.le_of_ble_eq_true rfl) dX2_undo_48 ⟨Nat.le_of_ble_eq_true rfl, Nat.le_of_ble_eq_true rfl⟩ (fun H locs hW => ?_)
      have hW : kw D A s.heap (wP c a b (pst θ 0 (θ 3)) ρ (pu κ 3 (kc ((κ 3 0) - 1)))) H locs := hW
      refine lv_aload_n S.1 S.2.1 dX2_undo_51 rfl (lv_at hl 0 rfl) ?_
      refine kx_get S hK hW hinX2 0 2 rfl rfl 6 (by decide) (List.mem_of_getElem? (i := 3) rfl) (v := .int (nI ((κ 3 0) - 1))) rfl dX2_undo_52 ?_
      exact hret 55 _ _ _ _ _ dX2_undo_55 hW (rfl) (by rw [hq])
    · refine k_top (y := nI (1)) (congrArg nI hq) ?_
      refine kq_ald S hK hW 1 (f := fun k => some (b (3 + k) 0)) rfl (by decide) (by decide) dX2_undo_47 ?_
      refine k_VV (rest := []) S hK hl.1 hW (fU1 hW hA) (mX1_become l D c (b 0) (b 4) ((θ 0)) ((θ 4)) _ ) gX2_undo_X1_become rfl pdX1_become ⟨⟨rfl, rfl⟩, Nat.le_of_ble_eq_true rfl, Nat.le_of_ble_eq_true rfl⟩ 0 1 rfl rfl rfl rfl (Nat.le_of_ble_eq_true rfl) dX2_undo_48 ⟨Nat.le_of_ble_eq_true rfl, Nat.le_of_ble_eq_true rfl⟩ (fun H locs hW => ?_)
      have hW : kw D A s.heap (wP c a b (pst θ 0 (θ 4)) ρ (pu κ 3 (kc ((κ 3 0) - 1)))) H locs := hW
      refine lv_aload_n S.1 S.2.1 dX2_undo_51 rfl (lv_at hl 0 rfl) ?_
      refine kx_get S hK hW hinX2 0 2 rfl rfl 6 (by decide) (List.mem_of_getElem? (i := 3) rfl) (v := .int (nI ((κ 3 0) - 1))) rfl dX2_undo_52 ?_
      exact hret 55 _ _ _ _ _ dX2_undo_55 hW (rfl) (by rw [hq])
    · refine k_top (y := nI (2)) (congrArg nI hq) ?_
      refine kq_ald S hK hW 1 (f := fun k => some (b (3 + k) 0)) rfl (by decide) (by decide) dX2_undo_47 ?_
      refine k_VV (rest := []) S hK hl.1 hW (fU2 hW hA) (mX1_become l D c (b 0) (b 5) ((θ 0)) ((θ 5)) _ ) gX2_undo_X1_become rfl pdX1_become ⟨⟨rfl, rfl⟩, Nat.le_of_ble_eq_true rfl, Nat.le_of_ble_eq_true rfl⟩ 0 1 rfl rfl rfl rfl (Nat.le_of_ble_eq_true rfl) dX2_undo_48 ⟨Nat.le_of_ble_eq_true rfl, Nat.le_of_ble_eq_true rfl⟩ (fun H locs hW => ?_)
      have hW : kw D A s.heap (wP c a b (pst θ 0 (θ 5)) ρ (pu κ 3 (kc ((κ 3 0) - 1)))) H locs := hW
      refine lv_aload_n S.1 S.2.1 dX2_undo_51 rfl (lv_at hl 0 rfl) ?_
      refine kx_get S hK hW hinX2 0 2 rfl rfl 6 (by decide) (List.mem_of_getElem? (i := 3) rfl) (v := .int (nI ((κ 3 0) - 1))) rfl dX2_undo_52 ?_
      exact hret 55 _ _ _ _ _ dX2_undo_55 hW (rfl) (by rw [hq])
    · refine k_top (y := nI (3)) (congrArg nI hq) ?_
      refine kq_ald S hK hW 1 (f := fun k => some (b (3 + k) 0)) rfl (by decide) (by decide) dX2_undo_47 ?_
      refine k_VV (rest := []) S hK hl.1 hW (fU3 hW hA) (mX1_become l D c (b 0) (b 6) ((θ 0)) ((θ 6)) _ ) gX2_undo_X1_become rfl pdX1_become ⟨⟨rfl, rfl⟩, Nat.le_of_ble_eq_true rfl, Nat.le_of_ble_eq_true rfl⟩ 0 1 rfl rfl rfl rfl (Nat.le_of_ble_eq_true rfl) dX2_undo_48 ⟨Nat.le_of_ble_eq_true rfl, Nat.le_of_ble_eq_true rfl⟩ (fun H locs hW => ?_)
      have hW : kw D A s.heap (wP c a b (pst θ 0 (θ 6)) ρ (pu κ 3 (kc ((κ 3 0) - 1)))) H locs := hW
      refine lv_aload_n S.1 S.2.1 dX2_undo_51 rfl (lv_at hl 0 rfl) ?_
      refine kx_get S hK hW hinX2 0 2 rfl rfl 6 (by decide) (List.mem_of_getElem? (i := 3) rfl) (v := .int (nI ((κ 3 0) - 1))) rfl dX2_undo_52 ?_
      exact hret 55 _ _ _ _ _ dX2_undo_55 hW (rfl) (by rw [hq])
    · refine k_top (y := nI (4)) (congrArg nI hq) ?_
      refine kq_ald S hK hW 1 (f := fun k => some (b (3 + k) 0)) rfl (by decide) (by decide) dX2_undo_47 ?_
      refine k_VV (rest := []) S hK hl.1 hW (fU4 hW hA) (mX1_become l D c (b 0) (b 7) ((θ 0)) ((θ 7)) _ ) gX2_undo_X1_become rfl pdX1_become ⟨⟨rfl, rfl⟩, Nat.le_of_ble_eq_true rfl, Nat.le_of_ble_eq_true rfl⟩ 0 1 rfl rfl rfl rfl (Nat.le_of_ble_eq_true rfl) dX2_undo_48 ⟨Nat.le_of_ble_eq_true rfl, Nat.le_of_ble_eq_true rfl⟩ (fun H locs hW => ?_)
      have hW : kw D A s.heap (wP c a b (pst θ 0 (θ 7)) ρ (pu κ 3 (kc ((κ 3 0) - 1)))) H locs := hW
      refine lv_aload_n S.1 S.2.1 dX2_undo_51 rfl (lv_at hl 0 rfl) ?_
      refine kx_get S hK hW hinX2 0 2 rfl rfl 6 (by decide) (List.mem_of_getElem? (i := 3) rfl) (v := .int (nI ((κ 3 0) - 1))) rfl dX2_undo_52 ?_
      exact hret 55 _ _ _ _ _ dX2_undo_55 hW (rfl) (by rw [hq])
    · refine k_top (y := nI (5)) (congrArg nI hq) ?_
      refine kq_ald S hK hW 1 (f := fun k => some (b (3 + k) 0)) rfl (by decide) (by decide) dX2_undo_47 ?_
      refine k_VV (rest := []) S hK hl.1 hW (fU5 hW hA) (mX1_become l D c (b 0) (b 8) ((θ 0)) ((θ 8)) _ ) gX2_undo_X1_become rfl pdX1_become ⟨⟨rfl, rfl⟩, Nat.le_of_ble_eq_true rfl, Nat.le_of_ble_eq_true rfl⟩ 0 1 rfl rfl rfl rfl (Nat.le_of_ble_eq_true rfl) dX2_undo_48 ⟨Nat.le_of_ble_eq_true rfl, Nat.le_of_ble_eq_true rfl⟩ (fun H locs hW => ?_)
      have hW : kw D A s.heap (wP c a b (pst θ 0 (θ 8)) ρ (pu κ 3 (kc ((κ 3 0) - 1)))) H locs := hW
      refine lv_aload_n S.1 S.2.1 dX2_undo_51 rfl (lv_at hl 0 rfl) ?_
      refine kx_get S hK hW hinX2 0 2 rfl rfl 6 (by decide) (List.mem_of_getElem? (i := 3) rfl) (v := .int (nI ((κ 3 0) - 1))) rfl dX2_undo_52 ?_
      exact hret 55 _ _ _ _ _ dX2_undo_55 hW (rfl) (by rw [hq])
  · exact absurd c_4 h0
abbrev rmX2_keep : Room := { frames := 3, cells := 0, slots := 0, locals := 67 }
abbrev rmX2_restore : Room := { frames := 3, cells := 0, slots := 0, locals := 81 }
