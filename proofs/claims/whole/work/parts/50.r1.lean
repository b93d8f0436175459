abbrev rmX0_start : Room := { frames := 0, cells := 0, slots := 0, locals := 0 }
theorem pdX0_start : kPd yX0_start 0 := by decide +kernel
set_option maxHeartbeats 400000 in
set_option maxRecDepth 100000 in
theorem mX0_start (l : Launch) (D : va_G) (c : Nat → ClassId) (a : Nat → Nat) (ρ : Nat → Nat → Nat) (sz : Nat) : MV l yX0_start wsX0_start rmX0_start D c sz (wR a ρ) [.ref (a 0)]  (wR a (pu ρ 0 (kc (0)))) := by
  refine MV.of (cc := cX0_start) (maxL := 1) (by decide) rfl (Nat.le_of_ble_eq_true rfl) ?_
  intro P e s m below meth cd A Q ls hsz S hK hW hA hl hret
  have hl : lv_has ls 1 [(0, .ref (a 0))] := hl
  have hinX0 : ∀ w ∈ u_ws RX0 TX0 5, w ∈ wsX0_start := by decide +kernel
  refine lv_aload_n S.1 S.2.1 dX0_start_0 rfl (lv_at hl 0 rfl) ?_
  refine lv_iconst (v := nI (0)) S.1 S.2.1 dX0_start_1 rfl ?_
  refine kx_put S hK hW hinX0 tyX0_ok nmX0 0 0 rfl rfl 0 (by decide) (List.mem_of_getElem? (i := 1) rfl) rfl (v := .int (nI (0))) rfl rfl (Nat.le_of_ble_eq_true rfl) dX0_start_2 (fun H locs hW => ?_)
  have hW : kw D A s.heap (wR a (pu ρ 0 (kc (0)))) H locs := hW
  exact hret 5 _ _ _ _ dX0_start_5 hW (rfl)
abbrev rmX0_isSeparator : Room := { frames := 0, cells := 0, slots := 0, locals := 0 }
theorem pdX0_isSeparator : kPd yX0_isSeparator 1 := by decide +kernel
set_option maxHeartbeats 400000 in
set_option maxRecDepth 100000 in
theorem mX0_isSeparator (l : Launch) (D : va_G) (c : Nat → ClassId) (sz : Nat) (x : Nat) (hx : x < 128) : MI l yX0_isSeparator wsX0_isSeparator rmX0_isSeparator D c sz [] [.int (nI (x))] (nI (sepB x).toNat) [] := by
  refine MI.of (cc := cX0_isSeparator) (maxL := 1) (ty := .boolean) (by decide) rfl (Nat.le_of_ble_eq_true rfl) (k_narB _) ?_
  intro P e s m below meth cd A Q ls hsz S hK hW hA hl hret
  have hl : lv_has ls 1 [(0, .int (nI (x)))] := hl
  refine lv_iload_n S.1 S.2.1 dX0_isSeparator_0 rfl (lv_at hl 0 rfl) ?_
  refine lv_bipush (v := nI (44)) S.1 S.2.1 dX0_isSeparator_1 rfl ?_
  refine kn_eq S (tgt := 12) dX0_isSeparator_3 (by decide) (by omega) (by omega) (fun c_3 => ?_) (fun c_3 => ?_)
  · have hs : sepB x = true := decide_eq_true (Or.inl c_3)
    refine lv_iconst (v := nI (1)) S.1 S.2.1 dX0_isSeparator_12 rfl ?_
    refine lv_goto (tgt := 17) S.1 S.2.1 dX0_isSeparator_13 (by decide) ?_
    exact hret 17 _ _ _ _ _ dX0_isSeparator_17 hW (by rw [hs] <;> rfl) (rfl)
  · refine lv_iload_n S.1 S.2.1 dX0_isSeparator_6 rfl (lv_at hl 0 rfl) ?_
    refine lv_bipush (v := nI (59)) S.1 S.2.1 dX0_isSeparator_7 rfl ?_
    refine kn_ne S (tgt := 16) dX0_isSeparator_9 (by decide) (by omega) (by omega) (fun c_9 => ?_) (fun c_9 => ?_)
    · have hs : sepB x = false := decide_eq_false (fun h => h.elim c_3 c_9)
      refine lv_iconst (v := nI (0)) S.1 S.2.1 dX0_isSeparator_16 rfl ?_
      exact hret 17 _ _ _ _ _ dX0_isSeparator_17 hW (by rw [hs] <;> rfl) (rfl)
    · have hs : sepB x = true := decide_eq_true (Or.inr c_9)
      refine lv_iconst (v := nI (1)) S.1 S.2.1 dX0_isSeparator_12 rfl ?_
      refine lv_goto (tgt := 17) S.1 S.2.1 dX0_isSeparator_13 (by decide) ?_
      exact hret 17 _ _ _ _ _ dX0_isSeparator_17 hW (by rw [hs] <;> rfl) (rfl)
abbrev rmX0_goTo : Room := { frames := 0, cells := 0, slots := 0, locals := 0 }
theorem pdX0_goTo : kPd yX0_goTo 1 := by decide +kernel
set_option maxHeartbeats 400000 in
set_option maxRecDepth 100000 in
theorem mX0_goTo (l : Launch) (D : va_G) (c : Nat → ClassId) (a : Nat → Nat) (ρ : Nat → Nat → Nat) (sz : Nat) (n : Nat) (hn : n < 8) : MI l yX0_goTo wsX0_goTo rmX0_goTo D c sz (wR a ρ) [.ref (a 0), .int (nI (n))] (nI (true).toNat) (wR a (pu ρ 0 (kc (n)))) := by
  refine MI.of (cc := cX0_goTo) (maxL := 2) (ty := .boolean) (by decide) rfl (Nat.le_of_ble_eq_true rfl) (k_narB _) ?_
  intro P e s m below meth cd A Q ls hsz S hK hW hA hl hret
  have hl : lv_has ls 2 [(0, .ref (a 0)), (1, .int (nI (n)))] := hl
  have hinX0 : ∀ w ∈ u_ws RX0 TX0 5, w ∈ wsX0_goTo := by decide +kernel
  refine lv_aload_n S.1 S.2.1 dX0_goTo_0 rfl (lv_at hl 0 rfl) ?_
  refine lv_iload_n S.1 S.2.1 dX0_goTo_1 rfl (lv_at hl 1 rfl) ?_
  refine kx_put S hK hW hinX0 tyX0_ok nmX0 0 0 rfl rfl 0 (by decide) (List.mem_of_getElem? (i := 1) rfl) rfl (v := .int (nI (n))) rfl rfl (Nat.le_of_ble_eq_true rfl) dX0_goTo_2 (fun H locs hW => ?_)
  have hW : kw D A s.heap (wR a (pu ρ 0 (kc (n)))) H locs := hW
  refine lv_iconst (v := nI (1)) S.1 S.2.1 dX0_goTo_5 rfl ?_
  exact hret 6 _ _ _ _ _ dX0_goTo_6 hW (rfl) (rfl)
abbrev rmX0_digitOf : Room := { frames := 0, cells := 0, slots := 0, locals := 0 }
theorem pdX0_digitOf : kPd yX0_digitOf 1 := by decide +kernel
set_option maxHeartbeats 400000 in
set_option maxRecDepth 100000 in
theorem mX0_digitOf (l : Launch) (D : va_G) (c : Nat → ClassId) (sz : Nat) (x : Nat) (hx : x < 128) : MI l yX0_digitOf wsX0_digitOf rmX0_digitOf D c sz [] [.int (nI (x))] (nI (dgO x)) [] := by
  refine MI.of (cc := cX0_digitOf) (maxL := 1) (ty := .int) (by decide) rfl (Nat.le_of_ble_eq_true rfl) rfl ?_
  intro P e s m below meth cd A Q ls hsz S hK hW hA hl hret
  have hl : lv_has ls 1 [(0, .int (nI (x)))] := hl
  refine lv_iload_n S.1 S.2.1 dX0_digitOf_0 rfl (lv_at hl 0 rfl) ?_
  refine lv_bipush (v := nI (48)) S.1 S.2.1 dX0_digitOf_1 rfl ?_
  refine kn_lt S (tgt := 19) dX0_digitOf_3 (by decide) (by omega) (by omega) (fun c_3 => ?_) (fun c_3 => ?_)
  · have hs : dgO x = 4294967295 := if_neg (by omega)
    refine lv_iconst (v := nI (4294967295)) S.1 S.2.1 dX0_digitOf_19 rfl ?_
    exact hret 20 _ _ _ _ _ dX0_digitOf_20 hW (congrArg nI hs.symm) (rfl)
  · refine lv_iload_n S.1 S.2.1 dX0_digitOf_6 rfl (lv_at hl 0 rfl) ?_
    refine lv_bipush (v := nI (57)) S.1 S.2.1 dX0_digitOf_7 rfl ?_
    refine kn_gt S (tgt := 19) dX0_digitOf_9 (by decide) (by omega) (by omega) (fun c_9 => ?_) (fun c_9 => ?_)
    · have hs : dgO x = 4294967295 := if_neg (by omega)
      refine lv_iconst (v := nI (4294967295)) S.1 S.2.1 dX0_digitOf_19 rfl ?_
      exact hret 20 _ _ _ _ _ dX0_digitOf_20 hW (congrArg nI hs.symm) (rfl)
    · have hs : dgO x = x - 48 := if_pos ⟨c_3, c_9⟩
      refine lv_iload_n S.1 S.2.1 dX0_digitOf_12 rfl (lv_at hl 0 rfl) ?_
      refine lv_bipush (v := nI (48)) S.1 S.2.1 dX0_digitOf_13 rfl ?_
      refine kn_isub S dX0_digitOf_15 (by omega) ?_
      refine lv_goto (tgt := 20) S.1 S.2.1 dX0_digitOf_16 (by decide) ?_
      exact hret 20 _ _ _ _ _ dX0_digitOf_20 hW (congrArg nI hs.symm) (rfl)
abbrev rmX0_lengthened : Room := { frames := 1, cells := 0, slots := 0, locals := 20 }
theorem pdX0_lengthened : kPd yX0_lengthened 2 := by decide +kernel
set_option maxHeartbeats 400000 in
set_option maxRecDepth 100000 in
theorem mX0_lengthened (l : Launch) (D : va_G) (c : Nat → ClassId) (sz : Nat) (n : Nat) (x : Nat) (hn : n < 100) (hx : x < 128) : MI l yX0_lengthened wsX0_lengthened rmX0_lengthened D c sz [] [.int (nI (n)), .int (nI (x))] (nI (lnO n x)) [] := by
  refine MI.of (cc := cX0_lengthened) (maxL := 3) (ty := .int) (by decide) rfl (Nat.le_of_ble_eq_true rfl) rfl ?_
  intro P e s m below meth cd A Q ls hsz S hK hW hA hl hret
  have hl : lv_has ls 3 [(0, .int (nI (n))), (1, .int (nI (x)))] := hl
  refine lv_iload_n S.1 S.2.1 dX0_lengthened_0 rfl (lv_at hl 1 rfl) ?_
  refine k_SI (rest := []) S hK hl.1 hW (KFr.nil hW hA) (mX0_digitOf l D c  _ x (by first | omega | exact hx | assumption | (show x < 128; omega) | rfl)) gX0_lengthened_X0_digitOf rfl pdX0_digitOf ⟨⟨rfl, rfl⟩, Nat.le_of_ble_eq_true rfl, Nat.le_of_ble_eq_true rfl⟩ rfl (Nat.le_of_ble_eq_true rfl) dX0_lengthened_1 ⟨Nat.le_of_ble_eq_true rfl, Nat.le_of_ble_eq_true rfl⟩ (fun H locs hW => ?_)
  have hW : kw D A s.heap [] H locs := hW
  rcases dgO_c x with hd | hd
  · refine k_top (y := nI (x - 48)) (congrArg nI hd.2) ?_
    refine lv_istore_n (lv' := [(2, .int (nI (x - 48))), (0, .int (nI (n))), (1, .int (nI (x)))]) S.1 S.2.1 dX0_lengthened_4 rfl hl (by decide) rfl (fun ls hl => ?_)
    refine lv_iload_n S.1 S.2.1 dX0_lengthened_5 rfl (lv_at hl 1 rfl) ?_
    refine kz_eq S (tgt := 13) dX0_lengthened_6 (by decide) (by omega) (fun c_6 => ?_) (fun c_6 => ?_)
    · have hs : lnO n x = 4294967295 := if_neg (fun h => h.1 c_6)
      refine lv_iconst (v := nI (4294967295)) S.1 S.2.1 dX0_lengthened_13 rfl ?_
      refine lv_goto (tgt := 23) S.1 S.2.1 dX0_lengthened_14 (by decide) ?_
      exact hret 23 _ _ _ _ _ dX0_lengthened_23 hW (congrArg nI hs.symm) (rfl)
    · have hs : lnO n x = n * 10 + (x - 48) := if_pos ⟨c_6, hd.1⟩
      refine lv_iload_n S.1 S.2.1 dX0_lengthened_9 rfl (lv_at hl 0 rfl) ?_
      refine kz_ge S (tgt := 17) dX0_lengthened_10 (by decide) (by omega) ?_
      refine lv_iload_n S.1 S.2.1 dX0_lengthened_17 rfl (lv_at hl 1 rfl) ?_
      refine lv_bipush (v := nI (10)) S.1 S.2.1 dX0_lengthened_18 rfl ?_
      refine kn_imul S dX0_lengthened_20 ?_
      refine lv_iload_n S.1 S.2.1 dX0_lengthened_21 rfl (lv_at hl 0 rfl) ?_
      refine kn_iadd S dX0_lengthened_22 ?_
      exact hret 23 _ _ _ _ _ dX0_lengthened_23 hW (congrArg nI hs.symm) (rfl)
  · refine k_top (y := nI (4294967295)) (congrArg nI hd.2) ?_
    refine lv_istore_n (lv' := [(2, .int (nI (4294967295))), (0, .int (nI (n))), (1, .int (nI (x)))]) S.1 S.2.1 dX0_lengthened_4 rfl hl (by decide) rfl (fun ls hl => ?_)
    refine lv_iload_n S.1 S.2.1 dX0_lengthened_5 rfl (lv_at hl 1 rfl) ?_
    refine kz_eq S (tgt := 13) dX0_lengthened_6 (by decide) (by omega) (fun c_6 => ?_) (fun c_6 => ?_)
    · have hs : lnO n x = 4294967295 := if_neg (fun h => h.1 c_6)
      refine lv_iconst (v := nI (4294967295)) S.1 S.2.1 dX0_lengthened_13 rfl ?_
      refine lv_goto (tgt := 23) S.1 S.2.1 dX0_lengthened_14 (by decide) ?_
      exact hret 23 _ _ _ _ _ dX0_lengthened_23 hW (congrArg nI hs.symm) (rfl)
    · have hs : lnO n x = 4294967295 := if_neg (fun h => hd.1 h.2)
      refine lv_iload_n S.1 S.2.1 dX0_lengthened_9 rfl (lv_at hl 0 rfl) ?_
      refine lv_if_ge (tgt := 17) S.1 S.2.1 dX0_lengthened_10 (by decide) (fun c_10 => ?_) (fun c_10 => ?_)
      · exact absurd c_10 (by decide)
      · refine lv_iconst (v := nI (4294967295)) S.1 S.2.1 dX0_lengthened_13 rfl ?_
        refine lv_goto (tgt := 23) S.1 S.2.1 dX0_lengthened_14 (by decide) ?_
        exact hret 23 _ _ _ _ _ dX0_lengthened_23 hW (congrArg nI hs.symm) (rfl)
abbrev rmX0_greatestFrom : Room := { frames := 1, cells := 0, slots := 0, locals := 21 }
theorem pdX0_greatestFrom : kPd yX0_greatestFrom 1 := by decide +kernel
set_option maxHeartbeats 400000 in
set_option maxRecDepth 100000 in
theorem mX0_greatestFrom (l : Launch) (D : va_G) (c : Nat → ClassId) (sz : Nat) (d : Nat) (hd : d < 10) : MI l yX0_greatestFrom wsX0_greatestFrom rmX0_greatestFrom D c sz [] [.int (nI (d))] (nI (grF d)) [] := by
  refine MI.of (cc := cX0_greatestFrom) (maxL := 2) (ty := .int) (by decide) rfl (Nat.le_of_ble_eq_true rfl) rfl ?_
  intro P e s m below meth cd A Q ls hsz S hK hW hA hl hret
  have hl : lv_has ls 2 [(0, .int (nI (d)))] := hl
  refine lv_iload_n S.1 S.2.1 dX0_greatestFrom_0 rfl (lv_at hl 0 rfl) ?_
  refine kz_le S (tgt := 17) dX0_greatestFrom_1 (by decide) (by omega) (fun c_1 => ?_) (fun c_1 => ?_)
  · have hg : grF d = d := if_neg (by omega)
    refine lv_iconst (v := nI (0)) S.1 S.2.1 dX0_greatestFrom_17 rfl ?_
    refine lv_istore_n (lv' := [(1, .int (nI (0))), (0, .int (nI (d)))]) S.1 S.2.1 dX0_greatestFrom_18 rfl hl (by decide) rfl (fun ls hl => ?_)
    refine lv_iload_n S.1 S.2.1 dX0_greatestFrom_19 rfl (lv_at hl 0 rfl) ?_
    refine kz_eq S (tgt := 38) dX0_greatestFrom_20 (by decide) (by omega) (fun c_20 => ?_) (fun c_20 => ?_)
    · refine lv_iload_n S.1 S.2.1 dX0_greatestFrom_38 rfl (lv_at hl 1 rfl) ?_
      exact hret 39 _ _ _ _ _ dX0_greatestFrom_39 hW (congrArg nI hg.symm) (rfl)
    · exact absurd c_20 (by decide)
  · refine lv_iload_n S.1 S.2.1 dX0_greatestFrom_4 rfl (lv_at hl 0 rfl) ?_
    refine lv_bipush (v := nI (10)) S.1 S.2.1 dX0_greatestFrom_5 rfl ?_
    refine kn_imul S dX0_greatestFrom_7 ?_
    refine lv_bipush (v := nI (32)) S.1 S.2.1 dX0_greatestFrom_8 rfl ?_
    refine kn_ge S (tgt := 17) dX0_greatestFrom_10 (by decide) (by omega) (by omega) (fun c_10 => ?_) (fun c_10 => ?_)
    · have hg : grF d = d := if_neg (by omega)
      refine lv_iconst (v := nI (0)) S.1 S.2.1 dX0_greatestFrom_17 rfl ?_
      refine lv_istore_n (lv' := [(1, .int (nI (0))), (0, .int (nI (d)))]) S.1 S.2.1 dX0_greatestFrom_18 rfl hl (by decide) rfl (fun ls hl => ?_)
      refine lv_iload_n S.1 S.2.1 dX0_greatestFrom_19 rfl (lv_at hl 0 rfl) ?_
      refine kz_eq S (tgt := 38) dX0_greatestFrom_20 (by decide) (by omega) (fun c_20 => ?_) (fun c_20 => ?_)
      · refine lv_iload_n S.1 S.2.1 dX0_greatestFrom_38 rfl (lv_at hl 1 rfl) ?_
        exact hret 39 _ _ _ _ _ dX0_greatestFrom_39 hW (congrArg nI hg.symm) (rfl)
      · exact absurd c_20 (by decide)
    · have hg : grF d = min 31 (d * 10 + 9) := if_pos ⟨c_1, c_10⟩
      refine lv_iconst (v := nI (1)) S.1 S.2.1 dX0_greatestFrom_13 rfl ?_
      refine lv_goto (tgt := 18) S.1 S.2.1 dX0_greatestFrom_14 (by decide) ?_
      refine lv_istore_n (lv' := [(1, .int (nI (1))), (0, .int (nI (d)))]) S.1 S.2.1 dX0_greatestFrom_18 rfl hl (by decide) rfl (fun ls hl => ?_)
      refine lv_iload_n S.1 S.2.1 dX0_greatestFrom_19 rfl (lv_at hl 0 rfl) ?_
      refine kz_eq S (tgt := 38) dX0_greatestFrom_20 (by decide) (by omega) (fun c_20 => ?_) (fun c_20 => ?_)
      · exact absurd c_20 (by decide)
      · refine lv_bipush (v := nI (31)) S.1 S.2.1 dX0_greatestFrom_23 rfl ?_
        refine lv_iload_n S.1 S.2.1 dX0_greatestFrom_25 rfl (lv_at hl 1 rfl) ?_
        refine lv_bipush (v := nI (10)) S.1 S.2.1 dX0_greatestFrom_26 rfl ?_
        refine kn_imul S dX0_greatestFrom_28 ?_
        refine lv_bipush (v := nI (9)) S.1 S.2.1 dX0_greatestFrom_29 rfl ?_
        refine kn_iadd S dX0_greatestFrom_31 ?_
        refine kn_min S hl.1 (List.mem_of_getElem? (i := 1) rfl) (List.mem_of_getElem? (i := 2) rfl) (List.mem_of_getElem? (i := 3) rfl) (List.mem_of_getElem? (i := 4) rfl) ⟨Nat.le_of_ble_eq_true rfl, Nat.le_of_ble_eq_true rfl⟩ ⟨Nat.le_of_ble_eq_true rfl, Nat.le_of_ble_eq_true rfl⟩ (by omega) (by omega) dX0_greatestFrom_32 ?_
        refine lv_goto (tgt := 39) S.1 S.2.1 dX0_greatestFrom_35 (by decide) ?_
        exact hret 39 _ _ _ _ _ dX0_greatestFrom_39 hW (congrArg nI hg.symm) (rfl)
abbrev rmX0_acceptsSeparator : Room := { frames := 1, cells := 0, slots := 0, locals := 21 }
theorem pdX0_acceptsSeparator : kPd yX0_acceptsSeparator 1 := by decide +kernel
set_option maxHeartbeats 400000 in
set_option maxRecDepth 100000 in
theorem mX0_acceptsSeparator (l : Launch) (D : va_G) (c : Nat → ClassId) (a : Nat → Nat) (ρ : Nat → Nat → Nat) (sz : Nat) (x : Nat) (hx : x < 128) : MI l yX0_acceptsSeparator wsX0_acceptsSeparator rmX0_acceptsSeparator D c sz (wR a ρ) [.ref (a 0), .int (nI (x))] (nI (true).toNat) (wR a (spR ρ x)) := by
  refine MI.of (cc := cX0_acceptsSeparator) (maxL := 2) (ty := .boolean) (by decide) rfl (Nat.le_of_ble_eq_true rfl) (k_narB _) ?_
  intro P e s m below meth cd A Q ls hsz S hK hW hA hl hret
  have hl : lv_has ls 2 [(0, .ref (a 0)), (1, .int (nI (x)))] := hl
  refine lv_aload_n S.1 S.2.1 dX0_acceptsSeparator_0 rfl (lv_at hl 0 rfl) ?_
  refine lv_iload_n S.1 S.2.1 dX0_acceptsSeparator_1 rfl (lv_at hl 1 rfl) ?_
  refine lv_bipush (v := nI (44)) S.1 S.2.1 dX0_acceptsSeparator_2 rfl ?_
  refine kn_ne S (tgt := 11) dX0_acceptsSeparator_4 (by decide) (by omega) (by omega) (fun c_4 => ?_) (fun c_4 => ?_)
  · have hg : (if x = 44 then 4 else 0) = 0 := if_neg c_4
    refine lv_iconst (v := nI (0)) S.1 S.2.1 dX0_acceptsSeparator_11 rfl ?_
    refine k_VI (rest := []) S hK hl.1 hW (KFr.all hW hA) (mX0_goTo l D c a ρ _ 0 (by first | omega | exact hn | assumption | (show 0 < 8; omega) | rfl)) gX0_acceptsSeparator_X0_goTo rfl pdX0_goTo ⟨⟨rfl, rfl⟩, Nat.le_of_ble_eq_true rfl, Nat.le_of_ble_eq_true rfl⟩ 0 0 rfl rfl rfl rfl (Nat.le_of_ble_eq_true rfl) dX0_acceptsSeparator_12 ⟨Nat.le_of_ble_eq_true rfl, Nat.le_of_ble_eq_true rfl⟩ (fun H locs hW => ?_)
    have hW : kw D A s.heap (wR a (pu ρ 0 (kc (0)))) H locs := hW
    exact hret 15 _ _ _ _ _ dX0_acceptsSeparator_15 hW (rfl) (congrArg (wR a) (by unfold spR; rw [hg]))
  · have hg : (if x = 44 then 4 else 0) = 4 := if_pos c_4
    refine lv_iconst (v := nI (4)) S.1 S.2.1 dX0_acceptsSeparator_7 rfl ?_
    refine lv_goto (tgt := 12) S.1 S.2.1 dX0_acceptsSeparator_8 (by decide) ?_
    refine k_VI (rest := []) S hK hl.1 hW (KFr.all hW hA) (mX0_goTo l D c a ρ _ 4 (by first | omega | exact hn | assumption | (show 4 < 8; omega) | rfl)) gX0_acceptsSeparator_X0_goTo rfl pdX0_goTo ⟨⟨rfl, rfl⟩, Nat.le_of_ble_eq_true rfl, Nat.le_of_ble_eq_true rfl⟩ 0 0 rfl rfl rfl rfl (Nat.le_of_ble_eq_true rfl) dX0_acceptsSeparator_12 ⟨Nat.le_of_ble_eq_true rfl, Nat.le_of_ble_eq_true rfl⟩ (fun H locs hW => ?_)
    have hW : kw D A s.heap (wR a (pu ρ 0 (kc (4)))) H locs := hW
    exact hret 15 _ _ _ _ _ dX0_acceptsSeparator_15 hW (rfl) (congrArg (wR a) (by unfold spR; rw [hg]))
abbrev rmX0_acceptsTune : Room := { frames := 1, cells := 0, slots := 0, locals := 21 }
theorem pdX0_acceptsTune : kPd yX0_acceptsTune 1 := by decide +kernel
set_option maxHeartbeats 400000 in
set_option maxRecDepth 100000 in
theorem mX0_acceptsTune (l : Launch) (D : va_G) (c : Nat → ClassId) (a : Nat → Nat) (ρ : Nat → Nat → Nat) (sz : Nat) (x : Nat) (hx : x < 128) (okr : okR ρ) : MI l yX0_acceptsTune wsX0_acceptsTune rmX0_acceptsTune D c sz (wR a ρ) [.ref (a 0), .int (nI (x))] (nI ((a0R ρ x).isSome).toNat) (wR a (((a0R ρ x).getD ρ))) := by
  refine MI.of (cc := cX0_acceptsTune) (maxL := 3) (ty := .boolean) (by decide) rfl (Nat.le_of_ble_eq_true rfl) (k_narB _) ?_
  intro P e s m below meth cd A Q ls hsz S hK hW hA hl hret
  have hl : lv_has ls 3 [(0, .ref (a 0)), (1, .int (nI (x)))] := hl
  have hinX0 : ∀ w ∈ u_ws RX0 TX0 5, w ∈ wsX0_acceptsTune := by decide +kernel
  obtain ⟨r0, r1, r2, r3, r4⟩ := id okr
  refine lv_iload_n S.1 S.2.1 dX0_acceptsTune_0 rfl (lv_at hl 1 rfl) ?_
  refine k_SI (rest := []) S hK hl.1 hW (KFr.nil hW hA) (mX0_digitOf l D c  _ x (by first | omega | exact hx | assumption | (show x < 128; omega) | rfl)) gX0_acceptsTune_X0_digitOf rfl pdX0_digitOf ⟨⟨rfl, rfl⟩, Nat.le_of_ble_eq_true rfl, Nat.le_of_ble_eq_true rfl⟩ rfl (Nat.le_of_ble_eq_true rfl) dX0_acceptsTune_1 ⟨Nat.le_of_ble_eq_true rfl, Nat.le_of_ble_eq_true rfl⟩ (fun H locs hW => ?_)
  have hW : kw D A s.heap (wR a ρ) H locs := hW
  rcases dgO_c x with hd | hd
  · refine k_top (y := nI (x - 48)) (congrArg nI hd.2) ?_
    refine lv_istore_n (lv' := [(2, .int (nI (x - 48))), (0, .ref (a 0)), (1, .int (nI (x)))]) S.1 S.2.1 dX0_acceptsTune_4 rfl hl (by decide) rfl (fun ls hl => ?_)
    refine lv_iload_n S.1 S.2.1 dX0_acceptsTune_5 rfl (lv_at hl 0 rfl) ?_
    refine kz_lt S (tgt := 14) dX0_acceptsTune_6 (by decide) (by omega) ?_
    refine lv_iload_n S.1 S.2.1 dX0_acceptsTune_9 rfl (lv_at hl 0 rfl) ?_
    refine lv_iconst (v := nI (3)) S.1 S.2.1 dX0_acceptsTune_10 rfl ?_
    refine kn_lt S (tgt := 16) dX0_acceptsTune_11 (by decide) (by omega) (by omega) (fun c_11 => ?_) (fun c_11 => ?_)
    · have hs : a0R ρ x = some (pu (pu ρ 1 (kc (x - 48))) 0 (kc 1)) := if_pos (by omega)
      refine lv_aload_n S.1 S.2.1 dX0_acceptsTune_16 rfl (lv_at hl 1 rfl) ?_
      refine lv_iload_n S.1 S.2.1 dX0_acceptsTune_17 rfl (lv_at hl 0 rfl) ?_
      refine kx_put S hK hW hinX0 tyX0_ok nmX0 0 0 rfl rfl 1 (by decide) (List.mem_of_getElem? (i := 1) rfl) rfl (v := .int (nI (x - 48))) rfl rfl (Nat.le_of_ble_eq_true rfl) dX0_acceptsTune_18 (fun H locs hW => ?_)
      have hW : kw D A s.heap (wR a (pu ρ 1 (kc (x - 48)))) H locs := hW
      refine lv_aload_n S.1 S.2.1 dX0_acceptsTune_21 rfl (lv_at hl 1 rfl) ?_
      refine lv_iconst (v := nI (1)) S.1 S.2.1 dX0_acceptsTune_22 rfl ?_
      refine k_VI (rest := []) S hK hl.1 hW (KFr.all hW hA) (mX0_goTo l D c a ((pu ρ 1 (kc (x - 48)))) _ 1 (by first | omega | exact hn | assumption | (show 1 < 8; omega) | rfl)) gX0_acceptsTune_X0_goTo rfl pdX0_goTo ⟨⟨rfl, rfl⟩, Nat.le_of_ble_eq_true rfl, Nat.le_of_ble_eq_true rfl⟩ 0 0 rfl rfl rfl rfl (Nat.le_of_ble_eq_true rfl) dX0_acceptsTune_23 ⟨Nat.le_of_ble_eq_true rfl, Nat.le_of_ble_eq_true rfl⟩ (fun H locs hW => ?_)
      have hW : kw D A s.heap (wR a (pu (pu ρ 1 (kc (x - 48))) 0 (kc (1)))) H locs := hW
      exact hret 26 _ _ _ _ _ dX0_acceptsTune_26 hW (by rw [hs] <;> rfl) (congrArg (wR a) (by rw [hs] <;> rfl))
    · have hs : a0R ρ x = none := if_neg (by omega)
      refine lv_iconst (v := nI (0)) S.1 S.2.1 dX0_acceptsTune_14 rfl ?_
      exact hret 15 _ _ _ _ _ dX0_acceptsTune_15 hW (by rw [hs] <;> rfl) (congrArg (wR a) (by rw [hs] <;> rfl))
  · refine k_top (y := nI (4294967295)) (congrArg nI hd.2) ?_
    refine lv_istore_n (lv' := [(2, .int (nI (4294967295))), (0, .ref (a 0)), (1, .int (nI (x)))]) S.1 S.2.1 dX0_acceptsTune_4 rfl hl (by decide) rfl (fun ls hl => ?_)
    refine lv_iload_n S.1 S.2.1 dX0_acceptsTune_5 rfl (lv_at hl 0 rfl) ?_
    refine lv_if_lt (tgt := 14) S.1 S.2.1 dX0_acceptsTune_6 (by decide) (fun c_6 => ?_) (fun c_6 => ?_)
    · have hs : a0R ρ x = none := if_neg (by omega)
      refine lv_iconst (v := nI (0)) S.1 S.2.1 dX0_acceptsTune_14 rfl ?_
      exact hret 15 _ _ _ _ _ dX0_acceptsTune_15 hW (by rw [hs] <;> rfl) (congrArg (wR a) (by rw [hs] <;> rfl))
    · exact absurd c_6 (by decide)
abbrev rmX0_acceptsToothDigit : Room := { frames := 1, cells := 0, slots := 0, locals := 21 }
theorem pdX0_acceptsToothDigit : kPd yX0_acceptsToothDigit 1 := by decide +kernel
set_option maxHeartbeats 400000 in
set_option maxRecDepth 100000 in
theorem mX0_acceptsToothDigit (l : Launch) (D : va_G) (c : Nat → ClassId) (a : Nat → Nat) (ρ : Nat → Nat → Nat) (sz : Nat) (x : Nat) (hx : x < 128) (okr : okR ρ) : MI l yX0_acceptsToothDigit wsX0_acceptsToothDigit rmX0_acceptsToothDigit D c sz (wR a ρ) [.ref (a 0), .int (nI (x))] (nI ((a2R ρ x).isSome).toNat) (wR a (((a2R ρ x).getD ρ))) := by
  refine MI.of (cc := cX0_acceptsToothDigit) (maxL := 3) (ty := .boolean) (by decide) rfl (Nat.le_of_ble_eq_true rfl) (k_narB _) ?_
  intro P e s m below meth cd A Q ls hsz S hK hW hA hl hret
  have hl : lv_has ls 3 [(0, .ref (a 0)), (1, .int (nI (x)))] := hl
  have hinX0 : ∀ w ∈ u_ws RX0 TX0 5, w ∈ wsX0_acceptsToothDigit := by decide +kernel
  obtain ⟨r0, r1, r2, r3, r4⟩ := id okr
  refine lv_iload_n S.1 S.2.1 dX0_acceptsToothDigit_0 rfl (lv_at hl 1 rfl) ?_
  refine k_SI (rest := []) S hK hl.1 hW (KFr.nil hW hA) (mX0_digitOf l D c  _ x (by first | omega | exact hx | assumption | (show x < 128; omega) | rfl)) gX0_acceptsToothDigit_X0_digitOf rfl pdX0_digitOf ⟨⟨rfl, rfl⟩, Nat.le_of_ble_eq_true rfl, Nat.le_of_ble_eq_true rfl⟩ rfl (Nat.le_of_ble_eq_true rfl) dX0_acceptsToothDigit_1 ⟨Nat.le_of_ble_eq_true rfl, Nat.le_of_ble_eq_true rfl⟩ (fun H locs hW => ?_)
  have hW : kw D A s.heap (wR a ρ) H locs := hW
  rcases dgO_c x with hd | hd
  · have hs : a2R ρ x = some (pu (pu ρ 2 (kc (x - 48))) 0 (kc 3)) := if_pos hd.1
    refine k_top (y := nI (x - 48)) (congrArg nI hd.2) ?_
    refine lv_istore_n (lv' := [(2, .int (nI (x - 48))), (0, .ref (a 0)), (1, .int (nI (x)))]) S.1 S.2.1 dX0_acceptsToothDigit_4 rfl hl (by decide) rfl (fun ls hl => ?_)
    refine lv_iload_n S.1 S.2.1 dX0_acceptsToothDigit_5 rfl (lv_at hl 0 rfl) ?_
    refine kz_ge S (tgt := 11) dX0_acceptsToothDigit_6 (by decide) (by omega) ?_
    refine lv_aload_n S.1 S.2.1 dX0_acceptsToothDigit_11 rfl (lv_at hl 1 rfl) ?_
    refine lv_iload_n S.1 S.2.1 dX0_acceptsToothDigit_12 rfl (lv_at hl 0 rfl) ?_
    refine kx_put S hK hW hinX0 tyX0_ok nmX0 0 0 rfl rfl 2 (by decide) (List.mem_of_getElem? (i := 1) rfl) rfl (v := .int (nI (x - 48))) rfl rfl (Nat.le_of_ble_eq_true rfl) dX0_acceptsToothDigit_13 (fun H locs hW => ?_)
    have hW : kw D A s.heap (wR a (pu ρ 2 (kc (x - 48)))) H locs := hW
    refine lv_aload_n S.1 S.2.1 dX0_acceptsToothDigit_16 rfl (lv_at hl 1 rfl) ?_
    refine lv_iconst (v := nI (3)) S.1 S.2.1 dX0_acceptsToothDigit_17 rfl ?_
    refine k_VI (rest := []) S hK hl.1 hW (KFr.all hW hA) (mX0_goTo l D c a ((pu ρ 2 (kc (x - 48)))) _ 3 (by first | omega | exact hn | assumption | (show 3 < 8; omega) | rfl)) gX0_acceptsToothDigit_X0_goTo rfl pdX0_goTo ⟨⟨rfl, rfl⟩, Nat.le_of_ble_eq_true rfl, Nat.le_of_ble_eq_true rfl⟩ 0 0 rfl rfl rfl rfl (Nat.le_of_ble_eq_true rfl) dX0_acceptsToothDigit_18 ⟨Nat.le_of_ble_eq_true rfl, Nat.le_of_ble_eq_true rfl⟩ (fun H locs hW => ?_)
    have hW : kw D A s.heap (wR a (pu (pu ρ 2 (kc (x - 48))) 0 (kc (3)))) H locs := hW
    exact hret 21 _ _ _ _ _ dX0_acceptsToothDigit_21 hW (by rw [hs] <;> rfl) (congrArg (wR a) (by rw [hs] <;> rfl))
  · have hs : a2R ρ x = none := if_neg hd.1
    refine k_top (y := nI (4294967295)) (congrArg nI hd.2) ?_
    refine lv_istore_n (lv' := [(2, .int (nI (4294967295))), (0, .ref (a 0)), (1, .int (nI (x)))]) S.1 S.2.1 dX0_acceptsToothDigit_4 rfl hl (by decide) rfl (fun ls hl => ?_)
    refine lv_iload_n S.1 S.2.1 dX0_acceptsToothDigit_5 rfl (lv_at hl 0 rfl) ?_
    refine lv_if_ge (tgt := 11) S.1 S.2.1 dX0_acceptsToothDigit_6 (by decide) (fun c_6 => ?_) (fun c_6 => ?_)
    · exact absurd c_6 (by decide)
    · refine lv_iconst (v := nI (0)) S.1 S.2.1 dX0_acceptsToothDigit_9 rfl ?_
      exact hret 10 _ _ _ _ _ dX0_acceptsToothDigit_10 hW (by rw [hs] <;> rfl) (congrArg (wR a) (by rw [hs] <;> rfl))
abbrev rmX0_acceptsStepDigit : Room := { frames := 1, cells := 0, slots := 0, locals := 21 }
theorem pdX0_acceptsStepDigit : kPd yX0_acceptsStepDigit 1 := by decide +kernel
set_option maxHeartbeats 400000 in
set_option maxRecDepth 100000 in
theorem mX0_acceptsStepDigit (l : Launch) (D : va_G) (c : Nat → ClassId) (a : Nat → Nat) (ρ : Nat → Nat → Nat) (sz : Nat) (x : Nat) (hx : x < 128) (okr : okR ρ) : MI l yX0_acceptsStepDigit wsX0_acceptsStepDigit rmX0_acceptsStepDigit D c sz (wR a ρ) [.ref (a 0), .int (nI (x))] (nI ((a4R ρ x).isSome).toNat) (wR a (((a4R ρ x).getD ρ))) := by
  refine MI.of (cc := cX0_acceptsStepDigit) (maxL := 3) (ty := .boolean) (by decide) rfl (Nat.le_of_ble_eq_true rfl) (k_narB _) ?_
  intro P e s m below meth cd A Q ls hsz S hK hW hA hl hret
  have hl : lv_has ls 3 [(0, .ref (a 0)), (1, .int (nI (x)))] := hl
  have hinX0 : ∀ w ∈ u_ws RX0 TX0 5, w ∈ wsX0_acceptsStepDigit := by decide +kernel
  obtain ⟨r0, r1, r2, r3, r4⟩ := id okr
  refine lv_iload_n S.1 S.2.1 dX0_acceptsStepDigit_0 rfl (lv_at hl 1 rfl) ?_
  refine k_SI (rest := []) S hK hl.1 hW (KFr.nil hW hA) (mX0_digitOf l D c  _ x (by first | omega | exact hx | assumption | (show x < 128; omega) | rfl)) gX0_acceptsStepDigit_X0_digitOf rfl pdX0_digitOf ⟨⟨rfl, rfl⟩, Nat.le_of_ble_eq_true rfl, Nat.le_of_ble_eq_true rfl⟩ rfl (Nat.le_of_ble_eq_true rfl) dX0_acceptsStepDigit_1 ⟨Nat.le_of_ble_eq_true rfl, Nat.le_of_ble_eq_true rfl⟩ (fun H locs hW => ?_)
  have hW : kw D A s.heap (wR a ρ) H locs := hW
  rcases dgO_c x with hd | hd
  · have hs : a4R ρ x = some (pu (pu ρ 4 (kc (x - 48))) 0 (kc 5)) := if_pos hd.1
    refine k_top (y := nI (x - 48)) (congrArg nI hd.2) ?_
    refine lv_istore_n (lv' := [(2, .int (nI (x - 48))), (0, .ref (a 0)), (1, .int (nI (x)))]) S.1 S.2.1 dX0_acceptsStepDigit_4 rfl hl (by decide) rfl (fun ls hl => ?_)
    refine lv_iload_n S.1 S.2.1 dX0_acceptsStepDigit_5 rfl (lv_at hl 0 rfl) ?_
    refine kz_ge S (tgt := 11) dX0_acceptsStepDigit_6 (by decide) (by omega) ?_
    refine lv_aload_n S.1 S.2.1 dX0_acceptsStepDigit_11 rfl (lv_at hl 1 rfl) ?_
    refine lv_iload_n S.1 S.2.1 dX0_acceptsStepDigit_12 rfl (lv_at hl 0 rfl) ?_
    refine kx_put S hK hW hinX0 tyX0_ok nmX0 0 0 rfl rfl 4 (by decide) (List.mem_of_getElem? (i := 1) rfl) rfl (v := .int (nI (x - 48))) rfl rfl (Nat.le_of_ble_eq_true rfl) dX0_acceptsStepDigit_13 (fun H locs hW => ?_)
    have hW : kw D A s.heap (wR a (pu ρ 4 (kc (x - 48)))) H locs := hW
    refine lv_aload_n S.1 S.2.1 dX0_acceptsStepDigit_16 rfl (lv_at hl 1 rfl) ?_
    refine lv_iconst (v := nI (5)) S.1 S.2.1 dX0_acceptsStepDigit_17 rfl ?_
    refine k_VI (rest := []) S hK hl.1 hW (KFr.all hW hA) (mX0_goTo l D c a ((pu ρ 4 (kc (x - 48)))) _ 5 (by first | omega | exact hn | assumption | (show 5 < 8; omega) | rfl)) gX0_acceptsStepDigit_X0_goTo rfl pdX0_goTo ⟨⟨rfl, rfl⟩, Nat.le_of_ble_eq_true rfl, Nat.le_of_ble_eq_true rfl⟩ 0 0 rfl rfl rfl rfl (Nat.le_of_ble_eq_true rfl) dX0_acceptsStepDigit_18 ⟨Nat.le_of_ble_eq_true rfl, Nat.le_of_ble_eq_true rfl⟩ (fun H locs hW => ?_)
    have hW : kw D A s.heap (wR a (pu (pu ρ 4 (kc (x - 48))) 0 (kc (5)))) H locs := hW
    exact hret 21 _ _ _ _ _ dX0_acceptsStepDigit_21 hW (by rw [hs] <;> rfl) (congrArg (wR a) (by rw [hs] <;> rfl))
  · have hs : a4R ρ x = none := if_neg hd.1
    refine k_top (y := nI (4294967295)) (congrArg nI hd.2) ?_
    refine lv_istore_n (lv' := [(2, .int (nI (4294967295))), (0, .ref (a 0)), (1, .int (nI (x)))]) S.1 S.2.1 dX0_acceptsStepDigit_4 rfl hl (by decide) rfl (fun ls hl => ?_)
    refine lv_iload_n S.1 S.2.1 dX0_acceptsStepDigit_5 rfl (lv_at hl 0 rfl) ?_
    refine lv_if_ge (tgt := 11) S.1 S.2.1 dX0_acceptsStepDigit_6 (by decide) (fun c_6 => ?_) (fun c_6 => ?_)
    · exact absurd c_6 (by decide)
    · refine lv_iconst (v := nI (0)) S.1 S.2.1 dX0_acceptsStepDigit_9 rfl ?_
      exact hret 10 _ _ _ _ _ dX0_acceptsStepDigit_10 hW (by rw [hs] <;> rfl) (congrArg (wR a) (by rw [hs] <;> rfl))
abbrev rmX0_acceptsToothEnd : Room := { frames := 2, cells := 0, slots := 0, locals := 42 }
theorem pdX0_acceptsToothEnd : kPd yX0_acceptsToothEnd 1 := by decide +kernel
set_option maxHeartbeats 400000 in
set_option maxRecDepth 100000 in
theorem mX0_acceptsToothEnd (l : Launch) (D : va_G) (c : Nat → ClassId) (a : Nat → Nat) (ρ : Nat → Nat → Nat) (sz : Nat) (x : Nat) (hx : x < 128) (okr : okR ρ) : MI l yX0_acceptsToothEnd wsX0_acceptsToothEnd rmX0_acceptsToothEnd D c sz (wR a ρ) [.ref (a 0), .int (nI (x))] (nI ((a3R ρ x).isSome).toNat) (wR a (((a3R ρ x).getD ρ))) := by
  refine MI.of (cc := cX0_acceptsToothEnd) (maxL := 3) (ty := .boolean) (by decide) rfl (Nat.le_of_ble_eq_true rfl) (k_narB _) ?_
  intro P e s m below meth cd A Q ls hsz S hK hW hA hl hret
  have hl : lv_has ls 3 [(0, .ref (a 0)), (1, .int (nI (x)))] := hl
  have hinX0 : ∀ w ∈ u_ws RX0 TX0 5, w ∈ wsX0_acceptsToothEnd := by decide +kernel
  obtain ⟨r0, r1, r2, r3, r4⟩ := id okr
  refine lv_aload_n S.1 S.2.1 dX0_acceptsToothEnd_0 rfl (lv_at hl 0 rfl) ?_
  refine kx_get S hK hW hinX0 0 0 rfl rfl 2 (by decide) (List.mem_of_getElem? (i := 1) rfl) (v := .int (nI (ρ 2 0))) rfl dX0_acceptsToothEnd_1 ?_
  refine lv_iload_n S.1 S.2.1 dX0_acceptsToothEnd_4 rfl (lv_at hl 1 rfl) ?_
  refine k_SI (rest := []) S hK hl.1 hW (KFr.nil hW hA) (mX0_lengthened l D c  _ (ρ 2 0) x (by first | omega | exact hn | assumption | (show (ρ 2 0) < 100; omega) | rfl) (by first | omega | exact hx | assumption | (show x < 128; omega) | rfl)) gX0_acceptsToothEnd_X0_lengthened rfl pdX0_lengthened ⟨⟨rfl, rfl⟩, Nat.le_of_ble_eq_true rfl, Nat.le_of_ble_eq_true rfl⟩ rfl (Nat.le_of_ble_eq_true rfl) dX0_acceptsToothEnd_5 ⟨Nat.le_of_ble_eq_true rfl, Nat.le_of_ble_eq_true rfl⟩ (fun H locs hW => ?_)
  have hW : kw D A s.heap (wR a ρ) H locs := hW
  rcases lnO_c (ρ 2 0) x with hd | hd
  · refine k_top (y := nI (ρ 2 0 * 10 + (x - 48))) (congrArg nI hd.2) ?_
    refine lv_istore_n (lv' := [(2, .int (nI (ρ 2 0 * 10 + (x - 48)))), (0, .ref (a 0)), (1, .int (nI (x)))]) S.1 S.2.1 dX0_acceptsToothEnd_8 rfl hl (by decide) rfl (fun ls hl => ?_)
    refine lv_iload_n S.1 S.2.1 dX0_acceptsToothEnd_9 rfl (lv_at hl 0 rfl) ?_
    refine kz_lt S (tgt := 19) dX0_acceptsToothEnd_10 (by decide) (by omega) ?_
    refine lv_iload_n S.1 S.2.1 dX0_acceptsToothEnd_13 rfl (lv_at hl 0 rfl) ?_
    refine lv_bipush (v := nI (12)) S.1 S.2.1 dX0_acceptsToothEnd_14 rfl ?_
    refine kn_lt S (tgt := 21) dX0_acceptsToothEnd_16 (by decide) (by omega) (by omega) (fun c_16 => ?_) (fun c_16 => ?_)
    · have hs : a3R ρ x = some (pu ρ 2 (kc (ρ 2 0 * 10 + (x - 48)))) := if_pos ⟨hd.1, c_16⟩
      refine lv_aload_n S.1 S.2.1 dX0_acceptsToothEnd_21 rfl (lv_at hl 1 rfl) ?_
      refine lv_iload_n S.1 S.2.1 dX0_acceptsToothEnd_22 rfl (lv_at hl 0 rfl) ?_
      refine kx_put S hK hW hinX0 tyX0_ok nmX0 0 0 rfl rfl 2 (by decide) (List.mem_of_getElem? (i := 1) rfl) rfl (v := .int (nI (ρ 2 0 * 10 + (x - 48)))) rfl rfl (Nat.le_of_ble_eq_true rfl) dX0_acceptsToothEnd_23 (fun H locs hW => ?_)
      have hW : kw D A s.heap (wR a (pu ρ 2 (kc (ρ 2 0 * 10 + (x - 48))))) H locs := hW
      refine lv_iconst (v := nI (1)) S.1 S.2.1 dX0_acceptsToothEnd_26 rfl ?_
      exact hret 27 _ _ _ _ _ dX0_acceptsToothEnd_27 hW (by rw [hs] <;> rfl) (congrArg (wR a) (by rw [hs] <;> rfl))
    · have hs : a3R ρ x = none := if_neg (fun h => by omega)
      refine lv_iconst (v := nI (0)) S.1 S.2.1 dX0_acceptsToothEnd_19 rfl ?_
      exact hret 20 _ _ _ _ _ dX0_acceptsToothEnd_20 hW (by rw [hs] <;> rfl) (congrArg (wR a) (by rw [hs] <;> rfl))
  · refine k_top (y := nI (4294967295)) (congrArg nI hd.2) ?_
    refine lv_istore_n (lv' := [(2, .int (nI (4294967295))), (0, .ref (a 0)), (1, .int (nI (x)))]) S.1 S.2.1 dX0_acceptsToothEnd_8 rfl hl (by decide) rfl (fun ls hl => ?_)
    refine lv_iload_n S.1 S.2.1 dX0_acceptsToothEnd_9 rfl (lv_at hl 0 rfl) ?_
    refine lv_if_lt (tgt := 19) S.1 S.2.1 dX0_acceptsToothEnd_10 (by decide) (fun c_10 => ?_) (fun c_10 => ?_)
    · have hs : a3R ρ x = none := if_neg (fun h => hd.1 h.1)
      refine lv_iconst (v := nI (0)) S.1 S.2.1 dX0_acceptsToothEnd_19 rfl ?_
      exact hret 20 _ _ _ _ _ dX0_acceptsToothEnd_20 hW (by rw [hs] <;> rfl) (congrArg (wR a) (by rw [hs] <;> rfl))
    · exact absurd c_10 (by decide)
abbrev rmX0_acceptsRange : Room := { frames := 1, cells := 0, slots := 0, locals := 21 }
theorem pdX0_acceptsRange : kPd yX0_acceptsRange 0 := by decide +kernel
set_option maxHeartbeats 400000 in
set_option maxRecDepth 100000 in
theorem mX0_acceptsRange (l : Launch) (D : va_G) (c : Nat → ClassId) (a : Nat → Nat) (ρ : Nat → Nat → Nat) (sz : Nat) (okr : okR ρ) : MI l yX0_acceptsRange wsX0_acceptsRange rmX0_acceptsRange D c sz (wR a ρ) [.ref (a 0)] (nI ((rgR ρ).isSome).toNat) (wR a (((rgR ρ).getD ρ))) := by
  refine MI.of (cc := cX0_acceptsRange) (maxL := 1) (ty := .boolean) (by decide) rfl (Nat.le_of_ble_eq_true rfl) (k_narB _) ?_
  intro P e s m below meth cd A Q ls hsz S hK hW hA hl hret
  have hl : lv_has ls 1 [(0, .ref (a 0))] := hl
  have hinX0 : ∀ w ∈ u_ws RX0 TX0 5, w ∈ wsX0_acceptsRange := by decide +kernel
  obtain ⟨r0, r1, r2, r3, r4⟩ := id okr
  refine lv_aload_n S.1 S.2.1 dX0_acceptsRange_0 rfl (lv_at hl 0 rfl) ?_
  refine kx_get S hK hW hinX0 0 0 rfl rfl 4 (by decide) (List.mem_of_getElem? (i := 1) rfl) (v := .int (nI (ρ 4 0))) rfl dX0_acceptsRange_1 ?_
  refine lv_bipush (v := nI (31)) S.1 S.2.1 dX0_acceptsRange_4 rfl ?_
  refine kn_lt S (tgt := 11) dX0_acceptsRange_6 (by decide) (by omega) (by omega) (fun c_6 => ?_) (fun c_6 => ?_)
  · have hs : rgR ρ = some (pu (pu ρ 3 (kc (ρ 4 0))) 0 (kc 6)) := if_pos c_6
    refine lv_aload_n S.1 S.2.1 dX0_acceptsRange_11 rfl (lv_at hl 0 rfl) ?_
    refine lv_aload_n S.1 S.2.1 dX0_acceptsRange_12 rfl (lv_at hl 0 rfl) ?_
    refine kx_get S hK hW hinX0 0 0 rfl rfl 4 (by decide) (List.mem_of_getElem? (i := 1) rfl) (v := .int (nI (ρ 4 0))) rfl dX0_acceptsRange_13 ?_
    refine kx_put S hK hW hinX0 tyX0_ok nmX0 0 0 rfl rfl 3 (by decide) (List.mem_of_getElem? (i := 2) rfl) rfl (v := .int (nI (ρ 4 0))) rfl rfl (Nat.le_of_ble_eq_true rfl) dX0_acceptsRange_16 (fun H locs hW => ?_)
    have hW : kw D A s.heap (wR a (pu ρ 3 (kc (ρ 4 0)))) H locs := hW
    refine lv_aload_n S.1 S.2.1 dX0_acceptsRange_19 rfl (lv_at hl 0 rfl) ?_
    refine lv_bipush (v := nI (6)) S.1 S.2.1 dX0_acceptsRange_20 rfl ?_
    refine k_VI (rest := []) S hK hl.1 hW (KFr.all hW hA) (mX0_goTo l D c a ((pu ρ 3 (kc (ρ 4 0)))) _ 6 (by first | omega | exact hn | assumption | (show 6 < 8; omega) | rfl)) gX0_acceptsRange_X0_goTo rfl pdX0_goTo ⟨⟨rfl, rfl⟩, Nat.le_of_ble_eq_true rfl, Nat.le_of_ble_eq_true rfl⟩ 0 0 rfl rfl rfl rfl (Nat.le_of_ble_eq_true rfl) dX0_acceptsRange_22 ⟨Nat.le_of_ble_eq_true rfl, Nat.le_of_ble_eq_true rfl⟩ (fun H locs hW => ?_)
    have hW : kw D A s.heap (wR a (pu (pu ρ 3 (kc (ρ 4 0))) 0 (kc (6)))) H locs := hW
    exact hret 25 _ _ _ _ _ dX0_acceptsRange_25 hW (by rw [hs] <;> rfl) (congrArg (wR a) (by rw [hs] <;> rfl))
  · have hs : rgR ρ = none := if_neg (by omega)
    refine lv_iconst (v := nI (0)) S.1 S.2.1 dX0_acceptsRange_9 rfl ?_
    exact hret 10 _ _ _ _ _ dX0_acceptsRange_10 hW (by rw [hs] <;> rfl) (congrArg (wR a) (by rw [hs] <;> rfl))
abbrev rmX0_acceptsBehindStep : Room := { frames := 2, cells := 0, slots := 0, locals := 42 }
theorem pdX0_acceptsBehindStep : kPd yX0_acceptsBehindStep 1 := by decide +kernel
set_option maxHeartbeats 400000 in
set_option maxRecDepth 100000 in
theorem mX0_acceptsBehindStep (l : Launch) (D : va_G) (c : Nat → ClassId) (a : Nat → Nat) (ρ : Nat → Nat → Nat) (sz : Nat) (x : Nat) (hx : x < 128) (okr : okR ρ) : MI l yX0_acceptsBehindStep wsX0_acceptsBehindStep rmX0_acceptsBehindStep D c sz (wR a ρ) [.ref (a 0), .int (nI (x))] (nI ((a5R ρ x).isSome).toNat) (wR a (((a5R ρ x).getD ρ))) := by
  refine MI.of (cc := cX0_acceptsBehindStep) (maxL := 3) (ty := .boolean) (by decide) rfl (Nat.le_of_ble_eq_true rfl) (k_narB _) ?_
  intro P e s m below meth cd A Q ls hsz S hK hW hA hl hret
  have hl : lv_has ls 3 [(0, .ref (a 0)), (1, .int (nI (x)))] := hl
  have hinX0 : ∀ w ∈ u_ws RX0 TX0 5, w ∈ wsX0_acceptsBehindStep := by decide +kernel
  obtain ⟨r0, r1, r2, r3, r4⟩ := id okr
  refine lv_iload_n S.1 S.2.1 dX0_acceptsBehindStep_0 rfl (lv_at hl 1 rfl) ?_
  refine k_SI (rest := []) S hK hl.1 hW (KFr.nil hW hA) (mX0_isSeparator l D c  _ x (by first | omega | exact hx | assumption | (show x < 128; omega) | rfl)) gX0_acceptsBehindStep_X0_isSeparator rfl pdX0_isSeparator ⟨⟨rfl, rfl⟩, Nat.le_of_ble_eq_true rfl, Nat.le_of_ble_eq_true rfl⟩ rfl (Nat.le_of_ble_eq_true rfl) dX0_acceptsBehindStep_1 ⟨Nat.le_of_ble_eq_true rfl, Nat.le_of_ble_eq_true rfl⟩ (fun H locs hW => ?_)
  have hW : kw D A s.heap (wR a ρ) H locs := hW
  refine kb_eq S (tgt := 13) dX0_acceptsBehindStep_4 (by decide) (fun c_4 => ?_) (fun c_4 => ?_)
  · have h0 : a5R ρ x = if x = 45 then rgR ρ else s5R ρ x := if_neg (by rw [c_4]; decide)
    refine lv_iload_n S.1 S.2.1 dX0_acceptsBehindStep_13 rfl (lv_at hl 1 rfl) ?_
    refine lv_bipush (v := nI (45)) S.1 S.2.1 dX0_acceptsBehindStep_14 rfl ?_
    refine kn_ne S (tgt := 24) dX0_acceptsBehindStep_16 (by decide) (by omega) (by omega) (fun c_16 => ?_) (fun c_16 => ?_)
    · have h1 : a5R ρ x = s5R ρ x := h0.trans (if_neg c_16)
      refine lv_aload_n S.1 S.2.1 dX0_acceptsBehindStep_24 rfl (lv_at hl 0 rfl) ?_
      refine kx_get S hK hW hinX0 0 0 rfl rfl 4 (by decide) (List.mem_of_getElem? (i := 1) rfl) (v := .int (nI (ρ 4 0))) rfl dX0_acceptsBehindStep_25 ?_
      refine lv_iload_n S.1 S.2.1 dX0_acceptsBehindStep_28 rfl (lv_at hl 1 rfl) ?_
      refine k_SI (rest := []) S hK hl.1 hW (KFr.nil hW hA) (mX0_lengthened l D c  _ (ρ 4 0) x (by first | omega | exact hn | assumption | (show (ρ 4 0) < 100; omega) | rfl) (by first | omega | exact hx | assumption | (show x < 128; omega) | rfl)) gX0_acceptsBehindStep_X0_lengthened rfl pdX0_lengthened ⟨⟨rfl, rfl⟩, Nat.le_of_ble_eq_true rfl, Nat.le_of_ble_eq_true rfl⟩ rfl (Nat.le_of_ble_eq_true rfl) dX0_acceptsBehindStep_29 ⟨Nat.le_of_ble_eq_true rfl, Nat.le_of_ble_eq_true rfl⟩ (fun H locs hW => ?_)
      have hW : kw D A s.heap (wR a ρ) H locs := hW
      rcases lnO_c (ρ 4 0) x with hd | hd
      · refine k_top (y := nI (ρ 4 0 * 10 + (x - 48))) (congrArg nI hd.2) ?_
        refine lv_istore_n (lv' := [(2, .int (nI (ρ 4 0 * 10 + (x - 48)))), (0, .ref (a 0)), (1, .int (nI (x)))]) S.1 S.2.1 dX0_acceptsBehindStep_32 rfl hl (by decide) rfl (fun ls hl => ?_)
        refine lv_iload_n S.1 S.2.1 dX0_acceptsBehindStep_33 rfl (lv_at hl 0 rfl) ?_
        refine kz_lt S (tgt := 43) dX0_acceptsBehindStep_34 (by decide) (by omega) ?_
        refine lv_iload_n S.1 S.2.1 dX0_acceptsBehindStep_37 rfl (lv_at hl 0 rfl) ?_
        refine lv_bipush (v := nI (32)) S.1 S.2.1 dX0_acceptsBehindStep_38 rfl ?_
        refine kn_lt S (tgt := 45) dX0_acceptsBehindStep_40 (by decide) (by omega) (by omega) (fun c_40 => ?_) (fun c_40 => ?_)
        · have hs : a5R ρ x = some (pu ρ 4 (kc (ρ 4 0 * 10 + (x - 48)))) := h1.trans (if_pos ⟨hd.1, c_40⟩)
          refine lv_aload_n S.1 S.2.1 dX0_acceptsBehindStep_45 rfl (lv_at hl 1 rfl) ?_
          refine lv_iload_n S.1 S.2.1 dX0_acceptsBehindStep_46 rfl (lv_at hl 0 rfl) ?_
          refine kx_put S hK hW hinX0 tyX0_ok nmX0 0 0 rfl rfl 4 (by decide) (List.mem_of_getElem? (i := 1) rfl) rfl (v := .int (nI (ρ 4 0 * 10 + (x - 48)))) rfl rfl (Nat.le_of_ble_eq_true rfl) dX0_acceptsBehindStep_47 (fun H locs hW => ?_)
          have hW : kw D A s.heap (wR a (pu ρ 4 (kc (ρ 4 0 * 10 + (x - 48))))) H locs := hW
          refine lv_iconst (v := nI (1)) S.1 S.2.1 dX0_acceptsBehindStep_50 rfl ?_
          exact hret 51 _ _ _ _ _ dX0_acceptsBehindStep_51 hW (by rw [hs] <;> rfl) (congrArg (wR a) (by rw [hs] <;> rfl))
        · have hs : a5R ρ x = none := h1.trans (if_neg (fun h => by omega))
          refine lv_iconst (v := nI (0)) S.1 S.2.1 dX0_acceptsBehindStep_43 rfl ?_
          exact hret 44 _ _ _ _ _ dX0_acceptsBehindStep_44 hW (by rw [hs] <;> rfl) (congrArg (wR a) (by rw [hs] <;> rfl))
      · refine k_top (y := nI (4294967295)) (congrArg nI hd.2) ?_
        refine lv_istore_n (lv' := [(2, .int (nI (4294967295))), (0, .ref (a 0)), (1, .int (nI (x)))]) S.1 S.2.1 dX0_acceptsBehindStep_32 rfl hl (by decide) rfl (fun ls hl => ?_)
        refine lv_iload_n S.1 S.2.1 dX0_acceptsBehindStep_33 rfl (lv_at hl 0 rfl) ?_
        refine lv_if_lt (tgt := 43) S.1 S.2.1 dX0_acceptsBehindStep_34 (by decide) (fun c_34 => ?_) (fun c_34 => ?_)
        · have hs : a5R ρ x = none := h1.trans (if_neg (fun h => hd.1 h.1))
          refine lv_iconst (v := nI (0)) S.1 S.2.1 dX0_acceptsBehindStep_43 rfl ?_
          exact hret 44 _ _ _ _ _ dX0_acceptsBehindStep_44 hW (by rw [hs] <;> rfl) (congrArg (wR a) (by rw [hs] <;> rfl))
        · exact absurd c_34 (by decide)
    · have hs : a5R ρ x = rgR ρ := h0.trans (if_pos c_16)
      refine lv_aload_n S.1 S.2.1 dX0_acceptsBehindStep_19 rfl (lv_at hl 0 rfl) ?_
      refine k_VI (rest := []) S hK hl.1 hW (KFr.all hW hA) (mX0_acceptsRange l D c a ρ _ (by first | omega | exact okr | assumption | (show okR ρ; omega) | rfl)) gX0_acceptsBehindStep_X0_acceptsRange rfl pdX0_acceptsRange ⟨⟨rfl, rfl⟩, Nat.le_of_ble_eq_true rfl, Nat.le_of_ble_eq_true rfl⟩ 0 0 rfl rfl rfl rfl (Nat.le_of_ble_eq_true rfl) dX0_acceptsBehindStep_20 ⟨Nat.le_of_ble_eq_true rfl, Nat.le_of_ble_eq_true rfl⟩ (fun H locs hW => ?_)
      have hW : kw D A s.heap (wR a (((rgR ρ).getD ρ))) H locs := hW
      exact hret 23 _ _ _ _ _ dX0_acceptsBehindStep_23 hW (by rw [hs] <;> rfl) (congrArg (wR a) (by rw [hs] <;> rfl))
  · have hs : a5R ρ x = some (spR ρ x) := if_pos c_4
    refine lv_aload_n S.1 S.2.1 dX0_acceptsBehindStep_7 rfl (lv_at hl 0 rfl) ?_
    refine lv_iload_n S.1 S.2.1 dX0_acceptsBehindStep_8 rfl (lv_at hl 1 rfl) ?_
    refine k_VI (rest := []) S hK hl.1 hW (KFr.all hW hA) (mX0_acceptsSeparator l D c a ρ _ x (by first | omega | exact hx | assumption | (show x < 128; omega) | rfl)) gX0_acceptsBehindStep_X0_acceptsSeparator rfl pdX0_acceptsSeparator ⟨⟨rfl, rfl⟩, Nat.le_of_ble_eq_true rfl, Nat.le_of_ble_eq_true rfl⟩ 0 0 rfl rfl rfl rfl (Nat.le_of_ble_eq_true rfl) dX0_acceptsBehindStep_9 ⟨Nat.le_of_ble_eq_true rfl, Nat.le_of_ble_eq_true rfl⟩ (fun H locs hW => ?_)
    have hW : kw D A s.heap (wR a (spR ρ x)) H locs := hW
    exact hret 12 _ _ _ _ _ dX0_acceptsBehindStep_12 hW (by rw [hs] <;> rfl) (congrArg (wR a) (by rw [hs] <;> rfl))
abbrev rmX0_acceptsRangeEndDigit : Room := { frames := 2, cells := 0, slots := 0, locals := 42 }
theorem pdX0_acceptsRangeEndDigit : kPd yX0_acceptsRangeEndDigit 1 := by decide +kernel
set_option maxHeartbeats 400000 in
set_option maxRecDepth 100000 in
theorem mX0_acceptsRangeEndDigit (l : Launch) (D : va_G) (c : Nat → ClassId) (a : Nat → Nat) (ρ : Nat → Nat → Nat) (sz : Nat) (x : Nat) (hx : x < 128) (okr : okR ρ) : MI l yX0_acceptsRangeEndDigit wsX0_acceptsRangeEndDigit rmX0_acceptsRangeEndDigit D c sz (wR a ρ) [.ref (a 0), .int (nI (x))] (nI ((a6R ρ x).isSome).toNat) (wR a (((a6R ρ x).getD ρ))) := by
  refine MI.of (cc := cX0_acceptsRangeEndDigit) (maxL := 3) (ty := .boolean) (by decide) rfl (Nat.le_of_ble_eq_true rfl) (k_narB _) ?_
  intro P e s m below meth cd A Q ls hsz S hK hW hA hl hret
  have hl : lv_has ls 3 [(0, .ref (a 0)), (1, .int (nI (x)))] := hl
  have hinX0 : ∀ w ∈ u_ws RX0 TX0 5, w ∈ wsX0_acceptsRangeEndDigit := by decide +kernel
  obtain ⟨r0, r1, r2, r3, r4⟩ := id okr
  refine lv_iload_n S.1 S.2.1 dX0_acceptsRangeEndDigit_0 rfl (lv_at hl 1 rfl) ?_
  refine k_SI (rest := []) S hK hl.1 hW (KFr.nil hW hA) (mX0_digitOf l D c  _ x (by first | omega | exact hx | assumption | (show x < 128; omega) | rfl)) gX0_acceptsRangeEndDigit_X0_digitOf rfl pdX0_digitOf ⟨⟨rfl, rfl⟩, Nat.le_of_ble_eq_true rfl, Nat.le_of_ble_eq_true rfl⟩ rfl (Nat.le_of_ble_eq_true rfl) dX0_acceptsRangeEndDigit_1 ⟨Nat.le_of_ble_eq_true rfl, Nat.le_of_ble_eq_true rfl⟩ (fun H locs hW => ?_)
  have hW : kw D A s.heap (wR a ρ) H locs := hW
  rcases dgO_c x with hd | hd
  · refine k_top (y := nI (x - 48)) (congrArg nI hd.2) ?_
    refine lv_istore_n (lv' := [(2, .int (nI (x - 48))), (0, .ref (a 0)), (1, .int (nI (x)))]) S.1 S.2.1 dX0_acceptsRangeEndDigit_4 rfl hl (by decide) rfl (fun ls hl => ?_)
    refine lv_iload_n S.1 S.2.1 dX0_acceptsRangeEndDigit_5 rfl (lv_at hl 0 rfl) ?_
    refine kz_lt S (tgt := 20) dX0_acceptsRangeEndDigit_6 (by decide) (by omega) ?_
    refine lv_iload_n S.1 S.2.1 dX0_acceptsRangeEndDigit_9 rfl (lv_at hl 0 rfl) ?_
    refine k_SI (rest := []) S hK hl.1 hW (KFr.nil hW hA) (mX0_greatestFrom l D c  _ (x - 48) (by first | omega | exact hd | assumption | (show (x - 48) < 10; omega) | rfl)) gX0_acceptsRangeEndDigit_X0_greatestFrom rfl pdX0_greatestFrom ⟨⟨rfl, rfl⟩, Nat.le_of_ble_eq_true rfl, Nat.le_of_ble_eq_true rfl⟩ rfl (Nat.le_of_ble_eq_true rfl) dX0_acceptsRangeEndDigit_10 ⟨Nat.le_of_ble_eq_true rfl, Nat.le_of_ble_eq_true rfl⟩ (fun H locs hW => ?_)
    have hW : kw D A s.heap (wR a ρ) H locs := hW
    refine lv_aload_n S.1 S.2.1 dX0_acceptsRangeEndDigit_13 rfl (lv_at hl 1 rfl) ?_
    refine kx_get S hK hW hinX0 0 0 rfl rfl 3 (by decide) (List.mem_of_getElem? (i := 1) rfl) (v := .int (nI (ρ 3 0))) rfl dX0_acceptsRangeEndDigit_14 ?_
    refine kn_gt S (tgt := 22) dX0_acceptsRangeEndDigit_17 (by decide) (Nat.lt_of_le_of_lt (grF_le _ (by omega)) (by decide)) (by omega) (fun c_17 => ?_) (fun c_17 => ?_)
    · have hs : a6R ρ x = some (pu (pu ρ 4 (kc (x - 48))) 0 (kc 7)) := if_pos ⟨hd.1, c_17⟩
      refine lv_aload_n S.1 S.2.1 dX0_acceptsRangeEndDigit_22 rfl (lv_at hl 1 rfl) ?_
      refine lv_iload_n S.1 S.2.1 dX0_acceptsRangeEndDigit_23 rfl (lv_at hl 0 rfl) ?_
      refine kx_put S hK hW hinX0 tyX0_ok nmX0 0 0 rfl rfl 4 (by decide) (List.mem_of_getElem? (i := 2) rfl) rfl (v := .int (nI (x - 48))) rfl rfl (Nat.le_of_ble_eq_true rfl) dX0_acceptsRangeEndDigit_24 (fun H locs hW => ?_)
      have hW : kw D A s.heap (wR a (pu ρ 4 (kc (x - 48)))) H locs := hW
      refine lv_aload_n S.1 S.2.1 dX0_acceptsRangeEndDigit_27 rfl (lv_at hl 1 rfl) ?_
      refine lv_bipush (v := nI (7)) S.1 S.2.1 dX0_acceptsRangeEndDigit_28 rfl ?_
      refine k_VI (rest := []) S hK hl.1 hW (KFr.all hW hA) (mX0_goTo l D c a ((pu ρ 4 (kc (x - 48)))) _ 7 (by first | omega | exact hn | assumption | (show 7 < 8; omega) | rfl)) gX0_acceptsRangeEndDigit_X0_goTo rfl pdX0_goTo ⟨⟨rfl, rfl⟩, Nat.le_of_ble_eq_true rfl, Nat.le_of_ble_eq_true rfl⟩ 0 0 rfl rfl rfl rfl (Nat.le_of_ble_eq_true rfl) dX0_acceptsRangeEndDigit_30 ⟨Nat.le_of_ble_eq_true rfl, Nat.le_of_ble_eq_true rfl⟩ (fun H locs hW => ?_)
      have hW : kw D A s.heap (wR a (pu (pu ρ 4 (kc (x - 48))) 0 (kc (7)))) H locs := hW
      exact hret 33 _ _ _ _ _ dX0_acceptsRangeEndDigit_33 hW (by rw [hs] <;> rfl) (congrArg (wR a) (by rw [hs] <;> rfl))
    · have hs : a6R ρ x = none := if_neg (fun h => by omega)
      refine lv_iconst (v := nI (0)) S.1 S.2.1 dX0_acceptsRangeEndDigit_20 rfl ?_
      exact hret 21 _ _ _ _ _ dX0_acceptsRangeEndDigit_21 hW (by rw [hs] <;> rfl) (congrArg (wR a) (by rw [hs] <;> rfl))
  · refine k_top (y := nI (4294967295)) (congrArg nI hd.2) ?_
    refine lv_istore_n (lv' := [(2, .int (nI (4294967295))), (0, .ref (a 0)), (1, .int (nI (x)))]) S.1 S.2.1 dX0_acceptsRangeEndDigit_4 rfl hl (by decide) rfl (fun ls hl => ?_)
    refine lv_iload_n S.1 S.2.1 dX0_acceptsRangeEndDigit_5 rfl (lv_at hl 0 rfl) ?_
    refine lv_if_lt (tgt := 20) S.1 S.2.1 dX0_acceptsRangeEndDigit_6 (by decide) (fun c_6 => ?_) (fun c_6 => ?_)
    · have hs : a6R ρ x = none := if_neg (fun h => hd.1 h.1)
      refine lv_iconst (v := nI (0)) S.1 S.2.1 dX0_acceptsRangeEndDigit_20 rfl ?_
      exact hret 21 _ _ _ _ _ dX0_acceptsRangeEndDigit_21 hW (by rw [hs] <;> rfl) (congrArg (wR a) (by rw [hs] <;> rfl))
    · exact absurd c_6 (by decide)
abbrev rmX0_acceptsBehindRangeEnd : Room := { frames := 2, cells := 0, slots := 0, locals := 42 }
theorem pdX0_acceptsBehindRangeEnd : kPd yX0_acceptsBehindRangeEnd 1 := by decide +kernel
set_option maxHeartbeats 400000 in
set_option maxRecDepth 100000 in
theorem mX0_acceptsBehindRangeEnd (l : Launch) (D : va_G) (c : Nat → ClassId) (a : Nat → Nat) (ρ : Nat → Nat → Nat) (sz : Nat) (x : Nat) (hx : x < 128) (okr : okR ρ) : MI l yX0_acceptsBehindRangeEnd wsX0_acceptsBehindRangeEnd rmX0_acceptsBehindRangeEnd D c sz (wR a ρ) [.ref (a 0), .int (nI (x))] (nI ((a7R ρ x).isSome).toNat) (wR a (((a7R ρ x).getD ρ))) := by
  refine MI.of (cc := cX0_acceptsBehindRangeEnd) (maxL := 3) (ty := .boolean) (by decide) rfl (Nat.le_of_ble_eq_true rfl) (k_narB _) ?_
  intro P e s m below meth cd A Q ls hsz S hK hW hA hl hret
  have hl : lv_has ls 3 [(0, .ref (a 0)), (1, .int (nI (x)))] := hl
  have hinX0 : ∀ w ∈ u_ws RX0 TX0 5, w ∈ wsX0_acceptsBehindRangeEnd := by decide +kernel
  obtain ⟨r0, r1, r2, r3, r4⟩ := id okr
  refine lv_iload_n S.1 S.2.1 dX0_acceptsBehindRangeEnd_0 rfl (lv_at hl 1 rfl) ?_
  refine k_SI (rest := []) S hK hl.1 hW (KFr.nil hW hA) (mX0_isSeparator l D c  _ x (by first | omega | exact hx | assumption | (show x < 128; omega) | rfl)) gX0_acceptsBehindRangeEnd_X0_isSeparator rfl pdX0_isSeparator ⟨⟨rfl, rfl⟩, Nat.le_of_ble_eq_true rfl, Nat.le_of_ble_eq_true rfl⟩ rfl (Nat.le_of_ble_eq_true rfl) dX0_acceptsBehindRangeEnd_1 ⟨Nat.le_of_ble_eq_true rfl, Nat.le_of_ble_eq_true rfl⟩ (fun H locs hW => ?_)
  have hW : kw D A s.heap (wR a ρ) H locs := hW
  refine kb_eq S (tgt := 32) dX0_acceptsBehindRangeEnd_4 (by decide) (fun c_4 => ?_) (fun c_4 => ?_)
  · have h1 : a7R ρ x = s7R ρ x := if_neg (by rw [c_4]; decide)
    refine lv_aload_n S.1 S.2.1 dX0_acceptsBehindRangeEnd_32 rfl (lv_at hl 0 rfl) ?_
    refine kx_get S hK hW hinX0 0 0 rfl rfl 4 (by decide) (List.mem_of_getElem? (i := 1) rfl) (v := .int (nI (ρ 4 0))) rfl dX0_acceptsBehindRangeEnd_33 ?_
    refine lv_iload_n S.1 S.2.1 dX0_acceptsBehindRangeEnd_36 rfl (lv_at hl 1 rfl) ?_
    refine k_SI (rest := []) S hK hl.1 hW (KFr.nil hW hA) (mX0_lengthened l D c  _ (ρ 4 0) x (by first | omega | exact hn | assumption | (show (ρ 4 0) < 100; omega) | rfl) (by first | omega | exact hx | assumption | (show x < 128; omega) | rfl)) gX0_acceptsBehindRangeEnd_X0_lengthened rfl pdX0_lengthened ⟨⟨rfl, rfl⟩, Nat.le_of_ble_eq_true rfl, Nat.le_of_ble_eq_true rfl⟩ rfl (Nat.le_of_ble_eq_true rfl) dX0_acceptsBehindRangeEnd_37 ⟨Nat.le_of_ble_eq_true rfl, Nat.le_of_ble_eq_true rfl⟩ (fun H locs hW => ?_)
    have hW : kw D A s.heap (wR a ρ) H locs := hW
    rcases lnO_c (ρ 4 0) x with hd | hd
    · refine k_top (y := nI (ρ 4 0 * 10 + (x - 48))) (congrArg nI hd.2) ?_
      refine lv_istore_n (lv' := [(2, .int (nI (ρ 4 0 * 10 + (x - 48)))), (0, .ref (a 0)), (1, .int (nI (x)))]) S.1 S.2.1 dX0_acceptsBehindRangeEnd_40 rfl hl (by decide) rfl (fun ls hl => ?_)
      refine lv_iload_n S.1 S.2.1 dX0_acceptsBehindRangeEnd_41 rfl (lv_at hl 0 rfl) ?_
      refine lv_aload_n S.1 S.2.1 dX0_acceptsBehindRangeEnd_42 rfl (lv_at hl 1 rfl) ?_
      refine kx_get S hK hW hinX0 0 0 rfl rfl 3 (by decide) (List.mem_of_getElem? (i := 2) rfl) (v := .int (nI (ρ 3 0))) rfl dX0_acceptsBehindRangeEnd_43 ?_
      refine kn_le S (tgt := 55) dX0_acceptsBehindRangeEnd_46 (by decide) (by omega) (by omega) (fun c_46 => ?_) (fun c_46 => ?_)
      · have hs : a7R ρ x = none := h1.trans (if_neg (fun h => by omega))
        have hs : a7R ρ x = none := by first | exact hs | exact hs7
        refine lv_iconst (v := nI (0)) S.1 S.2.1 dX0_acceptsBehindRangeEnd_55 rfl ?_
        exact hret 56 _ _ _ _ _ dX0_acceptsBehindRangeEnd_56 hW (by rw [hs] <;> rfl) (congrArg (wR a) (by rw [hs] <;> rfl))
      · refine lv_iload_n S.1 S.2.1 dX0_acceptsBehindRangeEnd_49 rfl (lv_at hl 0 rfl) ?_
        refine lv_bipush (v := nI (32)) S.1 S.2.1 dX0_acceptsBehindRangeEnd_50 rfl ?_
        refine kn_lt S (tgt := 57) dX0_acceptsBehindRangeEnd_52 (by decide) (by omega) (by omega) (fun c_52 => ?_) (fun c_52 => ?_)
        · have hs : a7R ρ x = some (pu ρ 4 (kc (ρ 4 0 * 10 + (x - 48)))) := h1.trans (if_pos ⟨hd.1, c_46, c_52⟩)
          refine lv_aload_n S.1 S.2.1 dX0_acceptsBehindRangeEnd_57 rfl (lv_at hl 1 rfl) ?_
          refine lv_iload_n S.1 S.2.1 dX0_acceptsBehindRangeEnd_58 rfl (lv_at hl 0 rfl) ?_
          refine kx_put S hK hW hinX0 tyX0_ok nmX0 0 0 rfl rfl 4 (by decide) (List.mem_of_getElem? (i := 1) rfl) rfl (v := .int (nI (ρ 4 0 * 10 + (x - 48)))) rfl rfl (Nat.le_of_ble_eq_true rfl) dX0_acceptsBehindRangeEnd_59 (fun H locs hW => ?_)
          have hW : kw D A s.heap (wR a (pu ρ 4 (kc (ρ 4 0 * 10 + (x - 48))))) H locs := hW
          refine lv_iconst (v := nI (1)) S.1 S.2.1 dX0_acceptsBehindRangeEnd_62 rfl ?_
          exact hret 63 _ _ _ _ _ dX0_acceptsBehindRangeEnd_63 hW (by rw [hs] <;> rfl) (congrArg (wR a) (by rw [hs] <;> rfl))
        · have hs : a7R ρ x = none := h1.trans (if_neg (fun h => by omega))
          have hs : a7R ρ x = none := by first | exact hs | exact hs7
          refine lv_iconst (v := nI (0)) S.1 S.2.1 dX0_acceptsBehindRangeEnd_55 rfl ?_
          exact hret 56 _ _ _ _ _ dX0_acceptsBehindRangeEnd_56 hW (by rw [hs] <;> rfl) (congrArg (wR a) (by rw [hs] <;> rfl))
    · have hs7 : a7R ρ x = none := h1.trans (if_neg (fun h => hd.1 h.1))
      refine k_top (y := nI (4294967295)) (congrArg nI hd.2) ?_
      refine lv_istore_n (lv' := [(2, .int (nI (4294967295))), (0, .ref (a 0)), (1, .int (nI (x)))]) S.1 S.2.1 dX0_acceptsBehindRangeEnd_40 rfl hl (by decide) rfl (fun ls hl => ?_)
      refine lv_iload_n S.1 S.2.1 dX0_acceptsBehindRangeEnd_41 rfl (lv_at hl 0 rfl) ?_
      refine lv_aload_n S.1 S.2.1 dX0_acceptsBehindRangeEnd_42 rfl (lv_at hl 1 rfl) ?_
      refine kx_get S hK hW hinX0 0 0 rfl rfl 3 (by decide) (List.mem_of_getElem? (i := 2) rfl) (v := .int (nI (ρ 3 0))) rfl dX0_acceptsBehindRangeEnd_43 ?_
      refine kq_le S (tgt := 55) dX0_acceptsBehindRangeEnd_46 (by decide) (by omega) ?_
      have hs : a7R ρ x = none := by first | exact hs | exact hs7
      refine lv_iconst (v := nI (0)) S.1 S.2.1 dX0_acceptsBehindRangeEnd_55 rfl ?_
      exact hret 56 _ _ _ _ _ dX0_acceptsBehindRangeEnd_56 hW (by rw [hs] <;> rfl) (congrArg (wR a) (by rw [hs] <;> rfl))
  · have h0 : a7R ρ x = if ρ 3 0 < ρ 4 0 then some (spR ρ x) else none := if_pos c_4
    refine lv_aload_n S.1 S.2.1 dX0_acceptsBehindRangeEnd_7 rfl (lv_at hl 0 rfl) ?_
    refine kx_get S hK hW hinX0 0 0 rfl rfl 4 (by decide) (List.mem_of_getElem? (i := 1) rfl) (v := .int (nI (ρ 4 0))) rfl dX0_acceptsBehindRangeEnd_8 ?_
    refine lv_aload_n S.1 S.2.1 dX0_acceptsBehindRangeEnd_11 rfl (lv_at hl 0 rfl) ?_
    refine kx_get S hK hW hinX0 0 0 rfl rfl 3 (by decide) (List.mem_of_getElem? (i := 2) rfl) (v := .int (nI (ρ 3 0))) rfl dX0_acceptsBehindRangeEnd_12 ?_
    refine kn_le S (tgt := 30) dX0_acceptsBehindRangeEnd_15 (by decide) (by omega) (by omega) (fun c_15 => ?_) (fun c_15 => ?_)
    · have hs : a7R ρ x = none := h0.trans (if_neg (by omega))
      refine lv_iconst (v := nI (0)) S.1 S.2.1 dX0_acceptsBehindRangeEnd_30 rfl ?_
      exact hret 31 _ _ _ _ _ dX0_acceptsBehindRangeEnd_31 hW (by rw [hs] <;> rfl) (congrArg (wR a) (by rw [hs] <;> rfl))
    · have hs : a7R ρ x = some (spR ρ x) := h0.trans (if_pos c_15)
      refine lv_aload_n S.1 S.2.1 dX0_acceptsBehindRangeEnd_18 rfl (lv_at hl 0 rfl) ?_
      refine lv_iload_n S.1 S.2.1 dX0_acceptsBehindRangeEnd_19 rfl (lv_at hl 1 rfl) ?_
      refine k_VI (rest := []) S hK hl.1 hW (KFr.all hW hA) (mX0_acceptsSeparator l D c a ρ _ x (by first | omega | exact hx | assumption | (show x < 128; omega) | rfl)) gX0_acceptsBehindRangeEnd_X0_acceptsSeparator rfl pdX0_acceptsSeparator ⟨⟨rfl, rfl⟩, Nat.le_of_ble_eq_true rfl, Nat.le_of_ble_eq_true rfl⟩ 0 0 rfl rfl rfl rfl (Nat.le_of_ble_eq_true rfl) dX0_acceptsBehindRangeEnd_20 ⟨Nat.le_of_ble_eq_true rfl, Nat.le_of_ble_eq_true rfl⟩ (fun H locs hW => ?_)
      have hW : kw D A s.heap (wR a (spR ρ x)) H locs := hW
      refine kb_eq S (tgt := 30) dX0_acceptsBehindRangeEnd_23 (by decide) (fun c_23 => ?_) (fun c_23 => ?_)
      · exact absurd ((rfl : true = true).symm.trans c_23) (by decide)
      · refine lv_iconst (v := nI (1)) S.1 S.2.1 dX0_acceptsBehindRangeEnd_26 rfl ?_
        refine lv_goto (tgt := 31) S.1 S.2.1 dX0_acceptsBehindRangeEnd_27 (by decide) ?_
        exact hret 31 _ _ _ _ _ dX0_acceptsBehindRangeEnd_31 hW (by rw [hs] <;> rfl) (congrArg (wR a) (by rw [hs] <;> rfl))
abbrev rmX0_accepts : Room := { frames := 3, cells := 0, slots := 0, locals := 64 }
theorem pdX0_accepts : kPd yX0_accepts 1 := by decide +kernel
set_option maxHeartbeats 400000 in
set_option maxRecDepth 100000 in
theorem mX0_accepts (l : Launch) (D : va_G) (c : Nat → ClassId) (a : Nat → Nat) (ρ : Nat → Nat → Nat) (sz : Nat) (ph : Nat) (x : Nat) (hp : ρ 0 0 = ph) (hx : x < 128) (okr : okR ρ) : MI l yX0_accepts wsX0_accepts rmX0_accepts D c sz (wR a ρ) [.ref (a 0), .int (nI (x))] (nI ((stR ρ x).isSome).toNat) (wR a (((stR ρ x).getD ρ))) := by
  refine MI.of (cc := cX0_accepts) (maxL := 2) (ty := .boolean) (by decide) rfl (Nat.le_of_ble_eq_true rfl) (k_narB _) ?_
  intro P e s m below meth cd A Q ls hsz S hK hW hA hl hret
  have hl : lv_has ls 2 [(0, .ref (a 0)), (1, .int (nI (x)))] := hl
  have hinX0 : ∀ w ∈ u_ws RX0 TX0 5, w ∈ wsX0_accepts := by decide +kernel
  obtain ⟨r0, r1, r2, r3, r4⟩ := id okr
  refine lv_aload_n S.1 S.2.1 dX0_accepts_0 rfl (lv_at hl 0 rfl) ?_
  refine kx_get S hK hW hinX0 0 0 rfl rfl 0 (by decide) (List.mem_of_getElem? (i := 1) rfl) (v := .int (nI (ρ 0 0))) rfl dX0_accepts_1 ?_
  refine k_top (y := nI (ph)) (congrArg nI hp) ?_
  rcases (show ph = 0 ∨ ph = 1 ∨ ph = 2 ∨ ph = 3 ∨ ph = 4 ∨ ph = 5 ∨ ph = 6 ∨ ph = 7 from by omega) with rfl | rfl | rfl | rfl | rfl | rfl | rfl | rfl
  · skip
    refine lv_tableIn (tgt := 48) S.1 S.2.1 dX0_accepts_4 (by decide) (by decide) rfl (by decide) ?_
    have hs : stR ρ x = a0R ρ x := stR_0 hp
    refine lv_aload_n S.1 S.2.1 dX0_accepts_48 rfl (lv_at hl 0 rfl) ?_
    refine lv_iload_n S.1 S.2.1 dX0_accepts_49 rfl (lv_at hl 1 rfl) ?_
    refine k_VI (rest := []) S hK hl.1 hW (KFr.all hW hA) (mX0_acceptsTune l D c a ρ _ x (by first | omega | exact hx | assumption | (show x < 128; omega) | rfl) (by first | omega | exact okr | assumption | (show okR ρ; omega) | rfl)) gX0_accepts_X0_acceptsTune rfl pdX0_acceptsTune ⟨⟨rfl, rfl⟩, Nat.le_of_ble_eq_true rfl, Nat.le_of_ble_eq_true rfl⟩ 0 0 rfl rfl rfl rfl (Nat.le_of_ble_eq_true rfl) dX0_accepts_50 ⟨Nat.le_of_ble_eq_true rfl, Nat.le_of_ble_eq_true rfl⟩ (fun H locs hW => ?_)
    have hW : kw D A s.heap (wR a (((a0R ρ x).getD ρ))) H locs := hW
    exact hret 53 _ _ _ _ _ dX0_accepts_53 hW (by rw [hs] <;> rfl) (congrArg (wR a) (by rw [hs] <;> rfl))
  · skip
    refine lv_tableIn (tgt := 54) S.1 S.2.1 dX0_accepts_4 (by decide) (by decide) rfl (by decide) ?_
    refine lv_iload_n S.1 S.2.1 dX0_accepts_54 rfl (lv_at hl 1 rfl) ?_
    refine lv_bipush (v := nI (47)) S.1 S.2.1 dX0_accepts_55 rfl ?_
    refine kn_ne S (tgt := 72) dX0_accepts_57 (by decide) (by omega) (by omega) (fun c_57 => ?_) (fun c_57 => ?_)
    · have hs : stR ρ x = none := (stR_1 hp).trans (if_neg c_57)
      refine lv_iconst (v := nI (0)) S.1 S.2.1 dX0_accepts_72 rfl ?_
      exact hret 73 _ _ _ _ _ dX0_accepts_73 hW (by rw [hs] <;> rfl) (congrArg (wR a) (by rw [hs] <;> rfl))
    · have hs : stR ρ x = some (goR ρ 2) := (stR_1 hp).trans (if_pos c_57)
      refine lv_aload_n S.1 S.2.1 dX0_accepts_60 rfl (lv_at hl 0 rfl) ?_
      refine lv_iconst (v := nI (2)) S.1 S.2.1 dX0_accepts_61 rfl ?_
      refine k_VI (rest := []) S hK hl.1 hW (KFr.all hW hA) (mX0_goTo l D c a ρ _ 2 (by first | omega | exact hn | assumption | (show 2 < 8; omega) | rfl)) gX0_accepts_X0_goTo rfl pdX0_goTo ⟨⟨rfl, rfl⟩, Nat.le_of_ble_eq_true rfl, Nat.le_of_ble_eq_true rfl⟩ 0 0 rfl rfl rfl rfl (Nat.le_of_ble_eq_true rfl) dX0_accepts_62 ⟨Nat.le_of_ble_eq_true rfl, Nat.le_of_ble_eq_true rfl⟩ (fun H locs hW => ?_)
      have hW : kw D A s.heap (wR a (pu ρ 0 (kc (2)))) H locs := hW
      refine kb_eq S (tgt := 72) dX0_accepts_65 (by decide) (fun c_65 => ?_) (fun c_65 => ?_)
      · exact absurd ((rfl : true = true).symm.trans c_65) (by decide)
      · refine lv_iconst (v := nI (1)) S.1 S.2.1 dX0_accepts_68 rfl ?_
        refine lv_goto (tgt := 73) S.1 S.2.1 dX0_accepts_69 (by decide) ?_
        exact hret 73 _ _ _ _ _ dX0_accepts_73 hW (by rw [hs] <;> rfl) (congrArg (wR a) (by rw [hs] <;> rfl))
  · skip
    refine lv_tableIn (tgt := 74) S.1 S.2.1 dX0_accepts_4 (by decide) (by decide) rfl (by decide) ?_
    have hs : stR ρ x = a2R ρ x := stR_2 hp
    refine lv_aload_n S.1 S.2.1 dX0_accepts_74 rfl (lv_at hl 0 rfl) ?_
    refine lv_iload_n S.1 S.2.1 dX0_accepts_75 rfl (lv_at hl 1 rfl) ?_
    refine k_VI (rest := []) S hK hl.1 hW (KFr.all hW hA) (mX0_acceptsToothDigit l D c a ρ _ x (by first | omega | exact hx | assumption | (show x < 128; omega) | rfl) (by first | omega | exact okr | assumption | (show okR ρ; omega) | rfl)) gX0_accepts_X0_acceptsToothDigit rfl pdX0_acceptsToothDigit ⟨⟨rfl, rfl⟩, Nat.le_of_ble_eq_true rfl, Nat.le_of_ble_eq_true rfl⟩ 0 0 rfl rfl rfl rfl (Nat.le_of_ble_eq_true rfl) dX0_accepts_76 ⟨Nat.le_of_ble_eq_true rfl, Nat.le_of_ble_eq_true rfl⟩ (fun H locs hW => ?_)
    have hW : kw D A s.heap (wR a (((a2R ρ x).getD ρ))) H locs := hW
    exact hret 79 _ _ _ _ _ dX0_accepts_79 hW (by rw [hs] <;> rfl) (congrArg (wR a) (by rw [hs] <;> rfl))
  · skip
    refine lv_tableIn (tgt := 80) S.1 S.2.1 dX0_accepts_4 (by decide) (by decide) rfl (by decide) ?_
    refine lv_iload_n S.1 S.2.1 dX0_accepts_80 rfl (lv_at hl 1 rfl) ?_
    refine lv_bipush (v := nI (58)) S.1 S.2.1 dX0_accepts_81 rfl ?_
    refine kn_ne S (tgt := 94) dX0_accepts_83 (by decide) (by omega) (by omega) (fun c_83 => ?_) (fun c_83 => ?_)
    · have hs : stR ρ x = a3R ρ x := (stR_3 hp).trans (if_neg c_83)
      refine lv_aload_n S.1 S.2.1 dX0_accepts_94 rfl (lv_at hl 0 rfl) ?_
      refine lv_iload_n S.1 S.2.1 dX0_accepts_95 rfl (lv_at hl 1 rfl) ?_
      refine k_VI (rest := []) S hK hl.1 hW (KFr.all hW hA) (mX0_acceptsToothEnd l D c a ρ _ x (by first | omega | exact hx | assumption | (show x < 128; omega) | rfl) (by first | omega | exact okr | assumption | (show okR ρ; omega) | rfl)) gX0_accepts_X0_acceptsToothEnd rfl pdX0_acceptsToothEnd ⟨⟨rfl, rfl⟩, Nat.le_of_ble_eq_true rfl, Nat.le_of_ble_eq_true rfl⟩ 0 0 rfl rfl rfl rfl (Nat.le_of_ble_eq_true rfl) dX0_accepts_96 ⟨Nat.le_of_ble_eq_true rfl, Nat.le_of_ble_eq_true rfl⟩ (fun H locs hW => ?_)
      have hW : kw D A s.heap (wR a (((a3R ρ x).getD ρ))) H locs := hW
      exact hret 99 _ _ _ _ _ dX0_accepts_99 hW (by rw [hs] <;> rfl) (congrArg (wR a) (by rw [hs] <;> rfl))
    · have hs : stR ρ x = some (goR ρ 4) := (stR_3 hp).trans (if_pos c_83)
      refine lv_aload_n S.1 S.2.1 dX0_accepts_86 rfl (lv_at hl 0 rfl) ?_
      refine lv_iconst (v := nI (4)) S.1 S.2.1 dX0_accepts_87 rfl ?_
      refine k_VI (rest := []) S hK hl.1 hW (KFr.all hW hA) (mX0_goTo l D c a ρ _ 4 (by first | omega | exact hn | assumption | (show 4 < 8; omega) | rfl)) gX0_accepts_X0_goTo rfl pdX0_goTo ⟨⟨rfl, rfl⟩, Nat.le_of_ble_eq_true rfl, Nat.le_of_ble_eq_true rfl⟩ 0 0 rfl rfl rfl rfl (Nat.le_of_ble_eq_true rfl) dX0_accepts_88 ⟨Nat.le_of_ble_eq_true rfl, Nat.le_of_ble_eq_true rfl⟩ (fun H locs hW => ?_)
      have hW : kw D A s.heap (wR a (pu ρ 0 (kc (4)))) H locs := hW
      refine lv_goto (tgt := 99) S.1 S.2.1 dX0_accepts_91 (by decide) ?_
      exact hret 99 _ _ _ _ _ dX0_accepts_99 hW (by rw [hs] <;> rfl) (congrArg (wR a) (by rw [hs] <;> rfl))
  · skip
    refine lv_tableIn (tgt := 100) S.1 S.2.1 dX0_accepts_4 (by decide) (by decide) rfl (by decide) ?_
    have hs : stR ρ x = a4R ρ x := stR_4 hp
    refine lv_aload_n S.1 S.2.1 dX0_accepts_100 rfl (lv_at hl 0 rfl) ?_
    refine lv_iload_n S.1 S.2.1 dX0_accepts_101 rfl (lv_at hl 1 rfl) ?_
    refine k_VI (rest := []) S hK hl.1 hW (KFr.all hW hA) (mX0_acceptsStepDigit l D c a ρ _ x (by first | omega | exact hx | assumption | (show x < 128; omega) | rfl) (by first | omega | exact okr | assumption | (show okR ρ; omega) | rfl)) gX0_accepts_X0_acceptsStepDigit rfl pdX0_acceptsStepDigit ⟨⟨rfl, rfl⟩, Nat.le_of_ble_eq_true rfl, Nat.le_of_ble_eq_true rfl⟩ 0 0 rfl rfl rfl rfl (Nat.le_of_ble_eq_true rfl) dX0_accepts_102 ⟨Nat.le_of_ble_eq_true rfl, Nat.le_of_ble_eq_true rfl⟩ (fun H locs hW => ?_)
    have hW : kw D A s.heap (wR a (((a4R ρ x).getD ρ))) H locs := hW
    exact hret 105 _ _ _ _ _ dX0_accepts_105 hW (by rw [hs] <;> rfl) (congrArg (wR a) (by rw [hs] <;> rfl))
  · skip
    refine lv_tableIn (tgt := 106) S.1 S.2.1 dX0_accepts_4 (by decide) (by decide) rfl (by decide) ?_
    have hs : stR ρ x = a5R ρ x := stR_5 hp
    refine lv_aload_n S.1 S.2.1 dX0_accepts_106 rfl (lv_at hl 0 rfl) ?_
    refine lv_iload_n S.1 S.2.1 dX0_accepts_107 rfl (lv_at hl 1 rfl) ?_
    refine k_VI (rest := []) S hK hl.1 hW (KFr.all hW hA) (mX0_acceptsBehindStep l D c a ρ _ x (by first | omega | exact hx | assumption | (show x < 128; omega) | rfl) (by first | omega | exact okr | assumption | (show okR ρ; omega) | rfl)) gX0_accepts_X0_acceptsBehindStep rfl pdX0_acceptsBehindStep ⟨⟨rfl, rfl⟩, Nat.le_of_ble_eq_true rfl, Nat.le_of_ble_eq_true rfl⟩ 0 0 rfl rfl rfl rfl (Nat.le_of_ble_eq_true rfl) dX0_accepts_108 ⟨Nat.le_of_ble_eq_true rfl, Nat.le_of_ble_eq_true rfl⟩ (fun H locs hW => ?_)
    have hW : kw D A s.heap (wR a (((a5R ρ x).getD ρ))) H locs := hW
    exact hret 111 _ _ _ _ _ dX0_accepts_111 hW (by rw [hs] <;> rfl) (congrArg (wR a) (by rw [hs] <;> rfl))
  · skip
    refine lv_tableIn (tgt := 112) S.1 S.2.1 dX0_accepts_4 (by decide) (by decide) rfl (by decide) ?_
    have hs : stR ρ x = a6R ρ x := stR_6 hp
    refine lv_aload_n S.1 S.2.1 dX0_accepts_112 rfl (lv_at hl 0 rfl) ?_
    refine lv_iload_n S.1 S.2.1 dX0_accepts_113 rfl (lv_at hl 1 rfl) ?_
    refine k_VI (rest := []) S hK hl.1 hW (KFr.all hW hA) (mX0_acceptsRangeEndDigit l D c a ρ _ x (by first | omega | exact hx | assumption | (show x < 128; omega) | rfl) (by first | omega | exact okr | assumption | (show okR ρ; omega) | rfl)) gX0_accepts_X0_acceptsRangeEndDigit rfl pdX0_acceptsRangeEndDigit ⟨⟨rfl, rfl⟩, Nat.le_of_ble_eq_true rfl, Nat.le_of_ble_eq_true rfl⟩ 0 0 rfl rfl rfl rfl (Nat.le_of_ble_eq_true rfl) dX0_accepts_114 ⟨Nat.le_of_ble_eq_true rfl, Nat.le_of_ble_eq_true rfl⟩ (fun H locs hW => ?_)
    have hW : kw D A s.heap (wR a (((a6R ρ x).getD ρ))) H locs := hW
    exact hret 117 _ _ _ _ _ dX0_accepts_117 hW (by rw [hs] <;> rfl) (congrArg (wR a) (by rw [hs] <;> rfl))
  · skip
    refine lv_tableOut (tgt := 118) S.1 S.2.1 dX0_accepts_4 (by decide) (by decide) ?_
    have hs : stR ρ x = a7R ρ x := stR_7 hp
    refine lv_aload_n S.1 S.2.1 dX0_accepts_118 rfl (lv_at hl 0 rfl) ?_
    refine lv_iload_n S.1 S.2.1 dX0_accepts_119 rfl (lv_at hl 1 rfl) ?_
    refine k_VI (rest := []) S hK hl.1 hW (KFr.all hW hA) (mX0_acceptsBehindRangeEnd l D c a ρ _ x (by first | omega | exact hx | assumption | (show x < 128; omega) | rfl) (by first | omega | exact okr | assumption | (show okR ρ; omega) | rfl)) gX0_accepts_X0_acceptsBehindRangeEnd rfl pdX0_acceptsBehindRangeEnd ⟨⟨rfl, rfl⟩, Nat.le_of_ble_eq_true rfl, Nat.le_of_ble_eq_true rfl⟩ 0 0 rfl rfl rfl rfl (Nat.le_of_ble_eq_true rfl) dX0_accepts_120 ⟨Nat.le_of_ble_eq_true rfl, Nat.le_of_ble_eq_true rfl⟩ (fun H locs hW => ?_)
    have hW : kw D A s.heap (wR a (((a7R ρ x).getD ρ))) H locs := hW
    exact hret 123 _ _ _ _ _ dX0_accepts_123 hW (by rw [hs] <;> rfl) (congrArg (wR a) (by rw [hs] <;> rfl))
abbrev rmX0_isComplete : Room := { frames := 0, cells := 0, slots := 0, locals := 0 }
theorem pdX0_isComplete : kPd yX0_isComplete 0 := by decide +kernel
set_option maxHeartbeats 400000 in
set_option maxRecDepth 100000 in
theorem mX0_isComplete (l : Launch) (D : va_G) (c : Nat → ClassId) (a : Nat → Nat) (ρ : Nat → Nat → Nat) (sz : Nat) (okr : okR ρ) : MI l yX0_isComplete wsX0_isComplete rmX0_isComplete D c sz (wR a ρ) [.ref (a 0)] (nI ((decide (ρ 0 0 = 5 ∨ (ρ 0 0 = 7 ∧ ρ 3 0 < ρ 4 0)))).toNat) (wR a ρ) := by
  refine MI.of (cc := cX0_isComplete) (maxL := 1) (ty := .boolean) (by decide) rfl (Nat.le_of_ble_eq_true rfl) (k_narB _) ?_
  intro P e s m below meth cd A Q ls hsz S hK hW hA hl hret
  have hl : lv_has ls 1 [(0, .ref (a 0))] := hl
  have hinX0 : ∀ w ∈ u_ws RX0 TX0 5, w ∈ wsX0_isComplete := by decide +kernel
  obtain ⟨r0, r1, r2, r3, r4⟩ := id okr
  refine lv_aload_n S.1 S.2.1 dX0_isComplete_0 rfl (lv_at hl 0 rfl) ?_
  refine kx_get S hK hW hinX0 0 0 rfl rfl 0 (by decide) (List.mem_of_getElem? (i := 1) rfl) (v := .int (nI (ρ 0 0))) rfl dX0_isComplete_1 ?_
  refine lv_iconst (v := nI (5)) S.1 S.2.1 dX0_isComplete_4 rfl ?_
  refine kn_eq S (tgt := 28) dX0_isComplete_5 (by decide) (by omega) (by omega) (fun c_5 => ?_) (fun c_5 => ?_)
  · have hs : decide (ρ 0 0 = 5 ∨ (ρ 0 0 = 7 ∧ ρ 3 0 < ρ 4 0)) = true := decide_eq_true (Or.inl c_5)
    refine lv_iconst (v := nI (1)) S.1 S.2.1 dX0_isComplete_28 rfl ?_
    refine lv_goto (tgt := 33) S.1 S.2.1 dX0_isComplete_29 (by decide) ?_
    exact hret 33 _ _ _ _ _ dX0_isComplete_33 hW (by rw [hs] <;> rfl) (rfl)
  · refine lv_aload_n S.1 S.2.1 dX0_isComplete_8 rfl (lv_at hl 0 rfl) ?_
    refine kx_get S hK hW hinX0 0 0 rfl rfl 0 (by decide) (List.mem_of_getElem? (i := 1) rfl) (v := .int (nI (ρ 0 0))) rfl dX0_isComplete_9 ?_
    refine lv_bipush (v := nI (7)) S.1 S.2.1 dX0_isComplete_12 rfl ?_
    refine kn_ne S (tgt := 32) dX0_isComplete_14 (by decide) (by omega) (by omega) (fun c_14 => ?_) (fun c_14 => ?_)
    · have hs : decide (ρ 0 0 = 5 ∨ (ρ 0 0 = 7 ∧ ρ 3 0 < ρ 4 0)) = false := decide_eq_false (by omega)
      refine lv_iconst (v := nI (0)) S.1 S.2.1 dX0_isComplete_32 rfl ?_
      exact hret 33 _ _ _ _ _ dX0_isComplete_33 hW (by rw [hs] <;> rfl) (rfl)
    · refine lv_aload_n S.1 S.2.1 dX0_isComplete_17 rfl (lv_at hl 0 rfl) ?_
      refine kx_get S hK hW hinX0 0 0 rfl rfl 4 (by decide) (List.mem_of_getElem? (i := 2) rfl) (v := .int (nI (ρ 4 0))) rfl dX0_isComplete_18 ?_
      refine lv_aload_n S.1 S.2.1 dX0_isComplete_21 rfl (lv_at hl 0 rfl) ?_
      refine kx_get S hK hW hinX0 0 0 rfl rfl 3 (by decide) (List.mem_of_getElem? (i := 3) rfl) (v := .int (nI (ρ 3 0))) rfl dX0_isComplete_22 ?_
      refine kn_le S (tgt := 32) dX0_isComplete_25 (by decide) (by omega) (by omega) (fun c_25 => ?_) (fun c_25 => ?_)
      · have hs : decide (ρ 0 0 = 5 ∨ (ρ 0 0 = 7 ∧ ρ 3 0 < ρ 4 0)) = false := decide_eq_false (by omega)
        refine lv_iconst (v := nI (0)) S.1 S.2.1 dX0_isComplete_32 rfl ?_
        exact hret 33 _ _ _ _ _ dX0_isComplete_33 hW (by rw [hs] <;> rfl) (rfl)
      · have hs : decide (ρ 0 0 = 5 ∨ (ρ 0 0 = 7 ∧ ρ 3 0 < ρ 4 0)) = true := decide_eq_true (Or.inr ⟨c_14, c_25⟩)
        refine lv_iconst (v := nI (1)) S.1 S.2.1 dX0_isComplete_28 rfl ?_
        refine lv_goto (tgt := 33) S.1 S.2.1 dX0_isComplete_29 (by decide) ?_
        exact hret 33 _ _ _ _ _ dX0_isComplete_33 hW (by rw [hs] <;> rfl) (rfl)
abbrev rmX0_rangeStart : Room := { frames := 0, cells := 0, slots := 0, locals := 0 }
theorem pdX0_rangeStart : kPd yX0_rangeStart 0 := by decide +kernel
set_option maxHeartbeats 400000 in
set_option maxRecDepth 100000 in
theorem mX0_rangeStart (l : Launch) (D : va_G) (c : Nat → ClassId) (a : Nat → Nat) (ρ : Nat → Nat → Nat) (sz : Nat) (okr : okR ρ) : MI l yX0_rangeStart wsX0_rangeStart rmX0_rangeStart D c sz (wR a ρ) [.ref (a 0)] (nI ((if ρ 0 0 = 7 then ρ 3 0 else ρ 4 0))) (wR a ρ) := by
  refine MI.of (cc := cX0_rangeStart) (maxL := 1) (ty := .int) (by decide) rfl (Nat.le_of_ble_eq_true rfl) rfl ?_
  intro P e s m below meth cd A Q ls hsz S hK hW hA hl hret
  have hl : lv_has ls 1 [(0, .ref (a 0))] := hl
  have hinX0 : ∀ w ∈ u_ws RX0 TX0 5, w ∈ wsX0_rangeStart := by decide +kernel
  obtain ⟨r0, r1, r2, r3, r4⟩ := id okr
  refine lv_aload_n S.1 S.2.1 dX0_rangeStart_0 rfl (lv_at hl 0 rfl) ?_
  refine kx_get S hK hW hinX0 0 0 rfl rfl 0 (by decide) (List.mem_of_getElem? (i := 1) rfl) (v := .int (nI (ρ 0 0))) rfl dX0_rangeStart_1 ?_
  refine lv_bipush (v := nI (7)) S.1 S.2.1 dX0_rangeStart_4 rfl ?_
  refine kn_ne S (tgt := 16) dX0_rangeStart_6 (by decide) (by omega) (by omega) (fun c_6 => ?_) (fun c_6 => ?_)
  · have hs : (if ρ 0 0 = 7 then ρ 3 0 else ρ 4 0) = ρ 4 0 := if_neg c_6
    refine lv_aload_n S.1 S.2.1 dX0_rangeStart_16 rfl (lv_at hl 0 rfl) ?_
    refine kx_get S hK hW hinX0 0 0 rfl rfl 4 (by decide) (List.mem_of_getElem? (i := 3) rfl) (v := .int (nI (ρ 4 0))) rfl dX0_rangeStart_17 ?_
    exact hret 20 _ _ _ _ _ dX0_rangeStart_20 hW (congrArg nI hs.symm) (rfl)
  · have hs : (if ρ 0 0 = 7 then ρ 3 0 else ρ 4 0) = ρ 3 0 := if_pos c_6
    refine lv_aload_n S.1 S.2.1 dX0_rangeStart_9 rfl (lv_at hl 0 rfl) ?_
    refine kx_get S hK hW hinX0 0 0 rfl rfl 3 (by decide) (List.mem_of_getElem? (i := 2) rfl) (v := .int (nI (ρ 3 0))) rfl dX0_rangeStart_10 ?_
    refine lv_goto (tgt := 20) S.1 S.2.1 dX0_rangeStart_13 (by decide) ?_
    exact hret 20 _ _ _ _ _ dX0_rangeStart_20 hW (congrArg nI hs.symm) (rfl)
