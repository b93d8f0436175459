abbrev rmJ6_bitCount_0f7a4 : Room := { frames := 0, cells := 0, slots := 0, locals := 0 }
theorem pdJ6_bitCount_0f7a4 : kPd yJ6_bitCount_0f7a4 1 := by decide +kernel
set_option maxHeartbeats 400000 in
set_option maxRecDepth 100000 in
theorem mJ6_bitCount_0f7a4 (l : Launch) (D : va_G) (c : Nat → ClassId) (sz : Nat) (x : Nat) (hx : x < 4096) : MI l yJ6_bitCount_0f7a4 wsJ6_bitCount_0f7a4 rmJ6_bitCount_0f7a4 D c sz [] [.int (nI (x))] (nI (ones x)) [] := by
  refine MI.of (cc := cJ6_bitCount_0f7a4) (maxL := 1) (ty := .int) (by decide) rfl (Nat.le_of_ble_eq_true rfl) rfl ?_
  intro P e s m below meth cd A Q ls hsz S hK hW hA hl hret
  have hl : lv_has ls 1 [(0, .int (nI (x)))] := hl
  have hb := b_le hx
  refine lv_iload_n S.1 S.2.1 dJ6_bitCount_0f7a4_0 rfl (lv_at hl 0 rfl) ?_
  refine lv_iload_n S.1 S.2.1 dJ6_bitCount_0f7a4_1 rfl (lv_at hl 0 rfl) ?_
  refine lv_iconst (v := nI (1)) S.1 S.2.1 dJ6_bitCount_0f7a4_2 rfl ?_
  refine kn_iushr S dJ6_bitCount_0f7a4_3 (by omega) (by decide +kernel) ?_
  refine lv_ldcw (v := nI (1431655765)) S.1 S.2.1 S.2.2.2.1 (S.2.2.2.2 _ (List.mem_of_getElem? (i := 1) rfl)) dJ6_bitCount_0f7a4_4 ?_
  refine kn_iand S dJ6_bitCount_0f7a4_7 ?_
  refine kn_isub S dJ6_bitCount_0f7a4_8 (Nat.le_trans Nat.and_le_left (Nat.div_le_self _ _)) ?_
  refine k_top (y := nI (b1 x)) (congrArg nI rfl) ?_
  refine lv_istore_n (lv' := [(0, .int (nI (b1 x)))]) S.1 S.2.1 dJ6_bitCount_0f7a4_9 rfl hl (by decide) rfl (fun ls hl => ?_)
  refine lv_iload_n S.1 S.2.1 dJ6_bitCount_0f7a4_10 rfl (lv_at hl 0 rfl) ?_
  refine lv_ldcw (v := nI (858993459)) S.1 S.2.1 S.2.2.2.1 (S.2.2.2.2 _ (List.mem_of_getElem? (i := 2) rfl)) dJ6_bitCount_0f7a4_11 ?_
  refine kn_iand S dJ6_bitCount_0f7a4_14 ?_
  refine lv_iload_n S.1 S.2.1 dJ6_bitCount_0f7a4_15 rfl (lv_at hl 0 rfl) ?_
  refine lv_iconst (v := nI (2)) S.1 S.2.1 dJ6_bitCount_0f7a4_16 rfl ?_
  refine kn_iushr S dJ6_bitCount_0f7a4_17 (by omega) (by decide +kernel) ?_
  refine lv_ldcw (v := nI (858993459)) S.1 S.2.1 S.2.2.2.1 (S.2.2.2.2 _ (List.mem_of_getElem? (i := 2) rfl)) dJ6_bitCount_0f7a4_18 ?_
  refine kn_iand S dJ6_bitCount_0f7a4_21 ?_
  refine kn_iadd S dJ6_bitCount_0f7a4_22 ?_
  refine k_top (y := nI (b2 x)) (congrArg nI rfl) ?_
  refine lv_istore_n (lv' := [(0, .int (nI (b2 x)))]) S.1 S.2.1 dJ6_bitCount_0f7a4_23 rfl hl (by decide) rfl (fun ls hl => ?_)
  refine lv_iload_n S.1 S.2.1 dJ6_bitCount_0f7a4_24 rfl (lv_at hl 0 rfl) ?_
  refine lv_iload_n S.1 S.2.1 dJ6_bitCount_0f7a4_25 rfl (lv_at hl 0 rfl) ?_
  refine lv_iconst (v := nI (4)) S.1 S.2.1 dJ6_bitCount_0f7a4_26 rfl ?_
  refine kn_iushr S dJ6_bitCount_0f7a4_27 (by omega) (by decide +kernel) ?_
  refine kn_iadd S dJ6_bitCount_0f7a4_28 ?_
  refine lv_ldcw (v := nI (252645135)) S.1 S.2.1 S.2.2.2.1 (S.2.2.2.2 _ (List.mem_of_getElem? (i := 3) rfl)) dJ6_bitCount_0f7a4_29 ?_
  refine kn_iand S dJ6_bitCount_0f7a4_32 ?_
  refine k_top (y := nI (b3 x)) (congrArg nI rfl) ?_
  refine lv_istore_n (lv' := [(0, .int (nI (b3 x)))]) S.1 S.2.1 dJ6_bitCount_0f7a4_33 rfl hl (by decide) rfl (fun ls hl => ?_)
  refine lv_iload_n S.1 S.2.1 dJ6_bitCount_0f7a4_34 rfl (lv_at hl 0 rfl) ?_
  refine lv_iload_n S.1 S.2.1 dJ6_bitCount_0f7a4_35 rfl (lv_at hl 0 rfl) ?_
  refine lv_bipush (v := nI (8)) S.1 S.2.1 dJ6_bitCount_0f7a4_36 rfl ?_
  refine kn_iushr S dJ6_bitCount_0f7a4_38 (by omega) (by decide +kernel) ?_
  refine kn_iadd S dJ6_bitCount_0f7a4_39 ?_
  refine k_top (y := nI (b4 x)) (congrArg nI rfl) ?_
  refine lv_istore_n (lv' := [(0, .int (nI (b4 x)))]) S.1 S.2.1 dJ6_bitCount_0f7a4_40 rfl hl (by decide) rfl (fun ls hl => ?_)
  refine lv_iload_n S.1 S.2.1 dJ6_bitCount_0f7a4_41 rfl (lv_at hl 0 rfl) ?_
  refine lv_iload_n S.1 S.2.1 dJ6_bitCount_0f7a4_42 rfl (lv_at hl 0 rfl) ?_
  refine lv_bipush (v := nI (16)) S.1 S.2.1 dJ6_bitCount_0f7a4_43 rfl ?_
  refine kn_iushr S dJ6_bitCount_0f7a4_45 (by omega) (by decide +kernel) ?_
  refine kn_iadd S dJ6_bitCount_0f7a4_46 ?_
  refine k_top (y := nI (b5 x)) (congrArg nI rfl) ?_
  refine lv_istore_n (lv' := [(0, .int (nI (b5 x)))]) S.1 S.2.1 dJ6_bitCount_0f7a4_47 rfl hl (by decide) rfl (fun ls hl => ?_)
  refine lv_iload_n S.1 S.2.1 dJ6_bitCount_0f7a4_48 rfl (lv_at hl 0 rfl) ?_
  refine lv_bipush (v := nI (63)) S.1 S.2.1 dJ6_bitCount_0f7a4_49 rfl ?_
  refine kn_iand S dJ6_bitCount_0f7a4_51 ?_
  refine k_top (y := nI (ones x)) (congrArg nI (b_all hx)) ?_
  exact hret 52 _ _ _ _ _ dJ6_bitCount_0f7a4_52 hW (rfl) (rfl)
abbrev rmJ9_floorMod_7cf53 : Room := { frames := 0, cells := 0, slots := 0, locals := 0 }
theorem pdJ9_floorMod_7cf53 : kPd yJ9_floorMod_7cf53 2 := by decide +kernel
set_option maxHeartbeats 400000 in
set_option maxRecDepth 100000 in
theorem mJ9_floorMod_7cf53_k (l : Launch) (D : va_G) (c : Nat → ClassId) (sz : Nat) (x : Nat) (y : Nat) (hx : x < 2147483648) (h0 : 0 < y) (hy : y < 2147483648) : MI l yJ9_floorMod_7cf53 wsJ9_floorMod_7cf53 rmJ9_floorMod_7cf53 D c sz [] [.int (nI (x)), .int (nI (y))] (nI (x % y)) [] := by
  refine MI.ofF (cc := cJ9_floorMod_7cf53) (maxL := 3) (ty := .int) (by decide +kernel) rfl (Nat.le_of_ble_eq_true rfl) rfl ?_
  intro P e s m below meth cd A Q ls hsz S hK hW hA hl hret
  have hl : lv_has ls 3 [(0, .int (nI (x))), (1, .int (nI (y)))] := hl
  refine lv_iload_n S.1 S.2.1 dJ9_floorMod_7cf53_0 rfl (lv_at hl 0 rfl) ?_
  refine lv_iload_n S.1 S.2.1 dJ9_floorMod_7cf53_1 rfl (lv_at hl 1 rfl) ?_
  refine kn_irem S dJ9_floorMod_7cf53_2 (by omega) (by omega) (by omega) ?_
  refine lv_istore_n (lv' := [(2, .int (nI (x % y))), (0, .int (nI (x))), (1, .int (nI (y)))]) S.1 S.2.1 dJ9_floorMod_7cf53_3 rfl hl (by decide) rfl (fun ls hl => ?_)
  refine lv_iload_n S.1 S.2.1 dJ9_floorMod_7cf53_4 rfl (lv_at hl 1 rfl) ?_
  refine lv_iload_n S.1 S.2.1 dJ9_floorMod_7cf53_5 rfl (lv_at hl 2 rfl) ?_
  refine lv_ixor S.1 S.2.1 dJ9_floorMod_7cf53_6 ?_
  refine lv_if_ge (tgt := 18) S.1 S.2.1 dJ9_floorMod_7cf53_7 (by decide) (fun c_7 => ?_) (fun c_7 => ?_)
  · refine lv_iload_n S.1 S.2.1 dJ9_floorMod_7cf53_18 rfl (lv_at hl 0 rfl) ?_
    exact hret 19 _ _ _ _ _ dJ9_floorMod_7cf53_19 hW (rfl) (rfl)
  · exact absurd (fm_pos hx hy) c_7
set_option maxHeartbeats 400000 in
set_option maxRecDepth 100000 in
theorem mJ9_floorMod_7cf53_m (l : Launch) (D : va_G) (c : Nat → ClassId) (sz : Nat) (u : Nat) (hu : u < 128) : MI l yJ9_floorMod_7cf53 wsJ9_floorMod_7cf53 rmJ9_floorMod_7cf53 D c sz [] [.int (nI u - nI 32), .int (nI (32))] (nI (u % 32)) [] := by
  refine MI.ofF (cc := cJ9_floorMod_7cf53) (maxL := 3) (ty := .int) (by decide +kernel) rfl (Nat.le_of_ble_eq_true rfl) rfl ?_
  intro P e s m below meth cd A Q ls hsz S hK hW hA hl hret
  have hl : lv_has ls 3 [(0, .int (nI u - nI 32)), (1, .int (nI (32)))] := hl
  have key := fm_all u hu
  unfold fmI at key
  refine lv_iload_n S.1 S.2.1 dJ9_floorMod_7cf53_0 rfl (lv_at hl 0 rfl) ?_
  refine lv_iload_n S.1 S.2.1 dJ9_floorMod_7cf53_1 rfl (lv_at hl 1 rfl) ?_
  refine lv_irem S.1 S.2.1 dJ9_floorMod_7cf53_2 (by decide) ?_
  refine lv_istore_n (lv' := [(2, .int ((nI u - nI 32) - (nI u - nI 32) / (nI (32)) * (nI (32)))), (0, .int (nI u - nI 32)), (1, .int (nI (32)))]) S.1 S.2.1 dJ9_floorMod_7cf53_3 rfl hl (by decide) rfl (fun ls hl => ?_)
  refine lv_iload_n S.1 S.2.1 dJ9_floorMod_7cf53_4 rfl (lv_at hl 1 rfl) ?_
  refine lv_iload_n S.1 S.2.1 dJ9_floorMod_7cf53_5 rfl (lv_at hl 2 rfl) ?_
  refine lv_ixor S.1 S.2.1 dJ9_floorMod_7cf53_6 ?_
  refine lv_if_ge (tgt := 18) S.1 S.2.1 dJ9_floorMod_7cf53_7 (by decide) (fun c_7 => ?_) (fun c_7 => ?_)
  · refine lv_iload_n S.1 S.2.1 dJ9_floorMod_7cf53_18 rfl (lv_at hl 0 rfl) ?_
    exact hret 19 _ _ _ _ _ dJ9_floorMod_7cf53_19 hW (by first | (rw [if_pos c_7] at key; exact key) | (rw [if_neg c_7, if_pos c_11] at key; exact key)) (rfl)
  · refine lv_iload_n S.1 S.2.1 dJ9_floorMod_7cf53_10 rfl (lv_at hl 0 rfl) ?_
    refine lv_if_eq (tgt := 18) S.1 S.2.1 dJ9_floorMod_7cf53_11 (by decide) (fun c_11 => ?_) (fun c_11 => ?_)
    · refine lv_iload_n S.1 S.2.1 dJ9_floorMod_7cf53_18 rfl (lv_at hl 0 rfl) ?_
      exact hret 19 _ _ _ _ _ dJ9_floorMod_7cf53_19 hW (by first | (rw [if_pos c_7] at key; exact key) | (rw [if_neg c_7, if_pos c_11] at key; exact key)) (rfl)
    · refine lv_iload_n S.1 S.2.1 dJ9_floorMod_7cf53_14 rfl (lv_at hl 0 rfl) ?_
      refine lv_iload_n S.1 S.2.1 dJ9_floorMod_7cf53_15 rfl (lv_at hl 2 rfl) ?_
      refine lv_iadd S.1 S.2.1 dJ9_floorMod_7cf53_16 ?_
      exact hret 17 _ _ _ _ _ dJ9_floorMod_7cf53_17 hW (by rw [if_neg c_7, if_neg c_11] at key; exact key) (rfl)
abbrev rmX1_around : Room := { frames := 1, cells := 0, slots := 0, locals := 22 }
theorem pdX1_around : kPd yX1_around 1 := by decide +kernel
set_option maxHeartbeats 400000 in
set_option maxRecDepth 100000 in
theorem mX1_around_k (l : Launch) (D : va_G) (c : Nat → ClassId) (sz : Nat) (x : Nat) (hx : x < 2147483648) : MI l yX1_around wsX1_around rmX1_around D c sz [] [.int (nI (x))] (nI (x % 32)) [] := by
  refine MI.of (cc := cX1_around) (maxL := 1) (ty := .int) (by decide) rfl (Nat.le_of_ble_eq_true rfl) rfl ?_
  intro P e s m below meth cd A Q ls hsz S hK hW hA hl hret
  have hl : lv_has ls 1 [(0, .int (nI (x)))] := hl
  refine lv_iload_n S.1 S.2.1 dX1_around_0 rfl (lv_at hl 0 rfl) ?_
  refine lv_bipush (v := nI (32)) S.1 S.2.1 dX1_around_1 rfl ?_
  refine k_SI (rest := []) S hK hl.1 hW (KFr.nil hW hA) (mJ9_floorMod_7cf53_k l D c  _ x 32 (by first | omega | exact hx | assumption | (show x < 2147483648; omega) | rfl) (by first | omega | exact h0 | assumption | (show 0 < 32; omega) | rfl) (by first | omega | exact hy | assumption | (show 32 < 2147483648; omega) | rfl)) gX1_around_J9_floorMod_7cf53 rfl pdJ9_floorMod_7cf53 ⟨⟨rfl, rfl⟩, Nat.le_of_ble_eq_true rfl, Nat.le_of_ble_eq_true rfl⟩ rfl (Nat.le_of_ble_eq_true rfl) dX1_around_3 ⟨Nat.le_of_ble_eq_true rfl, Nat.le_of_ble_eq_true rfl⟩ (fun H locs hW => ?_)
  have hW : kw D A s.heap [] H locs := hW
  exact hret 6 _ _ _ _ _ dX1_around_6 hW (rfl) (rfl)
set_option maxHeartbeats 400000 in
set_option maxRecDepth 100000 in
theorem mX1_around_m (l : Launch) (D : va_G) (c : Nat → ClassId) (sz : Nat) (u : Nat) (hu : u < 128) : MI l yX1_around wsX1_around rmX1_around D c sz [] [.int (nI u - nI 32)] (nI (u % 32)) [] := by
  refine MI.of (cc := cX1_around) (maxL := 1) (ty := .int) (by decide) rfl (Nat.le_of_ble_eq_true rfl) rfl ?_
  intro P e s m below meth cd A Q ls hsz S hK hW hA hl hret
  have hl : lv_has ls 1 [(0, .int (nI u - nI 32))] := hl
  refine lv_iload_n S.1 S.2.1 dX1_around_0 rfl (lv_at hl 0 rfl) ?_
  refine lv_bipush (v := nI (32)) S.1 S.2.1 dX1_around_1 rfl ?_
  refine k_SI (rest := []) S hK hl.1 hW (KFr.nil hW hA) (mJ9_floorMod_7cf53_m l D c  _ u (by first | omega | exact hu | assumption | (show u < 128; omega) | rfl)) gX1_around_J9_floorMod_7cf53 rfl pdJ9_floorMod_7cf53 ⟨⟨rfl, rfl⟩, Nat.le_of_ble_eq_true rfl, Nat.le_of_ble_eq_true rfl⟩ rfl (Nat.le_of_ble_eq_true rfl) dX1_around_3 ⟨Nat.le_of_ble_eq_true rfl, Nat.le_of_ble_eq_true rfl⟩ (fun H locs hW => ?_)
  have hW : kw D A s.heap [] H locs := hW
  exact hret 6 _ _ _ _ _ dX1_around_6 hW (rfl) (rfl)
abbrev rmX1_teethAt : Room := { frames := 0, cells := 0, slots := 0, locals := 0 }
theorem pdX1_teethAt : kPd yX1_teethAt 2 := by decide +kernel
set_option maxHeartbeats 400000 in
set_option maxRecDepth 100000 in
theorem mX1_teethAt (l : Launch) (D : va_G) (c : Nat → ClassId) (a : Nat → Nat) (τ : Nat → Nat → Nat) (sz : Nat) (t : Nat) (p : Nat) (ht : t < 3) (hp : p < 32) : MI l yX1_teethAt wsX1_teethAt rmX1_teethAt D c sz (wS c a τ) [.ref (a 0), .int (nI (t)), .int (nI (p))] (nI (τ 0 (t * 32 + p))) (wS c a τ) := by
  refine MI.of (cc := cX1_teethAt) (maxL := 3) (ty := .int) (by decide) rfl (Nat.le_of_ble_eq_true rfl) rfl ?_
  intro P e s m below meth cd A Q ls hsz S hK hW hA hl hret
  have hl : lv_has ls 3 [(0, .ref (a 0)), (1, .int (nI (t))), (2, .int (nI (p)))] := hl
  have hinX1 : ∀ w ∈ u_ws RX1 TX1 17, w ∈ wsX1_teethAt := by decide +kernel
  refine lv_aload_n S.1 S.2.1 dX1_teethAt_0 rfl (lv_at hl 0 rfl) ?_
  refine kx_get S hK hW hinX1 0 1 rfl rfl 0 (by decide) (List.mem_of_getElem? (i := 1) rfl) (v := .ref (a 1)) rfl dX1_teethAt_1 ?_
  refine lv_iload_n S.1 S.2.1 dX1_teethAt_4 rfl (lv_at hl 1 rfl) ?_
  refine lv_bipush (v := nI (32)) S.1 S.2.1 dX1_teethAt_5 rfl ?_
  refine kn_imul S dX1_teethAt_7 ?_
  refine lv_iload_n S.1 S.2.1 dX1_teethAt_8 rfl (lv_at hl 2 rfl) ?_
  refine kn_iadd S dX1_teethAt_9 ?_
  refine kn_ald S hK hW 1 (f := τ 0) rfl (by omega) (by decide) dX1_teethAt_10 ?_
  exact hret 11 _ _ _ _ _ dX1_teethAt_11 hW (rfl) (rfl)
abbrev rmX1_hasPin : Room := { frames := 1, cells := 0, slots := 0, locals := 22 }
theorem pdX1_hasPin : kPd yX1_hasPin 3 := by decide +kernel
set_option maxHeartbeats 400000 in
set_option maxRecDepth 100000 in
theorem mX1_hasPin (l : Launch) (D : va_G) (c : Nat → ClassId) (a : Nat → Nat) (τ : Nat → Nat → Nat) (sz : Nat) (t : Nat) (j : Nat) (p : Nat) (ht : t < 3) (hj : j < 12) (hp : p < 32) : MI l yX1_hasPin wsX1_hasPin rmX1_hasPin D c sz (wS c a τ) [.ref (a 0), .int (nI (t)), .int (nI (j)), .int (nI (p))] (nI (hb τ t j p).toNat) (wS c a τ) := by
  refine MI.of (cc := cX1_hasPin) (maxL := 4) (ty := .boolean) (by decide) rfl (Nat.le_of_ble_eq_true rfl) (k_narB _) ?_
  intro P e s m below meth cd A Q ls hsz S hK hW hA hl hret
  have hl : lv_has ls 4 [(0, .ref (a 0)), (1, .int (nI (t))), (2, .int (nI (j))), (3, .int (nI (p)))] := hl
  refine lv_aload_n S.1 S.2.1 dX1_hasPin_0 rfl (lv_at hl 0 rfl) ?_
  refine lv_iload_n S.1 S.2.1 dX1_hasPin_1 rfl (lv_at hl 1 rfl) ?_
  refine lv_iload_n S.1 S.2.1 dX1_hasPin_2 rfl (lv_at hl 3 rfl) ?_
  refine k_VI (rest := []) S hK hl.1 hW (KFr.all hW hA) (mX1_teethAt l D c a τ _ t p (by first | omega | exact ht | assumption | (show t < 3; omega) | rfl) (by first | omega | exact hp | assumption | (show p < 32; omega) | rfl)) gX1_hasPin_X1_teethAt rfl pdX1_teethAt ⟨⟨rfl, rfl⟩, Nat.le_of_ble_eq_true rfl, Nat.le_of_ble_eq_true rfl⟩ 0 1 rfl rfl rfl rfl (Nat.le_of_ble_eq_true rfl) dX1_hasPin_3 ⟨Nat.le_of_ble_eq_true rfl, Nat.le_of_ble_eq_true rfl⟩ (fun H locs hW => ?_)
  have hW : kw D A s.heap (wS c a τ) H locs := hW
  refine lv_iload_n S.1 S.2.1 dX1_hasPin_6 rfl (lv_at hl 2 rfl) ?_
  refine lv_ishr S.1 S.2.1 dX1_hasPin_7 ?_
  refine lv_iconst (v := nI (1)) S.1 S.2.1 dX1_hasPin_8 rfl ?_
  refine kn_tbit S (by omega) dX1_hasPin_9 ?_
  refine k_top (y := nI ((hb τ t j p).toNat)) (rfl) ?_
  refine kb_eq S (tgt := 17) dX1_hasPin_10 (by decide) (fun c_10 => ?_) (fun c_10 => ?_)
  · refine lv_iconst (v := nI (0)) S.1 S.2.1 dX1_hasPin_17 rfl ?_
    exact hret 18 _ _ _ _ _ dX1_hasPin_18 hW (by rw [c_10]; rfl) (rfl)
  · refine lv_iconst (v := nI (1)) S.1 S.2.1 dX1_hasPin_13 rfl ?_
    refine lv_goto (tgt := 18) S.1 S.2.1 dX1_hasPin_14 (by decide) ?_
    exact hret 18 _ _ _ _ _ dX1_hasPin_18 hW (by rw [c_10]; rfl) (rfl)
abbrev rmX1_putPin : Room := { frames := 0, cells := 0, slots := 0, locals := 0 }
theorem pdX1_putPin : kPd yX1_putPin 3 := by decide +kernel
set_option maxHeartbeats 400000 in
set_option maxRecDepth 100000 in
theorem mX1_putPin (l : Launch) (D : va_G) (c : Nat → ClassId) (a : Nat → Nat) (τ : Nat → Nat → Nat) (sz : Nat) (t : Nat) (j : Nat) (p : Nat) (ht : t < 3) (hj : j < 12) (hp : p < 32) : MV l yX1_putPin wsX1_putPin rmX1_putPin D c sz (wS c a τ) [.ref (a 0), .int (nI (t)), .int (nI (j)), .int (nI (p))]  (wS c a (pu τ 0 (fu (τ 0) (t * 32 + p) (τ 0 (t * 32 + p) ||| 2 ^ j)))) := by
  refine MV.of (cc := cX1_putPin) (maxL := 4) (by decide) rfl (Nat.le_of_ble_eq_true rfl) ?_
  intro P e s m below meth cd A Q ls hsz S hK hW hA hl hret
  have hl : lv_has ls 4 [(0, .ref (a 0)), (1, .int (nI (t))), (2, .int (nI (j))), (3, .int (nI (p)))] := hl
  have hinX1 : ∀ w ∈ u_ws RX1 TX1 17, w ∈ wsX1_putPin := by decide +kernel
  refine lv_aload_n S.1 S.2.1 dX1_putPin_0 rfl (lv_at hl 0 rfl) ?_
  refine kx_get S hK hW hinX1 0 1 rfl rfl 0 (by decide) (List.mem_of_getElem? (i := 1) rfl) (v := .ref (a 1)) rfl dX1_putPin_1 ?_
  refine lv_iload_n S.1 S.2.1 dX1_putPin_4 rfl (lv_at hl 1 rfl) ?_
  refine lv_bipush (v := nI (32)) S.1 S.2.1 dX1_putPin_5 rfl ?_
  refine kn_imul S dX1_putPin_7 ?_
  refine lv_iload_n S.1 S.2.1 dX1_putPin_8 rfl (lv_at hl 3 rfl) ?_
  refine kn_iadd S dX1_putPin_9 ?_
  refine lv_dup2_11 S.1 S.2.1 dX1_putPin_10 rfl rfl ?_
  refine kn_ald S hK hW 1 (f := τ 0) rfl (by omega) (by decide) dX1_putPin_11 ?_
  refine lv_iconst (v := nI (1)) S.1 S.2.1 dX1_putPin_12 rfl ?_
  refine lv_iload_n S.1 S.2.1 dX1_putPin_13 rfl (lv_at hl 2 rfl) ?_
  refine kn_shl1 S dX1_putPin_14 (by omega) ?_
  refine kn_ior S dX1_putPin_15 ?_
  refine kn_ast S hK hW 1 (f := τ 0) rfl (by omega) (by decide) dX1_putPin_16 (fun H locs hW => ?_)
  have hW : kw D A s.heap (wS c a (pu τ 0 (fu (τ 0) (t * 32 + p) ((τ 0 (t * 32 + p)) ||| (2 ^ j))))) H locs := hW
  exact hret 17 _ _ _ _ dX1_putPin_17 hW (rfl)
abbrev rmX1_hindrance : Room := { frames := 2, cells := 0, slots := 0, locals := 45 }
theorem pdX1_hindrance : kPd yX1_hindrance 3 := by decide +kernel
set_option maxHeartbeats 400000 in
set_option maxRecDepth 100000 in
theorem mX1_hindrance (l : Launch) (D : va_G) (c : Nat → ClassId) (a : Nat → Nat) (τ : Nat → Nat → Nat) (sz : Nat) (t : Nat) (j : Nat) (p : Nat) (T : Nat) (ht : t < 3) (hj : j < 12) (hp : p < 32) (ok : okS τ T) : MI l yX1_hindrance wsX1_hindrance rmX1_hindrance D c sz (wS c a τ) [.ref (a 0), .int (nI (t)), .int (nI (j)), .int (nI (p))] (nI (hiS' τ t j p)) (wS c a τ) := by
  refine MI.of (cc := cX1_hindrance) (maxL := 5) (ty := .int) (by decide) rfl (Nat.le_of_ble_eq_true rfl) rfl ?_
  intro P e s m below meth cd A Q ls hsz S hK hW hA hl hret
  have hl : lv_has ls 5 [(0, .ref (a 0)), (1, .int (nI (t))), (2, .int (nI (j))), (3, .int (nI (p)))] := hl
  have hinX1 : ∀ w ∈ u_ws RX1 TX1 17, w ∈ wsX1_hindrance := by decide +kernel
  obtain ⟨ok0, -, -, ⟨-, -, -, ok3, ok4⟩, -⟩ := id ok
  have hc := ok0 (t * 32 + p) (by omega)
  have h1 := ones_le (τ 0 (t * 32 + p))
  refine lv_aload_n S.1 S.2.1 dX1_hindrance_0 rfl (lv_at hl 0 rfl) ?_
  refine lv_iload_n S.1 S.2.1 dX1_hindrance_1 rfl (lv_at hl 1 rfl) ?_
  refine lv_iload_n S.1 S.2.1 dX1_hindrance_2 rfl (lv_at hl 2 rfl) ?_
  refine lv_iload_n S.1 S.2.1 dX1_hindrance_3 rfl (lv_at hl 3 rfl) ?_
  refine k_VI (rest := []) S hK hl.1 hW (KFr.all hW hA) (mX1_hasPin l D c a τ _ t j p (by first | omega | exact ht | assumption | (show t < 3; omega) | rfl) (by first | omega | exact hj | assumption | (show j < 12; omega) | rfl) (by first | omega | exact hp | assumption | (show p < 32; omega) | rfl)) gX1_hindrance_X1_hasPin rfl pdX1_hasPin ⟨⟨rfl, rfl⟩, Nat.le_of_ble_eq_true rfl, Nat.le_of_ble_eq_true rfl⟩ 0 1 rfl rfl rfl rfl (Nat.le_of_ble_eq_true rfl) dX1_hindrance_4 ⟨Nat.le_of_ble_eq_true rfl, Nat.le_of_ble_eq_true rfl⟩ (fun H locs hW => ?_)
  have hW : kw D A s.heap (wS c a τ) H locs := hW
  refine kb_eq S (tgt := 12) dX1_hindrance_7 (by decide) (fun c_7 => ?_) (fun c_7 => ?_)
  · refine lv_iconst (v := nI (1)) S.1 S.2.1 dX1_hindrance_12 rfl ?_
    refine lv_istore (lv' := [(4, .int (nI (1))), (0, .ref (a 0)), (1, .int (nI (t))), (2, .int (nI (j))), (3, .int (nI (p)))]) S.1 S.2.1 dX1_hindrance_13 hl (by decide) rfl (fun ls hl => ?_)
    refine k_loop (fun (zz : Nat) H lo ls => match zz with | k => kw D A s.heap (wS c a τ) H lo ∧ lv_has ls 5 [(0, .ref (a 0)), (1, .int (nI (t))), (2, .int (nI (j))), (3, .int (nI (p))), (4, .int (nI (1 + k)))] ∧ k ≤ τ 6 3 - 1 ∧ nrS τ t j p k = false) (fun (zz : Nat) => match zz with | k => 8 - k) [] ?_ 0 _ _ _ ⟨hW, lv_sub hl [1, 2, 3, 4, 0] rfl, (Nat.zero_le _), rfl⟩
    rintro k ih15 H locs ls ⟨hW, hl, hi15_0, hi15_1⟩
    refine lv_iload S.1 S.2.1 dX1_hindrance_15 (lv_at hl 4 rfl) ?_
    refine lv_aload_n S.1 S.2.1 dX1_hindrance_17 rfl (lv_at hl 0 rfl) ?_
    refine kx_get S hK hW hinX1 0 1 rfl rfl 6 (by decide) (List.mem_of_getElem? (i := 1) rfl) (v := .ref (a 7)) rfl dX1_hindrance_18 ?_
    refine lv_iconst (v := nI (3)) S.1 S.2.1 dX1_hindrance_21 rfl ?_
    refine kn_ald S hK hW 7 (f := τ 6) rfl (by omega) (by decide) dX1_hindrance_22 ?_
    refine kn_ge S (tgt := 66) dX1_hindrance_23 (by decide) (by omega) (by omega) (fun c_23 => ?_) (fun c_23 => ?_)
    · have e9 : k = τ 6 3 - 1 := by omega
      refine lv_aload_n S.1 S.2.1 dX1_hindrance_66 rfl (lv_at hl 0 rfl) ?_
      refine lv_iload_n S.1 S.2.1 dX1_hindrance_67 rfl (lv_at hl 1 rfl) ?_
      refine lv_iload_n S.1 S.2.1 dX1_hindrance_68 rfl (lv_at hl 3 rfl) ?_
      refine k_VI (rest := []) S hK hl.1 hW (KFr.all hW hA) (mX1_teethAt l D c a τ _ t p (by first | omega | exact ht | assumption | (show t < 3; omega) | rfl) (by first | omega | exact hp | assumption | (show p < 32; omega) | rfl)) gX1_hindrance_X1_teethAt rfl pdX1_teethAt ⟨⟨rfl, rfl⟩, Nat.le_of_ble_eq_true rfl, Nat.le_of_ble_eq_true rfl⟩ 0 1 rfl rfl rfl rfl (Nat.le_of_ble_eq_true rfl) dX1_hindrance_69 ⟨Nat.le_of_ble_eq_true rfl, Nat.le_of_ble_eq_true rfl⟩ (fun H locs hW => ?_)
      have hW : kw D A s.heap (wS c a τ) H locs := hW
      refine k_SI (rest := []) S hK hl.1 hW (KFr.nil hW hA) (mJ6_bitCount_0f7a4 l D c  _ (τ 0 (t * 32 + p)) (by first | omega | exact hx | assumption | (show (τ 0 (t * 32 + p)) < 4096; omega) | rfl)) gX1_hindrance_J6_bitCount_0f7a4 rfl pdJ6_bitCount_0f7a4 ⟨⟨rfl, rfl⟩, Nat.le_of_ble_eq_true rfl, Nat.le_of_ble_eq_true rfl⟩ rfl (Nat.le_of_ble_eq_true rfl) dX1_hindrance_72 ⟨Nat.le_of_ble_eq_true rfl, Nat.le_of_ble_eq_true rfl⟩ (fun H locs hW => ?_)
      have hW : kw D A s.heap (wS c a τ) H locs := hW
      refine lv_aload_n S.1 S.2.1 dX1_hindrance_75 rfl (lv_at hl 0 rfl) ?_
      refine kx_get S hK hW hinX1 0 1 rfl rfl 6 (by decide) (List.mem_of_getElem? (i := 1) rfl) (v := .ref (a 7)) rfl dX1_hindrance_76 ?_
      refine lv_iconst (v := nI (4)) S.1 S.2.1 dX1_hindrance_79 rfl ?_
      refine kn_ald S hK hW 7 (f := τ 6) rfl (by omega) (by decide) dX1_hindrance_80 ?_
      refine kn_lt S (tgt := 88) dX1_hindrance_81 (by decide) (by omega) (by omega) (fun c_81 => ?_) (fun c_81 => ?_)
      · refine lv_iconst (v := nI (0)) S.1 S.2.1 dX1_hindrance_88 rfl ?_
        exact hret 89 _ _ _ _ _ dX1_hindrance_89 hW (congrArg nI (by first | exact hiS'_3 c_7 (e9 ▸ hi15_1) c_81 | exact hiS'_4 c_7 (e9 ▸ hi15_1) (by omega))) (rfl)
      · refine lv_iconst (v := nI (3)) S.1 S.2.1 dX1_hindrance_84 rfl ?_
        refine lv_goto (tgt := 89) S.1 S.2.1 dX1_hindrance_85 (by decide) ?_
        exact hret 89 _ _ _ _ _ dX1_hindrance_89 hW (congrArg nI (by first | exact hiS'_3 c_7 (e9 ▸ hi15_1) c_81 | exact hiS'_4 c_7 (e9 ▸ hi15_1) (by omega))) (rfl)
    · refine lv_aload_n S.1 S.2.1 dX1_hindrance_26 rfl (lv_at hl 0 rfl) ?_
      refine lv_iload_n S.1 S.2.1 dX1_hindrance_27 rfl (lv_at hl 1 rfl) ?_
      refine lv_iload_n S.1 S.2.1 dX1_hindrance_28 rfl (lv_at hl 2 rfl) ?_
      refine lv_iload_n S.1 S.2.1 dX1_hindrance_29 rfl (lv_at hl 3 rfl) ?_
      refine lv_iload S.1 S.2.1 dX1_hindrance_30 (lv_at hl 4 rfl) ?_
      refine kn_iadd S dX1_hindrance_32 ?_
      refine k_SI (rest := [.int (nI (j)), .int (nI (t)), .ref (a 0)]) S hK hl.1 hW (KFr.nil hW hA) (mX1_around_k l D c  _ (p + (1 + k)) (by first | omega | exact hx | assumption | (show (p + (1 + k)) < 2147483648; omega) | rfl)) gX1_hindrance_X1_around rfl pdX1_around ⟨⟨rfl, rfl⟩, Nat.le_of_ble_eq_true rfl, Nat.le_of_ble_eq_true rfl⟩ rfl (Nat.le_of_ble_eq_true rfl) dX1_hindrance_33 ⟨Nat.le_of_ble_eq_true rfl, Nat.le_of_ble_eq_true rfl⟩ (fun H locs hW => ?_)
      have hW : kw D A s.heap (wS c a τ) H locs := hW
      refine k_VI (rest := []) S hK hl.1 hW (KFr.all hW hA) (mX1_hasPin l D c a τ _ t j ((p + (1 + k)) % 32) (by first | omega | exact ht | assumption | (show t < 3; omega) | rfl) (by first | omega | exact hj | assumption | (show j < 12; omega) | rfl) (by first | omega | exact hp | assumption | (show ((p + (1 + k)) % 32) < 32; omega) | rfl)) gX1_hindrance_X1_hasPin rfl pdX1_hasPin ⟨⟨rfl, rfl⟩, Nat.le_of_ble_eq_true rfl, Nat.le_of_ble_eq_true rfl⟩ 0 1 rfl rfl rfl rfl (Nat.le_of_ble_eq_true rfl) dX1_hindrance_36 ⟨Nat.le_of_ble_eq_true rfl, Nat.le_of_ble_eq_true rfl⟩ (fun H locs hW => ?_)
      have hW : kw D A s.heap (wS c a τ) H locs := hW
      refine kb_ne S (tgt := 58) dX1_hindrance_39 (by decide) (fun c_39 => ?_) (fun c_39 => ?_)
      · refine lv_iconst (v := nI (2)) S.1 S.2.1 dX1_hindrance_58 rfl ?_
        exact hret 59 _ _ _ _ _ dX1_hindrance_59 hW (congrArg nI (hiS'_2 c_7 (nrS_hit (by first | exact Or.inl c_39 | exact Or.inr c_55)) (by omega))) (rfl)
      · refine lv_aload_n S.1 S.2.1 dX1_hindrance_42 rfl (lv_at hl 0 rfl) ?_
        refine lv_iload_n S.1 S.2.1 dX1_hindrance_43 rfl (lv_at hl 1 rfl) ?_
        refine lv_iload_n S.1 S.2.1 dX1_hindrance_44 rfl (lv_at hl 2 rfl) ?_
        refine lv_iload_n S.1 S.2.1 dX1_hindrance_45 rfl (lv_at hl 3 rfl) ?_
        refine lv_iload S.1 S.2.1 dX1_hindrance_46 (lv_at hl 4 rfl) ?_
        refine lv_isub S.1 S.2.1 dX1_hindrance_48 ?_
        refine k_top (y := nI (p + 32 - (1 + k)) - nI 32) (ar_neg (by omega)) ?_
        refine k_SI (rest := [.int (nI (j)), .int (nI (t)), .ref (a 0)]) S hK hl.1 hW (KFr.nil hW hA) (mX1_around_m l D c  _ (p + 32 - (1 + k)) (by first | omega | exact hu | assumption | (show (p + 32 - (1 + k)) < 128; omega) | rfl)) gX1_hindrance_X1_around rfl pdX1_around ⟨⟨rfl, rfl⟩, Nat.le_of_ble_eq_true rfl, Nat.le_of_ble_eq_true rfl⟩ rfl (Nat.le_of_ble_eq_true rfl) dX1_hindrance_49 ⟨Nat.le_of_ble_eq_true rfl, Nat.le_of_ble_eq_true rfl⟩ (fun H locs hW => ?_)
        have hW : kw D A s.heap (wS c a τ) H locs := hW
        refine k_VI (rest := []) S hK hl.1 hW (KFr.all hW hA) (mX1_hasPin l D c a τ _ t j ((p + 32 - (1 + k)) % 32) (by first | omega | exact ht | assumption | (show t < 3; omega) | rfl) (by first | omega | exact hj | assumption | (show j < 12; omega) | rfl) (by first | omega | exact hp | assumption | (show ((p + 32 - (1 + k)) % 32) < 32; omega) | rfl)) gX1_hindrance_X1_hasPin rfl pdX1_hasPin ⟨⟨rfl, rfl⟩, Nat.le_of_ble_eq_true rfl, Nat.le_of_ble_eq_true rfl⟩ 0 1 rfl rfl rfl rfl (Nat.le_of_ble_eq_true rfl) dX1_hindrance_52 ⟨Nat.le_of_ble_eq_true rfl, Nat.le_of_ble_eq_true rfl⟩ (fun H locs hW => ?_)
        have hW : kw D A s.heap (wS c a τ) H locs := hW
        refine kb_eq S (tgt := 60) dX1_hindrance_55 (by decide) (fun c_55 => ?_) (fun c_55 => ?_)
        · refine lv_iinc (v := nI (1 + k + 1)) (lv' := [(4, .int (nI (1 + k + 1))), (0, .ref (a 0)), (1, .int (nI (t))), (2, .int (nI (j))), (3, .int (nI (p)))]) S.1 S.2.1 dX1_hindrance_60 hl (k := 4) rfl (nI_add _ _) (by decide) rfl (fun ls hl => ?_)
          refine lv_goto (tgt := 15) S.1 S.2.1 dX1_hindrance_63 (by decide) ?_
          exact ih15 (k + 1) _ _ _ ⟨hW, lv_sub hl [1, 2, 3, 4, 0] rfl, (by omega), (by show (nrS τ t j p k || _ || _) = false; rw [hi15_1, c_39, c_55]; rfl)⟩ (by show 8 - (k + 1) < 8 - k; omega)
        · refine lv_iconst (v := nI (2)) S.1 S.2.1 dX1_hindrance_58 rfl ?_
          exact hret 59 _ _ _ _ _ dX1_hindrance_59 hW (congrArg nI (hiS'_2 c_7 (nrS_hit (by first | exact Or.inl c_39 | exact Or.inr c_55)) (by omega))) (rfl)
  · refine lv_iconst (v := nI (1)) S.1 S.2.1 dX1_hindrance_10 rfl ?_
    exact hret 11 _ _ _ _ _ dX1_hindrance_11 hW (congrArg nI (hiS'_1 c_7)) (rfl)
