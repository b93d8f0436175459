abbrev rmX3_in : Room := { frames := 0, cells := 0, slots := 0, locals := 0 }
theorem pdX3_in : kPd yX3_in 3 := by decide +kernel
set_option maxHeartbeats 4000000 in
set_option maxRecDepth 100000 in
theorem mX3_in (l : Launch) (D : va_G) (c : Nat → ClassId) (sz : Nat) (v : Int32) (lo : Int32) (hi : Int32) : MI l yX3_in wsX3_in rmX3_in D c sz [] [.int (v), .int (lo), .int (hi)] (nI (inb v lo hi).toNat) [] := by
  refine MI.of (cc := cX3_in) (maxL := 3) (ty := .boolean) (by decide) rfl (Nat.le_of_ble_eq_true rfl) (k_narB _) ?_
  intro P e s m below meth cd A Q ls hsz S hK hW hA hl hret
  have hl : lv_has ls 3 [(0, .int (v)), (1, .int (lo)), (2, .int (hi))] := hl
  refine lv_iload_n S.1 S.2.1 dX3_in_0 rfl (lv_at hl 0 rfl) ?_
  refine lv_iload_n S.1 S.2.1 dX3_in_1 rfl (lv_at hl 1 rfl) ?_
  refine lv_icmp_lt (tgt := 14) S.1 S.2.1 dX3_in_2 (by decide) (fun c_2 => ?_) (fun c_2 => ?_)
  · refine lv_iconst (v := nI (0)) S.1 S.2.1 dX3_in_14 rfl ?_
    exact hret 15 _ _ _ _ _ dX3_in_15 hW (by simp [inb, *]) (rfl)
  · refine lv_iload_n S.1 S.2.1 dX3_in_5 rfl (lv_at hl 0 rfl) ?_
    refine lv_iload_n S.1 S.2.1 dX3_in_6 rfl (lv_at hl 2 rfl) ?_
    refine lv_icmp_gt (tgt := 14) S.1 S.2.1 dX3_in_7 (by decide) (fun c_7 => ?_) (fun c_7 => ?_)
    · refine lv_iconst (v := nI (0)) S.1 S.2.1 dX3_in_14 rfl ?_
      exact hret 15 _ _ _ _ _ dX3_in_15 hW (by simp [inb, *]) (rfl)
    · refine lv_iconst (v := nI (1)) S.1 S.2.1 dX3_in_10 rfl ?_
      refine lv_goto (tgt := 15) S.1 S.2.1 dX3_in_11 (by decide) ?_
      exact hret 15 _ _ _ _ _ dX3_in_15 hW (by simp [inb, *]) (rfl)
abbrev rmX3_isTune : Room := { frames := 1, cells := 0, slots := 0, locals := 22 }
theorem pdX3_isTune : kPd yX3_isTune 1 := by decide +kernel
set_option maxHeartbeats 4000000 in
set_option maxRecDepth 100000 in
theorem mX3_isTune (l : Launch) (D : va_G) (c : Nat → ClassId) (sz : Nat) (v : Int32) : MI l yX3_isTune wsX3_isTune rmX3_isTune D c sz [] [.int (v)] (nI (inb v (nI 0) (nI 2)).toNat) [] := by
  refine MI.of (cc := cX3_isTune) (maxL := 1) (ty := .boolean) (by decide) rfl (Nat.le_of_ble_eq_true rfl) (k_narB _) ?_
  intro P e s m below meth cd A Q ls hsz S hK hW hA hl hret
  have hl : lv_has ls 1 [(0, .int (v))] := hl
  refine lv_iload_n S.1 S.2.1 dX3_isTune_0 rfl (lv_at hl 0 rfl) ?_
  refine lv_iconst (v := nI (0)) S.1 S.2.1 dX3_isTune_1 rfl ?_
  refine lv_iconst (v := nI (2)) S.1 S.2.1 dX3_isTune_2 rfl ?_
  refine k_SI (rest := []) S hK hl.1 hW (KFr.nil hW hA) (mX3_in l D c  _ v (nI (0)) (nI (2))) gX3_isTune_X3_in rfl pdX3_in ⟨⟨rfl, rfl⟩, Nat.le_of_ble_eq_true rfl, Nat.le_of_ble_eq_true rfl⟩ rfl (Nat.le_of_ble_eq_true rfl) dX3_isTune_3 ⟨Nat.le_of_ble_eq_true rfl, Nat.le_of_ble_eq_true rfl⟩ (fun H locs hW => ?_)
  have hW : kw D A s.heap [] H locs := hW
  exact hret 6 _ _ _ _ _ dX3_isTune_6 hW (rfl) (rfl)
abbrev rmX3_isTooth : Room := { frames := 1, cells := 0, slots := 0, locals := 22 }
theorem pdX3_isTooth : kPd yX3_isTooth 1 := by decide +kernel
set_option maxHeartbeats 4000000 in
set_option maxRecDepth 100000 in
theorem mX3_isTooth (l : Launch) (D : va_G) (c : Nat → ClassId) (sz : Nat) (v : Int32) : MI l yX3_isTooth wsX3_isTooth rmX3_isTooth D c sz [] [.int (v)] (nI (inb v (nI 0) (nI 11)).toNat) [] := by
  refine MI.of (cc := cX3_isTooth) (maxL := 1) (ty := .boolean) (by decide) rfl (Nat.le_of_ble_eq_true rfl) (k_narB _) ?_
  intro P e s m below meth cd A Q ls hsz S hK hW hA hl hret
  have hl : lv_has ls 1 [(0, .int (v))] := hl
  refine lv_iload_n S.1 S.2.1 dX3_isTooth_0 rfl (lv_at hl 0 rfl) ?_
  refine lv_iconst (v := nI (0)) S.1 S.2.1 dX3_isTooth_1 rfl ?_
  refine lv_bipush (v := nI (11)) S.1 S.2.1 dX3_isTooth_2 rfl ?_
  refine k_SI (rest := []) S hK hl.1 hW (KFr.nil hW hA) (mX3_in l D c  _ v (nI (0)) (nI (11))) gX3_isTooth_X3_in rfl pdX3_in ⟨⟨rfl, rfl⟩, Nat.le_of_ble_eq_true rfl, Nat.le_of_ble_eq_true rfl⟩ rfl (Nat.le_of_ble_eq_true rfl) dX3_isTooth_4 ⟨Nat.le_of_ble_eq_true rfl, Nat.le_of_ble_eq_true rfl⟩ (fun H locs hW => ?_)
  have hW : kw D A s.heap [] H locs := hW
  exact hret 7 _ _ _ _ _ dX3_isTooth_7 hW (rfl) (rfl)
abbrev rmX3_isStep : Room := { frames := 1, cells := 0, slots := 0, locals := 22 }
theorem pdX3_isStep : kPd yX3_isStep 1 := by decide +kernel
set_option maxHeartbeats 4000000 in
set_option maxRecDepth 100000 in
theorem mX3_isStep (l : Launch) (D : va_G) (c : Nat → ClassId) (sz : Nat) (v : Int32) : MI l yX3_isStep wsX3_isStep rmX3_isStep D c sz [] [.int (v)] (nI (inb v (nI 0) (nI 31)).toNat) [] := by
  refine MI.of (cc := cX3_isStep) (maxL := 1) (ty := .boolean) (by decide) rfl (Nat.le_of_ble_eq_true rfl) (k_narB _) ?_
  intro P e s m below meth cd A Q ls hsz S hK hW hA hl hret
  have hl : lv_has ls 1 [(0, .int (v))] := hl
  refine lv_iload_n S.1 S.2.1 dX3_isStep_0 rfl (lv_at hl 0 rfl) ?_
  refine lv_iconst (v := nI (0)) S.1 S.2.1 dX3_isStep_1 rfl ?_
  refine lv_bipush (v := nI (31)) S.1 S.2.1 dX3_isStep_2 rfl ?_
  refine k_SI (rest := []) S hK hl.1 hW (KFr.nil hW hA) (mX3_in l D c  _ v (nI (0)) (nI (31))) gX3_isStep_X3_in rfl pdX3_in ⟨⟨rfl, rfl⟩, Nat.le_of_ble_eq_true rfl, Nat.le_of_ble_eq_true rfl⟩ rfl (Nat.le_of_ble_eq_true rfl) dX3_isStep_4 ⟨Nat.le_of_ble_eq_true rfl, Nat.le_of_ble_eq_true rfl⟩ (fun H locs hW => ?_)
  have hW : kw D A s.heap [] H locs := hW
  exact hret 7 _ _ _ _ _ dX3_isStep_7 hW (rfl) (rfl)
abbrev rmX3_areThere : Room := { frames := 2, cells := 0, slots := 0, locals := 42 }
theorem pdX3_areThere : kPd yX3_areThere 3 := by decide +kernel
set_option maxHeartbeats 4000000 in
set_option maxRecDepth 100000 in
theorem mX3_areThere (l : Launch) (D : va_G) (c : Nat → ClassId) (sz : Nat) (t : Int32) (j : Int32) (p : Int32) : MI l yX3_areThere wsX3_areThere rmX3_areThere D c sz [] [.int (t), .int (j), .int (p)] (nI (inb t (nI 0) (nI 2) && inb j (nI 0) (nI 11) && inb p (nI 0) (nI 31)).toNat) [] := by
  refine MI.of (cc := cX3_areThere) (maxL := 3) (ty := .boolean) (by decide) rfl (Nat.le_of_ble_eq_true rfl) (k_narB _) ?_
  intro P e s m below meth cd A Q ls hsz S hK hW hA hl hret
  have hl : lv_has ls 3 [(0, .int (t)), (1, .int (j)), (2, .int (p))] := hl
  refine lv_iload_n S.1 S.2.1 dX3_areThere_0 rfl (lv_at hl 0 rfl) ?_
  refine k_SI (rest := []) S hK hl.1 hW (KFr.nil hW hA) (mX3_isTune l D c  _ t) gX3_areThere_X3_isTune rfl pdX3_isTune ⟨⟨rfl, rfl⟩, Nat.le_of_ble_eq_true rfl, Nat.le_of_ble_eq_true rfl⟩ rfl (Nat.le_of_ble_eq_true rfl) dX3_areThere_1 ⟨Nat.le_of_ble_eq_true rfl, Nat.le_of_ble_eq_true rfl⟩ (fun H locs hW => ?_)
  have hW : kw D A s.heap [] H locs := hW
  refine kb_eq S (tgt := 25) dX3_areThere_4 (by decide) (fun c_4 => ?_) (fun c_4 => ?_)
  · refine lv_iconst (v := nI (0)) S.1 S.2.1 dX3_areThere_25 rfl ?_
    exact hret 26 _ _ _ _ _ dX3_areThere_26 hW (by simp [*]) (rfl)
  · refine lv_iload_n S.1 S.2.1 dX3_areThere_7 rfl (lv_at hl 1 rfl) ?_
    refine k_SI (rest := []) S hK hl.1 hW (KFr.nil hW hA) (mX3_isTooth l D c  _ j) gX3_areThere_X3_isTooth rfl pdX3_isTooth ⟨⟨rfl, rfl⟩, Nat.le_of_ble_eq_true rfl, Nat.le_of_ble_eq_true rfl⟩ rfl (Nat.le_of_ble_eq_true rfl) dX3_areThere_8 ⟨Nat.le_of_ble_eq_true rfl, Nat.le_of_ble_eq_true rfl⟩ (fun H locs hW => ?_)
    have hW : kw D A s.heap [] H locs := hW
    refine kb_eq S (tgt := 25) dX3_areThere_11 (by decide) (fun c_11 => ?_) (fun c_11 => ?_)
    · refine lv_iconst (v := nI (0)) S.1 S.2.1 dX3_areThere_25 rfl ?_
      exact hret 26 _ _ _ _ _ dX3_areThere_26 hW (by simp [*]) (rfl)
    · refine lv_iload_n S.1 S.2.1 dX3_areThere_14 rfl (lv_at hl 2 rfl) ?_
      refine k_SI (rest := []) S hK hl.1 hW (KFr.nil hW hA) (mX3_isStep l D c  _ p) gX3_areThere_X3_isStep rfl pdX3_isStep ⟨⟨rfl, rfl⟩, Nat.le_of_ble_eq_true rfl, Nat.le_of_ble_eq_true rfl⟩ rfl (Nat.le_of_ble_eq_true rfl) dX3_areThere_15 ⟨Nat.le_of_ble_eq_true rfl, Nat.le_of_ble_eq_true rfl⟩ (fun H locs hW => ?_)
      have hW : kw D A s.heap [] H locs := hW
      refine kb_eq S (tgt := 25) dX3_areThere_18 (by decide) (fun c_18 => ?_) (fun c_18 => ?_)
      · refine lv_iconst (v := nI (0)) S.1 S.2.1 dX3_areThere_25 rfl ?_
        exact hret 26 _ _ _ _ _ dX3_areThere_26 hW (by simp [*]) (rfl)
      · refine lv_iconst (v := nI (1)) S.1 S.2.1 dX3_areThere_21 rfl ?_
        refine lv_goto (tgt := 26) S.1 S.2.1 dX3_areThere_22 (by decide) ?_
        exact hret 26 _ _ _ _ _ dX3_areThere_26 hW (by simp [*]) (rfl)
abbrev rmX3_ofPins : Room := { frames := 0, cells := 0, slots := 0, locals := 0 }
theorem pdX3_ofPins : kPd yX3_ofPins 2 := by decide +kernel
set_option maxHeartbeats 4000000 in
set_option maxRecDepth 100000 in
theorem mX3_ofPins (l : Launch) (D : va_G) (c : Nat → ClassId) (sz : Nat) (t : Nat) (j : Nat) : MI l yX3_ofPins wsX3_ofPins rmX3_ofPins D c sz [] [.int (nI (t)), .int (nI (j))] (nI (12 * t + j)) [] := by
  refine MI.of (cc := cX3_ofPins) (maxL := 2) (ty := .int) (by decide) rfl (Nat.le_of_ble_eq_true rfl) rfl ?_
  intro P e s m below meth cd A Q ls hsz S hK hW hA hl hret
  have hl : lv_has ls 2 [(0, .int (nI (t))), (1, .int (nI (j)))] := hl
  refine lv_iconst (v := nI (0)) S.1 S.2.1 dX3_ofPins_0 rfl ?_
  refine lv_bipush (v := nI (12)) S.1 S.2.1 dX3_ofPins_1 rfl ?_
  refine lv_iload_n S.1 S.2.1 dX3_ofPins_3 rfl (lv_at hl 0 rfl) ?_
  refine kn_imul S dX3_ofPins_4 ?_
  refine kn_iadd S dX3_ofPins_5 ?_
  refine lv_iload_n S.1 S.2.1 dX3_ofPins_6 rfl (lv_at hl 1 rfl) ?_
  refine kn_iadd S dX3_ofPins_7 ?_
  exact hret 8 _ _ _ _ _ dX3_ofPins_8 hW (congrArg nI (by omega)) (rfl)
abbrev rmX3_of : Room := { frames := 0, cells := 0, slots := 0, locals := 0 }
theorem pdX3_of : kPd yX3_of 2 := by decide +kernel
set_option maxHeartbeats 4000000 in
set_option maxRecDepth 100000 in
theorem mX3_of (l : Launch) (D : va_G) (c : Nat → ClassId) (sz : Nat) (j : Nat) (w : Nat) : MI l yX3_of wsX3_of rmX3_of D c sz [] [.int (nI (j)), .int (nI (w))] (nI (36 + 4 * j + w)) [] := by
  refine MI.of (cc := cX3_of) (maxL := 2) (ty := .int) (by decide) rfl (Nat.le_of_ble_eq_true rfl) rfl ?_
  intro P e s m below meth cd A Q ls hsz S hK hW hA hl hret
  have hl : lv_has ls 2 [(0, .int (nI (j))), (1, .int (nI (w)))] := hl
  refine lv_bipush (v := nI (36)) S.1 S.2.1 dX3_of_0 rfl ?_
  refine lv_iconst (v := nI (4)) S.1 S.2.1 dX3_of_2 rfl ?_
  refine lv_iload_n S.1 S.2.1 dX3_of_3 rfl (lv_at hl 0 rfl) ?_
  refine kn_imul S dX3_of_4 ?_
  refine kn_iadd S dX3_of_5 ?_
  refine lv_iload_n S.1 S.2.1 dX3_of_6 rfl (lv_at hl 1 rfl) ?_
  refine kn_iadd S dX3_of_7 ?_
  exact hret 8 _ _ _ _ _ dX3_of_8 hW (congrArg nI (by omega)) (rfl)
abbrev rmX3_isPin : Room := { frames := 1, cells := 0, slots := 0, locals := 21 }
theorem pdX3_isPin : kPd yX3_isPin 3 := by decide +kernel
set_option maxHeartbeats 4000000 in
set_option maxRecDepth 100000 in
theorem mX3_isPin (l : Launch) (D : va_G) (c : Nat → ClassId) (a : Nat → Nat) (φ : Nat → Nat → Nat) (δ : Int64) (sz : Nat) (t : Nat) (j : Nat) (p : Nat) (ht : t < 3) (hj : j < 12) (hp : p < 32) : MI l yX3_isPin wsX3_isPin rmX3_isPin D c sz (wM c a φ δ) [.ref (a 0), .int (nI (t)), .int (nI (j)), .int (nI (p))] (nI (pb (φ 0) t j p).toNat) (wM c a φ δ) := by
  refine MI.of (cc := cX3_isPin) (maxL := 4) (ty := .boolean) (by decide) rfl (Nat.le_of_ble_eq_true rfl) (k_narB _) ?_
  intro P e s m below meth cd A Q ls hsz S hK hW hA hl hret
  have hl : lv_has ls 4 [(0, .ref (a 0)), (1, .int (nI (t))), (2, .int (nI (j))), (3, .int (nI (p)))] := hl
  have hinX3 : ∀ w ∈ u_ws RX3 TX3 13, w ∈ wsX3_isPin := by decide +kernel
  have hbt : ((φ 0 (12 * t + j)).testBit p).toNat ≤ 1 := by cases (φ 0 (12 * t + j)).testBit p <;> decide
  refine lv_aload_n S.1 S.2.1 dX3_isPin_0 rfl (lv_at hl 0 rfl) ?_
  refine kx_get S hK hW hinX3 0 3 rfl rfl 1 (by decide) (List.mem_of_getElem? (i := 1) rfl) (v := .ref (a 1)) rfl dX3_isPin_1 ?_
  refine lv_iload_n S.1 S.2.1 dX3_isPin_4 rfl (lv_at hl 1 rfl) ?_
  refine lv_iload_n S.1 S.2.1 dX3_isPin_5 rfl (lv_at hl 2 rfl) ?_
  refine k_SI (rest := [.ref (a 1)]) S hK hl.1 hW (KFr.nil hW hA) (mX3_ofPins l D c  _ t j) gX3_isPin_X3_ofPins rfl pdX3_ofPins ⟨⟨rfl, rfl⟩, Nat.le_of_ble_eq_true rfl, Nat.le_of_ble_eq_true rfl⟩ rfl (Nat.le_of_ble_eq_true rfl) dX3_isPin_6 ⟨Nat.le_of_ble_eq_true rfl, Nat.le_of_ble_eq_true rfl⟩ (fun H locs hW => ?_)
  have hW : kw D A s.heap (wM c a φ δ) H locs := hW
  refine kn_ald S hK hW 1 (f := φ 0) rfl (by omega) (by decide) dX3_isPin_9 ?_
  refine lv_iload_n S.1 S.2.1 dX3_isPin_10 rfl (lv_at hl 3 rfl) ?_
  refine lv_ishr S.1 S.2.1 dX3_isPin_11 ?_
  refine lv_iconst (v := nI (1)) S.1 S.2.1 dX3_isPin_12 rfl ?_
  refine kn_tbit S hp dX3_isPin_13 ?_
  refine lv_iconst (v := nI (1)) S.1 S.2.1 dX3_isPin_14 rfl ?_
  refine kn_ne S (tgt := 22) dX3_isPin_15 (by decide) (by omega) (by omega) (fun c_15 => ?_) (fun c_15 => ?_)
  · have c_15 : pb (φ 0) t j p = false := by unfold pb; cases h : (φ 0 (12 * t + j)).testBit p <;> simp_all
    refine lv_iconst (v := nI (0)) S.1 S.2.1 dX3_isPin_22 rfl ?_
    exact hret 23 _ _ _ _ _ dX3_isPin_23 hW (by rw [c_15]; rfl) (rfl)
  · have c_15 : pb (φ 0) t j p = true := by unfold pb; cases h : (φ 0 (12 * t + j)).testBit p <;> simp_all
    refine lv_iconst (v := nI (1)) S.1 S.2.1 dX3_isPin_18 rfl ?_
    refine lv_goto (tgt := 23) S.1 S.2.1 dX3_isPin_19 (by decide) ?_
    exact hret 23 _ _ _ _ _ dX3_isPin_23 hW (by rw [c_15]; rfl) (rfl)
abbrev rmX3_pinsAt : Room := { frames := 2, cells := 0, slots := 0, locals := 44 }
theorem pdX3_pinsAt : kPd yX3_pinsAt 2 := by decide +kernel
set_option maxHeartbeats 4000000 in
set_option maxRecDepth 100000 in
theorem mX3_pinsAt (l : Launch) (D : va_G) (c : Nat → ClassId) (a : Nat → Nat) (φ : Nat → Nat → Nat) (δ : Int64) (sz : Nat) (t : Nat) (p : Nat) (ht : t < 3) (hp : p < 32) : MI l yX3_pinsAt wsX3_pinsAt rmX3_pinsAt D c sz (wM c a φ δ) [.ref (a 0), .int (nI (t)), .int (nI (p))] (nI (mk (fun j => pb (φ 0) t j p) 12)) (wM c a φ δ) := by
  refine MI.of (cc := cX3_pinsAt) (maxL := 5) (ty := .int) (by decide) rfl (Nat.le_of_ble_eq_true rfl) rfl ?_
  intro P e s m below meth cd A Q ls hsz S hK hW hA hl hret
  have hl : lv_has ls 5 [(0, .ref (a 0)), (1, .int (nI (t))), (2, .int (nI (p)))] := hl
  refine lv_iconst (v := nI (0)) S.1 S.2.1 dX3_pinsAt_0 rfl ?_
  refine lv_istore_n (lv' := [(3, .int (nI (0))), (0, .ref (a 0)), (1, .int (nI (t))), (2, .int (nI (p)))]) S.1 S.2.1 dX3_pinsAt_1 rfl hl (by decide) rfl (fun ls hl => ?_)
  refine lv_iconst (v := nI (0)) S.1 S.2.1 dX3_pinsAt_2 rfl ?_
  refine lv_istore (lv' := [(4, .int (nI (0))), (3, .int (nI (0))), (0, .ref (a 0)), (1, .int (nI (t))), (2, .int (nI (p)))]) S.1 S.2.1 dX3_pinsAt_3 hl (by decide) rfl (fun ls hl => ?_)
  refine k_loop (fun (zz : Nat) H lo ls => match zz with | k => kw D A s.heap (wM c a φ δ) H lo ∧ lv_has ls 5 [(0, .ref (a 0)), (1, .int (nI (t))), (2, .int (nI (p))), (3, .int (nI (mk (fun j => pb (φ 0) t j p) k))), (4, .int (nI (k)))] ∧ k ≤ 12) (fun (zz : Nat) => match zz with | k => 12 - k) [] ?_ 0 _ _ _ ⟨hW, lv_sub hl [2, 3, 4, 1, 0] rfl, (by decide)⟩
  rintro k ih5 H locs ls ⟨hW, hl, hi5_0⟩
  refine lv_iload S.1 S.2.1 dX3_pinsAt_5 (lv_at hl 4 rfl) ?_
  refine lv_bipush (v := nI (12)) S.1 S.2.1 dX3_pinsAt_7 rfl ?_
  refine kn_ge S (tgt := 40) dX3_pinsAt_9 (by decide) (by omega) (by omega) (fun c_9 => ?_) (fun c_9 => ?_)
  · have e9 : k = 12 := by omega
    subst e9
    refine lv_iload_n S.1 S.2.1 dX3_pinsAt_40 rfl (lv_at hl 3 rfl) ?_
    exact hret 41 _ _ _ _ _ dX3_pinsAt_41 hW (rfl) (rfl)
  · refine lv_iload_n S.1 S.2.1 dX3_pinsAt_12 rfl (lv_at hl 3 rfl) ?_
    refine lv_aload_n S.1 S.2.1 dX3_pinsAt_13 rfl (lv_at hl 0 rfl) ?_
    refine lv_iload_n S.1 S.2.1 dX3_pinsAt_14 rfl (lv_at hl 1 rfl) ?_
    refine lv_iload S.1 S.2.1 dX3_pinsAt_15 (lv_at hl 4 rfl) ?_
    refine lv_iload_n S.1 S.2.1 dX3_pinsAt_17 rfl (lv_at hl 2 rfl) ?_
    refine k_VI (rest := [.int (nI (mk (fun j => pb (φ 0) t j p) k))]) S hK hl.1 hW (KFr.all hW hA) (mX3_isPin l D c a φ δ _ t k p (by omega) (by omega) (by omega)) gX3_pinsAt_X3_isPin rfl pdX3_isPin ⟨⟨rfl, rfl⟩, Nat.le_of_ble_eq_true rfl, Nat.le_of_ble_eq_true rfl⟩ 0 3 rfl rfl rfl rfl (Nat.le_of_ble_eq_true rfl) dX3_pinsAt_18 ⟨Nat.le_of_ble_eq_true rfl, Nat.le_of_ble_eq_true rfl⟩ (fun H locs hW => ?_)
    have hW : kw D A s.heap (wM c a φ δ) H locs := hW
    refine kb_eq S (tgt := 31) dX3_pinsAt_21 (by decide) (fun c_21 => ?_) (fun c_21 => ?_)
    · refine lv_iconst (v := nI (0)) S.1 S.2.1 dX3_pinsAt_31 rfl ?_
      refine kn_ior S dX3_pinsAt_32 ?_
      refine k_top (y := nI (mk (fun j => pb (φ 0) t j p) (k + 1))) (congrArg nI (by first | exact mk_t c_21 | exact mk_f c_21)) ?_
      refine lv_istore_n (lv' := [(3, .int (nI (mk (fun j => pb (φ 0) t j p) (k + 1)))), (0, .ref (a 0)), (1, .int (nI (t))), (2, .int (nI (p))), (4, .int (nI (k)))]) S.1 S.2.1 dX3_pinsAt_33 rfl hl (by decide) rfl (fun ls hl => ?_)
      refine lv_iinc (v := nI (k + 1)) (lv' := [(4, .int (nI (k + 1))), (3, .int (nI (mk (fun j => pb (φ 0) t j p) (k + 1)))), (0, .ref (a 0)), (1, .int (nI (t))), (2, .int (nI (p)))]) S.1 S.2.1 dX3_pinsAt_34 hl (k := 4) rfl (nI_add _ _) (by decide) rfl (fun ls hl => ?_)
      refine lv_goto (tgt := 5) S.1 S.2.1 dX3_pinsAt_37 (by decide) ?_
      exact ih5 (k + 1) _ _ _ ⟨hW, lv_sub hl [2, 3, 4, 1, 0] rfl, (by omega)⟩ (by show 12 - (k + 1) < 12 - k; omega)
    · refine lv_iconst (v := nI (1)) S.1 S.2.1 dX3_pinsAt_24 rfl ?_
      refine lv_iload S.1 S.2.1 dX3_pinsAt_25 (lv_at hl 4 rfl) ?_
      refine kn_shl1 S dX3_pinsAt_27 (by omega) ?_
      refine lv_goto (tgt := 32) S.1 S.2.1 dX3_pinsAt_28 (by decide) ?_
      refine kn_ior S dX3_pinsAt_32 ?_
      refine k_top (y := nI (mk (fun j => pb (φ 0) t j p) (k + 1))) (congrArg nI (by first | exact mk_t c_21 | exact mk_f c_21)) ?_
      refine lv_istore_n (lv' := [(3, .int (nI (mk (fun j => pb (φ 0) t j p) (k + 1)))), (0, .ref (a 0)), (1, .int (nI (t))), (2, .int (nI (p))), (4, .int (nI (k)))]) S.1 S.2.1 dX3_pinsAt_33 rfl hl (by decide) rfl (fun ls hl => ?_)
      refine lv_iinc (v := nI (k + 1)) (lv' := [(4, .int (nI (k + 1))), (3, .int (nI (mk (fun j => pb (φ 0) t j p) (k + 1)))), (0, .ref (a 0)), (1, .int (nI (t))), (2, .int (nI (p)))]) S.1 S.2.1 dX3_pinsAt_34 hl (k := 4) rfl (nI_add _ _) (by decide) rfl (fun ls hl => ?_)
      refine lv_goto (tgt := 5) S.1 S.2.1 dX3_pinsAt_37 (by decide) ?_
      exact ih5 (k + 1) _ _ _ ⟨hW, lv_sub hl [2, 3, 4, 1, 0] rfl, (by omega)⟩ (by show 12 - (k + 1) < 12 - k; omega)
abbrev rmX3_ones : Room := { frames := 0, cells := 0, slots := 0, locals := 0 }
theorem pdX3_ones : kPd yX3_ones 1 := by decide +kernel
set_option maxHeartbeats 4000000 in
set_option maxRecDepth 100000 in
theorem mX3_ones (l : Launch) (D : va_G) (c : Nat → ClassId) (sz : Nat) (x : Nat) : MI l yX3_ones wsX3_ones rmX3_ones D c sz [] [.int (nI (x))] (nI (ones x)) [] := by
  refine MI.of (cc := cX3_ones) (maxL := 3) (ty := .int) (by decide) rfl (Nat.le_of_ble_eq_true rfl) rfl ?_
  intro P e s m below meth cd A Q ls hsz S hK hW hA hl hret
  have hl : lv_has ls 3 [(0, .int (nI (x)))] := hl
  refine lv_iconst (v := nI (0)) S.1 S.2.1 dX3_ones_0 rfl ?_
  refine lv_istore_n (lv' := [(1, .int (nI (0))), (0, .int (nI (x)))]) S.1 S.2.1 dX3_ones_1 rfl hl (by decide) rfl (fun ls hl => ?_)
  refine lv_iconst (v := nI (0)) S.1 S.2.1 dX3_ones_2 rfl ?_
  refine lv_istore_n (lv' := [(2, .int (nI (0))), (1, .int (nI (0))), (0, .int (nI (x)))]) S.1 S.2.1 dX3_ones_3 rfl hl (by decide) rfl (fun ls hl => ?_)
  refine k_loop (fun (zz : Nat) H lo ls => match zz with | k => kw D A s.heap [] H lo ∧ lv_has ls 3 [(0, .int (nI (x))), (1, .int (nI (ct (fun i => x.testBit i) k))), (2, .int (nI (k)))] ∧ k ≤ 32) (fun (zz : Nat) => match zz with | k => 32 - k) [] ?_ 0 _ _ _ ⟨hW, lv_sub hl [2, 1, 0] rfl, (by decide)⟩
  rintro k ih4 H locs ls ⟨hW, hl, hi4_0⟩
  refine lv_iload_n S.1 S.2.1 dX3_ones_4 rfl (lv_at hl 2 rfl) ?_
  refine lv_bipush (v := nI (32)) S.1 S.2.1 dX3_ones_5 rfl ?_
  refine kn_ge S (tgt := 24) dX3_ones_7 (by decide) (by omega) (by omega) (fun c_7 => ?_) (fun c_7 => ?_)
  · have e9 : k = 32 := by omega
    subst e9
    refine lv_iload_n S.1 S.2.1 dX3_ones_24 rfl (lv_at hl 1 rfl) ?_
    exact hret 25 _ _ _ _ _ dX3_ones_25 hW (rfl) (rfl)
  · refine lv_iload_n S.1 S.2.1 dX3_ones_10 rfl (lv_at hl 1 rfl) ?_
    refine lv_iload_n S.1 S.2.1 dX3_ones_11 rfl (lv_at hl 0 rfl) ?_
    refine lv_iload_n S.1 S.2.1 dX3_ones_12 rfl (lv_at hl 2 rfl) ?_
    refine lv_ishr S.1 S.2.1 dX3_ones_13 ?_
    refine lv_iconst (v := nI (1)) S.1 S.2.1 dX3_ones_14 rfl ?_
    refine kn_tbit S (by omega) dX3_ones_15 ?_
    refine kn_iadd S dX3_ones_16 ?_
    refine lv_istore_n (lv' := [(1, .int (nI (ct (fun i => x.testBit i) k + ((x).testBit (k)).toNat))), (0, .int (nI (x))), (2, .int (nI (k)))]) S.1 S.2.1 dX3_ones_17 rfl hl (by decide) rfl (fun ls hl => ?_)
    refine lv_iinc (v := nI (k + 1)) (lv' := [(2, .int (nI (k + 1))), (1, .int (nI (ct (fun i => x.testBit i) k + ((x).testBit (k)).toNat))), (0, .int (nI (x)))]) S.1 S.2.1 dX3_ones_18 hl (k := 2) rfl (nI_add _ _) (by decide) rfl (fun ls hl => ?_)
    refine lv_goto (tgt := 4) S.1 S.2.1 dX3_ones_21 (by decide) ?_
    exact ih4 (k + 1) _ _ _ ⟨hW, lv_sub hl [2, 1, 0] rfl, (by omega)⟩ (by show 32 - (k + 1) < 32 - k; omega)
abbrev rmX3_isNear : Room := { frames := 2, cells := 0, slots := 0, locals := 44 }
theorem pdX3_isNear : kPd yX3_isNear 3 := by decide +kernel
set_option maxHeartbeats 4000000 in
set_option maxRecDepth 100000 in
theorem mX3_isNear (l : Launch) (D : va_G) (c : Nat → ClassId) (a : Nat → Nat) (φ : Nat → Nat → Nat) (δ : Int64) (sz : Nat) (t : Nat) (j : Nat) (p : Nat) (ht : t < 3) (hj : j < 12) (hp : p < 32) (ok : okM (φ 0)) : MI l yX3_isNear wsX3_isNear rmX3_isNear D c sz (wM c a φ δ) [.ref (a 0), .int (nI (t)), .int (nI (j)), .int (nI (p))] (nI (near (φ 0) t j p ((φ 0) 145 - 1)).toNat) (wM c a φ δ) := by
  refine MI.of (cc := cX3_isNear) (maxL := 6) (ty := .boolean) (by decide) rfl (Nat.le_of_ble_eq_true rfl) (k_narB _) ?_
  intro P e s m below meth cd A Q ls hsz S hK hW hA hl hret
  have hl : lv_has ls 6 [(0, .ref (a 0)), (1, .int (nI (t))), (2, .int (nI (j))), (3, .int (nI (p)))] := hl
  have hinX3 : ∀ w ∈ u_ws RX3 TX3 13, w ∈ wsX3_isNear := by decide +kernel
  have h5 := ok.k145
  refine lv_iconst (v := nI (0)) S.1 S.2.1 dX3_isNear_0 rfl ?_
  refine lv_istore (lv' := [(4, .int (nI (0))), (0, .ref (a 0)), (1, .int (nI (t))), (2, .int (nI (j))), (3, .int (nI (p)))]) S.1 S.2.1 dX3_isNear_1 hl (by decide) rfl (fun ls hl => ?_)
  refine lv_iconst (v := nI (1)) S.1 S.2.1 dX3_isNear_3 rfl ?_
  refine lv_istore (lv' := [(5, .int (nI (1))), (4, .int (nI (0))), (0, .ref (a 0)), (1, .int (nI (t))), (2, .int (nI (j))), (3, .int (nI (p)))]) S.1 S.2.1 dX3_isNear_4 hl (by decide) rfl (fun ls hl => ?_)
  refine k_loop (fun (zz : Nat) H lo ls => match zz with | k => kw D A s.heap (wM c a φ δ) H lo ∧ lv_has ls 6 [(0, .ref (a 0)), (1, .int (nI (t))), (2, .int (nI (j))), (3, .int (nI (p))), (4, .int (nI (near (φ 0) t j p k).toNat)), (5, .int (nI (1 + k)))] ∧ k ≤ φ 0 145 - 1) (fun (zz : Nat) => match zz with | k => 8 - k) [] ?_ 0 _ _ _ ⟨hW, lv_sub hl [2, 3, 4, 5, 1, 0] rfl, (Nat.zero_le _)⟩
  rintro k ih6 H locs ls ⟨hW, hl, hi6_0⟩
  refine lv_iload S.1 S.2.1 dX3_isNear_6 (lv_at hl 5 rfl) ?_
  refine lv_aload_n S.1 S.2.1 dX3_isNear_8 rfl (lv_at hl 0 rfl) ?_
  refine kx_get S hK hW hinX3 0 3 rfl rfl 1 (by decide) (List.mem_of_getElem? (i := 1) rfl) (v := .ref (a 1)) rfl dX3_isNear_9 ?_
  refine lv_sipush (v := nI (145)) S.1 S.2.1 dX3_isNear_12 rfl ?_
  refine kn_ald S hK hW 1 (f := φ 0) rfl (by omega) (by decide) dX3_isNear_15 ?_
  refine kn_ge S (tgt := 72) dX3_isNear_16 (by decide) (by omega) (by omega) (fun c_16 => ?_) (fun c_16 => ?_)
  · have e16 : k = φ 0 145 - 1 := by omega
    refine lv_iload S.1 S.2.1 dX3_isNear_72 (lv_at hl 4 rfl) ?_
    exact hret 74 _ _ _ _ _ dX3_isNear_74 hW (by rw [e16]) (rfl)
  · refine lv_iload S.1 S.2.1 dX3_isNear_19 (lv_at hl 4 rfl) ?_
    refine kb_ne S (tgt := 59) dX3_isNear_21 (by decide) (fun c_21 => ?_) (fun c_21 => ?_)
    · refine lv_iconst (v := nI (1)) S.1 S.2.1 dX3_isNear_59 rfl ?_
      refine k_top (y := nI ((near (φ 0) t j p (k + 1)).toNat)) (by rw [show near (φ 0) t j p (k + 1) = true from by simp [near, *]]; rfl) ?_
      refine lv_goto (tgt := 64) S.1 S.2.1 dX3_isNear_60 (by decide) ?_
      refine lv_istore (lv' := [(4, .int (nI (near (φ 0) t j p (k + 1)).toNat)), (0, .ref (a 0)), (1, .int (nI (t))), (2, .int (nI (j))), (3, .int (nI (p))), (5, .int (nI (1 + k)))]) S.1 S.2.1 dX3_isNear_64 hl (by decide) rfl (fun ls hl => ?_)
      refine lv_iinc (v := nI (1 + k + 1)) (lv' := [(5, .int (nI (1 + k + 1))), (4, .int (nI (near (φ 0) t j p (k + 1)).toNat)), (0, .ref (a 0)), (1, .int (nI (t))), (2, .int (nI (j))), (3, .int (nI (p)))]) S.1 S.2.1 dX3_isNear_66 hl (k := 5) rfl (nI_add _ _) (by decide) rfl (fun ls hl => ?_)
      refine lv_goto (tgt := 6) S.1 S.2.1 dX3_isNear_69 (by decide) ?_
      exact ih6 (k + 1) _ _ _ ⟨hW, lv_sub hl [2, 3, 4, 5, 1, 0] rfl, (by omega)⟩ (by show 8 - (k + 1) < 8 - k; omega)
    · refine lv_aload_n S.1 S.2.1 dX3_isNear_24 rfl (lv_at hl 0 rfl) ?_
      refine lv_iload_n S.1 S.2.1 dX3_isNear_25 rfl (lv_at hl 1 rfl) ?_
      refine lv_iload_n S.1 S.2.1 dX3_isNear_26 rfl (lv_at hl 2 rfl) ?_
      refine lv_iload_n S.1 S.2.1 dX3_isNear_27 rfl (lv_at hl 3 rfl) ?_
      refine lv_iload S.1 S.2.1 dX3_isNear_28 (lv_at hl 5 rfl) ?_
      refine kn_iadd S dX3_isNear_30 ?_
      refine lv_bipush (v := nI (32)) S.1 S.2.1 dX3_isNear_31 rfl ?_
      refine kn_irem S dX3_isNear_33 (by omega) (by omega) (by omega) ?_
      refine k_VI (rest := []) S hK hl.1 hW (KFr.all hW hA) (mX3_isPin l D c a φ δ _ t j ((p + (1 + k)) % 32) (by omega) (by omega) (by omega)) gX3_isNear_X3_isPin rfl pdX3_isPin ⟨⟨rfl, rfl⟩, Nat.le_of_ble_eq_true rfl, Nat.le_of_ble_eq_true rfl⟩ 0 3 rfl rfl rfl rfl (Nat.le_of_ble_eq_true rfl) dX3_isNear_34 ⟨Nat.le_of_ble_eq_true rfl, Nat.le_of_ble_eq_true rfl⟩ (fun H locs hW => ?_)
      have hW : kw D A s.heap (wM c a φ δ) H locs := hW
      refine kb_ne S (tgt := 59) dX3_isNear_37 (by decide) (fun c_37 => ?_) (fun c_37 => ?_)
      · refine lv_iconst (v := nI (1)) S.1 S.2.1 dX3_isNear_59 rfl ?_
        refine k_top (y := nI ((near (φ 0) t j p (k + 1)).toNat)) (by rw [show near (φ 0) t j p (k + 1) = true from by simp [near, *]]; rfl) ?_
        refine lv_goto (tgt := 64) S.1 S.2.1 dX3_isNear_60 (by decide) ?_
        refine lv_istore (lv' := [(4, .int (nI (near (φ 0) t j p (k + 1)).toNat)), (0, .ref (a 0)), (1, .int (nI (t))), (2, .int (nI (j))), (3, .int (nI (p))), (5, .int (nI (1 + k)))]) S.1 S.2.1 dX3_isNear_64 hl (by decide) rfl (fun ls hl => ?_)
        refine lv_iinc (v := nI (1 + k + 1)) (lv' := [(5, .int (nI (1 + k + 1))), (4, .int (nI (near (φ 0) t j p (k + 1)).toNat)), (0, .ref (a 0)), (1, .int (nI (t))), (2, .int (nI (j))), (3, .int (nI (p)))]) S.1 S.2.1 dX3_isNear_66 hl (k := 5) rfl (nI_add _ _) (by decide) rfl (fun ls hl => ?_)
        refine lv_goto (tgt := 6) S.1 S.2.1 dX3_isNear_69 (by decide) ?_
        exact ih6 (k + 1) _ _ _ ⟨hW, lv_sub hl [2, 3, 4, 5, 1, 0] rfl, (by omega)⟩ (by show 8 - (k + 1) < 8 - k; omega)
      · refine lv_aload_n S.1 S.2.1 dX3_isNear_40 rfl (lv_at hl 0 rfl) ?_
        refine lv_iload_n S.1 S.2.1 dX3_isNear_41 rfl (lv_at hl 1 rfl) ?_
        refine lv_iload_n S.1 S.2.1 dX3_isNear_42 rfl (lv_at hl 2 rfl) ?_
        refine lv_iload_n S.1 S.2.1 dX3_isNear_43 rfl (lv_at hl 3 rfl) ?_
        refine lv_bipush (v := nI (32)) S.1 S.2.1 dX3_isNear_44 rfl ?_
        refine kn_iadd S dX3_isNear_46 ?_
        refine lv_iload S.1 S.2.1 dX3_isNear_47 (lv_at hl 5 rfl) ?_
        refine kn_isub S dX3_isNear_49 (by omega) ?_
        refine lv_bipush (v := nI (32)) S.1 S.2.1 dX3_isNear_50 rfl ?_
        refine kn_irem S dX3_isNear_52 (by omega) (by omega) (by omega) ?_
        refine k_VI (rest := []) S hK hl.1 hW (KFr.all hW hA) (mX3_isPin l D c a φ δ _ t j (((p + 32) - (1 + k)) % 32) (by omega) (by omega) (by omega)) gX3_isNear_X3_isPin rfl pdX3_isPin ⟨⟨rfl, rfl⟩, Nat.le_of_ble_eq_true rfl, Nat.le_of_ble_eq_true rfl⟩ 0 3 rfl rfl rfl rfl (Nat.le_of_ble_eq_true rfl) dX3_isNear_53 ⟨Nat.le_of_ble_eq_true rfl, Nat.le_of_ble_eq_true rfl⟩ (fun H locs hW => ?_)
        have hW : kw D A s.heap (wM c a φ δ) H locs := hW
        refine kb_eq S (tgt := 63) dX3_isNear_56 (by decide) (fun c_56 => ?_) (fun c_56 => ?_)
        · refine lv_iconst (v := nI (0)) S.1 S.2.1 dX3_isNear_63 rfl ?_
          refine k_top (y := nI ((near (φ 0) t j p (k + 1)).toNat)) (by rw [show near (φ 0) t j p (k + 1) = false from by simp [near, *]]; rfl) ?_
          refine lv_istore (lv' := [(4, .int (nI (near (φ 0) t j p (k + 1)).toNat)), (0, .ref (a 0)), (1, .int (nI (t))), (2, .int (nI (j))), (3, .int (nI (p))), (5, .int (nI (1 + k)))]) S.1 S.2.1 dX3_isNear_64 hl (by decide) rfl (fun ls hl => ?_)
          refine lv_iinc (v := nI (1 + k + 1)) (lv' := [(5, .int (nI (1 + k + 1))), (4, .int (nI (near (φ 0) t j p (k + 1)).toNat)), (0, .ref (a 0)), (1, .int (nI (t))), (2, .int (nI (j))), (3, .int (nI (p)))]) S.1 S.2.1 dX3_isNear_66 hl (k := 5) rfl (nI_add _ _) (by decide) rfl (fun ls hl => ?_)
          refine lv_goto (tgt := 6) S.1 S.2.1 dX3_isNear_69 (by decide) ?_
          exact ih6 (k + 1) _ _ _ ⟨hW, lv_sub hl [2, 3, 4, 5, 1, 0] rfl, (by omega)⟩ (by show 8 - (k + 1) < 8 - k; omega)
        · refine lv_iconst (v := nI (1)) S.1 S.2.1 dX3_isNear_59 rfl ?_
          refine k_top (y := nI ((near (φ 0) t j p (k + 1)).toNat)) (by rw [show near (φ 0) t j p (k + 1) = true from by simp [near, *]]; rfl) ?_
          refine lv_goto (tgt := 64) S.1 S.2.1 dX3_isNear_60 (by decide) ?_
          refine lv_istore (lv' := [(4, .int (nI (near (φ 0) t j p (k + 1)).toNat)), (0, .ref (a 0)), (1, .int (nI (t))), (2, .int (nI (j))), (3, .int (nI (p))), (5, .int (nI (1 + k)))]) S.1 S.2.1 dX3_isNear_64 hl (by decide) rfl (fun ls hl => ?_)
          refine lv_iinc (v := nI (1 + k + 1)) (lv' := [(5, .int (nI (1 + k + 1))), (4, .int (nI (near (φ 0) t j p (k + 1)).toNat)), (0, .ref (a 0)), (1, .int (nI (t))), (2, .int (nI (j))), (3, .int (nI (p)))]) S.1 S.2.1 dX3_isNear_66 hl (k := 5) rfl (nI_add _ _) (by decide) rfl (fun ls hl => ?_)
          refine lv_goto (tgt := 6) S.1 S.2.1 dX3_isNear_69 (by decide) ?_
          exact ih6 (k + 1) _ _ _ ⟨hW, lv_sub hl [2, 3, 4, 5, 1, 0] rfl, (by omega)⟩ (by show 8 - (k + 1) < 8 - k; omega)
abbrev rmX3_hindrance : Room := { frames := 3, cells := 0, slots := 0, locals := 69 }
theorem pdX3_hindrance : kPd yX3_hindrance 3 := by decide +kernel
set_option maxHeartbeats 4000000 in
set_option maxRecDepth 100000 in
theorem mX3_hindrance (l : Launch) (D : va_G) (c : Nat → ClassId) (a : Nat → Nat) (φ : Nat → Nat → Nat) (δ : Int64) (sz : Nat) (t : Nat) (j : Nat) (p : Nat) (ht : t < 3) (hj : j < 12) (hp : p < 32) (ok : okM (φ 0)) : MI l yX3_hindrance wsX3_hindrance rmX3_hindrance D c sz (wM c a φ δ) [.ref (a 0), .int (nI (t)), .int (nI (j)), .int (nI (p))] (nI (hind (φ 0) t j p)) (wM c a φ δ) := by
  refine MI.of (cc := cX3_hindrance) (maxL := 4) (ty := .int) (by decide) rfl (Nat.le_of_ble_eq_true rfl) rfl ?_
  intro P e s m below meth cd A Q ls hsz S hK hW hA hl hret
  have hl : lv_has ls 4 [(0, .ref (a 0)), (1, .int (nI (t))), (2, .int (nI (j))), (3, .int (nI (p)))] := hl
  have hinX3 : ∀ w ∈ u_ws RX3 TX3 13, w ∈ wsX3_hindrance := by decide +kernel
  have h6 := ok.k146
  have h7 := ones_le (mk (fun j => pb (φ 0) t j p) 12)
  have h8 := mk_lt (fun j => pb (φ 0) t j p) 12
  refine lv_aload_n S.1 S.2.1 dX3_hindrance_0 rfl (lv_at hl 0 rfl) ?_
  refine lv_iload_n S.1 S.2.1 dX3_hindrance_1 rfl (lv_at hl 1 rfl) ?_
  refine lv_iload_n S.1 S.2.1 dX3_hindrance_2 rfl (lv_at hl 2 rfl) ?_
  refine lv_iload_n S.1 S.2.1 dX3_hindrance_3 rfl (lv_at hl 3 rfl) ?_
  refine k_VI (rest := []) S hK hl.1 hW (KFr.all hW hA) (mX3_isPin l D c a φ δ _ t j p (by omega) (by omega) (by omega)) gX3_hindrance_X3_isPin rfl pdX3_isPin ⟨⟨rfl, rfl⟩, Nat.le_of_ble_eq_true rfl, Nat.le_of_ble_eq_true rfl⟩ 0 3 rfl rfl rfl rfl (Nat.le_of_ble_eq_true rfl) dX3_hindrance_4 ⟨Nat.le_of_ble_eq_true rfl, Nat.le_of_ble_eq_true rfl⟩ (fun H locs hW => ?_)
  have hW : kw D A s.heap (wM c a φ δ) H locs := hW
  refine kb_ne S (tgt := 20) dX3_hindrance_7 (by decide) (fun c_7 => ?_) (fun c_7 => ?_)
  · refine lv_aload_n S.1 S.2.1 dX3_hindrance_20 rfl (lv_at hl 0 rfl) ?_
    refine lv_iload_n S.1 S.2.1 dX3_hindrance_21 rfl (lv_at hl 1 rfl) ?_
    refine lv_iload_n S.1 S.2.1 dX3_hindrance_22 rfl (lv_at hl 2 rfl) ?_
    refine lv_iload_n S.1 S.2.1 dX3_hindrance_23 rfl (lv_at hl 3 rfl) ?_
    refine k_VI (rest := []) S hK hl.1 hW (KFr.all hW hA) (mX3_isPin l D c a φ δ _ t j p (by omega) (by omega) (by omega)) gX3_hindrance_X3_isPin rfl pdX3_isPin ⟨⟨rfl, rfl⟩, Nat.le_of_ble_eq_true rfl, Nat.le_of_ble_eq_true rfl⟩ 0 3 rfl rfl rfl rfl (Nat.le_of_ble_eq_true rfl) dX3_hindrance_24 ⟨Nat.le_of_ble_eq_true rfl, Nat.le_of_ble_eq_true rfl⟩ (fun H locs hW => ?_)
    have hW : kw D A s.heap (wM c a φ δ) H locs := hW
    refine kb_eq S (tgt := 34) dX3_hindrance_27 (by decide) (fun c_27 => ?_) (fun c_27 => ?_)
    · refine lv_iconst (v := nI (2)) S.1 S.2.1 dX3_hindrance_34 rfl ?_
      exact hret 35 _ _ _ _ _ dX3_hindrance_35 hW (congrArg nI (by unfold hind; simp_all)) (rfl)
    · refine lv_iconst (v := nI (1)) S.1 S.2.1 dX3_hindrance_30 rfl ?_
      refine lv_goto (tgt := 35) S.1 S.2.1 dX3_hindrance_31 (by decide) ?_
      exact hret 35 _ _ _ _ _ dX3_hindrance_35 hW (congrArg nI (by unfold hind; simp_all)) (rfl)
  · refine lv_aload_n S.1 S.2.1 dX3_hindrance_10 rfl (lv_at hl 0 rfl) ?_
    refine lv_iload_n S.1 S.2.1 dX3_hindrance_11 rfl (lv_at hl 1 rfl) ?_
    refine lv_iload_n S.1 S.2.1 dX3_hindrance_12 rfl (lv_at hl 2 rfl) ?_
    refine lv_iload_n S.1 S.2.1 dX3_hindrance_13 rfl (lv_at hl 3 rfl) ?_
    refine k_VI (rest := []) S hK hl.1 hW (KFr.all hW hA) (mX3_isNear l D c a φ δ _ t j p (by omega) (by omega) (by omega) (by omega)) gX3_hindrance_X3_isNear rfl pdX3_isNear ⟨⟨rfl, rfl⟩, Nat.le_of_ble_eq_true rfl, Nat.le_of_ble_eq_true rfl⟩ 0 3 rfl rfl rfl rfl (Nat.le_of_ble_eq_true rfl) dX3_hindrance_14 ⟨Nat.le_of_ble_eq_true rfl, Nat.le_of_ble_eq_true rfl⟩ (fun H locs hW => ?_)
    have hW : kw D A s.heap (wM c a φ δ) H locs := hW
    refine kb_eq S (tgt := 36) dX3_hindrance_17 (by decide) (fun c_17 => ?_) (fun c_17 => ?_)
    · refine lv_aload_n S.1 S.2.1 dX3_hindrance_36 rfl (lv_at hl 0 rfl) ?_
      refine lv_iload_n S.1 S.2.1 dX3_hindrance_37 rfl (lv_at hl 1 rfl) ?_
      refine lv_iload_n S.1 S.2.1 dX3_hindrance_38 rfl (lv_at hl 3 rfl) ?_
      refine k_VI (rest := []) S hK hl.1 hW (KFr.all hW hA) (mX3_pinsAt l D c a φ δ _ t p (by omega) (by omega)) gX3_hindrance_X3_pinsAt rfl pdX3_pinsAt ⟨⟨rfl, rfl⟩, Nat.le_of_ble_eq_true rfl, Nat.le_of_ble_eq_true rfl⟩ 0 3 rfl rfl rfl rfl (Nat.le_of_ble_eq_true rfl) dX3_hindrance_39 ⟨Nat.le_of_ble_eq_true rfl, Nat.le_of_ble_eq_true rfl⟩ (fun H locs hW => ?_)
      have hW : kw D A s.heap (wM c a φ δ) H locs := hW
      refine k_SI (rest := []) S hK hl.1 hW (KFr.nil hW hA) (mX3_ones l D c  _ (mk (fun j => pb (φ 0) t j p) 12)) gX3_hindrance_X3_ones rfl pdX3_ones ⟨⟨rfl, rfl⟩, Nat.le_of_ble_eq_true rfl, Nat.le_of_ble_eq_true rfl⟩ rfl (Nat.le_of_ble_eq_true rfl) dX3_hindrance_42 ⟨Nat.le_of_ble_eq_true rfl, Nat.le_of_ble_eq_true rfl⟩ (fun H locs hW => ?_)
      have hW : kw D A s.heap (wM c a φ δ) H locs := hW
      refine lv_aload_n S.1 S.2.1 dX3_hindrance_45 rfl (lv_at hl 0 rfl) ?_
      refine kx_get S hK hW hinX3 0 3 rfl rfl 1 (by decide) (List.mem_of_getElem? (i := 1) rfl) (v := .ref (a 1)) rfl dX3_hindrance_46 ?_
      refine lv_sipush (v := nI (146)) S.1 S.2.1 dX3_hindrance_49 rfl ?_
      refine kn_ald S hK hW 1 (f := φ 0) rfl (by omega) (by decide) dX3_hindrance_52 ?_
      refine kn_lt S (tgt := 60) dX3_hindrance_53 (by decide) (by omega) (by omega) (fun c_53 => ?_) (fun c_53 => ?_)
      · refine lv_iconst (v := nI (0)) S.1 S.2.1 dX3_hindrance_60 rfl ?_
        exact hret 61 _ _ _ _ _ dX3_hindrance_61 hW (congrArg nI (by unfold hind; simp [*]; done)) (rfl)
      · refine lv_iconst (v := nI (3)) S.1 S.2.1 dX3_hindrance_56 rfl ?_
        refine lv_goto (tgt := 61) S.1 S.2.1 dX3_hindrance_57 (by decide) ?_
        exact hret 61 _ _ _ _ _ dX3_hindrance_61 hW (congrArg nI (by unfold hind; simp [*]; done)) (rfl)
    · refine lv_aload_n S.1 S.2.1 dX3_hindrance_20 rfl (lv_at hl 0 rfl) ?_
      refine lv_iload_n S.1 S.2.1 dX3_hindrance_21 rfl (lv_at hl 1 rfl) ?_
      refine lv_iload_n S.1 S.2.1 dX3_hindrance_22 rfl (lv_at hl 2 rfl) ?_
      refine lv_iload_n S.1 S.2.1 dX3_hindrance_23 rfl (lv_at hl 3 rfl) ?_
      refine k_VI (rest := []) S hK hl.1 hW (KFr.all hW hA) (mX3_isPin l D c a φ δ _ t j p (by omega) (by omega) (by omega)) gX3_hindrance_X3_isPin rfl pdX3_isPin ⟨⟨rfl, rfl⟩, Nat.le_of_ble_eq_true rfl, Nat.le_of_ble_eq_true rfl⟩ 0 3 rfl rfl rfl rfl (Nat.le_of_ble_eq_true rfl) dX3_hindrance_24 ⟨Nat.le_of_ble_eq_true rfl, Nat.le_of_ble_eq_true rfl⟩ (fun H locs hW => ?_)
      have hW : kw D A s.heap (wM c a φ δ) H locs := hW
      refine kb_eq S (tgt := 34) dX3_hindrance_27 (by decide) (fun c_27 => ?_) (fun c_27 => ?_)
      · refine lv_iconst (v := nI (2)) S.1 S.2.1 dX3_hindrance_34 rfl ?_
        exact hret 35 _ _ _ _ _ dX3_hindrance_35 hW (congrArg nI (by unfold hind; simp_all)) (rfl)
      · refine lv_iconst (v := nI (1)) S.1 S.2.1 dX3_hindrance_30 rfl ?_
        refine lv_goto (tgt := 35) S.1 S.2.1 dX3_hindrance_31 (by decide) ?_
        exact hret 35 _ _ _ _ _ dX3_hindrance_35 hW (congrArg nI (by unfold hind; simp_all)) (rfl)
abbrev rmX3_pinsOf : Room := { frames := 1, cells := 0, slots := 0, locals := 22 }
theorem pdX3_pinsOf : kPd yX3_pinsOf 1 := by decide +kernel
set_option maxHeartbeats 4000000 in
set_option maxRecDepth 100000 in
theorem mX3_pinsOf (l : Launch) (D : va_G) (c : Nat → ClassId) (a : Nat → Nat) (φ : Nat → Nat → Nat) (δ : Int64) (sz : Nat) (t : Nat) (ht : t < 3) : MI l yX3_pinsOf wsX3_pinsOf rmX3_pinsOf D c sz (wM c a φ δ) [.ref (a 0), .int (nI (t))] (nI (pins (φ 0) t)) (wM c a φ δ) := by
  refine MI.of (cc := cX3_pinsOf) (maxL := 4) (ty := .int) (by decide) rfl (Nat.le_of_ble_eq_true rfl) rfl ?_
  intro P e s m below meth cd A Q ls hsz S hK hW hA hl hret
  have hl : lv_has ls 4 [(0, .ref (a 0)), (1, .int (nI (t)))] := hl
  have hinX3 : ∀ w ∈ u_ws RX3 TX3 13, w ∈ wsX3_pinsOf := by decide +kernel
  refine lv_iconst (v := nI (0)) S.1 S.2.1 dX3_pinsOf_0 rfl ?_
  refine lv_istore_n (lv' := [(2, .int (nI (0))), (0, .ref (a 0)), (1, .int (nI (t)))]) S.1 S.2.1 dX3_pinsOf_1 rfl hl (by decide) rfl (fun ls hl => ?_)
  refine lv_iconst (v := nI (0)) S.1 S.2.1 dX3_pinsOf_2 rfl ?_
  refine lv_istore_n (lv' := [(3, .int (nI (0))), (2, .int (nI (0))), (0, .ref (a 0)), (1, .int (nI (t)))]) S.1 S.2.1 dX3_pinsOf_3 rfl hl (by decide) rfl (fun ls hl => ?_)
  refine k_loop (fun (zz : Nat) H lo ls => match zz with | k => kw D A s.heap (wM c a φ δ) H lo ∧ lv_has ls 4 [(0, .ref (a 0)), (1, .int (nI (t))), (2, .int (nI (sm (fun j => ones (φ 0 (12 * t + j))) k))), (3, .int (nI (k)))] ∧ k ≤ 12) (fun (zz : Nat) => match zz with | k => 12 - k) [] ?_ 0 _ _ _ ⟨hW, lv_sub hl [2, 3, 1, 0] rfl, (by decide)⟩
  rintro k ih4 H locs ls ⟨hW, hl, hi4_0⟩
  refine lv_iload_n S.1 S.2.1 dX3_pinsOf_4 rfl (lv_at hl 3 rfl) ?_
  refine lv_bipush (v := nI (12)) S.1 S.2.1 dX3_pinsOf_5 rfl ?_
  refine kn_ge S (tgt := 32) dX3_pinsOf_7 (by decide) (by omega) (by omega) (fun c_7 => ?_) (fun c_7 => ?_)
  · have e9 : k = 12 := by omega
    subst e9
    refine lv_iload_n S.1 S.2.1 dX3_pinsOf_32 rfl (lv_at hl 2 rfl) ?_
    exact hret 33 _ _ _ _ _ dX3_pinsOf_33 hW (rfl) (rfl)
  · refine lv_iload_n S.1 S.2.1 dX3_pinsOf_10 rfl (lv_at hl 2 rfl) ?_
    refine lv_aload_n S.1 S.2.1 dX3_pinsOf_11 rfl (lv_at hl 0 rfl) ?_
    refine kx_get S hK hW hinX3 0 3 rfl rfl 1 (by decide) (List.mem_of_getElem? (i := 1) rfl) (v := .ref (a 1)) rfl dX3_pinsOf_12 ?_
    refine lv_iload_n S.1 S.2.1 dX3_pinsOf_15 rfl (lv_at hl 1 rfl) ?_
    refine lv_iload_n S.1 S.2.1 dX3_pinsOf_16 rfl (lv_at hl 3 rfl) ?_
    refine k_SI (rest := [.ref (a 1), .int (nI (sm (fun j => ones (φ 0 (12 * t + j))) k))]) S hK hl.1 hW (KFr.nil hW hA) (mX3_ofPins l D c  _ t k) gX3_pinsOf_X3_ofPins rfl pdX3_ofPins ⟨⟨rfl, rfl⟩, Nat.le_of_ble_eq_true rfl, Nat.le_of_ble_eq_true rfl⟩ rfl (Nat.le_of_ble_eq_true rfl) dX3_pinsOf_17 ⟨Nat.le_of_ble_eq_true rfl, Nat.le_of_ble_eq_true rfl⟩ (fun H locs hW => ?_)
    have hW : kw D A s.heap (wM c a φ δ) H locs := hW
    refine kn_ald S hK hW 1 (f := φ 0) rfl (by omega) (by decide) dX3_pinsOf_20 ?_
    refine k_SI (rest := [.int (nI (sm (fun j => ones (φ 0 (12 * t + j))) k))]) S hK hl.1 hW (KFr.nil hW hA) (mX3_ones l D c  _ (φ 0 (12 * t + k))) gX3_pinsOf_X3_ones rfl pdX3_ones ⟨⟨rfl, rfl⟩, Nat.le_of_ble_eq_true rfl, Nat.le_of_ble_eq_true rfl⟩ rfl (Nat.le_of_ble_eq_true rfl) dX3_pinsOf_21 ⟨Nat.le_of_ble_eq_true rfl, Nat.le_of_ble_eq_true rfl⟩ (fun H locs hW => ?_)
    have hW : kw D A s.heap (wM c a φ δ) H locs := hW
    refine kn_iadd S dX3_pinsOf_24 ?_
    refine lv_istore_n (lv' := [(2, .int (nI (sm (fun j => ones (φ 0 (12 * t + j))) k + (ones (φ 0 (12 * t + k)))))), (0, .ref (a 0)), (1, .int (nI (t))), (3, .int (nI (k)))]) S.1 S.2.1 dX3_pinsOf_25 rfl hl (by decide) rfl (fun ls hl => ?_)
    refine lv_iinc (v := nI (k + 1)) (lv' := [(3, .int (nI (k + 1))), (2, .int (nI (sm (fun j => ones (φ 0 (12 * t + j))) k + (ones (φ 0 (12 * t + k)))))), (0, .ref (a 0)), (1, .int (nI (t)))]) S.1 S.2.1 dX3_pinsOf_26 hl (k := 3) rfl (nI_add _ _) (by decide) rfl (fun ls hl => ?_)
    refine lv_goto (tgt := 4) S.1 S.2.1 dX3_pinsOf_29 (by decide) ?_
    exact ih4 (k + 1) _ _ _ ⟨hW, lv_sub hl [2, 3, 1, 0] rfl, (by omega)⟩ (by show 12 - (k + 1) < 12 - k; omega)
abbrev rmX3_allPins : Room := { frames := 2, cells := 0, slots := 0, locals := 45 }
theorem pdX3_allPins : kPd yX3_allPins 0 := by decide +kernel
set_option maxHeartbeats 4000000 in
set_option maxRecDepth 100000 in
theorem mX3_allPins (l : Launch) (D : va_G) (c : Nat → ClassId) (a : Nat → Nat) (φ : Nat → Nat → Nat) (δ : Int64) (sz : Nat) : MI l yX3_allPins wsX3_allPins rmX3_allPins D c sz (wM c a φ δ) [.ref (a 0)] (nI (allp (φ 0))) (wM c a φ δ) := by
  refine MI.of (cc := cX3_allPins) (maxL := 1) (ty := .int) (by decide) rfl (Nat.le_of_ble_eq_true rfl) rfl ?_
  intro P e s m below meth cd A Q ls hsz S hK hW hA hl hret
  have hl : lv_has ls 1 [(0, .ref (a 0))] := hl
  refine lv_aload_n S.1 S.2.1 dX3_allPins_0 rfl (lv_at hl 0 rfl) ?_
  refine lv_iconst (v := nI (0)) S.1 S.2.1 dX3_allPins_1 rfl ?_
  refine k_VI (rest := []) S hK hl.1 hW (KFr.all hW hA) (mX3_pinsOf l D c a φ δ _ 0 (by omega)) gX3_allPins_X3_pinsOf rfl pdX3_pinsOf ⟨⟨rfl, rfl⟩, Nat.le_of_ble_eq_true rfl, Nat.le_of_ble_eq_true rfl⟩ 0 3 rfl rfl rfl rfl (Nat.le_of_ble_eq_true rfl) dX3_allPins_2 ⟨Nat.le_of_ble_eq_true rfl, Nat.le_of_ble_eq_true rfl⟩ (fun H locs hW => ?_)
  have hW : kw D A s.heap (wM c a φ δ) H locs := hW
  refine lv_aload_n S.1 S.2.1 dX3_allPins_5 rfl (lv_at hl 0 rfl) ?_
  refine lv_iconst (v := nI (1)) S.1 S.2.1 dX3_allPins_6 rfl ?_
  refine k_VI (rest := [.int (nI (pins (φ 0) 0))]) S hK hl.1 hW (KFr.all hW hA) (mX3_pinsOf l D c a φ δ _ 1 (by omega)) gX3_allPins_X3_pinsOf rfl pdX3_pinsOf ⟨⟨rfl, rfl⟩, Nat.le_of_ble_eq_true rfl, Nat.le_of_ble_eq_true rfl⟩ 0 3 rfl rfl rfl rfl (Nat.le_of_ble_eq_true rfl) dX3_allPins_7 ⟨Nat.le_of_ble_eq_true rfl, Nat.le_of_ble_eq_true rfl⟩ (fun H locs hW => ?_)
  have hW : kw D A s.heap (wM c a φ δ) H locs := hW
  refine kn_iadd S dX3_allPins_10 ?_
  refine lv_aload_n S.1 S.2.1 dX3_allPins_11 rfl (lv_at hl 0 rfl) ?_
  refine lv_iconst (v := nI (2)) S.1 S.2.1 dX3_allPins_12 rfl ?_
  refine k_VI (rest := [.int (nI (pins (φ 0) 0 + pins (φ 0) 1))]) S hK hl.1 hW (KFr.all hW hA) (mX3_pinsOf l D c a φ δ _ 2 (by omega)) gX3_allPins_X3_pinsOf rfl pdX3_pinsOf ⟨⟨rfl, rfl⟩, Nat.le_of_ble_eq_true rfl, Nat.le_of_ble_eq_true rfl⟩ 0 3 rfl rfl rfl rfl (Nat.le_of_ble_eq_true rfl) dX3_allPins_13 ⟨Nat.le_of_ble_eq_true rfl, Nat.le_of_ble_eq_true rfl⟩ (fun H locs hW => ?_)
  have hW : kw D A s.heap (wM c a φ δ) H locs := hW
  refine kn_iadd S dX3_allPins_16 ?_
  exact hret 17 _ _ _ _ _ dX3_allPins_17 hW (rfl) (rfl)
abbrev rmX3_nextStep : Room := { frames := 0, cells := 0, slots := 0, locals := 0 }
theorem pdX3_nextStep : kPd yX3_nextStep 0 := by decide +kernel
set_option maxHeartbeats 4000000 in
set_option maxRecDepth 100000 in
theorem mX3_nextStep (l : Launch) (D : va_G) (c : Nat → ClassId) (a : Nat → Nat) (φ : Nat → Nat → Nat) (δ : Int64) (sz : Nat) (ok : okM (φ 0)) : MI l yX3_nextStep wsX3_nextStep rmX3_nextStep D c sz (wM c a φ δ) [.ref (a 0)] (nI ((φ 0 133 + 1) % 32)) (wM c a φ δ) := by
  refine MI.of (cc := cX3_nextStep) (maxL := 1) (ty := .int) (by decide) rfl (Nat.le_of_ble_eq_true rfl) rfl ?_
  intro P e s m below meth cd A Q ls hsz S hK hW hA hl hret
  have hl : lv_has ls 1 [(0, .ref (a 0))] := hl
  have hinX3 : ∀ w ∈ u_ws RX3 TX3 13, w ∈ wsX3_nextStep := by decide +kernel
  have h3 := ok.k133
  refine lv_aload_n S.1 S.2.1 dX3_nextStep_0 rfl (lv_at hl 0 rfl) ?_
  refine kx_get S hK hW hinX3 0 3 rfl rfl 1 (by decide) (List.mem_of_getElem? (i := 1) rfl) (v := .ref (a 1)) rfl dX3_nextStep_1 ?_
  refine lv_sipush (v := nI (133)) S.1 S.2.1 dX3_nextStep_4 rfl ?_
  refine kn_ald S hK hW 1 (f := φ 0) rfl (by omega) (by decide) dX3_nextStep_7 ?_
  refine lv_iconst (v := nI (1)) S.1 S.2.1 dX3_nextStep_8 rfl ?_
  refine kn_iadd S dX3_nextStep_9 ?_
  refine lv_bipush (v := nI (32)) S.1 S.2.1 dX3_nextStep_10 rfl ?_
  refine kn_irem S dX3_nextStep_12 (by omega) (by omega) (by omega) ?_
  exact hret 13 _ _ _ _ _ dX3_nextStep_13 hW (rfl) (rfl)
abbrev rmX3_nextTune : Room := { frames := 1, cells := 0, slots := 0, locals := 20 }
theorem pdX3_nextTune : kPd yX3_nextTune 0 := by decide +kernel
set_option maxHeartbeats 4000000 in
set_option maxRecDepth 100000 in
theorem mX3_nextTune (l : Launch) (D : va_G) (c : Nat → ClassId) (a : Nat → Nat) (φ : Nat → Nat → Nat) (δ : Int64) (sz : Nat) (ok : okM (φ 0)) : MI l yX3_nextTune wsX3_nextTune rmX3_nextTune D c sz (wM c a φ δ) [.ref (a 0)] (nI (ntu (φ 0))) (wM c a φ δ) := by
  refine MI.of (cc := cX3_nextTune) (maxL := 1) (ty := .int) (by decide) rfl (Nat.le_of_ble_eq_true rfl) rfl ?_
  intro P e s m below meth cd A Q ls hsz S hK hW hA hl hret
  have hl : lv_has ls 1 [(0, .ref (a 0))] := hl
  have hinX3 : ∀ w ∈ u_ws RX3 TX3 13, w ∈ wsX3_nextTune := by decide +kernel
  have h4 := ok.k134
  have h5 := ok.k144
  refine lv_aload_n S.1 S.2.1 dX3_nextTune_0 rfl (lv_at hl 0 rfl) ?_
  refine k_VI (rest := []) S hK hl.1 hW (KFr.all hW hA) (mX3_nextStep l D c a φ δ _ (by omega)) gX3_nextTune_X3_nextStep rfl pdX3_nextStep ⟨⟨rfl, rfl⟩, Nat.le_of_ble_eq_true rfl, Nat.le_of_ble_eq_true rfl⟩ 0 3 rfl rfl rfl rfl (Nat.le_of_ble_eq_true rfl) dX3_nextTune_1 ⟨Nat.le_of_ble_eq_true rfl, Nat.le_of_ble_eq_true rfl⟩ (fun H locs hW => ?_)
  have hW : kw D A s.heap (wM c a φ δ) H locs := hW
  refine kz_ne S (tgt := 33) dX3_nextTune_4 (by decide) (by omega) (fun c_4 => ?_) (fun c_4 => ?_)
  · refine lv_aload_n S.1 S.2.1 dX3_nextTune_33 rfl (lv_at hl 0 rfl) ?_
    refine kx_get S hK hW hinX3 0 3 rfl rfl 1 (by decide) (List.mem_of_getElem? (i := 1) rfl) (v := .ref (a 1)) rfl dX3_nextTune_34 ?_
    refine lv_sipush (v := nI (134)) S.1 S.2.1 dX3_nextTune_37 rfl ?_
    refine kn_ald S hK hW 1 (f := φ 0) rfl (by omega) (by decide) dX3_nextTune_40 ?_
    exact hret 41 _ _ _ _ _ dX3_nextTune_41 hW (congrArg nI (by simp [ntu, *])) (rfl)
  · refine lv_aload_n S.1 S.2.1 dX3_nextTune_7 rfl (lv_at hl 0 rfl) ?_
    refine kx_get S hK hW hinX3 0 3 rfl rfl 1 (by decide) (List.mem_of_getElem? (i := 1) rfl) (v := .ref (a 1)) rfl dX3_nextTune_8 ?_
    refine lv_sipush (v := nI (144)) S.1 S.2.1 dX3_nextTune_11 rfl ?_
    refine kn_ald S hK hW 1 (f := φ 0) rfl (by omega) (by decide) dX3_nextTune_14 ?_
    refine kz_eq S (tgt := 33) dX3_nextTune_15 (by decide) (by omega) (fun c_15 => ?_) (fun c_15 => ?_)
    · refine lv_aload_n S.1 S.2.1 dX3_nextTune_33 rfl (lv_at hl 0 rfl) ?_
      refine kx_get S hK hW hinX3 0 3 rfl rfl 1 (by decide) (List.mem_of_getElem? (i := 1) rfl) (v := .ref (a 1)) rfl dX3_nextTune_34 ?_
      refine lv_sipush (v := nI (134)) S.1 S.2.1 dX3_nextTune_37 rfl ?_
      refine kn_ald S hK hW 1 (f := φ 0) rfl (by omega) (by decide) dX3_nextTune_40 ?_
      exact hret 41 _ _ _ _ _ dX3_nextTune_41 hW (congrArg nI (by simp [ntu, *])) (rfl)
    · refine lv_aload_n S.1 S.2.1 dX3_nextTune_18 rfl (lv_at hl 0 rfl) ?_
      refine kx_get S hK hW hinX3 0 3 rfl rfl 1 (by decide) (List.mem_of_getElem? (i := 1) rfl) (v := .ref (a 1)) rfl dX3_nextTune_19 ?_
      refine lv_sipush (v := nI (134)) S.1 S.2.1 dX3_nextTune_22 rfl ?_
      refine kn_ald S hK hW 1 (f := φ 0) rfl (by omega) (by decide) dX3_nextTune_25 ?_
      refine lv_iconst (v := nI (1)) S.1 S.2.1 dX3_nextTune_26 rfl ?_
      refine kn_iadd S dX3_nextTune_27 ?_
      refine lv_iconst (v := nI (3)) S.1 S.2.1 dX3_nextTune_28 rfl ?_
      refine kn_irem S dX3_nextTune_29 (by omega) (by omega) (by omega) ?_
      refine lv_goto (tgt := 41) S.1 S.2.1 dX3_nextTune_30 (by decide) ?_
      exact hret 41 _ _ _ _ _ dX3_nextTune_41 hW (congrArg nI (by simp [ntu, *])) (rfl)
abbrev rmX3_need : Room := { frames := 2, cells := 0, slots := 0, locals := 44 }
theorem pdX3_need : kPd yX3_need 0 := by decide +kernel
set_option maxHeartbeats 4000000 in
set_option maxRecDepth 100000 in
theorem mX3_need (l : Launch) (D : va_G) (c : Nat → ClassId) (a : Nat → Nat) (φ : Nat → Nat → Nat) (δ : Int64) (sz : Nat) (ok : okM (φ 0)) : MI l yX3_need wsX3_need rmX3_need D c sz (wM c a φ δ) [.ref (a 0)] (nI (need (φ 0))) (wM c a φ δ) := by
  refine MI.of (cc := cX3_need) (maxL := 3) (ty := .int) (by decide) rfl (Nat.le_of_ble_eq_true rfl) rfl ?_
  intro P e s m below meth cd A Q ls hsz S hK hW hA hl hret
  have hl : lv_has ls 3 [(0, .ref (a 0))] := hl
  have hinX3 : ∀ w ∈ u_ws RX3 TX3 13, w ∈ wsX3_need := by decide +kernel
  have hn := ntu_lt ok
  refine lv_iconst (v := nI (1)) S.1 S.2.1 dX3_need_0 rfl ?_
  refine lv_istore_n (lv' := [(1, .int (nI (1))), (0, .ref (a 0))]) S.1 S.2.1 dX3_need_1 rfl hl (by decide) rfl (fun ls hl => ?_)
  refine lv_iconst (v := nI (0)) S.1 S.2.1 dX3_need_2 rfl ?_
  refine lv_istore_n (lv' := [(2, .int (nI (0))), (1, .int (nI (1))), (0, .ref (a 0))]) S.1 S.2.1 dX3_need_3 rfl hl (by decide) rfl (fun ls hl => ?_)
  refine k_loop (fun (zz : Nat) H lo ls => match zz with | k => kw D A s.heap (wM c a φ δ) H lo ∧ lv_has ls 3 [(0, .ref (a 0)), (1, .int (nI (1 + ct (strk (φ 0)) k))), (2, .int (nI (k)))] ∧ k ≤ 12) (fun (zz : Nat) => match zz with | k => 12 - k) [] ?_ 0 _ _ _ ⟨hW, lv_sub hl [2, 1, 0] rfl, (by decide)⟩
  rintro k ih4 H locs ls ⟨hW, hl, hi4_0⟩
  refine lv_iload_n S.1 S.2.1 dX3_need_4 rfl (lv_at hl 2 rfl) ?_
  refine lv_bipush (v := nI (12)) S.1 S.2.1 dX3_need_5 rfl ?_
  refine kn_ge S (tgt := 53) dX3_need_7 (by decide) (by omega) (by omega) (fun c_7 => ?_) (fun c_7 => ?_)
  · have e9 : k = 12 := by omega
    subst e9
    refine lv_iload_n S.1 S.2.1 dX3_need_53 rfl (lv_at hl 1 rfl) ?_
    exact hret 54 _ _ _ _ _ dX3_need_54 hW (rfl) (rfl)
  · have hk2 := ok.broken c_7
    refine lv_iload_n S.1 S.2.1 dX3_need_10 rfl (lv_at hl 1 rfl) ?_
    refine lv_aload_n S.1 S.2.1 dX3_need_11 rfl (lv_at hl 0 rfl) ?_
    refine lv_aload_n S.1 S.2.1 dX3_need_12 rfl (lv_at hl 0 rfl) ?_
    refine k_VI (rest := [.ref (a 0), .int (nI (1 + ct (strk (φ 0)) k))]) S hK hl.1 hW (KFr.all hW hA) (mX3_nextTune l D c a φ δ _ (by omega)) gX3_need_X3_nextTune rfl pdX3_nextTune ⟨⟨rfl, rfl⟩, Nat.le_of_ble_eq_true rfl, Nat.le_of_ble_eq_true rfl⟩ 0 3 rfl rfl rfl rfl (Nat.le_of_ble_eq_true rfl) dX3_need_13 ⟨Nat.le_of_ble_eq_true rfl, Nat.le_of_ble_eq_true rfl⟩ (fun H locs hW => ?_)
    have hW : kw D A s.heap (wM c a φ δ) H locs := hW
    refine lv_iload_n S.1 S.2.1 dX3_need_16 rfl (lv_at hl 2 rfl) ?_
    refine lv_aload_n S.1 S.2.1 dX3_need_17 rfl (lv_at hl 0 rfl) ?_
    refine k_VI (rest := [.int (nI (k)), .int (nI (ntu (φ 0))), .ref (a 0), .int (nI (1 + ct (strk (φ 0)) k))]) S hK hl.1 hW (KFr.all hW hA) (mX3_nextStep l D c a φ δ _ (by omega)) gX3_need_X3_nextStep rfl pdX3_nextStep ⟨⟨rfl, rfl⟩, Nat.le_of_ble_eq_true rfl, Nat.le_of_ble_eq_true rfl⟩ 0 3 rfl rfl rfl rfl (Nat.le_of_ble_eq_true rfl) dX3_need_18 ⟨Nat.le_of_ble_eq_true rfl, Nat.le_of_ble_eq_true rfl⟩ (fun H locs hW => ?_)
    have hW : kw D A s.heap (wM c a φ δ) H locs := hW
    refine k_VI (rest := [.int (nI (1 + ct (strk (φ 0)) k))]) S hK hl.1 hW (KFr.all hW hA) (mX3_isPin l D c a φ δ _ (ntu (φ 0)) k ((φ 0 133 + 1) % 32) (by omega) (by omega) (by omega)) gX3_need_X3_isPin rfl pdX3_isPin ⟨⟨rfl, rfl⟩, Nat.le_of_ble_eq_true rfl, Nat.le_of_ble_eq_true rfl⟩ 0 3 rfl rfl rfl rfl (Nat.le_of_ble_eq_true rfl) dX3_need_21 ⟨Nat.le_of_ble_eq_true rfl, Nat.le_of_ble_eq_true rfl⟩ (fun H locs hW => ?_)
    have hW : kw D A s.heap (wM c a φ δ) H locs := hW
    refine kb_eq S (tgt := 44) dX3_need_24 (by decide) (fun c_24 => ?_) (fun c_24 => ?_)
    · refine lv_iconst (v := nI (0)) S.1 S.2.1 dX3_need_44 rfl ?_
      refine kn_iadd S dX3_need_45 ?_
      refine k_top (y := nI (1 + ct (strk (φ 0)) (k + 1))) (congrArg nI (by first | rw [← ct_t (f := strk (φ 0)) (show strk (φ 0) k = true from by simp [strk, *])]; omega | (rw [← ct_f (f := strk (φ 0)) (show strk (φ 0) k = false from by simp [strk, *])]; omega))) ?_
      refine lv_istore_n (lv' := [(1, .int (nI (1 + ct (strk (φ 0)) (k + 1)))), (0, .ref (a 0)), (2, .int (nI (k)))]) S.1 S.2.1 dX3_need_46 rfl hl (by decide) rfl (fun ls hl => ?_)
      refine lv_iinc (v := nI (k + 1)) (lv' := [(2, .int (nI (k + 1))), (1, .int (nI (1 + ct (strk (φ 0)) (k + 1)))), (0, .ref (a 0))]) S.1 S.2.1 dX3_need_47 hl (k := 2) rfl (nI_add _ _) (by decide) rfl (fun ls hl => ?_)
      refine lv_goto (tgt := 4) S.1 S.2.1 dX3_need_50 (by decide) ?_
      exact ih4 (k + 1) _ _ _ ⟨hW, lv_sub hl [2, 1, 0] rfl, (by omega)⟩ (by show 12 - (k + 1) < 12 - k; omega)
    · refine lv_aload_n S.1 S.2.1 dX3_need_27 rfl (lv_at hl 0 rfl) ?_
      refine kx_get S hK hW hinX3 0 3 rfl rfl 1 (by decide) (List.mem_of_getElem? (i := 1) rfl) (v := .ref (a 1)) rfl dX3_need_28 ?_
      refine lv_iload_n S.1 S.2.1 dX3_need_31 rfl (lv_at hl 2 rfl) ?_
      refine lv_iconst (v := nI (2)) S.1 S.2.1 dX3_need_32 rfl ?_
      refine k_SI (rest := [.ref (a 1), .int (nI (1 + ct (strk (φ 0)) k))]) S hK hl.1 hW (KFr.nil hW hA) (mX3_of l D c  _ k 2) gX3_need_X3_of rfl pdX3_of ⟨⟨rfl, rfl⟩, Nat.le_of_ble_eq_true rfl, Nat.le_of_ble_eq_true rfl⟩ rfl (Nat.le_of_ble_eq_true rfl) dX3_need_33 ⟨Nat.le_of_ble_eq_true rfl, Nat.le_of_ble_eq_true rfl⟩ (fun H locs hW => ?_)
      have hW : kw D A s.heap (wM c a φ δ) H locs := hW
      refine kn_ald S hK hW 1 (f := φ 0) rfl (by omega) (by decide) dX3_need_36 ?_
      refine kz_ne S (tgt := 44) dX3_need_37 (by decide) (by omega) (fun c_37 => ?_) (fun c_37 => ?_)
      · refine lv_iconst (v := nI (0)) S.1 S.2.1 dX3_need_44 rfl ?_
        refine kn_iadd S dX3_need_45 ?_
        refine k_top (y := nI (1 + ct (strk (φ 0)) (k + 1))) (congrArg nI (by first | rw [← ct_t (f := strk (φ 0)) (show strk (φ 0) k = true from by simp [strk, *])]; omega | (rw [← ct_f (f := strk (φ 0)) (show strk (φ 0) k = false from by simp [strk, *])]; omega))) ?_
        refine lv_istore_n (lv' := [(1, .int (nI (1 + ct (strk (φ 0)) (k + 1)))), (0, .ref (a 0)), (2, .int (nI (k)))]) S.1 S.2.1 dX3_need_46 rfl hl (by decide) rfl (fun ls hl => ?_)
        refine lv_iinc (v := nI (k + 1)) (lv' := [(2, .int (nI (k + 1))), (1, .int (nI (1 + ct (strk (φ 0)) (k + 1)))), (0, .ref (a 0))]) S.1 S.2.1 dX3_need_47 hl (k := 2) rfl (nI_add _ _) (by decide) rfl (fun ls hl => ?_)
        refine lv_goto (tgt := 4) S.1 S.2.1 dX3_need_50 (by decide) ?_
        exact ih4 (k + 1) _ _ _ ⟨hW, lv_sub hl [2, 1, 0] rfl, (by omega)⟩ (by show 12 - (k + 1) < 12 - k; omega)
      · refine lv_iconst (v := nI (1)) S.1 S.2.1 dX3_need_40 rfl ?_
        refine lv_goto (tgt := 45) S.1 S.2.1 dX3_need_41 (by decide) ?_
        refine kn_iadd S dX3_need_45 ?_
        refine k_top (y := nI (1 + ct (strk (φ 0)) (k + 1))) (congrArg nI (by first | rw [← ct_t (f := strk (φ 0)) (show strk (φ 0) k = true from by simp [strk, *])]; omega | (rw [← ct_f (f := strk (φ 0)) (show strk (φ 0) k = false from by simp [strk, *])]; omega))) ?_
        refine lv_istore_n (lv' := [(1, .int (nI (1 + ct (strk (φ 0)) (k + 1)))), (0, .ref (a 0)), (2, .int (nI (k)))]) S.1 S.2.1 dX3_need_46 rfl hl (by decide) rfl (fun ls hl => ?_)
        refine lv_iinc (v := nI (k + 1)) (lv' := [(2, .int (nI (k + 1))), (1, .int (nI (1 + ct (strk (φ 0)) (k + 1)))), (0, .ref (a 0))]) S.1 S.2.1 dX3_need_47 hl (k := 2) rfl (nI_add _ _) (by decide) rfl (fun ls hl => ?_)
        refine lv_goto (tgt := 4) S.1 S.2.1 dX3_need_50 (by decide) ?_
        exact ih4 (k + 1) _ _ _ ⟨hW, lv_sub hl [2, 1, 0] rfl, (by omega)⟩ (by show 12 - (k + 1) < 12 - k; omega)
