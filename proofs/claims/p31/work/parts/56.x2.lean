abbrev rmX2_whyNot : Room := { frames := 3, cells := 0, slots := 0, locals := 69 }
theorem pdX2_whyNot : kPd yX2_whyNot 3 := by decide +kernel
set_option maxHeartbeats 400000 in
set_option maxRecDepth 100000 in
theorem mX2_whyNot_k (l : Launch) (D : va_G) (c : Nat → ClassId) (a : Nat → Nat) (b : Nat → Nat → Nat) (θ : Nat → Nat → Nat → Nat) (ρ κ : Nat → Nat → Nat) (sz : Nat) (t : Nat) (j : Nat) (p : Nat) (T : Nat) (ht : t < 3) (hj : j < 12) (hp : p < 32) (ok : okS (θ 0) T) : MI2 l yX2_whyNot wsX2_whyNot rmX2_whyNot D c sz (wP c a b θ ρ κ) [.ref (a 0), .int (nI (t)), .int (nI (j)), .int (nI (p))] (nI (hiS' (θ 0) t j p)) (wP c a b θ ρ κ) := by
  refine MI2.of (cc := cX2_whyNot) (maxL := 4) (ty := .int) (by decide) rfl (Nat.le_of_ble_eq_true rfl) rfl ?_
  intro P e s m below meth cd A Q ls hsz S hK hN hW hA hl hret
  have hl : lv_has ls 4 [(0, .ref (a 0)), (1, .int (nI (t))), (2, .int (nI (j))), (3, .int (nI (p)))] := hl
  have hinX2 : ∀ w ∈ u_ws RX2 TX2 10, w ∈ wsX2_whyNot := by decide +kernel
  have hin : (blw (nI (t)) (nI 3) && blw (nI (j)) (nI 12) && blw (nI (p)) (nI 32)) = true := by rw [blw_t ht (by decide), blw_t hj (by decide), blw_t hp (by decide)]; rfl
  refine lv_iload_n S.1 S.2.1 dX2_whyNot_0 rfl (lv_at hl 1 rfl) ?_
  refine lv_iload_n S.1 S.2.1 dX2_whyNot_1 rfl (lv_at hl 2 rfl) ?_
  refine lv_iload_n S.1 S.2.1 dX2_whyNot_2 rfl (lv_at hl 3 rfl) ?_
  refine k_SI (rest := []) S hK hl.1 hW (KFr.nil hW hA) (mX2_isPlace l D c  _ (nI (t)) (nI (j)) (nI (p))) gX2_whyNot_X2_isPlace rfl pdX2_isPlace ⟨⟨rfl, rfl⟩, Nat.le_of_ble_eq_true rfl, Nat.le_of_ble_eq_true rfl⟩ rfl (Nat.le_of_ble_eq_true rfl) dX2_whyNot_3 ⟨Nat.le_of_ble_eq_true rfl, Nat.le_of_ble_eq_true rfl⟩ (fun H locs hW => ?_)
  have hW : kw D A s.heap (wP c a b θ ρ κ) H locs := hW
  refine kb_ne S (tgt := 19) dX2_whyNot_6 (by decide) (fun c_6 => ?_) (fun c_6 => ?_)
  · refine lv_aload_n S.1 S.2.1 dX2_whyNot_19 rfl (lv_at hl 0 rfl) ?_
    refine kx_get S hK hW hinX2 0 2 rfl rfl 0 (by decide) (List.mem_of_getElem? (i := 3) rfl) (v := .ref (b 0 0)) rfl dX2_whyNot_20 ?_
    refine lv_iload_n S.1 S.2.1 dX2_whyNot_23 rfl (lv_at hl 1 rfl) ?_
    refine lv_iload_n S.1 S.2.1 dX2_whyNot_24 rfl (lv_at hl 2 rfl) ?_
    refine lv_iload_n S.1 S.2.1 dX2_whyNot_25 rfl (lv_at hl 3 rfl) ?_
    refine k_VI (rest := []) S hK hl.1 hW (fS0 hW hA _) (mX1_hindrance l D c (b 0) ((θ 0)) _ t j p T (by first | omega | exact ht | assumption | (show t < 3; omega) | rfl) (by first | omega | exact hj | assumption | (show j < 12; omega) | rfl) (by first | omega | exact hp | assumption | (show p < 32; omega) | rfl) ok) gX2_whyNot_X1_hindrance rfl pdX1_hindrance ⟨⟨rfl, rfl⟩, Nat.le_of_ble_eq_true rfl, Nat.le_of_ble_eq_true rfl⟩ 0 1 rfl rfl rfl rfl (Nat.le_of_ble_eq_true rfl) dX2_whyNot_26 ⟨Nat.le_of_ble_eq_true rfl, Nat.le_of_ble_eq_true rfl⟩ (fun H locs hW => ?_)
    have hW : kw D A s.heap (wP c a b θ ρ κ) H locs := hW
    refine k_top (y := nI (hiS' (θ 0) t j p)) rfl ?_
    exact hret 29 _ _ _ _ _ dX2_whyNot_29 hW (rfl) (rfl)
  · exact absurd (hin.symm.trans c_6) (by decide)
abbrev rmX2_next : Room := { frames := 3, cells := 0, slots := 0, locals := 70 }
theorem pdX2_next : kPd yX2_next 3 := by decide +kernel
set_option maxHeartbeats 400000 in
set_option maxRecDepth 100000 in
theorem mX2_next_k (l : Launch) (D : va_G) (c : Nat → ClassId) (a : Nat → Nat) (b : Nat → Nat → Nat) (θ : Nat → Nat → Nat → Nat) (ρ κ : Nat → Nat → Nat) (sz : Nat) (t : Nat) (j : Nat) (p : Nat) (ht : t < 3) (hj : j < 12) (hp : p < 32) : MI2 l yX2_next wsX2_next rmX2_next D c sz (wP c a b θ ρ κ) [.ref (a 0), .int (nI (t)), .int (nI (j)), .int (nI (p))] (nI (nfS (θ 0) t j p 0 32)) (wP c a b θ ρ κ) := by
  refine MI2.of (cc := cX2_next) (maxL := 4) (ty := .int) (by decide) rfl (Nat.le_of_ble_eq_true rfl) rfl ?_
  intro P e s m below meth cd A Q ls hsz S hK hN hW hA hl hret
  have hl : lv_has ls 4 [(0, .ref (a 0)), (1, .int (nI (t))), (2, .int (nI (j))), (3, .int (nI (p)))] := hl
  have hinX2 : ∀ w ∈ u_ws RX2 TX2 10, w ∈ wsX2_next := by decide +kernel
  have hin : (blw (nI (t)) (nI 3) && blw (nI (j)) (nI 12) && blw (nI (p)) (nI 32)) = true := by rw [blw_t ht (by decide), blw_t hj (by decide), blw_t hp (by decide)]; rfl
  refine lv_iload_n S.1 S.2.1 dX2_next_0 rfl (lv_at hl 1 rfl) ?_
  refine lv_iload_n S.1 S.2.1 dX2_next_1 rfl (lv_at hl 2 rfl) ?_
  refine lv_iload_n S.1 S.2.1 dX2_next_2 rfl (lv_at hl 3 rfl) ?_
  refine k_SI (rest := []) S hK hl.1 hW (KFr.nil hW hA) (mX2_isPlace l D c  _ (nI (t)) (nI (j)) (nI (p))) gX2_next_X2_isPlace rfl pdX2_isPlace ⟨⟨rfl, rfl⟩, Nat.le_of_ble_eq_true rfl, Nat.le_of_ble_eq_true rfl⟩ rfl (Nat.le_of_ble_eq_true rfl) dX2_next_3 ⟨Nat.le_of_ble_eq_true rfl, Nat.le_of_ble_eq_true rfl⟩ (fun H locs hW => ?_)
  have hW : kw D A s.heap (wP c a b θ ρ κ) H locs := hW
  refine kb_ne S (tgt := 19) dX2_next_6 (by decide) (fun c_6 => ?_) (fun c_6 => ?_)
  · refine lv_aload_n S.1 S.2.1 dX2_next_19 rfl (lv_at hl 0 rfl) ?_
    refine kx_get S hK hW hinX2 0 2 rfl rfl 0 (by decide) (List.mem_of_getElem? (i := 3) rfl) (v := .ref (b 0 0)) rfl dX2_next_20 ?_
    refine lv_iload_n S.1 S.2.1 dX2_next_23 rfl (lv_at hl 1 rfl) ?_
    refine lv_iload_n S.1 S.2.1 dX2_next_24 rfl (lv_at hl 2 rfl) ?_
    refine lv_iload_n S.1 S.2.1 dX2_next_25 rfl (lv_at hl 3 rfl) ?_
    refine k_VI (rest := []) S hK hl.1 hW (fS0 hW hA _) (mX1_pinFrom l D c (b 0) ((θ 0)) _ t j p (by first | omega | exact ht | assumption | (show t < 3; omega) | rfl) (by first | omega | exact hj | assumption | (show j < 12; omega) | rfl) (by first | omega | exact hp | assumption | (show p < 32; omega) | rfl)) gX2_next_X1_pinFrom rfl pdX1_pinFrom ⟨⟨rfl, rfl⟩, Nat.le_of_ble_eq_true rfl, Nat.le_of_ble_eq_true rfl⟩ 0 1 rfl rfl rfl rfl (Nat.le_of_ble_eq_true rfl) dX2_next_26 ⟨Nat.le_of_ble_eq_true rfl, Nat.le_of_ble_eq_true rfl⟩ (fun H locs hW => ?_)
    have hW : kw D A s.heap (wP c a b θ ρ κ) H locs := hW
    refine k_top (y := nI (nfS (θ 0) t j p 0 32)) rfl ?_
    exact hret 29 _ _ _ _ _ dX2_next_29 hW (rfl) (rfl)
  · exact absurd (hin.symm.trans c_6) (by decide)
abbrev rmX2_chord : Room := { frames := 1, cells := 0, slots := 0, locals := 22 }
theorem pdX2_chord : kPd yX2_chord 2 := by decide +kernel
set_option maxHeartbeats 400000 in
set_option maxRecDepth 100000 in
theorem mX2_chord_k (l : Launch) (D : va_G) (c : Nat → ClassId) (a : Nat → Nat) (b : Nat → Nat → Nat) (θ : Nat → Nat → Nat → Nat) (ρ κ : Nat → Nat → Nat) (sz : Nat) (t : Nat) (p : Nat) (ht : t < 3) (hp : p < 32) : MI2 l yX2_chord wsX2_chord rmX2_chord D c sz (wP c a b θ ρ κ) [.ref (a 0), .int (nI (t)), .int (nI (p))] (nI (θ 0 0 (t * 32 + p))) (wP c a b θ ρ κ) := by
  refine MI2.of (cc := cX2_chord) (maxL := 3) (ty := .int) (by decide) rfl (Nat.le_of_ble_eq_true rfl) rfl ?_
  intro P e s m below meth cd A Q ls hsz S hK hN hW hA hl hret
  have hl : lv_has ls 3 [(0, .ref (a 0)), (1, .int (nI (t))), (2, .int (nI (p)))] := hl
  have hinX2 : ∀ w ∈ u_ws RX2 TX2 10, w ∈ wsX2_chord := by decide +kernel
  have h1 : blw (nI (t)) (nI (3)) = true := blw_t ht (by decide)
  have h2 : blw (nI (p)) (nI (32)) = true := blw_t hp (by decide)
  refine lv_iload_n S.1 S.2.1 dX2_chord_0 rfl (lv_at hl 1 rfl) ?_
  refine lv_iconst (v := nI (3)) S.1 S.2.1 dX2_chord_1 rfl ?_
  refine k_SI (rest := []) S hK hl.1 hW (KFr.nil hW hA) (mX2_isBelow l D c  _ (nI (t)) (nI (3))) gX2_chord_X2_isBelow rfl pdX2_isBelow ⟨⟨rfl, rfl⟩, Nat.le_of_ble_eq_true rfl, Nat.le_of_ble_eq_true rfl⟩ rfl (Nat.le_of_ble_eq_true rfl) dX2_chord_2 ⟨Nat.le_of_ble_eq_true rfl, Nat.le_of_ble_eq_true rfl⟩ (fun H locs hW => ?_)
  have hW : kw D A s.heap (wP c a b θ ρ κ) H locs := hW
  refine kb_eq S (tgt := 17) dX2_chord_5 (by decide) (fun c_5 => ?_) (fun c_5 => ?_)
  · exact absurd (h1.symm.trans c_5) (by decide)
  · refine lv_iload_n S.1 S.2.1 dX2_chord_8 rfl (lv_at hl 2 rfl) ?_
    refine lv_bipush (v := nI (32)) S.1 S.2.1 dX2_chord_9 rfl ?_
    refine k_SI (rest := []) S hK hl.1 hW (KFr.nil hW hA) (mX2_isBelow l D c  _ (nI (p)) (nI (32))) gX2_chord_X2_isBelow rfl pdX2_isBelow ⟨⟨rfl, rfl⟩, Nat.le_of_ble_eq_true rfl, Nat.le_of_ble_eq_true rfl⟩ rfl (Nat.le_of_ble_eq_true rfl) dX2_chord_11 ⟨Nat.le_of_ble_eq_true rfl, Nat.le_of_ble_eq_true rfl⟩ (fun H locs hW => ?_)
    have hW : kw D A s.heap (wP c a b θ ρ κ) H locs := hW
    refine kb_ne S (tgt := 27) dX2_chord_14 (by decide) (fun c_14 => ?_) (fun c_14 => ?_)
    · refine lv_aload_n S.1 S.2.1 dX2_chord_27 rfl (lv_at hl 0 rfl) ?_
      refine kx_get S hK hW hinX2 0 2 rfl rfl 0 (by decide) (List.mem_of_getElem? (i := 3) rfl) (v := .ref (b 0 0)) rfl dX2_chord_28 ?_
      refine lv_iload_n S.1 S.2.1 dX2_chord_31 rfl (lv_at hl 1 rfl) ?_
      refine lv_iload_n S.1 S.2.1 dX2_chord_32 rfl (lv_at hl 2 rfl) ?_
      refine k_VI (rest := []) S hK hl.1 hW (fS0 hW hA _) (mX1_teethAt l D c (b 0) ((θ 0)) _ t p (by first | omega | exact ht | assumption | (show t < 3; omega) | rfl) (by first | omega | exact hp | assumption | (show p < 32; omega) | rfl)) gX2_chord_X1_teethAt rfl pdX1_teethAt ⟨⟨rfl, rfl⟩, Nat.le_of_ble_eq_true rfl, Nat.le_of_ble_eq_true rfl⟩ 0 1 rfl rfl rfl rfl (Nat.le_of_ble_eq_true rfl) dX2_chord_33 ⟨Nat.le_of_ble_eq_true rfl, Nat.le_of_ble_eq_true rfl⟩ (fun H locs hW => ?_)
      have hW : kw D A s.heap (wP c a b θ ρ κ) H locs := hW
      refine k_top (y := nI (((θ 0) 0) (t * 32 + p))) rfl ?_
      exact hret 36 _ _ _ _ _ dX2_chord_36 hW (rfl) (rfl)
    · exact absurd (h2.symm.trans c_14) (by decide)
abbrev rmX2_tune : Room := { frames := 4, cells := 0, slots := 0, locals := 91 }
theorem pdX2_tune : kPd yX2_tune 2 := by decide +kernel
set_option maxHeartbeats 400000 in
set_option maxRecDepth 100000 in
theorem mX2_tune_k (l : Launch) (D : va_G) (c : Nat → ClassId) (a : Nat → Nat) (b : Nat → Nat → Nat) (θ : Nat → Nat → Nat → Nat) (ρ κ : Nat → Nat → Nat) (sz : Nat) (t : Nat) (w : Nat) (T : Nat) (ht : t < 3) (hw : w < 5) (ok : okS (θ 0) T) : MI2 l yX2_tune wsX2_tune rmX2_tune D c sz (wP c a b θ ρ κ) [.ref (a 0), .int (nI (t)), .int (nI (w))] (nI (numT (θ 0) t w)) (wP c a b θ ρ κ) := by
  refine MI2.of (cc := cX2_tune) (maxL := 3) (ty := .int) (by decide) rfl (Nat.le_of_ble_eq_true rfl) rfl ?_
  intro P e s m below meth cd A Q ls hsz S hK hN hW hA hl hret
  have hl : lv_has ls 3 [(0, .ref (a 0)), (1, .int (nI (t))), (2, .int (nI (w)))] := hl
  have hinX2 : ∀ w ∈ u_ws RX2 TX2 10, w ∈ wsX2_tune := by decide +kernel
  have h1 : blw (nI (t)) (nI (3)) = true := blw_t ht (by decide)
  have h2 : blw (nI (w)) (nI (5)) = true := blw_t hw (by decide)
  refine lv_iload_n S.1 S.2.1 dX2_tune_0 rfl (lv_at hl 1 rfl) ?_
  refine lv_iconst (v := nI (3)) S.1 S.2.1 dX2_tune_1 rfl ?_
  refine k_SI (rest := []) S hK hl.1 hW (KFr.nil hW hA) (mX2_isBelow l D c  _ (nI (t)) (nI (3))) gX2_tune_X2_isBelow rfl pdX2_isBelow ⟨⟨rfl, rfl⟩, Nat.le_of_ble_eq_true rfl, Nat.le_of_ble_eq_true rfl⟩ rfl (Nat.le_of_ble_eq_true rfl) dX2_tune_2 ⟨Nat.le_of_ble_eq_true rfl, Nat.le_of_ble_eq_true rfl⟩ (fun H locs hW => ?_)
  have hW : kw D A s.heap (wP c a b θ ρ κ) H locs := hW
  refine kb_ne S (tgt := 18) dX2_tune_5 (by decide) (fun c_5 => ?_) (fun c_5 => ?_)
  · refine lv_iload_n S.1 S.2.1 dX2_tune_18 rfl (lv_at hl 2 rfl) ?_
    refine lv_iconst (v := nI (5)) S.1 S.2.1 dX2_tune_19 rfl ?_
    refine k_SI (rest := []) S hK hl.1 hW (KFr.nil hW hA) (mX2_isBelow l D c  _ (nI (w)) (nI (5))) gX2_tune_X2_isBelow rfl pdX2_isBelow ⟨⟨rfl, rfl⟩, Nat.le_of_ble_eq_true rfl, Nat.le_of_ble_eq_true rfl⟩ rfl (Nat.le_of_ble_eq_true rfl) dX2_tune_20 ⟨Nat.le_of_ble_eq_true rfl, Nat.le_of_ble_eq_true rfl⟩ (fun H locs hW => ?_)
    have hW : kw D A s.heap (wP c a b θ ρ κ) H locs := hW
    refine kb_ne S (tgt := 36) dX2_tune_23 (by decide) (fun c_23 => ?_) (fun c_23 => ?_)
    · refine lv_aload_n S.1 S.2.1 dX2_tune_36 rfl (lv_at hl 0 rfl) ?_
      refine kx_get S hK hW hinX2 0 2 rfl rfl 0 (by decide) (List.mem_of_getElem? (i := 5) rfl) (v := .ref (b 0 0)) rfl dX2_tune_37 ?_
      refine lv_iload_n S.1 S.2.1 dX2_tune_40 rfl (lv_at hl 1 rfl) ?_
      refine lv_iload_n S.1 S.2.1 dX2_tune_41 rfl (lv_at hl 2 rfl) ?_
      refine k_VI (rest := []) S hK hl.1 hW (fS0 hW hA _) (mX1_numberOfTune l D c (b 0) ((θ 0)) _ t w T (by first | omega | exact ht | assumption | (show t < 3; omega) | rfl) (by first | omega | exact hw | assumption | (show w < 5; omega) | rfl) ok) gX2_tune_X1_numberOfTune rfl pdX1_numberOfTune ⟨⟨rfl, rfl⟩, Nat.le_of_ble_eq_true rfl, Nat.le_of_ble_eq_true rfl⟩ 0 1 rfl rfl rfl rfl (Nat.le_of_ble_eq_true rfl) dX2_tune_42 ⟨Nat.le_of_ble_eq_true rfl, Nat.le_of_ble_eq_true rfl⟩ (fun H locs hW => ?_)
      have hW : kw D A s.heap (wP c a b θ ρ κ) H locs := hW
      refine k_top (y := nI (numT (θ 0) t w)) rfl ?_
      exact hret 45 _ _ _ _ _ dX2_tune_45 hW (rfl) (rfl)
    · exact absurd (h2.symm.trans c_23) (by decide)
  · exact absurd (h1.symm.trans c_5) (by decide)
abbrev rmX2_tooth : Room := { frames := 4, cells := 0, slots := 0, locals := 93 }
theorem pdX2_tooth : kPd yX2_tooth 2 := by decide +kernel
set_option maxHeartbeats 400000 in
set_option maxRecDepth 100000 in
theorem mX2_tooth_k (l : Launch) (D : va_G) (c : Nat → ClassId) (a : Nat → Nat) (b : Nat → Nat → Nat) (θ : Nat → Nat → Nat → Nat) (ρ κ : Nat → Nat → Nat) (sz : Nat) (j : Nat) (w : Nat) (T : Nat) (hj : j < 12) (hw : w < 5) (ok : okS (θ 0) T) (hT : T < 500000000) : MI2 l yX2_tooth wsX2_tooth rmX2_tooth D c sz (wP c a b θ ρ κ) [.ref (a 0), .int (nI (j)), .int (nI (w))] (nI (numK (θ 0) j w)) (wP c a b θ ρ κ) := by
  refine MI2.of (cc := cX2_tooth) (maxL := 3) (ty := .int) (by decide) rfl (Nat.le_of_ble_eq_true rfl) rfl ?_
  intro P e s m below meth cd A Q ls hsz S hK hN hW hA hl hret
  have hl : lv_has ls 3 [(0, .ref (a 0)), (1, .int (nI (j))), (2, .int (nI (w)))] := hl
  have hinX2 : ∀ w ∈ u_ws RX2 TX2 10, w ∈ wsX2_tooth := by decide +kernel
  have h1 : blw (nI (j)) (nI (12)) = true := blw_t hj (by decide)
  have h2 : blw (nI (w)) (nI (5)) = true := blw_t hw (by decide)
  refine lv_iload_n S.1 S.2.1 dX2_tooth_0 rfl (lv_at hl 1 rfl) ?_
  refine lv_bipush (v := nI (12)) S.1 S.2.1 dX2_tooth_1 rfl ?_
  refine k_SI (rest := []) S hK hl.1 hW (KFr.nil hW hA) (mX2_isBelow l D c  _ (nI (j)) (nI (12))) gX2_tooth_X2_isBelow rfl pdX2_isBelow ⟨⟨rfl, rfl⟩, Nat.le_of_ble_eq_true rfl, Nat.le_of_ble_eq_true rfl⟩ rfl (Nat.le_of_ble_eq_true rfl) dX2_tooth_3 ⟨Nat.le_of_ble_eq_true rfl, Nat.le_of_ble_eq_true rfl⟩ (fun H locs hW => ?_)
  have hW : kw D A s.heap (wP c a b θ ρ κ) H locs := hW
  refine kb_ne S (tgt := 19) dX2_tooth_6 (by decide) (fun c_6 => ?_) (fun c_6 => ?_)
  · refine lv_iload_n S.1 S.2.1 dX2_tooth_19 rfl (lv_at hl 2 rfl) ?_
    refine lv_iconst (v := nI (5)) S.1 S.2.1 dX2_tooth_20 rfl ?_
    refine k_SI (rest := []) S hK hl.1 hW (KFr.nil hW hA) (mX2_isBelow l D c  _ (nI (w)) (nI (5))) gX2_tooth_X2_isBelow rfl pdX2_isBelow ⟨⟨rfl, rfl⟩, Nat.le_of_ble_eq_true rfl, Nat.le_of_ble_eq_true rfl⟩ rfl (Nat.le_of_ble_eq_true rfl) dX2_tooth_21 ⟨Nat.le_of_ble_eq_true rfl, Nat.le_of_ble_eq_true rfl⟩ (fun H locs hW => ?_)
    have hW : kw D A s.heap (wP c a b θ ρ κ) H locs := hW
    refine kb_ne S (tgt := 37) dX2_tooth_24 (by decide) (fun c_24 => ?_) (fun c_24 => ?_)
    · refine lv_aload_n S.1 S.2.1 dX2_tooth_37 rfl (lv_at hl 0 rfl) ?_
      refine kx_get S hK hW hinX2 0 2 rfl rfl 0 (by decide) (List.mem_of_getElem? (i := 5) rfl) (v := .ref (b 0 0)) rfl dX2_tooth_38 ?_
      refine lv_iload_n S.1 S.2.1 dX2_tooth_41 rfl (lv_at hl 1 rfl) ?_
      refine lv_iload_n S.1 S.2.1 dX2_tooth_42 rfl (lv_at hl 2 rfl) ?_
      refine k_VI (rest := []) S hK hl.1 hW (fS0 hW hA _) (mX1_numberOfTooth l D c (b 0) ((θ 0)) _ j w T (by first | omega | exact hj | assumption | (show j < 12; omega) | rfl) (by first | omega | exact hw | assumption | (show w < 5; omega) | rfl) ok (by first | omega | exact hT | assumption | (show T < 500000000; omega) | rfl)) gX2_tooth_X1_numberOfTooth rfl pdX1_numberOfTooth ⟨⟨rfl, rfl⟩, Nat.le_of_ble_eq_true rfl, Nat.le_of_ble_eq_true rfl⟩ 0 1 rfl rfl rfl rfl (Nat.le_of_ble_eq_true rfl) dX2_tooth_43 ⟨Nat.le_of_ble_eq_true rfl, Nat.le_of_ble_eq_true rfl⟩ (fun H locs hW => ?_)
      have hW : kw D A s.heap (wP c a b θ ρ κ) H locs := hW
      refine k_top (y := nI (numK (θ 0) j w)) rfl ?_
      exact hret 46 _ _ _ _ _ dX2_tooth_46 hW (rfl) (rfl)
    · exact absurd (h2.symm.trans c_24) (by decide)
  · exact absurd (h1.symm.trans c_6) (by decide)
abbrev rmX2_count : Room := { frames := 5, cells := 0, slots := 0, locals := 109 }
theorem pdX2_count : kPd yX2_count 1 := by decide +kernel
set_option maxHeartbeats 400000 in
set_option maxRecDepth 100000 in
theorem mX2_count_k (l : Launch) (D : va_G) (c : Nat → ClassId) (a : Nat → Nat) (b : Nat → Nat → Nat) (θ : Nat → Nat → Nat → Nat) (ρ κ : Nat → Nat → Nat) (sz : Nat) (w : Nat) (T : Nat) (hw : w < 18) (ok : okS (θ 0) T) (hT : T < 500000000) : MI2 l yX2_count wsX2_count rmX2_count D c sz (wP c a b θ ρ κ) [.ref (a 0), .int (nI (w))] (nI ((if w = 17 then κ 3 0 else numN (θ 0) w))) (wP c a b θ ρ κ) := by
  refine MI2.of (cc := cX2_count) (maxL := 2) (ty := .int) (by decide) rfl (Nat.le_of_ble_eq_true rfl) rfl ?_
  intro P e s m below meth cd A Q ls hsz S hK hN hW hA hl hret
  have hl : lv_has ls 2 [(0, .ref (a 0)), (1, .int (nI (w)))] := hl
  have h1 : blw (nI (w)) (nI (18)) = true := blw_t hw (by decide)
  refine lv_iload_n S.1 S.2.1 dX2_count_0 rfl (lv_at hl 1 rfl) ?_
  refine lv_bipush (v := nI (18)) S.1 S.2.1 dX2_count_1 rfl ?_
  refine k_SI (rest := []) S hK hl.1 hW (KFr.nil hW hA) (mX2_isBelow l D c  _ (nI (w)) (nI (18))) gX2_count_X2_isBelow rfl pdX2_isBelow ⟨⟨rfl, rfl⟩, Nat.le_of_ble_eq_true rfl, Nat.le_of_ble_eq_true rfl⟩ rfl (Nat.le_of_ble_eq_true rfl) dX2_count_3 ⟨Nat.le_of_ble_eq_true rfl, Nat.le_of_ble_eq_true rfl⟩ (fun H locs hW => ?_)
  have hW : kw D A s.heap (wP c a b θ ρ κ) H locs := hW
  refine kb_ne S (tgt := 19) dX2_count_6 (by decide) (fun c_6 => ?_) (fun c_6 => ?_)
  · refine lv_aload_n S.1 S.2.1 dX2_count_19 rfl (lv_at hl 0 rfl) ?_
    refine lv_iload_n S.1 S.2.1 dX2_count_20 rfl (lv_at hl 1 rfl) ?_
    refine k_VI2 (rest := []) S hK hl.1 hW (KFr.all hW hA) hN (mX2_numberNow l D c a b θ ρ κ _ w T (by first | omega | exact hw | assumption | (show w < 18; omega) | rfl) ok (by first | omega | exact hT | assumption | (show T < 500000000; omega) | rfl)) gX2_count_X2_numberNow rfl pdX2_numberNow ⟨⟨rfl, rfl⟩, Nat.le_of_ble_eq_true rfl, Nat.le_of_ble_eq_true rfl⟩ 0 2 rfl rfl rfl rfl (Nat.le_of_ble_eq_true rfl) dX2_count_21 ⟨Nat.le_of_ble_eq_true rfl, Nat.le_of_ble_eq_true rfl⟩ (fun H locs hW => ?_)
    have hW : kw D A s.heap (wP c a b θ ρ κ) H locs := hW
    refine k_top (y := nI ((if w = 17 then (κ 3 0) else numN (((θ 0))) w))) rfl ?_
    exact hret 24 _ _ _ _ _ dX2_count_24 hW (rfl) (rfl)
  · exact absurd (h1.symm.trans c_6) (by decide)
abbrev rmX2_note : Room := { frames := 3, cells := 0, slots := 0, locals := 64 }
theorem pdX2_note : kPd yX2_note 2 := by decide +kernel
set_option maxHeartbeats 400000 in
set_option maxRecDepth 100000 in
theorem mX2_note_k (l : Launch) (D : va_G) (c : Nat → ClassId) (a : Nat → Nat) (b : Nat → Nat → Nat) (θ : Nat → Nat → Nat → Nat) (ρ κ : Nat → Nat → Nat) (sz : Nat) (b1 : Nat) (w : Nat) (T : Nat) (hb : b1 < 24) (hw : w < 2) (ok : okS (θ 0) T) (hT : T < 500000000) : MI2 l yX2_note wsX2_note rmX2_note D c sz (wP c a b θ ρ κ) [.ref (a 0), .int (nI (b1)), .int (nI (w))] (nI ((if b1 < min 24 (θ 0 14 0) then (if w = 0 then θ 0 4 ((θ 0 14 0 - 1 - b1) % 24) else θ 0 5 ((θ 0 14 0 - 1 - b1) % 24)) else 4294967295))) (wP c a b θ ρ κ) := by
  refine MI2.of (cc := cX2_note) (maxL := 3) (ty := .int) (by decide) rfl (Nat.le_of_ble_eq_true rfl) rfl ?_
  intro P e s m below meth cd A Q ls hsz S hK hN hW hA hl hret
  have hl : lv_has ls 3 [(0, .ref (a 0)), (1, .int (nI (b1))), (2, .int (nI (w)))] := hl
  have hinX2 : ∀ w ∈ u_ws RX2 TX2 10, w ∈ wsX2_note := by decide +kernel
  have h1 : blw (nI (b1)) (nI (24)) = true := blw_t hb (by decide)
  have h2 : blw (nI (w)) (nI (2)) = true := blw_t hw (by decide)
  refine lv_iload_n S.1 S.2.1 dX2_note_0 rfl (lv_at hl 1 rfl) ?_
  refine lv_bipush (v := nI (24)) S.1 S.2.1 dX2_note_1 rfl ?_
  refine k_SI (rest := []) S hK hl.1 hW (KFr.nil hW hA) (mX2_isBelow l D c  _ (nI (b1)) (nI (24))) gX2_note_X2_isBelow rfl pdX2_isBelow ⟨⟨rfl, rfl⟩, Nat.le_of_ble_eq_true rfl, Nat.le_of_ble_eq_true rfl⟩ rfl (Nat.le_of_ble_eq_true rfl) dX2_note_3 ⟨Nat.le_of_ble_eq_true rfl, Nat.le_of_ble_eq_true rfl⟩ (fun H locs hW => ?_)
  have hW : kw D A s.heap (wP c a b θ ρ κ) H locs := hW
  refine kb_eq S (tgt := 17) dX2_note_6 (by decide) (fun c_6 => ?_) (fun c_6 => ?_)
  · exact absurd (h1.symm.trans c_6) (by decide)
  · refine lv_iload_n S.1 S.2.1 dX2_note_9 rfl (lv_at hl 2 rfl) ?_
    refine lv_iconst (v := nI (2)) S.1 S.2.1 dX2_note_10 rfl ?_
    refine k_SI (rest := []) S hK hl.1 hW (KFr.nil hW hA) (mX2_isBelow l D c  _ (nI (w)) (nI (2))) gX2_note_X2_isBelow rfl pdX2_isBelow ⟨⟨rfl, rfl⟩, Nat.le_of_ble_eq_true rfl, Nat.le_of_ble_eq_true rfl⟩ rfl (Nat.le_of_ble_eq_true rfl) dX2_note_11 ⟨Nat.le_of_ble_eq_true rfl, Nat.le_of_ble_eq_true rfl⟩ (fun H locs hW => ?_)
    have hW : kw D A s.heap (wP c a b θ ρ κ) H locs := hW
    refine kb_ne S (tgt := 27) dX2_note_14 (by decide) (fun c_14 => ?_) (fun c_14 => ?_)
    · refine lv_iload_n S.1 S.2.1 dX2_note_27 rfl (lv_at hl 1 rfl) ?_
      refine lv_aload_n S.1 S.2.1 dX2_note_28 rfl (lv_at hl 0 rfl) ?_
      refine kx_get S hK hW hinX2 0 2 rfl rfl 0 (by decide) (List.mem_of_getElem? (i := 3) rfl) (v := .ref (b 0 0)) rfl dX2_note_29 ?_
      refine k_VI (rest := [.int (nI (b1))]) S hK hl.1 hW (fS0 hW hA _) (mX1_notesKept l D c (b 0) ((θ 0)) _ T ok (by first | omega | exact hT | assumption | (show T < 500000000; omega) | rfl)) gX2_note_X1_notesKept rfl pdX1_notesKept ⟨⟨rfl, rfl⟩, Nat.le_of_ble_eq_true rfl, Nat.le_of_ble_eq_true rfl⟩ 0 1 rfl rfl rfl rfl (Nat.le_of_ble_eq_true rfl) dX2_note_32 ⟨Nat.le_of_ble_eq_true rfl, Nat.le_of_ble_eq_true rfl⟩ (fun H locs hW => ?_)
      have hW : kw D A s.heap (wP c a b θ ρ κ) H locs := hW
      refine k_top (y := nI (min 24 (((θ 0) 14 0)))) rfl ?_
      refine kn_lt S (tgt := 40) dX2_note_35 (by decide) (by omega) (by omega) (fun c_35 => ?_) (fun c_35 => ?_)
      · refine lv_iload_n S.1 S.2.1 dX2_note_40 rfl (lv_at hl 2 rfl) ?_
        refine kz_ne S (tgt := 55) dX2_note_41 (by decide) (by omega) (fun c_41 => ?_) (fun c_41 => ?_)
        · have hs : (if b1 < min 24 (θ 0 14 0) then (if w = 0 then θ 0 4 ((θ 0 14 0 - 1 - b1) % 24) else θ 0 5 ((θ 0 14 0 - 1 - b1) % 24)) else 4294967295) = θ 0 5 ((θ 0 14 0 - 1 - b1) % 24) := (if_pos c_35).trans (if_neg c_41)
          refine lv_aload_n S.1 S.2.1 dX2_note_55 rfl (lv_at hl 0 rfl) ?_
          refine kx_get S hK hW hinX2 0 2 rfl rfl 0 (by decide) (List.mem_of_getElem? (i := 3) rfl) (v := .ref (b 0 0)) rfl dX2_note_56 ?_
          refine lv_iload_n S.1 S.2.1 dX2_note_59 rfl (lv_at hl 1 rfl) ?_
          refine k_VI (rest := []) S hK hl.1 hW (fS0 hW hA _) (mX1_noteTime l D c (b 0) ((θ 0)) _ b1 T (by omega) ok (by first | omega | exact hT | assumption | (show T < 500000000; omega) | rfl)) gX2_note_X1_noteTime rfl pdX1_noteTime ⟨⟨rfl, rfl⟩, Nat.le_of_ble_eq_true rfl, Nat.le_of_ble_eq_true rfl⟩ 0 1 rfl rfl rfl rfl (Nat.le_of_ble_eq_true rfl) dX2_note_60 ⟨Nat.le_of_ble_eq_true rfl, Nat.le_of_ble_eq_true rfl⟩ (fun H locs hW => ?_)
          have hW : kw D A s.heap (wP c a b θ ρ κ) H locs := hW
          refine k_top (y := nI (((θ 0) 5) ((((θ 0) 14 0) - 1 - b1) % 24))) rfl ?_
          exact hret 63 _ _ _ _ _ dX2_note_63 hW (congrArg nI hs.symm) (rfl)
        · have hs : (if b1 < min 24 (θ 0 14 0) then (if w = 0 then θ 0 4 ((θ 0 14 0 - 1 - b1) % 24) else θ 0 5 ((θ 0 14 0 - 1 - b1) % 24)) else 4294967295) = θ 0 4 ((θ 0 14 0 - 1 - b1) % 24) := (if_pos c_35).trans (if_pos c_41)
          refine lv_aload_n S.1 S.2.1 dX2_note_44 rfl (lv_at hl 0 rfl) ?_
          refine kx_get S hK hW hinX2 0 2 rfl rfl 0 (by decide) (List.mem_of_getElem? (i := 3) rfl) (v := .ref (b 0 0)) rfl dX2_note_45 ?_
          refine lv_iload_n S.1 S.2.1 dX2_note_48 rfl (lv_at hl 1 rfl) ?_
          refine k_VI (rest := []) S hK hl.1 hW (fS0 hW hA _) (mX1_noteTooth l D c (b 0) ((θ 0)) _ b1 T (by omega) ok (by first | omega | exact hT | assumption | (show T < 500000000; omega) | rfl)) gX2_note_X1_noteTooth rfl pdX1_noteTooth ⟨⟨rfl, rfl⟩, Nat.le_of_ble_eq_true rfl, Nat.le_of_ble_eq_true rfl⟩ 0 1 rfl rfl rfl rfl (Nat.le_of_ble_eq_true rfl) dX2_note_49 ⟨Nat.le_of_ble_eq_true rfl, Nat.le_of_ble_eq_true rfl⟩ (fun H locs hW => ?_)
          have hW : kw D A s.heap (wP c a b θ ρ κ) H locs := hW
          refine k_top (y := nI (((θ 0) 4) ((((θ 0) 14 0) - 1 - b1) % 24))) rfl ?_
          refine lv_goto (tgt := 63) S.1 S.2.1 dX2_note_52 (by decide) ?_
          exact hret 63 _ _ _ _ _ dX2_note_63 hW (congrArg nI hs.symm) (rfl)
      · have hs : (if b1 < min 24 (θ 0 14 0) then (if w = 0 then θ 0 4 ((θ 0 14 0 - 1 - b1) % 24) else θ 0 5 ((θ 0 14 0 - 1 - b1) % 24)) else 4294967295) = 4294967295 := if_neg (by omega)
        refine lv_iconst (v := nI (4294967295)) S.1 S.2.1 dX2_note_38 rfl ?_
        exact hret 39 _ _ _ _ _ dX2_note_39 hW (congrArg nI hs.symm) (rfl)
    · exact absurd (h2.symm.trans c_14) (by decide)
abbrev rmX2_clearBuffer : Room := { frames := 0, cells := 0, slots := 0, locals := 0 }
abbrev rmX2_windFor : Room := { frames := 3, cells := 0, slots := 0, locals := 69 }
theorem pdX2_windFor : kPd yX2_windFor 1 := by decide +kernel
set_option maxHeartbeats 400000 in
set_option maxRecDepth 100000 in
theorem mX2_windFor_k (l : Launch) (D : va_G) (c : Nat → ClassId) (a : Nat → Nat) (b : Nat → Nat → Nat) (θ : Nat → Nat → Nat → Nat) (ρ κ : Nat → Nat → Nat) (sz : Nat) (n : Nat) (T : Nat) (h1_1 : 1 ≤ n) (h1_2 : n ≤ 9) (ok : okS (θ 0) T) : MI2 l yX2_windFor wsX2_windFor rmX2_windFor D c sz (wP c a b θ ρ κ) [.ref (a 0), .int (nI (n))] (nI ((woS (θ 0) (n * 32)).1)) (wP c a b θ ρ κ) := by
  refine MI2.of (cc := cX2_windFor) (maxL := 2) (ty := .int) (by decide) rfl (Nat.le_of_ble_eq_true rfl) rfl ?_
  intro P e s m below meth cd A Q ls hsz S hK hN hW hA hl hret
  have hl : lv_has ls 2 [(0, .ref (a 0)), (1, .int (nI (n)))] := hl
  have hinX2 : ∀ w ∈ u_ws RX2 TX2 10, w ∈ wsX2_windFor := by decide +kernel
  have h1 : inb (nI (n)) (nI (1)) (nI (9)) = true := inb_t h1_1 h1_2 (by decide)
  refine lv_iload_n S.1 S.2.1 dX2_windFor_0 rfl (lv_at hl 1 rfl) ?_
  refine lv_iconst (v := nI (1)) S.1 S.2.1 dX2_windFor_1 rfl ?_
  refine lv_bipush (v := nI (9)) S.1 S.2.1 dX2_windFor_2 rfl ?_
  refine k_SI (rest := []) S hK hl.1 hW (KFr.nil hW hA) (mX2_isWithin l D c  _ (nI (n)) (nI (1)) (nI (9))) gX2_windFor_X2_isWithin rfl pdX2_isWithin ⟨⟨rfl, rfl⟩, Nat.le_of_ble_eq_true rfl, Nat.le_of_ble_eq_true rfl⟩ rfl (Nat.le_of_ble_eq_true rfl) dX2_windFor_4 ⟨Nat.le_of_ble_eq_true rfl, Nat.le_of_ble_eq_true rfl⟩ (fun H locs hW => ?_)
  have hW : kw D A s.heap (wP c a b θ ρ κ) H locs := hW
  refine kb_ne S (tgt := 20) dX2_windFor_7 (by decide) (fun c_7 => ?_) (fun c_7 => ?_)
  · refine lv_aload_n S.1 S.2.1 dX2_windFor_20 rfl (lv_at hl 0 rfl) ?_
    refine kx_get S hK hW hinX2 0 2 rfl rfl 0 (by decide) (List.mem_of_getElem? (i := 3) rfl) (v := .ref (b 0 0)) rfl dX2_windFor_21 ?_
    refine lv_iload_n S.1 S.2.1 dX2_windFor_24 rfl (lv_at hl 1 rfl) ?_
    refine lv_bipush (v := nI (32)) S.1 S.2.1 dX2_windFor_25 rfl ?_
    refine kn_imul S dX2_windFor_27 ?_
    refine k_VI (rest := []) S hK hl.1 hW (fS0 hW hA _) (mX1_windOfSteps l D c (b 0) ((θ 0)) _ (n * 32) T (by first | omega | exact hn0 | assumption | (show (n * 32) < 1000; omega) | rfl) ok) gX2_windFor_X1_windOfSteps rfl pdX1_windOfSteps ⟨⟨rfl, rfl⟩, Nat.le_of_ble_eq_true rfl, Nat.le_of_ble_eq_true rfl⟩ 0 1 rfl rfl rfl rfl (Nat.le_of_ble_eq_true rfl) dX2_windFor_28 ⟨Nat.le_of_ble_eq_true rfl, Nat.le_of_ble_eq_true rfl⟩ (fun H locs hW => ?_)
    have hW : kw D A s.heap (wP c a b θ ρ κ) H locs := hW
    refine k_top (y := nI ((woS (θ 0) (n * 32)).1)) rfl ?_
    exact hret 31 _ _ _ _ _ dX2_windFor_31 hW (rfl) (rfl)
  · exact absurd (h1.symm.trans c_7) (by decide)
abbrev rmX2_pin : Room := { frames := 3, cells := 0, slots := 0, locals := 81 }
theorem pdX2_pin : kPd yX2_pin 3 := by decide +kernel
set_option maxHeartbeats 400000 in
set_option maxRecDepth 100000 in
theorem mX2_pin_k (l : Launch) (D : va_G) (c : Nat → ClassId) (a : Nat → Nat) (b : Nat → Nat → Nat) (θ : Nat → Nat → Nat → Nat) (ρ κ : Nat → Nat → Nat) (sz : Nat) (t : Nat) (j : Nat) (p : Nat) (T : Nat) (ht : t < 3) (hj : j < 12) (hp : p < 32) (ok : okS (θ 0) T) (hold : κ 2 0 < 6) (hcnt : κ 3 0 ≤ 6) (hh : hiS' (θ 0) t j p = 0) : MI2 l yX2_pin wsX2_pin rmX2_pin D c sz (wP c a b θ ρ κ) [.ref (a 0), .int (nI (t)), .int (nI (j)), .int (nI (p))] (nI (poS (pu (θ 0) 0 (fu (θ 0 0) (t * 32 + p) (θ 0 0 (t * 32 + p) ||| 2 ^ j))) t 32)) (wP c a b (pst (svT θ ((κ 2 0 + κ 3 0) % 6)) 0 (pu (θ 0) 0 (fu (θ 0 0) (t * 32 + p) (θ 0 0 (t * 32 + p) ||| 2 ^ j)))) ρ (svK κ)) := by
  refine MI2.of (cc := cX2_pin) (maxL := 4) (ty := .int) (by decide) rfl (Nat.le_of_ble_eq_true rfl) rfl ?_
  intro P e s m below meth cd A Q ls hsz S hK hN hW hA hl hret
  have hl : lv_has ls 4 [(0, .ref (a 0)), (1, .int (nI (t))), (2, .int (nI (j))), (3, .int (nI (p)))] := hl
  have hinX2 : ∀ w ∈ u_ws RX2 TX2 10, w ∈ wsX2_pin := by decide +kernel
  have hin : (blw (nI (t)) (nI 3) && blw (nI (j)) (nI 12) && blw (nI (p)) (nI 32)) = true := by rw [blw_t ht (by decide), blw_t hj (by decide), blw_t hp (by decide)]; rfl
  refine lv_iload_n S.1 S.2.1 dX2_pin_0 rfl (lv_at hl 1 rfl) ?_
  refine lv_iload_n S.1 S.2.1 dX2_pin_1 rfl (lv_at hl 2 rfl) ?_
  refine lv_iload_n S.1 S.2.1 dX2_pin_2 rfl (lv_at hl 3 rfl) ?_
  refine k_SI (rest := []) S hK hl.1 hW (KFr.nil hW hA) (mX2_isPlace l D c  _ (nI (t)) (nI (j)) (nI (p))) gX2_pin_X2_isPlace rfl pdX2_isPlace ⟨⟨rfl, rfl⟩, Nat.le_of_ble_eq_true rfl, Nat.le_of_ble_eq_true rfl⟩ rfl (Nat.le_of_ble_eq_true rfl) dX2_pin_3 ⟨Nat.le_of_ble_eq_true rfl, Nat.le_of_ble_eq_true rfl⟩ (fun H locs hW => ?_)
  have hW : kw D A s.heap (wP c a b θ ρ κ) H locs := hW
  refine kb_ne S (tgt := 19) dX2_pin_6 (by decide) (fun c_6 => ?_) (fun c_6 => ?_)
  · refine lv_aload_n S.1 S.2.1 dX2_pin_19 rfl (lv_at hl 0 rfl) ?_
    refine kx_get S hK hW hinX2 0 2 rfl rfl 0 (by decide) (List.mem_of_getElem? (i := 5) rfl) (v := .ref (b 0 0)) rfl dX2_pin_20 ?_
    refine lv_iload_n S.1 S.2.1 dX2_pin_23 rfl (lv_at hl 1 rfl) ?_
    refine lv_iload_n S.1 S.2.1 dX2_pin_24 rfl (lv_at hl 2 rfl) ?_
    refine lv_iload_n S.1 S.2.1 dX2_pin_25 rfl (lv_at hl 3 rfl) ?_
    refine k_VI (rest := []) S hK hl.1 hW (fS0 hW hA _) (mX1_hindrance l D c (b 0) ((θ 0)) _ t j p T (by first | omega | exact ht | assumption | (show t < 3; omega) | rfl) (by first | omega | exact hj | assumption | (show j < 12; omega) | rfl) (by first | omega | exact hp | assumption | (show p < 32; omega) | rfl) ok) gX2_pin_X1_hindrance rfl pdX1_hindrance ⟨⟨rfl, rfl⟩, Nat.le_of_ble_eq_true rfl, Nat.le_of_ble_eq_true rfl⟩ 0 1 rfl rfl rfl rfl (Nat.le_of_ble_eq_true rfl) dX2_pin_26 ⟨Nat.le_of_ble_eq_true rfl, Nat.le_of_ble_eq_true rfl⟩ (fun H locs hW => ?_)
    have hW : kw D A s.heap (wP c a b θ ρ κ) H locs := hW
    refine k_top (y := nI (hiS' (θ 0) t j p)) rfl ?_
    refine kz_eq S (tgt := 42) dX2_pin_29 (by decide) (Nat.lt_of_le_of_lt (hiS'_le _ _ _ _) (by decide)) (fun c_29 => ?_) (fun c_29 => ?_)
    · refine lv_aload_n S.1 S.2.1 dX2_pin_42 rfl (lv_at hl 0 rfl) ?_
      refine k_VV2 (rest := []) S hK hl.1 hW (KFr.all hW hA) hN (mX2_saveState l D c a b θ ρ κ _ (by first | omega | exact hold | assumption | (show (κ 2 0) < 6; omega) | rfl) (by first | omega | exact hcnt | assumption | (show (κ 3 0) ≤ 6; omega) | rfl)) gX2_pin_X2_saveState rfl pdX2_saveState ⟨⟨rfl, rfl⟩, Nat.le_of_ble_eq_true rfl, Nat.le_of_ble_eq_true rfl⟩ 0 2 rfl rfl rfl rfl (Nat.le_of_ble_eq_true rfl) dX2_pin_43 ⟨Nat.le_of_ble_eq_true rfl, Nat.le_of_ble_eq_true rfl⟩ (fun H locs hW => ?_)
      have hW : kw D A s.heap (wP c a b (svT θ (((κ 2 0) + (κ 3 0)) % 6)) ρ (svK κ)) H locs := hW
      refine lv_aload_n S.1 S.2.1 dX2_pin_46 rfl (lv_at hl 0 rfl) ?_
      refine kx_get S hK hW hinX2 0 2 rfl rfl 0 (by decide) (List.mem_of_getElem? (i := 5) rfl) (v := .ref (b 0 0)) rfl dX2_pin_47 ?_
      refine lv_iload_n S.1 S.2.1 dX2_pin_50 rfl (lv_at hl 1 rfl) ?_
      refine lv_iload_n S.1 S.2.1 dX2_pin_51 rfl (lv_at hl 2 rfl) ?_
      refine lv_iload_n S.1 S.2.1 dX2_pin_52 rfl (lv_at hl 3 rfl) ?_
      refine k_VV (rest := []) S hK hl.1 hW (fS0 hW hA _) (mX1_putPin l D c (b 0) ((θ 0)) _ t j p (by first | omega | exact ht | assumption | (show t < 3; omega) | rfl) (by first | omega | exact hj | assumption | (show j < 12; omega) | rfl) (by first | omega | exact hp | assumption | (show p < 32; omega) | rfl)) gX2_pin_X1_putPin rfl pdX1_putPin ⟨⟨rfl, rfl⟩, Nat.le_of_ble_eq_true rfl, Nat.le_of_ble_eq_true rfl⟩ 0 1 rfl rfl rfl rfl (Nat.le_of_ble_eq_true rfl) dX2_pin_53 ⟨Nat.le_of_ble_eq_true rfl, Nat.le_of_ble_eq_true rfl⟩ (fun H locs hW => ?_)
      have hW : kw D A s.heap (wP c a b (pst (svT θ (((κ 2 0) + (κ 3 0)) % 6)) 0 (pu (θ 0) 0 (fu (((θ 0) 0)) (t * 32 + p) (((θ 0) 0) (t * 32 + p) ||| 2 ^ j)))) ρ (svK κ)) H locs := hW
      refine lv_aload_n S.1 S.2.1 dX2_pin_56 rfl (lv_at hl 0 rfl) ?_
      refine kx_get S hK hW hinX2 0 2 rfl rfl 0 (by decide) (List.mem_of_getElem? (i := 5) rfl) (v := .ref (b 0 0)) rfl dX2_pin_57 ?_
      refine lv_iload_n S.1 S.2.1 dX2_pin_60 rfl (lv_at hl 1 rfl) ?_
      refine k_VI (rest := []) S hK hl.1 hW (fS0 hW hA _) (mX1_pinsOf l D c (b 0) ((pu (θ 0) 0 (fu (((θ 0) 0)) (t * 32 + p) (((θ 0) 0) (t * 32 + p) ||| 2 ^ j)))) _ t T (by first | omega | exact ht | assumption | (show t < 3; omega) | rfl) (ok.p0 (fu_lt ok.1 (bit_lt (ok.1 _ (by omega)) hj)))) gX2_pin_X1_pinsOf rfl pdX1_pinsOf ⟨⟨rfl, rfl⟩, Nat.le_of_ble_eq_true rfl, Nat.le_of_ble_eq_true rfl⟩ 0 1 rfl rfl rfl rfl (Nat.le_of_ble_eq_true rfl) dX2_pin_61 ⟨Nat.le_of_ble_eq_true rfl, Nat.le_of_ble_eq_true rfl⟩ (fun H locs hW => ?_)
      have hW : kw D A s.heap (wP c a b (pst (svT θ (((κ 2 0) + (κ 3 0)) % 6)) 0 (pu (θ 0) 0 (fu (((θ 0) 0)) (t * 32 + p) (((θ 0) 0) (t * 32 + p) ||| 2 ^ j)))) ρ (svK κ)) H locs := hW
      refine k_top (y := nI (poS (pu (θ 0) 0 (fu (((θ 0) 0)) (t * 32 + p) (((θ 0) 0) (t * 32 + p) ||| 2 ^ j))) t 32)) rfl ?_
      exact hret 64 _ _ _ _ _ dX2_pin_64 hW (rfl) (rfl)
    · exact absurd hh c_29
  · exact absurd (hin.symm.trans c_6) (by decide)
abbrev rmX2_pull : Room := { frames := 3, cells := 0, slots := 0, locals := 81 }
theorem pdX2_pull : kPd yX2_pull 4 := by decide +kernel
set_option maxHeartbeats 400000 in
set_option maxRecDepth 100000 in
theorem mX2_pull_k (l : Launch) (D : va_G) (c : Nat → ClassId) (a : Nat → Nat) (b : Nat → Nat → Nat) (θ : Nat → Nat → Nat → Nat) (ρ κ : Nat → Nat → Nat) (sz : Nat) (t : Nat) (j : Nat) (x : Nat) (y : Nat) (T : Nat) (ht : t < 3) (hj : j < 12) (hx : x < 32) (hy : y < 32) (hxy : x ≤ y) (ok : okS (θ 0) T) (hold : κ 2 0 < 6) (hcnt : κ 3 0 ≤ 6) : MI2 l yX2_pull wsX2_pull rmX2_pull D c sz (wP c a b θ ρ κ) [.ref (a 0), .int (nI (t)), .int (nI (j)), .int (nI (x)), .int (nI (y))] (nI ((tkC (θ 0) t j x (y + 1 - x)).1)) (wP c a b (pst (svT θ ((κ 2 0 + κ 3 0) % 6)) 0 (pu (θ 0) 0 ((tkC (θ 0) t j x (y + 1 - x)).2))) ρ (svK κ)) := by
  refine MI2.of (cc := cX2_pull) (maxL := 5) (ty := .int) (by decide) rfl (Nat.le_of_ble_eq_true rfl) rfl ?_
  intro P e s m below meth cd A Q ls hsz S hK hN hW hA hl hret
  have hl : lv_has ls 5 [(0, .ref (a 0)), (1, .int (nI (t))), (2, .int (nI (j))), (3, .int (nI (x))), (4, .int (nI (y)))] := hl
  have hinX2 : ∀ w ∈ u_ws RX2 TX2 10, w ∈ wsX2_pull := by decide +kernel
  have hin : (blw (nI (t)) (nI 3) && blw (nI (j)) (nI 12) && blw (nI (x)) (nI 32)) = true := by rw [blw_t ht (by decide), blw_t hj (by decide), blw_t hx (by decide)]; rfl
  have h2 : blw (nI (y)) (nI (32)) = true := blw_t hy (by decide)
  refine lv_iload_n S.1 S.2.1 dX2_pull_0 rfl (lv_at hl 1 rfl) ?_
  refine lv_iload_n S.1 S.2.1 dX2_pull_1 rfl (lv_at hl 2 rfl) ?_
  refine lv_iload_n S.1 S.2.1 dX2_pull_2 rfl (lv_at hl 3 rfl) ?_
  refine k_SI (rest := []) S hK hl.1 hW (KFr.nil hW hA) (mX2_isPlace l D c  _ (nI (t)) (nI (j)) (nI (x))) gX2_pull_X2_isPlace rfl pdX2_isPlace ⟨⟨rfl, rfl⟩, Nat.le_of_ble_eq_true rfl, Nat.le_of_ble_eq_true rfl⟩ rfl (Nat.le_of_ble_eq_true rfl) dX2_pull_3 ⟨Nat.le_of_ble_eq_true rfl, Nat.le_of_ble_eq_true rfl⟩ (fun H locs hW => ?_)
  have hW : kw D A s.heap (wP c a b θ ρ κ) H locs := hW
  refine kb_eq S (tgt := 19) dX2_pull_6 (by decide) (fun c_6 => ?_) (fun c_6 => ?_)
  · exact absurd (hin.symm.trans c_6) (by decide)
  · refine lv_iload S.1 S.2.1 dX2_pull_9 (lv_at hl 4 rfl) ?_
    refine lv_bipush (v := nI (32)) S.1 S.2.1 dX2_pull_11 rfl ?_
    refine k_SI (rest := []) S hK hl.1 hW (KFr.nil hW hA) (mX2_isBelow l D c  _ (nI (y)) (nI (32))) gX2_pull_X2_isBelow rfl pdX2_isBelow ⟨⟨rfl, rfl⟩, Nat.le_of_ble_eq_true rfl, Nat.le_of_ble_eq_true rfl⟩ rfl (Nat.le_of_ble_eq_true rfl) dX2_pull_13 ⟨Nat.le_of_ble_eq_true rfl, Nat.le_of_ble_eq_true rfl⟩ (fun H locs hW => ?_)
    have hW : kw D A s.heap (wP c a b θ ρ κ) H locs := hW
    refine kb_ne S (tgt := 29) dX2_pull_16 (by decide) (fun c_16 => ?_) (fun c_16 => ?_)
    · refine lv_iload S.1 S.2.1 dX2_pull_29 (lv_at hl 4 rfl) ?_
      refine lv_iload_n S.1 S.2.1 dX2_pull_31 rfl (lv_at hl 3 rfl) ?_
      refine kn_ge S (tgt := 45) dX2_pull_32 (by decide) (by omega) (by omega) (fun c_32 => ?_) (fun c_32 => ?_)
      · refine lv_aload_n S.1 S.2.1 dX2_pull_45 rfl (lv_at hl 0 rfl) ?_
        refine k_VV2 (rest := []) S hK hl.1 hW (KFr.all hW hA) hN (mX2_saveState l D c a b θ ρ κ _ (by first | omega | exact hold | assumption | (show (κ 2 0) < 6; omega) | rfl) (by first | omega | exact hcnt | assumption | (show (κ 3 0) ≤ 6; omega) | rfl)) gX2_pull_X2_saveState rfl pdX2_saveState ⟨⟨rfl, rfl⟩, Nat.le_of_ble_eq_true rfl, Nat.le_of_ble_eq_true rfl⟩ 0 2 rfl rfl rfl rfl (Nat.le_of_ble_eq_true rfl) dX2_pull_46 ⟨Nat.le_of_ble_eq_true rfl, Nat.le_of_ble_eq_true rfl⟩ (fun H locs hW => ?_)
        have hW : kw D A s.heap (wP c a b (svT θ (((κ 2 0) + (κ 3 0)) % 6)) ρ (svK κ)) H locs := hW
        refine lv_aload_n S.1 S.2.1 dX2_pull_49 rfl (lv_at hl 0 rfl) ?_
        refine kx_get S hK hW hinX2 0 2 rfl rfl 0 (by decide) (List.mem_of_getElem? (i := 5) rfl) (v := .ref (b 0 0)) rfl dX2_pull_50 ?_
        refine lv_iload_n S.1 S.2.1 dX2_pull_53 rfl (lv_at hl 1 rfl) ?_
        refine lv_iload_n S.1 S.2.1 dX2_pull_54 rfl (lv_at hl 2 rfl) ?_
        refine lv_iload_n S.1 S.2.1 dX2_pull_55 rfl (lv_at hl 3 rfl) ?_
        refine lv_iload S.1 S.2.1 dX2_pull_56 (lv_at hl 4 rfl) ?_
        refine k_VI (rest := []) S hK hl.1 hW (fS0 hW hA _) (mX1_takeRange l D c (b 0) ((θ 0)) _ t j x y T (by first | omega | exact ht | assumption | (show t < 3; omega) | rfl) (by first | omega | exact hj | assumption | (show j < 12; omega) | rfl) (by first | omega | exact hxy | assumption | (show x ≤ y; omega) | rfl) (by first | omega | exact hy | assumption | (show y < 32; omega) | rfl) ok) gX2_pull_X1_takeRange rfl pdX1_takeRange ⟨⟨rfl, rfl⟩, Nat.le_of_ble_eq_true rfl, Nat.le_of_ble_eq_true rfl⟩ 0 1 rfl rfl rfl rfl (Nat.le_of_ble_eq_true rfl) dX2_pull_58 ⟨Nat.le_of_ble_eq_true rfl, Nat.le_of_ble_eq_true rfl⟩ (fun H locs hW => ?_)
        have hW : kw D A s.heap (wP c a b (pst (svT θ (((κ 2 0) + (κ 3 0)) % 6)) 0 (pu (θ 0) 0 ((tkC (θ 0) t j x (y + 1 - x)).2))) ρ (svK κ)) H locs := hW
        refine k_top (y := nI ((tkC (θ 0) t j x (y + 1 - x)).1)) rfl ?_
        exact hret 61 _ _ _ _ _ dX2_pull_61 hW (rfl) (rfl)
      · exact absurd c_32 (by omega)
    · exact absurd (h2.symm.trans c_16) (by decide)
abbrev rmX2_wind : Room := { frames := 3, cells := 0, slots := 0, locals := 81 }
theorem pdX2_wind : kPd yX2_wind 1 := by decide +kernel
set_option maxHeartbeats 400000 in
set_option maxRecDepth 100000 in
theorem mX2_wind_k (l : Launch) (D : va_G) (c : Nat → ClassId) (a : Nat → Nat) (b : Nat → Nat → Nat) (θ : Nat → Nat → Nat → Nat) (ρ κ : Nat → Nat → Nat) (sz : Nat) (n : Nat) (T : Nat) (h1_1 : 1 ≤ n) (h1_2 : n ≤ 400) (ok : okS (θ 0) T) (hold : κ 2 0 < 6) (hcnt : κ 3 0 ≤ 6) : MI2 l yX2_wind wsX2_wind rmX2_wind D c sz (wP c a b θ ρ κ) [.ref (a 0), .int (nI (n))] (nI (min 400 (θ 0 10 0 + n))) (wP c a b (pst (svT θ ((κ 2 0 + κ 3 0) % 6)) 0 (pu (θ 0) 10 (kc (min 400 (θ 0 10 0 + n))))) ρ (svK κ)) := by
  refine MI2.of (cc := cX2_wind) (maxL := 2) (ty := .int) (by decide) rfl (Nat.le_of_ble_eq_true rfl) rfl ?_
  intro P e s m below meth cd A Q ls hsz S hK hN hW hA hl hret
  have hl : lv_has ls 2 [(0, .ref (a 0)), (1, .int (nI (n)))] := hl
  have hinX1 : ∀ w ∈ u_ws RX1 TX1 17, w ∈ wsX2_wind := by decide +kernel
  have hinX2 : ∀ w ∈ u_ws RX2 TX2 10, w ∈ wsX2_wind := by decide +kernel
  have h1 : inb (nI (n)) (nI (1)) (nI (400)) = true := inb_t h1_1 h1_2 (by decide)
  have h10 : θ 0 10 0 ≤ 400 := ok.2.2.2.2.2.2.2.1
  refine lv_iload_n S.1 S.2.1 dX2_wind_0 rfl (lv_at hl 1 rfl) ?_
  refine lv_iconst (v := nI (1)) S.1 S.2.1 dX2_wind_1 rfl ?_
  refine lv_sipush (v := nI (400)) S.1 S.2.1 dX2_wind_2 rfl ?_
  refine k_SI (rest := []) S hK hl.1 hW (KFr.nil hW hA) (mX2_isWithin l D c  _ (nI (n)) (nI (1)) (nI (400))) gX2_wind_X2_isWithin rfl pdX2_isWithin ⟨⟨rfl, rfl⟩, Nat.le_of_ble_eq_true rfl, Nat.le_of_ble_eq_true rfl⟩ rfl (Nat.le_of_ble_eq_true rfl) dX2_wind_5 ⟨Nat.le_of_ble_eq_true rfl, Nat.le_of_ble_eq_true rfl⟩ (fun H locs hW => ?_)
  have hW : kw D A s.heap (wP c a b θ ρ κ) H locs := hW
  refine kb_ne S (tgt := 21) dX2_wind_8 (by decide) (fun c_8 => ?_) (fun c_8 => ?_)
  · refine lv_aload_n S.1 S.2.1 dX2_wind_21 rfl (lv_at hl 0 rfl) ?_
    refine k_VV2 (rest := []) S hK hl.1 hW (KFr.all hW hA) hN (mX2_saveState l D c a b θ ρ κ _ (by first | omega | exact hold | assumption | (show (κ 2 0) < 6; omega) | rfl) (by first | omega | exact hcnt | assumption | (show (κ 3 0) ≤ 6; omega) | rfl)) gX2_wind_X2_saveState rfl pdX2_saveState ⟨⟨rfl, rfl⟩, Nat.le_of_ble_eq_true rfl, Nat.le_of_ble_eq_true rfl⟩ 0 2 rfl rfl rfl rfl (Nat.le_of_ble_eq_true rfl) dX2_wind_22 ⟨Nat.le_of_ble_eq_true rfl, Nat.le_of_ble_eq_true rfl⟩ (fun H locs hW => ?_)
    have hW : kw D A s.heap (wP c a b (svT θ (((κ 2 0) + (κ 3 0)) % 6)) ρ (svK κ)) H locs := hW
    refine lv_aload_n S.1 S.2.1 dX2_wind_25 rfl (lv_at hl 0 rfl) ?_
    refine kx_get S hK hW hinX2 0 2 rfl rfl 0 (by decide) (List.mem_of_getElem? (i := 3) rfl) (v := .ref (b 0 0)) rfl dX2_wind_26 ?_
    refine lv_sipush (v := nI (400)) S.1 S.2.1 dX2_wind_29 rfl ?_
    refine lv_aload_n S.1 S.2.1 dX2_wind_32 rfl (lv_at hl 0 rfl) ?_
    refine kx_get S hK hW hinX2 0 2 rfl rfl 0 (by decide) (List.mem_of_getElem? (i := 3) rfl) (v := .ref (b 0 0)) rfl dX2_wind_33 ?_
    refine kx_getN S hK hW hinX1 4 1 rfl rfl 10 (by decide) (hN _ (List.mem_of_getElem? (i := 2) rfl)) (v := .int (nI ((θ 0) 10 0))) rfl dX2_wind_36 ?_
    refine lv_iload_n S.1 S.2.1 dX2_wind_39 rfl (lv_at hl 1 rfl) ?_
    refine kn_iadd S dX2_wind_40 ?_
    refine kn_min S hl.1 (List.mem_of_getElem? (i := 4) rfl) (List.mem_of_getElem? (i := 5) rfl) (List.mem_of_getElem? (i := 6) rfl) (List.mem_of_getElem? (i := 7) rfl) ⟨Nat.le_of_ble_eq_true rfl, Nat.le_of_ble_eq_true rfl⟩ ⟨Nat.le_of_ble_eq_true rfl, Nat.le_of_ble_eq_true rfl⟩ (by omega) (by omega) dX2_wind_41 ?_
    refine kx_putN S hK hW hinX1 tyX1_ok nmX1 4 1 rfl rfl 10 (by decide) (hN _ (List.mem_of_getElem? (i := 2) rfl)) rfl (v := .int (nI (min 400 ((θ 0) 10 0 + n)))) rfl rfl (Nat.le_of_ble_eq_true rfl) dX2_wind_44 (fun H locs hW => ?_)
    have hW : kw D A s.heap (wP c a b (pst (svT θ (((κ 2 0) + (κ 3 0)) % 6)) 0 (pu (θ 0) 10 (kc (min 400 ((θ 0) 10 0 + n))))) ρ (svK κ)) H locs := hW
    refine lv_aload_n S.1 S.2.1 dX2_wind_47 rfl (lv_at hl 0 rfl) ?_
    refine kx_get S hK hW hinX2 0 2 rfl rfl 0 (by decide) (List.mem_of_getElem? (i := 3) rfl) (v := .ref (b 0 0)) rfl dX2_wind_48 ?_
    refine kx_getN S hK hW hinX1 4 1 rfl rfl 10 (by decide) (hN _ (List.mem_of_getElem? (i := 2) rfl)) (v := .int (nI (min 400 ((θ 0) 10 0 + n)))) rfl dX2_wind_51 ?_
    exact hret 54 _ _ _ _ _ dX2_wind_54 hW (rfl) (rfl)
  · exact absurd (h1.symm.trans c_8) (by decide)
abbrev rmX2_vanes : Room := { frames := 3, cells := 0, slots := 0, locals := 81 }
theorem pdX2_vanes : kPd yX2_vanes 1 := by decide +kernel
set_option maxHeartbeats 400000 in
set_option maxRecDepth 100000 in
theorem mX2_vanes_k (l : Launch) (D : va_G) (c : Nat → ClassId) (a : Nat → Nat) (b : Nat → Nat → Nat) (θ : Nat → Nat → Nat → Nat) (ρ κ : Nat → Nat → Nat) (sz : Nat) (n : Nat) (h1_1 : 1 ≤ n) (h1_2 : n ≤ 9) (hold : κ 2 0 < 6) (hcnt : κ 3 0 ≤ 6) : MI2 l yX2_vanes wsX2_vanes rmX2_vanes D c sz (wP c a b θ ρ κ) [.ref (a 0), .int (nI (n))] (nI (θ 0 11 0)) (wP c a b (pst (svT θ ((κ 2 0 + κ 3 0) % 6)) 0 (pu (θ 0) 11 (kc (n)))) ρ (svK κ)) := by
  refine MI2.of (cc := cX2_vanes) (maxL := 3) (ty := .int) (by decide) rfl (Nat.le_of_ble_eq_true rfl) rfl ?_
  intro P e s m below meth cd A Q ls hsz S hK hN hW hA hl hret
  have hl : lv_has ls 3 [(0, .ref (a 0)), (1, .int (nI (n)))] := hl
  have hinX1 : ∀ w ∈ u_ws RX1 TX1 17, w ∈ wsX2_vanes := by decide +kernel
  have hinX2 : ∀ w ∈ u_ws RX2 TX2 10, w ∈ wsX2_vanes := by decide +kernel
  have h1 : inb (nI (n)) (nI (1)) (nI (9)) = true := inb_t h1_1 h1_2 (by decide)
  refine lv_iload_n S.1 S.2.1 dX2_vanes_0 rfl (lv_at hl 1 rfl) ?_
  refine lv_iconst (v := nI (1)) S.1 S.2.1 dX2_vanes_1 rfl ?_
  refine lv_bipush (v := nI (9)) S.1 S.2.1 dX2_vanes_2 rfl ?_
  refine k_SI (rest := []) S hK hl.1 hW (KFr.nil hW hA) (mX2_isWithin l D c  _ (nI (n)) (nI (1)) (nI (9))) gX2_vanes_X2_isWithin rfl pdX2_isWithin ⟨⟨rfl, rfl⟩, Nat.le_of_ble_eq_true rfl, Nat.le_of_ble_eq_true rfl⟩ rfl (Nat.le_of_ble_eq_true rfl) dX2_vanes_4 ⟨Nat.le_of_ble_eq_true rfl, Nat.le_of_ble_eq_true rfl⟩ (fun H locs hW => ?_)
  have hW : kw D A s.heap (wP c a b θ ρ κ) H locs := hW
  refine kb_ne S (tgt := 20) dX2_vanes_7 (by decide) (fun c_7 => ?_) (fun c_7 => ?_)
  · refine lv_aload_n S.1 S.2.1 dX2_vanes_20 rfl (lv_at hl 0 rfl) ?_
    refine k_VV2 (rest := []) S hK hl.1 hW (KFr.all hW hA) hN (mX2_saveState l D c a b θ ρ κ _ (by first | omega | exact hold | assumption | (show (κ 2 0) < 6; omega) | rfl) (by first | omega | exact hcnt | assumption | (show (κ 3 0) ≤ 6; omega) | rfl)) gX2_vanes_X2_saveState rfl pdX2_saveState ⟨⟨rfl, rfl⟩, Nat.le_of_ble_eq_true rfl, Nat.le_of_ble_eq_true rfl⟩ 0 2 rfl rfl rfl rfl (Nat.le_of_ble_eq_true rfl) dX2_vanes_21 ⟨Nat.le_of_ble_eq_true rfl, Nat.le_of_ble_eq_true rfl⟩ (fun H locs hW => ?_)
    have hW : kw D A s.heap (wP c a b (svT θ (((κ 2 0) + (κ 3 0)) % 6)) ρ (svK κ)) H locs := hW
    refine lv_aload_n S.1 S.2.1 dX2_vanes_24 rfl (lv_at hl 0 rfl) ?_
    refine kx_get S hK hW hinX2 0 2 rfl rfl 0 (by decide) (List.mem_of_getElem? (i := 3) rfl) (v := .ref (b 0 0)) rfl dX2_vanes_25 ?_
    refine kx_getN S hK hW hinX1 4 1 rfl rfl 11 (by decide) (hN _ (List.mem_of_getElem? (i := 3) rfl)) (v := .int (nI ((θ 0) 11 0))) rfl dX2_vanes_28 ?_
    refine lv_istore_n (lv' := [(2, .int (nI ((θ 0) 11 0))), (0, .ref (a 0)), (1, .int (nI (n)))]) S.1 S.2.1 dX2_vanes_31 rfl hl (by decide) rfl (fun ls hl => ?_)
    refine lv_aload_n S.1 S.2.1 dX2_vanes_32 rfl (lv_at hl 1 rfl) ?_
    refine kx_get S hK hW hinX2 0 2 rfl rfl 0 (by decide) (List.mem_of_getElem? (i := 3) rfl) (v := .ref (b 0 0)) rfl dX2_vanes_33 ?_
    refine lv_iload_n S.1 S.2.1 dX2_vanes_36 rfl (lv_at hl 2 rfl) ?_
    refine kx_putN S hK hW hinX1 tyX1_ok nmX1 4 1 rfl rfl 11 (by decide) (hN _ (List.mem_of_getElem? (i := 3) rfl)) rfl (v := .int (nI (n))) rfl rfl (Nat.le_of_ble_eq_true rfl) dX2_vanes_37 (fun H locs hW => ?_)
    have hW : kw D A s.heap (wP c a b (pst (svT θ (((κ 2 0) + (κ 3 0)) % 6)) 0 (pu (θ 0) 11 (kc (n)))) ρ (svK κ)) H locs := hW
    refine lv_iload_n S.1 S.2.1 dX2_vanes_40 rfl (lv_at hl 0 rfl) ?_
    exact hret 41 _ _ _ _ _ dX2_vanes_41 hW (rfl) (rfl)
  · exact absurd (h1.symm.trans c_7) (by decide)
abbrev rmX2_shift : Room := { frames := 3, cells := 0, slots := 0, locals := 81 }
theorem pdX2_shift : kPd yX2_shift 1 := by decide +kernel
set_option maxHeartbeats 400000 in
set_option maxRecDepth 100000 in
theorem mX2_shift_k (l : Launch) (D : va_G) (c : Nat → ClassId) (a : Nat → Nat) (b : Nat → Nat → Nat) (θ : Nat → Nat → Nat → Nat) (ρ κ : Nat → Nat → Nat) (sz : Nat) (t : Nat) (ht : t < 3) (hold : κ 2 0 < 6) (hcnt : κ 3 0 ≤ 6) : MI2 l yX2_shift wsX2_shift rmX2_shift D c sz (wP c a b θ ρ κ) [.ref (a 0), .int (nI (t))] (nI (θ 0 9 0)) (wP c a b (pst (svT θ ((κ 2 0 + κ 3 0) % 6)) 0 (pu (θ 0) 9 (kc (t)))) ρ (svK κ)) := by
  refine MI2.of (cc := cX2_shift) (maxL := 3) (ty := .int) (by decide) rfl (Nat.le_of_ble_eq_true rfl) rfl ?_
  intro P e s m below meth cd A Q ls hsz S hK hN hW hA hl hret
  have hl : lv_has ls 3 [(0, .ref (a 0)), (1, .int (nI (t)))] := hl
  have hinX1 : ∀ w ∈ u_ws RX1 TX1 17, w ∈ wsX2_shift := by decide +kernel
  have hinX2 : ∀ w ∈ u_ws RX2 TX2 10, w ∈ wsX2_shift := by decide +kernel
  have h1 : blw (nI (t)) (nI (3)) = true := blw_t ht (by decide)
  refine lv_iload_n S.1 S.2.1 dX2_shift_0 rfl (lv_at hl 1 rfl) ?_
  refine lv_iconst (v := nI (3)) S.1 S.2.1 dX2_shift_1 rfl ?_
  refine k_SI (rest := []) S hK hl.1 hW (KFr.nil hW hA) (mX2_isBelow l D c  _ (nI (t)) (nI (3))) gX2_shift_X2_isBelow rfl pdX2_isBelow ⟨⟨rfl, rfl⟩, Nat.le_of_ble_eq_true rfl, Nat.le_of_ble_eq_true rfl⟩ rfl (Nat.le_of_ble_eq_true rfl) dX2_shift_2 ⟨Nat.le_of_ble_eq_true rfl, Nat.le_of_ble_eq_true rfl⟩ (fun H locs hW => ?_)
  have hW : kw D A s.heap (wP c a b θ ρ κ) H locs := hW
  refine kb_ne S (tgt := 18) dX2_shift_5 (by decide) (fun c_5 => ?_) (fun c_5 => ?_)
  · refine lv_aload_n S.1 S.2.1 dX2_shift_18 rfl (lv_at hl 0 rfl) ?_
    refine k_VV2 (rest := []) S hK hl.1 hW (KFr.all hW hA) hN (mX2_saveState l D c a b θ ρ κ _ (by first | omega | exact hold | assumption | (show (κ 2 0) < 6; omega) | rfl) (by first | omega | exact hcnt | assumption | (show (κ 3 0) ≤ 6; omega) | rfl)) gX2_shift_X2_saveState rfl pdX2_saveState ⟨⟨rfl, rfl⟩, Nat.le_of_ble_eq_true rfl, Nat.le_of_ble_eq_true rfl⟩ 0 2 rfl rfl rfl rfl (Nat.le_of_ble_eq_true rfl) dX2_shift_19 ⟨Nat.le_of_ble_eq_true rfl, Nat.le_of_ble_eq_true rfl⟩ (fun H locs hW => ?_)
    have hW : kw D A s.heap (wP c a b (svT θ (((κ 2 0) + (κ 3 0)) % 6)) ρ (svK κ)) H locs := hW
    refine lv_aload_n S.1 S.2.1 dX2_shift_22 rfl (lv_at hl 0 rfl) ?_
    refine kx_get S hK hW hinX2 0 2 rfl rfl 0 (by decide) (List.mem_of_getElem? (i := 3) rfl) (v := .ref (b 0 0)) rfl dX2_shift_23 ?_
    refine kx_getN S hK hW hinX1 4 1 rfl rfl 9 (by decide) (hN _ (List.mem_of_getElem? (i := 1) rfl)) (v := .int (nI ((θ 0) 9 0))) rfl dX2_shift_26 ?_
    refine lv_istore_n (lv' := [(2, .int (nI ((θ 0) 9 0))), (0, .ref (a 0)), (1, .int (nI (t)))]) S.1 S.2.1 dX2_shift_29 rfl hl (by decide) rfl (fun ls hl => ?_)
    refine lv_aload_n S.1 S.2.1 dX2_shift_30 rfl (lv_at hl 1 rfl) ?_
    refine kx_get S hK hW hinX2 0 2 rfl rfl 0 (by decide) (List.mem_of_getElem? (i := 3) rfl) (v := .ref (b 0 0)) rfl dX2_shift_31 ?_
    refine lv_iload_n S.1 S.2.1 dX2_shift_34 rfl (lv_at hl 2 rfl) ?_
    refine kx_putN S hK hW hinX1 tyX1_ok nmX1 4 1 rfl rfl 9 (by decide) (hN _ (List.mem_of_getElem? (i := 1) rfl)) rfl (v := .int (nI (t))) rfl rfl (Nat.le_of_ble_eq_true rfl) dX2_shift_35 (fun H locs hW => ?_)
    have hW : kw D A s.heap (wP c a b (pst (svT θ (((κ 2 0) + (κ 3 0)) % 6)) 0 (pu (θ 0) 9 (kc (t)))) ρ (svK κ)) H locs := hW
    refine lv_iload_n S.1 S.2.1 dX2_shift_38 rfl (lv_at hl 0 rfl) ?_
    exact hret 39 _ _ _ _ _ dX2_shift_39 hW (rfl) (rfl)
  · exact absurd (h1.symm.trans c_5) (by decide)
abbrev rmX2_play : Room := { frames := 5, cells := 0, slots := 0, locals := 115 }
theorem pdX2_play : kPd yX2_play 1 := by decide +kernel
set_option maxHeartbeats 400000 in
set_option maxRecDepth 100000 in
theorem mX2_play_k (l : Launch) (D : va_G) (c : Nat → ClassId) (a : Nat → Nat) (b : Nat → Nat → Nat) (θ : Nat → Nat → Nat → Nat) (ρ κ : Nat → Nat → Nat) (sz : Nat) (n : Nat) (T : Nat) (h1_1 : 1 ≤ n) (h1_2 : n ≤ 128) (ok : okS (θ 0) T) (hT : T < 200000000) (hold : κ 2 0 < 6) (hcnt : κ 3 0 ≤ 6) : MI2 l yX2_play wsX2_play rmX2_play D c sz (wP c a b θ ρ κ) [.ref (a 0), .int (nI (n))] (nI ((onS n (θ 0)).1)) (wP c a b (pst (svT θ ((κ 2 0 + κ 3 0) % 6)) 0 ((onS n (θ 0)).2)) ρ (svK κ)) := by
  refine MI2.of (cc := cX2_play) (maxL := 2) (ty := .int) (by decide) rfl (Nat.le_of_ble_eq_true rfl) rfl ?_
  intro P e s m below meth cd A Q ls hsz S hK hN hW hA hl hret
  have hl : lv_has ls 2 [(0, .ref (a 0)), (1, .int (nI (n)))] := hl
  have hinX2 : ∀ w ∈ u_ws RX2 TX2 10, w ∈ wsX2_play := by decide +kernel
  have h1 : inb (nI (n)) (nI (1)) (nI (128)) = true := inb_t h1_1 h1_2 (by decide)
  refine lv_iload_n S.1 S.2.1 dX2_play_0 rfl (lv_at hl 1 rfl) ?_
  refine lv_iconst (v := nI (1)) S.1 S.2.1 dX2_play_1 rfl ?_
  refine lv_sipush (v := nI (128)) S.1 S.2.1 dX2_play_2 rfl ?_
  refine k_SI (rest := []) S hK hl.1 hW (KFr.nil hW hA) (mX2_isWithin l D c  _ (nI (n)) (nI (1)) (nI (128))) gX2_play_X2_isWithin rfl pdX2_isWithin ⟨⟨rfl, rfl⟩, Nat.le_of_ble_eq_true rfl, Nat.le_of_ble_eq_true rfl⟩ rfl (Nat.le_of_ble_eq_true rfl) dX2_play_5 ⟨Nat.le_of_ble_eq_true rfl, Nat.le_of_ble_eq_true rfl⟩ (fun H locs hW => ?_)
  have hW : kw D A s.heap (wP c a b θ ρ κ) H locs := hW
  refine kb_ne S (tgt := 21) dX2_play_8 (by decide) (fun c_8 => ?_) (fun c_8 => ?_)
  · refine lv_aload_n S.1 S.2.1 dX2_play_21 rfl (lv_at hl 0 rfl) ?_
    refine k_VV2 (rest := []) S hK hl.1 hW (KFr.all hW hA) hN (mX2_saveState l D c a b θ ρ κ _ (by first | omega | exact hold | assumption | (show (κ 2 0) < 6; omega) | rfl) (by first | omega | exact hcnt | assumption | (show (κ 3 0) ≤ 6; omega) | rfl)) gX2_play_X2_saveState rfl pdX2_saveState ⟨⟨rfl, rfl⟩, Nat.le_of_ble_eq_true rfl, Nat.le_of_ble_eq_true rfl⟩ 0 2 rfl rfl rfl rfl (Nat.le_of_ble_eq_true rfl) dX2_play_22 ⟨Nat.le_of_ble_eq_true rfl, Nat.le_of_ble_eq_true rfl⟩ (fun H locs hW => ?_)
    have hW : kw D A s.heap (wP c a b (svT θ (((κ 2 0) + (κ 3 0)) % 6)) ρ (svK κ)) H locs := hW
    refine lv_aload_n S.1 S.2.1 dX2_play_25 rfl (lv_at hl 0 rfl) ?_
    refine kx_get S hK hW hinX2 0 2 rfl rfl 0 (by decide) (List.mem_of_getElem? (i := 3) rfl) (v := .ref (b 0 0)) rfl dX2_play_26 ?_
    refine lv_iload_n S.1 S.2.1 dX2_play_29 rfl (lv_at hl 1 rfl) ?_
    refine k_VI (rest := []) S hK hl.1 hW (fS0 hW hA _) (mX1_goOnFor l D c (b 0) ((θ 0)) _ n T (by first | omega | exact hn | assumption | (show n < 200; omega) | rfl) ok (by first | omega | exact hT | assumption | (show T < 200000000; omega) | rfl)) gX2_play_X1_goOnFor rfl pdX1_goOnFor ⟨⟨rfl, rfl⟩, Nat.le_of_ble_eq_true rfl, Nat.le_of_ble_eq_true rfl⟩ 0 1 rfl rfl rfl rfl (Nat.le_of_ble_eq_true rfl) dX2_play_30 ⟨Nat.le_of_ble_eq_true rfl, Nat.le_of_ble_eq_true rfl⟩ (fun H locs hW => ?_)
    have hW : kw D A s.heap (wP c a b (pst (svT θ (((κ 2 0) + (κ 3 0)) % 6)) 0 ((onS n ((θ 0))).2)) ρ (svK κ)) H locs := hW
    refine k_top (y := nI ((onS n (θ 0)).1)) rfl ?_
    exact hret 33 _ _ _ _ _ dX2_play_33 hW (rfl) (rfl)
  · exact absurd (h1.symm.trans c_8) (by decide)
abbrev rmX2_mend : Room := { frames := 3, cells := 0, slots := 0, locals := 81 }
theorem pdX2_mend : kPd yX2_mend 1 := by decide +kernel
set_option maxHeartbeats 400000 in
set_option maxRecDepth 100000 in
theorem mX2_mend_k (l : Launch) (D : va_G) (c : Nat → ClassId) (a : Nat → Nat) (b : Nat → Nat → Nat) (θ : Nat → Nat → Nat → Nat) (ρ κ : Nat → Nat → Nat) (sz : Nat) (j : Nat) (T : Nat) (hj : j < 12) (ok : okS (θ 0) T) (hold : κ 2 0 < 6) (hcnt : κ 3 0 ≤ 6) : MI2 l yX2_mend wsX2_mend rmX2_mend D c sz (wP c a b θ ρ κ) [.ref (a 0), .int (nI (j))] (nI (θ 0 2 j)) (wP c a b (pst (svT θ ((κ 2 0 + κ 3 0) % 6)) 0 (mdS (θ 0) j)) ρ (svK κ)) := by
  refine MI2.of (cc := cX2_mend) (maxL := 2) (ty := .int) (by decide) rfl (Nat.le_of_ble_eq_true rfl) rfl ?_
  intro P e s m below meth cd A Q ls hsz S hK hN hW hA hl hret
  have hl : lv_has ls 2 [(0, .ref (a 0)), (1, .int (nI (j)))] := hl
  have hinX2 : ∀ w ∈ u_ws RX2 TX2 10, w ∈ wsX2_mend := by decide +kernel
  have h1 : blw (nI (j)) (nI (12)) = true := blw_t hj (by decide)
  refine lv_iload_n S.1 S.2.1 dX2_mend_0 rfl (lv_at hl 1 rfl) ?_
  refine lv_bipush (v := nI (12)) S.1 S.2.1 dX2_mend_1 rfl ?_
  refine k_SI (rest := []) S hK hl.1 hW (KFr.nil hW hA) (mX2_isBelow l D c  _ (nI (j)) (nI (12))) gX2_mend_X2_isBelow rfl pdX2_isBelow ⟨⟨rfl, rfl⟩, Nat.le_of_ble_eq_true rfl, Nat.le_of_ble_eq_true rfl⟩ rfl (Nat.le_of_ble_eq_true rfl) dX2_mend_3 ⟨Nat.le_of_ble_eq_true rfl, Nat.le_of_ble_eq_true rfl⟩ (fun H locs hW => ?_)
  have hW : kw D A s.heap (wP c a b θ ρ κ) H locs := hW
  refine kb_ne S (tgt := 19) dX2_mend_6 (by decide) (fun c_6 => ?_) (fun c_6 => ?_)
  · refine lv_aload_n S.1 S.2.1 dX2_mend_19 rfl (lv_at hl 0 rfl) ?_
    refine k_VV2 (rest := []) S hK hl.1 hW (KFr.all hW hA) hN (mX2_saveState l D c a b θ ρ κ _ (by first | omega | exact hold | assumption | (show (κ 2 0) < 6; omega) | rfl) (by first | omega | exact hcnt | assumption | (show (κ 3 0) ≤ 6; omega) | rfl)) gX2_mend_X2_saveState rfl pdX2_saveState ⟨⟨rfl, rfl⟩, Nat.le_of_ble_eq_true rfl, Nat.le_of_ble_eq_true rfl⟩ 0 2 rfl rfl rfl rfl (Nat.le_of_ble_eq_true rfl) dX2_mend_20 ⟨Nat.le_of_ble_eq_true rfl, Nat.le_of_ble_eq_true rfl⟩ (fun H locs hW => ?_)
    have hW : kw D A s.heap (wP c a b (svT θ (((κ 2 0) + (κ 3 0)) % 6)) ρ (svK κ)) H locs := hW
    refine lv_aload_n S.1 S.2.1 dX2_mend_23 rfl (lv_at hl 0 rfl) ?_
    refine kx_get S hK hW hinX2 0 2 rfl rfl 0 (by decide) (List.mem_of_getElem? (i := 3) rfl) (v := .ref (b 0 0)) rfl dX2_mend_24 ?_
    refine lv_iload_n S.1 S.2.1 dX2_mend_27 rfl (lv_at hl 1 rfl) ?_
    refine k_VI (rest := []) S hK hl.1 hW (fS0 hW hA _) (mX1_mendTooth l D c (b 0) ((θ 0)) _ j T (by first | omega | exact hj | assumption | (show j < 12; omega) | rfl) ok) gX2_mend_X1_mendTooth rfl pdX1_mendTooth ⟨⟨rfl, rfl⟩, Nat.le_of_ble_eq_true rfl, Nat.le_of_ble_eq_true rfl⟩ 0 1 rfl rfl rfl rfl (Nat.le_of_ble_eq_true rfl) dX2_mend_28 ⟨Nat.le_of_ble_eq_true rfl, Nat.le_of_ble_eq_true rfl⟩ (fun H locs hW => ?_)
    have hW : kw D A s.heap (wP c a b (pst (svT θ (((κ 2 0) + (κ 3 0)) % 6)) 0 (mdS ((θ 0)) j)) ρ (svK κ)) H locs := hW
    refine k_top (y := nI (((θ 0) 2) j)) rfl ?_
    exact hret 31 _ _ _ _ _ dX2_mend_31 hW (rfl) (rfl)
  · exact absurd (h1.symm.trans c_6) (by decide)
abbrev rmX2_putReadRange : Room := { frames := 4, cells := 0, slots := 0, locals := 95 }
abbrev rmX2_outcome : Room := { frames := 2, cells := 0, slots := 0, locals := 40 }
theorem pdX2_outcome : kPd yX2_outcome 1 := by decide +kernel
set_option maxHeartbeats 400000 in
set_option maxRecDepth 100000 in
theorem mX2_outcome (l : Launch) (D : va_G) (c : Nat → ClassId) (a : Nat → Nat) (b : Nat → Nat → Nat) (θ : Nat → Nat → Nat → Nat) (ρ κ : Nat → Nat → Nat) (sz : Nat) (w : Nat) (T : Nat) (V : Nat) (hw : w < 5) (ok : okS (θ 0) T) (ok1 : okS (θ 1) V) : MI2 l yX2_outcome wsX2_outcome rmX2_outcome D c sz (wP c a b θ ρ κ) [.ref (a 0), .int (nI (w))] ((if w = 0 then nI (θ 1 13 0) - nI (θ 0 13 0) else if w = 1 then nI (θ 1 14 0) - nI (θ 0 14 0) else if w = 2 then nI (θ 1 15 0) - nI (θ 0 15 0) else if w = 3 then nI (θ 1 12 0) - nI (θ 0 12 0) else nI (ones (θ 1 7 0)) - nI (ones (θ 0 7 0)))) (wP c a b θ ρ κ) := by
  refine MI2.of (cc := cX2_outcome) (maxL := 2) (ty := .int) (by decide) rfl (Nat.le_of_ble_eq_true rfl) rfl ?_
  intro P e s m below meth cd A Q ls hsz S hK hN hW hA hl hret
  have hl : lv_has ls 2 [(0, .ref (a 0)), (1, .int (nI (w)))] := hl
  have hinX1 : ∀ w ∈ u_ws RX1 TX1 17, w ∈ wsX2_outcome := by decide +kernel
  have hinX2 : ∀ w ∈ u_ws RX2 TX2 10, w ∈ wsX2_outcome := by decide +kernel
  refine lv_iload_n S.1 S.2.1 dX2_outcome_0 rfl (lv_at hl 1 rfl) ?_
  rcases (show w = 0 ∨ w = 1 ∨ w = 2 ∨ w = 3 ∨ w = 4 from by omega) with rfl | rfl | rfl | rfl | rfl
  · skip
    refine lv_tableIn (tgt := 32) S.1 S.2.1 dX2_outcome_1 (by decide) (by decide) rfl (by decide) ?_
    refine lv_aload_n S.1 S.2.1 dX2_outcome_32 rfl (lv_at hl 0 rfl) ?_
    refine kx_get S hK hW hinX2 0 2 rfl rfl 1 (by decide) (List.mem_of_getElem? (i := 1) rfl) (v := .ref (b 1 0)) rfl dX2_outcome_33 ?_
    refine kx_getN S hK hW hinX1 12 1 rfl rfl 13 (by decide) (hN _ (List.mem_of_getElem? (i := 5) rfl)) (v := .int (nI ((θ 1) 13 0))) rfl dX2_outcome_36 ?_
    refine lv_aload_n S.1 S.2.1 dX2_outcome_39 rfl (lv_at hl 0 rfl) ?_
    refine kx_get S hK hW hinX2 0 2 rfl rfl 0 (by decide) (List.mem_of_getElem? (i := 2) rfl) (v := .ref (b 0 0)) rfl dX2_outcome_40 ?_
    refine kx_getN S hK hW hinX1 4 1 rfl rfl 13 (by decide) (hN _ (List.mem_of_getElem? (i := 5) rfl)) (v := .int (nI ((θ 0) 13 0))) rfl dX2_outcome_43 ?_
    refine lv_isub S.1 S.2.1 dX2_outcome_46 ?_
    exact hret 47 _ _ _ _ _ dX2_outcome_47 hW (rfl) (rfl)
  · skip
    refine lv_tableIn (tgt := 48) S.1 S.2.1 dX2_outcome_1 (by decide) (by decide) rfl (by decide) ?_
    refine lv_aload_n S.1 S.2.1 dX2_outcome_48 rfl (lv_at hl 0 rfl) ?_
    refine kx_get S hK hW hinX2 0 2 rfl rfl 1 (by decide) (List.mem_of_getElem? (i := 1) rfl) (v := .ref (b 1 0)) rfl dX2_outcome_49 ?_
    refine kx_getN S hK hW hinX1 12 1 rfl rfl 14 (by decide) (hN _ (List.mem_of_getElem? (i := 6) rfl)) (v := .int (nI ((θ 1) 14 0))) rfl dX2_outcome_52 ?_
    refine lv_aload_n S.1 S.2.1 dX2_outcome_55 rfl (lv_at hl 0 rfl) ?_
    refine kx_get S hK hW hinX2 0 2 rfl rfl 0 (by decide) (List.mem_of_getElem? (i := 2) rfl) (v := .ref (b 0 0)) rfl dX2_outcome_56 ?_
    refine kx_getN S hK hW hinX1 4 1 rfl rfl 14 (by decide) (hN _ (List.mem_of_getElem? (i := 6) rfl)) (v := .int (nI ((θ 0) 14 0))) rfl dX2_outcome_59 ?_
    refine lv_isub S.1 S.2.1 dX2_outcome_62 ?_
    exact hret 63 _ _ _ _ _ dX2_outcome_63 hW (rfl) (rfl)
  · skip
    refine lv_tableIn (tgt := 64) S.1 S.2.1 dX2_outcome_1 (by decide) (by decide) rfl (by decide) ?_
    refine lv_aload_n S.1 S.2.1 dX2_outcome_64 rfl (lv_at hl 0 rfl) ?_
    refine kx_get S hK hW hinX2 0 2 rfl rfl 1 (by decide) (List.mem_of_getElem? (i := 1) rfl) (v := .ref (b 1 0)) rfl dX2_outcome_65 ?_
    refine kx_getN S hK hW hinX1 12 1 rfl rfl 15 (by decide) (hN _ (List.mem_of_getElem? (i := 7) rfl)) (v := .int (nI ((θ 1) 15 0))) rfl dX2_outcome_68 ?_
    refine lv_aload_n S.1 S.2.1 dX2_outcome_71 rfl (lv_at hl 0 rfl) ?_
    refine kx_get S hK hW hinX2 0 2 rfl rfl 0 (by decide) (List.mem_of_getElem? (i := 2) rfl) (v := .ref (b 0 0)) rfl dX2_outcome_72 ?_
    refine kx_getN S hK hW hinX1 4 1 rfl rfl 15 (by decide) (hN _ (List.mem_of_getElem? (i := 7) rfl)) (v := .int (nI ((θ 0) 15 0))) rfl dX2_outcome_75 ?_
    refine lv_isub S.1 S.2.1 dX2_outcome_78 ?_
    exact hret 79 _ _ _ _ _ dX2_outcome_79 hW (rfl) (rfl)
  · skip
    refine lv_tableIn (tgt := 80) S.1 S.2.1 dX2_outcome_1 (by decide) (by decide) rfl (by decide) ?_
    refine lv_aload_n S.1 S.2.1 dX2_outcome_80 rfl (lv_at hl 0 rfl) ?_
    refine kx_get S hK hW hinX2 0 2 rfl rfl 1 (by decide) (List.mem_of_getElem? (i := 1) rfl) (v := .ref (b 1 0)) rfl dX2_outcome_81 ?_
    refine kx_getN S hK hW hinX1 12 1 rfl rfl 12 (by decide) (hN _ (List.mem_of_getElem? (i := 4) rfl)) (v := .int (nI ((θ 1) 12 0))) rfl dX2_outcome_84 ?_
    refine lv_aload_n S.1 S.2.1 dX2_outcome_87 rfl (lv_at hl 0 rfl) ?_
    refine kx_get S hK hW hinX2 0 2 rfl rfl 0 (by decide) (List.mem_of_getElem? (i := 2) rfl) (v := .ref (b 0 0)) rfl dX2_outcome_88 ?_
    refine kx_getN S hK hW hinX1 4 1 rfl rfl 12 (by decide) (hN _ (List.mem_of_getElem? (i := 4) rfl)) (v := .int (nI ((θ 0) 12 0))) rfl dX2_outcome_91 ?_
    refine lv_isub S.1 S.2.1 dX2_outcome_94 ?_
    exact hret 95 _ _ _ _ _ dX2_outcome_95 hW (rfl) (rfl)
  · skip
    refine lv_tableOut (tgt := 96) S.1 S.2.1 dX2_outcome_1 (by decide) (by decide) ?_
    refine lv_aload_n S.1 S.2.1 dX2_outcome_96 rfl (lv_at hl 0 rfl) ?_
    refine kx_get S hK hW hinX2 0 2 rfl rfl 1 (by decide) (List.mem_of_getElem? (i := 1) rfl) (v := .ref (b 1 0)) rfl dX2_outcome_97 ?_
    refine k_VI (rest := []) S hK hl.1 hW (fS1 hW hA _) (mX1_teethBroken l D c (b 1) ((θ 1)) _ V ok1) gX2_outcome_X1_teethBroken rfl pdX1_teethBroken ⟨⟨rfl, rfl⟩, Nat.le_of_ble_eq_true rfl, Nat.le_of_ble_eq_true rfl⟩ 0 1 rfl rfl rfl rfl (Nat.le_of_ble_eq_true rfl) dX2_outcome_100 ⟨Nat.le_of_ble_eq_true rfl, Nat.le_of_ble_eq_true rfl⟩ (fun H locs hW => ?_)
    have hW : kw D A s.heap (wP c a b θ ρ κ) H locs := hW
    refine k_top (y := nI (ones (((θ 1) 7 0)))) rfl ?_
    refine lv_aload_n S.1 S.2.1 dX2_outcome_103 rfl (lv_at hl 0 rfl) ?_
    refine kx_get S hK hW hinX2 0 2 rfl rfl 0 (by decide) (List.mem_of_getElem? (i := 2) rfl) (v := .ref (b 0 0)) rfl dX2_outcome_104 ?_
    refine k_VI (rest := [.int (nI (ones (((θ 1) 7 0))))]) S hK hl.1 hW (fS0 hW hA _) (mX1_teethBroken l D c (b 0) ((θ 0)) _ T ok) gX2_outcome_X1_teethBroken rfl pdX1_teethBroken ⟨⟨rfl, rfl⟩, Nat.le_of_ble_eq_true rfl, Nat.le_of_ble_eq_true rfl⟩ 0 1 rfl rfl rfl rfl (Nat.le_of_ble_eq_true rfl) dX2_outcome_107 ⟨Nat.le_of_ble_eq_true rfl, Nat.le_of_ble_eq_true rfl⟩ (fun H locs hW => ?_)
    have hW : kw D A s.heap (wP c a b θ ρ κ) H locs := hW
    refine k_top (y := nI (ones (((θ 0) 7 0)))) rfl ?_
    refine lv_isub S.1 S.2.1 dX2_outcome_110 ?_
    exact hret 111 _ _ _ _ _ dX2_outcome_111 hW (rfl) (rfl)
