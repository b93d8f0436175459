abbrev rmX3_ofTooth : Room := { frames := 2, cells := 0, slots := 0, locals := 47 }
theorem pdX3_ofTooth : kPd yX3_ofTooth 2 := by decide +kernel
set_option maxHeartbeats 400000 in
set_option maxRecDepth 100000 in
theorem mX3_ofTooth (l : Launch) (D : va_G) (c : Nat → ClassId) (a : Nat → Nat) (φ : Nat → Nat → Nat) (δ : Int64) (sz : Nat) (j : Nat) (w : Nat) (hj : j < 12) (hw : w < 5) (ok : okM (φ 0)) : MI l yX3_ofTooth wsX3_ofTooth rmX3_ofTooth D c sz (wM c a φ δ) [.ref (a 0), .int (nI (j)), .int (nI (w))] (nI (oto (φ 0) j w)) (wM c a φ δ) := by
  refine MI.of (cc := cX3_ofTooth) (maxL := 3) (ty := .int) (by decide) rfl (Nat.le_of_ble_eq_true rfl) rfl ?_
  intro P e s m below meth cd A Q ls hsz S hK hW hA hl hret
  have hl : lv_has ls 3 [(0, .ref (a 0)), (1, .int (nI (j))), (2, .int (nI (w)))] := hl
  have hinX3 : ∀ w ∈ u_ws RX3 TX3 13, w ∈ wsX3_ofTooth := by decide +kernel
  refine lv_iload_n S.1 S.2.1 dX3_ofTooth_0 rfl (lv_at hl 2 rfl) ?_
  refine lv_iconst (v := nI (4)) S.1 S.2.1 dX3_ofTooth_1 rfl ?_
  refine kn_ge S (tgt := 18) dX3_ofTooth_2 (by decide) (by omega) (by omega) (fun c_2 => ?_) (fun c_2 => ?_)
  · refine lv_aload_n S.1 S.2.1 dX3_ofTooth_18 rfl (lv_at hl 0 rfl) ?_
    refine lv_iload_n S.1 S.2.1 dX3_ofTooth_19 rfl (lv_at hl 1 rfl) ?_
    refine k_VI (rest := []) S hK hl.1 hW (KFr.all hW hA) (mX3_widest l D c a φ δ _ j (by first | omega | exact hj | assumption) (by first | omega | exact ok | assumption)) gX3_ofTooth_X3_widest rfl pdX3_widest ⟨⟨rfl, rfl⟩, Nat.le_of_ble_eq_true rfl, Nat.le_of_ble_eq_true rfl⟩ 0 3 rfl rfl rfl rfl (Nat.le_of_ble_eq_true rfl) dX3_ofTooth_20 ⟨Nat.le_of_ble_eq_true rfl, Nat.le_of_ble_eq_true rfl⟩ (fun H locs hW => ?_)
    have hW : kw D A s.heap (wM c a φ δ) H locs := hW
    exact hret 23 _ _ _ _ _ dX3_ofTooth_23 hW (congrArg nI (by unfold oto; first | rw [if_pos c_2] | rw [if_neg (by omega)])) (rfl)
  · refine lv_aload_n S.1 S.2.1 dX3_ofTooth_5 rfl (lv_at hl 0 rfl) ?_
    refine kx_get S hK hW hinX3 0 3 rfl rfl 1 (by decide) (List.mem_of_getElem? (i := 1) rfl) (v := .ref (a 1)) rfl dX3_ofTooth_6 ?_
    refine lv_iload_n S.1 S.2.1 dX3_ofTooth_9 rfl (lv_at hl 1 rfl) ?_
    refine lv_iload_n S.1 S.2.1 dX3_ofTooth_10 rfl (lv_at hl 2 rfl) ?_
    refine k_SI (rest := [.ref (a 1)]) S hK hl.1 hW (KFr.nil hW hA) (mX3_of l D c  _ j w) gX3_ofTooth_X3_of rfl pdX3_of ⟨⟨rfl, rfl⟩, Nat.le_of_ble_eq_true rfl, Nat.le_of_ble_eq_true rfl⟩ rfl (Nat.le_of_ble_eq_true rfl) dX3_ofTooth_11 ⟨Nat.le_of_ble_eq_true rfl, Nat.le_of_ble_eq_true rfl⟩ (fun H locs hW => ?_)
    have hW : kw D A s.heap (wM c a φ δ) H locs := hW
    refine kn_ald S hK hW 1 (f := φ 0) rfl (by omega) (by decide) dX3_ofTooth_14 ?_
    refine lv_goto (tgt := 23) S.1 S.2.1 dX3_ofTooth_15 (by decide) ?_
    exact hret 23 _ _ _ _ _ dX3_ofTooth_23 hW (congrArg nI (by unfold oto; first | rw [if_pos c_2] | rw [if_neg (by omega)])) (rfl)
abbrev rmX3_tooth : Room := { frames := 3, cells := 0, slots := 0, locals := 69 }
theorem pdX3_tooth : kPd yX3_tooth 2 := by decide +kernel
set_option maxHeartbeats 400000 in
set_option maxRecDepth 100000 in
theorem mX3_tooth_x1 (l : Launch) (D : va_G) (c : Nat → ClassId) (a : Nat → Nat) (φ : Nat → Nat → Nat) (δ : Int64) (sz : Nat) (j : Int32) (w : Int32) (hin : inb j (nI 0) (nI 11) = false) : MI l yX3_tooth wsX3_tooth rmX3_tooth D c sz (wM c a φ δ) [.ref (a 0), .int (j), .int (w)] (nI (0)) (wM c a (pu φ 5 (kc (1))) δ) := by
  refine MI.of (cc := cX3_tooth) (maxL := 3) (ty := .int) (by decide) rfl (Nat.le_of_ble_eq_true rfl) rfl ?_
  intro P e s m below meth cd A Q ls hsz S hK hW hA hl hret
  have hl : lv_has ls 3 [(0, .ref (a 0)), (1, .int (j)), (2, .int (w))] := hl
  refine lv_aload_n S.1 S.2.1 dX3_tooth_0 rfl (lv_at hl 0 rfl) ?_
  refine lv_iload_n S.1 S.2.1 dX3_tooth_1 rfl (lv_at hl 1 rfl) ?_
  refine k_SI (rest := [.ref (a 0)]) S hK hl.1 hW (KFr.nil hW hA) (mX3_isTooth l D c  _ j) gX3_tooth_X3_isTooth rfl pdX3_isTooth ⟨⟨rfl, rfl⟩, Nat.le_of_ble_eq_true rfl, Nat.le_of_ble_eq_true rfl⟩ rfl (Nat.le_of_ble_eq_true rfl) dX3_tooth_2 ⟨Nat.le_of_ble_eq_true rfl, Nat.le_of_ble_eq_true rfl⟩ (fun H locs hW => ?_)
  have hW : kw D A s.heap (wM c a φ δ) H locs := hW
  refine kb_ne S (tgt := 12) dX3_tooth_5 (by decide) (fun c_5 => ?_) (fun c_5 => ?_)
  · exact absurd (hin.symm.trans c_5) (by decide)
  · refine lv_iconst (v := nI (1)) S.1 S.2.1 dX3_tooth_8 rfl ?_
    refine lv_goto (tgt := 26) S.1 S.2.1 dX3_tooth_9 (by decide) ?_
    refine k_VI (rest := []) S hK hl.1 hW (KFr.all hW hA) (mX3_holds l D c a φ δ _ 1 (by first | omega | exact hw | assumption)) gX3_tooth_X3_holds rfl pdX3_holds ⟨⟨rfl, rfl⟩, Nat.le_of_ble_eq_true rfl, Nat.le_of_ble_eq_true rfl⟩ 0 3 rfl rfl rfl rfl (Nat.le_of_ble_eq_true rfl) dX3_tooth_26 ⟨Nat.le_of_ble_eq_true rfl, Nat.le_of_ble_eq_true rfl⟩ (fun H locs hW => ?_)
    have hW : kw D A s.heap (wM c a (pu φ 5 (kc (1))) δ) H locs := hW
    refine kb_eq S (tgt := 41) dX3_tooth_29 (by decide) (fun c_29 => ?_) (fun c_29 => ?_)
    · refine lv_iconst (v := nI (0)) S.1 S.2.1 dX3_tooth_41 rfl ?_
      exact hret 42 _ _ _ _ _ dX3_tooth_42 hW (rfl) (rfl)
    · exact absurd c_29 (by decide)
set_option maxHeartbeats 400000 in
set_option maxRecDepth 100000 in
theorem mX3_tooth_x2 (l : Launch) (D : va_G) (c : Nat → ClassId) (a : Nat → Nat) (φ : Nat → Nat → Nat) (δ : Int64) (sz : Nat) (j : Nat) (w : Int32) (h1 : j ≤ 11) (hw : inb w (nI (0)) (nI (4)) = false) : MI l yX3_tooth wsX3_tooth rmX3_tooth D c sz (wM c a φ δ) [.ref (a 0), .int (nI (j)), .int (w)] (nI (0)) (wM c a (pu φ 5 (kc (2))) δ) := by
  refine MI.of (cc := cX3_tooth) (maxL := 3) (ty := .int) (by decide) rfl (Nat.le_of_ble_eq_true rfl) rfl ?_
  intro P e s m below meth cd A Q ls hsz S hK hW hA hl hret
  have hl : lv_has ls 3 [(0, .ref (a 0)), (1, .int (nI (j))), (2, .int (w))] := hl
  have hin : inb (nI (j)) (nI 0) (nI 11) = true := inb_t (Nat.zero_le _) (by omega) (by decide)
  refine lv_aload_n S.1 S.2.1 dX3_tooth_0 rfl (lv_at hl 0 rfl) ?_
  refine lv_iload_n S.1 S.2.1 dX3_tooth_1 rfl (lv_at hl 1 rfl) ?_
  refine k_SI (rest := [.ref (a 0)]) S hK hl.1 hW (KFr.nil hW hA) (mX3_isTooth l D c  _ (nI (j))) gX3_tooth_X3_isTooth rfl pdX3_isTooth ⟨⟨rfl, rfl⟩, Nat.le_of_ble_eq_true rfl, Nat.le_of_ble_eq_true rfl⟩ rfl (Nat.le_of_ble_eq_true rfl) dX3_tooth_2 ⟨Nat.le_of_ble_eq_true rfl, Nat.le_of_ble_eq_true rfl⟩ (fun H locs hW => ?_)
  have hW : kw D A s.heap (wM c a φ δ) H locs := hW
  refine kb_ne S (tgt := 12) dX3_tooth_5 (by decide) (fun c_5 => ?_) (fun c_5 => ?_)
  · refine lv_iload_n S.1 S.2.1 dX3_tooth_12 rfl (lv_at hl 2 rfl) ?_
    refine lv_iconst (v := nI (0)) S.1 S.2.1 dX3_tooth_13 rfl ?_
    refine lv_iconst (v := nI (4)) S.1 S.2.1 dX3_tooth_14 rfl ?_
    refine k_SI (rest := [.ref (a 0)]) S hK hl.1 hW (KFr.nil hW hA) (mX3_in l D c  _ w (nI (0)) (nI (4))) gX3_tooth_X3_in rfl pdX3_in ⟨⟨rfl, rfl⟩, Nat.le_of_ble_eq_true rfl, Nat.le_of_ble_eq_true rfl⟩ rfl (Nat.le_of_ble_eq_true rfl) dX3_tooth_15 ⟨Nat.le_of_ble_eq_true rfl, Nat.le_of_ble_eq_true rfl⟩ (fun H locs hW => ?_)
    have hW : kw D A s.heap (wM c a φ δ) H locs := hW
    refine kb_eq S (tgt := 25) dX3_tooth_18 (by decide) (fun c_18 => ?_) (fun c_18 => ?_)
    · refine lv_iconst (v := nI (2)) S.1 S.2.1 dX3_tooth_25 rfl ?_
      refine k_VI (rest := []) S hK hl.1 hW (KFr.all hW hA) (mX3_holds l D c a φ δ _ 2 (by first | omega | exact hw | assumption)) gX3_tooth_X3_holds rfl pdX3_holds ⟨⟨rfl, rfl⟩, Nat.le_of_ble_eq_true rfl, Nat.le_of_ble_eq_true rfl⟩ 0 3 rfl rfl rfl rfl (Nat.le_of_ble_eq_true rfl) dX3_tooth_26 ⟨Nat.le_of_ble_eq_true rfl, Nat.le_of_ble_eq_true rfl⟩ (fun H locs hW => ?_)
      have hW : kw D A s.heap (wM c a (pu φ 5 (kc (2))) δ) H locs := hW
      refine kb_eq S (tgt := 41) dX3_tooth_29 (by decide) (fun c_29 => ?_) (fun c_29 => ?_)
      · refine lv_iconst (v := nI (0)) S.1 S.2.1 dX3_tooth_41 rfl ?_
        exact hret 42 _ _ _ _ _ dX3_tooth_42 hW (rfl) (rfl)
      · exact absurd c_29 (by decide)
    · exact absurd (hw.symm.trans c_18) (by decide)
  · exact absurd (hin.symm.trans c_5) (by decide)
set_option maxHeartbeats 400000 in
set_option maxRecDepth 100000 in
theorem mX3_tooth_k (l : Launch) (D : va_G) (c : Nat → ClassId) (a : Nat → Nat) (φ : Nat → Nat → Nat) (δ : Int64) (sz : Nat) (j : Nat) (w : Nat) (h1 : j ≤ 11) (h2 : w ≤ 4) (ok : okM (φ 0)) : MI l yX3_tooth wsX3_tooth rmX3_tooth D c sz (wM c a φ δ) [.ref (a 0), .int (nI (j)), .int (nI (w))] (nI (oto (φ 0) j w)) (wM c a (pu φ 5 (kc (0))) δ) := by
  refine MI.of (cc := cX3_tooth) (maxL := 3) (ty := .int) (by decide) rfl (Nat.le_of_ble_eq_true rfl) rfl ?_
  intro P e s m below meth cd A Q ls hsz S hK hW hA hl hret
  have hl : lv_has ls 3 [(0, .ref (a 0)), (1, .int (nI (j))), (2, .int (nI (w)))] := hl
  have hin : inb (nI (j)) (nI 0) (nI 11) = true := inb_t (Nat.zero_le _) (by omega) (by decide)
  have hw : inb (nI (w)) (nI (0)) (nI (4)) = true := inb_t (Nat.zero_le _) (by omega) (by decide)
  refine lv_aload_n S.1 S.2.1 dX3_tooth_0 rfl (lv_at hl 0 rfl) ?_
  refine lv_iload_n S.1 S.2.1 dX3_tooth_1 rfl (lv_at hl 1 rfl) ?_
  refine k_SI (rest := [.ref (a 0)]) S hK hl.1 hW (KFr.nil hW hA) (mX3_isTooth l D c  _ (nI (j))) gX3_tooth_X3_isTooth rfl pdX3_isTooth ⟨⟨rfl, rfl⟩, Nat.le_of_ble_eq_true rfl, Nat.le_of_ble_eq_true rfl⟩ rfl (Nat.le_of_ble_eq_true rfl) dX3_tooth_2 ⟨Nat.le_of_ble_eq_true rfl, Nat.le_of_ble_eq_true rfl⟩ (fun H locs hW => ?_)
  have hW : kw D A s.heap (wM c a φ δ) H locs := hW
  refine kb_ne S (tgt := 12) dX3_tooth_5 (by decide) (fun c_5 => ?_) (fun c_5 => ?_)
  · refine lv_iload_n S.1 S.2.1 dX3_tooth_12 rfl (lv_at hl 2 rfl) ?_
    refine lv_iconst (v := nI (0)) S.1 S.2.1 dX3_tooth_13 rfl ?_
    refine lv_iconst (v := nI (4)) S.1 S.2.1 dX3_tooth_14 rfl ?_
    refine k_SI (rest := [.ref (a 0)]) S hK hl.1 hW (KFr.nil hW hA) (mX3_in l D c  _ (nI (w)) (nI (0)) (nI (4))) gX3_tooth_X3_in rfl pdX3_in ⟨⟨rfl, rfl⟩, Nat.le_of_ble_eq_true rfl, Nat.le_of_ble_eq_true rfl⟩ rfl (Nat.le_of_ble_eq_true rfl) dX3_tooth_15 ⟨Nat.le_of_ble_eq_true rfl, Nat.le_of_ble_eq_true rfl⟩ (fun H locs hW => ?_)
    have hW : kw D A s.heap (wM c a φ δ) H locs := hW
    refine kb_eq S (tgt := 25) dX3_tooth_18 (by decide) (fun c_18 => ?_) (fun c_18 => ?_)
    · exact absurd (hw.symm.trans c_18) (by decide)
    · refine lv_iconst (v := nI (0)) S.1 S.2.1 dX3_tooth_21 rfl ?_
      refine lv_goto (tgt := 26) S.1 S.2.1 dX3_tooth_22 (by decide) ?_
      refine k_VI (rest := []) S hK hl.1 hW (KFr.all hW hA) (mX3_holds l D c a φ δ _ 0 (by first | omega | exact hw | assumption)) gX3_tooth_X3_holds rfl pdX3_holds ⟨⟨rfl, rfl⟩, Nat.le_of_ble_eq_true rfl, Nat.le_of_ble_eq_true rfl⟩ 0 3 rfl rfl rfl rfl (Nat.le_of_ble_eq_true rfl) dX3_tooth_26 ⟨Nat.le_of_ble_eq_true rfl, Nat.le_of_ble_eq_true rfl⟩ (fun H locs hW => ?_)
      have hW : kw D A s.heap (wM c a (pu φ 5 (kc (0))) δ) H locs := hW
      refine kb_eq S (tgt := 41) dX3_tooth_29 (by decide) (fun c_29 => ?_) (fun c_29 => ?_)
      · exact absurd c_29 (by decide)
      · refine lv_aload_n S.1 S.2.1 dX3_tooth_32 rfl (lv_at hl 0 rfl) ?_
        refine lv_iload_n S.1 S.2.1 dX3_tooth_33 rfl (lv_at hl 1 rfl) ?_
        refine lv_iload_n S.1 S.2.1 dX3_tooth_34 rfl (lv_at hl 2 rfl) ?_
        refine k_VI (rest := []) S hK hl.1 hW (KFr.all hW hA) (mX3_ofTooth l D c a ((pu φ 5 (kc (0)))) δ _ j w (by first | omega | exact hj | assumption) (by first | omega | exact hw | assumption) (by first | omega | exact ok | assumption)) gX3_tooth_X3_ofTooth rfl pdX3_ofTooth ⟨⟨rfl, rfl⟩, Nat.le_of_ble_eq_true rfl, Nat.le_of_ble_eq_true rfl⟩ 0 3 rfl rfl rfl rfl (Nat.le_of_ble_eq_true rfl) dX3_tooth_35 ⟨Nat.le_of_ble_eq_true rfl, Nat.le_of_ble_eq_true rfl⟩ (fun H locs hW => ?_)
        have hW : kw D A s.heap (wM c a (pu φ 5 (kc (0))) δ) H locs := hW
        refine k_top (y := nI (oto ((φ 0)) j w)) rfl ?_
        refine lv_goto (tgt := 42) S.1 S.2.1 dX3_tooth_38 (by decide) ?_
        exact hret 42 _ _ _ _ _ dX3_tooth_42 hW (rfl) (rfl)
  · exact absurd (hin.symm.trans c_5) (by decide)
