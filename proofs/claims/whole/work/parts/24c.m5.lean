abbrev rmX3_teethOf : Room := { frames := 1, cells := 0, slots := 0, locals := 21 }
theorem pdX3_teethOf : kPd yX3_teethOf 1 := by decide +kernel
set_option maxHeartbeats 400000 in
set_option maxRecDepth 100000 in
theorem mX3_teethOf (l : Launch) (D : va_G) (c : Nat → ClassId) (a : Nat → Nat) (φ : Nat → Nat → Nat) (δ : Int64) (sz : Nat) (t : Nat) (ht : t < 3) (ok : okM (φ 0)) : MI l yX3_teethOf wsX3_teethOf rmX3_teethOf D c sz (wM c a φ δ) [.ref (a 0), .int (nI (t))] (nI (tof (φ 0) t)) (wM c a φ δ) := by
  refine MI.of (cc := cX3_teethOf) (maxL := 4) (ty := .int) (by decide) rfl (Nat.le_of_ble_eq_true rfl) rfl ?_
  intro P e s m below meth cd A Q ls hsz S hK hW hA hl hret
  have hl : lv_has ls 4 [(0, .ref (a 0)), (1, .int (nI (t)))] := hl
  have hinX3 : ∀ w ∈ u_ws RX3 TX3 13, w ∈ wsX3_teethOf := by decide +kernel
  refine lv_iconst (v := nI (0)) S.1 S.2.1 dX3_teethOf_0 rfl ?_
  refine lv_istore_n (lv' := [(2, .int (nI (0))), (0, .ref (a 0)), (1, .int (nI (t)))]) S.1 S.2.1 dX3_teethOf_1 rfl hl (by decide) rfl (fun ls hl => ?_)
  refine lv_iconst (v := nI (0)) S.1 S.2.1 dX3_teethOf_2 rfl ?_
  refine lv_istore_n (lv' := [(3, .int (nI (0))), (2, .int (nI (0))), (0, .ref (a 0)), (1, .int (nI (t)))]) S.1 S.2.1 dX3_teethOf_3 rfl hl (by decide) rfl (fun ls hl => ?_)
  refine k_loop (fun (zz : Nat) H lo ls => match zz with | k => kw D A s.heap (wM c a φ δ) H lo ∧ lv_has ls 4 [(0, .ref (a 0)), (1, .int (nI (t))), (2, .int (nI (mk (fun j => decide (¬ φ 0 (12 * t + j) = 0)) k))), (3, .int (nI (k)))] ∧ k ≤ 12) (fun (zz : Nat) => match zz with | k => 12 - k) [] ?_ 0 _ _ _ ⟨hW, lv_sub hl [2, 3, 1, 0] rfl, (by decide)⟩
  rintro k ih4 H locs ls ⟨hW, hl, hi4_0⟩
  refine lv_iload_n S.1 S.2.1 dX3_teethOf_4 rfl (lv_at hl 3 rfl) ?_
  refine lv_bipush (v := nI (12)) S.1 S.2.1 dX3_teethOf_5 rfl ?_
  refine kn_ge S (tgt := 39) dX3_teethOf_7 (by decide) (by omega) (by omega) (fun c_7 => ?_) (fun c_7 => ?_)
  · have e9 : k = 12 := by omega
    subst e9
    refine lv_iload_n S.1 S.2.1 dX3_teethOf_39 rfl (lv_at hl 2 rfl) ?_
    exact hret 40 _ _ _ _ _ dX3_teethOf_40 hW (rfl) (rfl)
  · have hp := ok.pin (i := 12 * t + k) (by omega)
    refine lv_iload_n S.1 S.2.1 dX3_teethOf_10 rfl (lv_at hl 2 rfl) ?_
    refine lv_aload_n S.1 S.2.1 dX3_teethOf_11 rfl (lv_at hl 0 rfl) ?_
    refine kx_get S hK hW hinX3 0 3 rfl rfl 1 (by decide) (List.mem_of_getElem? (i := 1) rfl) (v := .ref (a 1)) rfl dX3_teethOf_12 ?_
    refine lv_iload_n S.1 S.2.1 dX3_teethOf_15 rfl (lv_at hl 1 rfl) ?_
    refine lv_iload_n S.1 S.2.1 dX3_teethOf_16 rfl (lv_at hl 3 rfl) ?_
    refine k_SI (rest := [.ref (a 1), .int (nI (mk (fun j => decide (¬ φ 0 (12 * t + j) = 0)) k))]) S hK hl.1 hW (KFr.nil hW hA) (mX3_ofPins l D c  _ t k) gX3_teethOf_X3_ofPins rfl pdX3_ofPins ⟨⟨rfl, rfl⟩, Nat.le_of_ble_eq_true rfl, Nat.le_of_ble_eq_true rfl⟩ rfl (Nat.le_of_ble_eq_true rfl) dX3_teethOf_17 ⟨Nat.le_of_ble_eq_true rfl, Nat.le_of_ble_eq_true rfl⟩ (fun H locs hW => ?_)
    have hW : kw D A s.heap (wM c a φ δ) H locs := hW
    refine kn_ald S hK hW 1 (f := φ 0) rfl (by omega) (by decide) dX3_teethOf_20 ?_
    refine kw_eq S (tgt := 30) dX3_teethOf_21 (by decide) (by omega) (fun c_21 => ?_) (fun c_21 => ?_)
    · refine lv_iconst (v := nI (0)) S.1 S.2.1 dX3_teethOf_30 rfl ?_
      refine kn_ior S dX3_teethOf_31 ?_
      refine k_top (y := nI (mk (fun j => decide (¬ φ 0 (12 * t + j) = 0)) (k + 1))) (congrArg nI (by first | exact mk_t (f := (fun j => decide (¬ φ 0 (12 * t + j) = 0))) (decide_eq_true c_21) | exact mk_f (f := (fun j => decide (¬ φ 0 (12 * t + j) = 0))) (decide_eq_false (fun q => q c_21)))) ?_
      refine lv_istore_n (lv' := [(2, .int (nI (mk (fun j => decide (¬ φ 0 (12 * t + j) = 0)) (k + 1)))), (0, .ref (a 0)), (1, .int (nI (t))), (3, .int (nI (k)))]) S.1 S.2.1 dX3_teethOf_32 rfl hl (by decide) rfl (fun ls hl => ?_)
      refine lv_iinc (v := nI (k + 1)) (lv' := [(3, .int (nI (k + 1))), (2, .int (nI (mk (fun j => decide (¬ φ 0 (12 * t + j) = 0)) (k + 1)))), (0, .ref (a 0)), (1, .int (nI (t)))]) S.1 S.2.1 dX3_teethOf_33 hl (k := 3) rfl (nI_add _ _) (by decide) rfl (fun ls hl => ?_)
      refine lv_goto (tgt := 4) S.1 S.2.1 dX3_teethOf_36 (by decide) ?_
      exact ih4 (k + 1) _ _ _ ⟨hW, lv_sub hl [2, 3, 1, 0] rfl, (by omega)⟩ (by show 12 - (k + 1) < 12 - k; omega)
    · refine lv_iconst (v := nI (1)) S.1 S.2.1 dX3_teethOf_24 rfl ?_
      refine lv_iload_n S.1 S.2.1 dX3_teethOf_25 rfl (lv_at hl 3 rfl) ?_
      refine kn_shl1 S dX3_teethOf_26 (by omega) ?_
      refine lv_goto (tgt := 31) S.1 S.2.1 dX3_teethOf_27 (by decide) ?_
      refine kn_ior S dX3_teethOf_31 ?_
      refine k_top (y := nI (mk (fun j => decide (¬ φ 0 (12 * t + j) = 0)) (k + 1))) (congrArg nI (by first | exact mk_t (f := (fun j => decide (¬ φ 0 (12 * t + j) = 0))) (decide_eq_true c_21) | exact mk_f (f := (fun j => decide (¬ φ 0 (12 * t + j) = 0))) (decide_eq_false (fun q => q c_21)))) ?_
      refine lv_istore_n (lv' := [(2, .int (nI (mk (fun j => decide (¬ φ 0 (12 * t + j) = 0)) (k + 1)))), (0, .ref (a 0)), (1, .int (nI (t))), (3, .int (nI (k)))]) S.1 S.2.1 dX3_teethOf_32 rfl hl (by decide) rfl (fun ls hl => ?_)
      refine lv_iinc (v := nI (k + 1)) (lv' := [(3, .int (nI (k + 1))), (2, .int (nI (mk (fun j => decide (¬ φ 0 (12 * t + j) = 0)) (k + 1)))), (0, .ref (a 0)), (1, .int (nI (t)))]) S.1 S.2.1 dX3_teethOf_33 hl (k := 3) rfl (nI_add _ _) (by decide) rfl (fun ls hl => ?_)
      refine lv_goto (tgt := 4) S.1 S.2.1 dX3_teethOf_36 (by decide) ?_
      exact ih4 (k + 1) _ _ _ ⟨hW, lv_sub hl [2, 3, 1, 0] rfl, (by omega)⟩ (by show 12 - (k + 1) < 12 - k; omega)
abbrev rmX3_ofTune : Room := { frames := 4, cells := 0, slots := 0, locals := 91 }
theorem pdX3_ofTune : kPd yX3_ofTune 2 := by decide +kernel
set_option maxHeartbeats 400000 in
set_option maxRecDepth 100000 in
theorem mX3_ofTune (l : Launch) (D : va_G) (c : Nat → ClassId) (a : Nat → Nat) (φ : Nat → Nat → Nat) (δ : Int64) (sz : Nat) (t : Nat) (w : Nat) (ht : t < 3) (hw : w < 5) (ok : okM (φ 0)) : MI l yX3_ofTune wsX3_ofTune rmX3_ofTune D c sz (wM c a φ δ) [.ref (a 0), .int (nI (t)), .int (nI (w))] (nI (otu (φ 0) t w)) (wM c a φ δ) := by
  refine MI.of (cc := cX3_ofTune) (maxL := 3) (ty := .int) (by decide) rfl (Nat.le_of_ble_eq_true rfl) rfl ?_
  intro P e s m below meth cd A Q ls hsz S hK hW hA hl hret
  have hl : lv_has ls 3 [(0, .ref (a 0)), (1, .int (nI (t))), (2, .int (nI (w)))] := hl
  have hf := ful_le (φ 0) t 31
  refine lv_iload_n S.1 S.2.1 dX3_ofTune_0 rfl (lv_at hl 2 rfl) ?_
  rcases (show w = 0 ∨ w = 1 ∨ w = 2 ∨ w = 3 ∨ w = 4 from by omega) with rfl | rfl | rfl | rfl | rfl
  · skip
    refine lv_tableIn (tgt := 32) S.1 S.2.1 dX3_ofTune_1 (by decide) (by decide) rfl (by decide) ?_
    refine lv_aload_n S.1 S.2.1 dX3_ofTune_32 rfl (lv_at hl 0 rfl) ?_
    refine lv_iload_n S.1 S.2.1 dX3_ofTune_33 rfl (lv_at hl 1 rfl) ?_
    refine k_VI (rest := []) S hK hl.1 hW (KFr.all hW hA) (mX3_pinsOf l D c a φ δ _ t (by first | omega | exact ht | assumption)) gX3_ofTune_X3_pinsOf rfl pdX3_pinsOf ⟨⟨rfl, rfl⟩, Nat.le_of_ble_eq_true rfl, Nat.le_of_ble_eq_true rfl⟩ 0 3 rfl rfl rfl rfl (Nat.le_of_ble_eq_true rfl) dX3_ofTune_34 ⟨Nat.le_of_ble_eq_true rfl, Nat.le_of_ble_eq_true rfl⟩ (fun H locs hW => ?_)
    have hW : kw D A s.heap (wM c a φ δ) H locs := hW
    exact hret 37 _ _ _ _ _ dX3_ofTune_37 hW (congrArg nI (by unfold otu; first | rw [if_pos (Or.inl rfl)] | rw [if_pos (Or.inr rfl)])) (rfl)
  · skip
    refine lv_tableIn (tgt := 32) S.1 S.2.1 dX3_ofTune_1 (by decide) (by decide) rfl (by decide) ?_
    refine lv_aload_n S.1 S.2.1 dX3_ofTune_32 rfl (lv_at hl 0 rfl) ?_
    refine lv_iload_n S.1 S.2.1 dX3_ofTune_33 rfl (lv_at hl 1 rfl) ?_
    refine k_VI (rest := []) S hK hl.1 hW (KFr.all hW hA) (mX3_pinsOf l D c a φ δ _ t (by first | omega | exact ht | assumption)) gX3_ofTune_X3_pinsOf rfl pdX3_pinsOf ⟨⟨rfl, rfl⟩, Nat.le_of_ble_eq_true rfl, Nat.le_of_ble_eq_true rfl⟩ 0 3 rfl rfl rfl rfl (Nat.le_of_ble_eq_true rfl) dX3_ofTune_34 ⟨Nat.le_of_ble_eq_true rfl, Nat.le_of_ble_eq_true rfl⟩ (fun H locs hW => ?_)
    have hW : kw D A s.heap (wM c a φ δ) H locs := hW
    exact hret 37 _ _ _ _ _ dX3_ofTune_37 hW (congrArg nI (by unfold otu; first | rw [if_pos (Or.inl rfl)] | rw [if_pos (Or.inr rfl)])) (rfl)
  · skip
    refine lv_tableIn (tgt := 38) S.1 S.2.1 dX3_ofTune_1 (by decide) (by decide) rfl (by decide) ?_
    refine lv_aload_n S.1 S.2.1 dX3_ofTune_38 rfl (lv_at hl 0 rfl) ?_
    refine lv_iload_n S.1 S.2.1 dX3_ofTune_39 rfl (lv_at hl 1 rfl) ?_
    refine lv_aload_n S.1 S.2.1 dX3_ofTune_40 rfl (lv_at hl 0 rfl) ?_
    refine lv_iload_n S.1 S.2.1 dX3_ofTune_41 rfl (lv_at hl 1 rfl) ?_
    refine k_VI (rest := [.int (nI (t)), .ref (a 0)]) S hK hl.1 hW (KFr.all hW hA) (mX3_fullest l D c a φ δ _ t (by first | omega | exact ht | assumption)) gX3_ofTune_X3_fullest rfl pdX3_fullest ⟨⟨rfl, rfl⟩, Nat.le_of_ble_eq_true rfl, Nat.le_of_ble_eq_true rfl⟩ 0 3 rfl rfl rfl rfl (Nat.le_of_ble_eq_true rfl) dX3_ofTune_42 ⟨Nat.le_of_ble_eq_true rfl, Nat.le_of_ble_eq_true rfl⟩ (fun H locs hW => ?_)
    have hW : kw D A s.heap (wM c a φ δ) H locs := hW
    refine k_VI (rest := []) S hK hl.1 hW (KFr.all hW hA) (mX3_pinsAt l D c a φ δ _ t (ful (φ 0) t 31) (by first | omega | exact ht | assumption) (by first | omega | exact hp | assumption)) gX3_ofTune_X3_pinsAt rfl pdX3_pinsAt ⟨⟨rfl, rfl⟩, Nat.le_of_ble_eq_true rfl, Nat.le_of_ble_eq_true rfl⟩ 0 3 rfl rfl rfl rfl (Nat.le_of_ble_eq_true rfl) dX3_ofTune_45 ⟨Nat.le_of_ble_eq_true rfl, Nat.le_of_ble_eq_true rfl⟩ (fun H locs hW => ?_)
    have hW : kw D A s.heap (wM c a φ δ) H locs := hW
    refine k_SI (rest := []) S hK hl.1 hW (KFr.nil hW hA) (mX3_ones l D c  _ (mk (fun j => pb (φ 0) t j (ful (φ 0) t 31)) 12)) gX3_ofTune_X3_ones rfl pdX3_ones ⟨⟨rfl, rfl⟩, Nat.le_of_ble_eq_true rfl, Nat.le_of_ble_eq_true rfl⟩ rfl (Nat.le_of_ble_eq_true rfl) dX3_ofTune_48 ⟨Nat.le_of_ble_eq_true rfl, Nat.le_of_ble_eq_true rfl⟩ (fun H locs hW => ?_)
    have hW : kw D A s.heap (wM c a φ δ) H locs := hW
    exact hret 51 _ _ _ _ _ dX3_ofTune_51 hW (congrArg nI (by unfold otu; rw [if_neg (by decide), if_pos rfl])) (rfl)
  · skip
    refine lv_tableIn (tgt := 52) S.1 S.2.1 dX3_ofTune_1 (by decide) (by decide) rfl (by decide) ?_
    refine lv_aload_n S.1 S.2.1 dX3_ofTune_52 rfl (lv_at hl 0 rfl) ?_
    refine lv_iload_n S.1 S.2.1 dX3_ofTune_53 rfl (lv_at hl 1 rfl) ?_
    refine k_VI (rest := []) S hK hl.1 hW (KFr.all hW hA) (mX3_fullest l D c a φ δ _ t (by first | omega | exact ht | assumption)) gX3_ofTune_X3_fullest rfl pdX3_fullest ⟨⟨rfl, rfl⟩, Nat.le_of_ble_eq_true rfl, Nat.le_of_ble_eq_true rfl⟩ 0 3 rfl rfl rfl rfl (Nat.le_of_ble_eq_true rfl) dX3_ofTune_54 ⟨Nat.le_of_ble_eq_true rfl, Nat.le_of_ble_eq_true rfl⟩ (fun H locs hW => ?_)
    have hW : kw D A s.heap (wM c a φ δ) H locs := hW
    exact hret 57 _ _ _ _ _ dX3_ofTune_57 hW (congrArg nI (by unfold otu; rw [if_neg (by decide), if_neg (by decide), if_pos rfl])) (rfl)
  · skip
    refine lv_tableOut (tgt := 58) S.1 S.2.1 dX3_ofTune_1 (by decide) (by decide) ?_
    refine lv_aload_n S.1 S.2.1 dX3_ofTune_58 rfl (lv_at hl 0 rfl) ?_
    refine lv_iload_n S.1 S.2.1 dX3_ofTune_59 rfl (lv_at hl 1 rfl) ?_
    refine k_VI (rest := []) S hK hl.1 hW (KFr.all hW hA) (mX3_teethOf l D c a φ δ _ t (by first | omega | exact ht | assumption) (by first | omega | exact ok | assumption)) gX3_ofTune_X3_teethOf rfl pdX3_teethOf ⟨⟨rfl, rfl⟩, Nat.le_of_ble_eq_true rfl, Nat.le_of_ble_eq_true rfl⟩ 0 3 rfl rfl rfl rfl (Nat.le_of_ble_eq_true rfl) dX3_ofTune_60 ⟨Nat.le_of_ble_eq_true rfl, Nat.le_of_ble_eq_true rfl⟩ (fun H locs hW => ?_)
    have hW : kw D A s.heap (wM c a φ δ) H locs := hW
    exact hret 63 _ _ _ _ _ dX3_ofTune_63 hW (congrArg nI (by unfold otu; rw [if_neg (by decide), if_neg (by decide), if_neg (by decide)])) (rfl)
