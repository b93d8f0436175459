abbrev rmX2_mixed : Room := { frames := 0, cells := 0, slots := 0, locals := 0 }
theorem pdX2_mixed : kPd yX2_mixed 2 := by decide +kernel
set_option maxHeartbeats 400000 in
set_option maxRecDepth 100000 in
theorem mX2_mixed (l : Launch) (D : va_G) (c : Nat → ClassId) (sz : Nat) (h : Int64) (v : Int64) : ML l yX2_mixed wsX2_mixed rmX2_mixed D c sz [] [.long (h), .long (v)] (31 * h + v) [] := by
  refine ML.of (cc := cX2_mixed) (maxL := 4) (by decide) rfl (Nat.le_of_ble_eq_true rfl) ?_
  intro P e s m below meth cd A Q ls hsz S hK hW hA hl hret
  have hl : lv_has ls 4 [(0, .long (h)), (2, .long (v))] := hl
  refine lv_ldc2 (v := 31) S.1 S.2.1 S.2.2.2.1 (S.2.2.2.2 _ (List.mem_of_getElem? (i := 1) rfl)) dX2_mixed_0 ?_
  refine lv_lload_n S.1 S.2.1 dX2_mixed_3 rfl (lv_at hl 0 rfl) ?_
  refine lv_lmul S.1 S.2.1 dX2_mixed_4 ?_
  refine lv_lload_n S.1 S.2.1 dX2_mixed_5 rfl (lv_at hl 1 rfl) ?_
  refine lv_ladd S.1 S.2.1 dX2_mixed_6 ?_
  exact hret 7 _ _ _ _ _ dX2_mixed_7 hW (rfl) (rfl)
abbrev rmX2_mixedTunes : Room := { frames := 4, cells := 0, slots := 0, locals := 91 }
theorem pdX2_mixedTunes : kPd yX2_mixedTunes 1 := by decide +kernel
set_option maxHeartbeats 400000 in
set_option maxRecDepth 100000 in
theorem mX2_mixedTunes (l : Launch) (D : va_G) (c : Nat → ClassId) (a : Nat → Nat) (b : Nat → Nat → Nat) (θ : Nat → Nat → Nat → Nat) (ρ κ : Nat → Nat → Nat) (sz : Nat) (h : Int64) (T : Nat) (ok : okS (θ 0) T) : ML2 l yX2_mixedTunes wsX2_mixedTunes rmX2_mixedTunes D c sz (wP c a b θ ρ κ) [.ref (a 0), .long (h)] (dtS (θ 0) h 3) (wP c a b θ ρ κ) := by
  refine ML2.of (cc := cX2_mixedTunes) (maxL := 7) (by decide) rfl (Nat.le_of_ble_eq_true rfl) ?_
  intro P e s m below meth cd A Q ls hsz S hK hN hW hA hl hret
  have hl : lv_has ls 7 [(0, .ref (a 0)), (1, .long (h))] := hl
  have hinX2 : ∀ w ∈ u_ws RX2 TX2 10, w ∈ wsX2_mixedTunes := by decide +kernel
  refine lv_lload_n S.1 S.2.1 dX2_mixedTunes_0 rfl (lv_at hl 1 rfl) ?_
  refine lv_lstore_n (lv' := [(3, .long (h)), (0, .ref (a 0)), (1, .long (h))]) S.1 S.2.1 dX2_mixedTunes_1 rfl hl (by decide) rfl (fun ls hl => ?_)
  have hl : lv_has ls 7 [(3, .long (dtS (θ 0) h 0)), (0, .ref (a 0)), (1, .long (h))] := hl
  refine lv_iconst (v := nI (0)) S.1 S.2.1 dX2_mixedTunes_2 rfl ?_
  refine lv_istore (lv' := [(5, .int (nI (0))), (3, .long (dtS (θ 0) h 0)), (0, .ref (a 0)), (1, .long (h))]) S.1 S.2.1 dX2_mixedTunes_3 hl (by decide) rfl (fun ls hl => ?_)
  refine k_loop (fun (zz : Nat) H lo ls => match zz with | t => kw D A s.heap (wP c a b θ ρ κ) H lo ∧ lv_has ls 7 [(0, .ref (a 0)), (1, .long (h)), (3, .long (dtS (θ 0) h t)), (5, .int (nI (t)))] ∧ t ≤ 3) (fun (zz : Nat) => match zz with | t => 3 - t) [] ?_ 0 _ _ _ ⟨hW, lv_sub hl [2, 3, 1, 0] rfl, (by decide)⟩
  rintro t ih5 H locs ls ⟨hW, hl, hi5_0⟩
  refine lv_iload S.1 S.2.1 dX2_mixedTunes_5 (lv_at hl 3 rfl) ?_
  refine lv_iconst (v := nI (3)) S.1 S.2.1 dX2_mixedTunes_7 rfl ?_
  refine kn_ge S (tgt := 82) dX2_mixedTunes_8 (by decide) (by omega) (by omega) (fun c_8 => ?_) (fun c_8 => ?_)
  · have e9 : t = 3 := by omega
    subst e9
    refine lv_lload_n S.1 S.2.1 dX2_mixedTunes_82 rfl (lv_at hl 2 rfl) ?_
    exact hret 83 _ _ _ _ _ dX2_mixedTunes_83 hW (rfl) (rfl)
  · rw [← d1_0 (dtS (θ 0) h t) (fT2 (θ 0) t)] at hl
    refine lv_iconst (v := nI (0)) S.1 S.2.1 dX2_mixedTunes_11 rfl ?_
    refine lv_istore (lv' := [(6, .int (nI (0))), (0, .ref (a 0)), (1, .long (h)), (3, .long (d1 (dtS (θ 0) h t) (fT2 (θ 0) t) 0)), (5, .int (nI (t)))]) S.1 S.2.1 dX2_mixedTunes_12 hl (by decide) rfl (fun ls hl => ?_)
    refine k_loop (fun (zz : Nat) H lo ls => match zz with | w => kw D A s.heap (wP c a b θ ρ κ) H lo ∧ lv_has ls 7 [(0, .ref (a 0)), (1, .long (h)), (3, .long (d1 (dtS (θ 0) h t) (fT2 (θ 0) t) w)), (5, .int (nI (t))), (6, .int (nI (w)))] ∧ w ≤ 5) (fun (zz : Nat) => match zz with | w => 5 - w) [] ?_ 0 _ _ _ ⟨hW, lv_sub hl [1, 2, 3, 4, 0] rfl, (by decide)⟩
    rintro w ih14 H locs ls ⟨hW, hl, hi14_0⟩
    refine lv_iload S.1 S.2.1 dX2_mixedTunes_14 (lv_at hl 4 rfl) ?_
    refine lv_iconst (v := nI (5)) S.1 S.2.1 dX2_mixedTunes_16 rfl ?_
    refine kn_ge S (tgt := 43) dX2_mixedTunes_17 (by decide) (by omega) (by omega) (fun c_17 => ?_) (fun c_17 => ?_)
    · have e9 : w = 5 := by omega
      subst e9
      rw [← d1_0 (d1 (dtS (θ 0) h t) (fT2 (θ 0) t) 5) (gT2 (θ 0) t)] at hl
      refine lv_iconst (v := nI (0)) S.1 S.2.1 dX2_mixedTunes_43 rfl ?_
      refine lv_istore (lv' := [(6, .int (nI (0))), (0, .ref (a 0)), (1, .long (h)), (3, .long (d1 (d1 (dtS (θ 0) h t) (fT2 (θ 0) t) 5) (gT2 (θ 0) t) 0)), (5, .int (nI (t)))]) S.1 S.2.1 dX2_mixedTunes_44 hl (by decide) rfl (fun ls hl => ?_)
      refine k_loop (fun (zz : Nat) H lo ls => match zz with | p => kw D A s.heap (wP c a b θ ρ κ) H lo ∧ lv_has ls 7 [(0, .ref (a 0)), (1, .long (h)), (3, .long (d1 (d1 (dtS (θ 0) h t) (fT2 (θ 0) t) 5) (gT2 (θ 0) t) p)), (5, .int (nI (t))), (6, .int (nI (p)))] ∧ p ≤ 32) (fun (zz : Nat) => match zz with | p => 32 - p) [] ?_ 0 _ _ _ ⟨hW, lv_sub hl [1, 2, 3, 4, 0] rfl, (by decide)⟩
      rintro p ih46 H locs ls ⟨hW, hl, hi46_0⟩
      refine lv_iload S.1 S.2.1 dX2_mixedTunes_46 (lv_at hl 4 rfl) ?_
      refine lv_bipush (v := nI (32)) S.1 S.2.1 dX2_mixedTunes_48 rfl ?_
      refine kn_ge S (tgt := 76) dX2_mixedTunes_50 (by decide) (by omega) (by omega) (fun c_50 => ?_) (fun c_50 => ?_)
      · have e9 : p = 32 := by omega
        subst e9
        rw [← dtS_s] at hl
        refine lv_iinc (v := nI (t + 1)) (lv' := [(5, .int (nI (t + 1))), (0, .ref (a 0)), (1, .long (h)), (3, .long (dtS (θ 0) h (t + 1))), (6, .int (nI (32)))]) S.1 S.2.1 dX2_mixedTunes_76 hl (k := 3) rfl (nI_add _ _) (by decide) rfl (fun ls hl => ?_)
        refine lv_goto (tgt := 5) S.1 S.2.1 dX2_mixedTunes_79 (by decide) ?_
        exact ih5 (t + 1) _ _ _ ⟨hW, lv_sub hl [1, 2, 3, 0] rfl, (by omega)⟩ (by show 3 - (t + 1) < 3 - t; omega)
      · refine lv_lload_n S.1 S.2.1 dX2_mixedTunes_53 rfl (lv_at hl 2 rfl) ?_
        refine lv_aload_n S.1 S.2.1 dX2_mixedTunes_54 rfl (lv_at hl 0 rfl) ?_
        refine kx_get S hK hW hinX2 0 2 rfl rfl 0 (by decide) (List.mem_of_getElem? (i := 1) rfl) (v := .ref (b 0 0)) rfl dX2_mixedTunes_55 ?_
        refine lv_iload S.1 S.2.1 dX2_mixedTunes_58 (lv_at hl 3 rfl) ?_
        refine lv_iload S.1 S.2.1 dX2_mixedTunes_60 (lv_at hl 4 rfl) ?_
        refine k_VI (rest := [.long (d1 (d1 (dtS (θ 0) h t) (fT2 (θ 0) t) 5) (gT2 (θ 0) t) p)]) S hK hl.1 hW (fS0 hW hA _) (mX1_teethAt l D c (b 0) ((θ 0)) _ t p (by first | omega | exact ht | assumption | (show t < 3; omega) | rfl) (by first | omega | exact hp | assumption | (show p < 32; omega) | rfl)) gX2_mixedTunes_X1_teethAt rfl pdX1_teethAt ⟨⟨rfl, rfl⟩, Nat.le_of_ble_eq_true rfl, Nat.le_of_ble_eq_true rfl⟩ 0 1 rfl rfl rfl rfl (Nat.le_of_ble_eq_true rfl) dX2_mixedTunes_62 ⟨Nat.le_of_ble_eq_true rfl, Nat.le_of_ble_eq_true rfl⟩ (fun H locs hW => ?_)
        have hW : kw D A s.heap (wP c a b θ ρ κ) H locs := hW
        refine k_top (y := nI (((θ 0) 0) (t * 32 + p))) rfl ?_
        refine lv_i2l S.1 S.2.1 dX2_mixedTunes_65 rfl ?_
        refine k_SL (rest := []) S hK hl.1 hW (KFr.nil hW hA) (mX2_mixed l D c  _ (d1 (d1 (dtS (θ 0) h t) (fT2 (θ 0) t) 5) (gT2 (θ 0) t) p) ((nI (((θ 0) 0) (t * 32 + p))).toInt64)) gX2_mixedTunes_X2_mixed rfl pdX2_mixed ⟨⟨rfl, rfl⟩, Nat.le_of_ble_eq_true rfl, Nat.le_of_ble_eq_true rfl⟩ rfl (Nat.le_of_ble_eq_true rfl) dX2_mixedTunes_66 ⟨Nat.le_of_ble_eq_true rfl, Nat.le_of_ble_eq_true rfl⟩ (fun H locs hW => ?_)
        have hW : kw D A s.heap (wP c a b θ ρ κ) H locs := hW
        refine k_topl (y := d1 (d1 (dtS (θ 0) h t) (fT2 (θ 0) t) 5) (gT2 (θ 0) t) (p + 1)) ((d1_s _ _ _).symm) ?_
        refine lv_lstore_n (lv' := [(3, .long (d1 (d1 (dtS (θ 0) h t) (fT2 (θ 0) t) 5) (gT2 (θ 0) t) (p + 1))), (0, .ref (a 0)), (1, .long (h)), (5, .int (nI (t))), (6, .int (nI (p)))]) S.1 S.2.1 dX2_mixedTunes_69 rfl hl (by decide) rfl (fun ls hl => ?_)
        refine lv_iinc (v := nI (p + 1)) (lv' := [(6, .int (nI (p + 1))), (3, .long (d1 (d1 (dtS (θ 0) h t) (fT2 (θ 0) t) 5) (gT2 (θ 0) t) (p + 1))), (0, .ref (a 0)), (1, .long (h)), (5, .int (nI (t)))]) S.1 S.2.1 dX2_mixedTunes_70 hl (k := 4) rfl (nI_add _ _) (by decide) rfl (fun ls hl => ?_)
        refine lv_goto (tgt := 46) S.1 S.2.1 dX2_mixedTunes_73 (by decide) ?_
        exact ih46 (p + 1) _ _ _ ⟨hW, lv_sub hl [2, 3, 1, 4, 0] rfl, (by omega)⟩ (by show 32 - (p + 1) < 32 - p; omega)
    · refine lv_lload_n S.1 S.2.1 dX2_mixedTunes_20 rfl (lv_at hl 2 rfl) ?_
      refine lv_aload_n S.1 S.2.1 dX2_mixedTunes_21 rfl (lv_at hl 0 rfl) ?_
      refine kx_get S hK hW hinX2 0 2 rfl rfl 0 (by decide) (List.mem_of_getElem? (i := 1) rfl) (v := .ref (b 0 0)) rfl dX2_mixedTunes_22 ?_
      refine lv_iload S.1 S.2.1 dX2_mixedTunes_25 (lv_at hl 3 rfl) ?_
      refine lv_iload S.1 S.2.1 dX2_mixedTunes_27 (lv_at hl 4 rfl) ?_
      refine k_VI (rest := [.long (d1 (dtS (θ 0) h t) (fT2 (θ 0) t) w)]) S hK hl.1 hW (fS0 hW hA _) (mX1_numberOfTune l D c (b 0) ((θ 0)) _ t w T (by first | omega | exact ht | assumption | (show t < 3; omega) | rfl) (by first | omega | exact hw | assumption | (show w < 5; omega) | rfl) ok) gX2_mixedTunes_X1_numberOfTune rfl pdX1_numberOfTune ⟨⟨rfl, rfl⟩, Nat.le_of_ble_eq_true rfl, Nat.le_of_ble_eq_true rfl⟩ 0 1 rfl rfl rfl rfl (Nat.le_of_ble_eq_true rfl) dX2_mixedTunes_29 ⟨Nat.le_of_ble_eq_true rfl, Nat.le_of_ble_eq_true rfl⟩ (fun H locs hW => ?_)
      have hW : kw D A s.heap (wP c a b θ ρ κ) H locs := hW
      refine k_top (y := nI (numT (θ 0) t w)) rfl ?_
      refine lv_i2l S.1 S.2.1 dX2_mixedTunes_32 rfl ?_
      refine k_SL (rest := []) S hK hl.1 hW (KFr.nil hW hA) (mX2_mixed l D c  _ (d1 (dtS (θ 0) h t) (fT2 (θ 0) t) w) ((nI (numT (θ 0) t w)).toInt64)) gX2_mixedTunes_X2_mixed rfl pdX2_mixed ⟨⟨rfl, rfl⟩, Nat.le_of_ble_eq_true rfl, Nat.le_of_ble_eq_true rfl⟩ rfl (Nat.le_of_ble_eq_true rfl) dX2_mixedTunes_33 ⟨Nat.le_of_ble_eq_true rfl, Nat.le_of_ble_eq_true rfl⟩ (fun H locs hW => ?_)
      have hW : kw D A s.heap (wP c a b θ ρ κ) H locs := hW
      refine k_topl (y := d1 (dtS (θ 0) h t) (fT2 (θ 0) t) (w + 1)) ((d1_s _ _ _).symm) ?_
      refine lv_lstore_n (lv' := [(3, .long (d1 (dtS (θ 0) h t) (fT2 (θ 0) t) (w + 1))), (0, .ref (a 0)), (1, .long (h)), (5, .int (nI (t))), (6, .int (nI (w)))]) S.1 S.2.1 dX2_mixedTunes_36 rfl hl (by decide) rfl (fun ls hl => ?_)
      refine lv_iinc (v := nI (w + 1)) (lv' := [(6, .int (nI (w + 1))), (3, .long (d1 (dtS (θ 0) h t) (fT2 (θ 0) t) (w + 1))), (0, .ref (a 0)), (1, .long (h)), (5, .int (nI (t)))]) S.1 S.2.1 dX2_mixedTunes_37 hl (k := 4) rfl (nI_add _ _) (by decide) rfl (fun ls hl => ?_)
      refine lv_goto (tgt := 14) S.1 S.2.1 dX2_mixedTunes_40 (by decide) ?_
      exact ih14 (w + 1) _ _ _ ⟨hW, lv_sub hl [2, 3, 1, 4, 0] rfl, (by omega)⟩ (by show 5 - (w + 1) < 5 - w; omega)
abbrev rmX2_mixedTeeth : Room := { frames := 4, cells := 0, slots := 0, locals := 93 }
theorem pdX2_mixedTeeth : kPd yX2_mixedTeeth 1 := by decide +kernel
set_option maxHeartbeats 400000 in
set_option maxRecDepth 100000 in
theorem mX2_mixedTeeth (l : Launch) (D : va_G) (c : Nat → ClassId) (a : Nat → Nat) (b : Nat → Nat → Nat) (θ : Nat → Nat → Nat → Nat) (ρ κ : Nat → Nat → Nat) (sz : Nat) (h : Int64) (T : Nat) (ok : okS (θ 0) T) (hT : T < 500000000) : ML2 l yX2_mixedTeeth wsX2_mixedTeeth rmX2_mixedTeeth D c sz (wP c a b θ ρ κ) [.ref (a 0), .long (h)] (dkS (θ 0) h 12) (wP c a b θ ρ κ) := by
  refine ML2.of (cc := cX2_mixedTeeth) (maxL := 7) (by decide) rfl (Nat.le_of_ble_eq_true rfl) ?_
  intro P e s m below meth cd A Q ls hsz S hK hN hW hA hl hret
  have hl : lv_has ls 7 [(0, .ref (a 0)), (1, .long (h))] := hl
  have hinX2 : ∀ w ∈ u_ws RX2 TX2 10, w ∈ wsX2_mixedTeeth := by decide +kernel
  refine lv_lload_n S.1 S.2.1 dX2_mixedTeeth_0 rfl (lv_at hl 1 rfl) ?_
  refine lv_lstore_n (lv' := [(3, .long (h)), (0, .ref (a 0)), (1, .long (h))]) S.1 S.2.1 dX2_mixedTeeth_1 rfl hl (by decide) rfl (fun ls hl => ?_)
  have hl : lv_has ls 7 [(3, .long (dkS (θ 0) h 0)), (0, .ref (a 0)), (1, .long (h))] := hl
  refine lv_iconst (v := nI (0)) S.1 S.2.1 dX2_mixedTeeth_2 rfl ?_
  refine lv_istore (lv' := [(5, .int (nI (0))), (3, .long (dkS (θ 0) h 0)), (0, .ref (a 0)), (1, .long (h))]) S.1 S.2.1 dX2_mixedTeeth_3 hl (by decide) rfl (fun ls hl => ?_)
  refine k_loop (fun (zz : Nat) H lo ls => match zz with | j => kw D A s.heap (wP c a b θ ρ κ) H lo ∧ lv_has ls 7 [(0, .ref (a 0)), (1, .long (h)), (3, .long (dkS (θ 0) h j)), (5, .int (nI (j)))] ∧ j ≤ 12) (fun (zz : Nat) => match zz with | j => 12 - j) [] ?_ 0 _ _ _ ⟨hW, lv_sub hl [2, 3, 1, 0] rfl, (by decide)⟩
  rintro j ih5 H locs ls ⟨hW, hl, hi5_0⟩
  refine lv_iload S.1 S.2.1 dX2_mixedTeeth_5 (lv_at hl 3 rfl) ?_
  refine lv_bipush (v := nI (12)) S.1 S.2.1 dX2_mixedTeeth_7 rfl ?_
  refine kn_ge S (tgt := 50) dX2_mixedTeeth_9 (by decide) (by omega) (by omega) (fun c_9 => ?_) (fun c_9 => ?_)
  · have e9 : j = 12 := by omega
    subst e9
    refine lv_lload_n S.1 S.2.1 dX2_mixedTeeth_50 rfl (lv_at hl 2 rfl) ?_
    exact hret 51 _ _ _ _ _ dX2_mixedTeeth_51 hW (rfl) (rfl)
  · rw [← d1_0 (dkS (θ 0) h j) (fK2 (θ 0) j)] at hl
    refine lv_iconst (v := nI (0)) S.1 S.2.1 dX2_mixedTeeth_12 rfl ?_
    refine lv_istore (lv' := [(6, .int (nI (0))), (0, .ref (a 0)), (1, .long (h)), (3, .long (d1 (dkS (θ 0) h j) (fK2 (θ 0) j) 0)), (5, .int (nI (j)))]) S.1 S.2.1 dX2_mixedTeeth_13 hl (by decide) rfl (fun ls hl => ?_)
    refine k_loop (fun (zz : Nat) H lo ls => match zz with | w => kw D A s.heap (wP c a b θ ρ κ) H lo ∧ lv_has ls 7 [(0, .ref (a 0)), (1, .long (h)), (3, .long (d1 (dkS (θ 0) h j) (fK2 (θ 0) j) w)), (5, .int (nI (j))), (6, .int (nI (w)))] ∧ w ≤ 5) (fun (zz : Nat) => match zz with | w => 5 - w) [] ?_ 0 _ _ _ ⟨hW, lv_sub hl [1, 2, 3, 4, 0] rfl, (by decide)⟩
    rintro w ih15 H locs ls ⟨hW, hl, hi15_0⟩
    refine lv_iload S.1 S.2.1 dX2_mixedTeeth_15 (lv_at hl 4 rfl) ?_
    refine lv_iconst (v := nI (5)) S.1 S.2.1 dX2_mixedTeeth_17 rfl ?_
    refine kn_ge S (tgt := 44) dX2_mixedTeeth_18 (by decide) (by omega) (by omega) (fun c_18 => ?_) (fun c_18 => ?_)
    · have e9 : w = 5 := by omega
      subst e9
      rw [← dkS_s] at hl
      refine lv_iinc (v := nI (j + 1)) (lv' := [(5, .int (nI (j + 1))), (0, .ref (a 0)), (1, .long (h)), (3, .long (dkS (θ 0) h (j + 1))), (6, .int (nI (5)))]) S.1 S.2.1 dX2_mixedTeeth_44 hl (k := 3) rfl (nI_add _ _) (by decide) rfl (fun ls hl => ?_)
      refine lv_goto (tgt := 5) S.1 S.2.1 dX2_mixedTeeth_47 (by decide) ?_
      exact ih5 (j + 1) _ _ _ ⟨hW, lv_sub hl [1, 2, 3, 0] rfl, (by omega)⟩ (by show 12 - (j + 1) < 12 - j; omega)
    · refine lv_lload_n S.1 S.2.1 dX2_mixedTeeth_21 rfl (lv_at hl 2 rfl) ?_
      refine lv_aload_n S.1 S.2.1 dX2_mixedTeeth_22 rfl (lv_at hl 0 rfl) ?_
      refine kx_get S hK hW hinX2 0 2 rfl rfl 0 (by decide) (List.mem_of_getElem? (i := 1) rfl) (v := .ref (b 0 0)) rfl dX2_mixedTeeth_23 ?_
      refine lv_iload S.1 S.2.1 dX2_mixedTeeth_26 (lv_at hl 3 rfl) ?_
      refine lv_iload S.1 S.2.1 dX2_mixedTeeth_28 (lv_at hl 4 rfl) ?_
      refine k_VI (rest := [.long (d1 (dkS (θ 0) h j) (fK2 (θ 0) j) w)]) S hK hl.1 hW (fS0 hW hA _) (mX1_numberOfTooth l D c (b 0) ((θ 0)) _ j w T (by first | omega | exact hj | assumption | (show j < 12; omega) | rfl) (by first | omega | exact hw | assumption | (show w < 5; omega) | rfl) ok (by first | omega | exact hT | assumption | (show T < 500000000; omega) | rfl)) gX2_mixedTeeth_X1_numberOfTooth rfl pdX1_numberOfTooth ⟨⟨rfl, rfl⟩, Nat.le_of_ble_eq_true rfl, Nat.le_of_ble_eq_true rfl⟩ 0 1 rfl rfl rfl rfl (Nat.le_of_ble_eq_true rfl) dX2_mixedTeeth_30 ⟨Nat.le_of_ble_eq_true rfl, Nat.le_of_ble_eq_true rfl⟩ (fun H locs hW => ?_)
      have hW : kw D A s.heap (wP c a b θ ρ κ) H locs := hW
      refine k_top (y := nI (numK (θ 0) j w)) rfl ?_
      refine lv_i2l S.1 S.2.1 dX2_mixedTeeth_33 rfl ?_
      refine k_SL (rest := []) S hK hl.1 hW (KFr.nil hW hA) (mX2_mixed l D c  _ (d1 (dkS (θ 0) h j) (fK2 (θ 0) j) w) ((nI (numK (θ 0) j w)).toInt64)) gX2_mixedTeeth_X2_mixed rfl pdX2_mixed ⟨⟨rfl, rfl⟩, Nat.le_of_ble_eq_true rfl, Nat.le_of_ble_eq_true rfl⟩ rfl (Nat.le_of_ble_eq_true rfl) dX2_mixedTeeth_34 ⟨Nat.le_of_ble_eq_true rfl, Nat.le_of_ble_eq_true rfl⟩ (fun H locs hW => ?_)
      have hW : kw D A s.heap (wP c a b θ ρ κ) H locs := hW
      refine k_topl (y := d1 (dkS (θ 0) h j) (fK2 (θ 0) j) (w + 1)) ((d1_s _ _ _).symm) ?_
      refine lv_lstore_n (lv' := [(3, .long (d1 (dkS (θ 0) h j) (fK2 (θ 0) j) (w + 1))), (0, .ref (a 0)), (1, .long (h)), (5, .int (nI (j))), (6, .int (nI (w)))]) S.1 S.2.1 dX2_mixedTeeth_37 rfl hl (by decide) rfl (fun ls hl => ?_)
      refine lv_iinc (v := nI (w + 1)) (lv' := [(6, .int (nI (w + 1))), (3, .long (d1 (dkS (θ 0) h j) (fK2 (θ 0) j) (w + 1))), (0, .ref (a 0)), (1, .long (h)), (5, .int (nI (j)))]) S.1 S.2.1 dX2_mixedTeeth_38 hl (k := 4) rfl (nI_add _ _) (by decide) rfl (fun ls hl => ?_)
      refine lv_goto (tgt := 15) S.1 S.2.1 dX2_mixedTeeth_41 (by decide) ?_
      exact ih15 (w + 1) _ _ _ ⟨hW, lv_sub hl [2, 3, 1, 4, 0] rfl, (by omega)⟩ (by show 5 - (w + 1) < 5 - w; omega)
abbrev rmX2_mixedNotes : Room := { frames := 3, cells := 0, slots := 0, locals := 64 }
theorem pdX2_mixedNotes : kPd yX2_mixedNotes 1 := by decide +kernel
set_option maxHeartbeats 400000 in
set_option maxRecDepth 100000 in
theorem mX2_mixedNotes (l : Launch) (D : va_G) (c : Nat → ClassId) (a : Nat → Nat) (b : Nat → Nat → Nat) (θ : Nat → Nat → Nat → Nat) (ρ κ : Nat → Nat → Nat) (sz : Nat) (h : Int64) (T : Nat) (ok : okS (θ 0) T) (hT : T < 500000000) : ML2 l yX2_mixedNotes wsX2_mixedNotes rmX2_mixedNotes D c sz (wP c a b θ ρ κ) [.ref (a 0), .long (h)] (dnS (θ 0) h (min 24 (θ 0 14 0))) (wP c a b θ ρ κ) := by
  refine ML2.of (cc := cX2_mixedNotes) (maxL := 7) (by decide) rfl (Nat.le_of_ble_eq_true rfl) ?_
  intro P e s m below meth cd A Q ls hsz S hK hN hW hA hl hret
  have hl : lv_has ls 7 [(0, .ref (a 0)), (1, .long (h))] := hl
  have hinX2 : ∀ w ∈ u_ws RX2 TX2 10, w ∈ wsX2_mixedNotes := by decide +kernel
  have h14 : θ 0 14 0 ≤ T := ok.2.2.2.2.2.2.2.2.2.2.1
  refine lv_lload_n S.1 S.2.1 dX2_mixedNotes_0 rfl (lv_at hl 1 rfl) ?_
  refine lv_lstore_n (lv' := [(3, .long (h)), (0, .ref (a 0)), (1, .long (h))]) S.1 S.2.1 dX2_mixedNotes_1 rfl hl (by decide) rfl (fun ls hl => ?_)
  have hl : lv_has ls 7 [(3, .long (dnS (θ 0) h 0)), (0, .ref (a 0)), (1, .long (h))] := hl
  refine lv_aload_n S.1 S.2.1 dX2_mixedNotes_2 rfl (lv_at hl 1 rfl) ?_
  refine kx_get S hK hW hinX2 0 2 rfl rfl 0 (by decide) (List.mem_of_getElem? (i := 1) rfl) (v := .ref (b 0 0)) rfl dX2_mixedNotes_3 ?_
  refine k_VI (rest := []) S hK hl.1 hW (fS0 hW hA _) (mX1_notesKept l D c (b 0) ((θ 0)) _ T ok (by first | omega | exact hT | assumption | (show T < 500000000; omega) | rfl)) gX2_mixedNotes_X1_notesKept rfl pdX1_notesKept ⟨⟨rfl, rfl⟩, Nat.le_of_ble_eq_true rfl, Nat.le_of_ble_eq_true rfl⟩ 0 1 rfl rfl rfl rfl (Nat.le_of_ble_eq_true rfl) dX2_mixedNotes_6 ⟨Nat.le_of_ble_eq_true rfl, Nat.le_of_ble_eq_true rfl⟩ (fun H locs hW => ?_)
  have hW : kw D A s.heap (wP c a b θ ρ κ) H locs := hW
  refine k_top (y := nI (min 24 (((θ 0) 14 0)))) rfl ?_
  refine lv_istore (lv' := [(5, .int (nI (min 24 (((θ 0) 14 0))))), (3, .long (dnS (θ 0) h 0)), (0, .ref (a 0)), (1, .long (h))]) S.1 S.2.1 dX2_mixedNotes_9 hl (by decide) rfl (fun ls hl => ?_)
  refine lv_iconst (v := nI (0)) S.1 S.2.1 dX2_mixedNotes_11 rfl ?_
  refine lv_istore (lv' := [(6, .int (nI (0))), (5, .int (nI (min 24 (((θ 0) 14 0))))), (3, .long (dnS (θ 0) h 0)), (0, .ref (a 0)), (1, .long (h))]) S.1 S.2.1 dX2_mixedNotes_12 hl (by decide) rfl (fun ls hl => ?_)
  refine k_loop (fun (zz : Nat) H lo ls => match zz with | k => kw D A s.heap (wP c a b θ ρ κ) H lo ∧ lv_has ls 7 [(0, .ref (a 0)), (1, .long (h)), (3, .long (dnS (θ 0) h k)), (5, .int (nI (min 24 (((θ 0) 14 0))))), (6, .int (nI (k)))] ∧ k ≤ min 24 (θ 0 14 0)) (fun (zz : Nat) => match zz with | k => min 24 (θ 0 14 0) - k) [] ?_ 0 _ _ _ ⟨hW, lv_sub hl [3, 4, 2, 1, 0] rfl, (Nat.zero_le _)⟩
  rintro k ih14 H locs ls ⟨hW, hl, hi14_0⟩
  refine lv_iload S.1 S.2.1 dX2_mixedNotes_14 (lv_at hl 4 rfl) ?_
  refine lv_iload S.1 S.2.1 dX2_mixedNotes_16 (lv_at hl 3 rfl) ?_
  refine kn_ge S (tgt := 57) dX2_mixedNotes_18 (by decide) (by omega) (by omega) (fun c_18 => ?_) (fun c_18 => ?_)
  · have e9 : k = min 24 (θ 0 14 0) := by omega
    subst e9
    refine lv_lload_n S.1 S.2.1 dX2_mixedNotes_57 rfl (lv_at hl 2 rfl) ?_
    exact hret 58 _ _ _ _ _ dX2_mixedNotes_58 hW (rfl) (rfl)
  · refine lv_lload_n S.1 S.2.1 dX2_mixedNotes_21 rfl (lv_at hl 2 rfl) ?_
    refine lv_aload_n S.1 S.2.1 dX2_mixedNotes_22 rfl (lv_at hl 0 rfl) ?_
    refine kx_get S hK hW hinX2 0 2 rfl rfl 0 (by decide) (List.mem_of_getElem? (i := 1) rfl) (v := .ref (b 0 0)) rfl dX2_mixedNotes_23 ?_
    refine lv_iload S.1 S.2.1 dX2_mixedNotes_26 (lv_at hl 4 rfl) ?_
    refine k_VI (rest := [.long (dnS (θ 0) h k)]) S hK hl.1 hW (fS0 hW hA _) (mX1_noteTooth l D c (b 0) ((θ 0)) _ k T (by omega) ok (by first | omega | exact hT | assumption | (show T < 500000000; omega) | rfl)) gX2_mixedNotes_X1_noteTooth rfl pdX1_noteTooth ⟨⟨rfl, rfl⟩, Nat.le_of_ble_eq_true rfl, Nat.le_of_ble_eq_true rfl⟩ 0 1 rfl rfl rfl rfl (Nat.le_of_ble_eq_true rfl) dX2_mixedNotes_28 ⟨Nat.le_of_ble_eq_true rfl, Nat.le_of_ble_eq_true rfl⟩ (fun H locs hW => ?_)
    have hW : kw D A s.heap (wP c a b θ ρ κ) H locs := hW
    refine k_top (y := nI (((θ 0) 4) ((((θ 0) 14 0) - 1 - k) % 24))) rfl ?_
    refine lv_i2l S.1 S.2.1 dX2_mixedNotes_31 rfl ?_
    refine k_SL (rest := []) S hK hl.1 hW (KFr.nil hW hA) (mX2_mixed l D c  _ (dnS (θ 0) h k) ((nI (((θ 0) 4) ((((θ 0) 14 0) - 1 - k) % 24))).toInt64)) gX2_mixedNotes_X2_mixed rfl pdX2_mixed ⟨⟨rfl, rfl⟩, Nat.le_of_ble_eq_true rfl, Nat.le_of_ble_eq_true rfl⟩ rfl (Nat.le_of_ble_eq_true rfl) dX2_mixedNotes_32 ⟨Nat.le_of_ble_eq_true rfl, Nat.le_of_ble_eq_true rfl⟩ (fun H locs hW => ?_)
    have hW : kw D A s.heap (wP c a b θ ρ κ) H locs := hW
    refine lv_lstore_n (lv' := [(3, .long (31 * (dnS (θ 0) h k) + ((nI (((θ 0) 4) ((((θ 0) 14 0) - 1 - k) % 24))).toInt64))), (0, .ref (a 0)), (1, .long (h)), (5, .int (nI (min 24 (((θ 0) 14 0))))), (6, .int (nI (k)))]) S.1 S.2.1 dX2_mixedNotes_35 rfl hl (by decide) rfl (fun ls hl => ?_)
    refine lv_lload_n S.1 S.2.1 dX2_mixedNotes_36 rfl (lv_at hl 0 rfl) ?_
    refine lv_aload_n S.1 S.2.1 dX2_mixedNotes_37 rfl (lv_at hl 1 rfl) ?_
    refine kx_get S hK hW hinX2 0 2 rfl rfl 0 (by decide) (List.mem_of_getElem? (i := 1) rfl) (v := .ref (b 0 0)) rfl dX2_mixedNotes_38 ?_
    refine lv_iload S.1 S.2.1 dX2_mixedNotes_41 (lv_at hl 4 rfl) ?_
    refine k_VI (rest := [.long (31 * (dnS (θ 0) h k) + ((nI (((θ 0) 4) ((((θ 0) 14 0) - 1 - k) % 24))).toInt64))]) S hK hl.1 hW (fS0 hW hA _) (mX1_noteTime l D c (b 0) ((θ 0)) _ k T (by omega) ok (by first | omega | exact hT | assumption | (show T < 500000000; omega) | rfl)) gX2_mixedNotes_X1_noteTime rfl pdX1_noteTime ⟨⟨rfl, rfl⟩, Nat.le_of_ble_eq_true rfl, Nat.le_of_ble_eq_true rfl⟩ 0 1 rfl rfl rfl rfl (Nat.le_of_ble_eq_true rfl) dX2_mixedNotes_43 ⟨Nat.le_of_ble_eq_true rfl, Nat.le_of_ble_eq_true rfl⟩ (fun H locs hW => ?_)
    have hW : kw D A s.heap (wP c a b θ ρ κ) H locs := hW
    refine k_top (y := nI (((θ 0) 5) ((((θ 0) 14 0) - 1 - k) % 24))) rfl ?_
    refine lv_i2l S.1 S.2.1 dX2_mixedNotes_46 rfl ?_
    refine k_SL (rest := []) S hK hl.1 hW (KFr.nil hW hA) (mX2_mixed l D c  _ (31 * (dnS (θ 0) h k) + ((nI (((θ 0) 4) ((((θ 0) 14 0) - 1 - k) % 24))).toInt64)) ((nI (((θ 0) 5) ((((θ 0) 14 0) - 1 - k) % 24))).toInt64)) gX2_mixedNotes_X2_mixed rfl pdX2_mixed ⟨⟨rfl, rfl⟩, Nat.le_of_ble_eq_true rfl, Nat.le_of_ble_eq_true rfl⟩ rfl (Nat.le_of_ble_eq_true rfl) dX2_mixedNotes_47 ⟨Nat.le_of_ble_eq_true rfl, Nat.le_of_ble_eq_true rfl⟩ (fun H locs hW => ?_)
    have hW : kw D A s.heap (wP c a b θ ρ κ) H locs := hW
    refine k_topl (y := dnS (θ 0) h (k + 1)) ((dnS_s _ _ _).symm) ?_
    refine lv_lstore_n (lv' := [(3, .long (dnS (θ 0) h (k + 1))), (0, .ref (a 0)), (1, .long (h)), (5, .int (nI (min 24 (((θ 0) 14 0))))), (6, .int (nI (k)))]) S.1 S.2.1 dX2_mixedNotes_50 rfl hl (by decide) rfl (fun ls hl => ?_)
    refine lv_iinc (v := nI (k + 1)) (lv' := [(6, .int (nI (k + 1))), (3, .long (dnS (θ 0) h (k + 1))), (0, .ref (a 0)), (1, .long (h)), (5, .int (nI (min 24 (((θ 0) 14 0)))))]) S.1 S.2.1 dX2_mixedNotes_51 hl (k := 4) rfl (nI_add _ _) (by decide) rfl (fun ls hl => ?_)
    refine lv_goto (tgt := 14) S.1 S.2.1 dX2_mixedNotes_54 (by decide) ?_
    exact ih14 (k + 1) _ _ _ ⟨hW, lv_sub hl [2, 3, 1, 4, 0] rfl, (by omega)⟩ (by show min 24 (θ 0 14 0) - (k + 1) < min 24 (θ 0 14 0) - k; omega)
