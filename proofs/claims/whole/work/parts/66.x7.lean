abbrev rmX2_bitsOfShare : Room := { frames := 0, cells := 0, slots := 0, locals := 0 }
theorem pdX2_bitsOfShare : kPd yX2_bitsOfShare 1 := by decide +kernel
set_option maxHeartbeats 400000 in
set_option maxRecDepth 100000 in
theorem mX2_bitsOfShare_z (l : Launch) (D : va_G) (c : Nat → ClassId) (sz : Nat) (v : UInt64) (hz : ¬ 0 < Op.cmpValue (FP.dcmp v FP.dconst0) CmpOp.g) : ML l yX2_bitsOfShare wsX2_bitsOfShare rmX2_bitsOfShare D c sz [] [.double (v)] (0) [] := by
  refine ML.of (cc := cX2_bitsOfShare) (maxL := 7) (by decide) rfl (Nat.le_of_ble_eq_true rfl) ?_
  intro P e s m below meth cd A Q ls hsz S hK hW hA hl hret
  have hl : lv_has ls 7 [(0, .double (v))] := hl
  refine lv_dload_n S.1 S.2.1 dX2_bitsOfShare_0 rfl (lv_at hl 0 rfl) ?_
  refine lv_dconst0 S.1 S.2.1 dX2_bitsOfShare_1 ?_
  refine lv_dcmp S.1 S.2.1 dX2_bitsOfShare_2 ?_
  refine lv_if_gt (tgt := 8) S.1 S.2.1 dX2_bitsOfShare_3 (by decide) (fun c_3 => ?_) (fun c_3 => ?_)
  · exact absurd c_3 hz
  · refine lv_lconst (v := 0) S.1 S.2.1 dX2_bitsOfShare_6 rfl ?_
    exact hret 7 _ _ _ _ _ dX2_bitsOfShare_7 hW (rfl) (rfl)
set_option maxHeartbeats 400000 in
set_option maxRecDepth 100000 in
theorem mX2_bitsOfShare_k (l : Launch) (D : va_G) (c : Nat → ClassId) (sz : Nat) (v : UInt64) (n : Nat) (hz : 0 < Op.cmpValue (FP.dcmp v FP.dconst0) CmpOp.g) (hn : n ≤ 1022) (hk : bitK v n) : ML l yX2_bitsOfShare wsX2_bitsOfShare rmX2_bitsOfShare D c sz [] [.double (v)] (bitw v n) [] := by
  refine ML.of (cc := cX2_bitsOfShare) (maxL := 7) (by decide) rfl (Nat.le_of_ble_eq_true rfl) ?_
  intro P e s m below meth cd A Q ls hsz S hK hW hA hl hret
  have hl : lv_has ls 7 [(0, .double (v))] := hl
  refine lv_dload_n S.1 S.2.1 dX2_bitsOfShare_0 rfl (lv_at hl 0 rfl) ?_
  refine lv_dconst0 S.1 S.2.1 dX2_bitsOfShare_1 ?_
  refine lv_dcmp S.1 S.2.1 dX2_bitsOfShare_2 ?_
  refine lv_if_gt (tgt := 8) S.1 S.2.1 dX2_bitsOfShare_3 (by decide) (fun c_3 => ?_) (fun c_3 => ?_)
  · refine lv_dload_n S.1 S.2.1 dX2_bitsOfShare_8 rfl (lv_at hl 0 rfl) ?_
    refine lv_dstore_n (lv' := [(2, .double (v)), (0, .double (v))]) S.1 S.2.1 dX2_bitsOfShare_9 rfl hl (by decide) rfl (fun ls hl => ?_)
    refine lv_ldc2 (v := 1023) S.1 S.2.1 S.2.2.2.1 (S.2.2.2.2 _ (List.mem_of_getElem? (i := 1) rfl)) dX2_bitsOfShare_10 ?_
    refine lv_lstore (lv' := [(4, .long (1023)), (2, .double (v)), (0, .double (v))]) S.1 S.2.1 dX2_bitsOfShare_13 hl (by decide) rfl (fun ls hl => ?_)
    refine lv_iconst (v := nI (1)) S.1 S.2.1 dX2_bitsOfShare_15 rfl ?_
    refine lv_istore (lv' := [(6, .int (nI (1))), (4, .long (1023)), (2, .double (v)), (0, .double (v))]) S.1 S.2.1 dX2_bitsOfShare_16 hl (by decide) rfl (fun ls hl => ?_)
    refine k_loop (fun (zz : Nat) H lo ls => match zz with | k => kw D A s.heap [] H lo ∧ lv_has ls 7 [(0, .double (v)), (2, .double (dbl v k)), (4, .long (pw k)), (6, .int (nI (1 + k)))] ∧ k ≤ n) (fun (zz : Nat) => match zz with | k => n - k) [] ?_ 0 _ _ _ ⟨hW, lv_sub hl [3, 2, 1, 0] rfl, (Nat.zero_le n)⟩
    rintro k ih18 H locs ls ⟨hW, hl, hi18_0⟩
    refine lv_iload S.1 S.2.1 dX2_bitsOfShare_18 (lv_at hl 3 rfl) ?_
    refine lv_sipush (v := nI (1023)) S.1 S.2.1 dX2_bitsOfShare_20 rfl ?_
    refine kn_ge S (tgt := 50) dX2_bitsOfShare_23 (by decide) (by omega) (by omega) (fun c_23 => ?_) (fun c_23 => ?_)
    · have e9 : k = n := by omega
      subst e9
      refine lv_lload S.1 S.2.1 dX2_bitsOfShare_50 (lv_at hl 2 rfl) ?_
      refine lv_bipush (v := nI (52)) S.1 S.2.1 dX2_bitsOfShare_52 rfl ?_
      refine lv_lshl (v := (pw k) <<< ((nI (52)).toInt64 &&& 63)) S.1 S.2.1 dX2_bitsOfShare_54 rfl ?_
      refine lv_dload_n S.1 S.2.1 dX2_bitsOfShare_55 rfl (lv_at hl 1 rfl) ?_
      refine lv_dconst1 S.1 S.2.1 dX2_bitsOfShare_56 ?_
      refine lv_dsub S.1 S.2.1 dX2_bitsOfShare_57 hk.2.2.2.1 ?_
      refine lv_ldc2d (v := 4841369599423283200) S.1 S.2.1 S.2.2.2.1 (S.2.2.2.2 _ (List.mem_of_getElem? (i := 3) rfl)) dX2_bitsOfShare_58 ?_
      refine lv_dmul S.1 S.2.1 dX2_bitsOfShare_61 hk.2.2.2.2 ?_
      refine lv_d2l S.1 S.2.1 dX2_bitsOfShare_62 ?_
      refine lv_ladd S.1 S.2.1 dX2_bitsOfShare_63 ?_
      exact hret 64 _ _ _ _ _ dX2_bitsOfShare_64 hW (rfl) (rfl)
    · refine lv_dload_n S.1 S.2.1 dX2_bitsOfShare_26 rfl (lv_at hl 1 rfl) ?_
      refine lv_dconst1 S.1 S.2.1 dX2_bitsOfShare_27 ?_
      refine lv_dcmp S.1 S.2.1 dX2_bitsOfShare_28 ?_
      refine lv_if_ge (tgt := 50) S.1 S.2.1 dX2_bitsOfShare_29 (by decide) (fun c_29 => ?_) (fun c_29 => ?_)
      · have e9 : k = n := by
          rcases Nat.lt_or_ge k n with q | q
          · exact absurd c_29 (hk.1 k q)
          · omega
        subst e9
        refine lv_lload S.1 S.2.1 dX2_bitsOfShare_50 (lv_at hl 2 rfl) ?_
        refine lv_bipush (v := nI (52)) S.1 S.2.1 dX2_bitsOfShare_52 rfl ?_
        refine lv_lshl (v := (pw k) <<< ((nI (52)).toInt64 &&& 63)) S.1 S.2.1 dX2_bitsOfShare_54 rfl ?_
        refine lv_dload_n S.1 S.2.1 dX2_bitsOfShare_55 rfl (lv_at hl 1 rfl) ?_
        refine lv_dconst1 S.1 S.2.1 dX2_bitsOfShare_56 ?_
        refine lv_dsub S.1 S.2.1 dX2_bitsOfShare_57 hk.2.2.2.1 ?_
        refine lv_ldc2d (v := 4841369599423283200) S.1 S.2.1 S.2.2.2.1 (S.2.2.2.2 _ (List.mem_of_getElem? (i := 3) rfl)) dX2_bitsOfShare_58 ?_
        refine lv_dmul S.1 S.2.1 dX2_bitsOfShare_61 hk.2.2.2.2 ?_
        refine lv_d2l S.1 S.2.1 dX2_bitsOfShare_62 ?_
        refine lv_ladd S.1 S.2.1 dX2_bitsOfShare_63 ?_
        exact hret 64 _ _ _ _ _ dX2_bitsOfShare_64 hW (rfl) (rfl)
      · have hkn : k < n := by
          rcases Nat.lt_or_ge k n with q | q
          · exact q
          · have e9 : k = n := by omega
            subst e9
            exact absurd hk.2.1 c_29
        refine lv_dload_n S.1 S.2.1 dX2_bitsOfShare_32 rfl (lv_at hl 1 rfl) ?_
        refine lv_ldc2d (v := 4611686018427387904) S.1 S.2.1 S.2.2.2.1 (S.2.2.2.2 _ (List.mem_of_getElem? (i := 2) rfl)) dX2_bitsOfShare_33 ?_
        refine lv_dmul S.1 S.2.1 dX2_bitsOfShare_36 (hk.2.2.1 k hkn) ?_
        refine lv_dstore_n (lv' := [(2, .double (FP.dmul (dbl v k) 4611686018427387904)), (0, .double (v)), (4, .long (pw k)), (6, .int (nI (1 + k)))]) S.1 S.2.1 dX2_bitsOfShare_37 rfl hl (by decide) rfl (fun ls hl => ?_)
        refine lv_lload S.1 S.2.1 dX2_bitsOfShare_38 (lv_at hl 2 rfl) ?_
        refine lv_lconst (v := 1) S.1 S.2.1 dX2_bitsOfShare_40 rfl ?_
        refine lv_lsub S.1 S.2.1 dX2_bitsOfShare_41 ?_
        refine lv_lstore (lv' := [(4, .long ((pw k) - 1)), (2, .double (FP.dmul (dbl v k) 4611686018427387904)), (0, .double (v)), (6, .int (nI (1 + k)))]) S.1 S.2.1 dX2_bitsOfShare_42 hl (by decide) rfl (fun ls hl => ?_)
        refine lv_iinc (v := nI (1 + (k + 1))) (lv' := [(6, .int (nI (1 + (k + 1)))), (4, .long ((pw k) - 1)), (2, .double (FP.dmul (dbl v k) 4611686018427387904)), (0, .double (v))]) S.1 S.2.1 dX2_bitsOfShare_44 hl (k := 3) rfl (nI_add _ _) (by decide) rfl (fun ls hl => ?_)
        refine lv_goto (tgt := 18) S.1 S.2.1 dX2_bitsOfShare_47 (by decide) ?_
        exact ih18 (k + 1) _ _ _ ⟨hW, lv_sub hl [3, 2, 1, 0] rfl, (by omega)⟩ (by show n - (k + 1) < n - k; omega)
  · exact absurd hz c_3
theorem mX2_bitsOfShare (l : Launch) (D : va_G) (c : Nat → ClassId) (sz : Nat) (v : UInt64) (b : Int64) (hb : bitQ v b) : ML l yX2_bitsOfShare wsX2_bitsOfShare rmX2_bitsOfShare D c sz [] [.double (v)] (b) [] := by
  rcases hb with ⟨h1, rfl⟩ | ⟨h1, n, hn, h2, rfl⟩
  · exact mX2_bitsOfShare_z l D c sz v h1
  · exact mX2_bitsOfShare_k l D c sz v n h1 hn h2
abbrev rmX2_digest : Room := { frames := 7, cells := 0, slots := 0, locals := 162 }
theorem pdX2_digest : kPd yX2_digest 0 := by decide +kernel
set_option maxHeartbeats 400000 in
set_option maxRecDepth 100000 in
theorem mX2_digest (l : Launch) (D : va_G) (c : Nat → ClassId) (a : Nat → Nat) (b : Nat → Nat → Nat) (θ : Nat → Nat → Nat → Nat) (ρ κ : Nat → Nat → Nat) (sz : Nat) (b1 : Int64) (T : Nat) (ok : okS (θ 0) T) (hT : T < 200000000) (hne : ¬ θ 0 14 0 = 0 → vf_n64 (FP.ddiv (FP.i2d (nI (θ 0 14 0 - θ 0 15 0))) (FP.i2d (nI (θ 0 14 0))))) (hbl : κ 4 0 ≤ 60) (hb : bitQ (sh (θ 0 14 0) (θ 0 15 0)) b1) : ML2 l yX2_digest wsX2_digest rmX2_digest D c sz (wP c a b θ ρ κ) [.ref (a 0)] (d1 (31 * (31 * (31 * (31 * (d1 (dnS (θ 0) (dkS (θ 0) (dtS (θ 0) (d1 3797 (fcS (θ 0) (κ 3 0)) 18) 3) 12) (min 24 (θ 0 14 0))) (fwS (θ 0) ((onS 40 (pu (θ 0) 11 (kc (θ 0 11 0)))).2)) 5) + (nI ((fqT (θ 0) 9 1 ((onS 40 (pu (θ 0) 11 (kc (θ 0 11 0)))).2)).1)).toInt64) + (nI ((woS (θ 0) 64).1)).toInt64) + b1) + (nI (κ 4 0)).toInt64) (fbS (κ 0)) (κ 4 0)) (wP c a b (pst θ 1 ((fqT (θ 0) 9 1 ((onS 40 (pu (θ 0) 11 (kc (θ 0 11 0)))).2)).2)) ρ κ) := by
  refine ML2.of (cc := cX2_digest) (maxL := 4) (by decide) rfl (Nat.le_of_ble_eq_true rfl) ?_
  intro P e s m below meth cd A Q ls hsz S hK hN hW hA hl hret
  have hl : lv_has ls 4 [(0, .ref (a 0))] := hl
  have hinX2 : ∀ w ∈ u_ws RX2 TX2 10, w ∈ wsX2_digest := by decide +kernel
  refine lv_ldc2 (v := 3797) S.1 S.2.1 S.2.2.2.1 (S.2.2.2.2 _ (List.mem_of_getElem? (i := 1) rfl)) dX2_digest_0 ?_
  refine lv_lstore_n (lv' := [(1, .long (3797)), (0, .ref (a 0))]) S.1 S.2.1 dX2_digest_3 rfl hl (by decide) rfl (fun ls hl => ?_)
  refine lv_iconst (v := nI (0)) S.1 S.2.1 dX2_digest_4 rfl ?_
  refine lv_istore_n (lv' := [(3, .int (nI (0))), (1, .long (3797)), (0, .ref (a 0))]) S.1 S.2.1 dX2_digest_5 rfl hl (by decide) rfl (fun ls hl => ?_)
  refine k_loop (fun (zz : Nat) H lo ls => match zz with | k => kw D A s.heap (wP c a b θ ρ κ) H lo ∧ lv_has ls 4 [(0, .ref (a 0)), (1, .long (d1 3797 (fcS (θ 0) (κ 3 0)) k)), (3, .int (nI (k)))] ∧ k ≤ 18) (fun (zz : Nat) => match zz with | k => 18 - k) [] ?_ 0 _ _ _ ⟨hW, lv_sub hl [2, 1, 0] rfl, (by decide)⟩
  rintro k ih6 H locs ls ⟨hW, hl, hi6_0⟩
  refine lv_iload_n S.1 S.2.1 dX2_digest_6 rfl (lv_at hl 2 rfl) ?_
  refine lv_bipush (v := nI (18)) S.1 S.2.1 dX2_digest_7 rfl ?_
  refine kn_ge S (tgt := 29) dX2_digest_9 (by decide) (by omega) (by omega) (fun c_9 => ?_) (fun c_9 => ?_)
  · have e9 : k = 18 := by omega
    subst e9
    refine lv_aload_n S.1 S.2.1 dX2_digest_29 rfl (lv_at hl 0 rfl) ?_
    refine lv_lload_n S.1 S.2.1 dX2_digest_30 rfl (lv_at hl 1 rfl) ?_
    refine k_VL2 (rest := []) S hK hl.1 hW (KFr.all hW hA) hN (mX2_mixedTunes l D c a b θ ρ κ _ (d1 3797 (fcS (θ 0) (κ 3 0)) 18) T ok) gX2_digest_X2_mixedTunes rfl pdX2_mixedTunes ⟨⟨rfl, rfl⟩, Nat.le_of_ble_eq_true rfl, Nat.le_of_ble_eq_true rfl⟩ 0 2 rfl rfl rfl rfl (Nat.le_of_ble_eq_true rfl) dX2_digest_31 ⟨Nat.le_of_ble_eq_true rfl, Nat.le_of_ble_eq_true rfl⟩ (fun H locs hW => ?_)
    have hW : kw D A s.heap (wP c a b θ ρ κ) H locs := hW
    refine k_topl (y := dtS (((θ 0))) (d1 3797 (fcS (θ 0) (κ 3 0)) 18) 3) rfl ?_
    refine lv_lstore_n (lv' := [(1, .long (dtS (((θ 0))) (d1 3797 (fcS (θ 0) (κ 3 0)) 18) 3)), (0, .ref (a 0)), (3, .int (nI (18)))]) S.1 S.2.1 dX2_digest_34 rfl hl (by decide) rfl (fun ls hl => ?_)
    refine lv_aload_n S.1 S.2.1 dX2_digest_35 rfl (lv_at hl 1 rfl) ?_
    refine lv_lload_n S.1 S.2.1 dX2_digest_36 rfl (lv_at hl 0 rfl) ?_
    refine k_VL2 (rest := []) S hK hl.1 hW (KFr.all hW hA) hN (mX2_mixedTeeth l D c a b θ ρ κ _ (dtS (((θ 0))) (d1 3797 (fcS (θ 0) (κ 3 0)) 18) 3) T ok (by first | omega | exact hT | assumption | (show T < 500000000; omega) | rfl)) gX2_digest_X2_mixedTeeth rfl pdX2_mixedTeeth ⟨⟨rfl, rfl⟩, Nat.le_of_ble_eq_true rfl, Nat.le_of_ble_eq_true rfl⟩ 0 2 rfl rfl rfl rfl (Nat.le_of_ble_eq_true rfl) dX2_digest_37 ⟨Nat.le_of_ble_eq_true rfl, Nat.le_of_ble_eq_true rfl⟩ (fun H locs hW => ?_)
    have hW : kw D A s.heap (wP c a b θ ρ κ) H locs := hW
    refine k_topl (y := dkS (((θ 0))) (dtS (((θ 0))) (d1 3797 (fcS (θ 0) (κ 3 0)) 18) 3) 12) rfl ?_
    refine lv_lstore_n (lv' := [(1, .long (dkS (((θ 0))) (dtS (((θ 0))) (d1 3797 (fcS (θ 0) (κ 3 0)) 18) 3) 12)), (0, .ref (a 0)), (3, .int (nI (18)))]) S.1 S.2.1 dX2_digest_40 rfl hl (by decide) rfl (fun ls hl => ?_)
    refine lv_aload_n S.1 S.2.1 dX2_digest_41 rfl (lv_at hl 1 rfl) ?_
    refine lv_lload_n S.1 S.2.1 dX2_digest_42 rfl (lv_at hl 0 rfl) ?_
    refine k_VL2 (rest := []) S hK hl.1 hW (KFr.all hW hA) hN (mX2_mixedNotes l D c a b θ ρ κ _ (dkS (((θ 0))) (dtS (((θ 0))) (d1 3797 (fcS (θ 0) (κ 3 0)) 18) 3) 12) T ok (by first | omega | exact hT | assumption | (show T < 500000000; omega) | rfl)) gX2_digest_X2_mixedNotes rfl pdX2_mixedNotes ⟨⟨rfl, rfl⟩, Nat.le_of_ble_eq_true rfl, Nat.le_of_ble_eq_true rfl⟩ 0 2 rfl rfl rfl rfl (Nat.le_of_ble_eq_true rfl) dX2_digest_43 ⟨Nat.le_of_ble_eq_true rfl, Nat.le_of_ble_eq_true rfl⟩ (fun H locs hW => ?_)
    have hW : kw D A s.heap (wP c a b θ ρ κ) H locs := hW
    refine k_topl (y := dnS (((θ 0))) (dkS (((θ 0))) (dtS (((θ 0))) (d1 3797 (fcS (θ 0) (κ 3 0)) 18) 3) 12) (min 24 (((θ 0)) 14 0))) rfl ?_
    refine lv_lstore_n (lv' := [(1, .long (dnS (((θ 0))) (dkS (((θ 0))) (dtS (((θ 0))) (d1 3797 (fcS (θ 0) (κ 3 0)) 18) 3) 12) (min 24 (((θ 0)) 14 0)))), (0, .ref (a 0)), (3, .int (nI (18)))]) S.1 S.2.1 dX2_digest_46 rfl hl (by decide) rfl (fun ls hl => ?_)
    refine lv_aload_n S.1 S.2.1 dX2_digest_47 rfl (lv_at hl 1 rfl) ?_
    refine lv_lload_n S.1 S.2.1 dX2_digest_48 rfl (lv_at hl 0 rfl) ?_
    refine k_VL2 (rest := []) S hK hl.1 hW (KFr.all hW hA) hN (mX2_mixedOutcomes l D c a b θ ρ κ _ (dnS (((θ 0))) (dkS (((θ 0))) (dtS (((θ 0))) (d1 3797 (fcS (θ 0) (κ 3 0)) 18) 3) 12) (min 24 (((θ 0)) 14 0))) T ok (by first | omega | exact hT | assumption | (show T < 200000000; omega) | rfl)) gX2_digest_X2_mixedOutcomes rfl pdX2_mixedOutcomes ⟨⟨rfl, rfl⟩, Nat.le_of_ble_eq_true rfl, Nat.le_of_ble_eq_true rfl⟩ 0 2 rfl rfl rfl rfl (Nat.le_of_ble_eq_true rfl) dX2_digest_49 ⟨Nat.le_of_ble_eq_true rfl, Nat.le_of_ble_eq_true rfl⟩ (fun H locs hW => ?_)
    have hW : kw D A s.heap (wP c a b (pst θ 1 ((onS 40 (pu (((θ 0))) 11 (kc (((θ 0)) 11 0)))).2)) ρ κ) H locs := hW
    refine k_topl (y := d1 (dnS (((θ 0))) (dkS (((θ 0))) (dtS (((θ 0))) (d1 3797 (fcS (θ 0) (κ 3 0)) 18) 3) 12) (min 24 (((θ 0)) 14 0))) (fwS (((θ 0))) ((onS 40 (pu (((θ 0))) 11 (kc (((θ 0)) 11 0)))).2)) 5) rfl ?_
    refine lv_lstore_n (lv' := [(1, .long (d1 (dnS (((θ 0))) (dkS (((θ 0))) (dtS (((θ 0))) (d1 3797 (fcS (θ 0) (κ 3 0)) 18) 3) 12) (min 24 (((θ 0)) 14 0))) (fwS (((θ 0))) ((onS 40 (pu (((θ 0))) 11 (kc (((θ 0)) 11 0)))).2)) 5)), (0, .ref (a 0)), (3, .int (nI (18)))]) S.1 S.2.1 dX2_digest_52 rfl hl (by decide) rfl (fun ls hl => ?_)
    refine lv_lload_n S.1 S.2.1 dX2_digest_53 rfl (lv_at hl 0 rfl) ?_
    refine lv_aload_n S.1 S.2.1 dX2_digest_54 rfl (lv_at hl 1 rfl) ?_
    refine k_VI2 (rest := [.long (d1 (dnS (((θ 0))) (dkS (((θ 0))) (dtS (((θ 0))) (d1 3797 (fcS (θ 0) (κ 3 0)) 18) 3) 12) (min 24 (((θ 0)) 14 0))) (fwS (((θ 0))) ((onS 40 (pu (((θ 0))) 11 (kc (((θ 0)) 11 0)))).2)) 5)]) S hK hl.1 hW (KFr.all hW hA) hN (mX2_fewestQuietVanes l D c a b ((pst θ 1 ((onS 40 (pu (((θ 0))) 11 (kc (((θ 0)) 11 0)))).2))) ρ κ _ T ok (by first | omega | exact hT | assumption | (show T < 200000000; omega) | rfl)) gX2_digest_X2_fewestQuietVanes rfl pdX2_fewestQuietVanes ⟨⟨rfl, rfl⟩, Nat.le_of_ble_eq_true rfl, Nat.le_of_ble_eq_true rfl⟩ 0 2 rfl rfl rfl rfl (Nat.le_of_ble_eq_true rfl) dX2_digest_55 ⟨Nat.le_of_ble_eq_true rfl, Nat.le_of_ble_eq_true rfl⟩ (fun H locs hW => ?_)
    have hW : kw D A s.heap (wP c a b (pst θ 1 ((fqT (((θ 0))) 9 1 ((((onS 40 (pu (((θ 0))) 11 (kc (((θ 0)) 11 0)))).2)))).2)) ρ κ) H locs := hW
    refine k_top (y := nI ((fqT (((θ 0))) 9 1 ((((onS 40 (pu (((θ 0))) 11 (kc (((θ 0)) 11 0)))).2)))).1)) rfl ?_
    refine lv_i2l S.1 S.2.1 dX2_digest_58 rfl ?_
    refine k_SL (rest := []) S hK hl.1 hW (KFr.nil hW hA) (mX2_mixed l D c  _ (d1 (dnS (((θ 0))) (dkS (((θ 0))) (dtS (((θ 0))) (d1 3797 (fcS (θ 0) (κ 3 0)) 18) 3) 12) (min 24 (((θ 0)) 14 0))) (fwS (((θ 0))) ((onS 40 (pu (((θ 0))) 11 (kc (((θ 0)) 11 0)))).2)) 5) ((nI ((fqT (((θ 0))) 9 1 ((((onS 40 (pu (((θ 0))) 11 (kc (((θ 0)) 11 0)))).2)))).1)).toInt64)) gX2_digest_X2_mixed rfl pdX2_mixed ⟨⟨rfl, rfl⟩, Nat.le_of_ble_eq_true rfl, Nat.le_of_ble_eq_true rfl⟩ rfl (Nat.le_of_ble_eq_true rfl) dX2_digest_59 ⟨Nat.le_of_ble_eq_true rfl, Nat.le_of_ble_eq_true rfl⟩ (fun H locs hW => ?_)
    have hW : kw D A s.heap (wP c a b (pst θ 1 ((fqT (((θ 0))) 9 1 ((((onS 40 (pu (((θ 0))) 11 (kc (((θ 0)) 11 0)))).2)))).2)) ρ κ) H locs := hW
    refine lv_lstore_n (lv' := [(1, .long (31 * (d1 (dnS (((θ 0))) (dkS (((θ 0))) (dtS (((θ 0))) (d1 3797 (fcS (θ 0) (κ 3 0)) 18) 3) 12) (min 24 (((θ 0)) 14 0))) (fwS (((θ 0))) ((onS 40 (pu (((θ 0))) 11 (kc (((θ 0)) 11 0)))).2)) 5) + ((nI ((fqT (((θ 0))) 9 1 ((((onS 40 (pu (((θ 0))) 11 (kc (((θ 0)) 11 0)))).2)))).1)).toInt64))), (0, .ref (a 0)), (3, .int (nI (18)))]) S.1 S.2.1 dX2_digest_62 rfl hl (by decide) rfl (fun ls hl => ?_)
    refine lv_lload_n S.1 S.2.1 dX2_digest_63 rfl (lv_at hl 0 rfl) ?_
    refine lv_aload_n S.1 S.2.1 dX2_digest_64 rfl (lv_at hl 1 rfl) ?_
    refine kx_get S hK hW hinX2 0 2 rfl rfl 0 (by decide) (List.mem_of_getElem? (i := 2) rfl) (v := .ref (b 0 0)) rfl dX2_digest_65 ?_
    refine lv_bipush (v := nI (64)) S.1 S.2.1 dX2_digest_68 rfl ?_
    refine k_VI (rest := [.long (31 * (d1 (dnS (((θ 0))) (dkS (((θ 0))) (dtS (((θ 0))) (d1 3797 (fcS (θ 0) (κ 3 0)) 18) 3) 12) (min 24 (((θ 0)) 14 0))) (fwS (((θ 0))) ((onS 40 (pu (((θ 0))) 11 (kc (((θ 0)) 11 0)))).2)) 5) + ((nI ((fqT (((θ 0))) 9 1 ((((onS 40 (pu (((θ 0))) 11 (kc (((θ 0)) 11 0)))).2)))).1)).toInt64))]) S hK hl.1 hW (fS0 hW hA _) (mX1_windOfSteps l D c (b 0) ((θ 0)) _ 64 T (by first | omega | exact hn0 | assumption | (show 64 < 1000; omega) | rfl) ok) gX2_digest_X1_windOfSteps rfl pdX1_windOfSteps ⟨⟨rfl, rfl⟩, Nat.le_of_ble_eq_true rfl, Nat.le_of_ble_eq_true rfl⟩ 0 1 rfl rfl rfl rfl (Nat.le_of_ble_eq_true rfl) dX2_digest_70 ⟨Nat.le_of_ble_eq_true rfl, Nat.le_of_ble_eq_true rfl⟩ (fun H locs hW => ?_)
    have hW : kw D A s.heap (wP c a b (pst θ 1 ((fqT (((θ 0))) 9 1 ((((onS 40 (pu (((θ 0))) 11 (kc (((θ 0)) 11 0)))).2)))).2)) ρ κ) H locs := hW
    refine k_top (y := nI ((woS (θ 0) 64).1)) rfl ?_
    refine lv_i2l S.1 S.2.1 dX2_digest_73 rfl ?_
    refine k_SL (rest := []) S hK hl.1 hW (KFr.nil hW hA) (mX2_mixed l D c  _ (31 * (d1 (dnS (((θ 0))) (dkS (((θ 0))) (dtS (((θ 0))) (d1 3797 (fcS (θ 0) (κ 3 0)) 18) 3) 12) (min 24 (((θ 0)) 14 0))) (fwS (((θ 0))) ((onS 40 (pu (((θ 0))) 11 (kc (((θ 0)) 11 0)))).2)) 5) + ((nI ((fqT (((θ 0))) 9 1 ((((onS 40 (pu (((θ 0))) 11 (kc (((θ 0)) 11 0)))).2)))).1)).toInt64)) ((nI ((woS (θ 0) 64).1)).toInt64)) gX2_digest_X2_mixed rfl pdX2_mixed ⟨⟨rfl, rfl⟩, Nat.le_of_ble_eq_true rfl, Nat.le_of_ble_eq_true rfl⟩ rfl (Nat.le_of_ble_eq_true rfl) dX2_digest_74 ⟨Nat.le_of_ble_eq_true rfl, Nat.le_of_ble_eq_true rfl⟩ (fun H locs hW => ?_)
    have hW : kw D A s.heap (wP c a b (pst θ 1 ((fqT (((θ 0))) 9 1 ((((onS 40 (pu (((θ 0))) 11 (kc (((θ 0)) 11 0)))).2)))).2)) ρ κ) H locs := hW
    refine lv_lstore_n (lv' := [(1, .long (31 * (31 * (d1 (dnS (((θ 0))) (dkS (((θ 0))) (dtS (((θ 0))) (d1 3797 (fcS (θ 0) (κ 3 0)) 18) 3) 12) (min 24 (((θ 0)) 14 0))) (fwS (((θ 0))) ((onS 40 (pu (((θ 0))) 11 (kc (((θ 0)) 11 0)))).2)) 5) + ((nI ((fqT (((θ 0))) 9 1 ((((onS 40 (pu (((θ 0))) 11 (kc (((θ 0)) 11 0)))).2)))).1)).toInt64)) + ((nI ((woS (θ 0) 64).1)).toInt64))), (0, .ref (a 0)), (3, .int (nI (18)))]) S.1 S.2.1 dX2_digest_77 rfl hl (by decide) rfl (fun ls hl => ?_)
    refine lv_lload_n S.1 S.2.1 dX2_digest_78 rfl (lv_at hl 0 rfl) ?_
    refine lv_aload_n S.1 S.2.1 dX2_digest_79 rfl (lv_at hl 1 rfl) ?_
    refine k_VD2 (rest := [.long (31 * (31 * (d1 (dnS (((θ 0))) (dkS (((θ 0))) (dtS (((θ 0))) (d1 3797 (fcS (θ 0) (κ 3 0)) 18) 3) 12) (min 24 (((θ 0)) 14 0))) (fwS (((θ 0))) ((onS 40 (pu (((θ 0))) 11 (kc (((θ 0)) 11 0)))).2)) 5) + ((nI ((fqT (((θ 0))) 9 1 ((((onS 40 (pu (((θ 0))) 11 (kc (((θ 0)) 11 0)))).2)))).1)).toInt64)) + ((nI ((woS (θ 0) 64).1)).toInt64))]) S hK hl.1 hW (KFr.all hW hA) hN (mX2_cleanShare l D c a b ((pst θ 1 ((fqT (((θ 0))) 9 1 ((((onS 40 (pu (((θ 0))) 11 (kc (((θ 0)) 11 0)))).2)))).2))) ρ κ _ T ok (by first | omega | exact hT | assumption | (show T < 500000000; omega) | rfl) hne) gX2_digest_X2_cleanShare rfl pdX2_cleanShare ⟨⟨rfl, rfl⟩, Nat.le_of_ble_eq_true rfl, Nat.le_of_ble_eq_true rfl⟩ 0 2 rfl rfl rfl rfl (Nat.le_of_ble_eq_true rfl) dX2_digest_80 ⟨Nat.le_of_ble_eq_true rfl, Nat.le_of_ble_eq_true rfl⟩ (fun H locs hW => ?_)
    have hW : kw D A s.heap (wP c a b (pst θ 1 ((fqT (((θ 0))) 9 1 ((((onS 40 (pu (((θ 0))) 11 (kc (((θ 0)) 11 0)))).2)))).2)) ρ κ) H locs := hW
    refine k_SL (rest := [.long (31 * (31 * (d1 (dnS (((θ 0))) (dkS (((θ 0))) (dtS (((θ 0))) (d1 3797 (fcS (θ 0) (κ 3 0)) 18) 3) 12) (min 24 (((θ 0)) 14 0))) (fwS (((θ 0))) ((onS 40 (pu (((θ 0))) 11 (kc (((θ 0)) 11 0)))).2)) 5) + ((nI ((fqT (((θ 0))) 9 1 ((((onS 40 (pu (((θ 0))) 11 (kc (((θ 0)) 11 0)))).2)))).1)).toInt64)) + ((nI ((woS (θ 0) 64).1)).toInt64))]) S hK hl.1 hW (KFr.nil hW hA) (mX2_bitsOfShare l D c  _ (sh (((θ 0)) 14 0) (((θ 0)) 15 0)) b1 hb) gX2_digest_X2_bitsOfShare rfl pdX2_bitsOfShare ⟨⟨rfl, rfl⟩, Nat.le_of_ble_eq_true rfl, Nat.le_of_ble_eq_true rfl⟩ rfl (Nat.le_of_ble_eq_true rfl) dX2_digest_83 ⟨Nat.le_of_ble_eq_true rfl, Nat.le_of_ble_eq_true rfl⟩ (fun H locs hW => ?_)
    have hW : kw D A s.heap (wP c a b (pst θ 1 ((fqT (((θ 0))) 9 1 ((((onS 40 (pu (((θ 0))) 11 (kc (((θ 0)) 11 0)))).2)))).2)) ρ κ) H locs := hW
    refine k_SL (rest := []) S hK hl.1 hW (KFr.nil hW hA) (mX2_mixed l D c  _ (31 * (31 * (d1 (dnS (((θ 0))) (dkS (((θ 0))) (dtS (((θ 0))) (d1 3797 (fcS (θ 0) (κ 3 0)) 18) 3) 12) (min 24 (((θ 0)) 14 0))) (fwS (((θ 0))) ((onS 40 (pu (((θ 0))) 11 (kc (((θ 0)) 11 0)))).2)) 5) + ((nI ((fqT (((θ 0))) 9 1 ((((onS 40 (pu (((θ 0))) 11 (kc (((θ 0)) 11 0)))).2)))).1)).toInt64)) + ((nI ((woS (θ 0) 64).1)).toInt64)) b1) gX2_digest_X2_mixed rfl pdX2_mixed ⟨⟨rfl, rfl⟩, Nat.le_of_ble_eq_true rfl, Nat.le_of_ble_eq_true rfl⟩ rfl (Nat.le_of_ble_eq_true rfl) dX2_digest_86 ⟨Nat.le_of_ble_eq_true rfl, Nat.le_of_ble_eq_true rfl⟩ (fun H locs hW => ?_)
    have hW : kw D A s.heap (wP c a b (pst θ 1 ((fqT (((θ 0))) 9 1 ((((onS 40 (pu (((θ 0))) 11 (kc (((θ 0)) 11 0)))).2)))).2)) ρ κ) H locs := hW
    refine lv_lstore_n (lv' := [(1, .long (31 * (31 * (31 * (d1 (dnS (((θ 0))) (dkS (((θ 0))) (dtS (((θ 0))) (d1 3797 (fcS (θ 0) (κ 3 0)) 18) 3) 12) (min 24 (((θ 0)) 14 0))) (fwS (((θ 0))) ((onS 40 (pu (((θ 0))) 11 (kc (((θ 0)) 11 0)))).2)) 5) + ((nI ((fqT (((θ 0))) 9 1 ((((onS 40 (pu (((θ 0))) 11 (kc (((θ 0)) 11 0)))).2)))).1)).toInt64)) + ((nI ((woS (θ 0) 64).1)).toInt64)) + b1)), (0, .ref (a 0)), (3, .int (nI (18)))]) S.1 S.2.1 dX2_digest_89 rfl hl (by decide) rfl (fun ls hl => ?_)
    refine lv_aload_n S.1 S.2.1 dX2_digest_90 rfl (lv_at hl 1 rfl) ?_
    refine lv_lload_n S.1 S.2.1 dX2_digest_91 rfl (lv_at hl 0 rfl) ?_
    refine k_VL2 (rest := []) S hK hl.1 hW (KFr.all hW hA) hN (mX2_mixedBuffer l D c a b ((pst θ 1 ((fqT (((θ 0))) 9 1 ((((onS 40 (pu (((θ 0))) 11 (kc (((θ 0)) 11 0)))).2)))).2))) ρ κ _ (31 * (31 * (31 * (d1 (dnS (((θ 0))) (dkS (((θ 0))) (dtS (((θ 0))) (d1 3797 (fcS (θ 0) (κ 3 0)) 18) 3) 12) (min 24 (((θ 0)) 14 0))) (fwS (((θ 0))) ((onS 40 (pu (((θ 0))) 11 (kc (((θ 0)) 11 0)))).2)) 5) + ((nI ((fqT (((θ 0))) 9 1 ((((onS 40 (pu (((θ 0))) 11 (kc (((θ 0)) 11 0)))).2)))).1)).toInt64)) + ((nI ((woS (θ 0) 64).1)).toInt64)) + b1) (by first | omega | exact hbl | assumption | (show (κ 4 0) ≤ 60; omega) | rfl)) gX2_digest_X2_mixedBuffer rfl pdX2_mixedBuffer ⟨⟨rfl, rfl⟩, Nat.le_of_ble_eq_true rfl, Nat.le_of_ble_eq_true rfl⟩ 0 2 rfl rfl rfl rfl (Nat.le_of_ble_eq_true rfl) dX2_digest_92 ⟨Nat.le_of_ble_eq_true rfl, Nat.le_of_ble_eq_true rfl⟩ (fun H locs hW => ?_)
    have hW : kw D A s.heap (wP c a b (pst θ 1 ((fqT (((θ 0))) 9 1 ((((onS 40 (pu (((θ 0))) 11 (kc (((θ 0)) 11 0)))).2)))).2)) ρ κ) H locs := hW
    refine k_topl (y := d1 (31 * (31 * (31 * (31 * (d1 (dnS (((θ 0))) (dkS (((θ 0))) (dtS (((θ 0))) (d1 3797 (fcS (θ 0) (κ 3 0)) 18) 3) 12) (min 24 (((θ 0)) 14 0))) (fwS (((θ 0))) ((onS 40 (pu (((θ 0))) 11 (kc (((θ 0)) 11 0)))).2)) 5) + ((nI ((fqT (((θ 0))) 9 1 ((((onS 40 (pu (((θ 0))) 11 (kc (((θ 0)) 11 0)))).2)))).1)).toInt64)) + ((nI ((woS (θ 0) 64).1)).toInt64)) + b1) + (nI ((κ 4 0))).toInt64) (fbS ((κ 0))) ((κ 4 0))) rfl ?_
    exact hret 95 _ _ _ _ _ dX2_digest_95 hW (rfl) (rfl)
  · refine lv_lload_n S.1 S.2.1 dX2_digest_12 rfl (lv_at hl 1 rfl) ?_
    refine lv_aload_n S.1 S.2.1 dX2_digest_13 rfl (lv_at hl 0 rfl) ?_
    refine lv_iload_n S.1 S.2.1 dX2_digest_14 rfl (lv_at hl 2 rfl) ?_
    refine k_VI2 (rest := [.long (d1 3797 (fcS (θ 0) (κ 3 0)) k)]) S hK hl.1 hW (KFr.all hW hA) hN (mX2_numberNow l D c a b θ ρ κ _ k T (by first | omega | exact hw | assumption | (show k < 18; omega) | rfl) ok (by first | omega | exact hT | assumption | (show T < 500000000; omega) | rfl)) gX2_digest_X2_numberNow rfl pdX2_numberNow ⟨⟨rfl, rfl⟩, Nat.le_of_ble_eq_true rfl, Nat.le_of_ble_eq_true rfl⟩ 0 2 rfl rfl rfl rfl (Nat.le_of_ble_eq_true rfl) dX2_digest_15 ⟨Nat.le_of_ble_eq_true rfl, Nat.le_of_ble_eq_true rfl⟩ (fun H locs hW => ?_)
    have hW : kw D A s.heap (wP c a b θ ρ κ) H locs := hW
    refine k_top (y := nI ((if k = 17 then (κ 3 0) else numN (((θ 0))) k))) rfl ?_
    refine lv_i2l S.1 S.2.1 dX2_digest_18 rfl ?_
    refine k_SL (rest := []) S hK hl.1 hW (KFr.nil hW hA) (mX2_mixed l D c  _ (d1 3797 (fcS (θ 0) (κ 3 0)) k) ((nI ((if k = 17 then (κ 3 0) else numN (((θ 0))) k))).toInt64)) gX2_digest_X2_mixed rfl pdX2_mixed ⟨⟨rfl, rfl⟩, Nat.le_of_ble_eq_true rfl, Nat.le_of_ble_eq_true rfl⟩ rfl (Nat.le_of_ble_eq_true rfl) dX2_digest_19 ⟨Nat.le_of_ble_eq_true rfl, Nat.le_of_ble_eq_true rfl⟩ (fun H locs hW => ?_)
    have hW : kw D A s.heap (wP c a b θ ρ κ) H locs := hW
    refine k_topl (y := d1 3797 (fcS (θ 0) (κ 3 0)) (k + 1)) ((d1_s _ _ _).symm) ?_
    refine lv_lstore_n (lv' := [(1, .long (d1 3797 (fcS (θ 0) (κ 3 0)) (k + 1))), (0, .ref (a 0)), (3, .int (nI (k)))]) S.1 S.2.1 dX2_digest_22 rfl hl (by decide) rfl (fun ls hl => ?_)
    refine lv_iinc (v := nI (k + 1)) (lv' := [(3, .int (nI (k + 1))), (1, .long (d1 3797 (fcS (θ 0) (κ 3 0)) (k + 1))), (0, .ref (a 0))]) S.1 S.2.1 dX2_digest_23 hl (k := 2) rfl (nI_add _ _) (by decide) rfl (fun ls hl => ?_)
    refine lv_goto (tgt := 6) S.1 S.2.1 dX2_digest_26 (by decide) ?_
    exact ih6 (k + 1) _ _ _ ⟨hW, lv_sub hl [2, 1, 0] rfl, (by omega)⟩ (by show 18 - (k + 1) < 18 - k; omega)
