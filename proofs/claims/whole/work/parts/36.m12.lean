abbrev rmX3_digest : Room := { frames := 7, cells := 0, slots := 0, locals := 162 }
theorem pdX3_digest : kPd yX3_digest 0 := by decide +kernel
set_option maxHeartbeats 400000 in
set_option maxRecDepth 100000 in
theorem mX3_digest (l : Launch) (D : va_G) (c : Nat → ClassId) (a : Nat → Nat) (φ : Nat → Nat → Nat) (δ : Int64) (sz : Nat) (b : Int64) (ok : okM (φ 0)) (h139 : φ 0 139 < 2147483648) (h140 : φ 0 140 < 2147483648) (hne : ¬ φ 0 139 = 0 → vf_n64 (FP.ddiv (FP.i2d (nI (φ 0 139 - φ 0 140))) (FP.i2d (nI (φ 0 139))))) (hm : φ 8 0 ≤ 60) (hb : bitP (sh (φ 0 139) (φ 0 140)) b) : ML l yX3_digest wsX3_digest rmX3_digest D c sz (wM c a φ δ) [.ref (a 0)] (dig (φ 0) (φ 6 0) b (φ 4) (φ 8 0)) (wM c a (pu (pu φ 5 (kc (0))) 1 (φ 0)) (dig (φ 0) (φ 6 0) b (φ 4) (φ 8 0))) := by
  refine ML.of (cc := cX3_digest) (maxL := 2) (by decide) rfl (Nat.le_of_ble_eq_true rfl) ?_
  intro P e s m below meth cd A Q ls hsz S hK hW hA hl hret
  have hl : lv_has ls 2 [(0, .ref (a 0))] := hl
  have hinX3 : ∀ w ∈ u_ws RX3 TX3 13, w ∈ wsX3_digest := by decide +kernel
  refine lv_aload_n S.1 S.2.1 dX3_digest_0 rfl (lv_at hl 0 rfl) ?_
  refine lv_iconst (v := nI (0)) S.1 S.2.1 dX3_digest_1 rfl ?_
  refine kx_put S hK hW hinX3 tyX3_ok nmX3 0 3 rfl rfl 0 (by decide) (List.mem_of_getElem? (i := 1) rfl) rfl (v := .int (nI (0))) rfl rfl (Nat.le_of_ble_eq_true rfl) dX3_digest_2 (fun H locs hW => ?_)
  have hW : kw D A s.heap (wM c a (pu φ 5 (kc (0))) δ) H locs := hW
  refine lv_aload_n S.1 S.2.1 dX3_digest_5 rfl (lv_at hl 0 rfl) ?_
  refine lv_ldc2 (v := 3797) S.1 S.2.1 S.2.2.2.1 (S.2.2.2.2 _ (List.mem_of_getElem? (i := 2) rfl)) dX3_digest_6 ?_
  refine kx_put S hK hW hinX3 tyX3_ok nmX3 0 3 rfl rfl 12 (by decide) (List.mem_of_getElem? (i := 3) rfl) rfl (v := .long (3797)) rfl rfl (Nat.le_of_ble_eq_true rfl) dX3_digest_9 (fun H locs hW => ?_)
  have hW : kw D A s.heap (wM c a (pu φ 5 (kc (0))) 3797) H locs := hW
  refine lv_iconst (v := nI (0)) S.1 S.2.1 dX3_digest_12 rfl ?_
  refine lv_istore_n (lv' := [(1, .int (nI (0))), (0, .ref (a 0))]) S.1 S.2.1 dX3_digest_13 rfl hl (by decide) rfl (fun ls hl => ?_)
  have hW : kw D A s.heap (wM c a (pu φ 5 (kc (0))) (d1 3797 (fcn (φ 0) (φ 6 0)) 0)) H locs := by exact hW
  refine k_loop (fun (zz : Nat) H lo ls => match zz with | w => kw D A s.heap (wM c a (pu φ 5 (kc (0))) (d1 3797 (fcn (φ 0) (φ 6 0)) w)) H lo ∧ lv_has ls 2 [(0, .ref (a 0)), (1, .int (nI (w)))] ∧ w ≤ 18) (fun (zz : Nat) => match zz with | w => 18 - w) [] ?_ 0 _ _ _ ⟨hW, lv_sub hl [1, 0] rfl, (by decide)⟩
  rintro w ih14 H locs ls ⟨hW, hl, hi14_0⟩
  refine lv_iload_n S.1 S.2.1 dX3_digest_14 rfl (lv_at hl 1 rfl) ?_
  refine lv_bipush (v := nI (18)) S.1 S.2.1 dX3_digest_15 rfl ?_
  refine kn_ge S (tgt := 36) dX3_digest_17 (by decide) (by omega) (by omega) (fun c_17 => ?_) (fun c_17 => ?_)
  · have e9 : w = 18 := by omega
    subst e9
    refine lv_aload_n S.1 S.2.1 dX3_digest_36 rfl (lv_at hl 0 rfl) ?_
    refine k_VV (rest := []) S hK hl.1 hW (KFr.all hW hA) (mX3_digestCylinder l D c a ((pu φ 5 (kc (0)))) (d1 3797 (fcn (φ 0) (φ 6 0)) 18) _ (by first | omega | exact ok | assumption | (show okM ((φ 0)); omega) | rfl)) gX3_digest_X3_digestCylinder rfl pdX3_digestCylinder ⟨⟨rfl, rfl⟩, Nat.le_of_ble_eq_true rfl, Nat.le_of_ble_eq_true rfl⟩ 0 3 rfl rfl rfl rfl (Nat.le_of_ble_eq_true rfl) dX3_digest_37 ⟨Nat.le_of_ble_eq_true rfl, Nat.le_of_ble_eq_true rfl⟩ (fun H locs hW => ?_)
    have hW : kw D A s.heap (wM c a (pu φ 5 (kc (0))) (dgc ((φ 0)) (d1 3797 (fcn (φ 0) (φ 6 0)) 18))) H locs := hW
    refine lv_iconst (v := nI (0)) S.1 S.2.1 dX3_digest_40 rfl ?_
    refine lv_istore_n (lv' := [(1, .int (nI (0))), (0, .ref (a 0))]) S.1 S.2.1 dX3_digest_41 rfl hl (by decide) rfl (fun ls hl => ?_)
    have hW : kw D A s.heap (wM c a (pu (pu φ 5 (kc (0))) 1 (da (φ 1) (φ 0) 0)) (d1 (dgc (φ 0) (d1 3797 (fcn (φ 0) (φ 6 0)) 18)) (fwb (φ 0)) 0)) H locs := by (rw [d1_0]; exact hW)
    refine k_loop (fun (zz : Nat) H lo ls => match zz with | k => kw D A s.heap (wM c a (pu (pu φ 5 (kc (0))) 1 (da (φ 1) (φ 0) k)) (d1 (dgc (φ 0) (d1 3797 (fcn (φ 0) (φ 6 0)) 18)) (fwb (φ 0)) k)) H lo ∧ lv_has ls 2 [(0, .ref (a 0)), (1, .int (nI (k)))] ∧ k ≤ 5) (fun (zz : Nat) => match zz with | k => 5 - k) [] ?_ 0 _ _ _ ⟨hW, lv_sub hl [1, 0] rfl, (by decide)⟩
    rintro k ih42 H locs ls ⟨hW, hl, hi42_0⟩
    refine lv_iload_n S.1 S.2.1 dX3_digest_42 rfl (lv_at hl 1 rfl) ?_
    refine lv_iconst (v := nI (5)) S.1 S.2.1 dX3_digest_43 rfl ?_
    refine kn_ge S (tgt := 65) dX3_digest_44 (by decide) (by omega) (by omega) (fun c_44 => ?_) (fun c_44 => ?_)
    · have e9 : k = 5 := by omega
      subst e9
      have hW : kw D A s.heap (wM c a (pu (pu φ 5 (kc (0))) 1 (φ 0)) (d1 (dgc (φ 0) (d1 3797 (fcn (φ 0) (φ 6 0)) 18)) (fwb (φ 0)) 5)) H locs := hW
      have hW : kw D A s.heap (wM c a (pu (pu φ 5 (kc (0))) 1 (φ 0)) (dig0 (φ 0) (φ 6 0))) H locs := hW
      refine lv_aload_n S.1 S.2.1 dX3_digest_65 rfl (lv_at hl 0 rfl) ?_
      refine lv_aload_n S.1 S.2.1 dX3_digest_66 rfl (lv_at hl 0 rfl) ?_
      refine k_VI (rest := [.ref (a 0)]) S hK hl.1 hW (KFr.all hW hA) (mX3_quietVanes l D c a ((pu (pu φ 5 (kc (0))) 1 (φ 0))) (dig0 (φ 0) (φ 6 0)) _ (by first | omega | exact ok | assumption | (show okM ((φ 0)); omega) | rfl)) gX3_digest_X3_quietVanes rfl pdX3_quietVanes ⟨⟨rfl, rfl⟩, Nat.le_of_ble_eq_true rfl, Nat.le_of_ble_eq_true rfl⟩ 0 3 rfl rfl rfl rfl (Nat.le_of_ble_eq_true rfl) dX3_digest_67 ⟨Nat.le_of_ble_eq_true rfl, Nat.le_of_ble_eq_true rfl⟩ (fun H locs hW => ?_)
      have hW : kw D A s.heap (wM c a (pu (pu φ 5 (kc (0))) 1 (qa ((φ 0)) ((φ 0)) 9)) (dig0 (φ 0) (φ 6 0))) H locs := hW
      refine k_top (y := nI (qf ((φ 0)) 9)) rfl ?_
      refine lv_i2l S.1 S.2.1 dX3_digest_70 rfl ?_
      refine k_VV (rest := []) S hK hl.1 hW (KFr.all hW hA) (mX3_digestOne l D c a ((pu (pu φ 5 (kc (0))) 1 (qa ((φ 0)) ((φ 0)) 9))) (dig0 (φ 0) (φ 6 0)) _ ((nI (qf ((φ 0)) 9)).toInt64)) gX3_digest_X3_digestOne rfl pdX3_digestOne ⟨⟨rfl, rfl⟩, Nat.le_of_ble_eq_true rfl, Nat.le_of_ble_eq_true rfl⟩ 0 3 rfl rfl rfl rfl (Nat.le_of_ble_eq_true rfl) dX3_digest_71 ⟨Nat.le_of_ble_eq_true rfl, Nat.le_of_ble_eq_true rfl⟩ (fun H locs hW => ?_)
      have hW : kw D A s.heap (wM c a (pu (pu φ 5 (kc (0))) 1 (qa ((φ 0)) ((φ 0)) 9)) (31 * (dig0 (φ 0) (φ 6 0)) + ((nI (qf ((φ 0)) 9)).toInt64))) H locs := hW
      refine lv_aload_n S.1 S.2.1 dX3_digest_74 rfl (lv_at hl 0 rfl) ?_
      refine lv_aload_n S.1 S.2.1 dX3_digest_75 rfl (lv_at hl 0 rfl) ?_
      refine lv_iconst (v := nI (2)) S.1 S.2.1 dX3_digest_76 rfl ?_
      refine k_VI (rest := [.ref (a 0)]) S hK hl.1 hW (KFr.all hW hA) (mX3_windOf l D c a ((pu (pu φ 5 (kc (0))) 1 (qa ((φ 0)) ((φ 0)) 9))) (31 * (dig0 (φ 0) (φ 6 0)) + ((nI (qf ((φ 0)) 9)).toInt64)) _ 2 (by first | omega | exact hn | assumption | (show 2 < 100; omega) | rfl) (by first | omega | exact ok | assumption | (show okM ((φ 0)); omega) | rfl)) gX3_digest_X3_windOf rfl pdX3_windOf ⟨⟨rfl, rfl⟩, Nat.le_of_ble_eq_true rfl, Nat.le_of_ble_eq_true rfl⟩ 0 3 rfl rfl rfl rfl (Nat.le_of_ble_eq_true rfl) dX3_digest_77 ⟨Nat.le_of_ble_eq_true rfl, Nat.le_of_ble_eq_true rfl⟩ (fun H locs hW => ?_)
      have hW : kw D A s.heap (wM c a (pu (pu φ 5 (kc (0))) 1 ((φ 0))) (31 * (dig0 (φ 0) (φ 6 0)) + ((nI (qf ((φ 0)) 9)).toInt64))) H locs := hW
      refine k_top (y := nI (wsm ((φ 0)) (32 * 2))) rfl ?_
      refine lv_i2l S.1 S.2.1 dX3_digest_80 rfl ?_
      refine k_VV (rest := []) S hK hl.1 hW (KFr.all hW hA) (mX3_digestOne l D c a ((pu (pu φ 5 (kc (0))) 1 ((φ 0)))) (31 * (dig0 (φ 0) (φ 6 0)) + ((nI (qf ((φ 0)) 9)).toInt64)) _ ((nI (wsm ((φ 0)) (32 * 2))).toInt64)) gX3_digest_X3_digestOne rfl pdX3_digestOne ⟨⟨rfl, rfl⟩, Nat.le_of_ble_eq_true rfl, Nat.le_of_ble_eq_true rfl⟩ 0 3 rfl rfl rfl rfl (Nat.le_of_ble_eq_true rfl) dX3_digest_81 ⟨Nat.le_of_ble_eq_true rfl, Nat.le_of_ble_eq_true rfl⟩ (fun H locs hW => ?_)
      have hW : kw D A s.heap (wM c a (pu (pu φ 5 (kc (0))) 1 ((φ 0))) (31 * (31 * (dig0 (φ 0) (φ 6 0)) + ((nI (qf ((φ 0)) 9)).toInt64)) + ((nI (wsm ((φ 0)) (32 * 2))).toInt64))) H locs := hW
      refine lv_aload_n S.1 S.2.1 dX3_digest_84 rfl (lv_at hl 0 rfl) ?_
      refine lv_aload_n S.1 S.2.1 dX3_digest_85 rfl (lv_at hl 0 rfl) ?_
      refine k_VD (rest := [.ref (a 0)]) S hK hl.1 hW (KFr.all hW hA) (mX3_share l D c a ((pu (pu φ 5 (kc (0))) 1 ((φ 0)))) (31 * (31 * (dig0 (φ 0) (φ 6 0)) + ((nI (qf ((φ 0)) 9)).toInt64)) + ((nI (wsm ((φ 0)) (32 * 2))).toInt64)) _ (by first | omega | exact h139 | assumption | (show (φ 0) 139 < 2147483648; omega) | rfl) (by first | omega | exact h140 | assumption | (show (φ 0) 140 < 2147483648; omega) | rfl) (by first | omega | exact hne | assumption | (show ¬ (φ 0) 139 = 0 → vf_n64 (FP.ddiv (FP.i2d (nI ((φ 0) 139 - (φ 0) 140))) (FP.i2d (nI ((φ 0) 139)))); omega) | rfl)) gX3_digest_X3_share rfl pdX3_share ⟨⟨rfl, rfl⟩, Nat.le_of_ble_eq_true rfl, Nat.le_of_ble_eq_true rfl⟩ 0 3 rfl rfl rfl rfl (Nat.le_of_ble_eq_true rfl) dX3_digest_86 ⟨Nat.le_of_ble_eq_true rfl, Nat.le_of_ble_eq_true rfl⟩ (fun H locs hW => ?_)
      have hW : kw D A s.heap (wM c a (pu (pu φ 5 (kc (0))) 1 ((φ 0))) (31 * (31 * (dig0 (φ 0) (φ 6 0)) + ((nI (qf ((φ 0)) 9)).toInt64)) + ((nI (wsm ((φ 0)) (32 * 2))).toInt64))) H locs := hW
      refine k_SL (rest := [.ref (a 0)]) S hK hl.1 hW (KFr.nil hW hA) (mX3_bitsOf l D c  _ (sh ((φ 0) 139) ((φ 0) 140)) b hb) gX3_digest_X3_bitsOf rfl pdX3_bitsOf ⟨⟨rfl, rfl⟩, Nat.le_of_ble_eq_true rfl, Nat.le_of_ble_eq_true rfl⟩ rfl (Nat.le_of_ble_eq_true rfl) dX3_digest_89 ⟨Nat.le_of_ble_eq_true rfl, Nat.le_of_ble_eq_true rfl⟩ (fun H locs hW => ?_)
      have hW : kw D A s.heap (wM c a (pu (pu φ 5 (kc (0))) 1 ((φ 0))) (31 * (31 * (dig0 (φ 0) (φ 6 0)) + ((nI (qf ((φ 0)) 9)).toInt64)) + ((nI (wsm ((φ 0)) (32 * 2))).toInt64))) H locs := hW
      refine k_VV (rest := []) S hK hl.1 hW (KFr.all hW hA) (mX3_digestOne l D c a ((pu (pu φ 5 (kc (0))) 1 ((φ 0)))) (31 * (31 * (dig0 (φ 0) (φ 6 0)) + ((nI (qf ((φ 0)) 9)).toInt64)) + ((nI (wsm ((φ 0)) (32 * 2))).toInt64)) _ b) gX3_digest_X3_digestOne rfl pdX3_digestOne ⟨⟨rfl, rfl⟩, Nat.le_of_ble_eq_true rfl, Nat.le_of_ble_eq_true rfl⟩ 0 3 rfl rfl rfl rfl (Nat.le_of_ble_eq_true rfl) dX3_digest_92 ⟨Nat.le_of_ble_eq_true rfl, Nat.le_of_ble_eq_true rfl⟩ (fun H locs hW => ?_)
      have hW : kw D A s.heap (wM c a (pu (pu φ 5 (kc (0))) 1 ((φ 0))) (31 * (31 * (31 * (dig0 (φ 0) (φ 6 0)) + ((nI (qf ((φ 0)) 9)).toInt64)) + ((nI (wsm ((φ 0)) (32 * 2))).toInt64)) + b)) H locs := hW
      have hW : kw D A s.heap (wM c a (pu (pu φ 5 (kc (0))) 1 ((φ 0))) (dig1 (φ 0) (φ 6 0) b)) H locs := hW
      refine lv_aload_n S.1 S.2.1 dX3_digest_95 rfl (lv_at hl 0 rfl) ?_
      refine lv_aload_n S.1 S.2.1 dX3_digest_96 rfl (lv_at hl 0 rfl) ?_
      refine kx_get S hK hW hinX3 0 3 rfl rfl 8 (by decide) (List.mem_of_getElem? (i := 4) rfl) (v := .int (nI (φ 8 0))) rfl dX3_digest_97 ?_
      refine lv_i2l S.1 S.2.1 dX3_digest_100 rfl ?_
      refine k_VV (rest := []) S hK hl.1 hW (KFr.all hW hA) (mX3_digestOne l D c a ((pu (pu φ 5 (kc (0))) 1 ((φ 0)))) (dig1 (φ 0) (φ 6 0) b) _ ((nI (φ 8 0)).toInt64)) gX3_digest_X3_digestOne rfl pdX3_digestOne ⟨⟨rfl, rfl⟩, Nat.le_of_ble_eq_true rfl, Nat.le_of_ble_eq_true rfl⟩ 0 3 rfl rfl rfl rfl (Nat.le_of_ble_eq_true rfl) dX3_digest_101 ⟨Nat.le_of_ble_eq_true rfl, Nat.le_of_ble_eq_true rfl⟩ (fun H locs hW => ?_)
      have hW : kw D A s.heap (wM c a (pu (pu φ 5 (kc (0))) 1 ((φ 0))) (31 * (dig1 (φ 0) (φ 6 0) b) + ((nI (φ 8 0)).toInt64))) H locs := hW
      refine lv_iconst (v := nI (0)) S.1 S.2.1 dX3_digest_104 rfl ?_
      refine lv_istore_n (lv' := [(1, .int (nI (0))), (0, .ref (a 0))]) S.1 S.2.1 dX3_digest_105 rfl hl (by decide) rfl (fun ls hl => ?_)
      have hW : kw D A s.heap (wM c a (pu (pu φ 5 (kc (0))) 1 ((φ 0))) (d1 (31 * dig1 (φ 0) (φ 6 0) b + (nI (φ 8 0)).toInt64) (fbu (φ 4)) 0)) H locs := by (rw [d1_0]; exact hW)
      refine k_loop (fun (zz : Nat) H lo ls => match zz with | i => kw D A s.heap (wM c a (pu (pu φ 5 (kc (0))) 1 ((φ 0))) (d1 (31 * dig1 (φ 0) (φ 6 0) b + (nI (φ 8 0)).toInt64) (fbu (φ 4)) i)) H lo ∧ lv_has ls 2 [(0, .ref (a 0)), (1, .int (nI (i)))] ∧ i ≤ φ 8 0) (fun (zz : Nat) => match zz with | i => φ 8 0 - i) [] ?_ 0 _ _ _ ⟨hW, lv_sub hl [1, 0] rfl, (Nat.zero_le _)⟩
      rintro i ih106 H locs ls ⟨hW, hl, hi106_0⟩
      refine lv_iload_n S.1 S.2.1 dX3_digest_106 rfl (lv_at hl 1 rfl) ?_
      refine lv_aload_n S.1 S.2.1 dX3_digest_107 rfl (lv_at hl 0 rfl) ?_
      refine kx_get S hK hW hinX3 0 3 rfl rfl 8 (by decide) (List.mem_of_getElem? (i := 4) rfl) (v := .int (nI (φ 8 0))) rfl dX3_digest_108 ?_
      refine kn_ge S (tgt := 131) dX3_digest_111 (by decide) (by omega) (by omega) (fun c_111 => ?_) (fun c_111 => ?_)
      · have e9 : i = φ 8 0 := by omega
        subst e9
        refine lv_aload_n S.1 S.2.1 dX3_digest_131 rfl (lv_at hl 0 rfl) ?_
        refine kx_get S hK hW hinX3 0 3 rfl rfl 12 (by decide) (List.mem_of_getElem? (i := 3) rfl) (v := .long (d1 (31 * dig1 (φ 0) (φ 6 0) b + (nI (φ 8 0)).toInt64) (fbu (φ 4)) (φ 8 0))) rfl dX3_digest_132 ?_
        exact hret 135 _ _ _ _ _ dX3_digest_135 hW (rfl) (rfl)
      · refine lv_aload_n S.1 S.2.1 dX3_digest_114 rfl (lv_at hl 0 rfl) ?_
        refine lv_aload_n S.1 S.2.1 dX3_digest_115 rfl (lv_at hl 0 rfl) ?_
        refine kx_get S hK hW hinX3 0 3 rfl rfl 7 (by decide) (List.mem_of_getElem? (i := 5) rfl) (v := .ref (a 5)) rfl dX3_digest_116 ?_
        refine lv_iload_n S.1 S.2.1 dX3_digest_119 rfl (lv_at hl 1 rfl) ?_
        refine kn_ald S hK hW 5 (f := φ 4) rfl (by omega) (by decide) dX3_digest_120 ?_
        refine lv_i2l S.1 S.2.1 dX3_digest_121 rfl ?_
        refine k_VV (rest := []) S hK hl.1 hW (KFr.all hW hA) (mX3_digestOne l D c a ((pu (pu φ 5 (kc (0))) 1 ((φ 0)))) (d1 (31 * dig1 (φ 0) (φ 6 0) b + (nI (φ 8 0)).toInt64) (fbu (φ 4)) i) _ ((nI (φ 4 (i))).toInt64)) gX3_digest_X3_digestOne rfl pdX3_digestOne ⟨⟨rfl, rfl⟩, Nat.le_of_ble_eq_true rfl, Nat.le_of_ble_eq_true rfl⟩ 0 3 rfl rfl rfl rfl (Nat.le_of_ble_eq_true rfl) dX3_digest_122 ⟨Nat.le_of_ble_eq_true rfl, Nat.le_of_ble_eq_true rfl⟩ (fun H locs hW => ?_)
        have hW : kw D A s.heap (wM c a (pu (pu φ 5 (kc (0))) 1 ((φ 0))) (31 * (d1 (31 * dig1 (φ 0) (φ 6 0) b + (nI (φ 8 0)).toInt64) (fbu (φ 4)) i) + ((nI (φ 4 (i))).toInt64))) H locs := hW
        refine lv_iinc (v := nI (i + 1)) (lv' := [(1, .int (nI (i + 1))), (0, .ref (a 0))]) S.1 S.2.1 dX3_digest_125 hl (k := 1) rfl (nI_add _ _) (by decide) rfl (fun ls hl => ?_)
        refine lv_goto (tgt := 106) S.1 S.2.1 dX3_digest_128 (by decide) ?_
        exact ih106 (i + 1) _ _ _ ⟨hW, lv_sub hl [1, 0] rfl, (by omega)⟩ (by show φ 8 0 - (i + 1) < φ 8 0 - i; omega)
    · refine lv_aload_n S.1 S.2.1 dX3_digest_47 rfl (lv_at hl 0 rfl) ?_
      refine lv_aload_n S.1 S.2.1 dX3_digest_48 rfl (lv_at hl 0 rfl) ?_
      refine lv_bipush (v := nI (40)) S.1 S.2.1 dX3_digest_49 rfl ?_
      refine lv_iload_n S.1 S.2.1 dX3_digest_51 rfl (lv_at hl 1 rfl) ?_
      refine k_VI (rest := [.ref (a 0)]) S hK hl.1 hW (KFr.all hW hA) (mX3_wouldBe l D c a ((pu (pu φ 5 (kc (0))) 1 (da (φ 1) (φ 0) k))) (d1 (dgc (φ 0) (d1 3797 (fcn (φ 0) (φ 6 0)) 18)) (fwb (φ 0)) k) _ 40 k (by first | omega | exact hn | assumption | (show 40 < 1000; omega) | rfl) (by first | omega | exact hw | assumption | (show k < 5; omega) | rfl) (by first | omega | exact ok | assumption | (show okM ((φ 0)); omega) | rfl)) gX3_digest_X3_wouldBe rfl pdX3_wouldBe ⟨⟨rfl, rfl⟩, Nat.le_of_ble_eq_true rfl, Nat.le_of_ble_eq_true rfl⟩ 0 3 rfl rfl rfl rfl (Nat.le_of_ble_eq_true rfl) dX3_digest_52 ⟨Nat.le_of_ble_eq_true rfl, Nat.le_of_ble_eq_true rfl⟩ (fun H locs hW => ?_)
      have hW : kw D A s.heap (wM c a (pu (pu φ 5 (kc (0))) 1 ((φ 0))) (d1 (dgc (φ 0) (d1 3797 (fcn (φ 0) (φ 6 0)) 18)) (fwb (φ 0)) k)) H locs := hW
      refine k_top (y := wb ((φ 0)) 40 k) rfl ?_
      refine lv_i2l S.1 S.2.1 dX3_digest_55 rfl ?_
      refine k_VV (rest := []) S hK hl.1 hW (KFr.all hW hA) (mX3_digestOne l D c a ((pu (pu φ 5 (kc (0))) 1 ((φ 0)))) (d1 (dgc (φ 0) (d1 3797 (fcn (φ 0) (φ 6 0)) 18)) (fwb (φ 0)) k) _ ((wb ((φ 0)) 40 k).toInt64)) gX3_digest_X3_digestOne rfl pdX3_digestOne ⟨⟨rfl, rfl⟩, Nat.le_of_ble_eq_true rfl, Nat.le_of_ble_eq_true rfl⟩ 0 3 rfl rfl rfl rfl (Nat.le_of_ble_eq_true rfl) dX3_digest_56 ⟨Nat.le_of_ble_eq_true rfl, Nat.le_of_ble_eq_true rfl⟩ (fun H locs hW => ?_)
      have hW : kw D A s.heap (wM c a (pu (pu φ 5 (kc (0))) 1 ((φ 0))) (31 * (d1 (dgc (φ 0) (d1 3797 (fcn (φ 0) (φ 6 0)) 18)) (fwb (φ 0)) k) + ((wb ((φ 0)) 40 k).toInt64))) H locs := hW
      have hW : kw D A s.heap (wM c a (pu (pu φ 5 (kc (0))) 1 (da (φ 1) (φ 0) (k + 1))) (31 * (d1 (dgc (φ 0) (d1 3797 (fcn (φ 0) (φ 6 0)) 18)) (fwb (φ 0)) k) + ((wb ((φ 0)) 40 k).toInt64))) H locs := hW
      refine lv_iinc (v := nI (k + 1)) (lv' := [(1, .int (nI (k + 1))), (0, .ref (a 0))]) S.1 S.2.1 dX3_digest_59 hl (k := 1) rfl (nI_add _ _) (by decide) rfl (fun ls hl => ?_)
      refine lv_goto (tgt := 42) S.1 S.2.1 dX3_digest_62 (by decide) ?_
      exact ih42 (k + 1) _ _ _ ⟨hW, lv_sub hl [1, 0] rfl, (by omega)⟩ (by show 5 - (k + 1) < 5 - k; omega)
  · refine lv_aload_n S.1 S.2.1 dX3_digest_20 rfl (lv_at hl 0 rfl) ?_
    refine lv_aload_n S.1 S.2.1 dX3_digest_21 rfl (lv_at hl 0 rfl) ?_
    refine lv_iload_n S.1 S.2.1 dX3_digest_22 rfl (lv_at hl 1 rfl) ?_
    refine k_VI (rest := [.ref (a 0)]) S hK hl.1 hW (KFr.all hW hA) (mX3_counted l D c a ((pu φ 5 (kc (0)))) (d1 3797 (fcn (φ 0) (φ 6 0)) w) _ w (by first | omega | exact hw | assumption | (show w < 18; omega) | rfl) (by first | omega | exact ok | assumption | (show okM ((φ 0)); omega) | rfl)) gX3_digest_X3_counted rfl pdX3_counted ⟨⟨rfl, rfl⟩, Nat.le_of_ble_eq_true rfl, Nat.le_of_ble_eq_true rfl⟩ 0 3 rfl rfl rfl rfl (Nat.le_of_ble_eq_true rfl) dX3_digest_23 ⟨Nat.le_of_ble_eq_true rfl, Nat.le_of_ble_eq_true rfl⟩ (fun H locs hW => ?_)
    have hW : kw D A s.heap (wM c a (pu φ 5 (kc (0))) (d1 3797 (fcn (φ 0) (φ 6 0)) w)) H locs := hW
    refine k_top (y := nI (cnt ((φ 0)) ((φ 6 0)) w)) rfl ?_
    refine lv_i2l S.1 S.2.1 dX3_digest_26 rfl ?_
    refine k_VV (rest := []) S hK hl.1 hW (KFr.all hW hA) (mX3_digestOne l D c a ((pu φ 5 (kc (0)))) (d1 3797 (fcn (φ 0) (φ 6 0)) w) _ ((nI (cnt ((φ 0)) ((φ 6 0)) w)).toInt64)) gX3_digest_X3_digestOne rfl pdX3_digestOne ⟨⟨rfl, rfl⟩, Nat.le_of_ble_eq_true rfl, Nat.le_of_ble_eq_true rfl⟩ 0 3 rfl rfl rfl rfl (Nat.le_of_ble_eq_true rfl) dX3_digest_27 ⟨Nat.le_of_ble_eq_true rfl, Nat.le_of_ble_eq_true rfl⟩ (fun H locs hW => ?_)
    have hW : kw D A s.heap (wM c a (pu φ 5 (kc (0))) (31 * (d1 3797 (fcn (φ 0) (φ 6 0)) w) + ((nI (cnt ((φ 0)) ((φ 6 0)) w)).toInt64))) H locs := hW
    refine lv_iinc (v := nI (w + 1)) (lv' := [(1, .int (nI (w + 1))), (0, .ref (a 0))]) S.1 S.2.1 dX3_digest_30 hl (k := 1) rfl (nI_add _ _) (by decide) rfl (fun ls hl => ?_)
    refine lv_goto (tgt := 14) S.1 S.2.1 dX3_digest_33 (by decide) ?_
    exact ih14 (w + 1) _ _ _ ⟨hW, lv_sub hl [1, 0] rfl, (by omega)⟩ (by show 18 - (w + 1) < 18 - w; omega)
