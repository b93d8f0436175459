abbrev rmX3_digestCylinder : Room := { frames := 5, cells := 0, slots := 0, locals := 113 }
theorem pdX3_digestCylinder : kPd yX3_digestCylinder 0 := by decide +kernel
set_option maxHeartbeats 400000 in
set_option maxRecDepth 100000 in
theorem mX3_digestCylinder (l : Launch) (D : va_G) (c : Nat → ClassId) (a : Nat → Nat) (φ : Nat → Nat → Nat) (δ : Int64) (sz : Nat) (ok : okM (φ 0)) : MV l yX3_digestCylinder wsX3_digestCylinder rmX3_digestCylinder D c sz (wM c a φ δ) [.ref (a 0)]  (wM c a φ (dgc (φ 0) δ)) := by
  refine MV.of (cc := cX3_digestCylinder) (maxL := 3) (by decide) rfl (Nat.le_of_ble_eq_true rfl) ?_
  intro P e s m below meth cd A Q ls hsz S hK hW hA hl hret
  have hl : lv_has ls 3 [(0, .ref (a 0))] := hl
  have hinX3 : ∀ w ∈ u_ws RX3 TX3 13, w ∈ wsX3_digestCylinder := by decide +kernel
  have h132 := ok.k132
  refine lv_iconst (v := nI (0)) S.1 S.2.1 dX3_digestCylinder_0 rfl ?_
  refine lv_istore_n (lv' := [(1, .int (nI (0))), (0, .ref (a 0))]) S.1 S.2.1 dX3_digestCylinder_1 rfl hl (by decide) rfl (fun ls hl => ?_)
  refine k_loop (fun (zz : Nat) H lo ls => match zz with | t => kw D A s.heap (wM c a φ (dgt (φ 0) δ t)) H lo ∧ lv_has ls 3 [(0, .ref (a 0)), (1, .int (nI (t)))] ∧ t ≤ 3) (fun (zz : Nat) => match zz with | t => 3 - t) [] ?_ 0 _ _ _ ⟨hW, lv_sub hl [1, 0] rfl, (by decide)⟩
  rintro t ih2 H locs ls ⟨hW, hl, hi2_0⟩
  refine lv_iload_n S.1 S.2.1 dX3_digestCylinder_2 rfl (lv_at hl 1 rfl) ?_
  refine lv_iconst (v := nI (3)) S.1 S.2.1 dX3_digestCylinder_3 rfl ?_
  refine kn_ge S (tgt := 62) dX3_digestCylinder_4 (by decide) (by omega) (by omega) (fun c_4 => ?_) (fun c_4 => ?_)
  · have e9 : t = 3 := by omega
    subst e9
    refine lv_iconst (v := nI (0)) S.1 S.2.1 dX3_digestCylinder_62 rfl ?_
    refine lv_istore_n (lv' := [(1, .int (nI (0))), (0, .ref (a 0))]) S.1 S.2.1 dX3_digestCylinder_63 rfl hl (by decide) rfl (fun ls hl => ?_)
    have hW : kw D A s.heap (wM c a φ (d1 (dgt (φ 0) δ 3) (fo (φ 0)) 0)) H locs := by rw [d1_0]; exact hW
    refine k_loop (fun (zz : Nat) H lo ls => match zz with | k => kw D A s.heap (wM c a φ (d1 (dgt (φ 0) δ 3) (fo (φ 0)) k)) H lo ∧ lv_has ls 3 [(0, .ref (a 0)), (1, .int (nI (k)))] ∧ k ≤ 60) (fun (zz : Nat) => match zz with | k => 60 - k) [] ?_ 0 _ _ _ ⟨hW, lv_sub hl [1, 0] rfl, (by decide)⟩
    rintro k ih64 H locs ls ⟨hW, hl, hi64_0⟩
    refine lv_iload_n S.1 S.2.1 dX3_digestCylinder_64 rfl (lv_at hl 1 rfl) ?_
    refine lv_bipush (v := nI (60)) S.1 S.2.1 dX3_digestCylinder_65 rfl ?_
    refine kn_ge S (tgt := 91) dX3_digestCylinder_67 (by decide) (by omega) (by omega) (fun c_67 => ?_) (fun c_67 => ?_)
    · have e9 : k = 60 := by omega
      subst e9
      refine lv_iconst (v := nI (0)) S.1 S.2.1 dX3_digestCylinder_91 rfl ?_
      refine lv_istore_n (lv' := [(1, .int (nI (0))), (0, .ref (a 0))]) S.1 S.2.1 dX3_digestCylinder_92 rfl hl (by decide) rfl (fun ls hl => ?_)
      have hW : kw D A s.heap (wM c a φ (d1 (d1 (dgt (φ 0) δ 3) (fo (φ 0)) 60) (f84 (φ 0)) 0)) H locs := by rw [d1_0]; exact hW
      refine k_loop (fun (zz : Nat) H lo ls => match zz with | k => kw D A s.heap (wM c a φ (d1 (d1 (dgt (φ 0) δ 3) (fo (φ 0)) 60) (f84 (φ 0)) k)) H lo ∧ lv_has ls 3 [(0, .ref (a 0)), (1, .int (nI (k)))] ∧ k ≤ 2 * φ 0 132) (fun (zz : Nat) => match zz with | k => 2 * φ 0 132 - k) [] ?_ 0 _ _ _ ⟨hW, lv_sub hl [1, 0] rfl, (Nat.zero_le _)⟩
      rintro k ih93 H locs ls ⟨hW, hl, hi93_0⟩
      refine lv_iload_n S.1 S.2.1 dX3_digestCylinder_93 rfl (lv_at hl 1 rfl) ?_
      refine lv_iconst (v := nI (2)) S.1 S.2.1 dX3_digestCylinder_94 rfl ?_
      refine lv_aload_n S.1 S.2.1 dX3_digestCylinder_95 rfl (lv_at hl 0 rfl) ?_
      refine kx_get S hK hW hinX3 0 3 rfl rfl 1 (by decide) (List.mem_of_getElem? (i := 1) rfl) (v := .ref (a 1)) rfl dX3_digestCylinder_96 ?_
      refine lv_sipush (v := nI (132)) S.1 S.2.1 dX3_digestCylinder_99 rfl ?_
      refine kn_ald S hK hW 1 (f := φ 0) rfl (by omega) (by decide) dX3_digestCylinder_102 ?_
      refine kn_imul S dX3_digestCylinder_103 ?_
      refine kn_ge S (tgt := 127) dX3_digestCylinder_104 (by decide) (by omega) (by omega) (fun c_104 => ?_) (fun c_104 => ?_)
      · have e9 : k = 2 * φ 0 132 := by omega
        subst e9
        exact hret 127 _ _ _ _ dX3_digestCylinder_127 hW (rfl)
      · refine lv_aload_n S.1 S.2.1 dX3_digestCylinder_107 rfl (lv_at hl 0 rfl) ?_
        refine lv_aload_n S.1 S.2.1 dX3_digestCylinder_108 rfl (lv_at hl 0 rfl) ?_
        refine kx_get S hK hW hinX3 0 3 rfl rfl 1 (by decide) (List.mem_of_getElem? (i := 1) rfl) (v := .ref (a 1)) rfl dX3_digestCylinder_109 ?_
        refine lv_bipush (v := nI (84)) S.1 S.2.1 dX3_digestCylinder_112 rfl ?_
        refine lv_iload_n S.1 S.2.1 dX3_digestCylinder_114 rfl (lv_at hl 1 rfl) ?_
        refine kn_iadd S dX3_digestCylinder_115 ?_
        refine kn_ald S hK hW 1 (f := φ 0) rfl (by omega) (by decide) dX3_digestCylinder_116 ?_
        refine lv_i2l S.1 S.2.1 dX3_digestCylinder_117 rfl ?_
        refine k_VV (rest := []) S hK hl.1 hW (KFr.all hW hA) (mX3_digestOne l D c a φ (d1 (d1 (dgt (φ 0) δ 3) (fo (φ 0)) 60) (f84 (φ 0)) k) _ ((nI (φ 0 (84 + k))).toInt64)) gX3_digestCylinder_X3_digestOne rfl pdX3_digestOne ⟨⟨rfl, rfl⟩, Nat.le_of_ble_eq_true rfl, Nat.le_of_ble_eq_true rfl⟩ 0 3 rfl rfl rfl rfl (Nat.le_of_ble_eq_true rfl) dX3_digestCylinder_118 ⟨Nat.le_of_ble_eq_true rfl, Nat.le_of_ble_eq_true rfl⟩ (fun H locs hW => ?_)
        have hW : kw D A s.heap (wM c a φ (31 * (d1 (d1 (dgt (φ 0) δ 3) (fo (φ 0)) 60) (f84 (φ 0)) k) + ((nI (φ 0 (84 + k))).toInt64))) H locs := hW
        refine lv_iinc (v := nI (k + 1)) (lv' := [(1, .int (nI (k + 1))), (0, .ref (a 0))]) S.1 S.2.1 dX3_digestCylinder_121 hl (k := 1) rfl (nI_add _ _) (by decide) rfl (fun ls hl => ?_)
        refine lv_goto (tgt := 93) S.1 S.2.1 dX3_digestCylinder_124 (by decide) ?_
        exact ih93 (k + 1) _ _ _ ⟨hW, lv_sub hl [1, 0] rfl, (by omega)⟩ (by show 2 * φ 0 132 - (k + 1) < 2 * φ 0 132 - k; omega)
    · refine lv_aload_n S.1 S.2.1 dX3_digestCylinder_70 rfl (lv_at hl 0 rfl) ?_
      refine lv_aload_n S.1 S.2.1 dX3_digestCylinder_71 rfl (lv_at hl 0 rfl) ?_
      refine lv_iload_n S.1 S.2.1 dX3_digestCylinder_72 rfl (lv_at hl 1 rfl) ?_
      refine lv_iconst (v := nI (5)) S.1 S.2.1 dX3_digestCylinder_73 rfl ?_
      refine kn_idiv S dX3_digestCylinder_74 (by omega) (by omega) (by omega) ?_
      refine lv_iload_n S.1 S.2.1 dX3_digestCylinder_75 rfl (lv_at hl 1 rfl) ?_
      refine lv_iconst (v := nI (5)) S.1 S.2.1 dX3_digestCylinder_76 rfl ?_
      refine kn_irem S dX3_digestCylinder_77 (by omega) (by omega) (by omega) ?_
      refine k_VI (rest := [.ref (a 0)]) S hK hl.1 hW (KFr.all hW hA) (mX3_ofTooth l D c a φ (d1 (dgt (φ 0) δ 3) (fo (φ 0)) k) _ (k / 5) (k % 5) (by first | omega | exact hj | assumption) (by first | omega | exact hw | assumption) (by first | omega | exact ok | assumption)) gX3_digestCylinder_X3_ofTooth rfl pdX3_ofTooth ⟨⟨rfl, rfl⟩, Nat.le_of_ble_eq_true rfl, Nat.le_of_ble_eq_true rfl⟩ 0 3 rfl rfl rfl rfl (Nat.le_of_ble_eq_true rfl) dX3_digestCylinder_78 ⟨Nat.le_of_ble_eq_true rfl, Nat.le_of_ble_eq_true rfl⟩ (fun H locs hW => ?_)
      have hW : kw D A s.heap (wM c a φ (d1 (dgt (φ 0) δ 3) (fo (φ 0)) k)) H locs := hW
      refine lv_i2l S.1 S.2.1 dX3_digestCylinder_81 rfl ?_
      refine k_VV (rest := []) S hK hl.1 hW (KFr.all hW hA) (mX3_digestOne l D c a φ (d1 (dgt (φ 0) δ 3) (fo (φ 0)) k) _ ((nI (oto (φ 0) (k / 5) (k % 5))).toInt64)) gX3_digestCylinder_X3_digestOne rfl pdX3_digestOne ⟨⟨rfl, rfl⟩, Nat.le_of_ble_eq_true rfl, Nat.le_of_ble_eq_true rfl⟩ 0 3 rfl rfl rfl rfl (Nat.le_of_ble_eq_true rfl) dX3_digestCylinder_82 ⟨Nat.le_of_ble_eq_true rfl, Nat.le_of_ble_eq_true rfl⟩ (fun H locs hW => ?_)
      have hW : kw D A s.heap (wM c a φ (31 * (d1 (dgt (φ 0) δ 3) (fo (φ 0)) k) + ((nI (oto (φ 0) (k / 5) (k % 5))).toInt64))) H locs := hW
      refine lv_iinc (v := nI (k + 1)) (lv' := [(1, .int (nI (k + 1))), (0, .ref (a 0))]) S.1 S.2.1 dX3_digestCylinder_85 hl (k := 1) rfl (nI_add _ _) (by decide) rfl (fun ls hl => ?_)
      refine lv_goto (tgt := 64) S.1 S.2.1 dX3_digestCylinder_88 (by decide) ?_
      exact ih64 (k + 1) _ _ _ ⟨hW, lv_sub hl [1, 0] rfl, (by omega)⟩ (by show 60 - (k + 1) < 60 - k; omega)
  · refine lv_iconst (v := nI (0)) S.1 S.2.1 dX3_digestCylinder_7 rfl ?_
    refine lv_istore_n (lv' := [(2, .int (nI (0))), (0, .ref (a 0)), (1, .int (nI (t)))]) S.1 S.2.1 dX3_digestCylinder_8 rfl hl (by decide) rfl (fun ls hl => ?_)
    have hW : kw D A s.heap (wM c a φ (d1 (dgt (φ 0) δ t) (fwt (φ 0) t) 0)) H locs := by rw [d1_0]; exact hW
    refine k_loop (fun (zz : Nat) H lo ls => match zz with | w => kw D A s.heap (wM c a φ (d1 (dgt (φ 0) δ t) (fwt (φ 0) t) w)) H lo ∧ lv_has ls 3 [(0, .ref (a 0)), (1, .int (nI (t))), (2, .int (nI (w)))] ∧ w ≤ 5) (fun (zz : Nat) => match zz with | w => 5 - w) [] ?_ 0 _ _ _ ⟨hW, lv_sub hl [1, 2, 0] rfl, (by decide)⟩
    rintro w ih9 H locs ls ⟨hW, hl, hi9_0⟩
    refine lv_iload_n S.1 S.2.1 dX3_digestCylinder_9 rfl (lv_at hl 2 rfl) ?_
    refine lv_iconst (v := nI (5)) S.1 S.2.1 dX3_digestCylinder_10 rfl ?_
    refine kn_ge S (tgt := 31) dX3_digestCylinder_11 (by decide) (by omega) (by omega) (fun c_11 => ?_) (fun c_11 => ?_)
    · have e9 : w = 5 := by omega
      subst e9
      refine lv_iconst (v := nI (0)) S.1 S.2.1 dX3_digestCylinder_31 rfl ?_
      refine lv_istore_n (lv' := [(2, .int (nI (0))), (0, .ref (a 0)), (1, .int (nI (t)))]) S.1 S.2.1 dX3_digestCylinder_32 rfl hl (by decide) rfl (fun ls hl => ?_)
      have hW : kw D A s.heap (wM c a φ (d1 (d1 (dgt (φ 0) δ t) (fwt (φ 0) t) 5) (fpt (φ 0) t) 0)) H locs := by rw [d1_0]; exact hW
      refine k_loop (fun (zz : Nat) H lo ls => match zz with | p => kw D A s.heap (wM c a φ (d1 (d1 (dgt (φ 0) δ t) (fwt (φ 0) t) 5) (fpt (φ 0) t) p)) H lo ∧ lv_has ls 3 [(0, .ref (a 0)), (1, .int (nI (t))), (2, .int (nI (p)))] ∧ p ≤ 32) (fun (zz : Nat) => match zz with | p => 32 - p) [] ?_ 0 _ _ _ ⟨hW, lv_sub hl [1, 2, 0] rfl, (by decide)⟩
      rintro p ih33 H locs ls ⟨hW, hl, hi33_0⟩
      refine lv_iload_n S.1 S.2.1 dX3_digestCylinder_33 rfl (lv_at hl 2 rfl) ?_
      refine lv_bipush (v := nI (32)) S.1 S.2.1 dX3_digestCylinder_34 rfl ?_
      refine kn_ge S (tgt := 56) dX3_digestCylinder_36 (by decide) (by omega) (by omega) (fun c_36 => ?_) (fun c_36 => ?_)
      · have e9 : p = 32 := by omega
        subst e9
        refine lv_iinc (v := nI (t + 1)) (lv' := [(1, .int (nI (t + 1))), (0, .ref (a 0)), (2, .int (nI (32)))]) S.1 S.2.1 dX3_digestCylinder_56 hl (k := 1) rfl (nI_add _ _) (by decide) rfl (fun ls hl => ?_)
        refine lv_goto (tgt := 2) S.1 S.2.1 dX3_digestCylinder_59 (by decide) ?_
        exact ih2 (t + 1) _ _ _ ⟨hW, lv_sub hl [1, 0] rfl, (by omega)⟩ (by show 3 - (t + 1) < 3 - t; omega)
      · refine lv_aload_n S.1 S.2.1 dX3_digestCylinder_39 rfl (lv_at hl 0 rfl) ?_
        refine lv_aload_n S.1 S.2.1 dX3_digestCylinder_40 rfl (lv_at hl 0 rfl) ?_
        refine lv_iload_n S.1 S.2.1 dX3_digestCylinder_41 rfl (lv_at hl 1 rfl) ?_
        refine lv_iload_n S.1 S.2.1 dX3_digestCylinder_42 rfl (lv_at hl 2 rfl) ?_
        refine k_VI (rest := [.ref (a 0)]) S hK hl.1 hW (KFr.all hW hA) (mX3_pinsAt l D c a φ (d1 (d1 (dgt (φ 0) δ t) (fwt (φ 0) t) 5) (fpt (φ 0) t) p) _ t p (by first | omega | exact ht | assumption) (by first | omega | exact hp | assumption)) gX3_digestCylinder_X3_pinsAt rfl pdX3_pinsAt ⟨⟨rfl, rfl⟩, Nat.le_of_ble_eq_true rfl, Nat.le_of_ble_eq_true rfl⟩ 0 3 rfl rfl rfl rfl (Nat.le_of_ble_eq_true rfl) dX3_digestCylinder_43 ⟨Nat.le_of_ble_eq_true rfl, Nat.le_of_ble_eq_true rfl⟩ (fun H locs hW => ?_)
        have hW : kw D A s.heap (wM c a φ (d1 (d1 (dgt (φ 0) δ t) (fwt (φ 0) t) 5) (fpt (φ 0) t) p)) H locs := hW
        refine lv_i2l S.1 S.2.1 dX3_digestCylinder_46 rfl ?_
        refine k_VV (rest := []) S hK hl.1 hW (KFr.all hW hA) (mX3_digestOne l D c a φ (d1 (d1 (dgt (φ 0) δ t) (fwt (φ 0) t) 5) (fpt (φ 0) t) p) _ ((nI (mk (fun j => pb (φ 0) t j p) 12)).toInt64)) gX3_digestCylinder_X3_digestOne rfl pdX3_digestOne ⟨⟨rfl, rfl⟩, Nat.le_of_ble_eq_true rfl, Nat.le_of_ble_eq_true rfl⟩ 0 3 rfl rfl rfl rfl (Nat.le_of_ble_eq_true rfl) dX3_digestCylinder_47 ⟨Nat.le_of_ble_eq_true rfl, Nat.le_of_ble_eq_true rfl⟩ (fun H locs hW => ?_)
        have hW : kw D A s.heap (wM c a φ (31 * (d1 (d1 (dgt (φ 0) δ t) (fwt (φ 0) t) 5) (fpt (φ 0) t) p) + ((nI (mk (fun j => pb (φ 0) t j p) 12)).toInt64))) H locs := hW
        refine lv_iinc (v := nI (p + 1)) (lv' := [(2, .int (nI (p + 1))), (0, .ref (a 0)), (1, .int (nI (t)))]) S.1 S.2.1 dX3_digestCylinder_50 hl (k := 2) rfl (nI_add _ _) (by decide) rfl (fun ls hl => ?_)
        refine lv_goto (tgt := 33) S.1 S.2.1 dX3_digestCylinder_53 (by decide) ?_
        exact ih33 (p + 1) _ _ _ ⟨hW, lv_sub hl [1, 2, 0] rfl, (by omega)⟩ (by show 32 - (p + 1) < 32 - p; omega)
    · refine lv_aload_n S.1 S.2.1 dX3_digestCylinder_14 rfl (lv_at hl 0 rfl) ?_
      refine lv_aload_n S.1 S.2.1 dX3_digestCylinder_15 rfl (lv_at hl 0 rfl) ?_
      refine lv_iload_n S.1 S.2.1 dX3_digestCylinder_16 rfl (lv_at hl 1 rfl) ?_
      refine lv_iload_n S.1 S.2.1 dX3_digestCylinder_17 rfl (lv_at hl 2 rfl) ?_
      refine k_VI (rest := [.ref (a 0)]) S hK hl.1 hW (KFr.all hW hA) (mX3_ofTune l D c a φ (d1 (dgt (φ 0) δ t) (fwt (φ 0) t) w) _ t w (by first | omega | exact ht | assumption) (by first | omega | exact hw | assumption) (by first | omega | exact ok | assumption)) gX3_digestCylinder_X3_ofTune rfl pdX3_ofTune ⟨⟨rfl, rfl⟩, Nat.le_of_ble_eq_true rfl, Nat.le_of_ble_eq_true rfl⟩ 0 3 rfl rfl rfl rfl (Nat.le_of_ble_eq_true rfl) dX3_digestCylinder_18 ⟨Nat.le_of_ble_eq_true rfl, Nat.le_of_ble_eq_true rfl⟩ (fun H locs hW => ?_)
      have hW : kw D A s.heap (wM c a φ (d1 (dgt (φ 0) δ t) (fwt (φ 0) t) w)) H locs := hW
      refine lv_i2l S.1 S.2.1 dX3_digestCylinder_21 rfl ?_
      refine k_VV (rest := []) S hK hl.1 hW (KFr.all hW hA) (mX3_digestOne l D c a φ (d1 (dgt (φ 0) δ t) (fwt (φ 0) t) w) _ ((nI (otu (φ 0) t w)).toInt64)) gX3_digestCylinder_X3_digestOne rfl pdX3_digestOne ⟨⟨rfl, rfl⟩, Nat.le_of_ble_eq_true rfl, Nat.le_of_ble_eq_true rfl⟩ 0 3 rfl rfl rfl rfl (Nat.le_of_ble_eq_true rfl) dX3_digestCylinder_22 ⟨Nat.le_of_ble_eq_true rfl, Nat.le_of_ble_eq_true rfl⟩ (fun H locs hW => ?_)
      have hW : kw D A s.heap (wM c a φ (31 * (d1 (dgt (φ 0) δ t) (fwt (φ 0) t) w) + ((nI (otu (φ 0) t w)).toInt64))) H locs := hW
      refine lv_iinc (v := nI (w + 1)) (lv' := [(2, .int (nI (w + 1))), (0, .ref (a 0)), (1, .int (nI (t)))]) S.1 S.2.1 dX3_digestCylinder_25 hl (k := 2) rfl (nI_add _ _) (by decide) rfl (fun ls hl => ?_)
      refine lv_goto (tgt := 9) S.1 S.2.1 dX3_digestCylinder_28 (by decide) ?_
      exact ih9 (w + 1) _ _ _ ⟨hW, lv_sub hl [1, 2, 0] rfl, (by omega)⟩ (by show 5 - (w + 1) < 5 - w; omega)
abbrev rmX3_pull : Room := { frames := 3, cells := 0, slots := 0, locals := 64 }
theorem pdX3_pull : kPd yX3_pull 4 := by decide +kernel
set_option maxHeartbeats 400000 in
set_option maxRecDepth 100000 in
theorem mX3_pull_x1 (l : Launch) (D : va_G) (c : Nat → ClassId) (a : Nat → Nat) (φ : Nat → Nat → Nat) (δ : Int64) (sz : Nat) (t : Int32) (j : Int32) (p : Int32) (q : Int32) (hin : (inb t (nI 0) (nI 2) && inb j (nI 0) (nI 11) && inb p (nI 0) (nI 31) && inb q (nI 0) (nI 31)) = false) : MI l yX3_pull wsX3_pull rmX3_pull D c sz (wM c a φ δ) [.ref (a 0), .int (t), .int (j), .int (p), .int (q)] (nI (0)) (wM c a (pu φ 5 (kc (1))) δ) := by
  refine MI.of (cc := cX3_pull) (maxL := 7) (ty := .int) (by decide) rfl (Nat.le_of_ble_eq_true rfl) rfl ?_
  intro P e s m below meth cd A Q ls hsz S hK hW hA hl hret
  have hl : lv_has ls 7 [(0, .ref (a 0)), (1, .int (t)), (2, .int (j)), (3, .int (p)), (4, .int (q))] := hl
  refine lv_aload_n S.1 S.2.1 dX3_pull_0 rfl (lv_at hl 0 rfl) ?_
  refine lv_iload_n S.1 S.2.1 dX3_pull_1 rfl (lv_at hl 1 rfl) ?_
  refine lv_iload_n S.1 S.2.1 dX3_pull_2 rfl (lv_at hl 2 rfl) ?_
  refine lv_iload_n S.1 S.2.1 dX3_pull_3 rfl (lv_at hl 3 rfl) ?_
  refine k_SI (rest := [.ref (a 0)]) S hK hl.1 hW (KFr.nil hW hA) (mX3_areThere l D c  _ t j p) gX3_pull_X3_areThere rfl pdX3_areThere ⟨⟨rfl, rfl⟩, Nat.le_of_ble_eq_true rfl, Nat.le_of_ble_eq_true rfl⟩ rfl (Nat.le_of_ble_eq_true rfl) dX3_pull_4 ⟨Nat.le_of_ble_eq_true rfl, Nat.le_of_ble_eq_true rfl⟩ (fun H locs hW => ?_)
  have hW : kw D A s.heap (wM c a φ δ) H locs := hW
  refine kb_eq S (tgt := 18) dX3_pull_7 (by decide) (fun c_7 => ?_) (fun c_7 => ?_)
  · refine lv_iconst (v := nI (1)) S.1 S.2.1 dX3_pull_18 rfl ?_
    refine lv_goto (tgt := 33) S.1 S.2.1 dX3_pull_19 (by decide) ?_
    refine k_VI (rest := []) S hK hl.1 hW (KFr.all hW hA) (mX3_holds l D c a φ δ _ 1 (by first | omega | exact hw | assumption)) gX3_pull_X3_holds rfl pdX3_holds ⟨⟨rfl, rfl⟩, Nat.le_of_ble_eq_true rfl, Nat.le_of_ble_eq_true rfl⟩ 0 3 rfl rfl rfl rfl (Nat.le_of_ble_eq_true rfl) dX3_pull_33 ⟨Nat.le_of_ble_eq_true rfl, Nat.le_of_ble_eq_true rfl⟩ (fun H locs hW => ?_)
    have hW : kw D A s.heap (wM c a (pu φ 5 (kc (1))) δ) H locs := hW
    refine kb_ne S (tgt := 41) dX3_pull_36 (by decide) (fun c_36 => ?_) (fun c_36 => ?_)
    · exact absurd c_36 (by decide)
    · refine lv_iconst (v := nI (0)) S.1 S.2.1 dX3_pull_39 rfl ?_
      exact hret 40 _ _ _ _ _ dX3_pull_40 hW (rfl) (rfl)
  · refine lv_iload S.1 S.2.1 dX3_pull_10 (lv_at hl 4 rfl) ?_
    refine k_SI (rest := [.ref (a 0)]) S hK hl.1 hW (KFr.nil hW hA) (mX3_isStep l D c  _ q) gX3_pull_X3_isStep rfl pdX3_isStep ⟨⟨rfl, rfl⟩, Nat.le_of_ble_eq_true rfl, Nat.le_of_ble_eq_true rfl⟩ rfl (Nat.le_of_ble_eq_true rfl) dX3_pull_12 ⟨Nat.le_of_ble_eq_true rfl, Nat.le_of_ble_eq_true rfl⟩ (fun H locs hW => ?_)
    have hW : kw D A s.heap (wM c a φ δ) H locs := hW
    refine kb_ne S (tgt := 22) dX3_pull_15 (by decide) (fun c_15 => ?_) (fun c_15 => ?_)
    · exact absurd hin (by rw [c_7, c_15]; decide)
    · refine lv_iconst (v := nI (1)) S.1 S.2.1 dX3_pull_18 rfl ?_
      refine lv_goto (tgt := 33) S.1 S.2.1 dX3_pull_19 (by decide) ?_
      refine k_VI (rest := []) S hK hl.1 hW (KFr.all hW hA) (mX3_holds l D c a φ δ _ 1 (by first | omega | exact hw | assumption)) gX3_pull_X3_holds rfl pdX3_holds ⟨⟨rfl, rfl⟩, Nat.le_of_ble_eq_true rfl, Nat.le_of_ble_eq_true rfl⟩ 0 3 rfl rfl rfl rfl (Nat.le_of_ble_eq_true rfl) dX3_pull_33 ⟨Nat.le_of_ble_eq_true rfl, Nat.le_of_ble_eq_true rfl⟩ (fun H locs hW => ?_)
      have hW : kw D A s.heap (wM c a (pu φ 5 (kc (1))) δ) H locs := hW
      refine kb_ne S (tgt := 41) dX3_pull_36 (by decide) (fun c_36 => ?_) (fun c_36 => ?_)
      · exact absurd c_36 (by decide)
      · refine lv_iconst (v := nI (0)) S.1 S.2.1 dX3_pull_39 rfl ?_
        exact hret 40 _ _ _ _ _ dX3_pull_40 hW (rfl) (rfl)
set_option maxHeartbeats 400000 in
set_option maxRecDepth 100000 in
theorem mX3_pull_x2 (l : Launch) (D : va_G) (c : Nat → ClassId) (a : Nat → Nat) (φ : Nat → Nat → Nat) (δ : Int64) (sz : Nat) (t : Nat) (j : Nat) (p : Nat) (q : Nat) (ht : t < 3) (hj : j < 12) (hp : p < 32) (hq : q < 32) (hpq : q < p) : MI l yX3_pull wsX3_pull rmX3_pull D c sz (wM c a φ δ) [.ref (a 0), .int (nI (t)), .int (nI (j)), .int (nI (p)), .int (nI (q))] (nI (0)) (wM c a (pu φ 5 (kc (2))) δ) := by
  refine MI.of (cc := cX3_pull) (maxL := 7) (ty := .int) (by decide) rfl (Nat.le_of_ble_eq_true rfl) rfl ?_
  intro P e s m below meth cd A Q ls hsz S hK hW hA hl hret
  have hl : lv_has ls 7 [(0, .ref (a 0)), (1, .int (nI (t))), (2, .int (nI (j))), (3, .int (nI (p))), (4, .int (nI (q)))] := hl
  have hin : (inb (nI (t)) (nI 0) (nI 2) && inb (nI (j)) (nI 0) (nI 11) && inb (nI (p)) (nI 0) (nI 31)) = true := by rw [inb_t (Nat.zero_le t) (by omega) (by decide), inb_t (Nat.zero_le j) (by omega) (by decide), inb_t (Nat.zero_le p) (by omega) (by decide)]; rfl
  have hiq : inb (nI (q)) (nI 0) (nI 31) = true := inb_t (Nat.zero_le q) (by omega) (by decide)
  refine lv_aload_n S.1 S.2.1 dX3_pull_0 rfl (lv_at hl 0 rfl) ?_
  refine lv_iload_n S.1 S.2.1 dX3_pull_1 rfl (lv_at hl 1 rfl) ?_
  refine lv_iload_n S.1 S.2.1 dX3_pull_2 rfl (lv_at hl 2 rfl) ?_
  refine lv_iload_n S.1 S.2.1 dX3_pull_3 rfl (lv_at hl 3 rfl) ?_
  refine k_SI (rest := [.ref (a 0)]) S hK hl.1 hW (KFr.nil hW hA) (mX3_areThere l D c  _ (nI (t)) (nI (j)) (nI (p))) gX3_pull_X3_areThere rfl pdX3_areThere ⟨⟨rfl, rfl⟩, Nat.le_of_ble_eq_true rfl, Nat.le_of_ble_eq_true rfl⟩ rfl (Nat.le_of_ble_eq_true rfl) dX3_pull_4 ⟨Nat.le_of_ble_eq_true rfl, Nat.le_of_ble_eq_true rfl⟩ (fun H locs hW => ?_)
  have hW : kw D A s.heap (wM c a φ δ) H locs := hW
  refine kb_eq S (tgt := 18) dX3_pull_7 (by decide) (fun c_7 => ?_) (fun c_7 => ?_)
  · exact absurd (hin.symm.trans c_7) (by decide)
  · refine lv_iload S.1 S.2.1 dX3_pull_10 (lv_at hl 4 rfl) ?_
    refine k_SI (rest := [.ref (a 0)]) S hK hl.1 hW (KFr.nil hW hA) (mX3_isStep l D c  _ (nI (q))) gX3_pull_X3_isStep rfl pdX3_isStep ⟨⟨rfl, rfl⟩, Nat.le_of_ble_eq_true rfl, Nat.le_of_ble_eq_true rfl⟩ rfl (Nat.le_of_ble_eq_true rfl) dX3_pull_12 ⟨Nat.le_of_ble_eq_true rfl, Nat.le_of_ble_eq_true rfl⟩ (fun H locs hW => ?_)
    have hW : kw D A s.heap (wM c a φ δ) H locs := hW
    refine kb_ne S (tgt := 22) dX3_pull_15 (by decide) (fun c_15 => ?_) (fun c_15 => ?_)
    · refine lv_iload S.1 S.2.1 dX3_pull_22 (lv_at hl 4 rfl) ?_
      refine lv_iload_n S.1 S.2.1 dX3_pull_24 rfl (lv_at hl 3 rfl) ?_
      refine kn_ge S (tgt := 32) dX3_pull_25 (by decide) (by omega) (by omega) (fun c_25 => ?_) (fun c_25 => ?_)
      · exact absurd c_25 (by omega)
      · refine lv_iconst (v := nI (2)) S.1 S.2.1 dX3_pull_28 rfl ?_
        refine lv_goto (tgt := 33) S.1 S.2.1 dX3_pull_29 (by decide) ?_
        refine k_VI (rest := []) S hK hl.1 hW (KFr.all hW hA) (mX3_holds l D c a φ δ _ 2 (by first | omega | exact hw | assumption)) gX3_pull_X3_holds rfl pdX3_holds ⟨⟨rfl, rfl⟩, Nat.le_of_ble_eq_true rfl, Nat.le_of_ble_eq_true rfl⟩ 0 3 rfl rfl rfl rfl (Nat.le_of_ble_eq_true rfl) dX3_pull_33 ⟨Nat.le_of_ble_eq_true rfl, Nat.le_of_ble_eq_true rfl⟩ (fun H locs hW => ?_)
        have hW : kw D A s.heap (wM c a (pu φ 5 (kc (2))) δ) H locs := hW
        refine kb_ne S (tgt := 41) dX3_pull_36 (by decide) (fun c_36 => ?_) (fun c_36 => ?_)
        · exact absurd c_36 (by decide)
        · refine lv_iconst (v := nI (0)) S.1 S.2.1 dX3_pull_39 rfl ?_
          exact hret 40 _ _ _ _ _ dX3_pull_40 hW (rfl) (rfl)
    · exact absurd (hiq.symm.trans c_15) (by decide)
set_option maxHeartbeats 400000 in
set_option maxRecDepth 100000 in
theorem mX3_pull_k (l : Launch) (D : va_G) (c : Nat → ClassId) (a : Nat → Nat) (φ : Nat → Nat → Nat) (δ : Int64) (sz : Nat) (t : Nat) (j : Nat) (p : Nat) (q : Nat) (ht : t < 3) (hj : j < 12) (hp : p < 32) (hq : q < 32) (hpq : p ≤ q) (ok : okM (φ 0)) (hk : φ 6 0 ≤ 6) : MI l yX3_pull wsX3_pull rmX3_pull D c sz (wM c a φ δ) [.ref (a 0), .int (nI (t)), .int (nI (j)), .int (nI (p)), .int (nI (q))] (nI (pulc (φ 0) (12 * t + j) p (q + 1 - p))) (wM c a (pu (pu (pu (pu φ 2 (svf (φ 2) (φ 0) (φ 6 0))) 6 (kc (svn (φ 6 0)))) 5 (kc (0))) 0 (pul (φ 0) (12 * t + j) p (q + 1 - p))) δ) := by
  refine MI.of (cc := cX3_pull) (maxL := 7) (ty := .int) (by decide) rfl (Nat.le_of_ble_eq_true rfl) rfl ?_
  intro P e s m below meth cd A Q ls hsz S hK hW hA hl hret
  have hl : lv_has ls 7 [(0, .ref (a 0)), (1, .int (nI (t))), (2, .int (nI (j))), (3, .int (nI (p))), (4, .int (nI (q)))] := hl
  have hinX3 : ∀ w ∈ u_ws RX3 TX3 13, w ∈ wsX3_pull := by decide +kernel
  have hin : (inb (nI (t)) (nI 0) (nI 2) && inb (nI (j)) (nI 0) (nI 11) && inb (nI (p)) (nI 0) (nI 31)) = true := by rw [inb_t (Nat.zero_le t) (by omega) (by decide), inb_t (Nat.zero_le j) (by omega) (by decide), inb_t (Nat.zero_le p) (by omega) (by decide)]; rfl
  have hiq : inb (nI (q)) (nI 0) (nI 31) = true := inb_t (Nat.zero_le q) (by omega) (by decide)
  refine lv_aload_n S.1 S.2.1 dX3_pull_0 rfl (lv_at hl 0 rfl) ?_
  refine lv_iload_n S.1 S.2.1 dX3_pull_1 rfl (lv_at hl 1 rfl) ?_
  refine lv_iload_n S.1 S.2.1 dX3_pull_2 rfl (lv_at hl 2 rfl) ?_
  refine lv_iload_n S.1 S.2.1 dX3_pull_3 rfl (lv_at hl 3 rfl) ?_
  refine k_SI (rest := [.ref (a 0)]) S hK hl.1 hW (KFr.nil hW hA) (mX3_areThere l D c  _ (nI (t)) (nI (j)) (nI (p))) gX3_pull_X3_areThere rfl pdX3_areThere ⟨⟨rfl, rfl⟩, Nat.le_of_ble_eq_true rfl, Nat.le_of_ble_eq_true rfl⟩ rfl (Nat.le_of_ble_eq_true rfl) dX3_pull_4 ⟨Nat.le_of_ble_eq_true rfl, Nat.le_of_ble_eq_true rfl⟩ (fun H locs hW => ?_)
  have hW : kw D A s.heap (wM c a φ δ) H locs := hW
  refine kb_eq S (tgt := 18) dX3_pull_7 (by decide) (fun c_7 => ?_) (fun c_7 => ?_)
  · exact absurd (hin.symm.trans c_7) (by decide)
  · refine lv_iload S.1 S.2.1 dX3_pull_10 (lv_at hl 4 rfl) ?_
    refine k_SI (rest := [.ref (a 0)]) S hK hl.1 hW (KFr.nil hW hA) (mX3_isStep l D c  _ (nI (q))) gX3_pull_X3_isStep rfl pdX3_isStep ⟨⟨rfl, rfl⟩, Nat.le_of_ble_eq_true rfl, Nat.le_of_ble_eq_true rfl⟩ rfl (Nat.le_of_ble_eq_true rfl) dX3_pull_12 ⟨Nat.le_of_ble_eq_true rfl, Nat.le_of_ble_eq_true rfl⟩ (fun H locs hW => ?_)
    have hW : kw D A s.heap (wM c a φ δ) H locs := hW
    refine kb_ne S (tgt := 22) dX3_pull_15 (by decide) (fun c_15 => ?_) (fun c_15 => ?_)
    · refine lv_iload S.1 S.2.1 dX3_pull_22 (lv_at hl 4 rfl) ?_
      refine lv_iload_n S.1 S.2.1 dX3_pull_24 rfl (lv_at hl 3 rfl) ?_
      refine kn_ge S (tgt := 32) dX3_pull_25 (by decide) (by omega) (by omega) (fun c_25 => ?_) (fun c_25 => ?_)
      · refine lv_iconst (v := nI (0)) S.1 S.2.1 dX3_pull_32 rfl ?_
        refine k_VI (rest := []) S hK hl.1 hW (KFr.all hW hA) (mX3_holds l D c a φ δ _ 0 (by first | omega | exact hw | assumption)) gX3_pull_X3_holds rfl pdX3_holds ⟨⟨rfl, rfl⟩, Nat.le_of_ble_eq_true rfl, Nat.le_of_ble_eq_true rfl⟩ 0 3 rfl rfl rfl rfl (Nat.le_of_ble_eq_true rfl) dX3_pull_33 ⟨Nat.le_of_ble_eq_true rfl, Nat.le_of_ble_eq_true rfl⟩ (fun H locs hW => ?_)
        have hW : kw D A s.heap (wM c a (pu φ 5 (kc (0))) δ) H locs := hW
        refine kb_ne S (tgt := 41) dX3_pull_36 (by decide) (fun c_36 => ?_) (fun c_36 => ?_)
        · refine lv_aload_n S.1 S.2.1 dX3_pull_41 rfl (lv_at hl 0 rfl) ?_
          refine k_VV (rest := []) S hK hl.1 hW (KFr.all hW hA) (mX3_save l D c a ((pu φ 5 (kc (0)))) δ _ (by first | omega | exact hk | assumption)) gX3_pull_X3_save rfl pdX3_save ⟨⟨rfl, rfl⟩, Nat.le_of_ble_eq_true rfl, Nat.le_of_ble_eq_true rfl⟩ 0 3 rfl rfl rfl rfl (Nat.le_of_ble_eq_true rfl) dX3_pull_42 ⟨Nat.le_of_ble_eq_true rfl, Nat.le_of_ble_eq_true rfl⟩ (fun H locs hW => ?_)
          have hW : kw D A s.heap (wM c a (pu (pu (pu φ 5 (kc (0))) 2 (svf ((φ 2)) ((φ 0)) (((φ 6) 0)))) 6 (kc (svn (((φ 6) 0))))) δ) H locs := hW
          refine lv_iconst (v := nI (0)) S.1 S.2.1 dX3_pull_45 rfl ?_
          refine lv_istore (lv' := [(5, .int (nI (0))), (0, .ref (a 0)), (1, .int (nI (t))), (2, .int (nI (j))), (3, .int (nI (p))), (4, .int (nI (q)))]) S.1 S.2.1 dX3_pull_46 hl (by decide) rfl (fun ls hl => ?_)
          refine lv_iload_n S.1 S.2.1 dX3_pull_48 rfl (lv_at hl 4 rfl) ?_
          refine lv_istore (lv' := [(6, .int (nI (p))), (5, .int (nI (0))), (0, .ref (a 0)), (1, .int (nI (t))), (2, .int (nI (j))), (3, .int (nI (p))), (4, .int (nI (q)))]) S.1 S.2.1 dX3_pull_49 hl (by decide) rfl (fun ls hl => ?_)
          refine k_loop (fun (zz : Nat) H lo ls => match zz with | k => kw D A s.heap (wM c a (pu (pu (pu (pu φ 5 (kc (0))) 2 (svf ((φ 2)) ((φ 0)) (((φ 6) 0)))) 6 (kc (svn (((φ 6) 0))))) 0 (pul (φ 0) (12 * t + j) p k)) δ) H lo ∧ lv_has ls 7 [(0, .ref (a 0)), (1, .int (nI (t))), (2, .int (nI (j))), (3, .int (nI (p))), (4, .int (nI (q))), (5, .int (nI (pulc (φ 0) (12 * t + j) p k))), (6, .int (nI (p + k)))] ∧ p + k ≤ q + 1) (fun (zz : Nat) => match zz with | k => q + 1 - (p + k)) [] ?_ 0 _ _ _ ⟨hW, lv_sub hl [2, 3, 4, 5, 6, 1, 0] rfl, (by omega)⟩
          rintro k ih51 H locs ls ⟨hW, hl, hi51_0⟩
          refine lv_iload S.1 S.2.1 dX3_pull_51 (lv_at hl 6 rfl) ?_
          refine lv_iload S.1 S.2.1 dX3_pull_53 (lv_at hl 4 rfl) ?_
          refine kn_gt S (tgt := 104) dX3_pull_55 (by decide) (by omega) (by omega) (fun c_55 => ?_) (fun c_55 => ?_)
          · have e9 : k = q + 1 - p := by omega
            subst e9
            refine lv_iload S.1 S.2.1 dX3_pull_104 (lv_at hl 5 rfl) ?_
            exact hret 106 _ _ _ _ _ dX3_pull_106 hW (rfl) (rfl)
          · refine lv_iload S.1 S.2.1 dX3_pull_58 (lv_at hl 5 rfl) ?_
            refine lv_aload_n S.1 S.2.1 dX3_pull_60 rfl (lv_at hl 0 rfl) ?_
            refine lv_iload_n S.1 S.2.1 dX3_pull_61 rfl (lv_at hl 1 rfl) ?_
            refine lv_iload_n S.1 S.2.1 dX3_pull_62 rfl (lv_at hl 2 rfl) ?_
            refine lv_iload S.1 S.2.1 dX3_pull_63 (lv_at hl 6 rfl) ?_
            refine k_VI (rest := [.int (nI (pulc (φ 0) (12 * t + j) p k))]) S hK hl.1 hW (KFr.all hW hA) (mX3_isPin l D c a ((pu (pu (pu (pu φ 5 (kc (0))) 2 (svf ((φ 2)) ((φ 0)) (((φ 6) 0)))) 6 (kc (svn (((φ 6) 0))))) 0 (pul (φ 0) (12 * t + j) p k))) δ _ t j (p + k) (by first | omega | exact ht | assumption) (by first | omega | exact hj | assumption) (by first | omega | exact hp | assumption)) gX3_pull_X3_isPin rfl pdX3_isPin ⟨⟨rfl, rfl⟩, Nat.le_of_ble_eq_true rfl, Nat.le_of_ble_eq_true rfl⟩ 0 3 rfl rfl rfl rfl (Nat.le_of_ble_eq_true rfl) dX3_pull_65 ⟨Nat.le_of_ble_eq_true rfl, Nat.le_of_ble_eq_true rfl⟩ (fun H locs hW => ?_)
            have hW : kw D A s.heap (wM c a (pu (pu (pu (pu φ 5 (kc (0))) 2 (svf ((φ 2)) ((φ 0)) (((φ 6) 0)))) 6 (kc (svn (((φ 6) 0))))) 0 (pul (φ 0) (12 * t + j) p k)) δ) H locs := hW
            refine k_top (y := nI ((pb ((pul (φ 0) (12 * t + j) p k)) t j (p + k)).toNat)) rfl ?_
            refine kb_eq S (tgt := 75) dX3_pull_68 (by decide) (fun c_68 => ?_) (fun c_68 => ?_)
            · refine lv_iconst (v := nI (0)) S.1 S.2.1 dX3_pull_75 rfl ?_
              refine kn_iadd S dX3_pull_76 ?_
              refine k_top (y := nI (pulc (φ 0) (12 * t + j) p (k + 1))) (congrArg nI (by show _ = pulc (φ 0) (12 * t + j) p k + ((pul (φ 0) (12 * t + j) p k (12 * t + j)).testBit (p + k)).toNat; first | rw [show (pul (φ 0) (12 * t + j) p k (12 * t + j)).testBit (p + k) = true from c_68]; rfl | rw [show (pul (φ 0) (12 * t + j) p k (12 * t + j)).testBit (p + k) = false from c_68]; rfl)) ?_
              refine lv_istore (lv' := [(5, .int (nI (pulc (φ 0) (12 * t + j) p (k + 1)))), (0, .ref (a 0)), (1, .int (nI (t))), (2, .int (nI (j))), (3, .int (nI (p))), (4, .int (nI (q))), (6, .int (nI (p + k)))]) S.1 S.2.1 dX3_pull_77 hl (by decide) rfl (fun ls hl => ?_)
              refine lv_aload_n S.1 S.2.1 dX3_pull_79 rfl (lv_at hl 1 rfl) ?_
              refine kx_get S hK hW hinX3 0 3 rfl rfl 1 (by decide) (List.mem_of_getElem? (i := 1) rfl) (v := .ref (a 1)) rfl dX3_pull_80 ?_
              refine lv_iload_n S.1 S.2.1 dX3_pull_83 rfl (lv_at hl 2 rfl) ?_
              refine lv_iload_n S.1 S.2.1 dX3_pull_84 rfl (lv_at hl 3 rfl) ?_
              refine k_SI (rest := [.ref (a 1)]) S hK hl.1 hW (KFr.nil hW hA) (mX3_ofPins l D c  _ t j) gX3_pull_X3_ofPins rfl pdX3_ofPins ⟨⟨rfl, rfl⟩, Nat.le_of_ble_eq_true rfl, Nat.le_of_ble_eq_true rfl⟩ rfl (Nat.le_of_ble_eq_true rfl) dX3_pull_85 ⟨Nat.le_of_ble_eq_true rfl, Nat.le_of_ble_eq_true rfl⟩ (fun H locs hW => ?_)
              have hW : kw D A s.heap (wM c a (pu (pu (pu (pu φ 5 (kc (0))) 2 (svf ((φ 2)) ((φ 0)) (((φ 6) 0)))) 6 (kc (svn (((φ 6) 0))))) 0 (pul (φ 0) (12 * t + j) p k)) δ) H locs := hW
              refine lv_dup2_11 S.1 S.2.1 dX3_pull_88 rfl rfl ?_
              refine kn_ald S hK hW 1 (f := pul (φ 0) (12 * t + j) p k) rfl (by omega) (by decide) dX3_pull_89 ?_
              refine lv_iconst (v := nI (1)) S.1 S.2.1 dX3_pull_90 rfl ?_
              refine lv_iload S.1 S.2.1 dX3_pull_91 (lv_at hl 6 rfl) ?_
              refine kn_shl1 S dX3_pull_93 (by omega) ?_
              refine lv_iconst (v := nI (4294967295)) S.1 S.2.1 dX3_pull_94 rfl ?_
              refine kn_ixor S dX3_pull_95 ?_
              refine kn_iand S dX3_pull_96 ?_
              refine kn_ast S hK hW 1 (f := pul (φ 0) (12 * t + j) p k) rfl (by omega) (by decide) dX3_pull_97 (fun H locs hW => ?_)
              have hW : kw D A s.heap (wM c a (pu (pu (pu (pu φ 5 (kc (0))) 2 (svf ((φ 2)) ((φ 0)) (((φ 6) 0)))) 6 (kc (svn (((φ 6) 0))))) 0 (fu (pul (φ 0) (12 * t + j) p k) (12 * t + j) (((pul (φ 0) (12 * t + j) p k) (12 * t + j)) &&& ((2 ^ (p + k)) ^^^ 4294967295)))) δ) H locs := hW
              refine lv_iinc (v := nI (p + k + 1)) (lv' := [(6, .int (nI (p + k + 1))), (5, .int (nI (pulc (φ 0) (12 * t + j) p (k + 1)))), (0, .ref (a 0)), (1, .int (nI (t))), (2, .int (nI (j))), (3, .int (nI (p))), (4, .int (nI (q)))]) S.1 S.2.1 dX3_pull_98 hl (k := 6) rfl (nI_add _ _) (by decide) rfl (fun ls hl => ?_)
              refine lv_goto (tgt := 51) S.1 S.2.1 dX3_pull_101 (by decide) ?_
              exact ih51 (k + 1) _ _ _ ⟨hW, lv_sub hl [2, 3, 4, 5, 6, 1, 0] rfl, (by omega)⟩ (by show q + 1 - (p + (k + 1)) < q + 1 - (p + k); omega)
            · refine lv_iconst (v := nI (1)) S.1 S.2.1 dX3_pull_71 rfl ?_
              refine lv_goto (tgt := 76) S.1 S.2.1 dX3_pull_72 (by decide) ?_
              refine kn_iadd S dX3_pull_76 ?_
              refine k_top (y := nI (pulc (φ 0) (12 * t + j) p (k + 1))) (congrArg nI (by show _ = pulc (φ 0) (12 * t + j) p k + ((pul (φ 0) (12 * t + j) p k (12 * t + j)).testBit (p + k)).toNat; first | rw [show (pul (φ 0) (12 * t + j) p k (12 * t + j)).testBit (p + k) = true from c_68]; rfl | rw [show (pul (φ 0) (12 * t + j) p k (12 * t + j)).testBit (p + k) = false from c_68]; rfl)) ?_
              refine lv_istore (lv' := [(5, .int (nI (pulc (φ 0) (12 * t + j) p (k + 1)))), (0, .ref (a 0)), (1, .int (nI (t))), (2, .int (nI (j))), (3, .int (nI (p))), (4, .int (nI (q))), (6, .int (nI (p + k)))]) S.1 S.2.1 dX3_pull_77 hl (by decide) rfl (fun ls hl => ?_)
              refine lv_aload_n S.1 S.2.1 dX3_pull_79 rfl (lv_at hl 1 rfl) ?_
              refine kx_get S hK hW hinX3 0 3 rfl rfl 1 (by decide) (List.mem_of_getElem? (i := 1) rfl) (v := .ref (a 1)) rfl dX3_pull_80 ?_
              refine lv_iload_n S.1 S.2.1 dX3_pull_83 rfl (lv_at hl 2 rfl) ?_
              refine lv_iload_n S.1 S.2.1 dX3_pull_84 rfl (lv_at hl 3 rfl) ?_
              refine k_SI (rest := [.ref (a 1)]) S hK hl.1 hW (KFr.nil hW hA) (mX3_ofPins l D c  _ t j) gX3_pull_X3_ofPins rfl pdX3_ofPins ⟨⟨rfl, rfl⟩, Nat.le_of_ble_eq_true rfl, Nat.le_of_ble_eq_true rfl⟩ rfl (Nat.le_of_ble_eq_true rfl) dX3_pull_85 ⟨Nat.le_of_ble_eq_true rfl, Nat.le_of_ble_eq_true rfl⟩ (fun H locs hW => ?_)
              have hW : kw D A s.heap (wM c a (pu (pu (pu (pu φ 5 (kc (0))) 2 (svf ((φ 2)) ((φ 0)) (((φ 6) 0)))) 6 (kc (svn (((φ 6) 0))))) 0 (pul (φ 0) (12 * t + j) p k)) δ) H locs := hW
              refine lv_dup2_11 S.1 S.2.1 dX3_pull_88 rfl rfl ?_
              refine kn_ald S hK hW 1 (f := pul (φ 0) (12 * t + j) p k) rfl (by omega) (by decide) dX3_pull_89 ?_
              refine lv_iconst (v := nI (1)) S.1 S.2.1 dX3_pull_90 rfl ?_
              refine lv_iload S.1 S.2.1 dX3_pull_91 (lv_at hl 6 rfl) ?_
              refine kn_shl1 S dX3_pull_93 (by omega) ?_
              refine lv_iconst (v := nI (4294967295)) S.1 S.2.1 dX3_pull_94 rfl ?_
              refine kn_ixor S dX3_pull_95 ?_
              refine kn_iand S dX3_pull_96 ?_
              refine kn_ast S hK hW 1 (f := pul (φ 0) (12 * t + j) p k) rfl (by omega) (by decide) dX3_pull_97 (fun H locs hW => ?_)
              have hW : kw D A s.heap (wM c a (pu (pu (pu (pu φ 5 (kc (0))) 2 (svf ((φ 2)) ((φ 0)) (((φ 6) 0)))) 6 (kc (svn (((φ 6) 0))))) 0 (fu (pul (φ 0) (12 * t + j) p k) (12 * t + j) (((pul (φ 0) (12 * t + j) p k) (12 * t + j)) &&& ((2 ^ (p + k)) ^^^ 4294967295)))) δ) H locs := hW
              refine lv_iinc (v := nI (p + k + 1)) (lv' := [(6, .int (nI (p + k + 1))), (5, .int (nI (pulc (φ 0) (12 * t + j) p (k + 1)))), (0, .ref (a 0)), (1, .int (nI (t))), (2, .int (nI (j))), (3, .int (nI (p))), (4, .int (nI (q)))]) S.1 S.2.1 dX3_pull_98 hl (k := 6) rfl (nI_add _ _) (by decide) rfl (fun ls hl => ?_)
              refine lv_goto (tgt := 51) S.1 S.2.1 dX3_pull_101 (by decide) ?_
              exact ih51 (k + 1) _ _ _ ⟨hW, lv_sub hl [2, 3, 4, 5, 6, 1, 0] rfl, (by omega)⟩ (by show q + 1 - (p + (k + 1)) < q + 1 - (p + k); omega)
        · exact absurd c_36 (by decide)
      · exact absurd c_25 (by omega)
    · exact absurd (hiq.symm.trans c_15) (by decide)
