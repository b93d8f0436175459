abbrev rmX3_widest : Room := { frames := 1, cells := 0, slots := 0, locals := 21 }
theorem pdX3_widest : kPd yX3_widest 1 := by decide +kernel
set_option maxHeartbeats 400000 in
set_option maxRecDepth 100000 in
theorem mX3_widest (l : Launch) (D : va_G) (c : Nat → ClassId) (a : Nat → Nat) (φ : Nat → Nat → Nat) (δ : Int64) (sz : Nat) (j : Nat) (hj : j < 12) (ok : okM (φ 0)) : MI l yX3_widest wsX3_widest rmX3_widest D c sz (wM c a φ δ) [.ref (a 0), .int (nI (j))] (nI (wide (φ 0) j)) (wM c a φ δ) := by
  refine MI.of (cc := cX3_widest) (maxL := 7) (ty := .int) (by decide) rfl (Nat.le_of_ble_eq_true rfl) rfl ?_
  intro P e s m below meth cd A Q ls hsz S hK hW hA hl hret
  have hl : lv_has ls 7 [(0, .ref (a 0)), (1, .int (nI (j)))] := hl
  have hinX3 : ∀ w ∈ u_ws RX3 TX3 13, w ∈ wsX3_widest := by decide +kernel
  have h134 := ok.k134
  have hx := ok.pin (i := 12 * φ 0 134 + j) (by omega)
  refine lv_aload_n S.1 S.2.1 dX3_widest_0 rfl (lv_at hl 0 rfl) ?_
  refine kx_get S hK hW hinX3 0 3 rfl rfl 1 (by decide) (List.mem_of_getElem? (i := 1) rfl) (v := .ref (a 1)) rfl dX3_widest_1 ?_
  refine lv_aload_n S.1 S.2.1 dX3_widest_4 rfl (lv_at hl 0 rfl) ?_
  refine kx_get S hK hW hinX3 0 3 rfl rfl 1 (by decide) (List.mem_of_getElem? (i := 1) rfl) (v := .ref (a 1)) rfl dX3_widest_5 ?_
  refine lv_sipush (v := nI (134)) S.1 S.2.1 dX3_widest_8 rfl ?_
  refine kn_ald S hK hW 1 (f := φ 0) rfl (by omega) (by decide) dX3_widest_11 ?_
  refine lv_iload_n S.1 S.2.1 dX3_widest_12 rfl (lv_at hl 1 rfl) ?_
  refine k_SI (rest := [.ref (a 1)]) S hK hl.1 hW (KFr.nil hW hA) (mX3_ofPins l D c  _ (φ 0 (134)) j) gX3_widest_X3_ofPins rfl pdX3_ofPins ⟨⟨rfl, rfl⟩, Nat.le_of_ble_eq_true rfl, Nat.le_of_ble_eq_true rfl⟩ rfl (Nat.le_of_ble_eq_true rfl) dX3_widest_13 ⟨Nat.le_of_ble_eq_true rfl, Nat.le_of_ble_eq_true rfl⟩ (fun H locs hW => ?_)
  have hW : kw D A s.heap (wM c a φ δ) H locs := hW
  refine kn_ald S hK hW 1 (f := φ 0) rfl (by omega) (by decide) dX3_widest_16 ?_
  refine lv_istore_n (lv' := [(2, .int (nI (φ 0 (12 * (φ 0 (134)) + j)))), (0, .ref (a 0)), (1, .int (nI (j)))]) S.1 S.2.1 dX3_widest_17 rfl hl (by decide) rfl (fun ls hl => ?_)
  refine lv_iconst (v := nI (0)) S.1 S.2.1 dX3_widest_18 rfl ?_
  refine lv_istore_n (lv' := [(3, .int (nI (0))), (2, .int (nI (φ 0 (12 * (φ 0 (134)) + j)))), (0, .ref (a 0)), (1, .int (nI (j)))]) S.1 S.2.1 dX3_widest_19 rfl hl (by decide) rfl (fun ls hl => ?_)
  refine lv_iconst (v := nI (0)) S.1 S.2.1 dX3_widest_20 rfl ?_
  refine lv_istore (lv' := [(4, .int (nI (0))), (3, .int (nI (0))), (2, .int (nI (φ 0 (12 * (φ 0 (134)) + j)))), (0, .ref (a 0)), (1, .int (nI (j)))]) S.1 S.2.1 dX3_widest_21 hl (by decide) rfl (fun ls hl => ?_)
  refine lv_iconst (v := nI (0)) S.1 S.2.1 dX3_widest_23 rfl ?_
  refine lv_istore (lv' := [(5, .int (nI (0))), (4, .int (nI (0))), (3, .int (nI (0))), (2, .int (nI (φ 0 (12 * (φ 0 (134)) + j)))), (0, .ref (a 0)), (1, .int (nI (j)))]) S.1 S.2.1 dX3_widest_24 hl (by decide) rfl (fun ls hl => ?_)
  refine k_loop (fun (zz : Nat) H lo ls => match zz with | k => kw D A s.heap (wM c a φ δ) H lo ∧ lv_has ls 7 [(0, .ref (a 0)), (1, .int (nI (j))), (2, .int (nI (φ 0 (12 * (φ 0 (134)) + j)))), (3, .int (nI ((wid (φ 0 (12 * φ 0 134 + j)) k).1))), (4, .int (nI ((wid (φ 0 (12 * φ 0 134 + j)) k).2))), (5, .int (nI (k)))] ∧ k ≤ 64 ∧ (φ 0 (12 * φ 0 134 + j) = 0 → k = 0)) (fun (zz : Nat) => match zz with | k => 64 - k) [] ?_ 0 _ _ _ ⟨hW, lv_sub hl [4, 5, 3, 2, 1, 0] rfl, (by decide), (fun _ => rfl)⟩
  rintro k ih26 H locs ls ⟨hW, hl, hi26_0, hi26_1⟩
  have hw := wid_le (φ 0 (12 * φ 0 134 + j)) k
  refine lv_iload S.1 S.2.1 dX3_widest_26 (lv_at hl 5 rfl) ?_
  refine lv_bipush (v := nI (64)) S.1 S.2.1 dX3_widest_28 rfl ?_
  refine kn_ge S (tgt := 104) dX3_widest_30 (by decide) (by omega) (by omega) (fun c_30 => ?_) (fun c_30 => ?_)
  · refine lv_iload_n S.1 S.2.1 dX3_widest_104 rfl (lv_at hl 3 rfl) ?_
    exact hret 105 _ _ _ _ _ dX3_widest_105 hW (congrArg nI (by first | exact wide_0 c_34 (hi26_1 c_34) | exact wide_1 hi26_1 c_30 hi26_0)) (rfl)
  · refine lv_iload_n S.1 S.2.1 dX3_widest_33 rfl (lv_at hl 2 rfl) ?_
    refine kw_eq S (tgt := 104) dX3_widest_34 (by decide) (by omega) (fun c_34 => ?_) (fun c_34 => ?_)
    · refine lv_iload_n S.1 S.2.1 dX3_widest_104 rfl (lv_at hl 3 rfl) ?_
      exact hret 105 _ _ _ _ _ dX3_widest_105 hW (congrArg nI (by first | exact wide_0 c_34 (hi26_1 c_34) | exact wide_1 hi26_1 c_30 hi26_0)) (rfl)
    · refine lv_iinc (v := nI ((wid (φ 0 (12 * φ 0 134 + j)) k).2 + 1)) (lv' := [(4, .int (nI ((wid (φ 0 (12 * φ 0 134 + j)) k).2 + 1))), (0, .ref (a 0)), (1, .int (nI (j))), (2, .int (nI (φ 0 (12 * (φ 0 (134)) + j)))), (3, .int (nI ((wid (φ 0 (12 * φ 0 134 + j)) k).1))), (5, .int (nI (k)))]) S.1 S.2.1 dX3_widest_37 hl (k := 4) rfl (nI_add _ _) (by decide) rfl (fun ls hl => ?_)
      refine lv_iload_n S.1 S.2.1 dX3_widest_40 rfl (lv_at hl 3 rfl) ?_
      refine lv_iload S.1 S.2.1 dX3_widest_41 (lv_at hl 5 rfl) ?_
      refine lv_bipush (v := nI (32)) S.1 S.2.1 dX3_widest_43 rfl ?_
      refine kn_irem S dX3_widest_45 (by omega) (by omega) (by omega) ?_
      refine lv_ishr S.1 S.2.1 dX3_widest_46 ?_
      refine lv_iconst (v := nI (1)) S.1 S.2.1 dX3_widest_47 rfl ?_
      refine kn_tbit S (Nat.mod_lt _ (by decide)) dX3_widest_48 ?_
      refine lv_iconst (v := nI (1)) S.1 S.2.1 dX3_widest_49 rfl ?_
      refine kn_ne S (tgt := 57) dX3_widest_50 (by decide) (by have := Bool.toNat_le ((φ 0 (12 * φ 0 134 + j)).testBit (k % 32)); omega) (by omega) (fun c_50 => ?_) (fun c_50 => ?_)
      · refine lv_iconst (v := nI (0)) S.1 S.2.1 dX3_widest_57 rfl ?_
        refine k_top (y := nI (((φ 0 (12 * φ 0 134 + j)).testBit (k % 32)).toNat)) (congrArg nI (by have := Bool.toNat_le ((φ 0 (12 * φ 0 134 + j)).testBit (k % 32)); omega)) ?_
        refine lv_istore (lv' := [(6, .int (nI ((φ 0 (12 * φ 0 134 + j)).testBit (k % 32)).toNat)), (4, .int (nI ((wid (φ 0 (12 * φ 0 134 + j)) k).2 + 1))), (0, .ref (a 0)), (1, .int (nI (j))), (2, .int (nI (φ 0 (12 * (φ 0 (134)) + j)))), (3, .int (nI ((wid (φ 0 (12 * φ 0 134 + j)) k).1))), (5, .int (nI (k)))]) S.1 S.2.1 dX3_widest_58 hl (by decide) rfl (fun ls hl => ?_)
        refine lv_iload S.1 S.2.1 dX3_widest_60 (lv_at hl 0 rfl) ?_
        refine kb_eq S (tgt := 83) dX3_widest_62 (by decide) (fun c_62 => ?_) (fun c_62 => ?_)
        · refine lv_iload_n S.1 S.2.1 dX3_widest_83 rfl (lv_at hl 5 rfl) ?_
          refine k_top (y := nI ((wid (φ 0 (12 * φ 0 134 + j)) (k + 1)).1)) (congrArg nI (by first | exact wid_b c_62 | exact wid_c c_69 | exact wid_d c_75)) ?_
          refine lv_istore_n (lv' := [(3, .int (nI ((wid (φ 0 (12 * φ 0 134 + j)) (k + 1)).1))), (6, .int (nI ((φ 0 (12 * φ 0 134 + j)).testBit (k % 32)).toNat)), (4, .int (nI ((wid (φ 0 (12 * φ 0 134 + j)) k).2 + 1))), (0, .ref (a 0)), (1, .int (nI (j))), (2, .int (nI (φ 0 (12 * (φ 0 (134)) + j)))), (5, .int (nI (k)))]) S.1 S.2.1 dX3_widest_84 rfl hl (by decide) rfl (fun ls hl => ?_)
          refine lv_iload S.1 S.2.1 dX3_widest_85 (lv_at hl 1 rfl) ?_
          refine kb_eq S (tgt := 94) dX3_widest_87 (by decide) (fun c_87 => ?_) (fun c_87 => ?_)
          · refine lv_iload S.1 S.2.1 dX3_widest_94 (lv_at hl 2 rfl) ?_
            refine k_top (y := nI ((wid (φ 0 (12 * φ 0 134 + j)) (k + 1)).2)) (congrArg nI (wid_f c_87)) ?_
            refine lv_istore (lv' := [(4, .int (nI ((wid (φ 0 (12 * φ 0 134 + j)) (k + 1)).2))), (3, .int (nI ((wid (φ 0 (12 * φ 0 134 + j)) (k + 1)).1))), (6, .int (nI ((φ 0 (12 * φ 0 134 + j)).testBit (k % 32)).toNat)), (0, .ref (a 0)), (1, .int (nI (j))), (2, .int (nI (φ 0 (12 * (φ 0 (134)) + j)))), (5, .int (nI (k)))]) S.1 S.2.1 dX3_widest_96 hl (by decide) rfl (fun ls hl => ?_)
            refine lv_iinc (v := nI (k + 1)) (lv' := [(5, .int (nI (k + 1))), (4, .int (nI ((wid (φ 0 (12 * φ 0 134 + j)) (k + 1)).2))), (3, .int (nI ((wid (φ 0 (12 * φ 0 134 + j)) (k + 1)).1))), (6, .int (nI ((φ 0 (12 * φ 0 134 + j)).testBit (k % 32)).toNat)), (0, .ref (a 0)), (1, .int (nI (j))), (2, .int (nI (φ 0 (12 * (φ 0 (134)) + j))))]) S.1 S.2.1 dX3_widest_98 hl (k := 6) rfl (nI_add _ _) (by decide) rfl (fun ls hl => ?_)
            refine lv_goto (tgt := 26) S.1 S.2.1 dX3_widest_101 (by decide) ?_
            exact ih26 (k + 1) _ _ _ ⟨hW, lv_sub hl [4, 5, 6, 2, 1, 0] rfl, (by omega), (fun q => absurd q c_34)⟩ (by show 64 - (k + 1) < 64 - k; omega)
          · refine lv_iconst (v := nI (0)) S.1 S.2.1 dX3_widest_90 rfl ?_
            refine k_top (y := nI ((wid (φ 0 (12 * φ 0 134 + j)) (k + 1)).2)) (congrArg nI (wid_e c_87)) ?_
            refine lv_goto (tgt := 96) S.1 S.2.1 dX3_widest_91 (by decide) ?_
            refine lv_istore (lv' := [(4, .int (nI ((wid (φ 0 (12 * φ 0 134 + j)) (k + 1)).2))), (3, .int (nI ((wid (φ 0 (12 * φ 0 134 + j)) (k + 1)).1))), (6, .int (nI ((φ 0 (12 * φ 0 134 + j)).testBit (k % 32)).toNat)), (0, .ref (a 0)), (1, .int (nI (j))), (2, .int (nI (φ 0 (12 * (φ 0 (134)) + j)))), (5, .int (nI (k)))]) S.1 S.2.1 dX3_widest_96 hl (by decide) rfl (fun ls hl => ?_)
            refine lv_iinc (v := nI (k + 1)) (lv' := [(5, .int (nI (k + 1))), (4, .int (nI ((wid (φ 0 (12 * φ 0 134 + j)) (k + 1)).2))), (3, .int (nI ((wid (φ 0 (12 * φ 0 134 + j)) (k + 1)).1))), (6, .int (nI ((φ 0 (12 * φ 0 134 + j)).testBit (k % 32)).toNat)), (0, .ref (a 0)), (1, .int (nI (j))), (2, .int (nI (φ 0 (12 * (φ 0 (134)) + j))))]) S.1 S.2.1 dX3_widest_98 hl (k := 6) rfl (nI_add _ _) (by decide) rfl (fun ls hl => ?_)
            refine lv_goto (tgt := 26) S.1 S.2.1 dX3_widest_101 (by decide) ?_
            exact ih26 (k + 1) _ _ _ ⟨hW, lv_sub hl [4, 5, 6, 2, 1, 0] rfl, (by omega), (fun q => absurd q c_34)⟩ (by show 64 - (k + 1) < 64 - k; omega)
        · refine lv_iload S.1 S.2.1 dX3_widest_65 (lv_at hl 6 rfl) ?_
          refine lv_bipush (v := nI (32)) S.1 S.2.1 dX3_widest_67 rfl ?_
          refine kn_lt S (tgt := 83) dX3_widest_69 (by decide) (by omega) (by omega) (fun c_69 => ?_) (fun c_69 => ?_)
          · refine lv_iload_n S.1 S.2.1 dX3_widest_83 rfl (lv_at hl 5 rfl) ?_
            refine k_top (y := nI ((wid (φ 0 (12 * φ 0 134 + j)) (k + 1)).1)) (congrArg nI (by first | exact wid_b c_62 | exact wid_c c_69 | exact wid_d c_75)) ?_
            refine lv_istore_n (lv' := [(3, .int (nI ((wid (φ 0 (12 * φ 0 134 + j)) (k + 1)).1))), (6, .int (nI ((φ 0 (12 * φ 0 134 + j)).testBit (k % 32)).toNat)), (4, .int (nI ((wid (φ 0 (12 * φ 0 134 + j)) k).2 + 1))), (0, .ref (a 0)), (1, .int (nI (j))), (2, .int (nI (φ 0 (12 * (φ 0 (134)) + j)))), (5, .int (nI (k)))]) S.1 S.2.1 dX3_widest_84 rfl hl (by decide) rfl (fun ls hl => ?_)
            refine lv_iload S.1 S.2.1 dX3_widest_85 (lv_at hl 1 rfl) ?_
            refine kb_eq S (tgt := 94) dX3_widest_87 (by decide) (fun c_87 => ?_) (fun c_87 => ?_)
            · refine lv_iload S.1 S.2.1 dX3_widest_94 (lv_at hl 2 rfl) ?_
              refine k_top (y := nI ((wid (φ 0 (12 * φ 0 134 + j)) (k + 1)).2)) (congrArg nI (wid_f c_87)) ?_
              refine lv_istore (lv' := [(4, .int (nI ((wid (φ 0 (12 * φ 0 134 + j)) (k + 1)).2))), (3, .int (nI ((wid (φ 0 (12 * φ 0 134 + j)) (k + 1)).1))), (6, .int (nI ((φ 0 (12 * φ 0 134 + j)).testBit (k % 32)).toNat)), (0, .ref (a 0)), (1, .int (nI (j))), (2, .int (nI (φ 0 (12 * (φ 0 (134)) + j)))), (5, .int (nI (k)))]) S.1 S.2.1 dX3_widest_96 hl (by decide) rfl (fun ls hl => ?_)
              refine lv_iinc (v := nI (k + 1)) (lv' := [(5, .int (nI (k + 1))), (4, .int (nI ((wid (φ 0 (12 * φ 0 134 + j)) (k + 1)).2))), (3, .int (nI ((wid (φ 0 (12 * φ 0 134 + j)) (k + 1)).1))), (6, .int (nI ((φ 0 (12 * φ 0 134 + j)).testBit (k % 32)).toNat)), (0, .ref (a 0)), (1, .int (nI (j))), (2, .int (nI (φ 0 (12 * (φ 0 (134)) + j))))]) S.1 S.2.1 dX3_widest_98 hl (k := 6) rfl (nI_add _ _) (by decide) rfl (fun ls hl => ?_)
              refine lv_goto (tgt := 26) S.1 S.2.1 dX3_widest_101 (by decide) ?_
              exact ih26 (k + 1) _ _ _ ⟨hW, lv_sub hl [4, 5, 6, 2, 1, 0] rfl, (by omega), (fun q => absurd q c_34)⟩ (by show 64 - (k + 1) < 64 - k; omega)
            · refine lv_iconst (v := nI (0)) S.1 S.2.1 dX3_widest_90 rfl ?_
              refine k_top (y := nI ((wid (φ 0 (12 * φ 0 134 + j)) (k + 1)).2)) (congrArg nI (wid_e c_87)) ?_
              refine lv_goto (tgt := 96) S.1 S.2.1 dX3_widest_91 (by decide) ?_
              refine lv_istore (lv' := [(4, .int (nI ((wid (φ 0 (12 * φ 0 134 + j)) (k + 1)).2))), (3, .int (nI ((wid (φ 0 (12 * φ 0 134 + j)) (k + 1)).1))), (6, .int (nI ((φ 0 (12 * φ 0 134 + j)).testBit (k % 32)).toNat)), (0, .ref (a 0)), (1, .int (nI (j))), (2, .int (nI (φ 0 (12 * (φ 0 (134)) + j)))), (5, .int (nI (k)))]) S.1 S.2.1 dX3_widest_96 hl (by decide) rfl (fun ls hl => ?_)
              refine lv_iinc (v := nI (k + 1)) (lv' := [(5, .int (nI (k + 1))), (4, .int (nI ((wid (φ 0 (12 * φ 0 134 + j)) (k + 1)).2))), (3, .int (nI ((wid (φ 0 (12 * φ 0 134 + j)) (k + 1)).1))), (6, .int (nI ((φ 0 (12 * φ 0 134 + j)).testBit (k % 32)).toNat)), (0, .ref (a 0)), (1, .int (nI (j))), (2, .int (nI (φ 0 (12 * (φ 0 (134)) + j))))]) S.1 S.2.1 dX3_widest_98 hl (k := 6) rfl (nI_add _ _) (by decide) rfl (fun ls hl => ?_)
              refine lv_goto (tgt := 26) S.1 S.2.1 dX3_widest_101 (by decide) ?_
              exact ih26 (k + 1) _ _ _ ⟨hW, lv_sub hl [4, 5, 6, 2, 1, 0] rfl, (by omega), (fun q => absurd q c_34)⟩ (by show 64 - (k + 1) < 64 - k; omega)
          · refine lv_iload S.1 S.2.1 dX3_widest_72 (lv_at hl 1 rfl) ?_
            refine lv_iload_n S.1 S.2.1 dX3_widest_74 rfl (lv_at hl 5 rfl) ?_
            refine kn_le S (tgt := 83) dX3_widest_75 (by decide) (by omega) (by omega) (fun c_75 => ?_) (fun c_75 => ?_)
            · refine lv_iload_n S.1 S.2.1 dX3_widest_83 rfl (lv_at hl 5 rfl) ?_
              refine k_top (y := nI ((wid (φ 0 (12 * φ 0 134 + j)) (k + 1)).1)) (congrArg nI (by first | exact wid_b c_62 | exact wid_c c_69 | exact wid_d c_75)) ?_
              refine lv_istore_n (lv' := [(3, .int (nI ((wid (φ 0 (12 * φ 0 134 + j)) (k + 1)).1))), (6, .int (nI ((φ 0 (12 * φ 0 134 + j)).testBit (k % 32)).toNat)), (4, .int (nI ((wid (φ 0 (12 * φ 0 134 + j)) k).2 + 1))), (0, .ref (a 0)), (1, .int (nI (j))), (2, .int (nI (φ 0 (12 * (φ 0 (134)) + j)))), (5, .int (nI (k)))]) S.1 S.2.1 dX3_widest_84 rfl hl (by decide) rfl (fun ls hl => ?_)
              refine lv_iload S.1 S.2.1 dX3_widest_85 (lv_at hl 1 rfl) ?_
              refine kb_eq S (tgt := 94) dX3_widest_87 (by decide) (fun c_87 => ?_) (fun c_87 => ?_)
              · refine lv_iload S.1 S.2.1 dX3_widest_94 (lv_at hl 2 rfl) ?_
                refine k_top (y := nI ((wid (φ 0 (12 * φ 0 134 + j)) (k + 1)).2)) (congrArg nI (wid_f c_87)) ?_
                refine lv_istore (lv' := [(4, .int (nI ((wid (φ 0 (12 * φ 0 134 + j)) (k + 1)).2))), (3, .int (nI ((wid (φ 0 (12 * φ 0 134 + j)) (k + 1)).1))), (6, .int (nI ((φ 0 (12 * φ 0 134 + j)).testBit (k % 32)).toNat)), (0, .ref (a 0)), (1, .int (nI (j))), (2, .int (nI (φ 0 (12 * (φ 0 (134)) + j)))), (5, .int (nI (k)))]) S.1 S.2.1 dX3_widest_96 hl (by decide) rfl (fun ls hl => ?_)
                refine lv_iinc (v := nI (k + 1)) (lv' := [(5, .int (nI (k + 1))), (4, .int (nI ((wid (φ 0 (12 * φ 0 134 + j)) (k + 1)).2))), (3, .int (nI ((wid (φ 0 (12 * φ 0 134 + j)) (k + 1)).1))), (6, .int (nI ((φ 0 (12 * φ 0 134 + j)).testBit (k % 32)).toNat)), (0, .ref (a 0)), (1, .int (nI (j))), (2, .int (nI (φ 0 (12 * (φ 0 (134)) + j))))]) S.1 S.2.1 dX3_widest_98 hl (k := 6) rfl (nI_add _ _) (by decide) rfl (fun ls hl => ?_)
                refine lv_goto (tgt := 26) S.1 S.2.1 dX3_widest_101 (by decide) ?_
                exact ih26 (k + 1) _ _ _ ⟨hW, lv_sub hl [4, 5, 6, 2, 1, 0] rfl, (by omega), (fun q => absurd q c_34)⟩ (by show 64 - (k + 1) < 64 - k; omega)
              · refine lv_iconst (v := nI (0)) S.1 S.2.1 dX3_widest_90 rfl ?_
                refine k_top (y := nI ((wid (φ 0 (12 * φ 0 134 + j)) (k + 1)).2)) (congrArg nI (wid_e c_87)) ?_
                refine lv_goto (tgt := 96) S.1 S.2.1 dX3_widest_91 (by decide) ?_
                refine lv_istore (lv' := [(4, .int (nI ((wid (φ 0 (12 * φ 0 134 + j)) (k + 1)).2))), (3, .int (nI ((wid (φ 0 (12 * φ 0 134 + j)) (k + 1)).1))), (6, .int (nI ((φ 0 (12 * φ 0 134 + j)).testBit (k % 32)).toNat)), (0, .ref (a 0)), (1, .int (nI (j))), (2, .int (nI (φ 0 (12 * (φ 0 (134)) + j)))), (5, .int (nI (k)))]) S.1 S.2.1 dX3_widest_96 hl (by decide) rfl (fun ls hl => ?_)
                refine lv_iinc (v := nI (k + 1)) (lv' := [(5, .int (nI (k + 1))), (4, .int (nI ((wid (φ 0 (12 * φ 0 134 + j)) (k + 1)).2))), (3, .int (nI ((wid (φ 0 (12 * φ 0 134 + j)) (k + 1)).1))), (6, .int (nI ((φ 0 (12 * φ 0 134 + j)).testBit (k % 32)).toNat)), (0, .ref (a 0)), (1, .int (nI (j))), (2, .int (nI (φ 0 (12 * (φ 0 (134)) + j))))]) S.1 S.2.1 dX3_widest_98 hl (k := 6) rfl (nI_add _ _) (by decide) rfl (fun ls hl => ?_)
                refine lv_goto (tgt := 26) S.1 S.2.1 dX3_widest_101 (by decide) ?_
                exact ih26 (k + 1) _ _ _ ⟨hW, lv_sub hl [4, 5, 6, 2, 1, 0] rfl, (by omega), (fun q => absurd q c_34)⟩ (by show 64 - (k + 1) < 64 - k; omega)
            · refine lv_iload S.1 S.2.1 dX3_widest_78 (lv_at hl 1 rfl) ?_
              refine k_top (y := nI ((wid (φ 0 (12 * φ 0 134 + j)) (k + 1)).1)) (congrArg nI (wid_a c_62 c_69 c_75)) ?_
              refine lv_goto (tgt := 84) S.1 S.2.1 dX3_widest_80 (by decide) ?_
              refine lv_istore_n (lv' := [(3, .int (nI ((wid (φ 0 (12 * φ 0 134 + j)) (k + 1)).1))), (6, .int (nI ((φ 0 (12 * φ 0 134 + j)).testBit (k % 32)).toNat)), (4, .int (nI ((wid (φ 0 (12 * φ 0 134 + j)) k).2 + 1))), (0, .ref (a 0)), (1, .int (nI (j))), (2, .int (nI (φ 0 (12 * (φ 0 (134)) + j)))), (5, .int (nI (k)))]) S.1 S.2.1 dX3_widest_84 rfl hl (by decide) rfl (fun ls hl => ?_)
              refine lv_iload S.1 S.2.1 dX3_widest_85 (lv_at hl 1 rfl) ?_
              refine kb_eq S (tgt := 94) dX3_widest_87 (by decide) (fun c_87 => ?_) (fun c_87 => ?_)
              · refine lv_iload S.1 S.2.1 dX3_widest_94 (lv_at hl 2 rfl) ?_
                refine k_top (y := nI ((wid (φ 0 (12 * φ 0 134 + j)) (k + 1)).2)) (congrArg nI (wid_f c_87)) ?_
                refine lv_istore (lv' := [(4, .int (nI ((wid (φ 0 (12 * φ 0 134 + j)) (k + 1)).2))), (3, .int (nI ((wid (φ 0 (12 * φ 0 134 + j)) (k + 1)).1))), (6, .int (nI ((φ 0 (12 * φ 0 134 + j)).testBit (k % 32)).toNat)), (0, .ref (a 0)), (1, .int (nI (j))), (2, .int (nI (φ 0 (12 * (φ 0 (134)) + j)))), (5, .int (nI (k)))]) S.1 S.2.1 dX3_widest_96 hl (by decide) rfl (fun ls hl => ?_)
                refine lv_iinc (v := nI (k + 1)) (lv' := [(5, .int (nI (k + 1))), (4, .int (nI ((wid (φ 0 (12 * φ 0 134 + j)) (k + 1)).2))), (3, .int (nI ((wid (φ 0 (12 * φ 0 134 + j)) (k + 1)).1))), (6, .int (nI ((φ 0 (12 * φ 0 134 + j)).testBit (k % 32)).toNat)), (0, .ref (a 0)), (1, .int (nI (j))), (2, .int (nI (φ 0 (12 * (φ 0 (134)) + j))))]) S.1 S.2.1 dX3_widest_98 hl (k := 6) rfl (nI_add _ _) (by decide) rfl (fun ls hl => ?_)
                refine lv_goto (tgt := 26) S.1 S.2.1 dX3_widest_101 (by decide) ?_
                exact ih26 (k + 1) _ _ _ ⟨hW, lv_sub hl [4, 5, 6, 2, 1, 0] rfl, (by omega), (fun q => absurd q c_34)⟩ (by show 64 - (k + 1) < 64 - k; omega)
              · refine lv_iconst (v := nI (0)) S.1 S.2.1 dX3_widest_90 rfl ?_
                refine k_top (y := nI ((wid (φ 0 (12 * φ 0 134 + j)) (k + 1)).2)) (congrArg nI (wid_e c_87)) ?_
                refine lv_goto (tgt := 96) S.1 S.2.1 dX3_widest_91 (by decide) ?_
                refine lv_istore (lv' := [(4, .int (nI ((wid (φ 0 (12 * φ 0 134 + j)) (k + 1)).2))), (3, .int (nI ((wid (φ 0 (12 * φ 0 134 + j)) (k + 1)).1))), (6, .int (nI ((φ 0 (12 * φ 0 134 + j)).testBit (k % 32)).toNat)), (0, .ref (a 0)), (1, .int (nI (j))), (2, .int (nI (φ 0 (12 * (φ 0 (134)) + j)))), (5, .int (nI (k)))]) S.1 S.2.1 dX3_widest_96 hl (by decide) rfl (fun ls hl => ?_)
                refine lv_iinc (v := nI (k + 1)) (lv' := [(5, .int (nI (k + 1))), (4, .int (nI ((wid (φ 0 (12 * φ 0 134 + j)) (k + 1)).2))), (3, .int (nI ((wid (φ 0 (12 * φ 0 134 + j)) (k + 1)).1))), (6, .int (nI ((φ 0 (12 * φ 0 134 + j)).testBit (k % 32)).toNat)), (0, .ref (a 0)), (1, .int (nI (j))), (2, .int (nI (φ 0 (12 * (φ 0 (134)) + j))))]) S.1 S.2.1 dX3_widest_98 hl (k := 6) rfl (nI_add _ _) (by decide) rfl (fun ls hl => ?_)
                refine lv_goto (tgt := 26) S.1 S.2.1 dX3_widest_101 (by decide) ?_
                exact ih26 (k + 1) _ _ _ ⟨hW, lv_sub hl [4, 5, 6, 2, 1, 0] rfl, (by omega), (fun q => absurd q c_34)⟩ (by show 64 - (k + 1) < 64 - k; omega)
      · refine lv_iconst (v := nI (1)) S.1 S.2.1 dX3_widest_53 rfl ?_
        refine k_top (y := nI (((φ 0 (12 * φ 0 134 + j)).testBit (k % 32)).toNat)) (congrArg nI c_50.symm) ?_
        refine lv_goto (tgt := 58) S.1 S.2.1 dX3_widest_54 (by decide) ?_
        refine lv_istore (lv' := [(6, .int (nI ((φ 0 (12 * φ 0 134 + j)).testBit (k % 32)).toNat)), (4, .int (nI ((wid (φ 0 (12 * φ 0 134 + j)) k).2 + 1))), (0, .ref (a 0)), (1, .int (nI (j))), (2, .int (nI (φ 0 (12 * (φ 0 (134)) + j)))), (3, .int (nI ((wid (φ 0 (12 * φ 0 134 + j)) k).1))), (5, .int (nI (k)))]) S.1 S.2.1 dX3_widest_58 hl (by decide) rfl (fun ls hl => ?_)
        refine lv_iload S.1 S.2.1 dX3_widest_60 (lv_at hl 0 rfl) ?_
        refine kb_eq S (tgt := 83) dX3_widest_62 (by decide) (fun c_62 => ?_) (fun c_62 => ?_)
        · refine lv_iload_n S.1 S.2.1 dX3_widest_83 rfl (lv_at hl 5 rfl) ?_
          refine k_top (y := nI ((wid (φ 0 (12 * φ 0 134 + j)) (k + 1)).1)) (congrArg nI (by first | exact wid_b c_62 | exact wid_c c_69 | exact wid_d c_75)) ?_
          refine lv_istore_n (lv' := [(3, .int (nI ((wid (φ 0 (12 * φ 0 134 + j)) (k + 1)).1))), (6, .int (nI ((φ 0 (12 * φ 0 134 + j)).testBit (k % 32)).toNat)), (4, .int (nI ((wid (φ 0 (12 * φ 0 134 + j)) k).2 + 1))), (0, .ref (a 0)), (1, .int (nI (j))), (2, .int (nI (φ 0 (12 * (φ 0 (134)) + j)))), (5, .int (nI (k)))]) S.1 S.2.1 dX3_widest_84 rfl hl (by decide) rfl (fun ls hl => ?_)
          refine lv_iload S.1 S.2.1 dX3_widest_85 (lv_at hl 1 rfl) ?_
          refine kb_eq S (tgt := 94) dX3_widest_87 (by decide) (fun c_87 => ?_) (fun c_87 => ?_)
          · refine lv_iload S.1 S.2.1 dX3_widest_94 (lv_at hl 2 rfl) ?_
            refine k_top (y := nI ((wid (φ 0 (12 * φ 0 134 + j)) (k + 1)).2)) (congrArg nI (wid_f c_87)) ?_
            refine lv_istore (lv' := [(4, .int (nI ((wid (φ 0 (12 * φ 0 134 + j)) (k + 1)).2))), (3, .int (nI ((wid (φ 0 (12 * φ 0 134 + j)) (k + 1)).1))), (6, .int (nI ((φ 0 (12 * φ 0 134 + j)).testBit (k % 32)).toNat)), (0, .ref (a 0)), (1, .int (nI (j))), (2, .int (nI (φ 0 (12 * (φ 0 (134)) + j)))), (5, .int (nI (k)))]) S.1 S.2.1 dX3_widest_96 hl (by decide) rfl (fun ls hl => ?_)
            refine lv_iinc (v := nI (k + 1)) (lv' := [(5, .int (nI (k + 1))), (4, .int (nI ((wid (φ 0 (12 * φ 0 134 + j)) (k + 1)).2))), (3, .int (nI ((wid (φ 0 (12 * φ 0 134 + j)) (k + 1)).1))), (6, .int (nI ((φ 0 (12 * φ 0 134 + j)).testBit (k % 32)).toNat)), (0, .ref (a 0)), (1, .int (nI (j))), (2, .int (nI (φ 0 (12 * (φ 0 (134)) + j))))]) S.1 S.2.1 dX3_widest_98 hl (k := 6) rfl (nI_add _ _) (by decide) rfl (fun ls hl => ?_)
            refine lv_goto (tgt := 26) S.1 S.2.1 dX3_widest_101 (by decide) ?_
            exact ih26 (k + 1) _ _ _ ⟨hW, lv_sub hl [4, 5, 6, 2, 1, 0] rfl, (by omega), (fun q => absurd q c_34)⟩ (by show 64 - (k + 1) < 64 - k; omega)
          · refine lv_iconst (v := nI (0)) S.1 S.2.1 dX3_widest_90 rfl ?_
            refine k_top (y := nI ((wid (φ 0 (12 * φ 0 134 + j)) (k + 1)).2)) (congrArg nI (wid_e c_87)) ?_
            refine lv_goto (tgt := 96) S.1 S.2.1 dX3_widest_91 (by decide) ?_
            refine lv_istore (lv' := [(4, .int (nI ((wid (φ 0 (12 * φ 0 134 + j)) (k + 1)).2))), (3, .int (nI ((wid (φ 0 (12 * φ 0 134 + j)) (k + 1)).1))), (6, .int (nI ((φ 0 (12 * φ 0 134 + j)).testBit (k % 32)).toNat)), (0, .ref (a 0)), (1, .int (nI (j))), (2, .int (nI (φ 0 (12 * (φ 0 (134)) + j)))), (5, .int (nI (k)))]) S.1 S.2.1 dX3_widest_96 hl (by decide) rfl (fun ls hl => ?_)
            refine lv_iinc (v := nI (k + 1)) (lv' := [(5, .int (nI (k + 1))), (4, .int (nI ((wid (φ 0 (12 * φ 0 134 + j)) (k + 1)).2))), (3, .int (nI ((wid (φ 0 (12 * φ 0 134 + j)) (k + 1)).1))), (6, .int (nI ((φ 0 (12 * φ 0 134 + j)).testBit (k % 32)).toNat)), (0, .ref (a 0)), (1, .int (nI (j))), (2, .int (nI (φ 0 (12 * (φ 0 (134)) + j))))]) S.1 S.2.1 dX3_widest_98 hl (k := 6) rfl (nI_add _ _) (by decide) rfl (fun ls hl => ?_)
            refine lv_goto (tgt := 26) S.1 S.2.1 dX3_widest_101 (by decide) ?_
            exact ih26 (k + 1) _ _ _ ⟨hW, lv_sub hl [4, 5, 6, 2, 1, 0] rfl, (by omega), (fun q => absurd q c_34)⟩ (by show 64 - (k + 1) < 64 - k; omega)
        · refine lv_iload S.1 S.2.1 dX3_widest_65 (lv_at hl 6 rfl) ?_
          refine lv_bipush (v := nI (32)) S.1 S.2.1 dX3_widest_67 rfl ?_
          refine kn_lt S (tgt := 83) dX3_widest_69 (by decide) (by omega) (by omega) (fun c_69 => ?_) (fun c_69 => ?_)
          · refine lv_iload_n S.1 S.2.1 dX3_widest_83 rfl (lv_at hl 5 rfl) ?_
            refine k_top (y := nI ((wid (φ 0 (12 * φ 0 134 + j)) (k + 1)).1)) (congrArg nI (by first | exact wid_b c_62 | exact wid_c c_69 | exact wid_d c_75)) ?_
            refine lv_istore_n (lv' := [(3, .int (nI ((wid (φ 0 (12 * φ 0 134 + j)) (k + 1)).1))), (6, .int (nI ((φ 0 (12 * φ 0 134 + j)).testBit (k % 32)).toNat)), (4, .int (nI ((wid (φ 0 (12 * φ 0 134 + j)) k).2 + 1))), (0, .ref (a 0)), (1, .int (nI (j))), (2, .int (nI (φ 0 (12 * (φ 0 (134)) + j)))), (5, .int (nI (k)))]) S.1 S.2.1 dX3_widest_84 rfl hl (by decide) rfl (fun ls hl => ?_)
            refine lv_iload S.1 S.2.1 dX3_widest_85 (lv_at hl 1 rfl) ?_
            refine kb_eq S (tgt := 94) dX3_widest_87 (by decide) (fun c_87 => ?_) (fun c_87 => ?_)
            · refine lv_iload S.1 S.2.1 dX3_widest_94 (lv_at hl 2 rfl) ?_
              refine k_top (y := nI ((wid (φ 0 (12 * φ 0 134 + j)) (k + 1)).2)) (congrArg nI (wid_f c_87)) ?_
              refine lv_istore (lv' := [(4, .int (nI ((wid (φ 0 (12 * φ 0 134 + j)) (k + 1)).2))), (3, .int (nI ((wid (φ 0 (12 * φ 0 134 + j)) (k + 1)).1))), (6, .int (nI ((φ 0 (12 * φ 0 134 + j)).testBit (k % 32)).toNat)), (0, .ref (a 0)), (1, .int (nI (j))), (2, .int (nI (φ 0 (12 * (φ 0 (134)) + j)))), (5, .int (nI (k)))]) S.1 S.2.1 dX3_widest_96 hl (by decide) rfl (fun ls hl => ?_)
              refine lv_iinc (v := nI (k + 1)) (lv' := [(5, .int (nI (k + 1))), (4, .int (nI ((wid (φ 0 (12 * φ 0 134 + j)) (k + 1)).2))), (3, .int (nI ((wid (φ 0 (12 * φ 0 134 + j)) (k + 1)).1))), (6, .int (nI ((φ 0 (12 * φ 0 134 + j)).testBit (k % 32)).toNat)), (0, .ref (a 0)), (1, .int (nI (j))), (2, .int (nI (φ 0 (12 * (φ 0 (134)) + j))))]) S.1 S.2.1 dX3_widest_98 hl (k := 6) rfl (nI_add _ _) (by decide) rfl (fun ls hl => ?_)
              refine lv_goto (tgt := 26) S.1 S.2.1 dX3_widest_101 (by decide) ?_
              exact ih26 (k + 1) _ _ _ ⟨hW, lv_sub hl [4, 5, 6, 2, 1, 0] rfl, (by omega), (fun q => absurd q c_34)⟩ (by show 64 - (k + 1) < 64 - k; omega)
            · refine lv_iconst (v := nI (0)) S.1 S.2.1 dX3_widest_90 rfl ?_
              refine k_top (y := nI ((wid (φ 0 (12 * φ 0 134 + j)) (k + 1)).2)) (congrArg nI (wid_e c_87)) ?_
              refine lv_goto (tgt := 96) S.1 S.2.1 dX3_widest_91 (by decide) ?_
              refine lv_istore (lv' := [(4, .int (nI ((wid (φ 0 (12 * φ 0 134 + j)) (k + 1)).2))), (3, .int (nI ((wid (φ 0 (12 * φ 0 134 + j)) (k + 1)).1))), (6, .int (nI ((φ 0 (12 * φ 0 134 + j)).testBit (k % 32)).toNat)), (0, .ref (a 0)), (1, .int (nI (j))), (2, .int (nI (φ 0 (12 * (φ 0 (134)) + j)))), (5, .int (nI (k)))]) S.1 S.2.1 dX3_widest_96 hl (by decide) rfl (fun ls hl => ?_)
              refine lv_iinc (v := nI (k + 1)) (lv' := [(5, .int (nI (k + 1))), (4, .int (nI ((wid (φ 0 (12 * φ 0 134 + j)) (k + 1)).2))), (3, .int (nI ((wid (φ 0 (12 * φ 0 134 + j)) (k + 1)).1))), (6, .int (nI ((φ 0 (12 * φ 0 134 + j)).testBit (k % 32)).toNat)), (0, .ref (a 0)), (1, .int (nI (j))), (2, .int (nI (φ 0 (12 * (φ 0 (134)) + j))))]) S.1 S.2.1 dX3_widest_98 hl (k := 6) rfl (nI_add _ _) (by decide) rfl (fun ls hl => ?_)
              refine lv_goto (tgt := 26) S.1 S.2.1 dX3_widest_101 (by decide) ?_
              exact ih26 (k + 1) _ _ _ ⟨hW, lv_sub hl [4, 5, 6, 2, 1, 0] rfl, (by omega), (fun q => absurd q c_34)⟩ (by show 64 - (k + 1) < 64 - k; omega)
          · refine lv_iload S.1 S.2.1 dX3_widest_72 (lv_at hl 1 rfl) ?_
            refine lv_iload_n S.1 S.2.1 dX3_widest_74 rfl (lv_at hl 5 rfl) ?_
            refine kn_le S (tgt := 83) dX3_widest_75 (by decide) (by omega) (by omega) (fun c_75 => ?_) (fun c_75 => ?_)
            · refine lv_iload_n S.1 S.2.1 dX3_widest_83 rfl (lv_at hl 5 rfl) ?_
              refine k_top (y := nI ((wid (φ 0 (12 * φ 0 134 + j)) (k + 1)).1)) (congrArg nI (by first | exact wid_b c_62 | exact wid_c c_69 | exact wid_d c_75)) ?_
              refine lv_istore_n (lv' := [(3, .int (nI ((wid (φ 0 (12 * φ 0 134 + j)) (k + 1)).1))), (6, .int (nI ((φ 0 (12 * φ 0 134 + j)).testBit (k % 32)).toNat)), (4, .int (nI ((wid (φ 0 (12 * φ 0 134 + j)) k).2 + 1))), (0, .ref (a 0)), (1, .int (nI (j))), (2, .int (nI (φ 0 (12 * (φ 0 (134)) + j)))), (5, .int (nI (k)))]) S.1 S.2.1 dX3_widest_84 rfl hl (by decide) rfl (fun ls hl => ?_)
              refine lv_iload S.1 S.2.1 dX3_widest_85 (lv_at hl 1 rfl) ?_
              refine kb_eq S (tgt := 94) dX3_widest_87 (by decide) (fun c_87 => ?_) (fun c_87 => ?_)
              · refine lv_iload S.1 S.2.1 dX3_widest_94 (lv_at hl 2 rfl) ?_
                refine k_top (y := nI ((wid (φ 0 (12 * φ 0 134 + j)) (k + 1)).2)) (congrArg nI (wid_f c_87)) ?_
                refine lv_istore (lv' := [(4, .int (nI ((wid (φ 0 (12 * φ 0 134 + j)) (k + 1)).2))), (3, .int (nI ((wid (φ 0 (12 * φ 0 134 + j)) (k + 1)).1))), (6, .int (nI ((φ 0 (12 * φ 0 134 + j)).testBit (k % 32)).toNat)), (0, .ref (a 0)), (1, .int (nI (j))), (2, .int (nI (φ 0 (12 * (φ 0 (134)) + j)))), (5, .int (nI (k)))]) S.1 S.2.1 dX3_widest_96 hl (by decide) rfl (fun ls hl => ?_)
                refine lv_iinc (v := nI (k + 1)) (lv' := [(5, .int (nI (k + 1))), (4, .int (nI ((wid (φ 0 (12 * φ 0 134 + j)) (k + 1)).2))), (3, .int (nI ((wid (φ 0 (12 * φ 0 134 + j)) (k + 1)).1))), (6, .int (nI ((φ 0 (12 * φ 0 134 + j)).testBit (k % 32)).toNat)), (0, .ref (a 0)), (1, .int (nI (j))), (2, .int (nI (φ 0 (12 * (φ 0 (134)) + j))))]) S.1 S.2.1 dX3_widest_98 hl (k := 6) rfl (nI_add _ _) (by decide) rfl (fun ls hl => ?_)
                refine lv_goto (tgt := 26) S.1 S.2.1 dX3_widest_101 (by decide) ?_
                exact ih26 (k + 1) _ _ _ ⟨hW, lv_sub hl [4, 5, 6, 2, 1, 0] rfl, (by omega), (fun q => absurd q c_34)⟩ (by show 64 - (k + 1) < 64 - k; omega)
              · refine lv_iconst (v := nI (0)) S.1 S.2.1 dX3_widest_90 rfl ?_
                refine k_top (y := nI ((wid (φ 0 (12 * φ 0 134 + j)) (k + 1)).2)) (congrArg nI (wid_e c_87)) ?_
                refine lv_goto (tgt := 96) S.1 S.2.1 dX3_widest_91 (by decide) ?_
                refine lv_istore (lv' := [(4, .int (nI ((wid (φ 0 (12 * φ 0 134 + j)) (k + 1)).2))), (3, .int (nI ((wid (φ 0 (12 * φ 0 134 + j)) (k + 1)).1))), (6, .int (nI ((φ 0 (12 * φ 0 134 + j)).testBit (k % 32)).toNat)), (0, .ref (a 0)), (1, .int (nI (j))), (2, .int (nI (φ 0 (12 * (φ 0 (134)) + j)))), (5, .int (nI (k)))]) S.1 S.2.1 dX3_widest_96 hl (by decide) rfl (fun ls hl => ?_)
                refine lv_iinc (v := nI (k + 1)) (lv' := [(5, .int (nI (k + 1))), (4, .int (nI ((wid (φ 0 (12 * φ 0 134 + j)) (k + 1)).2))), (3, .int (nI ((wid (φ 0 (12 * φ 0 134 + j)) (k + 1)).1))), (6, .int (nI ((φ 0 (12 * φ 0 134 + j)).testBit (k % 32)).toNat)), (0, .ref (a 0)), (1, .int (nI (j))), (2, .int (nI (φ 0 (12 * (φ 0 (134)) + j))))]) S.1 S.2.1 dX3_widest_98 hl (k := 6) rfl (nI_add _ _) (by decide) rfl (fun ls hl => ?_)
                refine lv_goto (tgt := 26) S.1 S.2.1 dX3_widest_101 (by decide) ?_
                exact ih26 (k + 1) _ _ _ ⟨hW, lv_sub hl [4, 5, 6, 2, 1, 0] rfl, (by omega), (fun q => absurd q c_34)⟩ (by show 64 - (k + 1) < 64 - k; omega)
            · refine lv_iload S.1 S.2.1 dX3_widest_78 (lv_at hl 1 rfl) ?_
              refine k_top (y := nI ((wid (φ 0 (12 * φ 0 134 + j)) (k + 1)).1)) (congrArg nI (wid_a c_62 c_69 c_75)) ?_
              refine lv_goto (tgt := 84) S.1 S.2.1 dX3_widest_80 (by decide) ?_
              refine lv_istore_n (lv' := [(3, .int (nI ((wid (φ 0 (12 * φ 0 134 + j)) (k + 1)).1))), (6, .int (nI ((φ 0 (12 * φ 0 134 + j)).testBit (k % 32)).toNat)), (4, .int (nI ((wid (φ 0 (12 * φ 0 134 + j)) k).2 + 1))), (0, .ref (a 0)), (1, .int (nI (j))), (2, .int (nI (φ 0 (12 * (φ 0 (134)) + j)))), (5, .int (nI (k)))]) S.1 S.2.1 dX3_widest_84 rfl hl (by decide) rfl (fun ls hl => ?_)
              refine lv_iload S.1 S.2.1 dX3_widest_85 (lv_at hl 1 rfl) ?_
              refine kb_eq S (tgt := 94) dX3_widest_87 (by decide) (fun c_87 => ?_) (fun c_87 => ?_)
              · refine lv_iload S.1 S.2.1 dX3_widest_94 (lv_at hl 2 rfl) ?_
                refine k_top (y := nI ((wid (φ 0 (12 * φ 0 134 + j)) (k + 1)).2)) (congrArg nI (wid_f c_87)) ?_
                refine lv_istore (lv' := [(4, .int (nI ((wid (φ 0 (12 * φ 0 134 + j)) (k + 1)).2))), (3, .int (nI ((wid (φ 0 (12 * φ 0 134 + j)) (k + 1)).1))), (6, .int (nI ((φ 0 (12 * φ 0 134 + j)).testBit (k % 32)).toNat)), (0, .ref (a 0)), (1, .int (nI (j))), (2, .int (nI (φ 0 (12 * (φ 0 (134)) + j)))), (5, .int (nI (k)))]) S.1 S.2.1 dX3_widest_96 hl (by decide) rfl (fun ls hl => ?_)
                refine lv_iinc (v := nI (k + 1)) (lv' := [(5, .int (nI (k + 1))), (4, .int (nI ((wid (φ 0 (12 * φ 0 134 + j)) (k + 1)).2))), (3, .int (nI ((wid (φ 0 (12 * φ 0 134 + j)) (k + 1)).1))), (6, .int (nI ((φ 0 (12 * φ 0 134 + j)).testBit (k % 32)).toNat)), (0, .ref (a 0)), (1, .int (nI (j))), (2, .int (nI (φ 0 (12 * (φ 0 (134)) + j))))]) S.1 S.2.1 dX3_widest_98 hl (k := 6) rfl (nI_add _ _) (by decide) rfl (fun ls hl => ?_)
                refine lv_goto (tgt := 26) S.1 S.2.1 dX3_widest_101 (by decide) ?_
                exact ih26 (k + 1) _ _ _ ⟨hW, lv_sub hl [4, 5, 6, 2, 1, 0] rfl, (by omega), (fun q => absurd q c_34)⟩ (by show 64 - (k + 1) < 64 - k; omega)
              · refine lv_iconst (v := nI (0)) S.1 S.2.1 dX3_widest_90 rfl ?_
                refine k_top (y := nI ((wid (φ 0 (12 * φ 0 134 + j)) (k + 1)).2)) (congrArg nI (wid_e c_87)) ?_
                refine lv_goto (tgt := 96) S.1 S.2.1 dX3_widest_91 (by decide) ?_
                refine lv_istore (lv' := [(4, .int (nI ((wid (φ 0 (12 * φ 0 134 + j)) (k + 1)).2))), (3, .int (nI ((wid (φ 0 (12 * φ 0 134 + j)) (k + 1)).1))), (6, .int (nI ((φ 0 (12 * φ 0 134 + j)).testBit (k % 32)).toNat)), (0, .ref (a 0)), (1, .int (nI (j))), (2, .int (nI (φ 0 (12 * (φ 0 (134)) + j)))), (5, .int (nI (k)))]) S.1 S.2.1 dX3_widest_96 hl (by decide) rfl (fun ls hl => ?_)
                refine lv_iinc (v := nI (k + 1)) (lv' := [(5, .int (nI (k + 1))), (4, .int (nI ((wid (φ 0 (12 * φ 0 134 + j)) (k + 1)).2))), (3, .int (nI ((wid (φ 0 (12 * φ 0 134 + j)) (k + 1)).1))), (6, .int (nI ((φ 0 (12 * φ 0 134 + j)).testBit (k % 32)).toNat)), (0, .ref (a 0)), (1, .int (nI (j))), (2, .int (nI (φ 0 (12 * (φ 0 (134)) + j))))]) S.1 S.2.1 dX3_widest_98 hl (k := 6) rfl (nI_add _ _) (by decide) rfl (fun ls hl => ?_)
                refine lv_goto (tgt := 26) S.1 S.2.1 dX3_widest_101 (by decide) ?_
                exact ih26 (k + 1) _ _ _ ⟨hW, lv_sub hl [4, 5, 6, 2, 1, 0] rfl, (by omega), (fun q => absurd q c_34)⟩ (by show 64 - (k + 1) < 64 - k; omega)
