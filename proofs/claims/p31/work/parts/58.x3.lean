abbrev rmX2_copy : Room := { frames := 3, cells := 0, slots := 0, locals := 81 }
theorem pdX2_copy : kPd yX2_copy 4 := by decide +kernel
set_option maxHeartbeats 400000 in
set_option maxRecDepth 100000 in
theorem mX2_copy_k (l : Launch) (D : va_G) (c : Nat → ClassId) (a : Nat → Nat) (b : Nat → Nat → Nat) (θ : Nat → Nat → Nat → Nat) (ρ κ : Nat → Nat → Nat) (sz : Nat) (u : Nat) (v : Nat) (w : Nat) (h : Nat) (T : Nat) (hu : u < 3) (hv : v < 3) (huv : ¬ u = v) (hw1 : 1 ≤ w) (hw2 : w ≤ 63) (hh : h ≤ 11) (ok : okS (θ 0) T) (hold : κ 2 0 < 6) (hcnt : κ 3 0 ≤ 6) : MI2 l yX2_copy wsX2_copy rmX2_copy D c sz (wP c a b θ ρ κ) [.ref (a 0), .int (nI (u)), .int (nI (v)), .int (nI w - nI 32), .int (nI (h))] (nI (poS (pu (θ 0) 0 (rpC (θ 0) u v w (fun x => x * 2 ^ h) 32)) v 32)) (wP c a b (pst (svT θ ((κ 2 0 + κ 3 0) % 6)) 0 (pu (θ 0) 0 (rpC (θ 0) u v w (fun x => x * 2 ^ h) 32))) ρ (svK κ)) := by
  refine MI2.of (cc := cX2_copy) (maxL := 5) (ty := .int) (by decide) rfl (Nat.le_of_ble_eq_true rfl) rfl ?_
  intro P e s m below meth cd A Q ls hsz S hK hN hW hA hl hret
  have hl : lv_has ls 5 [(0, .ref (a 0)), (1, .int (nI (u))), (2, .int (nI (v))), (3, .int (nI w - nI 32)), (4, .int (nI (h)))] := hl
  have hinX2 : ∀ w ∈ u_ws RX2 TX2 10, w ∈ wsX2_copy := by decide +kernel
  have h1 : blw (nI (u)) (nI (3)) = true := blw_t hu (by decide)
  have h2 : blw (nI (v)) (nI (3)) = true := blw_t hv (by decide)
  have hix : inb (nI w - nI 32) (nI (4294967265)) (nI (31)) = true := cp_ok32 hw1 hw2
  have hiy : inb (nI (h)) (nI (4294967285)) (nI (11)) = true := cp_h12 h (by omega)
  refine lv_iload_n S.1 S.2.1 dX2_copy_0 rfl (lv_at hl 1 rfl) ?_
  refine lv_iconst (v := nI (3)) S.1 S.2.1 dX2_copy_1 rfl ?_
  refine k_SI (rest := []) S hK hl.1 hW (KFr.nil hW hA) (mX2_isBelow l D c  _ (nI (u)) (nI (3))) gX2_copy_X2_isBelow rfl pdX2_isBelow ⟨⟨rfl, rfl⟩, Nat.le_of_ble_eq_true rfl, Nat.le_of_ble_eq_true rfl⟩ rfl (Nat.le_of_ble_eq_true rfl) dX2_copy_2 ⟨Nat.le_of_ble_eq_true rfl, Nat.le_of_ble_eq_true rfl⟩ (fun H locs hW => ?_)
  have hW : kw D A s.heap (wP c a b θ ρ κ) H locs := hW
  refine kb_eq S (tgt := 16) dX2_copy_5 (by decide) (fun c_5 => ?_) (fun c_5 => ?_)
  · exact absurd (h1.symm.trans c_5) (by decide)
  · refine lv_iload_n S.1 S.2.1 dX2_copy_8 rfl (lv_at hl 2 rfl) ?_
    refine lv_iconst (v := nI (3)) S.1 S.2.1 dX2_copy_9 rfl ?_
    refine k_SI (rest := []) S hK hl.1 hW (KFr.nil hW hA) (mX2_isBelow l D c  _ (nI (v)) (nI (3))) gX2_copy_X2_isBelow rfl pdX2_isBelow ⟨⟨rfl, rfl⟩, Nat.le_of_ble_eq_true rfl, Nat.le_of_ble_eq_true rfl⟩ rfl (Nat.le_of_ble_eq_true rfl) dX2_copy_10 ⟨Nat.le_of_ble_eq_true rfl, Nat.le_of_ble_eq_true rfl⟩ (fun H locs hW => ?_)
    have hW : kw D A s.heap (wP c a b θ ρ κ) H locs := hW
    refine kb_ne S (tgt := 26) dX2_copy_13 (by decide) (fun c_13 => ?_) (fun c_13 => ?_)
    · refine lv_iload_n S.1 S.2.1 dX2_copy_26 rfl (lv_at hl 1 rfl) ?_
      refine lv_iload_n S.1 S.2.1 dX2_copy_27 rfl (lv_at hl 2 rfl) ?_
      refine kn_eq S (tgt := 54) dX2_copy_28 (by decide) (by omega) (by omega) (fun c_28 => ?_) (fun c_28 => ?_)
      · exact absurd c_28 huv
      · refine lv_iload_n S.1 S.2.1 dX2_copy_31 rfl (lv_at hl 3 rfl) ?_
        refine lv_bipush (v := nI (4294967265)) S.1 S.2.1 dX2_copy_32 rfl ?_
        refine lv_bipush (v := nI (31)) S.1 S.2.1 dX2_copy_34 rfl ?_
        refine k_SI (rest := []) S hK hl.1 hW (KFr.nil hW hA) (mX2_isWithin l D c  _ (nI w - nI 32) (nI (4294967265)) (nI (31))) gX2_copy_X2_isWithin rfl pdX2_isWithin ⟨⟨rfl, rfl⟩, Nat.le_of_ble_eq_true rfl, Nat.le_of_ble_eq_true rfl⟩ rfl (Nat.le_of_ble_eq_true rfl) dX2_copy_36 ⟨Nat.le_of_ble_eq_true rfl, Nat.le_of_ble_eq_true rfl⟩ (fun H locs hW => ?_)
        have hW : kw D A s.heap (wP c a b θ ρ κ) H locs := hW
        refine kb_eq S (tgt := 54) dX2_copy_39 (by decide) (fun c_39 => ?_) (fun c_39 => ?_)
        · exact absurd (hix.symm.trans c_39) (by decide)
        · refine lv_iload S.1 S.2.1 dX2_copy_42 (lv_at hl 4 rfl) ?_
          refine lv_bipush (v := nI (4294967285)) S.1 S.2.1 dX2_copy_44 rfl ?_
          refine lv_bipush (v := nI (11)) S.1 S.2.1 dX2_copy_46 rfl ?_
          refine k_SI (rest := []) S hK hl.1 hW (KFr.nil hW hA) (mX2_isWithin l D c  _ (nI (h)) (nI (4294967285)) (nI (11))) gX2_copy_X2_isWithin rfl pdX2_isWithin ⟨⟨rfl, rfl⟩, Nat.le_of_ble_eq_true rfl, Nat.le_of_ble_eq_true rfl⟩ rfl (Nat.le_of_ble_eq_true rfl) dX2_copy_48 ⟨Nat.le_of_ble_eq_true rfl, Nat.le_of_ble_eq_true rfl⟩ (fun H locs hW => ?_)
          have hW : kw D A s.heap (wP c a b θ ρ κ) H locs := hW
          refine kb_ne S (tgt := 64) dX2_copy_51 (by decide) (fun c_51 => ?_) (fun c_51 => ?_)
          · refine lv_aload_n S.1 S.2.1 dX2_copy_64 rfl (lv_at hl 0 rfl) ?_
            refine k_VV2 (rest := []) S hK hl.1 hW (KFr.all hW hA) hN (mX2_saveState l D c a b θ ρ κ _ (by first | omega | exact hold | assumption | (show (κ 2 0) < 6; omega) | rfl) (by first | omega | exact hcnt | assumption | (show (κ 3 0) ≤ 6; omega) | rfl)) gX2_copy_X2_saveState rfl pdX2_saveState ⟨⟨rfl, rfl⟩, Nat.le_of_ble_eq_true rfl, Nat.le_of_ble_eq_true rfl⟩ 0 2 rfl rfl rfl rfl (Nat.le_of_ble_eq_true rfl) dX2_copy_65 ⟨Nat.le_of_ble_eq_true rfl, Nat.le_of_ble_eq_true rfl⟩ (fun H locs hW => ?_)
            have hW : kw D A s.heap (wP c a b (svT θ (((κ 2 0) + (κ 3 0)) % 6)) ρ (svK κ)) H locs := hW
            refine lv_aload_n S.1 S.2.1 dX2_copy_68 rfl (lv_at hl 0 rfl) ?_
            refine kx_get S hK hW hinX2 0 2 rfl rfl 0 (by decide) (List.mem_of_getElem? (i := 5) rfl) (v := .ref (b 0 0)) rfl dX2_copy_69 ?_
            refine lv_iload_n S.1 S.2.1 dX2_copy_72 rfl (lv_at hl 1 rfl) ?_
            refine lv_iload_n S.1 S.2.1 dX2_copy_73 rfl (lv_at hl 2 rfl) ?_
            refine lv_iload_n S.1 S.2.1 dX2_copy_74 rfl (lv_at hl 3 rfl) ?_
            refine lv_iload S.1 S.2.1 dX2_copy_75 (lv_at hl 4 rfl) ?_
            refine k_VV (rest := []) S hK hl.1 hW (fS0 hW hA _) (mX1_replaceTune_k l D c (b 0) ((θ 0)) _ u v w h T (by first | omega | exact hu | assumption | (show u < 3; omega) | rfl) (by first | omega | exact hv | assumption | (show v < 3; omega) | rfl) (by first | omega | exact hw | assumption | (show w < 64; omega) | rfl) (by first | omega | exact hh | assumption | (show h ≤ 11; omega) | rfl) ok) gX2_copy_X1_replaceTune rfl pdX1_replaceTune ⟨⟨rfl, rfl⟩, Nat.le_of_ble_eq_true rfl, Nat.le_of_ble_eq_true rfl⟩ 0 1 rfl rfl rfl rfl (Nat.le_of_ble_eq_true rfl) dX2_copy_77 ⟨Nat.le_of_ble_eq_true rfl, Nat.le_of_ble_eq_true rfl⟩ (fun H locs hW => ?_)
            have hW : kw D A s.heap (wP c a b (pst (svT θ (((κ 2 0) + (κ 3 0)) % 6)) 0 (pu (θ 0) 0 (rpC (θ 0) u v w (fun x => x * 2 ^ h) 32))) ρ (svK κ)) H locs := hW
            refine lv_aload_n S.1 S.2.1 dX2_copy_80 rfl (lv_at hl 0 rfl) ?_
            refine kx_get S hK hW hinX2 0 2 rfl rfl 0 (by decide) (List.mem_of_getElem? (i := 5) rfl) (v := .ref (b 0 0)) rfl dX2_copy_81 ?_
            refine lv_iload_n S.1 S.2.1 dX2_copy_84 rfl (lv_at hl 2 rfl) ?_
            refine k_VI (rest := []) S hK hl.1 hW (fS0 hW hA _) (mX1_pinsOf l D c (b 0) ((pu (θ 0) 0 (rpC (θ 0) u v w (fun x => x * 2 ^ h) 32))) _ v T (by first | omega | exact ht | assumption | (show v < 3; omega) | rfl) (ok.p0 (rpC_ok ok.1 32))) gX2_copy_X1_pinsOf rfl pdX1_pinsOf ⟨⟨rfl, rfl⟩, Nat.le_of_ble_eq_true rfl, Nat.le_of_ble_eq_true rfl⟩ 0 1 rfl rfl rfl rfl (Nat.le_of_ble_eq_true rfl) dX2_copy_85 ⟨Nat.le_of_ble_eq_true rfl, Nat.le_of_ble_eq_true rfl⟩ (fun H locs hW => ?_)
            have hW : kw D A s.heap (wP c a b (pst (svT θ (((κ 2 0) + (κ 3 0)) % 6)) 0 (pu (θ 0) 0 (rpC (θ 0) u v w (fun x => x * 2 ^ h) 32))) ρ (svK κ)) H locs := hW
            refine k_top (y := nI (poS (pu (θ 0) 0 (rpC (θ 0) u v w (fun x => x * 2 ^ h) 32)) v 32)) rfl ?_
            exact hret 88 _ _ _ _ _ dX2_copy_88 hW (rfl) (rfl)
          · exact absurd (hiy.symm.trans c_51) (by decide)
    · exact absurd (h2.symm.trans c_13) (by decide)
set_option maxHeartbeats 400000 in
set_option maxRecDepth 100000 in
theorem mX2_copy_m (l : Launch) (D : va_G) (c : Nat → ClassId) (a : Nat → Nat) (b : Nat → Nat → Nat) (θ : Nat → Nat → Nat → Nat) (ρ κ : Nat → Nat → Nat) (sz : Nat) (u : Nat) (v : Nat) (w : Nat) (q : Nat) (T : Nat) (hu : u < 3) (hv : v < 3) (huv : ¬ u = v) (hw1 : 1 ≤ w) (hw2 : w ≤ 63) (hq1 : 1 ≤ q) (hq2 : q < 12) (ok : okS (θ 0) T) (hold : κ 2 0 < 6) (hcnt : κ 3 0 ≤ 6) : MI2 l yX2_copy wsX2_copy rmX2_copy D c sz (wP c a b θ ρ κ) [.ref (a 0), .int (nI (u)), .int (nI (v)), .int (nI w - nI 32), .int (nI q - nI 12)] (nI (poS (pu (θ 0) 0 (rpC (θ 0) u v w (fun x => x / 2 ^ (12 - q)) 32)) v 32)) (wP c a b (pst (svT θ ((κ 2 0 + κ 3 0) % 6)) 0 (pu (θ 0) 0 (rpC (θ 0) u v w (fun x => x / 2 ^ (12 - q)) 32))) ρ (svK κ)) := by
  refine MI2.of (cc := cX2_copy) (maxL := 5) (ty := .int) (by decide) rfl (Nat.le_of_ble_eq_true rfl) rfl ?_
  intro P e s m below meth cd A Q ls hsz S hK hN hW hA hl hret
  have hl : lv_has ls 5 [(0, .ref (a 0)), (1, .int (nI (u))), (2, .int (nI (v))), (3, .int (nI w - nI 32)), (4, .int (nI q - nI 12))] := hl
  have hinX2 : ∀ w ∈ u_ws RX2 TX2 10, w ∈ wsX2_copy := by decide +kernel
  have h1 : blw (nI (u)) (nI (3)) = true := blw_t hu (by decide)
  have h2 : blw (nI (v)) (nI (3)) = true := blw_t hv (by decide)
  have hix : inb (nI w - nI 32) (nI (4294967265)) (nI (31)) = true := cp_ok32 hw1 hw2
  have hiy : inb (nI q - nI 12) (nI (4294967285)) (nI (11)) = true := cp_ok12 hq1 (by omega)
  refine lv_iload_n S.1 S.2.1 dX2_copy_0 rfl (lv_at hl 1 rfl) ?_
  refine lv_iconst (v := nI (3)) S.1 S.2.1 dX2_copy_1 rfl ?_
  refine k_SI (rest := []) S hK hl.1 hW (KFr.nil hW hA) (mX2_isBelow l D c  _ (nI (u)) (nI (3))) gX2_copy_X2_isBelow rfl pdX2_isBelow ⟨⟨rfl, rfl⟩, Nat.le_of_ble_eq_true rfl, Nat.le_of_ble_eq_true rfl⟩ rfl (Nat.le_of_ble_eq_true rfl) dX2_copy_2 ⟨Nat.le_of_ble_eq_true rfl, Nat.le_of_ble_eq_true rfl⟩ (fun H locs hW => ?_)
  have hW : kw D A s.heap (wP c a b θ ρ κ) H locs := hW
  refine kb_eq S (tgt := 16) dX2_copy_5 (by decide) (fun c_5 => ?_) (fun c_5 => ?_)
  · exact absurd (h1.symm.trans c_5) (by decide)
  · refine lv_iload_n S.1 S.2.1 dX2_copy_8 rfl (lv_at hl 2 rfl) ?_
    refine lv_iconst (v := nI (3)) S.1 S.2.1 dX2_copy_9 rfl ?_
    refine k_SI (rest := []) S hK hl.1 hW (KFr.nil hW hA) (mX2_isBelow l D c  _ (nI (v)) (nI (3))) gX2_copy_X2_isBelow rfl pdX2_isBelow ⟨⟨rfl, rfl⟩, Nat.le_of_ble_eq_true rfl, Nat.le_of_ble_eq_true rfl⟩ rfl (Nat.le_of_ble_eq_true rfl) dX2_copy_10 ⟨Nat.le_of_ble_eq_true rfl, Nat.le_of_ble_eq_true rfl⟩ (fun H locs hW => ?_)
    have hW : kw D A s.heap (wP c a b θ ρ κ) H locs := hW
    refine kb_ne S (tgt := 26) dX2_copy_13 (by decide) (fun c_13 => ?_) (fun c_13 => ?_)
    · refine lv_iload_n S.1 S.2.1 dX2_copy_26 rfl (lv_at hl 1 rfl) ?_
      refine lv_iload_n S.1 S.2.1 dX2_copy_27 rfl (lv_at hl 2 rfl) ?_
      refine kn_eq S (tgt := 54) dX2_copy_28 (by decide) (by omega) (by omega) (fun c_28 => ?_) (fun c_28 => ?_)
      · exact absurd c_28 huv
      · refine lv_iload_n S.1 S.2.1 dX2_copy_31 rfl (lv_at hl 3 rfl) ?_
        refine lv_bipush (v := nI (4294967265)) S.1 S.2.1 dX2_copy_32 rfl ?_
        refine lv_bipush (v := nI (31)) S.1 S.2.1 dX2_copy_34 rfl ?_
        refine k_SI (rest := []) S hK hl.1 hW (KFr.nil hW hA) (mX2_isWithin l D c  _ (nI w - nI 32) (nI (4294967265)) (nI (31))) gX2_copy_X2_isWithin rfl pdX2_isWithin ⟨⟨rfl, rfl⟩, Nat.le_of_ble_eq_true rfl, Nat.le_of_ble_eq_true rfl⟩ rfl (Nat.le_of_ble_eq_true rfl) dX2_copy_36 ⟨Nat.le_of_ble_eq_true rfl, Nat.le_of_ble_eq_true rfl⟩ (fun H locs hW => ?_)
        have hW : kw D A s.heap (wP c a b θ ρ κ) H locs := hW
        refine kb_eq S (tgt := 54) dX2_copy_39 (by decide) (fun c_39 => ?_) (fun c_39 => ?_)
        · exact absurd (hix.symm.trans c_39) (by decide)
        · refine lv_iload S.1 S.2.1 dX2_copy_42 (lv_at hl 4 rfl) ?_
          refine lv_bipush (v := nI (4294967285)) S.1 S.2.1 dX2_copy_44 rfl ?_
          refine lv_bipush (v := nI (11)) S.1 S.2.1 dX2_copy_46 rfl ?_
          refine k_SI (rest := []) S hK hl.1 hW (KFr.nil hW hA) (mX2_isWithin l D c  _ (nI q - nI 12) (nI (4294967285)) (nI (11))) gX2_copy_X2_isWithin rfl pdX2_isWithin ⟨⟨rfl, rfl⟩, Nat.le_of_ble_eq_true rfl, Nat.le_of_ble_eq_true rfl⟩ rfl (Nat.le_of_ble_eq_true rfl) dX2_copy_48 ⟨Nat.le_of_ble_eq_true rfl, Nat.le_of_ble_eq_true rfl⟩ (fun H locs hW => ?_)
          have hW : kw D A s.heap (wP c a b θ ρ κ) H locs := hW
          refine kb_ne S (tgt := 64) dX2_copy_51 (by decide) (fun c_51 => ?_) (fun c_51 => ?_)
          · refine lv_aload_n S.1 S.2.1 dX2_copy_64 rfl (lv_at hl 0 rfl) ?_
            refine k_VV2 (rest := []) S hK hl.1 hW (KFr.all hW hA) hN (mX2_saveState l D c a b θ ρ κ _ (by first | omega | exact hold | assumption | (show (κ 2 0) < 6; omega) | rfl) (by first | omega | exact hcnt | assumption | (show (κ 3 0) ≤ 6; omega) | rfl)) gX2_copy_X2_saveState rfl pdX2_saveState ⟨⟨rfl, rfl⟩, Nat.le_of_ble_eq_true rfl, Nat.le_of_ble_eq_true rfl⟩ 0 2 rfl rfl rfl rfl (Nat.le_of_ble_eq_true rfl) dX2_copy_65 ⟨Nat.le_of_ble_eq_true rfl, Nat.le_of_ble_eq_true rfl⟩ (fun H locs hW => ?_)
            have hW : kw D A s.heap (wP c a b (svT θ (((κ 2 0) + (κ 3 0)) % 6)) ρ (svK κ)) H locs := hW
            refine lv_aload_n S.1 S.2.1 dX2_copy_68 rfl (lv_at hl 0 rfl) ?_
            refine kx_get S hK hW hinX2 0 2 rfl rfl 0 (by decide) (List.mem_of_getElem? (i := 5) rfl) (v := .ref (b 0 0)) rfl dX2_copy_69 ?_
            refine lv_iload_n S.1 S.2.1 dX2_copy_72 rfl (lv_at hl 1 rfl) ?_
            refine lv_iload_n S.1 S.2.1 dX2_copy_73 rfl (lv_at hl 2 rfl) ?_
            refine lv_iload_n S.1 S.2.1 dX2_copy_74 rfl (lv_at hl 3 rfl) ?_
            refine lv_iload S.1 S.2.1 dX2_copy_75 (lv_at hl 4 rfl) ?_
            refine k_VV (rest := []) S hK hl.1 hW (fS0 hW hA _) (mX1_replaceTune_m l D c (b 0) ((θ 0)) _ u v w q T (by first | omega | exact hu | assumption | (show u < 3; omega) | rfl) (by first | omega | exact hv | assumption | (show v < 3; omega) | rfl) (by first | omega | exact hw | assumption | (show w < 64; omega) | rfl) (by first | omega | exact hq | assumption | (show q < 12; omega) | rfl) ok) gX2_copy_X1_replaceTune rfl pdX1_replaceTune ⟨⟨rfl, rfl⟩, Nat.le_of_ble_eq_true rfl, Nat.le_of_ble_eq_true rfl⟩ 0 1 rfl rfl rfl rfl (Nat.le_of_ble_eq_true rfl) dX2_copy_77 ⟨Nat.le_of_ble_eq_true rfl, Nat.le_of_ble_eq_true rfl⟩ (fun H locs hW => ?_)
            have hW : kw D A s.heap (wP c a b (pst (svT θ (((κ 2 0) + (κ 3 0)) % 6)) 0 (pu (θ 0) 0 (rpC (θ 0) u v w (fun x => x / 2 ^ (12 - q)) 32))) ρ (svK κ)) H locs := hW
            refine lv_aload_n S.1 S.2.1 dX2_copy_80 rfl (lv_at hl 0 rfl) ?_
            refine kx_get S hK hW hinX2 0 2 rfl rfl 0 (by decide) (List.mem_of_getElem? (i := 5) rfl) (v := .ref (b 0 0)) rfl dX2_copy_81 ?_
            refine lv_iload_n S.1 S.2.1 dX2_copy_84 rfl (lv_at hl 2 rfl) ?_
            refine k_VI (rest := []) S hK hl.1 hW (fS0 hW hA _) (mX1_pinsOf l D c (b 0) ((pu (θ 0) 0 (rpC (θ 0) u v w (fun x => x / 2 ^ (12 - q)) 32))) _ v T (by first | omega | exact ht | assumption | (show v < 3; omega) | rfl) (ok.p0 (rpC_ok ok.1 32))) gX2_copy_X1_pinsOf rfl pdX1_pinsOf ⟨⟨rfl, rfl⟩, Nat.le_of_ble_eq_true rfl, Nat.le_of_ble_eq_true rfl⟩ 0 1 rfl rfl rfl rfl (Nat.le_of_ble_eq_true rfl) dX2_copy_85 ⟨Nat.le_of_ble_eq_true rfl, Nat.le_of_ble_eq_true rfl⟩ (fun H locs hW => ?_)
            have hW : kw D A s.heap (wP c a b (pst (svT θ (((κ 2 0) + (κ 3 0)) % 6)) 0 (pu (θ 0) 0 (rpC (θ 0) u v w (fun x => x / 2 ^ (12 - q)) 32))) ρ (svK κ)) H locs := hW
            refine k_top (y := nI (poS (pu (θ 0) 0 (rpC (θ 0) u v w (fun x => x / 2 ^ (12 - q)) 32)) v 32)) rfl ?_
            exact hret 88 _ _ _ _ _ dX2_copy_88 hW (rfl) (rfl)
          · exact absurd (hiy.symm.trans c_51) (by decide)
    · exact absurd (h2.symm.trans c_13) (by decide)
abbrev rmX2_readBuffer : Room := { frames := 4, cells := 0, slots := 0, locals := 85 }
abbrev rmX2_firstError : Room := { frames := 5, cells := 0, slots := 0, locals := 106 }
abbrev rmX2_fewestQuietVanes : Room := { frames := 6, cells := 0, slots := 0, locals := 137 }
abbrev rmX2_fewestVanes : Room := { frames := 7, cells := 0, slots := 0, locals := 158 }
abbrev rmX2_ifPlayed : Room := { frames := 6, cells := 0, slots := 0, locals := 137 }
theorem pdX2_ifPlayed : kPd yX2_ifPlayed 2 := by decide +kernel
set_option maxHeartbeats 400000 in
set_option maxRecDepth 100000 in
theorem mX2_ifPlayed_k (l : Launch) (D : va_G) (c : Nat → ClassId) (a : Nat → Nat) (b : Nat → Nat → Nat) (θ : Nat → Nat → Nat → Nat) (ρ κ : Nat → Nat → Nat) (sz : Nat) (n : Nat) (w : Nat) (T : Nat) (h1_1 : 1 ≤ n) (h1_2 : n ≤ 128) (hw : w < 5) (ok : okS (θ 0) T) (hT : T < 200000000) : MI2 l yX2_ifPlayed wsX2_ifPlayed rmX2_ifPlayed D c sz (wP c a b θ ρ κ) [.ref (a 0), .int (nI (n)), .int (nI (w))] ((if w = 0 then nI ((onS n (pu (θ 0) 11 (kc (θ 0 11 0)))).2 13 0) - nI (θ 0 13 0) else if w = 1 then nI ((onS n (pu (θ 0) 11 (kc (θ 0 11 0)))).2 14 0) - nI (θ 0 14 0) else if w = 2 then nI ((onS n (pu (θ 0) 11 (kc (θ 0 11 0)))).2 15 0) - nI (θ 0 15 0) else if w = 3 then nI ((onS n (pu (θ 0) 11 (kc (θ 0 11 0)))).2 12 0) - nI (θ 0 12 0) else nI (ones ((onS n (pu (θ 0) 11 (kc (θ 0 11 0)))).2 7 0)) - nI (ones (θ 0 7 0)))) (wP c a b (pst θ 1 ((onS n (pu (θ 0) 11 (kc (θ 0 11 0)))).2)) ρ κ) := by
  refine MI2.of (cc := cX2_ifPlayed) (maxL := 3) (ty := .int) (by decide) rfl (Nat.le_of_ble_eq_true rfl) rfl ?_
  intro P e s m below meth cd A Q ls hsz S hK hN hW hA hl hret
  have hl : lv_has ls 3 [(0, .ref (a 0)), (1, .int (nI (n))), (2, .int (nI (w)))] := hl
  have hinX1 : ∀ w ∈ u_ws RX1 TX1 17, w ∈ wsX2_ifPlayed := by decide +kernel
  have hinX2 : ∀ w ∈ u_ws RX2 TX2 10, w ∈ wsX2_ifPlayed := by decide +kernel
  have h1 : inb (nI (n)) (nI (1)) (nI (128)) = true := inb_t h1_1 h1_2 (by decide)
  have h2 : blw (nI (w)) (nI (5)) = true := blw_t hw (by decide)
  have h11 : θ 0 11 0 ≤ 9 := ok.2.2.2.2.2.2.2.2.1
  refine lv_iload_n S.1 S.2.1 dX2_ifPlayed_0 rfl (lv_at hl 1 rfl) ?_
  refine lv_iconst (v := nI (1)) S.1 S.2.1 dX2_ifPlayed_1 rfl ?_
  refine lv_sipush (v := nI (128)) S.1 S.2.1 dX2_ifPlayed_2 rfl ?_
  refine k_SI (rest := []) S hK hl.1 hW (KFr.nil hW hA) (mX2_isWithin l D c  _ (nI (n)) (nI (1)) (nI (128))) gX2_ifPlayed_X2_isWithin rfl pdX2_isWithin ⟨⟨rfl, rfl⟩, Nat.le_of_ble_eq_true rfl, Nat.le_of_ble_eq_true rfl⟩ rfl (Nat.le_of_ble_eq_true rfl) dX2_ifPlayed_5 ⟨Nat.le_of_ble_eq_true rfl, Nat.le_of_ble_eq_true rfl⟩ (fun H locs hW => ?_)
  have hW : kw D A s.heap (wP c a b θ ρ κ) H locs := hW
  refine kb_eq S (tgt := 19) dX2_ifPlayed_8 (by decide) (fun c_8 => ?_) (fun c_8 => ?_)
  · exact absurd (h1.symm.trans c_8) (by decide)
  · refine lv_iload_n S.1 S.2.1 dX2_ifPlayed_11 rfl (lv_at hl 2 rfl) ?_
    refine lv_iconst (v := nI (5)) S.1 S.2.1 dX2_ifPlayed_12 rfl ?_
    refine k_SI (rest := []) S hK hl.1 hW (KFr.nil hW hA) (mX2_isBelow l D c  _ (nI (w)) (nI (5))) gX2_ifPlayed_X2_isBelow rfl pdX2_isBelow ⟨⟨rfl, rfl⟩, Nat.le_of_ble_eq_true rfl, Nat.le_of_ble_eq_true rfl⟩ rfl (Nat.le_of_ble_eq_true rfl) dX2_ifPlayed_13 ⟨Nat.le_of_ble_eq_true rfl, Nat.le_of_ble_eq_true rfl⟩ (fun H locs hW => ?_)
    have hW : kw D A s.heap (wP c a b θ ρ κ) H locs := hW
    refine kb_ne S (tgt := 29) dX2_ifPlayed_16 (by decide) (fun c_16 => ?_) (fun c_16 => ?_)
    · refine lv_aload_n S.1 S.2.1 dX2_ifPlayed_29 rfl (lv_at hl 0 rfl) ?_
      refine lv_iload_n S.1 S.2.1 dX2_ifPlayed_30 rfl (lv_at hl 1 rfl) ?_
      refine lv_aload_n S.1 S.2.1 dX2_ifPlayed_31 rfl (lv_at hl 0 rfl) ?_
      refine kx_get S hK hW hinX2 0 2 rfl rfl 0 (by decide) (List.mem_of_getElem? (i := 3) rfl) (v := .ref (b 0 0)) rfl dX2_ifPlayed_32 ?_
      refine kx_getN S hK hW hinX1 4 1 rfl rfl 11 (by decide) (hN _ (List.mem_of_getElem? (i := 3) rfl)) (v := .int (nI ((θ 0) 11 0))) rfl dX2_ifPlayed_35 ?_
      refine k_VV2 (rest := []) S hK hl.1 hW (KFr.all hW hA) hN (mX2_tryOut l D c a b θ ρ κ _ n ((θ 0) 11 0) T (by first | omega | exact hn | assumption | (show n < 200; omega) | rfl) (by first | omega | exact hv | assumption | (show ((θ 0) 11 0) ≤ 9; omega) | rfl) ok (by first | omega | exact hT | assumption | (show T < 200000000; omega) | rfl)) gX2_ifPlayed_X2_tryOut rfl pdX2_tryOut ⟨⟨rfl, rfl⟩, Nat.le_of_ble_eq_true rfl, Nat.le_of_ble_eq_true rfl⟩ 0 2 rfl rfl rfl rfl (Nat.le_of_ble_eq_true rfl) dX2_ifPlayed_38 ⟨Nat.le_of_ble_eq_true rfl, Nat.le_of_ble_eq_true rfl⟩ (fun H locs hW => ?_)
      have hW : kw D A s.heap (wP c a b (pst θ 1 ((onS n (pu (((θ 0))) 11 (kc ((θ 0) 11 0)))).2)) ρ κ) H locs := hW
      refine lv_aload_n S.1 S.2.1 dX2_ifPlayed_41 rfl (lv_at hl 0 rfl) ?_
      refine lv_iload_n S.1 S.2.1 dX2_ifPlayed_42 rfl (lv_at hl 2 rfl) ?_
      refine k_VI2 (rest := []) S hK hl.1 hW (KFr.all hW hA) hN (mX2_outcome l D c a b ((pst θ 1 ((onS n (pu (((θ 0))) 11 (kc ((θ 0) 11 0)))).2))) ρ κ _ w T (T + 45 * n) (by first | omega | exact hw | assumption | (show w < 5; omega) | rfl) ok (onS_ok n (ok.p11 h11))) gX2_ifPlayed_X2_outcome rfl pdX2_outcome ⟨⟨rfl, rfl⟩, Nat.le_of_ble_eq_true rfl, Nat.le_of_ble_eq_true rfl⟩ 0 2 rfl rfl rfl rfl (Nat.le_of_ble_eq_true rfl) dX2_ifPlayed_43 ⟨Nat.le_of_ble_eq_true rfl, Nat.le_of_ble_eq_true rfl⟩ (fun H locs hW => ?_)
      have hW : kw D A s.heap (wP c a b (pst θ 1 ((onS n (pu (((θ 0))) 11 (kc ((θ 0) 11 0)))).2)) ρ κ) H locs := hW
      refine k_top (y := (if w = 0 then nI ((((onS n (pu (((θ 0))) 11 (kc ((θ 0) 11 0)))).2)) 13 0) - nI (((θ 0)) 13 0) else if w = 1 then nI ((((onS n (pu (((θ 0))) 11 (kc ((θ 0) 11 0)))).2)) 14 0) - nI (((θ 0)) 14 0) else if w = 2 then nI ((((onS n (pu (((θ 0))) 11 (kc ((θ 0) 11 0)))).2)) 15 0) - nI (((θ 0)) 15 0) else if w = 3 then nI ((((onS n (pu (((θ 0))) 11 (kc ((θ 0) 11 0)))).2)) 12 0) - nI (((θ 0)) 12 0) else nI (ones ((((onS n (pu (((θ 0))) 11 (kc ((θ 0) 11 0)))).2)) 7 0)) - nI (ones (((θ 0)) 7 0)))) rfl ?_
      exact hret 46 _ _ _ _ _ dX2_ifPlayed_46 hW (rfl) (rfl)
    · exact absurd (h2.symm.trans c_16) (by decide)
