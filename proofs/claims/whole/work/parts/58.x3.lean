abbrev rmX2_copy : Room := { frames := 3, cells := 0, slots := 0, locals := 81 }
theorem pdX2_copy : kPd yX2_copy 4 := by decide +kernel
set_option maxHeartbeats 400000 in
set_option maxRecDepth 100000 in
theorem mX2_copy_k (l : Launch) (D : va_G) (c : Nat → ClassId) (a : Nat → Nat) (b : Nat → Nat → Nat) (θ : Nat → Nat → Nat → Nat) (ρ κ : Nat → Nat → Nat) (sz : Nat) (u : Nat) (v : Nat) (w : Nat) (h : Nat) (T : Nat) (hu : u < 3) (hv : v < 3) (huv : ¬ u = v) (hw1 : 1 ≤ w) (hw2 : w ≤ 63) (hh : h ≤ 11) (ok : okS (θ 0) T) (hold : κ 2 0 < 6) (hcnt : κ 3 0 ≤ 6) : MI2 l yX2_copy wsX2_copy rmX2_copy D c sz (wP c a b θ ρ κ) [.ref (a 0), .int (nI (u)), .int (nI (v)), .int (nI w - nI 32), .int (nI (h))] (nI (poS (pu (θ 0) 0 (rpC (θ 0) u v w (fun x => x * 2 ^ h) 32)) v 32)) (wP c a b (pst (svT θ ((κ 2 0 + κ 3 0) % 6)) 0 (pu (θ 0) 0 (rpC (θ 0) u v w (fun x => x * 2 ^ h) 32))) ρ (svK κ)) := by
  refine MI2.of (cc := cX2_copy) (maxL := 5) (ty := .int) (by decide) rfl (Nat.le_of_ble_eq_true rfl) rfl ?_
  intro P e s m below meth cd A Q ls hsz S hK hN hW hA hl hret
  have hl : lv_has ls 5 [(0, .ref (a 0)), (1, .int (nI (u))), (2, .int (nI (v))), (3, .int (nI w - nI 32)), (4, .int (nI (h)))] := hl
  have hinX2 : ∀ w ∈ u_ws RX2 TX2 10, w ∈ wsX2_copy := by decide +kernel
  have h1 : blw (nI (u)) (nI (3)) = true := blw_t hu (by decide)
  have h2 : blw (nI (v)) (nI (3)) = true := blw_t hv (by decide)
  have hix : inb (nI w - nI 32) (nI (4294967265)) (nI (31)) = true := cp_ok32 hw1 hw2
  have hiy : inb (nI (h)) (nI (4294967285)) (nI (11)) = true := cp_h12 h (by omega)
  refine lv_iload_n S.1 S.2.1 dX2_copy_0 rfl (lv_at hl 1 rfl) ?_
  refine lv_iconst (v := nI (3)) S.1 S.2.1 dX2_copy_1 rfl ?_
  refine k_SI (rest := []) S hK hl.1 hW (KFr.nil hW hA) (mX2_isBelow l D c  _ (nI (u)) (nI (3))) gX2_copy_X2_isBelow rfl pdX2_isBelow ⟨⟨rfl, rfl⟩, Nat.le_of_ble_eq_true rfl, Nat.le_of_ble_eq_true rfl⟩ rfl (Nat.le_of_ble_eq_true rfl) dX2_copy_2 ⟨Nat.le_of_ble_eq_true rfl, Nat.le_of_ble_eq_true rfl⟩ (fun H locs hW => ?_)
  have hW : kw D A s.heap (wP c a b θ ρ κ) H locs := hW
  refine kb_eq S (tgt := 16) dX2_copy_5 (by decide) (fun c_5 => ?_) (fun c_5 => ?_)
  · exact absurd (h1.symm.trans c_5) (by decide)
  · refine lv_iload_n S.1 S.2.1 dX2_copy_8 rfl (lv_at hl 2 rfl) ?_
    refine lv_iconst (v := nI (3)) S.1 S.2.1 dX2_copy_9 rfl ?_
    refine k_SI (rest := []) S hK hl.1 hW (KFr.nil hW hA) (mX2_isBelow l D c  _ (nI (v)) (nI (3))) gX2_copy_X2_isBelow rfl pdX2_isBelow ⟨⟨rfl, rfl⟩, Nat.le_of_ble_eq_true rfl, Nat.le_of_ble_eq_true rfl⟩ rfl (Nat.le_of_ble_eq_true rfl) dX2_copy_10 ⟨Nat.le_of_ble_eq_true rfl, Nat.le_of_ble_eq_true rfl⟩ (fun H locs hW => ?_)
    have hW : kw D A s.heap (wP c a b θ ρ κ) H locs := hW
    refine kb_ne S (tgt := 26) dX2_copy_13 (by decide) (fun c_13 => ?_) (fun c_13 => ?_)
    · refine lv_iload_n S.1 S.2.1 dX2_copy_26 rfl (lv_at hl 1 rfl) ?_
      refine lv_iload_n S.1 S.2.1 dX2_copy_27 rfl (lv_at hl 2 rfl) ?_
      refine kn_eq S (tgt := 54) dX2_copy_28 (by decide) (by omega) (by omega) (fun c_28 => ?_) (fun c_28 => ?_)
      · exact absurd c_28 huv
      · refine lv_iload_n S.1 S.2.1 dX2_copy_31 rfl (lv_at hl 3 rfl) ?_
        refine lv_bipush (v := nI (4294967265)) S.1 S.2.1 dX2_copy_32 rfl ?_
        refine lv_bipush (v := nI (31)) S.1 S.2.1 dX2_copy_34 rfl ?_
        refine k_SI (rest := []) S hK hl.1 hW (KFr.nil hW hA) (mX2_isWithin l D c  _ (nI w - nI 32) (nI (4294967265)) (nI (31))) gX2_copy_X2_isWithin rfl pdX2_isWithin ⟨⟨rfl, rfl⟩, Nat.le_of_ble_eq_true rfl, Nat.le_of_ble_eq_true rfl⟩ rfl (Nat.le_of_ble_eq_true rfl) dX2_copy_36 ⟨Nat.le_of_ble_eq_true rfl, Nat.le_of_ble_eq_true rfl⟩ (fun H locs hW => ?_)
        have hW : kw D A s.heap (wP c a b θ ρ κ) H locs := hW
        refine kb_eq S (tgt := 54) dX2_copy_39 (by decide) (fun c_39 => ?_) (fun c_39 => ?_)
        · exact absurd (hix.symm.trans c_39) (by decide)
        · refine lv_iload S.1 S.2.1 dX2_copy_42 (lv_at hl 4 rfl) ?_
          refine lv_bipush (v := nI (4294967285)) S.1 S.2.1 dX2_copy_44 rfl ?_
          refine lv_bipush (v := nI (11)) S.1 S.2.1 dX2_copy_46 rfl ?_
          refine k_SI (rest := []) S hK hl.1 hW (KFr.nil hW hA) (mX2_isWithin l D c  _ (nI (h)) (nI (4294967285)) (nI (11))) gX2_copy_X2_isWithin rfl pdX2_isWithin ⟨⟨rfl, rfl⟩, Nat.le_of_ble_eq_true rfl, Nat.le_of_ble_eq_true rfl⟩ rfl (Nat.le_of_ble_eq_true rfl) dX2_copy_48 ⟨Nat.le_of_ble_eq_true rfl, Nat.le_of_ble_eq_true rfl⟩ (fun H locs hW => ?_)
          have hW : kw D A s.heap (wP c a b θ ρ κ) H locs := hW
          refine kb_ne S (tgt := 64) dX2_copy_51 (by decide) (fun c_51 => ?_) (fun c_51 => ?_)
          · refine lv_aload_n S.1 S.2.1 dX2_copy_64 rfl (lv_at hl 0 rfl) ?_
            refine k_VV2 (rest := []) S hK hl.1 hW (KFr.all hW hA) hN (mX2_saveState l D c a b θ ρ κ _ (by first | omega | exact hold | assumption | (show (κ 2 0) < 6; omega) | rfl) (by first | omega | exact hcnt | assumption | (show (κ 3 0) ≤ 6; omega) | rfl)) gX2_copy_X2_saveState rfl pdX2_saveState ⟨⟨rfl, rfl⟩, Nat.le_of_ble_eq_true rfl, Nat.le_of_ble_eq_true rfl⟩ 0 2 rfl rfl rfl rfl (Nat.le_of_ble_eq_true rfl) dX2_copy_65 ⟨Nat.le_of_ble_eq_true rfl, Nat.le_of_ble_eq_true rfl⟩ (fun H locs hW => ?_)
            have hW : kw D A s.heap (wP c a b (svT θ (((κ 2 0) + (κ 3 0)) % 6)) ρ (svK κ)) H locs := hW
            refine lv_aload_n S.1 S.2.1 dX2_copy_68 rfl (lv_at hl 0 rfl) ?_
            refine kx_get S hK hW hinX2 0 2 rfl rfl 0 (by decide) (List.mem_of_getElem? (i := 5) rfl) (v := .ref (b 0 0)) rfl dX2_copy_69 ?_
            refine lv_iload_n S.1 S.2.1 dX2_copy_72 rfl (lv_at hl 1 rfl) ?_
            refine lv_iload_n S.1 S.2.1 dX2_copy_73 rfl (lv_at hl 2 rfl) ?_
            refine lv_iload_n S.1 S.2.1 dX2_copy_74 rfl (lv_at hl 3 rfl) ?_
            refine lv_iload S.1 S.2.1 dX2_copy_75 (lv_at hl 4 rfl) ?_
            refine k_VV (rest := []) S hK hl.1 hW (fS0 hW hA _) (mX1_replaceTune_k l D c (b 0) ((θ 0)) _ u v w h T (by first | omega | exact hu | assumption | (show u < 3; omega) | rfl) (by first | omega | exact hv | assumption | (show v < 3; omega) | rfl) (by first | omega | exact hw | assumption | (show w < 64; omega) | rfl) (by first | omega | exact hh | assumption | (show h ≤ 11; omega) | rfl) ok) gX2_copy_X1_replaceTune rfl pdX1_replaceTune ⟨⟨rfl, rfl⟩, Nat.le_of_ble_eq_true rfl, Nat.le_of_ble_eq_true rfl⟩ 0 1 rfl rfl rfl rfl (Nat.le_of_ble_eq_true rfl) dX2_copy_77 ⟨Nat.le_of_ble_eq_true rfl, Nat.le_of_ble_eq_true rfl⟩ (fun H locs hW => ?_)
            have hW : kw D A s.heap (wP c a b (pst (svT θ (((κ 2 0) + (κ 3 0)) % 6)) 0 (pu (θ 0) 0 (rpC (θ 0) u v w (fun x => x * 2 ^ h) 32))) ρ (svK κ)) H locs := hW
            refine lv_aload_n S.1 S.2.1 dX2_copy_80 rfl (lv_at hl 0 rfl) ?_
            refine kx_get S hK hW hinX2 0 2 rfl rfl 0 (by decide) (List.mem_of_getElem? (i := 5) rfl) (v := .ref (b 0 0)) rfl dX2_copy_81 ?_
            refine lv_iload_n S.1 S.2.1 dX2_copy_84 rfl (lv_at hl 2 rfl) ?_
            refine k_VI (rest := []) S hK hl.1 hW (fS0 hW hA _) (mX1_pinsOf l D c (b 0) ((pu (θ 0) 0 (rpC (θ 0) u v w (fun x => x * 2 ^ h) 32))) _ v T (by first | omega | exact ht | assumption | (show v < 3; omega) | rfl) (ok.p0 (rpC_ok ok.1 32))) gX2_copy_X1_pinsOf rfl pdX1_pinsOf ⟨⟨rfl, rfl⟩, Nat.le_of_ble_eq_true rfl, Nat.le_of_ble_eq_true rfl⟩ 0 1 rfl rfl rfl rfl (Nat.le_of_ble_eq_true rfl) dX2_copy_85 ⟨Nat.le_of_ble_eq_true rfl, Nat.le_of_ble_eq_true rfl⟩ (fun H locs hW => ?_)
            have hW : kw D A s.heap (wP c a b (pst (svT θ (((κ 2 0) + (κ 3 0)) % 6)) 0 (pu (θ 0) 0 (rpC (θ 0) u v w (fun x => x * 2 ^ h) 32))) ρ (svK κ)) H locs := hW
            refine k_top (y := nI (poS (pu (θ 0) 0 (rpC (θ 0) u v w (fun x => x * 2 ^ h) 32)) v 32)) rfl ?_
            exact hret 88 _ _ _ _ _ dX2_copy_88 hW (rfl) (rfl)
          · exact absurd (hiy.symm.trans c_51) (by decide)
    · exact absurd (h2.symm.trans c_13) (by decide)
set_option maxHeartbeats 400000 in
set_option maxRecDepth 100000 in
theorem mX2_copy_m (l : Launch) (D : va_G) (c : Nat → ClassId) (a : Nat → Nat) (b : Nat → Nat → Nat) (θ : Nat → Nat → Nat → Nat) (ρ κ : Nat → Nat → Nat) (sz : Nat) (u : Nat) (v : Nat) (w : Nat) (q : Nat) (T : Nat) (hu : u < 3) (hv : v < 3) (huv : ¬ u = v) (hw1 : 1 ≤ w) (hw2 : w ≤ 63) (hq1 : 1 ≤ q) (hq2 : q < 12) (ok : okS (θ 0) T) (hold : κ 2 0 < 6) (hcnt : κ 3 0 ≤ 6) : MI2 l yX2_copy wsX2_copy rmX2_copy D c sz (wP c a b θ ρ κ) [.ref (a 0), .int (nI (u)), .int (nI (v)), .int (nI w - nI 32), .int (nI q - nI 12)] (nI (poS (pu (θ 0) 0 (rpC (θ 0) u v w (fun x => x / 2 ^ (12 - q)) 32)) v 32)) (wP c a b (pst (svT θ ((κ 2 0 + κ 3 0) % 6)) 0 (pu (θ 0) 0 (rpC (θ 0) u v w (fun x => x / 2 ^ (12 - q)) 32))) ρ (svK κ)) := by
  refine MI2.of (cc := cX2_copy) (maxL := 5) (ty := .int) (by decide) rfl (Nat.le_of_ble_eq_true rfl) rfl ?_
  intro P e s m below meth cd A Q ls hsz S hK hN hW hA hl hret
  have hl : lv_has ls 5 [(0, .ref (a 0)), (1, .int (nI (u))), (2, .int (nI (v))), (3, .int (nI w - nI 32)), (4, .int (nI q - nI 12))] := hl
  have hinX2 : ∀ w ∈ u_ws RX2 TX2 10, w ∈ wsX2_copy := by decide +kernel
  have h1 : blw (nI (u)) (nI (3)) = true := blw_t hu (by decide)
  have h2 : blw (nI (v)) (nI (3)) = true := blw_t hv (by decide)
  have hix : inb (nI w - nI 32) (nI (4294967265)) (nI (31)) = true := cp_ok32 hw1 hw2
  have hiy : inb (nI q - nI 12) (nI (4294967285)) (nI (11)) = true := cp_ok12 hq1 (by omega)
  refine lv_iload_n S.1 S.2.1 dX2_copy_0 rfl (lv_at hl 1 rfl) ?_
  refine lv_iconst (v := nI (3)) S.1 S.2.1 dX2_copy_1 rfl ?_
  refine k_SI (rest := []) S hK hl.1 hW (KFr.nil hW hA) (mX2_isBelow l D c  _ (nI (u)) (nI (3))) gX2_copy_X2_isBelow rfl pdX2_isBelow ⟨⟨rfl, rfl⟩, Nat.le_of_ble_eq_true rfl, Nat.le_of_ble_eq_true rfl⟩ rfl (Nat.le_of_ble_eq_true rfl) dX2_copy_2 ⟨Nat.le_of_ble_eq_true rfl, Nat.le_of_ble_eq_true rfl⟩ (fun H locs hW => ?_)
  have hW : kw D A s.heap (wP c a b θ ρ κ) H locs := hW
  refine kb_eq S (tgt := 16) dX2_copy_5 (by decide) (fun c_5 => ?_) (fun c_5 => ?_)
  · exact absurd (h1.symm.trans c_5) (by decide)
  · refine lv_iload_n S.1 S.2.1 dX2_copy_8 rfl (lv_at hl 2 rfl) ?_
    refine lv_iconst (v := nI (3)) S.1 S.2.1 dX2_copy_9 rfl ?_
    refine k_SI (rest := []) S hK hl.1 hW (KFr.nil hW hA) (mX2_isBelow l D c  _ (nI (v)) (nI (3))) gX2_copy_X2_isBelow rfl pdX2_isBelow ⟨⟨rfl, rfl⟩, Nat.le_of_ble_eq_true rfl, Nat.le_of_ble_eq_true rfl⟩ rfl (Nat.le_of_ble_eq_true rfl) dX2_copy_10 ⟨Nat.le_of_ble_eq_true rfl, Nat.le_of_ble_eq_true rfl⟩ (fun H locs hW => ?_)
    have hW : kw D A s.heap (wP c a b θ ρ κ) H locs := hW
    refine kb_ne S (tgt := 26) dX2_copy_13 (by decide) (fun c_13 => ?_) (fun c_13 => ?_)
    · refine lv_iload_n S.1 S.2.1 dX2_copy_26 rfl (lv_at hl 1 rfl) ?_
      refine lv_iload_n S.1 S.2.1 dX2_copy_27 rfl (lv_at hl 2 rfl) ?_
      refine kn_eq S (tgt := 54) dX2_copy_28 (by decide) (by omega) (by omega) (fun c_28 => ?_) (fun c_28 => ?_)
      · exact absurd c_28 huv
      · refine lv_iload_n S.1 S.2.1 dX2_copy_31 rfl (lv_at hl 3 rfl) ?_
        refine lv_bipush (v := nI (4294967265)) S.1 S.2.1 dX2_copy_32 rfl ?_
        refine lv_bipush (v := nI (31)) S.1 S.2.1 dX2_copy_34 rfl ?_
        refine k_SI (rest := []) S hK hl.1 hW (KFr.nil hW hA) (mX2_isWithin l D c  _ (nI w - nI 32) (nI (4294967265)) (nI (31))) gX2_copy_X2_isWithin rfl pdX2_isWithin ⟨⟨rfl, rfl⟩, Nat.le_of_ble_eq_true rfl, Nat.le_of_ble_eq_true rfl⟩ rfl (Nat.le_of_ble_eq_true rfl) dX2_copy_36 ⟨Nat.le_of_ble_eq_true rfl, Nat.le_of_ble_eq_true rfl⟩ (fun H locs hW => ?_)
        have hW : kw D A s.heap (wP c a b θ ρ κ) H locs := hW
        refine kb_eq S (tgt := 54) dX2_copy_39 (by decide) (fun c_39 => ?_) (fun c_39 => ?_)
        · exact absurd (hix.symm.trans c_39) (by decide)
        · refine lv_iload S.1 S.2.1 dX2_copy_42 (lv_at hl 4 rfl) ?_
          refine lv_bipush (v := nI (4294967285)) S.1 S.2.1 dX2_copy_44 rfl ?_
          refine lv_bipush (v := nI (11)) S.1 S.2.1 dX2_copy_46 rfl ?_
          refine k_SI (rest := []) S hK hl.1 hW (KFr.nil hW hA) (mX2_isWithin l D c  _ (nI q - nI 12) (nI (4294967285)) (nI (11))) gX2_copy_X2_isWithin rfl pdX2_isWithin ⟨⟨rfl, rfl⟩, Nat.le_of_ble_eq_true rfl, Nat.le_of_ble_eq_true rfl⟩ rfl (Nat.le_of_ble_eq_true rfl) dX2_copy_48 ⟨Nat.le_of_ble_eq_true rfl, Nat.le_of_ble_eq_true rfl⟩ (fun H locs hW => ?_)
          have hW : kw D A s.heap (wP c a b θ ρ κ) H locs := hW
          refine kb_ne S (tgt := 64) dX2_copy_51 (by decide) (fun c_51 => ?_) (fun c_51 => ?_)
          · refine lv_aload_n S.1 S.2.1 dX2_copy_64 rfl (lv_at hl 0 rfl) ?_
            refine k_VV2 (rest := []) S hK hl.1 hW (KFr.all hW hA) hN (mX2_saveState l D c a b θ ρ κ _ (by first | omega | exact hold | assumption | (show (κ 2 0) < 6; omega) | rfl) (by first | omega | exact hcnt | assumption | (show (κ 3 0) ≤ 6; omega) | rfl)) gX2_copy_X2_saveState rfl pdX2_saveState ⟨⟨rfl, rfl⟩, Nat.le_of_ble_eq_true rfl, Nat.le_of_ble_eq_true rfl⟩ 0 2 rfl rfl rfl rfl (Nat.le_of_ble_eq_true rfl) dX2_copy_65 ⟨Nat.le_of_ble_eq_true rfl, Nat.le_of_ble_eq_true rfl⟩ (fun H locs hW => ?_)
            have hW : kw D A s.heap (wP c a b (svT θ (((κ 2 0) + (κ 3 0)) % 6)) ρ (svK κ)) H locs := hW
            refine lv_aload_n S.1 S.2.1 dX2_copy_68 rfl (lv_at hl 0 rfl) ?_
            refine kx_get S hK hW hinX2 0 2 rfl rfl 0 (by decide) (List.mem_of_getElem? (i := 5) rfl) (v := .ref (b 0 0)) rfl dX2_copy_69 ?_
            refine lv_iload_n S.1 S.2.1 dX2_copy_72 rfl (lv_at hl 1 rfl) ?_
            refine lv_iload_n S.1 S.2.1 dX2_copy_73 rfl (lv_at hl 2 rfl) ?_
            refine lv_iload_n S.1 S.2.1 dX2_copy_74 rfl (lv_at hl 3 rfl) ?_
            refine lv_iload S.1 S.2.1 dX2_copy_75 (lv_at hl 4 rfl) ?_
            refine k_VV (rest := []) S hK hl.1 hW (fS0 hW hA _) (mX1_replaceTune_m l D c (b 0) ((θ 0)) _ u v w q T (by first | omega | exact hu | assumption | (show u < 3; omega) | rfl) (by first | omega | exact hv | assumption | (show v < 3; omega) | rfl) (by first | omega | exact hw | assumption | (show w < 64; omega) | rfl) (by first | omega | exact hq | assumption | (show q < 12; omega) | rfl) ok) gX2_copy_X1_replaceTune rfl pdX1_replaceTune ⟨⟨rfl, rfl⟩, Nat.le_of_ble_eq_true rfl, Nat.le_of_ble_eq_true rfl⟩ 0 1 rfl rfl rfl rfl (Nat.le_of_ble_eq_true rfl) dX2_copy_77 ⟨Nat.le_of_ble_eq_true rfl, Nat.le_of_ble_eq_true rfl⟩ (fun H locs hW => ?_)
            have hW : kw D A s.heap (wP c a b (pst (svT θ (((κ 2 0) + (κ 3 0)) % 6)) 0 (pu (θ 0) 0 (rpC (θ 0) u v w (fun x => x / 2 ^ (12 - q)) 32))) ρ (svK κ)) H locs := hW
            refine lv_aload_n S.1 S.2.1 dX2_copy_80 rfl (lv_at hl 0 rfl) ?_
            refine kx_get S hK hW hinX2 0 2 rfl rfl 0 (by decide) (List.mem_of_getElem? (i := 5) rfl) (v := .ref (b 0 0)) rfl dX2_copy_81 ?_
            refine lv_iload_n S.1 S.2.1 dX2_copy_84 rfl (lv_at hl 2 rfl) ?_
            refine k_VI (rest := []) S hK hl.1 hW (fS0 hW hA _) (mX1_pinsOf l D c (b 0) ((pu (θ 0) 0 (rpC (θ 0) u v w (fun x => x / 2 ^ (12 - q)) 32))) _ v T (by first | omega | exact ht | assumption | (show v < 3; omega) | rfl) (ok.p0 (rpC_ok ok.1 32))) gX2_copy_X1_pinsOf rfl pdX1_pinsOf ⟨⟨rfl, rfl⟩, Nat.le_of_ble_eq_true rfl, Nat.le_of_ble_eq_true rfl⟩ 0 1 rfl rfl rfl rfl (Nat.le_of_ble_eq_true rfl) dX2_copy_85 ⟨Nat.le_of_ble_eq_true rfl, Nat.le_of_ble_eq_true rfl⟩ (fun H locs hW => ?_)
            have hW : kw D A s.heap (wP c a b (pst (svT θ (((κ 2 0) + (κ 3 0)) % 6)) 0 (pu (θ 0) 0 (rpC (θ 0) u v w (fun x => x / 2 ^ (12 - q)) 32))) ρ (svK κ)) H locs := hW
            refine k_top (y := nI (poS (pu (θ 0) 0 (rpC (θ 0) u v w (fun x => x / 2 ^ (12 - q)) 32)) v 32)) rfl ?_
            exact hret 88 _ _ _ _ _ dX2_copy_88 hW (rfl) (rfl)
          · exact absurd (hiy.symm.trans c_51) (by decide)
    · exact absurd (h2.symm.trans c_13) (by decide)
abbrev rmX2_readBuffer : Room := { frames := 4, cells := 0, slots := 0, locals := 85 }
theorem pdX2_readBuffer : kPd yX2_readBuffer 0 := by decide +kernel
set_option maxHeartbeats 400000 in
set_option maxRecDepth 100000 in
theorem mX2_readBuffer (l : Launch) (D : va_G) (c : Nat → ClassId) (a : Nat → Nat) (b : Nat → Nat → Nat) (θ : Nat → Nat → Nat → Nat) (ρ κ : Nat → Nat → Nat) (sz : Nat) (hbl : κ 4 0 ≤ 60) (hbf : ∀ i, i < κ 4 0 → κ 0 i < 128) (okr : okR ρ) : MI2 l yX2_readBuffer wsX2_readBuffer rmX2_readBuffer D c sz (wP c a b θ ρ κ) [.ref (a 0)] (nI ((rbR (κ 0) (κ 4 0) 0 (pu (ρ) 0 (kc 0))).1)) (wP c a b θ ((rbR (κ 0) (κ 4 0) 0 (pu (ρ) 0 (kc 0))).2) κ) := by
  refine MI2.of (cc := cX2_readBuffer) (maxL := 2) (ty := .int) (by decide) rfl (Nat.le_of_ble_eq_true rfl) rfl ?_
  intro P e s m below meth cd A Q ls hsz S hK hN hW hA hl hret
  have hl : lv_has ls 2 [(0, .ref (a 0))] := hl
  have hinX2 : ∀ w ∈ u_ws RX2 TX2 10, w ∈ wsX2_readBuffer := by decide +kernel
  have okr0 : okR (pu ρ 0 (kc 0)) := a_ok okr 0 0 (fun _ => by omega) (fun q => by omega) (fun q => by omega) (fun q => by omega) (fun q => by omega)
  refine lv_aload_n S.1 S.2.1 dX2_readBuffer_0 rfl (lv_at hl 0 rfl) ?_
  refine kx_get S hK hW hinX2 0 2 rfl rfl 9 (by decide) (List.mem_of_getElem? (i := 1) rfl) (v := .ref (a 3)) rfl dX2_readBuffer_1 ?_
  refine k_VV (rest := []) S hK hl.1 hW (fR hW hA _) (mX0_start l D c (fun _ => a 3) ρ _ ) gX2_readBuffer_X0_start rfl pdX0_start ⟨⟨rfl, rfl⟩, Nat.le_of_ble_eq_true rfl, Nat.le_of_ble_eq_true rfl⟩ 0 0 rfl rfl rfl rfl (Nat.le_of_ble_eq_true rfl) dX2_readBuffer_4 ⟨Nat.le_of_ble_eq_true rfl, Nat.le_of_ble_eq_true rfl⟩ (fun H locs hW => ?_)
  have hW : kw D A s.heap (wP c a b θ (pu ρ 0 (kc (0))) κ) H locs := hW
  refine lv_iconst (v := nI (0)) S.1 S.2.1 dX2_readBuffer_7 rfl ?_
  refine lv_istore_n (lv' := [(1, .int (nI (0))), (0, .ref (a 0))]) S.1 S.2.1 dX2_readBuffer_8 rfl hl (by decide) rfl (fun ls hl => ?_)
  have hW : kw D A s.heap (wP c a b θ (((pu (ρ) 0 (kc 0)))) κ) _ _ := hW
  refine k_loop (fun (zz : Nat × (Nat → Nat → Nat)) H lo ls => match zz with | (k, g) => kw D A s.heap (wP c a b θ g κ) H lo ∧ lv_has ls 2 [(0, .ref (a 0)), (1, .int (nI (k)))] ∧ k ≤ κ 4 0 ∧ okR g ∧ rbR (κ 0) (κ 4 0) 0 (pu (ρ) 0 (kc 0)) = rbR (κ 0) (κ 4 0 - k) k g) (fun (zz : Nat × (Nat → Nat → Nat)) => match zz with | (k, g) => κ 4 0 - k) [] ?_ (0, (pu (ρ) 0 (kc 0))) _ _ _ ⟨hW, lv_sub hl [1, 0] rfl, (Nat.zero_le _), okr0, (by rw [Nat.sub_zero])⟩
  rintro ⟨k, g⟩ ih9 H locs ls ⟨hW, hl, hk, okg, hr⟩
  refine lv_iload_n S.1 S.2.1 dX2_readBuffer_9 rfl (lv_at hl 1 rfl) ?_
  refine lv_aload_n S.1 S.2.1 dX2_readBuffer_10 rfl (lv_at hl 0 rfl) ?_
  refine kx_get S hK hW hinX2 0 2 rfl rfl 8 (by decide) (List.mem_of_getElem? (i := 2) rfl) (v := .int (nI (κ 4 0))) rfl dX2_readBuffer_11 ?_
  refine kn_ge S (tgt := 41) dX2_readBuffer_14 (by decide) (by omega) (by omega) (fun c_14 => ?_) (fun c_14 => ?_)
  · have hr : rbR (κ 0) (κ 4 0) 0 (pu (ρ) 0 (kc 0)) = (k, g) := hr.trans (rbR_0 c_14)
    refine lv_aload_n S.1 S.2.1 dX2_readBuffer_41 rfl (lv_at hl 0 rfl) ?_
    refine kx_get S hK hW hinX2 0 2 rfl rfl 8 (by decide) (List.mem_of_getElem? (i := 2) rfl) (v := .int (nI (κ 4 0))) rfl dX2_readBuffer_42 ?_
    exact hret 45 _ _ _ _ _ dX2_readBuffer_45 hW (congrArg nI (by rw [hr]; show κ 4 0 = k; omega)) (by rw [hr])
  · refine lv_aload_n S.1 S.2.1 dX2_readBuffer_17 rfl (lv_at hl 0 rfl) ?_
    refine kx_get S hK hW hinX2 0 2 rfl rfl 9 (by decide) (List.mem_of_getElem? (i := 1) rfl) (v := .ref (a 3)) rfl dX2_readBuffer_18 ?_
    refine lv_aload_n S.1 S.2.1 dX2_readBuffer_21 rfl (lv_at hl 0 rfl) ?_
    refine kx_get S hK hW hinX2 0 2 rfl rfl 7 (by decide) (List.mem_of_getElem? (i := 3) rfl) (v := .ref (a 2)) rfl dX2_readBuffer_22 ?_
    refine lv_iload_n S.1 S.2.1 dX2_readBuffer_25 rfl (lv_at hl 1 rfl) ?_
    refine kn_cld S hK hW 2 (f := κ 0) rfl (by omega) (by decide) dX2_readBuffer_26 ?_
    refine k_VI (rest := []) S hK hl.1 hW (fR hW hA _) (mX0_accepts l D c (fun _ => a 3) g _ (g 0 0) (κ 0 (k)) rfl (hbf k c_14) okg) gX2_readBuffer_X0_accepts rfl pdX0_accepts ⟨⟨rfl, rfl⟩, Nat.le_of_ble_eq_true rfl, Nat.le_of_ble_eq_true rfl⟩ 0 0 rfl rfl rfl rfl (Nat.le_of_ble_eq_true rfl) dX2_readBuffer_27 ⟨Nat.le_of_ble_eq_true rfl, Nat.le_of_ble_eq_true rfl⟩ (fun H locs hW => ?_)
    have hW : kw D A s.heap (wP c a b θ (((stR g (κ 0 (k))).getD g)) κ) H locs := hW
    refine kb_ne S (tgt := 35) dX2_readBuffer_30 (by decide) (fun c_30 => ?_) (fun c_30 => ?_)
    · refine lv_iinc (v := nI (k + 1)) (lv' := [(1, .int (nI (k + 1))), (0, .ref (a 0))]) S.1 S.2.1 dX2_readBuffer_35 hl (k := 1) rfl (nI_add _ _) (by decide) rfl (fun ls hl => ?_)
      refine lv_goto (tgt := 9) S.1 S.2.1 dX2_readBuffer_38 (by decide) ?_
      exact ih9 (k + 1, (stR g (κ 0 k)).getD g) _ _ _ ⟨hW, lv_sub hl [1, 0] rfl, (by omega), (stR_ok okg _), (hr.trans (rbR_t c_14 c_30))⟩ (by show κ 4 0 - (k + 1) < κ 4 0 - k; omega)
    · have hg := (rbR_f c_14 c_30).2
      have hr : rbR (κ 0) (κ 4 0) 0 (pu (ρ) 0 (kc 0)) = (k, g) := hr.trans (rbR_f c_14 c_30).1
      refine lv_iload_n S.1 S.2.1 dX2_readBuffer_33 rfl (lv_at hl 1 rfl) ?_
      exact hret 34 _ _ _ _ _ dX2_readBuffer_34 hW (congrArg nI (by rw [hr])) (by rw [hg, hr])
abbrev rmX2_firstError : Room := { frames := 5, cells := 0, slots := 0, locals := 106 }
theorem pdX2_firstError : kPd yX2_firstError 0 := by decide +kernel
set_option maxHeartbeats 400000 in
set_option maxRecDepth 100000 in
theorem mX2_firstError (l : Launch) (D : va_G) (c : Nat → ClassId) (a : Nat → Nat) (b : Nat → Nat → Nat) (θ : Nat → Nat → Nat → Nat) (ρ κ : Nat → Nat → Nat) (sz : Nat) (hbl : κ 4 0 ≤ 60) (hbf : ∀ i, i < κ 4 0 → κ 0 i < 128) (okr : okR ρ) : MI2 l yX2_firstError wsX2_firstError rmX2_firstError D c sz (wP c a b θ ρ κ) [.ref (a 0)] (nI ((rbR (κ 0) (κ 4 0) 0 (pu (ρ) 0 (kc 0))).1)) (wP c a b θ ((rbR (κ 0) (κ 4 0) 0 (pu (ρ) 0 (kc 0))).2) κ) := by
  refine MI2.of (cc := cX2_firstError) (maxL := 1) (ty := .int) (by decide) rfl (Nat.le_of_ble_eq_true rfl) rfl ?_
  intro P e s m below meth cd A Q ls hsz S hK hN hW hA hl hret
  have hl : lv_has ls 1 [(0, .ref (a 0))] := hl
  refine lv_aload_n S.1 S.2.1 dX2_firstError_0 rfl (lv_at hl 0 rfl) ?_
  refine k_VI2 (rest := []) S hK hl.1 hW (KFr.all hW hA) hN (mX2_readBuffer l D c a b θ ρ κ _ (by first | omega | exact hbl | assumption | (show (κ 4 0) ≤ 60; omega) | rfl) (by first | omega | exact hbf | assumption | (show ∀ i, i < (κ 4 0) → (κ 0) i < 128; omega) | rfl) (by first | omega | exact okr | assumption | (show okR ρ; omega) | rfl)) gX2_firstError_X2_readBuffer rfl pdX2_readBuffer ⟨⟨rfl, rfl⟩, Nat.le_of_ble_eq_true rfl, Nat.le_of_ble_eq_true rfl⟩ 0 2 rfl rfl rfl rfl (Nat.le_of_ble_eq_true rfl) dX2_firstError_1 ⟨Nat.le_of_ble_eq_true rfl, Nat.le_of_ble_eq_true rfl⟩ (fun H locs hW => ?_)
  have hW : kw D A s.heap (wP c a b θ ((rbR ((κ 0)) ((κ 4 0)) 0 (pu (ρ) 0 (kc 0))).2) κ) H locs := hW
  refine k_top (y := nI ((rbR ((κ 0)) ((κ 4 0)) 0 (pu (ρ) 0 (kc 0))).1)) rfl ?_
  exact hret 4 _ _ _ _ _ dX2_firstError_4 hW (rfl) (rfl)
abbrev rmX2_fewestQuietVanes : Room := { frames := 6, cells := 0, slots := 0, locals := 137 }
theorem pdX2_fewestQuietVanes : kPd yX2_fewestQuietVanes 0 := by decide +kernel
set_option maxHeartbeats 400000 in
set_option maxRecDepth 100000 in
theorem mX2_fewestQuietVanes (l : Launch) (D : va_G) (c : Nat → ClassId) (a : Nat → Nat) (b : Nat → Nat → Nat) (θ : Nat → Nat → Nat → Nat) (ρ κ : Nat → Nat → Nat) (sz : Nat) (T : Nat) (ok : okS (θ 0) T) (hT : T < 200000000) : MI2 l yX2_fewestQuietVanes wsX2_fewestQuietVanes rmX2_fewestQuietVanes D c sz (wP c a b θ ρ κ) [.ref (a 0)] (nI ((fqT (θ 0) 9 1 (θ 1)).1)) (wP c a b (pst θ 1 ((fqT (θ 0) 9 1 (θ 1)).2)) ρ κ) := by
  refine MI2.of (cc := cX2_fewestQuietVanes) (maxL := 2) (ty := .int) (by decide) rfl (Nat.le_of_ble_eq_true rfl) rfl ?_
  intro P e s m below meth cd A Q ls hsz S hK hN hW hA hl hret
  have hl : lv_has ls 2 [(0, .ref (a 0))] := hl
  have hinX1 : ∀ w ∈ u_ws RX1 TX1 17, w ∈ wsX2_fewestQuietVanes := by decide +kernel
  have hinX2 : ∀ w ∈ u_ws RX2 TX2 10, w ∈ wsX2_fewestQuietVanes := by decide +kernel
  have h15 : θ 0 15 0 ≤ T := ok.2.2.2.2.2.2.2.2.2.2.2
  refine lv_iconst (v := nI (1)) S.1 S.2.1 dX2_fewestQuietVanes_0 rfl ?_
  refine lv_istore_n (lv' := [(1, .int (nI (1))), (0, .ref (a 0))]) S.1 S.2.1 dX2_fewestQuietVanes_1 rfl hl (by decide) rfl (fun ls hl => ?_)
  have hW : kw D A s.heap (wP c a b (pst θ 1 ((θ 1))) ρ κ) _ _ := hW
  refine k_loop (fun (zz : Nat × (Nat → Nat → Nat)) H lo ls => match zz with | (k, g) => kw D A s.heap (wP c a b (pst θ 1 g) ρ κ) H lo ∧ lv_has ls 2 [(0, .ref (a 0)), (1, .int (nI (1 + k)))] ∧ k ≤ 9 ∧ fqT (θ 0) 9 1 (θ 1) = fqT (θ 0) (9 - k) (1 + k) g) (fun (zz : Nat × (Nat → Nat → Nat)) => match zz with | (k, g) => 9 - k) [] ?_ (0, θ 1) _ _ _ ⟨hW, lv_sub hl [1, 0] rfl, (by decide), (by rw [Nat.sub_zero, Nat.add_zero])⟩
  rintro ⟨k, g⟩ ih2 H locs ls ⟨hW, hl, hk, hf⟩
  refine lv_iload_n S.1 S.2.1 dX2_fewestQuietVanes_2 rfl (lv_at hl 1 rfl) ?_
  refine lv_bipush (v := nI (9)) S.1 S.2.1 dX2_fewestQuietVanes_3 rfl ?_
  refine kn_gt S (tgt := 40) dX2_fewestQuietVanes_5 (by decide) (by omega) (by omega) (fun c_5 => ?_) (fun c_5 => ?_)
  · have hf : fqT (θ 0) 9 1 (θ 1) = (4294967295, g) := hf.trans (fqT_0 (by omega))
    refine lv_iconst (v := nI (4294967295)) S.1 S.2.1 dX2_fewestQuietVanes_40 rfl ?_
    exact hret 41 _ _ _ _ _ dX2_fewestQuietVanes_41 hW (congrArg nI (by rw [hf])) (by rw [hf])
  · have okx : trS (θ 0) (1 + k) 15 0 ≤ T + 1440 := (trS_ok ok c_5).2.2.2.2.2.2.2.2.2.2.2
    refine lv_aload_n S.1 S.2.1 dX2_fewestQuietVanes_8 rfl (lv_at hl 0 rfl) ?_
    refine lv_bipush (v := nI (32)) S.1 S.2.1 dX2_fewestQuietVanes_9 rfl ?_
    refine lv_iload_n S.1 S.2.1 dX2_fewestQuietVanes_11 rfl (lv_at hl 1 rfl) ?_
    refine k_VV2 (rest := []) S hK hl.1 hW (KFr.all hW hA) hN (mX2_tryOut l D c a b ((pst θ 1 g)) ρ κ _ 32 (1 + k) T (by first | omega | exact hn | assumption | (show 32 < 200; omega) | rfl) (by first | omega | exact hv | assumption | (show (1 + k) ≤ 9; omega) | rfl) ok (by first | omega | exact hT | assumption | (show T < 200000000; omega) | rfl)) gX2_fewestQuietVanes_X2_tryOut rfl pdX2_tryOut ⟨⟨rfl, rfl⟩, Nat.le_of_ble_eq_true rfl, Nat.le_of_ble_eq_true rfl⟩ 0 2 rfl rfl rfl rfl (Nat.le_of_ble_eq_true rfl) dX2_fewestQuietVanes_12 ⟨Nat.le_of_ble_eq_true rfl, Nat.le_of_ble_eq_true rfl⟩ (fun H locs hW => ?_)
    have hW : kw D A s.heap (wP c a b (pst θ 1 ((onS 32 (pu (((θ 0))) 11 (kc (1 + k)))).2)) ρ κ) H locs := hW
    have hW : kw D A s.heap (wP c a b (pst θ 1 (trS (θ 0) (1 + k))) ρ κ) H locs := hW
    refine lv_aload_n S.1 S.2.1 dX2_fewestQuietVanes_15 rfl (lv_at hl 0 rfl) ?_
    refine kx_get S hK hW hinX2 0 2 rfl rfl 1 (by decide) (List.mem_of_getElem? (i := 1) rfl) (v := .ref (b 1 0)) rfl dX2_fewestQuietVanes_16 ?_
    refine kx_getN S hK hW hinX1 12 1 rfl rfl 15 (by decide) (hN _ (List.mem_of_getElem? (i := 7) rfl)) (v := .int (nI ((trS (θ 0) (1 + k)) 15 0))) rfl dX2_fewestQuietVanes_19 ?_
    refine lv_aload_n S.1 S.2.1 dX2_fewestQuietVanes_22 rfl (lv_at hl 0 rfl) ?_
    refine kx_get S hK hW hinX2 0 2 rfl rfl 0 (by decide) (List.mem_of_getElem? (i := 2) rfl) (v := .ref (b 0 0)) rfl dX2_fewestQuietVanes_23 ?_
    refine kx_getN S hK hW hinX1 4 1 rfl rfl 15 (by decide) (hN _ (List.mem_of_getElem? (i := 7) rfl)) (v := .int (nI ((θ 0) 15 0))) rfl dX2_fewestQuietVanes_26 ?_
    refine kn_ne S (tgt := 34) dX2_fewestQuietVanes_29 (by decide) (by omega) (by omega) (fun c_29 => ?_) (fun c_29 => ?_)
    · refine lv_iinc (v := nI (1 + (k + 1))) (lv' := [(1, .int (nI (1 + (k + 1)))), (0, .ref (a 0))]) S.1 S.2.1 dX2_fewestQuietVanes_34 hl (k := 1) rfl (nI_add _ _) (by decide) rfl (fun ls hl => ?_)
      refine lv_goto (tgt := 2) S.1 S.2.1 dX2_fewestQuietVanes_37 (by decide) ?_
      exact ih2 (k + 1, trS (θ 0) (1 + k)) _ _ _ ⟨hW, lv_sub hl [1, 0] rfl, (by omega), (hf.trans (fqT_f c_5 c_29))⟩ (by show 9 - (k + 1) < 9 - k; omega)
    · have hf : fqT (θ 0) 9 1 (θ 1) = (1 + k, trS (θ 0) (1 + k)) := hf.trans (fqT_t c_5 c_29)
      refine lv_iload_n S.1 S.2.1 dX2_fewestQuietVanes_32 rfl (lv_at hl 1 rfl) ?_
      exact hret 33 _ _ _ _ _ dX2_fewestQuietVanes_33 hW (congrArg nI (by rw [hf])) (by rw [hf])
abbrev rmX2_fewestVanes : Room := { frames := 7, cells := 0, slots := 0, locals := 158 }
theorem pdX2_fewestVanes : kPd yX2_fewestVanes 0 := by decide +kernel
set_option maxHeartbeats 400000 in
set_option maxRecDepth 100000 in
theorem mX2_fewestVanes (l : Launch) (D : va_G) (c : Nat → ClassId) (a : Nat → Nat) (b : Nat → Nat → Nat) (θ : Nat → Nat → Nat → Nat) (ρ κ : Nat → Nat → Nat) (sz : Nat) (T : Nat) (ok : okS (θ 0) T) (hT : T < 200000000) : MI2 l yX2_fewestVanes wsX2_fewestVanes rmX2_fewestVanes D c sz (wP c a b θ ρ κ) [.ref (a 0)] (nI ((fqT (θ 0) 9 1 (θ 1)).1)) (wP c a b (pst θ 1 ((fqT (θ 0) 9 1 (θ 1)).2)) ρ κ) := by
  refine MI2.of (cc := cX2_fewestVanes) (maxL := 1) (ty := .int) (by decide) rfl (Nat.le_of_ble_eq_true rfl) rfl ?_
  intro P e s m below meth cd A Q ls hsz S hK hN hW hA hl hret
  have hl : lv_has ls 1 [(0, .ref (a 0))] := hl
  refine lv_aload_n S.1 S.2.1 dX2_fewestVanes_0 rfl (lv_at hl 0 rfl) ?_
  refine k_VI2 (rest := []) S hK hl.1 hW (KFr.all hW hA) hN (mX2_fewestQuietVanes l D c a b θ ρ κ _ T ok (by first | omega | exact hT | assumption | (show T < 200000000; omega) | rfl)) gX2_fewestVanes_X2_fewestQuietVanes rfl pdX2_fewestQuietVanes ⟨⟨rfl, rfl⟩, Nat.le_of_ble_eq_true rfl, Nat.le_of_ble_eq_true rfl⟩ 0 2 rfl rfl rfl rfl (Nat.le_of_ble_eq_true rfl) dX2_fewestVanes_1 ⟨Nat.le_of_ble_eq_true rfl, Nat.le_of_ble_eq_true rfl⟩ (fun H locs hW => ?_)
  have hW : kw D A s.heap (wP c a b (pst θ 1 ((fqT (((θ 0))) 9 1 (((θ 1)))).2)) ρ κ) H locs := hW
  refine k_top (y := nI ((fqT (((θ 0))) 9 1 (((θ 1)))).1)) rfl ?_
  exact hret 4 _ _ _ _ _ dX2_fewestVanes_4 hW (rfl) (rfl)
abbrev rmX2_ifPlayed : Room := { frames := 6, cells := 0, slots := 0, locals := 137 }
theorem pdX2_ifPlayed : kPd yX2_ifPlayed 2 := by decide +kernel
set_option maxHeartbeats 400000 in
set_option maxRecDepth 100000 in
theorem mX2_ifPlayed_k (l : Launch) (D : va_G) (c : Nat → ClassId) (a : Nat → Nat) (b : Nat → Nat → Nat) (θ : Nat → Nat → Nat → Nat) (ρ κ : Nat → Nat → Nat) (sz : Nat) (n : Nat) (w : Nat) (T : Nat) (h1_1 : 1 ≤ n) (h1_2 : n ≤ 128) (hw : w < 5) (ok : okS (θ 0) T) (hT : T < 200000000) : MI2 l yX2_ifPlayed wsX2_ifPlayed rmX2_ifPlayed D c sz (wP c a b θ ρ κ) [.ref (a 0), .int (nI (n)), .int (nI (w))] ((if w = 0 then nI ((onS n (pu (θ 0) 11 (kc (θ 0 11 0)))).2 13 0) - nI (θ 0 13 0) else if w = 1 then nI ((onS n (pu (θ 0) 11 (kc (θ 0 11 0)))).2 14 0) - nI (θ 0 14 0) else if w = 2 then nI ((onS n (pu (θ 0) 11 (kc (θ 0 11 0)))).2 15 0) - nI (θ 0 15 0) else if w = 3 then nI ((onS n (pu (θ 0) 11 (kc (θ 0 11 0)))).2 12 0) - nI (θ 0 12 0) else nI (ones ((onS n (pu (θ 0) 11 (kc (θ 0 11 0)))).2 7 0)) - nI (ones (θ 0 7 0)))) (wP c a b (pst θ 1 ((onS n (pu (θ 0) 11 (kc (θ 0 11 0)))).2)) ρ κ) := by
  refine MI2.of (cc := cX2_ifPlayed) (maxL := 3) (ty := .int) (by decide) rfl (Nat.le_of_ble_eq_true rfl) rfl ?_
  intro P e s m below meth cd A Q ls hsz S hK hN hW hA hl hret
  have hl : lv_has ls 3 [(0, .ref (a 0)), (1, .int (nI (n))), (2, .int (nI (w)))] := hl
  have hinX1 : ∀ w ∈ u_ws RX1 TX1 17, w ∈ wsX2_ifPlayed := by decide +kernel
  have hinX2 : ∀ w ∈ u_ws RX2 TX2 10, w ∈ wsX2_ifPlayed := by decide +kernel
  have h1 : inb (nI (n)) (nI (1)) (nI (128)) = true := inb_t h1_1 h1_2 (by decide)
  have h2 : blw (nI (w)) (nI (5)) = true := blw_t hw (by decide)
  have h11 : θ 0 11 0 ≤ 9 := ok.2.2.2.2.2.2.2.2.1
  refine lv_iload_n S.1 S.2.1 dX2_ifPlayed_0 rfl (lv_at hl 1 rfl) ?_
  refine lv_iconst (v := nI (1)) S.1 S.2.1 dX2_ifPlayed_1 rfl ?_
  refine lv_sipush (v := nI (128)) S.1 S.2.1 dX2_ifPlayed_2 rfl ?_
  refine k_SI (rest := []) S hK hl.1 hW (KFr.nil hW hA) (mX2_isWithin l D c  _ (nI (n)) (nI (1)) (nI (128))) gX2_ifPlayed_X2_isWithin rfl pdX2_isWithin ⟨⟨rfl, rfl⟩, Nat.le_of_ble_eq_true rfl, Nat.le_of_ble_eq_true rfl⟩ rfl (Nat.le_of_ble_eq_true rfl) dX2_ifPlayed_5 ⟨Nat.le_of_ble_eq_true rfl, Nat.le_of_ble_eq_true rfl⟩ (fun H locs hW => ?_)
  have hW : kw D A s.heap (wP c a b θ ρ κ) H locs := hW
  refine kb_eq S (tgt := 19) dX2_ifPlayed_8 (by decide) (fun c_8 => ?_) (fun c_8 => ?_)
  · exact absurd (h1.symm.trans c_8) (by decide)
  · refine lv_iload_n S.1 S.2.1 dX2_ifPlayed_11 rfl (lv_at hl 2 rfl) ?_
    refine lv_iconst (v := nI (5)) S.1 S.2.1 dX2_ifPlayed_12 rfl ?_
    refine k_SI (rest := []) S hK hl.1 hW (KFr.nil hW hA) (mX2_isBelow l D c  _ (nI (w)) (nI (5))) gX2_ifPlayed_X2_isBelow rfl pdX2_isBelow ⟨⟨rfl, rfl⟩, Nat.le_of_ble_eq_true rfl, Nat.le_of_ble_eq_true rfl⟩ rfl (Nat.le_of_ble_eq_true rfl) dX2_ifPlayed_13 ⟨Nat.le_of_ble_eq_true rfl, Nat.le_of_ble_eq_true rfl⟩ (fun H locs hW => ?_)
    have hW : kw D A s.heap (wP c a b θ ρ κ) H locs := hW
    refine kb_ne S (tgt := 29) dX2_ifPlayed_16 (by decide) (fun c_16 => ?_) (fun c_16 => ?_)
    · refine lv_aload_n S.1 S.2.1 dX2_ifPlayed_29 rfl (lv_at hl 0 rfl) ?_
      refine lv_iload_n S.1 S.2.1 dX2_ifPlayed_30 rfl (lv_at hl 1 rfl) ?_
      refine lv_aload_n S.1 S.2.1 dX2_ifPlayed_31 rfl (lv_at hl 0 rfl) ?_
      refine kx_get S hK hW hinX2 0 2 rfl rfl 0 (by decide) (List.mem_of_getElem? (i := 3) rfl) (v := .ref (b 0 0)) rfl dX2_ifPlayed_32 ?_
      refine kx_getN S hK hW hinX1 4 1 rfl rfl 11 (by decide) (hN _ (List.mem_of_getElem? (i := 3) rfl)) (v := .int (nI ((θ 0) 11 0))) rfl dX2_ifPlayed_35 ?_
      refine k_VV2 (rest := []) S hK hl.1 hW (KFr.all hW hA) hN (mX2_tryOut l D c a b θ ρ κ _ n ((θ 0) 11 0) T (by first | omega | exact hn | assumption | (show n < 200; omega) | rfl) (by first | omega | exact hv | assumption | (show ((θ 0) 11 0) ≤ 9; omega) | rfl) ok (by first | omega | exact hT | assumption | (show T < 200000000; omega) | rfl)) gX2_ifPlayed_X2_tryOut rfl pdX2_tryOut ⟨⟨rfl, rfl⟩, Nat.le_of_ble_eq_true rfl, Nat.le_of_ble_eq_true rfl⟩ 0 2 rfl rfl rfl rfl (Nat.le_of_ble_eq_true rfl) dX2_ifPlayed_38 ⟨Nat.le_of_ble_eq_true rfl, Nat.le_of_ble_eq_true rfl⟩ (fun H locs hW => ?_)
      have hW : kw D A s.heap (wP c a b (pst θ 1 ((onS n (pu (((θ 0))) 11 (kc ((θ 0) 11 0)))).2)) ρ κ) H locs := hW
      refine lv_aload_n S.1 S.2.1 dX2_ifPlayed_41 rfl (lv_at hl 0 rfl) ?_
      refine lv_iload_n S.1 S.2.1 dX2_ifPlayed_42 rfl (lv_at hl 2 rfl) ?_
      refine k_VI2 (rest := []) S hK hl.1 hW (KFr.all hW hA) hN (mX2_outcome l D c a b ((pst θ 1 ((onS n (pu (((θ 0))) 11 (kc ((θ 0) 11 0)))).2))) ρ κ _ w T (T + 45 * n) (by first | omega | exact hw | assumption | (show w < 5; omega) | rfl) ok (onS_ok n (ok.p11 h11))) gX2_ifPlayed_X2_outcome rfl pdX2_outcome ⟨⟨rfl, rfl⟩, Nat.le_of_ble_eq_true rfl, Nat.le_of_ble_eq_true rfl⟩ 0 2 rfl rfl rfl rfl (Nat.le_of_ble_eq_true rfl) dX2_ifPlayed_43 ⟨Nat.le_of_ble_eq_true rfl, Nat.le_of_ble_eq_true rfl⟩ (fun H locs hW => ?_)
      have hW : kw D A s.heap (wP c a b (pst θ 1 ((onS n (pu (((θ 0))) 11 (kc ((θ 0) 11 0)))).2)) ρ κ) H locs := hW
      refine k_top (y := (if w = 0 then nI ((((onS n (pu (((θ 0))) 11 (kc ((θ 0) 11 0)))).2)) 13 0) - nI (((θ 0)) 13 0) else if w = 1 then nI ((((onS n (pu (((θ 0))) 11 (kc ((θ 0) 11 0)))).2)) 14 0) - nI (((θ 0)) 14 0) else if w = 2 then nI ((((onS n (pu (((θ 0))) 11 (kc ((θ 0) 11 0)))).2)) 15 0) - nI (((θ 0)) 15 0) else if w = 3 then nI ((((onS n (pu (((θ 0))) 11 (kc ((θ 0) 11 0)))).2)) 12 0) - nI (((θ 0)) 12 0) else nI (ones ((((onS n (pu (((θ 0))) 11 (kc ((θ 0) 11 0)))).2)) 7 0)) - nI (ones (((θ 0)) 7 0)))) rfl ?_
      exact hret 46 _ _ _ _ _ dX2_ifPlayed_46 hW (rfl) (rfl)
    · exact absurd (h2.symm.trans c_16) (by decide)
