abbrev rmX3_readSteps : Room := { frames := 4, cells := 0, slots := 0, locals := 92 }
theorem pdX3_readSteps : kPd yX3_readSteps 3 := by decide +kernel
set_option maxHeartbeats 400000 in
set_option maxRecDepth 100000 in
theorem mX3_readSteps_f (l : Launch) (D : va_G) (c : Nat → ClassId) (a : Nat → Nat) (φ : Nat → Nat → Nat) (δ : Int64) (sz : Nat) (w : Bool) (t : Int32) (j : Int32) (hw : φ 10 0 = w.toNat) (hm : φ 8 0 ≤ 60) (hs : φ 9 0 < 700) : MV l yX3_readSteps wsX3_readSteps rmX3_readSteps D c sz (wM c a φ δ) [.ref (a 0), .int (t), .int (j), .int (nI (0))]  (wM c a (pu (pu φ 9 (kc (rsS (φ 4) (φ 8 0) (φ 9 0) w))) 10 (kc ((rsW (φ 4) (φ 8 0) (φ 9 0) w).toNat))) δ) := by
  refine MV.of (cc := cX3_readSteps) (maxL := 7) (by decide) rfl (Nat.le_of_ble_eq_true rfl) ?_
  intro P e s m below meth cd A Q ls hsz S hK hW hA hl hret
  have hl : lv_has ls 7 [(0, .ref (a 0)), (1, .int (t)), (2, .int (j)), (3, .int (nI (0)))] := hl
  have hinX3 : ∀ w ∈ u_ws RX3 TX3 13, w ∈ wsX3_readSteps := by decide +kernel
  have hS1 : φ 9 0 ≤ rsS1 (φ 4) (φ 8 0) (φ 9 0) w ∧ rsS1 (φ 4) (φ 8 0) (φ 9 0) w ≤ φ 9 0 + 2 := nmS2_le _ _ _ _ _ _
  refine lv_aload_n S.1 S.2.1 dX3_readSteps_0 rfl (lv_at hl 0 rfl) ?_
  refine lv_iconst (v := nI (0)) S.1 S.2.1 dX3_readSteps_1 rfl ?_
  refine lv_bipush (v := nI (31)) S.1 S.2.1 dX3_readSteps_2 rfl ?_
  refine k_VI (rest := []) S hK hl.1 hW (KFr.all hW hA) (mX3_number l D c a φ δ _ w (nI (0)) (nI (31)) (by first | omega | exact hw | assumption | (show φ 10 0 = w.toNat; omega) | rfl) (by first | omega | exact hm | assumption | (show φ 8 0 ≤ 60; omega) | rfl) (by first | omega | exact hs | assumption | (show φ 9 0 < 900; omega) | rfl)) gX3_readSteps_X3_number rfl pdX3_number ⟨⟨rfl, rfl⟩, Nat.le_of_ble_eq_true rfl, Nat.le_of_ble_eq_true rfl⟩ 0 3 rfl rfl rfl rfl (Nat.le_of_ble_eq_true rfl) dX3_readSteps_4 ⟨Nat.le_of_ble_eq_true rfl, Nat.le_of_ble_eq_true rfl⟩ (fun H locs hW => ?_)
  have hW : kw D A s.heap (wM c a (pu (pu φ 9 (kc (nmS2 (φ 4) (φ 8 0) (φ 9 0) w (nI (0)) (nI (31))))) 10 (kc ((nmW2 (φ 4) (φ 8 0) (φ 9 0) w (nI (0)) (nI (31))).toNat))) δ) H locs := hW
  refine k_top (y := rsF (φ 4) (φ 8 0) (φ 9 0) w) (rfl) ?_
  have hW : kw D A s.heap (wM c a (pu (pu φ 9 (kc (rsS1 (φ 4) (φ 8 0) (φ 9 0) w))) 10 (kc ((rsW1 (φ 4) (φ 8 0) (φ 9 0) w).toNat))) δ) H locs := hW
  refine lv_istore (lv' := [(4, .int (rsF (φ 4) (φ 8 0) (φ 9 0) w)), (0, .ref (a 0)), (1, .int (t)), (2, .int (j)), (3, .int (nI (0)))]) S.1 S.2.1 dX3_readSteps_7 hl (by decide) rfl (fun ls hl => ?_)
  refine lv_iload S.1 S.2.1 dX3_readSteps_9 (lv_at hl 0 rfl) ?_
  refine lv_istore (lv' := [(5, .int (rsF (φ 4) (φ 8 0) (φ 9 0) w)), (4, .int (rsF (φ 4) (φ 8 0) (φ 9 0) w)), (0, .ref (a 0)), (1, .int (t)), (2, .int (j)), (3, .int (nI (0)))]) S.1 S.2.1 dX3_readSteps_11 hl (by decide) rfl (fun ls hl => ?_)
  refine lv_iload S.1 S.2.1 dX3_readSteps_13 (lv_at hl 1 rfl) ?_
  refine lv_bipush (v := nI (31)) S.1 S.2.1 dX3_readSteps_15 rfl ?_
  refine lv_icmp_ge (tgt := 53) S.1 S.2.1 dX3_readSteps_17 (by decide) (fun c_17 => ?_) (fun c_17 => ?_)
  · have hC : rsC (φ 4) (φ 8 0) (φ 9 0) w = false := rsC_1 c_17
    have hW : kw D A s.heap (wM c a (pu (pu φ 9 (kc (rsS (φ 4) (φ 8 0) (φ 9 0) w))) 10 (kc ((rsW (φ 4) (φ 8 0) (φ 9 0) w).toNat))) δ) H locs := by (rw [show rsS (φ 4) (φ 8 0) (φ 9 0) w = rsS1 (φ 4) (φ 8 0) (φ 9 0) w from (by first | exact (rs_f hC).1 | exact (rs_t hC).1), show rsW (φ 4) (φ 8 0) (φ 9 0) w = (rsW1 (φ 4) (φ 8 0) (φ 9 0) w) from (by first | exact (rs_f hC).2.1 | exact (rs_t hC).2.1)]; exact hW)
    refine lv_iload S.1 S.2.1 dX3_readSteps_53 (lv_at hl 1 rfl) ?_
    refine lv_istore (lv' := [(6, .int (rsF (φ 4) (φ 8 0) (φ 9 0) w)), (5, .int (rsF (φ 4) (φ 8 0) (φ 9 0) w)), (4, .int (rsF (φ 4) (φ 8 0) (φ 9 0) w)), (0, .ref (a 0)), (1, .int (t)), (2, .int (j)), (3, .int (nI (0)))]) S.1 S.2.1 dX3_readSteps_55 hl (by decide) rfl (fun ls hl => ?_)
    refine lv_iload S.1 S.2.1 dX3_readSteps_57 (lv_at hl 0 rfl) ?_
    refine lv_iload S.1 S.2.1 dX3_readSteps_59 (lv_at hl 1 rfl) ?_
    refine k_top (y := rsT (φ 4) (φ 8 0) (φ 9 0) w) (by first | exact (rs_f hC).2.2.symm | exact (rs_t hC).2.2.symm) ?_
    refine lv_icmp_gt (tgt := 112) S.1 S.2.1 dX3_readSteps_61 (by decide) (fun c_61 => ?_) (fun c_61 => ?_)
    · exact hret 112 _ _ _ _ dX3_readSteps_112 hW (rfl)
    · refine lv_iload_n S.1 S.2.1 dX3_readSteps_64 rfl (lv_at hl 6 rfl) ?_
      refine kz_eq S (tgt := 112) dX3_readSteps_65 (by decide) (by omega) (fun c_65 => ?_) (fun c_65 => ?_)
      · exact hret 112 _ _ _ _ dX3_readSteps_112 hW (rfl)
      · exact absurd c_65 (by decide)
  · refine lv_aload_n S.1 S.2.1 dX3_readSteps_20 rfl (lv_at hl 2 rfl) ?_
    refine lv_bipush (v := nI (45)) S.1 S.2.1 dX3_readSteps_21 rfl ?_
    refine lv_bipush (v := nI (45)) S.1 S.2.1 dX3_readSteps_23 rfl ?_
    refine k_VI (rest := []) S hK hl.1 hW (KFr.all hW hA) (mX3_isNext l D c a ((pu (pu φ 9 (kc (rsS1 (φ 4) (φ 8 0) (φ 9 0) w))) 10 (kc ((rsW1 (φ 4) (φ 8 0) (φ 9 0) w).toNat)))) δ _ (rsW1 (φ 4) (φ 8 0) (φ 9 0) w) (nI (45)) (nI (45)) (by first | omega | exact hw | assumption | (show ((rsW1 (φ 4) (φ 8 0) (φ 9 0) w).toNat) = (rsW1 (φ 4) (φ 8 0) (φ 9 0) w).toNat; omega) | rfl) (by first | omega | exact hm | assumption | (show (φ 8 0) ≤ 60; omega) | rfl) (by first | omega | exact hs | assumption | (show (rsS1 (φ 4) (φ 8 0) (φ 9 0) w) < 1000; omega) | rfl)) gX3_readSteps_X3_isNext rfl pdX3_isNext ⟨⟨rfl, rfl⟩, Nat.le_of_ble_eq_true rfl, Nat.le_of_ble_eq_true rfl⟩ 0 3 rfl rfl rfl rfl (Nat.le_of_ble_eq_true rfl) dX3_readSteps_25 ⟨Nat.le_of_ble_eq_true rfl, Nat.le_of_ble_eq_true rfl⟩ (fun H locs hW => ?_)
    have hW : kw D A s.heap (wM c a (pu (pu φ 9 (kc (rsS1 (φ 4) (φ 8 0) (φ 9 0) w))) 10 (kc ((rsW1 (φ 4) (φ 8 0) (φ 9 0) w).toNat))) δ) H locs := hW
    refine k_top (y := nI ((nxb ((φ 4)) ((φ 8 0)) ((rsS1 (φ 4) (φ 8 0) (φ 9 0) w)) (rsW1 (φ 4) (φ 8 0) (φ 9 0) w) (nI (45)) (nI (45))).toNat)) rfl ?_
    refine kb_eq S (tgt := 53) dX3_readSteps_28 (by decide) (fun c_28 => ?_) (fun c_28 => ?_)
    · have hC : rsC (φ 4) (φ 8 0) (φ 9 0) w = false := rsC_2 c_28
      have hW : kw D A s.heap (wM c a (pu (pu φ 9 (kc (rsS (φ 4) (φ 8 0) (φ 9 0) w))) 10 (kc ((rsW (φ 4) (φ 8 0) (φ 9 0) w).toNat))) δ) H locs := by (rw [show rsS (φ 4) (φ 8 0) (φ 9 0) w = rsS1 (φ 4) (φ 8 0) (φ 9 0) w from (by first | exact (rs_f hC).1 | exact (rs_t hC).1), show rsW (φ 4) (φ 8 0) (φ 9 0) w = (rsW1 (φ 4) (φ 8 0) (φ 9 0) w) from (by first | exact (rs_f hC).2.1 | exact (rs_t hC).2.1)]; exact hW)
      refine lv_iload S.1 S.2.1 dX3_readSteps_53 (lv_at hl 1 rfl) ?_
      refine lv_istore (lv' := [(6, .int (rsF (φ 4) (φ 8 0) (φ 9 0) w)), (5, .int (rsF (φ 4) (φ 8 0) (φ 9 0) w)), (4, .int (rsF (φ 4) (φ 8 0) (φ 9 0) w)), (0, .ref (a 0)), (1, .int (t)), (2, .int (j)), (3, .int (nI (0)))]) S.1 S.2.1 dX3_readSteps_55 hl (by decide) rfl (fun ls hl => ?_)
      refine lv_iload S.1 S.2.1 dX3_readSteps_57 (lv_at hl 0 rfl) ?_
      refine lv_iload S.1 S.2.1 dX3_readSteps_59 (lv_at hl 1 rfl) ?_
      refine k_top (y := rsT (φ 4) (φ 8 0) (φ 9 0) w) (by first | exact (rs_f hC).2.2.symm | exact (rs_t hC).2.2.symm) ?_
      refine lv_icmp_gt (tgt := 112) S.1 S.2.1 dX3_readSteps_61 (by decide) (fun c_61 => ?_) (fun c_61 => ?_)
      · exact hret 112 _ _ _ _ dX3_readSteps_112 hW (rfl)
      · refine lv_iload_n S.1 S.2.1 dX3_readSteps_64 rfl (lv_at hl 6 rfl) ?_
        refine kz_eq S (tgt := 112) dX3_readSteps_65 (by decide) (by omega) (fun c_65 => ?_) (fun c_65 => ?_)
        · exact hret 112 _ _ _ _ dX3_readSteps_112 hW (rfl)
        · exact absurd c_65 (by decide)
    · have hC : rsC (φ 4) (φ 8 0) (φ 9 0) w = true := rsC_3 c_17 c_28
      refine lv_aload_n S.1 S.2.1 dX3_readSteps_31 rfl (lv_at hl 2 rfl) ?_
      refine lv_dup S.1 S.2.1 dX3_readSteps_32 rfl ?_
      refine kx_get S hK hW hinX3 0 3 rfl rfl 9 (by decide) (List.mem_of_getElem? (i := 1) rfl) (v := .int (nI (rsS1 (φ 4) (φ 8 0) (φ 9 0) w))) rfl dX3_readSteps_33 ?_
      refine lv_iconst (v := nI (1)) S.1 S.2.1 dX3_readSteps_36 rfl ?_
      refine kn_iadd S dX3_readSteps_37 ?_
      refine kx_put S hK hW hinX3 tyX3_ok nmX3 0 3 rfl rfl 9 (by decide) (List.mem_of_getElem? (i := 1) rfl) rfl (v := .int (nI (rsS1 (φ 4) (φ 8 0) (φ 9 0) w + 1))) rfl rfl (Nat.le_of_ble_eq_true rfl) dX3_readSteps_38 (fun H locs hW => ?_)
      have hW : kw D A s.heap (wM c a (pu (pu φ 10 (kc ((rsW1 (φ 4) (φ 8 0) (φ 9 0) w).toNat))) 9 (kc (rsS1 (φ 4) (φ 8 0) (φ 9 0) w + 1))) δ) H locs := hW
      refine lv_aload_n S.1 S.2.1 dX3_readSteps_41 rfl (lv_at hl 2 rfl) ?_
      refine lv_iload S.1 S.2.1 dX3_readSteps_42 (lv_at hl 1 rfl) ?_
      refine lv_iconst (v := nI (1)) S.1 S.2.1 dX3_readSteps_44 rfl ?_
      refine lv_iadd S.1 S.2.1 dX3_readSteps_45 ?_
      refine lv_bipush (v := nI (31)) S.1 S.2.1 dX3_readSteps_46 rfl ?_
      refine k_VI (rest := []) S hK hl.1 hW (KFr.all hW hA) (mX3_number l D c a ((pu (pu φ 10 (kc ((rsW1 (φ 4) (φ 8 0) (φ 9 0) w).toNat))) 9 (kc (rsS1 (φ 4) (φ 8 0) (φ 9 0) w + 1)))) δ _ (rsW1 (φ 4) (φ 8 0) (φ 9 0) w) ((rsF (φ 4) (φ 8 0) (φ 9 0) w) + (nI (1))) (nI (31)) (by first | omega | exact hw | assumption | (show ((rsW1 (φ 4) (φ 8 0) (φ 9 0) w).toNat) = (rsW1 (φ 4) (φ 8 0) (φ 9 0) w).toNat; omega) | rfl) (by first | omega | exact hm | assumption | (show (φ 8 0) ≤ 60; omega) | rfl) (by first | omega | exact hs | assumption | (show (rsS1 (φ 4) (φ 8 0) (φ 9 0) w + 1) < 900; omega) | rfl)) gX3_readSteps_X3_number rfl pdX3_number ⟨⟨rfl, rfl⟩, Nat.le_of_ble_eq_true rfl, Nat.le_of_ble_eq_true rfl⟩ 0 3 rfl rfl rfl rfl (Nat.le_of_ble_eq_true rfl) dX3_readSteps_48 ⟨Nat.le_of_ble_eq_true rfl, Nat.le_of_ble_eq_true rfl⟩ (fun H locs hW => ?_)
      have hW : kw D A s.heap (wM c a (pu (pu φ 9 (kc (nmS2 ((φ 4)) ((φ 8 0)) ((rsS1 (φ 4) (φ 8 0) (φ 9 0) w + 1)) (rsW1 (φ 4) (φ 8 0) (φ 9 0) w) ((rsF (φ 4) (φ 8 0) (φ 9 0) w) + (nI (1))) (nI (31))))) 10 (kc ((nmW2 ((φ 4)) ((φ 8 0)) ((rsS1 (φ 4) (φ 8 0) (φ 9 0) w + 1)) (rsW1 (φ 4) (φ 8 0) (φ 9 0) w) ((rsF (φ 4) (φ 8 0) (φ 9 0) w) + (nI (1))) (nI (31))).toNat))) δ) H locs := hW
      refine k_top (y := nmV2 ((φ 4)) ((φ 8 0)) ((rsS1 (φ 4) (φ 8 0) (φ 9 0) w + 1)) (rsW1 (φ 4) (φ 8 0) (φ 9 0) w) ((rsF (φ 4) (φ 8 0) (φ 9 0) w) + (nI (1))) (nI (31))) rfl ?_
      refine lv_istore (lv' := [(5, .int (nmV2 ((φ 4)) ((φ 8 0)) ((rsS1 (φ 4) (φ 8 0) (φ 9 0) w + 1)) (rsW1 (φ 4) (φ 8 0) (φ 9 0) w) ((rsF (φ 4) (φ 8 0) (φ 9 0) w) + (nI (1))) (nI (31)))), (4, .int (rsF (φ 4) (φ 8 0) (φ 9 0) w)), (0, .ref (a 0)), (1, .int (t)), (2, .int (j)), (3, .int (nI (0)))]) S.1 S.2.1 dX3_readSteps_51 hl (by decide) rfl (fun ls hl => ?_)
      have hW : kw D A s.heap (wM c a (pu (pu φ 9 (kc (rsS (φ 4) (φ 8 0) (φ 9 0) w))) 10 (kc ((rsW (φ 4) (φ 8 0) (φ 9 0) w).toNat))) δ) H locs := by (rw [show rsS (φ 4) (φ 8 0) (φ 9 0) w = nmS2 ((φ 4)) ((φ 8 0)) ((rsS1 (φ 4) (φ 8 0) (φ 9 0) w + 1)) (rsW1 (φ 4) (φ 8 0) (φ 9 0) w) ((rsF (φ 4) (φ 8 0) (φ 9 0) w) + (nI (1))) (nI (31)) from (by first | exact (rs_f hC).1 | exact (rs_t hC).1), show rsW (φ 4) (φ 8 0) (φ 9 0) w = (nmW2 ((φ 4)) ((φ 8 0)) ((rsS1 (φ 4) (φ 8 0) (φ 9 0) w + 1)) (rsW1 (φ 4) (φ 8 0) (φ 9 0) w) ((rsF (φ 4) (φ 8 0) (φ 9 0) w) + (nI (1))) (nI (31))) from (by first | exact (rs_f hC).2.1 | exact (rs_t hC).2.1)]; exact hW)
      refine lv_iload S.1 S.2.1 dX3_readSteps_53 (lv_at hl 1 rfl) ?_
      refine lv_istore (lv' := [(6, .int (rsF (φ 4) (φ 8 0) (φ 9 0) w)), (5, .int (nmV2 ((φ 4)) ((φ 8 0)) ((rsS1 (φ 4) (φ 8 0) (φ 9 0) w + 1)) (rsW1 (φ 4) (φ 8 0) (φ 9 0) w) ((rsF (φ 4) (φ 8 0) (φ 9 0) w) + (nI (1))) (nI (31)))), (4, .int (rsF (φ 4) (φ 8 0) (φ 9 0) w)), (0, .ref (a 0)), (1, .int (t)), (2, .int (j)), (3, .int (nI (0)))]) S.1 S.2.1 dX3_readSteps_55 hl (by decide) rfl (fun ls hl => ?_)
      refine lv_iload S.1 S.2.1 dX3_readSteps_57 (lv_at hl 0 rfl) ?_
      refine lv_iload S.1 S.2.1 dX3_readSteps_59 (lv_at hl 1 rfl) ?_
      refine k_top (y := rsT (φ 4) (φ 8 0) (φ 9 0) w) (by first | exact (rs_f hC).2.2.symm | exact (rs_t hC).2.2.symm) ?_
      refine lv_icmp_gt (tgt := 112) S.1 S.2.1 dX3_readSteps_61 (by decide) (fun c_61 => ?_) (fun c_61 => ?_)
      · exact hret 112 _ _ _ _ dX3_readSteps_112 hW (rfl)
      · refine lv_iload_n S.1 S.2.1 dX3_readSteps_64 rfl (lv_at hl 6 rfl) ?_
        refine kz_eq S (tgt := 112) dX3_readSteps_65 (by decide) (by omega) (fun c_65 => ?_) (fun c_65 => ?_)
        · exact hret 112 _ _ _ _ dX3_readSteps_112 hW (rfl)
        · exact absurd c_65 (by decide)
abbrev rmX3_readPart : Room := { frames := 5, cells := 0, slots := 0, locals := 118 }
theorem pdX3_readPart : kPd yX3_readPart 1 := by decide +kernel
set_option maxHeartbeats 400000 in
set_option maxRecDepth 100000 in
theorem mX3_readPart_f (l : Launch) (D : va_G) (c : Nat → ClassId) (a : Nat → Nat) (φ : Nat → Nat → Nat) (δ : Int64) (sz : Nat) (w : Bool) (hw : φ 10 0 = w.toNat) (hm : φ 8 0 ≤ 60) (hs : φ 9 0 < 100) : MV l yX3_readPart wsX3_readPart rmX3_readPart D c sz (wM c a φ δ) [.ref (a 0), .int (nI (0))]  (wM c a (pu (pu φ 9 (kc ((rpx (φ 4) (φ 8 0) (φ 9 0, w)).1))) 10 (kc (((rpx (φ 4) (φ 8 0) (φ 9 0, w)).2).toNat))) δ) := by
  refine MV.of (cc := cX3_readPart) (maxL := 5) (by decide) rfl (Nat.le_of_ble_eq_true rfl) ?_
  intro P e s m below meth cd A Q ls hsz S hK hW hA hl hret
  have hl : lv_has ls 5 [(0, .ref (a 0)), (1, .int (nI (0)))] := hl
  have hinX3 : ∀ w ∈ u_ws RX3 TX3 13, w ∈ wsX3_readPart := by decide +kernel
  have hq := rq_le (φ 4) (φ 8 0) (φ 9 0, w)
  dsimp only at hq
  refine lv_aload_n S.1 S.2.1 dX3_readPart_0 rfl (lv_at hl 0 rfl) ?_
  refine lv_bipush (v := nI (48)) S.1 S.2.1 dX3_readPart_1 rfl ?_
  refine lv_bipush (v := nI (50)) S.1 S.2.1 dX3_readPart_3 rfl ?_
  refine k_VI (rest := []) S hK hl.1 hW (KFr.all hW hA) (mX3_takes l D c a φ δ _ w (nI (48)) (nI (50)) (by first | omega | exact hw | assumption | (show φ 10 0 = w.toNat; omega) | rfl) (by first | omega | exact hm | assumption | (show φ 8 0 ≤ 60; omega) | rfl) (by first | omega | exact hs | assumption | (show φ 9 0 < 1000; omega) | rfl)) gX3_readPart_X3_takes rfl pdX3_takes ⟨⟨rfl, rfl⟩, Nat.le_of_ble_eq_true rfl, Nat.le_of_ble_eq_true rfl⟩ 0 3 rfl rfl rfl rfl (Nat.le_of_ble_eq_true rfl) dX3_readPart_5 ⟨Nat.le_of_ble_eq_true rfl, Nat.le_of_ble_eq_true rfl⟩ (fun H locs hW => ?_)
  have hW : kw D A s.heap (wM c a (pu (pu φ 9 (kc (φ 9 0 + (nxb (φ 4) (φ 8 0) (φ 9 0) w (nI (48)) (nI (50))).toNat))) 10 (kc ((w || !(nxb (φ 4) (φ 8 0) (φ 9 0) w (nI (48)) (nI (50)))).toNat))) δ) H locs := hW
  have hW : kw D A s.heap (wM c a (pu (pu φ 9 (kc ((rq1 (φ 4) (φ 8 0) (φ 9 0, w)).1))) 10 (kc (((rq1 (φ 4) (φ 8 0) (φ 9 0, w)).2).toNat))) δ) H locs := hW
  refine lv_istore_n (lv' := [(2, .int (tkv (φ 4) (φ 8 0) (φ 9 0) w (nI (48)) (nI (50)))), (0, .ref (a 0)), (1, .int (nI (0)))]) S.1 S.2.1 dX3_readPart_8 rfl hl (by decide) rfl (fun ls hl => ?_)
  refine lv_aload_n S.1 S.2.1 dX3_readPart_9 rfl (lv_at hl 1 rfl) ?_
  refine lv_bipush (v := nI (47)) S.1 S.2.1 dX3_readPart_10 rfl ?_
  refine lv_bipush (v := nI (47)) S.1 S.2.1 dX3_readPart_12 rfl ?_
  refine k_VI (rest := []) S hK hl.1 hW (KFr.all hW hA) (mX3_takes l D c a ((pu (pu φ 9 (kc ((rq1 (φ 4) (φ 8 0) (φ 9 0, w)).1))) 10 (kc (((rq1 (φ 4) (φ 8 0) (φ 9 0, w)).2).toNat)))) δ _ ((rq1 (φ 4) (φ 8 0) (φ 9 0, w)).2) (nI (47)) (nI (47)) (by first | omega | exact hw | assumption | (show (((rq1 (φ 4) (φ 8 0) (φ 9 0, w)).2).toNat) = ((rq1 (φ 4) (φ 8 0) (φ 9 0, w)).2).toNat; omega) | rfl) (by first | omega | exact hm | assumption | (show (φ 8 0) ≤ 60; omega) | rfl) (by first | omega | exact hs | assumption | (show ((rq1 (φ 4) (φ 8 0) (φ 9 0, w)).1) < 1000; omega) | rfl)) gX3_readPart_X3_takes rfl pdX3_takes ⟨⟨rfl, rfl⟩, Nat.le_of_ble_eq_true rfl, Nat.le_of_ble_eq_true rfl⟩ 0 3 rfl rfl rfl rfl (Nat.le_of_ble_eq_true rfl) dX3_readPart_14 ⟨Nat.le_of_ble_eq_true rfl, Nat.le_of_ble_eq_true rfl⟩ (fun H locs hW => ?_)
  have hW : kw D A s.heap (wM c a (pu (pu φ 9 (kc (((rq1 (φ 4) (φ 8 0) (φ 9 0, w)).1) + (nxb ((φ 4)) ((φ 8 0)) (((rq1 (φ 4) (φ 8 0) (φ 9 0, w)).1)) ((rq1 (φ 4) (φ 8 0) (φ 9 0, w)).2) (nI (47)) (nI (47))).toNat))) 10 (kc ((((rq1 (φ 4) (φ 8 0) (φ 9 0, w)).2) || !(nxb ((φ 4)) ((φ 8 0)) (((rq1 (φ 4) (φ 8 0) (φ 9 0, w)).1)) ((rq1 (φ 4) (φ 8 0) (φ 9 0, w)).2) (nI (47)) (nI (47)))).toNat))) δ) H locs := hW
  refine k_top (y := tkv ((φ 4)) ((φ 8 0)) (((rq1 (φ 4) (φ 8 0) (φ 9 0, w)).1)) ((rq1 (φ 4) (φ 8 0) (φ 9 0, w)).2) (nI (47)) (nI (47))) rfl ?_
  have hW : kw D A s.heap (wM c a (pu (pu φ 9 (kc ((rq2 (φ 4) (φ 8 0) (φ 9 0, w)).1))) 10 (kc (((rq2 (φ 4) (φ 8 0) (φ 9 0, w)).2).toNat))) δ) H locs := hW
  refine lv_istore_n (lv' := [(3, .int (tkv ((φ 4)) ((φ 8 0)) (((rq1 (φ 4) (φ 8 0) (φ 9 0, w)).1)) ((rq1 (φ 4) (φ 8 0) (φ 9 0, w)).2) (nI (47)) (nI (47)))), (2, .int (tkv (φ 4) (φ 8 0) (φ 9 0) w (nI (48)) (nI (50)))), (0, .ref (a 0)), (1, .int (nI (0)))]) S.1 S.2.1 dX3_readPart_17 rfl hl (by decide) rfl (fun ls hl => ?_)
  refine lv_aload_n S.1 S.2.1 dX3_readPart_18 rfl (lv_at hl 2 rfl) ?_
  refine lv_iconst (v := nI (0)) S.1 S.2.1 dX3_readPart_19 rfl ?_
  refine lv_bipush (v := nI (11)) S.1 S.2.1 dX3_readPart_20 rfl ?_
  refine k_VI (rest := []) S hK hl.1 hW (KFr.all hW hA) (mX3_number l D c a ((pu (pu φ 9 (kc ((rq2 (φ 4) (φ 8 0) (φ 9 0, w)).1))) 10 (kc (((rq2 (φ 4) (φ 8 0) (φ 9 0, w)).2).toNat)))) δ _ ((rq2 (φ 4) (φ 8 0) (φ 9 0, w)).2) (nI (0)) (nI (11)) (by first | omega | exact hw | assumption | (show (((rq2 (φ 4) (φ 8 0) (φ 9 0, w)).2).toNat) = ((rq2 (φ 4) (φ 8 0) (φ 9 0, w)).2).toNat; omega) | rfl) (by first | omega | exact hm | assumption | (show (φ 8 0) ≤ 60; omega) | rfl) (by first | omega | exact hs | assumption | (show ((rq2 (φ 4) (φ 8 0) (φ 9 0, w)).1) < 900; omega) | rfl)) gX3_readPart_X3_number rfl pdX3_number ⟨⟨rfl, rfl⟩, Nat.le_of_ble_eq_true rfl, Nat.le_of_ble_eq_true rfl⟩ 0 3 rfl rfl rfl rfl (Nat.le_of_ble_eq_true rfl) dX3_readPart_22 ⟨Nat.le_of_ble_eq_true rfl, Nat.le_of_ble_eq_true rfl⟩ (fun H locs hW => ?_)
  have hW : kw D A s.heap (wM c a (pu (pu φ 9 (kc (nmS2 ((φ 4)) ((φ 8 0)) (((rq2 (φ 4) (φ 8 0) (φ 9 0, w)).1)) ((rq2 (φ 4) (φ 8 0) (φ 9 0, w)).2) (nI (0)) (nI (11))))) 10 (kc ((nmW2 ((φ 4)) ((φ 8 0)) (((rq2 (φ 4) (φ 8 0) (φ 9 0, w)).1)) ((rq2 (φ 4) (φ 8 0) (φ 9 0, w)).2) (nI (0)) (nI (11))).toNat))) δ) H locs := hW
  refine k_top (y := nmV2 ((φ 4)) ((φ 8 0)) (((rq2 (φ 4) (φ 8 0) (φ 9 0, w)).1)) ((rq2 (φ 4) (φ 8 0) (φ 9 0, w)).2) (nI (0)) (nI (11))) rfl ?_
  have hW : kw D A s.heap (wM c a (pu (pu φ 9 (kc ((rq3 (φ 4) (φ 8 0) (φ 9 0, w)).1))) 10 (kc (((rq3 (φ 4) (φ 8 0) (φ 9 0, w)).2).toNat))) δ) H locs := hW
  refine lv_istore (lv' := [(4, .int (nmV2 ((φ 4)) ((φ 8 0)) (((rq2 (φ 4) (φ 8 0) (φ 9 0, w)).1)) ((rq2 (φ 4) (φ 8 0) (φ 9 0, w)).2) (nI (0)) (nI (11)))), (3, .int (tkv ((φ 4)) ((φ 8 0)) (((rq1 (φ 4) (φ 8 0) (φ 9 0, w)).1)) ((rq1 (φ 4) (φ 8 0) (φ 9 0, w)).2) (nI (47)) (nI (47)))), (2, .int (tkv (φ 4) (φ 8 0) (φ 9 0) w (nI (48)) (nI (50)))), (0, .ref (a 0)), (1, .int (nI (0)))]) S.1 S.2.1 dX3_readPart_25 hl (by decide) rfl (fun ls hl => ?_)
  refine lv_aload_n S.1 S.2.1 dX3_readPart_27 rfl (lv_at hl 3 rfl) ?_
  refine lv_bipush (v := nI (58)) S.1 S.2.1 dX3_readPart_28 rfl ?_
  refine lv_bipush (v := nI (58)) S.1 S.2.1 dX3_readPart_30 rfl ?_
  refine k_VI (rest := []) S hK hl.1 hW (KFr.all hW hA) (mX3_takes l D c a ((pu (pu φ 9 (kc ((rq3 (φ 4) (φ 8 0) (φ 9 0, w)).1))) 10 (kc (((rq3 (φ 4) (φ 8 0) (φ 9 0, w)).2).toNat)))) δ _ ((rq3 (φ 4) (φ 8 0) (φ 9 0, w)).2) (nI (58)) (nI (58)) (by first | omega | exact hw | assumption | (show (((rq3 (φ 4) (φ 8 0) (φ 9 0, w)).2).toNat) = ((rq3 (φ 4) (φ 8 0) (φ 9 0, w)).2).toNat; omega) | rfl) (by first | omega | exact hm | assumption | (show (φ 8 0) ≤ 60; omega) | rfl) (by first | omega | exact hs | assumption | (show ((rq3 (φ 4) (φ 8 0) (φ 9 0, w)).1) < 1000; omega) | rfl)) gX3_readPart_X3_takes rfl pdX3_takes ⟨⟨rfl, rfl⟩, Nat.le_of_ble_eq_true rfl, Nat.le_of_ble_eq_true rfl⟩ 0 3 rfl rfl rfl rfl (Nat.le_of_ble_eq_true rfl) dX3_readPart_32 ⟨Nat.le_of_ble_eq_true rfl, Nat.le_of_ble_eq_true rfl⟩ (fun H locs hW => ?_)
  have hW : kw D A s.heap (wM c a (pu (pu φ 9 (kc (((rq3 (φ 4) (φ 8 0) (φ 9 0, w)).1) + (nxb ((φ 4)) ((φ 8 0)) (((rq3 (φ 4) (φ 8 0) (φ 9 0, w)).1)) ((rq3 (φ 4) (φ 8 0) (φ 9 0, w)).2) (nI (58)) (nI (58))).toNat))) 10 (kc ((((rq3 (φ 4) (φ 8 0) (φ 9 0, w)).2) || !(nxb ((φ 4)) ((φ 8 0)) (((rq3 (φ 4) (φ 8 0) (φ 9 0, w)).1)) ((rq3 (φ 4) (φ 8 0) (φ 9 0, w)).2) (nI (58)) (nI (58)))).toNat))) δ) H locs := hW
  refine k_top (y := tkv ((φ 4)) ((φ 8 0)) (((rq3 (φ 4) (φ 8 0) (φ 9 0, w)).1)) ((rq3 (φ 4) (φ 8 0) (φ 9 0, w)).2) (nI (58)) (nI (58))) rfl ?_
  have hW : kw D A s.heap (wM c a (pu (pu φ 9 (kc ((rq4 (φ 4) (φ 8 0) (φ 9 0, w)).1))) 10 (kc (((rq4 (φ 4) (φ 8 0) (φ 9 0, w)).2).toNat))) δ) H locs := hW
  refine lv_istore_n (lv' := [(3, .int (tkv ((φ 4)) ((φ 8 0)) (((rq3 (φ 4) (φ 8 0) (φ 9 0, w)).1)) ((rq3 (φ 4) (φ 8 0) (φ 9 0, w)).2) (nI (58)) (nI (58)))), (4, .int (nmV2 ((φ 4)) ((φ 8 0)) (((rq2 (φ 4) (φ 8 0) (φ 9 0, w)).1)) ((rq2 (φ 4) (φ 8 0) (φ 9 0, w)).2) (nI (0)) (nI (11)))), (2, .int (tkv (φ 4) (φ 8 0) (φ 9 0) w (nI (48)) (nI (50)))), (0, .ref (a 0)), (1, .int (nI (0)))]) S.1 S.2.1 dX3_readPart_35 rfl hl (by decide) rfl (fun ls hl => ?_)
  refine lv_aload_n S.1 S.2.1 dX3_readPart_36 rfl (lv_at hl 3 rfl) ?_
  refine lv_iload_n S.1 S.2.1 dX3_readPart_37 rfl (lv_at hl 2 rfl) ?_
  refine lv_iload S.1 S.2.1 dX3_readPart_38 (lv_at hl 1 rfl) ?_
  refine lv_iload_n S.1 S.2.1 dX3_readPart_40 rfl (lv_at hl 4 rfl) ?_
  refine k_VV (rest := []) S hK hl.1 hW (KFr.all hW hA) (mX3_readSteps_f l D c a ((pu (pu φ 9 (kc ((rq4 (φ 4) (φ 8 0) (φ 9 0, w)).1))) 10 (kc (((rq4 (φ 4) (φ 8 0) (φ 9 0, w)).2).toNat)))) δ _ ((rq4 (φ 4) (φ 8 0) (φ 9 0, w)).2) (tkv (φ 4) (φ 8 0) (φ 9 0) w (nI (48)) (nI (50))) (nmV2 ((φ 4)) ((φ 8 0)) (((rq2 (φ 4) (φ 8 0) (φ 9 0, w)).1)) ((rq2 (φ 4) (φ 8 0) (φ 9 0, w)).2) (nI (0)) (nI (11))) (by first | omega | exact hw | assumption | (show (((rq4 (φ 4) (φ 8 0) (φ 9 0, w)).2).toNat) = ((rq4 (φ 4) (φ 8 0) (φ 9 0, w)).2).toNat; omega) | rfl) (by first | omega | exact hm | assumption | (show (φ 8 0) ≤ 60; omega) | rfl) (by first | omega | exact hs | assumption | (show ((rq4 (φ 4) (φ 8 0) (φ 9 0, w)).1) < 700; omega) | rfl)) gX3_readPart_X3_readSteps rfl pdX3_readSteps ⟨⟨rfl, rfl⟩, Nat.le_of_ble_eq_true rfl, Nat.le_of_ble_eq_true rfl⟩ 0 3 rfl rfl rfl rfl (Nat.le_of_ble_eq_true rfl) dX3_readPart_41 ⟨Nat.le_of_ble_eq_true rfl, Nat.le_of_ble_eq_true rfl⟩ (fun H locs hW => ?_)
  have hW : kw D A s.heap (wM c a (pu (pu φ 9 (kc (rsS ((φ 4)) ((φ 8 0)) (((rq4 (φ 4) (φ 8 0) (φ 9 0, w)).1)) ((rq4 (φ 4) (φ 8 0) (φ 9 0, w)).2)))) 10 (kc ((rsW ((φ 4)) ((φ 8 0)) (((rq4 (φ 4) (φ 8 0) (φ 9 0, w)).1)) ((rq4 (φ 4) (φ 8 0) (φ 9 0, w)).2)).toNat))) δ) H locs := hW
  have hW : kw D A s.heap (wM c a (pu (pu φ 9 (kc ((rq5 (φ 4) (φ 8 0) (φ 9 0, w)).1))) 10 (kc (((rq5 (φ 4) (φ 8 0) (φ 9 0, w)).2).toNat))) δ) H locs := by exact hW
  refine k_loop (fun (zz : Nat × Nat × Bool) H lo ls => match zz with | (n, x) => kw D A s.heap (wM c a (pu (pu φ 9 (kc (x.1))) 10 (kc ((x.2).toNat))) δ) H lo ∧ lv_has ls 5 [(0, .ref (a 0)), (1, .int (nI (0))), (2, .int (tkv (φ 4) (φ 8 0) (φ 9 0) w (nI (48)) (nI (50)))), (3, .int (tkv ((φ 4)) ((φ 8 0)) (((rq3 (φ 4) (φ 8 0) (φ 9 0, w)).1)) ((rq3 (φ 4) (φ 8 0) (φ 9 0, w)).2) (nI (58)) (nI (58)))), (4, .int (nmV2 ((φ 4)) ((φ 8 0)) (((rq2 (φ 4) (φ 8 0) (φ 9 0, w)).1)) ((rq2 (φ 4) (φ 8 0) (φ 9 0, w)).2) (nI (0)) (nI (11))))] ∧ rpl (φ 4) (φ 8 0) n x = rpx (φ 4) (φ 8 0) (φ 9 0, w) ∧ φ 8 0 < x.1 + n ∧ x.1 < 200) (fun (zz : Nat × Nat × Bool) => match zz with | (n, x) => n) [] ?_ (φ 8 0 + 1, rq5 (φ 4) (φ 8 0) (φ 9 0, w)) _ _ _ ⟨hW, lv_sub hl [3, 4, 2, 0, 1] rfl, rfl, (by omega), (by omega)⟩
  rintro ⟨n, x⟩ ih44 H locs ls ⟨hW, hl, hx, hn, h200⟩
  refine lv_aload_n S.1 S.2.1 dX3_readPart_44 rfl (lv_at hl 0 rfl) ?_
  refine lv_bipush (v := nI (44)) S.1 S.2.1 dX3_readPart_45 rfl ?_
  refine lv_bipush (v := nI (44)) S.1 S.2.1 dX3_readPart_47 rfl ?_
  refine k_VI (rest := []) S hK hl.1 hW (KFr.all hW hA) (mX3_isNext l D c a ((pu (pu φ 9 (kc (x.1))) 10 (kc ((x.2).toNat)))) δ _ (x.2) (nI (44)) (nI (44)) (by first | omega | exact hw | assumption | (show ((x.2).toNat) = (x.2).toNat; omega) | rfl) (by first | omega | exact hm | assumption | (show (φ 8 0) ≤ 60; omega) | rfl) (by first | omega | exact hs | assumption | (show (x.1) < 1000; omega) | rfl)) gX3_readPart_X3_isNext rfl pdX3_isNext ⟨⟨rfl, rfl⟩, Nat.le_of_ble_eq_true rfl, Nat.le_of_ble_eq_true rfl⟩ 0 3 rfl rfl rfl rfl (Nat.le_of_ble_eq_true rfl) dX3_readPart_49 ⟨Nat.le_of_ble_eq_true rfl, Nat.le_of_ble_eq_true rfl⟩ (fun H locs hW => ?_)
  have hW : kw D A s.heap (wM c a (pu (pu φ 9 (kc (x.1))) 10 (kc ((x.2).toNat))) δ) H locs := hW
  refine k_top (y := nI ((nxb ((φ 4)) ((φ 8 0)) ((x.1)) (x.2) (nI (44)) (nI (44))).toNat)) rfl ?_
  refine kb_eq S (tgt := 76) dX3_readPart_52 (by decide) (fun c_52 => ?_) (fun c_52 => ?_)
  · have hW : kw D A s.heap (wM c a (pu (pu φ 9 (kc ((rpx (φ 4) (φ 8 0) (φ 9 0, w)).1))) 10 (kc (((rpx (φ 4) (φ 8 0) (φ 9 0, w)).2).toNat))) δ) H locs := by (rw [show rpx (φ 4) (φ 8 0) (φ 9 0, w) = x from by rw [← hx, rpl_f c_52]]; exact hW)
    exact hret 76 _ _ _ _ dX3_readPart_76 hW (rfl)
  · refine lv_aload_n S.1 S.2.1 dX3_readPart_55 rfl (lv_at hl 0 rfl) ?_
    refine lv_dup S.1 S.2.1 dX3_readPart_56 rfl ?_
    refine kx_get S hK hW hinX3 0 3 rfl rfl 9 (by decide) (List.mem_of_getElem? (i := 1) rfl) (v := .int (nI (x.1))) rfl dX3_readPart_57 ?_
    refine lv_iconst (v := nI (1)) S.1 S.2.1 dX3_readPart_60 rfl ?_
    refine kn_iadd S dX3_readPart_61 ?_
    refine kx_put S hK hW hinX3 tyX3_ok nmX3 0 3 rfl rfl 9 (by decide) (List.mem_of_getElem? (i := 1) rfl) rfl (v := .int (nI (x.1 + 1))) rfl rfl (Nat.le_of_ble_eq_true rfl) dX3_readPart_62 (fun H locs hW => ?_)
    have hW : kw D A s.heap (wM c a (pu (pu φ 10 (kc ((x.2).toNat))) 9 (kc (x.1 + 1))) δ) H locs := hW
    refine lv_aload_n S.1 S.2.1 dX3_readPart_65 rfl (lv_at hl 0 rfl) ?_
    refine lv_iload_n S.1 S.2.1 dX3_readPart_66 rfl (lv_at hl 2 rfl) ?_
    refine lv_iload S.1 S.2.1 dX3_readPart_67 (lv_at hl 4 rfl) ?_
    refine lv_iload_n S.1 S.2.1 dX3_readPart_69 rfl (lv_at hl 1 rfl) ?_
    refine k_VV (rest := []) S hK hl.1 hW (KFr.all hW hA) (mX3_readSteps_f l D c a ((pu (pu φ 10 (kc ((x.2).toNat))) 9 (kc (x.1 + 1)))) δ _ (x.2) (tkv (φ 4) (φ 8 0) (φ 9 0) w (nI (48)) (nI (50))) (nmV2 ((φ 4)) ((φ 8 0)) (((rq2 (φ 4) (φ 8 0) (φ 9 0, w)).1)) ((rq2 (φ 4) (φ 8 0) (φ 9 0, w)).2) (nI (0)) (nI (11))) (by first | omega | exact hw | assumption | (show ((x.2).toNat) = (x.2).toNat; omega) | rfl) (by first | omega | exact hm | assumption | (show (φ 8 0) ≤ 60; omega) | rfl) (by first | omega | exact hs | assumption | (show (x.1 + 1) < 700; omega) | rfl)) gX3_readPart_X3_readSteps rfl pdX3_readSteps ⟨⟨rfl, rfl⟩, Nat.le_of_ble_eq_true rfl, Nat.le_of_ble_eq_true rfl⟩ 0 3 rfl rfl rfl rfl (Nat.le_of_ble_eq_true rfl) dX3_readPart_70 ⟨Nat.le_of_ble_eq_true rfl, Nat.le_of_ble_eq_true rfl⟩ (fun H locs hW => ?_)
    have hW : kw D A s.heap (wM c a (pu (pu φ 9 (kc (rsS ((φ 4)) ((φ 8 0)) ((x.1 + 1)) (x.2)))) 10 (kc ((rsW ((φ 4)) ((φ 8 0)) ((x.1 + 1)) (x.2)).toNat))) δ) H locs := hW
    refine lv_goto (tgt := 44) S.1 S.2.1 dX3_readPart_73 (by decide) ?_
    exact ih44 (n - 1, rsx (φ 4) (φ 8 0) (x.1 + 1, x.2)) _ _ _ ⟨hW, lv_sub hl [0, 1, 2, 3, 4] rfl, (by rw [← hx, (rpl_t c_52 hn).2]), (by have h1 := rsx_le (φ 4) (φ 8 0) (x.1 + 1, x.2); dsimp only at h1; have h2 := (rpl_t c_52 hn).1; omega), (by have h1 := rsx_le (φ 4) (φ 8 0) (x.1 + 1, x.2); dsimp only at h1; have h2 := nxb_lt c_52; omega)⟩ (by have := (rpl_t c_52 hn).1; show n - 1 < n; omega)
abbrev rmX3_reads : Room := { frames := 6, cells := 0, slots := 0, locals := 142 }
theorem pdX3_reads : kPd yX3_reads 1 := by decide +kernel
set_option maxHeartbeats 400000 in
set_option maxRecDepth 100000 in
theorem mX3_reads_f (l : Launch) (D : va_G) (c : Nat → ClassId) (a : Nat → Nat) (φ : Nat → Nat → Nat) (δ : Int64) (sz : Nat) (hm : φ 8 0 ≤ 60) : MI l yX3_reads wsX3_reads rmX3_reads D c sz (wM c a φ δ) [.ref (a 0), .int (nI (0))] (nI (whl (φ 4) (φ 8 0)).toNat) (wM c a (pu (pu (pu φ 9 (kc ((rdx (φ 4) (φ 8 0)).1))) 10 (kc (((rdx (φ 4) (φ 8 0)).2).toNat))) 11 (kc (0))) δ) := by
  refine MI.of (cc := cX3_reads) (maxL := 2) (ty := .boolean) (by decide) rfl (Nat.le_of_ble_eq_true rfl) (k_narB _) ?_
  intro P e s m below meth cd A Q ls hsz S hK hW hA hl hret
  have hl : lv_has ls 2 [(0, .ref (a 0)), (1, .int (nI (0)))] := hl
  have hinX3 : ∀ w ∈ u_ws RX3 TX3 13, w ∈ wsX3_reads := by decide +kernel
  refine lv_aload_n S.1 S.2.1 dX3_reads_0 rfl (lv_at hl 0 rfl) ?_
  refine lv_iconst (v := nI (0)) S.1 S.2.1 dX3_reads_1 rfl ?_
  refine kx_put S hK hW hinX3 tyX3_ok nmX3 0 3 rfl rfl 9 (by decide) (List.mem_of_getElem? (i := 1) rfl) rfl (v := .int (nI (0))) rfl rfl (Nat.le_of_ble_eq_true rfl) dX3_reads_2 (fun H locs hW => ?_)
  have hW : kw D A s.heap (wM c a (pu φ 9 (kc (0))) δ) H locs := hW
  refine lv_aload_n S.1 S.2.1 dX3_reads_5 rfl (lv_at hl 0 rfl) ?_
  refine lv_iconst (v := nI (0)) S.1 S.2.1 dX3_reads_6 rfl ?_
  refine kx_put S hK hW hinX3 tyX3_ok nmX3 0 3 rfl rfl 10 (by decide) (List.mem_of_getElem? (i := 2) rfl) rfl (v := .int (nI (0))) rfl rfl (Nat.le_of_ble_eq_true rfl) dX3_reads_7 (fun H locs hW => ?_)
  have hW : kw D A s.heap (wM c a (pu (pu φ 9 (kc (0))) 10 (kc (0))) δ) H locs := hW
  refine lv_aload_n S.1 S.2.1 dX3_reads_10 rfl (lv_at hl 0 rfl) ?_
  refine lv_iconst (v := nI (0)) S.1 S.2.1 dX3_reads_11 rfl ?_
  refine kx_put S hK hW hinX3 tyX3_ok nmX3 0 3 rfl rfl 11 (by decide) (List.mem_of_getElem? (i := 3) rfl) rfl (v := .int (nI (0))) rfl rfl (Nat.le_of_ble_eq_true rfl) dX3_reads_12 (fun H locs hW => ?_)
  have hW : kw D A s.heap (wM c a (pu (pu (pu φ 9 (kc (0))) 10 (kc (0))) 11 (kc (0))) δ) H locs := hW
  refine lv_aload_n S.1 S.2.1 dX3_reads_15 rfl (lv_at hl 0 rfl) ?_
  refine lv_iload_n S.1 S.2.1 dX3_reads_16 rfl (lv_at hl 1 rfl) ?_
  refine k_VV (rest := []) S hK hl.1 hW (KFr.all hW hA) (mX3_readPart_f l D c a ((pu (pu (pu φ 9 (kc (0))) 10 (kc (0))) 11 (kc (0)))) δ _ false (by first | omega | exact hw | assumption | (show (0) = false.toNat; omega) | rfl) (by first | omega | exact hm | assumption | (show (φ 8 0) ≤ 60; omega) | rfl) (by first | omega | exact hs | assumption | (show (0) < 100; omega) | rfl)) gX3_reads_X3_readPart rfl pdX3_readPart ⟨⟨rfl, rfl⟩, Nat.le_of_ble_eq_true rfl, Nat.le_of_ble_eq_true rfl⟩ 0 3 rfl rfl rfl rfl (Nat.le_of_ble_eq_true rfl) dX3_reads_17 ⟨Nat.le_of_ble_eq_true rfl, Nat.le_of_ble_eq_true rfl⟩ (fun H locs hW => ?_)
  have hW : kw D A s.heap (wM c a (pu (pu (pu φ 11 (kc (0))) 9 (kc ((rpx ((φ 4)) ((φ 8 0)) ((0), false)).1))) 10 (kc (((rpx ((φ 4)) ((φ 8 0)) ((0), false)).2).toNat))) δ) H locs := hW
  refine k_loop (fun (zz : Nat × Nat × Bool) H lo ls => match zz with | (n, x) => kw D A s.heap (wM c a (pu (pu (pu φ 11 (kc (0))) 9 (kc (x.1))) 10 (kc ((x.2).toNat))) δ) H lo ∧ lv_has ls 2 [(0, .ref (a 0)), (1, .int (nI (0)))] ∧ rdl (φ 4) (φ 8 0) n x = rdx (φ 4) (φ 8 0) ∧ φ 8 0 < x.1 + n ∧ x.1 < 100) (fun (zz : Nat × Nat × Bool) => match zz with | (n, x) => n) [] ?_ (φ 8 0 + 1, rpx (φ 4) (φ 8 0) (0, false)) _ _ _ ⟨hW, lv_sub hl [0, 1] rfl, rfl, (by omega), (by have := rpx_le (φ 4) (φ 8 0) (0, false); dsimp only at this; omega)⟩
  rintro ⟨n, x⟩ ih20 H locs ls ⟨hW, hl, hx, hn, h200⟩
  refine lv_aload_n S.1 S.2.1 dX3_reads_20 rfl (lv_at hl 0 rfl) ?_
  refine lv_bipush (v := nI (59)) S.1 S.2.1 dX3_reads_21 rfl ?_
  refine lv_bipush (v := nI (59)) S.1 S.2.1 dX3_reads_23 rfl ?_
  refine k_VI (rest := []) S hK hl.1 hW (KFr.all hW hA) (mX3_isNext l D c a ((pu (pu (pu φ 11 (kc (0))) 9 (kc (x.1))) 10 (kc ((x.2).toNat)))) δ _ (x.2) (nI (59)) (nI (59)) (by first | omega | exact hw | assumption | (show ((x.2).toNat) = (x.2).toNat; omega) | rfl) (by first | omega | exact hm | assumption | (show (φ 8 0) ≤ 60; omega) | rfl) (by first | omega | exact hs | assumption | (show (x.1) < 1000; omega) | rfl)) gX3_reads_X3_isNext rfl pdX3_isNext ⟨⟨rfl, rfl⟩, Nat.le_of_ble_eq_true rfl, Nat.le_of_ble_eq_true rfl⟩ 0 3 rfl rfl rfl rfl (Nat.le_of_ble_eq_true rfl) dX3_reads_25 ⟨Nat.le_of_ble_eq_true rfl, Nat.le_of_ble_eq_true rfl⟩ (fun H locs hW => ?_)
  have hW : kw D A s.heap (wM c a (pu (pu (pu φ 11 (kc (0))) 9 (kc (x.1))) 10 (kc ((x.2).toNat))) δ) H locs := hW
  refine k_top (y := nI ((nxb ((φ 4)) ((φ 8 0)) ((x.1)) (x.2) (nI (59)) (nI (59))).toNat)) rfl ?_
  refine kb_eq S (tgt := 49) dX3_reads_28 (by decide) (fun c_28 => ?_) (fun c_28 => ?_)
  · have hW : kw D A s.heap (wM c a (pu (pu (pu φ 11 (kc (0))) 9 (kc ((rdx (φ 4) (φ 8 0)).1))) 10 (kc (((rdx (φ 4) (φ 8 0)).2).toNat))) δ) H locs := by (rw [show rdx (φ 4) (φ 8 0) = x from by rw [← hx, rdl_f c_28]]; exact hW)
    refine lv_aload_n S.1 S.2.1 dX3_reads_49 rfl (lv_at hl 0 rfl) ?_
    refine kx_get S hK hW hinX3 0 3 rfl rfl 10 (by decide) (List.mem_of_getElem? (i := 2) rfl) (v := .int (nI ((rdx (φ 4) (φ 8 0)).2).toNat)) rfl dX3_reads_50 ?_
    have h100 : (rdx (φ 4) (φ 8 0)).1 < 100 := by rw [show rdx (φ 4) (φ 8 0) = x from by rw [← hx, rdl_f c_28]]; exact h200
    refine kb_ne S (tgt := 71) dX3_reads_53 (by decide) (fun c_53 => ?_) (fun c_53 => ?_)
    · refine lv_iconst (v := nI (0)) S.1 S.2.1 dX3_reads_71 rfl ?_
      exact hret 72 _ _ _ _ _ dX3_reads_72 hW (by unfold whl; first | (rw [c_53]; rfl) | (rw [c_53, decide_eq_true c_64]; rfl) | (rw [c_53, decide_eq_false c_64]; rfl)) (rfl)
    · refine lv_aload_n S.1 S.2.1 dX3_reads_56 rfl (lv_at hl 0 rfl) ?_
      refine kx_get S hK hW hinX3 0 3 rfl rfl 9 (by decide) (List.mem_of_getElem? (i := 1) rfl) (v := .int (nI ((rdx (φ 4) (φ 8 0)).1))) rfl dX3_reads_57 ?_
      refine lv_aload_n S.1 S.2.1 dX3_reads_60 rfl (lv_at hl 0 rfl) ?_
      refine kx_get S hK hW hinX3 0 3 rfl rfl 8 (by decide) (List.mem_of_getElem? (i := 4) rfl) (v := .int (nI (φ 8 0))) rfl dX3_reads_61 ?_
      refine kn_ne S (tgt := 71) dX3_reads_64 (by decide) (by omega) (by omega) (fun c_64 => ?_) (fun c_64 => ?_)
      · refine lv_iconst (v := nI (0)) S.1 S.2.1 dX3_reads_71 rfl ?_
        exact hret 72 _ _ _ _ _ dX3_reads_72 hW (by unfold whl; first | (rw [c_53]; rfl) | (rw [c_53, decide_eq_true c_64]; rfl) | (rw [c_53, decide_eq_false c_64]; rfl)) (rfl)
      · refine lv_iconst (v := nI (1)) S.1 S.2.1 dX3_reads_67 rfl ?_
        refine lv_goto (tgt := 72) S.1 S.2.1 dX3_reads_68 (by decide) ?_
        exact hret 72 _ _ _ _ _ dX3_reads_72 hW (by unfold whl; first | (rw [c_53]; rfl) | (rw [c_53, decide_eq_true c_64]; rfl) | (rw [c_53, decide_eq_false c_64]; rfl)) (rfl)
  · have hlt := nxb_lt c_28
    refine lv_aload_n S.1 S.2.1 dX3_reads_31 rfl (lv_at hl 0 rfl) ?_
    refine lv_dup S.1 S.2.1 dX3_reads_32 rfl ?_
    refine kx_get S hK hW hinX3 0 3 rfl rfl 9 (by decide) (List.mem_of_getElem? (i := 1) rfl) (v := .int (nI (x.1))) rfl dX3_reads_33 ?_
    refine lv_iconst (v := nI (1)) S.1 S.2.1 dX3_reads_36 rfl ?_
    refine kn_iadd S dX3_reads_37 ?_
    refine kx_put S hK hW hinX3 tyX3_ok nmX3 0 3 rfl rfl 9 (by decide) (List.mem_of_getElem? (i := 1) rfl) rfl (v := .int (nI (x.1 + 1))) rfl rfl (Nat.le_of_ble_eq_true rfl) dX3_reads_38 (fun H locs hW => ?_)
    have hW : kw D A s.heap (wM c a (pu (pu (pu φ 11 (kc (0))) 10 (kc ((x.2).toNat))) 9 (kc (x.1 + 1))) δ) H locs := hW
    refine lv_aload_n S.1 S.2.1 dX3_reads_41 rfl (lv_at hl 0 rfl) ?_
    refine lv_iload_n S.1 S.2.1 dX3_reads_42 rfl (lv_at hl 1 rfl) ?_
    refine k_VV (rest := []) S hK hl.1 hW (KFr.all hW hA) (mX3_readPart_f l D c a ((pu (pu (pu φ 11 (kc (0))) 10 (kc ((x.2).toNat))) 9 (kc (x.1 + 1)))) δ _ (x.2) (by first | omega | exact hw | assumption | (show ((x.2).toNat) = (x.2).toNat; omega) | rfl) (by first | omega | exact hm | assumption | (show (φ 8 0) ≤ 60; omega) | rfl) (by first | omega | exact hs | assumption | (show (x.1 + 1) < 100; omega) | rfl)) gX3_reads_X3_readPart rfl pdX3_readPart ⟨⟨rfl, rfl⟩, Nat.le_of_ble_eq_true rfl, Nat.le_of_ble_eq_true rfl⟩ 0 3 rfl rfl rfl rfl (Nat.le_of_ble_eq_true rfl) dX3_reads_43 ⟨Nat.le_of_ble_eq_true rfl, Nat.le_of_ble_eq_true rfl⟩ (fun H locs hW => ?_)
    have hW : kw D A s.heap (wM c a (pu (pu (pu φ 11 (kc (0))) 9 (kc ((rpx ((φ 4)) ((φ 8 0)) ((x.1 + 1), (x.2))).1))) 10 (kc (((rpx ((φ 4)) ((φ 8 0)) ((x.1 + 1), (x.2))).2).toNat))) δ) H locs := hW
    refine lv_goto (tgt := 20) S.1 S.2.1 dX3_reads_46 (by decide) ?_
    exact ih20 (n - 1, rpx (φ 4) (φ 8 0) (x.1 + 1, x.2)) _ _ _ ⟨hW, lv_sub hl [0, 1] rfl, (by rw [← hx, (rdl_t c_28 hn).2]), (by have h1 := rpx_le (φ 4) (φ 8 0) (x.1 + 1, x.2); dsimp only at h1; have h2 := (rdl_t c_28 hn).1; omega), (by have h1 := rpx_le (φ 4) (φ 8 0) (x.1 + 1, x.2); dsimp only at h1; have h2 := nxb_lt c_28; omega)⟩ (by have := (rdl_t c_28 hn).1; show n - 1 < n; omega)
abbrev rmX3_firstError : Room := { frames := 7, cells := 0, slots := 0, locals := 163 }
theorem pdX3_firstError : kPd yX3_firstError 0 := by decide +kernel
set_option maxHeartbeats 400000 in
set_option maxRecDepth 100000 in
theorem mX3_firstError (l : Launch) (D : va_G) (c : Nat → ClassId) (a : Nat → Nat) (φ : Nat → Nat → Nat) (δ : Int64) (sz : Nat) (hm : φ 8 0 ≤ 60) : MI l yX3_firstError wsX3_firstError rmX3_firstError D c sz (wM c a φ δ) [.ref (a 0)] (nI ((if whl (φ 4) (φ 8 0) then φ 8 0 else (rdx (φ 4) (φ 8 0)).1))) (wM c a (pu (pu (pu (pu φ 5 (kc (0))) 9 (kc ((rdx (φ 4) (φ 8 0)).1))) 10 (kc (((rdx (φ 4) (φ 8 0)).2).toNat))) 11 (kc (0))) δ) := by
  refine MI.of (cc := cX3_firstError) (maxL := 2) (ty := .int) (by decide) rfl (Nat.le_of_ble_eq_true rfl) rfl ?_
  intro P e s m below meth cd A Q ls hsz S hK hW hA hl hret
  have hl : lv_has ls 2 [(0, .ref (a 0))] := hl
  have hinX3 : ∀ w ∈ u_ws RX3 TX3 13, w ∈ wsX3_firstError := by decide +kernel
  refine lv_aload_n S.1 S.2.1 dX3_firstError_0 rfl (lv_at hl 0 rfl) ?_
  refine lv_iconst (v := nI (0)) S.1 S.2.1 dX3_firstError_1 rfl ?_
  refine kx_put S hK hW hinX3 tyX3_ok nmX3 0 3 rfl rfl 0 (by decide) (List.mem_of_getElem? (i := 1) rfl) rfl (v := .int (nI (0))) rfl rfl (Nat.le_of_ble_eq_true rfl) dX3_firstError_2 (fun H locs hW => ?_)
  have hW : kw D A s.heap (wM c a (pu φ 5 (kc (0))) δ) H locs := hW
  refine lv_aload_n S.1 S.2.1 dX3_firstError_5 rfl (lv_at hl 0 rfl) ?_
  refine lv_iconst (v := nI (0)) S.1 S.2.1 dX3_firstError_6 rfl ?_
  refine k_VI (rest := []) S hK hl.1 hW (KFr.all hW hA) (mX3_reads_f l D c a ((pu φ 5 (kc (0)))) δ _ (by first | omega | exact hm | assumption | (show (φ 8 0) ≤ 60; omega) | rfl)) gX3_firstError_X3_reads rfl pdX3_reads ⟨⟨rfl, rfl⟩, Nat.le_of_ble_eq_true rfl, Nat.le_of_ble_eq_true rfl⟩ 0 3 rfl rfl rfl rfl (Nat.le_of_ble_eq_true rfl) dX3_firstError_7 ⟨Nat.le_of_ble_eq_true rfl, Nat.le_of_ble_eq_true rfl⟩ (fun H locs hW => ?_)
  have hW : kw D A s.heap (wM c a (pu (pu (pu (pu φ 5 (kc (0))) 9 (kc ((rdx ((φ 4)) ((φ 8 0))).1))) 10 (kc (((rdx ((φ 4)) ((φ 8 0))).2).toNat))) 11 (kc (0))) δ) H locs := hW
  refine k_top (y := nI ((whl ((φ 4)) ((φ 8 0))).toNat)) rfl ?_
  refine lv_istore_n (lv' := [(1, .int (nI (whl ((φ 4)) ((φ 8 0))).toNat)), (0, .ref (a 0))]) S.1 S.2.1 dX3_firstError_10 rfl hl (by decide) rfl (fun ls hl => ?_)
  refine lv_iload_n S.1 S.2.1 dX3_firstError_11 rfl (lv_at hl 0 rfl) ?_
  refine kb_eq S (tgt := 22) dX3_firstError_12 (by decide) (fun c_12 => ?_) (fun c_12 => ?_)
  · refine lv_aload_n S.1 S.2.1 dX3_firstError_22 rfl (lv_at hl 1 rfl) ?_
    refine kx_get S hK hW hinX3 0 3 rfl rfl 9 (by decide) (List.mem_of_getElem? (i := 3) rfl) (v := .int (nI ((rdx ((φ 4)) ((φ 8 0))).1))) rfl dX3_firstError_23 ?_
    exact hret 26 _ _ _ _ _ dX3_firstError_26 hW (congrArg nI (by rw [c_12]; rfl)) (rfl)
  · refine lv_aload_n S.1 S.2.1 dX3_firstError_15 rfl (lv_at hl 1 rfl) ?_
    refine kx_get S hK hW hinX3 0 3 rfl rfl 8 (by decide) (List.mem_of_getElem? (i := 2) rfl) (v := .int (nI (φ 8 0))) rfl dX3_firstError_16 ?_
    refine lv_goto (tgt := 26) S.1 S.2.1 dX3_firstError_19 (by decide) ?_
    exact hret 26 _ _ _ _ _ dX3_firstError_26 hW (congrArg nI (by rw [c_12]; rfl)) (rfl)
