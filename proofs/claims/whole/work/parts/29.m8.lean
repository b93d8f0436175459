abbrev rmX3_isNext : Room := { frames := 1, cells := 0, slots := 0, locals := 22 }
theorem pdX3_isNext : kPd yX3_isNext 2 := by decide +kernel
set_option maxHeartbeats 400000 in
set_option maxRecDepth 100000 in
theorem mX3_isNext (l : Launch) (D : va_G) (c : Nat → ClassId) (a : Nat → Nat) (φ : Nat → Nat → Nat) (δ : Int64) (sz : Nat) (w : Bool) (lo : Int32) (hi : Int32) (hw : φ 10 0 = w.toNat) (hm : φ 8 0 ≤ 60) (hs : φ 9 0 < 1000) : MI l yX3_isNext wsX3_isNext rmX3_isNext D c sz (wM c a φ δ) [.ref (a 0), .int (lo), .int (hi)] (nI (nxb (φ 4) (φ 8 0) (φ 9 0) w lo hi).toNat) (wM c a φ δ) := by
  refine MI.of (cc := cX3_isNext) (maxL := 3) (ty := .boolean) (by decide) rfl (Nat.le_of_ble_eq_true rfl) (k_narB _) ?_
  intro P e s m below meth cd A Q ls hsz S hK hW hA hl hret
  have hl : lv_has ls 3 [(0, .ref (a 0)), (1, .int (lo)), (2, .int (hi))] := hl
  have hinX3 : ∀ w ∈ u_ws RX3 TX3 13, w ∈ wsX3_isNext := by decide +kernel
  refine lv_aload_n S.1 S.2.1 dX3_isNext_0 rfl (lv_at hl 0 rfl) ?_
  refine kx_get S hK hW hinX3 0 3 rfl rfl 10 (by decide) (List.mem_of_getElem? (i := 1) rfl) (v := .int (nI (φ 10 0))) rfl dX3_isNext_1 ?_
  refine k_top (y := nI ((w).toNat)) (congrArg nI hw) ?_
  refine kb_ne S (tgt := 39) dX3_isNext_4 (by decide) (fun c_4 => ?_) (fun c_4 => ?_)
  · refine lv_iconst (v := nI (0)) S.1 S.2.1 dX3_isNext_39 rfl ?_
    exact hret 40 _ _ _ _ _ dX3_isNext_40 hW (by first | exact nxb_1 c_4 | exact nxb_2 c_15 | exact nxb_3 c_32 | exact nxb_0 c_4 c_15 c_32) (rfl)
  · refine lv_aload_n S.1 S.2.1 dX3_isNext_7 rfl (lv_at hl 0 rfl) ?_
    refine kx_get S hK hW hinX3 0 3 rfl rfl 9 (by decide) (List.mem_of_getElem? (i := 2) rfl) (v := .int (nI (φ 9 0))) rfl dX3_isNext_8 ?_
    refine lv_aload_n S.1 S.2.1 dX3_isNext_11 rfl (lv_at hl 0 rfl) ?_
    refine kx_get S hK hW hinX3 0 3 rfl rfl 8 (by decide) (List.mem_of_getElem? (i := 3) rfl) (v := .int (nI (φ 8 0))) rfl dX3_isNext_12 ?_
    refine kn_ge S (tgt := 39) dX3_isNext_15 (by decide) (by omega) (by omega) (fun c_15 => ?_) (fun c_15 => ?_)
    · refine lv_iconst (v := nI (0)) S.1 S.2.1 dX3_isNext_39 rfl ?_
      exact hret 40 _ _ _ _ _ dX3_isNext_40 hW (by first | exact nxb_1 c_4 | exact nxb_2 c_15 | exact nxb_3 c_32 | exact nxb_0 c_4 c_15 c_32) (rfl)
    · refine lv_aload_n S.1 S.2.1 dX3_isNext_18 rfl (lv_at hl 0 rfl) ?_
      refine kx_get S hK hW hinX3 0 3 rfl rfl 7 (by decide) (List.mem_of_getElem? (i := 4) rfl) (v := .ref (a 5)) rfl dX3_isNext_19 ?_
      refine lv_aload_n S.1 S.2.1 dX3_isNext_22 rfl (lv_at hl 0 rfl) ?_
      refine kx_get S hK hW hinX3 0 3 rfl rfl 9 (by decide) (List.mem_of_getElem? (i := 2) rfl) (v := .int (nI (φ 9 0))) rfl dX3_isNext_23 ?_
      refine kn_ald S hK hW 5 (f := φ 4) rfl (by omega) (by decide) dX3_isNext_26 ?_
      refine lv_iload_n S.1 S.2.1 dX3_isNext_27 rfl (lv_at hl 1 rfl) ?_
      refine lv_iload_n S.1 S.2.1 dX3_isNext_28 rfl (lv_at hl 2 rfl) ?_
      refine k_SI (rest := []) S hK hl.1 hW (KFr.nil hW hA) (mX3_in l D c  _ (nI (φ 4 (φ 9 0))) lo hi) gX3_isNext_X3_in rfl pdX3_in ⟨⟨rfl, rfl⟩, Nat.le_of_ble_eq_true rfl, Nat.le_of_ble_eq_true rfl⟩ rfl (Nat.le_of_ble_eq_true rfl) dX3_isNext_29 ⟨Nat.le_of_ble_eq_true rfl, Nat.le_of_ble_eq_true rfl⟩ (fun H locs hW => ?_)
      have hW : kw D A s.heap (wM c a φ δ) H locs := hW
      refine kb_eq S (tgt := 39) dX3_isNext_32 (by decide) (fun c_32 => ?_) (fun c_32 => ?_)
      · refine lv_iconst (v := nI (0)) S.1 S.2.1 dX3_isNext_39 rfl ?_
        exact hret 40 _ _ _ _ _ dX3_isNext_40 hW (by first | exact nxb_1 c_4 | exact nxb_2 c_15 | exact nxb_3 c_32 | exact nxb_0 c_4 c_15 c_32) (rfl)
      · refine lv_iconst (v := nI (1)) S.1 S.2.1 dX3_isNext_35 rfl ?_
        refine lv_goto (tgt := 40) S.1 S.2.1 dX3_isNext_36 (by decide) ?_
        exact hret 40 _ _ _ _ _ dX3_isNext_40 hW (by first | exact nxb_1 c_4 | exact nxb_2 c_15 | exact nxb_3 c_32 | exact nxb_0 c_4 c_15 c_32) (rfl)
abbrev rmX3_takes : Room := { frames := 2, cells := 0, slots := 0, locals := 44 }
theorem pdX3_takes : kPd yX3_takes 2 := by decide +kernel
set_option maxHeartbeats 400000 in
set_option maxRecDepth 100000 in
theorem mX3_takes (l : Launch) (D : va_G) (c : Nat → ClassId) (a : Nat → Nat) (φ : Nat → Nat → Nat) (δ : Int64) (sz : Nat) (w : Bool) (lo : Int32) (hi : Int32) (hw : φ 10 0 = w.toNat) (hm : φ 8 0 ≤ 60) (hs : φ 9 0 < 1000) : MI l yX3_takes wsX3_takes rmX3_takes D c sz (wM c a φ δ) [.ref (a 0), .int (lo), .int (hi)] (tkv (φ 4) (φ 8 0) (φ 9 0) w lo hi) (wM c a (pu (pu φ 9 (kc (φ 9 0 + (nxb (φ 4) (φ 8 0) (φ 9 0) w lo hi).toNat))) 10 (kc ((w || !(nxb (φ 4) (φ 8 0) (φ 9 0) w lo hi)).toNat))) δ) := by
  refine MI.of (cc := cX3_takes) (maxL := 5) (ty := .int) (by decide) rfl (Nat.le_of_ble_eq_true rfl) rfl ?_
  intro P e s m below meth cd A Q ls hsz S hK hW hA hl hret
  have hl : lv_has ls 5 [(0, .ref (a 0)), (1, .int (lo)), (2, .int (hi))] := hl
  have hinX3 : ∀ w ∈ u_ws RX3 TX3 13, w ∈ wsX3_takes := by decide +kernel
  refine lv_aload_n S.1 S.2.1 dX3_takes_0 rfl (lv_at hl 0 rfl) ?_
  refine lv_iload_n S.1 S.2.1 dX3_takes_1 rfl (lv_at hl 1 rfl) ?_
  refine lv_iload_n S.1 S.2.1 dX3_takes_2 rfl (lv_at hl 2 rfl) ?_
  refine k_VI (rest := []) S hK hl.1 hW (KFr.all hW hA) (mX3_isNext l D c a φ δ _ w lo hi (by first | omega | exact hw | assumption | (show φ 10 0 = w.toNat; omega) | rfl) (by first | omega | exact hm | assumption | (show φ 8 0 ≤ 60; omega) | rfl) (by first | omega | exact hs | assumption | (show φ 9 0 < 1000; omega) | rfl)) gX3_takes_X3_isNext rfl pdX3_isNext ⟨⟨rfl, rfl⟩, Nat.le_of_ble_eq_true rfl, Nat.le_of_ble_eq_true rfl⟩ 0 3 rfl rfl rfl rfl (Nat.le_of_ble_eq_true rfl) dX3_takes_3 ⟨Nat.le_of_ble_eq_true rfl, Nat.le_of_ble_eq_true rfl⟩ (fun H locs hW => ?_)
  have hW : kw D A s.heap (wM c a φ δ) H locs := hW
  refine lv_istore_n (lv' := [(3, .int (nI (nxb (φ 4) (φ 8 0) (φ 9 0) w lo hi).toNat)), (0, .ref (a 0)), (1, .int (lo)), (2, .int (hi))]) S.1 S.2.1 dX3_takes_6 rfl hl (by decide) rfl (fun ls hl => ?_)
  refine lv_iload_n S.1 S.2.1 dX3_takes_7 rfl (lv_at hl 0 rfl) ?_
  refine kb_eq S (tgt := 25) dX3_takes_8 (by decide) (fun c_8 => ?_) (fun c_8 => ?_)
  · refine lv_iconst (v := nI (0)) S.1 S.2.1 dX3_takes_25 rfl ?_
    refine k_top (y := tkv (φ 4) (φ 8 0) (φ 9 0) w lo hi) (by unfold tkv; rw [if_neg (by rw [c_8]; decide)]) ?_
    refine lv_istore (lv' := [(4, .int (tkv (φ 4) (φ 8 0) (φ 9 0) w lo hi)), (3, .int (nI (nxb (φ 4) (φ 8 0) (φ 9 0) w lo hi).toNat)), (0, .ref (a 0)), (1, .int (lo)), (2, .int (hi))]) S.1 S.2.1 dX3_takes_26 hl (by decide) rfl (fun ls hl => ?_)
    refine lv_aload_n S.1 S.2.1 dX3_takes_28 rfl (lv_at hl 2 rfl) ?_
    refine lv_dup S.1 S.2.1 dX3_takes_29 rfl ?_
    refine kx_get S hK hW hinX3 0 3 rfl rfl 9 (by decide) (List.mem_of_getElem? (i := 2) rfl) (v := .int (nI (φ 9 0))) rfl dX3_takes_30 ?_
    refine lv_iload_n S.1 S.2.1 dX3_takes_33 rfl (lv_at hl 1 rfl) ?_
    refine kb_eq S (tgt := 41) dX3_takes_34 (by decide) (fun c_34 => ?_) (fun c_34 => ?_)
    · refine lv_iconst (v := nI (0)) S.1 S.2.1 dX3_takes_41 rfl ?_
      refine kn_iadd S dX3_takes_42 ?_
      refine k_top (y := nI (φ 9 0 + (nxb (φ 4) (φ 8 0) (φ 9 0) w lo hi).toNat)) (congrArg nI (by first | rw [Bool_t c_8] | rw [Bool_f c_8])) ?_
      refine kx_put S hK hW hinX3 tyX3_ok nmX3 0 3 rfl rfl 9 (by decide) (List.mem_of_getElem? (i := 2) rfl) rfl (v := .int (nI (φ 9 0 + (nxb (φ 4) (φ 8 0) (φ 9 0) w lo hi).toNat))) rfl rfl (Nat.le_of_ble_eq_true rfl) dX3_takes_43 (fun H locs hW => ?_)
      have hW : kw D A s.heap (wM c a (pu φ 9 (kc (φ 9 0 + (nxb (φ 4) (φ 8 0) (φ 9 0) w lo hi).toNat))) δ) H locs := hW
      refine lv_aload_n S.1 S.2.1 dX3_takes_46 rfl (lv_at hl 2 rfl) ?_
      refine lv_aload_n S.1 S.2.1 dX3_takes_47 rfl (lv_at hl 2 rfl) ?_
      refine kx_get S hK hW hinX3 0 3 rfl rfl 10 (by decide) (List.mem_of_getElem? (i := 3) rfl) (v := .int (nI (φ 10 0))) rfl dX3_takes_48 ?_
      refine k_top (y := nI ((w).toNat)) (congrArg nI hw) ?_
      refine kb_ne S (tgt := 58) dX3_takes_51 (by decide) (fun c_51 => ?_) (fun c_51 => ?_)
      · refine lv_iconst (v := nI (1)) S.1 S.2.1 dX3_takes_58 rfl ?_
        refine k_top (y := nI ((w || !(nxb (φ 4) (φ 8 0) (φ 9 0) w lo hi)).toNat)) (by first | exact k_or1 c_51 | exact k_or2 c_55) ?_
        refine lv_goto (tgt := 63) S.1 S.2.1 dX3_takes_59 (by decide) ?_
        refine kx_put S hK hW hinX3 tyX3_ok nmX3 0 3 rfl rfl 10 (by decide) (List.mem_of_getElem? (i := 3) rfl) rfl (v := .int (nI (w || !(nxb (φ 4) (φ 8 0) (φ 9 0) w lo hi)).toNat)) (k_narB _) (k_fitB _) (Nat.le_of_ble_eq_true rfl) dX3_takes_63 (fun H locs hW => ?_)
        have hW : kw D A s.heap (wM c a (pu (pu φ 9 (kc (φ 9 0 + (nxb (φ 4) (φ 8 0) (φ 9 0) w lo hi).toNat))) 10 (kc ((w || !(nxb (φ 4) (φ 8 0) (φ 9 0) w lo hi)).toNat))) δ) H locs := hW
        refine lv_iload S.1 S.2.1 dX3_takes_66 (lv_at hl 0 rfl) ?_
        exact hret 68 _ _ _ _ _ dX3_takes_68 hW (rfl) (rfl)
      · refine lv_iload_n S.1 S.2.1 dX3_takes_54 rfl (lv_at hl 1 rfl) ?_
        refine kb_ne S (tgt := 62) dX3_takes_55 (by decide) (fun c_55 => ?_) (fun c_55 => ?_)
        · exact absurd (c_8.symm.trans c_55) (by decide)
        · refine lv_iconst (v := nI (1)) S.1 S.2.1 dX3_takes_58 rfl ?_
          refine k_top (y := nI ((w || !(nxb (φ 4) (φ 8 0) (φ 9 0) w lo hi)).toNat)) (by first | exact k_or1 c_51 | exact k_or2 c_55) ?_
          refine lv_goto (tgt := 63) S.1 S.2.1 dX3_takes_59 (by decide) ?_
          refine kx_put S hK hW hinX3 tyX3_ok nmX3 0 3 rfl rfl 10 (by decide) (List.mem_of_getElem? (i := 3) rfl) rfl (v := .int (nI (w || !(nxb (φ 4) (φ 8 0) (φ 9 0) w lo hi)).toNat)) (k_narB _) (k_fitB _) (Nat.le_of_ble_eq_true rfl) dX3_takes_63 (fun H locs hW => ?_)
          have hW : kw D A s.heap (wM c a (pu (pu φ 9 (kc (φ 9 0 + (nxb (φ 4) (φ 8 0) (φ 9 0) w lo hi).toNat))) 10 (kc ((w || !(nxb (φ 4) (φ 8 0) (φ 9 0) w lo hi)).toNat))) δ) H locs := hW
          refine lv_iload S.1 S.2.1 dX3_takes_66 (lv_at hl 0 rfl) ?_
          exact hret 68 _ _ _ _ _ dX3_takes_68 hW (rfl) (rfl)
    · exact absurd (c_8.symm.trans c_34) (by decide)
  · have hlt := nxb_lt c_8
    refine lv_aload_n S.1 S.2.1 dX3_takes_11 rfl (lv_at hl 1 rfl) ?_
    refine kx_get S hK hW hinX3 0 3 rfl rfl 7 (by decide) (List.mem_of_getElem? (i := 1) rfl) (v := .ref (a 5)) rfl dX3_takes_12 ?_
    refine lv_aload_n S.1 S.2.1 dX3_takes_15 rfl (lv_at hl 1 rfl) ?_
    refine kx_get S hK hW hinX3 0 3 rfl rfl 9 (by decide) (List.mem_of_getElem? (i := 2) rfl) (v := .int (nI (φ 9 0))) rfl dX3_takes_16 ?_
    refine kn_ald S hK hW 5 (f := φ 4) rfl (by omega) (by decide) dX3_takes_19 ?_
    refine lv_iload_n S.1 S.2.1 dX3_takes_20 rfl (lv_at hl 2 rfl) ?_
    refine lv_isub S.1 S.2.1 dX3_takes_21 ?_
    refine k_top (y := tkv (φ 4) (φ 8 0) (φ 9 0) w lo hi) (by unfold tkv; rw [if_pos c_8]) ?_
    refine lv_goto (tgt := 26) S.1 S.2.1 dX3_takes_22 (by decide) ?_
    refine lv_istore (lv' := [(4, .int (tkv (φ 4) (φ 8 0) (φ 9 0) w lo hi)), (3, .int (nI (nxb (φ 4) (φ 8 0) (φ 9 0) w lo hi).toNat)), (0, .ref (a 0)), (1, .int (lo)), (2, .int (hi))]) S.1 S.2.1 dX3_takes_26 hl (by decide) rfl (fun ls hl => ?_)
    refine lv_aload_n S.1 S.2.1 dX3_takes_28 rfl (lv_at hl 2 rfl) ?_
    refine lv_dup S.1 S.2.1 dX3_takes_29 rfl ?_
    refine kx_get S hK hW hinX3 0 3 rfl rfl 9 (by decide) (List.mem_of_getElem? (i := 2) rfl) (v := .int (nI (φ 9 0))) rfl dX3_takes_30 ?_
    refine lv_iload_n S.1 S.2.1 dX3_takes_33 rfl (lv_at hl 1 rfl) ?_
    refine kb_eq S (tgt := 41) dX3_takes_34 (by decide) (fun c_34 => ?_) (fun c_34 => ?_)
    · exact absurd (c_8.symm.trans c_34) (by decide)
    · refine lv_iconst (v := nI (1)) S.1 S.2.1 dX3_takes_37 rfl ?_
      refine lv_goto (tgt := 42) S.1 S.2.1 dX3_takes_38 (by decide) ?_
      refine kn_iadd S dX3_takes_42 ?_
      refine k_top (y := nI (φ 9 0 + (nxb (φ 4) (φ 8 0) (φ 9 0) w lo hi).toNat)) (congrArg nI (by first | rw [Bool_t c_8] | rw [Bool_f c_8])) ?_
      refine kx_put S hK hW hinX3 tyX3_ok nmX3 0 3 rfl rfl 9 (by decide) (List.mem_of_getElem? (i := 2) rfl) rfl (v := .int (nI (φ 9 0 + (nxb (φ 4) (φ 8 0) (φ 9 0) w lo hi).toNat))) rfl rfl (Nat.le_of_ble_eq_true rfl) dX3_takes_43 (fun H locs hW => ?_)
      have hW : kw D A s.heap (wM c a (pu φ 9 (kc (φ 9 0 + (nxb (φ 4) (φ 8 0) (φ 9 0) w lo hi).toNat))) δ) H locs := hW
      refine lv_aload_n S.1 S.2.1 dX3_takes_46 rfl (lv_at hl 2 rfl) ?_
      refine lv_aload_n S.1 S.2.1 dX3_takes_47 rfl (lv_at hl 2 rfl) ?_
      refine kx_get S hK hW hinX3 0 3 rfl rfl 10 (by decide) (List.mem_of_getElem? (i := 3) rfl) (v := .int (nI (φ 10 0))) rfl dX3_takes_48 ?_
      refine k_top (y := nI ((w).toNat)) (congrArg nI hw) ?_
      refine kb_ne S (tgt := 58) dX3_takes_51 (by decide) (fun c_51 => ?_) (fun c_51 => ?_)
      · refine lv_iconst (v := nI (1)) S.1 S.2.1 dX3_takes_58 rfl ?_
        refine k_top (y := nI ((w || !(nxb (φ 4) (φ 8 0) (φ 9 0) w lo hi)).toNat)) (by first | exact k_or1 c_51 | exact k_or2 c_55) ?_
        refine lv_goto (tgt := 63) S.1 S.2.1 dX3_takes_59 (by decide) ?_
        refine kx_put S hK hW hinX3 tyX3_ok nmX3 0 3 rfl rfl 10 (by decide) (List.mem_of_getElem? (i := 3) rfl) rfl (v := .int (nI (w || !(nxb (φ 4) (φ 8 0) (φ 9 0) w lo hi)).toNat)) (k_narB _) (k_fitB _) (Nat.le_of_ble_eq_true rfl) dX3_takes_63 (fun H locs hW => ?_)
        have hW : kw D A s.heap (wM c a (pu (pu φ 9 (kc (φ 9 0 + (nxb (φ 4) (φ 8 0) (φ 9 0) w lo hi).toNat))) 10 (kc ((w || !(nxb (φ 4) (φ 8 0) (φ 9 0) w lo hi)).toNat))) δ) H locs := hW
        refine lv_iload S.1 S.2.1 dX3_takes_66 (lv_at hl 0 rfl) ?_
        exact hret 68 _ _ _ _ _ dX3_takes_68 hW (rfl) (rfl)
      · refine lv_iload_n S.1 S.2.1 dX3_takes_54 rfl (lv_at hl 1 rfl) ?_
        refine kb_ne S (tgt := 62) dX3_takes_55 (by decide) (fun c_55 => ?_) (fun c_55 => ?_)
        · refine lv_iconst (v := nI (0)) S.1 S.2.1 dX3_takes_62 rfl ?_
          refine k_top (y := nI ((w || !(nxb (φ 4) (φ 8 0) (φ 9 0) w lo hi)).toNat)) (k_or0 c_51 c_55) ?_
          refine kx_put S hK hW hinX3 tyX3_ok nmX3 0 3 rfl rfl 10 (by decide) (List.mem_of_getElem? (i := 3) rfl) rfl (v := .int (nI (w || !(nxb (φ 4) (φ 8 0) (φ 9 0) w lo hi)).toNat)) (k_narB _) (k_fitB _) (Nat.le_of_ble_eq_true rfl) dX3_takes_63 (fun H locs hW => ?_)
          have hW : kw D A s.heap (wM c a (pu (pu φ 9 (kc (φ 9 0 + (nxb (φ 4) (φ 8 0) (φ 9 0) w lo hi).toNat))) 10 (kc ((w || !(nxb (φ 4) (φ 8 0) (φ 9 0) w lo hi)).toNat))) δ) H locs := hW
          refine lv_iload S.1 S.2.1 dX3_takes_66 (lv_at hl 0 rfl) ?_
          exact hret 68 _ _ _ _ _ dX3_takes_68 hW (rfl) (rfl)
        · exact absurd (c_8.symm.trans c_55) (by decide)
abbrev rmX3_begins : Room := { frames := 1, cells := 0, slots := 0, locals := 22 }
theorem pdX3_begins : kPd yX3_begins 3 := by decide +kernel
set_option maxHeartbeats 400000 in
set_option maxRecDepth 100000 in
theorem mX3_begins (l : Launch) (D : va_G) (c : Nat → ClassId) (sz : Nat) (v : Int32) (lo : Int32) (hi : Int32) : MI l yX3_begins wsX3_begins rmX3_begins D c sz [] [.int (v), .int (lo), .int (hi)] (nI (bgI v lo hi).toNat) [] := by
  refine MI.of (cc := cX3_begins) (maxL := 3) (ty := .boolean) (by decide) rfl (Nat.le_of_ble_eq_true rfl) (k_narB _) ?_
  intro P e s m below meth cd A Q ls hsz S hK hW hA hl hret
  have hl : lv_has ls 3 [(0, .int (v)), (1, .int (lo)), (2, .int (hi))] := hl
  refine lv_iload_n S.1 S.2.1 dX3_begins_0 rfl (lv_at hl 0 rfl) ?_
  refine lv_iload_n S.1 S.2.1 dX3_begins_1 rfl (lv_at hl 1 rfl) ?_
  refine lv_iload_n S.1 S.2.1 dX3_begins_2 rfl (lv_at hl 2 rfl) ?_
  refine k_SI (rest := []) S hK hl.1 hW (KFr.nil hW hA) (mX3_in l D c  _ v lo hi) gX3_begins_X3_in rfl pdX3_in ⟨⟨rfl, rfl⟩, Nat.le_of_ble_eq_true rfl, Nat.le_of_ble_eq_true rfl⟩ rfl (Nat.le_of_ble_eq_true rfl) dX3_begins_3 ⟨Nat.le_of_ble_eq_true rfl, Nat.le_of_ble_eq_true rfl⟩ (fun H locs hW => ?_)
  have hW : kw D A s.heap [] H locs := hW
  refine kb_ne S (tgt := 32) dX3_begins_6 (by decide) (fun c_6 => ?_) (fun c_6 => ?_)
  · refine lv_iconst (v := nI (1)) S.1 S.2.1 dX3_begins_32 rfl ?_
    refine lv_goto (tgt := 37) S.1 S.2.1 dX3_begins_33 (by decide) ?_
    exact hret 37 _ _ _ _ _ dX3_begins_37 hW (by simp [bgI, *]) (rfl)
  · refine lv_iload_n S.1 S.2.1 dX3_begins_9 rfl (lv_at hl 0 rfl) ?_
    refine lv_if_le (tgt := 36) S.1 S.2.1 dX3_begins_10 (by decide) (fun c_10 => ?_) (fun c_10 => ?_)
    · refine lv_iconst (v := nI (0)) S.1 S.2.1 dX3_begins_36 rfl ?_
      exact hret 37 _ _ _ _ _ dX3_begins_37 hW (by simp [bgI, *]) (rfl)
    · refine lv_bipush (v := nI (10)) S.1 S.2.1 dX3_begins_13 rfl ?_
      refine lv_iload_n S.1 S.2.1 dX3_begins_15 rfl (lv_at hl 0 rfl) ?_
      refine lv_imul S.1 S.2.1 dX3_begins_16 ?_
      refine lv_iload_n S.1 S.2.1 dX3_begins_17 rfl (lv_at hl 2 rfl) ?_
      refine lv_icmp_gt (tgt := 36) S.1 S.2.1 dX3_begins_18 (by decide) (fun c_18 => ?_) (fun c_18 => ?_)
      · refine lv_iconst (v := nI (0)) S.1 S.2.1 dX3_begins_36 rfl ?_
        exact hret 37 _ _ _ _ _ dX3_begins_37 hW (by simp [bgI, *]) (rfl)
      · refine lv_bipush (v := nI (10)) S.1 S.2.1 dX3_begins_21 rfl ?_
        refine lv_iload_n S.1 S.2.1 dX3_begins_23 rfl (lv_at hl 0 rfl) ?_
        refine lv_imul S.1 S.2.1 dX3_begins_24 ?_
        refine lv_bipush (v := nI (9)) S.1 S.2.1 dX3_begins_25 rfl ?_
        refine lv_iadd S.1 S.2.1 dX3_begins_27 ?_
        refine lv_iload_n S.1 S.2.1 dX3_begins_28 rfl (lv_at hl 1 rfl) ?_
        refine lv_icmp_lt (tgt := 36) S.1 S.2.1 dX3_begins_29 (by decide) (fun c_29 => ?_) (fun c_29 => ?_)
        · refine lv_iconst (v := nI (0)) S.1 S.2.1 dX3_begins_36 rfl ?_
          exact hret 37 _ _ _ _ _ dX3_begins_37 hW (by simp [bgI, *]) (rfl)
        · refine lv_iconst (v := nI (1)) S.1 S.2.1 dX3_begins_32 rfl ?_
          refine lv_goto (tgt := 37) S.1 S.2.1 dX3_begins_33 (by decide) ?_
          exact hret 37 _ _ _ _ _ dX3_begins_37 hW (by simp [bgI, *]) (rfl)
abbrev rmX3_number : Room := { frames := 2, cells := 0, slots := 0, locals := 44 }
theorem pdX3_number : kPd yX3_number 2 := by decide +kernel
set_option maxHeartbeats 400000 in
set_option maxRecDepth 100000 in
theorem mX3_number (l : Launch) (D : va_G) (c : Nat → ClassId) (a : Nat → Nat) (φ : Nat → Nat → Nat) (δ : Int64) (sz : Nat) (w : Bool) (lo : Int32) (hi : Int32) (hw : φ 10 0 = w.toNat) (hm : φ 8 0 ≤ 60) (hs : φ 9 0 < 900) : MI l yX3_number wsX3_number rmX3_number D c sz (wM c a φ δ) [.ref (a 0), .int (lo), .int (hi)] (nmV2 (φ 4) (φ 8 0) (φ 9 0) w lo hi) (wM c a (pu (pu φ 9 (kc (nmS2 (φ 4) (φ 8 0) (φ 9 0) w lo hi))) 10 (kc ((nmW2 (φ 4) (φ 8 0) (φ 9 0) w lo hi).toNat))) δ) := by
  refine MI.of (cc := cX3_number) (maxL := 4) (ty := .int) (by decide) rfl (Nat.le_of_ble_eq_true rfl) rfl ?_
  intro P e s m below meth cd A Q ls hsz S hK hW hA hl hret
  have hl : lv_has ls 4 [(0, .ref (a 0)), (1, .int (lo)), (2, .int (hi))] := hl
  have hinX3 : ∀ w ∈ u_ws RX3 TX3 13, w ∈ wsX3_number := by decide +kernel
  have hS1 := nmS1_le (φ 4) (φ 8 0) (φ 9 0) w lo hi
  refine lv_aload_n S.1 S.2.1 dX3_number_0 rfl (lv_at hl 0 rfl) ?_
  refine lv_bipush (v := nI (48)) S.1 S.2.1 dX3_number_1 rfl ?_
  refine lv_bipush (v := nI (57)) S.1 S.2.1 dX3_number_3 rfl ?_
  refine k_VI (rest := []) S hK hl.1 hW (KFr.all hW hA) (mX3_isNext l D c a φ δ _ w (nI (48)) (nI (57)) (by first | omega | exact hw | assumption | (show φ 10 0 = w.toNat; omega) | rfl) (by first | omega | exact hm | assumption | (show φ 8 0 ≤ 60; omega) | rfl) (by first | omega | exact hs | assumption | (show φ 9 0 < 1000; omega) | rfl)) gX3_number_X3_isNext rfl pdX3_isNext ⟨⟨rfl, rfl⟩, Nat.le_of_ble_eq_true rfl, Nat.le_of_ble_eq_true rfl⟩ 0 3 rfl rfl rfl rfl (Nat.le_of_ble_eq_true rfl) dX3_number_5 ⟨Nat.le_of_ble_eq_true rfl, Nat.le_of_ble_eq_true rfl⟩ (fun H locs hW => ?_)
  have hW : kw D A s.heap (wM c a φ δ) H locs := hW
  refine kb_eq S (tgt := 26) dX3_number_8 (by decide) (fun c_8 => ?_) (fun c_8 => ?_)
  · refine lv_iconst (v := nI (4294967295)) S.1 S.2.1 dX3_number_26 rfl ?_
    refine k_top (y := nmV (φ 4) (φ 8 0) (φ 9 0) w) (by unfold nmV; rw [if_neg (by rw [c_8]; decide)]) ?_
    refine lv_istore_n (lv' := [(3, .int (nmV (φ 4) (φ 8 0) (φ 9 0) w)), (0, .ref (a 0)), (1, .int (lo)), (2, .int (hi))]) S.1 S.2.1 dX3_number_27 rfl hl (by decide) rfl (fun ls hl => ?_)
    refine lv_aload_n S.1 S.2.1 dX3_number_28 rfl (lv_at hl 1 rfl) ?_
    refine lv_aload_n S.1 S.2.1 dX3_number_29 rfl (lv_at hl 1 rfl) ?_
    refine kx_get S hK hW hinX3 0 3 rfl rfl 10 (by decide) (List.mem_of_getElem? (i := 3) rfl) (v := .int (nI (φ 10 0))) rfl dX3_number_30 ?_
    refine k_top (y := nI ((w).toNat)) (congrArg nI hw) ?_
    refine kb_ne S (tgt := 45) dX3_number_33 (by decide) (fun c_33 => ?_) (fun c_33 => ?_)
    · refine lv_iconst (v := nI (1)) S.1 S.2.1 dX3_number_45 rfl ?_
      refine k_top (y := nI ((nmW1 (φ 4) (φ 8 0) (φ 9 0) w lo hi).toNat)) (by first | exact k_or1 c_33 | exact k_or2 c_42) ?_
      refine lv_goto (tgt := 50) S.1 S.2.1 dX3_number_46 (by decide) ?_
      refine kx_put S hK hW hinX3 tyX3_ok nmX3 0 3 rfl rfl 10 (by decide) (List.mem_of_getElem? (i := 3) rfl) rfl (v := .int (nI (nmW1 (φ 4) (φ 8 0) (φ 9 0) w lo hi).toNat)) (k_narB _) (k_fitB _) (Nat.le_of_ble_eq_true rfl) dX3_number_50 (fun H locs hW => ?_)
      have hW : kw D A s.heap (wM c a (pu φ 10 (kc ((nmW1 (φ 4) (φ 8 0) (φ 9 0) w lo hi).toNat))) δ) H locs := hW
      refine lv_aload_n S.1 S.2.1 dX3_number_53 rfl (lv_at hl 1 rfl) ?_
      refine lv_dup S.1 S.2.1 dX3_number_54 rfl ?_
      refine kx_get S hK hW hinX3 0 3 rfl rfl 9 (by decide) (List.mem_of_getElem? (i := 2) rfl) (v := .int (nI (φ 9 0))) rfl dX3_number_55 ?_
      refine lv_aload_n S.1 S.2.1 dX3_number_58 rfl (lv_at hl 1 rfl) ?_
      refine kx_get S hK hW hinX3 0 3 rfl rfl 10 (by decide) (List.mem_of_getElem? (i := 3) rfl) (v := .int (nI (nmW1 (φ 4) (φ 8 0) (φ 9 0) w lo hi).toNat)) rfl dX3_number_59 ?_
      refine kb_eq S (tgt := 69) dX3_number_62 (by decide) (fun c_62 => ?_) (fun c_62 => ?_)
      · refine lv_iconst (v := nI (1)) S.1 S.2.1 dX3_number_69 rfl ?_
        refine kn_iadd S dX3_number_70 ?_
        refine k_top (y := nI (nmS1 (φ 4) (φ 8 0) (φ 9 0) w lo hi)) (congrArg nI (by unfold nmS1; rw [c_62]; rfl)) ?_
        refine kx_put S hK hW hinX3 tyX3_ok nmX3 0 3 rfl rfl 9 (by decide) (List.mem_of_getElem? (i := 2) rfl) rfl (v := .int (nI (nmS1 (φ 4) (φ 8 0) (φ 9 0) w lo hi))) rfl rfl (Nat.le_of_ble_eq_true rfl) dX3_number_71 (fun H locs hW => ?_)
        have hW : kw D A s.heap (wM c a (pu (pu φ 10 (kc ((nmW1 (φ 4) (φ 8 0) (φ 9 0) w lo hi).toNat))) 9 (kc (nmS1 (φ 4) (φ 8 0) (φ 9 0) w lo hi))) δ) H locs := hW
        refine lv_iload_n S.1 S.2.1 dX3_number_74 rfl (lv_at hl 0 rfl) ?_
        refine lv_if_le (tgt := 142) S.1 S.2.1 dX3_number_75 (by decide) (fun c_75 => ?_) (fun c_75 => ?_)
        · have hN : nmN2 (φ 4) (φ 8 0) (φ 9 0) w lo hi = false := by simp [nmN2, c_75]
          have hW : kw D A s.heap (wM c a (pu (pu φ 10 (kc ((nmW1 (φ 4) (φ 8 0) (φ 9 0) w lo hi).toNat))) 9 (kc (nmS2 (φ 4) (φ 8 0) (φ 9 0) w lo hi))) δ) H locs := by (rw [show nmS2 (φ 4) (φ 8 0) (φ 9 0) w lo hi = _ from congrArg (nmS1 (φ 4) (φ 8 0) (φ 9 0) w lo hi + ·) (congrArg Bool.toNat hN)]; exact hW)
          refine lv_aload_n S.1 S.2.1 dX3_number_142 rfl (lv_at hl 1 rfl) ?_
          refine lv_aload_n S.1 S.2.1 dX3_number_143 rfl (lv_at hl 1 rfl) ?_
          refine kx_get S hK hW hinX3 0 3 rfl rfl 10 (by decide) (List.mem_of_getElem? (i := 3) rfl) (v := .int (nI (nmW1 (φ 4) (φ 8 0) (φ 9 0) w lo hi).toNat)) rfl dX3_number_144 ?_
          refine kb_ne S (tgt := 159) dX3_number_147 (by decide) (fun c_147 => ?_) (fun c_147 => ?_)
          · exact absurd (c_62.symm.trans c_147) (by decide)
          · refine lv_iload_n S.1 S.2.1 dX3_number_150 rfl (lv_at hl 0 rfl) ?_
            refine k_top (y := nmV2 (φ 4) (φ 8 0) (φ 9 0) w lo hi) (by unfold nmV2; rw [hN]; rfl) ?_
            refine lv_iload_n S.1 S.2.1 dX3_number_151 rfl (lv_at hl 2 rfl) ?_
            refine lv_iload_n S.1 S.2.1 dX3_number_152 rfl (lv_at hl 3 rfl) ?_
            refine k_SI (rest := [.ref (a 0)]) S hK hl.1 hW (KFr.nil hW hA) (mX3_in l D c  _ (nmV2 (φ 4) (φ 8 0) (φ 9 0) w lo hi) lo hi) gX3_number_X3_in rfl pdX3_in ⟨⟨rfl, rfl⟩, Nat.le_of_ble_eq_true rfl, Nat.le_of_ble_eq_true rfl⟩ rfl (Nat.le_of_ble_eq_true rfl) dX3_number_153 ⟨Nat.le_of_ble_eq_true rfl, Nat.le_of_ble_eq_true rfl⟩ (fun H locs hW => ?_)
            have hW : kw D A s.heap (wM c a (pu (pu φ 10 (kc ((nmW1 (φ 4) (φ 8 0) (φ 9 0) w lo hi).toNat))) 9 (kc (nmS2 (φ 4) (φ 8 0) (φ 9 0) w lo hi))) δ) H locs := hW
            refine kb_ne S (tgt := 163) dX3_number_156 (by decide) (fun c_156 => ?_) (fun c_156 => ?_)
            · refine lv_iconst (v := nI (0)) S.1 S.2.1 dX3_number_163 rfl ?_
              refine k_top (y := nI ((nmW2 (φ 4) (φ 8 0) (φ 9 0) w lo hi).toNat)) (k_or0 c_147 c_156) ?_
              refine kx_put S hK hW hinX3 tyX3_ok nmX3 0 3 rfl rfl 10 (by decide) (List.mem_of_getElem? (i := 3) rfl) rfl (v := .int (nI (nmW2 (φ 4) (φ 8 0) (φ 9 0) w lo hi).toNat)) (k_narB _) (k_fitB _) (Nat.le_of_ble_eq_true rfl) dX3_number_164 (fun H locs hW => ?_)
              have hW : kw D A s.heap (wM c a (pu (pu φ 9 (kc (nmS2 (φ 4) (φ 8 0) (φ 9 0) w lo hi))) 10 (kc ((nmW2 (φ 4) (φ 8 0) (φ 9 0) w lo hi).toNat))) δ) H locs := hW
              refine lv_iload_n S.1 S.2.1 dX3_number_167 rfl (lv_at hl 0 rfl) ?_
              refine k_top (y := nmV2 (φ 4) (φ 8 0) (φ 9 0) w lo hi) (by unfold nmV2; rw [hN]; rfl) ?_
              exact hret 168 _ _ _ _ _ dX3_number_168 hW (rfl) (rfl)
            · refine lv_iconst (v := nI (1)) S.1 S.2.1 dX3_number_159 rfl ?_
              refine k_top (y := nI ((nmW2 (φ 4) (φ 8 0) (φ 9 0) w lo hi).toNat)) (by first | exact k_or1 c_147 | exact k_or2 c_156) ?_
              refine lv_goto (tgt := 164) S.1 S.2.1 dX3_number_160 (by decide) ?_
              refine kx_put S hK hW hinX3 tyX3_ok nmX3 0 3 rfl rfl 10 (by decide) (List.mem_of_getElem? (i := 3) rfl) rfl (v := .int (nI (nmW2 (φ 4) (φ 8 0) (φ 9 0) w lo hi).toNat)) (k_narB _) (k_fitB _) (Nat.le_of_ble_eq_true rfl) dX3_number_164 (fun H locs hW => ?_)
              have hW : kw D A s.heap (wM c a (pu (pu φ 9 (kc (nmS2 (φ 4) (φ 8 0) (φ 9 0) w lo hi))) 10 (kc ((nmW2 (φ 4) (φ 8 0) (φ 9 0) w lo hi).toNat))) δ) H locs := hW
              refine lv_iload_n S.1 S.2.1 dX3_number_167 rfl (lv_at hl 0 rfl) ?_
              refine k_top (y := nmV2 (φ 4) (φ 8 0) (φ 9 0) w lo hi) (by unfold nmV2; rw [hN]; rfl) ?_
              exact hret 168 _ _ _ _ _ dX3_number_168 hW (rfl) (rfl)
        · refine lv_aload_n S.1 S.2.1 dX3_number_78 rfl (lv_at hl 1 rfl) ?_
          refine lv_bipush (v := nI (48)) S.1 S.2.1 dX3_number_79 rfl ?_
          refine lv_bipush (v := nI (57)) S.1 S.2.1 dX3_number_81 rfl ?_
          refine k_VI (rest := []) S hK hl.1 hW (KFr.all hW hA) (mX3_isNext l D c a ((pu (pu φ 10 (kc ((nmW1 (φ 4) (φ 8 0) (φ 9 0) w lo hi).toNat))) 9 (kc (nmS1 (φ 4) (φ 8 0) (φ 9 0) w lo hi)))) δ _ (nmW1 (φ 4) (φ 8 0) (φ 9 0) w lo hi) (nI (48)) (nI (57)) (by first | omega | exact hw | assumption | (show ((nmW1 (φ 4) (φ 8 0) (φ 9 0) w lo hi).toNat) = (nmW1 (φ 4) (φ 8 0) (φ 9 0) w lo hi).toNat; omega) | rfl) (by first | omega | exact hm | assumption | (show (φ 8 0) ≤ 60; omega) | rfl) (by first | omega | exact hs | assumption | (show (nmS1 (φ 4) (φ 8 0) (φ 9 0) w lo hi) < 1000; omega) | rfl)) gX3_number_X3_isNext rfl pdX3_isNext ⟨⟨rfl, rfl⟩, Nat.le_of_ble_eq_true rfl, Nat.le_of_ble_eq_true rfl⟩ 0 3 rfl rfl rfl rfl (Nat.le_of_ble_eq_true rfl) dX3_number_83 ⟨Nat.le_of_ble_eq_true rfl, Nat.le_of_ble_eq_true rfl⟩ (fun H locs hW => ?_)
          have hW : kw D A s.heap (wM c a (pu (pu φ 10 (kc ((nmW1 (φ 4) (φ 8 0) (φ 9 0) w lo hi).toNat))) 9 (kc (nmS1 (φ 4) (φ 8 0) (φ 9 0) w lo hi))) δ) H locs := hW
          refine k_top (y := nI ((nxb ((φ 4)) ((φ 8 0)) ((nmS1 (φ 4) (φ 8 0) (φ 9 0) w lo hi)) (nmW1 (φ 4) (φ 8 0) (φ 9 0) w lo hi) (nI (48)) (nI (57))).toNat)) rfl ?_
          refine kb_eq S (tgt := 142) dX3_number_86 (by decide) (fun c_86 => ?_) (fun c_86 => ?_)
          · have hN : nmN2 (φ 4) (φ 8 0) (φ 9 0) w lo hi = false := by simp [nmN2, c_86]
            have hW : kw D A s.heap (wM c a (pu (pu φ 10 (kc ((nmW1 (φ 4) (φ 8 0) (φ 9 0) w lo hi).toNat))) 9 (kc (nmS2 (φ 4) (φ 8 0) (φ 9 0) w lo hi))) δ) H locs := by (rw [show nmS2 (φ 4) (φ 8 0) (φ 9 0) w lo hi = _ from congrArg (nmS1 (φ 4) (φ 8 0) (φ 9 0) w lo hi + ·) (congrArg Bool.toNat hN)]; exact hW)
            refine lv_aload_n S.1 S.2.1 dX3_number_142 rfl (lv_at hl 1 rfl) ?_
            refine lv_aload_n S.1 S.2.1 dX3_number_143 rfl (lv_at hl 1 rfl) ?_
            refine kx_get S hK hW hinX3 0 3 rfl rfl 10 (by decide) (List.mem_of_getElem? (i := 3) rfl) (v := .int (nI (nmW1 (φ 4) (φ 8 0) (φ 9 0) w lo hi).toNat)) rfl dX3_number_144 ?_
            refine kb_ne S (tgt := 159) dX3_number_147 (by decide) (fun c_147 => ?_) (fun c_147 => ?_)
            · exact absurd (c_62.symm.trans c_147) (by decide)
            · refine lv_iload_n S.1 S.2.1 dX3_number_150 rfl (lv_at hl 0 rfl) ?_
              refine k_top (y := nmV2 (φ 4) (φ 8 0) (φ 9 0) w lo hi) (by unfold nmV2; rw [hN]; rfl) ?_
              refine lv_iload_n S.1 S.2.1 dX3_number_151 rfl (lv_at hl 2 rfl) ?_
              refine lv_iload_n S.1 S.2.1 dX3_number_152 rfl (lv_at hl 3 rfl) ?_
              refine k_SI (rest := [.ref (a 0)]) S hK hl.1 hW (KFr.nil hW hA) (mX3_in l D c  _ (nmV2 (φ 4) (φ 8 0) (φ 9 0) w lo hi) lo hi) gX3_number_X3_in rfl pdX3_in ⟨⟨rfl, rfl⟩, Nat.le_of_ble_eq_true rfl, Nat.le_of_ble_eq_true rfl⟩ rfl (Nat.le_of_ble_eq_true rfl) dX3_number_153 ⟨Nat.le_of_ble_eq_true rfl, Nat.le_of_ble_eq_true rfl⟩ (fun H locs hW => ?_)
              have hW : kw D A s.heap (wM c a (pu (pu φ 10 (kc ((nmW1 (φ 4) (φ 8 0) (φ 9 0) w lo hi).toNat))) 9 (kc (nmS2 (φ 4) (φ 8 0) (φ 9 0) w lo hi))) δ) H locs := hW
              refine kb_ne S (tgt := 163) dX3_number_156 (by decide) (fun c_156 => ?_) (fun c_156 => ?_)
              · refine lv_iconst (v := nI (0)) S.1 S.2.1 dX3_number_163 rfl ?_
                refine k_top (y := nI ((nmW2 (φ 4) (φ 8 0) (φ 9 0) w lo hi).toNat)) (k_or0 c_147 c_156) ?_
                refine kx_put S hK hW hinX3 tyX3_ok nmX3 0 3 rfl rfl 10 (by decide) (List.mem_of_getElem? (i := 3) rfl) rfl (v := .int (nI (nmW2 (φ 4) (φ 8 0) (φ 9 0) w lo hi).toNat)) (k_narB _) (k_fitB _) (Nat.le_of_ble_eq_true rfl) dX3_number_164 (fun H locs hW => ?_)
                have hW : kw D A s.heap (wM c a (pu (pu φ 9 (kc (nmS2 (φ 4) (φ 8 0) (φ 9 0) w lo hi))) 10 (kc ((nmW2 (φ 4) (φ 8 0) (φ 9 0) w lo hi).toNat))) δ) H locs := hW
                refine lv_iload_n S.1 S.2.1 dX3_number_167 rfl (lv_at hl 0 rfl) ?_
                refine k_top (y := nmV2 (φ 4) (φ 8 0) (φ 9 0) w lo hi) (by unfold nmV2; rw [hN]; rfl) ?_
                exact hret 168 _ _ _ _ _ dX3_number_168 hW (rfl) (rfl)
              · refine lv_iconst (v := nI (1)) S.1 S.2.1 dX3_number_159 rfl ?_
                refine k_top (y := nI ((nmW2 (φ 4) (φ 8 0) (φ 9 0) w lo hi).toNat)) (by first | exact k_or1 c_147 | exact k_or2 c_156) ?_
                refine lv_goto (tgt := 164) S.1 S.2.1 dX3_number_160 (by decide) ?_
                refine kx_put S hK hW hinX3 tyX3_ok nmX3 0 3 rfl rfl 10 (by decide) (List.mem_of_getElem? (i := 3) rfl) rfl (v := .int (nI (nmW2 (φ 4) (φ 8 0) (φ 9 0) w lo hi).toNat)) (k_narB _) (k_fitB _) (Nat.le_of_ble_eq_true rfl) dX3_number_164 (fun H locs hW => ?_)
                have hW : kw D A s.heap (wM c a (pu (pu φ 9 (kc (nmS2 (φ 4) (φ 8 0) (φ 9 0) w lo hi))) 10 (kc ((nmW2 (φ 4) (φ 8 0) (φ 9 0) w lo hi).toNat))) δ) H locs := hW
                refine lv_iload_n S.1 S.2.1 dX3_number_167 rfl (lv_at hl 0 rfl) ?_
                refine k_top (y := nmV2 (φ 4) (φ 8 0) (φ 9 0) w lo hi) (by unfold nmV2; rw [hN]; rfl) ?_
                exact hret 168 _ _ _ _ _ dX3_number_168 hW (rfl) (rfl)
          · have hlt2 := nxb_lt c_86
            refine lv_bipush (v := nI (10)) S.1 S.2.1 dX3_number_89 rfl ?_
            refine lv_iload_n S.1 S.2.1 dX3_number_91 rfl (lv_at hl 0 rfl) ?_
            refine lv_imul S.1 S.2.1 dX3_number_92 ?_
            refine lv_aload_n S.1 S.2.1 dX3_number_93 rfl (lv_at hl 1 rfl) ?_
            refine kx_get S hK hW hinX3 0 3 rfl rfl 7 (by decide) (List.mem_of_getElem? (i := 1) rfl) (v := .ref (a 5)) rfl dX3_number_94 ?_
            refine lv_aload_n S.1 S.2.1 dX3_number_97 rfl (lv_at hl 1 rfl) ?_
            refine kx_get S hK hW hinX3 0 3 rfl rfl 9 (by decide) (List.mem_of_getElem? (i := 2) rfl) (v := .int (nI (nmS1 (φ 4) (φ 8 0) (φ 9 0) w lo hi))) rfl dX3_number_98 ?_
            refine kn_ald S hK hW 5 (f := φ 4) rfl (by omega) (by decide) dX3_number_101 ?_
            refine lv_iadd S.1 S.2.1 dX3_number_102 ?_
            refine lv_bipush (v := nI (48)) S.1 S.2.1 dX3_number_103 rfl ?_
            refine lv_isub S.1 S.2.1 dX3_number_105 ?_
            refine k_top (y := nmV1 (φ 4) (φ 8 0) (φ 9 0) w lo hi) (rfl) ?_
            refine lv_iload_n S.1 S.2.1 dX3_number_106 rfl (lv_at hl 2 rfl) ?_
            refine lv_iload_n S.1 S.2.1 dX3_number_107 rfl (lv_at hl 3 rfl) ?_
            refine k_SI (rest := []) S hK hl.1 hW (KFr.nil hW hA) (mX3_in l D c  _ (nmV1 (φ 4) (φ 8 0) (φ 9 0) w lo hi) lo hi) gX3_number_X3_in rfl pdX3_in ⟨⟨rfl, rfl⟩, Nat.le_of_ble_eq_true rfl, Nat.le_of_ble_eq_true rfl⟩ rfl (Nat.le_of_ble_eq_true rfl) dX3_number_108 ⟨Nat.le_of_ble_eq_true rfl, Nat.le_of_ble_eq_true rfl⟩ (fun H locs hW => ?_)
            have hW : kw D A s.heap (wM c a (pu (pu φ 10 (kc ((nmW1 (φ 4) (φ 8 0) (φ 9 0) w lo hi).toNat))) 9 (kc (nmS1 (φ 4) (φ 8 0) (φ 9 0) w lo hi))) δ) H locs := hW
            refine kb_eq S (tgt := 142) dX3_number_111 (by decide) (fun c_111 => ?_) (fun c_111 => ?_)
            · have hN : nmN2 (φ 4) (φ 8 0) (φ 9 0) w lo hi = false := by unfold nmN2; rw [show inb (nmV1 (φ 4) (φ 8 0) (φ 9 0) w lo hi) lo hi = false from c_111, Bool.and_false]
              have hW : kw D A s.heap (wM c a (pu (pu φ 10 (kc ((nmW1 (φ 4) (φ 8 0) (φ 9 0) w lo hi).toNat))) 9 (kc (nmS2 (φ 4) (φ 8 0) (φ 9 0) w lo hi))) δ) H locs := by (rw [show nmS2 (φ 4) (φ 8 0) (φ 9 0) w lo hi = _ from congrArg (nmS1 (φ 4) (φ 8 0) (φ 9 0) w lo hi + ·) (congrArg Bool.toNat hN)]; exact hW)
              refine lv_aload_n S.1 S.2.1 dX3_number_142 rfl (lv_at hl 1 rfl) ?_
              refine lv_aload_n S.1 S.2.1 dX3_number_143 rfl (lv_at hl 1 rfl) ?_
              refine kx_get S hK hW hinX3 0 3 rfl rfl 10 (by decide) (List.mem_of_getElem? (i := 3) rfl) (v := .int (nI (nmW1 (φ 4) (φ 8 0) (φ 9 0) w lo hi).toNat)) rfl dX3_number_144 ?_
              refine kb_ne S (tgt := 159) dX3_number_147 (by decide) (fun c_147 => ?_) (fun c_147 => ?_)
              · exact absurd (c_62.symm.trans c_147) (by decide)
              · refine lv_iload_n S.1 S.2.1 dX3_number_150 rfl (lv_at hl 0 rfl) ?_
                refine k_top (y := nmV2 (φ 4) (φ 8 0) (φ 9 0) w lo hi) (by unfold nmV2; rw [hN]; rfl) ?_
                refine lv_iload_n S.1 S.2.1 dX3_number_151 rfl (lv_at hl 2 rfl) ?_
                refine lv_iload_n S.1 S.2.1 dX3_number_152 rfl (lv_at hl 3 rfl) ?_
                refine k_SI (rest := [.ref (a 0)]) S hK hl.1 hW (KFr.nil hW hA) (mX3_in l D c  _ (nmV2 (φ 4) (φ 8 0) (φ 9 0) w lo hi) lo hi) gX3_number_X3_in rfl pdX3_in ⟨⟨rfl, rfl⟩, Nat.le_of_ble_eq_true rfl, Nat.le_of_ble_eq_true rfl⟩ rfl (Nat.le_of_ble_eq_true rfl) dX3_number_153 ⟨Nat.le_of_ble_eq_true rfl, Nat.le_of_ble_eq_true rfl⟩ (fun H locs hW => ?_)
                have hW : kw D A s.heap (wM c a (pu (pu φ 10 (kc ((nmW1 (φ 4) (φ 8 0) (φ 9 0) w lo hi).toNat))) 9 (kc (nmS2 (φ 4) (φ 8 0) (φ 9 0) w lo hi))) δ) H locs := hW
                refine kb_ne S (tgt := 163) dX3_number_156 (by decide) (fun c_156 => ?_) (fun c_156 => ?_)
                · refine lv_iconst (v := nI (0)) S.1 S.2.1 dX3_number_163 rfl ?_
                  refine k_top (y := nI ((nmW2 (φ 4) (φ 8 0) (φ 9 0) w lo hi).toNat)) (k_or0 c_147 c_156) ?_
                  refine kx_put S hK hW hinX3 tyX3_ok nmX3 0 3 rfl rfl 10 (by decide) (List.mem_of_getElem? (i := 3) rfl) rfl (v := .int (nI (nmW2 (φ 4) (φ 8 0) (φ 9 0) w lo hi).toNat)) (k_narB _) (k_fitB _) (Nat.le_of_ble_eq_true rfl) dX3_number_164 (fun H locs hW => ?_)
                  have hW : kw D A s.heap (wM c a (pu (pu φ 9 (kc (nmS2 (φ 4) (φ 8 0) (φ 9 0) w lo hi))) 10 (kc ((nmW2 (φ 4) (φ 8 0) (φ 9 0) w lo hi).toNat))) δ) H locs := hW
                  refine lv_iload_n S.1 S.2.1 dX3_number_167 rfl (lv_at hl 0 rfl) ?_
                  refine k_top (y := nmV2 (φ 4) (φ 8 0) (φ 9 0) w lo hi) (by unfold nmV2; rw [hN]; rfl) ?_
                  exact hret 168 _ _ _ _ _ dX3_number_168 hW (rfl) (rfl)
                · refine lv_iconst (v := nI (1)) S.1 S.2.1 dX3_number_159 rfl ?_
                  refine k_top (y := nI ((nmW2 (φ 4) (φ 8 0) (φ 9 0) w lo hi).toNat)) (by first | exact k_or1 c_147 | exact k_or2 c_156) ?_
                  refine lv_goto (tgt := 164) S.1 S.2.1 dX3_number_160 (by decide) ?_
                  refine kx_put S hK hW hinX3 tyX3_ok nmX3 0 3 rfl rfl 10 (by decide) (List.mem_of_getElem? (i := 3) rfl) rfl (v := .int (nI (nmW2 (φ 4) (φ 8 0) (φ 9 0) w lo hi).toNat)) (k_narB _) (k_fitB _) (Nat.le_of_ble_eq_true rfl) dX3_number_164 (fun H locs hW => ?_)
                  have hW : kw D A s.heap (wM c a (pu (pu φ 9 (kc (nmS2 (φ 4) (φ 8 0) (φ 9 0) w lo hi))) 10 (kc ((nmW2 (φ 4) (φ 8 0) (φ 9 0) w lo hi).toNat))) δ) H locs := hW
                  refine lv_iload_n S.1 S.2.1 dX3_number_167 rfl (lv_at hl 0 rfl) ?_
                  refine k_top (y := nmV2 (φ 4) (φ 8 0) (φ 9 0) w lo hi) (by unfold nmV2; rw [hN]; rfl) ?_
                  exact hret 168 _ _ _ _ _ dX3_number_168 hW (rfl) (rfl)
            · have hN : nmN2 (φ 4) (φ 8 0) (φ 9 0) w lo hi = true := by unfold nmN2; rw [show inb (nmV1 (φ 4) (φ 8 0) (φ 9 0) w lo hi) lo hi = true from c_111, c_86, decide_eq_false c_75]; rfl
              refine lv_bipush (v := nI (10)) S.1 S.2.1 dX3_number_114 rfl ?_
              refine lv_iload_n S.1 S.2.1 dX3_number_116 rfl (lv_at hl 0 rfl) ?_
              refine lv_imul S.1 S.2.1 dX3_number_117 ?_
              refine lv_aload_n S.1 S.2.1 dX3_number_118 rfl (lv_at hl 1 rfl) ?_
              refine kx_get S hK hW hinX3 0 3 rfl rfl 7 (by decide) (List.mem_of_getElem? (i := 1) rfl) (v := .ref (a 5)) rfl dX3_number_119 ?_
              refine lv_aload_n S.1 S.2.1 dX3_number_122 rfl (lv_at hl 1 rfl) ?_
              refine kx_get S hK hW hinX3 0 3 rfl rfl 9 (by decide) (List.mem_of_getElem? (i := 2) rfl) (v := .int (nI (nmS1 (φ 4) (φ 8 0) (φ 9 0) w lo hi))) rfl dX3_number_123 ?_
              refine kn_ald S hK hW 5 (f := φ 4) rfl (by omega) (by decide) dX3_number_126 ?_
              refine lv_iadd S.1 S.2.1 dX3_number_127 ?_
              refine lv_bipush (v := nI (48)) S.1 S.2.1 dX3_number_128 rfl ?_
              refine lv_isub S.1 S.2.1 dX3_number_130 ?_
              refine k_top (y := nmV1 (φ 4) (φ 8 0) (φ 9 0) w lo hi) (rfl) ?_
              refine lv_istore_n (lv' := [(3, .int (nmV1 (φ 4) (φ 8 0) (φ 9 0) w lo hi)), (0, .ref (a 0)), (1, .int (lo)), (2, .int (hi))]) S.1 S.2.1 dX3_number_131 rfl hl (by decide) rfl (fun ls hl => ?_)
              refine lv_aload_n S.1 S.2.1 dX3_number_132 rfl (lv_at hl 1 rfl) ?_
              refine lv_dup S.1 S.2.1 dX3_number_133 rfl ?_
              refine kx_get S hK hW hinX3 0 3 rfl rfl 9 (by decide) (List.mem_of_getElem? (i := 2) rfl) (v := .int (nI (nmS1 (φ 4) (φ 8 0) (φ 9 0) w lo hi))) rfl dX3_number_134 ?_
              refine lv_iconst (v := nI (1)) S.1 S.2.1 dX3_number_137 rfl ?_
              refine kn_iadd S dX3_number_138 ?_
              refine kx_put S hK hW hinX3 tyX3_ok nmX3 0 3 rfl rfl 9 (by decide) (List.mem_of_getElem? (i := 2) rfl) rfl (v := .int (nI (nmS1 (φ 4) (φ 8 0) (φ 9 0) w lo hi + 1))) rfl rfl (Nat.le_of_ble_eq_true rfl) dX3_number_139 (fun H locs hW => ?_)
              have hW : kw D A s.heap (wM c a (pu (pu φ 10 (kc ((nmW1 (φ 4) (φ 8 0) (φ 9 0) w lo hi).toNat))) 9 (kc (nmS1 (φ 4) (φ 8 0) (φ 9 0) w lo hi + 1))) δ) H locs := hW
              have hW : kw D A s.heap (wM c a (pu (pu φ 10 (kc ((nmW1 (φ 4) (φ 8 0) (φ 9 0) w lo hi).toNat))) 9 (kc (nmS2 (φ 4) (φ 8 0) (φ 9 0) w lo hi))) δ) H locs := by (rw [show nmS2 (φ 4) (φ 8 0) (φ 9 0) w lo hi = _ from congrArg (nmS1 (φ 4) (φ 8 0) (φ 9 0) w lo hi + ·) (congrArg Bool.toNat hN)]; exact hW)
              refine lv_aload_n S.1 S.2.1 dX3_number_142 rfl (lv_at hl 1 rfl) ?_
              refine lv_aload_n S.1 S.2.1 dX3_number_143 rfl (lv_at hl 1 rfl) ?_
              refine kx_get S hK hW hinX3 0 3 rfl rfl 10 (by decide) (List.mem_of_getElem? (i := 3) rfl) (v := .int (nI (nmW1 (φ 4) (φ 8 0) (φ 9 0) w lo hi).toNat)) rfl dX3_number_144 ?_
              refine kb_ne S (tgt := 159) dX3_number_147 (by decide) (fun c_147 => ?_) (fun c_147 => ?_)
              · exact absurd (c_62.symm.trans c_147) (by decide)
              · refine lv_iload_n S.1 S.2.1 dX3_number_150 rfl (lv_at hl 0 rfl) ?_
                refine k_top (y := nmV2 (φ 4) (φ 8 0) (φ 9 0) w lo hi) (by unfold nmV2; rw [hN]; rfl) ?_
                refine lv_iload_n S.1 S.2.1 dX3_number_151 rfl (lv_at hl 2 rfl) ?_
                refine lv_iload_n S.1 S.2.1 dX3_number_152 rfl (lv_at hl 3 rfl) ?_
                refine k_SI (rest := [.ref (a 0)]) S hK hl.1 hW (KFr.nil hW hA) (mX3_in l D c  _ (nmV2 (φ 4) (φ 8 0) (φ 9 0) w lo hi) lo hi) gX3_number_X3_in rfl pdX3_in ⟨⟨rfl, rfl⟩, Nat.le_of_ble_eq_true rfl, Nat.le_of_ble_eq_true rfl⟩ rfl (Nat.le_of_ble_eq_true rfl) dX3_number_153 ⟨Nat.le_of_ble_eq_true rfl, Nat.le_of_ble_eq_true rfl⟩ (fun H locs hW => ?_)
                have hW : kw D A s.heap (wM c a (pu (pu φ 10 (kc ((nmW1 (φ 4) (φ 8 0) (φ 9 0) w lo hi).toNat))) 9 (kc (nmS2 (φ 4) (φ 8 0) (φ 9 0) w lo hi))) δ) H locs := hW
                refine kb_ne S (tgt := 163) dX3_number_156 (by decide) (fun c_156 => ?_) (fun c_156 => ?_)
                · refine lv_iconst (v := nI (0)) S.1 S.2.1 dX3_number_163 rfl ?_
                  refine k_top (y := nI ((nmW2 (φ 4) (φ 8 0) (φ 9 0) w lo hi).toNat)) (k_or0 c_147 c_156) ?_
                  refine kx_put S hK hW hinX3 tyX3_ok nmX3 0 3 rfl rfl 10 (by decide) (List.mem_of_getElem? (i := 3) rfl) rfl (v := .int (nI (nmW2 (φ 4) (φ 8 0) (φ 9 0) w lo hi).toNat)) (k_narB _) (k_fitB _) (Nat.le_of_ble_eq_true rfl) dX3_number_164 (fun H locs hW => ?_)
                  have hW : kw D A s.heap (wM c a (pu (pu φ 9 (kc (nmS2 (φ 4) (φ 8 0) (φ 9 0) w lo hi))) 10 (kc ((nmW2 (φ 4) (φ 8 0) (φ 9 0) w lo hi).toNat))) δ) H locs := hW
                  refine lv_iload_n S.1 S.2.1 dX3_number_167 rfl (lv_at hl 0 rfl) ?_
                  refine k_top (y := nmV2 (φ 4) (φ 8 0) (φ 9 0) w lo hi) (by unfold nmV2; rw [hN]; rfl) ?_
                  exact hret 168 _ _ _ _ _ dX3_number_168 hW (rfl) (rfl)
                · refine lv_iconst (v := nI (1)) S.1 S.2.1 dX3_number_159 rfl ?_
                  refine k_top (y := nI ((nmW2 (φ 4) (φ 8 0) (φ 9 0) w lo hi).toNat)) (by first | exact k_or1 c_147 | exact k_or2 c_156) ?_
                  refine lv_goto (tgt := 164) S.1 S.2.1 dX3_number_160 (by decide) ?_
                  refine kx_put S hK hW hinX3 tyX3_ok nmX3 0 3 rfl rfl 10 (by decide) (List.mem_of_getElem? (i := 3) rfl) rfl (v := .int (nI (nmW2 (φ 4) (φ 8 0) (φ 9 0) w lo hi).toNat)) (k_narB _) (k_fitB _) (Nat.le_of_ble_eq_true rfl) dX3_number_164 (fun H locs hW => ?_)
                  have hW : kw D A s.heap (wM c a (pu (pu φ 9 (kc (nmS2 (φ 4) (φ 8 0) (φ 9 0) w lo hi))) 10 (kc ((nmW2 (φ 4) (φ 8 0) (φ 9 0) w lo hi).toNat))) δ) H locs := hW
                  refine lv_iload_n S.1 S.2.1 dX3_number_167 rfl (lv_at hl 0 rfl) ?_
                  refine k_top (y := nmV2 (φ 4) (φ 8 0) (φ 9 0) w lo hi) (by unfold nmV2; rw [hN]; rfl) ?_
                  exact hret 168 _ _ _ _ _ dX3_number_168 hW (rfl) (rfl)
      · refine lv_iconst (v := nI (0)) S.1 S.2.1 dX3_number_65 rfl ?_
        refine lv_goto (tgt := 70) S.1 S.2.1 dX3_number_66 (by decide) ?_
        refine kn_iadd S dX3_number_70 ?_
        refine k_top (y := nI (nmS1 (φ 4) (φ 8 0) (φ 9 0) w lo hi)) (congrArg nI (by unfold nmS1; rw [c_62]; rfl)) ?_
        refine kx_put S hK hW hinX3 tyX3_ok nmX3 0 3 rfl rfl 9 (by decide) (List.mem_of_getElem? (i := 2) rfl) rfl (v := .int (nI (nmS1 (φ 4) (φ 8 0) (φ 9 0) w lo hi))) rfl rfl (Nat.le_of_ble_eq_true rfl) dX3_number_71 (fun H locs hW => ?_)
        have hW : kw D A s.heap (wM c a (pu (pu φ 10 (kc ((nmW1 (φ 4) (φ 8 0) (φ 9 0) w lo hi).toNat))) 9 (kc (nmS1 (φ 4) (φ 8 0) (φ 9 0) w lo hi))) δ) H locs := hW
        refine lv_iload_n S.1 S.2.1 dX3_number_74 rfl (lv_at hl 0 rfl) ?_
        refine lv_if_le (tgt := 142) S.1 S.2.1 dX3_number_75 (by decide) (fun c_75 => ?_) (fun c_75 => ?_)
        · have hN : nmN2 (φ 4) (φ 8 0) (φ 9 0) w lo hi = false := by simp [nmN2, c_75]
          have hW : kw D A s.heap (wM c a (pu (pu φ 10 (kc ((nmW1 (φ 4) (φ 8 0) (φ 9 0) w lo hi).toNat))) 9 (kc (nmS2 (φ 4) (φ 8 0) (φ 9 0) w lo hi))) δ) H locs := by (rw [show nmS2 (φ 4) (φ 8 0) (φ 9 0) w lo hi = _ from congrArg (nmS1 (φ 4) (φ 8 0) (φ 9 0) w lo hi + ·) (congrArg Bool.toNat hN)]; exact hW)
          refine lv_aload_n S.1 S.2.1 dX3_number_142 rfl (lv_at hl 1 rfl) ?_
          refine lv_aload_n S.1 S.2.1 dX3_number_143 rfl (lv_at hl 1 rfl) ?_
          refine kx_get S hK hW hinX3 0 3 rfl rfl 10 (by decide) (List.mem_of_getElem? (i := 3) rfl) (v := .int (nI (nmW1 (φ 4) (φ 8 0) (φ 9 0) w lo hi).toNat)) rfl dX3_number_144 ?_
          refine kb_ne S (tgt := 159) dX3_number_147 (by decide) (fun c_147 => ?_) (fun c_147 => ?_)
          · refine lv_iconst (v := nI (1)) S.1 S.2.1 dX3_number_159 rfl ?_
            refine k_top (y := nI ((nmW2 (φ 4) (φ 8 0) (φ 9 0) w lo hi).toNat)) (by first | exact k_or1 c_147 | exact k_or2 c_156) ?_
            refine lv_goto (tgt := 164) S.1 S.2.1 dX3_number_160 (by decide) ?_
            refine kx_put S hK hW hinX3 tyX3_ok nmX3 0 3 rfl rfl 10 (by decide) (List.mem_of_getElem? (i := 3) rfl) rfl (v := .int (nI (nmW2 (φ 4) (φ 8 0) (φ 9 0) w lo hi).toNat)) (k_narB _) (k_fitB _) (Nat.le_of_ble_eq_true rfl) dX3_number_164 (fun H locs hW => ?_)
            have hW : kw D A s.heap (wM c a (pu (pu φ 9 (kc (nmS2 (φ 4) (φ 8 0) (φ 9 0) w lo hi))) 10 (kc ((nmW2 (φ 4) (φ 8 0) (φ 9 0) w lo hi).toNat))) δ) H locs := hW
            refine lv_iload_n S.1 S.2.1 dX3_number_167 rfl (lv_at hl 0 rfl) ?_
            refine k_top (y := nmV2 (φ 4) (φ 8 0) (φ 9 0) w lo hi) (by unfold nmV2; rw [hN]; rfl) ?_
            exact hret 168 _ _ _ _ _ dX3_number_168 hW (rfl) (rfl)
          · exact absurd (c_62.symm.trans c_147) (by decide)
        · refine lv_aload_n S.1 S.2.1 dX3_number_78 rfl (lv_at hl 1 rfl) ?_
          refine lv_bipush (v := nI (48)) S.1 S.2.1 dX3_number_79 rfl ?_
          refine lv_bipush (v := nI (57)) S.1 S.2.1 dX3_number_81 rfl ?_
          refine k_VI (rest := []) S hK hl.1 hW (KFr.all hW hA) (mX3_isNext l D c a ((pu (pu φ 10 (kc ((nmW1 (φ 4) (φ 8 0) (φ 9 0) w lo hi).toNat))) 9 (kc (nmS1 (φ 4) (φ 8 0) (φ 9 0) w lo hi)))) δ _ (nmW1 (φ 4) (φ 8 0) (φ 9 0) w lo hi) (nI (48)) (nI (57)) (by first | omega | exact hw | assumption | (show ((nmW1 (φ 4) (φ 8 0) (φ 9 0) w lo hi).toNat) = (nmW1 (φ 4) (φ 8 0) (φ 9 0) w lo hi).toNat; omega) | rfl) (by first | omega | exact hm | assumption | (show (φ 8 0) ≤ 60; omega) | rfl) (by first | omega | exact hs | assumption | (show (nmS1 (φ 4) (φ 8 0) (φ 9 0) w lo hi) < 1000; omega) | rfl)) gX3_number_X3_isNext rfl pdX3_isNext ⟨⟨rfl, rfl⟩, Nat.le_of_ble_eq_true rfl, Nat.le_of_ble_eq_true rfl⟩ 0 3 rfl rfl rfl rfl (Nat.le_of_ble_eq_true rfl) dX3_number_83 ⟨Nat.le_of_ble_eq_true rfl, Nat.le_of_ble_eq_true rfl⟩ (fun H locs hW => ?_)
          have hW : kw D A s.heap (wM c a (pu (pu φ 10 (kc ((nmW1 (φ 4) (φ 8 0) (φ 9 0) w lo hi).toNat))) 9 (kc (nmS1 (φ 4) (φ 8 0) (φ 9 0) w lo hi))) δ) H locs := hW
          refine k_top (y := nI ((nxb ((φ 4)) ((φ 8 0)) ((nmS1 (φ 4) (φ 8 0) (φ 9 0) w lo hi)) (nmW1 (φ 4) (φ 8 0) (φ 9 0) w lo hi) (nI (48)) (nI (57))).toNat)) rfl ?_
          refine kb_eq S (tgt := 142) dX3_number_86 (by decide) (fun c_86 => ?_) (fun c_86 => ?_)
          · have hN : nmN2 (φ 4) (φ 8 0) (φ 9 0) w lo hi = false := by simp [nmN2, c_86]
            have hW : kw D A s.heap (wM c a (pu (pu φ 10 (kc ((nmW1 (φ 4) (φ 8 0) (φ 9 0) w lo hi).toNat))) 9 (kc (nmS2 (φ 4) (φ 8 0) (φ 9 0) w lo hi))) δ) H locs := by (rw [show nmS2 (φ 4) (φ 8 0) (φ 9 0) w lo hi = _ from congrArg (nmS1 (φ 4) (φ 8 0) (φ 9 0) w lo hi + ·) (congrArg Bool.toNat hN)]; exact hW)
            refine lv_aload_n S.1 S.2.1 dX3_number_142 rfl (lv_at hl 1 rfl) ?_
            refine lv_aload_n S.1 S.2.1 dX3_number_143 rfl (lv_at hl 1 rfl) ?_
            refine kx_get S hK hW hinX3 0 3 rfl rfl 10 (by decide) (List.mem_of_getElem? (i := 3) rfl) (v := .int (nI (nmW1 (φ 4) (φ 8 0) (φ 9 0) w lo hi).toNat)) rfl dX3_number_144 ?_
            refine kb_ne S (tgt := 159) dX3_number_147 (by decide) (fun c_147 => ?_) (fun c_147 => ?_)
            · refine lv_iconst (v := nI (1)) S.1 S.2.1 dX3_number_159 rfl ?_
              refine k_top (y := nI ((nmW2 (φ 4) (φ 8 0) (φ 9 0) w lo hi).toNat)) (by first | exact k_or1 c_147 | exact k_or2 c_156) ?_
              refine lv_goto (tgt := 164) S.1 S.2.1 dX3_number_160 (by decide) ?_
              refine kx_put S hK hW hinX3 tyX3_ok nmX3 0 3 rfl rfl 10 (by decide) (List.mem_of_getElem? (i := 3) rfl) rfl (v := .int (nI (nmW2 (φ 4) (φ 8 0) (φ 9 0) w lo hi).toNat)) (k_narB _) (k_fitB _) (Nat.le_of_ble_eq_true rfl) dX3_number_164 (fun H locs hW => ?_)
              have hW : kw D A s.heap (wM c a (pu (pu φ 9 (kc (nmS2 (φ 4) (φ 8 0) (φ 9 0) w lo hi))) 10 (kc ((nmW2 (φ 4) (φ 8 0) (φ 9 0) w lo hi).toNat))) δ) H locs := hW
              refine lv_iload_n S.1 S.2.1 dX3_number_167 rfl (lv_at hl 0 rfl) ?_
              refine k_top (y := nmV2 (φ 4) (φ 8 0) (φ 9 0) w lo hi) (by unfold nmV2; rw [hN]; rfl) ?_
              exact hret 168 _ _ _ _ _ dX3_number_168 hW (rfl) (rfl)
            · exact absurd (c_62.symm.trans c_147) (by decide)
          · have hlt2 := nxb_lt c_86
            refine lv_bipush (v := nI (10)) S.1 S.2.1 dX3_number_89 rfl ?_
            refine lv_iload_n S.1 S.2.1 dX3_number_91 rfl (lv_at hl 0 rfl) ?_
            refine lv_imul S.1 S.2.1 dX3_number_92 ?_
            refine lv_aload_n S.1 S.2.1 dX3_number_93 rfl (lv_at hl 1 rfl) ?_
            refine kx_get S hK hW hinX3 0 3 rfl rfl 7 (by decide) (List.mem_of_getElem? (i := 1) rfl) (v := .ref (a 5)) rfl dX3_number_94 ?_
            refine lv_aload_n S.1 S.2.1 dX3_number_97 rfl (lv_at hl 1 rfl) ?_
            refine kx_get S hK hW hinX3 0 3 rfl rfl 9 (by decide) (List.mem_of_getElem? (i := 2) rfl) (v := .int (nI (nmS1 (φ 4) (φ 8 0) (φ 9 0) w lo hi))) rfl dX3_number_98 ?_
            refine kn_ald S hK hW 5 (f := φ 4) rfl (by omega) (by decide) dX3_number_101 ?_
            refine lv_iadd S.1 S.2.1 dX3_number_102 ?_
            refine lv_bipush (v := nI (48)) S.1 S.2.1 dX3_number_103 rfl ?_
            refine lv_isub S.1 S.2.1 dX3_number_105 ?_
            refine k_top (y := nmV1 (φ 4) (φ 8 0) (φ 9 0) w lo hi) (rfl) ?_
            refine lv_iload_n S.1 S.2.1 dX3_number_106 rfl (lv_at hl 2 rfl) ?_
            refine lv_iload_n S.1 S.2.1 dX3_number_107 rfl (lv_at hl 3 rfl) ?_
            refine k_SI (rest := []) S hK hl.1 hW (KFr.nil hW hA) (mX3_in l D c  _ (nmV1 (φ 4) (φ 8 0) (φ 9 0) w lo hi) lo hi) gX3_number_X3_in rfl pdX3_in ⟨⟨rfl, rfl⟩, Nat.le_of_ble_eq_true rfl, Nat.le_of_ble_eq_true rfl⟩ rfl (Nat.le_of_ble_eq_true rfl) dX3_number_108 ⟨Nat.le_of_ble_eq_true rfl, Nat.le_of_ble_eq_true rfl⟩ (fun H locs hW => ?_)
            have hW : kw D A s.heap (wM c a (pu (pu φ 10 (kc ((nmW1 (φ 4) (φ 8 0) (φ 9 0) w lo hi).toNat))) 9 (kc (nmS1 (φ 4) (φ 8 0) (φ 9 0) w lo hi))) δ) H locs := hW
            refine kb_eq S (tgt := 142) dX3_number_111 (by decide) (fun c_111 => ?_) (fun c_111 => ?_)
            · have hN : nmN2 (φ 4) (φ 8 0) (φ 9 0) w lo hi = false := by unfold nmN2; rw [show inb (nmV1 (φ 4) (φ 8 0) (φ 9 0) w lo hi) lo hi = false from c_111, Bool.and_false]
              have hW : kw D A s.heap (wM c a (pu (pu φ 10 (kc ((nmW1 (φ 4) (φ 8 0) (φ 9 0) w lo hi).toNat))) 9 (kc (nmS2 (φ 4) (φ 8 0) (φ 9 0) w lo hi))) δ) H locs := by (rw [show nmS2 (φ 4) (φ 8 0) (φ 9 0) w lo hi = _ from congrArg (nmS1 (φ 4) (φ 8 0) (φ 9 0) w lo hi + ·) (congrArg Bool.toNat hN)]; exact hW)
              refine lv_aload_n S.1 S.2.1 dX3_number_142 rfl (lv_at hl 1 rfl) ?_
              refine lv_aload_n S.1 S.2.1 dX3_number_143 rfl (lv_at hl 1 rfl) ?_
              refine kx_get S hK hW hinX3 0 3 rfl rfl 10 (by decide) (List.mem_of_getElem? (i := 3) rfl) (v := .int (nI (nmW1 (φ 4) (φ 8 0) (φ 9 0) w lo hi).toNat)) rfl dX3_number_144 ?_
              refine kb_ne S (tgt := 159) dX3_number_147 (by decide) (fun c_147 => ?_) (fun c_147 => ?_)
              · refine lv_iconst (v := nI (1)) S.1 S.2.1 dX3_number_159 rfl ?_
                refine k_top (y := nI ((nmW2 (φ 4) (φ 8 0) (φ 9 0) w lo hi).toNat)) (by first | exact k_or1 c_147 | exact k_or2 c_156) ?_
                refine lv_goto (tgt := 164) S.1 S.2.1 dX3_number_160 (by decide) ?_
                refine kx_put S hK hW hinX3 tyX3_ok nmX3 0 3 rfl rfl 10 (by decide) (List.mem_of_getElem? (i := 3) rfl) rfl (v := .int (nI (nmW2 (φ 4) (φ 8 0) (φ 9 0) w lo hi).toNat)) (k_narB _) (k_fitB _) (Nat.le_of_ble_eq_true rfl) dX3_number_164 (fun H locs hW => ?_)
                have hW : kw D A s.heap (wM c a (pu (pu φ 9 (kc (nmS2 (φ 4) (φ 8 0) (φ 9 0) w lo hi))) 10 (kc ((nmW2 (φ 4) (φ 8 0) (φ 9 0) w lo hi).toNat))) δ) H locs := hW
                refine lv_iload_n S.1 S.2.1 dX3_number_167 rfl (lv_at hl 0 rfl) ?_
                refine k_top (y := nmV2 (φ 4) (φ 8 0) (φ 9 0) w lo hi) (by unfold nmV2; rw [hN]; rfl) ?_
                exact hret 168 _ _ _ _ _ dX3_number_168 hW (rfl) (rfl)
              · exact absurd (c_62.symm.trans c_147) (by decide)
            · have hN : nmN2 (φ 4) (φ 8 0) (φ 9 0) w lo hi = true := by unfold nmN2; rw [show inb (nmV1 (φ 4) (φ 8 0) (φ 9 0) w lo hi) lo hi = true from c_111, c_86, decide_eq_false c_75]; rfl
              refine lv_bipush (v := nI (10)) S.1 S.2.1 dX3_number_114 rfl ?_
              refine lv_iload_n S.1 S.2.1 dX3_number_116 rfl (lv_at hl 0 rfl) ?_
              refine lv_imul S.1 S.2.1 dX3_number_117 ?_
              refine lv_aload_n S.1 S.2.1 dX3_number_118 rfl (lv_at hl 1 rfl) ?_
              refine kx_get S hK hW hinX3 0 3 rfl rfl 7 (by decide) (List.mem_of_getElem? (i := 1) rfl) (v := .ref (a 5)) rfl dX3_number_119 ?_
              refine lv_aload_n S.1 S.2.1 dX3_number_122 rfl (lv_at hl 1 rfl) ?_
              refine kx_get S hK hW hinX3 0 3 rfl rfl 9 (by decide) (List.mem_of_getElem? (i := 2) rfl) (v := .int (nI (nmS1 (φ 4) (φ 8 0) (φ 9 0) w lo hi))) rfl dX3_number_123 ?_
              refine kn_ald S hK hW 5 (f := φ 4) rfl (by omega) (by decide) dX3_number_126 ?_
              refine lv_iadd S.1 S.2.1 dX3_number_127 ?_
              refine lv_bipush (v := nI (48)) S.1 S.2.1 dX3_number_128 rfl ?_
              refine lv_isub S.1 S.2.1 dX3_number_130 ?_
              refine k_top (y := nmV1 (φ 4) (φ 8 0) (φ 9 0) w lo hi) (rfl) ?_
              refine lv_istore_n (lv' := [(3, .int (nmV1 (φ 4) (φ 8 0) (φ 9 0) w lo hi)), (0, .ref (a 0)), (1, .int (lo)), (2, .int (hi))]) S.1 S.2.1 dX3_number_131 rfl hl (by decide) rfl (fun ls hl => ?_)
              refine lv_aload_n S.1 S.2.1 dX3_number_132 rfl (lv_at hl 1 rfl) ?_
              refine lv_dup S.1 S.2.1 dX3_number_133 rfl ?_
              refine kx_get S hK hW hinX3 0 3 rfl rfl 9 (by decide) (List.mem_of_getElem? (i := 2) rfl) (v := .int (nI (nmS1 (φ 4) (φ 8 0) (φ 9 0) w lo hi))) rfl dX3_number_134 ?_
              refine lv_iconst (v := nI (1)) S.1 S.2.1 dX3_number_137 rfl ?_
              refine kn_iadd S dX3_number_138 ?_
              refine kx_put S hK hW hinX3 tyX3_ok nmX3 0 3 rfl rfl 9 (by decide) (List.mem_of_getElem? (i := 2) rfl) rfl (v := .int (nI (nmS1 (φ 4) (φ 8 0) (φ 9 0) w lo hi + 1))) rfl rfl (Nat.le_of_ble_eq_true rfl) dX3_number_139 (fun H locs hW => ?_)
              have hW : kw D A s.heap (wM c a (pu (pu φ 10 (kc ((nmW1 (φ 4) (φ 8 0) (φ 9 0) w lo hi).toNat))) 9 (kc (nmS1 (φ 4) (φ 8 0) (φ 9 0) w lo hi + 1))) δ) H locs := hW
              have hW : kw D A s.heap (wM c a (pu (pu φ 10 (kc ((nmW1 (φ 4) (φ 8 0) (φ 9 0) w lo hi).toNat))) 9 (kc (nmS2 (φ 4) (φ 8 0) (φ 9 0) w lo hi))) δ) H locs := by (rw [show nmS2 (φ 4) (φ 8 0) (φ 9 0) w lo hi = _ from congrArg (nmS1 (φ 4) (φ 8 0) (φ 9 0) w lo hi + ·) (congrArg Bool.toNat hN)]; exact hW)
              refine lv_aload_n S.1 S.2.1 dX3_number_142 rfl (lv_at hl 1 rfl) ?_
              refine lv_aload_n S.1 S.2.1 dX3_number_143 rfl (lv_at hl 1 rfl) ?_
              refine kx_get S hK hW hinX3 0 3 rfl rfl 10 (by decide) (List.mem_of_getElem? (i := 3) rfl) (v := .int (nI (nmW1 (φ 4) (φ 8 0) (φ 9 0) w lo hi).toNat)) rfl dX3_number_144 ?_
              refine kb_ne S (tgt := 159) dX3_number_147 (by decide) (fun c_147 => ?_) (fun c_147 => ?_)
              · refine lv_iconst (v := nI (1)) S.1 S.2.1 dX3_number_159 rfl ?_
                refine k_top (y := nI ((nmW2 (φ 4) (φ 8 0) (φ 9 0) w lo hi).toNat)) (by first | exact k_or1 c_147 | exact k_or2 c_156) ?_
                refine lv_goto (tgt := 164) S.1 S.2.1 dX3_number_160 (by decide) ?_
                refine kx_put S hK hW hinX3 tyX3_ok nmX3 0 3 rfl rfl 10 (by decide) (List.mem_of_getElem? (i := 3) rfl) rfl (v := .int (nI (nmW2 (φ 4) (φ 8 0) (φ 9 0) w lo hi).toNat)) (k_narB _) (k_fitB _) (Nat.le_of_ble_eq_true rfl) dX3_number_164 (fun H locs hW => ?_)
                have hW : kw D A s.heap (wM c a (pu (pu φ 9 (kc (nmS2 (φ 4) (φ 8 0) (φ 9 0) w lo hi))) 10 (kc ((nmW2 (φ 4) (φ 8 0) (φ 9 0) w lo hi).toNat))) δ) H locs := hW
                refine lv_iload_n S.1 S.2.1 dX3_number_167 rfl (lv_at hl 0 rfl) ?_
                refine k_top (y := nmV2 (φ 4) (φ 8 0) (φ 9 0) w lo hi) (by unfold nmV2; rw [hN]; rfl) ?_
                exact hret 168 _ _ _ _ _ dX3_number_168 hW (rfl) (rfl)
              · exact absurd (c_62.symm.trans c_147) (by decide)
    · refine lv_iload_n S.1 S.2.1 dX3_number_36 rfl (lv_at hl 0 rfl) ?_
      refine lv_iload_n S.1 S.2.1 dX3_number_37 rfl (lv_at hl 2 rfl) ?_
      refine lv_iload_n S.1 S.2.1 dX3_number_38 rfl (lv_at hl 3 rfl) ?_
      refine k_SI (rest := [.ref (a 0)]) S hK hl.1 hW (KFr.nil hW hA) (mX3_begins l D c  _ (nmV (φ 4) (φ 8 0) (φ 9 0) w) lo hi) gX3_number_X3_begins rfl pdX3_begins ⟨⟨rfl, rfl⟩, Nat.le_of_ble_eq_true rfl, Nat.le_of_ble_eq_true rfl⟩ rfl (Nat.le_of_ble_eq_true rfl) dX3_number_39 ⟨Nat.le_of_ble_eq_true rfl, Nat.le_of_ble_eq_true rfl⟩ (fun H locs hW => ?_)
      have hW : kw D A s.heap (wM c a φ δ) H locs := hW
      refine kb_ne S (tgt := 49) dX3_number_42 (by decide) (fun c_42 => ?_) (fun c_42 => ?_)
      · refine lv_iconst (v := nI (0)) S.1 S.2.1 dX3_number_49 rfl ?_
        refine k_top (y := nI ((nmW1 (φ 4) (φ 8 0) (φ 9 0) w lo hi).toNat)) (k_or0 c_33 c_42) ?_
        refine kx_put S hK hW hinX3 tyX3_ok nmX3 0 3 rfl rfl 10 (by decide) (List.mem_of_getElem? (i := 3) rfl) rfl (v := .int (nI (nmW1 (φ 4) (φ 8 0) (φ 9 0) w lo hi).toNat)) (k_narB _) (k_fitB _) (Nat.le_of_ble_eq_true rfl) dX3_number_50 (fun H locs hW => ?_)
        have hW : kw D A s.heap (wM c a (pu φ 10 (kc ((nmW1 (φ 4) (φ 8 0) (φ 9 0) w lo hi).toNat))) δ) H locs := hW
        refine lv_aload_n S.1 S.2.1 dX3_number_53 rfl (lv_at hl 1 rfl) ?_
        refine lv_dup S.1 S.2.1 dX3_number_54 rfl ?_
        refine kx_get S hK hW hinX3 0 3 rfl rfl 9 (by decide) (List.mem_of_getElem? (i := 2) rfl) (v := .int (nI (φ 9 0))) rfl dX3_number_55 ?_
        refine lv_aload_n S.1 S.2.1 dX3_number_58 rfl (lv_at hl 1 rfl) ?_
        refine kx_get S hK hW hinX3 0 3 rfl rfl 10 (by decide) (List.mem_of_getElem? (i := 3) rfl) (v := .int (nI (nmW1 (φ 4) (φ 8 0) (φ 9 0) w lo hi).toNat)) rfl dX3_number_59 ?_
        refine kb_eq S (tgt := 69) dX3_number_62 (by decide) (fun c_62 => ?_) (fun c_62 => ?_)
        · refine lv_iconst (v := nI (1)) S.1 S.2.1 dX3_number_69 rfl ?_
          refine kn_iadd S dX3_number_70 ?_
          refine k_top (y := nI (nmS1 (φ 4) (φ 8 0) (φ 9 0) w lo hi)) (congrArg nI (by unfold nmS1; rw [c_62]; rfl)) ?_
          refine kx_put S hK hW hinX3 tyX3_ok nmX3 0 3 rfl rfl 9 (by decide) (List.mem_of_getElem? (i := 2) rfl) rfl (v := .int (nI (nmS1 (φ 4) (φ 8 0) (φ 9 0) w lo hi))) rfl rfl (Nat.le_of_ble_eq_true rfl) dX3_number_71 (fun H locs hW => ?_)
          have hW : kw D A s.heap (wM c a (pu (pu φ 10 (kc ((nmW1 (φ 4) (φ 8 0) (φ 9 0) w lo hi).toNat))) 9 (kc (nmS1 (φ 4) (φ 8 0) (φ 9 0) w lo hi))) δ) H locs := hW
          refine lv_iload_n S.1 S.2.1 dX3_number_74 rfl (lv_at hl 0 rfl) ?_
          refine lv_if_le (tgt := 142) S.1 S.2.1 dX3_number_75 (by decide) (fun c_75 => ?_) (fun c_75 => ?_)
          · have hN : nmN2 (φ 4) (φ 8 0) (φ 9 0) w lo hi = false := by simp [nmN2, c_75]
            have hW : kw D A s.heap (wM c a (pu (pu φ 10 (kc ((nmW1 (φ 4) (φ 8 0) (φ 9 0) w lo hi).toNat))) 9 (kc (nmS2 (φ 4) (φ 8 0) (φ 9 0) w lo hi))) δ) H locs := by (rw [show nmS2 (φ 4) (φ 8 0) (φ 9 0) w lo hi = _ from congrArg (nmS1 (φ 4) (φ 8 0) (φ 9 0) w lo hi + ·) (congrArg Bool.toNat hN)]; exact hW)
            refine lv_aload_n S.1 S.2.1 dX3_number_142 rfl (lv_at hl 1 rfl) ?_
            refine lv_aload_n S.1 S.2.1 dX3_number_143 rfl (lv_at hl 1 rfl) ?_
            refine kx_get S hK hW hinX3 0 3 rfl rfl 10 (by decide) (List.mem_of_getElem? (i := 3) rfl) (v := .int (nI (nmW1 (φ 4) (φ 8 0) (φ 9 0) w lo hi).toNat)) rfl dX3_number_144 ?_
            refine kb_ne S (tgt := 159) dX3_number_147 (by decide) (fun c_147 => ?_) (fun c_147 => ?_)
            · exact absurd (c_62.symm.trans c_147) (by decide)
            · refine lv_iload_n S.1 S.2.1 dX3_number_150 rfl (lv_at hl 0 rfl) ?_
              refine k_top (y := nmV2 (φ 4) (φ 8 0) (φ 9 0) w lo hi) (by unfold nmV2; rw [hN]; rfl) ?_
              refine lv_iload_n S.1 S.2.1 dX3_number_151 rfl (lv_at hl 2 rfl) ?_
              refine lv_iload_n S.1 S.2.1 dX3_number_152 rfl (lv_at hl 3 rfl) ?_
              refine k_SI (rest := [.ref (a 0)]) S hK hl.1 hW (KFr.nil hW hA) (mX3_in l D c  _ (nmV2 (φ 4) (φ 8 0) (φ 9 0) w lo hi) lo hi) gX3_number_X3_in rfl pdX3_in ⟨⟨rfl, rfl⟩, Nat.le_of_ble_eq_true rfl, Nat.le_of_ble_eq_true rfl⟩ rfl (Nat.le_of_ble_eq_true rfl) dX3_number_153 ⟨Nat.le_of_ble_eq_true rfl, Nat.le_of_ble_eq_true rfl⟩ (fun H locs hW => ?_)
              have hW : kw D A s.heap (wM c a (pu (pu φ 10 (kc ((nmW1 (φ 4) (φ 8 0) (φ 9 0) w lo hi).toNat))) 9 (kc (nmS2 (φ 4) (φ 8 0) (φ 9 0) w lo hi))) δ) H locs := hW
              refine kb_ne S (tgt := 163) dX3_number_156 (by decide) (fun c_156 => ?_) (fun c_156 => ?_)
              · refine lv_iconst (v := nI (0)) S.1 S.2.1 dX3_number_163 rfl ?_
                refine k_top (y := nI ((nmW2 (φ 4) (φ 8 0) (φ 9 0) w lo hi).toNat)) (k_or0 c_147 c_156) ?_
                refine kx_put S hK hW hinX3 tyX3_ok nmX3 0 3 rfl rfl 10 (by decide) (List.mem_of_getElem? (i := 3) rfl) rfl (v := .int (nI (nmW2 (φ 4) (φ 8 0) (φ 9 0) w lo hi).toNat)) (k_narB _) (k_fitB _) (Nat.le_of_ble_eq_true rfl) dX3_number_164 (fun H locs hW => ?_)
                have hW : kw D A s.heap (wM c a (pu (pu φ 9 (kc (nmS2 (φ 4) (φ 8 0) (φ 9 0) w lo hi))) 10 (kc ((nmW2 (φ 4) (φ 8 0) (φ 9 0) w lo hi).toNat))) δ) H locs := hW
                refine lv_iload_n S.1 S.2.1 dX3_number_167 rfl (lv_at hl 0 rfl) ?_
                refine k_top (y := nmV2 (φ 4) (φ 8 0) (φ 9 0) w lo hi) (by unfold nmV2; rw [hN]; rfl) ?_
                exact hret 168 _ _ _ _ _ dX3_number_168 hW (rfl) (rfl)
              · refine lv_iconst (v := nI (1)) S.1 S.2.1 dX3_number_159 rfl ?_
                refine k_top (y := nI ((nmW2 (φ 4) (φ 8 0) (φ 9 0) w lo hi).toNat)) (by first | exact k_or1 c_147 | exact k_or2 c_156) ?_
                refine lv_goto (tgt := 164) S.1 S.2.1 dX3_number_160 (by decide) ?_
                refine kx_put S hK hW hinX3 tyX3_ok nmX3 0 3 rfl rfl 10 (by decide) (List.mem_of_getElem? (i := 3) rfl) rfl (v := .int (nI (nmW2 (φ 4) (φ 8 0) (φ 9 0) w lo hi).toNat)) (k_narB _) (k_fitB _) (Nat.le_of_ble_eq_true rfl) dX3_number_164 (fun H locs hW => ?_)
                have hW : kw D A s.heap (wM c a (pu (pu φ 9 (kc (nmS2 (φ 4) (φ 8 0) (φ 9 0) w lo hi))) 10 (kc ((nmW2 (φ 4) (φ 8 0) (φ 9 0) w lo hi).toNat))) δ) H locs := hW
                refine lv_iload_n S.1 S.2.1 dX3_number_167 rfl (lv_at hl 0 rfl) ?_
                refine k_top (y := nmV2 (φ 4) (φ 8 0) (φ 9 0) w lo hi) (by unfold nmV2; rw [hN]; rfl) ?_
                exact hret 168 _ _ _ _ _ dX3_number_168 hW (rfl) (rfl)
          · refine lv_aload_n S.1 S.2.1 dX3_number_78 rfl (lv_at hl 1 rfl) ?_
            refine lv_bipush (v := nI (48)) S.1 S.2.1 dX3_number_79 rfl ?_
            refine lv_bipush (v := nI (57)) S.1 S.2.1 dX3_number_81 rfl ?_
            refine k_VI (rest := []) S hK hl.1 hW (KFr.all hW hA) (mX3_isNext l D c a ((pu (pu φ 10 (kc ((nmW1 (φ 4) (φ 8 0) (φ 9 0) w lo hi).toNat))) 9 (kc (nmS1 (φ 4) (φ 8 0) (φ 9 0) w lo hi)))) δ _ (nmW1 (φ 4) (φ 8 0) (φ 9 0) w lo hi) (nI (48)) (nI (57)) (by first | omega | exact hw | assumption | (show ((nmW1 (φ 4) (φ 8 0) (φ 9 0) w lo hi).toNat) = (nmW1 (φ 4) (φ 8 0) (φ 9 0) w lo hi).toNat; omega) | rfl) (by first | omega | exact hm | assumption | (show (φ 8 0) ≤ 60; omega) | rfl) (by first | omega | exact hs | assumption | (show (nmS1 (φ 4) (φ 8 0) (φ 9 0) w lo hi) < 1000; omega) | rfl)) gX3_number_X3_isNext rfl pdX3_isNext ⟨⟨rfl, rfl⟩, Nat.le_of_ble_eq_true rfl, Nat.le_of_ble_eq_true rfl⟩ 0 3 rfl rfl rfl rfl (Nat.le_of_ble_eq_true rfl) dX3_number_83 ⟨Nat.le_of_ble_eq_true rfl, Nat.le_of_ble_eq_true rfl⟩ (fun H locs hW => ?_)
            have hW : kw D A s.heap (wM c a (pu (pu φ 10 (kc ((nmW1 (φ 4) (φ 8 0) (φ 9 0) w lo hi).toNat))) 9 (kc (nmS1 (φ 4) (φ 8 0) (φ 9 0) w lo hi))) δ) H locs := hW
            refine k_top (y := nI ((nxb ((φ 4)) ((φ 8 0)) ((nmS1 (φ 4) (φ 8 0) (φ 9 0) w lo hi)) (nmW1 (φ 4) (φ 8 0) (φ 9 0) w lo hi) (nI (48)) (nI (57))).toNat)) rfl ?_
            refine kb_eq S (tgt := 142) dX3_number_86 (by decide) (fun c_86 => ?_) (fun c_86 => ?_)
            · have hN : nmN2 (φ 4) (φ 8 0) (φ 9 0) w lo hi = false := by simp [nmN2, c_86]
              have hW : kw D A s.heap (wM c a (pu (pu φ 10 (kc ((nmW1 (φ 4) (φ 8 0) (φ 9 0) w lo hi).toNat))) 9 (kc (nmS2 (φ 4) (φ 8 0) (φ 9 0) w lo hi))) δ) H locs := by (rw [show nmS2 (φ 4) (φ 8 0) (φ 9 0) w lo hi = _ from congrArg (nmS1 (φ 4) (φ 8 0) (φ 9 0) w lo hi + ·) (congrArg Bool.toNat hN)]; exact hW)
              refine lv_aload_n S.1 S.2.1 dX3_number_142 rfl (lv_at hl 1 rfl) ?_
              refine lv_aload_n S.1 S.2.1 dX3_number_143 rfl (lv_at hl 1 rfl) ?_
              refine kx_get S hK hW hinX3 0 3 rfl rfl 10 (by decide) (List.mem_of_getElem? (i := 3) rfl) (v := .int (nI (nmW1 (φ 4) (φ 8 0) (φ 9 0) w lo hi).toNat)) rfl dX3_number_144 ?_
              refine kb_ne S (tgt := 159) dX3_number_147 (by decide) (fun c_147 => ?_) (fun c_147 => ?_)
              · exact absurd (c_62.symm.trans c_147) (by decide)
              · refine lv_iload_n S.1 S.2.1 dX3_number_150 rfl (lv_at hl 0 rfl) ?_
                refine k_top (y := nmV2 (φ 4) (φ 8 0) (φ 9 0) w lo hi) (by unfold nmV2; rw [hN]; rfl) ?_
                refine lv_iload_n S.1 S.2.1 dX3_number_151 rfl (lv_at hl 2 rfl) ?_
                refine lv_iload_n S.1 S.2.1 dX3_number_152 rfl (lv_at hl 3 rfl) ?_
                refine k_SI (rest := [.ref (a 0)]) S hK hl.1 hW (KFr.nil hW hA) (mX3_in l D c  _ (nmV2 (φ 4) (φ 8 0) (φ 9 0) w lo hi) lo hi) gX3_number_X3_in rfl pdX3_in ⟨⟨rfl, rfl⟩, Nat.le_of_ble_eq_true rfl, Nat.le_of_ble_eq_true rfl⟩ rfl (Nat.le_of_ble_eq_true rfl) dX3_number_153 ⟨Nat.le_of_ble_eq_true rfl, Nat.le_of_ble_eq_true rfl⟩ (fun H locs hW => ?_)
                have hW : kw D A s.heap (wM c a (pu (pu φ 10 (kc ((nmW1 (φ 4) (φ 8 0) (φ 9 0) w lo hi).toNat))) 9 (kc (nmS2 (φ 4) (φ 8 0) (φ 9 0) w lo hi))) δ) H locs := hW
                refine kb_ne S (tgt := 163) dX3_number_156 (by decide) (fun c_156 => ?_) (fun c_156 => ?_)
                · refine lv_iconst (v := nI (0)) S.1 S.2.1 dX3_number_163 rfl ?_
                  refine k_top (y := nI ((nmW2 (φ 4) (φ 8 0) (φ 9 0) w lo hi).toNat)) (k_or0 c_147 c_156) ?_
                  refine kx_put S hK hW hinX3 tyX3_ok nmX3 0 3 rfl rfl 10 (by decide) (List.mem_of_getElem? (i := 3) rfl) rfl (v := .int (nI (nmW2 (φ 4) (φ 8 0) (φ 9 0) w lo hi).toNat)) (k_narB _) (k_fitB _) (Nat.le_of_ble_eq_true rfl) dX3_number_164 (fun H locs hW => ?_)
                  have hW : kw D A s.heap (wM c a (pu (pu φ 9 (kc (nmS2 (φ 4) (φ 8 0) (φ 9 0) w lo hi))) 10 (kc ((nmW2 (φ 4) (φ 8 0) (φ 9 0) w lo hi).toNat))) δ) H locs := hW
                  refine lv_iload_n S.1 S.2.1 dX3_number_167 rfl (lv_at hl 0 rfl) ?_
                  refine k_top (y := nmV2 (φ 4) (φ 8 0) (φ 9 0) w lo hi) (by unfold nmV2; rw [hN]; rfl) ?_
                  exact hret 168 _ _ _ _ _ dX3_number_168 hW (rfl) (rfl)
                · refine lv_iconst (v := nI (1)) S.1 S.2.1 dX3_number_159 rfl ?_
                  refine k_top (y := nI ((nmW2 (φ 4) (φ 8 0) (φ 9 0) w lo hi).toNat)) (by first | exact k_or1 c_147 | exact k_or2 c_156) ?_
                  refine lv_goto (tgt := 164) S.1 S.2.1 dX3_number_160 (by decide) ?_
                  refine kx_put S hK hW hinX3 tyX3_ok nmX3 0 3 rfl rfl 10 (by decide) (List.mem_of_getElem? (i := 3) rfl) rfl (v := .int (nI (nmW2 (φ 4) (φ 8 0) (φ 9 0) w lo hi).toNat)) (k_narB _) (k_fitB _) (Nat.le_of_ble_eq_true rfl) dX3_number_164 (fun H locs hW => ?_)
                  have hW : kw D A s.heap (wM c a (pu (pu φ 9 (kc (nmS2 (φ 4) (φ 8 0) (φ 9 0) w lo hi))) 10 (kc ((nmW2 (φ 4) (φ 8 0) (φ 9 0) w lo hi).toNat))) δ) H locs := hW
                  refine lv_iload_n S.1 S.2.1 dX3_number_167 rfl (lv_at hl 0 rfl) ?_
                  refine k_top (y := nmV2 (φ 4) (φ 8 0) (φ 9 0) w lo hi) (by unfold nmV2; rw [hN]; rfl) ?_
                  exact hret 168 _ _ _ _ _ dX3_number_168 hW (rfl) (rfl)
            · have hlt2 := nxb_lt c_86
              refine lv_bipush (v := nI (10)) S.1 S.2.1 dX3_number_89 rfl ?_
              refine lv_iload_n S.1 S.2.1 dX3_number_91 rfl (lv_at hl 0 rfl) ?_
              refine lv_imul S.1 S.2.1 dX3_number_92 ?_
              refine lv_aload_n S.1 S.2.1 dX3_number_93 rfl (lv_at hl 1 rfl) ?_
              refine kx_get S hK hW hinX3 0 3 rfl rfl 7 (by decide) (List.mem_of_getElem? (i := 1) rfl) (v := .ref (a 5)) rfl dX3_number_94 ?_
              refine lv_aload_n S.1 S.2.1 dX3_number_97 rfl (lv_at hl 1 rfl) ?_
              refine kx_get S hK hW hinX3 0 3 rfl rfl 9 (by decide) (List.mem_of_getElem? (i := 2) rfl) (v := .int (nI (nmS1 (φ 4) (φ 8 0) (φ 9 0) w lo hi))) rfl dX3_number_98 ?_
              refine kn_ald S hK hW 5 (f := φ 4) rfl (by omega) (by decide) dX3_number_101 ?_
              refine lv_iadd S.1 S.2.1 dX3_number_102 ?_
              refine lv_bipush (v := nI (48)) S.1 S.2.1 dX3_number_103 rfl ?_
              refine lv_isub S.1 S.2.1 dX3_number_105 ?_
              refine k_top (y := nmV1 (φ 4) (φ 8 0) (φ 9 0) w lo hi) (rfl) ?_
              refine lv_iload_n S.1 S.2.1 dX3_number_106 rfl (lv_at hl 2 rfl) ?_
              refine lv_iload_n S.1 S.2.1 dX3_number_107 rfl (lv_at hl 3 rfl) ?_
              refine k_SI (rest := []) S hK hl.1 hW (KFr.nil hW hA) (mX3_in l D c  _ (nmV1 (φ 4) (φ 8 0) (φ 9 0) w lo hi) lo hi) gX3_number_X3_in rfl pdX3_in ⟨⟨rfl, rfl⟩, Nat.le_of_ble_eq_true rfl, Nat.le_of_ble_eq_true rfl⟩ rfl (Nat.le_of_ble_eq_true rfl) dX3_number_108 ⟨Nat.le_of_ble_eq_true rfl, Nat.le_of_ble_eq_true rfl⟩ (fun H locs hW => ?_)
              have hW : kw D A s.heap (wM c a (pu (pu φ 10 (kc ((nmW1 (φ 4) (φ 8 0) (φ 9 0) w lo hi).toNat))) 9 (kc (nmS1 (φ 4) (φ 8 0) (φ 9 0) w lo hi))) δ) H locs := hW
              refine kb_eq S (tgt := 142) dX3_number_111 (by decide) (fun c_111 => ?_) (fun c_111 => ?_)
              · have hN : nmN2 (φ 4) (φ 8 0) (φ 9 0) w lo hi = false := by unfold nmN2; rw [show inb (nmV1 (φ 4) (φ 8 0) (φ 9 0) w lo hi) lo hi = false from c_111, Bool.and_false]
                have hW : kw D A s.heap (wM c a (pu (pu φ 10 (kc ((nmW1 (φ 4) (φ 8 0) (φ 9 0) w lo hi).toNat))) 9 (kc (nmS2 (φ 4) (φ 8 0) (φ 9 0) w lo hi))) δ) H locs := by (rw [show nmS2 (φ 4) (φ 8 0) (φ 9 0) w lo hi = _ from congrArg (nmS1 (φ 4) (φ 8 0) (φ 9 0) w lo hi + ·) (congrArg Bool.toNat hN)]; exact hW)
                refine lv_aload_n S.1 S.2.1 dX3_number_142 rfl (lv_at hl 1 rfl) ?_
                refine lv_aload_n S.1 S.2.1 dX3_number_143 rfl (lv_at hl 1 rfl) ?_
                refine kx_get S hK hW hinX3 0 3 rfl rfl 10 (by decide) (List.mem_of_getElem? (i := 3) rfl) (v := .int (nI (nmW1 (φ 4) (φ 8 0) (φ 9 0) w lo hi).toNat)) rfl dX3_number_144 ?_
                refine kb_ne S (tgt := 159) dX3_number_147 (by decide) (fun c_147 => ?_) (fun c_147 => ?_)
                · exact absurd (c_62.symm.trans c_147) (by decide)
                · refine lv_iload_n S.1 S.2.1 dX3_number_150 rfl (lv_at hl 0 rfl) ?_
                  refine k_top (y := nmV2 (φ 4) (φ 8 0) (φ 9 0) w lo hi) (by unfold nmV2; rw [hN]; rfl) ?_
                  refine lv_iload_n S.1 S.2.1 dX3_number_151 rfl (lv_at hl 2 rfl) ?_
                  refine lv_iload_n S.1 S.2.1 dX3_number_152 rfl (lv_at hl 3 rfl) ?_
                  refine k_SI (rest := [.ref (a 0)]) S hK hl.1 hW (KFr.nil hW hA) (mX3_in l D c  _ (nmV2 (φ 4) (φ 8 0) (φ 9 0) w lo hi) lo hi) gX3_number_X3_in rfl pdX3_in ⟨⟨rfl, rfl⟩, Nat.le_of_ble_eq_true rfl, Nat.le_of_ble_eq_true rfl⟩ rfl (Nat.le_of_ble_eq_true rfl) dX3_number_153 ⟨Nat.le_of_ble_eq_true rfl, Nat.le_of_ble_eq_true rfl⟩ (fun H locs hW => ?_)
                  have hW : kw D A s.heap (wM c a (pu (pu φ 10 (kc ((nmW1 (φ 4) (φ 8 0) (φ 9 0) w lo hi).toNat))) 9 (kc (nmS2 (φ 4) (φ 8 0) (φ 9 0) w lo hi))) δ) H locs := hW
                  refine kb_ne S (tgt := 163) dX3_number_156 (by decide) (fun c_156 => ?_) (fun c_156 => ?_)
                  · refine lv_iconst (v := nI (0)) S.1 S.2.1 dX3_number_163 rfl ?_
                    refine k_top (y := nI ((nmW2 (φ 4) (φ 8 0) (φ 9 0) w lo hi).toNat)) (k_or0 c_147 c_156) ?_
                    refine kx_put S hK hW hinX3 tyX3_ok nmX3 0 3 rfl rfl 10 (by decide) (List.mem_of_getElem? (i := 3) rfl) rfl (v := .int (nI (nmW2 (φ 4) (φ 8 0) (φ 9 0) w lo hi).toNat)) (k_narB _) (k_fitB _) (Nat.le_of_ble_eq_true rfl) dX3_number_164 (fun H locs hW => ?_)
                    have hW : kw D A s.heap (wM c a (pu (pu φ 9 (kc (nmS2 (φ 4) (φ 8 0) (φ 9 0) w lo hi))) 10 (kc ((nmW2 (φ 4) (φ 8 0) (φ 9 0) w lo hi).toNat))) δ) H locs := hW
                    refine lv_iload_n S.1 S.2.1 dX3_number_167 rfl (lv_at hl 0 rfl) ?_
                    refine k_top (y := nmV2 (φ 4) (φ 8 0) (φ 9 0) w lo hi) (by unfold nmV2; rw [hN]; rfl) ?_
                    exact hret 168 _ _ _ _ _ dX3_number_168 hW (rfl) (rfl)
                  · refine lv_iconst (v := nI (1)) S.1 S.2.1 dX3_number_159 rfl ?_
                    refine k_top (y := nI ((nmW2 (φ 4) (φ 8 0) (φ 9 0) w lo hi).toNat)) (by first | exact k_or1 c_147 | exact k_or2 c_156) ?_
                    refine lv_goto (tgt := 164) S.1 S.2.1 dX3_number_160 (by decide) ?_
                    refine kx_put S hK hW hinX3 tyX3_ok nmX3 0 3 rfl rfl 10 (by decide) (List.mem_of_getElem? (i := 3) rfl) rfl (v := .int (nI (nmW2 (φ 4) (φ 8 0) (φ 9 0) w lo hi).toNat)) (k_narB _) (k_fitB _) (Nat.le_of_ble_eq_true rfl) dX3_number_164 (fun H locs hW => ?_)
                    have hW : kw D A s.heap (wM c a (pu (pu φ 9 (kc (nmS2 (φ 4) (φ 8 0) (φ 9 0) w lo hi))) 10 (kc ((nmW2 (φ 4) (φ 8 0) (φ 9 0) w lo hi).toNat))) δ) H locs := hW
                    refine lv_iload_n S.1 S.2.1 dX3_number_167 rfl (lv_at hl 0 rfl) ?_
                    refine k_top (y := nmV2 (φ 4) (φ 8 0) (φ 9 0) w lo hi) (by unfold nmV2; rw [hN]; rfl) ?_
                    exact hret 168 _ _ _ _ _ dX3_number_168 hW (rfl) (rfl)
              · have hN : nmN2 (φ 4) (φ 8 0) (φ 9 0) w lo hi = true := by unfold nmN2; rw [show inb (nmV1 (φ 4) (φ 8 0) (φ 9 0) w lo hi) lo hi = true from c_111, c_86, decide_eq_false c_75]; rfl
                refine lv_bipush (v := nI (10)) S.1 S.2.1 dX3_number_114 rfl ?_
                refine lv_iload_n S.1 S.2.1 dX3_number_116 rfl (lv_at hl 0 rfl) ?_
                refine lv_imul S.1 S.2.1 dX3_number_117 ?_
                refine lv_aload_n S.1 S.2.1 dX3_number_118 rfl (lv_at hl 1 rfl) ?_
                refine kx_get S hK hW hinX3 0 3 rfl rfl 7 (by decide) (List.mem_of_getElem? (i := 1) rfl) (v := .ref (a 5)) rfl dX3_number_119 ?_
                refine lv_aload_n S.1 S.2.1 dX3_number_122 rfl (lv_at hl 1 rfl) ?_
                refine kx_get S hK hW hinX3 0 3 rfl rfl 9 (by decide) (List.mem_of_getElem? (i := 2) rfl) (v := .int (nI (nmS1 (φ 4) (φ 8 0) (φ 9 0) w lo hi))) rfl dX3_number_123 ?_
                refine kn_ald S hK hW 5 (f := φ 4) rfl (by omega) (by decide) dX3_number_126 ?_
                refine lv_iadd S.1 S.2.1 dX3_number_127 ?_
                refine lv_bipush (v := nI (48)) S.1 S.2.1 dX3_number_128 rfl ?_
                refine lv_isub S.1 S.2.1 dX3_number_130 ?_
                refine k_top (y := nmV1 (φ 4) (φ 8 0) (φ 9 0) w lo hi) (rfl) ?_
                refine lv_istore_n (lv' := [(3, .int (nmV1 (φ 4) (φ 8 0) (φ 9 0) w lo hi)), (0, .ref (a 0)), (1, .int (lo)), (2, .int (hi))]) S.1 S.2.1 dX3_number_131 rfl hl (by decide) rfl (fun ls hl => ?_)
                refine lv_aload_n S.1 S.2.1 dX3_number_132 rfl (lv_at hl 1 rfl) ?_
                refine lv_dup S.1 S.2.1 dX3_number_133 rfl ?_
                refine kx_get S hK hW hinX3 0 3 rfl rfl 9 (by decide) (List.mem_of_getElem? (i := 2) rfl) (v := .int (nI (nmS1 (φ 4) (φ 8 0) (φ 9 0) w lo hi))) rfl dX3_number_134 ?_
                refine lv_iconst (v := nI (1)) S.1 S.2.1 dX3_number_137 rfl ?_
                refine kn_iadd S dX3_number_138 ?_
                refine kx_put S hK hW hinX3 tyX3_ok nmX3 0 3 rfl rfl 9 (by decide) (List.mem_of_getElem? (i := 2) rfl) rfl (v := .int (nI (nmS1 (φ 4) (φ 8 0) (φ 9 0) w lo hi + 1))) rfl rfl (Nat.le_of_ble_eq_true rfl) dX3_number_139 (fun H locs hW => ?_)
                have hW : kw D A s.heap (wM c a (pu (pu φ 10 (kc ((nmW1 (φ 4) (φ 8 0) (φ 9 0) w lo hi).toNat))) 9 (kc (nmS1 (φ 4) (φ 8 0) (φ 9 0) w lo hi + 1))) δ) H locs := hW
                have hW : kw D A s.heap (wM c a (pu (pu φ 10 (kc ((nmW1 (φ 4) (φ 8 0) (φ 9 0) w lo hi).toNat))) 9 (kc (nmS2 (φ 4) (φ 8 0) (φ 9 0) w lo hi))) δ) H locs := by (rw [show nmS2 (φ 4) (φ 8 0) (φ 9 0) w lo hi = _ from congrArg (nmS1 (φ 4) (φ 8 0) (φ 9 0) w lo hi + ·) (congrArg Bool.toNat hN)]; exact hW)
                refine lv_aload_n S.1 S.2.1 dX3_number_142 rfl (lv_at hl 1 rfl) ?_
                refine lv_aload_n S.1 S.2.1 dX3_number_143 rfl (lv_at hl 1 rfl) ?_
                refine kx_get S hK hW hinX3 0 3 rfl rfl 10 (by decide) (List.mem_of_getElem? (i := 3) rfl) (v := .int (nI (nmW1 (φ 4) (φ 8 0) (φ 9 0) w lo hi).toNat)) rfl dX3_number_144 ?_
                refine kb_ne S (tgt := 159) dX3_number_147 (by decide) (fun c_147 => ?_) (fun c_147 => ?_)
                · exact absurd (c_62.symm.trans c_147) (by decide)
                · refine lv_iload_n S.1 S.2.1 dX3_number_150 rfl (lv_at hl 0 rfl) ?_
                  refine k_top (y := nmV2 (φ 4) (φ 8 0) (φ 9 0) w lo hi) (by unfold nmV2; rw [hN]; rfl) ?_
                  refine lv_iload_n S.1 S.2.1 dX3_number_151 rfl (lv_at hl 2 rfl) ?_
                  refine lv_iload_n S.1 S.2.1 dX3_number_152 rfl (lv_at hl 3 rfl) ?_
                  refine k_SI (rest := [.ref (a 0)]) S hK hl.1 hW (KFr.nil hW hA) (mX3_in l D c  _ (nmV2 (φ 4) (φ 8 0) (φ 9 0) w lo hi) lo hi) gX3_number_X3_in rfl pdX3_in ⟨⟨rfl, rfl⟩, Nat.le_of_ble_eq_true rfl, Nat.le_of_ble_eq_true rfl⟩ rfl (Nat.le_of_ble_eq_true rfl) dX3_number_153 ⟨Nat.le_of_ble_eq_true rfl, Nat.le_of_ble_eq_true rfl⟩ (fun H locs hW => ?_)
                  have hW : kw D A s.heap (wM c a (pu (pu φ 10 (kc ((nmW1 (φ 4) (φ 8 0) (φ 9 0) w lo hi).toNat))) 9 (kc (nmS2 (φ 4) (φ 8 0) (φ 9 0) w lo hi))) δ) H locs := hW
                  refine kb_ne S (tgt := 163) dX3_number_156 (by decide) (fun c_156 => ?_) (fun c_156 => ?_)
                  · refine lv_iconst (v := nI (0)) S.1 S.2.1 dX3_number_163 rfl ?_
                    refine k_top (y := nI ((nmW2 (φ 4) (φ 8 0) (φ 9 0) w lo hi).toNat)) (k_or0 c_147 c_156) ?_
                    refine kx_put S hK hW hinX3 tyX3_ok nmX3 0 3 rfl rfl 10 (by decide) (List.mem_of_getElem? (i := 3) rfl) rfl (v := .int (nI (nmW2 (φ 4) (φ 8 0) (φ 9 0) w lo hi).toNat)) (k_narB _) (k_fitB _) (Nat.le_of_ble_eq_true rfl) dX3_number_164 (fun H locs hW => ?_)
                    have hW : kw D A s.heap (wM c a (pu (pu φ 9 (kc (nmS2 (φ 4) (φ 8 0) (φ 9 0) w lo hi))) 10 (kc ((nmW2 (φ 4) (φ 8 0) (φ 9 0) w lo hi).toNat))) δ) H locs := hW
                    refine lv_iload_n S.1 S.2.1 dX3_number_167 rfl (lv_at hl 0 rfl) ?_
                    refine k_top (y := nmV2 (φ 4) (φ 8 0) (φ 9 0) w lo hi) (by unfold nmV2; rw [hN]; rfl) ?_
                    exact hret 168 _ _ _ _ _ dX3_number_168 hW (rfl) (rfl)
                  · refine lv_iconst (v := nI (1)) S.1 S.2.1 dX3_number_159 rfl ?_
                    refine k_top (y := nI ((nmW2 (φ 4) (φ 8 0) (φ 9 0) w lo hi).toNat)) (by first | exact k_or1 c_147 | exact k_or2 c_156) ?_
                    refine lv_goto (tgt := 164) S.1 S.2.1 dX3_number_160 (by decide) ?_
                    refine kx_put S hK hW hinX3 tyX3_ok nmX3 0 3 rfl rfl 10 (by decide) (List.mem_of_getElem? (i := 3) rfl) rfl (v := .int (nI (nmW2 (φ 4) (φ 8 0) (φ 9 0) w lo hi).toNat)) (k_narB _) (k_fitB _) (Nat.le_of_ble_eq_true rfl) dX3_number_164 (fun H locs hW => ?_)
                    have hW : kw D A s.heap (wM c a (pu (pu φ 9 (kc (nmS2 (φ 4) (φ 8 0) (φ 9 0) w lo hi))) 10 (kc ((nmW2 (φ 4) (φ 8 0) (φ 9 0) w lo hi).toNat))) δ) H locs := hW
                    refine lv_iload_n S.1 S.2.1 dX3_number_167 rfl (lv_at hl 0 rfl) ?_
                    refine k_top (y := nmV2 (φ 4) (φ 8 0) (φ 9 0) w lo hi) (by unfold nmV2; rw [hN]; rfl) ?_
                    exact hret 168 _ _ _ _ _ dX3_number_168 hW (rfl) (rfl)
        · refine lv_iconst (v := nI (0)) S.1 S.2.1 dX3_number_65 rfl ?_
          refine lv_goto (tgt := 70) S.1 S.2.1 dX3_number_66 (by decide) ?_
          refine kn_iadd S dX3_number_70 ?_
          refine k_top (y := nI (nmS1 (φ 4) (φ 8 0) (φ 9 0) w lo hi)) (congrArg nI (by unfold nmS1; rw [c_62]; rfl)) ?_
          refine kx_put S hK hW hinX3 tyX3_ok nmX3 0 3 rfl rfl 9 (by decide) (List.mem_of_getElem? (i := 2) rfl) rfl (v := .int (nI (nmS1 (φ 4) (φ 8 0) (φ 9 0) w lo hi))) rfl rfl (Nat.le_of_ble_eq_true rfl) dX3_number_71 (fun H locs hW => ?_)
          have hW : kw D A s.heap (wM c a (pu (pu φ 10 (kc ((nmW1 (φ 4) (φ 8 0) (φ 9 0) w lo hi).toNat))) 9 (kc (nmS1 (φ 4) (φ 8 0) (φ 9 0) w lo hi))) δ) H locs := hW
          refine lv_iload_n S.1 S.2.1 dX3_number_74 rfl (lv_at hl 0 rfl) ?_
          refine lv_if_le (tgt := 142) S.1 S.2.1 dX3_number_75 (by decide) (fun c_75 => ?_) (fun c_75 => ?_)
          · have hN : nmN2 (φ 4) (φ 8 0) (φ 9 0) w lo hi = false := by simp [nmN2, c_75]
            have hW : kw D A s.heap (wM c a (pu (pu φ 10 (kc ((nmW1 (φ 4) (φ 8 0) (φ 9 0) w lo hi).toNat))) 9 (kc (nmS2 (φ 4) (φ 8 0) (φ 9 0) w lo hi))) δ) H locs := by (rw [show nmS2 (φ 4) (φ 8 0) (φ 9 0) w lo hi = _ from congrArg (nmS1 (φ 4) (φ 8 0) (φ 9 0) w lo hi + ·) (congrArg Bool.toNat hN)]; exact hW)
            refine lv_aload_n S.1 S.2.1 dX3_number_142 rfl (lv_at hl 1 rfl) ?_
            refine lv_aload_n S.1 S.2.1 dX3_number_143 rfl (lv_at hl 1 rfl) ?_
            refine kx_get S hK hW hinX3 0 3 rfl rfl 10 (by decide) (List.mem_of_getElem? (i := 3) rfl) (v := .int (nI (nmW1 (φ 4) (φ 8 0) (φ 9 0) w lo hi).toNat)) rfl dX3_number_144 ?_
            refine kb_ne S (tgt := 159) dX3_number_147 (by decide) (fun c_147 => ?_) (fun c_147 => ?_)
            · refine lv_iconst (v := nI (1)) S.1 S.2.1 dX3_number_159 rfl ?_
              refine k_top (y := nI ((nmW2 (φ 4) (φ 8 0) (φ 9 0) w lo hi).toNat)) (by first | exact k_or1 c_147 | exact k_or2 c_156) ?_
              refine lv_goto (tgt := 164) S.1 S.2.1 dX3_number_160 (by decide) ?_
              refine kx_put S hK hW hinX3 tyX3_ok nmX3 0 3 rfl rfl 10 (by decide) (List.mem_of_getElem? (i := 3) rfl) rfl (v := .int (nI (nmW2 (φ 4) (φ 8 0) (φ 9 0) w lo hi).toNat)) (k_narB _) (k_fitB _) (Nat.le_of_ble_eq_true rfl) dX3_number_164 (fun H locs hW => ?_)
              have hW : kw D A s.heap (wM c a (pu (pu φ 9 (kc (nmS2 (φ 4) (φ 8 0) (φ 9 0) w lo hi))) 10 (kc ((nmW2 (φ 4) (φ 8 0) (φ 9 0) w lo hi).toNat))) δ) H locs := hW
              refine lv_iload_n S.1 S.2.1 dX3_number_167 rfl (lv_at hl 0 rfl) ?_
              refine k_top (y := nmV2 (φ 4) (φ 8 0) (φ 9 0) w lo hi) (by unfold nmV2; rw [hN]; rfl) ?_
              exact hret 168 _ _ _ _ _ dX3_number_168 hW (rfl) (rfl)
            · exact absurd (c_62.symm.trans c_147) (by decide)
          · refine lv_aload_n S.1 S.2.1 dX3_number_78 rfl (lv_at hl 1 rfl) ?_
            refine lv_bipush (v := nI (48)) S.1 S.2.1 dX3_number_79 rfl ?_
            refine lv_bipush (v := nI (57)) S.1 S.2.1 dX3_number_81 rfl ?_
            refine k_VI (rest := []) S hK hl.1 hW (KFr.all hW hA) (mX3_isNext l D c a ((pu (pu φ 10 (kc ((nmW1 (φ 4) (φ 8 0) (φ 9 0) w lo hi).toNat))) 9 (kc (nmS1 (φ 4) (φ 8 0) (φ 9 0) w lo hi)))) δ _ (nmW1 (φ 4) (φ 8 0) (φ 9 0) w lo hi) (nI (48)) (nI (57)) (by first | omega | exact hw | assumption | (show ((nmW1 (φ 4) (φ 8 0) (φ 9 0) w lo hi).toNat) = (nmW1 (φ 4) (φ 8 0) (φ 9 0) w lo hi).toNat; omega) | rfl) (by first | omega | exact hm | assumption | (show (φ 8 0) ≤ 60; omega) | rfl) (by first | omega | exact hs | assumption | (show (nmS1 (φ 4) (φ 8 0) (φ 9 0) w lo hi) < 1000; omega) | rfl)) gX3_number_X3_isNext rfl pdX3_isNext ⟨⟨rfl, rfl⟩, Nat.le_of_ble_eq_true rfl, Nat.le_of_ble_eq_true rfl⟩ 0 3 rfl rfl rfl rfl (Nat.le_of_ble_eq_true rfl) dX3_number_83 ⟨Nat.le_of_ble_eq_true rfl, Nat.le_of_ble_eq_true rfl⟩ (fun H locs hW => ?_)
            have hW : kw D A s.heap (wM c a (pu (pu φ 10 (kc ((nmW1 (φ 4) (φ 8 0) (φ 9 0) w lo hi).toNat))) 9 (kc (nmS1 (φ 4) (φ 8 0) (φ 9 0) w lo hi))) δ) H locs := hW
            refine k_top (y := nI ((nxb ((φ 4)) ((φ 8 0)) ((nmS1 (φ 4) (φ 8 0) (φ 9 0) w lo hi)) (nmW1 (φ 4) (φ 8 0) (φ 9 0) w lo hi) (nI (48)) (nI (57))).toNat)) rfl ?_
            refine kb_eq S (tgt := 142) dX3_number_86 (by decide) (fun c_86 => ?_) (fun c_86 => ?_)
            · have hN : nmN2 (φ 4) (φ 8 0) (φ 9 0) w lo hi = false := by simp [nmN2, c_86]
              have hW : kw D A s.heap (wM c a (pu (pu φ 10 (kc ((nmW1 (φ 4) (φ 8 0) (φ 9 0) w lo hi).toNat))) 9 (kc (nmS2 (φ 4) (φ 8 0) (φ 9 0) w lo hi))) δ) H locs := by (rw [show nmS2 (φ 4) (φ 8 0) (φ 9 0) w lo hi = _ from congrArg (nmS1 (φ 4) (φ 8 0) (φ 9 0) w lo hi + ·) (congrArg Bool.toNat hN)]; exact hW)
              refine lv_aload_n S.1 S.2.1 dX3_number_142 rfl (lv_at hl 1 rfl) ?_
              refine lv_aload_n S.1 S.2.1 dX3_number_143 rfl (lv_at hl 1 rfl) ?_
              refine kx_get S hK hW hinX3 0 3 rfl rfl 10 (by decide) (List.mem_of_getElem? (i := 3) rfl) (v := .int (nI (nmW1 (φ 4) (φ 8 0) (φ 9 0) w lo hi).toNat)) rfl dX3_number_144 ?_
              refine kb_ne S (tgt := 159) dX3_number_147 (by decide) (fun c_147 => ?_) (fun c_147 => ?_)
              · refine lv_iconst (v := nI (1)) S.1 S.2.1 dX3_number_159 rfl ?_
                refine k_top (y := nI ((nmW2 (φ 4) (φ 8 0) (φ 9 0) w lo hi).toNat)) (by first | exact k_or1 c_147 | exact k_or2 c_156) ?_
                refine lv_goto (tgt := 164) S.1 S.2.1 dX3_number_160 (by decide) ?_
                refine kx_put S hK hW hinX3 tyX3_ok nmX3 0 3 rfl rfl 10 (by decide) (List.mem_of_getElem? (i := 3) rfl) rfl (v := .int (nI (nmW2 (φ 4) (φ 8 0) (φ 9 0) w lo hi).toNat)) (k_narB _) (k_fitB _) (Nat.le_of_ble_eq_true rfl) dX3_number_164 (fun H locs hW => ?_)
                have hW : kw D A s.heap (wM c a (pu (pu φ 9 (kc (nmS2 (φ 4) (φ 8 0) (φ 9 0) w lo hi))) 10 (kc ((nmW2 (φ 4) (φ 8 0) (φ 9 0) w lo hi).toNat))) δ) H locs := hW
                refine lv_iload_n S.1 S.2.1 dX3_number_167 rfl (lv_at hl 0 rfl) ?_
                refine k_top (y := nmV2 (φ 4) (φ 8 0) (φ 9 0) w lo hi) (by unfold nmV2; rw [hN]; rfl) ?_
                exact hret 168 _ _ _ _ _ dX3_number_168 hW (rfl) (rfl)
              · exact absurd (c_62.symm.trans c_147) (by decide)
            · have hlt2 := nxb_lt c_86
              refine lv_bipush (v := nI (10)) S.1 S.2.1 dX3_number_89 rfl ?_
              refine lv_iload_n S.1 S.2.1 dX3_number_91 rfl (lv_at hl 0 rfl) ?_
              refine lv_imul S.1 S.2.1 dX3_number_92 ?_
              refine lv_aload_n S.1 S.2.1 dX3_number_93 rfl (lv_at hl 1 rfl) ?_
              refine kx_get S hK hW hinX3 0 3 rfl rfl 7 (by decide) (List.mem_of_getElem? (i := 1) rfl) (v := .ref (a 5)) rfl dX3_number_94 ?_
              refine lv_aload_n S.1 S.2.1 dX3_number_97 rfl (lv_at hl 1 rfl) ?_
              refine kx_get S hK hW hinX3 0 3 rfl rfl 9 (by decide) (List.mem_of_getElem? (i := 2) rfl) (v := .int (nI (nmS1 (φ 4) (φ 8 0) (φ 9 0) w lo hi))) rfl dX3_number_98 ?_
              refine kn_ald S hK hW 5 (f := φ 4) rfl (by omega) (by decide) dX3_number_101 ?_
              refine lv_iadd S.1 S.2.1 dX3_number_102 ?_
              refine lv_bipush (v := nI (48)) S.1 S.2.1 dX3_number_103 rfl ?_
              refine lv_isub S.1 S.2.1 dX3_number_105 ?_
              refine k_top (y := nmV1 (φ 4) (φ 8 0) (φ 9 0) w lo hi) (rfl) ?_
              refine lv_iload_n S.1 S.2.1 dX3_number_106 rfl (lv_at hl 2 rfl) ?_
              refine lv_iload_n S.1 S.2.1 dX3_number_107 rfl (lv_at hl 3 rfl) ?_
              refine k_SI (rest := []) S hK hl.1 hW (KFr.nil hW hA) (mX3_in l D c  _ (nmV1 (φ 4) (φ 8 0) (φ 9 0) w lo hi) lo hi) gX3_number_X3_in rfl pdX3_in ⟨⟨rfl, rfl⟩, Nat.le_of_ble_eq_true rfl, Nat.le_of_ble_eq_true rfl⟩ rfl (Nat.le_of_ble_eq_true rfl) dX3_number_108 ⟨Nat.le_of_ble_eq_true rfl, Nat.le_of_ble_eq_true rfl⟩ (fun H locs hW => ?_)
              have hW : kw D A s.heap (wM c a (pu (pu φ 10 (kc ((nmW1 (φ 4) (φ 8 0) (φ 9 0) w lo hi).toNat))) 9 (kc (nmS1 (φ 4) (φ 8 0) (φ 9 0) w lo hi))) δ) H locs := hW
              refine kb_eq S (tgt := 142) dX3_number_111 (by decide) (fun c_111 => ?_) (fun c_111 => ?_)
              · have hN : nmN2 (φ 4) (φ 8 0) (φ 9 0) w lo hi = false := by unfold nmN2; rw [show inb (nmV1 (φ 4) (φ 8 0) (φ 9 0) w lo hi) lo hi = false from c_111, Bool.and_false]
                have hW : kw D A s.heap (wM c a (pu (pu φ 10 (kc ((nmW1 (φ 4) (φ 8 0) (φ 9 0) w lo hi).toNat))) 9 (kc (nmS2 (φ 4) (φ 8 0) (φ 9 0) w lo hi))) δ) H locs := by (rw [show nmS2 (φ 4) (φ 8 0) (φ 9 0) w lo hi = _ from congrArg (nmS1 (φ 4) (φ 8 0) (φ 9 0) w lo hi + ·) (congrArg Bool.toNat hN)]; exact hW)
                refine lv_aload_n S.1 S.2.1 dX3_number_142 rfl (lv_at hl 1 rfl) ?_
                refine lv_aload_n S.1 S.2.1 dX3_number_143 rfl (lv_at hl 1 rfl) ?_
                refine kx_get S hK hW hinX3 0 3 rfl rfl 10 (by decide) (List.mem_of_getElem? (i := 3) rfl) (v := .int (nI (nmW1 (φ 4) (φ 8 0) (φ 9 0) w lo hi).toNat)) rfl dX3_number_144 ?_
                refine kb_ne S (tgt := 159) dX3_number_147 (by decide) (fun c_147 => ?_) (fun c_147 => ?_)
                · refine lv_iconst (v := nI (1)) S.1 S.2.1 dX3_number_159 rfl ?_
                  refine k_top (y := nI ((nmW2 (φ 4) (φ 8 0) (φ 9 0) w lo hi).toNat)) (by first | exact k_or1 c_147 | exact k_or2 c_156) ?_
                  refine lv_goto (tgt := 164) S.1 S.2.1 dX3_number_160 (by decide) ?_
                  refine kx_put S hK hW hinX3 tyX3_ok nmX3 0 3 rfl rfl 10 (by decide) (List.mem_of_getElem? (i := 3) rfl) rfl (v := .int (nI (nmW2 (φ 4) (φ 8 0) (φ 9 0) w lo hi).toNat)) (k_narB _) (k_fitB _) (Nat.le_of_ble_eq_true rfl) dX3_number_164 (fun H locs hW => ?_)
                  have hW : kw D A s.heap (wM c a (pu (pu φ 9 (kc (nmS2 (φ 4) (φ 8 0) (φ 9 0) w lo hi))) 10 (kc ((nmW2 (φ 4) (φ 8 0) (φ 9 0) w lo hi).toNat))) δ) H locs := hW
                  refine lv_iload_n S.1 S.2.1 dX3_number_167 rfl (lv_at hl 0 rfl) ?_
                  refine k_top (y := nmV2 (φ 4) (φ 8 0) (φ 9 0) w lo hi) (by unfold nmV2; rw [hN]; rfl) ?_
                  exact hret 168 _ _ _ _ _ dX3_number_168 hW (rfl) (rfl)
                · exact absurd (c_62.symm.trans c_147) (by decide)
              · have hN : nmN2 (φ 4) (φ 8 0) (φ 9 0) w lo hi = true := by unfold nmN2; rw [show inb (nmV1 (φ 4) (φ 8 0) (φ 9 0) w lo hi) lo hi = true from c_111, c_86, decide_eq_false c_75]; rfl
                refine lv_bipush (v := nI (10)) S.1 S.2.1 dX3_number_114 rfl ?_
                refine lv_iload_n S.1 S.2.1 dX3_number_116 rfl (lv_at hl 0 rfl) ?_
                refine lv_imul S.1 S.2.1 dX3_number_117 ?_
                refine lv_aload_n S.1 S.2.1 dX3_number_118 rfl (lv_at hl 1 rfl) ?_
                refine kx_get S hK hW hinX3 0 3 rfl rfl 7 (by decide) (List.mem_of_getElem? (i := 1) rfl) (v := .ref (a 5)) rfl dX3_number_119 ?_
                refine lv_aload_n S.1 S.2.1 dX3_number_122 rfl (lv_at hl 1 rfl) ?_
                refine kx_get S hK hW hinX3 0 3 rfl rfl 9 (by decide) (List.mem_of_getElem? (i := 2) rfl) (v := .int (nI (nmS1 (φ 4) (φ 8 0) (φ 9 0) w lo hi))) rfl dX3_number_123 ?_
                refine kn_ald S hK hW 5 (f := φ 4) rfl (by omega) (by decide) dX3_number_126 ?_
                refine lv_iadd S.1 S.2.1 dX3_number_127 ?_
                refine lv_bipush (v := nI (48)) S.1 S.2.1 dX3_number_128 rfl ?_
                refine lv_isub S.1 S.2.1 dX3_number_130 ?_
                refine k_top (y := nmV1 (φ 4) (φ 8 0) (φ 9 0) w lo hi) (rfl) ?_
                refine lv_istore_n (lv' := [(3, .int (nmV1 (φ 4) (φ 8 0) (φ 9 0) w lo hi)), (0, .ref (a 0)), (1, .int (lo)), (2, .int (hi))]) S.1 S.2.1 dX3_number_131 rfl hl (by decide) rfl (fun ls hl => ?_)
                refine lv_aload_n S.1 S.2.1 dX3_number_132 rfl (lv_at hl 1 rfl) ?_
                refine lv_dup S.1 S.2.1 dX3_number_133 rfl ?_
                refine kx_get S hK hW hinX3 0 3 rfl rfl 9 (by decide) (List.mem_of_getElem? (i := 2) rfl) (v := .int (nI (nmS1 (φ 4) (φ 8 0) (φ 9 0) w lo hi))) rfl dX3_number_134 ?_
                refine lv_iconst (v := nI (1)) S.1 S.2.1 dX3_number_137 rfl ?_
                refine kn_iadd S dX3_number_138 ?_
                refine kx_put S hK hW hinX3 tyX3_ok nmX3 0 3 rfl rfl 9 (by decide) (List.mem_of_getElem? (i := 2) rfl) rfl (v := .int (nI (nmS1 (φ 4) (φ 8 0) (φ 9 0) w lo hi + 1))) rfl rfl (Nat.le_of_ble_eq_true rfl) dX3_number_139 (fun H locs hW => ?_)
                have hW : kw D A s.heap (wM c a (pu (pu φ 10 (kc ((nmW1 (φ 4) (φ 8 0) (φ 9 0) w lo hi).toNat))) 9 (kc (nmS1 (φ 4) (φ 8 0) (φ 9 0) w lo hi + 1))) δ) H locs := hW
                have hW : kw D A s.heap (wM c a (pu (pu φ 10 (kc ((nmW1 (φ 4) (φ 8 0) (φ 9 0) w lo hi).toNat))) 9 (kc (nmS2 (φ 4) (φ 8 0) (φ 9 0) w lo hi))) δ) H locs := by (rw [show nmS2 (φ 4) (φ 8 0) (φ 9 0) w lo hi = _ from congrArg (nmS1 (φ 4) (φ 8 0) (φ 9 0) w lo hi + ·) (congrArg Bool.toNat hN)]; exact hW)
                refine lv_aload_n S.1 S.2.1 dX3_number_142 rfl (lv_at hl 1 rfl) ?_
                refine lv_aload_n S.1 S.2.1 dX3_number_143 rfl (lv_at hl 1 rfl) ?_
                refine kx_get S hK hW hinX3 0 3 rfl rfl 10 (by decide) (List.mem_of_getElem? (i := 3) rfl) (v := .int (nI (nmW1 (φ 4) (φ 8 0) (φ 9 0) w lo hi).toNat)) rfl dX3_number_144 ?_
                refine kb_ne S (tgt := 159) dX3_number_147 (by decide) (fun c_147 => ?_) (fun c_147 => ?_)
                · refine lv_iconst (v := nI (1)) S.1 S.2.1 dX3_number_159 rfl ?_
                  refine k_top (y := nI ((nmW2 (φ 4) (φ 8 0) (φ 9 0) w lo hi).toNat)) (by first | exact k_or1 c_147 | exact k_or2 c_156) ?_
                  refine lv_goto (tgt := 164) S.1 S.2.1 dX3_number_160 (by decide) ?_
                  refine kx_put S hK hW hinX3 tyX3_ok nmX3 0 3 rfl rfl 10 (by decide) (List.mem_of_getElem? (i := 3) rfl) rfl (v := .int (nI (nmW2 (φ 4) (φ 8 0) (φ 9 0) w lo hi).toNat)) (k_narB _) (k_fitB _) (Nat.le_of_ble_eq_true rfl) dX3_number_164 (fun H locs hW => ?_)
                  have hW : kw D A s.heap (wM c a (pu (pu φ 9 (kc (nmS2 (φ 4) (φ 8 0) (φ 9 0) w lo hi))) 10 (kc ((nmW2 (φ 4) (φ 8 0) (φ 9 0) w lo hi).toNat))) δ) H locs := hW
                  refine lv_iload_n S.1 S.2.1 dX3_number_167 rfl (lv_at hl 0 rfl) ?_
                  refine k_top (y := nmV2 (φ 4) (φ 8 0) (φ 9 0) w lo hi) (by unfold nmV2; rw [hN]; rfl) ?_
                  exact hret 168 _ _ _ _ _ dX3_number_168 hW (rfl) (rfl)
                · exact absurd (c_62.symm.trans c_147) (by decide)
      · refine lv_iconst (v := nI (1)) S.1 S.2.1 dX3_number_45 rfl ?_
        refine k_top (y := nI ((nmW1 (φ 4) (φ 8 0) (φ 9 0) w lo hi).toNat)) (by first | exact k_or1 c_33 | exact k_or2 c_42) ?_
        refine lv_goto (tgt := 50) S.1 S.2.1 dX3_number_46 (by decide) ?_
        refine kx_put S hK hW hinX3 tyX3_ok nmX3 0 3 rfl rfl 10 (by decide) (List.mem_of_getElem? (i := 3) rfl) rfl (v := .int (nI (nmW1 (φ 4) (φ 8 0) (φ 9 0) w lo hi).toNat)) (k_narB _) (k_fitB _) (Nat.le_of_ble_eq_true rfl) dX3_number_50 (fun H locs hW => ?_)
        have hW : kw D A s.heap (wM c a (pu φ 10 (kc ((nmW1 (φ 4) (φ 8 0) (φ 9 0) w lo hi).toNat))) δ) H locs := hW
        refine lv_aload_n S.1 S.2.1 dX3_number_53 rfl (lv_at hl 1 rfl) ?_
        refine lv_dup S.1 S.2.1 dX3_number_54 rfl ?_
        refine kx_get S hK hW hinX3 0 3 rfl rfl 9 (by decide) (List.mem_of_getElem? (i := 2) rfl) (v := .int (nI (φ 9 0))) rfl dX3_number_55 ?_
        refine lv_aload_n S.1 S.2.1 dX3_number_58 rfl (lv_at hl 1 rfl) ?_
        refine kx_get S hK hW hinX3 0 3 rfl rfl 10 (by decide) (List.mem_of_getElem? (i := 3) rfl) (v := .int (nI (nmW1 (φ 4) (φ 8 0) (φ 9 0) w lo hi).toNat)) rfl dX3_number_59 ?_
        refine kb_eq S (tgt := 69) dX3_number_62 (by decide) (fun c_62 => ?_) (fun c_62 => ?_)
        · refine lv_iconst (v := nI (1)) S.1 S.2.1 dX3_number_69 rfl ?_
          refine kn_iadd S dX3_number_70 ?_
          refine k_top (y := nI (nmS1 (φ 4) (φ 8 0) (φ 9 0) w lo hi)) (congrArg nI (by unfold nmS1; rw [c_62]; rfl)) ?_
          refine kx_put S hK hW hinX3 tyX3_ok nmX3 0 3 rfl rfl 9 (by decide) (List.mem_of_getElem? (i := 2) rfl) rfl (v := .int (nI (nmS1 (φ 4) (φ 8 0) (φ 9 0) w lo hi))) rfl rfl (Nat.le_of_ble_eq_true rfl) dX3_number_71 (fun H locs hW => ?_)
          have hW : kw D A s.heap (wM c a (pu (pu φ 10 (kc ((nmW1 (φ 4) (φ 8 0) (φ 9 0) w lo hi).toNat))) 9 (kc (nmS1 (φ 4) (φ 8 0) (φ 9 0) w lo hi))) δ) H locs := hW
          refine lv_iload_n S.1 S.2.1 dX3_number_74 rfl (lv_at hl 0 rfl) ?_
          refine lv_if_le (tgt := 142) S.1 S.2.1 dX3_number_75 (by decide) (fun c_75 => ?_) (fun c_75 => ?_)
          · have hN : nmN2 (φ 4) (φ 8 0) (φ 9 0) w lo hi = false := by simp [nmN2, c_75]
            have hW : kw D A s.heap (wM c a (pu (pu φ 10 (kc ((nmW1 (φ 4) (φ 8 0) (φ 9 0) w lo hi).toNat))) 9 (kc (nmS2 (φ 4) (φ 8 0) (φ 9 0) w lo hi))) δ) H locs := by (rw [show nmS2 (φ 4) (φ 8 0) (φ 9 0) w lo hi = _ from congrArg (nmS1 (φ 4) (φ 8 0) (φ 9 0) w lo hi + ·) (congrArg Bool.toNat hN)]; exact hW)
            refine lv_aload_n S.1 S.2.1 dX3_number_142 rfl (lv_at hl 1 rfl) ?_
            refine lv_aload_n S.1 S.2.1 dX3_number_143 rfl (lv_at hl 1 rfl) ?_
            refine kx_get S hK hW hinX3 0 3 rfl rfl 10 (by decide) (List.mem_of_getElem? (i := 3) rfl) (v := .int (nI (nmW1 (φ 4) (φ 8 0) (φ 9 0) w lo hi).toNat)) rfl dX3_number_144 ?_
            refine kb_ne S (tgt := 159) dX3_number_147 (by decide) (fun c_147 => ?_) (fun c_147 => ?_)
            · exact absurd (c_62.symm.trans c_147) (by decide)
            · refine lv_iload_n S.1 S.2.1 dX3_number_150 rfl (lv_at hl 0 rfl) ?_
              refine k_top (y := nmV2 (φ 4) (φ 8 0) (φ 9 0) w lo hi) (by unfold nmV2; rw [hN]; rfl) ?_
              refine lv_iload_n S.1 S.2.1 dX3_number_151 rfl (lv_at hl 2 rfl) ?_
              refine lv_iload_n S.1 S.2.1 dX3_number_152 rfl (lv_at hl 3 rfl) ?_
              refine k_SI (rest := [.ref (a 0)]) S hK hl.1 hW (KFr.nil hW hA) (mX3_in l D c  _ (nmV2 (φ 4) (φ 8 0) (φ 9 0) w lo hi) lo hi) gX3_number_X3_in rfl pdX3_in ⟨⟨rfl, rfl⟩, Nat.le_of_ble_eq_true rfl, Nat.le_of_ble_eq_true rfl⟩ rfl (Nat.le_of_ble_eq_true rfl) dX3_number_153 ⟨Nat.le_of_ble_eq_true rfl, Nat.le_of_ble_eq_true rfl⟩ (fun H locs hW => ?_)
              have hW : kw D A s.heap (wM c a (pu (pu φ 10 (kc ((nmW1 (φ 4) (φ 8 0) (φ 9 0) w lo hi).toNat))) 9 (kc (nmS2 (φ 4) (φ 8 0) (φ 9 0) w lo hi))) δ) H locs := hW
              refine kb_ne S (tgt := 163) dX3_number_156 (by decide) (fun c_156 => ?_) (fun c_156 => ?_)
              · refine lv_iconst (v := nI (0)) S.1 S.2.1 dX3_number_163 rfl ?_
                refine k_top (y := nI ((nmW2 (φ 4) (φ 8 0) (φ 9 0) w lo hi).toNat)) (k_or0 c_147 c_156) ?_
                refine kx_put S hK hW hinX3 tyX3_ok nmX3 0 3 rfl rfl 10 (by decide) (List.mem_of_getElem? (i := 3) rfl) rfl (v := .int (nI (nmW2 (φ 4) (φ 8 0) (φ 9 0) w lo hi).toNat)) (k_narB _) (k_fitB _) (Nat.le_of_ble_eq_true rfl) dX3_number_164 (fun H locs hW => ?_)
                have hW : kw D A s.heap (wM c a (pu (pu φ 9 (kc (nmS2 (φ 4) (φ 8 0) (φ 9 0) w lo hi))) 10 (kc ((nmW2 (φ 4) (φ 8 0) (φ 9 0) w lo hi).toNat))) δ) H locs := hW
                refine lv_iload_n S.1 S.2.1 dX3_number_167 rfl (lv_at hl 0 rfl) ?_
                refine k_top (y := nmV2 (φ 4) (φ 8 0) (φ 9 0) w lo hi) (by unfold nmV2; rw [hN]; rfl) ?_
                exact hret 168 _ _ _ _ _ dX3_number_168 hW (rfl) (rfl)
              · refine lv_iconst (v := nI (1)) S.1 S.2.1 dX3_number_159 rfl ?_
                refine k_top (y := nI ((nmW2 (φ 4) (φ 8 0) (φ 9 0) w lo hi).toNat)) (by first | exact k_or1 c_147 | exact k_or2 c_156) ?_
                refine lv_goto (tgt := 164) S.1 S.2.1 dX3_number_160 (by decide) ?_
                refine kx_put S hK hW hinX3 tyX3_ok nmX3 0 3 rfl rfl 10 (by decide) (List.mem_of_getElem? (i := 3) rfl) rfl (v := .int (nI (nmW2 (φ 4) (φ 8 0) (φ 9 0) w lo hi).toNat)) (k_narB _) (k_fitB _) (Nat.le_of_ble_eq_true rfl) dX3_number_164 (fun H locs hW => ?_)
                have hW : kw D A s.heap (wM c a (pu (pu φ 9 (kc (nmS2 (φ 4) (φ 8 0) (φ 9 0) w lo hi))) 10 (kc ((nmW2 (φ 4) (φ 8 0) (φ 9 0) w lo hi).toNat))) δ) H locs := hW
                refine lv_iload_n S.1 S.2.1 dX3_number_167 rfl (lv_at hl 0 rfl) ?_
                refine k_top (y := nmV2 (φ 4) (φ 8 0) (φ 9 0) w lo hi) (by unfold nmV2; rw [hN]; rfl) ?_
                exact hret 168 _ _ _ _ _ dX3_number_168 hW (rfl) (rfl)
          · refine lv_aload_n S.1 S.2.1 dX3_number_78 rfl (lv_at hl 1 rfl) ?_
            refine lv_bipush (v := nI (48)) S.1 S.2.1 dX3_number_79 rfl ?_
            refine lv_bipush (v := nI (57)) S.1 S.2.1 dX3_number_81 rfl ?_
            refine k_VI (rest := []) S hK hl.1 hW (KFr.all hW hA) (mX3_isNext l D c a ((pu (pu φ 10 (kc ((nmW1 (φ 4) (φ 8 0) (φ 9 0) w lo hi).toNat))) 9 (kc (nmS1 (φ 4) (φ 8 0) (φ 9 0) w lo hi)))) δ _ (nmW1 (φ 4) (φ 8 0) (φ 9 0) w lo hi) (nI (48)) (nI (57)) (by first | omega | exact hw | assumption | (show ((nmW1 (φ 4) (φ 8 0) (φ 9 0) w lo hi).toNat) = (nmW1 (φ 4) (φ 8 0) (φ 9 0) w lo hi).toNat; omega) | rfl) (by first | omega | exact hm | assumption | (show (φ 8 0) ≤ 60; omega) | rfl) (by first | omega | exact hs | assumption | (show (nmS1 (φ 4) (φ 8 0) (φ 9 0) w lo hi) < 1000; omega) | rfl)) gX3_number_X3_isNext rfl pdX3_isNext ⟨⟨rfl, rfl⟩, Nat.le_of_ble_eq_true rfl, Nat.le_of_ble_eq_true rfl⟩ 0 3 rfl rfl rfl rfl (Nat.le_of_ble_eq_true rfl) dX3_number_83 ⟨Nat.le_of_ble_eq_true rfl, Nat.le_of_ble_eq_true rfl⟩ (fun H locs hW => ?_)
            have hW : kw D A s.heap (wM c a (pu (pu φ 10 (kc ((nmW1 (φ 4) (φ 8 0) (φ 9 0) w lo hi).toNat))) 9 (kc (nmS1 (φ 4) (φ 8 0) (φ 9 0) w lo hi))) δ) H locs := hW
            refine k_top (y := nI ((nxb ((φ 4)) ((φ 8 0)) ((nmS1 (φ 4) (φ 8 0) (φ 9 0) w lo hi)) (nmW1 (φ 4) (φ 8 0) (φ 9 0) w lo hi) (nI (48)) (nI (57))).toNat)) rfl ?_
            refine kb_eq S (tgt := 142) dX3_number_86 (by decide) (fun c_86 => ?_) (fun c_86 => ?_)
            · have hN : nmN2 (φ 4) (φ 8 0) (φ 9 0) w lo hi = false := by simp [nmN2, c_86]
              have hW : kw D A s.heap (wM c a (pu (pu φ 10 (kc ((nmW1 (φ 4) (φ 8 0) (φ 9 0) w lo hi).toNat))) 9 (kc (nmS2 (φ 4) (φ 8 0) (φ 9 0) w lo hi))) δ) H locs := by (rw [show nmS2 (φ 4) (φ 8 0) (φ 9 0) w lo hi = _ from congrArg (nmS1 (φ 4) (φ 8 0) (φ 9 0) w lo hi + ·) (congrArg Bool.toNat hN)]; exact hW)
              refine lv_aload_n S.1 S.2.1 dX3_number_142 rfl (lv_at hl 1 rfl) ?_
              refine lv_aload_n S.1 S.2.1 dX3_number_143 rfl (lv_at hl 1 rfl) ?_
              refine kx_get S hK hW hinX3 0 3 rfl rfl 10 (by decide) (List.mem_of_getElem? (i := 3) rfl) (v := .int (nI (nmW1 (φ 4) (φ 8 0) (φ 9 0) w lo hi).toNat)) rfl dX3_number_144 ?_
              refine kb_ne S (tgt := 159) dX3_number_147 (by decide) (fun c_147 => ?_) (fun c_147 => ?_)
              · exact absurd (c_62.symm.trans c_147) (by decide)
              · refine lv_iload_n S.1 S.2.1 dX3_number_150 rfl (lv_at hl 0 rfl) ?_
                refine k_top (y := nmV2 (φ 4) (φ 8 0) (φ 9 0) w lo hi) (by unfold nmV2; rw [hN]; rfl) ?_
                refine lv_iload_n S.1 S.2.1 dX3_number_151 rfl (lv_at hl 2 rfl) ?_
                refine lv_iload_n S.1 S.2.1 dX3_number_152 rfl (lv_at hl 3 rfl) ?_
                refine k_SI (rest := [.ref (a 0)]) S hK hl.1 hW (KFr.nil hW hA) (mX3_in l D c  _ (nmV2 (φ 4) (φ 8 0) (φ 9 0) w lo hi) lo hi) gX3_number_X3_in rfl pdX3_in ⟨⟨rfl, rfl⟩, Nat.le_of_ble_eq_true rfl, Nat.le_of_ble_eq_true rfl⟩ rfl (Nat.le_of_ble_eq_true rfl) dX3_number_153 ⟨Nat.le_of_ble_eq_true rfl, Nat.le_of_ble_eq_true rfl⟩ (fun H locs hW => ?_)
                have hW : kw D A s.heap (wM c a (pu (pu φ 10 (kc ((nmW1 (φ 4) (φ 8 0) (φ 9 0) w lo hi).toNat))) 9 (kc (nmS2 (φ 4) (φ 8 0) (φ 9 0) w lo hi))) δ) H locs := hW
                refine kb_ne S (tgt := 163) dX3_number_156 (by decide) (fun c_156 => ?_) (fun c_156 => ?_)
                · refine lv_iconst (v := nI (0)) S.1 S.2.1 dX3_number_163 rfl ?_
                  refine k_top (y := nI ((nmW2 (φ 4) (φ 8 0) (φ 9 0) w lo hi).toNat)) (k_or0 c_147 c_156) ?_
                  refine kx_put S hK hW hinX3 tyX3_ok nmX3 0 3 rfl rfl 10 (by decide) (List.mem_of_getElem? (i := 3) rfl) rfl (v := .int (nI (nmW2 (φ 4) (φ 8 0) (φ 9 0) w lo hi).toNat)) (k_narB _) (k_fitB _) (Nat.le_of_ble_eq_true rfl) dX3_number_164 (fun H locs hW => ?_)
                  have hW : kw D A s.heap (wM c a (pu (pu φ 9 (kc (nmS2 (φ 4) (φ 8 0) (φ 9 0) w lo hi))) 10 (kc ((nmW2 (φ 4) (φ 8 0) (φ 9 0) w lo hi).toNat))) δ) H locs := hW
                  refine lv_iload_n S.1 S.2.1 dX3_number_167 rfl (lv_at hl 0 rfl) ?_
                  refine k_top (y := nmV2 (φ 4) (φ 8 0) (φ 9 0) w lo hi) (by unfold nmV2; rw [hN]; rfl) ?_
                  exact hret 168 _ _ _ _ _ dX3_number_168 hW (rfl) (rfl)
                · refine lv_iconst (v := nI (1)) S.1 S.2.1 dX3_number_159 rfl ?_
                  refine k_top (y := nI ((nmW2 (φ 4) (φ 8 0) (φ 9 0) w lo hi).toNat)) (by first | exact k_or1 c_147 | exact k_or2 c_156) ?_
                  refine lv_goto (tgt := 164) S.1 S.2.1 dX3_number_160 (by decide) ?_
                  refine kx_put S hK hW hinX3 tyX3_ok nmX3 0 3 rfl rfl 10 (by decide) (List.mem_of_getElem? (i := 3) rfl) rfl (v := .int (nI (nmW2 (φ 4) (φ 8 0) (φ 9 0) w lo hi).toNat)) (k_narB _) (k_fitB _) (Nat.le_of_ble_eq_true rfl) dX3_number_164 (fun H locs hW => ?_)
                  have hW : kw D A s.heap (wM c a (pu (pu φ 9 (kc (nmS2 (φ 4) (φ 8 0) (φ 9 0) w lo hi))) 10 (kc ((nmW2 (φ 4) (φ 8 0) (φ 9 0) w lo hi).toNat))) δ) H locs := hW
                  refine lv_iload_n S.1 S.2.1 dX3_number_167 rfl (lv_at hl 0 rfl) ?_
                  refine k_top (y := nmV2 (φ 4) (φ 8 0) (φ 9 0) w lo hi) (by unfold nmV2; rw [hN]; rfl) ?_
                  exact hret 168 _ _ _ _ _ dX3_number_168 hW (rfl) (rfl)
            · have hlt2 := nxb_lt c_86
              refine lv_bipush (v := nI (10)) S.1 S.2.1 dX3_number_89 rfl ?_
              refine lv_iload_n S.1 S.2.1 dX3_number_91 rfl (lv_at hl 0 rfl) ?_
              refine lv_imul S.1 S.2.1 dX3_number_92 ?_
              refine lv_aload_n S.1 S.2.1 dX3_number_93 rfl (lv_at hl 1 rfl) ?_
              refine kx_get S hK hW hinX3 0 3 rfl rfl 7 (by decide) (List.mem_of_getElem? (i := 1) rfl) (v := .ref (a 5)) rfl dX3_number_94 ?_
              refine lv_aload_n S.1 S.2.1 dX3_number_97 rfl (lv_at hl 1 rfl) ?_
              refine kx_get S hK hW hinX3 0 3 rfl rfl 9 (by decide) (List.mem_of_getElem? (i := 2) rfl) (v := .int (nI (nmS1 (φ 4) (φ 8 0) (φ 9 0) w lo hi))) rfl dX3_number_98 ?_
              refine kn_ald S hK hW 5 (f := φ 4) rfl (by omega) (by decide) dX3_number_101 ?_
              refine lv_iadd S.1 S.2.1 dX3_number_102 ?_
              refine lv_bipush (v := nI (48)) S.1 S.2.1 dX3_number_103 rfl ?_
              refine lv_isub S.1 S.2.1 dX3_number_105 ?_
              refine k_top (y := nmV1 (φ 4) (φ 8 0) (φ 9 0) w lo hi) (rfl) ?_
              refine lv_iload_n S.1 S.2.1 dX3_number_106 rfl (lv_at hl 2 rfl) ?_
              refine lv_iload_n S.1 S.2.1 dX3_number_107 rfl (lv_at hl 3 rfl) ?_
              refine k_SI (rest := []) S hK hl.1 hW (KFr.nil hW hA) (mX3_in l D c  _ (nmV1 (φ 4) (φ 8 0) (φ 9 0) w lo hi) lo hi) gX3_number_X3_in rfl pdX3_in ⟨⟨rfl, rfl⟩, Nat.le_of_ble_eq_true rfl, Nat.le_of_ble_eq_true rfl⟩ rfl (Nat.le_of_ble_eq_true rfl) dX3_number_108 ⟨Nat.le_of_ble_eq_true rfl, Nat.le_of_ble_eq_true rfl⟩ (fun H locs hW => ?_)
              have hW : kw D A s.heap (wM c a (pu (pu φ 10 (kc ((nmW1 (φ 4) (φ 8 0) (φ 9 0) w lo hi).toNat))) 9 (kc (nmS1 (φ 4) (φ 8 0) (φ 9 0) w lo hi))) δ) H locs := hW
              refine kb_eq S (tgt := 142) dX3_number_111 (by decide) (fun c_111 => ?_) (fun c_111 => ?_)
              · have hN : nmN2 (φ 4) (φ 8 0) (φ 9 0) w lo hi = false := by unfold nmN2; rw [show inb (nmV1 (φ 4) (φ 8 0) (φ 9 0) w lo hi) lo hi = false from c_111, Bool.and_false]
                have hW : kw D A s.heap (wM c a (pu (pu φ 10 (kc ((nmW1 (φ 4) (φ 8 0) (φ 9 0) w lo hi).toNat))) 9 (kc (nmS2 (φ 4) (φ 8 0) (φ 9 0) w lo hi))) δ) H locs := by (rw [show nmS2 (φ 4) (φ 8 0) (φ 9 0) w lo hi = _ from congrArg (nmS1 (φ 4) (φ 8 0) (φ 9 0) w lo hi + ·) (congrArg Bool.toNat hN)]; exact hW)
                refine lv_aload_n S.1 S.2.1 dX3_number_142 rfl (lv_at hl 1 rfl) ?_
                refine lv_aload_n S.1 S.2.1 dX3_number_143 rfl (lv_at hl 1 rfl) ?_
                refine kx_get S hK hW hinX3 0 3 rfl rfl 10 (by decide) (List.mem_of_getElem? (i := 3) rfl) (v := .int (nI (nmW1 (φ 4) (φ 8 0) (φ 9 0) w lo hi).toNat)) rfl dX3_number_144 ?_
                refine kb_ne S (tgt := 159) dX3_number_147 (by decide) (fun c_147 => ?_) (fun c_147 => ?_)
                · exact absurd (c_62.symm.trans c_147) (by decide)
                · refine lv_iload_n S.1 S.2.1 dX3_number_150 rfl (lv_at hl 0 rfl) ?_
                  refine k_top (y := nmV2 (φ 4) (φ 8 0) (φ 9 0) w lo hi) (by unfold nmV2; rw [hN]; rfl) ?_
                  refine lv_iload_n S.1 S.2.1 dX3_number_151 rfl (lv_at hl 2 rfl) ?_
                  refine lv_iload_n S.1 S.2.1 dX3_number_152 rfl (lv_at hl 3 rfl) ?_
                  refine k_SI (rest := [.ref (a 0)]) S hK hl.1 hW (KFr.nil hW hA) (mX3_in l D c  _ (nmV2 (φ 4) (φ 8 0) (φ 9 0) w lo hi) lo hi) gX3_number_X3_in rfl pdX3_in ⟨⟨rfl, rfl⟩, Nat.le_of_ble_eq_true rfl, Nat.le_of_ble_eq_true rfl⟩ rfl (Nat.le_of_ble_eq_true rfl) dX3_number_153 ⟨Nat.le_of_ble_eq_true rfl, Nat.le_of_ble_eq_true rfl⟩ (fun H locs hW => ?_)
                  have hW : kw D A s.heap (wM c a (pu (pu φ 10 (kc ((nmW1 (φ 4) (φ 8 0) (φ 9 0) w lo hi).toNat))) 9 (kc (nmS2 (φ 4) (φ 8 0) (φ 9 0) w lo hi))) δ) H locs := hW
                  refine kb_ne S (tgt := 163) dX3_number_156 (by decide) (fun c_156 => ?_) (fun c_156 => ?_)
                  · refine lv_iconst (v := nI (0)) S.1 S.2.1 dX3_number_163 rfl ?_
                    refine k_top (y := nI ((nmW2 (φ 4) (φ 8 0) (φ 9 0) w lo hi).toNat)) (k_or0 c_147 c_156) ?_
                    refine kx_put S hK hW hinX3 tyX3_ok nmX3 0 3 rfl rfl 10 (by decide) (List.mem_of_getElem? (i := 3) rfl) rfl (v := .int (nI (nmW2 (φ 4) (φ 8 0) (φ 9 0) w lo hi).toNat)) (k_narB _) (k_fitB _) (Nat.le_of_ble_eq_true rfl) dX3_number_164 (fun H locs hW => ?_)
                    have hW : kw D A s.heap (wM c a (pu (pu φ 9 (kc (nmS2 (φ 4) (φ 8 0) (φ 9 0) w lo hi))) 10 (kc ((nmW2 (φ 4) (φ 8 0) (φ 9 0) w lo hi).toNat))) δ) H locs := hW
                    refine lv_iload_n S.1 S.2.1 dX3_number_167 rfl (lv_at hl 0 rfl) ?_
                    refine k_top (y := nmV2 (φ 4) (φ 8 0) (φ 9 0) w lo hi) (by unfold nmV2; rw [hN]; rfl) ?_
                    exact hret 168 _ _ _ _ _ dX3_number_168 hW (rfl) (rfl)
                  · refine lv_iconst (v := nI (1)) S.1 S.2.1 dX3_number_159 rfl ?_
                    refine k_top (y := nI ((nmW2 (φ 4) (φ 8 0) (φ 9 0) w lo hi).toNat)) (by first | exact k_or1 c_147 | exact k_or2 c_156) ?_
                    refine lv_goto (tgt := 164) S.1 S.2.1 dX3_number_160 (by decide) ?_
                    refine kx_put S hK hW hinX3 tyX3_ok nmX3 0 3 rfl rfl 10 (by decide) (List.mem_of_getElem? (i := 3) rfl) rfl (v := .int (nI (nmW2 (φ 4) (φ 8 0) (φ 9 0) w lo hi).toNat)) (k_narB _) (k_fitB _) (Nat.le_of_ble_eq_true rfl) dX3_number_164 (fun H locs hW => ?_)
                    have hW : kw D A s.heap (wM c a (pu (pu φ 9 (kc (nmS2 (φ 4) (φ 8 0) (φ 9 0) w lo hi))) 10 (kc ((nmW2 (φ 4) (φ 8 0) (φ 9 0) w lo hi).toNat))) δ) H locs := hW
                    refine lv_iload_n S.1 S.2.1 dX3_number_167 rfl (lv_at hl 0 rfl) ?_
                    refine k_top (y := nmV2 (φ 4) (φ 8 0) (φ 9 0) w lo hi) (by unfold nmV2; rw [hN]; rfl) ?_
                    exact hret 168 _ _ _ _ _ dX3_number_168 hW (rfl) (rfl)
              · have hN : nmN2 (φ 4) (φ 8 0) (φ 9 0) w lo hi = true := by unfold nmN2; rw [show inb (nmV1 (φ 4) (φ 8 0) (φ 9 0) w lo hi) lo hi = true from c_111, c_86, decide_eq_false c_75]; rfl
                refine lv_bipush (v := nI (10)) S.1 S.2.1 dX3_number_114 rfl ?_
                refine lv_iload_n S.1 S.2.1 dX3_number_116 rfl (lv_at hl 0 rfl) ?_
                refine lv_imul S.1 S.2.1 dX3_number_117 ?_
                refine lv_aload_n S.1 S.2.1 dX3_number_118 rfl (lv_at hl 1 rfl) ?_
                refine kx_get S hK hW hinX3 0 3 rfl rfl 7 (by decide) (List.mem_of_getElem? (i := 1) rfl) (v := .ref (a 5)) rfl dX3_number_119 ?_
                refine lv_aload_n S.1 S.2.1 dX3_number_122 rfl (lv_at hl 1 rfl) ?_
                refine kx_get S hK hW hinX3 0 3 rfl rfl 9 (by decide) (List.mem_of_getElem? (i := 2) rfl) (v := .int (nI (nmS1 (φ 4) (φ 8 0) (φ 9 0) w lo hi))) rfl dX3_number_123 ?_
                refine kn_ald S hK hW 5 (f := φ 4) rfl (by omega) (by decide) dX3_number_126 ?_
                refine lv_iadd S.1 S.2.1 dX3_number_127 ?_
                refine lv_bipush (v := nI (48)) S.1 S.2.1 dX3_number_128 rfl ?_
                refine lv_isub S.1 S.2.1 dX3_number_130 ?_
                refine k_top (y := nmV1 (φ 4) (φ 8 0) (φ 9 0) w lo hi) (rfl) ?_
                refine lv_istore_n (lv' := [(3, .int (nmV1 (φ 4) (φ 8 0) (φ 9 0) w lo hi)), (0, .ref (a 0)), (1, .int (lo)), (2, .int (hi))]) S.1 S.2.1 dX3_number_131 rfl hl (by decide) rfl (fun ls hl => ?_)
                refine lv_aload_n S.1 S.2.1 dX3_number_132 rfl (lv_at hl 1 rfl) ?_
                refine lv_dup S.1 S.2.1 dX3_number_133 rfl ?_
                refine kx_get S hK hW hinX3 0 3 rfl rfl 9 (by decide) (List.mem_of_getElem? (i := 2) rfl) (v := .int (nI (nmS1 (φ 4) (φ 8 0) (φ 9 0) w lo hi))) rfl dX3_number_134 ?_
                refine lv_iconst (v := nI (1)) S.1 S.2.1 dX3_number_137 rfl ?_
                refine kn_iadd S dX3_number_138 ?_
                refine kx_put S hK hW hinX3 tyX3_ok nmX3 0 3 rfl rfl 9 (by decide) (List.mem_of_getElem? (i := 2) rfl) rfl (v := .int (nI (nmS1 (φ 4) (φ 8 0) (φ 9 0) w lo hi + 1))) rfl rfl (Nat.le_of_ble_eq_true rfl) dX3_number_139 (fun H locs hW => ?_)
                have hW : kw D A s.heap (wM c a (pu (pu φ 10 (kc ((nmW1 (φ 4) (φ 8 0) (φ 9 0) w lo hi).toNat))) 9 (kc (nmS1 (φ 4) (φ 8 0) (φ 9 0) w lo hi + 1))) δ) H locs := hW
                have hW : kw D A s.heap (wM c a (pu (pu φ 10 (kc ((nmW1 (φ 4) (φ 8 0) (φ 9 0) w lo hi).toNat))) 9 (kc (nmS2 (φ 4) (φ 8 0) (φ 9 0) w lo hi))) δ) H locs := by (rw [show nmS2 (φ 4) (φ 8 0) (φ 9 0) w lo hi = _ from congrArg (nmS1 (φ 4) (φ 8 0) (φ 9 0) w lo hi + ·) (congrArg Bool.toNat hN)]; exact hW)
                refine lv_aload_n S.1 S.2.1 dX3_number_142 rfl (lv_at hl 1 rfl) ?_
                refine lv_aload_n S.1 S.2.1 dX3_number_143 rfl (lv_at hl 1 rfl) ?_
                refine kx_get S hK hW hinX3 0 3 rfl rfl 10 (by decide) (List.mem_of_getElem? (i := 3) rfl) (v := .int (nI (nmW1 (φ 4) (φ 8 0) (φ 9 0) w lo hi).toNat)) rfl dX3_number_144 ?_
                refine kb_ne S (tgt := 159) dX3_number_147 (by decide) (fun c_147 => ?_) (fun c_147 => ?_)
                · exact absurd (c_62.symm.trans c_147) (by decide)
                · refine lv_iload_n S.1 S.2.1 dX3_number_150 rfl (lv_at hl 0 rfl) ?_
                  refine k_top (y := nmV2 (φ 4) (φ 8 0) (φ 9 0) w lo hi) (by unfold nmV2; rw [hN]; rfl) ?_
                  refine lv_iload_n S.1 S.2.1 dX3_number_151 rfl (lv_at hl 2 rfl) ?_
                  refine lv_iload_n S.1 S.2.1 dX3_number_152 rfl (lv_at hl 3 rfl) ?_
                  refine k_SI (rest := [.ref (a 0)]) S hK hl.1 hW (KFr.nil hW hA) (mX3_in l D c  _ (nmV2 (φ 4) (φ 8 0) (φ 9 0) w lo hi) lo hi) gX3_number_X3_in rfl pdX3_in ⟨⟨rfl, rfl⟩, Nat.le_of_ble_eq_true rfl, Nat.le_of_ble_eq_true rfl⟩ rfl (Nat.le_of_ble_eq_true rfl) dX3_number_153 ⟨Nat.le_of_ble_eq_true rfl, Nat.le_of_ble_eq_true rfl⟩ (fun H locs hW => ?_)
                  have hW : kw D A s.heap (wM c a (pu (pu φ 10 (kc ((nmW1 (φ 4) (φ 8 0) (φ 9 0) w lo hi).toNat))) 9 (kc (nmS2 (φ 4) (φ 8 0) (φ 9 0) w lo hi))) δ) H locs := hW
                  refine kb_ne S (tgt := 163) dX3_number_156 (by decide) (fun c_156 => ?_) (fun c_156 => ?_)
                  · refine lv_iconst (v := nI (0)) S.1 S.2.1 dX3_number_163 rfl ?_
                    refine k_top (y := nI ((nmW2 (φ 4) (φ 8 0) (φ 9 0) w lo hi).toNat)) (k_or0 c_147 c_156) ?_
                    refine kx_put S hK hW hinX3 tyX3_ok nmX3 0 3 rfl rfl 10 (by decide) (List.mem_of_getElem? (i := 3) rfl) rfl (v := .int (nI (nmW2 (φ 4) (φ 8 0) (φ 9 0) w lo hi).toNat)) (k_narB _) (k_fitB _) (Nat.le_of_ble_eq_true rfl) dX3_number_164 (fun H locs hW => ?_)
                    have hW : kw D A s.heap (wM c a (pu (pu φ 9 (kc (nmS2 (φ 4) (φ 8 0) (φ 9 0) w lo hi))) 10 (kc ((nmW2 (φ 4) (φ 8 0) (φ 9 0) w lo hi).toNat))) δ) H locs := hW
                    refine lv_iload_n S.1 S.2.1 dX3_number_167 rfl (lv_at hl 0 rfl) ?_
                    refine k_top (y := nmV2 (φ 4) (φ 8 0) (φ 9 0) w lo hi) (by unfold nmV2; rw [hN]; rfl) ?_
                    exact hret 168 _ _ _ _ _ dX3_number_168 hW (rfl) (rfl)
                  · refine lv_iconst (v := nI (1)) S.1 S.2.1 dX3_number_159 rfl ?_
                    refine k_top (y := nI ((nmW2 (φ 4) (φ 8 0) (φ 9 0) w lo hi).toNat)) (by first | exact k_or1 c_147 | exact k_or2 c_156) ?_
                    refine lv_goto (tgt := 164) S.1 S.2.1 dX3_number_160 (by decide) ?_
                    refine kx_put S hK hW hinX3 tyX3_ok nmX3 0 3 rfl rfl 10 (by decide) (List.mem_of_getElem? (i := 3) rfl) rfl (v := .int (nI (nmW2 (φ 4) (φ 8 0) (φ 9 0) w lo hi).toNat)) (k_narB _) (k_fitB _) (Nat.le_of_ble_eq_true rfl) dX3_number_164 (fun H locs hW => ?_)
                    have hW : kw D A s.heap (wM c a (pu (pu φ 9 (kc (nmS2 (φ 4) (φ 8 0) (φ 9 0) w lo hi))) 10 (kc ((nmW2 (φ 4) (φ 8 0) (φ 9 0) w lo hi).toNat))) δ) H locs := hW
                    refine lv_iload_n S.1 S.2.1 dX3_number_167 rfl (lv_at hl 0 rfl) ?_
                    refine k_top (y := nmV2 (φ 4) (φ 8 0) (φ 9 0) w lo hi) (by unfold nmV2; rw [hN]; rfl) ?_
                    exact hret 168 _ _ _ _ _ dX3_number_168 hW (rfl) (rfl)
        · refine lv_iconst (v := nI (0)) S.1 S.2.1 dX3_number_65 rfl ?_
          refine lv_goto (tgt := 70) S.1 S.2.1 dX3_number_66 (by decide) ?_
          refine kn_iadd S dX3_number_70 ?_
          refine k_top (y := nI (nmS1 (φ 4) (φ 8 0) (φ 9 0) w lo hi)) (congrArg nI (by unfold nmS1; rw [c_62]; rfl)) ?_
          refine kx_put S hK hW hinX3 tyX3_ok nmX3 0 3 rfl rfl 9 (by decide) (List.mem_of_getElem? (i := 2) rfl) rfl (v := .int (nI (nmS1 (φ 4) (φ 8 0) (φ 9 0) w lo hi))) rfl rfl (Nat.le_of_ble_eq_true rfl) dX3_number_71 (fun H locs hW => ?_)
          have hW : kw D A s.heap (wM c a (pu (pu φ 10 (kc ((nmW1 (φ 4) (φ 8 0) (φ 9 0) w lo hi).toNat))) 9 (kc (nmS1 (φ 4) (φ 8 0) (φ 9 0) w lo hi))) δ) H locs := hW
          refine lv_iload_n S.1 S.2.1 dX3_number_74 rfl (lv_at hl 0 rfl) ?_
          refine lv_if_le (tgt := 142) S.1 S.2.1 dX3_number_75 (by decide) (fun c_75 => ?_) (fun c_75 => ?_)
          · have hN : nmN2 (φ 4) (φ 8 0) (φ 9 0) w lo hi = false := by simp [nmN2, c_75]
            have hW : kw D A s.heap (wM c a (pu (pu φ 10 (kc ((nmW1 (φ 4) (φ 8 0) (φ 9 0) w lo hi).toNat))) 9 (kc (nmS2 (φ 4) (φ 8 0) (φ 9 0) w lo hi))) δ) H locs := by (rw [show nmS2 (φ 4) (φ 8 0) (φ 9 0) w lo hi = _ from congrArg (nmS1 (φ 4) (φ 8 0) (φ 9 0) w lo hi + ·) (congrArg Bool.toNat hN)]; exact hW)
            refine lv_aload_n S.1 S.2.1 dX3_number_142 rfl (lv_at hl 1 rfl) ?_
            refine lv_aload_n S.1 S.2.1 dX3_number_143 rfl (lv_at hl 1 rfl) ?_
            refine kx_get S hK hW hinX3 0 3 rfl rfl 10 (by decide) (List.mem_of_getElem? (i := 3) rfl) (v := .int (nI (nmW1 (φ 4) (φ 8 0) (φ 9 0) w lo hi).toNat)) rfl dX3_number_144 ?_
            refine kb_ne S (tgt := 159) dX3_number_147 (by decide) (fun c_147 => ?_) (fun c_147 => ?_)
            · refine lv_iconst (v := nI (1)) S.1 S.2.1 dX3_number_159 rfl ?_
              refine k_top (y := nI ((nmW2 (φ 4) (φ 8 0) (φ 9 0) w lo hi).toNat)) (by first | exact k_or1 c_147 | exact k_or2 c_156) ?_
              refine lv_goto (tgt := 164) S.1 S.2.1 dX3_number_160 (by decide) ?_
              refine kx_put S hK hW hinX3 tyX3_ok nmX3 0 3 rfl rfl 10 (by decide) (List.mem_of_getElem? (i := 3) rfl) rfl (v := .int (nI (nmW2 (φ 4) (φ 8 0) (φ 9 0) w lo hi).toNat)) (k_narB _) (k_fitB _) (Nat.le_of_ble_eq_true rfl) dX3_number_164 (fun H locs hW => ?_)
              have hW : kw D A s.heap (wM c a (pu (pu φ 9 (kc (nmS2 (φ 4) (φ 8 0) (φ 9 0) w lo hi))) 10 (kc ((nmW2 (φ 4) (φ 8 0) (φ 9 0) w lo hi).toNat))) δ) H locs := hW
              refine lv_iload_n S.1 S.2.1 dX3_number_167 rfl (lv_at hl 0 rfl) ?_
              refine k_top (y := nmV2 (φ 4) (φ 8 0) (φ 9 0) w lo hi) (by unfold nmV2; rw [hN]; rfl) ?_
              exact hret 168 _ _ _ _ _ dX3_number_168 hW (rfl) (rfl)
            · exact absurd (c_62.symm.trans c_147) (by decide)
          · refine lv_aload_n S.1 S.2.1 dX3_number_78 rfl (lv_at hl 1 rfl) ?_
            refine lv_bipush (v := nI (48)) S.1 S.2.1 dX3_number_79 rfl ?_
            refine lv_bipush (v := nI (57)) S.1 S.2.1 dX3_number_81 rfl ?_
            refine k_VI (rest := []) S hK hl.1 hW (KFr.all hW hA) (mX3_isNext l D c a ((pu (pu φ 10 (kc ((nmW1 (φ 4) (φ 8 0) (φ 9 0) w lo hi).toNat))) 9 (kc (nmS1 (φ 4) (φ 8 0) (φ 9 0) w lo hi)))) δ _ (nmW1 (φ 4) (φ 8 0) (φ 9 0) w lo hi) (nI (48)) (nI (57)) (by first | omega | exact hw | assumption | (show ((nmW1 (φ 4) (φ 8 0) (φ 9 0) w lo hi).toNat) = (nmW1 (φ 4) (φ 8 0) (φ 9 0) w lo hi).toNat; omega) | rfl) (by first | omega | exact hm | assumption | (show (φ 8 0) ≤ 60; omega) | rfl) (by first | omega | exact hs | assumption | (show (nmS1 (φ 4) (φ 8 0) (φ 9 0) w lo hi) < 1000; omega) | rfl)) gX3_number_X3_isNext rfl pdX3_isNext ⟨⟨rfl, rfl⟩, Nat.le_of_ble_eq_true rfl, Nat.le_of_ble_eq_true rfl⟩ 0 3 rfl rfl rfl rfl (Nat.le_of_ble_eq_true rfl) dX3_number_83 ⟨Nat.le_of_ble_eq_true rfl, Nat.le_of_ble_eq_true rfl⟩ (fun H locs hW => ?_)
            have hW : kw D A s.heap (wM c a (pu (pu φ 10 (kc ((nmW1 (φ 4) (φ 8 0) (φ 9 0) w lo hi).toNat))) 9 (kc (nmS1 (φ 4) (φ 8 0) (φ 9 0) w lo hi))) δ) H locs := hW
            refine k_top (y := nI ((nxb ((φ 4)) ((φ 8 0)) ((nmS1 (φ 4) (φ 8 0) (φ 9 0) w lo hi)) (nmW1 (φ 4) (φ 8 0) (φ 9 0) w lo hi) (nI (48)) (nI (57))).toNat)) rfl ?_
            refine kb_eq S (tgt := 142) dX3_number_86 (by decide) (fun c_86 => ?_) (fun c_86 => ?_)
            · have hN : nmN2 (φ 4) (φ 8 0) (φ 9 0) w lo hi = false := by simp [nmN2, c_86]
              have hW : kw D A s.heap (wM c a (pu (pu φ 10 (kc ((nmW1 (φ 4) (φ 8 0) (φ 9 0) w lo hi).toNat))) 9 (kc (nmS2 (φ 4) (φ 8 0) (φ 9 0) w lo hi))) δ) H locs := by (rw [show nmS2 (φ 4) (φ 8 0) (φ 9 0) w lo hi = _ from congrArg (nmS1 (φ 4) (φ 8 0) (φ 9 0) w lo hi + ·) (congrArg Bool.toNat hN)]; exact hW)
              refine lv_aload_n S.1 S.2.1 dX3_number_142 rfl (lv_at hl 1 rfl) ?_
              refine lv_aload_n S.1 S.2.1 dX3_number_143 rfl (lv_at hl 1 rfl) ?_
              refine kx_get S hK hW hinX3 0 3 rfl rfl 10 (by decide) (List.mem_of_getElem? (i := 3) rfl) (v := .int (nI (nmW1 (φ 4) (φ 8 0) (φ 9 0) w lo hi).toNat)) rfl dX3_number_144 ?_
              refine kb_ne S (tgt := 159) dX3_number_147 (by decide) (fun c_147 => ?_) (fun c_147 => ?_)
              · refine lv_iconst (v := nI (1)) S.1 S.2.1 dX3_number_159 rfl ?_
                refine k_top (y := nI ((nmW2 (φ 4) (φ 8 0) (φ 9 0) w lo hi).toNat)) (by first | exact k_or1 c_147 | exact k_or2 c_156) ?_
                refine lv_goto (tgt := 164) S.1 S.2.1 dX3_number_160 (by decide) ?_
                refine kx_put S hK hW hinX3 tyX3_ok nmX3 0 3 rfl rfl 10 (by decide) (List.mem_of_getElem? (i := 3) rfl) rfl (v := .int (nI (nmW2 (φ 4) (φ 8 0) (φ 9 0) w lo hi).toNat)) (k_narB _) (k_fitB _) (Nat.le_of_ble_eq_true rfl) dX3_number_164 (fun H locs hW => ?_)
                have hW : kw D A s.heap (wM c a (pu (pu φ 9 (kc (nmS2 (φ 4) (φ 8 0) (φ 9 0) w lo hi))) 10 (kc ((nmW2 (φ 4) (φ 8 0) (φ 9 0) w lo hi).toNat))) δ) H locs := hW
                refine lv_iload_n S.1 S.2.1 dX3_number_167 rfl (lv_at hl 0 rfl) ?_
                refine k_top (y := nmV2 (φ 4) (φ 8 0) (φ 9 0) w lo hi) (by unfold nmV2; rw [hN]; rfl) ?_
                exact hret 168 _ _ _ _ _ dX3_number_168 hW (rfl) (rfl)
              · exact absurd (c_62.symm.trans c_147) (by decide)
            · have hlt2 := nxb_lt c_86
              refine lv_bipush (v := nI (10)) S.1 S.2.1 dX3_number_89 rfl ?_
              refine lv_iload_n S.1 S.2.1 dX3_number_91 rfl (lv_at hl 0 rfl) ?_
              refine lv_imul S.1 S.2.1 dX3_number_92 ?_
              refine lv_aload_n S.1 S.2.1 dX3_number_93 rfl (lv_at hl 1 rfl) ?_
              refine kx_get S hK hW hinX3 0 3 rfl rfl 7 (by decide) (List.mem_of_getElem? (i := 1) rfl) (v := .ref (a 5)) rfl dX3_number_94 ?_
              refine lv_aload_n S.1 S.2.1 dX3_number_97 rfl (lv_at hl 1 rfl) ?_
              refine kx_get S hK hW hinX3 0 3 rfl rfl 9 (by decide) (List.mem_of_getElem? (i := 2) rfl) (v := .int (nI (nmS1 (φ 4) (φ 8 0) (φ 9 0) w lo hi))) rfl dX3_number_98 ?_
              refine kn_ald S hK hW 5 (f := φ 4) rfl (by omega) (by decide) dX3_number_101 ?_
              refine lv_iadd S.1 S.2.1 dX3_number_102 ?_
              refine lv_bipush (v := nI (48)) S.1 S.2.1 dX3_number_103 rfl ?_
              refine lv_isub S.1 S.2.1 dX3_number_105 ?_
              refine k_top (y := nmV1 (φ 4) (φ 8 0) (φ 9 0) w lo hi) (rfl) ?_
              refine lv_iload_n S.1 S.2.1 dX3_number_106 rfl (lv_at hl 2 rfl) ?_
              refine lv_iload_n S.1 S.2.1 dX3_number_107 rfl (lv_at hl 3 rfl) ?_
              refine k_SI (rest := []) S hK hl.1 hW (KFr.nil hW hA) (mX3_in l D c  _ (nmV1 (φ 4) (φ 8 0) (φ 9 0) w lo hi) lo hi) gX3_number_X3_in rfl pdX3_in ⟨⟨rfl, rfl⟩, Nat.le_of_ble_eq_true rfl, Nat.le_of_ble_eq_true rfl⟩ rfl (Nat.le_of_ble_eq_true rfl) dX3_number_108 ⟨Nat.le_of_ble_eq_true rfl, Nat.le_of_ble_eq_true rfl⟩ (fun H locs hW => ?_)
              have hW : kw D A s.heap (wM c a (pu (pu φ 10 (kc ((nmW1 (φ 4) (φ 8 0) (φ 9 0) w lo hi).toNat))) 9 (kc (nmS1 (φ 4) (φ 8 0) (φ 9 0) w lo hi))) δ) H locs := hW
              refine kb_eq S (tgt := 142) dX3_number_111 (by decide) (fun c_111 => ?_) (fun c_111 => ?_)
              · have hN : nmN2 (φ 4) (φ 8 0) (φ 9 0) w lo hi = false := by unfold nmN2; rw [show inb (nmV1 (φ 4) (φ 8 0) (φ 9 0) w lo hi) lo hi = false from c_111, Bool.and_false]
                have hW : kw D A s.heap (wM c a (pu (pu φ 10 (kc ((nmW1 (φ 4) (φ 8 0) (φ 9 0) w lo hi).toNat))) 9 (kc (nmS2 (φ 4) (φ 8 0) (φ 9 0) w lo hi))) δ) H locs := by (rw [show nmS2 (φ 4) (φ 8 0) (φ 9 0) w lo hi = _ from congrArg (nmS1 (φ 4) (φ 8 0) (φ 9 0) w lo hi + ·) (congrArg Bool.toNat hN)]; exact hW)
                refine lv_aload_n S.1 S.2.1 dX3_number_142 rfl (lv_at hl 1 rfl) ?_
                refine lv_aload_n S.1 S.2.1 dX3_number_143 rfl (lv_at hl 1 rfl) ?_
                refine kx_get S hK hW hinX3 0 3 rfl rfl 10 (by decide) (List.mem_of_getElem? (i := 3) rfl) (v := .int (nI (nmW1 (φ 4) (φ 8 0) (φ 9 0) w lo hi).toNat)) rfl dX3_number_144 ?_
                refine kb_ne S (tgt := 159) dX3_number_147 (by decide) (fun c_147 => ?_) (fun c_147 => ?_)
                · refine lv_iconst (v := nI (1)) S.1 S.2.1 dX3_number_159 rfl ?_
                  refine k_top (y := nI ((nmW2 (φ 4) (φ 8 0) (φ 9 0) w lo hi).toNat)) (by first | exact k_or1 c_147 | exact k_or2 c_156) ?_
                  refine lv_goto (tgt := 164) S.1 S.2.1 dX3_number_160 (by decide) ?_
                  refine kx_put S hK hW hinX3 tyX3_ok nmX3 0 3 rfl rfl 10 (by decide) (List.mem_of_getElem? (i := 3) rfl) rfl (v := .int (nI (nmW2 (φ 4) (φ 8 0) (φ 9 0) w lo hi).toNat)) (k_narB _) (k_fitB _) (Nat.le_of_ble_eq_true rfl) dX3_number_164 (fun H locs hW => ?_)
                  have hW : kw D A s.heap (wM c a (pu (pu φ 9 (kc (nmS2 (φ 4) (φ 8 0) (φ 9 0) w lo hi))) 10 (kc ((nmW2 (φ 4) (φ 8 0) (φ 9 0) w lo hi).toNat))) δ) H locs := hW
                  refine lv_iload_n S.1 S.2.1 dX3_number_167 rfl (lv_at hl 0 rfl) ?_
                  refine k_top (y := nmV2 (φ 4) (φ 8 0) (φ 9 0) w lo hi) (by unfold nmV2; rw [hN]; rfl) ?_
                  exact hret 168 _ _ _ _ _ dX3_number_168 hW (rfl) (rfl)
                · exact absurd (c_62.symm.trans c_147) (by decide)
              · have hN : nmN2 (φ 4) (φ 8 0) (φ 9 0) w lo hi = true := by unfold nmN2; rw [show inb (nmV1 (φ 4) (φ 8 0) (φ 9 0) w lo hi) lo hi = true from c_111, c_86, decide_eq_false c_75]; rfl
                refine lv_bipush (v := nI (10)) S.1 S.2.1 dX3_number_114 rfl ?_
                refine lv_iload_n S.1 S.2.1 dX3_number_116 rfl (lv_at hl 0 rfl) ?_
                refine lv_imul S.1 S.2.1 dX3_number_117 ?_
                refine lv_aload_n S.1 S.2.1 dX3_number_118 rfl (lv_at hl 1 rfl) ?_
                refine kx_get S hK hW hinX3 0 3 rfl rfl 7 (by decide) (List.mem_of_getElem? (i := 1) rfl) (v := .ref (a 5)) rfl dX3_number_119 ?_
                refine lv_aload_n S.1 S.2.1 dX3_number_122 rfl (lv_at hl 1 rfl) ?_
                refine kx_get S hK hW hinX3 0 3 rfl rfl 9 (by decide) (List.mem_of_getElem? (i := 2) rfl) (v := .int (nI (nmS1 (φ 4) (φ 8 0) (φ 9 0) w lo hi))) rfl dX3_number_123 ?_
                refine kn_ald S hK hW 5 (f := φ 4) rfl (by omega) (by decide) dX3_number_126 ?_
                refine lv_iadd S.1 S.2.1 dX3_number_127 ?_
                refine lv_bipush (v := nI (48)) S.1 S.2.1 dX3_number_128 rfl ?_
                refine lv_isub S.1 S.2.1 dX3_number_130 ?_
                refine k_top (y := nmV1 (φ 4) (φ 8 0) (φ 9 0) w lo hi) (rfl) ?_
                refine lv_istore_n (lv' := [(3, .int (nmV1 (φ 4) (φ 8 0) (φ 9 0) w lo hi)), (0, .ref (a 0)), (1, .int (lo)), (2, .int (hi))]) S.1 S.2.1 dX3_number_131 rfl hl (by decide) rfl (fun ls hl => ?_)
                refine lv_aload_n S.1 S.2.1 dX3_number_132 rfl (lv_at hl 1 rfl) ?_
                refine lv_dup S.1 S.2.1 dX3_number_133 rfl ?_
                refine kx_get S hK hW hinX3 0 3 rfl rfl 9 (by decide) (List.mem_of_getElem? (i := 2) rfl) (v := .int (nI (nmS1 (φ 4) (φ 8 0) (φ 9 0) w lo hi))) rfl dX3_number_134 ?_
                refine lv_iconst (v := nI (1)) S.1 S.2.1 dX3_number_137 rfl ?_
                refine kn_iadd S dX3_number_138 ?_
                refine kx_put S hK hW hinX3 tyX3_ok nmX3 0 3 rfl rfl 9 (by decide) (List.mem_of_getElem? (i := 2) rfl) rfl (v := .int (nI (nmS1 (φ 4) (φ 8 0) (φ 9 0) w lo hi + 1))) rfl rfl (Nat.le_of_ble_eq_true rfl) dX3_number_139 (fun H locs hW => ?_)
                have hW : kw D A s.heap (wM c a (pu (pu φ 10 (kc ((nmW1 (φ 4) (φ 8 0) (φ 9 0) w lo hi).toNat))) 9 (kc (nmS1 (φ 4) (φ 8 0) (φ 9 0) w lo hi + 1))) δ) H locs := hW
                have hW : kw D A s.heap (wM c a (pu (pu φ 10 (kc ((nmW1 (φ 4) (φ 8 0) (φ 9 0) w lo hi).toNat))) 9 (kc (nmS2 (φ 4) (φ 8 0) (φ 9 0) w lo hi))) δ) H locs := by (rw [show nmS2 (φ 4) (φ 8 0) (φ 9 0) w lo hi = _ from congrArg (nmS1 (φ 4) (φ 8 0) (φ 9 0) w lo hi + ·) (congrArg Bool.toNat hN)]; exact hW)
                refine lv_aload_n S.1 S.2.1 dX3_number_142 rfl (lv_at hl 1 rfl) ?_
                refine lv_aload_n S.1 S.2.1 dX3_number_143 rfl (lv_at hl 1 rfl) ?_
                refine kx_get S hK hW hinX3 0 3 rfl rfl 10 (by decide) (List.mem_of_getElem? (i := 3) rfl) (v := .int (nI (nmW1 (φ 4) (φ 8 0) (φ 9 0) w lo hi).toNat)) rfl dX3_number_144 ?_
                refine kb_ne S (tgt := 159) dX3_number_147 (by decide) (fun c_147 => ?_) (fun c_147 => ?_)
                · refine lv_iconst (v := nI (1)) S.1 S.2.1 dX3_number_159 rfl ?_
                  refine k_top (y := nI ((nmW2 (φ 4) (φ 8 0) (φ 9 0) w lo hi).toNat)) (by first | exact k_or1 c_147 | exact k_or2 c_156) ?_
                  refine lv_goto (tgt := 164) S.1 S.2.1 dX3_number_160 (by decide) ?_
                  refine kx_put S hK hW hinX3 tyX3_ok nmX3 0 3 rfl rfl 10 (by decide) (List.mem_of_getElem? (i := 3) rfl) rfl (v := .int (nI (nmW2 (φ 4) (φ 8 0) (φ 9 0) w lo hi).toNat)) (k_narB _) (k_fitB _) (Nat.le_of_ble_eq_true rfl) dX3_number_164 (fun H locs hW => ?_)
                  have hW : kw D A s.heap (wM c a (pu (pu φ 9 (kc (nmS2 (φ 4) (φ 8 0) (φ 9 0) w lo hi))) 10 (kc ((nmW2 (φ 4) (φ 8 0) (φ 9 0) w lo hi).toNat))) δ) H locs := hW
                  refine lv_iload_n S.1 S.2.1 dX3_number_167 rfl (lv_at hl 0 rfl) ?_
                  refine k_top (y := nmV2 (φ 4) (φ 8 0) (φ 9 0) w lo hi) (by unfold nmV2; rw [hN]; rfl) ?_
                  exact hret 168 _ _ _ _ _ dX3_number_168 hW (rfl) (rfl)
                · exact absurd (c_62.symm.trans c_147) (by decide)
  · have hlt := nxb_lt c_8
    refine lv_aload_n S.1 S.2.1 dX3_number_11 rfl (lv_at hl 0 rfl) ?_
    refine kx_get S hK hW hinX3 0 3 rfl rfl 7 (by decide) (List.mem_of_getElem? (i := 1) rfl) (v := .ref (a 5)) rfl dX3_number_12 ?_
    refine lv_aload_n S.1 S.2.1 dX3_number_15 rfl (lv_at hl 0 rfl) ?_
    refine kx_get S hK hW hinX3 0 3 rfl rfl 9 (by decide) (List.mem_of_getElem? (i := 2) rfl) (v := .int (nI (φ 9 0))) rfl dX3_number_16 ?_
    refine kn_ald S hK hW 5 (f := φ 4) rfl (by omega) (by decide) dX3_number_19 ?_
    refine lv_bipush (v := nI (48)) S.1 S.2.1 dX3_number_20 rfl ?_
    refine lv_isub S.1 S.2.1 dX3_number_22 ?_
    refine k_top (y := nmV (φ 4) (φ 8 0) (φ 9 0) w) (by unfold nmV; rw [if_pos c_8]) ?_
    refine lv_goto (tgt := 27) S.1 S.2.1 dX3_number_23 (by decide) ?_
    refine lv_istore_n (lv' := [(3, .int (nmV (φ 4) (φ 8 0) (φ 9 0) w)), (0, .ref (a 0)), (1, .int (lo)), (2, .int (hi))]) S.1 S.2.1 dX3_number_27 rfl hl (by decide) rfl (fun ls hl => ?_)
    refine lv_aload_n S.1 S.2.1 dX3_number_28 rfl (lv_at hl 1 rfl) ?_
    refine lv_aload_n S.1 S.2.1 dX3_number_29 rfl (lv_at hl 1 rfl) ?_
    refine kx_get S hK hW hinX3 0 3 rfl rfl 10 (by decide) (List.mem_of_getElem? (i := 3) rfl) (v := .int (nI (φ 10 0))) rfl dX3_number_30 ?_
    refine k_top (y := nI ((w).toNat)) (congrArg nI hw) ?_
    refine kb_ne S (tgt := 45) dX3_number_33 (by decide) (fun c_33 => ?_) (fun c_33 => ?_)
    · refine lv_iconst (v := nI (1)) S.1 S.2.1 dX3_number_45 rfl ?_
      refine k_top (y := nI ((nmW1 (φ 4) (φ 8 0) (φ 9 0) w lo hi).toNat)) (by first | exact k_or1 c_33 | exact k_or2 c_42) ?_
      refine lv_goto (tgt := 50) S.1 S.2.1 dX3_number_46 (by decide) ?_
      refine kx_put S hK hW hinX3 tyX3_ok nmX3 0 3 rfl rfl 10 (by decide) (List.mem_of_getElem? (i := 3) rfl) rfl (v := .int (nI (nmW1 (φ 4) (φ 8 0) (φ 9 0) w lo hi).toNat)) (k_narB _) (k_fitB _) (Nat.le_of_ble_eq_true rfl) dX3_number_50 (fun H locs hW => ?_)
      have hW : kw D A s.heap (wM c a (pu φ 10 (kc ((nmW1 (φ 4) (φ 8 0) (φ 9 0) w lo hi).toNat))) δ) H locs := hW
      refine lv_aload_n S.1 S.2.1 dX3_number_53 rfl (lv_at hl 1 rfl) ?_
      refine lv_dup S.1 S.2.1 dX3_number_54 rfl ?_
      refine kx_get S hK hW hinX3 0 3 rfl rfl 9 (by decide) (List.mem_of_getElem? (i := 2) rfl) (v := .int (nI (φ 9 0))) rfl dX3_number_55 ?_
      refine lv_aload_n S.1 S.2.1 dX3_number_58 rfl (lv_at hl 1 rfl) ?_
      refine kx_get S hK hW hinX3 0 3 rfl rfl 10 (by decide) (List.mem_of_getElem? (i := 3) rfl) (v := .int (nI (nmW1 (φ 4) (φ 8 0) (φ 9 0) w lo hi).toNat)) rfl dX3_number_59 ?_
      refine kb_eq S (tgt := 69) dX3_number_62 (by decide) (fun c_62 => ?_) (fun c_62 => ?_)
      · refine lv_iconst (v := nI (1)) S.1 S.2.1 dX3_number_69 rfl ?_
        refine kn_iadd S dX3_number_70 ?_
        refine k_top (y := nI (nmS1 (φ 4) (φ 8 0) (φ 9 0) w lo hi)) (congrArg nI (by unfold nmS1; rw [c_62]; rfl)) ?_
        refine kx_put S hK hW hinX3 tyX3_ok nmX3 0 3 rfl rfl 9 (by decide) (List.mem_of_getElem? (i := 2) rfl) rfl (v := .int (nI (nmS1 (φ 4) (φ 8 0) (φ 9 0) w lo hi))) rfl rfl (Nat.le_of_ble_eq_true rfl) dX3_number_71 (fun H locs hW => ?_)
        have hW : kw D A s.heap (wM c a (pu (pu φ 10 (kc ((nmW1 (φ 4) (φ 8 0) (φ 9 0) w lo hi).toNat))) 9 (kc (nmS1 (φ 4) (φ 8 0) (φ 9 0) w lo hi))) δ) H locs := hW
        refine lv_iload_n S.1 S.2.1 dX3_number_74 rfl (lv_at hl 0 rfl) ?_
        refine lv_if_le (tgt := 142) S.1 S.2.1 dX3_number_75 (by decide) (fun c_75 => ?_) (fun c_75 => ?_)
        · have hN : nmN2 (φ 4) (φ 8 0) (φ 9 0) w lo hi = false := by simp [nmN2, c_75]
          have hW : kw D A s.heap (wM c a (pu (pu φ 10 (kc ((nmW1 (φ 4) (φ 8 0) (φ 9 0) w lo hi).toNat))) 9 (kc (nmS2 (φ 4) (φ 8 0) (φ 9 0) w lo hi))) δ) H locs := by (rw [show nmS2 (φ 4) (φ 8 0) (φ 9 0) w lo hi = _ from congrArg (nmS1 (φ 4) (φ 8 0) (φ 9 0) w lo hi + ·) (congrArg Bool.toNat hN)]; exact hW)
          refine lv_aload_n S.1 S.2.1 dX3_number_142 rfl (lv_at hl 1 rfl) ?_
          refine lv_aload_n S.1 S.2.1 dX3_number_143 rfl (lv_at hl 1 rfl) ?_
          refine kx_get S hK hW hinX3 0 3 rfl rfl 10 (by decide) (List.mem_of_getElem? (i := 3) rfl) (v := .int (nI (nmW1 (φ 4) (φ 8 0) (φ 9 0) w lo hi).toNat)) rfl dX3_number_144 ?_
          refine kb_ne S (tgt := 159) dX3_number_147 (by decide) (fun c_147 => ?_) (fun c_147 => ?_)
          · exact absurd (c_62.symm.trans c_147) (by decide)
          · refine lv_iload_n S.1 S.2.1 dX3_number_150 rfl (lv_at hl 0 rfl) ?_
            refine k_top (y := nmV2 (φ 4) (φ 8 0) (φ 9 0) w lo hi) (by unfold nmV2; rw [hN]; rfl) ?_
            refine lv_iload_n S.1 S.2.1 dX3_number_151 rfl (lv_at hl 2 rfl) ?_
            refine lv_iload_n S.1 S.2.1 dX3_number_152 rfl (lv_at hl 3 rfl) ?_
            refine k_SI (rest := [.ref (a 0)]) S hK hl.1 hW (KFr.nil hW hA) (mX3_in l D c  _ (nmV2 (φ 4) (φ 8 0) (φ 9 0) w lo hi) lo hi) gX3_number_X3_in rfl pdX3_in ⟨⟨rfl, rfl⟩, Nat.le_of_ble_eq_true rfl, Nat.le_of_ble_eq_true rfl⟩ rfl (Nat.le_of_ble_eq_true rfl) dX3_number_153 ⟨Nat.le_of_ble_eq_true rfl, Nat.le_of_ble_eq_true rfl⟩ (fun H locs hW => ?_)
            have hW : kw D A s.heap (wM c a (pu (pu φ 10 (kc ((nmW1 (φ 4) (φ 8 0) (φ 9 0) w lo hi).toNat))) 9 (kc (nmS2 (φ 4) (φ 8 0) (φ 9 0) w lo hi))) δ) H locs := hW
            refine kb_ne S (tgt := 163) dX3_number_156 (by decide) (fun c_156 => ?_) (fun c_156 => ?_)
            · refine lv_iconst (v := nI (0)) S.1 S.2.1 dX3_number_163 rfl ?_
              refine k_top (y := nI ((nmW2 (φ 4) (φ 8 0) (φ 9 0) w lo hi).toNat)) (k_or0 c_147 c_156) ?_
              refine kx_put S hK hW hinX3 tyX3_ok nmX3 0 3 rfl rfl 10 (by decide) (List.mem_of_getElem? (i := 3) rfl) rfl (v := .int (nI (nmW2 (φ 4) (φ 8 0) (φ 9 0) w lo hi).toNat)) (k_narB _) (k_fitB _) (Nat.le_of_ble_eq_true rfl) dX3_number_164 (fun H locs hW => ?_)
              have hW : kw D A s.heap (wM c a (pu (pu φ 9 (kc (nmS2 (φ 4) (φ 8 0) (φ 9 0) w lo hi))) 10 (kc ((nmW2 (φ 4) (φ 8 0) (φ 9 0) w lo hi).toNat))) δ) H locs := hW
              refine lv_iload_n S.1 S.2.1 dX3_number_167 rfl (lv_at hl 0 rfl) ?_
              refine k_top (y := nmV2 (φ 4) (φ 8 0) (φ 9 0) w lo hi) (by unfold nmV2; rw [hN]; rfl) ?_
              exact hret 168 _ _ _ _ _ dX3_number_168 hW (rfl) (rfl)
            · refine lv_iconst (v := nI (1)) S.1 S.2.1 dX3_number_159 rfl ?_
              refine k_top (y := nI ((nmW2 (φ 4) (φ 8 0) (φ 9 0) w lo hi).toNat)) (by first | exact k_or1 c_147 | exact k_or2 c_156) ?_
              refine lv_goto (tgt := 164) S.1 S.2.1 dX3_number_160 (by decide) ?_
              refine kx_put S hK hW hinX3 tyX3_ok nmX3 0 3 rfl rfl 10 (by decide) (List.mem_of_getElem? (i := 3) rfl) rfl (v := .int (nI (nmW2 (φ 4) (φ 8 0) (φ 9 0) w lo hi).toNat)) (k_narB _) (k_fitB _) (Nat.le_of_ble_eq_true rfl) dX3_number_164 (fun H locs hW => ?_)
              have hW : kw D A s.heap (wM c a (pu (pu φ 9 (kc (nmS2 (φ 4) (φ 8 0) (φ 9 0) w lo hi))) 10 (kc ((nmW2 (φ 4) (φ 8 0) (φ 9 0) w lo hi).toNat))) δ) H locs := hW
              refine lv_iload_n S.1 S.2.1 dX3_number_167 rfl (lv_at hl 0 rfl) ?_
              refine k_top (y := nmV2 (φ 4) (φ 8 0) (φ 9 0) w lo hi) (by unfold nmV2; rw [hN]; rfl) ?_
              exact hret 168 _ _ _ _ _ dX3_number_168 hW (rfl) (rfl)
        · refine lv_aload_n S.1 S.2.1 dX3_number_78 rfl (lv_at hl 1 rfl) ?_
          refine lv_bipush (v := nI (48)) S.1 S.2.1 dX3_number_79 rfl ?_
          refine lv_bipush (v := nI (57)) S.1 S.2.1 dX3_number_81 rfl ?_
          refine k_VI (rest := []) S hK hl.1 hW (KFr.all hW hA) (mX3_isNext l D c a ((pu (pu φ 10 (kc ((nmW1 (φ 4) (φ 8 0) (φ 9 0) w lo hi).toNat))) 9 (kc (nmS1 (φ 4) (φ 8 0) (φ 9 0) w lo hi)))) δ _ (nmW1 (φ 4) (φ 8 0) (φ 9 0) w lo hi) (nI (48)) (nI (57)) (by first | omega | exact hw | assumption | (show ((nmW1 (φ 4) (φ 8 0) (φ 9 0) w lo hi).toNat) = (nmW1 (φ 4) (φ 8 0) (φ 9 0) w lo hi).toNat; omega) | rfl) (by first | omega | exact hm | assumption | (show (φ 8 0) ≤ 60; omega) | rfl) (by first | omega | exact hs | assumption | (show (nmS1 (φ 4) (φ 8 0) (φ 9 0) w lo hi) < 1000; omega) | rfl)) gX3_number_X3_isNext rfl pdX3_isNext ⟨⟨rfl, rfl⟩, Nat.le_of_ble_eq_true rfl, Nat.le_of_ble_eq_true rfl⟩ 0 3 rfl rfl rfl rfl (Nat.le_of_ble_eq_true rfl) dX3_number_83 ⟨Nat.le_of_ble_eq_true rfl, Nat.le_of_ble_eq_true rfl⟩ (fun H locs hW => ?_)
          have hW : kw D A s.heap (wM c a (pu (pu φ 10 (kc ((nmW1 (φ 4) (φ 8 0) (φ 9 0) w lo hi).toNat))) 9 (kc (nmS1 (φ 4) (φ 8 0) (φ 9 0) w lo hi))) δ) H locs := hW
          refine k_top (y := nI ((nxb ((φ 4)) ((φ 8 0)) ((nmS1 (φ 4) (φ 8 0) (φ 9 0) w lo hi)) (nmW1 (φ 4) (φ 8 0) (φ 9 0) w lo hi) (nI (48)) (nI (57))).toNat)) rfl ?_
          refine kb_eq S (tgt := 142) dX3_number_86 (by decide) (fun c_86 => ?_) (fun c_86 => ?_)
          · have hN : nmN2 (φ 4) (φ 8 0) (φ 9 0) w lo hi = false := by simp [nmN2, c_86]
            have hW : kw D A s.heap (wM c a (pu (pu φ 10 (kc ((nmW1 (φ 4) (φ 8 0) (φ 9 0) w lo hi).toNat))) 9 (kc (nmS2 (φ 4) (φ 8 0) (φ 9 0) w lo hi))) δ) H locs := by (rw [show nmS2 (φ 4) (φ 8 0) (φ 9 0) w lo hi = _ from congrArg (nmS1 (φ 4) (φ 8 0) (φ 9 0) w lo hi + ·) (congrArg Bool.toNat hN)]; exact hW)
            refine lv_aload_n S.1 S.2.1 dX3_number_142 rfl (lv_at hl 1 rfl) ?_
            refine lv_aload_n S.1 S.2.1 dX3_number_143 rfl (lv_at hl 1 rfl) ?_
            refine kx_get S hK hW hinX3 0 3 rfl rfl 10 (by decide) (List.mem_of_getElem? (i := 3) rfl) (v := .int (nI (nmW1 (φ 4) (φ 8 0) (φ 9 0) w lo hi).toNat)) rfl dX3_number_144 ?_
            refine kb_ne S (tgt := 159) dX3_number_147 (by decide) (fun c_147 => ?_) (fun c_147 => ?_)
            · exact absurd (c_62.symm.trans c_147) (by decide)
            · refine lv_iload_n S.1 S.2.1 dX3_number_150 rfl (lv_at hl 0 rfl) ?_
              refine k_top (y := nmV2 (φ 4) (φ 8 0) (φ 9 0) w lo hi) (by unfold nmV2; rw [hN]; rfl) ?_
              refine lv_iload_n S.1 S.2.1 dX3_number_151 rfl (lv_at hl 2 rfl) ?_
              refine lv_iload_n S.1 S.2.1 dX3_number_152 rfl (lv_at hl 3 rfl) ?_
              refine k_SI (rest := [.ref (a 0)]) S hK hl.1 hW (KFr.nil hW hA) (mX3_in l D c  _ (nmV2 (φ 4) (φ 8 0) (φ 9 0) w lo hi) lo hi) gX3_number_X3_in rfl pdX3_in ⟨⟨rfl, rfl⟩, Nat.le_of_ble_eq_true rfl, Nat.le_of_ble_eq_true rfl⟩ rfl (Nat.le_of_ble_eq_true rfl) dX3_number_153 ⟨Nat.le_of_ble_eq_true rfl, Nat.le_of_ble_eq_true rfl⟩ (fun H locs hW => ?_)
              have hW : kw D A s.heap (wM c a (pu (pu φ 10 (kc ((nmW1 (φ 4) (φ 8 0) (φ 9 0) w lo hi).toNat))) 9 (kc (nmS2 (φ 4) (φ 8 0) (φ 9 0) w lo hi))) δ) H locs := hW
              refine kb_ne S (tgt := 163) dX3_number_156 (by decide) (fun c_156 => ?_) (fun c_156 => ?_)
              · refine lv_iconst (v := nI (0)) S.1 S.2.1 dX3_number_163 rfl ?_
                refine k_top (y := nI ((nmW2 (φ 4) (φ 8 0) (φ 9 0) w lo hi).toNat)) (k_or0 c_147 c_156) ?_
                refine kx_put S hK hW hinX3 tyX3_ok nmX3 0 3 rfl rfl 10 (by decide) (List.mem_of_getElem? (i := 3) rfl) rfl (v := .int (nI (nmW2 (φ 4) (φ 8 0) (φ 9 0) w lo hi).toNat)) (k_narB _) (k_fitB _) (Nat.le_of_ble_eq_true rfl) dX3_number_164 (fun H locs hW => ?_)
                have hW : kw D A s.heap (wM c a (pu (pu φ 9 (kc (nmS2 (φ 4) (φ 8 0) (φ 9 0) w lo hi))) 10 (kc ((nmW2 (φ 4) (φ 8 0) (φ 9 0) w lo hi).toNat))) δ) H locs := hW
                refine lv_iload_n S.1 S.2.1 dX3_number_167 rfl (lv_at hl 0 rfl) ?_
                refine k_top (y := nmV2 (φ 4) (φ 8 0) (φ 9 0) w lo hi) (by unfold nmV2; rw [hN]; rfl) ?_
                exact hret 168 _ _ _ _ _ dX3_number_168 hW (rfl) (rfl)
              · refine lv_iconst (v := nI (1)) S.1 S.2.1 dX3_number_159 rfl ?_
                refine k_top (y := nI ((nmW2 (φ 4) (φ 8 0) (φ 9 0) w lo hi).toNat)) (by first | exact k_or1 c_147 | exact k_or2 c_156) ?_
                refine lv_goto (tgt := 164) S.1 S.2.1 dX3_number_160 (by decide) ?_
                refine kx_put S hK hW hinX3 tyX3_ok nmX3 0 3 rfl rfl 10 (by decide) (List.mem_of_getElem? (i := 3) rfl) rfl (v := .int (nI (nmW2 (φ 4) (φ 8 0) (φ 9 0) w lo hi).toNat)) (k_narB _) (k_fitB _) (Nat.le_of_ble_eq_true rfl) dX3_number_164 (fun H locs hW => ?_)
                have hW : kw D A s.heap (wM c a (pu (pu φ 9 (kc (nmS2 (φ 4) (φ 8 0) (φ 9 0) w lo hi))) 10 (kc ((nmW2 (φ 4) (φ 8 0) (φ 9 0) w lo hi).toNat))) δ) H locs := hW
                refine lv_iload_n S.1 S.2.1 dX3_number_167 rfl (lv_at hl 0 rfl) ?_
                refine k_top (y := nmV2 (φ 4) (φ 8 0) (φ 9 0) w lo hi) (by unfold nmV2; rw [hN]; rfl) ?_
                exact hret 168 _ _ _ _ _ dX3_number_168 hW (rfl) (rfl)
          · have hlt2 := nxb_lt c_86
            refine lv_bipush (v := nI (10)) S.1 S.2.1 dX3_number_89 rfl ?_
            refine lv_iload_n S.1 S.2.1 dX3_number_91 rfl (lv_at hl 0 rfl) ?_
            refine lv_imul S.1 S.2.1 dX3_number_92 ?_
            refine lv_aload_n S.1 S.2.1 dX3_number_93 rfl (lv_at hl 1 rfl) ?_
            refine kx_get S hK hW hinX3 0 3 rfl rfl 7 (by decide) (List.mem_of_getElem? (i := 1) rfl) (v := .ref (a 5)) rfl dX3_number_94 ?_
            refine lv_aload_n S.1 S.2.1 dX3_number_97 rfl (lv_at hl 1 rfl) ?_
            refine kx_get S hK hW hinX3 0 3 rfl rfl 9 (by decide) (List.mem_of_getElem? (i := 2) rfl) (v := .int (nI (nmS1 (φ 4) (φ 8 0) (φ 9 0) w lo hi))) rfl dX3_number_98 ?_
            refine kn_ald S hK hW 5 (f := φ 4) rfl (by omega) (by decide) dX3_number_101 ?_
            refine lv_iadd S.1 S.2.1 dX3_number_102 ?_
            refine lv_bipush (v := nI (48)) S.1 S.2.1 dX3_number_103 rfl ?_
            refine lv_isub S.1 S.2.1 dX3_number_105 ?_
            refine k_top (y := nmV1 (φ 4) (φ 8 0) (φ 9 0) w lo hi) (rfl) ?_
            refine lv_iload_n S.1 S.2.1 dX3_number_106 rfl (lv_at hl 2 rfl) ?_
            refine lv_iload_n S.1 S.2.1 dX3_number_107 rfl (lv_at hl 3 rfl) ?_
            refine k_SI (rest := []) S hK hl.1 hW (KFr.nil hW hA) (mX3_in l D c  _ (nmV1 (φ 4) (φ 8 0) (φ 9 0) w lo hi) lo hi) gX3_number_X3_in rfl pdX3_in ⟨⟨rfl, rfl⟩, Nat.le_of_ble_eq_true rfl, Nat.le_of_ble_eq_true rfl⟩ rfl (Nat.le_of_ble_eq_true rfl) dX3_number_108 ⟨Nat.le_of_ble_eq_true rfl, Nat.le_of_ble_eq_true rfl⟩ (fun H locs hW => ?_)
            have hW : kw D A s.heap (wM c a (pu (pu φ 10 (kc ((nmW1 (φ 4) (φ 8 0) (φ 9 0) w lo hi).toNat))) 9 (kc (nmS1 (φ 4) (φ 8 0) (φ 9 0) w lo hi))) δ) H locs := hW
            refine kb_eq S (tgt := 142) dX3_number_111 (by decide) (fun c_111 => ?_) (fun c_111 => ?_)
            · have hN : nmN2 (φ 4) (φ 8 0) (φ 9 0) w lo hi = false := by unfold nmN2; rw [show inb (nmV1 (φ 4) (φ 8 0) (φ 9 0) w lo hi) lo hi = false from c_111, Bool.and_false]
              have hW : kw D A s.heap (wM c a (pu (pu φ 10 (kc ((nmW1 (φ 4) (φ 8 0) (φ 9 0) w lo hi).toNat))) 9 (kc (nmS2 (φ 4) (φ 8 0) (φ 9 0) w lo hi))) δ) H locs := by (rw [show nmS2 (φ 4) (φ 8 0) (φ 9 0) w lo hi = _ from congrArg (nmS1 (φ 4) (φ 8 0) (φ 9 0) w lo hi + ·) (congrArg Bool.toNat hN)]; exact hW)
              refine lv_aload_n S.1 S.2.1 dX3_number_142 rfl (lv_at hl 1 rfl) ?_
              refine lv_aload_n S.1 S.2.1 dX3_number_143 rfl (lv_at hl 1 rfl) ?_
              refine kx_get S hK hW hinX3 0 3 rfl rfl 10 (by decide) (List.mem_of_getElem? (i := 3) rfl) (v := .int (nI (nmW1 (φ 4) (φ 8 0) (φ 9 0) w lo hi).toNat)) rfl dX3_number_144 ?_
              refine kb_ne S (tgt := 159) dX3_number_147 (by decide) (fun c_147 => ?_) (fun c_147 => ?_)
              · exact absurd (c_62.symm.trans c_147) (by decide)
              · refine lv_iload_n S.1 S.2.1 dX3_number_150 rfl (lv_at hl 0 rfl) ?_
                refine k_top (y := nmV2 (φ 4) (φ 8 0) (φ 9 0) w lo hi) (by unfold nmV2; rw [hN]; rfl) ?_
                refine lv_iload_n S.1 S.2.1 dX3_number_151 rfl (lv_at hl 2 rfl) ?_
                refine lv_iload_n S.1 S.2.1 dX3_number_152 rfl (lv_at hl 3 rfl) ?_
                refine k_SI (rest := [.ref (a 0)]) S hK hl.1 hW (KFr.nil hW hA) (mX3_in l D c  _ (nmV2 (φ 4) (φ 8 0) (φ 9 0) w lo hi) lo hi) gX3_number_X3_in rfl pdX3_in ⟨⟨rfl, rfl⟩, Nat.le_of_ble_eq_true rfl, Nat.le_of_ble_eq_true rfl⟩ rfl (Nat.le_of_ble_eq_true rfl) dX3_number_153 ⟨Nat.le_of_ble_eq_true rfl, Nat.le_of_ble_eq_true rfl⟩ (fun H locs hW => ?_)
                have hW : kw D A s.heap (wM c a (pu (pu φ 10 (kc ((nmW1 (φ 4) (φ 8 0) (φ 9 0) w lo hi).toNat))) 9 (kc (nmS2 (φ 4) (φ 8 0) (φ 9 0) w lo hi))) δ) H locs := hW
                refine kb_ne S (tgt := 163) dX3_number_156 (by decide) (fun c_156 => ?_) (fun c_156 => ?_)
                · refine lv_iconst (v := nI (0)) S.1 S.2.1 dX3_number_163 rfl ?_
                  refine k_top (y := nI ((nmW2 (φ 4) (φ 8 0) (φ 9 0) w lo hi).toNat)) (k_or0 c_147 c_156) ?_
                  refine kx_put S hK hW hinX3 tyX3_ok nmX3 0 3 rfl rfl 10 (by decide) (List.mem_of_getElem? (i := 3) rfl) rfl (v := .int (nI (nmW2 (φ 4) (φ 8 0) (φ 9 0) w lo hi).toNat)) (k_narB _) (k_fitB _) (Nat.le_of_ble_eq_true rfl) dX3_number_164 (fun H locs hW => ?_)
                  have hW : kw D A s.heap (wM c a (pu (pu φ 9 (kc (nmS2 (φ 4) (φ 8 0) (φ 9 0) w lo hi))) 10 (kc ((nmW2 (φ 4) (φ 8 0) (φ 9 0) w lo hi).toNat))) δ) H locs := hW
                  refine lv_iload_n S.1 S.2.1 dX3_number_167 rfl (lv_at hl 0 rfl) ?_
                  refine k_top (y := nmV2 (φ 4) (φ 8 0) (φ 9 0) w lo hi) (by unfold nmV2; rw [hN]; rfl) ?_
                  exact hret 168 _ _ _ _ _ dX3_number_168 hW (rfl) (rfl)
                · refine lv_iconst (v := nI (1)) S.1 S.2.1 dX3_number_159 rfl ?_
                  refine k_top (y := nI ((nmW2 (φ 4) (φ 8 0) (φ 9 0) w lo hi).toNat)) (by first | exact k_or1 c_147 | exact k_or2 c_156) ?_
                  refine lv_goto (tgt := 164) S.1 S.2.1 dX3_number_160 (by decide) ?_
                  refine kx_put S hK hW hinX3 tyX3_ok nmX3 0 3 rfl rfl 10 (by decide) (List.mem_of_getElem? (i := 3) rfl) rfl (v := .int (nI (nmW2 (φ 4) (φ 8 0) (φ 9 0) w lo hi).toNat)) (k_narB _) (k_fitB _) (Nat.le_of_ble_eq_true rfl) dX3_number_164 (fun H locs hW => ?_)
                  have hW : kw D A s.heap (wM c a (pu (pu φ 9 (kc (nmS2 (φ 4) (φ 8 0) (φ 9 0) w lo hi))) 10 (kc ((nmW2 (φ 4) (φ 8 0) (φ 9 0) w lo hi).toNat))) δ) H locs := hW
                  refine lv_iload_n S.1 S.2.1 dX3_number_167 rfl (lv_at hl 0 rfl) ?_
                  refine k_top (y := nmV2 (φ 4) (φ 8 0) (φ 9 0) w lo hi) (by unfold nmV2; rw [hN]; rfl) ?_
                  exact hret 168 _ _ _ _ _ dX3_number_168 hW (rfl) (rfl)
            · have hN : nmN2 (φ 4) (φ 8 0) (φ 9 0) w lo hi = true := by unfold nmN2; rw [show inb (nmV1 (φ 4) (φ 8 0) (φ 9 0) w lo hi) lo hi = true from c_111, c_86, decide_eq_false c_75]; rfl
              refine lv_bipush (v := nI (10)) S.1 S.2.1 dX3_number_114 rfl ?_
              refine lv_iload_n S.1 S.2.1 dX3_number_116 rfl (lv_at hl 0 rfl) ?_
              refine lv_imul S.1 S.2.1 dX3_number_117 ?_
              refine lv_aload_n S.1 S.2.1 dX3_number_118 rfl (lv_at hl 1 rfl) ?_
              refine kx_get S hK hW hinX3 0 3 rfl rfl 7 (by decide) (List.mem_of_getElem? (i := 1) rfl) (v := .ref (a 5)) rfl dX3_number_119 ?_
              refine lv_aload_n S.1 S.2.1 dX3_number_122 rfl (lv_at hl 1 rfl) ?_
              refine kx_get S hK hW hinX3 0 3 rfl rfl 9 (by decide) (List.mem_of_getElem? (i := 2) rfl) (v := .int (nI (nmS1 (φ 4) (φ 8 0) (φ 9 0) w lo hi))) rfl dX3_number_123 ?_
              refine kn_ald S hK hW 5 (f := φ 4) rfl (by omega) (by decide) dX3_number_126 ?_
              refine lv_iadd S.1 S.2.1 dX3_number_127 ?_
              refine lv_bipush (v := nI (48)) S.1 S.2.1 dX3_number_128 rfl ?_
              refine lv_isub S.1 S.2.1 dX3_number_130 ?_
              refine k_top (y := nmV1 (φ 4) (φ 8 0) (φ 9 0) w lo hi) (rfl) ?_
              refine lv_istore_n (lv' := [(3, .int (nmV1 (φ 4) (φ 8 0) (φ 9 0) w lo hi)), (0, .ref (a 0)), (1, .int (lo)), (2, .int (hi))]) S.1 S.2.1 dX3_number_131 rfl hl (by decide) rfl (fun ls hl => ?_)
              refine lv_aload_n S.1 S.2.1 dX3_number_132 rfl (lv_at hl 1 rfl) ?_
              refine lv_dup S.1 S.2.1 dX3_number_133 rfl ?_
              refine kx_get S hK hW hinX3 0 3 rfl rfl 9 (by decide) (List.mem_of_getElem? (i := 2) rfl) (v := .int (nI (nmS1 (φ 4) (φ 8 0) (φ 9 0) w lo hi))) rfl dX3_number_134 ?_
              refine lv_iconst (v := nI (1)) S.1 S.2.1 dX3_number_137 rfl ?_
              refine kn_iadd S dX3_number_138 ?_
              refine kx_put S hK hW hinX3 tyX3_ok nmX3 0 3 rfl rfl 9 (by decide) (List.mem_of_getElem? (i := 2) rfl) rfl (v := .int (nI (nmS1 (φ 4) (φ 8 0) (φ 9 0) w lo hi + 1))) rfl rfl (Nat.le_of_ble_eq_true rfl) dX3_number_139 (fun H locs hW => ?_)
              have hW : kw D A s.heap (wM c a (pu (pu φ 10 (kc ((nmW1 (φ 4) (φ 8 0) (φ 9 0) w lo hi).toNat))) 9 (kc (nmS1 (φ 4) (φ 8 0) (φ 9 0) w lo hi + 1))) δ) H locs := hW
              have hW : kw D A s.heap (wM c a (pu (pu φ 10 (kc ((nmW1 (φ 4) (φ 8 0) (φ 9 0) w lo hi).toNat))) 9 (kc (nmS2 (φ 4) (φ 8 0) (φ 9 0) w lo hi))) δ) H locs := by (rw [show nmS2 (φ 4) (φ 8 0) (φ 9 0) w lo hi = _ from congrArg (nmS1 (φ 4) (φ 8 0) (φ 9 0) w lo hi + ·) (congrArg Bool.toNat hN)]; exact hW)
              refine lv_aload_n S.1 S.2.1 dX3_number_142 rfl (lv_at hl 1 rfl) ?_
              refine lv_aload_n S.1 S.2.1 dX3_number_143 rfl (lv_at hl 1 rfl) ?_
              refine kx_get S hK hW hinX3 0 3 rfl rfl 10 (by decide) (List.mem_of_getElem? (i := 3) rfl) (v := .int (nI (nmW1 (φ 4) (φ 8 0) (φ 9 0) w lo hi).toNat)) rfl dX3_number_144 ?_
              refine kb_ne S (tgt := 159) dX3_number_147 (by decide) (fun c_147 => ?_) (fun c_147 => ?_)
              · exact absurd (c_62.symm.trans c_147) (by decide)
              · refine lv_iload_n S.1 S.2.1 dX3_number_150 rfl (lv_at hl 0 rfl) ?_
                refine k_top (y := nmV2 (φ 4) (φ 8 0) (φ 9 0) w lo hi) (by unfold nmV2; rw [hN]; rfl) ?_
                refine lv_iload_n S.1 S.2.1 dX3_number_151 rfl (lv_at hl 2 rfl) ?_
                refine lv_iload_n S.1 S.2.1 dX3_number_152 rfl (lv_at hl 3 rfl) ?_
                refine k_SI (rest := [.ref (a 0)]) S hK hl.1 hW (KFr.nil hW hA) (mX3_in l D c  _ (nmV2 (φ 4) (φ 8 0) (φ 9 0) w lo hi) lo hi) gX3_number_X3_in rfl pdX3_in ⟨⟨rfl, rfl⟩, Nat.le_of_ble_eq_true rfl, Nat.le_of_ble_eq_true rfl⟩ rfl (Nat.le_of_ble_eq_true rfl) dX3_number_153 ⟨Nat.le_of_ble_eq_true rfl, Nat.le_of_ble_eq_true rfl⟩ (fun H locs hW => ?_)
                have hW : kw D A s.heap (wM c a (pu (pu φ 10 (kc ((nmW1 (φ 4) (φ 8 0) (φ 9 0) w lo hi).toNat))) 9 (kc (nmS2 (φ 4) (φ 8 0) (φ 9 0) w lo hi))) δ) H locs := hW
                refine kb_ne S (tgt := 163) dX3_number_156 (by decide) (fun c_156 => ?_) (fun c_156 => ?_)
                · refine lv_iconst (v := nI (0)) S.1 S.2.1 dX3_number_163 rfl ?_
                  refine k_top (y := nI ((nmW2 (φ 4) (φ 8 0) (φ 9 0) w lo hi).toNat)) (k_or0 c_147 c_156) ?_
                  refine kx_put S hK hW hinX3 tyX3_ok nmX3 0 3 rfl rfl 10 (by decide) (List.mem_of_getElem? (i := 3) rfl) rfl (v := .int (nI (nmW2 (φ 4) (φ 8 0) (φ 9 0) w lo hi).toNat)) (k_narB _) (k_fitB _) (Nat.le_of_ble_eq_true rfl) dX3_number_164 (fun H locs hW => ?_)
                  have hW : kw D A s.heap (wM c a (pu (pu φ 9 (kc (nmS2 (φ 4) (φ 8 0) (φ 9 0) w lo hi))) 10 (kc ((nmW2 (φ 4) (φ 8 0) (φ 9 0) w lo hi).toNat))) δ) H locs := hW
                  refine lv_iload_n S.1 S.2.1 dX3_number_167 rfl (lv_at hl 0 rfl) ?_
                  refine k_top (y := nmV2 (φ 4) (φ 8 0) (φ 9 0) w lo hi) (by unfold nmV2; rw [hN]; rfl) ?_
                  exact hret 168 _ _ _ _ _ dX3_number_168 hW (rfl) (rfl)
                · refine lv_iconst (v := nI (1)) S.1 S.2.1 dX3_number_159 rfl ?_
                  refine k_top (y := nI ((nmW2 (φ 4) (φ 8 0) (φ 9 0) w lo hi).toNat)) (by first | exact k_or1 c_147 | exact k_or2 c_156) ?_
                  refine lv_goto (tgt := 164) S.1 S.2.1 dX3_number_160 (by decide) ?_
                  refine kx_put S hK hW hinX3 tyX3_ok nmX3 0 3 rfl rfl 10 (by decide) (List.mem_of_getElem? (i := 3) rfl) rfl (v := .int (nI (nmW2 (φ 4) (φ 8 0) (φ 9 0) w lo hi).toNat)) (k_narB _) (k_fitB _) (Nat.le_of_ble_eq_true rfl) dX3_number_164 (fun H locs hW => ?_)
                  have hW : kw D A s.heap (wM c a (pu (pu φ 9 (kc (nmS2 (φ 4) (φ 8 0) (φ 9 0) w lo hi))) 10 (kc ((nmW2 (φ 4) (φ 8 0) (φ 9 0) w lo hi).toNat))) δ) H locs := hW
                  refine lv_iload_n S.1 S.2.1 dX3_number_167 rfl (lv_at hl 0 rfl) ?_
                  refine k_top (y := nmV2 (φ 4) (φ 8 0) (φ 9 0) w lo hi) (by unfold nmV2; rw [hN]; rfl) ?_
                  exact hret 168 _ _ _ _ _ dX3_number_168 hW (rfl) (rfl)
      · refine lv_iconst (v := nI (0)) S.1 S.2.1 dX3_number_65 rfl ?_
        refine lv_goto (tgt := 70) S.1 S.2.1 dX3_number_66 (by decide) ?_
        refine kn_iadd S dX3_number_70 ?_
        refine k_top (y := nI (nmS1 (φ 4) (φ 8 0) (φ 9 0) w lo hi)) (congrArg nI (by unfold nmS1; rw [c_62]; rfl)) ?_
        refine kx_put S hK hW hinX3 tyX3_ok nmX3 0 3 rfl rfl 9 (by decide) (List.mem_of_getElem? (i := 2) rfl) rfl (v := .int (nI (nmS1 (φ 4) (φ 8 0) (φ 9 0) w lo hi))) rfl rfl (Nat.le_of_ble_eq_true rfl) dX3_number_71 (fun H locs hW => ?_)
        have hW : kw D A s.heap (wM c a (pu (pu φ 10 (kc ((nmW1 (φ 4) (φ 8 0) (φ 9 0) w lo hi).toNat))) 9 (kc (nmS1 (φ 4) (φ 8 0) (φ 9 0) w lo hi))) δ) H locs := hW
        refine lv_iload_n S.1 S.2.1 dX3_number_74 rfl (lv_at hl 0 rfl) ?_
        refine lv_if_le (tgt := 142) S.1 S.2.1 dX3_number_75 (by decide) (fun c_75 => ?_) (fun c_75 => ?_)
        · have hN : nmN2 (φ 4) (φ 8 0) (φ 9 0) w lo hi = false := by simp [nmN2, c_75]
          have hW : kw D A s.heap (wM c a (pu (pu φ 10 (kc ((nmW1 (φ 4) (φ 8 0) (φ 9 0) w lo hi).toNat))) 9 (kc (nmS2 (φ 4) (φ 8 0) (φ 9 0) w lo hi))) δ) H locs := by (rw [show nmS2 (φ 4) (φ 8 0) (φ 9 0) w lo hi = _ from congrArg (nmS1 (φ 4) (φ 8 0) (φ 9 0) w lo hi + ·) (congrArg Bool.toNat hN)]; exact hW)
          refine lv_aload_n S.1 S.2.1 dX3_number_142 rfl (lv_at hl 1 rfl) ?_
          refine lv_aload_n S.1 S.2.1 dX3_number_143 rfl (lv_at hl 1 rfl) ?_
          refine kx_get S hK hW hinX3 0 3 rfl rfl 10 (by decide) (List.mem_of_getElem? (i := 3) rfl) (v := .int (nI (nmW1 (φ 4) (φ 8 0) (φ 9 0) w lo hi).toNat)) rfl dX3_number_144 ?_
          refine kb_ne S (tgt := 159) dX3_number_147 (by decide) (fun c_147 => ?_) (fun c_147 => ?_)
          · refine lv_iconst (v := nI (1)) S.1 S.2.1 dX3_number_159 rfl ?_
            refine k_top (y := nI ((nmW2 (φ 4) (φ 8 0) (φ 9 0) w lo hi).toNat)) (by first | exact k_or1 c_147 | exact k_or2 c_156) ?_
            refine lv_goto (tgt := 164) S.1 S.2.1 dX3_number_160 (by decide) ?_
            refine kx_put S hK hW hinX3 tyX3_ok nmX3 0 3 rfl rfl 10 (by decide) (List.mem_of_getElem? (i := 3) rfl) rfl (v := .int (nI (nmW2 (φ 4) (φ 8 0) (φ 9 0) w lo hi).toNat)) (k_narB _) (k_fitB _) (Nat.le_of_ble_eq_true rfl) dX3_number_164 (fun H locs hW => ?_)
            have hW : kw D A s.heap (wM c a (pu (pu φ 9 (kc (nmS2 (φ 4) (φ 8 0) (φ 9 0) w lo hi))) 10 (kc ((nmW2 (φ 4) (φ 8 0) (φ 9 0) w lo hi).toNat))) δ) H locs := hW
            refine lv_iload_n S.1 S.2.1 dX3_number_167 rfl (lv_at hl 0 rfl) ?_
            refine k_top (y := nmV2 (φ 4) (φ 8 0) (φ 9 0) w lo hi) (by unfold nmV2; rw [hN]; rfl) ?_
            exact hret 168 _ _ _ _ _ dX3_number_168 hW (rfl) (rfl)
          · exact absurd (c_62.symm.trans c_147) (by decide)
        · refine lv_aload_n S.1 S.2.1 dX3_number_78 rfl (lv_at hl 1 rfl) ?_
          refine lv_bipush (v := nI (48)) S.1 S.2.1 dX3_number_79 rfl ?_
          refine lv_bipush (v := nI (57)) S.1 S.2.1 dX3_number_81 rfl ?_
          refine k_VI (rest := []) S hK hl.1 hW (KFr.all hW hA) (mX3_isNext l D c a ((pu (pu φ 10 (kc ((nmW1 (φ 4) (φ 8 0) (φ 9 0) w lo hi).toNat))) 9 (kc (nmS1 (φ 4) (φ 8 0) (φ 9 0) w lo hi)))) δ _ (nmW1 (φ 4) (φ 8 0) (φ 9 0) w lo hi) (nI (48)) (nI (57)) (by first | omega | exact hw | assumption | (show ((nmW1 (φ 4) (φ 8 0) (φ 9 0) w lo hi).toNat) = (nmW1 (φ 4) (φ 8 0) (φ 9 0) w lo hi).toNat; omega) | rfl) (by first | omega | exact hm | assumption | (show (φ 8 0) ≤ 60; omega) | rfl) (by first | omega | exact hs | assumption | (show (nmS1 (φ 4) (φ 8 0) (φ 9 0) w lo hi) < 1000; omega) | rfl)) gX3_number_X3_isNext rfl pdX3_isNext ⟨⟨rfl, rfl⟩, Nat.le_of_ble_eq_true rfl, Nat.le_of_ble_eq_true rfl⟩ 0 3 rfl rfl rfl rfl (Nat.le_of_ble_eq_true rfl) dX3_number_83 ⟨Nat.le_of_ble_eq_true rfl, Nat.le_of_ble_eq_true rfl⟩ (fun H locs hW => ?_)
          have hW : kw D A s.heap (wM c a (pu (pu φ 10 (kc ((nmW1 (φ 4) (φ 8 0) (φ 9 0) w lo hi).toNat))) 9 (kc (nmS1 (φ 4) (φ 8 0) (φ 9 0) w lo hi))) δ) H locs := hW
          refine k_top (y := nI ((nxb ((φ 4)) ((φ 8 0)) ((nmS1 (φ 4) (φ 8 0) (φ 9 0) w lo hi)) (nmW1 (φ 4) (φ 8 0) (φ 9 0) w lo hi) (nI (48)) (nI (57))).toNat)) rfl ?_
          refine kb_eq S (tgt := 142) dX3_number_86 (by decide) (fun c_86 => ?_) (fun c_86 => ?_)
          · have hN : nmN2 (φ 4) (φ 8 0) (φ 9 0) w lo hi = false := by simp [nmN2, c_86]
            have hW : kw D A s.heap (wM c a (pu (pu φ 10 (kc ((nmW1 (φ 4) (φ 8 0) (φ 9 0) w lo hi).toNat))) 9 (kc (nmS2 (φ 4) (φ 8 0) (φ 9 0) w lo hi))) δ) H locs := by (rw [show nmS2 (φ 4) (φ 8 0) (φ 9 0) w lo hi = _ from congrArg (nmS1 (φ 4) (φ 8 0) (φ 9 0) w lo hi + ·) (congrArg Bool.toNat hN)]; exact hW)
            refine lv_aload_n S.1 S.2.1 dX3_number_142 rfl (lv_at hl 1 rfl) ?_
            refine lv_aload_n S.1 S.2.1 dX3_number_143 rfl (lv_at hl 1 rfl) ?_
            refine kx_get S hK hW hinX3 0 3 rfl rfl 10 (by decide) (List.mem_of_getElem? (i := 3) rfl) (v := .int (nI (nmW1 (φ 4) (φ 8 0) (φ 9 0) w lo hi).toNat)) rfl dX3_number_144 ?_
            refine kb_ne S (tgt := 159) dX3_number_147 (by decide) (fun c_147 => ?_) (fun c_147 => ?_)
            · refine lv_iconst (v := nI (1)) S.1 S.2.1 dX3_number_159 rfl ?_
              refine k_top (y := nI ((nmW2 (φ 4) (φ 8 0) (φ 9 0) w lo hi).toNat)) (by first | exact k_or1 c_147 | exact k_or2 c_156) ?_
              refine lv_goto (tgt := 164) S.1 S.2.1 dX3_number_160 (by decide) ?_
              refine kx_put S hK hW hinX3 tyX3_ok nmX3 0 3 rfl rfl 10 (by decide) (List.mem_of_getElem? (i := 3) rfl) rfl (v := .int (nI (nmW2 (φ 4) (φ 8 0) (φ 9 0) w lo hi).toNat)) (k_narB _) (k_fitB _) (Nat.le_of_ble_eq_true rfl) dX3_number_164 (fun H locs hW => ?_)
              have hW : kw D A s.heap (wM c a (pu (pu φ 9 (kc (nmS2 (φ 4) (φ 8 0) (φ 9 0) w lo hi))) 10 (kc ((nmW2 (φ 4) (φ 8 0) (φ 9 0) w lo hi).toNat))) δ) H locs := hW
              refine lv_iload_n S.1 S.2.1 dX3_number_167 rfl (lv_at hl 0 rfl) ?_
              refine k_top (y := nmV2 (φ 4) (φ 8 0) (φ 9 0) w lo hi) (by unfold nmV2; rw [hN]; rfl) ?_
              exact hret 168 _ _ _ _ _ dX3_number_168 hW (rfl) (rfl)
            · exact absurd (c_62.symm.trans c_147) (by decide)
          · have hlt2 := nxb_lt c_86
            refine lv_bipush (v := nI (10)) S.1 S.2.1 dX3_number_89 rfl ?_
            refine lv_iload_n S.1 S.2.1 dX3_number_91 rfl (lv_at hl 0 rfl) ?_
            refine lv_imul S.1 S.2.1 dX3_number_92 ?_
            refine lv_aload_n S.1 S.2.1 dX3_number_93 rfl (lv_at hl 1 rfl) ?_
            refine kx_get S hK hW hinX3 0 3 rfl rfl 7 (by decide) (List.mem_of_getElem? (i := 1) rfl) (v := .ref (a 5)) rfl dX3_number_94 ?_
            refine lv_aload_n S.1 S.2.1 dX3_number_97 rfl (lv_at hl 1 rfl) ?_
            refine kx_get S hK hW hinX3 0 3 rfl rfl 9 (by decide) (List.mem_of_getElem? (i := 2) rfl) (v := .int (nI (nmS1 (φ 4) (φ 8 0) (φ 9 0) w lo hi))) rfl dX3_number_98 ?_
            refine kn_ald S hK hW 5 (f := φ 4) rfl (by omega) (by decide) dX3_number_101 ?_
            refine lv_iadd S.1 S.2.1 dX3_number_102 ?_
            refine lv_bipush (v := nI (48)) S.1 S.2.1 dX3_number_103 rfl ?_
            refine lv_isub S.1 S.2.1 dX3_number_105 ?_
            refine k_top (y := nmV1 (φ 4) (φ 8 0) (φ 9 0) w lo hi) (rfl) ?_
            refine lv_iload_n S.1 S.2.1 dX3_number_106 rfl (lv_at hl 2 rfl) ?_
            refine lv_iload_n S.1 S.2.1 dX3_number_107 rfl (lv_at hl 3 rfl) ?_
            refine k_SI (rest := []) S hK hl.1 hW (KFr.nil hW hA) (mX3_in l D c  _ (nmV1 (φ 4) (φ 8 0) (φ 9 0) w lo hi) lo hi) gX3_number_X3_in rfl pdX3_in ⟨⟨rfl, rfl⟩, Nat.le_of_ble_eq_true rfl, Nat.le_of_ble_eq_true rfl⟩ rfl (Nat.le_of_ble_eq_true rfl) dX3_number_108 ⟨Nat.le_of_ble_eq_true rfl, Nat.le_of_ble_eq_true rfl⟩ (fun H locs hW => ?_)
            have hW : kw D A s.heap (wM c a (pu (pu φ 10 (kc ((nmW1 (φ 4) (φ 8 0) (φ 9 0) w lo hi).toNat))) 9 (kc (nmS1 (φ 4) (φ 8 0) (φ 9 0) w lo hi))) δ) H locs := hW
            refine kb_eq S (tgt := 142) dX3_number_111 (by decide) (fun c_111 => ?_) (fun c_111 => ?_)
            · have hN : nmN2 (φ 4) (φ 8 0) (φ 9 0) w lo hi = false := by unfold nmN2; rw [show inb (nmV1 (φ 4) (φ 8 0) (φ 9 0) w lo hi) lo hi = false from c_111, Bool.and_false]
              have hW : kw D A s.heap (wM c a (pu (pu φ 10 (kc ((nmW1 (φ 4) (φ 8 0) (φ 9 0) w lo hi).toNat))) 9 (kc (nmS2 (φ 4) (φ 8 0) (φ 9 0) w lo hi))) δ) H locs := by (rw [show nmS2 (φ 4) (φ 8 0) (φ 9 0) w lo hi = _ from congrArg (nmS1 (φ 4) (φ 8 0) (φ 9 0) w lo hi + ·) (congrArg Bool.toNat hN)]; exact hW)
              refine lv_aload_n S.1 S.2.1 dX3_number_142 rfl (lv_at hl 1 rfl) ?_
              refine lv_aload_n S.1 S.2.1 dX3_number_143 rfl (lv_at hl 1 rfl) ?_
              refine kx_get S hK hW hinX3 0 3 rfl rfl 10 (by decide) (List.mem_of_getElem? (i := 3) rfl) (v := .int (nI (nmW1 (φ 4) (φ 8 0) (φ 9 0) w lo hi).toNat)) rfl dX3_number_144 ?_
              refine kb_ne S (tgt := 159) dX3_number_147 (by decide) (fun c_147 => ?_) (fun c_147 => ?_)
              · refine lv_iconst (v := nI (1)) S.1 S.2.1 dX3_number_159 rfl ?_
                refine k_top (y := nI ((nmW2 (φ 4) (φ 8 0) (φ 9 0) w lo hi).toNat)) (by first | exact k_or1 c_147 | exact k_or2 c_156) ?_
                refine lv_goto (tgt := 164) S.1 S.2.1 dX3_number_160 (by decide) ?_
                refine kx_put S hK hW hinX3 tyX3_ok nmX3 0 3 rfl rfl 10 (by decide) (List.mem_of_getElem? (i := 3) rfl) rfl (v := .int (nI (nmW2 (φ 4) (φ 8 0) (φ 9 0) w lo hi).toNat)) (k_narB _) (k_fitB _) (Nat.le_of_ble_eq_true rfl) dX3_number_164 (fun H locs hW => ?_)
                have hW : kw D A s.heap (wM c a (pu (pu φ 9 (kc (nmS2 (φ 4) (φ 8 0) (φ 9 0) w lo hi))) 10 (kc ((nmW2 (φ 4) (φ 8 0) (φ 9 0) w lo hi).toNat))) δ) H locs := hW
                refine lv_iload_n S.1 S.2.1 dX3_number_167 rfl (lv_at hl 0 rfl) ?_
                refine k_top (y := nmV2 (φ 4) (φ 8 0) (φ 9 0) w lo hi) (by unfold nmV2; rw [hN]; rfl) ?_
                exact hret 168 _ _ _ _ _ dX3_number_168 hW (rfl) (rfl)
              · exact absurd (c_62.symm.trans c_147) (by decide)
            · have hN : nmN2 (φ 4) (φ 8 0) (φ 9 0) w lo hi = true := by unfold nmN2; rw [show inb (nmV1 (φ 4) (φ 8 0) (φ 9 0) w lo hi) lo hi = true from c_111, c_86, decide_eq_false c_75]; rfl
              refine lv_bipush (v := nI (10)) S.1 S.2.1 dX3_number_114 rfl ?_
              refine lv_iload_n S.1 S.2.1 dX3_number_116 rfl (lv_at hl 0 rfl) ?_
              refine lv_imul S.1 S.2.1 dX3_number_117 ?_
              refine lv_aload_n S.1 S.2.1 dX3_number_118 rfl (lv_at hl 1 rfl) ?_
              refine kx_get S hK hW hinX3 0 3 rfl rfl 7 (by decide) (List.mem_of_getElem? (i := 1) rfl) (v := .ref (a 5)) rfl dX3_number_119 ?_
              refine lv_aload_n S.1 S.2.1 dX3_number_122 rfl (lv_at hl 1 rfl) ?_
              refine kx_get S hK hW hinX3 0 3 rfl rfl 9 (by decide) (List.mem_of_getElem? (i := 2) rfl) (v := .int (nI (nmS1 (φ 4) (φ 8 0) (φ 9 0) w lo hi))) rfl dX3_number_123 ?_
              refine kn_ald S hK hW 5 (f := φ 4) rfl (by omega) (by decide) dX3_number_126 ?_
              refine lv_iadd S.1 S.2.1 dX3_number_127 ?_
              refine lv_bipush (v := nI (48)) S.1 S.2.1 dX3_number_128 rfl ?_
              refine lv_isub S.1 S.2.1 dX3_number_130 ?_
              refine k_top (y := nmV1 (φ 4) (φ 8 0) (φ 9 0) w lo hi) (rfl) ?_
              refine lv_istore_n (lv' := [(3, .int (nmV1 (φ 4) (φ 8 0) (φ 9 0) w lo hi)), (0, .ref (a 0)), (1, .int (lo)), (2, .int (hi))]) S.1 S.2.1 dX3_number_131 rfl hl (by decide) rfl (fun ls hl => ?_)
              refine lv_aload_n S.1 S.2.1 dX3_number_132 rfl (lv_at hl 1 rfl) ?_
              refine lv_dup S.1 S.2.1 dX3_number_133 rfl ?_
              refine kx_get S hK hW hinX3 0 3 rfl rfl 9 (by decide) (List.mem_of_getElem? (i := 2) rfl) (v := .int (nI (nmS1 (φ 4) (φ 8 0) (φ 9 0) w lo hi))) rfl dX3_number_134 ?_
              refine lv_iconst (v := nI (1)) S.1 S.2.1 dX3_number_137 rfl ?_
              refine kn_iadd S dX3_number_138 ?_
              refine kx_put S hK hW hinX3 tyX3_ok nmX3 0 3 rfl rfl 9 (by decide) (List.mem_of_getElem? (i := 2) rfl) rfl (v := .int (nI (nmS1 (φ 4) (φ 8 0) (φ 9 0) w lo hi + 1))) rfl rfl (Nat.le_of_ble_eq_true rfl) dX3_number_139 (fun H locs hW => ?_)
              have hW : kw D A s.heap (wM c a (pu (pu φ 10 (kc ((nmW1 (φ 4) (φ 8 0) (φ 9 0) w lo hi).toNat))) 9 (kc (nmS1 (φ 4) (φ 8 0) (φ 9 0) w lo hi + 1))) δ) H locs := hW
              have hW : kw D A s.heap (wM c a (pu (pu φ 10 (kc ((nmW1 (φ 4) (φ 8 0) (φ 9 0) w lo hi).toNat))) 9 (kc (nmS2 (φ 4) (φ 8 0) (φ 9 0) w lo hi))) δ) H locs := by (rw [show nmS2 (φ 4) (φ 8 0) (φ 9 0) w lo hi = _ from congrArg (nmS1 (φ 4) (φ 8 0) (φ 9 0) w lo hi + ·) (congrArg Bool.toNat hN)]; exact hW)
              refine lv_aload_n S.1 S.2.1 dX3_number_142 rfl (lv_at hl 1 rfl) ?_
              refine lv_aload_n S.1 S.2.1 dX3_number_143 rfl (lv_at hl 1 rfl) ?_
              refine kx_get S hK hW hinX3 0 3 rfl rfl 10 (by decide) (List.mem_of_getElem? (i := 3) rfl) (v := .int (nI (nmW1 (φ 4) (φ 8 0) (φ 9 0) w lo hi).toNat)) rfl dX3_number_144 ?_
              refine kb_ne S (tgt := 159) dX3_number_147 (by decide) (fun c_147 => ?_) (fun c_147 => ?_)
              · refine lv_iconst (v := nI (1)) S.1 S.2.1 dX3_number_159 rfl ?_
                refine k_top (y := nI ((nmW2 (φ 4) (φ 8 0) (φ 9 0) w lo hi).toNat)) (by first | exact k_or1 c_147 | exact k_or2 c_156) ?_
                refine lv_goto (tgt := 164) S.1 S.2.1 dX3_number_160 (by decide) ?_
                refine kx_put S hK hW hinX3 tyX3_ok nmX3 0 3 rfl rfl 10 (by decide) (List.mem_of_getElem? (i := 3) rfl) rfl (v := .int (nI (nmW2 (φ 4) (φ 8 0) (φ 9 0) w lo hi).toNat)) (k_narB _) (k_fitB _) (Nat.le_of_ble_eq_true rfl) dX3_number_164 (fun H locs hW => ?_)
                have hW : kw D A s.heap (wM c a (pu (pu φ 9 (kc (nmS2 (φ 4) (φ 8 0) (φ 9 0) w lo hi))) 10 (kc ((nmW2 (φ 4) (φ 8 0) (φ 9 0) w lo hi).toNat))) δ) H locs := hW
                refine lv_iload_n S.1 S.2.1 dX3_number_167 rfl (lv_at hl 0 rfl) ?_
                refine k_top (y := nmV2 (φ 4) (φ 8 0) (φ 9 0) w lo hi) (by unfold nmV2; rw [hN]; rfl) ?_
                exact hret 168 _ _ _ _ _ dX3_number_168 hW (rfl) (rfl)
              · exact absurd (c_62.symm.trans c_147) (by decide)
    · refine lv_iload_n S.1 S.2.1 dX3_number_36 rfl (lv_at hl 0 rfl) ?_
      refine lv_iload_n S.1 S.2.1 dX3_number_37 rfl (lv_at hl 2 rfl) ?_
      refine lv_iload_n S.1 S.2.1 dX3_number_38 rfl (lv_at hl 3 rfl) ?_
      refine k_SI (rest := [.ref (a 0)]) S hK hl.1 hW (KFr.nil hW hA) (mX3_begins l D c  _ (nmV (φ 4) (φ 8 0) (φ 9 0) w) lo hi) gX3_number_X3_begins rfl pdX3_begins ⟨⟨rfl, rfl⟩, Nat.le_of_ble_eq_true rfl, Nat.le_of_ble_eq_true rfl⟩ rfl (Nat.le_of_ble_eq_true rfl) dX3_number_39 ⟨Nat.le_of_ble_eq_true rfl, Nat.le_of_ble_eq_true rfl⟩ (fun H locs hW => ?_)
      have hW : kw D A s.heap (wM c a φ δ) H locs := hW
      refine kb_ne S (tgt := 49) dX3_number_42 (by decide) (fun c_42 => ?_) (fun c_42 => ?_)
      · refine lv_iconst (v := nI (0)) S.1 S.2.1 dX3_number_49 rfl ?_
        refine k_top (y := nI ((nmW1 (φ 4) (φ 8 0) (φ 9 0) w lo hi).toNat)) (k_or0 c_33 c_42) ?_
        refine kx_put S hK hW hinX3 tyX3_ok nmX3 0 3 rfl rfl 10 (by decide) (List.mem_of_getElem? (i := 3) rfl) rfl (v := .int (nI (nmW1 (φ 4) (φ 8 0) (φ 9 0) w lo hi).toNat)) (k_narB _) (k_fitB _) (Nat.le_of_ble_eq_true rfl) dX3_number_50 (fun H locs hW => ?_)
        have hW : kw D A s.heap (wM c a (pu φ 10 (kc ((nmW1 (φ 4) (φ 8 0) (φ 9 0) w lo hi).toNat))) δ) H locs := hW
        refine lv_aload_n S.1 S.2.1 dX3_number_53 rfl (lv_at hl 1 rfl) ?_
        refine lv_dup S.1 S.2.1 dX3_number_54 rfl ?_
        refine kx_get S hK hW hinX3 0 3 rfl rfl 9 (by decide) (List.mem_of_getElem? (i := 2) rfl) (v := .int (nI (φ 9 0))) rfl dX3_number_55 ?_
        refine lv_aload_n S.1 S.2.1 dX3_number_58 rfl (lv_at hl 1 rfl) ?_
        refine kx_get S hK hW hinX3 0 3 rfl rfl 10 (by decide) (List.mem_of_getElem? (i := 3) rfl) (v := .int (nI (nmW1 (φ 4) (φ 8 0) (φ 9 0) w lo hi).toNat)) rfl dX3_number_59 ?_
        refine kb_eq S (tgt := 69) dX3_number_62 (by decide) (fun c_62 => ?_) (fun c_62 => ?_)
        · refine lv_iconst (v := nI (1)) S.1 S.2.1 dX3_number_69 rfl ?_
          refine kn_iadd S dX3_number_70 ?_
          refine k_top (y := nI (nmS1 (φ 4) (φ 8 0) (φ 9 0) w lo hi)) (congrArg nI (by unfold nmS1; rw [c_62]; rfl)) ?_
          refine kx_put S hK hW hinX3 tyX3_ok nmX3 0 3 rfl rfl 9 (by decide) (List.mem_of_getElem? (i := 2) rfl) rfl (v := .int (nI (nmS1 (φ 4) (φ 8 0) (φ 9 0) w lo hi))) rfl rfl (Nat.le_of_ble_eq_true rfl) dX3_number_71 (fun H locs hW => ?_)
          have hW : kw D A s.heap (wM c a (pu (pu φ 10 (kc ((nmW1 (φ 4) (φ 8 0) (φ 9 0) w lo hi).toNat))) 9 (kc (nmS1 (φ 4) (φ 8 0) (φ 9 0) w lo hi))) δ) H locs := hW
          refine lv_iload_n S.1 S.2.1 dX3_number_74 rfl (lv_at hl 0 rfl) ?_
          refine lv_if_le (tgt := 142) S.1 S.2.1 dX3_number_75 (by decide) (fun c_75 => ?_) (fun c_75 => ?_)
          · have hN : nmN2 (φ 4) (φ 8 0) (φ 9 0) w lo hi = false := by simp [nmN2, c_75]
            have hW : kw D A s.heap (wM c a (pu (pu φ 10 (kc ((nmW1 (φ 4) (φ 8 0) (φ 9 0) w lo hi).toNat))) 9 (kc (nmS2 (φ 4) (φ 8 0) (φ 9 0) w lo hi))) δ) H locs := by (rw [show nmS2 (φ 4) (φ 8 0) (φ 9 0) w lo hi = _ from congrArg (nmS1 (φ 4) (φ 8 0) (φ 9 0) w lo hi + ·) (congrArg Bool.toNat hN)]; exact hW)
            refine lv_aload_n S.1 S.2.1 dX3_number_142 rfl (lv_at hl 1 rfl) ?_
            refine lv_aload_n S.1 S.2.1 dX3_number_143 rfl (lv_at hl 1 rfl) ?_
            refine kx_get S hK hW hinX3 0 3 rfl rfl 10 (by decide) (List.mem_of_getElem? (i := 3) rfl) (v := .int (nI (nmW1 (φ 4) (φ 8 0) (φ 9 0) w lo hi).toNat)) rfl dX3_number_144 ?_
            refine kb_ne S (tgt := 159) dX3_number_147 (by decide) (fun c_147 => ?_) (fun c_147 => ?_)
            · exact absurd (c_62.symm.trans c_147) (by decide)
            · refine lv_iload_n S.1 S.2.1 dX3_number_150 rfl (lv_at hl 0 rfl) ?_
              refine k_top (y := nmV2 (φ 4) (φ 8 0) (φ 9 0) w lo hi) (by unfold nmV2; rw [hN]; rfl) ?_
              refine lv_iload_n S.1 S.2.1 dX3_number_151 rfl (lv_at hl 2 rfl) ?_
              refine lv_iload_n S.1 S.2.1 dX3_number_152 rfl (lv_at hl 3 rfl) ?_
              refine k_SI (rest := [.ref (a 0)]) S hK hl.1 hW (KFr.nil hW hA) (mX3_in l D c  _ (nmV2 (φ 4) (φ 8 0) (φ 9 0) w lo hi) lo hi) gX3_number_X3_in rfl pdX3_in ⟨⟨rfl, rfl⟩, Nat.le_of_ble_eq_true rfl, Nat.le_of_ble_eq_true rfl⟩ rfl (Nat.le_of_ble_eq_true rfl) dX3_number_153 ⟨Nat.le_of_ble_eq_true rfl, Nat.le_of_ble_eq_true rfl⟩ (fun H locs hW => ?_)
              have hW : kw D A s.heap (wM c a (pu (pu φ 10 (kc ((nmW1 (φ 4) (φ 8 0) (φ 9 0) w lo hi).toNat))) 9 (kc (nmS2 (φ 4) (φ 8 0) (φ 9 0) w lo hi))) δ) H locs := hW
              refine kb_ne S (tgt := 163) dX3_number_156 (by decide) (fun c_156 => ?_) (fun c_156 => ?_)
              · refine lv_iconst (v := nI (0)) S.1 S.2.1 dX3_number_163 rfl ?_
                refine k_top (y := nI ((nmW2 (φ 4) (φ 8 0) (φ 9 0) w lo hi).toNat)) (k_or0 c_147 c_156) ?_
                refine kx_put S hK hW hinX3 tyX3_ok nmX3 0 3 rfl rfl 10 (by decide) (List.mem_of_getElem? (i := 3) rfl) rfl (v := .int (nI (nmW2 (φ 4) (φ 8 0) (φ 9 0) w lo hi).toNat)) (k_narB _) (k_fitB _) (Nat.le_of_ble_eq_true rfl) dX3_number_164 (fun H locs hW => ?_)
                have hW : kw D A s.heap (wM c a (pu (pu φ 9 (kc (nmS2 (φ 4) (φ 8 0) (φ 9 0) w lo hi))) 10 (kc ((nmW2 (φ 4) (φ 8 0) (φ 9 0) w lo hi).toNat))) δ) H locs := hW
                refine lv_iload_n S.1 S.2.1 dX3_number_167 rfl (lv_at hl 0 rfl) ?_
                refine k_top (y := nmV2 (φ 4) (φ 8 0) (φ 9 0) w lo hi) (by unfold nmV2; rw [hN]; rfl) ?_
                exact hret 168 _ _ _ _ _ dX3_number_168 hW (rfl) (rfl)
              · refine lv_iconst (v := nI (1)) S.1 S.2.1 dX3_number_159 rfl ?_
                refine k_top (y := nI ((nmW2 (φ 4) (φ 8 0) (φ 9 0) w lo hi).toNat)) (by first | exact k_or1 c_147 | exact k_or2 c_156) ?_
                refine lv_goto (tgt := 164) S.1 S.2.1 dX3_number_160 (by decide) ?_
                refine kx_put S hK hW hinX3 tyX3_ok nmX3 0 3 rfl rfl 10 (by decide) (List.mem_of_getElem? (i := 3) rfl) rfl (v := .int (nI (nmW2 (φ 4) (φ 8 0) (φ 9 0) w lo hi).toNat)) (k_narB _) (k_fitB _) (Nat.le_of_ble_eq_true rfl) dX3_number_164 (fun H locs hW => ?_)
                have hW : kw D A s.heap (wM c a (pu (pu φ 9 (kc (nmS2 (φ 4) (φ 8 0) (φ 9 0) w lo hi))) 10 (kc ((nmW2 (φ 4) (φ 8 0) (φ 9 0) w lo hi).toNat))) δ) H locs := hW
                refine lv_iload_n S.1 S.2.1 dX3_number_167 rfl (lv_at hl 0 rfl) ?_
                refine k_top (y := nmV2 (φ 4) (φ 8 0) (φ 9 0) w lo hi) (by unfold nmV2; rw [hN]; rfl) ?_
                exact hret 168 _ _ _ _ _ dX3_number_168 hW (rfl) (rfl)
          · refine lv_aload_n S.1 S.2.1 dX3_number_78 rfl (lv_at hl 1 rfl) ?_
            refine lv_bipush (v := nI (48)) S.1 S.2.1 dX3_number_79 rfl ?_
            refine lv_bipush (v := nI (57)) S.1 S.2.1 dX3_number_81 rfl ?_
            refine k_VI (rest := []) S hK hl.1 hW (KFr.all hW hA) (mX3_isNext l D c a ((pu (pu φ 10 (kc ((nmW1 (φ 4) (φ 8 0) (φ 9 0) w lo hi).toNat))) 9 (kc (nmS1 (φ 4) (φ 8 0) (φ 9 0) w lo hi)))) δ _ (nmW1 (φ 4) (φ 8 0) (φ 9 0) w lo hi) (nI (48)) (nI (57)) (by first | omega | exact hw | assumption | (show ((nmW1 (φ 4) (φ 8 0) (φ 9 0) w lo hi).toNat) = (nmW1 (φ 4) (φ 8 0) (φ 9 0) w lo hi).toNat; omega) | rfl) (by first | omega | exact hm | assumption | (show (φ 8 0) ≤ 60; omega) | rfl) (by first | omega | exact hs | assumption | (show (nmS1 (φ 4) (φ 8 0) (φ 9 0) w lo hi) < 1000; omega) | rfl)) gX3_number_X3_isNext rfl pdX3_isNext ⟨⟨rfl, rfl⟩, Nat.le_of_ble_eq_true rfl, Nat.le_of_ble_eq_true rfl⟩ 0 3 rfl rfl rfl rfl (Nat.le_of_ble_eq_true rfl) dX3_number_83 ⟨Nat.le_of_ble_eq_true rfl, Nat.le_of_ble_eq_true rfl⟩ (fun H locs hW => ?_)
            have hW : kw D A s.heap (wM c a (pu (pu φ 10 (kc ((nmW1 (φ 4) (φ 8 0) (φ 9 0) w lo hi).toNat))) 9 (kc (nmS1 (φ 4) (φ 8 0) (φ 9 0) w lo hi))) δ) H locs := hW
            refine k_top (y := nI ((nxb ((φ 4)) ((φ 8 0)) ((nmS1 (φ 4) (φ 8 0) (φ 9 0) w lo hi)) (nmW1 (φ 4) (φ 8 0) (φ 9 0) w lo hi) (nI (48)) (nI (57))).toNat)) rfl ?_
            refine kb_eq S (tgt := 142) dX3_number_86 (by decide) (fun c_86 => ?_) (fun c_86 => ?_)
            · have hN : nmN2 (φ 4) (φ 8 0) (φ 9 0) w lo hi = false := by simp [nmN2, c_86]
              have hW : kw D A s.heap (wM c a (pu (pu φ 10 (kc ((nmW1 (φ 4) (φ 8 0) (φ 9 0) w lo hi).toNat))) 9 (kc (nmS2 (φ 4) (φ 8 0) (φ 9 0) w lo hi))) δ) H locs := by (rw [show nmS2 (φ 4) (φ 8 0) (φ 9 0) w lo hi = _ from congrArg (nmS1 (φ 4) (φ 8 0) (φ 9 0) w lo hi + ·) (congrArg Bool.toNat hN)]; exact hW)
              refine lv_aload_n S.1 S.2.1 dX3_number_142 rfl (lv_at hl 1 rfl) ?_
              refine lv_aload_n S.1 S.2.1 dX3_number_143 rfl (lv_at hl 1 rfl) ?_
              refine kx_get S hK hW hinX3 0 3 rfl rfl 10 (by decide) (List.mem_of_getElem? (i := 3) rfl) (v := .int (nI (nmW1 (φ 4) (φ 8 0) (φ 9 0) w lo hi).toNat)) rfl dX3_number_144 ?_
              refine kb_ne S (tgt := 159) dX3_number_147 (by decide) (fun c_147 => ?_) (fun c_147 => ?_)
              · exact absurd (c_62.symm.trans c_147) (by decide)
              · refine lv_iload_n S.1 S.2.1 dX3_number_150 rfl (lv_at hl 0 rfl) ?_
                refine k_top (y := nmV2 (φ 4) (φ 8 0) (φ 9 0) w lo hi) (by unfold nmV2; rw [hN]; rfl) ?_
                refine lv_iload_n S.1 S.2.1 dX3_number_151 rfl (lv_at hl 2 rfl) ?_
                refine lv_iload_n S.1 S.2.1 dX3_number_152 rfl (lv_at hl 3 rfl) ?_
                refine k_SI (rest := [.ref (a 0)]) S hK hl.1 hW (KFr.nil hW hA) (mX3_in l D c  _ (nmV2 (φ 4) (φ 8 0) (φ 9 0) w lo hi) lo hi) gX3_number_X3_in rfl pdX3_in ⟨⟨rfl, rfl⟩, Nat.le_of_ble_eq_true rfl, Nat.le_of_ble_eq_true rfl⟩ rfl (Nat.le_of_ble_eq_true rfl) dX3_number_153 ⟨Nat.le_of_ble_eq_true rfl, Nat.le_of_ble_eq_true rfl⟩ (fun H locs hW => ?_)
                have hW : kw D A s.heap (wM c a (pu (pu φ 10 (kc ((nmW1 (φ 4) (φ 8 0) (φ 9 0) w lo hi).toNat))) 9 (kc (nmS2 (φ 4) (φ 8 0) (φ 9 0) w lo hi))) δ) H locs := hW
                refine kb_ne S (tgt := 163) dX3_number_156 (by decide) (fun c_156 => ?_) (fun c_156 => ?_)
                · refine lv_iconst (v := nI (0)) S.1 S.2.1 dX3_number_163 rfl ?_
                  refine k_top (y := nI ((nmW2 (φ 4) (φ 8 0) (φ 9 0) w lo hi).toNat)) (k_or0 c_147 c_156) ?_
                  refine kx_put S hK hW hinX3 tyX3_ok nmX3 0 3 rfl rfl 10 (by decide) (List.mem_of_getElem? (i := 3) rfl) rfl (v := .int (nI (nmW2 (φ 4) (φ 8 0) (φ 9 0) w lo hi).toNat)) (k_narB _) (k_fitB _) (Nat.le_of_ble_eq_true rfl) dX3_number_164 (fun H locs hW => ?_)
                  have hW : kw D A s.heap (wM c a (pu (pu φ 9 (kc (nmS2 (φ 4) (φ 8 0) (φ 9 0) w lo hi))) 10 (kc ((nmW2 (φ 4) (φ 8 0) (φ 9 0) w lo hi).toNat))) δ) H locs := hW
                  refine lv_iload_n S.1 S.2.1 dX3_number_167 rfl (lv_at hl 0 rfl) ?_
                  refine k_top (y := nmV2 (φ 4) (φ 8 0) (φ 9 0) w lo hi) (by unfold nmV2; rw [hN]; rfl) ?_
                  exact hret 168 _ _ _ _ _ dX3_number_168 hW (rfl) (rfl)
                · refine lv_iconst (v := nI (1)) S.1 S.2.1 dX3_number_159 rfl ?_
                  refine k_top (y := nI ((nmW2 (φ 4) (φ 8 0) (φ 9 0) w lo hi).toNat)) (by first | exact k_or1 c_147 | exact k_or2 c_156) ?_
                  refine lv_goto (tgt := 164) S.1 S.2.1 dX3_number_160 (by decide) ?_
                  refine kx_put S hK hW hinX3 tyX3_ok nmX3 0 3 rfl rfl 10 (by decide) (List.mem_of_getElem? (i := 3) rfl) rfl (v := .int (nI (nmW2 (φ 4) (φ 8 0) (φ 9 0) w lo hi).toNat)) (k_narB _) (k_fitB _) (Nat.le_of_ble_eq_true rfl) dX3_number_164 (fun H locs hW => ?_)
                  have hW : kw D A s.heap (wM c a (pu (pu φ 9 (kc (nmS2 (φ 4) (φ 8 0) (φ 9 0) w lo hi))) 10 (kc ((nmW2 (φ 4) (φ 8 0) (φ 9 0) w lo hi).toNat))) δ) H locs := hW
                  refine lv_iload_n S.1 S.2.1 dX3_number_167 rfl (lv_at hl 0 rfl) ?_
                  refine k_top (y := nmV2 (φ 4) (φ 8 0) (φ 9 0) w lo hi) (by unfold nmV2; rw [hN]; rfl) ?_
                  exact hret 168 _ _ _ _ _ dX3_number_168 hW (rfl) (rfl)
            · have hlt2 := nxb_lt c_86
              refine lv_bipush (v := nI (10)) S.1 S.2.1 dX3_number_89 rfl ?_
              refine lv_iload_n S.1 S.2.1 dX3_number_91 rfl (lv_at hl 0 rfl) ?_
              refine lv_imul S.1 S.2.1 dX3_number_92 ?_
              refine lv_aload_n S.1 S.2.1 dX3_number_93 rfl (lv_at hl 1 rfl) ?_
              refine kx_get S hK hW hinX3 0 3 rfl rfl 7 (by decide) (List.mem_of_getElem? (i := 1) rfl) (v := .ref (a 5)) rfl dX3_number_94 ?_
              refine lv_aload_n S.1 S.2.1 dX3_number_97 rfl (lv_at hl 1 rfl) ?_
              refine kx_get S hK hW hinX3 0 3 rfl rfl 9 (by decide) (List.mem_of_getElem? (i := 2) rfl) (v := .int (nI (nmS1 (φ 4) (φ 8 0) (φ 9 0) w lo hi))) rfl dX3_number_98 ?_
              refine kn_ald S hK hW 5 (f := φ 4) rfl (by omega) (by decide) dX3_number_101 ?_
              refine lv_iadd S.1 S.2.1 dX3_number_102 ?_
              refine lv_bipush (v := nI (48)) S.1 S.2.1 dX3_number_103 rfl ?_
              refine lv_isub S.1 S.2.1 dX3_number_105 ?_
              refine k_top (y := nmV1 (φ 4) (φ 8 0) (φ 9 0) w lo hi) (rfl) ?_
              refine lv_iload_n S.1 S.2.1 dX3_number_106 rfl (lv_at hl 2 rfl) ?_
              refine lv_iload_n S.1 S.2.1 dX3_number_107 rfl (lv_at hl 3 rfl) ?_
              refine k_SI (rest := []) S hK hl.1 hW (KFr.nil hW hA) (mX3_in l D c  _ (nmV1 (φ 4) (φ 8 0) (φ 9 0) w lo hi) lo hi) gX3_number_X3_in rfl pdX3_in ⟨⟨rfl, rfl⟩, Nat.le_of_ble_eq_true rfl, Nat.le_of_ble_eq_true rfl⟩ rfl (Nat.le_of_ble_eq_true rfl) dX3_number_108 ⟨Nat.le_of_ble_eq_true rfl, Nat.le_of_ble_eq_true rfl⟩ (fun H locs hW => ?_)
              have hW : kw D A s.heap (wM c a (pu (pu φ 10 (kc ((nmW1 (φ 4) (φ 8 0) (φ 9 0) w lo hi).toNat))) 9 (kc (nmS1 (φ 4) (φ 8 0) (φ 9 0) w lo hi))) δ) H locs := hW
              refine kb_eq S (tgt := 142) dX3_number_111 (by decide) (fun c_111 => ?_) (fun c_111 => ?_)
              · have hN : nmN2 (φ 4) (φ 8 0) (φ 9 0) w lo hi = false := by unfold nmN2; rw [show inb (nmV1 (φ 4) (φ 8 0) (φ 9 0) w lo hi) lo hi = false from c_111, Bool.and_false]
                have hW : kw D A s.heap (wM c a (pu (pu φ 10 (kc ((nmW1 (φ 4) (φ 8 0) (φ 9 0) w lo hi).toNat))) 9 (kc (nmS2 (φ 4) (φ 8 0) (φ 9 0) w lo hi))) δ) H locs := by (rw [show nmS2 (φ 4) (φ 8 0) (φ 9 0) w lo hi = _ from congrArg (nmS1 (φ 4) (φ 8 0) (φ 9 0) w lo hi + ·) (congrArg Bool.toNat hN)]; exact hW)
                refine lv_aload_n S.1 S.2.1 dX3_number_142 rfl (lv_at hl 1 rfl) ?_
                refine lv_aload_n S.1 S.2.1 dX3_number_143 rfl (lv_at hl 1 rfl) ?_
                refine kx_get S hK hW hinX3 0 3 rfl rfl 10 (by decide) (List.mem_of_getElem? (i := 3) rfl) (v := .int (nI (nmW1 (φ 4) (φ 8 0) (φ 9 0) w lo hi).toNat)) rfl dX3_number_144 ?_
                refine kb_ne S (tgt := 159) dX3_number_147 (by decide) (fun c_147 => ?_) (fun c_147 => ?_)
                · exact absurd (c_62.symm.trans c_147) (by decide)
                · refine lv_iload_n S.1 S.2.1 dX3_number_150 rfl (lv_at hl 0 rfl) ?_
                  refine k_top (y := nmV2 (φ 4) (φ 8 0) (φ 9 0) w lo hi) (by unfold nmV2; rw [hN]; rfl) ?_
                  refine lv_iload_n S.1 S.2.1 dX3_number_151 rfl (lv_at hl 2 rfl) ?_
                  refine lv_iload_n S.1 S.2.1 dX3_number_152 rfl (lv_at hl 3 rfl) ?_
                  refine k_SI (rest := [.ref (a 0)]) S hK hl.1 hW (KFr.nil hW hA) (mX3_in l D c  _ (nmV2 (φ 4) (φ 8 0) (φ 9 0) w lo hi) lo hi) gX3_number_X3_in rfl pdX3_in ⟨⟨rfl, rfl⟩, Nat.le_of_ble_eq_true rfl, Nat.le_of_ble_eq_true rfl⟩ rfl (Nat.le_of_ble_eq_true rfl) dX3_number_153 ⟨Nat.le_of_ble_eq_true rfl, Nat.le_of_ble_eq_true rfl⟩ (fun H locs hW => ?_)
                  have hW : kw D A s.heap (wM c a (pu (pu φ 10 (kc ((nmW1 (φ 4) (φ 8 0) (φ 9 0) w lo hi).toNat))) 9 (kc (nmS2 (φ 4) (φ 8 0) (φ 9 0) w lo hi))) δ) H locs := hW
                  refine kb_ne S (tgt := 163) dX3_number_156 (by decide) (fun c_156 => ?_) (fun c_156 => ?_)
                  · refine lv_iconst (v := nI (0)) S.1 S.2.1 dX3_number_163 rfl ?_
                    refine k_top (y := nI ((nmW2 (φ 4) (φ 8 0) (φ 9 0) w lo hi).toNat)) (k_or0 c_147 c_156) ?_
                    refine kx_put S hK hW hinX3 tyX3_ok nmX3 0 3 rfl rfl 10 (by decide) (List.mem_of_getElem? (i := 3) rfl) rfl (v := .int (nI (nmW2 (φ 4) (φ 8 0) (φ 9 0) w lo hi).toNat)) (k_narB _) (k_fitB _) (Nat.le_of_ble_eq_true rfl) dX3_number_164 (fun H locs hW => ?_)
                    have hW : kw D A s.heap (wM c a (pu (pu φ 9 (kc (nmS2 (φ 4) (φ 8 0) (φ 9 0) w lo hi))) 10 (kc ((nmW2 (φ 4) (φ 8 0) (φ 9 0) w lo hi).toNat))) δ) H locs := hW
                    refine lv_iload_n S.1 S.2.1 dX3_number_167 rfl (lv_at hl 0 rfl) ?_
                    refine k_top (y := nmV2 (φ 4) (φ 8 0) (φ 9 0) w lo hi) (by unfold nmV2; rw [hN]; rfl) ?_
                    exact hret 168 _ _ _ _ _ dX3_number_168 hW (rfl) (rfl)
                  · refine lv_iconst (v := nI (1)) S.1 S.2.1 dX3_number_159 rfl ?_
                    refine k_top (y := nI ((nmW2 (φ 4) (φ 8 0) (φ 9 0) w lo hi).toNat)) (by first | exact k_or1 c_147 | exact k_or2 c_156) ?_
                    refine lv_goto (tgt := 164) S.1 S.2.1 dX3_number_160 (by decide) ?_
                    refine kx_put S hK hW hinX3 tyX3_ok nmX3 0 3 rfl rfl 10 (by decide) (List.mem_of_getElem? (i := 3) rfl) rfl (v := .int (nI (nmW2 (φ 4) (φ 8 0) (φ 9 0) w lo hi).toNat)) (k_narB _) (k_fitB _) (Nat.le_of_ble_eq_true rfl) dX3_number_164 (fun H locs hW => ?_)
                    have hW : kw D A s.heap (wM c a (pu (pu φ 9 (kc (nmS2 (φ 4) (φ 8 0) (φ 9 0) w lo hi))) 10 (kc ((nmW2 (φ 4) (φ 8 0) (φ 9 0) w lo hi).toNat))) δ) H locs := hW
                    refine lv_iload_n S.1 S.2.1 dX3_number_167 rfl (lv_at hl 0 rfl) ?_
                    refine k_top (y := nmV2 (φ 4) (φ 8 0) (φ 9 0) w lo hi) (by unfold nmV2; rw [hN]; rfl) ?_
                    exact hret 168 _ _ _ _ _ dX3_number_168 hW (rfl) (rfl)
              · have hN : nmN2 (φ 4) (φ 8 0) (φ 9 0) w lo hi = true := by unfold nmN2; rw [show inb (nmV1 (φ 4) (φ 8 0) (φ 9 0) w lo hi) lo hi = true from c_111, c_86, decide_eq_false c_75]; rfl
                refine lv_bipush (v := nI (10)) S.1 S.2.1 dX3_number_114 rfl ?_
                refine lv_iload_n S.1 S.2.1 dX3_number_116 rfl (lv_at hl 0 rfl) ?_
                refine lv_imul S.1 S.2.1 dX3_number_117 ?_
                refine lv_aload_n S.1 S.2.1 dX3_number_118 rfl (lv_at hl 1 rfl) ?_
                refine kx_get S hK hW hinX3 0 3 rfl rfl 7 (by decide) (List.mem_of_getElem? (i := 1) rfl) (v := .ref (a 5)) rfl dX3_number_119 ?_
                refine lv_aload_n S.1 S.2.1 dX3_number_122 rfl (lv_at hl 1 rfl) ?_
                refine kx_get S hK hW hinX3 0 3 rfl rfl 9 (by decide) (List.mem_of_getElem? (i := 2) rfl) (v := .int (nI (nmS1 (φ 4) (φ 8 0) (φ 9 0) w lo hi))) rfl dX3_number_123 ?_
                refine kn_ald S hK hW 5 (f := φ 4) rfl (by omega) (by decide) dX3_number_126 ?_
                refine lv_iadd S.1 S.2.1 dX3_number_127 ?_
                refine lv_bipush (v := nI (48)) S.1 S.2.1 dX3_number_128 rfl ?_
                refine lv_isub S.1 S.2.1 dX3_number_130 ?_
                refine k_top (y := nmV1 (φ 4) (φ 8 0) (φ 9 0) w lo hi) (rfl) ?_
                refine lv_istore_n (lv' := [(3, .int (nmV1 (φ 4) (φ 8 0) (φ 9 0) w lo hi)), (0, .ref (a 0)), (1, .int (lo)), (2, .int (hi))]) S.1 S.2.1 dX3_number_131 rfl hl (by decide) rfl (fun ls hl => ?_)
                refine lv_aload_n S.1 S.2.1 dX3_number_132 rfl (lv_at hl 1 rfl) ?_
                refine lv_dup S.1 S.2.1 dX3_number_133 rfl ?_
                refine kx_get S hK hW hinX3 0 3 rfl rfl 9 (by decide) (List.mem_of_getElem? (i := 2) rfl) (v := .int (nI (nmS1 (φ 4) (φ 8 0) (φ 9 0) w lo hi))) rfl dX3_number_134 ?_
                refine lv_iconst (v := nI (1)) S.1 S.2.1 dX3_number_137 rfl ?_
                refine kn_iadd S dX3_number_138 ?_
                refine kx_put S hK hW hinX3 tyX3_ok nmX3 0 3 rfl rfl 9 (by decide) (List.mem_of_getElem? (i := 2) rfl) rfl (v := .int (nI (nmS1 (φ 4) (φ 8 0) (φ 9 0) w lo hi + 1))) rfl rfl (Nat.le_of_ble_eq_true rfl) dX3_number_139 (fun H locs hW => ?_)
                have hW : kw D A s.heap (wM c a (pu (pu φ 10 (kc ((nmW1 (φ 4) (φ 8 0) (φ 9 0) w lo hi).toNat))) 9 (kc (nmS1 (φ 4) (φ 8 0) (φ 9 0) w lo hi + 1))) δ) H locs := hW
                have hW : kw D A s.heap (wM c a (pu (pu φ 10 (kc ((nmW1 (φ 4) (φ 8 0) (φ 9 0) w lo hi).toNat))) 9 (kc (nmS2 (φ 4) (φ 8 0) (φ 9 0) w lo hi))) δ) H locs := by (rw [show nmS2 (φ 4) (φ 8 0) (φ 9 0) w lo hi = _ from congrArg (nmS1 (φ 4) (φ 8 0) (φ 9 0) w lo hi + ·) (congrArg Bool.toNat hN)]; exact hW)
                refine lv_aload_n S.1 S.2.1 dX3_number_142 rfl (lv_at hl 1 rfl) ?_
                refine lv_aload_n S.1 S.2.1 dX3_number_143 rfl (lv_at hl 1 rfl) ?_
                refine kx_get S hK hW hinX3 0 3 rfl rfl 10 (by decide) (List.mem_of_getElem? (i := 3) rfl) (v := .int (nI (nmW1 (φ 4) (φ 8 0) (φ 9 0) w lo hi).toNat)) rfl dX3_number_144 ?_
                refine kb_ne S (tgt := 159) dX3_number_147 (by decide) (fun c_147 => ?_) (fun c_147 => ?_)
                · exact absurd (c_62.symm.trans c_147) (by decide)
                · refine lv_iload_n S.1 S.2.1 dX3_number_150 rfl (lv_at hl 0 rfl) ?_
                  refine k_top (y := nmV2 (φ 4) (φ 8 0) (φ 9 0) w lo hi) (by unfold nmV2; rw [hN]; rfl) ?_
                  refine lv_iload_n S.1 S.2.1 dX3_number_151 rfl (lv_at hl 2 rfl) ?_
                  refine lv_iload_n S.1 S.2.1 dX3_number_152 rfl (lv_at hl 3 rfl) ?_
                  refine k_SI (rest := [.ref (a 0)]) S hK hl.1 hW (KFr.nil hW hA) (mX3_in l D c  _ (nmV2 (φ 4) (φ 8 0) (φ 9 0) w lo hi) lo hi) gX3_number_X3_in rfl pdX3_in ⟨⟨rfl, rfl⟩, Nat.le_of_ble_eq_true rfl, Nat.le_of_ble_eq_true rfl⟩ rfl (Nat.le_of_ble_eq_true rfl) dX3_number_153 ⟨Nat.le_of_ble_eq_true rfl, Nat.le_of_ble_eq_true rfl⟩ (fun H locs hW => ?_)
                  have hW : kw D A s.heap (wM c a (pu (pu φ 10 (kc ((nmW1 (φ 4) (φ 8 0) (φ 9 0) w lo hi).toNat))) 9 (kc (nmS2 (φ 4) (φ 8 0) (φ 9 0) w lo hi))) δ) H locs := hW
                  refine kb_ne S (tgt := 163) dX3_number_156 (by decide) (fun c_156 => ?_) (fun c_156 => ?_)
                  · refine lv_iconst (v := nI (0)) S.1 S.2.1 dX3_number_163 rfl ?_
                    refine k_top (y := nI ((nmW2 (φ 4) (φ 8 0) (φ 9 0) w lo hi).toNat)) (k_or0 c_147 c_156) ?_
                    refine kx_put S hK hW hinX3 tyX3_ok nmX3 0 3 rfl rfl 10 (by decide) (List.mem_of_getElem? (i := 3) rfl) rfl (v := .int (nI (nmW2 (φ 4) (φ 8 0) (φ 9 0) w lo hi).toNat)) (k_narB _) (k_fitB _) (Nat.le_of_ble_eq_true rfl) dX3_number_164 (fun H locs hW => ?_)
                    have hW : kw D A s.heap (wM c a (pu (pu φ 9 (kc (nmS2 (φ 4) (φ 8 0) (φ 9 0) w lo hi))) 10 (kc ((nmW2 (φ 4) (φ 8 0) (φ 9 0) w lo hi).toNat))) δ) H locs := hW
                    refine lv_iload_n S.1 S.2.1 dX3_number_167 rfl (lv_at hl 0 rfl) ?_
                    refine k_top (y := nmV2 (φ 4) (φ 8 0) (φ 9 0) w lo hi) (by unfold nmV2; rw [hN]; rfl) ?_
                    exact hret 168 _ _ _ _ _ dX3_number_168 hW (rfl) (rfl)
                  · refine lv_iconst (v := nI (1)) S.1 S.2.1 dX3_number_159 rfl ?_
                    refine k_top (y := nI ((nmW2 (φ 4) (φ 8 0) (φ 9 0) w lo hi).toNat)) (by first | exact k_or1 c_147 | exact k_or2 c_156) ?_
                    refine lv_goto (tgt := 164) S.1 S.2.1 dX3_number_160 (by decide) ?_
                    refine kx_put S hK hW hinX3 tyX3_ok nmX3 0 3 rfl rfl 10 (by decide) (List.mem_of_getElem? (i := 3) rfl) rfl (v := .int (nI (nmW2 (φ 4) (φ 8 0) (φ 9 0) w lo hi).toNat)) (k_narB _) (k_fitB _) (Nat.le_of_ble_eq_true rfl) dX3_number_164 (fun H locs hW => ?_)
                    have hW : kw D A s.heap (wM c a (pu (pu φ 9 (kc (nmS2 (φ 4) (φ 8 0) (φ 9 0) w lo hi))) 10 (kc ((nmW2 (φ 4) (φ 8 0) (φ 9 0) w lo hi).toNat))) δ) H locs := hW
                    refine lv_iload_n S.1 S.2.1 dX3_number_167 rfl (lv_at hl 0 rfl) ?_
                    refine k_top (y := nmV2 (φ 4) (φ 8 0) (φ 9 0) w lo hi) (by unfold nmV2; rw [hN]; rfl) ?_
                    exact hret 168 _ _ _ _ _ dX3_number_168 hW (rfl) (rfl)
        · refine lv_iconst (v := nI (0)) S.1 S.2.1 dX3_number_65 rfl ?_
          refine lv_goto (tgt := 70) S.1 S.2.1 dX3_number_66 (by decide) ?_
          refine kn_iadd S dX3_number_70 ?_
          refine k_top (y := nI (nmS1 (φ 4) (φ 8 0) (φ 9 0) w lo hi)) (congrArg nI (by unfold nmS1; rw [c_62]; rfl)) ?_
          refine kx_put S hK hW hinX3 tyX3_ok nmX3 0 3 rfl rfl 9 (by decide) (List.mem_of_getElem? (i := 2) rfl) rfl (v := .int (nI (nmS1 (φ 4) (φ 8 0) (φ 9 0) w lo hi))) rfl rfl (Nat.le_of_ble_eq_true rfl) dX3_number_71 (fun H locs hW => ?_)
          have hW : kw D A s.heap (wM c a (pu (pu φ 10 (kc ((nmW1 (φ 4) (φ 8 0) (φ 9 0) w lo hi).toNat))) 9 (kc (nmS1 (φ 4) (φ 8 0) (φ 9 0) w lo hi))) δ) H locs := hW
          refine lv_iload_n S.1 S.2.1 dX3_number_74 rfl (lv_at hl 0 rfl) ?_
          refine lv_if_le (tgt := 142) S.1 S.2.1 dX3_number_75 (by decide) (fun c_75 => ?_) (fun c_75 => ?_)
          · have hN : nmN2 (φ 4) (φ 8 0) (φ 9 0) w lo hi = false := by simp [nmN2, c_75]
            have hW : kw D A s.heap (wM c a (pu (pu φ 10 (kc ((nmW1 (φ 4) (φ 8 0) (φ 9 0) w lo hi).toNat))) 9 (kc (nmS2 (φ 4) (φ 8 0) (φ 9 0) w lo hi))) δ) H locs := by (rw [show nmS2 (φ 4) (φ 8 0) (φ 9 0) w lo hi = _ from congrArg (nmS1 (φ 4) (φ 8 0) (φ 9 0) w lo hi + ·) (congrArg Bool.toNat hN)]; exact hW)
            refine lv_aload_n S.1 S.2.1 dX3_number_142 rfl (lv_at hl 1 rfl) ?_
            refine lv_aload_n S.1 S.2.1 dX3_number_143 rfl (lv_at hl 1 rfl) ?_
            refine kx_get S hK hW hinX3 0 3 rfl rfl 10 (by decide) (List.mem_of_getElem? (i := 3) rfl) (v := .int (nI (nmW1 (φ 4) (φ 8 0) (φ 9 0) w lo hi).toNat)) rfl dX3_number_144 ?_
            refine kb_ne S (tgt := 159) dX3_number_147 (by decide) (fun c_147 => ?_) (fun c_147 => ?_)
            · refine lv_iconst (v := nI (1)) S.1 S.2.1 dX3_number_159 rfl ?_
              refine k_top (y := nI ((nmW2 (φ 4) (φ 8 0) (φ 9 0) w lo hi).toNat)) (by first | exact k_or1 c_147 | exact k_or2 c_156) ?_
              refine lv_goto (tgt := 164) S.1 S.2.1 dX3_number_160 (by decide) ?_
              refine kx_put S hK hW hinX3 tyX3_ok nmX3 0 3 rfl rfl 10 (by decide) (List.mem_of_getElem? (i := 3) rfl) rfl (v := .int (nI (nmW2 (φ 4) (φ 8 0) (φ 9 0) w lo hi).toNat)) (k_narB _) (k_fitB _) (Nat.le_of_ble_eq_true rfl) dX3_number_164 (fun H locs hW => ?_)
              have hW : kw D A s.heap (wM c a (pu (pu φ 9 (kc (nmS2 (φ 4) (φ 8 0) (φ 9 0) w lo hi))) 10 (kc ((nmW2 (φ 4) (φ 8 0) (φ 9 0) w lo hi).toNat))) δ) H locs := hW
              refine lv_iload_n S.1 S.2.1 dX3_number_167 rfl (lv_at hl 0 rfl) ?_
              refine k_top (y := nmV2 (φ 4) (φ 8 0) (φ 9 0) w lo hi) (by unfold nmV2; rw [hN]; rfl) ?_
              exact hret 168 _ _ _ _ _ dX3_number_168 hW (rfl) (rfl)
            · exact absurd (c_62.symm.trans c_147) (by decide)
          · refine lv_aload_n S.1 S.2.1 dX3_number_78 rfl (lv_at hl 1 rfl) ?_
            refine lv_bipush (v := nI (48)) S.1 S.2.1 dX3_number_79 rfl ?_
            refine lv_bipush (v := nI (57)) S.1 S.2.1 dX3_number_81 rfl ?_
            refine k_VI (rest := []) S hK hl.1 hW (KFr.all hW hA) (mX3_isNext l D c a ((pu (pu φ 10 (kc ((nmW1 (φ 4) (φ 8 0) (φ 9 0) w lo hi).toNat))) 9 (kc (nmS1 (φ 4) (φ 8 0) (φ 9 0) w lo hi)))) δ _ (nmW1 (φ 4) (φ 8 0) (φ 9 0) w lo hi) (nI (48)) (nI (57)) (by first | omega | exact hw | assumption | (show ((nmW1 (φ 4) (φ 8 0) (φ 9 0) w lo hi).toNat) = (nmW1 (φ 4) (φ 8 0) (φ 9 0) w lo hi).toNat; omega) | rfl) (by first | omega | exact hm | assumption | (show (φ 8 0) ≤ 60; omega) | rfl) (by first | omega | exact hs | assumption | (show (nmS1 (φ 4) (φ 8 0) (φ 9 0) w lo hi) < 1000; omega) | rfl)) gX3_number_X3_isNext rfl pdX3_isNext ⟨⟨rfl, rfl⟩, Nat.le_of_ble_eq_true rfl, Nat.le_of_ble_eq_true rfl⟩ 0 3 rfl rfl rfl rfl (Nat.le_of_ble_eq_true rfl) dX3_number_83 ⟨Nat.le_of_ble_eq_true rfl, Nat.le_of_ble_eq_true rfl⟩ (fun H locs hW => ?_)
            have hW : kw D A s.heap (wM c a (pu (pu φ 10 (kc ((nmW1 (φ 4) (φ 8 0) (φ 9 0) w lo hi).toNat))) 9 (kc (nmS1 (φ 4) (φ 8 0) (φ 9 0) w lo hi))) δ) H locs := hW
            refine k_top (y := nI ((nxb ((φ 4)) ((φ 8 0)) ((nmS1 (φ 4) (φ 8 0) (φ 9 0) w lo hi)) (nmW1 (φ 4) (φ 8 0) (φ 9 0) w lo hi) (nI (48)) (nI (57))).toNat)) rfl ?_
            refine kb_eq S (tgt := 142) dX3_number_86 (by decide) (fun c_86 => ?_) (fun c_86 => ?_)
            · have hN : nmN2 (φ 4) (φ 8 0) (φ 9 0) w lo hi = false := by simp [nmN2, c_86]
              have hW : kw D A s.heap (wM c a (pu (pu φ 10 (kc ((nmW1 (φ 4) (φ 8 0) (φ 9 0) w lo hi).toNat))) 9 (kc (nmS2 (φ 4) (φ 8 0) (φ 9 0) w lo hi))) δ) H locs := by (rw [show nmS2 (φ 4) (φ 8 0) (φ 9 0) w lo hi = _ from congrArg (nmS1 (φ 4) (φ 8 0) (φ 9 0) w lo hi + ·) (congrArg Bool.toNat hN)]; exact hW)
              refine lv_aload_n S.1 S.2.1 dX3_number_142 rfl (lv_at hl 1 rfl) ?_
              refine lv_aload_n S.1 S.2.1 dX3_number_143 rfl (lv_at hl 1 rfl) ?_
              refine kx_get S hK hW hinX3 0 3 rfl rfl 10 (by decide) (List.mem_of_getElem? (i := 3) rfl) (v := .int (nI (nmW1 (φ 4) (φ 8 0) (φ 9 0) w lo hi).toNat)) rfl dX3_number_144 ?_
              refine kb_ne S (tgt := 159) dX3_number_147 (by decide) (fun c_147 => ?_) (fun c_147 => ?_)
              · refine lv_iconst (v := nI (1)) S.1 S.2.1 dX3_number_159 rfl ?_
                refine k_top (y := nI ((nmW2 (φ 4) (φ 8 0) (φ 9 0) w lo hi).toNat)) (by first | exact k_or1 c_147 | exact k_or2 c_156) ?_
                refine lv_goto (tgt := 164) S.1 S.2.1 dX3_number_160 (by decide) ?_
                refine kx_put S hK hW hinX3 tyX3_ok nmX3 0 3 rfl rfl 10 (by decide) (List.mem_of_getElem? (i := 3) rfl) rfl (v := .int (nI (nmW2 (φ 4) (φ 8 0) (φ 9 0) w lo hi).toNat)) (k_narB _) (k_fitB _) (Nat.le_of_ble_eq_true rfl) dX3_number_164 (fun H locs hW => ?_)
                have hW : kw D A s.heap (wM c a (pu (pu φ 9 (kc (nmS2 (φ 4) (φ 8 0) (φ 9 0) w lo hi))) 10 (kc ((nmW2 (φ 4) (φ 8 0) (φ 9 0) w lo hi).toNat))) δ) H locs := hW
                refine lv_iload_n S.1 S.2.1 dX3_number_167 rfl (lv_at hl 0 rfl) ?_
                refine k_top (y := nmV2 (φ 4) (φ 8 0) (φ 9 0) w lo hi) (by unfold nmV2; rw [hN]; rfl) ?_
                exact hret 168 _ _ _ _ _ dX3_number_168 hW (rfl) (rfl)
              · exact absurd (c_62.symm.trans c_147) (by decide)
            · have hlt2 := nxb_lt c_86
              refine lv_bipush (v := nI (10)) S.1 S.2.1 dX3_number_89 rfl ?_
              refine lv_iload_n S.1 S.2.1 dX3_number_91 rfl (lv_at hl 0 rfl) ?_
              refine lv_imul S.1 S.2.1 dX3_number_92 ?_
              refine lv_aload_n S.1 S.2.1 dX3_number_93 rfl (lv_at hl 1 rfl) ?_
              refine kx_get S hK hW hinX3 0 3 rfl rfl 7 (by decide) (List.mem_of_getElem? (i := 1) rfl) (v := .ref (a 5)) rfl dX3_number_94 ?_
              refine lv_aload_n S.1 S.2.1 dX3_number_97 rfl (lv_at hl 1 rfl) ?_
              refine kx_get S hK hW hinX3 0 3 rfl rfl 9 (by decide) (List.mem_of_getElem? (i := 2) rfl) (v := .int (nI (nmS1 (φ 4) (φ 8 0) (φ 9 0) w lo hi))) rfl dX3_number_98 ?_
              refine kn_ald S hK hW 5 (f := φ 4) rfl (by omega) (by decide) dX3_number_101 ?_
              refine lv_iadd S.1 S.2.1 dX3_number_102 ?_
              refine lv_bipush (v := nI (48)) S.1 S.2.1 dX3_number_103 rfl ?_
              refine lv_isub S.1 S.2.1 dX3_number_105 ?_
              refine k_top (y := nmV1 (φ 4) (φ 8 0) (φ 9 0) w lo hi) (rfl) ?_
              refine lv_iload_n S.1 S.2.1 dX3_number_106 rfl (lv_at hl 2 rfl) ?_
              refine lv_iload_n S.1 S.2.1 dX3_number_107 rfl (lv_at hl 3 rfl) ?_
              refine k_SI (rest := []) S hK hl.1 hW (KFr.nil hW hA) (mX3_in l D c  _ (nmV1 (φ 4) (φ 8 0) (φ 9 0) w lo hi) lo hi) gX3_number_X3_in rfl pdX3_in ⟨⟨rfl, rfl⟩, Nat.le_of_ble_eq_true rfl, Nat.le_of_ble_eq_true rfl⟩ rfl (Nat.le_of_ble_eq_true rfl) dX3_number_108 ⟨Nat.le_of_ble_eq_true rfl, Nat.le_of_ble_eq_true rfl⟩ (fun H locs hW => ?_)
              have hW : kw D A s.heap (wM c a (pu (pu φ 10 (kc ((nmW1 (φ 4) (φ 8 0) (φ 9 0) w lo hi).toNat))) 9 (kc (nmS1 (φ 4) (φ 8 0) (φ 9 0) w lo hi))) δ) H locs := hW
              refine kb_eq S (tgt := 142) dX3_number_111 (by decide) (fun c_111 => ?_) (fun c_111 => ?_)
              · have hN : nmN2 (φ 4) (φ 8 0) (φ 9 0) w lo hi = false := by unfold nmN2; rw [show inb (nmV1 (φ 4) (φ 8 0) (φ 9 0) w lo hi) lo hi = false from c_111, Bool.and_false]
                have hW : kw D A s.heap (wM c a (pu (pu φ 10 (kc ((nmW1 (φ 4) (φ 8 0) (φ 9 0) w lo hi).toNat))) 9 (kc (nmS2 (φ 4) (φ 8 0) (φ 9 0) w lo hi))) δ) H locs := by (rw [show nmS2 (φ 4) (φ 8 0) (φ 9 0) w lo hi = _ from congrArg (nmS1 (φ 4) (φ 8 0) (φ 9 0) w lo hi + ·) (congrArg Bool.toNat hN)]; exact hW)
                refine lv_aload_n S.1 S.2.1 dX3_number_142 rfl (lv_at hl 1 rfl) ?_
                refine lv_aload_n S.1 S.2.1 dX3_number_143 rfl (lv_at hl 1 rfl) ?_
                refine kx_get S hK hW hinX3 0 3 rfl rfl 10 (by decide) (List.mem_of_getElem? (i := 3) rfl) (v := .int (nI (nmW1 (φ 4) (φ 8 0) (φ 9 0) w lo hi).toNat)) rfl dX3_number_144 ?_
                refine kb_ne S (tgt := 159) dX3_number_147 (by decide) (fun c_147 => ?_) (fun c_147 => ?_)
                · refine lv_iconst (v := nI (1)) S.1 S.2.1 dX3_number_159 rfl ?_
                  refine k_top (y := nI ((nmW2 (φ 4) (φ 8 0) (φ 9 0) w lo hi).toNat)) (by first | exact k_or1 c_147 | exact k_or2 c_156) ?_
                  refine lv_goto (tgt := 164) S.1 S.2.1 dX3_number_160 (by decide) ?_
                  refine kx_put S hK hW hinX3 tyX3_ok nmX3 0 3 rfl rfl 10 (by decide) (List.mem_of_getElem? (i := 3) rfl) rfl (v := .int (nI (nmW2 (φ 4) (φ 8 0) (φ 9 0) w lo hi).toNat)) (k_narB _) (k_fitB _) (Nat.le_of_ble_eq_true rfl) dX3_number_164 (fun H locs hW => ?_)
                  have hW : kw D A s.heap (wM c a (pu (pu φ 9 (kc (nmS2 (φ 4) (φ 8 0) (φ 9 0) w lo hi))) 10 (kc ((nmW2 (φ 4) (φ 8 0) (φ 9 0) w lo hi).toNat))) δ) H locs := hW
                  refine lv_iload_n S.1 S.2.1 dX3_number_167 rfl (lv_at hl 0 rfl) ?_
                  refine k_top (y := nmV2 (φ 4) (φ 8 0) (φ 9 0) w lo hi) (by unfold nmV2; rw [hN]; rfl) ?_
                  exact hret 168 _ _ _ _ _ dX3_number_168 hW (rfl) (rfl)
                · exact absurd (c_62.symm.trans c_147) (by decide)
              · have hN : nmN2 (φ 4) (φ 8 0) (φ 9 0) w lo hi = true := by unfold nmN2; rw [show inb (nmV1 (φ 4) (φ 8 0) (φ 9 0) w lo hi) lo hi = true from c_111, c_86, decide_eq_false c_75]; rfl
                refine lv_bipush (v := nI (10)) S.1 S.2.1 dX3_number_114 rfl ?_
                refine lv_iload_n S.1 S.2.1 dX3_number_116 rfl (lv_at hl 0 rfl) ?_
                refine lv_imul S.1 S.2.1 dX3_number_117 ?_
                refine lv_aload_n S.1 S.2.1 dX3_number_118 rfl (lv_at hl 1 rfl) ?_
                refine kx_get S hK hW hinX3 0 3 rfl rfl 7 (by decide) (List.mem_of_getElem? (i := 1) rfl) (v := .ref (a 5)) rfl dX3_number_119 ?_
                refine lv_aload_n S.1 S.2.1 dX3_number_122 rfl (lv_at hl 1 rfl) ?_
                refine kx_get S hK hW hinX3 0 3 rfl rfl 9 (by decide) (List.mem_of_getElem? (i := 2) rfl) (v := .int (nI (nmS1 (φ 4) (φ 8 0) (φ 9 0) w lo hi))) rfl dX3_number_123 ?_
                refine kn_ald S hK hW 5 (f := φ 4) rfl (by omega) (by decide) dX3_number_126 ?_
                refine lv_iadd S.1 S.2.1 dX3_number_127 ?_
                refine lv_bipush (v := nI (48)) S.1 S.2.1 dX3_number_128 rfl ?_
                refine lv_isub S.1 S.2.1 dX3_number_130 ?_
                refine k_top (y := nmV1 (φ 4) (φ 8 0) (φ 9 0) w lo hi) (rfl) ?_
                refine lv_istore_n (lv' := [(3, .int (nmV1 (φ 4) (φ 8 0) (φ 9 0) w lo hi)), (0, .ref (a 0)), (1, .int (lo)), (2, .int (hi))]) S.1 S.2.1 dX3_number_131 rfl hl (by decide) rfl (fun ls hl => ?_)
                refine lv_aload_n S.1 S.2.1 dX3_number_132 rfl (lv_at hl 1 rfl) ?_
                refine lv_dup S.1 S.2.1 dX3_number_133 rfl ?_
                refine kx_get S hK hW hinX3 0 3 rfl rfl 9 (by decide) (List.mem_of_getElem? (i := 2) rfl) (v := .int (nI (nmS1 (φ 4) (φ 8 0) (φ 9 0) w lo hi))) rfl dX3_number_134 ?_
                refine lv_iconst (v := nI (1)) S.1 S.2.1 dX3_number_137 rfl ?_
                refine kn_iadd S dX3_number_138 ?_
                refine kx_put S hK hW hinX3 tyX3_ok nmX3 0 3 rfl rfl 9 (by decide) (List.mem_of_getElem? (i := 2) rfl) rfl (v := .int (nI (nmS1 (φ 4) (φ 8 0) (φ 9 0) w lo hi + 1))) rfl rfl (Nat.le_of_ble_eq_true rfl) dX3_number_139 (fun H locs hW => ?_)
                have hW : kw D A s.heap (wM c a (pu (pu φ 10 (kc ((nmW1 (φ 4) (φ 8 0) (φ 9 0) w lo hi).toNat))) 9 (kc (nmS1 (φ 4) (φ 8 0) (φ 9 0) w lo hi + 1))) δ) H locs := hW
                have hW : kw D A s.heap (wM c a (pu (pu φ 10 (kc ((nmW1 (φ 4) (φ 8 0) (φ 9 0) w lo hi).toNat))) 9 (kc (nmS2 (φ 4) (φ 8 0) (φ 9 0) w lo hi))) δ) H locs := by (rw [show nmS2 (φ 4) (φ 8 0) (φ 9 0) w lo hi = _ from congrArg (nmS1 (φ 4) (φ 8 0) (φ 9 0) w lo hi + ·) (congrArg Bool.toNat hN)]; exact hW)
                refine lv_aload_n S.1 S.2.1 dX3_number_142 rfl (lv_at hl 1 rfl) ?_
                refine lv_aload_n S.1 S.2.1 dX3_number_143 rfl (lv_at hl 1 rfl) ?_
                refine kx_get S hK hW hinX3 0 3 rfl rfl 10 (by decide) (List.mem_of_getElem? (i := 3) rfl) (v := .int (nI (nmW1 (φ 4) (φ 8 0) (φ 9 0) w lo hi).toNat)) rfl dX3_number_144 ?_
                refine kb_ne S (tgt := 159) dX3_number_147 (by decide) (fun c_147 => ?_) (fun c_147 => ?_)
                · refine lv_iconst (v := nI (1)) S.1 S.2.1 dX3_number_159 rfl ?_
                  refine k_top (y := nI ((nmW2 (φ 4) (φ 8 0) (φ 9 0) w lo hi).toNat)) (by first | exact k_or1 c_147 | exact k_or2 c_156) ?_
                  refine lv_goto (tgt := 164) S.1 S.2.1 dX3_number_160 (by decide) ?_
                  refine kx_put S hK hW hinX3 tyX3_ok nmX3 0 3 rfl rfl 10 (by decide) (List.mem_of_getElem? (i := 3) rfl) rfl (v := .int (nI (nmW2 (φ 4) (φ 8 0) (φ 9 0) w lo hi).toNat)) (k_narB _) (k_fitB _) (Nat.le_of_ble_eq_true rfl) dX3_number_164 (fun H locs hW => ?_)
                  have hW : kw D A s.heap (wM c a (pu (pu φ 9 (kc (nmS2 (φ 4) (φ 8 0) (φ 9 0) w lo hi))) 10 (kc ((nmW2 (φ 4) (φ 8 0) (φ 9 0) w lo hi).toNat))) δ) H locs := hW
                  refine lv_iload_n S.1 S.2.1 dX3_number_167 rfl (lv_at hl 0 rfl) ?_
                  refine k_top (y := nmV2 (φ 4) (φ 8 0) (φ 9 0) w lo hi) (by unfold nmV2; rw [hN]; rfl) ?_
                  exact hret 168 _ _ _ _ _ dX3_number_168 hW (rfl) (rfl)
                · exact absurd (c_62.symm.trans c_147) (by decide)
      · refine lv_iconst (v := nI (1)) S.1 S.2.1 dX3_number_45 rfl ?_
        refine k_top (y := nI ((nmW1 (φ 4) (φ 8 0) (φ 9 0) w lo hi).toNat)) (by first | exact k_or1 c_33 | exact k_or2 c_42) ?_
        refine lv_goto (tgt := 50) S.1 S.2.1 dX3_number_46 (by decide) ?_
        refine kx_put S hK hW hinX3 tyX3_ok nmX3 0 3 rfl rfl 10 (by decide) (List.mem_of_getElem? (i := 3) rfl) rfl (v := .int (nI (nmW1 (φ 4) (φ 8 0) (φ 9 0) w lo hi).toNat)) (k_narB _) (k_fitB _) (Nat.le_of_ble_eq_true rfl) dX3_number_50 (fun H locs hW => ?_)
        have hW : kw D A s.heap (wM c a (pu φ 10 (kc ((nmW1 (φ 4) (φ 8 0) (φ 9 0) w lo hi).toNat))) δ) H locs := hW
        refine lv_aload_n S.1 S.2.1 dX3_number_53 rfl (lv_at hl 1 rfl) ?_
        refine lv_dup S.1 S.2.1 dX3_number_54 rfl ?_
        refine kx_get S hK hW hinX3 0 3 rfl rfl 9 (by decide) (List.mem_of_getElem? (i := 2) rfl) (v := .int (nI (φ 9 0))) rfl dX3_number_55 ?_
        refine lv_aload_n S.1 S.2.1 dX3_number_58 rfl (lv_at hl 1 rfl) ?_
        refine kx_get S hK hW hinX3 0 3 rfl rfl 10 (by decide) (List.mem_of_getElem? (i := 3) rfl) (v := .int (nI (nmW1 (φ 4) (φ 8 0) (φ 9 0) w lo hi).toNat)) rfl dX3_number_59 ?_
        refine kb_eq S (tgt := 69) dX3_number_62 (by decide) (fun c_62 => ?_) (fun c_62 => ?_)
        · refine lv_iconst (v := nI (1)) S.1 S.2.1 dX3_number_69 rfl ?_
          refine kn_iadd S dX3_number_70 ?_
          refine k_top (y := nI (nmS1 (φ 4) (φ 8 0) (φ 9 0) w lo hi)) (congrArg nI (by unfold nmS1; rw [c_62]; rfl)) ?_
          refine kx_put S hK hW hinX3 tyX3_ok nmX3 0 3 rfl rfl 9 (by decide) (List.mem_of_getElem? (i := 2) rfl) rfl (v := .int (nI (nmS1 (φ 4) (φ 8 0) (φ 9 0) w lo hi))) rfl rfl (Nat.le_of_ble_eq_true rfl) dX3_number_71 (fun H locs hW => ?_)
          have hW : kw D A s.heap (wM c a (pu (pu φ 10 (kc ((nmW1 (φ 4) (φ 8 0) (φ 9 0) w lo hi).toNat))) 9 (kc (nmS1 (φ 4) (φ 8 0) (φ 9 0) w lo hi))) δ) H locs := hW
          refine lv_iload_n S.1 S.2.1 dX3_number_74 rfl (lv_at hl 0 rfl) ?_
          refine lv_if_le (tgt := 142) S.1 S.2.1 dX3_number_75 (by decide) (fun c_75 => ?_) (fun c_75 => ?_)
          · have hN : nmN2 (φ 4) (φ 8 0) (φ 9 0) w lo hi = false := by simp [nmN2, c_75]
            have hW : kw D A s.heap (wM c a (pu (pu φ 10 (kc ((nmW1 (φ 4) (φ 8 0) (φ 9 0) w lo hi).toNat))) 9 (kc (nmS2 (φ 4) (φ 8 0) (φ 9 0) w lo hi))) δ) H locs := by (rw [show nmS2 (φ 4) (φ 8 0) (φ 9 0) w lo hi = _ from congrArg (nmS1 (φ 4) (φ 8 0) (φ 9 0) w lo hi + ·) (congrArg Bool.toNat hN)]; exact hW)
            refine lv_aload_n S.1 S.2.1 dX3_number_142 rfl (lv_at hl 1 rfl) ?_
            refine lv_aload_n S.1 S.2.1 dX3_number_143 rfl (lv_at hl 1 rfl) ?_
            refine kx_get S hK hW hinX3 0 3 rfl rfl 10 (by decide) (List.mem_of_getElem? (i := 3) rfl) (v := .int (nI (nmW1 (φ 4) (φ 8 0) (φ 9 0) w lo hi).toNat)) rfl dX3_number_144 ?_
            refine kb_ne S (tgt := 159) dX3_number_147 (by decide) (fun c_147 => ?_) (fun c_147 => ?_)
            · exact absurd (c_62.symm.trans c_147) (by decide)
            · refine lv_iload_n S.1 S.2.1 dX3_number_150 rfl (lv_at hl 0 rfl) ?_
              refine k_top (y := nmV2 (φ 4) (φ 8 0) (φ 9 0) w lo hi) (by unfold nmV2; rw [hN]; rfl) ?_
              refine lv_iload_n S.1 S.2.1 dX3_number_151 rfl (lv_at hl 2 rfl) ?_
              refine lv_iload_n S.1 S.2.1 dX3_number_152 rfl (lv_at hl 3 rfl) ?_
              refine k_SI (rest := [.ref (a 0)]) S hK hl.1 hW (KFr.nil hW hA) (mX3_in l D c  _ (nmV2 (φ 4) (φ 8 0) (φ 9 0) w lo hi) lo hi) gX3_number_X3_in rfl pdX3_in ⟨⟨rfl, rfl⟩, Nat.le_of_ble_eq_true rfl, Nat.le_of_ble_eq_true rfl⟩ rfl (Nat.le_of_ble_eq_true rfl) dX3_number_153 ⟨Nat.le_of_ble_eq_true rfl, Nat.le_of_ble_eq_true rfl⟩ (fun H locs hW => ?_)
              have hW : kw D A s.heap (wM c a (pu (pu φ 10 (kc ((nmW1 (φ 4) (φ 8 0) (φ 9 0) w lo hi).toNat))) 9 (kc (nmS2 (φ 4) (φ 8 0) (φ 9 0) w lo hi))) δ) H locs := hW
              refine kb_ne S (tgt := 163) dX3_number_156 (by decide) (fun c_156 => ?_) (fun c_156 => ?_)
              · refine lv_iconst (v := nI (0)) S.1 S.2.1 dX3_number_163 rfl ?_
                refine k_top (y := nI ((nmW2 (φ 4) (φ 8 0) (φ 9 0) w lo hi).toNat)) (k_or0 c_147 c_156) ?_
                refine kx_put S hK hW hinX3 tyX3_ok nmX3 0 3 rfl rfl 10 (by decide) (List.mem_of_getElem? (i := 3) rfl) rfl (v := .int (nI (nmW2 (φ 4) (φ 8 0) (φ 9 0) w lo hi).toNat)) (k_narB _) (k_fitB _) (Nat.le_of_ble_eq_true rfl) dX3_number_164 (fun H locs hW => ?_)
                have hW : kw D A s.heap (wM c a (pu (pu φ 9 (kc (nmS2 (φ 4) (φ 8 0) (φ 9 0) w lo hi))) 10 (kc ((nmW2 (φ 4) (φ 8 0) (φ 9 0) w lo hi).toNat))) δ) H locs := hW
                refine lv_iload_n S.1 S.2.1 dX3_number_167 rfl (lv_at hl 0 rfl) ?_
                refine k_top (y := nmV2 (φ 4) (φ 8 0) (φ 9 0) w lo hi) (by unfold nmV2; rw [hN]; rfl) ?_
                exact hret 168 _ _ _ _ _ dX3_number_168 hW (rfl) (rfl)
              · refine lv_iconst (v := nI (1)) S.1 S.2.1 dX3_number_159 rfl ?_
                refine k_top (y := nI ((nmW2 (φ 4) (φ 8 0) (φ 9 0) w lo hi).toNat)) (by first | exact k_or1 c_147 | exact k_or2 c_156) ?_
                refine lv_goto (tgt := 164) S.1 S.2.1 dX3_number_160 (by decide) ?_
                refine kx_put S hK hW hinX3 tyX3_ok nmX3 0 3 rfl rfl 10 (by decide) (List.mem_of_getElem? (i := 3) rfl) rfl (v := .int (nI (nmW2 (φ 4) (φ 8 0) (φ 9 0) w lo hi).toNat)) (k_narB _) (k_fitB _) (Nat.le_of_ble_eq_true rfl) dX3_number_164 (fun H locs hW => ?_)
                have hW : kw D A s.heap (wM c a (pu (pu φ 9 (kc (nmS2 (φ 4) (φ 8 0) (φ 9 0) w lo hi))) 10 (kc ((nmW2 (φ 4) (φ 8 0) (φ 9 0) w lo hi).toNat))) δ) H locs := hW
                refine lv_iload_n S.1 S.2.1 dX3_number_167 rfl (lv_at hl 0 rfl) ?_
                refine k_top (y := nmV2 (φ 4) (φ 8 0) (φ 9 0) w lo hi) (by unfold nmV2; rw [hN]; rfl) ?_
                exact hret 168 _ _ _ _ _ dX3_number_168 hW (rfl) (rfl)
          · refine lv_aload_n S.1 S.2.1 dX3_number_78 rfl (lv_at hl 1 rfl) ?_
            refine lv_bipush (v := nI (48)) S.1 S.2.1 dX3_number_79 rfl ?_
            refine lv_bipush (v := nI (57)) S.1 S.2.1 dX3_number_81 rfl ?_
            refine k_VI (rest := []) S hK hl.1 hW (KFr.all hW hA) (mX3_isNext l D c a ((pu (pu φ 10 (kc ((nmW1 (φ 4) (φ 8 0) (φ 9 0) w lo hi).toNat))) 9 (kc (nmS1 (φ 4) (φ 8 0) (φ 9 0) w lo hi)))) δ _ (nmW1 (φ 4) (φ 8 0) (φ 9 0) w lo hi) (nI (48)) (nI (57)) (by first | omega | exact hw | assumption | (show ((nmW1 (φ 4) (φ 8 0) (φ 9 0) w lo hi).toNat) = (nmW1 (φ 4) (φ 8 0) (φ 9 0) w lo hi).toNat; omega) | rfl) (by first | omega | exact hm | assumption | (show (φ 8 0) ≤ 60; omega) | rfl) (by first | omega | exact hs | assumption | (show (nmS1 (φ 4) (φ 8 0) (φ 9 0) w lo hi) < 1000; omega) | rfl)) gX3_number_X3_isNext rfl pdX3_isNext ⟨⟨rfl, rfl⟩, Nat.le_of_ble_eq_true rfl, Nat.le_of_ble_eq_true rfl⟩ 0 3 rfl rfl rfl rfl (Nat.le_of_ble_eq_true rfl) dX3_number_83 ⟨Nat.le_of_ble_eq_true rfl, Nat.le_of_ble_eq_true rfl⟩ (fun H locs hW => ?_)
            have hW : kw D A s.heap (wM c a (pu (pu φ 10 (kc ((nmW1 (φ 4) (φ 8 0) (φ 9 0) w lo hi).toNat))) 9 (kc (nmS1 (φ 4) (φ 8 0) (φ 9 0) w lo hi))) δ) H locs := hW
            refine k_top (y := nI ((nxb ((φ 4)) ((φ 8 0)) ((nmS1 (φ 4) (φ 8 0) (φ 9 0) w lo hi)) (nmW1 (φ 4) (φ 8 0) (φ 9 0) w lo hi) (nI (48)) (nI (57))).toNat)) rfl ?_
            refine kb_eq S (tgt := 142) dX3_number_86 (by decide) (fun c_86 => ?_) (fun c_86 => ?_)
            · have hN : nmN2 (φ 4) (φ 8 0) (φ 9 0) w lo hi = false := by simp [nmN2, c_86]
              have hW : kw D A s.heap (wM c a (pu (pu φ 10 (kc ((nmW1 (φ 4) (φ 8 0) (φ 9 0) w lo hi).toNat))) 9 (kc (nmS2 (φ 4) (φ 8 0) (φ 9 0) w lo hi))) δ) H locs := by (rw [show nmS2 (φ 4) (φ 8 0) (φ 9 0) w lo hi = _ from congrArg (nmS1 (φ 4) (φ 8 0) (φ 9 0) w lo hi + ·) (congrArg Bool.toNat hN)]; exact hW)
              refine lv_aload_n S.1 S.2.1 dX3_number_142 rfl (lv_at hl 1 rfl) ?_
              refine lv_aload_n S.1 S.2.1 dX3_number_143 rfl (lv_at hl 1 rfl) ?_
              refine kx_get S hK hW hinX3 0 3 rfl rfl 10 (by decide) (List.mem_of_getElem? (i := 3) rfl) (v := .int (nI (nmW1 (φ 4) (φ 8 0) (φ 9 0) w lo hi).toNat)) rfl dX3_number_144 ?_
              refine kb_ne S (tgt := 159) dX3_number_147 (by decide) (fun c_147 => ?_) (fun c_147 => ?_)
              · exact absurd (c_62.symm.trans c_147) (by decide)
              · refine lv_iload_n S.1 S.2.1 dX3_number_150 rfl (lv_at hl 0 rfl) ?_
                refine k_top (y := nmV2 (φ 4) (φ 8 0) (φ 9 0) w lo hi) (by unfold nmV2; rw [hN]; rfl) ?_
                refine lv_iload_n S.1 S.2.1 dX3_number_151 rfl (lv_at hl 2 rfl) ?_
                refine lv_iload_n S.1 S.2.1 dX3_number_152 rfl (lv_at hl 3 rfl) ?_
                refine k_SI (rest := [.ref (a 0)]) S hK hl.1 hW (KFr.nil hW hA) (mX3_in l D c  _ (nmV2 (φ 4) (φ 8 0) (φ 9 0) w lo hi) lo hi) gX3_number_X3_in rfl pdX3_in ⟨⟨rfl, rfl⟩, Nat.le_of_ble_eq_true rfl, Nat.le_of_ble_eq_true rfl⟩ rfl (Nat.le_of_ble_eq_true rfl) dX3_number_153 ⟨Nat.le_of_ble_eq_true rfl, Nat.le_of_ble_eq_true rfl⟩ (fun H locs hW => ?_)
                have hW : kw D A s.heap (wM c a (pu (pu φ 10 (kc ((nmW1 (φ 4) (φ 8 0) (φ 9 0) w lo hi).toNat))) 9 (kc (nmS2 (φ 4) (φ 8 0) (φ 9 0) w lo hi))) δ) H locs := hW
                refine kb_ne S (tgt := 163) dX3_number_156 (by decide) (fun c_156 => ?_) (fun c_156 => ?_)
                · refine lv_iconst (v := nI (0)) S.1 S.2.1 dX3_number_163 rfl ?_
                  refine k_top (y := nI ((nmW2 (φ 4) (φ 8 0) (φ 9 0) w lo hi).toNat)) (k_or0 c_147 c_156) ?_
                  refine kx_put S hK hW hinX3 tyX3_ok nmX3 0 3 rfl rfl 10 (by decide) (List.mem_of_getElem? (i := 3) rfl) rfl (v := .int (nI (nmW2 (φ 4) (φ 8 0) (φ 9 0) w lo hi).toNat)) (k_narB _) (k_fitB _) (Nat.le_of_ble_eq_true rfl) dX3_number_164 (fun H locs hW => ?_)
                  have hW : kw D A s.heap (wM c a (pu (pu φ 9 (kc (nmS2 (φ 4) (φ 8 0) (φ 9 0) w lo hi))) 10 (kc ((nmW2 (φ 4) (φ 8 0) (φ 9 0) w lo hi).toNat))) δ) H locs := hW
                  refine lv_iload_n S.1 S.2.1 dX3_number_167 rfl (lv_at hl 0 rfl) ?_
                  refine k_top (y := nmV2 (φ 4) (φ 8 0) (φ 9 0) w lo hi) (by unfold nmV2; rw [hN]; rfl) ?_
                  exact hret 168 _ _ _ _ _ dX3_number_168 hW (rfl) (rfl)
                · refine lv_iconst (v := nI (1)) S.1 S.2.1 dX3_number_159 rfl ?_
                  refine k_top (y := nI ((nmW2 (φ 4) (φ 8 0) (φ 9 0) w lo hi).toNat)) (by first | exact k_or1 c_147 | exact k_or2 c_156) ?_
                  refine lv_goto (tgt := 164) S.1 S.2.1 dX3_number_160 (by decide) ?_
                  refine kx_put S hK hW hinX3 tyX3_ok nmX3 0 3 rfl rfl 10 (by decide) (List.mem_of_getElem? (i := 3) rfl) rfl (v := .int (nI (nmW2 (φ 4) (φ 8 0) (φ 9 0) w lo hi).toNat)) (k_narB _) (k_fitB _) (Nat.le_of_ble_eq_true rfl) dX3_number_164 (fun H locs hW => ?_)
                  have hW : kw D A s.heap (wM c a (pu (pu φ 9 (kc (nmS2 (φ 4) (φ 8 0) (φ 9 0) w lo hi))) 10 (kc ((nmW2 (φ 4) (φ 8 0) (φ 9 0) w lo hi).toNat))) δ) H locs := hW
                  refine lv_iload_n S.1 S.2.1 dX3_number_167 rfl (lv_at hl 0 rfl) ?_
                  refine k_top (y := nmV2 (φ 4) (φ 8 0) (φ 9 0) w lo hi) (by unfold nmV2; rw [hN]; rfl) ?_
                  exact hret 168 _ _ _ _ _ dX3_number_168 hW (rfl) (rfl)
            · have hlt2 := nxb_lt c_86
              refine lv_bipush (v := nI (10)) S.1 S.2.1 dX3_number_89 rfl ?_
              refine lv_iload_n S.1 S.2.1 dX3_number_91 rfl (lv_at hl 0 rfl) ?_
              refine lv_imul S.1 S.2.1 dX3_number_92 ?_
              refine lv_aload_n S.1 S.2.1 dX3_number_93 rfl (lv_at hl 1 rfl) ?_
              refine kx_get S hK hW hinX3 0 3 rfl rfl 7 (by decide) (List.mem_of_getElem? (i := 1) rfl) (v := .ref (a 5)) rfl dX3_number_94 ?_
              refine lv_aload_n S.1 S.2.1 dX3_number_97 rfl (lv_at hl 1 rfl) ?_
              refine kx_get S hK hW hinX3 0 3 rfl rfl 9 (by decide) (List.mem_of_getElem? (i := 2) rfl) (v := .int (nI (nmS1 (φ 4) (φ 8 0) (φ 9 0) w lo hi))) rfl dX3_number_98 ?_
              refine kn_ald S hK hW 5 (f := φ 4) rfl (by omega) (by decide) dX3_number_101 ?_
              refine lv_iadd S.1 S.2.1 dX3_number_102 ?_
              refine lv_bipush (v := nI (48)) S.1 S.2.1 dX3_number_103 rfl ?_
              refine lv_isub S.1 S.2.1 dX3_number_105 ?_
              refine k_top (y := nmV1 (φ 4) (φ 8 0) (φ 9 0) w lo hi) (rfl) ?_
              refine lv_iload_n S.1 S.2.1 dX3_number_106 rfl (lv_at hl 2 rfl) ?_
              refine lv_iload_n S.1 S.2.1 dX3_number_107 rfl (lv_at hl 3 rfl) ?_
              refine k_SI (rest := []) S hK hl.1 hW (KFr.nil hW hA) (mX3_in l D c  _ (nmV1 (φ 4) (φ 8 0) (φ 9 0) w lo hi) lo hi) gX3_number_X3_in rfl pdX3_in ⟨⟨rfl, rfl⟩, Nat.le_of_ble_eq_true rfl, Nat.le_of_ble_eq_true rfl⟩ rfl (Nat.le_of_ble_eq_true rfl) dX3_number_108 ⟨Nat.le_of_ble_eq_true rfl, Nat.le_of_ble_eq_true rfl⟩ (fun H locs hW => ?_)
              have hW : kw D A s.heap (wM c a (pu (pu φ 10 (kc ((nmW1 (φ 4) (φ 8 0) (φ 9 0) w lo hi).toNat))) 9 (kc (nmS1 (φ 4) (φ 8 0) (φ 9 0) w lo hi))) δ) H locs := hW
              refine kb_eq S (tgt := 142) dX3_number_111 (by decide) (fun c_111 => ?_) (fun c_111 => ?_)
              · have hN : nmN2 (φ 4) (φ 8 0) (φ 9 0) w lo hi = false := by unfold nmN2; rw [show inb (nmV1 (φ 4) (φ 8 0) (φ 9 0) w lo hi) lo hi = false from c_111, Bool.and_false]
                have hW : kw D A s.heap (wM c a (pu (pu φ 10 (kc ((nmW1 (φ 4) (φ 8 0) (φ 9 0) w lo hi).toNat))) 9 (kc (nmS2 (φ 4) (φ 8 0) (φ 9 0) w lo hi))) δ) H locs := by (rw [show nmS2 (φ 4) (φ 8 0) (φ 9 0) w lo hi = _ from congrArg (nmS1 (φ 4) (φ 8 0) (φ 9 0) w lo hi + ·) (congrArg Bool.toNat hN)]; exact hW)
                refine lv_aload_n S.1 S.2.1 dX3_number_142 rfl (lv_at hl 1 rfl) ?_
                refine lv_aload_n S.1 S.2.1 dX3_number_143 rfl (lv_at hl 1 rfl) ?_
                refine kx_get S hK hW hinX3 0 3 rfl rfl 10 (by decide) (List.mem_of_getElem? (i := 3) rfl) (v := .int (nI (nmW1 (φ 4) (φ 8 0) (φ 9 0) w lo hi).toNat)) rfl dX3_number_144 ?_
                refine kb_ne S (tgt := 159) dX3_number_147 (by decide) (fun c_147 => ?_) (fun c_147 => ?_)
                · exact absurd (c_62.symm.trans c_147) (by decide)
                · refine lv_iload_n S.1 S.2.1 dX3_number_150 rfl (lv_at hl 0 rfl) ?_
                  refine k_top (y := nmV2 (φ 4) (φ 8 0) (φ 9 0) w lo hi) (by unfold nmV2; rw [hN]; rfl) ?_
                  refine lv_iload_n S.1 S.2.1 dX3_number_151 rfl (lv_at hl 2 rfl) ?_
                  refine lv_iload_n S.1 S.2.1 dX3_number_152 rfl (lv_at hl 3 rfl) ?_
                  refine k_SI (rest := [.ref (a 0)]) S hK hl.1 hW (KFr.nil hW hA) (mX3_in l D c  _ (nmV2 (φ 4) (φ 8 0) (φ 9 0) w lo hi) lo hi) gX3_number_X3_in rfl pdX3_in ⟨⟨rfl, rfl⟩, Nat.le_of_ble_eq_true rfl, Nat.le_of_ble_eq_true rfl⟩ rfl (Nat.le_of_ble_eq_true rfl) dX3_number_153 ⟨Nat.le_of_ble_eq_true rfl, Nat.le_of_ble_eq_true rfl⟩ (fun H locs hW => ?_)
                  have hW : kw D A s.heap (wM c a (pu (pu φ 10 (kc ((nmW1 (φ 4) (φ 8 0) (φ 9 0) w lo hi).toNat))) 9 (kc (nmS2 (φ 4) (φ 8 0) (φ 9 0) w lo hi))) δ) H locs := hW
                  refine kb_ne S (tgt := 163) dX3_number_156 (by decide) (fun c_156 => ?_) (fun c_156 => ?_)
                  · refine lv_iconst (v := nI (0)) S.1 S.2.1 dX3_number_163 rfl ?_
                    refine k_top (y := nI ((nmW2 (φ 4) (φ 8 0) (φ 9 0) w lo hi).toNat)) (k_or0 c_147 c_156) ?_
                    refine kx_put S hK hW hinX3 tyX3_ok nmX3 0 3 rfl rfl 10 (by decide) (List.mem_of_getElem? (i := 3) rfl) rfl (v := .int (nI (nmW2 (φ 4) (φ 8 0) (φ 9 0) w lo hi).toNat)) (k_narB _) (k_fitB _) (Nat.le_of_ble_eq_true rfl) dX3_number_164 (fun H locs hW => ?_)
                    have hW : kw D A s.heap (wM c a (pu (pu φ 9 (kc (nmS2 (φ 4) (φ 8 0) (φ 9 0) w lo hi))) 10 (kc ((nmW2 (φ 4) (φ 8 0) (φ 9 0) w lo hi).toNat))) δ) H locs := hW
                    refine lv_iload_n S.1 S.2.1 dX3_number_167 rfl (lv_at hl 0 rfl) ?_
                    refine k_top (y := nmV2 (φ 4) (φ 8 0) (φ 9 0) w lo hi) (by unfold nmV2; rw [hN]; rfl) ?_
                    exact hret 168 _ _ _ _ _ dX3_number_168 hW (rfl) (rfl)
                  · refine lv_iconst (v := nI (1)) S.1 S.2.1 dX3_number_159 rfl ?_
                    refine k_top (y := nI ((nmW2 (φ 4) (φ 8 0) (φ 9 0) w lo hi).toNat)) (by first | exact k_or1 c_147 | exact k_or2 c_156) ?_
                    refine lv_goto (tgt := 164) S.1 S.2.1 dX3_number_160 (by decide) ?_
                    refine kx_put S hK hW hinX3 tyX3_ok nmX3 0 3 rfl rfl 10 (by decide) (List.mem_of_getElem? (i := 3) rfl) rfl (v := .int (nI (nmW2 (φ 4) (φ 8 0) (φ 9 0) w lo hi).toNat)) (k_narB _) (k_fitB _) (Nat.le_of_ble_eq_true rfl) dX3_number_164 (fun H locs hW => ?_)
                    have hW : kw D A s.heap (wM c a (pu (pu φ 9 (kc (nmS2 (φ 4) (φ 8 0) (φ 9 0) w lo hi))) 10 (kc ((nmW2 (φ 4) (φ 8 0) (φ 9 0) w lo hi).toNat))) δ) H locs := hW
                    refine lv_iload_n S.1 S.2.1 dX3_number_167 rfl (lv_at hl 0 rfl) ?_
                    refine k_top (y := nmV2 (φ 4) (φ 8 0) (φ 9 0) w lo hi) (by unfold nmV2; rw [hN]; rfl) ?_
                    exact hret 168 _ _ _ _ _ dX3_number_168 hW (rfl) (rfl)
              · have hN : nmN2 (φ 4) (φ 8 0) (φ 9 0) w lo hi = true := by unfold nmN2; rw [show inb (nmV1 (φ 4) (φ 8 0) (φ 9 0) w lo hi) lo hi = true from c_111, c_86, decide_eq_false c_75]; rfl
                refine lv_bipush (v := nI (10)) S.1 S.2.1 dX3_number_114 rfl ?_
                refine lv_iload_n S.1 S.2.1 dX3_number_116 rfl (lv_at hl 0 rfl) ?_
                refine lv_imul S.1 S.2.1 dX3_number_117 ?_
                refine lv_aload_n S.1 S.2.1 dX3_number_118 rfl (lv_at hl 1 rfl) ?_
                refine kx_get S hK hW hinX3 0 3 rfl rfl 7 (by decide) (List.mem_of_getElem? (i := 1) rfl) (v := .ref (a 5)) rfl dX3_number_119 ?_
                refine lv_aload_n S.1 S.2.1 dX3_number_122 rfl (lv_at hl 1 rfl) ?_
                refine kx_get S hK hW hinX3 0 3 rfl rfl 9 (by decide) (List.mem_of_getElem? (i := 2) rfl) (v := .int (nI (nmS1 (φ 4) (φ 8 0) (φ 9 0) w lo hi))) rfl dX3_number_123 ?_
                refine kn_ald S hK hW 5 (f := φ 4) rfl (by omega) (by decide) dX3_number_126 ?_
                refine lv_iadd S.1 S.2.1 dX3_number_127 ?_
                refine lv_bipush (v := nI (48)) S.1 S.2.1 dX3_number_128 rfl ?_
                refine lv_isub S.1 S.2.1 dX3_number_130 ?_
                refine k_top (y := nmV1 (φ 4) (φ 8 0) (φ 9 0) w lo hi) (rfl) ?_
                refine lv_istore_n (lv' := [(3, .int (nmV1 (φ 4) (φ 8 0) (φ 9 0) w lo hi)), (0, .ref (a 0)), (1, .int (lo)), (2, .int (hi))]) S.1 S.2.1 dX3_number_131 rfl hl (by decide) rfl (fun ls hl => ?_)
                refine lv_aload_n S.1 S.2.1 dX3_number_132 rfl (lv_at hl 1 rfl) ?_
                refine lv_dup S.1 S.2.1 dX3_number_133 rfl ?_
                refine kx_get S hK hW hinX3 0 3 rfl rfl 9 (by decide) (List.mem_of_getElem? (i := 2) rfl) (v := .int (nI (nmS1 (φ 4) (φ 8 0) (φ 9 0) w lo hi))) rfl dX3_number_134 ?_
                refine lv_iconst (v := nI (1)) S.1 S.2.1 dX3_number_137 rfl ?_
                refine kn_iadd S dX3_number_138 ?_
                refine kx_put S hK hW hinX3 tyX3_ok nmX3 0 3 rfl rfl 9 (by decide) (List.mem_of_getElem? (i := 2) rfl) rfl (v := .int (nI (nmS1 (φ 4) (φ 8 0) (φ 9 0) w lo hi + 1))) rfl rfl (Nat.le_of_ble_eq_true rfl) dX3_number_139 (fun H locs hW => ?_)
                have hW : kw D A s.heap (wM c a (pu (pu φ 10 (kc ((nmW1 (φ 4) (φ 8 0) (φ 9 0) w lo hi).toNat))) 9 (kc (nmS1 (φ 4) (φ 8 0) (φ 9 0) w lo hi + 1))) δ) H locs := hW
                have hW : kw D A s.heap (wM c a (pu (pu φ 10 (kc ((nmW1 (φ 4) (φ 8 0) (φ 9 0) w lo hi).toNat))) 9 (kc (nmS2 (φ 4) (φ 8 0) (φ 9 0) w lo hi))) δ) H locs := by (rw [show nmS2 (φ 4) (φ 8 0) (φ 9 0) w lo hi = _ from congrArg (nmS1 (φ 4) (φ 8 0) (φ 9 0) w lo hi + ·) (congrArg Bool.toNat hN)]; exact hW)
                refine lv_aload_n S.1 S.2.1 dX3_number_142 rfl (lv_at hl 1 rfl) ?_
                refine lv_aload_n S.1 S.2.1 dX3_number_143 rfl (lv_at hl 1 rfl) ?_
                refine kx_get S hK hW hinX3 0 3 rfl rfl 10 (by decide) (List.mem_of_getElem? (i := 3) rfl) (v := .int (nI (nmW1 (φ 4) (φ 8 0) (φ 9 0) w lo hi).toNat)) rfl dX3_number_144 ?_
                refine kb_ne S (tgt := 159) dX3_number_147 (by decide) (fun c_147 => ?_) (fun c_147 => ?_)
                · exact absurd (c_62.symm.trans c_147) (by decide)
                · refine lv_iload_n S.1 S.2.1 dX3_number_150 rfl (lv_at hl 0 rfl) ?_
                  refine k_top (y := nmV2 (φ 4) (φ 8 0) (φ 9 0) w lo hi) (by unfold nmV2; rw [hN]; rfl) ?_
                  refine lv_iload_n S.1 S.2.1 dX3_number_151 rfl (lv_at hl 2 rfl) ?_
                  refine lv_iload_n S.1 S.2.1 dX3_number_152 rfl (lv_at hl 3 rfl) ?_
                  refine k_SI (rest := [.ref (a 0)]) S hK hl.1 hW (KFr.nil hW hA) (mX3_in l D c  _ (nmV2 (φ 4) (φ 8 0) (φ 9 0) w lo hi) lo hi) gX3_number_X3_in rfl pdX3_in ⟨⟨rfl, rfl⟩, Nat.le_of_ble_eq_true rfl, Nat.le_of_ble_eq_true rfl⟩ rfl (Nat.le_of_ble_eq_true rfl) dX3_number_153 ⟨Nat.le_of_ble_eq_true rfl, Nat.le_of_ble_eq_true rfl⟩ (fun H locs hW => ?_)
                  have hW : kw D A s.heap (wM c a (pu (pu φ 10 (kc ((nmW1 (φ 4) (φ 8 0) (φ 9 0) w lo hi).toNat))) 9 (kc (nmS2 (φ 4) (φ 8 0) (φ 9 0) w lo hi))) δ) H locs := hW
                  refine kb_ne S (tgt := 163) dX3_number_156 (by decide) (fun c_156 => ?_) (fun c_156 => ?_)
                  · refine lv_iconst (v := nI (0)) S.1 S.2.1 dX3_number_163 rfl ?_
                    refine k_top (y := nI ((nmW2 (φ 4) (φ 8 0) (φ 9 0) w lo hi).toNat)) (k_or0 c_147 c_156) ?_
                    refine kx_put S hK hW hinX3 tyX3_ok nmX3 0 3 rfl rfl 10 (by decide) (List.mem_of_getElem? (i := 3) rfl) rfl (v := .int (nI (nmW2 (φ 4) (φ 8 0) (φ 9 0) w lo hi).toNat)) (k_narB _) (k_fitB _) (Nat.le_of_ble_eq_true rfl) dX3_number_164 (fun H locs hW => ?_)
                    have hW : kw D A s.heap (wM c a (pu (pu φ 9 (kc (nmS2 (φ 4) (φ 8 0) (φ 9 0) w lo hi))) 10 (kc ((nmW2 (φ 4) (φ 8 0) (φ 9 0) w lo hi).toNat))) δ) H locs := hW
                    refine lv_iload_n S.1 S.2.1 dX3_number_167 rfl (lv_at hl 0 rfl) ?_
                    refine k_top (y := nmV2 (φ 4) (φ 8 0) (φ 9 0) w lo hi) (by unfold nmV2; rw [hN]; rfl) ?_
                    exact hret 168 _ _ _ _ _ dX3_number_168 hW (rfl) (rfl)
                  · refine lv_iconst (v := nI (1)) S.1 S.2.1 dX3_number_159 rfl ?_
                    refine k_top (y := nI ((nmW2 (φ 4) (φ 8 0) (φ 9 0) w lo hi).toNat)) (by first | exact k_or1 c_147 | exact k_or2 c_156) ?_
                    refine lv_goto (tgt := 164) S.1 S.2.1 dX3_number_160 (by decide) ?_
                    refine kx_put S hK hW hinX3 tyX3_ok nmX3 0 3 rfl rfl 10 (by decide) (List.mem_of_getElem? (i := 3) rfl) rfl (v := .int (nI (nmW2 (φ 4) (φ 8 0) (φ 9 0) w lo hi).toNat)) (k_narB _) (k_fitB _) (Nat.le_of_ble_eq_true rfl) dX3_number_164 (fun H locs hW => ?_)
                    have hW : kw D A s.heap (wM c a (pu (pu φ 9 (kc (nmS2 (φ 4) (φ 8 0) (φ 9 0) w lo hi))) 10 (kc ((nmW2 (φ 4) (φ 8 0) (φ 9 0) w lo hi).toNat))) δ) H locs := hW
                    refine lv_iload_n S.1 S.2.1 dX3_number_167 rfl (lv_at hl 0 rfl) ?_
                    refine k_top (y := nmV2 (φ 4) (φ 8 0) (φ 9 0) w lo hi) (by unfold nmV2; rw [hN]; rfl) ?_
                    exact hret 168 _ _ _ _ _ dX3_number_168 hW (rfl) (rfl)
        · refine lv_iconst (v := nI (0)) S.1 S.2.1 dX3_number_65 rfl ?_
          refine lv_goto (tgt := 70) S.1 S.2.1 dX3_number_66 (by decide) ?_
          refine kn_iadd S dX3_number_70 ?_
          refine k_top (y := nI (nmS1 (φ 4) (φ 8 0) (φ 9 0) w lo hi)) (congrArg nI (by unfold nmS1; rw [c_62]; rfl)) ?_
          refine kx_put S hK hW hinX3 tyX3_ok nmX3 0 3 rfl rfl 9 (by decide) (List.mem_of_getElem? (i := 2) rfl) rfl (v := .int (nI (nmS1 (φ 4) (φ 8 0) (φ 9 0) w lo hi))) rfl rfl (Nat.le_of_ble_eq_true rfl) dX3_number_71 (fun H locs hW => ?_)
          have hW : kw D A s.heap (wM c a (pu (pu φ 10 (kc ((nmW1 (φ 4) (φ 8 0) (φ 9 0) w lo hi).toNat))) 9 (kc (nmS1 (φ 4) (φ 8 0) (φ 9 0) w lo hi))) δ) H locs := hW
          refine lv_iload_n S.1 S.2.1 dX3_number_74 rfl (lv_at hl 0 rfl) ?_
          refine lv_if_le (tgt := 142) S.1 S.2.1 dX3_number_75 (by decide) (fun c_75 => ?_) (fun c_75 => ?_)
          · have hN : nmN2 (φ 4) (φ 8 0) (φ 9 0) w lo hi = false := by simp [nmN2, c_75]
            have hW : kw D A s.heap (wM c a (pu (pu φ 10 (kc ((nmW1 (φ 4) (φ 8 0) (φ 9 0) w lo hi).toNat))) 9 (kc (nmS2 (φ 4) (φ 8 0) (φ 9 0) w lo hi))) δ) H locs := by (rw [show nmS2 (φ 4) (φ 8 0) (φ 9 0) w lo hi = _ from congrArg (nmS1 (φ 4) (φ 8 0) (φ 9 0) w lo hi + ·) (congrArg Bool.toNat hN)]; exact hW)
            refine lv_aload_n S.1 S.2.1 dX3_number_142 rfl (lv_at hl 1 rfl) ?_
            refine lv_aload_n S.1 S.2.1 dX3_number_143 rfl (lv_at hl 1 rfl) ?_
            refine kx_get S hK hW hinX3 0 3 rfl rfl 10 (by decide) (List.mem_of_getElem? (i := 3) rfl) (v := .int (nI (nmW1 (φ 4) (φ 8 0) (φ 9 0) w lo hi).toNat)) rfl dX3_number_144 ?_
            refine kb_ne S (tgt := 159) dX3_number_147 (by decide) (fun c_147 => ?_) (fun c_147 => ?_)
            · refine lv_iconst (v := nI (1)) S.1 S.2.1 dX3_number_159 rfl ?_
              refine k_top (y := nI ((nmW2 (φ 4) (φ 8 0) (φ 9 0) w lo hi).toNat)) (by first | exact k_or1 c_147 | exact k_or2 c_156) ?_
              refine lv_goto (tgt := 164) S.1 S.2.1 dX3_number_160 (by decide) ?_
              refine kx_put S hK hW hinX3 tyX3_ok nmX3 0 3 rfl rfl 10 (by decide) (List.mem_of_getElem? (i := 3) rfl) rfl (v := .int (nI (nmW2 (φ 4) (φ 8 0) (φ 9 0) w lo hi).toNat)) (k_narB _) (k_fitB _) (Nat.le_of_ble_eq_true rfl) dX3_number_164 (fun H locs hW => ?_)
              have hW : kw D A s.heap (wM c a (pu (pu φ 9 (kc (nmS2 (φ 4) (φ 8 0) (φ 9 0) w lo hi))) 10 (kc ((nmW2 (φ 4) (φ 8 0) (φ 9 0) w lo hi).toNat))) δ) H locs := hW
              refine lv_iload_n S.1 S.2.1 dX3_number_167 rfl (lv_at hl 0 rfl) ?_
              refine k_top (y := nmV2 (φ 4) (φ 8 0) (φ 9 0) w lo hi) (by unfold nmV2; rw [hN]; rfl) ?_
              exact hret 168 _ _ _ _ _ dX3_number_168 hW (rfl) (rfl)
            · exact absurd (c_62.symm.trans c_147) (by decide)
          · refine lv_aload_n S.1 S.2.1 dX3_number_78 rfl (lv_at hl 1 rfl) ?_
            refine lv_bipush (v := nI (48)) S.1 S.2.1 dX3_number_79 rfl ?_
            refine lv_bipush (v := nI (57)) S.1 S.2.1 dX3_number_81 rfl ?_
            refine k_VI (rest := []) S hK hl.1 hW (KFr.all hW hA) (mX3_isNext l D c a ((pu (pu φ 10 (kc ((nmW1 (φ 4) (φ 8 0) (φ 9 0) w lo hi).toNat))) 9 (kc (nmS1 (φ 4) (φ 8 0) (φ 9 0) w lo hi)))) δ _ (nmW1 (φ 4) (φ 8 0) (φ 9 0) w lo hi) (nI (48)) (nI (57)) (by first | omega | exact hw | assumption | (show ((nmW1 (φ 4) (φ 8 0) (φ 9 0) w lo hi).toNat) = (nmW1 (φ 4) (φ 8 0) (φ 9 0) w lo hi).toNat; omega) | rfl) (by first | omega | exact hm | assumption | (show (φ 8 0) ≤ 60; omega) | rfl) (by first | omega | exact hs | assumption | (show (nmS1 (φ 4) (φ 8 0) (φ 9 0) w lo hi) < 1000; omega) | rfl)) gX3_number_X3_isNext rfl pdX3_isNext ⟨⟨rfl, rfl⟩, Nat.le_of_ble_eq_true rfl, Nat.le_of_ble_eq_true rfl⟩ 0 3 rfl rfl rfl rfl (Nat.le_of_ble_eq_true rfl) dX3_number_83 ⟨Nat.le_of_ble_eq_true rfl, Nat.le_of_ble_eq_true rfl⟩ (fun H locs hW => ?_)
            have hW : kw D A s.heap (wM c a (pu (pu φ 10 (kc ((nmW1 (φ 4) (φ 8 0) (φ 9 0) w lo hi).toNat))) 9 (kc (nmS1 (φ 4) (φ 8 0) (φ 9 0) w lo hi))) δ) H locs := hW
            refine k_top (y := nI ((nxb ((φ 4)) ((φ 8 0)) ((nmS1 (φ 4) (φ 8 0) (φ 9 0) w lo hi)) (nmW1 (φ 4) (φ 8 0) (φ 9 0) w lo hi) (nI (48)) (nI (57))).toNat)) rfl ?_
            refine kb_eq S (tgt := 142) dX3_number_86 (by decide) (fun c_86 => ?_) (fun c_86 => ?_)
            · have hN : nmN2 (φ 4) (φ 8 0) (φ 9 0) w lo hi = false := by simp [nmN2, c_86]
              have hW : kw D A s.heap (wM c a (pu (pu φ 10 (kc ((nmW1 (φ 4) (φ 8 0) (φ 9 0) w lo hi).toNat))) 9 (kc (nmS2 (φ 4) (φ 8 0) (φ 9 0) w lo hi))) δ) H locs := by (rw [show nmS2 (φ 4) (φ 8 0) (φ 9 0) w lo hi = _ from congrArg (nmS1 (φ 4) (φ 8 0) (φ 9 0) w lo hi + ·) (congrArg Bool.toNat hN)]; exact hW)
              refine lv_aload_n S.1 S.2.1 dX3_number_142 rfl (lv_at hl 1 rfl) ?_
              refine lv_aload_n S.1 S.2.1 dX3_number_143 rfl (lv_at hl 1 rfl) ?_
              refine kx_get S hK hW hinX3 0 3 rfl rfl 10 (by decide) (List.mem_of_getElem? (i := 3) rfl) (v := .int (nI (nmW1 (φ 4) (φ 8 0) (φ 9 0) w lo hi).toNat)) rfl dX3_number_144 ?_
              refine kb_ne S (tgt := 159) dX3_number_147 (by decide) (fun c_147 => ?_) (fun c_147 => ?_)
              · refine lv_iconst (v := nI (1)) S.1 S.2.1 dX3_number_159 rfl ?_
                refine k_top (y := nI ((nmW2 (φ 4) (φ 8 0) (φ 9 0) w lo hi).toNat)) (by first | exact k_or1 c_147 | exact k_or2 c_156) ?_
                refine lv_goto (tgt := 164) S.1 S.2.1 dX3_number_160 (by decide) ?_
                refine kx_put S hK hW hinX3 tyX3_ok nmX3 0 3 rfl rfl 10 (by decide) (List.mem_of_getElem? (i := 3) rfl) rfl (v := .int (nI (nmW2 (φ 4) (φ 8 0) (φ 9 0) w lo hi).toNat)) (k_narB _) (k_fitB _) (Nat.le_of_ble_eq_true rfl) dX3_number_164 (fun H locs hW => ?_)
                have hW : kw D A s.heap (wM c a (pu (pu φ 9 (kc (nmS2 (φ 4) (φ 8 0) (φ 9 0) w lo hi))) 10 (kc ((nmW2 (φ 4) (φ 8 0) (φ 9 0) w lo hi).toNat))) δ) H locs := hW
                refine lv_iload_n S.1 S.2.1 dX3_number_167 rfl (lv_at hl 0 rfl) ?_
                refine k_top (y := nmV2 (φ 4) (φ 8 0) (φ 9 0) w lo hi) (by unfold nmV2; rw [hN]; rfl) ?_
                exact hret 168 _ _ _ _ _ dX3_number_168 hW (rfl) (rfl)
              · exact absurd (c_62.symm.trans c_147) (by decide)
            · have hlt2 := nxb_lt c_86
              refine lv_bipush (v := nI (10)) S.1 S.2.1 dX3_number_89 rfl ?_
              refine lv_iload_n S.1 S.2.1 dX3_number_91 rfl (lv_at hl 0 rfl) ?_
              refine lv_imul S.1 S.2.1 dX3_number_92 ?_
              refine lv_aload_n S.1 S.2.1 dX3_number_93 rfl (lv_at hl 1 rfl) ?_
              refine kx_get S hK hW hinX3 0 3 rfl rfl 7 (by decide) (List.mem_of_getElem? (i := 1) rfl) (v := .ref (a 5)) rfl dX3_number_94 ?_
              refine lv_aload_n S.1 S.2.1 dX3_number_97 rfl (lv_at hl 1 rfl) ?_
              refine kx_get S hK hW hinX3 0 3 rfl rfl 9 (by decide) (List.mem_of_getElem? (i := 2) rfl) (v := .int (nI (nmS1 (φ 4) (φ 8 0) (φ 9 0) w lo hi))) rfl dX3_number_98 ?_
              refine kn_ald S hK hW 5 (f := φ 4) rfl (by omega) (by decide) dX3_number_101 ?_
              refine lv_iadd S.1 S.2.1 dX3_number_102 ?_
              refine lv_bipush (v := nI (48)) S.1 S.2.1 dX3_number_103 rfl ?_
              refine lv_isub S.1 S.2.1 dX3_number_105 ?_
              refine k_top (y := nmV1 (φ 4) (φ 8 0) (φ 9 0) w lo hi) (rfl) ?_
              refine lv_iload_n S.1 S.2.1 dX3_number_106 rfl (lv_at hl 2 rfl) ?_
              refine lv_iload_n S.1 S.2.1 dX3_number_107 rfl (lv_at hl 3 rfl) ?_
              refine k_SI (rest := []) S hK hl.1 hW (KFr.nil hW hA) (mX3_in l D c  _ (nmV1 (φ 4) (φ 8 0) (φ 9 0) w lo hi) lo hi) gX3_number_X3_in rfl pdX3_in ⟨⟨rfl, rfl⟩, Nat.le_of_ble_eq_true rfl, Nat.le_of_ble_eq_true rfl⟩ rfl (Nat.le_of_ble_eq_true rfl) dX3_number_108 ⟨Nat.le_of_ble_eq_true rfl, Nat.le_of_ble_eq_true rfl⟩ (fun H locs hW => ?_)
              have hW : kw D A s.heap (wM c a (pu (pu φ 10 (kc ((nmW1 (φ 4) (φ 8 0) (φ 9 0) w lo hi).toNat))) 9 (kc (nmS1 (φ 4) (φ 8 0) (φ 9 0) w lo hi))) δ) H locs := hW
              refine kb_eq S (tgt := 142) dX3_number_111 (by decide) (fun c_111 => ?_) (fun c_111 => ?_)
              · have hN : nmN2 (φ 4) (φ 8 0) (φ 9 0) w lo hi = false := by unfold nmN2; rw [show inb (nmV1 (φ 4) (φ 8 0) (φ 9 0) w lo hi) lo hi = false from c_111, Bool.and_false]
                have hW : kw D A s.heap (wM c a (pu (pu φ 10 (kc ((nmW1 (φ 4) (φ 8 0) (φ 9 0) w lo hi).toNat))) 9 (kc (nmS2 (φ 4) (φ 8 0) (φ 9 0) w lo hi))) δ) H locs := by (rw [show nmS2 (φ 4) (φ 8 0) (φ 9 0) w lo hi = _ from congrArg (nmS1 (φ 4) (φ 8 0) (φ 9 0) w lo hi + ·) (congrArg Bool.toNat hN)]; exact hW)
                refine lv_aload_n S.1 S.2.1 dX3_number_142 rfl (lv_at hl 1 rfl) ?_
                refine lv_aload_n S.1 S.2.1 dX3_number_143 rfl (lv_at hl 1 rfl) ?_
                refine kx_get S hK hW hinX3 0 3 rfl rfl 10 (by decide) (List.mem_of_getElem? (i := 3) rfl) (v := .int (nI (nmW1 (φ 4) (φ 8 0) (φ 9 0) w lo hi).toNat)) rfl dX3_number_144 ?_
                refine kb_ne S (tgt := 159) dX3_number_147 (by decide) (fun c_147 => ?_) (fun c_147 => ?_)
                · refine lv_iconst (v := nI (1)) S.1 S.2.1 dX3_number_159 rfl ?_
                  refine k_top (y := nI ((nmW2 (φ 4) (φ 8 0) (φ 9 0) w lo hi).toNat)) (by first | exact k_or1 c_147 | exact k_or2 c_156) ?_
                  refine lv_goto (tgt := 164) S.1 S.2.1 dX3_number_160 (by decide) ?_
                  refine kx_put S hK hW hinX3 tyX3_ok nmX3 0 3 rfl rfl 10 (by decide) (List.mem_of_getElem? (i := 3) rfl) rfl (v := .int (nI (nmW2 (φ 4) (φ 8 0) (φ 9 0) w lo hi).toNat)) (k_narB _) (k_fitB _) (Nat.le_of_ble_eq_true rfl) dX3_number_164 (fun H locs hW => ?_)
                  have hW : kw D A s.heap (wM c a (pu (pu φ 9 (kc (nmS2 (φ 4) (φ 8 0) (φ 9 0) w lo hi))) 10 (kc ((nmW2 (φ 4) (φ 8 0) (φ 9 0) w lo hi).toNat))) δ) H locs := hW
                  refine lv_iload_n S.1 S.2.1 dX3_number_167 rfl (lv_at hl 0 rfl) ?_
                  refine k_top (y := nmV2 (φ 4) (φ 8 0) (φ 9 0) w lo hi) (by unfold nmV2; rw [hN]; rfl) ?_
                  exact hret 168 _ _ _ _ _ dX3_number_168 hW (rfl) (rfl)
                · exact absurd (c_62.symm.trans c_147) (by decide)
              · have hN : nmN2 (φ 4) (φ 8 0) (φ 9 0) w lo hi = true := by unfold nmN2; rw [show inb (nmV1 (φ 4) (φ 8 0) (φ 9 0) w lo hi) lo hi = true from c_111, c_86, decide_eq_false c_75]; rfl
                refine lv_bipush (v := nI (10)) S.1 S.2.1 dX3_number_114 rfl ?_
                refine lv_iload_n S.1 S.2.1 dX3_number_116 rfl (lv_at hl 0 rfl) ?_
                refine lv_imul S.1 S.2.1 dX3_number_117 ?_
                refine lv_aload_n S.1 S.2.1 dX3_number_118 rfl (lv_at hl 1 rfl) ?_
                refine kx_get S hK hW hinX3 0 3 rfl rfl 7 (by decide) (List.mem_of_getElem? (i := 1) rfl) (v := .ref (a 5)) rfl dX3_number_119 ?_
                refine lv_aload_n S.1 S.2.1 dX3_number_122 rfl (lv_at hl 1 rfl) ?_
                refine kx_get S hK hW hinX3 0 3 rfl rfl 9 (by decide) (List.mem_of_getElem? (i := 2) rfl) (v := .int (nI (nmS1 (φ 4) (φ 8 0) (φ 9 0) w lo hi))) rfl dX3_number_123 ?_
                refine kn_ald S hK hW 5 (f := φ 4) rfl (by omega) (by decide) dX3_number_126 ?_
                refine lv_iadd S.1 S.2.1 dX3_number_127 ?_
                refine lv_bipush (v := nI (48)) S.1 S.2.1 dX3_number_128 rfl ?_
                refine lv_isub S.1 S.2.1 dX3_number_130 ?_
                refine k_top (y := nmV1 (φ 4) (φ 8 0) (φ 9 0) w lo hi) (rfl) ?_
                refine lv_istore_n (lv' := [(3, .int (nmV1 (φ 4) (φ 8 0) (φ 9 0) w lo hi)), (0, .ref (a 0)), (1, .int (lo)), (2, .int (hi))]) S.1 S.2.1 dX3_number_131 rfl hl (by decide) rfl (fun ls hl => ?_)
                refine lv_aload_n S.1 S.2.1 dX3_number_132 rfl (lv_at hl 1 rfl) ?_
                refine lv_dup S.1 S.2.1 dX3_number_133 rfl ?_
                refine kx_get S hK hW hinX3 0 3 rfl rfl 9 (by decide) (List.mem_of_getElem? (i := 2) rfl) (v := .int (nI (nmS1 (φ 4) (φ 8 0) (φ 9 0) w lo hi))) rfl dX3_number_134 ?_
                refine lv_iconst (v := nI (1)) S.1 S.2.1 dX3_number_137 rfl ?_
                refine kn_iadd S dX3_number_138 ?_
                refine kx_put S hK hW hinX3 tyX3_ok nmX3 0 3 rfl rfl 9 (by decide) (List.mem_of_getElem? (i := 2) rfl) rfl (v := .int (nI (nmS1 (φ 4) (φ 8 0) (φ 9 0) w lo hi + 1))) rfl rfl (Nat.le_of_ble_eq_true rfl) dX3_number_139 (fun H locs hW => ?_)
                have hW : kw D A s.heap (wM c a (pu (pu φ 10 (kc ((nmW1 (φ 4) (φ 8 0) (φ 9 0) w lo hi).toNat))) 9 (kc (nmS1 (φ 4) (φ 8 0) (φ 9 0) w lo hi + 1))) δ) H locs := hW
                have hW : kw D A s.heap (wM c a (pu (pu φ 10 (kc ((nmW1 (φ 4) (φ 8 0) (φ 9 0) w lo hi).toNat))) 9 (kc (nmS2 (φ 4) (φ 8 0) (φ 9 0) w lo hi))) δ) H locs := by (rw [show nmS2 (φ 4) (φ 8 0) (φ 9 0) w lo hi = _ from congrArg (nmS1 (φ 4) (φ 8 0) (φ 9 0) w lo hi + ·) (congrArg Bool.toNat hN)]; exact hW)
                refine lv_aload_n S.1 S.2.1 dX3_number_142 rfl (lv_at hl 1 rfl) ?_
                refine lv_aload_n S.1 S.2.1 dX3_number_143 rfl (lv_at hl 1 rfl) ?_
                refine kx_get S hK hW hinX3 0 3 rfl rfl 10 (by decide) (List.mem_of_getElem? (i := 3) rfl) (v := .int (nI (nmW1 (φ 4) (φ 8 0) (φ 9 0) w lo hi).toNat)) rfl dX3_number_144 ?_
                refine kb_ne S (tgt := 159) dX3_number_147 (by decide) (fun c_147 => ?_) (fun c_147 => ?_)
                · refine lv_iconst (v := nI (1)) S.1 S.2.1 dX3_number_159 rfl ?_
                  refine k_top (y := nI ((nmW2 (φ 4) (φ 8 0) (φ 9 0) w lo hi).toNat)) (by first | exact k_or1 c_147 | exact k_or2 c_156) ?_
                  refine lv_goto (tgt := 164) S.1 S.2.1 dX3_number_160 (by decide) ?_
                  refine kx_put S hK hW hinX3 tyX3_ok nmX3 0 3 rfl rfl 10 (by decide) (List.mem_of_getElem? (i := 3) rfl) rfl (v := .int (nI (nmW2 (φ 4) (φ 8 0) (φ 9 0) w lo hi).toNat)) (k_narB _) (k_fitB _) (Nat.le_of_ble_eq_true rfl) dX3_number_164 (fun H locs hW => ?_)
                  have hW : kw D A s.heap (wM c a (pu (pu φ 9 (kc (nmS2 (φ 4) (φ 8 0) (φ 9 0) w lo hi))) 10 (kc ((nmW2 (φ 4) (φ 8 0) (φ 9 0) w lo hi).toNat))) δ) H locs := hW
                  refine lv_iload_n S.1 S.2.1 dX3_number_167 rfl (lv_at hl 0 rfl) ?_
                  refine k_top (y := nmV2 (φ 4) (φ 8 0) (φ 9 0) w lo hi) (by unfold nmV2; rw [hN]; rfl) ?_
                  exact hret 168 _ _ _ _ _ dX3_number_168 hW (rfl) (rfl)
                · exact absurd (c_62.symm.trans c_147) (by decide)
