abbrev rmX3_wind : Room := { frames := 1, cells := 0, slots := 0, locals := 22 }
theorem pdX3_wind : kPd yX3_wind 1 := by decide +kernel
set_option maxHeartbeats 400000 in
set_option maxRecDepth 100000 in
theorem mX3_wind_x1 (l : Launch) (D : va_G) (c : Nat → ClassId) (a : Nat → Nat) (φ : Nat → Nat → Nat) (δ : Int64) (sz : Nat) (n : Int32) (hin : inb n (nI (1)) (nI (400)) = false) : MI l yX3_wind wsX3_wind rmX3_wind D c sz (wM c a φ δ) [.ref (a 0), .int (n)] (nI (0)) (wM c a (pu φ 5 (kc (1))) δ) := by
  refine MI.of (cc := cX3_wind) (maxL := 2) (ty := .int) (by decide) rfl (Nat.le_of_ble_eq_true rfl) rfl ?_
  intro P e s m below meth cd A Q ls hsz S hK hW hA hl hret
  have hl : lv_has ls 2 [(0, .ref (a 0)), (1, .int (n))] := hl
  refine lv_aload_n S.1 S.2.1 dX3_wind_0 rfl (lv_at hl 0 rfl) ?_
  refine lv_iload_n S.1 S.2.1 dX3_wind_1 rfl (lv_at hl 1 rfl) ?_
  refine lv_iconst (v := nI (1)) S.1 S.2.1 dX3_wind_2 rfl ?_
  refine lv_sipush (v := nI (400)) S.1 S.2.1 dX3_wind_3 rfl ?_
  refine k_SI (rest := [.ref (a 0)]) S hK hl.1 hW (KFr.nil hW hA) (mX3_in l D c  _ n (nI (1)) (nI (400))) gX3_wind_X3_in rfl pdX3_in ⟨⟨rfl, rfl⟩, Nat.le_of_ble_eq_true rfl, Nat.le_of_ble_eq_true rfl⟩ rfl (Nat.le_of_ble_eq_true rfl) dX3_wind_6 ⟨Nat.le_of_ble_eq_true rfl, Nat.le_of_ble_eq_true rfl⟩ (fun H locs hW => ?_)
  have hW : kw D A s.heap (wM c a φ δ) H locs := hW
  refine kb_eq S (tgt := 16) dX3_wind_9 (by decide) (fun c_9 => ?_) (fun c_9 => ?_)
  · refine lv_iconst (v := nI (1)) S.1 S.2.1 dX3_wind_16 rfl ?_
    refine k_VI (rest := []) S hK hl.1 hW (KFr.all hW hA) (mX3_holds l D c a φ δ _ 1 (by first | omega | exact hw | assumption)) gX3_wind_X3_holds rfl pdX3_holds ⟨⟨rfl, rfl⟩, Nat.le_of_ble_eq_true rfl, Nat.le_of_ble_eq_true rfl⟩ 0 3 rfl rfl rfl rfl (Nat.le_of_ble_eq_true rfl) dX3_wind_17 ⟨Nat.le_of_ble_eq_true rfl, Nat.le_of_ble_eq_true rfl⟩ (fun H locs hW => ?_)
    have hW : kw D A s.heap (wM c a (pu φ 5 (kc (1))) δ) H locs := hW
    refine kb_ne S (tgt := 25) dX3_wind_20 (by decide) (fun c_20 => ?_) (fun c_20 => ?_)
    · exact absurd c_20 (by decide)
    · refine lv_iconst (v := nI (0)) S.1 S.2.1 dX3_wind_23 rfl ?_
      exact hret 24 _ _ _ _ _ dX3_wind_24 hW (rfl) (rfl)
  · exact absurd (hin.symm.trans c_9) (by decide)
set_option maxHeartbeats 400000 in
set_option maxRecDepth 100000 in
theorem mX3_wind_k (l : Launch) (D : va_G) (c : Nat → ClassId) (a : Nat → Nat) (φ : Nat → Nat → Nat) (δ : Int64) (sz : Nat) (n : Nat) (h1 : 1 ≤ n) (h2 : n ≤ 400) (ok : okM (φ 0)) (hk : φ 6 0 ≤ 6) : MI l yX3_wind wsX3_wind rmX3_wind D c sz (wM c a φ δ) [.ref (a 0), .int (nI (n))] (nI (min 400 (φ 0 135 + n))) (wM c a (pu (pu (pu (pu φ 2 (svf (φ 2) (φ 0) (φ 6 0))) 6 (kc (svn (φ 6 0)))) 5 (kc (0))) 0 (fu (φ 0) 135 (min 400 (φ 0 135 + n)))) δ) := by
  refine MI.of (cc := cX3_wind) (maxL := 2) (ty := .int) (by decide) rfl (Nat.le_of_ble_eq_true rfl) rfl ?_
  intro P e s m below meth cd A Q ls hsz S hK hW hA hl hret
  have hl : lv_has ls 2 [(0, .ref (a 0)), (1, .int (nI (n)))] := hl
  have hinX3 : ∀ w ∈ u_ws RX3 TX3 13, w ∈ wsX3_wind := by decide +kernel
  have hin : inb (nI (n)) (nI (1)) (nI (400)) = true := inb_t (by omega) (by omega) (by decide)
  have h135 := ok.k135
  refine lv_aload_n S.1 S.2.1 dX3_wind_0 rfl (lv_at hl 0 rfl) ?_
  refine lv_iload_n S.1 S.2.1 dX3_wind_1 rfl (lv_at hl 1 rfl) ?_
  refine lv_iconst (v := nI (1)) S.1 S.2.1 dX3_wind_2 rfl ?_
  refine lv_sipush (v := nI (400)) S.1 S.2.1 dX3_wind_3 rfl ?_
  refine k_SI (rest := [.ref (a 0)]) S hK hl.1 hW (KFr.nil hW hA) (mX3_in l D c  _ (nI (n)) (nI (1)) (nI (400))) gX3_wind_X3_in rfl pdX3_in ⟨⟨rfl, rfl⟩, Nat.le_of_ble_eq_true rfl, Nat.le_of_ble_eq_true rfl⟩ rfl (Nat.le_of_ble_eq_true rfl) dX3_wind_6 ⟨Nat.le_of_ble_eq_true rfl, Nat.le_of_ble_eq_true rfl⟩ (fun H locs hW => ?_)
  have hW : kw D A s.heap (wM c a φ δ) H locs := hW
  refine kb_eq S (tgt := 16) dX3_wind_9 (by decide) (fun c_9 => ?_) (fun c_9 => ?_)
  · exact absurd (hin.symm.trans c_9) (by decide)
  · refine lv_iconst (v := nI (0)) S.1 S.2.1 dX3_wind_12 rfl ?_
    refine lv_goto (tgt := 17) S.1 S.2.1 dX3_wind_13 (by decide) ?_
    refine k_VI (rest := []) S hK hl.1 hW (KFr.all hW hA) (mX3_holds l D c a φ δ _ 0 (by first | omega | exact hw | assumption)) gX3_wind_X3_holds rfl pdX3_holds ⟨⟨rfl, rfl⟩, Nat.le_of_ble_eq_true rfl, Nat.le_of_ble_eq_true rfl⟩ 0 3 rfl rfl rfl rfl (Nat.le_of_ble_eq_true rfl) dX3_wind_17 ⟨Nat.le_of_ble_eq_true rfl, Nat.le_of_ble_eq_true rfl⟩ (fun H locs hW => ?_)
    have hW : kw D A s.heap (wM c a (pu φ 5 (kc (0))) δ) H locs := hW
    refine kb_ne S (tgt := 25) dX3_wind_20 (by decide) (fun c_20 => ?_) (fun c_20 => ?_)
    · refine lv_aload_n S.1 S.2.1 dX3_wind_25 rfl (lv_at hl 0 rfl) ?_
      refine k_VV (rest := []) S hK hl.1 hW (KFr.all hW hA) (mX3_save l D c a ((pu φ 5 (kc (0)))) δ _ (by first | omega | exact hk | assumption)) gX3_wind_X3_save rfl pdX3_save ⟨⟨rfl, rfl⟩, Nat.le_of_ble_eq_true rfl, Nat.le_of_ble_eq_true rfl⟩ 0 3 rfl rfl rfl rfl (Nat.le_of_ble_eq_true rfl) dX3_wind_26 ⟨Nat.le_of_ble_eq_true rfl, Nat.le_of_ble_eq_true rfl⟩ (fun H locs hW => ?_)
      have hW : kw D A s.heap (wM c a (pu (pu (pu φ 5 (kc (0))) 2 (svf ((φ 2)) ((φ 0)) (((φ 6) 0)))) 6 (kc (svn (((φ 6) 0))))) δ) H locs := hW
      refine lv_aload_n S.1 S.2.1 dX3_wind_29 rfl (lv_at hl 0 rfl) ?_
      refine kx_get S hK hW hinX3 0 3 rfl rfl 1 (by decide) (List.mem_of_getElem? (i := 1) rfl) (v := .ref (a 1)) rfl dX3_wind_30 ?_
      refine lv_sipush (v := nI (135)) S.1 S.2.1 dX3_wind_33 rfl ?_
      refine lv_aload_n S.1 S.2.1 dX3_wind_36 rfl (lv_at hl 0 rfl) ?_
      refine kx_get S hK hW hinX3 0 3 rfl rfl 1 (by decide) (List.mem_of_getElem? (i := 1) rfl) (v := .ref (a 1)) rfl dX3_wind_37 ?_
      refine lv_sipush (v := nI (135)) S.1 S.2.1 dX3_wind_40 rfl ?_
      refine kn_ald S hK hW 1 (f := φ 0) rfl (by omega) (by decide) dX3_wind_43 ?_
      refine lv_iload_n S.1 S.2.1 dX3_wind_44 rfl (lv_at hl 1 rfl) ?_
      refine kn_iadd S dX3_wind_45 ?_
      refine lv_sipush (v := nI (400)) S.1 S.2.1 dX3_wind_46 rfl ?_
      refine kn_le S (tgt := 58) dX3_wind_49 (by decide) (by omega) (by omega) (fun c_49 => ?_) (fun c_49 => ?_)
      · refine lv_aload_n S.1 S.2.1 dX3_wind_58 rfl (lv_at hl 0 rfl) ?_
        refine kx_get S hK hW hinX3 0 3 rfl rfl 1 (by decide) (List.mem_of_getElem? (i := 1) rfl) (v := .ref (a 1)) rfl dX3_wind_59 ?_
        refine lv_sipush (v := nI (135)) S.1 S.2.1 dX3_wind_62 rfl ?_
        refine kn_ald S hK hW 1 (f := φ 0) rfl (by omega) (by decide) dX3_wind_65 ?_
        refine lv_iload_n S.1 S.2.1 dX3_wind_66 rfl (lv_at hl 1 rfl) ?_
        refine kn_iadd S dX3_wind_67 ?_
        refine k_top (y := nI (min 400 (φ 0 135 + n))) (congrArg nI (by omega)) ?_
        refine kn_ast S hK hW 1 (f := φ 0) rfl (by omega) (by decide) dX3_wind_68 (fun H locs hW => ?_)
        have hW : kw D A s.heap (wM c a (pu (pu (pu (pu φ 5 (kc (0))) 2 (svf ((φ 2)) ((φ 0)) (((φ 6) 0)))) 6 (kc (svn (((φ 6) 0))))) 0 (fu (φ 0) 135 (min 400 (φ 0 135 + n)))) δ) H locs := hW
        refine lv_aload_n S.1 S.2.1 dX3_wind_69 rfl (lv_at hl 0 rfl) ?_
        refine kx_get S hK hW hinX3 0 3 rfl rfl 1 (by decide) (List.mem_of_getElem? (i := 1) rfl) (v := .ref (a 1)) rfl dX3_wind_70 ?_
        refine lv_sipush (v := nI (135)) S.1 S.2.1 dX3_wind_73 rfl ?_
        refine kn_ald S hK hW 1 (f := fu (φ 0) 135 (min 400 (φ 0 135 + n))) rfl (by omega) (by decide) dX3_wind_76 ?_
        refine k_top (y := nI (min 400 (φ 0 135 + n))) (congrArg nI (fu_at _ _ _)) ?_
        exact hret 77 _ _ _ _ _ dX3_wind_77 hW (rfl) (rfl)
      · refine lv_sipush (v := nI (400)) S.1 S.2.1 dX3_wind_52 rfl ?_
        refine k_top (y := nI (min 400 (φ 0 135 + n))) (congrArg nI (by omega)) ?_
        refine lv_goto (tgt := 68) S.1 S.2.1 dX3_wind_55 (by decide) ?_
        refine kn_ast S hK hW 1 (f := φ 0) rfl (by omega) (by decide) dX3_wind_68 (fun H locs hW => ?_)
        have hW : kw D A s.heap (wM c a (pu (pu (pu (pu φ 5 (kc (0))) 2 (svf ((φ 2)) ((φ 0)) (((φ 6) 0)))) 6 (kc (svn (((φ 6) 0))))) 0 (fu (φ 0) 135 (min 400 (φ 0 135 + n)))) δ) H locs := hW
        refine lv_aload_n S.1 S.2.1 dX3_wind_69 rfl (lv_at hl 0 rfl) ?_
        refine kx_get S hK hW hinX3 0 3 rfl rfl 1 (by decide) (List.mem_of_getElem? (i := 1) rfl) (v := .ref (a 1)) rfl dX3_wind_70 ?_
        refine lv_sipush (v := nI (135)) S.1 S.2.1 dX3_wind_73 rfl ?_
        refine kn_ald S hK hW 1 (f := fu (φ 0) 135 (min 400 (φ 0 135 + n))) rfl (by omega) (by decide) dX3_wind_76 ?_
        refine k_top (y := nI (min 400 (φ 0 135 + n))) (congrArg nI (fu_at _ _ _)) ?_
        exact hret 77 _ _ _ _ _ dX3_wind_77 hW (rfl) (rfl)
    · exact absurd c_20 (by decide)
abbrev rmX3_vanes : Room := { frames := 2, cells := 0, slots := 0, locals := 44 }
theorem pdX3_vanes : kPd yX3_vanes 1 := by decide +kernel
set_option maxHeartbeats 400000 in
set_option maxRecDepth 100000 in
theorem mX3_vanes_x1 (l : Launch) (D : va_G) (c : Nat → ClassId) (a : Nat → Nat) (φ : Nat → Nat → Nat) (δ : Int64) (sz : Nat) (n : Int32) (hin : inb n (nI (1)) (nI (9)) = false) : MI l yX3_vanes wsX3_vanes rmX3_vanes D c sz (wM c a φ δ) [.ref (a 0), .int (n)] (nI (0)) (wM c a (pu φ 5 (kc (1))) δ) := by
  refine MI.of (cc := cX3_vanes) (maxL := 2) (ty := .int) (by decide) rfl (Nat.le_of_ble_eq_true rfl) rfl ?_
  intro P e s m below meth cd A Q ls hsz S hK hW hA hl hret
  have hl : lv_has ls 2 [(0, .ref (a 0)), (1, .int (n))] := hl
  refine lv_aload_n S.1 S.2.1 dX3_vanes_0 rfl (lv_at hl 0 rfl) ?_
  refine lv_iload_n S.1 S.2.1 dX3_vanes_1 rfl (lv_at hl 1 rfl) ?_
  refine lv_iconst (v := nI (1)) S.1 S.2.1 dX3_vanes_2 rfl ?_
  refine lv_bipush (v := nI (9)) S.1 S.2.1 dX3_vanes_3 rfl ?_
  refine k_SI (rest := [.ref (a 0)]) S hK hl.1 hW (KFr.nil hW hA) (mX3_in l D c  _ n (nI (1)) (nI (9))) gX3_vanes_X3_in rfl pdX3_in ⟨⟨rfl, rfl⟩, Nat.le_of_ble_eq_true rfl, Nat.le_of_ble_eq_true rfl⟩ rfl (Nat.le_of_ble_eq_true rfl) dX3_vanes_5 ⟨Nat.le_of_ble_eq_true rfl, Nat.le_of_ble_eq_true rfl⟩ (fun H locs hW => ?_)
  have hW : kw D A s.heap (wM c a φ δ) H locs := hW
  refine kb_eq S (tgt := 15) dX3_vanes_8 (by decide) (fun c_8 => ?_) (fun c_8 => ?_)
  · refine lv_iconst (v := nI (1)) S.1 S.2.1 dX3_vanes_15 rfl ?_
    refine k_VI (rest := []) S hK hl.1 hW (KFr.all hW hA) (mX3_holds l D c a φ δ _ 1 (by first | omega | exact hw | assumption)) gX3_vanes_X3_holds rfl pdX3_holds ⟨⟨rfl, rfl⟩, Nat.le_of_ble_eq_true rfl, Nat.le_of_ble_eq_true rfl⟩ 0 3 rfl rfl rfl rfl (Nat.le_of_ble_eq_true rfl) dX3_vanes_16 ⟨Nat.le_of_ble_eq_true rfl, Nat.le_of_ble_eq_true rfl⟩ (fun H locs hW => ?_)
    have hW : kw D A s.heap (wM c a (pu φ 5 (kc (1))) δ) H locs := hW
    refine kb_eq S (tgt := 33) dX3_vanes_19 (by decide) (fun c_19 => ?_) (fun c_19 => ?_)
    · refine lv_iconst (v := nI (0)) S.1 S.2.1 dX3_vanes_33 rfl ?_
      exact hret 34 _ _ _ _ _ dX3_vanes_34 hW (rfl) (rfl)
    · exact absurd c_19 (by decide)
  · exact absurd (hin.symm.trans c_8) (by decide)
set_option maxHeartbeats 400000 in
set_option maxRecDepth 100000 in
theorem mX3_vanes_k (l : Launch) (D : va_G) (c : Nat → ClassId) (a : Nat → Nat) (φ : Nat → Nat → Nat) (δ : Int64) (sz : Nat) (n : Nat) (h1 : 1 ≤ n) (h2 : n ≤ 9) (hk : φ 6 0 ≤ 6) : MI l yX3_vanes wsX3_vanes rmX3_vanes D c sz (wM c a φ δ) [.ref (a 0), .int (nI (n))] (nI (φ 0 136)) (wM c a (pu (pu (pu (pu φ 2 (svf (φ 2) (φ 0) (φ 6 0))) 6 (kc (svn (φ 6 0)))) 5 (kc (0))) 0 (fu (φ 0) 136 n)) δ) := by
  refine MI.of (cc := cX3_vanes) (maxL := 2) (ty := .int) (by decide) rfl (Nat.le_of_ble_eq_true rfl) rfl ?_
  intro P e s m below meth cd A Q ls hsz S hK hW hA hl hret
  have hl : lv_has ls 2 [(0, .ref (a 0)), (1, .int (nI (n)))] := hl
  have hin : inb (nI (n)) (nI (1)) (nI (9)) = true := inb_t (by omega) (by omega) (by decide)
  refine lv_aload_n S.1 S.2.1 dX3_vanes_0 rfl (lv_at hl 0 rfl) ?_
  refine lv_iload_n S.1 S.2.1 dX3_vanes_1 rfl (lv_at hl 1 rfl) ?_
  refine lv_iconst (v := nI (1)) S.1 S.2.1 dX3_vanes_2 rfl ?_
  refine lv_bipush (v := nI (9)) S.1 S.2.1 dX3_vanes_3 rfl ?_
  refine k_SI (rest := [.ref (a 0)]) S hK hl.1 hW (KFr.nil hW hA) (mX3_in l D c  _ (nI (n)) (nI (1)) (nI (9))) gX3_vanes_X3_in rfl pdX3_in ⟨⟨rfl, rfl⟩, Nat.le_of_ble_eq_true rfl, Nat.le_of_ble_eq_true rfl⟩ rfl (Nat.le_of_ble_eq_true rfl) dX3_vanes_5 ⟨Nat.le_of_ble_eq_true rfl, Nat.le_of_ble_eq_true rfl⟩ (fun H locs hW => ?_)
  have hW : kw D A s.heap (wM c a φ δ) H locs := hW
  refine kb_eq S (tgt := 15) dX3_vanes_8 (by decide) (fun c_8 => ?_) (fun c_8 => ?_)
  · exact absurd (hin.symm.trans c_8) (by decide)
  · refine lv_iconst (v := nI (0)) S.1 S.2.1 dX3_vanes_11 rfl ?_
    refine lv_goto (tgt := 16) S.1 S.2.1 dX3_vanes_12 (by decide) ?_
    refine k_VI (rest := []) S hK hl.1 hW (KFr.all hW hA) (mX3_holds l D c a φ δ _ 0 (by first | omega | exact hw | assumption)) gX3_vanes_X3_holds rfl pdX3_holds ⟨⟨rfl, rfl⟩, Nat.le_of_ble_eq_true rfl, Nat.le_of_ble_eq_true rfl⟩ 0 3 rfl rfl rfl rfl (Nat.le_of_ble_eq_true rfl) dX3_vanes_16 ⟨Nat.le_of_ble_eq_true rfl, Nat.le_of_ble_eq_true rfl⟩ (fun H locs hW => ?_)
    have hW : kw D A s.heap (wM c a (pu φ 5 (kc (0))) δ) H locs := hW
    refine kb_eq S (tgt := 33) dX3_vanes_19 (by decide) (fun c_19 => ?_) (fun c_19 => ?_)
    · exact absurd c_19 (by decide)
    · refine lv_aload_n S.1 S.2.1 dX3_vanes_22 rfl (lv_at hl 0 rfl) ?_
      refine lv_sipush (v := nI (136)) S.1 S.2.1 dX3_vanes_23 rfl ?_
      refine lv_iload_n S.1 S.2.1 dX3_vanes_26 rfl (lv_at hl 1 rfl) ?_
      refine k_VI (rest := []) S hK hl.1 hW (KFr.all hW hA) (mX3_becomes l D c a ((pu φ 5 (kc (0)))) δ _ 136 n (by first | omega | exact hk | assumption) (by first | omega | exact hi | assumption)) gX3_vanes_X3_becomes rfl pdX3_becomes ⟨⟨rfl, rfl⟩, Nat.le_of_ble_eq_true rfl, Nat.le_of_ble_eq_true rfl⟩ 0 3 rfl rfl rfl rfl (Nat.le_of_ble_eq_true rfl) dX3_vanes_27 ⟨Nat.le_of_ble_eq_true rfl, Nat.le_of_ble_eq_true rfl⟩ (fun H locs hW => ?_)
      have hW : kw D A s.heap (wM c a (pu (pu (pu (pu φ 5 (kc (0))) 0 (fu ((φ 0)) 136 n)) 2 (svf ((φ 2)) ((φ 0)) (((φ 6) 0)))) 6 (kc (svn (((φ 6) 0))))) δ) H locs := hW
      refine k_top (y := nI ((φ 0) 136)) rfl ?_
      refine lv_goto (tgt := 34) S.1 S.2.1 dX3_vanes_30 (by decide) ?_
      exact hret 34 _ _ _ _ _ dX3_vanes_34 hW (rfl) (rfl)
abbrev rmX3_shift : Room := { frames := 2, cells := 0, slots := 0, locals := 44 }
theorem pdX3_shift : kPd yX3_shift 1 := by decide +kernel
set_option maxHeartbeats 400000 in
set_option maxRecDepth 100000 in
theorem mX3_shift_x1 (l : Launch) (D : va_G) (c : Nat → ClassId) (a : Nat → Nat) (φ : Nat → Nat → Nat) (δ : Int64) (sz : Nat) (n : Int32) (hin : inb n (nI 0) (nI 2) = false) : MI l yX3_shift wsX3_shift rmX3_shift D c sz (wM c a φ δ) [.ref (a 0), .int (n)] (nI (0)) (wM c a (pu φ 5 (kc (1))) δ) := by
  refine MI.of (cc := cX3_shift) (maxL := 2) (ty := .int) (by decide) rfl (Nat.le_of_ble_eq_true rfl) rfl ?_
  intro P e s m below meth cd A Q ls hsz S hK hW hA hl hret
  have hl : lv_has ls 2 [(0, .ref (a 0)), (1, .int (n))] := hl
  refine lv_aload_n S.1 S.2.1 dX3_shift_0 rfl (lv_at hl 0 rfl) ?_
  refine lv_iload_n S.1 S.2.1 dX3_shift_1 rfl (lv_at hl 1 rfl) ?_
  refine k_SI (rest := [.ref (a 0)]) S hK hl.1 hW (KFr.nil hW hA) (mX3_isTune l D c  _ n) gX3_shift_X3_isTune rfl pdX3_isTune ⟨⟨rfl, rfl⟩, Nat.le_of_ble_eq_true rfl, Nat.le_of_ble_eq_true rfl⟩ rfl (Nat.le_of_ble_eq_true rfl) dX3_shift_2 ⟨Nat.le_of_ble_eq_true rfl, Nat.le_of_ble_eq_true rfl⟩ (fun H locs hW => ?_)
  have hW : kw D A s.heap (wM c a φ δ) H locs := hW
  refine kb_eq S (tgt := 12) dX3_shift_5 (by decide) (fun c_5 => ?_) (fun c_5 => ?_)
  · refine lv_iconst (v := nI (1)) S.1 S.2.1 dX3_shift_12 rfl ?_
    refine k_VI (rest := []) S hK hl.1 hW (KFr.all hW hA) (mX3_holds l D c a φ δ _ 1 (by first | omega | exact hw | assumption)) gX3_shift_X3_holds rfl pdX3_holds ⟨⟨rfl, rfl⟩, Nat.le_of_ble_eq_true rfl, Nat.le_of_ble_eq_true rfl⟩ 0 3 rfl rfl rfl rfl (Nat.le_of_ble_eq_true rfl) dX3_shift_13 ⟨Nat.le_of_ble_eq_true rfl, Nat.le_of_ble_eq_true rfl⟩ (fun H locs hW => ?_)
    have hW : kw D A s.heap (wM c a (pu φ 5 (kc (1))) δ) H locs := hW
    refine kb_eq S (tgt := 30) dX3_shift_16 (by decide) (fun c_16 => ?_) (fun c_16 => ?_)
    · refine lv_iconst (v := nI (0)) S.1 S.2.1 dX3_shift_30 rfl ?_
      exact hret 31 _ _ _ _ _ dX3_shift_31 hW (rfl) (rfl)
    · exact absurd c_16 (by decide)
  · exact absurd (hin.symm.trans c_5) (by decide)
set_option maxHeartbeats 400000 in
set_option maxRecDepth 100000 in
theorem mX3_shift_k (l : Launch) (D : va_G) (c : Nat → ClassId) (a : Nat → Nat) (φ : Nat → Nat → Nat) (δ : Int64) (sz : Nat) (n : Nat) (h1 : 0 ≤ n) (h2 : n ≤ 2) (hk : φ 6 0 ≤ 6) : MI l yX3_shift wsX3_shift rmX3_shift D c sz (wM c a φ δ) [.ref (a 0), .int (nI (n))] (nI (φ 0 134)) (wM c a (pu (pu (pu (pu φ 2 (svf (φ 2) (φ 0) (φ 6 0))) 6 (kc (svn (φ 6 0)))) 5 (kc (0))) 0 (fu (φ 0) 134 n)) δ) := by
  refine MI.of (cc := cX3_shift) (maxL := 2) (ty := .int) (by decide) rfl (Nat.le_of_ble_eq_true rfl) rfl ?_
  intro P e s m below meth cd A Q ls hsz S hK hW hA hl hret
  have hl : lv_has ls 2 [(0, .ref (a 0)), (1, .int (nI (n)))] := hl
  have hin : inb (nI (n)) (nI 0) (nI 2) = true := inb_t (by omega) (by omega) (by decide)
  refine lv_aload_n S.1 S.2.1 dX3_shift_0 rfl (lv_at hl 0 rfl) ?_
  refine lv_iload_n S.1 S.2.1 dX3_shift_1 rfl (lv_at hl 1 rfl) ?_
  refine k_SI (rest := [.ref (a 0)]) S hK hl.1 hW (KFr.nil hW hA) (mX3_isTune l D c  _ (nI (n))) gX3_shift_X3_isTune rfl pdX3_isTune ⟨⟨rfl, rfl⟩, Nat.le_of_ble_eq_true rfl, Nat.le_of_ble_eq_true rfl⟩ rfl (Nat.le_of_ble_eq_true rfl) dX3_shift_2 ⟨Nat.le_of_ble_eq_true rfl, Nat.le_of_ble_eq_true rfl⟩ (fun H locs hW => ?_)
  have hW : kw D A s.heap (wM c a φ δ) H locs := hW
  refine kb_eq S (tgt := 12) dX3_shift_5 (by decide) (fun c_5 => ?_) (fun c_5 => ?_)
  · exact absurd (hin.symm.trans c_5) (by decide)
  · refine lv_iconst (v := nI (0)) S.1 S.2.1 dX3_shift_8 rfl ?_
    refine lv_goto (tgt := 13) S.1 S.2.1 dX3_shift_9 (by decide) ?_
    refine k_VI (rest := []) S hK hl.1 hW (KFr.all hW hA) (mX3_holds l D c a φ δ _ 0 (by first | omega | exact hw | assumption)) gX3_shift_X3_holds rfl pdX3_holds ⟨⟨rfl, rfl⟩, Nat.le_of_ble_eq_true rfl, Nat.le_of_ble_eq_true rfl⟩ 0 3 rfl rfl rfl rfl (Nat.le_of_ble_eq_true rfl) dX3_shift_13 ⟨Nat.le_of_ble_eq_true rfl, Nat.le_of_ble_eq_true rfl⟩ (fun H locs hW => ?_)
    have hW : kw D A s.heap (wM c a (pu φ 5 (kc (0))) δ) H locs := hW
    refine kb_eq S (tgt := 30) dX3_shift_16 (by decide) (fun c_16 => ?_) (fun c_16 => ?_)
    · exact absurd c_16 (by decide)
    · refine lv_aload_n S.1 S.2.1 dX3_shift_19 rfl (lv_at hl 0 rfl) ?_
      refine lv_sipush (v := nI (134)) S.1 S.2.1 dX3_shift_20 rfl ?_
      refine lv_iload_n S.1 S.2.1 dX3_shift_23 rfl (lv_at hl 1 rfl) ?_
      refine k_VI (rest := []) S hK hl.1 hW (KFr.all hW hA) (mX3_becomes l D c a ((pu φ 5 (kc (0)))) δ _ 134 n (by first | omega | exact hk | assumption) (by first | omega | exact hi | assumption)) gX3_shift_X3_becomes rfl pdX3_becomes ⟨⟨rfl, rfl⟩, Nat.le_of_ble_eq_true rfl, Nat.le_of_ble_eq_true rfl⟩ 0 3 rfl rfl rfl rfl (Nat.le_of_ble_eq_true rfl) dX3_shift_24 ⟨Nat.le_of_ble_eq_true rfl, Nat.le_of_ble_eq_true rfl⟩ (fun H locs hW => ?_)
      have hW : kw D A s.heap (wM c a (pu (pu (pu (pu φ 5 (kc (0))) 0 (fu ((φ 0)) 134 n)) 2 (svf ((φ 2)) ((φ 0)) (((φ 6) 0)))) 6 (kc (svn (((φ 6) 0))))) δ) H locs := hW
      refine k_top (y := nI ((φ 0) 134)) rfl ?_
      refine lv_goto (tgt := 31) S.1 S.2.1 dX3_shift_27 (by decide) ?_
      exact hret 31 _ _ _ _ _ dX3_shift_31 hW (rfl) (rfl)
abbrev rmX3_play : Room := { frames := 5, cells := 0, slots := 0, locals := 112 }
theorem pdX3_play : kPd yX3_play 1 := by decide +kernel
set_option maxHeartbeats 400000 in
set_option maxRecDepth 100000 in
theorem mX3_play_x1 (l : Launch) (D : va_G) (c : Nat → ClassId) (a : Nat → Nat) (φ : Nat → Nat → Nat) (δ : Int64) (sz : Nat) (n : Int32) (hin : inb n (nI (1)) (nI (128)) = false) : MI l yX3_play wsX3_play rmX3_play D c sz (wM c a φ δ) [.ref (a 0), .int (n)] (nI (0)) (wM c a (pu φ 5 (kc (1))) δ) := by
  refine MI.of (cc := cX3_play) (maxL := 2) (ty := .int) (by decide) rfl (Nat.le_of_ble_eq_true rfl) rfl ?_
  intro P e s m below meth cd A Q ls hsz S hK hW hA hl hret
  have hl : lv_has ls 2 [(0, .ref (a 0)), (1, .int (n))] := hl
  refine lv_aload_n S.1 S.2.1 dX3_play_0 rfl (lv_at hl 0 rfl) ?_
  refine lv_iload_n S.1 S.2.1 dX3_play_1 rfl (lv_at hl 1 rfl) ?_
  refine lv_iconst (v := nI (1)) S.1 S.2.1 dX3_play_2 rfl ?_
  refine lv_sipush (v := nI (128)) S.1 S.2.1 dX3_play_3 rfl ?_
  refine k_SI (rest := [.ref (a 0)]) S hK hl.1 hW (KFr.nil hW hA) (mX3_in l D c  _ n (nI (1)) (nI (128))) gX3_play_X3_in rfl pdX3_in ⟨⟨rfl, rfl⟩, Nat.le_of_ble_eq_true rfl, Nat.le_of_ble_eq_true rfl⟩ rfl (Nat.le_of_ble_eq_true rfl) dX3_play_6 ⟨Nat.le_of_ble_eq_true rfl, Nat.le_of_ble_eq_true rfl⟩ (fun H locs hW => ?_)
  have hW : kw D A s.heap (wM c a φ δ) H locs := hW
  refine kb_eq S (tgt := 16) dX3_play_9 (by decide) (fun c_9 => ?_) (fun c_9 => ?_)
  · refine lv_iconst (v := nI (1)) S.1 S.2.1 dX3_play_16 rfl ?_
    refine k_VI (rest := []) S hK hl.1 hW (KFr.all hW hA) (mX3_holds l D c a φ δ _ 1 (by first | omega | exact hw | assumption)) gX3_play_X3_holds rfl pdX3_holds ⟨⟨rfl, rfl⟩, Nat.le_of_ble_eq_true rfl, Nat.le_of_ble_eq_true rfl⟩ 0 3 rfl rfl rfl rfl (Nat.le_of_ble_eq_true rfl) dX3_play_17 ⟨Nat.le_of_ble_eq_true rfl, Nat.le_of_ble_eq_true rfl⟩ (fun H locs hW => ?_)
    have hW : kw D A s.heap (wM c a (pu φ 5 (kc (1))) δ) H locs := hW
    refine kb_ne S (tgt := 25) dX3_play_20 (by decide) (fun c_20 => ?_) (fun c_20 => ?_)
    · exact absurd c_20 (by decide)
    · refine lv_iconst (v := nI (0)) S.1 S.2.1 dX3_play_23 rfl ?_
      exact hret 24 _ _ _ _ _ dX3_play_24 hW (rfl) (rfl)
  · exact absurd (hin.symm.trans c_9) (by decide)
set_option maxHeartbeats 400000 in
set_option maxRecDepth 100000 in
theorem mX3_play_k (l : Launch) (D : va_G) (c : Nat → ClassId) (a : Nat → Nat) (φ : Nat → Nat → Nat) (δ : Int64) (sz : Nat) (n : Nat) (h1 : 1 ≤ n) (h2 : n ≤ 128) (ok : okM (φ 0)) (hk : φ 6 0 ≤ 6) : MI l yX3_play wsX3_play rmX3_play D c sz (wM c a φ δ) [.ref (a 0), .int (nI (n))] (nI ((on n (φ 0)).1)) (wM c a (pu (pu (pu (pu φ 2 (svf (φ 2) (φ 0) (φ 6 0))) 6 (kc (svn (φ 6 0)))) 5 (kc (0))) 0 ((on n (φ 0)).2)) δ) := by
  refine MI.of (cc := cX3_play) (maxL := 2) (ty := .int) (by decide) rfl (Nat.le_of_ble_eq_true rfl) rfl ?_
  intro P e s m below meth cd A Q ls hsz S hK hW hA hl hret
  have hl : lv_has ls 2 [(0, .ref (a 0)), (1, .int (nI (n)))] := hl
  have hin : inb (nI (n)) (nI (1)) (nI (128)) = true := inb_t (by omega) (by omega) (by decide)
  refine lv_aload_n S.1 S.2.1 dX3_play_0 rfl (lv_at hl 0 rfl) ?_
  refine lv_iload_n S.1 S.2.1 dX3_play_1 rfl (lv_at hl 1 rfl) ?_
  refine lv_iconst (v := nI (1)) S.1 S.2.1 dX3_play_2 rfl ?_
  refine lv_sipush (v := nI (128)) S.1 S.2.1 dX3_play_3 rfl ?_
  refine k_SI (rest := [.ref (a 0)]) S hK hl.1 hW (KFr.nil hW hA) (mX3_in l D c  _ (nI (n)) (nI (1)) (nI (128))) gX3_play_X3_in rfl pdX3_in ⟨⟨rfl, rfl⟩, Nat.le_of_ble_eq_true rfl, Nat.le_of_ble_eq_true rfl⟩ rfl (Nat.le_of_ble_eq_true rfl) dX3_play_6 ⟨Nat.le_of_ble_eq_true rfl, Nat.le_of_ble_eq_true rfl⟩ (fun H locs hW => ?_)
  have hW : kw D A s.heap (wM c a φ δ) H locs := hW
  refine kb_eq S (tgt := 16) dX3_play_9 (by decide) (fun c_9 => ?_) (fun c_9 => ?_)
  · exact absurd (hin.symm.trans c_9) (by decide)
  · refine lv_iconst (v := nI (0)) S.1 S.2.1 dX3_play_12 rfl ?_
    refine lv_goto (tgt := 17) S.1 S.2.1 dX3_play_13 (by decide) ?_
    refine k_VI (rest := []) S hK hl.1 hW (KFr.all hW hA) (mX3_holds l D c a φ δ _ 0 (by first | omega | exact hw | assumption)) gX3_play_X3_holds rfl pdX3_holds ⟨⟨rfl, rfl⟩, Nat.le_of_ble_eq_true rfl, Nat.le_of_ble_eq_true rfl⟩ 0 3 rfl rfl rfl rfl (Nat.le_of_ble_eq_true rfl) dX3_play_17 ⟨Nat.le_of_ble_eq_true rfl, Nat.le_of_ble_eq_true rfl⟩ (fun H locs hW => ?_)
    have hW : kw D A s.heap (wM c a (pu φ 5 (kc (0))) δ) H locs := hW
    refine kb_ne S (tgt := 25) dX3_play_20 (by decide) (fun c_20 => ?_) (fun c_20 => ?_)
    · refine lv_aload_n S.1 S.2.1 dX3_play_25 rfl (lv_at hl 0 rfl) ?_
      refine k_VV (rest := []) S hK hl.1 hW (KFr.all hW hA) (mX3_save l D c a ((pu φ 5 (kc (0)))) δ _ (by first | omega | exact hk | assumption)) gX3_play_X3_save rfl pdX3_save ⟨⟨rfl, rfl⟩, Nat.le_of_ble_eq_true rfl, Nat.le_of_ble_eq_true rfl⟩ 0 3 rfl rfl rfl rfl (Nat.le_of_ble_eq_true rfl) dX3_play_26 ⟨Nat.le_of_ble_eq_true rfl, Nat.le_of_ble_eq_true rfl⟩ (fun H locs hW => ?_)
      have hW : kw D A s.heap (wM c a (pu (pu (pu φ 5 (kc (0))) 2 (svf ((φ 2)) ((φ 0)) (((φ 6) 0)))) 6 (kc (svn (((φ 6) 0))))) δ) H locs := hW
      refine lv_aload_n S.1 S.2.1 dX3_play_29 rfl (lv_at hl 0 rfl) ?_
      refine lv_iload_n S.1 S.2.1 dX3_play_30 rfl (lv_at hl 1 rfl) ?_
      refine k_VI (rest := []) S hK hl.1 hW (KFr.all hW hA) (mX3_goesOn l D c a ((pu (pu (pu φ 5 (kc (0))) 2 (svf ((φ 2)) ((φ 0)) (((φ 6) 0)))) 6 (kc (svn (((φ 6) 0)))))) δ _ n (by first | omega | exact ok | assumption) (by first | omega | exact hn | assumption)) gX3_play_X3_goesOn rfl pdX3_goesOn ⟨⟨rfl, rfl⟩, Nat.le_of_ble_eq_true rfl, Nat.le_of_ble_eq_true rfl⟩ 0 3 rfl rfl rfl rfl (Nat.le_of_ble_eq_true rfl) dX3_play_31 ⟨Nat.le_of_ble_eq_true rfl, Nat.le_of_ble_eq_true rfl⟩ (fun H locs hW => ?_)
      have hW : kw D A s.heap (wM c a (pu (pu (pu (pu φ 5 (kc (0))) 2 (svf ((φ 2)) ((φ 0)) (((φ 6) 0)))) 6 (kc (svn (((φ 6) 0))))) 0 ((on n ((φ 0))).2)) δ) H locs := hW
      refine k_top (y := nI ((on n ((φ 0))).1)) rfl ?_
      exact hret 34 _ _ _ _ _ dX3_play_34 hW (rfl) (rfl)
    · exact absurd c_20 (by decide)
abbrev rmX3_mend : Room := { frames := 2, cells := 0, slots := 0, locals := 44 }
theorem pdX3_mend : kPd yX3_mend 1 := by decide +kernel
set_option maxHeartbeats 400000 in
set_option maxRecDepth 100000 in
theorem mX3_mend_x1 (l : Launch) (D : va_G) (c : Nat → ClassId) (a : Nat → Nat) (φ : Nat → Nat → Nat) (δ : Int64) (sz : Nat) (j : Int32) (hin : inb j (nI 0) (nI 11) = false) : MI l yX3_mend wsX3_mend rmX3_mend D c sz (wM c a φ δ) [.ref (a 0), .int (j)] (nI (0)) (wM c a (pu φ 5 (kc (1))) δ) := by
  refine MI.of (cc := cX3_mend) (maxL := 3) (ty := .int) (by decide) rfl (Nat.le_of_ble_eq_true rfl) rfl ?_
  intro P e s m below meth cd A Q ls hsz S hK hW hA hl hret
  have hl : lv_has ls 3 [(0, .ref (a 0)), (1, .int (j))] := hl
  refine lv_aload_n S.1 S.2.1 dX3_mend_0 rfl (lv_at hl 0 rfl) ?_
  refine lv_iload_n S.1 S.2.1 dX3_mend_1 rfl (lv_at hl 1 rfl) ?_
  refine k_SI (rest := [.ref (a 0)]) S hK hl.1 hW (KFr.nil hW hA) (mX3_isTooth l D c  _ j) gX3_mend_X3_isTooth rfl pdX3_isTooth ⟨⟨rfl, rfl⟩, Nat.le_of_ble_eq_true rfl, Nat.le_of_ble_eq_true rfl⟩ rfl (Nat.le_of_ble_eq_true rfl) dX3_mend_2 ⟨Nat.le_of_ble_eq_true rfl, Nat.le_of_ble_eq_true rfl⟩ (fun H locs hW => ?_)
  have hW : kw D A s.heap (wM c a φ δ) H locs := hW
  refine kb_eq S (tgt := 12) dX3_mend_5 (by decide) (fun c_5 => ?_) (fun c_5 => ?_)
  · refine lv_iconst (v := nI (1)) S.1 S.2.1 dX3_mend_12 rfl ?_
    refine k_VI (rest := []) S hK hl.1 hW (KFr.all hW hA) (mX3_holds l D c a φ δ _ 1 (by first | omega | exact hw | assumption)) gX3_mend_X3_holds rfl pdX3_holds ⟨⟨rfl, rfl⟩, Nat.le_of_ble_eq_true rfl, Nat.le_of_ble_eq_true rfl⟩ 0 3 rfl rfl rfl rfl (Nat.le_of_ble_eq_true rfl) dX3_mend_13 ⟨Nat.le_of_ble_eq_true rfl, Nat.le_of_ble_eq_true rfl⟩ (fun H locs hW => ?_)
    have hW : kw D A s.heap (wM c a (pu φ 5 (kc (1))) δ) H locs := hW
    refine kb_ne S (tgt := 21) dX3_mend_16 (by decide) (fun c_16 => ?_) (fun c_16 => ?_)
    · exact absurd c_16 (by decide)
    · refine lv_iconst (v := nI (0)) S.1 S.2.1 dX3_mend_19 rfl ?_
      exact hret 20 _ _ _ _ _ dX3_mend_20 hW (rfl) (rfl)
  · exact absurd (hin.symm.trans c_5) (by decide)
set_option maxHeartbeats 400000 in
set_option maxRecDepth 100000 in
theorem mX3_mend_k (l : Launch) (D : va_G) (c : Nat → ClassId) (a : Nat → Nat) (φ : Nat → Nat → Nat) (δ : Int64) (sz : Nat) (j : Nat) (h1 : 0 ≤ j) (h2 : j ≤ 11) (hk : φ 6 0 ≤ 6) : MI l yX3_mend wsX3_mend rmX3_mend D c sz (wM c a φ δ) [.ref (a 0), .int (nI (j))] (nI (φ 0 (36 + 4 * j + 1))) (wM c a (pu (pu (pu (pu φ 2 (svf (φ 2) (φ 0) (φ 6 0))) 6 (kc (svn (φ 6 0)))) 5 (kc (0))) 0 (fu (fu (fu (φ 0) (36 + 4 * j + 1) 0) (36 + 4 * j + 0) 0) (36 + 4 * j + 2) 0)) δ) := by
  refine MI.of (cc := cX3_mend) (maxL := 3) (ty := .int) (by decide) rfl (Nat.le_of_ble_eq_true rfl) rfl ?_
  intro P e s m below meth cd A Q ls hsz S hK hW hA hl hret
  have hl : lv_has ls 3 [(0, .ref (a 0)), (1, .int (nI (j)))] := hl
  have hinX3 : ∀ w ∈ u_ws RX3 TX3 13, w ∈ wsX3_mend := by decide +kernel
  have hin : inb (nI (j)) (nI 0) (nI 11) = true := inb_t (by omega) (by omega) (by decide)
  refine lv_aload_n S.1 S.2.1 dX3_mend_0 rfl (lv_at hl 0 rfl) ?_
  refine lv_iload_n S.1 S.2.1 dX3_mend_1 rfl (lv_at hl 1 rfl) ?_
  refine k_SI (rest := [.ref (a 0)]) S hK hl.1 hW (KFr.nil hW hA) (mX3_isTooth l D c  _ (nI (j))) gX3_mend_X3_isTooth rfl pdX3_isTooth ⟨⟨rfl, rfl⟩, Nat.le_of_ble_eq_true rfl, Nat.le_of_ble_eq_true rfl⟩ rfl (Nat.le_of_ble_eq_true rfl) dX3_mend_2 ⟨Nat.le_of_ble_eq_true rfl, Nat.le_of_ble_eq_true rfl⟩ (fun H locs hW => ?_)
  have hW : kw D A s.heap (wM c a φ δ) H locs := hW
  refine kb_eq S (tgt := 12) dX3_mend_5 (by decide) (fun c_5 => ?_) (fun c_5 => ?_)
  · exact absurd (hin.symm.trans c_5) (by decide)
  · refine lv_iconst (v := nI (0)) S.1 S.2.1 dX3_mend_8 rfl ?_
    refine lv_goto (tgt := 13) S.1 S.2.1 dX3_mend_9 (by decide) ?_
    refine k_VI (rest := []) S hK hl.1 hW (KFr.all hW hA) (mX3_holds l D c a φ δ _ 0 (by first | omega | exact hw | assumption)) gX3_mend_X3_holds rfl pdX3_holds ⟨⟨rfl, rfl⟩, Nat.le_of_ble_eq_true rfl, Nat.le_of_ble_eq_true rfl⟩ 0 3 rfl rfl rfl rfl (Nat.le_of_ble_eq_true rfl) dX3_mend_13 ⟨Nat.le_of_ble_eq_true rfl, Nat.le_of_ble_eq_true rfl⟩ (fun H locs hW => ?_)
    have hW : kw D A s.heap (wM c a (pu φ 5 (kc (0))) δ) H locs := hW
    refine kb_ne S (tgt := 21) dX3_mend_16 (by decide) (fun c_16 => ?_) (fun c_16 => ?_)
    · refine lv_aload_n S.1 S.2.1 dX3_mend_21 rfl (lv_at hl 0 rfl) ?_
      refine lv_iload_n S.1 S.2.1 dX3_mend_22 rfl (lv_at hl 1 rfl) ?_
      refine lv_iconst (v := nI (1)) S.1 S.2.1 dX3_mend_23 rfl ?_
      refine k_SI (rest := [.ref (a 0)]) S hK hl.1 hW (KFr.nil hW hA) (mX3_of l D c  _ j 1) gX3_mend_X3_of rfl pdX3_of ⟨⟨rfl, rfl⟩, Nat.le_of_ble_eq_true rfl, Nat.le_of_ble_eq_true rfl⟩ rfl (Nat.le_of_ble_eq_true rfl) dX3_mend_24 ⟨Nat.le_of_ble_eq_true rfl, Nat.le_of_ble_eq_true rfl⟩ (fun H locs hW => ?_)
      have hW : kw D A s.heap (wM c a (pu φ 5 (kc (0))) δ) H locs := hW
      refine lv_iconst (v := nI (0)) S.1 S.2.1 dX3_mend_27 rfl ?_
      refine k_VI (rest := []) S hK hl.1 hW (KFr.all hW hA) (mX3_becomes l D c a ((pu φ 5 (kc (0)))) δ _ (36 + 4 * j + 1) 0 (by first | omega | exact hk | assumption) (by first | omega | exact hi | assumption)) gX3_mend_X3_becomes rfl pdX3_becomes ⟨⟨rfl, rfl⟩, Nat.le_of_ble_eq_true rfl, Nat.le_of_ble_eq_true rfl⟩ 0 3 rfl rfl rfl rfl (Nat.le_of_ble_eq_true rfl) dX3_mend_28 ⟨Nat.le_of_ble_eq_true rfl, Nat.le_of_ble_eq_true rfl⟩ (fun H locs hW => ?_)
      have hW : kw D A s.heap (wM c a (pu (pu (pu (pu φ 5 (kc (0))) 0 (fu ((φ 0)) (36 + 4 * j + 1) 0)) 2 (svf ((φ 2)) ((φ 0)) (((φ 6) 0)))) 6 (kc (svn (((φ 6) 0))))) δ) H locs := hW
      refine k_top (y := nI ((φ 0) (36 + 4 * j + 1))) rfl ?_
      refine lv_istore_n (lv' := [(2, .int (nI ((φ 0) (36 + 4 * j + 1)))), (0, .ref (a 0)), (1, .int (nI (j)))]) S.1 S.2.1 dX3_mend_31 rfl hl (by decide) rfl (fun ls hl => ?_)
      refine lv_aload_n S.1 S.2.1 dX3_mend_32 rfl (lv_at hl 1 rfl) ?_
      refine kx_get S hK hW hinX3 0 3 rfl rfl 1 (by decide) (List.mem_of_getElem? (i := 1) rfl) (v := .ref (a 1)) rfl dX3_mend_33 ?_
      refine lv_iload_n S.1 S.2.1 dX3_mend_36 rfl (lv_at hl 2 rfl) ?_
      refine lv_iconst (v := nI (0)) S.1 S.2.1 dX3_mend_37 rfl ?_
      refine k_SI (rest := [.ref (a 1)]) S hK hl.1 hW (KFr.nil hW hA) (mX3_of l D c  _ j 0) gX3_mend_X3_of rfl pdX3_of ⟨⟨rfl, rfl⟩, Nat.le_of_ble_eq_true rfl, Nat.le_of_ble_eq_true rfl⟩ rfl (Nat.le_of_ble_eq_true rfl) dX3_mend_38 ⟨Nat.le_of_ble_eq_true rfl, Nat.le_of_ble_eq_true rfl⟩ (fun H locs hW => ?_)
      have hW : kw D A s.heap (wM c a (pu (pu (pu (pu φ 5 (kc (0))) 0 (fu ((φ 0)) (36 + 4 * j + 1) 0)) 2 (svf ((φ 2)) ((φ 0)) (((φ 6) 0)))) 6 (kc (svn (((φ 6) 0))))) δ) H locs := hW
      refine lv_iconst (v := nI (0)) S.1 S.2.1 dX3_mend_41 rfl ?_
      refine kn_ast S hK hW 1 (f := fu ((φ 0)) (36 + 4 * j + 1) 0) rfl (by omega) (by decide) dX3_mend_42 (fun H locs hW => ?_)
      have hW : kw D A s.heap (wM c a (pu (pu (pu (pu φ 5 (kc (0))) 2 (svf ((φ 2)) ((φ 0)) (((φ 6) 0)))) 6 (kc (svn (((φ 6) 0))))) 0 (fu (fu ((φ 0)) (36 + 4 * j + 1) 0) (36 + 4 * j + 0) 0)) δ) H locs := hW
      refine lv_aload_n S.1 S.2.1 dX3_mend_43 rfl (lv_at hl 1 rfl) ?_
      refine kx_get S hK hW hinX3 0 3 rfl rfl 1 (by decide) (List.mem_of_getElem? (i := 1) rfl) (v := .ref (a 1)) rfl dX3_mend_44 ?_
      refine lv_iload_n S.1 S.2.1 dX3_mend_47 rfl (lv_at hl 2 rfl) ?_
      refine lv_iconst (v := nI (2)) S.1 S.2.1 dX3_mend_48 rfl ?_
      refine k_SI (rest := [.ref (a 1)]) S hK hl.1 hW (KFr.nil hW hA) (mX3_of l D c  _ j 2) gX3_mend_X3_of rfl pdX3_of ⟨⟨rfl, rfl⟩, Nat.le_of_ble_eq_true rfl, Nat.le_of_ble_eq_true rfl⟩ rfl (Nat.le_of_ble_eq_true rfl) dX3_mend_49 ⟨Nat.le_of_ble_eq_true rfl, Nat.le_of_ble_eq_true rfl⟩ (fun H locs hW => ?_)
      have hW : kw D A s.heap (wM c a (pu (pu (pu (pu φ 5 (kc (0))) 2 (svf ((φ 2)) ((φ 0)) (((φ 6) 0)))) 6 (kc (svn (((φ 6) 0))))) 0 (fu (fu ((φ 0)) (36 + 4 * j + 1) 0) (36 + 4 * j + 0) 0)) δ) H locs := hW
      refine lv_iconst (v := nI (0)) S.1 S.2.1 dX3_mend_52 rfl ?_
      refine kn_ast S hK hW 1 (f := fu (fu ((φ 0)) (36 + 4 * j + 1) 0) (36 + 4 * j + 0) 0) rfl (by omega) (by decide) dX3_mend_53 (fun H locs hW => ?_)
      have hW : kw D A s.heap (wM c a (pu (pu (pu (pu φ 5 (kc (0))) 2 (svf ((φ 2)) ((φ 0)) (((φ 6) 0)))) 6 (kc (svn (((φ 6) 0))))) 0 (fu (fu (fu ((φ 0)) (36 + 4 * j + 1) 0) (36 + 4 * j + 0) 0) (36 + 4 * j + 2) 0)) δ) H locs := hW
      refine lv_iload_n S.1 S.2.1 dX3_mend_54 rfl (lv_at hl 0 rfl) ?_
      exact hret 55 _ _ _ _ _ dX3_mend_55 hW (rfl) (rfl)
    · exact absurd c_16 (by decide)
abbrev rmX3_isValue : Room := { frames := 1, cells := 0, slots := 0, locals := 22 }
theorem pdX3_isValue : kPd yX3_isValue 2 := by decide +kernel
set_option maxHeartbeats 400000 in
set_option maxRecDepth 100000 in
theorem mX3_isValue (l : Launch) (D : va_G) (c : Nat → ClassId) (sz : Nat) (i : Nat) (v : Int32) (hi : i < 5) : MI l yX3_isValue wsX3_isValue rmX3_isValue D c sz [] [.int (nI (i)), .int (v)] (nI (inb v (nI (loS i)) (nI (hiS i))).toNat) [] := by
  refine MI.of (cc := cX3_isValue) (maxL := 2) (ty := .boolean) (by decide) rfl (Nat.le_of_ble_eq_true rfl) (k_narB _) ?_
  intro P e s m below meth cd A Q ls hsz S hK hW hA hl hret
  have hl : lv_has ls 2 [(0, .int (nI (i))), (1, .int (v))] := hl
  refine lv_iload_n S.1 S.2.1 dX3_isValue_0 rfl (lv_at hl 0 rfl) ?_
  rcases (show i = 0 ∨ i = 1 ∨ i = 2 ∨ i = 3 ∨ i = 4 from by omega) with rfl | rfl | rfl | rfl | rfl
  · skip
    refine lv_tableIn (tgt := 32) S.1 S.2.1 dX3_isValue_1 (by decide) (by decide) rfl (by decide) ?_
    refine lv_iload_n S.1 S.2.1 dX3_isValue_32 rfl (lv_at hl 1 rfl) ?_
    refine lv_iconst (v := nI (4)) S.1 S.2.1 dX3_isValue_33 rfl ?_
    refine lv_bipush (v := nI (90)) S.1 S.2.1 dX3_isValue_34 rfl ?_
    refine k_SI (rest := []) S hK hl.1 hW (KFr.nil hW hA) (mX3_in l D c  _ v (nI (4)) (nI (90))) gX3_isValue_X3_in rfl pdX3_in ⟨⟨rfl, rfl⟩, Nat.le_of_ble_eq_true rfl, Nat.le_of_ble_eq_true rfl⟩ rfl (Nat.le_of_ble_eq_true rfl) dX3_isValue_36 ⟨Nat.le_of_ble_eq_true rfl, Nat.le_of_ble_eq_true rfl⟩ (fun H locs hW => ?_)
    have hW : kw D A s.heap [] H locs := hW
    exact hret 39 _ _ _ _ _ dX3_isValue_39 hW (rfl) (rfl)
  · skip
    refine lv_tableIn (tgt := 40) S.1 S.2.1 dX3_isValue_1 (by decide) (by decide) rfl (by decide) ?_
    refine lv_iload_n S.1 S.2.1 dX3_isValue_40 rfl (lv_at hl 1 rfl) ?_
    refine lv_iconst (v := nI (0)) S.1 S.2.1 dX3_isValue_41 rfl ?_
    refine lv_bipush (v := nI (20)) S.1 S.2.1 dX3_isValue_42 rfl ?_
    refine k_SI (rest := []) S hK hl.1 hW (KFr.nil hW hA) (mX3_in l D c  _ v (nI (0)) (nI (20))) gX3_isValue_X3_in rfl pdX3_in ⟨⟨rfl, rfl⟩, Nat.le_of_ble_eq_true rfl, Nat.le_of_ble_eq_true rfl⟩ rfl (Nat.le_of_ble_eq_true rfl) dX3_isValue_44 ⟨Nat.le_of_ble_eq_true rfl, Nat.le_of_ble_eq_true rfl⟩ (fun H locs hW => ?_)
    have hW : kw D A s.heap [] H locs := hW
    exact hret 47 _ _ _ _ _ dX3_isValue_47 hW (rfl) (rfl)
  · skip
    refine lv_tableIn (tgt := 48) S.1 S.2.1 dX3_isValue_1 (by decide) (by decide) rfl (by decide) ?_
    refine lv_iload_n S.1 S.2.1 dX3_isValue_48 rfl (lv_at hl 1 rfl) ?_
    refine lv_iconst (v := nI (0)) S.1 S.2.1 dX3_isValue_49 rfl ?_
    refine lv_iconst (v := nI (1)) S.1 S.2.1 dX3_isValue_50 rfl ?_
    refine k_SI (rest := []) S hK hl.1 hW (KFr.nil hW hA) (mX3_in l D c  _ v (nI (0)) (nI (1))) gX3_isValue_X3_in rfl pdX3_in ⟨⟨rfl, rfl⟩, Nat.le_of_ble_eq_true rfl, Nat.le_of_ble_eq_true rfl⟩ rfl (Nat.le_of_ble_eq_true rfl) dX3_isValue_51 ⟨Nat.le_of_ble_eq_true rfl, Nat.le_of_ble_eq_true rfl⟩ (fun H locs hW => ?_)
    have hW : kw D A s.heap [] H locs := hW
    exact hret 54 _ _ _ _ _ dX3_isValue_54 hW (rfl) (rfl)
  · skip
    refine lv_tableIn (tgt := 55) S.1 S.2.1 dX3_isValue_1 (by decide) (by decide) rfl (by decide) ?_
    refine lv_iload_n S.1 S.2.1 dX3_isValue_55 rfl (lv_at hl 1 rfl) ?_
    refine lv_iconst (v := nI (1)) S.1 S.2.1 dX3_isValue_56 rfl ?_
    refine lv_bipush (v := nI (8)) S.1 S.2.1 dX3_isValue_57 rfl ?_
    refine k_SI (rest := []) S hK hl.1 hW (KFr.nil hW hA) (mX3_in l D c  _ v (nI (1)) (nI (8))) gX3_isValue_X3_in rfl pdX3_in ⟨⟨rfl, rfl⟩, Nat.le_of_ble_eq_true rfl, Nat.le_of_ble_eq_true rfl⟩ rfl (Nat.le_of_ble_eq_true rfl) dX3_isValue_59 ⟨Nat.le_of_ble_eq_true rfl, Nat.le_of_ble_eq_true rfl⟩ (fun H locs hW => ?_)
    have hW : kw D A s.heap [] H locs := hW
    exact hret 62 _ _ _ _ _ dX3_isValue_62 hW (rfl) (rfl)
  · skip
    refine lv_tableOut (tgt := 63) S.1 S.2.1 dX3_isValue_1 (by decide) (by decide) ?_
    refine lv_iload_n S.1 S.2.1 dX3_isValue_63 rfl (lv_at hl 1 rfl) ?_
    refine lv_iconst (v := nI (1)) S.1 S.2.1 dX3_isValue_64 rfl ?_
    refine lv_bipush (v := nI (12)) S.1 S.2.1 dX3_isValue_65 rfl ?_
    refine k_SI (rest := []) S hK hl.1 hW (KFr.nil hW hA) (mX3_in l D c  _ v (nI (1)) (nI (12))) gX3_isValue_X3_in rfl pdX3_in ⟨⟨rfl, rfl⟩, Nat.le_of_ble_eq_true rfl, Nat.le_of_ble_eq_true rfl⟩ rfl (Nat.le_of_ble_eq_true rfl) dX3_isValue_67 ⟨Nat.le_of_ble_eq_true rfl, Nat.le_of_ble_eq_true rfl⟩ (fun H locs hW => ?_)
    have hW : kw D A s.heap [] H locs := hW
    exact hret 70 _ _ _ _ _ dX3_isValue_70 hW (rfl) (rfl)
abbrev rmX3_set : Room := { frames := 2, cells := 0, slots := 0, locals := 44 }
theorem pdX3_set : kPd yX3_set 2 := by decide +kernel
set_option maxHeartbeats 400000 in
set_option maxRecDepth 100000 in
theorem mX3_set_x1 (l : Launch) (D : va_G) (c : Nat → ClassId) (a : Nat → Nat) (φ : Nat → Nat → Nat) (δ : Int64) (sz : Nat) (i : Int32) (v : Int32) (hin : inb i (nI (0)) (nI (4)) = false) : MI l yX3_set wsX3_set rmX3_set D c sz (wM c a φ δ) [.ref (a 0), .int (i), .int (v)] (nI (0)) (wM c a (pu φ 5 (kc (1))) δ) := by
  refine MI.of (cc := cX3_set) (maxL := 3) (ty := .int) (by decide) rfl (Nat.le_of_ble_eq_true rfl) rfl ?_
  intro P e s m below meth cd A Q ls hsz S hK hW hA hl hret
  have hl : lv_has ls 3 [(0, .ref (a 0)), (1, .int (i)), (2, .int (v))] := hl
  refine lv_aload_n S.1 S.2.1 dX3_set_0 rfl (lv_at hl 0 rfl) ?_
  refine lv_iload_n S.1 S.2.1 dX3_set_1 rfl (lv_at hl 1 rfl) ?_
  refine lv_iconst (v := nI (0)) S.1 S.2.1 dX3_set_2 rfl ?_
  refine lv_iconst (v := nI (4)) S.1 S.2.1 dX3_set_3 rfl ?_
  refine k_SI (rest := [.ref (a 0)]) S hK hl.1 hW (KFr.nil hW hA) (mX3_in l D c  _ i (nI (0)) (nI (4))) gX3_set_X3_in rfl pdX3_in ⟨⟨rfl, rfl⟩, Nat.le_of_ble_eq_true rfl, Nat.le_of_ble_eq_true rfl⟩ rfl (Nat.le_of_ble_eq_true rfl) dX3_set_4 ⟨Nat.le_of_ble_eq_true rfl, Nat.le_of_ble_eq_true rfl⟩ (fun H locs hW => ?_)
  have hW : kw D A s.heap (wM c a φ δ) H locs := hW
  refine kb_ne S (tgt := 14) dX3_set_7 (by decide) (fun c_7 => ?_) (fun c_7 => ?_)
  · exact absurd (hin.symm.trans c_7) (by decide)
  · refine lv_iconst (v := nI (1)) S.1 S.2.1 dX3_set_10 rfl ?_
    refine lv_goto (tgt := 27) S.1 S.2.1 dX3_set_11 (by decide) ?_
    refine k_VI (rest := []) S hK hl.1 hW (KFr.all hW hA) (mX3_holds l D c a φ δ _ 1 (by first | omega | exact hw | assumption)) gX3_set_X3_holds rfl pdX3_holds ⟨⟨rfl, rfl⟩, Nat.le_of_ble_eq_true rfl, Nat.le_of_ble_eq_true rfl⟩ 0 3 rfl rfl rfl rfl (Nat.le_of_ble_eq_true rfl) dX3_set_27 ⟨Nat.le_of_ble_eq_true rfl, Nat.le_of_ble_eq_true rfl⟩ (fun H locs hW => ?_)
    have hW : kw D A s.heap (wM c a (pu φ 5 (kc (1))) δ) H locs := hW
    refine kb_eq S (tgt := 46) dX3_set_30 (by decide) (fun c_30 => ?_) (fun c_30 => ?_)
    · refine lv_iconst (v := nI (0)) S.1 S.2.1 dX3_set_46 rfl ?_
      exact hret 47 _ _ _ _ _ dX3_set_47 hW (rfl) (rfl)
    · exact absurd c_30 (by decide)
