abbrev rmX3_wouldBe : Room := { frames := 5, cells := 0, slots := 0, locals := 112 }
theorem pdX3_wouldBe : kPd yX3_wouldBe 2 := by decide +kernel
set_option maxHeartbeats 400000 in
set_option maxRecDepth 100000 in
theorem mX3_wouldBe (l : Launch) (D : va_G) (c : Nat → ClassId) (a : Nat → Nat) (φ : Nat → Nat → Nat) (δ : Int64) (sz : Nat) (n : Nat) (w : Nat) (hn : n < 1000) (hw : w < 5) (ok : okM (φ 0)) : MI l yX3_wouldBe wsX3_wouldBe rmX3_wouldBe D c sz (wM c a φ δ) [.ref (a 0), .int (nI (n)), .int (nI (w))] (wb (φ 0) n w) (wM c a (pu φ 1 (φ 0)) δ) := by
  refine MI.of (cc := cX3_wouldBe) (maxL := 8) (ty := .int) (by decide) rfl (Nat.le_of_ble_eq_true rfl) rfl ?_
  intro P e s m below meth cd A Q ls hsz S hK hW hA hl hret
  have hl : lv_has ls 8 [(0, .ref (a 0)), (1, .int (nI (n))), (2, .int (nI (w)))] := hl
  have hinX3 : ∀ w ∈ u_ws RX3 TX3 13, w ∈ wsX3_wouldBe := by decide +kernel
  have okn := okM.on n ok
  refine lv_aload_n S.1 S.2.1 dX3_wouldBe_0 rfl (lv_at hl 0 rfl) ?_
  refine k_VV (rest := []) S hK hl.1 hW (KFr.all hW hA) (mX3_putAside l D c a φ δ _ ) gX3_wouldBe_X3_putAside rfl pdX3_putAside ⟨⟨rfl, rfl⟩, Nat.le_of_ble_eq_true rfl, Nat.le_of_ble_eq_true rfl⟩ 0 3 rfl rfl rfl rfl (Nat.le_of_ble_eq_true rfl) dX3_wouldBe_1 ⟨Nat.le_of_ble_eq_true rfl, Nat.le_of_ble_eq_true rfl⟩ (fun H locs hW => ?_)
  have hW : kw D A s.heap (wM c a (pu φ 1 (φ 0)) δ) H locs := hW
  refine lv_aload_n S.1 S.2.1 dX3_wouldBe_4 rfl (lv_at hl 0 rfl) ?_
  refine lv_iconst (v := nI (2)) S.1 S.2.1 dX3_wouldBe_5 rfl ?_
  refine k_VI (rest := []) S hK hl.1 hW (KFr.all hW hA) (mX3_teethThat l D c a ((pu φ 1 (φ 0))) δ _ 2 (by first | omega | exact hw | assumption) (by first | omega | exact ok | assumption)) gX3_wouldBe_X3_teethThat rfl pdX3_teethThat ⟨⟨rfl, rfl⟩, Nat.le_of_ble_eq_true rfl, Nat.le_of_ble_eq_true rfl⟩ 0 3 rfl rfl rfl rfl (Nat.le_of_ble_eq_true rfl) dX3_wouldBe_6 ⟨Nat.le_of_ble_eq_true rfl, Nat.le_of_ble_eq_true rfl⟩ (fun H locs hW => ?_)
  have hW : kw D A s.heap (wM c a (pu φ 1 (φ 0)) δ) H locs := hW
  refine k_top (y := nI (tth ((φ 0)) 2)) rfl ?_
  refine lv_istore_n (lv' := [(3, .int (nI (tth ((φ 0)) 2))), (0, .ref (a 0)), (1, .int (nI (n))), (2, .int (nI (w)))]) S.1 S.2.1 dX3_wouldBe_9 rfl hl (by decide) rfl (fun ls hl => ?_)
  refine lv_aload_n S.1 S.2.1 dX3_wouldBe_10 rfl (lv_at hl 1 rfl) ?_
  refine lv_iload_n S.1 S.2.1 dX3_wouldBe_11 rfl (lv_at hl 2 rfl) ?_
  refine k_VI (rest := []) S hK hl.1 hW (KFr.all hW hA) (mX3_goesOn l D c a ((pu φ 1 (φ 0))) δ _ n (by first | omega | exact ok | assumption) (by first | omega | exact hn | assumption)) gX3_wouldBe_X3_goesOn rfl pdX3_goesOn ⟨⟨rfl, rfl⟩, Nat.le_of_ble_eq_true rfl, Nat.le_of_ble_eq_true rfl⟩ 0 3 rfl rfl rfl rfl (Nat.le_of_ble_eq_true rfl) dX3_wouldBe_12 ⟨Nat.le_of_ble_eq_true rfl, Nat.le_of_ble_eq_true rfl⟩ (fun H locs hW => ?_)
  have hW : kw D A s.heap (wM c a (pu (pu φ 1 (φ 0)) 0 ((on n ((φ 0))).2)) δ) H locs := hW
  refine k_top (y := nI ((on n ((φ 0))).1)) rfl ?_
  refine lv_istore (lv' := [(4, .int (nI ((on n ((φ 0))).1))), (3, .int (nI (tth ((φ 0)) 2))), (0, .ref (a 0)), (1, .int (nI (n))), (2, .int (nI (w)))]) S.1 S.2.1 dX3_wouldBe_15 hl (by decide) rfl (fun ls hl => ?_)
  refine lv_aload_n S.1 S.2.1 dX3_wouldBe_17 rfl (lv_at hl 2 rfl) ?_
  refine kx_get S hK hW hinX3 0 3 rfl rfl 1 (by decide) (List.mem_of_getElem? (i := 1) rfl) (v := .ref (a 1)) rfl dX3_wouldBe_18 ?_
  refine lv_sipush (v := nI (139)) S.1 S.2.1 dX3_wouldBe_21 rfl ?_
  refine kn_ald S hK hW 1 (f := (on n ((φ 0))).2) rfl (by omega) (by decide) dX3_wouldBe_24 ?_
  refine lv_aload_n S.1 S.2.1 dX3_wouldBe_25 rfl (lv_at hl 2 rfl) ?_
  refine kx_get S hK hW hinX3 0 3 rfl rfl 2 (by decide) (List.mem_of_getElem? (i := 2) rfl) (v := .ref (a 2)) rfl dX3_wouldBe_26 ?_
  refine lv_sipush (v := nI (139)) S.1 S.2.1 dX3_wouldBe_29 rfl ?_
  refine kn_ald S hK hW 2 (f := φ 0) rfl (by omega) (by decide) dX3_wouldBe_32 ?_
  refine lv_isub S.1 S.2.1 dX3_wouldBe_33 ?_
  refine lv_istore (lv' := [(5, .int ((nI (((on n ((φ 0))).2) (139))) - (nI (φ 0 (139))))), (4, .int (nI ((on n ((φ 0))).1))), (3, .int (nI (tth ((φ 0)) 2))), (0, .ref (a 0)), (1, .int (nI (n))), (2, .int (nI (w)))]) S.1 S.2.1 dX3_wouldBe_34 hl (by decide) rfl (fun ls hl => ?_)
  refine lv_aload_n S.1 S.2.1 dX3_wouldBe_36 rfl (lv_at hl 3 rfl) ?_
  refine kx_get S hK hW hinX3 0 3 rfl rfl 1 (by decide) (List.mem_of_getElem? (i := 1) rfl) (v := .ref (a 1)) rfl dX3_wouldBe_37 ?_
  refine lv_sipush (v := nI (140)) S.1 S.2.1 dX3_wouldBe_40 rfl ?_
  refine kn_ald S hK hW 1 (f := (on n ((φ 0))).2) rfl (by omega) (by decide) dX3_wouldBe_43 ?_
  refine lv_aload_n S.1 S.2.1 dX3_wouldBe_44 rfl (lv_at hl 3 rfl) ?_
  refine kx_get S hK hW hinX3 0 3 rfl rfl 2 (by decide) (List.mem_of_getElem? (i := 2) rfl) (v := .ref (a 2)) rfl dX3_wouldBe_45 ?_
  refine lv_sipush (v := nI (140)) S.1 S.2.1 dX3_wouldBe_48 rfl ?_
  refine kn_ald S hK hW 2 (f := φ 0) rfl (by omega) (by decide) dX3_wouldBe_51 ?_
  refine lv_isub S.1 S.2.1 dX3_wouldBe_52 ?_
  refine lv_istore (lv' := [(6, .int ((nI (((on n ((φ 0))).2) (140))) - (nI (φ 0 (140))))), (5, .int ((nI (((on n ((φ 0))).2) (139))) - (nI (φ 0 (139))))), (4, .int (nI ((on n ((φ 0))).1))), (3, .int (nI (tth ((φ 0)) 2))), (0, .ref (a 0)), (1, .int (nI (n))), (2, .int (nI (w)))]) S.1 S.2.1 dX3_wouldBe_53 hl (by decide) rfl (fun ls hl => ?_)
  refine lv_aload_n S.1 S.2.1 dX3_wouldBe_55 rfl (lv_at hl 4 rfl) ?_
  refine kx_get S hK hW hinX3 0 3 rfl rfl 1 (by decide) (List.mem_of_getElem? (i := 1) rfl) (v := .ref (a 1)) rfl dX3_wouldBe_56 ?_
  refine lv_sipush (v := nI (137)) S.1 S.2.1 dX3_wouldBe_59 rfl ?_
  refine kn_ald S hK hW 1 (f := (on n ((φ 0))).2) rfl (by omega) (by decide) dX3_wouldBe_62 ?_
  refine lv_aload_n S.1 S.2.1 dX3_wouldBe_63 rfl (lv_at hl 4 rfl) ?_
  refine kx_get S hK hW hinX3 0 3 rfl rfl 2 (by decide) (List.mem_of_getElem? (i := 2) rfl) (v := .ref (a 2)) rfl dX3_wouldBe_64 ?_
  refine lv_sipush (v := nI (137)) S.1 S.2.1 dX3_wouldBe_67 rfl ?_
  refine kn_ald S hK hW 2 (f := φ 0) rfl (by omega) (by decide) dX3_wouldBe_70 ?_
  refine lv_isub S.1 S.2.1 dX3_wouldBe_71 ?_
  refine lv_istore (lv' := [(7, .int ((nI (((on n ((φ 0))).2) (137))) - (nI (φ 0 (137))))), (6, .int ((nI (((on n ((φ 0))).2) (140))) - (nI (φ 0 (140))))), (5, .int ((nI (((on n ((φ 0))).2) (139))) - (nI (φ 0 (139))))), (4, .int (nI ((on n ((φ 0))).1))), (3, .int (nI (tth ((φ 0)) 2))), (0, .ref (a 0)), (1, .int (nI (n))), (2, .int (nI (w)))]) S.1 S.2.1 dX3_wouldBe_72 hl (by decide) rfl (fun ls hl => ?_)
  refine lv_aload_n S.1 S.2.1 dX3_wouldBe_74 rfl (lv_at hl 5 rfl) ?_
  refine lv_iconst (v := nI (2)) S.1 S.2.1 dX3_wouldBe_75 rfl ?_
  refine k_VI (rest := []) S hK hl.1 hW (KFr.all hW hA) (mX3_teethThat l D c a ((pu (pu φ 1 (φ 0)) 0 ((on n ((φ 0))).2))) δ _ 2 (by first | omega | exact hw | assumption) okn) gX3_wouldBe_X3_teethThat rfl pdX3_teethThat ⟨⟨rfl, rfl⟩, Nat.le_of_ble_eq_true rfl, Nat.le_of_ble_eq_true rfl⟩ 0 3 rfl rfl rfl rfl (Nat.le_of_ble_eq_true rfl) dX3_wouldBe_76 ⟨Nat.le_of_ble_eq_true rfl, Nat.le_of_ble_eq_true rfl⟩ (fun H locs hW => ?_)
  have hW : kw D A s.heap (wM c a (pu (pu φ 1 (φ 0)) 0 ((on n ((φ 0))).2)) δ) H locs := hW
  refine k_top (y := nI (tth (((on n ((φ 0))).2)) 2)) rfl ?_
  refine lv_iload_n S.1 S.2.1 dX3_wouldBe_79 rfl (lv_at hl 4 rfl) ?_
  refine lv_isub S.1 S.2.1 dX3_wouldBe_80 ?_
  refine lv_istore_n (lv' := [(3, .int ((nI (tth (((on n ((φ 0))).2)) 2)) - (nI (tth ((φ 0)) 2)))), (7, .int ((nI (((on n ((φ 0))).2) (137))) - (nI (φ 0 (137))))), (6, .int ((nI (((on n ((φ 0))).2) (140))) - (nI (φ 0 (140))))), (5, .int ((nI (((on n ((φ 0))).2) (139))) - (nI (φ 0 (139))))), (4, .int (nI ((on n ((φ 0))).1))), (0, .ref (a 0)), (1, .int (nI (n))), (2, .int (nI (w)))]) S.1 S.2.1 dX3_wouldBe_81 rfl hl (by decide) rfl (fun ls hl => ?_)
  refine lv_aload_n S.1 S.2.1 dX3_wouldBe_82 rfl (lv_at hl 5 rfl) ?_
  refine k_VV (rest := []) S hK hl.1 hW (KFr.all hW hA) (mX3_putBack l D c a ((pu (pu φ 1 (φ 0)) 0 ((on n ((φ 0))).2))) δ _ ) gX3_wouldBe_X3_putBack rfl pdX3_putBack ⟨⟨rfl, rfl⟩, Nat.le_of_ble_eq_true rfl, Nat.le_of_ble_eq_true rfl⟩ 0 3 rfl rfl rfl rfl (Nat.le_of_ble_eq_true rfl) dX3_wouldBe_83 ⟨Nat.le_of_ble_eq_true rfl, Nat.le_of_ble_eq_true rfl⟩ (fun H locs hW => ?_)
  have hW : kw D A s.heap (wM c a (pu (pu φ 1 (φ 0)) 0 ((φ 0))) δ) H locs := hW
  refine lv_iload_n S.1 S.2.1 dX3_wouldBe_86 rfl (lv_at hl 7 rfl) ?_
  refine kz_ne S (tgt := 95) dX3_wouldBe_87 (by decide) (by omega) (fun c_87 => ?_) (fun c_87 => ?_)
  · refine lv_iload_n S.1 S.2.1 dX3_wouldBe_95 rfl (lv_at hl 7 rfl) ?_
    refine lv_iconst (v := nI (1)) S.1 S.2.1 dX3_wouldBe_96 rfl ?_
    refine kn_ne S (tgt := 105) dX3_wouldBe_97 (by decide) (by omega) (by omega) (fun c_97 => ?_) (fun c_97 => ?_)
    · refine lv_iload_n S.1 S.2.1 dX3_wouldBe_105 rfl (lv_at hl 7 rfl) ?_
      refine lv_iconst (v := nI (2)) S.1 S.2.1 dX3_wouldBe_106 rfl ?_
      refine kn_ne S (tgt := 115) dX3_wouldBe_107 (by decide) (by omega) (by omega) (fun c_107 => ?_) (fun c_107 => ?_)
      · refine lv_iload_n S.1 S.2.1 dX3_wouldBe_115 rfl (lv_at hl 7 rfl) ?_
        refine lv_iconst (v := nI (3)) S.1 S.2.1 dX3_wouldBe_116 rfl ?_
        refine kn_ne S (tgt := 125) dX3_wouldBe_117 (by decide) (by omega) (by omega) (fun c_117 => ?_) (fun c_117 => ?_)
        · refine lv_iload_n S.1 S.2.1 dX3_wouldBe_125 rfl (lv_at hl 0 rfl) ?_
          exact hret 126 _ _ _ _ _ dX3_wouldBe_126 hW (by unfold wb; first | (rw [if_pos c_87]; done) | (rw [if_neg c_87, if_pos c_97]; done) | (rw [if_neg c_87, if_neg c_97, if_pos c_107]; done) | (rw [if_neg c_87, if_neg c_97, if_neg c_107, if_pos c_117]; done) | (rw [if_neg c_87, if_neg c_97, if_neg c_107, if_neg c_117])) (rfl)
        · refine lv_iload S.1 S.2.1 dX3_wouldBe_120 (lv_at hl 1 rfl) ?_
          refine lv_goto (tgt := 126) S.1 S.2.1 dX3_wouldBe_122 (by decide) ?_
          exact hret 126 _ _ _ _ _ dX3_wouldBe_126 hW (by unfold wb; first | (rw [if_pos c_87]; done) | (rw [if_neg c_87, if_pos c_97]; done) | (rw [if_neg c_87, if_neg c_97, if_pos c_107]; done) | (rw [if_neg c_87, if_neg c_97, if_neg c_107, if_pos c_117]; done) | (rw [if_neg c_87, if_neg c_97, if_neg c_107, if_neg c_117])) (rfl)
      · refine lv_iload S.1 S.2.1 dX3_wouldBe_110 (lv_at hl 2 rfl) ?_
        refine lv_goto (tgt := 126) S.1 S.2.1 dX3_wouldBe_112 (by decide) ?_
        exact hret 126 _ _ _ _ _ dX3_wouldBe_126 hW (by unfold wb; first | (rw [if_pos c_87]; done) | (rw [if_neg c_87, if_pos c_97]; done) | (rw [if_neg c_87, if_neg c_97, if_pos c_107]; done) | (rw [if_neg c_87, if_neg c_97, if_neg c_107, if_pos c_117]; done) | (rw [if_neg c_87, if_neg c_97, if_neg c_107, if_neg c_117])) (rfl)
    · refine lv_iload S.1 S.2.1 dX3_wouldBe_100 (lv_at hl 3 rfl) ?_
      refine lv_goto (tgt := 126) S.1 S.2.1 dX3_wouldBe_102 (by decide) ?_
      exact hret 126 _ _ _ _ _ dX3_wouldBe_126 hW (by unfold wb; first | (rw [if_pos c_87]; done) | (rw [if_neg c_87, if_pos c_97]; done) | (rw [if_neg c_87, if_neg c_97, if_pos c_107]; done) | (rw [if_neg c_87, if_neg c_97, if_neg c_107, if_pos c_117]; done) | (rw [if_neg c_87, if_neg c_97, if_neg c_107, if_neg c_117])) (rfl)
  · refine lv_iload S.1 S.2.1 dX3_wouldBe_90 (lv_at hl 4 rfl) ?_
    refine lv_goto (tgt := 126) S.1 S.2.1 dX3_wouldBe_92 (by decide) ?_
    exact hret 126 _ _ _ _ _ dX3_wouldBe_126 hW (by unfold wb; first | (rw [if_pos c_87]; done) | (rw [if_neg c_87, if_pos c_97]; done) | (rw [if_neg c_87, if_neg c_97, if_pos c_107]; done) | (rw [if_neg c_87, if_neg c_97, if_neg c_107, if_pos c_117]; done) | (rw [if_neg c_87, if_neg c_97, if_neg c_107, if_neg c_117])) (rfl)
abbrev rmX3_ifPlayed : Room := { frames := 6, cells := 0, slots := 0, locals := 139 }
theorem pdX3_ifPlayed : kPd yX3_ifPlayed 2 := by decide +kernel
set_option maxHeartbeats 400000 in
set_option maxRecDepth 100000 in
theorem mX3_ifPlayed_x1 (l : Launch) (D : va_G) (c : Nat → ClassId) (a : Nat → Nat) (φ : Nat → Nat → Nat) (δ : Int64) (sz : Nat) (n : Int32) (w : Int32) (hin : (inb n (nI (1)) (nI (128)) && inb w (nI (0)) (nI (4))) = false) : MI l yX3_ifPlayed wsX3_ifPlayed rmX3_ifPlayed D c sz (wM c a φ δ) [.ref (a 0), .int (n), .int (w)] (nI (0)) (wM c a (pu φ 5 (kc (1))) δ) := by
  refine MI.of (cc := cX3_ifPlayed) (maxL := 3) (ty := .int) (by decide) rfl (Nat.le_of_ble_eq_true rfl) rfl ?_
  intro P e s m below meth cd A Q ls hsz S hK hW hA hl hret
  have hl : lv_has ls 3 [(0, .ref (a 0)), (1, .int (n)), (2, .int (w))] := hl
  refine lv_aload_n S.1 S.2.1 dX3_ifPlayed_0 rfl (lv_at hl 0 rfl) ?_
  refine lv_iload_n S.1 S.2.1 dX3_ifPlayed_1 rfl (lv_at hl 1 rfl) ?_
  refine lv_iconst (v := nI (1)) S.1 S.2.1 dX3_ifPlayed_2 rfl ?_
  refine lv_sipush (v := nI (128)) S.1 S.2.1 dX3_ifPlayed_3 rfl ?_
  refine k_SI (rest := [.ref (a 0)]) S hK hl.1 hW (KFr.nil hW hA) (mX3_in l D c  _ n (nI (1)) (nI (128))) gX3_ifPlayed_X3_in rfl pdX3_in ⟨⟨rfl, rfl⟩, Nat.le_of_ble_eq_true rfl, Nat.le_of_ble_eq_true rfl⟩ rfl (Nat.le_of_ble_eq_true rfl) dX3_ifPlayed_6 ⟨Nat.le_of_ble_eq_true rfl, Nat.le_of_ble_eq_true rfl⟩ (fun H locs hW => ?_)
  have hW : kw D A s.heap (wM c a φ δ) H locs := hW
  refine kb_eq S (tgt := 25) dX3_ifPlayed_9 (by decide) (fun c_9 => ?_) (fun c_9 => ?_)
  · refine lv_iconst (v := nI (1)) S.1 S.2.1 dX3_ifPlayed_25 rfl ?_
    refine k_VI (rest := []) S hK hl.1 hW (KFr.all hW hA) (mX3_holds l D c a φ δ _ 1 (by first | omega | exact hw | assumption)) gX3_ifPlayed_X3_holds rfl pdX3_holds ⟨⟨rfl, rfl⟩, Nat.le_of_ble_eq_true rfl, Nat.le_of_ble_eq_true rfl⟩ 0 3 rfl rfl rfl rfl (Nat.le_of_ble_eq_true rfl) dX3_ifPlayed_26 ⟨Nat.le_of_ble_eq_true rfl, Nat.le_of_ble_eq_true rfl⟩ (fun H locs hW => ?_)
    have hW : kw D A s.heap (wM c a (pu φ 5 (kc (1))) δ) H locs := hW
    refine kb_eq S (tgt := 41) dX3_ifPlayed_29 (by decide) (fun c_29 => ?_) (fun c_29 => ?_)
    · refine lv_iconst (v := nI (0)) S.1 S.2.1 dX3_ifPlayed_41 rfl ?_
      exact hret 42 _ _ _ _ _ dX3_ifPlayed_42 hW (rfl) (rfl)
    · exact absurd c_29 (by decide)
  · refine lv_iload_n S.1 S.2.1 dX3_ifPlayed_12 rfl (lv_at hl 2 rfl) ?_
    refine lv_iconst (v := nI (0)) S.1 S.2.1 dX3_ifPlayed_13 rfl ?_
    refine lv_iconst (v := nI (4)) S.1 S.2.1 dX3_ifPlayed_14 rfl ?_
    refine k_SI (rest := [.ref (a 0)]) S hK hl.1 hW (KFr.nil hW hA) (mX3_in l D c  _ w (nI (0)) (nI (4))) gX3_ifPlayed_X3_in rfl pdX3_in ⟨⟨rfl, rfl⟩, Nat.le_of_ble_eq_true rfl, Nat.le_of_ble_eq_true rfl⟩ rfl (Nat.le_of_ble_eq_true rfl) dX3_ifPlayed_15 ⟨Nat.le_of_ble_eq_true rfl, Nat.le_of_ble_eq_true rfl⟩ (fun H locs hW => ?_)
    have hW : kw D A s.heap (wM c a φ δ) H locs := hW
    refine kb_eq S (tgt := 25) dX3_ifPlayed_18 (by decide) (fun c_18 => ?_) (fun c_18 => ?_)
    · refine lv_iconst (v := nI (1)) S.1 S.2.1 dX3_ifPlayed_25 rfl ?_
      refine k_VI (rest := []) S hK hl.1 hW (KFr.all hW hA) (mX3_holds l D c a φ δ _ 1 (by first | omega | exact hw | assumption)) gX3_ifPlayed_X3_holds rfl pdX3_holds ⟨⟨rfl, rfl⟩, Nat.le_of_ble_eq_true rfl, Nat.le_of_ble_eq_true rfl⟩ 0 3 rfl rfl rfl rfl (Nat.le_of_ble_eq_true rfl) dX3_ifPlayed_26 ⟨Nat.le_of_ble_eq_true rfl, Nat.le_of_ble_eq_true rfl⟩ (fun H locs hW => ?_)
      have hW : kw D A s.heap (wM c a (pu φ 5 (kc (1))) δ) H locs := hW
      refine kb_eq S (tgt := 41) dX3_ifPlayed_29 (by decide) (fun c_29 => ?_) (fun c_29 => ?_)
      · refine lv_iconst (v := nI (0)) S.1 S.2.1 dX3_ifPlayed_41 rfl ?_
        exact hret 42 _ _ _ _ _ dX3_ifPlayed_42 hW (rfl) (rfl)
      · exact absurd c_29 (by decide)
    · exact absurd hin (by rw [c_9, c_18]; decide)
set_option maxHeartbeats 400000 in
set_option maxRecDepth 100000 in
theorem mX3_ifPlayed_k (l : Launch) (D : va_G) (c : Nat → ClassId) (a : Nat → Nat) (φ : Nat → Nat → Nat) (δ : Int64) (sz : Nat) (n : Nat) (w : Nat) (h1 : 1 ≤ n) (h2 : n ≤ 128) (hw : w < 5) (ok : okM (φ 0)) : MI l yX3_ifPlayed wsX3_ifPlayed rmX3_ifPlayed D c sz (wM c a φ δ) [.ref (a 0), .int (nI (n)), .int (nI (w))] (wb (φ 0) n w) (wM c a (pu (pu φ 5 (kc (0))) 1 (φ 0)) δ) := by
  refine MI.of (cc := cX3_ifPlayed) (maxL := 3) (ty := .int) (by decide) rfl (Nat.le_of_ble_eq_true rfl) rfl ?_
  intro P e s m below meth cd A Q ls hsz S hK hW hA hl hret
  have hl : lv_has ls 3 [(0, .ref (a 0)), (1, .int (nI (n))), (2, .int (nI (w)))] := hl
  have h3 : inb (nI (n)) (nI (1)) (nI (128)) = true := inb_t (by omega) (by omega) (by decide)
  have h4 : inb (nI (w)) (nI (0)) (nI (4)) = true := inb_t (Nat.zero_le _) (by omega) (by decide)
  refine lv_aload_n S.1 S.2.1 dX3_ifPlayed_0 rfl (lv_at hl 0 rfl) ?_
  refine lv_iload_n S.1 S.2.1 dX3_ifPlayed_1 rfl (lv_at hl 1 rfl) ?_
  refine lv_iconst (v := nI (1)) S.1 S.2.1 dX3_ifPlayed_2 rfl ?_
  refine lv_sipush (v := nI (128)) S.1 S.2.1 dX3_ifPlayed_3 rfl ?_
  refine k_SI (rest := [.ref (a 0)]) S hK hl.1 hW (KFr.nil hW hA) (mX3_in l D c  _ (nI (n)) (nI (1)) (nI (128))) gX3_ifPlayed_X3_in rfl pdX3_in ⟨⟨rfl, rfl⟩, Nat.le_of_ble_eq_true rfl, Nat.le_of_ble_eq_true rfl⟩ rfl (Nat.le_of_ble_eq_true rfl) dX3_ifPlayed_6 ⟨Nat.le_of_ble_eq_true rfl, Nat.le_of_ble_eq_true rfl⟩ (fun H locs hW => ?_)
  have hW : kw D A s.heap (wM c a φ δ) H locs := hW
  refine kb_eq S (tgt := 25) dX3_ifPlayed_9 (by decide) (fun c_9 => ?_) (fun c_9 => ?_)
  · exact absurd (h3.symm.trans c_9) (by decide)
  · refine lv_iload_n S.1 S.2.1 dX3_ifPlayed_12 rfl (lv_at hl 2 rfl) ?_
    refine lv_iconst (v := nI (0)) S.1 S.2.1 dX3_ifPlayed_13 rfl ?_
    refine lv_iconst (v := nI (4)) S.1 S.2.1 dX3_ifPlayed_14 rfl ?_
    refine k_SI (rest := [.ref (a 0)]) S hK hl.1 hW (KFr.nil hW hA) (mX3_in l D c  _ (nI (w)) (nI (0)) (nI (4))) gX3_ifPlayed_X3_in rfl pdX3_in ⟨⟨rfl, rfl⟩, Nat.le_of_ble_eq_true rfl, Nat.le_of_ble_eq_true rfl⟩ rfl (Nat.le_of_ble_eq_true rfl) dX3_ifPlayed_15 ⟨Nat.le_of_ble_eq_true rfl, Nat.le_of_ble_eq_true rfl⟩ (fun H locs hW => ?_)
    have hW : kw D A s.heap (wM c a φ δ) H locs := hW
    refine kb_eq S (tgt := 25) dX3_ifPlayed_18 (by decide) (fun c_18 => ?_) (fun c_18 => ?_)
    · exact absurd (h4.symm.trans c_18) (by decide)
    · refine lv_iconst (v := nI (0)) S.1 S.2.1 dX3_ifPlayed_21 rfl ?_
      refine lv_goto (tgt := 26) S.1 S.2.1 dX3_ifPlayed_22 (by decide) ?_
      refine k_VI (rest := []) S hK hl.1 hW (KFr.all hW hA) (mX3_holds l D c a φ δ _ 0 (by first | omega | exact hw | assumption)) gX3_ifPlayed_X3_holds rfl pdX3_holds ⟨⟨rfl, rfl⟩, Nat.le_of_ble_eq_true rfl, Nat.le_of_ble_eq_true rfl⟩ 0 3 rfl rfl rfl rfl (Nat.le_of_ble_eq_true rfl) dX3_ifPlayed_26 ⟨Nat.le_of_ble_eq_true rfl, Nat.le_of_ble_eq_true rfl⟩ (fun H locs hW => ?_)
      have hW : kw D A s.heap (wM c a (pu φ 5 (kc (0))) δ) H locs := hW
      refine kb_eq S (tgt := 41) dX3_ifPlayed_29 (by decide) (fun c_29 => ?_) (fun c_29 => ?_)
      · exact absurd c_29 (by decide)
      · refine lv_aload_n S.1 S.2.1 dX3_ifPlayed_32 rfl (lv_at hl 0 rfl) ?_
        refine lv_iload_n S.1 S.2.1 dX3_ifPlayed_33 rfl (lv_at hl 1 rfl) ?_
        refine lv_iload_n S.1 S.2.1 dX3_ifPlayed_34 rfl (lv_at hl 2 rfl) ?_
        refine k_VI (rest := []) S hK hl.1 hW (KFr.all hW hA) (mX3_wouldBe l D c a ((pu φ 5 (kc (0)))) δ _ n w (by first | omega | exact hn | assumption) (by first | omega | exact hw | assumption) (by first | omega | exact ok | assumption)) gX3_ifPlayed_X3_wouldBe rfl pdX3_wouldBe ⟨⟨rfl, rfl⟩, Nat.le_of_ble_eq_true rfl, Nat.le_of_ble_eq_true rfl⟩ 0 3 rfl rfl rfl rfl (Nat.le_of_ble_eq_true rfl) dX3_ifPlayed_35 ⟨Nat.le_of_ble_eq_true rfl, Nat.le_of_ble_eq_true rfl⟩ (fun H locs hW => ?_)
        have hW : kw D A s.heap (wM c a (pu (pu φ 5 (kc (0))) 1 ((φ 0))) δ) H locs := hW
        refine k_top (y := wb ((φ 0)) n w) rfl ?_
        refine lv_goto (tgt := 42) S.1 S.2.1 dX3_ifPlayed_38 (by decide) ?_
        exact hret 42 _ _ _ _ _ dX3_ifPlayed_42 hW (rfl) (rfl)
abbrev rmX3_quietVanes : Room := { frames := 6, cells := 0, slots := 0, locals := 139 }
theorem pdX3_quietVanes : kPd yX3_quietVanes 0 := by decide +kernel
set_option maxHeartbeats 400000 in
set_option maxRecDepth 100000 in
theorem mX3_quietVanes (l : Launch) (D : va_G) (c : Nat → ClassId) (a : Nat → Nat) (φ : Nat → Nat → Nat) (δ : Int64) (sz : Nat) (ok : okM (φ 0)) : MI l yX3_quietVanes wsX3_quietVanes rmX3_quietVanes D c sz (wM c a φ δ) [.ref (a 0)] (nI (qf (φ 0) 9)) (wM c a (pu φ 1 (qa (φ 1) (φ 0) 9)) δ) := by
  refine MI.of (cc := cX3_quietVanes) (maxL := 4) (ty := .int) (by decide) rfl (Nat.le_of_ble_eq_true rfl) rfl ?_
  intro P e s m below meth cd A Q ls hsz S hK hW hA hl hret
  have hl : lv_has ls 4 [(0, .ref (a 0))] := hl
  have hinX3 : ∀ w ∈ u_ws RX3 TX3 13, w ∈ wsX3_quietVanes := by decide +kernel
  refine lv_aload_n S.1 S.2.1 dX3_quietVanes_0 rfl (lv_at hl 0 rfl) ?_
  refine kx_get S hK hW hinX3 0 3 rfl rfl 1 (by decide) (List.mem_of_getElem? (i := 1) rfl) (v := .ref (a 1)) rfl dX3_quietVanes_1 ?_
  refine lv_sipush (v := nI (136)) S.1 S.2.1 dX3_quietVanes_4 rfl ?_
  refine kn_ald S hK hW 1 (f := φ 0) rfl (by omega) (by decide) dX3_quietVanes_7 ?_
  refine lv_istore_n (lv' := [(1, .int (nI (φ 0 (136)))), (0, .ref (a 0))]) S.1 S.2.1 dX3_quietVanes_8 rfl hl (by decide) rfl (fun ls hl => ?_)
  refine lv_iconst (v := nI (4294967295)) S.1 S.2.1 dX3_quietVanes_9 rfl ?_
  refine lv_istore_n (lv' := [(2, .int (nI (4294967295))), (1, .int (nI (φ 0 (136)))), (0, .ref (a 0))]) S.1 S.2.1 dX3_quietVanes_10 rfl hl (by decide) rfl (fun ls hl => ?_)
  refine lv_bipush (v := nI (9)) S.1 S.2.1 dX3_quietVanes_11 rfl ?_
  refine lv_istore_n (lv' := [(3, .int (nI (9))), (2, .int (nI (4294967295))), (1, .int (nI (φ 0 (136)))), (0, .ref (a 0))]) S.1 S.2.1 dX3_quietVanes_13 rfl hl (by decide) rfl (fun ls hl => ?_)
  refine k_loop (fun (zz : Nat) H lo ls => match zz with | k => kw D A s.heap (wM c a (pu (pu φ 0 (qv (φ 0) k)) 1 (qa (φ 1) (φ 0) k)) δ) H lo ∧ lv_has ls 4 [(0, .ref (a 0)), (1, .int (nI (φ 0 (136)))), (2, .int (nI (qf (φ 0) k))), (3, .int (nI (9 - k)))] ∧ k ≤ 9) (fun (zz : Nat) => match zz with | k => 9 - k) [] ?_ 0 _ _ _ ⟨hW, lv_sub hl [3, 2, 1, 0] rfl, (by decide)⟩
  rintro k ih14 H locs ls ⟨hW, hl, hi14_0⟩
  have okq := ok.qv (k + 1)
  refine lv_iload_n S.1 S.2.1 dX3_quietVanes_14 rfl (lv_at hl 3 rfl) ?_
  refine kz_le S (tgt := 49) dX3_quietVanes_15 (by decide) (by omega) (fun c_15 => ?_) (fun c_15 => ?_)
  · have e9 : k = 9 := by omega
    subst e9
    refine lv_aload_n S.1 S.2.1 dX3_quietVanes_49 rfl (lv_at hl 0 rfl) ?_
    refine kx_get S hK hW hinX3 0 3 rfl rfl 1 (by decide) (List.mem_of_getElem? (i := 1) rfl) (v := .ref (a 1)) rfl dX3_quietVanes_50 ?_
    refine lv_sipush (v := nI (136)) S.1 S.2.1 dX3_quietVanes_53 rfl ?_
    refine lv_iload_n S.1 S.2.1 dX3_quietVanes_56 rfl (lv_at hl 1 rfl) ?_
    refine kn_ast S hK hW 1 (f := qv (φ 0) 9) rfl (by omega) (by decide) dX3_quietVanes_57 (fun H locs hW => ?_)
    have hW : kw D A s.heap (wM c a (pu (pu φ 1 (qa (φ 1) (φ 0) 9)) 0 (fu (qv (φ 0) 9) 136 (φ 0 (136)))) δ) H locs := hW
    have hW : kw D A s.heap (wM c a (pu (pu φ 1 (qa (φ 1) (φ 0) 9)) 0 (φ 0)) δ) H locs := by rw [qv_back] at hW; exact hW
    refine lv_iload_n S.1 S.2.1 dX3_quietVanes_58 rfl (lv_at hl 2 rfl) ?_
    exact hret 59 _ _ _ _ _ dX3_quietVanes_59 hW (rfl) (rfl)
  · refine lv_aload_n S.1 S.2.1 dX3_quietVanes_18 rfl (lv_at hl 0 rfl) ?_
    refine kx_get S hK hW hinX3 0 3 rfl rfl 1 (by decide) (List.mem_of_getElem? (i := 1) rfl) (v := .ref (a 1)) rfl dX3_quietVanes_19 ?_
    refine lv_sipush (v := nI (136)) S.1 S.2.1 dX3_quietVanes_22 rfl ?_
    refine lv_iload_n S.1 S.2.1 dX3_quietVanes_25 rfl (lv_at hl 3 rfl) ?_
    refine kn_ast S hK hW 1 (f := qv (φ 0) k) rfl (by omega) (by decide) dX3_quietVanes_26 (fun H locs hW => ?_)
    have hW : kw D A s.heap (wM c a (pu (pu φ 1 (qa (φ 1) (φ 0) k)) 0 (fu (qv (φ 0) k) 136 (9 - k))) δ) H locs := hW
    have hW : kw D A s.heap (wM c a (pu (pu φ 1 (qa (φ 1) (φ 0) k)) 0 (qv (φ 0) (k + 1))) δ) H locs := hW
    refine lv_aload_n S.1 S.2.1 dX3_quietVanes_27 rfl (lv_at hl 0 rfl) ?_
    refine lv_bipush (v := nI (32)) S.1 S.2.1 dX3_quietVanes_28 rfl ?_
    refine lv_iconst (v := nI (2)) S.1 S.2.1 dX3_quietVanes_30 rfl ?_
    refine k_VI (rest := []) S hK hl.1 hW (KFr.all hW hA) (mX3_wouldBe l D c a ((pu (pu φ 1 (qa (φ 1) (φ 0) k)) 0 (qv (φ 0) (k + 1)))) δ _ 32 2 (by first | omega | exact hn | assumption) (by first | omega | exact hw | assumption) okq) gX3_quietVanes_X3_wouldBe rfl pdX3_wouldBe ⟨⟨rfl, rfl⟩, Nat.le_of_ble_eq_true rfl, Nat.le_of_ble_eq_true rfl⟩ 0 3 rfl rfl rfl rfl (Nat.le_of_ble_eq_true rfl) dX3_quietVanes_31 ⟨Nat.le_of_ble_eq_true rfl, Nat.le_of_ble_eq_true rfl⟩ (fun H locs hW => ?_)
    have hW : kw D A s.heap (wM c a (pu (pu φ 0 (qv (φ 0) (k + 1))) 1 ((qv (φ 0) (k + 1)))) δ) H locs := hW
    refine k_top (y := wb ((qv (φ 0) (k + 1))) 32 2) rfl ?_
    refine lv_if_ne (tgt := 41) S.1 S.2.1 dX3_quietVanes_34 (by decide) (fun c_34 => ?_) (fun c_34 => ?_)
    · refine lv_iload_n S.1 S.2.1 dX3_quietVanes_41 rfl (lv_at hl 2 rfl) ?_
      refine k_top (y := nI (qf (φ 0) (k + 1))) (congrArg nI (by show _ = if _ then _ else _; rw [if_neg c_34])) ?_
      refine lv_istore_n (lv' := [(2, .int (nI (qf (φ 0) (k + 1)))), (0, .ref (a 0)), (1, .int (nI (φ 0 (136)))), (3, .int (nI (9 - k)))]) S.1 S.2.1 dX3_quietVanes_42 rfl hl (by decide) rfl (fun ls hl => ?_)
      have hW : kw D A s.heap (wM c a (pu (pu φ 0 (qv (φ 0) (k + 1))) 1 (qa (φ 1) (φ 0) (k + 1))) δ) H locs := hW
      refine lv_iinc (v := nI ((9 - k) - 1)) (lv' := [(3, .int (nI ((9 - k) - 1))), (2, .int (nI (qf (φ 0) (k + 1)))), (0, .ref (a 0)), (1, .int (nI (φ 0 (136))))]) S.1 S.2.1 dX3_quietVanes_43 hl (k := 3) rfl (sb_m1 (show 0 < 9 - k by omega)) (by decide) rfl (fun ls hl => ?_)
      refine lv_goto (tgt := 14) S.1 S.2.1 dX3_quietVanes_46 (by decide) ?_
      exact ih14 (k + 1) _ _ _ ⟨hW, lv_sub hl [2, 3, 1, 0] rfl, (by omega)⟩ (by show 9 - (k + 1) < 9 - k; omega)
    · refine lv_iload_n S.1 S.2.1 dX3_quietVanes_37 rfl (lv_at hl 3 rfl) ?_
      refine k_top (y := nI (qf (φ 0) (k + 1))) (congrArg nI (by show _ = if _ then _ else _; rw [if_pos c_34])) ?_
      refine lv_goto (tgt := 42) S.1 S.2.1 dX3_quietVanes_38 (by decide) ?_
      refine lv_istore_n (lv' := [(2, .int (nI (qf (φ 0) (k + 1)))), (0, .ref (a 0)), (1, .int (nI (φ 0 (136)))), (3, .int (nI (9 - k)))]) S.1 S.2.1 dX3_quietVanes_42 rfl hl (by decide) rfl (fun ls hl => ?_)
      have hW : kw D A s.heap (wM c a (pu (pu φ 0 (qv (φ 0) (k + 1))) 1 (qa (φ 1) (φ 0) (k + 1))) δ) H locs := hW
      refine lv_iinc (v := nI ((9 - k) - 1)) (lv' := [(3, .int (nI ((9 - k) - 1))), (2, .int (nI (qf (φ 0) (k + 1)))), (0, .ref (a 0)), (1, .int (nI (φ 0 (136))))]) S.1 S.2.1 dX3_quietVanes_43 hl (k := 3) rfl (sb_m1 (show 0 < 9 - k by omega)) (by decide) rfl (fun ls hl => ?_)
      refine lv_goto (tgt := 14) S.1 S.2.1 dX3_quietVanes_46 (by decide) ?_
      exact ih14 (k + 1) _ _ _ ⟨hW, lv_sub hl [2, 3, 1, 0] rfl, (by omega)⟩ (by show 9 - (k + 1) < 9 - k; omega)
abbrev rmX3_fewestVanes : Room := { frames := 7, cells := 0, slots := 0, locals := 162 }
theorem pdX3_fewestVanes : kPd yX3_fewestVanes 0 := by decide +kernel
set_option maxHeartbeats 400000 in
set_option maxRecDepth 100000 in
theorem mX3_fewestVanes (l : Launch) (D : va_G) (c : Nat → ClassId) (a : Nat → Nat) (φ : Nat → Nat → Nat) (δ : Int64) (sz : Nat) (ok : okM (φ 0)) : MI l yX3_fewestVanes wsX3_fewestVanes rmX3_fewestVanes D c sz (wM c a φ δ) [.ref (a 0)] (nI (qf (φ 0) 9)) (wM c a (pu (pu φ 5 (kc (0))) 1 (qa (φ 1) (φ 0) 9)) δ) := by
  refine MI.of (cc := cX3_fewestVanes) (maxL := 1) (ty := .int) (by decide) rfl (Nat.le_of_ble_eq_true rfl) rfl ?_
  intro P e s m below meth cd A Q ls hsz S hK hW hA hl hret
  have hl : lv_has ls 1 [(0, .ref (a 0))] := hl
  have hinX3 : ∀ w ∈ u_ws RX3 TX3 13, w ∈ wsX3_fewestVanes := by decide +kernel
  refine lv_aload_n S.1 S.2.1 dX3_fewestVanes_0 rfl (lv_at hl 0 rfl) ?_
  refine lv_iconst (v := nI (0)) S.1 S.2.1 dX3_fewestVanes_1 rfl ?_
  refine kx_put S hK hW hinX3 tyX3_ok nmX3 0 3 rfl rfl 0 (by decide) (List.mem_of_getElem? (i := 1) rfl) rfl (v := .int (nI (0))) rfl rfl (Nat.le_of_ble_eq_true rfl) dX3_fewestVanes_2 (fun H locs hW => ?_)
  have hW : kw D A s.heap (wM c a (pu φ 5 (kc (0))) δ) H locs := hW
  refine lv_aload_n S.1 S.2.1 dX3_fewestVanes_5 rfl (lv_at hl 0 rfl) ?_
  refine k_VI (rest := []) S hK hl.1 hW (KFr.all hW hA) (mX3_quietVanes l D c a ((pu φ 5 (kc (0)))) δ _ (by first | omega | exact ok | assumption)) gX3_fewestVanes_X3_quietVanes rfl pdX3_quietVanes ⟨⟨rfl, rfl⟩, Nat.le_of_ble_eq_true rfl, Nat.le_of_ble_eq_true rfl⟩ 0 3 rfl rfl rfl rfl (Nat.le_of_ble_eq_true rfl) dX3_fewestVanes_6 ⟨Nat.le_of_ble_eq_true rfl, Nat.le_of_ble_eq_true rfl⟩ (fun H locs hW => ?_)
  have hW : kw D A s.heap (wM c a (pu (pu φ 5 (kc (0))) 1 (qa ((φ 1)) ((φ 0)) 9)) δ) H locs := hW
  refine k_top (y := nI (qf ((φ 0)) 9)) rfl ?_
  exact hret 9 _ _ _ _ _ dX3_fewestVanes_9 hW (rfl) (rfl)
abbrev rmX3_digestOne : Room := { frames := 0, cells := 0, slots := 0, locals := 0 }
theorem pdX3_digestOne : kPd yX3_digestOne 1 := by decide +kernel
set_option maxHeartbeats 400000 in
set_option maxRecDepth 100000 in
theorem mX3_digestOne (l : Launch) (D : va_G) (c : Nat → ClassId) (a : Nat → Nat) (φ : Nat → Nat → Nat) (δ : Int64) (sz : Nat) (v : Int64) : MV l yX3_digestOne wsX3_digestOne rmX3_digestOne D c sz (wM c a φ δ) [.ref (a 0), .long (v)]  (wM c a φ (31 * δ + v)) := by
  refine MV.of (cc := cX3_digestOne) (maxL := 3) (by decide) rfl (Nat.le_of_ble_eq_true rfl) ?_
  intro P e s m below meth cd A Q ls hsz S hK hW hA hl hret
  have hl : lv_has ls 3 [(0, .ref (a 0)), (1, .long (v))] := hl
  have hinX3 : ∀ w ∈ u_ws RX3 TX3 13, w ∈ wsX3_digestOne := by decide +kernel
  refine lv_aload_n S.1 S.2.1 dX3_digestOne_0 rfl (lv_at hl 0 rfl) ?_
  refine lv_ldc2 (v := 31) S.1 S.2.1 S.2.2.2.1 (S.2.2.2.2 _ (List.mem_of_getElem? (i := 1) rfl)) dX3_digestOne_1 ?_
  refine lv_aload_n S.1 S.2.1 dX3_digestOne_4 rfl (lv_at hl 0 rfl) ?_
  refine kx_get S hK hW hinX3 0 3 rfl rfl 12 (by decide) (List.mem_of_getElem? (i := 2) rfl) (v := .long (δ)) rfl dX3_digestOne_5 ?_
  refine lv_lmul S.1 S.2.1 dX3_digestOne_8 ?_
  refine lv_lload_n S.1 S.2.1 dX3_digestOne_9 rfl (lv_at hl 1 rfl) ?_
  refine lv_ladd S.1 S.2.1 dX3_digestOne_10 ?_
  refine kx_put S hK hW hinX3 tyX3_ok nmX3 0 3 rfl rfl 12 (by decide) (List.mem_of_getElem? (i := 2) rfl) rfl (v := .long ((31 * δ) + v)) rfl rfl (Nat.le_of_ble_eq_true rfl) dX3_digestOne_11 (fun H locs hW => ?_)
  have hW : kw D A s.heap (wM c a φ ((31 * δ) + v)) H locs := hW
  exact hret 14 _ _ _ _ dX3_digestOne_14 hW (rfl)
