abbrev rmX3_goes : Room := { frames := 3, cells := 0, slots := 0, locals := 67 }
theorem pdX3_goes : kPd yX3_goes 0 := by decide +kernel
set_option maxHeartbeats 4000000 in
set_option maxRecDepth 100000 in
theorem mX3_goes (l : Launch) (D : va_G) (c : Nat → ClassId) (a : Nat → Nat) (φ : Nat → Nat → Nat) (δ : Int64) (sz : Nat) (ok : okM (φ 0)) : MI l yX3_goes wsX3_goes rmX3_goes D c sz (wM c a φ δ) [.ref (a 0)] (nI (can (φ 0)).toNat) (wM c a (pu φ 0 ((if can (φ 0) then goes (φ 0) else φ 0))) δ) := by
  refine MI.of (cc := cX3_goes) (maxL := 4) (ty := .boolean) (by decide) rfl (Nat.le_of_ble_eq_true rfl) (k_narB _) ?_
  intro P e s m below meth cd A Q ls hsz S hK hW hA hl hret
  have hl : lv_has ls 4 [(0, .ref (a 0))] := hl
  have hinX3 : ∀ w ∈ u_ws RX3 TX3 13, w ∈ wsX3_goes := by decide +kernel
  have h135 := ok.k135
  have hn := need_le (φ 0)
  have ht := tks_le ok
  have h135b := ok.g2.k135
  have h135c := ok.g5.k135
  have hg135 : g2 (φ 0) 135 = φ 0 135 := by unfold g2 g1; rw [fu_ne (by decide), fu_ne (by decide)]
  have h136 := ok.g5.k136
  refine lv_aload_n S.1 S.2.1 dX3_goes_0 rfl (lv_at hl 0 rfl) ?_
  refine k_VI (rest := []) S hK hl.1 hW (KFr.all hW hA) (mX3_need l D c a φ δ _ (by omega)) gX3_goes_X3_need rfl pdX3_need ⟨⟨rfl, rfl⟩, Nat.le_of_ble_eq_true rfl, Nat.le_of_ble_eq_true rfl⟩ 0 3 rfl rfl rfl rfl (Nat.le_of_ble_eq_true rfl) dX3_goes_1 ⟨Nat.le_of_ble_eq_true rfl, Nat.le_of_ble_eq_true rfl⟩ (fun H locs hW => ?_)
  have hW : kw D A s.heap (wM c a φ δ) H locs := hW
  refine lv_istore_n (lv' := [(1, .int (nI (need (φ 0)))), (0, .ref (a 0))]) S.1 S.2.1 dX3_goes_4 rfl hl (by decide) rfl (fun ls hl => ?_)
  refine lv_aload_n S.1 S.2.1 dX3_goes_5 rfl (lv_at hl 1 rfl) ?_
  refine kx_get S hK hW hinX3 0 3 rfl rfl 1 (by decide) (List.mem_of_getElem? (i := 1) rfl) (v := .ref (a 1)) rfl dX3_goes_6 ?_
  refine lv_sipush (v := nI (135)) S.1 S.2.1 dX3_goes_9 rfl ?_
  refine kn_ald S hK hW 1 (f := φ 0) rfl (by omega) (by decide) dX3_goes_12 ?_
  refine lv_iload_n S.1 S.2.1 dX3_goes_13 rfl (lv_at hl 0 rfl) ?_
  refine kn_ge S (tgt := 19) dX3_goes_14 (by decide) (by omega) (by omega) (fun c_14 => ?_) (fun c_14 => ?_)
  · have hcan : can (φ 0) = true := decide_eq_true c_14
    refine lv_aload_n S.1 S.2.1 dX3_goes_19 rfl (lv_at hl 1 rfl) ?_
    refine kx_get S hK hW hinX3 0 3 rfl rfl 1 (by decide) (List.mem_of_getElem? (i := 1) rfl) (v := .ref (a 1)) rfl dX3_goes_20 ?_
    refine lv_sipush (v := nI (134)) S.1 S.2.1 dX3_goes_23 rfl ?_
    refine lv_aload_n S.1 S.2.1 dX3_goes_26 rfl (lv_at hl 1 rfl) ?_
    refine k_VI (rest := [.int (nI (134)), .ref (a 1)]) S hK hl.1 hW (KFr.all hW hA) (mX3_nextTune l D c a φ δ _ ok) gX3_goes_X3_nextTune rfl pdX3_nextTune ⟨⟨rfl, rfl⟩, Nat.le_of_ble_eq_true rfl, Nat.le_of_ble_eq_true rfl⟩ 0 3 rfl rfl rfl rfl (Nat.le_of_ble_eq_true rfl) dX3_goes_27 ⟨Nat.le_of_ble_eq_true rfl, Nat.le_of_ble_eq_true rfl⟩ (fun H locs hW => ?_)
    have hW : kw D A s.heap (wM c a φ δ) H locs := hW
    refine kn_ast S hK hW 1 (f := φ 0) rfl (by omega) (by decide) dX3_goes_30 (fun H locs hW => ?_)
    have hW : kw D A s.heap (wM c a (pu φ 0 (fu (φ 0) 134 (ntu (φ 0)))) δ) H locs := hW
    have hW : kw D A s.heap (wM c a (pu φ 0 (g1 (φ 0))) δ) H locs := hW
    refine lv_aload_n S.1 S.2.1 dX3_goes_31 rfl (lv_at hl 1 rfl) ?_
    refine kx_get S hK hW hinX3 0 3 rfl rfl 1 (by decide) (List.mem_of_getElem? (i := 1) rfl) (v := .ref (a 1)) rfl dX3_goes_32 ?_
    refine lv_sipush (v := nI (133)) S.1 S.2.1 dX3_goes_35 rfl ?_
    refine lv_aload_n S.1 S.2.1 dX3_goes_38 rfl (lv_at hl 1 rfl) ?_
    refine k_VI (rest := [.int (nI (133)), .ref (a 1)]) S hK hl.1 hW (KFr.all hW hA) (mX3_nextStep l D c a ((pu φ 0 (g1 (φ 0)))) δ _ ok.g1) gX3_goes_X3_nextStep rfl pdX3_nextStep ⟨⟨rfl, rfl⟩, Nat.le_of_ble_eq_true rfl, Nat.le_of_ble_eq_true rfl⟩ 0 3 rfl rfl rfl rfl (Nat.le_of_ble_eq_true rfl) dX3_goes_39 ⟨Nat.le_of_ble_eq_true rfl, Nat.le_of_ble_eq_true rfl⟩ (fun H locs hW => ?_)
    have hW : kw D A s.heap (wM c a (pu φ 0 (g1 (φ 0))) δ) H locs := hW
    refine k_top (y := nI (((g1 (φ 0)) 133 + 1) % 32)) rfl ?_
    refine kn_ast S hK hW 1 (f := g1 (φ 0)) rfl (by omega) (by decide) dX3_goes_42 (fun H locs hW => ?_)
    have hW : kw D A s.heap (wM c a (pu φ 0 (fu (g1 (φ 0)) 133 (((g1 (φ 0)) 133 + 1) % 32))) δ) H locs := hW
    have hW : kw D A s.heap (wM c a (pu φ 0 (g2 (φ 0))) δ) H locs := hW
    refine lv_aload_n S.1 S.2.1 dX3_goes_43 rfl (lv_at hl 1 rfl) ?_
    refine kx_get S hK hW hinX3 0 3 rfl rfl 1 (by decide) (List.mem_of_getElem? (i := 1) rfl) (v := .ref (a 1)) rfl dX3_goes_44 ?_
    refine lv_sipush (v := nI (135)) S.1 S.2.1 dX3_goes_47 rfl ?_
    refine lv_dup2_11 S.1 S.2.1 dX3_goes_50 rfl rfl ?_
    refine kn_ald S hK hW 1 (f := g2 (φ 0)) rfl (by omega) (by decide) dX3_goes_51 ?_
    refine lv_iload_n S.1 S.2.1 dX3_goes_52 rfl (lv_at hl 0 rfl) ?_
    refine kn_isub S dX3_goes_53 (by omega) ?_
    refine kn_ast S hK hW 1 (f := g2 (φ 0)) rfl (by omega) (by decide) dX3_goes_54 (fun H locs hW => ?_)
    have hW : kw D A s.heap (wM c a (pu φ 0 (fu (g2 (φ 0)) 135 (((g2 (φ 0)) (135)) - (need (φ 0))))) δ) H locs := hW
    have hW : kw D A s.heap (wM c a (pu φ 0 (g3 (φ 0))) δ) H locs := hW
    refine lv_aload_n S.1 S.2.1 dX3_goes_55 rfl (lv_at hl 1 rfl) ?_
    refine kx_get S hK hW hinX3 0 3 rfl rfl 1 (by decide) (List.mem_of_getElem? (i := 1) rfl) (v := .ref (a 1)) rfl dX3_goes_56 ?_
    refine lv_sipush (v := nI (141)) S.1 S.2.1 dX3_goes_59 rfl ?_
    refine lv_dup2_11 S.1 S.2.1 dX3_goes_62 rfl rfl ?_
    refine kn_ald S hK hW 1 (f := g3 (φ 0)) rfl (by omega) (by decide) dX3_goes_63 ?_
    refine lv_iload_n S.1 S.2.1 dX3_goes_64 rfl (lv_at hl 0 rfl) ?_
    refine kn_iadd S dX3_goes_65 ?_
    refine kn_ast S hK hW 1 (f := g3 (φ 0)) rfl (by omega) (by decide) dX3_goes_66 (fun H locs hW => ?_)
    have hW : kw D A s.heap (wM c a (pu φ 0 (fu (g3 (φ 0)) 141 ((g3 (φ 0)) (141) + need (φ 0)))) δ) H locs := hW
    have hW : kw D A s.heap (wM c a (pu φ 0 (g4 (φ 0))) δ) H locs := hW
    refine lv_aload_n S.1 S.2.1 dX3_goes_67 rfl (lv_at hl 1 rfl) ?_
    refine kx_get S hK hW hinX3 0 3 rfl rfl 1 (by decide) (List.mem_of_getElem? (i := 1) rfl) (v := .ref (a 1)) rfl dX3_goes_68 ?_
    refine lv_sipush (v := nI (138)) S.1 S.2.1 dX3_goes_71 rfl ?_
    refine lv_dup2_11 S.1 S.2.1 dX3_goes_74 rfl rfl ?_
    refine kn_ald S hK hW 1 (f := g4 (φ 0)) rfl (by omega) (by decide) dX3_goes_75 ?_
    refine lv_iconst (v := nI (1)) S.1 S.2.1 dX3_goes_76 rfl ?_
    refine kn_iadd S dX3_goes_77 ?_
    refine kn_ast S hK hW 1 (f := g4 (φ 0)) rfl (by omega) (by decide) dX3_goes_78 (fun H locs hW => ?_)
    have hW : kw D A s.heap (wM c a (pu φ 0 (fu (g4 (φ 0)) 138 ((g4 (φ 0)) (138) + 1))) δ) H locs := hW
    have hW : kw D A s.heap (wM c a (pu φ 0 (g5 (φ 0))) δ) H locs := hW
    refine lv_bipush (v := nI (12)) S.1 S.2.1 dX3_goes_79 rfl ?_
    refine lv_aload_n S.1 S.2.1 dX3_goes_81 rfl (lv_at hl 1 rfl) ?_
    refine kx_get S hK hW hinX3 0 3 rfl rfl 1 (by decide) (List.mem_of_getElem? (i := 1) rfl) (v := .ref (a 1)) rfl dX3_goes_82 ?_
    refine lv_sipush (v := nI (135)) S.1 S.2.1 dX3_goes_85 rfl ?_
    refine kn_ald S hK hW 1 (f := g5 (φ 0)) rfl (by omega) (by decide) dX3_goes_88 ?_
    refine lv_bipush (v := nI (50)) S.1 S.2.1 dX3_goes_89 rfl ?_
    refine kn_idiv S dX3_goes_91 (by omega) (by omega) (by omega) ?_
    refine kn_isub S dX3_goes_92 (by omega) ?_
    refine lv_aload_n S.1 S.2.1 dX3_goes_93 rfl (lv_at hl 1 rfl) ?_
    refine kx_get S hK hW hinX3 0 3 rfl rfl 1 (by decide) (List.mem_of_getElem? (i := 1) rfl) (v := .ref (a 1)) rfl dX3_goes_94 ?_
    refine lv_sipush (v := nI (136)) S.1 S.2.1 dX3_goes_97 rfl ?_
    refine kn_ald S hK hW 1 (f := g5 (φ 0)) rfl (by omega) (by decide) dX3_goes_100 ?_
    refine kn_iadd S dX3_goes_101 ?_
    refine lv_istore_n (lv' := [(2, .int (nI (12 - (((g5 (φ 0)) (135)) / 50) + (g5 (φ 0)) (136)))), (1, .int (nI (need (φ 0)))), (0, .ref (a 0))]) S.1 S.2.1 dX3_goes_102 rfl hl (by decide) rfl (fun ls hl => ?_)
    refine lv_iload_n S.1 S.2.1 dX3_goes_103 rfl (lv_at hl 0 rfl) ?_
    refine lv_iconst (v := nI (2)) S.1 S.2.1 dX3_goes_104 rfl ?_
    refine kn_ge S (tgt := 112) dX3_goes_105 (by decide) (by omega) (by omega) (fun c_105 => ?_) (fun c_105 => ?_)
    · refine lv_iload_n S.1 S.2.1 dX3_goes_112 rfl (lv_at hl 0 rfl) ?_
      refine k_top (y := nI (tks (φ 0))) (congrArg nI (by unfold tks; omega)) ?_
      refine lv_istore_n (lv' := [(2, .int (nI (tks (φ 0)))), (1, .int (nI (need (φ 0)))), (0, .ref (a 0))]) S.1 S.2.1 dX3_goes_113 rfl hl (by decide) rfl (fun ls hl => ?_)
      refine lv_aload_n S.1 S.2.1 dX3_goes_114 rfl (lv_at hl 2 rfl) ?_
      refine kx_get S hK hW hinX3 0 3 rfl rfl 1 (by decide) (List.mem_of_getElem? (i := 1) rfl) (v := .ref (a 1)) rfl dX3_goes_115 ?_
      refine lv_sipush (v := nI (137)) S.1 S.2.1 dX3_goes_118 rfl ?_
      refine lv_dup2_11 S.1 S.2.1 dX3_goes_121 rfl rfl ?_
      refine kn_ald S hK hW 1 (f := g5 (φ 0)) rfl (by omega) (by decide) dX3_goes_122 ?_
      refine lv_iload_n S.1 S.2.1 dX3_goes_123 rfl (lv_at hl 0 rfl) ?_
      refine kn_iadd S dX3_goes_124 ?_
      refine kn_ast S hK hW 1 (f := g5 (φ 0)) rfl (by omega) (by decide) dX3_goes_125 (fun H locs hW => ?_)
      have hW : kw D A s.heap (wM c a (pu φ 0 (fu (g5 (φ 0)) 137 ((g5 (φ 0)) (137) + tks (φ 0)))) δ) H locs := hW
      have hW : kw D A s.heap (wM c a (pu φ 0 (g6 (φ 0))) δ) H locs := hW
      refine lv_iconst (v := nI (0)) S.1 S.2.1 dX3_goes_126 rfl ?_
      refine lv_istore_n (lv' := [(3, .int (nI (0))), (2, .int (nI (tks (φ 0)))), (1, .int (nI (need (φ 0)))), (0, .ref (a 0))]) S.1 S.2.1 dX3_goes_127 rfl hl (by decide) rfl (fun ls hl => ?_)
      refine k_loop (fun (zz : Nat) H lo ls => match zz with | k => kw D A s.heap (wM c a (pu φ 0 (g7 (g6 (φ 0)) (tks (φ 0)) k)) δ) H lo ∧ lv_has ls 4 [(0, .ref (a 0)), (1, .int (nI (need (φ 0)))), (2, .int (nI (tks (φ 0)))), (3, .int (nI (k)))] ∧ k ≤ 12) (fun (zz : Nat) => match zz with | k => 12 - k) [] ?_ 0 _ _ _ ⟨hW, lv_sub hl [3, 2, 1, 0] rfl, (by decide)⟩
      rintro k ih128 H locs ls ⟨hW, hl, hi128_0⟩
      have okk := ok.g6.g7 (tks (φ 0)) k hi128_0
      refine lv_iload_n S.1 S.2.1 dX3_goes_128 rfl (lv_at hl 3 rfl) ?_
      refine lv_bipush (v := nI (12)) S.1 S.2.1 dX3_goes_129 rfl ?_
      refine kn_ge S (tgt := 180) dX3_goes_131 (by decide) (by omega) (by omega) (fun c_131 => ?_) (fun c_131 => ?_)
      · have e9 : k = 12 := by omega
        subst e9
        refine lv_iconst (v := nI (0)) S.1 S.2.1 dX3_goes_180 rfl ?_
        refine lv_istore_n (lv' := [(3, .int (nI (0))), (0, .ref (a 0)), (1, .int (nI (need (φ 0)))), (2, .int (nI (tks (φ 0))))]) S.1 S.2.1 dX3_goes_181 rfl hl (by decide) rfl (fun ls hl => ?_)
        refine k_loop (fun (zz : Nat) H lo ls => match zz with | k => kw D A s.heap (wM c a (pu φ 0 (g8 (g7 (g6 (φ 0)) (tks (φ 0)) 12) (tks (φ 0)) k)) δ) H lo ∧ lv_has ls 4 [(0, .ref (a 0)), (1, .int (nI (need (φ 0)))), (2, .int (nI (tks (φ 0)))), (3, .int (nI (k)))] ∧ k ≤ 12) (fun (zz : Nat) => match zz with | k => 12 - k) [] ?_ 0 _ _ _ ⟨hW, lv_sub hl [1, 2, 3, 0] rfl, (by decide)⟩
        rintro k ih182 H locs ls ⟨hW, hl, hi182_0⟩
        have okk := (ok.g6.g7 (tks (φ 0)) 12 (by decide)).g8 (tks (φ 0)) k hi182_0
        have k134 := okk.k134
        have k133 := okk.k133
        refine lv_iload_n S.1 S.2.1 dX3_goes_182 rfl (lv_at hl 3 rfl) ?_
        refine lv_bipush (v := nI (12)) S.1 S.2.1 dX3_goes_183 rfl ?_
        refine kn_ge S (tgt := 237) dX3_goes_185 (by decide) (by omega) (by omega) (fun c_185 => ?_) (fun c_185 => ?_)
        · have e9 : k = 12 := by omega
          subst e9
          refine lv_iconst (v := nI (1)) S.1 S.2.1 dX3_goes_237 rfl ?_
          exact hret 238 _ _ _ _ _ dX3_goes_238 hW (by rw [hcan]; rfl) (congrArg (fun g => wM c a (pu φ 0 g) δ) (show goes (φ 0) = if can (φ 0) then goes (φ 0) else φ 0 from by rw [hcan]; rfl))
        · have hb := okk.broken c_185
          refine lv_aload_n S.1 S.2.1 dX3_goes_188 rfl (lv_at hl 0 rfl) ?_
          refine lv_aload_n S.1 S.2.1 dX3_goes_189 rfl (lv_at hl 0 rfl) ?_
          refine kx_get S hK hW hinX3 0 3 rfl rfl 1 (by decide) (List.mem_of_getElem? (i := 1) rfl) (v := .ref (a 1)) rfl dX3_goes_190 ?_
          refine lv_sipush (v := nI (134)) S.1 S.2.1 dX3_goes_193 rfl ?_
          refine kn_ald S hK hW 1 (f := g8 (g7 (g6 (φ 0)) (tks (φ 0)) 12) (tks (φ 0)) k) rfl (by omega) (by decide) dX3_goes_196 ?_
          refine lv_iload_n S.1 S.2.1 dX3_goes_197 rfl (lv_at hl 3 rfl) ?_
          refine lv_aload_n S.1 S.2.1 dX3_goes_198 rfl (lv_at hl 0 rfl) ?_
          refine kx_get S hK hW hinX3 0 3 rfl rfl 1 (by decide) (List.mem_of_getElem? (i := 1) rfl) (v := .ref (a 1)) rfl dX3_goes_199 ?_
          refine lv_sipush (v := nI (133)) S.1 S.2.1 dX3_goes_202 rfl ?_
          refine kn_ald S hK hW 1 (f := g8 (g7 (g6 (φ 0)) (tks (φ 0)) 12) (tks (φ 0)) k) rfl (by omega) (by decide) dX3_goes_205 ?_
          refine k_VI (rest := []) S hK hl.1 hW (KFr.all hW hA) (mX3_isPin l D c a ((pu φ 0 (g8 (g7 (g6 (φ 0)) (tks (φ 0)) 12) (tks (φ 0)) k))) δ _ ((g8 (g7 (g6 (φ 0)) (tks (φ 0)) 12) (tks (φ 0)) k) (134)) k ((g8 (g7 (g6 (φ 0)) (tks (φ 0)) 12) (tks (φ 0)) k) (133)) (by omega) (by omega) (by omega)) gX3_goes_X3_isPin rfl pdX3_isPin ⟨⟨rfl, rfl⟩, Nat.le_of_ble_eq_true rfl, Nat.le_of_ble_eq_true rfl⟩ 0 3 rfl rfl rfl rfl (Nat.le_of_ble_eq_true rfl) dX3_goes_206 ⟨Nat.le_of_ble_eq_true rfl, Nat.le_of_ble_eq_true rfl⟩ (fun H locs hW => ?_)
          have hW : kw D A s.heap (wM c a (pu φ 0 (g8 (g7 (g6 (φ 0)) (tks (φ 0)) 12) (tks (φ 0)) k)) δ) H locs := hW
          refine k_top (y := nI ((pb ((g8 (g7 (g6 (φ 0)) (tks (φ 0)) 12) (tks (φ 0)) k)) ((g8 (g7 (g6 (φ 0)) (tks (φ 0)) 12) (tks (φ 0)) k) (134)) k ((g8 (g7 (g6 (φ 0)) (tks (φ 0)) 12) (tks (φ 0)) k) (133))).toNat)) rfl ?_
          refine kb_eq S (tgt := 231) dX3_goes_209 (by decide) (fun c_209 => ?_) (fun c_209 => ?_)
          · have hW : kw D A s.heap (wM c a (pu φ 0 (g8 (g7 (g6 (φ 0)) (tks (φ 0)) 12) (tks (φ 0)) (k + 1))) δ) H locs := by first | (rw [← g8_t c_209 c_222]; exact hW) | (rw [← g8_f (Or.inl c_209)]; exact hW) | (rw [← g8_f (Or.inr c_222)]; exact hW)
            refine lv_iinc (v := nI (k + 1)) (lv' := [(3, .int (nI (k + 1))), (0, .ref (a 0)), (1, .int (nI (need (φ 0)))), (2, .int (nI (tks (φ 0))))]) S.1 S.2.1 dX3_goes_231 hl (k := 3) rfl (nI_add _ _) (by decide) rfl (fun ls hl => ?_)
            refine lv_goto (tgt := 182) S.1 S.2.1 dX3_goes_234 (by decide) ?_
            exact ih182 (k + 1) _ _ _ ⟨hW, lv_sub hl [1, 2, 3, 0] rfl, (by omega)⟩ (by show 12 - (k + 1) < 12 - k; omega)
          · refine lv_aload_n S.1 S.2.1 dX3_goes_212 rfl (lv_at hl 0 rfl) ?_
            refine kx_get S hK hW hinX3 0 3 rfl rfl 1 (by decide) (List.mem_of_getElem? (i := 1) rfl) (v := .ref (a 1)) rfl dX3_goes_213 ?_
            refine lv_iload_n S.1 S.2.1 dX3_goes_216 rfl (lv_at hl 3 rfl) ?_
            refine lv_iconst (v := nI (2)) S.1 S.2.1 dX3_goes_217 rfl ?_
            refine k_SI (rest := [.ref (a 1)]) S hK hl.1 hW (KFr.nil hW hA) (mX3_of l D c  _ k 2) gX3_goes_X3_of rfl pdX3_of ⟨⟨rfl, rfl⟩, Nat.le_of_ble_eq_true rfl, Nat.le_of_ble_eq_true rfl⟩ rfl (Nat.le_of_ble_eq_true rfl) dX3_goes_218 ⟨Nat.le_of_ble_eq_true rfl, Nat.le_of_ble_eq_true rfl⟩ (fun H locs hW => ?_)
            have hW : kw D A s.heap (wM c a (pu φ 0 (g8 (g7 (g6 (φ 0)) (tks (φ 0)) 12) (tks (φ 0)) k)) δ) H locs := hW
            refine kn_ald S hK hW 1 (f := g8 (g7 (g6 (φ 0)) (tks (φ 0)) 12) (tks (φ 0)) k) rfl (by omega) (by decide) dX3_goes_221 ?_
            refine kz_ne S (tgt := 231) dX3_goes_222 (by decide) (by omega) (fun c_222 => ?_) (fun c_222 => ?_)
            · have hW : kw D A s.heap (wM c a (pu φ 0 (g8 (g7 (g6 (φ 0)) (tks (φ 0)) 12) (tks (φ 0)) (k + 1))) δ) H locs := by first | (rw [← g8_t c_209 c_222]; exact hW) | (rw [← g8_f (Or.inl c_209)]; exact hW) | (rw [← g8_f (Or.inr c_222)]; exact hW)
              refine lv_iinc (v := nI (k + 1)) (lv' := [(3, .int (nI (k + 1))), (0, .ref (a 0)), (1, .int (nI (need (φ 0)))), (2, .int (nI (tks (φ 0))))]) S.1 S.2.1 dX3_goes_231 hl (k := 3) rfl (nI_add _ _) (by decide) rfl (fun ls hl => ?_)
              refine lv_goto (tgt := 182) S.1 S.2.1 dX3_goes_234 (by decide) ?_
              exact ih182 (k + 1) _ _ _ ⟨hW, lv_sub hl [1, 2, 3, 0] rfl, (by omega)⟩ (by show 12 - (k + 1) < 12 - k; omega)
            · refine lv_aload_n S.1 S.2.1 dX3_goes_225 rfl (lv_at hl 0 rfl) ?_
              refine lv_iload_n S.1 S.2.1 dX3_goes_226 rfl (lv_at hl 3 rfl) ?_
              refine lv_iload_n S.1 S.2.1 dX3_goes_227 rfl (lv_at hl 2 rfl) ?_
              refine k_VV (rest := []) S hK hl.1 hW (KFr.all hW hA) (mX3_plucks l D c a ((pu φ 0 (g8 (g7 (g6 (φ 0)) (tks (φ 0)) 12) (tks (φ 0)) k))) δ _ k (tks (φ 0)) c_185 okk c_222 (by omega)) gX3_goes_X3_plucks rfl pdX3_plucks ⟨⟨rfl, rfl⟩, Nat.le_of_ble_eq_true rfl, Nat.le_of_ble_eq_true rfl⟩ 0 3 rfl rfl rfl rfl (Nat.le_of_ble_eq_true rfl) dX3_goes_228 ⟨Nat.le_of_ble_eq_true rfl, Nat.le_of_ble_eq_true rfl⟩ (fun H locs hW => ?_)
              have hW : kw D A s.heap (wM c a (pu φ 0 (plk ((g8 (g7 (g6 (φ 0)) (tks (φ 0)) 12) (tks (φ 0)) k)) k (tks (φ 0)))) δ) H locs := hW
              have hW : kw D A s.heap (wM c a (pu φ 0 (g8 (g7 (g6 (φ 0)) (tks (φ 0)) 12) (tks (φ 0)) (k + 1))) δ) H locs := by first | (rw [← g8_t c_209 c_222]; exact hW) | (rw [← g8_f (Or.inl c_209)]; exact hW) | (rw [← g8_f (Or.inr c_222)]; exact hW)
              refine lv_iinc (v := nI (k + 1)) (lv' := [(3, .int (nI (k + 1))), (0, .ref (a 0)), (1, .int (nI (need (φ 0)))), (2, .int (nI (tks (φ 0))))]) S.1 S.2.1 dX3_goes_231 hl (k := 3) rfl (nI_add _ _) (by decide) rfl (fun ls hl => ?_)
              refine lv_goto (tgt := 182) S.1 S.2.1 dX3_goes_234 (by decide) ?_
              exact ih182 (k + 1) _ _ _ ⟨hW, lv_sub hl [1, 2, 3, 0] rfl, (by omega)⟩ (by show 12 - (k + 1) < 12 - k; omega)
      · have hr := okk.rings c_131
        refine lv_aload_n S.1 S.2.1 dX3_goes_134 rfl (lv_at hl 0 rfl) ?_
        refine kx_get S hK hW hinX3 0 3 rfl rfl 1 (by decide) (List.mem_of_getElem? (i := 1) rfl) (v := .ref (a 1)) rfl dX3_goes_135 ?_
        refine lv_iload_n S.1 S.2.1 dX3_goes_138 rfl (lv_at hl 3 rfl) ?_
        refine lv_iconst (v := nI (0)) S.1 S.2.1 dX3_goes_139 rfl ?_
        refine k_SI (rest := [.ref (a 1)]) S hK hl.1 hW (KFr.nil hW hA) (mX3_of l D c  _ k 0) gX3_goes_X3_of rfl pdX3_of ⟨⟨rfl, rfl⟩, Nat.le_of_ble_eq_true rfl, Nat.le_of_ble_eq_true rfl⟩ rfl (Nat.le_of_ble_eq_true rfl) dX3_goes_140 ⟨Nat.le_of_ble_eq_true rfl, Nat.le_of_ble_eq_true rfl⟩ (fun H locs hW => ?_)
        have hW : kw D A s.heap (wM c a (pu φ 0 (g7 (g6 (φ 0)) (tks (φ 0)) k)) δ) H locs := hW
        refine lv_aload_n S.1 S.2.1 dX3_goes_143 rfl (lv_at hl 0 rfl) ?_
        refine kx_get S hK hW hinX3 0 3 rfl rfl 1 (by decide) (List.mem_of_getElem? (i := 1) rfl) (v := .ref (a 1)) rfl dX3_goes_144 ?_
        refine lv_iload_n S.1 S.2.1 dX3_goes_147 rfl (lv_at hl 3 rfl) ?_
        refine lv_iconst (v := nI (0)) S.1 S.2.1 dX3_goes_148 rfl ?_
        refine k_SI (rest := [.ref (a 1), .int (nI (36 + 4 * k + 0)), .ref (a 1)]) S hK hl.1 hW (KFr.nil hW hA) (mX3_of l D c  _ k 0) gX3_goes_X3_of rfl pdX3_of ⟨⟨rfl, rfl⟩, Nat.le_of_ble_eq_true rfl, Nat.le_of_ble_eq_true rfl⟩ rfl (Nat.le_of_ble_eq_true rfl) dX3_goes_149 ⟨Nat.le_of_ble_eq_true rfl, Nat.le_of_ble_eq_true rfl⟩ (fun H locs hW => ?_)
        have hW : kw D A s.heap (wM c a (pu φ 0 (g7 (g6 (φ 0)) (tks (φ 0)) k)) δ) H locs := hW
        refine kn_ald S hK hW 1 (f := g7 (g6 (φ 0)) (tks (φ 0)) k) rfl (by omega) (by decide) dX3_goes_152 ?_
        refine lv_iload_n S.1 S.2.1 dX3_goes_153 rfl (lv_at hl 2 rfl) ?_
        refine kn_le S (tgt := 172) dX3_goes_154 (by decide) (by omega) (by omega) (fun c_154 => ?_) (fun c_154 => ?_)
        · refine lv_iconst (v := nI (0)) S.1 S.2.1 dX3_goes_172 rfl ?_
          refine k_top (y := nI (g7 (g6 (φ 0)) (tks (φ 0)) k (36 + 4 * k + 0) - tks (φ 0))) (congrArg nI (by omega)) ?_
          refine kn_ast S hK hW 1 (f := g7 (g6 (φ 0)) (tks (φ 0)) k) rfl (by omega) (by decide) dX3_goes_173 (fun H locs hW => ?_)
          have hW : kw D A s.heap (wM c a (pu φ 0 (fu (g7 (g6 (φ 0)) (tks (φ 0)) k) (36 + 4 * k + 0) (g7 (g6 (φ 0)) (tks (φ 0)) k (36 + 4 * k + 0) - tks (φ 0)))) δ) H locs := hW
          have e0 : g7 (g6 (φ 0)) (tks (φ 0)) (k + 1) = fu (g7 (g6 (φ 0)) (tks (φ 0)) k) (36 + 4 * k + 0) (g7 (g6 (φ 0)) (tks (φ 0)) k (36 + 4 * k + 0) - tks (φ 0)) := rfl
          have hW : kw D A s.heap (wM c a (pu φ 0 (g7 (g6 (φ 0)) (tks (φ 0)) (k + 1))) δ) H locs := hW
          refine lv_iinc (v := nI (k + 1)) (lv' := [(3, .int (nI (k + 1))), (0, .ref (a 0)), (1, .int (nI (need (φ 0)))), (2, .int (nI (tks (φ 0))))]) S.1 S.2.1 dX3_goes_174 hl (k := 3) rfl (nI_add _ _) (by decide) rfl (fun ls hl => ?_)
          refine lv_goto (tgt := 128) S.1 S.2.1 dX3_goes_177 (by decide) ?_
          exact ih128 (k + 1) _ _ _ ⟨hW, lv_sub hl [1, 2, 3, 0] rfl, (by omega)⟩ (by show 12 - (k + 1) < 12 - k; omega)
        · refine lv_aload_n S.1 S.2.1 dX3_goes_157 rfl (lv_at hl 0 rfl) ?_
          refine kx_get S hK hW hinX3 0 3 rfl rfl 1 (by decide) (List.mem_of_getElem? (i := 1) rfl) (v := .ref (a 1)) rfl dX3_goes_158 ?_
          refine lv_iload_n S.1 S.2.1 dX3_goes_161 rfl (lv_at hl 3 rfl) ?_
          refine lv_iconst (v := nI (0)) S.1 S.2.1 dX3_goes_162 rfl ?_
          refine k_SI (rest := [.ref (a 1), .int (nI (36 + 4 * k + 0)), .ref (a 1)]) S hK hl.1 hW (KFr.nil hW hA) (mX3_of l D c  _ k 0) gX3_goes_X3_of rfl pdX3_of ⟨⟨rfl, rfl⟩, Nat.le_of_ble_eq_true rfl, Nat.le_of_ble_eq_true rfl⟩ rfl (Nat.le_of_ble_eq_true rfl) dX3_goes_163 ⟨Nat.le_of_ble_eq_true rfl, Nat.le_of_ble_eq_true rfl⟩ (fun H locs hW => ?_)
          have hW : kw D A s.heap (wM c a (pu φ 0 (g7 (g6 (φ 0)) (tks (φ 0)) k)) δ) H locs := hW
          refine kn_ald S hK hW 1 (f := g7 (g6 (φ 0)) (tks (φ 0)) k) rfl (by omega) (by decide) dX3_goes_166 ?_
          refine lv_iload_n S.1 S.2.1 dX3_goes_167 rfl (lv_at hl 2 rfl) ?_
          refine kn_isub S dX3_goes_168 (by omega) ?_
          refine k_top (y := nI (g7 (g6 (φ 0)) (tks (φ 0)) k (36 + 4 * k + 0) - tks (φ 0))) (rfl) ?_
          refine lv_goto (tgt := 173) S.1 S.2.1 dX3_goes_169 (by decide) ?_
          refine kn_ast S hK hW 1 (f := g7 (g6 (φ 0)) (tks (φ 0)) k) rfl (by omega) (by decide) dX3_goes_173 (fun H locs hW => ?_)
          have hW : kw D A s.heap (wM c a (pu φ 0 (fu (g7 (g6 (φ 0)) (tks (φ 0)) k) (36 + 4 * k + 0) (g7 (g6 (φ 0)) (tks (φ 0)) k (36 + 4 * k + 0) - tks (φ 0)))) δ) H locs := hW
          have e0 : g7 (g6 (φ 0)) (tks (φ 0)) (k + 1) = fu (g7 (g6 (φ 0)) (tks (φ 0)) k) (36 + 4 * k + 0) (g7 (g6 (φ 0)) (tks (φ 0)) k (36 + 4 * k + 0) - tks (φ 0)) := rfl
          have hW : kw D A s.heap (wM c a (pu φ 0 (g7 (g6 (φ 0)) (tks (φ 0)) (k + 1))) δ) H locs := hW
          refine lv_iinc (v := nI (k + 1)) (lv' := [(3, .int (nI (k + 1))), (0, .ref (a 0)), (1, .int (nI (need (φ 0)))), (2, .int (nI (tks (φ 0))))]) S.1 S.2.1 dX3_goes_174 hl (k := 3) rfl (nI_add _ _) (by decide) rfl (fun ls hl => ?_)
          refine lv_goto (tgt := 128) S.1 S.2.1 dX3_goes_177 (by decide) ?_
          exact ih128 (k + 1) _ _ _ ⟨hW, lv_sub hl [1, 2, 3, 0] rfl, (by omega)⟩ (by show 12 - (k + 1) < 12 - k; omega)
    · refine lv_iconst (v := nI (2)) S.1 S.2.1 dX3_goes_108 rfl ?_
      refine k_top (y := nI (tks (φ 0))) (congrArg nI (by unfold tks; omega)) ?_
      refine lv_goto (tgt := 113) S.1 S.2.1 dX3_goes_109 (by decide) ?_
      refine lv_istore_n (lv' := [(2, .int (nI (tks (φ 0)))), (1, .int (nI (need (φ 0)))), (0, .ref (a 0))]) S.1 S.2.1 dX3_goes_113 rfl hl (by decide) rfl (fun ls hl => ?_)
      refine lv_aload_n S.1 S.2.1 dX3_goes_114 rfl (lv_at hl 2 rfl) ?_
      refine kx_get S hK hW hinX3 0 3 rfl rfl 1 (by decide) (List.mem_of_getElem? (i := 1) rfl) (v := .ref (a 1)) rfl dX3_goes_115 ?_
      refine lv_sipush (v := nI (137)) S.1 S.2.1 dX3_goes_118 rfl ?_
      refine lv_dup2_11 S.1 S.2.1 dX3_goes_121 rfl rfl ?_
      refine kn_ald S hK hW 1 (f := g5 (φ 0)) rfl (by omega) (by decide) dX3_goes_122 ?_
      refine lv_iload_n S.1 S.2.1 dX3_goes_123 rfl (lv_at hl 0 rfl) ?_
      refine kn_iadd S dX3_goes_124 ?_
      refine kn_ast S hK hW 1 (f := g5 (φ 0)) rfl (by omega) (by decide) dX3_goes_125 (fun H locs hW => ?_)
      have hW : kw D A s.heap (wM c a (pu φ 0 (fu (g5 (φ 0)) 137 ((g5 (φ 0)) (137) + tks (φ 0)))) δ) H locs := hW
      have hW : kw D A s.heap (wM c a (pu φ 0 (g6 (φ 0))) δ) H locs := hW
      refine lv_iconst (v := nI (0)) S.1 S.2.1 dX3_goes_126 rfl ?_
      refine lv_istore_n (lv' := [(3, .int (nI (0))), (2, .int (nI (tks (φ 0)))), (1, .int (nI (need (φ 0)))), (0, .ref (a 0))]) S.1 S.2.1 dX3_goes_127 rfl hl (by decide) rfl (fun ls hl => ?_)
      refine k_loop (fun (zz : Nat) H lo ls => match zz with | k => kw D A s.heap (wM c a (pu φ 0 (g7 (g6 (φ 0)) (tks (φ 0)) k)) δ) H lo ∧ lv_has ls 4 [(0, .ref (a 0)), (1, .int (nI (need (φ 0)))), (2, .int (nI (tks (φ 0)))), (3, .int (nI (k)))] ∧ k ≤ 12) (fun (zz : Nat) => match zz with | k => 12 - k) [] ?_ 0 _ _ _ ⟨hW, lv_sub hl [3, 2, 1, 0] rfl, (by decide)⟩
      rintro k ih128 H locs ls ⟨hW, hl, hi128_0⟩
      have okk := ok.g6.g7 (tks (φ 0)) k hi128_0
      refine lv_iload_n S.1 S.2.1 dX3_goes_128 rfl (lv_at hl 3 rfl) ?_
      refine lv_bipush (v := nI (12)) S.1 S.2.1 dX3_goes_129 rfl ?_
      refine kn_ge S (tgt := 180) dX3_goes_131 (by decide) (by omega) (by omega) (fun c_131 => ?_) (fun c_131 => ?_)
      · have e9 : k = 12 := by omega
        subst e9
        refine lv_iconst (v := nI (0)) S.1 S.2.1 dX3_goes_180 rfl ?_
        refine lv_istore_n (lv' := [(3, .int (nI (0))), (0, .ref (a 0)), (1, .int (nI (need (φ 0)))), (2, .int (nI (tks (φ 0))))]) S.1 S.2.1 dX3_goes_181 rfl hl (by decide) rfl (fun ls hl => ?_)
        refine k_loop (fun (zz : Nat) H lo ls => match zz with | k => kw D A s.heap (wM c a (pu φ 0 (g8 (g7 (g6 (φ 0)) (tks (φ 0)) 12) (tks (φ 0)) k)) δ) H lo ∧ lv_has ls 4 [(0, .ref (a 0)), (1, .int (nI (need (φ 0)))), (2, .int (nI (tks (φ 0)))), (3, .int (nI (k)))] ∧ k ≤ 12) (fun (zz : Nat) => match zz with | k => 12 - k) [] ?_ 0 _ _ _ ⟨hW, lv_sub hl [1, 2, 3, 0] rfl, (by decide)⟩
        rintro k ih182 H locs ls ⟨hW, hl, hi182_0⟩
        have okk := (ok.g6.g7 (tks (φ 0)) 12 (by decide)).g8 (tks (φ 0)) k hi182_0
        have k134 := okk.k134
        have k133 := okk.k133
        refine lv_iload_n S.1 S.2.1 dX3_goes_182 rfl (lv_at hl 3 rfl) ?_
        refine lv_bipush (v := nI (12)) S.1 S.2.1 dX3_goes_183 rfl ?_
        refine kn_ge S (tgt := 237) dX3_goes_185 (by decide) (by omega) (by omega) (fun c_185 => ?_) (fun c_185 => ?_)
        · have e9 : k = 12 := by omega
          subst e9
          refine lv_iconst (v := nI (1)) S.1 S.2.1 dX3_goes_237 rfl ?_
          exact hret 238 _ _ _ _ _ dX3_goes_238 hW (by rw [hcan]; rfl) (congrArg (fun g => wM c a (pu φ 0 g) δ) (show goes (φ 0) = if can (φ 0) then goes (φ 0) else φ 0 from by rw [hcan]; rfl))
        · have hb := okk.broken c_185
          refine lv_aload_n S.1 S.2.1 dX3_goes_188 rfl (lv_at hl 0 rfl) ?_
          refine lv_aload_n S.1 S.2.1 dX3_goes_189 rfl (lv_at hl 0 rfl) ?_
          refine kx_get S hK hW hinX3 0 3 rfl rfl 1 (by decide) (List.mem_of_getElem? (i := 1) rfl) (v := .ref (a 1)) rfl dX3_goes_190 ?_
          refine lv_sipush (v := nI (134)) S.1 S.2.1 dX3_goes_193 rfl ?_
          refine kn_ald S hK hW 1 (f := g8 (g7 (g6 (φ 0)) (tks (φ 0)) 12) (tks (φ 0)) k) rfl (by omega) (by decide) dX3_goes_196 ?_
          refine lv_iload_n S.1 S.2.1 dX3_goes_197 rfl (lv_at hl 3 rfl) ?_
          refine lv_aload_n S.1 S.2.1 dX3_goes_198 rfl (lv_at hl 0 rfl) ?_
          refine kx_get S hK hW hinX3 0 3 rfl rfl 1 (by decide) (List.mem_of_getElem? (i := 1) rfl) (v := .ref (a 1)) rfl dX3_goes_199 ?_
          refine lv_sipush (v := nI (133)) S.1 S.2.1 dX3_goes_202 rfl ?_
          refine kn_ald S hK hW 1 (f := g8 (g7 (g6 (φ 0)) (tks (φ 0)) 12) (tks (φ 0)) k) rfl (by omega) (by decide) dX3_goes_205 ?_
          refine k_VI (rest := []) S hK hl.1 hW (KFr.all hW hA) (mX3_isPin l D c a ((pu φ 0 (g8 (g7 (g6 (φ 0)) (tks (φ 0)) 12) (tks (φ 0)) k))) δ _ ((g8 (g7 (g6 (φ 0)) (tks (φ 0)) 12) (tks (φ 0)) k) (134)) k ((g8 (g7 (g6 (φ 0)) (tks (φ 0)) 12) (tks (φ 0)) k) (133)) (by omega) (by omega) (by omega)) gX3_goes_X3_isPin rfl pdX3_isPin ⟨⟨rfl, rfl⟩, Nat.le_of_ble_eq_true rfl, Nat.le_of_ble_eq_true rfl⟩ 0 3 rfl rfl rfl rfl (Nat.le_of_ble_eq_true rfl) dX3_goes_206 ⟨Nat.le_of_ble_eq_true rfl, Nat.le_of_ble_eq_true rfl⟩ (fun H locs hW => ?_)
          have hW : kw D A s.heap (wM c a (pu φ 0 (g8 (g7 (g6 (φ 0)) (tks (φ 0)) 12) (tks (φ 0)) k)) δ) H locs := hW
          refine k_top (y := nI ((pb ((g8 (g7 (g6 (φ 0)) (tks (φ 0)) 12) (tks (φ 0)) k)) ((g8 (g7 (g6 (φ 0)) (tks (φ 0)) 12) (tks (φ 0)) k) (134)) k ((g8 (g7 (g6 (φ 0)) (tks (φ 0)) 12) (tks (φ 0)) k) (133))).toNat)) rfl ?_
          refine kb_eq S (tgt := 231) dX3_goes_209 (by decide) (fun c_209 => ?_) (fun c_209 => ?_)
          · have hW : kw D A s.heap (wM c a (pu φ 0 (g8 (g7 (g6 (φ 0)) (tks (φ 0)) 12) (tks (φ 0)) (k + 1))) δ) H locs := by first | (rw [← g8_t c_209 c_222]; exact hW) | (rw [← g8_f (Or.inl c_209)]; exact hW) | (rw [← g8_f (Or.inr c_222)]; exact hW)
            refine lv_iinc (v := nI (k + 1)) (lv' := [(3, .int (nI (k + 1))), (0, .ref (a 0)), (1, .int (nI (need (φ 0)))), (2, .int (nI (tks (φ 0))))]) S.1 S.2.1 dX3_goes_231 hl (k := 3) rfl (nI_add _ _) (by decide) rfl (fun ls hl => ?_)
            refine lv_goto (tgt := 182) S.1 S.2.1 dX3_goes_234 (by decide) ?_
            exact ih182 (k + 1) _ _ _ ⟨hW, lv_sub hl [1, 2, 3, 0] rfl, (by omega)⟩ (by show 12 - (k + 1) < 12 - k; omega)
          · refine lv_aload_n S.1 S.2.1 dX3_goes_212 rfl (lv_at hl 0 rfl) ?_
            refine kx_get S hK hW hinX3 0 3 rfl rfl 1 (by decide) (List.mem_of_getElem? (i := 1) rfl) (v := .ref (a 1)) rfl dX3_goes_213 ?_
            refine lv_iload_n S.1 S.2.1 dX3_goes_216 rfl (lv_at hl 3 rfl) ?_
            refine lv_iconst (v := nI (2)) S.1 S.2.1 dX3_goes_217 rfl ?_
            refine k_SI (rest := [.ref (a 1)]) S hK hl.1 hW (KFr.nil hW hA) (mX3_of l D c  _ k 2) gX3_goes_X3_of rfl pdX3_of ⟨⟨rfl, rfl⟩, Nat.le_of_ble_eq_true rfl, Nat.le_of_ble_eq_true rfl⟩ rfl (Nat.le_of_ble_eq_true rfl) dX3_goes_218 ⟨Nat.le_of_ble_eq_true rfl, Nat.le_of_ble_eq_true rfl⟩ (fun H locs hW => ?_)
            have hW : kw D A s.heap (wM c a (pu φ 0 (g8 (g7 (g6 (φ 0)) (tks (φ 0)) 12) (tks (φ 0)) k)) δ) H locs := hW
            refine kn_ald S hK hW 1 (f := g8 (g7 (g6 (φ 0)) (tks (φ 0)) 12) (tks (φ 0)) k) rfl (by omega) (by decide) dX3_goes_221 ?_
            refine kz_ne S (tgt := 231) dX3_goes_222 (by decide) (by omega) (fun c_222 => ?_) (fun c_222 => ?_)
            · have hW : kw D A s.heap (wM c a (pu φ 0 (g8 (g7 (g6 (φ 0)) (tks (φ 0)) 12) (tks (φ 0)) (k + 1))) δ) H locs := by first | (rw [← g8_t c_209 c_222]; exact hW) | (rw [← g8_f (Or.inl c_209)]; exact hW) | (rw [← g8_f (Or.inr c_222)]; exact hW)
              refine lv_iinc (v := nI (k + 1)) (lv' := [(3, .int (nI (k + 1))), (0, .ref (a 0)), (1, .int (nI (need (φ 0)))), (2, .int (nI (tks (φ 0))))]) S.1 S.2.1 dX3_goes_231 hl (k := 3) rfl (nI_add _ _) (by decide) rfl (fun ls hl => ?_)
              refine lv_goto (tgt := 182) S.1 S.2.1 dX3_goes_234 (by decide) ?_
              exact ih182 (k + 1) _ _ _ ⟨hW, lv_sub hl [1, 2, 3, 0] rfl, (by omega)⟩ (by show 12 - (k + 1) < 12 - k; omega)
            · refine lv_aload_n S.1 S.2.1 dX3_goes_225 rfl (lv_at hl 0 rfl) ?_
              refine lv_iload_n S.1 S.2.1 dX3_goes_226 rfl (lv_at hl 3 rfl) ?_
              refine lv_iload_n S.1 S.2.1 dX3_goes_227 rfl (lv_at hl 2 rfl) ?_
              refine k_VV (rest := []) S hK hl.1 hW (KFr.all hW hA) (mX3_plucks l D c a ((pu φ 0 (g8 (g7 (g6 (φ 0)) (tks (φ 0)) 12) (tks (φ 0)) k))) δ _ k (tks (φ 0)) c_185 okk c_222 (by omega)) gX3_goes_X3_plucks rfl pdX3_plucks ⟨⟨rfl, rfl⟩, Nat.le_of_ble_eq_true rfl, Nat.le_of_ble_eq_true rfl⟩ 0 3 rfl rfl rfl rfl (Nat.le_of_ble_eq_true rfl) dX3_goes_228 ⟨Nat.le_of_ble_eq_true rfl, Nat.le_of_ble_eq_true rfl⟩ (fun H locs hW => ?_)
              have hW : kw D A s.heap (wM c a (pu φ 0 (plk ((g8 (g7 (g6 (φ 0)) (tks (φ 0)) 12) (tks (φ 0)) k)) k (tks (φ 0)))) δ) H locs := hW
              have hW : kw D A s.heap (wM c a (pu φ 0 (g8 (g7 (g6 (φ 0)) (tks (φ 0)) 12) (tks (φ 0)) (k + 1))) δ) H locs := by first | (rw [← g8_t c_209 c_222]; exact hW) | (rw [← g8_f (Or.inl c_209)]; exact hW) | (rw [← g8_f (Or.inr c_222)]; exact hW)
              refine lv_iinc (v := nI (k + 1)) (lv' := [(3, .int (nI (k + 1))), (0, .ref (a 0)), (1, .int (nI (need (φ 0)))), (2, .int (nI (tks (φ 0))))]) S.1 S.2.1 dX3_goes_231 hl (k := 3) rfl (nI_add _ _) (by decide) rfl (fun ls hl => ?_)
              refine lv_goto (tgt := 182) S.1 S.2.1 dX3_goes_234 (by decide) ?_
              exact ih182 (k + 1) _ _ _ ⟨hW, lv_sub hl [1, 2, 3, 0] rfl, (by omega)⟩ (by show 12 - (k + 1) < 12 - k; omega)
      · have hr := okk.rings c_131
        refine lv_aload_n S.1 S.2.1 dX3_goes_134 rfl (lv_at hl 0 rfl) ?_
        refine kx_get S hK hW hinX3 0 3 rfl rfl 1 (by decide) (List.mem_of_getElem? (i := 1) rfl) (v := .ref (a 1)) rfl dX3_goes_135 ?_
        refine lv_iload_n S.1 S.2.1 dX3_goes_138 rfl (lv_at hl 3 rfl) ?_
        refine lv_iconst (v := nI (0)) S.1 S.2.1 dX3_goes_139 rfl ?_
        refine k_SI (rest := [.ref (a 1)]) S hK hl.1 hW (KFr.nil hW hA) (mX3_of l D c  _ k 0) gX3_goes_X3_of rfl pdX3_of ⟨⟨rfl, rfl⟩, Nat.le_of_ble_eq_true rfl, Nat.le_of_ble_eq_true rfl⟩ rfl (Nat.le_of_ble_eq_true rfl) dX3_goes_140 ⟨Nat.le_of_ble_eq_true rfl, Nat.le_of_ble_eq_true rfl⟩ (fun H locs hW => ?_)
        have hW : kw D A s.heap (wM c a (pu φ 0 (g7 (g6 (φ 0)) (tks (φ 0)) k)) δ) H locs := hW
        refine lv_aload_n S.1 S.2.1 dX3_goes_143 rfl (lv_at hl 0 rfl) ?_
        refine kx_get S hK hW hinX3 0 3 rfl rfl 1 (by decide) (List.mem_of_getElem? (i := 1) rfl) (v := .ref (a 1)) rfl dX3_goes_144 ?_
        refine lv_iload_n S.1 S.2.1 dX3_goes_147 rfl (lv_at hl 3 rfl) ?_
        refine lv_iconst (v := nI (0)) S.1 S.2.1 dX3_goes_148 rfl ?_
        refine k_SI (rest := [.ref (a 1), .int (nI (36 + 4 * k + 0)), .ref (a 1)]) S hK hl.1 hW (KFr.nil hW hA) (mX3_of l D c  _ k 0) gX3_goes_X3_of rfl pdX3_of ⟨⟨rfl, rfl⟩, Nat.le_of_ble_eq_true rfl, Nat.le_of_ble_eq_true rfl⟩ rfl (Nat.le_of_ble_eq_true rfl) dX3_goes_149 ⟨Nat.le_of_ble_eq_true rfl, Nat.le_of_ble_eq_true rfl⟩ (fun H locs hW => ?_)
        have hW : kw D A s.heap (wM c a (pu φ 0 (g7 (g6 (φ 0)) (tks (φ 0)) k)) δ) H locs := hW
        refine kn_ald S hK hW 1 (f := g7 (g6 (φ 0)) (tks (φ 0)) k) rfl (by omega) (by decide) dX3_goes_152 ?_
        refine lv_iload_n S.1 S.2.1 dX3_goes_153 rfl (lv_at hl 2 rfl) ?_
        refine kn_le S (tgt := 172) dX3_goes_154 (by decide) (by omega) (by omega) (fun c_154 => ?_) (fun c_154 => ?_)
        · refine lv_iconst (v := nI (0)) S.1 S.2.1 dX3_goes_172 rfl ?_
          refine k_top (y := nI (g7 (g6 (φ 0)) (tks (φ 0)) k (36 + 4 * k + 0) - tks (φ 0))) (congrArg nI (by omega)) ?_
          refine kn_ast S hK hW 1 (f := g7 (g6 (φ 0)) (tks (φ 0)) k) rfl (by omega) (by decide) dX3_goes_173 (fun H locs hW => ?_)
          have hW : kw D A s.heap (wM c a (pu φ 0 (fu (g7 (g6 (φ 0)) (tks (φ 0)) k) (36 + 4 * k + 0) (g7 (g6 (φ 0)) (tks (φ 0)) k (36 + 4 * k + 0) - tks (φ 0)))) δ) H locs := hW
          have e0 : g7 (g6 (φ 0)) (tks (φ 0)) (k + 1) = fu (g7 (g6 (φ 0)) (tks (φ 0)) k) (36 + 4 * k + 0) (g7 (g6 (φ 0)) (tks (φ 0)) k (36 + 4 * k + 0) - tks (φ 0)) := rfl
          have hW : kw D A s.heap (wM c a (pu φ 0 (g7 (g6 (φ 0)) (tks (φ 0)) (k + 1))) δ) H locs := hW
          refine lv_iinc (v := nI (k + 1)) (lv' := [(3, .int (nI (k + 1))), (0, .ref (a 0)), (1, .int (nI (need (φ 0)))), (2, .int (nI (tks (φ 0))))]) S.1 S.2.1 dX3_goes_174 hl (k := 3) rfl (nI_add _ _) (by decide) rfl (fun ls hl => ?_)
          refine lv_goto (tgt := 128) S.1 S.2.1 dX3_goes_177 (by decide) ?_
          exact ih128 (k + 1) _ _ _ ⟨hW, lv_sub hl [1, 2, 3, 0] rfl, (by omega)⟩ (by show 12 - (k + 1) < 12 - k; omega)
        · refine lv_aload_n S.1 S.2.1 dX3_goes_157 rfl (lv_at hl 0 rfl) ?_
          refine kx_get S hK hW hinX3 0 3 rfl rfl 1 (by decide) (List.mem_of_getElem? (i := 1) rfl) (v := .ref (a 1)) rfl dX3_goes_158 ?_
          refine lv_iload_n S.1 S.2.1 dX3_goes_161 rfl (lv_at hl 3 rfl) ?_
          refine lv_iconst (v := nI (0)) S.1 S.2.1 dX3_goes_162 rfl ?_
          refine k_SI (rest := [.ref (a 1), .int (nI (36 + 4 * k + 0)), .ref (a 1)]) S hK hl.1 hW (KFr.nil hW hA) (mX3_of l D c  _ k 0) gX3_goes_X3_of rfl pdX3_of ⟨⟨rfl, rfl⟩, Nat.le_of_ble_eq_true rfl, Nat.le_of_ble_eq_true rfl⟩ rfl (Nat.le_of_ble_eq_true rfl) dX3_goes_163 ⟨Nat.le_of_ble_eq_true rfl, Nat.le_of_ble_eq_true rfl⟩ (fun H locs hW => ?_)
          have hW : kw D A s.heap (wM c a (pu φ 0 (g7 (g6 (φ 0)) (tks (φ 0)) k)) δ) H locs := hW
          refine kn_ald S hK hW 1 (f := g7 (g6 (φ 0)) (tks (φ 0)) k) rfl (by omega) (by decide) dX3_goes_166 ?_
          refine lv_iload_n S.1 S.2.1 dX3_goes_167 rfl (lv_at hl 2 rfl) ?_
          refine kn_isub S dX3_goes_168 (by omega) ?_
          refine k_top (y := nI (g7 (g6 (φ 0)) (tks (φ 0)) k (36 + 4 * k + 0) - tks (φ 0))) (rfl) ?_
          refine lv_goto (tgt := 173) S.1 S.2.1 dX3_goes_169 (by decide) ?_
          refine kn_ast S hK hW 1 (f := g7 (g6 (φ 0)) (tks (φ 0)) k) rfl (by omega) (by decide) dX3_goes_173 (fun H locs hW => ?_)
          have hW : kw D A s.heap (wM c a (pu φ 0 (fu (g7 (g6 (φ 0)) (tks (φ 0)) k) (36 + 4 * k + 0) (g7 (g6 (φ 0)) (tks (φ 0)) k (36 + 4 * k + 0) - tks (φ 0)))) δ) H locs := hW
          have e0 : g7 (g6 (φ 0)) (tks (φ 0)) (k + 1) = fu (g7 (g6 (φ 0)) (tks (φ 0)) k) (36 + 4 * k + 0) (g7 (g6 (φ 0)) (tks (φ 0)) k (36 + 4 * k + 0) - tks (φ 0)) := rfl
          have hW : kw D A s.heap (wM c a (pu φ 0 (g7 (g6 (φ 0)) (tks (φ 0)) (k + 1))) δ) H locs := hW
          refine lv_iinc (v := nI (k + 1)) (lv' := [(3, .int (nI (k + 1))), (0, .ref (a 0)), (1, .int (nI (need (φ 0)))), (2, .int (nI (tks (φ 0))))]) S.1 S.2.1 dX3_goes_174 hl (k := 3) rfl (nI_add _ _) (by decide) rfl (fun ls hl => ?_)
          refine lv_goto (tgt := 128) S.1 S.2.1 dX3_goes_177 (by decide) ?_
          exact ih128 (k + 1) _ _ _ ⟨hW, lv_sub hl [1, 2, 3, 0] rfl, (by omega)⟩ (by show 12 - (k + 1) < 12 - k; omega)
  · have hcan : can (φ 0) = false := decide_eq_false (by omega)
    refine lv_iconst (v := nI (0)) S.1 S.2.1 dX3_goes_17 rfl ?_
    exact hret 18 _ _ _ _ _ dX3_goes_18 hW (by rw [hcan]; rfl) (congrArg (fun g => wM c a (pu φ 0 g) δ) (show φ 0 = if can (φ 0) then goes (φ 0) else φ 0 from by rw [hcan]; rfl))
