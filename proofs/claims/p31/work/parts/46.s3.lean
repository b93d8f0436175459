abbrev rmX1_goOn : Room := { frames := 3, cells := 0, slots := 0, locals := 67 }
theorem pdX1_goOn : kPd yX1_goOn 0 := by decide +kernel
set_option maxHeartbeats 400000 in
set_option maxRecDepth 100000 in
theorem mX1_goOn (l : Launch) (D : va_G) (c : Nat → ClassId) (a : Nat → Nat) (τ : Nat → Nat → Nat) (sz : Nat) (T : Nat) (ok : okS τ T) (hT : T < 300000000) : MI l yX1_goOn wsX1_goOn rmX1_goOn D c sz (wS c a τ) [.ref (a 0)] (nI (canS τ).toNat) (wS c a ((if canS τ then goS τ else τ))) := by
  refine MI.of (cc := cX1_goOn) (maxL := 7) (ty := .boolean) (by decide) rfl (Nat.le_of_ble_eq_true rfl) (k_narB _) ?_
  intro P e s m below meth cd A Q ls hsz S hK hW hA hl hret
  have hl : lv_has ls 7 [(0, .ref (a 0))] := hl
  have hinX1 : ∀ w ∈ u_ws RX1 TX1 17, w ∈ wsX1_goOn := by decide +kernel
  obtain ⟨ok0, ok1, ok2, ⟨ok6, ok6a, ok6b, ok6c, ok6d⟩, ok7, ok8, ok9, ok10, ok11, ok12, ok14, ok15⟩ := id ok
  have hp32 : pnS τ < 32 := Nat.mod_lt _ (by decide)
  have ht3 : tnS τ < 3 := tcS_lt ok9
  have hn33 : ndS τ ≤ 33 := wfS_le _ _ _
  have hti : tiS τ ≤ 21 := tiS_le ok
  have hst : stk τ < 4096 := Nat.lt_of_le_of_lt Nat.and_le_left (ok0 _ (by omega))
  refine lv_aload_n S.1 S.2.1 dX1_goOn_0 rfl (lv_at hl 0 rfl) ?_
  refine kx_get S hK hW hinX1 0 1 rfl rfl 8 (by decide) (List.mem_of_getElem? (i := 1) rfl) (v := .int (nI (τ 8 0))) rfl dX1_goOn_1 ?_
  refine lv_iconst (v := nI (1)) S.1 S.2.1 dX1_goOn_4 rfl ?_
  refine kn_iadd S dX1_goOn_5 ?_
  refine k_SI (rest := []) S hK hl.1 hW (KFr.nil hW hA) (mX1_around_k l D c  _ (τ 8 0 + 1) (by first | omega | exact hx | assumption | (show (τ 8 0 + 1) < 2147483648; omega) | rfl)) gX1_goOn_X1_around rfl pdX1_around ⟨⟨rfl, rfl⟩, Nat.le_of_ble_eq_true rfl, Nat.le_of_ble_eq_true rfl⟩ rfl (Nat.le_of_ble_eq_true rfl) dX1_goOn_6 ⟨Nat.le_of_ble_eq_true rfl, Nat.le_of_ble_eq_true rfl⟩ (fun H locs hW => ?_)
  have hW : kw D A s.heap (wS c a τ) H locs := hW
  refine k_top (y := nI (pnS τ)) (rfl) ?_
  refine lv_istore_n (lv' := [(1, .int (nI (pnS τ))), (0, .ref (a 0))]) S.1 S.2.1 dX1_goOn_9 rfl hl (by decide) rfl (fun ls hl => ?_)
  refine lv_aload_n S.1 S.2.1 dX1_goOn_10 rfl (lv_at hl 1 rfl) ?_
  refine lv_aload_n S.1 S.2.1 dX1_goOn_11 rfl (lv_at hl 1 rfl) ?_
  refine kx_get S hK hW hinX1 0 1 rfl rfl 9 (by decide) (List.mem_of_getElem? (i := 2) rfl) (v := .int (nI (τ 9 0))) rfl dX1_goOn_12 ?_
  refine lv_iload_n S.1 S.2.1 dX1_goOn_15 rfl (lv_at hl 0 rfl) ?_
  refine k_VI (rest := []) S hK hl.1 hW (KFr.all hW hA) (mX1_tuneComing l D c a τ _ (τ 9 0) (pnS τ) T (by first | omega | exact ht | assumption | (show (τ 9 0) < 3; omega) | rfl) (by first | omega | exact hp | assumption | (show (pnS τ) < 32; omega) | rfl) ok) gX1_goOn_X1_tuneComing rfl pdX1_tuneComing ⟨⟨rfl, rfl⟩, Nat.le_of_ble_eq_true rfl, Nat.le_of_ble_eq_true rfl⟩ 0 1 rfl rfl rfl rfl (Nat.le_of_ble_eq_true rfl) dX1_goOn_16 ⟨Nat.le_of_ble_eq_true rfl, Nat.le_of_ble_eq_true rfl⟩ (fun H locs hW => ?_)
  have hW : kw D A s.heap (wS c a τ) H locs := hW
  refine k_top (y := nI (tnS τ)) (rfl) ?_
  refine lv_istore_n (lv' := [(2, .int (nI (tnS τ))), (1, .int (nI (pnS τ))), (0, .ref (a 0))]) S.1 S.2.1 dX1_goOn_19 rfl hl (by decide) rfl (fun ls hl => ?_)
  refine lv_aload_n S.1 S.2.1 dX1_goOn_20 rfl (lv_at hl 2 rfl) ?_
  refine lv_iload_n S.1 S.2.1 dX1_goOn_21 rfl (lv_at hl 0 rfl) ?_
  refine lv_iload_n S.1 S.2.1 dX1_goOn_22 rfl (lv_at hl 1 rfl) ?_
  refine k_VI (rest := []) S hK hl.1 hW (KFr.all hW hA) (mX1_teethAt l D c a τ _ (tnS τ) (pnS τ) (by first | omega | exact ht | assumption | (show (tnS τ) < 3; omega) | rfl) (by first | omega | exact hp | assumption | (show (pnS τ) < 32; omega) | rfl)) gX1_goOn_X1_teethAt rfl pdX1_teethAt ⟨⟨rfl, rfl⟩, Nat.le_of_ble_eq_true rfl, Nat.le_of_ble_eq_true rfl⟩ 0 1 rfl rfl rfl rfl (Nat.le_of_ble_eq_true rfl) dX1_goOn_23 ⟨Nat.le_of_ble_eq_true rfl, Nat.le_of_ble_eq_true rfl⟩ (fun H locs hW => ?_)
  have hW : kw D A s.heap (wS c a τ) H locs := hW
  refine lv_aload_n S.1 S.2.1 dX1_goOn_26 rfl (lv_at hl 2 rfl) ?_
  refine kx_get S hK hW hinX1 0 1 rfl rfl 7 (by decide) (List.mem_of_getElem? (i := 3) rfl) (v := .int (nI (τ 7 0))) rfl dX1_goOn_27 ?_
  refine lv_iconst (v := nI (4294967295)) S.1 S.2.1 dX1_goOn_30 rfl ?_
  refine kn_ixor S dX1_goOn_31 ?_
  refine kn_iand S dX1_goOn_32 ?_
  refine k_top (y := nI (stk τ)) (rfl) ?_
  refine lv_istore_n (lv' := [(3, .int (nI (stk τ))), (2, .int (nI (tnS τ))), (1, .int (nI (pnS τ))), (0, .ref (a 0))]) S.1 S.2.1 dX1_goOn_33 rfl hl (by decide) rfl (fun ls hl => ?_)
  refine lv_aload_n S.1 S.2.1 dX1_goOn_34 rfl (lv_at hl 3 rfl) ?_
  refine lv_iload_n S.1 S.2.1 dX1_goOn_35 rfl (lv_at hl 1 rfl) ?_
  refine lv_iload_n S.1 S.2.1 dX1_goOn_36 rfl (lv_at hl 2 rfl) ?_
  refine k_VI (rest := []) S hK hl.1 hW (KFr.all hW hA) (mX1_windOfStep l D c a τ _ (tnS τ) (pnS τ) T (by first | omega | exact ht | assumption | (show (tnS τ) < 3; omega) | rfl) (by first | omega | exact hp | assumption | (show (pnS τ) < 32; omega) | rfl) ok) gX1_goOn_X1_windOfStep rfl pdX1_windOfStep ⟨⟨rfl, rfl⟩, Nat.le_of_ble_eq_true rfl, Nat.le_of_ble_eq_true rfl⟩ 0 1 rfl rfl rfl rfl (Nat.le_of_ble_eq_true rfl) dX1_goOn_37 ⟨Nat.le_of_ble_eq_true rfl, Nat.le_of_ble_eq_true rfl⟩ (fun H locs hW => ?_)
  have hW : kw D A s.heap (wS c a τ) H locs := hW
  refine k_top (y := nI (ndS τ)) (rfl) ?_
  refine lv_istore (lv' := [(4, .int (nI (ndS τ))), (3, .int (nI (stk τ))), (2, .int (nI (tnS τ))), (1, .int (nI (pnS τ))), (0, .ref (a 0))]) S.1 S.2.1 dX1_goOn_40 hl (by decide) rfl (fun ls hl => ?_)
  refine lv_aload_n S.1 S.2.1 dX1_goOn_42 rfl (lv_at hl 4 rfl) ?_
  refine kx_get S hK hW hinX1 0 1 rfl rfl 10 (by decide) (List.mem_of_getElem? (i := 4) rfl) (v := .int (nI (τ 10 0))) rfl dX1_goOn_43 ?_
  refine lv_iload S.1 S.2.1 dX1_goOn_46 (lv_at hl 0 rfl) ?_
  refine kn_ge S (tgt := 53) dX1_goOn_48 (by decide) (by omega) (by omega) (fun c_48 => ?_) (fun c_48 => ?_)
  · have hcan : canS τ = true := decide_eq_true c_48
    refine lv_aload_n S.1 S.2.1 dX1_goOn_53 rfl (lv_at hl 4 rfl) ?_
    refine lv_iload_n S.1 S.2.1 dX1_goOn_54 rfl (lv_at hl 3 rfl) ?_
    refine kx_put S hK hW hinX1 tyX1_ok nmX1 0 1 rfl rfl 8 (by decide) (List.mem_of_getElem? (i := 1) rfl) rfl (v := .int (nI (pnS τ))) rfl rfl (Nat.le_of_ble_eq_true rfl) dX1_goOn_55 (fun H locs hW => ?_)
    have hW : kw D A s.heap (wS c a (pu τ 8 (kc (pnS τ)))) H locs := hW
    refine lv_aload_n S.1 S.2.1 dX1_goOn_58 rfl (lv_at hl 4 rfl) ?_
    refine lv_iload_n S.1 S.2.1 dX1_goOn_59 rfl (lv_at hl 2 rfl) ?_
    refine kx_put S hK hW hinX1 tyX1_ok nmX1 0 1 rfl rfl 9 (by decide) (List.mem_of_getElem? (i := 2) rfl) rfl (v := .int (nI (tnS τ))) rfl rfl (Nat.le_of_ble_eq_true rfl) dX1_goOn_60 (fun H locs hW => ?_)
    have hW : kw D A s.heap (wS c a (pu (pu τ 8 (kc (pnS τ))) 9 (kc (tnS τ)))) H locs := hW
    refine lv_aload_n S.1 S.2.1 dX1_goOn_63 rfl (lv_at hl 4 rfl) ?_
    refine lv_dup S.1 S.2.1 dX1_goOn_64 rfl ?_
    refine kx_get S hK hW hinX1 0 1 rfl rfl 10 (by decide) (List.mem_of_getElem? (i := 4) rfl) (v := .int (nI (τ 10 0))) rfl dX1_goOn_65 ?_
    refine lv_iload S.1 S.2.1 dX1_goOn_68 (lv_at hl 0 rfl) ?_
    refine kn_isub S dX1_goOn_70 (by omega) ?_
    refine kx_put S hK hW hinX1 tyX1_ok nmX1 0 1 rfl rfl 10 (by decide) (List.mem_of_getElem? (i := 4) rfl) rfl (v := .int (nI ((τ 10 0) - (ndS τ)))) rfl rfl (Nat.le_of_ble_eq_true rfl) dX1_goOn_71 (fun H locs hW => ?_)
    have hW : kw D A s.heap (wS c a (pu (pu (pu τ 8 (kc (pnS τ))) 9 (kc (tnS τ))) 10 (kc ((τ 10 0) - (ndS τ))))) H locs := hW
    refine lv_aload_n S.1 S.2.1 dX1_goOn_74 rfl (lv_at hl 4 rfl) ?_
    refine lv_dup S.1 S.2.1 dX1_goOn_75 rfl ?_
    refine kx_get S hK hW hinX1 0 1 rfl rfl 16 (by decide) (List.mem_of_getElem? (i := 5) rfl) (v := .int (nI (τ 16 0))) rfl dX1_goOn_76 ?_
    refine lv_iload S.1 S.2.1 dX1_goOn_79 (lv_at hl 0 rfl) ?_
    refine kn_iadd S dX1_goOn_81 ?_
    refine kx_put S hK hW hinX1 tyX1_ok nmX1 0 1 rfl rfl 16 (by decide) (List.mem_of_getElem? (i := 5) rfl) rfl (v := .int (nI (τ 16 0 + ndS τ))) rfl rfl (Nat.le_of_ble_eq_true rfl) dX1_goOn_82 (fun H locs hW => ?_)
    have hW : kw D A s.heap (wS c a (pu (pu (pu (pu τ 8 (kc (pnS τ))) 9 (kc (tnS τ))) 10 (kc ((τ 10 0) - (ndS τ)))) 16 (kc (τ 16 0 + ndS τ)))) H locs := hW
    refine lv_iconst (v := nI (2)) S.1 S.2.1 dX1_goOn_85 rfl ?_
    refine lv_bipush (v := nI (12)) S.1 S.2.1 dX1_goOn_86 rfl ?_
    refine lv_aload_n S.1 S.2.1 dX1_goOn_88 rfl (lv_at hl 4 rfl) ?_
    refine kx_get S hK hW hinX1 0 1 rfl rfl 10 (by decide) (List.mem_of_getElem? (i := 4) rfl) (v := .int (nI ((τ 10 0) - (ndS τ)))) rfl dX1_goOn_89 ?_
    refine lv_bipush (v := nI (50)) S.1 S.2.1 dX1_goOn_92 rfl ?_
    refine kn_idiv S dX1_goOn_94 (by omega) (by omega) (by omega) ?_
    refine kn_isub S dX1_goOn_95 (by omega) ?_
    refine lv_aload_n S.1 S.2.1 dX1_goOn_96 rfl (lv_at hl 4 rfl) ?_
    refine kx_get S hK hW hinX1 0 1 rfl rfl 11 (by decide) (List.mem_of_getElem? (i := 6) rfl) (v := .int (nI (τ 11 0))) rfl dX1_goOn_97 ?_
    refine kn_iadd S dX1_goOn_100 ?_
    refine kn_max S hl.1 (List.mem_of_getElem? (i := 7) rfl) (List.mem_of_getElem? (i := 8) rfl) (List.mem_of_getElem? (i := 9) rfl) (List.mem_of_getElem? (i := 10) rfl) ⟨Nat.le_of_ble_eq_true rfl, Nat.le_of_ble_eq_true rfl⟩ ⟨Nat.le_of_ble_eq_true rfl, Nat.le_of_ble_eq_true rfl⟩ (by omega) (by omega) dX1_goOn_101 ?_
    refine k_top (y := nI (tiS τ)) (rfl) ?_
    refine lv_istore (lv' := [(5, .int (nI (tiS τ))), (4, .int (nI (ndS τ))), (3, .int (nI (stk τ))), (2, .int (nI (tnS τ))), (1, .int (nI (pnS τ))), (0, .ref (a 0))]) S.1 S.2.1 dX1_goOn_104 hl (by decide) rfl (fun ls hl => ?_)
    refine lv_aload_n S.1 S.2.1 dX1_goOn_106 rfl (lv_at hl 5 rfl) ?_
    refine lv_dup S.1 S.2.1 dX1_goOn_107 rfl ?_
    refine kx_get S hK hW hinX1 0 1 rfl rfl 12 (by decide) (List.mem_of_getElem? (i := 11) rfl) (v := .int (nI (τ 12 0))) rfl dX1_goOn_108 ?_
    refine lv_iload S.1 S.2.1 dX1_goOn_111 (lv_at hl 0 rfl) ?_
    refine kn_iadd S dX1_goOn_113 ?_
    refine kx_put S hK hW hinX1 tyX1_ok nmX1 0 1 rfl rfl 12 (by decide) (List.mem_of_getElem? (i := 11) rfl) rfl (v := .int (nI (τ 12 0 + tiS τ))) rfl rfl (Nat.le_of_ble_eq_true rfl) dX1_goOn_114 (fun H locs hW => ?_)
    have hW : kw D A s.heap (wS c a (pu (pu (pu (pu (pu τ 8 (kc (pnS τ))) 9 (kc (tnS τ))) 10 (kc ((τ 10 0) - (ndS τ)))) 16 (kc (τ 16 0 + ndS τ))) 12 (kc (τ 12 0 + tiS τ)))) H locs := hW
    refine lv_aload_n S.1 S.2.1 dX1_goOn_117 rfl (lv_at hl 5 rfl) ?_
    refine lv_dup S.1 S.2.1 dX1_goOn_118 rfl ?_
    refine kx_get S hK hW hinX1 0 1 rfl rfl 13 (by decide) (List.mem_of_getElem? (i := 12) rfl) (v := .int (nI (τ 13 0))) rfl dX1_goOn_119 ?_
    refine lv_iconst (v := nI (1)) S.1 S.2.1 dX1_goOn_122 rfl ?_
    refine kn_iadd S dX1_goOn_123 ?_
    refine kx_put S hK hW hinX1 tyX1_ok nmX1 0 1 rfl rfl 13 (by decide) (List.mem_of_getElem? (i := 12) rfl) rfl (v := .int (nI (τ 13 0 + 1))) rfl rfl (Nat.le_of_ble_eq_true rfl) dX1_goOn_124 (fun H locs hW => ?_)
    have hW : kw D A s.heap (wS c a (pu (pu (pu (pu (pu (pu τ 8 (kc (pnS τ))) 9 (kc (tnS τ))) 10 (kc ((τ 10 0) - (ndS τ)))) 16 (kc (τ 16 0 + ndS τ))) 12 (kc (τ 12 0 + tiS τ))) 13 (kc (τ 13 0 + 1)))) H locs := hW
    have hW : kw D A s.heap (wS c a (goA τ)) H locs := hW
    refine lv_iconst (v := nI (0)) S.1 S.2.1 dX1_goOn_127 rfl ?_
    refine lv_istore (lv' := [(6, .int (nI (0))), (5, .int (nI (tiS τ))), (4, .int (nI (ndS τ))), (3, .int (nI (stk τ))), (2, .int (nI (tnS τ))), (1, .int (nI (pnS τ))), (0, .ref (a 0))]) S.1 S.2.1 dX1_goOn_128 hl (by decide) rfl (fun ls hl => ?_)
    have hW : kw D A s.heap (wS c a (skS (goA τ) (stk τ) (tiS τ) 0)) _ _ := hW
    refine k_loop (fun (zz : Nat) H lo ls => match zz with | k => kw D A s.heap (wS c a (skS (goA τ) (stk τ) (tiS τ) k)) H lo ∧ lv_has ls 7 [(0, .ref (a 0)), (3, .int (nI (stk τ))), (5, .int (nI (tiS τ))), (6, .int (nI (k)))] ∧ k ≤ 12) (fun (zz : Nat) => match zz with | k => 12 - k) [] ?_ 0 _ _ _ ⟨hW, lv_sub hl [6, 3, 1, 0] rfl, (by decide)⟩
    rintro k ih130 H locs ls ⟨hW, hl, hi130_0⟩
    have okk := skS_ok (x := stk τ) (w := tiS τ) (goA_ok ok) k hi130_0
    refine lv_iload S.1 S.2.1 dX1_goOn_130 (lv_at hl 3 rfl) ?_
    refine lv_bipush (v := nI (12)) S.1 S.2.1 dX1_goOn_132 rfl ?_
    refine kn_ge S (tgt := 160) dX1_goOn_134 (by decide) (by omega) (by omega) (fun c_134 => ?_) (fun c_134 => ?_)
    · have e9 : k = 12 := by omega
      subst e9
      refine lv_iconst (v := nI (1)) S.1 S.2.1 dX1_goOn_160 rfl ?_
      exact hret 161 _ _ _ _ _ dX1_goOn_161 hW (by rw [hcan]; rfl) (congrArg (wS c a) (by rw [hcan]; rfl))
    · refine lv_iload_n S.1 S.2.1 dX1_goOn_137 rfl (lv_at hl 1 rfl) ?_
      refine lv_iload S.1 S.2.1 dX1_goOn_138 (lv_at hl 3 rfl) ?_
      refine lv_ishr S.1 S.2.1 dX1_goOn_140 ?_
      refine lv_iconst (v := nI (1)) S.1 S.2.1 dX1_goOn_141 rfl ?_
      refine kn_tbit S (by omega) dX1_goOn_142 ?_
      refine kb_eq S (tgt := 154) dX1_goOn_143 (by decide) (fun c_143 => ?_) (fun c_143 => ?_)
      · have hW : kw D A s.heap (wS c a (skS (goA τ) (stk τ) (tiS τ) (k + 1))) H locs := by first | (rw [skS_t c_143]; exact hW) | (rw [skS_f c_143]; exact hW)
        refine lv_iinc (v := nI (k + 1)) (lv' := [(6, .int (nI (k + 1))), (0, .ref (a 0)), (3, .int (nI (stk τ))), (5, .int (nI (tiS τ)))]) S.1 S.2.1 dX1_goOn_154 hl (k := 3) rfl (nI_add _ _) (by decide) rfl (fun ls hl => ?_)
        refine lv_goto (tgt := 130) S.1 S.2.1 dX1_goOn_157 (by decide) ?_
        exact ih130 (k + 1) _ _ _ ⟨hW, lv_sub hl [1, 2, 3, 0] rfl, (by omega)⟩ (by show 12 - (k + 1) < 12 - k; omega)
      · refine lv_aload_n S.1 S.2.1 dX1_goOn_146 rfl (lv_at hl 0 rfl) ?_
        refine lv_iload S.1 S.2.1 dX1_goOn_147 (lv_at hl 3 rfl) ?_
        refine lv_iload S.1 S.2.1 dX1_goOn_149 (lv_at hl 2 rfl) ?_
        refine k_VV (rest := []) S hK hl.1 hW (KFr.all hW hA) (mX1_strike l D c a ((skS (goA τ) (stk τ) (tiS τ) k)) _ k (tiS τ) (T + 21 + 2 * k) (by first | omega | exact hj | assumption | (show k < 12; omega) | rfl) (by omega) okk (by omega)) gX1_goOn_X1_strike rfl pdX1_strike ⟨⟨rfl, rfl⟩, Nat.le_of_ble_eq_true rfl, Nat.le_of_ble_eq_true rfl⟩ 0 1 rfl rfl rfl rfl (Nat.le_of_ble_eq_true rfl) dX1_goOn_151 ⟨Nat.le_of_ble_eq_true rfl, Nat.le_of_ble_eq_true rfl⟩ (fun H locs hW => ?_)
        have hW : kw D A s.heap (wS c a (srS ((skS (goA τ) (stk τ) (tiS τ) k)) k (tiS τ))) H locs := hW
        have hW : kw D A s.heap (wS c a (skS (goA τ) (stk τ) (tiS τ) (k + 1))) H locs := by first | (rw [skS_t c_143]; exact hW) | (rw [skS_f c_143]; exact hW)
        refine lv_iinc (v := nI (k + 1)) (lv' := [(6, .int (nI (k + 1))), (0, .ref (a 0)), (3, .int (nI (stk τ))), (5, .int (nI (tiS τ)))]) S.1 S.2.1 dX1_goOn_154 hl (k := 3) rfl (nI_add _ _) (by decide) rfl (fun ls hl => ?_)
        refine lv_goto (tgt := 130) S.1 S.2.1 dX1_goOn_157 (by decide) ?_
        exact ih130 (k + 1) _ _ _ ⟨hW, lv_sub hl [1, 2, 3, 0] rfl, (by omega)⟩ (by show 12 - (k + 1) < 12 - k; omega)
  · have hcan : canS τ = false := decide_eq_false (by omega)
    refine lv_iconst (v := nI (0)) S.1 S.2.1 dX1_goOn_51 rfl ?_
    exact hret 52 _ _ _ _ _ dX1_goOn_52 hW (by rw [hcan]; rfl) (congrArg (wS c a) (by rw [hcan]; rfl))
abbrev rmX1_goOnFor : Room := { frames := 4, cells := 0, slots := 0, locals := 93 }
theorem pdX1_goOnFor : kPd yX1_goOnFor 1 := by decide +kernel
set_option maxHeartbeats 400000 in
set_option maxRecDepth 100000 in
theorem mX1_goOnFor (l : Launch) (D : va_G) (c : Nat → ClassId) (a : Nat → Nat) (τ : Nat → Nat → Nat) (sz : Nat) (n : Nat) (T : Nat) (hn : n < 200) (ok : okS τ T) (hT : T < 200000000) : MI l yX1_goOnFor wsX1_goOnFor rmX1_goOnFor D c sz (wS c a τ) [.ref (a 0), .int (nI (n))] (nI ((onS n τ).1)) (wS c a ((onS n τ).2)) := by
  refine MI.of (cc := cX1_goOnFor) (maxL := 3) (ty := .int) (by decide) rfl (Nat.le_of_ble_eq_true rfl) rfl ?_
  intro P e s m below meth cd A Q ls hsz S hK hW hA hl hret
  have hl : lv_has ls 3 [(0, .ref (a 0)), (1, .int (nI (n)))] := hl
  refine lv_iconst (v := nI (0)) S.1 S.2.1 dX1_goOnFor_0 rfl ?_
  refine lv_istore_n (lv' := [(2, .int (nI (0))), (0, .ref (a 0)), (1, .int (nI (n)))]) S.1 S.2.1 dX1_goOnFor_1 rfl hl (by decide) rfl (fun ls hl => ?_)
  have hW : kw D A s.heap (wS c a τ) _ _ := hW
  refine k_loop (fun (zz : Nat × (Nat → Nat → Nat)) H lo ls => match zz with | (k, g) => kw D A s.heap (wS c a g) H lo ∧ lv_has ls 3 [(0, .ref (a 0)), (1, .int (nI (n))), (2, .int (nI (k)))] ∧ k ≤ n ∧ okS g (T + 45 * k) ∧ onS n τ = (k + (onS (n - k) g).1, (onS (n - k) g).2)) (fun (zz : Nat × (Nat → Nat → Nat)) => match zz with | (k, g) => n - k) [] ?_ (0, τ) _ _ _ ⟨hW, lv_sub hl [1, 2, 0] rfl, (Nat.zero_le _), ok, (by rw [Nat.zero_add, Nat.sub_zero])⟩
  rintro ⟨k, g⟩ ih2 H locs ls ⟨hW, hl, hkn, okg, hon⟩
  refine lv_iload_n S.1 S.2.1 dX1_goOnFor_2 rfl (lv_at hl 2 rfl) ?_
  refine lv_iload_n S.1 S.2.1 dX1_goOnFor_3 rfl (lv_at hl 1 rfl) ?_
  refine kn_ge S (tgt := 22) dX1_goOnFor_4 (by decide) (by omega) (by omega) (fun c_4 => ?_) (fun c_4 => ?_)
  · have e0 : n - k = 0 := by omega
    rw [e0, onS_0] at hon
    have e1 : n = k := by omega
    refine lv_iload_n S.1 S.2.1 dX1_goOnFor_22 rfl (lv_at hl 1 rfl) ?_
    exact hret 23 _ _ _ _ _ dX1_goOnFor_23 hW (congrArg nI (by rw [hon]; exact e1)) (congrArg (wS c a) (by rw [hon]))
  · refine lv_aload_n S.1 S.2.1 dX1_goOnFor_7 rfl (lv_at hl 0 rfl) ?_
    refine k_VI (rest := []) S hK hl.1 hW (KFr.all hW hA) (mX1_goOn l D c a g _ (T + 45 * k) okg (by omega)) gX1_goOnFor_X1_goOn rfl pdX1_goOn ⟨⟨rfl, rfl⟩, Nat.le_of_ble_eq_true rfl, Nat.le_of_ble_eq_true rfl⟩ 0 1 rfl rfl rfl rfl (Nat.le_of_ble_eq_true rfl) dX1_goOnFor_8 ⟨Nat.le_of_ble_eq_true rfl, Nat.le_of_ble_eq_true rfl⟩ (fun H locs hW => ?_)
    have hW : kw D A s.heap (wS c a ((if canS g then goS g else g))) H locs := hW
    refine kb_ne S (tgt := 16) dX1_goOnFor_11 (by decide) (fun c_11 => ?_) (fun c_11 => ?_)
    · have hW : kw D A s.heap (wS c a (goS g)) H locs := by rw [if_pos c_11] at hW; exact hW
      refine lv_iinc (v := nI (k + 1)) (lv' := [(2, .int (nI (k + 1))), (0, .ref (a 0)), (1, .int (nI (n)))]) S.1 S.2.1 dX1_goOnFor_16 hl (k := 2) rfl (nI_add _ _) (by decide) rfl (fun ls hl => ?_)
      refine lv_goto (tgt := 2) S.1 S.2.1 dX1_goOnFor_19 (by decide) ?_
      exact ih2 (k + 1, goS g) _ _ _ ⟨hW, lv_sub hl [1, 2, 0] rfl, c_4, (goS_ok okg), (by rw [hon, show n - k = (n - (k + 1)) + 1 by omega, onS_t c_11]; exact congrArg (fun z => (z, _)) (by omega))⟩ (by show n - (k + 1) < n - k; omega)
    · rw [show n - k = (n - (k + 1)) + 1 by omega, onS_f c_11] at hon
      have hW : kw D A s.heap (wS c a g) H locs := by rw [if_neg (by rw [c_11]; decide)] at hW; exact hW
      refine lv_iload_n S.1 S.2.1 dX1_goOnFor_14 rfl (lv_at hl 2 rfl) ?_
      exact hret 15 _ _ _ _ _ dX1_goOnFor_15 hW (congrArg nI (by rw [hon]; rfl)) (congrArg (wS c a) (by rw [hon]))
abbrev rmX1_mendTooth : Room := { frames := 0, cells := 0, slots := 0, locals := 0 }
theorem pdX1_mendTooth : kPd yX1_mendTooth 1 := by decide +kernel
set_option maxHeartbeats 400000 in
set_option maxRecDepth 100000 in
theorem mX1_mendTooth (l : Launch) (D : va_G) (c : Nat → ClassId) (a : Nat → Nat) (τ : Nat → Nat → Nat) (sz : Nat) (j : Nat) (T : Nat) (hj : j < 12) (ok : okS τ T) : MI l yX1_mendTooth wsX1_mendTooth rmX1_mendTooth D c sz (wS c a τ) [.ref (a 0), .int (nI (j))] (nI (τ 2 j)) (wS c a (mdS τ j)) := by
  refine MI.of (cc := cX1_mendTooth) (maxL := 3) (ty := .int) (by decide) rfl (Nat.le_of_ble_eq_true rfl) rfl ?_
  intro P e s m below meth cd A Q ls hsz S hK hW hA hl hret
  have hl : lv_has ls 3 [(0, .ref (a 0)), (1, .int (nI (j)))] := hl
  have hinX1 : ∀ w ∈ u_ws RX1 TX1 17, w ∈ wsX1_mendTooth := by decide +kernel
  refine lv_aload_n S.1 S.2.1 dX1_mendTooth_0 rfl (lv_at hl 0 rfl) ?_
  refine kx_get S hK hW hinX1 0 1 rfl rfl 2 (by decide) (List.mem_of_getElem? (i := 1) rfl) (v := .ref (a 3)) rfl dX1_mendTooth_1 ?_
  refine lv_iload_n S.1 S.2.1 dX1_mendTooth_4 rfl (lv_at hl 1 rfl) ?_
  refine kn_ald S hK hW 3 (f := τ 2) rfl (by omega) (by decide) dX1_mendTooth_5 ?_
  refine lv_istore_n (lv' := [(2, .int (nI (τ 2 (j)))), (0, .ref (a 0)), (1, .int (nI (j)))]) S.1 S.2.1 dX1_mendTooth_6 rfl hl (by decide) rfl (fun ls hl => ?_)
  refine lv_aload_n S.1 S.2.1 dX1_mendTooth_7 rfl (lv_at hl 1 rfl) ?_
  refine kx_get S hK hW hinX1 0 1 rfl rfl 2 (by decide) (List.mem_of_getElem? (i := 1) rfl) (v := .ref (a 3)) rfl dX1_mendTooth_8 ?_
  refine lv_iload_n S.1 S.2.1 dX1_mendTooth_11 rfl (lv_at hl 2 rfl) ?_
  refine lv_iconst (v := nI (0)) S.1 S.2.1 dX1_mendTooth_12 rfl ?_
  refine kn_ast S hK hW 3 (f := τ 2) rfl (by omega) (by decide) dX1_mendTooth_13 (fun H locs hW => ?_)
  have hW : kw D A s.heap (wS c a (pu τ 2 (fu (τ 2) j 0))) H locs := hW
  refine lv_aload_n S.1 S.2.1 dX1_mendTooth_14 rfl (lv_at hl 1 rfl) ?_
  refine lv_dup S.1 S.2.1 dX1_mendTooth_15 rfl ?_
  refine kx_get S hK hW hinX1 0 1 rfl rfl 7 (by decide) (List.mem_of_getElem? (i := 2) rfl) (v := .int (nI (τ 7 0))) rfl dX1_mendTooth_16 ?_
  refine lv_iconst (v := nI (1)) S.1 S.2.1 dX1_mendTooth_19 rfl ?_
  refine lv_iload_n S.1 S.2.1 dX1_mendTooth_20 rfl (lv_at hl 2 rfl) ?_
  refine kn_shl1 S dX1_mendTooth_21 (by omega) ?_
  refine lv_iconst (v := nI (4294967295)) S.1 S.2.1 dX1_mendTooth_22 rfl ?_
  refine kn_ixor S dX1_mendTooth_23 ?_
  refine kn_iand S dX1_mendTooth_24 ?_
  refine kx_put S hK hW hinX1 tyX1_ok nmX1 0 1 rfl rfl 7 (by decide) (List.mem_of_getElem? (i := 2) rfl) rfl (v := .int (nI ((τ 7 0) &&& ((2 ^ j) ^^^ 4294967295)))) rfl rfl (Nat.le_of_ble_eq_true rfl) dX1_mendTooth_25 (fun H locs hW => ?_)
  have hW : kw D A s.heap (wS c a (pu (pu τ 2 (fu (τ 2) j 0)) 7 (kc ((τ 7 0) &&& ((2 ^ j) ^^^ 4294967295))))) H locs := hW
  refine lv_aload_n S.1 S.2.1 dX1_mendTooth_28 rfl (lv_at hl 1 rfl) ?_
  refine kx_get S hK hW hinX1 0 1 rfl rfl 1 (by decide) (List.mem_of_getElem? (i := 3) rfl) (v := .ref (a 2)) rfl dX1_mendTooth_29 ?_
  refine lv_iload_n S.1 S.2.1 dX1_mendTooth_32 rfl (lv_at hl 2 rfl) ?_
  refine lv_aload_n S.1 S.2.1 dX1_mendTooth_33 rfl (lv_at hl 1 rfl) ?_
  refine kx_get S hK hW hinX1 0 1 rfl rfl 12 (by decide) (List.mem_of_getElem? (i := 4) rfl) (v := .int (nI (τ 12 0))) rfl dX1_mendTooth_34 ?_
  refine kn_ast S hK hW 2 (f := τ 1) rfl (by omega) (by decide) dX1_mendTooth_37 (fun H locs hW => ?_)
  have hW : kw D A s.heap (wS c a (pu (pu (pu τ 2 (fu (τ 2) j 0)) 7 (kc ((τ 7 0) &&& ((2 ^ j) ^^^ 4294967295)))) 1 (fu (τ 1) j (τ 12 0)))) H locs := hW
  refine lv_iload_n S.1 S.2.1 dX1_mendTooth_38 rfl (lv_at hl 0 rfl) ?_
  exact hret 39 _ _ _ _ _ dX1_mendTooth_39 hW (rfl) (rfl)
abbrev rmX1_teethRinging : Room := { frames := 2, cells := 0, slots := 0, locals := 42 }
theorem pdX1_teethRinging : kPd yX1_teethRinging 0 := by decide +kernel
set_option maxHeartbeats 400000 in
set_option maxRecDepth 100000 in
theorem mX1_teethRinging (l : Launch) (D : va_G) (c : Nat → ClassId) (a : Nat → Nat) (τ : Nat → Nat → Nat) (sz : Nat) (T : Nat) (ok : okS τ T) (hT : T < 500000000) : MI l yX1_teethRinging wsX1_teethRinging rmX1_teethRinging D c sz (wS c a τ) [.ref (a 0)] (nI (rgS τ 12)) (wS c a τ) := by
  refine MI.of (cc := cX1_teethRinging) (maxL := 3) (ty := .int) (by decide) rfl (Nat.le_of_ble_eq_true rfl) rfl ?_
  intro P e s m below meth cd A Q ls hsz S hK hW hA hl hret
  have hl : lv_has ls 3 [(0, .ref (a 0))] := hl
  obtain ⟨ok0, ok1, ok2, ⟨ok6, ok6a, ok6b, ok6c, ok6d⟩, ok7, ok8, ok9, ok10, ok11, ok12, ok14, ok15⟩ := id ok
  refine lv_iconst (v := nI (0)) S.1 S.2.1 dX1_teethRinging_0 rfl ?_
  refine lv_istore_n (lv' := [(1, .int (nI (0))), (0, .ref (a 0))]) S.1 S.2.1 dX1_teethRinging_1 rfl hl (by decide) rfl (fun ls hl => ?_)
  refine lv_iconst (v := nI (0)) S.1 S.2.1 dX1_teethRinging_2 rfl ?_
  refine lv_istore_n (lv' := [(2, .int (nI (0))), (1, .int (nI (0))), (0, .ref (a 0))]) S.1 S.2.1 dX1_teethRinging_3 rfl hl (by decide) rfl (fun ls hl => ?_)
  refine k_loop (fun (zz : Nat × Nat) H lo ls => match zz with | (k, n) => kw D A s.heap (wS c a τ) H lo ∧ lv_has ls 3 [(0, .ref (a 0)), (1, .int (nI (n))), (2, .int (nI (k)))] ∧ k ≤ 12 ∧ n = rgS τ k ∧ n ≤ k) (fun (zz : Nat × Nat) => match zz with | (k, n) => 12 - k) [] ?_ (0, 0) _ _ _ ⟨hW, lv_sub hl [2, 1, 0] rfl, (by decide), rfl, (by decide)⟩
  rintro ⟨k, n⟩ ih4 H locs ls ⟨hW, hl, hk, hn, hnk⟩
  refine lv_iload_n S.1 S.2.1 dX1_teethRinging_4 rfl (lv_at hl 2 rfl) ?_
  refine lv_bipush (v := nI (12)) S.1 S.2.1 dX1_teethRinging_5 rfl ?_
  refine kn_ge S (tgt := 27) dX1_teethRinging_7 (by decide) (by omega) (by omega) (fun c_7 => ?_) (fun c_7 => ?_)
  · have e9 : k = 12 := by omega
    rw [e9] at hn
    refine lv_iload_n S.1 S.2.1 dX1_teethRinging_27 rfl (lv_at hl 1 rfl) ?_
    exact hret 28 _ _ _ _ _ dX1_teethRinging_28 hW (congrArg nI hn) (rfl)
  · refine lv_aload_n S.1 S.2.1 dX1_teethRinging_10 rfl (lv_at hl 0 rfl) ?_
    refine lv_iload_n S.1 S.2.1 dX1_teethRinging_11 rfl (lv_at hl 2 rfl) ?_
    refine k_VI (rest := []) S hK hl.1 hW (KFr.all hW hA) (mX1_ringsFor l D c a τ _ k T (by first | omega | exact hj | assumption | (show k < 12; omega) | rfl) ok (by first | omega | exact hT | assumption | (show T < 500000000; omega) | rfl)) gX1_teethRinging_X1_ringsFor rfl pdX1_ringsFor ⟨⟨rfl, rfl⟩, Nat.le_of_ble_eq_true rfl, Nat.le_of_ble_eq_true rfl⟩ 0 1 rfl rfl rfl rfl (Nat.le_of_ble_eq_true rfl) dX1_teethRinging_12 ⟨Nat.le_of_ble_eq_true rfl, Nat.le_of_ble_eq_true rfl⟩ (fun H locs hW => ?_)
    have hW : kw D A s.heap (wS c a τ) H locs := hW
    refine kz_le S (tgt := 21) dX1_teethRinging_15 (by decide) (by have := ok1 k c_7; omega) (fun c_15 => ?_) (fun c_15 => ?_)
    · refine lv_iinc (v := nI (k + 1)) (lv' := [(2, .int (nI (k + 1))), (0, .ref (a 0)), (1, .int (nI (n)))]) S.1 S.2.1 dX1_teethRinging_21 hl (k := 2) rfl (nI_add _ _) (by decide) rfl (fun ls hl => ?_)
      refine lv_goto (tgt := 4) S.1 S.2.1 dX1_teethRinging_24 (by decide) ?_
      exact ih4 (k + 1, n) _ _ _ ⟨hW, lv_sub hl [1, 2, 0] rfl, (by omega), (by rw [hn]; first | exact rgS_t c_15 | exact rgS_f c_15), (by omega)⟩ (by show 12 - (k + 1) < 12 - k; omega)
    · refine lv_iinc (v := nI (n + 1)) (lv' := [(1, .int (nI (n + 1))), (0, .ref (a 0)), (2, .int (nI (k)))]) S.1 S.2.1 dX1_teethRinging_18 hl (k := 1) rfl (nI_add _ _) (by decide) rfl (fun ls hl => ?_)
      refine lv_iinc (v := nI (k + 1)) (lv' := [(2, .int (nI (k + 1))), (1, .int (nI (n + 1))), (0, .ref (a 0))]) S.1 S.2.1 dX1_teethRinging_21 hl (k := 2) rfl (nI_add _ _) (by decide) rfl (fun ls hl => ?_)
      refine lv_goto (tgt := 4) S.1 S.2.1 dX1_teethRinging_24 (by decide) ?_
      exact ih4 (k + 1, n + 1) _ _ _ ⟨hW, lv_sub hl [2, 1, 0] rfl, (by omega), (by rw [hn]; first | exact rgS_t c_15 | exact rgS_f c_15), (by omega)⟩ (by show 12 - (k + 1) < 12 - k; omega)
abbrev rmX1_notesKept : Room := { frames := 1, cells := 0, slots := 0, locals := 21 }
theorem pdX1_notesKept : kPd yX1_notesKept 0 := by decide +kernel
set_option maxHeartbeats 400000 in
set_option maxRecDepth 100000 in
theorem mX1_notesKept (l : Launch) (D : va_G) (c : Nat → ClassId) (a : Nat → Nat) (τ : Nat → Nat → Nat) (sz : Nat) (T : Nat) (ok : okS τ T) (hT : T < 500000000) : MI l yX1_notesKept wsX1_notesKept rmX1_notesKept D c sz (wS c a τ) [.ref (a 0)] (nI (min 24 (τ 14 0))) (wS c a τ) := by
  refine MI.of (cc := cX1_notesKept) (maxL := 1) (ty := .int) (by decide) rfl (Nat.le_of_ble_eq_true rfl) rfl ?_
  intro P e s m below meth cd A Q ls hsz S hK hW hA hl hret
  have hl : lv_has ls 1 [(0, .ref (a 0))] := hl
  have hinX1 : ∀ w ∈ u_ws RX1 TX1 17, w ∈ wsX1_notesKept := by decide +kernel
  obtain ⟨ok0, ok1, ok2, ⟨ok6, ok6a, ok6b, ok6c, ok6d⟩, ok7, ok8, ok9, ok10, ok11, ok12, ok14, ok15⟩ := id ok
  refine lv_bipush (v := nI (24)) S.1 S.2.1 dX1_notesKept_0 rfl ?_
  refine lv_aload_n S.1 S.2.1 dX1_notesKept_2 rfl (lv_at hl 0 rfl) ?_
  refine kx_get S hK hW hinX1 0 1 rfl rfl 14 (by decide) (List.mem_of_getElem? (i := 1) rfl) (v := .int (nI (τ 14 0))) rfl dX1_notesKept_3 ?_
  refine kn_min S hl.1 (List.mem_of_getElem? (i := 2) rfl) (List.mem_of_getElem? (i := 3) rfl) (List.mem_of_getElem? (i := 4) rfl) (List.mem_of_getElem? (i := 5) rfl) ⟨Nat.le_of_ble_eq_true rfl, Nat.le_of_ble_eq_true rfl⟩ ⟨Nat.le_of_ble_eq_true rfl, Nat.le_of_ble_eq_true rfl⟩ (by omega) (by omega) dX1_notesKept_6 ?_
  exact hret 9 _ _ _ _ _ dX1_notesKept_9 hW (rfl) (rfl)
abbrev rmX1_slotOf : Room := { frames := 1, cells := 0, slots := 0, locals := 22 }
theorem pdX1_slotOf : kPd yX1_slotOf 1 := by decide +kernel
set_option maxHeartbeats 400000 in
set_option maxRecDepth 100000 in
theorem mX1_slotOf (l : Launch) (D : va_G) (c : Nat → ClassId) (a : Nat → Nat) (τ : Nat → Nat → Nat) (sz : Nat) (b : Nat) (T : Nat) (hbk : b < τ 14 0) (ok : okS τ T) (hT : T < 500000000) : MI l yX1_slotOf wsX1_slotOf rmX1_slotOf D c sz (wS c a τ) [.ref (a 0), .int (nI (b))] (nI ((τ 14 0 - 1 - b) % 24)) (wS c a τ) := by
  refine MI.of (cc := cX1_slotOf) (maxL := 2) (ty := .int) (by decide) rfl (Nat.le_of_ble_eq_true rfl) rfl ?_
  intro P e s m below meth cd A Q ls hsz S hK hW hA hl hret
  have hl : lv_has ls 2 [(0, .ref (a 0)), (1, .int (nI (b)))] := hl
  have hinX1 : ∀ w ∈ u_ws RX1 TX1 17, w ∈ wsX1_slotOf := by decide +kernel
  obtain ⟨ok0, ok1, ok2, ⟨ok6, ok6a, ok6b, ok6c, ok6d⟩, ok7, ok8, ok9, ok10, ok11, ok12, ok14, ok15⟩ := id ok
  refine lv_aload_n S.1 S.2.1 dX1_slotOf_0 rfl (lv_at hl 0 rfl) ?_
  refine kx_get S hK hW hinX1 0 1 rfl rfl 14 (by decide) (List.mem_of_getElem? (i := 1) rfl) (v := .int (nI (τ 14 0))) rfl dX1_slotOf_1 ?_
  refine lv_iconst (v := nI (1)) S.1 S.2.1 dX1_slotOf_4 rfl ?_
  refine kn_isub S dX1_slotOf_5 (by omega) ?_
  refine lv_iload_n S.1 S.2.1 dX1_slotOf_6 rfl (lv_at hl 1 rfl) ?_
  refine kn_isub S dX1_slotOf_7 (by omega) ?_
  refine lv_bipush (v := nI (24)) S.1 S.2.1 dX1_slotOf_8 rfl ?_
  refine k_SI (rest := []) S hK hl.1 hW (KFr.nil hW hA) (mJ9_floorMod_7cf53_k l D c  _ (((τ 14 0) - 1) - b) 24 (by first | omega | exact hx | assumption | (show (((τ 14 0) - 1) - b) < 2147483648; omega) | rfl) (by first | omega | exact h0 | assumption | (show 0 < 24; omega) | rfl) (by first | omega | exact hy | assumption | (show 24 < 2147483648; omega) | rfl)) gX1_slotOf_J9_floorMod_7cf53 rfl pdJ9_floorMod_7cf53 ⟨⟨rfl, rfl⟩, Nat.le_of_ble_eq_true rfl, Nat.le_of_ble_eq_true rfl⟩ rfl (Nat.le_of_ble_eq_true rfl) dX1_slotOf_10 ⟨Nat.le_of_ble_eq_true rfl, Nat.le_of_ble_eq_true rfl⟩ (fun H locs hW => ?_)
  have hW : kw D A s.heap (wS c a τ) H locs := hW
  exact hret 13 _ _ _ _ _ dX1_slotOf_13 hW (rfl) (rfl)
abbrev rmX1_noteTooth : Room := { frames := 2, cells := 0, slots := 0, locals := 43 }
theorem pdX1_noteTooth : kPd yX1_noteTooth 1 := by decide +kernel
set_option maxHeartbeats 400000 in
set_option maxRecDepth 100000 in
theorem mX1_noteTooth (l : Launch) (D : va_G) (c : Nat → ClassId) (a : Nat → Nat) (τ : Nat → Nat → Nat) (sz : Nat) (b : Nat) (T : Nat) (hbk : b < τ 14 0) (ok : okS τ T) (hT : T < 500000000) : MI l yX1_noteTooth wsX1_noteTooth rmX1_noteTooth D c sz (wS c a τ) [.ref (a 0), .int (nI (b))] (nI (τ 4 ((τ 14 0 - 1 - b) % 24))) (wS c a τ) := by
  refine MI.of (cc := cX1_noteTooth) (maxL := 2) (ty := .int) (by decide) rfl (Nat.le_of_ble_eq_true rfl) rfl ?_
  intro P e s m below meth cd A Q ls hsz S hK hW hA hl hret
  have hl : lv_has ls 2 [(0, .ref (a 0)), (1, .int (nI (b)))] := hl
  have hinX1 : ∀ w ∈ u_ws RX1 TX1 17, w ∈ wsX1_noteTooth := by decide +kernel
  refine lv_aload_n S.1 S.2.1 dX1_noteTooth_0 rfl (lv_at hl 0 rfl) ?_
  refine kx_get S hK hW hinX1 0 1 rfl rfl 4 (by decide) (List.mem_of_getElem? (i := 1) rfl) (v := .ref (a 5)) rfl dX1_noteTooth_1 ?_
  refine lv_aload_n S.1 S.2.1 dX1_noteTooth_4 rfl (lv_at hl 0 rfl) ?_
  refine lv_iload_n S.1 S.2.1 dX1_noteTooth_5 rfl (lv_at hl 1 rfl) ?_
  refine k_VI (rest := [.ref (a 5)]) S hK hl.1 hW (KFr.all hW hA) (mX1_slotOf l D c a τ _ b T (by first | omega | exact hbk | assumption | (show b < τ 14 0; omega) | rfl) ok (by first | omega | exact hT | assumption | (show T < 500000000; omega) | rfl)) gX1_noteTooth_X1_slotOf rfl pdX1_slotOf ⟨⟨rfl, rfl⟩, Nat.le_of_ble_eq_true rfl, Nat.le_of_ble_eq_true rfl⟩ 0 1 rfl rfl rfl rfl (Nat.le_of_ble_eq_true rfl) dX1_noteTooth_6 ⟨Nat.le_of_ble_eq_true rfl, Nat.le_of_ble_eq_true rfl⟩ (fun H locs hW => ?_)
  have hW : kw D A s.heap (wS c a τ) H locs := hW
  refine kn_ald S hK hW 5 (f := τ 4) rfl (by omega) (by decide) dX1_noteTooth_9 ?_
  exact hret 10 _ _ _ _ _ dX1_noteTooth_10 hW (rfl) (rfl)
abbrev rmX1_noteTime : Room := { frames := 2, cells := 0, slots := 0, locals := 43 }
theorem pdX1_noteTime : kPd yX1_noteTime 1 := by decide +kernel
set_option maxHeartbeats 400000 in
set_option maxRecDepth 100000 in
theorem mX1_noteTime (l : Launch) (D : va_G) (c : Nat → ClassId) (a : Nat → Nat) (τ : Nat → Nat → Nat) (sz : Nat) (b : Nat) (T : Nat) (hbk : b < τ 14 0) (ok : okS τ T) (hT : T < 500000000) : MI l yX1_noteTime wsX1_noteTime rmX1_noteTime D c sz (wS c a τ) [.ref (a 0), .int (nI (b))] (nI (τ 5 ((τ 14 0 - 1 - b) % 24))) (wS c a τ) := by
  refine MI.of (cc := cX1_noteTime) (maxL := 2) (ty := .int) (by decide) rfl (Nat.le_of_ble_eq_true rfl) rfl ?_
  intro P e s m below meth cd A Q ls hsz S hK hW hA hl hret
  have hl : lv_has ls 2 [(0, .ref (a 0)), (1, .int (nI (b)))] := hl
  have hinX1 : ∀ w ∈ u_ws RX1 TX1 17, w ∈ wsX1_noteTime := by decide +kernel
  refine lv_aload_n S.1 S.2.1 dX1_noteTime_0 rfl (lv_at hl 0 rfl) ?_
  refine kx_get S hK hW hinX1 0 1 rfl rfl 5 (by decide) (List.mem_of_getElem? (i := 1) rfl) (v := .ref (a 6)) rfl dX1_noteTime_1 ?_
  refine lv_aload_n S.1 S.2.1 dX1_noteTime_4 rfl (lv_at hl 0 rfl) ?_
  refine lv_iload_n S.1 S.2.1 dX1_noteTime_5 rfl (lv_at hl 1 rfl) ?_
  refine k_VI (rest := [.ref (a 6)]) S hK hl.1 hW (KFr.all hW hA) (mX1_slotOf l D c a τ _ b T (by first | omega | exact hbk | assumption | (show b < τ 14 0; omega) | rfl) ok (by first | omega | exact hT | assumption | (show T < 500000000; omega) | rfl)) gX1_noteTime_X1_slotOf rfl pdX1_slotOf ⟨⟨rfl, rfl⟩, Nat.le_of_ble_eq_true rfl, Nat.le_of_ble_eq_true rfl⟩ 0 1 rfl rfl rfl rfl (Nat.le_of_ble_eq_true rfl) dX1_noteTime_6 ⟨Nat.le_of_ble_eq_true rfl, Nat.le_of_ble_eq_true rfl⟩ (fun H locs hW => ?_)
  have hW : kw D A s.heap (wS c a τ) H locs := hW
  refine kn_ald S hK hW 6 (f := τ 5) rfl (by omega) (by decide) dX1_noteTime_9 ?_
  exact hret 10 _ _ _ _ _ dX1_noteTime_10 hW (rfl) (rfl)
abbrev rmX1_pinsOf : Room := { frames := 1, cells := 0, slots := 0, locals := 22 }
theorem pdX1_pinsOf : kPd yX1_pinsOf 1 := by decide +kernel
set_option maxHeartbeats 400000 in
set_option maxRecDepth 100000 in
theorem mX1_pinsOf (l : Launch) (D : va_G) (c : Nat → ClassId) (a : Nat → Nat) (τ : Nat → Nat → Nat) (sz : Nat) (t : Nat) (T : Nat) (ht : t < 3) (ok : okS τ T) : MI l yX1_pinsOf wsX1_pinsOf rmX1_pinsOf D c sz (wS c a τ) [.ref (a 0), .int (nI (t))] (nI (poS τ t 32)) (wS c a τ) := by
  refine MI.of (cc := cX1_pinsOf) (maxL := 4) (ty := .int) (by decide) rfl (Nat.le_of_ble_eq_true rfl) rfl ?_
  intro P e s m below meth cd A Q ls hsz S hK hW hA hl hret
  have hl : lv_has ls 4 [(0, .ref (a 0)), (1, .int (nI (t)))] := hl
  obtain ⟨ok0, ok1, ok2, ⟨ok6, ok6a, ok6b, ok6c, ok6d⟩, ok7, ok8, ok9, ok10, ok11, ok12, ok14, ok15⟩ := id ok
  refine lv_iconst (v := nI (0)) S.1 S.2.1 dX1_pinsOf_0 rfl ?_
  refine lv_istore_n (lv' := [(2, .int (nI (0))), (0, .ref (a 0)), (1, .int (nI (t)))]) S.1 S.2.1 dX1_pinsOf_1 rfl hl (by decide) rfl (fun ls hl => ?_)
  refine lv_iconst (v := nI (0)) S.1 S.2.1 dX1_pinsOf_2 rfl ?_
  refine lv_istore_n (lv' := [(3, .int (nI (0))), (2, .int (nI (0))), (0, .ref (a 0)), (1, .int (nI (t)))]) S.1 S.2.1 dX1_pinsOf_3 rfl hl (by decide) rfl (fun ls hl => ?_)
  refine k_loop (fun (zz : Nat) H lo ls => match zz with | k => kw D A s.heap (wS c a τ) H lo ∧ lv_has ls 4 [(0, .ref (a 0)), (1, .int (nI (t))), (2, .int (nI (poS τ t k))), (3, .int (nI (k)))] ∧ k ≤ 32) (fun (zz : Nat) => match zz with | k => 32 - k) [] ?_ 0 _ _ _ ⟨hW, lv_sub hl [2, 3, 1, 0] rfl, (by decide)⟩
  rintro k ih4 H locs ls ⟨hW, hl, hi4_0⟩
  refine lv_iload_n S.1 S.2.1 dX1_pinsOf_4 rfl (lv_at hl 3 rfl) ?_
  refine lv_bipush (v := nI (32)) S.1 S.2.1 dX1_pinsOf_5 rfl ?_
  refine kn_ge S (tgt := 28) dX1_pinsOf_7 (by decide) (by omega) (by omega) (fun c_7 => ?_) (fun c_7 => ?_)
  · have e9 : k = 32 := by omega
    subst e9
    refine lv_iload_n S.1 S.2.1 dX1_pinsOf_28 rfl (lv_at hl 2 rfl) ?_
    exact hret 29 _ _ _ _ _ dX1_pinsOf_29 hW (rfl) (rfl)
  · refine lv_iload_n S.1 S.2.1 dX1_pinsOf_10 rfl (lv_at hl 2 rfl) ?_
    refine lv_aload_n S.1 S.2.1 dX1_pinsOf_11 rfl (lv_at hl 0 rfl) ?_
    refine lv_iload_n S.1 S.2.1 dX1_pinsOf_12 rfl (lv_at hl 1 rfl) ?_
    refine lv_iload_n S.1 S.2.1 dX1_pinsOf_13 rfl (lv_at hl 3 rfl) ?_
    refine k_VI (rest := [.int (nI (poS τ t k))]) S hK hl.1 hW (KFr.all hW hA) (mX1_teethAt l D c a τ _ t k (by first | omega | exact ht | assumption | (show t < 3; omega) | rfl) (by first | omega | exact hp | assumption | (show k < 32; omega) | rfl)) gX1_pinsOf_X1_teethAt rfl pdX1_teethAt ⟨⟨rfl, rfl⟩, Nat.le_of_ble_eq_true rfl, Nat.le_of_ble_eq_true rfl⟩ 0 1 rfl rfl rfl rfl (Nat.le_of_ble_eq_true rfl) dX1_pinsOf_14 ⟨Nat.le_of_ble_eq_true rfl, Nat.le_of_ble_eq_true rfl⟩ (fun H locs hW => ?_)
    have hW : kw D A s.heap (wS c a τ) H locs := hW
    refine k_SI (rest := [.int (nI (poS τ t k))]) S hK hl.1 hW (KFr.nil hW hA) (mJ6_bitCount_0f7a4 l D c  _ (τ 0 (t * 32 + k)) (ok0 _ (by omega))) gX1_pinsOf_J6_bitCount_0f7a4 rfl pdJ6_bitCount_0f7a4 ⟨⟨rfl, rfl⟩, Nat.le_of_ble_eq_true rfl, Nat.le_of_ble_eq_true rfl⟩ rfl (Nat.le_of_ble_eq_true rfl) dX1_pinsOf_17 ⟨Nat.le_of_ble_eq_true rfl, Nat.le_of_ble_eq_true rfl⟩ (fun H locs hW => ?_)
    have hW : kw D A s.heap (wS c a τ) H locs := hW
    refine kn_iadd S dX1_pinsOf_20 ?_
    refine k_top (y := nI (poS τ t (k + 1))) (rfl) ?_
    refine lv_istore_n (lv' := [(2, .int (nI (poS τ t (k + 1)))), (0, .ref (a 0)), (1, .int (nI (t))), (3, .int (nI (k)))]) S.1 S.2.1 dX1_pinsOf_21 rfl hl (by decide) rfl (fun ls hl => ?_)
    refine lv_iinc (v := nI (k + 1)) (lv' := [(3, .int (nI (k + 1))), (2, .int (nI (poS τ t (k + 1)))), (0, .ref (a 0)), (1, .int (nI (t)))]) S.1 S.2.1 dX1_pinsOf_22 hl (k := 3) rfl (nI_add _ _) (by decide) rfl (fun ls hl => ?_)
    refine lv_goto (tgt := 4) S.1 S.2.1 dX1_pinsOf_25 (by decide) ?_
    exact ih4 (k + 1) _ _ _ ⟨hW, lv_sub hl [2, 3, 1, 0] rfl, (by omega)⟩ (by show 32 - (k + 1) < 32 - k; omega)
abbrev rmX1_pinsOfAll : Room := { frames := 2, cells := 0, slots := 0, locals := 45 }
theorem pdX1_pinsOfAll : kPd yX1_pinsOfAll 0 := by decide +kernel
set_option maxHeartbeats 400000 in
set_option maxRecDepth 100000 in
theorem mX1_pinsOfAll (l : Launch) (D : va_G) (c : Nat → ClassId) (a : Nat → Nat) (τ : Nat → Nat → Nat) (sz : Nat) (T : Nat) (ok : okS τ T) : MI l yX1_pinsOfAll wsX1_pinsOfAll rmX1_pinsOfAll D c sz (wS c a τ) [.ref (a 0)] (nI (paS τ 3)) (wS c a τ) := by
  refine MI.of (cc := cX1_pinsOfAll) (maxL := 3) (ty := .int) (by decide) rfl (Nat.le_of_ble_eq_true rfl) rfl ?_
  intro P e s m below meth cd A Q ls hsz S hK hW hA hl hret
  have hl : lv_has ls 3 [(0, .ref (a 0))] := hl
  refine lv_iconst (v := nI (0)) S.1 S.2.1 dX1_pinsOfAll_0 rfl ?_
  refine lv_istore_n (lv' := [(1, .int (nI (0))), (0, .ref (a 0))]) S.1 S.2.1 dX1_pinsOfAll_1 rfl hl (by decide) rfl (fun ls hl => ?_)
  refine lv_iconst (v := nI (0)) S.1 S.2.1 dX1_pinsOfAll_2 rfl ?_
  refine lv_istore_n (lv' := [(2, .int (nI (0))), (1, .int (nI (0))), (0, .ref (a 0))]) S.1 S.2.1 dX1_pinsOfAll_3 rfl hl (by decide) rfl (fun ls hl => ?_)
  refine k_loop (fun (zz : Nat) H lo ls => match zz with | k => kw D A s.heap (wS c a τ) H lo ∧ lv_has ls 3 [(0, .ref (a 0)), (1, .int (nI (paS τ k))), (2, .int (nI (k)))] ∧ k ≤ 3) (fun (zz : Nat) => match zz with | k => 3 - k) [] ?_ 0 _ _ _ ⟨hW, lv_sub hl [2, 1, 0] rfl, (by decide)⟩
  rintro k ih4 H locs ls ⟨hW, hl, hi4_0⟩
  refine lv_iload_n S.1 S.2.1 dX1_pinsOfAll_4 rfl (lv_at hl 2 rfl) ?_
  refine lv_iconst (v := nI (3)) S.1 S.2.1 dX1_pinsOfAll_5 rfl ?_
  refine kn_ge S (tgt := 23) dX1_pinsOfAll_6 (by decide) (by omega) (by omega) (fun c_6 => ?_) (fun c_6 => ?_)
  · have e9 : k = 3 := by omega
    subst e9
    refine lv_iload_n S.1 S.2.1 dX1_pinsOfAll_23 rfl (lv_at hl 1 rfl) ?_
    exact hret 24 _ _ _ _ _ dX1_pinsOfAll_24 hW (rfl) (rfl)
  · refine lv_iload_n S.1 S.2.1 dX1_pinsOfAll_9 rfl (lv_at hl 1 rfl) ?_
    refine lv_aload_n S.1 S.2.1 dX1_pinsOfAll_10 rfl (lv_at hl 0 rfl) ?_
    refine lv_iload_n S.1 S.2.1 dX1_pinsOfAll_11 rfl (lv_at hl 2 rfl) ?_
    refine k_VI (rest := [.int (nI (paS τ k))]) S hK hl.1 hW (KFr.all hW hA) (mX1_pinsOf l D c a τ _ k T (by first | omega | exact ht | assumption | (show k < 3; omega) | rfl) ok) gX1_pinsOfAll_X1_pinsOf rfl pdX1_pinsOf ⟨⟨rfl, rfl⟩, Nat.le_of_ble_eq_true rfl, Nat.le_of_ble_eq_true rfl⟩ 0 1 rfl rfl rfl rfl (Nat.le_of_ble_eq_true rfl) dX1_pinsOfAll_12 ⟨Nat.le_of_ble_eq_true rfl, Nat.le_of_ble_eq_true rfl⟩ (fun H locs hW => ?_)
    have hW : kw D A s.heap (wS c a τ) H locs := hW
    refine kn_iadd S dX1_pinsOfAll_15 ?_
    refine k_top (y := nI (paS τ (k + 1))) (rfl) ?_
    refine lv_istore_n (lv' := [(1, .int (nI (paS τ (k + 1)))), (0, .ref (a 0)), (2, .int (nI (k)))]) S.1 S.2.1 dX1_pinsOfAll_16 rfl hl (by decide) rfl (fun ls hl => ?_)
    refine lv_iinc (v := nI (k + 1)) (lv' := [(2, .int (nI (k + 1))), (1, .int (nI (paS τ (k + 1)))), (0, .ref (a 0))]) S.1 S.2.1 dX1_pinsOfAll_17 hl (k := 2) rfl (nI_add _ _) (by decide) rfl (fun ls hl => ?_)
    refine lv_goto (tgt := 4) S.1 S.2.1 dX1_pinsOfAll_20 (by decide) ?_
    exact ih4 (k + 1) _ _ _ ⟨hW, lv_sub hl [2, 1, 0] rfl, (by omega)⟩ (by show 3 - (k + 1) < 3 - k; omega)
abbrev rmX1_pinsByTooth : Room := { frames := 2, cells := 0, slots := 0, locals := 45 }
theorem pdX1_pinsByTooth : kPd yX1_pinsByTooth 1 := by decide +kernel
set_option maxHeartbeats 400000 in
set_option maxRecDepth 100000 in
theorem mX1_pinsByTooth (l : Launch) (D : va_G) (c : Nat → ClassId) (a : Nat → Nat) (τ : Nat → Nat → Nat) (sz : Nat) (t : Nat) (ht : t < 3) : MI l yX1_pinsByTooth wsX1_pinsByTooth rmX1_pinsByTooth D c sz (wS c a τ) [.ref (a 0), .int (nI (t))] (nI (pbA τ t 12)) (wS c a τ) := by
  refine MI.of (cc := cX1_pinsByTooth) (maxL := 5) (ty := .int) (by decide) rfl (Nat.le_of_ble_eq_true rfl) rfl ?_
  intro P e s m below meth cd A Q ls hsz S hK hW hA hl hret
  have hl : lv_has ls 5 [(0, .ref (a 0)), (1, .int (nI (t)))] := hl
  refine lv_iconst (v := nI (0)) S.1 S.2.1 dX1_pinsByTooth_0 rfl ?_
  refine lv_istore_n (lv' := [(2, .int (nI (0))), (0, .ref (a 0)), (1, .int (nI (t)))]) S.1 S.2.1 dX1_pinsByTooth_1 rfl hl (by decide) rfl (fun ls hl => ?_)
  refine lv_iconst (v := nI (0)) S.1 S.2.1 dX1_pinsByTooth_2 rfl ?_
  refine lv_istore_n (lv' := [(3, .int (nI (0))), (2, .int (nI (0))), (0, .ref (a 0)), (1, .int (nI (t)))]) S.1 S.2.1 dX1_pinsByTooth_3 rfl hl (by decide) rfl (fun ls hl => ?_)
  refine k_loop (fun (zz : Nat × Nat) H lo ls => match zz with | (j, n) => kw D A s.heap (wS c a τ) H lo ∧ lv_has ls 5 [(0, .ref (a 0)), (1, .int (nI (t))), (2, .int (nI (n))), (3, .int (nI (j)))] ∧ j ≤ 12 ∧ n = pbA τ t j) (fun (zz : Nat × Nat) => match zz with | (j, n) => 12 - j) [] ?_ (0, 0) _ _ _ ⟨hW, lv_sub hl [2, 3, 1, 0] rfl, (by decide), rfl⟩
  rintro ⟨j, n⟩ ih4 H locs ls ⟨hW, hl, hj, hn⟩
  refine lv_iload_n S.1 S.2.1 dX1_pinsByTooth_4 rfl (lv_at hl 3 rfl) ?_
  refine lv_bipush (v := nI (12)) S.1 S.2.1 dX1_pinsByTooth_5 rfl ?_
  refine kn_ge S (tgt := 46) dX1_pinsByTooth_7 (by decide) (by omega) (by omega) (fun c_7 => ?_) (fun c_7 => ?_)
  · have e9 : j = 12 := by omega
    rw [e9] at hn
    refine lv_iload_n S.1 S.2.1 dX1_pinsByTooth_46 rfl (lv_at hl 2 rfl) ?_
    exact hret 47 _ _ _ _ _ dX1_pinsByTooth_47 hW (congrArg nI hn) (rfl)
  · refine lv_iconst (v := nI (0)) S.1 S.2.1 dX1_pinsByTooth_10 rfl ?_
    refine lv_istore (lv' := [(4, .int (nI (0))), (0, .ref (a 0)), (1, .int (nI (t))), (2, .int (nI (n))), (3, .int (nI (j)))]) S.1 S.2.1 dX1_pinsByTooth_11 hl (by decide) rfl (fun ls hl => ?_)
    refine k_loop (fun (zz : Nat × Nat) H lo ls => match zz with | (k, n1) => kw D A s.heap (wS c a τ) H lo ∧ lv_has ls 5 [(0, .ref (a 0)), (1, .int (nI (t))), (2, .int (nI (n1))), (3, .int (nI (j))), (4, .int (nI (k)))] ∧ k ≤ 32 ∧ n1 = pbA τ t j + pbS τ t j k) (fun (zz : Nat × Nat) => match zz with | (k, n1) => 32 - k) [] ?_ (0, n) _ _ _ ⟨hW, lv_sub hl [1, 2, 3, 4, 0] rfl, (by decide), (hn.trans (Nat.add_zero _).symm)⟩
    rintro ⟨k, n1⟩ ih13 H locs ls ⟨hW, hl, hk, hn1⟩
    refine lv_iload S.1 S.2.1 dX1_pinsByTooth_13 (lv_at hl 4 rfl) ?_
    refine lv_bipush (v := nI (32)) S.1 S.2.1 dX1_pinsByTooth_15 rfl ?_
    refine kn_ge S (tgt := 40) dX1_pinsByTooth_17 (by decide) (by omega) (by omega) (fun c_17 => ?_) (fun c_17 => ?_)
    · have e9 : k = 32 := by omega
      rw [e9] at hn1
      have e40 : n1 = pbA τ t (j + 1) := hn1
      refine lv_iinc (v := nI (j + 1)) (lv' := [(3, .int (nI (j + 1))), (0, .ref (a 0)), (1, .int (nI (t))), (2, .int (nI (n1))), (4, .int (nI (k)))]) S.1 S.2.1 dX1_pinsByTooth_40 hl (k := 3) rfl (nI_add _ _) (by decide) rfl (fun ls hl => ?_)
      refine lv_goto (tgt := 4) S.1 S.2.1 dX1_pinsByTooth_43 (by decide) ?_
      exact ih4 (j + 1, n1) _ _ _ ⟨hW, lv_sub hl [1, 2, 3, 0] rfl, (by omega), e40⟩ (by show 12 - (j + 1) < 12 - j; omega)
    · refine lv_aload_n S.1 S.2.1 dX1_pinsByTooth_20 rfl (lv_at hl 0 rfl) ?_
      refine lv_iload_n S.1 S.2.1 dX1_pinsByTooth_21 rfl (lv_at hl 1 rfl) ?_
      refine lv_iload_n S.1 S.2.1 dX1_pinsByTooth_22 rfl (lv_at hl 3 rfl) ?_
      refine lv_iload S.1 S.2.1 dX1_pinsByTooth_23 (lv_at hl 4 rfl) ?_
      refine k_VI (rest := []) S hK hl.1 hW (KFr.all hW hA) (mX1_hasPin l D c a τ _ t j k (by first | omega | exact ht | assumption | (show t < 3; omega) | rfl) (by first | omega | exact hj | assumption | (show j < 12; omega) | rfl) (by first | omega | exact hp | assumption | (show k < 32; omega) | rfl)) gX1_pinsByTooth_X1_hasPin rfl pdX1_hasPin ⟨⟨rfl, rfl⟩, Nat.le_of_ble_eq_true rfl, Nat.le_of_ble_eq_true rfl⟩ 0 1 rfl rfl rfl rfl (Nat.le_of_ble_eq_true rfl) dX1_pinsByTooth_25 ⟨Nat.le_of_ble_eq_true rfl, Nat.le_of_ble_eq_true rfl⟩ (fun H locs hW => ?_)
      have hW : kw D A s.heap (wS c a τ) H locs := hW
      refine kb_eq S (tgt := 34) dX1_pinsByTooth_28 (by decide) (fun c_28 => ?_) (fun c_28 => ?_)
      · refine lv_iinc (v := nI (k + 1)) (lv' := [(4, .int (nI (k + 1))), (0, .ref (a 0)), (1, .int (nI (t))), (2, .int (nI (n1))), (3, .int (nI (j)))]) S.1 S.2.1 dX1_pinsByTooth_34 hl (k := 4) rfl (nI_add _ _) (by decide) rfl (fun ls hl => ?_)
        refine lv_goto (tgt := 13) S.1 S.2.1 dX1_pinsByTooth_37 (by decide) ?_
        exact ih13 (k + 1, n1) _ _ _ ⟨hW, lv_sub hl [1, 2, 3, 4, 0] rfl, (by omega), (by first | (rw [hn1, Nat.add_assoc, pbS_t c_28]; done) | (rw [hn1, pbS_f c_28]))⟩ (by show 32 - (k + 1) < 32 - k; omega)
      · refine lv_iinc (v := nI (n1 + 1)) (lv' := [(2, .int (nI (n1 + 1))), (0, .ref (a 0)), (1, .int (nI (t))), (3, .int (nI (j))), (4, .int (nI (k)))]) S.1 S.2.1 dX1_pinsByTooth_31 hl (k := 2) rfl (nI_add _ _) (by decide) rfl (fun ls hl => ?_)
        refine lv_iinc (v := nI (k + 1)) (lv' := [(4, .int (nI (k + 1))), (2, .int (nI (n1 + 1))), (0, .ref (a 0)), (1, .int (nI (t))), (3, .int (nI (j)))]) S.1 S.2.1 dX1_pinsByTooth_34 hl (k := 4) rfl (nI_add _ _) (by decide) rfl (fun ls hl => ?_)
        refine lv_goto (tgt := 13) S.1 S.2.1 dX1_pinsByTooth_37 (by decide) ?_
        exact ih13 (k + 1, n1 + 1) _ _ _ ⟨hW, lv_sub hl [2, 3, 1, 4, 0] rfl, (by omega), (by first | (rw [hn1, Nat.add_assoc, pbS_t c_28]; done) | (rw [hn1, pbS_f c_28]))⟩ (by show 32 - (k + 1) < 32 - k; omega)
abbrev rmX1_fullestStep : Room := { frames := 1, cells := 0, slots := 0, locals := 22 }
theorem pdX1_fullestStep : kPd yX1_fullestStep 1 := by decide +kernel
set_option maxHeartbeats 400000 in
set_option maxRecDepth 100000 in
theorem mX1_fullestStep (l : Launch) (D : va_G) (c : Nat → ClassId) (a : Nat → Nat) (τ : Nat → Nat → Nat) (sz : Nat) (t : Nat) (T : Nat) (ht : t < 3) (ok : okS τ T) : MI l yX1_fullestStep wsX1_fullestStep rmX1_fullestStep D c sz (wS c a τ) [.ref (a 0), .int (nI (t))] (nI (flS τ t 31)) (wS c a τ) := by
  refine MI.of (cc := cX1_fullestStep) (maxL := 4) (ty := .int) (by decide) rfl (Nat.le_of_ble_eq_true rfl) rfl ?_
  intro P e s m below meth cd A Q ls hsz S hK hW hA hl hret
  have hl : lv_has ls 4 [(0, .ref (a 0)), (1, .int (nI (t)))] := hl
  obtain ⟨ok0, ok1, ok2, ⟨ok6, ok6a, ok6b, ok6c, ok6d⟩, ok7, ok8, ok9, ok10, ok11, ok12, ok14, ok15⟩ := id ok
  refine lv_iconst (v := nI (0)) S.1 S.2.1 dX1_fullestStep_0 rfl ?_
  refine lv_istore_n (lv' := [(2, .int (nI (0))), (0, .ref (a 0)), (1, .int (nI (t)))]) S.1 S.2.1 dX1_fullestStep_1 rfl hl (by decide) rfl (fun ls hl => ?_)
  refine lv_iconst (v := nI (1)) S.1 S.2.1 dX1_fullestStep_2 rfl ?_
  refine lv_istore_n (lv' := [(3, .int (nI (1))), (2, .int (nI (0))), (0, .ref (a 0)), (1, .int (nI (t)))]) S.1 S.2.1 dX1_fullestStep_3 rfl hl (by decide) rfl (fun ls hl => ?_)
  refine k_loop (fun (zz : Nat × Nat) H lo ls => match zz with | (k, n) => kw D A s.heap (wS c a τ) H lo ∧ lv_has ls 4 [(0, .ref (a 0)), (1, .int (nI (t))), (2, .int (nI (n))), (3, .int (nI (1 + k)))] ∧ k ≤ 31 ∧ n = flS τ t k) (fun (zz : Nat × Nat) => match zz with | (k, n) => 31 - k) [] ?_ (0, 0) _ _ _ ⟨hW, lv_sub hl [2, 3, 1, 0] rfl, (by decide), rfl⟩
  rintro ⟨k, n⟩ ih4 H locs ls ⟨hW, hl, hk, hn⟩
  have hle := flS_le τ t k
  have o1 := ones_le (τ 0 (t * 32 + (1 + k)))
  have o2 := ones_le (τ 0 (t * 32 + n))
  refine lv_iload_n S.1 S.2.1 dX1_fullestStep_4 rfl (lv_at hl 3 rfl) ?_
  refine lv_bipush (v := nI (32)) S.1 S.2.1 dX1_fullestStep_5 rfl ?_
  refine kn_ge S (tgt := 39) dX1_fullestStep_7 (by decide) (by omega) (by omega) (fun c_7 => ?_) (fun c_7 => ?_)
  · have e9 : k = 31 := by omega
    rw [e9] at hn
    refine lv_iload_n S.1 S.2.1 dX1_fullestStep_39 rfl (lv_at hl 2 rfl) ?_
    exact hret 40 _ _ _ _ _ dX1_fullestStep_40 hW (congrArg nI hn) (rfl)
  · refine lv_aload_n S.1 S.2.1 dX1_fullestStep_10 rfl (lv_at hl 0 rfl) ?_
    refine lv_iload_n S.1 S.2.1 dX1_fullestStep_11 rfl (lv_at hl 1 rfl) ?_
    refine lv_iload_n S.1 S.2.1 dX1_fullestStep_12 rfl (lv_at hl 3 rfl) ?_
    refine k_VI (rest := []) S hK hl.1 hW (KFr.all hW hA) (mX1_teethAt l D c a τ _ t (1 + k) (by first | omega | exact ht | assumption | (show t < 3; omega) | rfl) (by first | omega | exact hp | assumption | (show (1 + k) < 32; omega) | rfl)) gX1_fullestStep_X1_teethAt rfl pdX1_teethAt ⟨⟨rfl, rfl⟩, Nat.le_of_ble_eq_true rfl, Nat.le_of_ble_eq_true rfl⟩ 0 1 rfl rfl rfl rfl (Nat.le_of_ble_eq_true rfl) dX1_fullestStep_13 ⟨Nat.le_of_ble_eq_true rfl, Nat.le_of_ble_eq_true rfl⟩ (fun H locs hW => ?_)
    have hW : kw D A s.heap (wS c a τ) H locs := hW
    refine k_SI (rest := []) S hK hl.1 hW (KFr.nil hW hA) (mJ6_bitCount_0f7a4 l D c  _ (τ 0 (t * 32 + (1 + k))) (ok0 _ (by omega))) gX1_fullestStep_J6_bitCount_0f7a4 rfl pdJ6_bitCount_0f7a4 ⟨⟨rfl, rfl⟩, Nat.le_of_ble_eq_true rfl, Nat.le_of_ble_eq_true rfl⟩ rfl (Nat.le_of_ble_eq_true rfl) dX1_fullestStep_16 ⟨Nat.le_of_ble_eq_true rfl, Nat.le_of_ble_eq_true rfl⟩ (fun H locs hW => ?_)
    have hW : kw D A s.heap (wS c a τ) H locs := hW
    refine lv_aload_n S.1 S.2.1 dX1_fullestStep_19 rfl (lv_at hl 0 rfl) ?_
    refine lv_iload_n S.1 S.2.1 dX1_fullestStep_20 rfl (lv_at hl 1 rfl) ?_
    refine lv_iload_n S.1 S.2.1 dX1_fullestStep_21 rfl (lv_at hl 2 rfl) ?_
    refine k_VI (rest := [.int (nI (ones (τ 0 (t * 32 + (1 + k)))))]) S hK hl.1 hW (KFr.all hW hA) (mX1_teethAt l D c a τ _ t n (by first | omega | exact ht | assumption | (show t < 3; omega) | rfl) (by first | omega | exact hp | assumption | (show n < 32; omega) | rfl)) gX1_fullestStep_X1_teethAt rfl pdX1_teethAt ⟨⟨rfl, rfl⟩, Nat.le_of_ble_eq_true rfl, Nat.le_of_ble_eq_true rfl⟩ 0 1 rfl rfl rfl rfl (Nat.le_of_ble_eq_true rfl) dX1_fullestStep_22 ⟨Nat.le_of_ble_eq_true rfl, Nat.le_of_ble_eq_true rfl⟩ (fun H locs hW => ?_)
    have hW : kw D A s.heap (wS c a τ) H locs := hW
    refine k_SI (rest := [.int (nI (ones (τ 0 (t * 32 + (1 + k)))))]) S hK hl.1 hW (KFr.nil hW hA) (mJ6_bitCount_0f7a4 l D c  _ (τ 0 (t * 32 + n)) (ok0 _ (by omega))) gX1_fullestStep_J6_bitCount_0f7a4 rfl pdJ6_bitCount_0f7a4 ⟨⟨rfl, rfl⟩, Nat.le_of_ble_eq_true rfl, Nat.le_of_ble_eq_true rfl⟩ rfl (Nat.le_of_ble_eq_true rfl) dX1_fullestStep_25 ⟨Nat.le_of_ble_eq_true rfl, Nat.le_of_ble_eq_true rfl⟩ (fun H locs hW => ?_)
    have hW : kw D A s.heap (wS c a τ) H locs := hW
    refine kn_le S (tgt := 33) dX1_fullestStep_28 (by decide) (by omega) (by omega) (fun c_28 => ?_) (fun c_28 => ?_)
    · refine lv_iinc (v := nI (1 + (k + 1))) (lv' := [(3, .int (nI (1 + (k + 1)))), (0, .ref (a 0)), (1, .int (nI (t))), (2, .int (nI (n)))]) S.1 S.2.1 dX1_fullestStep_33 hl (k := 3) rfl (nI_add _ _) (by decide) rfl (fun ls hl => ?_)
      refine lv_goto (tgt := 4) S.1 S.2.1 dX1_fullestStep_36 (by decide) ?_
      exact ih4 (k + 1, n) _ _ _ ⟨hW, lv_sub hl [1, 2, 3, 0] rfl, (by omega), (by subst hn; first | exact (flS_t c_28).symm | exact (flS_f c_28).symm)⟩ (by show 31 - (k + 1) < 31 - k; omega)
    · refine lv_iload_n S.1 S.2.1 dX1_fullestStep_31 rfl (lv_at hl 3 rfl) ?_
      refine lv_istore_n (lv' := [(2, .int (nI (1 + k))), (0, .ref (a 0)), (1, .int (nI (t))), (3, .int (nI (1 + k)))]) S.1 S.2.1 dX1_fullestStep_32 rfl hl (by decide) rfl (fun ls hl => ?_)
      refine lv_iinc (v := nI (1 + (k + 1))) (lv' := [(3, .int (nI (1 + (k + 1)))), (2, .int (nI (1 + k))), (0, .ref (a 0)), (1, .int (nI (t)))]) S.1 S.2.1 dX1_fullestStep_33 hl (k := 3) rfl (nI_add _ _) (by decide) rfl (fun ls hl => ?_)
      refine lv_goto (tgt := 4) S.1 S.2.1 dX1_fullestStep_36 (by decide) ?_
      exact ih4 (k + 1, 1 + k) _ _ _ ⟨hW, lv_sub hl [2, 3, 1, 0] rfl, (by omega), (by subst hn; first | exact (flS_t c_28).symm | exact (flS_f c_28).symm)⟩ (by show 31 - (k + 1) < 31 - k; omega)
abbrev rmX1_teethUsed : Room := { frames := 1, cells := 0, slots := 0, locals := 22 }
theorem pdX1_teethUsed : kPd yX1_teethUsed 1 := by decide +kernel
set_option maxHeartbeats 400000 in
set_option maxRecDepth 100000 in
theorem mX1_teethUsed (l : Launch) (D : va_G) (c : Nat → ClassId) (a : Nat → Nat) (τ : Nat → Nat → Nat) (sz : Nat) (t : Nat) (T : Nat) (ht : t < 3) (ok : okS τ T) : MI l yX1_teethUsed wsX1_teethUsed rmX1_teethUsed D c sz (wS c a τ) [.ref (a 0), .int (nI (t))] (nI (tuS τ t 32)) (wS c a τ) := by
  refine MI.of (cc := cX1_teethUsed) (maxL := 4) (ty := .int) (by decide) rfl (Nat.le_of_ble_eq_true rfl) rfl ?_
  intro P e s m below meth cd A Q ls hsz S hK hW hA hl hret
  have hl : lv_has ls 4 [(0, .ref (a 0)), (1, .int (nI (t)))] := hl
  refine lv_iconst (v := nI (0)) S.1 S.2.1 dX1_teethUsed_0 rfl ?_
  refine lv_istore_n (lv' := [(2, .int (nI (0))), (0, .ref (a 0)), (1, .int (nI (t)))]) S.1 S.2.1 dX1_teethUsed_1 rfl hl (by decide) rfl (fun ls hl => ?_)
  refine lv_iconst (v := nI (0)) S.1 S.2.1 dX1_teethUsed_2 rfl ?_
  refine lv_istore_n (lv' := [(3, .int (nI (0))), (2, .int (nI (0))), (0, .ref (a 0)), (1, .int (nI (t)))]) S.1 S.2.1 dX1_teethUsed_3 rfl hl (by decide) rfl (fun ls hl => ?_)
  refine k_loop (fun (zz : Nat) H lo ls => match zz with | k => kw D A s.heap (wS c a τ) H lo ∧ lv_has ls 4 [(0, .ref (a 0)), (1, .int (nI (t))), (2, .int (nI (tuS τ t k))), (3, .int (nI (k)))] ∧ k ≤ 32) (fun (zz : Nat) => match zz with | k => 32 - k) [] ?_ 0 _ _ _ ⟨hW, lv_sub hl [2, 3, 1, 0] rfl, (by decide)⟩
  rintro k ih4 H locs ls ⟨hW, hl, hi4_0⟩
  refine lv_iload_n S.1 S.2.1 dX1_teethUsed_4 rfl (lv_at hl 3 rfl) ?_
  refine lv_bipush (v := nI (32)) S.1 S.2.1 dX1_teethUsed_5 rfl ?_
  refine kn_ge S (tgt := 25) dX1_teethUsed_7 (by decide) (by omega) (by omega) (fun c_7 => ?_) (fun c_7 => ?_)
  · have e9 : k = 32 := by omega
    subst e9
    refine lv_iload_n S.1 S.2.1 dX1_teethUsed_25 rfl (lv_at hl 2 rfl) ?_
    exact hret 26 _ _ _ _ _ dX1_teethUsed_26 hW (rfl) (rfl)
  · refine lv_iload_n S.1 S.2.1 dX1_teethUsed_10 rfl (lv_at hl 2 rfl) ?_
    refine lv_aload_n S.1 S.2.1 dX1_teethUsed_11 rfl (lv_at hl 0 rfl) ?_
    refine lv_iload_n S.1 S.2.1 dX1_teethUsed_12 rfl (lv_at hl 1 rfl) ?_
    refine lv_iload_n S.1 S.2.1 dX1_teethUsed_13 rfl (lv_at hl 3 rfl) ?_
    refine k_VI (rest := [.int (nI (tuS τ t k))]) S hK hl.1 hW (KFr.all hW hA) (mX1_teethAt l D c a τ _ t k (by first | omega | exact ht | assumption | (show t < 3; omega) | rfl) (by first | omega | exact hp | assumption | (show k < 32; omega) | rfl)) gX1_teethUsed_X1_teethAt rfl pdX1_teethAt ⟨⟨rfl, rfl⟩, Nat.le_of_ble_eq_true rfl, Nat.le_of_ble_eq_true rfl⟩ 0 1 rfl rfl rfl rfl (Nat.le_of_ble_eq_true rfl) dX1_teethUsed_14 ⟨Nat.le_of_ble_eq_true rfl, Nat.le_of_ble_eq_true rfl⟩ (fun H locs hW => ?_)
    have hW : kw D A s.heap (wS c a τ) H locs := hW
    refine kn_ior S dX1_teethUsed_17 ?_
    refine k_top (y := nI (tuS τ t (k + 1))) (rfl) ?_
    refine lv_istore_n (lv' := [(2, .int (nI (tuS τ t (k + 1)))), (0, .ref (a 0)), (1, .int (nI (t))), (3, .int (nI (k)))]) S.1 S.2.1 dX1_teethUsed_18 rfl hl (by decide) rfl (fun ls hl => ?_)
    refine lv_iinc (v := nI (k + 1)) (lv' := [(3, .int (nI (k + 1))), (2, .int (nI (tuS τ t (k + 1)))), (0, .ref (a 0)), (1, .int (nI (t)))]) S.1 S.2.1 dX1_teethUsed_19 hl (k := 3) rfl (nI_add _ _) (by decide) rfl (fun ls hl => ?_)
    refine lv_goto (tgt := 4) S.1 S.2.1 dX1_teethUsed_22 (by decide) ?_
    exact ih4 (k + 1) _ _ _ ⟨hW, lv_sub hl [2, 3, 1, 0] rfl, (by omega)⟩ (by show 32 - (k + 1) < 32 - k; omega)
abbrev rmX1_widestGap : Room := { frames := 2, cells := 0, slots := 0, locals := 45 }
theorem pdX1_widestGap : kPd yX1_widestGap 2 := by decide +kernel
set_option maxHeartbeats 400000 in
set_option maxRecDepth 100000 in
theorem mX1_widestGap (l : Launch) (D : va_G) (c : Nat → ClassId) (a : Nat → Nat) (τ : Nat → Nat → Nat) (sz : Nat) (t : Nat) (j : Nat) (ht : t < 3) (hj : j < 12) : MI l yX1_widestGap wsX1_widestGap rmX1_widestGap D c sz (wS c a τ) [.ref (a 0), .int (nI (t)), .int (nI (j))] (nI (wgN (wgS τ t j 32))) (wS c a τ) := by
  refine MI.of (cc := cX1_widestGap) (maxL := 7) (ty := .int) (by decide) rfl (Nat.le_of_ble_eq_true rfl) rfl ?_
  intro P e s m below meth cd A Q ls hsz S hK hW hA hl hret
  have hl : lv_has ls 7 [(0, .ref (a 0)), (1, .int (nI (t))), (2, .int (nI (j)))] := hl
  refine lv_iconst (v := nI (4294967295)) S.1 S.2.1 dX1_widestGap_0 rfl ?_
  refine lv_istore_n (lv' := [(3, .int (nI (4294967295))), (0, .ref (a 0)), (1, .int (nI (t))), (2, .int (nI (j)))]) S.1 S.2.1 dX1_widestGap_1 rfl hl (by decide) rfl (fun ls hl => ?_)
  refine lv_iconst (v := nI (4294967295)) S.1 S.2.1 dX1_widestGap_2 rfl ?_
  refine lv_istore (lv' := [(4, .int (nI (4294967295))), (3, .int (nI (4294967295))), (0, .ref (a 0)), (1, .int (nI (t))), (2, .int (nI (j)))]) S.1 S.2.1 dX1_widestGap_3 hl (by decide) rfl (fun ls hl => ?_)
  refine lv_iconst (v := nI (0)) S.1 S.2.1 dX1_widestGap_5 rfl ?_
  refine lv_istore (lv' := [(5, .int (nI (0))), (4, .int (nI (4294967295))), (3, .int (nI (4294967295))), (0, .ref (a 0)), (1, .int (nI (t))), (2, .int (nI (j)))]) S.1 S.2.1 dX1_widestGap_6 hl (by decide) rfl (fun ls hl => ?_)
  refine lv_iconst (v := nI (0)) S.1 S.2.1 dX1_widestGap_8 rfl ?_
  refine lv_istore (lv' := [(6, .int (nI (0))), (5, .int (nI (0))), (4, .int (nI (4294967295))), (3, .int (nI (4294967295))), (0, .ref (a 0)), (1, .int (nI (t))), (2, .int (nI (j)))]) S.1 S.2.1 dX1_widestGap_9 hl (by decide) rfl (fun ls hl => ?_)
  refine k_loop (fun (zz : Nat × Nat × Nat × Nat) H lo ls => match zz with | (k, f, g, w) => kw D A s.heap (wS c a τ) H lo ∧ lv_has ls 7 [(0, .ref (a 0)), (1, .int (nI (t))), (2, .int (nI (j))), (3, .int (nI (f))), (4, .int (nI (g))), (5, .int (nI (w))), (6, .int (nI (k)))] ∧ k ≤ 32 ∧ wgS τ t j k = (f, g, w) ∧ (f = 4294967295 ∨ f < k ∧ g < k) ∧ w ≤ 32) (fun (zz : Nat × Nat × Nat × Nat) => match zz with | (k, f, g, w) => 32 - k) [] ?_ (0, 4294967295, 4294967295, 0) _ _ _ ⟨hW, lv_sub hl [4, 5, 6, 3, 2, 1, 0] rfl, (by decide), rfl, ⟨Or.inl rfl, Nat.zero_le _⟩⟩
  rintro ⟨k, f, g, w⟩ ih11 H locs ls ⟨hW, hl, hk, hp, hf⟩
  refine lv_iload S.1 S.2.1 dX1_widestGap_11 (lv_at hl 6 rfl) ?_
  refine lv_bipush (v := nI (32)) S.1 S.2.1 dX1_widestGap_13 rfl ?_
  refine kn_ge S (tgt := 62) dX1_widestGap_15 (by decide) (by omega) (by omega) (fun c_15 => ?_) (fun c_15 => ?_)
  · have e9 : k = 32 := by omega
    rw [e9] at hp
    refine lv_iload_n S.1 S.2.1 dX1_widestGap_62 rfl (lv_at hl 3 rfl) ?_
    refine lv_iconst (v := nI (4294967295)) S.1 S.2.1 dX1_widestGap_63 rfl ?_
    refine kv_ne S (tgt := 71) dX1_widestGap_64 (by decide) (by omega) (by omega) (fun c_64 => ?_) (fun c_64 => ?_)
    · refine lv_iload S.1 S.2.1 dX1_widestGap_71 (lv_at hl 5 rfl) ?_
      refine lv_iload_n S.1 S.2.1 dX1_widestGap_73 rfl (lv_at hl 3 rfl) ?_
      refine lv_bipush (v := nI (32)) S.1 S.2.1 dX1_widestGap_74 rfl ?_
      refine kn_iadd S dX1_widestGap_76 ?_
      refine lv_iload S.1 S.2.1 dX1_widestGap_77 (lv_at hl 4 rfl) ?_
      refine kn_isub S dX1_widestGap_79 (by omega) ?_
      refine kn_max S hl.1 (List.mem_of_getElem? (i := 1) rfl) (List.mem_of_getElem? (i := 2) rfl) (List.mem_of_getElem? (i := 3) rfl) (List.mem_of_getElem? (i := 4) rfl) ⟨Nat.le_of_ble_eq_true rfl, Nat.le_of_ble_eq_true rfl⟩ ⟨Nat.le_of_ble_eq_true rfl, Nat.le_of_ble_eq_true rfl⟩ (by omega) (by omega) dX1_widestGap_80 ?_
      exact hret 83 _ _ _ _ _ dX1_widestGap_83 hW (congrArg nI (by rw [hp]; first | exact (if_pos c_64).symm | exact (if_neg c_64).symm)) (rfl)
    · refine lv_iconst (v := nI (0)) S.1 S.2.1 dX1_widestGap_67 rfl ?_
      refine lv_goto (tgt := 83) S.1 S.2.1 dX1_widestGap_68 (by decide) ?_
      exact hret 83 _ _ _ _ _ dX1_widestGap_83 hW (congrArg nI (by rw [hp]; first | exact (if_pos c_64).symm | exact (if_neg c_64).symm)) (rfl)
  · refine lv_aload_n S.1 S.2.1 dX1_widestGap_18 rfl (lv_at hl 0 rfl) ?_
    refine lv_iload_n S.1 S.2.1 dX1_widestGap_19 rfl (lv_at hl 1 rfl) ?_
    refine lv_iload_n S.1 S.2.1 dX1_widestGap_20 rfl (lv_at hl 2 rfl) ?_
    refine lv_iload S.1 S.2.1 dX1_widestGap_21 (lv_at hl 6 rfl) ?_
    refine k_VI (rest := []) S hK hl.1 hW (KFr.all hW hA) (mX1_hasPin l D c a τ _ t j k (by first | omega | exact ht | assumption | (show t < 3; omega) | rfl) (by first | omega | exact hj | assumption | (show j < 12; omega) | rfl) (by first | omega | exact hp | assumption | (show k < 32; omega) | rfl)) gX1_widestGap_X1_hasPin rfl pdX1_hasPin ⟨⟨rfl, rfl⟩, Nat.le_of_ble_eq_true rfl, Nat.le_of_ble_eq_true rfl⟩ 0 1 rfl rfl rfl rfl (Nat.le_of_ble_eq_true rfl) dX1_widestGap_23 ⟨Nat.le_of_ble_eq_true rfl, Nat.le_of_ble_eq_true rfl⟩ (fun H locs hW => ?_)
    have hW : kw D A s.heap (wS c a τ) H locs := hW
    refine kb_eq S (tgt := 56) dX1_widestGap_26 (by decide) (fun c_26 => ?_) (fun c_26 => ?_)
    · refine lv_iinc (v := nI (k + 1)) (lv' := [(6, .int (nI (k + 1))), (0, .ref (a 0)), (1, .int (nI (t))), (2, .int (nI (j))), (3, .int (nI (f))), (4, .int (nI (g))), (5, .int (nI (w)))]) S.1 S.2.1 dX1_widestGap_56 hl (k := 6) rfl (nI_add _ _) (by decide) rfl (fun ls hl => ?_)
      refine lv_goto (tgt := 11) S.1 S.2.1 dX1_widestGap_59 (by decide) ?_
      exact ih11 (k + 1, f, g, w) _ _ _ ⟨hW, lv_sub hl [1, 2, 3, 4, 5, 6, 0] rfl, (by omega), (by first | exact wgS_n hp c_26 | exact wgS_1 hp c_26 c_31 | exact wgS_2 hp c_26 c_31), (by omega)⟩ (by show 32 - (k + 1) < 32 - k; omega)
    · refine lv_iload_n S.1 S.2.1 dX1_widestGap_29 rfl (lv_at hl 3 rfl) ?_
      refine lv_iconst (v := nI (4294967295)) S.1 S.2.1 dX1_widestGap_30 rfl ?_
      refine kv_ne S (tgt := 40) dX1_widestGap_31 (by decide) (by omega) (by omega) (fun c_31 => ?_) (fun c_31 => ?_)
      · refine lv_iload S.1 S.2.1 dX1_widestGap_40 (lv_at hl 5 rfl) ?_
        refine lv_iload S.1 S.2.1 dX1_widestGap_42 (lv_at hl 6 rfl) ?_
        refine lv_iload S.1 S.2.1 dX1_widestGap_44 (lv_at hl 4 rfl) ?_
        refine kn_isub S dX1_widestGap_46 (by omega) ?_
        refine kn_max S hl.1 (List.mem_of_getElem? (i := 1) rfl) (List.mem_of_getElem? (i := 2) rfl) (List.mem_of_getElem? (i := 3) rfl) (List.mem_of_getElem? (i := 4) rfl) ⟨Nat.le_of_ble_eq_true rfl, Nat.le_of_ble_eq_true rfl⟩ ⟨Nat.le_of_ble_eq_true rfl, Nat.le_of_ble_eq_true rfl⟩ (by omega) (by omega) dX1_widestGap_47 ?_
        refine lv_istore (lv' := [(5, .int (nI (max w (k - g)))), (0, .ref (a 0)), (1, .int (nI (t))), (2, .int (nI (j))), (3, .int (nI (f))), (4, .int (nI (g))), (6, .int (nI (k)))]) S.1 S.2.1 dX1_widestGap_50 hl (by decide) rfl (fun ls hl => ?_)
        refine lv_iload S.1 S.2.1 dX1_widestGap_52 (lv_at hl 6 rfl) ?_
        refine lv_istore (lv' := [(4, .int (nI (k))), (5, .int (nI (max w (k - g)))), (0, .ref (a 0)), (1, .int (nI (t))), (2, .int (nI (j))), (3, .int (nI (f))), (6, .int (nI (k)))]) S.1 S.2.1 dX1_widestGap_54 hl (by decide) rfl (fun ls hl => ?_)
        refine lv_iinc (v := nI (k + 1)) (lv' := [(6, .int (nI (k + 1))), (4, .int (nI (k))), (5, .int (nI (max w (k - g)))), (0, .ref (a 0)), (1, .int (nI (t))), (2, .int (nI (j))), (3, .int (nI (f)))]) S.1 S.2.1 dX1_widestGap_56 hl (k := 6) rfl (nI_add _ _) (by decide) rfl (fun ls hl => ?_)
        refine lv_goto (tgt := 11) S.1 S.2.1 dX1_widestGap_59 (by decide) ?_
        exact ih11 (k + 1, f, k, max w (k - g)) _ _ _ ⟨hW, lv_sub hl [3, 4, 5, 6, 1, 2, 0] rfl, (by omega), (by first | exact wgS_n hp c_26 | exact wgS_1 hp c_26 c_31 | exact wgS_2 hp c_26 c_31), (by omega)⟩ (by show 32 - (k + 1) < 32 - k; omega)
      · refine lv_iload S.1 S.2.1 dX1_widestGap_34 (lv_at hl 6 rfl) ?_
        refine lv_istore_n (lv' := [(3, .int (nI (k))), (0, .ref (a 0)), (1, .int (nI (t))), (2, .int (nI (j))), (4, .int (nI (g))), (5, .int (nI (w))), (6, .int (nI (k)))]) S.1 S.2.1 dX1_widestGap_36 rfl hl (by decide) rfl (fun ls hl => ?_)
        refine lv_goto (tgt := 52) S.1 S.2.1 dX1_widestGap_37 (by decide) ?_
        refine lv_iload S.1 S.2.1 dX1_widestGap_52 (lv_at hl 6 rfl) ?_
        refine lv_istore (lv' := [(4, .int (nI (k))), (3, .int (nI (k))), (0, .ref (a 0)), (1, .int (nI (t))), (2, .int (nI (j))), (5, .int (nI (w))), (6, .int (nI (k)))]) S.1 S.2.1 dX1_widestGap_54 hl (by decide) rfl (fun ls hl => ?_)
        refine lv_iinc (v := nI (k + 1)) (lv' := [(6, .int (nI (k + 1))), (4, .int (nI (k))), (3, .int (nI (k))), (0, .ref (a 0)), (1, .int (nI (t))), (2, .int (nI (j))), (5, .int (nI (w)))]) S.1 S.2.1 dX1_widestGap_56 hl (k := 6) rfl (nI_add _ _) (by decide) rfl (fun ls hl => ?_)
        refine lv_goto (tgt := 11) S.1 S.2.1 dX1_widestGap_59 (by decide) ?_
        exact ih11 (k + 1, k, k, w) _ _ _ ⟨hW, lv_sub hl [3, 4, 5, 2, 1, 6, 0] rfl, (by omega), (by first | exact wgS_n hp c_26 | exact wgS_1 hp c_26 c_31 | exact wgS_2 hp c_26 c_31), (by omega)⟩ (by show 32 - (k + 1) < 32 - k; omega)
abbrev rmX1_numberOfTune : Room := { frames := 3, cells := 0, slots := 0, locals := 69 }
theorem pdX1_numberOfTune : kPd yX1_numberOfTune 2 := by decide +kernel
set_option maxHeartbeats 400000 in
set_option maxRecDepth 100000 in
theorem mX1_numberOfTune (l : Launch) (D : va_G) (c : Nat → ClassId) (a : Nat → Nat) (τ : Nat → Nat → Nat) (sz : Nat) (t : Nat) (w : Nat) (T : Nat) (ht : t < 3) (hw : w < 5) (ok : okS τ T) : MI l yX1_numberOfTune wsX1_numberOfTune rmX1_numberOfTune D c sz (wS c a τ) [.ref (a 0), .int (nI (t)), .int (nI (w))] (nI (numT τ t w)) (wS c a τ) := by
  refine MI.of (cc := cX1_numberOfTune) (maxL := 3) (ty := .int) (by decide) rfl (Nat.le_of_ble_eq_true rfl) rfl ?_
  intro P e s m below meth cd A Q ls hsz S hK hW hA hl hret
  have hl : lv_has ls 3 [(0, .ref (a 0)), (1, .int (nI (t))), (2, .int (nI (w)))] := hl
  have ok0 := ok.1
  have hf := flS_le τ t 31
  refine lv_iload_n S.1 S.2.1 dX1_numberOfTune_0 rfl (lv_at hl 2 rfl) ?_
  rcases (show w = 0 ∨ w = 1 ∨ w = 2 ∨ w = 3 ∨ w = 4 from by omega) with rfl | rfl | rfl | rfl | rfl
  · skip
    refine lv_tableIn (tgt := 32) S.1 S.2.1 dX1_numberOfTune_1 (by decide) (by decide) rfl (by decide) ?_
    refine lv_aload_n S.1 S.2.1 dX1_numberOfTune_32 rfl (lv_at hl 0 rfl) ?_
    refine lv_iload_n S.1 S.2.1 dX1_numberOfTune_33 rfl (lv_at hl 1 rfl) ?_
    refine k_VI (rest := []) S hK hl.1 hW (KFr.all hW hA) (mX1_pinsOf l D c a τ _ t T (by first | omega | exact ht | assumption | (show t < 3; omega) | rfl) ok) gX1_numberOfTune_X1_pinsOf rfl pdX1_pinsOf ⟨⟨rfl, rfl⟩, Nat.le_of_ble_eq_true rfl, Nat.le_of_ble_eq_true rfl⟩ 0 1 rfl rfl rfl rfl (Nat.le_of_ble_eq_true rfl) dX1_numberOfTune_34 ⟨Nat.le_of_ble_eq_true rfl, Nat.le_of_ble_eq_true rfl⟩ (fun H locs hW => ?_)
    have hW : kw D A s.heap (wS c a τ) H locs := hW
    exact hret 37 _ _ _ _ _ dX1_numberOfTune_37 hW (congrArg nI (numT_0 _ _).symm) (rfl)
  · skip
    refine lv_tableIn (tgt := 38) S.1 S.2.1 dX1_numberOfTune_1 (by decide) (by decide) rfl (by decide) ?_
    refine lv_aload_n S.1 S.2.1 dX1_numberOfTune_38 rfl (lv_at hl 0 rfl) ?_
    refine lv_iload_n S.1 S.2.1 dX1_numberOfTune_39 rfl (lv_at hl 1 rfl) ?_
    refine k_VI (rest := []) S hK hl.1 hW (KFr.all hW hA) (mX1_pinsByTooth l D c a τ _ t (by first | omega | exact ht | assumption | (show t < 3; omega) | rfl)) gX1_numberOfTune_X1_pinsByTooth rfl pdX1_pinsByTooth ⟨⟨rfl, rfl⟩, Nat.le_of_ble_eq_true rfl, Nat.le_of_ble_eq_true rfl⟩ 0 1 rfl rfl rfl rfl (Nat.le_of_ble_eq_true rfl) dX1_numberOfTune_40 ⟨Nat.le_of_ble_eq_true rfl, Nat.le_of_ble_eq_true rfl⟩ (fun H locs hW => ?_)
    have hW : kw D A s.heap (wS c a τ) H locs := hW
    exact hret 43 _ _ _ _ _ dX1_numberOfTune_43 hW (congrArg nI (numT_1 _ _).symm) (rfl)
  · skip
    refine lv_tableIn (tgt := 44) S.1 S.2.1 dX1_numberOfTune_1 (by decide) (by decide) rfl (by decide) ?_
    refine lv_aload_n S.1 S.2.1 dX1_numberOfTune_44 rfl (lv_at hl 0 rfl) ?_
    refine lv_iload_n S.1 S.2.1 dX1_numberOfTune_45 rfl (lv_at hl 1 rfl) ?_
    refine lv_aload_n S.1 S.2.1 dX1_numberOfTune_46 rfl (lv_at hl 0 rfl) ?_
    refine lv_iload_n S.1 S.2.1 dX1_numberOfTune_47 rfl (lv_at hl 1 rfl) ?_
    refine k_VI (rest := [.int (nI (t)), .ref (a 0)]) S hK hl.1 hW (KFr.all hW hA) (mX1_fullestStep l D c a τ _ t T (by first | omega | exact ht | assumption | (show t < 3; omega) | rfl) ok) gX1_numberOfTune_X1_fullestStep rfl pdX1_fullestStep ⟨⟨rfl, rfl⟩, Nat.le_of_ble_eq_true rfl, Nat.le_of_ble_eq_true rfl⟩ 0 1 rfl rfl rfl rfl (Nat.le_of_ble_eq_true rfl) dX1_numberOfTune_48 ⟨Nat.le_of_ble_eq_true rfl, Nat.le_of_ble_eq_true rfl⟩ (fun H locs hW => ?_)
    have hW : kw D A s.heap (wS c a τ) H locs := hW
    refine k_VI (rest := []) S hK hl.1 hW (KFr.all hW hA) (mX1_teethAt l D c a τ _ t (flS τ t 31) (by first | omega | exact ht | assumption | (show t < 3; omega) | rfl) (by first | omega | exact hp | assumption | (show (flS τ t 31) < 32; omega) | rfl)) gX1_numberOfTune_X1_teethAt rfl pdX1_teethAt ⟨⟨rfl, rfl⟩, Nat.le_of_ble_eq_true rfl, Nat.le_of_ble_eq_true rfl⟩ 0 1 rfl rfl rfl rfl (Nat.le_of_ble_eq_true rfl) dX1_numberOfTune_51 ⟨Nat.le_of_ble_eq_true rfl, Nat.le_of_ble_eq_true rfl⟩ (fun H locs hW => ?_)
    have hW : kw D A s.heap (wS c a τ) H locs := hW
    refine k_SI (rest := []) S hK hl.1 hW (KFr.nil hW hA) (mJ6_bitCount_0f7a4 l D c  _ (τ 0 (t * 32 + (flS τ t 31))) (ok0 _ (by omega))) gX1_numberOfTune_J6_bitCount_0f7a4 rfl pdJ6_bitCount_0f7a4 ⟨⟨rfl, rfl⟩, Nat.le_of_ble_eq_true rfl, Nat.le_of_ble_eq_true rfl⟩ rfl (Nat.le_of_ble_eq_true rfl) dX1_numberOfTune_54 ⟨Nat.le_of_ble_eq_true rfl, Nat.le_of_ble_eq_true rfl⟩ (fun H locs hW => ?_)
    have hW : kw D A s.heap (wS c a τ) H locs := hW
    exact hret 57 _ _ _ _ _ dX1_numberOfTune_57 hW (congrArg nI (numT_2 _ _).symm) (rfl)
  · skip
    refine lv_tableIn (tgt := 58) S.1 S.2.1 dX1_numberOfTune_1 (by decide) (by decide) rfl (by decide) ?_
    refine lv_aload_n S.1 S.2.1 dX1_numberOfTune_58 rfl (lv_at hl 0 rfl) ?_
    refine lv_iload_n S.1 S.2.1 dX1_numberOfTune_59 rfl (lv_at hl 1 rfl) ?_
    refine k_VI (rest := []) S hK hl.1 hW (KFr.all hW hA) (mX1_fullestStep l D c a τ _ t T (by first | omega | exact ht | assumption | (show t < 3; omega) | rfl) ok) gX1_numberOfTune_X1_fullestStep rfl pdX1_fullestStep ⟨⟨rfl, rfl⟩, Nat.le_of_ble_eq_true rfl, Nat.le_of_ble_eq_true rfl⟩ 0 1 rfl rfl rfl rfl (Nat.le_of_ble_eq_true rfl) dX1_numberOfTune_60 ⟨Nat.le_of_ble_eq_true rfl, Nat.le_of_ble_eq_true rfl⟩ (fun H locs hW => ?_)
    have hW : kw D A s.heap (wS c a τ) H locs := hW
    exact hret 63 _ _ _ _ _ dX1_numberOfTune_63 hW (congrArg nI (numT_3 _ _).symm) (rfl)
  · skip
    refine lv_tableOut (tgt := 64) S.1 S.2.1 dX1_numberOfTune_1 (by decide) (by decide) ?_
    refine lv_aload_n S.1 S.2.1 dX1_numberOfTune_64 rfl (lv_at hl 0 rfl) ?_
    refine lv_iload_n S.1 S.2.1 dX1_numberOfTune_65 rfl (lv_at hl 1 rfl) ?_
    refine k_VI (rest := []) S hK hl.1 hW (KFr.all hW hA) (mX1_teethUsed l D c a τ _ t T (by first | omega | exact ht | assumption | (show t < 3; omega) | rfl) ok) gX1_numberOfTune_X1_teethUsed rfl pdX1_teethUsed ⟨⟨rfl, rfl⟩, Nat.le_of_ble_eq_true rfl, Nat.le_of_ble_eq_true rfl⟩ 0 1 rfl rfl rfl rfl (Nat.le_of_ble_eq_true rfl) dX1_numberOfTune_66 ⟨Nat.le_of_ble_eq_true rfl, Nat.le_of_ble_eq_true rfl⟩ (fun H locs hW => ?_)
    have hW : kw D A s.heap (wS c a τ) H locs := hW
    exact hret 69 _ _ _ _ _ dX1_numberOfTune_69 hW (congrArg nI (numT_4 _ _).symm) (rfl)
abbrev rmX1_numberOfTooth : Room := { frames := 3, cells := 0, slots := 0, locals := 71 }
theorem pdX1_numberOfTooth : kPd yX1_numberOfTooth 2 := by decide +kernel
set_option maxHeartbeats 400000 in
set_option maxRecDepth 100000 in
theorem mX1_numberOfTooth (l : Launch) (D : va_G) (c : Nat → ClassId) (a : Nat → Nat) (τ : Nat → Nat → Nat) (sz : Nat) (j : Nat) (w : Nat) (T : Nat) (hj : j < 12) (hw : w < 5) (ok : okS τ T) (hT : T < 500000000) : MI l yX1_numberOfTooth wsX1_numberOfTooth rmX1_numberOfTooth D c sz (wS c a τ) [.ref (a 0), .int (nI (j)), .int (nI (w))] (nI (numK τ j w)) (wS c a τ) := by
  refine MI.of (cc := cX1_numberOfTooth) (maxL := 3) (ty := .int) (by decide) rfl (Nat.le_of_ble_eq_true rfl) rfl ?_
  intro P e s m below meth cd A Q ls hsz S hK hW hA hl hret
  have hl : lv_has ls 3 [(0, .ref (a 0)), (1, .int (nI (j))), (2, .int (nI (w)))] := hl
  have hinX1 : ∀ w ∈ u_ws RX1 TX1 17, w ∈ wsX1_numberOfTooth := by decide +kernel
  have ht9 : τ 9 0 < 3 := ok.2.2.2.2.2.2.1
  refine lv_iload_n S.1 S.2.1 dX1_numberOfTooth_0 rfl (lv_at hl 2 rfl) ?_
  rcases (show w = 0 ∨ w = 1 ∨ w = 2 ∨ w = 3 ∨ w = 4 from by omega) with rfl | rfl | rfl | rfl | rfl
  · skip
    refine lv_tableIn (tgt := 32) S.1 S.2.1 dX1_numberOfTooth_1 (by decide) (by decide) rfl (by decide) ?_
    refine lv_aload_n S.1 S.2.1 dX1_numberOfTooth_32 rfl (lv_at hl 0 rfl) ?_
    refine lv_iload_n S.1 S.2.1 dX1_numberOfTooth_33 rfl (lv_at hl 1 rfl) ?_
    refine k_VI (rest := []) S hK hl.1 hW (KFr.all hW hA) (mX1_ringsFor l D c a τ _ j T (by first | omega | exact hj | assumption | (show j < 12; omega) | rfl) ok (by first | omega | exact hT | assumption | (show T < 500000000; omega) | rfl)) gX1_numberOfTooth_X1_ringsFor rfl pdX1_ringsFor ⟨⟨rfl, rfl⟩, Nat.le_of_ble_eq_true rfl, Nat.le_of_ble_eq_true rfl⟩ 0 1 rfl rfl rfl rfl (Nat.le_of_ble_eq_true rfl) dX1_numberOfTooth_34 ⟨Nat.le_of_ble_eq_true rfl, Nat.le_of_ble_eq_true rfl⟩ (fun H locs hW => ?_)
    have hW : kw D A s.heap (wS c a τ) H locs := hW
    exact hret 37 _ _ _ _ _ dX1_numberOfTooth_37 hW (congrArg nI (numK_0 _ _).symm) (rfl)
  · skip
    refine lv_tableIn (tgt := 38) S.1 S.2.1 dX1_numberOfTooth_1 (by decide) (by decide) rfl (by decide) ?_
    refine lv_aload_n S.1 S.2.1 dX1_numberOfTooth_38 rfl (lv_at hl 0 rfl) ?_
    refine kx_get S hK hW hinX1 0 1 rfl rfl 2 (by decide) (List.mem_of_getElem? (i := 1) rfl) (v := .ref (a 3)) rfl dX1_numberOfTooth_39 ?_
    refine lv_iload_n S.1 S.2.1 dX1_numberOfTooth_42 rfl (lv_at hl 1 rfl) ?_
    refine kn_ald S hK hW 3 (f := τ 2) rfl (by omega) (by decide) dX1_numberOfTooth_43 ?_
    exact hret 44 _ _ _ _ _ dX1_numberOfTooth_44 hW (congrArg nI (numK_1 _ _).symm) (rfl)
  · skip
    refine lv_tableIn (tgt := 45) S.1 S.2.1 dX1_numberOfTooth_1 (by decide) (by decide) rfl (by decide) ?_
    refine lv_aload_n S.1 S.2.1 dX1_numberOfTooth_45 rfl (lv_at hl 0 rfl) ?_
    refine lv_iload_n S.1 S.2.1 dX1_numberOfTooth_46 rfl (lv_at hl 1 rfl) ?_
    refine k_VI (rest := []) S hK hl.1 hW (KFr.all hW hA) (mX1_isBroken l D c a τ _ j (by first | omega | exact hj | assumption | (show j < 12; omega) | rfl)) gX1_numberOfTooth_X1_isBroken rfl pdX1_isBroken ⟨⟨rfl, rfl⟩, Nat.le_of_ble_eq_true rfl, Nat.le_of_ble_eq_true rfl⟩ 0 1 rfl rfl rfl rfl (Nat.le_of_ble_eq_true rfl) dX1_numberOfTooth_47 ⟨Nat.le_of_ble_eq_true rfl, Nat.le_of_ble_eq_true rfl⟩ (fun H locs hW => ?_)
    have hW : kw D A s.heap (wS c a τ) H locs := hW
    refine kb_eq S (tgt := 57) dX1_numberOfTooth_50 (by decide) (fun c_50 => ?_) (fun c_50 => ?_)
    · refine lv_iconst (v := nI (0)) S.1 S.2.1 dX1_numberOfTooth_57 rfl ?_
      exact hret 58 _ _ _ _ _ dX1_numberOfTooth_58 hW (congrArg nI (by rw [numK_2, c_50]; rfl)) (rfl)
    · refine lv_iconst (v := nI (1)) S.1 S.2.1 dX1_numberOfTooth_53 rfl ?_
      refine lv_goto (tgt := 58) S.1 S.2.1 dX1_numberOfTooth_54 (by decide) ?_
      exact hret 58 _ _ _ _ _ dX1_numberOfTooth_58 hW (congrArg nI (by rw [numK_2, c_50]; rfl)) (rfl)
  · skip
    refine lv_tableIn (tgt := 59) S.1 S.2.1 dX1_numberOfTooth_1 (by decide) (by decide) rfl (by decide) ?_
    refine lv_aload_n S.1 S.2.1 dX1_numberOfTooth_59 rfl (lv_at hl 0 rfl) ?_
    refine kx_get S hK hW hinX1 0 1 rfl rfl 3 (by decide) (List.mem_of_getElem? (i := 2) rfl) (v := .ref (a 4)) rfl dX1_numberOfTooth_60 ?_
    refine lv_iload_n S.1 S.2.1 dX1_numberOfTooth_63 rfl (lv_at hl 1 rfl) ?_
    refine kn_ald S hK hW 4 (f := τ 3) rfl (by omega) (by decide) dX1_numberOfTooth_64 ?_
    exact hret 65 _ _ _ _ _ dX1_numberOfTooth_65 hW (congrArg nI (numK_3 _ _).symm) (rfl)
  · skip
    refine lv_tableOut (tgt := 66) S.1 S.2.1 dX1_numberOfTooth_1 (by decide) (by decide) ?_
    refine lv_aload_n S.1 S.2.1 dX1_numberOfTooth_66 rfl (lv_at hl 0 rfl) ?_
    refine lv_aload_n S.1 S.2.1 dX1_numberOfTooth_67 rfl (lv_at hl 0 rfl) ?_
    refine kx_get S hK hW hinX1 0 1 rfl rfl 9 (by decide) (List.mem_of_getElem? (i := 3) rfl) (v := .int (nI (τ 9 0))) rfl dX1_numberOfTooth_68 ?_
    refine lv_iload_n S.1 S.2.1 dX1_numberOfTooth_71 rfl (lv_at hl 1 rfl) ?_
    refine k_VI (rest := []) S hK hl.1 hW (KFr.all hW hA) (mX1_widestGap l D c a τ _ (τ 9 0) j (by first | omega | exact ht | assumption | (show (τ 9 0) < 3; omega) | rfl) (by first | omega | exact hj | assumption | (show j < 12; omega) | rfl)) gX1_numberOfTooth_X1_widestGap rfl pdX1_widestGap ⟨⟨rfl, rfl⟩, Nat.le_of_ble_eq_true rfl, Nat.le_of_ble_eq_true rfl⟩ 0 1 rfl rfl rfl rfl (Nat.le_of_ble_eq_true rfl) dX1_numberOfTooth_72 ⟨Nat.le_of_ble_eq_true rfl, Nat.le_of_ble_eq_true rfl⟩ (fun H locs hW => ?_)
    have hW : kw D A s.heap (wS c a τ) H locs := hW
    exact hret 75 _ _ _ _ _ dX1_numberOfTooth_75 hW (congrArg nI (numK_4 _ _).symm) (rfl)
abbrev rmX1_numberOfState : Room := { frames := 3, cells := 0, slots := 0, locals := 67 }
theorem pdX1_numberOfState : kPd yX1_numberOfState 1 := by decide +kernel
set_option maxHeartbeats 400000 in
set_option maxRecDepth 100000 in
theorem mX1_numberOfState (l : Launch) (D : va_G) (c : Nat → ClassId) (a : Nat → Nat) (τ : Nat → Nat → Nat) (sz : Nat) (w : Nat) (T : Nat) (hw : w < 17) (ok : okS τ T) (hT : T < 500000000) : MI l yX1_numberOfState wsX1_numberOfState rmX1_numberOfState D c sz (wS c a τ) [.ref (a 0), .int (nI (w))] (nI (numN τ w)) (wS c a τ) := by
  refine MI.of (cc := cX1_numberOfState) (maxL := 2) (ty := .int) (by decide) rfl (Nat.le_of_ble_eq_true rfl) rfl ?_
  intro P e s m below meth cd A Q ls hsz S hK hW hA hl hret
  have hl : lv_has ls 2 [(0, .ref (a 0)), (1, .int (nI (w)))] := hl
  have hinX1 : ∀ w ∈ u_ws RX1 TX1 17, w ∈ wsX1_numberOfState := by decide +kernel
  refine lv_iload_n S.1 S.2.1 dX1_numberOfState_0 rfl (lv_at hl 1 rfl) ?_
  rcases (show w = 0 ∨ w = 1 ∨ w = 2 ∨ w = 3 ∨ w = 4 ∨ w = 5 ∨ w = 6 ∨ w = 7 ∨ w = 8 ∨ w = 9 ∨ w = 10 ∨ w = 11 ∨ w = 12 ∨ w = 13 ∨ w = 14 ∨ w = 15 ∨ w = 16 from by omega) with rfl | rfl | rfl | rfl | rfl | rfl | rfl | rfl | rfl | rfl | rfl | rfl | rfl | rfl | rfl | rfl | rfl
  · skip
    refine lv_tableIn (tgt := 64) S.1 S.2.1 dX1_numberOfState_1 (by decide) (by decide) rfl (by decide) ?_
    refine lv_aload_n S.1 S.2.1 dX1_numberOfState_64 rfl (lv_at hl 0 rfl) ?_
    refine kx_get S hK hW hinX1 0 1 rfl rfl 8 (by decide) (List.mem_of_getElem? (i := 1) rfl) (v := .int (nI (τ 8 0))) rfl dX1_numberOfState_65 ?_
    exact hret 68 _ _ _ _ _ dX1_numberOfState_68 hW (congrArg nI (numN_0 _).symm) (rfl)
  · skip
    refine lv_tableIn (tgt := 69) S.1 S.2.1 dX1_numberOfState_1 (by decide) (by decide) rfl (by decide) ?_
    refine lv_aload_n S.1 S.2.1 dX1_numberOfState_69 rfl (lv_at hl 0 rfl) ?_
    refine kx_get S hK hW hinX1 0 1 rfl rfl 9 (by decide) (List.mem_of_getElem? (i := 2) rfl) (v := .int (nI (τ 9 0))) rfl dX1_numberOfState_70 ?_
    exact hret 73 _ _ _ _ _ dX1_numberOfState_73 hW (congrArg nI (numN_1 _).symm) (rfl)
  · skip
    refine lv_tableIn (tgt := 74) S.1 S.2.1 dX1_numberOfState_1 (by decide) (by decide) rfl (by decide) ?_
    refine lv_aload_n S.1 S.2.1 dX1_numberOfState_74 rfl (lv_at hl 0 rfl) ?_
    refine kx_get S hK hW hinX1 0 1 rfl rfl 10 (by decide) (List.mem_of_getElem? (i := 3) rfl) (v := .int (nI (τ 10 0))) rfl dX1_numberOfState_75 ?_
    exact hret 78 _ _ _ _ _ dX1_numberOfState_78 hW (congrArg nI (numN_2 _).symm) (rfl)
  · skip
    refine lv_tableIn (tgt := 79) S.1 S.2.1 dX1_numberOfState_1 (by decide) (by decide) rfl (by decide) ?_
    refine lv_aload_n S.1 S.2.1 dX1_numberOfState_79 rfl (lv_at hl 0 rfl) ?_
    refine kx_get S hK hW hinX1 0 1 rfl rfl 11 (by decide) (List.mem_of_getElem? (i := 4) rfl) (v := .int (nI (τ 11 0))) rfl dX1_numberOfState_80 ?_
    exact hret 83 _ _ _ _ _ dX1_numberOfState_83 hW (congrArg nI (numN_3 _).symm) (rfl)
  · skip
    refine lv_tableIn (tgt := 84) S.1 S.2.1 dX1_numberOfState_1 (by decide) (by decide) rfl (by decide) ?_
    refine lv_aload_n S.1 S.2.1 dX1_numberOfState_84 rfl (lv_at hl 0 rfl) ?_
    refine kx_get S hK hW hinX1 0 1 rfl rfl 12 (by decide) (List.mem_of_getElem? (i := 5) rfl) (v := .int (nI (τ 12 0))) rfl dX1_numberOfState_85 ?_
    exact hret 88 _ _ _ _ _ dX1_numberOfState_88 hW (congrArg nI (numN_4 _).symm) (rfl)
  · skip
    refine lv_tableIn (tgt := 89) S.1 S.2.1 dX1_numberOfState_1 (by decide) (by decide) rfl (by decide) ?_
    refine lv_aload_n S.1 S.2.1 dX1_numberOfState_89 rfl (lv_at hl 0 rfl) ?_
    refine kx_get S hK hW hinX1 0 1 rfl rfl 13 (by decide) (List.mem_of_getElem? (i := 6) rfl) (v := .int (nI (τ 13 0))) rfl dX1_numberOfState_90 ?_
    exact hret 93 _ _ _ _ _ dX1_numberOfState_93 hW (congrArg nI (numN_5 _).symm) (rfl)
  · skip
    refine lv_tableIn (tgt := 94) S.1 S.2.1 dX1_numberOfState_1 (by decide) (by decide) rfl (by decide) ?_
    refine lv_aload_n S.1 S.2.1 dX1_numberOfState_94 rfl (lv_at hl 0 rfl) ?_
    refine kx_get S hK hW hinX1 0 1 rfl rfl 14 (by decide) (List.mem_of_getElem? (i := 7) rfl) (v := .int (nI (τ 14 0))) rfl dX1_numberOfState_95 ?_
    exact hret 98 _ _ _ _ _ dX1_numberOfState_98 hW (congrArg nI (numN_6 _).symm) (rfl)
  · skip
    refine lv_tableIn (tgt := 99) S.1 S.2.1 dX1_numberOfState_1 (by decide) (by decide) rfl (by decide) ?_
    refine lv_aload_n S.1 S.2.1 dX1_numberOfState_99 rfl (lv_at hl 0 rfl) ?_
    refine kx_get S hK hW hinX1 0 1 rfl rfl 15 (by decide) (List.mem_of_getElem? (i := 8) rfl) (v := .int (nI (τ 15 0))) rfl dX1_numberOfState_100 ?_
    exact hret 103 _ _ _ _ _ dX1_numberOfState_103 hW (congrArg nI (numN_7 _).symm) (rfl)
  · skip
    refine lv_tableIn (tgt := 104) S.1 S.2.1 dX1_numberOfState_1 (by decide) (by decide) rfl (by decide) ?_
    refine lv_aload_n S.1 S.2.1 dX1_numberOfState_104 rfl (lv_at hl 0 rfl) ?_
    refine k_VI (rest := []) S hK hl.1 hW (KFr.all hW hA) (mX1_teethRinging l D c a τ _ T ok (by first | omega | exact hT | assumption | (show T < 500000000; omega) | rfl)) gX1_numberOfState_X1_teethRinging rfl pdX1_teethRinging ⟨⟨rfl, rfl⟩, Nat.le_of_ble_eq_true rfl, Nat.le_of_ble_eq_true rfl⟩ 0 1 rfl rfl rfl rfl (Nat.le_of_ble_eq_true rfl) dX1_numberOfState_105 ⟨Nat.le_of_ble_eq_true rfl, Nat.le_of_ble_eq_true rfl⟩ (fun H locs hW => ?_)
    have hW : kw D A s.heap (wS c a τ) H locs := hW
    exact hret 108 _ _ _ _ _ dX1_numberOfState_108 hW (congrArg nI (numN_8 _).symm) (rfl)
  · skip
    refine lv_tableIn (tgt := 109) S.1 S.2.1 dX1_numberOfState_1 (by decide) (by decide) rfl (by decide) ?_
    refine lv_aload_n S.1 S.2.1 dX1_numberOfState_109 rfl (lv_at hl 0 rfl) ?_
    refine k_VI (rest := []) S hK hl.1 hW (KFr.all hW hA) (mX1_teethBroken l D c a τ _ T ok) gX1_numberOfState_X1_teethBroken rfl pdX1_teethBroken ⟨⟨rfl, rfl⟩, Nat.le_of_ble_eq_true rfl, Nat.le_of_ble_eq_true rfl⟩ 0 1 rfl rfl rfl rfl (Nat.le_of_ble_eq_true rfl) dX1_numberOfState_110 ⟨Nat.le_of_ble_eq_true rfl, Nat.le_of_ble_eq_true rfl⟩ (fun H locs hW => ?_)
    have hW : kw D A s.heap (wS c a τ) H locs := hW
    exact hret 113 _ _ _ _ _ dX1_numberOfState_113 hW (congrArg nI (numN_9 _).symm) (rfl)
  · skip
    refine lv_tableIn (tgt := 114) S.1 S.2.1 dX1_numberOfState_1 (by decide) (by decide) rfl (by decide) ?_
    refine lv_aload_n S.1 S.2.1 dX1_numberOfState_114 rfl (lv_at hl 0 rfl) ?_
    refine k_VI (rest := []) S hK hl.1 hW (KFr.all hW hA) (mX1_pinsOfAll l D c a τ _ T ok) gX1_numberOfState_X1_pinsOfAll rfl pdX1_pinsOfAll ⟨⟨rfl, rfl⟩, Nat.le_of_ble_eq_true rfl, Nat.le_of_ble_eq_true rfl⟩ 0 1 rfl rfl rfl rfl (Nat.le_of_ble_eq_true rfl) dX1_numberOfState_115 ⟨Nat.le_of_ble_eq_true rfl, Nat.le_of_ble_eq_true rfl⟩ (fun H locs hW => ?_)
    have hW : kw D A s.heap (wS c a τ) H locs := hW
    exact hret 118 _ _ _ _ _ dX1_numberOfState_118 hW (congrArg nI (numN_10 _).symm) (rfl)
  · skip
    refine lv_tableIn (tgt := 119) S.1 S.2.1 dX1_numberOfState_1 (by decide) (by decide) rfl (by decide) ?_
    refine lv_aload_n S.1 S.2.1 dX1_numberOfState_119 rfl (lv_at hl 0 rfl) ?_
    refine kx_get S hK hW hinX1 0 1 rfl rfl 16 (by decide) (List.mem_of_getElem? (i := 9) rfl) (v := .int (nI (τ 16 0))) rfl dX1_numberOfState_120 ?_
    exact hret 123 _ _ _ _ _ dX1_numberOfState_123 hW (congrArg nI (numN_11 _).symm) (rfl)
  · skip
    refine lv_tableOut (tgt := 124) S.1 S.2.1 dX1_numberOfState_1 (by decide) (by decide) ?_
    refine lv_aload_n S.1 S.2.1 dX1_numberOfState_124 rfl (lv_at hl 0 rfl) ?_
    refine kx_get S hK hW hinX1 0 1 rfl rfl 6 (by decide) (List.mem_of_getElem? (i := 10) rfl) (v := .ref (a 7)) rfl dX1_numberOfState_125 ?_
    refine lv_iload_n S.1 S.2.1 dX1_numberOfState_128 rfl (lv_at hl 1 rfl) ?_
    refine lv_bipush (v := nI (12)) S.1 S.2.1 dX1_numberOfState_129 rfl ?_
    refine kn_isub S dX1_numberOfState_131 (by omega) ?_
    refine lv_iconst (v := nI (5)) S.1 S.2.1 dX1_numberOfState_132 rfl ?_
    refine k_SI (rest := [.ref (a 7)]) S hK hl.1 hW (KFr.nil hW hA) (mJ9_floorMod_7cf53_k l D c  _ (12 - 12) 5 (by first | omega | exact hx | assumption | (show (12 - 12) < 2147483648; omega) | rfl) (by first | omega | exact h0 | assumption | (show 0 < 5; omega) | rfl) (by first | omega | exact hy | assumption | (show 5 < 2147483648; omega) | rfl)) gX1_numberOfState_J9_floorMod_7cf53 rfl pdJ9_floorMod_7cf53 ⟨⟨rfl, rfl⟩, Nat.le_of_ble_eq_true rfl, Nat.le_of_ble_eq_true rfl⟩ rfl (Nat.le_of_ble_eq_true rfl) dX1_numberOfState_133 ⟨Nat.le_of_ble_eq_true rfl, Nat.le_of_ble_eq_true rfl⟩ (fun H locs hW => ?_)
    have hW : kw D A s.heap (wS c a τ) H locs := hW
    refine kn_ald S hK hW 7 (f := τ 6) rfl (by omega) (by decide) dX1_numberOfState_136 ?_
    exact hret 137 _ _ _ _ _ dX1_numberOfState_137 hW (congrArg nI (by first | exact (numN_12 _).symm | exact (numN_13 _).symm | exact (numN_14 _).symm | exact (numN_15 _).symm | exact (numN_16 _).symm)) (rfl)
  · skip
    refine lv_tableOut (tgt := 124) S.1 S.2.1 dX1_numberOfState_1 (by decide) (by decide) ?_
    refine lv_aload_n S.1 S.2.1 dX1_numberOfState_124 rfl (lv_at hl 0 rfl) ?_
    refine kx_get S hK hW hinX1 0 1 rfl rfl 6 (by decide) (List.mem_of_getElem? (i := 10) rfl) (v := .ref (a 7)) rfl dX1_numberOfState_125 ?_
    refine lv_iload_n S.1 S.2.1 dX1_numberOfState_128 rfl (lv_at hl 1 rfl) ?_
    refine lv_bipush (v := nI (12)) S.1 S.2.1 dX1_numberOfState_129 rfl ?_
    refine kn_isub S dX1_numberOfState_131 (by omega) ?_
    refine lv_iconst (v := nI (5)) S.1 S.2.1 dX1_numberOfState_132 rfl ?_
    refine k_SI (rest := [.ref (a 7)]) S hK hl.1 hW (KFr.nil hW hA) (mJ9_floorMod_7cf53_k l D c  _ (13 - 12) 5 (by first | omega | exact hx | assumption | (show (13 - 12) < 2147483648; omega) | rfl) (by first | omega | exact h0 | assumption | (show 0 < 5; omega) | rfl) (by first | omega | exact hy | assumption | (show 5 < 2147483648; omega) | rfl)) gX1_numberOfState_J9_floorMod_7cf53 rfl pdJ9_floorMod_7cf53 ⟨⟨rfl, rfl⟩, Nat.le_of_ble_eq_true rfl, Nat.le_of_ble_eq_true rfl⟩ rfl (Nat.le_of_ble_eq_true rfl) dX1_numberOfState_133 ⟨Nat.le_of_ble_eq_true rfl, Nat.le_of_ble_eq_true rfl⟩ (fun H locs hW => ?_)
    have hW : kw D A s.heap (wS c a τ) H locs := hW
    refine kn_ald S hK hW 7 (f := τ 6) rfl (by omega) (by decide) dX1_numberOfState_136 ?_
    exact hret 137 _ _ _ _ _ dX1_numberOfState_137 hW (congrArg nI (by first | exact (numN_12 _).symm | exact (numN_13 _).symm | exact (numN_14 _).symm | exact (numN_15 _).symm | exact (numN_16 _).symm)) (rfl)
  · skip
    refine lv_tableOut (tgt := 124) S.1 S.2.1 dX1_numberOfState_1 (by decide) (by decide) ?_
    refine lv_aload_n S.1 S.2.1 dX1_numberOfState_124 rfl (lv_at hl 0 rfl) ?_
    refine kx_get S hK hW hinX1 0 1 rfl rfl 6 (by decide) (List.mem_of_getElem? (i := 10) rfl) (v := .ref (a 7)) rfl dX1_numberOfState_125 ?_
    refine lv_iload_n S.1 S.2.1 dX1_numberOfState_128 rfl (lv_at hl 1 rfl) ?_
    refine lv_bipush (v := nI (12)) S.1 S.2.1 dX1_numberOfState_129 rfl ?_
    refine kn_isub S dX1_numberOfState_131 (by omega) ?_
    refine lv_iconst (v := nI (5)) S.1 S.2.1 dX1_numberOfState_132 rfl ?_
    refine k_SI (rest := [.ref (a 7)]) S hK hl.1 hW (KFr.nil hW hA) (mJ9_floorMod_7cf53_k l D c  _ (14 - 12) 5 (by first | omega | exact hx | assumption | (show (14 - 12) < 2147483648; omega) | rfl) (by first | omega | exact h0 | assumption | (show 0 < 5; omega) | rfl) (by first | omega | exact hy | assumption | (show 5 < 2147483648; omega) | rfl)) gX1_numberOfState_J9_floorMod_7cf53 rfl pdJ9_floorMod_7cf53 ⟨⟨rfl, rfl⟩, Nat.le_of_ble_eq_true rfl, Nat.le_of_ble_eq_true rfl⟩ rfl (Nat.le_of_ble_eq_true rfl) dX1_numberOfState_133 ⟨Nat.le_of_ble_eq_true rfl, Nat.le_of_ble_eq_true rfl⟩ (fun H locs hW => ?_)
    have hW : kw D A s.heap (wS c a τ) H locs := hW
    refine kn_ald S hK hW 7 (f := τ 6) rfl (by omega) (by decide) dX1_numberOfState_136 ?_
    exact hret 137 _ _ _ _ _ dX1_numberOfState_137 hW (congrArg nI (by first | exact (numN_12 _).symm | exact (numN_13 _).symm | exact (numN_14 _).symm | exact (numN_15 _).symm | exact (numN_16 _).symm)) (rfl)
  · skip
    refine lv_tableOut (tgt := 124) S.1 S.2.1 dX1_numberOfState_1 (by decide) (by decide) ?_
    refine lv_aload_n S.1 S.2.1 dX1_numberOfState_124 rfl (lv_at hl 0 rfl) ?_
    refine kx_get S hK hW hinX1 0 1 rfl rfl 6 (by decide) (List.mem_of_getElem? (i := 10) rfl) (v := .ref (a 7)) rfl dX1_numberOfState_125 ?_
    refine lv_iload_n S.1 S.2.1 dX1_numberOfState_128 rfl (lv_at hl 1 rfl) ?_
    refine lv_bipush (v := nI (12)) S.1 S.2.1 dX1_numberOfState_129 rfl ?_
    refine kn_isub S dX1_numberOfState_131 (by omega) ?_
    refine lv_iconst (v := nI (5)) S.1 S.2.1 dX1_numberOfState_132 rfl ?_
    refine k_SI (rest := [.ref (a 7)]) S hK hl.1 hW (KFr.nil hW hA) (mJ9_floorMod_7cf53_k l D c  _ (15 - 12) 5 (by first | omega | exact hx | assumption | (show (15 - 12) < 2147483648; omega) | rfl) (by first | omega | exact h0 | assumption | (show 0 < 5; omega) | rfl) (by first | omega | exact hy | assumption | (show 5 < 2147483648; omega) | rfl)) gX1_numberOfState_J9_floorMod_7cf53 rfl pdJ9_floorMod_7cf53 ⟨⟨rfl, rfl⟩, Nat.le_of_ble_eq_true rfl, Nat.le_of_ble_eq_true rfl⟩ rfl (Nat.le_of_ble_eq_true rfl) dX1_numberOfState_133 ⟨Nat.le_of_ble_eq_true rfl, Nat.le_of_ble_eq_true rfl⟩ (fun H locs hW => ?_)
    have hW : kw D A s.heap (wS c a τ) H locs := hW
    refine kn_ald S hK hW 7 (f := τ 6) rfl (by omega) (by decide) dX1_numberOfState_136 ?_
    exact hret 137 _ _ _ _ _ dX1_numberOfState_137 hW (congrArg nI (by first | exact (numN_12 _).symm | exact (numN_13 _).symm | exact (numN_14 _).symm | exact (numN_15 _).symm | exact (numN_16 _).symm)) (rfl)
  · skip
    refine lv_tableOut (tgt := 124) S.1 S.2.1 dX1_numberOfState_1 (by decide) (by decide) ?_
    refine lv_aload_n S.1 S.2.1 dX1_numberOfState_124 rfl (lv_at hl 0 rfl) ?_
    refine kx_get S hK hW hinX1 0 1 rfl rfl 6 (by decide) (List.mem_of_getElem? (i := 10) rfl) (v := .ref (a 7)) rfl dX1_numberOfState_125 ?_
    refine lv_iload_n S.1 S.2.1 dX1_numberOfState_128 rfl (lv_at hl 1 rfl) ?_
    refine lv_bipush (v := nI (12)) S.1 S.2.1 dX1_numberOfState_129 rfl ?_
    refine kn_isub S dX1_numberOfState_131 (by omega) ?_
    refine lv_iconst (v := nI (5)) S.1 S.2.1 dX1_numberOfState_132 rfl ?_
    refine k_SI (rest := [.ref (a 7)]) S hK hl.1 hW (KFr.nil hW hA) (mJ9_floorMod_7cf53_k l D c  _ (16 - 12) 5 (by first | omega | exact hx | assumption | (show (16 - 12) < 2147483648; omega) | rfl) (by first | omega | exact h0 | assumption | (show 0 < 5; omega) | rfl) (by first | omega | exact hy | assumption | (show 5 < 2147483648; omega) | rfl)) gX1_numberOfState_J9_floorMod_7cf53 rfl pdJ9_floorMod_7cf53 ⟨⟨rfl, rfl⟩, Nat.le_of_ble_eq_true rfl, Nat.le_of_ble_eq_true rfl⟩ rfl (Nat.le_of_ble_eq_true rfl) dX1_numberOfState_133 ⟨Nat.le_of_ble_eq_true rfl, Nat.le_of_ble_eq_true rfl⟩ (fun H locs hW => ?_)
    have hW : kw D A s.heap (wS c a τ) H locs := hW
    refine kn_ald S hK hW 7 (f := τ 6) rfl (by omega) (by decide) dX1_numberOfState_136 ?_
    exact hret 137 _ _ _ _ _ dX1_numberOfState_137 hW (congrArg nI (by first | exact (numN_12 _).symm | exact (numN_13 _).symm | exact (numN_14 _).symm | exact (numN_15 _).symm | exact (numN_16 _).symm)) (rfl)
