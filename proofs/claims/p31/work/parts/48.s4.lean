abbrev rmX1_become : Room := { frames := 1, cells := 0, slots := 0, locals := 40 }
theorem pdX1_become : kPd yX1_become 1 := by decide +kernel
set_option maxHeartbeats 400000 in
set_option maxRecDepth 100000 in
theorem mX1_become (l : Launch) (D : va_G) (c : Nat → ClassId) (a b : Nat → Nat) (τ υ : Nat → Nat → Nat) (sz : Nat) : MV l yX1_become wsX1_become rmX1_become D c sz (wS c a τ ++ wS c b υ) [.ref (a 0), .ref (b 0)]  (wS c a υ ++ wS c b υ) := by
  refine MV.of (cc := cX1_become) (maxL := 2) (by decide) rfl (Nat.le_of_ble_eq_true rfl) ?_
  intro P e s m below meth cd A Q ls hsz S hK hW hA hl hret
  have hl : lv_has ls 2 [(0, .ref (a 0)), (1, .ref (b 0))] := hl
  have hinX1 : ∀ w ∈ u_ws RX1 TX1 17, w ∈ wsX1_become := by decide +kernel
  refine lv_aload_n S.1 S.2.1 dX1_become_0 rfl (lv_at hl 1 rfl) ?_
  refine kx_get S hK hW hinX1 8 1 rfl rfl 0 (by decide) (List.mem_of_getElem? (i := 1) rfl) (v := .ref (b 1)) rfl dX1_become_1 ?_
  refine lv_iconst (v := nI (0)) S.1 S.2.1 dX1_become_4 rfl ?_
  refine lv_aload_n S.1 S.2.1 dX1_become_5 rfl (lv_at hl 0 rfl) ?_
  refine kx_get S hK hW hinX1 0 1 rfl rfl 0 (by decide) (List.mem_of_getElem? (i := 1) rfl) (v := .ref (a 1)) rfl dX1_become_6 ?_
  refine lv_iconst (v := nI (0)) S.1 S.2.1 dX1_become_9 rfl ?_
  refine lv_bipush (v := nI (96)) S.1 S.2.1 dX1_become_10 rfl ?_
  refine kn_cpy S hl.1 hK hW 9 1 (f := υ 0) (g := τ 0) rfl rfl (by decide) (List.mem_of_getElem? (i := 2) rfl) (List.mem_of_getElem? (i := 3) rfl) (List.mem_of_getElem? (i := 4) rfl) (List.mem_of_getElem? (i := 5) rfl) ⟨Nat.le_of_ble_eq_true rfl, Nat.le_of_ble_eq_true rfl⟩ dX1_become_12 (fun H locs hW => ?_)
  have hW : kw D A s.heap (wS c a (pu τ 0 (υ 0)) ++ wS c b υ) H locs := hW
  refine lv_aload_n S.1 S.2.1 dX1_become_15 rfl (lv_at hl 1 rfl) ?_
  refine kx_get S hK hW hinX1 8 1 rfl rfl 1 (by decide) (List.mem_of_getElem? (i := 6) rfl) (v := .ref (b 2)) rfl dX1_become_16 ?_
  refine lv_iconst (v := nI (0)) S.1 S.2.1 dX1_become_19 rfl ?_
  refine lv_aload_n S.1 S.2.1 dX1_become_20 rfl (lv_at hl 0 rfl) ?_
  refine kx_get S hK hW hinX1 0 1 rfl rfl 1 (by decide) (List.mem_of_getElem? (i := 6) rfl) (v := .ref (a 2)) rfl dX1_become_21 ?_
  refine lv_iconst (v := nI (0)) S.1 S.2.1 dX1_become_24 rfl ?_
  refine lv_bipush (v := nI (12)) S.1 S.2.1 dX1_become_25 rfl ?_
  refine kn_cpy S hl.1 hK hW 10 2 (f := υ 1) (g := τ 1) rfl rfl (by decide) (List.mem_of_getElem? (i := 2) rfl) (List.mem_of_getElem? (i := 3) rfl) (List.mem_of_getElem? (i := 4) rfl) (List.mem_of_getElem? (i := 5) rfl) ⟨Nat.le_of_ble_eq_true rfl, Nat.le_of_ble_eq_true rfl⟩ dX1_become_27 (fun H locs hW => ?_)
  have hW : kw D A s.heap (wS c a (pu (pu τ 0 (υ 0)) 1 (υ 1)) ++ wS c b υ) H locs := hW
  refine lv_aload_n S.1 S.2.1 dX1_become_30 rfl (lv_at hl 1 rfl) ?_
  refine kx_get S hK hW hinX1 8 1 rfl rfl 2 (by decide) (List.mem_of_getElem? (i := 7) rfl) (v := .ref (b 3)) rfl dX1_become_31 ?_
  refine lv_iconst (v := nI (0)) S.1 S.2.1 dX1_become_34 rfl ?_
  refine lv_aload_n S.1 S.2.1 dX1_become_35 rfl (lv_at hl 0 rfl) ?_
  refine kx_get S hK hW hinX1 0 1 rfl rfl 2 (by decide) (List.mem_of_getElem? (i := 7) rfl) (v := .ref (a 3)) rfl dX1_become_36 ?_
  refine lv_iconst (v := nI (0)) S.1 S.2.1 dX1_become_39 rfl ?_
  refine lv_bipush (v := nI (12)) S.1 S.2.1 dX1_become_40 rfl ?_
  refine kn_cpy S hl.1 hK hW 11 3 (f := υ 2) (g := τ 2) rfl rfl (by decide) (List.mem_of_getElem? (i := 2) rfl) (List.mem_of_getElem? (i := 3) rfl) (List.mem_of_getElem? (i := 4) rfl) (List.mem_of_getElem? (i := 5) rfl) ⟨Nat.le_of_ble_eq_true rfl, Nat.le_of_ble_eq_true rfl⟩ dX1_become_42 (fun H locs hW => ?_)
  have hW : kw D A s.heap (wS c a (pu (pu (pu τ 0 (υ 0)) 1 (υ 1)) 2 (υ 2)) ++ wS c b υ) H locs := hW
  refine lv_aload_n S.1 S.2.1 dX1_become_45 rfl (lv_at hl 1 rfl) ?_
  refine kx_get S hK hW hinX1 8 1 rfl rfl 3 (by decide) (List.mem_of_getElem? (i := 8) rfl) (v := .ref (b 4)) rfl dX1_become_46 ?_
  refine lv_iconst (v := nI (0)) S.1 S.2.1 dX1_become_49 rfl ?_
  refine lv_aload_n S.1 S.2.1 dX1_become_50 rfl (lv_at hl 0 rfl) ?_
  refine kx_get S hK hW hinX1 0 1 rfl rfl 3 (by decide) (List.mem_of_getElem? (i := 8) rfl) (v := .ref (a 4)) rfl dX1_become_51 ?_
  refine lv_iconst (v := nI (0)) S.1 S.2.1 dX1_become_54 rfl ?_
  refine lv_bipush (v := nI (12)) S.1 S.2.1 dX1_become_55 rfl ?_
  refine kn_cpy S hl.1 hK hW 12 4 (f := υ 3) (g := τ 3) rfl rfl (by decide) (List.mem_of_getElem? (i := 2) rfl) (List.mem_of_getElem? (i := 3) rfl) (List.mem_of_getElem? (i := 4) rfl) (List.mem_of_getElem? (i := 5) rfl) ⟨Nat.le_of_ble_eq_true rfl, Nat.le_of_ble_eq_true rfl⟩ dX1_become_57 (fun H locs hW => ?_)
  have hW : kw D A s.heap (wS c a (pu (pu (pu (pu τ 0 (υ 0)) 1 (υ 1)) 2 (υ 2)) 3 (υ 3)) ++ wS c b υ) H locs := hW
  refine lv_aload_n S.1 S.2.1 dX1_become_60 rfl (lv_at hl 1 rfl) ?_
  refine kx_get S hK hW hinX1 8 1 rfl rfl 4 (by decide) (List.mem_of_getElem? (i := 9) rfl) (v := .ref (b 5)) rfl dX1_become_61 ?_
  refine lv_iconst (v := nI (0)) S.1 S.2.1 dX1_become_64 rfl ?_
  refine lv_aload_n S.1 S.2.1 dX1_become_65 rfl (lv_at hl 0 rfl) ?_
  refine kx_get S hK hW hinX1 0 1 rfl rfl 4 (by decide) (List.mem_of_getElem? (i := 9) rfl) (v := .ref (a 5)) rfl dX1_become_66 ?_
  refine lv_iconst (v := nI (0)) S.1 S.2.1 dX1_become_69 rfl ?_
  refine lv_bipush (v := nI (24)) S.1 S.2.1 dX1_become_70 rfl ?_
  refine kn_cpy S hl.1 hK hW 13 5 (f := υ 4) (g := τ 4) rfl rfl (by decide) (List.mem_of_getElem? (i := 2) rfl) (List.mem_of_getElem? (i := 3) rfl) (List.mem_of_getElem? (i := 4) rfl) (List.mem_of_getElem? (i := 5) rfl) ⟨Nat.le_of_ble_eq_true rfl, Nat.le_of_ble_eq_true rfl⟩ dX1_become_72 (fun H locs hW => ?_)
  have hW : kw D A s.heap (wS c a (pu (pu (pu (pu (pu τ 0 (υ 0)) 1 (υ 1)) 2 (υ 2)) 3 (υ 3)) 4 (υ 4)) ++ wS c b υ) H locs := hW
  refine lv_aload_n S.1 S.2.1 dX1_become_75 rfl (lv_at hl 1 rfl) ?_
  refine kx_get S hK hW hinX1 8 1 rfl rfl 5 (by decide) (List.mem_of_getElem? (i := 10) rfl) (v := .ref (b 6)) rfl dX1_become_76 ?_
  refine lv_iconst (v := nI (0)) S.1 S.2.1 dX1_become_79 rfl ?_
  refine lv_aload_n S.1 S.2.1 dX1_become_80 rfl (lv_at hl 0 rfl) ?_
  refine kx_get S hK hW hinX1 0 1 rfl rfl 5 (by decide) (List.mem_of_getElem? (i := 10) rfl) (v := .ref (a 6)) rfl dX1_become_81 ?_
  refine lv_iconst (v := nI (0)) S.1 S.2.1 dX1_become_84 rfl ?_
  refine lv_bipush (v := nI (24)) S.1 S.2.1 dX1_become_85 rfl ?_
  refine kn_cpy S hl.1 hK hW 14 6 (f := υ 5) (g := τ 5) rfl rfl (by decide) (List.mem_of_getElem? (i := 2) rfl) (List.mem_of_getElem? (i := 3) rfl) (List.mem_of_getElem? (i := 4) rfl) (List.mem_of_getElem? (i := 5) rfl) ⟨Nat.le_of_ble_eq_true rfl, Nat.le_of_ble_eq_true rfl⟩ dX1_become_87 (fun H locs hW => ?_)
  have hW : kw D A s.heap (wS c a (pu (pu (pu (pu (pu (pu τ 0 (υ 0)) 1 (υ 1)) 2 (υ 2)) 3 (υ 3)) 4 (υ 4)) 5 (υ 5)) ++ wS c b υ) H locs := hW
  refine lv_aload_n S.1 S.2.1 dX1_become_90 rfl (lv_at hl 1 rfl) ?_
  refine kx_get S hK hW hinX1 8 1 rfl rfl 6 (by decide) (List.mem_of_getElem? (i := 11) rfl) (v := .ref (b 7)) rfl dX1_become_91 ?_
  refine lv_iconst (v := nI (0)) S.1 S.2.1 dX1_become_94 rfl ?_
  refine lv_aload_n S.1 S.2.1 dX1_become_95 rfl (lv_at hl 0 rfl) ?_
  refine kx_get S hK hW hinX1 0 1 rfl rfl 6 (by decide) (List.mem_of_getElem? (i := 11) rfl) (v := .ref (a 7)) rfl dX1_become_96 ?_
  refine lv_iconst (v := nI (0)) S.1 S.2.1 dX1_become_99 rfl ?_
  refine lv_iconst (v := nI (5)) S.1 S.2.1 dX1_become_100 rfl ?_
  refine kn_cpy S hl.1 hK hW 15 7 (f := υ 6) (g := τ 6) rfl rfl (by decide) (List.mem_of_getElem? (i := 2) rfl) (List.mem_of_getElem? (i := 3) rfl) (List.mem_of_getElem? (i := 4) rfl) (List.mem_of_getElem? (i := 5) rfl) ⟨Nat.le_of_ble_eq_true rfl, Nat.le_of_ble_eq_true rfl⟩ dX1_become_101 (fun H locs hW => ?_)
  have hW : kw D A s.heap (wS c a (pu (pu (pu (pu (pu (pu (pu τ 0 (υ 0)) 1 (υ 1)) 2 (υ 2)) 3 (υ 3)) 4 (υ 4)) 5 (υ 5)) 6 (υ 6)) ++ wS c b υ) H locs := hW
  refine lv_aload_n S.1 S.2.1 dX1_become_104 rfl (lv_at hl 0 rfl) ?_
  refine lv_aload_n S.1 S.2.1 dX1_become_105 rfl (lv_at hl 1 rfl) ?_
  refine kx_get S hK hW hinX1 8 1 rfl rfl 7 (by decide) (List.mem_of_getElem? (i := 12) rfl) (v := .int (nI (υ 7 0))) rfl dX1_become_106 ?_
  refine kx_put S hK hW hinX1 tyX1_ok nmX1 0 1 rfl rfl 7 (by decide) (List.mem_of_getElem? (i := 12) rfl) rfl (v := .int (nI (υ 7 0))) rfl rfl (Nat.le_of_ble_eq_true rfl) dX1_become_109 (fun H locs hW => ?_)
  have hW : kw D A s.heap (wS c a (pu (pu (pu (pu (pu (pu (pu (pu τ 0 (υ 0)) 1 (υ 1)) 2 (υ 2)) 3 (υ 3)) 4 (υ 4)) 5 (υ 5)) 6 (υ 6)) 7 (kc (υ 7 0))) ++ wS c b υ) H locs := hW
  refine lv_aload_n S.1 S.2.1 dX1_become_112 rfl (lv_at hl 0 rfl) ?_
  refine lv_aload_n S.1 S.2.1 dX1_become_113 rfl (lv_at hl 1 rfl) ?_
  refine kx_get S hK hW hinX1 8 1 rfl rfl 8 (by decide) (List.mem_of_getElem? (i := 13) rfl) (v := .int (nI (υ 8 0))) rfl dX1_become_114 ?_
  refine kx_put S hK hW hinX1 tyX1_ok nmX1 0 1 rfl rfl 8 (by decide) (List.mem_of_getElem? (i := 13) rfl) rfl (v := .int (nI (υ 8 0))) rfl rfl (Nat.le_of_ble_eq_true rfl) dX1_become_117 (fun H locs hW => ?_)
  have hW : kw D A s.heap (wS c a (pu (pu (pu (pu (pu (pu (pu (pu (pu τ 0 (υ 0)) 1 (υ 1)) 2 (υ 2)) 3 (υ 3)) 4 (υ 4)) 5 (υ 5)) 6 (υ 6)) 7 (kc (υ 7 0))) 8 (kc (υ 8 0))) ++ wS c b υ) H locs := hW
  refine lv_aload_n S.1 S.2.1 dX1_become_120 rfl (lv_at hl 0 rfl) ?_
  refine lv_aload_n S.1 S.2.1 dX1_become_121 rfl (lv_at hl 1 rfl) ?_
  refine kx_get S hK hW hinX1 8 1 rfl rfl 9 (by decide) (List.mem_of_getElem? (i := 14) rfl) (v := .int (nI (υ 9 0))) rfl dX1_become_122 ?_
  refine kx_put S hK hW hinX1 tyX1_ok nmX1 0 1 rfl rfl 9 (by decide) (List.mem_of_getElem? (i := 14) rfl) rfl (v := .int (nI (υ 9 0))) rfl rfl (Nat.le_of_ble_eq_true rfl) dX1_become_125 (fun H locs hW => ?_)
  have hW : kw D A s.heap (wS c a (pu (pu (pu (pu (pu (pu (pu (pu (pu (pu τ 0 (υ 0)) 1 (υ 1)) 2 (υ 2)) 3 (υ 3)) 4 (υ 4)) 5 (υ 5)) 6 (υ 6)) 7 (kc (υ 7 0))) 8 (kc (υ 8 0))) 9 (kc (υ 9 0))) ++ wS c b υ) H locs := hW
  refine lv_aload_n S.1 S.2.1 dX1_become_128 rfl (lv_at hl 0 rfl) ?_
  refine lv_aload_n S.1 S.2.1 dX1_become_129 rfl (lv_at hl 1 rfl) ?_
  refine kx_get S hK hW hinX1 8 1 rfl rfl 10 (by decide) (List.mem_of_getElem? (i := 15) rfl) (v := .int (nI (υ 10 0))) rfl dX1_become_130 ?_
  refine kx_put S hK hW hinX1 tyX1_ok nmX1 0 1 rfl rfl 10 (by decide) (List.mem_of_getElem? (i := 15) rfl) rfl (v := .int (nI (υ 10 0))) rfl rfl (Nat.le_of_ble_eq_true rfl) dX1_become_133 (fun H locs hW => ?_)
  have hW : kw D A s.heap (wS c a (pu (pu (pu (pu (pu (pu (pu (pu (pu (pu (pu τ 0 (υ 0)) 1 (υ 1)) 2 (υ 2)) 3 (υ 3)) 4 (υ 4)) 5 (υ 5)) 6 (υ 6)) 7 (kc (υ 7 0))) 8 (kc (υ 8 0))) 9 (kc (υ 9 0))) 10 (kc (υ 10 0))) ++ wS c b υ) H locs := hW
  refine lv_aload_n S.1 S.2.1 dX1_become_136 rfl (lv_at hl 0 rfl) ?_
  refine lv_aload_n S.1 S.2.1 dX1_become_137 rfl (lv_at hl 1 rfl) ?_
  refine kx_get S hK hW hinX1 8 1 rfl rfl 11 (by decide) (List.mem_of_getElem? (i := 16) rfl) (v := .int (nI (υ 11 0))) rfl dX1_become_138 ?_
  refine kx_put S hK hW hinX1 tyX1_ok nmX1 0 1 rfl rfl 11 (by decide) (List.mem_of_getElem? (i := 16) rfl) rfl (v := .int (nI (υ 11 0))) rfl rfl (Nat.le_of_ble_eq_true rfl) dX1_become_141 (fun H locs hW => ?_)
  have hW : kw D A s.heap (wS c a (pu (pu (pu (pu (pu (pu (pu (pu (pu (pu (pu (pu τ 0 (υ 0)) 1 (υ 1)) 2 (υ 2)) 3 (υ 3)) 4 (υ 4)) 5 (υ 5)) 6 (υ 6)) 7 (kc (υ 7 0))) 8 (kc (υ 8 0))) 9 (kc (υ 9 0))) 10 (kc (υ 10 0))) 11 (kc (υ 11 0))) ++ wS c b υ) H locs := hW
  refine lv_aload_n S.1 S.2.1 dX1_become_144 rfl (lv_at hl 0 rfl) ?_
  refine lv_aload_n S.1 S.2.1 dX1_become_145 rfl (lv_at hl 1 rfl) ?_
  refine kx_get S hK hW hinX1 8 1 rfl rfl 12 (by decide) (List.mem_of_getElem? (i := 17) rfl) (v := .int (nI (υ 12 0))) rfl dX1_become_146 ?_
  refine kx_put S hK hW hinX1 tyX1_ok nmX1 0 1 rfl rfl 12 (by decide) (List.mem_of_getElem? (i := 17) rfl) rfl (v := .int (nI (υ 12 0))) rfl rfl (Nat.le_of_ble_eq_true rfl) dX1_become_149 (fun H locs hW => ?_)
  have hW : kw D A s.heap (wS c a (pu (pu (pu (pu (pu (pu (pu (pu (pu (pu (pu (pu (pu τ 0 (υ 0)) 1 (υ 1)) 2 (υ 2)) 3 (υ 3)) 4 (υ 4)) 5 (υ 5)) 6 (υ 6)) 7 (kc (υ 7 0))) 8 (kc (υ 8 0))) 9 (kc (υ 9 0))) 10 (kc (υ 10 0))) 11 (kc (υ 11 0))) 12 (kc (υ 12 0))) ++ wS c b υ) H locs := hW
  refine lv_aload_n S.1 S.2.1 dX1_become_152 rfl (lv_at hl 0 rfl) ?_
  refine lv_aload_n S.1 S.2.1 dX1_become_153 rfl (lv_at hl 1 rfl) ?_
  refine kx_get S hK hW hinX1 8 1 rfl rfl 13 (by decide) (List.mem_of_getElem? (i := 18) rfl) (v := .int (nI (υ 13 0))) rfl dX1_become_154 ?_
  refine kx_put S hK hW hinX1 tyX1_ok nmX1 0 1 rfl rfl 13 (by decide) (List.mem_of_getElem? (i := 18) rfl) rfl (v := .int (nI (υ 13 0))) rfl rfl (Nat.le_of_ble_eq_true rfl) dX1_become_157 (fun H locs hW => ?_)
  have hW : kw D A s.heap (wS c a (pu (pu (pu (pu (pu (pu (pu (pu (pu (pu (pu (pu (pu (pu τ 0 (υ 0)) 1 (υ 1)) 2 (υ 2)) 3 (υ 3)) 4 (υ 4)) 5 (υ 5)) 6 (υ 6)) 7 (kc (υ 7 0))) 8 (kc (υ 8 0))) 9 (kc (υ 9 0))) 10 (kc (υ 10 0))) 11 (kc (υ 11 0))) 12 (kc (υ 12 0))) 13 (kc (υ 13 0))) ++ wS c b υ) H locs := hW
  refine lv_aload_n S.1 S.2.1 dX1_become_160 rfl (lv_at hl 0 rfl) ?_
  refine lv_aload_n S.1 S.2.1 dX1_become_161 rfl (lv_at hl 1 rfl) ?_
  refine kx_get S hK hW hinX1 8 1 rfl rfl 14 (by decide) (List.mem_of_getElem? (i := 19) rfl) (v := .int (nI (υ 14 0))) rfl dX1_become_162 ?_
  refine kx_put S hK hW hinX1 tyX1_ok nmX1 0 1 rfl rfl 14 (by decide) (List.mem_of_getElem? (i := 19) rfl) rfl (v := .int (nI (υ 14 0))) rfl rfl (Nat.le_of_ble_eq_true rfl) dX1_become_165 (fun H locs hW => ?_)
  have hW : kw D A s.heap (wS c a (pu (pu (pu (pu (pu (pu (pu (pu (pu (pu (pu (pu (pu (pu (pu τ 0 (υ 0)) 1 (υ 1)) 2 (υ 2)) 3 (υ 3)) 4 (υ 4)) 5 (υ 5)) 6 (υ 6)) 7 (kc (υ 7 0))) 8 (kc (υ 8 0))) 9 (kc (υ 9 0))) 10 (kc (υ 10 0))) 11 (kc (υ 11 0))) 12 (kc (υ 12 0))) 13 (kc (υ 13 0))) 14 (kc (υ 14 0))) ++ wS c b υ) H locs := hW
  refine lv_aload_n S.1 S.2.1 dX1_become_168 rfl (lv_at hl 0 rfl) ?_
  refine lv_aload_n S.1 S.2.1 dX1_become_169 rfl (lv_at hl 1 rfl) ?_
  refine kx_get S hK hW hinX1 8 1 rfl rfl 15 (by decide) (List.mem_of_getElem? (i := 20) rfl) (v := .int (nI (υ 15 0))) rfl dX1_become_170 ?_
  refine kx_put S hK hW hinX1 tyX1_ok nmX1 0 1 rfl rfl 15 (by decide) (List.mem_of_getElem? (i := 20) rfl) rfl (v := .int (nI (υ 15 0))) rfl rfl (Nat.le_of_ble_eq_true rfl) dX1_become_173 (fun H locs hW => ?_)
  have hW : kw D A s.heap (wS c a (pu (pu (pu (pu (pu (pu (pu (pu (pu (pu (pu (pu (pu (pu (pu (pu τ 0 (υ 0)) 1 (υ 1)) 2 (υ 2)) 3 (υ 3)) 4 (υ 4)) 5 (υ 5)) 6 (υ 6)) 7 (kc (υ 7 0))) 8 (kc (υ 8 0))) 9 (kc (υ 9 0))) 10 (kc (υ 10 0))) 11 (kc (υ 11 0))) 12 (kc (υ 12 0))) 13 (kc (υ 13 0))) 14 (kc (υ 14 0))) 15 (kc (υ 15 0))) ++ wS c b υ) H locs := hW
  refine lv_aload_n S.1 S.2.1 dX1_become_176 rfl (lv_at hl 0 rfl) ?_
  refine lv_aload_n S.1 S.2.1 dX1_become_177 rfl (lv_at hl 1 rfl) ?_
  refine kx_get S hK hW hinX1 8 1 rfl rfl 16 (by decide) (List.mem_of_getElem? (i := 21) rfl) (v := .int (nI (υ 16 0))) rfl dX1_become_178 ?_
  refine kx_put S hK hW hinX1 tyX1_ok nmX1 0 1 rfl rfl 16 (by decide) (List.mem_of_getElem? (i := 21) rfl) rfl (v := .int (nI (υ 16 0))) rfl rfl (Nat.le_of_ble_eq_true rfl) dX1_become_181 (fun H locs hW => ?_)
  have hW : kw D A s.heap (wS c a (pu (pu (pu (pu (pu (pu (pu (pu (pu (pu (pu (pu (pu (pu (pu (pu (pu τ 0 (υ 0)) 1 (υ 1)) 2 (υ 2)) 3 (υ 3)) 4 (υ 4)) 5 (υ 5)) 6 (υ 6)) 7 (kc (υ 7 0))) 8 (kc (υ 8 0))) 9 (kc (υ 9 0))) 10 (kc (υ 10 0))) 11 (kc (υ 11 0))) 12 (kc (υ 12 0))) 13 (kc (υ 13 0))) 14 (kc (υ 14 0))) 15 (kc (υ 15 0))) 16 (kc (υ 16 0))) ++ wS c b υ) H locs := hW
  exact hret 184 _ _ _ _ dX1_become_184 hW (rfl)
