abbrev rmX2_init : Room := { frames := 2, cells := 75, slots := 1889, locals := 40 }
theorem pdX2_init : kPd yX2_init 0 := by decide +kernel
set_option maxHeartbeats 4000000 in
set_option maxRecDepth 100000 in
theorem iX2_init (l : Launch) (D : va_G) (c : Nat → ClassId) (h : Nat) (sz : Nat) : MC l yX2_init wsX2_init rmX2_init D c sz [(h, .inr (2, [.null, .null, .null, .int (nI (0)), .null, .int (nI (0)), .int (nI (0)), .null, .int (nI (0)), .null]))] [.ref h] (nC) (fun w => ∃ (a : Nat → Nat) (b : Nat → Nat → Nat), a 0 = h ∧ w = wP c a b (fun _ => iS) (fun _ => kc 0) (fun _ => kc 0)) 75 1889 := by
  refine MC.of (cc := cX2_init) (maxL := 2) (by decide) rfl rfl (Nat.le_of_ble_eq_true rfl) ?_
  intro P e s m below meth cd A Q ls hsz S hK hpre hin2 hW hA hl hret
  have hl : lv_has ls 2 [(0, .ref h)] := hl
  have hinX0 : ∀ w ∈ u_ws RX0 TX0 5, w ∈ wsX2_init := by decide +kernel
  have hinX1 : ∀ w ∈ u_ws RX1 TX1 17, w ∈ wsX2_init := by decide +kernel
  have hinX2 : ∀ w ∈ u_ws RX2 TX2 10, w ∈ wsX2_init := by decide +kernel
  refine lv_aload_n S.1 S.2.1 dX2_init_0 rfl (lv_at hl 0 rfl) ?_
  refine k_objI S hl.1 (List.mem_of_getElem? (i := 1) rfl) (List.mem_of_getElem? (i := 2) rfl) (List.mem_of_getElem? (i := 3) rfl) dX2_init_1 ⟨by decide, by decide⟩ ?_
  refine lv_aload_n S.1 S.2.1 dX2_init_4 rfl (lv_at hl 0 rfl) ?_
  refine kx_new (ci := 1) S hK hW hA hinX1 tyX1_ok (List.mem_of_getElem? (i := 4) rfl) (List.mem_of_getElem? (i := 5) rfl) (List.mem_of_getElem? (i := 6) rfl) rfl dfX1 (Nat.le_of_ble_eq_true rfl) (Nat.le_of_ble_eq_true rfl) dX2_init_5 (fun q0 H hW => ?_)
  refine lv_dup S.1 S.2.1 dX2_init_8 rfl ?_
  refine k_ICN (host := RX2) (wl := [(h, .inr (2, [.null, .null, .null, .int (nI (0)), .null, .int (nI (0)), .int (nI (0)), .null, .int (nI (0)), .null]))]) S hK hl.1 hW (fun w1 => KFr.rgt hW hA) (iX1_init l D c q0 _) (fun _ _ _ _ h => h) (fun _ _ => trivial) gX2_init_X1_init_n11 rfl rfl hpre.1 (List.mem_of_getElem? (i := 6) rfl) (List.mem_of_getElem? (i := 21) rfl) pdX1_init ⟨⟨rfl, rfl⟩, (Nat.le_of_ble_eq_true rfl), (Nat.le_of_ble_eq_true rfl)⟩ (Nat.le_of_ble_eq_true rfl) dX2_init_9 ⟨(Nat.le_of_ble_eq_true rfl), (Nat.le_of_ble_eq_true rfl)⟩ (fun w H locs hw hW => ?_)
  obtain ⟨a0, rfl, rfl⟩ := hw
  have hW : kw D A s.heap ([(h, .inr (2, [.null, .null, .null, .int (nI (0)), .null, .int (nI (0)), .int (nI (0)), .null, .int (nI (0)), .null]))] ++ wS c a0 iS) H _ := hW
  refine kx_putF S hK hW hin2 hinX2 tyX2_ok nmX2 0 2 rfl rfl 0 (by decide) (List.mem_of_getElem? (i := 7) rfl) rfl rfl (v := .ref (a0 0)) rfl rfl (Nat.le_of_ble_eq_true rfl) dX2_init_12 (fun H locs hW => ?_)
  have hW : kw D A s.heap ([(h, .inr (2, [.ref (a0 0), .null, .null, .int (nI (0)), .null, .int (nI (0)), .int (nI (0)), .null, .int (nI (0)), .null]))] ++ wS c a0 iS) H _ := hW
  refine lv_aload_n S.1 S.2.1 dX2_init_15 rfl (lv_at hl 0 rfl) ?_
  refine kx_new (ci := 1) S hK hW hA hinX1 tyX1_ok (List.mem_of_getElem? (i := 4) rfl) (List.mem_of_getElem? (i := 5) rfl) (List.mem_of_getElem? (i := 6) rfl) rfl dfX1 (Nat.le_of_ble_eq_true rfl) (Nat.le_of_ble_eq_true rfl) dX2_init_16 (fun q1 H hW => ?_)
  refine lv_dup S.1 S.2.1 dX2_init_19 rfl ?_
  refine k_ICN (host := RX2) (wl := ([(h, .inr (2, [.ref (a0 0), .null, .null, .int (nI (0)), .null, .int (nI (0)), .int (nI (0)), .null, .int (nI (0)), .null]))] ++ wS c a0 iS)) S hK hl.1 hW (fun w1 => KFr.rgt hW hA) (iX1_init l D c q1 _) (fun _ _ _ _ h => h) (fun _ _ => trivial) gX2_init_X1_init_n11 rfl rfl hpre.1 (List.mem_of_getElem? (i := 6) rfl) (List.mem_of_getElem? (i := 21) rfl) pdX1_init ⟨⟨rfl, rfl⟩, (Nat.le_of_ble_eq_true rfl), (Nat.le_of_ble_eq_true rfl)⟩ (Nat.le_of_ble_eq_true rfl) dX2_init_20 ⟨(Nat.le_of_ble_eq_true rfl), (Nat.le_of_ble_eq_true rfl)⟩ (fun w H locs hw hW => ?_)
  obtain ⟨a1, rfl, rfl⟩ := hw
  have hW : kw D A s.heap (([(h, .inr (2, [.ref (a0 0), .null, .null, .int (nI (0)), .null, .int (nI (0)), .int (nI (0)), .null, .int (nI (0)), .null]))] ++ wS c a0 iS) ++ wS c a1 iS) H _ := hW
  refine kx_putF S hK hW hin2 hinX2 tyX2_ok nmX2 0 2 rfl rfl 1 (by decide) (List.mem_of_getElem? (i := 8) rfl) rfl rfl (v := .ref (a1 0)) rfl rfl (Nat.le_of_ble_eq_true rfl) dX2_init_23 (fun H locs hW => ?_)
  have hW : kw D A s.heap (([(h, .inr (2, [.ref (a0 0), .ref (a1 0), .null, .int (nI (0)), .null, .int (nI (0)), .int (nI (0)), .null, .int (nI (0)), .null]))] ++ wS c a0 iS) ++ wS c a1 iS) H _ := hW
  refine lv_aload_n S.1 S.2.1 dX2_init_26 rfl (lv_at hl 0 rfl) ?_
  refine kx_new (ci := 1) S hK hW hA hinX1 tyX1_ok (List.mem_of_getElem? (i := 4) rfl) (List.mem_of_getElem? (i := 5) rfl) (List.mem_of_getElem? (i := 6) rfl) rfl dfX1 (Nat.le_of_ble_eq_true rfl) (Nat.le_of_ble_eq_true rfl) dX2_init_27 (fun q2 H hW => ?_)
  refine lv_dup S.1 S.2.1 dX2_init_30 rfl ?_
  refine k_ICN (host := RX2) (wl := (([(h, .inr (2, [.ref (a0 0), .ref (a1 0), .null, .int (nI (0)), .null, .int (nI (0)), .int (nI (0)), .null, .int (nI (0)), .null]))] ++ wS c a0 iS) ++ wS c a1 iS)) S hK hl.1 hW (fun w1 => KFr.rgt hW hA) (iX1_init l D c q2 _) (fun _ _ _ _ h => h) (fun _ _ => trivial) gX2_init_X1_init_n11 rfl rfl hpre.1 (List.mem_of_getElem? (i := 6) rfl) (List.mem_of_getElem? (i := 21) rfl) pdX1_init ⟨⟨rfl, rfl⟩, (Nat.le_of_ble_eq_true rfl), (Nat.le_of_ble_eq_true rfl)⟩ (Nat.le_of_ble_eq_true rfl) dX2_init_31 ⟨(Nat.le_of_ble_eq_true rfl), (Nat.le_of_ble_eq_true rfl)⟩ (fun w H locs hw hW => ?_)
  obtain ⟨a2, rfl, rfl⟩ := hw
  have hW : kw D A s.heap ((([(h, .inr (2, [.ref (a0 0), .ref (a1 0), .null, .int (nI (0)), .null, .int (nI (0)), .int (nI (0)), .null, .int (nI (0)), .null]))] ++ wS c a0 iS) ++ wS c a1 iS) ++ wS c a2 iS) H _ := hW
  refine kx_putF S hK hW hin2 hinX2 tyX2_ok nmX2 0 2 rfl rfl 2 (by decide) (List.mem_of_getElem? (i := 9) rfl) rfl rfl (v := .ref (a2 0)) rfl rfl (Nat.le_of_ble_eq_true rfl) dX2_init_34 (fun H locs hW => ?_)
  have hW : kw D A s.heap ((([(h, .inr (2, [.ref (a0 0), .ref (a1 0), .ref (a2 0), .int (nI (0)), .null, .int (nI (0)), .int (nI (0)), .null, .int (nI (0)), .null]))] ++ wS c a0 iS) ++ wS c a1 iS) ++ wS c a2 iS) H _ := hW
  refine lv_aload_n S.1 S.2.1 dX2_init_37 rfl (lv_at hl 0 rfl) ?_
  refine lv_iconst (v := nI (0)) S.1 S.2.1 dX2_init_38 rfl ?_
  refine kx_put S hK hW hinX2 tyX2_ok nmX2 0 2 rfl rfl 3 (by decide) (List.mem_of_getElem? (i := 10) rfl) rfl (v := .int (nI (0))) rfl rfl (Nat.le_of_ble_eq_true rfl) dX2_init_39 (fun H locs hW => ?_)
  have hW : kw D A s.heap ((([(h, .inr (2, [.ref (a0 0), .ref (a1 0), .ref (a2 0), .int (nI (0)), .null, .int (nI (0)), .int (nI (0)), .null, .int (nI (0)), .null]))] ++ wS c a0 iS) ++ wS c a1 iS) ++ wS c a2 iS) H _ := hW
  refine lv_aload_n S.1 S.2.1 dX2_init_42 rfl (lv_at hl 0 rfl) ?_
  refine lv_bipush (v := nI (6)) S.1 S.2.1 dX2_init_43 rfl ?_
  refine kn_newQ S hK hW hA hpre.2.2 (List.mem_of_getElem? (i := 4) rfl) (by decide) (Nat.le_of_ble_eq_true rfl) (Nat.le_of_ble_eq_true rfl) dX2_init_45 (fun q3 H hW => ?_)
  refine kx_putF S hK hW hin2 hinX2 tyX2_ok nmX2 0 2 rfl rfl 4 (by decide) (List.mem_of_getElem? (i := 11) rfl) rfl rfl (v := .ref q3) rfl rfl (Nat.le_of_ble_eq_true rfl) dX2_init_48 (fun H locs hW => ?_)
  have hW : kw D A s.heap (((([(h, .inr (2, [.ref (a0 0), .ref (a1 0), .ref (a2 0), .int (nI (0)), .ref q3, .int (nI (0)), .int (nI (0)), .null, .int (nI (0)), .null]))] ++ wS c a0 iS) ++ wS c a1 iS) ++ wS c a2 iS) ++ [(q3, .inl (c 2, 6, .inr (.inr (.inr (.inr (fun _ => none))))))]) H _ := hW
  refine lv_aload_n S.1 S.2.1 dX2_init_51 rfl (lv_at hl 0 rfl) ?_
  refine lv_iconst (v := nI (0)) S.1 S.2.1 dX2_init_52 rfl ?_
  refine kx_put S hK hW hinX2 tyX2_ok nmX2 0 2 rfl rfl 5 (by decide) (List.mem_of_getElem? (i := 12) rfl) rfl (v := .int (nI (0))) rfl rfl (Nat.le_of_ble_eq_true rfl) dX2_init_53 (fun H locs hW => ?_)
  have hW : kw D A s.heap (((([(h, .inr (2, [.ref (a0 0), .ref (a1 0), .ref (a2 0), .int (nI (0)), .ref q3, .int (nI (0)), .int (nI (0)), .null, .int (nI (0)), .null]))] ++ wS c a0 iS) ++ wS c a1 iS) ++ wS c a2 iS) ++ [(q3, .inl (c 2, 6, .inr (.inr (.inr (.inr (fun _ => none))))))]) H _ := hW
  refine lv_aload_n S.1 S.2.1 dX2_init_56 rfl (lv_at hl 0 rfl) ?_
  refine lv_iconst (v := nI (0)) S.1 S.2.1 dX2_init_57 rfl ?_
  refine kx_put S hK hW hinX2 tyX2_ok nmX2 0 2 rfl rfl 6 (by decide) (List.mem_of_getElem? (i := 13) rfl) rfl (v := .int (nI (0))) rfl rfl (Nat.le_of_ble_eq_true rfl) dX2_init_58 (fun H locs hW => ?_)
  have hW : kw D A s.heap (((([(h, .inr (2, [.ref (a0 0), .ref (a1 0), .ref (a2 0), .int (nI (0)), .ref q3, .int (nI (0)), .int (nI (0)), .null, .int (nI (0)), .null]))] ++ wS c a0 iS) ++ wS c a1 iS) ++ wS c a2 iS) ++ [(q3, .inl (c 2, 6, .inr (.inr (.inr (.inr (fun _ => none))))))]) H _ := hW
  refine lv_aload_n S.1 S.2.1 dX2_init_61 rfl (lv_at hl 0 rfl) ?_
  refine lv_bipush (v := nI (60)) S.1 S.2.1 dX2_init_62 rfl ?_
  refine kn_newC S hK hW hA (List.mem_of_getElem? (i := 14) rfl) (by decide) (Nat.le_of_ble_eq_true rfl) (Nat.le_of_ble_eq_true rfl) dX2_init_64 (fun q4 H hW => ?_)
  have hW : kw D A s.heap ((((([(h, .inr (2, [.ref (a0 0), .ref (a1 0), .ref (a2 0), .int (nI (0)), .ref q3, .int (nI (0)), .int (nI (0)), .null, .int (nI (0)), .null]))] ++ wS c a0 iS) ++ wS c a1 iS) ++ wS c a2 iS) ++ [(q3, .inl (c 2, 6, .inr (.inr (.inr (.inr (fun _ => none))))))]) ++ [(q4, .inl (c 1, 60, .inl (fun k => nI (kc 0 k))))]) H _ := hW
  refine kx_putF S hK hW hin2 hinX2 tyX2_ok nmX2 0 2 rfl rfl 7 (by decide) (List.mem_of_getElem? (i := 15) rfl) rfl rfl (v := .ref q4) rfl rfl (Nat.le_of_ble_eq_true rfl) dX2_init_66 (fun H locs hW => ?_)
  have hW : kw D A s.heap ((((([(h, .inr (2, [.ref (a0 0), .ref (a1 0), .ref (a2 0), .int (nI (0)), .ref q3, .int (nI (0)), .int (nI (0)), .ref q4, .int (nI (0)), .null]))] ++ wS c a0 iS) ++ wS c a1 iS) ++ wS c a2 iS) ++ [(q3, .inl (c 2, 6, .inr (.inr (.inr (.inr (fun _ => none))))))]) ++ [(q4, .inl (c 1, 60, .inl (fun k => nI (kc 0 k))))]) H _ := hW
  refine lv_aload_n S.1 S.2.1 dX2_init_69 rfl (lv_at hl 0 rfl) ?_
  refine lv_iconst (v := nI (0)) S.1 S.2.1 dX2_init_70 rfl ?_
  refine kx_put S hK hW hinX2 tyX2_ok nmX2 0 2 rfl rfl 8 (by decide) (List.mem_of_getElem? (i := 16) rfl) rfl (v := .int (nI (0))) rfl rfl (Nat.le_of_ble_eq_true rfl) dX2_init_71 (fun H locs hW => ?_)
  have hW : kw D A s.heap ((((([(h, .inr (2, [.ref (a0 0), .ref (a1 0), .ref (a2 0), .int (nI (0)), .ref q3, .int (nI (0)), .int (nI (0)), .ref q4, .int (nI (0)), .null]))] ++ wS c a0 iS) ++ wS c a1 iS) ++ wS c a2 iS) ++ [(q3, .inl (c 2, 6, .inr (.inr (.inr (.inr (fun _ => none))))))]) ++ [(q4, .inl (c 1, 60, .inl (fun k => nI (kc 0 k))))]) H _ := hW
  refine lv_aload_n S.1 S.2.1 dX2_init_74 rfl (lv_at hl 0 rfl) ?_
  refine kx_new (ci := 0) S hK hW hA hinX0 tyX0_ok (List.mem_of_getElem? (i := 17) rfl) (List.mem_of_getElem? (i := 18) rfl) (List.mem_of_getElem? (i := 19) rfl) rfl dfX0 (Nat.le_of_ble_eq_true rfl) (Nat.le_of_ble_eq_true rfl) dX2_init_75 (fun q5 H hW => ?_)
  refine lv_dup S.1 S.2.1 dX2_init_78 rfl ?_
  refine k_ICN (host := RX2) (wl := ((((([(h, .inr (2, [.ref (a0 0), .ref (a1 0), .ref (a2 0), .int (nI (0)), .ref q3, .int (nI (0)), .int (nI (0)), .ref q4, .int (nI (0)), .null]))] ++ wS c a0 iS) ++ wS c a1 iS) ++ wS c a2 iS) ++ [(q3, .inl (c 2, 6, .inr (.inr (.inr (.inr (fun _ => none))))))]) ++ [(q4, .inl (c 1, 60, .inl (fun k => nI (kc 0 k))))])) S hK hl.1 hW (fun w1 => KFr.rgt hW hA) (iX0_init l D c q5 _) (fun _ _ _ _ h => h) (fun _ _ => trivial) gX2_init_X0_init_n46 rfl rfl hpre.2.1 (List.mem_of_getElem? (i := 19) rfl) (List.mem_of_getElem? (i := 42) rfl) pdX0_init ⟨⟨rfl, rfl⟩, (Nat.le_of_ble_eq_true rfl), (Nat.le_of_ble_eq_true rfl)⟩ (Nat.le_of_ble_eq_true rfl) dX2_init_79 ⟨(Nat.le_of_ble_eq_true rfl), (Nat.le_of_ble_eq_true rfl)⟩ (fun w H locs hw hW => ?_)
  subst hw
  have hW : kw D A s.heap (((((([(h, .inr (2, [.ref (a0 0), .ref (a1 0), .ref (a2 0), .int (nI (0)), .ref q3, .int (nI (0)), .int (nI (0)), .ref q4, .int (nI (0)), .null]))] ++ wS c a0 iS) ++ wS c a1 iS) ++ wS c a2 iS) ++ [(q3, .inl (c 2, 6, .inr (.inr (.inr (.inr (fun _ => none))))))]) ++ [(q4, .inl (c 1, 60, .inl (fun k => nI (kc 0 k))))]) ++ wR (fun _ => q5) (fun _ => kc 0)) H _ := hW
  refine kx_putF S hK hW hin2 hinX2 tyX2_ok nmX2 0 2 rfl rfl 9 (by decide) (List.mem_of_getElem? (i := 20) rfl) rfl rfl (v := .ref q5) rfl rfl (Nat.le_of_ble_eq_true rfl) dX2_init_82 (fun H locs hW => ?_)
  have hW : kw D A s.heap (((((([(h, .inr (2, [.ref (a0 0), .ref (a1 0), .ref (a2 0), .int (nI (0)), .ref q3, .int (nI (0)), .int (nI (0)), .ref q4, .int (nI (0)), .ref q5]))] ++ wS c a0 iS) ++ wS c a1 iS) ++ wS c a2 iS) ++ [(q3, .inl (c 2, 6, .inr (.inr (.inr (.inr (fun _ => none))))))]) ++ [(q4, .inl (c 1, 60, .inl (fun k => nI (kc 0 k))))]) ++ wR (fun _ => q5) (fun _ => kc 0)) H _ := hW
  refine lv_iconst (v := nI (0)) S.1 S.2.1 dX2_init_85 rfl ?_
  refine lv_istore_n (lv' := [(1, .int (nI (0))), (0, .ref h)]) S.1 S.2.1 dX2_init_86 rfl hl (by decide) rfl (fun ls hl => ?_)
  refine lv_iload_n S.1 S.2.1 dX2_init_87 rfl (lv_at hl 0 rfl) ?_
  refine lv_bipush (v := nI (6)) S.1 S.2.1 dX2_init_88 rfl ?_
  refine kn_ge S (tgt := 112) dX2_init_90 (by decide) (by decide) (by decide) (fun c_ => absurd c_ (by decide)) (fun _ => ?_)
  refine lv_aload_n S.1 S.2.1 dX2_init_93 rfl (lv_at hl 1 rfl) ?_
  refine kx_get S hK hW hinX2 0 2 rfl rfl 4 (by decide) (List.mem_of_getElem? (i := 11) rfl) (v := .ref q3) rfl dX2_init_94 ?_
  refine lv_iload_n S.1 S.2.1 dX2_init_97 rfl (lv_at hl 0 rfl) ?_
  refine kx_new (ci := 1) S hK hW hA hinX1 tyX1_ok (List.mem_of_getElem? (i := 4) rfl) (List.mem_of_getElem? (i := 5) rfl) (List.mem_of_getElem? (i := 6) rfl) rfl dfX1 (Nat.le_of_ble_eq_true rfl) (Nat.le_of_ble_eq_true rfl) dX2_init_98 (fun q6 H hW => ?_)
  refine lv_dup S.1 S.2.1 dX2_init_101 rfl ?_
  refine k_ICN (host := RX2) (wl := (((((([(h, .inr (2, [.ref (a0 0), .ref (a1 0), .ref (a2 0), .int (nI (0)), .ref q3, .int (nI (0)), .int (nI (0)), .ref q4, .int (nI (0)), .ref q5]))] ++ wS c a0 iS) ++ wS c a1 iS) ++ wS c a2 iS) ++ [(q3, .inl (c 2, 6, .inr (.inr (.inr (.inr (fun _ => none))))))]) ++ [(q4, .inl (c 1, 60, .inl (fun k => nI (kc 0 k))))]) ++ wR (fun _ => q5) (fun _ => kc 0))) S hK hl.1 hW (fun w1 => KFr.rgt hW hA) (iX1_init l D c q6 _) (fun _ _ _ _ h => h) (fun _ _ => trivial) gX2_init_X1_init_n11 rfl rfl hpre.1 (List.mem_of_getElem? (i := 6) rfl) (List.mem_of_getElem? (i := 21) rfl) pdX1_init ⟨⟨rfl, rfl⟩, (Nat.le_of_ble_eq_true rfl), (Nat.le_of_ble_eq_true rfl)⟩ (Nat.le_of_ble_eq_true rfl) dX2_init_102 ⟨(Nat.le_of_ble_eq_true rfl), (Nat.le_of_ble_eq_true rfl)⟩ (fun w H locs hw hW => ?_)
  obtain ⟨a6, rfl, rfl⟩ := hw
  have hW : kw D A s.heap ((((((([(h, .inr (2, [.ref (a0 0), .ref (a1 0), .ref (a2 0), .int (nI (0)), .ref q3, .int (nI (0)), .int (nI (0)), .ref q4, .int (nI (0)), .ref q5]))] ++ wS c a0 iS) ++ wS c a1 iS) ++ wS c a2 iS) ++ [(q3, .inl (c 2, 6, .inr (.inr (.inr (.inr (fun _ => none))))))]) ++ [(q4, .inl (c 1, 60, .inl (fun k => nI (kc 0 k))))]) ++ wR (fun _ => q5) (fun _ => kc 0)) ++ wS c a6 iS) H _ := hW
  refine kq_ast S hK hW 25 28 rfl rfl (by decide) (by decide) dX2_init_105 (fun H locs hW => ?_)
  have hW : kw D A s.heap ((((((([(h, .inr (2, [.ref (a0 0), .ref (a1 0), .ref (a2 0), .int (nI (0)), .ref q3, .int (nI (0)), .int (nI (0)), .ref q4, .int (nI (0)), .ref q5]))] ++ wS c a0 iS) ++ wS c a1 iS) ++ wS c a2 iS) ++ [(q3, .inl (c 2, 6, .inr (.inr (.inr (.inr (va_up ((fun _ => none)) 0 (some (a6 0))))))))]) ++ [(q4, .inl (c 1, 60, .inl (fun k => nI (kc 0 k))))]) ++ wR (fun _ => q5) (fun _ => kc 0)) ++ wS c a6 iS) H _ := hW
  refine lv_iinc (v := nI (1)) (lv' := [(1, .int (nI (1))), (0, .ref h)]) S.1 S.2.1 dX2_init_106 hl (k := 0) rfl (by decide) (by decide) rfl (fun ls hl => ?_)
  refine lv_goto (tgt := 87) S.1 S.2.1 dX2_init_109 (by decide) ?_
  refine lv_iload_n S.1 S.2.1 dX2_init_87 rfl (lv_at hl 0 rfl) ?_
  refine lv_bipush (v := nI (6)) S.1 S.2.1 dX2_init_88 rfl ?_
  refine kn_ge S (tgt := 112) dX2_init_90 (by decide) (by decide) (by decide) (fun c_ => absurd c_ (by decide)) (fun _ => ?_)
  refine lv_aload_n S.1 S.2.1 dX2_init_93 rfl (lv_at hl 1 rfl) ?_
  refine kx_get S hK hW hinX2 0 2 rfl rfl 4 (by decide) (List.mem_of_getElem? (i := 11) rfl) (v := .ref q3) rfl dX2_init_94 ?_
  refine lv_iload_n S.1 S.2.1 dX2_init_97 rfl (lv_at hl 0 rfl) ?_
  refine kx_new (ci := 1) S hK hW hA hinX1 tyX1_ok (List.mem_of_getElem? (i := 4) rfl) (List.mem_of_getElem? (i := 5) rfl) (List.mem_of_getElem? (i := 6) rfl) rfl dfX1 (Nat.le_of_ble_eq_true rfl) (Nat.le_of_ble_eq_true rfl) dX2_init_98 (fun q7 H hW => ?_)
  refine lv_dup S.1 S.2.1 dX2_init_101 rfl ?_
  refine k_ICN (host := RX2) (wl := ((((((([(h, .inr (2, [.ref (a0 0), .ref (a1 0), .ref (a2 0), .int (nI (0)), .ref q3, .int (nI (0)), .int (nI (0)), .ref q4, .int (nI (0)), .ref q5]))] ++ wS c a0 iS) ++ wS c a1 iS) ++ wS c a2 iS) ++ [(q3, .inl (c 2, 6, .inr (.inr (.inr (.inr (va_up ((fun _ => none)) 0 (some (a6 0))))))))]) ++ [(q4, .inl (c 1, 60, .inl (fun k => nI (kc 0 k))))]) ++ wR (fun _ => q5) (fun _ => kc 0)) ++ wS c a6 iS)) S hK hl.1 hW (fun w1 => KFr.rgt hW hA) (iX1_init l D c q7 _) (fun _ _ _ _ h => h) (fun _ _ => trivial) gX2_init_X1_init_n11 rfl rfl hpre.1 (List.mem_of_getElem? (i := 6) rfl) (List.mem_of_getElem? (i := 21) rfl) pdX1_init ⟨⟨rfl, rfl⟩, (Nat.le_of_ble_eq_true rfl), (Nat.le_of_ble_eq_true rfl)⟩ (Nat.le_of_ble_eq_true rfl) dX2_init_102 ⟨(Nat.le_of_ble_eq_true rfl), (Nat.le_of_ble_eq_true rfl)⟩ (fun w H locs hw hW => ?_)
  obtain ⟨a7, rfl, rfl⟩ := hw
  have hW : kw D A s.heap (((((((([(h, .inr (2, [.ref (a0 0), .ref (a1 0), .ref (a2 0), .int (nI (0)), .ref q3, .int (nI (0)), .int (nI (0)), .ref q4, .int (nI (0)), .ref q5]))] ++ wS c a0 iS) ++ wS c a1 iS) ++ wS c a2 iS) ++ [(q3, .inl (c 2, 6, .inr (.inr (.inr (.inr (va_up ((fun _ => none)) 0 (some (a6 0))))))))]) ++ [(q4, .inl (c 1, 60, .inl (fun k => nI (kc 0 k))))]) ++ wR (fun _ => q5) (fun _ => kc 0)) ++ wS c a6 iS) ++ wS c a7 iS) H _ := hW
  refine kq_ast S hK hW 25 36 rfl rfl (by decide) (by decide) dX2_init_105 (fun H locs hW => ?_)
  have hW : kw D A s.heap (((((((([(h, .inr (2, [.ref (a0 0), .ref (a1 0), .ref (a2 0), .int (nI (0)), .ref q3, .int (nI (0)), .int (nI (0)), .ref q4, .int (nI (0)), .ref q5]))] ++ wS c a0 iS) ++ wS c a1 iS) ++ wS c a2 iS) ++ [(q3, .inl (c 2, 6, .inr (.inr (.inr (.inr (va_up (va_up ((fun _ => none)) 0 (some (a6 0))) 1 (some (a7 0))))))))]) ++ [(q4, .inl (c 1, 60, .inl (fun k => nI (kc 0 k))))]) ++ wR (fun _ => q5) (fun _ => kc 0)) ++ wS c a6 iS) ++ wS c a7 iS) H _ := hW
  refine lv_iinc (v := nI (2)) (lv' := [(1, .int (nI (2))), (0, .ref h)]) S.1 S.2.1 dX2_init_106 hl (k := 0) rfl (by decide) (by decide) rfl (fun ls hl => ?_)
  refine lv_goto (tgt := 87) S.1 S.2.1 dX2_init_109 (by decide) ?_
  refine lv_iload_n S.1 S.2.1 dX2_init_87 rfl (lv_at hl 0 rfl) ?_
  refine lv_bipush (v := nI (6)) S.1 S.2.1 dX2_init_88 rfl ?_
  refine kn_ge S (tgt := 112) dX2_init_90 (by decide) (by decide) (by decide) (fun c_ => absurd c_ (by decide)) (fun _ => ?_)
  refine lv_aload_n S.1 S.2.1 dX2_init_93 rfl (lv_at hl 1 rfl) ?_
  refine kx_get S hK hW hinX2 0 2 rfl rfl 4 (by decide) (List.mem_of_getElem? (i := 11) rfl) (v := .ref q3) rfl dX2_init_94 ?_
  refine lv_iload_n S.1 S.2.1 dX2_init_97 rfl (lv_at hl 0 rfl) ?_
  refine kx_new (ci := 1) S hK hW hA hinX1 tyX1_ok (List.mem_of_getElem? (i := 4) rfl) (List.mem_of_getElem? (i := 5) rfl) (List.mem_of_getElem? (i := 6) rfl) rfl dfX1 (Nat.le_of_ble_eq_true rfl) (Nat.le_of_ble_eq_true rfl) dX2_init_98 (fun q8 H hW => ?_)
  refine lv_dup S.1 S.2.1 dX2_init_101 rfl ?_
  refine k_ICN (host := RX2) (wl := (((((((([(h, .inr (2, [.ref (a0 0), .ref (a1 0), .ref (a2 0), .int (nI (0)), .ref q3, .int (nI (0)), .int (nI (0)), .ref q4, .int (nI (0)), .ref q5]))] ++ wS c a0 iS) ++ wS c a1 iS) ++ wS c a2 iS) ++ [(q3, .inl (c 2, 6, .inr (.inr (.inr (.inr (va_up (va_up ((fun _ => none)) 0 (some (a6 0))) 1 (some (a7 0))))))))]) ++ [(q4, .inl (c 1, 60, .inl (fun k => nI (kc 0 k))))]) ++ wR (fun _ => q5) (fun _ => kc 0)) ++ wS c a6 iS) ++ wS c a7 iS)) S hK hl.1 hW (fun w1 => KFr.rgt hW hA) (iX1_init l D c q8 _) (fun _ _ _ _ h => h) (fun _ _ => trivial) gX2_init_X1_init_n11 rfl rfl hpre.1 (List.mem_of_getElem? (i := 6) rfl) (List.mem_of_getElem? (i := 21) rfl) pdX1_init ⟨⟨rfl, rfl⟩, (Nat.le_of_ble_eq_true rfl), (Nat.le_of_ble_eq_true rfl)⟩ (Nat.le_of_ble_eq_true rfl) dX2_init_102 ⟨(Nat.le_of_ble_eq_true rfl), (Nat.le_of_ble_eq_true rfl)⟩ (fun w H locs hw hW => ?_)
  obtain ⟨a8, rfl, rfl⟩ := hw
  have hW : kw D A s.heap ((((((((([(h, .inr (2, [.ref (a0 0), .ref (a1 0), .ref (a2 0), .int (nI (0)), .ref q3, .int (nI (0)), .int (nI (0)), .ref q4, .int (nI (0)), .ref q5]))] ++ wS c a0 iS) ++ wS c a1 iS) ++ wS c a2 iS) ++ [(q3, .inl (c 2, 6, .inr (.inr (.inr (.inr (va_up (va_up ((fun _ => none)) 0 (some (a6 0))) 1 (some (a7 0))))))))]) ++ [(q4, .inl (c 1, 60, .inl (fun k => nI (kc 0 k))))]) ++ wR (fun _ => q5) (fun _ => kc 0)) ++ wS c a6 iS) ++ wS c a7 iS) ++ wS c a8 iS) H _ := hW
  refine kq_ast S hK hW 25 44 rfl rfl (by decide) (by decide) dX2_init_105 (fun H locs hW => ?_)
  have hW : kw D A s.heap ((((((((([(h, .inr (2, [.ref (a0 0), .ref (a1 0), .ref (a2 0), .int (nI (0)), .ref q3, .int (nI (0)), .int (nI (0)), .ref q4, .int (nI (0)), .ref q5]))] ++ wS c a0 iS) ++ wS c a1 iS) ++ wS c a2 iS) ++ [(q3, .inl (c 2, 6, .inr (.inr (.inr (.inr (va_up (va_up (va_up ((fun _ => none)) 0 (some (a6 0))) 1 (some (a7 0))) 2 (some (a8 0))))))))]) ++ [(q4, .inl (c 1, 60, .inl (fun k => nI (kc 0 k))))]) ++ wR (fun _ => q5) (fun _ => kc 0)) ++ wS c a6 iS) ++ wS c a7 iS) ++ wS c a8 iS) H _ := hW
  refine lv_iinc (v := nI (3)) (lv' := [(1, .int (nI (3))), (0, .ref h)]) S.1 S.2.1 dX2_init_106 hl (k := 0) rfl (by decide) (by decide) rfl (fun ls hl => ?_)
  refine lv_goto (tgt := 87) S.1 S.2.1 dX2_init_109 (by decide) ?_
  refine lv_iload_n S.1 S.2.1 dX2_init_87 rfl (lv_at hl 0 rfl) ?_
  refine lv_bipush (v := nI (6)) S.1 S.2.1 dX2_init_88 rfl ?_
  refine kn_ge S (tgt := 112) dX2_init_90 (by decide) (by decide) (by decide) (fun c_ => absurd c_ (by decide)) (fun _ => ?_)
  refine lv_aload_n S.1 S.2.1 dX2_init_93 rfl (lv_at hl 1 rfl) ?_
  refine kx_get S hK hW hinX2 0 2 rfl rfl 4 (by decide) (List.mem_of_getElem? (i := 11) rfl) (v := .ref q3) rfl dX2_init_94 ?_
  refine lv_iload_n S.1 S.2.1 dX2_init_97 rfl (lv_at hl 0 rfl) ?_
  refine kx_new (ci := 1) S hK hW hA hinX1 tyX1_ok (List.mem_of_getElem? (i := 4) rfl) (List.mem_of_getElem? (i := 5) rfl) (List.mem_of_getElem? (i := 6) rfl) rfl dfX1 (Nat.le_of_ble_eq_true rfl) (Nat.le_of_ble_eq_true rfl) dX2_init_98 (fun q9 H hW => ?_)
  refine lv_dup S.1 S.2.1 dX2_init_101 rfl ?_
  refine k_ICN (host := RX2) (wl := ((((((((([(h, .inr (2, [.ref (a0 0), .ref (a1 0), .ref (a2 0), .int (nI (0)), .ref q3, .int (nI (0)), .int (nI (0)), .ref q4, .int (nI (0)), .ref q5]))] ++ wS c a0 iS) ++ wS c a1 iS) ++ wS c a2 iS) ++ [(q3, .inl (c 2, 6, .inr (.inr (.inr (.inr (va_up (va_up (va_up ((fun _ => none)) 0 (some (a6 0))) 1 (some (a7 0))) 2 (some (a8 0))))))))]) ++ [(q4, .inl (c 1, 60, .inl (fun k => nI (kc 0 k))))]) ++ wR (fun _ => q5) (fun _ => kc 0)) ++ wS c a6 iS) ++ wS c a7 iS) ++ wS c a8 iS)) S hK hl.1 hW (fun w1 => KFr.rgt hW hA) (iX1_init l D c q9 _) (fun _ _ _ _ h => h) (fun _ _ => trivial) gX2_init_X1_init_n11 rfl rfl hpre.1 (List.mem_of_getElem? (i := 6) rfl) (List.mem_of_getElem? (i := 21) rfl) pdX1_init ⟨⟨rfl, rfl⟩, (Nat.le_of_ble_eq_true rfl), (Nat.le_of_ble_eq_true rfl)⟩ (Nat.le_of_ble_eq_true rfl) dX2_init_102 ⟨(Nat.le_of_ble_eq_true rfl), (Nat.le_of_ble_eq_true rfl)⟩ (fun w H locs hw hW => ?_)
  obtain ⟨a9, rfl, rfl⟩ := hw
  have hW : kw D A s.heap (((((((((([(h, .inr (2, [.ref (a0 0), .ref (a1 0), .ref (a2 0), .int (nI (0)), .ref q3, .int (nI (0)), .int (nI (0)), .ref q4, .int (nI (0)), .ref q5]))] ++ wS c a0 iS) ++ wS c a1 iS) ++ wS c a2 iS) ++ [(q3, .inl (c 2, 6, .inr (.inr (.inr (.inr (va_up (va_up (va_up ((fun _ => none)) 0 (some (a6 0))) 1 (some (a7 0))) 2 (some (a8 0))))))))]) ++ [(q4, .inl (c 1, 60, .inl (fun k => nI (kc 0 k))))]) ++ wR (fun _ => q5) (fun _ => kc 0)) ++ wS c a6 iS) ++ wS c a7 iS) ++ wS c a8 iS) ++ wS c a9 iS) H _ := hW
  refine kq_ast S hK hW 25 52 rfl rfl (by decide) (by decide) dX2_init_105 (fun H locs hW => ?_)
  have hW : kw D A s.heap (((((((((([(h, .inr (2, [.ref (a0 0), .ref (a1 0), .ref (a2 0), .int (nI (0)), .ref q3, .int (nI (0)), .int (nI (0)), .ref q4, .int (nI (0)), .ref q5]))] ++ wS c a0 iS) ++ wS c a1 iS) ++ wS c a2 iS) ++ [(q3, .inl (c 2, 6, .inr (.inr (.inr (.inr (va_up (va_up (va_up (va_up ((fun _ => none)) 0 (some (a6 0))) 1 (some (a7 0))) 2 (some (a8 0))) 3 (some (a9 0))))))))]) ++ [(q4, .inl (c 1, 60, .inl (fun k => nI (kc 0 k))))]) ++ wR (fun _ => q5) (fun _ => kc 0)) ++ wS c a6 iS) ++ wS c a7 iS) ++ wS c a8 iS) ++ wS c a9 iS) H _ := hW
  refine lv_iinc (v := nI (4)) (lv' := [(1, .int (nI (4))), (0, .ref h)]) S.1 S.2.1 dX2_init_106 hl (k := 0) rfl (by decide) (by decide) rfl (fun ls hl => ?_)
  refine lv_goto (tgt := 87) S.1 S.2.1 dX2_init_109 (by decide) ?_
  refine lv_iload_n S.1 S.2.1 dX2_init_87 rfl (lv_at hl 0 rfl) ?_
  refine lv_bipush (v := nI (6)) S.1 S.2.1 dX2_init_88 rfl ?_
  refine kn_ge S (tgt := 112) dX2_init_90 (by decide) (by decide) (by decide) (fun c_ => absurd c_ (by decide)) (fun _ => ?_)
  refine lv_aload_n S.1 S.2.1 dX2_init_93 rfl (lv_at hl 1 rfl) ?_
  refine kx_get S hK hW hinX2 0 2 rfl rfl 4 (by decide) (List.mem_of_getElem? (i := 11) rfl) (v := .ref q3) rfl dX2_init_94 ?_
  refine lv_iload_n S.1 S.2.1 dX2_init_97 rfl (lv_at hl 0 rfl) ?_
  refine kx_new (ci := 1) S hK hW hA hinX1 tyX1_ok (List.mem_of_getElem? (i := 4) rfl) (List.mem_of_getElem? (i := 5) rfl) (List.mem_of_getElem? (i := 6) rfl) rfl dfX1 (Nat.le_of_ble_eq_true rfl) (Nat.le_of_ble_eq_true rfl) dX2_init_98 (fun q10 H hW => ?_)
  refine lv_dup S.1 S.2.1 dX2_init_101 rfl ?_
  refine k_ICN (host := RX2) (wl := (((((((((([(h, .inr (2, [.ref (a0 0), .ref (a1 0), .ref (a2 0), .int (nI (0)), .ref q3, .int (nI (0)), .int (nI (0)), .ref q4, .int (nI (0)), .ref q5]))] ++ wS c a0 iS) ++ wS c a1 iS) ++ wS c a2 iS) ++ [(q3, .inl (c 2, 6, .inr (.inr (.inr (.inr (va_up (va_up (va_up (va_up ((fun _ => none)) 0 (some (a6 0))) 1 (some (a7 0))) 2 (some (a8 0))) 3 (some (a9 0))))))))]) ++ [(q4, .inl (c 1, 60, .inl (fun k => nI (kc 0 k))))]) ++ wR (fun _ => q5) (fun _ => kc 0)) ++ wS c a6 iS) ++ wS c a7 iS) ++ wS c a8 iS) ++ wS c a9 iS)) S hK hl.1 hW (fun w1 => KFr.rgt hW hA) (iX1_init l D c q10 _) (fun _ _ _ _ h => h) (fun _ _ => trivial) gX2_init_X1_init_n11 rfl rfl hpre.1 (List.mem_of_getElem? (i := 6) rfl) (List.mem_of_getElem? (i := 21) rfl) pdX1_init ⟨⟨rfl, rfl⟩, (Nat.le_of_ble_eq_true rfl), (Nat.le_of_ble_eq_true rfl)⟩ (Nat.le_of_ble_eq_true rfl) dX2_init_102 ⟨(Nat.le_of_ble_eq_true rfl), (Nat.le_of_ble_eq_true rfl)⟩ (fun w H locs hw hW => ?_)
  obtain ⟨a10, rfl, rfl⟩ := hw
  have hW : kw D A s.heap ((((((((((([(h, .inr (2, [.ref (a0 0), .ref (a1 0), .ref (a2 0), .int (nI (0)), .ref q3, .int (nI (0)), .int (nI (0)), .ref q4, .int (nI (0)), .ref q5]))] ++ wS c a0 iS) ++ wS c a1 iS) ++ wS c a2 iS) ++ [(q3, .inl (c 2, 6, .inr (.inr (.inr (.inr (va_up (va_up (va_up (va_up ((fun _ => none)) 0 (some (a6 0))) 1 (some (a7 0))) 2 (some (a8 0))) 3 (some (a9 0))))))))]) ++ [(q4, .inl (c 1, 60, .inl (fun k => nI (kc 0 k))))]) ++ wR (fun _ => q5) (fun _ => kc 0)) ++ wS c a6 iS) ++ wS c a7 iS) ++ wS c a8 iS) ++ wS c a9 iS) ++ wS c a10 iS) H _ := hW
  refine kq_ast S hK hW 25 60 rfl rfl (by decide) (by decide) dX2_init_105 (fun H locs hW => ?_)
  have hW : kw D A s.heap ((((((((((([(h, .inr (2, [.ref (a0 0), .ref (a1 0), .ref (a2 0), .int (nI (0)), .ref q3, .int (nI (0)), .int (nI (0)), .ref q4, .int (nI (0)), .ref q5]))] ++ wS c a0 iS) ++ wS c a1 iS) ++ wS c a2 iS) ++ [(q3, .inl (c 2, 6, .inr (.inr (.inr (.inr (va_up (va_up (va_up (va_up (va_up ((fun _ => none)) 0 (some (a6 0))) 1 (some (a7 0))) 2 (some (a8 0))) 3 (some (a9 0))) 4 (some (a10 0))))))))]) ++ [(q4, .inl (c 1, 60, .inl (fun k => nI (kc 0 k))))]) ++ wR (fun _ => q5) (fun _ => kc 0)) ++ wS c a6 iS) ++ wS c a7 iS) ++ wS c a8 iS) ++ wS c a9 iS) ++ wS c a10 iS) H _ := hW
  refine lv_iinc (v := nI (5)) (lv' := [(1, .int (nI (5))), (0, .ref h)]) S.1 S.2.1 dX2_init_106 hl (k := 0) rfl (by decide) (by decide) rfl (fun ls hl => ?_)
  refine lv_goto (tgt := 87) S.1 S.2.1 dX2_init_109 (by decide) ?_
  refine lv_iload_n S.1 S.2.1 dX2_init_87 rfl (lv_at hl 0 rfl) ?_
  refine lv_bipush (v := nI (6)) S.1 S.2.1 dX2_init_88 rfl ?_
  refine kn_ge S (tgt := 112) dX2_init_90 (by decide) (by decide) (by decide) (fun c_ => absurd c_ (by decide)) (fun _ => ?_)
  refine lv_aload_n S.1 S.2.1 dX2_init_93 rfl (lv_at hl 1 rfl) ?_
  refine kx_get S hK hW hinX2 0 2 rfl rfl 4 (by decide) (List.mem_of_getElem? (i := 11) rfl) (v := .ref q3) rfl dX2_init_94 ?_
  refine lv_iload_n S.1 S.2.1 dX2_init_97 rfl (lv_at hl 0 rfl) ?_
  refine kx_new (ci := 1) S hK hW hA hinX1 tyX1_ok (List.mem_of_getElem? (i := 4) rfl) (List.mem_of_getElem? (i := 5) rfl) (List.mem_of_getElem? (i := 6) rfl) rfl dfX1 (Nat.le_of_ble_eq_true rfl) (Nat.le_of_ble_eq_true rfl) dX2_init_98 (fun q11 H hW => ?_)
  refine lv_dup S.1 S.2.1 dX2_init_101 rfl ?_
  refine k_ICN (host := RX2) (wl := ((((((((((([(h, .inr (2, [.ref (a0 0), .ref (a1 0), .ref (a2 0), .int (nI (0)), .ref q3, .int (nI (0)), .int (nI (0)), .ref q4, .int (nI (0)), .ref q5]))] ++ wS c a0 iS) ++ wS c a1 iS) ++ wS c a2 iS) ++ [(q3, .inl (c 2, 6, .inr (.inr (.inr (.inr (va_up (va_up (va_up (va_up (va_up ((fun _ => none)) 0 (some (a6 0))) 1 (some (a7 0))) 2 (some (a8 0))) 3 (some (a9 0))) 4 (some (a10 0))))))))]) ++ [(q4, .inl (c 1, 60, .inl (fun k => nI (kc 0 k))))]) ++ wR (fun _ => q5) (fun _ => kc 0)) ++ wS c a6 iS) ++ wS c a7 iS) ++ wS c a8 iS) ++ wS c a9 iS) ++ wS c a10 iS)) S hK hl.1 hW (fun w1 => KFr.rgt hW hA) (iX1_init l D c q11 _) (fun _ _ _ _ h => h) (fun _ _ => trivial) gX2_init_X1_init_n11 rfl rfl hpre.1 (List.mem_of_getElem? (i := 6) rfl) (List.mem_of_getElem? (i := 21) rfl) pdX1_init ⟨⟨rfl, rfl⟩, (Nat.le_of_ble_eq_true rfl), (Nat.le_of_ble_eq_true rfl)⟩ (Nat.le_of_ble_eq_true rfl) dX2_init_102 ⟨(Nat.le_of_ble_eq_true rfl), (Nat.le_of_ble_eq_true rfl)⟩ (fun w H locs hw hW => ?_)
  obtain ⟨a11, rfl, rfl⟩ := hw
  have hW : kw D A s.heap (((((((((((([(h, .inr (2, [.ref (a0 0), .ref (a1 0), .ref (a2 0), .int (nI (0)), .ref q3, .int (nI (0)), .int (nI (0)), .ref q4, .int (nI (0)), .ref q5]))] ++ wS c a0 iS) ++ wS c a1 iS) ++ wS c a2 iS) ++ [(q3, .inl (c 2, 6, .inr (.inr (.inr (.inr (va_up (va_up (va_up (va_up (va_up ((fun _ => none)) 0 (some (a6 0))) 1 (some (a7 0))) 2 (some (a8 0))) 3 (some (a9 0))) 4 (some (a10 0))))))))]) ++ [(q4, .inl (c 1, 60, .inl (fun k => nI (kc 0 k))))]) ++ wR (fun _ => q5) (fun _ => kc 0)) ++ wS c a6 iS) ++ wS c a7 iS) ++ wS c a8 iS) ++ wS c a9 iS) ++ wS c a10 iS) ++ wS c a11 iS) H _ := hW
  refine kq_ast S hK hW 25 68 rfl rfl (by decide) (by decide) dX2_init_105 (fun H locs hW => ?_)
  have hW : kw D A s.heap (((((((((((([(h, .inr (2, [.ref (a0 0), .ref (a1 0), .ref (a2 0), .int (nI (0)), .ref q3, .int (nI (0)), .int (nI (0)), .ref q4, .int (nI (0)), .ref q5]))] ++ wS c a0 iS) ++ wS c a1 iS) ++ wS c a2 iS) ++ [(q3, .inl (c 2, 6, .inr (.inr (.inr (.inr (va_up (va_up (va_up (va_up (va_up (va_up ((fun _ => none)) 0 (some (a6 0))) 1 (some (a7 0))) 2 (some (a8 0))) 3 (some (a9 0))) 4 (some (a10 0))) 5 (some (a11 0))))))))]) ++ [(q4, .inl (c 1, 60, .inl (fun k => nI (kc 0 k))))]) ++ wR (fun _ => q5) (fun _ => kc 0)) ++ wS c a6 iS) ++ wS c a7 iS) ++ wS c a8 iS) ++ wS c a9 iS) ++ wS c a10 iS) ++ wS c a11 iS) H _ := hW
  refine lv_iinc (v := nI (6)) (lv' := [(1, .int (nI (6))), (0, .ref h)]) S.1 S.2.1 dX2_init_106 hl (k := 0) rfl (by decide) (by decide) rfl (fun ls hl => ?_)
  refine lv_goto (tgt := 87) S.1 S.2.1 dX2_init_109 (by decide) ?_
  refine lv_iload_n S.1 S.2.1 dX2_init_87 rfl (lv_at hl 0 rfl) ?_
  refine lv_bipush (v := nI (6)) S.1 S.2.1 dX2_init_88 rfl ?_
  refine kn_ge S (tgt := 112) dX2_init_90 (by decide) (by decide) (by decide) (fun _ => ?_) (fun c_ => absurd c_ (by decide))
  have hW : kw D A s.heap (((([(h, .inr (2, [.ref (a0 0), .ref (a1 0), .ref (a2 0), .int (nI (0)), .ref q3, .int (nI (0)), .int (nI (0)), .ref q4, .int (nI (0)), .ref q5]))] ++ wS c a0 iS) ++ wS c a1 iS) ++ wS c a2 iS) ++ ((q3, .inl (c 2, 6, .inr (.inr (.inr (.inr (va_up (va_up (va_up (va_up (va_up (va_up ((fun _ => none)) 0 (some (a6 0))) 1 (some (a7 0))) 2 (some (a8 0))) 3 (some (a9 0))) 4 (some (a10 0))) 5 (some (a11 0)))))))) :: ((((((([(q4, .inl (c 1, 60, .inl (fun k => nI (kc 0 k))))] ++ wR (fun _ => q5) (fun _ => kc 0)) ++ wS c a6 iS) ++ wS c a7 iS) ++ wS c a8 iS) ++ wS c a9 iS) ++ wS c a10 iS) ++ wS c a11 iS))) H _ := hW
  have hW := kw_cell (g := fun k => some ((fun i => if i = 0 then a0 else if i = 1 then a1 else if i = 2 then a2 else if i = 3 then a6 else if i = 4 then a7 else if i = 5 then a8 else if i = 6 then a9 else if i = 7 then a10 else a11) (3 + k) 0)) (fun k hk => by
    rcases (show k = 0 ∨ k = 1 ∨ k = 2 ∨ k = 3 ∨ k = 4 ∨ k = 5 by omega) with rfl | rfl | rfl | rfl | rfl | rfl <;> rfl) hW
  have hW : kw D A s.heap (wP c (fun i => [h, q3, q4, q5].getD i 0) (fun i => if i = 0 then a0 else if i = 1 then a1 else if i = 2 then a2 else if i = 3 then a6 else if i = 4 then a7 else if i = 5 then a8 else if i = 6 then a9 else if i = 7 then a10 else a11) (fun _ => iS) (fun _ => kc 0) (fun _ => kc 0)) H _ := ⟨hW.1.sub [0, 25, 26, 27, 1, 2, 3, 4, 5, 6, 7, 8, 9, 10, 11, 12, 13, 14, 15, 16, 17, 18, 19, 20, 21, 22, 23, 24, 28, 29, 30, 31, 32, 33, 34, 35, 36, 37, 38, 39, 40, 41, 42, 43, 44, 45, 46, 47, 48, 49, 50, 51, 52, 53, 54, 55, 56, 57, 58, 59, 60, 61, 62, 63, 64, 65, 66, 67, 68, 69, 70, 71, 72, 73, 74, 75] (k_msub rfl), hW.2.1.sub [0, 25, 26, 27, 1, 2, 3, 4, 5, 6, 7, 8, 9, 10, 11, 12, 13, 14, 15, 16, 17, 18, 19, 20, 21, 22, 23, 24, 28, 29, 30, 31, 32, 33, 34, 35, 36, 37, 38, 39, 40, 41, 42, 43, 44, 45, 46, 47, 48, 49, 50, 51, 52, 53, 54, 55, 56, 57, 58, 59, 60, 61, 62, 63, 64, 65, 66, 67, 68, 69, 70, 71, 72, 73, 74, 75] (by decide) rfl, hW.2.2⟩
  exact hret 112 _ _ _ _ _ _ dX2_init_112 hW ⟨(fun i => [h, q3, q4, q5].getD i 0), (fun i => if i = 0 then a0 else if i = 1 then a1 else if i = 2 then a2 else if i = 3 then a6 else if i = 4 then a7 else if i = 5 then a8 else if i = 6 then a9 else if i = 7 then a10 else a11), rfl, rfl⟩ (Nat.le_of_ble_eq_true rfl) (Nat.le_of_ble_eq_true rfl)
