/-! ===== the law looks at the teeth and the notes ===== -/
theorem bt_n0 {b : Bool} (h : ¬ b.toNat = 0) : b = true := by cases b <;> first | rfl | (exact absurd rfl h)
abbrev rmL_areTeethSo : Room := { frames := 6, cells := 0, slots := 0, locals := 130 }
theorem pdL_areTeethSo : kPd yL_areTeethSo 1 := by decide +kernel
set_option maxHeartbeats 400000 in
set_option maxRecDepth 100000 in
theorem mL_areTeethSo (l : Launch) (D : va_G) (c : Nat → ClassId) (a : Nat → Nat) (b : Nat → Nat → Nat) (θ : Nat → Nat → Nat → Nat) (ρ κ : Nat → Nat → Nat) (sz : Nat) (T : Nat) (iv : Iv (θ 0) T) (hT : T < 100000000) (f1 : vf_n64 (FP.dmul (FP.i2d (nI (θ 0 14 0 - θ 0 15 0))) FP.dconst1)) (f2 : FP.dmul (FP.i2d (nI (θ 0 14 0 - θ 0 15 0))) FP.dconst1 = FP.i2d (nI (θ 0 14 0 - θ 0 15 0))) (f3 : ¬ θ 0 14 0 = 0 → vf_n64 (FP.ddiv (FP.i2d (nI (θ 0 14 0 - θ 0 15 0))) (FP.i2d (nI (θ 0 14 0))))) (f4 : Op.cmpValue (FP.dcmp (sh (θ 0 14 0) (θ 0 15 0)) (sh (θ 0 14 0) (θ 0 15 0))) CmpOp.l = 0) : MI2 l yL_areTeethSo wsL_areTeethSo rmL_areTeethSo D c sz (wP c a b θ ρ κ) [.ref (a 0)] (nI (true).toNat) (wP c a b θ ρ κ) := by
  refine MI2.of (cc := cL_areTeethSo) (maxL := 8) (ty := .boolean) (by decide) rfl (Nat.le_of_ble_eq_true rfl) (k_narB _) ?_
  intro P e s m below meth cd A Q ls hsz S hK hN hW hA hl hret
  have hl : lv_has ls 8 [(0, .ref (a 0))] := hl
  have ok := iv.1.1
  have h9 : θ 0 9 0 < 3 := ok.2.2.2.2.2.2.1
  have h12 : θ 0 12 0 ≤ T := ok.2.2.2.2.2.2.2.2.2.1
  have h14 : θ 0 14 0 ≤ T := ok.2.2.2.2.2.2.2.2.2.2.1
  have h15 : θ 0 15 0 ≤ T := ok.2.2.2.2.2.2.2.2.2.2.2
  have h7 : θ 0 7 0 < 4096 := ok.2.2.2.2.1
  obtain ⟨⟨-, -, ⟨g13, g16, g2⟩, gr, gb, gs, gn, gm⟩, g11⟩ := id iv
  refine lv_iconst (v := nI (0)) S.1 S.2.1 dL_areTeethSo_0 rfl ?_
  refine lv_istore_n (lv' := [(1, .int (nI (0))), (0, .ref (a 0))]) S.1 S.2.1 dL_areTeethSo_1 rfl hl (by decide) rfl (fun ls hl => ?_)
  refine lv_iconst (v := nI (0)) S.1 S.2.1 dL_areTeethSo_2 rfl ?_
  refine lv_istore_n (lv' := [(2, .int (nI (0))), (1, .int (nI (0))), (0, .ref (a 0))]) S.1 S.2.1 dL_areTeethSo_3 rfl hl (by decide) rfl (fun ls hl => ?_)
  refine lv_iconst (v := nI (0)) S.1 S.2.1 dL_areTeethSo_4 rfl ?_
  refine lv_istore_n (lv' := [(3, .int (nI (0))), (2, .int (nI (0))), (1, .int (nI (0))), (0, .ref (a 0))]) S.1 S.2.1 dL_areTeethSo_5 rfl hl (by decide) rfl (fun ls hl => ?_)
  refine lv_iconst (v := nI (1)) S.1 S.2.1 dL_areTeethSo_6 rfl ?_
  refine lv_istore (lv' := [(4, .int (nI (1))), (3, .int (nI (0))), (2, .int (nI (0))), (1, .int (nI (0))), (0, .ref (a 0))]) S.1 S.2.1 dL_areTeethSo_7 hl (by decide) rfl (fun ls hl => ?_)
  refine lv_iconst (v := nI (0)) S.1 S.2.1 dL_areTeethSo_9 rfl ?_
  refine lv_istore (lv' := [(5, .int (nI (0))), (4, .int (nI (1))), (3, .int (nI (0))), (2, .int (nI (0))), (1, .int (nI (0))), (0, .ref (a 0))]) S.1 S.2.1 dL_areTeethSo_10 hl (by decide) rfl (fun ls hl => ?_)
  refine k_loop (fun (zz : Nat) H lo ls => match zz with | j => kw D A s.heap (wP c a b θ ρ κ) H lo ∧ lv_has ls 8 [(0, .ref (a 0)), (1, .int (nI (sm (θ 0 3) j))), (2, .int (nI (rgS (θ 0) j))), (3, .int (nI (ct (fun i => (θ 0 7 0).testBit i) j))), (4, .int (nI (1))), (5, .int (nI (j)))] ∧ j ≤ 12) (fun (zz : Nat) => match zz with | j => 12 - j) [] ?_ 0 _ _ _ ⟨hW, lv_sub hl [5, 4, 3, 2, 1, 0] rfl, (by decide)⟩
  rintro j ih12 H locs ls ⟨hW, hl, hi12_0⟩
  refine lv_iload S.1 S.2.1 dL_areTeethSo_12 (lv_at hl 5 rfl) ?_
  refine lv_bipush (v := nI (12)) S.1 S.2.1 dL_areTeethSo_14 rfl ?_
  refine kn_ge S (tgt := 233) dL_areTeethSo_16 (by decide) (by omega) (by omega) (fun c_16 => ?_) (fun c_16 => ?_)
  · have e9 : j = 12 := by omega
    subst e9
    have hrg := ct_le (fun i => decide (0 < θ 0 1 i - θ 0 12 0)) 12
    have hrg2 : rgS (θ 0) 12 ≤ 12 := hrg
    have hbr := ct_le (fun i => (θ 0 7 0).testBit i) 12
    have hon := ones12 h7
    refine lv_iconst (v := nI (0)) S.1 S.2.1 dL_areTeethSo_233 rfl ?_
    refine lv_istore (lv' := [(5, .int (nI (0))), (0, .ref (a 0)), (1, .int (nI (sm (θ 0 3) 12))), (2, .int (nI (rgS (θ 0) 12))), (3, .int (nI (ct (fun i => (θ 0 7 0).testBit i) 12))), (4, .int (nI (1)))]) S.1 S.2.1 dL_areTeethSo_234 hl (by decide) rfl (fun ls hl => ?_)
    refine k_loop (fun (zz : Nat) H lo ls => match zz with | b1 => kw D A s.heap (wP c a b θ ρ κ) H lo ∧ lv_has ls 8 [(0, .ref (a 0)), (1, .int (nI (sm (θ 0 3) 12))), (2, .int (nI (rgS (θ 0) 12))), (3, .int (nI (ct (fun i => (θ 0 7 0).testBit i) 12))), (4, .int (nI (1))), (5, .int (nI (b1)))] ∧ b1 ≤ 24) (fun (zz : Nat) => match zz with | b1 => 24 - b1) [] ?_ 0 _ _ _ ⟨hW, lv_sub hl [1, 2, 3, 4, 5, 0] rfl, (by decide)⟩
    rintro b1 ih236 H locs ls ⟨hW, hl, hi236_0⟩
    refine lv_iload S.1 S.2.1 dL_areTeethSo_236 (lv_at hl 5 rfl) ?_
    refine lv_bipush (v := nI (24)) S.1 S.2.1 dL_areTeethSo_238 rfl ?_
    refine kn_ge S (tgt := 365) dL_areTeethSo_240 (by decide) (by omega) (by omega) (fun c_240 => ?_) (fun c_240 => ?_)
    · have e9 : b1 = 24 := by omega
      subst e9
      refine k_join (fun (zz : Unit) H lo ls => match zz with | () => kw D A s.heap (wP c a b θ ρ κ) H lo ∧ lv_has ls 8 [(0, .ref (a 0)), (1, .int (nI (sm (θ 0 3) 12))), (2, .int (nI (rgS (θ 0) 12))), (3, .int (nI (ct (fun i => (θ 0 7 0).testBit i) 12))), (4, .int (nI (1))), (5, .int (nI (24)))]) 387 (fun (zz : Unit) => match zz with | () => [.int (nI (θ 0 14 0 - θ 0 15 0))]) ?_ ?_
      · rintro ⟨⟩ H locs ls ⟨hW, hl⟩
        refine lv_istore (lv' := [(5, .int (nI (θ 0 14 0 - θ 0 15 0))), (0, .ref (a 0)), (1, .int (nI (sm (θ 0 3) 12))), (2, .int (nI (rgS (θ 0) 12))), (3, .int (nI (ct (fun i => (θ 0 7 0).testBit i) 12))), (4, .int (nI (1)))]) S.1 S.2.1 dL_areTeethSo_387 hl (by decide) rfl (fun ls hl => ?_)
        refine k_join (fun (zz : Unit) H lo ls => match zz with | () => kw D A s.heap (wP c a b θ ρ κ) H lo ∧ lv_has ls 8 [(5, .int (nI (θ 0 14 0 - θ 0 15 0))), (0, .ref (a 0)), (1, .int (nI (sm (θ 0 3) 12))), (2, .int (nI (rgS (θ 0) 12))), (3, .int (nI (ct (fun i => (θ 0 7 0).testBit i) 12))), (4, .int (nI (1)))]) 405 (fun (zz : Unit) => match zz with | () => [.double (sh (θ 0 14 0) (θ 0 15 0))]) ?_ ?_
        · rintro ⟨⟩ H locs ls ⟨hW, hl⟩
          refine lv_dstore (lv' := [(6, .double (sh (θ 0 14 0) (θ 0 15 0))), (5, .int (nI (θ 0 14 0 - θ 0 15 0))), (0, .ref (a 0)), (1, .int (nI (sm (θ 0 3) 12))), (2, .int (nI (rgS (θ 0) 12))), (3, .int (nI (ct (fun i => (θ 0 7 0).testBit i) 12))), (4, .int (nI (1)))]) S.1 S.2.1 dL_areTeethSo_405 hl (by decide) rfl (fun ls hl => ?_)
          refine lv_iload S.1 S.2.1 dL_areTeethSo_407 (lv_at hl 6 rfl) ?_
          refine kz_eq S (tgt := 506) dL_areTeethSo_409 (by decide) (by omega) (fun c_409 => ?_) (fun c_409 => ?_)
          · exact absurd c_409 (by decide)
          · refine lv_iload_n S.1 S.2.1 dL_areTeethSo_412 rfl (lv_at hl 3 rfl) ?_
            refine lv_aload_n S.1 S.2.1 dL_areTeethSo_413 rfl (lv_at hl 2 rfl) ?_
            refine lv_bipush (v := nI (6)) S.1 S.2.1 dL_areTeethSo_414 rfl ?_
            refine k_VI2 (rest := [.int (nI (sm (θ 0 3) 12))]) S hK hl.1 hW (KFr.all hW hA) hN (mX2_count_k l D c a b θ ρ κ _ 6 T (by first | omega | exact hw | assumption | (show 6 < 18; omega) | rfl) ok (by first | omega | exact hT | assumption | (show T < 500000000; omega) | rfl)) gL_areTeethSo_X2_count rfl pdX2_count ⟨⟨rfl, rfl⟩, Nat.le_of_ble_eq_true rfl, Nat.le_of_ble_eq_true rfl⟩ 0 2 rfl rfl rfl rfl (Nat.le_of_ble_eq_true rfl) dL_areTeethSo_416 ⟨Nat.le_of_ble_eq_true rfl, Nat.le_of_ble_eq_true rfl⟩ (fun H locs hW => ?_)
            have hW : kw D A s.heap (wP c a b θ ρ κ) H locs := hW
            refine k_top (y := nI ((if 6 = 17 then (κ 3 0) else numN (((θ 0))) 6))) rfl ?_
            refine k_top (y := nI ((θ 0) 14 0)) (cn_6 _ _) ?_
            refine kn_ne S (tgt := 506) dL_areTeethSo_419 (by decide) (by omega) (by omega) (fun c_419 => ?_) (fun c_419 => ?_)
            · exact absurd gs c_419
            · refine lv_iload_n S.1 S.2.1 dL_areTeethSo_422 rfl (lv_at hl 4 rfl) ?_
              refine lv_aload_n S.1 S.2.1 dL_areTeethSo_423 rfl (lv_at hl 2 rfl) ?_
              refine lv_bipush (v := nI (8)) S.1 S.2.1 dL_areTeethSo_424 rfl ?_
              refine k_VI2 (rest := [.int (nI (rgS (θ 0) 12))]) S hK hl.1 hW (KFr.all hW hA) hN (mX2_count_k l D c a b θ ρ κ _ 8 T (by first | omega | exact hw | assumption | (show 8 < 18; omega) | rfl) ok (by first | omega | exact hT | assumption | (show T < 500000000; omega) | rfl)) gL_areTeethSo_X2_count rfl pdX2_count ⟨⟨rfl, rfl⟩, Nat.le_of_ble_eq_true rfl, Nat.le_of_ble_eq_true rfl⟩ 0 2 rfl rfl rfl rfl (Nat.le_of_ble_eq_true rfl) dL_areTeethSo_426 ⟨Nat.le_of_ble_eq_true rfl, Nat.le_of_ble_eq_true rfl⟩ (fun H locs hW => ?_)
              have hW : kw D A s.heap (wP c a b θ ρ κ) H locs := hW
              refine k_top (y := nI ((if 8 = 17 then (κ 3 0) else numN (((θ 0))) 8))) rfl ?_
              refine k_top (y := nI (rgS ((θ 0)) 12)) (cn_8 _ _) ?_
              refine kn_ne S (tgt := 506) dL_areTeethSo_429 (by decide) (by omega) (by omega) (fun c_429 => ?_) (fun c_429 => ?_)
              · exact absurd rfl c_429
              · refine lv_iload_n S.1 S.2.1 dL_areTeethSo_432 rfl (lv_at hl 5 rfl) ?_
                refine lv_aload_n S.1 S.2.1 dL_areTeethSo_433 rfl (lv_at hl 2 rfl) ?_
                refine lv_bipush (v := nI (9)) S.1 S.2.1 dL_areTeethSo_434 rfl ?_
                refine k_VI2 (rest := [.int (nI (ct (fun i => (θ 0 7 0).testBit i) 12))]) S hK hl.1 hW (KFr.all hW hA) hN (mX2_count_k l D c a b θ ρ κ _ 9 T (by first | omega | exact hw | assumption | (show 9 < 18; omega) | rfl) ok (by first | omega | exact hT | assumption | (show T < 500000000; omega) | rfl)) gL_areTeethSo_X2_count rfl pdX2_count ⟨⟨rfl, rfl⟩, Nat.le_of_ble_eq_true rfl, Nat.le_of_ble_eq_true rfl⟩ 0 2 rfl rfl rfl rfl (Nat.le_of_ble_eq_true rfl) dL_areTeethSo_436 ⟨Nat.le_of_ble_eq_true rfl, Nat.le_of_ble_eq_true rfl⟩ (fun H locs hW => ?_)
                have hW : kw D A s.heap (wP c a b θ ρ κ) H locs := hW
                refine k_top (y := nI ((if 9 = 17 then (κ 3 0) else numN (((θ 0))) 9))) rfl ?_
                refine k_top (y := nI (ones ((θ 0) 7 0))) (cn_9 _ _) ?_
                refine kn_ne S (tgt := 506) dL_areTeethSo_439 (by decide) (by omega) (by omega) (fun c_439 => ?_) (fun c_439 => ?_)
                · exact absurd hon.symm c_439
                · refine lv_aload_n S.1 S.2.1 dL_areTeethSo_442 rfl (lv_at hl 2 rfl) ?_
                  refine lv_bipush (v := nI (11)) S.1 S.2.1 dL_areTeethSo_443 rfl ?_
                  refine k_VI2 (rest := []) S hK hl.1 hW (KFr.all hW hA) hN (mX2_count_k l D c a b θ ρ κ _ 11 T (by first | omega | exact hw | assumption | (show 11 < 18; omega) | rfl) ok (by first | omega | exact hT | assumption | (show T < 500000000; omega) | rfl)) gL_areTeethSo_X2_count rfl pdX2_count ⟨⟨rfl, rfl⟩, Nat.le_of_ble_eq_true rfl, Nat.le_of_ble_eq_true rfl⟩ 0 2 rfl rfl rfl rfl (Nat.le_of_ble_eq_true rfl) dL_areTeethSo_445 ⟨Nat.le_of_ble_eq_true rfl, Nat.le_of_ble_eq_true rfl⟩ (fun H locs hW => ?_)
                  have hW : kw D A s.heap (wP c a b θ ρ κ) H locs := hW
                  refine k_top (y := nI ((if 11 = 17 then (κ 3 0) else numN (((θ 0))) 11))) rfl ?_
                  refine k_top (y := nI ((θ 0) 16 0)) (cn_11 _ _) ?_
                  refine lv_aload_n S.1 S.2.1 dL_areTeethSo_448 rfl (lv_at hl 2 rfl) ?_
                  refine lv_iconst (v := nI (5)) S.1 S.2.1 dL_areTeethSo_449 rfl ?_
                  refine k_VI2 (rest := [.int (nI ((θ 0) 16 0))]) S hK hl.1 hW (KFr.all hW hA) hN (mX2_count_k l D c a b θ ρ κ _ 5 T (by first | omega | exact hw | assumption | (show 5 < 18; omega) | rfl) ok (by first | omega | exact hT | assumption | (show T < 500000000; omega) | rfl)) gL_areTeethSo_X2_count rfl pdX2_count ⟨⟨rfl, rfl⟩, Nat.le_of_ble_eq_true rfl, Nat.le_of_ble_eq_true rfl⟩ 0 2 rfl rfl rfl rfl (Nat.le_of_ble_eq_true rfl) dL_areTeethSo_450 ⟨Nat.le_of_ble_eq_true rfl, Nat.le_of_ble_eq_true rfl⟩ (fun H locs hW => ?_)
                  have hW : kw D A s.heap (wP c a b θ ρ κ) H locs := hW
                  refine k_top (y := nI ((if 5 = 17 then (κ 3 0) else numN (((θ 0))) 5))) rfl ?_
                  refine k_top (y := nI ((θ 0) 13 0)) (cn_5 _ _) ?_
                  refine kn_lt S (tgt := 506) dL_areTeethSo_453 (by decide) (by omega) (by omega) (fun c_453 => ?_) (fun c_453 => ?_)
                  · exact absurd c_453 (by omega)
                  · refine lv_aload_n S.1 S.2.1 dL_areTeethSo_456 rfl (lv_at hl 2 rfl) ?_
                    refine lv_bipush (v := nI (11)) S.1 S.2.1 dL_areTeethSo_457 rfl ?_
                    refine k_VI2 (rest := []) S hK hl.1 hW (KFr.all hW hA) hN (mX2_count_k l D c a b θ ρ κ _ 11 T (by first | omega | exact hw | assumption | (show 11 < 18; omega) | rfl) ok (by first | omega | exact hT | assumption | (show T < 500000000; omega) | rfl)) gL_areTeethSo_X2_count rfl pdX2_count ⟨⟨rfl, rfl⟩, Nat.le_of_ble_eq_true rfl, Nat.le_of_ble_eq_true rfl⟩ 0 2 rfl rfl rfl rfl (Nat.le_of_ble_eq_true rfl) dL_areTeethSo_459 ⟨Nat.le_of_ble_eq_true rfl, Nat.le_of_ble_eq_true rfl⟩ (fun H locs hW => ?_)
                    have hW : kw D A s.heap (wP c a b θ ρ κ) H locs := hW
                    refine k_top (y := nI ((if 11 = 17 then (κ 3 0) else numN (((θ 0))) 11))) rfl ?_
                    refine k_top (y := nI ((θ 0) 16 0)) (cn_11 _ _) ?_
                    refine lv_aload_n S.1 S.2.1 dL_areTeethSo_462 rfl (lv_at hl 2 rfl) ?_
                    refine lv_bipush (v := nI (6)) S.1 S.2.1 dL_areTeethSo_463 rfl ?_
                    refine k_VI2 (rest := [.int (nI ((θ 0) 16 0))]) S hK hl.1 hW (KFr.all hW hA) hN (mX2_count_k l D c a b θ ρ κ _ 6 T (by first | omega | exact hw | assumption | (show 6 < 18; omega) | rfl) ok (by first | omega | exact hT | assumption | (show T < 500000000; omega) | rfl)) gL_areTeethSo_X2_count rfl pdX2_count ⟨⟨rfl, rfl⟩, Nat.le_of_ble_eq_true rfl, Nat.le_of_ble_eq_true rfl⟩ 0 2 rfl rfl rfl rfl (Nat.le_of_ble_eq_true rfl) dL_areTeethSo_465 ⟨Nat.le_of_ble_eq_true rfl, Nat.le_of_ble_eq_true rfl⟩ (fun H locs hW => ?_)
                    have hW : kw D A s.heap (wP c a b θ ρ κ) H locs := hW
                    refine k_top (y := nI ((if 6 = 17 then (κ 3 0) else numN (((θ 0))) 6))) rfl ?_
                    refine k_top (y := nI ((θ 0) 14 0)) (cn_6 _ _) ?_
                    refine lv_aload_n S.1 S.2.1 dL_areTeethSo_468 rfl (lv_at hl 2 rfl) ?_
                    refine lv_iconst (v := nI (5)) S.1 S.2.1 dL_areTeethSo_469 rfl ?_
                    refine k_VI2 (rest := [.int (nI ((θ 0) 14 0)), .int (nI ((θ 0) 16 0))]) S hK hl.1 hW (KFr.all hW hA) hN (mX2_count_k l D c a b θ ρ κ _ 5 T (by first | omega | exact hw | assumption | (show 5 < 18; omega) | rfl) ok (by first | omega | exact hT | assumption | (show T < 500000000; omega) | rfl)) gL_areTeethSo_X2_count rfl pdX2_count ⟨⟨rfl, rfl⟩, Nat.le_of_ble_eq_true rfl, Nat.le_of_ble_eq_true rfl⟩ 0 2 rfl rfl rfl rfl (Nat.le_of_ble_eq_true rfl) dL_areTeethSo_470 ⟨Nat.le_of_ble_eq_true rfl, Nat.le_of_ble_eq_true rfl⟩ (fun H locs hW => ?_)
                    have hW : kw D A s.heap (wP c a b θ ρ κ) H locs := hW
                    refine k_top (y := nI ((if 5 = 17 then (κ 3 0) else numN (((θ 0))) 5))) rfl ?_
                    refine k_top (y := nI ((θ 0) 13 0)) (cn_5 _ _) ?_
                    refine kn_iadd S dL_areTeethSo_473 ?_
                    refine kn_lt S (tgt := 506) dL_areTeethSo_474 (by decide) (by omega) (by omega) (fun c_474 => ?_) (fun c_474 => ?_)
                    · exact absurd c_474 (by omega)
                    · refine lv_aload_n S.1 S.2.1 dL_areTeethSo_477 rfl (lv_at hl 2 rfl) ?_
                      refine lv_iconst (v := nI (4)) S.1 S.2.1 dL_areTeethSo_478 rfl ?_
                      refine k_VI2 (rest := []) S hK hl.1 hW (KFr.all hW hA) hN (mX2_count_k l D c a b θ ρ κ _ 4 T (by first | omega | exact hw | assumption | (show 4 < 18; omega) | rfl) ok (by first | omega | exact hT | assumption | (show T < 500000000; omega) | rfl)) gL_areTeethSo_X2_count rfl pdX2_count ⟨⟨rfl, rfl⟩, Nat.le_of_ble_eq_true rfl, Nat.le_of_ble_eq_true rfl⟩ 0 2 rfl rfl rfl rfl (Nat.le_of_ble_eq_true rfl) dL_areTeethSo_479 ⟨Nat.le_of_ble_eq_true rfl, Nat.le_of_ble_eq_true rfl⟩ (fun H locs hW => ?_)
                      have hW : kw D A s.heap (wP c a b θ ρ κ) H locs := hW
                      refine k_top (y := nI ((if 4 = 17 then (κ 3 0) else numN (((θ 0))) 4))) rfl ?_
                      refine k_top (y := nI ((θ 0) 12 0)) (cn_4 _ _) ?_
                      refine lv_iconst (v := nI (2)) S.1 S.2.1 dL_areTeethSo_482 rfl ?_
                      refine lv_aload_n S.1 S.2.1 dL_areTeethSo_483 rfl (lv_at hl 2 rfl) ?_
                      refine lv_iconst (v := nI (5)) S.1 S.2.1 dL_areTeethSo_484 rfl ?_
                      refine k_VI2 (rest := [.int (nI (2)), .int (nI ((θ 0) 12 0))]) S hK hl.1 hW (KFr.all hW hA) hN (mX2_count_k l D c a b θ ρ κ _ 5 T (by first | omega | exact hw | assumption | (show 5 < 18; omega) | rfl) ok (by first | omega | exact hT | assumption | (show T < 500000000; omega) | rfl)) gL_areTeethSo_X2_count rfl pdX2_count ⟨⟨rfl, rfl⟩, Nat.le_of_ble_eq_true rfl, Nat.le_of_ble_eq_true rfl⟩ 0 2 rfl rfl rfl rfl (Nat.le_of_ble_eq_true rfl) dL_areTeethSo_485 ⟨Nat.le_of_ble_eq_true rfl, Nat.le_of_ble_eq_true rfl⟩ (fun H locs hW => ?_)
                      have hW : kw D A s.heap (wP c a b θ ρ κ) H locs := hW
                      refine k_top (y := nI ((if 5 = 17 then (κ 3 0) else numN (((θ 0))) 5))) rfl ?_
                      refine k_top (y := nI ((θ 0) 13 0)) (cn_5 _ _) ?_
                      refine kn_imul S dL_areTeethSo_488 ?_
                      refine kn_lt S (tgt := 506) dL_areTeethSo_489 (by decide) (by omega) (by omega) (fun c_489 => ?_) (fun c_489 => ?_)
                      · exact absurd c_489 (by omega)
                      · refine lv_aload_n S.1 S.2.1 dL_areTeethSo_492 rfl (lv_at hl 2 rfl) ?_
                        refine k_VD2 (rest := []) S hK hl.1 hW (KFr.all hW hA) hN (mX2_clean l D c a b θ ρ κ _ T ok (by first | omega | exact hT | assumption | (show T < 500000000; omega) | rfl) f3) gL_areTeethSo_X2_clean rfl pdX2_clean ⟨⟨rfl, rfl⟩, Nat.le_of_ble_eq_true rfl, Nat.le_of_ble_eq_true rfl⟩ 0 2 rfl rfl rfl rfl (Nat.le_of_ble_eq_true rfl) dL_areTeethSo_493 ⟨Nat.le_of_ble_eq_true rfl, Nat.le_of_ble_eq_true rfl⟩ (fun H locs hW => ?_)
                        have hW : kw D A s.heap (wP c a b θ ρ κ) H locs := hW
                        refine lv_dload S.1 S.2.1 dL_areTeethSo_496 (lv_at hl 0 rfl) ?_
                        refine lv_dcmp S.1 S.2.1 dL_areTeethSo_498 ?_
                        refine lv_if_ne (tgt := 506) S.1 S.2.1 dL_areTeethSo_499 (by decide) (fun c_499 => ?_) (fun c_499 => ?_)
                        · exact absurd f4 c_499
                        · refine lv_iconst (v := nI (1)) S.1 S.2.1 dL_areTeethSo_502 rfl ?_
                          refine lv_goto (tgt := 507) S.1 S.2.1 dL_areTeethSo_503 (by decide) ?_
                          exact hret 507 _ _ _ _ _ dL_areTeethSo_507 hW (rfl) (rfl)
        · intro jn389
          refine lv_iload_n S.1 S.2.1 dL_areTeethSo_389 rfl (lv_at hl 2 rfl) ?_
          refine kz_ne S (tgt := 397) dL_areTeethSo_390 (by decide) (by omega) (fun c_390 => ?_) (fun c_390 => ?_)
          · have hn0 : ¬ θ 0 14 0 = 0 := fun e => c_390 (gs.trans e)
            refine lv_iload S.1 S.2.1 dL_areTeethSo_397 (lv_at hl 0 rfl) ?_
            refine lv_i2d S.1 S.2.1 dL_areTeethSo_399 ?_
            refine lv_dconst1 S.1 S.2.1 dL_areTeethSo_400 ?_
            refine lv_dmul S.1 S.2.1 dL_areTeethSo_401 f1 ?_
            refine lv_iload_n S.1 S.2.1 dL_areTeethSo_402 rfl (lv_at hl 2 rfl) ?_
            refine lv_i2d S.1 S.2.1 dL_areTeethSo_403 ?_
            refine lv_ddiv S.1 S.2.1 dL_areTeethSo_404 (by rw [f2, gs]; exact f3 hn0) ?_
            refine k_topd (y := sh (θ 0 14 0) (θ 0 15 0)) ((by rw [f2, gs]; exact (if_neg hn0).symm)) ?_
            exact jn389 () _ _ _ ⟨hW, lv_sub hl [0, 1, 2, 3, 4, 5] rfl⟩
          · refine lv_dconst1 S.1 S.2.1 dL_areTeethSo_393 ?_
            refine k_topd (y := sh (θ 0 14 0) (θ 0 15 0)) ((if_pos (gs.symm.trans c_390)).symm) ?_
            refine lv_goto (tgt := 405) S.1 S.2.1 dL_areTeethSo_394 (by decide) ?_
            exact jn389 () _ _ _ ⟨hW, lv_sub hl [0, 1, 2, 3, 4, 5] rfl⟩
      · intro jn365
        refine lv_iload_n S.1 S.2.1 dL_areTeethSo_365 rfl (lv_at hl 1 rfl) ?_
        refine lv_aload_n S.1 S.2.1 dL_areTeethSo_366 rfl (lv_at hl 0 rfl) ?_
        refine lv_bipush (v := nI (7)) S.1 S.2.1 dL_areTeethSo_367 rfl ?_
        refine k_VI2 (rest := [.int (nI (sm (θ 0 3) 12))]) S hK hl.1 hW (KFr.all hW hA) hN (mX2_count_k l D c a b θ ρ κ _ 7 T (by first | omega | exact hw | assumption | (show 7 < 18; omega) | rfl) ok (by first | omega | exact hT | assumption | (show T < 500000000; omega) | rfl)) gL_areTeethSo_X2_count rfl pdX2_count ⟨⟨rfl, rfl⟩, Nat.le_of_ble_eq_true rfl, Nat.le_of_ble_eq_true rfl⟩ 0 2 rfl rfl rfl rfl (Nat.le_of_ble_eq_true rfl) dL_areTeethSo_369 ⟨Nat.le_of_ble_eq_true rfl, Nat.le_of_ble_eq_true rfl⟩ (fun H locs hW => ?_)
        have hW : kw D A s.heap (wP c a b θ ρ κ) H locs := hW
        refine k_top (y := nI ((if 7 = 17 then (κ 3 0) else numN (((θ 0))) 7))) rfl ?_
        refine k_top (y := nI ((θ 0) 15 0)) (cn_7 _ _) ?_
        refine kn_le S (tgt := 386) dL_areTeethSo_372 (by decide) (by omega) (by omega) (fun c_372 => ?_) (fun c_372 => ?_)
        · refine lv_iconst (v := nI (0)) S.1 S.2.1 dL_areTeethSo_386 rfl ?_
          refine k_top (y := nI (θ 0 14 0 - θ 0 15 0)) (congrArg nI (by omega)) ?_
          exact jn365 () _ _ _ ⟨hW, lv_sub hl [0, 1, 2, 3, 4, 5] rfl⟩
        · refine lv_iload_n S.1 S.2.1 dL_areTeethSo_375 rfl (lv_at hl 1 rfl) ?_
          refine lv_aload_n S.1 S.2.1 dL_areTeethSo_376 rfl (lv_at hl 0 rfl) ?_
          refine lv_bipush (v := nI (7)) S.1 S.2.1 dL_areTeethSo_377 rfl ?_
          refine k_VI2 (rest := [.int (nI (sm (θ 0 3) 12))]) S hK hl.1 hW (KFr.all hW hA) hN (mX2_count_k l D c a b θ ρ κ _ 7 T (by first | omega | exact hw | assumption | (show 7 < 18; omega) | rfl) ok (by first | omega | exact hT | assumption | (show T < 500000000; omega) | rfl)) gL_areTeethSo_X2_count rfl pdX2_count ⟨⟨rfl, rfl⟩, Nat.le_of_ble_eq_true rfl, Nat.le_of_ble_eq_true rfl⟩ 0 2 rfl rfl rfl rfl (Nat.le_of_ble_eq_true rfl) dL_areTeethSo_379 ⟨Nat.le_of_ble_eq_true rfl, Nat.le_of_ble_eq_true rfl⟩ (fun H locs hW => ?_)
          have hW : kw D A s.heap (wP c a b θ ρ κ) H locs := hW
          refine k_top (y := nI ((if 7 = 17 then (κ 3 0) else numN (((θ 0))) 7))) rfl ?_
          refine k_top (y := nI ((θ 0) 15 0)) (cn_7 _ _) ?_
          refine kn_isub S dL_areTeethSo_382 (by omega) ?_
          refine k_top (y := nI (θ 0 14 0 - θ 0 15 0)) (congrArg (fun z => nI (z - θ 0 15 0)) gs) ?_
          refine lv_goto (tgt := 387) S.1 S.2.1 dL_areTeethSo_383 (by decide) ?_
          exact jn365 () _ _ _ ⟨hW, lv_sub hl [0, 1, 2, 3, 4, 5] rfl⟩
    · refine lv_iload S.1 S.2.1 dL_areTeethSo_243 (lv_at hl 5 rfl) ?_
      refine lv_iload_n S.1 S.2.1 dL_areTeethSo_245 rfl (lv_at hl 1 rfl) ?_
      refine kn_ge S (tgt := 253) dL_areTeethSo_246 (by decide) (by omega) (by omega) (fun c_246 => ?_) (fun c_246 => ?_)
      · have hmn : ¬ b1 < min 24 (θ 0 14 0) := by omega
        refine lv_iconst (v := nI (0)) S.1 S.2.1 dL_areTeethSo_253 rfl ?_
        refine lv_istore (lv' := [(6, .int (nI (0))), (0, .ref (a 0)), (1, .int (nI (sm (θ 0 3) 12))), (2, .int (nI (rgS (θ 0) 12))), (3, .int (nI (ct (fun i => (θ 0 7 0).testBit i) 12))), (4, .int (nI (1))), (5, .int (nI (b1)))]) S.1 S.2.1 dL_areTeethSo_254 hl (by decide) rfl (fun ls hl => ?_)
        refine lv_iload S.1 S.2.1 dL_areTeethSo_256 (lv_at hl 5 rfl) ?_
        refine kz_eq S (tgt := 356) dL_areTeethSo_258 (by decide) (by omega) (fun c_258 => ?_) (fun c_258 => ?_)
        · exact absurd c_258 (by decide)
        · refine lv_iload S.1 S.2.1 dL_areTeethSo_261 (lv_at hl 0 rfl) ?_
          refine kz_eq S (tgt := 330) dL_areTeethSo_263 (by decide) (by omega) (fun c_263 => ?_) (fun c_263 => ?_)
          · refine lv_aload_n S.1 S.2.1 dL_areTeethSo_330 rfl (lv_at hl 1 rfl) ?_
            refine lv_iload S.1 S.2.1 dL_areTeethSo_331 (lv_at hl 6 rfl) ?_
            refine lv_iconst (v := nI (0)) S.1 S.2.1 dL_areTeethSo_333 rfl ?_
            refine k_VI2 (rest := []) S hK hl.1 hW (KFr.all hW hA) hN (mX2_note_k l D c a b θ ρ κ _ b1 0 T (by first | omega | exact hb | assumption | (show b1 < 24; omega) | rfl) (by first | omega | exact hw | assumption | (show 0 < 2; omega) | rfl) ok (by first | omega | exact hT | assumption | (show T < 500000000; omega) | rfl)) gL_areTeethSo_X2_note rfl pdX2_note ⟨⟨rfl, rfl⟩, Nat.le_of_ble_eq_true rfl, Nat.le_of_ble_eq_true rfl⟩ 0 2 rfl rfl rfl rfl (Nat.le_of_ble_eq_true rfl) dL_areTeethSo_334 ⟨Nat.le_of_ble_eq_true rfl, Nat.le_of_ble_eq_true rfl⟩ (fun H locs hW => ?_)
            have hW : kw D A s.heap (wP c a b θ ρ κ) H locs := hW
            refine k_top (y := nI ((if b1 < min 24 (((θ 0)) 14 0) then (if 0 = 0 then ((θ 0)) 4 ((((θ 0)) 14 0 - 1 - b1) % 24) else ((θ 0)) 5 ((((θ 0)) 14 0 - 1 - b1) % 24)) else 4294967295))) rfl ?_
            refine k_top (y := nI (4294967295)) (nt_n hmn) ?_
            refine lv_iconst (v := nI (4294967295)) S.1 S.2.1 dL_areTeethSo_337 rfl ?_
            refine kv_ne S (tgt := 356) dL_areTeethSo_338 (by decide) (by omega) (by omega) (fun c_338 => ?_) (fun c_338 => ?_)
            · exact absurd c_338 (by decide)
            · refine lv_aload_n S.1 S.2.1 dL_areTeethSo_341 rfl (lv_at hl 1 rfl) ?_
              refine lv_iload S.1 S.2.1 dL_areTeethSo_342 (lv_at hl 6 rfl) ?_
              refine lv_iconst (v := nI (1)) S.1 S.2.1 dL_areTeethSo_344 rfl ?_
              refine k_VI2 (rest := []) S hK hl.1 hW (KFr.all hW hA) hN (mX2_note_k l D c a b θ ρ κ _ b1 1 T (by first | omega | exact hb | assumption | (show b1 < 24; omega) | rfl) (by first | omega | exact hw | assumption | (show 1 < 2; omega) | rfl) ok (by first | omega | exact hT | assumption | (show T < 500000000; omega) | rfl)) gL_areTeethSo_X2_note rfl pdX2_note ⟨⟨rfl, rfl⟩, Nat.le_of_ble_eq_true rfl, Nat.le_of_ble_eq_true rfl⟩ 0 2 rfl rfl rfl rfl (Nat.le_of_ble_eq_true rfl) dL_areTeethSo_345 ⟨Nat.le_of_ble_eq_true rfl, Nat.le_of_ble_eq_true rfl⟩ (fun H locs hW => ?_)
              have hW : kw D A s.heap (wP c a b θ ρ κ) H locs := hW
              refine k_top (y := nI ((if b1 < min 24 (((θ 0)) 14 0) then (if 1 = 0 then ((θ 0)) 4 ((((θ 0)) 14 0 - 1 - b1) % 24) else ((θ 0)) 5 ((((θ 0)) 14 0 - 1 - b1) % 24)) else 4294967295))) rfl ?_
              refine k_top (y := nI (4294967295)) (nt_n hmn) ?_
              refine lv_iconst (v := nI (4294967295)) S.1 S.2.1 dL_areTeethSo_348 rfl ?_
              refine kv_ne S (tgt := 356) dL_areTeethSo_349 (by decide) (by omega) (by omega) (fun c_349 => ?_) (fun c_349 => ?_)
              · exact absurd c_349 (by decide)
              · refine lv_iconst (v := nI (1)) S.1 S.2.1 dL_areTeethSo_352 rfl ?_
                refine lv_goto (tgt := 357) S.1 S.2.1 dL_areTeethSo_353 (by decide) ?_
                refine lv_istore (lv' := [(4, .int (nI (1))), (6, .int (nI (0))), (0, .ref (a 0)), (1, .int (nI (sm (θ 0 3) 12))), (2, .int (nI (rgS (θ 0) 12))), (3, .int (nI (ct (fun i => (θ 0 7 0).testBit i) 12))), (5, .int (nI (b1)))]) S.1 S.2.1 dL_areTeethSo_357 hl (by decide) rfl (fun ls hl => ?_)
                refine lv_iinc (v := nI (b1 + 1)) (lv' := [(5, .int (nI (b1 + 1))), (4, .int (nI (1))), (6, .int (nI (0))), (0, .ref (a 0)), (1, .int (nI (sm (θ 0 3) 12))), (2, .int (nI (rgS (θ 0) 12))), (3, .int (nI (ct (fun i => (θ 0 7 0).testBit i) 12)))]) S.1 S.2.1 dL_areTeethSo_359 hl (k := 6) rfl (nI_add _ _) (by decide) rfl (fun ls hl => ?_)
                refine lv_goto (tgt := 236) S.1 S.2.1 dL_areTeethSo_362 (by decide) ?_
                exact ih236 (b1 + 1) _ _ _ ⟨hW, lv_sub hl [3, 4, 5, 6, 1, 0] rfl, (by omega)⟩ (by show 24 - (b1 + 1) < 24 - b1; omega)
          · exact absurd c_263 (by decide)
      · have hmn : b1 < min 24 (θ 0 14 0) := by omega
        have hgn := gn b1 c_240 (by omega)
        refine lv_iconst (v := nI (1)) S.1 S.2.1 dL_areTeethSo_249 rfl ?_
        refine lv_goto (tgt := 254) S.1 S.2.1 dL_areTeethSo_250 (by decide) ?_
        refine lv_istore (lv' := [(6, .int (nI (1))), (0, .ref (a 0)), (1, .int (nI (sm (θ 0 3) 12))), (2, .int (nI (rgS (θ 0) 12))), (3, .int (nI (ct (fun i => (θ 0 7 0).testBit i) 12))), (4, .int (nI (1))), (5, .int (nI (b1)))]) S.1 S.2.1 dL_areTeethSo_254 hl (by decide) rfl (fun ls hl => ?_)
        refine lv_iload S.1 S.2.1 dL_areTeethSo_256 (lv_at hl 5 rfl) ?_
        refine kz_eq S (tgt := 356) dL_areTeethSo_258 (by decide) (by omega) (fun c_258 => ?_) (fun c_258 => ?_)
        · exact absurd c_258 (by decide)
        · refine lv_iload S.1 S.2.1 dL_areTeethSo_261 (lv_at hl 0 rfl) ?_
          refine kz_eq S (tgt := 330) dL_areTeethSo_263 (by decide) (by omega) (fun c_263 => ?_) (fun c_263 => ?_)
          · exact absurd c_263 (by decide)
          · refine lv_aload_n S.1 S.2.1 dL_areTeethSo_266 rfl (lv_at hl 1 rfl) ?_
            refine lv_iload S.1 S.2.1 dL_areTeethSo_267 (lv_at hl 6 rfl) ?_
            refine lv_iconst (v := nI (0)) S.1 S.2.1 dL_areTeethSo_269 rfl ?_
            refine k_VI2 (rest := []) S hK hl.1 hW (KFr.all hW hA) hN (mX2_note_k l D c a b θ ρ κ _ b1 0 T (by first | omega | exact hb | assumption | (show b1 < 24; omega) | rfl) (by first | omega | exact hw | assumption | (show 0 < 2; omega) | rfl) ok (by first | omega | exact hT | assumption | (show T < 500000000; omega) | rfl)) gL_areTeethSo_X2_note rfl pdX2_note ⟨⟨rfl, rfl⟩, Nat.le_of_ble_eq_true rfl, Nat.le_of_ble_eq_true rfl⟩ 0 2 rfl rfl rfl rfl (Nat.le_of_ble_eq_true rfl) dL_areTeethSo_270 ⟨Nat.le_of_ble_eq_true rfl, Nat.le_of_ble_eq_true rfl⟩ (fun H locs hW => ?_)
            have hW : kw D A s.heap (wP c a b θ ρ κ) H locs := hW
            refine k_top (y := nI ((if b1 < min 24 (((θ 0)) 14 0) then (if 0 = 0 then ((θ 0)) 4 ((((θ 0)) 14 0 - 1 - b1) % 24) else ((θ 0)) 5 ((((θ 0)) 14 0 - 1 - b1) % 24)) else 4294967295))) rfl ?_
            refine k_top (y := nI (θ 0 4 ((θ 0 14 0 - 1 - b1) % 24))) (nt_0 hmn) ?_
            refine kz_lt S (tgt := 356) dL_areTeethSo_273 (by decide) (by omega) ?_
            refine lv_aload_n S.1 S.2.1 dL_areTeethSo_276 rfl (lv_at hl 1 rfl) ?_
            refine lv_iload S.1 S.2.1 dL_areTeethSo_277 (lv_at hl 6 rfl) ?_
            refine lv_iconst (v := nI (0)) S.1 S.2.1 dL_areTeethSo_279 rfl ?_
            refine k_VI2 (rest := []) S hK hl.1 hW (KFr.all hW hA) hN (mX2_note_k l D c a b θ ρ κ _ b1 0 T (by first | omega | exact hb | assumption | (show b1 < 24; omega) | rfl) (by first | omega | exact hw | assumption | (show 0 < 2; omega) | rfl) ok (by first | omega | exact hT | assumption | (show T < 500000000; omega) | rfl)) gL_areTeethSo_X2_note rfl pdX2_note ⟨⟨rfl, rfl⟩, Nat.le_of_ble_eq_true rfl, Nat.le_of_ble_eq_true rfl⟩ 0 2 rfl rfl rfl rfl (Nat.le_of_ble_eq_true rfl) dL_areTeethSo_280 ⟨Nat.le_of_ble_eq_true rfl, Nat.le_of_ble_eq_true rfl⟩ (fun H locs hW => ?_)
            have hW : kw D A s.heap (wP c a b θ ρ κ) H locs := hW
            refine k_top (y := nI ((if b1 < min 24 (((θ 0)) 14 0) then (if 0 = 0 then ((θ 0)) 4 ((((θ 0)) 14 0 - 1 - b1) % 24) else ((θ 0)) 5 ((((θ 0)) 14 0 - 1 - b1) % 24)) else 4294967295))) rfl ?_
            refine k_top (y := nI (θ 0 4 ((θ 0 14 0 - 1 - b1) % 24))) (nt_0 hmn) ?_
            refine lv_bipush (v := nI (12)) S.1 S.2.1 dL_areTeethSo_283 rfl ?_
            refine kn_ge S (tgt := 356) dL_areTeethSo_285 (by decide) (by omega) (by omega) (fun c_285 => ?_) (fun c_285 => ?_)
            · exact absurd c_285 (by omega)
            · refine lv_aload_n S.1 S.2.1 dL_areTeethSo_288 rfl (lv_at hl 1 rfl) ?_
              refine lv_iload S.1 S.2.1 dL_areTeethSo_289 (lv_at hl 6 rfl) ?_
              refine lv_iconst (v := nI (1)) S.1 S.2.1 dL_areTeethSo_291 rfl ?_
              refine k_VI2 (rest := []) S hK hl.1 hW (KFr.all hW hA) hN (mX2_note_k l D c a b θ ρ κ _ b1 1 T (by first | omega | exact hb | assumption | (show b1 < 24; omega) | rfl) (by first | omega | exact hw | assumption | (show 1 < 2; omega) | rfl) ok (by first | omega | exact hT | assumption | (show T < 500000000; omega) | rfl)) gL_areTeethSo_X2_note rfl pdX2_note ⟨⟨rfl, rfl⟩, Nat.le_of_ble_eq_true rfl, Nat.le_of_ble_eq_true rfl⟩ 0 2 rfl rfl rfl rfl (Nat.le_of_ble_eq_true rfl) dL_areTeethSo_292 ⟨Nat.le_of_ble_eq_true rfl, Nat.le_of_ble_eq_true rfl⟩ (fun H locs hW => ?_)
              have hW : kw D A s.heap (wP c a b θ ρ κ) H locs := hW
              refine k_top (y := nI ((if b1 < min 24 (((θ 0)) 14 0) then (if 1 = 0 then ((θ 0)) 4 ((((θ 0)) 14 0 - 1 - b1) % 24) else ((θ 0)) 5 ((((θ 0)) 14 0 - 1 - b1) % 24)) else 4294967295))) rfl ?_
              refine k_top (y := nI (θ 0 5 ((θ 0 14 0 - 1 - b1) % 24))) (nt_1 hmn) ?_
              refine lv_aload_n S.1 S.2.1 dL_areTeethSo_295 rfl (lv_at hl 1 rfl) ?_
              refine lv_iconst (v := nI (4)) S.1 S.2.1 dL_areTeethSo_296 rfl ?_
              refine k_VI2 (rest := [.int (nI (θ 0 5 ((θ 0 14 0 - 1 - b1) % 24)))]) S hK hl.1 hW (KFr.all hW hA) hN (mX2_count_k l D c a b θ ρ κ _ 4 T (by first | omega | exact hw | assumption | (show 4 < 18; omega) | rfl) ok (by first | omega | exact hT | assumption | (show T < 500000000; omega) | rfl)) gL_areTeethSo_X2_count rfl pdX2_count ⟨⟨rfl, rfl⟩, Nat.le_of_ble_eq_true rfl, Nat.le_of_ble_eq_true rfl⟩ 0 2 rfl rfl rfl rfl (Nat.le_of_ble_eq_true rfl) dL_areTeethSo_297 ⟨Nat.le_of_ble_eq_true rfl, Nat.le_of_ble_eq_true rfl⟩ (fun H locs hW => ?_)
              have hW : kw D A s.heap (wP c a b θ ρ κ) H locs := hW
              refine k_top (y := nI ((if 4 = 17 then (κ 3 0) else numN (((θ 0))) 4))) rfl ?_
              refine k_top (y := nI ((θ 0) 12 0)) (cn_4 _ _) ?_
              refine kn_gt S (tgt := 356) dL_areTeethSo_300 (by decide) (by omega) (by omega) (fun c_300 => ?_) (fun c_300 => ?_)
              · exact absurd c_300 (by omega)
              · refine lv_iload S.1 S.2.1 dL_areTeethSo_303 (lv_at hl 6 rfl) ?_
                refine kz_eq S (tgt := 352) dL_areTeethSo_305 (by decide) (by omega) (fun c_305 => ?_) (fun c_305 => ?_)
                · refine lv_iconst (v := nI (1)) S.1 S.2.1 dL_areTeethSo_352 rfl ?_
                  refine lv_goto (tgt := 357) S.1 S.2.1 dL_areTeethSo_353 (by decide) ?_
                  refine lv_istore (lv' := [(4, .int (nI (1))), (6, .int (nI (1))), (0, .ref (a 0)), (1, .int (nI (sm (θ 0 3) 12))), (2, .int (nI (rgS (θ 0) 12))), (3, .int (nI (ct (fun i => (θ 0 7 0).testBit i) 12))), (5, .int (nI (b1)))]) S.1 S.2.1 dL_areTeethSo_357 hl (by decide) rfl (fun ls hl => ?_)
                  refine lv_iinc (v := nI (b1 + 1)) (lv' := [(5, .int (nI (b1 + 1))), (4, .int (nI (1))), (6, .int (nI (1))), (0, .ref (a 0)), (1, .int (nI (sm (θ 0 3) 12))), (2, .int (nI (rgS (θ 0) 12))), (3, .int (nI (ct (fun i => (θ 0 7 0).testBit i) 12)))]) S.1 S.2.1 dL_areTeethSo_359 hl (k := 6) rfl (nI_add _ _) (by decide) rfl (fun ls hl => ?_)
                  refine lv_goto (tgt := 236) S.1 S.2.1 dL_areTeethSo_362 (by decide) ?_
                  exact ih236 (b1 + 1) _ _ _ ⟨hW, lv_sub hl [3, 4, 5, 6, 1, 0] rfl, (by omega)⟩ (by show 24 - (b1 + 1) < 24 - b1; omega)
                · have hmp : b1 - 1 < min 24 (θ 0 14 0) := by omega
                  have hgp := gn (b1 - 1) (by omega) (by omega)
                  have hgm := gm (b1 - 1) (by omega) (by omega)
                  rw [show b1 - 1 + 1 = b1 by omega] at hgm
                  refine lv_aload_n S.1 S.2.1 dL_areTeethSo_308 rfl (lv_at hl 1 rfl) ?_
                  refine lv_iload S.1 S.2.1 dL_areTeethSo_309 (lv_at hl 6 rfl) ?_
                  refine lv_iconst (v := nI (1)) S.1 S.2.1 dL_areTeethSo_311 rfl ?_
                  refine k_VI2 (rest := []) S hK hl.1 hW (KFr.all hW hA) hN (mX2_note_k l D c a b θ ρ κ _ b1 1 T (by first | omega | exact hb | assumption | (show b1 < 24; omega) | rfl) (by first | omega | exact hw | assumption | (show 1 < 2; omega) | rfl) ok (by first | omega | exact hT | assumption | (show T < 500000000; omega) | rfl)) gL_areTeethSo_X2_note rfl pdX2_note ⟨⟨rfl, rfl⟩, Nat.le_of_ble_eq_true rfl, Nat.le_of_ble_eq_true rfl⟩ 0 2 rfl rfl rfl rfl (Nat.le_of_ble_eq_true rfl) dL_areTeethSo_312 ⟨Nat.le_of_ble_eq_true rfl, Nat.le_of_ble_eq_true rfl⟩ (fun H locs hW => ?_)
                  have hW : kw D A s.heap (wP c a b θ ρ κ) H locs := hW
                  refine k_top (y := nI ((if b1 < min 24 (((θ 0)) 14 0) then (if 1 = 0 then ((θ 0)) 4 ((((θ 0)) 14 0 - 1 - b1) % 24) else ((θ 0)) 5 ((((θ 0)) 14 0 - 1 - b1) % 24)) else 4294967295))) rfl ?_
                  refine k_top (y := nI (θ 0 5 ((θ 0 14 0 - 1 - b1) % 24))) (nt_1 hmn) ?_
                  refine lv_aload_n S.1 S.2.1 dL_areTeethSo_315 rfl (lv_at hl 1 rfl) ?_
                  refine lv_iload S.1 S.2.1 dL_areTeethSo_316 (lv_at hl 6 rfl) ?_
                  refine lv_iconst (v := nI (1)) S.1 S.2.1 dL_areTeethSo_318 rfl ?_
                  refine kn_isub S dL_areTeethSo_319 (by omega) ?_
                  refine lv_iconst (v := nI (1)) S.1 S.2.1 dL_areTeethSo_320 rfl ?_
                  refine k_VI2 (rest := [.int (nI (θ 0 5 ((θ 0 14 0 - 1 - b1) % 24)))]) S hK hl.1 hW (KFr.all hW hA) hN (mX2_note_k l D c a b θ ρ κ _ (b1 - 1) 1 T (by first | omega | exact hb | assumption | (show (b1 - 1) < 24; omega) | rfl) (by first | omega | exact hw | assumption | (show 1 < 2; omega) | rfl) ok (by first | omega | exact hT | assumption | (show T < 500000000; omega) | rfl)) gL_areTeethSo_X2_note rfl pdX2_note ⟨⟨rfl, rfl⟩, Nat.le_of_ble_eq_true rfl, Nat.le_of_ble_eq_true rfl⟩ 0 2 rfl rfl rfl rfl (Nat.le_of_ble_eq_true rfl) dL_areTeethSo_321 ⟨Nat.le_of_ble_eq_true rfl, Nat.le_of_ble_eq_true rfl⟩ (fun H locs hW => ?_)
                  have hW : kw D A s.heap (wP c a b θ ρ κ) H locs := hW
                  refine k_top (y := nI ((if (b1 - 1) < min 24 (((θ 0)) 14 0) then (if 1 = 0 then ((θ 0)) 4 ((((θ 0)) 14 0 - 1 - (b1 - 1)) % 24) else ((θ 0)) 5 ((((θ 0)) 14 0 - 1 - (b1 - 1)) % 24)) else 4294967295))) rfl ?_
                  refine k_top (y := nI (θ 0 5 ((θ 0 14 0 - 1 - (b1 - 1)) % 24))) (nt_1 hmp) ?_
                  refine kn_gt S (tgt := 356) dL_areTeethSo_324 (by decide) (by omega) (by omega) (fun c_324 => ?_) (fun c_324 => ?_)
                  · exact absurd c_324 (by omega)
                  · refine lv_goto (tgt := 352) S.1 S.2.1 dL_areTeethSo_327 (by decide) ?_
                    refine lv_iconst (v := nI (1)) S.1 S.2.1 dL_areTeethSo_352 rfl ?_
                    refine lv_goto (tgt := 357) S.1 S.2.1 dL_areTeethSo_353 (by decide) ?_
                    refine lv_istore (lv' := [(4, .int (nI (1))), (6, .int (nI (1))), (0, .ref (a 0)), (1, .int (nI (sm (θ 0 3) 12))), (2, .int (nI (rgS (θ 0) 12))), (3, .int (nI (ct (fun i => (θ 0 7 0).testBit i) 12))), (5, .int (nI (b1)))]) S.1 S.2.1 dL_areTeethSo_357 hl (by decide) rfl (fun ls hl => ?_)
                    refine lv_iinc (v := nI (b1 + 1)) (lv' := [(5, .int (nI (b1 + 1))), (4, .int (nI (1))), (6, .int (nI (1))), (0, .ref (a 0)), (1, .int (nI (sm (θ 0 3) 12))), (2, .int (nI (rgS (θ 0) 12))), (3, .int (nI (ct (fun i => (θ 0 7 0).testBit i) 12)))]) S.1 S.2.1 dL_areTeethSo_359 hl (k := 6) rfl (nI_add _ _) (by decide) rfl (fun ls hl => ?_)
                    refine lv_goto (tgt := 236) S.1 S.2.1 dL_areTeethSo_362 (by decide) ?_
                    exact ih236 (b1 + 1) _ _ _ ⟨hW, lv_sub hl [3, 4, 5, 6, 1, 0] rfl, (by omega)⟩ (by show 24 - (b1 + 1) < 24 - b1; omega)
  · have hr := gr j c_16
    have hw : θ 0 2 j ≤ 9 := ok.2.2.1 j c_16
    have hgl := wn_le (τ := θ 0) (t := θ 0 9 0) (j := j)
    have hrg := ct_le (fun i => decide (0 < θ 0 1 i - θ 0 12 0)) j
    refine lv_iload_n S.1 S.2.1 dL_areTeethSo_19 rfl (lv_at hl 1 rfl) ?_
    refine lv_aload_n S.1 S.2.1 dL_areTeethSo_20 rfl (lv_at hl 0 rfl) ?_
    refine lv_iload S.1 S.2.1 dL_areTeethSo_21 (lv_at hl 5 rfl) ?_
    refine lv_iconst (v := nI (3)) S.1 S.2.1 dL_areTeethSo_23 rfl ?_
    refine k_VI2 (rest := [.int (nI (sm (θ 0 3) j))]) S hK hl.1 hW (KFr.all hW hA) hN (mX2_tooth_k l D c a b θ ρ κ _ j 3 T (by first | omega | exact hj | assumption | (show j < 12; omega) | rfl) (by first | omega | exact hw | assumption | (show 3 < 5; omega) | rfl) ok (by first | omega | exact hT | assumption | (show T < 500000000; omega) | rfl)) gL_areTeethSo_X2_tooth rfl pdX2_tooth ⟨⟨rfl, rfl⟩, Nat.le_of_ble_eq_true rfl, Nat.le_of_ble_eq_true rfl⟩ 0 2 rfl rfl rfl rfl (Nat.le_of_ble_eq_true rfl) dL_areTeethSo_24 ⟨Nat.le_of_ble_eq_true rfl, Nat.le_of_ble_eq_true rfl⟩ (fun H locs hW => ?_)
    have hW : kw D A s.heap (wP c a b θ ρ κ) H locs := hW
    refine k_top (y := nI (numK (((θ 0))) j 3)) rfl ?_
    refine k_top (y := nI ((θ 0) 3 j)) (congrArg nI (numK_3 _ _)) ?_
    refine kn_iadd S dL_areTeethSo_27 ?_
    refine k_top (y := nI (sm (θ 0 3) (j + 1))) (rfl) ?_
    refine lv_istore_n (lv' := [(1, .int (nI (sm (θ 0 3) (j + 1)))), (0, .ref (a 0)), (2, .int (nI (rgS (θ 0) j))), (3, .int (nI (ct (fun i => (θ 0 7 0).testBit i) j))), (4, .int (nI (1))), (5, .int (nI (j)))]) S.1 S.2.1 dL_areTeethSo_28 rfl hl (by decide) rfl (fun ls hl => ?_)
    refine lv_iload_n S.1 S.2.1 dL_areTeethSo_29 rfl (lv_at hl 2 rfl) ?_
    refine k_join (fun (zz : Unit) H lo ls => match zz with | () => kw D A s.heap (wP c a b θ ρ κ) H lo ∧ lv_has ls 8 [(1, .int (nI (sm (θ 0 3) (j + 1)))), (0, .ref (a 0)), (2, .int (nI (rgS (θ 0) j))), (3, .int (nI (ct (fun i => (θ 0 7 0).testBit i) j))), (4, .int (nI (1))), (5, .int (nI (j)))]) 45 (fun (zz : Unit) => match zz with | () => [.int (nI (decide (0 < θ 0 1 j - θ 0 12 0)).toNat), .int (nI (rgS (θ 0) j))]) ?_ ?_
    · rintro ⟨⟩ H locs ls ⟨hW, hl⟩
      refine kn_iadd S dL_areTeethSo_45 ?_
      refine k_top (y := nI (rgS (θ 0) (j + 1))) (rfl) ?_
      refine lv_istore_n (lv' := [(2, .int (nI (rgS (θ 0) (j + 1)))), (1, .int (nI (sm (θ 0 3) (j + 1)))), (0, .ref (a 0)), (3, .int (nI (ct (fun i => (θ 0 7 0).testBit i) j))), (4, .int (nI (1))), (5, .int (nI (j)))]) S.1 S.2.1 dL_areTeethSo_46 rfl hl (by decide) rfl (fun ls hl => ?_)
      refine lv_iload_n S.1 S.2.1 dL_areTeethSo_47 rfl (lv_at hl 3 rfl) ?_
      refine lv_aload_n S.1 S.2.1 dL_areTeethSo_48 rfl (lv_at hl 2 rfl) ?_
      refine lv_iload S.1 S.2.1 dL_areTeethSo_49 (lv_at hl 5 rfl) ?_
      refine lv_iconst (v := nI (2)) S.1 S.2.1 dL_areTeethSo_51 rfl ?_
      refine k_VI2 (rest := [.int (nI (ct (fun i => (θ 0 7 0).testBit i) j))]) S hK hl.1 hW (KFr.all hW hA) hN (mX2_tooth_k l D c a b θ ρ κ _ j 2 T (by first | omega | exact hj | assumption | (show j < 12; omega) | rfl) (by first | omega | exact hw | assumption | (show 2 < 5; omega) | rfl) ok (by first | omega | exact hT | assumption | (show T < 500000000; omega) | rfl)) gL_areTeethSo_X2_tooth rfl pdX2_tooth ⟨⟨rfl, rfl⟩, Nat.le_of_ble_eq_true rfl, Nat.le_of_ble_eq_true rfl⟩ 0 2 rfl rfl rfl rfl (Nat.le_of_ble_eq_true rfl) dL_areTeethSo_52 ⟨Nat.le_of_ble_eq_true rfl, Nat.le_of_ble_eq_true rfl⟩ (fun H locs hW => ?_)
      have hW : kw D A s.heap (wP c a b θ ρ κ) H locs := hW
      refine k_top (y := nI (numK (((θ 0))) j 2)) rfl ?_
      refine k_top (y := nI ((((θ 0) 7 0).testBit j).toNat)) (congrArg nI (numK_2 _ _)) ?_
      refine kn_iadd S dL_areTeethSo_55 ?_
      refine k_top (y := nI (ct (fun i => (θ 0 7 0).testBit i) (j + 1))) (rfl) ?_
      refine lv_istore_n (lv' := [(3, .int (nI (ct (fun i => (θ 0 7 0).testBit i) (j + 1)))), (2, .int (nI (rgS (θ 0) (j + 1)))), (1, .int (nI (sm (θ 0 3) (j + 1)))), (0, .ref (a 0)), (4, .int (nI (1))), (5, .int (nI (j)))]) S.1 S.2.1 dL_areTeethSo_56 rfl hl (by decide) rfl (fun ls hl => ?_)
      refine lv_aload_n S.1 S.2.1 dL_areTeethSo_57 rfl (lv_at hl 3 rfl) ?_
      refine lv_iload S.1 S.2.1 dL_areTeethSo_58 (lv_at hl 5 rfl) ?_
      refine lv_iconst (v := nI (4)) S.1 S.2.1 dL_areTeethSo_60 rfl ?_
      refine k_VI2 (rest := []) S hK hl.1 hW (KFr.all hW hA) hN (mX2_tooth_k l D c a b θ ρ κ _ j 4 T (by first | omega | exact hj | assumption | (show j < 12; omega) | rfl) (by first | omega | exact hw | assumption | (show 4 < 5; omega) | rfl) ok (by first | omega | exact hT | assumption | (show T < 500000000; omega) | rfl)) gL_areTeethSo_X2_tooth rfl pdX2_tooth ⟨⟨rfl, rfl⟩, Nat.le_of_ble_eq_true rfl, Nat.le_of_ble_eq_true rfl⟩ 0 2 rfl rfl rfl rfl (Nat.le_of_ble_eq_true rfl) dL_areTeethSo_61 ⟨Nat.le_of_ble_eq_true rfl, Nat.le_of_ble_eq_true rfl⟩ (fun H locs hW => ?_)
      have hW : kw D A s.heap (wP c a b θ ρ κ) H locs := hW
      refine k_top (y := nI (numK (((θ 0))) j 4)) rfl ?_
      refine k_top (y := nI (wgN (wgS (θ 0) ((θ 0) 9 0) j 32))) (congrArg nI (numK_4 _ _)) ?_
      refine lv_istore (lv' := [(6, .int (nI (wgN (wgS (θ 0) ((θ 0) 9 0) j 32)))), (3, .int (nI (ct (fun i => (θ 0 7 0).testBit i) (j + 1)))), (2, .int (nI (rgS (θ 0) (j + 1)))), (1, .int (nI (sm (θ 0 3) (j + 1)))), (0, .ref (a 0)), (4, .int (nI (1))), (5, .int (nI (j)))]) S.1 S.2.1 dL_areTeethSo_64 hl (by decide) rfl (fun ls hl => ?_)
      refine lv_aload_n S.1 S.2.1 dL_areTeethSo_66 rfl (lv_at hl 4 rfl) ?_
      refine lv_iconst (v := nI (1)) S.1 S.2.1 dL_areTeethSo_67 rfl ?_
      refine k_VI2 (rest := []) S hK hl.1 hW (KFr.all hW hA) hN (mX2_count_k l D c a b θ ρ κ _ 1 T (by first | omega | exact hw | assumption | (show 1 < 18; omega) | rfl) ok (by first | omega | exact hT | assumption | (show T < 500000000; omega) | rfl)) gL_areTeethSo_X2_count rfl pdX2_count ⟨⟨rfl, rfl⟩, Nat.le_of_ble_eq_true rfl, Nat.le_of_ble_eq_true rfl⟩ 0 2 rfl rfl rfl rfl (Nat.le_of_ble_eq_true rfl) dL_areTeethSo_68 ⟨Nat.le_of_ble_eq_true rfl, Nat.le_of_ble_eq_true rfl⟩ (fun H locs hW => ?_)
      have hW : kw D A s.heap (wP c a b θ ρ κ) H locs := hW
      refine k_top (y := nI ((if 1 = 17 then (κ 3 0) else numN (((θ 0))) 1))) rfl ?_
      refine k_top (y := nI ((θ 0) 9 0)) (cn_1 _ _) ?_
      refine lv_istore (lv' := [(7, .int (nI ((θ 0) 9 0))), (6, .int (nI (wgN (wgS (θ 0) ((θ 0) 9 0) j 32)))), (3, .int (nI (ct (fun i => (θ 0 7 0).testBit i) (j + 1)))), (2, .int (nI (rgS (θ 0) (j + 1)))), (1, .int (nI (sm (θ 0 3) (j + 1)))), (0, .ref (a 0)), (4, .int (nI (1))), (5, .int (nI (j)))]) S.1 S.2.1 dL_areTeethSo_71 hl (by decide) rfl (fun ls hl => ?_)
      refine lv_iload S.1 S.2.1 dL_areTeethSo_73 (lv_at hl 6 rfl) ?_
      refine kz_eq S (tgt := 224) dL_areTeethSo_75 (by decide) (by omega) (fun c_75 => ?_) (fun c_75 => ?_)
      · exact absurd c_75 (by decide)
      · refine lv_aload_n S.1 S.2.1 dL_areTeethSo_78 rfl (lv_at hl 5 rfl) ?_
        refine lv_iload S.1 S.2.1 dL_areTeethSo_79 (lv_at hl 7 rfl) ?_
        refine lv_iconst (v := nI (0)) S.1 S.2.1 dL_areTeethSo_81 rfl ?_
        refine k_VI2 (rest := []) S hK hl.1 hW (KFr.all hW hA) hN (mX2_tooth_k l D c a b θ ρ κ _ j 0 T (by first | omega | exact hj | assumption | (show j < 12; omega) | rfl) (by first | omega | exact hw | assumption | (show 0 < 5; omega) | rfl) ok (by first | omega | exact hT | assumption | (show T < 500000000; omega) | rfl)) gL_areTeethSo_X2_tooth rfl pdX2_tooth ⟨⟨rfl, rfl⟩, Nat.le_of_ble_eq_true rfl, Nat.le_of_ble_eq_true rfl⟩ 0 2 rfl rfl rfl rfl (Nat.le_of_ble_eq_true rfl) dL_areTeethSo_82 ⟨Nat.le_of_ble_eq_true rfl, Nat.le_of_ble_eq_true rfl⟩ (fun H locs hW => ?_)
        have hW : kw D A s.heap (wP c a b θ ρ κ) H locs := hW
        refine k_top (y := nI (numK (((θ 0))) j 0)) rfl ?_
        refine k_top (y := nI ((θ 0) 1 j - (θ 0) 12 0)) (congrArg nI (numK_0 _ _)) ?_
        refine kz_lt S (tgt := 224) dL_areTeethSo_85 (by decide) (by omega) ?_
        refine lv_aload_n S.1 S.2.1 dL_areTeethSo_88 rfl (lv_at hl 5 rfl) ?_
        refine lv_iload S.1 S.2.1 dL_areTeethSo_89 (lv_at hl 7 rfl) ?_
        refine lv_iconst (v := nI (0)) S.1 S.2.1 dL_areTeethSo_91 rfl ?_
        refine k_VI2 (rest := []) S hK hl.1 hW (KFr.all hW hA) hN (mX2_tooth_k l D c a b θ ρ κ _ j 0 T (by first | omega | exact hj | assumption | (show j < 12; omega) | rfl) (by first | omega | exact hw | assumption | (show 0 < 5; omega) | rfl) ok (by first | omega | exact hT | assumption | (show T < 500000000; omega) | rfl)) gL_areTeethSo_X2_tooth rfl pdX2_tooth ⟨⟨rfl, rfl⟩, Nat.le_of_ble_eq_true rfl, Nat.le_of_ble_eq_true rfl⟩ 0 2 rfl rfl rfl rfl (Nat.le_of_ble_eq_true rfl) dL_areTeethSo_92 ⟨Nat.le_of_ble_eq_true rfl, Nat.le_of_ble_eq_true rfl⟩ (fun H locs hW => ?_)
        have hW : kw D A s.heap (wP c a b θ ρ κ) H locs := hW
        refine k_top (y := nI (numK (((θ 0))) j 0)) rfl ?_
        refine k_top (y := nI ((θ 0) 1 j - (θ 0) 12 0)) (congrArg nI (numK_0 _ _)) ?_
        refine lv_bipush (v := nI (90)) S.1 S.2.1 dL_areTeethSo_95 rfl ?_
        refine kn_gt S (tgt := 224) dL_areTeethSo_97 (by decide) (by omega) (by omega) (fun c_97 => ?_) (fun c_97 => ?_)
        · exact absurd c_97 (by omega)
        · refine lv_aload_n S.1 S.2.1 dL_areTeethSo_100 rfl (lv_at hl 5 rfl) ?_
          refine lv_iload S.1 S.2.1 dL_areTeethSo_101 (lv_at hl 7 rfl) ?_
          refine lv_iconst (v := nI (1)) S.1 S.2.1 dL_areTeethSo_103 rfl ?_
          refine k_VI2 (rest := []) S hK hl.1 hW (KFr.all hW hA) hN (mX2_tooth_k l D c a b θ ρ κ _ j 1 T (by first | omega | exact hj | assumption | (show j < 12; omega) | rfl) (by first | omega | exact hw | assumption | (show 1 < 5; omega) | rfl) ok (by first | omega | exact hT | assumption | (show T < 500000000; omega) | rfl)) gL_areTeethSo_X2_tooth rfl pdX2_tooth ⟨⟨rfl, rfl⟩, Nat.le_of_ble_eq_true rfl, Nat.le_of_ble_eq_true rfl⟩ 0 2 rfl rfl rfl rfl (Nat.le_of_ble_eq_true rfl) dL_areTeethSo_104 ⟨Nat.le_of_ble_eq_true rfl, Nat.le_of_ble_eq_true rfl⟩ (fun H locs hW => ?_)
          have hW : kw D A s.heap (wP c a b θ ρ κ) H locs := hW
          refine k_top (y := nI (numK (((θ 0))) j 1)) rfl ?_
          refine k_top (y := nI ((θ 0) 2 j)) (congrArg nI (numK_1 _ _)) ?_
          refine kz_lt S (tgt := 224) dL_areTeethSo_107 (by decide) (by omega) ?_
          refine lv_aload_n S.1 S.2.1 dL_areTeethSo_110 rfl (lv_at hl 5 rfl) ?_
          refine lv_iload S.1 S.2.1 dL_areTeethSo_111 (lv_at hl 7 rfl) ?_
          refine lv_iconst (v := nI (1)) S.1 S.2.1 dL_areTeethSo_113 rfl ?_
          refine k_VI2 (rest := []) S hK hl.1 hW (KFr.all hW hA) hN (mX2_tooth_k l D c a b θ ρ κ _ j 1 T (by first | omega | exact hj | assumption | (show j < 12; omega) | rfl) (by first | omega | exact hw | assumption | (show 1 < 5; omega) | rfl) ok (by first | omega | exact hT | assumption | (show T < 500000000; omega) | rfl)) gL_areTeethSo_X2_tooth rfl pdX2_tooth ⟨⟨rfl, rfl⟩, Nat.le_of_ble_eq_true rfl, Nat.le_of_ble_eq_true rfl⟩ 0 2 rfl rfl rfl rfl (Nat.le_of_ble_eq_true rfl) dL_areTeethSo_114 ⟨Nat.le_of_ble_eq_true rfl, Nat.le_of_ble_eq_true rfl⟩ (fun H locs hW => ?_)
          have hW : kw D A s.heap (wP c a b θ ρ κ) H locs := hW
          refine k_top (y := nI (numK (((θ 0))) j 1)) rfl ?_
          refine k_top (y := nI ((θ 0) 2 j)) (congrArg nI (numK_1 _ _)) ?_
          refine lv_bipush (v := nI (10)) S.1 S.2.1 dL_areTeethSo_117 rfl ?_
          refine kn_ge S (tgt := 224) dL_areTeethSo_119 (by decide) (by omega) (by omega) (fun c_119 => ?_) (fun c_119 => ?_)
          · exact absurd c_119 (by omega)
          · refine k_join (fun (zz : Unit) H lo ls => match zz with | () => kw D A s.heap (wP c a b θ ρ κ) H lo ∧ lv_has ls 8 [(7, .int (nI ((θ 0) 9 0))), (6, .int (nI (wgN (wgS (θ 0) ((θ 0) 9 0) j 32)))), (3, .int (nI (ct (fun i => (θ 0 7 0).testBit i) (j + 1)))), (2, .int (nI (rgS (θ 0) (j + 1)))), (1, .int (nI (sm (θ 0 3) (j + 1)))), (0, .ref (a 0)), (4, .int (nI (1))), (5, .int (nI (j)))]) 142 (fun (zz : Unit) => match zz with | () => []) ?_ ?_
            · rintro ⟨⟩ H locs ls ⟨hW, hl⟩
              refine k_join (fun (zz : Unit) H lo ls => match zz with | () => kw D A s.heap (wP c a b θ ρ κ) H lo ∧ lv_has ls 8 [(7, .int (nI ((θ 0) 9 0))), (6, .int (nI (wgN (wgS (θ 0) ((θ 0) 9 0) j 32)))), (3, .int (nI (ct (fun i => (θ 0 7 0).testBit i) (j + 1)))), (2, .int (nI (rgS (θ 0) (j + 1)))), (1, .int (nI (sm (θ 0 3) (j + 1)))), (0, .ref (a 0)), (4, .int (nI (1))), (5, .int (nI (j)))]) 172 (fun (zz : Unit) => match zz with | () => []) ?_ ?_
              · rintro ⟨⟩ H locs ls ⟨hW, hl⟩
                refine lv_iload S.1 S.2.1 dL_areTeethSo_172 (lv_at hl 1 rfl) ?_
                refine lv_bipush (v := nI (32)) S.1 S.2.1 dL_areTeethSo_174 rfl ?_
                refine kn_gt S (tgt := 224) dL_areTeethSo_176 (by decide) (by omega) (by omega) (fun c_176 => ?_) (fun c_176 => ?_)
                · exact absurd c_176 (by omega)
                · refine lv_iload S.1 S.2.1 dL_areTeethSo_179 (lv_at hl 1 rfl) ?_
                  refine lv_bipush (v := nI (32)) S.1 S.2.1 dL_areTeethSo_181 rfl ?_
                  refine kn_lt S (tgt := 220) dL_areTeethSo_183 (by decide) (by omega) (by omega) (fun c_183 => ?_) (fun c_183 => ?_)
                  · refine lv_iconst (v := nI (1)) S.1 S.2.1 dL_areTeethSo_220 rfl ?_
                    refine lv_goto (tgt := 225) S.1 S.2.1 dL_areTeethSo_221 (by decide) ?_
                    refine lv_istore (lv' := [(4, .int (nI (1))), (7, .int (nI ((θ 0) 9 0))), (6, .int (nI (wgN (wgS (θ 0) ((θ 0) 9 0) j 32)))), (3, .int (nI (ct (fun i => (θ 0 7 0).testBit i) (j + 1)))), (2, .int (nI (rgS (θ 0) (j + 1)))), (1, .int (nI (sm (θ 0 3) (j + 1)))), (0, .ref (a 0)), (5, .int (nI (j)))]) S.1 S.2.1 dL_areTeethSo_225 hl (by decide) rfl (fun ls hl => ?_)
                    refine lv_iinc (v := nI (j + 1)) (lv' := [(5, .int (nI (j + 1))), (4, .int (nI (1))), (7, .int (nI ((θ 0) 9 0))), (6, .int (nI (wgN (wgS (θ 0) ((θ 0) 9 0) j 32)))), (3, .int (nI (ct (fun i => (θ 0 7 0).testBit i) (j + 1)))), (2, .int (nI (rgS (θ 0) (j + 1)))), (1, .int (nI (sm (θ 0 3) (j + 1)))), (0, .ref (a 0))]) S.1 S.2.1 dL_areTeethSo_227 hl (k := 7) rfl (nI_add _ _) (by decide) rfl (fun ls hl => ?_)
                    refine lv_goto (tgt := 12) S.1 S.2.1 dL_areTeethSo_230 (by decide) ?_
                    exact ih12 (j + 1) _ _ _ ⟨hW, lv_sub hl [7, 6, 5, 4, 1, 0] rfl, (by omega)⟩ (by show 12 - (j + 1) < 12 - j; omega)
                  · have hn0 := (wn_ok (τ := θ 0) (t := θ 0 9 0) (j := j) (p := 0) (by decide) (by omega)).1
                    have hn1 := (wn_ok (τ := θ 0) (t := θ 0 9 0) (j := j) (p := (nfS (θ 0) (θ 0 9 0) j 0 0 32 + 1) % 32) (Nat.mod_lt _ (by decide)) (by omega)).1
                    refine lv_aload_n S.1 S.2.1 dL_areTeethSo_186 rfl (lv_at hl 5 rfl) ?_
                    refine lv_iload S.1 S.2.1 dL_areTeethSo_187 (lv_at hl 0 rfl) ?_
                    refine lv_iload S.1 S.2.1 dL_areTeethSo_189 (lv_at hl 7 rfl) ?_
                    refine lv_iconst (v := nI (0)) S.1 S.2.1 dL_areTeethSo_191 rfl ?_
                    refine k_VI2 (rest := []) S hK hl.1 hW (KFr.all hW hA) hN (mX2_next_k l D c a b θ ρ κ _ ((θ 0) 9 0) j 0 (by first | omega | exact ht | assumption | (show ((θ 0) 9 0) < 3; omega) | rfl) (by first | omega | exact hj | assumption | (show j < 12; omega) | rfl) (by first | omega | exact hp | assumption | (show 0 < 32; omega) | rfl)) gL_areTeethSo_X2_next rfl pdX2_next ⟨⟨rfl, rfl⟩, Nat.le_of_ble_eq_true rfl, Nat.le_of_ble_eq_true rfl⟩ 0 2 rfl rfl rfl rfl (Nat.le_of_ble_eq_true rfl) dL_areTeethSo_192 ⟨Nat.le_of_ble_eq_true rfl, Nat.le_of_ble_eq_true rfl⟩ (fun H locs hW => ?_)
                    have hW : kw D A s.heap (wP c a b θ ρ κ) H locs := hW
                    refine k_top (y := nI (nfS (((θ 0))) ((θ 0) 9 0) j 0 0 32)) rfl ?_
                    refine lv_aload_n S.1 S.2.1 dL_areTeethSo_195 rfl (lv_at hl 5 rfl) ?_
                    refine lv_iload S.1 S.2.1 dL_areTeethSo_196 (lv_at hl 0 rfl) ?_
                    refine lv_iload S.1 S.2.1 dL_areTeethSo_198 (lv_at hl 7 rfl) ?_
                    refine lv_aload_n S.1 S.2.1 dL_areTeethSo_200 rfl (lv_at hl 5 rfl) ?_
                    refine lv_iload S.1 S.2.1 dL_areTeethSo_201 (lv_at hl 0 rfl) ?_
                    refine lv_iload S.1 S.2.1 dL_areTeethSo_203 (lv_at hl 7 rfl) ?_
                    refine lv_iconst (v := nI (0)) S.1 S.2.1 dL_areTeethSo_205 rfl ?_
                    refine k_VI2 (rest := [.int (nI (j)), .int (nI ((θ 0) 9 0)), .ref (a 0), .int (nI (nfS (((θ 0))) ((θ 0) 9 0) j 0 0 32))]) S hK hl.1 hW (KFr.all hW hA) hN (mX2_next_k l D c a b θ ρ κ _ ((θ 0) 9 0) j 0 (by first | omega | exact ht | assumption | (show ((θ 0) 9 0) < 3; omega) | rfl) (by first | omega | exact hj | assumption | (show j < 12; omega) | rfl) (by first | omega | exact hp | assumption | (show 0 < 32; omega) | rfl)) gL_areTeethSo_X2_next rfl pdX2_next ⟨⟨rfl, rfl⟩, Nat.le_of_ble_eq_true rfl, Nat.le_of_ble_eq_true rfl⟩ 0 2 rfl rfl rfl rfl (Nat.le_of_ble_eq_true rfl) dL_areTeethSo_206 ⟨Nat.le_of_ble_eq_true rfl, Nat.le_of_ble_eq_true rfl⟩ (fun H locs hW => ?_)
                    have hW : kw D A s.heap (wP c a b θ ρ κ) H locs := hW
                    refine k_top (y := nI (nfS (((θ 0))) ((θ 0) 9 0) j 0 0 32)) rfl ?_
                    refine lv_iconst (v := nI (1)) S.1 S.2.1 dL_areTeethSo_209 rfl ?_
                    refine kn_iadd S dL_areTeethSo_210 ?_
                    refine lv_bipush (v := nI (32)) S.1 S.2.1 dL_areTeethSo_211 rfl ?_
                    refine kn_irem S dL_areTeethSo_213 (by omega) (by omega) (by omega) ?_
                    refine k_VI2 (rest := [.int (nI (nfS (((θ 0))) ((θ 0) 9 0) j 0 0 32))]) S hK hl.1 hW (KFr.all hW hA) hN (mX2_next_k l D c a b θ ρ κ _ ((θ 0) 9 0) j ((nfS (((θ 0))) ((θ 0) 9 0) j 0 0 32 + 1) % 32) (by first | omega | exact ht | assumption | (show ((θ 0) 9 0) < 3; omega) | rfl) (by first | omega | exact hj | assumption | (show j < 12; omega) | rfl) (by first | omega | exact hp | assumption | (show ((nfS (((θ 0))) ((θ 0) 9 0) j 0 0 32 + 1) % 32) < 32; omega) | rfl)) gL_areTeethSo_X2_next rfl pdX2_next ⟨⟨rfl, rfl⟩, Nat.le_of_ble_eq_true rfl, Nat.le_of_ble_eq_true rfl⟩ 0 2 rfl rfl rfl rfl (Nat.le_of_ble_eq_true rfl) dL_areTeethSo_214 ⟨Nat.le_of_ble_eq_true rfl, Nat.le_of_ble_eq_true rfl⟩ (fun H locs hW => ?_)
                    have hW : kw D A s.heap (wP c a b θ ρ κ) H locs := hW
                    refine k_top (y := nI (nfS (((θ 0))) ((θ 0) 9 0) j ((nfS (((θ 0))) ((θ 0) 9 0) j 0 0 32 + 1) % 32) 0 32)) rfl ?_
                    refine kn_ne S (tgt := 224) dL_areTeethSo_217 (by decide) (by omega) (by omega) (fun c_217 => ?_) (fun c_217 => ?_)
                    · exact absurd (wn_32 (by decide) (Nat.mod_lt _ (by decide)) c_183) c_217
                    · refine lv_iconst (v := nI (1)) S.1 S.2.1 dL_areTeethSo_220 rfl ?_
                      refine lv_goto (tgt := 225) S.1 S.2.1 dL_areTeethSo_221 (by decide) ?_
                      refine lv_istore (lv' := [(4, .int (nI (1))), (7, .int (nI ((θ 0) 9 0))), (6, .int (nI (wgN (wgS (θ 0) ((θ 0) 9 0) j 32)))), (3, .int (nI (ct (fun i => (θ 0 7 0).testBit i) (j + 1)))), (2, .int (nI (rgS (θ 0) (j + 1)))), (1, .int (nI (sm (θ 0 3) (j + 1)))), (0, .ref (a 0)), (5, .int (nI (j)))]) S.1 S.2.1 dL_areTeethSo_225 hl (by decide) rfl (fun ls hl => ?_)
                      refine lv_iinc (v := nI (j + 1)) (lv' := [(5, .int (nI (j + 1))), (4, .int (nI (1))), (7, .int (nI ((θ 0) 9 0))), (6, .int (nI (wgN (wgS (θ 0) ((θ 0) 9 0) j 32)))), (3, .int (nI (ct (fun i => (θ 0 7 0).testBit i) (j + 1)))), (2, .int (nI (rgS (θ 0) (j + 1)))), (1, .int (nI (sm (θ 0 3) (j + 1)))), (0, .ref (a 0))]) S.1 S.2.1 dL_areTeethSo_227 hl (k := 7) rfl (nI_add _ _) (by decide) rfl (fun ls hl => ?_)
                      refine lv_goto (tgt := 12) S.1 S.2.1 dL_areTeethSo_230 (by decide) ?_
                      exact ih12 (j + 1) _ _ _ ⟨hW, lv_sub hl [7, 6, 5, 4, 1, 0] rfl, (by omega)⟩ (by show 12 - (j + 1) < 12 - j; omega)
              · intro jn142
                refine lv_iload S.1 S.2.1 dL_areTeethSo_142 (lv_at hl 1 rfl) ?_
                refine kz_le S (tgt := 151) dL_areTeethSo_144 (by decide) (by omega) (fun c_144 => ?_) (fun c_144 => ?_)
                · have hnx := wn_no (τ := θ 0) (t := θ 0 9 0) (j := j) (p := 0) (by decide) c_144
                  refine lv_iconst (v := nI (0)) S.1 S.2.1 dL_areTeethSo_151 rfl ?_
                  refine lv_aload_n S.1 S.2.1 dL_areTeethSo_152 rfl (lv_at hl 5 rfl) ?_
                  refine lv_iload S.1 S.2.1 dL_areTeethSo_153 (lv_at hl 0 rfl) ?_
                  refine lv_iload S.1 S.2.1 dL_areTeethSo_155 (lv_at hl 7 rfl) ?_
                  refine lv_iconst (v := nI (0)) S.1 S.2.1 dL_areTeethSo_157 rfl ?_
                  refine k_VI2 (rest := [.int (nI (0))]) S hK hl.1 hW (KFr.all hW hA) hN (mX2_next_k l D c a b θ ρ κ _ ((θ 0) 9 0) j 0 (by first | omega | exact ht | assumption | (show ((θ 0) 9 0) < 3; omega) | rfl) (by first | omega | exact hj | assumption | (show j < 12; omega) | rfl) (by first | omega | exact hp | assumption | (show 0 < 32; omega) | rfl)) gL_areTeethSo_X2_next rfl pdX2_next ⟨⟨rfl, rfl⟩, Nat.le_of_ble_eq_true rfl, Nat.le_of_ble_eq_true rfl⟩ 0 2 rfl rfl rfl rfl (Nat.le_of_ble_eq_true rfl) dL_areTeethSo_158 ⟨Nat.le_of_ble_eq_true rfl, Nat.le_of_ble_eq_true rfl⟩ (fun H locs hW => ?_)
                  have hW : kw D A s.heap (wP c a b θ ρ κ) H locs := hW
                  refine k_top (y := nI (nfS (((θ 0))) ((θ 0) 9 0) j 0 0 32)) rfl ?_
                  refine k_top (y := nI (nfS (θ 0) (θ 0 9 0) j 0 0 32)) (rfl) ?_
                  refine lv_if_lt (tgt := 168) S.1 S.2.1 dL_areTeethSo_161 (by decide) (fun c_161 => ?_) (fun c_161 => ?_)
                  · refine lv_iconst (v := nI (0)) S.1 S.2.1 dL_areTeethSo_168 rfl ?_
                    refine kn_ne S (tgt := 224) dL_areTeethSo_169 (by decide) (by omega) (by omega) (fun c_169 => ?_) (fun c_169 => ?_)
                    · exact absurd c_169 (by decide)
                    · exact jn142 () _ _ _ ⟨hW, lv_sub hl [0, 1, 2, 3, 4, 5, 6, 7] rfl⟩
                  · exact absurd hnx c_161
                · have hnx := wn_yes (τ := θ 0) (t := θ 0 9 0) (j := j) (p := 0) (by decide) c_144
                  refine lv_iconst (v := nI (1)) S.1 S.2.1 dL_areTeethSo_147 rfl ?_
                  refine lv_goto (tgt := 152) S.1 S.2.1 dL_areTeethSo_148 (by decide) ?_
                  refine lv_aload_n S.1 S.2.1 dL_areTeethSo_152 rfl (lv_at hl 5 rfl) ?_
                  refine lv_iload S.1 S.2.1 dL_areTeethSo_153 (lv_at hl 0 rfl) ?_
                  refine lv_iload S.1 S.2.1 dL_areTeethSo_155 (lv_at hl 7 rfl) ?_
                  refine lv_iconst (v := nI (0)) S.1 S.2.1 dL_areTeethSo_157 rfl ?_
                  refine k_VI2 (rest := [.int (nI (1))]) S hK hl.1 hW (KFr.all hW hA) hN (mX2_next_k l D c a b θ ρ κ _ ((θ 0) 9 0) j 0 (by first | omega | exact ht | assumption | (show ((θ 0) 9 0) < 3; omega) | rfl) (by first | omega | exact hj | assumption | (show j < 12; omega) | rfl) (by first | omega | exact hp | assumption | (show 0 < 32; omega) | rfl)) gL_areTeethSo_X2_next rfl pdX2_next ⟨⟨rfl, rfl⟩, Nat.le_of_ble_eq_true rfl, Nat.le_of_ble_eq_true rfl⟩ 0 2 rfl rfl rfl rfl (Nat.le_of_ble_eq_true rfl) dL_areTeethSo_158 ⟨Nat.le_of_ble_eq_true rfl, Nat.le_of_ble_eq_true rfl⟩ (fun H locs hW => ?_)
                  have hW : kw D A s.heap (wP c a b θ ρ κ) H locs := hW
                  refine k_top (y := nI (nfS (((θ 0))) ((θ 0) 9 0) j 0 0 32)) rfl ?_
                  refine k_top (y := nI (nfS (θ 0) (θ 0 9 0) j 0 0 32)) (rfl) ?_
                  refine lv_if_lt (tgt := 168) S.1 S.2.1 dL_areTeethSo_161 (by decide) (fun c_161 => ?_) (fun c_161 => ?_)
                  · exact absurd c_161 hnx
                  · refine lv_iconst (v := nI (1)) S.1 S.2.1 dL_areTeethSo_164 rfl ?_
                    refine lv_goto (tgt := 169) S.1 S.2.1 dL_areTeethSo_165 (by decide) ?_
                    refine kn_ne S (tgt := 224) dL_areTeethSo_169 (by decide) (by omega) (by omega) (fun c_169 => ?_) (fun c_169 => ?_)
                    · exact absurd c_169 (by decide)
                    · exact jn142 () _ _ _ ⟨hW, lv_sub hl [0, 1, 2, 3, 4, 5, 6, 7] rfl⟩
            · intro jn122
              refine lv_aload_n S.1 S.2.1 dL_areTeethSo_122 rfl (lv_at hl 5 rfl) ?_
              refine lv_iload S.1 S.2.1 dL_areTeethSo_123 (lv_at hl 7 rfl) ?_
              refine lv_iconst (v := nI (2)) S.1 S.2.1 dL_areTeethSo_125 rfl ?_
              refine k_VI2 (rest := []) S hK hl.1 hW (KFr.all hW hA) hN (mX2_tooth_k l D c a b θ ρ κ _ j 2 T (by first | omega | exact hj | assumption | (show j < 12; omega) | rfl) (by first | omega | exact hw | assumption | (show 2 < 5; omega) | rfl) ok (by first | omega | exact hT | assumption | (show T < 500000000; omega) | rfl)) gL_areTeethSo_X2_tooth rfl pdX2_tooth ⟨⟨rfl, rfl⟩, Nat.le_of_ble_eq_true rfl, Nat.le_of_ble_eq_true rfl⟩ 0 2 rfl rfl rfl rfl (Nat.le_of_ble_eq_true rfl) dL_areTeethSo_126 ⟨Nat.le_of_ble_eq_true rfl, Nat.le_of_ble_eq_true rfl⟩ (fun H locs hW => ?_)
              have hW : kw D A s.heap (wP c a b θ ρ κ) H locs := hW
              refine k_top (y := nI (numK (((θ 0))) j 2)) rfl ?_
              refine k_top (y := nI ((((θ 0) 7 0).testBit j).toNat)) (congrArg nI (numK_2 _ _)) ?_
              refine kz_eq S (tgt := 142) dL_areTeethSo_129 (by decide) (bt_lt _) (fun c_129 => ?_) (fun c_129 => ?_)
              · exact jn122 () _ _ _ ⟨hW, lv_sub hl [0, 1, 2, 3, 4, 5, 6, 7] rfl⟩
              · have hbj : (θ 0 7 0).testBit j = true := bt_n0 c_129
                have hb0 := gb j c_16 hbj
                refine lv_aload_n S.1 S.2.1 dL_areTeethSo_132 rfl (lv_at hl 5 rfl) ?_
                refine lv_iload S.1 S.2.1 dL_areTeethSo_133 (lv_at hl 7 rfl) ?_
                refine lv_iconst (v := nI (0)) S.1 S.2.1 dL_areTeethSo_135 rfl ?_
                refine k_VI2 (rest := []) S hK hl.1 hW (KFr.all hW hA) hN (mX2_tooth_k l D c a b θ ρ κ _ j 0 T (by first | omega | exact hj | assumption | (show j < 12; omega) | rfl) (by first | omega | exact hw | assumption | (show 0 < 5; omega) | rfl) ok (by first | omega | exact hT | assumption | (show T < 500000000; omega) | rfl)) gL_areTeethSo_X2_tooth rfl pdX2_tooth ⟨⟨rfl, rfl⟩, Nat.le_of_ble_eq_true rfl, Nat.le_of_ble_eq_true rfl⟩ 0 2 rfl rfl rfl rfl (Nat.le_of_ble_eq_true rfl) dL_areTeethSo_136 ⟨Nat.le_of_ble_eq_true rfl, Nat.le_of_ble_eq_true rfl⟩ (fun H locs hW => ?_)
                have hW : kw D A s.heap (wP c a b θ ρ κ) H locs := hW
                refine k_top (y := nI (numK (((θ 0))) j 0)) rfl ?_
                refine k_top (y := nI ((θ 0) 1 j - (θ 0) 12 0)) (congrArg nI (numK_0 _ _)) ?_
                refine kz_ne S (tgt := 224) dL_areTeethSo_139 (by decide) (by omega) (fun c_139 => ?_) (fun c_139 => ?_)
                · exact absurd (show θ 0 1 j - θ 0 12 0 = 0 by omega) c_139
                · exact jn122 () _ _ _ ⟨hW, lv_sub hl [0, 1, 2, 3, 4, 5, 6, 7] rfl⟩
    · intro jn30
      refine lv_aload_n S.1 S.2.1 dL_areTeethSo_30 rfl (lv_at hl 1 rfl) ?_
      refine lv_iload S.1 S.2.1 dL_areTeethSo_31 (lv_at hl 5 rfl) ?_
      refine lv_iconst (v := nI (0)) S.1 S.2.1 dL_areTeethSo_33 rfl ?_
      refine k_VI2 (rest := [.int (nI (rgS (θ 0) j))]) S hK hl.1 hW (KFr.all hW hA) hN (mX2_tooth_k l D c a b θ ρ κ _ j 0 T (by first | omega | exact hj | assumption | (show j < 12; omega) | rfl) (by first | omega | exact hw | assumption | (show 0 < 5; omega) | rfl) ok (by first | omega | exact hT | assumption | (show T < 500000000; omega) | rfl)) gL_areTeethSo_X2_tooth rfl pdX2_tooth ⟨⟨rfl, rfl⟩, Nat.le_of_ble_eq_true rfl, Nat.le_of_ble_eq_true rfl⟩ 0 2 rfl rfl rfl rfl (Nat.le_of_ble_eq_true rfl) dL_areTeethSo_34 ⟨Nat.le_of_ble_eq_true rfl, Nat.le_of_ble_eq_true rfl⟩ (fun H locs hW => ?_)
      have hW : kw D A s.heap (wP c a b θ ρ κ) H locs := hW
      refine k_top (y := nI (numK (((θ 0))) j 0)) rfl ?_
      refine k_top (y := nI ((θ 0) 1 j - (θ 0) 12 0)) (congrArg nI (numK_0 _ _)) ?_
      refine kz_le S (tgt := 44) dL_areTeethSo_37 (by decide) (by omega) (fun c_37 => ?_) (fun c_37 => ?_)
      · refine lv_iconst (v := nI (0)) S.1 S.2.1 dL_areTeethSo_44 rfl ?_
        refine k_top (y := nI ((decide (0 < θ 0 1 j - θ 0 12 0)).toNat)) (congrArg (fun z : Bool => nI z.toNat) (show false = decide (0 < θ 0 1 j - θ 0 12 0) from (decide_eq_false (by omega)).symm)) ?_
        exact jn30 () _ _ _ ⟨hW, lv_sub hl [0, 1, 2, 3, 4, 5] rfl⟩
      · refine lv_iconst (v := nI (1)) S.1 S.2.1 dL_areTeethSo_40 rfl ?_
        refine k_top (y := nI ((decide (0 < θ 0 1 j - θ 0 12 0)).toNat)) (congrArg (fun z : Bool => nI z.toNat) (show true = decide (0 < θ 0 1 j - θ 0 12 0) from (decide_eq_true c_37).symm)) ?_
        refine lv_goto (tgt := 45) S.1 S.2.1 dL_areTeethSo_41 (by decide) ?_
        exact jn30 () _ _ _ ⟨hW, lv_sub hl [0, 1, 2, 3, 4, 5] rfl⟩
