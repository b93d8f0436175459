/-! ===== the law's step by hand: the walk ===== -/
abbrev rmL_isStepSo : Room := { frames := 7, cells := 0, slots := 0, locals := 159 }
theorem pdL_isStepSo : kPd yL_isStepSo 1 := by decide +kernel
set_option maxHeartbeats 400000 in
set_option maxRecDepth 100000 in
theorem mL_isStepSo_t (l : Launch) (D : va_G) (c : Nat → ClassId) (a : Nat → Nat) (b : Nat → Nat → Nat) (θ : Nat → Nat → Nat → Nat) (ρ κ : Nat → Nat → Nat) (sz : Nat) (T : Nat) (iv : Iv (θ 0) T) (hT : T < 100000000) (hold : κ 2 0 < 6) (hcnt : κ 3 0 ≤ 6) (hc : canS (θ 0) = true) : MI2 l yL_isStepSo wsL_isStepSo rmL_isStepSo D c sz (wP c a b θ ρ κ) [.ref (a 0)] (nI (true).toNat) (wP c a b (pst (svT (pst θ 1 ((onS 1 (pu (θ 0) 11 (kc (θ 0 11 0)))).2)) ((κ 2 0 + κ 3 0) % 6)) 0 (θ 0)) ρ (pu (svK κ) 3 (kc (svK κ 3 0 - 1)))) := by
  refine MI2.of (cc := cL_isStepSo) (maxL := 17) (ty := .boolean) (by decide) rfl (Nat.le_of_ble_eq_true rfl) (k_narB _) ?_
  intro P e s m below meth cd A Q ls hsz S hK hN hW hA hl hret
  have hl : lv_has ls 17 [(0, .ref (a 0))] := hl
  have ok := iv.1.1
  have htn := tnS_lt ok
  have hpn := pnS_lt (θ 0)
  have h8 : θ 0 8 0 < 32 := ok.2.2.2.2.2.1
  have h9 : θ 0 9 0 < 3 := ok.2.2.2.2.2.2.1
  have h10 : θ 0 10 0 ≤ 400 := ok.2.2.2.2.2.2.2.1
  have h11 : θ 0 11 0 ≤ 9 := ok.2.2.2.2.2.2.2.2.1
  have h12 : θ 0 12 0 ≤ T := ok.2.2.2.2.2.2.2.2.2.1
  have h14 : θ 0 14 0 ≤ T := ok.2.2.2.2.2.2.2.2.2.2.1
  have h15 : θ 0 15 0 ≤ T := ok.2.2.2.2.2.2.2.2.2.2.2
  have h62 : θ 0 6 2 ≤ 1 := ok.2.2.2.1.2.2.1
  have h13 : θ 0 13 0 ≤ T := iv.1.2.2.1.1
  have hpu : pu (θ 0) 11 (kc (θ 0 11 0)) = θ 0 := pu_self iv.1.2.1
  have hcan : ndS (θ 0) ≤ θ 0 10 0 := of_decide_eq_true hc
  have hon : onS 1 (θ 0) = (1, goS (θ 0)) := by rw [onS_t hc, onS_0]
  have h1 : ((onS 1 (pu (θ 0) 11 (kc (θ 0 11 0)))).2) = goS (θ 0) := by rw [hpu, hon]
  have h2 : (onS 1 (θ 0)).2 = goS (θ 0) := by rw [hon]
  have h3 : (onS 1 (θ 0)).1 = 1 := by rw [hon]
  have hq := step_q iv hc
  obtain ⟨q1, q2, q3, q4, q5, ⟨q6, q7, q8⟩, ⟨q9, q10, q11⟩, -⟩ := id hq
  have ok2 : okS (goS (θ 0)) (T + 45) := goS_ok ok
  have ig := (go_out iv hc).1
  have hti2 := tiS_le ok
  obtain ⟨hsv2, hsv3, hsv0⟩ := svk_ok hold hcnt
  refine lv_aload_n S.1 S.2.1 dL_isStepSo_0 rfl (lv_at hl 0 rfl) ?_
  refine lv_iconst (v := nI (0)) S.1 S.2.1 dL_isStepSo_1 rfl ?_
  refine k_VI2 (rest := []) S hK hl.1 hW (KFr.all hW hA) hN (mX2_count_k l D c a b θ ρ κ _ 0 T (by first | omega | exact hw | assumption | (show 0 < 18; omega) | rfl) ok (by first | omega | exact hT | assumption | (show T < 500000000; omega) | rfl)) gL_isStepSo_X2_count rfl pdX2_count ⟨⟨rfl, rfl⟩, Nat.le_of_ble_eq_true rfl, Nat.le_of_ble_eq_true rfl⟩ 0 2 rfl rfl rfl rfl (Nat.le_of_ble_eq_true rfl) dL_isStepSo_2 ⟨Nat.le_of_ble_eq_true rfl, Nat.le_of_ble_eq_true rfl⟩ (fun H locs hW => ?_)
  have hW : kw D A s.heap (wP c a b θ ρ κ) H locs := hW
  refine k_top (y := nI ((if 0 = 17 then (κ 3 0) else numN (((θ 0))) 0))) rfl ?_
  refine k_top (y := nI ((θ 0) 8 0)) (cn_0 _ _) ?_
  refine lv_iconst (v := nI (1)) S.1 S.2.1 dL_isStepSo_5 rfl ?_
  refine kn_iadd S dL_isStepSo_6 ?_
  refine lv_bipush (v := nI (32)) S.1 S.2.1 dL_isStepSo_7 rfl ?_
  refine kn_irem S dL_isStepSo_9 (by omega) (by omega) (by omega) ?_
  refine k_top (y := nI (pnS (θ 0))) (rfl) ?_
  refine lv_istore_n (lv' := [(1, .int (nI (pnS (θ 0)))), (0, .ref (a 0))]) S.1 S.2.1 dL_isStepSo_10 rfl hl (by decide) rfl (fun ls hl => ?_)
  refine k_join (fun (zz : Unit) H lo ls => match zz with | () => kw D A s.heap (wP c a b θ ρ κ) H lo ∧ lv_has ls 17 [(1, .int (nI (pnS (θ 0)))), (0, .ref (a 0))]) 42 (fun (zz : Unit) => match zz with | () => [.int (nI (tnS (θ 0)))]) ?_ ?_
  · rintro ⟨⟩ H locs ls ⟨hW, hl⟩
    refine lv_istore_n (lv' := [(2, .int (nI (tnS (θ 0)))), (1, .int (nI (pnS (θ 0)))), (0, .ref (a 0))]) S.1 S.2.1 dL_isStepSo_42 rfl hl (by decide) rfl (fun ls hl => ?_)
    refine lv_aload_n S.1 S.2.1 dL_isStepSo_43 rfl (lv_at hl 2 rfl) ?_
    refine lv_iload_n S.1 S.2.1 dL_isStepSo_44 rfl (lv_at hl 0 rfl) ?_
    refine lv_iload_n S.1 S.2.1 dL_isStepSo_45 rfl (lv_at hl 1 rfl) ?_
    refine k_VI2 (rest := []) S hK hl.1 hW (KFr.all hW hA) hN (mX2_chord_k l D c a b θ ρ κ _ (tnS (θ 0)) (pnS (θ 0)) (by first | omega | exact ht | assumption | (show (tnS (θ 0)) < 3; omega) | rfl) (by first | omega | exact hp | assumption | (show (pnS (θ 0)) < 32; omega) | rfl)) gL_isStepSo_X2_chord rfl pdX2_chord ⟨⟨rfl, rfl⟩, Nat.le_of_ble_eq_true rfl, Nat.le_of_ble_eq_true rfl⟩ 0 2 rfl rfl rfl rfl (Nat.le_of_ble_eq_true rfl) dL_isStepSo_46 ⟨Nat.le_of_ble_eq_true rfl, Nat.le_of_ble_eq_true rfl⟩ (fun H locs hW => ?_)
    have hW : kw D A s.heap (wP c a b θ ρ κ) H locs := hW
    refine k_top (y := nI (((θ 0)) 0 ((tnS (θ 0)) * 32 + (pnS (θ 0))))) rfl ?_
    refine lv_istore_n (lv' := [(3, .int (nI (((θ 0)) 0 ((tnS (θ 0)) * 32 + (pnS (θ 0)))))), (2, .int (nI (tnS (θ 0)))), (1, .int (nI (pnS (θ 0)))), (0, .ref (a 0))]) S.1 S.2.1 dL_isStepSo_49 rfl hl (by decide) rfl (fun ls hl => ?_)
    refine lv_iconst (v := nI (1)) S.1 S.2.1 dL_isStepSo_50 rfl ?_
    refine lv_istore (lv' := [(4, .int (nI (1))), (3, .int (nI (((θ 0)) 0 ((tnS (θ 0)) * 32 + (pnS (θ 0)))))), (2, .int (nI (tnS (θ 0)))), (1, .int (nI (pnS (θ 0)))), (0, .ref (a 0))]) S.1 S.2.1 dL_isStepSo_51 hl (by decide) rfl (fun ls hl => ?_)
    refine lv_iconst (v := nI (0)) S.1 S.2.1 dL_isStepSo_53 rfl ?_
    refine lv_istore (lv' := [(5, .int (nI (0))), (4, .int (nI (1))), (3, .int (nI (((θ 0)) 0 ((tnS (θ 0)) * 32 + (pnS (θ 0)))))), (2, .int (nI (tnS (θ 0)))), (1, .int (nI (pnS (θ 0)))), (0, .ref (a 0))]) S.1 S.2.1 dL_isStepSo_54 hl (by decide) rfl (fun ls hl => ?_)
    refine k_loop (fun (zz : Nat) H lo ls => match zz with | k => kw D A s.heap (wP c a b θ ρ κ) H lo ∧ lv_has ls 17 [(0, .ref (a 0)), (1, .int (nI (pnS (θ 0)))), (2, .int (nI (tnS (θ 0)))), (3, .int (nI (((θ 0)) 0 ((tnS (θ 0)) * 32 + (pnS (θ 0)))))), (4, .int (nI (1 + ct (fun i => (stk (θ 0)).testBit i) k))), (5, .int (nI (k)))] ∧ k ≤ 12) (fun (zz : Nat) => match zz with | k => 12 - k) [] ?_ 0 _ _ _ ⟨hW, lv_sub hl [5, 4, 3, 2, 1, 0] rfl, (by decide)⟩
    rintro k ih56 H locs ls ⟨hW, hl, hi56_0⟩
    refine lv_iload S.1 S.2.1 dL_isStepSo_56 (lv_at hl 5 rfl) ?_
    refine lv_bipush (v := nI (12)) S.1 S.2.1 dL_isStepSo_58 rfl ?_
    refine kn_ge S (tgt := 99) dL_isStepSo_60 (by decide) (by omega) (by omega) (fun c_60 => ?_) (fun c_60 => ?_)
    · have e9 : k = 12 := by omega
      subst e9
      have hnd := nd_eq ok
      have hcb := ct_le (fun i => (stk (θ 0)).testBit i) 12
      have hw1 := wo_mono (τ := θ 0) 32 0
      have hw2 := wo_mono (τ := θ 0) 32 32
      have hw3 := wo_le (θ 0) 32
      have hw4 := wo_le (θ 0) 64
      have hz0 : (woS (θ 0) 0).1 = 0 := rfl
      rw [Nat.zero_add] at hw1
      have hw2 : (woS (θ 0) 32).1 + 32 ≤ (woS (θ 0) 64).1 := hw2
      have hti := ti_eq ok
      have hos := ones_le (θ 0 7 0)
      have hog := ones_le (goS (θ 0) 7 0)
      refine lv_aload_n S.1 S.2.1 dL_isStepSo_99 rfl (lv_at hl 0 rfl) ?_
      refine lv_iconst (v := nI (2)) S.1 S.2.1 dL_isStepSo_100 rfl ?_
      refine k_VI2 (rest := []) S hK hl.1 hW (KFr.all hW hA) hN (mX2_count_k l D c a b θ ρ κ _ 2 T (by first | omega | exact hw | assumption | (show 2 < 18; omega) | rfl) ok (by first | omega | exact hT | assumption | (show T < 500000000; omega) | rfl)) gL_isStepSo_X2_count rfl pdX2_count ⟨⟨rfl, rfl⟩, Nat.le_of_ble_eq_true rfl, Nat.le_of_ble_eq_true rfl⟩ 0 2 rfl rfl rfl rfl (Nat.le_of_ble_eq_true rfl) dL_isStepSo_101 ⟨Nat.le_of_ble_eq_true rfl, Nat.le_of_ble_eq_true rfl⟩ (fun H locs hW => ?_)
      have hW : kw D A s.heap (wP c a b θ ρ κ) H locs := hW
      refine k_top (y := nI ((if 2 = 17 then (κ 3 0) else numN (((θ 0))) 2))) rfl ?_
      refine k_top (y := nI ((θ 0) 10 0)) (cn_2 _ _) ?_
      refine lv_istore (lv' := [(5, .int (nI ((θ 0) 10 0))), (0, .ref (a 0)), (1, .int (nI (pnS (θ 0)))), (2, .int (nI (tnS (θ 0)))), (3, .int (nI (((θ 0)) 0 ((tnS (θ 0)) * 32 + (pnS (θ 0)))))), (4, .int (nI (1 + ct (fun i => (stk (θ 0)).testBit i) 12)))]) S.1 S.2.1 dL_isStepSo_104 hl (by decide) rfl (fun ls hl => ?_)
      refine lv_aload_n S.1 S.2.1 dL_isStepSo_106 rfl (lv_at hl 1 rfl) ?_
      refine lv_iconst (v := nI (4)) S.1 S.2.1 dL_isStepSo_107 rfl ?_
      refine k_VI2 (rest := []) S hK hl.1 hW (KFr.all hW hA) hN (mX2_count_k l D c a b θ ρ κ _ 4 T (by first | omega | exact hw | assumption | (show 4 < 18; omega) | rfl) ok (by first | omega | exact hT | assumption | (show T < 500000000; omega) | rfl)) gL_isStepSo_X2_count rfl pdX2_count ⟨⟨rfl, rfl⟩, Nat.le_of_ble_eq_true rfl, Nat.le_of_ble_eq_true rfl⟩ 0 2 rfl rfl rfl rfl (Nat.le_of_ble_eq_true rfl) dL_isStepSo_108 ⟨Nat.le_of_ble_eq_true rfl, Nat.le_of_ble_eq_true rfl⟩ (fun H locs hW => ?_)
      have hW : kw D A s.heap (wP c a b θ ρ κ) H locs := hW
      refine k_top (y := nI ((if 4 = 17 then (κ 3 0) else numN (((θ 0))) 4))) rfl ?_
      refine k_top (y := nI ((θ 0) 12 0)) (cn_4 _ _) ?_
      refine lv_istore (lv' := [(6, .int (nI ((θ 0) 12 0))), (5, .int (nI ((θ 0) 10 0))), (0, .ref (a 0)), (1, .int (nI (pnS (θ 0)))), (2, .int (nI (tnS (θ 0)))), (3, .int (nI (((θ 0)) 0 ((tnS (θ 0)) * 32 + (pnS (θ 0)))))), (4, .int (nI (1 + ct (fun i => (stk (θ 0)).testBit i) 12)))]) S.1 S.2.1 dL_isStepSo_111 hl (by decide) rfl (fun ls hl => ?_)
      refine lv_aload_n S.1 S.2.1 dL_isStepSo_113 rfl (lv_at hl 2 rfl) ?_
      refine lv_bipush (v := nI (6)) S.1 S.2.1 dL_isStepSo_114 rfl ?_
      refine k_VI2 (rest := []) S hK hl.1 hW (KFr.all hW hA) hN (mX2_count_k l D c a b θ ρ κ _ 6 T (by first | omega | exact hw | assumption | (show 6 < 18; omega) | rfl) ok (by first | omega | exact hT | assumption | (show T < 500000000; omega) | rfl)) gL_isStepSo_X2_count rfl pdX2_count ⟨⟨rfl, rfl⟩, Nat.le_of_ble_eq_true rfl, Nat.le_of_ble_eq_true rfl⟩ 0 2 rfl rfl rfl rfl (Nat.le_of_ble_eq_true rfl) dL_isStepSo_116 ⟨Nat.le_of_ble_eq_true rfl, Nat.le_of_ble_eq_true rfl⟩ (fun H locs hW => ?_)
      have hW : kw D A s.heap (wP c a b θ ρ κ) H locs := hW
      refine k_top (y := nI ((if 6 = 17 then (κ 3 0) else numN (((θ 0))) 6))) rfl ?_
      refine k_top (y := nI ((θ 0) 14 0)) (cn_6 _ _) ?_
      refine lv_istore (lv' := [(7, .int (nI ((θ 0) 14 0))), (6, .int (nI ((θ 0) 12 0))), (5, .int (nI ((θ 0) 10 0))), (0, .ref (a 0)), (1, .int (nI (pnS (θ 0)))), (2, .int (nI (tnS (θ 0)))), (3, .int (nI (((θ 0)) 0 ((tnS (θ 0)) * 32 + (pnS (θ 0)))))), (4, .int (nI (1 + ct (fun i => (stk (θ 0)).testBit i) 12)))]) S.1 S.2.1 dL_isStepSo_119 hl (by decide) rfl (fun ls hl => ?_)
      refine lv_aload_n S.1 S.2.1 dL_isStepSo_121 rfl (lv_at hl 3 rfl) ?_
      refine lv_bipush (v := nI (7)) S.1 S.2.1 dL_isStepSo_122 rfl ?_
      refine k_VI2 (rest := []) S hK hl.1 hW (KFr.all hW hA) hN (mX2_count_k l D c a b θ ρ κ _ 7 T (by first | omega | exact hw | assumption | (show 7 < 18; omega) | rfl) ok (by first | omega | exact hT | assumption | (show T < 500000000; omega) | rfl)) gL_isStepSo_X2_count rfl pdX2_count ⟨⟨rfl, rfl⟩, Nat.le_of_ble_eq_true rfl, Nat.le_of_ble_eq_true rfl⟩ 0 2 rfl rfl rfl rfl (Nat.le_of_ble_eq_true rfl) dL_isStepSo_124 ⟨Nat.le_of_ble_eq_true rfl, Nat.le_of_ble_eq_true rfl⟩ (fun H locs hW => ?_)
      have hW : kw D A s.heap (wP c a b θ ρ κ) H locs := hW
      refine k_top (y := nI ((if 7 = 17 then (κ 3 0) else numN (((θ 0))) 7))) rfl ?_
      refine k_top (y := nI ((θ 0) 15 0)) (cn_7 _ _) ?_
      refine lv_istore (lv' := [(8, .int (nI ((θ 0) 15 0))), (7, .int (nI ((θ 0) 14 0))), (6, .int (nI ((θ 0) 12 0))), (5, .int (nI ((θ 0) 10 0))), (0, .ref (a 0)), (1, .int (nI (pnS (θ 0)))), (2, .int (nI (tnS (θ 0)))), (3, .int (nI (((θ 0)) 0 ((tnS (θ 0)) * 32 + (pnS (θ 0)))))), (4, .int (nI (1 + ct (fun i => (stk (θ 0)).testBit i) 12)))]) S.1 S.2.1 dL_isStepSo_127 hl (by decide) rfl (fun ls hl => ?_)
      refine lv_aload_n S.1 S.2.1 dL_isStepSo_129 rfl (lv_at hl 4 rfl) ?_
      refine lv_bipush (v := nI (9)) S.1 S.2.1 dL_isStepSo_130 rfl ?_
      refine k_VI2 (rest := []) S hK hl.1 hW (KFr.all hW hA) hN (mX2_count_k l D c a b θ ρ κ _ 9 T (by first | omega | exact hw | assumption | (show 9 < 18; omega) | rfl) ok (by first | omega | exact hT | assumption | (show T < 500000000; omega) | rfl)) gL_isStepSo_X2_count rfl pdX2_count ⟨⟨rfl, rfl⟩, Nat.le_of_ble_eq_true rfl, Nat.le_of_ble_eq_true rfl⟩ 0 2 rfl rfl rfl rfl (Nat.le_of_ble_eq_true rfl) dL_isStepSo_132 ⟨Nat.le_of_ble_eq_true rfl, Nat.le_of_ble_eq_true rfl⟩ (fun H locs hW => ?_)
      have hW : kw D A s.heap (wP c a b θ ρ κ) H locs := hW
      refine k_top (y := nI ((if 9 = 17 then (κ 3 0) else numN (((θ 0))) 9))) rfl ?_
      refine k_top (y := nI (ones ((θ 0) 7 0))) (cn_9 _ _) ?_
      refine lv_istore (lv' := [(9, .int (nI (ones ((θ 0) 7 0)))), (8, .int (nI ((θ 0) 15 0))), (7, .int (nI ((θ 0) 14 0))), (6, .int (nI ((θ 0) 12 0))), (5, .int (nI ((θ 0) 10 0))), (0, .ref (a 0)), (1, .int (nI (pnS (θ 0)))), (2, .int (nI (tnS (θ 0)))), (3, .int (nI (((θ 0)) 0 ((tnS (θ 0)) * 32 + (pnS (θ 0)))))), (4, .int (nI (1 + ct (fun i => (stk (θ 0)).testBit i) 12)))]) S.1 S.2.1 dL_isStepSo_135 hl (by decide) rfl (fun ls hl => ?_)
      refine lv_aload_n S.1 S.2.1 dL_isStepSo_137 rfl (lv_at hl 5 rfl) ?_
      refine lv_iconst (v := nI (1)) S.1 S.2.1 dL_isStepSo_138 rfl ?_
      refine lv_iconst (v := nI (3)) S.1 S.2.1 dL_isStepSo_139 rfl ?_
      refine k_VI2 (rest := []) S hK hl.1 hW (KFr.all hW hA) hN (mX2_ifPlayed_k l D c a b θ ρ κ _ 1 3 T (by first | omega | exact h1_1 | assumption | (show 1 ≤ 1; omega) | rfl) (by first | omega | exact h1_2 | assumption | (show 1 ≤ 128; omega) | rfl) (by first | omega | exact hw | assumption | (show 3 < 5; omega) | rfl) ok (by first | omega | exact hT | assumption | (show T < 200000000; omega) | rfl)) gL_isStepSo_X2_ifPlayed rfl pdX2_ifPlayed ⟨⟨rfl, rfl⟩, Nat.le_of_ble_eq_true rfl, Nat.le_of_ble_eq_true rfl⟩ 0 2 rfl rfl rfl rfl (Nat.le_of_ble_eq_true rfl) dL_isStepSo_140 ⟨Nat.le_of_ble_eq_true rfl, Nat.le_of_ble_eq_true rfl⟩ (fun H locs hW => ?_)
      have hW : kw D A s.heap (wP c a b (pst θ 1 ((onS 1 (pu (((θ 0))) 11 (kc (((θ 0)) 11 0)))).2)) ρ κ) H locs := hW
      refine k_top (y := (if 3 = 0 then nI ((onS 1 (pu (((θ 0))) 11 (kc (((θ 0)) 11 0)))).2 13 0) - nI (((θ 0)) 13 0) else if 3 = 1 then nI ((onS 1 (pu (((θ 0))) 11 (kc (((θ 0)) 11 0)))).2 14 0) - nI (((θ 0)) 14 0) else if 3 = 2 then nI ((onS 1 (pu (((θ 0))) 11 (kc (((θ 0)) 11 0)))).2 15 0) - nI (((θ 0)) 15 0) else if 3 = 3 then nI ((onS 1 (pu (((θ 0))) 11 (kc (((θ 0)) 11 0)))).2 12 0) - nI (((θ 0)) 12 0) else nI (ones ((onS 1 (pu (((θ 0))) 11 (kc (((θ 0)) 11 0)))).2 7 0)) - nI (ones (((θ 0)) 7 0)))) rfl ?_
      refine k_top (y := nI (tiS (θ 0))) (ip3.trans (by rw [h1, hq.2.1]; exact nI_dif _ _)) ?_
      refine lv_istore (lv' := [(10, .int (nI (tiS (θ 0)))), (9, .int (nI (ones ((θ 0) 7 0)))), (8, .int (nI ((θ 0) 15 0))), (7, .int (nI ((θ 0) 14 0))), (6, .int (nI ((θ 0) 12 0))), (5, .int (nI ((θ 0) 10 0))), (0, .ref (a 0)), (1, .int (nI (pnS (θ 0)))), (2, .int (nI (tnS (θ 0)))), (3, .int (nI (((θ 0)) 0 ((tnS (θ 0)) * 32 + (pnS (θ 0)))))), (4, .int (nI (1 + ct (fun i => (stk (θ 0)).testBit i) 12)))]) S.1 S.2.1 dL_isStepSo_143 hl (by decide) rfl (fun ls hl => ?_)
      refine lv_iload S.1 S.2.1 dL_isStepSo_145 (lv_at hl 5 rfl) ?_
      refine lv_iload S.1 S.2.1 dL_isStepSo_147 (lv_at hl 10 rfl) ?_
      refine kn_lt S (tgt := 156) dL_isStepSo_149 (by decide) (by omega) (by omega) (fun c_149 => ?_) (fun c_149 => ?_)
      · exact absurd c_149 (by omega)
      · refine lv_iconst (v := nI (1)) S.1 S.2.1 dL_isStepSo_152 rfl ?_
        refine lv_goto (tgt := 157) S.1 S.2.1 dL_isStepSo_153 (by decide) ?_
        refine lv_istore (lv' := [(11, .int (nI (1))), (10, .int (nI (tiS (θ 0)))), (9, .int (nI (ones ((θ 0) 7 0)))), (8, .int (nI ((θ 0) 15 0))), (7, .int (nI ((θ 0) 14 0))), (6, .int (nI ((θ 0) 12 0))), (5, .int (nI ((θ 0) 10 0))), (0, .ref (a 0)), (1, .int (nI (pnS (θ 0)))), (2, .int (nI (tnS (θ 0)))), (3, .int (nI (((θ 0)) 0 ((tnS (θ 0)) * 32 + (pnS (θ 0)))))), (4, .int (nI (1 + ct (fun i => (stk (θ 0)).testBit i) 12)))]) S.1 S.2.1 dL_isStepSo_157 hl (by decide) rfl (fun ls hl => ?_)
        refine lv_aload_n S.1 S.2.1 dL_isStepSo_159 rfl (lv_at hl 7 rfl) ?_
        refine lv_iconst (v := nI (1)) S.1 S.2.1 dL_isStepSo_160 rfl ?_
        refine lv_iconst (v := nI (0)) S.1 S.2.1 dL_isStepSo_161 rfl ?_
        refine k_VI2 (rest := []) S hK hl.1 hW (KFr.all hW hA) hN (mX2_ifPlayed_k l D c a b ((pst θ 1 ((onS 1 (pu (((θ 0))) 11 (kc (((θ 0)) 11 0)))).2))) ρ κ _ 1 0 T (by first | omega | exact h1_1 | assumption | (show 1 ≤ 1; omega) | rfl) (by first | omega | exact h1_2 | assumption | (show 1 ≤ 128; omega) | rfl) (by first | omega | exact hw | assumption | (show 0 < 5; omega) | rfl) ok (by first | omega | exact hT | assumption | (show T < 200000000; omega) | rfl)) gL_isStepSo_X2_ifPlayed rfl pdX2_ifPlayed ⟨⟨rfl, rfl⟩, Nat.le_of_ble_eq_true rfl, Nat.le_of_ble_eq_true rfl⟩ 0 2 rfl rfl rfl rfl (Nat.le_of_ble_eq_true rfl) dL_isStepSo_162 ⟨Nat.le_of_ble_eq_true rfl, Nat.le_of_ble_eq_true rfl⟩ (fun H locs hW => ?_)
        have hW : kw D A s.heap (wP c a b (pst θ 1 ((onS 1 (pu (((θ 0))) 11 (kc (((θ 0)) 11 0)))).2)) ρ κ) H locs := hW
        refine k_top (y := (if 0 = 0 then nI ((onS 1 (pu (((θ 0))) 11 (kc (((θ 0)) 11 0)))).2 13 0) - nI (((θ 0)) 13 0) else if 0 = 1 then nI ((onS 1 (pu (((θ 0))) 11 (kc (((θ 0)) 11 0)))).2 14 0) - nI (((θ 0)) 14 0) else if 0 = 2 then nI ((onS 1 (pu (((θ 0))) 11 (kc (((θ 0)) 11 0)))).2 15 0) - nI (((θ 0)) 15 0) else if 0 = 3 then nI ((onS 1 (pu (((θ 0))) 11 (kc (((θ 0)) 11 0)))).2 12 0) - nI (((θ 0)) 12 0) else nI (ones ((onS 1 (pu (((θ 0))) 11 (kc (((θ 0)) 11 0)))).2 7 0)) - nI (ones (((θ 0)) 7 0)))) rfl ?_
        refine k_top (y := nI (1)) (ip0.trans (by rw [h1, hq.1]; exact nI_dif _ _)) ?_
        refine lv_iload S.1 S.2.1 dL_isStepSo_165 (lv_at hl 0 rfl) ?_
        refine kz_eq S (tgt := 174) dL_isStepSo_167 (by decide) (by omega) (fun c_167 => ?_) (fun c_167 => ?_)
        · exact absurd c_167 (by decide)
        · refine lv_iconst (v := nI (1)) S.1 S.2.1 dL_isStepSo_170 rfl ?_
          refine lv_goto (tgt := 175) S.1 S.2.1 dL_isStepSo_171 (by decide) ?_
          refine kn_ne S (tgt := 239) dL_isStepSo_175 (by decide) (by omega) (by omega) (fun c_175 => ?_) (fun c_175 => ?_)
          · exact absurd c_175 (by decide)
          · refine lv_iload S.1 S.2.1 dL_isStepSo_178 (lv_at hl 1 rfl) ?_
            refine lv_iload S.1 S.2.1 dL_isStepSo_180 (lv_at hl 0 rfl) ?_
            refine kz_eq S (tgt := 205) dL_isStepSo_182 (by decide) (by omega) (fun c_182 => ?_) (fun c_182 => ?_)
            · exact absurd c_182 (by decide)
            · refine lv_bipush (v := nI (12)) S.1 S.2.1 dL_isStepSo_185 rfl ?_
              refine lv_iload S.1 S.2.1 dL_isStepSo_187 (lv_at hl 6 rfl) ?_
              refine lv_iload S.1 S.2.1 dL_isStepSo_189 (lv_at hl 11 rfl) ?_
              refine kn_isub S dL_isStepSo_191 (by omega) ?_
              refine lv_bipush (v := nI (50)) S.1 S.2.1 dL_isStepSo_192 rfl ?_
              refine kn_idiv S dL_isStepSo_194 (by omega) (by omega) (by omega) ?_
              refine kn_isub S dL_isStepSo_195 (by omega) ?_
              refine lv_aload_n S.1 S.2.1 dL_isStepSo_196 rfl (lv_at hl 7 rfl) ?_
              refine lv_iconst (v := nI (3)) S.1 S.2.1 dL_isStepSo_197 rfl ?_
              refine k_VI2 (rest := [.int (nI (12 - ((((θ 0) 10 0) - (1 + ct (fun i => (stk (θ 0)).testBit i) 12)) / 50))), .int (nI (tiS (θ 0)))]) S hK hl.1 hW (KFr.all hW hA) hN (mX2_count_k l D c a b ((pst θ 1 ((onS 1 (pu (((θ 0))) 11 (kc (((θ 0)) 11 0)))).2))) ρ κ _ 3 T (by first | omega | exact hw | assumption | (show 3 < 18; omega) | rfl) ok (by first | omega | exact hT | assumption | (show T < 500000000; omega) | rfl)) gL_isStepSo_X2_count rfl pdX2_count ⟨⟨rfl, rfl⟩, Nat.le_of_ble_eq_true rfl, Nat.le_of_ble_eq_true rfl⟩ 0 2 rfl rfl rfl rfl (Nat.le_of_ble_eq_true rfl) dL_isStepSo_198 ⟨Nat.le_of_ble_eq_true rfl, Nat.le_of_ble_eq_true rfl⟩ (fun H locs hW => ?_)
              have hW : kw D A s.heap (wP c a b (pst θ 1 ((onS 1 (pu (((θ 0))) 11 (kc (((θ 0)) 11 0)))).2)) ρ κ) H locs := hW
              refine k_top (y := nI ((if 3 = 17 then (κ 3 0) else numN (((θ 0))) 3))) rfl ?_
              refine k_top (y := nI ((θ 0) 11 0)) (cn_3 _ _) ?_
              refine kn_iadd S dL_isStepSo_201 ?_
              refine lv_goto (tgt := 206) S.1 S.2.1 dL_isStepSo_202 (by decide) ?_
              refine kn_ne S (tgt := 239) dL_isStepSo_206 (by decide) (by omega) (by omega) (fun c_206 => ?_) (fun c_206 => ?_)
              · exact absurd (by omega) c_206
              · refine lv_aload_n S.1 S.2.1 dL_isStepSo_209 rfl (lv_at hl 7 rfl) ?_
                refine lv_iconst (v := nI (1)) S.1 S.2.1 dL_isStepSo_210 rfl ?_
                refine k_VI2 (rest := []) S hK hl.1 hW (KFr.all hW hA) hN (mX2_windFor_k l D c a b ((pst θ 1 ((onS 1 (pu (((θ 0))) 11 (kc (((θ 0)) 11 0)))).2))) ρ κ _ 1 T (by first | omega | exact h1_1 | assumption | (show 1 ≤ 1; omega) | rfl) (by first | omega | exact h1_2 | assumption | (show 1 ≤ 9; omega) | rfl) ok) gL_isStepSo_X2_windFor rfl pdX2_windFor ⟨⟨rfl, rfl⟩, Nat.le_of_ble_eq_true rfl, Nat.le_of_ble_eq_true rfl⟩ 0 2 rfl rfl rfl rfl (Nat.le_of_ble_eq_true rfl) dL_isStepSo_211 ⟨Nat.le_of_ble_eq_true rfl, Nat.le_of_ble_eq_true rfl⟩ (fun H locs hW => ?_)
                have hW : kw D A s.heap (wP c a b (pst θ 1 ((onS 1 (pu (((θ 0))) 11 (kc (((θ 0)) 11 0)))).2)) ρ κ) H locs := hW
                refine k_top (y := nI ((woS (((θ 0))) (1 * 32)).1)) rfl ?_
                refine k_top (y := nI ((woS (θ 0) 32).1)) (congrArg (fun z => nI (woS (θ 0) z).1) (show 1 * 32 = 32 from rfl)) ?_
                refine lv_bipush (v := nI (32)) S.1 S.2.1 dL_isStepSo_214 rfl ?_
                refine kn_lt S (tgt := 239) dL_isStepSo_216 (by decide) (by omega) (by omega) (fun c_216 => ?_) (fun c_216 => ?_)
                · exact absurd c_216 (by omega)
                · refine lv_aload_n S.1 S.2.1 dL_isStepSo_219 rfl (lv_at hl 7 rfl) ?_
                  refine lv_iconst (v := nI (2)) S.1 S.2.1 dL_isStepSo_220 rfl ?_
                  refine k_VI2 (rest := []) S hK hl.1 hW (KFr.all hW hA) hN (mX2_windFor_k l D c a b ((pst θ 1 ((onS 1 (pu (((θ 0))) 11 (kc (((θ 0)) 11 0)))).2))) ρ κ _ 2 T (by first | omega | exact h1_1 | assumption | (show 1 ≤ 2; omega) | rfl) (by first | omega | exact h1_2 | assumption | (show 2 ≤ 9; omega) | rfl) ok) gL_isStepSo_X2_windFor rfl pdX2_windFor ⟨⟨rfl, rfl⟩, Nat.le_of_ble_eq_true rfl, Nat.le_of_ble_eq_true rfl⟩ 0 2 rfl rfl rfl rfl (Nat.le_of_ble_eq_true rfl) dL_isStepSo_221 ⟨Nat.le_of_ble_eq_true rfl, Nat.le_of_ble_eq_true rfl⟩ (fun H locs hW => ?_)
                  have hW : kw D A s.heap (wP c a b (pst θ 1 ((onS 1 (pu (((θ 0))) 11 (kc (((θ 0)) 11 0)))).2)) ρ κ) H locs := hW
                  refine k_top (y := nI ((woS (((θ 0))) (2 * 32)).1)) rfl ?_
                  refine k_top (y := nI ((woS (θ 0) 64).1)) (congrArg (fun z => nI (woS (θ 0) z).1) (show 2 * 32 = 64 from rfl)) ?_
                  refine lv_aload_n S.1 S.2.1 dL_isStepSo_224 rfl (lv_at hl 7 rfl) ?_
                  refine lv_iconst (v := nI (1)) S.1 S.2.1 dL_isStepSo_225 rfl ?_
                  refine k_VI2 (rest := [.int (nI ((woS (θ 0) 64).1))]) S hK hl.1 hW (KFr.all hW hA) hN (mX2_windFor_k l D c a b ((pst θ 1 ((onS 1 (pu (((θ 0))) 11 (kc (((θ 0)) 11 0)))).2))) ρ κ _ 1 T (by first | omega | exact h1_1 | assumption | (show 1 ≤ 1; omega) | rfl) (by first | omega | exact h1_2 | assumption | (show 1 ≤ 9; omega) | rfl) ok) gL_isStepSo_X2_windFor rfl pdX2_windFor ⟨⟨rfl, rfl⟩, Nat.le_of_ble_eq_true rfl, Nat.le_of_ble_eq_true rfl⟩ 0 2 rfl rfl rfl rfl (Nat.le_of_ble_eq_true rfl) dL_isStepSo_226 ⟨Nat.le_of_ble_eq_true rfl, Nat.le_of_ble_eq_true rfl⟩ (fun H locs hW => ?_)
                  have hW : kw D A s.heap (wP c a b (pst θ 1 ((onS 1 (pu (((θ 0))) 11 (kc (((θ 0)) 11 0)))).2)) ρ κ) H locs := hW
                  refine k_top (y := nI ((woS (((θ 0))) (1 * 32)).1)) rfl ?_
                  refine k_top (y := nI ((woS (θ 0) 32).1)) (congrArg (fun z => nI (woS (θ 0) z).1) (show 1 * 32 = 32 from rfl)) ?_
                  refine lv_bipush (v := nI (32)) S.1 S.2.1 dL_isStepSo_229 rfl ?_
                  refine kn_iadd S dL_isStepSo_231 ?_
                  refine kn_lt S (tgt := 239) dL_isStepSo_232 (by decide) (by omega) (by omega) (fun c_232 => ?_) (fun c_232 => ?_)
                  · exact absurd c_232 (by omega)
                  · refine lv_iconst (v := nI (1)) S.1 S.2.1 dL_isStepSo_235 rfl ?_
                    refine lv_goto (tgt := 240) S.1 S.2.1 dL_isStepSo_236 (by decide) ?_
                    refine lv_istore (lv' := [(12, .int (nI (1))), (11, .int (nI (1))), (10, .int (nI (tiS (θ 0)))), (9, .int (nI (ones ((θ 0) 7 0)))), (8, .int (nI ((θ 0) 15 0))), (7, .int (nI ((θ 0) 14 0))), (6, .int (nI ((θ 0) 12 0))), (5, .int (nI ((θ 0) 10 0))), (0, .ref (a 0)), (1, .int (nI (pnS (θ 0)))), (2, .int (nI (tnS (θ 0)))), (3, .int (nI (((θ 0)) 0 ((tnS (θ 0)) * 32 + (pnS (θ 0)))))), (4, .int (nI (1 + ct (fun i => (stk (θ 0)).testBit i) 12)))]) S.1 S.2.1 dL_isStepSo_240 hl (by decide) rfl (fun ls hl => ?_)
                    refine lv_aload_n S.1 S.2.1 dL_isStepSo_242 rfl (lv_at hl 8 rfl) ?_
                    refine lv_iconst (v := nI (1)) S.1 S.2.1 dL_isStepSo_243 rfl ?_
                    refine lv_iconst (v := nI (1)) S.1 S.2.1 dL_isStepSo_244 rfl ?_
                    refine k_VI2 (rest := []) S hK hl.1 hW (KFr.all hW hA) hN (mX2_ifPlayed_k l D c a b ((pst θ 1 ((onS 1 (pu (((θ 0))) 11 (kc (((θ 0)) 11 0)))).2))) ρ κ _ 1 1 T (by first | omega | exact h1_1 | assumption | (show 1 ≤ 1; omega) | rfl) (by first | omega | exact h1_2 | assumption | (show 1 ≤ 128; omega) | rfl) (by first | omega | exact hw | assumption | (show 1 < 5; omega) | rfl) ok (by first | omega | exact hT | assumption | (show T < 200000000; omega) | rfl)) gL_isStepSo_X2_ifPlayed rfl pdX2_ifPlayed ⟨⟨rfl, rfl⟩, Nat.le_of_ble_eq_true rfl, Nat.le_of_ble_eq_true rfl⟩ 0 2 rfl rfl rfl rfl (Nat.le_of_ble_eq_true rfl) dL_isStepSo_245 ⟨Nat.le_of_ble_eq_true rfl, Nat.le_of_ble_eq_true rfl⟩ (fun H locs hW => ?_)
                    have hW : kw D A s.heap (wP c a b (pst θ 1 ((onS 1 (pu (((θ 0))) 11 (kc (((θ 0)) 11 0)))).2)) ρ κ) H locs := hW
                    refine k_top (y := (if 1 = 0 then nI ((onS 1 (pu (((θ 0))) 11 (kc (((θ 0)) 11 0)))).2 13 0) - nI (((θ 0)) 13 0) else if 1 = 1 then nI ((onS 1 (pu (((θ 0))) 11 (kc (((θ 0)) 11 0)))).2 14 0) - nI (((θ 0)) 14 0) else if 1 = 2 then nI ((onS 1 (pu (((θ 0))) 11 (kc (((θ 0)) 11 0)))).2 15 0) - nI (((θ 0)) 15 0) else if 1 = 3 then nI ((onS 1 (pu (((θ 0))) 11 (kc (((θ 0)) 11 0)))).2 12 0) - nI (((θ 0)) 12 0) else nI (ones ((onS 1 (pu (((θ 0))) 11 (kc (((θ 0)) 11 0)))).2 7 0)) - nI (ones (((θ 0)) 7 0)))) rfl ?_
                    refine k_top (y := nI (goS (θ 0) 14 0 - θ 0 14 0)) (ip1.trans (by rw [h1]; exact pk_sub (by omega))) ?_
                    refine lv_istore (lv' := [(13, .int (nI (goS (θ 0) 14 0 - θ 0 14 0))), (12, .int (nI (1))), (11, .int (nI (1))), (10, .int (nI (tiS (θ 0)))), (9, .int (nI (ones ((θ 0) 7 0)))), (8, .int (nI ((θ 0) 15 0))), (7, .int (nI ((θ 0) 14 0))), (6, .int (nI ((θ 0) 12 0))), (5, .int (nI ((θ 0) 10 0))), (0, .ref (a 0)), (1, .int (nI (pnS (θ 0)))), (2, .int (nI (tnS (θ 0)))), (3, .int (nI (((θ 0)) 0 ((tnS (θ 0)) * 32 + (pnS (θ 0)))))), (4, .int (nI (1 + ct (fun i => (stk (θ 0)).testBit i) 12)))]) S.1 S.2.1 dL_isStepSo_248 hl (by decide) rfl (fun ls hl => ?_)
                    refine lv_aload_n S.1 S.2.1 dL_isStepSo_250 rfl (lv_at hl 9 rfl) ?_
                    refine lv_iconst (v := nI (1)) S.1 S.2.1 dL_isStepSo_251 rfl ?_
                    refine lv_iconst (v := nI (2)) S.1 S.2.1 dL_isStepSo_252 rfl ?_
                    refine k_VI2 (rest := []) S hK hl.1 hW (KFr.all hW hA) hN (mX2_ifPlayed_k l D c a b ((pst θ 1 ((onS 1 (pu (((θ 0))) 11 (kc (((θ 0)) 11 0)))).2))) ρ κ _ 1 2 T (by first | omega | exact h1_1 | assumption | (show 1 ≤ 1; omega) | rfl) (by first | omega | exact h1_2 | assumption | (show 1 ≤ 128; omega) | rfl) (by first | omega | exact hw | assumption | (show 2 < 5; omega) | rfl) ok (by first | omega | exact hT | assumption | (show T < 200000000; omega) | rfl)) gL_isStepSo_X2_ifPlayed rfl pdX2_ifPlayed ⟨⟨rfl, rfl⟩, Nat.le_of_ble_eq_true rfl, Nat.le_of_ble_eq_true rfl⟩ 0 2 rfl rfl rfl rfl (Nat.le_of_ble_eq_true rfl) dL_isStepSo_253 ⟨Nat.le_of_ble_eq_true rfl, Nat.le_of_ble_eq_true rfl⟩ (fun H locs hW => ?_)
                    have hW : kw D A s.heap (wP c a b (pst θ 1 ((onS 1 (pu (((θ 0))) 11 (kc (((θ 0)) 11 0)))).2)) ρ κ) H locs := hW
                    refine k_top (y := (if 2 = 0 then nI ((onS 1 (pu (((θ 0))) 11 (kc (((θ 0)) 11 0)))).2 13 0) - nI (((θ 0)) 13 0) else if 2 = 1 then nI ((onS 1 (pu (((θ 0))) 11 (kc (((θ 0)) 11 0)))).2 14 0) - nI (((θ 0)) 14 0) else if 2 = 2 then nI ((onS 1 (pu (((θ 0))) 11 (kc (((θ 0)) 11 0)))).2 15 0) - nI (((θ 0)) 15 0) else if 2 = 3 then nI ((onS 1 (pu (((θ 0))) 11 (kc (((θ 0)) 11 0)))).2 12 0) - nI (((θ 0)) 12 0) else nI (ones ((onS 1 (pu (((θ 0))) 11 (kc (((θ 0)) 11 0)))).2 7 0)) - nI (ones (((θ 0)) 7 0)))) rfl ?_
                    refine k_top (y := nI (goS (θ 0) 15 0 - θ 0 15 0)) (ip2.trans (by rw [h1]; exact pk_sub (by omega))) ?_
                    refine lv_istore (lv' := [(14, .int (nI (goS (θ 0) 15 0 - θ 0 15 0))), (13, .int (nI (goS (θ 0) 14 0 - θ 0 14 0))), (12, .int (nI (1))), (11, .int (nI (1))), (10, .int (nI (tiS (θ 0)))), (9, .int (nI (ones ((θ 0) 7 0)))), (8, .int (nI ((θ 0) 15 0))), (7, .int (nI ((θ 0) 14 0))), (6, .int (nI ((θ 0) 12 0))), (5, .int (nI ((θ 0) 10 0))), (0, .ref (a 0)), (1, .int (nI (pnS (θ 0)))), (2, .int (nI (tnS (θ 0)))), (3, .int (nI (((θ 0)) 0 ((tnS (θ 0)) * 32 + (pnS (θ 0)))))), (4, .int (nI (1 + ct (fun i => (stk (θ 0)).testBit i) 12)))]) S.1 S.2.1 dL_isStepSo_256 hl (by decide) rfl (fun ls hl => ?_)
                    refine lv_aload_n S.1 S.2.1 dL_isStepSo_258 rfl (lv_at hl 10 rfl) ?_
                    refine lv_iconst (v := nI (1)) S.1 S.2.1 dL_isStepSo_259 rfl ?_
                    refine lv_iconst (v := nI (4)) S.1 S.2.1 dL_isStepSo_260 rfl ?_
                    refine k_VI2 (rest := []) S hK hl.1 hW (KFr.all hW hA) hN (mX2_ifPlayed_k l D c a b ((pst θ 1 ((onS 1 (pu (((θ 0))) 11 (kc (((θ 0)) 11 0)))).2))) ρ κ _ 1 4 T (by first | omega | exact h1_1 | assumption | (show 1 ≤ 1; omega) | rfl) (by first | omega | exact h1_2 | assumption | (show 1 ≤ 128; omega) | rfl) (by first | omega | exact hw | assumption | (show 4 < 5; omega) | rfl) ok (by first | omega | exact hT | assumption | (show T < 200000000; omega) | rfl)) gL_isStepSo_X2_ifPlayed rfl pdX2_ifPlayed ⟨⟨rfl, rfl⟩, Nat.le_of_ble_eq_true rfl, Nat.le_of_ble_eq_true rfl⟩ 0 2 rfl rfl rfl rfl (Nat.le_of_ble_eq_true rfl) dL_isStepSo_261 ⟨Nat.le_of_ble_eq_true rfl, Nat.le_of_ble_eq_true rfl⟩ (fun H locs hW => ?_)
                    have hW : kw D A s.heap (wP c a b (pst θ 1 ((onS 1 (pu (((θ 0))) 11 (kc (((θ 0)) 11 0)))).2)) ρ κ) H locs := hW
                    refine k_top (y := (if 4 = 0 then nI ((onS 1 (pu (((θ 0))) 11 (kc (((θ 0)) 11 0)))).2 13 0) - nI (((θ 0)) 13 0) else if 4 = 1 then nI ((onS 1 (pu (((θ 0))) 11 (kc (((θ 0)) 11 0)))).2 14 0) - nI (((θ 0)) 14 0) else if 4 = 2 then nI ((onS 1 (pu (((θ 0))) 11 (kc (((θ 0)) 11 0)))).2 15 0) - nI (((θ 0)) 15 0) else if 4 = 3 then nI ((onS 1 (pu (((θ 0))) 11 (kc (((θ 0)) 11 0)))).2 12 0) - nI (((θ 0)) 12 0) else nI (ones ((onS 1 (pu (((θ 0))) 11 (kc (((θ 0)) 11 0)))).2 7 0)) - nI (ones (((θ 0)) 7 0)))) rfl ?_
                    refine k_top (y := nI (ones (goS (θ 0) 7 0) - ones (θ 0 7 0))) (ip4.trans (by rw [h1]; exact pk_sub (by omega))) ?_
                    refine lv_istore (lv' := [(15, .int (nI (ones (goS (θ 0) 7 0) - ones (θ 0 7 0)))), (14, .int (nI (goS (θ 0) 15 0 - θ 0 15 0))), (13, .int (nI (goS (θ 0) 14 0 - θ 0 14 0))), (12, .int (nI (1))), (11, .int (nI (1))), (10, .int (nI (tiS (θ 0)))), (9, .int (nI (ones ((θ 0) 7 0)))), (8, .int (nI ((θ 0) 15 0))), (7, .int (nI ((θ 0) 14 0))), (6, .int (nI ((θ 0) 12 0))), (5, .int (nI ((θ 0) 10 0))), (0, .ref (a 0)), (1, .int (nI (pnS (θ 0)))), (2, .int (nI (tnS (θ 0)))), (3, .int (nI (((θ 0)) 0 ((tnS (θ 0)) * 32 + (pnS (θ 0)))))), (4, .int (nI (1 + ct (fun i => (stk (θ 0)).testBit i) 12)))]) S.1 S.2.1 dL_isStepSo_264 hl (by decide) rfl (fun ls hl => ?_)
                    refine lv_iload S.1 S.2.1 dL_isStepSo_266 (lv_at hl 3 rfl) ?_
                    refine kz_eq S (tgt := 432) dL_isStepSo_268 (by decide) (by omega) (fun c_268 => ?_) (fun c_268 => ?_)
                    · exact absurd c_268 (by decide)
                    · refine lv_iload S.1 S.2.1 dL_isStepSo_271 (lv_at hl 2 rfl) ?_
                      refine lv_iload S.1 S.2.1 dL_isStepSo_273 (lv_at hl 0 rfl) ?_
                      refine kn_iadd S dL_isStepSo_275 ?_
                      refine lv_iload S.1 S.2.1 dL_isStepSo_276 (lv_at hl 4 rfl) ?_
                      refine kz_eq S (tgt := 288) dL_isStepSo_278 (by decide) (by omega) (fun c_278 => ?_) (fun c_278 => ?_)
                      · exact absurd c_278 (by decide)
                      · refine lv_iload S.1 S.2.1 dL_isStepSo_281 (lv_at hl 15 rfl) ?_
                        refine lv_iconst (v := nI (1)) S.1 S.2.1 dL_isStepSo_283 rfl ?_
                        refine kn_isub S dL_isStepSo_284 (by omega) ?_
                        refine lv_goto (tgt := 289) S.1 S.2.1 dL_isStepSo_285 (by decide) ?_
                        refine kn_ne S (tgt := 432) dL_isStepSo_289 (by decide) (by omega) (by omega) (fun c_289 => ?_) (fun c_289 => ?_)
                        · exact absurd (by omega) c_289
                        · refine lv_iload S.1 S.2.1 dL_isStepSo_292 (lv_at hl 0 rfl) ?_
                          refine lv_iload S.1 S.2.1 dL_isStepSo_294 (lv_at hl 1 rfl) ?_
                          refine kn_gt S (tgt := 432) dL_isStepSo_296 (by decide) (by omega) (by omega) (fun c_296 => ?_) (fun c_296 => ?_)
                          · exact absurd c_296 (by omega)
                          · refine lv_iload S.1 S.2.1 dL_isStepSo_299 (lv_at hl 1 rfl) ?_
                            refine lv_iload S.1 S.2.1 dL_isStepSo_301 (lv_at hl 2 rfl) ?_
                            refine lv_iload S.1 S.2.1 dL_isStepSo_303 (lv_at hl 0 rfl) ?_
                            refine kn_iadd S dL_isStepSo_305 ?_
                            refine kn_gt S (tgt := 432) dL_isStepSo_306 (by decide) (by omega) (by omega) (fun c_306 => ?_) (fun c_306 => ?_)
                            · exact absurd c_306 (by omega)
                            · refine lv_aload_n S.1 S.2.1 dL_isStepSo_309 rfl (lv_at hl 11 rfl) ?_
                              refine lv_iconst (v := nI (1)) S.1 S.2.1 dL_isStepSo_310 rfl ?_
                              refine k_VI2 (rest := []) S hK hl.1 hW (KFr.all hW hA) hN (mX2_play_k l D c a b ((pst θ 1 ((onS 1 (pu (((θ 0))) 11 (kc (((θ 0)) 11 0)))).2))) ρ κ _ 1 T (by first | omega | exact h1_1 | assumption | (show 1 ≤ 1; omega) | rfl) (by first | omega | exact h1_2 | assumption | (show 1 ≤ 128; omega) | rfl) ok (by first | omega | exact hT | assumption | (show T < 200000000; omega) | rfl) (by first | omega | exact hold | assumption | (show (κ 2 0) < 6; omega) | rfl) (by first | omega | exact hcnt | assumption | (show (κ 3 0) ≤ 6; omega) | rfl)) gL_isStepSo_X2_play rfl pdX2_play ⟨⟨rfl, rfl⟩, Nat.le_of_ble_eq_true rfl, Nat.le_of_ble_eq_true rfl⟩ 0 2 rfl rfl rfl rfl (Nat.le_of_ble_eq_true rfl) dL_isStepSo_311 ⟨Nat.le_of_ble_eq_true rfl, Nat.le_of_ble_eq_true rfl⟩ (fun H locs hW => ?_)
                              have hW : kw D A s.heap (wP c a b (pst (svT (pst θ 1 ((onS 1 (pu (((θ 0))) 11 (kc (((θ 0)) 11 0)))).2)) (((κ 2 0) + (κ 3 0)) % 6)) 0 ((onS 1 (((θ 0)))).2)) ρ (svK κ)) H locs := hW
                              refine k_top (y := nI ((onS 1 (((θ 0)))).1)) rfl ?_
                              refine k_top (y := nI (1)) (congrArg nI h3) ?_
                              have hW : kw D A s.heap (wP c a b (pst (svT (pst θ 1 ((onS 1 (pu (θ 0) 11 (kc (θ 0 11 0)))).2)) ((κ 2 0 + κ 3 0) % 6)) 0 (goS (θ 0))) ρ (svK κ)) H locs := by rw [h2] at hW; exact hW
                              refine lv_iload S.1 S.2.1 dL_isStepSo_314 (lv_at hl 4 rfl) ?_
                              refine kz_eq S (tgt := 323) dL_isStepSo_316 (by decide) (by omega) (fun c_316 => ?_) (fun c_316 => ?_)
                              · exact absurd c_316 (by decide)
                              · refine lv_iconst (v := nI (1)) S.1 S.2.1 dL_isStepSo_319 rfl ?_
                                refine lv_goto (tgt := 324) S.1 S.2.1 dL_isStepSo_320 (by decide) ?_
                                refine kn_ne S (tgt := 432) dL_isStepSo_324 (by decide) (by omega) (by omega) (fun c_324 => ?_) (fun c_324 => ?_)
                                · exact absurd c_324 (by decide)
                                · refine lv_aload_n S.1 S.2.1 dL_isStepSo_327 rfl (lv_at hl 11 rfl) ?_
                                  refine lv_iconst (v := nI (2)) S.1 S.2.1 dL_isStepSo_328 rfl ?_
                                  refine k_VI2 (rest := []) S hK hl.1 hW (KFr.all hW hA) hN (mX2_count_k l D c a b ((pst (svT (pst θ 1 ((onS 1 (pu (θ 0) 11 (kc (θ 0 11 0)))).2)) ((κ 2 0 + κ 3 0) % 6)) 0 (goS (θ 0)))) ρ ((svK κ)) _ 2 (T + 45) (by first | omega | exact hw | assumption | (show 2 < 18; omega) | rfl) ok2 (by first | omega | exact hT | assumption | (show (T + 45) < 500000000; omega) | rfl)) gL_isStepSo_X2_count rfl pdX2_count ⟨⟨rfl, rfl⟩, Nat.le_of_ble_eq_true rfl, Nat.le_of_ble_eq_true rfl⟩ 0 2 rfl rfl rfl rfl (Nat.le_of_ble_eq_true rfl) dL_isStepSo_329 ⟨Nat.le_of_ble_eq_true rfl, Nat.le_of_ble_eq_true rfl⟩ (fun H locs hW => ?_)
                                  have hW : kw D A s.heap (wP c a b (pst (svT (pst θ 1 ((onS 1 (pu (θ 0) 11 (kc (θ 0 11 0)))).2)) ((κ 2 0 + κ 3 0) % 6)) 0 (goS (θ 0))) ρ (svK κ)) H locs := hW
                                  refine k_top (y := nI ((if 2 = 17 then ((svK κ) 3 0) else numN (((goS (θ 0)))) 2))) rfl ?_
                                  refine k_top (y := nI ((goS (θ 0)) 10 0)) (cn_2 _ _) ?_
                                  refine lv_iload S.1 S.2.1 dL_isStepSo_332 (lv_at hl 4 rfl) ?_
                                  refine kz_eq S (tgt := 345) dL_isStepSo_334 (by decide) (by omega) (fun c_334 => ?_) (fun c_334 => ?_)
                                  · exact absurd c_334 (by decide)
                                  · refine lv_iload S.1 S.2.1 dL_isStepSo_337 (lv_at hl 10 rfl) ?_
                                    refine lv_iload S.1 S.2.1 dL_isStepSo_339 (lv_at hl 15 rfl) ?_
                                    refine kn_isub S dL_isStepSo_341 (by omega) ?_
                                    refine lv_goto (tgt := 347) S.1 S.2.1 dL_isStepSo_342 (by decide) ?_
                                    refine kn_ne S (tgt := 432) dL_isStepSo_347 (by decide) (by omega) (by omega) (fun c_347 => ?_) (fun c_347 => ?_)
                                    · exact absurd (by omega) c_347
                                    · refine lv_aload_n S.1 S.2.1 dL_isStepSo_350 rfl (lv_at hl 11 rfl) ?_
                                      refine lv_iconst (v := nI (4)) S.1 S.2.1 dL_isStepSo_351 rfl ?_
                                      refine k_VI2 (rest := []) S hK hl.1 hW (KFr.all hW hA) hN (mX2_count_k l D c a b ((pst (svT (pst θ 1 ((onS 1 (pu (θ 0) 11 (kc (θ 0 11 0)))).2)) ((κ 2 0 + κ 3 0) % 6)) 0 (goS (θ 0)))) ρ ((svK κ)) _ 4 (T + 45) (by first | omega | exact hw | assumption | (show 4 < 18; omega) | rfl) ok2 (by first | omega | exact hT | assumption | (show (T + 45) < 500000000; omega) | rfl)) gL_isStepSo_X2_count rfl pdX2_count ⟨⟨rfl, rfl⟩, Nat.le_of_ble_eq_true rfl, Nat.le_of_ble_eq_true rfl⟩ 0 2 rfl rfl rfl rfl (Nat.le_of_ble_eq_true rfl) dL_isStepSo_352 ⟨Nat.le_of_ble_eq_true rfl, Nat.le_of_ble_eq_true rfl⟩ (fun H locs hW => ?_)
                                      have hW : kw D A s.heap (wP c a b (pst (svT (pst θ 1 ((onS 1 (pu (θ 0) 11 (kc (θ 0 11 0)))).2)) ((κ 2 0 + κ 3 0) % 6)) 0 (goS (θ 0))) ρ (svK κ)) H locs := hW
                                      refine k_top (y := nI ((if 4 = 17 then ((svK κ) 3 0) else numN (((goS (θ 0)))) 4))) rfl ?_
                                      refine k_top (y := nI ((goS (θ 0)) 12 0)) (cn_4 _ _) ?_
                                      refine lv_iload S.1 S.2.1 dL_isStepSo_355 (lv_at hl 9 rfl) ?_
                                      refine lv_iload S.1 S.2.1 dL_isStepSo_357 (lv_at hl 5 rfl) ?_
                                      refine kn_iadd S dL_isStepSo_359 ?_
                                      refine kn_ne S (tgt := 432) dL_isStepSo_360 (by decide) (by omega) (by omega) (fun c_360 => ?_) (fun c_360 => ?_)
                                      · exact absurd (by omega) c_360
                                      · refine lv_aload_n S.1 S.2.1 dL_isStepSo_363 rfl (lv_at hl 11 rfl) ?_
                                        refine lv_bipush (v := nI (6)) S.1 S.2.1 dL_isStepSo_364 rfl ?_
                                        refine k_VI2 (rest := []) S hK hl.1 hW (KFr.all hW hA) hN (mX2_count_k l D c a b ((pst (svT (pst θ 1 ((onS 1 (pu (θ 0) 11 (kc (θ 0 11 0)))).2)) ((κ 2 0 + κ 3 0) % 6)) 0 (goS (θ 0)))) ρ ((svK κ)) _ 6 (T + 45) (by first | omega | exact hw | assumption | (show 6 < 18; omega) | rfl) ok2 (by first | omega | exact hT | assumption | (show (T + 45) < 500000000; omega) | rfl)) gL_isStepSo_X2_count rfl pdX2_count ⟨⟨rfl, rfl⟩, Nat.le_of_ble_eq_true rfl, Nat.le_of_ble_eq_true rfl⟩ 0 2 rfl rfl rfl rfl (Nat.le_of_ble_eq_true rfl) dL_isStepSo_366 ⟨Nat.le_of_ble_eq_true rfl, Nat.le_of_ble_eq_true rfl⟩ (fun H locs hW => ?_)
                                        have hW : kw D A s.heap (wP c a b (pst (svT (pst θ 1 ((onS 1 (pu (θ 0) 11 (kc (θ 0 11 0)))).2)) ((κ 2 0 + κ 3 0) % 6)) 0 (goS (θ 0))) ρ (svK κ)) H locs := hW
                                        refine k_top (y := nI ((if 6 = 17 then ((svK κ) 3 0) else numN (((goS (θ 0)))) 6))) rfl ?_
                                        refine k_top (y := nI ((goS (θ 0)) 14 0)) (cn_6 _ _) ?_
                                        refine lv_iload S.1 S.2.1 dL_isStepSo_369 (lv_at hl 8 rfl) ?_
                                        refine lv_iload S.1 S.2.1 dL_isStepSo_371 (lv_at hl 2 rfl) ?_
                                        refine kn_iadd S dL_isStepSo_373 ?_
                                        refine kn_ne S (tgt := 432) dL_isStepSo_374 (by decide) (by omega) (by omega) (fun c_374 => ?_) (fun c_374 => ?_)
                                        · exact absurd (by omega) c_374
                                        · refine lv_aload_n S.1 S.2.1 dL_isStepSo_377 rfl (lv_at hl 11 rfl) ?_
                                          refine lv_bipush (v := nI (7)) S.1 S.2.1 dL_isStepSo_378 rfl ?_
                                          refine k_VI2 (rest := []) S hK hl.1 hW (KFr.all hW hA) hN (mX2_count_k l D c a b ((pst (svT (pst θ 1 ((onS 1 (pu (θ 0) 11 (kc (θ 0 11 0)))).2)) ((κ 2 0 + κ 3 0) % 6)) 0 (goS (θ 0)))) ρ ((svK κ)) _ 7 (T + 45) (by first | omega | exact hw | assumption | (show 7 < 18; omega) | rfl) ok2 (by first | omega | exact hT | assumption | (show (T + 45) < 500000000; omega) | rfl)) gL_isStepSo_X2_count rfl pdX2_count ⟨⟨rfl, rfl⟩, Nat.le_of_ble_eq_true rfl, Nat.le_of_ble_eq_true rfl⟩ 0 2 rfl rfl rfl rfl (Nat.le_of_ble_eq_true rfl) dL_isStepSo_380 ⟨Nat.le_of_ble_eq_true rfl, Nat.le_of_ble_eq_true rfl⟩ (fun H locs hW => ?_)
                                          have hW : kw D A s.heap (wP c a b (pst (svT (pst θ 1 ((onS 1 (pu (θ 0) 11 (kc (θ 0 11 0)))).2)) ((κ 2 0 + κ 3 0) % 6)) 0 (goS (θ 0))) ρ (svK κ)) H locs := hW
                                          refine k_top (y := nI ((if 7 = 17 then ((svK κ) 3 0) else numN (((goS (θ 0)))) 7))) rfl ?_
                                          refine k_top (y := nI ((goS (θ 0)) 15 0)) (cn_7 _ _) ?_
                                          refine lv_iload S.1 S.2.1 dL_isStepSo_383 (lv_at hl 7 rfl) ?_
                                          refine lv_iload S.1 S.2.1 dL_isStepSo_385 (lv_at hl 1 rfl) ?_
                                          refine kn_iadd S dL_isStepSo_387 ?_
                                          refine kn_ne S (tgt := 432) dL_isStepSo_388 (by decide) (by omega) (by omega) (fun c_388 => ?_) (fun c_388 => ?_)
                                          · exact absurd (by omega) c_388
                                          · refine lv_aload_n S.1 S.2.1 dL_isStepSo_391 rfl (lv_at hl 11 rfl) ?_
                                            refine lv_bipush (v := nI (9)) S.1 S.2.1 dL_isStepSo_392 rfl ?_
                                            refine k_VI2 (rest := []) S hK hl.1 hW (KFr.all hW hA) hN (mX2_count_k l D c a b ((pst (svT (pst θ 1 ((onS 1 (pu (θ 0) 11 (kc (θ 0 11 0)))).2)) ((κ 2 0 + κ 3 0) % 6)) 0 (goS (θ 0)))) ρ ((svK κ)) _ 9 (T + 45) (by first | omega | exact hw | assumption | (show 9 < 18; omega) | rfl) ok2 (by first | omega | exact hT | assumption | (show (T + 45) < 500000000; omega) | rfl)) gL_isStepSo_X2_count rfl pdX2_count ⟨⟨rfl, rfl⟩, Nat.le_of_ble_eq_true rfl, Nat.le_of_ble_eq_true rfl⟩ 0 2 rfl rfl rfl rfl (Nat.le_of_ble_eq_true rfl) dL_isStepSo_394 ⟨Nat.le_of_ble_eq_true rfl, Nat.le_of_ble_eq_true rfl⟩ (fun H locs hW => ?_)
                                            have hW : kw D A s.heap (wP c a b (pst (svT (pst θ 1 ((onS 1 (pu (θ 0) 11 (kc (θ 0 11 0)))).2)) ((κ 2 0 + κ 3 0) % 6)) 0 (goS (θ 0))) ρ (svK κ)) H locs := hW
                                            refine k_top (y := nI ((if 9 = 17 then ((svK κ) 3 0) else numN (((goS (θ 0)))) 9))) rfl ?_
                                            refine k_top (y := nI (ones ((goS (θ 0)) 7 0))) (cn_9 _ _) ?_
                                            refine lv_iload S.1 S.2.1 dL_isStepSo_397 (lv_at hl 6 rfl) ?_
                                            refine lv_iload S.1 S.2.1 dL_isStepSo_399 (lv_at hl 0 rfl) ?_
                                            refine kn_iadd S dL_isStepSo_401 ?_
                                            refine kn_ne S (tgt := 432) dL_isStepSo_402 (by decide) (by omega) (by omega) (fun c_402 => ?_) (fun c_402 => ?_)
                                            · exact absurd (by omega) c_402
                                            · refine lv_iload S.1 S.2.1 dL_isStepSo_405 (lv_at hl 4 rfl) ?_
                                              refine kz_eq S (tgt := 428) dL_isStepSo_407 (by decide) (by omega) (fun c_407 => ?_) (fun c_407 => ?_)
                                              · exact absurd c_407 (by decide)
                                              · refine lv_aload_n S.1 S.2.1 dL_isStepSo_410 rfl (lv_at hl 11 rfl) ?_
                                                refine lv_iconst (v := nI (0)) S.1 S.2.1 dL_isStepSo_411 rfl ?_
                                                refine k_VI2 (rest := []) S hK hl.1 hW (KFr.all hW hA) hN (mX2_count_k l D c a b ((pst (svT (pst θ 1 ((onS 1 (pu (θ 0) 11 (kc (θ 0 11 0)))).2)) ((κ 2 0 + κ 3 0) % 6)) 0 (goS (θ 0)))) ρ ((svK κ)) _ 0 (T + 45) (by first | omega | exact hw | assumption | (show 0 < 18; omega) | rfl) ok2 (by first | omega | exact hT | assumption | (show (T + 45) < 500000000; omega) | rfl)) gL_isStepSo_X2_count rfl pdX2_count ⟨⟨rfl, rfl⟩, Nat.le_of_ble_eq_true rfl, Nat.le_of_ble_eq_true rfl⟩ 0 2 rfl rfl rfl rfl (Nat.le_of_ble_eq_true rfl) dL_isStepSo_412 ⟨Nat.le_of_ble_eq_true rfl, Nat.le_of_ble_eq_true rfl⟩ (fun H locs hW => ?_)
                                                have hW : kw D A s.heap (wP c a b (pst (svT (pst θ 1 ((onS 1 (pu (θ 0) 11 (kc (θ 0 11 0)))).2)) ((κ 2 0 + κ 3 0) % 6)) 0 (goS (θ 0))) ρ (svK κ)) H locs := hW
                                                refine k_top (y := nI ((if 0 = 17 then ((svK κ) 3 0) else numN (((goS (θ 0)))) 0))) rfl ?_
                                                refine k_top (y := nI ((goS (θ 0)) 8 0)) (cn_0 _ _) ?_
                                                refine lv_iload_n S.1 S.2.1 dL_isStepSo_415 rfl (lv_at hl 12 rfl) ?_
                                                refine kn_ne S (tgt := 432) dL_isStepSo_416 (by decide) (by omega) (by omega) (fun c_416 => ?_) (fun c_416 => ?_)
                                                · exact absurd (by omega) c_416
                                                · refine lv_aload_n S.1 S.2.1 dL_isStepSo_419 rfl (lv_at hl 11 rfl) ?_
                                                  refine lv_iconst (v := nI (1)) S.1 S.2.1 dL_isStepSo_420 rfl ?_
                                                  refine k_VI2 (rest := []) S hK hl.1 hW (KFr.all hW hA) hN (mX2_count_k l D c a b ((pst (svT (pst θ 1 ((onS 1 (pu (θ 0) 11 (kc (θ 0 11 0)))).2)) ((κ 2 0 + κ 3 0) % 6)) 0 (goS (θ 0)))) ρ ((svK κ)) _ 1 (T + 45) (by first | omega | exact hw | assumption | (show 1 < 18; omega) | rfl) ok2 (by first | omega | exact hT | assumption | (show (T + 45) < 500000000; omega) | rfl)) gL_isStepSo_X2_count rfl pdX2_count ⟨⟨rfl, rfl⟩, Nat.le_of_ble_eq_true rfl, Nat.le_of_ble_eq_true rfl⟩ 0 2 rfl rfl rfl rfl (Nat.le_of_ble_eq_true rfl) dL_isStepSo_421 ⟨Nat.le_of_ble_eq_true rfl, Nat.le_of_ble_eq_true rfl⟩ (fun H locs hW => ?_)
                                                  have hW : kw D A s.heap (wP c a b (pst (svT (pst θ 1 ((onS 1 (pu (θ 0) 11 (kc (θ 0 11 0)))).2)) ((κ 2 0 + κ 3 0) % 6)) 0 (goS (θ 0))) ρ (svK κ)) H locs := hW
                                                  refine k_top (y := nI ((if 1 = 17 then ((svK κ) 3 0) else numN (((goS (θ 0)))) 1))) rfl ?_
                                                  refine k_top (y := nI ((goS (θ 0)) 9 0)) (cn_1 _ _) ?_
                                                  refine lv_iload_n S.1 S.2.1 dL_isStepSo_424 rfl (lv_at hl 13 rfl) ?_
                                                  refine kn_ne S (tgt := 432) dL_isStepSo_425 (by decide) (by omega) (by omega) (fun c_425 => ?_) (fun c_425 => ?_)
                                                  · exact absurd (by omega) c_425
                                                  · refine lv_iconst (v := nI (1)) S.1 S.2.1 dL_isStepSo_428 rfl ?_
                                                    refine lv_goto (tgt := 433) S.1 S.2.1 dL_isStepSo_429 (by decide) ?_
                                                    refine lv_istore (lv' := [(12, .int (nI (1))), (15, .int (nI (ones (goS (θ 0) 7 0) - ones (θ 0 7 0)))), (14, .int (nI (goS (θ 0) 15 0 - θ 0 15 0))), (13, .int (nI (goS (θ 0) 14 0 - θ 0 14 0))), (11, .int (nI (1))), (10, .int (nI (tiS (θ 0)))), (9, .int (nI (ones ((θ 0) 7 0)))), (8, .int (nI ((θ 0) 15 0))), (7, .int (nI ((θ 0) 14 0))), (6, .int (nI ((θ 0) 12 0))), (5, .int (nI ((θ 0) 10 0))), (0, .ref (a 0)), (1, .int (nI (pnS (θ 0)))), (2, .int (nI (tnS (θ 0)))), (3, .int (nI (((θ 0)) 0 ((tnS (θ 0)) * 32 + (pnS (θ 0)))))), (4, .int (nI (1 + ct (fun i => (stk (θ 0)).testBit i) 12)))]) S.1 S.2.1 dL_isStepSo_433 hl (by decide) rfl (fun ls hl => ?_)
                                                    refine lv_iconst (v := nI (0)) S.1 S.2.1 dL_isStepSo_435 rfl ?_
                                                    refine lv_istore (lv' := [(16, .int (nI (0))), (12, .int (nI (1))), (15, .int (nI (ones (goS (θ 0) 7 0) - ones (θ 0 7 0)))), (14, .int (nI (goS (θ 0) 15 0 - θ 0 15 0))), (13, .int (nI (goS (θ 0) 14 0 - θ 0 14 0))), (11, .int (nI (1))), (10, .int (nI (tiS (θ 0)))), (9, .int (nI (ones ((θ 0) 7 0)))), (8, .int (nI ((θ 0) 15 0))), (7, .int (nI ((θ 0) 14 0))), (6, .int (nI ((θ 0) 12 0))), (5, .int (nI ((θ 0) 10 0))), (0, .ref (a 0)), (1, .int (nI (pnS (θ 0)))), (2, .int (nI (tnS (θ 0)))), (3, .int (nI (((θ 0)) 0 ((tnS (θ 0)) * 32 + (pnS (θ 0)))))), (4, .int (nI (1 + ct (fun i => (stk (θ 0)).testBit i) 12)))]) S.1 S.2.1 dL_isStepSo_436 hl (by decide) rfl (fun ls hl => ?_)
                                                    refine k_loop (fun (zz : Nat) H lo ls => match zz with | k => kw D A s.heap (wP c a b (pst (svT (pst θ 1 ((onS 1 (pu (θ 0) 11 (kc (θ 0 11 0)))).2)) ((κ 2 0 + κ 3 0) % 6)) 0 (goS (θ 0))) ρ (svK κ)) H lo ∧ lv_has ls 17 [(0, .ref (a 0)), (1, .int (nI (pnS (θ 0)))), (2, .int (nI (tnS (θ 0)))), (3, .int (nI (((θ 0)) 0 ((tnS (θ 0)) * 32 + (pnS (θ 0)))))), (4, .int (nI (1 + ct (fun i => (stk (θ 0)).testBit i) 12))), (5, .int (nI ((θ 0) 10 0))), (6, .int (nI ((θ 0) 12 0))), (7, .int (nI ((θ 0) 14 0))), (8, .int (nI ((θ 0) 15 0))), (9, .int (nI (ones ((θ 0) 7 0)))), (10, .int (nI (tiS (θ 0)))), (11, .int (nI (1))), (12, .int (nI (1))), (13, .int (nI (goS (θ 0) 14 0 - θ 0 14 0))), (14, .int (nI (goS (θ 0) 15 0 - θ 0 15 0))), (15, .int (nI (ones (goS (θ 0) 7 0) - ones (θ 0 7 0)))), (16, .int (nI (k)))] ∧ k ≤ goS (θ 0) 14 0 - θ 0 14 0) (fun (zz : Nat) => match zz with | k => goS (θ 0) 14 0 - θ 0 14 0 - k) [] ?_ 0 _ _ _ ⟨hW, lv_sub hl [12, 13, 14, 15, 16, 11, 10, 9, 8, 7, 6, 5, 1, 4, 3, 2, 0] rfl, (Nat.zero_le _)⟩
                                                    rintro k ih438 H locs ls ⟨hW, hl, hi438_0⟩
                                                    refine lv_iload S.1 S.2.1 dL_isStepSo_438 (lv_at hl 16 rfl) ?_
                                                    refine lv_iload S.1 S.2.1 dL_isStepSo_440 (lv_at hl 13 rfl) ?_
                                                    refine kn_ge S (tgt := 533) dL_isStepSo_442 (by decide) (by omega) (by omega) (fun c_442 => ?_) (fun c_442 => ?_)
                                                    · refine lv_iload S.1 S.2.1 dL_isStepSo_533 (lv_at hl 12 rfl) ?_
                                                      refine kz_eq S (tgt := 570) dL_isStepSo_535 (by decide) (by omega) (fun c_535 => ?_) (fun c_535 => ?_)
                                                      · exact absurd c_535 (by decide)
                                                      · refine lv_aload_n S.1 S.2.1 dL_isStepSo_538 rfl (lv_at hl 0 rfl) ?_
                                                        refine k_VI2 (rest := []) S hK hl.1 hW (KFr.all hW hA) hN (mX2_undo_k l D c a b ((pst (svT (pst θ 1 ((onS 1 (pu (θ 0) 11 (kc (θ 0 11 0)))).2)) ((κ 2 0 + κ 3 0) % 6)) 0 (goS (θ 0)))) ρ ((svK κ)) _ hsv2 hsv3 hsv0) gL_isStepSo_X2_undo rfl pdX2_undo ⟨⟨rfl, rfl⟩, Nat.le_of_ble_eq_true rfl, Nat.le_of_ble_eq_true rfl⟩ 0 2 rfl rfl rfl rfl (Nat.le_of_ble_eq_true rfl) dL_isStepSo_539 ⟨Nat.le_of_ble_eq_true rfl, Nat.le_of_ble_eq_true rfl⟩ (fun H locs hW => ?_)
                                                        have hW : kw D A s.heap (wP c a b (pst (svT (pst θ 1 ((onS 1 (pu (θ 0) 11 (kc (θ 0 11 0)))).2)) ((κ 2 0 + κ 3 0) % 6)) 0 ((pst (svT (pst θ 1 ((onS 1 (pu (θ 0) 11 (kc (θ 0 11 0)))).2)) ((κ 2 0 + κ 3 0) % 6)) 0 (goS (θ 0))) (3 + (((svK κ) 2 0) + (((svK κ) 3 0) - 1)) % 6))) ρ (pu (svK κ) 3 (kc (((svK κ) 3 0) - 1)))) H locs := hW
                                                        refine k_top (y := nI (((svK κ) 3 0) - 1)) rfl ?_
                                                        have hW : kw D A s.heap (wP c a b (pst (svT (pst θ 1 ((onS 1 (pu (θ 0) 11 (kc (θ 0 11 0)))).2)) ((κ 2 0 + κ 3 0) % 6)) 0 (θ 0)) ρ (pu (svK κ) 3 (kc (svK κ 3 0 - 1)))) H locs := by rw [undo_eq (θ := pst θ 1 ((onS 1 (pu (θ 0) 11 (kc (θ 0 11 0)))).2)) hold hcnt] at hW; exact hW
                                                        refine kz_lt S (tgt := 570) dL_isStepSo_542 (by decide) (by omega) ?_
                                                        refine lv_aload_n S.1 S.2.1 dL_isStepSo_545 rfl (lv_at hl 0 rfl) ?_
                                                        refine lv_iconst (v := nI (2)) S.1 S.2.1 dL_isStepSo_546 rfl ?_
                                                        refine k_VI2 (rest := []) S hK hl.1 hW (KFr.all hW hA) hN (mX2_count_k l D c a b ((pst (svT (pst θ 1 ((onS 1 (pu (θ 0) 11 (kc (θ 0 11 0)))).2)) ((κ 2 0 + κ 3 0) % 6)) 0 (θ 0))) ρ ((pu (svK κ) 3 (kc (svK κ 3 0 - 1)))) _ 2 T (by first | omega | exact hw | assumption | (show 2 < 18; omega) | rfl) ok (by first | omega | exact hT | assumption | (show T < 500000000; omega) | rfl)) gL_isStepSo_X2_count rfl pdX2_count ⟨⟨rfl, rfl⟩, Nat.le_of_ble_eq_true rfl, Nat.le_of_ble_eq_true rfl⟩ 0 2 rfl rfl rfl rfl (Nat.le_of_ble_eq_true rfl) dL_isStepSo_547 ⟨Nat.le_of_ble_eq_true rfl, Nat.le_of_ble_eq_true rfl⟩ (fun H locs hW => ?_)
                                                        have hW : kw D A s.heap (wP c a b (pst (svT (pst θ 1 ((onS 1 (pu (θ 0) 11 (kc (θ 0 11 0)))).2)) ((κ 2 0 + κ 3 0) % 6)) 0 (θ 0)) ρ (pu (svK κ) 3 (kc (svK κ 3 0 - 1)))) H locs := hW
                                                        refine k_top (y := nI ((if 2 = 17 then (svK κ 3 0 - 1) else numN (((θ 0))) 2))) rfl ?_
                                                        refine k_top (y := nI ((θ 0) 10 0)) (cn_2 _ _) ?_
                                                        refine lv_iload S.1 S.2.1 dL_isStepSo_550 (lv_at hl 5 rfl) ?_
                                                        refine kn_ne S (tgt := 570) dL_isStepSo_552 (by decide) (by omega) (by omega) (fun c_552 => ?_) (fun c_552 => ?_)
                                                        · exact absurd rfl c_552
                                                        · refine lv_aload_n S.1 S.2.1 dL_isStepSo_555 rfl (lv_at hl 0 rfl) ?_
                                                          refine lv_bipush (v := nI (6)) S.1 S.2.1 dL_isStepSo_556 rfl ?_
                                                          refine k_VI2 (rest := []) S hK hl.1 hW (KFr.all hW hA) hN (mX2_count_k l D c a b ((pst (svT (pst θ 1 ((onS 1 (pu (θ 0) 11 (kc (θ 0 11 0)))).2)) ((κ 2 0 + κ 3 0) % 6)) 0 (θ 0))) ρ ((pu (svK κ) 3 (kc (svK κ 3 0 - 1)))) _ 6 T (by first | omega | exact hw | assumption | (show 6 < 18; omega) | rfl) ok (by first | omega | exact hT | assumption | (show T < 500000000; omega) | rfl)) gL_isStepSo_X2_count rfl pdX2_count ⟨⟨rfl, rfl⟩, Nat.le_of_ble_eq_true rfl, Nat.le_of_ble_eq_true rfl⟩ 0 2 rfl rfl rfl rfl (Nat.le_of_ble_eq_true rfl) dL_isStepSo_558 ⟨Nat.le_of_ble_eq_true rfl, Nat.le_of_ble_eq_true rfl⟩ (fun H locs hW => ?_)
                                                          have hW : kw D A s.heap (wP c a b (pst (svT (pst θ 1 ((onS 1 (pu (θ 0) 11 (kc (θ 0 11 0)))).2)) ((κ 2 0 + κ 3 0) % 6)) 0 (θ 0)) ρ (pu (svK κ) 3 (kc (svK κ 3 0 - 1)))) H locs := hW
                                                          refine k_top (y := nI ((if 6 = 17 then (svK κ 3 0 - 1) else numN (((θ 0))) 6))) rfl ?_
                                                          refine k_top (y := nI ((θ 0) 14 0)) (cn_6 _ _) ?_
                                                          refine lv_iload S.1 S.2.1 dL_isStepSo_561 (lv_at hl 7 rfl) ?_
                                                          refine kn_ne S (tgt := 570) dL_isStepSo_563 (by decide) (by omega) (by omega) (fun c_563 => ?_) (fun c_563 => ?_)
                                                          · exact absurd rfl c_563
                                                          · refine lv_iconst (v := nI (1)) S.1 S.2.1 dL_isStepSo_566 rfl ?_
                                                            refine lv_goto (tgt := 571) S.1 S.2.1 dL_isStepSo_567 (by decide) ?_
                                                            exact hret 571 _ _ _ _ _ dL_isStepSo_571 hW (rfl) (rfl)
                                                    · obtain ⟨y1, y2, y3, y4, y5⟩ := hq.2.2.2.2.2.2.2 k c_442
                                                      have hmk : k < min 24 (goS (θ 0) 14 0) := by omega
                                                      have y8 := ig.1.2.2.2.1 _ y1
                                                      refine lv_iload S.1 S.2.1 dL_isStepSo_445 (lv_at hl 12 rfl) ?_
                                                      refine kz_eq S (tgt := 524) dL_isStepSo_447 (by decide) (by omega) (fun c_447 => ?_) (fun c_447 => ?_)
                                                      · exact absurd c_447 (by decide)
                                                      · refine lv_aload_n S.1 S.2.1 dL_isStepSo_450 rfl (lv_at hl 0 rfl) ?_
                                                        refine lv_iload S.1 S.2.1 dL_isStepSo_451 (lv_at hl 16 rfl) ?_
                                                        refine lv_iconst (v := nI (1)) S.1 S.2.1 dL_isStepSo_453 rfl ?_
                                                        refine k_VI2 (rest := []) S hK hl.1 hW (KFr.all hW hA) hN (mX2_note_k l D c a b ((pst (svT (pst θ 1 ((onS 1 (pu (θ 0) 11 (kc (θ 0 11 0)))).2)) ((κ 2 0 + κ 3 0) % 6)) 0 (goS (θ 0)))) ρ ((svK κ)) _ k 1 (T + 45) (by first | omega | exact hb | assumption | (show k < 24; omega) | rfl) (by first | omega | exact hw | assumption | (show 1 < 2; omega) | rfl) ok2 (by first | omega | exact hT | assumption | (show (T + 45) < 500000000; omega) | rfl)) gL_isStepSo_X2_note rfl pdX2_note ⟨⟨rfl, rfl⟩, Nat.le_of_ble_eq_true rfl, Nat.le_of_ble_eq_true rfl⟩ 0 2 rfl rfl rfl rfl (Nat.le_of_ble_eq_true rfl) dL_isStepSo_454 ⟨Nat.le_of_ble_eq_true rfl, Nat.le_of_ble_eq_true rfl⟩ (fun H locs hW => ?_)
                                                        have hW : kw D A s.heap (wP c a b (pst (svT (pst θ 1 ((onS 1 (pu (θ 0) 11 (kc (θ 0 11 0)))).2)) ((κ 2 0 + κ 3 0) % 6)) 0 (goS (θ 0))) ρ (svK κ)) H locs := hW
                                                        refine k_top (y := nI ((if k < min 24 (((goS (θ 0))) 14 0) then (if 1 = 0 then ((goS (θ 0))) 4 ((((goS (θ 0))) 14 0 - 1 - k) % 24) else ((goS (θ 0))) 5 ((((goS (θ 0))) 14 0 - 1 - k) % 24)) else 4294967295))) rfl ?_
                                                        refine k_top (y := nI (goS (θ 0) 5 ((goS (θ 0) 14 0 - 1 - k) % 24))) (nt_1 hmk) ?_
                                                        refine lv_iload S.1 S.2.1 dL_isStepSo_457 (lv_at hl 6 rfl) ?_
                                                        refine lv_iload S.1 S.2.1 dL_isStepSo_459 (lv_at hl 10 rfl) ?_
                                                        refine kn_iadd S dL_isStepSo_461 ?_
                                                        refine kn_ne S (tgt := 524) dL_isStepSo_462 (by decide) (by omega) (by omega) (fun c_462 => ?_) (fun c_462 => ?_)
                                                        · exact absurd (by omega) c_462
                                                        · refine lv_iload_n S.1 S.2.1 dL_isStepSo_465 rfl (lv_at hl 3 rfl) ?_
                                                          refine lv_aload_n S.1 S.2.1 dL_isStepSo_466 rfl (lv_at hl 0 rfl) ?_
                                                          refine lv_iload S.1 S.2.1 dL_isStepSo_467 (lv_at hl 16 rfl) ?_
                                                          refine lv_iconst (v := nI (0)) S.1 S.2.1 dL_isStepSo_469 rfl ?_
                                                          refine k_VI2 (rest := [.int (nI (((θ 0)) 0 ((tnS (θ 0)) * 32 + (pnS (θ 0)))))]) S hK hl.1 hW (KFr.all hW hA) hN (mX2_note_k l D c a b ((pst (svT (pst θ 1 ((onS 1 (pu (θ 0) 11 (kc (θ 0 11 0)))).2)) ((κ 2 0 + κ 3 0) % 6)) 0 (goS (θ 0)))) ρ ((svK κ)) _ k 0 (T + 45) (by first | omega | exact hb | assumption | (show k < 24; omega) | rfl) (by first | omega | exact hw | assumption | (show 0 < 2; omega) | rfl) ok2 (by first | omega | exact hT | assumption | (show (T + 45) < 500000000; omega) | rfl)) gL_isStepSo_X2_note rfl pdX2_note ⟨⟨rfl, rfl⟩, Nat.le_of_ble_eq_true rfl, Nat.le_of_ble_eq_true rfl⟩ 0 2 rfl rfl rfl rfl (Nat.le_of_ble_eq_true rfl) dL_isStepSo_470 ⟨Nat.le_of_ble_eq_true rfl, Nat.le_of_ble_eq_true rfl⟩ (fun H locs hW => ?_)
                                                          have hW : kw D A s.heap (wP c a b (pst (svT (pst θ 1 ((onS 1 (pu (θ 0) 11 (kc (θ 0 11 0)))).2)) ((κ 2 0 + κ 3 0) % 6)) 0 (goS (θ 0))) ρ (svK κ)) H locs := hW
                                                          refine k_top (y := nI ((if k < min 24 (((goS (θ 0))) 14 0) then (if 0 = 0 then ((goS (θ 0))) 4 ((((goS (θ 0))) 14 0 - 1 - k) % 24) else ((goS (θ 0))) 5 ((((goS (θ 0))) 14 0 - 1 - k) % 24)) else 4294967295))) rfl ?_
                                                          refine k_top (y := nI (goS (θ 0) 4 ((goS (θ 0) 14 0 - 1 - k) % 24))) (nt_0 hmk) ?_
                                                          refine lv_ishr S.1 S.2.1 dL_isStepSo_473 ?_
                                                          refine lv_iconst (v := nI (1)) S.1 S.2.1 dL_isStepSo_474 rfl ?_
                                                          refine kn_tbit S (by omega) dL_isStepSo_475 ?_
                                                          refine lv_iconst (v := nI (1)) S.1 S.2.1 dL_isStepSo_476 rfl ?_
                                                          refine kn_ne S (tgt := 524) dL_isStepSo_477 (by decide) (bt_lt _) (by omega) (fun c_477 => ?_) (fun c_477 => ?_)
                                                          · exact absurd (congrArg Bool.toNat y2) c_477
                                                          · refine lv_aload_n S.1 S.2.1 dL_isStepSo_480 rfl (lv_at hl 0 rfl) ?_
                                                            refine lv_aload_n S.1 S.2.1 dL_isStepSo_481 rfl (lv_at hl 0 rfl) ?_
                                                            refine lv_iload S.1 S.2.1 dL_isStepSo_482 (lv_at hl 16 rfl) ?_
                                                            refine lv_iconst (v := nI (0)) S.1 S.2.1 dL_isStepSo_484 rfl ?_
                                                            refine k_VI2 (rest := [.ref (a 0)]) S hK hl.1 hW (KFr.all hW hA) hN (mX2_note_k l D c a b ((pst (svT (pst θ 1 ((onS 1 (pu (θ 0) 11 (kc (θ 0 11 0)))).2)) ((κ 2 0 + κ 3 0) % 6)) 0 (goS (θ 0)))) ρ ((svK κ)) _ k 0 (T + 45) (by first | omega | exact hb | assumption | (show k < 24; omega) | rfl) (by first | omega | exact hw | assumption | (show 0 < 2; omega) | rfl) ok2 (by first | omega | exact hT | assumption | (show (T + 45) < 500000000; omega) | rfl)) gL_isStepSo_X2_note rfl pdX2_note ⟨⟨rfl, rfl⟩, Nat.le_of_ble_eq_true rfl, Nat.le_of_ble_eq_true rfl⟩ 0 2 rfl rfl rfl rfl (Nat.le_of_ble_eq_true rfl) dL_isStepSo_485 ⟨Nat.le_of_ble_eq_true rfl, Nat.le_of_ble_eq_true rfl⟩ (fun H locs hW => ?_)
                                                            have hW : kw D A s.heap (wP c a b (pst (svT (pst θ 1 ((onS 1 (pu (θ 0) 11 (kc (θ 0 11 0)))).2)) ((κ 2 0 + κ 3 0) % 6)) 0 (goS (θ 0))) ρ (svK κ)) H locs := hW
                                                            refine k_top (y := nI ((if k < min 24 (((goS (θ 0))) 14 0) then (if 0 = 0 then ((goS (θ 0))) 4 ((((goS (θ 0))) 14 0 - 1 - k) % 24) else ((goS (θ 0))) 5 ((((goS (θ 0))) 14 0 - 1 - k) % 24)) else 4294967295))) rfl ?_
                                                            refine k_top (y := nI (goS (θ 0) 4 ((goS (θ 0) 14 0 - 1 - k) % 24))) (nt_0 hmk) ?_
                                                            refine lv_iconst (v := nI (0)) S.1 S.2.1 dL_isStepSo_488 rfl ?_
                                                            refine k_VI2 (rest := []) S hK hl.1 hW (KFr.all hW hA) hN (mX2_tooth_k l D c a b ((pst (svT (pst θ 1 ((onS 1 (pu (θ 0) 11 (kc (θ 0 11 0)))).2)) ((κ 2 0 + κ 3 0) % 6)) 0 (goS (θ 0)))) ρ ((svK κ)) _ (goS (θ 0) 4 ((goS (θ 0) 14 0 - 1 - k) % 24)) 0 (T + 45) (by first | omega | exact hj | assumption | (show (goS (θ 0) 4 ((goS (θ 0) 14 0 - 1 - k) % 24)) < 12; omega) | rfl) (by first | omega | exact hw | assumption | (show 0 < 5; omega) | rfl) ok2 (by first | omega | exact hT | assumption | (show (T + 45) < 500000000; omega) | rfl)) gL_isStepSo_X2_tooth rfl pdX2_tooth ⟨⟨rfl, rfl⟩, Nat.le_of_ble_eq_true rfl, Nat.le_of_ble_eq_true rfl⟩ 0 2 rfl rfl rfl rfl (Nat.le_of_ble_eq_true rfl) dL_isStepSo_489 ⟨Nat.le_of_ble_eq_true rfl, Nat.le_of_ble_eq_true rfl⟩ (fun H locs hW => ?_)
                                                            have hW : kw D A s.heap (wP c a b (pst (svT (pst θ 1 ((onS 1 (pu (θ 0) 11 (kc (θ 0 11 0)))).2)) ((κ 2 0 + κ 3 0) % 6)) 0 (goS (θ 0))) ρ (svK κ)) H locs := hW
                                                            refine k_top (y := nI (numK (((goS (θ 0)))) (goS (θ 0) 4 ((goS (θ 0) 14 0 - 1 - k) % 24)) 0)) rfl ?_
                                                            refine k_top (y := nI ((goS (θ 0)) 1 (goS (θ 0) 4 ((goS (θ 0) 14 0 - 1 - k) % 24)) - (goS (θ 0)) 12 0)) (congrArg nI (numK_0 _ _)) ?_
                                                            refine lv_iconst (v := nI (3)) S.1 S.2.1 dL_isStepSo_492 rfl ?_
                                                            refine kn_le S (tgt := 524) dL_isStepSo_493 (by decide) (by omega) (by omega) (fun c_493 => ?_) (fun c_493 => ?_)
                                                            · exact absurd c_493 (by omega)
                                                            · refine lv_iload S.1 S.2.1 dL_isStepSo_496 (lv_at hl 16 rfl) ?_
                                                              refine kz_eq S (tgt := 520) dL_isStepSo_498 (by decide) (by omega) (fun c_498 => ?_) (fun c_498 => ?_)
                                                              · refine lv_iconst (v := nI (1)) S.1 S.2.1 dL_isStepSo_520 rfl ?_
                                                                refine lv_goto (tgt := 525) S.1 S.2.1 dL_isStepSo_521 (by decide) ?_
                                                                refine lv_istore (lv' := [(12, .int (nI (1))), (0, .ref (a 0)), (1, .int (nI (pnS (θ 0)))), (2, .int (nI (tnS (θ 0)))), (3, .int (nI (((θ 0)) 0 ((tnS (θ 0)) * 32 + (pnS (θ 0)))))), (4, .int (nI (1 + ct (fun i => (stk (θ 0)).testBit i) 12))), (5, .int (nI ((θ 0) 10 0))), (6, .int (nI ((θ 0) 12 0))), (7, .int (nI ((θ 0) 14 0))), (8, .int (nI ((θ 0) 15 0))), (9, .int (nI (ones ((θ 0) 7 0)))), (10, .int (nI (tiS (θ 0)))), (11, .int (nI (1))), (13, .int (nI (goS (θ 0) 14 0 - θ 0 14 0))), (14, .int (nI (goS (θ 0) 15 0 - θ 0 15 0))), (15, .int (nI (ones (goS (θ 0) 7 0) - ones (θ 0 7 0)))), (16, .int (nI (k)))]) S.1 S.2.1 dL_isStepSo_525 hl (by decide) rfl (fun ls hl => ?_)
                                                                refine lv_iinc (v := nI (k + 1)) (lv' := [(16, .int (nI (k + 1))), (12, .int (nI (1))), (0, .ref (a 0)), (1, .int (nI (pnS (θ 0)))), (2, .int (nI (tnS (θ 0)))), (3, .int (nI (((θ 0)) 0 ((tnS (θ 0)) * 32 + (pnS (θ 0)))))), (4, .int (nI (1 + ct (fun i => (stk (θ 0)).testBit i) 12))), (5, .int (nI ((θ 0) 10 0))), (6, .int (nI ((θ 0) 12 0))), (7, .int (nI ((θ 0) 14 0))), (8, .int (nI ((θ 0) 15 0))), (9, .int (nI (ones ((θ 0) 7 0)))), (10, .int (nI (tiS (θ 0)))), (11, .int (nI (1))), (13, .int (nI (goS (θ 0) 14 0 - θ 0 14 0))), (14, .int (nI (goS (θ 0) 15 0 - θ 0 15 0))), (15, .int (nI (ones (goS (θ 0) 7 0) - ones (θ 0 7 0))))]) S.1 S.2.1 dL_isStepSo_527 hl (k := 16) rfl (nI_add _ _) (by decide) rfl (fun ls hl => ?_)
                                                                refine lv_goto (tgt := 438) S.1 S.2.1 dL_isStepSo_530 (by decide) ?_
                                                                exact ih438 (k + 1) _ _ _ ⟨hW, lv_sub hl [2, 3, 4, 5, 6, 7, 8, 9, 10, 11, 12, 13, 1, 14, 15, 16, 0] rfl, (by omega)⟩ (by show goS (θ 0) 14 0 - θ 0 14 0 - (k + 1) < goS (θ 0) 14 0 - θ 0 14 0 - k; omega)
                                                              · have hmp : k - 1 < min 24 (goS (θ 0) 14 0) := by omega
                                                                have y6 := y5 (k - 1) (by omega)
                                                                obtain ⟨y7, -⟩ := hq.2.2.2.2.2.2.2 (k - 1) (by omega)
                                                                refine lv_aload_n S.1 S.2.1 dL_isStepSo_501 rfl (lv_at hl 0 rfl) ?_
                                                                refine lv_iload S.1 S.2.1 dL_isStepSo_502 (lv_at hl 16 rfl) ?_
                                                                refine lv_iconst (v := nI (0)) S.1 S.2.1 dL_isStepSo_504 rfl ?_
                                                                refine k_VI2 (rest := []) S hK hl.1 hW (KFr.all hW hA) hN (mX2_note_k l D c a b ((pst (svT (pst θ 1 ((onS 1 (pu (θ 0) 11 (kc (θ 0 11 0)))).2)) ((κ 2 0 + κ 3 0) % 6)) 0 (goS (θ 0)))) ρ ((svK κ)) _ k 0 (T + 45) (by first | omega | exact hb | assumption | (show k < 24; omega) | rfl) (by first | omega | exact hw | assumption | (show 0 < 2; omega) | rfl) ok2 (by first | omega | exact hT | assumption | (show (T + 45) < 500000000; omega) | rfl)) gL_isStepSo_X2_note rfl pdX2_note ⟨⟨rfl, rfl⟩, Nat.le_of_ble_eq_true rfl, Nat.le_of_ble_eq_true rfl⟩ 0 2 rfl rfl rfl rfl (Nat.le_of_ble_eq_true rfl) dL_isStepSo_505 ⟨Nat.le_of_ble_eq_true rfl, Nat.le_of_ble_eq_true rfl⟩ (fun H locs hW => ?_)
                                                                have hW : kw D A s.heap (wP c a b (pst (svT (pst θ 1 ((onS 1 (pu (θ 0) 11 (kc (θ 0 11 0)))).2)) ((κ 2 0 + κ 3 0) % 6)) 0 (goS (θ 0))) ρ (svK κ)) H locs := hW
                                                                refine k_top (y := nI ((if k < min 24 (((goS (θ 0))) 14 0) then (if 0 = 0 then ((goS (θ 0))) 4 ((((goS (θ 0))) 14 0 - 1 - k) % 24) else ((goS (θ 0))) 5 ((((goS (θ 0))) 14 0 - 1 - k) % 24)) else 4294967295))) rfl ?_
                                                                refine k_top (y := nI (goS (θ 0) 4 ((goS (θ 0) 14 0 - 1 - k) % 24))) (nt_0 hmk) ?_
                                                                refine lv_aload_n S.1 S.2.1 dL_isStepSo_508 rfl (lv_at hl 0 rfl) ?_
                                                                refine lv_iload S.1 S.2.1 dL_isStepSo_509 (lv_at hl 16 rfl) ?_
                                                                refine lv_iconst (v := nI (1)) S.1 S.2.1 dL_isStepSo_511 rfl ?_
                                                                refine kn_isub S dL_isStepSo_512 (by omega) ?_
                                                                refine lv_iconst (v := nI (0)) S.1 S.2.1 dL_isStepSo_513 rfl ?_
                                                                refine k_VI2 (rest := [.int (nI (goS (θ 0) 4 ((goS (θ 0) 14 0 - 1 - k) % 24)))]) S hK hl.1 hW (KFr.all hW hA) hN (mX2_note_k l D c a b ((pst (svT (pst θ 1 ((onS 1 (pu (θ 0) 11 (kc (θ 0 11 0)))).2)) ((κ 2 0 + κ 3 0) % 6)) 0 (goS (θ 0)))) ρ ((svK κ)) _ (k - 1) 0 (T + 45) (by first | omega | exact hb | assumption | (show (k - 1) < 24; omega) | rfl) (by first | omega | exact hw | assumption | (show 0 < 2; omega) | rfl) ok2 (by first | omega | exact hT | assumption | (show (T + 45) < 500000000; omega) | rfl)) gL_isStepSo_X2_note rfl pdX2_note ⟨⟨rfl, rfl⟩, Nat.le_of_ble_eq_true rfl, Nat.le_of_ble_eq_true rfl⟩ 0 2 rfl rfl rfl rfl (Nat.le_of_ble_eq_true rfl) dL_isStepSo_514 ⟨Nat.le_of_ble_eq_true rfl, Nat.le_of_ble_eq_true rfl⟩ (fun H locs hW => ?_)
                                                                have hW : kw D A s.heap (wP c a b (pst (svT (pst θ 1 ((onS 1 (pu (θ 0) 11 (kc (θ 0 11 0)))).2)) ((κ 2 0 + κ 3 0) % 6)) 0 (goS (θ 0))) ρ (svK κ)) H locs := hW
                                                                refine k_top (y := nI ((if (k - 1) < min 24 (((goS (θ 0))) 14 0) then (if 0 = 0 then ((goS (θ 0))) 4 ((((goS (θ 0))) 14 0 - 1 - (k - 1)) % 24) else ((goS (θ 0))) 5 ((((goS (θ 0))) 14 0 - 1 - (k - 1)) % 24)) else 4294967295))) rfl ?_
                                                                refine k_top (y := nI (goS (θ 0) 4 ((goS (θ 0) 14 0 - 1 - (k - 1)) % 24))) (nt_0 hmp) ?_
                                                                refine kn_ge S (tgt := 524) dL_isStepSo_517 (by decide) (by omega) (by omega) (fun c_517 => ?_) (fun c_517 => ?_)
                                                                · exact absurd c_517 (by omega)
                                                                · refine lv_iconst (v := nI (1)) S.1 S.2.1 dL_isStepSo_520 rfl ?_
                                                                  refine lv_goto (tgt := 525) S.1 S.2.1 dL_isStepSo_521 (by decide) ?_
                                                                  refine lv_istore (lv' := [(12, .int (nI (1))), (0, .ref (a 0)), (1, .int (nI (pnS (θ 0)))), (2, .int (nI (tnS (θ 0)))), (3, .int (nI (((θ 0)) 0 ((tnS (θ 0)) * 32 + (pnS (θ 0)))))), (4, .int (nI (1 + ct (fun i => (stk (θ 0)).testBit i) 12))), (5, .int (nI ((θ 0) 10 0))), (6, .int (nI ((θ 0) 12 0))), (7, .int (nI ((θ 0) 14 0))), (8, .int (nI ((θ 0) 15 0))), (9, .int (nI (ones ((θ 0) 7 0)))), (10, .int (nI (tiS (θ 0)))), (11, .int (nI (1))), (13, .int (nI (goS (θ 0) 14 0 - θ 0 14 0))), (14, .int (nI (goS (θ 0) 15 0 - θ 0 15 0))), (15, .int (nI (ones (goS (θ 0) 7 0) - ones (θ 0 7 0)))), (16, .int (nI (k)))]) S.1 S.2.1 dL_isStepSo_525 hl (by decide) rfl (fun ls hl => ?_)
                                                                  refine lv_iinc (v := nI (k + 1)) (lv' := [(16, .int (nI (k + 1))), (12, .int (nI (1))), (0, .ref (a 0)), (1, .int (nI (pnS (θ 0)))), (2, .int (nI (tnS (θ 0)))), (3, .int (nI (((θ 0)) 0 ((tnS (θ 0)) * 32 + (pnS (θ 0)))))), (4, .int (nI (1 + ct (fun i => (stk (θ 0)).testBit i) 12))), (5, .int (nI ((θ 0) 10 0))), (6, .int (nI ((θ 0) 12 0))), (7, .int (nI ((θ 0) 14 0))), (8, .int (nI ((θ 0) 15 0))), (9, .int (nI (ones ((θ 0) 7 0)))), (10, .int (nI (tiS (θ 0)))), (11, .int (nI (1))), (13, .int (nI (goS (θ 0) 14 0 - θ 0 14 0))), (14, .int (nI (goS (θ 0) 15 0 - θ 0 15 0))), (15, .int (nI (ones (goS (θ 0) 7 0) - ones (θ 0 7 0))))]) S.1 S.2.1 dL_isStepSo_527 hl (k := 16) rfl (nI_add _ _) (by decide) rfl (fun ls hl => ?_)
                                                                  refine lv_goto (tgt := 438) S.1 S.2.1 dL_isStepSo_530 (by decide) ?_
                                                                  exact ih438 (k + 1) _ _ _ ⟨hW, lv_sub hl [2, 3, 4, 5, 6, 7, 8, 9, 10, 11, 12, 13, 1, 14, 15, 16, 0] rfl, (by omega)⟩ (by show goS (θ 0) 14 0 - θ 0 14 0 - (k + 1) < goS (θ 0) 14 0 - θ 0 14 0 - k; omega)
    · refine lv_iload S.1 S.2.1 dL_isStepSo_63 (lv_at hl 4 rfl) ?_
      refine k_join (fun (zz : Unit) H lo ls => match zz with | () => kw D A s.heap (wP c a b θ ρ κ) H lo ∧ lv_has ls 17 [(0, .ref (a 0)), (1, .int (nI (pnS (θ 0)))), (2, .int (nI (tnS (θ 0)))), (3, .int (nI (((θ 0)) 0 ((tnS (θ 0)) * 32 + (pnS (θ 0)))))), (4, .int (nI (1 + ct (fun i => (stk (θ 0)).testBit i) k))), (5, .int (nI (k)))]) 90 (fun (zz : Unit) => match zz with | () => [.int (nI ((stk (θ 0)).testBit k).toNat), .int (nI (1 + ct (fun i => (stk (θ 0)).testBit i) k))]) ?_ ?_
      · rintro ⟨⟩ H locs ls ⟨hW, hl⟩
        refine kn_iadd S dL_isStepSo_90 ?_
        refine k_top (y := nI (1 + ct (fun i => (stk (θ 0)).testBit i) (k + 1))) (congrArg nI (Nat.add_assoc _ _ _)) ?_
        refine lv_istore (lv' := [(4, .int (nI (1 + ct (fun i => (stk (θ 0)).testBit i) (k + 1)))), (0, .ref (a 0)), (1, .int (nI (pnS (θ 0)))), (2, .int (nI (tnS (θ 0)))), (3, .int (nI (((θ 0)) 0 ((tnS (θ 0)) * 32 + (pnS (θ 0)))))), (5, .int (nI (k)))]) S.1 S.2.1 dL_isStepSo_91 hl (by decide) rfl (fun ls hl => ?_)
        refine lv_iinc (v := nI (k + 1)) (lv' := [(5, .int (nI (k + 1))), (4, .int (nI (1 + ct (fun i => (stk (θ 0)).testBit i) (k + 1)))), (0, .ref (a 0)), (1, .int (nI (pnS (θ 0)))), (2, .int (nI (tnS (θ 0)))), (3, .int (nI (((θ 0)) 0 ((tnS (θ 0)) * 32 + (pnS (θ 0))))))]) S.1 S.2.1 dL_isStepSo_93 hl (k := 5) rfl (nI_add _ _) (by decide) rfl (fun ls hl => ?_)
        refine lv_goto (tgt := 56) S.1 S.2.1 dL_isStepSo_96 (by decide) ?_
        exact ih56 (k + 1) _ _ _ ⟨hW, lv_sub hl [2, 3, 4, 5, 1, 0] rfl, (by omega)⟩ (by show 12 - (k + 1) < 12 - k; omega)
      · intro jn65
        refine lv_iload_n S.1 S.2.1 dL_isStepSo_65 rfl (lv_at hl 3 rfl) ?_
        refine lv_iload S.1 S.2.1 dL_isStepSo_66 (lv_at hl 5 rfl) ?_
        refine lv_ishr S.1 S.2.1 dL_isStepSo_68 ?_
        refine lv_iconst (v := nI (1)) S.1 S.2.1 dL_isStepSo_69 rfl ?_
        refine kn_tbit S (by omega) dL_isStepSo_70 ?_
        refine lv_iconst (v := nI (1)) S.1 S.2.1 dL_isStepSo_71 rfl ?_
        refine kn_ne S (tgt := 89) dL_isStepSo_72 (by decide) (bt_lt _) (by omega) (fun c_72 => ?_) (fun c_72 => ?_)
        · have e89 : nI 0 = nI ((stk (θ 0)).testBit k).toNat := congrArg (fun z : Bool => nI z.toNat) (st_1 c_60 (bt_0 c_72)).symm
          refine lv_iconst (v := nI (0)) S.1 S.2.1 dL_isStepSo_89 rfl ?_
          refine k_top (y := nI (((stk (θ 0)).testBit k).toNat)) (e89) ?_
          exact jn65 () _ _ _ ⟨hW, lv_sub hl [0, 1, 2, 3, 4, 5] rfl⟩
        · refine lv_aload_n S.1 S.2.1 dL_isStepSo_75 rfl (lv_at hl 0 rfl) ?_
          refine lv_iload S.1 S.2.1 dL_isStepSo_76 (lv_at hl 5 rfl) ?_
          refine lv_iconst (v := nI (2)) S.1 S.2.1 dL_isStepSo_78 rfl ?_
          refine k_VI2 (rest := [.int (nI (1 + ct (fun i => (stk (θ 0)).testBit i) k))]) S hK hl.1 hW (KFr.all hW hA) hN (mX2_tooth_k l D c a b θ ρ κ _ k 2 T (by first | omega | exact hj | assumption | (show k < 12; omega) | rfl) (by first | omega | exact hw | assumption | (show 2 < 5; omega) | rfl) ok (by first | omega | exact hT | assumption | (show T < 500000000; omega) | rfl)) gL_isStepSo_X2_tooth rfl pdX2_tooth ⟨⟨rfl, rfl⟩, Nat.le_of_ble_eq_true rfl, Nat.le_of_ble_eq_true rfl⟩ 0 2 rfl rfl rfl rfl (Nat.le_of_ble_eq_true rfl) dL_isStepSo_79 ⟨Nat.le_of_ble_eq_true rfl, Nat.le_of_ble_eq_true rfl⟩ (fun H locs hW => ?_)
          have hW : kw D A s.heap (wP c a b θ ρ κ) H locs := hW
          refine k_top (y := nI (numK (((θ 0))) k 2)) rfl ?_
          refine k_top (y := nI ((((θ 0) 7 0).testBit k).toNat)) (congrArg nI (numK_2 _ _)) ?_
          refine kz_ne S (tgt := 89) dL_isStepSo_82 (by decide) (bt_lt _) (fun c_82 => ?_) (fun c_82 => ?_)
          · have e89 : nI 0 = nI ((stk (θ 0)).testBit k).toNat := congrArg (fun z : Bool => nI z.toNat) (st_2 c_60 (bt_n0 c_82)).symm
            refine lv_iconst (v := nI (0)) S.1 S.2.1 dL_isStepSo_89 rfl ?_
            refine k_top (y := nI (((stk (θ 0)).testBit k).toNat)) (e89) ?_
            exact jn65 () _ _ _ ⟨hW, lv_sub hl [0, 1, 2, 3, 4, 5] rfl⟩
          · refine lv_iconst (v := nI (1)) S.1 S.2.1 dL_isStepSo_85 rfl ?_
            refine k_top (y := nI (((stk (θ 0)).testBit k).toNat)) (congrArg (fun z : Bool => nI z.toNat) (st_3 c_60 (bt_1 c_72) c_82).symm) ?_
            refine lv_goto (tgt := 90) S.1 S.2.1 dL_isStepSo_86 (by decide) ?_
            exact jn65 () _ _ _ ⟨hW, lv_sub hl [0, 1, 2, 3, 4, 5] rfl⟩
  · intro jn11
    refine lv_iload_n S.1 S.2.1 dL_isStepSo_11 rfl (lv_at hl 0 rfl) ?_
    refine kz_ne S (tgt := 37) dL_isStepSo_12 (by decide) (by omega) (fun c_12 => ?_) (fun c_12 => ?_)
    · have e42 := tn_2 (τ := θ 0) (Or.inl c_12)
      refine lv_aload_n S.1 S.2.1 dL_isStepSo_37 rfl (lv_at hl 1 rfl) ?_
      refine lv_iconst (v := nI (1)) S.1 S.2.1 dL_isStepSo_38 rfl ?_
      refine k_VI2 (rest := []) S hK hl.1 hW (KFr.all hW hA) hN (mX2_count_k l D c a b θ ρ κ _ 1 T (by first | omega | exact hw | assumption | (show 1 < 18; omega) | rfl) ok (by first | omega | exact hT | assumption | (show T < 500000000; omega) | rfl)) gL_isStepSo_X2_count rfl pdX2_count ⟨⟨rfl, rfl⟩, Nat.le_of_ble_eq_true rfl, Nat.le_of_ble_eq_true rfl⟩ 0 2 rfl rfl rfl rfl (Nat.le_of_ble_eq_true rfl) dL_isStepSo_39 ⟨Nat.le_of_ble_eq_true rfl, Nat.le_of_ble_eq_true rfl⟩ (fun H locs hW => ?_)
      have hW : kw D A s.heap (wP c a b θ ρ κ) H locs := hW
      refine k_top (y := nI ((if 1 = 17 then (κ 3 0) else numN (((θ 0))) 1))) rfl ?_
      refine k_top (y := nI (tnS (θ 0))) ((cn_1 _ _).trans e42) ?_
      exact jn11 () _ _ _ ⟨hW, lv_sub hl [0, 1] rfl⟩
    · refine lv_aload_n S.1 S.2.1 dL_isStepSo_15 rfl (lv_at hl 1 rfl) ?_
      refine lv_bipush (v := nI (14)) S.1 S.2.1 dL_isStepSo_16 rfl ?_
      refine k_VI2 (rest := []) S hK hl.1 hW (KFr.all hW hA) hN (mX2_count_k l D c a b θ ρ κ _ 14 T (by first | omega | exact hw | assumption | (show 14 < 18; omega) | rfl) ok (by first | omega | exact hT | assumption | (show T < 500000000; omega) | rfl)) gL_isStepSo_X2_count rfl pdX2_count ⟨⟨rfl, rfl⟩, Nat.le_of_ble_eq_true rfl, Nat.le_of_ble_eq_true rfl⟩ 0 2 rfl rfl rfl rfl (Nat.le_of_ble_eq_true rfl) dL_isStepSo_18 ⟨Nat.le_of_ble_eq_true rfl, Nat.le_of_ble_eq_true rfl⟩ (fun H locs hW => ?_)
      have hW : kw D A s.heap (wP c a b θ ρ κ) H locs := hW
      refine k_top (y := nI ((if 14 = 17 then (κ 3 0) else numN (((θ 0))) 14))) rfl ?_
      refine k_top (y := nI ((θ 0) 6 2)) (cn_14 _ _) ?_
      refine lv_iconst (v := nI (1)) S.1 S.2.1 dL_isStepSo_21 rfl ?_
      refine kn_ne S (tgt := 37) dL_isStepSo_22 (by decide) (by omega) (by omega) (fun c_22 => ?_) (fun c_22 => ?_)
      · have e42 := tn_2 (τ := θ 0) (Or.inr (by omega))
        refine lv_aload_n S.1 S.2.1 dL_isStepSo_37 rfl (lv_at hl 1 rfl) ?_
        refine lv_iconst (v := nI (1)) S.1 S.2.1 dL_isStepSo_38 rfl ?_
        refine k_VI2 (rest := []) S hK hl.1 hW (KFr.all hW hA) hN (mX2_count_k l D c a b θ ρ κ _ 1 T (by first | omega | exact hw | assumption | (show 1 < 18; omega) | rfl) ok (by first | omega | exact hT | assumption | (show T < 500000000; omega) | rfl)) gL_isStepSo_X2_count rfl pdX2_count ⟨⟨rfl, rfl⟩, Nat.le_of_ble_eq_true rfl, Nat.le_of_ble_eq_true rfl⟩ 0 2 rfl rfl rfl rfl (Nat.le_of_ble_eq_true rfl) dL_isStepSo_39 ⟨Nat.le_of_ble_eq_true rfl, Nat.le_of_ble_eq_true rfl⟩ (fun H locs hW => ?_)
        have hW : kw D A s.heap (wP c a b θ ρ κ) H locs := hW
        refine k_top (y := nI ((if 1 = 17 then (κ 3 0) else numN (((θ 0))) 1))) rfl ?_
        refine k_top (y := nI (tnS (θ 0))) ((cn_1 _ _).trans e42) ?_
        exact jn11 () _ _ _ ⟨hW, lv_sub hl [0, 1] rfl⟩
      · refine lv_aload_n S.1 S.2.1 dL_isStepSo_25 rfl (lv_at hl 1 rfl) ?_
        refine lv_iconst (v := nI (1)) S.1 S.2.1 dL_isStepSo_26 rfl ?_
        refine k_VI2 (rest := []) S hK hl.1 hW (KFr.all hW hA) hN (mX2_count_k l D c a b θ ρ κ _ 1 T (by first | omega | exact hw | assumption | (show 1 < 18; omega) | rfl) ok (by first | omega | exact hT | assumption | (show T < 500000000; omega) | rfl)) gL_isStepSo_X2_count rfl pdX2_count ⟨⟨rfl, rfl⟩, Nat.le_of_ble_eq_true rfl, Nat.le_of_ble_eq_true rfl⟩ 0 2 rfl rfl rfl rfl (Nat.le_of_ble_eq_true rfl) dL_isStepSo_27 ⟨Nat.le_of_ble_eq_true rfl, Nat.le_of_ble_eq_true rfl⟩ (fun H locs hW => ?_)
        have hW : kw D A s.heap (wP c a b θ ρ κ) H locs := hW
        refine k_top (y := nI ((if 1 = 17 then (κ 3 0) else numN (((θ 0))) 1))) rfl ?_
        refine k_top (y := nI ((θ 0) 9 0)) (cn_1 _ _) ?_
        refine lv_iconst (v := nI (1)) S.1 S.2.1 dL_isStepSo_30 rfl ?_
        refine kn_iadd S dL_isStepSo_31 ?_
        refine lv_iconst (v := nI (3)) S.1 S.2.1 dL_isStepSo_32 rfl ?_
        refine kn_irem S dL_isStepSo_33 (by omega) (by omega) (by omega) ?_
        refine k_top (y := nI (tnS (θ 0))) (tn_1 c_12 (by omega)) ?_
        refine lv_goto (tgt := 42) S.1 S.2.1 dL_isStepSo_34 (by decide) ?_
        exact jn11 () _ _ _ ⟨hW, lv_sub hl [0, 1] rfl⟩
set_option maxHeartbeats 400000 in
set_option maxRecDepth 100000 in
theorem mL_isStepSo_f (l : Launch) (D : va_G) (c : Nat → ClassId) (a : Nat → Nat) (b : Nat → Nat → Nat) (θ : Nat → Nat → Nat → Nat) (ρ κ : Nat → Nat → Nat) (sz : Nat) (T : Nat) (iv : Iv (θ 0) T) (hT : T < 100000000) (hold : κ 2 0 < 6) (hcnt : κ 3 0 ≤ 6) (hc : canS (θ 0) = false) : MI2 l yL_isStepSo wsL_isStepSo rmL_isStepSo D c sz (wP c a b θ ρ κ) [.ref (a 0)] (nI (true).toNat) (wP c a b (pst (svT (pst θ 1 ((onS 1 (pu (θ 0) 11 (kc (θ 0 11 0)))).2)) ((κ 2 0 + κ 3 0) % 6)) 0 (θ 0)) ρ (pu (svK κ) 3 (kc (svK κ 3 0 - 1)))) := by
  refine MI2.of (cc := cL_isStepSo) (maxL := 17) (ty := .boolean) (by decide) rfl (Nat.le_of_ble_eq_true rfl) (k_narB _) ?_
  intro P e s m below meth cd A Q ls hsz S hK hN hW hA hl hret
  have hl : lv_has ls 17 [(0, .ref (a 0))] := hl
  have ok := iv.1.1
  have htn := tnS_lt ok
  have hpn := pnS_lt (θ 0)
  have h8 : θ 0 8 0 < 32 := ok.2.2.2.2.2.1
  have h9 : θ 0 9 0 < 3 := ok.2.2.2.2.2.2.1
  have h10 : θ 0 10 0 ≤ 400 := ok.2.2.2.2.2.2.2.1
  have h11 : θ 0 11 0 ≤ 9 := ok.2.2.2.2.2.2.2.2.1
  have h12 : θ 0 12 0 ≤ T := ok.2.2.2.2.2.2.2.2.2.1
  have h14 : θ 0 14 0 ≤ T := ok.2.2.2.2.2.2.2.2.2.2.1
  have h15 : θ 0 15 0 ≤ T := ok.2.2.2.2.2.2.2.2.2.2.2
  have h62 : θ 0 6 2 ≤ 1 := ok.2.2.2.1.2.2.1
  have h13 : θ 0 13 0 ≤ T := iv.1.2.2.1.1
  have hpu : pu (θ 0) 11 (kc (θ 0 11 0)) = θ 0 := pu_self iv.1.2.1
  have hcan : θ 0 10 0 < ndS (θ 0) := Nat.lt_of_not_le (of_decide_eq_false hc)
  have hon : onS 1 (θ 0) = (0, θ 0) := onS_f hc
  have h1 : ((onS 1 (pu (θ 0) 11 (kc (θ 0 11 0)))).2) = θ 0 := by rw [hpu, hon]
  have h2 : (onS 1 (θ 0)).2 = θ 0 := by rw [hon]
  have h3 : (onS 1 (θ 0)).1 = 0 := by rw [hon]
  obtain ⟨hsv2, hsv3, hsv0⟩ := svk_ok hold hcnt
  refine lv_aload_n S.1 S.2.1 dL_isStepSo_0 rfl (lv_at hl 0 rfl) ?_
  refine lv_iconst (v := nI (0)) S.1 S.2.1 dL_isStepSo_1 rfl ?_
  refine k_VI2 (rest := []) S hK hl.1 hW (KFr.all hW hA) hN (mX2_count_k l D c a b θ ρ κ _ 0 T (by first | omega | exact hw | assumption | (show 0 < 18; omega) | rfl) ok (by first | omega | exact hT | assumption | (show T < 500000000; omega) | rfl)) gL_isStepSo_X2_count rfl pdX2_count ⟨⟨rfl, rfl⟩, Nat.le_of_ble_eq_true rfl, Nat.le_of_ble_eq_true rfl⟩ 0 2 rfl rfl rfl rfl (Nat.le_of_ble_eq_true rfl) dL_isStepSo_2 ⟨Nat.le_of_ble_eq_true rfl, Nat.le_of_ble_eq_true rfl⟩ (fun H locs hW => ?_)
  have hW : kw D A s.heap (wP c a b θ ρ κ) H locs := hW
  refine k_top (y := nI ((if 0 = 17 then (κ 3 0) else numN (((θ 0))) 0))) rfl ?_
  refine k_top (y := nI ((θ 0) 8 0)) (cn_0 _ _) ?_
  refine lv_iconst (v := nI (1)) S.1 S.2.1 dL_isStepSo_5 rfl ?_
  refine kn_iadd S dL_isStepSo_6 ?_
  refine lv_bipush (v := nI (32)) S.1 S.2.1 dL_isStepSo_7 rfl ?_
  refine kn_irem S dL_isStepSo_9 (by omega) (by omega) (by omega) ?_
  refine k_top (y := nI (pnS (θ 0))) (rfl) ?_
  refine lv_istore_n (lv' := [(1, .int (nI (pnS (θ 0)))), (0, .ref (a 0))]) S.1 S.2.1 dL_isStepSo_10 rfl hl (by decide) rfl (fun ls hl => ?_)
  refine k_join (fun (zz : Unit) H lo ls => match zz with | () => kw D A s.heap (wP c a b θ ρ κ) H lo ∧ lv_has ls 17 [(1, .int (nI (pnS (θ 0)))), (0, .ref (a 0))]) 42 (fun (zz : Unit) => match zz with | () => [.int (nI (tnS (θ 0)))]) ?_ ?_
  · rintro ⟨⟩ H locs ls ⟨hW, hl⟩
    refine lv_istore_n (lv' := [(2, .int (nI (tnS (θ 0)))), (1, .int (nI (pnS (θ 0)))), (0, .ref (a 0))]) S.1 S.2.1 dL_isStepSo_42 rfl hl (by decide) rfl (fun ls hl => ?_)
    refine lv_aload_n S.1 S.2.1 dL_isStepSo_43 rfl (lv_at hl 2 rfl) ?_
    refine lv_iload_n S.1 S.2.1 dL_isStepSo_44 rfl (lv_at hl 0 rfl) ?_
    refine lv_iload_n S.1 S.2.1 dL_isStepSo_45 rfl (lv_at hl 1 rfl) ?_
    refine k_VI2 (rest := []) S hK hl.1 hW (KFr.all hW hA) hN (mX2_chord_k l D c a b θ ρ κ _ (tnS (θ 0)) (pnS (θ 0)) (by first | omega | exact ht | assumption | (show (tnS (θ 0)) < 3; omega) | rfl) (by first | omega | exact hp | assumption | (show (pnS (θ 0)) < 32; omega) | rfl)) gL_isStepSo_X2_chord rfl pdX2_chord ⟨⟨rfl, rfl⟩, Nat.le_of_ble_eq_true rfl, Nat.le_of_ble_eq_true rfl⟩ 0 2 rfl rfl rfl rfl (Nat.le_of_ble_eq_true rfl) dL_isStepSo_46 ⟨Nat.le_of_ble_eq_true rfl, Nat.le_of_ble_eq_true rfl⟩ (fun H locs hW => ?_)
    have hW : kw D A s.heap (wP c a b θ ρ κ) H locs := hW
    refine k_top (y := nI (((θ 0)) 0 ((tnS (θ 0)) * 32 + (pnS (θ 0))))) rfl ?_
    refine lv_istore_n (lv' := [(3, .int (nI (((θ 0)) 0 ((tnS (θ 0)) * 32 + (pnS (θ 0)))))), (2, .int (nI (tnS (θ 0)))), (1, .int (nI (pnS (θ 0)))), (0, .ref (a 0))]) S.1 S.2.1 dL_isStepSo_49 rfl hl (by decide) rfl (fun ls hl => ?_)
    refine lv_iconst (v := nI (1)) S.1 S.2.1 dL_isStepSo_50 rfl ?_
    refine lv_istore (lv' := [(4, .int (nI (1))), (3, .int (nI (((θ 0)) 0 ((tnS (θ 0)) * 32 + (pnS (θ 0)))))), (2, .int (nI (tnS (θ 0)))), (1, .int (nI (pnS (θ 0)))), (0, .ref (a 0))]) S.1 S.2.1 dL_isStepSo_51 hl (by decide) rfl (fun ls hl => ?_)
    refine lv_iconst (v := nI (0)) S.1 S.2.1 dL_isStepSo_53 rfl ?_
    refine lv_istore (lv' := [(5, .int (nI (0))), (4, .int (nI (1))), (3, .int (nI (((θ 0)) 0 ((tnS (θ 0)) * 32 + (pnS (θ 0)))))), (2, .int (nI (tnS (θ 0)))), (1, .int (nI (pnS (θ 0)))), (0, .ref (a 0))]) S.1 S.2.1 dL_isStepSo_54 hl (by decide) rfl (fun ls hl => ?_)
    refine k_loop (fun (zz : Nat) H lo ls => match zz with | k => kw D A s.heap (wP c a b θ ρ κ) H lo ∧ lv_has ls 17 [(0, .ref (a 0)), (1, .int (nI (pnS (θ 0)))), (2, .int (nI (tnS (θ 0)))), (3, .int (nI (((θ 0)) 0 ((tnS (θ 0)) * 32 + (pnS (θ 0)))))), (4, .int (nI (1 + ct (fun i => (stk (θ 0)).testBit i) k))), (5, .int (nI (k)))] ∧ k ≤ 12) (fun (zz : Nat) => match zz with | k => 12 - k) [] ?_ 0 _ _ _ ⟨hW, lv_sub hl [5, 4, 3, 2, 1, 0] rfl, (by decide)⟩
    rintro k ih56 H locs ls ⟨hW, hl, hi56_0⟩
    refine lv_iload S.1 S.2.1 dL_isStepSo_56 (lv_at hl 5 rfl) ?_
    refine lv_bipush (v := nI (12)) S.1 S.2.1 dL_isStepSo_58 rfl ?_
    refine kn_ge S (tgt := 99) dL_isStepSo_60 (by decide) (by omega) (by omega) (fun c_60 => ?_) (fun c_60 => ?_)
    · have e9 : k = 12 := by omega
      subst e9
      have hnd := nd_eq ok
      have hcb := ct_le (fun i => (stk (θ 0)).testBit i) 12
      have hw1 := wo_mono (τ := θ 0) 32 0
      have hw2 := wo_mono (τ := θ 0) 32 32
      have hw3 := wo_le (θ 0) 32
      have hw4 := wo_le (θ 0) 64
      have hz0 : (woS (θ 0) 0).1 = 0 := rfl
      rw [Nat.zero_add] at hw1
      have hw2 : (woS (θ 0) 32).1 + 32 ≤ (woS (θ 0) 64).1 := hw2
      have hti := ti_eq ok
      have hos := ones_le (θ 0 7 0)
      have hog := ones_le (θ 0 7 0)
      refine lv_aload_n S.1 S.2.1 dL_isStepSo_99 rfl (lv_at hl 0 rfl) ?_
      refine lv_iconst (v := nI (2)) S.1 S.2.1 dL_isStepSo_100 rfl ?_
      refine k_VI2 (rest := []) S hK hl.1 hW (KFr.all hW hA) hN (mX2_count_k l D c a b θ ρ κ _ 2 T (by first | omega | exact hw | assumption | (show 2 < 18; omega) | rfl) ok (by first | omega | exact hT | assumption | (show T < 500000000; omega) | rfl)) gL_isStepSo_X2_count rfl pdX2_count ⟨⟨rfl, rfl⟩, Nat.le_of_ble_eq_true rfl, Nat.le_of_ble_eq_true rfl⟩ 0 2 rfl rfl rfl rfl (Nat.le_of_ble_eq_true rfl) dL_isStepSo_101 ⟨Nat.le_of_ble_eq_true rfl, Nat.le_of_ble_eq_true rfl⟩ (fun H locs hW => ?_)
      have hW : kw D A s.heap (wP c a b θ ρ κ) H locs := hW
      refine k_top (y := nI ((if 2 = 17 then (κ 3 0) else numN (((θ 0))) 2))) rfl ?_
      refine k_top (y := nI ((θ 0) 10 0)) (cn_2 _ _) ?_
      refine lv_istore (lv' := [(5, .int (nI ((θ 0) 10 0))), (0, .ref (a 0)), (1, .int (nI (pnS (θ 0)))), (2, .int (nI (tnS (θ 0)))), (3, .int (nI (((θ 0)) 0 ((tnS (θ 0)) * 32 + (pnS (θ 0)))))), (4, .int (nI (1 + ct (fun i => (stk (θ 0)).testBit i) 12)))]) S.1 S.2.1 dL_isStepSo_104 hl (by decide) rfl (fun ls hl => ?_)
      refine lv_aload_n S.1 S.2.1 dL_isStepSo_106 rfl (lv_at hl 1 rfl) ?_
      refine lv_iconst (v := nI (4)) S.1 S.2.1 dL_isStepSo_107 rfl ?_
      refine k_VI2 (rest := []) S hK hl.1 hW (KFr.all hW hA) hN (mX2_count_k l D c a b θ ρ κ _ 4 T (by first | omega | exact hw | assumption | (show 4 < 18; omega) | rfl) ok (by first | omega | exact hT | assumption | (show T < 500000000; omega) | rfl)) gL_isStepSo_X2_count rfl pdX2_count ⟨⟨rfl, rfl⟩, Nat.le_of_ble_eq_true rfl, Nat.le_of_ble_eq_true rfl⟩ 0 2 rfl rfl rfl rfl (Nat.le_of_ble_eq_true rfl) dL_isStepSo_108 ⟨Nat.le_of_ble_eq_true rfl, Nat.le_of_ble_eq_true rfl⟩ (fun H locs hW => ?_)
      have hW : kw D A s.heap (wP c a b θ ρ κ) H locs := hW
      refine k_top (y := nI ((if 4 = 17 then (κ 3 0) else numN (((θ 0))) 4))) rfl ?_
      refine k_top (y := nI ((θ 0) 12 0)) (cn_4 _ _) ?_
      refine lv_istore (lv' := [(6, .int (nI ((θ 0) 12 0))), (5, .int (nI ((θ 0) 10 0))), (0, .ref (a 0)), (1, .int (nI (pnS (θ 0)))), (2, .int (nI (tnS (θ 0)))), (3, .int (nI (((θ 0)) 0 ((tnS (θ 0)) * 32 + (pnS (θ 0)))))), (4, .int (nI (1 + ct (fun i => (stk (θ 0)).testBit i) 12)))]) S.1 S.2.1 dL_isStepSo_111 hl (by decide) rfl (fun ls hl => ?_)
      refine lv_aload_n S.1 S.2.1 dL_isStepSo_113 rfl (lv_at hl 2 rfl) ?_
      refine lv_bipush (v := nI (6)) S.1 S.2.1 dL_isStepSo_114 rfl ?_
      refine k_VI2 (rest := []) S hK hl.1 hW (KFr.all hW hA) hN (mX2_count_k l D c a b θ ρ κ _ 6 T (by first | omega | exact hw | assumption | (show 6 < 18; omega) | rfl) ok (by first | omega | exact hT | assumption | (show T < 500000000; omega) | rfl)) gL_isStepSo_X2_count rfl pdX2_count ⟨⟨rfl, rfl⟩, Nat.le_of_ble_eq_true rfl, Nat.le_of_ble_eq_true rfl⟩ 0 2 rfl rfl rfl rfl (Nat.le_of_ble_eq_true rfl) dL_isStepSo_116 ⟨Nat.le_of_ble_eq_true rfl, Nat.le_of_ble_eq_true rfl⟩ (fun H locs hW => ?_)
      have hW : kw D A s.heap (wP c a b θ ρ κ) H locs := hW
      refine k_top (y := nI ((if 6 = 17 then (κ 3 0) else numN (((θ 0))) 6))) rfl ?_
      refine k_top (y := nI ((θ 0) 14 0)) (cn_6 _ _) ?_
      refine lv_istore (lv' := [(7, .int (nI ((θ 0) 14 0))), (6, .int (nI ((θ 0) 12 0))), (5, .int (nI ((θ 0) 10 0))), (0, .ref (a 0)), (1, .int (nI (pnS (θ 0)))), (2, .int (nI (tnS (θ 0)))), (3, .int (nI (((θ 0)) 0 ((tnS (θ 0)) * 32 + (pnS (θ 0)))))), (4, .int (nI (1 + ct (fun i => (stk (θ 0)).testBit i) 12)))]) S.1 S.2.1 dL_isStepSo_119 hl (by decide) rfl (fun ls hl => ?_)
      refine lv_aload_n S.1 S.2.1 dL_isStepSo_121 rfl (lv_at hl 3 rfl) ?_
      refine lv_bipush (v := nI (7)) S.1 S.2.1 dL_isStepSo_122 rfl ?_
      refine k_VI2 (rest := []) S hK hl.1 hW (KFr.all hW hA) hN (mX2_count_k l D c a b θ ρ κ _ 7 T (by first | omega | exact hw | assumption | (show 7 < 18; omega) | rfl) ok (by first | omega | exact hT | assumption | (show T < 500000000; omega) | rfl)) gL_isStepSo_X2_count rfl pdX2_count ⟨⟨rfl, rfl⟩, Nat.le_of_ble_eq_true rfl, Nat.le_of_ble_eq_true rfl⟩ 0 2 rfl rfl rfl rfl (Nat.le_of_ble_eq_true rfl) dL_isStepSo_124 ⟨Nat.le_of_ble_eq_true rfl, Nat.le_of_ble_eq_true rfl⟩ (fun H locs hW => ?_)
      have hW : kw D A s.heap (wP c a b θ ρ κ) H locs := hW
      refine k_top (y := nI ((if 7 = 17 then (κ 3 0) else numN (((θ 0))) 7))) rfl ?_
      refine k_top (y := nI ((θ 0) 15 0)) (cn_7 _ _) ?_
      refine lv_istore (lv' := [(8, .int (nI ((θ 0) 15 0))), (7, .int (nI ((θ 0) 14 0))), (6, .int (nI ((θ 0) 12 0))), (5, .int (nI ((θ 0) 10 0))), (0, .ref (a 0)), (1, .int (nI (pnS (θ 0)))), (2, .int (nI (tnS (θ 0)))), (3, .int (nI (((θ 0)) 0 ((tnS (θ 0)) * 32 + (pnS (θ 0)))))), (4, .int (nI (1 + ct (fun i => (stk (θ 0)).testBit i) 12)))]) S.1 S.2.1 dL_isStepSo_127 hl (by decide) rfl (fun ls hl => ?_)
      refine lv_aload_n S.1 S.2.1 dL_isStepSo_129 rfl (lv_at hl 4 rfl) ?_
      refine lv_bipush (v := nI (9)) S.1 S.2.1 dL_isStepSo_130 rfl ?_
      refine k_VI2 (rest := []) S hK hl.1 hW (KFr.all hW hA) hN (mX2_count_k l D c a b θ ρ κ _ 9 T (by first | omega | exact hw | assumption | (show 9 < 18; omega) | rfl) ok (by first | omega | exact hT | assumption | (show T < 500000000; omega) | rfl)) gL_isStepSo_X2_count rfl pdX2_count ⟨⟨rfl, rfl⟩, Nat.le_of_ble_eq_true rfl, Nat.le_of_ble_eq_true rfl⟩ 0 2 rfl rfl rfl rfl (Nat.le_of_ble_eq_true rfl) dL_isStepSo_132 ⟨Nat.le_of_ble_eq_true rfl, Nat.le_of_ble_eq_true rfl⟩ (fun H locs hW => ?_)
      have hW : kw D A s.heap (wP c a b θ ρ κ) H locs := hW
      refine k_top (y := nI ((if 9 = 17 then (κ 3 0) else numN (((θ 0))) 9))) rfl ?_
      refine k_top (y := nI (ones ((θ 0) 7 0))) (cn_9 _ _) ?_
      refine lv_istore (lv' := [(9, .int (nI (ones ((θ 0) 7 0)))), (8, .int (nI ((θ 0) 15 0))), (7, .int (nI ((θ 0) 14 0))), (6, .int (nI ((θ 0) 12 0))), (5, .int (nI ((θ 0) 10 0))), (0, .ref (a 0)), (1, .int (nI (pnS (θ 0)))), (2, .int (nI (tnS (θ 0)))), (3, .int (nI (((θ 0)) 0 ((tnS (θ 0)) * 32 + (pnS (θ 0)))))), (4, .int (nI (1 + ct (fun i => (stk (θ 0)).testBit i) 12)))]) S.1 S.2.1 dL_isStepSo_135 hl (by decide) rfl (fun ls hl => ?_)
      refine lv_aload_n S.1 S.2.1 dL_isStepSo_137 rfl (lv_at hl 5 rfl) ?_
      refine lv_iconst (v := nI (1)) S.1 S.2.1 dL_isStepSo_138 rfl ?_
      refine lv_iconst (v := nI (3)) S.1 S.2.1 dL_isStepSo_139 rfl ?_
      refine k_VI2 (rest := []) S hK hl.1 hW (KFr.all hW hA) hN (mX2_ifPlayed_k l D c a b θ ρ κ _ 1 3 T (by first | omega | exact h1_1 | assumption | (show 1 ≤ 1; omega) | rfl) (by first | omega | exact h1_2 | assumption | (show 1 ≤ 128; omega) | rfl) (by first | omega | exact hw | assumption | (show 3 < 5; omega) | rfl) ok (by first | omega | exact hT | assumption | (show T < 200000000; omega) | rfl)) gL_isStepSo_X2_ifPlayed rfl pdX2_ifPlayed ⟨⟨rfl, rfl⟩, Nat.le_of_ble_eq_true rfl, Nat.le_of_ble_eq_true rfl⟩ 0 2 rfl rfl rfl rfl (Nat.le_of_ble_eq_true rfl) dL_isStepSo_140 ⟨Nat.le_of_ble_eq_true rfl, Nat.le_of_ble_eq_true rfl⟩ (fun H locs hW => ?_)
      have hW : kw D A s.heap (wP c a b (pst θ 1 ((onS 1 (pu (((θ 0))) 11 (kc (((θ 0)) 11 0)))).2)) ρ κ) H locs := hW
      refine k_top (y := (if 3 = 0 then nI ((onS 1 (pu (((θ 0))) 11 (kc (((θ 0)) 11 0)))).2 13 0) - nI (((θ 0)) 13 0) else if 3 = 1 then nI ((onS 1 (pu (((θ 0))) 11 (kc (((θ 0)) 11 0)))).2 14 0) - nI (((θ 0)) 14 0) else if 3 = 2 then nI ((onS 1 (pu (((θ 0))) 11 (kc (((θ 0)) 11 0)))).2 15 0) - nI (((θ 0)) 15 0) else if 3 = 3 then nI ((onS 1 (pu (((θ 0))) 11 (kc (((θ 0)) 11 0)))).2 12 0) - nI (((θ 0)) 12 0) else nI (ones ((onS 1 (pu (((θ 0))) 11 (kc (((θ 0)) 11 0)))).2 7 0)) - nI (ones (((θ 0)) 7 0)))) rfl ?_
      refine k_top (y := nI (0)) (ip3.trans (by rw [h1]; exact (pk_sub (Nat.le_refl _)).trans (congrArg nI (Nat.sub_self _)))) ?_
      refine lv_istore (lv' := [(10, .int (nI (0))), (9, .int (nI (ones ((θ 0) 7 0)))), (8, .int (nI ((θ 0) 15 0))), (7, .int (nI ((θ 0) 14 0))), (6, .int (nI ((θ 0) 12 0))), (5, .int (nI ((θ 0) 10 0))), (0, .ref (a 0)), (1, .int (nI (pnS (θ 0)))), (2, .int (nI (tnS (θ 0)))), (3, .int (nI (((θ 0)) 0 ((tnS (θ 0)) * 32 + (pnS (θ 0)))))), (4, .int (nI (1 + ct (fun i => (stk (θ 0)).testBit i) 12)))]) S.1 S.2.1 dL_isStepSo_143 hl (by decide) rfl (fun ls hl => ?_)
      refine lv_iload S.1 S.2.1 dL_isStepSo_145 (lv_at hl 5 rfl) ?_
      refine lv_iload S.1 S.2.1 dL_isStepSo_147 (lv_at hl 10 rfl) ?_
      refine kn_lt S (tgt := 156) dL_isStepSo_149 (by decide) (by omega) (by omega) (fun c_149 => ?_) (fun c_149 => ?_)
      · refine lv_iconst (v := nI (0)) S.1 S.2.1 dL_isStepSo_156 rfl ?_
        refine lv_istore (lv' := [(11, .int (nI (0))), (10, .int (nI (0))), (9, .int (nI (ones ((θ 0) 7 0)))), (8, .int (nI ((θ 0) 15 0))), (7, .int (nI ((θ 0) 14 0))), (6, .int (nI ((θ 0) 12 0))), (5, .int (nI ((θ 0) 10 0))), (0, .ref (a 0)), (1, .int (nI (pnS (θ 0)))), (2, .int (nI (tnS (θ 0)))), (3, .int (nI (((θ 0)) 0 ((tnS (θ 0)) * 32 + (pnS (θ 0)))))), (4, .int (nI (1 + ct (fun i => (stk (θ 0)).testBit i) 12)))]) S.1 S.2.1 dL_isStepSo_157 hl (by decide) rfl (fun ls hl => ?_)
        refine lv_aload_n S.1 S.2.1 dL_isStepSo_159 rfl (lv_at hl 7 rfl) ?_
        refine lv_iconst (v := nI (1)) S.1 S.2.1 dL_isStepSo_160 rfl ?_
        refine lv_iconst (v := nI (0)) S.1 S.2.1 dL_isStepSo_161 rfl ?_
        refine k_VI2 (rest := []) S hK hl.1 hW (KFr.all hW hA) hN (mX2_ifPlayed_k l D c a b ((pst θ 1 ((onS 1 (pu (((θ 0))) 11 (kc (((θ 0)) 11 0)))).2))) ρ κ _ 1 0 T (by first | omega | exact h1_1 | assumption | (show 1 ≤ 1; omega) | rfl) (by first | omega | exact h1_2 | assumption | (show 1 ≤ 128; omega) | rfl) (by first | omega | exact hw | assumption | (show 0 < 5; omega) | rfl) ok (by first | omega | exact hT | assumption | (show T < 200000000; omega) | rfl)) gL_isStepSo_X2_ifPlayed rfl pdX2_ifPlayed ⟨⟨rfl, rfl⟩, Nat.le_of_ble_eq_true rfl, Nat.le_of_ble_eq_true rfl⟩ 0 2 rfl rfl rfl rfl (Nat.le_of_ble_eq_true rfl) dL_isStepSo_162 ⟨Nat.le_of_ble_eq_true rfl, Nat.le_of_ble_eq_true rfl⟩ (fun H locs hW => ?_)
        have hW : kw D A s.heap (wP c a b (pst θ 1 ((onS 1 (pu (((θ 0))) 11 (kc (((θ 0)) 11 0)))).2)) ρ κ) H locs := hW
        refine k_top (y := (if 0 = 0 then nI ((onS 1 (pu (((θ 0))) 11 (kc (((θ 0)) 11 0)))).2 13 0) - nI (((θ 0)) 13 0) else if 0 = 1 then nI ((onS 1 (pu (((θ 0))) 11 (kc (((θ 0)) 11 0)))).2 14 0) - nI (((θ 0)) 14 0) else if 0 = 2 then nI ((onS 1 (pu (((θ 0))) 11 (kc (((θ 0)) 11 0)))).2 15 0) - nI (((θ 0)) 15 0) else if 0 = 3 then nI ((onS 1 (pu (((θ 0))) 11 (kc (((θ 0)) 11 0)))).2 12 0) - nI (((θ 0)) 12 0) else nI (ones ((onS 1 (pu (((θ 0))) 11 (kc (((θ 0)) 11 0)))).2 7 0)) - nI (ones (((θ 0)) 7 0)))) rfl ?_
        refine k_top (y := nI (0)) (ip0.trans (by rw [h1]; exact (pk_sub (Nat.le_refl _)).trans (congrArg nI (Nat.sub_self _)))) ?_
        refine lv_iload S.1 S.2.1 dL_isStepSo_165 (lv_at hl 0 rfl) ?_
        refine kz_eq S (tgt := 174) dL_isStepSo_167 (by decide) (by omega) (fun c_167 => ?_) (fun c_167 => ?_)
        · refine lv_iconst (v := nI (0)) S.1 S.2.1 dL_isStepSo_174 rfl ?_
          refine kn_ne S (tgt := 239) dL_isStepSo_175 (by decide) (by omega) (by omega) (fun c_175 => ?_) (fun c_175 => ?_)
          · exact absurd c_175 (by decide)
          · refine lv_iload S.1 S.2.1 dL_isStepSo_178 (lv_at hl 1 rfl) ?_
            refine lv_iload S.1 S.2.1 dL_isStepSo_180 (lv_at hl 0 rfl) ?_
            refine kz_eq S (tgt := 205) dL_isStepSo_182 (by decide) (by omega) (fun c_182 => ?_) (fun c_182 => ?_)
            · refine lv_iconst (v := nI (0)) S.1 S.2.1 dL_isStepSo_205 rfl ?_
              refine kn_ne S (tgt := 239) dL_isStepSo_206 (by decide) (by omega) (by omega) (fun c_206 => ?_) (fun c_206 => ?_)
              · exact absurd c_206 (by decide)
              · refine lv_aload_n S.1 S.2.1 dL_isStepSo_209 rfl (lv_at hl 7 rfl) ?_
                refine lv_iconst (v := nI (1)) S.1 S.2.1 dL_isStepSo_210 rfl ?_
                refine k_VI2 (rest := []) S hK hl.1 hW (KFr.all hW hA) hN (mX2_windFor_k l D c a b ((pst θ 1 ((onS 1 (pu (((θ 0))) 11 (kc (((θ 0)) 11 0)))).2))) ρ κ _ 1 T (by first | omega | exact h1_1 | assumption | (show 1 ≤ 1; omega) | rfl) (by first | omega | exact h1_2 | assumption | (show 1 ≤ 9; omega) | rfl) ok) gL_isStepSo_X2_windFor rfl pdX2_windFor ⟨⟨rfl, rfl⟩, Nat.le_of_ble_eq_true rfl, Nat.le_of_ble_eq_true rfl⟩ 0 2 rfl rfl rfl rfl (Nat.le_of_ble_eq_true rfl) dL_isStepSo_211 ⟨Nat.le_of_ble_eq_true rfl, Nat.le_of_ble_eq_true rfl⟩ (fun H locs hW => ?_)
                have hW : kw D A s.heap (wP c a b (pst θ 1 ((onS 1 (pu (((θ 0))) 11 (kc (((θ 0)) 11 0)))).2)) ρ κ) H locs := hW
                refine k_top (y := nI ((woS (((θ 0))) (1 * 32)).1)) rfl ?_
                refine k_top (y := nI ((woS (θ 0) 32).1)) (congrArg (fun z => nI (woS (θ 0) z).1) (show 1 * 32 = 32 from rfl)) ?_
                refine lv_bipush (v := nI (32)) S.1 S.2.1 dL_isStepSo_214 rfl ?_
                refine kn_lt S (tgt := 239) dL_isStepSo_216 (by decide) (by omega) (by omega) (fun c_216 => ?_) (fun c_216 => ?_)
                · exact absurd c_216 (by omega)
                · refine lv_aload_n S.1 S.2.1 dL_isStepSo_219 rfl (lv_at hl 7 rfl) ?_
                  refine lv_iconst (v := nI (2)) S.1 S.2.1 dL_isStepSo_220 rfl ?_
                  refine k_VI2 (rest := []) S hK hl.1 hW (KFr.all hW hA) hN (mX2_windFor_k l D c a b ((pst θ 1 ((onS 1 (pu (((θ 0))) 11 (kc (((θ 0)) 11 0)))).2))) ρ κ _ 2 T (by first | omega | exact h1_1 | assumption | (show 1 ≤ 2; omega) | rfl) (by first | omega | exact h1_2 | assumption | (show 2 ≤ 9; omega) | rfl) ok) gL_isStepSo_X2_windFor rfl pdX2_windFor ⟨⟨rfl, rfl⟩, Nat.le_of_ble_eq_true rfl, Nat.le_of_ble_eq_true rfl⟩ 0 2 rfl rfl rfl rfl (Nat.le_of_ble_eq_true rfl) dL_isStepSo_221 ⟨Nat.le_of_ble_eq_true rfl, Nat.le_of_ble_eq_true rfl⟩ (fun H locs hW => ?_)
                  have hW : kw D A s.heap (wP c a b (pst θ 1 ((onS 1 (pu (((θ 0))) 11 (kc (((θ 0)) 11 0)))).2)) ρ κ) H locs := hW
                  refine k_top (y := nI ((woS (((θ 0))) (2 * 32)).1)) rfl ?_
                  refine k_top (y := nI ((woS (θ 0) 64).1)) (congrArg (fun z => nI (woS (θ 0) z).1) (show 2 * 32 = 64 from rfl)) ?_
                  refine lv_aload_n S.1 S.2.1 dL_isStepSo_224 rfl (lv_at hl 7 rfl) ?_
                  refine lv_iconst (v := nI (1)) S.1 S.2.1 dL_isStepSo_225 rfl ?_
                  refine k_VI2 (rest := [.int (nI ((woS (θ 0) 64).1))]) S hK hl.1 hW (KFr.all hW hA) hN (mX2_windFor_k l D c a b ((pst θ 1 ((onS 1 (pu (((θ 0))) 11 (kc (((θ 0)) 11 0)))).2))) ρ κ _ 1 T (by first | omega | exact h1_1 | assumption | (show 1 ≤ 1; omega) | rfl) (by first | omega | exact h1_2 | assumption | (show 1 ≤ 9; omega) | rfl) ok) gL_isStepSo_X2_windFor rfl pdX2_windFor ⟨⟨rfl, rfl⟩, Nat.le_of_ble_eq_true rfl, Nat.le_of_ble_eq_true rfl⟩ 0 2 rfl rfl rfl rfl (Nat.le_of_ble_eq_true rfl) dL_isStepSo_226 ⟨Nat.le_of_ble_eq_true rfl, Nat.le_of_ble_eq_true rfl⟩ (fun H locs hW => ?_)
                  have hW : kw D A s.heap (wP c a b (pst θ 1 ((onS 1 (pu (((θ 0))) 11 (kc (((θ 0)) 11 0)))).2)) ρ κ) H locs := hW
                  refine k_top (y := nI ((woS (((θ 0))) (1 * 32)).1)) rfl ?_
                  refine k_top (y := nI ((woS (θ 0) 32).1)) (congrArg (fun z => nI (woS (θ 0) z).1) (show 1 * 32 = 32 from rfl)) ?_
                  refine lv_bipush (v := nI (32)) S.1 S.2.1 dL_isStepSo_229 rfl ?_
                  refine kn_iadd S dL_isStepSo_231 ?_
                  refine kn_lt S (tgt := 239) dL_isStepSo_232 (by decide) (by omega) (by omega) (fun c_232 => ?_) (fun c_232 => ?_)
                  · exact absurd c_232 (by omega)
                  · refine lv_iconst (v := nI (1)) S.1 S.2.1 dL_isStepSo_235 rfl ?_
                    refine lv_goto (tgt := 240) S.1 S.2.1 dL_isStepSo_236 (by decide) ?_
                    refine lv_istore (lv' := [(12, .int (nI (1))), (11, .int (nI (0))), (10, .int (nI (0))), (9, .int (nI (ones ((θ 0) 7 0)))), (8, .int (nI ((θ 0) 15 0))), (7, .int (nI ((θ 0) 14 0))), (6, .int (nI ((θ 0) 12 0))), (5, .int (nI ((θ 0) 10 0))), (0, .ref (a 0)), (1, .int (nI (pnS (θ 0)))), (2, .int (nI (tnS (θ 0)))), (3, .int (nI (((θ 0)) 0 ((tnS (θ 0)) * 32 + (pnS (θ 0)))))), (4, .int (nI (1 + ct (fun i => (stk (θ 0)).testBit i) 12)))]) S.1 S.2.1 dL_isStepSo_240 hl (by decide) rfl (fun ls hl => ?_)
                    refine lv_aload_n S.1 S.2.1 dL_isStepSo_242 rfl (lv_at hl 8 rfl) ?_
                    refine lv_iconst (v := nI (1)) S.1 S.2.1 dL_isStepSo_243 rfl ?_
                    refine lv_iconst (v := nI (1)) S.1 S.2.1 dL_isStepSo_244 rfl ?_
                    refine k_VI2 (rest := []) S hK hl.1 hW (KFr.all hW hA) hN (mX2_ifPlayed_k l D c a b ((pst θ 1 ((onS 1 (pu (((θ 0))) 11 (kc (((θ 0)) 11 0)))).2))) ρ κ _ 1 1 T (by first | omega | exact h1_1 | assumption | (show 1 ≤ 1; omega) | rfl) (by first | omega | exact h1_2 | assumption | (show 1 ≤ 128; omega) | rfl) (by first | omega | exact hw | assumption | (show 1 < 5; omega) | rfl) ok (by first | omega | exact hT | assumption | (show T < 200000000; omega) | rfl)) gL_isStepSo_X2_ifPlayed rfl pdX2_ifPlayed ⟨⟨rfl, rfl⟩, Nat.le_of_ble_eq_true rfl, Nat.le_of_ble_eq_true rfl⟩ 0 2 rfl rfl rfl rfl (Nat.le_of_ble_eq_true rfl) dL_isStepSo_245 ⟨Nat.le_of_ble_eq_true rfl, Nat.le_of_ble_eq_true rfl⟩ (fun H locs hW => ?_)
                    have hW : kw D A s.heap (wP c a b (pst θ 1 ((onS 1 (pu (((θ 0))) 11 (kc (((θ 0)) 11 0)))).2)) ρ κ) H locs := hW
                    refine k_top (y := (if 1 = 0 then nI ((onS 1 (pu (((θ 0))) 11 (kc (((θ 0)) 11 0)))).2 13 0) - nI (((θ 0)) 13 0) else if 1 = 1 then nI ((onS 1 (pu (((θ 0))) 11 (kc (((θ 0)) 11 0)))).2 14 0) - nI (((θ 0)) 14 0) else if 1 = 2 then nI ((onS 1 (pu (((θ 0))) 11 (kc (((θ 0)) 11 0)))).2 15 0) - nI (((θ 0)) 15 0) else if 1 = 3 then nI ((onS 1 (pu (((θ 0))) 11 (kc (((θ 0)) 11 0)))).2 12 0) - nI (((θ 0)) 12 0) else nI (ones ((onS 1 (pu (((θ 0))) 11 (kc (((θ 0)) 11 0)))).2 7 0)) - nI (ones (((θ 0)) 7 0)))) rfl ?_
                    refine k_top (y := nI (0)) (ip1.trans (by rw [h1]; exact (pk_sub (Nat.le_refl _)).trans (congrArg nI (Nat.sub_self _)))) ?_
                    refine lv_istore (lv' := [(13, .int (nI (0))), (12, .int (nI (1))), (11, .int (nI (0))), (10, .int (nI (0))), (9, .int (nI (ones ((θ 0) 7 0)))), (8, .int (nI ((θ 0) 15 0))), (7, .int (nI ((θ 0) 14 0))), (6, .int (nI ((θ 0) 12 0))), (5, .int (nI ((θ 0) 10 0))), (0, .ref (a 0)), (1, .int (nI (pnS (θ 0)))), (2, .int (nI (tnS (θ 0)))), (3, .int (nI (((θ 0)) 0 ((tnS (θ 0)) * 32 + (pnS (θ 0)))))), (4, .int (nI (1 + ct (fun i => (stk (θ 0)).testBit i) 12)))]) S.1 S.2.1 dL_isStepSo_248 hl (by decide) rfl (fun ls hl => ?_)
                    refine lv_aload_n S.1 S.2.1 dL_isStepSo_250 rfl (lv_at hl 9 rfl) ?_
                    refine lv_iconst (v := nI (1)) S.1 S.2.1 dL_isStepSo_251 rfl ?_
                    refine lv_iconst (v := nI (2)) S.1 S.2.1 dL_isStepSo_252 rfl ?_
                    refine k_VI2 (rest := []) S hK hl.1 hW (KFr.all hW hA) hN (mX2_ifPlayed_k l D c a b ((pst θ 1 ((onS 1 (pu (((θ 0))) 11 (kc (((θ 0)) 11 0)))).2))) ρ κ _ 1 2 T (by first | omega | exact h1_1 | assumption | (show 1 ≤ 1; omega) | rfl) (by first | omega | exact h1_2 | assumption | (show 1 ≤ 128; omega) | rfl) (by first | omega | exact hw | assumption | (show 2 < 5; omega) | rfl) ok (by first | omega | exact hT | assumption | (show T < 200000000; omega) | rfl)) gL_isStepSo_X2_ifPlayed rfl pdX2_ifPlayed ⟨⟨rfl, rfl⟩, Nat.le_of_ble_eq_true rfl, Nat.le_of_ble_eq_true rfl⟩ 0 2 rfl rfl rfl rfl (Nat.le_of_ble_eq_true rfl) dL_isStepSo_253 ⟨Nat.le_of_ble_eq_true rfl, Nat.le_of_ble_eq_true rfl⟩ (fun H locs hW => ?_)
                    have hW : kw D A s.heap (wP c a b (pst θ 1 ((onS 1 (pu (((θ 0))) 11 (kc (((θ 0)) 11 0)))).2)) ρ κ) H locs := hW
                    refine k_top (y := (if 2 = 0 then nI ((onS 1 (pu (((θ 0))) 11 (kc (((θ 0)) 11 0)))).2 13 0) - nI (((θ 0)) 13 0) else if 2 = 1 then nI ((onS 1 (pu (((θ 0))) 11 (kc (((θ 0)) 11 0)))).2 14 0) - nI (((θ 0)) 14 0) else if 2 = 2 then nI ((onS 1 (pu (((θ 0))) 11 (kc (((θ 0)) 11 0)))).2 15 0) - nI (((θ 0)) 15 0) else if 2 = 3 then nI ((onS 1 (pu (((θ 0))) 11 (kc (((θ 0)) 11 0)))).2 12 0) - nI (((θ 0)) 12 0) else nI (ones ((onS 1 (pu (((θ 0))) 11 (kc (((θ 0)) 11 0)))).2 7 0)) - nI (ones (((θ 0)) 7 0)))) rfl ?_
                    refine k_top (y := nI (0)) (ip2.trans (by rw [h1]; exact (pk_sub (Nat.le_refl _)).trans (congrArg nI (Nat.sub_self _)))) ?_
                    refine lv_istore (lv' := [(14, .int (nI (0))), (13, .int (nI (0))), (12, .int (nI (1))), (11, .int (nI (0))), (10, .int (nI (0))), (9, .int (nI (ones ((θ 0) 7 0)))), (8, .int (nI ((θ 0) 15 0))), (7, .int (nI ((θ 0) 14 0))), (6, .int (nI ((θ 0) 12 0))), (5, .int (nI ((θ 0) 10 0))), (0, .ref (a 0)), (1, .int (nI (pnS (θ 0)))), (2, .int (nI (tnS (θ 0)))), (3, .int (nI (((θ 0)) 0 ((tnS (θ 0)) * 32 + (pnS (θ 0)))))), (4, .int (nI (1 + ct (fun i => (stk (θ 0)).testBit i) 12)))]) S.1 S.2.1 dL_isStepSo_256 hl (by decide) rfl (fun ls hl => ?_)
                    refine lv_aload_n S.1 S.2.1 dL_isStepSo_258 rfl (lv_at hl 10 rfl) ?_
                    refine lv_iconst (v := nI (1)) S.1 S.2.1 dL_isStepSo_259 rfl ?_
                    refine lv_iconst (v := nI (4)) S.1 S.2.1 dL_isStepSo_260 rfl ?_
                    refine k_VI2 (rest := []) S hK hl.1 hW (KFr.all hW hA) hN (mX2_ifPlayed_k l D c a b ((pst θ 1 ((onS 1 (pu (((θ 0))) 11 (kc (((θ 0)) 11 0)))).2))) ρ κ _ 1 4 T (by first | omega | exact h1_1 | assumption | (show 1 ≤ 1; omega) | rfl) (by first | omega | exact h1_2 | assumption | (show 1 ≤ 128; omega) | rfl) (by first | omega | exact hw | assumption | (show 4 < 5; omega) | rfl) ok (by first | omega | exact hT | assumption | (show T < 200000000; omega) | rfl)) gL_isStepSo_X2_ifPlayed rfl pdX2_ifPlayed ⟨⟨rfl, rfl⟩, Nat.le_of_ble_eq_true rfl, Nat.le_of_ble_eq_true rfl⟩ 0 2 rfl rfl rfl rfl (Nat.le_of_ble_eq_true rfl) dL_isStepSo_261 ⟨Nat.le_of_ble_eq_true rfl, Nat.le_of_ble_eq_true rfl⟩ (fun H locs hW => ?_)
                    have hW : kw D A s.heap (wP c a b (pst θ 1 ((onS 1 (pu (((θ 0))) 11 (kc (((θ 0)) 11 0)))).2)) ρ κ) H locs := hW
                    refine k_top (y := (if 4 = 0 then nI ((onS 1 (pu (((θ 0))) 11 (kc (((θ 0)) 11 0)))).2 13 0) - nI (((θ 0)) 13 0) else if 4 = 1 then nI ((onS 1 (pu (((θ 0))) 11 (kc (((θ 0)) 11 0)))).2 14 0) - nI (((θ 0)) 14 0) else if 4 = 2 then nI ((onS 1 (pu (((θ 0))) 11 (kc (((θ 0)) 11 0)))).2 15 0) - nI (((θ 0)) 15 0) else if 4 = 3 then nI ((onS 1 (pu (((θ 0))) 11 (kc (((θ 0)) 11 0)))).2 12 0) - nI (((θ 0)) 12 0) else nI (ones ((onS 1 (pu (((θ 0))) 11 (kc (((θ 0)) 11 0)))).2 7 0)) - nI (ones (((θ 0)) 7 0)))) rfl ?_
                    refine k_top (y := nI (0)) (ip4.trans (by rw [h1]; exact (pk_sub (Nat.le_refl _)).trans (congrArg nI (Nat.sub_self _)))) ?_
                    refine lv_istore (lv' := [(15, .int (nI (0))), (14, .int (nI (0))), (13, .int (nI (0))), (12, .int (nI (1))), (11, .int (nI (0))), (10, .int (nI (0))), (9, .int (nI (ones ((θ 0) 7 0)))), (8, .int (nI ((θ 0) 15 0))), (7, .int (nI ((θ 0) 14 0))), (6, .int (nI ((θ 0) 12 0))), (5, .int (nI ((θ 0) 10 0))), (0, .ref (a 0)), (1, .int (nI (pnS (θ 0)))), (2, .int (nI (tnS (θ 0)))), (3, .int (nI (((θ 0)) 0 ((tnS (θ 0)) * 32 + (pnS (θ 0)))))), (4, .int (nI (1 + ct (fun i => (stk (θ 0)).testBit i) 12)))]) S.1 S.2.1 dL_isStepSo_264 hl (by decide) rfl (fun ls hl => ?_)
                    refine lv_iload S.1 S.2.1 dL_isStepSo_266 (lv_at hl 3 rfl) ?_
                    refine kz_eq S (tgt := 432) dL_isStepSo_268 (by decide) (by omega) (fun c_268 => ?_) (fun c_268 => ?_)
                    · exact absurd c_268 (by decide)
                    · refine lv_iload S.1 S.2.1 dL_isStepSo_271 (lv_at hl 2 rfl) ?_
                      refine lv_iload S.1 S.2.1 dL_isStepSo_273 (lv_at hl 0 rfl) ?_
                      refine kn_iadd S dL_isStepSo_275 ?_
                      refine lv_iload S.1 S.2.1 dL_isStepSo_276 (lv_at hl 4 rfl) ?_
                      refine kz_eq S (tgt := 288) dL_isStepSo_278 (by decide) (by omega) (fun c_278 => ?_) (fun c_278 => ?_)
                      · refine lv_iconst (v := nI (0)) S.1 S.2.1 dL_isStepSo_288 rfl ?_
                        refine kn_ne S (tgt := 432) dL_isStepSo_289 (by decide) (by omega) (by omega) (fun c_289 => ?_) (fun c_289 => ?_)
                        · exact absurd (by omega) c_289
                        · refine lv_iload S.1 S.2.1 dL_isStepSo_292 (lv_at hl 0 rfl) ?_
                          refine lv_iload S.1 S.2.1 dL_isStepSo_294 (lv_at hl 1 rfl) ?_
                          refine kn_gt S (tgt := 432) dL_isStepSo_296 (by decide) (by omega) (by omega) (fun c_296 => ?_) (fun c_296 => ?_)
                          · exact absurd c_296 (by decide)
                          · refine lv_iload S.1 S.2.1 dL_isStepSo_299 (lv_at hl 1 rfl) ?_
                            refine lv_iload S.1 S.2.1 dL_isStepSo_301 (lv_at hl 2 rfl) ?_
                            refine lv_iload S.1 S.2.1 dL_isStepSo_303 (lv_at hl 0 rfl) ?_
                            refine kn_iadd S dL_isStepSo_305 ?_
                            refine kn_gt S (tgt := 432) dL_isStepSo_306 (by decide) (by omega) (by omega) (fun c_306 => ?_) (fun c_306 => ?_)
                            · exact absurd c_306 (by omega)
                            · refine lv_aload_n S.1 S.2.1 dL_isStepSo_309 rfl (lv_at hl 11 rfl) ?_
                              refine lv_iconst (v := nI (1)) S.1 S.2.1 dL_isStepSo_310 rfl ?_
                              refine k_VI2 (rest := []) S hK hl.1 hW (KFr.all hW hA) hN (mX2_play_k l D c a b ((pst θ 1 ((onS 1 (pu (((θ 0))) 11 (kc (((θ 0)) 11 0)))).2))) ρ κ _ 1 T (by first | omega | exact h1_1 | assumption | (show 1 ≤ 1; omega) | rfl) (by first | omega | exact h1_2 | assumption | (show 1 ≤ 128; omega) | rfl) ok (by first | omega | exact hT | assumption | (show T < 200000000; omega) | rfl) (by first | omega | exact hold | assumption | (show (κ 2 0) < 6; omega) | rfl) (by first | omega | exact hcnt | assumption | (show (κ 3 0) ≤ 6; omega) | rfl)) gL_isStepSo_X2_play rfl pdX2_play ⟨⟨rfl, rfl⟩, Nat.le_of_ble_eq_true rfl, Nat.le_of_ble_eq_true rfl⟩ 0 2 rfl rfl rfl rfl (Nat.le_of_ble_eq_true rfl) dL_isStepSo_311 ⟨Nat.le_of_ble_eq_true rfl, Nat.le_of_ble_eq_true rfl⟩ (fun H locs hW => ?_)
                              have hW : kw D A s.heap (wP c a b (pst (svT (pst θ 1 ((onS 1 (pu (((θ 0))) 11 (kc (((θ 0)) 11 0)))).2)) (((κ 2 0) + (κ 3 0)) % 6)) 0 ((onS 1 (((θ 0)))).2)) ρ (svK κ)) H locs := hW
                              refine k_top (y := nI ((onS 1 (((θ 0)))).1)) rfl ?_
                              refine k_top (y := nI (0)) (congrArg nI h3) ?_
                              have hW : kw D A s.heap (wP c a b (pst (svT (pst θ 1 ((onS 1 (pu (θ 0) 11 (kc (θ 0 11 0)))).2)) ((κ 2 0 + κ 3 0) % 6)) 0 (θ 0)) ρ (svK κ)) H locs := by rw [h2] at hW; exact hW
                              refine lv_iload S.1 S.2.1 dL_isStepSo_314 (lv_at hl 4 rfl) ?_
                              refine kz_eq S (tgt := 323) dL_isStepSo_316 (by decide) (by omega) (fun c_316 => ?_) (fun c_316 => ?_)
                              · refine lv_iconst (v := nI (0)) S.1 S.2.1 dL_isStepSo_323 rfl ?_
                                refine kn_ne S (tgt := 432) dL_isStepSo_324 (by decide) (by omega) (by omega) (fun c_324 => ?_) (fun c_324 => ?_)
                                · exact absurd c_324 (by decide)
                                · refine lv_aload_n S.1 S.2.1 dL_isStepSo_327 rfl (lv_at hl 11 rfl) ?_
                                  refine lv_iconst (v := nI (2)) S.1 S.2.1 dL_isStepSo_328 rfl ?_
                                  refine k_VI2 (rest := []) S hK hl.1 hW (KFr.all hW hA) hN (mX2_count_k l D c a b ((pst (svT (pst θ 1 ((onS 1 (pu (θ 0) 11 (kc (θ 0 11 0)))).2)) ((κ 2 0 + κ 3 0) % 6)) 0 (θ 0))) ρ ((svK κ)) _ 2 T (by first | omega | exact hw | assumption | (show 2 < 18; omega) | rfl) ok (by first | omega | exact hT | assumption | (show T < 500000000; omega) | rfl)) gL_isStepSo_X2_count rfl pdX2_count ⟨⟨rfl, rfl⟩, Nat.le_of_ble_eq_true rfl, Nat.le_of_ble_eq_true rfl⟩ 0 2 rfl rfl rfl rfl (Nat.le_of_ble_eq_true rfl) dL_isStepSo_329 ⟨Nat.le_of_ble_eq_true rfl, Nat.le_of_ble_eq_true rfl⟩ (fun H locs hW => ?_)
                                  have hW : kw D A s.heap (wP c a b (pst (svT (pst θ 1 ((onS 1 (pu (θ 0) 11 (kc (θ 0 11 0)))).2)) ((κ 2 0 + κ 3 0) % 6)) 0 (θ 0)) ρ (svK κ)) H locs := hW
                                  refine k_top (y := nI ((if 2 = 17 then ((svK κ) 3 0) else numN (((θ 0))) 2))) rfl ?_
                                  refine k_top (y := nI ((θ 0) 10 0)) (cn_2 _ _) ?_
                                  refine lv_iload S.1 S.2.1 dL_isStepSo_332 (lv_at hl 4 rfl) ?_
                                  refine kz_eq S (tgt := 345) dL_isStepSo_334 (by decide) (by omega) (fun c_334 => ?_) (fun c_334 => ?_)
                                  · refine lv_iload S.1 S.2.1 dL_isStepSo_345 (lv_at hl 10 rfl) ?_
                                    refine kn_ne S (tgt := 432) dL_isStepSo_347 (by decide) (by omega) (by omega) (fun c_347 => ?_) (fun c_347 => ?_)
                                    · exact absurd (by omega) c_347
                                    · refine lv_aload_n S.1 S.2.1 dL_isStepSo_350 rfl (lv_at hl 11 rfl) ?_
                                      refine lv_iconst (v := nI (4)) S.1 S.2.1 dL_isStepSo_351 rfl ?_
                                      refine k_VI2 (rest := []) S hK hl.1 hW (KFr.all hW hA) hN (mX2_count_k l D c a b ((pst (svT (pst θ 1 ((onS 1 (pu (θ 0) 11 (kc (θ 0 11 0)))).2)) ((κ 2 0 + κ 3 0) % 6)) 0 (θ 0))) ρ ((svK κ)) _ 4 T (by first | omega | exact hw | assumption | (show 4 < 18; omega) | rfl) ok (by first | omega | exact hT | assumption | (show T < 500000000; omega) | rfl)) gL_isStepSo_X2_count rfl pdX2_count ⟨⟨rfl, rfl⟩, Nat.le_of_ble_eq_true rfl, Nat.le_of_ble_eq_true rfl⟩ 0 2 rfl rfl rfl rfl (Nat.le_of_ble_eq_true rfl) dL_isStepSo_352 ⟨Nat.le_of_ble_eq_true rfl, Nat.le_of_ble_eq_true rfl⟩ (fun H locs hW => ?_)
                                      have hW : kw D A s.heap (wP c a b (pst (svT (pst θ 1 ((onS 1 (pu (θ 0) 11 (kc (θ 0 11 0)))).2)) ((κ 2 0 + κ 3 0) % 6)) 0 (θ 0)) ρ (svK κ)) H locs := hW
                                      refine k_top (y := nI ((if 4 = 17 then ((svK κ) 3 0) else numN (((θ 0))) 4))) rfl ?_
                                      refine k_top (y := nI ((θ 0) 12 0)) (cn_4 _ _) ?_
                                      refine lv_iload S.1 S.2.1 dL_isStepSo_355 (lv_at hl 9 rfl) ?_
                                      refine lv_iload S.1 S.2.1 dL_isStepSo_357 (lv_at hl 5 rfl) ?_
                                      refine kn_iadd S dL_isStepSo_359 ?_
                                      refine kn_ne S (tgt := 432) dL_isStepSo_360 (by decide) (by omega) (by omega) (fun c_360 => ?_) (fun c_360 => ?_)
                                      · exact absurd (by omega) c_360
                                      · refine lv_aload_n S.1 S.2.1 dL_isStepSo_363 rfl (lv_at hl 11 rfl) ?_
                                        refine lv_bipush (v := nI (6)) S.1 S.2.1 dL_isStepSo_364 rfl ?_
                                        refine k_VI2 (rest := []) S hK hl.1 hW (KFr.all hW hA) hN (mX2_count_k l D c a b ((pst (svT (pst θ 1 ((onS 1 (pu (θ 0) 11 (kc (θ 0 11 0)))).2)) ((κ 2 0 + κ 3 0) % 6)) 0 (θ 0))) ρ ((svK κ)) _ 6 T (by first | omega | exact hw | assumption | (show 6 < 18; omega) | rfl) ok (by first | omega | exact hT | assumption | (show T < 500000000; omega) | rfl)) gL_isStepSo_X2_count rfl pdX2_count ⟨⟨rfl, rfl⟩, Nat.le_of_ble_eq_true rfl, Nat.le_of_ble_eq_true rfl⟩ 0 2 rfl rfl rfl rfl (Nat.le_of_ble_eq_true rfl) dL_isStepSo_366 ⟨Nat.le_of_ble_eq_true rfl, Nat.le_of_ble_eq_true rfl⟩ (fun H locs hW => ?_)
                                        have hW : kw D A s.heap (wP c a b (pst (svT (pst θ 1 ((onS 1 (pu (θ 0) 11 (kc (θ 0 11 0)))).2)) ((κ 2 0 + κ 3 0) % 6)) 0 (θ 0)) ρ (svK κ)) H locs := hW
                                        refine k_top (y := nI ((if 6 = 17 then ((svK κ) 3 0) else numN (((θ 0))) 6))) rfl ?_
                                        refine k_top (y := nI ((θ 0) 14 0)) (cn_6 _ _) ?_
                                        refine lv_iload S.1 S.2.1 dL_isStepSo_369 (lv_at hl 8 rfl) ?_
                                        refine lv_iload S.1 S.2.1 dL_isStepSo_371 (lv_at hl 2 rfl) ?_
                                        refine kn_iadd S dL_isStepSo_373 ?_
                                        refine kn_ne S (tgt := 432) dL_isStepSo_374 (by decide) (by omega) (by omega) (fun c_374 => ?_) (fun c_374 => ?_)
                                        · exact absurd (by omega) c_374
                                        · refine lv_aload_n S.1 S.2.1 dL_isStepSo_377 rfl (lv_at hl 11 rfl) ?_
                                          refine lv_bipush (v := nI (7)) S.1 S.2.1 dL_isStepSo_378 rfl ?_
                                          refine k_VI2 (rest := []) S hK hl.1 hW (KFr.all hW hA) hN (mX2_count_k l D c a b ((pst (svT (pst θ 1 ((onS 1 (pu (θ 0) 11 (kc (θ 0 11 0)))).2)) ((κ 2 0 + κ 3 0) % 6)) 0 (θ 0))) ρ ((svK κ)) _ 7 T (by first | omega | exact hw | assumption | (show 7 < 18; omega) | rfl) ok (by first | omega | exact hT | assumption | (show T < 500000000; omega) | rfl)) gL_isStepSo_X2_count rfl pdX2_count ⟨⟨rfl, rfl⟩, Nat.le_of_ble_eq_true rfl, Nat.le_of_ble_eq_true rfl⟩ 0 2 rfl rfl rfl rfl (Nat.le_of_ble_eq_true rfl) dL_isStepSo_380 ⟨Nat.le_of_ble_eq_true rfl, Nat.le_of_ble_eq_true rfl⟩ (fun H locs hW => ?_)
                                          have hW : kw D A s.heap (wP c a b (pst (svT (pst θ 1 ((onS 1 (pu (θ 0) 11 (kc (θ 0 11 0)))).2)) ((κ 2 0 + κ 3 0) % 6)) 0 (θ 0)) ρ (svK κ)) H locs := hW
                                          refine k_top (y := nI ((if 7 = 17 then ((svK κ) 3 0) else numN (((θ 0))) 7))) rfl ?_
                                          refine k_top (y := nI ((θ 0) 15 0)) (cn_7 _ _) ?_
                                          refine lv_iload S.1 S.2.1 dL_isStepSo_383 (lv_at hl 7 rfl) ?_
                                          refine lv_iload S.1 S.2.1 dL_isStepSo_385 (lv_at hl 1 rfl) ?_
                                          refine kn_iadd S dL_isStepSo_387 ?_
                                          refine kn_ne S (tgt := 432) dL_isStepSo_388 (by decide) (by omega) (by omega) (fun c_388 => ?_) (fun c_388 => ?_)
                                          · exact absurd (by omega) c_388
                                          · refine lv_aload_n S.1 S.2.1 dL_isStepSo_391 rfl (lv_at hl 11 rfl) ?_
                                            refine lv_bipush (v := nI (9)) S.1 S.2.1 dL_isStepSo_392 rfl ?_
                                            refine k_VI2 (rest := []) S hK hl.1 hW (KFr.all hW hA) hN (mX2_count_k l D c a b ((pst (svT (pst θ 1 ((onS 1 (pu (θ 0) 11 (kc (θ 0 11 0)))).2)) ((κ 2 0 + κ 3 0) % 6)) 0 (θ 0))) ρ ((svK κ)) _ 9 T (by first | omega | exact hw | assumption | (show 9 < 18; omega) | rfl) ok (by first | omega | exact hT | assumption | (show T < 500000000; omega) | rfl)) gL_isStepSo_X2_count rfl pdX2_count ⟨⟨rfl, rfl⟩, Nat.le_of_ble_eq_true rfl, Nat.le_of_ble_eq_true rfl⟩ 0 2 rfl rfl rfl rfl (Nat.le_of_ble_eq_true rfl) dL_isStepSo_394 ⟨Nat.le_of_ble_eq_true rfl, Nat.le_of_ble_eq_true rfl⟩ (fun H locs hW => ?_)
                                            have hW : kw D A s.heap (wP c a b (pst (svT (pst θ 1 ((onS 1 (pu (θ 0) 11 (kc (θ 0 11 0)))).2)) ((κ 2 0 + κ 3 0) % 6)) 0 (θ 0)) ρ (svK κ)) H locs := hW
                                            refine k_top (y := nI ((if 9 = 17 then ((svK κ) 3 0) else numN (((θ 0))) 9))) rfl ?_
                                            refine k_top (y := nI (ones ((θ 0) 7 0))) (cn_9 _ _) ?_
                                            refine lv_iload S.1 S.2.1 dL_isStepSo_397 (lv_at hl 6 rfl) ?_
                                            refine lv_iload S.1 S.2.1 dL_isStepSo_399 (lv_at hl 0 rfl) ?_
                                            refine kn_iadd S dL_isStepSo_401 ?_
                                            refine kn_ne S (tgt := 432) dL_isStepSo_402 (by decide) (by omega) (by omega) (fun c_402 => ?_) (fun c_402 => ?_)
                                            · exact absurd (by omega) c_402
                                            · refine lv_iload S.1 S.2.1 dL_isStepSo_405 (lv_at hl 4 rfl) ?_
                                              refine kz_eq S (tgt := 428) dL_isStepSo_407 (by decide) (by omega) (fun c_407 => ?_) (fun c_407 => ?_)
                                              · refine lv_iconst (v := nI (1)) S.1 S.2.1 dL_isStepSo_428 rfl ?_
                                                refine lv_goto (tgt := 433) S.1 S.2.1 dL_isStepSo_429 (by decide) ?_
                                                refine lv_istore (lv' := [(12, .int (nI (1))), (15, .int (nI (0))), (14, .int (nI (0))), (13, .int (nI (0))), (11, .int (nI (0))), (10, .int (nI (0))), (9, .int (nI (ones ((θ 0) 7 0)))), (8, .int (nI ((θ 0) 15 0))), (7, .int (nI ((θ 0) 14 0))), (6, .int (nI ((θ 0) 12 0))), (5, .int (nI ((θ 0) 10 0))), (0, .ref (a 0)), (1, .int (nI (pnS (θ 0)))), (2, .int (nI (tnS (θ 0)))), (3, .int (nI (((θ 0)) 0 ((tnS (θ 0)) * 32 + (pnS (θ 0)))))), (4, .int (nI (1 + ct (fun i => (stk (θ 0)).testBit i) 12)))]) S.1 S.2.1 dL_isStepSo_433 hl (by decide) rfl (fun ls hl => ?_)
                                                refine lv_iconst (v := nI (0)) S.1 S.2.1 dL_isStepSo_435 rfl ?_
                                                refine lv_istore (lv' := [(16, .int (nI (0))), (12, .int (nI (1))), (15, .int (nI (0))), (14, .int (nI (0))), (13, .int (nI (0))), (11, .int (nI (0))), (10, .int (nI (0))), (9, .int (nI (ones ((θ 0) 7 0)))), (8, .int (nI ((θ 0) 15 0))), (7, .int (nI ((θ 0) 14 0))), (6, .int (nI ((θ 0) 12 0))), (5, .int (nI ((θ 0) 10 0))), (0, .ref (a 0)), (1, .int (nI (pnS (θ 0)))), (2, .int (nI (tnS (θ 0)))), (3, .int (nI (((θ 0)) 0 ((tnS (θ 0)) * 32 + (pnS (θ 0)))))), (4, .int (nI (1 + ct (fun i => (stk (θ 0)).testBit i) 12)))]) S.1 S.2.1 dL_isStepSo_436 hl (by decide) rfl (fun ls hl => ?_)
                                                refine lv_iload S.1 S.2.1 dL_isStepSo_438 (lv_at hl 0 rfl) ?_
                                                refine lv_iload S.1 S.2.1 dL_isStepSo_440 (lv_at hl 4 rfl) ?_
                                                refine kn_ge S (tgt := 533) dL_isStepSo_442 (by decide) (by omega) (by omega) (fun c_442 => ?_) (fun c_442 => ?_)
                                                · refine lv_iload S.1 S.2.1 dL_isStepSo_533 (lv_at hl 1 rfl) ?_
                                                  refine kz_eq S (tgt := 570) dL_isStepSo_535 (by decide) (by omega) (fun c_535 => ?_) (fun c_535 => ?_)
                                                  · exact absurd c_535 (by decide)
                                                  · refine lv_aload_n S.1 S.2.1 dL_isStepSo_538 rfl (lv_at hl 12 rfl) ?_
                                                    refine k_VI2 (rest := []) S hK hl.1 hW (KFr.all hW hA) hN (mX2_undo_k l D c a b ((pst (svT (pst θ 1 ((onS 1 (pu (θ 0) 11 (kc (θ 0 11 0)))).2)) ((κ 2 0 + κ 3 0) % 6)) 0 (θ 0))) ρ ((svK κ)) _ hsv2 hsv3 hsv0) gL_isStepSo_X2_undo rfl pdX2_undo ⟨⟨rfl, rfl⟩, Nat.le_of_ble_eq_true rfl, Nat.le_of_ble_eq_true rfl⟩ 0 2 rfl rfl rfl rfl (Nat.le_of_ble_eq_true rfl) dL_isStepSo_539 ⟨Nat.le_of_ble_eq_true rfl, Nat.le_of_ble_eq_true rfl⟩ (fun H locs hW => ?_)
                                                    have hW : kw D A s.heap (wP c a b (pst (svT (pst θ 1 ((onS 1 (pu (θ 0) 11 (kc (θ 0 11 0)))).2)) ((κ 2 0 + κ 3 0) % 6)) 0 ((pst (svT (pst θ 1 ((onS 1 (pu (θ 0) 11 (kc (θ 0 11 0)))).2)) ((κ 2 0 + κ 3 0) % 6)) 0 (θ 0)) (3 + (((svK κ) 2 0) + (((svK κ) 3 0) - 1)) % 6))) ρ (pu (svK κ) 3 (kc (((svK κ) 3 0) - 1)))) H locs := hW
                                                    refine k_top (y := nI (((svK κ) 3 0) - 1)) rfl ?_
                                                    have hW : kw D A s.heap (wP c a b (pst (svT (pst θ 1 ((onS 1 (pu (θ 0) 11 (kc (θ 0 11 0)))).2)) ((κ 2 0 + κ 3 0) % 6)) 0 (θ 0)) ρ (pu (svK κ) 3 (kc (svK κ 3 0 - 1)))) H locs := by rw [undo_eq (θ := pst θ 1 ((onS 1 (pu (θ 0) 11 (kc (θ 0 11 0)))).2)) hold hcnt] at hW; exact hW
                                                    refine kz_lt S (tgt := 570) dL_isStepSo_542 (by decide) (by omega) ?_
                                                    refine lv_aload_n S.1 S.2.1 dL_isStepSo_545 rfl (lv_at hl 12 rfl) ?_
                                                    refine lv_iconst (v := nI (2)) S.1 S.2.1 dL_isStepSo_546 rfl ?_
                                                    refine k_VI2 (rest := []) S hK hl.1 hW (KFr.all hW hA) hN (mX2_count_k l D c a b ((pst (svT (pst θ 1 ((onS 1 (pu (θ 0) 11 (kc (θ 0 11 0)))).2)) ((κ 2 0 + κ 3 0) % 6)) 0 (θ 0))) ρ ((pu (svK κ) 3 (kc (svK κ 3 0 - 1)))) _ 2 T (by first | omega | exact hw | assumption | (show 2 < 18; omega) | rfl) ok (by first | omega | exact hT | assumption | (show T < 500000000; omega) | rfl)) gL_isStepSo_X2_count rfl pdX2_count ⟨⟨rfl, rfl⟩, Nat.le_of_ble_eq_true rfl, Nat.le_of_ble_eq_true rfl⟩ 0 2 rfl rfl rfl rfl (Nat.le_of_ble_eq_true rfl) dL_isStepSo_547 ⟨Nat.le_of_ble_eq_true rfl, Nat.le_of_ble_eq_true rfl⟩ (fun H locs hW => ?_)
                                                    have hW : kw D A s.heap (wP c a b (pst (svT (pst θ 1 ((onS 1 (pu (θ 0) 11 (kc (θ 0 11 0)))).2)) ((κ 2 0 + κ 3 0) % 6)) 0 (θ 0)) ρ (pu (svK κ) 3 (kc (svK κ 3 0 - 1)))) H locs := hW
                                                    refine k_top (y := nI ((if 2 = 17 then (svK κ 3 0 - 1) else numN (((θ 0))) 2))) rfl ?_
                                                    refine k_top (y := nI ((θ 0) 10 0)) (cn_2 _ _) ?_
                                                    refine lv_iload S.1 S.2.1 dL_isStepSo_550 (lv_at hl 11 rfl) ?_
                                                    refine kn_ne S (tgt := 570) dL_isStepSo_552 (by decide) (by omega) (by omega) (fun c_552 => ?_) (fun c_552 => ?_)
                                                    · exact absurd rfl c_552
                                                    · refine lv_aload_n S.1 S.2.1 dL_isStepSo_555 rfl (lv_at hl 12 rfl) ?_
                                                      refine lv_bipush (v := nI (6)) S.1 S.2.1 dL_isStepSo_556 rfl ?_
                                                      refine k_VI2 (rest := []) S hK hl.1 hW (KFr.all hW hA) hN (mX2_count_k l D c a b ((pst (svT (pst θ 1 ((onS 1 (pu (θ 0) 11 (kc (θ 0 11 0)))).2)) ((κ 2 0 + κ 3 0) % 6)) 0 (θ 0))) ρ ((pu (svK κ) 3 (kc (svK κ 3 0 - 1)))) _ 6 T (by first | omega | exact hw | assumption | (show 6 < 18; omega) | rfl) ok (by first | omega | exact hT | assumption | (show T < 500000000; omega) | rfl)) gL_isStepSo_X2_count rfl pdX2_count ⟨⟨rfl, rfl⟩, Nat.le_of_ble_eq_true rfl, Nat.le_of_ble_eq_true rfl⟩ 0 2 rfl rfl rfl rfl (Nat.le_of_ble_eq_true rfl) dL_isStepSo_558 ⟨Nat.le_of_ble_eq_true rfl, Nat.le_of_ble_eq_true rfl⟩ (fun H locs hW => ?_)
                                                      have hW : kw D A s.heap (wP c a b (pst (svT (pst θ 1 ((onS 1 (pu (θ 0) 11 (kc (θ 0 11 0)))).2)) ((κ 2 0 + κ 3 0) % 6)) 0 (θ 0)) ρ (pu (svK κ) 3 (kc (svK κ 3 0 - 1)))) H locs := hW
                                                      refine k_top (y := nI ((if 6 = 17 then (svK κ 3 0 - 1) else numN (((θ 0))) 6))) rfl ?_
                                                      refine k_top (y := nI ((θ 0) 14 0)) (cn_6 _ _) ?_
                                                      refine lv_iload S.1 S.2.1 dL_isStepSo_561 (lv_at hl 9 rfl) ?_
                                                      refine kn_ne S (tgt := 570) dL_isStepSo_563 (by decide) (by omega) (by omega) (fun c_563 => ?_) (fun c_563 => ?_)
                                                      · exact absurd rfl c_563
                                                      · refine lv_iconst (v := nI (1)) S.1 S.2.1 dL_isStepSo_566 rfl ?_
                                                        refine lv_goto (tgt := 571) S.1 S.2.1 dL_isStepSo_567 (by decide) ?_
                                                        exact hret 571 _ _ _ _ _ dL_isStepSo_571 hW (rfl) (rfl)
                                                · exact absurd c_442 (by decide)
                                              · exact absurd c_407 (by decide)
                                  · exact absurd c_334 (by decide)
                              · exact absurd c_316 (by decide)
                      · exact absurd c_278 (by decide)
            · exact absurd c_182 (by decide)
        · exact absurd c_167 (by decide)
      · exact absurd c_149 (by omega)
    · refine lv_iload S.1 S.2.1 dL_isStepSo_63 (lv_at hl 4 rfl) ?_
      refine k_join (fun (zz : Unit) H lo ls => match zz with | () => kw D A s.heap (wP c a b θ ρ κ) H lo ∧ lv_has ls 17 [(0, .ref (a 0)), (1, .int (nI (pnS (θ 0)))), (2, .int (nI (tnS (θ 0)))), (3, .int (nI (((θ 0)) 0 ((tnS (θ 0)) * 32 + (pnS (θ 0)))))), (4, .int (nI (1 + ct (fun i => (stk (θ 0)).testBit i) k))), (5, .int (nI (k)))]) 90 (fun (zz : Unit) => match zz with | () => [.int (nI ((stk (θ 0)).testBit k).toNat), .int (nI (1 + ct (fun i => (stk (θ 0)).testBit i) k))]) ?_ ?_
      · rintro ⟨⟩ H locs ls ⟨hW, hl⟩
        refine kn_iadd S dL_isStepSo_90 ?_
        refine k_top (y := nI (1 + ct (fun i => (stk (θ 0)).testBit i) (k + 1))) (congrArg nI (Nat.add_assoc _ _ _)) ?_
        refine lv_istore (lv' := [(4, .int (nI (1 + ct (fun i => (stk (θ 0)).testBit i) (k + 1)))), (0, .ref (a 0)), (1, .int (nI (pnS (θ 0)))), (2, .int (nI (tnS (θ 0)))), (3, .int (nI (((θ 0)) 0 ((tnS (θ 0)) * 32 + (pnS (θ 0)))))), (5, .int (nI (k)))]) S.1 S.2.1 dL_isStepSo_91 hl (by decide) rfl (fun ls hl => ?_)
        refine lv_iinc (v := nI (k + 1)) (lv' := [(5, .int (nI (k + 1))), (4, .int (nI (1 + ct (fun i => (stk (θ 0)).testBit i) (k + 1)))), (0, .ref (a 0)), (1, .int (nI (pnS (θ 0)))), (2, .int (nI (tnS (θ 0)))), (3, .int (nI (((θ 0)) 0 ((tnS (θ 0)) * 32 + (pnS (θ 0))))))]) S.1 S.2.1 dL_isStepSo_93 hl (k := 5) rfl (nI_add _ _) (by decide) rfl (fun ls hl => ?_)
        refine lv_goto (tgt := 56) S.1 S.2.1 dL_isStepSo_96 (by decide) ?_
        exact ih56 (k + 1) _ _ _ ⟨hW, lv_sub hl [2, 3, 4, 5, 1, 0] rfl, (by omega)⟩ (by show 12 - (k + 1) < 12 - k; omega)
      · intro jn65
        refine lv_iload_n S.1 S.2.1 dL_isStepSo_65 rfl (lv_at hl 3 rfl) ?_
        refine lv_iload S.1 S.2.1 dL_isStepSo_66 (lv_at hl 5 rfl) ?_
        refine lv_ishr S.1 S.2.1 dL_isStepSo_68 ?_
        refine lv_iconst (v := nI (1)) S.1 S.2.1 dL_isStepSo_69 rfl ?_
        refine kn_tbit S (by omega) dL_isStepSo_70 ?_
        refine lv_iconst (v := nI (1)) S.1 S.2.1 dL_isStepSo_71 rfl ?_
        refine kn_ne S (tgt := 89) dL_isStepSo_72 (by decide) (bt_lt _) (by omega) (fun c_72 => ?_) (fun c_72 => ?_)
        · have e89 : nI 0 = nI ((stk (θ 0)).testBit k).toNat := congrArg (fun z : Bool => nI z.toNat) (st_1 c_60 (bt_0 c_72)).symm
          refine lv_iconst (v := nI (0)) S.1 S.2.1 dL_isStepSo_89 rfl ?_
          refine k_top (y := nI (((stk (θ 0)).testBit k).toNat)) (e89) ?_
          exact jn65 () _ _ _ ⟨hW, lv_sub hl [0, 1, 2, 3, 4, 5] rfl⟩
        · refine lv_aload_n S.1 S.2.1 dL_isStepSo_75 rfl (lv_at hl 0 rfl) ?_
          refine lv_iload S.1 S.2.1 dL_isStepSo_76 (lv_at hl 5 rfl) ?_
          refine lv_iconst (v := nI (2)) S.1 S.2.1 dL_isStepSo_78 rfl ?_
          refine k_VI2 (rest := [.int (nI (1 + ct (fun i => (stk (θ 0)).testBit i) k))]) S hK hl.1 hW (KFr.all hW hA) hN (mX2_tooth_k l D c a b θ ρ κ _ k 2 T (by first | omega | exact hj | assumption | (show k < 12; omega) | rfl) (by first | omega | exact hw | assumption | (show 2 < 5; omega) | rfl) ok (by first | omega | exact hT | assumption | (show T < 500000000; omega) | rfl)) gL_isStepSo_X2_tooth rfl pdX2_tooth ⟨⟨rfl, rfl⟩, Nat.le_of_ble_eq_true rfl, Nat.le_of_ble_eq_true rfl⟩ 0 2 rfl rfl rfl rfl (Nat.le_of_ble_eq_true rfl) dL_isStepSo_79 ⟨Nat.le_of_ble_eq_true rfl, Nat.le_of_ble_eq_true rfl⟩ (fun H locs hW => ?_)
          have hW : kw D A s.heap (wP c a b θ ρ κ) H locs := hW
          refine k_top (y := nI (numK (((θ 0))) k 2)) rfl ?_
          refine k_top (y := nI ((((θ 0) 7 0).testBit k).toNat)) (congrArg nI (numK_2 _ _)) ?_
          refine kz_ne S (tgt := 89) dL_isStepSo_82 (by decide) (bt_lt _) (fun c_82 => ?_) (fun c_82 => ?_)
          · have e89 : nI 0 = nI ((stk (θ 0)).testBit k).toNat := congrArg (fun z : Bool => nI z.toNat) (st_2 c_60 (bt_n0 c_82)).symm
            refine lv_iconst (v := nI (0)) S.1 S.2.1 dL_isStepSo_89 rfl ?_
            refine k_top (y := nI (((stk (θ 0)).testBit k).toNat)) (e89) ?_
            exact jn65 () _ _ _ ⟨hW, lv_sub hl [0, 1, 2, 3, 4, 5] rfl⟩
          · refine lv_iconst (v := nI (1)) S.1 S.2.1 dL_isStepSo_85 rfl ?_
            refine k_top (y := nI (((stk (θ 0)).testBit k).toNat)) (congrArg (fun z : Bool => nI z.toNat) (st_3 c_60 (bt_1 c_72) c_82).symm) ?_
            refine lv_goto (tgt := 90) S.1 S.2.1 dL_isStepSo_86 (by decide) ?_
            exact jn65 () _ _ _ ⟨hW, lv_sub hl [0, 1, 2, 3, 4, 5] rfl⟩
  · intro jn11
    refine lv_iload_n S.1 S.2.1 dL_isStepSo_11 rfl (lv_at hl 0 rfl) ?_
    refine kz_ne S (tgt := 37) dL_isStepSo_12 (by decide) (by omega) (fun c_12 => ?_) (fun c_12 => ?_)
    · have e42 := tn_2 (τ := θ 0) (Or.inl c_12)
      refine lv_aload_n S.1 S.2.1 dL_isStepSo_37 rfl (lv_at hl 1 rfl) ?_
      refine lv_iconst (v := nI (1)) S.1 S.2.1 dL_isStepSo_38 rfl ?_
      refine k_VI2 (rest := []) S hK hl.1 hW (KFr.all hW hA) hN (mX2_count_k l D c a b θ ρ κ _ 1 T (by first | omega | exact hw | assumption | (show 1 < 18; omega) | rfl) ok (by first | omega | exact hT | assumption | (show T < 500000000; omega) | rfl)) gL_isStepSo_X2_count rfl pdX2_count ⟨⟨rfl, rfl⟩, Nat.le_of_ble_eq_true rfl, Nat.le_of_ble_eq_true rfl⟩ 0 2 rfl rfl rfl rfl (Nat.le_of_ble_eq_true rfl) dL_isStepSo_39 ⟨Nat.le_of_ble_eq_true rfl, Nat.le_of_ble_eq_true rfl⟩ (fun H locs hW => ?_)
      have hW : kw D A s.heap (wP c a b θ ρ κ) H locs := hW
      refine k_top (y := nI ((if 1 = 17 then (κ 3 0) else numN (((θ 0))) 1))) rfl ?_
      refine k_top (y := nI (tnS (θ 0))) ((cn_1 _ _).trans e42) ?_
      exact jn11 () _ _ _ ⟨hW, lv_sub hl [0, 1] rfl⟩
    · refine lv_aload_n S.1 S.2.1 dL_isStepSo_15 rfl (lv_at hl 1 rfl) ?_
      refine lv_bipush (v := nI (14)) S.1 S.2.1 dL_isStepSo_16 rfl ?_
      refine k_VI2 (rest := []) S hK hl.1 hW (KFr.all hW hA) hN (mX2_count_k l D c a b θ ρ κ _ 14 T (by first | omega | exact hw | assumption | (show 14 < 18; omega) | rfl) ok (by first | omega | exact hT | assumption | (show T < 500000000; omega) | rfl)) gL_isStepSo_X2_count rfl pdX2_count ⟨⟨rfl, rfl⟩, Nat.le_of_ble_eq_true rfl, Nat.le_of_ble_eq_true rfl⟩ 0 2 rfl rfl rfl rfl (Nat.le_of_ble_eq_true rfl) dL_isStepSo_18 ⟨Nat.le_of_ble_eq_true rfl, Nat.le_of_ble_eq_true rfl⟩ (fun H locs hW => ?_)
      have hW : kw D A s.heap (wP c a b θ ρ κ) H locs := hW
      refine k_top (y := nI ((if 14 = 17 then (κ 3 0) else numN (((θ 0))) 14))) rfl ?_
      refine k_top (y := nI ((θ 0) 6 2)) (cn_14 _ _) ?_
      refine lv_iconst (v := nI (1)) S.1 S.2.1 dL_isStepSo_21 rfl ?_
      refine kn_ne S (tgt := 37) dL_isStepSo_22 (by decide) (by omega) (by omega) (fun c_22 => ?_) (fun c_22 => ?_)
      · have e42 := tn_2 (τ := θ 0) (Or.inr (by omega))
        refine lv_aload_n S.1 S.2.1 dL_isStepSo_37 rfl (lv_at hl 1 rfl) ?_
        refine lv_iconst (v := nI (1)) S.1 S.2.1 dL_isStepSo_38 rfl ?_
        refine k_VI2 (rest := []) S hK hl.1 hW (KFr.all hW hA) hN (mX2_count_k l D c a b θ ρ κ _ 1 T (by first | omega | exact hw | assumption | (show 1 < 18; omega) | rfl) ok (by first | omega | exact hT | assumption | (show T < 500000000; omega) | rfl)) gL_isStepSo_X2_count rfl pdX2_count ⟨⟨rfl, rfl⟩, Nat.le_of_ble_eq_true rfl, Nat.le_of_ble_eq_true rfl⟩ 0 2 rfl rfl rfl rfl (Nat.le_of_ble_eq_true rfl) dL_isStepSo_39 ⟨Nat.le_of_ble_eq_true rfl, Nat.le_of_ble_eq_true rfl⟩ (fun H locs hW => ?_)
        have hW : kw D A s.heap (wP c a b θ ρ κ) H locs := hW
        refine k_top (y := nI ((if 1 = 17 then (κ 3 0) else numN (((θ 0))) 1))) rfl ?_
        refine k_top (y := nI (tnS (θ 0))) ((cn_1 _ _).trans e42) ?_
        exact jn11 () _ _ _ ⟨hW, lv_sub hl [0, 1] rfl⟩
      · refine lv_aload_n S.1 S.2.1 dL_isStepSo_25 rfl (lv_at hl 1 rfl) ?_
        refine lv_iconst (v := nI (1)) S.1 S.2.1 dL_isStepSo_26 rfl ?_
        refine k_VI2 (rest := []) S hK hl.1 hW (KFr.all hW hA) hN (mX2_count_k l D c a b θ ρ κ _ 1 T (by first | omega | exact hw | assumption | (show 1 < 18; omega) | rfl) ok (by first | omega | exact hT | assumption | (show T < 500000000; omega) | rfl)) gL_isStepSo_X2_count rfl pdX2_count ⟨⟨rfl, rfl⟩, Nat.le_of_ble_eq_true rfl, Nat.le_of_ble_eq_true rfl⟩ 0 2 rfl rfl rfl rfl (Nat.le_of_ble_eq_true rfl) dL_isStepSo_27 ⟨Nat.le_of_ble_eq_true rfl, Nat.le_of_ble_eq_true rfl⟩ (fun H locs hW => ?_)
        have hW : kw D A s.heap (wP c a b θ ρ κ) H locs := hW
        refine k_top (y := nI ((if 1 = 17 then (κ 3 0) else numN (((θ 0))) 1))) rfl ?_
        refine k_top (y := nI ((θ 0) 9 0)) (cn_1 _ _) ?_
        refine lv_iconst (v := nI (1)) S.1 S.2.1 dL_isStepSo_30 rfl ?_
        refine kn_iadd S dL_isStepSo_31 ?_
        refine lv_iconst (v := nI (3)) S.1 S.2.1 dL_isStepSo_32 rfl ?_
        refine kn_irem S dL_isStepSo_33 (by omega) (by omega) (by omega) ?_
        refine k_top (y := nI (tnS (θ 0))) (tn_1 c_12 (by omega)) ?_
        refine lv_goto (tgt := 42) S.1 S.2.1 dL_isStepSo_34 (by decide) ?_
        exact jn11 () _ _ _ ⟨hW, lv_sub hl [0, 1] rfl⟩
