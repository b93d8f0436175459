/-! ===== the law counts the pins ===== -/
abbrev rmL_ones : Room := { frames := 0, cells := 0, slots := 0, locals := 0 }
theorem pdL_ones : kPd yL_ones 1 := by decide +kernel
set_option maxHeartbeats 400000 in
set_option maxRecDepth 100000 in
theorem mL_ones (l : Launch) (D : va_G) (c : Nat → ClassId) (sz : Nat) (x : Nat) (hx : x < 4096) : MI l yL_ones wsL_ones rmL_ones D c sz [] [.int (nI (x))] (nI (ones x)) [] := by
  refine MI.of (cc := cL_ones) (maxL := 3) (ty := .int) (by decide) rfl (Nat.le_of_ble_eq_true rfl) rfl ?_
  intro P e s m below meth cd A Q ls hsz S hK hW hA hl hret
  have hl : lv_has ls 3 [(0, .int (nI (x)))] := hl
  refine lv_iconst (v := nI (0)) S.1 S.2.1 dL_ones_0 rfl ?_
  refine lv_istore_n (lv' := [(1, .int (nI (0))), (0, .int (nI (x)))]) S.1 S.2.1 dL_ones_1 rfl hl (by decide) rfl (fun ls hl => ?_)
  refine lv_iconst (v := nI (0)) S.1 S.2.1 dL_ones_2 rfl ?_
  refine lv_istore_n (lv' := [(2, .int (nI (0))), (1, .int (nI (0))), (0, .int (nI (x)))]) S.1 S.2.1 dL_ones_3 rfl hl (by decide) rfl (fun ls hl => ?_)
  refine k_loop (fun (zz : Nat) H lo ls => match zz with | k => kw D A s.heap [] H lo ∧ lv_has ls 3 [(0, .int (nI (x))), (1, .int (nI (ct (fun i => x.testBit i) k))), (2, .int (nI (k)))] ∧ k ≤ 12) (fun (zz : Nat) => match zz with | k => 12 - k) [] ?_ 0 _ _ _ ⟨hW, lv_sub hl [2, 1, 0] rfl, (by decide)⟩
  rintro k ih4 H locs ls ⟨hW, hl, hi4_0⟩
  refine lv_iload_n S.1 S.2.1 dL_ones_4 rfl (lv_at hl 2 rfl) ?_
  refine lv_bipush (v := nI (12)) S.1 S.2.1 dL_ones_5 rfl ?_
  refine kn_ge S (tgt := 24) dL_ones_7 (by decide) (by omega) (by omega) (fun c_7 => ?_) (fun c_7 => ?_)
  · have e9 : k = 12 := by omega
    subst e9
    refine lv_iload_n S.1 S.2.1 dL_ones_24 rfl (lv_at hl 1 rfl) ?_
    exact hret 25 _ _ _ _ _ dL_ones_25 hW (congrArg nI (ones12 hx).symm) (rfl)
  · refine lv_iload_n S.1 S.2.1 dL_ones_10 rfl (lv_at hl 1 rfl) ?_
    refine lv_iload_n S.1 S.2.1 dL_ones_11 rfl (lv_at hl 0 rfl) ?_
    refine lv_iload_n S.1 S.2.1 dL_ones_12 rfl (lv_at hl 2 rfl) ?_
    refine lv_ishr S.1 S.2.1 dL_ones_13 ?_
    refine lv_iconst (v := nI (1)) S.1 S.2.1 dL_ones_14 rfl ?_
    refine kn_tbit S (by omega) dL_ones_15 ?_
    refine kn_iadd S dL_ones_16 ?_
    refine k_top (y := nI (ct (fun i => x.testBit i) (k + 1))) (rfl) ?_
    refine lv_istore_n (lv' := [(1, .int (nI (ct (fun i => x.testBit i) (k + 1)))), (0, .int (nI (x))), (2, .int (nI (k)))]) S.1 S.2.1 dL_ones_17 rfl hl (by decide) rfl (fun ls hl => ?_)
    refine lv_iinc (v := nI (k + 1)) (lv' := [(2, .int (nI (k + 1))), (1, .int (nI (ct (fun i => x.testBit i) (k + 1)))), (0, .int (nI (x)))]) S.1 S.2.1 dL_ones_18 hl (k := 2) rfl (nI_add _ _) (by decide) rfl (fun ls hl => ?_)
    refine lv_goto (tgt := 4) S.1 S.2.1 dL_ones_21 (by decide) ?_
    exact ih4 (k + 1) _ _ _ ⟨hW, lv_sub hl [2, 1, 0] rfl, (by omega)⟩ (by show 12 - (k + 1) < 12 - k; omega)
abbrev rmL_arePinsSo : Room := { frames := 6, cells := 0, slots := 0, locals := 130 }
theorem pdL_arePinsSo : kPd yL_arePinsSo 4 := by decide +kernel
set_option maxHeartbeats 400000 in
set_option maxRecDepth 100000 in
theorem mL_arePinsSo (l : Launch) (D : va_G) (c : Nat → ClassId) (a : Nat → Nat) (b : Nat → Nat → Nat) (θ : Nat → Nat → Nat → Nat) (ρ κ : Nat → Nat → Nat) (sz : Nat) (t : Nat) (j : Nat) (p : Nat) (T : Nat) (ht : t < 3) (hj : j < 12) (hp : p < 32) (ok : okS (θ 0) T) (hT : T < 500000000) : MI2 l yL_arePinsSo wsL_arePinsSo rmL_arePinsSo D c sz (wP c a b θ ρ κ) [.ref (a 0), .int (nI (t)), .int (nI (j)), .int (nI (p))] (nI (true).toNat) (wP c a b θ ρ κ) := by
  refine MI2.of (cc := cL_arePinsSo) (maxL := 14) (ty := .boolean) (by decide) rfl (Nat.le_of_ble_eq_true rfl) (k_narB _) ?_
  intro P e s m below meth cd A Q ls hsz S hK hN hW hA hl hret
  have hl : lv_has ls 14 [(0, .ref (a 0)), (1, .int (nI (t))), (2, .int (nI (j))), (3, .int (nI (p)))] := hl
  have h63 : θ 0 6 3 ≤ 8 := ok.2.2.2.1.2.2.2.1
  have h64 : θ 0 6 4 ≤ 12 := ok.2.2.2.1.2.2.2.2
  have hpo := po_le (θ 0) t
  have hpo0 := po_le (θ 0) 0
  have hpo1 := po_le (θ 0) 1
  have hpo2 := po_le (θ 0) 2
  have hhi := hiS'_le (θ 0) t j p
  refine lv_iconst (v := nI (0)) S.1 S.2.1 dL_arePinsSo_0 rfl ?_
  refine lv_istore (lv' := [(4, .int (nI (0))), (0, .ref (a 0)), (1, .int (nI (t))), (2, .int (nI (j))), (3, .int (nI (p)))]) S.1 S.2.1 dL_arePinsSo_1 hl (by decide) rfl (fun ls hl => ?_)
  refine lv_iconst (v := nI (0)) S.1 S.2.1 dL_arePinsSo_3 rfl ?_
  refine lv_istore (lv' := [(5, .int (nI (0))), (4, .int (nI (0))), (0, .ref (a 0)), (1, .int (nI (t))), (2, .int (nI (j))), (3, .int (nI (p)))]) S.1 S.2.1 dL_arePinsSo_4 hl (by decide) rfl (fun ls hl => ?_)
  refine lv_iconst (v := nI (0)) S.1 S.2.1 dL_arePinsSo_6 rfl ?_
  refine lv_istore (lv' := [(6, .int (nI (0))), (5, .int (nI (0))), (4, .int (nI (0))), (0, .ref (a 0)), (1, .int (nI (t))), (2, .int (nI (j))), (3, .int (nI (p)))]) S.1 S.2.1 dL_arePinsSo_7 hl (by decide) rfl (fun ls hl => ?_)
  refine lv_iconst (v := nI (4294967295)) S.1 S.2.1 dL_arePinsSo_9 rfl ?_
  refine lv_istore (lv' := [(7, .int (nI (4294967295))), (6, .int (nI (0))), (5, .int (nI (0))), (4, .int (nI (0))), (0, .ref (a 0)), (1, .int (nI (t))), (2, .int (nI (j))), (3, .int (nI (p)))]) S.1 S.2.1 dL_arePinsSo_10 hl (by decide) rfl (fun ls hl => ?_)
  refine lv_iconst (v := nI (0)) S.1 S.2.1 dL_arePinsSo_12 rfl ?_
  refine lv_istore (lv' := [(8, .int (nI (0))), (7, .int (nI (4294967295))), (6, .int (nI (0))), (5, .int (nI (0))), (4, .int (nI (0))), (0, .ref (a 0)), (1, .int (nI (t))), (2, .int (nI (j))), (3, .int (nI (p)))]) S.1 S.2.1 dL_arePinsSo_13 hl (by decide) rfl (fun ls hl => ?_)
  refine lv_iconst (v := nI (1)) S.1 S.2.1 dL_arePinsSo_15 rfl ?_
  refine lv_istore (lv' := [(9, .int (nI (1))), (8, .int (nI (0))), (7, .int (nI (4294967295))), (6, .int (nI (0))), (5, .int (nI (0))), (4, .int (nI (0))), (0, .ref (a 0)), (1, .int (nI (t))), (2, .int (nI (j))), (3, .int (nI (p)))]) S.1 S.2.1 dL_arePinsSo_16 hl (by decide) rfl (fun ls hl => ?_)
  refine lv_iconst (v := nI (0)) S.1 S.2.1 dL_arePinsSo_18 rfl ?_
  refine lv_istore (lv' := [(10, .int (nI (0))), (9, .int (nI (1))), (8, .int (nI (0))), (7, .int (nI (4294967295))), (6, .int (nI (0))), (5, .int (nI (0))), (4, .int (nI (0))), (0, .ref (a 0)), (1, .int (nI (t))), (2, .int (nI (j))), (3, .int (nI (p)))]) S.1 S.2.1 dL_arePinsSo_19 hl (by decide) rfl (fun ls hl => ?_)
  refine k_loop (fun (zz : Nat) H lo ls => match zz with | k => kw D A s.heap (wP c a b θ ρ κ) H lo ∧ lv_has ls 14 [(0, .ref (a 0)), (1, .int (nI (t))), (2, .int (nI (j))), (3, .int (nI (p))), (4, .int (nI (poS (θ 0) t k))), (5, .int (nI (tuS (θ 0) t k))), (6, .int (nI ((fmS (θ 0) t k).2))), (7, .int (nI (fmS (θ 0) t k).1)), (8, .int (nI (ct (nrq (θ 0) t j p) k))), (9, .int (nI (1))), (10, .int (nI (k)))] ∧ k ≤ 32) (fun (zz : Nat) => match zz with | k => 32 - k) [] ?_ 0 _ _ _ ⟨hW, lv_sub hl [7, 8, 9, 10, 6, 5, 4, 3, 2, 1, 0] rfl, (by decide)⟩
  rintro k ih21 H locs ls ⟨hW, hl, hi21_0⟩
  refine lv_iload S.1 S.2.1 dL_arePinsSo_21 (lv_at hl 10 rfl) ?_
  refine lv_bipush (v := nI (32)) S.1 S.2.1 dL_arePinsSo_23 rfl ?_
  refine kn_ge S (tgt := 181) dL_arePinsSo_25 (by decide) (by omega) (by omega) (fun c_25 => ?_) (fun c_25 => ?_)
  · have e9 : k = 32 := by omega
    subst e9
    have hct := ct_le (nrq (θ 0) t j p) 32
    refine lv_aload_n S.1 S.2.1 dL_arePinsSo_181 rfl (lv_at hl 0 rfl) ?_
    refine lv_iload_n S.1 S.2.1 dL_arePinsSo_182 rfl (lv_at hl 1 rfl) ?_
    refine lv_iload_n S.1 S.2.1 dL_arePinsSo_183 rfl (lv_at hl 3 rfl) ?_
    refine k_VI2 (rest := []) S hK hl.1 hW (KFr.all hW hA) hN (mX2_chord_k l D c a b θ ρ κ _ t p (by first | omega | exact ht | assumption | (show t < 3; omega) | rfl) (by first | omega | exact hp | assumption | (show p < 32; omega) | rfl)) gL_arePinsSo_X2_chord rfl pdX2_chord ⟨⟨rfl, rfl⟩, Nat.le_of_ble_eq_true rfl, Nat.le_of_ble_eq_true rfl⟩ 0 2 rfl rfl rfl rfl (Nat.le_of_ble_eq_true rfl) dL_arePinsSo_184 ⟨Nat.le_of_ble_eq_true rfl, Nat.le_of_ble_eq_true rfl⟩ (fun H locs hW => ?_)
    have hW : kw D A s.heap (wP c a b θ ρ κ) H locs := hW
    refine k_top (y := nI (((θ 0)) 0 (t * 32 + p))) rfl ?_
    have h4p : θ 0 0 (t * 32 + p) < 4096 := ok.1 _ (by omega)
    have honp := ones_le (θ 0 0 (t * 32 + p))
    refine lv_iload_n S.1 S.2.1 dL_arePinsSo_187 rfl (lv_at hl 2 rfl) ?_
    refine k_join (fun (zz : Unit) H lo ls => match zz with | () => kw D A s.heap (wP c a b θ ρ κ) H lo ∧ lv_has ls 14 [(0, .ref (a 0)), (1, .int (nI (t))), (2, .int (nI (j))), (3, .int (nI (p))), (4, .int (nI (poS (θ 0) t 32))), (5, .int (nI (tuS (θ 0) t 32))), (6, .int (nI ((fmS (θ 0) t 32).2))), (7, .int (nI (fmS (θ 0) t 32).1)), (8, .int (nI (ct (nrq (θ 0) t j p) 32))), (9, .int (nI (1))), (10, .int (nI (32)))]) 200 (fun (zz : Unit) => match zz with | () => [.int (nI (hb (θ 0) t j p).toNat)]) ?_ ?_
    · rintro ⟨⟩ H locs ls ⟨hW, hl⟩
      refine lv_istore (lv' := [(10, .int (nI (hb (θ 0) t j p).toNat)), (0, .ref (a 0)), (1, .int (nI (t))), (2, .int (nI (j))), (3, .int (nI (p))), (4, .int (nI (poS (θ 0) t 32))), (5, .int (nI (tuS (θ 0) t 32))), (6, .int (nI ((fmS (θ 0) t 32).2))), (7, .int (nI (fmS (θ 0) t 32).1)), (8, .int (nI (ct (nrq (θ 0) t j p) 32))), (9, .int (nI (1)))]) S.1 S.2.1 dL_arePinsSo_200 hl (by decide) rfl (fun ls hl => ?_)
      refine k_join (fun (zz : Unit) H lo ls => match zz with | () => kw D A s.heap (wP c a b θ ρ κ) H lo ∧ lv_has ls 14 [(10, .int (nI (hb (θ 0) t j p).toNat)), (0, .ref (a 0)), (1, .int (nI (t))), (2, .int (nI (j))), (3, .int (nI (p))), (4, .int (nI (poS (θ 0) t 32))), (5, .int (nI (tuS (θ 0) t 32))), (6, .int (nI ((fmS (θ 0) t 32).2))), (7, .int (nI (fmS (θ 0) t 32).1)), (8, .int (nI (ct (nrq (θ 0) t j p) 32))), (9, .int (nI (1)))]) 243 (fun (zz : Unit) => match zz with | () => [.int (nI (hiS' (θ 0) t j p))]) ?_ ?_
      · rintro ⟨⟩ H locs ls ⟨hW, hl⟩
        refine lv_istore (lv' := [(11, .int (nI (hiS' (θ 0) t j p))), (10, .int (nI (hb (θ 0) t j p).toNat)), (0, .ref (a 0)), (1, .int (nI (t))), (2, .int (nI (j))), (3, .int (nI (p))), (4, .int (nI (poS (θ 0) t 32))), (5, .int (nI (tuS (θ 0) t 32))), (6, .int (nI ((fmS (θ 0) t 32).2))), (7, .int (nI (fmS (θ 0) t 32).1)), (8, .int (nI (ct (nrq (θ 0) t j p) 32))), (9, .int (nI (1)))]) S.1 S.2.1 dL_arePinsSo_243 hl (by decide) rfl (fun ls hl => ?_)
        refine lv_aload_n S.1 S.2.1 dL_arePinsSo_245 rfl (lv_at hl 2 rfl) ?_
        refine lv_iload_n S.1 S.2.1 dL_arePinsSo_246 rfl (lv_at hl 3 rfl) ?_
        refine lv_iload_n S.1 S.2.1 dL_arePinsSo_247 rfl (lv_at hl 4 rfl) ?_
        refine lv_iload_n S.1 S.2.1 dL_arePinsSo_248 rfl (lv_at hl 5 rfl) ?_
        refine k_VI2 (rest := []) S hK hl.1 hW (KFr.all hW hA) hN (mX2_next_k l D c a b θ ρ κ _ t j p (by first | omega | exact ht | assumption | (show t < 3; omega) | rfl) (by first | omega | exact hj | assumption | (show j < 12; omega) | rfl) (by first | omega | exact hp | assumption | (show p < 32; omega) | rfl)) gL_arePinsSo_X2_next rfl pdX2_next ⟨⟨rfl, rfl⟩, Nat.le_of_ble_eq_true rfl, Nat.le_of_ble_eq_true rfl⟩ 0 2 rfl rfl rfl rfl (Nat.le_of_ble_eq_true rfl) dL_arePinsSo_249 ⟨Nat.le_of_ble_eq_true rfl, Nat.le_of_ble_eq_true rfl⟩ (fun H locs hW => ?_)
        have hW : kw D A s.heap (wP c a b θ ρ κ) H locs := hW
        refine k_top (y := nI (nfS (((θ 0))) t j p 0 32)) rfl ?_
        refine lv_istore (lv' := [(12, .int (nI (nfS (((θ 0))) t j p 0 32))), (11, .int (nI (hiS' (θ 0) t j p))), (10, .int (nI (hb (θ 0) t j p).toNat)), (0, .ref (a 0)), (1, .int (nI (t))), (2, .int (nI (j))), (3, .int (nI (p))), (4, .int (nI (poS (θ 0) t 32))), (5, .int (nI (tuS (θ 0) t 32))), (6, .int (nI ((fmS (θ 0) t 32).2))), (7, .int (nI (fmS (θ 0) t 32).1)), (8, .int (nI (ct (nrq (θ 0) t j p) 32))), (9, .int (nI (1)))]) S.1 S.2.1 dL_arePinsSo_252 hl (by decide) rfl (fun ls hl => ?_)
        refine k_join (fun (zz : Unit) H lo ls => match zz with | () => kw D A s.heap (wP c a b θ ρ κ) H lo ∧ lv_has ls 14 [(12, .int (nI (nfS (((θ 0))) t j p 0 32))), (11, .int (nI (hiS' (θ 0) t j p))), (10, .int (nI (hb (θ 0) t j p).toNat)), (0, .ref (a 0)), (1, .int (nI (t))), (2, .int (nI (j))), (3, .int (nI (p))), (4, .int (nI (poS (θ 0) t 32))), (5, .int (nI (tuS (θ 0) t 32))), (6, .int (nI ((fmS (θ 0) t 32).2))), (7, .int (nI (fmS (θ 0) t 32).1)), (8, .int (nI (ct (nrq (θ 0) t j p) 32))), (9, .int (nI (1)))]) 297 (fun (zz : Unit) => match zz with | () => [.int (nI (1))]) ?_ ?_
        · rintro ⟨⟩ H locs ls ⟨hW, hl⟩
          refine lv_istore (lv' := [(9, .int (nI (1))), (12, .int (nI (nfS (((θ 0))) t j p 0 32))), (11, .int (nI (hiS' (θ 0) t j p))), (10, .int (nI (hb (θ 0) t j p).toNat)), (0, .ref (a 0)), (1, .int (nI (t))), (2, .int (nI (j))), (3, .int (nI (p))), (4, .int (nI (poS (θ 0) t 32))), (5, .int (nI (tuS (θ 0) t 32))), (6, .int (nI ((fmS (θ 0) t 32).2))), (7, .int (nI (fmS (θ 0) t 32).1)), (8, .int (nI (ct (nrq (θ 0) t j p) 32)))]) S.1 S.2.1 dL_arePinsSo_297 hl (by decide) rfl (fun ls hl => ?_)
          refine k_join (fun (zz : Unit) H lo ls => match zz with | () => kw D A s.heap (wP c a b θ ρ κ) H lo ∧ lv_has ls 14 [(9, .int (nI (1))), (12, .int (nI (nfS (((θ 0))) t j p 0 32))), (11, .int (nI (hiS' (θ 0) t j p))), (10, .int (nI (hb (θ 0) t j p).toNat)), (0, .ref (a 0)), (1, .int (nI (t))), (2, .int (nI (j))), (3, .int (nI (p))), (4, .int (nI (poS (θ 0) t 32))), (5, .int (nI (tuS (θ 0) t 32))), (6, .int (nI ((fmS (θ 0) t 32).2))), (7, .int (nI (fmS (θ 0) t 32).1)), (8, .int (nI (ct (nrq (θ 0) t j p) 32)))]) 352 (fun (zz : Unit) => match zz with | () => []) ?_ ?_
          · rintro ⟨⟩ H locs ls ⟨hW, hl⟩
            have hfm := fm_fl (θ 0) t 31 (by decide)
            have hfm2 := fm_b (θ 0) t 32 (by decide)
            have htu : tuS (θ 0) t 32 < 4096 := tuS_lt ok.1 ht 32 (by decide)
            have hfl := flS_le (θ 0) t 31
            have hof := ones_le (θ 0 0 (t * 32 + flS (θ 0) t 31))
            have hpb := po_pb ok.1 ht
            have hp3 := pa_3 (θ 0)
            refine lv_iload S.1 S.2.1 dL_arePinsSo_352 (lv_at hl 0 rfl) ?_
            refine kz_eq S (tgt := 457) dL_arePinsSo_354 (by decide) (by omega) (fun c_354 => ?_) (fun c_354 => ?_)
            · exact absurd c_354 (by decide)
            · refine lv_aload_n S.1 S.2.1 dL_arePinsSo_357 rfl (lv_at hl 4 rfl) ?_
              refine lv_iload_n S.1 S.2.1 dL_arePinsSo_358 rfl (lv_at hl 5 rfl) ?_
              refine lv_iload_n S.1 S.2.1 dL_arePinsSo_359 rfl (lv_at hl 6 rfl) ?_
              refine lv_iload_n S.1 S.2.1 dL_arePinsSo_360 rfl (lv_at hl 7 rfl) ?_
              refine k_VI2 (rest := []) S hK hl.1 hW (KFr.all hW hA) hN (mX2_whyNot_k l D c a b θ ρ κ _ t j p T (by first | omega | exact ht | assumption | (show t < 3; omega) | rfl) (by first | omega | exact hj | assumption | (show j < 12; omega) | rfl) (by first | omega | exact hp | assumption | (show p < 32; omega) | rfl) ok) gL_arePinsSo_X2_whyNot rfl pdX2_whyNot ⟨⟨rfl, rfl⟩, Nat.le_of_ble_eq_true rfl, Nat.le_of_ble_eq_true rfl⟩ 0 2 rfl rfl rfl rfl (Nat.le_of_ble_eq_true rfl) dL_arePinsSo_361 ⟨Nat.le_of_ble_eq_true rfl, Nat.le_of_ble_eq_true rfl⟩ (fun H locs hW => ?_)
              have hW : kw D A s.heap (wP c a b θ ρ κ) H locs := hW
              refine k_top (y := nI (hiS' (((θ 0))) t j p)) rfl ?_
              refine lv_iload S.1 S.2.1 dL_arePinsSo_364 (lv_at hl 2 rfl) ?_
              refine kn_ne S (tgt := 457) dL_arePinsSo_366 (by decide) (by omega) (by omega) (fun c_366 => ?_) (fun c_366 => ?_)
              · exact absurd rfl c_366
              · refine lv_aload_n S.1 S.2.1 dL_arePinsSo_369 rfl (lv_at hl 4 rfl) ?_
                refine lv_iload_n S.1 S.2.1 dL_arePinsSo_370 rfl (lv_at hl 5 rfl) ?_
                refine lv_iconst (v := nI (0)) S.1 S.2.1 dL_arePinsSo_371 rfl ?_
                refine k_VI2 (rest := []) S hK hl.1 hW (KFr.all hW hA) hN (mX2_tune_k l D c a b θ ρ κ _ t 0 T (by first | omega | exact ht | assumption | (show t < 3; omega) | rfl) (by first | omega | exact hw | assumption | (show 0 < 5; omega) | rfl) ok) gL_arePinsSo_X2_tune rfl pdX2_tune ⟨⟨rfl, rfl⟩, Nat.le_of_ble_eq_true rfl, Nat.le_of_ble_eq_true rfl⟩ 0 2 rfl rfl rfl rfl (Nat.le_of_ble_eq_true rfl) dL_arePinsSo_372 ⟨Nat.le_of_ble_eq_true rfl, Nat.le_of_ble_eq_true rfl⟩ (fun H locs hW => ?_)
                have hW : kw D A s.heap (wP c a b θ ρ κ) H locs := hW
                refine k_top (y := nI (numT (((θ 0))) t 0)) rfl ?_
                refine k_top (y := nI (poS (θ 0) t 32)) (congrArg nI (numT_0 _ _)) ?_
                refine lv_iload S.1 S.2.1 dL_arePinsSo_375 (lv_at hl 8 rfl) ?_
                refine kn_ne S (tgt := 457) dL_arePinsSo_377 (by decide) (by omega) (by omega) (fun c_377 => ?_) (fun c_377 => ?_)
                · exact absurd rfl c_377
                · refine lv_aload_n S.1 S.2.1 dL_arePinsSo_380 rfl (lv_at hl 4 rfl) ?_
                  refine lv_iload_n S.1 S.2.1 dL_arePinsSo_381 rfl (lv_at hl 5 rfl) ?_
                  refine lv_iconst (v := nI (1)) S.1 S.2.1 dL_arePinsSo_382 rfl ?_
                  refine k_VI2 (rest := []) S hK hl.1 hW (KFr.all hW hA) hN (mX2_tune_k l D c a b θ ρ κ _ t 1 T (by first | omega | exact ht | assumption | (show t < 3; omega) | rfl) (by first | omega | exact hw | assumption | (show 1 < 5; omega) | rfl) ok) gL_arePinsSo_X2_tune rfl pdX2_tune ⟨⟨rfl, rfl⟩, Nat.le_of_ble_eq_true rfl, Nat.le_of_ble_eq_true rfl⟩ 0 2 rfl rfl rfl rfl (Nat.le_of_ble_eq_true rfl) dL_arePinsSo_383 ⟨Nat.le_of_ble_eq_true rfl, Nat.le_of_ble_eq_true rfl⟩ (fun H locs hW => ?_)
                  have hW : kw D A s.heap (wP c a b θ ρ κ) H locs := hW
                  refine k_top (y := nI (numT (((θ 0))) t 1)) rfl ?_
                  refine k_top (y := nI (pbA (θ 0) t 12)) (congrArg nI (numT_1 _ _)) ?_
                  refine lv_iload S.1 S.2.1 dL_arePinsSo_386 (lv_at hl 8 rfl) ?_
                  refine kn_ne S (tgt := 457) dL_arePinsSo_388 (by decide) (by omega) (by omega) (fun c_388 => ?_) (fun c_388 => ?_)
                  · exact absurd hpb c_388
                  · refine lv_aload_n S.1 S.2.1 dL_arePinsSo_391 rfl (lv_at hl 4 rfl) ?_
                    refine lv_iload_n S.1 S.2.1 dL_arePinsSo_392 rfl (lv_at hl 5 rfl) ?_
                    refine lv_iconst (v := nI (2)) S.1 S.2.1 dL_arePinsSo_393 rfl ?_
                    refine k_VI2 (rest := []) S hK hl.1 hW (KFr.all hW hA) hN (mX2_tune_k l D c a b θ ρ κ _ t 2 T (by first | omega | exact ht | assumption | (show t < 3; omega) | rfl) (by first | omega | exact hw | assumption | (show 2 < 5; omega) | rfl) ok) gL_arePinsSo_X2_tune rfl pdX2_tune ⟨⟨rfl, rfl⟩, Nat.le_of_ble_eq_true rfl, Nat.le_of_ble_eq_true rfl⟩ 0 2 rfl rfl rfl rfl (Nat.le_of_ble_eq_true rfl) dL_arePinsSo_394 ⟨Nat.le_of_ble_eq_true rfl, Nat.le_of_ble_eq_true rfl⟩ (fun H locs hW => ?_)
                    have hW : kw D A s.heap (wP c a b θ ρ κ) H locs := hW
                    refine k_top (y := nI (numT (((θ 0))) t 2)) rfl ?_
                    refine k_top (y := nI (ones ((θ 0) 0 (t * 32 + flS (θ 0) t 31)))) (congrArg nI (numT_2 _ _)) ?_
                    refine lv_iload S.1 S.2.1 dL_arePinsSo_397 (lv_at hl 10 rfl) ?_
                    refine kn_ne S (tgt := 457) dL_arePinsSo_399 (by decide) (by omega) (by omega) (fun c_399 => ?_) (fun c_399 => ?_)
                    · exact absurd (congrArg Prod.snd hfm).symm c_399
                    · refine lv_aload_n S.1 S.2.1 dL_arePinsSo_402 rfl (lv_at hl 4 rfl) ?_
                      refine lv_iload_n S.1 S.2.1 dL_arePinsSo_403 rfl (lv_at hl 5 rfl) ?_
                      refine lv_iconst (v := nI (3)) S.1 S.2.1 dL_arePinsSo_404 rfl ?_
                      refine k_VI2 (rest := []) S hK hl.1 hW (KFr.all hW hA) hN (mX2_tune_k l D c a b θ ρ κ _ t 3 T (by first | omega | exact ht | assumption | (show t < 3; omega) | rfl) (by first | omega | exact hw | assumption | (show 3 < 5; omega) | rfl) ok) gL_arePinsSo_X2_tune rfl pdX2_tune ⟨⟨rfl, rfl⟩, Nat.le_of_ble_eq_true rfl, Nat.le_of_ble_eq_true rfl⟩ 0 2 rfl rfl rfl rfl (Nat.le_of_ble_eq_true rfl) dL_arePinsSo_405 ⟨Nat.le_of_ble_eq_true rfl, Nat.le_of_ble_eq_true rfl⟩ (fun H locs hW => ?_)
                      have hW : kw D A s.heap (wP c a b θ ρ κ) H locs := hW
                      refine k_top (y := nI (numT (((θ 0))) t 3)) rfl ?_
                      refine k_top (y := nI (flS (θ 0) t 31)) (congrArg nI (numT_3 _ _)) ?_
                      refine lv_iload S.1 S.2.1 dL_arePinsSo_408 (lv_at hl 11 rfl) ?_
                      refine lv_icmp_ne (tgt := 457) S.1 S.2.1 dL_arePinsSo_410 (by decide) (fun c_410 => ?_) (fun c_410 => ?_)
                      · exact absurd (congrArg (fun z : Nat × Nat => nI z.1) hfm).symm c_410
                      · refine lv_aload_n S.1 S.2.1 dL_arePinsSo_413 rfl (lv_at hl 4 rfl) ?_
                        refine lv_iload_n S.1 S.2.1 dL_arePinsSo_414 rfl (lv_at hl 5 rfl) ?_
                        refine lv_iconst (v := nI (4)) S.1 S.2.1 dL_arePinsSo_415 rfl ?_
                        refine k_VI2 (rest := []) S hK hl.1 hW (KFr.all hW hA) hN (mX2_tune_k l D c a b θ ρ κ _ t 4 T (by first | omega | exact ht | assumption | (show t < 3; omega) | rfl) (by first | omega | exact hw | assumption | (show 4 < 5; omega) | rfl) ok) gL_arePinsSo_X2_tune rfl pdX2_tune ⟨⟨rfl, rfl⟩, Nat.le_of_ble_eq_true rfl, Nat.le_of_ble_eq_true rfl⟩ 0 2 rfl rfl rfl rfl (Nat.le_of_ble_eq_true rfl) dL_arePinsSo_416 ⟨Nat.le_of_ble_eq_true rfl, Nat.le_of_ble_eq_true rfl⟩ (fun H locs hW => ?_)
                        have hW : kw D A s.heap (wP c a b θ ρ κ) H locs := hW
                        refine k_top (y := nI (numT (((θ 0))) t 4)) rfl ?_
                        refine k_top (y := nI (tuS (θ 0) t 32)) (congrArg nI (numT_4 _ _)) ?_
                        refine lv_iload S.1 S.2.1 dL_arePinsSo_419 (lv_at hl 9 rfl) ?_
                        refine kn_ne S (tgt := 457) dL_arePinsSo_421 (by decide) (by omega) (by omega) (fun c_421 => ?_) (fun c_421 => ?_)
                        · exact absurd rfl c_421
                        · refine lv_aload_n S.1 S.2.1 dL_arePinsSo_424 rfl (lv_at hl 4 rfl) ?_
                          refine lv_iconst (v := nI (0)) S.1 S.2.1 dL_arePinsSo_425 rfl ?_
                          refine lv_iconst (v := nI (0)) S.1 S.2.1 dL_arePinsSo_426 rfl ?_
                          refine k_VI2 (rest := []) S hK hl.1 hW (KFr.all hW hA) hN (mX2_tune_k l D c a b θ ρ κ _ 0 0 T (by first | omega | exact ht | assumption | (show 0 < 3; omega) | rfl) (by first | omega | exact hw | assumption | (show 0 < 5; omega) | rfl) ok) gL_arePinsSo_X2_tune rfl pdX2_tune ⟨⟨rfl, rfl⟩, Nat.le_of_ble_eq_true rfl, Nat.le_of_ble_eq_true rfl⟩ 0 2 rfl rfl rfl rfl (Nat.le_of_ble_eq_true rfl) dL_arePinsSo_427 ⟨Nat.le_of_ble_eq_true rfl, Nat.le_of_ble_eq_true rfl⟩ (fun H locs hW => ?_)
                          have hW : kw D A s.heap (wP c a b θ ρ κ) H locs := hW
                          refine k_top (y := nI (numT (((θ 0))) 0 0)) rfl ?_
                          refine k_top (y := nI (poS (θ 0) 0 32)) (congrArg nI (numT_0 _ _)) ?_
                          refine lv_aload_n S.1 S.2.1 dL_arePinsSo_430 rfl (lv_at hl 4 rfl) ?_
                          refine lv_iconst (v := nI (1)) S.1 S.2.1 dL_arePinsSo_431 rfl ?_
                          refine lv_iconst (v := nI (0)) S.1 S.2.1 dL_arePinsSo_432 rfl ?_
                          refine k_VI2 (rest := [.int (nI (poS (θ 0) 0 32))]) S hK hl.1 hW (KFr.all hW hA) hN (mX2_tune_k l D c a b θ ρ κ _ 1 0 T (by first | omega | exact ht | assumption | (show 1 < 3; omega) | rfl) (by first | omega | exact hw | assumption | (show 0 < 5; omega) | rfl) ok) gL_arePinsSo_X2_tune rfl pdX2_tune ⟨⟨rfl, rfl⟩, Nat.le_of_ble_eq_true rfl, Nat.le_of_ble_eq_true rfl⟩ 0 2 rfl rfl rfl rfl (Nat.le_of_ble_eq_true rfl) dL_arePinsSo_433 ⟨Nat.le_of_ble_eq_true rfl, Nat.le_of_ble_eq_true rfl⟩ (fun H locs hW => ?_)
                          have hW : kw D A s.heap (wP c a b θ ρ κ) H locs := hW
                          refine k_top (y := nI (numT (((θ 0))) 1 0)) rfl ?_
                          refine k_top (y := nI (poS (θ 0) 1 32)) (congrArg nI (numT_0 _ _)) ?_
                          refine kn_iadd S dL_arePinsSo_436 ?_
                          refine lv_aload_n S.1 S.2.1 dL_arePinsSo_437 rfl (lv_at hl 4 rfl) ?_
                          refine lv_iconst (v := nI (2)) S.1 S.2.1 dL_arePinsSo_438 rfl ?_
                          refine lv_iconst (v := nI (0)) S.1 S.2.1 dL_arePinsSo_439 rfl ?_
                          refine k_VI2 (rest := [.int (nI (poS (θ 0) 0 32 + poS (θ 0) 1 32))]) S hK hl.1 hW (KFr.all hW hA) hN (mX2_tune_k l D c a b θ ρ κ _ 2 0 T (by first | omega | exact ht | assumption | (show 2 < 3; omega) | rfl) (by first | omega | exact hw | assumption | (show 0 < 5; omega) | rfl) ok) gL_arePinsSo_X2_tune rfl pdX2_tune ⟨⟨rfl, rfl⟩, Nat.le_of_ble_eq_true rfl, Nat.le_of_ble_eq_true rfl⟩ 0 2 rfl rfl rfl rfl (Nat.le_of_ble_eq_true rfl) dL_arePinsSo_440 ⟨Nat.le_of_ble_eq_true rfl, Nat.le_of_ble_eq_true rfl⟩ (fun H locs hW => ?_)
                          have hW : kw D A s.heap (wP c a b θ ρ κ) H locs := hW
                          refine k_top (y := nI (numT (((θ 0))) 2 0)) rfl ?_
                          refine k_top (y := nI (poS (θ 0) 2 32)) (congrArg nI (numT_0 _ _)) ?_
                          refine kn_iadd S dL_arePinsSo_443 ?_
                          refine lv_aload_n S.1 S.2.1 dL_arePinsSo_444 rfl (lv_at hl 4 rfl) ?_
                          refine lv_bipush (v := nI (10)) S.1 S.2.1 dL_arePinsSo_445 rfl ?_
                          refine k_VI2 (rest := [.int (nI (poS (θ 0) 0 32 + poS (θ 0) 1 32 + poS (θ 0) 2 32))]) S hK hl.1 hW (KFr.all hW hA) hN (mX2_count_k l D c a b θ ρ κ _ 10 T (by first | omega | exact hw | assumption | (show 10 < 18; omega) | rfl) ok (by first | omega | exact hT | assumption | (show T < 500000000; omega) | rfl)) gL_arePinsSo_X2_count rfl pdX2_count ⟨⟨rfl, rfl⟩, Nat.le_of_ble_eq_true rfl, Nat.le_of_ble_eq_true rfl⟩ 0 2 rfl rfl rfl rfl (Nat.le_of_ble_eq_true rfl) dL_arePinsSo_447 ⟨Nat.le_of_ble_eq_true rfl, Nat.le_of_ble_eq_true rfl⟩ (fun H locs hW => ?_)
                          have hW : kw D A s.heap (wP c a b θ ρ κ) H locs := hW
                          refine k_top (y := nI ((if 10 = 17 then (κ 3 0) else numN (((θ 0))) 10))) rfl ?_
                          refine k_top (y := nI (paS ((θ 0)) 3)) (cn_10 _ _) ?_
                          refine kn_ne S (tgt := 457) dL_arePinsSo_450 (by decide) (by omega) (by omega) (fun c_450 => ?_) (fun c_450 => ?_)
                          · exact absurd hp3 c_450
                          · refine lv_iconst (v := nI (1)) S.1 S.2.1 dL_arePinsSo_453 rfl ?_
                            refine lv_goto (tgt := 458) S.1 S.2.1 dL_arePinsSo_454 (by decide) ?_
                            exact hret 458 _ _ _ _ _ dL_arePinsSo_458 hW (rfl) (rfl)
          · intro jn299
            refine lv_iload_n S.1 S.2.1 dL_arePinsSo_299 rfl (lv_at hl 7 rfl) ?_
            refine lv_istore (lv' := [(13, .int (nI (p))), (9, .int (nI (1))), (12, .int (nI (nfS (((θ 0))) t j p 0 32))), (11, .int (nI (hiS' (θ 0) t j p))), (10, .int (nI (hb (θ 0) t j p).toNat)), (0, .ref (a 0)), (1, .int (nI (t))), (2, .int (nI (j))), (3, .int (nI (p))), (4, .int (nI (poS (θ 0) t 32))), (5, .int (nI (tuS (θ 0) t 32))), (6, .int (nI ((fmS (θ 0) t 32).2))), (7, .int (nI (fmS (θ 0) t 32).1)), (8, .int (nI (ct (nrq (θ 0) t j p) 32)))]) S.1 S.2.1 dL_arePinsSo_300 hl (by decide) rfl (fun ls hl => ?_)
            refine k_loop (fun (zz : Nat) H lo ls => match zz with | i => kw D A s.heap (wP c a b θ ρ κ) H lo ∧ lv_has ls 14 [(0, .ref (a 0)), (1, .int (nI (t))), (2, .int (nI (j))), (3, .int (nI (p))), (4, .int (nI (poS (θ 0) t 32))), (5, .int (nI (tuS (θ 0) t 32))), (6, .int (nI ((fmS (θ 0) t 32).2))), (7, .int (nI (fmS (θ 0) t 32).1)), (8, .int (nI (ct (nrq (θ 0) t j p) 32))), (9, .int (nI (1))), (10, .int (nI (hb (θ 0) t j p).toNat)), (11, .int (nI (hiS' (θ 0) t j p))), (12, .int (nI (nfS (θ 0) t j p 0 32))), (13, .int (nI (p + i)))] ∧ i ≤ 31 ∧ ∀ q, q < i → hb (θ 0) t j ((p + q) % 32) = false) (fun (zz : Nat) => match zz with | i => 32 - i) [] ?_ 0 _ _ _ ⟨hW, lv_sub hl [5, 6, 7, 8, 9, 10, 11, 12, 13, 1, 4, 3, 2, 0] rfl, (by decide), (fun q hq => absurd hq (Nat.not_lt_zero q))⟩
            rintro i ih302 H locs ls ⟨hW, hl, hi302_0, hi302_1⟩
            refine lv_iload S.1 S.2.1 dL_arePinsSo_302 (lv_at hl 12 rfl) ?_
            refine lv_if_lt (tgt := 352) S.1 S.2.1 dL_arePinsSo_304 (by decide) (fun c_304 => ?_) (fun c_304 => ?_)
            · exact jn299 () _ _ _ ⟨hW, lv_sub hl [9, 12, 11, 10, 0, 1, 2, 3, 4, 5, 6, 7, 8] rfl⟩
            · refine lv_iload S.1 S.2.1 dL_arePinsSo_307 (lv_at hl 13 rfl) ?_
              refine lv_bipush (v := nI (32)) S.1 S.2.1 dL_arePinsSo_309 rfl ?_
              refine kn_irem S dL_arePinsSo_311 (by omega) (by omega) (by omega) ?_
              refine lv_iload S.1 S.2.1 dL_arePinsSo_312 (lv_at hl 12 rfl) ?_
              refine lv_icmp_eq (tgt := 352) S.1 S.2.1 dL_arePinsSo_314 (by decide) (fun c_314 => ?_) (fun c_314 => ?_)
              · exact jn299 () _ _ _ ⟨hW, lv_sub hl [9, 12, 11, 10, 0, 1, 2, 3, 4, 5, 6, 7, 8] rfl⟩
              · obtain ⟨hi1, hi4⟩ := nf_go hp c_304 hi302_1 c_314
                have hi2 : i + 1 ≤ 31 := by omega
                have hi3 : ∀ q, q < i + 1 → hb (θ 0) t j ((p + q) % 32) = false := fun q hq => by
                  rcases Nat.lt_or_eq_of_le (Nat.le_of_lt_succ hq) with z | z
                  · exact hi302_1 q z
                  · rw [z]; exact hi4
                refine lv_iload S.1 S.2.1 dL_arePinsSo_317 (lv_at hl 9 rfl) ?_
                refine kz_eq S (tgt := 343) dL_arePinsSo_319 (by decide) (by omega) (fun c_319 => ?_) (fun c_319 => ?_)
                · exact absurd c_319 (by decide)
                · refine lv_aload_n S.1 S.2.1 dL_arePinsSo_322 rfl (lv_at hl 0 rfl) ?_
                  refine lv_iload_n S.1 S.2.1 dL_arePinsSo_323 rfl (lv_at hl 1 rfl) ?_
                  refine lv_iload S.1 S.2.1 dL_arePinsSo_324 (lv_at hl 13 rfl) ?_
                  refine lv_bipush (v := nI (32)) S.1 S.2.1 dL_arePinsSo_326 rfl ?_
                  refine kn_irem S dL_arePinsSo_328 (by omega) (by omega) (by omega) ?_
                  refine k_VI2 (rest := []) S hK hl.1 hW (KFr.all hW hA) hN (mX2_chord_k l D c a b θ ρ κ _ t ((p + i) % 32) (by first | omega | exact ht | assumption | (show t < 3; omega) | rfl) (by first | omega | exact hp | assumption | (show ((p + i) % 32) < 32; omega) | rfl)) gL_arePinsSo_X2_chord rfl pdX2_chord ⟨⟨rfl, rfl⟩, Nat.le_of_ble_eq_true rfl, Nat.le_of_ble_eq_true rfl⟩ 0 2 rfl rfl rfl rfl (Nat.le_of_ble_eq_true rfl) dL_arePinsSo_329 ⟨Nat.le_of_ble_eq_true rfl, Nat.le_of_ble_eq_true rfl⟩ (fun H locs hW => ?_)
                  have hW : kw D A s.heap (wP c a b θ ρ κ) H locs := hW
                  refine k_top (y := nI (((θ 0)) 0 (t * 32 + ((p + i) % 32)))) rfl ?_
                  refine lv_iload_n S.1 S.2.1 dL_arePinsSo_332 rfl (lv_at hl 2 rfl) ?_
                  refine lv_ishr S.1 S.2.1 dL_arePinsSo_333 ?_
                  refine lv_iconst (v := nI (1)) S.1 S.2.1 dL_arePinsSo_334 rfl ?_
                  refine kn_tbit S (by omega) dL_arePinsSo_335 ?_
                  refine kb_ne S (tgt := 343) dL_arePinsSo_336 (by decide) (fun c_336 => ?_) (fun c_336 => ?_)
                  · exact absurd (hi4.symm.trans c_336) (by decide)
                  · refine lv_iconst (v := nI (1)) S.1 S.2.1 dL_arePinsSo_339 rfl ?_
                    refine lv_goto (tgt := 344) S.1 S.2.1 dL_arePinsSo_340 (by decide) ?_
                    refine lv_istore (lv' := [(9, .int (nI (1))), (0, .ref (a 0)), (1, .int (nI (t))), (2, .int (nI (j))), (3, .int (nI (p))), (4, .int (nI (poS (θ 0) t 32))), (5, .int (nI (tuS (θ 0) t 32))), (6, .int (nI ((fmS (θ 0) t 32).2))), (7, .int (nI (fmS (θ 0) t 32).1)), (8, .int (nI (ct (nrq (θ 0) t j p) 32))), (10, .int (nI (hb (θ 0) t j p).toNat)), (11, .int (nI (hiS' (θ 0) t j p))), (12, .int (nI (nfS (θ 0) t j p 0 32))), (13, .int (nI (p + i)))]) S.1 S.2.1 dL_arePinsSo_344 hl (by decide) rfl (fun ls hl => ?_)
                    refine lv_iinc (v := nI (p + i + 1)) (lv' := [(13, .int (nI (p + i + 1))), (9, .int (nI (1))), (0, .ref (a 0)), (1, .int (nI (t))), (2, .int (nI (j))), (3, .int (nI (p))), (4, .int (nI (poS (θ 0) t 32))), (5, .int (nI (tuS (θ 0) t 32))), (6, .int (nI ((fmS (θ 0) t 32).2))), (7, .int (nI (fmS (θ 0) t 32).1)), (8, .int (nI (ct (nrq (θ 0) t j p) 32))), (10, .int (nI (hb (θ 0) t j p).toNat)), (11, .int (nI (hiS' (θ 0) t j p))), (12, .int (nI (nfS (θ 0) t j p 0 32)))]) S.1 S.2.1 dL_arePinsSo_346 hl (k := 13) rfl (nI_add _ _) (by decide) rfl (fun ls hl => ?_)
                    refine lv_goto (tgt := 302) S.1 S.2.1 dL_arePinsSo_349 (by decide) ?_
                    exact ih302 (i + 1) _ _ _ ⟨hW, lv_sub hl [2, 3, 4, 5, 6, 7, 8, 9, 10, 1, 11, 12, 13, 0] rfl, hi2, hi3⟩ (by show 32 - (i + 1) < 32 - i; omega)
        · intro jn254
          refine lv_iload S.1 S.2.1 dL_arePinsSo_254 (lv_at hl 0 rfl) ?_
          refine lv_iconst (v := nI (4294967295)) S.1 S.2.1 dL_arePinsSo_256 rfl ?_
          refine kv_ne S (tgt := 277) dL_arePinsSo_257 (by decide) (nf_lt hp) (by decide) (fun c_257 => ?_) (fun c_257 => ?_)
          · have hnf := nf_ok hp c_257
            refine lv_aload_n S.1 S.2.1 dL_arePinsSo_277 rfl (lv_at hl 3 rfl) ?_
            refine lv_iload_n S.1 S.2.1 dL_arePinsSo_278 rfl (lv_at hl 4 rfl) ?_
            refine lv_iload S.1 S.2.1 dL_arePinsSo_279 (lv_at hl 0 rfl) ?_
            refine k_VI2 (rest := []) S hK hl.1 hW (KFr.all hW hA) hN (mX2_chord_k l D c a b θ ρ κ _ t (nfS (((θ 0))) t j p 0 32) (by first | omega | exact ht | assumption | (show t < 3; omega) | rfl) (by first | omega | exact hp | assumption | (show (nfS (((θ 0))) t j p 0 32) < 32; omega) | rfl)) gL_arePinsSo_X2_chord rfl pdX2_chord ⟨⟨rfl, rfl⟩, Nat.le_of_ble_eq_true rfl, Nat.le_of_ble_eq_true rfl⟩ 0 2 rfl rfl rfl rfl (Nat.le_of_ble_eq_true rfl) dL_arePinsSo_281 ⟨Nat.le_of_ble_eq_true rfl, Nat.le_of_ble_eq_true rfl⟩ (fun H locs hW => ?_)
            have hW : kw D A s.heap (wP c a b θ ρ κ) H locs := hW
            refine k_top (y := nI (((θ 0)) 0 (t * 32 + (nfS (((θ 0))) t j p 0 32)))) rfl ?_
            refine lv_iload_n S.1 S.2.1 dL_arePinsSo_284 rfl (lv_at hl 5 rfl) ?_
            refine lv_ishr S.1 S.2.1 dL_arePinsSo_285 ?_
            refine lv_iconst (v := nI (1)) S.1 S.2.1 dL_arePinsSo_286 rfl ?_
            refine kn_tbit S (by omega) dL_arePinsSo_287 ?_
            refine lv_iconst (v := nI (1)) S.1 S.2.1 dL_arePinsSo_288 rfl ?_
            refine kn_ne S (tgt := 296) dL_arePinsSo_289 (by decide) (bt_lt _) (by omega) (fun c_289 => ?_) (fun c_289 => ?_)
            · exact absurd (congrArg Bool.toNat hnf.2) c_289
            · refine lv_iconst (v := nI (1)) S.1 S.2.1 dL_arePinsSo_292 rfl ?_
              refine lv_goto (tgt := 297) S.1 S.2.1 dL_arePinsSo_293 (by decide) ?_
              exact jn254 () _ _ _ ⟨hW, lv_sub hl [0, 1, 2, 3, 4, 5, 6, 7, 8, 9, 10, 11, 12] rfl⟩
          · refine lv_iload S.1 S.2.1 dL_arePinsSo_260 (lv_at hl 8 rfl) ?_
            refine lv_iload_n S.1 S.2.1 dL_arePinsSo_262 rfl (lv_at hl 5 rfl) ?_
            refine lv_ishr S.1 S.2.1 dL_arePinsSo_263 ?_
            refine lv_iconst (v := nI (1)) S.1 S.2.1 dL_arePinsSo_264 rfl ?_
            refine kn_tbit S (by omega) dL_arePinsSo_265 ?_
            refine kb_ne S (tgt := 273) dL_arePinsSo_266 (by decide) (fun c_266 => ?_) (fun c_266 => ?_)
            · exact absurd ((nf_tu hp c_257).symm.trans c_266) (by decide)
            · refine lv_iconst (v := nI (1)) S.1 S.2.1 dL_arePinsSo_269 rfl ?_
              refine lv_goto (tgt := 297) S.1 S.2.1 dL_arePinsSo_270 (by decide) ?_
              exact jn254 () _ _ _ ⟨hW, lv_sub hl [0, 1, 2, 3, 4, 5, 6, 7, 8, 9, 10, 11, 12] rfl⟩
      · intro jn202
        refine lv_iload S.1 S.2.1 dL_arePinsSo_202 (lv_at hl 0 rfl) ?_
        refine kb_eq S (tgt := 211) dL_arePinsSo_204 (by decide) (fun c_204 => ?_) (fun c_204 => ?_)
        · refine lv_iload S.1 S.2.1 dL_arePinsSo_211 (lv_at hl 9 rfl) ?_
          refine kz_le S (tgt := 220) dL_arePinsSo_213 (by decide) (by omega) (fun c_213 => ?_) (fun c_213 => ?_)
          · refine lv_aload_n S.1 S.2.1 dL_arePinsSo_220 rfl (lv_at hl 1 rfl) ?_
            refine lv_iload_n S.1 S.2.1 dL_arePinsSo_221 rfl (lv_at hl 2 rfl) ?_
            refine lv_iload_n S.1 S.2.1 dL_arePinsSo_222 rfl (lv_at hl 4 rfl) ?_
            refine k_VI2 (rest := []) S hK hl.1 hW (KFr.all hW hA) hN (mX2_chord_k l D c a b θ ρ κ _ t p (by first | omega | exact ht | assumption | (show t < 3; omega) | rfl) (by first | omega | exact hp | assumption | (show p < 32; omega) | rfl)) gL_arePinsSo_X2_chord rfl pdX2_chord ⟨⟨rfl, rfl⟩, Nat.le_of_ble_eq_true rfl, Nat.le_of_ble_eq_true rfl⟩ 0 2 rfl rfl rfl rfl (Nat.le_of_ble_eq_true rfl) dL_arePinsSo_223 ⟨Nat.le_of_ble_eq_true rfl, Nat.le_of_ble_eq_true rfl⟩ (fun H locs hW => ?_)
            have hW : kw D A s.heap (wP c a b θ ρ κ) H locs := hW
            refine k_top (y := nI (((θ 0)) 0 (t * 32 + p))) rfl ?_
            refine k_SI (rest := []) S hK hl.1 hW (KFr.nil hW hA) (mL_ones l D c  _ (((θ 0)) 0 (t * 32 + p)) (by first | omega | exact hx | assumption | (show (((θ 0)) 0 (t * 32 + p)) < 4096; omega) | rfl)) gL_arePinsSo_L_ones rfl pdL_ones ⟨⟨rfl, rfl⟩, Nat.le_of_ble_eq_true rfl, Nat.le_of_ble_eq_true rfl⟩ rfl (Nat.le_of_ble_eq_true rfl) dL_arePinsSo_226 ⟨Nat.le_of_ble_eq_true rfl, Nat.le_of_ble_eq_true rfl⟩ (fun H locs hW => ?_)
            have hW : kw D A s.heap (wP c a b θ ρ κ) H locs := hW
            refine lv_aload_n S.1 S.2.1 dL_arePinsSo_229 rfl (lv_at hl 1 rfl) ?_
            refine lv_bipush (v := nI (16)) S.1 S.2.1 dL_arePinsSo_230 rfl ?_
            refine k_VI2 (rest := [.int (nI (ones (((θ 0)) 0 (t * 32 + p))))]) S hK hl.1 hW (KFr.all hW hA) hN (mX2_count_k l D c a b θ ρ κ _ 16 T (by first | omega | exact hw | assumption | (show 16 < 18; omega) | rfl) ok (by first | omega | exact hT | assumption | (show T < 500000000; omega) | rfl)) gL_arePinsSo_X2_count rfl pdX2_count ⟨⟨rfl, rfl⟩, Nat.le_of_ble_eq_true rfl, Nat.le_of_ble_eq_true rfl⟩ 0 2 rfl rfl rfl rfl (Nat.le_of_ble_eq_true rfl) dL_arePinsSo_232 ⟨Nat.le_of_ble_eq_true rfl, Nat.le_of_ble_eq_true rfl⟩ (fun H locs hW => ?_)
            have hW : kw D A s.heap (wP c a b θ ρ κ) H locs := hW
            refine k_top (y := nI ((if 16 = 17 then (κ 3 0) else numN (((θ 0))) 16))) rfl ?_
            refine k_top (y := nI ((θ 0) 6 4)) (cn_16 _ _) ?_
            refine kn_lt S (tgt := 242) dL_arePinsSo_235 (by decide) (by omega) (by omega) (fun c_235 => ?_) (fun c_235 => ?_)
            · refine lv_iconst (v := nI (0)) S.1 S.2.1 dL_arePinsSo_242 rfl ?_
              refine k_top (y := nI (hiS' (θ 0) t j p)) (hi_4 hp h63 c_204 c_213 c_235) ?_
              exact jn202 () _ _ _ ⟨hW, lv_sub hl [0, 1, 2, 3, 4, 5, 6, 7, 8, 9, 10] rfl⟩
            · refine lv_iconst (v := nI (3)) S.1 S.2.1 dL_arePinsSo_238 rfl ?_
              refine k_top (y := nI (hiS' (θ 0) t j p)) (hi_3 hp h63 c_204 c_213 c_235) ?_
              refine lv_goto (tgt := 243) S.1 S.2.1 dL_arePinsSo_239 (by decide) ?_
              exact jn202 () _ _ _ ⟨hW, lv_sub hl [0, 1, 2, 3, 4, 5, 6, 7, 8, 9, 10] rfl⟩
          · refine lv_iconst (v := nI (2)) S.1 S.2.1 dL_arePinsSo_216 rfl ?_
            refine k_top (y := nI (hiS' (θ 0) t j p)) (hi_2 hp h63 c_204 c_213) ?_
            refine lv_goto (tgt := 243) S.1 S.2.1 dL_arePinsSo_217 (by decide) ?_
            exact jn202 () _ _ _ ⟨hW, lv_sub hl [0, 1, 2, 3, 4, 5, 6, 7, 8, 9, 10] rfl⟩
        · refine lv_iconst (v := nI (1)) S.1 S.2.1 dL_arePinsSo_207 rfl ?_
          refine k_top (y := nI (hiS' (θ 0) t j p)) (hi_1 c_204) ?_
          refine lv_goto (tgt := 243) S.1 S.2.1 dL_arePinsSo_208 (by decide) ?_
          exact jn202 () _ _ _ ⟨hW, lv_sub hl [0, 1, 2, 3, 4, 5, 6, 7, 8, 9, 10] rfl⟩
    · intro jn188
      refine lv_ishr S.1 S.2.1 dL_arePinsSo_188 ?_
      refine lv_iconst (v := nI (1)) S.1 S.2.1 dL_arePinsSo_189 rfl ?_
      refine kn_tbit S (by omega) dL_arePinsSo_190 ?_
      refine lv_iconst (v := nI (1)) S.1 S.2.1 dL_arePinsSo_191 rfl ?_
      refine kn_ne S (tgt := 199) dL_arePinsSo_192 (by decide) (bt_lt _) (by omega) (fun c_192 => ?_) (fun c_192 => ?_)
      · refine lv_iconst (v := nI (0)) S.1 S.2.1 dL_arePinsSo_199 rfl ?_
        refine k_top (y := nI ((hb (θ 0) t j p).toNat)) (congrArg (fun b : Bool => nI b.toNat) (show false = hb (θ 0) t j p from (bt_0 c_192).symm)) ?_
        exact jn188 () _ _ _ ⟨hW, lv_sub hl [0, 1, 2, 3, 4, 5, 6, 7, 8, 9, 10] rfl⟩
      · refine lv_iconst (v := nI (1)) S.1 S.2.1 dL_arePinsSo_195 rfl ?_
        refine k_top (y := nI ((hb (θ 0) t j p).toNat)) (congrArg (fun b : Bool => nI b.toNat) (show true = hb (θ 0) t j p from (bt_1 c_192).symm)) ?_
        refine lv_goto (tgt := 200) S.1 S.2.1 dL_arePinsSo_196 (by decide) ?_
        exact jn188 () _ _ _ ⟨hW, lv_sub hl [0, 1, 2, 3, 4, 5, 6, 7, 8, 9, 10] rfl⟩
  · refine lv_aload_n S.1 S.2.1 dL_arePinsSo_28 rfl (lv_at hl 0 rfl) ?_
    refine lv_iload_n S.1 S.2.1 dL_arePinsSo_29 rfl (lv_at hl 1 rfl) ?_
    refine lv_iload S.1 S.2.1 dL_arePinsSo_30 (lv_at hl 10 rfl) ?_
    refine k_VI2 (rest := []) S hK hl.1 hW (KFr.all hW hA) hN (mX2_chord_k l D c a b θ ρ κ _ t k (by first | omega | exact ht | assumption | (show t < 3; omega) | rfl) (by first | omega | exact hp | assumption | (show k < 32; omega) | rfl)) gL_arePinsSo_X2_chord rfl pdX2_chord ⟨⟨rfl, rfl⟩, Nat.le_of_ble_eq_true rfl, Nat.le_of_ble_eq_true rfl⟩ 0 2 rfl rfl rfl rfl (Nat.le_of_ble_eq_true rfl) dL_arePinsSo_32 ⟨Nat.le_of_ble_eq_true rfl, Nat.le_of_ble_eq_true rfl⟩ (fun H locs hW => ?_)
    have hW : kw D A s.heap (wP c a b θ ρ κ) H locs := hW
    refine k_top (y := nI (((θ 0)) 0 (t * 32 + k))) rfl ?_
    refine lv_istore (lv' := [(11, .int (nI (((θ 0)) 0 (t * 32 + k)))), (0, .ref (a 0)), (1, .int (nI (t))), (2, .int (nI (j))), (3, .int (nI (p))), (4, .int (nI (poS (θ 0) t k))), (5, .int (nI (tuS (θ 0) t k))), (6, .int (nI ((fmS (θ 0) t k).2))), (7, .int (nI (fmS (θ 0) t k).1)), (8, .int (nI (ct (nrq (θ 0) t j p) k))), (9, .int (nI (1))), (10, .int (nI (k)))]) S.1 S.2.1 dL_arePinsSo_35 hl (by decide) rfl (fun ls hl => ?_)
    have h4096 : θ 0 0 (t * 32 + k) < 4096 := ok.1 _ (by omega)
    have hon := ones_le (θ 0 0 (t * 32 + k))
    have hfm := fm_b (θ 0) t k (by omega)
    have hdf := df_le hp c_25
    have hfr := fr_le hp c_25
    refine lv_iload S.1 S.2.1 dL_arePinsSo_37 (lv_at hl 5 rfl) ?_
    refine lv_iload S.1 S.2.1 dL_arePinsSo_39 (lv_at hl 0 rfl) ?_
    refine k_SI (rest := [.int (nI (poS (θ 0) t k))]) S hK hl.1 hW (KFr.nil hW hA) (mL_ones l D c  _ (((θ 0)) 0 (t * 32 + k)) (by first | omega | exact hx | assumption | (show (((θ 0)) 0 (t * 32 + k)) < 4096; omega) | rfl)) gL_arePinsSo_L_ones rfl pdL_ones ⟨⟨rfl, rfl⟩, Nat.le_of_ble_eq_true rfl, Nat.le_of_ble_eq_true rfl⟩ rfl (Nat.le_of_ble_eq_true rfl) dL_arePinsSo_41 ⟨Nat.le_of_ble_eq_true rfl, Nat.le_of_ble_eq_true rfl⟩ (fun H locs hW => ?_)
    have hW : kw D A s.heap (wP c a b θ ρ κ) H locs := hW
    refine kn_iadd S dL_arePinsSo_44 ?_
    refine k_top (y := nI (poS (θ 0) t (k + 1))) (rfl) ?_
    refine lv_istore (lv' := [(4, .int (nI (poS (θ 0) t (k + 1)))), (11, .int (nI (((θ 0)) 0 (t * 32 + k)))), (0, .ref (a 0)), (1, .int (nI (t))), (2, .int (nI (j))), (3, .int (nI (p))), (5, .int (nI (tuS (θ 0) t k))), (6, .int (nI ((fmS (θ 0) t k).2))), (7, .int (nI (fmS (θ 0) t k).1)), (8, .int (nI (ct (nrq (θ 0) t j p) k))), (9, .int (nI (1))), (10, .int (nI (k)))]) S.1 S.2.1 dL_arePinsSo_45 hl (by decide) rfl (fun ls hl => ?_)
    refine lv_iload S.1 S.2.1 dL_arePinsSo_47 (lv_at hl 6 rfl) ?_
    refine lv_iload S.1 S.2.1 dL_arePinsSo_49 (lv_at hl 1 rfl) ?_
    refine kn_ior S dL_arePinsSo_51 ?_
    refine k_top (y := nI (tuS (θ 0) t (k + 1))) (rfl) ?_
    refine lv_istore (lv' := [(5, .int (nI (tuS (θ 0) t (k + 1)))), (4, .int (nI (poS (θ 0) t (k + 1)))), (11, .int (nI (((θ 0)) 0 (t * 32 + k)))), (0, .ref (a 0)), (1, .int (nI (t))), (2, .int (nI (j))), (3, .int (nI (p))), (6, .int (nI ((fmS (θ 0) t k).2))), (7, .int (nI (fmS (θ 0) t k).1)), (8, .int (nI (ct (nrq (θ 0) t j p) k))), (9, .int (nI (1))), (10, .int (nI (k)))]) S.1 S.2.1 dL_arePinsSo_52 hl (by decide) rfl (fun ls hl => ?_)
    refine k_join (fun (zz : Unit) H lo ls => match zz with | () => kw D A s.heap (wP c a b θ ρ κ) H lo ∧ lv_has ls 14 [(5, .int (nI (tuS (θ 0) t (k + 1)))), (4, .int (nI (poS (θ 0) t (k + 1)))), (11, .int (nI (((θ 0)) 0 (t * 32 + k)))), (0, .ref (a 0)), (1, .int (nI (t))), (2, .int (nI (j))), (3, .int (nI (p))), (6, .int (nI ((fmS (θ 0) t k).2))), (7, .int (nI (fmS (θ 0) t k).1)), (8, .int (nI (ct (nrq (θ 0) t j p) k))), (9, .int (nI (1))), (10, .int (nI (k)))]) 76 (fun (zz : Unit) => match zz with | () => [.int (nI (fmS (θ 0) t (k + 1)).1)]) ?_ ?_
    · rintro ⟨⟩ H locs ls ⟨hW, hl⟩
      refine lv_istore (lv' := [(7, .int (nI (fmS (θ 0) t (k + 1)).1)), (5, .int (nI (tuS (θ 0) t (k + 1)))), (4, .int (nI (poS (θ 0) t (k + 1)))), (11, .int (nI (((θ 0)) 0 (t * 32 + k)))), (0, .ref (a 0)), (1, .int (nI (t))), (2, .int (nI (j))), (3, .int (nI (p))), (6, .int (nI ((fmS (θ 0) t k).2))), (8, .int (nI (ct (nrq (θ 0) t j p) k))), (9, .int (nI (1))), (10, .int (nI (k)))]) S.1 S.2.1 dL_arePinsSo_76 hl (by decide) rfl (fun ls hl => ?_)
      refine k_join (fun (zz : Unit) H lo ls => match zz with | () => kw D A s.heap (wP c a b θ ρ κ) H lo ∧ lv_has ls 14 [(7, .int (nI (fmS (θ 0) t (k + 1)).1)), (5, .int (nI (tuS (θ 0) t (k + 1)))), (4, .int (nI (poS (θ 0) t (k + 1)))), (11, .int (nI (((θ 0)) 0 (t * 32 + k)))), (0, .ref (a 0)), (1, .int (nI (t))), (2, .int (nI (j))), (3, .int (nI (p))), (6, .int (nI ((fmS (θ 0) t k).2))), (8, .int (nI (ct (nrq (θ 0) t j p) k))), (9, .int (nI (1))), (10, .int (nI (k)))]) 98 (fun (zz : Unit) => match zz with | () => [.int (nI ((fmS (θ 0) t (k + 1)).2))]) ?_ ?_
      · rintro ⟨⟩ H locs ls ⟨hW, hl⟩
        refine lv_istore (lv' := [(6, .int (nI ((fmS (θ 0) t (k + 1)).2))), (7, .int (nI (fmS (θ 0) t (k + 1)).1)), (5, .int (nI (tuS (θ 0) t (k + 1)))), (4, .int (nI (poS (θ 0) t (k + 1)))), (11, .int (nI (((θ 0)) 0 (t * 32 + k)))), (0, .ref (a 0)), (1, .int (nI (t))), (2, .int (nI (j))), (3, .int (nI (p))), (8, .int (nI (ct (nrq (θ 0) t j p) k))), (9, .int (nI (1))), (10, .int (nI (k)))]) S.1 S.2.1 dL_arePinsSo_98 hl (by decide) rfl (fun ls hl => ?_)
        refine k_join (fun (zz : Unit) H lo ls => match zz with | () => kw D A s.heap (wP c a b θ ρ κ) H lo ∧ lv_has ls 14 [(6, .int (nI ((fmS (θ 0) t (k + 1)).2))), (7, .int (nI (fmS (θ 0) t (k + 1)).1)), (5, .int (nI (tuS (θ 0) t (k + 1)))), (4, .int (nI (poS (θ 0) t (k + 1)))), (11, .int (nI (((θ 0)) 0 (t * 32 + k)))), (0, .ref (a 0)), (1, .int (nI (t))), (2, .int (nI (j))), (3, .int (nI (p))), (8, .int (nI (ct (nrq (θ 0) t j p) k))), (9, .int (nI (1))), (10, .int (nI (k)))]) 117 (fun (zz : Unit) => match zz with | () => [.int (nI (df p k))]) ?_ ?_
        · rintro ⟨⟩ H locs ls ⟨hW, hl⟩
          refine lv_istore (lv' := [(12, .int (nI (df p k))), (6, .int (nI ((fmS (θ 0) t (k + 1)).2))), (7, .int (nI (fmS (θ 0) t (k + 1)).1)), (5, .int (nI (tuS (θ 0) t (k + 1)))), (4, .int (nI (poS (θ 0) t (k + 1)))), (11, .int (nI (((θ 0)) 0 (t * 32 + k)))), (0, .ref (a 0)), (1, .int (nI (t))), (2, .int (nI (j))), (3, .int (nI (p))), (8, .int (nI (ct (nrq (θ 0) t j p) k))), (9, .int (nI (1))), (10, .int (nI (k)))]) S.1 S.2.1 dL_arePinsSo_117 hl (by decide) rfl (fun ls hl => ?_)
          refine k_join (fun (zz : Unit) H lo ls => match zz with | () => kw D A s.heap (wP c a b θ ρ κ) H lo ∧ lv_has ls 14 [(12, .int (nI (df p k))), (6, .int (nI ((fmS (θ 0) t (k + 1)).2))), (7, .int (nI (fmS (θ 0) t (k + 1)).1)), (5, .int (nI (tuS (θ 0) t (k + 1)))), (4, .int (nI (poS (θ 0) t (k + 1)))), (11, .int (nI (((θ 0)) 0 (t * 32 + k)))), (0, .ref (a 0)), (1, .int (nI (t))), (2, .int (nI (j))), (3, .int (nI (p))), (8, .int (nI (ct (nrq (θ 0) t j p) k))), (9, .int (nI (1))), (10, .int (nI (k)))]) 136 (fun (zz : Unit) => match zz with | () => [.int (nI (fr p k))]) ?_ ?_
          · rintro ⟨⟩ H locs ls ⟨hW, hl⟩
            refine lv_istore (lv' := [(12, .int (nI (fr p k))), (6, .int (nI ((fmS (θ 0) t (k + 1)).2))), (7, .int (nI (fmS (θ 0) t (k + 1)).1)), (5, .int (nI (tuS (θ 0) t (k + 1)))), (4, .int (nI (poS (θ 0) t (k + 1)))), (11, .int (nI (((θ 0)) 0 (t * 32 + k)))), (0, .ref (a 0)), (1, .int (nI (t))), (2, .int (nI (j))), (3, .int (nI (p))), (8, .int (nI (ct (nrq (θ 0) t j p) k))), (9, .int (nI (1))), (10, .int (nI (k)))]) S.1 S.2.1 dL_arePinsSo_136 hl (by decide) rfl (fun ls hl => ?_)
            refine lv_iload S.1 S.2.1 dL_arePinsSo_138 (lv_at hl 10 rfl) ?_
            refine k_join (fun (zz : Unit) H lo ls => match zz with | () => kw D A s.heap (wP c a b θ ρ κ) H lo ∧ lv_has ls 14 [(12, .int (nI (fr p k))), (6, .int (nI ((fmS (θ 0) t (k + 1)).2))), (7, .int (nI (fmS (θ 0) t (k + 1)).1)), (5, .int (nI (tuS (θ 0) t (k + 1)))), (4, .int (nI (poS (θ 0) t (k + 1)))), (11, .int (nI (((θ 0)) 0 (t * 32 + k)))), (0, .ref (a 0)), (1, .int (nI (t))), (2, .int (nI (j))), (3, .int (nI (p))), (8, .int (nI (ct (nrq (θ 0) t j p) k))), (9, .int (nI (1))), (10, .int (nI (k)))]) 172 (fun (zz : Unit) => match zz with | () => [.int (nI (nrq (θ 0) t j p k).toNat), .int (nI (ct (nrq (θ 0) t j p) k))]) ?_ ?_
            · rintro ⟨⟩ H locs ls ⟨hW, hl⟩
              refine kn_iadd S dL_arePinsSo_172 ?_
              refine k_top (y := nI (ct (nrq (θ 0) t j p) (k + 1))) (rfl) ?_
              refine lv_istore (lv' := [(8, .int (nI (ct (nrq (θ 0) t j p) (k + 1)))), (12, .int (nI (fr p k))), (6, .int (nI ((fmS (θ 0) t (k + 1)).2))), (7, .int (nI (fmS (θ 0) t (k + 1)).1)), (5, .int (nI (tuS (θ 0) t (k + 1)))), (4, .int (nI (poS (θ 0) t (k + 1)))), (11, .int (nI (((θ 0)) 0 (t * 32 + k)))), (0, .ref (a 0)), (1, .int (nI (t))), (2, .int (nI (j))), (3, .int (nI (p))), (9, .int (nI (1))), (10, .int (nI (k)))]) S.1 S.2.1 dL_arePinsSo_173 hl (by decide) rfl (fun ls hl => ?_)
              refine lv_iinc (v := nI (k + 1)) (lv' := [(10, .int (nI (k + 1))), (8, .int (nI (ct (nrq (θ 0) t j p) (k + 1)))), (12, .int (nI (fr p k))), (6, .int (nI ((fmS (θ 0) t (k + 1)).2))), (7, .int (nI (fmS (θ 0) t (k + 1)).1)), (5, .int (nI (tuS (θ 0) t (k + 1)))), (4, .int (nI (poS (θ 0) t (k + 1)))), (11, .int (nI (((θ 0)) 0 (t * 32 + k)))), (0, .ref (a 0)), (1, .int (nI (t))), (2, .int (nI (j))), (3, .int (nI (p))), (9, .int (nI (1)))]) S.1 S.2.1 dL_arePinsSo_175 hl (k := 12) rfl (nI_add _ _) (by decide) rfl (fun ls hl => ?_)
              refine lv_goto (tgt := 21) S.1 S.2.1 dL_arePinsSo_178 (by decide) ?_
              exact ih21 (k + 1) _ _ _ ⟨hW, lv_sub hl [8, 9, 10, 11, 6, 5, 3, 4, 1, 12, 0] rfl, (by omega)⟩ (by show 32 - (k + 1) < 32 - k; omega)
            · intro jn140
              refine lv_iload S.1 S.2.1 dL_arePinsSo_140 (lv_at hl 12 rfl) ?_
              refine lv_iload_n S.1 S.2.1 dL_arePinsSo_142 rfl (lv_at hl 9 rfl) ?_
              refine kn_eq S (tgt := 171) dL_arePinsSo_143 (by decide) (by omega) (by omega) (fun c_143 => ?_) (fun c_143 => ?_)
              · have e171 : nI 0 = nI (nrq (θ 0) t j p k).toNat := nrq_1 c_143
                refine lv_iconst (v := nI (0)) S.1 S.2.1 dL_arePinsSo_171 rfl ?_
                refine k_top (y := nI ((nrq (θ 0) t j p k).toNat)) (e171) ?_
                exact jn140 () _ _ _ ⟨hW, lv_sub hl [0, 1, 2, 3, 4, 5, 6, 7, 8, 9, 10, 11, 12] rfl⟩
              · refine lv_iload S.1 S.2.1 dL_arePinsSo_146 (lv_at hl 0 rfl) ?_
                refine lv_aload_n S.1 S.2.1 dL_arePinsSo_148 rfl (lv_at hl 6 rfl) ?_
                refine lv_bipush (v := nI (15)) S.1 S.2.1 dL_arePinsSo_149 rfl ?_
                refine k_VI2 (rest := [.int (nI (fr p k)), .int (nI (ct (nrq (θ 0) t j p) k))]) S hK hl.1 hW (KFr.all hW hA) hN (mX2_count_k l D c a b θ ρ κ _ 15 T (by first | omega | exact hw | assumption | (show 15 < 18; omega) | rfl) ok (by first | omega | exact hT | assumption | (show T < 500000000; omega) | rfl)) gL_arePinsSo_X2_count rfl pdX2_count ⟨⟨rfl, rfl⟩, Nat.le_of_ble_eq_true rfl, Nat.le_of_ble_eq_true rfl⟩ 0 2 rfl rfl rfl rfl (Nat.le_of_ble_eq_true rfl) dL_arePinsSo_151 ⟨Nat.le_of_ble_eq_true rfl, Nat.le_of_ble_eq_true rfl⟩ (fun H locs hW => ?_)
                have hW : kw D A s.heap (wP c a b θ ρ κ) H locs := hW
                refine k_top (y := nI ((if 15 = 17 then (κ 3 0) else numN (((θ 0))) 15))) rfl ?_
                refine k_top (y := nI ((θ 0) 6 3)) (cn_15 _ _) ?_
                refine kn_ge S (tgt := 171) dL_arePinsSo_154 (by decide) (by omega) (by omega) (fun c_154 => ?_) (fun c_154 => ?_)
                · have e171 : nI 0 = nI (nrq (θ 0) t j p k).toNat := nrq_2 c_154
                  refine lv_iconst (v := nI (0)) S.1 S.2.1 dL_arePinsSo_171 rfl ?_
                  refine k_top (y := nI ((nrq (θ 0) t j p k).toNat)) (e171) ?_
                  exact jn140 () _ _ _ ⟨hW, lv_sub hl [0, 1, 2, 3, 4, 5, 6, 7, 8, 9, 10, 11, 12] rfl⟩
                · refine lv_iload S.1 S.2.1 dL_arePinsSo_157 (lv_at hl 5 rfl) ?_
                  refine lv_iload_n S.1 S.2.1 dL_arePinsSo_159 rfl (lv_at hl 8 rfl) ?_
                  refine lv_ishr S.1 S.2.1 dL_arePinsSo_160 ?_
                  refine lv_iconst (v := nI (1)) S.1 S.2.1 dL_arePinsSo_161 rfl ?_
                  refine kn_tbit S (by omega) dL_arePinsSo_162 ?_
                  refine lv_iconst (v := nI (1)) S.1 S.2.1 dL_arePinsSo_163 rfl ?_
                  refine kn_ne S (tgt := 171) dL_arePinsSo_164 (by decide) (bt_lt _) (by omega) (fun c_164 => ?_) (fun c_164 => ?_)
                  · have e171 : nI 0 = nI (nrq (θ 0) t j p k).toNat := nrq_3 (bt_0 c_164)
                    refine lv_iconst (v := nI (0)) S.1 S.2.1 dL_arePinsSo_171 rfl ?_
                    refine k_top (y := nI ((nrq (θ 0) t j p k).toNat)) (e171) ?_
                    exact jn140 () _ _ _ ⟨hW, lv_sub hl [0, 1, 2, 3, 4, 5, 6, 7, 8, 9, 10, 11, 12] rfl⟩
                  · refine lv_iconst (v := nI (1)) S.1 S.2.1 dL_arePinsSo_167 rfl ?_
                    refine k_top (y := nI ((nrq (θ 0) t j p k).toNat)) (nrq_4 c_143 c_154 (bt_1 c_164)) ?_
                    refine lv_goto (tgt := 172) S.1 S.2.1 dL_arePinsSo_168 (by decide) ?_
                    exact jn140 () _ _ _ ⟨hW, lv_sub hl [0, 1, 2, 3, 4, 5, 6, 7, 8, 9, 10, 11, 12] rfl⟩
          · intro jn119
            refine lv_iload S.1 S.2.1 dL_arePinsSo_119 (lv_at hl 0 rfl) ?_
            refine lv_bipush (v := nI (16)) S.1 S.2.1 dL_arePinsSo_121 rfl ?_
            refine kn_le S (tgt := 134) dL_arePinsSo_123 (by decide) (by omega) (by omega) (fun c_123 => ?_) (fun c_123 => ?_)
            · refine lv_iload S.1 S.2.1 dL_arePinsSo_134 (lv_at hl 0 rfl) ?_
              refine k_top (y := nI (fr p k)) (fr_2 c_123) ?_
              exact jn119 () _ _ _ ⟨hW, lv_sub hl [0, 1, 2, 3, 4, 5, 6, 7, 8, 9, 10, 11, 12] rfl⟩
            · refine lv_bipush (v := nI (32)) S.1 S.2.1 dL_arePinsSo_126 rfl ?_
              refine lv_iload S.1 S.2.1 dL_arePinsSo_128 (lv_at hl 0 rfl) ?_
              refine kn_isub S dL_arePinsSo_130 (by omega) ?_
              refine k_top (y := nI (fr p k)) (fr_1 c_123) ?_
              refine lv_goto (tgt := 136) S.1 S.2.1 dL_arePinsSo_131 (by decide) ?_
              exact jn119 () _ _ _ ⟨hW, lv_sub hl [0, 1, 2, 3, 4, 5, 6, 7, 8, 9, 10, 11, 12] rfl⟩
        · intro jn100
          refine lv_iload S.1 S.2.1 dL_arePinsSo_100 (lv_at hl 11 rfl) ?_
          refine lv_iload_n S.1 S.2.1 dL_arePinsSo_102 rfl (lv_at hl 8 rfl) ?_
          refine kn_le S (tgt := 113) dL_arePinsSo_103 (by decide) (by omega) (by omega) (fun c_103 => ?_) (fun c_103 => ?_)
          · refine lv_iload_n S.1 S.2.1 dL_arePinsSo_113 rfl (lv_at hl 8 rfl) ?_
            refine lv_iload S.1 S.2.1 dL_arePinsSo_114 (lv_at hl 11 rfl) ?_
            refine kn_isub S dL_arePinsSo_116 (by omega) ?_
            refine k_top (y := nI (df p k)) (df_2 c_103) ?_
            exact jn100 () _ _ _ ⟨hW, lv_sub hl [0, 1, 2, 3, 4, 5, 6, 7, 8, 9, 10, 11] rfl⟩
          · refine lv_iload S.1 S.2.1 dL_arePinsSo_106 (lv_at hl 11 rfl) ?_
            refine lv_iload_n S.1 S.2.1 dL_arePinsSo_108 rfl (lv_at hl 8 rfl) ?_
            refine kn_isub S dL_arePinsSo_109 (by omega) ?_
            refine k_top (y := nI (df p k)) (df_1 c_103) ?_
            refine lv_goto (tgt := 117) S.1 S.2.1 dL_arePinsSo_110 (by decide) ?_
            exact jn100 () _ _ _ ⟨hW, lv_sub hl [0, 1, 2, 3, 4, 5, 6, 7, 8, 9, 10, 11] rfl⟩
      · intro jn78
        refine lv_iload S.1 S.2.1 dL_arePinsSo_78 (lv_at hl 3 rfl) ?_
        refine k_SI (rest := []) S hK hl.1 hW (KFr.nil hW hA) (mL_ones l D c  _ (((θ 0)) 0 (t * 32 + k)) (by first | omega | exact hx | assumption | (show (((θ 0)) 0 (t * 32 + k)) < 4096; omega) | rfl)) gL_arePinsSo_L_ones rfl pdL_ones ⟨⟨rfl, rfl⟩, Nat.le_of_ble_eq_true rfl, Nat.le_of_ble_eq_true rfl⟩ rfl (Nat.le_of_ble_eq_true rfl) dL_arePinsSo_80 ⟨Nat.le_of_ble_eq_true rfl, Nat.le_of_ble_eq_true rfl⟩ (fun H locs hW => ?_)
        have hW : kw D A s.heap (wP c a b θ ρ κ) H locs := hW
        refine lv_iload S.1 S.2.1 dL_arePinsSo_83 (lv_at hl 8 rfl) ?_
        refine kn_le S (tgt := 96) dL_arePinsSo_85 (by decide) (by omega) (by omega) (fun c_85 => ?_) (fun c_85 => ?_)
        · refine lv_iload S.1 S.2.1 dL_arePinsSo_96 (lv_at hl 8 rfl) ?_
          refine k_top (y := nI ((fmS (θ 0) t (k + 1)).2)) (fm_4 c_85) ?_
          exact jn78 () _ _ _ ⟨hW, lv_sub hl [0, 1, 2, 3, 4, 5, 6, 7, 8, 9, 10, 11] rfl⟩
        · refine lv_iload S.1 S.2.1 dL_arePinsSo_88 (lv_at hl 3 rfl) ?_
          refine k_SI (rest := []) S hK hl.1 hW (KFr.nil hW hA) (mL_ones l D c  _ (((θ 0)) 0 (t * 32 + k)) (by first | omega | exact hx | assumption | (show (((θ 0)) 0 (t * 32 + k)) < 4096; omega) | rfl)) gL_arePinsSo_L_ones rfl pdL_ones ⟨⟨rfl, rfl⟩, Nat.le_of_ble_eq_true rfl, Nat.le_of_ble_eq_true rfl⟩ rfl (Nat.le_of_ble_eq_true rfl) dL_arePinsSo_90 ⟨Nat.le_of_ble_eq_true rfl, Nat.le_of_ble_eq_true rfl⟩ (fun H locs hW => ?_)
          have hW : kw D A s.heap (wP c a b θ ρ κ) H locs := hW
          refine k_top (y := nI ((fmS (θ 0) t (k + 1)).2)) (fm_3 c_85) ?_
          refine lv_goto (tgt := 98) S.1 S.2.1 dL_arePinsSo_93 (by decide) ?_
          exact jn78 () _ _ _ ⟨hW, lv_sub hl [0, 1, 2, 3, 4, 5, 6, 7, 8, 9, 10, 11] rfl⟩
    · intro jn54
      refine lv_iload S.1 S.2.1 dL_arePinsSo_54 (lv_at hl 2 rfl) ?_
      refine k_SI (rest := []) S hK hl.1 hW (KFr.nil hW hA) (mL_ones l D c  _ (((θ 0)) 0 (t * 32 + k)) (by first | omega | exact hx | assumption | (show (((θ 0)) 0 (t * 32 + k)) < 4096; omega) | rfl)) gL_arePinsSo_L_ones rfl pdL_ones ⟨⟨rfl, rfl⟩, Nat.le_of_ble_eq_true rfl, Nat.le_of_ble_eq_true rfl⟩ rfl (Nat.le_of_ble_eq_true rfl) dL_arePinsSo_56 ⟨Nat.le_of_ble_eq_true rfl, Nat.le_of_ble_eq_true rfl⟩ (fun H locs hW => ?_)
      have hW : kw D A s.heap (wP c a b θ ρ κ) H locs := hW
      refine lv_iload S.1 S.2.1 dL_arePinsSo_59 (lv_at hl 7 rfl) ?_
      refine kn_gt S (tgt := 69) dL_arePinsSo_61 (by decide) (by omega) (by omega) (fun c_61 => ?_) (fun c_61 => ?_)
      · have e76 := fm_1 (Or.inl c_61)
        refine lv_iload S.1 S.2.1 dL_arePinsSo_69 (lv_at hl 11 rfl) ?_
        refine k_top (y := nI (fmS (θ 0) t (k + 1)).1) (e76) ?_
        refine lv_goto (tgt := 76) S.1 S.2.1 dL_arePinsSo_71 (by decide) ?_
        exact jn54 () _ _ _ ⟨hW, lv_sub hl [0, 1, 2, 3, 4, 5, 6, 7, 8, 9, 10, 11] rfl⟩
      · refine lv_iload S.1 S.2.1 dL_arePinsSo_64 (lv_at hl 8 rfl) ?_
        refine lv_if_ge (tgt := 74) S.1 S.2.1 dL_arePinsSo_66 (by decide) (fun c_66 => ?_) (fun c_66 => ?_)
        · have e76 := fm_2 c_61 (fm_nn c_66)
          refine lv_iload S.1 S.2.1 dL_arePinsSo_74 (lv_at hl 8 rfl) ?_
          refine k_top (y := nI (fmS (θ 0) t (k + 1)).1) (e76) ?_
          exact jn54 () _ _ _ ⟨hW, lv_sub hl [0, 1, 2, 3, 4, 5, 6, 7, 8, 9, 10, 11] rfl⟩
        · have e76 := fm_1 (Or.inr (fm_neg hi21_0 c_66))
          refine lv_iload S.1 S.2.1 dL_arePinsSo_69 (lv_at hl 11 rfl) ?_
          refine k_top (y := nI (fmS (θ 0) t (k + 1)).1) (e76) ?_
          refine lv_goto (tgt := 76) S.1 S.2.1 dL_arePinsSo_71 (by decide) ?_
          exact jn54 () _ _ _ ⟨hW, lv_sub hl [0, 1, 2, 3, 4, 5, 6, 7, 8, 9, 10, 11] rfl⟩
