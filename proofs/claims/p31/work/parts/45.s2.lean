abbrev rmX1_putRange : Room := { frames := 3, cells := 0, slots := 0, locals := 69 }
abbrev rmX1_takeRange : Room := { frames := 2, cells := 0, slots := 0, locals := 45 }
theorem pdX1_takeRange : kPd yX1_takeRange 4 := by decide +kernel
set_option maxHeartbeats 400000 in
set_option maxRecDepth 100000 in
theorem mX1_takeRange (l : Launch) (D : va_G) (c : Nat → ClassId) (a : Nat → Nat) (τ : Nat → Nat → Nat) (sz : Nat) (t : Nat) (j : Nat) (x : Nat) (y : Nat) (T : Nat) (ht : t < 3) (hj : j < 12) (hxy : x ≤ y) (hy : y < 32) (ok : okS τ T) : MI l yX1_takeRange wsX1_takeRange rmX1_takeRange D c sz (wS c a τ) [.ref (a 0), .int (nI (t)), .int (nI (j)), .int (nI (x)), .int (nI (y))] (nI ((tkC τ t j x (y + 1 - x)).1)) (wS c a (pu τ 0 ((tkC τ t j x (y + 1 - x)).2))) := by
  refine MI.of (cc := cX1_takeRange) (maxL := 7) (ty := .int) (by decide) rfl (Nat.le_of_ble_eq_true rfl) rfl ?_
  intro P e s m below meth cd A Q ls hsz S hK hW hA hl hret
  have hl : lv_has ls 7 [(0, .ref (a 0)), (1, .int (nI (t))), (2, .int (nI (j))), (3, .int (nI (x))), (4, .int (nI (y)))] := hl
  have hinX1 : ∀ w ∈ u_ws RX1 TX1 17, w ∈ wsX1_takeRange := by decide +kernel
  refine lv_iconst (v := nI (0)) S.1 S.2.1 dX1_takeRange_0 rfl ?_
  refine lv_istore (lv' := [(5, .int (nI (0))), (0, .ref (a 0)), (1, .int (nI (t))), (2, .int (nI (j))), (3, .int (nI (x))), (4, .int (nI (y)))]) S.1 S.2.1 dX1_takeRange_1 hl (by decide) rfl (fun ls hl => ?_)
  refine lv_iload_n S.1 S.2.1 dX1_takeRange_3 rfl (lv_at hl 4 rfl) ?_
  refine lv_istore (lv' := [(6, .int (nI (x))), (5, .int (nI (0))), (0, .ref (a 0)), (1, .int (nI (t))), (2, .int (nI (j))), (3, .int (nI (x))), (4, .int (nI (y)))]) S.1 S.2.1 dX1_takeRange_4 hl (by decide) rfl (fun ls hl => ?_)
  have hW : kw D A s.heap (wS c a (pu τ 0 ((τ 0)))) _ _ := hW
  refine k_loop (fun (zz : Nat × Nat × (Nat → Nat)) H lo ls => match zz with | (k, n, g) => kw D A s.heap (wS c a (pu τ 0 g)) H lo ∧ lv_has ls 7 [(0, .ref (a 0)), (1, .int (nI (t))), (2, .int (nI (j))), (3, .int (nI (x))), (4, .int (nI (y))), (5, .int (nI (n))), (6, .int (nI (x + k)))] ∧ k ≤ y + 1 - x ∧ tkC τ t j x k = (n, g)) (fun (zz : Nat × Nat × (Nat → Nat)) => match zz with | (k, n, g) => y + 1 - x - k) [] ?_ (0, 0, τ 0) _ _ _ ⟨hW, lv_sub hl [2, 3, 4, 5, 6, 1, 0] rfl, (Nat.zero_le _), rfl⟩
  rintro ⟨k, n, g⟩ ih6 H locs ls ⟨hW, hl, hk, hp⟩
  have okk := tkC_ok (x := x) ok.1 hj ht k (by omega)
  rw [hp] at okk
  have okg : okS (pu τ 0 g) T := ok.p0 okk.2
  have hn32 : n ≤ k := okk.1
  refine lv_iload S.1 S.2.1 dX1_takeRange_6 (lv_at hl 6 rfl) ?_
  refine lv_iload S.1 S.2.1 dX1_takeRange_8 (lv_at hl 4 rfl) ?_
  refine kn_gt S (tgt := 53) dX1_takeRange_10 (by decide) (by omega) (by omega) (fun c_10 => ?_) (fun c_10 => ?_)
  · have e9 : k = y + 1 - x := by omega
    subst e9
    refine lv_iload S.1 S.2.1 dX1_takeRange_53 (lv_at hl 5 rfl) ?_
    exact hret 55 _ _ _ _ _ dX1_takeRange_55 hW (congrArg nI (by rw [hp])) (congrArg (fun z => wS c a (pu τ 0 z)) (by rw [hp]))
  · refine lv_aload_n S.1 S.2.1 dX1_takeRange_13 rfl (lv_at hl 0 rfl) ?_
    refine lv_iload_n S.1 S.2.1 dX1_takeRange_14 rfl (lv_at hl 1 rfl) ?_
    refine lv_iload_n S.1 S.2.1 dX1_takeRange_15 rfl (lv_at hl 2 rfl) ?_
    refine lv_iload S.1 S.2.1 dX1_takeRange_16 (lv_at hl 6 rfl) ?_
    refine k_VI (rest := []) S hK hl.1 hW (KFr.all hW hA) (mX1_hasPin l D c a ((pu τ 0 g)) _ t j (x + k) (by first | omega | exact ht | assumption | (show t < 3; omega) | rfl) (by first | omega | exact hj | assumption | (show j < 12; omega) | rfl) (by first | omega | exact hp | assumption | (show (x + k) < 32; omega) | rfl)) gX1_takeRange_X1_hasPin rfl pdX1_hasPin ⟨⟨rfl, rfl⟩, Nat.le_of_ble_eq_true rfl, Nat.le_of_ble_eq_true rfl⟩ 0 1 rfl rfl rfl rfl (Nat.le_of_ble_eq_true rfl) dX1_takeRange_18 ⟨Nat.le_of_ble_eq_true rfl, Nat.le_of_ble_eq_true rfl⟩ (fun H locs hW => ?_)
    have hW : kw D A s.heap (wS c a (pu τ 0 g)) H locs := hW
    refine k_top (y := nI ((hb (pu τ 0 g) t j (x + k)).toNat)) rfl ?_
    refine kb_eq S (tgt := 47) dX1_takeRange_21 (by decide) (fun c_21 => ?_) (fun c_21 => ?_)
    · refine lv_iinc (v := nI (x + (k + 1))) (lv' := [(6, .int (nI (x + (k + 1)))), (0, .ref (a 0)), (1, .int (nI (t))), (2, .int (nI (j))), (3, .int (nI (x))), (4, .int (nI (y))), (5, .int (nI (n)))]) S.1 S.2.1 dX1_takeRange_47 hl (k := 6) rfl (nI_add _ _) (by decide) rfl (fun ls hl => ?_)
      refine lv_goto (tgt := 6) S.1 S.2.1 dX1_takeRange_50 (by decide) ?_
      exact ih6 (k + 1, n, g) _ _ _ ⟨hW, lv_sub hl [1, 2, 3, 4, 5, 6, 0] rfl, (by omega), (by first | exact tkC_t hp c_21 | exact tkC_f hp c_21)⟩ (by show y + 1 - x - (k + 1) < y + 1 - x - k; omega)
    · refine lv_aload_n S.1 S.2.1 dX1_takeRange_24 rfl (lv_at hl 0 rfl) ?_
      refine kx_get S hK hW hinX1 0 1 rfl rfl 0 (by decide) (List.mem_of_getElem? (i := 1) rfl) (v := .ref (a 1)) rfl dX1_takeRange_25 ?_
      refine lv_iload_n S.1 S.2.1 dX1_takeRange_28 rfl (lv_at hl 1 rfl) ?_
      refine lv_bipush (v := nI (32)) S.1 S.2.1 dX1_takeRange_29 rfl ?_
      refine kn_imul S dX1_takeRange_31 ?_
      refine lv_iload S.1 S.2.1 dX1_takeRange_32 (lv_at hl 6 rfl) ?_
      refine kn_iadd S dX1_takeRange_34 ?_
      refine lv_dup2_11 S.1 S.2.1 dX1_takeRange_35 rfl rfl ?_
      refine kn_ald S hK hW 1 (f := g) rfl (by omega) (by decide) dX1_takeRange_36 ?_
      refine lv_iconst (v := nI (1)) S.1 S.2.1 dX1_takeRange_37 rfl ?_
      refine lv_iload_n S.1 S.2.1 dX1_takeRange_38 rfl (lv_at hl 2 rfl) ?_
      refine kn_shl1 S dX1_takeRange_39 (by omega) ?_
      refine lv_iconst (v := nI (4294967295)) S.1 S.2.1 dX1_takeRange_40 rfl ?_
      refine kn_ixor S dX1_takeRange_41 ?_
      refine kn_iand S dX1_takeRange_42 ?_
      refine kn_ast S hK hW 1 (f := g) rfl (by omega) (by decide) dX1_takeRange_43 (fun H locs hW => ?_)
      have hW : kw D A s.heap (wS c a (pu τ 0 (fu g (t * 32 + (x + k)) ((g (t * 32 + (x + k))) &&& ((2 ^ j) ^^^ 4294967295))))) H locs := hW
      refine lv_iinc (v := nI (n + 1)) (lv' := [(5, .int (nI (n + 1))), (0, .ref (a 0)), (1, .int (nI (t))), (2, .int (nI (j))), (3, .int (nI (x))), (4, .int (nI (y))), (6, .int (nI (x + k)))]) S.1 S.2.1 dX1_takeRange_44 hl (k := 5) rfl (nI_add _ _) (by decide) rfl (fun ls hl => ?_)
      refine lv_iinc (v := nI (x + (k + 1))) (lv' := [(6, .int (nI (x + (k + 1)))), (5, .int (nI (n + 1))), (0, .ref (a 0)), (1, .int (nI (t))), (2, .int (nI (j))), (3, .int (nI (x))), (4, .int (nI (y)))]) S.1 S.2.1 dX1_takeRange_47 hl (k := 6) rfl (nI_add _ _) (by decide) rfl (fun ls hl => ?_)
      refine lv_goto (tgt := 6) S.1 S.2.1 dX1_takeRange_50 (by decide) ?_
      exact ih6 (k + 1, n + 1, fu g (t * 32 + (x + k)) ((g (t * 32 + (x + k))) &&& ((2 ^ j) ^^^ 4294967295))) _ _ _ ⟨hW, lv_sub hl [2, 3, 4, 5, 6, 1, 0] rfl, (by omega), (by first | exact tkC_t hp c_21 | exact tkC_f hp c_21)⟩ (by show y + 1 - x - (k + 1) < y + 1 - x - k; omega)
abbrev rmX1_replaceTune : Room := { frames := 2, cells := 0, slots := 0, locals := 42 }
theorem pdX1_replaceTune : kPd yX1_replaceTune 4 := by decide +kernel
set_option maxHeartbeats 400000 in
set_option maxRecDepth 100000 in
theorem mX1_replaceTune_k (l : Launch) (D : va_G) (c : Nat → ClassId) (a : Nat → Nat) (τ : Nat → Nat → Nat) (sz : Nat) (u : Nat) (v : Nat) (w : Nat) (h : Nat) (T : Nat) (hu : u < 3) (hv : v < 3) (hw : w < 64) (hh : h ≤ 11) (ok : okS τ T) : MV l yX1_replaceTune wsX1_replaceTune rmX1_replaceTune D c sz (wS c a τ) [.ref (a 0), .int (nI (u)), .int (nI (v)), .int (nI w - nI 32), .int (nI (h))]  (wS c a (pu τ 0 (rpC τ u v w (fun x => x * 2 ^ h) 32))) := by
  refine MV.of (cc := cX1_replaceTune) (maxL := 9) (by decide) rfl (Nat.le_of_ble_eq_true rfl) ?_
  intro P e s m below meth cd A Q ls hsz S hK hW hA hl hret
  have hl : lv_has ls 9 [(0, .ref (a 0)), (1, .int (nI (u))), (2, .int (nI (v))), (3, .int (nI w - nI 32)), (4, .int (nI (h)))] := hl
  have hinX1 : ∀ w ∈ u_ws RX1 TX1 17, w ∈ wsX1_replaceTune := by decide +kernel
  refine lv_sipush (v := nI (4095)) S.1 S.2.1 dX1_replaceTune_0 rfl ?_
  refine lv_istore (lv' := [(5, .int (nI (4095))), (0, .ref (a 0)), (1, .int (nI (u))), (2, .int (nI (v))), (3, .int (nI w - nI 32)), (4, .int (nI (h)))]) S.1 S.2.1 dX1_replaceTune_3 hl (by decide) rfl (fun ls hl => ?_)
  refine lv_iconst (v := nI (0)) S.1 S.2.1 dX1_replaceTune_5 rfl ?_
  refine lv_istore (lv' := [(6, .int (nI (0))), (5, .int (nI (4095))), (0, .ref (a 0)), (1, .int (nI (u))), (2, .int (nI (v))), (3, .int (nI w - nI 32)), (4, .int (nI (h)))]) S.1 S.2.1 dX1_replaceTune_6 hl (by decide) rfl (fun ls hl => ?_)
  have hW : kw D A s.heap (wS c a (pu τ 0 (rpC τ u v w (fun x => x * 2 ^ h) 0))) _ _ := hW
  refine k_loop (fun (zz : Nat) H lo ls => match zz with | k => kw D A s.heap (wS c a (pu τ 0 (rpC τ u v w (fun x => x * 2 ^ h) k))) H lo ∧ lv_has ls 9 [(0, .ref (a 0)), (1, .int (nI (u))), (2, .int (nI (v))), (3, .int (nI w - nI 32)), (4, .int (nI (h))), (5, .int (nI (4095))), (6, .int (nI (k)))] ∧ k ≤ 32) (fun (zz : Nat) => match zz with | k => 32 - k) [] ?_ 0 _ _ _ ⟨hW, lv_sub hl [2, 3, 4, 5, 6, 1, 0] rfl, (by decide)⟩
  rintro k ih8 H locs ls ⟨hW, hl, hi8_0⟩
  have okk := rpC_ok (u := u) (v := v) (w := w) (mv := fun x => x * 2 ^ h) ok.1 k
  refine lv_iload S.1 S.2.1 dX1_replaceTune_8 (lv_at hl 6 rfl) ?_
  refine lv_bipush (v := nI (32)) S.1 S.2.1 dX1_replaceTune_10 rfl ?_
  refine kn_ge S (tgt := 73) dX1_replaceTune_12 (by decide) (by omega) (by omega) (fun c_12 => ?_) (fun c_12 => ?_)
  · have e9 : k = 32 := by omega
    subst e9
    exact hret 73 _ _ _ _ dX1_replaceTune_73 hW (rfl)
  · refine lv_aload_n S.1 S.2.1 dX1_replaceTune_15 rfl (lv_at hl 0 rfl) ?_
    refine lv_iload_n S.1 S.2.1 dX1_replaceTune_16 rfl (lv_at hl 1 rfl) ?_
    refine lv_iload S.1 S.2.1 dX1_replaceTune_17 (lv_at hl 6 rfl) ?_
    refine k_VI (rest := []) S hK hl.1 hW (KFr.all hW hA) (mX1_teethAt l D c a ((pu τ 0 (rpC τ u v w (fun x => x * 2 ^ h) k))) _ u k (by first | omega | exact ht | assumption | (show u < 3; omega) | rfl) (by first | omega | exact hp | assumption | (show k < 32; omega) | rfl)) gX1_replaceTune_X1_teethAt rfl pdX1_teethAt ⟨⟨rfl, rfl⟩, Nat.le_of_ble_eq_true rfl, Nat.le_of_ble_eq_true rfl⟩ 0 1 rfl rfl rfl rfl (Nat.le_of_ble_eq_true rfl) dX1_replaceTune_19 ⟨Nat.le_of_ble_eq_true rfl, Nat.le_of_ble_eq_true rfl⟩ (fun H locs hW => ?_)
    have hW : kw D A s.heap (wS c a (pu τ 0 (rpC τ u v w (fun x => x * 2 ^ h) k))) H locs := hW
    refine k_top (y := nI ((rpC τ u v w (fun x => x * 2 ^ h) k) (u * 32 + k))) rfl ?_
    refine lv_istore (lv' := [(7, .int (nI ((rpC τ u v w (fun x => x * 2 ^ h) k) (u * 32 + k)))), (0, .ref (a 0)), (1, .int (nI (u))), (2, .int (nI (v))), (3, .int (nI w - nI 32)), (4, .int (nI (h))), (5, .int (nI (4095))), (6, .int (nI (k)))]) S.1 S.2.1 dX1_replaceTune_22 hl (by decide) rfl (fun ls hl => ?_)
    refine lv_iload S.1 S.2.1 dX1_replaceTune_24 (lv_at hl 5 rfl) ?_
    refine kz_lt S (tgt := 37) dX1_replaceTune_26 (by decide) (by omega) ?_
    refine lv_iload S.1 S.2.1 dX1_replaceTune_29 (lv_at hl 0 rfl) ?_
    refine lv_iload S.1 S.2.1 dX1_replaceTune_31 (lv_at hl 5 rfl) ?_
    refine kn_ishl S dX1_replaceTune_33 (by omega) (sh_lt (okk _ (by omega)) hh) ?_
    refine lv_goto (tgt := 43) S.1 S.2.1 dX1_replaceTune_34 (by decide) ?_
    refine lv_istore (lv' := [(8, .int (nI (((rpC τ u v w (fun x => x * 2 ^ h) k) (u * 32 + k)) * 2 ^ h))), (7, .int (nI ((rpC τ u v w (fun x => x * 2 ^ h) k) (u * 32 + k)))), (0, .ref (a 0)), (1, .int (nI (u))), (2, .int (nI (v))), (3, .int (nI w - nI 32)), (4, .int (nI (h))), (5, .int (nI (4095))), (6, .int (nI (k)))]) S.1 S.2.1 dX1_replaceTune_43 hl (by decide) rfl (fun ls hl => ?_)
    refine lv_aload_n S.1 S.2.1 dX1_replaceTune_45 rfl (lv_at hl 2 rfl) ?_
    refine kx_get S hK hW hinX1 0 1 rfl rfl 0 (by decide) (List.mem_of_getElem? (i := 1) rfl) (v := .ref (a 1)) rfl dX1_replaceTune_46 ?_
    refine lv_iload_n S.1 S.2.1 dX1_replaceTune_49 rfl (lv_at hl 4 rfl) ?_
    refine lv_bipush (v := nI (32)) S.1 S.2.1 dX1_replaceTune_50 rfl ?_
    refine kn_imul S dX1_replaceTune_52 ?_
    refine lv_iload S.1 S.2.1 dX1_replaceTune_53 (lv_at hl 8 rfl) ?_
    refine lv_iload_n S.1 S.2.1 dX1_replaceTune_55 rfl (lv_at hl 5 rfl) ?_
    refine lv_iadd S.1 S.2.1 dX1_replaceTune_56 ?_
    refine k_top (y := nI (k + w) - nI 32) (ar_pos _ _) ?_
    refine k_SI (rest := [.int (nI (v * 32)), .ref (a 1)]) S hK hl.1 hW (KFr.nil hW hA) (mX1_around_m l D c  _ (k + w) (by first | omega | exact hu | assumption | (show (k + w) < 128; omega) | rfl)) gX1_replaceTune_X1_around rfl pdX1_around ⟨⟨rfl, rfl⟩, Nat.le_of_ble_eq_true rfl, Nat.le_of_ble_eq_true rfl⟩ rfl (Nat.le_of_ble_eq_true rfl) dX1_replaceTune_57 ⟨Nat.le_of_ble_eq_true rfl, Nat.le_of_ble_eq_true rfl⟩ (fun H locs hW => ?_)
    have hW : kw D A s.heap (wS c a (pu τ 0 (rpC τ u v w (fun x => x * 2 ^ h) k))) H locs := hW
    refine kn_iadd S dX1_replaceTune_60 ?_
    refine lv_iload S.1 S.2.1 dX1_replaceTune_61 (lv_at hl 0 rfl) ?_
    refine lv_iload S.1 S.2.1 dX1_replaceTune_63 (lv_at hl 7 rfl) ?_
    refine kn_iand S dX1_replaceTune_65 ?_
    refine kn_ast S hK hW 1 (f := rpC τ u v w (fun x => x * 2 ^ h) k) rfl (by omega) (by decide) dX1_replaceTune_66 (fun H locs hW => ?_)
    have hW : kw D A s.heap (wS c a (pu τ 0 (fu (rpC τ u v w (fun x => x * 2 ^ h) k) (v * 32 + ((k + w) % 32)) ((((rpC τ u v w (fun x => x * 2 ^ h) k) (u * 32 + k)) * 2 ^ h) &&& 4095)))) H locs := hW
    have hW : kw D A s.heap (wS c a (pu τ 0 (rpC τ u v w (fun x => x * 2 ^ h) (k + 1)))) H locs := hW
    refine lv_iinc (v := nI (k + 1)) (lv' := [(6, .int (nI (k + 1))), (8, .int (nI (((rpC τ u v w (fun x => x * 2 ^ h) k) (u * 32 + k)) * 2 ^ h))), (7, .int (nI ((rpC τ u v w (fun x => x * 2 ^ h) k) (u * 32 + k)))), (0, .ref (a 0)), (1, .int (nI (u))), (2, .int (nI (v))), (3, .int (nI w - nI 32)), (4, .int (nI (h))), (5, .int (nI (4095)))]) S.1 S.2.1 dX1_replaceTune_67 hl (k := 8) rfl (nI_add _ _) (by decide) rfl (fun ls hl => ?_)
    refine lv_goto (tgt := 8) S.1 S.2.1 dX1_replaceTune_70 (by decide) ?_
    exact ih8 (k + 1) _ _ _ ⟨hW, lv_sub hl [3, 4, 5, 6, 7, 8, 0] rfl, (by omega)⟩ (by show 32 - (k + 1) < 32 - k; omega)
set_option maxHeartbeats 400000 in
set_option maxRecDepth 100000 in
theorem mX1_replaceTune_m (l : Launch) (D : va_G) (c : Nat → ClassId) (a : Nat → Nat) (τ : Nat → Nat → Nat) (sz : Nat) (u : Nat) (v : Nat) (w : Nat) (q : Nat) (T : Nat) (hu : u < 3) (hv : v < 3) (hw : w < 64) (hq : q < 12) (ok : okS τ T) : MV l yX1_replaceTune wsX1_replaceTune rmX1_replaceTune D c sz (wS c a τ) [.ref (a 0), .int (nI (u)), .int (nI (v)), .int (nI w - nI 32), .int (nI q - nI 12)]  (wS c a (pu τ 0 (rpC τ u v w (fun x => x / 2 ^ (12 - q)) 32))) := by
  refine MV.of (cc := cX1_replaceTune) (maxL := 9) (by decide) rfl (Nat.le_of_ble_eq_true rfl) ?_
  intro P e s m below meth cd A Q ls hsz S hK hW hA hl hret
  have hl : lv_has ls 9 [(0, .ref (a 0)), (1, .int (nI (u))), (2, .int (nI (v))), (3, .int (nI w - nI 32)), (4, .int (nI q - nI 12))] := hl
  have hinX1 : ∀ w ∈ u_ws RX1 TX1 17, w ∈ wsX1_replaceTune := by decide +kernel
  refine lv_sipush (v := nI (4095)) S.1 S.2.1 dX1_replaceTune_0 rfl ?_
  refine lv_istore (lv' := [(5, .int (nI (4095))), (0, .ref (a 0)), (1, .int (nI (u))), (2, .int (nI (v))), (3, .int (nI w - nI 32)), (4, .int (nI q - nI 12))]) S.1 S.2.1 dX1_replaceTune_3 hl (by decide) rfl (fun ls hl => ?_)
  refine lv_iconst (v := nI (0)) S.1 S.2.1 dX1_replaceTune_5 rfl ?_
  refine lv_istore (lv' := [(6, .int (nI (0))), (5, .int (nI (4095))), (0, .ref (a 0)), (1, .int (nI (u))), (2, .int (nI (v))), (3, .int (nI w - nI 32)), (4, .int (nI q - nI 12))]) S.1 S.2.1 dX1_replaceTune_6 hl (by decide) rfl (fun ls hl => ?_)
  have hW : kw D A s.heap (wS c a (pu τ 0 (rpC τ u v w (fun x => x / 2 ^ (12 - q)) 0))) _ _ := hW
  refine k_loop (fun (zz : Nat) H lo ls => match zz with | k => kw D A s.heap (wS c a (pu τ 0 (rpC τ u v w (fun x => x / 2 ^ (12 - q)) k))) H lo ∧ lv_has ls 9 [(0, .ref (a 0)), (1, .int (nI (u))), (2, .int (nI (v))), (3, .int (nI w - nI 32)), (4, .int (nI q - nI 12)), (5, .int (nI (4095))), (6, .int (nI (k)))] ∧ k ≤ 32) (fun (zz : Nat) => match zz with | k => 32 - k) [] ?_ 0 _ _ _ ⟨hW, lv_sub hl [2, 3, 4, 5, 6, 1, 0] rfl, (by decide)⟩
  rintro k ih8 H locs ls ⟨hW, hl, hi8_0⟩
  have okk := rpC_ok (u := u) (v := v) (w := w) (mv := fun x => x / 2 ^ (12 - q)) ok.1 k
  refine lv_iload S.1 S.2.1 dX1_replaceTune_8 (lv_at hl 6 rfl) ?_
  refine lv_bipush (v := nI (32)) S.1 S.2.1 dX1_replaceTune_10 rfl ?_
  refine kn_ge S (tgt := 73) dX1_replaceTune_12 (by decide) (by omega) (by omega) (fun c_12 => ?_) (fun c_12 => ?_)
  · have e9 : k = 32 := by omega
    subst e9
    exact hret 73 _ _ _ _ dX1_replaceTune_73 hW (rfl)
  · refine lv_aload_n S.1 S.2.1 dX1_replaceTune_15 rfl (lv_at hl 0 rfl) ?_
    refine lv_iload_n S.1 S.2.1 dX1_replaceTune_16 rfl (lv_at hl 1 rfl) ?_
    refine lv_iload S.1 S.2.1 dX1_replaceTune_17 (lv_at hl 6 rfl) ?_
    refine k_VI (rest := []) S hK hl.1 hW (KFr.all hW hA) (mX1_teethAt l D c a ((pu τ 0 (rpC τ u v w (fun x => x / 2 ^ (12 - q)) k))) _ u k (by first | omega | exact ht | assumption | (show u < 3; omega) | rfl) (by first | omega | exact hp | assumption | (show k < 32; omega) | rfl)) gX1_replaceTune_X1_teethAt rfl pdX1_teethAt ⟨⟨rfl, rfl⟩, Nat.le_of_ble_eq_true rfl, Nat.le_of_ble_eq_true rfl⟩ 0 1 rfl rfl rfl rfl (Nat.le_of_ble_eq_true rfl) dX1_replaceTune_19 ⟨Nat.le_of_ble_eq_true rfl, Nat.le_of_ble_eq_true rfl⟩ (fun H locs hW => ?_)
    have hW : kw D A s.heap (wS c a (pu τ 0 (rpC τ u v w (fun x => x / 2 ^ (12 - q)) k))) H locs := hW
    refine k_top (y := nI ((rpC τ u v w (fun x => x / 2 ^ (12 - q)) k) (u * 32 + k))) rfl ?_
    refine lv_istore (lv' := [(7, .int (nI ((rpC τ u v w (fun x => x / 2 ^ (12 - q)) k) (u * 32 + k)))), (0, .ref (a 0)), (1, .int (nI (u))), (2, .int (nI (v))), (3, .int (nI w - nI 32)), (4, .int (nI q - nI 12)), (5, .int (nI (4095))), (6, .int (nI (k)))]) S.1 S.2.1 dX1_replaceTune_22 hl (by decide) rfl (fun ls hl => ?_)
    refine lv_iload S.1 S.2.1 dX1_replaceTune_24 (lv_at hl 5 rfl) ?_
    refine lv_if_lt (tgt := 37) S.1 S.2.1 dX1_replaceTune_26 (by decide) (fun c_26 => ?_) (fun c_26 => ?_)
    · refine lv_iload S.1 S.2.1 dX1_replaceTune_37 (lv_at hl 0 rfl) ?_
      refine lv_iload S.1 S.2.1 dX1_replaceTune_39 (lv_at hl 5 rfl) ?_
      refine lv_ineg S.1 S.2.1 dX1_replaceTune_41 ?_
      refine k_top (y := nI (12 - q)) ((ng_12 q hq).2) ?_
      refine kn_ishr S dX1_replaceTune_42 (by omega) (Nat.lt_trans (okk _ (by omega)) (by decide)) ?_
      refine lv_istore (lv' := [(8, .int (nI (((rpC τ u v w (fun x => x / 2 ^ (12 - q)) k) (u * 32 + k)) / 2 ^ (12 - q)))), (7, .int (nI ((rpC τ u v w (fun x => x / 2 ^ (12 - q)) k) (u * 32 + k)))), (0, .ref (a 0)), (1, .int (nI (u))), (2, .int (nI (v))), (3, .int (nI w - nI 32)), (4, .int (nI q - nI 12)), (5, .int (nI (4095))), (6, .int (nI (k)))]) S.1 S.2.1 dX1_replaceTune_43 hl (by decide) rfl (fun ls hl => ?_)
      refine lv_aload_n S.1 S.2.1 dX1_replaceTune_45 rfl (lv_at hl 2 rfl) ?_
      refine kx_get S hK hW hinX1 0 1 rfl rfl 0 (by decide) (List.mem_of_getElem? (i := 1) rfl) (v := .ref (a 1)) rfl dX1_replaceTune_46 ?_
      refine lv_iload_n S.1 S.2.1 dX1_replaceTune_49 rfl (lv_at hl 4 rfl) ?_
      refine lv_bipush (v := nI (32)) S.1 S.2.1 dX1_replaceTune_50 rfl ?_
      refine kn_imul S dX1_replaceTune_52 ?_
      refine lv_iload S.1 S.2.1 dX1_replaceTune_53 (lv_at hl 8 rfl) ?_
      refine lv_iload_n S.1 S.2.1 dX1_replaceTune_55 rfl (lv_at hl 5 rfl) ?_
      refine lv_iadd S.1 S.2.1 dX1_replaceTune_56 ?_
      refine k_top (y := nI (k + w) - nI 32) (ar_pos _ _) ?_
      refine k_SI (rest := [.int (nI (v * 32)), .ref (a 1)]) S hK hl.1 hW (KFr.nil hW hA) (mX1_around_m l D c  _ (k + w) (by first | omega | exact hu | assumption | (show (k + w) < 128; omega) | rfl)) gX1_replaceTune_X1_around rfl pdX1_around ⟨⟨rfl, rfl⟩, Nat.le_of_ble_eq_true rfl, Nat.le_of_ble_eq_true rfl⟩ rfl (Nat.le_of_ble_eq_true rfl) dX1_replaceTune_57 ⟨Nat.le_of_ble_eq_true rfl, Nat.le_of_ble_eq_true rfl⟩ (fun H locs hW => ?_)
      have hW : kw D A s.heap (wS c a (pu τ 0 (rpC τ u v w (fun x => x / 2 ^ (12 - q)) k))) H locs := hW
      refine kn_iadd S dX1_replaceTune_60 ?_
      refine lv_iload S.1 S.2.1 dX1_replaceTune_61 (lv_at hl 0 rfl) ?_
      refine lv_iload S.1 S.2.1 dX1_replaceTune_63 (lv_at hl 7 rfl) ?_
      refine kn_iand S dX1_replaceTune_65 ?_
      refine kn_ast S hK hW 1 (f := rpC τ u v w (fun x => x / 2 ^ (12 - q)) k) rfl (by omega) (by decide) dX1_replaceTune_66 (fun H locs hW => ?_)
      have hW : kw D A s.heap (wS c a (pu τ 0 (fu (rpC τ u v w (fun x => x / 2 ^ (12 - q)) k) (v * 32 + ((k + w) % 32)) ((((rpC τ u v w (fun x => x / 2 ^ (12 - q)) k) (u * 32 + k)) / 2 ^ (12 - q)) &&& 4095)))) H locs := hW
      have hW : kw D A s.heap (wS c a (pu τ 0 (rpC τ u v w (fun x => x / 2 ^ (12 - q)) (k + 1)))) H locs := hW
      refine lv_iinc (v := nI (k + 1)) (lv' := [(6, .int (nI (k + 1))), (8, .int (nI (((rpC τ u v w (fun x => x / 2 ^ (12 - q)) k) (u * 32 + k)) / 2 ^ (12 - q)))), (7, .int (nI ((rpC τ u v w (fun x => x / 2 ^ (12 - q)) k) (u * 32 + k)))), (0, .ref (a 0)), (1, .int (nI (u))), (2, .int (nI (v))), (3, .int (nI w - nI 32)), (4, .int (nI q - nI 12)), (5, .int (nI (4095)))]) S.1 S.2.1 dX1_replaceTune_67 hl (k := 8) rfl (nI_add _ _) (by decide) rfl (fun ls hl => ?_)
      refine lv_goto (tgt := 8) S.1 S.2.1 dX1_replaceTune_70 (by decide) ?_
      exact ih8 (k + 1) _ _ _ ⟨hW, lv_sub hl [3, 4, 5, 6, 7, 8, 0] rfl, (by omega)⟩ (by show 32 - (k + 1) < 32 - k; omega)
    · exact absurd (ng_12 q hq).1 c_26
abbrev rmX1_pinFrom : Room := { frames := 2, cells := 0, slots := 0, locals := 45 }
theorem pdX1_pinFrom : kPd yX1_pinFrom 3 := by decide +kernel
set_option maxHeartbeats 400000 in
set_option maxRecDepth 100000 in
theorem mX1_pinFrom (l : Launch) (D : va_G) (c : Nat → ClassId) (a : Nat → Nat) (τ : Nat → Nat → Nat) (sz : Nat) (t : Nat) (j : Nat) (p : Nat) (ht : t < 3) (hj : j < 12) (hp : p < 32) : MI l yX1_pinFrom wsX1_pinFrom rmX1_pinFrom D c sz (wS c a τ) [.ref (a 0), .int (nI (t)), .int (nI (j)), .int (nI (p))] (nI (nfS τ t j p 0 32)) (wS c a τ) := by
  refine MI.of (cc := cX1_pinFrom) (maxL := 6) (ty := .int) (by decide) rfl (Nat.le_of_ble_eq_true rfl) rfl ?_
  intro P e s m below meth cd A Q ls hsz S hK hW hA hl hret
  have hl : lv_has ls 6 [(0, .ref (a 0)), (1, .int (nI (t))), (2, .int (nI (j))), (3, .int (nI (p)))] := hl
  refine lv_iconst (v := nI (0)) S.1 S.2.1 dX1_pinFrom_0 rfl ?_
  refine lv_istore (lv' := [(4, .int (nI (0))), (0, .ref (a 0)), (1, .int (nI (t))), (2, .int (nI (j))), (3, .int (nI (p)))]) S.1 S.2.1 dX1_pinFrom_1 hl (by decide) rfl (fun ls hl => ?_)
  refine k_loop (fun (zz : Nat) H lo ls => match zz with | k => kw D A s.heap (wS c a τ) H lo ∧ lv_has ls 6 [(0, .ref (a 0)), (1, .int (nI (t))), (2, .int (nI (j))), (3, .int (nI (p))), (4, .int (nI (k)))] ∧ k ≤ 32 ∧ nfS τ t j p 0 32 = nfS τ t j p k (32 - k)) (fun (zz : Nat) => match zz with | k => 32 - k) [] ?_ 0 _ _ _ ⟨hW, lv_sub hl [1, 2, 3, 4, 0] rfl, (by decide), (by rw [Nat.sub_zero])⟩
  rintro k ih3 H locs ls ⟨hW, hl, hk, hn⟩
  refine lv_iload S.1 S.2.1 dX1_pinFrom_3 (lv_at hl 4 rfl) ?_
  refine lv_bipush (v := nI (32)) S.1 S.2.1 dX1_pinFrom_5 rfl ?_
  refine kn_ge S (tgt := 39) dX1_pinFrom_7 (by decide) (by omega) (by omega) (fun c_7 => ?_) (fun c_7 => ?_)
  · refine lv_iconst (v := nI (4294967295)) S.1 S.2.1 dX1_pinFrom_39 rfl ?_
    exact hret 40 _ _ _ _ _ dX1_pinFrom_40 hW (congrArg nI (by rw [hn, nfS_0 c_7])) (rfl)
  · refine lv_iload_n S.1 S.2.1 dX1_pinFrom_10 rfl (lv_at hl 3 rfl) ?_
    refine lv_iload S.1 S.2.1 dX1_pinFrom_11 (lv_at hl 4 rfl) ?_
    refine kn_iadd S dX1_pinFrom_13 ?_
    refine k_SI (rest := []) S hK hl.1 hW (KFr.nil hW hA) (mX1_around_k l D c  _ (p + k) (by first | omega | exact hx | assumption | (show (p + k) < 2147483648; omega) | rfl)) gX1_pinFrom_X1_around rfl pdX1_around ⟨⟨rfl, rfl⟩, Nat.le_of_ble_eq_true rfl, Nat.le_of_ble_eq_true rfl⟩ rfl (Nat.le_of_ble_eq_true rfl) dX1_pinFrom_14 ⟨Nat.le_of_ble_eq_true rfl, Nat.le_of_ble_eq_true rfl⟩ (fun H locs hW => ?_)
    have hW : kw D A s.heap (wS c a τ) H locs := hW
    refine lv_istore (lv' := [(5, .int (nI ((p + k) % 32))), (0, .ref (a 0)), (1, .int (nI (t))), (2, .int (nI (j))), (3, .int (nI (p))), (4, .int (nI (k)))]) S.1 S.2.1 dX1_pinFrom_17 hl (by decide) rfl (fun ls hl => ?_)
    refine lv_aload_n S.1 S.2.1 dX1_pinFrom_19 rfl (lv_at hl 1 rfl) ?_
    refine lv_iload_n S.1 S.2.1 dX1_pinFrom_20 rfl (lv_at hl 2 rfl) ?_
    refine lv_iload_n S.1 S.2.1 dX1_pinFrom_21 rfl (lv_at hl 3 rfl) ?_
    refine lv_iload S.1 S.2.1 dX1_pinFrom_22 (lv_at hl 0 rfl) ?_
    refine k_VI (rest := []) S hK hl.1 hW (KFr.all hW hA) (mX1_hasPin l D c a τ _ t j ((p + k) % 32) (by first | omega | exact ht | assumption | (show t < 3; omega) | rfl) (by first | omega | exact hj | assumption | (show j < 12; omega) | rfl) (by first | omega | exact hp | assumption | (show ((p + k) % 32) < 32; omega) | rfl)) gX1_pinFrom_X1_hasPin rfl pdX1_hasPin ⟨⟨rfl, rfl⟩, Nat.le_of_ble_eq_true rfl, Nat.le_of_ble_eq_true rfl⟩ 0 1 rfl rfl rfl rfl (Nat.le_of_ble_eq_true rfl) dX1_pinFrom_24 ⟨Nat.le_of_ble_eq_true rfl, Nat.le_of_ble_eq_true rfl⟩ (fun H locs hW => ?_)
    have hW : kw D A s.heap (wS c a τ) H locs := hW
    refine kb_eq S (tgt := 33) dX1_pinFrom_27 (by decide) (fun c_27 => ?_) (fun c_27 => ?_)
    · refine lv_iinc (v := nI (k + 1)) (lv' := [(4, .int (nI (k + 1))), (5, .int (nI ((p + k) % 32))), (0, .ref (a 0)), (1, .int (nI (t))), (2, .int (nI (j))), (3, .int (nI (p)))]) S.1 S.2.1 dX1_pinFrom_33 hl (k := 5) rfl (nI_add _ _) (by decide) rfl (fun ls hl => ?_)
      refine lv_goto (tgt := 3) S.1 S.2.1 dX1_pinFrom_36 (by decide) ?_
      exact ih3 (k + 1) _ _ _ ⟨hW, lv_sub hl [2, 3, 4, 5, 0] rfl, (by omega), (hn.trans (nfS_f c_7 c_27))⟩ (by show 32 - (k + 1) < 32 - k; omega)
    · refine lv_iload S.1 S.2.1 dX1_pinFrom_30 (lv_at hl 0 rfl) ?_
      exact hret 32 _ _ _ _ _ dX1_pinFrom_32 hW (congrArg nI (by rw [hn, nfS_t c_7 c_27])) (rfl)
abbrev rmX1_tuneComing : Room := { frames := 0, cells := 0, slots := 0, locals := 0 }
theorem pdX1_tuneComing : kPd yX1_tuneComing 2 := by decide +kernel
set_option maxHeartbeats 400000 in
set_option maxRecDepth 100000 in
theorem mX1_tuneComing (l : Launch) (D : va_G) (c : Nat → ClassId) (a : Nat → Nat) (τ : Nat → Nat → Nat) (sz : Nat) (t : Nat) (p : Nat) (T : Nat) (ht : t < 3) (hp : p < 32) (ok : okS τ T) : MI l yX1_tuneComing wsX1_tuneComing rmX1_tuneComing D c sz (wS c a τ) [.ref (a 0), .int (nI (t)), .int (nI (p))] (nI (tcS τ t p)) (wS c a τ) := by
  refine MI.of (cc := cX1_tuneComing) (maxL := 3) (ty := .int) (by decide) rfl (Nat.le_of_ble_eq_true rfl) rfl ?_
  intro P e s m below meth cd A Q ls hsz S hK hW hA hl hret
  have hl : lv_has ls 3 [(0, .ref (a 0)), (1, .int (nI (t))), (2, .int (nI (p)))] := hl
  have hinX1 : ∀ w ∈ u_ws RX1 TX1 17, w ∈ wsX1_tuneComing := by decide +kernel
  obtain ⟨ok0, ok1, ok2, ⟨ok6, ok6a, ok6b, ok6c, ok6d⟩, ok7, ok8, ok9, ok10, ok11, ok12, ok14, ok15⟩ := id ok
  refine lv_iload_n S.1 S.2.1 dX1_tuneComing_0 rfl (lv_at hl 2 rfl) ?_
  refine kz_ne S (tgt := 21) dX1_tuneComing_1 (by decide) (by omega) (fun c_1 => ?_) (fun c_1 => ?_)
  · have ht0 : tcS τ t p = t := if_neg (fun h => c_1 h.1)
    refine lv_iload_n S.1 S.2.1 dX1_tuneComing_21 rfl (lv_at hl 1 rfl) ?_
    exact hret 22 _ _ _ _ _ dX1_tuneComing_22 hW (congrArg nI ht0.symm) (rfl)
  · refine lv_aload_n S.1 S.2.1 dX1_tuneComing_4 rfl (lv_at hl 0 rfl) ?_
    refine kx_get S hK hW hinX1 0 1 rfl rfl 6 (by decide) (List.mem_of_getElem? (i := 1) rfl) (v := .ref (a 7)) rfl dX1_tuneComing_5 ?_
    refine lv_iconst (v := nI (2)) S.1 S.2.1 dX1_tuneComing_8 rfl ?_
    refine kn_ald S hK hW 7 (f := τ 6) rfl (by omega) (by decide) dX1_tuneComing_9 ?_
    refine kz_eq S (tgt := 21) dX1_tuneComing_10 (by decide) (by omega) (fun c_10 => ?_) (fun c_10 => ?_)
    · have ht0 : tcS τ t p = t := if_neg (fun h => h.2 c_10)
      refine lv_iload_n S.1 S.2.1 dX1_tuneComing_21 rfl (lv_at hl 1 rfl) ?_
      exact hret 22 _ _ _ _ _ dX1_tuneComing_22 hW (congrArg nI ht0.symm) (rfl)
    · have ht0 : tcS τ t p = (t + 1) % 3 := if_pos ⟨c_1, c_10⟩
      refine lv_iload_n S.1 S.2.1 dX1_tuneComing_13 rfl (lv_at hl 1 rfl) ?_
      refine lv_iconst (v := nI (1)) S.1 S.2.1 dX1_tuneComing_14 rfl ?_
      refine kn_iadd S dX1_tuneComing_15 ?_
      refine lv_iconst (v := nI (3)) S.1 S.2.1 dX1_tuneComing_16 rfl ?_
      refine kn_irem S dX1_tuneComing_17 (by omega) (by omega) (by omega) ?_
      refine lv_goto (tgt := 22) S.1 S.2.1 dX1_tuneComing_18 (by decide) ?_
      exact hret 22 _ _ _ _ _ dX1_tuneComing_22 hW (congrArg nI ht0.symm) (rfl)
abbrev rmX1_windOfStep : Room := { frames := 1, cells := 0, slots := 0, locals := 22 }
theorem pdX1_windOfStep : kPd yX1_windOfStep 2 := by decide +kernel
set_option maxHeartbeats 400000 in
set_option maxRecDepth 100000 in
theorem mX1_windOfStep (l : Launch) (D : va_G) (c : Nat → ClassId) (a : Nat → Nat) (τ : Nat → Nat → Nat) (sz : Nat) (t : Nat) (p : Nat) (T : Nat) (ht : t < 3) (hp : p < 32) (ok : okS τ T) : MI l yX1_windOfStep wsX1_windOfStep rmX1_windOfStep D c sz (wS c a τ) [.ref (a 0), .int (nI (t)), .int (nI (p))] (nI (wfS τ t p)) (wS c a τ) := by
  refine MI.of (cc := cX1_windOfStep) (maxL := 3) (ty := .int) (by decide) rfl (Nat.le_of_ble_eq_true rfl) rfl ?_
  intro P e s m below meth cd A Q ls hsz S hK hW hA hl hret
  have hl : lv_has ls 3 [(0, .ref (a 0)), (1, .int (nI (t))), (2, .int (nI (p)))] := hl
  have hinX1 : ∀ w ∈ u_ws RX1 TX1 17, w ∈ wsX1_windOfStep := by decide +kernel
  obtain ⟨ok0, ok1, ok2, ⟨ok6, ok6a, ok6b, ok6c, ok6d⟩, ok7, ok8, ok9, ok10, ok11, ok12, ok14, ok15⟩ := id ok
  refine lv_iconst (v := nI (1)) S.1 S.2.1 dX1_windOfStep_0 rfl ?_
  refine lv_aload_n S.1 S.2.1 dX1_windOfStep_1 rfl (lv_at hl 0 rfl) ?_
  refine lv_iload_n S.1 S.2.1 dX1_windOfStep_2 rfl (lv_at hl 1 rfl) ?_
  refine lv_iload_n S.1 S.2.1 dX1_windOfStep_3 rfl (lv_at hl 2 rfl) ?_
  refine k_VI (rest := [.int (nI (1))]) S hK hl.1 hW (KFr.all hW hA) (mX1_teethAt l D c a τ _ t p (by first | omega | exact ht | assumption | (show t < 3; omega) | rfl) (by first | omega | exact hp | assumption | (show p < 32; omega) | rfl)) gX1_windOfStep_X1_teethAt rfl pdX1_teethAt ⟨⟨rfl, rfl⟩, Nat.le_of_ble_eq_true rfl, Nat.le_of_ble_eq_true rfl⟩ 0 1 rfl rfl rfl rfl (Nat.le_of_ble_eq_true rfl) dX1_windOfStep_4 ⟨Nat.le_of_ble_eq_true rfl, Nat.le_of_ble_eq_true rfl⟩ (fun H locs hW => ?_)
  have hW : kw D A s.heap (wS c a τ) H locs := hW
  refine lv_aload_n S.1 S.2.1 dX1_windOfStep_7 rfl (lv_at hl 0 rfl) ?_
  refine kx_get S hK hW hinX1 0 1 rfl rfl 7 (by decide) (List.mem_of_getElem? (i := 1) rfl) (v := .int (nI (τ 7 0))) rfl dX1_windOfStep_8 ?_
  refine lv_iconst (v := nI (4294967295)) S.1 S.2.1 dX1_windOfStep_11 rfl ?_
  refine kn_ixor S dX1_windOfStep_12 ?_
  refine kn_iand S dX1_windOfStep_13 ?_
  refine k_SI (rest := [.int (nI (1))]) S hK hl.1 hW (KFr.nil hW hA) (mJ6_bitCount_0f7a4 l D c  _ ((τ 0 (t * 32 + p)) &&& ((τ 7 0) ^^^ 4294967295)) (Nat.lt_of_le_of_lt Nat.and_le_left (ok0 _ (by omega)))) gX1_windOfStep_J6_bitCount_0f7a4 rfl pdJ6_bitCount_0f7a4 ⟨⟨rfl, rfl⟩, Nat.le_of_ble_eq_true rfl, Nat.le_of_ble_eq_true rfl⟩ rfl (Nat.le_of_ble_eq_true rfl) dX1_windOfStep_14 ⟨Nat.le_of_ble_eq_true rfl, Nat.le_of_ble_eq_true rfl⟩ (fun H locs hW => ?_)
  have hW : kw D A s.heap (wS c a τ) H locs := hW
  refine kn_iadd S dX1_windOfStep_17 ?_
  exact hret 18 _ _ _ _ _ dX1_windOfStep_18 hW (rfl) (rfl)
abbrev rmX1_windOfSteps : Room := { frames := 2, cells := 0, slots := 0, locals := 44 }
theorem pdX1_windOfSteps : kPd yX1_windOfSteps 1 := by decide +kernel
set_option maxHeartbeats 400000 in
set_option maxRecDepth 100000 in
theorem mX1_windOfSteps (l : Launch) (D : va_G) (c : Nat → ClassId) (a : Nat → Nat) (τ : Nat → Nat → Nat) (sz : Nat) (n0 : Nat) (T : Nat) (hn0 : n0 < 1000) (ok : okS τ T) : MI l yX1_windOfSteps wsX1_windOfSteps rmX1_windOfSteps D c sz (wS c a τ) [.ref (a 0), .int (nI (n0))] (nI ((woS τ n0).1)) (wS c a τ) := by
  refine MI.of (cc := cX1_windOfSteps) (maxL := 6) (ty := .int) (by decide) rfl (Nat.le_of_ble_eq_true rfl) rfl ?_
  intro P e s m below meth cd A Q ls hsz S hK hW hA hl hret
  have hl : lv_has ls 6 [(0, .ref (a 0)), (1, .int (nI (n0)))] := hl
  have hinX1 : ∀ w ∈ u_ws RX1 TX1 17, w ∈ wsX1_windOfSteps := by decide +kernel
  obtain ⟨ok0, ok1, ok2, ⟨ok6, ok6a, ok6b, ok6c, ok6d⟩, ok7, ok8, ok9, ok10, ok11, ok12, ok14, ok15⟩ := id ok
  refine lv_iconst (v := nI (0)) S.1 S.2.1 dX1_windOfSteps_0 rfl ?_
  refine lv_istore_n (lv' := [(2, .int (nI (0))), (0, .ref (a 0)), (1, .int (nI (n0)))]) S.1 S.2.1 dX1_windOfSteps_1 rfl hl (by decide) rfl (fun ls hl => ?_)
  refine lv_aload_n S.1 S.2.1 dX1_windOfSteps_2 rfl (lv_at hl 1 rfl) ?_
  refine kx_get S hK hW hinX1 0 1 rfl rfl 8 (by decide) (List.mem_of_getElem? (i := 1) rfl) (v := .int (nI (τ 8 0))) rfl dX1_windOfSteps_3 ?_
  refine lv_istore_n (lv' := [(3, .int (nI (τ 8 0))), (2, .int (nI (0))), (0, .ref (a 0)), (1, .int (nI (n0)))]) S.1 S.2.1 dX1_windOfSteps_6 rfl hl (by decide) rfl (fun ls hl => ?_)
  refine lv_aload_n S.1 S.2.1 dX1_windOfSteps_7 rfl (lv_at hl 2 rfl) ?_
  refine kx_get S hK hW hinX1 0 1 rfl rfl 9 (by decide) (List.mem_of_getElem? (i := 2) rfl) (v := .int (nI (τ 9 0))) rfl dX1_windOfSteps_8 ?_
  refine lv_istore (lv' := [(4, .int (nI (τ 9 0))), (3, .int (nI (τ 8 0))), (2, .int (nI (0))), (0, .ref (a 0)), (1, .int (nI (n0)))]) S.1 S.2.1 dX1_windOfSteps_11 hl (by decide) rfl (fun ls hl => ?_)
  refine lv_iconst (v := nI (0)) S.1 S.2.1 dX1_windOfSteps_13 rfl ?_
  refine lv_istore (lv' := [(5, .int (nI (0))), (4, .int (nI (τ 9 0))), (3, .int (nI (τ 8 0))), (2, .int (nI (0))), (0, .ref (a 0)), (1, .int (nI (n0)))]) S.1 S.2.1 dX1_windOfSteps_14 hl (by decide) rfl (fun ls hl => ?_)
  refine k_loop (fun (zz : Nat × Nat × Nat × Nat) H lo ls => match zz with | (k, n, p, t) => kw D A s.heap (wS c a τ) H lo ∧ lv_has ls 6 [(0, .ref (a 0)), (1, .int (nI (n0))), (2, .int (nI (n))), (3, .int (nI (p))), (4, .int (nI (t))), (5, .int (nI (k)))] ∧ k ≤ n0 ∧ woS τ k = (n, p, t) ∧ p < 32 ∧ t < 3 ∧ n ≤ 33 * k) (fun (zz : Nat × Nat × Nat × Nat) => match zz with | (k, n, p, t) => n0 - k) [] ?_ (0, 0, τ 8 0, τ 9 0) _ _ _ ⟨hW, lv_sub hl [4, 5, 3, 2, 1, 0] rfl, (Nat.zero_le _), rfl, ok8, ok9, (Nat.zero_le _)⟩
  rintro ⟨k, n, p, t⟩ ih16 H locs ls ⟨hW, hl, hk, hp, hp32, ht3, hn⟩
  refine lv_iload S.1 S.2.1 dX1_windOfSteps_16 (lv_at hl 5 rfl) ?_
  refine lv_iload_n S.1 S.2.1 dX1_windOfSteps_18 rfl (lv_at hl 1 rfl) ?_
  refine kn_ge S (tgt := 54) dX1_windOfSteps_19 (by decide) (by omega) (by omega) (fun c_19 => ?_) (fun c_19 => ?_)
  · have e9 : k = n0 := by omega
    rw [e9] at hp
    refine lv_iload_n S.1 S.2.1 dX1_windOfSteps_54 rfl (lv_at hl 2 rfl) ?_
    exact hret 55 _ _ _ _ _ dX1_windOfSteps_55 hW (congrArg nI (by rw [hp])) (rfl)
  · refine lv_iload_n S.1 S.2.1 dX1_windOfSteps_22 rfl (lv_at hl 3 rfl) ?_
    refine lv_iconst (v := nI (1)) S.1 S.2.1 dX1_windOfSteps_23 rfl ?_
    refine kn_iadd S dX1_windOfSteps_24 ?_
    refine k_SI (rest := []) S hK hl.1 hW (KFr.nil hW hA) (mX1_around_k l D c  _ (p + 1) (by first | omega | exact hx | assumption | (show (p + 1) < 2147483648; omega) | rfl)) gX1_windOfSteps_X1_around rfl pdX1_around ⟨⟨rfl, rfl⟩, Nat.le_of_ble_eq_true rfl, Nat.le_of_ble_eq_true rfl⟩ rfl (Nat.le_of_ble_eq_true rfl) dX1_windOfSteps_25 ⟨Nat.le_of_ble_eq_true rfl, Nat.le_of_ble_eq_true rfl⟩ (fun H locs hW => ?_)
    have hW : kw D A s.heap (wS c a τ) H locs := hW
    refine lv_istore_n (lv' := [(3, .int (nI ((p + 1) % 32))), (0, .ref (a 0)), (1, .int (nI (n0))), (2, .int (nI (n))), (4, .int (nI (t))), (5, .int (nI (k)))]) S.1 S.2.1 dX1_windOfSteps_28 rfl hl (by decide) rfl (fun ls hl => ?_)
    refine lv_aload_n S.1 S.2.1 dX1_windOfSteps_29 rfl (lv_at hl 1 rfl) ?_
    refine lv_iload S.1 S.2.1 dX1_windOfSteps_30 (lv_at hl 4 rfl) ?_
    refine lv_iload_n S.1 S.2.1 dX1_windOfSteps_32 rfl (lv_at hl 0 rfl) ?_
    refine k_VI (rest := []) S hK hl.1 hW (KFr.all hW hA) (mX1_tuneComing l D c a τ _ t ((p + 1) % 32) T (by first | omega | exact ht | assumption | (show t < 3; omega) | rfl) (by first | omega | exact hp | assumption | (show ((p + 1) % 32) < 32; omega) | rfl) ok) gX1_windOfSteps_X1_tuneComing rfl pdX1_tuneComing ⟨⟨rfl, rfl⟩, Nat.le_of_ble_eq_true rfl, Nat.le_of_ble_eq_true rfl⟩ 0 1 rfl rfl rfl rfl (Nat.le_of_ble_eq_true rfl) dX1_windOfSteps_33 ⟨Nat.le_of_ble_eq_true rfl, Nat.le_of_ble_eq_true rfl⟩ (fun H locs hW => ?_)
    have hW : kw D A s.heap (wS c a τ) H locs := hW
    refine lv_istore (lv' := [(4, .int (nI (tcS τ t ((p + 1) % 32)))), (3, .int (nI ((p + 1) % 32))), (0, .ref (a 0)), (1, .int (nI (n0))), (2, .int (nI (n))), (5, .int (nI (k)))]) S.1 S.2.1 dX1_windOfSteps_36 hl (by decide) rfl (fun ls hl => ?_)
    refine lv_iload_n S.1 S.2.1 dX1_windOfSteps_38 rfl (lv_at hl 4 rfl) ?_
    refine lv_aload_n S.1 S.2.1 dX1_windOfSteps_39 rfl (lv_at hl 2 rfl) ?_
    refine lv_iload S.1 S.2.1 dX1_windOfSteps_40 (lv_at hl 0 rfl) ?_
    refine lv_iload_n S.1 S.2.1 dX1_windOfSteps_42 rfl (lv_at hl 1 rfl) ?_
    refine k_VI (rest := [.int (nI (n))]) S hK hl.1 hW (KFr.all hW hA) (mX1_windOfStep l D c a τ _ (tcS τ t ((p + 1) % 32)) ((p + 1) % 32) T (tcS_lt ht3) (by first | omega | exact hp | assumption | (show ((p + 1) % 32) < 32; omega) | rfl) ok) gX1_windOfSteps_X1_windOfStep rfl pdX1_windOfStep ⟨⟨rfl, rfl⟩, Nat.le_of_ble_eq_true rfl, Nat.le_of_ble_eq_true rfl⟩ 0 1 rfl rfl rfl rfl (Nat.le_of_ble_eq_true rfl) dX1_windOfSteps_43 ⟨Nat.le_of_ble_eq_true rfl, Nat.le_of_ble_eq_true rfl⟩ (fun H locs hW => ?_)
    have hW : kw D A s.heap (wS c a τ) H locs := hW
    refine kn_iadd S dX1_windOfSteps_46 ?_
    refine lv_istore_n (lv' := [(2, .int (nI (n + (wfS τ (tcS τ t ((p + 1) % 32)) ((p + 1) % 32))))), (4, .int (nI (tcS τ t ((p + 1) % 32)))), (3, .int (nI ((p + 1) % 32))), (0, .ref (a 0)), (1, .int (nI (n0))), (5, .int (nI (k)))]) S.1 S.2.1 dX1_windOfSteps_47 rfl hl (by decide) rfl (fun ls hl => ?_)
    refine lv_iinc (v := nI (k + 1)) (lv' := [(5, .int (nI (k + 1))), (2, .int (nI (n + (wfS τ (tcS τ t ((p + 1) % 32)) ((p + 1) % 32))))), (4, .int (nI (tcS τ t ((p + 1) % 32)))), (3, .int (nI ((p + 1) % 32))), (0, .ref (a 0)), (1, .int (nI (n0)))]) S.1 S.2.1 dX1_windOfSteps_48 hl (k := 5) rfl (nI_add _ _) (by decide) rfl (fun ls hl => ?_)
    refine lv_goto (tgt := 16) S.1 S.2.1 dX1_windOfSteps_51 (by decide) ?_
    exact ih16 (k + 1, n + (wfS τ (tcS τ t ((p + 1) % 32)) ((p + 1) % 32)), (p + 1) % 32, tcS τ t ((p + 1) % 32)) _ _ _ ⟨hW, lv_sub hl [4, 5, 1, 3, 2, 0] rfl, (by omega), (woS_s hp), (Nat.mod_lt _ (by decide)), (tcS_lt ht3), (by have := wfS_le τ (tcS τ t ((p + 1) % 32)) ((p + 1) % 32); omega)⟩ (by show n0 - (k + 1) < n0 - k; omega)
abbrev rmX1_ringsFor : Room := { frames := 1, cells := 0, slots := 0, locals := 21 }
theorem pdX1_ringsFor : kPd yX1_ringsFor 1 := by decide +kernel
set_option maxHeartbeats 400000 in
set_option maxRecDepth 100000 in
theorem mX1_ringsFor (l : Launch) (D : va_G) (c : Nat → ClassId) (a : Nat → Nat) (τ : Nat → Nat → Nat) (sz : Nat) (j : Nat) (T : Nat) (hj : j < 12) (ok : okS τ T) (hT : T < 500000000) : MI l yX1_ringsFor wsX1_ringsFor rmX1_ringsFor D c sz (wS c a τ) [.ref (a 0), .int (nI (j))] (nI (τ 1 j - τ 12 0)) (wS c a τ) := by
  refine MI.of (cc := cX1_ringsFor) (maxL := 2) (ty := .int) (by decide) rfl (Nat.le_of_ble_eq_true rfl) rfl ?_
  intro P e s m below meth cd A Q ls hsz S hK hW hA hl hret
  have hl : lv_has ls 2 [(0, .ref (a 0)), (1, .int (nI (j)))] := hl
  have hinX1 : ∀ w ∈ u_ws RX1 TX1 17, w ∈ wsX1_ringsFor := by decide +kernel
  obtain ⟨ok0, ok1, ok2, ⟨ok6, ok6a, ok6b, ok6c, ok6d⟩, ok7, ok8, ok9, ok10, ok11, ok12, ok14, ok15⟩ := id ok
  have h1 := ok1 j hj
  refine lv_iconst (v := nI (0)) S.1 S.2.1 dX1_ringsFor_0 rfl ?_
  refine lv_aload_n S.1 S.2.1 dX1_ringsFor_1 rfl (lv_at hl 0 rfl) ?_
  refine kx_get S hK hW hinX1 0 1 rfl rfl 1 (by decide) (List.mem_of_getElem? (i := 1) rfl) (v := .ref (a 2)) rfl dX1_ringsFor_2 ?_
  refine lv_iload_n S.1 S.2.1 dX1_ringsFor_5 rfl (lv_at hl 1 rfl) ?_
  refine kn_ald S hK hW 2 (f := τ 1) rfl (by omega) (by decide) dX1_ringsFor_6 ?_
  refine lv_aload_n S.1 S.2.1 dX1_ringsFor_7 rfl (lv_at hl 0 rfl) ?_
  refine kx_get S hK hW hinX1 0 1 rfl rfl 12 (by decide) (List.mem_of_getElem? (i := 2) rfl) (v := .int (nI (τ 12 0))) rfl dX1_ringsFor_8 ?_
  refine lv_isub S.1 S.2.1 dX1_ringsFor_11 ?_
  refine kr_max S hl.1 (List.mem_of_getElem? (i := 3) rfl) (List.mem_of_getElem? (i := 4) rfl) (List.mem_of_getElem? (i := 5) rfl) (List.mem_of_getElem? (i := 6) rfl) ⟨Nat.le_of_ble_eq_true rfl, Nat.le_of_ble_eq_true rfl⟩ ⟨Nat.le_of_ble_eq_true rfl, Nat.le_of_ble_eq_true rfl⟩ dX1_ringsFor_12 ?_
  refine k_top (y := nI (τ 1 j - τ 12 0)) (k_mx0 (by omega) (by omega)) ?_
  exact hret 15 _ _ _ _ _ dX1_ringsFor_15 hW (rfl) (rfl)
abbrev rmX1_isBroken : Room := { frames := 0, cells := 0, slots := 0, locals := 0 }
theorem pdX1_isBroken : kPd yX1_isBroken 1 := by decide +kernel
set_option maxHeartbeats 400000 in
set_option maxRecDepth 100000 in
theorem mX1_isBroken (l : Launch) (D : va_G) (c : Nat → ClassId) (a : Nat → Nat) (τ : Nat → Nat → Nat) (sz : Nat) (j : Nat) (hj : j < 12) : MI l yX1_isBroken wsX1_isBroken rmX1_isBroken D c sz (wS c a τ) [.ref (a 0), .int (nI (j))] (nI ((τ 7 0).testBit j).toNat) (wS c a τ) := by
  refine MI.of (cc := cX1_isBroken) (maxL := 2) (ty := .boolean) (by decide) rfl (Nat.le_of_ble_eq_true rfl) (k_narB _) ?_
  intro P e s m below meth cd A Q ls hsz S hK hW hA hl hret
  have hl : lv_has ls 2 [(0, .ref (a 0)), (1, .int (nI (j)))] := hl
  have hinX1 : ∀ w ∈ u_ws RX1 TX1 17, w ∈ wsX1_isBroken := by decide +kernel
  refine lv_aload_n S.1 S.2.1 dX1_isBroken_0 rfl (lv_at hl 0 rfl) ?_
  refine kx_get S hK hW hinX1 0 1 rfl rfl 7 (by decide) (List.mem_of_getElem? (i := 1) rfl) (v := .int (nI (τ 7 0))) rfl dX1_isBroken_1 ?_
  refine lv_iload_n S.1 S.2.1 dX1_isBroken_4 rfl (lv_at hl 1 rfl) ?_
  refine lv_ishr S.1 S.2.1 dX1_isBroken_5 ?_
  refine lv_iconst (v := nI (1)) S.1 S.2.1 dX1_isBroken_6 rfl ?_
  refine kn_tbit S (by omega) dX1_isBroken_7 ?_
  refine k_top (y := nI (((τ 7 0).testBit j).toNat)) (rfl) ?_
  refine kb_eq S (tgt := 15) dX1_isBroken_8 (by decide) (fun c_8 => ?_) (fun c_8 => ?_)
  · refine lv_iconst (v := nI (0)) S.1 S.2.1 dX1_isBroken_15 rfl ?_
    exact hret 16 _ _ _ _ _ dX1_isBroken_16 hW (by rw [c_8]; rfl) (rfl)
  · refine lv_iconst (v := nI (1)) S.1 S.2.1 dX1_isBroken_11 rfl ?_
    refine lv_goto (tgt := 16) S.1 S.2.1 dX1_isBroken_12 (by decide) ?_
    exact hret 16 _ _ _ _ _ dX1_isBroken_16 hW (by rw [c_8]; rfl) (rfl)
abbrev rmX1_teethBroken : Room := { frames := 1, cells := 0, slots := 0, locals := 20 }
theorem pdX1_teethBroken : kPd yX1_teethBroken 0 := by decide +kernel
set_option maxHeartbeats 400000 in
set_option maxRecDepth 100000 in
theorem mX1_teethBroken (l : Launch) (D : va_G) (c : Nat → ClassId) (a : Nat → Nat) (τ : Nat → Nat → Nat) (sz : Nat) (T : Nat) (ok : okS τ T) : MI l yX1_teethBroken wsX1_teethBroken rmX1_teethBroken D c sz (wS c a τ) [.ref (a 0)] (nI (ones (τ 7 0))) (wS c a τ) := by
  refine MI.of (cc := cX1_teethBroken) (maxL := 1) (ty := .int) (by decide) rfl (Nat.le_of_ble_eq_true rfl) rfl ?_
  intro P e s m below meth cd A Q ls hsz S hK hW hA hl hret
  have hl : lv_has ls 1 [(0, .ref (a 0))] := hl
  have hinX1 : ∀ w ∈ u_ws RX1 TX1 17, w ∈ wsX1_teethBroken := by decide +kernel
  obtain ⟨ok0, ok1, ok2, ⟨ok6, ok6a, ok6b, ok6c, ok6d⟩, ok7, ok8, ok9, ok10, ok11, ok12, ok14, ok15⟩ := id ok
  refine lv_aload_n S.1 S.2.1 dX1_teethBroken_0 rfl (lv_at hl 0 rfl) ?_
  refine kx_get S hK hW hinX1 0 1 rfl rfl 7 (by decide) (List.mem_of_getElem? (i := 1) rfl) (v := .int (nI (τ 7 0))) rfl dX1_teethBroken_1 ?_
  refine k_SI (rest := []) S hK hl.1 hW (KFr.nil hW hA) (mJ6_bitCount_0f7a4 l D c  _ (τ 7 0) (by first | omega | exact hx | assumption | (show (τ 7 0) < 4096; omega) | rfl)) gX1_teethBroken_J6_bitCount_0f7a4 rfl pdJ6_bitCount_0f7a4 ⟨⟨rfl, rfl⟩, Nat.le_of_ble_eq_true rfl, Nat.le_of_ble_eq_true rfl⟩ rfl (Nat.le_of_ble_eq_true rfl) dX1_teethBroken_4 ⟨Nat.le_of_ble_eq_true rfl, Nat.le_of_ble_eq_true rfl⟩ (fun H locs hW => ?_)
  have hW : kw D A s.heap (wS c a τ) H locs := hW
  exact hret 7 _ _ _ _ _ dX1_teethBroken_7 hW (rfl) (rfl)
abbrev rmX1_squeak : Room := { frames := 0, cells := 0, slots := 0, locals := 0 }
theorem pdX1_squeak : kPd yX1_squeak 1 := by decide +kernel
set_option maxHeartbeats 400000 in
set_option maxRecDepth 100000 in
theorem mX1_squeak (l : Launch) (D : va_G) (c : Nat → ClassId) (a : Nat → Nat) (τ : Nat → Nat → Nat) (sz : Nat) (j : Nat) (T : Nat) (hj : j < 12) (ok : okS τ T) : MV l yX1_squeak wsX1_squeak rmX1_squeak D c sz (wS c a τ) [.ref (a 0), .int (nI (j))]  (wS c a (sqS τ j)) := by
  refine MV.of (cc := cX1_squeak) (maxL := 2) (by decide) rfl (Nat.le_of_ble_eq_true rfl) ?_
  intro P e s m below meth cd A Q ls hsz S hK hW hA hl hret
  have hl : lv_has ls 2 [(0, .ref (a 0)), (1, .int (nI (j)))] := hl
  have hinX1 : ∀ w ∈ u_ws RX1 TX1 17, w ∈ wsX1_squeak := by decide +kernel
  obtain ⟨ok0, ok1, ok2, ⟨ok6, ok6a, ok6b, ok6c, ok6d⟩, ok7, ok8, ok9, ok10, ok11, ok12, ok14, ok15⟩ := id ok
  have h2 := ok2 j hj
  refine lv_aload_n S.1 S.2.1 dX1_squeak_0 rfl (lv_at hl 0 rfl) ?_
  refine lv_dup S.1 S.2.1 dX1_squeak_1 rfl ?_
  refine kx_get S hK hW hinX1 0 1 rfl rfl 15 (by decide) (List.mem_of_getElem? (i := 1) rfl) (v := .int (nI (τ 15 0))) rfl dX1_squeak_2 ?_
  refine lv_iconst (v := nI (1)) S.1 S.2.1 dX1_squeak_5 rfl ?_
  refine kn_iadd S dX1_squeak_6 ?_
  refine kx_put S hK hW hinX1 tyX1_ok nmX1 0 1 rfl rfl 15 (by decide) (List.mem_of_getElem? (i := 1) rfl) rfl (v := .int (nI (τ 15 0 + 1))) rfl rfl (Nat.le_of_ble_eq_true rfl) dX1_squeak_7 (fun H locs hW => ?_)
  have hW : kw D A s.heap (wS c a (pu τ 15 (kc (τ 15 0 + 1)))) H locs := hW
  refine lv_aload_n S.1 S.2.1 dX1_squeak_10 rfl (lv_at hl 0 rfl) ?_
  refine kx_get S hK hW hinX1 0 1 rfl rfl 2 (by decide) (List.mem_of_getElem? (i := 2) rfl) (v := .ref (a 3)) rfl dX1_squeak_11 ?_
  refine lv_iload_n S.1 S.2.1 dX1_squeak_14 rfl (lv_at hl 1 rfl) ?_
  refine kn_ald S hK hW 3 (f := τ 2) rfl (by omega) (by decide) dX1_squeak_15 ?_
  refine lv_bipush (v := nI (9)) S.1 S.2.1 dX1_squeak_16 rfl ?_
  refine kn_ge S (tgt := 34) dX1_squeak_18 (by decide) (by omega) (by omega) (fun c_18 => ?_) (fun c_18 => ?_)
  · refine lv_aload_n S.1 S.2.1 dX1_squeak_34 rfl (lv_at hl 0 rfl) ?_
    refine lv_dup S.1 S.2.1 dX1_squeak_35 rfl ?_
    refine kx_get S hK hW hinX1 0 1 rfl rfl 7 (by decide) (List.mem_of_getElem? (i := 3) rfl) (v := .int (nI (τ 7 0))) rfl dX1_squeak_36 ?_
    refine lv_iconst (v := nI (1)) S.1 S.2.1 dX1_squeak_39 rfl ?_
    refine lv_iload_n S.1 S.2.1 dX1_squeak_40 rfl (lv_at hl 1 rfl) ?_
    refine kn_shl1 S dX1_squeak_41 (by omega) ?_
    refine kn_ior S dX1_squeak_42 ?_
    refine kx_put S hK hW hinX1 tyX1_ok nmX1 0 1 rfl rfl 7 (by decide) (List.mem_of_getElem? (i := 3) rfl) rfl (v := .int (nI ((τ 7 0) ||| (2 ^ j)))) rfl rfl (Nat.le_of_ble_eq_true rfl) dX1_squeak_43 (fun H locs hW => ?_)
    have hW : kw D A s.heap (wS c a (pu (pu τ 15 (kc (τ 15 0 + 1))) 7 (kc ((τ 7 0) ||| (2 ^ j))))) H locs := hW
    refine lv_aload_n S.1 S.2.1 dX1_squeak_46 rfl (lv_at hl 0 rfl) ?_
    refine kx_get S hK hW hinX1 0 1 rfl rfl 1 (by decide) (List.mem_of_getElem? (i := 4) rfl) (v := .ref (a 2)) rfl dX1_squeak_47 ?_
    refine lv_iload_n S.1 S.2.1 dX1_squeak_50 rfl (lv_at hl 1 rfl) ?_
    refine lv_aload_n S.1 S.2.1 dX1_squeak_51 rfl (lv_at hl 0 rfl) ?_
    refine kx_get S hK hW hinX1 0 1 rfl rfl 12 (by decide) (List.mem_of_getElem? (i := 5) rfl) (v := .int (nI (τ 12 0))) rfl dX1_squeak_52 ?_
    refine kn_ast S hK hW 2 (f := τ 1) rfl (by omega) (by decide) dX1_squeak_55 (fun H locs hW => ?_)
    have hW : kw D A s.heap (wS c a (pu (pu (pu τ 15 (kc (τ 15 0 + 1))) 7 (kc ((τ 7 0) ||| (2 ^ j)))) 1 (fu (τ 1) j (τ 12 0)))) H locs := hW
    exact hret 56 _ _ _ _ dX1_squeak_56 hW (congrArg (wS c a) (by unfold sqS; first | rw [if_pos c_18] | rw [if_neg (by omega)]))
  · refine lv_aload_n S.1 S.2.1 dX1_squeak_21 rfl (lv_at hl 0 rfl) ?_
    refine kx_get S hK hW hinX1 0 1 rfl rfl 2 (by decide) (List.mem_of_getElem? (i := 2) rfl) (v := .ref (a 3)) rfl dX1_squeak_22 ?_
    refine lv_iload_n S.1 S.2.1 dX1_squeak_25 rfl (lv_at hl 1 rfl) ?_
    refine lv_dup2_11 S.1 S.2.1 dX1_squeak_26 rfl rfl ?_
    refine kn_ald S hK hW 3 (f := τ 2) rfl (by omega) (by decide) dX1_squeak_27 ?_
    refine lv_iconst (v := nI (1)) S.1 S.2.1 dX1_squeak_28 rfl ?_
    refine kn_iadd S dX1_squeak_29 ?_
    refine kn_ast S hK hW 3 (f := τ 2) rfl (by omega) (by decide) dX1_squeak_30 (fun H locs hW => ?_)
    have hW : kw D A s.heap (wS c a (pu (pu τ 15 (kc (τ 15 0 + 1))) 2 (fu (τ 2) j (τ 2 (j) + 1)))) H locs := hW
    refine lv_goto (tgt := 56) S.1 S.2.1 dX1_squeak_31 (by decide) ?_
    exact hret 56 _ _ _ _ dX1_squeak_56 hW (congrArg (wS c a) (by unfold sqS; first | rw [if_pos c_18] | rw [if_neg (by omega)]))
abbrev rmX1_pluck : Room := { frames := 1, cells := 0, slots := 0, locals := 22 }
theorem pdX1_pluck : kPd yX1_pluck 1 := by decide +kernel
set_option maxHeartbeats 400000 in
set_option maxRecDepth 100000 in
theorem mX1_pluck (l : Launch) (D : va_G) (c : Nat → ClassId) (a : Nat → Nat) (τ : Nat → Nat → Nat) (sz : Nat) (j : Nat) (T : Nat) (hj : j < 12) (ok : okS τ T) (hT : T < 500000000) : MV l yX1_pluck wsX1_pluck rmX1_pluck D c sz (wS c a τ) [.ref (a 0), .int (nI (j))]  (wS c a (plS τ j)) := by
  refine MV.of (cc := cX1_pluck) (maxL := 3) (by decide) rfl (Nat.le_of_ble_eq_true rfl) ?_
  intro P e s m below meth cd A Q ls hsz S hK hW hA hl hret
  have hl : lv_has ls 3 [(0, .ref (a 0)), (1, .int (nI (j)))] := hl
  have hinX1 : ∀ w ∈ u_ws RX1 TX1 17, w ∈ wsX1_pluck := by decide +kernel
  obtain ⟨ok0, ok1, ok2, ⟨ok6, ok6a, ok6b, ok6c, ok6d⟩, ok7, ok8, ok9, ok10, ok11, ok12, ok14, ok15⟩ := id ok
  refine lv_aload_n S.1 S.2.1 dX1_pluck_0 rfl (lv_at hl 0 rfl) ?_
  refine kx_get S hK hW hinX1 0 1 rfl rfl 1 (by decide) (List.mem_of_getElem? (i := 1) rfl) (v := .ref (a 2)) rfl dX1_pluck_1 ?_
  refine lv_iload_n S.1 S.2.1 dX1_pluck_4 rfl (lv_at hl 1 rfl) ?_
  refine lv_aload_n S.1 S.2.1 dX1_pluck_5 rfl (lv_at hl 0 rfl) ?_
  refine kx_get S hK hW hinX1 0 1 rfl rfl 12 (by decide) (List.mem_of_getElem? (i := 2) rfl) (v := .int (nI (τ 12 0))) rfl dX1_pluck_6 ?_
  refine lv_iconst (v := nI (4)) S.1 S.2.1 dX1_pluck_9 rfl ?_
  refine lv_aload_n S.1 S.2.1 dX1_pluck_10 rfl (lv_at hl 0 rfl) ?_
  refine kx_get S hK hW hinX1 0 1 rfl rfl 6 (by decide) (List.mem_of_getElem? (i := 3) rfl) (v := .ref (a 7)) rfl dX1_pluck_11 ?_
  refine lv_iconst (v := nI (0)) S.1 S.2.1 dX1_pluck_14 rfl ?_
  refine kn_ald S hK hW 7 (f := τ 6) rfl (by omega) (by decide) dX1_pluck_15 ?_
  refine lv_iconst (v := nI (2)) S.1 S.2.1 dX1_pluck_16 rfl ?_
  refine lv_iload_n S.1 S.2.1 dX1_pluck_17 rfl (lv_at hl 1 rfl) ?_
  refine kn_imul S dX1_pluck_18 ?_
  refine lv_isub S.1 S.2.1 dX1_pluck_19 ?_
  refine kr_max S hl.1 (List.mem_of_getElem? (i := 4) rfl) (List.mem_of_getElem? (i := 5) rfl) (List.mem_of_getElem? (i := 6) rfl) (List.mem_of_getElem? (i := 7) rfl) ⟨Nat.le_of_ble_eq_true rfl, Nat.le_of_ble_eq_true rfl⟩ ⟨Nat.le_of_ble_eq_true rfl, Nat.le_of_ble_eq_true rfl⟩ dX1_pluck_20 ?_
  refine k_top (y := nI (max 4 (τ 6 0 - 2 * j))) (k_mx4 (by omega) (by omega)) ?_
  refine kn_iadd S dX1_pluck_23 ?_
  refine kn_ast S hK hW 2 (f := τ 1) rfl (by omega) (by decide) dX1_pluck_24 (fun H locs hW => ?_)
  have hW : kw D A s.heap (wS c a (pu τ 1 (fu (τ 1) j (τ 12 0 + (max 4 (τ 6 0 - 2 * j)))))) H locs := hW
  refine lv_aload_n S.1 S.2.1 dX1_pluck_25 rfl (lv_at hl 0 rfl) ?_
  refine kx_get S hK hW hinX1 0 1 rfl rfl 3 (by decide) (List.mem_of_getElem? (i := 8) rfl) (v := .ref (a 4)) rfl dX1_pluck_26 ?_
  refine lv_iload_n S.1 S.2.1 dX1_pluck_29 rfl (lv_at hl 1 rfl) ?_
  refine lv_dup2_11 S.1 S.2.1 dX1_pluck_30 rfl rfl ?_
  refine kn_ald S hK hW 4 (f := τ 3) rfl (by omega) (by decide) dX1_pluck_31 ?_
  refine lv_iconst (v := nI (1)) S.1 S.2.1 dX1_pluck_32 rfl ?_
  refine kn_iadd S dX1_pluck_33 ?_
  refine kn_ast S hK hW 4 (f := τ 3) rfl (by omega) (by decide) dX1_pluck_34 (fun H locs hW => ?_)
  have hW : kw D A s.heap (wS c a (pu (pu τ 1 (fu (τ 1) j (τ 12 0 + (max 4 (τ 6 0 - 2 * j))))) 3 (fu (τ 3) j (τ 3 (j) + 1)))) H locs := hW
  refine lv_aload_n S.1 S.2.1 dX1_pluck_35 rfl (lv_at hl 0 rfl) ?_
  refine kx_get S hK hW hinX1 0 1 rfl rfl 14 (by decide) (List.mem_of_getElem? (i := 9) rfl) (v := .int (nI (τ 14 0))) rfl dX1_pluck_36 ?_
  refine lv_bipush (v := nI (24)) S.1 S.2.1 dX1_pluck_39 rfl ?_
  refine k_SI (rest := []) S hK hl.1 hW (KFr.nil hW hA) (mJ9_floorMod_7cf53_k l D c  _ (τ 14 0) 24 (by first | omega | exact hx | assumption | (show (τ 14 0) < 2147483648; omega) | rfl) (by first | omega | exact h0 | assumption | (show 0 < 24; omega) | rfl) (by first | omega | exact hy | assumption | (show 24 < 2147483648; omega) | rfl)) gX1_pluck_J9_floorMod_7cf53 rfl pdJ9_floorMod_7cf53 ⟨⟨rfl, rfl⟩, Nat.le_of_ble_eq_true rfl, Nat.le_of_ble_eq_true rfl⟩ rfl (Nat.le_of_ble_eq_true rfl) dX1_pluck_41 ⟨Nat.le_of_ble_eq_true rfl, Nat.le_of_ble_eq_true rfl⟩ (fun H locs hW => ?_)
  have hW : kw D A s.heap (wS c a (pu (pu τ 1 (fu (τ 1) j (τ 12 0 + (max 4 (τ 6 0 - 2 * j))))) 3 (fu (τ 3) j (τ 3 (j) + 1)))) H locs := hW
  refine lv_istore_n (lv' := [(2, .int (nI ((τ 14 0) % 24))), (0, .ref (a 0)), (1, .int (nI (j)))]) S.1 S.2.1 dX1_pluck_44 rfl hl (by decide) rfl (fun ls hl => ?_)
  refine lv_aload_n S.1 S.2.1 dX1_pluck_45 rfl (lv_at hl 1 rfl) ?_
  refine kx_get S hK hW hinX1 0 1 rfl rfl 4 (by decide) (List.mem_of_getElem? (i := 10) rfl) (v := .ref (a 5)) rfl dX1_pluck_46 ?_
  refine lv_iload_n S.1 S.2.1 dX1_pluck_49 rfl (lv_at hl 0 rfl) ?_
  refine lv_iload_n S.1 S.2.1 dX1_pluck_50 rfl (lv_at hl 2 rfl) ?_
  refine kn_ast S hK hW 5 (f := τ 4) rfl (by omega) (by decide) dX1_pluck_51 (fun H locs hW => ?_)
  have hW : kw D A s.heap (wS c a (pu (pu (pu τ 1 (fu (τ 1) j (τ 12 0 + (max 4 (τ 6 0 - 2 * j))))) 3 (fu (τ 3) j (τ 3 (j) + 1))) 4 (fu (τ 4) ((τ 14 0) % 24) j))) H locs := hW
  refine lv_aload_n S.1 S.2.1 dX1_pluck_52 rfl (lv_at hl 1 rfl) ?_
  refine kx_get S hK hW hinX1 0 1 rfl rfl 5 (by decide) (List.mem_of_getElem? (i := 11) rfl) (v := .ref (a 6)) rfl dX1_pluck_53 ?_
  refine lv_iload_n S.1 S.2.1 dX1_pluck_56 rfl (lv_at hl 0 rfl) ?_
  refine lv_aload_n S.1 S.2.1 dX1_pluck_57 rfl (lv_at hl 1 rfl) ?_
  refine kx_get S hK hW hinX1 0 1 rfl rfl 12 (by decide) (List.mem_of_getElem? (i := 2) rfl) (v := .int (nI (τ 12 0))) rfl dX1_pluck_58 ?_
  refine kn_ast S hK hW 6 (f := τ 5) rfl (by omega) (by decide) dX1_pluck_61 (fun H locs hW => ?_)
  have hW : kw D A s.heap (wS c a (pu (pu (pu (pu τ 1 (fu (τ 1) j (τ 12 0 + (max 4 (τ 6 0 - 2 * j))))) 3 (fu (τ 3) j (τ 3 (j) + 1))) 4 (fu (τ 4) ((τ 14 0) % 24) j)) 5 (fu (τ 5) ((τ 14 0) % 24) (τ 12 0)))) H locs := hW
  refine lv_aload_n S.1 S.2.1 dX1_pluck_62 rfl (lv_at hl 1 rfl) ?_
  refine lv_dup S.1 S.2.1 dX1_pluck_63 rfl ?_
  refine kx_get S hK hW hinX1 0 1 rfl rfl 14 (by decide) (List.mem_of_getElem? (i := 9) rfl) (v := .int (nI (τ 14 0))) rfl dX1_pluck_64 ?_
  refine lv_iconst (v := nI (1)) S.1 S.2.1 dX1_pluck_67 rfl ?_
  refine kn_iadd S dX1_pluck_68 ?_
  refine kx_put S hK hW hinX1 tyX1_ok nmX1 0 1 rfl rfl 14 (by decide) (List.mem_of_getElem? (i := 9) rfl) rfl (v := .int (nI (τ 14 0 + 1))) rfl rfl (Nat.le_of_ble_eq_true rfl) dX1_pluck_69 (fun H locs hW => ?_)
  have hW : kw D A s.heap (wS c a (pu (pu (pu (pu (pu τ 1 (fu (τ 1) j (τ 12 0 + (max 4 (τ 6 0 - 2 * j))))) 3 (fu (τ 3) j (τ 3 (j) + 1))) 4 (fu (τ 4) ((τ 14 0) % 24) j)) 5 (fu (τ 5) ((τ 14 0) % 24) (τ 12 0))) 14 (kc (τ 14 0 + 1)))) H locs := hW
  exact hret 72 _ _ _ _ dX1_pluck_72 hW (rfl)
abbrev rmX1_strike : Room := { frames := 2, cells := 0, slots := 0, locals := 44 }
theorem pdX1_strike : kPd yX1_strike 2 := by decide +kernel
set_option maxHeartbeats 400000 in
set_option maxRecDepth 100000 in
theorem mX1_strike (l : Launch) (D : va_G) (c : Nat → ClassId) (a : Nat → Nat) (τ : Nat → Nat → Nat) (sz : Nat) (j : Nat) (w : Nat) (T : Nat) (hj : j < 12) (hw : w < 100) (ok : okS τ T) (hT : T < 400000000) : MV l yX1_strike wsX1_strike rmX1_strike D c sz (wS c a τ) [.ref (a 0), .int (nI (j)), .int (nI (w))]  (wS c a (srS τ j w)) := by
  refine MV.of (cc := cX1_strike) (maxL := 4) (by decide) rfl (Nat.le_of_ble_eq_true rfl) ?_
  intro P e s m below meth cd A Q ls hsz S hK hW hA hl hret
  have hl : lv_has ls 4 [(0, .ref (a 0)), (1, .int (nI (j))), (2, .int (nI (w)))] := hl
  have hinX1 : ∀ w ∈ u_ws RX1 TX1 17, w ∈ wsX1_strike := by decide +kernel
  obtain ⟨ok0, ok1, ok2, ⟨ok6, ok6a, ok6b, ok6c, ok6d⟩, ok7, ok8, ok9, ok10, ok11, ok12, ok14, ok15⟩ := id ok
  have h2 := ok2 j hj
  have h1 := ok1 j hj
  refine lv_iload_n S.1 S.2.1 dX1_strike_0 rfl (lv_at hl 2 rfl) ?_
  refine lv_aload_n S.1 S.2.1 dX1_strike_1 rfl (lv_at hl 0 rfl) ?_
  refine kx_get S hK hW hinX1 0 1 rfl rfl 6 (by decide) (List.mem_of_getElem? (i := 1) rfl) (v := .ref (a 7)) rfl dX1_strike_2 ?_
  refine lv_iconst (v := nI (1)) S.1 S.2.1 dX1_strike_5 rfl ?_
  refine kn_ald S hK hW 7 (f := τ 6) rfl (by omega) (by decide) dX1_strike_6 ?_
  refine lv_aload_n S.1 S.2.1 dX1_strike_7 rfl (lv_at hl 0 rfl) ?_
  refine kx_get S hK hW hinX1 0 1 rfl rfl 2 (by decide) (List.mem_of_getElem? (i := 2) rfl) (v := .ref (a 3)) rfl dX1_strike_8 ?_
  refine lv_iload_n S.1 S.2.1 dX1_strike_11 rfl (lv_at hl 1 rfl) ?_
  refine kn_ald S hK hW 3 (f := τ 2) rfl (by omega) (by decide) dX1_strike_12 ?_
  refine kn_iadd S dX1_strike_13 ?_
  refine kn_le S (tgt := 21) dX1_strike_14 (by decide) (by omega) (by omega) (fun c_14 => ?_) (fun c_14 => ?_)
  · refine lv_iconst (v := nI (0)) S.1 S.2.1 dX1_strike_21 rfl ?_
    refine lv_istore_n (lv' := [(3, .int (nI (0))), (0, .ref (a 0)), (1, .int (nI (j))), (2, .int (nI (w)))]) S.1 S.2.1 dX1_strike_22 rfl hl (by decide) rfl (fun ls hl => ?_)
    refine lv_aload_n S.1 S.2.1 dX1_strike_23 rfl (lv_at hl 1 rfl) ?_
    refine lv_iload_n S.1 S.2.1 dX1_strike_24 rfl (lv_at hl 2 rfl) ?_
    refine k_VI (rest := []) S hK hl.1 hW (KFr.all hW hA) (mX1_ringsFor l D c a τ _ j T (by first | omega | exact hj | assumption | (show j < 12; omega) | rfl) ok (by first | omega | exact hT | assumption | (show T < 500000000; omega) | rfl)) gX1_strike_X1_ringsFor rfl pdX1_ringsFor ⟨⟨rfl, rfl⟩, Nat.le_of_ble_eq_true rfl, Nat.le_of_ble_eq_true rfl⟩ 0 1 rfl rfl rfl rfl (Nat.le_of_ble_eq_true rfl) dX1_strike_25 ⟨Nat.le_of_ble_eq_true rfl, Nat.le_of_ble_eq_true rfl⟩ (fun H locs hW => ?_)
    have hW : kw D A s.heap (wS c a τ) H locs := hW
    refine kz_le S (tgt := 40) dX1_strike_28 (by decide) (by omega) (fun c_28 => ?_) (fun c_28 => ?_)
    · have hW : kw D A s.heap (wS c a (stS τ j w)) H locs := by rw [show stS τ j w = τ from if_neg (fun q => absurd q.1 (by omega))]; exact hW
      have okt : okS (stS τ j w) (T + 1) := stS_ok ok hj
      refine lv_aload_n S.1 S.2.1 dX1_strike_40 rfl (lv_at hl 1 rfl) ?_
      refine lv_iload_n S.1 S.2.1 dX1_strike_41 rfl (lv_at hl 2 rfl) ?_
      refine k_VI (rest := []) S hK hl.1 hW (KFr.all hW hA) (mX1_isBroken l D c a ((stS τ j w)) _ j (by first | omega | exact hj | assumption | (show j < 12; omega) | rfl)) gX1_strike_X1_isBroken rfl pdX1_isBroken ⟨⟨rfl, rfl⟩, Nat.le_of_ble_eq_true rfl, Nat.le_of_ble_eq_true rfl⟩ 0 1 rfl rfl rfl rfl (Nat.le_of_ble_eq_true rfl) dX1_strike_42 ⟨Nat.le_of_ble_eq_true rfl, Nat.le_of_ble_eq_true rfl⟩ (fun H locs hW => ?_)
      have hW : kw D A s.heap (wS c a (stS τ j w)) H locs := hW
      refine k_top (y := nI (((((stS τ j w) 7 0)).testBit j).toNat)) rfl ?_
      refine kb_ne S (tgt := 53) dX1_strike_45 (by decide) (fun c_45 => ?_) (fun c_45 => ?_)
      · exact hret 53 _ _ _ _ dX1_strike_53 hW (congrArg (wS c a) (by unfold srS; first | rw [if_pos c_45] | rw [if_neg (by rw [c_45]; decide)]))
      · refine lv_aload_n S.1 S.2.1 dX1_strike_48 rfl (lv_at hl 1 rfl) ?_
        refine lv_iload_n S.1 S.2.1 dX1_strike_49 rfl (lv_at hl 2 rfl) ?_
        refine k_VV (rest := []) S hK hl.1 hW (KFr.all hW hA) (mX1_pluck l D c a ((stS τ j w)) _ j (T + 1) (by first | omega | exact hj | assumption | (show j < 12; omega) | rfl) okt (by first | omega | exact hT | assumption | (show (T + 1) < 500000000; omega) | rfl)) gX1_strike_X1_pluck rfl pdX1_pluck ⟨⟨rfl, rfl⟩, Nat.le_of_ble_eq_true rfl, Nat.le_of_ble_eq_true rfl⟩ 0 1 rfl rfl rfl rfl (Nat.le_of_ble_eq_true rfl) dX1_strike_50 ⟨Nat.le_of_ble_eq_true rfl, Nat.le_of_ble_eq_true rfl⟩ (fun H locs hW => ?_)
        have hW : kw D A s.heap (wS c a (plS ((stS τ j w)) j)) H locs := hW
        exact hret 53 _ _ _ _ dX1_strike_53 hW (congrArg (wS c a) (by unfold srS; first | rw [if_pos c_45] | rw [if_neg (by rw [c_45]; decide)]))
    · refine lv_iload_n S.1 S.2.1 dX1_strike_31 rfl (lv_at hl 0 rfl) ?_
      refine kz_ne S (tgt := 40) dX1_strike_32 (by decide) (by omega) (fun c_32 => ?_) (fun c_32 => ?_)
      · exact absurd c_32 (by decide)
      · refine lv_aload_n S.1 S.2.1 dX1_strike_35 rfl (lv_at hl 1 rfl) ?_
        refine lv_iload_n S.1 S.2.1 dX1_strike_36 rfl (lv_at hl 2 rfl) ?_
        refine k_VV (rest := []) S hK hl.1 hW (KFr.all hW hA) (mX1_squeak l D c a τ _ j T (by first | omega | exact hj | assumption | (show j < 12; omega) | rfl) ok) gX1_strike_X1_squeak rfl pdX1_squeak ⟨⟨rfl, rfl⟩, Nat.le_of_ble_eq_true rfl, Nat.le_of_ble_eq_true rfl⟩ 0 1 rfl rfl rfl rfl (Nat.le_of_ble_eq_true rfl) dX1_strike_37 ⟨Nat.le_of_ble_eq_true rfl, Nat.le_of_ble_eq_true rfl⟩ (fun H locs hW => ?_)
        have hW : kw D A s.heap (wS c a (sqS τ j)) H locs := hW
        have hW : kw D A s.heap (wS c a (stS τ j w)) H locs := by rw [show stS τ j w = ((sqS τ j)) from if_pos ⟨c_28, Nat.not_lt.mpr c_14⟩]; exact hW
        have okt : okS (stS τ j w) (T + 1) := stS_ok ok hj
        refine lv_aload_n S.1 S.2.1 dX1_strike_40 rfl (lv_at hl 1 rfl) ?_
        refine lv_iload_n S.1 S.2.1 dX1_strike_41 rfl (lv_at hl 2 rfl) ?_
        refine k_VI (rest := []) S hK hl.1 hW (KFr.all hW hA) (mX1_isBroken l D c a ((stS τ j w)) _ j (by first | omega | exact hj | assumption | (show j < 12; omega) | rfl)) gX1_strike_X1_isBroken rfl pdX1_isBroken ⟨⟨rfl, rfl⟩, Nat.le_of_ble_eq_true rfl, Nat.le_of_ble_eq_true rfl⟩ 0 1 rfl rfl rfl rfl (Nat.le_of_ble_eq_true rfl) dX1_strike_42 ⟨Nat.le_of_ble_eq_true rfl, Nat.le_of_ble_eq_true rfl⟩ (fun H locs hW => ?_)
        have hW : kw D A s.heap (wS c a (stS τ j w)) H locs := hW
        refine k_top (y := nI (((((stS τ j w) 7 0)).testBit j).toNat)) rfl ?_
        refine kb_ne S (tgt := 53) dX1_strike_45 (by decide) (fun c_45 => ?_) (fun c_45 => ?_)
        · exact hret 53 _ _ _ _ dX1_strike_53 hW (congrArg (wS c a) (by unfold srS; first | rw [if_pos c_45] | rw [if_neg (by rw [c_45]; decide)]))
        · refine lv_aload_n S.1 S.2.1 dX1_strike_48 rfl (lv_at hl 1 rfl) ?_
          refine lv_iload_n S.1 S.2.1 dX1_strike_49 rfl (lv_at hl 2 rfl) ?_
          refine k_VV (rest := []) S hK hl.1 hW (KFr.all hW hA) (mX1_pluck l D c a ((stS τ j w)) _ j (T + 1) (by first | omega | exact hj | assumption | (show j < 12; omega) | rfl) okt (by first | omega | exact hT | assumption | (show (T + 1) < 500000000; omega) | rfl)) gX1_strike_X1_pluck rfl pdX1_pluck ⟨⟨rfl, rfl⟩, Nat.le_of_ble_eq_true rfl, Nat.le_of_ble_eq_true rfl⟩ 0 1 rfl rfl rfl rfl (Nat.le_of_ble_eq_true rfl) dX1_strike_50 ⟨Nat.le_of_ble_eq_true rfl, Nat.le_of_ble_eq_true rfl⟩ (fun H locs hW => ?_)
          have hW : kw D A s.heap (wS c a (plS ((stS τ j w)) j)) H locs := hW
          exact hret 53 _ _ _ _ dX1_strike_53 hW (congrArg (wS c a) (by unfold srS; first | rw [if_pos c_45] | rw [if_neg (by rw [c_45]; decide)]))
  · refine lv_iconst (v := nI (1)) S.1 S.2.1 dX1_strike_17 rfl ?_
    refine lv_goto (tgt := 22) S.1 S.2.1 dX1_strike_18 (by decide) ?_
    refine lv_istore_n (lv' := [(3, .int (nI (1))), (0, .ref (a 0)), (1, .int (nI (j))), (2, .int (nI (w)))]) S.1 S.2.1 dX1_strike_22 rfl hl (by decide) rfl (fun ls hl => ?_)
    refine lv_aload_n S.1 S.2.1 dX1_strike_23 rfl (lv_at hl 1 rfl) ?_
    refine lv_iload_n S.1 S.2.1 dX1_strike_24 rfl (lv_at hl 2 rfl) ?_
    refine k_VI (rest := []) S hK hl.1 hW (KFr.all hW hA) (mX1_ringsFor l D c a τ _ j T (by first | omega | exact hj | assumption | (show j < 12; omega) | rfl) ok (by first | omega | exact hT | assumption | (show T < 500000000; omega) | rfl)) gX1_strike_X1_ringsFor rfl pdX1_ringsFor ⟨⟨rfl, rfl⟩, Nat.le_of_ble_eq_true rfl, Nat.le_of_ble_eq_true rfl⟩ 0 1 rfl rfl rfl rfl (Nat.le_of_ble_eq_true rfl) dX1_strike_25 ⟨Nat.le_of_ble_eq_true rfl, Nat.le_of_ble_eq_true rfl⟩ (fun H locs hW => ?_)
    have hW : kw D A s.heap (wS c a τ) H locs := hW
    refine kz_le S (tgt := 40) dX1_strike_28 (by decide) (by omega) (fun c_28 => ?_) (fun c_28 => ?_)
    · have hW : kw D A s.heap (wS c a (stS τ j w)) H locs := by rw [show stS τ j w = τ from if_neg (fun q => q.2 c_14)]; exact hW
      have okt : okS (stS τ j w) (T + 1) := stS_ok ok hj
      refine lv_aload_n S.1 S.2.1 dX1_strike_40 rfl (lv_at hl 1 rfl) ?_
      refine lv_iload_n S.1 S.2.1 dX1_strike_41 rfl (lv_at hl 2 rfl) ?_
      refine k_VI (rest := []) S hK hl.1 hW (KFr.all hW hA) (mX1_isBroken l D c a ((stS τ j w)) _ j (by first | omega | exact hj | assumption | (show j < 12; omega) | rfl)) gX1_strike_X1_isBroken rfl pdX1_isBroken ⟨⟨rfl, rfl⟩, Nat.le_of_ble_eq_true rfl, Nat.le_of_ble_eq_true rfl⟩ 0 1 rfl rfl rfl rfl (Nat.le_of_ble_eq_true rfl) dX1_strike_42 ⟨Nat.le_of_ble_eq_true rfl, Nat.le_of_ble_eq_true rfl⟩ (fun H locs hW => ?_)
      have hW : kw D A s.heap (wS c a (stS τ j w)) H locs := hW
      refine k_top (y := nI (((((stS τ j w) 7 0)).testBit j).toNat)) rfl ?_
      refine kb_ne S (tgt := 53) dX1_strike_45 (by decide) (fun c_45 => ?_) (fun c_45 => ?_)
      · exact hret 53 _ _ _ _ dX1_strike_53 hW (congrArg (wS c a) (by unfold srS; first | rw [if_pos c_45] | rw [if_neg (by rw [c_45]; decide)]))
      · refine lv_aload_n S.1 S.2.1 dX1_strike_48 rfl (lv_at hl 1 rfl) ?_
        refine lv_iload_n S.1 S.2.1 dX1_strike_49 rfl (lv_at hl 2 rfl) ?_
        refine k_VV (rest := []) S hK hl.1 hW (KFr.all hW hA) (mX1_pluck l D c a ((stS τ j w)) _ j (T + 1) (by first | omega | exact hj | assumption | (show j < 12; omega) | rfl) okt (by first | omega | exact hT | assumption | (show (T + 1) < 500000000; omega) | rfl)) gX1_strike_X1_pluck rfl pdX1_pluck ⟨⟨rfl, rfl⟩, Nat.le_of_ble_eq_true rfl, Nat.le_of_ble_eq_true rfl⟩ 0 1 rfl rfl rfl rfl (Nat.le_of_ble_eq_true rfl) dX1_strike_50 ⟨Nat.le_of_ble_eq_true rfl, Nat.le_of_ble_eq_true rfl⟩ (fun H locs hW => ?_)
        have hW : kw D A s.heap (wS c a (plS ((stS τ j w)) j)) H locs := hW
        exact hret 53 _ _ _ _ dX1_strike_53 hW (congrArg (wS c a) (by unfold srS; first | rw [if_pos c_45] | rw [if_neg (by rw [c_45]; decide)]))
    · refine lv_iload_n S.1 S.2.1 dX1_strike_31 rfl (lv_at hl 0 rfl) ?_
      refine kz_ne S (tgt := 40) dX1_strike_32 (by decide) (by omega) (fun c_32 => ?_) (fun c_32 => ?_)
      · have hW : kw D A s.heap (wS c a (stS τ j w)) H locs := by rw [show stS τ j w = τ from if_neg (fun q => q.2 c_14)]; exact hW
        have okt : okS (stS τ j w) (T + 1) := stS_ok ok hj
        refine lv_aload_n S.1 S.2.1 dX1_strike_40 rfl (lv_at hl 1 rfl) ?_
        refine lv_iload_n S.1 S.2.1 dX1_strike_41 rfl (lv_at hl 2 rfl) ?_
        refine k_VI (rest := []) S hK hl.1 hW (KFr.all hW hA) (mX1_isBroken l D c a ((stS τ j w)) _ j (by first | omega | exact hj | assumption | (show j < 12; omega) | rfl)) gX1_strike_X1_isBroken rfl pdX1_isBroken ⟨⟨rfl, rfl⟩, Nat.le_of_ble_eq_true rfl, Nat.le_of_ble_eq_true rfl⟩ 0 1 rfl rfl rfl rfl (Nat.le_of_ble_eq_true rfl) dX1_strike_42 ⟨Nat.le_of_ble_eq_true rfl, Nat.le_of_ble_eq_true rfl⟩ (fun H locs hW => ?_)
        have hW : kw D A s.heap (wS c a (stS τ j w)) H locs := hW
        refine k_top (y := nI (((((stS τ j w) 7 0)).testBit j).toNat)) rfl ?_
        refine kb_ne S (tgt := 53) dX1_strike_45 (by decide) (fun c_45 => ?_) (fun c_45 => ?_)
        · exact hret 53 _ _ _ _ dX1_strike_53 hW (congrArg (wS c a) (by unfold srS; first | rw [if_pos c_45] | rw [if_neg (by rw [c_45]; decide)]))
        · refine lv_aload_n S.1 S.2.1 dX1_strike_48 rfl (lv_at hl 1 rfl) ?_
          refine lv_iload_n S.1 S.2.1 dX1_strike_49 rfl (lv_at hl 2 rfl) ?_
          refine k_VV (rest := []) S hK hl.1 hW (KFr.all hW hA) (mX1_pluck l D c a ((stS τ j w)) _ j (T + 1) (by first | omega | exact hj | assumption | (show j < 12; omega) | rfl) okt (by first | omega | exact hT | assumption | (show (T + 1) < 500000000; omega) | rfl)) gX1_strike_X1_pluck rfl pdX1_pluck ⟨⟨rfl, rfl⟩, Nat.le_of_ble_eq_true rfl, Nat.le_of_ble_eq_true rfl⟩ 0 1 rfl rfl rfl rfl (Nat.le_of_ble_eq_true rfl) dX1_strike_50 ⟨Nat.le_of_ble_eq_true rfl, Nat.le_of_ble_eq_true rfl⟩ (fun H locs hW => ?_)
          have hW : kw D A s.heap (wS c a (plS ((stS τ j w)) j)) H locs := hW
          exact hret 53 _ _ _ _ dX1_strike_53 hW (congrArg (wS c a) (by unfold srS; first | rw [if_pos c_45] | rw [if_neg (by rw [c_45]; decide)]))
      · exact absurd c_32 (by decide)
