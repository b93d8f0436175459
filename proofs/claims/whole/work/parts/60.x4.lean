abbrev rmX2_append : Room := { frames := 1, cells := 0, slots := 0, locals := 22 }
theorem pdX2_append : kPd yX2_append 1 := by decide +kernel
set_option maxHeartbeats 400000 in
set_option maxRecDepth 100000 in
theorem mX2_append_k (l : Launch) (D : va_G) (c : Nat → ClassId) (a : Nat → Nat) (b : Nat → Nat → Nat) (θ : Nat → Nat → Nat → Nat) (ρ κ : Nat → Nat → Nat) (sz : Nat) (n : Nat) (h1_1 : 33 ≤ n) (h1_2 : n ≤ 126) (hbl : κ 4 0 < 60) : MI2 l yX2_append wsX2_append rmX2_append D c sz (wP c a b θ ρ κ) [.ref (a 0), .int (nI (n))] (nI (κ 4 0 + 1)) (wP c a b θ ρ (pu (pu κ 0 (fu (κ 0) (κ 4 0) n)) 4 (kc (κ 4 0 + 1)))) := by
  refine MI2.of (cc := cX2_append) (maxL := 2) (ty := .int) (by decide) rfl (Nat.le_of_ble_eq_true rfl) rfl ?_
  intro P e s m below meth cd A Q ls hsz S hK hN hW hA hl hret
  have hl : lv_has ls 2 [(0, .ref (a 0)), (1, .int (nI (n)))] := hl
  have hinX2 : ∀ w ∈ u_ws RX2 TX2 10, w ∈ wsX2_append := by decide +kernel
  have h1 : inb (nI (n)) (nI (33)) (nI (126)) = true := inb_t h1_1 h1_2 (by decide)
  refine lv_iload_n S.1 S.2.1 dX2_append_0 rfl (lv_at hl 1 rfl) ?_
  refine lv_bipush (v := nI (33)) S.1 S.2.1 dX2_append_1 rfl ?_
  refine lv_bipush (v := nI (126)) S.1 S.2.1 dX2_append_3 rfl ?_
  refine k_SI (rest := []) S hK hl.1 hW (KFr.nil hW hA) (mX2_isWithin l D c  _ (nI (n)) (nI (33)) (nI (126))) gX2_append_X2_isWithin rfl pdX2_isWithin ⟨⟨rfl, rfl⟩, Nat.le_of_ble_eq_true rfl, Nat.le_of_ble_eq_true rfl⟩ rfl (Nat.le_of_ble_eq_true rfl) dX2_append_5 ⟨Nat.le_of_ble_eq_true rfl, Nat.le_of_ble_eq_true rfl⟩ (fun H locs hW => ?_)
  have hW : kw D A s.heap (wP c a b θ ρ κ) H locs := hW
  refine kb_ne S (tgt := 21) dX2_append_8 (by decide) (fun c_8 => ?_) (fun c_8 => ?_)
  · refine lv_aload_n S.1 S.2.1 dX2_append_21 rfl (lv_at hl 0 rfl) ?_
    refine kx_get S hK hW hinX2 0 2 rfl rfl 8 (by decide) (List.mem_of_getElem? (i := 5) rfl) (v := .int (nI (κ 4 0))) rfl dX2_append_22 ?_
    refine lv_bipush (v := nI (60)) S.1 S.2.1 dX2_append_25 rfl ?_
    refine kn_lt S (tgt := 40) dX2_append_27 (by decide) (by omega) (by omega) (fun c_27 => ?_) (fun c_27 => ?_)
    · refine lv_aload_n S.1 S.2.1 dX2_append_40 rfl (lv_at hl 0 rfl) ?_
      refine kx_get S hK hW hinX2 0 2 rfl rfl 7 (by decide) (List.mem_of_getElem? (i := 6) rfl) (v := .ref (a 2)) rfl dX2_append_41 ?_
      refine lv_aload_n S.1 S.2.1 dX2_append_44 rfl (lv_at hl 0 rfl) ?_
      refine kx_get S hK hW hinX2 0 2 rfl rfl 8 (by decide) (List.mem_of_getElem? (i := 5) rfl) (v := .int (nI (κ 4 0))) rfl dX2_append_45 ?_
      refine lv_iload_n S.1 S.2.1 dX2_append_48 rfl (lv_at hl 1 rfl) ?_
      refine lv_i2c (v := nI (n)) S.1 S.2.1 dX2_append_49 (i2c_chr _ (by omega)) ?_
      refine kn_cst S hK hW 2 (f := κ 0) rfl (by omega) (by decide) (by omega) dX2_append_50 (fun H locs hW => ?_)
      have hW : kw D A s.heap (wP c a b θ ρ (pu κ 0 (fu (κ 0) (κ 4 0) n))) H locs := hW
      refine lv_aload_n S.1 S.2.1 dX2_append_51 rfl (lv_at hl 0 rfl) ?_
      refine lv_dup S.1 S.2.1 dX2_append_52 rfl ?_
      refine kx_get S hK hW hinX2 0 2 rfl rfl 8 (by decide) (List.mem_of_getElem? (i := 5) rfl) (v := .int (nI (κ 4 0))) rfl dX2_append_53 ?_
      refine lv_iconst (v := nI (1)) S.1 S.2.1 dX2_append_56 rfl ?_
      refine kn_iadd S dX2_append_57 ?_
      refine kx_put S hK hW hinX2 tyX2_ok nmX2 0 2 rfl rfl 8 (by decide) (List.mem_of_getElem? (i := 5) rfl) rfl (v := .int (nI (κ 4 0 + 1))) rfl rfl (Nat.le_of_ble_eq_true rfl) dX2_append_58 (fun H locs hW => ?_)
      have hW : kw D A s.heap (wP c a b θ ρ (pu (pu κ 0 (fu (κ 0) (κ 4 0) n)) 4 (kc (κ 4 0 + 1)))) H locs := hW
      refine lv_aload_n S.1 S.2.1 dX2_append_61 rfl (lv_at hl 0 rfl) ?_
      refine kx_get S hK hW hinX2 0 2 rfl rfl 8 (by decide) (List.mem_of_getElem? (i := 5) rfl) (v := .int (nI (κ 4 0 + 1))) rfl dX2_append_62 ?_
      exact hret 65 _ _ _ _ _ dX2_append_65 hW (rfl) (rfl)
    · exact absurd c_27 (by omega)
  · exact absurd (h1.symm.trans c_8) (by decide)
abbrev rmX2_putBufferPins : Room := { frames := 5, cells := 0, slots := 0, locals := 115 }
theorem pdX2_putBufferPins : kPd yX2_putBufferPins 0 := by decide +kernel
set_option maxHeartbeats 400000 in
set_option maxRecDepth 100000 in
theorem mX2_putBufferPins (l : Launch) (D : va_G) (c : Nat → ClassId) (a : Nat → Nat) (b : Nat → Nat → Nat) (θ : Nat → Nat → Nat → Nat) (ρ κ : Nat → Nat → Nat) (sz : Nat) (T : Nat) (hbl : κ 4 0 ≤ 60) (hbf : ∀ i, i < κ 4 0 → κ 0 i < 128) (okr : okR ρ) (ok : okS (θ 0) T) (hall : (rbR (κ 0) (κ 4 0) 0 (pu (ρ) 0 (kc 0))).1 = κ 4 0) (hcm : (rbR (κ 0) (κ 4 0) 0 (pu (ρ) 0 (kc 0))).2 0 0 = 5 ∨ ((rbR (κ 0) (κ 4 0) 0 (pu (ρ) 0 (kc 0))).2 0 0 = 7 ∧ (rbR (κ 0) (κ 4 0) 0 (pu (ρ) 0 (kc 0))).2 3 0 < (rbR (κ 0) (κ 4 0) 0 (pu (ρ) 0 (kc 0))).2 4 0)) : MI2 l yX2_putBufferPins wsX2_putBufferPins rmX2_putBufferPins D c sz (wP c a b θ ρ κ) [.ref (a 0)] (nI ((ppR (κ 0) (κ 4 0) 0 0 (θ 0) (pu (ρ) 0 (kc 0))).1)) (wP c a b (pst θ 0 ((ppR (κ 0) (κ 4 0) 0 0 (θ 0) (pu (ρ) 0 (kc 0))).2.1)) ((ppR (κ 0) (κ 4 0) 0 0 (θ 0) (pu (ρ) 0 (kc 0))).2.2) κ) := by
  refine MI2.of (cc := cX2_putBufferPins) (maxL := 3) (ty := .int) (by decide) rfl (Nat.le_of_ble_eq_true rfl) rfl ?_
  intro P e s m below meth cd A Q ls hsz S hK hN hW hA hl hret
  have hl : lv_has ls 3 [(0, .ref (a 0))] := hl
  have hinX2 : ∀ w ∈ u_ws RX2 TX2 10, w ∈ wsX2_putBufferPins := by decide +kernel
  have okr0 : okR (pu ρ 0 (kc 0)) := a_ok okr 0 0 (fun _ => by omega) (fun q => by omega) (fun q => by omega) (fun q => by omega) (fun q => by omega)
  refine lv_iconst (v := nI (0)) S.1 S.2.1 dX2_putBufferPins_0 rfl ?_
  refine lv_istore_n (lv' := [(1, .int (nI (0))), (0, .ref (a 0))]) S.1 S.2.1 dX2_putBufferPins_1 rfl hl (by decide) rfl (fun ls hl => ?_)
  refine lv_aload_n S.1 S.2.1 dX2_putBufferPins_2 rfl (lv_at hl 1 rfl) ?_
  refine kx_get S hK hW hinX2 0 2 rfl rfl 9 (by decide) (List.mem_of_getElem? (i := 1) rfl) (v := .ref (a 3)) rfl dX2_putBufferPins_3 ?_
  refine k_VV (rest := []) S hK hl.1 hW (fR hW hA _) (mX0_start l D c (fun _ => a 3) ρ _ ) gX2_putBufferPins_X0_start rfl pdX0_start ⟨⟨rfl, rfl⟩, Nat.le_of_ble_eq_true rfl, Nat.le_of_ble_eq_true rfl⟩ 0 0 rfl rfl rfl rfl (Nat.le_of_ble_eq_true rfl) dX2_putBufferPins_6 ⟨Nat.le_of_ble_eq_true rfl, Nat.le_of_ble_eq_true rfl⟩ (fun H locs hW => ?_)
  have hW : kw D A s.heap (wP c a b θ (pu ρ 0 (kc (0))) κ) H locs := hW
  refine lv_iconst (v := nI (0)) S.1 S.2.1 dX2_putBufferPins_9 rfl ?_
  refine lv_istore_n (lv' := [(2, .int (nI (0))), (1, .int (nI (0))), (0, .ref (a 0))]) S.1 S.2.1 dX2_putBufferPins_10 rfl hl (by decide) rfl (fun ls hl => ?_)
  have hW : kw D A s.heap (wP c a b (pst θ 0 ((θ 0))) (((pu (ρ) 0 (kc 0)))) κ) _ _ := hW
  refine k_loop (fun (zz : Nat × Nat × (Nat → Nat → Nat) × (Nat → Nat → Nat)) H lo ls => match zz with | (k, d, g, r) => kw D A s.heap (wP c a b (pst θ 0 g) r κ) H lo ∧ lv_has ls 3 [(0, .ref (a 0)), (1, .int (nI (d))), (2, .int (nI (k)))] ∧ k ≤ κ 4 0 ∧ okS g T ∧ okR r ∧ rbR (κ 0) (κ 4 0) 0 (pu (ρ) 0 (kc 0)) = rbR (κ 0) (κ 4 0 - k) k r ∧ ppR (κ 0) (κ 4 0) 0 0 (θ 0) (pu (ρ) 0 (kc 0)) = ppR (κ 0) (κ 4 0 - k) k d g r) (fun (zz : Nat × Nat × (Nat → Nat → Nat) × (Nat → Nat → Nat)) => match zz with | (k, d, g, r) => κ 4 0 - k) [] ?_ (0, 0, θ 0, (pu (ρ) 0 (kc 0))) _ _ _ ⟨hW, lv_sub hl [2, 1, 0] rfl, (Nat.zero_le _), ok, okr0, (by rw [Nat.sub_zero]), (by rw [Nat.sub_zero])⟩
  rintro ⟨k, d, g, r⟩ ih11 H locs ls ⟨hW, hl, hk, okg, okq, hr, hpp⟩
  refine lv_iload_n S.1 S.2.1 dX2_putBufferPins_11 rfl (lv_at hl 2 rfl) ?_
  refine lv_aload_n S.1 S.2.1 dX2_putBufferPins_12 rfl (lv_at hl 0 rfl) ?_
  refine kx_get S hK hW hinX2 0 2 rfl rfl 8 (by decide) (List.mem_of_getElem? (i := 2) rfl) (v := .int (nI (κ 4 0))) rfl dX2_putBufferPins_13 ?_
  refine kn_ge S (tgt := 58) dX2_putBufferPins_16 (by decide) (by omega) (by omega) (fun c_16 => ?_) (fun c_16 => ?_)
  · have hcm : r 0 0 = 5 ∨ (r 0 0 = 7 ∧ r 3 0 < r 4 0) := by rw [hr.trans (rbR_0 c_16)] at hcm; exact hcm
    have hpp := hpp.trans (ppR_0 c_16)
    refine lv_iload_n S.1 S.2.1 dX2_putBufferPins_58 rfl (lv_at hl 1 rfl) ?_
    refine lv_aload_n S.1 S.2.1 dX2_putBufferPins_59 rfl (lv_at hl 0 rfl) ?_
    refine k_VI2 (rest := [.int (nI (d))]) S hK hl.1 hW (KFr.all hW hA) hN (mX2_putReadRange l D c a b ((pst θ 0 g)) r κ _ T okg okq (fun h7 => by omega)) gX2_putBufferPins_X2_putReadRange rfl pdX2_putReadRange ⟨⟨rfl, rfl⟩, Nat.le_of_ble_eq_true rfl, Nat.le_of_ble_eq_true rfl⟩ 0 2 rfl rfl rfl rfl (Nat.le_of_ble_eq_true rfl) dX2_putBufferPins_60 ⟨Nat.le_of_ble_eq_true rfl, Nat.le_of_ble_eq_true rfl⟩ (fun H locs hW => ?_)
    have hW : kw D A s.heap (wP c a b (pst θ 0 (pu g 0 ((prC (g) ((r 1 0)) ((r 2 0)) (if (r 0 0) = 7 then (r 3 0) else (r 4 0)) ((r 4 0) + 1 - (if (r 0 0) = 7 then (r 3 0) else (r 4 0)))).2))) r κ) H locs := hW
    refine k_top (y := nI ((prC (g) ((r 1 0)) ((r 2 0)) (if (r 0 0) = 7 then (r 3 0) else (r 4 0)) ((r 4 0) + 1 - (if (r 0 0) = 7 then (r 3 0) else (r 4 0)))).1)) rfl ?_
    refine kn_iadd S dX2_putBufferPins_63 ?_
    exact hret 64 _ _ _ _ _ dX2_putBufferPins_64 hW (congrArg nI (by rw [hpp]; rfl)) (by rw [hpp]; rfl)
  · have hsome := rb_some hr c_16 hall
    refine lv_aload_n S.1 S.2.1 dX2_putBufferPins_19 rfl (lv_at hl 0 rfl) ?_
    refine kx_get S hK hW hinX2 0 2 rfl rfl 7 (by decide) (List.mem_of_getElem? (i := 3) rfl) (v := .ref (a 2)) rfl dX2_putBufferPins_20 ?_
    refine lv_iload_n S.1 S.2.1 dX2_putBufferPins_23 rfl (lv_at hl 2 rfl) ?_
    refine kn_cld S hK hW 2 (f := κ 0) rfl (by omega) (by decide) dX2_putBufferPins_24 ?_
    refine k_SI (rest := []) S hK hl.1 hW (KFr.nil hW hA) (mX0_isSeparator l D c  _ (κ 0 (k)) (hbf k c_16)) gX2_putBufferPins_X0_isSeparator rfl pdX0_isSeparator ⟨⟨rfl, rfl⟩, Nat.le_of_ble_eq_true rfl, Nat.le_of_ble_eq_true rfl⟩ rfl (Nat.le_of_ble_eq_true rfl) dX2_putBufferPins_25 ⟨Nat.le_of_ble_eq_true rfl, Nat.le_of_ble_eq_true rfl⟩ (fun H locs hW => ?_)
    have hW : kw D A s.heap (wP c a b (pst θ 0 g) r κ) H locs := hW
    refine kb_eq S (tgt := 38) dX2_putBufferPins_28 (by decide) (fun c_28 => ?_) (fun c_28 => ?_)
    · refine lv_aload_n S.1 S.2.1 dX2_putBufferPins_38 rfl (lv_at hl 0 rfl) ?_
      refine kx_get S hK hW hinX2 0 2 rfl rfl 9 (by decide) (List.mem_of_getElem? (i := 1) rfl) (v := .ref (a 3)) rfl dX2_putBufferPins_39 ?_
      refine lv_aload_n S.1 S.2.1 dX2_putBufferPins_42 rfl (lv_at hl 0 rfl) ?_
      refine kx_get S hK hW hinX2 0 2 rfl rfl 7 (by decide) (List.mem_of_getElem? (i := 3) rfl) (v := .ref (a 2)) rfl dX2_putBufferPins_43 ?_
      refine lv_iload_n S.1 S.2.1 dX2_putBufferPins_46 rfl (lv_at hl 2 rfl) ?_
      refine kn_cld S hK hW 2 (f := κ 0) rfl (by omega) (by decide) dX2_putBufferPins_47 ?_
      refine k_VI (rest := []) S hK hl.1 hW (fR hW hA _) (mX0_accepts l D c (fun _ => a 3) r _ (r 0 0) (κ 0 (k)) rfl (hbf k c_16) okq) gX2_putBufferPins_X0_accepts rfl pdX0_accepts ⟨⟨rfl, rfl⟩, Nat.le_of_ble_eq_true rfl, Nat.le_of_ble_eq_true rfl⟩ 0 0 rfl rfl rfl rfl (Nat.le_of_ble_eq_true rfl) dX2_putBufferPins_48 ⟨Nat.le_of_ble_eq_true rfl, Nat.le_of_ble_eq_true rfl⟩ (fun H locs hW => ?_)
      have hW : kw D A s.heap (wP c a b (pst θ 0 g) (((stR r (κ 0 (k))).getD r)) κ) H locs := hW
      refine lv_pop S.1 S.2.1 dX2_putBufferPins_51 rfl ?_
      refine lv_iinc (v := nI (k + 1)) (lv' := [(2, .int (nI (k + 1))), (0, .ref (a 0)), (1, .int (nI (d)))]) S.1 S.2.1 dX2_putBufferPins_52 hl (k := 2) rfl (nI_add _ _) (by decide) rfl (fun ls hl => ?_)
      refine lv_goto (tgt := 11) S.1 S.2.1 dX2_putBufferPins_55 (by decide) ?_
      exact ih11 (k + 1, d, g, (stR r (κ 0 k)).getD r) _ _ _ ⟨hW, lv_sub hl [1, 2, 0] rfl, (by omega), (by first | exact okg | exact prR_ok okg okq (sep7 c_28 hsome)), (stR_ok okq _), (hr.trans (rbR_t c_16 hsome)), (by first | exact hpp.trans (ppR_t c_16 c_28) | exact hpp.trans (ppR_f c_16 c_28))⟩ (by show κ 4 0 - (k + 1) < κ 4 0 - k; omega)
    · refine lv_iload_n S.1 S.2.1 dX2_putBufferPins_31 rfl (lv_at hl 1 rfl) ?_
      refine lv_aload_n S.1 S.2.1 dX2_putBufferPins_32 rfl (lv_at hl 0 rfl) ?_
      refine k_VI2 (rest := [.int (nI (d))]) S hK hl.1 hW (KFr.all hW hA) hN (mX2_putReadRange l D c a b ((pst θ 0 g)) r κ _ T okg okq (sep7 c_28 hsome)) gX2_putBufferPins_X2_putReadRange rfl pdX2_putReadRange ⟨⟨rfl, rfl⟩, Nat.le_of_ble_eq_true rfl, Nat.le_of_ble_eq_true rfl⟩ 0 2 rfl rfl rfl rfl (Nat.le_of_ble_eq_true rfl) dX2_putBufferPins_33 ⟨Nat.le_of_ble_eq_true rfl, Nat.le_of_ble_eq_true rfl⟩ (fun H locs hW => ?_)
      have hW : kw D A s.heap (wP c a b (pst θ 0 (pu g 0 ((prC (g) ((r 1 0)) ((r 2 0)) (if (r 0 0) = 7 then (r 3 0) else (r 4 0)) ((r 4 0) + 1 - (if (r 0 0) = 7 then (r 3 0) else (r 4 0)))).2))) r κ) H locs := hW
      refine k_top (y := nI ((prC (g) ((r 1 0)) ((r 2 0)) (if (r 0 0) = 7 then (r 3 0) else (r 4 0)) ((r 4 0) + 1 - (if (r 0 0) = 7 then (r 3 0) else (r 4 0)))).1)) rfl ?_
      refine kn_iadd S dX2_putBufferPins_36 ?_
      refine lv_istore_n (lv' := [(1, .int (nI (d + ((prC (g) ((r 1 0)) ((r 2 0)) (if (r 0 0) = 7 then (r 3 0) else (r 4 0)) ((r 4 0) + 1 - (if (r 0 0) = 7 then (r 3 0) else (r 4 0)))).1)))), (0, .ref (a 0)), (2, .int (nI (k)))]) S.1 S.2.1 dX2_putBufferPins_37 rfl hl (by decide) rfl (fun ls hl => ?_)
      refine lv_aload_n S.1 S.2.1 dX2_putBufferPins_38 rfl (lv_at hl 1 rfl) ?_
      refine kx_get S hK hW hinX2 0 2 rfl rfl 9 (by decide) (List.mem_of_getElem? (i := 1) rfl) (v := .ref (a 3)) rfl dX2_putBufferPins_39 ?_
      refine lv_aload_n S.1 S.2.1 dX2_putBufferPins_42 rfl (lv_at hl 1 rfl) ?_
      refine kx_get S hK hW hinX2 0 2 rfl rfl 7 (by decide) (List.mem_of_getElem? (i := 3) rfl) (v := .ref (a 2)) rfl dX2_putBufferPins_43 ?_
      refine lv_iload_n S.1 S.2.1 dX2_putBufferPins_46 rfl (lv_at hl 2 rfl) ?_
      refine kn_cld S hK hW 2 (f := κ 0) rfl (by omega) (by decide) dX2_putBufferPins_47 ?_
      refine k_VI (rest := []) S hK hl.1 hW (fR hW hA _) (mX0_accepts l D c (fun _ => a 3) r _ (r 0 0) (κ 0 (k)) rfl (hbf k c_16) okq) gX2_putBufferPins_X0_accepts rfl pdX0_accepts ⟨⟨rfl, rfl⟩, Nat.le_of_ble_eq_true rfl, Nat.le_of_ble_eq_true rfl⟩ 0 0 rfl rfl rfl rfl (Nat.le_of_ble_eq_true rfl) dX2_putBufferPins_48 ⟨Nat.le_of_ble_eq_true rfl, Nat.le_of_ble_eq_true rfl⟩ (fun H locs hW => ?_)
      have hW : kw D A s.heap (wP c a b (pst θ 0 (pu g 0 ((prC (g) ((r 1 0)) ((r 2 0)) (if (r 0 0) = 7 then (r 3 0) else (r 4 0)) ((r 4 0) + 1 - (if (r 0 0) = 7 then (r 3 0) else (r 4 0)))).2))) (((stR r (κ 0 (k))).getD r)) κ) H locs := hW
      refine lv_pop S.1 S.2.1 dX2_putBufferPins_51 rfl ?_
      refine lv_iinc (v := nI (k + 1)) (lv' := [(2, .int (nI (k + 1))), (1, .int (nI (d + ((prC (g) ((r 1 0)) ((r 2 0)) (if (r 0 0) = 7 then (r 3 0) else (r 4 0)) ((r 4 0) + 1 - (if (r 0 0) = 7 then (r 3 0) else (r 4 0)))).1)))), (0, .ref (a 0))]) S.1 S.2.1 dX2_putBufferPins_52 hl (k := 2) rfl (nI_add _ _) (by decide) rfl (fun ls hl => ?_)
      refine lv_goto (tgt := 11) S.1 S.2.1 dX2_putBufferPins_55 (by decide) ?_
      exact ih11 (k + 1, d + ((prC (g) ((r 1 0)) ((r 2 0)) (if (r 0 0) = 7 then (r 3 0) else (r 4 0)) ((r 4 0) + 1 - (if (r 0 0) = 7 then (r 3 0) else (r 4 0)))).1), (pu g 0 ((prC (g) ((r 1 0)) ((r 2 0)) (if (r 0 0) = 7 then (r 3 0) else (r 4 0)) ((r 4 0) + 1 - (if (r 0 0) = 7 then (r 3 0) else (r 4 0)))).2)), (stR r (κ 0 k)).getD r) _ _ _ ⟨hW, lv_sub hl [2, 1, 0] rfl, (by omega), (by first | exact okg | exact prR_ok okg okq (sep7 c_28 hsome)), (stR_ok okq _), (hr.trans (rbR_t c_16 hsome)), (by first | exact hpp.trans (ppR_t c_16 c_28) | exact hpp.trans (ppR_f c_16 c_28))⟩ (by show κ 4 0 - (k + 1) < κ 4 0 - k; omega)
