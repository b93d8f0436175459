set_option maxHeartbeats 400000 in
set_option maxRecDepth 100000 in
theorem mX3_set_x2 (l : Launch) (D : va_G) (c : Nat → ClassId) (a : Nat → Nat) (φ : Nat → Nat → Nat) (δ : Int64) (sz : Nat) (i : Nat) (v : Int32) (hi : i < 5) (hv : inb v (nI (loS i)) (nI (hiS i)) = false) : MI l yX3_set wsX3_set rmX3_set D c sz (wM c a φ δ) [.ref (a 0), .int (nI (i)), .int (v)] (nI (0)) (wM c a (pu φ 5 (kc (2))) δ) := by
  refine MI.of (cc := cX3_set) (maxL := 3) (ty := .int) (by decide) rfl (Nat.le_of_ble_eq_true rfl) rfl ?_
  intro P e s m below meth cd A Q ls hsz S hK hW hA hl hret
  have hl : lv_has ls 3 [(0, .ref (a 0)), (1, .int (nI (i))), (2, .int (v))] := hl
  have hin : inb (nI (i)) (nI (0)) (nI (4)) = true := inb_t (Nat.zero_le i) (by omega) (by decide)
  refine lv_aload_n S.1 S.2.1 dX3_set_0 rfl (lv_at hl 0 rfl) ?_
  refine lv_iload_n S.1 S.2.1 dX3_set_1 rfl (lv_at hl 1 rfl) ?_
  refine lv_iconst (v := nI (0)) S.1 S.2.1 dX3_set_2 rfl ?_
  refine lv_iconst (v := nI (4)) S.1 S.2.1 dX3_set_3 rfl ?_
  refine k_SI (rest := [.ref (a 0)]) S hK hl.1 hW (KFr.nil hW hA) (mX3_in l D c  _ (nI (i)) (nI (0)) (nI (4))) gX3_set_X3_in rfl pdX3_in ⟨⟨rfl, rfl⟩, Nat.le_of_ble_eq_true rfl, Nat.le_of_ble_eq_true rfl⟩ rfl (Nat.le_of_ble_eq_true rfl) dX3_set_4 ⟨Nat.le_of_ble_eq_true rfl, Nat.le_of_ble_eq_true rfl⟩ (fun H locs hW => ?_)
  have hW : kw D A s.heap (wM c a φ δ) H locs := hW
  refine kb_ne S (tgt := 14) dX3_set_7 (by decide) (fun c_7 => ?_) (fun c_7 => ?_)
  · refine lv_iload_n S.1 S.2.1 dX3_set_14 rfl (lv_at hl 1 rfl) ?_
    refine lv_iload_n S.1 S.2.1 dX3_set_15 rfl (lv_at hl 2 rfl) ?_
    refine k_SI (rest := [.ref (a 0)]) S hK hl.1 hW (KFr.nil hW hA) (mX3_isValue l D c  _ i v (by first | omega | exact hi | assumption)) gX3_set_X3_isValue rfl pdX3_isValue ⟨⟨rfl, rfl⟩, Nat.le_of_ble_eq_true rfl, Nat.le_of_ble_eq_true rfl⟩ rfl (Nat.le_of_ble_eq_true rfl) dX3_set_16 ⟨Nat.le_of_ble_eq_true rfl, Nat.le_of_ble_eq_true rfl⟩ (fun H locs hW => ?_)
    have hW : kw D A s.heap (wM c a φ δ) H locs := hW
    refine kb_eq S (tgt := 26) dX3_set_19 (by decide) (fun c_19 => ?_) (fun c_19 => ?_)
    · refine lv_iconst (v := nI (2)) S.1 S.2.1 dX3_set_26 rfl ?_
      refine k_VI (rest := []) S hK hl.1 hW (KFr.all hW hA) (mX3_holds l D c a φ δ _ 2 (by first | omega | exact hw | assumption)) gX3_set_X3_holds rfl pdX3_holds ⟨⟨rfl, rfl⟩, Nat.le_of_ble_eq_true rfl, Nat.le_of_ble_eq_true rfl⟩ 0 3 rfl rfl rfl rfl (Nat.le_of_ble_eq_true rfl) dX3_set_27 ⟨Nat.le_of_ble_eq_true rfl, Nat.le_of_ble_eq_true rfl⟩ (fun H locs hW => ?_)
      have hW : kw D A s.heap (wM c a (pu φ 5 (kc (2))) δ) H locs := hW
      refine kb_eq S (tgt := 46) dX3_set_30 (by decide) (fun c_30 => ?_) (fun c_30 => ?_)
      · refine lv_iconst (v := nI (0)) S.1 S.2.1 dX3_set_46 rfl ?_
        exact hret 47 _ _ _ _ _ dX3_set_47 hW (rfl) (rfl)
      · exact absurd c_30 (by decide)
    · exact absurd (hv.symm.trans c_19) (by decide)
  · exact absurd (hin.symm.trans c_7) (by decide)
set_option maxHeartbeats 400000 in
set_option maxRecDepth 100000 in
theorem mX3_set_k (l : Launch) (D : va_G) (c : Nat → ClassId) (a : Nat → Nat) (φ : Nat → Nat → Nat) (δ : Int64) (sz : Nat) (i : Nat) (v : Nat) (hi : i < 5) (hv : inb (nI (v)) (nI (loS i)) (nI (hiS i)) = true) (hk : φ 6 0 ≤ 6) : MI l yX3_set wsX3_set rmX3_set D c sz (wM c a φ δ) [.ref (a 0), .int (nI (i)), .int (nI (v))] (nI (φ 0 (142 + i))) (wM c a (pu (pu (pu (pu φ 2 (svf (φ 2) (φ 0) (φ 6 0))) 6 (kc (svn (φ 6 0)))) 5 (kc (0))) 0 (fu (φ 0) (142 + i) v)) δ) := by
  refine MI.of (cc := cX3_set) (maxL := 3) (ty := .int) (by decide) rfl (Nat.le_of_ble_eq_true rfl) rfl ?_
  intro P e s m below meth cd A Q ls hsz S hK hW hA hl hret
  have hl : lv_has ls 3 [(0, .ref (a 0)), (1, .int (nI (i))), (2, .int (nI (v)))] := hl
  have hin : inb (nI (i)) (nI (0)) (nI (4)) = true := inb_t (Nat.zero_le i) (by omega) (by decide)
  refine lv_aload_n S.1 S.2.1 dX3_set_0 rfl (lv_at hl 0 rfl) ?_
  refine lv_iload_n S.1 S.2.1 dX3_set_1 rfl (lv_at hl 1 rfl) ?_
  refine lv_iconst (v := nI (0)) S.1 S.2.1 dX3_set_2 rfl ?_
  refine lv_iconst (v := nI (4)) S.1 S.2.1 dX3_set_3 rfl ?_
  refine k_SI (rest := [.ref (a 0)]) S hK hl.1 hW (KFr.nil hW hA) (mX3_in l D c  _ (nI (i)) (nI (0)) (nI (4))) gX3_set_X3_in rfl pdX3_in ⟨⟨rfl, rfl⟩, Nat.le_of_ble_eq_true rfl, Nat.le_of_ble_eq_true rfl⟩ rfl (Nat.le_of_ble_eq_true rfl) dX3_set_4 ⟨Nat.le_of_ble_eq_true rfl, Nat.le_of_ble_eq_true rfl⟩ (fun H locs hW => ?_)
  have hW : kw D A s.heap (wM c a φ δ) H locs := hW
  refine kb_ne S (tgt := 14) dX3_set_7 (by decide) (fun c_7 => ?_) (fun c_7 => ?_)
  · refine lv_iload_n S.1 S.2.1 dX3_set_14 rfl (lv_at hl 1 rfl) ?_
    refine lv_iload_n S.1 S.2.1 dX3_set_15 rfl (lv_at hl 2 rfl) ?_
    refine k_SI (rest := [.ref (a 0)]) S hK hl.1 hW (KFr.nil hW hA) (mX3_isValue l D c  _ i (nI (v)) (by first | omega | exact hi | assumption)) gX3_set_X3_isValue rfl pdX3_isValue ⟨⟨rfl, rfl⟩, Nat.le_of_ble_eq_true rfl, Nat.le_of_ble_eq_true rfl⟩ rfl (Nat.le_of_ble_eq_true rfl) dX3_set_16 ⟨Nat.le_of_ble_eq_true rfl, Nat.le_of_ble_eq_true rfl⟩ (fun H locs hW => ?_)
    have hW : kw D A s.heap (wM c a φ δ) H locs := hW
    refine kb_eq S (tgt := 26) dX3_set_19 (by decide) (fun c_19 => ?_) (fun c_19 => ?_)
    · exact absurd (hv.symm.trans c_19) (by decide)
    · refine lv_iconst (v := nI (0)) S.1 S.2.1 dX3_set_22 rfl ?_
      refine lv_goto (tgt := 27) S.1 S.2.1 dX3_set_23 (by decide) ?_
      refine k_VI (rest := []) S hK hl.1 hW (KFr.all hW hA) (mX3_holds l D c a φ δ _ 0 (by first | omega | exact hw | assumption)) gX3_set_X3_holds rfl pdX3_holds ⟨⟨rfl, rfl⟩, Nat.le_of_ble_eq_true rfl, Nat.le_of_ble_eq_true rfl⟩ 0 3 rfl rfl rfl rfl (Nat.le_of_ble_eq_true rfl) dX3_set_27 ⟨Nat.le_of_ble_eq_true rfl, Nat.le_of_ble_eq_true rfl⟩ (fun H locs hW => ?_)
      have hW : kw D A s.heap (wM c a (pu φ 5 (kc (0))) δ) H locs := hW
      refine kb_eq S (tgt := 46) dX3_set_30 (by decide) (fun c_30 => ?_) (fun c_30 => ?_)
      · exact absurd c_30 (by decide)
      · refine lv_aload_n S.1 S.2.1 dX3_set_33 rfl (lv_at hl 0 rfl) ?_
        refine lv_sipush (v := nI (142)) S.1 S.2.1 dX3_set_34 rfl ?_
        refine lv_iload_n S.1 S.2.1 dX3_set_37 rfl (lv_at hl 1 rfl) ?_
        refine kn_iadd S dX3_set_38 ?_
        refine lv_iload_n S.1 S.2.1 dX3_set_39 rfl (lv_at hl 2 rfl) ?_
        refine k_VI (rest := []) S hK hl.1 hW (KFr.all hW hA) (mX3_becomes l D c a ((pu φ 5 (kc (0)))) δ _ (142 + i) v (by first | omega | exact hk | assumption) (by first | omega | exact hi | assumption)) gX3_set_X3_becomes rfl pdX3_becomes ⟨⟨rfl, rfl⟩, Nat.le_of_ble_eq_true rfl, Nat.le_of_ble_eq_true rfl⟩ 0 3 rfl rfl rfl rfl (Nat.le_of_ble_eq_true rfl) dX3_set_40 ⟨Nat.le_of_ble_eq_true rfl, Nat.le_of_ble_eq_true rfl⟩ (fun H locs hW => ?_)
        have hW : kw D A s.heap (wM c a (pu (pu (pu (pu φ 5 (kc (0))) 0 (fu ((φ 0)) (142 + i) v)) 2 (svf ((φ 2)) ((φ 0)) (((φ 6) 0)))) 6 (kc (svn (((φ 6) 0))))) δ) H locs := hW
        refine k_top (y := nI ((φ 0) (142 + i))) rfl ?_
        refine lv_goto (tgt := 47) S.1 S.2.1 dX3_set_43 (by decide) ?_
        exact hret 47 _ _ _ _ _ dX3_set_47 hW (rfl) (rfl)
  · exact absurd (hin.symm.trans c_7) (by decide)
abbrev rmX3_append : Room := { frames := 1, cells := 0, slots := 0, locals := 22 }
theorem pdX3_append : kPd yX3_append 1 := by decide +kernel
set_option maxHeartbeats 400000 in
set_option maxRecDepth 100000 in
theorem mX3_append_x1 (l : Launch) (D : va_G) (c : Nat → ClassId) (a : Nat → Nat) (φ : Nat → Nat → Nat) (δ : Int64) (sz : Nat) (n : Int32) (hin : inb n (nI (33)) (nI (126)) = false) : MI l yX3_append wsX3_append rmX3_append D c sz (wM c a φ δ) [.ref (a 0), .int (n)] (nI (0)) (wM c a (pu φ 5 (kc (1))) δ) := by
  refine MI.of (cc := cX3_append) (maxL := 2) (ty := .int) (by decide) rfl (Nat.le_of_ble_eq_true rfl) rfl ?_
  intro P e s m below meth cd A Q ls hsz S hK hW hA hl hret
  have hl : lv_has ls 2 [(0, .ref (a 0)), (1, .int (n))] := hl
  refine lv_aload_n S.1 S.2.1 dX3_append_0 rfl (lv_at hl 0 rfl) ?_
  refine lv_iload_n S.1 S.2.1 dX3_append_1 rfl (lv_at hl 1 rfl) ?_
  refine lv_bipush (v := nI (33)) S.1 S.2.1 dX3_append_2 rfl ?_
  refine lv_bipush (v := nI (126)) S.1 S.2.1 dX3_append_4 rfl ?_
  refine k_SI (rest := [.ref (a 0)]) S hK hl.1 hW (KFr.nil hW hA) (mX3_in l D c  _ n (nI (33)) (nI (126))) gX3_append_X3_in rfl pdX3_in ⟨⟨rfl, rfl⟩, Nat.le_of_ble_eq_true rfl, Nat.le_of_ble_eq_true rfl⟩ rfl (Nat.le_of_ble_eq_true rfl) dX3_append_6 ⟨Nat.le_of_ble_eq_true rfl, Nat.le_of_ble_eq_true rfl⟩ (fun H locs hW => ?_)
  have hW : kw D A s.heap (wM c a φ δ) H locs := hW
  refine kb_ne S (tgt := 16) dX3_append_9 (by decide) (fun c_9 => ?_) (fun c_9 => ?_)
  · exact absurd (hin.symm.trans c_9) (by decide)
  · refine lv_iconst (v := nI (1)) S.1 S.2.1 dX3_append_12 rfl ?_
    refine lv_goto (tgt := 30) S.1 S.2.1 dX3_append_13 (by decide) ?_
    refine k_VI (rest := []) S hK hl.1 hW (KFr.all hW hA) (mX3_holds l D c a φ δ _ 1 (by first | omega | exact hw | assumption)) gX3_append_X3_holds rfl pdX3_holds ⟨⟨rfl, rfl⟩, Nat.le_of_ble_eq_true rfl, Nat.le_of_ble_eq_true rfl⟩ 0 3 rfl rfl rfl rfl (Nat.le_of_ble_eq_true rfl) dX3_append_30 ⟨Nat.le_of_ble_eq_true rfl, Nat.le_of_ble_eq_true rfl⟩ (fun H locs hW => ?_)
    have hW : kw D A s.heap (wM c a (pu φ 5 (kc (1))) δ) H locs := hW
    refine kb_ne S (tgt := 38) dX3_append_33 (by decide) (fun c_33 => ?_) (fun c_33 => ?_)
    · exact absurd c_33 (by decide)
    · refine lv_iconst (v := nI (0)) S.1 S.2.1 dX3_append_36 rfl ?_
      exact hret 37 _ _ _ _ _ dX3_append_37 hW (rfl) (rfl)
set_option maxHeartbeats 400000 in
set_option maxRecDepth 100000 in
theorem mX3_append_x2 (l : Launch) (D : va_G) (c : Nat → ClassId) (a : Nat → Nat) (φ : Nat → Nat → Nat) (δ : Int64) (sz : Nat) (n : Nat) (h1 : 33 ≤ n) (h2 : n ≤ 126) (h60 : φ 8 0 = 60) : MI l yX3_append wsX3_append rmX3_append D c sz (wM c a φ δ) [.ref (a 0), .int (nI (n))] (nI (0)) (wM c a (pu φ 5 (kc (2))) δ) := by
  refine MI.of (cc := cX3_append) (maxL := 2) (ty := .int) (by decide) rfl (Nat.le_of_ble_eq_true rfl) rfl ?_
  intro P e s m below meth cd A Q ls hsz S hK hW hA hl hret
  have hl : lv_has ls 2 [(0, .ref (a 0)), (1, .int (nI (n)))] := hl
  have hinX3 : ∀ w ∈ u_ws RX3 TX3 13, w ∈ wsX3_append := by decide +kernel
  have hin : inb (nI (n)) (nI (33)) (nI (126)) = true := inb_t (by omega) (by omega) (by decide)
  refine lv_aload_n S.1 S.2.1 dX3_append_0 rfl (lv_at hl 0 rfl) ?_
  refine lv_iload_n S.1 S.2.1 dX3_append_1 rfl (lv_at hl 1 rfl) ?_
  refine lv_bipush (v := nI (33)) S.1 S.2.1 dX3_append_2 rfl ?_
  refine lv_bipush (v := nI (126)) S.1 S.2.1 dX3_append_4 rfl ?_
  refine k_SI (rest := [.ref (a 0)]) S hK hl.1 hW (KFr.nil hW hA) (mX3_in l D c  _ (nI (n)) (nI (33)) (nI (126))) gX3_append_X3_in rfl pdX3_in ⟨⟨rfl, rfl⟩, Nat.le_of_ble_eq_true rfl, Nat.le_of_ble_eq_true rfl⟩ rfl (Nat.le_of_ble_eq_true rfl) dX3_append_6 ⟨Nat.le_of_ble_eq_true rfl, Nat.le_of_ble_eq_true rfl⟩ (fun H locs hW => ?_)
  have hW : kw D A s.heap (wM c a φ δ) H locs := hW
  refine kb_ne S (tgt := 16) dX3_append_9 (by decide) (fun c_9 => ?_) (fun c_9 => ?_)
  · refine lv_aload_n S.1 S.2.1 dX3_append_16 rfl (lv_at hl 0 rfl) ?_
    refine kx_get S hK hW hinX3 0 3 rfl rfl 8 (by decide) (List.mem_of_getElem? (i := 1) rfl) (v := .int (nI (φ 8 0))) rfl dX3_append_17 ?_
    refine lv_bipush (v := nI (60)) S.1 S.2.1 dX3_append_20 rfl ?_
    refine kn_ne S (tgt := 29) dX3_append_22 (by decide) (by omega) (by omega) (fun c_22 => ?_) (fun c_22 => ?_)
    · exact absurd h60 c_22
    · refine lv_iconst (v := nI (2)) S.1 S.2.1 dX3_append_25 rfl ?_
      refine lv_goto (tgt := 30) S.1 S.2.1 dX3_append_26 (by decide) ?_
      refine k_VI (rest := []) S hK hl.1 hW (KFr.all hW hA) (mX3_holds l D c a φ δ _ 2 (by first | omega | exact hw | assumption)) gX3_append_X3_holds rfl pdX3_holds ⟨⟨rfl, rfl⟩, Nat.le_of_ble_eq_true rfl, Nat.le_of_ble_eq_true rfl⟩ 0 3 rfl rfl rfl rfl (Nat.le_of_ble_eq_true rfl) dX3_append_30 ⟨Nat.le_of_ble_eq_true rfl, Nat.le_of_ble_eq_true rfl⟩ (fun H locs hW => ?_)
      have hW : kw D A s.heap (wM c a (pu φ 5 (kc (2))) δ) H locs := hW
      refine kb_ne S (tgt := 38) dX3_append_33 (by decide) (fun c_33 => ?_) (fun c_33 => ?_)
      · exact absurd c_33 (by decide)
      · refine lv_iconst (v := nI (0)) S.1 S.2.1 dX3_append_36 rfl ?_
        exact hret 37 _ _ _ _ _ dX3_append_37 hW (rfl) (rfl)
  · exact absurd (hin.symm.trans c_9) (by decide)
set_option maxHeartbeats 400000 in
set_option maxRecDepth 100000 in
theorem mX3_append_k (l : Launch) (D : va_G) (c : Nat → ClassId) (a : Nat → Nat) (φ : Nat → Nat → Nat) (δ : Int64) (sz : Nat) (n : Nat) (h1 : 33 ≤ n) (h2 : n ≤ 126) (hl8 : φ 8 0 < 60) : MI l yX3_append wsX3_append rmX3_append D c sz (wM c a φ δ) [.ref (a 0), .int (nI (n))] (nI (φ 8 0 + 1)) (wM c a (pu (pu (pu φ 5 (kc (0))) 4 (fu (φ 4) (φ 8 0) n)) 8 (kc (φ 8 0 + 1))) δ) := by
  refine MI.of (cc := cX3_append) (maxL := 2) (ty := .int) (by decide) rfl (Nat.le_of_ble_eq_true rfl) rfl ?_
  intro P e s m below meth cd A Q ls hsz S hK hW hA hl hret
  have hl : lv_has ls 2 [(0, .ref (a 0)), (1, .int (nI (n)))] := hl
  have hinX3 : ∀ w ∈ u_ws RX3 TX3 13, w ∈ wsX3_append := by decide +kernel
  have hin : inb (nI (n)) (nI (33)) (nI (126)) = true := inb_t (by omega) (by omega) (by decide)
  refine lv_aload_n S.1 S.2.1 dX3_append_0 rfl (lv_at hl 0 rfl) ?_
  refine lv_iload_n S.1 S.2.1 dX3_append_1 rfl (lv_at hl 1 rfl) ?_
  refine lv_bipush (v := nI (33)) S.1 S.2.1 dX3_append_2 rfl ?_
  refine lv_bipush (v := nI (126)) S.1 S.2.1 dX3_append_4 rfl ?_
  refine k_SI (rest := [.ref (a 0)]) S hK hl.1 hW (KFr.nil hW hA) (mX3_in l D c  _ (nI (n)) (nI (33)) (nI (126))) gX3_append_X3_in rfl pdX3_in ⟨⟨rfl, rfl⟩, Nat.le_of_ble_eq_true rfl, Nat.le_of_ble_eq_true rfl⟩ rfl (Nat.le_of_ble_eq_true rfl) dX3_append_6 ⟨Nat.le_of_ble_eq_true rfl, Nat.le_of_ble_eq_true rfl⟩ (fun H locs hW => ?_)
  have hW : kw D A s.heap (wM c a φ δ) H locs := hW
  refine kb_ne S (tgt := 16) dX3_append_9 (by decide) (fun c_9 => ?_) (fun c_9 => ?_)
  · refine lv_aload_n S.1 S.2.1 dX3_append_16 rfl (lv_at hl 0 rfl) ?_
    refine kx_get S hK hW hinX3 0 3 rfl rfl 8 (by decide) (List.mem_of_getElem? (i := 1) rfl) (v := .int (nI (φ 8 0))) rfl dX3_append_17 ?_
    refine lv_bipush (v := nI (60)) S.1 S.2.1 dX3_append_20 rfl ?_
    refine kn_ne S (tgt := 29) dX3_append_22 (by decide) (by omega) (by omega) (fun c_22 => ?_) (fun c_22 => ?_)
    · refine lv_iconst (v := nI (0)) S.1 S.2.1 dX3_append_29 rfl ?_
      refine k_VI (rest := []) S hK hl.1 hW (KFr.all hW hA) (mX3_holds l D c a φ δ _ 0 (by first | omega | exact hw | assumption)) gX3_append_X3_holds rfl pdX3_holds ⟨⟨rfl, rfl⟩, Nat.le_of_ble_eq_true rfl, Nat.le_of_ble_eq_true rfl⟩ 0 3 rfl rfl rfl rfl (Nat.le_of_ble_eq_true rfl) dX3_append_30 ⟨Nat.le_of_ble_eq_true rfl, Nat.le_of_ble_eq_true rfl⟩ (fun H locs hW => ?_)
      have hW : kw D A s.heap (wM c a (pu φ 5 (kc (0))) δ) H locs := hW
      refine kb_ne S (tgt := 38) dX3_append_33 (by decide) (fun c_33 => ?_) (fun c_33 => ?_)
      · refine lv_aload_n S.1 S.2.1 dX3_append_38 rfl (lv_at hl 0 rfl) ?_
        refine kx_get S hK hW hinX3 0 3 rfl rfl 7 (by decide) (List.mem_of_getElem? (i := 2) rfl) (v := .ref (a 5)) rfl dX3_append_39 ?_
        refine lv_aload_n S.1 S.2.1 dX3_append_42 rfl (lv_at hl 0 rfl) ?_
        refine kx_get S hK hW hinX3 0 3 rfl rfl 8 (by decide) (List.mem_of_getElem? (i := 1) rfl) (v := .int (nI (φ 8 0))) rfl dX3_append_43 ?_
        refine lv_iload_n S.1 S.2.1 dX3_append_46 rfl (lv_at hl 1 rfl) ?_
        refine kn_ast S hK hW 5 (f := φ 4) rfl (by omega) (by decide) dX3_append_47 (fun H locs hW => ?_)
        have hW : kw D A s.heap (wM c a (pu (pu φ 5 (kc (0))) 4 (fu (φ 4) (φ 8 0) n)) δ) H locs := hW
        refine lv_aload_n S.1 S.2.1 dX3_append_48 rfl (lv_at hl 0 rfl) ?_
        refine lv_dup S.1 S.2.1 dX3_append_49 rfl ?_
        refine kx_get S hK hW hinX3 0 3 rfl rfl 8 (by decide) (List.mem_of_getElem? (i := 1) rfl) (v := .int (nI (φ 8 0))) rfl dX3_append_50 ?_
        refine lv_iconst (v := nI (1)) S.1 S.2.1 dX3_append_53 rfl ?_
        refine kn_iadd S dX3_append_54 ?_
        refine kx_put S hK hW hinX3 tyX3_ok nmX3 0 3 rfl rfl 8 (by decide) (List.mem_of_getElem? (i := 1) rfl) rfl (v := .int (nI (φ 8 0 + 1))) rfl rfl (Nat.le_of_ble_eq_true rfl) dX3_append_55 (fun H locs hW => ?_)
        have hW : kw D A s.heap (wM c a (pu (pu (pu φ 5 (kc (0))) 4 (fu (φ 4) (φ 8 0) n)) 8 (kc (φ 8 0 + 1))) δ) H locs := hW
        refine lv_aload_n S.1 S.2.1 dX3_append_58 rfl (lv_at hl 0 rfl) ?_
        refine kx_get S hK hW hinX3 0 3 rfl rfl 8 (by decide) (List.mem_of_getElem? (i := 1) rfl) (v := .int (nI (φ 8 0 + 1))) rfl dX3_append_59 ?_
        exact hret 62 _ _ _ _ _ dX3_append_62 hW (rfl) (rfl)
      · exact absurd c_33 (by decide)
    · exact absurd c_22 (by omega)
  · exact absurd (hin.symm.trans c_9) (by decide)
abbrev rmX3_clearBuffer : Room := { frames := 0, cells := 0, slots := 0, locals := 0 }
theorem pdX3_clearBuffer : kPd yX3_clearBuffer 0 := by decide +kernel
set_option maxHeartbeats 400000 in
set_option maxRecDepth 100000 in
theorem mX3_clearBuffer (l : Launch) (D : va_G) (c : Nat → ClassId) (a : Nat → Nat) (φ : Nat → Nat → Nat) (δ : Int64) (sz : Nat) : MI l yX3_clearBuffer wsX3_clearBuffer rmX3_clearBuffer D c sz (wM c a φ δ) [.ref (a 0)] (nI (φ 8 0)) (wM c a (pu (pu φ 5 (kc (0))) 8 (kc (0))) δ) := by
  refine MI.of (cc := cX3_clearBuffer) (maxL := 2) (ty := .int) (by decide) rfl (Nat.le_of_ble_eq_true rfl) rfl ?_
  intro P e s m below meth cd A Q ls hsz S hK hW hA hl hret
  have hl : lv_has ls 2 [(0, .ref (a 0))] := hl
  have hinX3 : ∀ w ∈ u_ws RX3 TX3 13, w ∈ wsX3_clearBuffer := by decide +kernel
  refine lv_aload_n S.1 S.2.1 dX3_clearBuffer_0 rfl (lv_at hl 0 rfl) ?_
  refine lv_iconst (v := nI (0)) S.1 S.2.1 dX3_clearBuffer_1 rfl ?_
  refine kx_put S hK hW hinX3 tyX3_ok nmX3 0 3 rfl rfl 0 (by decide) (List.mem_of_getElem? (i := 1) rfl) rfl (v := .int (nI (0))) rfl rfl (Nat.le_of_ble_eq_true rfl) dX3_clearBuffer_2 (fun H locs hW => ?_)
  have hW : kw D A s.heap (wM c a (pu φ 5 (kc (0))) δ) H locs := hW
  refine lv_aload_n S.1 S.2.1 dX3_clearBuffer_5 rfl (lv_at hl 0 rfl) ?_
  refine kx_get S hK hW hinX3 0 3 rfl rfl 8 (by decide) (List.mem_of_getElem? (i := 2) rfl) (v := .int (nI (φ 8 0))) rfl dX3_clearBuffer_6 ?_
  refine lv_istore_n (lv' := [(1, .int (nI (φ 8 0))), (0, .ref (a 0))]) S.1 S.2.1 dX3_clearBuffer_9 rfl hl (by decide) rfl (fun ls hl => ?_)
  refine lv_aload_n S.1 S.2.1 dX3_clearBuffer_10 rfl (lv_at hl 1 rfl) ?_
  refine lv_iconst (v := nI (0)) S.1 S.2.1 dX3_clearBuffer_11 rfl ?_
  refine kx_put S hK hW hinX3 tyX3_ok nmX3 0 3 rfl rfl 8 (by decide) (List.mem_of_getElem? (i := 2) rfl) rfl (v := .int (nI (0))) rfl rfl (Nat.le_of_ble_eq_true rfl) dX3_clearBuffer_12 (fun H locs hW => ?_)
  have hW : kw D A s.heap (wM c a (pu (pu φ 5 (kc (0))) 8 (kc (0))) δ) H locs := hW
  refine lv_iload_n S.1 S.2.1 dX3_clearBuffer_15 rfl (lv_at hl 0 rfl) ?_
  exact hret 16 _ _ _ _ _ dX3_clearBuffer_16 hW (rfl) (rfl)
abbrev rmX3_undo : Room := { frames := 1, cells := 0, slots := 0, locals := 21 }
theorem pdX3_undo : kPd yX3_undo 0 := by decide +kernel
set_option maxHeartbeats 400000 in
set_option maxRecDepth 100000 in
theorem mX3_undo_x1 (l : Launch) (D : va_G) (c : Nat → ClassId) (a : Nat → Nat) (φ : Nat → Nat → Nat) (δ : Int64) (sz : Nat) (h0 : φ 6 0 = 0) : MI l yX3_undo wsX3_undo rmX3_undo D c sz (wM c a φ δ) [.ref (a 0)] (nI (0)) (wM c a (pu φ 5 (kc (1))) δ) := by
  refine MI.of (cc := cX3_undo) (maxL := 2) (ty := .int) (by decide) rfl (Nat.le_of_ble_eq_true rfl) rfl ?_
  intro P e s m below meth cd A Q ls hsz S hK hW hA hl hret
  have hl : lv_has ls 2 [(0, .ref (a 0))] := hl
  have hinX3 : ∀ w ∈ u_ws RX3 TX3 13, w ∈ wsX3_undo := by decide +kernel
  refine lv_aload_n S.1 S.2.1 dX3_undo_0 rfl (lv_at hl 0 rfl) ?_
  refine lv_aload_n S.1 S.2.1 dX3_undo_1 rfl (lv_at hl 0 rfl) ?_
  refine kx_get S hK hW hinX3 0 3 rfl rfl 4 (by decide) (List.mem_of_getElem? (i := 1) rfl) (v := .int (nI (φ 6 0))) rfl dX3_undo_2 ?_
  refine kz_le S (tgt := 12) dX3_undo_5 (by decide) (by omega) (fun c_5 => ?_) (fun c_5 => ?_)
  · refine lv_iconst (v := nI (1)) S.1 S.2.1 dX3_undo_12 rfl ?_
    refine k_VI (rest := []) S hK hl.1 hW (KFr.all hW hA) (mX3_holds l D c a φ δ _ 1 (by first | omega | exact hw | assumption)) gX3_undo_X3_holds rfl pdX3_holds ⟨⟨rfl, rfl⟩, Nat.le_of_ble_eq_true rfl, Nat.le_of_ble_eq_true rfl⟩ 0 3 rfl rfl rfl rfl (Nat.le_of_ble_eq_true rfl) dX3_undo_13 ⟨Nat.le_of_ble_eq_true rfl, Nat.le_of_ble_eq_true rfl⟩ (fun H locs hW => ?_)
    have hW : kw D A s.heap (wM c a (pu φ 5 (kc (1))) δ) H locs := hW
    refine kb_ne S (tgt := 21) dX3_undo_16 (by decide) (fun c_16 => ?_) (fun c_16 => ?_)
    · exact absurd c_16 (by decide)
    · refine lv_iconst (v := nI (0)) S.1 S.2.1 dX3_undo_19 rfl ?_
      exact hret 20 _ _ _ _ _ dX3_undo_20 hW (rfl) (rfl)
  · exact absurd c_5 (by omega)
set_option maxHeartbeats 400000 in
set_option maxRecDepth 100000 in
theorem mX3_undo_k (l : Launch) (D : va_G) (c : Nat → ClassId) (a : Nat → Nat) (φ : Nat → Nat → Nat) (δ : Int64) (sz : Nat) (h0 : 0 < φ 6 0) (hk : φ 6 0 ≤ 6) : MI l yX3_undo wsX3_undo rmX3_undo D c sz (wM c a φ δ) [.ref (a 0)] (nI (φ 6 0 - 1)) (wM c a (pu (pu (pu φ 5 (kc (0))) 0 (rowk (φ 2) (φ 6 0 - 1))) 6 (kc (φ 6 0 - 1))) δ) := by
  refine MI.of (cc := cX3_undo) (maxL := 2) (ty := .int) (by decide) rfl (Nat.le_of_ble_eq_true rfl) rfl ?_
  intro P e s m below meth cd A Q ls hsz S hK hW hA hl hret
  have hl : lv_has ls 2 [(0, .ref (a 0))] := hl
  have hinX3 : ∀ w ∈ u_ws RX3 TX3 13, w ∈ wsX3_undo := by decide +kernel
  refine lv_aload_n S.1 S.2.1 dX3_undo_0 rfl (lv_at hl 0 rfl) ?_
  refine lv_aload_n S.1 S.2.1 dX3_undo_1 rfl (lv_at hl 0 rfl) ?_
  refine kx_get S hK hW hinX3 0 3 rfl rfl 4 (by decide) (List.mem_of_getElem? (i := 1) rfl) (v := .int (nI (φ 6 0))) rfl dX3_undo_2 ?_
  refine kz_le S (tgt := 12) dX3_undo_5 (by decide) (by omega) (fun c_5 => ?_) (fun c_5 => ?_)
  · exact absurd c_5 (by omega)
  · refine lv_iconst (v := nI (0)) S.1 S.2.1 dX3_undo_8 rfl ?_
    refine lv_goto (tgt := 13) S.1 S.2.1 dX3_undo_9 (by decide) ?_
    refine k_VI (rest := []) S hK hl.1 hW (KFr.all hW hA) (mX3_holds l D c a φ δ _ 0 (by first | omega | exact hw | assumption)) gX3_undo_X3_holds rfl pdX3_holds ⟨⟨rfl, rfl⟩, Nat.le_of_ble_eq_true rfl, Nat.le_of_ble_eq_true rfl⟩ 0 3 rfl rfl rfl rfl (Nat.le_of_ble_eq_true rfl) dX3_undo_13 ⟨Nat.le_of_ble_eq_true rfl, Nat.le_of_ble_eq_true rfl⟩ (fun H locs hW => ?_)
    have hW : kw D A s.heap (wM c a (pu φ 5 (kc (0))) δ) H locs := hW
    refine kb_ne S (tgt := 21) dX3_undo_16 (by decide) (fun c_16 => ?_) (fun c_16 => ?_)
    · refine lv_aload_n S.1 S.2.1 dX3_undo_21 rfl (lv_at hl 0 rfl) ?_
      refine lv_dup S.1 S.2.1 dX3_undo_22 rfl ?_
      refine kx_get S hK hW hinX3 0 3 rfl rfl 4 (by decide) (List.mem_of_getElem? (i := 1) rfl) (v := .int (nI (φ 6 0))) rfl dX3_undo_23 ?_
      refine lv_iconst (v := nI (1)) S.1 S.2.1 dX3_undo_26 rfl ?_
      refine kn_isub S dX3_undo_27 (by omega) ?_
      refine kx_put S hK hW hinX3 tyX3_ok nmX3 0 3 rfl rfl 4 (by decide) (List.mem_of_getElem? (i := 1) rfl) rfl (v := .int (nI ((φ 6 0) - 1))) rfl rfl (Nat.le_of_ble_eq_true rfl) dX3_undo_28 (fun H locs hW => ?_)
      have hW : kw D A s.heap (wM c a (pu (pu φ 5 (kc (0))) 6 (kc ((φ 6 0) - 1))) δ) H locs := hW
      refine lv_iconst (v := nI (0)) S.1 S.2.1 dX3_undo_31 rfl ?_
      refine lv_istore_n (lv' := [(1, .int (nI (0))), (0, .ref (a 0))]) S.1 S.2.1 dX3_undo_32 rfl hl (by decide) rfl (fun ls hl => ?_)
      refine k_loop (fun (zz : Nat) H lo ls => match zz with | k => kw D A s.heap (wM c a (pu (pu (pu φ 5 (kc (0))) 6 (kc ((φ 6 0) - 1))) 0 (cpr (φ 2) (φ 0) (147 * (φ 6 0 - 1)) k)) δ) H lo ∧ lv_has ls 2 [(0, .ref (a 0)), (1, .int (nI (k)))] ∧ k ≤ 147) (fun (zz : Nat) => match zz with | k => 147 - k) [] ?_ 0 _ _ _ ⟨hW, lv_sub hl [1, 0] rfl, (by decide)⟩
      rintro k ih33 H locs ls ⟨hW, hl, hi33_0⟩
      refine lv_iload_n S.1 S.2.1 dX3_undo_33 rfl (lv_at hl 1 rfl) ?_
      refine lv_sipush (v := nI (147)) S.1 S.2.1 dX3_undo_34 rfl ?_
      refine kn_ge S (tgt := 67) dX3_undo_37 (by decide) (by omega) (by omega) (fun c_37 => ?_) (fun c_37 => ?_)
      · have e9 : k = 147 := by omega
        subst e9
        have hW := kw_arr hW 1 rfl (rowk (φ 2) (φ 6 0 - 1)) (fun i hi => by show (cpr (φ 2) (φ 0) (147 * (φ 6 0 - 1)) 147) i = (rowk (φ 2) (φ 6 0 - 1)) i; rw [cpr_eq, if_pos hi]; rfl)
        have hW : kw D A s.heap (wM c a (pu (pu (pu φ 5 (kc (0))) 6 (kc ((φ 6 0) - 1))) 0 (rowk (φ 2) (φ 6 0 - 1))) δ) H locs := hW
        refine lv_aload_n S.1 S.2.1 dX3_undo_67 rfl (lv_at hl 0 rfl) ?_
        refine kx_get S hK hW hinX3 0 3 rfl rfl 4 (by decide) (List.mem_of_getElem? (i := 1) rfl) (v := .int (nI ((φ 6 0) - 1))) rfl dX3_undo_68 ?_
        exact hret 71 _ _ _ _ _ dX3_undo_71 hW (rfl) (rfl)
      · refine lv_aload_n S.1 S.2.1 dX3_undo_40 rfl (lv_at hl 0 rfl) ?_
        refine kx_get S hK hW hinX3 0 3 rfl rfl 1 (by decide) (List.mem_of_getElem? (i := 2) rfl) (v := .ref (a 1)) rfl dX3_undo_41 ?_
        refine lv_iload_n S.1 S.2.1 dX3_undo_44 rfl (lv_at hl 1 rfl) ?_
        refine lv_aload_n S.1 S.2.1 dX3_undo_45 rfl (lv_at hl 0 rfl) ?_
        refine kx_get S hK hW hinX3 0 3 rfl rfl 3 (by decide) (List.mem_of_getElem? (i := 3) rfl) (v := .ref (a 3)) rfl dX3_undo_46 ?_
        refine lv_sipush (v := nI (147)) S.1 S.2.1 dX3_undo_49 rfl ?_
        refine lv_aload_n S.1 S.2.1 dX3_undo_52 rfl (lv_at hl 0 rfl) ?_
        refine kx_get S hK hW hinX3 0 3 rfl rfl 4 (by decide) (List.mem_of_getElem? (i := 1) rfl) (v := .int (nI ((φ 6 0) - 1))) rfl dX3_undo_53 ?_
        refine kn_imul S dX3_undo_56 ?_
        refine lv_iload_n S.1 S.2.1 dX3_undo_57 rfl (lv_at hl 1 rfl) ?_
        refine kn_iadd S dX3_undo_58 ?_
        refine kn_ald S hK hW 3 (f := φ 2) rfl (by omega) (by decide) dX3_undo_59 ?_
        refine kn_ast S hK hW 1 (f := cpr (φ 2) (φ 0) (147 * (φ 6 0 - 1)) k) rfl (by omega) (by decide) dX3_undo_60 (fun H locs hW => ?_)
        have hW : kw D A s.heap (wM c a (pu (pu (pu φ 5 (kc (0))) 6 (kc ((φ 6 0) - 1))) 0 (fu (cpr (φ 2) (φ 0) (147 * (φ 6 0 - 1)) k) k (φ 2 (147 * ((φ 6 0) - 1) + k)))) δ) H locs := hW
        refine lv_iinc (v := nI (k + 1)) (lv' := [(1, .int (nI (k + 1))), (0, .ref (a 0))]) S.1 S.2.1 dX3_undo_61 hl (k := 1) rfl (nI_add _ _) (by decide) rfl (fun ls hl => ?_)
        refine lv_goto (tgt := 33) S.1 S.2.1 dX3_undo_64 (by decide) ?_
        exact ih33 (k + 1) _ _ _ ⟨hW, lv_sub hl [1, 0] rfl, (by omega)⟩ (by show 147 - (k + 1) < 147 - k; omega)
    · exact absurd c_16 (by decide)
abbrev rmX3_keep : Room := { frames := 3, cells := 0, slots := 0, locals := 65 }
theorem pdX3_keep : kPd yX3_keep 0 := by decide +kernel
set_option maxHeartbeats 400000 in
set_option maxRecDepth 100000 in
theorem mX3_keep (l : Launch) (D : va_G) (c : Nat → ClassId) (a : Nat → Nat) (φ : Nat → Nat → Nat) (δ : Int64) (sz : Nat) : MI l yX3_keep wsX3_keep rmX3_keep D c sz (wM c a φ δ) [.ref (a 0)] (nI (allp (φ 0))) (wM c a (pu (pu (pu φ 5 (kc (0))) 3 (φ 0)) 7 (kc (1))) δ) := by
  refine MI.of (cc := cX3_keep) (maxL := 2) (ty := .int) (by decide) rfl (Nat.le_of_ble_eq_true rfl) rfl ?_
  intro P e s m below meth cd A Q ls hsz S hK hW hA hl hret
  have hl : lv_has ls 2 [(0, .ref (a 0))] := hl
  have hinX3 : ∀ w ∈ u_ws RX3 TX3 13, w ∈ wsX3_keep := by decide +kernel
  refine lv_aload_n S.1 S.2.1 dX3_keep_0 rfl (lv_at hl 0 rfl) ?_
  refine lv_iconst (v := nI (0)) S.1 S.2.1 dX3_keep_1 rfl ?_
  refine kx_put S hK hW hinX3 tyX3_ok nmX3 0 3 rfl rfl 0 (by decide) (List.mem_of_getElem? (i := 1) rfl) rfl (v := .int (nI (0))) rfl rfl (Nat.le_of_ble_eq_true rfl) dX3_keep_2 (fun H locs hW => ?_)
  have hW : kw D A s.heap (wM c a (pu φ 5 (kc (0))) δ) H locs := hW
  refine lv_iconst (v := nI (0)) S.1 S.2.1 dX3_keep_5 rfl ?_
  refine lv_istore_n (lv' := [(1, .int (nI (0))), (0, .ref (a 0))]) S.1 S.2.1 dX3_keep_6 rfl hl (by decide) rfl (fun ls hl => ?_)
  refine k_loop (fun (zz : Nat) H lo ls => match zz with | k => kw D A s.heap (wM c a (pu (pu φ 5 (kc (0))) 3 (cpo (φ 0) (φ 3) 0 k)) δ) H lo ∧ lv_has ls 2 [(0, .ref (a 0)), (1, .int (nI (k)))] ∧ k ≤ 147) (fun (zz : Nat) => match zz with | k => 147 - k) [] ?_ 0 _ _ _ ⟨hW, lv_sub hl [1, 0] rfl, (by decide)⟩
  rintro k ih7 H locs ls ⟨hW, hl, hi7_0⟩
  refine lv_iload_n S.1 S.2.1 dX3_keep_7 rfl (lv_at hl 1 rfl) ?_
  refine lv_sipush (v := nI (147)) S.1 S.2.1 dX3_keep_8 rfl ?_
  refine kn_ge S (tgt := 32) dX3_keep_11 (by decide) (by omega) (by omega) (fun c_11 => ?_) (fun c_11 => ?_)
  · have e9 : k = 147 := by omega
    subst e9
    have hW := kw_arr hW 4 rfl (φ 0) (fun i hi => by show (cpo (φ 0) (φ 3) 0 147) i = (φ 0) i; rw [cpo_eq, if_pos ⟨Nat.zero_le _, by omega⟩]; rfl)
    have hW : kw D A s.heap (wM c a (pu (pu φ 5 (kc (0))) 3 (φ 0)) δ) H locs := hW
    refine lv_aload_n S.1 S.2.1 dX3_keep_32 rfl (lv_at hl 0 rfl) ?_
    refine lv_iconst (v := nI (1)) S.1 S.2.1 dX3_keep_33 rfl ?_
    refine kx_put S hK hW hinX3 tyX3_ok nmX3 0 3 rfl rfl 6 (by decide) (List.mem_of_getElem? (i := 4) rfl) rfl (v := .int (nI (1))) rfl rfl (Nat.le_of_ble_eq_true rfl) dX3_keep_34 (fun H locs hW => ?_)
    have hW : kw D A s.heap (wM c a (pu (pu (pu φ 5 (kc (0))) 3 (φ 0)) 7 (kc (1))) δ) H locs := hW
    refine lv_aload_n S.1 S.2.1 dX3_keep_37 rfl (lv_at hl 0 rfl) ?_
    refine k_VI (rest := []) S hK hl.1 hW (KFr.all hW hA) (mX3_allPins l D c a ((pu (pu (pu φ 5 (kc (0))) 3 (φ 0)) 7 (kc (1)))) δ _ ) gX3_keep_X3_allPins rfl pdX3_allPins ⟨⟨rfl, rfl⟩, Nat.le_of_ble_eq_true rfl, Nat.le_of_ble_eq_true rfl⟩ 0 3 rfl rfl rfl rfl (Nat.le_of_ble_eq_true rfl) dX3_keep_38 ⟨Nat.le_of_ble_eq_true rfl, Nat.le_of_ble_eq_true rfl⟩ (fun H locs hW => ?_)
    have hW : kw D A s.heap (wM c a (pu (pu (pu φ 5 (kc (0))) 3 (φ 0)) 7 (kc (1))) δ) H locs := hW
    refine k_top (y := nI (allp ((φ 0)))) rfl ?_
    exact hret 41 _ _ _ _ _ dX3_keep_41 hW (rfl) (rfl)
  · refine lv_aload_n S.1 S.2.1 dX3_keep_14 rfl (lv_at hl 0 rfl) ?_
    refine kx_get S hK hW hinX3 0 3 rfl rfl 5 (by decide) (List.mem_of_getElem? (i := 2) rfl) (v := .ref (a 4)) rfl dX3_keep_15 ?_
    refine lv_iload_n S.1 S.2.1 dX3_keep_18 rfl (lv_at hl 1 rfl) ?_
    refine lv_aload_n S.1 S.2.1 dX3_keep_19 rfl (lv_at hl 0 rfl) ?_
    refine kx_get S hK hW hinX3 0 3 rfl rfl 1 (by decide) (List.mem_of_getElem? (i := 3) rfl) (v := .ref (a 1)) rfl dX3_keep_20 ?_
    refine lv_iload_n S.1 S.2.1 dX3_keep_23 rfl (lv_at hl 1 rfl) ?_
    refine kn_ald S hK hW 1 (f := φ 0) rfl (by omega) (by decide) dX3_keep_24 ?_
    refine kn_ast S hK hW 4 (f := cpo (φ 0) (φ 3) 0 k) rfl (by omega) (by decide) dX3_keep_25 (fun H locs hW => ?_)
    have hW : kw D A s.heap (wM c a (pu (pu φ 5 (kc (0))) 3 (fu (cpo (φ 0) (φ 3) 0 k) k (φ 0 (k)))) δ) H locs := hW
    have hW : kw D A s.heap (wM c a (pu (pu φ 5 (kc (0))) 3 (cpo (φ 0) (φ 3) 0 (k + 1))) δ) H locs := by rw [cpo_s]; exact hW
    refine lv_iinc (v := nI (k + 1)) (lv' := [(1, .int (nI (k + 1))), (0, .ref (a 0))]) S.1 S.2.1 dX3_keep_26 hl (k := 1) rfl (nI_add _ _) (by decide) rfl (fun ls hl => ?_)
    refine lv_goto (tgt := 7) S.1 S.2.1 dX3_keep_29 (by decide) ?_
    exact ih7 (k + 1) _ _ _ ⟨hW, lv_sub hl [1, 0] rfl, (by omega)⟩ (by show 147 - (k + 1) < 147 - k; omega)
abbrev rmX3_restore : Room := { frames := 3, cells := 0, slots := 0, locals := 65 }
theorem pdX3_restore : kPd yX3_restore 0 := by decide +kernel
set_option maxHeartbeats 400000 in
set_option maxRecDepth 100000 in
theorem mX3_restore_x1 (l : Launch) (D : va_G) (c : Nat → ClassId) (a : Nat → Nat) (φ : Nat → Nat → Nat) (δ : Int64) (sz : Nat) (h7 : φ 7 0 = 0) : MI l yX3_restore wsX3_restore rmX3_restore D c sz (wM c a φ δ) [.ref (a 0)] (nI (0)) (wM c a (pu φ 5 (kc (1))) δ) := by
  refine MI.of (cc := cX3_restore) (maxL := 2) (ty := .int) (by decide) rfl (Nat.le_of_ble_eq_true rfl) rfl ?_
  intro P e s m below meth cd A Q ls hsz S hK hW hA hl hret
  have hl : lv_has ls 2 [(0, .ref (a 0))] := hl
  have hinX3 : ∀ w ∈ u_ws RX3 TX3 13, w ∈ wsX3_restore := by decide +kernel
  refine lv_aload_n S.1 S.2.1 dX3_restore_0 rfl (lv_at hl 0 rfl) ?_
  refine lv_aload_n S.1 S.2.1 dX3_restore_1 rfl (lv_at hl 0 rfl) ?_
  refine kx_get S hK hW hinX3 0 3 rfl rfl 6 (by decide) (List.mem_of_getElem? (i := 1) rfl) (v := .int (nI (φ 7 0))) rfl dX3_restore_2 ?_
  refine kz_eq S (tgt := 12) dX3_restore_5 (by decide) (by omega) (fun c_5 => ?_) (fun c_5 => ?_)
  · refine lv_iconst (v := nI (1)) S.1 S.2.1 dX3_restore_12 rfl ?_
    refine k_VI (rest := []) S hK hl.1 hW (KFr.all hW hA) (mX3_holds l D c a φ δ _ 1 (by first | omega | exact hw | assumption)) gX3_restore_X3_holds rfl pdX3_holds ⟨⟨rfl, rfl⟩, Nat.le_of_ble_eq_true rfl, Nat.le_of_ble_eq_true rfl⟩ 0 3 rfl rfl rfl rfl (Nat.le_of_ble_eq_true rfl) dX3_restore_13 ⟨Nat.le_of_ble_eq_true rfl, Nat.le_of_ble_eq_true rfl⟩ (fun H locs hW => ?_)
    have hW : kw D A s.heap (wM c a (pu φ 5 (kc (1))) δ) H locs := hW
    refine kb_ne S (tgt := 21) dX3_restore_16 (by decide) (fun c_16 => ?_) (fun c_16 => ?_)
    · exact absurd c_16 (by decide)
    · refine lv_iconst (v := nI (0)) S.1 S.2.1 dX3_restore_19 rfl ?_
      exact hret 20 _ _ _ _ _ dX3_restore_20 hW (rfl) (rfl)
  · exact absurd h7 c_5
set_option maxHeartbeats 400000 in
set_option maxRecDepth 100000 in
theorem mX3_restore_k (l : Launch) (D : va_G) (c : Nat → ClassId) (a : Nat → Nat) (φ : Nat → Nat → Nat) (δ : Int64) (sz : Nat) (h7 : φ 7 0 = 1) (hk : φ 6 0 ≤ 6) : MI l yX3_restore wsX3_restore rmX3_restore D c sz (wM c a φ δ) [.ref (a 0)] (nI (allp (φ 3))) (wM c a (pu (pu (pu (pu φ 2 (svf (φ 2) (φ 0) (φ 6 0))) 6 (kc (svn (φ 6 0)))) 5 (kc (0))) 0 (φ 3)) δ) := by
  refine MI.of (cc := cX3_restore) (maxL := 2) (ty := .int) (by decide) rfl (Nat.le_of_ble_eq_true rfl) rfl ?_
  intro P e s m below meth cd A Q ls hsz S hK hW hA hl hret
  have hl : lv_has ls 2 [(0, .ref (a 0))] := hl
  have hinX3 : ∀ w ∈ u_ws RX3 TX3 13, w ∈ wsX3_restore := by decide +kernel
  refine lv_aload_n S.1 S.2.1 dX3_restore_0 rfl (lv_at hl 0 rfl) ?_
  refine lv_aload_n S.1 S.2.1 dX3_restore_1 rfl (lv_at hl 0 rfl) ?_
  refine kx_get S hK hW hinX3 0 3 rfl rfl 6 (by decide) (List.mem_of_getElem? (i := 1) rfl) (v := .int (nI (φ 7 0))) rfl dX3_restore_2 ?_
  refine kz_eq S (tgt := 12) dX3_restore_5 (by decide) (by omega) (fun c_5 => ?_) (fun c_5 => ?_)
  · exact absurd c_5 (by omega)
  · refine lv_iconst (v := nI (0)) S.1 S.2.1 dX3_restore_8 rfl ?_
    refine lv_goto (tgt := 13) S.1 S.2.1 dX3_restore_9 (by decide) ?_
    refine k_VI (rest := []) S hK hl.1 hW (KFr.all hW hA) (mX3_holds l D c a φ δ _ 0 (by first | omega | exact hw | assumption)) gX3_restore_X3_holds rfl pdX3_holds ⟨⟨rfl, rfl⟩, Nat.le_of_ble_eq_true rfl, Nat.le_of_ble_eq_true rfl⟩ 0 3 rfl rfl rfl rfl (Nat.le_of_ble_eq_true rfl) dX3_restore_13 ⟨Nat.le_of_ble_eq_true rfl, Nat.le_of_ble_eq_true rfl⟩ (fun H locs hW => ?_)
    have hW : kw D A s.heap (wM c a (pu φ 5 (kc (0))) δ) H locs := hW
    refine kb_ne S (tgt := 21) dX3_restore_16 (by decide) (fun c_16 => ?_) (fun c_16 => ?_)
    · refine lv_aload_n S.1 S.2.1 dX3_restore_21 rfl (lv_at hl 0 rfl) ?_
      refine k_VV (rest := []) S hK hl.1 hW (KFr.all hW hA) (mX3_save l D c a ((pu φ 5 (kc (0)))) δ _ (by first | omega | exact hk | assumption)) gX3_restore_X3_save rfl pdX3_save ⟨⟨rfl, rfl⟩, Nat.le_of_ble_eq_true rfl, Nat.le_of_ble_eq_true rfl⟩ 0 3 rfl rfl rfl rfl (Nat.le_of_ble_eq_true rfl) dX3_restore_22 ⟨Nat.le_of_ble_eq_true rfl, Nat.le_of_ble_eq_true rfl⟩ (fun H locs hW => ?_)
      have hW : kw D A s.heap (wM c a (pu (pu (pu φ 5 (kc (0))) 2 (svf ((φ 2)) ((φ 0)) (((φ 6) 0)))) 6 (kc (svn (((φ 6) 0))))) δ) H locs := hW
      refine lv_iconst (v := nI (0)) S.1 S.2.1 dX3_restore_25 rfl ?_
      refine lv_istore_n (lv' := [(1, .int (nI (0))), (0, .ref (a 0))]) S.1 S.2.1 dX3_restore_26 rfl hl (by decide) rfl (fun ls hl => ?_)
      refine k_loop (fun (zz : Nat) H lo ls => match zz with | k => kw D A s.heap (wM c a (pu (pu (pu (pu φ 5 (kc (0))) 2 (svf ((φ 2)) ((φ 0)) (((φ 6) 0)))) 6 (kc (svn (((φ 6) 0))))) 0 (cpo (φ 3) (φ 0) 0 k)) δ) H lo ∧ lv_has ls 2 [(0, .ref (a 0)), (1, .int (nI (k)))] ∧ k ≤ 147) (fun (zz : Nat) => match zz with | k => 147 - k) [] ?_ 0 _ _ _ ⟨hW, lv_sub hl [1, 0] rfl, (by decide)⟩
      rintro k ih27 H locs ls ⟨hW, hl, hi27_0⟩
      refine lv_iload_n S.1 S.2.1 dX3_restore_27 rfl (lv_at hl 1 rfl) ?_
      refine lv_sipush (v := nI (147)) S.1 S.2.1 dX3_restore_28 rfl ?_
      refine kn_ge S (tgt := 52) dX3_restore_31 (by decide) (by omega) (by omega) (fun c_31 => ?_) (fun c_31 => ?_)
      · have e9 : k = 147 := by omega
        subst e9
        have hW := kw_arr hW 1 rfl (φ 3) (fun i hi => by show (cpo (φ 3) (φ 0) 0 147) i = (φ 3) i; rw [cpo_eq, if_pos ⟨Nat.zero_le _, by omega⟩]; rfl)
        have hW : kw D A s.heap (wM c a (pu (pu (pu (pu φ 5 (kc (0))) 2 (svf ((φ 2)) ((φ 0)) (((φ 6) 0)))) 6 (kc (svn (((φ 6) 0))))) 0 (φ 3)) δ) H locs := hW
        refine lv_aload_n S.1 S.2.1 dX3_restore_52 rfl (lv_at hl 0 rfl) ?_
        refine k_VI (rest := []) S hK hl.1 hW (KFr.all hW hA) (mX3_allPins l D c a ((pu (pu (pu (pu φ 5 (kc (0))) 2 (svf ((φ 2)) ((φ 0)) (((φ 6) 0)))) 6 (kc (svn (((φ 6) 0))))) 0 (φ 3))) δ _ ) gX3_restore_X3_allPins rfl pdX3_allPins ⟨⟨rfl, rfl⟩, Nat.le_of_ble_eq_true rfl, Nat.le_of_ble_eq_true rfl⟩ 0 3 rfl rfl rfl rfl (Nat.le_of_ble_eq_true rfl) dX3_restore_53 ⟨Nat.le_of_ble_eq_true rfl, Nat.le_of_ble_eq_true rfl⟩ (fun H locs hW => ?_)
        have hW : kw D A s.heap (wM c a (pu (pu (pu (pu φ 5 (kc (0))) 2 (svf ((φ 2)) ((φ 0)) (((φ 6) 0)))) 6 (kc (svn (((φ 6) 0))))) 0 (φ 3)) δ) H locs := hW
        refine k_top (y := nI (allp ((φ 3)))) rfl ?_
        exact hret 56 _ _ _ _ _ dX3_restore_56 hW (rfl) (rfl)
      · refine lv_aload_n S.1 S.2.1 dX3_restore_34 rfl (lv_at hl 0 rfl) ?_
        refine kx_get S hK hW hinX3 0 3 rfl rfl 1 (by decide) (List.mem_of_getElem? (i := 2) rfl) (v := .ref (a 1)) rfl dX3_restore_35 ?_
        refine lv_iload_n S.1 S.2.1 dX3_restore_38 rfl (lv_at hl 1 rfl) ?_
        refine lv_aload_n S.1 S.2.1 dX3_restore_39 rfl (lv_at hl 0 rfl) ?_
        refine kx_get S hK hW hinX3 0 3 rfl rfl 5 (by decide) (List.mem_of_getElem? (i := 3) rfl) (v := .ref (a 4)) rfl dX3_restore_40 ?_
        refine lv_iload_n S.1 S.2.1 dX3_restore_43 rfl (lv_at hl 1 rfl) ?_
        refine kn_ald S hK hW 4 (f := φ 3) rfl (by omega) (by decide) dX3_restore_44 ?_
        refine kn_ast S hK hW 1 (f := cpo (φ 3) (φ 0) 0 k) rfl (by omega) (by decide) dX3_restore_45 (fun H locs hW => ?_)
        have hW : kw D A s.heap (wM c a (pu (pu (pu (pu φ 5 (kc (0))) 2 (svf ((φ 2)) ((φ 0)) (((φ 6) 0)))) 6 (kc (svn (((φ 6) 0))))) 0 (fu (cpo (φ 3) (φ 0) 0 k) k (φ 3 (k)))) δ) H locs := hW
        have hW : kw D A s.heap (wM c a (pu (pu (pu (pu φ 5 (kc (0))) 2 (svf ((φ 2)) ((φ 0)) (((φ 6) 0)))) 6 (kc (svn (((φ 6) 0))))) 0 (cpo (φ 3) (φ 0) 0 (k + 1))) δ) H locs := by rw [cpo_s]; exact hW
        refine lv_iinc (v := nI (k + 1)) (lv' := [(1, .int (nI (k + 1))), (0, .ref (a 0))]) S.1 S.2.1 dX3_restore_46 hl (k := 1) rfl (nI_add _ _) (by decide) rfl (fun ls hl => ?_)
        refine lv_goto (tgt := 27) S.1 S.2.1 dX3_restore_49 (by decide) ?_
        exact ih27 (k + 1) _ _ _ ⟨hW, lv_sub hl [1, 0] rfl, (by omega)⟩ (by show 147 - (k + 1) < 147 - k; omega)
    · exact absurd c_16 (by decide)
abbrev rmX3_fullest : Room := { frames := 3, cells := 0, slots := 0, locals := 68 }
theorem pdX3_fullest : kPd yX3_fullest 1 := by decide +kernel
set_option maxHeartbeats 400000 in
set_option maxRecDepth 100000 in
theorem mX3_fullest (l : Launch) (D : va_G) (c : Nat → ClassId) (a : Nat → Nat) (φ : Nat → Nat → Nat) (δ : Int64) (sz : Nat) (t : Nat) (ht : t < 3) : MI l yX3_fullest wsX3_fullest rmX3_fullest D c sz (wM c a φ δ) [.ref (a 0), .int (nI (t))] (nI (ful (φ 0) t 31)) (wM c a φ δ) := by
  refine MI.of (cc := cX3_fullest) (maxL := 4) (ty := .int) (by decide) rfl (Nat.le_of_ble_eq_true rfl) rfl ?_
  intro P e s m below meth cd A Q ls hsz S hK hW hA hl hret
  have hl : lv_has ls 4 [(0, .ref (a 0)), (1, .int (nI (t)))] := hl
  refine lv_iconst (v := nI (0)) S.1 S.2.1 dX3_fullest_0 rfl ?_
  refine lv_istore_n (lv' := [(2, .int (nI (0))), (0, .ref (a 0)), (1, .int (nI (t)))]) S.1 S.2.1 dX3_fullest_1 rfl hl (by decide) rfl (fun ls hl => ?_)
  refine lv_iconst (v := nI (1)) S.1 S.2.1 dX3_fullest_2 rfl ?_
  refine lv_istore_n (lv' := [(3, .int (nI (1))), (2, .int (nI (0))), (0, .ref (a 0)), (1, .int (nI (t)))]) S.1 S.2.1 dX3_fullest_3 rfl hl (by decide) rfl (fun ls hl => ?_)
  refine k_loop (fun (zz : Nat) H lo ls => match zz with | k => kw D A s.heap (wM c a φ δ) H lo ∧ lv_has ls 4 [(0, .ref (a 0)), (1, .int (nI (t))), (2, .int (nI (ful (φ 0) t k))), (3, .int (nI (1 + k)))] ∧ k ≤ 31) (fun (zz : Nat) => match zz with | k => 31 - k) [] ?_ 0 _ _ _ ⟨hW, lv_sub hl [2, 3, 1, 0] rfl, (by decide)⟩
  rintro k ih4 H locs ls ⟨hW, hl, hi4_0⟩
  have hf := ful_le (φ 0) t k
  refine lv_iload_n S.1 S.2.1 dX3_fullest_4 rfl (lv_at hl 3 rfl) ?_
  refine lv_bipush (v := nI (32)) S.1 S.2.1 dX3_fullest_5 rfl ?_
  refine kn_ge S (tgt := 43) dX3_fullest_7 (by decide) (by omega) (by omega) (fun c_7 => ?_) (fun c_7 => ?_)
  · have e9 : k = 31 := by omega
    subst e9
    refine lv_iload_n S.1 S.2.1 dX3_fullest_43 rfl (lv_at hl 2 rfl) ?_
    exact hret 44 _ _ _ _ _ dX3_fullest_44 hW (rfl) (rfl)
  · refine lv_aload_n S.1 S.2.1 dX3_fullest_10 rfl (lv_at hl 0 rfl) ?_
    refine lv_iload_n S.1 S.2.1 dX3_fullest_11 rfl (lv_at hl 1 rfl) ?_
    refine lv_iload_n S.1 S.2.1 dX3_fullest_12 rfl (lv_at hl 3 rfl) ?_
    refine k_VI (rest := []) S hK hl.1 hW (KFr.all hW hA) (mX3_pinsAt l D c a φ δ _ t (1 + k) (by first | omega | exact ht | assumption) (by first | omega | exact hp | assumption)) gX3_fullest_X3_pinsAt rfl pdX3_pinsAt ⟨⟨rfl, rfl⟩, Nat.le_of_ble_eq_true rfl, Nat.le_of_ble_eq_true rfl⟩ 0 3 rfl rfl rfl rfl (Nat.le_of_ble_eq_true rfl) dX3_fullest_13 ⟨Nat.le_of_ble_eq_true rfl, Nat.le_of_ble_eq_true rfl⟩ (fun H locs hW => ?_)
    have hW : kw D A s.heap (wM c a φ δ) H locs := hW
    refine k_SI (rest := []) S hK hl.1 hW (KFr.nil hW hA) (mX3_ones l D c  _ (mk (fun j => pb (φ 0) t j (1 + k)) 12)) gX3_fullest_X3_ones rfl pdX3_ones ⟨⟨rfl, rfl⟩, Nat.le_of_ble_eq_true rfl, Nat.le_of_ble_eq_true rfl⟩ rfl (Nat.le_of_ble_eq_true rfl) dX3_fullest_16 ⟨Nat.le_of_ble_eq_true rfl, Nat.le_of_ble_eq_true rfl⟩ (fun H locs hW => ?_)
    have hW : kw D A s.heap (wM c a φ δ) H locs := hW
    refine lv_aload_n S.1 S.2.1 dX3_fullest_19 rfl (lv_at hl 0 rfl) ?_
    refine lv_iload_n S.1 S.2.1 dX3_fullest_20 rfl (lv_at hl 1 rfl) ?_
    refine lv_iload_n S.1 S.2.1 dX3_fullest_21 rfl (lv_at hl 2 rfl) ?_
    refine k_VI (rest := [.int (nI (ones (mk (fun j => pb (φ 0) t j (1 + k)) 12)))]) S hK hl.1 hW (KFr.all hW hA) (mX3_pinsAt l D c a φ δ _ t (ful (φ 0) t k) (by first | omega | exact ht | assumption) (by first | omega | exact hp | assumption)) gX3_fullest_X3_pinsAt rfl pdX3_pinsAt ⟨⟨rfl, rfl⟩, Nat.le_of_ble_eq_true rfl, Nat.le_of_ble_eq_true rfl⟩ 0 3 rfl rfl rfl rfl (Nat.le_of_ble_eq_true rfl) dX3_fullest_22 ⟨Nat.le_of_ble_eq_true rfl, Nat.le_of_ble_eq_true rfl⟩ (fun H locs hW => ?_)
    have hW : kw D A s.heap (wM c a φ δ) H locs := hW
    refine k_SI (rest := [.int (nI (ones (mk (fun j => pb (φ 0) t j (1 + k)) 12)))]) S hK hl.1 hW (KFr.nil hW hA) (mX3_ones l D c  _ (mk (fun j => pb (φ 0) t j (ful (φ 0) t k)) 12)) gX3_fullest_X3_ones rfl pdX3_ones ⟨⟨rfl, rfl⟩, Nat.le_of_ble_eq_true rfl, Nat.le_of_ble_eq_true rfl⟩ rfl (Nat.le_of_ble_eq_true rfl) dX3_fullest_25 ⟨Nat.le_of_ble_eq_true rfl, Nat.le_of_ble_eq_true rfl⟩ (fun H locs hW => ?_)
    have hW : kw D A s.heap (wM c a φ δ) H locs := hW
    refine kn_le S (tgt := 35) dX3_fullest_28 (by decide) (Nat.lt_of_le_of_lt (ones_le _) (by decide)) (Nat.lt_of_le_of_lt (ones_le _) (by decide)) (fun c_28 => ?_) (fun c_28 => ?_)
    · refine lv_iload_n S.1 S.2.1 dX3_fullest_35 rfl (lv_at hl 2 rfl) ?_
      refine k_top (y := nI (ful (φ 0) t (k + 1))) (congrArg nI (by rw [ful, if_neg (Nat.not_lt.mpr c_28)])) ?_
      refine lv_istore_n (lv' := [(2, .int (nI (ful (φ 0) t (k + 1)))), (0, .ref (a 0)), (1, .int (nI (t))), (3, .int (nI (1 + k)))]) S.1 S.2.1 dX3_fullest_36 rfl hl (by decide) rfl (fun ls hl => ?_)
      refine lv_iinc (v := nI (1 + k + 1)) (lv' := [(3, .int (nI (1 + k + 1))), (2, .int (nI (ful (φ 0) t (k + 1)))), (0, .ref (a 0)), (1, .int (nI (t)))]) S.1 S.2.1 dX3_fullest_37 hl (k := 3) rfl (nI_add _ _) (by decide) rfl (fun ls hl => ?_)
      refine lv_goto (tgt := 4) S.1 S.2.1 dX3_fullest_40 (by decide) ?_
      exact ih4 (k + 1) _ _ _ ⟨hW, lv_sub hl [2, 3, 1, 0] rfl, (by omega)⟩ (by show 31 - (k + 1) < 31 - k; omega)
    · refine lv_iload_n S.1 S.2.1 dX3_fullest_31 rfl (lv_at hl 3 rfl) ?_
      refine k_top (y := nI (ful (φ 0) t (k + 1))) (congrArg nI (by rw [ful, if_pos c_28])) ?_
      refine lv_goto (tgt := 36) S.1 S.2.1 dX3_fullest_32 (by decide) ?_
      refine lv_istore_n (lv' := [(2, .int (nI (ful (φ 0) t (k + 1)))), (0, .ref (a 0)), (1, .int (nI (t))), (3, .int (nI (1 + k)))]) S.1 S.2.1 dX3_fullest_36 rfl hl (by decide) rfl (fun ls hl => ?_)
      refine lv_iinc (v := nI (1 + k + 1)) (lv' := [(3, .int (nI (1 + k + 1))), (2, .int (nI (ful (φ 0) t (k + 1)))), (0, .ref (a 0)), (1, .int (nI (t)))]) S.1 S.2.1 dX3_fullest_37 hl (k := 3) rfl (nI_add _ _) (by decide) rfl (fun ls hl => ?_)
      refine lv_goto (tgt := 4) S.1 S.2.1 dX3_fullest_40 (by decide) ?_
      exact ih4 (k + 1) _ _ _ ⟨hW, lv_sub hl [2, 3, 1, 0] rfl, (by omega)⟩ (by show 31 - (k + 1) < 31 - k; omega)
