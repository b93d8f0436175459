abbrev rmX3_note : Room := { frames := 1, cells := 0, slots := 0, locals := 22 }
theorem pdX3_note : kPd yX3_note 2 := by decide +kernel
set_option maxHeartbeats 400000 in
set_option maxRecDepth 100000 in
theorem mX3_note_x1 (l : Launch) (D : va_G) (c : Nat → ClassId) (a : Nat → Nat) (φ : Nat → Nat → Nat) (δ : Int64) (sz : Nat) (b : Int32) (w : Int32) (hin : (inb b (nI (0)) (nI (23)) && inb w (nI (0)) (nI (1))) = false) : MI l yX3_note wsX3_note rmX3_note D c sz (wM c a φ δ) [.ref (a 0), .int (b), .int (w)] (nI (0)) (wM c a (pu φ 5 (kc (1))) δ) := by
  refine MI.of (cc := cX3_note) (maxL := 3) (ty := .int) (by decide) rfl (Nat.le_of_ble_eq_true rfl) rfl ?_
  intro P e s m below meth cd A Q ls hsz S hK hW hA hl hret
  have hl : lv_has ls 3 [(0, .ref (a 0)), (1, .int (b)), (2, .int (w))] := hl
  refine lv_aload_n S.1 S.2.1 dX3_note_0 rfl (lv_at hl 0 rfl) ?_
  refine lv_iload_n S.1 S.2.1 dX3_note_1 rfl (lv_at hl 1 rfl) ?_
  refine lv_iconst (v := nI (0)) S.1 S.2.1 dX3_note_2 rfl ?_
  refine lv_bipush (v := nI (23)) S.1 S.2.1 dX3_note_3 rfl ?_
  refine k_SI (rest := [.ref (a 0)]) S hK hl.1 hW (KFr.nil hW hA) (mX3_in l D c  _ b (nI (0)) (nI (23))) gX3_note_X3_in rfl pdX3_in ⟨⟨rfl, rfl⟩, Nat.le_of_ble_eq_true rfl, Nat.le_of_ble_eq_true rfl⟩ rfl (Nat.le_of_ble_eq_true rfl) dX3_note_5 ⟨Nat.le_of_ble_eq_true rfl, Nat.le_of_ble_eq_true rfl⟩ (fun H locs hW => ?_)
  have hW : kw D A s.heap (wM c a φ δ) H locs := hW
  refine kb_eq S (tgt := 24) dX3_note_8 (by decide) (fun c_8 => ?_) (fun c_8 => ?_)
  · refine lv_iconst (v := nI (1)) S.1 S.2.1 dX3_note_24 rfl ?_
    refine k_VI (rest := []) S hK hl.1 hW (KFr.all hW hA) (mX3_holds l D c a φ δ _ 1 (by first | omega | exact hw | assumption)) gX3_note_X3_holds rfl pdX3_holds ⟨⟨rfl, rfl⟩, Nat.le_of_ble_eq_true rfl, Nat.le_of_ble_eq_true rfl⟩ 0 3 rfl rfl rfl rfl (Nat.le_of_ble_eq_true rfl) dX3_note_25 ⟨Nat.le_of_ble_eq_true rfl, Nat.le_of_ble_eq_true rfl⟩ (fun H locs hW => ?_)
    have hW : kw D A s.heap (wM c a (pu φ 5 (kc (1))) δ) H locs := hW
    refine kb_ne S (tgt := 33) dX3_note_28 (by decide) (fun c_28 => ?_) (fun c_28 => ?_)
    · exact absurd c_28 (by decide)
    · refine lv_iconst (v := nI (0)) S.1 S.2.1 dX3_note_31 rfl ?_
      exact hret 32 _ _ _ _ _ dX3_note_32 hW (rfl) (rfl)
  · refine lv_iload_n S.1 S.2.1 dX3_note_11 rfl (lv_at hl 2 rfl) ?_
    refine lv_iconst (v := nI (0)) S.1 S.2.1 dX3_note_12 rfl ?_
    refine lv_iconst (v := nI (1)) S.1 S.2.1 dX3_note_13 rfl ?_
    refine k_SI (rest := [.ref (a 0)]) S hK hl.1 hW (KFr.nil hW hA) (mX3_in l D c  _ w (nI (0)) (nI (1))) gX3_note_X3_in rfl pdX3_in ⟨⟨rfl, rfl⟩, Nat.le_of_ble_eq_true rfl, Nat.le_of_ble_eq_true rfl⟩ rfl (Nat.le_of_ble_eq_true rfl) dX3_note_14 ⟨Nat.le_of_ble_eq_true rfl, Nat.le_of_ble_eq_true rfl⟩ (fun H locs hW => ?_)
    have hW : kw D A s.heap (wM c a φ δ) H locs := hW
    refine kb_eq S (tgt := 24) dX3_note_17 (by decide) (fun c_17 => ?_) (fun c_17 => ?_)
    · refine lv_iconst (v := nI (1)) S.1 S.2.1 dX3_note_24 rfl ?_
      refine k_VI (rest := []) S hK hl.1 hW (KFr.all hW hA) (mX3_holds l D c a φ δ _ 1 (by first | omega | exact hw | assumption)) gX3_note_X3_holds rfl pdX3_holds ⟨⟨rfl, rfl⟩, Nat.le_of_ble_eq_true rfl, Nat.le_of_ble_eq_true rfl⟩ 0 3 rfl rfl rfl rfl (Nat.le_of_ble_eq_true rfl) dX3_note_25 ⟨Nat.le_of_ble_eq_true rfl, Nat.le_of_ble_eq_true rfl⟩ (fun H locs hW => ?_)
      have hW : kw D A s.heap (wM c a (pu φ 5 (kc (1))) δ) H locs := hW
      refine kb_ne S (tgt := 33) dX3_note_28 (by decide) (fun c_28 => ?_) (fun c_28 => ?_)
      · exact absurd c_28 (by decide)
      · refine lv_iconst (v := nI (0)) S.1 S.2.1 dX3_note_31 rfl ?_
        exact hret 32 _ _ _ _ _ dX3_note_32 hW (rfl) (rfl)
    · exact absurd hin (by rw [c_8, c_17]; decide)
set_option maxHeartbeats 400000 in
set_option maxRecDepth 100000 in
theorem mX3_note_k (l : Launch) (D : va_G) (c : Nat → ClassId) (a : Nat → Nat) (φ : Nat → Nat → Nat) (δ : Int64) (sz : Nat) (b : Nat) (w : Nat) (hb : b ≤ 23) (hw : w ≤ 1) (ok : okM (φ 0)) : MI l yX3_note wsX3_note rmX3_note D c sz (wM c a φ δ) [.ref (a 0), .int (nI (b)), .int (nI (w))] (nI (nte (φ 0) b w)) (wM c a (pu φ 5 (kc (0))) δ) := by
  refine MI.of (cc := cX3_note) (maxL := 3) (ty := .int) (by decide) rfl (Nat.le_of_ble_eq_true rfl) rfl ?_
  intro P e s m below meth cd A Q ls hsz S hK hW hA hl hret
  have hl : lv_has ls 3 [(0, .ref (a 0)), (1, .int (nI (b))), (2, .int (nI (w)))] := hl
  have hinX3 : ∀ w ∈ u_ws RX3 TX3 13, w ∈ wsX3_note := by decide +kernel
  have h1 : inb (nI (b)) (nI (0)) (nI (23)) = true := inb_t (Nat.zero_le _) hb (by decide)
  have h2 : inb (nI (w)) (nI (0)) (nI (1)) = true := inb_t (Nat.zero_le _) hw (by decide)
  have h132 := ok.k132
  refine lv_aload_n S.1 S.2.1 dX3_note_0 rfl (lv_at hl 0 rfl) ?_
  refine lv_iload_n S.1 S.2.1 dX3_note_1 rfl (lv_at hl 1 rfl) ?_
  refine lv_iconst (v := nI (0)) S.1 S.2.1 dX3_note_2 rfl ?_
  refine lv_bipush (v := nI (23)) S.1 S.2.1 dX3_note_3 rfl ?_
  refine k_SI (rest := [.ref (a 0)]) S hK hl.1 hW (KFr.nil hW hA) (mX3_in l D c  _ (nI (b)) (nI (0)) (nI (23))) gX3_note_X3_in rfl pdX3_in ⟨⟨rfl, rfl⟩, Nat.le_of_ble_eq_true rfl, Nat.le_of_ble_eq_true rfl⟩ rfl (Nat.le_of_ble_eq_true rfl) dX3_note_5 ⟨Nat.le_of_ble_eq_true rfl, Nat.le_of_ble_eq_true rfl⟩ (fun H locs hW => ?_)
  have hW : kw D A s.heap (wM c a φ δ) H locs := hW
  refine kb_eq S (tgt := 24) dX3_note_8 (by decide) (fun c_8 => ?_) (fun c_8 => ?_)
  · exact absurd (h1.symm.trans c_8) (by decide)
  · refine lv_iload_n S.1 S.2.1 dX3_note_11 rfl (lv_at hl 2 rfl) ?_
    refine lv_iconst (v := nI (0)) S.1 S.2.1 dX3_note_12 rfl ?_
    refine lv_iconst (v := nI (1)) S.1 S.2.1 dX3_note_13 rfl ?_
    refine k_SI (rest := [.ref (a 0)]) S hK hl.1 hW (KFr.nil hW hA) (mX3_in l D c  _ (nI (w)) (nI (0)) (nI (1))) gX3_note_X3_in rfl pdX3_in ⟨⟨rfl, rfl⟩, Nat.le_of_ble_eq_true rfl, Nat.le_of_ble_eq_true rfl⟩ rfl (Nat.le_of_ble_eq_true rfl) dX3_note_14 ⟨Nat.le_of_ble_eq_true rfl, Nat.le_of_ble_eq_true rfl⟩ (fun H locs hW => ?_)
    have hW : kw D A s.heap (wM c a φ δ) H locs := hW
    refine kb_eq S (tgt := 24) dX3_note_17 (by decide) (fun c_17 => ?_) (fun c_17 => ?_)
    · exact absurd (h2.symm.trans c_17) (by decide)
    · refine lv_iconst (v := nI (0)) S.1 S.2.1 dX3_note_20 rfl ?_
      refine lv_goto (tgt := 25) S.1 S.2.1 dX3_note_21 (by decide) ?_
      refine k_VI (rest := []) S hK hl.1 hW (KFr.all hW hA) (mX3_holds l D c a φ δ _ 0 (by first | omega | exact hw | assumption)) gX3_note_X3_holds rfl pdX3_holds ⟨⟨rfl, rfl⟩, Nat.le_of_ble_eq_true rfl, Nat.le_of_ble_eq_true rfl⟩ 0 3 rfl rfl rfl rfl (Nat.le_of_ble_eq_true rfl) dX3_note_25 ⟨Nat.le_of_ble_eq_true rfl, Nat.le_of_ble_eq_true rfl⟩ (fun H locs hW => ?_)
      have hW : kw D A s.heap (wM c a (pu φ 5 (kc (0))) δ) H locs := hW
      refine kb_ne S (tgt := 33) dX3_note_28 (by decide) (fun c_28 => ?_) (fun c_28 => ?_)
      · refine lv_iload_n S.1 S.2.1 dX3_note_33 rfl (lv_at hl 1 rfl) ?_
        refine lv_aload_n S.1 S.2.1 dX3_note_34 rfl (lv_at hl 0 rfl) ?_
        refine kx_get S hK hW hinX3 0 3 rfl rfl 1 (by decide) (List.mem_of_getElem? (i := 1) rfl) (v := .ref (a 1)) rfl dX3_note_35 ?_
        refine lv_sipush (v := nI (132)) S.1 S.2.1 dX3_note_38 rfl ?_
        refine kn_ald S hK hW 1 (f := φ 0) rfl (by omega) (by decide) dX3_note_41 ?_
        refine kn_ge S (tgt := 61) dX3_note_42 (by decide) (by omega) (by omega) (fun c_42 => ?_) (fun c_42 => ?_)
        · refine lv_iconst (v := nI (4294967295)) S.1 S.2.1 dX3_note_61 rfl ?_
          exact hret 62 _ _ _ _ _ dX3_note_62 hW (congrArg nI (by unfold nte; first | rw [if_pos c_42] | rw [if_neg (by omega)])) (rfl)
        · refine lv_aload_n S.1 S.2.1 dX3_note_45 rfl (lv_at hl 0 rfl) ?_
          refine kx_get S hK hW hinX3 0 3 rfl rfl 1 (by decide) (List.mem_of_getElem? (i := 1) rfl) (v := .ref (a 1)) rfl dX3_note_46 ?_
          refine lv_bipush (v := nI (84)) S.1 S.2.1 dX3_note_49 rfl ?_
          refine lv_iconst (v := nI (2)) S.1 S.2.1 dX3_note_51 rfl ?_
          refine lv_iload_n S.1 S.2.1 dX3_note_52 rfl (lv_at hl 1 rfl) ?_
          refine kn_imul S dX3_note_53 ?_
          refine kn_iadd S dX3_note_54 ?_
          refine lv_iload_n S.1 S.2.1 dX3_note_55 rfl (lv_at hl 2 rfl) ?_
          refine kn_iadd S dX3_note_56 ?_
          refine kn_ald S hK hW 1 (f := φ 0) rfl (by omega) (by decide) dX3_note_57 ?_
          refine lv_goto (tgt := 62) S.1 S.2.1 dX3_note_58 (by decide) ?_
          exact hret 62 _ _ _ _ _ dX3_note_62 hW (congrArg nI (by unfold nte; first | rw [if_pos c_42] | rw [if_neg (by omega)])) (rfl)
      · exact absurd c_28 (by decide)
abbrev rmX3_teethThat : Room := { frames := 1, cells := 0, slots := 0, locals := 21 }
theorem pdX3_teethThat : kPd yX3_teethThat 1 := by decide +kernel
set_option maxHeartbeats 400000 in
set_option maxRecDepth 100000 in
theorem mX3_teethThat (l : Launch) (D : va_G) (c : Nat → ClassId) (a : Nat → Nat) (φ : Nat → Nat → Nat) (δ : Int64) (sz : Nat) (w : Nat) (hw : w < 3) (ok : okM (φ 0)) : MI l yX3_teethThat wsX3_teethThat rmX3_teethThat D c sz (wM c a φ δ) [.ref (a 0), .int (nI (w))] (nI (tth (φ 0) w)) (wM c a φ δ) := by
  refine MI.of (cc := cX3_teethThat) (maxL := 4) (ty := .int) (by decide) rfl (Nat.le_of_ble_eq_true rfl) rfl ?_
  intro P e s m below meth cd A Q ls hsz S hK hW hA hl hret
  have hl : lv_has ls 4 [(0, .ref (a 0)), (1, .int (nI (w)))] := hl
  have hinX3 : ∀ w ∈ u_ws RX3 TX3 13, w ∈ wsX3_teethThat := by decide +kernel
  refine lv_iconst (v := nI (0)) S.1 S.2.1 dX3_teethThat_0 rfl ?_
  refine lv_istore_n (lv' := [(2, .int (nI (0))), (0, .ref (a 0)), (1, .int (nI (w)))]) S.1 S.2.1 dX3_teethThat_1 rfl hl (by decide) rfl (fun ls hl => ?_)
  refine lv_iconst (v := nI (0)) S.1 S.2.1 dX3_teethThat_2 rfl ?_
  refine lv_istore_n (lv' := [(3, .int (nI (0))), (2, .int (nI (0))), (0, .ref (a 0)), (1, .int (nI (w)))]) S.1 S.2.1 dX3_teethThat_3 rfl hl (by decide) rfl (fun ls hl => ?_)
  refine k_loop (fun (zz : Nat) H lo ls => match zz with | k => kw D A s.heap (wM c a φ δ) H lo ∧ lv_has ls 4 [(0, .ref (a 0)), (1, .int (nI (w))), (2, .int (nI (ct (fun j => decide (0 < φ 0 (36 + 4 * j + w))) k))), (3, .int (nI (k)))] ∧ k ≤ 12) (fun (zz : Nat) => match zz with | k => 12 - k) [] ?_ 0 _ _ _ ⟨hW, lv_sub hl [2, 3, 1, 0] rfl, (by decide)⟩
  rintro k ih4 H locs ls ⟨hW, hl, hi4_0⟩
  refine lv_iload_n S.1 S.2.1 dX3_teethThat_4 rfl (lv_at hl 3 rfl) ?_
  refine lv_bipush (v := nI (12)) S.1 S.2.1 dX3_teethThat_5 rfl ?_
  refine kn_ge S (tgt := 37) dX3_teethThat_7 (by decide) (by omega) (by omega) (fun c_7 => ?_) (fun c_7 => ?_)
  · have e9 : k = 12 := by omega
    subst e9
    refine lv_iload_n S.1 S.2.1 dX3_teethThat_37 rfl (lv_at hl 2 rfl) ?_
    exact hret 38 _ _ _ _ _ dX3_teethThat_38 hW (rfl) (rfl)
  · have hb := ok.r3 c_7 hw
    refine lv_iload_n S.1 S.2.1 dX3_teethThat_10 rfl (lv_at hl 2 rfl) ?_
    refine lv_aload_n S.1 S.2.1 dX3_teethThat_11 rfl (lv_at hl 0 rfl) ?_
    refine kx_get S hK hW hinX3 0 3 rfl rfl 1 (by decide) (List.mem_of_getElem? (i := 1) rfl) (v := .ref (a 1)) rfl dX3_teethThat_12 ?_
    refine lv_iload_n S.1 S.2.1 dX3_teethThat_15 rfl (lv_at hl 3 rfl) ?_
    refine lv_iload_n S.1 S.2.1 dX3_teethThat_16 rfl (lv_at hl 1 rfl) ?_
    refine k_SI (rest := [.ref (a 1), .int (nI (ct (fun j => decide (0 < φ 0 (36 + 4 * j + w))) k))]) S hK hl.1 hW (KFr.nil hW hA) (mX3_of l D c  _ k w) gX3_teethThat_X3_of rfl pdX3_of ⟨⟨rfl, rfl⟩, Nat.le_of_ble_eq_true rfl, Nat.le_of_ble_eq_true rfl⟩ rfl (Nat.le_of_ble_eq_true rfl) dX3_teethThat_17 ⟨Nat.le_of_ble_eq_true rfl, Nat.le_of_ble_eq_true rfl⟩ (fun H locs hW => ?_)
    have hW : kw D A s.heap (wM c a φ δ) H locs := hW
    refine kn_ald S hK hW 1 (f := φ 0) rfl (by omega) (by decide) dX3_teethThat_20 ?_
    refine kz_le S (tgt := 28) dX3_teethThat_21 (by decide) (by omega) (fun c_21 => ?_) (fun c_21 => ?_)
    · refine lv_iconst (v := nI (0)) S.1 S.2.1 dX3_teethThat_28 rfl ?_
      refine kn_iadd S dX3_teethThat_29 ?_
      refine k_top (y := nI (ct (fun j => decide (0 < φ 0 (36 + 4 * j + w))) (k + 1))) (congrArg nI (by first | exact ct_t (f := (fun j => decide (0 < φ 0 (36 + 4 * j + w)))) (decide_eq_true c_21) | exact ct_f (f := (fun j => decide (0 < φ 0 (36 + 4 * j + w)))) (decide_eq_false (by omega)))) ?_
      refine lv_istore_n (lv' := [(2, .int (nI (ct (fun j => decide (0 < φ 0 (36 + 4 * j + w))) (k + 1)))), (0, .ref (a 0)), (1, .int (nI (w))), (3, .int (nI (k)))]) S.1 S.2.1 dX3_teethThat_30 rfl hl (by decide) rfl (fun ls hl => ?_)
      refine lv_iinc (v := nI (k + 1)) (lv' := [(3, .int (nI (k + 1))), (2, .int (nI (ct (fun j => decide (0 < φ 0 (36 + 4 * j + w))) (k + 1)))), (0, .ref (a 0)), (1, .int (nI (w)))]) S.1 S.2.1 dX3_teethThat_31 hl (k := 3) rfl (nI_add _ _) (by decide) rfl (fun ls hl => ?_)
      refine lv_goto (tgt := 4) S.1 S.2.1 dX3_teethThat_34 (by decide) ?_
      exact ih4 (k + 1) _ _ _ ⟨hW, lv_sub hl [2, 3, 1, 0] rfl, (by omega)⟩ (by show 12 - (k + 1) < 12 - k; omega)
    · refine lv_iconst (v := nI (1)) S.1 S.2.1 dX3_teethThat_24 rfl ?_
      refine lv_goto (tgt := 29) S.1 S.2.1 dX3_teethThat_25 (by decide) ?_
      refine kn_iadd S dX3_teethThat_29 ?_
      refine k_top (y := nI (ct (fun j => decide (0 < φ 0 (36 + 4 * j + w))) (k + 1))) (congrArg nI (by first | exact ct_t (f := (fun j => decide (0 < φ 0 (36 + 4 * j + w)))) (decide_eq_true c_21) | exact ct_f (f := (fun j => decide (0 < φ 0 (36 + 4 * j + w)))) (decide_eq_false (by omega)))) ?_
      refine lv_istore_n (lv' := [(2, .int (nI (ct (fun j => decide (0 < φ 0 (36 + 4 * j + w))) (k + 1)))), (0, .ref (a 0)), (1, .int (nI (w))), (3, .int (nI (k)))]) S.1 S.2.1 dX3_teethThat_30 rfl hl (by decide) rfl (fun ls hl => ?_)
      refine lv_iinc (v := nI (k + 1)) (lv' := [(3, .int (nI (k + 1))), (2, .int (nI (ct (fun j => decide (0 < φ 0 (36 + 4 * j + w))) (k + 1)))), (0, .ref (a 0)), (1, .int (nI (w)))]) S.1 S.2.1 dX3_teethThat_31 hl (k := 3) rfl (nI_add _ _) (by decide) rfl (fun ls hl => ?_)
      refine lv_goto (tgt := 4) S.1 S.2.1 dX3_teethThat_34 (by decide) ?_
      exact ih4 (k + 1) _ _ _ ⟨hW, lv_sub hl [2, 3, 1, 0] rfl, (by omega)⟩ (by show 12 - (k + 1) < 12 - k; omega)
abbrev rmX3_counted : Room := { frames := 3, cells := 0, slots := 0, locals := 65 }
theorem pdX3_counted : kPd yX3_counted 1 := by decide +kernel
set_option maxHeartbeats 400000 in
set_option maxRecDepth 100000 in
theorem mX3_counted (l : Launch) (D : va_G) (c : Nat → ClassId) (a : Nat → Nat) (φ : Nat → Nat → Nat) (δ : Int64) (sz : Nat) (w : Nat) (hw : w < 18) (ok : okM (φ 0)) : MI l yX3_counted wsX3_counted rmX3_counted D c sz (wM c a φ δ) [.ref (a 0), .int (nI (w))] (nI (cnt (φ 0) (φ 6 0) w)) (wM c a φ δ) := by
  refine MI.of (cc := cX3_counted) (maxL := 2) (ty := .int) (by decide) rfl (Nat.le_of_ble_eq_true rfl) rfl ?_
  intro P e s m below meth cd A Q ls hsz S hK hW hA hl hret
  have hl : lv_has ls 2 [(0, .ref (a 0)), (1, .int (nI (w)))] := hl
  have hinX3 : ∀ w ∈ u_ws RX3 TX3 13, w ∈ wsX3_counted := by decide +kernel
  refine lv_iload_n S.1 S.2.1 dX3_counted_0 rfl (lv_at hl 1 rfl) ?_
  rcases (show w = 0 ∨ w = 1 ∨ w = 2 ∨ w = 3 ∨ w = 4 ∨ w = 5 ∨ w = 6 ∨ w = 7 ∨ w = 8 ∨ w = 9 ∨ w = 10 ∨ w = 11 ∨ w = 12 ∨ w = 13 ∨ w = 14 ∨ w = 15 ∨ w = 16 ∨ w = 17 from by omega) with rfl | rfl | rfl | rfl | rfl | rfl | rfl | rfl | rfl | rfl | rfl | rfl | rfl | rfl | rfl | rfl | rfl | rfl
  · skip
    refine lv_tableOut (tgt := 101) S.1 S.2.1 dX3_counted_1 (by decide) (by decide) ?_
    refine lv_aload_n S.1 S.2.1 dX3_counted_101 rfl (lv_at hl 0 rfl) ?_
    refine kx_get S hK hW hinX3 0 3 rfl rfl 1 (by decide) (List.mem_of_getElem? (i := 1) rfl) (v := .ref (a 1)) rfl dX3_counted_102 ?_
    refine lv_sipush (v := nI (133)) S.1 S.2.1 dX3_counted_105 rfl ?_
    refine lv_iload_n S.1 S.2.1 dX3_counted_108 rfl (lv_at hl 1 rfl) ?_
    refine kn_iadd S dX3_counted_109 ?_
    refine kn_ald S hK hW 1 (f := φ 0) rfl (by omega) (by decide) dX3_counted_110 ?_
    exact hret 111 _ _ _ _ _ dX3_counted_111 hW (rfl) (rfl)
  · skip
    refine lv_tableOut (tgt := 101) S.1 S.2.1 dX3_counted_1 (by decide) (by decide) ?_
    refine lv_aload_n S.1 S.2.1 dX3_counted_101 rfl (lv_at hl 0 rfl) ?_
    refine kx_get S hK hW hinX3 0 3 rfl rfl 1 (by decide) (List.mem_of_getElem? (i := 1) rfl) (v := .ref (a 1)) rfl dX3_counted_102 ?_
    refine lv_sipush (v := nI (133)) S.1 S.2.1 dX3_counted_105 rfl ?_
    refine lv_iload_n S.1 S.2.1 dX3_counted_108 rfl (lv_at hl 1 rfl) ?_
    refine kn_iadd S dX3_counted_109 ?_
    refine kn_ald S hK hW 1 (f := φ 0) rfl (by omega) (by decide) dX3_counted_110 ?_
    exact hret 111 _ _ _ _ _ dX3_counted_111 hW (rfl) (rfl)
  · skip
    refine lv_tableOut (tgt := 101) S.1 S.2.1 dX3_counted_1 (by decide) (by decide) ?_
    refine lv_aload_n S.1 S.2.1 dX3_counted_101 rfl (lv_at hl 0 rfl) ?_
    refine kx_get S hK hW hinX3 0 3 rfl rfl 1 (by decide) (List.mem_of_getElem? (i := 1) rfl) (v := .ref (a 1)) rfl dX3_counted_102 ?_
    refine lv_sipush (v := nI (133)) S.1 S.2.1 dX3_counted_105 rfl ?_
    refine lv_iload_n S.1 S.2.1 dX3_counted_108 rfl (lv_at hl 1 rfl) ?_
    refine kn_iadd S dX3_counted_109 ?_
    refine kn_ald S hK hW 1 (f := φ 0) rfl (by omega) (by decide) dX3_counted_110 ?_
    exact hret 111 _ _ _ _ _ dX3_counted_111 hW (rfl) (rfl)
  · skip
    refine lv_tableOut (tgt := 101) S.1 S.2.1 dX3_counted_1 (by decide) (by decide) ?_
    refine lv_aload_n S.1 S.2.1 dX3_counted_101 rfl (lv_at hl 0 rfl) ?_
    refine kx_get S hK hW hinX3 0 3 rfl rfl 1 (by decide) (List.mem_of_getElem? (i := 1) rfl) (v := .ref (a 1)) rfl dX3_counted_102 ?_
    refine lv_sipush (v := nI (133)) S.1 S.2.1 dX3_counted_105 rfl ?_
    refine lv_iload_n S.1 S.2.1 dX3_counted_108 rfl (lv_at hl 1 rfl) ?_
    refine kn_iadd S dX3_counted_109 ?_
    refine kn_ald S hK hW 1 (f := φ 0) rfl (by omega) (by decide) dX3_counted_110 ?_
    exact hret 111 _ _ _ _ _ dX3_counted_111 hW (rfl) (rfl)
  · skip
    refine lv_tableOut (tgt := 101) S.1 S.2.1 dX3_counted_1 (by decide) (by decide) ?_
    refine lv_aload_n S.1 S.2.1 dX3_counted_101 rfl (lv_at hl 0 rfl) ?_
    refine kx_get S hK hW hinX3 0 3 rfl rfl 1 (by decide) (List.mem_of_getElem? (i := 1) rfl) (v := .ref (a 1)) rfl dX3_counted_102 ?_
    refine lv_sipush (v := nI (133)) S.1 S.2.1 dX3_counted_105 rfl ?_
    refine lv_iload_n S.1 S.2.1 dX3_counted_108 rfl (lv_at hl 1 rfl) ?_
    refine kn_iadd S dX3_counted_109 ?_
    refine kn_ald S hK hW 1 (f := φ 0) rfl (by omega) (by decide) dX3_counted_110 ?_
    exact hret 111 _ _ _ _ _ dX3_counted_111 hW (rfl) (rfl)
  · skip
    refine lv_tableOut (tgt := 101) S.1 S.2.1 dX3_counted_1 (by decide) (by decide) ?_
    refine lv_aload_n S.1 S.2.1 dX3_counted_101 rfl (lv_at hl 0 rfl) ?_
    refine kx_get S hK hW hinX3 0 3 rfl rfl 1 (by decide) (List.mem_of_getElem? (i := 1) rfl) (v := .ref (a 1)) rfl dX3_counted_102 ?_
    refine lv_sipush (v := nI (133)) S.1 S.2.1 dX3_counted_105 rfl ?_
    refine lv_iload_n S.1 S.2.1 dX3_counted_108 rfl (lv_at hl 1 rfl) ?_
    refine kn_iadd S dX3_counted_109 ?_
    refine kn_ald S hK hW 1 (f := φ 0) rfl (by omega) (by decide) dX3_counted_110 ?_
    exact hret 111 _ _ _ _ _ dX3_counted_111 hW (rfl) (rfl)
  · skip
    refine lv_tableOut (tgt := 101) S.1 S.2.1 dX3_counted_1 (by decide) (by decide) ?_
    refine lv_aload_n S.1 S.2.1 dX3_counted_101 rfl (lv_at hl 0 rfl) ?_
    refine kx_get S hK hW hinX3 0 3 rfl rfl 1 (by decide) (List.mem_of_getElem? (i := 1) rfl) (v := .ref (a 1)) rfl dX3_counted_102 ?_
    refine lv_sipush (v := nI (133)) S.1 S.2.1 dX3_counted_105 rfl ?_
    refine lv_iload_n S.1 S.2.1 dX3_counted_108 rfl (lv_at hl 1 rfl) ?_
    refine kn_iadd S dX3_counted_109 ?_
    refine kn_ald S hK hW 1 (f := φ 0) rfl (by omega) (by decide) dX3_counted_110 ?_
    exact hret 111 _ _ _ _ _ dX3_counted_111 hW (rfl) (rfl)
  · skip
    refine lv_tableOut (tgt := 101) S.1 S.2.1 dX3_counted_1 (by decide) (by decide) ?_
    refine lv_aload_n S.1 S.2.1 dX3_counted_101 rfl (lv_at hl 0 rfl) ?_
    refine kx_get S hK hW hinX3 0 3 rfl rfl 1 (by decide) (List.mem_of_getElem? (i := 1) rfl) (v := .ref (a 1)) rfl dX3_counted_102 ?_
    refine lv_sipush (v := nI (133)) S.1 S.2.1 dX3_counted_105 rfl ?_
    refine lv_iload_n S.1 S.2.1 dX3_counted_108 rfl (lv_at hl 1 rfl) ?_
    refine kn_iadd S dX3_counted_109 ?_
    refine kn_ald S hK hW 1 (f := φ 0) rfl (by omega) (by decide) dX3_counted_110 ?_
    exact hret 111 _ _ _ _ _ dX3_counted_111 hW (rfl) (rfl)
  · skip
    refine lv_tableIn (tgt := 56) S.1 S.2.1 dX3_counted_1 (by decide) (by decide) rfl (by decide) ?_
    refine lv_aload_n S.1 S.2.1 dX3_counted_56 rfl (lv_at hl 0 rfl) ?_
    refine lv_iconst (v := nI (0)) S.1 S.2.1 dX3_counted_57 rfl ?_
    refine k_VI (rest := []) S hK hl.1 hW (KFr.all hW hA) (mX3_teethThat l D c a φ δ _ 0 (by first | omega | exact hw | assumption) (by first | omega | exact ok | assumption)) gX3_counted_X3_teethThat rfl pdX3_teethThat ⟨⟨rfl, rfl⟩, Nat.le_of_ble_eq_true rfl, Nat.le_of_ble_eq_true rfl⟩ 0 3 rfl rfl rfl rfl (Nat.le_of_ble_eq_true rfl) dX3_counted_58 ⟨Nat.le_of_ble_eq_true rfl, Nat.le_of_ble_eq_true rfl⟩ (fun H locs hW => ?_)
    have hW : kw D A s.heap (wM c a φ δ) H locs := hW
    exact hret 61 _ _ _ _ _ dX3_counted_61 hW (rfl) (rfl)
  · skip
    refine lv_tableIn (tgt := 62) S.1 S.2.1 dX3_counted_1 (by decide) (by decide) rfl (by decide) ?_
    refine lv_aload_n S.1 S.2.1 dX3_counted_62 rfl (lv_at hl 0 rfl) ?_
    refine lv_iconst (v := nI (2)) S.1 S.2.1 dX3_counted_63 rfl ?_
    refine k_VI (rest := []) S hK hl.1 hW (KFr.all hW hA) (mX3_teethThat l D c a φ δ _ 2 (by first | omega | exact hw | assumption) (by first | omega | exact ok | assumption)) gX3_counted_X3_teethThat rfl pdX3_teethThat ⟨⟨rfl, rfl⟩, Nat.le_of_ble_eq_true rfl, Nat.le_of_ble_eq_true rfl⟩ 0 3 rfl rfl rfl rfl (Nat.le_of_ble_eq_true rfl) dX3_counted_64 ⟨Nat.le_of_ble_eq_true rfl, Nat.le_of_ble_eq_true rfl⟩ (fun H locs hW => ?_)
    have hW : kw D A s.heap (wM c a φ δ) H locs := hW
    exact hret 67 _ _ _ _ _ dX3_counted_67 hW (rfl) (rfl)
  · skip
    refine lv_tableIn (tgt := 68) S.1 S.2.1 dX3_counted_1 (by decide) (by decide) rfl (by decide) ?_
    refine lv_aload_n S.1 S.2.1 dX3_counted_68 rfl (lv_at hl 0 rfl) ?_
    refine k_VI (rest := []) S hK hl.1 hW (KFr.all hW hA) (mX3_allPins l D c a φ δ _ ) gX3_counted_X3_allPins rfl pdX3_allPins ⟨⟨rfl, rfl⟩, Nat.le_of_ble_eq_true rfl, Nat.le_of_ble_eq_true rfl⟩ 0 3 rfl rfl rfl rfl (Nat.le_of_ble_eq_true rfl) dX3_counted_69 ⟨Nat.le_of_ble_eq_true rfl, Nat.le_of_ble_eq_true rfl⟩ (fun H locs hW => ?_)
    have hW : kw D A s.heap (wM c a φ δ) H locs := hW
    exact hret 72 _ _ _ _ _ dX3_counted_72 hW (rfl) (rfl)
  · skip
    refine lv_tableIn (tgt := 73) S.1 S.2.1 dX3_counted_1 (by decide) (by decide) rfl (by decide) ?_
    refine lv_aload_n S.1 S.2.1 dX3_counted_73 rfl (lv_at hl 0 rfl) ?_
    refine kx_get S hK hW hinX3 0 3 rfl rfl 1 (by decide) (List.mem_of_getElem? (i := 1) rfl) (v := .ref (a 1)) rfl dX3_counted_74 ?_
    refine lv_sipush (v := nI (141)) S.1 S.2.1 dX3_counted_77 rfl ?_
    refine kn_ald S hK hW 1 (f := φ 0) rfl (by omega) (by decide) dX3_counted_80 ?_
    exact hret 81 _ _ _ _ _ dX3_counted_81 hW (rfl) (rfl)
  · skip
    refine lv_tableIn (tgt := 82) S.1 S.2.1 dX3_counted_1 (by decide) (by decide) rfl (by decide) ?_
    refine lv_aload_n S.1 S.2.1 dX3_counted_82 rfl (lv_at hl 0 rfl) ?_
    refine kx_get S hK hW hinX3 0 3 rfl rfl 1 (by decide) (List.mem_of_getElem? (i := 1) rfl) (v := .ref (a 1)) rfl dX3_counted_83 ?_
    refine lv_sipush (v := nI (142)) S.1 S.2.1 dX3_counted_86 rfl ?_
    refine lv_iload_n S.1 S.2.1 dX3_counted_89 rfl (lv_at hl 1 rfl) ?_
    refine kn_iadd S dX3_counted_90 ?_
    refine lv_bipush (v := nI (12)) S.1 S.2.1 dX3_counted_91 rfl ?_
    refine kn_isub S dX3_counted_93 (by omega) ?_
    refine kn_ald S hK hW 1 (f := φ 0) rfl (by omega) (by decide) dX3_counted_94 ?_
    exact hret 95 _ _ _ _ _ dX3_counted_95 hW (rfl) (rfl)
  · skip
    refine lv_tableIn (tgt := 82) S.1 S.2.1 dX3_counted_1 (by decide) (by decide) rfl (by decide) ?_
    refine lv_aload_n S.1 S.2.1 dX3_counted_82 rfl (lv_at hl 0 rfl) ?_
    refine kx_get S hK hW hinX3 0 3 rfl rfl 1 (by decide) (List.mem_of_getElem? (i := 1) rfl) (v := .ref (a 1)) rfl dX3_counted_83 ?_
    refine lv_sipush (v := nI (142)) S.1 S.2.1 dX3_counted_86 rfl ?_
    refine lv_iload_n S.1 S.2.1 dX3_counted_89 rfl (lv_at hl 1 rfl) ?_
    refine kn_iadd S dX3_counted_90 ?_
    refine lv_bipush (v := nI (12)) S.1 S.2.1 dX3_counted_91 rfl ?_
    refine kn_isub S dX3_counted_93 (by omega) ?_
    refine kn_ald S hK hW 1 (f := φ 0) rfl (by omega) (by decide) dX3_counted_94 ?_
    exact hret 95 _ _ _ _ _ dX3_counted_95 hW (rfl) (rfl)
  · skip
    refine lv_tableIn (tgt := 82) S.1 S.2.1 dX3_counted_1 (by decide) (by decide) rfl (by decide) ?_
    refine lv_aload_n S.1 S.2.1 dX3_counted_82 rfl (lv_at hl 0 rfl) ?_
    refine kx_get S hK hW hinX3 0 3 rfl rfl 1 (by decide) (List.mem_of_getElem? (i := 1) rfl) (v := .ref (a 1)) rfl dX3_counted_83 ?_
    refine lv_sipush (v := nI (142)) S.1 S.2.1 dX3_counted_86 rfl ?_
    refine lv_iload_n S.1 S.2.1 dX3_counted_89 rfl (lv_at hl 1 rfl) ?_
    refine kn_iadd S dX3_counted_90 ?_
    refine lv_bipush (v := nI (12)) S.1 S.2.1 dX3_counted_91 rfl ?_
    refine kn_isub S dX3_counted_93 (by omega) ?_
    refine kn_ald S hK hW 1 (f := φ 0) rfl (by omega) (by decide) dX3_counted_94 ?_
    exact hret 95 _ _ _ _ _ dX3_counted_95 hW (rfl) (rfl)
  · skip
    refine lv_tableIn (tgt := 82) S.1 S.2.1 dX3_counted_1 (by decide) (by decide) rfl (by decide) ?_
    refine lv_aload_n S.1 S.2.1 dX3_counted_82 rfl (lv_at hl 0 rfl) ?_
    refine kx_get S hK hW hinX3 0 3 rfl rfl 1 (by decide) (List.mem_of_getElem? (i := 1) rfl) (v := .ref (a 1)) rfl dX3_counted_83 ?_
    refine lv_sipush (v := nI (142)) S.1 S.2.1 dX3_counted_86 rfl ?_
    refine lv_iload_n S.1 S.2.1 dX3_counted_89 rfl (lv_at hl 1 rfl) ?_
    refine kn_iadd S dX3_counted_90 ?_
    refine lv_bipush (v := nI (12)) S.1 S.2.1 dX3_counted_91 rfl ?_
    refine kn_isub S dX3_counted_93 (by omega) ?_
    refine kn_ald S hK hW 1 (f := φ 0) rfl (by omega) (by decide) dX3_counted_94 ?_
    exact hret 95 _ _ _ _ _ dX3_counted_95 hW (rfl) (rfl)
  · skip
    refine lv_tableIn (tgt := 82) S.1 S.2.1 dX3_counted_1 (by decide) (by decide) rfl (by decide) ?_
    refine lv_aload_n S.1 S.2.1 dX3_counted_82 rfl (lv_at hl 0 rfl) ?_
    refine kx_get S hK hW hinX3 0 3 rfl rfl 1 (by decide) (List.mem_of_getElem? (i := 1) rfl) (v := .ref (a 1)) rfl dX3_counted_83 ?_
    refine lv_sipush (v := nI (142)) S.1 S.2.1 dX3_counted_86 rfl ?_
    refine lv_iload_n S.1 S.2.1 dX3_counted_89 rfl (lv_at hl 1 rfl) ?_
    refine kn_iadd S dX3_counted_90 ?_
    refine lv_bipush (v := nI (12)) S.1 S.2.1 dX3_counted_91 rfl ?_
    refine kn_isub S dX3_counted_93 (by omega) ?_
    refine kn_ald S hK hW 1 (f := φ 0) rfl (by omega) (by decide) dX3_counted_94 ?_
    exact hret 95 _ _ _ _ _ dX3_counted_95 hW (rfl) (rfl)
  · skip
    refine lv_tableIn (tgt := 96) S.1 S.2.1 dX3_counted_1 (by decide) (by decide) rfl (by decide) ?_
    refine lv_aload_n S.1 S.2.1 dX3_counted_96 rfl (lv_at hl 0 rfl) ?_
    refine kx_get S hK hW hinX3 0 3 rfl rfl 4 (by decide) (List.mem_of_getElem? (i := 2) rfl) (v := .int (nI (φ 6 0))) rfl dX3_counted_97 ?_
    exact hret 100 _ _ _ _ _ dX3_counted_100 hW (rfl) (rfl)
abbrev rmX3_count : Room := { frames := 4, cells := 0, slots := 0, locals := 86 }
theorem pdX3_count : kPd yX3_count 1 := by decide +kernel
set_option maxHeartbeats 400000 in
set_option maxRecDepth 100000 in
theorem mX3_count_x1 (l : Launch) (D : va_G) (c : Nat → ClassId) (a : Nat → Nat) (φ : Nat → Nat → Nat) (δ : Int64) (sz : Nat) (w : Int32) (hin : inb w (nI (0)) (nI (17)) = false) : MI l yX3_count wsX3_count rmX3_count D c sz (wM c a φ δ) [.ref (a 0), .int (w)] (nI (0)) (wM c a (pu φ 5 (kc (1))) δ) := by
  refine MI.of (cc := cX3_count) (maxL := 2) (ty := .int) (by decide) rfl (Nat.le_of_ble_eq_true rfl) rfl ?_
  intro P e s m below meth cd A Q ls hsz S hK hW hA hl hret
  have hl : lv_has ls 2 [(0, .ref (a 0)), (1, .int (w))] := hl
  refine lv_aload_n S.1 S.2.1 dX3_count_0 rfl (lv_at hl 0 rfl) ?_
  refine lv_iload_n S.1 S.2.1 dX3_count_1 rfl (lv_at hl 1 rfl) ?_
  refine lv_iconst (v := nI (0)) S.1 S.2.1 dX3_count_2 rfl ?_
  refine lv_bipush (v := nI (17)) S.1 S.2.1 dX3_count_3 rfl ?_
  refine k_SI (rest := [.ref (a 0)]) S hK hl.1 hW (KFr.nil hW hA) (mX3_in l D c  _ w (nI (0)) (nI (17))) gX3_count_X3_in rfl pdX3_in ⟨⟨rfl, rfl⟩, Nat.le_of_ble_eq_true rfl, Nat.le_of_ble_eq_true rfl⟩ rfl (Nat.le_of_ble_eq_true rfl) dX3_count_5 ⟨Nat.le_of_ble_eq_true rfl, Nat.le_of_ble_eq_true rfl⟩ (fun H locs hW => ?_)
  have hW : kw D A s.heap (wM c a φ δ) H locs := hW
  refine kb_eq S (tgt := 15) dX3_count_8 (by decide) (fun c_8 => ?_) (fun c_8 => ?_)
  · refine lv_iconst (v := nI (1)) S.1 S.2.1 dX3_count_15 rfl ?_
    refine k_VI (rest := []) S hK hl.1 hW (KFr.all hW hA) (mX3_holds l D c a φ δ _ 1 (by first | omega | exact hw | assumption)) gX3_count_X3_holds rfl pdX3_holds ⟨⟨rfl, rfl⟩, Nat.le_of_ble_eq_true rfl, Nat.le_of_ble_eq_true rfl⟩ 0 3 rfl rfl rfl rfl (Nat.le_of_ble_eq_true rfl) dX3_count_16 ⟨Nat.le_of_ble_eq_true rfl, Nat.le_of_ble_eq_true rfl⟩ (fun H locs hW => ?_)
    have hW : kw D A s.heap (wM c a (pu φ 5 (kc (1))) δ) H locs := hW
    refine kb_eq S (tgt := 30) dX3_count_19 (by decide) (fun c_19 => ?_) (fun c_19 => ?_)
    · refine lv_iconst (v := nI (0)) S.1 S.2.1 dX3_count_30 rfl ?_
      exact hret 31 _ _ _ _ _ dX3_count_31 hW (rfl) (rfl)
    · exact absurd c_19 (by decide)
  · exact absurd (hin.symm.trans c_8) (by decide)
set_option maxHeartbeats 400000 in
set_option maxRecDepth 100000 in
theorem mX3_count_k (l : Launch) (D : va_G) (c : Nat → ClassId) (a : Nat → Nat) (φ : Nat → Nat → Nat) (δ : Int64) (sz : Nat) (w : Nat) (h1 : 0 ≤ w) (h2 : w ≤ 17) (ok : okM (φ 0)) : MI l yX3_count wsX3_count rmX3_count D c sz (wM c a φ δ) [.ref (a 0), .int (nI (w))] (nI (cnt (φ 0) (φ 6 0) w)) (wM c a (pu φ 5 (kc (0))) δ) := by
  refine MI.of (cc := cX3_count) (maxL := 2) (ty := .int) (by decide) rfl (Nat.le_of_ble_eq_true rfl) rfl ?_
  intro P e s m below meth cd A Q ls hsz S hK hW hA hl hret
  have hl : lv_has ls 2 [(0, .ref (a 0)), (1, .int (nI (w)))] := hl
  have hin : inb (nI (w)) (nI (0)) (nI (17)) = true := inb_t (by omega) (by omega) (by decide)
  refine lv_aload_n S.1 S.2.1 dX3_count_0 rfl (lv_at hl 0 rfl) ?_
  refine lv_iload_n S.1 S.2.1 dX3_count_1 rfl (lv_at hl 1 rfl) ?_
  refine lv_iconst (v := nI (0)) S.1 S.2.1 dX3_count_2 rfl ?_
  refine lv_bipush (v := nI (17)) S.1 S.2.1 dX3_count_3 rfl ?_
  refine k_SI (rest := [.ref (a 0)]) S hK hl.1 hW (KFr.nil hW hA) (mX3_in l D c  _ (nI (w)) (nI (0)) (nI (17))) gX3_count_X3_in rfl pdX3_in ⟨⟨rfl, rfl⟩, Nat.le_of_ble_eq_true rfl, Nat.le_of_ble_eq_true rfl⟩ rfl (Nat.le_of_ble_eq_true rfl) dX3_count_5 ⟨Nat.le_of_ble_eq_true rfl, Nat.le_of_ble_eq_true rfl⟩ (fun H locs hW => ?_)
  have hW : kw D A s.heap (wM c a φ δ) H locs := hW
  refine kb_eq S (tgt := 15) dX3_count_8 (by decide) (fun c_8 => ?_) (fun c_8 => ?_)
  · exact absurd (hin.symm.trans c_8) (by decide)
  · refine lv_iconst (v := nI (0)) S.1 S.2.1 dX3_count_11 rfl ?_
    refine lv_goto (tgt := 16) S.1 S.2.1 dX3_count_12 (by decide) ?_
    refine k_VI (rest := []) S hK hl.1 hW (KFr.all hW hA) (mX3_holds l D c a φ δ _ 0 (by first | omega | exact hw | assumption)) gX3_count_X3_holds rfl pdX3_holds ⟨⟨rfl, rfl⟩, Nat.le_of_ble_eq_true rfl, Nat.le_of_ble_eq_true rfl⟩ 0 3 rfl rfl rfl rfl (Nat.le_of_ble_eq_true rfl) dX3_count_16 ⟨Nat.le_of_ble_eq_true rfl, Nat.le_of_ble_eq_true rfl⟩ (fun H locs hW => ?_)
    have hW : kw D A s.heap (wM c a (pu φ 5 (kc (0))) δ) H locs := hW
    refine kb_eq S (tgt := 30) dX3_count_19 (by decide) (fun c_19 => ?_) (fun c_19 => ?_)
    · exact absurd c_19 (by decide)
    · refine lv_aload_n S.1 S.2.1 dX3_count_22 rfl (lv_at hl 0 rfl) ?_
      refine lv_iload_n S.1 S.2.1 dX3_count_23 rfl (lv_at hl 1 rfl) ?_
      refine k_VI (rest := []) S hK hl.1 hW (KFr.all hW hA) (mX3_counted l D c a ((pu φ 5 (kc (0)))) δ _ w (by first | omega | exact hw | assumption) (by first | omega | exact ok | assumption)) gX3_count_X3_counted rfl pdX3_counted ⟨⟨rfl, rfl⟩, Nat.le_of_ble_eq_true rfl, Nat.le_of_ble_eq_true rfl⟩ 0 3 rfl rfl rfl rfl (Nat.le_of_ble_eq_true rfl) dX3_count_24 ⟨Nat.le_of_ble_eq_true rfl, Nat.le_of_ble_eq_true rfl⟩ (fun H locs hW => ?_)
      have hW : kw D A s.heap (wM c a (pu φ 5 (kc (0))) δ) H locs := hW
      refine k_top (y := nI (cnt ((φ 0)) (((φ 6) 0)) w)) rfl ?_
      refine lv_goto (tgt := 31) S.1 S.2.1 dX3_count_27 (by decide) ?_
      exact hret 31 _ _ _ _ _ dX3_count_31 hW (rfl) (rfl)
abbrev rmX3_windOf : Room := { frames := 3, cells := 0, slots := 0, locals := 66 }
theorem pdX3_windOf : kPd yX3_windOf 1 := by decide +kernel
set_option maxHeartbeats 400000 in
set_option maxRecDepth 100000 in
theorem mX3_windOf (l : Launch) (D : va_G) (c : Nat → ClassId) (a : Nat → Nat) (φ : Nat → Nat → Nat) (δ : Int64) (sz : Nat) (n : Nat) (hn : n < 100) (ok : okM (φ 0)) : MI l yX3_windOf wsX3_windOf rmX3_windOf D c sz (wM c a φ δ) [.ref (a 0), .int (nI (n))] (nI (wsm (φ 0) (32 * n))) (wM c a (pu φ 1 (φ 0)) δ) := by
  refine MI.of (cc := cX3_windOf) (maxL := 4) (ty := .int) (by decide) rfl (Nat.le_of_ble_eq_true rfl) rfl ?_
  intro P e s m below meth cd A Q ls hsz S hK hW hA hl hret
  have hl : lv_has ls 4 [(0, .ref (a 0)), (1, .int (nI (n)))] := hl
  have hinX3 : ∀ w ∈ u_ws RX3 TX3 13, w ∈ wsX3_windOf := by decide +kernel
  refine lv_aload_n S.1 S.2.1 dX3_windOf_0 rfl (lv_at hl 0 rfl) ?_
  refine k_VV (rest := []) S hK hl.1 hW (KFr.all hW hA) (mX3_putAside l D c a φ δ _ ) gX3_windOf_X3_putAside rfl pdX3_putAside ⟨⟨rfl, rfl⟩, Nat.le_of_ble_eq_true rfl, Nat.le_of_ble_eq_true rfl⟩ 0 3 rfl rfl rfl rfl (Nat.le_of_ble_eq_true rfl) dX3_windOf_1 ⟨Nat.le_of_ble_eq_true rfl, Nat.le_of_ble_eq_true rfl⟩ (fun H locs hW => ?_)
  have hW : kw D A s.heap (wM c a (pu φ 1 (φ 0)) δ) H locs := hW
  refine lv_iconst (v := nI (0)) S.1 S.2.1 dX3_windOf_4 rfl ?_
  refine lv_istore_n (lv' := [(2, .int (nI (0))), (0, .ref (a 0)), (1, .int (nI (n)))]) S.1 S.2.1 dX3_windOf_5 rfl hl (by decide) rfl (fun ls hl => ?_)
  refine lv_iconst (v := nI (0)) S.1 S.2.1 dX3_windOf_6 rfl ?_
  refine lv_istore_n (lv' := [(3, .int (nI (0))), (2, .int (nI (0))), (0, .ref (a 0)), (1, .int (nI (n)))]) S.1 S.2.1 dX3_windOf_7 rfl hl (by decide) rfl (fun ls hl => ?_)
  refine k_loop (fun (zz : Nat) H lo ls => match zz with | k => kw D A s.heap (wM c a (pu (pu φ 1 (φ 0)) 0 (wst (φ 0) k)) δ) H lo ∧ lv_has ls 4 [(0, .ref (a 0)), (1, .int (nI (n))), (2, .int (nI (wsm (φ 0) k))), (3, .int (nI (k)))] ∧ k ≤ 32 * n) (fun (zz : Nat) => match zz with | k => 32 * n - k) [] ?_ 0 _ _ _ ⟨hW, lv_sub hl [2, 3, 1, 0] rfl, (Nat.zero_le _)⟩
  rintro k ih8 H locs ls ⟨hW, hl, hi8_0⟩
  have okk := ok.wst k
  have k133 := okk.k133
  refine lv_iload_n S.1 S.2.1 dX3_windOf_8 rfl (lv_at hl 3 rfl) ?_
  refine lv_bipush (v := nI (32)) S.1 S.2.1 dX3_windOf_9 rfl ?_
  refine lv_iload_n S.1 S.2.1 dX3_windOf_11 rfl (lv_at hl 1 rfl) ?_
  refine kn_imul S dX3_windOf_12 ?_
  refine kn_ge S (tgt := 53) dX3_windOf_13 (by decide) (by omega) (by omega) (fun c_13 => ?_) (fun c_13 => ?_)
  · have e9 : k = 32 * n := by omega
    subst e9
    refine lv_aload_n S.1 S.2.1 dX3_windOf_53 rfl (lv_at hl 0 rfl) ?_
    refine k_VV (rest := []) S hK hl.1 hW (KFr.all hW hA) (mX3_putBack l D c a ((pu (pu φ 1 (φ 0)) 0 (wst (φ 0) (32 * n)))) δ _ ) gX3_windOf_X3_putBack rfl pdX3_putBack ⟨⟨rfl, rfl⟩, Nat.le_of_ble_eq_true rfl, Nat.le_of_ble_eq_true rfl⟩ 0 3 rfl rfl rfl rfl (Nat.le_of_ble_eq_true rfl) dX3_windOf_54 ⟨Nat.le_of_ble_eq_true rfl, Nat.le_of_ble_eq_true rfl⟩ (fun H locs hW => ?_)
    have hW : kw D A s.heap (wM c a (pu (pu φ 1 (φ 0)) 0 ((φ 0))) δ) H locs := hW
    refine lv_iload_n S.1 S.2.1 dX3_windOf_57 rfl (lv_at hl 2 rfl) ?_
    exact hret 58 _ _ _ _ _ dX3_windOf_58 hW (rfl) (rfl)
  · refine lv_iload_n S.1 S.2.1 dX3_windOf_16 rfl (lv_at hl 2 rfl) ?_
    refine lv_aload_n S.1 S.2.1 dX3_windOf_17 rfl (lv_at hl 0 rfl) ?_
    refine k_VI (rest := [.int (nI (wsm (φ 0) k))]) S hK hl.1 hW (KFr.all hW hA) (mX3_need l D c a ((pu (pu φ 1 (φ 0)) 0 (wst (φ 0) k))) δ _ okk) gX3_windOf_X3_need rfl pdX3_need ⟨⟨rfl, rfl⟩, Nat.le_of_ble_eq_true rfl, Nat.le_of_ble_eq_true rfl⟩ 0 3 rfl rfl rfl rfl (Nat.le_of_ble_eq_true rfl) dX3_windOf_18 ⟨Nat.le_of_ble_eq_true rfl, Nat.le_of_ble_eq_true rfl⟩ (fun H locs hW => ?_)
    have hW : kw D A s.heap (wM c a (pu (pu φ 1 (φ 0)) 0 (wst (φ 0) k)) δ) H locs := hW
    refine k_top (y := nI (need ((wst (φ 0) k)))) rfl ?_
    refine kn_iadd S dX3_windOf_21 ?_
    refine lv_istore_n (lv' := [(2, .int (nI (wsm (φ 0) k + need ((wst (φ 0) k))))), (0, .ref (a 0)), (1, .int (nI (n))), (3, .int (nI (k)))]) S.1 S.2.1 dX3_windOf_22 rfl hl (by decide) rfl (fun ls hl => ?_)
    refine lv_aload_n S.1 S.2.1 dX3_windOf_23 rfl (lv_at hl 1 rfl) ?_
    refine kx_get S hK hW hinX3 0 3 rfl rfl 1 (by decide) (List.mem_of_getElem? (i := 1) rfl) (v := .ref (a 1)) rfl dX3_windOf_24 ?_
    refine lv_sipush (v := nI (134)) S.1 S.2.1 dX3_windOf_27 rfl ?_
    refine lv_aload_n S.1 S.2.1 dX3_windOf_30 rfl (lv_at hl 1 rfl) ?_
    refine k_VI (rest := [.int (nI (134)), .ref (a 1)]) S hK hl.1 hW (KFr.all hW hA) (mX3_nextTune l D c a ((pu (pu φ 1 (φ 0)) 0 (wst (φ 0) k))) δ _ okk) gX3_windOf_X3_nextTune rfl pdX3_nextTune ⟨⟨rfl, rfl⟩, Nat.le_of_ble_eq_true rfl, Nat.le_of_ble_eq_true rfl⟩ 0 3 rfl rfl rfl rfl (Nat.le_of_ble_eq_true rfl) dX3_windOf_31 ⟨Nat.le_of_ble_eq_true rfl, Nat.le_of_ble_eq_true rfl⟩ (fun H locs hW => ?_)
    have hW : kw D A s.heap (wM c a (pu (pu φ 1 (φ 0)) 0 (wst (φ 0) k)) δ) H locs := hW
    refine k_top (y := nI (ntu ((wst (φ 0) k)))) rfl ?_
    refine kn_ast S hK hW 1 (f := wst (φ 0) k) rfl (by omega) (by decide) dX3_windOf_34 (fun H locs hW => ?_)
    have hW : kw D A s.heap (wM c a (pu (pu φ 1 (φ 0)) 0 (fu (wst (φ 0) k) 134 (ntu ((wst (φ 0) k))))) δ) H locs := hW
    have hW : kw D A s.heap (wM c a (pu (pu φ 1 (φ 0)) 0 (g1 (wst (φ 0) k))) δ) H locs := hW
    refine lv_aload_n S.1 S.2.1 dX3_windOf_35 rfl (lv_at hl 1 rfl) ?_
    refine kx_get S hK hW hinX3 0 3 rfl rfl 1 (by decide) (List.mem_of_getElem? (i := 1) rfl) (v := .ref (a 1)) rfl dX3_windOf_36 ?_
    refine lv_sipush (v := nI (133)) S.1 S.2.1 dX3_windOf_39 rfl ?_
    refine lv_aload_n S.1 S.2.1 dX3_windOf_42 rfl (lv_at hl 1 rfl) ?_
    refine k_VI (rest := [.int (nI (133)), .ref (a 1)]) S hK hl.1 hW (KFr.all hW hA) (mX3_nextStep l D c a ((pu (pu φ 1 (φ 0)) 0 (g1 (wst (φ 0) k)))) δ _ okk.g1) gX3_windOf_X3_nextStep rfl pdX3_nextStep ⟨⟨rfl, rfl⟩, Nat.le_of_ble_eq_true rfl, Nat.le_of_ble_eq_true rfl⟩ 0 3 rfl rfl rfl rfl (Nat.le_of_ble_eq_true rfl) dX3_windOf_43 ⟨Nat.le_of_ble_eq_true rfl, Nat.le_of_ble_eq_true rfl⟩ (fun H locs hW => ?_)
    have hW : kw D A s.heap (wM c a (pu (pu φ 1 (φ 0)) 0 (g1 (wst (φ 0) k))) δ) H locs := hW
    refine k_top (y := nI (((g1 (wst (φ 0) k)) 133 + 1) % 32)) rfl ?_
    refine kn_ast S hK hW 1 (f := g1 (wst (φ 0) k)) rfl (by omega) (by decide) dX3_windOf_46 (fun H locs hW => ?_)
    have hW : kw D A s.heap (wM c a (pu (pu φ 1 (φ 0)) 0 (fu (g1 (wst (φ 0) k)) 133 (((g1 (wst (φ 0) k)) 133 + 1) % 32))) δ) H locs := hW
    have hW : kw D A s.heap (wM c a (pu (pu φ 1 (φ 0)) 0 (wst (φ 0) (k + 1))) δ) H locs := hW
    refine lv_iinc (v := nI (k + 1)) (lv' := [(3, .int (nI (k + 1))), (2, .int (nI (wsm (φ 0) k + need ((wst (φ 0) k))))), (0, .ref (a 0)), (1, .int (nI (n)))]) S.1 S.2.1 dX3_windOf_47 hl (k := 3) rfl (nI_add _ _) (by decide) rfl (fun ls hl => ?_)
    refine lv_goto (tgt := 8) S.1 S.2.1 dX3_windOf_50 (by decide) ?_
    exact ih8 (k + 1) _ _ _ ⟨hW, lv_sub hl [2, 3, 1, 0] rfl, (by omega)⟩ (by show 32 * n - (k + 1) < 32 * n - k; omega)
abbrev rmX3_windFor : Room := { frames := 4, cells := 0, slots := 0, locals := 89 }
theorem pdX3_windFor : kPd yX3_windFor 1 := by decide +kernel
set_option maxHeartbeats 400000 in
set_option maxRecDepth 100000 in
theorem mX3_windFor_x1 (l : Launch) (D : va_G) (c : Nat → ClassId) (a : Nat → Nat) (φ : Nat → Nat → Nat) (δ : Int64) (sz : Nat) (n : Int32) (hin : inb n (nI (1)) (nI (9)) = false) : MI l yX3_windFor wsX3_windFor rmX3_windFor D c sz (wM c a φ δ) [.ref (a 0), .int (n)] (nI (0)) (wM c a (pu φ 5 (kc (1))) δ) := by
  refine MI.of (cc := cX3_windFor) (maxL := 2) (ty := .int) (by decide) rfl (Nat.le_of_ble_eq_true rfl) rfl ?_
  intro P e s m below meth cd A Q ls hsz S hK hW hA hl hret
  have hl : lv_has ls 2 [(0, .ref (a 0)), (1, .int (n))] := hl
  refine lv_aload_n S.1 S.2.1 dX3_windFor_0 rfl (lv_at hl 0 rfl) ?_
  refine lv_iload_n S.1 S.2.1 dX3_windFor_1 rfl (lv_at hl 1 rfl) ?_
  refine lv_iconst (v := nI (1)) S.1 S.2.1 dX3_windFor_2 rfl ?_
  refine lv_bipush (v := nI (9)) S.1 S.2.1 dX3_windFor_3 rfl ?_
  refine k_SI (rest := [.ref (a 0)]) S hK hl.1 hW (KFr.nil hW hA) (mX3_in l D c  _ n (nI (1)) (nI (9))) gX3_windFor_X3_in rfl pdX3_in ⟨⟨rfl, rfl⟩, Nat.le_of_ble_eq_true rfl, Nat.le_of_ble_eq_true rfl⟩ rfl (Nat.le_of_ble_eq_true rfl) dX3_windFor_5 ⟨Nat.le_of_ble_eq_true rfl, Nat.le_of_ble_eq_true rfl⟩ (fun H locs hW => ?_)
  have hW : kw D A s.heap (wM c a φ δ) H locs := hW
  refine kb_eq S (tgt := 15) dX3_windFor_8 (by decide) (fun c_8 => ?_) (fun c_8 => ?_)
  · refine lv_iconst (v := nI (1)) S.1 S.2.1 dX3_windFor_15 rfl ?_
    refine k_VI (rest := []) S hK hl.1 hW (KFr.all hW hA) (mX3_holds l D c a φ δ _ 1 (by first | omega | exact hw | assumption)) gX3_windFor_X3_holds rfl pdX3_holds ⟨⟨rfl, rfl⟩, Nat.le_of_ble_eq_true rfl, Nat.le_of_ble_eq_true rfl⟩ 0 3 rfl rfl rfl rfl (Nat.le_of_ble_eq_true rfl) dX3_windFor_16 ⟨Nat.le_of_ble_eq_true rfl, Nat.le_of_ble_eq_true rfl⟩ (fun H locs hW => ?_)
    have hW : kw D A s.heap (wM c a (pu φ 5 (kc (1))) δ) H locs := hW
    refine kb_eq S (tgt := 30) dX3_windFor_19 (by decide) (fun c_19 => ?_) (fun c_19 => ?_)
    · refine lv_iconst (v := nI (0)) S.1 S.2.1 dX3_windFor_30 rfl ?_
      exact hret 31 _ _ _ _ _ dX3_windFor_31 hW (rfl) (rfl)
    · exact absurd c_19 (by decide)
  · exact absurd (hin.symm.trans c_8) (by decide)
set_option maxHeartbeats 400000 in
set_option maxRecDepth 100000 in
theorem mX3_windFor_k (l : Launch) (D : va_G) (c : Nat → ClassId) (a : Nat → Nat) (φ : Nat → Nat → Nat) (δ : Int64) (sz : Nat) (n : Nat) (h1 : 1 ≤ n) (h2 : n ≤ 9) (ok : okM (φ 0)) : MI l yX3_windFor wsX3_windFor rmX3_windFor D c sz (wM c a φ δ) [.ref (a 0), .int (nI (n))] (nI (wsm (φ 0) (32 * n))) (wM c a (pu (pu φ 5 (kc (0))) 1 (φ 0)) δ) := by
  refine MI.of (cc := cX3_windFor) (maxL := 2) (ty := .int) (by decide) rfl (Nat.le_of_ble_eq_true rfl) rfl ?_
  intro P e s m below meth cd A Q ls hsz S hK hW hA hl hret
  have hl : lv_has ls 2 [(0, .ref (a 0)), (1, .int (nI (n)))] := hl
  have hin : inb (nI (n)) (nI (1)) (nI (9)) = true := inb_t (by omega) (by omega) (by decide)
  refine lv_aload_n S.1 S.2.1 dX3_windFor_0 rfl (lv_at hl 0 rfl) ?_
  refine lv_iload_n S.1 S.2.1 dX3_windFor_1 rfl (lv_at hl 1 rfl) ?_
  refine lv_iconst (v := nI (1)) S.1 S.2.1 dX3_windFor_2 rfl ?_
  refine lv_bipush (v := nI (9)) S.1 S.2.1 dX3_windFor_3 rfl ?_
  refine k_SI (rest := [.ref (a 0)]) S hK hl.1 hW (KFr.nil hW hA) (mX3_in l D c  _ (nI (n)) (nI (1)) (nI (9))) gX3_windFor_X3_in rfl pdX3_in ⟨⟨rfl, rfl⟩, Nat.le_of_ble_eq_true rfl, Nat.le_of_ble_eq_true rfl⟩ rfl (Nat.le_of_ble_eq_true rfl) dX3_windFor_5 ⟨Nat.le_of_ble_eq_true rfl, Nat.le_of_ble_eq_true rfl⟩ (fun H locs hW => ?_)
  have hW : kw D A s.heap (wM c a φ δ) H locs := hW
  refine kb_eq S (tgt := 15) dX3_windFor_8 (by decide) (fun c_8 => ?_) (fun c_8 => ?_)
  · exact absurd (hin.symm.trans c_8) (by decide)
  · refine lv_iconst (v := nI (0)) S.1 S.2.1 dX3_windFor_11 rfl ?_
    refine lv_goto (tgt := 16) S.1 S.2.1 dX3_windFor_12 (by decide) ?_
    refine k_VI (rest := []) S hK hl.1 hW (KFr.all hW hA) (mX3_holds l D c a φ δ _ 0 (by first | omega | exact hw | assumption)) gX3_windFor_X3_holds rfl pdX3_holds ⟨⟨rfl, rfl⟩, Nat.le_of_ble_eq_true rfl, Nat.le_of_ble_eq_true rfl⟩ 0 3 rfl rfl rfl rfl (Nat.le_of_ble_eq_true rfl) dX3_windFor_16 ⟨Nat.le_of_ble_eq_true rfl, Nat.le_of_ble_eq_true rfl⟩ (fun H locs hW => ?_)
    have hW : kw D A s.heap (wM c a (pu φ 5 (kc (0))) δ) H locs := hW
    refine kb_eq S (tgt := 30) dX3_windFor_19 (by decide) (fun c_19 => ?_) (fun c_19 => ?_)
    · exact absurd c_19 (by decide)
    · refine lv_aload_n S.1 S.2.1 dX3_windFor_22 rfl (lv_at hl 0 rfl) ?_
      refine lv_iload_n S.1 S.2.1 dX3_windFor_23 rfl (lv_at hl 1 rfl) ?_
      refine k_VI (rest := []) S hK hl.1 hW (KFr.all hW hA) (mX3_windOf l D c a ((pu φ 5 (kc (0)))) δ _ n (by first | omega | exact hn | assumption) (by first | omega | exact ok | assumption)) gX3_windFor_X3_windOf rfl pdX3_windOf ⟨⟨rfl, rfl⟩, Nat.le_of_ble_eq_true rfl, Nat.le_of_ble_eq_true rfl⟩ 0 3 rfl rfl rfl rfl (Nat.le_of_ble_eq_true rfl) dX3_windFor_24 ⟨Nat.le_of_ble_eq_true rfl, Nat.le_of_ble_eq_true rfl⟩ (fun H locs hW => ?_)
      have hW : kw D A s.heap (wM c a (pu (pu φ 5 (kc (0))) 1 ((φ 0))) δ) H locs := hW
      refine k_top (y := nI (wsm ((φ 0)) (32 * n))) rfl ?_
      refine lv_goto (tgt := 31) S.1 S.2.1 dX3_windFor_27 (by decide) ?_
      exact hret 31 _ _ _ _ _ dX3_windFor_31 hW (rfl) (rfl)
