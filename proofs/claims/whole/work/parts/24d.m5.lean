abbrev rmX3_tune : Room := { frames := 5, cells := 0, slots := 0, locals := 113 }
theorem pdX3_tune : kPd yX3_tune 2 := by decide +kernel
set_option maxHeartbeats 400000 in
set_option maxRecDepth 100000 in
theorem mX3_tune_x1 (l : Launch) (D : va_G) (c : Nat → ClassId) (a : Nat → Nat) (φ : Nat → Nat → Nat) (δ : Int64) (sz : Nat) (t : Int32) (w : Int32) (hin : inb t (nI 0) (nI 2) = false) : MI l yX3_tune wsX3_tune rmX3_tune D c sz (wM c a φ δ) [.ref (a 0), .int (t), .int (w)] (nI (0)) (wM c a (pu φ 5 (kc (1))) δ) := by
  refine MI.of (cc := cX3_tune) (maxL := 3) (ty := .int) (by decide) rfl (Nat.le_of_ble_eq_true rfl) rfl ?_
  intro P e s m below meth cd A Q ls hsz S hK hW hA hl hret
  have hl : lv_has ls 3 [(0, .ref (a 0)), (1, .int (t)), (2, .int (w))] := hl
  refine lv_aload_n S.1 S.2.1 dX3_tune_0 rfl (lv_at hl 0 rfl) ?_
  refine lv_iload_n S.1 S.2.1 dX3_tune_1 rfl (lv_at hl 1 rfl) ?_
  refine k_SI (rest := [.ref (a 0)]) S hK hl.1 hW (KFr.nil hW hA) (mX3_isTune l D c  _ t) gX3_tune_X3_isTune rfl pdX3_isTune ⟨⟨rfl, rfl⟩, Nat.le_of_ble_eq_true rfl, Nat.le_of_ble_eq_true rfl⟩ rfl (Nat.le_of_ble_eq_true rfl) dX3_tune_2 ⟨Nat.le_of_ble_eq_true rfl, Nat.le_of_ble_eq_true rfl⟩ (fun H locs hW => ?_)
  have hW : kw D A s.heap (wM c a φ δ) H locs := hW
  refine kb_ne S (tgt := 12) dX3_tune_5 (by decide) (fun c_5 => ?_) (fun c_5 => ?_)
  · exact absurd (hin.symm.trans c_5) (by decide)
  · refine lv_iconst (v := nI (1)) S.1 S.2.1 dX3_tune_8 rfl ?_
    refine lv_goto (tgt := 26) S.1 S.2.1 dX3_tune_9 (by decide) ?_
    refine k_VI (rest := []) S hK hl.1 hW (KFr.all hW hA) (mX3_holds l D c a φ δ _ 1 (by first | omega | exact hw | assumption)) gX3_tune_X3_holds rfl pdX3_holds ⟨⟨rfl, rfl⟩, Nat.le_of_ble_eq_true rfl, Nat.le_of_ble_eq_true rfl⟩ 0 3 rfl rfl rfl rfl (Nat.le_of_ble_eq_true rfl) dX3_tune_26 ⟨Nat.le_of_ble_eq_true rfl, Nat.le_of_ble_eq_true rfl⟩ (fun H locs hW => ?_)
    have hW : kw D A s.heap (wM c a (pu φ 5 (kc (1))) δ) H locs := hW
    refine kb_eq S (tgt := 41) dX3_tune_29 (by decide) (fun c_29 => ?_) (fun c_29 => ?_)
    · refine lv_iconst (v := nI (0)) S.1 S.2.1 dX3_tune_41 rfl ?_
      exact hret 42 _ _ _ _ _ dX3_tune_42 hW (rfl) (rfl)
    · exact absurd c_29 (by decide)
set_option maxHeartbeats 400000 in
set_option maxRecDepth 100000 in
theorem mX3_tune_x2 (l : Launch) (D : va_G) (c : Nat → ClassId) (a : Nat → Nat) (φ : Nat → Nat → Nat) (δ : Int64) (sz : Nat) (t : Nat) (w : Int32) (h1 : t ≤ 2) (hw : inb w (nI (0)) (nI (4)) = false) : MI l yX3_tune wsX3_tune rmX3_tune D c sz (wM c a φ δ) [.ref (a 0), .int (nI (t)), .int (w)] (nI (0)) (wM c a (pu φ 5 (kc (2))) δ) := by
  refine MI.of (cc := cX3_tune) (maxL := 3) (ty := .int) (by decide) rfl (Nat.le_of_ble_eq_true rfl) rfl ?_
  intro P e s m below meth cd A Q ls hsz S hK hW hA hl hret
  have hl : lv_has ls 3 [(0, .ref (a 0)), (1, .int (nI (t))), (2, .int (w))] := hl
  have hin : inb (nI (t)) (nI 0) (nI 2) = true := inb_t (Nat.zero_le _) (by omega) (by decide)
  refine lv_aload_n S.1 S.2.1 dX3_tune_0 rfl (lv_at hl 0 rfl) ?_
  refine lv_iload_n S.1 S.2.1 dX3_tune_1 rfl (lv_at hl 1 rfl) ?_
  refine k_SI (rest := [.ref (a 0)]) S hK hl.1 hW (KFr.nil hW hA) (mX3_isTune l D c  _ (nI (t))) gX3_tune_X3_isTune rfl pdX3_isTune ⟨⟨rfl, rfl⟩, Nat.le_of_ble_eq_true rfl, Nat.le_of_ble_eq_true rfl⟩ rfl (Nat.le_of_ble_eq_true rfl) dX3_tune_2 ⟨Nat.le_of_ble_eq_true rfl, Nat.le_of_ble_eq_true rfl⟩ (fun H locs hW => ?_)
  have hW : kw D A s.heap (wM c a φ δ) H locs := hW
  refine kb_ne S (tgt := 12) dX3_tune_5 (by decide) (fun c_5 => ?_) (fun c_5 => ?_)
  · refine lv_iload_n S.1 S.2.1 dX3_tune_12 rfl (lv_at hl 2 rfl) ?_
    refine lv_iconst (v := nI (0)) S.1 S.2.1 dX3_tune_13 rfl ?_
    refine lv_iconst (v := nI (4)) S.1 S.2.1 dX3_tune_14 rfl ?_
    refine k_SI (rest := [.ref (a 0)]) S hK hl.1 hW (KFr.nil hW hA) (mX3_in l D c  _ w (nI (0)) (nI (4))) gX3_tune_X3_in rfl pdX3_in ⟨⟨rfl, rfl⟩, Nat.le_of_ble_eq_true rfl, Nat.le_of_ble_eq_true rfl⟩ rfl (Nat.le_of_ble_eq_true rfl) dX3_tune_15 ⟨Nat.le_of_ble_eq_true rfl, Nat.le_of_ble_eq_true rfl⟩ (fun H locs hW => ?_)
    have hW : kw D A s.heap (wM c a φ δ) H locs := hW
    refine kb_eq S (tgt := 25) dX3_tune_18 (by decide) (fun c_18 => ?_) (fun c_18 => ?_)
    · refine lv_iconst (v := nI (2)) S.1 S.2.1 dX3_tune_25 rfl ?_
      refine k_VI (rest := []) S hK hl.1 hW (KFr.all hW hA) (mX3_holds l D c a φ δ _ 2 (by first | omega | exact hw | assumption)) gX3_tune_X3_holds rfl pdX3_holds ⟨⟨rfl, rfl⟩, Nat.le_of_ble_eq_true rfl, Nat.le_of_ble_eq_true rfl⟩ 0 3 rfl rfl rfl rfl (Nat.le_of_ble_eq_true rfl) dX3_tune_26 ⟨Nat.le_of_ble_eq_true rfl, Nat.le_of_ble_eq_true rfl⟩ (fun H locs hW => ?_)
      have hW : kw D A s.heap (wM c a (pu φ 5 (kc (2))) δ) H locs := hW
      refine kb_eq S (tgt := 41) dX3_tune_29 (by decide) (fun c_29 => ?_) (fun c_29 => ?_)
      · refine lv_iconst (v := nI (0)) S.1 S.2.1 dX3_tune_41 rfl ?_
        exact hret 42 _ _ _ _ _ dX3_tune_42 hW (rfl) (rfl)
      · exact absurd c_29 (by decide)
    · exact absurd (hw.symm.trans c_18) (by decide)
  · exact absurd (hin.symm.trans c_5) (by decide)
set_option maxHeartbeats 400000 in
set_option maxRecDepth 100000 in
theorem mX3_tune_k (l : Launch) (D : va_G) (c : Nat → ClassId) (a : Nat → Nat) (φ : Nat → Nat → Nat) (δ : Int64) (sz : Nat) (t : Nat) (w : Nat) (h1 : t ≤ 2) (h2 : w ≤ 4) (ok : okM (φ 0)) : MI l yX3_tune wsX3_tune rmX3_tune D c sz (wM c a φ δ) [.ref (a 0), .int (nI (t)), .int (nI (w))] (nI (otu (φ 0) t w)) (wM c a (pu φ 5 (kc (0))) δ) := by
  refine MI.of (cc := cX3_tune) (maxL := 3) (ty := .int) (by decide) rfl (Nat.le_of_ble_eq_true rfl) rfl ?_
  intro P e s m below meth cd A Q ls hsz S hK hW hA hl hret
  have hl : lv_has ls 3 [(0, .ref (a 0)), (1, .int (nI (t))), (2, .int (nI (w)))] := hl
  have hin : inb (nI (t)) (nI 0) (nI 2) = true := inb_t (Nat.zero_le _) (by omega) (by decide)
  have hw : inb (nI (w)) (nI (0)) (nI (4)) = true := inb_t (Nat.zero_le _) (by omega) (by decide)
  refine lv_aload_n S.1 S.2.1 dX3_tune_0 rfl (lv_at hl 0 rfl) ?_
  refine lv_iload_n S.1 S.2.1 dX3_tune_1 rfl (lv_at hl 1 rfl) ?_
  refine k_SI (rest := [.ref (a 0)]) S hK hl.1 hW (KFr.nil hW hA) (mX3_isTune l D c  _ (nI (t))) gX3_tune_X3_isTune rfl pdX3_isTune ⟨⟨rfl, rfl⟩, Nat.le_of_ble_eq_true rfl, Nat.le_of_ble_eq_true rfl⟩ rfl (Nat.le_of_ble_eq_true rfl) dX3_tune_2 ⟨Nat.le_of_ble_eq_true rfl, Nat.le_of_ble_eq_true rfl⟩ (fun H locs hW => ?_)
  have hW : kw D A s.heap (wM c a φ δ) H locs := hW
  refine kb_ne S (tgt := 12) dX3_tune_5 (by decide) (fun c_5 => ?_) (fun c_5 => ?_)
  · refine lv_iload_n S.1 S.2.1 dX3_tune_12 rfl (lv_at hl 2 rfl) ?_
    refine lv_iconst (v := nI (0)) S.1 S.2.1 dX3_tune_13 rfl ?_
    refine lv_iconst (v := nI (4)) S.1 S.2.1 dX3_tune_14 rfl ?_
    refine k_SI (rest := [.ref (a 0)]) S hK hl.1 hW (KFr.nil hW hA) (mX3_in l D c  _ (nI (w)) (nI (0)) (nI (4))) gX3_tune_X3_in rfl pdX3_in ⟨⟨rfl, rfl⟩, Nat.le_of_ble_eq_true rfl, Nat.le_of_ble_eq_true rfl⟩ rfl (Nat.le_of_ble_eq_true rfl) dX3_tune_15 ⟨Nat.le_of_ble_eq_true rfl, Nat.le_of_ble_eq_true rfl⟩ (fun H locs hW => ?_)
    have hW : kw D A s.heap (wM c a φ δ) H locs := hW
    refine kb_eq S (tgt := 25) dX3_tune_18 (by decide) (fun c_18 => ?_) (fun c_18 => ?_)
    · exact absurd (hw.symm.trans c_18) (by decide)
    · refine lv_iconst (v := nI (0)) S.1 S.2.1 dX3_tune_21 rfl ?_
      refine lv_goto (tgt := 26) S.1 S.2.1 dX3_tune_22 (by decide) ?_
      refine k_VI (rest := []) S hK hl.1 hW (KFr.all hW hA) (mX3_holds l D c a φ δ _ 0 (by first | omega | exact hw | assumption)) gX3_tune_X3_holds rfl pdX3_holds ⟨⟨rfl, rfl⟩, Nat.le_of_ble_eq_true rfl, Nat.le_of_ble_eq_true rfl⟩ 0 3 rfl rfl rfl rfl (Nat.le_of_ble_eq_true rfl) dX3_tune_26 ⟨Nat.le_of_ble_eq_true rfl, Nat.le_of_ble_eq_true rfl⟩ (fun H locs hW => ?_)
      have hW : kw D A s.heap (wM c a (pu φ 5 (kc (0))) δ) H locs := hW
      refine kb_eq S (tgt := 41) dX3_tune_29 (by decide) (fun c_29 => ?_) (fun c_29 => ?_)
      · exact absurd c_29 (by decide)
      · refine lv_aload_n S.1 S.2.1 dX3_tune_32 rfl (lv_at hl 0 rfl) ?_
        refine lv_iload_n S.1 S.2.1 dX3_tune_33 rfl (lv_at hl 1 rfl) ?_
        refine lv_iload_n S.1 S.2.1 dX3_tune_34 rfl (lv_at hl 2 rfl) ?_
        refine k_VI (rest := []) S hK hl.1 hW (KFr.all hW hA) (mX3_ofTune l D c a ((pu φ 5 (kc (0)))) δ _ t w (by first | omega | exact ht | assumption) (by first | omega | exact hw | assumption) (by first | omega | exact ok | assumption)) gX3_tune_X3_ofTune rfl pdX3_ofTune ⟨⟨rfl, rfl⟩, Nat.le_of_ble_eq_true rfl, Nat.le_of_ble_eq_true rfl⟩ 0 3 rfl rfl rfl rfl (Nat.le_of_ble_eq_true rfl) dX3_tune_35 ⟨Nat.le_of_ble_eq_true rfl, Nat.le_of_ble_eq_true rfl⟩ (fun H locs hW => ?_)
        have hW : kw D A s.heap (wM c a (pu φ 5 (kc (0))) δ) H locs := hW
        refine k_top (y := nI (otu ((φ 0)) t w)) rfl ?_
        refine lv_goto (tgt := 42) S.1 S.2.1 dX3_tune_38 (by decide) ?_
        exact hret 42 _ _ _ _ _ dX3_tune_42 hW (rfl) (rfl)
  · exact absurd (hin.symm.trans c_5) (by decide)
abbrev rmX3_chord : Room := { frames := 3, cells := 0, slots := 0, locals := 68 }
theorem pdX3_chord : kPd yX3_chord 2 := by decide +kernel
set_option maxHeartbeats 400000 in
set_option maxRecDepth 100000 in
theorem mX3_chord_x1 (l : Launch) (D : va_G) (c : Nat → ClassId) (a : Nat → Nat) (φ : Nat → Nat → Nat) (δ : Int64) (sz : Nat) (t : Int32) (p : Int32) (hin : (inb t (nI 0) (nI 2) && inb p (nI 0) (nI 31)) = false) : MI l yX3_chord wsX3_chord rmX3_chord D c sz (wM c a φ δ) [.ref (a 0), .int (t), .int (p)] (nI (0)) (wM c a (pu φ 5 (kc (1))) δ) := by
  refine MI.of (cc := cX3_chord) (maxL := 3) (ty := .int) (by decide) rfl (Nat.le_of_ble_eq_true rfl) rfl ?_
  intro P e s m below meth cd A Q ls hsz S hK hW hA hl hret
  have hl : lv_has ls 3 [(0, .ref (a 0)), (1, .int (t)), (2, .int (p))] := hl
  refine lv_aload_n S.1 S.2.1 dX3_chord_0 rfl (lv_at hl 0 rfl) ?_
  refine lv_iload_n S.1 S.2.1 dX3_chord_1 rfl (lv_at hl 1 rfl) ?_
  refine k_SI (rest := [.ref (a 0)]) S hK hl.1 hW (KFr.nil hW hA) (mX3_isTune l D c  _ t) gX3_chord_X3_isTune rfl pdX3_isTune ⟨⟨rfl, rfl⟩, Nat.le_of_ble_eq_true rfl, Nat.le_of_ble_eq_true rfl⟩ rfl (Nat.le_of_ble_eq_true rfl) dX3_chord_2 ⟨Nat.le_of_ble_eq_true rfl, Nat.le_of_ble_eq_true rfl⟩ (fun H locs hW => ?_)
  have hW : kw D A s.heap (wM c a φ δ) H locs := hW
  refine kb_eq S (tgt := 19) dX3_chord_5 (by decide) (fun c_5 => ?_) (fun c_5 => ?_)
  · refine lv_iconst (v := nI (1)) S.1 S.2.1 dX3_chord_19 rfl ?_
    refine k_VI (rest := []) S hK hl.1 hW (KFr.all hW hA) (mX3_holds l D c a φ δ _ 1 (by first | omega | exact hw | assumption)) gX3_chord_X3_holds rfl pdX3_holds ⟨⟨rfl, rfl⟩, Nat.le_of_ble_eq_true rfl, Nat.le_of_ble_eq_true rfl⟩ 0 3 rfl rfl rfl rfl (Nat.le_of_ble_eq_true rfl) dX3_chord_20 ⟨Nat.le_of_ble_eq_true rfl, Nat.le_of_ble_eq_true rfl⟩ (fun H locs hW => ?_)
    have hW : kw D A s.heap (wM c a (pu φ 5 (kc (1))) δ) H locs := hW
    refine kb_eq S (tgt := 35) dX3_chord_23 (by decide) (fun c_23 => ?_) (fun c_23 => ?_)
    · refine lv_iconst (v := nI (0)) S.1 S.2.1 dX3_chord_35 rfl ?_
      exact hret 36 _ _ _ _ _ dX3_chord_36 hW (rfl) (rfl)
    · exact absurd c_23 (by decide)
  · refine lv_iload_n S.1 S.2.1 dX3_chord_8 rfl (lv_at hl 2 rfl) ?_
    refine k_SI (rest := [.ref (a 0)]) S hK hl.1 hW (KFr.nil hW hA) (mX3_isStep l D c  _ p) gX3_chord_X3_isStep rfl pdX3_isStep ⟨⟨rfl, rfl⟩, Nat.le_of_ble_eq_true rfl, Nat.le_of_ble_eq_true rfl⟩ rfl (Nat.le_of_ble_eq_true rfl) dX3_chord_9 ⟨Nat.le_of_ble_eq_true rfl, Nat.le_of_ble_eq_true rfl⟩ (fun H locs hW => ?_)
    have hW : kw D A s.heap (wM c a φ δ) H locs := hW
    refine kb_eq S (tgt := 19) dX3_chord_12 (by decide) (fun c_12 => ?_) (fun c_12 => ?_)
    · refine lv_iconst (v := nI (1)) S.1 S.2.1 dX3_chord_19 rfl ?_
      refine k_VI (rest := []) S hK hl.1 hW (KFr.all hW hA) (mX3_holds l D c a φ δ _ 1 (by first | omega | exact hw | assumption)) gX3_chord_X3_holds rfl pdX3_holds ⟨⟨rfl, rfl⟩, Nat.le_of_ble_eq_true rfl, Nat.le_of_ble_eq_true rfl⟩ 0 3 rfl rfl rfl rfl (Nat.le_of_ble_eq_true rfl) dX3_chord_20 ⟨Nat.le_of_ble_eq_true rfl, Nat.le_of_ble_eq_true rfl⟩ (fun H locs hW => ?_)
      have hW : kw D A s.heap (wM c a (pu φ 5 (kc (1))) δ) H locs := hW
      refine kb_eq S (tgt := 35) dX3_chord_23 (by decide) (fun c_23 => ?_) (fun c_23 => ?_)
      · refine lv_iconst (v := nI (0)) S.1 S.2.1 dX3_chord_35 rfl ?_
        exact hret 36 _ _ _ _ _ dX3_chord_36 hW (rfl) (rfl)
      · exact absurd c_23 (by decide)
    · exact absurd hin (by rw [c_5, c_12]; decide)
set_option maxHeartbeats 400000 in
set_option maxRecDepth 100000 in
theorem mX3_chord_k (l : Launch) (D : va_G) (c : Nat → ClassId) (a : Nat → Nat) (φ : Nat → Nat → Nat) (δ : Int64) (sz : Nat) (t : Nat) (p : Nat) (ht : t < 3) (hp : p < 32) : MI l yX3_chord wsX3_chord rmX3_chord D c sz (wM c a φ δ) [.ref (a 0), .int (nI (t)), .int (nI (p))] (nI (mk (fun j => pb (φ 0) t j p) 12)) (wM c a (pu φ 5 (kc (0))) δ) := by
  refine MI.of (cc := cX3_chord) (maxL := 3) (ty := .int) (by decide) rfl (Nat.le_of_ble_eq_true rfl) rfl ?_
  intro P e s m below meth cd A Q ls hsz S hK hW hA hl hret
  have hl : lv_has ls 3 [(0, .ref (a 0)), (1, .int (nI (t))), (2, .int (nI (p)))] := hl
  have h1 : inb (nI (t)) (nI 0) (nI 2) = true := inb_t (Nat.zero_le _) (by omega) (by decide)
  have h2 : inb (nI (p)) (nI 0) (nI 31) = true := inb_t (Nat.zero_le _) (by omega) (by decide)
  refine lv_aload_n S.1 S.2.1 dX3_chord_0 rfl (lv_at hl 0 rfl) ?_
  refine lv_iload_n S.1 S.2.1 dX3_chord_1 rfl (lv_at hl 1 rfl) ?_
  refine k_SI (rest := [.ref (a 0)]) S hK hl.1 hW (KFr.nil hW hA) (mX3_isTune l D c  _ (nI (t))) gX3_chord_X3_isTune rfl pdX3_isTune ⟨⟨rfl, rfl⟩, Nat.le_of_ble_eq_true rfl, Nat.le_of_ble_eq_true rfl⟩ rfl (Nat.le_of_ble_eq_true rfl) dX3_chord_2 ⟨Nat.le_of_ble_eq_true rfl, Nat.le_of_ble_eq_true rfl⟩ (fun H locs hW => ?_)
  have hW : kw D A s.heap (wM c a φ δ) H locs := hW
  refine kb_eq S (tgt := 19) dX3_chord_5 (by decide) (fun c_5 => ?_) (fun c_5 => ?_)
  · exact absurd (h1.symm.trans c_5) (by decide)
  · refine lv_iload_n S.1 S.2.1 dX3_chord_8 rfl (lv_at hl 2 rfl) ?_
    refine k_SI (rest := [.ref (a 0)]) S hK hl.1 hW (KFr.nil hW hA) (mX3_isStep l D c  _ (nI (p))) gX3_chord_X3_isStep rfl pdX3_isStep ⟨⟨rfl, rfl⟩, Nat.le_of_ble_eq_true rfl, Nat.le_of_ble_eq_true rfl⟩ rfl (Nat.le_of_ble_eq_true rfl) dX3_chord_9 ⟨Nat.le_of_ble_eq_true rfl, Nat.le_of_ble_eq_true rfl⟩ (fun H locs hW => ?_)
    have hW : kw D A s.heap (wM c a φ δ) H locs := hW
    refine kb_eq S (tgt := 19) dX3_chord_12 (by decide) (fun c_12 => ?_) (fun c_12 => ?_)
    · exact absurd (h2.symm.trans c_12) (by decide)
    · refine lv_iconst (v := nI (0)) S.1 S.2.1 dX3_chord_15 rfl ?_
      refine lv_goto (tgt := 20) S.1 S.2.1 dX3_chord_16 (by decide) ?_
      refine k_VI (rest := []) S hK hl.1 hW (KFr.all hW hA) (mX3_holds l D c a φ δ _ 0 (by first | omega | exact hw | assumption)) gX3_chord_X3_holds rfl pdX3_holds ⟨⟨rfl, rfl⟩, Nat.le_of_ble_eq_true rfl, Nat.le_of_ble_eq_true rfl⟩ 0 3 rfl rfl rfl rfl (Nat.le_of_ble_eq_true rfl) dX3_chord_20 ⟨Nat.le_of_ble_eq_true rfl, Nat.le_of_ble_eq_true rfl⟩ (fun H locs hW => ?_)
      have hW : kw D A s.heap (wM c a (pu φ 5 (kc (0))) δ) H locs := hW
      refine kb_eq S (tgt := 35) dX3_chord_23 (by decide) (fun c_23 => ?_) (fun c_23 => ?_)
      · exact absurd c_23 (by decide)
      · refine lv_aload_n S.1 S.2.1 dX3_chord_26 rfl (lv_at hl 0 rfl) ?_
        refine lv_iload_n S.1 S.2.1 dX3_chord_27 rfl (lv_at hl 1 rfl) ?_
        refine lv_iload_n S.1 S.2.1 dX3_chord_28 rfl (lv_at hl 2 rfl) ?_
        refine k_VI (rest := []) S hK hl.1 hW (KFr.all hW hA) (mX3_pinsAt l D c a ((pu φ 5 (kc (0)))) δ _ t p (by first | omega | exact ht | assumption) (by first | omega | exact hp | assumption)) gX3_chord_X3_pinsAt rfl pdX3_pinsAt ⟨⟨rfl, rfl⟩, Nat.le_of_ble_eq_true rfl, Nat.le_of_ble_eq_true rfl⟩ 0 3 rfl rfl rfl rfl (Nat.le_of_ble_eq_true rfl) dX3_chord_29 ⟨Nat.le_of_ble_eq_true rfl, Nat.le_of_ble_eq_true rfl⟩ (fun H locs hW => ?_)
        have hW : kw D A s.heap (wM c a (pu φ 5 (kc (0))) δ) H locs := hW
        refine k_top (y := nI (mk (fun j => pb ((φ 0)) t j p) 12)) rfl ?_
        refine lv_goto (tgt := 36) S.1 S.2.1 dX3_chord_32 (by decide) ?_
        exact hret 36 _ _ _ _ _ dX3_chord_36 hW (rfl) (rfl)
