abbrev rmX3_copy : Room := { frames := 2, cells := 0, slots := 0, locals := 45 }
theorem pdX3_copy : kPd yX3_copy 4 := by decide +kernel
set_option maxHeartbeats 400000 in
set_option maxRecDepth 100000 in
theorem mX3_copy_x1 (l : Launch) (D : va_G) (c : Nat → ClassId) (a : Nat → Nat) (φ : Nat → Nat → Nat) (δ : Int64) (sz : Nat) (f : Int32) (t : Int32) (x : Int32) (y : Int32) (hin : (inb f (nI 0) (nI 2) && inb t (nI 0) (nI 2)) = false) : MI l yX3_copy wsX3_copy rmX3_copy D c sz (wM c a φ δ) [.ref (a 0), .int (f), .int (t), .int (x), .int (y)] (nI (0)) (wM c a (pu φ 5 (kc (1))) δ) := by
  refine MI.of (cc := cX3_copy) (maxL := 9) (ty := .int) (by decide) rfl (Nat.le_of_ble_eq_true rfl) rfl ?_
  intro P e s m below meth cd A Q ls hsz S hK hW hA hl hret
  have hl : lv_has ls 9 [(0, .ref (a 0)), (1, .int (f)), (2, .int (t)), (3, .int (x)), (4, .int (y))] := hl
  refine lv_iload_n S.1 S.2.1 dX3_copy_0 rfl (lv_at hl 1 rfl) ?_
  refine lv_iload_n S.1 S.2.1 dX3_copy_1 rfl (lv_at hl 2 rfl) ?_
  refine lv_icmp_eq (tgt := 32) S.1 S.2.1 dX3_copy_2 (by decide) (fun c_2 => ?_) (fun c_2 => ?_)
  · refine lv_iconst (v := nI (0)) S.1 S.2.1 dX3_copy_32 rfl ?_
    refine lv_istore (lv' := [(5, .int (nI (0))), (0, .ref (a 0)), (1, .int (f)), (2, .int (t)), (3, .int (x)), (4, .int (y))]) S.1 S.2.1 dX3_copy_33 hl (by decide) rfl (fun ls hl => ?_)
    refine lv_aload_n S.1 S.2.1 dX3_copy_35 rfl (lv_at hl 1 rfl) ?_
    refine lv_iload_n S.1 S.2.1 dX3_copy_36 rfl (lv_at hl 2 rfl) ?_
    refine k_SI (rest := [.ref (a 0)]) S hK hl.1 hW (KFr.nil hW hA) (mX3_isTune l D c  _ f) gX3_copy_X3_isTune rfl pdX3_isTune ⟨⟨rfl, rfl⟩, Nat.le_of_ble_eq_true rfl, Nat.le_of_ble_eq_true rfl⟩ rfl (Nat.le_of_ble_eq_true rfl) dX3_copy_37 ⟨Nat.le_of_ble_eq_true rfl, Nat.le_of_ble_eq_true rfl⟩ (fun H locs hW => ?_)
    have hW : kw D A s.heap (wM c a φ δ) H locs := hW
    refine kb_eq S (tgt := 50) dX3_copy_40 (by decide) (fun c_40 => ?_) (fun c_40 => ?_)
    · refine lv_iconst (v := nI (1)) S.1 S.2.1 dX3_copy_50 rfl ?_
      refine lv_goto (tgt := 64) S.1 S.2.1 dX3_copy_51 (by decide) ?_
      refine k_VI (rest := []) S hK hl.1 hW (KFr.all hW hA) (mX3_holds l D c a φ δ _ 1 (by first | omega | exact hw | assumption | (show 1 < 4; omega) | rfl)) gX3_copy_X3_holds rfl pdX3_holds ⟨⟨rfl, rfl⟩, Nat.le_of_ble_eq_true rfl, Nat.le_of_ble_eq_true rfl⟩ 0 3 rfl rfl rfl rfl (Nat.le_of_ble_eq_true rfl) dX3_copy_64 ⟨Nat.le_of_ble_eq_true rfl, Nat.le_of_ble_eq_true rfl⟩ (fun H locs hW => ?_)
      have hW : kw D A s.heap (wM c a (pu φ 5 (kc (1))) δ) H locs := hW
      refine kb_ne S (tgt := 72) dX3_copy_67 (by decide) (fun c_67 => ?_) (fun c_67 => ?_)
      · exact absurd c_67 (by decide)
      · refine lv_iconst (v := nI (0)) S.1 S.2.1 dX3_copy_70 rfl ?_
        exact hret 71 _ _ _ _ _ dX3_copy_71 hW (rfl) (rfl)
    · refine lv_iload_n S.1 S.2.1 dX3_copy_43 rfl (lv_at hl 3 rfl) ?_
      refine k_SI (rest := [.ref (a 0)]) S hK hl.1 hW (KFr.nil hW hA) (mX3_isTune l D c  _ t) gX3_copy_X3_isTune rfl pdX3_isTune ⟨⟨rfl, rfl⟩, Nat.le_of_ble_eq_true rfl, Nat.le_of_ble_eq_true rfl⟩ rfl (Nat.le_of_ble_eq_true rfl) dX3_copy_44 ⟨Nat.le_of_ble_eq_true rfl, Nat.le_of_ble_eq_true rfl⟩ (fun H locs hW => ?_)
      have hW : kw D A s.heap (wM c a φ δ) H locs := hW
      refine kb_ne S (tgt := 54) dX3_copy_47 (by decide) (fun c_47 => ?_) (fun c_47 => ?_)
      · exact absurd hin (by rw [c_40, c_47]; decide)
      · refine lv_iconst (v := nI (1)) S.1 S.2.1 dX3_copy_50 rfl ?_
        refine lv_goto (tgt := 64) S.1 S.2.1 dX3_copy_51 (by decide) ?_
        refine k_VI (rest := []) S hK hl.1 hW (KFr.all hW hA) (mX3_holds l D c a φ δ _ 1 (by first | omega | exact hw | assumption | (show 1 < 4; omega) | rfl)) gX3_copy_X3_holds rfl pdX3_holds ⟨⟨rfl, rfl⟩, Nat.le_of_ble_eq_true rfl, Nat.le_of_ble_eq_true rfl⟩ 0 3 rfl rfl rfl rfl (Nat.le_of_ble_eq_true rfl) dX3_copy_64 ⟨Nat.le_of_ble_eq_true rfl, Nat.le_of_ble_eq_true rfl⟩ (fun H locs hW => ?_)
        have hW : kw D A s.heap (wM c a (pu φ 5 (kc (1))) δ) H locs := hW
        refine kb_ne S (tgt := 72) dX3_copy_67 (by decide) (fun c_67 => ?_) (fun c_67 => ?_)
        · exact absurd c_67 (by decide)
        · refine lv_iconst (v := nI (0)) S.1 S.2.1 dX3_copy_70 rfl ?_
          exact hret 71 _ _ _ _ _ dX3_copy_71 hW (rfl) (rfl)
  · refine lv_iload_n S.1 S.2.1 dX3_copy_5 rfl (lv_at hl 3 rfl) ?_
    refine lv_bipush (v := nI (4294967265)) S.1 S.2.1 dX3_copy_6 rfl ?_
    refine lv_bipush (v := nI (31)) S.1 S.2.1 dX3_copy_8 rfl ?_
    refine k_SI (rest := []) S hK hl.1 hW (KFr.nil hW hA) (mX3_in l D c  _ x (nI (4294967265)) (nI (31))) gX3_copy_X3_in rfl pdX3_in ⟨⟨rfl, rfl⟩, Nat.le_of_ble_eq_true rfl, Nat.le_of_ble_eq_true rfl⟩ rfl (Nat.le_of_ble_eq_true rfl) dX3_copy_10 ⟨Nat.le_of_ble_eq_true rfl, Nat.le_of_ble_eq_true rfl⟩ (fun H locs hW => ?_)
    have hW : kw D A s.heap (wM c a φ δ) H locs := hW
    refine kb_eq S (tgt := 32) dX3_copy_13 (by decide) (fun c_13 => ?_) (fun c_13 => ?_)
    · refine lv_iconst (v := nI (0)) S.1 S.2.1 dX3_copy_32 rfl ?_
      refine lv_istore (lv' := [(5, .int (nI (0))), (0, .ref (a 0)), (1, .int (f)), (2, .int (t)), (3, .int (x)), (4, .int (y))]) S.1 S.2.1 dX3_copy_33 hl (by decide) rfl (fun ls hl => ?_)
      refine lv_aload_n S.1 S.2.1 dX3_copy_35 rfl (lv_at hl 1 rfl) ?_
      refine lv_iload_n S.1 S.2.1 dX3_copy_36 rfl (lv_at hl 2 rfl) ?_
      refine k_SI (rest := [.ref (a 0)]) S hK hl.1 hW (KFr.nil hW hA) (mX3_isTune l D c  _ f) gX3_copy_X3_isTune rfl pdX3_isTune ⟨⟨rfl, rfl⟩, Nat.le_of_ble_eq_true rfl, Nat.le_of_ble_eq_true rfl⟩ rfl (Nat.le_of_ble_eq_true rfl) dX3_copy_37 ⟨Nat.le_of_ble_eq_true rfl, Nat.le_of_ble_eq_true rfl⟩ (fun H locs hW => ?_)
      have hW : kw D A s.heap (wM c a φ δ) H locs := hW
      refine kb_eq S (tgt := 50) dX3_copy_40 (by decide) (fun c_40 => ?_) (fun c_40 => ?_)
      · refine lv_iconst (v := nI (1)) S.1 S.2.1 dX3_copy_50 rfl ?_
        refine lv_goto (tgt := 64) S.1 S.2.1 dX3_copy_51 (by decide) ?_
        refine k_VI (rest := []) S hK hl.1 hW (KFr.all hW hA) (mX3_holds l D c a φ δ _ 1 (by first | omega | exact hw | assumption | (show 1 < 4; omega) | rfl)) gX3_copy_X3_holds rfl pdX3_holds ⟨⟨rfl, rfl⟩, Nat.le_of_ble_eq_true rfl, Nat.le_of_ble_eq_true rfl⟩ 0 3 rfl rfl rfl rfl (Nat.le_of_ble_eq_true rfl) dX3_copy_64 ⟨Nat.le_of_ble_eq_true rfl, Nat.le_of_ble_eq_true rfl⟩ (fun H locs hW => ?_)
        have hW : kw D A s.heap (wM c a (pu φ 5 (kc (1))) δ) H locs := hW
        refine kb_ne S (tgt := 72) dX3_copy_67 (by decide) (fun c_67 => ?_) (fun c_67 => ?_)
        · exact absurd c_67 (by decide)
        · refine lv_iconst (v := nI (0)) S.1 S.2.1 dX3_copy_70 rfl ?_
          exact hret 71 _ _ _ _ _ dX3_copy_71 hW (rfl) (rfl)
      · refine lv_iload_n S.1 S.2.1 dX3_copy_43 rfl (lv_at hl 3 rfl) ?_
        refine k_SI (rest := [.ref (a 0)]) S hK hl.1 hW (KFr.nil hW hA) (mX3_isTune l D c  _ t) gX3_copy_X3_isTune rfl pdX3_isTune ⟨⟨rfl, rfl⟩, Nat.le_of_ble_eq_true rfl, Nat.le_of_ble_eq_true rfl⟩ rfl (Nat.le_of_ble_eq_true rfl) dX3_copy_44 ⟨Nat.le_of_ble_eq_true rfl, Nat.le_of_ble_eq_true rfl⟩ (fun H locs hW => ?_)
        have hW : kw D A s.heap (wM c a φ δ) H locs := hW
        refine kb_ne S (tgt := 54) dX3_copy_47 (by decide) (fun c_47 => ?_) (fun c_47 => ?_)
        · exact absurd hin (by rw [c_40, c_47]; decide)
        · refine lv_iconst (v := nI (1)) S.1 S.2.1 dX3_copy_50 rfl ?_
          refine lv_goto (tgt := 64) S.1 S.2.1 dX3_copy_51 (by decide) ?_
          refine k_VI (rest := []) S hK hl.1 hW (KFr.all hW hA) (mX3_holds l D c a φ δ _ 1 (by first | omega | exact hw | assumption | (show 1 < 4; omega) | rfl)) gX3_copy_X3_holds rfl pdX3_holds ⟨⟨rfl, rfl⟩, Nat.le_of_ble_eq_true rfl, Nat.le_of_ble_eq_true rfl⟩ 0 3 rfl rfl rfl rfl (Nat.le_of_ble_eq_true rfl) dX3_copy_64 ⟨Nat.le_of_ble_eq_true rfl, Nat.le_of_ble_eq_true rfl⟩ (fun H locs hW => ?_)
          have hW : kw D A s.heap (wM c a (pu φ 5 (kc (1))) δ) H locs := hW
          refine kb_ne S (tgt := 72) dX3_copy_67 (by decide) (fun c_67 => ?_) (fun c_67 => ?_)
          · exact absurd c_67 (by decide)
          · refine lv_iconst (v := nI (0)) S.1 S.2.1 dX3_copy_70 rfl ?_
            exact hret 71 _ _ _ _ _ dX3_copy_71 hW (rfl) (rfl)
    · refine lv_iload S.1 S.2.1 dX3_copy_16 (lv_at hl 4 rfl) ?_
      refine lv_bipush (v := nI (4294967285)) S.1 S.2.1 dX3_copy_18 rfl ?_
      refine lv_bipush (v := nI (11)) S.1 S.2.1 dX3_copy_20 rfl ?_
      refine k_SI (rest := []) S hK hl.1 hW (KFr.nil hW hA) (mX3_in l D c  _ y (nI (4294967285)) (nI (11))) gX3_copy_X3_in rfl pdX3_in ⟨⟨rfl, rfl⟩, Nat.le_of_ble_eq_true rfl, Nat.le_of_ble_eq_true rfl⟩ rfl (Nat.le_of_ble_eq_true rfl) dX3_copy_22 ⟨Nat.le_of_ble_eq_true rfl, Nat.le_of_ble_eq_true rfl⟩ (fun H locs hW => ?_)
      have hW : kw D A s.heap (wM c a φ δ) H locs := hW
      refine kb_eq S (tgt := 32) dX3_copy_25 (by decide) (fun c_25 => ?_) (fun c_25 => ?_)
      · refine lv_iconst (v := nI (0)) S.1 S.2.1 dX3_copy_32 rfl ?_
        refine lv_istore (lv' := [(5, .int (nI (0))), (0, .ref (a 0)), (1, .int (f)), (2, .int (t)), (3, .int (x)), (4, .int (y))]) S.1 S.2.1 dX3_copy_33 hl (by decide) rfl (fun ls hl => ?_)
        refine lv_aload_n S.1 S.2.1 dX3_copy_35 rfl (lv_at hl 1 rfl) ?_
        refine lv_iload_n S.1 S.2.1 dX3_copy_36 rfl (lv_at hl 2 rfl) ?_
        refine k_SI (rest := [.ref (a 0)]) S hK hl.1 hW (KFr.nil hW hA) (mX3_isTune l D c  _ f) gX3_copy_X3_isTune rfl pdX3_isTune ⟨⟨rfl, rfl⟩, Nat.le_of_ble_eq_true rfl, Nat.le_of_ble_eq_true rfl⟩ rfl (Nat.le_of_ble_eq_true rfl) dX3_copy_37 ⟨Nat.le_of_ble_eq_true rfl, Nat.le_of_ble_eq_true rfl⟩ (fun H locs hW => ?_)
        have hW : kw D A s.heap (wM c a φ δ) H locs := hW
        refine kb_eq S (tgt := 50) dX3_copy_40 (by decide) (fun c_40 => ?_) (fun c_40 => ?_)
        · refine lv_iconst (v := nI (1)) S.1 S.2.1 dX3_copy_50 rfl ?_
          refine lv_goto (tgt := 64) S.1 S.2.1 dX3_copy_51 (by decide) ?_
          refine k_VI (rest := []) S hK hl.1 hW (KFr.all hW hA) (mX3_holds l D c a φ δ _ 1 (by first | omega | exact hw | assumption | (show 1 < 4; omega) | rfl)) gX3_copy_X3_holds rfl pdX3_holds ⟨⟨rfl, rfl⟩, Nat.le_of_ble_eq_true rfl, Nat.le_of_ble_eq_true rfl⟩ 0 3 rfl rfl rfl rfl (Nat.le_of_ble_eq_true rfl) dX3_copy_64 ⟨Nat.le_of_ble_eq_true rfl, Nat.le_of_ble_eq_true rfl⟩ (fun H locs hW => ?_)
          have hW : kw D A s.heap (wM c a (pu φ 5 (kc (1))) δ) H locs := hW
          refine kb_ne S (tgt := 72) dX3_copy_67 (by decide) (fun c_67 => ?_) (fun c_67 => ?_)
          · exact absurd c_67 (by decide)
          · refine lv_iconst (v := nI (0)) S.1 S.2.1 dX3_copy_70 rfl ?_
            exact hret 71 _ _ _ _ _ dX3_copy_71 hW (rfl) (rfl)
        · refine lv_iload_n S.1 S.2.1 dX3_copy_43 rfl (lv_at hl 3 rfl) ?_
          refine k_SI (rest := [.ref (a 0)]) S hK hl.1 hW (KFr.nil hW hA) (mX3_isTune l D c  _ t) gX3_copy_X3_isTune rfl pdX3_isTune ⟨⟨rfl, rfl⟩, Nat.le_of_ble_eq_true rfl, Nat.le_of_ble_eq_true rfl⟩ rfl (Nat.le_of_ble_eq_true rfl) dX3_copy_44 ⟨Nat.le_of_ble_eq_true rfl, Nat.le_of_ble_eq_true rfl⟩ (fun H locs hW => ?_)
          have hW : kw D A s.heap (wM c a φ δ) H locs := hW
          refine kb_ne S (tgt := 54) dX3_copy_47 (by decide) (fun c_47 => ?_) (fun c_47 => ?_)
          · exact absurd hin (by rw [c_40, c_47]; decide)
          · refine lv_iconst (v := nI (1)) S.1 S.2.1 dX3_copy_50 rfl ?_
            refine lv_goto (tgt := 64) S.1 S.2.1 dX3_copy_51 (by decide) ?_
            refine k_VI (rest := []) S hK hl.1 hW (KFr.all hW hA) (mX3_holds l D c a φ δ _ 1 (by first | omega | exact hw | assumption | (show 1 < 4; omega) | rfl)) gX3_copy_X3_holds rfl pdX3_holds ⟨⟨rfl, rfl⟩, Nat.le_of_ble_eq_true rfl, Nat.le_of_ble_eq_true rfl⟩ 0 3 rfl rfl rfl rfl (Nat.le_of_ble_eq_true rfl) dX3_copy_64 ⟨Nat.le_of_ble_eq_true rfl, Nat.le_of_ble_eq_true rfl⟩ (fun H locs hW => ?_)
            have hW : kw D A s.heap (wM c a (pu φ 5 (kc (1))) δ) H locs := hW
            refine kb_ne S (tgt := 72) dX3_copy_67 (by decide) (fun c_67 => ?_) (fun c_67 => ?_)
            · exact absurd c_67 (by decide)
            · refine lv_iconst (v := nI (0)) S.1 S.2.1 dX3_copy_70 rfl ?_
              exact hret 71 _ _ _ _ _ dX3_copy_71 hW (rfl) (rfl)
      · refine lv_iconst (v := nI (1)) S.1 S.2.1 dX3_copy_28 rfl ?_
        refine lv_goto (tgt := 33) S.1 S.2.1 dX3_copy_29 (by decide) ?_
        refine lv_istore (lv' := [(5, .int (nI (1))), (0, .ref (a 0)), (1, .int (f)), (2, .int (t)), (3, .int (x)), (4, .int (y))]) S.1 S.2.1 dX3_copy_33 hl (by decide) rfl (fun ls hl => ?_)
        refine lv_aload_n S.1 S.2.1 dX3_copy_35 rfl (lv_at hl 1 rfl) ?_
        refine lv_iload_n S.1 S.2.1 dX3_copy_36 rfl (lv_at hl 2 rfl) ?_
        refine k_SI (rest := [.ref (a 0)]) S hK hl.1 hW (KFr.nil hW hA) (mX3_isTune l D c  _ f) gX3_copy_X3_isTune rfl pdX3_isTune ⟨⟨rfl, rfl⟩, Nat.le_of_ble_eq_true rfl, Nat.le_of_ble_eq_true rfl⟩ rfl (Nat.le_of_ble_eq_true rfl) dX3_copy_37 ⟨Nat.le_of_ble_eq_true rfl, Nat.le_of_ble_eq_true rfl⟩ (fun H locs hW => ?_)
        have hW : kw D A s.heap (wM c a φ δ) H locs := hW
        refine kb_eq S (tgt := 50) dX3_copy_40 (by decide) (fun c_40 => ?_) (fun c_40 => ?_)
        · refine lv_iconst (v := nI (1)) S.1 S.2.1 dX3_copy_50 rfl ?_
          refine lv_goto (tgt := 64) S.1 S.2.1 dX3_copy_51 (by decide) ?_
          refine k_VI (rest := []) S hK hl.1 hW (KFr.all hW hA) (mX3_holds l D c a φ δ _ 1 (by first | omega | exact hw | assumption | (show 1 < 4; omega) | rfl)) gX3_copy_X3_holds rfl pdX3_holds ⟨⟨rfl, rfl⟩, Nat.le_of_ble_eq_true rfl, Nat.le_of_ble_eq_true rfl⟩ 0 3 rfl rfl rfl rfl (Nat.le_of_ble_eq_true rfl) dX3_copy_64 ⟨Nat.le_of_ble_eq_true rfl, Nat.le_of_ble_eq_true rfl⟩ (fun H locs hW => ?_)
          have hW : kw D A s.heap (wM c a (pu φ 5 (kc (1))) δ) H locs := hW
          refine kb_ne S (tgt := 72) dX3_copy_67 (by decide) (fun c_67 => ?_) (fun c_67 => ?_)
          · exact absurd c_67 (by decide)
          · refine lv_iconst (v := nI (0)) S.1 S.2.1 dX3_copy_70 rfl ?_
            exact hret 71 _ _ _ _ _ dX3_copy_71 hW (rfl) (rfl)
        · refine lv_iload_n S.1 S.2.1 dX3_copy_43 rfl (lv_at hl 3 rfl) ?_
          refine k_SI (rest := [.ref (a 0)]) S hK hl.1 hW (KFr.nil hW hA) (mX3_isTune l D c  _ t) gX3_copy_X3_isTune rfl pdX3_isTune ⟨⟨rfl, rfl⟩, Nat.le_of_ble_eq_true rfl, Nat.le_of_ble_eq_true rfl⟩ rfl (Nat.le_of_ble_eq_true rfl) dX3_copy_44 ⟨Nat.le_of_ble_eq_true rfl, Nat.le_of_ble_eq_true rfl⟩ (fun H locs hW => ?_)
          have hW : kw D A s.heap (wM c a φ δ) H locs := hW
          refine kb_ne S (tgt := 54) dX3_copy_47 (by decide) (fun c_47 => ?_) (fun c_47 => ?_)
          · exact absurd hin (by rw [c_40, c_47]; decide)
          · refine lv_iconst (v := nI (1)) S.1 S.2.1 dX3_copy_50 rfl ?_
            refine lv_goto (tgt := 64) S.1 S.2.1 dX3_copy_51 (by decide) ?_
            refine k_VI (rest := []) S hK hl.1 hW (KFr.all hW hA) (mX3_holds l D c a φ δ _ 1 (by first | omega | exact hw | assumption | (show 1 < 4; omega) | rfl)) gX3_copy_X3_holds rfl pdX3_holds ⟨⟨rfl, rfl⟩, Nat.le_of_ble_eq_true rfl, Nat.le_of_ble_eq_true rfl⟩ 0 3 rfl rfl rfl rfl (Nat.le_of_ble_eq_true rfl) dX3_copy_64 ⟨Nat.le_of_ble_eq_true rfl, Nat.le_of_ble_eq_true rfl⟩ (fun H locs hW => ?_)
            have hW : kw D A s.heap (wM c a (pu φ 5 (kc (1))) δ) H locs := hW
            refine kb_ne S (tgt := 72) dX3_copy_67 (by decide) (fun c_67 => ?_) (fun c_67 => ?_)
            · exact absurd c_67 (by decide)
            · refine lv_iconst (v := nI (0)) S.1 S.2.1 dX3_copy_70 rfl ?_
              exact hret 71 _ _ _ _ _ dX3_copy_71 hW (rfl) (rfl)
set_option maxHeartbeats 400000 in
set_option maxRecDepth 100000 in
theorem mX3_copy_x2 (l : Launch) (D : va_G) (c : Nat → ClassId) (a : Nat → Nat) (φ : Nat → Nat → Nat) (δ : Int64) (sz : Nat) (f : Nat) (t : Nat) (x : Int32) (y : Int32) (hf : f < 3) (ht : t < 3) (hbad : f = t ∨ inb x (nI (4294967265)) (nI (31)) = false ∨ inb y (nI (4294967285)) (nI (11)) = false) : MI l yX3_copy wsX3_copy rmX3_copy D c sz (wM c a φ δ) [.ref (a 0), .int (nI (f)), .int (nI (t)), .int (x), .int (y)] (nI (0)) (wM c a (pu φ 5 (kc (2))) δ) := by
  refine MI.of (cc := cX3_copy) (maxL := 9) (ty := .int) (by decide) rfl (Nat.le_of_ble_eq_true rfl) rfl ?_
  intro P e s m below meth cd A Q ls hsz S hK hW hA hl hret
  have hl : lv_has ls 9 [(0, .ref (a 0)), (1, .int (nI (f))), (2, .int (nI (t))), (3, .int (x)), (4, .int (y))] := hl
  have hif : inb (nI (f)) (nI 0) (nI 2) = true := inb_t (Nat.zero_le f) (by omega) (by decide)
  have hit : inb (nI (t)) (nI 0) (nI 2) = true := inb_t (Nat.zero_le t) (by omega) (by decide)
  refine lv_iload_n S.1 S.2.1 dX3_copy_0 rfl (lv_at hl 1 rfl) ?_
  refine lv_iload_n S.1 S.2.1 dX3_copy_1 rfl (lv_at hl 2 rfl) ?_
  refine kn_eq S (tgt := 32) dX3_copy_2 (by decide) (by omega) (by omega) (fun c_2 => ?_) (fun c_2 => ?_)
  · refine lv_iconst (v := nI (0)) S.1 S.2.1 dX3_copy_32 rfl ?_
    refine lv_istore (lv' := [(5, .int (nI (0))), (0, .ref (a 0)), (1, .int (nI (f))), (2, .int (nI (t))), (3, .int (x)), (4, .int (y))]) S.1 S.2.1 dX3_copy_33 hl (by decide) rfl (fun ls hl => ?_)
    refine lv_aload_n S.1 S.2.1 dX3_copy_35 rfl (lv_at hl 1 rfl) ?_
    refine lv_iload_n S.1 S.2.1 dX3_copy_36 rfl (lv_at hl 2 rfl) ?_
    refine k_SI (rest := [.ref (a 0)]) S hK hl.1 hW (KFr.nil hW hA) (mX3_isTune l D c  _ (nI (f))) gX3_copy_X3_isTune rfl pdX3_isTune ⟨⟨rfl, rfl⟩, Nat.le_of_ble_eq_true rfl, Nat.le_of_ble_eq_true rfl⟩ rfl (Nat.le_of_ble_eq_true rfl) dX3_copy_37 ⟨Nat.le_of_ble_eq_true rfl, Nat.le_of_ble_eq_true rfl⟩ (fun H locs hW => ?_)
    have hW : kw D A s.heap (wM c a φ δ) H locs := hW
    refine kb_eq S (tgt := 50) dX3_copy_40 (by decide) (fun c_40 => ?_) (fun c_40 => ?_)
    · exact absurd (hif.symm.trans c_40) (by decide)
    · refine lv_iload_n S.1 S.2.1 dX3_copy_43 rfl (lv_at hl 3 rfl) ?_
      refine k_SI (rest := [.ref (a 0)]) S hK hl.1 hW (KFr.nil hW hA) (mX3_isTune l D c  _ (nI (t))) gX3_copy_X3_isTune rfl pdX3_isTune ⟨⟨rfl, rfl⟩, Nat.le_of_ble_eq_true rfl, Nat.le_of_ble_eq_true rfl⟩ rfl (Nat.le_of_ble_eq_true rfl) dX3_copy_44 ⟨Nat.le_of_ble_eq_true rfl, Nat.le_of_ble_eq_true rfl⟩ (fun H locs hW => ?_)
      have hW : kw D A s.heap (wM c a φ δ) H locs := hW
      refine kb_ne S (tgt := 54) dX3_copy_47 (by decide) (fun c_47 => ?_) (fun c_47 => ?_)
      · refine lv_iload S.1 S.2.1 dX3_copy_54 (lv_at hl 0 rfl) ?_
        refine kz_eq S (tgt := 63) dX3_copy_56 (by decide) (by omega) (fun c_56 => ?_) (fun c_56 => ?_)
        · refine lv_iconst (v := nI (2)) S.1 S.2.1 dX3_copy_63 rfl ?_
          refine k_VI (rest := []) S hK hl.1 hW (KFr.all hW hA) (mX3_holds l D c a φ δ _ 2 (by first | omega | exact hw | assumption | (show 2 < 4; omega) | rfl)) gX3_copy_X3_holds rfl pdX3_holds ⟨⟨rfl, rfl⟩, Nat.le_of_ble_eq_true rfl, Nat.le_of_ble_eq_true rfl⟩ 0 3 rfl rfl rfl rfl (Nat.le_of_ble_eq_true rfl) dX3_copy_64 ⟨Nat.le_of_ble_eq_true rfl, Nat.le_of_ble_eq_true rfl⟩ (fun H locs hW => ?_)
          have hW : kw D A s.heap (wM c a (pu φ 5 (kc (2))) δ) H locs := hW
          refine kb_ne S (tgt := 72) dX3_copy_67 (by decide) (fun c_67 => ?_) (fun c_67 => ?_)
          · exact absurd c_67 (by decide)
          · refine lv_iconst (v := nI (0)) S.1 S.2.1 dX3_copy_70 rfl ?_
            exact hret 71 _ _ _ _ _ dX3_copy_71 hW (rfl) (rfl)
        · exact absurd c_56 (by decide)
      · exact absurd (hit.symm.trans c_47) (by decide)
  · refine lv_iload_n S.1 S.2.1 dX3_copy_5 rfl (lv_at hl 3 rfl) ?_
    refine lv_bipush (v := nI (4294967265)) S.1 S.2.1 dX3_copy_6 rfl ?_
    refine lv_bipush (v := nI (31)) S.1 S.2.1 dX3_copy_8 rfl ?_
    refine k_SI (rest := []) S hK hl.1 hW (KFr.nil hW hA) (mX3_in l D c  _ x (nI (4294967265)) (nI (31))) gX3_copy_X3_in rfl pdX3_in ⟨⟨rfl, rfl⟩, Nat.le_of_ble_eq_true rfl, Nat.le_of_ble_eq_true rfl⟩ rfl (Nat.le_of_ble_eq_true rfl) dX3_copy_10 ⟨Nat.le_of_ble_eq_true rfl, Nat.le_of_ble_eq_true rfl⟩ (fun H locs hW => ?_)
    have hW : kw D A s.heap (wM c a φ δ) H locs := hW
    refine kb_eq S (tgt := 32) dX3_copy_13 (by decide) (fun c_13 => ?_) (fun c_13 => ?_)
    · refine lv_iconst (v := nI (0)) S.1 S.2.1 dX3_copy_32 rfl ?_
      refine lv_istore (lv' := [(5, .int (nI (0))), (0, .ref (a 0)), (1, .int (nI (f))), (2, .int (nI (t))), (3, .int (x)), (4, .int (y))]) S.1 S.2.1 dX3_copy_33 hl (by decide) rfl (fun ls hl => ?_)
      refine lv_aload_n S.1 S.2.1 dX3_copy_35 rfl (lv_at hl 1 rfl) ?_
      refine lv_iload_n S.1 S.2.1 dX3_copy_36 rfl (lv_at hl 2 rfl) ?_
      refine k_SI (rest := [.ref (a 0)]) S hK hl.1 hW (KFr.nil hW hA) (mX3_isTune l D c  _ (nI (f))) gX3_copy_X3_isTune rfl pdX3_isTune ⟨⟨rfl, rfl⟩, Nat.le_of_ble_eq_true rfl, Nat.le_of_ble_eq_true rfl⟩ rfl (Nat.le_of_ble_eq_true rfl) dX3_copy_37 ⟨Nat.le_of_ble_eq_true rfl, Nat.le_of_ble_eq_true rfl⟩ (fun H locs hW => ?_)
      have hW : kw D A s.heap (wM c a φ δ) H locs := hW
      refine kb_eq S (tgt := 50) dX3_copy_40 (by decide) (fun c_40 => ?_) (fun c_40 => ?_)
      · exact absurd (hif.symm.trans c_40) (by decide)
      · refine lv_iload_n S.1 S.2.1 dX3_copy_43 rfl (lv_at hl 3 rfl) ?_
        refine k_SI (rest := [.ref (a 0)]) S hK hl.1 hW (KFr.nil hW hA) (mX3_isTune l D c  _ (nI (t))) gX3_copy_X3_isTune rfl pdX3_isTune ⟨⟨rfl, rfl⟩, Nat.le_of_ble_eq_true rfl, Nat.le_of_ble_eq_true rfl⟩ rfl (Nat.le_of_ble_eq_true rfl) dX3_copy_44 ⟨Nat.le_of_ble_eq_true rfl, Nat.le_of_ble_eq_true rfl⟩ (fun H locs hW => ?_)
        have hW : kw D A s.heap (wM c a φ δ) H locs := hW
        refine kb_ne S (tgt := 54) dX3_copy_47 (by decide) (fun c_47 => ?_) (fun c_47 => ?_)
        · refine lv_iload S.1 S.2.1 dX3_copy_54 (lv_at hl 0 rfl) ?_
          refine kz_eq S (tgt := 63) dX3_copy_56 (by decide) (by omega) (fun c_56 => ?_) (fun c_56 => ?_)
          · refine lv_iconst (v := nI (2)) S.1 S.2.1 dX3_copy_63 rfl ?_
            refine k_VI (rest := []) S hK hl.1 hW (KFr.all hW hA) (mX3_holds l D c a φ δ _ 2 (by first | omega | exact hw | assumption | (show 2 < 4; omega) | rfl)) gX3_copy_X3_holds rfl pdX3_holds ⟨⟨rfl, rfl⟩, Nat.le_of_ble_eq_true rfl, Nat.le_of_ble_eq_true rfl⟩ 0 3 rfl rfl rfl rfl (Nat.le_of_ble_eq_true rfl) dX3_copy_64 ⟨Nat.le_of_ble_eq_true rfl, Nat.le_of_ble_eq_true rfl⟩ (fun H locs hW => ?_)
            have hW : kw D A s.heap (wM c a (pu φ 5 (kc (2))) δ) H locs := hW
            refine kb_ne S (tgt := 72) dX3_copy_67 (by decide) (fun c_67 => ?_) (fun c_67 => ?_)
            · exact absurd c_67 (by decide)
            · refine lv_iconst (v := nI (0)) S.1 S.2.1 dX3_copy_70 rfl ?_
              exact hret 71 _ _ _ _ _ dX3_copy_71 hW (rfl) (rfl)
          · exact absurd c_56 (by decide)
        · exact absurd (hit.symm.trans c_47) (by decide)
    · refine lv_iload S.1 S.2.1 dX3_copy_16 (lv_at hl 4 rfl) ?_
      refine lv_bipush (v := nI (4294967285)) S.1 S.2.1 dX3_copy_18 rfl ?_
      refine lv_bipush (v := nI (11)) S.1 S.2.1 dX3_copy_20 rfl ?_
      refine k_SI (rest := []) S hK hl.1 hW (KFr.nil hW hA) (mX3_in l D c  _ y (nI (4294967285)) (nI (11))) gX3_copy_X3_in rfl pdX3_in ⟨⟨rfl, rfl⟩, Nat.le_of_ble_eq_true rfl, Nat.le_of_ble_eq_true rfl⟩ rfl (Nat.le_of_ble_eq_true rfl) dX3_copy_22 ⟨Nat.le_of_ble_eq_true rfl, Nat.le_of_ble_eq_true rfl⟩ (fun H locs hW => ?_)
      have hW : kw D A s.heap (wM c a φ δ) H locs := hW
      refine kb_eq S (tgt := 32) dX3_copy_25 (by decide) (fun c_25 => ?_) (fun c_25 => ?_)
      · refine lv_iconst (v := nI (0)) S.1 S.2.1 dX3_copy_32 rfl ?_
        refine lv_istore (lv' := [(5, .int (nI (0))), (0, .ref (a 0)), (1, .int (nI (f))), (2, .int (nI (t))), (3, .int (x)), (4, .int (y))]) S.1 S.2.1 dX3_copy_33 hl (by decide) rfl (fun ls hl => ?_)
        refine lv_aload_n S.1 S.2.1 dX3_copy_35 rfl (lv_at hl 1 rfl) ?_
        refine lv_iload_n S.1 S.2.1 dX3_copy_36 rfl (lv_at hl 2 rfl) ?_
        refine k_SI (rest := [.ref (a 0)]) S hK hl.1 hW (KFr.nil hW hA) (mX3_isTune l D c  _ (nI (f))) gX3_copy_X3_isTune rfl pdX3_isTune ⟨⟨rfl, rfl⟩, Nat.le_of_ble_eq_true rfl, Nat.le_of_ble_eq_true rfl⟩ rfl (Nat.le_of_ble_eq_true rfl) dX3_copy_37 ⟨Nat.le_of_ble_eq_true rfl, Nat.le_of_ble_eq_true rfl⟩ (fun H locs hW => ?_)
        have hW : kw D A s.heap (wM c a φ δ) H locs := hW
        refine kb_eq S (tgt := 50) dX3_copy_40 (by decide) (fun c_40 => ?_) (fun c_40 => ?_)
        · exact absurd (hif.symm.trans c_40) (by decide)
        · refine lv_iload_n S.1 S.2.1 dX3_copy_43 rfl (lv_at hl 3 rfl) ?_
          refine k_SI (rest := [.ref (a 0)]) S hK hl.1 hW (KFr.nil hW hA) (mX3_isTune l D c  _ (nI (t))) gX3_copy_X3_isTune rfl pdX3_isTune ⟨⟨rfl, rfl⟩, Nat.le_of_ble_eq_true rfl, Nat.le_of_ble_eq_true rfl⟩ rfl (Nat.le_of_ble_eq_true rfl) dX3_copy_44 ⟨Nat.le_of_ble_eq_true rfl, Nat.le_of_ble_eq_true rfl⟩ (fun H locs hW => ?_)
          have hW : kw D A s.heap (wM c a φ δ) H locs := hW
          refine kb_ne S (tgt := 54) dX3_copy_47 (by decide) (fun c_47 => ?_) (fun c_47 => ?_)
          · refine lv_iload S.1 S.2.1 dX3_copy_54 (lv_at hl 0 rfl) ?_
            refine kz_eq S (tgt := 63) dX3_copy_56 (by decide) (by omega) (fun c_56 => ?_) (fun c_56 => ?_)
            · refine lv_iconst (v := nI (2)) S.1 S.2.1 dX3_copy_63 rfl ?_
              refine k_VI (rest := []) S hK hl.1 hW (KFr.all hW hA) (mX3_holds l D c a φ δ _ 2 (by first | omega | exact hw | assumption | (show 2 < 4; omega) | rfl)) gX3_copy_X3_holds rfl pdX3_holds ⟨⟨rfl, rfl⟩, Nat.le_of_ble_eq_true rfl, Nat.le_of_ble_eq_true rfl⟩ 0 3 rfl rfl rfl rfl (Nat.le_of_ble_eq_true rfl) dX3_copy_64 ⟨Nat.le_of_ble_eq_true rfl, Nat.le_of_ble_eq_true rfl⟩ (fun H locs hW => ?_)
              have hW : kw D A s.heap (wM c a (pu φ 5 (kc (2))) δ) H locs := hW
              refine kb_ne S (tgt := 72) dX3_copy_67 (by decide) (fun c_67 => ?_) (fun c_67 => ?_)
              · exact absurd c_67 (by decide)
              · refine lv_iconst (v := nI (0)) S.1 S.2.1 dX3_copy_70 rfl ?_
                exact hret 71 _ _ _ _ _ dX3_copy_71 hW (rfl) (rfl)
            · exact absurd c_56 (by decide)
          · exact absurd (hit.symm.trans c_47) (by decide)
      · exact absurd hbad (by rw [c_13, c_25]; simp [c_2])
set_option maxHeartbeats 400000 in
set_option maxRecDepth 100000 in
theorem mX3_copy_k (l : Launch) (D : va_G) (c : Nat → ClassId) (a : Nat → Nat) (φ : Nat → Nat → Nat) (δ : Int64) (sz : Nat) (f : Nat) (t : Nat) (u : Nat) (v : Nat) (hf : f < 3) (ht : t < 3) (hft : ¬ f = t) (hu1 : 1 ≤ u) (hu2 : u ≤ 63) (hv1 : 1 ≤ v) (hv2 : v ≤ 23) (hk : φ 6 0 ≤ 6) : MI l yX3_copy wsX3_copy rmX3_copy D c sz (wM c a φ δ) [.ref (a 0), .int (nI (f)), .int (nI (t)), .int (nI u - nI 32), .int (nI v - nI 12)] (nI (pins (cpl (clr (φ 0) t 12) f t u v 384) t)) (wM c a (pu (pu (pu (pu φ 2 (svf (φ 2) (φ 0) (φ 6 0))) 6 (kc (svn (φ 6 0)))) 5 (kc (0))) 0 (cpl (clr (φ 0) t 12) f t u v 384)) δ) := by
  refine MI.of (cc := cX3_copy) (maxL := 9) (ty := .int) (by decide) rfl (Nat.le_of_ble_eq_true rfl) rfl ?_
  intro P e s m below meth cd A Q ls hsz S hK hW hA hl hret
  have hl : lv_has ls 9 [(0, .ref (a 0)), (1, .int (nI (f))), (2, .int (nI (t))), (3, .int (nI u - nI 32)), (4, .int (nI v - nI 12))] := hl
  have hinX3 : ∀ w ∈ u_ws RX3 TX3 13, w ∈ wsX3_copy := by decide +kernel
  have hif : inb (nI (f)) (nI 0) (nI 2) = true := inb_t (Nat.zero_le f) (by omega) (by decide)
  have hit : inb (nI (t)) (nI 0) (nI 2) = true := inb_t (Nat.zero_le t) (by omega) (by decide)
  have hix : inb (nI u - nI 32) (nI (4294967265)) (nI (31)) = true := cp_ok32 hu1 hu2
  have hiy : inb (nI v - nI 12) (nI (4294967285)) (nI (11)) = true := cp_ok12 hv1 hv2
  refine lv_iload_n S.1 S.2.1 dX3_copy_0 rfl (lv_at hl 1 rfl) ?_
  refine lv_iload_n S.1 S.2.1 dX3_copy_1 rfl (lv_at hl 2 rfl) ?_
  refine kn_eq S (tgt := 32) dX3_copy_2 (by decide) (by omega) (by omega) (fun c_2 => ?_) (fun c_2 => ?_)
  · exact absurd c_2 hft
  · refine lv_iload_n S.1 S.2.1 dX3_copy_5 rfl (lv_at hl 3 rfl) ?_
    refine lv_bipush (v := nI (4294967265)) S.1 S.2.1 dX3_copy_6 rfl ?_
    refine lv_bipush (v := nI (31)) S.1 S.2.1 dX3_copy_8 rfl ?_
    refine k_SI (rest := []) S hK hl.1 hW (KFr.nil hW hA) (mX3_in l D c  _ (nI u - nI 32) (nI (4294967265)) (nI (31))) gX3_copy_X3_in rfl pdX3_in ⟨⟨rfl, rfl⟩, Nat.le_of_ble_eq_true rfl, Nat.le_of_ble_eq_true rfl⟩ rfl (Nat.le_of_ble_eq_true rfl) dX3_copy_10 ⟨Nat.le_of_ble_eq_true rfl, Nat.le_of_ble_eq_true rfl⟩ (fun H locs hW => ?_)
    have hW : kw D A s.heap (wM c a φ δ) H locs := hW
    refine kb_eq S (tgt := 32) dX3_copy_13 (by decide) (fun c_13 => ?_) (fun c_13 => ?_)
    · exact absurd (hix.symm.trans c_13) (by decide)
    · refine lv_iload S.1 S.2.1 dX3_copy_16 (lv_at hl 4 rfl) ?_
      refine lv_bipush (v := nI (4294967285)) S.1 S.2.1 dX3_copy_18 rfl ?_
      refine lv_bipush (v := nI (11)) S.1 S.2.1 dX3_copy_20 rfl ?_
      refine k_SI (rest := []) S hK hl.1 hW (KFr.nil hW hA) (mX3_in l D c  _ (nI v - nI 12) (nI (4294967285)) (nI (11))) gX3_copy_X3_in rfl pdX3_in ⟨⟨rfl, rfl⟩, Nat.le_of_ble_eq_true rfl, Nat.le_of_ble_eq_true rfl⟩ rfl (Nat.le_of_ble_eq_true rfl) dX3_copy_22 ⟨Nat.le_of_ble_eq_true rfl, Nat.le_of_ble_eq_true rfl⟩ (fun H locs hW => ?_)
      have hW : kw D A s.heap (wM c a φ δ) H locs := hW
      refine kb_eq S (tgt := 32) dX3_copy_25 (by decide) (fun c_25 => ?_) (fun c_25 => ?_)
      · exact absurd (hiy.symm.trans c_25) (by decide)
      · refine lv_iconst (v := nI (1)) S.1 S.2.1 dX3_copy_28 rfl ?_
        refine lv_goto (tgt := 33) S.1 S.2.1 dX3_copy_29 (by decide) ?_
        refine lv_istore (lv' := [(5, .int (nI (1))), (0, .ref (a 0)), (1, .int (nI (f))), (2, .int (nI (t))), (3, .int (nI u - nI 32)), (4, .int (nI v - nI 12))]) S.1 S.2.1 dX3_copy_33 hl (by decide) rfl (fun ls hl => ?_)
        refine lv_aload_n S.1 S.2.1 dX3_copy_35 rfl (lv_at hl 1 rfl) ?_
        refine lv_iload_n S.1 S.2.1 dX3_copy_36 rfl (lv_at hl 2 rfl) ?_
        refine k_SI (rest := [.ref (a 0)]) S hK hl.1 hW (KFr.nil hW hA) (mX3_isTune l D c  _ (nI (f))) gX3_copy_X3_isTune rfl pdX3_isTune ⟨⟨rfl, rfl⟩, Nat.le_of_ble_eq_true rfl, Nat.le_of_ble_eq_true rfl⟩ rfl (Nat.le_of_ble_eq_true rfl) dX3_copy_37 ⟨Nat.le_of_ble_eq_true rfl, Nat.le_of_ble_eq_true rfl⟩ (fun H locs hW => ?_)
        have hW : kw D A s.heap (wM c a φ δ) H locs := hW
        refine kb_eq S (tgt := 50) dX3_copy_40 (by decide) (fun c_40 => ?_) (fun c_40 => ?_)
        · exact absurd (hif.symm.trans c_40) (by decide)
        · refine lv_iload_n S.1 S.2.1 dX3_copy_43 rfl (lv_at hl 3 rfl) ?_
          refine k_SI (rest := [.ref (a 0)]) S hK hl.1 hW (KFr.nil hW hA) (mX3_isTune l D c  _ (nI (t))) gX3_copy_X3_isTune rfl pdX3_isTune ⟨⟨rfl, rfl⟩, Nat.le_of_ble_eq_true rfl, Nat.le_of_ble_eq_true rfl⟩ rfl (Nat.le_of_ble_eq_true rfl) dX3_copy_44 ⟨Nat.le_of_ble_eq_true rfl, Nat.le_of_ble_eq_true rfl⟩ (fun H locs hW => ?_)
          have hW : kw D A s.heap (wM c a φ δ) H locs := hW
          refine kb_ne S (tgt := 54) dX3_copy_47 (by decide) (fun c_47 => ?_) (fun c_47 => ?_)
          · refine lv_iload S.1 S.2.1 dX3_copy_54 (lv_at hl 0 rfl) ?_
            refine kz_eq S (tgt := 63) dX3_copy_56 (by decide) (by omega) (fun c_56 => ?_) (fun c_56 => ?_)
            · exact absurd c_56 (by decide)
            · refine lv_iconst (v := nI (0)) S.1 S.2.1 dX3_copy_59 rfl ?_
              refine lv_goto (tgt := 64) S.1 S.2.1 dX3_copy_60 (by decide) ?_
              refine k_VI (rest := []) S hK hl.1 hW (KFr.all hW hA) (mX3_holds l D c a φ δ _ 0 (by first | omega | exact hw | assumption | (show 0 < 4; omega) | rfl)) gX3_copy_X3_holds rfl pdX3_holds ⟨⟨rfl, rfl⟩, Nat.le_of_ble_eq_true rfl, Nat.le_of_ble_eq_true rfl⟩ 0 3 rfl rfl rfl rfl (Nat.le_of_ble_eq_true rfl) dX3_copy_64 ⟨Nat.le_of_ble_eq_true rfl, Nat.le_of_ble_eq_true rfl⟩ (fun H locs hW => ?_)
              have hW : kw D A s.heap (wM c a (pu φ 5 (kc (0))) δ) H locs := hW
              refine kb_ne S (tgt := 72) dX3_copy_67 (by decide) (fun c_67 => ?_) (fun c_67 => ?_)
              · refine lv_aload_n S.1 S.2.1 dX3_copy_72 rfl (lv_at hl 1 rfl) ?_
                refine k_VV (rest := []) S hK hl.1 hW (KFr.all hW hA) (mX3_save l D c a ((pu φ 5 (kc (0)))) δ _ (by first | omega | exact hk | assumption | (show (φ 6 0) ≤ 6; omega) | rfl)) gX3_copy_X3_save rfl pdX3_save ⟨⟨rfl, rfl⟩, Nat.le_of_ble_eq_true rfl, Nat.le_of_ble_eq_true rfl⟩ 0 3 rfl rfl rfl rfl (Nat.le_of_ble_eq_true rfl) dX3_copy_73 ⟨Nat.le_of_ble_eq_true rfl, Nat.le_of_ble_eq_true rfl⟩ (fun H locs hW => ?_)
                have hW : kw D A s.heap (wM c a (pu (pu (pu φ 5 (kc (0))) 2 (svf ((φ 2)) ((φ 0)) ((φ 6 0)))) 6 (kc (svn ((φ 6 0))))) δ) H locs := hW
                refine lv_iconst (v := nI (0)) S.1 S.2.1 dX3_copy_76 rfl ?_
                refine lv_istore (lv' := [(6, .int (nI (0))), (5, .int (nI (1))), (0, .ref (a 0)), (1, .int (nI (f))), (2, .int (nI (t))), (3, .int (nI u - nI 32)), (4, .int (nI v - nI 12))]) S.1 S.2.1 dX3_copy_77 hl (by decide) rfl (fun ls hl => ?_)
                have hW : kw D A s.heap (wM c a (pu (pu (pu (pu φ 5 (kc (0))) 2 (svf ((φ 2)) ((φ 0)) ((φ 6 0)))) 6 (kc (svn ((φ 6 0))))) 0 (clr (φ 0) t 0)) δ) H locs := by exact hW
                refine k_loop (fun (zz : Nat) H lo ls => match zz with | k => kw D A s.heap (wM c a (pu (pu (pu (pu φ 5 (kc (0))) 2 (svf ((φ 2)) ((φ 0)) ((φ 6 0)))) 6 (kc (svn ((φ 6 0))))) 0 (clr (φ 0) t k)) δ) H lo ∧ lv_has ls 9 [(0, .ref (a 0)), (1, .int (nI (f))), (2, .int (nI (t))), (3, .int (nI u - nI 32)), (4, .int (nI v - nI 12)), (5, .int (nI (1))), (6, .int (nI (k)))] ∧ k ≤ 12) (fun (zz : Nat) => match zz with | k => 12 - k) [] ?_ 0 _ _ _ ⟨hW, lv_sub hl [2, 3, 4, 5, 6, 1, 0] rfl, (by decide)⟩
                rintro k ih79 H locs ls ⟨hW, hl, hi79_0⟩
                refine lv_iload S.1 S.2.1 dX3_copy_79 (lv_at hl 6 rfl) ?_
                refine lv_bipush (v := nI (12)) S.1 S.2.1 dX3_copy_81 rfl ?_
                refine kn_ge S (tgt := 104) dX3_copy_83 (by decide) (by omega) (by omega) (fun c_83 => ?_) (fun c_83 => ?_)
                · have e9 : k = 12 := by omega
                  subst e9
                  refine lv_iconst (v := nI (0)) S.1 S.2.1 dX3_copy_104 rfl ?_
                  refine lv_istore (lv' := [(6, .int (nI (0))), (0, .ref (a 0)), (1, .int (nI (f))), (2, .int (nI (t))), (3, .int (nI u - nI 32)), (4, .int (nI v - nI 12)), (5, .int (nI (1)))]) S.1 S.2.1 dX3_copy_105 hl (by decide) rfl (fun ls hl => ?_)
                  have hW : kw D A s.heap (wM c a (pu (pu (pu (pu φ 5 (kc (0))) 2 (svf ((φ 2)) ((φ 0)) ((φ 6 0)))) 6 (kc (svn ((φ 6 0))))) 0 (cpl (clr (φ 0) t 12) f t u v 0)) δ) H locs := by exact hW
                  refine k_loop (fun (zz : Nat) H lo ls => match zz with | k => kw D A s.heap (wM c a (pu (pu (pu (pu φ 5 (kc (0))) 2 (svf ((φ 2)) ((φ 0)) ((φ 6 0)))) 6 (kc (svn ((φ 6 0))))) 0 (cpl (clr (φ 0) t 12) f t u v k)) δ) H lo ∧ lv_has ls 9 [(0, .ref (a 0)), (1, .int (nI (f))), (2, .int (nI (t))), (3, .int (nI u - nI 32)), (4, .int (nI v - nI 12)), (6, .int (nI (k)))] ∧ k ≤ 384) (fun (zz : Nat) => match zz with | k => 384 - k) [] ?_ 0 _ _ _ ⟨hW, lv_sub hl [1, 2, 3, 4, 5, 0] rfl, (by decide)⟩
                  rintro k ih107 H locs ls ⟨hW, hl, hi107_0⟩
                  refine lv_iload S.1 S.2.1 dX3_copy_107 (lv_at hl 5 rfl) ?_
                  refine lv_sipush (v := nI (384)) S.1 S.2.1 dX3_copy_109 rfl ?_
                  refine kn_ge S (tgt := 198) dX3_copy_112 (by decide) (by omega) (by omega) (fun c_112 => ?_) (fun c_112 => ?_)
                  · have e9 : k = 384 := by omega
                    subst e9
                    refine lv_aload_n S.1 S.2.1 dX3_copy_198 rfl (lv_at hl 0 rfl) ?_
                    refine lv_iload_n S.1 S.2.1 dX3_copy_199 rfl (lv_at hl 2 rfl) ?_
                    refine k_VI (rest := []) S hK hl.1 hW (KFr.all hW hA) (mX3_pinsOf l D c a ((pu (pu (pu (pu φ 5 (kc (0))) 2 (svf ((φ 2)) ((φ 0)) ((φ 6 0)))) 6 (kc (svn ((φ 6 0))))) 0 (cpl (clr (φ 0) t 12) f t u v 384))) δ _ t (by first | omega | exact ht | assumption | (show t < 3; omega) | rfl)) gX3_copy_X3_pinsOf rfl pdX3_pinsOf ⟨⟨rfl, rfl⟩, Nat.le_of_ble_eq_true rfl, Nat.le_of_ble_eq_true rfl⟩ 0 3 rfl rfl rfl rfl (Nat.le_of_ble_eq_true rfl) dX3_copy_200 ⟨Nat.le_of_ble_eq_true rfl, Nat.le_of_ble_eq_true rfl⟩ (fun H locs hW => ?_)
                    have hW : kw D A s.heap (wM c a (pu (pu (pu (pu φ 5 (kc (0))) 2 (svf ((φ 2)) ((φ 0)) ((φ 6 0)))) 6 (kc (svn ((φ 6 0))))) 0 (cpl (clr (φ 0) t 12) f t u v 384)) δ) H locs := hW
                    refine k_top (y := nI (pins ((cpl (clr (φ 0) t 12) f t u v 384)) t)) rfl ?_
                    exact hret 203 _ _ _ _ _ dX3_copy_203 hW (rfl) (rfl)
                  · refine lv_iload S.1 S.2.1 dX3_copy_115 (lv_at hl 5 rfl) ?_
                    refine lv_bipush (v := nI (32)) S.1 S.2.1 dX3_copy_117 rfl ?_
                    refine kn_idiv S dX3_copy_119 (by omega) (by omega) (by omega) ?_
                    refine lv_iload S.1 S.2.1 dX3_copy_120 (lv_at hl 4 rfl) ?_
                    refine lv_iadd S.1 S.2.1 dX3_copy_122 ?_
                    refine lv_istore (lv' := [(7, .int ((nI (k / 32)) + (nI v - nI 12))), (0, .ref (a 0)), (1, .int (nI (f))), (2, .int (nI (t))), (3, .int (nI u - nI 32)), (4, .int (nI v - nI 12)), (6, .int (nI (k)))]) S.1 S.2.1 dX3_copy_123 hl (by decide) rfl (fun ls hl => ?_)
                    refine lv_aload_n S.1 S.2.1 dX3_copy_125 rfl (lv_at hl 1 rfl) ?_
                    refine lv_iload_n S.1 S.2.1 dX3_copy_126 rfl (lv_at hl 2 rfl) ?_
                    refine lv_iload S.1 S.2.1 dX3_copy_127 (lv_at hl 6 rfl) ?_
                    refine lv_bipush (v := nI (32)) S.1 S.2.1 dX3_copy_129 rfl ?_
                    refine kn_idiv S dX3_copy_131 (by omega) (by omega) (by omega) ?_
                    refine lv_iload S.1 S.2.1 dX3_copy_132 (lv_at hl 6 rfl) ?_
                    refine lv_bipush (v := nI (32)) S.1 S.2.1 dX3_copy_134 rfl ?_
                    refine kn_irem S dX3_copy_136 (by omega) (by omega) (by omega) ?_
                    refine k_VI (rest := []) S hK hl.1 hW (KFr.all hW hA) (mX3_isPin l D c a ((pu (pu (pu (pu φ 5 (kc (0))) 2 (svf ((φ 2)) ((φ 0)) ((φ 6 0)))) 6 (kc (svn ((φ 6 0))))) 0 (cpl (clr (φ 0) t 12) f t u v k))) δ _ f (k / 32) (k % 32) (by first | omega | exact ht | assumption | (show f < 3; omega) | rfl) (by first | omega | exact hj | assumption | (show (k / 32) < 12; omega) | rfl) (by first | omega | exact hp | assumption | (show (k % 32) < 32; omega) | rfl)) gX3_copy_X3_isPin rfl pdX3_isPin ⟨⟨rfl, rfl⟩, Nat.le_of_ble_eq_true rfl, Nat.le_of_ble_eq_true rfl⟩ 0 3 rfl rfl rfl rfl (Nat.le_of_ble_eq_true rfl) dX3_copy_137 ⟨Nat.le_of_ble_eq_true rfl, Nat.le_of_ble_eq_true rfl⟩ (fun H locs hW => ?_)
                    have hW : kw D A s.heap (wM c a (pu (pu (pu (pu φ 5 (kc (0))) 2 (svf ((φ 2)) ((φ 0)) ((φ 6 0)))) 6 (kc (svn ((φ 6 0))))) 0 (cpl (clr (φ 0) t 12) f t u v k)) δ) H locs := hW
                    refine k_top (y := nI ((pb ((cpl (clr (φ 0) t 12) f t u v k)) f (k / 32) (k % 32)).toNat)) rfl ?_
                    refine kb_eq S (tgt := 155) dX3_copy_140 (by decide) (fun c_140 => ?_) (fun c_140 => ?_)
                    · refine lv_iconst (v := nI (0)) S.1 S.2.1 dX3_copy_155 rfl ?_
                      refine lv_istore (lv' := [(8, .int (nI (0))), (7, .int ((nI (k / 32)) + (nI v - nI 12))), (0, .ref (a 0)), (1, .int (nI (f))), (2, .int (nI (t))), (3, .int (nI u - nI 32)), (4, .int (nI v - nI 12)), (6, .int (nI (k)))]) S.1 S.2.1 dX3_copy_156 hl (by decide) rfl (fun ls hl => ?_)
                      refine lv_iload S.1 S.2.1 dX3_copy_158 (lv_at hl 0 rfl) ?_
                      refine kz_eq S (tgt := 192) dX3_copy_160 (by decide) (by omega) (fun c_160 => ?_) (fun c_160 => ?_)
                      · have hW : kw D A s.heap (wM c a (pu (pu (pu (pu φ 5 (kc (0))) 2 (svf ((φ 2)) ((φ 0)) ((φ 6 0)))) 6 (kc (svn ((φ 6 0))))) 0 (cpl (clr (φ 0) t 12) f t u v (k + 1))) δ) H locs := by first | (rw [cpl_t c_140 q1 q2]; exact hW) | (rw [cpl_f (fun q => by rw [c_140] at q; exact absurd q.1 (by decide))]; exact hW) | (rw [cpl_f (fun q => q0 q.2)]; exact hW)
                        refine lv_iinc (v := nI (k + 1)) (lv' := [(6, .int (nI (k + 1))), (8, .int (nI (0))), (7, .int ((nI (k / 32)) + (nI v - nI 12))), (0, .ref (a 0)), (1, .int (nI (f))), (2, .int (nI (t))), (3, .int (nI u - nI 32)), (4, .int (nI v - nI 12))]) S.1 S.2.1 dX3_copy_192 hl (k := 7) rfl (nI_add _ _) (by decide) rfl (fun ls hl => ?_)
                        refine lv_goto (tgt := 107) S.1 S.2.1 dX3_copy_195 (by decide) ?_
                        exact ih107 (k + 1) _ _ _ ⟨hW, lv_sub hl [3, 4, 5, 6, 7, 0] rfl, (by omega)⟩ (by show 384 - (k + 1) < 384 - k; omega)
                      · exact absurd c_160 (by decide)
                    · refine lv_iload S.1 S.2.1 dX3_copy_143 (lv_at hl 0 rfl) ?_
                      refine k_SI (rest := []) S hK hl.1 hW (KFr.nil hW hA) (mX3_isTooth l D c  _ ((nI (k / 32)) + (nI v - nI 12))) gX3_copy_X3_isTooth rfl pdX3_isTooth ⟨⟨rfl, rfl⟩, Nat.le_of_ble_eq_true rfl, Nat.le_of_ble_eq_true rfl⟩ rfl (Nat.le_of_ble_eq_true rfl) dX3_copy_145 ⟨Nat.le_of_ble_eq_true rfl, Nat.le_of_ble_eq_true rfl⟩ (fun H locs hW => ?_)
                      have hW : kw D A s.heap (wM c a (pu (pu (pu (pu φ 5 (kc (0))) 2 (svf ((φ 2)) ((φ 0)) ((φ 6 0)))) 6 (kc (svn ((φ 6 0))))) 0 (cpl (clr (φ 0) t 12) f t u v k)) δ) H locs := hW
                      refine kb_eq S (tgt := 155) dX3_copy_148 (by decide) (fun c_148 => ?_) (fun c_148 => ?_)
                      · have q0 := cp_out (a := k / 32) (v := v) (by omega) (by omega) c_148
                        refine lv_iconst (v := nI (0)) S.1 S.2.1 dX3_copy_155 rfl ?_
                        refine lv_istore (lv' := [(8, .int (nI (0))), (7, .int ((nI (k / 32)) + (nI v - nI 12))), (0, .ref (a 0)), (1, .int (nI (f))), (2, .int (nI (t))), (3, .int (nI u - nI 32)), (4, .int (nI v - nI 12)), (6, .int (nI (k)))]) S.1 S.2.1 dX3_copy_156 hl (by decide) rfl (fun ls hl => ?_)
                        refine lv_iload S.1 S.2.1 dX3_copy_158 (lv_at hl 0 rfl) ?_
                        refine kz_eq S (tgt := 192) dX3_copy_160 (by decide) (by omega) (fun c_160 => ?_) (fun c_160 => ?_)
                        · have hW : kw D A s.heap (wM c a (pu (pu (pu (pu φ 5 (kc (0))) 2 (svf ((φ 2)) ((φ 0)) ((φ 6 0)))) 6 (kc (svn ((φ 6 0))))) 0 (cpl (clr (φ 0) t 12) f t u v (k + 1))) δ) H locs := by first | (rw [cpl_t c_140 q1 q2]; exact hW) | (rw [cpl_f (fun q => by rw [c_140] at q; exact absurd q.1 (by decide))]; exact hW) | (rw [cpl_f (fun q => q0 q.2)]; exact hW)
                          refine lv_iinc (v := nI (k + 1)) (lv' := [(6, .int (nI (k + 1))), (8, .int (nI (0))), (7, .int ((nI (k / 32)) + (nI v - nI 12))), (0, .ref (a 0)), (1, .int (nI (f))), (2, .int (nI (t))), (3, .int (nI u - nI 32)), (4, .int (nI v - nI 12))]) S.1 S.2.1 dX3_copy_192 hl (k := 7) rfl (nI_add _ _) (by decide) rfl (fun ls hl => ?_)
                          refine lv_goto (tgt := 107) S.1 S.2.1 dX3_copy_195 (by decide) ?_
                          exact ih107 (k + 1) _ _ _ ⟨hW, lv_sub hl [3, 4, 5, 6, 7, 0] rfl, (by omega)⟩ (by show 384 - (k + 1) < 384 - k; omega)
                        · exact absurd c_160 (by decide)
                      · obtain ⟨q1, q2, q3⟩ := cp_in (a := k / 32) (v := v) (by omega) (by omega) c_148
                        have hcp : True := trivial
                        refine lv_iconst (v := nI (1)) S.1 S.2.1 dX3_copy_151 rfl ?_
                        refine lv_goto (tgt := 156) S.1 S.2.1 dX3_copy_152 (by decide) ?_
                        refine lv_istore (lv' := [(8, .int (nI (1))), (7, .int ((nI (k / 32)) + (nI v - nI 12))), (0, .ref (a 0)), (1, .int (nI (f))), (2, .int (nI (t))), (3, .int (nI u - nI 32)), (4, .int (nI v - nI 12)), (6, .int (nI (k)))]) S.1 S.2.1 dX3_copy_156 hl (by decide) rfl (fun ls hl => ?_)
                        refine lv_iload S.1 S.2.1 dX3_copy_158 (lv_at hl 0 rfl) ?_
                        refine kz_eq S (tgt := 192) dX3_copy_160 (by decide) (by omega) (fun c_160 => ?_) (fun c_160 => ?_)
                        · exact absurd c_160 (by decide)
                        · refine lv_aload_n S.1 S.2.1 dX3_copy_163 rfl (lv_at hl 2 rfl) ?_
                          refine kx_get S hK hW hinX3 0 3 rfl rfl 1 (by decide) (List.mem_of_getElem? (i := 1) rfl) (v := .ref (a 1)) rfl dX3_copy_164 ?_
                          refine lv_iload_n S.1 S.2.1 dX3_copy_167 rfl (lv_at hl 4 rfl) ?_
                          refine lv_iload S.1 S.2.1 dX3_copy_168 (lv_at hl 1 rfl) ?_
                          refine k_top (y := nI (k / 32 + v - 12)) (q3) ?_
                          refine k_SI (rest := [.ref (a 1)]) S hK hl.1 hW (KFr.nil hW hA) (mX3_ofPins l D c  _ t (k / 32 + v - 12)) gX3_copy_X3_ofPins rfl pdX3_ofPins ⟨⟨rfl, rfl⟩, Nat.le_of_ble_eq_true rfl, Nat.le_of_ble_eq_true rfl⟩ rfl (Nat.le_of_ble_eq_true rfl) dX3_copy_170 ⟨Nat.le_of_ble_eq_true rfl, Nat.le_of_ble_eq_true rfl⟩ (fun H locs hW => ?_)
                          have hW : kw D A s.heap (wM c a (pu (pu (pu (pu φ 5 (kc (0))) 2 (svf ((φ 2)) ((φ 0)) ((φ 6 0)))) 6 (kc (svn ((φ 6 0))))) 0 (cpl (clr (φ 0) t 12) f t u v k)) δ) H locs := hW
                          refine lv_dup2_11 S.1 S.2.1 dX3_copy_173 rfl rfl ?_
                          refine kn_ald S hK hW 1 (f := cpl (clr (φ 0) t 12) f t u v k) rfl (by omega) (by decide) dX3_copy_174 ?_
                          refine lv_iconst (v := nI (1)) S.1 S.2.1 dX3_copy_175 rfl ?_
                          refine lv_iload S.1 S.2.1 dX3_copy_176 (lv_at hl 7 rfl) ?_
                          refine lv_bipush (v := nI (32)) S.1 S.2.1 dX3_copy_178 rfl ?_
                          refine kn_irem S dX3_copy_180 (by omega) (by omega) (by omega) ?_
                          refine lv_iload_n S.1 S.2.1 dX3_copy_181 rfl (lv_at hl 5 rfl) ?_
                          refine lv_iadd S.1 S.2.1 dX3_copy_182 ?_
                          refine lv_bipush (v := nI (32)) S.1 S.2.1 dX3_copy_183 rfl ?_
                          refine lv_iadd S.1 S.2.1 dX3_copy_185 ?_
                          refine k_top (y := nI (k % 32 + u)) (cp_st _ _) ?_
                          refine lv_bipush (v := nI (32)) S.1 S.2.1 dX3_copy_186 rfl ?_
                          refine kn_irem S dX3_copy_188 (by omega) (by omega) (by omega) ?_
                          refine kn_shl1 S dX3_copy_189 (by omega) ?_
                          refine kn_ior S dX3_copy_190 ?_
                          refine kn_ast S hK hW 1 (f := cpl (clr (φ 0) t 12) f t u v k) rfl (by omega) (by decide) dX3_copy_191 (fun H locs hW => ?_)
                          have hW : kw D A s.heap (wM c a (pu (pu (pu (pu φ 5 (kc (0))) 2 (svf ((φ 2)) ((φ 0)) ((φ 6 0)))) 6 (kc (svn ((φ 6 0))))) 0 (fu (cpl (clr (φ 0) t 12) f t u v k) (12 * t + (k / 32 + v - 12)) (((cpl (clr (φ 0) t 12) f t u v k) (12 * t + (k / 32 + v - 12))) ||| (2 ^ ((k % 32 + u) % 32))))) δ) H locs := hW
                          have hW : kw D A s.heap (wM c a (pu (pu (pu (pu φ 5 (kc (0))) 2 (svf ((φ 2)) ((φ 0)) ((φ 6 0)))) 6 (kc (svn ((φ 6 0))))) 0 (cpl (clr (φ 0) t 12) f t u v (k + 1))) δ) H locs := by first | (rw [cpl_t c_140 q1 q2]; exact hW) | (rw [cpl_f (fun q => by rw [c_140] at q; exact absurd q.1 (by decide))]; exact hW) | (rw [cpl_f (fun q => q0 q.2)]; exact hW)
                          refine lv_iinc (v := nI (k + 1)) (lv' := [(6, .int (nI (k + 1))), (8, .int (nI (1))), (7, .int ((nI (k / 32)) + (nI v - nI 12))), (0, .ref (a 0)), (1, .int (nI (f))), (2, .int (nI (t))), (3, .int (nI u - nI 32)), (4, .int (nI v - nI 12))]) S.1 S.2.1 dX3_copy_192 hl (k := 7) rfl (nI_add _ _) (by decide) rfl (fun ls hl => ?_)
                          refine lv_goto (tgt := 107) S.1 S.2.1 dX3_copy_195 (by decide) ?_
                          exact ih107 (k + 1) _ _ _ ⟨hW, lv_sub hl [3, 4, 5, 6, 7, 0] rfl, (by omega)⟩ (by show 384 - (k + 1) < 384 - k; omega)
                · refine lv_aload_n S.1 S.2.1 dX3_copy_86 rfl (lv_at hl 0 rfl) ?_
                  refine kx_get S hK hW hinX3 0 3 rfl rfl 1 (by decide) (List.mem_of_getElem? (i := 1) rfl) (v := .ref (a 1)) rfl dX3_copy_87 ?_
                  refine lv_iload_n S.1 S.2.1 dX3_copy_90 rfl (lv_at hl 2 rfl) ?_
                  refine lv_iload S.1 S.2.1 dX3_copy_91 (lv_at hl 6 rfl) ?_
                  refine k_SI (rest := [.ref (a 1)]) S hK hl.1 hW (KFr.nil hW hA) (mX3_ofPins l D c  _ t k) gX3_copy_X3_ofPins rfl pdX3_ofPins ⟨⟨rfl, rfl⟩, Nat.le_of_ble_eq_true rfl, Nat.le_of_ble_eq_true rfl⟩ rfl (Nat.le_of_ble_eq_true rfl) dX3_copy_93 ⟨Nat.le_of_ble_eq_true rfl, Nat.le_of_ble_eq_true rfl⟩ (fun H locs hW => ?_)
                  have hW : kw D A s.heap (wM c a (pu (pu (pu (pu φ 5 (kc (0))) 2 (svf ((φ 2)) ((φ 0)) ((φ 6 0)))) 6 (kc (svn ((φ 6 0))))) 0 (clr (φ 0) t k)) δ) H locs := hW
                  refine lv_iconst (v := nI (0)) S.1 S.2.1 dX3_copy_96 rfl ?_
                  refine kn_ast S hK hW 1 (f := clr (φ 0) t k) rfl (by omega) (by decide) dX3_copy_97 (fun H locs hW => ?_)
                  have hW : kw D A s.heap (wM c a (pu (pu (pu (pu φ 5 (kc (0))) 2 (svf ((φ 2)) ((φ 0)) ((φ 6 0)))) 6 (kc (svn ((φ 6 0))))) 0 (fu (clr (φ 0) t k) (12 * t + k) 0)) δ) H locs := hW
                  refine lv_iinc (v := nI (k + 1)) (lv' := [(6, .int (nI (k + 1))), (0, .ref (a 0)), (1, .int (nI (f))), (2, .int (nI (t))), (3, .int (nI u - nI 32)), (4, .int (nI v - nI 12)), (5, .int (nI (1)))]) S.1 S.2.1 dX3_copy_98 hl (k := 6) rfl (nI_add _ _) (by decide) rfl (fun ls hl => ?_)
                  refine lv_goto (tgt := 79) S.1 S.2.1 dX3_copy_101 (by decide) ?_
                  exact ih79 (k + 1) _ _ _ ⟨hW, lv_sub hl [1, 2, 3, 4, 5, 6, 0] rfl, (by omega)⟩ (by show 12 - (k + 1) < 12 - k; omega)
              · exact absurd c_67 (by decide)
          · exact absurd (hit.symm.trans c_47) (by decide)
abbrev rmX3_share : Room := { frames := 0, cells := 0, slots := 0, locals := 0 }
theorem pdX3_share : kPd yX3_share 0 := by decide +kernel
set_option maxHeartbeats 400000 in
set_option maxRecDepth 100000 in
theorem mX3_share (l : Launch) (D : va_G) (c : Nat → ClassId) (a : Nat → Nat) (φ : Nat → Nat → Nat) (δ : Int64) (sz : Nat) (h139 : φ 0 139 < 2147483648) (h140 : φ 0 140 < 2147483648) (hne : ¬ φ 0 139 = 0 → vf_n64 (FP.ddiv (FP.i2d (nI (φ 0 139 - φ 0 140))) (FP.i2d (nI (φ 0 139))))) : MF l yX3_share wsX3_share rmX3_share D c sz (wM c a φ δ) [.ref (a 0)] (sh (φ 0 139) (φ 0 140)) (wM c a φ δ) := by
  refine MF.of (cc := cX3_share) (maxL := 2) (by decide) rfl (Nat.le_of_ble_eq_true rfl) ?_
  intro P e s m below meth cd A Q ls hsz S hK hW hA hl hret
  have hl : lv_has ls 2 [(0, .ref (a 0))] := hl
  have hinX3 : ∀ w ∈ u_ws RX3 TX3 13, w ∈ wsX3_share := by decide +kernel
  refine lv_aload_n S.1 S.2.1 dX3_share_0 rfl (lv_at hl 0 rfl) ?_
  refine kx_get S hK hW hinX3 0 3 rfl rfl 1 (by decide) (List.mem_of_getElem? (i := 1) rfl) (v := .ref (a 1)) rfl dX3_share_1 ?_
  refine lv_sipush (v := nI (139)) S.1 S.2.1 dX3_share_4 rfl ?_
  refine kn_ald S hK hW 1 (f := φ 0) rfl (by omega) (by decide) dX3_share_7 ?_
  refine lv_aload_n S.1 S.2.1 dX3_share_8 rfl (lv_at hl 0 rfl) ?_
  refine kx_get S hK hW hinX3 0 3 rfl rfl 1 (by decide) (List.mem_of_getElem? (i := 1) rfl) (v := .ref (a 1)) rfl dX3_share_9 ?_
  refine lv_sipush (v := nI (140)) S.1 S.2.1 dX3_share_12 rfl ?_
  refine kn_ald S hK hW 1 (f := φ 0) rfl (by omega) (by decide) dX3_share_15 ?_
  refine kn_le S (tgt := 39) dX3_share_16 (by decide) (by omega) (by omega) (fun c_16 => ?_) (fun c_16 => ?_)
  · refine lv_iconst (v := nI (0)) S.1 S.2.1 dX3_share_39 rfl ?_
    refine k_top (y := nI (φ 0 139 - φ 0 140)) (congrArg nI (by omega)) ?_
    refine lv_istore_n (lv' := [(1, .int (nI (φ 0 139 - φ 0 140))), (0, .ref (a 0))]) S.1 S.2.1 dX3_share_40 rfl hl (by decide) rfl (fun ls hl => ?_)
    refine lv_aload_n S.1 S.2.1 dX3_share_41 rfl (lv_at hl 1 rfl) ?_
    refine kx_get S hK hW hinX3 0 3 rfl rfl 1 (by decide) (List.mem_of_getElem? (i := 1) rfl) (v := .ref (a 1)) rfl dX3_share_42 ?_
    refine lv_sipush (v := nI (139)) S.1 S.2.1 dX3_share_45 rfl ?_
    refine kn_ald S hK hW 1 (f := φ 0) rfl (by omega) (by decide) dX3_share_48 ?_
    refine kz_ne S (tgt := 56) dX3_share_49 (by decide) (by omega) (fun c_49 => ?_) (fun c_49 => ?_)
    · refine lv_iload_n S.1 S.2.1 dX3_share_56 rfl (lv_at hl 0 rfl) ?_
      refine lv_i2d S.1 S.2.1 dX3_share_57 ?_
      refine lv_aload_n S.1 S.2.1 dX3_share_58 rfl (lv_at hl 1 rfl) ?_
      refine kx_get S hK hW hinX3 0 3 rfl rfl 1 (by decide) (List.mem_of_getElem? (i := 1) rfl) (v := .ref (a 1)) rfl dX3_share_59 ?_
      refine lv_sipush (v := nI (139)) S.1 S.2.1 dX3_share_62 rfl ?_
      refine kn_ald S hK hW 1 (f := φ 0) rfl (by omega) (by decide) dX3_share_65 ?_
      refine lv_i2d S.1 S.2.1 dX3_share_66 ?_
      refine lv_ddiv S.1 S.2.1 dX3_share_67 (hne c_49) ?_
      exact hret 68 _ _ _ _ _ dX3_share_68 hW (by unfold sh; first | (rw [if_pos c_49]; done) | (rw [if_neg c_49])) (rfl)
    · refine lv_dconst1 S.1 S.2.1 dX3_share_52 ?_
      refine lv_goto (tgt := 68) S.1 S.2.1 dX3_share_53 (by decide) ?_
      exact hret 68 _ _ _ _ _ dX3_share_68 hW (by unfold sh; first | (rw [if_pos c_49]; done) | (rw [if_neg c_49])) (rfl)
  · refine lv_aload_n S.1 S.2.1 dX3_share_19 rfl (lv_at hl 0 rfl) ?_
    refine kx_get S hK hW hinX3 0 3 rfl rfl 1 (by decide) (List.mem_of_getElem? (i := 1) rfl) (v := .ref (a 1)) rfl dX3_share_20 ?_
    refine lv_sipush (v := nI (139)) S.1 S.2.1 dX3_share_23 rfl ?_
    refine kn_ald S hK hW 1 (f := φ 0) rfl (by omega) (by decide) dX3_share_26 ?_
    refine lv_aload_n S.1 S.2.1 dX3_share_27 rfl (lv_at hl 0 rfl) ?_
    refine kx_get S hK hW hinX3 0 3 rfl rfl 1 (by decide) (List.mem_of_getElem? (i := 1) rfl) (v := .ref (a 1)) rfl dX3_share_28 ?_
    refine lv_sipush (v := nI (140)) S.1 S.2.1 dX3_share_31 rfl ?_
    refine kn_ald S hK hW 1 (f := φ 0) rfl (by omega) (by decide) dX3_share_34 ?_
    refine lv_isub S.1 S.2.1 dX3_share_35 ?_
    refine k_top (y := nI (φ 0 139 - φ 0 140)) (pk_sub (by omega)) ?_
    refine lv_goto (tgt := 40) S.1 S.2.1 dX3_share_36 (by decide) ?_
    refine lv_istore_n (lv' := [(1, .int (nI (φ 0 139 - φ 0 140))), (0, .ref (a 0))]) S.1 S.2.1 dX3_share_40 rfl hl (by decide) rfl (fun ls hl => ?_)
    refine lv_aload_n S.1 S.2.1 dX3_share_41 rfl (lv_at hl 1 rfl) ?_
    refine kx_get S hK hW hinX3 0 3 rfl rfl 1 (by decide) (List.mem_of_getElem? (i := 1) rfl) (v := .ref (a 1)) rfl dX3_share_42 ?_
    refine lv_sipush (v := nI (139)) S.1 S.2.1 dX3_share_45 rfl ?_
    refine kn_ald S hK hW 1 (f := φ 0) rfl (by omega) (by decide) dX3_share_48 ?_
    refine kz_ne S (tgt := 56) dX3_share_49 (by decide) (by omega) (fun c_49 => ?_) (fun c_49 => ?_)
    · refine lv_iload_n S.1 S.2.1 dX3_share_56 rfl (lv_at hl 0 rfl) ?_
      refine lv_i2d S.1 S.2.1 dX3_share_57 ?_
      refine lv_aload_n S.1 S.2.1 dX3_share_58 rfl (lv_at hl 1 rfl) ?_
      refine kx_get S hK hW hinX3 0 3 rfl rfl 1 (by decide) (List.mem_of_getElem? (i := 1) rfl) (v := .ref (a 1)) rfl dX3_share_59 ?_
      refine lv_sipush (v := nI (139)) S.1 S.2.1 dX3_share_62 rfl ?_
      refine kn_ald S hK hW 1 (f := φ 0) rfl (by omega) (by decide) dX3_share_65 ?_
      refine lv_i2d S.1 S.2.1 dX3_share_66 ?_
      refine lv_ddiv S.1 S.2.1 dX3_share_67 (hne c_49) ?_
      exact hret 68 _ _ _ _ _ dX3_share_68 hW (by unfold sh; first | (rw [if_pos c_49]; done) | (rw [if_neg c_49])) (rfl)
    · refine lv_dconst1 S.1 S.2.1 dX3_share_52 ?_
      refine lv_goto (tgt := 68) S.1 S.2.1 dX3_share_53 (by decide) ?_
      exact hret 68 _ _ _ _ _ dX3_share_68 hW (by unfold sh; first | (rw [if_pos c_49]; done) | (rw [if_neg c_49])) (rfl)
abbrev rmX3_clean : Room := { frames := 1, cells := 0, slots := 0, locals := 21 }
theorem pdX3_clean : kPd yX3_clean 0 := by decide +kernel
set_option maxHeartbeats 400000 in
set_option maxRecDepth 100000 in
theorem mX3_clean (l : Launch) (D : va_G) (c : Nat → ClassId) (a : Nat → Nat) (φ : Nat → Nat → Nat) (δ : Int64) (sz : Nat) (h139 : φ 0 139 < 2147483648) (h140 : φ 0 140 < 2147483648) (hne : ¬ φ 0 139 = 0 → vf_n64 (FP.ddiv (FP.i2d (nI (φ 0 139 - φ 0 140))) (FP.i2d (nI (φ 0 139))))) : MF l yX3_clean wsX3_clean rmX3_clean D c sz (wM c a φ δ) [.ref (a 0)] (sh (φ 0 139) (φ 0 140)) (wM c a (pu φ 5 (kc (0))) δ) := by
  refine MF.of (cc := cX3_clean) (maxL := 1) (by decide) rfl (Nat.le_of_ble_eq_true rfl) ?_
  intro P e s m below meth cd A Q ls hsz S hK hW hA hl hret
  have hl : lv_has ls 1 [(0, .ref (a 0))] := hl
  have hinX3 : ∀ w ∈ u_ws RX3 TX3 13, w ∈ wsX3_clean := by decide +kernel
  refine lv_aload_n S.1 S.2.1 dX3_clean_0 rfl (lv_at hl 0 rfl) ?_
  refine lv_iconst (v := nI (0)) S.1 S.2.1 dX3_clean_1 rfl ?_
  refine kx_put S hK hW hinX3 tyX3_ok nmX3 0 3 rfl rfl 0 (by decide) (List.mem_of_getElem? (i := 1) rfl) rfl (v := .int (nI (0))) rfl rfl (Nat.le_of_ble_eq_true rfl) dX3_clean_2 (fun H locs hW => ?_)
  have hW : kw D A s.heap (wM c a (pu φ 5 (kc (0))) δ) H locs := hW
  refine lv_aload_n S.1 S.2.1 dX3_clean_5 rfl (lv_at hl 0 rfl) ?_
  refine k_VD (rest := []) S hK hl.1 hW (KFr.all hW hA) (mX3_share l D c a ((pu φ 5 (kc (0)))) δ _ (by first | omega | exact h139 | assumption | (show (φ 0) 139 < 2147483648; omega) | rfl) (by first | omega | exact h140 | assumption | (show (φ 0) 140 < 2147483648; omega) | rfl) (by first | omega | exact hne | assumption | (show ¬ (φ 0) 139 = 0 → vf_n64 (FP.ddiv (FP.i2d (nI ((φ 0) 139 - (φ 0) 140))) (FP.i2d (nI ((φ 0) 139)))); omega) | rfl)) gX3_clean_X3_share rfl pdX3_share ⟨⟨rfl, rfl⟩, Nat.le_of_ble_eq_true rfl, Nat.le_of_ble_eq_true rfl⟩ 0 3 rfl rfl rfl rfl (Nat.le_of_ble_eq_true rfl) dX3_clean_6 ⟨Nat.le_of_ble_eq_true rfl, Nat.le_of_ble_eq_true rfl⟩ (fun H locs hW => ?_)
  have hW : kw D A s.heap (wM c a (pu φ 5 (kc (0))) δ) H locs := hW
  exact hret 9 _ _ _ _ _ dX3_clean_9 hW (rfl) (rfl)
abbrev rmX3_bitsOf : Room := { frames := 0, cells := 0, slots := 0, locals := 0 }
theorem pdX3_bitsOf : kPd yX3_bitsOf 1 := by decide +kernel
set_option maxHeartbeats 400000 in
set_option maxRecDepth 100000 in
theorem mX3_bitsOf_z (l : Launch) (D : va_G) (c : Nat → ClassId) (sz : Nat) (v : UInt64) (hz : Op.cmpValue (FP.dcmp v FP.dconst0) CmpOp.l = 0) : ML l yX3_bitsOf wsX3_bitsOf rmX3_bitsOf D c sz [] [.double (v)] (0) [] := by
  refine ML.of (cc := cX3_bitsOf) (maxL := 6) (by decide) rfl (Nat.le_of_ble_eq_true rfl) ?_
  intro P e s m below meth cd A Q ls hsz S hK hW hA hl hret
  have hl : lv_has ls 6 [(0, .double (v))] := hl
  refine lv_dload_n S.1 S.2.1 dX3_bitsOf_0 rfl (lv_at hl 0 rfl) ?_
  refine lv_dconst0 S.1 S.2.1 dX3_bitsOf_1 ?_
  refine lv_dcmp S.1 S.2.1 dX3_bitsOf_2 ?_
  refine lv_if_ne (tgt := 8) S.1 S.2.1 dX3_bitsOf_3 (by decide) (fun c_3 => ?_) (fun c_3 => ?_)
  · exact absurd hz c_3
  · refine lv_lconst (v := 0) S.1 S.2.1 dX3_bitsOf_6 rfl ?_
    exact hret 7 _ _ _ _ _ dX3_bitsOf_7 hW (rfl) (rfl)
set_option maxHeartbeats 400000 in
set_option maxRecDepth 100000 in
theorem mX3_bitsOf_k (l : Launch) (D : va_G) (c : Nat → ClassId) (sz : Nat) (v : UInt64) (n : Nat) (hz : ¬ Op.cmpValue (FP.dcmp v FP.dconst0) CmpOp.l = 0) (hk : bitK v n) : ML l yX3_bitsOf wsX3_bitsOf rmX3_bitsOf D c sz [] [.double (v)] (bitv v n) [] := by
  refine ML.of (cc := cX3_bitsOf) (maxL := 6) (by decide) rfl (Nat.le_of_ble_eq_true rfl) ?_
  intro P e s m below meth cd A Q ls hsz S hK hW hA hl hret
  have hl : lv_has ls 6 [(0, .double (v))] := hl
  refine lv_dload_n S.1 S.2.1 dX3_bitsOf_0 rfl (lv_at hl 0 rfl) ?_
  refine lv_dconst0 S.1 S.2.1 dX3_bitsOf_1 ?_
  refine lv_dcmp S.1 S.2.1 dX3_bitsOf_2 ?_
  refine lv_if_ne (tgt := 8) S.1 S.2.1 dX3_bitsOf_3 (by decide) (fun c_3 => ?_) (fun c_3 => ?_)
  · refine lv_ldc2 (v := 1023) S.1 S.2.1 S.2.2.2.1 (S.2.2.2.2 _ (List.mem_of_getElem? (i := 1) rfl)) dX3_bitsOf_8 ?_
    refine lv_lstore_n (lv' := [(2, .long (1023)), (0, .double (v))]) S.1 S.2.1 dX3_bitsOf_11 rfl hl (by decide) rfl (fun ls hl => ?_)
    refine lv_dload_n S.1 S.2.1 dX3_bitsOf_12 rfl (lv_at hl 1 rfl) ?_
    refine lv_dstore (lv' := [(4, .double (v)), (2, .long (1023)), (0, .double (v))]) S.1 S.2.1 dX3_bitsOf_13 hl (by decide) rfl (fun ls hl => ?_)
    refine k_loop (fun (zz : Nat) H lo ls => match zz with | k => kw D A s.heap [] H lo ∧ lv_has ls 6 [(0, .double (v)), (2, .long (pw k)), (4, .double (dbl v k))] ∧ k ≤ n) (fun (zz : Nat) => match zz with | k => n - k) [] ?_ 0 _ _ _ ⟨hW, lv_sub hl [2, 1, 0] rfl, (Nat.zero_le n)⟩
    rintro k ih15 H locs ls ⟨hW, hl, hi15_0⟩
    refine lv_dload S.1 S.2.1 dX3_bitsOf_15 (lv_at hl 2 rfl) ?_
    refine lv_dconst1 S.1 S.2.1 dX3_bitsOf_17 ?_
    refine lv_dcmp S.1 S.2.1 dX3_bitsOf_18 ?_
    refine lv_if_ge (tgt := 37) S.1 S.2.1 dX3_bitsOf_19 (by decide) (fun c_19 => ?_) (fun c_19 => ?_)
    · have e9 : k = n := by
        rcases Nat.lt_or_ge k n with q | q
        · exact absurd c_19 (hk.1 k q)
        · omega
      subst e9
      refine lv_lload_n S.1 S.2.1 dX3_bitsOf_37 rfl (lv_at hl 1 rfl) ?_
      refine lv_ldc2 (v := 4503599627370496) S.1 S.2.1 S.2.2.2.1 (S.2.2.2.2 _ (List.mem_of_getElem? (i := 3) rfl)) dX3_bitsOf_38 ?_
      refine lv_lmul S.1 S.2.1 dX3_bitsOf_41 ?_
      refine lv_dload S.1 S.2.1 dX3_bitsOf_42 (lv_at hl 2 rfl) ?_
      refine lv_dconst1 S.1 S.2.1 dX3_bitsOf_44 ?_
      refine lv_dsub S.1 S.2.1 dX3_bitsOf_45 hk.2.2.2.1 ?_
      refine lv_ldc2d (v := 4841369599423283200) S.1 S.2.1 S.2.2.2.1 (S.2.2.2.2 _ (List.mem_of_getElem? (i := 4) rfl)) dX3_bitsOf_46 ?_
      refine lv_dmul S.1 S.2.1 dX3_bitsOf_49 hk.2.2.2.2 ?_
      refine lv_d2l S.1 S.2.1 dX3_bitsOf_50 ?_
      refine lv_ladd S.1 S.2.1 dX3_bitsOf_51 ?_
      exact hret 52 _ _ _ _ _ dX3_bitsOf_52 hW (rfl) (rfl)
    · have hkn : k < n := by
        rcases Nat.lt_or_ge k n with q | q
        · exact q
        · have e9 : k = n := by omega
          subst e9
          exact absurd hk.2.1 c_19
      refine lv_dload S.1 S.2.1 dX3_bitsOf_22 (lv_at hl 2 rfl) ?_
      refine lv_ldc2d (v := 4611686018427387904) S.1 S.2.1 S.2.2.2.1 (S.2.2.2.2 _ (List.mem_of_getElem? (i := 2) rfl)) dX3_bitsOf_24 ?_
      refine lv_dmul S.1 S.2.1 dX3_bitsOf_27 (hk.2.2.1 k hkn) ?_
      refine lv_dstore (lv' := [(4, .double (FP.dmul (dbl v k) 4611686018427387904)), (0, .double (v)), (2, .long (pw k))]) S.1 S.2.1 dX3_bitsOf_28 hl (by decide) rfl (fun ls hl => ?_)
      refine lv_lload_n S.1 S.2.1 dX3_bitsOf_30 rfl (lv_at hl 2 rfl) ?_
      refine lv_lconst (v := 1) S.1 S.2.1 dX3_bitsOf_31 rfl ?_
      refine lv_lsub S.1 S.2.1 dX3_bitsOf_32 ?_
      refine lv_lstore_n (lv' := [(2, .long ((pw k) - 1)), (4, .double (FP.dmul (dbl v k) 4611686018427387904)), (0, .double (v))]) S.1 S.2.1 dX3_bitsOf_33 rfl hl (by decide) rfl (fun ls hl => ?_)
      refine lv_goto (tgt := 15) S.1 S.2.1 dX3_bitsOf_34 (by decide) ?_
      exact ih15 (k + 1) _ _ _ ⟨hW, lv_sub hl [2, 0, 1] rfl, (by omega)⟩ (by show n - (k + 1) < n - k; omega)
  · exact absurd c_3 hz
theorem mX3_bitsOf (l : Launch) (D : va_G) (c : Nat → ClassId) (sz : Nat) (v : UInt64) (b : Int64) (hb : bitP v b) : ML l yX3_bitsOf wsX3_bitsOf rmX3_bitsOf D c sz [] [.double (v)] (b) [] := by
  rcases hb with ⟨h1, rfl⟩ | ⟨h1, n, h2, rfl⟩
  · exact mX3_bitsOf_z l D c sz v h1
  · exact mX3_bitsOf_k l D c sz v n h1 h2
