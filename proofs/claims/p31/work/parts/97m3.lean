/-! ===== the law's acts: which one ===== -/
def lmk (v : Int32) : Nat := (v &&& nI 2147483647).toBitVec.toNat
def lw (v : Int32) (n : Nat) : Nat := lmk v % n
theorem lmk_lt (v : Int32) : lmk v < 2147483648 := by
  unfold lmk
  rw [Int32.toBitVec_and, BitVec.toNat_and]
  exact Nat.lt_of_le_of_lt Nat.and_le_right (by decide)
theorem lmk_eq (v : Int32) : v &&& nI 2147483647 = nI (lmk v) := by
  apply Int32.toBitVec_inj.mp
  show _ = (Int32.ofNat _).toBitVec
  rw [Int32.toBitVec_ofNat']
  unfold lmk
  rw [BitVec.ofNat_toNat, BitVec.setWidth_eq]
theorem lw_lt (v : Int32) {n : Nat} (hn : 0 < n) : lw v n < n := Nat.mod_lt _ hn
theorem AcR.map {yL yL' : MethodName} {wsL wsL' : List Cond} {rmL rmL' : Room} {av av' : List Value} {τ : Nat → Nat → Nat} {T : Nat} (h : AcR yL wsL rmL av τ T) (hf : ∀ (l : Launch) (D : va_G) (c : Nat → ClassId) (a0 o : Nat) (wd w1 : va_W) (r : Int32), (∀ sz, MW l yL wsL rmL D c sz wd (.ref a0 :: (av ++ [.ref o])) r w1) → ∀ sz, MW l yL' wsL' rmL' D c sz wd (.ref a0 :: (av' ++ [.ref o])) r w1) : AcR yL' wsL' rmL' av' τ T := by
  rcases h with ⟨r, τ', hr, hi, hk⟩ | ⟨th, h0, h3, hx⟩
  · exact Or.inl ⟨r, τ', hr, hi, fun l D c a b θ ρ κ sz o f hfl he hold hcnt => hf l D c (a 0) o _ _ _ (fun sz => hk l D c a b θ ρ κ sz o f hfl he hold hcnt) sz⟩
  · exact Or.inr ⟨th, h0, h3, fun l D c a b θ ρ κ sz o f hfl he hold hcnt => hf l D c (a 0) o _ _ _ (fun sz => hx l D c a b θ ρ κ sz o f hfl he hold hcnt) sz⟩
abbrev rmL_low : Room := { frames := 0, cells := 0, slots := 0, locals := 0 }
theorem pdL_low : kPd yL_low 2 := by decide +kernel
set_option maxHeartbeats 400000 in
set_option maxRecDepth 100000 in
theorem mL_low (l : Launch) (D : va_G) (c : Nat → ClassId) (sz : Nat) (v : Int32) (n : Nat) (hn0 : 0 < n) (hn : n < 2147483648) : MI l yL_low wsL_low rmL_low D c sz [] [.int (v), .int (nI (n))] (nI (lw v n)) [] := by
  refine MI.of (cc := cL_low) (maxL := 2) (ty := .int) (by decide) rfl (Nat.le_of_ble_eq_true rfl) rfl ?_
  intro P e s m below meth cd A Q ls hsz S hK hW hA hl hret
  have hl : lv_has ls 2 [(0, .int (v)), (1, .int (nI (n)))] := hl
  have hv := lmk_lt v
  refine lv_iload_n S.1 S.2.1 dL_low_0 rfl (lv_at hl 0 rfl) ?_
  refine lv_ldc (v := nI (2147483647)) S.1 S.2.1 S.2.2.2.1 (S.2.2.2.2 _ (List.mem_of_getElem? (i := 1) rfl)) dL_low_1 ?_
  refine lv_iand S.1 S.2.1 dL_low_3 ?_
  refine k_top (y := nI (lmk v)) (lmk_eq v) ?_
  refine lv_iload_n S.1 S.2.1 dL_low_4 rfl (lv_at hl 1 rfl) ?_
  refine kn_irem S dL_low_5 hv hn0 hn ?_
  exact hret 6 _ _ _ _ _ dL_low_6 hW (rfl) (rfl)
abbrev rmL_act : Room := { frames := 8, cells := 1, slots := 6, locals := 162 }
theorem pdL_act : kPd yL_act 3 := by decide +kernel
set_option maxRecDepth 100000 in
theorem paq_0 (l : Launch) (D : va_G) (c : Nat → ClassId) (sz : Nat) (wd w1 : va_W) (a0 o : Nat) (v : Int32) (r : Int32) (h21 : lw ((v) >>> ((nI (22)) &&& 31)) 7 = 0) (h34 : lw v 32 < 16) (h41 : lw v 32 < 15) (hM : ∀ sz, MW l yL_changes wsL_changes rmL_changes D c sz wd [.ref (a0), .int (nI (0)), .int (nI (lw ((v) >>> ((nI (5)) &&& 31)) 4)), .int (nI (lw (((v) >>> ((nI (5)) &&& 31)) >>> ((nI (2)) &&& 31)) 14)), .int (nI (lw (((v) >>> ((nI (5)) &&& 31)) >>> ((nI (5)) &&& 31)) 32)), .ref (o)] r w1) : MW l yL_act wsL_act rmL_act D c sz wd [.ref a0, .int v, .ref o] r w1 := by
  refine MW.of (cc := cL_act) (maxL := 6) (by decide) rfl (Nat.le_of_ble_eq_true rfl) ?_
  intro P e s m below meth cd A Q ls hsz S hK hN hSt hV hW hA hl hret
  have hl : lv_has ls 6 [(0, .ref a0), (1, .int v), (2, .ref o)] := hl
  have hw32 := lw_lt v (n := 32) (by decide)
  have hw7 := lw_lt ((v) >>> ((nI (22)) &&& 31)) (n := 7) (by decide)
  refine lv_iload_n S.1 S.2.1 dL_act_0 rfl (lv_at hl 1 rfl) ?_
  refine lv_bipush (v := nI (32)) S.1 S.2.1 dL_act_1 rfl ?_
  refine k_SI (rest := []) S hK hl.1 hW (KFr.nil hW hA) (mL_low l D c  _ v 32 (by first | omega | exact hn0 | assumption | (show 0 < 32; omega) | rfl) (by first | omega | exact hn | assumption | (show 32 < 2147483648; omega) | rfl)) gL_act_L_low rfl pdL_low ⟨⟨rfl, rfl⟩, Nat.le_of_ble_eq_true rfl, Nat.le_of_ble_eq_true rfl⟩ rfl (Nat.le_of_ble_eq_true rfl) dL_act_3 ⟨Nat.le_of_ble_eq_true rfl, Nat.le_of_ble_eq_true rfl⟩ (fun H locs hW => ?_)
  refine lv_istore_n (lv' := [(3, .int (nI (lw v 32))), (0, .ref (a0)), (1, .int (v)), (2, .ref (o))]) S.1 S.2.1 dL_act_6 rfl hl (by decide) rfl (fun ls hl => ?_)
  refine lv_iload_n S.1 S.2.1 dL_act_7 rfl (lv_at hl 2 rfl) ?_
  refine lv_iconst (v := nI (5)) S.1 S.2.1 dL_act_8 rfl ?_
  refine lv_ishr S.1 S.2.1 dL_act_9 ?_
  refine lv_istore (lv' := [(4, .int ((v) >>> ((nI (5)) &&& 31))), (3, .int (nI (lw v 32))), (0, .ref (a0)), (1, .int (v)), (2, .ref (o))]) S.1 S.2.1 dL_act_10 hl (by decide) rfl (fun ls hl => ?_)
  refine lv_iload_n S.1 S.2.1 dL_act_12 rfl (lv_at hl 3 rfl) ?_
  refine lv_bipush (v := nI (22)) S.1 S.2.1 dL_act_13 rfl ?_
  refine lv_ishr S.1 S.2.1 dL_act_15 ?_
  refine lv_bipush (v := nI (7)) S.1 S.2.1 dL_act_16 rfl ?_
  refine k_SI (rest := []) S hK hl.1 hW (KFr.nil hW hA) (mL_low l D c  _ ((v) >>> ((nI (22)) &&& 31)) 7 (by first | omega | exact hn0 | assumption | (show 0 < 7; omega) | rfl) (by first | omega | exact hn | assumption | (show 7 < 2147483648; omega) | rfl)) gL_act_L_low rfl pdL_low ⟨⟨rfl, rfl⟩, Nat.le_of_ble_eq_true rfl, Nat.le_of_ble_eq_true rfl⟩ rfl (Nat.le_of_ble_eq_true rfl) dL_act_18 ⟨Nat.le_of_ble_eq_true rfl, Nat.le_of_ble_eq_true rfl⟩ (fun H locs hW => ?_)
  refine kz_le S (tgt := 28) dL_act_21 (by decide) (by omega) (fun c_21 => ?_) (fun c_21 => ?_)
  · refine lv_iconst (v := nI (0)) S.1 S.2.1 dL_act_28 rfl ?_
    refine lv_istore (lv' := [(5, .int (nI (0))), (4, .int ((v) >>> ((nI (5)) &&& 31))), (3, .int (nI (lw v 32))), (0, .ref (a0)), (1, .int (v)), (2, .ref (o))]) S.1 S.2.1 dL_act_29 hl (by decide) rfl (fun ls hl => ?_)
    refine lv_iload_n S.1 S.2.1 dL_act_31 rfl (lv_at hl 2 rfl) ?_
    refine lv_bipush (v := nI (16)) S.1 S.2.1 dL_act_32 rfl ?_
    refine kn_ge S (tgt := 111) dL_act_34 (by decide) (by omega) (by omega) (fun c_34 => ?_) (fun c_34 => ?_)
    · exact absurd c_34 (by omega)
    · refine lv_aload_n S.1 S.2.1 dL_act_37 rfl (lv_at hl 3 rfl) ?_
      refine lv_iload_n S.1 S.2.1 dL_act_38 rfl (lv_at hl 2 rfl) ?_
      refine lv_bipush (v := nI (15)) S.1 S.2.1 dL_act_39 rfl ?_
      refine kn_ge S (tgt := 48) dL_act_41 (by decide) (by omega) (by omega) (fun c_41 => ?_) (fun c_41 => ?_)
      · exact absurd c_41 (by omega)
      · refine lv_iconst (v := nI (0)) S.1 S.2.1 dL_act_44 rfl ?_
        refine lv_goto (tgt := 49) S.1 S.2.1 dL_act_45 (by decide) ?_
        refine lv_iload S.1 S.2.1 dL_act_49 (lv_at hl 1 rfl) ?_
        refine lv_iload S.1 S.2.1 dL_act_51 (lv_at hl 0 rfl) ?_
        refine kz_eq S (tgt := 60) dL_act_53 (by decide) (by omega) (fun c_53 => ?_) (fun c_53 => ?_)
        · refine lv_iconst (v := nI (4)) S.1 S.2.1 dL_act_60 rfl ?_
          refine k_SI (rest := [.int (nI (0)), .ref (a0)]) S hK hl.1 hW (KFr.nil hW hA) (mL_low l D c  _ ((v) >>> ((nI (5)) &&& 31)) 4 (by first | omega | exact hn0 | assumption | (show 0 < 4; omega) | rfl) (by first | omega | exact hn | assumption | (show 4 < 2147483648; omega) | rfl)) gL_act_L_low rfl pdL_low ⟨⟨rfl, rfl⟩, Nat.le_of_ble_eq_true rfl, Nat.le_of_ble_eq_true rfl⟩ rfl (Nat.le_of_ble_eq_true rfl) dL_act_61 ⟨Nat.le_of_ble_eq_true rfl, Nat.le_of_ble_eq_true rfl⟩ (fun H locs hW => ?_)
          refine lv_iload S.1 S.2.1 dL_act_64 (lv_at hl 1 rfl) ?_
          refine lv_iconst (v := nI (2)) S.1 S.2.1 dL_act_66 rfl ?_
          refine lv_ishr S.1 S.2.1 dL_act_67 ?_
          refine lv_iload S.1 S.2.1 dL_act_68 (lv_at hl 0 rfl) ?_
          refine kz_eq S (tgt := 92) dL_act_70 (by decide) (by omega) (fun c_70 => ?_) (fun c_70 => ?_)
          · refine lv_bipush (v := nI (14)) S.1 S.2.1 dL_act_92 rfl ?_
            refine k_SI (rest := [.int (nI (lw ((v) >>> ((nI (5)) &&& 31)) 4)), .int (nI (0)), .ref (a0)]) S hK hl.1 hW (KFr.nil hW hA) (mL_low l D c  _ (((v) >>> ((nI (5)) &&& 31)) >>> ((nI (2)) &&& 31)) 14 (by first | omega | exact hn0 | assumption | (show 0 < 14; omega) | rfl) (by first | omega | exact hn | assumption | (show 14 < 2147483648; omega) | rfl)) gL_act_L_low rfl pdL_low ⟨⟨rfl, rfl⟩, Nat.le_of_ble_eq_true rfl, Nat.le_of_ble_eq_true rfl⟩ rfl (Nat.le_of_ble_eq_true rfl) dL_act_94 ⟨Nat.le_of_ble_eq_true rfl, Nat.le_of_ble_eq_true rfl⟩ (fun H locs hW => ?_)
            refine lv_iload S.1 S.2.1 dL_act_97 (lv_at hl 1 rfl) ?_
            refine lv_iconst (v := nI (5)) S.1 S.2.1 dL_act_99 rfl ?_
            refine lv_ishr S.1 S.2.1 dL_act_100 ?_
            refine lv_bipush (v := nI (32)) S.1 S.2.1 dL_act_101 rfl ?_
            refine k_SI (rest := [.int (nI (lw (((v) >>> ((nI (5)) &&& 31)) >>> ((nI (2)) &&& 31)) 14)), .int (nI (lw ((v) >>> ((nI (5)) &&& 31)) 4)), .int (nI (0)), .ref (a0)]) S hK hl.1 hW (KFr.nil hW hA) (mL_low l D c  _ (((v) >>> ((nI (5)) &&& 31)) >>> ((nI (5)) &&& 31)) 32 (by first | omega | exact hn0 | assumption | (show 0 < 32; omega) | rfl) (by first | omega | exact hn | assumption | (show 32 < 2147483648; omega) | rfl)) gL_act_L_low rfl pdL_low ⟨⟨rfl, rfl⟩, Nat.le_of_ble_eq_true rfl, Nat.le_of_ble_eq_true rfl⟩ rfl (Nat.le_of_ble_eq_true rfl) dL_act_103 ⟨Nat.le_of_ble_eq_true rfl, Nat.le_of_ble_eq_true rfl⟩ (fun H locs hW => ?_)
            refine lv_aload_n S.1 S.2.1 dL_act_106 rfl (lv_at hl 5 rfl) ?_
            refine k_SW (rest := []) S hK hl.1 hW (KFr.all hW hA) hN hSt hV (hM _) gL_act_L_changes rfl pdL_changes ⟨⟨rfl, rfl⟩, Nat.le_of_ble_eq_true rfl, Nat.le_of_ble_eq_true rfl⟩ rfl (Nat.le_of_ble_eq_true rfl) dL_act_107 ⟨Nat.le_of_ble_eq_true rfl, Nat.le_of_ble_eq_true rfl⟩ (fun H locs hW => ?_)
            exact hret 110 _ _ _ _ _ _ _ dL_act_110 hW rfl rfl (by decide) (by decide)
          · exact absurd c_70 (by decide)
        · exact absurd c_53 (by decide)
  · exact absurd c_21 (by omega)
set_option maxRecDepth 100000 in
theorem paq_1 (l : Launch) (D : va_G) (c : Nat → ClassId) (sz : Nat) (wd w1 : va_W) (a0 o : Nat) (v : Int32) (r : Int32) (h21 : lw ((v) >>> ((nI (22)) &&& 31)) 7 = 0) (h34 : lw v 32 < 16) (h41 : 15 ≤ lw v 32) (hM : ∀ sz, MW l yL_changes wsL_changes rmL_changes D c sz wd [.ref (a0), .int (nI (1)), .int (nI (lw ((v) >>> ((nI (5)) &&& 31)) 4)), .int (nI (lw (((v) >>> ((nI (5)) &&& 31)) >>> ((nI (2)) &&& 31)) 14)), .int (nI (lw (((v) >>> ((nI (5)) &&& 31)) >>> ((nI (5)) &&& 31)) 32)), .ref (o)] r w1) : MW l yL_act wsL_act rmL_act D c sz wd [.ref a0, .int v, .ref o] r w1 := by
  refine MW.of (cc := cL_act) (maxL := 6) (by decide) rfl (Nat.le_of_ble_eq_true rfl) ?_
  intro P e s m below meth cd A Q ls hsz S hK hN hSt hV hW hA hl hret
  have hl : lv_has ls 6 [(0, .ref a0), (1, .int v), (2, .ref o)] := hl
  have hw32 := lw_lt v (n := 32) (by decide)
  have hw7 := lw_lt ((v) >>> ((nI (22)) &&& 31)) (n := 7) (by decide)
  refine lv_iload_n S.1 S.2.1 dL_act_0 rfl (lv_at hl 1 rfl) ?_
  refine lv_bipush (v := nI (32)) S.1 S.2.1 dL_act_1 rfl ?_
  refine k_SI (rest := []) S hK hl.1 hW (KFr.nil hW hA) (mL_low l D c  _ v 32 (by first | omega | exact hn0 | assumption | (show 0 < 32; omega) | rfl) (by first | omega | exact hn | assumption | (show 32 < 2147483648; omega) | rfl)) gL_act_L_low rfl pdL_low ⟨⟨rfl, rfl⟩, Nat.le_of_ble_eq_true rfl, Nat.le_of_ble_eq_true rfl⟩ rfl (Nat.le_of_ble_eq_true rfl) dL_act_3 ⟨Nat.le_of_ble_eq_true rfl, Nat.le_of_ble_eq_true rfl⟩ (fun H locs hW => ?_)
  refine lv_istore_n (lv' := [(3, .int (nI (lw v 32))), (0, .ref (a0)), (1, .int (v)), (2, .ref (o))]) S.1 S.2.1 dL_act_6 rfl hl (by decide) rfl (fun ls hl => ?_)
  refine lv_iload_n S.1 S.2.1 dL_act_7 rfl (lv_at hl 2 rfl) ?_
  refine lv_iconst (v := nI (5)) S.1 S.2.1 dL_act_8 rfl ?_
  refine lv_ishr S.1 S.2.1 dL_act_9 ?_
  refine lv_istore (lv' := [(4, .int ((v) >>> ((nI (5)) &&& 31))), (3, .int (nI (lw v 32))), (0, .ref (a0)), (1, .int (v)), (2, .ref (o))]) S.1 S.2.1 dL_act_10 hl (by decide) rfl (fun ls hl => ?_)
  refine lv_iload_n S.1 S.2.1 dL_act_12 rfl (lv_at hl 3 rfl) ?_
  refine lv_bipush (v := nI (22)) S.1 S.2.1 dL_act_13 rfl ?_
  refine lv_ishr S.1 S.2.1 dL_act_15 ?_
  refine lv_bipush (v := nI (7)) S.1 S.2.1 dL_act_16 rfl ?_
  refine k_SI (rest := []) S hK hl.1 hW (KFr.nil hW hA) (mL_low l D c  _ ((v) >>> ((nI (22)) &&& 31)) 7 (by first | omega | exact hn0 | assumption | (show 0 < 7; omega) | rfl) (by first | omega | exact hn | assumption | (show 7 < 2147483648; omega) | rfl)) gL_act_L_low rfl pdL_low ⟨⟨rfl, rfl⟩, Nat.le_of_ble_eq_true rfl, Nat.le_of_ble_eq_true rfl⟩ rfl (Nat.le_of_ble_eq_true rfl) dL_act_18 ⟨Nat.le_of_ble_eq_true rfl, Nat.le_of_ble_eq_true rfl⟩ (fun H locs hW => ?_)
  refine kz_le S (tgt := 28) dL_act_21 (by decide) (by omega) (fun c_21 => ?_) (fun c_21 => ?_)
  · refine lv_iconst (v := nI (0)) S.1 S.2.1 dL_act_28 rfl ?_
    refine lv_istore (lv' := [(5, .int (nI (0))), (4, .int ((v) >>> ((nI (5)) &&& 31))), (3, .int (nI (lw v 32))), (0, .ref (a0)), (1, .int (v)), (2, .ref (o))]) S.1 S.2.1 dL_act_29 hl (by decide) rfl (fun ls hl => ?_)
    refine lv_iload_n S.1 S.2.1 dL_act_31 rfl (lv_at hl 2 rfl) ?_
    refine lv_bipush (v := nI (16)) S.1 S.2.1 dL_act_32 rfl ?_
    refine kn_ge S (tgt := 111) dL_act_34 (by decide) (by omega) (by omega) (fun c_34 => ?_) (fun c_34 => ?_)
    · exact absurd c_34 (by omega)
    · refine lv_aload_n S.1 S.2.1 dL_act_37 rfl (lv_at hl 3 rfl) ?_
      refine lv_iload_n S.1 S.2.1 dL_act_38 rfl (lv_at hl 2 rfl) ?_
      refine lv_bipush (v := nI (15)) S.1 S.2.1 dL_act_39 rfl ?_
      refine kn_ge S (tgt := 48) dL_act_41 (by decide) (by omega) (by omega) (fun c_41 => ?_) (fun c_41 => ?_)
      · refine lv_iconst (v := nI (1)) S.1 S.2.1 dL_act_48 rfl ?_
        refine lv_iload S.1 S.2.1 dL_act_49 (lv_at hl 1 rfl) ?_
        refine lv_iload S.1 S.2.1 dL_act_51 (lv_at hl 0 rfl) ?_
        refine kz_eq S (tgt := 60) dL_act_53 (by decide) (by omega) (fun c_53 => ?_) (fun c_53 => ?_)
        · refine lv_iconst (v := nI (4)) S.1 S.2.1 dL_act_60 rfl ?_
          refine k_SI (rest := [.int (nI (1)), .ref (a0)]) S hK hl.1 hW (KFr.nil hW hA) (mL_low l D c  _ ((v) >>> ((nI (5)) &&& 31)) 4 (by first | omega | exact hn0 | assumption | (show 0 < 4; omega) | rfl) (by first | omega | exact hn | assumption | (show 4 < 2147483648; omega) | rfl)) gL_act_L_low rfl pdL_low ⟨⟨rfl, rfl⟩, Nat.le_of_ble_eq_true rfl, Nat.le_of_ble_eq_true rfl⟩ rfl (Nat.le_of_ble_eq_true rfl) dL_act_61 ⟨Nat.le_of_ble_eq_true rfl, Nat.le_of_ble_eq_true rfl⟩ (fun H locs hW => ?_)
          refine lv_iload S.1 S.2.1 dL_act_64 (lv_at hl 1 rfl) ?_
          refine lv_iconst (v := nI (2)) S.1 S.2.1 dL_act_66 rfl ?_
          refine lv_ishr S.1 S.2.1 dL_act_67 ?_
          refine lv_iload S.1 S.2.1 dL_act_68 (lv_at hl 0 rfl) ?_
          refine kz_eq S (tgt := 92) dL_act_70 (by decide) (by omega) (fun c_70 => ?_) (fun c_70 => ?_)
          · refine lv_bipush (v := nI (14)) S.1 S.2.1 dL_act_92 rfl ?_
            refine k_SI (rest := [.int (nI (lw ((v) >>> ((nI (5)) &&& 31)) 4)), .int (nI (1)), .ref (a0)]) S hK hl.1 hW (KFr.nil hW hA) (mL_low l D c  _ (((v) >>> ((nI (5)) &&& 31)) >>> ((nI (2)) &&& 31)) 14 (by first | omega | exact hn0 | assumption | (show 0 < 14; omega) | rfl) (by first | omega | exact hn | assumption | (show 14 < 2147483648; omega) | rfl)) gL_act_L_low rfl pdL_low ⟨⟨rfl, rfl⟩, Nat.le_of_ble_eq_true rfl, Nat.le_of_ble_eq_true rfl⟩ rfl (Nat.le_of_ble_eq_true rfl) dL_act_94 ⟨Nat.le_of_ble_eq_true rfl, Nat.le_of_ble_eq_true rfl⟩ (fun H locs hW => ?_)
            refine lv_iload S.1 S.2.1 dL_act_97 (lv_at hl 1 rfl) ?_
            refine lv_iconst (v := nI (5)) S.1 S.2.1 dL_act_99 rfl ?_
            refine lv_ishr S.1 S.2.1 dL_act_100 ?_
            refine lv_bipush (v := nI (32)) S.1 S.2.1 dL_act_101 rfl ?_
            refine k_SI (rest := [.int (nI (lw (((v) >>> ((nI (5)) &&& 31)) >>> ((nI (2)) &&& 31)) 14)), .int (nI (lw ((v) >>> ((nI (5)) &&& 31)) 4)), .int (nI (1)), .ref (a0)]) S hK hl.1 hW (KFr.nil hW hA) (mL_low l D c  _ (((v) >>> ((nI (5)) &&& 31)) >>> ((nI (5)) &&& 31)) 32 (by first | omega | exact hn0 | assumption | (show 0 < 32; omega) | rfl) (by first | omega | exact hn | assumption | (show 32 < 2147483648; omega) | rfl)) gL_act_L_low rfl pdL_low ⟨⟨rfl, rfl⟩, Nat.le_of_ble_eq_true rfl, Nat.le_of_ble_eq_true rfl⟩ rfl (Nat.le_of_ble_eq_true rfl) dL_act_103 ⟨Nat.le_of_ble_eq_true rfl, Nat.le_of_ble_eq_true rfl⟩ (fun H locs hW => ?_)
            refine lv_aload_n S.1 S.2.1 dL_act_106 rfl (lv_at hl 5 rfl) ?_
            refine k_SW (rest := []) S hK hl.1 hW (KFr.all hW hA) hN hSt hV (hM _) gL_act_L_changes rfl pdL_changes ⟨⟨rfl, rfl⟩, Nat.le_of_ble_eq_true rfl, Nat.le_of_ble_eq_true rfl⟩ rfl (Nat.le_of_ble_eq_true rfl) dL_act_107 ⟨Nat.le_of_ble_eq_true rfl, Nat.le_of_ble_eq_true rfl⟩ (fun H locs hW => ?_)
            exact hret 110 _ _ _ _ _ _ _ dL_act_110 hW rfl rfl (by decide) (by decide)
          · exact absurd c_70 (by decide)
        · exact absurd c_53 (by decide)
      · exact absurd c_41 (by omega)
  · exact absurd c_21 (by omega)
set_option maxRecDepth 100000 in
theorem paq_2 (l : Launch) (D : va_G) (c : Nat → ClassId) (sz : Nat) (wd w1 : va_W) (a0 o : Nat) (v : Int32) (r : Int32) (h21 : lw ((v) >>> ((nI (22)) &&& 31)) 7 = 0) (h34 : 16 ≤ lw v 32) (h114 : lw v 32 = 16) (hM : ∀ sz, MW l yL_copies wsL_copies rmL_copies D c sz wd [.ref (a0), .int (nI (lw ((v) >>> ((nI (5)) &&& 31)) 3)), .int (nI (lw (((v) >>> ((nI (5)) &&& 31)) >>> ((nI (2)) &&& 31)) 4)), .int (nI (lw (((v) >>> ((nI (5)) &&& 31)) >>> ((nI (4)) &&& 31)) 40)), .int ((nI (lw (((v) >>> ((nI (5)) &&& 31)) >>> ((nI (7)) &&& 31)) 30)) - (nI (11))), .ref (o)] r w1) : MW l yL_act wsL_act rmL_act D c sz wd [.ref a0, .int v, .ref o] r w1 := by
  refine MW.of (cc := cL_act) (maxL := 6) (by decide) rfl (Nat.le_of_ble_eq_true rfl) ?_
  intro P e s m below meth cd A Q ls hsz S hK hN hSt hV hW hA hl hret
  have hl : lv_has ls 6 [(0, .ref a0), (1, .int v), (2, .ref o)] := hl
  have hw32 := lw_lt v (n := 32) (by decide)
  have hw7 := lw_lt ((v) >>> ((nI (22)) &&& 31)) (n := 7) (by decide)
  refine lv_iload_n S.1 S.2.1 dL_act_0 rfl (lv_at hl 1 rfl) ?_
  refine lv_bipush (v := nI (32)) S.1 S.2.1 dL_act_1 rfl ?_
  refine k_SI (rest := []) S hK hl.1 hW (KFr.nil hW hA) (mL_low l D c  _ v 32 (by first | omega | exact hn0 | assumption | (show 0 < 32; omega) | rfl) (by first | omega | exact hn | assumption | (show 32 < 2147483648; omega) | rfl)) gL_act_L_low rfl pdL_low ⟨⟨rfl, rfl⟩, Nat.le_of_ble_eq_true rfl, Nat.le_of_ble_eq_true rfl⟩ rfl (Nat.le_of_ble_eq_true rfl) dL_act_3 ⟨Nat.le_of_ble_eq_true rfl, Nat.le_of_ble_eq_true rfl⟩ (fun H locs hW => ?_)
  refine lv_istore_n (lv' := [(3, .int (nI (lw v 32))), (0, .ref (a0)), (1, .int (v)), (2, .ref (o))]) S.1 S.2.1 dL_act_6 rfl hl (by decide) rfl (fun ls hl => ?_)
  refine lv_iload_n S.1 S.2.1 dL_act_7 rfl (lv_at hl 2 rfl) ?_
  refine lv_iconst (v := nI (5)) S.1 S.2.1 dL_act_8 rfl ?_
  refine lv_ishr S.1 S.2.1 dL_act_9 ?_
  refine lv_istore (lv' := [(4, .int ((v) >>> ((nI (5)) &&& 31))), (3, .int (nI (lw v 32))), (0, .ref (a0)), (1, .int (v)), (2, .ref (o))]) S.1 S.2.1 dL_act_10 hl (by decide) rfl (fun ls hl => ?_)
  refine lv_iload_n S.1 S.2.1 dL_act_12 rfl (lv_at hl 3 rfl) ?_
  refine lv_bipush (v := nI (22)) S.1 S.2.1 dL_act_13 rfl ?_
  refine lv_ishr S.1 S.2.1 dL_act_15 ?_
  refine lv_bipush (v := nI (7)) S.1 S.2.1 dL_act_16 rfl ?_
  refine k_SI (rest := []) S hK hl.1 hW (KFr.nil hW hA) (mL_low l D c  _ ((v) >>> ((nI (22)) &&& 31)) 7 (by first | omega | exact hn0 | assumption | (show 0 < 7; omega) | rfl) (by first | omega | exact hn | assumption | (show 7 < 2147483648; omega) | rfl)) gL_act_L_low rfl pdL_low ⟨⟨rfl, rfl⟩, Nat.le_of_ble_eq_true rfl, Nat.le_of_ble_eq_true rfl⟩ rfl (Nat.le_of_ble_eq_true rfl) dL_act_18 ⟨Nat.le_of_ble_eq_true rfl, Nat.le_of_ble_eq_true rfl⟩ (fun H locs hW => ?_)
  refine kz_le S (tgt := 28) dL_act_21 (by decide) (by omega) (fun c_21 => ?_) (fun c_21 => ?_)
  · refine lv_iconst (v := nI (0)) S.1 S.2.1 dL_act_28 rfl ?_
    refine lv_istore (lv' := [(5, .int (nI (0))), (4, .int ((v) >>> ((nI (5)) &&& 31))), (3, .int (nI (lw v 32))), (0, .ref (a0)), (1, .int (v)), (2, .ref (o))]) S.1 S.2.1 dL_act_29 hl (by decide) rfl (fun ls hl => ?_)
    refine lv_iload_n S.1 S.2.1 dL_act_31 rfl (lv_at hl 2 rfl) ?_
    refine lv_bipush (v := nI (16)) S.1 S.2.1 dL_act_32 rfl ?_
    refine kn_ge S (tgt := 111) dL_act_34 (by decide) (by omega) (by omega) (fun c_34 => ?_) (fun c_34 => ?_)
    · refine lv_iload_n S.1 S.2.1 dL_act_111 rfl (lv_at hl 2 rfl) ?_
      refine lv_bipush (v := nI (16)) S.1 S.2.1 dL_act_112 rfl ?_
      refine kn_ne S (tgt := 188) dL_act_114 (by decide) (by omega) (by omega) (fun c_114 => ?_) (fun c_114 => ?_)
      · exact absurd c_114 (by omega)
      · refine lv_aload_n S.1 S.2.1 dL_act_117 rfl (lv_at hl 3 rfl) ?_
        refine lv_iload S.1 S.2.1 dL_act_118 (lv_at hl 1 rfl) ?_
        refine lv_iconst (v := nI (3)) S.1 S.2.1 dL_act_120 rfl ?_
        refine k_SI (rest := [.ref (a0)]) S hK hl.1 hW (KFr.nil hW hA) (mL_low l D c  _ ((v) >>> ((nI (5)) &&& 31)) 3 (by first | omega | exact hn0 | assumption | (show 0 < 3; omega) | rfl) (by first | omega | exact hn | assumption | (show 3 < 2147483648; omega) | rfl)) gL_act_L_low rfl pdL_low ⟨⟨rfl, rfl⟩, Nat.le_of_ble_eq_true rfl, Nat.le_of_ble_eq_true rfl⟩ rfl (Nat.le_of_ble_eq_true rfl) dL_act_121 ⟨Nat.le_of_ble_eq_true rfl, Nat.le_of_ble_eq_true rfl⟩ (fun H locs hW => ?_)
        refine lv_iload S.1 S.2.1 dL_act_124 (lv_at hl 1 rfl) ?_
        refine lv_iconst (v := nI (2)) S.1 S.2.1 dL_act_126 rfl ?_
        refine lv_ishr S.1 S.2.1 dL_act_127 ?_
        refine lv_iload S.1 S.2.1 dL_act_128 (lv_at hl 0 rfl) ?_
        refine kz_eq S (tgt := 137) dL_act_130 (by decide) (by omega) (fun c_130 => ?_) (fun c_130 => ?_)
        · refine lv_iconst (v := nI (4)) S.1 S.2.1 dL_act_137 rfl ?_
          refine k_SI (rest := [.int (nI (lw ((v) >>> ((nI (5)) &&& 31)) 3)), .ref (a0)]) S hK hl.1 hW (KFr.nil hW hA) (mL_low l D c  _ (((v) >>> ((nI (5)) &&& 31)) >>> ((nI (2)) &&& 31)) 4 (by first | omega | exact hn0 | assumption | (show 0 < 4; omega) | rfl) (by first | omega | exact hn | assumption | (show 4 < 2147483648; omega) | rfl)) gL_act_L_low rfl pdL_low ⟨⟨rfl, rfl⟩, Nat.le_of_ble_eq_true rfl, Nat.le_of_ble_eq_true rfl⟩ rfl (Nat.le_of_ble_eq_true rfl) dL_act_138 ⟨Nat.le_of_ble_eq_true rfl, Nat.le_of_ble_eq_true rfl⟩ (fun H locs hW => ?_)
          refine lv_iload S.1 S.2.1 dL_act_141 (lv_at hl 1 rfl) ?_
          refine lv_iconst (v := nI (4)) S.1 S.2.1 dL_act_143 rfl ?_
          refine lv_ishr S.1 S.2.1 dL_act_144 ?_
          refine lv_iload S.1 S.2.1 dL_act_145 (lv_at hl 0 rfl) ?_
          refine kz_eq S (tgt := 155) dL_act_147 (by decide) (by omega) (fun c_147 => ?_) (fun c_147 => ?_)
          · refine lv_bipush (v := nI (40)) S.1 S.2.1 dL_act_155 rfl ?_
            refine k_SI (rest := [.int (nI (lw (((v) >>> ((nI (5)) &&& 31)) >>> ((nI (2)) &&& 31)) 4)), .int (nI (lw ((v) >>> ((nI (5)) &&& 31)) 3)), .ref (a0)]) S hK hl.1 hW (KFr.nil hW hA) (mL_low l D c  _ (((v) >>> ((nI (5)) &&& 31)) >>> ((nI (4)) &&& 31)) 40 (by first | omega | exact hn0 | assumption | (show 0 < 40; omega) | rfl) (by first | omega | exact hn | assumption | (show 40 < 2147483648; omega) | rfl)) gL_act_L_low rfl pdL_low ⟨⟨rfl, rfl⟩, Nat.le_of_ble_eq_true rfl, Nat.le_of_ble_eq_true rfl⟩ rfl (Nat.le_of_ble_eq_true rfl) dL_act_157 ⟨Nat.le_of_ble_eq_true rfl, Nat.le_of_ble_eq_true rfl⟩ (fun H locs hW => ?_)
            refine lv_iload S.1 S.2.1 dL_act_160 (lv_at hl 1 rfl) ?_
            refine lv_bipush (v := nI (7)) S.1 S.2.1 dL_act_162 rfl ?_
            refine lv_ishr S.1 S.2.1 dL_act_164 ?_
            refine lv_iload S.1 S.2.1 dL_act_165 (lv_at hl 0 rfl) ?_
            refine kz_eq S (tgt := 175) dL_act_167 (by decide) (by omega) (fun c_167 => ?_) (fun c_167 => ?_)
            · refine lv_bipush (v := nI (30)) S.1 S.2.1 dL_act_175 rfl ?_
              refine k_SI (rest := [.int (nI (lw (((v) >>> ((nI (5)) &&& 31)) >>> ((nI (4)) &&& 31)) 40)), .int (nI (lw (((v) >>> ((nI (5)) &&& 31)) >>> ((nI (2)) &&& 31)) 4)), .int (nI (lw ((v) >>> ((nI (5)) &&& 31)) 3)), .ref (a0)]) S hK hl.1 hW (KFr.nil hW hA) (mL_low l D c  _ (((v) >>> ((nI (5)) &&& 31)) >>> ((nI (7)) &&& 31)) 30 (by first | omega | exact hn0 | assumption | (show 0 < 30; omega) | rfl) (by first | omega | exact hn | assumption | (show 30 < 2147483648; omega) | rfl)) gL_act_L_low rfl pdL_low ⟨⟨rfl, rfl⟩, Nat.le_of_ble_eq_true rfl, Nat.le_of_ble_eq_true rfl⟩ rfl (Nat.le_of_ble_eq_true rfl) dL_act_177 ⟨Nat.le_of_ble_eq_true rfl, Nat.le_of_ble_eq_true rfl⟩ (fun H locs hW => ?_)
              refine lv_bipush (v := nI (11)) S.1 S.2.1 dL_act_180 rfl ?_
              refine lv_isub S.1 S.2.1 dL_act_182 ?_
              refine lv_aload_n S.1 S.2.1 dL_act_183 rfl (lv_at hl 5 rfl) ?_
              refine k_SW (rest := []) S hK hl.1 hW (KFr.all hW hA) hN hSt hV (hM _) gL_act_L_copies rfl pdL_copies ⟨⟨rfl, rfl⟩, Nat.le_of_ble_eq_true rfl, Nat.le_of_ble_eq_true rfl⟩ rfl (Nat.le_of_ble_eq_true rfl) dL_act_184 ⟨Nat.le_of_ble_eq_true rfl, Nat.le_of_ble_eq_true rfl⟩ (fun H locs hW => ?_)
              exact hret 187 _ _ _ _ _ _ _ dL_act_187 hW rfl rfl (by decide) (by decide)
            · exact absurd c_167 (by decide)
          · exact absurd c_147 (by decide)
        · exact absurd c_130 (by decide)
    · exact absurd c_34 (by omega)
  · exact absurd c_21 (by omega)
set_option maxRecDepth 100000 in
theorem paq_3 (l : Launch) (D : va_G) (c : Nat → ClassId) (sz : Nat) (wd w1 : va_W) (a0 o : Nat) (v : Int32) (r : Int32) (h21 : lw ((v) >>> ((nI (22)) &&& 31)) 7 = 0) (h34 : 16 ≤ lw v 32) (h114 : ¬ lw v 32 = 16) (h191 : lw v 32 < 20) (hM : ∀ sz, MW l yL_changes wsL_changes rmL_changes D c sz wd [.ref (a0), .int (nI (2)), .int (nI (0 + (lw ((v) >>> ((nI (5)) &&& 31)) 420))), .int (nI (0)), .int (nI (0)), .ref (o)] r w1) : MW l yL_act wsL_act rmL_act D c sz wd [.ref a0, .int v, .ref o] r w1 := by
  refine MW.of (cc := cL_act) (maxL := 6) (by decide) rfl (Nat.le_of_ble_eq_true rfl) ?_
  intro P e s m below meth cd A Q ls hsz S hK hN hSt hV hW hA hl hret
  have hl : lv_has ls 6 [(0, .ref a0), (1, .int v), (2, .ref o)] := hl
  have hw32 := lw_lt v (n := 32) (by decide)
  have hw7 := lw_lt ((v) >>> ((nI (22)) &&& 31)) (n := 7) (by decide)
  refine lv_iload_n S.1 S.2.1 dL_act_0 rfl (lv_at hl 1 rfl) ?_
  refine lv_bipush (v := nI (32)) S.1 S.2.1 dL_act_1 rfl ?_
  refine k_SI (rest := []) S hK hl.1 hW (KFr.nil hW hA) (mL_low l D c  _ v 32 (by first | omega | exact hn0 | assumption | (show 0 < 32; omega) | rfl) (by first | omega | exact hn | assumption | (show 32 < 2147483648; omega) | rfl)) gL_act_L_low rfl pdL_low ⟨⟨rfl, rfl⟩, Nat.le_of_ble_eq_true rfl, Nat.le_of_ble_eq_true rfl⟩ rfl (Nat.le_of_ble_eq_true rfl) dL_act_3 ⟨Nat.le_of_ble_eq_true rfl, Nat.le_of_ble_eq_true rfl⟩ (fun H locs hW => ?_)
  refine lv_istore_n (lv' := [(3, .int (nI (lw v 32))), (0, .ref (a0)), (1, .int (v)), (2, .ref (o))]) S.1 S.2.1 dL_act_6 rfl hl (by decide) rfl (fun ls hl => ?_)
  refine lv_iload_n S.1 S.2.1 dL_act_7 rfl (lv_at hl 2 rfl) ?_
  refine lv_iconst (v := nI (5)) S.1 S.2.1 dL_act_8 rfl ?_
  refine lv_ishr S.1 S.2.1 dL_act_9 ?_
  refine lv_istore (lv' := [(4, .int ((v) >>> ((nI (5)) &&& 31))), (3, .int (nI (lw v 32))), (0, .ref (a0)), (1, .int (v)), (2, .ref (o))]) S.1 S.2.1 dL_act_10 hl (by decide) rfl (fun ls hl => ?_)
  refine lv_iload_n S.1 S.2.1 dL_act_12 rfl (lv_at hl 3 rfl) ?_
  refine lv_bipush (v := nI (22)) S.1 S.2.1 dL_act_13 rfl ?_
  refine lv_ishr S.1 S.2.1 dL_act_15 ?_
  refine lv_bipush (v := nI (7)) S.1 S.2.1 dL_act_16 rfl ?_
  refine k_SI (rest := []) S hK hl.1 hW (KFr.nil hW hA) (mL_low l D c  _ ((v) >>> ((nI (22)) &&& 31)) 7 (by first | omega | exact hn0 | assumption | (show 0 < 7; omega) | rfl) (by first | omega | exact hn | assumption | (show 7 < 2147483648; omega) | rfl)) gL_act_L_low rfl pdL_low ⟨⟨rfl, rfl⟩, Nat.le_of_ble_eq_true rfl, Nat.le_of_ble_eq_true rfl⟩ rfl (Nat.le_of_ble_eq_true rfl) dL_act_18 ⟨Nat.le_of_ble_eq_true rfl, Nat.le_of_ble_eq_true rfl⟩ (fun H locs hW => ?_)
  refine kz_le S (tgt := 28) dL_act_21 (by decide) (by omega) (fun c_21 => ?_) (fun c_21 => ?_)
  · refine lv_iconst (v := nI (0)) S.1 S.2.1 dL_act_28 rfl ?_
    refine lv_istore (lv' := [(5, .int (nI (0))), (4, .int ((v) >>> ((nI (5)) &&& 31))), (3, .int (nI (lw v 32))), (0, .ref (a0)), (1, .int (v)), (2, .ref (o))]) S.1 S.2.1 dL_act_29 hl (by decide) rfl (fun ls hl => ?_)
    refine lv_iload_n S.1 S.2.1 dL_act_31 rfl (lv_at hl 2 rfl) ?_
    refine lv_bipush (v := nI (16)) S.1 S.2.1 dL_act_32 rfl ?_
    refine kn_ge S (tgt := 111) dL_act_34 (by decide) (by omega) (by omega) (fun c_34 => ?_) (fun c_34 => ?_)
    · refine lv_iload_n S.1 S.2.1 dL_act_111 rfl (lv_at hl 2 rfl) ?_
      refine lv_bipush (v := nI (16)) S.1 S.2.1 dL_act_112 rfl ?_
      refine kn_ne S (tgt := 188) dL_act_114 (by decide) (by omega) (by omega) (fun c_114 => ?_) (fun c_114 => ?_)
      · refine lv_iload_n S.1 S.2.1 dL_act_188 rfl (lv_at hl 2 rfl) ?_
        refine lv_bipush (v := nI (20)) S.1 S.2.1 dL_act_189 rfl ?_
        refine kn_ge S (tgt := 233) dL_act_191 (by decide) (by omega) (by omega) (fun c_191 => ?_) (fun c_191 => ?_)
        · exact absurd c_191 (by omega)
        · refine lv_aload_n S.1 S.2.1 dL_act_194 rfl (lv_at hl 3 rfl) ?_
          refine lv_iconst (v := nI (2)) S.1 S.2.1 dL_act_195 rfl ?_
          refine lv_iload S.1 S.2.1 dL_act_196 (lv_at hl 0 rfl) ?_
          refine kz_eq S (tgt := 205) dL_act_198 (by decide) (by omega) (fun c_198 => ?_) (fun c_198 => ?_)
          · refine lv_iconst (v := nI (0)) S.1 S.2.1 dL_act_205 rfl ?_
            refine lv_iload S.1 S.2.1 dL_act_206 (lv_at hl 1 rfl) ?_
            refine lv_iload S.1 S.2.1 dL_act_208 (lv_at hl 0 rfl) ?_
            refine kz_eq S (tgt := 219) dL_act_210 (by decide) (by omega) (fun c_210 => ?_) (fun c_210 => ?_)
            · refine lv_sipush (v := nI (420)) S.1 S.2.1 dL_act_219 rfl ?_
              refine k_SI (rest := [.int (nI (0)), .int (nI (2)), .ref (a0)]) S hK hl.1 hW (KFr.nil hW hA) (mL_low l D c  _ ((v) >>> ((nI (5)) &&& 31)) 420 (by first | omega | exact hn0 | assumption | (show 0 < 420; omega) | rfl) (by first | omega | exact hn | assumption | (show 420 < 2147483648; omega) | rfl)) gL_act_L_low rfl pdL_low ⟨⟨rfl, rfl⟩, Nat.le_of_ble_eq_true rfl, Nat.le_of_ble_eq_true rfl⟩ rfl (Nat.le_of_ble_eq_true rfl) dL_act_222 ⟨Nat.le_of_ble_eq_true rfl, Nat.le_of_ble_eq_true rfl⟩ (fun H locs hW => ?_)
              refine kn_iadd S dL_act_225 ?_
              refine lv_iconst (v := nI (0)) S.1 S.2.1 dL_act_226 rfl ?_
              refine lv_iconst (v := nI (0)) S.1 S.2.1 dL_act_227 rfl ?_
              refine lv_aload_n S.1 S.2.1 dL_act_228 rfl (lv_at hl 5 rfl) ?_
              refine k_SW (rest := []) S hK hl.1 hW (KFr.all hW hA) hN hSt hV (hM _) gL_act_L_changes rfl pdL_changes ⟨⟨rfl, rfl⟩, Nat.le_of_ble_eq_true rfl, Nat.le_of_ble_eq_true rfl⟩ rfl (Nat.le_of_ble_eq_true rfl) dL_act_229 ⟨Nat.le_of_ble_eq_true rfl, Nat.le_of_ble_eq_true rfl⟩ (fun H locs hW => ?_)
              exact hret 232 _ _ _ _ _ _ _ dL_act_232 hW rfl rfl (by decide) (by decide)
            · exact absurd c_210 (by decide)
          · exact absurd c_198 (by decide)
      · exact absurd c_114 (by omega)
    · exact absurd c_34 (by omega)
  · exact absurd c_21 (by omega)
set_option maxRecDepth 100000 in
theorem paq_4 (l : Launch) (D : va_G) (c : Nat → ClassId) (sz : Nat) (wd w1 : va_W) (a0 o : Nat) (v : Int32) (r : Int32) (h21 : lw ((v) >>> ((nI (22)) &&& 31)) 7 = 0) (h34 : 16 ≤ lw v 32) (h114 : ¬ lw v 32 = 16) (h191 : 20 ≤ lw v 32) (h236 : lw v 32 < 22) (h243 : lw v 32 = 20) (hM : ∀ sz, MW l yL_changes wsL_changes rmL_changes D c sz wd [.ref (a0), .int (nI (3)), .int (nI (lw ((v) >>> ((nI (5)) &&& 31)) 11)), .int (nI (0)), .int (nI (0)), .ref (o)] r w1) : MW l yL_act wsL_act rmL_act D c sz wd [.ref a0, .int v, .ref o] r w1 := by
  refine MW.of (cc := cL_act) (maxL := 6) (by decide) rfl (Nat.le_of_ble_eq_true rfl) ?_
  intro P e s m below meth cd A Q ls hsz S hK hN hSt hV hW hA hl hret
  have hl : lv_has ls 6 [(0, .ref a0), (1, .int v), (2, .ref o)] := hl
  have hw32 := lw_lt v (n := 32) (by decide)
  have hw7 := lw_lt ((v) >>> ((nI (22)) &&& 31)) (n := 7) (by decide)
  refine lv_iload_n S.1 S.2.1 dL_act_0 rfl (lv_at hl 1 rfl) ?_
  refine lv_bipush (v := nI (32)) S.1 S.2.1 dL_act_1 rfl ?_
  refine k_SI (rest := []) S hK hl.1 hW (KFr.nil hW hA) (mL_low l D c  _ v 32 (by first | omega | exact hn0 | assumption | (show 0 < 32; omega) | rfl) (by first | omega | exact hn | assumption | (show 32 < 2147483648; omega) | rfl)) gL_act_L_low rfl pdL_low ⟨⟨rfl, rfl⟩, Nat.le_of_ble_eq_true rfl, Nat.le_of_ble_eq_true rfl⟩ rfl (Nat.le_of_ble_eq_true rfl) dL_act_3 ⟨Nat.le_of_ble_eq_true rfl, Nat.le_of_ble_eq_true rfl⟩ (fun H locs hW => ?_)
  refine lv_istore_n (lv' := [(3, .int (nI (lw v 32))), (0, .ref (a0)), (1, .int (v)), (2, .ref (o))]) S.1 S.2.1 dL_act_6 rfl hl (by decide) rfl (fun ls hl => ?_)
  refine lv_iload_n S.1 S.2.1 dL_act_7 rfl (lv_at hl 2 rfl) ?_
  refine lv_iconst (v := nI (5)) S.1 S.2.1 dL_act_8 rfl ?_
  refine lv_ishr S.1 S.2.1 dL_act_9 ?_
  refine lv_istore (lv' := [(4, .int ((v) >>> ((nI (5)) &&& 31))), (3, .int (nI (lw v 32))), (0, .ref (a0)), (1, .int (v)), (2, .ref (o))]) S.1 S.2.1 dL_act_10 hl (by decide) rfl (fun ls hl => ?_)
  refine lv_iload_n S.1 S.2.1 dL_act_12 rfl (lv_at hl 3 rfl) ?_
  refine lv_bipush (v := nI (22)) S.1 S.2.1 dL_act_13 rfl ?_
  refine lv_ishr S.1 S.2.1 dL_act_15 ?_
  refine lv_bipush (v := nI (7)) S.1 S.2.1 dL_act_16 rfl ?_
  refine k_SI (rest := []) S hK hl.1 hW (KFr.nil hW hA) (mL_low l D c  _ ((v) >>> ((nI (22)) &&& 31)) 7 (by first | omega | exact hn0 | assumption | (show 0 < 7; omega) | rfl) (by first | omega | exact hn | assumption | (show 7 < 2147483648; omega) | rfl)) gL_act_L_low rfl pdL_low ⟨⟨rfl, rfl⟩, Nat.le_of_ble_eq_true rfl, Nat.le_of_ble_eq_true rfl⟩ rfl (Nat.le_of_ble_eq_true rfl) dL_act_18 ⟨Nat.le_of_ble_eq_true rfl, Nat.le_of_ble_eq_true rfl⟩ (fun H locs hW => ?_)
  refine kz_le S (tgt := 28) dL_act_21 (by decide) (by omega) (fun c_21 => ?_) (fun c_21 => ?_)
  · refine lv_iconst (v := nI (0)) S.1 S.2.1 dL_act_28 rfl ?_
    refine lv_istore (lv' := [(5, .int (nI (0))), (4, .int ((v) >>> ((nI (5)) &&& 31))), (3, .int (nI (lw v 32))), (0, .ref (a0)), (1, .int (v)), (2, .ref (o))]) S.1 S.2.1 dL_act_29 hl (by decide) rfl (fun ls hl => ?_)
    refine lv_iload_n S.1 S.2.1 dL_act_31 rfl (lv_at hl 2 rfl) ?_
    refine lv_bipush (v := nI (16)) S.1 S.2.1 dL_act_32 rfl ?_
    refine kn_ge S (tgt := 111) dL_act_34 (by decide) (by omega) (by omega) (fun c_34 => ?_) (fun c_34 => ?_)
    · refine lv_iload_n S.1 S.2.1 dL_act_111 rfl (lv_at hl 2 rfl) ?_
      refine lv_bipush (v := nI (16)) S.1 S.2.1 dL_act_112 rfl ?_
      refine kn_ne S (tgt := 188) dL_act_114 (by decide) (by omega) (by omega) (fun c_114 => ?_) (fun c_114 => ?_)
      · refine lv_iload_n S.1 S.2.1 dL_act_188 rfl (lv_at hl 2 rfl) ?_
        refine lv_bipush (v := nI (20)) S.1 S.2.1 dL_act_189 rfl ?_
        refine kn_ge S (tgt := 233) dL_act_191 (by decide) (by omega) (by omega) (fun c_191 => ?_) (fun c_191 => ?_)
        · refine lv_iload_n S.1 S.2.1 dL_act_233 rfl (lv_at hl 2 rfl) ?_
          refine lv_bipush (v := nI (22)) S.1 S.2.1 dL_act_234 rfl ?_
          refine kn_ge S (tgt := 284) dL_act_236 (by decide) (by omega) (by omega) (fun c_236 => ?_) (fun c_236 => ?_)
          · exact absurd c_236 (by omega)
          · refine lv_aload_n S.1 S.2.1 dL_act_239 rfl (lv_at hl 3 rfl) ?_
            refine lv_iload_n S.1 S.2.1 dL_act_240 rfl (lv_at hl 2 rfl) ?_
            refine lv_bipush (v := nI (20)) S.1 S.2.1 dL_act_241 rfl ?_
            refine kn_ne S (tgt := 250) dL_act_243 (by decide) (by omega) (by omega) (fun c_243 => ?_) (fun c_243 => ?_)
            · exact absurd c_243 (by omega)
            · refine lv_iconst (v := nI (3)) S.1 S.2.1 dL_act_246 rfl ?_
              refine lv_goto (tgt := 251) S.1 S.2.1 dL_act_247 (by decide) ?_
              refine lv_iload S.1 S.2.1 dL_act_251 (lv_at hl 1 rfl) ?_
              refine lv_iload_n S.1 S.2.1 dL_act_253 rfl (lv_at hl 2 rfl) ?_
              refine lv_bipush (v := nI (20)) S.1 S.2.1 dL_act_254 rfl ?_
              refine kn_ne S (tgt := 264) dL_act_256 (by decide) (by omega) (by omega) (fun c_256 => ?_) (fun c_256 => ?_)
              · exact absurd c_256 (by omega)
              · refine lv_bipush (v := nI (11)) S.1 S.2.1 dL_act_259 rfl ?_
                refine lv_goto (tgt := 274) S.1 S.2.1 dL_act_261 (by decide) ?_
                refine k_SI (rest := [.int (nI (3)), .ref (a0)]) S hK hl.1 hW (KFr.nil hW hA) (mL_low l D c  _ ((v) >>> ((nI (5)) &&& 31)) 11 (by first | omega | exact hn0 | assumption | (show 0 < 11; omega) | rfl) (by first | omega | exact hn | assumption | (show 11 < 2147483648; omega) | rfl)) gL_act_L_low rfl pdL_low ⟨⟨rfl, rfl⟩, Nat.le_of_ble_eq_true rfl, Nat.le_of_ble_eq_true rfl⟩ rfl (Nat.le_of_ble_eq_true rfl) dL_act_274 ⟨Nat.le_of_ble_eq_true rfl, Nat.le_of_ble_eq_true rfl⟩ (fun H locs hW => ?_)
                refine lv_iconst (v := nI (0)) S.1 S.2.1 dL_act_277 rfl ?_
                refine lv_iconst (v := nI (0)) S.1 S.2.1 dL_act_278 rfl ?_
                refine lv_aload_n S.1 S.2.1 dL_act_279 rfl (lv_at hl 5 rfl) ?_
                refine k_SW (rest := []) S hK hl.1 hW (KFr.all hW hA) hN hSt hV (hM _) gL_act_L_changes rfl pdL_changes ⟨⟨rfl, rfl⟩, Nat.le_of_ble_eq_true rfl, Nat.le_of_ble_eq_true rfl⟩ rfl (Nat.le_of_ble_eq_true rfl) dL_act_280 ⟨Nat.le_of_ble_eq_true rfl, Nat.le_of_ble_eq_true rfl⟩ (fun H locs hW => ?_)
                exact hret 283 _ _ _ _ _ _ _ dL_act_283 hW rfl rfl (by decide) (by decide)
        · exact absurd c_191 (by omega)
      · exact absurd c_114 (by omega)
    · exact absurd c_34 (by omega)
  · exact absurd c_21 (by omega)
set_option maxRecDepth 100000 in
theorem paq_5 (l : Launch) (D : va_G) (c : Nat → ClassId) (sz : Nat) (wd w1 : va_W) (a0 o : Nat) (v : Int32) (r : Int32) (h21 : lw ((v) >>> ((nI (22)) &&& 31)) 7 = 0) (h34 : 16 ≤ lw v 32) (h114 : ¬ lw v 32 = 16) (h191 : 20 ≤ lw v 32) (h236 : lw v 32 < 22) (h243 : ¬ lw v 32 = 20) (hM : ∀ sz, MW l yL_changes wsL_changes rmL_changes D c sz wd [.ref (a0), .int (nI (4)), .int (nI (lw ((v) >>> ((nI (5)) &&& 31)) 4)), .int (nI (0)), .int (nI (0)), .ref (o)] r w1) : MW l yL_act wsL_act rmL_act D c sz wd [.ref a0, .int v, .ref o] r w1 := by
  refine MW.of (cc := cL_act) (maxL := 6) (by decide) rfl (Nat.le_of_ble_eq_true rfl) ?_
  intro P e s m below meth cd A Q ls hsz S hK hN hSt hV hW hA hl hret
  have hl : lv_has ls 6 [(0, .ref a0), (1, .int v), (2, .ref o)] := hl
  have hw32 := lw_lt v (n := 32) (by decide)
  have hw7 := lw_lt ((v) >>> ((nI (22)) &&& 31)) (n := 7) (by decide)
  refine lv_iload_n S.1 S.2.1 dL_act_0 rfl (lv_at hl 1 rfl) ?_
  refine lv_bipush (v := nI (32)) S.1 S.2.1 dL_act_1 rfl ?_
  refine k_SI (rest := []) S hK hl.1 hW (KFr.nil hW hA) (mL_low l D c  _ v 32 (by first | omega | exact hn0 | assumption | (show 0 < 32; omega) | rfl) (by first | omega | exact hn | assumption | (show 32 < 2147483648; omega) | rfl)) gL_act_L_low rfl pdL_low ⟨⟨rfl, rfl⟩, Nat.le_of_ble_eq_true rfl, Nat.le_of_ble_eq_true rfl⟩ rfl (Nat.le_of_ble_eq_true rfl) dL_act_3 ⟨Nat.le_of_ble_eq_true rfl, Nat.le_of_ble_eq_true rfl⟩ (fun H locs hW => ?_)
  refine lv_istore_n (lv' := [(3, .int (nI (lw v 32))), (0, .ref (a0)), (1, .int (v)), (2, .ref (o))]) S.1 S.2.1 dL_act_6 rfl hl (by decide) rfl (fun ls hl => ?_)
  refine lv_iload_n S.1 S.2.1 dL_act_7 rfl (lv_at hl 2 rfl) ?_
  refine lv_iconst (v := nI (5)) S.1 S.2.1 dL_act_8 rfl ?_
  refine lv_ishr S.1 S.2.1 dL_act_9 ?_
  refine lv_istore (lv' := [(4, .int ((v) >>> ((nI (5)) &&& 31))), (3, .int (nI (lw v 32))), (0, .ref (a0)), (1, .int (v)), (2, .ref (o))]) S.1 S.2.1 dL_act_10 hl (by decide) rfl (fun ls hl => ?_)
  refine lv_iload_n S.1 S.2.1 dL_act_12 rfl (lv_at hl 3 rfl) ?_
  refine lv_bipush (v := nI (22)) S.1 S.2.1 dL_act_13 rfl ?_
  refine lv_ishr S.1 S.2.1 dL_act_15 ?_
  refine lv_bipush (v := nI (7)) S.1 S.2.1 dL_act_16 rfl ?_
  refine k_SI (rest := []) S hK hl.1 hW (KFr.nil hW hA) (mL_low l D c  _ ((v) >>> ((nI (22)) &&& 31)) 7 (by first | omega | exact hn0 | assumption | (show 0 < 7; omega) | rfl) (by first | omega | exact hn | assumption | (show 7 < 2147483648; omega) | rfl)) gL_act_L_low rfl pdL_low ⟨⟨rfl, rfl⟩, Nat.le_of_ble_eq_true rfl, Nat.le_of_ble_eq_true rfl⟩ rfl (Nat.le_of_ble_eq_true rfl) dL_act_18 ⟨Nat.le_of_ble_eq_true rfl, Nat.le_of_ble_eq_true rfl⟩ (fun H locs hW => ?_)
  refine kz_le S (tgt := 28) dL_act_21 (by decide) (by omega) (fun c_21 => ?_) (fun c_21 => ?_)
  · refine lv_iconst (v := nI (0)) S.1 S.2.1 dL_act_28 rfl ?_
    refine lv_istore (lv' := [(5, .int (nI (0))), (4, .int ((v) >>> ((nI (5)) &&& 31))), (3, .int (nI (lw v 32))), (0, .ref (a0)), (1, .int (v)), (2, .ref (o))]) S.1 S.2.1 dL_act_29 hl (by decide) rfl (fun ls hl => ?_)
    refine lv_iload_n S.1 S.2.1 dL_act_31 rfl (lv_at hl 2 rfl) ?_
    refine lv_bipush (v := nI (16)) S.1 S.2.1 dL_act_32 rfl ?_
    refine kn_ge S (tgt := 111) dL_act_34 (by decide) (by omega) (by omega) (fun c_34 => ?_) (fun c_34 => ?_)
    · refine lv_iload_n S.1 S.2.1 dL_act_111 rfl (lv_at hl 2 rfl) ?_
      refine lv_bipush (v := nI (16)) S.1 S.2.1 dL_act_112 rfl ?_
      refine kn_ne S (tgt := 188) dL_act_114 (by decide) (by omega) (by omega) (fun c_114 => ?_) (fun c_114 => ?_)
      · refine lv_iload_n S.1 S.2.1 dL_act_188 rfl (lv_at hl 2 rfl) ?_
        refine lv_bipush (v := nI (20)) S.1 S.2.1 dL_act_189 rfl ?_
        refine kn_ge S (tgt := 233) dL_act_191 (by decide) (by omega) (by omega) (fun c_191 => ?_) (fun c_191 => ?_)
        · refine lv_iload_n S.1 S.2.1 dL_act_233 rfl (lv_at hl 2 rfl) ?_
          refine lv_bipush (v := nI (22)) S.1 S.2.1 dL_act_234 rfl ?_
          refine kn_ge S (tgt := 284) dL_act_236 (by decide) (by omega) (by omega) (fun c_236 => ?_) (fun c_236 => ?_)
          · exact absurd c_236 (by omega)
          · refine lv_aload_n S.1 S.2.1 dL_act_239 rfl (lv_at hl 3 rfl) ?_
            refine lv_iload_n S.1 S.2.1 dL_act_240 rfl (lv_at hl 2 rfl) ?_
            refine lv_bipush (v := nI (20)) S.1 S.2.1 dL_act_241 rfl ?_
            refine kn_ne S (tgt := 250) dL_act_243 (by decide) (by omega) (by omega) (fun c_243 => ?_) (fun c_243 => ?_)
            · refine lv_iconst (v := nI (4)) S.1 S.2.1 dL_act_250 rfl ?_
              refine lv_iload S.1 S.2.1 dL_act_251 (lv_at hl 1 rfl) ?_
              refine lv_iload_n S.1 S.2.1 dL_act_253 rfl (lv_at hl 2 rfl) ?_
              refine lv_bipush (v := nI (20)) S.1 S.2.1 dL_act_254 rfl ?_
              refine kn_ne S (tgt := 264) dL_act_256 (by decide) (by omega) (by omega) (fun c_256 => ?_) (fun c_256 => ?_)
              · refine lv_iload S.1 S.2.1 dL_act_264 (lv_at hl 0 rfl) ?_
                refine kz_eq S (tgt := 273) dL_act_266 (by decide) (by omega) (fun c_266 => ?_) (fun c_266 => ?_)
                · refine lv_iconst (v := nI (4)) S.1 S.2.1 dL_act_273 rfl ?_
                  refine k_SI (rest := [.int (nI (4)), .ref (a0)]) S hK hl.1 hW (KFr.nil hW hA) (mL_low l D c  _ ((v) >>> ((nI (5)) &&& 31)) 4 (by first | omega | exact hn0 | assumption | (show 0 < 4; omega) | rfl) (by first | omega | exact hn | assumption | (show 4 < 2147483648; omega) | rfl)) gL_act_L_low rfl pdL_low ⟨⟨rfl, rfl⟩, Nat.le_of_ble_eq_true rfl, Nat.le_of_ble_eq_true rfl⟩ rfl (Nat.le_of_ble_eq_true rfl) dL_act_274 ⟨Nat.le_of_ble_eq_true rfl, Nat.le_of_ble_eq_true rfl⟩ (fun H locs hW => ?_)
                  refine lv_iconst (v := nI (0)) S.1 S.2.1 dL_act_277 rfl ?_
                  refine lv_iconst (v := nI (0)) S.1 S.2.1 dL_act_278 rfl ?_
                  refine lv_aload_n S.1 S.2.1 dL_act_279 rfl (lv_at hl 5 rfl) ?_
                  refine k_SW (rest := []) S hK hl.1 hW (KFr.all hW hA) hN hSt hV (hM _) gL_act_L_changes rfl pdL_changes ⟨⟨rfl, rfl⟩, Nat.le_of_ble_eq_true rfl, Nat.le_of_ble_eq_true rfl⟩ rfl (Nat.le_of_ble_eq_true rfl) dL_act_280 ⟨Nat.le_of_ble_eq_true rfl, Nat.le_of_ble_eq_true rfl⟩ (fun H locs hW => ?_)
                  exact hret 283 _ _ _ _ _ _ _ dL_act_283 hW rfl rfl (by decide) (by decide)
                · exact absurd c_266 (by decide)
              · exact absurd c_256 (by omega)
            · exact absurd c_243 (by omega)
        · exact absurd c_191 (by omega)
      · exact absurd c_114 (by omega)
    · exact absurd c_34 (by omega)
  · exact absurd c_21 (by omega)
set_option maxRecDepth 100000 in
theorem paq_6 (l : Launch) (D : va_G) (c : Nat → ClassId) (sz : Nat) (wd w1 : va_W) (a0 o : Nat) (v : Int32) (r : Int32) (h21 : lw ((v) >>> ((nI (22)) &&& 31)) 7 = 0) (h34 : 16 ≤ lw v 32) (h114 : ¬ lw v 32 = 16) (h191 : 20 ≤ lw v 32) (h236 : 22 ≤ lw v 32) (h287 : lw v 32 = 22) (hM : ∀ sz, MW l yL_changes wsL_changes rmL_changes D c sz wd [.ref (a0), .int (nI (6)), .int (nI (lw ((v) >>> ((nI (5)) &&& 31)) 14)), .int (nI (0)), .int (nI (0)), .ref (o)] r w1) : MW l yL_act wsL_act rmL_act D c sz wd [.ref a0, .int v, .ref o] r w1 := by
  refine MW.of (cc := cL_act) (maxL := 6) (by decide) rfl (Nat.le_of_ble_eq_true rfl) ?_
  intro P e s m below meth cd A Q ls hsz S hK hN hSt hV hW hA hl hret
  have hl : lv_has ls 6 [(0, .ref a0), (1, .int v), (2, .ref o)] := hl
  have hw32 := lw_lt v (n := 32) (by decide)
  have hw7 := lw_lt ((v) >>> ((nI (22)) &&& 31)) (n := 7) (by decide)
  refine lv_iload_n S.1 S.2.1 dL_act_0 rfl (lv_at hl 1 rfl) ?_
  refine lv_bipush (v := nI (32)) S.1 S.2.1 dL_act_1 rfl ?_
  refine k_SI (rest := []) S hK hl.1 hW (KFr.nil hW hA) (mL_low l D c  _ v 32 (by first | omega | exact hn0 | assumption | (show 0 < 32; omega) | rfl) (by first | omega | exact hn | assumption | (show 32 < 2147483648; omega) | rfl)) gL_act_L_low rfl pdL_low ⟨⟨rfl, rfl⟩, Nat.le_of_ble_eq_true rfl, Nat.le_of_ble_eq_true rfl⟩ rfl (Nat.le_of_ble_eq_true rfl) dL_act_3 ⟨Nat.le_of_ble_eq_true rfl, Nat.le_of_ble_eq_true rfl⟩ (fun H locs hW => ?_)
  refine lv_istore_n (lv' := [(3, .int (nI (lw v 32))), (0, .ref (a0)), (1, .int (v)), (2, .ref (o))]) S.1 S.2.1 dL_act_6 rfl hl (by decide) rfl (fun ls hl => ?_)
  refine lv_iload_n S.1 S.2.1 dL_act_7 rfl (lv_at hl 2 rfl) ?_
  refine lv_iconst (v := nI (5)) S.1 S.2.1 dL_act_8 rfl ?_
  refine lv_ishr S.1 S.2.1 dL_act_9 ?_
  refine lv_istore (lv' := [(4, .int ((v) >>> ((nI (5)) &&& 31))), (3, .int (nI (lw v 32))), (0, .ref (a0)), (1, .int (v)), (2, .ref (o))]) S.1 S.2.1 dL_act_10 hl (by decide) rfl (fun ls hl => ?_)
  refine lv_iload_n S.1 S.2.1 dL_act_12 rfl (lv_at hl 3 rfl) ?_
  refine lv_bipush (v := nI (22)) S.1 S.2.1 dL_act_13 rfl ?_
  refine lv_ishr S.1 S.2.1 dL_act_15 ?_
  refine lv_bipush (v := nI (7)) S.1 S.2.1 dL_act_16 rfl ?_
  refine k_SI (rest := []) S hK hl.1 hW (KFr.nil hW hA) (mL_low l D c  _ ((v) >>> ((nI (22)) &&& 31)) 7 (by first | omega | exact hn0 | assumption | (show 0 < 7; omega) | rfl) (by first | omega | exact hn | assumption | (show 7 < 2147483648; omega) | rfl)) gL_act_L_low rfl pdL_low ⟨⟨rfl, rfl⟩, Nat.le_of_ble_eq_true rfl, Nat.le_of_ble_eq_true rfl⟩ rfl (Nat.le_of_ble_eq_true rfl) dL_act_18 ⟨Nat.le_of_ble_eq_true rfl, Nat.le_of_ble_eq_true rfl⟩ (fun H locs hW => ?_)
  refine kz_le S (tgt := 28) dL_act_21 (by decide) (by omega) (fun c_21 => ?_) (fun c_21 => ?_)
  · refine lv_iconst (v := nI (0)) S.1 S.2.1 dL_act_28 rfl ?_
    refine lv_istore (lv' := [(5, .int (nI (0))), (4, .int ((v) >>> ((nI (5)) &&& 31))), (3, .int (nI (lw v 32))), (0, .ref (a0)), (1, .int (v)), (2, .ref (o))]) S.1 S.2.1 dL_act_29 hl (by decide) rfl (fun ls hl => ?_)
    refine lv_iload_n S.1 S.2.1 dL_act_31 rfl (lv_at hl 2 rfl) ?_
    refine lv_bipush (v := nI (16)) S.1 S.2.1 dL_act_32 rfl ?_
    refine kn_ge S (tgt := 111) dL_act_34 (by decide) (by omega) (by omega) (fun c_34 => ?_) (fun c_34 => ?_)
    · refine lv_iload_n S.1 S.2.1 dL_act_111 rfl (lv_at hl 2 rfl) ?_
      refine lv_bipush (v := nI (16)) S.1 S.2.1 dL_act_112 rfl ?_
      refine kn_ne S (tgt := 188) dL_act_114 (by decide) (by omega) (by omega) (fun c_114 => ?_) (fun c_114 => ?_)
      · refine lv_iload_n S.1 S.2.1 dL_act_188 rfl (lv_at hl 2 rfl) ?_
        refine lv_bipush (v := nI (20)) S.1 S.2.1 dL_act_189 rfl ?_
        refine kn_ge S (tgt := 233) dL_act_191 (by decide) (by omega) (by omega) (fun c_191 => ?_) (fun c_191 => ?_)
        · refine lv_iload_n S.1 S.2.1 dL_act_233 rfl (lv_at hl 2 rfl) ?_
          refine lv_bipush (v := nI (22)) S.1 S.2.1 dL_act_234 rfl ?_
          refine kn_ge S (tgt := 284) dL_act_236 (by decide) (by omega) (by omega) (fun c_236 => ?_) (fun c_236 => ?_)
          · refine lv_iload_n S.1 S.2.1 dL_act_284 rfl (lv_at hl 2 rfl) ?_
            refine lv_bipush (v := nI (22)) S.1 S.2.1 dL_act_285 rfl ?_
            refine kn_ne S (tgt := 319) dL_act_287 (by decide) (by omega) (by omega) (fun c_287 => ?_) (fun c_287 => ?_)
            · exact absurd c_287 (by omega)
            · refine lv_aload_n S.1 S.2.1 dL_act_290 rfl (lv_at hl 3 rfl) ?_
              refine lv_bipush (v := nI (6)) S.1 S.2.1 dL_act_291 rfl ?_
              refine lv_iload S.1 S.2.1 dL_act_293 (lv_at hl 1 rfl) ?_
              refine lv_iload S.1 S.2.1 dL_act_295 (lv_at hl 0 rfl) ?_
              refine kz_eq S (tgt := 305) dL_act_297 (by decide) (by omega) (fun c_297 => ?_) (fun c_297 => ?_)
              · refine lv_bipush (v := nI (14)) S.1 S.2.1 dL_act_305 rfl ?_
                refine k_SI (rest := [.int (nI (6)), .ref (a0)]) S hK hl.1 hW (KFr.nil hW hA) (mL_low l D c  _ ((v) >>> ((nI (5)) &&& 31)) 14 (by first | omega | exact hn0 | assumption | (show 0 < 14; omega) | rfl) (by first | omega | exact hn | assumption | (show 14 < 2147483648; omega) | rfl)) gL_act_L_low rfl pdL_low ⟨⟨rfl, rfl⟩, Nat.le_of_ble_eq_true rfl, Nat.le_of_ble_eq_true rfl⟩ rfl (Nat.le_of_ble_eq_true rfl) dL_act_307 ⟨Nat.le_of_ble_eq_true rfl, Nat.le_of_ble_eq_true rfl⟩ (fun H locs hW => ?_)
                refine lv_iconst (v := nI (0)) S.1 S.2.1 dL_act_310 rfl ?_
                refine lv_iconst (v := nI (0)) S.1 S.2.1 dL_act_311 rfl ?_
                refine lv_aload_n S.1 S.2.1 dL_act_312 rfl (lv_at hl 5 rfl) ?_
                refine k_SW (rest := []) S hK hl.1 hW (KFr.all hW hA) hN hSt hV (hM _) gL_act_L_changes rfl pdL_changes ⟨⟨rfl, rfl⟩, Nat.le_of_ble_eq_true rfl, Nat.le_of_ble_eq_true rfl⟩ rfl (Nat.le_of_ble_eq_true rfl) dL_act_313 ⟨Nat.le_of_ble_eq_true rfl, Nat.le_of_ble_eq_true rfl⟩ (fun H locs hW => ?_)
                refine lv_goto (tgt := 397) S.1 S.2.1 dL_act_316 (by decide) ?_
                exact hret 397 _ _ _ _ _ _ _ dL_act_397 hW rfl rfl (by decide) (by decide)
              · exact absurd c_297 (by decide)
          · exact absurd c_236 (by omega)
        · exact absurd c_191 (by omega)
      · exact absurd c_114 (by omega)
    · exact absurd c_34 (by omega)
  · exact absurd c_21 (by omega)
set_option maxRecDepth 100000 in
theorem paq_7 (l : Launch) (D : va_G) (c : Nat → ClassId) (sz : Nat) (wd w1 : va_W) (a0 o : Nat) (v : Int32) (r : Int32) (h21 : lw ((v) >>> ((nI (22)) &&& 31)) 7 = 0) (h34 : 16 ≤ lw v 32) (h114 : ¬ lw v 32 = 16) (h191 : 20 ≤ lw v 32) (h236 : 22 ≤ lw v 32) (h287 : ¬ lw v 32 = 22) (h322 : lw v 32 < 25) (hM : ∀ sz, MW l yL_changes wsL_changes rmL_changes D c sz wd [.ref (a0), .int (nI (7)), .int (nI (lw ((v) >>> ((nI (5)) &&& 31)) 6)), .int (nI (lw (((v) >>> ((nI (5)) &&& 31)) >>> ((nI (3)) &&& 31)) 100)), .int (nI (0)), .ref (o)] r w1) : MW l yL_act wsL_act rmL_act D c sz wd [.ref a0, .int v, .ref o] r w1 := by
  refine MW.of (cc := cL_act) (maxL := 6) (by decide) rfl (Nat.le_of_ble_eq_true rfl) ?_
  intro P e s m below meth cd A Q ls hsz S hK hN hSt hV hW hA hl hret
  have hl : lv_has ls 6 [(0, .ref a0), (1, .int v), (2, .ref o)] := hl
  have hw32 := lw_lt v (n := 32) (by decide)
  have hw7 := lw_lt ((v) >>> ((nI (22)) &&& 31)) (n := 7) (by decide)
  refine lv_iload_n S.1 S.2.1 dL_act_0 rfl (lv_at hl 1 rfl) ?_
  refine lv_bipush (v := nI (32)) S.1 S.2.1 dL_act_1 rfl ?_
  refine k_SI (rest := []) S hK hl.1 hW (KFr.nil hW hA) (mL_low l D c  _ v 32 (by first | omega | exact hn0 | assumption | (show 0 < 32; omega) | rfl) (by first | omega | exact hn | assumption | (show 32 < 2147483648; omega) | rfl)) gL_act_L_low rfl pdL_low ⟨⟨rfl, rfl⟩, Nat.le_of_ble_eq_true rfl, Nat.le_of_ble_eq_true rfl⟩ rfl (Nat.le_of_ble_eq_true rfl) dL_act_3 ⟨Nat.le_of_ble_eq_true rfl, Nat.le_of_ble_eq_true rfl⟩ (fun H locs hW => ?_)
  refine lv_istore_n (lv' := [(3, .int (nI (lw v 32))), (0, .ref (a0)), (1, .int (v)), (2, .ref (o))]) S.1 S.2.1 dL_act_6 rfl hl (by decide) rfl (fun ls hl => ?_)
  refine lv_iload_n S.1 S.2.1 dL_act_7 rfl (lv_at hl 2 rfl) ?_
  refine lv_iconst (v := nI (5)) S.1 S.2.1 dL_act_8 rfl ?_
  refine lv_ishr S.1 S.2.1 dL_act_9 ?_
  refine lv_istore (lv' := [(4, .int ((v) >>> ((nI (5)) &&& 31))), (3, .int (nI (lw v 32))), (0, .ref (a0)), (1, .int (v)), (2, .ref (o))]) S.1 S.2.1 dL_act_10 hl (by decide) rfl (fun ls hl => ?_)
  refine lv_iload_n S.1 S.2.1 dL_act_12 rfl (lv_at hl 3 rfl) ?_
  refine lv_bipush (v := nI (22)) S.1 S.2.1 dL_act_13 rfl ?_
  refine lv_ishr S.1 S.2.1 dL_act_15 ?_
  refine lv_bipush (v := nI (7)) S.1 S.2.1 dL_act_16 rfl ?_
  refine k_SI (rest := []) S hK hl.1 hW (KFr.nil hW hA) (mL_low l D c  _ ((v) >>> ((nI (22)) &&& 31)) 7 (by first | omega | exact hn0 | assumption | (show 0 < 7; omega) | rfl) (by first | omega | exact hn | assumption | (show 7 < 2147483648; omega) | rfl)) gL_act_L_low rfl pdL_low ⟨⟨rfl, rfl⟩, Nat.le_of_ble_eq_true rfl, Nat.le_of_ble_eq_true rfl⟩ rfl (Nat.le_of_ble_eq_true rfl) dL_act_18 ⟨Nat.le_of_ble_eq_true rfl, Nat.le_of_ble_eq_true rfl⟩ (fun H locs hW => ?_)
  refine kz_le S (tgt := 28) dL_act_21 (by decide) (by omega) (fun c_21 => ?_) (fun c_21 => ?_)
  · refine lv_iconst (v := nI (0)) S.1 S.2.1 dL_act_28 rfl ?_
    refine lv_istore (lv' := [(5, .int (nI (0))), (4, .int ((v) >>> ((nI (5)) &&& 31))), (3, .int (nI (lw v 32))), (0, .ref (a0)), (1, .int (v)), (2, .ref (o))]) S.1 S.2.1 dL_act_29 hl (by decide) rfl (fun ls hl => ?_)
    refine lv_iload_n S.1 S.2.1 dL_act_31 rfl (lv_at hl 2 rfl) ?_
    refine lv_bipush (v := nI (16)) S.1 S.2.1 dL_act_32 rfl ?_
    refine kn_ge S (tgt := 111) dL_act_34 (by decide) (by omega) (by omega) (fun c_34 => ?_) (fun c_34 => ?_)
    · refine lv_iload_n S.1 S.2.1 dL_act_111 rfl (lv_at hl 2 rfl) ?_
      refine lv_bipush (v := nI (16)) S.1 S.2.1 dL_act_112 rfl ?_
      refine kn_ne S (tgt := 188) dL_act_114 (by decide) (by omega) (by omega) (fun c_114 => ?_) (fun c_114 => ?_)
      · refine lv_iload_n S.1 S.2.1 dL_act_188 rfl (lv_at hl 2 rfl) ?_
        refine lv_bipush (v := nI (20)) S.1 S.2.1 dL_act_189 rfl ?_
        refine kn_ge S (tgt := 233) dL_act_191 (by decide) (by omega) (by omega) (fun c_191 => ?_) (fun c_191 => ?_)
        · refine lv_iload_n S.1 S.2.1 dL_act_233 rfl (lv_at hl 2 rfl) ?_
          refine lv_bipush (v := nI (22)) S.1 S.2.1 dL_act_234 rfl ?_
          refine kn_ge S (tgt := 284) dL_act_236 (by decide) (by omega) (by omega) (fun c_236 => ?_) (fun c_236 => ?_)
          · refine lv_iload_n S.1 S.2.1 dL_act_284 rfl (lv_at hl 2 rfl) ?_
            refine lv_bipush (v := nI (22)) S.1 S.2.1 dL_act_285 rfl ?_
            refine kn_ne S (tgt := 319) dL_act_287 (by decide) (by omega) (by omega) (fun c_287 => ?_) (fun c_287 => ?_)
            · refine lv_iload_n S.1 S.2.1 dL_act_319 rfl (lv_at hl 2 rfl) ?_
              refine lv_bipush (v := nI (25)) S.1 S.2.1 dL_act_320 rfl ?_
              refine kn_ge S (tgt := 371) dL_act_322 (by decide) (by omega) (by omega) (fun c_322 => ?_) (fun c_322 => ?_)
              · exact absurd c_322 (by omega)
              · refine lv_aload_n S.1 S.2.1 dL_act_325 rfl (lv_at hl 3 rfl) ?_
                refine lv_bipush (v := nI (7)) S.1 S.2.1 dL_act_326 rfl ?_
                refine lv_iload S.1 S.2.1 dL_act_328 (lv_at hl 1 rfl) ?_
                refine lv_iload S.1 S.2.1 dL_act_330 (lv_at hl 0 rfl) ?_
                refine kz_eq S (tgt := 339) dL_act_332 (by decide) (by omega) (fun c_332 => ?_) (fun c_332 => ?_)
                · refine lv_bipush (v := nI (6)) S.1 S.2.1 dL_act_339 rfl ?_
                  refine k_SI (rest := [.int (nI (7)), .ref (a0)]) S hK hl.1 hW (KFr.nil hW hA) (mL_low l D c  _ ((v) >>> ((nI (5)) &&& 31)) 6 (by first | omega | exact hn0 | assumption | (show 0 < 6; omega) | rfl) (by first | omega | exact hn | assumption | (show 6 < 2147483648; omega) | rfl)) gL_act_L_low rfl pdL_low ⟨⟨rfl, rfl⟩, Nat.le_of_ble_eq_true rfl, Nat.le_of_ble_eq_true rfl⟩ rfl (Nat.le_of_ble_eq_true rfl) dL_act_341 ⟨Nat.le_of_ble_eq_true rfl, Nat.le_of_ble_eq_true rfl⟩ (fun H locs hW => ?_)
                  refine lv_iload S.1 S.2.1 dL_act_344 (lv_at hl 1 rfl) ?_
                  refine lv_iconst (v := nI (3)) S.1 S.2.1 dL_act_346 rfl ?_
                  refine lv_ishr S.1 S.2.1 dL_act_347 ?_
                  refine lv_iload S.1 S.2.1 dL_act_348 (lv_at hl 0 rfl) ?_
                  refine kz_eq S (tgt := 358) dL_act_350 (by decide) (by omega) (fun c_350 => ?_) (fun c_350 => ?_)
                  · refine lv_bipush (v := nI (100)) S.1 S.2.1 dL_act_358 rfl ?_
                    refine k_SI (rest := [.int (nI (lw ((v) >>> ((nI (5)) &&& 31)) 6)), .int (nI (7)), .ref (a0)]) S hK hl.1 hW (KFr.nil hW hA) (mL_low l D c  _ (((v) >>> ((nI (5)) &&& 31)) >>> ((nI (3)) &&& 31)) 100 (by first | omega | exact hn0 | assumption | (show 0 < 100; omega) | rfl) (by first | omega | exact hn | assumption | (show 100 < 2147483648; omega) | rfl)) gL_act_L_low rfl pdL_low ⟨⟨rfl, rfl⟩, Nat.le_of_ble_eq_true rfl, Nat.le_of_ble_eq_true rfl⟩ rfl (Nat.le_of_ble_eq_true rfl) dL_act_360 ⟨Nat.le_of_ble_eq_true rfl, Nat.le_of_ble_eq_true rfl⟩ (fun H locs hW => ?_)
                    refine lv_iconst (v := nI (0)) S.1 S.2.1 dL_act_363 rfl ?_
                    refine lv_aload_n S.1 S.2.1 dL_act_364 rfl (lv_at hl 5 rfl) ?_
                    refine k_SW (rest := []) S hK hl.1 hW (KFr.all hW hA) hN hSt hV (hM _) gL_act_L_changes rfl pdL_changes ⟨⟨rfl, rfl⟩, Nat.le_of_ble_eq_true rfl, Nat.le_of_ble_eq_true rfl⟩ rfl (Nat.le_of_ble_eq_true rfl) dL_act_365 ⟨Nat.le_of_ble_eq_true rfl, Nat.le_of_ble_eq_true rfl⟩ (fun H locs hW => ?_)
                    refine lv_goto (tgt := 397) S.1 S.2.1 dL_act_368 (by decide) ?_
                    exact hret 397 _ _ _ _ _ _ _ dL_act_397 hW rfl rfl (by decide) (by decide)
                  · exact absurd c_350 (by decide)
                · exact absurd c_332 (by decide)
            · exact absurd c_287 (by omega)
          · exact absurd c_236 (by omega)
        · exact absurd c_191 (by omega)
      · exact absurd c_114 (by omega)
    · exact absurd c_34 (by omega)
  · exact absurd c_21 (by omega)
set_option maxRecDepth 100000 in
theorem paq_8 (l : Launch) (D : va_G) (c : Nat → ClassId) (sz : Nat) (wd w1 : va_W) (a0 o : Nat) (v : Int32) (r : Int32) (h21 : lw ((v) >>> ((nI (22)) &&& 31)) 7 = 0) (h34 : 16 ≤ lw v 32) (h114 : ¬ lw v 32 = 16) (h191 : 20 ≤ lw v 32) (h236 : 22 ≤ lw v 32) (h287 : ¬ lw v 32 = 22) (h322 : 25 ≤ lw v 32) (hM : ∀ sz, MW l yL_changes wsL_changes rmL_changes D c sz wd [.ref (a0), .int (nI (5)), .int (nI (lw ((v) >>> ((nI (5)) &&& 31)) 140)), .int (nI (0)), .int (nI (0)), .ref (o)] r w1) : MW l yL_act wsL_act rmL_act D c sz wd [.ref a0, .int v, .ref o] r w1 := by
  refine MW.of (cc := cL_act) (maxL := 6) (by decide) rfl (Nat.le_of_ble_eq_true rfl) ?_
  intro P e s m below meth cd A Q ls hsz S hK hN hSt hV hW hA hl hret
  have hl : lv_has ls 6 [(0, .ref a0), (1, .int v), (2, .ref o)] := hl
  have hw32 := lw_lt v (n := 32) (by decide)
  have hw7 := lw_lt ((v) >>> ((nI (22)) &&& 31)) (n := 7) (by decide)
  refine lv_iload_n S.1 S.2.1 dL_act_0 rfl (lv_at hl 1 rfl) ?_
  refine lv_bipush (v := nI (32)) S.1 S.2.1 dL_act_1 rfl ?_
  refine k_SI (rest := []) S hK hl.1 hW (KFr.nil hW hA) (mL_low l D c  _ v 32 (by first | omega | exact hn0 | assumption | (show 0 < 32; omega) | rfl) (by first | omega | exact hn | assumption | (show 32 < 2147483648; omega) | rfl)) gL_act_L_low rfl pdL_low ⟨⟨rfl, rfl⟩, Nat.le_of_ble_eq_true rfl, Nat.le_of_ble_eq_true rfl⟩ rfl (Nat.le_of_ble_eq_true rfl) dL_act_3 ⟨Nat.le_of_ble_eq_true rfl, Nat.le_of_ble_eq_true rfl⟩ (fun H locs hW => ?_)
  refine lv_istore_n (lv' := [(3, .int (nI (lw v 32))), (0, .ref (a0)), (1, .int (v)), (2, .ref (o))]) S.1 S.2.1 dL_act_6 rfl hl (by decide) rfl (fun ls hl => ?_)
  refine lv_iload_n S.1 S.2.1 dL_act_7 rfl (lv_at hl 2 rfl) ?_
  refine lv_iconst (v := nI (5)) S.1 S.2.1 dL_act_8 rfl ?_
  refine lv_ishr S.1 S.2.1 dL_act_9 ?_
  refine lv_istore (lv' := [(4, .int ((v) >>> ((nI (5)) &&& 31))), (3, .int (nI (lw v 32))), (0, .ref (a0)), (1, .int (v)), (2, .ref (o))]) S.1 S.2.1 dL_act_10 hl (by decide) rfl (fun ls hl => ?_)
  refine lv_iload_n S.1 S.2.1 dL_act_12 rfl (lv_at hl 3 rfl) ?_
  refine lv_bipush (v := nI (22)) S.1 S.2.1 dL_act_13 rfl ?_
  refine lv_ishr S.1 S.2.1 dL_act_15 ?_
  refine lv_bipush (v := nI (7)) S.1 S.2.1 dL_act_16 rfl ?_
  refine k_SI (rest := []) S hK hl.1 hW (KFr.nil hW hA) (mL_low l D c  _ ((v) >>> ((nI (22)) &&& 31)) 7 (by first | omega | exact hn0 | assumption | (show 0 < 7; omega) | rfl) (by first | omega | exact hn | assumption | (show 7 < 2147483648; omega) | rfl)) gL_act_L_low rfl pdL_low ⟨⟨rfl, rfl⟩, Nat.le_of_ble_eq_true rfl, Nat.le_of_ble_eq_true rfl⟩ rfl (Nat.le_of_ble_eq_true rfl) dL_act_18 ⟨Nat.le_of_ble_eq_true rfl, Nat.le_of_ble_eq_true rfl⟩ (fun H locs hW => ?_)
  refine kz_le S (tgt := 28) dL_act_21 (by decide) (by omega) (fun c_21 => ?_) (fun c_21 => ?_)
  · refine lv_iconst (v := nI (0)) S.1 S.2.1 dL_act_28 rfl ?_
    refine lv_istore (lv' := [(5, .int (nI (0))), (4, .int ((v) >>> ((nI (5)) &&& 31))), (3, .int (nI (lw v 32))), (0, .ref (a0)), (1, .int (v)), (2, .ref (o))]) S.1 S.2.1 dL_act_29 hl (by decide) rfl (fun ls hl => ?_)
    refine lv_iload_n S.1 S.2.1 dL_act_31 rfl (lv_at hl 2 rfl) ?_
    refine lv_bipush (v := nI (16)) S.1 S.2.1 dL_act_32 rfl ?_
    refine kn_ge S (tgt := 111) dL_act_34 (by decide) (by omega) (by omega) (fun c_34 => ?_) (fun c_34 => ?_)
    · refine lv_iload_n S.1 S.2.1 dL_act_111 rfl (lv_at hl 2 rfl) ?_
      refine lv_bipush (v := nI (16)) S.1 S.2.1 dL_act_112 rfl ?_
      refine kn_ne S (tgt := 188) dL_act_114 (by decide) (by omega) (by omega) (fun c_114 => ?_) (fun c_114 => ?_)
      · refine lv_iload_n S.1 S.2.1 dL_act_188 rfl (lv_at hl 2 rfl) ?_
        refine lv_bipush (v := nI (20)) S.1 S.2.1 dL_act_189 rfl ?_
        refine kn_ge S (tgt := 233) dL_act_191 (by decide) (by omega) (by omega) (fun c_191 => ?_) (fun c_191 => ?_)
        · refine lv_iload_n S.1 S.2.1 dL_act_233 rfl (lv_at hl 2 rfl) ?_
          refine lv_bipush (v := nI (22)) S.1 S.2.1 dL_act_234 rfl ?_
          refine kn_ge S (tgt := 284) dL_act_236 (by decide) (by omega) (by omega) (fun c_236 => ?_) (fun c_236 => ?_)
          · refine lv_iload_n S.1 S.2.1 dL_act_284 rfl (lv_at hl 2 rfl) ?_
            refine lv_bipush (v := nI (22)) S.1 S.2.1 dL_act_285 rfl ?_
            refine kn_ne S (tgt := 319) dL_act_287 (by decide) (by omega) (by omega) (fun c_287 => ?_) (fun c_287 => ?_)
            · refine lv_iload_n S.1 S.2.1 dL_act_319 rfl (lv_at hl 2 rfl) ?_
              refine lv_bipush (v := nI (25)) S.1 S.2.1 dL_act_320 rfl ?_
              refine kn_ge S (tgt := 371) dL_act_322 (by decide) (by omega) (by omega) (fun c_322 => ?_) (fun c_322 => ?_)
              · refine lv_aload_n S.1 S.2.1 dL_act_371 rfl (lv_at hl 3 rfl) ?_
                refine lv_iconst (v := nI (5)) S.1 S.2.1 dL_act_372 rfl ?_
                refine lv_iload S.1 S.2.1 dL_act_373 (lv_at hl 1 rfl) ?_
                refine lv_iload S.1 S.2.1 dL_act_375 (lv_at hl 0 rfl) ?_
                refine kz_eq S (tgt := 385) dL_act_377 (by decide) (by omega) (fun c_377 => ?_) (fun c_377 => ?_)
                · refine lv_sipush (v := nI (140)) S.1 S.2.1 dL_act_385 rfl ?_
                  refine k_SI (rest := [.int (nI (5)), .ref (a0)]) S hK hl.1 hW (KFr.nil hW hA) (mL_low l D c  _ ((v) >>> ((nI (5)) &&& 31)) 140 (by first | omega | exact hn0 | assumption | (show 0 < 140; omega) | rfl) (by first | omega | exact hn | assumption | (show 140 < 2147483648; omega) | rfl)) gL_act_L_low rfl pdL_low ⟨⟨rfl, rfl⟩, Nat.le_of_ble_eq_true rfl, Nat.le_of_ble_eq_true rfl⟩ rfl (Nat.le_of_ble_eq_true rfl) dL_act_388 ⟨Nat.le_of_ble_eq_true rfl, Nat.le_of_ble_eq_true rfl⟩ (fun H locs hW => ?_)
                  refine lv_iconst (v := nI (0)) S.1 S.2.1 dL_act_391 rfl ?_
                  refine lv_iconst (v := nI (0)) S.1 S.2.1 dL_act_392 rfl ?_
                  refine lv_aload_n S.1 S.2.1 dL_act_393 rfl (lv_at hl 5 rfl) ?_
                  refine k_SW (rest := []) S hK hl.1 hW (KFr.all hW hA) hN hSt hV (hM _) gL_act_L_changes rfl pdL_changes ⟨⟨rfl, rfl⟩, Nat.le_of_ble_eq_true rfl, Nat.le_of_ble_eq_true rfl⟩ rfl (Nat.le_of_ble_eq_true rfl) dL_act_394 ⟨Nat.le_of_ble_eq_true rfl, Nat.le_of_ble_eq_true rfl⟩ (fun H locs hW => ?_)
                  exact hret 397 _ _ _ _ _ _ _ dL_act_397 hW rfl rfl (by decide) (by decide)
                · exact absurd c_377 (by decide)
              · exact absurd c_322 (by omega)
            · exact absurd c_287 (by omega)
          · exact absurd c_236 (by omega)
        · exact absurd c_191 (by omega)
      · exact absurd c_114 (by omega)
    · exact absurd c_34 (by omega)
  · exact absurd c_21 (by omega)
set_option maxRecDepth 100000 in
theorem paq_9 (l : Launch) (D : va_G) (c : Nat → ClassId) (sz : Nat) (wd w1 : va_W) (a0 o : Nat) (v : Int32) (r : Int32) (h21 : 0 < lw ((v) >>> ((nI (22)) &&& 31)) 7) (h34 : lw v 32 < 16) (h41 : lw v 32 < 15) (h80 : (((v) >>> ((nI (5)) &&& 31)) >>> ((nI (11)) &&& 31)) &&& (nI (1)) = 0) (hM : ∀ sz, MW l yL_changes wsL_changes rmL_changes D c sz wd [.ref (a0), .int (nI (0)), .int (nI (lw ((v) >>> ((nI (5)) &&& 31)) 3)), .int (nI (lw (((v) >>> ((nI (5)) &&& 31)) >>> ((nI (2)) &&& 31)) 12)), .int (nI (lw (((v) >>> ((nI (5)) &&& 31)) >>> ((nI (5)) &&& 31)) 32)), .ref (o)] r w1) : MW l yL_act wsL_act rmL_act D c sz wd [.ref a0, .int v, .ref o] r w1 := by
  refine MW.of (cc := cL_act) (maxL := 6) (by decide) rfl (Nat.le_of_ble_eq_true rfl) ?_
  intro P e s m below meth cd A Q ls hsz S hK hN hSt hV hW hA hl hret
  have hl : lv_has ls 6 [(0, .ref a0), (1, .int v), (2, .ref o)] := hl
  have hw32 := lw_lt v (n := 32) (by decide)
  have hw7 := lw_lt ((v) >>> ((nI (22)) &&& 31)) (n := 7) (by decide)
  refine lv_iload_n S.1 S.2.1 dL_act_0 rfl (lv_at hl 1 rfl) ?_
  refine lv_bipush (v := nI (32)) S.1 S.2.1 dL_act_1 rfl ?_
  refine k_SI (rest := []) S hK hl.1 hW (KFr.nil hW hA) (mL_low l D c  _ v 32 (by first | omega | exact hn0 | assumption | (show 0 < 32; omega) | rfl) (by first | omega | exact hn | assumption | (show 32 < 2147483648; omega) | rfl)) gL_act_L_low rfl pdL_low ⟨⟨rfl, rfl⟩, Nat.le_of_ble_eq_true rfl, Nat.le_of_ble_eq_true rfl⟩ rfl (Nat.le_of_ble_eq_true rfl) dL_act_3 ⟨Nat.le_of_ble_eq_true rfl, Nat.le_of_ble_eq_true rfl⟩ (fun H locs hW => ?_)
  refine lv_istore_n (lv' := [(3, .int (nI (lw v 32))), (0, .ref (a0)), (1, .int (v)), (2, .ref (o))]) S.1 S.2.1 dL_act_6 rfl hl (by decide) rfl (fun ls hl => ?_)
  refine lv_iload_n S.1 S.2.1 dL_act_7 rfl (lv_at hl 2 rfl) ?_
  refine lv_iconst (v := nI (5)) S.1 S.2.1 dL_act_8 rfl ?_
  refine lv_ishr S.1 S.2.1 dL_act_9 ?_
  refine lv_istore (lv' := [(4, .int ((v) >>> ((nI (5)) &&& 31))), (3, .int (nI (lw v 32))), (0, .ref (a0)), (1, .int (v)), (2, .ref (o))]) S.1 S.2.1 dL_act_10 hl (by decide) rfl (fun ls hl => ?_)
  refine lv_iload_n S.1 S.2.1 dL_act_12 rfl (lv_at hl 3 rfl) ?_
  refine lv_bipush (v := nI (22)) S.1 S.2.1 dL_act_13 rfl ?_
  refine lv_ishr S.1 S.2.1 dL_act_15 ?_
  refine lv_bipush (v := nI (7)) S.1 S.2.1 dL_act_16 rfl ?_
  refine k_SI (rest := []) S hK hl.1 hW (KFr.nil hW hA) (mL_low l D c  _ ((v) >>> ((nI (22)) &&& 31)) 7 (by first | omega | exact hn0 | assumption | (show 0 < 7; omega) | rfl) (by first | omega | exact hn | assumption | (show 7 < 2147483648; omega) | rfl)) gL_act_L_low rfl pdL_low ⟨⟨rfl, rfl⟩, Nat.le_of_ble_eq_true rfl, Nat.le_of_ble_eq_true rfl⟩ rfl (Nat.le_of_ble_eq_true rfl) dL_act_18 ⟨Nat.le_of_ble_eq_true rfl, Nat.le_of_ble_eq_true rfl⟩ (fun H locs hW => ?_)
  refine kz_le S (tgt := 28) dL_act_21 (by decide) (by omega) (fun c_21 => ?_) (fun c_21 => ?_)
  · exact absurd c_21 (by omega)
  · refine lv_iconst (v := nI (1)) S.1 S.2.1 dL_act_24 rfl ?_
    refine lv_goto (tgt := 29) S.1 S.2.1 dL_act_25 (by decide) ?_
    refine lv_istore (lv' := [(5, .int (nI (1))), (4, .int ((v) >>> ((nI (5)) &&& 31))), (3, .int (nI (lw v 32))), (0, .ref (a0)), (1, .int (v)), (2, .ref (o))]) S.1 S.2.1 dL_act_29 hl (by decide) rfl (fun ls hl => ?_)
    refine lv_iload_n S.1 S.2.1 dL_act_31 rfl (lv_at hl 2 rfl) ?_
    refine lv_bipush (v := nI (16)) S.1 S.2.1 dL_act_32 rfl ?_
    refine kn_ge S (tgt := 111) dL_act_34 (by decide) (by omega) (by omega) (fun c_34 => ?_) (fun c_34 => ?_)
    · exact absurd c_34 (by omega)
    · refine lv_aload_n S.1 S.2.1 dL_act_37 rfl (lv_at hl 3 rfl) ?_
      refine lv_iload_n S.1 S.2.1 dL_act_38 rfl (lv_at hl 2 rfl) ?_
      refine lv_bipush (v := nI (15)) S.1 S.2.1 dL_act_39 rfl ?_
      refine kn_ge S (tgt := 48) dL_act_41 (by decide) (by omega) (by omega) (fun c_41 => ?_) (fun c_41 => ?_)
      · exact absurd c_41 (by omega)
      · refine lv_iconst (v := nI (0)) S.1 S.2.1 dL_act_44 rfl ?_
        refine lv_goto (tgt := 49) S.1 S.2.1 dL_act_45 (by decide) ?_
        refine lv_iload S.1 S.2.1 dL_act_49 (lv_at hl 1 rfl) ?_
        refine lv_iload S.1 S.2.1 dL_act_51 (lv_at hl 0 rfl) ?_
        refine kz_eq S (tgt := 60) dL_act_53 (by decide) (by omega) (fun c_53 => ?_) (fun c_53 => ?_)
        · exact absurd c_53 (by decide)
        · refine lv_iconst (v := nI (3)) S.1 S.2.1 dL_act_56 rfl ?_
          refine lv_goto (tgt := 61) S.1 S.2.1 dL_act_57 (by decide) ?_
          refine k_SI (rest := [.int (nI (0)), .ref (a0)]) S hK hl.1 hW (KFr.nil hW hA) (mL_low l D c  _ ((v) >>> ((nI (5)) &&& 31)) 3 (by first | omega | exact hn0 | assumption | (show 0 < 3; omega) | rfl) (by first | omega | exact hn | assumption | (show 3 < 2147483648; omega) | rfl)) gL_act_L_low rfl pdL_low ⟨⟨rfl, rfl⟩, Nat.le_of_ble_eq_true rfl, Nat.le_of_ble_eq_true rfl⟩ rfl (Nat.le_of_ble_eq_true rfl) dL_act_61 ⟨Nat.le_of_ble_eq_true rfl, Nat.le_of_ble_eq_true rfl⟩ (fun H locs hW => ?_)
          refine lv_iload S.1 S.2.1 dL_act_64 (lv_at hl 1 rfl) ?_
          refine lv_iconst (v := nI (2)) S.1 S.2.1 dL_act_66 rfl ?_
          refine lv_ishr S.1 S.2.1 dL_act_67 ?_
          refine lv_iload S.1 S.2.1 dL_act_68 (lv_at hl 0 rfl) ?_
          refine kz_eq S (tgt := 92) dL_act_70 (by decide) (by omega) (fun c_70 => ?_) (fun c_70 => ?_)
          · exact absurd c_70 (by decide)
          · refine lv_iload S.1 S.2.1 dL_act_73 (lv_at hl 1 rfl) ?_
            refine lv_bipush (v := nI (11)) S.1 S.2.1 dL_act_75 rfl ?_
            refine lv_ishr S.1 S.2.1 dL_act_77 ?_
            refine lv_iconst (v := nI (1)) S.1 S.2.1 dL_act_78 rfl ?_
            refine lv_iand S.1 S.2.1 dL_act_79 ?_
            refine lv_if_ne (tgt := 88) S.1 S.2.1 dL_act_80 (by decide) (fun c_80 => ?_) (fun c_80 => ?_)
            · exact absurd h80 c_80
            · refine lv_bipush (v := nI (12)) S.1 S.2.1 dL_act_83 rfl ?_
              refine lv_goto (tgt := 94) S.1 S.2.1 dL_act_85 (by decide) ?_
              refine k_SI (rest := [.int (nI (lw ((v) >>> ((nI (5)) &&& 31)) 3)), .int (nI (0)), .ref (a0)]) S hK hl.1 hW (KFr.nil hW hA) (mL_low l D c  _ (((v) >>> ((nI (5)) &&& 31)) >>> ((nI (2)) &&& 31)) 12 (by first | omega | exact hn0 | assumption | (show 0 < 12; omega) | rfl) (by first | omega | exact hn | assumption | (show 12 < 2147483648; omega) | rfl)) gL_act_L_low rfl pdL_low ⟨⟨rfl, rfl⟩, Nat.le_of_ble_eq_true rfl, Nat.le_of_ble_eq_true rfl⟩ rfl (Nat.le_of_ble_eq_true rfl) dL_act_94 ⟨Nat.le_of_ble_eq_true rfl, Nat.le_of_ble_eq_true rfl⟩ (fun H locs hW => ?_)
              refine lv_iload S.1 S.2.1 dL_act_97 (lv_at hl 1 rfl) ?_
              refine lv_iconst (v := nI (5)) S.1 S.2.1 dL_act_99 rfl ?_
              refine lv_ishr S.1 S.2.1 dL_act_100 ?_
              refine lv_bipush (v := nI (32)) S.1 S.2.1 dL_act_101 rfl ?_
              refine k_SI (rest := [.int (nI (lw (((v) >>> ((nI (5)) &&& 31)) >>> ((nI (2)) &&& 31)) 12)), .int (nI (lw ((v) >>> ((nI (5)) &&& 31)) 3)), .int (nI (0)), .ref (a0)]) S hK hl.1 hW (KFr.nil hW hA) (mL_low l D c  _ (((v) >>> ((nI (5)) &&& 31)) >>> ((nI (5)) &&& 31)) 32 (by first | omega | exact hn0 | assumption | (show 0 < 32; omega) | rfl) (by first | omega | exact hn | assumption | (show 32 < 2147483648; omega) | rfl)) gL_act_L_low rfl pdL_low ⟨⟨rfl, rfl⟩, Nat.le_of_ble_eq_true rfl, Nat.le_of_ble_eq_true rfl⟩ rfl (Nat.le_of_ble_eq_true rfl) dL_act_103 ⟨Nat.le_of_ble_eq_true rfl, Nat.le_of_ble_eq_true rfl⟩ (fun H locs hW => ?_)
              refine lv_aload_n S.1 S.2.1 dL_act_106 rfl (lv_at hl 5 rfl) ?_
              refine k_SW (rest := []) S hK hl.1 hW (KFr.all hW hA) hN hSt hV (hM _) gL_act_L_changes rfl pdL_changes ⟨⟨rfl, rfl⟩, Nat.le_of_ble_eq_true rfl, Nat.le_of_ble_eq_true rfl⟩ rfl (Nat.le_of_ble_eq_true rfl) dL_act_107 ⟨Nat.le_of_ble_eq_true rfl, Nat.le_of_ble_eq_true rfl⟩ (fun H locs hW => ?_)
              exact hret 110 _ _ _ _ _ _ _ dL_act_110 hW rfl rfl (by decide) (by decide)
set_option maxRecDepth 100000 in
theorem paq_10 (l : Launch) (D : va_G) (c : Nat → ClassId) (sz : Nat) (wd w1 : va_W) (a0 o : Nat) (v : Int32) (r : Int32) (h21 : 0 < lw ((v) >>> ((nI (22)) &&& 31)) 7) (h34 : lw v 32 < 16) (h41 : lw v 32 < 15) (h80 : ¬ (((v) >>> ((nI (5)) &&& 31)) >>> ((nI (11)) &&& 31)) &&& (nI (1)) = 0) (hM : ∀ sz, MW l yL_changes wsL_changes rmL_changes D c sz wd [.ref (a0), .int (nI (0)), .int (nI (lw ((v) >>> ((nI (5)) &&& 31)) 3)), .int (nI (lw (((v) >>> ((nI (5)) &&& 31)) >>> ((nI (2)) &&& 31)) 3)), .int (nI (lw (((v) >>> ((nI (5)) &&& 31)) >>> ((nI (5)) &&& 31)) 32)), .ref (o)] r w1) : MW l yL_act wsL_act rmL_act D c sz wd [.ref a0, .int v, .ref o] r w1 := by
  refine MW.of (cc := cL_act) (maxL := 6) (by decide) rfl (Nat.le_of_ble_eq_true rfl) ?_
  intro P e s m below meth cd A Q ls hsz S hK hN hSt hV hW hA hl hret
  have hl : lv_has ls 6 [(0, .ref a0), (1, .int v), (2, .ref o)] := hl
  have hw32 := lw_lt v (n := 32) (by decide)
  have hw7 := lw_lt ((v) >>> ((nI (22)) &&& 31)) (n := 7) (by decide)
  refine lv_iload_n S.1 S.2.1 dL_act_0 rfl (lv_at hl 1 rfl) ?_
  refine lv_bipush (v := nI (32)) S.1 S.2.1 dL_act_1 rfl ?_
  refine k_SI (rest := []) S hK hl.1 hW (KFr.nil hW hA) (mL_low l D c  _ v 32 (by first | omega | exact hn0 | assumption | (show 0 < 32; omega) | rfl) (by first | omega | exact hn | assumption | (show 32 < 2147483648; omega) | rfl)) gL_act_L_low rfl pdL_low ⟨⟨rfl, rfl⟩, Nat.le_of_ble_eq_true rfl, Nat.le_of_ble_eq_true rfl⟩ rfl (Nat.le_of_ble_eq_true rfl) dL_act_3 ⟨Nat.le_of_ble_eq_true rfl, Nat.le_of_ble_eq_true rfl⟩ (fun H locs hW => ?_)
  refine lv_istore_n (lv' := [(3, .int (nI (lw v 32))), (0, .ref (a0)), (1, .int (v)), (2, .ref (o))]) S.1 S.2.1 dL_act_6 rfl hl (by decide) rfl (fun ls hl => ?_)
  refine lv_iload_n S.1 S.2.1 dL_act_7 rfl (lv_at hl 2 rfl) ?_
  refine lv_iconst (v := nI (5)) S.1 S.2.1 dL_act_8 rfl ?_
  refine lv_ishr S.1 S.2.1 dL_act_9 ?_
  refine lv_istore (lv' := [(4, .int ((v) >>> ((nI (5)) &&& 31))), (3, .int (nI (lw v 32))), (0, .ref (a0)), (1, .int (v)), (2, .ref (o))]) S.1 S.2.1 dL_act_10 hl (by decide) rfl (fun ls hl => ?_)
  refine lv_iload_n S.1 S.2.1 dL_act_12 rfl (lv_at hl 3 rfl) ?_
  refine lv_bipush (v := nI (22)) S.1 S.2.1 dL_act_13 rfl ?_
  refine lv_ishr S.1 S.2.1 dL_act_15 ?_
  refine lv_bipush (v := nI (7)) S.1 S.2.1 dL_act_16 rfl ?_
  refine k_SI (rest := []) S hK hl.1 hW (KFr.nil hW hA) (mL_low l D c  _ ((v) >>> ((nI (22)) &&& 31)) 7 (by first | omega | exact hn0 | assumption | (show 0 < 7; omega) | rfl) (by first | omega | exact hn | assumption | (show 7 < 2147483648; omega) | rfl)) gL_act_L_low rfl pdL_low ⟨⟨rfl, rfl⟩, Nat.le_of_ble_eq_true rfl, Nat.le_of_ble_eq_true rfl⟩ rfl (Nat.le_of_ble_eq_true rfl) dL_act_18 ⟨Nat.le_of_ble_eq_true rfl, Nat.le_of_ble_eq_true rfl⟩ (fun H locs hW => ?_)
  refine kz_le S (tgt := 28) dL_act_21 (by decide) (by omega) (fun c_21 => ?_) (fun c_21 => ?_)
  · exact absurd c_21 (by omega)
  · refine lv_iconst (v := nI (1)) S.1 S.2.1 dL_act_24 rfl ?_
    refine lv_goto (tgt := 29) S.1 S.2.1 dL_act_25 (by decide) ?_
    refine lv_istore (lv' := [(5, .int (nI (1))), (4, .int ((v) >>> ((nI (5)) &&& 31))), (3, .int (nI (lw v 32))), (0, .ref (a0)), (1, .int (v)), (2, .ref (o))]) S.1 S.2.1 dL_act_29 hl (by decide) rfl (fun ls hl => ?_)
    refine lv_iload_n S.1 S.2.1 dL_act_31 rfl (lv_at hl 2 rfl) ?_
    refine lv_bipush (v := nI (16)) S.1 S.2.1 dL_act_32 rfl ?_
    refine kn_ge S (tgt := 111) dL_act_34 (by decide) (by omega) (by omega) (fun c_34 => ?_) (fun c_34 => ?_)
    · exact absurd c_34 (by omega)
    · refine lv_aload_n S.1 S.2.1 dL_act_37 rfl (lv_at hl 3 rfl) ?_
      refine lv_iload_n S.1 S.2.1 dL_act_38 rfl (lv_at hl 2 rfl) ?_
      refine lv_bipush (v := nI (15)) S.1 S.2.1 dL_act_39 rfl ?_
      refine kn_ge S (tgt := 48) dL_act_41 (by decide) (by omega) (by omega) (fun c_41 => ?_) (fun c_41 => ?_)
      · exact absurd c_41 (by omega)
      · refine lv_iconst (v := nI (0)) S.1 S.2.1 dL_act_44 rfl ?_
        refine lv_goto (tgt := 49) S.1 S.2.1 dL_act_45 (by decide) ?_
        refine lv_iload S.1 S.2.1 dL_act_49 (lv_at hl 1 rfl) ?_
        refine lv_iload S.1 S.2.1 dL_act_51 (lv_at hl 0 rfl) ?_
        refine kz_eq S (tgt := 60) dL_act_53 (by decide) (by omega) (fun c_53 => ?_) (fun c_53 => ?_)
        · exact absurd c_53 (by decide)
        · refine lv_iconst (v := nI (3)) S.1 S.2.1 dL_act_56 rfl ?_
          refine lv_goto (tgt := 61) S.1 S.2.1 dL_act_57 (by decide) ?_
          refine k_SI (rest := [.int (nI (0)), .ref (a0)]) S hK hl.1 hW (KFr.nil hW hA) (mL_low l D c  _ ((v) >>> ((nI (5)) &&& 31)) 3 (by first | omega | exact hn0 | assumption | (show 0 < 3; omega) | rfl) (by first | omega | exact hn | assumption | (show 3 < 2147483648; omega) | rfl)) gL_act_L_low rfl pdL_low ⟨⟨rfl, rfl⟩, Nat.le_of_ble_eq_true rfl, Nat.le_of_ble_eq_true rfl⟩ rfl (Nat.le_of_ble_eq_true rfl) dL_act_61 ⟨Nat.le_of_ble_eq_true rfl, Nat.le_of_ble_eq_true rfl⟩ (fun H locs hW => ?_)
          refine lv_iload S.1 S.2.1 dL_act_64 (lv_at hl 1 rfl) ?_
          refine lv_iconst (v := nI (2)) S.1 S.2.1 dL_act_66 rfl ?_
          refine lv_ishr S.1 S.2.1 dL_act_67 ?_
          refine lv_iload S.1 S.2.1 dL_act_68 (lv_at hl 0 rfl) ?_
          refine kz_eq S (tgt := 92) dL_act_70 (by decide) (by omega) (fun c_70 => ?_) (fun c_70 => ?_)
          · exact absurd c_70 (by decide)
          · refine lv_iload S.1 S.2.1 dL_act_73 (lv_at hl 1 rfl) ?_
            refine lv_bipush (v := nI (11)) S.1 S.2.1 dL_act_75 rfl ?_
            refine lv_ishr S.1 S.2.1 dL_act_77 ?_
            refine lv_iconst (v := nI (1)) S.1 S.2.1 dL_act_78 rfl ?_
            refine lv_iand S.1 S.2.1 dL_act_79 ?_
            refine lv_if_ne (tgt := 88) S.1 S.2.1 dL_act_80 (by decide) (fun c_80 => ?_) (fun c_80 => ?_)
            · refine lv_iconst (v := nI (3)) S.1 S.2.1 dL_act_88 rfl ?_
              refine lv_goto (tgt := 94) S.1 S.2.1 dL_act_89 (by decide) ?_
              refine k_SI (rest := [.int (nI (lw ((v) >>> ((nI (5)) &&& 31)) 3)), .int (nI (0)), .ref (a0)]) S hK hl.1 hW (KFr.nil hW hA) (mL_low l D c  _ (((v) >>> ((nI (5)) &&& 31)) >>> ((nI (2)) &&& 31)) 3 (by first | omega | exact hn0 | assumption | (show 0 < 3; omega) | rfl) (by first | omega | exact hn | assumption | (show 3 < 2147483648; omega) | rfl)) gL_act_L_low rfl pdL_low ⟨⟨rfl, rfl⟩, Nat.le_of_ble_eq_true rfl, Nat.le_of_ble_eq_true rfl⟩ rfl (Nat.le_of_ble_eq_true rfl) dL_act_94 ⟨Nat.le_of_ble_eq_true rfl, Nat.le_of_ble_eq_true rfl⟩ (fun H locs hW => ?_)
              refine lv_iload S.1 S.2.1 dL_act_97 (lv_at hl 1 rfl) ?_
              refine lv_iconst (v := nI (5)) S.1 S.2.1 dL_act_99 rfl ?_
              refine lv_ishr S.1 S.2.1 dL_act_100 ?_
              refine lv_bipush (v := nI (32)) S.1 S.2.1 dL_act_101 rfl ?_
              refine k_SI (rest := [.int (nI (lw (((v) >>> ((nI (5)) &&& 31)) >>> ((nI (2)) &&& 31)) 3)), .int (nI (lw ((v) >>> ((nI (5)) &&& 31)) 3)), .int (nI (0)), .ref (a0)]) S hK hl.1 hW (KFr.nil hW hA) (mL_low l D c  _ (((v) >>> ((nI (5)) &&& 31)) >>> ((nI (5)) &&& 31)) 32 (by first | omega | exact hn0 | assumption | (show 0 < 32; omega) | rfl) (by first | omega | exact hn | assumption | (show 32 < 2147483648; omega) | rfl)) gL_act_L_low rfl pdL_low ⟨⟨rfl, rfl⟩, Nat.le_of_ble_eq_true rfl, Nat.le_of_ble_eq_true rfl⟩ rfl (Nat.le_of_ble_eq_true rfl) dL_act_103 ⟨Nat.le_of_ble_eq_true rfl, Nat.le_of_ble_eq_true rfl⟩ (fun H locs hW => ?_)
              refine lv_aload_n S.1 S.2.1 dL_act_106 rfl (lv_at hl 5 rfl) ?_
              refine k_SW (rest := []) S hK hl.1 hW (KFr.all hW hA) hN hSt hV (hM _) gL_act_L_changes rfl pdL_changes ⟨⟨rfl, rfl⟩, Nat.le_of_ble_eq_true rfl, Nat.le_of_ble_eq_true rfl⟩ rfl (Nat.le_of_ble_eq_true rfl) dL_act_107 ⟨Nat.le_of_ble_eq_true rfl, Nat.le_of_ble_eq_true rfl⟩ (fun H locs hW => ?_)
              exact hret 110 _ _ _ _ _ _ _ dL_act_110 hW rfl rfl (by decide) (by decide)
            · exact absurd c_80 h80
set_option maxRecDepth 100000 in
theorem paq_11 (l : Launch) (D : va_G) (c : Nat → ClassId) (sz : Nat) (wd w1 : va_W) (a0 o : Nat) (v : Int32) (r : Int32) (h21 : 0 < lw ((v) >>> ((nI (22)) &&& 31)) 7) (h34 : lw v 32 < 16) (h41 : 15 ≤ lw v 32) (h80 : (((v) >>> ((nI (5)) &&& 31)) >>> ((nI (11)) &&& 31)) &&& (nI (1)) = 0) (hM : ∀ sz, MW l yL_changes wsL_changes rmL_changes D c sz wd [.ref (a0), .int (nI (1)), .int (nI (lw ((v) >>> ((nI (5)) &&& 31)) 3)), .int (nI (lw (((v) >>> ((nI (5)) &&& 31)) >>> ((nI (2)) &&& 31)) 12)), .int (nI (lw (((v) >>> ((nI (5)) &&& 31)) >>> ((nI (5)) &&& 31)) 32)), .ref (o)] r w1) : MW l yL_act wsL_act rmL_act D c sz wd [.ref a0, .int v, .ref o] r w1 := by
  refine MW.of (cc := cL_act) (maxL := 6) (by decide) rfl (Nat.le_of_ble_eq_true rfl) ?_
  intro P e s m below meth cd A Q ls hsz S hK hN hSt hV hW hA hl hret
  have hl : lv_has ls 6 [(0, .ref a0), (1, .int v), (2, .ref o)] := hl
  have hw32 := lw_lt v (n := 32) (by decide)
  have hw7 := lw_lt ((v) >>> ((nI (22)) &&& 31)) (n := 7) (by decide)
  refine lv_iload_n S.1 S.2.1 dL_act_0 rfl (lv_at hl 1 rfl) ?_
  refine lv_bipush (v := nI (32)) S.1 S.2.1 dL_act_1 rfl ?_
  refine k_SI (rest := []) S hK hl.1 hW (KFr.nil hW hA) (mL_low l D c  _ v 32 (by first | omega | exact hn0 | assumption | (show 0 < 32; omega) | rfl) (by first | omega | exact hn | assumption | (show 32 < 2147483648; omega) | rfl)) gL_act_L_low rfl pdL_low ⟨⟨rfl, rfl⟩, Nat.le_of_ble_eq_true rfl, Nat.le_of_ble_eq_true rfl⟩ rfl (Nat.le_of_ble_eq_true rfl) dL_act_3 ⟨Nat.le_of_ble_eq_true rfl, Nat.le_of_ble_eq_true rfl⟩ (fun H locs hW => ?_)
  refine lv_istore_n (lv' := [(3, .int (nI (lw v 32))), (0, .ref (a0)), (1, .int (v)), (2, .ref (o))]) S.1 S.2.1 dL_act_6 rfl hl (by decide) rfl (fun ls hl => ?_)
  refine lv_iload_n S.1 S.2.1 dL_act_7 rfl (lv_at hl 2 rfl) ?_
  refine lv_iconst (v := nI (5)) S.1 S.2.1 dL_act_8 rfl ?_
  refine lv_ishr S.1 S.2.1 dL_act_9 ?_
  refine lv_istore (lv' := [(4, .int ((v) >>> ((nI (5)) &&& 31))), (3, .int (nI (lw v 32))), (0, .ref (a0)), (1, .int (v)), (2, .ref (o))]) S.1 S.2.1 dL_act_10 hl (by decide) rfl (fun ls hl => ?_)
  refine lv_iload_n S.1 S.2.1 dL_act_12 rfl (lv_at hl 3 rfl) ?_
  refine lv_bipush (v := nI (22)) S.1 S.2.1 dL_act_13 rfl ?_
  refine lv_ishr S.1 S.2.1 dL_act_15 ?_
  refine lv_bipush (v := nI (7)) S.1 S.2.1 dL_act_16 rfl ?_
  refine k_SI (rest := []) S hK hl.1 hW (KFr.nil hW hA) (mL_low l D c  _ ((v) >>> ((nI (22)) &&& 31)) 7 (by first | omega | exact hn0 | assumption | (show 0 < 7; omega) | rfl) (by first | omega | exact hn | assumption | (show 7 < 2147483648; omega) | rfl)) gL_act_L_low rfl pdL_low ⟨⟨rfl, rfl⟩, Nat.le_of_ble_eq_true rfl, Nat.le_of_ble_eq_true rfl⟩ rfl (Nat.le_of_ble_eq_true rfl) dL_act_18 ⟨Nat.le_of_ble_eq_true rfl, Nat.le_of_ble_eq_true rfl⟩ (fun H locs hW => ?_)
  refine kz_le S (tgt := 28) dL_act_21 (by decide) (by omega) (fun c_21 => ?_) (fun c_21 => ?_)
  · exact absurd c_21 (by omega)
  · refine lv_iconst (v := nI (1)) S.1 S.2.1 dL_act_24 rfl ?_
    refine lv_goto (tgt := 29) S.1 S.2.1 dL_act_25 (by decide) ?_
    refine lv_istore (lv' := [(5, .int (nI (1))), (4, .int ((v) >>> ((nI (5)) &&& 31))), (3, .int (nI (lw v 32))), (0, .ref (a0)), (1, .int (v)), (2, .ref (o))]) S.1 S.2.1 dL_act_29 hl (by decide) rfl (fun ls hl => ?_)
    refine lv_iload_n S.1 S.2.1 dL_act_31 rfl (lv_at hl 2 rfl) ?_
    refine lv_bipush (v := nI (16)) S.1 S.2.1 dL_act_32 rfl ?_
    refine kn_ge S (tgt := 111) dL_act_34 (by decide) (by omega) (by omega) (fun c_34 => ?_) (fun c_34 => ?_)
    · exact absurd c_34 (by omega)
    · refine lv_aload_n S.1 S.2.1 dL_act_37 rfl (lv_at hl 3 rfl) ?_
      refine lv_iload_n S.1 S.2.1 dL_act_38 rfl (lv_at hl 2 rfl) ?_
      refine lv_bipush (v := nI (15)) S.1 S.2.1 dL_act_39 rfl ?_
      refine kn_ge S (tgt := 48) dL_act_41 (by decide) (by omega) (by omega) (fun c_41 => ?_) (fun c_41 => ?_)
      · refine lv_iconst (v := nI (1)) S.1 S.2.1 dL_act_48 rfl ?_
        refine lv_iload S.1 S.2.1 dL_act_49 (lv_at hl 1 rfl) ?_
        refine lv_iload S.1 S.2.1 dL_act_51 (lv_at hl 0 rfl) ?_
        refine kz_eq S (tgt := 60) dL_act_53 (by decide) (by omega) (fun c_53 => ?_) (fun c_53 => ?_)
        · exact absurd c_53 (by decide)
        · refine lv_iconst (v := nI (3)) S.1 S.2.1 dL_act_56 rfl ?_
          refine lv_goto (tgt := 61) S.1 S.2.1 dL_act_57 (by decide) ?_
          refine k_SI (rest := [.int (nI (1)), .ref (a0)]) S hK hl.1 hW (KFr.nil hW hA) (mL_low l D c  _ ((v) >>> ((nI (5)) &&& 31)) 3 (by first | omega | exact hn0 | assumption | (show 0 < 3; omega) | rfl) (by first | omega | exact hn | assumption | (show 3 < 2147483648; omega) | rfl)) gL_act_L_low rfl pdL_low ⟨⟨rfl, rfl⟩, Nat.le_of_ble_eq_true rfl, Nat.le_of_ble_eq_true rfl⟩ rfl (Nat.le_of_ble_eq_true rfl) dL_act_61 ⟨Nat.le_of_ble_eq_true rfl, Nat.le_of_ble_eq_true rfl⟩ (fun H locs hW => ?_)
          refine lv_iload S.1 S.2.1 dL_act_64 (lv_at hl 1 rfl) ?_
          refine lv_iconst (v := nI (2)) S.1 S.2.1 dL_act_66 rfl ?_
          refine lv_ishr S.1 S.2.1 dL_act_67 ?_
          refine lv_iload S.1 S.2.1 dL_act_68 (lv_at hl 0 rfl) ?_
          refine kz_eq S (tgt := 92) dL_act_70 (by decide) (by omega) (fun c_70 => ?_) (fun c_70 => ?_)
          · exact absurd c_70 (by decide)
          · refine lv_iload S.1 S.2.1 dL_act_73 (lv_at hl 1 rfl) ?_
            refine lv_bipush (v := nI (11)) S.1 S.2.1 dL_act_75 rfl ?_
            refine lv_ishr S.1 S.2.1 dL_act_77 ?_
            refine lv_iconst (v := nI (1)) S.1 S.2.1 dL_act_78 rfl ?_
            refine lv_iand S.1 S.2.1 dL_act_79 ?_
            refine lv_if_ne (tgt := 88) S.1 S.2.1 dL_act_80 (by decide) (fun c_80 => ?_) (fun c_80 => ?_)
            · exact absurd h80 c_80
            · refine lv_bipush (v := nI (12)) S.1 S.2.1 dL_act_83 rfl ?_
              refine lv_goto (tgt := 94) S.1 S.2.1 dL_act_85 (by decide) ?_
              refine k_SI (rest := [.int (nI (lw ((v) >>> ((nI (5)) &&& 31)) 3)), .int (nI (1)), .ref (a0)]) S hK hl.1 hW (KFr.nil hW hA) (mL_low l D c  _ (((v) >>> ((nI (5)) &&& 31)) >>> ((nI (2)) &&& 31)) 12 (by first | omega | exact hn0 | assumption | (show 0 < 12; omega) | rfl) (by first | omega | exact hn | assumption | (show 12 < 2147483648; omega) | rfl)) gL_act_L_low rfl pdL_low ⟨⟨rfl, rfl⟩, Nat.le_of_ble_eq_true rfl, Nat.le_of_ble_eq_true rfl⟩ rfl (Nat.le_of_ble_eq_true rfl) dL_act_94 ⟨Nat.le_of_ble_eq_true rfl, Nat.le_of_ble_eq_true rfl⟩ (fun H locs hW => ?_)
              refine lv_iload S.1 S.2.1 dL_act_97 (lv_at hl 1 rfl) ?_
              refine lv_iconst (v := nI (5)) S.1 S.2.1 dL_act_99 rfl ?_
              refine lv_ishr S.1 S.2.1 dL_act_100 ?_
              refine lv_bipush (v := nI (32)) S.1 S.2.1 dL_act_101 rfl ?_
              refine k_SI (rest := [.int (nI (lw (((v) >>> ((nI (5)) &&& 31)) >>> ((nI (2)) &&& 31)) 12)), .int (nI (lw ((v) >>> ((nI (5)) &&& 31)) 3)), .int (nI (1)), .ref (a0)]) S hK hl.1 hW (KFr.nil hW hA) (mL_low l D c  _ (((v) >>> ((nI (5)) &&& 31)) >>> ((nI (5)) &&& 31)) 32 (by first | omega | exact hn0 | assumption | (show 0 < 32; omega) | rfl) (by first | omega | exact hn | assumption | (show 32 < 2147483648; omega) | rfl)) gL_act_L_low rfl pdL_low ⟨⟨rfl, rfl⟩, Nat.le_of_ble_eq_true rfl, Nat.le_of_ble_eq_true rfl⟩ rfl (Nat.le_of_ble_eq_true rfl) dL_act_103 ⟨Nat.le_of_ble_eq_true rfl, Nat.le_of_ble_eq_true rfl⟩ (fun H locs hW => ?_)
              refine lv_aload_n S.1 S.2.1 dL_act_106 rfl (lv_at hl 5 rfl) ?_
              refine k_SW (rest := []) S hK hl.1 hW (KFr.all hW hA) hN hSt hV (hM _) gL_act_L_changes rfl pdL_changes ⟨⟨rfl, rfl⟩, Nat.le_of_ble_eq_true rfl, Nat.le_of_ble_eq_true rfl⟩ rfl (Nat.le_of_ble_eq_true rfl) dL_act_107 ⟨Nat.le_of_ble_eq_true rfl, Nat.le_of_ble_eq_true rfl⟩ (fun H locs hW => ?_)
              exact hret 110 _ _ _ _ _ _ _ dL_act_110 hW rfl rfl (by decide) (by decide)
      · exact absurd c_41 (by omega)
set_option maxRecDepth 100000 in
theorem paq_12 (l : Launch) (D : va_G) (c : Nat → ClassId) (sz : Nat) (wd w1 : va_W) (a0 o : Nat) (v : Int32) (r : Int32) (h21 : 0 < lw ((v) >>> ((nI (22)) &&& 31)) 7) (h34 : lw v 32 < 16) (h41 : 15 ≤ lw v 32) (h80 : ¬ (((v) >>> ((nI (5)) &&& 31)) >>> ((nI (11)) &&& 31)) &&& (nI (1)) = 0) (hM : ∀ sz, MW l yL_changes wsL_changes rmL_changes D c sz wd [.ref (a0), .int (nI (1)), .int (nI (lw ((v) >>> ((nI (5)) &&& 31)) 3)), .int (nI (lw (((v) >>> ((nI (5)) &&& 31)) >>> ((nI (2)) &&& 31)) 3)), .int (nI (lw (((v) >>> ((nI (5)) &&& 31)) >>> ((nI (5)) &&& 31)) 32)), .ref (o)] r w1) : MW l yL_act wsL_act rmL_act D c sz wd [.ref a0, .int v, .ref o] r w1 := by
  refine MW.of (cc := cL_act) (maxL := 6) (by decide) rfl (Nat.le_of_ble_eq_true rfl) ?_
  intro P e s m below meth cd A Q ls hsz S hK hN hSt hV hW hA hl hret
  have hl : lv_has ls 6 [(0, .ref a0), (1, .int v), (2, .ref o)] := hl
  have hw32 := lw_lt v (n := 32) (by decide)
  have hw7 := lw_lt ((v) >>> ((nI (22)) &&& 31)) (n := 7) (by decide)
  refine lv_iload_n S.1 S.2.1 dL_act_0 rfl (lv_at hl 1 rfl) ?_
  refine lv_bipush (v := nI (32)) S.1 S.2.1 dL_act_1 rfl ?_
  refine k_SI (rest := []) S hK hl.1 hW (KFr.nil hW hA) (mL_low l D c  _ v 32 (by first | omega | exact hn0 | assumption | (show 0 < 32; omega) | rfl) (by first | omega | exact hn | assumption | (show 32 < 2147483648; omega) | rfl)) gL_act_L_low rfl pdL_low ⟨⟨rfl, rfl⟩, Nat.le_of_ble_eq_true rfl, Nat.le_of_ble_eq_true rfl⟩ rfl (Nat.le_of_ble_eq_true rfl) dL_act_3 ⟨Nat.le_of_ble_eq_true rfl, Nat.le_of_ble_eq_true rfl⟩ (fun H locs hW => ?_)
  refine lv_istore_n (lv' := [(3, .int (nI (lw v 32))), (0, .ref (a0)), (1, .int (v)), (2, .ref (o))]) S.1 S.2.1 dL_act_6 rfl hl (by decide) rfl (fun ls hl => ?_)
  refine lv_iload_n S.1 S.2.1 dL_act_7 rfl (lv_at hl 2 rfl) ?_
  refine lv_iconst (v := nI (5)) S.1 S.2.1 dL_act_8 rfl ?_
  refine lv_ishr S.1 S.2.1 dL_act_9 ?_
  refine lv_istore (lv' := [(4, .int ((v) >>> ((nI (5)) &&& 31))), (3, .int (nI (lw v 32))), (0, .ref (a0)), (1, .int (v)), (2, .ref (o))]) S.1 S.2.1 dL_act_10 hl (by decide) rfl (fun ls hl => ?_)
  refine lv_iload_n S.1 S.2.1 dL_act_12 rfl (lv_at hl 3 rfl) ?_
  refine lv_bipush (v := nI (22)) S.1 S.2.1 dL_act_13 rfl ?_
  refine lv_ishr S.1 S.2.1 dL_act_15 ?_
  refine lv_bipush (v := nI (7)) S.1 S.2.1 dL_act_16 rfl ?_
  refine k_SI (rest := []) S hK hl.1 hW (KFr.nil hW hA) (mL_low l D c  _ ((v) >>> ((nI (22)) &&& 31)) 7 (by first | omega | exact hn0 | assumption | (show 0 < 7; omega) | rfl) (by first | omega | exact hn | assumption | (show 7 < 2147483648; omega) | rfl)) gL_act_L_low rfl pdL_low ⟨⟨rfl, rfl⟩, Nat.le_of_ble_eq_true rfl, Nat.le_of_ble_eq_true rfl⟩ rfl (Nat.le_of_ble_eq_true rfl) dL_act_18 ⟨Nat.le_of_ble_eq_true rfl, Nat.le_of_ble_eq_true rfl⟩ (fun H locs hW => ?_)
  refine kz_le S (tgt := 28) dL_act_21 (by decide) (by omega) (fun c_21 => ?_) (fun c_21 => ?_)
  · exact absurd c_21 (by omega)
  · refine lv_iconst (v := nI (1)) S.1 S.2.1 dL_act_24 rfl ?_
    refine lv_goto (tgt := 29) S.1 S.2.1 dL_act_25 (by decide) ?_
    refine lv_istore (lv' := [(5, .int (nI (1))), (4, .int ((v) >>> ((nI (5)) &&& 31))), (3, .int (nI (lw v 32))), (0, .ref (a0)), (1, .int (v)), (2, .ref (o))]) S.1 S.2.1 dL_act_29 hl (by decide) rfl (fun ls hl => ?_)
    refine lv_iload_n S.1 S.2.1 dL_act_31 rfl (lv_at hl 2 rfl) ?_
    refine lv_bipush (v := nI (16)) S.1 S.2.1 dL_act_32 rfl ?_
    refine kn_ge S (tgt := 111) dL_act_34 (by decide) (by omega) (by omega) (fun c_34 => ?_) (fun c_34 => ?_)
    · exact absurd c_34 (by omega)
    · refine lv_aload_n S.1 S.2.1 dL_act_37 rfl (lv_at hl 3 rfl) ?_
      refine lv_iload_n S.1 S.2.1 dL_act_38 rfl (lv_at hl 2 rfl) ?_
      refine lv_bipush (v := nI (15)) S.1 S.2.1 dL_act_39 rfl ?_
      refine kn_ge S (tgt := 48) dL_act_41 (by decide) (by omega) (by omega) (fun c_41 => ?_) (fun c_41 => ?_)
      · refine lv_iconst (v := nI (1)) S.1 S.2.1 dL_act_48 rfl ?_
        refine lv_iload S.1 S.2.1 dL_act_49 (lv_at hl 1 rfl) ?_
        refine lv_iload S.1 S.2.1 dL_act_51 (lv_at hl 0 rfl) ?_
        refine kz_eq S (tgt := 60) dL_act_53 (by decide) (by omega) (fun c_53 => ?_) (fun c_53 => ?_)
        · exact absurd c_53 (by decide)
        · refine lv_iconst (v := nI (3)) S.1 S.2.1 dL_act_56 rfl ?_
          refine lv_goto (tgt := 61) S.1 S.2.1 dL_act_57 (by decide) ?_
          refine k_SI (rest := [.int (nI (1)), .ref (a0)]) S hK hl.1 hW (KFr.nil hW hA) (mL_low l D c  _ ((v) >>> ((nI (5)) &&& 31)) 3 (by first | omega | exact hn0 | assumption | (show 0 < 3; omega) | rfl) (by first | omega | exact hn | assumption | (show 3 < 2147483648; omega) | rfl)) gL_act_L_low rfl pdL_low ⟨⟨rfl, rfl⟩, Nat.le_of_ble_eq_true rfl, Nat.le_of_ble_eq_true rfl⟩ rfl (Nat.le_of_ble_eq_true rfl) dL_act_61 ⟨Nat.le_of_ble_eq_true rfl, Nat.le_of_ble_eq_true rfl⟩ (fun H locs hW => ?_)
          refine lv_iload S.1 S.2.1 dL_act_64 (lv_at hl 1 rfl) ?_
          refine lv_iconst (v := nI (2)) S.1 S.2.1 dL_act_66 rfl ?_
          refine lv_ishr S.1 S.2.1 dL_act_67 ?_
          refine lv_iload S.1 S.2.1 dL_act_68 (lv_at hl 0 rfl) ?_
          refine kz_eq S (tgt := 92) dL_act_70 (by decide) (by omega) (fun c_70 => ?_) (fun c_70 => ?_)
          · exact absurd c_70 (by decide)
          · refine lv_iload S.1 S.2.1 dL_act_73 (lv_at hl 1 rfl) ?_
            refine lv_bipush (v := nI (11)) S.1 S.2.1 dL_act_75 rfl ?_
            refine lv_ishr S.1 S.2.1 dL_act_77 ?_
            refine lv_iconst (v := nI (1)) S.1 S.2.1 dL_act_78 rfl ?_
            refine lv_iand S.1 S.2.1 dL_act_79 ?_
            refine lv_if_ne (tgt := 88) S.1 S.2.1 dL_act_80 (by decide) (fun c_80 => ?_) (fun c_80 => ?_)
            · refine lv_iconst (v := nI (3)) S.1 S.2.1 dL_act_88 rfl ?_
              refine lv_goto (tgt := 94) S.1 S.2.1 dL_act_89 (by decide) ?_
              refine k_SI (rest := [.int (nI (lw ((v) >>> ((nI (5)) &&& 31)) 3)), .int (nI (1)), .ref (a0)]) S hK hl.1 hW (KFr.nil hW hA) (mL_low l D c  _ (((v) >>> ((nI (5)) &&& 31)) >>> ((nI (2)) &&& 31)) 3 (by first | omega | exact hn0 | assumption | (show 0 < 3; omega) | rfl) (by first | omega | exact hn | assumption | (show 3 < 2147483648; omega) | rfl)) gL_act_L_low rfl pdL_low ⟨⟨rfl, rfl⟩, Nat.le_of_ble_eq_true rfl, Nat.le_of_ble_eq_true rfl⟩ rfl (Nat.le_of_ble_eq_true rfl) dL_act_94 ⟨Nat.le_of_ble_eq_true rfl, Nat.le_of_ble_eq_true rfl⟩ (fun H locs hW => ?_)
              refine lv_iload S.1 S.2.1 dL_act_97 (lv_at hl 1 rfl) ?_
              refine lv_iconst (v := nI (5)) S.1 S.2.1 dL_act_99 rfl ?_
              refine lv_ishr S.1 S.2.1 dL_act_100 ?_
              refine lv_bipush (v := nI (32)) S.1 S.2.1 dL_act_101 rfl ?_
              refine k_SI (rest := [.int (nI (lw (((v) >>> ((nI (5)) &&& 31)) >>> ((nI (2)) &&& 31)) 3)), .int (nI (lw ((v) >>> ((nI (5)) &&& 31)) 3)), .int (nI (1)), .ref (a0)]) S hK hl.1 hW (KFr.nil hW hA) (mL_low l D c  _ (((v) >>> ((nI (5)) &&& 31)) >>> ((nI (5)) &&& 31)) 32 (by first | omega | exact hn0 | assumption | (show 0 < 32; omega) | rfl) (by first | omega | exact hn | assumption | (show 32 < 2147483648; omega) | rfl)) gL_act_L_low rfl pdL_low ⟨⟨rfl, rfl⟩, Nat.le_of_ble_eq_true rfl, Nat.le_of_ble_eq_true rfl⟩ rfl (Nat.le_of_ble_eq_true rfl) dL_act_103 ⟨Nat.le_of_ble_eq_true rfl, Nat.le_of_ble_eq_true rfl⟩ (fun H locs hW => ?_)
              refine lv_aload_n S.1 S.2.1 dL_act_106 rfl (lv_at hl 5 rfl) ?_
              refine k_SW (rest := []) S hK hl.1 hW (KFr.all hW hA) hN hSt hV (hM _) gL_act_L_changes rfl pdL_changes ⟨⟨rfl, rfl⟩, Nat.le_of_ble_eq_true rfl, Nat.le_of_ble_eq_true rfl⟩ rfl (Nat.le_of_ble_eq_true rfl) dL_act_107 ⟨Nat.le_of_ble_eq_true rfl, Nat.le_of_ble_eq_true rfl⟩ (fun H locs hW => ?_)
              exact hret 110 _ _ _ _ _ _ _ dL_act_110 hW rfl rfl (by decide) (by decide)
            · exact absurd c_80 h80
      · exact absurd c_41 (by omega)
set_option maxRecDepth 100000 in
theorem paq_13 (l : Launch) (D : va_G) (c : Nat → ClassId) (sz : Nat) (wd w1 : va_W) (a0 o : Nat) (v : Int32) (r : Int32) (h21 : 0 < lw ((v) >>> ((nI (22)) &&& 31)) 7) (h34 : 16 ≤ lw v 32) (h114 : lw v 32 = 16) (hM : ∀ sz, MW l yL_copies wsL_copies rmL_copies D c sz wd [.ref (a0), .int (nI (lw ((v) >>> ((nI (5)) &&& 31)) 3)), .int (nI (lw (((v) >>> ((nI (5)) &&& 31)) >>> ((nI (2)) &&& 31)) 3)), .int (nI (lw (((v) >>> ((nI (5)) &&& 31)) >>> ((nI (4)) &&& 31)) 32)), .int ((nI (lw (((v) >>> ((nI (5)) &&& 31)) >>> ((nI (7)) &&& 31)) 23)) - (nI (11))), .ref (o)] r w1) : MW l yL_act wsL_act rmL_act D c sz wd [.ref a0, .int v, .ref o] r w1 := by
  refine MW.of (cc := cL_act) (maxL := 6) (by decide) rfl (Nat.le_of_ble_eq_true rfl) ?_
  intro P e s m below meth cd A Q ls hsz S hK hN hSt hV hW hA hl hret
  have hl : lv_has ls 6 [(0, .ref a0), (1, .int v), (2, .ref o)] := hl
  have hw32 := lw_lt v (n := 32) (by decide)
  have hw7 := lw_lt ((v) >>> ((nI (22)) &&& 31)) (n := 7) (by decide)
  refine lv_iload_n S.1 S.2.1 dL_act_0 rfl (lv_at hl 1 rfl) ?_
  refine lv_bipush (v := nI (32)) S.1 S.2.1 dL_act_1 rfl ?_
  refine k_SI (rest := []) S hK hl.1 hW (KFr.nil hW hA) (mL_low l D c  _ v 32 (by first | omega | exact hn0 | assumption | (show 0 < 32; omega) | rfl) (by first | omega | exact hn | assumption | (show 32 < 2147483648; omega) | rfl)) gL_act_L_low rfl pdL_low ⟨⟨rfl, rfl⟩, Nat.le_of_ble_eq_true rfl, Nat.le_of_ble_eq_true rfl⟩ rfl (Nat.le_of_ble_eq_true rfl) dL_act_3 ⟨Nat.le_of_ble_eq_true rfl, Nat.le_of_ble_eq_true rfl⟩ (fun H locs hW => ?_)
  refine lv_istore_n (lv' := [(3, .int (nI (lw v 32))), (0, .ref (a0)), (1, .int (v)), (2, .ref (o))]) S.1 S.2.1 dL_act_6 rfl hl (by decide) rfl (fun ls hl => ?_)
  refine lv_iload_n S.1 S.2.1 dL_act_7 rfl (lv_at hl 2 rfl) ?_
  refine lv_iconst (v := nI (5)) S.1 S.2.1 dL_act_8 rfl ?_
  refine lv_ishr S.1 S.2.1 dL_act_9 ?_
  refine lv_istore (lv' := [(4, .int ((v) >>> ((nI (5)) &&& 31))), (3, .int (nI (lw v 32))), (0, .ref (a0)), (1, .int (v)), (2, .ref (o))]) S.1 S.2.1 dL_act_10 hl (by decide) rfl (fun ls hl => ?_)
  refine lv_iload_n S.1 S.2.1 dL_act_12 rfl (lv_at hl 3 rfl) ?_
  refine lv_bipush (v := nI (22)) S.1 S.2.1 dL_act_13 rfl ?_
  refine lv_ishr S.1 S.2.1 dL_act_15 ?_
  refine lv_bipush (v := nI (7)) S.1 S.2.1 dL_act_16 rfl ?_
  refine k_SI (rest := []) S hK hl.1 hW (KFr.nil hW hA) (mL_low l D c  _ ((v) >>> ((nI (22)) &&& 31)) 7 (by first | omega | exact hn0 | assumption | (show 0 < 7; omega) | rfl) (by first | omega | exact hn | assumption | (show 7 < 2147483648; omega) | rfl)) gL_act_L_low rfl pdL_low ⟨⟨rfl, rfl⟩, Nat.le_of_ble_eq_true rfl, Nat.le_of_ble_eq_true rfl⟩ rfl (Nat.le_of_ble_eq_true rfl) dL_act_18 ⟨Nat.le_of_ble_eq_true rfl, Nat.le_of_ble_eq_true rfl⟩ (fun H locs hW => ?_)
  refine kz_le S (tgt := 28) dL_act_21 (by decide) (by omega) (fun c_21 => ?_) (fun c_21 => ?_)
  · exact absurd c_21 (by omega)
  · refine lv_iconst (v := nI (1)) S.1 S.2.1 dL_act_24 rfl ?_
    refine lv_goto (tgt := 29) S.1 S.2.1 dL_act_25 (by decide) ?_
    refine lv_istore (lv' := [(5, .int (nI (1))), (4, .int ((v) >>> ((nI (5)) &&& 31))), (3, .int (nI (lw v 32))), (0, .ref (a0)), (1, .int (v)), (2, .ref (o))]) S.1 S.2.1 dL_act_29 hl (by decide) rfl (fun ls hl => ?_)
    refine lv_iload_n S.1 S.2.1 dL_act_31 rfl (lv_at hl 2 rfl) ?_
    refine lv_bipush (v := nI (16)) S.1 S.2.1 dL_act_32 rfl ?_
    refine kn_ge S (tgt := 111) dL_act_34 (by decide) (by omega) (by omega) (fun c_34 => ?_) (fun c_34 => ?_)
    · refine lv_iload_n S.1 S.2.1 dL_act_111 rfl (lv_at hl 2 rfl) ?_
      refine lv_bipush (v := nI (16)) S.1 S.2.1 dL_act_112 rfl ?_
      refine kn_ne S (tgt := 188) dL_act_114 (by decide) (by omega) (by omega) (fun c_114 => ?_) (fun c_114 => ?_)
      · exact absurd c_114 (by omega)
      · refine lv_aload_n S.1 S.2.1 dL_act_117 rfl (lv_at hl 3 rfl) ?_
        refine lv_iload S.1 S.2.1 dL_act_118 (lv_at hl 1 rfl) ?_
        refine lv_iconst (v := nI (3)) S.1 S.2.1 dL_act_120 rfl ?_
        refine k_SI (rest := [.ref (a0)]) S hK hl.1 hW (KFr.nil hW hA) (mL_low l D c  _ ((v) >>> ((nI (5)) &&& 31)) 3 (by first | omega | exact hn0 | assumption | (show 0 < 3; omega) | rfl) (by first | omega | exact hn | assumption | (show 3 < 2147483648; omega) | rfl)) gL_act_L_low rfl pdL_low ⟨⟨rfl, rfl⟩, Nat.le_of_ble_eq_true rfl, Nat.le_of_ble_eq_true rfl⟩ rfl (Nat.le_of_ble_eq_true rfl) dL_act_121 ⟨Nat.le_of_ble_eq_true rfl, Nat.le_of_ble_eq_true rfl⟩ (fun H locs hW => ?_)
        refine lv_iload S.1 S.2.1 dL_act_124 (lv_at hl 1 rfl) ?_
        refine lv_iconst (v := nI (2)) S.1 S.2.1 dL_act_126 rfl ?_
        refine lv_ishr S.1 S.2.1 dL_act_127 ?_
        refine lv_iload S.1 S.2.1 dL_act_128 (lv_at hl 0 rfl) ?_
        refine kz_eq S (tgt := 137) dL_act_130 (by decide) (by omega) (fun c_130 => ?_) (fun c_130 => ?_)
        · exact absurd c_130 (by decide)
        · refine lv_iconst (v := nI (3)) S.1 S.2.1 dL_act_133 rfl ?_
          refine lv_goto (tgt := 138) S.1 S.2.1 dL_act_134 (by decide) ?_
          refine k_SI (rest := [.int (nI (lw ((v) >>> ((nI (5)) &&& 31)) 3)), .ref (a0)]) S hK hl.1 hW (KFr.nil hW hA) (mL_low l D c  _ (((v) >>> ((nI (5)) &&& 31)) >>> ((nI (2)) &&& 31)) 3 (by first | omega | exact hn0 | assumption | (show 0 < 3; omega) | rfl) (by first | omega | exact hn | assumption | (show 3 < 2147483648; omega) | rfl)) gL_act_L_low rfl pdL_low ⟨⟨rfl, rfl⟩, Nat.le_of_ble_eq_true rfl, Nat.le_of_ble_eq_true rfl⟩ rfl (Nat.le_of_ble_eq_true rfl) dL_act_138 ⟨Nat.le_of_ble_eq_true rfl, Nat.le_of_ble_eq_true rfl⟩ (fun H locs hW => ?_)
          refine lv_iload S.1 S.2.1 dL_act_141 (lv_at hl 1 rfl) ?_
          refine lv_iconst (v := nI (4)) S.1 S.2.1 dL_act_143 rfl ?_
          refine lv_ishr S.1 S.2.1 dL_act_144 ?_
          refine lv_iload S.1 S.2.1 dL_act_145 (lv_at hl 0 rfl) ?_
          refine kz_eq S (tgt := 155) dL_act_147 (by decide) (by omega) (fun c_147 => ?_) (fun c_147 => ?_)
          · exact absurd c_147 (by decide)
          · refine lv_bipush (v := nI (32)) S.1 S.2.1 dL_act_150 rfl ?_
            refine lv_goto (tgt := 157) S.1 S.2.1 dL_act_152 (by decide) ?_
            refine k_SI (rest := [.int (nI (lw (((v) >>> ((nI (5)) &&& 31)) >>> ((nI (2)) &&& 31)) 3)), .int (nI (lw ((v) >>> ((nI (5)) &&& 31)) 3)), .ref (a0)]) S hK hl.1 hW (KFr.nil hW hA) (mL_low l D c  _ (((v) >>> ((nI (5)) &&& 31)) >>> ((nI (4)) &&& 31)) 32 (by first | omega | exact hn0 | assumption | (show 0 < 32; omega) | rfl) (by first | omega | exact hn | assumption | (show 32 < 2147483648; omega) | rfl)) gL_act_L_low rfl pdL_low ⟨⟨rfl, rfl⟩, Nat.le_of_ble_eq_true rfl, Nat.le_of_ble_eq_true rfl⟩ rfl (Nat.le_of_ble_eq_true rfl) dL_act_157 ⟨Nat.le_of_ble_eq_true rfl, Nat.le_of_ble_eq_true rfl⟩ (fun H locs hW => ?_)
            refine lv_iload S.1 S.2.1 dL_act_160 (lv_at hl 1 rfl) ?_
            refine lv_bipush (v := nI (7)) S.1 S.2.1 dL_act_162 rfl ?_
            refine lv_ishr S.1 S.2.1 dL_act_164 ?_
            refine lv_iload S.1 S.2.1 dL_act_165 (lv_at hl 0 rfl) ?_
            refine kz_eq S (tgt := 175) dL_act_167 (by decide) (by omega) (fun c_167 => ?_) (fun c_167 => ?_)
            · exact absurd c_167 (by decide)
            · refine lv_bipush (v := nI (23)) S.1 S.2.1 dL_act_170 rfl ?_
              refine lv_goto (tgt := 177) S.1 S.2.1 dL_act_172 (by decide) ?_
              refine k_SI (rest := [.int (nI (lw (((v) >>> ((nI (5)) &&& 31)) >>> ((nI (4)) &&& 31)) 32)), .int (nI (lw (((v) >>> ((nI (5)) &&& 31)) >>> ((nI (2)) &&& 31)) 3)), .int (nI (lw ((v) >>> ((nI (5)) &&& 31)) 3)), .ref (a0)]) S hK hl.1 hW (KFr.nil hW hA) (mL_low l D c  _ (((v) >>> ((nI (5)) &&& 31)) >>> ((nI (7)) &&& 31)) 23 (by first | omega | exact hn0 | assumption | (show 0 < 23; omega) | rfl) (by first | omega | exact hn | assumption | (show 23 < 2147483648; omega) | rfl)) gL_act_L_low rfl pdL_low ⟨⟨rfl, rfl⟩, Nat.le_of_ble_eq_true rfl, Nat.le_of_ble_eq_true rfl⟩ rfl (Nat.le_of_ble_eq_true rfl) dL_act_177 ⟨Nat.le_of_ble_eq_true rfl, Nat.le_of_ble_eq_true rfl⟩ (fun H locs hW => ?_)
              refine lv_bipush (v := nI (11)) S.1 S.2.1 dL_act_180 rfl ?_
              refine lv_isub S.1 S.2.1 dL_act_182 ?_
              refine lv_aload_n S.1 S.2.1 dL_act_183 rfl (lv_at hl 5 rfl) ?_
              refine k_SW (rest := []) S hK hl.1 hW (KFr.all hW hA) hN hSt hV (hM _) gL_act_L_copies rfl pdL_copies ⟨⟨rfl, rfl⟩, Nat.le_of_ble_eq_true rfl, Nat.le_of_ble_eq_true rfl⟩ rfl (Nat.le_of_ble_eq_true rfl) dL_act_184 ⟨Nat.le_of_ble_eq_true rfl, Nat.le_of_ble_eq_true rfl⟩ (fun H locs hW => ?_)
              exact hret 187 _ _ _ _ _ _ _ dL_act_187 hW rfl rfl (by decide) (by decide)
    · exact absurd c_34 (by omega)
set_option maxRecDepth 100000 in
theorem paq_14 (l : Launch) (D : va_G) (c : Nat → ClassId) (sz : Nat) (wd w1 : va_W) (a0 o : Nat) (v : Int32) (r : Int32) (h21 : 0 < lw ((v) >>> ((nI (22)) &&& 31)) 7) (h34 : 16 ≤ lw v 32) (h114 : ¬ lw v 32 = 16) (h191 : lw v 32 < 20) (hM : ∀ sz, MW l yL_changes wsL_changes rmL_changes D c sz wd [.ref (a0), .int (nI (2)), .int (nI (1 + (lw ((v) >>> ((nI (5)) &&& 31)) 200))), .int (nI (0)), .int (nI (0)), .ref (o)] r w1) : MW l yL_act wsL_act rmL_act D c sz wd [.ref a0, .int v, .ref o] r w1 := by
  refine MW.of (cc := cL_act) (maxL := 6) (by decide) rfl (Nat.le_of_ble_eq_true rfl) ?_
  intro P e s m below meth cd A Q ls hsz S hK hN hSt hV hW hA hl hret
  have hl : lv_has ls 6 [(0, .ref a0), (1, .int v), (2, .ref o)] := hl
  have hw32 := lw_lt v (n := 32) (by decide)
  have hw7 := lw_lt ((v) >>> ((nI (22)) &&& 31)) (n := 7) (by decide)
  refine lv_iload_n S.1 S.2.1 dL_act_0 rfl (lv_at hl 1 rfl) ?_
  refine lv_bipush (v := nI (32)) S.1 S.2.1 dL_act_1 rfl ?_
  refine k_SI (rest := []) S hK hl.1 hW (KFr.nil hW hA) (mL_low l D c  _ v 32 (by first | omega | exact hn0 | assumption | (show 0 < 32; omega) | rfl) (by first | omega | exact hn | assumption | (show 32 < 2147483648; omega) | rfl)) gL_act_L_low rfl pdL_low ⟨⟨rfl, rfl⟩, Nat.le_of_ble_eq_true rfl, Nat.le_of_ble_eq_true rfl⟩ rfl (Nat.le_of_ble_eq_true rfl) dL_act_3 ⟨Nat.le_of_ble_eq_true rfl, Nat.le_of_ble_eq_true rfl⟩ (fun H locs hW => ?_)
  refine lv_istore_n (lv' := [(3, .int (nI (lw v 32))), (0, .ref (a0)), (1, .int (v)), (2, .ref (o))]) S.1 S.2.1 dL_act_6 rfl hl (by decide) rfl (fun ls hl => ?_)
  refine lv_iload_n S.1 S.2.1 dL_act_7 rfl (lv_at hl 2 rfl) ?_
  refine lv_iconst (v := nI (5)) S.1 S.2.1 dL_act_8 rfl ?_
  refine lv_ishr S.1 S.2.1 dL_act_9 ?_
  refine lv_istore (lv' := [(4, .int ((v) >>> ((nI (5)) &&& 31))), (3, .int (nI (lw v 32))), (0, .ref (a0)), (1, .int (v)), (2, .ref (o))]) S.1 S.2.1 dL_act_10 hl (by decide) rfl (fun ls hl => ?_)
  refine lv_iload_n S.1 S.2.1 dL_act_12 rfl (lv_at hl 3 rfl) ?_
  refine lv_bipush (v := nI (22)) S.1 S.2.1 dL_act_13 rfl ?_
  refine lv_ishr S.1 S.2.1 dL_act_15 ?_
  refine lv_bipush (v := nI (7)) S.1 S.2.1 dL_act_16 rfl ?_
  refine k_SI (rest := []) S hK hl.1 hW (KFr.nil hW hA) (mL_low l D c  _ ((v) >>> ((nI (22)) &&& 31)) 7 (by first | omega | exact hn0 | assumption | (show 0 < 7; omega) | rfl) (by first | omega | exact hn | assumption | (show 7 < 2147483648; omega) | rfl)) gL_act_L_low rfl pdL_low ⟨⟨rfl, rfl⟩, Nat.le_of_ble_eq_true rfl, Nat.le_of_ble_eq_true rfl⟩ rfl (Nat.le_of_ble_eq_true rfl) dL_act_18 ⟨Nat.le_of_ble_eq_true rfl, Nat.le_of_ble_eq_true rfl⟩ (fun H locs hW => ?_)
  refine kz_le S (tgt := 28) dL_act_21 (by decide) (by omega) (fun c_21 => ?_) (fun c_21 => ?_)
  · exact absurd c_21 (by omega)
  · refine lv_iconst (v := nI (1)) S.1 S.2.1 dL_act_24 rfl ?_
    refine lv_goto (tgt := 29) S.1 S.2.1 dL_act_25 (by decide) ?_
    refine lv_istore (lv' := [(5, .int (nI (1))), (4, .int ((v) >>> ((nI (5)) &&& 31))), (3, .int (nI (lw v 32))), (0, .ref (a0)), (1, .int (v)), (2, .ref (o))]) S.1 S.2.1 dL_act_29 hl (by decide) rfl (fun ls hl => ?_)
    refine lv_iload_n S.1 S.2.1 dL_act_31 rfl (lv_at hl 2 rfl) ?_
    refine lv_bipush (v := nI (16)) S.1 S.2.1 dL_act_32 rfl ?_
    refine kn_ge S (tgt := 111) dL_act_34 (by decide) (by omega) (by omega) (fun c_34 => ?_) (fun c_34 => ?_)
    · refine lv_iload_n S.1 S.2.1 dL_act_111 rfl (lv_at hl 2 rfl) ?_
      refine lv_bipush (v := nI (16)) S.1 S.2.1 dL_act_112 rfl ?_
      refine kn_ne S (tgt := 188) dL_act_114 (by decide) (by omega) (by omega) (fun c_114 => ?_) (fun c_114 => ?_)
      · refine lv_iload_n S.1 S.2.1 dL_act_188 rfl (lv_at hl 2 rfl) ?_
        refine lv_bipush (v := nI (20)) S.1 S.2.1 dL_act_189 rfl ?_
        refine kn_ge S (tgt := 233) dL_act_191 (by decide) (by omega) (by omega) (fun c_191 => ?_) (fun c_191 => ?_)
        · exact absurd c_191 (by omega)
        · refine lv_aload_n S.1 S.2.1 dL_act_194 rfl (lv_at hl 3 rfl) ?_
          refine lv_iconst (v := nI (2)) S.1 S.2.1 dL_act_195 rfl ?_
          refine lv_iload S.1 S.2.1 dL_act_196 (lv_at hl 0 rfl) ?_
          refine kz_eq S (tgt := 205) dL_act_198 (by decide) (by omega) (fun c_198 => ?_) (fun c_198 => ?_)
          · exact absurd c_198 (by decide)
          · refine lv_iconst (v := nI (1)) S.1 S.2.1 dL_act_201 rfl ?_
            refine lv_goto (tgt := 206) S.1 S.2.1 dL_act_202 (by decide) ?_
            refine lv_iload S.1 S.2.1 dL_act_206 (lv_at hl 1 rfl) ?_
            refine lv_iload S.1 S.2.1 dL_act_208 (lv_at hl 0 rfl) ?_
            refine kz_eq S (tgt := 219) dL_act_210 (by decide) (by omega) (fun c_210 => ?_) (fun c_210 => ?_)
            · exact absurd c_210 (by decide)
            · refine lv_sipush (v := nI (200)) S.1 S.2.1 dL_act_213 rfl ?_
              refine lv_goto (tgt := 222) S.1 S.2.1 dL_act_216 (by decide) ?_
              refine k_SI (rest := [.int (nI (1)), .int (nI (2)), .ref (a0)]) S hK hl.1 hW (KFr.nil hW hA) (mL_low l D c  _ ((v) >>> ((nI (5)) &&& 31)) 200 (by first | omega | exact hn0 | assumption | (show 0 < 200; omega) | rfl) (by first | omega | exact hn | assumption | (show 200 < 2147483648; omega) | rfl)) gL_act_L_low rfl pdL_low ⟨⟨rfl, rfl⟩, Nat.le_of_ble_eq_true rfl, Nat.le_of_ble_eq_true rfl⟩ rfl (Nat.le_of_ble_eq_true rfl) dL_act_222 ⟨Nat.le_of_ble_eq_true rfl, Nat.le_of_ble_eq_true rfl⟩ (fun H locs hW => ?_)
              refine kn_iadd S dL_act_225 ?_
              refine lv_iconst (v := nI (0)) S.1 S.2.1 dL_act_226 rfl ?_
              refine lv_iconst (v := nI (0)) S.1 S.2.1 dL_act_227 rfl ?_
              refine lv_aload_n S.1 S.2.1 dL_act_228 rfl (lv_at hl 5 rfl) ?_
              refine k_SW (rest := []) S hK hl.1 hW (KFr.all hW hA) hN hSt hV (hM _) gL_act_L_changes rfl pdL_changes ⟨⟨rfl, rfl⟩, Nat.le_of_ble_eq_true rfl, Nat.le_of_ble_eq_true rfl⟩ rfl (Nat.le_of_ble_eq_true rfl) dL_act_229 ⟨Nat.le_of_ble_eq_true rfl, Nat.le_of_ble_eq_true rfl⟩ (fun H locs hW => ?_)
              exact hret 232 _ _ _ _ _ _ _ dL_act_232 hW rfl rfl (by decide) (by decide)
      · exact absurd c_114 (by omega)
    · exact absurd c_34 (by omega)
set_option maxRecDepth 100000 in
theorem paq_15 (l : Launch) (D : va_G) (c : Nat → ClassId) (sz : Nat) (wd w1 : va_W) (a0 o : Nat) (v : Int32) (r : Int32) (h21 : 0 < lw ((v) >>> ((nI (22)) &&& 31)) 7) (h34 : 16 ≤ lw v 32) (h114 : ¬ lw v 32 = 16) (h191 : 20 ≤ lw v 32) (h236 : lw v 32 < 22) (h243 : lw v 32 = 20) (hM : ∀ sz, MW l yL_changes wsL_changes rmL_changes D c sz wd [.ref (a0), .int (nI (3)), .int (nI (lw ((v) >>> ((nI (5)) &&& 31)) 11)), .int (nI (0)), .int (nI (0)), .ref (o)] r w1) : MW l yL_act wsL_act rmL_act D c sz wd [.ref a0, .int v, .ref o] r w1 := by
  refine MW.of (cc := cL_act) (maxL := 6) (by decide) rfl (Nat.le_of_ble_eq_true rfl) ?_
  intro P e s m below meth cd A Q ls hsz S hK hN hSt hV hW hA hl hret
  have hl : lv_has ls 6 [(0, .ref a0), (1, .int v), (2, .ref o)] := hl
  have hw32 := lw_lt v (n := 32) (by decide)
  have hw7 := lw_lt ((v) >>> ((nI (22)) &&& 31)) (n := 7) (by decide)
  refine lv_iload_n S.1 S.2.1 dL_act_0 rfl (lv_at hl 1 rfl) ?_
  refine lv_bipush (v := nI (32)) S.1 S.2.1 dL_act_1 rfl ?_
  refine k_SI (rest := []) S hK hl.1 hW (KFr.nil hW hA) (mL_low l D c  _ v 32 (by first | omega | exact hn0 | assumption | (show 0 < 32; omega) | rfl) (by first | omega | exact hn | assumption | (show 32 < 2147483648; omega) | rfl)) gL_act_L_low rfl pdL_low ⟨⟨rfl, rfl⟩, Nat.le_of_ble_eq_true rfl, Nat.le_of_ble_eq_true rfl⟩ rfl (Nat.le_of_ble_eq_true rfl) dL_act_3 ⟨Nat.le_of_ble_eq_true rfl, Nat.le_of_ble_eq_true rfl⟩ (fun H locs hW => ?_)
  refine lv_istore_n (lv' := [(3, .int (nI (lw v 32))), (0, .ref (a0)), (1, .int (v)), (2, .ref (o))]) S.1 S.2.1 dL_act_6 rfl hl (by decide) rfl (fun ls hl => ?_)
  refine lv_iload_n S.1 S.2.1 dL_act_7 rfl (lv_at hl 2 rfl) ?_
  refine lv_iconst (v := nI (5)) S.1 S.2.1 dL_act_8 rfl ?_
  refine lv_ishr S.1 S.2.1 dL_act_9 ?_
  refine lv_istore (lv' := [(4, .int ((v) >>> ((nI (5)) &&& 31))), (3, .int (nI (lw v 32))), (0, .ref (a0)), (1, .int (v)), (2, .ref (o))]) S.1 S.2.1 dL_act_10 hl (by decide) rfl (fun ls hl => ?_)
  refine lv_iload_n S.1 S.2.1 dL_act_12 rfl (lv_at hl 3 rfl) ?_
  refine lv_bipush (v := nI (22)) S.1 S.2.1 dL_act_13 rfl ?_
  refine lv_ishr S.1 S.2.1 dL_act_15 ?_
  refine lv_bipush (v := nI (7)) S.1 S.2.1 dL_act_16 rfl ?_
  refine k_SI (rest := []) S hK hl.1 hW (KFr.nil hW hA) (mL_low l D c  _ ((v) >>> ((nI (22)) &&& 31)) 7 (by first | omega | exact hn0 | assumption | (show 0 < 7; omega) | rfl) (by first | omega | exact hn | assumption | (show 7 < 2147483648; omega) | rfl)) gL_act_L_low rfl pdL_low ⟨⟨rfl, rfl⟩, Nat.le_of_ble_eq_true rfl, Nat.le_of_ble_eq_true rfl⟩ rfl (Nat.le_of_ble_eq_true rfl) dL_act_18 ⟨Nat.le_of_ble_eq_true rfl, Nat.le_of_ble_eq_true rfl⟩ (fun H locs hW => ?_)
  refine kz_le S (tgt := 28) dL_act_21 (by decide) (by omega) (fun c_21 => ?_) (fun c_21 => ?_)
  · exact absurd c_21 (by omega)
  · refine lv_iconst (v := nI (1)) S.1 S.2.1 dL_act_24 rfl ?_
    refine lv_goto (tgt := 29) S.1 S.2.1 dL_act_25 (by decide) ?_
    refine lv_istore (lv' := [(5, .int (nI (1))), (4, .int ((v) >>> ((nI (5)) &&& 31))), (3, .int (nI (lw v 32))), (0, .ref (a0)), (1, .int (v)), (2, .ref (o))]) S.1 S.2.1 dL_act_29 hl (by decide) rfl (fun ls hl => ?_)
    refine lv_iload_n S.1 S.2.1 dL_act_31 rfl (lv_at hl 2 rfl) ?_
    refine lv_bipush (v := nI (16)) S.1 S.2.1 dL_act_32 rfl ?_
    refine kn_ge S (tgt := 111) dL_act_34 (by decide) (by omega) (by omega) (fun c_34 => ?_) (fun c_34 => ?_)
    · refine lv_iload_n S.1 S.2.1 dL_act_111 rfl (lv_at hl 2 rfl) ?_
      refine lv_bipush (v := nI (16)) S.1 S.2.1 dL_act_112 rfl ?_
      refine kn_ne S (tgt := 188) dL_act_114 (by decide) (by omega) (by omega) (fun c_114 => ?_) (fun c_114 => ?_)
      · refine lv_iload_n S.1 S.2.1 dL_act_188 rfl (lv_at hl 2 rfl) ?_
        refine lv_bipush (v := nI (20)) S.1 S.2.1 dL_act_189 rfl ?_
        refine kn_ge S (tgt := 233) dL_act_191 (by decide) (by omega) (by omega) (fun c_191 => ?_) (fun c_191 => ?_)
        · refine lv_iload_n S.1 S.2.1 dL_act_233 rfl (lv_at hl 2 rfl) ?_
          refine lv_bipush (v := nI (22)) S.1 S.2.1 dL_act_234 rfl ?_
          refine kn_ge S (tgt := 284) dL_act_236 (by decide) (by omega) (by omega) (fun c_236 => ?_) (fun c_236 => ?_)
          · exact absurd c_236 (by omega)
          · refine lv_aload_n S.1 S.2.1 dL_act_239 rfl (lv_at hl 3 rfl) ?_
            refine lv_iload_n S.1 S.2.1 dL_act_240 rfl (lv_at hl 2 rfl) ?_
            refine lv_bipush (v := nI (20)) S.1 S.2.1 dL_act_241 rfl ?_
            refine kn_ne S (tgt := 250) dL_act_243 (by decide) (by omega) (by omega) (fun c_243 => ?_) (fun c_243 => ?_)
            · exact absurd c_243 (by omega)
            · refine lv_iconst (v := nI (3)) S.1 S.2.1 dL_act_246 rfl ?_
              refine lv_goto (tgt := 251) S.1 S.2.1 dL_act_247 (by decide) ?_
              refine lv_iload S.1 S.2.1 dL_act_251 (lv_at hl 1 rfl) ?_
              refine lv_iload_n S.1 S.2.1 dL_act_253 rfl (lv_at hl 2 rfl) ?_
              refine lv_bipush (v := nI (20)) S.1 S.2.1 dL_act_254 rfl ?_
              refine kn_ne S (tgt := 264) dL_act_256 (by decide) (by omega) (by omega) (fun c_256 => ?_) (fun c_256 => ?_)
              · exact absurd c_256 (by omega)
              · refine lv_bipush (v := nI (11)) S.1 S.2.1 dL_act_259 rfl ?_
                refine lv_goto (tgt := 274) S.1 S.2.1 dL_act_261 (by decide) ?_
                refine k_SI (rest := [.int (nI (3)), .ref (a0)]) S hK hl.1 hW (KFr.nil hW hA) (mL_low l D c  _ ((v) >>> ((nI (5)) &&& 31)) 11 (by first | omega | exact hn0 | assumption | (show 0 < 11; omega) | rfl) (by first | omega | exact hn | assumption | (show 11 < 2147483648; omega) | rfl)) gL_act_L_low rfl pdL_low ⟨⟨rfl, rfl⟩, Nat.le_of_ble_eq_true rfl, Nat.le_of_ble_eq_true rfl⟩ rfl (Nat.le_of_ble_eq_true rfl) dL_act_274 ⟨Nat.le_of_ble_eq_true rfl, Nat.le_of_ble_eq_true rfl⟩ (fun H locs hW => ?_)
                refine lv_iconst (v := nI (0)) S.1 S.2.1 dL_act_277 rfl ?_
                refine lv_iconst (v := nI (0)) S.1 S.2.1 dL_act_278 rfl ?_
                refine lv_aload_n S.1 S.2.1 dL_act_279 rfl (lv_at hl 5 rfl) ?_
                refine k_SW (rest := []) S hK hl.1 hW (KFr.all hW hA) hN hSt hV (hM _) gL_act_L_changes rfl pdL_changes ⟨⟨rfl, rfl⟩, Nat.le_of_ble_eq_true rfl, Nat.le_of_ble_eq_true rfl⟩ rfl (Nat.le_of_ble_eq_true rfl) dL_act_280 ⟨Nat.le_of_ble_eq_true rfl, Nat.le_of_ble_eq_true rfl⟩ (fun H locs hW => ?_)
                exact hret 283 _ _ _ _ _ _ _ dL_act_283 hW rfl rfl (by decide) (by decide)
        · exact absurd c_191 (by omega)
      · exact absurd c_114 (by omega)
    · exact absurd c_34 (by omega)
set_option maxRecDepth 100000 in
theorem paq_16 (l : Launch) (D : va_G) (c : Nat → ClassId) (sz : Nat) (wd w1 : va_W) (a0 o : Nat) (v : Int32) (r : Int32) (h21 : 0 < lw ((v) >>> ((nI (22)) &&& 31)) 7) (h34 : 16 ≤ lw v 32) (h114 : ¬ lw v 32 = 16) (h191 : 20 ≤ lw v 32) (h236 : lw v 32 < 22) (h243 : ¬ lw v 32 = 20) (hM : ∀ sz, MW l yL_changes wsL_changes rmL_changes D c sz wd [.ref (a0), .int (nI (4)), .int (nI (lw ((v) >>> ((nI (5)) &&& 31)) 3)), .int (nI (0)), .int (nI (0)), .ref (o)] r w1) : MW l yL_act wsL_act rmL_act D c sz wd [.ref a0, .int v, .ref o] r w1 := by
  refine MW.of (cc := cL_act) (maxL := 6) (by decide) rfl (Nat.le_of_ble_eq_true rfl) ?_
  intro P e s m below meth cd A Q ls hsz S hK hN hSt hV hW hA hl hret
  have hl : lv_has ls 6 [(0, .ref a0), (1, .int v), (2, .ref o)] := hl
  have hw32 := lw_lt v (n := 32) (by decide)
  have hw7 := lw_lt ((v) >>> ((nI (22)) &&& 31)) (n := 7) (by decide)
  refine lv_iload_n S.1 S.2.1 dL_act_0 rfl (lv_at hl 1 rfl) ?_
  refine lv_bipush (v := nI (32)) S.1 S.2.1 dL_act_1 rfl ?_
  refine k_SI (rest := []) S hK hl.1 hW (KFr.nil hW hA) (mL_low l D c  _ v 32 (by first | omega | exact hn0 | assumption | (show 0 < 32; omega) | rfl) (by first | omega | exact hn | assumption | (show 32 < 2147483648; omega) | rfl)) gL_act_L_low rfl pdL_low ⟨⟨rfl, rfl⟩, Nat.le_of_ble_eq_true rfl, Nat.le_of_ble_eq_true rfl⟩ rfl (Nat.le_of_ble_eq_true rfl) dL_act_3 ⟨Nat.le_of_ble_eq_true rfl, Nat.le_of_ble_eq_true rfl⟩ (fun H locs hW => ?_)
  refine lv_istore_n (lv' := [(3, .int (nI (lw v 32))), (0, .ref (a0)), (1, .int (v)), (2, .ref (o))]) S.1 S.2.1 dL_act_6 rfl hl (by decide) rfl (fun ls hl => ?_)
  refine lv_iload_n S.1 S.2.1 dL_act_7 rfl (lv_at hl 2 rfl) ?_
  refine lv_iconst (v := nI (5)) S.1 S.2.1 dL_act_8 rfl ?_
  refine lv_ishr S.1 S.2.1 dL_act_9 ?_
  refine lv_istore (lv' := [(4, .int ((v) >>> ((nI (5)) &&& 31))), (3, .int (nI (lw v 32))), (0, .ref (a0)), (1, .int (v)), (2, .ref (o))]) S.1 S.2.1 dL_act_10 hl (by decide) rfl (fun ls hl => ?_)
  refine lv_iload_n S.1 S.2.1 dL_act_12 rfl (lv_at hl 3 rfl) ?_
  refine lv_bipush (v := nI (22)) S.1 S.2.1 dL_act_13 rfl ?_
  refine lv_ishr S.1 S.2.1 dL_act_15 ?_
  refine lv_bipush (v := nI (7)) S.1 S.2.1 dL_act_16 rfl ?_
  refine k_SI (rest := []) S hK hl.1 hW (KFr.nil hW hA) (mL_low l D c  _ ((v) >>> ((nI (22)) &&& 31)) 7 (by first | omega | exact hn0 | assumption | (show 0 < 7; omega) | rfl) (by first | omega | exact hn | assumption | (show 7 < 2147483648; omega) | rfl)) gL_act_L_low rfl pdL_low ⟨⟨rfl, rfl⟩, Nat.le_of_ble_eq_true rfl, Nat.le_of_ble_eq_true rfl⟩ rfl (Nat.le_of_ble_eq_true rfl) dL_act_18 ⟨Nat.le_of_ble_eq_true rfl, Nat.le_of_ble_eq_true rfl⟩ (fun H locs hW => ?_)
  refine kz_le S (tgt := 28) dL_act_21 (by decide) (by omega) (fun c_21 => ?_) (fun c_21 => ?_)
  · exact absurd c_21 (by omega)
  · refine lv_iconst (v := nI (1)) S.1 S.2.1 dL_act_24 rfl ?_
    refine lv_goto (tgt := 29) S.1 S.2.1 dL_act_25 (by decide) ?_
    refine lv_istore (lv' := [(5, .int (nI (1))), (4, .int ((v) >>> ((nI (5)) &&& 31))), (3, .int (nI (lw v 32))), (0, .ref (a0)), (1, .int (v)), (2, .ref (o))]) S.1 S.2.1 dL_act_29 hl (by decide) rfl (fun ls hl => ?_)
    refine lv_iload_n S.1 S.2.1 dL_act_31 rfl (lv_at hl 2 rfl) ?_
    refine lv_bipush (v := nI (16)) S.1 S.2.1 dL_act_32 rfl ?_
    refine kn_ge S (tgt := 111) dL_act_34 (by decide) (by omega) (by omega) (fun c_34 => ?_) (fun c_34 => ?_)
    · refine lv_iload_n S.1 S.2.1 dL_act_111 rfl (lv_at hl 2 rfl) ?_
      refine lv_bipush (v := nI (16)) S.1 S.2.1 dL_act_112 rfl ?_
      refine kn_ne S (tgt := 188) dL_act_114 (by decide) (by omega) (by omega) (fun c_114 => ?_) (fun c_114 => ?_)
      · refine lv_iload_n S.1 S.2.1 dL_act_188 rfl (lv_at hl 2 rfl) ?_
        refine lv_bipush (v := nI (20)) S.1 S.2.1 dL_act_189 rfl ?_
        refine kn_ge S (tgt := 233) dL_act_191 (by decide) (by omega) (by omega) (fun c_191 => ?_) (fun c_191 => ?_)
        · refine lv_iload_n S.1 S.2.1 dL_act_233 rfl (lv_at hl 2 rfl) ?_
          refine lv_bipush (v := nI (22)) S.1 S.2.1 dL_act_234 rfl ?_
          refine kn_ge S (tgt := 284) dL_act_236 (by decide) (by omega) (by omega) (fun c_236 => ?_) (fun c_236 => ?_)
          · exact absurd c_236 (by omega)
          · refine lv_aload_n S.1 S.2.1 dL_act_239 rfl (lv_at hl 3 rfl) ?_
            refine lv_iload_n S.1 S.2.1 dL_act_240 rfl (lv_at hl 2 rfl) ?_
            refine lv_bipush (v := nI (20)) S.1 S.2.1 dL_act_241 rfl ?_
            refine kn_ne S (tgt := 250) dL_act_243 (by decide) (by omega) (by omega) (fun c_243 => ?_) (fun c_243 => ?_)
            · refine lv_iconst (v := nI (4)) S.1 S.2.1 dL_act_250 rfl ?_
              refine lv_iload S.1 S.2.1 dL_act_251 (lv_at hl 1 rfl) ?_
              refine lv_iload_n S.1 S.2.1 dL_act_253 rfl (lv_at hl 2 rfl) ?_
              refine lv_bipush (v := nI (20)) S.1 S.2.1 dL_act_254 rfl ?_
              refine kn_ne S (tgt := 264) dL_act_256 (by decide) (by omega) (by omega) (fun c_256 => ?_) (fun c_256 => ?_)
              · refine lv_iload S.1 S.2.1 dL_act_264 (lv_at hl 0 rfl) ?_
                refine kz_eq S (tgt := 273) dL_act_266 (by decide) (by omega) (fun c_266 => ?_) (fun c_266 => ?_)
                · exact absurd c_266 (by decide)
                · refine lv_iconst (v := nI (3)) S.1 S.2.1 dL_act_269 rfl ?_
                  refine lv_goto (tgt := 274) S.1 S.2.1 dL_act_270 (by decide) ?_
                  refine k_SI (rest := [.int (nI (4)), .ref (a0)]) S hK hl.1 hW (KFr.nil hW hA) (mL_low l D c  _ ((v) >>> ((nI (5)) &&& 31)) 3 (by first | omega | exact hn0 | assumption | (show 0 < 3; omega) | rfl) (by first | omega | exact hn | assumption | (show 3 < 2147483648; omega) | rfl)) gL_act_L_low rfl pdL_low ⟨⟨rfl, rfl⟩, Nat.le_of_ble_eq_true rfl, Nat.le_of_ble_eq_true rfl⟩ rfl (Nat.le_of_ble_eq_true rfl) dL_act_274 ⟨Nat.le_of_ble_eq_true rfl, Nat.le_of_ble_eq_true rfl⟩ (fun H locs hW => ?_)
                  refine lv_iconst (v := nI (0)) S.1 S.2.1 dL_act_277 rfl ?_
                  refine lv_iconst (v := nI (0)) S.1 S.2.1 dL_act_278 rfl ?_
                  refine lv_aload_n S.1 S.2.1 dL_act_279 rfl (lv_at hl 5 rfl) ?_
                  refine k_SW (rest := []) S hK hl.1 hW (KFr.all hW hA) hN hSt hV (hM _) gL_act_L_changes rfl pdL_changes ⟨⟨rfl, rfl⟩, Nat.le_of_ble_eq_true rfl, Nat.le_of_ble_eq_true rfl⟩ rfl (Nat.le_of_ble_eq_true rfl) dL_act_280 ⟨Nat.le_of_ble_eq_true rfl, Nat.le_of_ble_eq_true rfl⟩ (fun H locs hW => ?_)
                  exact hret 283 _ _ _ _ _ _ _ dL_act_283 hW rfl rfl (by decide) (by decide)
              · exact absurd c_256 (by omega)
            · exact absurd c_243 (by omega)
        · exact absurd c_191 (by omega)
      · exact absurd c_114 (by omega)
    · exact absurd c_34 (by omega)
set_option maxRecDepth 100000 in
theorem paq_17 (l : Launch) (D : va_G) (c : Nat → ClassId) (sz : Nat) (wd w1 : va_W) (a0 o : Nat) (v : Int32) (r : Int32) (h21 : 0 < lw ((v) >>> ((nI (22)) &&& 31)) 7) (h34 : 16 ≤ lw v 32) (h114 : ¬ lw v 32 = 16) (h191 : 20 ≤ lw v 32) (h236 : 22 ≤ lw v 32) (h287 : lw v 32 = 22) (hM : ∀ sz, MW l yL_changes wsL_changes rmL_changes D c sz wd [.ref (a0), .int (nI (6)), .int (nI (lw ((v) >>> ((nI (5)) &&& 31)) 12)), .int (nI (0)), .int (nI (0)), .ref (o)] r w1) : MW l yL_act wsL_act rmL_act D c sz wd [.ref a0, .int v, .ref o] r w1 := by
  refine MW.of (cc := cL_act) (maxL := 6) (by decide) rfl (Nat.le_of_ble_eq_true rfl) ?_
  intro P e s m below meth cd A Q ls hsz S hK hN hSt hV hW hA hl hret
  have hl : lv_has ls 6 [(0, .ref a0), (1, .int v), (2, .ref o)] := hl
  have hw32 := lw_lt v (n := 32) (by decide)
  have hw7 := lw_lt ((v) >>> ((nI (22)) &&& 31)) (n := 7) (by decide)
  refine lv_iload_n S.1 S.2.1 dL_act_0 rfl (lv_at hl 1 rfl) ?_
  refine lv_bipush (v := nI (32)) S.1 S.2.1 dL_act_1 rfl ?_
  refine k_SI (rest := []) S hK hl.1 hW (KFr.nil hW hA) (mL_low l D c  _ v 32 (by first | omega | exact hn0 | assumption | (show 0 < 32; omega) | rfl) (by first | omega | exact hn | assumption | (show 32 < 2147483648; omega) | rfl)) gL_act_L_low rfl pdL_low ⟨⟨rfl, rfl⟩, Nat.le_of_ble_eq_true rfl, Nat.le_of_ble_eq_true rfl⟩ rfl (Nat.le_of_ble_eq_true rfl) dL_act_3 ⟨Nat.le_of_ble_eq_true rfl, Nat.le_of_ble_eq_true rfl⟩ (fun H locs hW => ?_)
  refine lv_istore_n (lv' := [(3, .int (nI (lw v 32))), (0, .ref (a0)), (1, .int (v)), (2, .ref (o))]) S.1 S.2.1 dL_act_6 rfl hl (by decide) rfl (fun ls hl => ?_)
  refine lv_iload_n S.1 S.2.1 dL_act_7 rfl (lv_at hl 2 rfl) ?_
  refine lv_iconst (v := nI (5)) S.1 S.2.1 dL_act_8 rfl ?_
  refine lv_ishr S.1 S.2.1 dL_act_9 ?_
  refine lv_istore (lv' := [(4, .int ((v) >>> ((nI (5)) &&& 31))), (3, .int (nI (lw v 32))), (0, .ref (a0)), (1, .int (v)), (2, .ref (o))]) S.1 S.2.1 dL_act_10 hl (by decide) rfl (fun ls hl => ?_)
  refine lv_iload_n S.1 S.2.1 dL_act_12 rfl (lv_at hl 3 rfl) ?_
  refine lv_bipush (v := nI (22)) S.1 S.2.1 dL_act_13 rfl ?_
  refine lv_ishr S.1 S.2.1 dL_act_15 ?_
  refine lv_bipush (v := nI (7)) S.1 S.2.1 dL_act_16 rfl ?_
  refine k_SI (rest := []) S hK hl.1 hW (KFr.nil hW hA) (mL_low l D c  _ ((v) >>> ((nI (22)) &&& 31)) 7 (by first | omega | exact hn0 | assumption | (show 0 < 7; omega) | rfl) (by first | omega | exact hn | assumption | (show 7 < 2147483648; omega) | rfl)) gL_act_L_low rfl pdL_low ⟨⟨rfl, rfl⟩, Nat.le_of_ble_eq_true rfl, Nat.le_of_ble_eq_true rfl⟩ rfl (Nat.le_of_ble_eq_true rfl) dL_act_18 ⟨Nat.le_of_ble_eq_true rfl, Nat.le_of_ble_eq_true rfl⟩ (fun H locs hW => ?_)
  refine kz_le S (tgt := 28) dL_act_21 (by decide) (by omega) (fun c_21 => ?_) (fun c_21 => ?_)
  · exact absurd c_21 (by omega)
  · refine lv_iconst (v := nI (1)) S.1 S.2.1 dL_act_24 rfl ?_
    refine lv_goto (tgt := 29) S.1 S.2.1 dL_act_25 (by decide) ?_
    refine lv_istore (lv' := [(5, .int (nI (1))), (4, .int ((v) >>> ((nI (5)) &&& 31))), (3, .int (nI (lw v 32))), (0, .ref (a0)), (1, .int (v)), (2, .ref (o))]) S.1 S.2.1 dL_act_29 hl (by decide) rfl (fun ls hl => ?_)
    refine lv_iload_n S.1 S.2.1 dL_act_31 rfl (lv_at hl 2 rfl) ?_
    refine lv_bipush (v := nI (16)) S.1 S.2.1 dL_act_32 rfl ?_
    refine kn_ge S (tgt := 111) dL_act_34 (by decide) (by omega) (by omega) (fun c_34 => ?_) (fun c_34 => ?_)
    · refine lv_iload_n S.1 S.2.1 dL_act_111 rfl (lv_at hl 2 rfl) ?_
      refine lv_bipush (v := nI (16)) S.1 S.2.1 dL_act_112 rfl ?_
      refine kn_ne S (tgt := 188) dL_act_114 (by decide) (by omega) (by omega) (fun c_114 => ?_) (fun c_114 => ?_)
      · refine lv_iload_n S.1 S.2.1 dL_act_188 rfl (lv_at hl 2 rfl) ?_
        refine lv_bipush (v := nI (20)) S.1 S.2.1 dL_act_189 rfl ?_
        refine kn_ge S (tgt := 233) dL_act_191 (by decide) (by omega) (by omega) (fun c_191 => ?_) (fun c_191 => ?_)
        · refine lv_iload_n S.1 S.2.1 dL_act_233 rfl (lv_at hl 2 rfl) ?_
          refine lv_bipush (v := nI (22)) S.1 S.2.1 dL_act_234 rfl ?_
          refine kn_ge S (tgt := 284) dL_act_236 (by decide) (by omega) (by omega) (fun c_236 => ?_) (fun c_236 => ?_)
          · refine lv_iload_n S.1 S.2.1 dL_act_284 rfl (lv_at hl 2 rfl) ?_
            refine lv_bipush (v := nI (22)) S.1 S.2.1 dL_act_285 rfl ?_
            refine kn_ne S (tgt := 319) dL_act_287 (by decide) (by omega) (by omega) (fun c_287 => ?_) (fun c_287 => ?_)
            · exact absurd c_287 (by omega)
            · refine lv_aload_n S.1 S.2.1 dL_act_290 rfl (lv_at hl 3 rfl) ?_
              refine lv_bipush (v := nI (6)) S.1 S.2.1 dL_act_291 rfl ?_
              refine lv_iload S.1 S.2.1 dL_act_293 (lv_at hl 1 rfl) ?_
              refine lv_iload S.1 S.2.1 dL_act_295 (lv_at hl 0 rfl) ?_
              refine kz_eq S (tgt := 305) dL_act_297 (by decide) (by omega) (fun c_297 => ?_) (fun c_297 => ?_)
              · exact absurd c_297 (by decide)
              · refine lv_bipush (v := nI (12)) S.1 S.2.1 dL_act_300 rfl ?_
                refine lv_goto (tgt := 307) S.1 S.2.1 dL_act_302 (by decide) ?_
                refine k_SI (rest := [.int (nI (6)), .ref (a0)]) S hK hl.1 hW (KFr.nil hW hA) (mL_low l D c  _ ((v) >>> ((nI (5)) &&& 31)) 12 (by first | omega | exact hn0 | assumption | (show 0 < 12; omega) | rfl) (by first | omega | exact hn | assumption | (show 12 < 2147483648; omega) | rfl)) gL_act_L_low rfl pdL_low ⟨⟨rfl, rfl⟩, Nat.le_of_ble_eq_true rfl, Nat.le_of_ble_eq_true rfl⟩ rfl (Nat.le_of_ble_eq_true rfl) dL_act_307 ⟨Nat.le_of_ble_eq_true rfl, Nat.le_of_ble_eq_true rfl⟩ (fun H locs hW => ?_)
                refine lv_iconst (v := nI (0)) S.1 S.2.1 dL_act_310 rfl ?_
                refine lv_iconst (v := nI (0)) S.1 S.2.1 dL_act_311 rfl ?_
                refine lv_aload_n S.1 S.2.1 dL_act_312 rfl (lv_at hl 5 rfl) ?_
                refine k_SW (rest := []) S hK hl.1 hW (KFr.all hW hA) hN hSt hV (hM _) gL_act_L_changes rfl pdL_changes ⟨⟨rfl, rfl⟩, Nat.le_of_ble_eq_true rfl, Nat.le_of_ble_eq_true rfl⟩ rfl (Nat.le_of_ble_eq_true rfl) dL_act_313 ⟨Nat.le_of_ble_eq_true rfl, Nat.le_of_ble_eq_true rfl⟩ (fun H locs hW => ?_)
                refine lv_goto (tgt := 397) S.1 S.2.1 dL_act_316 (by decide) ?_
                exact hret 397 _ _ _ _ _ _ _ dL_act_397 hW rfl rfl (by decide) (by decide)
          · exact absurd c_236 (by omega)
        · exact absurd c_191 (by omega)
      · exact absurd c_114 (by omega)
    · exact absurd c_34 (by omega)
set_option maxRecDepth 100000 in
theorem paq_18 (l : Launch) (D : va_G) (c : Nat → ClassId) (sz : Nat) (wd w1 : va_W) (a0 o : Nat) (v : Int32) (r : Int32) (h21 : 0 < lw ((v) >>> ((nI (22)) &&& 31)) 7) (h34 : 16 ≤ lw v 32) (h114 : ¬ lw v 32 = 16) (h191 : 20 ≤ lw v 32) (h236 : 22 ≤ lw v 32) (h287 : ¬ lw v 32 = 22) (h322 : lw v 32 < 25) (hM : ∀ sz, MW l yL_changes wsL_changes rmL_changes D c sz wd [.ref (a0), .int (nI (7)), .int (nI (lw ((v) >>> ((nI (5)) &&& 31)) 5)), .int (nI (lw (((v) >>> ((nI (5)) &&& 31)) >>> ((nI (3)) &&& 31)) 13)), .int (nI (0)), .ref (o)] r w1) : MW l yL_act wsL_act rmL_act D c sz wd [.ref a0, .int v, .ref o] r w1 := by
  refine MW.of (cc := cL_act) (maxL := 6) (by decide) rfl (Nat.le_of_ble_eq_true rfl) ?_
  intro P e s m below meth cd A Q ls hsz S hK hN hSt hV hW hA hl hret
  have hl : lv_has ls 6 [(0, .ref a0), (1, .int v), (2, .ref o)] := hl
  have hw32 := lw_lt v (n := 32) (by decide)
  have hw7 := lw_lt ((v) >>> ((nI (22)) &&& 31)) (n := 7) (by decide)
  refine lv_iload_n S.1 S.2.1 dL_act_0 rfl (lv_at hl 1 rfl) ?_
  refine lv_bipush (v := nI (32)) S.1 S.2.1 dL_act_1 rfl ?_
  refine k_SI (rest := []) S hK hl.1 hW (KFr.nil hW hA) (mL_low l D c  _ v 32 (by first | omega | exact hn0 | assumption | (show 0 < 32; omega) | rfl) (by first | omega | exact hn | assumption | (show 32 < 2147483648; omega) | rfl)) gL_act_L_low rfl pdL_low ⟨⟨rfl, rfl⟩, Nat.le_of_ble_eq_true rfl, Nat.le_of_ble_eq_true rfl⟩ rfl (Nat.le_of_ble_eq_true rfl) dL_act_3 ⟨Nat.le_of_ble_eq_true rfl, Nat.le_of_ble_eq_true rfl⟩ (fun H locs hW => ?_)
  refine lv_istore_n (lv' := [(3, .int (nI (lw v 32))), (0, .ref (a0)), (1, .int (v)), (2, .ref (o))]) S.1 S.2.1 dL_act_6 rfl hl (by decide) rfl (fun ls hl => ?_)
  refine lv_iload_n S.1 S.2.1 dL_act_7 rfl (lv_at hl 2 rfl) ?_
  refine lv_iconst (v := nI (5)) S.1 S.2.1 dL_act_8 rfl ?_
  refine lv_ishr S.1 S.2.1 dL_act_9 ?_
  refine lv_istore (lv' := [(4, .int ((v) >>> ((nI (5)) &&& 31))), (3, .int (nI (lw v 32))), (0, .ref (a0)), (1, .int (v)), (2, .ref (o))]) S.1 S.2.1 dL_act_10 hl (by decide) rfl (fun ls hl => ?_)
  refine lv_iload_n S.1 S.2.1 dL_act_12 rfl (lv_at hl 3 rfl) ?_
  refine lv_bipush (v := nI (22)) S.1 S.2.1 dL_act_13 rfl ?_
  refine lv_ishr S.1 S.2.1 dL_act_15 ?_
  refine lv_bipush (v := nI (7)) S.1 S.2.1 dL_act_16 rfl ?_
  refine k_SI (rest := []) S hK hl.1 hW (KFr.nil hW hA) (mL_low l D c  _ ((v) >>> ((nI (22)) &&& 31)) 7 (by first | omega | exact hn0 | assumption | (show 0 < 7; omega) | rfl) (by first | omega | exact hn | assumption | (show 7 < 2147483648; omega) | rfl)) gL_act_L_low rfl pdL_low ⟨⟨rfl, rfl⟩, Nat.le_of_ble_eq_true rfl, Nat.le_of_ble_eq_true rfl⟩ rfl (Nat.le_of_ble_eq_true rfl) dL_act_18 ⟨Nat.le_of_ble_eq_true rfl, Nat.le_of_ble_eq_true rfl⟩ (fun H locs hW => ?_)
  refine kz_le S (tgt := 28) dL_act_21 (by decide) (by omega) (fun c_21 => ?_) (fun c_21 => ?_)
  · exact absurd c_21 (by omega)
  · refine lv_iconst (v := nI (1)) S.1 S.2.1 dL_act_24 rfl ?_
    refine lv_goto (tgt := 29) S.1 S.2.1 dL_act_25 (by decide) ?_
    refine lv_istore (lv' := [(5, .int (nI (1))), (4, .int ((v) >>> ((nI (5)) &&& 31))), (3, .int (nI (lw v 32))), (0, .ref (a0)), (1, .int (v)), (2, .ref (o))]) S.1 S.2.1 dL_act_29 hl (by decide) rfl (fun ls hl => ?_)
    refine lv_iload_n S.1 S.2.1 dL_act_31 rfl (lv_at hl 2 rfl) ?_
    refine lv_bipush (v := nI (16)) S.1 S.2.1 dL_act_32 rfl ?_
    refine kn_ge S (tgt := 111) dL_act_34 (by decide) (by omega) (by omega) (fun c_34 => ?_) (fun c_34 => ?_)
    · refine lv_iload_n S.1 S.2.1 dL_act_111 rfl (lv_at hl 2 rfl) ?_
      refine lv_bipush (v := nI (16)) S.1 S.2.1 dL_act_112 rfl ?_
      refine kn_ne S (tgt := 188) dL_act_114 (by decide) (by omega) (by omega) (fun c_114 => ?_) (fun c_114 => ?_)
      · refine lv_iload_n S.1 S.2.1 dL_act_188 rfl (lv_at hl 2 rfl) ?_
        refine lv_bipush (v := nI (20)) S.1 S.2.1 dL_act_189 rfl ?_
        refine kn_ge S (tgt := 233) dL_act_191 (by decide) (by omega) (by omega) (fun c_191 => ?_) (fun c_191 => ?_)
        · refine lv_iload_n S.1 S.2.1 dL_act_233 rfl (lv_at hl 2 rfl) ?_
          refine lv_bipush (v := nI (22)) S.1 S.2.1 dL_act_234 rfl ?_
          refine kn_ge S (tgt := 284) dL_act_236 (by decide) (by omega) (by omega) (fun c_236 => ?_) (fun c_236 => ?_)
          · refine lv_iload_n S.1 S.2.1 dL_act_284 rfl (lv_at hl 2 rfl) ?_
            refine lv_bipush (v := nI (22)) S.1 S.2.1 dL_act_285 rfl ?_
            refine kn_ne S (tgt := 319) dL_act_287 (by decide) (by omega) (by omega) (fun c_287 => ?_) (fun c_287 => ?_)
            · refine lv_iload_n S.1 S.2.1 dL_act_319 rfl (lv_at hl 2 rfl) ?_
              refine lv_bipush (v := nI (25)) S.1 S.2.1 dL_act_320 rfl ?_
              refine kn_ge S (tgt := 371) dL_act_322 (by decide) (by omega) (by omega) (fun c_322 => ?_) (fun c_322 => ?_)
              · exact absurd c_322 (by omega)
              · refine lv_aload_n S.1 S.2.1 dL_act_325 rfl (lv_at hl 3 rfl) ?_
                refine lv_bipush (v := nI (7)) S.1 S.2.1 dL_act_326 rfl ?_
                refine lv_iload S.1 S.2.1 dL_act_328 (lv_at hl 1 rfl) ?_
                refine lv_iload S.1 S.2.1 dL_act_330 (lv_at hl 0 rfl) ?_
                refine kz_eq S (tgt := 339) dL_act_332 (by decide) (by omega) (fun c_332 => ?_) (fun c_332 => ?_)
                · exact absurd c_332 (by decide)
                · refine lv_iconst (v := nI (5)) S.1 S.2.1 dL_act_335 rfl ?_
                  refine lv_goto (tgt := 341) S.1 S.2.1 dL_act_336 (by decide) ?_
                  refine k_SI (rest := [.int (nI (7)), .ref (a0)]) S hK hl.1 hW (KFr.nil hW hA) (mL_low l D c  _ ((v) >>> ((nI (5)) &&& 31)) 5 (by first | omega | exact hn0 | assumption | (show 0 < 5; omega) | rfl) (by first | omega | exact hn | assumption | (show 5 < 2147483648; omega) | rfl)) gL_act_L_low rfl pdL_low ⟨⟨rfl, rfl⟩, Nat.le_of_ble_eq_true rfl, Nat.le_of_ble_eq_true rfl⟩ rfl (Nat.le_of_ble_eq_true rfl) dL_act_341 ⟨Nat.le_of_ble_eq_true rfl, Nat.le_of_ble_eq_true rfl⟩ (fun H locs hW => ?_)
                  refine lv_iload S.1 S.2.1 dL_act_344 (lv_at hl 1 rfl) ?_
                  refine lv_iconst (v := nI (3)) S.1 S.2.1 dL_act_346 rfl ?_
                  refine lv_ishr S.1 S.2.1 dL_act_347 ?_
                  refine lv_iload S.1 S.2.1 dL_act_348 (lv_at hl 0 rfl) ?_
                  refine kz_eq S (tgt := 358) dL_act_350 (by decide) (by omega) (fun c_350 => ?_) (fun c_350 => ?_)
                  · exact absurd c_350 (by decide)
                  · refine lv_bipush (v := nI (13)) S.1 S.2.1 dL_act_353 rfl ?_
                    refine lv_goto (tgt := 360) S.1 S.2.1 dL_act_355 (by decide) ?_
                    refine k_SI (rest := [.int (nI (lw ((v) >>> ((nI (5)) &&& 31)) 5)), .int (nI (7)), .ref (a0)]) S hK hl.1 hW (KFr.nil hW hA) (mL_low l D c  _ (((v) >>> ((nI (5)) &&& 31)) >>> ((nI (3)) &&& 31)) 13 (by first | omega | exact hn0 | assumption | (show 0 < 13; omega) | rfl) (by first | omega | exact hn | assumption | (show 13 < 2147483648; omega) | rfl)) gL_act_L_low rfl pdL_low ⟨⟨rfl, rfl⟩, Nat.le_of_ble_eq_true rfl, Nat.le_of_ble_eq_true rfl⟩ rfl (Nat.le_of_ble_eq_true rfl) dL_act_360 ⟨Nat.le_of_ble_eq_true rfl, Nat.le_of_ble_eq_true rfl⟩ (fun H locs hW => ?_)
                    refine lv_iconst (v := nI (0)) S.1 S.2.1 dL_act_363 rfl ?_
                    refine lv_aload_n S.1 S.2.1 dL_act_364 rfl (lv_at hl 5 rfl) ?_
                    refine k_SW (rest := []) S hK hl.1 hW (KFr.all hW hA) hN hSt hV (hM _) gL_act_L_changes rfl pdL_changes ⟨⟨rfl, rfl⟩, Nat.le_of_ble_eq_true rfl, Nat.le_of_ble_eq_true rfl⟩ rfl (Nat.le_of_ble_eq_true rfl) dL_act_365 ⟨Nat.le_of_ble_eq_true rfl, Nat.le_of_ble_eq_true rfl⟩ (fun H locs hW => ?_)
                    refine lv_goto (tgt := 397) S.1 S.2.1 dL_act_368 (by decide) ?_
                    exact hret 397 _ _ _ _ _ _ _ dL_act_397 hW rfl rfl (by decide) (by decide)
            · exact absurd c_287 (by omega)
          · exact absurd c_236 (by omega)
        · exact absurd c_191 (by omega)
      · exact absurd c_114 (by omega)
    · exact absurd c_34 (by omega)
set_option maxRecDepth 100000 in
theorem paq_19 (l : Launch) (D : va_G) (c : Nat → ClassId) (sz : Nat) (wd w1 : va_W) (a0 o : Nat) (v : Int32) (r : Int32) (h21 : 0 < lw ((v) >>> ((nI (22)) &&& 31)) 7) (h34 : 16 ≤ lw v 32) (h114 : ¬ lw v 32 = 16) (h191 : 20 ≤ lw v 32) (h236 : 22 ≤ lw v 32) (h287 : ¬ lw v 32 = 22) (h322 : 25 ≤ lw v 32) (hM : ∀ sz, MW l yL_changes wsL_changes rmL_changes D c sz wd [.ref (a0), .int (nI (5)), .int (nI (lw ((v) >>> ((nI (5)) &&& 31)) 40)), .int (nI (0)), .int (nI (0)), .ref (o)] r w1) : MW l yL_act wsL_act rmL_act D c sz wd [.ref a0, .int v, .ref o] r w1 := by
  refine MW.of (cc := cL_act) (maxL := 6) (by decide) rfl (Nat.le_of_ble_eq_true rfl) ?_
  intro P e s m below meth cd A Q ls hsz S hK hN hSt hV hW hA hl hret
  have hl : lv_has ls 6 [(0, .ref a0), (1, .int v), (2, .ref o)] := hl
  have hw32 := lw_lt v (n := 32) (by decide)
  have hw7 := lw_lt ((v) >>> ((nI (22)) &&& 31)) (n := 7) (by decide)
  refine lv_iload_n S.1 S.2.1 dL_act_0 rfl (lv_at hl 1 rfl) ?_
  refine lv_bipush (v := nI (32)) S.1 S.2.1 dL_act_1 rfl ?_
  refine k_SI (rest := []) S hK hl.1 hW (KFr.nil hW hA) (mL_low l D c  _ v 32 (by first | omega | exact hn0 | assumption | (show 0 < 32; omega) | rfl) (by first | omega | exact hn | assumption | (show 32 < 2147483648; omega) | rfl)) gL_act_L_low rfl pdL_low ⟨⟨rfl, rfl⟩, Nat.le_of_ble_eq_true rfl, Nat.le_of_ble_eq_true rfl⟩ rfl (Nat.le_of_ble_eq_true rfl) dL_act_3 ⟨Nat.le_of_ble_eq_true rfl, Nat.le_of_ble_eq_true rfl⟩ (fun H locs hW => ?_)
  refine lv_istore_n (lv' := [(3, .int (nI (lw v 32))), (0, .ref (a0)), (1, .int (v)), (2, .ref (o))]) S.1 S.2.1 dL_act_6 rfl hl (by decide) rfl (fun ls hl => ?_)
  refine lv_iload_n S.1 S.2.1 dL_act_7 rfl (lv_at hl 2 rfl) ?_
  refine lv_iconst (v := nI (5)) S.1 S.2.1 dL_act_8 rfl ?_
  refine lv_ishr S.1 S.2.1 dL_act_9 ?_
  refine lv_istore (lv' := [(4, .int ((v) >>> ((nI (5)) &&& 31))), (3, .int (nI (lw v 32))), (0, .ref (a0)), (1, .int (v)), (2, .ref (o))]) S.1 S.2.1 dL_act_10 hl (by decide) rfl (fun ls hl => ?_)
  refine lv_iload_n S.1 S.2.1 dL_act_12 rfl (lv_at hl 3 rfl) ?_
  refine lv_bipush (v := nI (22)) S.1 S.2.1 dL_act_13 rfl ?_
  refine lv_ishr S.1 S.2.1 dL_act_15 ?_
  refine lv_bipush (v := nI (7)) S.1 S.2.1 dL_act_16 rfl ?_
  refine k_SI (rest := []) S hK hl.1 hW (KFr.nil hW hA) (mL_low l D c  _ ((v) >>> ((nI (22)) &&& 31)) 7 (by first | omega | exact hn0 | assumption | (show 0 < 7; omega) | rfl) (by first | omega | exact hn | assumption | (show 7 < 2147483648; omega) | rfl)) gL_act_L_low rfl pdL_low ⟨⟨rfl, rfl⟩, Nat.le_of_ble_eq_true rfl, Nat.le_of_ble_eq_true rfl⟩ rfl (Nat.le_of_ble_eq_true rfl) dL_act_18 ⟨Nat.le_of_ble_eq_true rfl, Nat.le_of_ble_eq_true rfl⟩ (fun H locs hW => ?_)
  refine kz_le S (tgt := 28) dL_act_21 (by decide) (by omega) (fun c_21 => ?_) (fun c_21 => ?_)
  · exact absurd c_21 (by omega)
  · refine lv_iconst (v := nI (1)) S.1 S.2.1 dL_act_24 rfl ?_
    refine lv_goto (tgt := 29) S.1 S.2.1 dL_act_25 (by decide) ?_
    refine lv_istore (lv' := [(5, .int (nI (1))), (4, .int ((v) >>> ((nI (5)) &&& 31))), (3, .int (nI (lw v 32))), (0, .ref (a0)), (1, .int (v)), (2, .ref (o))]) S.1 S.2.1 dL_act_29 hl (by decide) rfl (fun ls hl => ?_)
    refine lv_iload_n S.1 S.2.1 dL_act_31 rfl (lv_at hl 2 rfl) ?_
    refine lv_bipush (v := nI (16)) S.1 S.2.1 dL_act_32 rfl ?_
    refine kn_ge S (tgt := 111) dL_act_34 (by decide) (by omega) (by omega) (fun c_34 => ?_) (fun c_34 => ?_)
    · refine lv_iload_n S.1 S.2.1 dL_act_111 rfl (lv_at hl 2 rfl) ?_
      refine lv_bipush (v := nI (16)) S.1 S.2.1 dL_act_112 rfl ?_
      refine kn_ne S (tgt := 188) dL_act_114 (by decide) (by omega) (by omega) (fun c_114 => ?_) (fun c_114 => ?_)
      · refine lv_iload_n S.1 S.2.1 dL_act_188 rfl (lv_at hl 2 rfl) ?_
        refine lv_bipush (v := nI (20)) S.1 S.2.1 dL_act_189 rfl ?_
        refine kn_ge S (tgt := 233) dL_act_191 (by decide) (by omega) (by omega) (fun c_191 => ?_) (fun c_191 => ?_)
        · refine lv_iload_n S.1 S.2.1 dL_act_233 rfl (lv_at hl 2 rfl) ?_
          refine lv_bipush (v := nI (22)) S.1 S.2.1 dL_act_234 rfl ?_
          refine kn_ge S (tgt := 284) dL_act_236 (by decide) (by omega) (by omega) (fun c_236 => ?_) (fun c_236 => ?_)
          · refine lv_iload_n S.1 S.2.1 dL_act_284 rfl (lv_at hl 2 rfl) ?_
            refine lv_bipush (v := nI (22)) S.1 S.2.1 dL_act_285 rfl ?_
            refine kn_ne S (tgt := 319) dL_act_287 (by decide) (by omega) (by omega) (fun c_287 => ?_) (fun c_287 => ?_)
            · refine lv_iload_n S.1 S.2.1 dL_act_319 rfl (lv_at hl 2 rfl) ?_
              refine lv_bipush (v := nI (25)) S.1 S.2.1 dL_act_320 rfl ?_
              refine kn_ge S (tgt := 371) dL_act_322 (by decide) (by omega) (by omega) (fun c_322 => ?_) (fun c_322 => ?_)
              · refine lv_aload_n S.1 S.2.1 dL_act_371 rfl (lv_at hl 3 rfl) ?_
                refine lv_iconst (v := nI (5)) S.1 S.2.1 dL_act_372 rfl ?_
                refine lv_iload S.1 S.2.1 dL_act_373 (lv_at hl 1 rfl) ?_
                refine lv_iload S.1 S.2.1 dL_act_375 (lv_at hl 0 rfl) ?_
                refine kz_eq S (tgt := 385) dL_act_377 (by decide) (by omega) (fun c_377 => ?_) (fun c_377 => ?_)
                · exact absurd c_377 (by decide)
                · refine lv_bipush (v := nI (40)) S.1 S.2.1 dL_act_380 rfl ?_
                  refine lv_goto (tgt := 388) S.1 S.2.1 dL_act_382 (by decide) ?_
                  refine k_SI (rest := [.int (nI (5)), .ref (a0)]) S hK hl.1 hW (KFr.nil hW hA) (mL_low l D c  _ ((v) >>> ((nI (5)) &&& 31)) 40 (by first | omega | exact hn0 | assumption | (show 0 < 40; omega) | rfl) (by first | omega | exact hn | assumption | (show 40 < 2147483648; omega) | rfl)) gL_act_L_low rfl pdL_low ⟨⟨rfl, rfl⟩, Nat.le_of_ble_eq_true rfl, Nat.le_of_ble_eq_true rfl⟩ rfl (Nat.le_of_ble_eq_true rfl) dL_act_388 ⟨Nat.le_of_ble_eq_true rfl, Nat.le_of_ble_eq_true rfl⟩ (fun H locs hW => ?_)
                  refine lv_iconst (v := nI (0)) S.1 S.2.1 dL_act_391 rfl ?_
                  refine lv_iconst (v := nI (0)) S.1 S.2.1 dL_act_392 rfl ?_
                  refine lv_aload_n S.1 S.2.1 dL_act_393 rfl (lv_at hl 5 rfl) ?_
                  refine k_SW (rest := []) S hK hl.1 hW (KFr.all hW hA) hN hSt hV (hM _) gL_act_L_changes rfl pdL_changes ⟨⟨rfl, rfl⟩, Nat.le_of_ble_eq_true rfl, Nat.le_of_ble_eq_true rfl⟩ rfl (Nat.le_of_ble_eq_true rfl) dL_act_394 ⟨Nat.le_of_ble_eq_true rfl, Nat.le_of_ble_eq_true rfl⟩ (fun H locs hW => ?_)
                  exact hret 397 _ _ _ _ _ _ _ dL_act_397 hW rfl rfl (by decide) (by decide)
              · exact absurd c_322 (by omega)
            · exact absurd c_287 (by omega)
          · exact absurd c_236 (by omega)
        · exact absurd c_191 (by omega)
      · exact absurd c_114 (by omega)
    · exact absurd c_34 (by omega)
theorem act_r {τ : Nat → Nat → Nat} {T : Nat} (h : Iv τ T) (hT : T < 100000000) (v : Int32) : AcR yL_act wsL_act rmL_act [.int v] τ T := by
  rcases Nat.eq_zero_or_pos (lw ((v) >>> ((nI (22)) &&& 31)) 7) with h21 | h21
  · rcases Nat.lt_or_ge (lw v 32) (16) with h34 | h34
    · rcases Nat.lt_or_ge (lw v 32) (15) with h41 | h41
      · exact (ch_0 h _ _ _).map (fun l D c a0 o wd w1 r hM sz => paq_0 l D c sz wd w1 a0 o v r h21 h34 h41 hM)
      · exact (ch_1 h _ _ _).map (fun l D c a0 o wd w1 r hM sz => paq_1 l D c sz wd w1 a0 o v r h21 h34 h41 hM)
    · by_cases h114 : lw v 32 = 16
      · exact (co_r h _ _ _ _).map (fun l D c a0 o wd w1 r hM sz => paq_2 l D c sz wd w1 a0 o v r h21 h34 h114 hM)
      · rcases Nat.lt_or_ge (lw v 32) (20) with h191 | h191
        · exact (ch_2 h _ _ _).map (fun l D c a0 o wd w1 r hM sz => paq_3 l D c sz wd w1 a0 o v r h21 h34 h114 h191 hM)
        · rcases Nat.lt_or_ge (lw v 32) (22) with h236 | h236
          · by_cases h243 : lw v 32 = 20
            · exact (ch_3 h _ _ _).map (fun l D c a0 o wd w1 r hM sz => paq_4 l D c sz wd w1 a0 o v r h21 h34 h114 h191 h236 h243 hM)
            · exact (ch_4 h _ _ _).map (fun l D c a0 o wd w1 r hM sz => paq_5 l D c sz wd w1 a0 o v r h21 h34 h114 h191 h236 h243 hM)
          · by_cases h287 : lw v 32 = 22
            · exact (ch_6 h _ _ _).map (fun l D c a0 o wd w1 r hM sz => paq_6 l D c sz wd w1 a0 o v r h21 h34 h114 h191 h236 h287 hM)
            · rcases Nat.lt_or_ge (lw v 32) (25) with h322 | h322
              · exact (ch_7 h _ _ _).map (fun l D c a0 o wd w1 r hM sz => paq_7 l D c sz wd w1 a0 o v r h21 h34 h114 h191 h236 h287 h322 hM)
              · exact (ch_5 h hT _ _ _).map (fun l D c a0 o wd w1 r hM sz => paq_8 l D c sz wd w1 a0 o v r h21 h34 h114 h191 h236 h287 h322 hM)
  · rcases Nat.lt_or_ge (lw v 32) (16) with h34 | h34
    · rcases Nat.lt_or_ge (lw v 32) (15) with h41 | h41
      · by_cases h80 : (((v) >>> ((nI (5)) &&& 31)) >>> ((nI (11)) &&& 31)) &&& (nI (1)) = 0
        · exact (ch_0 h _ _ _).map (fun l D c a0 o wd w1 r hM sz => paq_9 l D c sz wd w1 a0 o v r h21 h34 h41 h80 hM)
        · exact (ch_0 h _ _ _).map (fun l D c a0 o wd w1 r hM sz => paq_10 l D c sz wd w1 a0 o v r h21 h34 h41 h80 hM)
      · by_cases h80 : (((v) >>> ((nI (5)) &&& 31)) >>> ((nI (11)) &&& 31)) &&& (nI (1)) = 0
        · exact (ch_1 h _ _ _).map (fun l D c a0 o wd w1 r hM sz => paq_11 l D c sz wd w1 a0 o v r h21 h34 h41 h80 hM)
        · exact (ch_1 h _ _ _).map (fun l D c a0 o wd w1 r hM sz => paq_12 l D c sz wd w1 a0 o v r h21 h34 h41 h80 hM)
    · by_cases h114 : lw v 32 = 16
      · exact (co_r h _ _ _ _).map (fun l D c a0 o wd w1 r hM sz => paq_13 l D c sz wd w1 a0 o v r h21 h34 h114 hM)
      · rcases Nat.lt_or_ge (lw v 32) (20) with h191 | h191
        · exact (ch_2 h _ _ _).map (fun l D c a0 o wd w1 r hM sz => paq_14 l D c sz wd w1 a0 o v r h21 h34 h114 h191 hM)
        · rcases Nat.lt_or_ge (lw v 32) (22) with h236 | h236
          · by_cases h243 : lw v 32 = 20
            · exact (ch_3 h _ _ _).map (fun l D c a0 o wd w1 r hM sz => paq_15 l D c sz wd w1 a0 o v r h21 h34 h114 h191 h236 h243 hM)
            · exact (ch_4 h _ _ _).map (fun l D c a0 o wd w1 r hM sz => paq_16 l D c sz wd w1 a0 o v r h21 h34 h114 h191 h236 h243 hM)
          · by_cases h287 : lw v 32 = 22
            · exact (ch_6 h _ _ _).map (fun l D c a0 o wd w1 r hM sz => paq_17 l D c sz wd w1 a0 o v r h21 h34 h114 h191 h236 h287 hM)
            · rcases Nat.lt_or_ge (lw v 32) (25) with h322 | h322
              · exact (ch_7 h _ _ _).map (fun l D c a0 o wd w1 r hM sz => paq_18 l D c sz wd w1 a0 o v r h21 h34 h114 h191 h236 h287 h322 hM)
              · exact (ch_5 h hT _ _ _).map (fun l D c a0 o wd w1 r hM sz => paq_19 l D c sz wd w1 a0 o v r h21 h34 h114 h191 h236 h287 h322 hM)
