abbrev rmX2_pin_x : Room := { frames := 6, cells := 1, slots := 6, locals := 82 }
set_option maxHeartbeats 400000 in
set_option maxRecDepth 100000 in
theorem mX2_pin_x1 (l : Launch) (hfl : l.stackTraces = false) (D : va_G) (c : Nat → ClassId) (a : Nat → Nat) (b : Nat → Nat → Nat) (θ : Nat → Nat → Nat → Nat) (ρ κ : Nat → Nat → Nat) (sz : Nat) (t : Int32) (j : Int32) (p : Int32) (hin : (blw t (nI 3) && blw j (nI 12) && blw p (nI 32)) = false) : MX l yX2_pin wsX2_pin rmX2_pin_x D c sz (wP c a b θ ρ κ) [.ref (a 0), .int (t), .int (j), .int (p)] xI (wP c a b θ ρ κ) := by
  refine MX.of hfl (cc := cX2_pin) (maxL := 4) (ty := .int) (ik := 55) (is := 57) (ic := 59) (by decide) rfl rfl (Nat.le_of_ble_eq_true rfl) (Or.inl ⟨rfl, rfl, rfl⟩) (List.mem_of_getElem? (i := 1) rfl) (List.mem_of_getElem? (i := 2) rfl) (fun w h => List.mem_cons_of_mem _ (List.mem_append_left _ (List.mem_append_right _ h))) (List.mem_of_getElem? (i := 0) rfl) ⟨by decide, by decide, by decide, by decide⟩ ?_
  intro P e s m below meth cd A Q ls hsz S hK hN hV hW hA hl hthr
  have hl : lv_has ls 4 [(0, .ref (a 0)), (1, .int (t)), (2, .int (j)), (3, .int (p))] := hl
  refine lv_iload_n S.1 S.2.1 dX2_pin_0 rfl (lv_at hl 1 rfl) ?_
  refine lv_iload_n S.1 S.2.1 dX2_pin_1 rfl (lv_at hl 2 rfl) ?_
  refine lv_iload_n S.1 S.2.1 dX2_pin_2 rfl (lv_at hl 3 rfl) ?_
  refine k_SI (rest := []) S hK hl.1 hW (KFr.nil hW hA) (mX2_isPlace l D c  _ t j p) gX2_pin_X2_isPlace rfl pdX2_isPlace ⟨⟨rfl, rfl⟩, Nat.le_of_ble_eq_true rfl, Nat.le_of_ble_eq_true rfl⟩ rfl (Nat.le_of_ble_eq_true rfl) dX2_pin_3 ⟨Nat.le_of_ble_eq_true rfl, Nat.le_of_ble_eq_true rfl⟩ (fun H locs hW => ?_)
  have hW : kw D A s.heap (wP c a b θ ρ κ) H locs := hW
  refine kb_ne S (tgt := 19) dX2_pin_6 (by decide) (fun c_6 => ?_) (fun c_6 => ?_)
  · exact absurd (hin.symm.trans c_6) (by decide)
  · exact hthr 9 _ _ _ _ dX2_pin_9 dX2_pin_12 dX2_pin_13 dX2_pin_15 dX2_pin_18 hl.1 hW (rfl)
abbrev rmX2_whyNot_x : Room := { frames := 6, cells := 1, slots := 6, locals := 82 }
set_option maxHeartbeats 400000 in
set_option maxRecDepth 100000 in
theorem mX2_whyNot_x1 (l : Launch) (hfl : l.stackTraces = false) (D : va_G) (c : Nat → ClassId) (a : Nat → Nat) (b : Nat → Nat → Nat) (θ : Nat → Nat → Nat → Nat) (ρ κ : Nat → Nat → Nat) (sz : Nat) (t : Int32) (j : Int32) (p : Int32) (hin : (blw t (nI 3) && blw j (nI 12) && blw p (nI 32)) = false) : MX l yX2_whyNot wsX2_whyNot rmX2_whyNot_x D c sz (wP c a b θ ρ κ) [.ref (a 0), .int (t), .int (j), .int (p)] xI (wP c a b θ ρ κ) := by
  refine MX.of hfl (cc := cX2_whyNot) (maxL := 4) (ty := .int) (ik := 55) (is := 57) (ic := 59) (by decide) rfl rfl (Nat.le_of_ble_eq_true rfl) (Or.inl ⟨rfl, rfl, rfl⟩) (List.mem_of_getElem? (i := 1) rfl) (List.mem_of_getElem? (i := 2) rfl) (fun w h => List.mem_cons_of_mem _ (List.mem_append_right _ h)) (List.mem_of_getElem? (i := 0) rfl) ⟨by decide, by decide, by decide, by decide⟩ ?_
  intro P e s m below meth cd A Q ls hsz S hK hN hV hW hA hl hthr
  have hl : lv_has ls 4 [(0, .ref (a 0)), (1, .int (t)), (2, .int (j)), (3, .int (p))] := hl
  refine lv_iload_n S.1 S.2.1 dX2_whyNot_0 rfl (lv_at hl 1 rfl) ?_
  refine lv_iload_n S.1 S.2.1 dX2_whyNot_1 rfl (lv_at hl 2 rfl) ?_
  refine lv_iload_n S.1 S.2.1 dX2_whyNot_2 rfl (lv_at hl 3 rfl) ?_
  refine k_SI (rest := []) S hK hl.1 hW (KFr.nil hW hA) (mX2_isPlace l D c  _ t j p) gX2_whyNot_X2_isPlace rfl pdX2_isPlace ⟨⟨rfl, rfl⟩, Nat.le_of_ble_eq_true rfl, Nat.le_of_ble_eq_true rfl⟩ rfl (Nat.le_of_ble_eq_true rfl) dX2_whyNot_3 ⟨Nat.le_of_ble_eq_true rfl, Nat.le_of_ble_eq_true rfl⟩ (fun H locs hW => ?_)
  have hW : kw D A s.heap (wP c a b θ ρ κ) H locs := hW
  refine kb_ne S (tgt := 19) dX2_whyNot_6 (by decide) (fun c_6 => ?_) (fun c_6 => ?_)
  · exact absurd (hin.symm.trans c_6) (by decide)
  · exact hthr 9 _ _ _ _ dX2_whyNot_9 dX2_whyNot_12 dX2_whyNot_13 dX2_whyNot_15 dX2_whyNot_18 hl.1 hW (rfl)
abbrev rmX2_next_x : Room := { frames := 6, cells := 1, slots := 6, locals := 82 }
set_option maxHeartbeats 400000 in
set_option maxRecDepth 100000 in
theorem mX2_next_x1 (l : Launch) (hfl : l.stackTraces = false) (D : va_G) (c : Nat → ClassId) (a : Nat → Nat) (b : Nat → Nat → Nat) (θ : Nat → Nat → Nat → Nat) (ρ κ : Nat → Nat → Nat) (sz : Nat) (t : Int32) (j : Int32) (p : Int32) (hin : (blw t (nI 3) && blw j (nI 12) && blw p (nI 32)) = false) : MX l yX2_next wsX2_next rmX2_next_x D c sz (wP c a b θ ρ κ) [.ref (a 0), .int (t), .int (j), .int (p)] xI (wP c a b θ ρ κ) := by
  refine MX.of hfl (cc := cX2_next) (maxL := 4) (ty := .int) (ik := 55) (is := 57) (ic := 59) (by decide) rfl rfl (Nat.le_of_ble_eq_true rfl) (Or.inl ⟨rfl, rfl, rfl⟩) (List.mem_of_getElem? (i := 1) rfl) (List.mem_of_getElem? (i := 2) rfl) (fun w h => List.mem_cons_of_mem _ (List.mem_append_right _ h)) (List.mem_of_getElem? (i := 0) rfl) ⟨by decide, by decide, by decide, by decide⟩ ?_
  intro P e s m below meth cd A Q ls hsz S hK hN hV hW hA hl hthr
  have hl : lv_has ls 4 [(0, .ref (a 0)), (1, .int (t)), (2, .int (j)), (3, .int (p))] := hl
  refine lv_iload_n S.1 S.2.1 dX2_next_0 rfl (lv_at hl 1 rfl) ?_
  refine lv_iload_n S.1 S.2.1 dX2_next_1 rfl (lv_at hl 2 rfl) ?_
  refine lv_iload_n S.1 S.2.1 dX2_next_2 rfl (lv_at hl 3 rfl) ?_
  refine k_SI (rest := []) S hK hl.1 hW (KFr.nil hW hA) (mX2_isPlace l D c  _ t j p) gX2_next_X2_isPlace rfl pdX2_isPlace ⟨⟨rfl, rfl⟩, Nat.le_of_ble_eq_true rfl, Nat.le_of_ble_eq_true rfl⟩ rfl (Nat.le_of_ble_eq_true rfl) dX2_next_3 ⟨Nat.le_of_ble_eq_true rfl, Nat.le_of_ble_eq_true rfl⟩ (fun H locs hW => ?_)
  have hW : kw D A s.heap (wP c a b θ ρ κ) H locs := hW
  refine kb_ne S (tgt := 19) dX2_next_6 (by decide) (fun c_6 => ?_) (fun c_6 => ?_)
  · exact absurd (hin.symm.trans c_6) (by decide)
  · exact hthr 9 _ _ _ _ dX2_next_9 dX2_next_12 dX2_next_13 dX2_next_15 dX2_next_18 hl.1 hW (rfl)
abbrev rmX2_wind_x : Room := { frames := 6, cells := 1, slots := 6, locals := 82 }
set_option maxHeartbeats 400000 in
set_option maxRecDepth 100000 in
theorem mX2_wind_x1 (l : Launch) (hfl : l.stackTraces = false) (D : va_G) (c : Nat → ClassId) (a : Nat → Nat) (b : Nat → Nat → Nat) (θ : Nat → Nat → Nat → Nat) (ρ κ : Nat → Nat → Nat) (sz : Nat) (n : Int32) (hin : (inb n (nI (1)) (nI (400))) = false) : MX l yX2_wind wsX2_wind rmX2_wind_x D c sz (wP c a b θ ρ κ) [.ref (a 0), .int (n)] xA (wP c a b θ ρ κ) := by
  refine MX.of hfl (cc := cX2_wind) (maxL := 2) (ty := .int) (ik := 86) (is := 106) (ic := 90) (by decide) rfl rfl (Nat.le_of_ble_eq_true rfl) (Or.inr (Or.inr ⟨rfl, rfl, rfl⟩)) (List.mem_of_getElem? (i := 1) rfl) (List.mem_of_getElem? (i := 2) rfl) (fun w h => List.mem_cons_of_mem _ (List.mem_append_right _ h)) (List.mem_of_getElem? (i := 5) rfl) ⟨by decide, by decide, by decide, by decide⟩ ?_
  intro P e s m below meth cd A Q ls hsz S hK hN hV hW hA hl hthr
  have hl : lv_has ls 2 [(0, .ref (a 0)), (1, .int (n))] := hl
  refine lv_iload_n S.1 S.2.1 dX2_wind_0 rfl (lv_at hl 1 rfl) ?_
  refine lv_iconst (v := nI (1)) S.1 S.2.1 dX2_wind_1 rfl ?_
  refine lv_sipush (v := nI (400)) S.1 S.2.1 dX2_wind_2 rfl ?_
  refine k_SI (rest := []) S hK hl.1 hW (KFr.nil hW hA) (mX2_isWithin l D c  _ n (nI (1)) (nI (400))) gX2_wind_X2_isWithin rfl pdX2_isWithin ⟨⟨rfl, rfl⟩, Nat.le_of_ble_eq_true rfl, Nat.le_of_ble_eq_true rfl⟩ rfl (Nat.le_of_ble_eq_true rfl) dX2_wind_5 ⟨Nat.le_of_ble_eq_true rfl, Nat.le_of_ble_eq_true rfl⟩ (fun H locs hW => ?_)
  have hW : kw D A s.heap (wP c a b θ ρ κ) H locs := hW
  refine kb_ne S (tgt := 21) dX2_wind_8 (by decide) (fun c_8 => ?_) (fun c_8 => ?_)
  · exact absurd (hin.symm.trans c_8) (by decide)
  · exact hthr 11 _ _ _ _ dX2_wind_11 dX2_wind_14 dX2_wind_15 dX2_wind_17 dX2_wind_20 hl.1 hW (rfl)
abbrev rmX2_vanes_x : Room := { frames := 6, cells := 1, slots := 6, locals := 82 }
set_option maxHeartbeats 400000 in
set_option maxRecDepth 100000 in
theorem mX2_vanes_x1 (l : Launch) (hfl : l.stackTraces = false) (D : va_G) (c : Nat → ClassId) (a : Nat → Nat) (b : Nat → Nat → Nat) (θ : Nat → Nat → Nat → Nat) (ρ κ : Nat → Nat → Nat) (sz : Nat) (n : Int32) (hin : (inb n (nI (1)) (nI (9))) = false) : MX l yX2_vanes wsX2_vanes rmX2_vanes_x D c sz (wP c a b θ ρ κ) [.ref (a 0), .int (n)] xA (wP c a b θ ρ κ) := by
  refine MX.of hfl (cc := cX2_vanes) (maxL := 3) (ty := .int) (ik := 86) (is := 117) (ic := 90) (by decide) rfl rfl (Nat.le_of_ble_eq_true rfl) (Or.inr (Or.inr ⟨rfl, rfl, rfl⟩)) (List.mem_of_getElem? (i := 1) rfl) (List.mem_of_getElem? (i := 2) rfl) (fun w h => List.mem_cons_of_mem _ (List.mem_append_right _ h)) (List.mem_of_getElem? (i := 6) rfl) ⟨by decide, by decide, by decide, by decide⟩ ?_
  intro P e s m below meth cd A Q ls hsz S hK hN hV hW hA hl hthr
  have hl : lv_has ls 3 [(0, .ref (a 0)), (1, .int (n))] := hl
  refine lv_iload_n S.1 S.2.1 dX2_vanes_0 rfl (lv_at hl 1 rfl) ?_
  refine lv_iconst (v := nI (1)) S.1 S.2.1 dX2_vanes_1 rfl ?_
  refine lv_bipush (v := nI (9)) S.1 S.2.1 dX2_vanes_2 rfl ?_
  refine k_SI (rest := []) S hK hl.1 hW (KFr.nil hW hA) (mX2_isWithin l D c  _ n (nI (1)) (nI (9))) gX2_vanes_X2_isWithin rfl pdX2_isWithin ⟨⟨rfl, rfl⟩, Nat.le_of_ble_eq_true rfl, Nat.le_of_ble_eq_true rfl⟩ rfl (Nat.le_of_ble_eq_true rfl) dX2_vanes_4 ⟨Nat.le_of_ble_eq_true rfl, Nat.le_of_ble_eq_true rfl⟩ (fun H locs hW => ?_)
  have hW : kw D A s.heap (wP c a b θ ρ κ) H locs := hW
  refine kb_ne S (tgt := 20) dX2_vanes_7 (by decide) (fun c_7 => ?_) (fun c_7 => ?_)
  · exact absurd (hin.symm.trans c_7) (by decide)
  · exact hthr 10 _ _ _ _ dX2_vanes_10 dX2_vanes_13 dX2_vanes_14 dX2_vanes_16 dX2_vanes_19 hl.1 hW (rfl)
abbrev rmX2_play_x : Room := { frames := 6, cells := 1, slots := 6, locals := 115 }
set_option maxHeartbeats 400000 in
set_option maxRecDepth 100000 in
theorem mX2_play_x1 (l : Launch) (hfl : l.stackTraces = false) (D : va_G) (c : Nat → ClassId) (a : Nat → Nat) (b : Nat → Nat → Nat) (θ : Nat → Nat → Nat → Nat) (ρ κ : Nat → Nat → Nat) (sz : Nat) (n : Int32) (hin : (inb n (nI (1)) (nI (128))) = false) : MX l yX2_play wsX2_play rmX2_play_x D c sz (wP c a b θ ρ κ) [.ref (a 0), .int (n)] xA (wP c a b θ ρ κ) := by
  refine MX.of hfl (cc := cX2_play) (maxL := 2) (ty := .int) (ik := 86) (is := 125) (ic := 90) (by decide) rfl rfl (Nat.le_of_ble_eq_true rfl) (Or.inr (Or.inr ⟨rfl, rfl, rfl⟩)) (List.mem_of_getElem? (i := 1) rfl) (List.mem_of_getElem? (i := 2) rfl) (fun w h => List.mem_cons_of_mem _ (List.mem_append_right _ h)) (List.mem_of_getElem? (i := 7) rfl) ⟨by decide, by decide, by decide, by decide⟩ ?_
  intro P e s m below meth cd A Q ls hsz S hK hN hV hW hA hl hthr
  have hl : lv_has ls 2 [(0, .ref (a 0)), (1, .int (n))] := hl
  refine lv_iload_n S.1 S.2.1 dX2_play_0 rfl (lv_at hl 1 rfl) ?_
  refine lv_iconst (v := nI (1)) S.1 S.2.1 dX2_play_1 rfl ?_
  refine lv_sipush (v := nI (128)) S.1 S.2.1 dX2_play_2 rfl ?_
  refine k_SI (rest := []) S hK hl.1 hW (KFr.nil hW hA) (mX2_isWithin l D c  _ n (nI (1)) (nI (128))) gX2_play_X2_isWithin rfl pdX2_isWithin ⟨⟨rfl, rfl⟩, Nat.le_of_ble_eq_true rfl, Nat.le_of_ble_eq_true rfl⟩ rfl (Nat.le_of_ble_eq_true rfl) dX2_play_5 ⟨Nat.le_of_ble_eq_true rfl, Nat.le_of_ble_eq_true rfl⟩ (fun H locs hW => ?_)
  have hW : kw D A s.heap (wP c a b θ ρ κ) H locs := hW
  refine kb_ne S (tgt := 21) dX2_play_8 (by decide) (fun c_8 => ?_) (fun c_8 => ?_)
  · exact absurd (hin.symm.trans c_8) (by decide)
  · exact hthr 11 _ _ _ _ dX2_play_11 dX2_play_14 dX2_play_15 dX2_play_17 dX2_play_20 hl.1 hW (rfl)
abbrev rmX2_windFor_x : Room := { frames := 6, cells := 1, slots := 6, locals := 82 }
set_option maxHeartbeats 400000 in
set_option maxRecDepth 100000 in
theorem mX2_windFor_x1 (l : Launch) (hfl : l.stackTraces = false) (D : va_G) (c : Nat → ClassId) (a : Nat → Nat) (b : Nat → Nat → Nat) (θ : Nat → Nat → Nat → Nat) (ρ κ : Nat → Nat → Nat) (sz : Nat) (n : Int32) (hin : (inb n (nI (1)) (nI (9))) = false) : MX l yX2_windFor wsX2_windFor rmX2_windFor_x D c sz (wP c a b θ ρ κ) [.ref (a 0), .int (n)] xA (wP c a b θ ρ κ) := by
  refine MX.of hfl (cc := cX2_windFor) (maxL := 2) (ty := .int) (ik := 86) (is := 106) (ic := 90) (by decide) rfl rfl (Nat.le_of_ble_eq_true rfl) (Or.inr (Or.inr ⟨rfl, rfl, rfl⟩)) (List.mem_of_getElem? (i := 1) rfl) (List.mem_of_getElem? (i := 2) rfl) (fun w h => List.mem_cons_of_mem _ (List.mem_append_right _ h)) (List.mem_of_getElem? (i := 5) rfl) ⟨by decide, by decide, by decide, by decide⟩ ?_
  intro P e s m below meth cd A Q ls hsz S hK hN hV hW hA hl hthr
  have hl : lv_has ls 2 [(0, .ref (a 0)), (1, .int (n))] := hl
  refine lv_iload_n S.1 S.2.1 dX2_windFor_0 rfl (lv_at hl 1 rfl) ?_
  refine lv_iconst (v := nI (1)) S.1 S.2.1 dX2_windFor_1 rfl ?_
  refine lv_bipush (v := nI (9)) S.1 S.2.1 dX2_windFor_2 rfl ?_
  refine k_SI (rest := []) S hK hl.1 hW (KFr.nil hW hA) (mX2_isWithin l D c  _ n (nI (1)) (nI (9))) gX2_windFor_X2_isWithin rfl pdX2_isWithin ⟨⟨rfl, rfl⟩, Nat.le_of_ble_eq_true rfl, Nat.le_of_ble_eq_true rfl⟩ rfl (Nat.le_of_ble_eq_true rfl) dX2_windFor_4 ⟨Nat.le_of_ble_eq_true rfl, Nat.le_of_ble_eq_true rfl⟩ (fun H locs hW => ?_)
  have hW : kw D A s.heap (wP c a b θ ρ κ) H locs := hW
  refine kb_ne S (tgt := 20) dX2_windFor_7 (by decide) (fun c_7 => ?_) (fun c_7 => ?_)
  · exact absurd (hin.symm.trans c_7) (by decide)
  · exact hthr 10 _ _ _ _ dX2_windFor_10 dX2_windFor_13 dX2_windFor_14 dX2_windFor_16 dX2_windFor_19 hl.1 hW (rfl)
abbrev rmX2_append_x : Room := { frames := 6, cells := 1, slots := 6, locals := 82 }
abbrev rmX2_shift_x : Room := { frames := 6, cells := 1, slots := 6, locals := 82 }
set_option maxHeartbeats 400000 in
set_option maxRecDepth 100000 in
theorem mX2_shift_x1 (l : Launch) (hfl : l.stackTraces = false) (D : va_G) (c : Nat → ClassId) (a : Nat → Nat) (b : Nat → Nat → Nat) (θ : Nat → Nat → Nat → Nat) (ρ κ : Nat → Nat → Nat) (sz : Nat) (t : Int32) (hin : (blw t (nI (3))) = false) : MX l yX2_shift wsX2_shift rmX2_shift_x D c sz (wP c a b θ ρ κ) [.ref (a 0), .int (t)] xI (wP c a b θ ρ κ) := by
  refine MX.of hfl (cc := cX2_shift) (maxL := 3) (ty := .int) (ik := 55) (is := 95) (ic := 59) (by decide) rfl rfl (Nat.le_of_ble_eq_true rfl) (Or.inl ⟨rfl, rfl, rfl⟩) (List.mem_of_getElem? (i := 1) rfl) (List.mem_of_getElem? (i := 2) rfl) (fun w h => List.mem_cons_of_mem _ (List.mem_append_right _ h)) (List.mem_of_getElem? (i := 3) rfl) ⟨by decide, by decide, by decide, by decide⟩ ?_
  intro P e s m below meth cd A Q ls hsz S hK hN hV hW hA hl hthr
  have hl : lv_has ls 3 [(0, .ref (a 0)), (1, .int (t))] := hl
  refine lv_iload_n S.1 S.2.1 dX2_shift_0 rfl (lv_at hl 1 rfl) ?_
  refine lv_iconst (v := nI (3)) S.1 S.2.1 dX2_shift_1 rfl ?_
  refine k_SI (rest := []) S hK hl.1 hW (KFr.nil hW hA) (mX2_isBelow l D c  _ t (nI (3))) gX2_shift_X2_isBelow rfl pdX2_isBelow ⟨⟨rfl, rfl⟩, Nat.le_of_ble_eq_true rfl, Nat.le_of_ble_eq_true rfl⟩ rfl (Nat.le_of_ble_eq_true rfl) dX2_shift_2 ⟨Nat.le_of_ble_eq_true rfl, Nat.le_of_ble_eq_true rfl⟩ (fun H locs hW => ?_)
  have hW : kw D A s.heap (wP c a b θ ρ κ) H locs := hW
  refine kb_ne S (tgt := 18) dX2_shift_5 (by decide) (fun c_5 => ?_) (fun c_5 => ?_)
  · exact absurd (hin.symm.trans c_5) (by decide)
  · exact hthr 8 _ _ _ _ dX2_shift_8 dX2_shift_11 dX2_shift_12 dX2_shift_14 dX2_shift_17 hl.1 hW (rfl)
abbrev rmX2_mend_x : Room := { frames := 6, cells := 1, slots := 6, locals := 82 }
set_option maxHeartbeats 400000 in
set_option maxRecDepth 100000 in
theorem mX2_mend_x1 (l : Launch) (hfl : l.stackTraces = false) (D : va_G) (c : Nat → ClassId) (a : Nat → Nat) (b : Nat → Nat → Nat) (θ : Nat → Nat → Nat → Nat) (ρ κ : Nat → Nat → Nat) (sz : Nat) (j : Int32) (hin : (blw j (nI (12))) = false) : MX l yX2_mend wsX2_mend rmX2_mend_x D c sz (wP c a b θ ρ κ) [.ref (a 0), .int (j)] xI (wP c a b θ ρ κ) := by
  refine MX.of hfl (cc := cX2_mend) (maxL := 2) (ty := .int) (ik := 55) (is := 130) (ic := 59) (by decide) rfl rfl (Nat.le_of_ble_eq_true rfl) (Or.inl ⟨rfl, rfl, rfl⟩) (List.mem_of_getElem? (i := 1) rfl) (List.mem_of_getElem? (i := 2) rfl) (fun w h => List.mem_cons_of_mem _ (List.mem_append_right _ h)) (List.mem_of_getElem? (i := 8) rfl) ⟨by decide, by decide, by decide, by decide⟩ ?_
  intro P e s m below meth cd A Q ls hsz S hK hN hV hW hA hl hthr
  have hl : lv_has ls 2 [(0, .ref (a 0)), (1, .int (j))] := hl
  refine lv_iload_n S.1 S.2.1 dX2_mend_0 rfl (lv_at hl 1 rfl) ?_
  refine lv_bipush (v := nI (12)) S.1 S.2.1 dX2_mend_1 rfl ?_
  refine k_SI (rest := []) S hK hl.1 hW (KFr.nil hW hA) (mX2_isBelow l D c  _ j (nI (12))) gX2_mend_X2_isBelow rfl pdX2_isBelow ⟨⟨rfl, rfl⟩, Nat.le_of_ble_eq_true rfl, Nat.le_of_ble_eq_true rfl⟩ rfl (Nat.le_of_ble_eq_true rfl) dX2_mend_3 ⟨Nat.le_of_ble_eq_true rfl, Nat.le_of_ble_eq_true rfl⟩ (fun H locs hW => ?_)
  have hW : kw D A s.heap (wP c a b θ ρ κ) H locs := hW
  refine kb_ne S (tgt := 19) dX2_mend_6 (by decide) (fun c_6 => ?_) (fun c_6 => ?_)
  · exact absurd (hin.symm.trans c_6) (by decide)
  · exact hthr 9 _ _ _ _ dX2_mend_9 dX2_mend_12 dX2_mend_13 dX2_mend_15 dX2_mend_18 hl.1 hW (rfl)
abbrev rmX2_count_x : Room := { frames := 6, cells := 1, slots := 6, locals := 109 }
set_option maxHeartbeats 400000 in
set_option maxRecDepth 100000 in
theorem mX2_count_x1 (l : Launch) (hfl : l.stackTraces = false) (D : va_G) (c : Nat → ClassId) (a : Nat → Nat) (b : Nat → Nat → Nat) (θ : Nat → Nat → Nat → Nat) (ρ κ : Nat → Nat → Nat) (sz : Nat) (w : Int32) (hin : (blw w (nI (18))) = false) : MX l yX2_count wsX2_count rmX2_count_x D c sz (wP c a b θ ρ κ) [.ref (a 0), .int (w)] xA (wP c a b θ ρ κ) := by
  refine MX.of hfl (cc := cX2_count) (maxL := 2) (ty := .int) (ik := 86) (is := 204) (ic := 90) (by decide) rfl rfl (Nat.le_of_ble_eq_true rfl) (Or.inr (Or.inr ⟨rfl, rfl, rfl⟩)) (List.mem_of_getElem? (i := 1) rfl) (List.mem_of_getElem? (i := 2) rfl) (fun w h => List.mem_cons_of_mem _ (List.mem_append_right _ h)) (List.mem_of_getElem? (i := 19) rfl) ⟨by decide, by decide, by decide, by decide⟩ ?_
  intro P e s m below meth cd A Q ls hsz S hK hN hV hW hA hl hthr
  have hl : lv_has ls 2 [(0, .ref (a 0)), (1, .int (w))] := hl
  refine lv_iload_n S.1 S.2.1 dX2_count_0 rfl (lv_at hl 1 rfl) ?_
  refine lv_bipush (v := nI (18)) S.1 S.2.1 dX2_count_1 rfl ?_
  refine k_SI (rest := []) S hK hl.1 hW (KFr.nil hW hA) (mX2_isBelow l D c  _ w (nI (18))) gX2_count_X2_isBelow rfl pdX2_isBelow ⟨⟨rfl, rfl⟩, Nat.le_of_ble_eq_true rfl, Nat.le_of_ble_eq_true rfl⟩ rfl (Nat.le_of_ble_eq_true rfl) dX2_count_3 ⟨Nat.le_of_ble_eq_true rfl, Nat.le_of_ble_eq_true rfl⟩ (fun H locs hW => ?_)
  have hW : kw D A s.heap (wP c a b θ ρ κ) H locs := hW
  refine kb_ne S (tgt := 19) dX2_count_6 (by decide) (fun c_6 => ?_) (fun c_6 => ?_)
  · exact absurd (hin.symm.trans c_6) (by decide)
  · exact hthr 9 _ _ _ _ dX2_count_9 dX2_count_12 dX2_count_13 dX2_count_15 dX2_count_18 hl.1 hW (rfl)
abbrev rmX2_tune_x : Room := { frames := 6, cells := 1, slots := 6, locals := 91 }
set_option maxHeartbeats 400000 in
set_option maxRecDepth 100000 in
theorem mX2_tune_x1 (l : Launch) (hfl : l.stackTraces = false) (D : va_G) (c : Nat → ClassId) (a : Nat → Nat) (b : Nat → Nat → Nat) (θ : Nat → Nat → Nat → Nat) (ρ κ : Nat → Nat → Nat) (sz : Nat) (t : Int32) (w : Int32) (hin : blw t (nI (3)) = false) : MX l yX2_tune wsX2_tune rmX2_tune_x D c sz (wP c a b θ ρ κ) [.ref (a 0), .int (t), .int (w)] xI (wP c a b θ ρ κ) := by
  refine MX.of hfl (cc := cX2_tune) (maxL := 3) (ty := .int) (ik := 55) (is := 95) (ic := 59) (by decide) rfl rfl (Nat.le_of_ble_eq_true rfl) (Or.inl ⟨rfl, rfl, rfl⟩) (List.mem_of_getElem? (i := 1) rfl) (List.mem_of_getElem? (i := 2) rfl) (fun w h => List.mem_cons_of_mem _ (List.mem_append_left _ (List.mem_append_right _ h))) (List.mem_of_getElem? (i := 3) rfl) ⟨by decide, by decide, by decide, by decide⟩ ?_
  intro P e s m below meth cd A Q ls hsz S hK hN hV hW hA hl hthr
  have hl : lv_has ls 3 [(0, .ref (a 0)), (1, .int (t)), (2, .int (w))] := hl
  refine lv_iload_n S.1 S.2.1 dX2_tune_0 rfl (lv_at hl 1 rfl) ?_
  refine lv_iconst (v := nI (3)) S.1 S.2.1 dX2_tune_1 rfl ?_
  refine k_SI (rest := []) S hK hl.1 hW (KFr.nil hW hA) (mX2_isBelow l D c  _ t (nI (3))) gX2_tune_X2_isBelow rfl pdX2_isBelow ⟨⟨rfl, rfl⟩, Nat.le_of_ble_eq_true rfl, Nat.le_of_ble_eq_true rfl⟩ rfl (Nat.le_of_ble_eq_true rfl) dX2_tune_2 ⟨Nat.le_of_ble_eq_true rfl, Nat.le_of_ble_eq_true rfl⟩ (fun H locs hW => ?_)
  have hW : kw D A s.heap (wP c a b θ ρ κ) H locs := hW
  refine kb_ne S (tgt := 18) dX2_tune_5 (by decide) (fun c_5 => ?_) (fun c_5 => ?_)
  · exact absurd (hin.symm.trans c_5) (by decide)
  · exact hthr 8 _ _ _ _ dX2_tune_8 dX2_tune_11 dX2_tune_12 dX2_tune_14 dX2_tune_17 hl.1 hW (rfl)
set_option maxHeartbeats 400000 in
set_option maxRecDepth 100000 in
theorem mX2_tune_x2 (l : Launch) (hfl : l.stackTraces = false) (D : va_G) (c : Nat → ClassId) (a : Nat → Nat) (b : Nat → Nat → Nat) (θ : Nat → Nat → Nat → Nat) (ρ κ : Nat → Nat → Nat) (sz : Nat) (t : Nat) (w : Int32) (h0 : t < 3) (hin : blw w (nI (5)) = false) : MX l yX2_tune wsX2_tune rmX2_tune_x D c sz (wP c a b θ ρ κ) [.ref (a 0), .int (nI (t)), .int (w)] xA (wP c a b θ ρ κ) := by
  refine MX.of hfl (cc := cX2_tune) (maxL := 3) (ty := .int) (ik := 86) (is := 180) (ic := 90) (by decide) rfl rfl (Nat.le_of_ble_eq_true rfl) (Or.inr (Or.inr ⟨rfl, rfl, rfl⟩)) (List.mem_of_getElem? (i := 3) rfl) (List.mem_of_getElem? (i := 4) rfl) (fun w h => List.mem_cons_of_mem _ (List.mem_append_right _ h)) (List.mem_of_getElem? (i := 16) rfl) ⟨by decide, by decide, by decide, by decide⟩ ?_
  intro P e s m below meth cd A Q ls hsz S hK hN hV hW hA hl hthr
  have hl : lv_has ls 3 [(0, .ref (a 0)), (1, .int (nI (t))), (2, .int (w))] := hl
  have h1 : blw (nI (t)) (nI (3)) = true := blw_t h0 (by decide)
  refine lv_iload_n S.1 S.2.1 dX2_tune_0 rfl (lv_at hl 1 rfl) ?_
  refine lv_iconst (v := nI (3)) S.1 S.2.1 dX2_tune_1 rfl ?_
  refine k_SI (rest := []) S hK hl.1 hW (KFr.nil hW hA) (mX2_isBelow l D c  _ (nI (t)) (nI (3))) gX2_tune_X2_isBelow rfl pdX2_isBelow ⟨⟨rfl, rfl⟩, Nat.le_of_ble_eq_true rfl, Nat.le_of_ble_eq_true rfl⟩ rfl (Nat.le_of_ble_eq_true rfl) dX2_tune_2 ⟨Nat.le_of_ble_eq_true rfl, Nat.le_of_ble_eq_true rfl⟩ (fun H locs hW => ?_)
  have hW : kw D A s.heap (wP c a b θ ρ κ) H locs := hW
  refine kb_ne S (tgt := 18) dX2_tune_5 (by decide) (fun c_5 => ?_) (fun c_5 => ?_)
  · refine lv_iload_n S.1 S.2.1 dX2_tune_18 rfl (lv_at hl 2 rfl) ?_
    refine lv_iconst (v := nI (5)) S.1 S.2.1 dX2_tune_19 rfl ?_
    refine k_SI (rest := []) S hK hl.1 hW (KFr.nil hW hA) (mX2_isBelow l D c  _ w (nI (5))) gX2_tune_X2_isBelow rfl pdX2_isBelow ⟨⟨rfl, rfl⟩, Nat.le_of_ble_eq_true rfl, Nat.le_of_ble_eq_true rfl⟩ rfl (Nat.le_of_ble_eq_true rfl) dX2_tune_20 ⟨Nat.le_of_ble_eq_true rfl, Nat.le_of_ble_eq_true rfl⟩ (fun H locs hW => ?_)
    have hW : kw D A s.heap (wP c a b θ ρ κ) H locs := hW
    refine kb_ne S (tgt := 36) dX2_tune_23 (by decide) (fun c_23 => ?_) (fun c_23 => ?_)
    · exact absurd (hin.symm.trans c_23) (by decide)
    · exact hthr 26 _ _ _ _ dX2_tune_26 dX2_tune_29 dX2_tune_30 dX2_tune_32 dX2_tune_35 hl.1 hW (rfl)
  · exact absurd (h1.symm.trans c_5) (by decide)
abbrev rmX2_tooth_x : Room := { frames := 6, cells := 1, slots := 6, locals := 93 }
set_option maxHeartbeats 400000 in
set_option maxRecDepth 100000 in
theorem mX2_tooth_x1 (l : Launch) (hfl : l.stackTraces = false) (D : va_G) (c : Nat → ClassId) (a : Nat → Nat) (b : Nat → Nat → Nat) (θ : Nat → Nat → Nat → Nat) (ρ κ : Nat → Nat → Nat) (sz : Nat) (j : Int32) (w : Int32) (hin : blw j (nI (12)) = false) : MX l yX2_tooth wsX2_tooth rmX2_tooth_x D c sz (wP c a b θ ρ κ) [.ref (a 0), .int (j), .int (w)] xI (wP c a b θ ρ κ) := by
  refine MX.of hfl (cc := cX2_tooth) (maxL := 3) (ty := .int) (ik := 55) (is := 130) (ic := 59) (by decide) rfl rfl (Nat.le_of_ble_eq_true rfl) (Or.inl ⟨rfl, rfl, rfl⟩) (List.mem_of_getElem? (i := 1) rfl) (List.mem_of_getElem? (i := 2) rfl) (fun w h => List.mem_cons_of_mem _ (List.mem_append_left _ (List.mem_append_right _ h))) (List.mem_of_getElem? (i := 8) rfl) ⟨by decide, by decide, by decide, by decide⟩ ?_
  intro P e s m below meth cd A Q ls hsz S hK hN hV hW hA hl hthr
  have hl : lv_has ls 3 [(0, .ref (a 0)), (1, .int (j)), (2, .int (w))] := hl
  refine lv_iload_n S.1 S.2.1 dX2_tooth_0 rfl (lv_at hl 1 rfl) ?_
  refine lv_bipush (v := nI (12)) S.1 S.2.1 dX2_tooth_1 rfl ?_
  refine k_SI (rest := []) S hK hl.1 hW (KFr.nil hW hA) (mX2_isBelow l D c  _ j (nI (12))) gX2_tooth_X2_isBelow rfl pdX2_isBelow ⟨⟨rfl, rfl⟩, Nat.le_of_ble_eq_true rfl, Nat.le_of_ble_eq_true rfl⟩ rfl (Nat.le_of_ble_eq_true rfl) dX2_tooth_3 ⟨Nat.le_of_ble_eq_true rfl, Nat.le_of_ble_eq_true rfl⟩ (fun H locs hW => ?_)
  have hW : kw D A s.heap (wP c a b θ ρ κ) H locs := hW
  refine kb_ne S (tgt := 19) dX2_tooth_6 (by decide) (fun c_6 => ?_) (fun c_6 => ?_)
  · exact absurd (hin.symm.trans c_6) (by decide)
  · exact hthr 9 _ _ _ _ dX2_tooth_9 dX2_tooth_12 dX2_tooth_13 dX2_tooth_15 dX2_tooth_18 hl.1 hW (rfl)
set_option maxHeartbeats 400000 in
set_option maxRecDepth 100000 in
theorem mX2_tooth_x2 (l : Launch) (hfl : l.stackTraces = false) (D : va_G) (c : Nat → ClassId) (a : Nat → Nat) (b : Nat → Nat → Nat) (θ : Nat → Nat → Nat → Nat) (ρ κ : Nat → Nat → Nat) (sz : Nat) (j : Nat) (w : Int32) (h0 : j < 12) (hin : blw w (nI (5)) = false) : MX l yX2_tooth wsX2_tooth rmX2_tooth_x D c sz (wP c a b θ ρ κ) [.ref (a 0), .int (nI (j)), .int (w)] xA (wP c a b θ ρ κ) := by
  refine MX.of hfl (cc := cX2_tooth) (maxL := 3) (ty := .int) (ik := 86) (is := 180) (ic := 90) (by decide) rfl rfl (Nat.le_of_ble_eq_true rfl) (Or.inr (Or.inr ⟨rfl, rfl, rfl⟩)) (List.mem_of_getElem? (i := 3) rfl) (List.mem_of_getElem? (i := 4) rfl) (fun w h => List.mem_cons_of_mem _ (List.mem_append_right _ h)) (List.mem_of_getElem? (i := 16) rfl) ⟨by decide, by decide, by decide, by decide⟩ ?_
  intro P e s m below meth cd A Q ls hsz S hK hN hV hW hA hl hthr
  have hl : lv_has ls 3 [(0, .ref (a 0)), (1, .int (nI (j))), (2, .int (w))] := hl
  have h1 : blw (nI (j)) (nI (12)) = true := blw_t h0 (by decide)
  refine lv_iload_n S.1 S.2.1 dX2_tooth_0 rfl (lv_at hl 1 rfl) ?_
  refine lv_bipush (v := nI (12)) S.1 S.2.1 dX2_tooth_1 rfl ?_
  refine k_SI (rest := []) S hK hl.1 hW (KFr.nil hW hA) (mX2_isBelow l D c  _ (nI (j)) (nI (12))) gX2_tooth_X2_isBelow rfl pdX2_isBelow ⟨⟨rfl, rfl⟩, Nat.le_of_ble_eq_true rfl, Nat.le_of_ble_eq_true rfl⟩ rfl (Nat.le_of_ble_eq_true rfl) dX2_tooth_3 ⟨Nat.le_of_ble_eq_true rfl, Nat.le_of_ble_eq_true rfl⟩ (fun H locs hW => ?_)
  have hW : kw D A s.heap (wP c a b θ ρ κ) H locs := hW
  refine kb_ne S (tgt := 19) dX2_tooth_6 (by decide) (fun c_6 => ?_) (fun c_6 => ?_)
  · refine lv_iload_n S.1 S.2.1 dX2_tooth_19 rfl (lv_at hl 2 rfl) ?_
    refine lv_iconst (v := nI (5)) S.1 S.2.1 dX2_tooth_20 rfl ?_
    refine k_SI (rest := []) S hK hl.1 hW (KFr.nil hW hA) (mX2_isBelow l D c  _ w (nI (5))) gX2_tooth_X2_isBelow rfl pdX2_isBelow ⟨⟨rfl, rfl⟩, Nat.le_of_ble_eq_true rfl, Nat.le_of_ble_eq_true rfl⟩ rfl (Nat.le_of_ble_eq_true rfl) dX2_tooth_21 ⟨Nat.le_of_ble_eq_true rfl, Nat.le_of_ble_eq_true rfl⟩ (fun H locs hW => ?_)
    have hW : kw D A s.heap (wP c a b θ ρ κ) H locs := hW
    refine kb_ne S (tgt := 37) dX2_tooth_24 (by decide) (fun c_24 => ?_) (fun c_24 => ?_)
    · exact absurd (hin.symm.trans c_24) (by decide)
    · exact hthr 27 _ _ _ _ dX2_tooth_27 dX2_tooth_30 dX2_tooth_31 dX2_tooth_33 dX2_tooth_36 hl.1 hW (rfl)
  · exact absurd (h1.symm.trans c_6) (by decide)
abbrev rmX2_chord_x : Room := { frames := 6, cells := 1, slots := 6, locals := 82 }
set_option maxHeartbeats 400000 in
set_option maxRecDepth 100000 in
theorem mX2_chord_x1 (l : Launch) (hfl : l.stackTraces = false) (D : va_G) (c : Nat → ClassId) (a : Nat → Nat) (b : Nat → Nat → Nat) (θ : Nat → Nat → Nat → Nat) (ρ κ : Nat → Nat → Nat) (sz : Nat) (t : Int32) (p : Int32) (hin : (blw t (nI (3)) && blw p (nI (32))) = false) : MX l yX2_chord wsX2_chord rmX2_chord_x D c sz (wP c a b θ ρ κ) [.ref (a 0), .int (t), .int (p)] xI (wP c a b θ ρ κ) := by
  refine MX.of hfl (cc := cX2_chord) (maxL := 3) (ty := .int) (ik := 55) (is := 185) (ic := 59) (by decide) rfl rfl (Nat.le_of_ble_eq_true rfl) (Or.inl ⟨rfl, rfl, rfl⟩) (List.mem_of_getElem? (i := 1) rfl) (List.mem_of_getElem? (i := 2) rfl) (fun w h => List.mem_cons_of_mem _ (List.mem_append_right _ h)) (List.mem_of_getElem? (i := 17) rfl) ⟨by decide, by decide, by decide, by decide⟩ ?_
  intro P e s m below meth cd A Q ls hsz S hK hN hV hW hA hl hthr
  have hl : lv_has ls 3 [(0, .ref (a 0)), (1, .int (t)), (2, .int (p))] := hl
  refine lv_iload_n S.1 S.2.1 dX2_chord_0 rfl (lv_at hl 1 rfl) ?_
  refine lv_iconst (v := nI (3)) S.1 S.2.1 dX2_chord_1 rfl ?_
  refine k_SI (rest := []) S hK hl.1 hW (KFr.nil hW hA) (mX2_isBelow l D c  _ t (nI (3))) gX2_chord_X2_isBelow rfl pdX2_isBelow ⟨⟨rfl, rfl⟩, Nat.le_of_ble_eq_true rfl, Nat.le_of_ble_eq_true rfl⟩ rfl (Nat.le_of_ble_eq_true rfl) dX2_chord_2 ⟨Nat.le_of_ble_eq_true rfl, Nat.le_of_ble_eq_true rfl⟩ (fun H locs hW => ?_)
  have hW : kw D A s.heap (wP c a b θ ρ κ) H locs := hW
  refine kb_eq S (tgt := 17) dX2_chord_5 (by decide) (fun c_5 => ?_) (fun c_5 => ?_)
  · exact hthr 17 _ _ _ _ dX2_chord_17 dX2_chord_20 dX2_chord_21 dX2_chord_23 dX2_chord_26 hl.1 hW (rfl)
  · refine lv_iload_n S.1 S.2.1 dX2_chord_8 rfl (lv_at hl 2 rfl) ?_
    refine lv_bipush (v := nI (32)) S.1 S.2.1 dX2_chord_9 rfl ?_
    refine k_SI (rest := []) S hK hl.1 hW (KFr.nil hW hA) (mX2_isBelow l D c  _ p (nI (32))) gX2_chord_X2_isBelow rfl pdX2_isBelow ⟨⟨rfl, rfl⟩, Nat.le_of_ble_eq_true rfl, Nat.le_of_ble_eq_true rfl⟩ rfl (Nat.le_of_ble_eq_true rfl) dX2_chord_11 ⟨Nat.le_of_ble_eq_true rfl, Nat.le_of_ble_eq_true rfl⟩ (fun H locs hW => ?_)
    have hW : kw D A s.heap (wP c a b θ ρ κ) H locs := hW
    refine kb_ne S (tgt := 27) dX2_chord_14 (by decide) (fun c_14 => ?_) (fun c_14 => ?_)
    · exact absurd hin (by rw [c_5, c_14]; decide)
    · exact hthr 17 _ _ _ _ dX2_chord_17 dX2_chord_20 dX2_chord_21 dX2_chord_23 dX2_chord_26 hl.1 hW (rfl)
abbrev rmX2_note_x : Room := { frames := 6, cells := 1, slots := 6, locals := 82 }
set_option maxHeartbeats 400000 in
set_option maxRecDepth 100000 in
theorem mX2_note_x1 (l : Launch) (hfl : l.stackTraces = false) (D : va_G) (c : Nat → ClassId) (a : Nat → Nat) (b : Nat → Nat → Nat) (θ : Nat → Nat → Nat → Nat) (ρ κ : Nat → Nat → Nat) (sz : Nat) (b1 : Int32) (w : Int32) (hin : (blw b1 (nI (24)) && blw w (nI (2))) = false) : MX l yX2_note wsX2_note rmX2_note_x D c sz (wP c a b θ ρ κ) [.ref (a 0), .int (b1), .int (w)] xA (wP c a b θ ρ κ) := by
  refine MX.of hfl (cc := cX2_note) (maxL := 3) (ty := .int) (ik := 86) (is := 193) (ic := 90) (by decide) rfl rfl (Nat.le_of_ble_eq_true rfl) (Or.inr (Or.inr ⟨rfl, rfl, rfl⟩)) (List.mem_of_getElem? (i := 1) rfl) (List.mem_of_getElem? (i := 2) rfl) (fun w h => List.mem_cons_of_mem _ (List.mem_append_right _ h)) (List.mem_of_getElem? (i := 18) rfl) ⟨by decide, by decide, by decide, by decide⟩ ?_
  intro P e s m below meth cd A Q ls hsz S hK hN hV hW hA hl hthr
  have hl : lv_has ls 3 [(0, .ref (a 0)), (1, .int (b1)), (2, .int (w))] := hl
  refine lv_iload_n S.1 S.2.1 dX2_note_0 rfl (lv_at hl 1 rfl) ?_
  refine lv_bipush (v := nI (24)) S.1 S.2.1 dX2_note_1 rfl ?_
  refine k_SI (rest := []) S hK hl.1 hW (KFr.nil hW hA) (mX2_isBelow l D c  _ b1 (nI (24))) gX2_note_X2_isBelow rfl pdX2_isBelow ⟨⟨rfl, rfl⟩, Nat.le_of_ble_eq_true rfl, Nat.le_of_ble_eq_true rfl⟩ rfl (Nat.le_of_ble_eq_true rfl) dX2_note_3 ⟨Nat.le_of_ble_eq_true rfl, Nat.le_of_ble_eq_true rfl⟩ (fun H locs hW => ?_)
  have hW : kw D A s.heap (wP c a b θ ρ κ) H locs := hW
  refine kb_eq S (tgt := 17) dX2_note_6 (by decide) (fun c_6 => ?_) (fun c_6 => ?_)
  · exact hthr 17 _ _ _ _ dX2_note_17 dX2_note_20 dX2_note_21 dX2_note_23 dX2_note_26 hl.1 hW (rfl)
  · refine lv_iload_n S.1 S.2.1 dX2_note_9 rfl (lv_at hl 2 rfl) ?_
    refine lv_iconst (v := nI (2)) S.1 S.2.1 dX2_note_10 rfl ?_
    refine k_SI (rest := []) S hK hl.1 hW (KFr.nil hW hA) (mX2_isBelow l D c  _ w (nI (2))) gX2_note_X2_isBelow rfl pdX2_isBelow ⟨⟨rfl, rfl⟩, Nat.le_of_ble_eq_true rfl, Nat.le_of_ble_eq_true rfl⟩ rfl (Nat.le_of_ble_eq_true rfl) dX2_note_11 ⟨Nat.le_of_ble_eq_true rfl, Nat.le_of_ble_eq_true rfl⟩ (fun H locs hW => ?_)
    have hW : kw D A s.heap (wP c a b θ ρ κ) H locs := hW
    refine kb_ne S (tgt := 27) dX2_note_14 (by decide) (fun c_14 => ?_) (fun c_14 => ?_)
    · exact absurd hin (by rw [c_6, c_14]; decide)
    · exact hthr 17 _ _ _ _ dX2_note_17 dX2_note_20 dX2_note_21 dX2_note_23 dX2_note_26 hl.1 hW (rfl)
abbrev rmX2_ifPlayed_x : Room := { frames := 6, cells := 1, slots := 6, locals := 137 }
set_option maxHeartbeats 400000 in
set_option maxRecDepth 100000 in
theorem mX2_ifPlayed_x1 (l : Launch) (hfl : l.stackTraces = false) (D : va_G) (c : Nat → ClassId) (a : Nat → Nat) (b : Nat → Nat → Nat) (θ : Nat → Nat → Nat → Nat) (ρ κ : Nat → Nat → Nat) (sz : Nat) (n : Int32) (w : Int32) (hin : (inb n (nI (1)) (nI (128)) && blw w (nI (5))) = false) : MX l yX2_ifPlayed wsX2_ifPlayed rmX2_ifPlayed_x D c sz (wP c a b θ ρ κ) [.ref (a 0), .int (n), .int (w)] xA (wP c a b θ ρ κ) := by
  refine MX.of hfl (cc := cX2_ifPlayed) (maxL := 3) (ty := .int) (ik := 86) (is := 209) (ic := 90) (by decide) rfl rfl (Nat.le_of_ble_eq_true rfl) (Or.inr (Or.inr ⟨rfl, rfl, rfl⟩)) (List.mem_of_getElem? (i := 1) rfl) (List.mem_of_getElem? (i := 2) rfl) (fun w h => List.mem_cons_of_mem _ (List.mem_append_right _ h)) (List.mem_of_getElem? (i := 20) rfl) ⟨by decide, by decide, by decide, by decide⟩ ?_
  intro P e s m below meth cd A Q ls hsz S hK hN hV hW hA hl hthr
  have hl : lv_has ls 3 [(0, .ref (a 0)), (1, .int (n)), (2, .int (w))] := hl
  refine lv_iload_n S.1 S.2.1 dX2_ifPlayed_0 rfl (lv_at hl 1 rfl) ?_
  refine lv_iconst (v := nI (1)) S.1 S.2.1 dX2_ifPlayed_1 rfl ?_
  refine lv_sipush (v := nI (128)) S.1 S.2.1 dX2_ifPlayed_2 rfl ?_
  refine k_SI (rest := []) S hK hl.1 hW (KFr.nil hW hA) (mX2_isWithin l D c  _ n (nI (1)) (nI (128))) gX2_ifPlayed_X2_isWithin rfl pdX2_isWithin ⟨⟨rfl, rfl⟩, Nat.le_of_ble_eq_true rfl, Nat.le_of_ble_eq_true rfl⟩ rfl (Nat.le_of_ble_eq_true rfl) dX2_ifPlayed_5 ⟨Nat.le_of_ble_eq_true rfl, Nat.le_of_ble_eq_true rfl⟩ (fun H locs hW => ?_)
  have hW : kw D A s.heap (wP c a b θ ρ κ) H locs := hW
  refine kb_eq S (tgt := 19) dX2_ifPlayed_8 (by decide) (fun c_8 => ?_) (fun c_8 => ?_)
  · exact hthr 19 _ _ _ _ dX2_ifPlayed_19 dX2_ifPlayed_22 dX2_ifPlayed_23 dX2_ifPlayed_25 dX2_ifPlayed_28 hl.1 hW (rfl)
  · refine lv_iload_n S.1 S.2.1 dX2_ifPlayed_11 rfl (lv_at hl 2 rfl) ?_
    refine lv_iconst (v := nI (5)) S.1 S.2.1 dX2_ifPlayed_12 rfl ?_
    refine k_SI (rest := []) S hK hl.1 hW (KFr.nil hW hA) (mX2_isBelow l D c  _ w (nI (5))) gX2_ifPlayed_X2_isBelow rfl pdX2_isBelow ⟨⟨rfl, rfl⟩, Nat.le_of_ble_eq_true rfl, Nat.le_of_ble_eq_true rfl⟩ rfl (Nat.le_of_ble_eq_true rfl) dX2_ifPlayed_13 ⟨Nat.le_of_ble_eq_true rfl, Nat.le_of_ble_eq_true rfl⟩ (fun H locs hW => ?_)
    have hW : kw D A s.heap (wP c a b θ ρ κ) H locs := hW
    refine kb_ne S (tgt := 29) dX2_ifPlayed_16 (by decide) (fun c_16 => ?_) (fun c_16 => ?_)
    · exact absurd hin (by rw [c_8, c_16]; decide)
    · exact hthr 19 _ _ _ _ dX2_ifPlayed_19 dX2_ifPlayed_22 dX2_ifPlayed_23 dX2_ifPlayed_25 dX2_ifPlayed_28 hl.1 hW (rfl)
abbrev rmX2_pull_x : Room := { frames := 6, cells := 1, slots := 6, locals := 82 }
set_option maxHeartbeats 400000 in
set_option maxRecDepth 100000 in
theorem mX2_pull_x1 (l : Launch) (hfl : l.stackTraces = false) (D : va_G) (c : Nat → ClassId) (a : Nat → Nat) (b : Nat → Nat → Nat) (θ : Nat → Nat → Nat → Nat) (ρ κ : Nat → Nat → Nat) (sz : Nat) (t : Int32) (j : Int32) (p : Int32) (y : Int32) (hin : (blw t (nI 3) && blw j (nI 12) && blw p (nI 32) && blw y (nI (32))) = false) : MX l yX2_pull wsX2_pull rmX2_pull_x D c sz (wP c a b θ ρ κ) [.ref (a 0), .int (t), .int (j), .int (p), .int (y)] xI (wP c a b θ ρ κ) := by
  refine MX.of hfl (cc := cX2_pull) (maxL := 5) (ty := .int) (ik := 55) (is := 57) (ic := 59) (by decide) rfl rfl (Nat.le_of_ble_eq_true rfl) (Or.inl ⟨rfl, rfl, rfl⟩) (List.mem_of_getElem? (i := 1) rfl) (List.mem_of_getElem? (i := 2) rfl) (fun w h => List.mem_cons_of_mem _ (List.mem_append_left _ (List.mem_append_right _ h))) (List.mem_of_getElem? (i := 0) rfl) ⟨by decide, by decide, by decide, by decide⟩ ?_
  intro P e s m below meth cd A Q ls hsz S hK hN hV hW hA hl hthr
  have hl : lv_has ls 5 [(0, .ref (a 0)), (1, .int (t)), (2, .int (j)), (3, .int (p)), (4, .int (y))] := hl
  refine lv_iload_n S.1 S.2.1 dX2_pull_0 rfl (lv_at hl 1 rfl) ?_
  refine lv_iload_n S.1 S.2.1 dX2_pull_1 rfl (lv_at hl 2 rfl) ?_
  refine lv_iload_n S.1 S.2.1 dX2_pull_2 rfl (lv_at hl 3 rfl) ?_
  refine k_SI (rest := []) S hK hl.1 hW (KFr.nil hW hA) (mX2_isPlace l D c  _ t j p) gX2_pull_X2_isPlace rfl pdX2_isPlace ⟨⟨rfl, rfl⟩, Nat.le_of_ble_eq_true rfl, Nat.le_of_ble_eq_true rfl⟩ rfl (Nat.le_of_ble_eq_true rfl) dX2_pull_3 ⟨Nat.le_of_ble_eq_true rfl, Nat.le_of_ble_eq_true rfl⟩ (fun H locs hW => ?_)
  have hW : kw D A s.heap (wP c a b θ ρ κ) H locs := hW
  refine kb_eq S (tgt := 19) dX2_pull_6 (by decide) (fun c_6 => ?_) (fun c_6 => ?_)
  · exact hthr 19 _ _ _ _ dX2_pull_19 dX2_pull_22 dX2_pull_23 dX2_pull_25 dX2_pull_28 hl.1 hW (rfl)
  · refine lv_iload S.1 S.2.1 dX2_pull_9 (lv_at hl 4 rfl) ?_
    refine lv_bipush (v := nI (32)) S.1 S.2.1 dX2_pull_11 rfl ?_
    refine k_SI (rest := []) S hK hl.1 hW (KFr.nil hW hA) (mX2_isBelow l D c  _ y (nI (32))) gX2_pull_X2_isBelow rfl pdX2_isBelow ⟨⟨rfl, rfl⟩, Nat.le_of_ble_eq_true rfl, Nat.le_of_ble_eq_true rfl⟩ rfl (Nat.le_of_ble_eq_true rfl) dX2_pull_13 ⟨Nat.le_of_ble_eq_true rfl, Nat.le_of_ble_eq_true rfl⟩ (fun H locs hW => ?_)
    have hW : kw D A s.heap (wP c a b θ ρ κ) H locs := hW
    refine kb_ne S (tgt := 29) dX2_pull_16 (by decide) (fun c_16 => ?_) (fun c_16 => ?_)
    · exact absurd hin (by rw [c_6, c_16]; decide)
    · exact hthr 19 _ _ _ _ dX2_pull_19 dX2_pull_22 dX2_pull_23 dX2_pull_25 dX2_pull_28 hl.1 hW (rfl)
abbrev rmX2_copy_x : Room := { frames := 6, cells := 1, slots := 6, locals := 82 }
set_option maxHeartbeats 400000 in
set_option maxRecDepth 100000 in
theorem mX2_copy_x1 (l : Launch) (hfl : l.stackTraces = false) (D : va_G) (c : Nat → ClassId) (a : Nat → Nat) (b : Nat → Nat → Nat) (θ : Nat → Nat → Nat → Nat) (ρ κ : Nat → Nat → Nat) (sz : Nat) (u : Int32) (v : Int32) (x : Int32) (y : Int32) (hin : (blw u (nI (3)) && blw v (nI (3))) = false) : MX l yX2_copy wsX2_copy rmX2_copy_x D c sz (wP c a b θ ρ κ) [.ref (a 0), .int (u), .int (v), .int (x), .int (y)] xI (wP c a b θ ρ κ) := by
  refine MX.of hfl (cc := cX2_copy) (maxL := 5) (ty := .int) (ik := 55) (is := 95) (ic := 59) (by decide) rfl rfl (Nat.le_of_ble_eq_true rfl) (Or.inl ⟨rfl, rfl, rfl⟩) (List.mem_of_getElem? (i := 1) rfl) (List.mem_of_getElem? (i := 2) rfl) (fun w h => List.mem_cons_of_mem _ (List.mem_append_left _ (List.mem_append_right _ h))) (List.mem_of_getElem? (i := 3) rfl) ⟨by decide, by decide, by decide, by decide⟩ ?_
  intro P e s m below meth cd A Q ls hsz S hK hN hV hW hA hl hthr
  have hl : lv_has ls 5 [(0, .ref (a 0)), (1, .int (u)), (2, .int (v)), (3, .int (x)), (4, .int (y))] := hl
  refine lv_iload_n S.1 S.2.1 dX2_copy_0 rfl (lv_at hl 1 rfl) ?_
  refine lv_iconst (v := nI (3)) S.1 S.2.1 dX2_copy_1 rfl ?_
  refine k_SI (rest := []) S hK hl.1 hW (KFr.nil hW hA) (mX2_isBelow l D c  _ u (nI (3))) gX2_copy_X2_isBelow rfl pdX2_isBelow ⟨⟨rfl, rfl⟩, Nat.le_of_ble_eq_true rfl, Nat.le_of_ble_eq_true rfl⟩ rfl (Nat.le_of_ble_eq_true rfl) dX2_copy_2 ⟨Nat.le_of_ble_eq_true rfl, Nat.le_of_ble_eq_true rfl⟩ (fun H locs hW => ?_)
  have hW : kw D A s.heap (wP c a b θ ρ κ) H locs := hW
  refine kb_eq S (tgt := 16) dX2_copy_5 (by decide) (fun c_5 => ?_) (fun c_5 => ?_)
  · exact hthr 16 _ _ _ _ dX2_copy_16 dX2_copy_19 dX2_copy_20 dX2_copy_22 dX2_copy_25 hl.1 hW (rfl)
  · refine lv_iload_n S.1 S.2.1 dX2_copy_8 rfl (lv_at hl 2 rfl) ?_
    refine lv_iconst (v := nI (3)) S.1 S.2.1 dX2_copy_9 rfl ?_
    refine k_SI (rest := []) S hK hl.1 hW (KFr.nil hW hA) (mX2_isBelow l D c  _ v (nI (3))) gX2_copy_X2_isBelow rfl pdX2_isBelow ⟨⟨rfl, rfl⟩, Nat.le_of_ble_eq_true rfl, Nat.le_of_ble_eq_true rfl⟩ rfl (Nat.le_of_ble_eq_true rfl) dX2_copy_10 ⟨Nat.le_of_ble_eq_true rfl, Nat.le_of_ble_eq_true rfl⟩ (fun H locs hW => ?_)
    have hW : kw D A s.heap (wP c a b θ ρ κ) H locs := hW
    refine kb_ne S (tgt := 26) dX2_copy_13 (by decide) (fun c_13 => ?_) (fun c_13 => ?_)
    · exact absurd hin (by rw [c_5, c_13]; decide)
    · exact hthr 16 _ _ _ _ dX2_copy_16 dX2_copy_19 dX2_copy_20 dX2_copy_22 dX2_copy_25 hl.1 hW (rfl)
set_option maxHeartbeats 400000 in
set_option maxRecDepth 100000 in
theorem mX2_copy_x2 (l : Launch) (hfl : l.stackTraces = false) (D : va_G) (c : Nat → ClassId) (a : Nat → Nat) (b : Nat → Nat → Nat) (θ : Nat → Nat → Nat → Nat) (ρ κ : Nat → Nat → Nat) (sz : Nat) (u : Nat) (v : Nat) (x : Int32) (y : Int32) (hu : u < 3) (hv : v < 3) (hbad : u = v ∨ inb x (nI (4294967265)) (nI (31)) = false ∨ inb y (nI (4294967285)) (nI (11)) = false) : MX l yX2_copy wsX2_copy rmX2_copy_x D c sz (wP c a b θ ρ κ) [.ref (a 0), .int (nI (u)), .int (nI (v)), .int (x), .int (y)] xA (wP c a b θ ρ κ) := by
  refine MX.of hfl (cc := cX2_copy) (maxL := 5) (ty := .int) (ik := 86) (is := 100) (ic := 90) (by decide) rfl rfl (Nat.le_of_ble_eq_true rfl) (Or.inr (Or.inr ⟨rfl, rfl, rfl⟩)) (List.mem_of_getElem? (i := 3) rfl) (List.mem_of_getElem? (i := 4) rfl) (fun w h => List.mem_cons_of_mem _ (List.mem_append_right _ h)) (List.mem_of_getElem? (i := 4) rfl) ⟨by decide, by decide, by decide, by decide⟩ ?_
  intro P e s m below meth cd A Q ls hsz S hK hN hV hW hA hl hthr
  have hl : lv_has ls 5 [(0, .ref (a 0)), (1, .int (nI (u))), (2, .int (nI (v))), (3, .int (x)), (4, .int (y))] := hl
  have h1 : blw (nI (u)) (nI (3)) = true := blw_t hu (by decide)
  have h2 : blw (nI (v)) (nI (3)) = true := blw_t hv (by decide)
  refine lv_iload_n S.1 S.2.1 dX2_copy_0 rfl (lv_at hl 1 rfl) ?_
  refine lv_iconst (v := nI (3)) S.1 S.2.1 dX2_copy_1 rfl ?_
  refine k_SI (rest := []) S hK hl.1 hW (KFr.nil hW hA) (mX2_isBelow l D c  _ (nI (u)) (nI (3))) gX2_copy_X2_isBelow rfl pdX2_isBelow ⟨⟨rfl, rfl⟩, Nat.le_of_ble_eq_true rfl, Nat.le_of_ble_eq_true rfl⟩ rfl (Nat.le_of_ble_eq_true rfl) dX2_copy_2 ⟨Nat.le_of_ble_eq_true rfl, Nat.le_of_ble_eq_true rfl⟩ (fun H locs hW => ?_)
  have hW : kw D A s.heap (wP c a b θ ρ κ) H locs := hW
  refine kb_eq S (tgt := 16) dX2_copy_5 (by decide) (fun c_5 => ?_) (fun c_5 => ?_)
  · exact absurd (h1.symm.trans c_5) (by decide)
  · refine lv_iload_n S.1 S.2.1 dX2_copy_8 rfl (lv_at hl 2 rfl) ?_
    refine lv_iconst (v := nI (3)) S.1 S.2.1 dX2_copy_9 rfl ?_
    refine k_SI (rest := []) S hK hl.1 hW (KFr.nil hW hA) (mX2_isBelow l D c  _ (nI (v)) (nI (3))) gX2_copy_X2_isBelow rfl pdX2_isBelow ⟨⟨rfl, rfl⟩, Nat.le_of_ble_eq_true rfl, Nat.le_of_ble_eq_true rfl⟩ rfl (Nat.le_of_ble_eq_true rfl) dX2_copy_10 ⟨Nat.le_of_ble_eq_true rfl, Nat.le_of_ble_eq_true rfl⟩ (fun H locs hW => ?_)
    have hW : kw D A s.heap (wP c a b θ ρ κ) H locs := hW
    refine kb_ne S (tgt := 26) dX2_copy_13 (by decide) (fun c_13 => ?_) (fun c_13 => ?_)
    · refine lv_iload_n S.1 S.2.1 dX2_copy_26 rfl (lv_at hl 1 rfl) ?_
      refine lv_iload_n S.1 S.2.1 dX2_copy_27 rfl (lv_at hl 2 rfl) ?_
      refine kn_eq S (tgt := 54) dX2_copy_28 (by decide) (by omega) (by omega) (fun c_28 => ?_) (fun c_28 => ?_)
      · exact hthr 54 _ _ _ _ dX2_copy_54 dX2_copy_57 dX2_copy_58 dX2_copy_60 dX2_copy_63 hl.1 hW (rfl)
      · refine lv_iload_n S.1 S.2.1 dX2_copy_31 rfl (lv_at hl 3 rfl) ?_
        refine lv_bipush (v := nI (4294967265)) S.1 S.2.1 dX2_copy_32 rfl ?_
        refine lv_bipush (v := nI (31)) S.1 S.2.1 dX2_copy_34 rfl ?_
        refine k_SI (rest := []) S hK hl.1 hW (KFr.nil hW hA) (mX2_isWithin l D c  _ x (nI (4294967265)) (nI (31))) gX2_copy_X2_isWithin rfl pdX2_isWithin ⟨⟨rfl, rfl⟩, Nat.le_of_ble_eq_true rfl, Nat.le_of_ble_eq_true rfl⟩ rfl (Nat.le_of_ble_eq_true rfl) dX2_copy_36 ⟨Nat.le_of_ble_eq_true rfl, Nat.le_of_ble_eq_true rfl⟩ (fun H locs hW => ?_)
        have hW : kw D A s.heap (wP c a b θ ρ κ) H locs := hW
        refine kb_eq S (tgt := 54) dX2_copy_39 (by decide) (fun c_39 => ?_) (fun c_39 => ?_)
        · exact hthr 54 _ _ _ _ dX2_copy_54 dX2_copy_57 dX2_copy_58 dX2_copy_60 dX2_copy_63 hl.1 hW (rfl)
        · refine lv_iload S.1 S.2.1 dX2_copy_42 (lv_at hl 4 rfl) ?_
          refine lv_bipush (v := nI (4294967285)) S.1 S.2.1 dX2_copy_44 rfl ?_
          refine lv_bipush (v := nI (11)) S.1 S.2.1 dX2_copy_46 rfl ?_
          refine k_SI (rest := []) S hK hl.1 hW (KFr.nil hW hA) (mX2_isWithin l D c  _ y (nI (4294967285)) (nI (11))) gX2_copy_X2_isWithin rfl pdX2_isWithin ⟨⟨rfl, rfl⟩, Nat.le_of_ble_eq_true rfl, Nat.le_of_ble_eq_true rfl⟩ rfl (Nat.le_of_ble_eq_true rfl) dX2_copy_48 ⟨Nat.le_of_ble_eq_true rfl, Nat.le_of_ble_eq_true rfl⟩ (fun H locs hW => ?_)
          have hW : kw D A s.heap (wP c a b θ ρ κ) H locs := hW
          refine kb_ne S (tgt := 64) dX2_copy_51 (by decide) (fun c_51 => ?_) (fun c_51 => ?_)
          · exact absurd hbad (by rintro (q | q | q); exact c_28 q; rw [q] at c_39; cases c_39; rw [q] at c_51; cases c_51)
          · exact hthr 54 _ _ _ _ dX2_copy_54 dX2_copy_57 dX2_copy_58 dX2_copy_60 dX2_copy_63 hl.1 hW (rfl)
    · exact absurd (h2.symm.trans c_13) (by decide)
set_option maxHeartbeats 400000 in
set_option maxRecDepth 100000 in
theorem mX2_pull_x2 (l : Launch) (hfl : l.stackTraces = false) (D : va_G) (c : Nat → ClassId) (a : Nat → Nat) (b : Nat → Nat → Nat) (θ : Nat → Nat → Nat → Nat) (ρ κ : Nat → Nat → Nat) (sz : Nat) (t : Nat) (j : Nat) (x : Nat) (y : Nat) (ht : t < 3) (hj : j < 12) (hx : x < 32) (hy : y < 32) (hxy : y < x) : MX l yX2_pull wsX2_pull rmX2_pull_x D c sz (wP c a b θ ρ κ) [.ref (a 0), .int (nI (t)), .int (nI (j)), .int (nI (x)), .int (nI (y))] xA (wP c a b θ ρ κ) := by
  refine MX.of hfl (cc := cX2_pull) (maxL := 5) (ty := .int) (ik := 86) (is := 88) (ic := 90) (by decide) rfl rfl (Nat.le_of_ble_eq_true rfl) (Or.inr (Or.inr ⟨rfl, rfl, rfl⟩)) (List.mem_of_getElem? (i := 3) rfl) (List.mem_of_getElem? (i := 4) rfl) (fun w h => List.mem_cons_of_mem _ (List.mem_append_right _ h)) (List.mem_of_getElem? (i := 2) rfl) ⟨by decide, by decide, by decide, by decide⟩ ?_
  intro P e s m below meth cd A Q ls hsz S hK hN hV hW hA hl hthr
  have hl : lv_has ls 5 [(0, .ref (a 0)), (1, .int (nI (t))), (2, .int (nI (j))), (3, .int (nI (x))), (4, .int (nI (y)))] := hl
  have hin : (blw (nI (t)) (nI 3) && blw (nI (j)) (nI 12) && blw (nI (x)) (nI 32)) = true := by rw [blw_t ht (by decide), blw_t hj (by decide), blw_t hx (by decide)]; rfl
  have h2 : blw (nI (y)) (nI (32)) = true := blw_t hy (by decide)
  refine lv_iload_n S.1 S.2.1 dX2_pull_0 rfl (lv_at hl 1 rfl) ?_
  refine lv_iload_n S.1 S.2.1 dX2_pull_1 rfl (lv_at hl 2 rfl) ?_
  refine lv_iload_n S.1 S.2.1 dX2_pull_2 rfl (lv_at hl 3 rfl) ?_
  refine k_SI (rest := []) S hK hl.1 hW (KFr.nil hW hA) (mX2_isPlace l D c  _ (nI (t)) (nI (j)) (nI (x))) gX2_pull_X2_isPlace rfl pdX2_isPlace ⟨⟨rfl, rfl⟩, Nat.le_of_ble_eq_true rfl, Nat.le_of_ble_eq_true rfl⟩ rfl (Nat.le_of_ble_eq_true rfl) dX2_pull_3 ⟨Nat.le_of_ble_eq_true rfl, Nat.le_of_ble_eq_true rfl⟩ (fun H locs hW => ?_)
  have hW : kw D A s.heap (wP c a b θ ρ κ) H locs := hW
  refine kb_eq S (tgt := 19) dX2_pull_6 (by decide) (fun c_6 => ?_) (fun c_6 => ?_)
  · exact absurd (hin.symm.trans c_6) (by decide)
  · refine lv_iload S.1 S.2.1 dX2_pull_9 (lv_at hl 4 rfl) ?_
    refine lv_bipush (v := nI (32)) S.1 S.2.1 dX2_pull_11 rfl ?_
    refine k_SI (rest := []) S hK hl.1 hW (KFr.nil hW hA) (mX2_isBelow l D c  _ (nI (y)) (nI (32))) gX2_pull_X2_isBelow rfl pdX2_isBelow ⟨⟨rfl, rfl⟩, Nat.le_of_ble_eq_true rfl, Nat.le_of_ble_eq_true rfl⟩ rfl (Nat.le_of_ble_eq_true rfl) dX2_pull_13 ⟨Nat.le_of_ble_eq_true rfl, Nat.le_of_ble_eq_true rfl⟩ (fun H locs hW => ?_)
    have hW : kw D A s.heap (wP c a b θ ρ κ) H locs := hW
    refine kb_ne S (tgt := 29) dX2_pull_16 (by decide) (fun c_16 => ?_) (fun c_16 => ?_)
    · refine lv_iload S.1 S.2.1 dX2_pull_29 (lv_at hl 4 rfl) ?_
      refine lv_iload_n S.1 S.2.1 dX2_pull_31 rfl (lv_at hl 3 rfl) ?_
      refine kn_ge S (tgt := 45) dX2_pull_32 (by decide) (by omega) (by omega) (fun c_32 => ?_) (fun c_32 => ?_)
      · exact absurd c_32 (by omega)
      · exact hthr 35 _ _ _ _ dX2_pull_35 dX2_pull_38 dX2_pull_39 dX2_pull_41 dX2_pull_44 hl.1 hW (rfl)
    · exact absurd (h2.symm.trans c_16) (by decide)
set_option maxHeartbeats 400000 in
set_option maxRecDepth 100000 in
theorem mX2_pin_x2 (l : Launch) (hfl : l.stackTraces = false) (D : va_G) (c : Nat → ClassId) (a : Nat → Nat) (b : Nat → Nat → Nat) (θ : Nat → Nat → Nat → Nat) (ρ κ : Nat → Nat → Nat) (sz : Nat) (t : Nat) (j : Nat) (p : Nat) (T : Nat) (ht : t < 3) (hj : j < 12) (hp : p < 32) (ok : okS (θ 0) T) (hh : ¬ hiS' (θ 0) t j p = 0) : MX l yX2_pin wsX2_pin rmX2_pin_x D c sz (wP c a b θ ρ κ) [.ref (a 0), .int (nI (t)), .int (nI (j)), .int (nI (p))] xS (wP c a b θ ρ κ) := by
  refine MX.of hfl (cc := cX2_pin) (maxL := 4) (ty := .int) (ik := 66) (is := 68) (ic := 70) (by decide) rfl rfl (Nat.le_of_ble_eq_true rfl) (Or.inr (Or.inl ⟨rfl, rfl, rfl⟩)) (List.mem_of_getElem? (i := 3) rfl) (List.mem_of_getElem? (i := 4) rfl) (fun w h => List.mem_cons_of_mem _ (List.mem_append_right _ h)) (List.mem_of_getElem? (i := 1) rfl) ⟨by decide, by decide, by decide, by decide⟩ ?_
  intro P e s m below meth cd A Q ls hsz S hK hN hV hW hA hl hthr
  have hl : lv_has ls 4 [(0, .ref (a 0)), (1, .int (nI (t))), (2, .int (nI (j))), (3, .int (nI (p)))] := hl
  have hinX2 : ∀ w ∈ u_ws RX2 TX2 10, w ∈ wsX2_pin := by decide +kernel
  have hin : (blw (nI (t)) (nI 3) && blw (nI (j)) (nI 12) && blw (nI (p)) (nI 32)) = true := by rw [blw_t ht (by decide), blw_t hj (by decide), blw_t hp (by decide)]; rfl
  refine lv_iload_n S.1 S.2.1 dX2_pin_0 rfl (lv_at hl 1 rfl) ?_
  refine lv_iload_n S.1 S.2.1 dX2_pin_1 rfl (lv_at hl 2 rfl) ?_
  refine lv_iload_n S.1 S.2.1 dX2_pin_2 rfl (lv_at hl 3 rfl) ?_
  refine k_SI (rest := []) S hK hl.1 hW (KFr.nil hW hA) (mX2_isPlace l D c  _ (nI (t)) (nI (j)) (nI (p))) gX2_pin_X2_isPlace rfl pdX2_isPlace ⟨⟨rfl, rfl⟩, Nat.le_of_ble_eq_true rfl, Nat.le_of_ble_eq_true rfl⟩ rfl (Nat.le_of_ble_eq_true rfl) dX2_pin_3 ⟨Nat.le_of_ble_eq_true rfl, Nat.le_of_ble_eq_true rfl⟩ (fun H locs hW => ?_)
  have hW : kw D A s.heap (wP c a b θ ρ κ) H locs := hW
  refine kb_ne S (tgt := 19) dX2_pin_6 (by decide) (fun c_6 => ?_) (fun c_6 => ?_)
  · refine lv_aload_n S.1 S.2.1 dX2_pin_19 rfl (lv_at hl 0 rfl) ?_
    refine kx_get S hK hW hinX2 0 2 rfl rfl 0 (by decide) (List.mem_of_getElem? (i := 5) rfl) (v := .ref (b 0 0)) rfl dX2_pin_20 ?_
    refine lv_iload_n S.1 S.2.1 dX2_pin_23 rfl (lv_at hl 1 rfl) ?_
    refine lv_iload_n S.1 S.2.1 dX2_pin_24 rfl (lv_at hl 2 rfl) ?_
    refine lv_iload_n S.1 S.2.1 dX2_pin_25 rfl (lv_at hl 3 rfl) ?_
    refine k_VI (rest := []) S hK hl.1 hW (fS0 hW hA _) (mX1_hindrance l D c (b 0) ((θ 0)) _ t j p T (by first | omega | exact ht | assumption | (show t < 3; omega) | rfl) (by first | omega | exact hj | assumption | (show j < 12; omega) | rfl) (by first | omega | exact hp | assumption | (show p < 32; omega) | rfl) ok) gX2_pin_X1_hindrance rfl pdX1_hindrance ⟨⟨rfl, rfl⟩, Nat.le_of_ble_eq_true rfl, Nat.le_of_ble_eq_true rfl⟩ 0 1 rfl rfl rfl rfl (Nat.le_of_ble_eq_true rfl) dX2_pin_26 ⟨Nat.le_of_ble_eq_true rfl, Nat.le_of_ble_eq_true rfl⟩ (fun H locs hW => ?_)
    have hW : kw D A s.heap (wP c a b θ ρ κ) H locs := hW
    refine k_top (y := nI (hiS' (θ 0) t j p)) rfl ?_
    refine kz_eq S (tgt := 42) dX2_pin_29 (by decide) (Nat.lt_of_le_of_lt (hiS'_le _ _ _ _) (by decide)) (fun c_29 => ?_) (fun c_29 => ?_)
    · exact absurd c_29 hh
    · exact hthr 32 _ _ _ _ dX2_pin_32 dX2_pin_35 dX2_pin_36 dX2_pin_38 dX2_pin_41 hl.1 hW (rfl)
  · exact absurd (hin.symm.trans c_6) (by decide)
abbrev rmX2_undo_x : Room := { frames := 6, cells := 1, slots := 6, locals := 82 }
set_option maxHeartbeats 400000 in
set_option maxRecDepth 100000 in
theorem mX2_undo_x1 (l : Launch) (hfl : l.stackTraces = false) (D : va_G) (c : Nat → ClassId) (a : Nat → Nat) (b : Nat → Nat → Nat) (θ : Nat → Nat → Nat → Nat) (ρ κ : Nat → Nat → Nat) (sz : Nat) (h0 : κ 3 0 = 0) : MX l yX2_undo wsX2_undo rmX2_undo_x D c sz (wP c a b θ ρ κ) [.ref (a 0)] xS (wP c a b θ ρ κ) := by
  refine MX.of hfl (cc := cX2_undo) (maxL := 1) (ty := .int) (ik := 66) (is := 166) (ic := 70) (by decide) rfl rfl (Nat.le_of_ble_eq_true rfl) (Or.inr (Or.inl ⟨rfl, rfl, rfl⟩)) (List.mem_of_getElem? (i := 1) rfl) (List.mem_of_getElem? (i := 2) rfl) (fun w h => List.mem_cons_of_mem _ (List.mem_append_right _ h)) (List.mem_of_getElem? (i := 14) rfl) ⟨by decide, by decide, by decide, by decide⟩ ?_
  intro P e s m below meth cd A Q ls hsz S hK hN hV hW hA hl hthr
  have hl : lv_has ls 1 [(0, .ref (a 0))] := hl
  have hinX2 : ∀ w ∈ u_ws RX2 TX2 10, w ∈ wsX2_undo := by decide +kernel
  refine lv_aload_n S.1 S.2.1 dX2_undo_0 rfl (lv_at hl 0 rfl) ?_
  refine kx_get S hK hW hinX2 0 2 rfl rfl 6 (by decide) (List.mem_of_getElem? (i := 3) rfl) (v := .int (nI (κ 3 0))) rfl dX2_undo_1 ?_
  refine kz_ne S (tgt := 17) dX2_undo_4 (by decide) (by omega) (fun c_4 => ?_) (fun c_4 => ?_)
  · exact absurd h0 c_4
  · exact hthr 7 _ _ _ _ dX2_undo_7 dX2_undo_10 dX2_undo_11 dX2_undo_13 dX2_undo_16 hl.1 hW (rfl)
abbrev rmX2_restore_x : Room := { frames := 6, cells := 1, slots := 6, locals := 82 }
abbrev rmX2_pins_x : Room := { frames := 6, cells := 1, slots := 6, locals := 137 }
abbrev rmX2_set : Room := { frames := 3, cells := 0, slots := 0, locals := 81 }
theorem pdX2_set : kPd yX2_set 2 := by decide +kernel
set_option maxHeartbeats 400000 in
set_option maxRecDepth 100000 in
theorem mX2_set_k (l : Launch) (D : va_G) (c : Nat → ClassId) (a : Nat → Nat) (b : Nat → Nat → Nat) (θ : Nat → Nat → Nat → Nat) (ρ κ : Nat → Nat → Nat) (sz : Nat) (i : Nat) (v : Nat) (hi : i < 5) (hv : inb (nI v) (nI (loS i)) (nI (hiS i)) = true) (hold : κ 2 0 < 6) (hcnt : κ 3 0 ≤ 6) : MI3 l yX2_set wsX2_set rmX2_set D c sz (wP c a b θ ρ κ) [.ref (a 0), .int (nI (i)), .int (nI (v))] (nI (θ 0 6 i)) (wP c a b (pst (svT θ ((κ 2 0 + κ 3 0) % 6)) 0 (pu (θ 0) 6 (fu (θ 0 6) i v))) ρ (svK κ)) := by
  refine MI3.of (cc := cX2_set) (maxL := 4) (ty := .int) (by decide) rfl (Nat.le_of_ble_eq_true rfl) rfl ?_
  intro P e s m below meth cd A Q ls hsz S hK hN hV hW hA hl hret
  have hl : lv_has ls 4 [(0, .ref (a 0)), (1, .int (nI (i))), (2, .int (nI (v)))] := hl
  have hinX1 : ∀ w ∈ u_ws RX1 TX1 17, w ∈ wsX2_set := by decide +kernel
  have hinX2 : ∀ w ∈ u_ws RX2 TX2 10, w ∈ wsX2_set := by decide +kernel
  obtain ⟨-, -, ⟨bL, hLz, hLt⟩, ⟨bM, hMz, hMt⟩⟩ := hV
  have h1 : blw (nI (i)) (nI (5)) = true := blw_t hi (by decide)
  refine lv_iload_n S.1 S.2.1 dX2_set_0 rfl (lv_at hl 1 rfl) ?_
  refine lv_iconst (v := nI (5)) S.1 S.2.1 dX2_set_1 rfl ?_
  refine k_SI (rest := []) S hK hl.1 hW (KFr.nil hW hA) (mX2_isBelow l D c  _ (nI (i)) (nI (5))) gX2_set_X2_isBelow rfl pdX2_isBelow ⟨⟨rfl, rfl⟩, Nat.le_of_ble_eq_true rfl, Nat.le_of_ble_eq_true rfl⟩ rfl (Nat.le_of_ble_eq_true rfl) dX2_set_2 ⟨Nat.le_of_ble_eq_true rfl, Nat.le_of_ble_eq_true rfl⟩ (fun H locs hW => ?_)
  have hW : kw D A s.heap (wP c a b θ ρ κ) H locs := hW
  refine kb_ne S (tgt := 18) dX2_set_5 (by decide) (fun c_5 => ?_) (fun c_5 => ?_)
  · refine lv_iload_n S.1 S.2.1 dX2_set_18 rfl (lv_at hl 2 rfl) ?_
    refine va_gets S.1 S.2.1 hLz hW.2.2 S.2.2.2.1 (S.2.2.2.2 _ (List.mem_of_getElem? (i := 5) rfl)) (fun _ h9 => h9) dX2_set_19 ?_
    refine lv_iload_n S.1 S.2.1 dX2_set_22 rfl (lv_at hl 1 rfl) ?_
    refine va_ti S.1 S.2.1 hLt hW.2.2 (vp_in_nI (n := i) hi (by decide)) (v := .int (nI (loS i))) (by show Value.int (nI (loS (nI (i)).toNatClampNeg)) = _; rw [nI_clamp (by omega)]) dX2_set_23 ?_
    refine va_gets S.1 S.2.1 hMz hW.2.2 S.2.2.2.1 (S.2.2.2.2 _ (List.mem_of_getElem? (i := 6) rfl)) (fun _ h9 => h9) dX2_set_24 ?_
    refine lv_iload_n S.1 S.2.1 dX2_set_27 rfl (lv_at hl 1 rfl) ?_
    refine va_ti S.1 S.2.1 hMt hW.2.2 (vp_in_nI (n := i) hi (by decide)) (v := .int (nI (hiS i))) (by show Value.int (nI (hiS (nI (i)).toNatClampNeg)) = _; rw [nI_clamp (by omega)]) dX2_set_28 ?_
    refine k_SI (rest := []) S hK hl.1 hW (KFr.nil hW hA) (mX2_isWithin l D c  _ (nI (v)) (nI (loS i)) (nI (hiS i))) gX2_set_X2_isWithin rfl pdX2_isWithin ⟨⟨rfl, rfl⟩, Nat.le_of_ble_eq_true rfl, Nat.le_of_ble_eq_true rfl⟩ rfl (Nat.le_of_ble_eq_true rfl) dX2_set_29 ⟨Nat.le_of_ble_eq_true rfl, Nat.le_of_ble_eq_true rfl⟩ (fun H locs hW => ?_)
    have hW : kw D A s.heap (wP c a b θ ρ κ) H locs := hW
    refine kb_ne S (tgt := 45) dX2_set_32 (by decide) (fun c_32 => ?_) (fun c_32 => ?_)
    · refine lv_aload_n S.1 S.2.1 dX2_set_45 rfl (lv_at hl 0 rfl) ?_
      refine k_VV2 (rest := []) S hK hl.1 hW (KFr.all hW hA) hN (mX2_saveState l D c a b θ ρ κ _ (by first | omega | exact hold | assumption | (show (κ 2 0) < 6; omega) | rfl) (by first | omega | exact hcnt | assumption | (show (κ 3 0) ≤ 6; omega) | rfl)) gX2_set_X2_saveState rfl pdX2_saveState ⟨⟨rfl, rfl⟩, Nat.le_of_ble_eq_true rfl, Nat.le_of_ble_eq_true rfl⟩ 0 2 rfl rfl rfl rfl (Nat.le_of_ble_eq_true rfl) dX2_set_46 ⟨Nat.le_of_ble_eq_true rfl, Nat.le_of_ble_eq_true rfl⟩ (fun H locs hW => ?_)
      have hW : kw D A s.heap (wP c a b (svT θ (((κ 2 0) + (κ 3 0)) % 6)) ρ (svK κ)) H locs := hW
      refine lv_aload_n S.1 S.2.1 dX2_set_49 rfl (lv_at hl 0 rfl) ?_
      refine kx_get S hK hW hinX2 0 2 rfl rfl 0 (by decide) (List.mem_of_getElem? (i := 7) rfl) (v := .ref (b 0 0)) rfl dX2_set_50 ?_
      refine kx_getN S hK hW hinX1 4 1 rfl rfl 6 (by decide) (hN _ (List.mem_of_getElem? (i := 0) rfl)) (v := .ref (b 0 7)) rfl dX2_set_53 ?_
      refine lv_iload_n S.1 S.2.1 dX2_set_56 rfl (lv_at hl 1 rfl) ?_
      refine kn_ald S hK hW 11 (f := (θ 0) 6) rfl (by omega) (by decide) dX2_set_57 ?_
      refine lv_istore_n (lv' := [(3, .int (nI (((θ 0) 6) (i)))), (0, .ref (a 0)), (1, .int (nI (i))), (2, .int (nI (v)))]) S.1 S.2.1 dX2_set_58 rfl hl (by decide) rfl (fun ls hl => ?_)
      refine lv_aload_n S.1 S.2.1 dX2_set_59 rfl (lv_at hl 1 rfl) ?_
      refine kx_get S hK hW hinX2 0 2 rfl rfl 0 (by decide) (List.mem_of_getElem? (i := 7) rfl) (v := .ref (b 0 0)) rfl dX2_set_60 ?_
      refine kx_getN S hK hW hinX1 4 1 rfl rfl 6 (by decide) (hN _ (List.mem_of_getElem? (i := 0) rfl)) (v := .ref (b 0 7)) rfl dX2_set_63 ?_
      refine lv_iload_n S.1 S.2.1 dX2_set_66 rfl (lv_at hl 2 rfl) ?_
      refine lv_iload_n S.1 S.2.1 dX2_set_67 rfl (lv_at hl 3 rfl) ?_
      refine kn_ast S hK hW 11 (f := (θ 0) 6) rfl (by omega) (by decide) dX2_set_68 (fun H locs hW => ?_)
      have hW : kw D A s.heap (wP c a b (pst (svT θ (((κ 2 0) + (κ 3 0)) % 6)) 0 (pu (θ 0) 6 (fu ((θ 0) 6) i v))) ρ (svK κ)) H locs := hW
      refine lv_iload_n S.1 S.2.1 dX2_set_69 rfl (lv_at hl 0 rfl) ?_
      exact hret 70 _ _ _ _ _ dX2_set_70 hW (rfl) (rfl)
    · exact absurd (hv.symm.trans c_32) (by decide)
  · exact absurd (h1.symm.trans c_5) (by decide)
abbrev rmX2_set_x : Room := { frames := 6, cells := 1, slots := 6, locals := 82 }
set_option maxHeartbeats 400000 in
set_option maxRecDepth 100000 in
theorem mX2_set_x1 (l : Launch) (hfl : l.stackTraces = false) (D : va_G) (c : Nat → ClassId) (a : Nat → Nat) (b : Nat → Nat → Nat) (θ : Nat → Nat → Nat → Nat) (ρ κ : Nat → Nat → Nat) (sz : Nat) (i : Int32) (v : Int32) (hin : blw i (nI (5)) = false) : MX l yX2_set wsX2_set rmX2_set_x D c sz (wP c a b θ ρ κ) [.ref (a 0), .int (i), .int (v)] xI (wP c a b θ ρ κ) := by
  refine MX.of hfl (cc := cX2_set) (maxL := 4) (ty := .int) (ik := 55) (is := 135) (ic := 59) (by decide) rfl rfl (Nat.le_of_ble_eq_true rfl) (Or.inl ⟨rfl, rfl, rfl⟩) (List.mem_of_getElem? (i := 1) rfl) (List.mem_of_getElem? (i := 2) rfl) (fun w h => List.mem_cons_of_mem _ (List.mem_append_left _ (List.mem_append_right _ h))) (List.mem_of_getElem? (i := 9) rfl) ⟨by decide, by decide, by decide, by decide⟩ ?_
  intro P e s m below meth cd A Q ls hsz S hK hN hV hW hA hl hthr
  have hl : lv_has ls 4 [(0, .ref (a 0)), (1, .int (i)), (2, .int (v))] := hl
  refine lv_iload_n S.1 S.2.1 dX2_set_0 rfl (lv_at hl 1 rfl) ?_
  refine lv_iconst (v := nI (5)) S.1 S.2.1 dX2_set_1 rfl ?_
  refine k_SI (rest := []) S hK hl.1 hW (KFr.nil hW hA) (mX2_isBelow l D c  _ i (nI (5))) gX2_set_X2_isBelow rfl pdX2_isBelow ⟨⟨rfl, rfl⟩, Nat.le_of_ble_eq_true rfl, Nat.le_of_ble_eq_true rfl⟩ rfl (Nat.le_of_ble_eq_true rfl) dX2_set_2 ⟨Nat.le_of_ble_eq_true rfl, Nat.le_of_ble_eq_true rfl⟩ (fun H locs hW => ?_)
  have hW : kw D A s.heap (wP c a b θ ρ κ) H locs := hW
  refine kb_ne S (tgt := 18) dX2_set_5 (by decide) (fun c_5 => ?_) (fun c_5 => ?_)
  · exact absurd (hin.symm.trans c_5) (by decide)
  · exact hthr 8 _ _ _ _ dX2_set_8 dX2_set_11 dX2_set_12 dX2_set_14 dX2_set_17 hl.1 hW (rfl)
set_option maxHeartbeats 400000 in
set_option maxRecDepth 100000 in
theorem mX2_set_x2 (l : Launch) (hfl : l.stackTraces = false) (D : va_G) (c : Nat → ClassId) (a : Nat → Nat) (b : Nat → Nat → Nat) (θ : Nat → Nat → Nat → Nat) (ρ κ : Nat → Nat → Nat) (sz : Nat) (i : Nat) (v : Int32) (hi : i < 5) (hv : inb v (nI (loS i)) (nI (hiS i)) = false) : MX l yX2_set wsX2_set rmX2_set_x D c sz (wP c a b θ ρ κ) [.ref (a 0), .int (nI (i)), .int (v)] xA (wP c a b θ ρ κ) := by
  refine MX.of hfl (cc := cX2_set) (maxL := 4) (ty := .int) (ik := 86) (is := 144) (ic := 90) (by decide) rfl rfl (Nat.le_of_ble_eq_true rfl) (Or.inr (Or.inr ⟨rfl, rfl, rfl⟩)) (List.mem_of_getElem? (i := 3) rfl) (List.mem_of_getElem? (i := 4) rfl) (fun w h => List.mem_cons_of_mem _ (List.mem_append_right _ h)) (List.mem_of_getElem? (i := 10) rfl) ⟨by decide, by decide, by decide, by decide⟩ ?_
  intro P e s m below meth cd A Q ls hsz S hK hN hV hW hA hl hthr
  have hl : lv_has ls 4 [(0, .ref (a 0)), (1, .int (nI (i))), (2, .int (v))] := hl
  obtain ⟨-, -, ⟨bL, hLz, hLt⟩, ⟨bM, hMz, hMt⟩⟩ := hV
  have h1 : blw (nI (i)) (nI (5)) = true := blw_t hi (by decide)
  refine lv_iload_n S.1 S.2.1 dX2_set_0 rfl (lv_at hl 1 rfl) ?_
  refine lv_iconst (v := nI (5)) S.1 S.2.1 dX2_set_1 rfl ?_
  refine k_SI (rest := []) S hK hl.1 hW (KFr.nil hW hA) (mX2_isBelow l D c  _ (nI (i)) (nI (5))) gX2_set_X2_isBelow rfl pdX2_isBelow ⟨⟨rfl, rfl⟩, Nat.le_of_ble_eq_true rfl, Nat.le_of_ble_eq_true rfl⟩ rfl (Nat.le_of_ble_eq_true rfl) dX2_set_2 ⟨Nat.le_of_ble_eq_true rfl, Nat.le_of_ble_eq_true rfl⟩ (fun H locs hW => ?_)
  have hW : kw D A s.heap (wP c a b θ ρ κ) H locs := hW
  refine kb_ne S (tgt := 18) dX2_set_5 (by decide) (fun c_5 => ?_) (fun c_5 => ?_)
  · refine lv_iload_n S.1 S.2.1 dX2_set_18 rfl (lv_at hl 2 rfl) ?_
    refine va_gets S.1 S.2.1 hLz hW.2.2 S.2.2.2.1 (S.2.2.2.2 _ (List.mem_of_getElem? (i := 5) rfl)) (fun _ h9 => h9) dX2_set_19 ?_
    refine lv_iload_n S.1 S.2.1 dX2_set_22 rfl (lv_at hl 1 rfl) ?_
    refine va_ti S.1 S.2.1 hLt hW.2.2 (vp_in_nI (n := i) hi (by decide)) (v := .int (nI (loS i))) (by show Value.int (nI (loS (nI (i)).toNatClampNeg)) = _; rw [nI_clamp (by omega)]) dX2_set_23 ?_
    refine va_gets S.1 S.2.1 hMz hW.2.2 S.2.2.2.1 (S.2.2.2.2 _ (List.mem_of_getElem? (i := 6) rfl)) (fun _ h9 => h9) dX2_set_24 ?_
    refine lv_iload_n S.1 S.2.1 dX2_set_27 rfl (lv_at hl 1 rfl) ?_
    refine va_ti S.1 S.2.1 hMt hW.2.2 (vp_in_nI (n := i) hi (by decide)) (v := .int (nI (hiS i))) (by show Value.int (nI (hiS (nI (i)).toNatClampNeg)) = _; rw [nI_clamp (by omega)]) dX2_set_28 ?_
    refine k_SI (rest := []) S hK hl.1 hW (KFr.nil hW hA) (mX2_isWithin l D c  _ v (nI (loS i)) (nI (hiS i))) gX2_set_X2_isWithin rfl pdX2_isWithin ⟨⟨rfl, rfl⟩, Nat.le_of_ble_eq_true rfl, Nat.le_of_ble_eq_true rfl⟩ rfl (Nat.le_of_ble_eq_true rfl) dX2_set_29 ⟨Nat.le_of_ble_eq_true rfl, Nat.le_of_ble_eq_true rfl⟩ (fun H locs hW => ?_)
    have hW : kw D A s.heap (wP c a b θ ρ κ) H locs := hW
    refine kb_ne S (tgt := 45) dX2_set_32 (by decide) (fun c_32 => ?_) (fun c_32 => ?_)
    · exact absurd (hv.symm.trans c_32) (by decide)
    · exact hthr 35 _ _ _ _ dX2_set_35 dX2_set_38 dX2_set_39 dX2_set_41 dX2_set_44 hl.1 hW (rfl)
  · exact absurd (h1.symm.trans c_5) (by decide)
