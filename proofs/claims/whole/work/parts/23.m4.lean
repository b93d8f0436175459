abbrev rmX3_thrown : Room := { frames := 0, cells := 0, slots := 0, locals := 0 }
theorem pdX3_thrown : kPd yX3_thrown 0 := by decide +kernel
set_option maxHeartbeats 4000000 in
set_option maxRecDepth 100000 in
theorem mX3_thrown (l : Launch) (D : va_G) (c : Nat → ClassId) (a : Nat → Nat) (φ : Nat → Nat → Nat) (δ : Int64) (sz : Nat) : MI l yX3_thrown wsX3_thrown rmX3_thrown D c sz (wM c a φ δ) [.ref (a 0)] (nI (φ 5 0)) (wM c a φ δ) := by
  refine MI.of (cc := cX3_thrown) (maxL := 1) (ty := .int) (by decide) rfl (Nat.le_of_ble_eq_true rfl) rfl ?_
  intro P e s m below meth cd A Q ls hsz S hK hW hA hl hret
  have hl : lv_has ls 1 [(0, .ref (a 0))] := hl
  have hinX3 : ∀ w ∈ u_ws RX3 TX3 13, w ∈ wsX3_thrown := by decide +kernel
  refine lv_aload_n S.1 S.2.1 dX3_thrown_0 rfl (lv_at hl 0 rfl) ?_
  refine kx_get S hK hW hinX3 0 3 rfl rfl 0 (by decide) (List.mem_of_getElem? (i := 1) rfl) (v := .int (nI (φ 5 0))) rfl dX3_thrown_1 ?_
  exact hret 4 _ _ _ _ _ dX3_thrown_4 hW (rfl) (rfl)
abbrev rmX3_goesOn : Room := { frames := 4, cells := 0, slots := 0, locals := 90 }
theorem pdX3_goesOn : kPd yX3_goesOn 1 := by decide +kernel
set_option maxHeartbeats 4000000 in
set_option maxRecDepth 100000 in
theorem mX3_goesOn (l : Launch) (D : va_G) (c : Nat → ClassId) (a : Nat → Nat) (φ : Nat → Nat → Nat) (δ : Int64) (sz : Nat) (n : Nat) (ok : okM (φ 0)) (hn : n < 1000) : MI l yX3_goesOn wsX3_goesOn rmX3_goesOn D c sz (wM c a φ δ) [.ref (a 0), .int (nI (n))] (nI ((on n (φ 0)).1)) (wM c a (pu φ 0 ((on n (φ 0)).2)) δ) := by
  refine MI.of (cc := cX3_goesOn) (maxL := 3) (ty := .int) (by decide) rfl (Nat.le_of_ble_eq_true rfl) rfl ?_
  intro P e s m below meth cd A Q ls hsz S hK hW hA hl hret
  have hl : lv_has ls 3 [(0, .ref (a 0)), (1, .int (nI (n)))] := hl
  refine lv_iconst (v := nI (0)) S.1 S.2.1 dX3_goesOn_0 rfl ?_
  refine lv_istore_n (lv' := [(2, .int (nI (0))), (0, .ref (a 0)), (1, .int (nI (n)))]) S.1 S.2.1 dX3_goesOn_1 rfl hl (by decide) rfl (fun ls hl => ?_)
  refine k_loop (fun (zz : Nat × (Nat → Nat)) H lo ls => match zz with | (k, g) => kw D A s.heap (wM c a (pu φ 0 g) δ) H lo ∧ lv_has ls 3 [(0, .ref (a 0)), (1, .int (nI (n))), (2, .int (nI (k)))] ∧ k ≤ n ∧ okM g ∧ on n (φ 0) = (k + (on (n - k) g).1, (on (n - k) g).2)) (fun (zz : Nat × (Nat → Nat)) => match zz with | (k, g) => n - k) [] ?_ (0, φ 0) _ _ _ ⟨hW, lv_sub hl [1, 2, 0] rfl, (Nat.zero_le _), ok, (by rw [Nat.zero_add, Nat.sub_zero])⟩
  rintro ⟨k, g⟩ ih2 H locs ls ⟨hW, hl, hkn, okg, hon⟩
  refine lv_iload_n S.1 S.2.1 dX3_goesOn_2 rfl (lv_at hl 2 rfl) ?_
  refine lv_iload_n S.1 S.2.1 dX3_goesOn_3 rfl (lv_at hl 1 rfl) ?_
  refine kn_ge S (tgt := 20) dX3_goesOn_4 (by decide) (by omega) (by omega) (fun c_4 => ?_) (fun c_4 => ?_)
  · have e0 : n - k = 0 := by omega
    rw [e0, on_0] at hon
    have hW : kw D A s.heap (wM c a (pu φ 0 g) δ) H locs := by first | exact hW | (rw [c_11] at hW; exact hW)
    refine lv_iload_n S.1 S.2.1 dX3_goesOn_20 rfl (lv_at hl 2 rfl) ?_
    exact hret 21 _ _ _ _ _ dX3_goesOn_21 hW (by rw [hon]; rfl) (congrArg (fun z => wM c a (pu φ 0 z) δ) (by rw [hon]))
  · refine lv_aload_n S.1 S.2.1 dX3_goesOn_7 rfl (lv_at hl 0 rfl) ?_
    refine k_VI (rest := []) S hK hl.1 hW (KFr.all hW hA) (mX3_goes l D c a ((pu φ 0 g)) δ _ okg) gX3_goesOn_X3_goes rfl pdX3_goes ⟨⟨rfl, rfl⟩, Nat.le_of_ble_eq_true rfl, Nat.le_of_ble_eq_true rfl⟩ 0 3 rfl rfl rfl rfl (Nat.le_of_ble_eq_true rfl) dX3_goesOn_8 ⟨Nat.le_of_ble_eq_true rfl, Nat.le_of_ble_eq_true rfl⟩ (fun H locs hW => ?_)
    have hW : kw D A s.heap (wM c a (pu φ 0 ((if can (g) then goes (g) else g))) δ) H locs := hW
    refine k_top (y := nI ((can (g)).toNat)) rfl ?_
    refine kb_eq S (tgt := 20) dX3_goesOn_11 (by decide) (fun c_11 => ?_) (fun c_11 => ?_)
    · rw [on_f c_11] at hon
      have hW : kw D A s.heap (wM c a (pu φ 0 g) δ) H locs := by first | exact hW | (rw [c_11] at hW; exact hW)
      refine lv_iload_n S.1 S.2.1 dX3_goesOn_20 rfl (lv_at hl 2 rfl) ?_
      exact hret 21 _ _ _ _ _ dX3_goesOn_21 hW (by rw [hon]; rfl) (congrArg (fun z => wM c a (pu φ 0 z) δ) (by rw [hon]))
    · have hW : kw D A s.heap (wM c a (pu φ 0 (goes g)) δ) H locs := by rw [if_pos c_11] at hW; exact hW
      refine lv_iinc (v := nI (k + 1)) (lv' := [(2, .int (nI (k + 1))), (0, .ref (a 0)), (1, .int (nI (n)))]) S.1 S.2.1 dX3_goesOn_14 hl (k := 2) rfl (nI_add _ _) (by decide) rfl (fun ls hl => ?_)
      refine lv_goto (tgt := 2) S.1 S.2.1 dX3_goesOn_17 (by decide) ?_
      exact ih2 (k + 1, goes g) _ _ _ ⟨hW, lv_sub hl [1, 2, 0] rfl, c_4, okg.goes, (by rw [hon, show n - k = (n - (k + 1)) + 1 by omega, on_t c_11]; exact congrArg (fun z => (z, _)) (by omega))⟩ (by show n - (k + 1) < n - k; omega)
abbrev rmX3_becomes : Room := { frames := 1, cells := 0, slots := 0, locals := 21 }
theorem pdX3_becomes : kPd yX3_becomes 2 := by decide +kernel
set_option maxHeartbeats 4000000 in
set_option maxRecDepth 100000 in
theorem mX3_becomes (l : Launch) (D : va_G) (c : Nat → ClassId) (a : Nat → Nat) (φ : Nat → Nat → Nat) (δ : Int64) (sz : Nat) (i : Nat) (v : Nat) (hk : φ 6 0 ≤ 6) (hi : i < 147) : MI l yX3_becomes wsX3_becomes rmX3_becomes D c sz (wM c a φ δ) [.ref (a 0), .int (nI (i)), .int (nI (v))] (nI (φ 0 i)) (wM c a (pu (pu (pu φ 0 (fu (φ 0) i v)) 2 (svf (φ 2) (φ 0) (φ 6 0))) 6 (kc (svn (φ 6 0)))) δ) := by
  refine MI.of (cc := cX3_becomes) (maxL := 4) (ty := .int) (by decide) rfl (Nat.le_of_ble_eq_true rfl) rfl ?_
  intro P e s m below meth cd A Q ls hsz S hK hW hA hl hret
  have hl : lv_has ls 4 [(0, .ref (a 0)), (1, .int (nI (i))), (2, .int (nI (v)))] := hl
  have hinX3 : ∀ w ∈ u_ws RX3 TX3 13, w ∈ wsX3_becomes := by decide +kernel
  refine lv_aload_n S.1 S.2.1 dX3_becomes_0 rfl (lv_at hl 0 rfl) ?_
  refine k_VV (rest := []) S hK hl.1 hW (KFr.all hW hA) (mX3_save l D c a φ δ _ (by first | omega | exact hk | assumption)) gX3_becomes_X3_save rfl pdX3_save ⟨⟨rfl, rfl⟩, Nat.le_of_ble_eq_true rfl, Nat.le_of_ble_eq_true rfl⟩ 0 3 rfl rfl rfl rfl (Nat.le_of_ble_eq_true rfl) dX3_becomes_1 ⟨Nat.le_of_ble_eq_true rfl, Nat.le_of_ble_eq_true rfl⟩ (fun H locs hW => ?_)
  have hW : kw D A s.heap (wM c a (pu (pu φ 2 (svf (φ 2) (φ 0) (φ 6 0))) 6 (kc (svn (φ 6 0)))) δ) H locs := hW
  refine lv_aload_n S.1 S.2.1 dX3_becomes_4 rfl (lv_at hl 0 rfl) ?_
  refine kx_get S hK hW hinX3 0 3 rfl rfl 1 (by decide) (List.mem_of_getElem? (i := 1) rfl) (v := .ref (a 1)) rfl dX3_becomes_5 ?_
  refine lv_iload_n S.1 S.2.1 dX3_becomes_8 rfl (lv_at hl 1 rfl) ?_
  refine kn_ald S hK hW 1 (f := φ 0) rfl (by omega) (by decide) dX3_becomes_9 ?_
  refine lv_istore_n (lv' := [(3, .int (nI (φ 0 (i)))), (0, .ref (a 0)), (1, .int (nI (i))), (2, .int (nI (v)))]) S.1 S.2.1 dX3_becomes_10 rfl hl (by decide) rfl (fun ls hl => ?_)
  refine lv_aload_n S.1 S.2.1 dX3_becomes_11 rfl (lv_at hl 1 rfl) ?_
  refine kx_get S hK hW hinX3 0 3 rfl rfl 1 (by decide) (List.mem_of_getElem? (i := 1) rfl) (v := .ref (a 1)) rfl dX3_becomes_12 ?_
  refine lv_iload_n S.1 S.2.1 dX3_becomes_15 rfl (lv_at hl 2 rfl) ?_
  refine lv_iload_n S.1 S.2.1 dX3_becomes_16 rfl (lv_at hl 3 rfl) ?_
  refine kn_ast S hK hW 1 (f := φ 0) rfl (by omega) (by decide) dX3_becomes_17 (fun H locs hW => ?_)
  have hW : kw D A s.heap (wM c a (pu (pu (pu φ 2 (svf (φ 2) (φ 0) (φ 6 0))) 6 (kc (svn (φ 6 0)))) 0 (fu (φ 0) i v)) δ) H locs := hW
  refine lv_iload_n S.1 S.2.1 dX3_becomes_18 rfl (lv_at hl 0 rfl) ?_
  exact hret 19 _ _ _ _ _ dX3_becomes_19 hW (rfl) (rfl)
abbrev rmX3_pin : Room := { frames := 4, cells := 0, slots := 0, locals := 92 }
theorem pdX3_pin : kPd yX3_pin 3 := by decide +kernel
set_option maxHeartbeats 4000000 in
set_option maxRecDepth 100000 in
theorem mX3_pin_x1 (l : Launch) (D : va_G) (c : Nat → ClassId) (a : Nat → Nat) (φ : Nat → Nat → Nat) (δ : Int64) (sz : Nat) (t : Int32) (j : Int32) (p : Int32) (hin : (inb t (nI 0) (nI 2) && inb j (nI 0) (nI 11) && inb p (nI 0) (nI 31)) = false) : MI l yX3_pin wsX3_pin rmX3_pin D c sz (wM c a φ δ) [.ref (a 0), .int (t), .int (j), .int (p)] (nI (0)) (wM c a (pu φ 5 (kc (1))) δ) := by
  refine MI.of (cc := cX3_pin) (maxL := 4) (ty := .int) (by decide) rfl (Nat.le_of_ble_eq_true rfl) rfl ?_
  intro P e s m below meth cd A Q ls hsz S hK hW hA hl hret
  have hl : lv_has ls 4 [(0, .ref (a 0)), (1, .int (t)), (2, .int (j)), (3, .int (p))] := hl
  refine lv_aload_n S.1 S.2.1 dX3_pin_0 rfl (lv_at hl 0 rfl) ?_
  refine lv_iload_n S.1 S.2.1 dX3_pin_1 rfl (lv_at hl 1 rfl) ?_
  refine lv_iload_n S.1 S.2.1 dX3_pin_2 rfl (lv_at hl 2 rfl) ?_
  refine lv_iload_n S.1 S.2.1 dX3_pin_3 rfl (lv_at hl 3 rfl) ?_
  refine k_SI (rest := [.ref (a 0)]) S hK hl.1 hW (KFr.nil hW hA) (mX3_areThere l D c  _ t j p) gX3_pin_X3_areThere rfl pdX3_areThere ⟨⟨rfl, rfl⟩, Nat.le_of_ble_eq_true rfl, Nat.le_of_ble_eq_true rfl⟩ rfl (Nat.le_of_ble_eq_true rfl) dX3_pin_4 ⟨Nat.le_of_ble_eq_true rfl, Nat.le_of_ble_eq_true rfl⟩ (fun H locs hW => ?_)
  have hW : kw D A s.heap (wM c a φ δ) H locs := hW
  refine kb_ne S (tgt := 14) dX3_pin_7 (by decide) (fun c_7 => ?_) (fun c_7 => ?_)
  · exact absurd (hin.symm.trans c_7) (by decide)
  · refine lv_iconst (v := nI (1)) S.1 S.2.1 dX3_pin_10 rfl ?_
    refine lv_goto (tgt := 29) S.1 S.2.1 dX3_pin_11 (by decide) ?_
    refine k_VI (rest := []) S hK hl.1 hW (KFr.all hW hA) (mX3_holds l D c a φ δ _ 1 (by first | omega | exact hw | assumption)) gX3_pin_X3_holds rfl pdX3_holds ⟨⟨rfl, rfl⟩, Nat.le_of_ble_eq_true rfl, Nat.le_of_ble_eq_true rfl⟩ 0 3 rfl rfl rfl rfl (Nat.le_of_ble_eq_true rfl) dX3_pin_29 ⟨Nat.le_of_ble_eq_true rfl, Nat.le_of_ble_eq_true rfl⟩ (fun H locs hW => ?_)
    have hW : kw D A s.heap (wM c a (pu φ 5 (kc (1))) δ) H locs := hW
    refine kb_ne S (tgt := 37) dX3_pin_32 (by decide) (fun c_32 => ?_) (fun c_32 => ?_)
    · exact absurd c_32 (by decide)
    · refine lv_iconst (v := nI (0)) S.1 S.2.1 dX3_pin_35 rfl ?_
      exact hret 36 _ _ _ _ _ dX3_pin_36 hW (rfl) (rfl)
set_option maxHeartbeats 4000000 in
set_option maxRecDepth 100000 in
theorem mX3_pin_x2 (l : Launch) (D : va_G) (c : Nat → ClassId) (a : Nat → Nat) (φ : Nat → Nat → Nat) (δ : Int64) (sz : Nat) (t : Nat) (j : Nat) (p : Nat) (ht : t < 3) (hj : j < 12) (hp : p < 32) (ok : okM (φ 0)) (hh : 0 < hind (φ 0) t j p) : MI l yX3_pin wsX3_pin rmX3_pin D c sz (wM c a φ δ) [.ref (a 0), .int (nI (t)), .int (nI (j)), .int (nI (p))] (nI (0)) (wM c a (pu φ 5 (kc (2))) δ) := by
  refine MI.of (cc := cX3_pin) (maxL := 4) (ty := .int) (by decide) rfl (Nat.le_of_ble_eq_true rfl) rfl ?_
  intro P e s m below meth cd A Q ls hsz S hK hW hA hl hret
  have hl : lv_has ls 4 [(0, .ref (a 0)), (1, .int (nI (t))), (2, .int (nI (j))), (3, .int (nI (p)))] := hl
  have hin : (inb (nI (t)) (nI 0) (nI 2) && inb (nI (j)) (nI 0) (nI 11) && inb (nI (p)) (nI 0) (nI 31)) = true := by rw [inb_t (Nat.zero_le t) (by omega) (by decide), inb_t (Nat.zero_le j) (by omega) (by decide), inb_t (Nat.zero_le p) (by omega) (by decide)]; rfl
  have h3 := hind_le (φ 0) t j p
  refine lv_aload_n S.1 S.2.1 dX3_pin_0 rfl (lv_at hl 0 rfl) ?_
  refine lv_iload_n S.1 S.2.1 dX3_pin_1 rfl (lv_at hl 1 rfl) ?_
  refine lv_iload_n S.1 S.2.1 dX3_pin_2 rfl (lv_at hl 2 rfl) ?_
  refine lv_iload_n S.1 S.2.1 dX3_pin_3 rfl (lv_at hl 3 rfl) ?_
  refine k_SI (rest := [.ref (a 0)]) S hK hl.1 hW (KFr.nil hW hA) (mX3_areThere l D c  _ (nI (t)) (nI (j)) (nI (p))) gX3_pin_X3_areThere rfl pdX3_areThere ⟨⟨rfl, rfl⟩, Nat.le_of_ble_eq_true rfl, Nat.le_of_ble_eq_true rfl⟩ rfl (Nat.le_of_ble_eq_true rfl) dX3_pin_4 ⟨Nat.le_of_ble_eq_true rfl, Nat.le_of_ble_eq_true rfl⟩ (fun H locs hW => ?_)
  have hW : kw D A s.heap (wM c a φ δ) H locs := hW
  refine kb_ne S (tgt := 14) dX3_pin_7 (by decide) (fun c_7 => ?_) (fun c_7 => ?_)
  · refine lv_aload_n S.1 S.2.1 dX3_pin_14 rfl (lv_at hl 0 rfl) ?_
    refine lv_iload_n S.1 S.2.1 dX3_pin_15 rfl (lv_at hl 1 rfl) ?_
    refine lv_iload_n S.1 S.2.1 dX3_pin_16 rfl (lv_at hl 2 rfl) ?_
    refine lv_iload_n S.1 S.2.1 dX3_pin_17 rfl (lv_at hl 3 rfl) ?_
    refine k_VI (rest := [.ref (a 0)]) S hK hl.1 hW (KFr.all hW hA) (mX3_hindrance l D c a φ δ _ t j p (by first | omega | exact ht | assumption) (by first | omega | exact hj | assumption) (by first | omega | exact hp | assumption) (by first | omega | exact ok | assumption)) gX3_pin_X3_hindrance rfl pdX3_hindrance ⟨⟨rfl, rfl⟩, Nat.le_of_ble_eq_true rfl, Nat.le_of_ble_eq_true rfl⟩ 0 3 rfl rfl rfl rfl (Nat.le_of_ble_eq_true rfl) dX3_pin_18 ⟨Nat.le_of_ble_eq_true rfl, Nat.le_of_ble_eq_true rfl⟩ (fun H locs hW => ?_)
    have hW : kw D A s.heap (wM c a φ δ) H locs := hW
    refine kz_le S (tgt := 28) dX3_pin_21 (by decide) (by omega) (fun c_21 => ?_) (fun c_21 => ?_)
    · exact absurd c_21 (by omega)
    · refine lv_iconst (v := nI (2)) S.1 S.2.1 dX3_pin_24 rfl ?_
      refine lv_goto (tgt := 29) S.1 S.2.1 dX3_pin_25 (by decide) ?_
      refine k_VI (rest := []) S hK hl.1 hW (KFr.all hW hA) (mX3_holds l D c a φ δ _ 2 (by first | omega | exact hw | assumption)) gX3_pin_X3_holds rfl pdX3_holds ⟨⟨rfl, rfl⟩, Nat.le_of_ble_eq_true rfl, Nat.le_of_ble_eq_true rfl⟩ 0 3 rfl rfl rfl rfl (Nat.le_of_ble_eq_true rfl) dX3_pin_29 ⟨Nat.le_of_ble_eq_true rfl, Nat.le_of_ble_eq_true rfl⟩ (fun H locs hW => ?_)
      have hW : kw D A s.heap (wM c a (pu φ 5 (kc (2))) δ) H locs := hW
      refine kb_ne S (tgt := 37) dX3_pin_32 (by decide) (fun c_32 => ?_) (fun c_32 => ?_)
      · exact absurd c_32 (by decide)
      · refine lv_iconst (v := nI (0)) S.1 S.2.1 dX3_pin_35 rfl ?_
        exact hret 36 _ _ _ _ _ dX3_pin_36 hW (rfl) (rfl)
  · exact absurd (hin.symm.trans c_7) (by decide)
set_option maxHeartbeats 4000000 in
set_option maxRecDepth 100000 in
theorem mX3_pin_k (l : Launch) (D : va_G) (c : Nat → ClassId) (a : Nat → Nat) (φ : Nat → Nat → Nat) (δ : Int64) (sz : Nat) (t : Nat) (j : Nat) (p : Nat) (ht : t < 3) (hj : j < 12) (hp : p < 32) (ok : okM (φ 0)) (hk : φ 6 0 ≤ 6) (hh : hind (φ 0) t j p = 0) : MI l yX3_pin wsX3_pin rmX3_pin D c sz (wM c a φ δ) [.ref (a 0), .int (nI (t)), .int (nI (j)), .int (nI (p))] (nI (pins (fu (φ 0) (12 * t + j) (φ 0 (12 * t + j) ||| 2 ^ p)) t)) (wM c a (pu (pu (pu (pu φ 2 (svf (φ 2) (φ 0) (φ 6 0))) 6 (kc (svn (φ 6 0)))) 5 (kc (0))) 0 (fu (φ 0) (12 * t + j) (φ 0 (12 * t + j) ||| 2 ^ p))) δ) := by
  refine MI.of (cc := cX3_pin) (maxL := 4) (ty := .int) (by decide) rfl (Nat.le_of_ble_eq_true rfl) rfl ?_
  intro P e s m below meth cd A Q ls hsz S hK hW hA hl hret
  have hl : lv_has ls 4 [(0, .ref (a 0)), (1, .int (nI (t))), (2, .int (nI (j))), (3, .int (nI (p)))] := hl
  have hinX3 : ∀ w ∈ u_ws RX3 TX3 13, w ∈ wsX3_pin := by decide +kernel
  have hin : (inb (nI (t)) (nI 0) (nI 2) && inb (nI (j)) (nI 0) (nI 11) && inb (nI (p)) (nI 0) (nI 31)) = true := by rw [inb_t (Nat.zero_le t) (by omega) (by decide), inb_t (Nat.zero_le j) (by omega) (by decide), inb_t (Nat.zero_le p) (by omega) (by decide)]; rfl
  refine lv_aload_n S.1 S.2.1 dX3_pin_0 rfl (lv_at hl 0 rfl) ?_
  refine lv_iload_n S.1 S.2.1 dX3_pin_1 rfl (lv_at hl 1 rfl) ?_
  refine lv_iload_n S.1 S.2.1 dX3_pin_2 rfl (lv_at hl 2 rfl) ?_
  refine lv_iload_n S.1 S.2.1 dX3_pin_3 rfl (lv_at hl 3 rfl) ?_
  refine k_SI (rest := [.ref (a 0)]) S hK hl.1 hW (KFr.nil hW hA) (mX3_areThere l D c  _ (nI (t)) (nI (j)) (nI (p))) gX3_pin_X3_areThere rfl pdX3_areThere ⟨⟨rfl, rfl⟩, Nat.le_of_ble_eq_true rfl, Nat.le_of_ble_eq_true rfl⟩ rfl (Nat.le_of_ble_eq_true rfl) dX3_pin_4 ⟨Nat.le_of_ble_eq_true rfl, Nat.le_of_ble_eq_true rfl⟩ (fun H locs hW => ?_)
  have hW : kw D A s.heap (wM c a φ δ) H locs := hW
  refine kb_ne S (tgt := 14) dX3_pin_7 (by decide) (fun c_7 => ?_) (fun c_7 => ?_)
  · refine lv_aload_n S.1 S.2.1 dX3_pin_14 rfl (lv_at hl 0 rfl) ?_
    refine lv_iload_n S.1 S.2.1 dX3_pin_15 rfl (lv_at hl 1 rfl) ?_
    refine lv_iload_n S.1 S.2.1 dX3_pin_16 rfl (lv_at hl 2 rfl) ?_
    refine lv_iload_n S.1 S.2.1 dX3_pin_17 rfl (lv_at hl 3 rfl) ?_
    refine k_VI (rest := [.ref (a 0)]) S hK hl.1 hW (KFr.all hW hA) (mX3_hindrance l D c a φ δ _ t j p (by first | omega | exact ht | assumption) (by first | omega | exact hj | assumption) (by first | omega | exact hp | assumption) (by first | omega | exact ok | assumption)) gX3_pin_X3_hindrance rfl pdX3_hindrance ⟨⟨rfl, rfl⟩, Nat.le_of_ble_eq_true rfl, Nat.le_of_ble_eq_true rfl⟩ 0 3 rfl rfl rfl rfl (Nat.le_of_ble_eq_true rfl) dX3_pin_18 ⟨Nat.le_of_ble_eq_true rfl, Nat.le_of_ble_eq_true rfl⟩ (fun H locs hW => ?_)
    have hW : kw D A s.heap (wM c a φ δ) H locs := hW
    refine kz_le S (tgt := 28) dX3_pin_21 (by decide) (by omega) (fun c_21 => ?_) (fun c_21 => ?_)
    · refine lv_iconst (v := nI (0)) S.1 S.2.1 dX3_pin_28 rfl ?_
      refine k_VI (rest := []) S hK hl.1 hW (KFr.all hW hA) (mX3_holds l D c a φ δ _ 0 (by first | omega | exact hw | assumption)) gX3_pin_X3_holds rfl pdX3_holds ⟨⟨rfl, rfl⟩, Nat.le_of_ble_eq_true rfl, Nat.le_of_ble_eq_true rfl⟩ 0 3 rfl rfl rfl rfl (Nat.le_of_ble_eq_true rfl) dX3_pin_29 ⟨Nat.le_of_ble_eq_true rfl, Nat.le_of_ble_eq_true rfl⟩ (fun H locs hW => ?_)
      have hW : kw D A s.heap (wM c a (pu φ 5 (kc (0))) δ) H locs := hW
      refine kb_ne S (tgt := 37) dX3_pin_32 (by decide) (fun c_32 => ?_) (fun c_32 => ?_)
      · refine lv_aload_n S.1 S.2.1 dX3_pin_37 rfl (lv_at hl 0 rfl) ?_
        refine k_VV (rest := []) S hK hl.1 hW (KFr.all hW hA) (mX3_save l D c a ((pu φ 5 (kc (0)))) δ _ (by first | omega | exact hk | assumption)) gX3_pin_X3_save rfl pdX3_save ⟨⟨rfl, rfl⟩, Nat.le_of_ble_eq_true rfl, Nat.le_of_ble_eq_true rfl⟩ 0 3 rfl rfl rfl rfl (Nat.le_of_ble_eq_true rfl) dX3_pin_38 ⟨Nat.le_of_ble_eq_true rfl, Nat.le_of_ble_eq_true rfl⟩ (fun H locs hW => ?_)
        have hW : kw D A s.heap (wM c a (pu (pu (pu φ 5 (kc (0))) 2 (svf ((φ 2)) ((φ 0)) (((φ 6) 0)))) 6 (kc (svn (((φ 6) 0))))) δ) H locs := hW
        refine lv_aload_n S.1 S.2.1 dX3_pin_41 rfl (lv_at hl 0 rfl) ?_
        refine kx_get S hK hW hinX3 0 3 rfl rfl 1 (by decide) (List.mem_of_getElem? (i := 1) rfl) (v := .ref (a 1)) rfl dX3_pin_42 ?_
        refine lv_iload_n S.1 S.2.1 dX3_pin_45 rfl (lv_at hl 1 rfl) ?_
        refine lv_iload_n S.1 S.2.1 dX3_pin_46 rfl (lv_at hl 2 rfl) ?_
        refine k_SI (rest := [.ref (a 1)]) S hK hl.1 hW (KFr.nil hW hA) (mX3_ofPins l D c  _ t j) gX3_pin_X3_ofPins rfl pdX3_ofPins ⟨⟨rfl, rfl⟩, Nat.le_of_ble_eq_true rfl, Nat.le_of_ble_eq_true rfl⟩ rfl (Nat.le_of_ble_eq_true rfl) dX3_pin_47 ⟨Nat.le_of_ble_eq_true rfl, Nat.le_of_ble_eq_true rfl⟩ (fun H locs hW => ?_)
        have hW : kw D A s.heap (wM c a (pu (pu (pu φ 5 (kc (0))) 2 (svf ((φ 2)) ((φ 0)) (((φ 6) 0)))) 6 (kc (svn (((φ 6) 0))))) δ) H locs := hW
        refine lv_dup2_11 S.1 S.2.1 dX3_pin_50 rfl rfl ?_
        refine kn_ald S hK hW 1 (f := φ 0) rfl (by omega) (by decide) dX3_pin_51 ?_
        refine lv_iconst (v := nI (1)) S.1 S.2.1 dX3_pin_52 rfl ?_
        refine lv_iload_n S.1 S.2.1 dX3_pin_53 rfl (lv_at hl 3 rfl) ?_
        refine kn_shl1 S dX3_pin_54 (by omega) ?_
        refine kn_ior S dX3_pin_55 ?_
        refine kn_ast S hK hW 1 (f := φ 0) rfl (by omega) (by decide) dX3_pin_56 (fun H locs hW => ?_)
        have hW : kw D A s.heap (wM c a (pu (pu (pu (pu φ 5 (kc (0))) 2 (svf ((φ 2)) ((φ 0)) (((φ 6) 0)))) 6 (kc (svn (((φ 6) 0))))) 0 (fu (φ 0) (12 * t + j) ((φ 0 (12 * t + j)) ||| (2 ^ p)))) δ) H locs := hW
        refine lv_aload_n S.1 S.2.1 dX3_pin_57 rfl (lv_at hl 0 rfl) ?_
        refine lv_iload_n S.1 S.2.1 dX3_pin_58 rfl (lv_at hl 1 rfl) ?_
        refine k_VI (rest := []) S hK hl.1 hW (KFr.all hW hA) (mX3_pinsOf l D c a ((pu (pu (pu (pu φ 5 (kc (0))) 2 (svf ((φ 2)) ((φ 0)) (((φ 6) 0)))) 6 (kc (svn (((φ 6) 0))))) 0 (fu (φ 0) (12 * t + j) ((φ 0 (12 * t + j)) ||| (2 ^ p))))) δ _ t (by first | omega | exact ht | assumption)) gX3_pin_X3_pinsOf rfl pdX3_pinsOf ⟨⟨rfl, rfl⟩, Nat.le_of_ble_eq_true rfl, Nat.le_of_ble_eq_true rfl⟩ 0 3 rfl rfl rfl rfl (Nat.le_of_ble_eq_true rfl) dX3_pin_59 ⟨Nat.le_of_ble_eq_true rfl, Nat.le_of_ble_eq_true rfl⟩ (fun H locs hW => ?_)
        have hW : kw D A s.heap (wM c a (pu (pu (pu (pu φ 5 (kc (0))) 2 (svf ((φ 2)) ((φ 0)) (((φ 6) 0)))) 6 (kc (svn (((φ 6) 0))))) 0 (fu (φ 0) (12 * t + j) ((φ 0 (12 * t + j)) ||| (2 ^ p)))) δ) H locs := hW
        refine k_top (y := nI (pins ((fu (φ 0) (12 * t + j) ((φ 0 (12 * t + j)) ||| (2 ^ p)))) t)) rfl ?_
        exact hret 62 _ _ _ _ _ dX3_pin_62 hW (rfl) (rfl)
      · exact absurd c_32 (by decide)
    · exact absurd c_21 (by omega)
  · exact absurd (hin.symm.trans c_7) (by decide)
abbrev rmX3_whyNot : Room := { frames := 4, cells := 0, slots := 0, locals := 92 }
theorem pdX3_whyNot : kPd yX3_whyNot 3 := by decide +kernel
set_option maxHeartbeats 4000000 in
set_option maxRecDepth 100000 in
theorem mX3_whyNot_x1 (l : Launch) (D : va_G) (c : Nat → ClassId) (a : Nat → Nat) (φ : Nat → Nat → Nat) (δ : Int64) (sz : Nat) (t : Int32) (j : Int32) (p : Int32) (hin : (inb t (nI 0) (nI 2) && inb j (nI 0) (nI 11) && inb p (nI 0) (nI 31)) = false) : MI l yX3_whyNot wsX3_whyNot rmX3_whyNot D c sz (wM c a φ δ) [.ref (a 0), .int (t), .int (j), .int (p)] (nI (0)) (wM c a (pu φ 5 (kc (1))) δ) := by
  refine MI.of (cc := cX3_whyNot) (maxL := 4) (ty := .int) (by decide) rfl (Nat.le_of_ble_eq_true rfl) rfl ?_
  intro P e s m below meth cd A Q ls hsz S hK hW hA hl hret
  have hl : lv_has ls 4 [(0, .ref (a 0)), (1, .int (t)), (2, .int (j)), (3, .int (p))] := hl
  refine lv_aload_n S.1 S.2.1 dX3_whyNot_0 rfl (lv_at hl 0 rfl) ?_
  refine lv_iload_n S.1 S.2.1 dX3_whyNot_1 rfl (lv_at hl 1 rfl) ?_
  refine lv_iload_n S.1 S.2.1 dX3_whyNot_2 rfl (lv_at hl 2 rfl) ?_
  refine lv_iload_n S.1 S.2.1 dX3_whyNot_3 rfl (lv_at hl 3 rfl) ?_
  refine k_SI (rest := [.ref (a 0)]) S hK hl.1 hW (KFr.nil hW hA) (mX3_areThere l D c  _ t j p) gX3_whyNot_X3_areThere rfl pdX3_areThere ⟨⟨rfl, rfl⟩, Nat.le_of_ble_eq_true rfl, Nat.le_of_ble_eq_true rfl⟩ rfl (Nat.le_of_ble_eq_true rfl) dX3_whyNot_4 ⟨Nat.le_of_ble_eq_true rfl, Nat.le_of_ble_eq_true rfl⟩ (fun H locs hW => ?_)
  have hW : kw D A s.heap (wM c a φ δ) H locs := hW
  refine kb_eq S (tgt := 14) dX3_whyNot_7 (by decide) (fun c_7 => ?_) (fun c_7 => ?_)
  · refine lv_iconst (v := nI (1)) S.1 S.2.1 dX3_whyNot_14 rfl ?_
    refine k_VI (rest := []) S hK hl.1 hW (KFr.all hW hA) (mX3_holds l D c a φ δ _ 1 (by first | omega | exact hw | assumption)) gX3_whyNot_X3_holds rfl pdX3_holds ⟨⟨rfl, rfl⟩, Nat.le_of_ble_eq_true rfl, Nat.le_of_ble_eq_true rfl⟩ 0 3 rfl rfl rfl rfl (Nat.le_of_ble_eq_true rfl) dX3_whyNot_15 ⟨Nat.le_of_ble_eq_true rfl, Nat.le_of_ble_eq_true rfl⟩ (fun H locs hW => ?_)
    have hW : kw D A s.heap (wM c a (pu φ 5 (kc (1))) δ) H locs := hW
    refine kb_eq S (tgt := 31) dX3_whyNot_18 (by decide) (fun c_18 => ?_) (fun c_18 => ?_)
    · refine lv_iconst (v := nI (0)) S.1 S.2.1 dX3_whyNot_31 rfl ?_
      exact hret 32 _ _ _ _ _ dX3_whyNot_32 hW (rfl) (rfl)
    · exact absurd c_18 (by decide)
  · exact absurd (hin.symm.trans c_7) (by decide)
set_option maxHeartbeats 4000000 in
set_option maxRecDepth 100000 in
theorem mX3_whyNot_k (l : Launch) (D : va_G) (c : Nat → ClassId) (a : Nat → Nat) (φ : Nat → Nat → Nat) (δ : Int64) (sz : Nat) (t : Nat) (j : Nat) (p : Nat) (ht : t < 3) (hj : j < 12) (hp : p < 32) (ok : okM (φ 0)) : MI l yX3_whyNot wsX3_whyNot rmX3_whyNot D c sz (wM c a φ δ) [.ref (a 0), .int (nI (t)), .int (nI (j)), .int (nI (p))] (nI (hind (φ 0) t j p)) (wM c a (pu φ 5 (kc (0))) δ) := by
  refine MI.of (cc := cX3_whyNot) (maxL := 4) (ty := .int) (by decide) rfl (Nat.le_of_ble_eq_true rfl) rfl ?_
  intro P e s m below meth cd A Q ls hsz S hK hW hA hl hret
  have hl : lv_has ls 4 [(0, .ref (a 0)), (1, .int (nI (t))), (2, .int (nI (j))), (3, .int (nI (p)))] := hl
  have hin : (inb (nI (t)) (nI 0) (nI 2) && inb (nI (j)) (nI 0) (nI 11) && inb (nI (p)) (nI 0) (nI 31)) = true := by rw [inb_t (Nat.zero_le t) (by omega) (by decide), inb_t (Nat.zero_le j) (by omega) (by decide), inb_t (Nat.zero_le p) (by omega) (by decide)]; rfl
  refine lv_aload_n S.1 S.2.1 dX3_whyNot_0 rfl (lv_at hl 0 rfl) ?_
  refine lv_iload_n S.1 S.2.1 dX3_whyNot_1 rfl (lv_at hl 1 rfl) ?_
  refine lv_iload_n S.1 S.2.1 dX3_whyNot_2 rfl (lv_at hl 2 rfl) ?_
  refine lv_iload_n S.1 S.2.1 dX3_whyNot_3 rfl (lv_at hl 3 rfl) ?_
  refine k_SI (rest := [.ref (a 0)]) S hK hl.1 hW (KFr.nil hW hA) (mX3_areThere l D c  _ (nI (t)) (nI (j)) (nI (p))) gX3_whyNot_X3_areThere rfl pdX3_areThere ⟨⟨rfl, rfl⟩, Nat.le_of_ble_eq_true rfl, Nat.le_of_ble_eq_true rfl⟩ rfl (Nat.le_of_ble_eq_true rfl) dX3_whyNot_4 ⟨Nat.le_of_ble_eq_true rfl, Nat.le_of_ble_eq_true rfl⟩ (fun H locs hW => ?_)
  have hW : kw D A s.heap (wM c a φ δ) H locs := hW
  refine kb_eq S (tgt := 14) dX3_whyNot_7 (by decide) (fun c_7 => ?_) (fun c_7 => ?_)
  · exact absurd (hin.symm.trans c_7) (by decide)
  · refine lv_iconst (v := nI (0)) S.1 S.2.1 dX3_whyNot_10 rfl ?_
    refine lv_goto (tgt := 15) S.1 S.2.1 dX3_whyNot_11 (by decide) ?_
    refine k_VI (rest := []) S hK hl.1 hW (KFr.all hW hA) (mX3_holds l D c a φ δ _ 0 (by first | omega | exact hw | assumption)) gX3_whyNot_X3_holds rfl pdX3_holds ⟨⟨rfl, rfl⟩, Nat.le_of_ble_eq_true rfl, Nat.le_of_ble_eq_true rfl⟩ 0 3 rfl rfl rfl rfl (Nat.le_of_ble_eq_true rfl) dX3_whyNot_15 ⟨Nat.le_of_ble_eq_true rfl, Nat.le_of_ble_eq_true rfl⟩ (fun H locs hW => ?_)
    have hW : kw D A s.heap (wM c a (pu φ 5 (kc (0))) δ) H locs := hW
    refine kb_eq S (tgt := 31) dX3_whyNot_18 (by decide) (fun c_18 => ?_) (fun c_18 => ?_)
    · exact absurd c_18 (by decide)
    · refine lv_aload_n S.1 S.2.1 dX3_whyNot_21 rfl (lv_at hl 0 rfl) ?_
      refine lv_iload_n S.1 S.2.1 dX3_whyNot_22 rfl (lv_at hl 1 rfl) ?_
      refine lv_iload_n S.1 S.2.1 dX3_whyNot_23 rfl (lv_at hl 2 rfl) ?_
      refine lv_iload_n S.1 S.2.1 dX3_whyNot_24 rfl (lv_at hl 3 rfl) ?_
      refine k_VI (rest := []) S hK hl.1 hW (KFr.all hW hA) (mX3_hindrance l D c a ((pu φ 5 (kc (0)))) δ _ t j p (by first | omega | exact ht | assumption) (by first | omega | exact hj | assumption) (by first | omega | exact hp | assumption) (by first | omega | exact ok | assumption)) gX3_whyNot_X3_hindrance rfl pdX3_hindrance ⟨⟨rfl, rfl⟩, Nat.le_of_ble_eq_true rfl, Nat.le_of_ble_eq_true rfl⟩ 0 3 rfl rfl rfl rfl (Nat.le_of_ble_eq_true rfl) dX3_whyNot_25 ⟨Nat.le_of_ble_eq_true rfl, Nat.le_of_ble_eq_true rfl⟩ (fun H locs hW => ?_)
      have hW : kw D A s.heap (wM c a (pu φ 5 (kc (0))) δ) H locs := hW
      refine k_top (y := nI (hind ((φ 0)) t j p)) rfl ?_
      refine lv_goto (tgt := 32) S.1 S.2.1 dX3_whyNot_28 (by decide) ?_
      exact hret 32 _ _ _ _ _ dX3_whyNot_32 hW (rfl) (rfl)
abbrev rmX3_next : Room := { frames := 3, cells := 0, slots := 0, locals := 64 }
theorem pdX3_next : kPd yX3_next 3 := by decide +kernel
set_option maxHeartbeats 4000000 in
set_option maxRecDepth 100000 in
theorem mX3_next_x1 (l : Launch) (D : va_G) (c : Nat → ClassId) (a : Nat → Nat) (φ : Nat → Nat → Nat) (δ : Int64) (sz : Nat) (t : Int32) (j : Int32) (p : Int32) (hin : (inb t (nI 0) (nI 2) && inb j (nI 0) (nI 11) && inb p (nI 0) (nI 31)) = false) : MI l yX3_next wsX3_next rmX3_next D c sz (wM c a φ δ) [.ref (a 0), .int (t), .int (j), .int (p)] (nI (0)) (wM c a (pu φ 5 (kc (1))) δ) := by
  refine MI.of (cc := cX3_next) (maxL := 6) (ty := .int) (by decide) rfl (Nat.le_of_ble_eq_true rfl) rfl ?_
  intro P e s m below meth cd A Q ls hsz S hK hW hA hl hret
  have hl : lv_has ls 6 [(0, .ref (a 0)), (1, .int (t)), (2, .int (j)), (3, .int (p))] := hl
  refine lv_aload_n S.1 S.2.1 dX3_next_0 rfl (lv_at hl 0 rfl) ?_
  refine lv_iload_n S.1 S.2.1 dX3_next_1 rfl (lv_at hl 1 rfl) ?_
  refine lv_iload_n S.1 S.2.1 dX3_next_2 rfl (lv_at hl 2 rfl) ?_
  refine lv_iload_n S.1 S.2.1 dX3_next_3 rfl (lv_at hl 3 rfl) ?_
  refine k_SI (rest := [.ref (a 0)]) S hK hl.1 hW (KFr.nil hW hA) (mX3_areThere l D c  _ t j p) gX3_next_X3_areThere rfl pdX3_areThere ⟨⟨rfl, rfl⟩, Nat.le_of_ble_eq_true rfl, Nat.le_of_ble_eq_true rfl⟩ rfl (Nat.le_of_ble_eq_true rfl) dX3_next_4 ⟨Nat.le_of_ble_eq_true rfl, Nat.le_of_ble_eq_true rfl⟩ (fun H locs hW => ?_)
  have hW : kw D A s.heap (wM c a φ δ) H locs := hW
  refine kb_eq S (tgt := 14) dX3_next_7 (by decide) (fun c_7 => ?_) (fun c_7 => ?_)
  · refine lv_iconst (v := nI (1)) S.1 S.2.1 dX3_next_14 rfl ?_
    refine k_VI (rest := []) S hK hl.1 hW (KFr.all hW hA) (mX3_holds l D c a φ δ _ 1 (by first | omega | exact hw | assumption)) gX3_next_X3_holds rfl pdX3_holds ⟨⟨rfl, rfl⟩, Nat.le_of_ble_eq_true rfl, Nat.le_of_ble_eq_true rfl⟩ 0 3 rfl rfl rfl rfl (Nat.le_of_ble_eq_true rfl) dX3_next_15 ⟨Nat.le_of_ble_eq_true rfl, Nat.le_of_ble_eq_true rfl⟩ (fun H locs hW => ?_)
    have hW : kw D A s.heap (wM c a (pu φ 5 (kc (1))) δ) H locs := hW
    refine kb_ne S (tgt := 23) dX3_next_18 (by decide) (fun c_18 => ?_) (fun c_18 => ?_)
    · exact absurd c_18 (by decide)
    · refine lv_iconst (v := nI (0)) S.1 S.2.1 dX3_next_21 rfl ?_
      exact hret 22 _ _ _ _ _ dX3_next_22 hW (rfl) (rfl)
  · exact absurd (hin.symm.trans c_7) (by decide)
set_option maxHeartbeats 4000000 in
set_option maxRecDepth 100000 in
theorem mX3_next_k (l : Launch) (D : va_G) (c : Nat → ClassId) (a : Nat → Nat) (φ : Nat → Nat → Nat) (δ : Int64) (sz : Nat) (t : Nat) (j : Nat) (p : Nat) (ht : t < 3) (hj : j < 12) (hp : p < 32) (ok : okM (φ 0)) : MI l yX3_next wsX3_next rmX3_next D c sz (wM c a φ δ) [.ref (a 0), .int (nI (t)), .int (nI (j)), .int (nI (p))] (nI (nxd (φ 0) t j p 32)) (wM c a (pu φ 5 (kc (0))) δ) := by
  refine MI.of (cc := cX3_next) (maxL := 6) (ty := .int) (by decide) rfl (Nat.le_of_ble_eq_true rfl) rfl ?_
  intro P e s m below meth cd A Q ls hsz S hK hW hA hl hret
  have hl : lv_has ls 6 [(0, .ref (a 0)), (1, .int (nI (t))), (2, .int (nI (j))), (3, .int (nI (p)))] := hl
  have hin : (inb (nI (t)) (nI 0) (nI 2) && inb (nI (j)) (nI 0) (nI 11) && inb (nI (p)) (nI 0) (nI 31)) = true := by rw [inb_t (Nat.zero_le t) (by omega) (by decide), inb_t (Nat.zero_le j) (by omega) (by decide), inb_t (Nat.zero_le p) (by omega) (by decide)]; rfl
  refine lv_aload_n S.1 S.2.1 dX3_next_0 rfl (lv_at hl 0 rfl) ?_
  refine lv_iload_n S.1 S.2.1 dX3_next_1 rfl (lv_at hl 1 rfl) ?_
  refine lv_iload_n S.1 S.2.1 dX3_next_2 rfl (lv_at hl 2 rfl) ?_
  refine lv_iload_n S.1 S.2.1 dX3_next_3 rfl (lv_at hl 3 rfl) ?_
  refine k_SI (rest := [.ref (a 0)]) S hK hl.1 hW (KFr.nil hW hA) (mX3_areThere l D c  _ (nI (t)) (nI (j)) (nI (p))) gX3_next_X3_areThere rfl pdX3_areThere ⟨⟨rfl, rfl⟩, Nat.le_of_ble_eq_true rfl, Nat.le_of_ble_eq_true rfl⟩ rfl (Nat.le_of_ble_eq_true rfl) dX3_next_4 ⟨Nat.le_of_ble_eq_true rfl, Nat.le_of_ble_eq_true rfl⟩ (fun H locs hW => ?_)
  have hW : kw D A s.heap (wM c a φ δ) H locs := hW
  refine kb_eq S (tgt := 14) dX3_next_7 (by decide) (fun c_7 => ?_) (fun c_7 => ?_)
  · exact absurd (hin.symm.trans c_7) (by decide)
  · refine lv_iconst (v := nI (0)) S.1 S.2.1 dX3_next_10 rfl ?_
    refine lv_goto (tgt := 15) S.1 S.2.1 dX3_next_11 (by decide) ?_
    refine k_VI (rest := []) S hK hl.1 hW (KFr.all hW hA) (mX3_holds l D c a φ δ _ 0 (by first | omega | exact hw | assumption)) gX3_next_X3_holds rfl pdX3_holds ⟨⟨rfl, rfl⟩, Nat.le_of_ble_eq_true rfl, Nat.le_of_ble_eq_true rfl⟩ 0 3 rfl rfl rfl rfl (Nat.le_of_ble_eq_true rfl) dX3_next_15 ⟨Nat.le_of_ble_eq_true rfl, Nat.le_of_ble_eq_true rfl⟩ (fun H locs hW => ?_)
    have hW : kw D A s.heap (wM c a (pu φ 5 (kc (0))) δ) H locs := hW
    refine kb_ne S (tgt := 23) dX3_next_18 (by decide) (fun c_18 => ?_) (fun c_18 => ?_)
    · refine lv_iconst (v := nI (4294967295)) S.1 S.2.1 dX3_next_23 rfl ?_
      refine lv_istore (lv' := [(4, .int (nI (4294967295))), (0, .ref (a 0)), (1, .int (nI (t))), (2, .int (nI (j))), (3, .int (nI (p)))]) S.1 S.2.1 dX3_next_24 hl (by decide) rfl (fun ls hl => ?_)
      refine lv_bipush (v := nI (31)) S.1 S.2.1 dX3_next_26 rfl ?_
      refine lv_istore (lv' := [(5, .int (nI (31))), (4, .int (nI (4294967295))), (0, .ref (a 0)), (1, .int (nI (t))), (2, .int (nI (j))), (3, .int (nI (p)))]) S.1 S.2.1 dX3_next_28 hl (by decide) rfl (fun ls hl => ?_)
      refine k_loop (fun (zz : Nat) H lo ls => match zz with | k => kw D A s.heap (wM c a (pu φ 5 (kc (0))) δ) H lo ∧ lv_has ls 6 [(0, .ref (a 0)), (1, .int (nI (t))), (2, .int (nI (j))), (3, .int (nI (p))), (4, .int (nI (nxd (φ 0) t j p k))), (5, .int (nI 31 - nI k))] ∧ k ≤ 32) (fun (zz : Nat) => match zz with | k => 32 - k) [] ?_ 0 _ _ _ ⟨hW, lv_sub hl [2, 3, 4, 5, 1, 0] rfl, (by decide)⟩
      rintro k ih30 H locs ls ⟨hW, hl, hi30_0⟩
      refine lv_iload S.1 S.2.1 dX3_next_30 (lv_at hl 5 rfl) ?_
      refine lv_if_lt (tgt := 71) S.1 S.2.1 dX3_next_32 (by decide) (fun c_32 => ?_) (fun c_32 => ?_)
      · have e9 : k = 32 := by
          rcases Nat.lt_or_ge k 32 with q | q
          · exact absurd c_32 (by rw [pk_sub (by omega)]; exact nI_pos (by omega))
          · omega
        subst e9
        refine lv_iload S.1 S.2.1 dX3_next_71 (lv_at hl 4 rfl) ?_
        exact hret 73 _ _ _ _ _ dX3_next_73 hW (rfl) (rfl)
      · have hk : k < 32 := by
          rcases Nat.lt_or_ge k 32 with q | q
          · exact q
          · have e : k = 32 := by omega
            subst e
            exact absurd (show nI 31 - nI 32 < 0 by decide) c_32
        refine lv_aload_n S.1 S.2.1 dX3_next_35 rfl (lv_at hl 0 rfl) ?_
        refine lv_iload_n S.1 S.2.1 dX3_next_36 rfl (lv_at hl 1 rfl) ?_
        refine lv_iload_n S.1 S.2.1 dX3_next_37 rfl (lv_at hl 2 rfl) ?_
        refine lv_iload_n S.1 S.2.1 dX3_next_38 rfl (lv_at hl 3 rfl) ?_
        refine lv_iload S.1 S.2.1 dX3_next_39 (lv_at hl 5 rfl) ?_
        refine k_top (y := nI (31 - k)) (pk_sub (by omega)) ?_
        refine kn_iadd S dX3_next_41 ?_
        refine lv_bipush (v := nI (32)) S.1 S.2.1 dX3_next_42 rfl ?_
        refine kn_irem S dX3_next_44 (by omega) (by omega) (by omega) ?_
        refine k_VI (rest := []) S hK hl.1 hW (KFr.all hW hA) (mX3_isPin l D c a ((pu φ 5 (kc (0)))) δ _ t j ((p + (31 - k)) % 32) (by first | omega | exact ht | assumption) (by first | omega | exact hj | assumption) (by first | omega | exact hp | assumption)) gX3_next_X3_isPin rfl pdX3_isPin ⟨⟨rfl, rfl⟩, Nat.le_of_ble_eq_true rfl, Nat.le_of_ble_eq_true rfl⟩ 0 3 rfl rfl rfl rfl (Nat.le_of_ble_eq_true rfl) dX3_next_45 ⟨Nat.le_of_ble_eq_true rfl, Nat.le_of_ble_eq_true rfl⟩ (fun H locs hW => ?_)
        have hW : kw D A s.heap (wM c a (pu φ 5 (kc (0))) δ) H locs := hW
        refine k_top (y := nI ((pb ((φ 0)) t j ((p + (31 - k)) % 32)).toNat)) rfl ?_
        refine kb_eq S (tgt := 61) dX3_next_48 (by decide) (fun c_48 => ?_) (fun c_48 => ?_)
        · refine lv_iload S.1 S.2.1 dX3_next_61 (lv_at hl 4 rfl) ?_
          refine k_top (y := nI (nxd (φ 0) t j p (k + 1))) (congrArg nI (by show _ = if _ then _ else _; rw [if_neg (by rw [c_48]; decide)])) ?_
          refine lv_istore (lv' := [(4, .int (nI (nxd (φ 0) t j p (k + 1)))), (0, .ref (a 0)), (1, .int (nI (t))), (2, .int (nI (j))), (3, .int (nI (p))), (5, .int (nI 31 - nI k))]) S.1 S.2.1 dX3_next_63 hl (by decide) rfl (fun ls hl => ?_)
          refine lv_iinc (v := nI 31 - nI (k + 1)) (lv' := [(5, .int (nI 31 - nI (k + 1))), (4, .int (nI (nxd (φ 0) t j p (k + 1)))), (0, .ref (a 0)), (1, .int (nI (t))), (2, .int (nI (j))), (3, .int (nI (p)))]) S.1 S.2.1 dX3_next_65 hl (k := 5) rfl (kn_dn 31 k) (by decide) rfl (fun ls hl => ?_)
          refine lv_goto (tgt := 30) S.1 S.2.1 dX3_next_68 (by decide) ?_
          exact ih30 (k + 1) _ _ _ ⟨hW, lv_sub hl [2, 3, 4, 5, 1, 0] rfl, (by omega)⟩ (by show 32 - (k + 1) < 32 - k; omega)
        · refine lv_iload_n S.1 S.2.1 dX3_next_51 rfl (lv_at hl 3 rfl) ?_
          refine lv_iload S.1 S.2.1 dX3_next_52 (lv_at hl 5 rfl) ?_
          refine k_top (y := nI (31 - k)) (pk_sub (by omega)) ?_
          refine kn_iadd S dX3_next_54 ?_
          refine lv_bipush (v := nI (32)) S.1 S.2.1 dX3_next_55 rfl ?_
          refine kn_irem S dX3_next_57 (by omega) (by omega) (by omega) ?_
          refine k_top (y := nI (nxd (φ 0) t j p (k + 1))) (congrArg nI (by show _ = if _ then _ else _; rw [if_pos c_48])) ?_
          refine lv_goto (tgt := 63) S.1 S.2.1 dX3_next_58 (by decide) ?_
          refine lv_istore (lv' := [(4, .int (nI (nxd (φ 0) t j p (k + 1)))), (0, .ref (a 0)), (1, .int (nI (t))), (2, .int (nI (j))), (3, .int (nI (p))), (5, .int (nI 31 - nI k))]) S.1 S.2.1 dX3_next_63 hl (by decide) rfl (fun ls hl => ?_)
          refine lv_iinc (v := nI 31 - nI (k + 1)) (lv' := [(5, .int (nI 31 - nI (k + 1))), (4, .int (nI (nxd (φ 0) t j p (k + 1)))), (0, .ref (a 0)), (1, .int (nI (t))), (2, .int (nI (j))), (3, .int (nI (p)))]) S.1 S.2.1 dX3_next_65 hl (k := 5) rfl (kn_dn 31 k) (by decide) rfl (fun ls hl => ?_)
          refine lv_goto (tgt := 30) S.1 S.2.1 dX3_next_68 (by decide) ?_
          exact ih30 (k + 1) _ _ _ ⟨hW, lv_sub hl [2, 3, 4, 5, 1, 0] rfl, (by omega)⟩ (by show 32 - (k + 1) < 32 - k; omega)
    · exact absurd c_18 (by decide)
