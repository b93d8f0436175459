abbrev rmX3_holds : Room := { frames := 0, cells := 0, slots := 0, locals := 0 }
theorem pdX3_holds : kPd yX3_holds 1 := by decide +kernel
set_option maxHeartbeats 4000000 in
set_option maxRecDepth 100000 in
theorem mX3_holds (l : Launch) (D : va_G) (c : Nat → ClassId) (a : Nat → Nat) (φ : Nat → Nat → Nat) (δ : Int64) (sz : Nat) (w : Nat) (hw : w < 4) : MI l yX3_holds wsX3_holds rmX3_holds D c sz (wM c a φ δ) [.ref (a 0), .int (nI (w))] (nI (decide (w = 0)).toNat) (wM c a (pu φ 5 (kc (w))) δ) := by
  refine MI.of (cc := cX3_holds) (maxL := 2) (ty := .boolean) (by decide) rfl (Nat.le_of_ble_eq_true rfl) (k_narB _) ?_
  intro P e s m below meth cd A Q ls hsz S hK hW hA hl hret
  have hl : lv_has ls 2 [(0, .ref (a 0)), (1, .int (nI (w)))] := hl
  have hinX3 : ∀ w ∈ u_ws RX3 TX3 13, w ∈ wsX3_holds := by decide +kernel
  refine lv_aload_n S.1 S.2.1 dX3_holds_0 rfl (lv_at hl 0 rfl) ?_
  refine lv_iload_n S.1 S.2.1 dX3_holds_1 rfl (lv_at hl 1 rfl) ?_
  refine kx_put S hK hW hinX3 tyX3_ok nmX3 0 3 rfl rfl 0 (by decide) (List.mem_of_getElem? (i := 1) rfl) rfl (v := .int (nI (w))) rfl rfl (Nat.le_of_ble_eq_true rfl) dX3_holds_2 (fun H locs hW => ?_)
  have hW : kw D A s.heap (wM c a (pu φ 5 (kc (w))) δ) H locs := hW
  refine lv_iload_n S.1 S.2.1 dX3_holds_5 rfl (lv_at hl 1 rfl) ?_
  refine kz_ne S (tgt := 13) dX3_holds_6 (by decide) (by omega) (fun c_6 => ?_) (fun c_6 => ?_)
  · refine lv_iconst (v := nI (0)) S.1 S.2.1 dX3_holds_13 rfl ?_
    exact hret 14 _ _ _ _ _ dX3_holds_14 hW (by simp [*]) (rfl)
  · refine lv_iconst (v := nI (1)) S.1 S.2.1 dX3_holds_9 rfl ?_
    refine lv_goto (tgt := 14) S.1 S.2.1 dX3_holds_10 (by decide) ?_
    exact hret 14 _ _ _ _ _ dX3_holds_14 hW (by simp [*]) (rfl)
abbrev rmX3_putAside : Room := { frames := 0, cells := 0, slots := 0, locals := 0 }
theorem pdX3_putAside : kPd yX3_putAside 0 := by decide +kernel
set_option maxHeartbeats 4000000 in
set_option maxRecDepth 100000 in
theorem mX3_putAside (l : Launch) (D : va_G) (c : Nat → ClassId) (a : Nat → Nat) (φ : Nat → Nat → Nat) (δ : Int64) (sz : Nat) : MV l yX3_putAside wsX3_putAside rmX3_putAside D c sz (wM c a φ δ) [.ref (a 0)]  (wM c a (pu φ 1 (φ 0)) δ) := by
  refine MV.of (cc := cX3_putAside) (maxL := 2) (by decide) rfl (Nat.le_of_ble_eq_true rfl) ?_
  intro P e s m below meth cd A Q ls hsz S hK hW hA hl hret
  have hl : lv_has ls 2 [(0, .ref (a 0))] := hl
  have hinX3 : ∀ w ∈ u_ws RX3 TX3 13, w ∈ wsX3_putAside := by decide +kernel
  refine lv_iconst (v := nI (0)) S.1 S.2.1 dX3_putAside_0 rfl ?_
  refine lv_istore_n (lv' := [(1, .int (nI (0))), (0, .ref (a 0))]) S.1 S.2.1 dX3_putAside_1 rfl hl (by decide) rfl (fun ls hl => ?_)
  refine k_loop (fun (zz : Nat) H lo ls => match zz with | k => kw D A s.heap (wM c a (pu φ 1 (cpo (φ 0) (φ 1) 0 k)) δ) H lo ∧ lv_has ls 2 [(0, .ref (a 0)), (1, .int (nI (k)))] ∧ k ≤ 147) (fun (zz : Nat) => match zz with | k => 147 - k) [] ?_ 0 _ _ _ ⟨hW, lv_sub hl [1, 0] rfl, (by decide)⟩
  rintro k ih2 H locs ls ⟨hW, hl, hi2_0⟩
  refine lv_iload_n S.1 S.2.1 dX3_putAside_2 rfl (lv_at hl 1 rfl) ?_
  refine lv_sipush (v := nI (147)) S.1 S.2.1 dX3_putAside_3 rfl ?_
  refine kn_ge S (tgt := 27) dX3_putAside_6 (by decide) (by omega) (by omega) (fun c_6 => ?_) (fun c_6 => ?_)
  · have e9 : k = 147 := by omega
    subst e9
    have hW := kw_arr hW 2 rfl (φ 0) (fun i hi => by show (cpo (φ 0) (φ 1) 0 147) i = (φ 0) i; rw [cpo_eq, if_pos ⟨Nat.zero_le _, by omega⟩]; rfl)
    have hW : kw D A s.heap (wM c a (pu φ 1 (φ 0)) δ) H locs := hW
    exact hret 27 _ _ _ _ dX3_putAside_27 hW (rfl)
  · refine lv_aload_n S.1 S.2.1 dX3_putAside_9 rfl (lv_at hl 0 rfl) ?_
    refine kx_get S hK hW hinX3 0 3 rfl rfl 2 (by decide) (List.mem_of_getElem? (i := 1) rfl) (v := .ref (a 2)) rfl dX3_putAside_10 ?_
    refine lv_iload_n S.1 S.2.1 dX3_putAside_13 rfl (lv_at hl 1 rfl) ?_
    refine lv_aload_n S.1 S.2.1 dX3_putAside_14 rfl (lv_at hl 0 rfl) ?_
    refine kx_get S hK hW hinX3 0 3 rfl rfl 1 (by decide) (List.mem_of_getElem? (i := 2) rfl) (v := .ref (a 1)) rfl dX3_putAside_15 ?_
    refine lv_iload_n S.1 S.2.1 dX3_putAside_18 rfl (lv_at hl 1 rfl) ?_
    refine kn_ald S hK hW 1 (f := φ 0) rfl (by omega) (by decide) dX3_putAside_19 ?_
    have e0 : cpo (φ 0) (φ 1) 0 (k + 1) = fu (cpo (φ 0) (φ 1) 0 k) k (φ 0 k) := by show fu _ (0 + k) _ = _; rw [Nat.zero_add]
    refine kn_ast S hK hW 2 (f := cpo (φ 0) (φ 1) 0 k) rfl (by omega) (by decide) dX3_putAside_20 (fun H locs hW => ?_)
    have hW : kw D A s.heap (wM c a (pu φ 1 (fu (cpo (φ 0) (φ 1) 0 k) k (φ 0 (k)))) δ) H locs := hW
    rw [← e0] at hW
    have hW : kw D A s.heap (wM c a (pu φ 1 (cpo (φ 0) (φ 1) 0 (k + 1))) δ) H locs := hW
    refine lv_iinc (v := nI (k + 1)) (lv' := [(1, .int (nI (k + 1))), (0, .ref (a 0))]) S.1 S.2.1 dX3_putAside_21 hl (k := 1) rfl (nI_add _ _) (by decide) rfl (fun ls hl => ?_)
    refine lv_goto (tgt := 2) S.1 S.2.1 dX3_putAside_24 (by decide) ?_
    exact ih2 (k + 1) _ _ _ ⟨hW, lv_sub hl [1, 0] rfl, (by omega)⟩ (by show 147 - (k + 1) < 147 - k; omega)
abbrev rmX3_putBack : Room := { frames := 0, cells := 0, slots := 0, locals := 0 }
theorem pdX3_putBack : kPd yX3_putBack 0 := by decide +kernel
set_option maxHeartbeats 4000000 in
set_option maxRecDepth 100000 in
theorem mX3_putBack (l : Launch) (D : va_G) (c : Nat → ClassId) (a : Nat → Nat) (φ : Nat → Nat → Nat) (δ : Int64) (sz : Nat) : MV l yX3_putBack wsX3_putBack rmX3_putBack D c sz (wM c a φ δ) [.ref (a 0)]  (wM c a (pu φ 0 (φ 1)) δ) := by
  refine MV.of (cc := cX3_putBack) (maxL := 2) (by decide) rfl (Nat.le_of_ble_eq_true rfl) ?_
  intro P e s m below meth cd A Q ls hsz S hK hW hA hl hret
  have hl : lv_has ls 2 [(0, .ref (a 0))] := hl
  have hinX3 : ∀ w ∈ u_ws RX3 TX3 13, w ∈ wsX3_putBack := by decide +kernel
  refine lv_iconst (v := nI (0)) S.1 S.2.1 dX3_putBack_0 rfl ?_
  refine lv_istore_n (lv' := [(1, .int (nI (0))), (0, .ref (a 0))]) S.1 S.2.1 dX3_putBack_1 rfl hl (by decide) rfl (fun ls hl => ?_)
  refine k_loop (fun (zz : Nat) H lo ls => match zz with | k => kw D A s.heap (wM c a (pu φ 0 (cpo (φ 1) (φ 0) 0 k)) δ) H lo ∧ lv_has ls 2 [(0, .ref (a 0)), (1, .int (nI (k)))] ∧ k ≤ 147) (fun (zz : Nat) => match zz with | k => 147 - k) [] ?_ 0 _ _ _ ⟨hW, lv_sub hl [1, 0] rfl, (by decide)⟩
  rintro k ih2 H locs ls ⟨hW, hl, hi2_0⟩
  refine lv_iload_n S.1 S.2.1 dX3_putBack_2 rfl (lv_at hl 1 rfl) ?_
  refine lv_sipush (v := nI (147)) S.1 S.2.1 dX3_putBack_3 rfl ?_
  refine kn_ge S (tgt := 27) dX3_putBack_6 (by decide) (by omega) (by omega) (fun c_6 => ?_) (fun c_6 => ?_)
  · have e9 : k = 147 := by omega
    subst e9
    have hW := kw_arr hW 1 rfl (φ 1) (fun i hi => by show (cpo (φ 1) (φ 0) 0 147) i = (φ 1) i; rw [cpo_eq, if_pos ⟨Nat.zero_le _, by omega⟩]; rfl)
    have hW : kw D A s.heap (wM c a (pu φ 0 (φ 1)) δ) H locs := hW
    exact hret 27 _ _ _ _ dX3_putBack_27 hW (rfl)
  · refine lv_aload_n S.1 S.2.1 dX3_putBack_9 rfl (lv_at hl 0 rfl) ?_
    refine kx_get S hK hW hinX3 0 3 rfl rfl 1 (by decide) (List.mem_of_getElem? (i := 1) rfl) (v := .ref (a 1)) rfl dX3_putBack_10 ?_
    refine lv_iload_n S.1 S.2.1 dX3_putBack_13 rfl (lv_at hl 1 rfl) ?_
    refine lv_aload_n S.1 S.2.1 dX3_putBack_14 rfl (lv_at hl 0 rfl) ?_
    refine kx_get S hK hW hinX3 0 3 rfl rfl 2 (by decide) (List.mem_of_getElem? (i := 2) rfl) (v := .ref (a 2)) rfl dX3_putBack_15 ?_
    refine lv_iload_n S.1 S.2.1 dX3_putBack_18 rfl (lv_at hl 1 rfl) ?_
    refine kn_ald S hK hW 2 (f := φ 1) rfl (by omega) (by decide) dX3_putBack_19 ?_
    have e0 : cpo (φ 1) (φ 0) 0 (k + 1) = fu (cpo (φ 1) (φ 0) 0 k) k (φ 1 k) := by show fu _ (0 + k) _ = _; rw [Nat.zero_add]
    refine kn_ast S hK hW 1 (f := cpo (φ 1) (φ 0) 0 k) rfl (by omega) (by decide) dX3_putBack_20 (fun H locs hW => ?_)
    have hW : kw D A s.heap (wM c a (pu φ 0 (fu (cpo (φ 1) (φ 0) 0 k) k (φ 1 (k)))) δ) H locs := hW
    rw [← e0] at hW
    have hW : kw D A s.heap (wM c a (pu φ 0 (cpo (φ 1) (φ 0) 0 (k + 1))) δ) H locs := hW
    refine lv_iinc (v := nI (k + 1)) (lv' := [(1, .int (nI (k + 1))), (0, .ref (a 0))]) S.1 S.2.1 dX3_putBack_21 hl (k := 1) rfl (nI_add _ _) (by decide) rfl (fun ls hl => ?_)
    refine lv_goto (tgt := 2) S.1 S.2.1 dX3_putBack_24 (by decide) ?_
    exact ih2 (k + 1) _ _ _ ⟨hW, lv_sub hl [1, 0] rfl, (by omega)⟩ (by show 147 - (k + 1) < 147 - k; omega)
abbrev rmX3_save : Room := { frames := 0, cells := 0, slots := 0, locals := 0 }
theorem pdX3_save : kPd yX3_save 0 := by decide +kernel
set_option maxHeartbeats 4000000 in
set_option maxRecDepth 100000 in
theorem mX3_save (l : Launch) (D : va_G) (c : Nat → ClassId) (a : Nat → Nat) (φ : Nat → Nat → Nat) (δ : Int64) (sz : Nat) (hk : φ 6 0 ≤ 6) : MV l yX3_save wsX3_save rmX3_save D c sz (wM c a φ δ) [.ref (a 0)]  (wM c a (pu (pu φ 2 (svf (φ 2) (φ 0) (φ 6 0))) 6 (kc (svn (φ 6 0)))) δ) := by
  refine MV.of (cc := cX3_save) (maxL := 2) (by decide) rfl (Nat.le_of_ble_eq_true rfl) ?_
  intro P e s m below meth cd A Q ls hsz S hK hW hA hl hret
  have hl : lv_has ls 2 [(0, .ref (a 0))] := hl
  have hinX3 : ∀ w ∈ u_ws RX3 TX3 13, w ∈ wsX3_save := by decide +kernel
  refine lv_aload_n S.1 S.2.1 dX3_save_0 rfl (lv_at hl 0 rfl) ?_
  refine kx_get S hK hW hinX3 0 3 rfl rfl 4 (by decide) (List.mem_of_getElem? (i := 1) rfl) (v := .int (nI (φ 6 0))) rfl dX3_save_1 ?_
  refine lv_bipush (v := nI (6)) S.1 S.2.1 dX3_save_4 rfl ?_
  refine kn_ne S (tgt := 50) dX3_save_6 (by decide) (by omega) (by omega) (fun c_6 => ?_) (fun c_6 => ?_)
  · refine lv_iconst (v := nI (0)) S.1 S.2.1 dX3_save_50 rfl ?_
    refine lv_istore_n (lv' := [(1, .int (nI (0))), (0, .ref (a 0))]) S.1 S.2.1 dX3_save_51 rfl hl (by decide) rfl (fun ls hl => ?_)
    refine k_loop (fun (zz : Nat) H lo ls => match zz with | k => kw D A s.heap (wM c a (pu φ 2 (cpo (φ 0) (φ 2) (147 * (φ 6 0)) k)) δ) H lo ∧ lv_has ls 2 [(0, .ref (a 0)), (1, .int (nI (k)))] ∧ k ≤ 147) (fun (zz : Nat) => match zz with | k => 147 - k) [] ?_ 0 _ _ _ ⟨hW, lv_sub hl [1, 0] rfl, (by decide)⟩
    rintro k ih52 H locs ls ⟨hW, hl, hi52_0⟩
    refine lv_iload_n S.1 S.2.1 dX3_save_52 rfl (lv_at hl 1 rfl) ?_
    refine lv_sipush (v := nI (147)) S.1 S.2.1 dX3_save_53 rfl ?_
    refine kn_ge S (tgt := 86) dX3_save_56 (by decide) (by omega) (by omega) (fun c_56 => ?_) (fun c_56 => ?_)
    · have e9 : k = 147 := by omega
      subst e9
      refine lv_aload_n S.1 S.2.1 dX3_save_86 rfl (lv_at hl 0 rfl) ?_
      refine lv_dup S.1 S.2.1 dX3_save_87 rfl ?_
      refine kx_get S hK hW hinX3 0 3 rfl rfl 4 (by decide) (List.mem_of_getElem? (i := 1) rfl) (v := .int (nI (φ 6 0))) rfl dX3_save_88 ?_
      refine lv_iconst (v := nI (1)) S.1 S.2.1 dX3_save_91 rfl ?_
      refine kn_iadd S dX3_save_92 ?_
      refine k_top (y := nI (svn (φ 6 0))) (congrArg nI (by unfold svn; first | (rw [if_neg c_6]; done) | (rw [if_pos c_6]; omega))) ?_
      refine kx_put S hK hW hinX3 tyX3_ok nmX3 0 3 rfl rfl 4 (by decide) (List.mem_of_getElem? (i := 1) rfl) rfl (v := .int (nI (svn (φ 6 0)))) rfl rfl (Nat.le_of_ble_eq_true rfl) dX3_save_93 (fun H locs hW => ?_)
      have hW : kw D A s.heap (wM c a (pu (pu φ 2 (cpo (φ 0) (φ 2) (147 * (φ 6 0)) 147)) 6 (kc (svn (φ 6 0)))) δ) H locs := hW
      have hW := kw_arr hW 3 rfl (svf (φ 2) (φ 0) (φ 6 0)) (fun i hi => by show (cpo (φ 0) (φ 2) (147 * (φ 6 0)) 147) i = (svf (φ 2) (φ 0) (φ 6 0)) i; first | exact sv_more c_6 i | exact sv_full c_6 i)
      have hW : kw D A s.heap (wM c a (pu (pu φ 6 (kc (svn (φ 6 0)))) 2 (svf (φ 2) (φ 0) (φ 6 0))) δ) H locs := hW
      exact hret 96 _ _ _ _ dX3_save_96 hW (rfl)
    · refine lv_aload_n S.1 S.2.1 dX3_save_59 rfl (lv_at hl 0 rfl) ?_
      refine kx_get S hK hW hinX3 0 3 rfl rfl 3 (by decide) (List.mem_of_getElem? (i := 2) rfl) (v := .ref (a 3)) rfl dX3_save_60 ?_
      refine lv_sipush (v := nI (147)) S.1 S.2.1 dX3_save_63 rfl ?_
      refine lv_aload_n S.1 S.2.1 dX3_save_66 rfl (lv_at hl 0 rfl) ?_
      refine kx_get S hK hW hinX3 0 3 rfl rfl 4 (by decide) (List.mem_of_getElem? (i := 1) rfl) (v := .int (nI (φ 6 0))) rfl dX3_save_67 ?_
      refine kn_imul S dX3_save_70 ?_
      refine lv_iload_n S.1 S.2.1 dX3_save_71 rfl (lv_at hl 1 rfl) ?_
      refine kn_iadd S dX3_save_72 ?_
      refine lv_aload_n S.1 S.2.1 dX3_save_73 rfl (lv_at hl 0 rfl) ?_
      refine kx_get S hK hW hinX3 0 3 rfl rfl 1 (by decide) (List.mem_of_getElem? (i := 3) rfl) (v := .ref (a 1)) rfl dX3_save_74 ?_
      refine lv_iload_n S.1 S.2.1 dX3_save_77 rfl (lv_at hl 1 rfl) ?_
      refine kn_ald S hK hW 1 (f := φ 0) rfl (by omega) (by decide) dX3_save_78 ?_
      refine kn_ast S hK hW 3 (f := cpo (φ 0) (φ 2) (147 * (φ 6 0)) k) rfl (by omega) (by decide) dX3_save_79 (fun H locs hW => ?_)
      have hW : kw D A s.heap (wM c a (pu φ 2 (fu (cpo (φ 0) (φ 2) (147 * (φ 6 0)) k) (147 * (φ 6 0) + k) (φ 0 (k)))) δ) H locs := hW
      refine lv_iinc (v := nI (k + 1)) (lv' := [(1, .int (nI (k + 1))), (0, .ref (a 0))]) S.1 S.2.1 dX3_save_80 hl (k := 1) rfl (nI_add _ _) (by decide) rfl (fun ls hl => ?_)
      refine lv_goto (tgt := 52) S.1 S.2.1 dX3_save_83 (by decide) ?_
      exact ih52 (k + 1) _ _ _ ⟨hW, lv_sub hl [1, 0] rfl, (by omega)⟩ (by show 147 - (k + 1) < 147 - k; omega)
  · refine lv_iconst (v := nI (0)) S.1 S.2.1 dX3_save_9 rfl ?_
    refine lv_istore_n (lv' := [(1, .int (nI (0))), (0, .ref (a 0))]) S.1 S.2.1 dX3_save_10 rfl hl (by decide) rfl (fun ls hl => ?_)
    refine k_loop (fun (zz : Nat) H lo ls => match zz with | k => kw D A s.heap (wM c a (pu φ 2 (shl (φ 2) k)) δ) H lo ∧ lv_has ls 2 [(0, .ref (a 0)), (1, .int (nI (k)))] ∧ k ≤ 735) (fun (zz : Nat) => match zz with | k => 735 - k) [] ?_ 0 _ _ _ ⟨hW, lv_sub hl [1, 0] rfl, (by decide)⟩
    rintro k ih11 H locs ls ⟨hW, hl, hi11_0⟩
    refine lv_iload_n S.1 S.2.1 dX3_save_11 rfl (lv_at hl 1 rfl) ?_
    refine lv_sipush (v := nI (735)) S.1 S.2.1 dX3_save_12 rfl ?_
    refine kn_ge S (tgt := 40) dX3_save_15 (by decide) (by omega) (by omega) (fun c_15 => ?_) (fun c_15 => ?_)
    · have e9 : k = 735 := by omega
      subst e9
      refine lv_aload_n S.1 S.2.1 dX3_save_40 rfl (lv_at hl 0 rfl) ?_
      refine lv_dup S.1 S.2.1 dX3_save_41 rfl ?_
      refine kx_get S hK hW hinX3 0 3 rfl rfl 4 (by decide) (List.mem_of_getElem? (i := 1) rfl) (v := .int (nI (φ 6 0))) rfl dX3_save_42 ?_
      refine lv_iconst (v := nI (1)) S.1 S.2.1 dX3_save_45 rfl ?_
      refine kn_isub S dX3_save_46 (by omega) ?_
      refine kx_put S hK hW hinX3 tyX3_ok nmX3 0 3 rfl rfl 4 (by decide) (List.mem_of_getElem? (i := 1) rfl) rfl (v := .int (nI ((φ 6 0) - 1))) rfl rfl (Nat.le_of_ble_eq_true rfl) dX3_save_47 (fun H locs hW => ?_)
      have hW : kw D A s.heap (wM c a (pu (pu φ 2 (shl (φ 2) 735)) 6 (kc ((φ 6 0) - 1))) δ) H locs := hW
      refine lv_iconst (v := nI (0)) S.1 S.2.1 dX3_save_50 rfl ?_
      refine lv_istore_n (lv' := [(1, .int (nI (0))), (0, .ref (a 0))]) S.1 S.2.1 dX3_save_51 rfl hl (by decide) rfl (fun ls hl => ?_)
      refine k_loop (fun (zz : Nat) H lo ls => match zz with | k => kw D A s.heap (wM c a (pu (pu φ 6 (kc ((φ 6 0) - 1))) 2 (cpo (φ 0) (shl (φ 2) 735) (147 * ((φ 6 0) - 1)) k)) δ) H lo ∧ lv_has ls 2 [(0, .ref (a 0)), (1, .int (nI (k)))] ∧ k ≤ 147) (fun (zz : Nat) => match zz with | k => 147 - k) [] ?_ 0 _ _ _ ⟨hW, lv_sub hl [1, 0] rfl, (by decide)⟩
      rintro k ih52 H locs ls ⟨hW, hl, hi52_0⟩
      refine lv_iload_n S.1 S.2.1 dX3_save_52 rfl (lv_at hl 1 rfl) ?_
      refine lv_sipush (v := nI (147)) S.1 S.2.1 dX3_save_53 rfl ?_
      refine kn_ge S (tgt := 86) dX3_save_56 (by decide) (by omega) (by omega) (fun c_56 => ?_) (fun c_56 => ?_)
      · have e9 : k = 147 := by omega
        subst e9
        refine lv_aload_n S.1 S.2.1 dX3_save_86 rfl (lv_at hl 0 rfl) ?_
        refine lv_dup S.1 S.2.1 dX3_save_87 rfl ?_
        refine kx_get S hK hW hinX3 0 3 rfl rfl 4 (by decide) (List.mem_of_getElem? (i := 1) rfl) (v := .int (nI ((φ 6 0) - 1))) rfl dX3_save_88 ?_
        refine lv_iconst (v := nI (1)) S.1 S.2.1 dX3_save_91 rfl ?_
        refine kn_iadd S dX3_save_92 ?_
        refine k_top (y := nI (svn (φ 6 0))) (congrArg nI (by unfold svn; first | (rw [if_neg c_6]; done) | (rw [if_pos c_6]; omega))) ?_
        refine kx_put S hK hW hinX3 tyX3_ok nmX3 0 3 rfl rfl 4 (by decide) (List.mem_of_getElem? (i := 1) rfl) rfl (v := .int (nI (svn (φ 6 0)))) rfl rfl (Nat.le_of_ble_eq_true rfl) dX3_save_93 (fun H locs hW => ?_)
        have hW : kw D A s.heap (wM c a (pu (pu φ 2 (cpo (φ 0) (shl (φ 2) 735) (147 * ((φ 6 0) - 1)) 147)) 6 (kc (svn (φ 6 0)))) δ) H locs := hW
        have hW := kw_arr hW 3 rfl (svf (φ 2) (φ 0) (φ 6 0)) (fun i hi => by show (cpo (φ 0) (shl (φ 2) 735) (147 * ((φ 6 0) - 1)) 147) i = (svf (φ 2) (φ 0) (φ 6 0)) i; first | exact sv_more c_6 i | exact sv_full c_6 i)
        have hW : kw D A s.heap (wM c a (pu (pu φ 6 (kc (svn (φ 6 0)))) 2 (svf (φ 2) (φ 0) (φ 6 0))) δ) H locs := hW
        exact hret 96 _ _ _ _ dX3_save_96 hW (rfl)
      · refine lv_aload_n S.1 S.2.1 dX3_save_59 rfl (lv_at hl 0 rfl) ?_
        refine kx_get S hK hW hinX3 0 3 rfl rfl 3 (by decide) (List.mem_of_getElem? (i := 2) rfl) (v := .ref (a 3)) rfl dX3_save_60 ?_
        refine lv_sipush (v := nI (147)) S.1 S.2.1 dX3_save_63 rfl ?_
        refine lv_aload_n S.1 S.2.1 dX3_save_66 rfl (lv_at hl 0 rfl) ?_
        refine kx_get S hK hW hinX3 0 3 rfl rfl 4 (by decide) (List.mem_of_getElem? (i := 1) rfl) (v := .int (nI ((φ 6 0) - 1))) rfl dX3_save_67 ?_
        refine kn_imul S dX3_save_70 ?_
        refine lv_iload_n S.1 S.2.1 dX3_save_71 rfl (lv_at hl 1 rfl) ?_
        refine kn_iadd S dX3_save_72 ?_
        refine lv_aload_n S.1 S.2.1 dX3_save_73 rfl (lv_at hl 0 rfl) ?_
        refine kx_get S hK hW hinX3 0 3 rfl rfl 1 (by decide) (List.mem_of_getElem? (i := 3) rfl) (v := .ref (a 1)) rfl dX3_save_74 ?_
        refine lv_iload_n S.1 S.2.1 dX3_save_77 rfl (lv_at hl 1 rfl) ?_
        refine kn_ald S hK hW 1 (f := φ 0) rfl (by omega) (by decide) dX3_save_78 ?_
        refine kn_ast S hK hW 3 (f := cpo (φ 0) (shl (φ 2) 735) (147 * ((φ 6 0) - 1)) k) rfl (by omega) (by decide) dX3_save_79 (fun H locs hW => ?_)
        have hW : kw D A s.heap (wM c a (pu (pu φ 6 (kc ((φ 6 0) - 1))) 2 (fu (cpo (φ 0) (shl (φ 2) 735) (147 * ((φ 6 0) - 1)) k) (147 * ((φ 6 0) - 1) + k) (φ 0 (k)))) δ) H locs := hW
        refine lv_iinc (v := nI (k + 1)) (lv' := [(1, .int (nI (k + 1))), (0, .ref (a 0))]) S.1 S.2.1 dX3_save_80 hl (k := 1) rfl (nI_add _ _) (by decide) rfl (fun ls hl => ?_)
        refine lv_goto (tgt := 52) S.1 S.2.1 dX3_save_83 (by decide) ?_
        exact ih52 (k + 1) _ _ _ ⟨hW, lv_sub hl [1, 0] rfl, (by omega)⟩ (by show 147 - (k + 1) < 147 - k; omega)
    · refine lv_aload_n S.1 S.2.1 dX3_save_18 rfl (lv_at hl 0 rfl) ?_
      refine kx_get S hK hW hinX3 0 3 rfl rfl 3 (by decide) (List.mem_of_getElem? (i := 2) rfl) (v := .ref (a 3)) rfl dX3_save_19 ?_
      refine lv_iload_n S.1 S.2.1 dX3_save_22 rfl (lv_at hl 1 rfl) ?_
      refine lv_aload_n S.1 S.2.1 dX3_save_23 rfl (lv_at hl 0 rfl) ?_
      refine kx_get S hK hW hinX3 0 3 rfl rfl 3 (by decide) (List.mem_of_getElem? (i := 2) rfl) (v := .ref (a 3)) rfl dX3_save_24 ?_
      refine lv_iload_n S.1 S.2.1 dX3_save_27 rfl (lv_at hl 1 rfl) ?_
      refine lv_sipush (v := nI (147)) S.1 S.2.1 dX3_save_28 rfl ?_
      refine kn_iadd S dX3_save_31 ?_
      refine kn_ald S hK hW 3 (f := shl (φ 2) k) rfl (by omega) (by decide) dX3_save_32 ?_
      refine kn_ast S hK hW 3 (f := shl (φ 2) k) rfl (by omega) (by decide) dX3_save_33 (fun H locs hW => ?_)
      have hW : kw D A s.heap (wM c a (pu φ 2 (fu (shl (φ 2) k) k ((shl (φ 2) k) (k + 147)))) δ) H locs := hW
      refine lv_iinc (v := nI (k + 1)) (lv' := [(1, .int (nI (k + 1))), (0, .ref (a 0))]) S.1 S.2.1 dX3_save_34 hl (k := 1) rfl (nI_add _ _) (by decide) rfl (fun ls hl => ?_)
      refine lv_goto (tgt := 11) S.1 S.2.1 dX3_save_37 (by decide) ?_
      exact ih11 (k + 1) _ _ _ ⟨hW, lv_sub hl [1, 0] rfl, (by omega)⟩ (by show 735 - (k + 1) < 735 - k; omega)
abbrev rmX3_sounds : Room := { frames := 1, cells := 0, slots := 0, locals := 21 }
theorem pdX3_sounds : kPd yX3_sounds 1 := by decide +kernel
set_option maxHeartbeats 4000000 in
set_option maxRecDepth 100000 in
theorem mX3_sounds (l : Launch) (D : va_G) (c : Nat → ClassId) (a : Nat → Nat) (φ : Nat → Nat → Nat) (δ : Int64) (sz : Nat) (j : Nat) (hj : j < 12) (ok : okM (φ 0)) : MV l yX3_sounds wsX3_sounds rmX3_sounds D c sz (wM c a φ δ) [.ref (a 0), .int (nI (j))]  (wM c a (pu φ 0 (sounds (φ 0) j)) δ) := by
  refine MV.of (cc := cX3_sounds) (maxL := 4) (by decide) rfl (Nat.le_of_ble_eq_true rfl) ?_
  intro P e s m below meth cd A Q ls hsz S hK hW hA hl hret
  have hl : lv_has ls 4 [(0, .ref (a 0)), (1, .int (nI (j)))] := hl
  have hinX3 : ∀ w ∈ u_ws RX3 TX3 13, w ∈ wsX3_sounds := by decide +kernel
  have h142 := ok.k142
  have hF : sdF (φ 0) j 132 = φ 0 132 := sdF_132 hj
  have h132 := ok.k132
  refine lv_aload_n S.1 S.2.1 dX3_sounds_0 rfl (lv_at hl 0 rfl) ?_
  refine kx_get S hK hW hinX3 0 3 rfl rfl 1 (by decide) (List.mem_of_getElem? (i := 1) rfl) (v := .ref (a 1)) rfl dX3_sounds_1 ?_
  refine lv_sipush (v := nI (142)) S.1 S.2.1 dX3_sounds_4 rfl ?_
  refine kn_ald S hK hW 1 (f := φ 0) rfl (by omega) (by decide) dX3_sounds_7 ?_
  refine lv_iconst (v := nI (2)) S.1 S.2.1 dX3_sounds_8 rfl ?_
  refine lv_iload_n S.1 S.2.1 dX3_sounds_9 rfl (lv_at hl 1 rfl) ?_
  refine kn_imul S dX3_sounds_10 ?_
  refine lv_isub S.1 S.2.1 dX3_sounds_11 ?_
  refine lv_istore_n (lv' := [(2, .int ((nI (φ 0 (142))) - (nI (2 * j)))), (0, .ref (a 0)), (1, .int (nI (j)))]) S.1 S.2.1 dX3_sounds_12 rfl hl (by decide) rfl (fun ls hl => ?_)
  refine lv_aload_n S.1 S.2.1 dX3_sounds_13 rfl (lv_at hl 1 rfl) ?_
  refine kx_get S hK hW hinX3 0 3 rfl rfl 1 (by decide) (List.mem_of_getElem? (i := 1) rfl) (v := .ref (a 1)) rfl dX3_sounds_14 ?_
  refine lv_iload_n S.1 S.2.1 dX3_sounds_17 rfl (lv_at hl 2 rfl) ?_
  refine lv_iconst (v := nI (0)) S.1 S.2.1 dX3_sounds_18 rfl ?_
  refine k_SI (rest := [.ref (a 1)]) S hK hl.1 hW (KFr.nil hW hA) (mX3_of l D c  _ j 0) gX3_sounds_X3_of rfl pdX3_of ⟨⟨rfl, rfl⟩, Nat.le_of_ble_eq_true rfl, Nat.le_of_ble_eq_true rfl⟩ rfl (Nat.le_of_ble_eq_true rfl) dX3_sounds_19 ⟨Nat.le_of_ble_eq_true rfl, Nat.le_of_ble_eq_true rfl⟩ (fun H locs hW => ?_)
  have hW : kw D A s.heap (wM c a φ δ) H locs := hW
  refine lv_iload_n S.1 S.2.1 dX3_sounds_22 rfl (lv_at hl 0 rfl) ?_
  refine lv_iconst (v := nI (4)) S.1 S.2.1 dX3_sounds_23 rfl ?_
  refine lv_icmp_ge (tgt := 31) S.1 S.2.1 dX3_sounds_24 (by decide) (fun c_24 => ?_) (fun c_24 => ?_)
  · refine lv_iload_n S.1 S.2.1 dX3_sounds_31 rfl (lv_at hl 0 rfl) ?_
    refine k_top (y := nI (max 4 (φ 0 142 - 2 * j))) (rg_hi h142 (by omega) c_24) ?_
    refine kn_ast S hK hW 1 (f := φ 0) rfl (by omega) (by decide) dX3_sounds_32 (fun H locs hW => ?_)
    have hW : kw D A s.heap (wM c a (pu φ 0 (fu (φ 0) (36 + 4 * j + 0) (max 4 (φ 0 142 - 2 * j)))) δ) H locs := hW
    have hW : kw D A s.heap (wM c a (pu φ 0 (sdA (φ 0) j)) δ) H locs := hW
    refine lv_aload_n S.1 S.2.1 dX3_sounds_33 rfl (lv_at hl 1 rfl) ?_
    refine kx_get S hK hW hinX3 0 3 rfl rfl 1 (by decide) (List.mem_of_getElem? (i := 1) rfl) (v := .ref (a 1)) rfl dX3_sounds_34 ?_
    refine lv_iload_n S.1 S.2.1 dX3_sounds_37 rfl (lv_at hl 2 rfl) ?_
    refine lv_iconst (v := nI (3)) S.1 S.2.1 dX3_sounds_38 rfl ?_
    refine k_SI (rest := [.ref (a 1)]) S hK hl.1 hW (KFr.nil hW hA) (mX3_of l D c  _ j 3) gX3_sounds_X3_of rfl pdX3_of ⟨⟨rfl, rfl⟩, Nat.le_of_ble_eq_true rfl, Nat.le_of_ble_eq_true rfl⟩ rfl (Nat.le_of_ble_eq_true rfl) dX3_sounds_39 ⟨Nat.le_of_ble_eq_true rfl, Nat.le_of_ble_eq_true rfl⟩ (fun H locs hW => ?_)
    have hW : kw D A s.heap (wM c a (pu φ 0 (sdA (φ 0) j)) δ) H locs := hW
    refine lv_dup2_11 S.1 S.2.1 dX3_sounds_42 rfl rfl ?_
    refine kn_ald S hK hW 1 (f := sdA (φ 0) j) rfl (by omega) (by decide) dX3_sounds_43 ?_
    refine lv_iconst (v := nI (1)) S.1 S.2.1 dX3_sounds_44 rfl ?_
    refine kn_iadd S dX3_sounds_45 ?_
    refine kn_ast S hK hW 1 (f := sdA (φ 0) j) rfl (by omega) (by decide) dX3_sounds_46 (fun H locs hW => ?_)
    have hW : kw D A s.heap (wM c a (pu φ 0 (fu (sdA (φ 0) j) (36 + 4 * j + 3) ((sdA (φ 0) j) (36 + 4 * j + 3) + 1))) δ) H locs := hW
    have hW : kw D A s.heap (wM c a (pu φ 0 (sdB (φ 0) j)) δ) H locs := hW
    refine lv_aload_n S.1 S.2.1 dX3_sounds_47 rfl (lv_at hl 1 rfl) ?_
    refine kx_get S hK hW hinX3 0 3 rfl rfl 1 (by decide) (List.mem_of_getElem? (i := 1) rfl) (v := .ref (a 1)) rfl dX3_sounds_48 ?_
    refine lv_sipush (v := nI (139)) S.1 S.2.1 dX3_sounds_51 rfl ?_
    refine lv_dup2_11 S.1 S.2.1 dX3_sounds_54 rfl rfl ?_
    refine kn_ald S hK hW 1 (f := sdB (φ 0) j) rfl (by omega) (by decide) dX3_sounds_55 ?_
    refine lv_iconst (v := nI (1)) S.1 S.2.1 dX3_sounds_56 rfl ?_
    refine kn_iadd S dX3_sounds_57 ?_
    refine kn_ast S hK hW 1 (f := sdB (φ 0) j) rfl (by omega) (by decide) dX3_sounds_58 (fun H locs hW => ?_)
    have hW : kw D A s.heap (wM c a (pu φ 0 (fu (sdB (φ 0) j) 139 ((sdB (φ 0) j) (139) + 1))) δ) H locs := hW
    have hW : kw D A s.heap (wM c a (pu φ 0 (sdC (φ 0) j)) δ) H locs := hW
    refine lv_bipush (v := nI (47)) S.1 S.2.1 dX3_sounds_59 rfl ?_
    refine lv_istore_n (lv' := [(3, .int (nI (47))), (2, .int ((nI (φ 0 (142))) - (nI (2 * j)))), (0, .ref (a 0)), (1, .int (nI (j)))]) S.1 S.2.1 dX3_sounds_61 rfl hl (by decide) rfl (fun ls hl => ?_)
    refine k_loop (fun (zz : Nat) H lo ls => match zz with | n => kw D A s.heap (wM c a (pu φ 0 (shr (sdC (φ 0) j) n)) δ) H lo ∧ lv_has ls 4 [(0, .ref (a 0)), (1, .int (nI (j))), (3, .int (nI (47 - n)))] ∧ n ≤ 46) (fun (zz : Nat) => match zz with | n => 46 - n) [] ?_ 0 _ _ _ ⟨hW, lv_sub hl [2, 3, 0] rfl, (by decide)⟩
    rintro n ih62 H locs ls ⟨hW, hl, hi62_0⟩
    refine lv_iload_n S.1 S.2.1 dX3_sounds_62 rfl (lv_at hl 2 rfl) ?_
    refine lv_iconst (v := nI (1)) S.1 S.2.1 dX3_sounds_63 rfl ?_
    refine kn_le S (tgt := 93) dX3_sounds_64 (by decide) (by omega) (by omega) (fun c_64 => ?_) (fun c_64 => ?_)
    · have e9 : n = 46 := by omega
      subst e9
      refine lv_aload_n S.1 S.2.1 dX3_sounds_93 rfl (lv_at hl 0 rfl) ?_
      refine kx_get S hK hW hinX3 0 3 rfl rfl 1 (by decide) (List.mem_of_getElem? (i := 1) rfl) (v := .ref (a 1)) rfl dX3_sounds_94 ?_
      refine lv_bipush (v := nI (84)) S.1 S.2.1 dX3_sounds_97 rfl ?_
      refine lv_iload_n S.1 S.2.1 dX3_sounds_99 rfl (lv_at hl 1 rfl) ?_
      refine kn_ast S hK hW 1 (f := shr (sdC (φ 0) j) 46) rfl (by omega) (by decide) dX3_sounds_100 (fun H locs hW => ?_)
      have hW : kw D A s.heap (wM c a (pu φ 0 (fu (shr (sdC (φ 0) j) 46) 84 j)) δ) H locs := hW
      have hW : kw D A s.heap (wM c a (pu φ 0 (sdE (φ 0) j)) δ) H locs := hW
      refine lv_aload_n S.1 S.2.1 dX3_sounds_101 rfl (lv_at hl 0 rfl) ?_
      refine kx_get S hK hW hinX3 0 3 rfl rfl 1 (by decide) (List.mem_of_getElem? (i := 1) rfl) (v := .ref (a 1)) rfl dX3_sounds_102 ?_
      refine lv_bipush (v := nI (85)) S.1 S.2.1 dX3_sounds_105 rfl ?_
      refine lv_aload_n S.1 S.2.1 dX3_sounds_107 rfl (lv_at hl 0 rfl) ?_
      refine kx_get S hK hW hinX3 0 3 rfl rfl 1 (by decide) (List.mem_of_getElem? (i := 1) rfl) (v := .ref (a 1)) rfl dX3_sounds_108 ?_
      refine lv_sipush (v := nI (137)) S.1 S.2.1 dX3_sounds_111 rfl ?_
      refine kn_ald S hK hW 1 (f := sdE (φ 0) j) rfl (by omega) (by decide) dX3_sounds_114 ?_
      refine kn_ast S hK hW 1 (f := sdE (φ 0) j) rfl (by omega) (by decide) dX3_sounds_115 (fun H locs hW => ?_)
      have hW : kw D A s.heap (wM c a (pu φ 0 (fu (sdE (φ 0) j) 85 ((sdE (φ 0) j) (137)))) δ) H locs := hW
      have hW : kw D A s.heap (wM c a (pu φ 0 (sdF (φ 0) j)) δ) H locs := hW
      refine lv_aload_n S.1 S.2.1 dX3_sounds_116 rfl (lv_at hl 0 rfl) ?_
      refine kx_get S hK hW hinX3 0 3 rfl rfl 1 (by decide) (List.mem_of_getElem? (i := 1) rfl) (v := .ref (a 1)) rfl dX3_sounds_117 ?_
      refine lv_sipush (v := nI (132)) S.1 S.2.1 dX3_sounds_120 rfl ?_
      refine lv_dup2_11 S.1 S.2.1 dX3_sounds_123 rfl rfl ?_
      refine kn_ald S hK hW 1 (f := sdF (φ 0) j) rfl (by omega) (by decide) dX3_sounds_124 ?_
      refine lv_aload_n S.1 S.2.1 dX3_sounds_125 rfl (lv_at hl 0 rfl) ?_
      refine kx_get S hK hW hinX3 0 3 rfl rfl 1 (by decide) (List.mem_of_getElem? (i := 1) rfl) (v := .ref (a 1)) rfl dX3_sounds_126 ?_
      refine lv_sipush (v := nI (132)) S.1 S.2.1 dX3_sounds_129 rfl ?_
      refine kn_ald S hK hW 1 (f := sdF (φ 0) j) rfl (by omega) (by decide) dX3_sounds_132 ?_
      refine lv_bipush (v := nI (24)) S.1 S.2.1 dX3_sounds_133 rfl ?_
      refine kn_ge S (tgt := 142) dX3_sounds_135 (by decide) (by omega) (by omega) (fun c_135 => ?_) (fun c_135 => ?_)
      · refine lv_iconst (v := nI (0)) S.1 S.2.1 dX3_sounds_142 rfl ?_
        refine kn_iadd S dX3_sounds_143 ?_
        refine k_top (y := nI (sdF (φ 0) j 132 + (if sdF (φ 0) j 132 < 24 then 1 else 0))) (congrArg nI (by first | rw [if_pos c_135] | rw [if_neg (by omega)])) ?_
        refine kn_ast S hK hW 1 (f := sdF (φ 0) j) rfl (by omega) (by decide) dX3_sounds_144 (fun H locs hW => ?_)
        have hW : kw D A s.heap (wM c a (pu φ 0 (fu (sdF (φ 0) j) 132 (sdF (φ 0) j 132 + (if sdF (φ 0) j 132 < 24 then 1 else 0)))) δ) H locs := hW
        exact hret 145 _ _ _ _ dX3_sounds_145 hW (rfl)
      · refine lv_iconst (v := nI (1)) S.1 S.2.1 dX3_sounds_138 rfl ?_
        refine lv_goto (tgt := 143) S.1 S.2.1 dX3_sounds_139 (by decide) ?_
        refine kn_iadd S dX3_sounds_143 ?_
        refine k_top (y := nI (sdF (φ 0) j 132 + (if sdF (φ 0) j 132 < 24 then 1 else 0))) (congrArg nI (by first | rw [if_pos c_135] | rw [if_neg (by omega)])) ?_
        refine kn_ast S hK hW 1 (f := sdF (φ 0) j) rfl (by omega) (by decide) dX3_sounds_144 (fun H locs hW => ?_)
        have hW : kw D A s.heap (wM c a (pu φ 0 (fu (sdF (φ 0) j) 132 (sdF (φ 0) j 132 + (if sdF (φ 0) j 132 < 24 then 1 else 0)))) δ) H locs := hW
        exact hret 145 _ _ _ _ dX3_sounds_145 hW (rfl)
    · refine lv_aload_n S.1 S.2.1 dX3_sounds_67 rfl (lv_at hl 0 rfl) ?_
      refine kx_get S hK hW hinX3 0 3 rfl rfl 1 (by decide) (List.mem_of_getElem? (i := 1) rfl) (v := .ref (a 1)) rfl dX3_sounds_68 ?_
      refine lv_bipush (v := nI (84)) S.1 S.2.1 dX3_sounds_71 rfl ?_
      refine lv_iload_n S.1 S.2.1 dX3_sounds_73 rfl (lv_at hl 2 rfl) ?_
      refine kn_iadd S dX3_sounds_74 ?_
      refine lv_aload_n S.1 S.2.1 dX3_sounds_75 rfl (lv_at hl 0 rfl) ?_
      refine kx_get S hK hW hinX3 0 3 rfl rfl 1 (by decide) (List.mem_of_getElem? (i := 1) rfl) (v := .ref (a 1)) rfl dX3_sounds_76 ?_
      refine lv_bipush (v := nI (84)) S.1 S.2.1 dX3_sounds_79 rfl ?_
      refine lv_iload_n S.1 S.2.1 dX3_sounds_81 rfl (lv_at hl 2 rfl) ?_
      refine kn_iadd S dX3_sounds_82 ?_
      refine lv_iconst (v := nI (2)) S.1 S.2.1 dX3_sounds_83 rfl ?_
      refine kn_isub S dX3_sounds_84 (by omega) ?_
      refine kn_ald S hK hW 1 (f := shr (sdC (φ 0) j) n) rfl (by omega) (by decide) dX3_sounds_85 ?_
      refine kn_ast S hK hW 1 (f := shr (sdC (φ 0) j) n) rfl (by omega) (by decide) dX3_sounds_86 (fun H locs hW => ?_)
      have hW : kw D A s.heap (wM c a (pu φ 0 (fu (shr (sdC (φ 0) j) n) (84 + (47 - n)) ((shr (sdC (φ 0) j) n) ((84 + (47 - n)) - 2)))) δ) H locs := hW
      refine lv_iinc (v := nI ((47 - n) - 1)) (lv' := [(3, .int (nI ((47 - n) - 1))), (0, .ref (a 0)), (1, .int (nI (j)))]) S.1 S.2.1 dX3_sounds_87 hl (k := 2) rfl (sb_m1 (show 0 < 47 - n by omega)) (by decide) rfl (fun ls hl => ?_)
      refine lv_goto (tgt := 62) S.1 S.2.1 dX3_sounds_90 (by decide) ?_
      exact ih62 (n + 1) _ _ _ ⟨hW, lv_sub hl [1, 2, 0] rfl, (by omega)⟩ (by show 46 - (n + 1) < 46 - n; omega)
  · refine lv_iconst (v := nI (4)) S.1 S.2.1 dX3_sounds_27 rfl ?_
    refine k_top (y := nI (max 4 (φ 0 142 - 2 * j))) (rg_lo h142 (by omega) c_24) ?_
    refine lv_goto (tgt := 32) S.1 S.2.1 dX3_sounds_28 (by decide) ?_
    refine kn_ast S hK hW 1 (f := φ 0) rfl (by omega) (by decide) dX3_sounds_32 (fun H locs hW => ?_)
    have hW : kw D A s.heap (wM c a (pu φ 0 (fu (φ 0) (36 + 4 * j + 0) (max 4 (φ 0 142 - 2 * j)))) δ) H locs := hW
    have hW : kw D A s.heap (wM c a (pu φ 0 (sdA (φ 0) j)) δ) H locs := hW
    refine lv_aload_n S.1 S.2.1 dX3_sounds_33 rfl (lv_at hl 1 rfl) ?_
    refine kx_get S hK hW hinX3 0 3 rfl rfl 1 (by decide) (List.mem_of_getElem? (i := 1) rfl) (v := .ref (a 1)) rfl dX3_sounds_34 ?_
    refine lv_iload_n S.1 S.2.1 dX3_sounds_37 rfl (lv_at hl 2 rfl) ?_
    refine lv_iconst (v := nI (3)) S.1 S.2.1 dX3_sounds_38 rfl ?_
    refine k_SI (rest := [.ref (a 1)]) S hK hl.1 hW (KFr.nil hW hA) (mX3_of l D c  _ j 3) gX3_sounds_X3_of rfl pdX3_of ⟨⟨rfl, rfl⟩, Nat.le_of_ble_eq_true rfl, Nat.le_of_ble_eq_true rfl⟩ rfl (Nat.le_of_ble_eq_true rfl) dX3_sounds_39 ⟨Nat.le_of_ble_eq_true rfl, Nat.le_of_ble_eq_true rfl⟩ (fun H locs hW => ?_)
    have hW : kw D A s.heap (wM c a (pu φ 0 (sdA (φ 0) j)) δ) H locs := hW
    refine lv_dup2_11 S.1 S.2.1 dX3_sounds_42 rfl rfl ?_
    refine kn_ald S hK hW 1 (f := sdA (φ 0) j) rfl (by omega) (by decide) dX3_sounds_43 ?_
    refine lv_iconst (v := nI (1)) S.1 S.2.1 dX3_sounds_44 rfl ?_
    refine kn_iadd S dX3_sounds_45 ?_
    refine kn_ast S hK hW 1 (f := sdA (φ 0) j) rfl (by omega) (by decide) dX3_sounds_46 (fun H locs hW => ?_)
    have hW : kw D A s.heap (wM c a (pu φ 0 (fu (sdA (φ 0) j) (36 + 4 * j + 3) ((sdA (φ 0) j) (36 + 4 * j + 3) + 1))) δ) H locs := hW
    have hW : kw D A s.heap (wM c a (pu φ 0 (sdB (φ 0) j)) δ) H locs := hW
    refine lv_aload_n S.1 S.2.1 dX3_sounds_47 rfl (lv_at hl 1 rfl) ?_
    refine kx_get S hK hW hinX3 0 3 rfl rfl 1 (by decide) (List.mem_of_getElem? (i := 1) rfl) (v := .ref (a 1)) rfl dX3_sounds_48 ?_
    refine lv_sipush (v := nI (139)) S.1 S.2.1 dX3_sounds_51 rfl ?_
    refine lv_dup2_11 S.1 S.2.1 dX3_sounds_54 rfl rfl ?_
    refine kn_ald S hK hW 1 (f := sdB (φ 0) j) rfl (by omega) (by decide) dX3_sounds_55 ?_
    refine lv_iconst (v := nI (1)) S.1 S.2.1 dX3_sounds_56 rfl ?_
    refine kn_iadd S dX3_sounds_57 ?_
    refine kn_ast S hK hW 1 (f := sdB (φ 0) j) rfl (by omega) (by decide) dX3_sounds_58 (fun H locs hW => ?_)
    have hW : kw D A s.heap (wM c a (pu φ 0 (fu (sdB (φ 0) j) 139 ((sdB (φ 0) j) (139) + 1))) δ) H locs := hW
    have hW : kw D A s.heap (wM c a (pu φ 0 (sdC (φ 0) j)) δ) H locs := hW
    refine lv_bipush (v := nI (47)) S.1 S.2.1 dX3_sounds_59 rfl ?_
    refine lv_istore_n (lv' := [(3, .int (nI (47))), (2, .int ((nI (φ 0 (142))) - (nI (2 * j)))), (0, .ref (a 0)), (1, .int (nI (j)))]) S.1 S.2.1 dX3_sounds_61 rfl hl (by decide) rfl (fun ls hl => ?_)
    refine k_loop (fun (zz : Nat) H lo ls => match zz with | n => kw D A s.heap (wM c a (pu φ 0 (shr (sdC (φ 0) j) n)) δ) H lo ∧ lv_has ls 4 [(0, .ref (a 0)), (1, .int (nI (j))), (3, .int (nI (47 - n)))] ∧ n ≤ 46) (fun (zz : Nat) => match zz with | n => 46 - n) [] ?_ 0 _ _ _ ⟨hW, lv_sub hl [2, 3, 0] rfl, (by decide)⟩
    rintro n ih62 H locs ls ⟨hW, hl, hi62_0⟩
    refine lv_iload_n S.1 S.2.1 dX3_sounds_62 rfl (lv_at hl 2 rfl) ?_
    refine lv_iconst (v := nI (1)) S.1 S.2.1 dX3_sounds_63 rfl ?_
    refine kn_le S (tgt := 93) dX3_sounds_64 (by decide) (by omega) (by omega) (fun c_64 => ?_) (fun c_64 => ?_)
    · have e9 : n = 46 := by omega
      subst e9
      refine lv_aload_n S.1 S.2.1 dX3_sounds_93 rfl (lv_at hl 0 rfl) ?_
      refine kx_get S hK hW hinX3 0 3 rfl rfl 1 (by decide) (List.mem_of_getElem? (i := 1) rfl) (v := .ref (a 1)) rfl dX3_sounds_94 ?_
      refine lv_bipush (v := nI (84)) S.1 S.2.1 dX3_sounds_97 rfl ?_
      refine lv_iload_n S.1 S.2.1 dX3_sounds_99 rfl (lv_at hl 1 rfl) ?_
      refine kn_ast S hK hW 1 (f := shr (sdC (φ 0) j) 46) rfl (by omega) (by decide) dX3_sounds_100 (fun H locs hW => ?_)
      have hW : kw D A s.heap (wM c a (pu φ 0 (fu (shr (sdC (φ 0) j) 46) 84 j)) δ) H locs := hW
      have hW : kw D A s.heap (wM c a (pu φ 0 (sdE (φ 0) j)) δ) H locs := hW
      refine lv_aload_n S.1 S.2.1 dX3_sounds_101 rfl (lv_at hl 0 rfl) ?_
      refine kx_get S hK hW hinX3 0 3 rfl rfl 1 (by decide) (List.mem_of_getElem? (i := 1) rfl) (v := .ref (a 1)) rfl dX3_sounds_102 ?_
      refine lv_bipush (v := nI (85)) S.1 S.2.1 dX3_sounds_105 rfl ?_
      refine lv_aload_n S.1 S.2.1 dX3_sounds_107 rfl (lv_at hl 0 rfl) ?_
      refine kx_get S hK hW hinX3 0 3 rfl rfl 1 (by decide) (List.mem_of_getElem? (i := 1) rfl) (v := .ref (a 1)) rfl dX3_sounds_108 ?_
      refine lv_sipush (v := nI (137)) S.1 S.2.1 dX3_sounds_111 rfl ?_
      refine kn_ald S hK hW 1 (f := sdE (φ 0) j) rfl (by omega) (by decide) dX3_sounds_114 ?_
      refine kn_ast S hK hW 1 (f := sdE (φ 0) j) rfl (by omega) (by decide) dX3_sounds_115 (fun H locs hW => ?_)
      have hW : kw D A s.heap (wM c a (pu φ 0 (fu (sdE (φ 0) j) 85 ((sdE (φ 0) j) (137)))) δ) H locs := hW
      have hW : kw D A s.heap (wM c a (pu φ 0 (sdF (φ 0) j)) δ) H locs := hW
      refine lv_aload_n S.1 S.2.1 dX3_sounds_116 rfl (lv_at hl 0 rfl) ?_
      refine kx_get S hK hW hinX3 0 3 rfl rfl 1 (by decide) (List.mem_of_getElem? (i := 1) rfl) (v := .ref (a 1)) rfl dX3_sounds_117 ?_
      refine lv_sipush (v := nI (132)) S.1 S.2.1 dX3_sounds_120 rfl ?_
      refine lv_dup2_11 S.1 S.2.1 dX3_sounds_123 rfl rfl ?_
      refine kn_ald S hK hW 1 (f := sdF (φ 0) j) rfl (by omega) (by decide) dX3_sounds_124 ?_
      refine lv_aload_n S.1 S.2.1 dX3_sounds_125 rfl (lv_at hl 0 rfl) ?_
      refine kx_get S hK hW hinX3 0 3 rfl rfl 1 (by decide) (List.mem_of_getElem? (i := 1) rfl) (v := .ref (a 1)) rfl dX3_sounds_126 ?_
      refine lv_sipush (v := nI (132)) S.1 S.2.1 dX3_sounds_129 rfl ?_
      refine kn_ald S hK hW 1 (f := sdF (φ 0) j) rfl (by omega) (by decide) dX3_sounds_132 ?_
      refine lv_bipush (v := nI (24)) S.1 S.2.1 dX3_sounds_133 rfl ?_
      refine kn_ge S (tgt := 142) dX3_sounds_135 (by decide) (by omega) (by omega) (fun c_135 => ?_) (fun c_135 => ?_)
      · refine lv_iconst (v := nI (0)) S.1 S.2.1 dX3_sounds_142 rfl ?_
        refine kn_iadd S dX3_sounds_143 ?_
        refine k_top (y := nI (sdF (φ 0) j 132 + (if sdF (φ 0) j 132 < 24 then 1 else 0))) (congrArg nI (by first | rw [if_pos c_135] | rw [if_neg (by omega)])) ?_
        refine kn_ast S hK hW 1 (f := sdF (φ 0) j) rfl (by omega) (by decide) dX3_sounds_144 (fun H locs hW => ?_)
        have hW : kw D A s.heap (wM c a (pu φ 0 (fu (sdF (φ 0) j) 132 (sdF (φ 0) j 132 + (if sdF (φ 0) j 132 < 24 then 1 else 0)))) δ) H locs := hW
        exact hret 145 _ _ _ _ dX3_sounds_145 hW (rfl)
      · refine lv_iconst (v := nI (1)) S.1 S.2.1 dX3_sounds_138 rfl ?_
        refine lv_goto (tgt := 143) S.1 S.2.1 dX3_sounds_139 (by decide) ?_
        refine kn_iadd S dX3_sounds_143 ?_
        refine k_top (y := nI (sdF (φ 0) j 132 + (if sdF (φ 0) j 132 < 24 then 1 else 0))) (congrArg nI (by first | rw [if_pos c_135] | rw [if_neg (by omega)])) ?_
        refine kn_ast S hK hW 1 (f := sdF (φ 0) j) rfl (by omega) (by decide) dX3_sounds_144 (fun H locs hW => ?_)
        have hW : kw D A s.heap (wM c a (pu φ 0 (fu (sdF (φ 0) j) 132 (sdF (φ 0) j 132 + (if sdF (φ 0) j 132 < 24 then 1 else 0)))) δ) H locs := hW
        exact hret 145 _ _ _ _ dX3_sounds_145 hW (rfl)
    · refine lv_aload_n S.1 S.2.1 dX3_sounds_67 rfl (lv_at hl 0 rfl) ?_
      refine kx_get S hK hW hinX3 0 3 rfl rfl 1 (by decide) (List.mem_of_getElem? (i := 1) rfl) (v := .ref (a 1)) rfl dX3_sounds_68 ?_
      refine lv_bipush (v := nI (84)) S.1 S.2.1 dX3_sounds_71 rfl ?_
      refine lv_iload_n S.1 S.2.1 dX3_sounds_73 rfl (lv_at hl 2 rfl) ?_
      refine kn_iadd S dX3_sounds_74 ?_
      refine lv_aload_n S.1 S.2.1 dX3_sounds_75 rfl (lv_at hl 0 rfl) ?_
      refine kx_get S hK hW hinX3 0 3 rfl rfl 1 (by decide) (List.mem_of_getElem? (i := 1) rfl) (v := .ref (a 1)) rfl dX3_sounds_76 ?_
      refine lv_bipush (v := nI (84)) S.1 S.2.1 dX3_sounds_79 rfl ?_
      refine lv_iload_n S.1 S.2.1 dX3_sounds_81 rfl (lv_at hl 2 rfl) ?_
      refine kn_iadd S dX3_sounds_82 ?_
      refine lv_iconst (v := nI (2)) S.1 S.2.1 dX3_sounds_83 rfl ?_
      refine kn_isub S dX3_sounds_84 (by omega) ?_
      refine kn_ald S hK hW 1 (f := shr (sdC (φ 0) j) n) rfl (by omega) (by decide) dX3_sounds_85 ?_
      refine kn_ast S hK hW 1 (f := shr (sdC (φ 0) j) n) rfl (by omega) (by decide) dX3_sounds_86 (fun H locs hW => ?_)
      have hW : kw D A s.heap (wM c a (pu φ 0 (fu (shr (sdC (φ 0) j) n) (84 + (47 - n)) ((shr (sdC (φ 0) j) n) ((84 + (47 - n)) - 2)))) δ) H locs := hW
      refine lv_iinc (v := nI ((47 - n) - 1)) (lv' := [(3, .int (nI ((47 - n) - 1))), (0, .ref (a 0)), (1, .int (nI (j)))]) S.1 S.2.1 dX3_sounds_87 hl (k := 2) rfl (sb_m1 (show 0 < 47 - n by omega)) (by decide) rfl (fun ls hl => ?_)
      refine lv_goto (tgt := 62) S.1 S.2.1 dX3_sounds_90 (by decide) ?_
      exact ih62 (n + 1) _ _ _ ⟨hW, lv_sub hl [1, 2, 0] rfl, (by omega)⟩ (by show 46 - (n + 1) < 46 - n; omega)
abbrev rmX3_plucks : Room := { frames := 2, cells := 0, slots := 0, locals := 44 }
theorem pdX3_plucks : kPd yX3_plucks 2 := by decide +kernel
set_option maxHeartbeats 4000000 in
set_option maxRecDepth 100000 in
theorem mX3_plucks (l : Launch) (D : va_G) (c : Nat → ClassId) (a : Nat → Nat) (φ : Nat → Nat → Nat) (δ : Int64) (sz : Nat) (j : Nat) (T : Nat) (hj : j < 12) (ok : okM (φ 0)) (hb : φ 0 (36 + 4 * j + 2) = 0) (hT : T < 1000) : MV l yX3_plucks wsX3_plucks rmX3_plucks D c sz (wM c a φ δ) [.ref (a 0), .int (nI (j)), .int (nI (T))]  (wM c a (pu φ 0 (plk (φ 0) j T)) δ) := by
  refine MV.of (cc := cX3_plucks) (maxL := 4) (by decide) rfl (Nat.le_of_ble_eq_true rfl) ?_
  intro P e s m below meth cd A Q ls hsz S hK hW hA hl hret
  have hl : lv_has ls 4 [(0, .ref (a 0)), (1, .int (nI (j))), (2, .int (nI (T)))] := hl
  have hinX3 : ∀ w ∈ u_ws RX3 TX3 13, w ∈ wsX3_plucks := by decide +kernel
  have hr := ok.rings hj
  have hw := ok.wear hj
  have h143 := ok.k143
  have hw2 : fu (φ 0) 140 (φ 0 140 + 1) (36 + 4 * j + 1) = φ 0 (36 + 4 * j + 1) := fu_ne (by omega)
  refine lv_aload_n S.1 S.2.1 dX3_plucks_0 rfl (lv_at hl 0 rfl) ?_
  refine kx_get S hK hW hinX3 0 3 rfl rfl 1 (by decide) (List.mem_of_getElem? (i := 1) rfl) (v := .ref (a 1)) rfl dX3_plucks_1 ?_
  refine lv_iload_n S.1 S.2.1 dX3_plucks_4 rfl (lv_at hl 1 rfl) ?_
  refine lv_iconst (v := nI (0)) S.1 S.2.1 dX3_plucks_5 rfl ?_
  refine k_SI (rest := [.ref (a 1)]) S hK hl.1 hW (KFr.nil hW hA) (mX3_of l D c  _ j 0) gX3_plucks_X3_of rfl pdX3_of ⟨⟨rfl, rfl⟩, Nat.le_of_ble_eq_true rfl, Nat.le_of_ble_eq_true rfl⟩ rfl (Nat.le_of_ble_eq_true rfl) dX3_plucks_6 ⟨Nat.le_of_ble_eq_true rfl, Nat.le_of_ble_eq_true rfl⟩ (fun H locs hW => ?_)
  have hW : kw D A s.heap (wM c a φ δ) H locs := hW
  refine kn_ald S hK hW 1 (f := φ 0) rfl (by omega) (by decide) dX3_plucks_9 ?_
  refine kz_le S (tgt := 138) dX3_plucks_10 (by decide) (by omega) (fun c_10 => ?_) (fun c_10 => ?_)
  · refine lv_aload_n S.1 S.2.1 dX3_plucks_138 rfl (lv_at hl 0 rfl) ?_
    refine kx_get S hK hW hinX3 0 3 rfl rfl 1 (by decide) (List.mem_of_getElem? (i := 1) rfl) (v := .ref (a 1)) rfl dX3_plucks_139 ?_
    refine lv_iload_n S.1 S.2.1 dX3_plucks_142 rfl (lv_at hl 1 rfl) ?_
    refine lv_iconst (v := nI (2)) S.1 S.2.1 dX3_plucks_143 rfl ?_
    refine k_SI (rest := [.ref (a 1)]) S hK hl.1 hW (KFr.nil hW hA) (mX3_of l D c  _ j 2) gX3_plucks_X3_of rfl pdX3_of ⟨⟨rfl, rfl⟩, Nat.le_of_ble_eq_true rfl, Nat.le_of_ble_eq_true rfl⟩ rfl (Nat.le_of_ble_eq_true rfl) dX3_plucks_144 ⟨Nat.le_of_ble_eq_true rfl, Nat.le_of_ble_eq_true rfl⟩ (fun H locs hW => ?_)
    have hW : kw D A s.heap (wM c a φ δ) H locs := hW
    refine kn_ald S hK hW 1 (f := φ 0) rfl (by omega) (by decide) dX3_plucks_147 ?_
    refine k_top (y := nI (0)) (congrArg nI (by first | exact pkX_b | exact pkY_b | exact hb)) ?_
    refine kz_ne S (tgt := 156) dX3_plucks_148 (by decide) (by omega) (fun c_148 => ?_) (fun c_148 => ?_)
    · exact absurd c_148 (by decide)
    · refine lv_aload_n S.1 S.2.1 dX3_plucks_151 rfl (lv_at hl 0 rfl) ?_
      refine lv_iload_n S.1 S.2.1 dX3_plucks_152 rfl (lv_at hl 1 rfl) ?_
      refine k_VV (rest := []) S hK hl.1 hW (KFr.all hW hA) (mX3_sounds l D c a φ δ _ j hj (by first | exact ok.pkY hj c_60 | exact ok)) gX3_plucks_X3_sounds rfl pdX3_sounds ⟨⟨rfl, rfl⟩, Nat.le_of_ble_eq_true rfl, Nat.le_of_ble_eq_true rfl⟩ 0 3 rfl rfl rfl rfl (Nat.le_of_ble_eq_true rfl) dX3_plucks_153 ⟨Nat.le_of_ble_eq_true rfl, Nat.le_of_ble_eq_true rfl⟩ (fun H locs hW => ?_)
      have hW : kw D A s.heap (wM c a (pu φ 0 (sounds (φ 0) j)) δ) H locs := hW
      exact hret 156 _ _ _ _ dX3_plucks_156 hW (by first | exact congrArg (fun g => wM c a (pu φ 0 g) δ) (plk_1 c_10 c_33 c_60).symm | exact congrArg (fun g => wM c a (pu φ 0 g) δ) (plk_2 c_10 c_33 c_60).symm | exact congrArg (fun g => wM c a (pu φ 0 g) δ) (plk_3 (by omega)).symm)
  · refine lv_iload_n S.1 S.2.1 dX3_plucks_13 rfl (lv_at hl 2 rfl) ?_
    refine lv_aload_n S.1 S.2.1 dX3_plucks_14 rfl (lv_at hl 0 rfl) ?_
    refine kx_get S hK hW hinX3 0 3 rfl rfl 1 (by decide) (List.mem_of_getElem? (i := 1) rfl) (v := .ref (a 1)) rfl dX3_plucks_15 ?_
    refine lv_sipush (v := nI (143)) S.1 S.2.1 dX3_plucks_18 rfl ?_
    refine kn_ald S hK hW 1 (f := φ 0) rfl (by omega) (by decide) dX3_plucks_21 ?_
    refine lv_aload_n S.1 S.2.1 dX3_plucks_22 rfl (lv_at hl 0 rfl) ?_
    refine kx_get S hK hW hinX3 0 3 rfl rfl 1 (by decide) (List.mem_of_getElem? (i := 1) rfl) (v := .ref (a 1)) rfl dX3_plucks_23 ?_
    refine lv_iload_n S.1 S.2.1 dX3_plucks_26 rfl (lv_at hl 1 rfl) ?_
    refine lv_iconst (v := nI (1)) S.1 S.2.1 dX3_plucks_27 rfl ?_
    refine k_SI (rest := [.ref (a 1), .int (nI (φ 0 (143))), .int (nI (T))]) S hK hl.1 hW (KFr.nil hW hA) (mX3_of l D c  _ j 1) gX3_plucks_X3_of rfl pdX3_of ⟨⟨rfl, rfl⟩, Nat.le_of_ble_eq_true rfl, Nat.le_of_ble_eq_true rfl⟩ rfl (Nat.le_of_ble_eq_true rfl) dX3_plucks_28 ⟨Nat.le_of_ble_eq_true rfl, Nat.le_of_ble_eq_true rfl⟩ (fun H locs hW => ?_)
    have hW : kw D A s.heap (wM c a φ δ) H locs := hW
    refine kn_ald S hK hW 1 (f := φ 0) rfl (by omega) (by decide) dX3_plucks_31 ?_
    refine kn_iadd S dX3_plucks_32 ?_
    refine kn_gt S (tgt := 138) dX3_plucks_33 (by decide) (by omega) (by omega) (fun c_33 => ?_) (fun c_33 => ?_)
    · refine lv_aload_n S.1 S.2.1 dX3_plucks_138 rfl (lv_at hl 0 rfl) ?_
      refine kx_get S hK hW hinX3 0 3 rfl rfl 1 (by decide) (List.mem_of_getElem? (i := 1) rfl) (v := .ref (a 1)) rfl dX3_plucks_139 ?_
      refine lv_iload_n S.1 S.2.1 dX3_plucks_142 rfl (lv_at hl 1 rfl) ?_
      refine lv_iconst (v := nI (2)) S.1 S.2.1 dX3_plucks_143 rfl ?_
      refine k_SI (rest := [.ref (a 1)]) S hK hl.1 hW (KFr.nil hW hA) (mX3_of l D c  _ j 2) gX3_plucks_X3_of rfl pdX3_of ⟨⟨rfl, rfl⟩, Nat.le_of_ble_eq_true rfl, Nat.le_of_ble_eq_true rfl⟩ rfl (Nat.le_of_ble_eq_true rfl) dX3_plucks_144 ⟨Nat.le_of_ble_eq_true rfl, Nat.le_of_ble_eq_true rfl⟩ (fun H locs hW => ?_)
      have hW : kw D A s.heap (wM c a φ δ) H locs := hW
      refine kn_ald S hK hW 1 (f := φ 0) rfl (by omega) (by decide) dX3_plucks_147 ?_
      refine k_top (y := nI (0)) (congrArg nI (by first | exact pkX_b | exact pkY_b | exact hb)) ?_
      refine kz_ne S (tgt := 156) dX3_plucks_148 (by decide) (by omega) (fun c_148 => ?_) (fun c_148 => ?_)
      · exact absurd c_148 (by decide)
      · refine lv_aload_n S.1 S.2.1 dX3_plucks_151 rfl (lv_at hl 0 rfl) ?_
        refine lv_iload_n S.1 S.2.1 dX3_plucks_152 rfl (lv_at hl 1 rfl) ?_
        refine k_VV (rest := []) S hK hl.1 hW (KFr.all hW hA) (mX3_sounds l D c a φ δ _ j hj (by first | exact ok.pkY hj c_60 | exact ok)) gX3_plucks_X3_sounds rfl pdX3_sounds ⟨⟨rfl, rfl⟩, Nat.le_of_ble_eq_true rfl, Nat.le_of_ble_eq_true rfl⟩ 0 3 rfl rfl rfl rfl (Nat.le_of_ble_eq_true rfl) dX3_plucks_153 ⟨Nat.le_of_ble_eq_true rfl, Nat.le_of_ble_eq_true rfl⟩ (fun H locs hW => ?_)
        have hW : kw D A s.heap (wM c a (pu φ 0 (sounds (φ 0) j)) δ) H locs := hW
        exact hret 156 _ _ _ _ dX3_plucks_156 hW (by first | exact congrArg (fun g => wM c a (pu φ 0 g) δ) (plk_1 c_10 c_33 c_60).symm | exact congrArg (fun g => wM c a (pu φ 0 g) δ) (plk_2 c_10 c_33 c_60).symm | exact congrArg (fun g => wM c a (pu φ 0 g) δ) (plk_3 (by omega)).symm)
    · refine lv_aload_n S.1 S.2.1 dX3_plucks_36 rfl (lv_at hl 0 rfl) ?_
      refine kx_get S hK hW hinX3 0 3 rfl rfl 1 (by decide) (List.mem_of_getElem? (i := 1) rfl) (v := .ref (a 1)) rfl dX3_plucks_37 ?_
      refine lv_sipush (v := nI (140)) S.1 S.2.1 dX3_plucks_40 rfl ?_
      refine lv_dup2_11 S.1 S.2.1 dX3_plucks_43 rfl rfl ?_
      refine kn_ald S hK hW 1 (f := φ 0) rfl (by omega) (by decide) dX3_plucks_44 ?_
      refine lv_iconst (v := nI (1)) S.1 S.2.1 dX3_plucks_45 rfl ?_
      refine kn_iadd S dX3_plucks_46 ?_
      refine kn_ast S hK hW 1 (f := φ 0) rfl (by omega) (by decide) dX3_plucks_47 (fun H locs hW => ?_)
      have hW : kw D A s.heap (wM c a (pu φ 0 (fu (φ 0) 140 (φ 0 (140) + 1))) δ) H locs := hW
      refine lv_aload_n S.1 S.2.1 dX3_plucks_48 rfl (lv_at hl 0 rfl) ?_
      refine kx_get S hK hW hinX3 0 3 rfl rfl 1 (by decide) (List.mem_of_getElem? (i := 1) rfl) (v := .ref (a 1)) rfl dX3_plucks_49 ?_
      refine lv_iload_n S.1 S.2.1 dX3_plucks_52 rfl (lv_at hl 1 rfl) ?_
      refine lv_iconst (v := nI (1)) S.1 S.2.1 dX3_plucks_53 rfl ?_
      refine k_SI (rest := [.ref (a 1)]) S hK hl.1 hW (KFr.nil hW hA) (mX3_of l D c  _ j 1) gX3_plucks_X3_of rfl pdX3_of ⟨⟨rfl, rfl⟩, Nat.le_of_ble_eq_true rfl, Nat.le_of_ble_eq_true rfl⟩ rfl (Nat.le_of_ble_eq_true rfl) dX3_plucks_54 ⟨Nat.le_of_ble_eq_true rfl, Nat.le_of_ble_eq_true rfl⟩ (fun H locs hW => ?_)
      have hW : kw D A s.heap (wM c a (pu φ 0 (fu (φ 0) 140 (φ 0 (140) + 1))) δ) H locs := hW
      refine kn_ald S hK hW 1 (f := fu (φ 0) 140 (φ 0 (140) + 1)) rfl (by omega) (by decide) dX3_plucks_57 ?_
      refine k_top (y := nI (φ 0 (36 + 4 * j + 1))) (congrArg nI hw2) ?_
      refine lv_bipush (v := nI (9)) S.1 S.2.1 dX3_plucks_58 rfl ?_
      refine kn_ne S (tgt := 67) dX3_plucks_60 (by decide) (by omega) (by omega) (fun c_60 => ?_) (fun c_60 => ?_)
      · refine lv_iconst (v := nI (0)) S.1 S.2.1 dX3_plucks_67 rfl ?_
        refine lv_istore_n (lv' := [(3, .int (nI (0))), (0, .ref (a 0)), (1, .int (nI (j))), (2, .int (nI (T)))]) S.1 S.2.1 dX3_plucks_68 rfl hl (by decide) rfl (fun ls hl => ?_)
        refine lv_aload_n S.1 S.2.1 dX3_plucks_69 rfl (lv_at hl 1 rfl) ?_
        refine kx_get S hK hW hinX3 0 3 rfl rfl 1 (by decide) (List.mem_of_getElem? (i := 1) rfl) (v := .ref (a 1)) rfl dX3_plucks_70 ?_
        refine lv_iload_n S.1 S.2.1 dX3_plucks_73 rfl (lv_at hl 2 rfl) ?_
        refine lv_iconst (v := nI (1)) S.1 S.2.1 dX3_plucks_74 rfl ?_
        refine k_SI (rest := [.ref (a 1)]) S hK hl.1 hW (KFr.nil hW hA) (mX3_of l D c  _ j 1) gX3_plucks_X3_of rfl pdX3_of ⟨⟨rfl, rfl⟩, Nat.le_of_ble_eq_true rfl, Nat.le_of_ble_eq_true rfl⟩ rfl (Nat.le_of_ble_eq_true rfl) dX3_plucks_75 ⟨Nat.le_of_ble_eq_true rfl, Nat.le_of_ble_eq_true rfl⟩ (fun H locs hW => ?_)
        have hW : kw D A s.heap (wM c a (pu φ 0 (fu (φ 0) 140 (φ 0 (140) + 1))) δ) H locs := hW
        refine lv_dup2_11 S.1 S.2.1 dX3_plucks_78 rfl rfl ?_
        refine kn_ald S hK hW 1 (f := fu (φ 0) 140 (φ 0 (140) + 1)) rfl (by omega) (by decide) dX3_plucks_79 ?_
        refine lv_iload_n S.1 S.2.1 dX3_plucks_80 rfl (lv_at hl 0 rfl) ?_
        refine kz_eq S (tgt := 88) dX3_plucks_81 (by decide) (by omega) (fun c_81 => ?_) (fun c_81 => ?_)
        · refine lv_iconst (v := nI (1)) S.1 S.2.1 dX3_plucks_88 rfl ?_
          refine kn_iadd S dX3_plucks_89 ?_
          refine kn_ast S hK hW 1 (f := fu (φ 0) 140 (φ 0 (140) + 1)) rfl (by omega) (by decide) dX3_plucks_90 (fun H locs hW => ?_)
          have hW : kw D A s.heap (wM c a (pu φ 0 (fu (fu (φ 0) 140 (φ 0 (140) + 1)) (36 + 4 * j + 1) ((fu (φ 0) 140 (φ 0 (140) + 1)) (36 + 4 * j + 1) + 1))) δ) H locs := hW
          refine lv_aload_n S.1 S.2.1 dX3_plucks_91 rfl (lv_at hl 1 rfl) ?_
          refine kx_get S hK hW hinX3 0 3 rfl rfl 1 (by decide) (List.mem_of_getElem? (i := 1) rfl) (v := .ref (a 1)) rfl dX3_plucks_92 ?_
          refine lv_iload_n S.1 S.2.1 dX3_plucks_95 rfl (lv_at hl 2 rfl) ?_
          refine lv_iconst (v := nI (2)) S.1 S.2.1 dX3_plucks_96 rfl ?_
          refine k_SI (rest := [.ref (a 1)]) S hK hl.1 hW (KFr.nil hW hA) (mX3_of l D c  _ j 2) gX3_plucks_X3_of rfl pdX3_of ⟨⟨rfl, rfl⟩, Nat.le_of_ble_eq_true rfl, Nat.le_of_ble_eq_true rfl⟩ rfl (Nat.le_of_ble_eq_true rfl) dX3_plucks_97 ⟨Nat.le_of_ble_eq_true rfl, Nat.le_of_ble_eq_true rfl⟩ (fun H locs hW => ?_)
          have hW : kw D A s.heap (wM c a (pu φ 0 (fu (fu (φ 0) 140 (φ 0 (140) + 1)) (36 + 4 * j + 1) ((fu (φ 0) 140 (φ 0 (140) + 1)) (36 + 4 * j + 1) + 1))) δ) H locs := hW
          refine lv_iload_n S.1 S.2.1 dX3_plucks_100 rfl (lv_at hl 0 rfl) ?_
          refine kz_eq S (tgt := 108) dX3_plucks_101 (by decide) (by omega) (fun c_101 => ?_) (fun c_101 => ?_)
          · refine lv_iconst (v := nI (0)) S.1 S.2.1 dX3_plucks_108 rfl ?_
            refine kn_ast S hK hW 1 (f := fu (fu (φ 0) 140 (φ 0 (140) + 1)) (36 + 4 * j + 1) ((fu (φ 0) 140 (φ 0 (140) + 1)) (36 + 4 * j + 1) + 1)) rfl (by omega) (by decide) dX3_plucks_109 (fun H locs hW => ?_)
            have hW : kw D A s.heap (wM c a (pu φ 0 (fu (fu (fu (φ 0) 140 (φ 0 (140) + 1)) (36 + 4 * j + 1) ((fu (φ 0) 140 (φ 0 (140) + 1)) (36 + 4 * j + 1) + 1)) (36 + 4 * j + 2) 0)) δ) H locs := hW
            have hW : kw D A s.heap (wM c a (pu φ 0 (pkZ (φ 0) j)) δ) H locs := hW
            refine lv_aload_n S.1 S.2.1 dX3_plucks_110 rfl (lv_at hl 1 rfl) ?_
            refine kx_get S hK hW hinX3 0 3 rfl rfl 1 (by decide) (List.mem_of_getElem? (i := 1) rfl) (v := .ref (a 1)) rfl dX3_plucks_111 ?_
            refine lv_iload_n S.1 S.2.1 dX3_plucks_114 rfl (lv_at hl 2 rfl) ?_
            refine lv_iconst (v := nI (0)) S.1 S.2.1 dX3_plucks_115 rfl ?_
            refine k_SI (rest := [.ref (a 1)]) S hK hl.1 hW (KFr.nil hW hA) (mX3_of l D c  _ j 0) gX3_plucks_X3_of rfl pdX3_of ⟨⟨rfl, rfl⟩, Nat.le_of_ble_eq_true rfl, Nat.le_of_ble_eq_true rfl⟩ rfl (Nat.le_of_ble_eq_true rfl) dX3_plucks_116 ⟨Nat.le_of_ble_eq_true rfl, Nat.le_of_ble_eq_true rfl⟩ (fun H locs hW => ?_)
            have hW : kw D A s.heap (wM c a (pu φ 0 (pkZ (φ 0) j)) δ) H locs := hW
            refine lv_iload_n S.1 S.2.1 dX3_plucks_119 rfl (lv_at hl 0 rfl) ?_
            refine kz_eq S (tgt := 127) dX3_plucks_120 (by decide) (by omega) (fun c_120 => ?_) (fun c_120 => ?_)
            · refine lv_aload_n S.1 S.2.1 dX3_plucks_127 rfl (lv_at hl 1 rfl) ?_
              refine kx_get S hK hW hinX3 0 3 rfl rfl 1 (by decide) (List.mem_of_getElem? (i := 1) rfl) (v := .ref (a 1)) rfl dX3_plucks_128 ?_
              refine lv_iload_n S.1 S.2.1 dX3_plucks_131 rfl (lv_at hl 2 rfl) ?_
              refine lv_iconst (v := nI (0)) S.1 S.2.1 dX3_plucks_132 rfl ?_
              refine k_SI (rest := [.ref (a 1), .int (nI (36 + 4 * j + 0)), .ref (a 1)]) S hK hl.1 hW (KFr.nil hW hA) (mX3_of l D c  _ j 0) gX3_plucks_X3_of rfl pdX3_of ⟨⟨rfl, rfl⟩, Nat.le_of_ble_eq_true rfl, Nat.le_of_ble_eq_true rfl⟩ rfl (Nat.le_of_ble_eq_true rfl) dX3_plucks_133 ⟨Nat.le_of_ble_eq_true rfl, Nat.le_of_ble_eq_true rfl⟩ (fun H locs hW => ?_)
              have hW : kw D A s.heap (wM c a (pu φ 0 (pkZ (φ 0) j)) δ) H locs := hW
              refine kn_ald S hK hW 1 (f := pkZ (φ 0) j) rfl (by omega) (by decide) dX3_plucks_136 ?_
              refine kn_ast S hK hW 1 (f := pkZ (φ 0) j) rfl (by omega) (by decide) dX3_plucks_137 (fun H locs hW => ?_)
              have hW : kw D A s.heap (wM c a (pu φ 0 (fu (pkZ (φ 0) j) (36 + 4 * j + 0) ((pkZ (φ 0) j) (36 + 4 * j + 0)))) δ) H locs := hW
              have hW : kw D A s.heap (wM c a (pu φ 0 (pkY (φ 0) j)) δ) H locs := hW
              refine lv_aload_n S.1 S.2.1 dX3_plucks_138 rfl (lv_at hl 1 rfl) ?_
              refine kx_get S hK hW hinX3 0 3 rfl rfl 1 (by decide) (List.mem_of_getElem? (i := 1) rfl) (v := .ref (a 1)) rfl dX3_plucks_139 ?_
              refine lv_iload_n S.1 S.2.1 dX3_plucks_142 rfl (lv_at hl 2 rfl) ?_
              refine lv_iconst (v := nI (2)) S.1 S.2.1 dX3_plucks_143 rfl ?_
              refine k_SI (rest := [.ref (a 1)]) S hK hl.1 hW (KFr.nil hW hA) (mX3_of l D c  _ j 2) gX3_plucks_X3_of rfl pdX3_of ⟨⟨rfl, rfl⟩, Nat.le_of_ble_eq_true rfl, Nat.le_of_ble_eq_true rfl⟩ rfl (Nat.le_of_ble_eq_true rfl) dX3_plucks_144 ⟨Nat.le_of_ble_eq_true rfl, Nat.le_of_ble_eq_true rfl⟩ (fun H locs hW => ?_)
              have hW : kw D A s.heap (wM c a (pu φ 0 (pkY (φ 0) j)) δ) H locs := hW
              refine kn_ald S hK hW 1 (f := pkY (φ 0) j) rfl (by omega) (by decide) dX3_plucks_147 ?_
              refine k_top (y := nI (0)) (congrArg nI (by first | exact pkX_b | exact pkY_b | exact hb)) ?_
              refine kz_ne S (tgt := 156) dX3_plucks_148 (by decide) (by omega) (fun c_148 => ?_) (fun c_148 => ?_)
              · exact absurd c_148 (by decide)
              · refine lv_aload_n S.1 S.2.1 dX3_plucks_151 rfl (lv_at hl 1 rfl) ?_
                refine lv_iload_n S.1 S.2.1 dX3_plucks_152 rfl (lv_at hl 2 rfl) ?_
                refine k_VV (rest := []) S hK hl.1 hW (KFr.all hW hA) (mX3_sounds l D c a ((pu φ 0 (pkY (φ 0) j))) δ _ j hj (by first | exact ok.pkY hj c_60 | exact ok)) gX3_plucks_X3_sounds rfl pdX3_sounds ⟨⟨rfl, rfl⟩, Nat.le_of_ble_eq_true rfl, Nat.le_of_ble_eq_true rfl⟩ 0 3 rfl rfl rfl rfl (Nat.le_of_ble_eq_true rfl) dX3_plucks_153 ⟨Nat.le_of_ble_eq_true rfl, Nat.le_of_ble_eq_true rfl⟩ (fun H locs hW => ?_)
                have hW : kw D A s.heap (wM c a (pu φ 0 (sounds ((pkY (φ 0) j)) j)) δ) H locs := hW
                exact hret 156 _ _ _ _ dX3_plucks_156 hW (by first | exact congrArg (fun g => wM c a (pu φ 0 g) δ) (plk_1 c_10 c_33 c_60).symm | exact congrArg (fun g => wM c a (pu φ 0 g) δ) (plk_2 c_10 c_33 c_60).symm | exact congrArg (fun g => wM c a (pu φ 0 g) δ) (plk_3 (by omega)).symm)
            · exact absurd c_120 (by decide)
          · exact absurd c_101 (by decide)
        · exact absurd c_81 (by decide)
      · refine lv_iconst (v := nI (1)) S.1 S.2.1 dX3_plucks_63 rfl ?_
        refine lv_goto (tgt := 68) S.1 S.2.1 dX3_plucks_64 (by decide) ?_
        refine lv_istore_n (lv' := [(3, .int (nI (1))), (0, .ref (a 0)), (1, .int (nI (j))), (2, .int (nI (T)))]) S.1 S.2.1 dX3_plucks_68 rfl hl (by decide) rfl (fun ls hl => ?_)
        refine lv_aload_n S.1 S.2.1 dX3_plucks_69 rfl (lv_at hl 1 rfl) ?_
        refine kx_get S hK hW hinX3 0 3 rfl rfl 1 (by decide) (List.mem_of_getElem? (i := 1) rfl) (v := .ref (a 1)) rfl dX3_plucks_70 ?_
        refine lv_iload_n S.1 S.2.1 dX3_plucks_73 rfl (lv_at hl 2 rfl) ?_
        refine lv_iconst (v := nI (1)) S.1 S.2.1 dX3_plucks_74 rfl ?_
        refine k_SI (rest := [.ref (a 1)]) S hK hl.1 hW (KFr.nil hW hA) (mX3_of l D c  _ j 1) gX3_plucks_X3_of rfl pdX3_of ⟨⟨rfl, rfl⟩, Nat.le_of_ble_eq_true rfl, Nat.le_of_ble_eq_true rfl⟩ rfl (Nat.le_of_ble_eq_true rfl) dX3_plucks_75 ⟨Nat.le_of_ble_eq_true rfl, Nat.le_of_ble_eq_true rfl⟩ (fun H locs hW => ?_)
        have hW : kw D A s.heap (wM c a (pu φ 0 (fu (φ 0) 140 (φ 0 (140) + 1))) δ) H locs := hW
        refine lv_dup2_11 S.1 S.2.1 dX3_plucks_78 rfl rfl ?_
        refine kn_ald S hK hW 1 (f := fu (φ 0) 140 (φ 0 (140) + 1)) rfl (by omega) (by decide) dX3_plucks_79 ?_
        refine lv_iload_n S.1 S.2.1 dX3_plucks_80 rfl (lv_at hl 0 rfl) ?_
        refine kz_eq S (tgt := 88) dX3_plucks_81 (by decide) (by omega) (fun c_81 => ?_) (fun c_81 => ?_)
        · exact absurd c_81 (by decide)
        · refine lv_iconst (v := nI (0)) S.1 S.2.1 dX3_plucks_84 rfl ?_
          refine lv_goto (tgt := 89) S.1 S.2.1 dX3_plucks_85 (by decide) ?_
          refine kn_iadd S dX3_plucks_89 ?_
          refine kn_ast S hK hW 1 (f := fu (φ 0) 140 (φ 0 (140) + 1)) rfl (by omega) (by decide) dX3_plucks_90 (fun H locs hW => ?_)
          have hW : kw D A s.heap (wM c a (pu φ 0 (fu (fu (φ 0) 140 (φ 0 (140) + 1)) (36 + 4 * j + 1) ((fu (φ 0) 140 (φ 0 (140) + 1)) (36 + 4 * j + 1) + 0))) δ) H locs := hW
          refine lv_aload_n S.1 S.2.1 dX3_plucks_91 rfl (lv_at hl 1 rfl) ?_
          refine kx_get S hK hW hinX3 0 3 rfl rfl 1 (by decide) (List.mem_of_getElem? (i := 1) rfl) (v := .ref (a 1)) rfl dX3_plucks_92 ?_
          refine lv_iload_n S.1 S.2.1 dX3_plucks_95 rfl (lv_at hl 2 rfl) ?_
          refine lv_iconst (v := nI (2)) S.1 S.2.1 dX3_plucks_96 rfl ?_
          refine k_SI (rest := [.ref (a 1)]) S hK hl.1 hW (KFr.nil hW hA) (mX3_of l D c  _ j 2) gX3_plucks_X3_of rfl pdX3_of ⟨⟨rfl, rfl⟩, Nat.le_of_ble_eq_true rfl, Nat.le_of_ble_eq_true rfl⟩ rfl (Nat.le_of_ble_eq_true rfl) dX3_plucks_97 ⟨Nat.le_of_ble_eq_true rfl, Nat.le_of_ble_eq_true rfl⟩ (fun H locs hW => ?_)
          have hW : kw D A s.heap (wM c a (pu φ 0 (fu (fu (φ 0) 140 (φ 0 (140) + 1)) (36 + 4 * j + 1) ((fu (φ 0) 140 (φ 0 (140) + 1)) (36 + 4 * j + 1) + 0))) δ) H locs := hW
          refine lv_iload_n S.1 S.2.1 dX3_plucks_100 rfl (lv_at hl 0 rfl) ?_
          refine kz_eq S (tgt := 108) dX3_plucks_101 (by decide) (by omega) (fun c_101 => ?_) (fun c_101 => ?_)
          · exact absurd c_101 (by decide)
          · refine lv_iconst (v := nI (1)) S.1 S.2.1 dX3_plucks_104 rfl ?_
            refine lv_goto (tgt := 109) S.1 S.2.1 dX3_plucks_105 (by decide) ?_
            refine kn_ast S hK hW 1 (f := fu (fu (φ 0) 140 (φ 0 (140) + 1)) (36 + 4 * j + 1) ((fu (φ 0) 140 (φ 0 (140) + 1)) (36 + 4 * j + 1) + 0)) rfl (by omega) (by decide) dX3_plucks_109 (fun H locs hW => ?_)
            have hW : kw D A s.heap (wM c a (pu φ 0 (fu (fu (fu (φ 0) 140 (φ 0 (140) + 1)) (36 + 4 * j + 1) ((fu (φ 0) 140 (φ 0 (140) + 1)) (36 + 4 * j + 1) + 0)) (36 + 4 * j + 2) 1)) δ) H locs := hW
            refine lv_aload_n S.1 S.2.1 dX3_plucks_110 rfl (lv_at hl 1 rfl) ?_
            refine kx_get S hK hW hinX3 0 3 rfl rfl 1 (by decide) (List.mem_of_getElem? (i := 1) rfl) (v := .ref (a 1)) rfl dX3_plucks_111 ?_
            refine lv_iload_n S.1 S.2.1 dX3_plucks_114 rfl (lv_at hl 2 rfl) ?_
            refine lv_iconst (v := nI (0)) S.1 S.2.1 dX3_plucks_115 rfl ?_
            refine k_SI (rest := [.ref (a 1)]) S hK hl.1 hW (KFr.nil hW hA) (mX3_of l D c  _ j 0) gX3_plucks_X3_of rfl pdX3_of ⟨⟨rfl, rfl⟩, Nat.le_of_ble_eq_true rfl, Nat.le_of_ble_eq_true rfl⟩ rfl (Nat.le_of_ble_eq_true rfl) dX3_plucks_116 ⟨Nat.le_of_ble_eq_true rfl, Nat.le_of_ble_eq_true rfl⟩ (fun H locs hW => ?_)
            have hW : kw D A s.heap (wM c a (pu φ 0 (fu (fu (fu (φ 0) 140 (φ 0 (140) + 1)) (36 + 4 * j + 1) ((fu (φ 0) 140 (φ 0 (140) + 1)) (36 + 4 * j + 1) + 0)) (36 + 4 * j + 2) 1)) δ) H locs := hW
            refine lv_iload_n S.1 S.2.1 dX3_plucks_119 rfl (lv_at hl 0 rfl) ?_
            refine kz_eq S (tgt := 127) dX3_plucks_120 (by decide) (by omega) (fun c_120 => ?_) (fun c_120 => ?_)
            · exact absurd c_120 (by decide)
            · refine lv_iconst (v := nI (0)) S.1 S.2.1 dX3_plucks_123 rfl ?_
              refine lv_goto (tgt := 137) S.1 S.2.1 dX3_plucks_124 (by decide) ?_
              refine kn_ast S hK hW 1 (f := fu (fu (fu (φ 0) 140 (φ 0 (140) + 1)) (36 + 4 * j + 1) ((fu (φ 0) 140 (φ 0 (140) + 1)) (36 + 4 * j + 1) + 0)) (36 + 4 * j + 2) 1) rfl (by omega) (by decide) dX3_plucks_137 (fun H locs hW => ?_)
              have hW : kw D A s.heap (wM c a (pu φ 0 (fu (fu (fu (fu (φ 0) 140 (φ 0 (140) + 1)) (36 + 4 * j + 1) ((fu (φ 0) 140 (φ 0 (140) + 1)) (36 + 4 * j + 1) + 0)) (36 + 4 * j + 2) 1) (36 + 4 * j + 0) 0)) δ) H locs := hW
              have hW : kw D A s.heap (wM c a (pu φ 0 (pkX (φ 0) j)) δ) H locs := hW
              refine lv_aload_n S.1 S.2.1 dX3_plucks_138 rfl (lv_at hl 1 rfl) ?_
              refine kx_get S hK hW hinX3 0 3 rfl rfl 1 (by decide) (List.mem_of_getElem? (i := 1) rfl) (v := .ref (a 1)) rfl dX3_plucks_139 ?_
              refine lv_iload_n S.1 S.2.1 dX3_plucks_142 rfl (lv_at hl 2 rfl) ?_
              refine lv_iconst (v := nI (2)) S.1 S.2.1 dX3_plucks_143 rfl ?_
              refine k_SI (rest := [.ref (a 1)]) S hK hl.1 hW (KFr.nil hW hA) (mX3_of l D c  _ j 2) gX3_plucks_X3_of rfl pdX3_of ⟨⟨rfl, rfl⟩, Nat.le_of_ble_eq_true rfl, Nat.le_of_ble_eq_true rfl⟩ rfl (Nat.le_of_ble_eq_true rfl) dX3_plucks_144 ⟨Nat.le_of_ble_eq_true rfl, Nat.le_of_ble_eq_true rfl⟩ (fun H locs hW => ?_)
              have hW : kw D A s.heap (wM c a (pu φ 0 (pkX (φ 0) j)) δ) H locs := hW
              refine kn_ald S hK hW 1 (f := pkX (φ 0) j) rfl (by omega) (by decide) dX3_plucks_147 ?_
              refine k_top (y := nI (1)) (congrArg nI (by first | exact pkX_b | exact pkY_b | exact hb)) ?_
              refine kz_ne S (tgt := 156) dX3_plucks_148 (by decide) (by omega) (fun c_148 => ?_) (fun c_148 => ?_)
              · exact hret 156 _ _ _ _ dX3_plucks_156 hW (by first | exact congrArg (fun g => wM c a (pu φ 0 g) δ) (plk_1 c_10 c_33 c_60).symm | exact congrArg (fun g => wM c a (pu φ 0 g) δ) (plk_2 c_10 c_33 c_60).symm | exact congrArg (fun g => wM c a (pu φ 0 g) δ) (plk_3 (by omega)).symm)
              · exact absurd c_148 (by decide)
