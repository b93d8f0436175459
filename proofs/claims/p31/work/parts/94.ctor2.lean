/-! ===== constructors: the cylinder and the reference at their start ===== -/
def iS : Nat → Nat → Nat := fun i => if i = 6 then fu (fu (fu (fu (fu (kc 0) 0 40) 1 6) 2 0) 3 1) 4 6 else if i = 8 then kc 31 else if i = 11 then kc 5 else kc 0
theorem dfX0 : ∀ j, j < 5 → defaultValue (tyX0 j) = vp_V [.int (nI (0)), .int (nI (0)), .int (nI (0)), .int (nI (0)), .int (nI (0))] j := by
  intro j hj
  rcases (show j = 0 ∨ j = 1 ∨ j = 2 ∨ j = 3 ∨ j = 4 by omega) with rfl | rfl | rfl | rfl | rfl <;> rfl
theorem dfX1 : ∀ j, j < 17 → defaultValue (tyX1 j) = vp_V [.null, .null, .null, .null, .null, .null, .null, .int (nI (0)), .int (nI (0)), .int (nI (0)), .int (nI (0)), .int (nI (0)), .int (nI (0)), .int (nI (0)), .int (nI (0)), .int (nI (0)), .int (nI (0))] j := by
  intro j hj
  rcases (show j = 0 ∨ j = 1 ∨ j = 2 ∨ j = 3 ∨ j = 4 ∨ j = 5 ∨ j = 6 ∨ j = 7 ∨ j = 8 ∨ j = 9 ∨ j = 10 ∨ j = 11 ∨ j = 12 ∨ j = 13 ∨ j = 14 ∨ j = 15 ∨ j = 16 by omega) with rfl | rfl | rfl | rfl | rfl | rfl | rfl | rfl | rfl | rfl | rfl | rfl | rfl | rfl | rfl | rfl | rfl <;> rfl
theorem dfX2 : ∀ j, j < 10 → defaultValue (tyX2 j) = vp_V [.null, .null, .null, .int (nI (0)), .null, .int (nI (0)), .int (nI (0)), .null, .int (nI (0)), .null] j := by
  intro j hj
  rcases (show j = 0 ∨ j = 1 ∨ j = 2 ∨ j = 3 ∨ j = 4 ∨ j = 5 ∨ j = 6 ∨ j = 7 ∨ j = 8 ∨ j = 9 by omega) with rfl | rfl | rfl | rfl | rfl | rfl | rfl | rfl | rfl | rfl <;> rfl
def nC (U : State) : Prop := va_Nw (.methodLinkNest RX2 11 yX1_init RX2) U ∧ va_Nw (.methodLinkNest RX2 46 yX0_init RX2) U ∧ va_AO RX1 U
section KCQ
variable {p : Program} {l : Launch} {e : Env} {R : Room} {s : State} {m : MethodId} {args : Array Value} {below : List Frame} {meth : Method} {cd : Code} {H : Heap} {locs : List Loc} {cells slots : Nat} {Q : State → Prop} {pc : Nat} {ls : Array Slot} {rest : List Value} {cc : ByteArray} {D : va_G} {c : Nat → ClassId} {A : Nat → Prop} {H0 : Heap} {ws : va_W} {b : Nat} {nL : Nat} {Ts : List Cond} {own : String}
theorem kq_ast (S : CallFix p m cd cc nL s args Ts own) (hK : va_K D vwCl (vT c) s) (hW : kw D A H0 ws H locs) (q0 qk : Nat) {n i v : Nat} {vs : List Value} {f : Nat → Option Nat} (ha : ws[q0]? = some (b, .inl (c 2, n, .inr (.inr (.inr (.inr f)))))) (hv : ws[qk]? = some (v, .inr (1, vs))) (hi : i < n) (hn : n < 2 ^ 31) (hdg : decode cc pc = .ok (.aastore, 1))
    (kk : ∀ (H1 : Heap) (locs1 : List Loc), kw D A H0 (ws.set q0 (b, .inl (c 2, n, .inr (.inr (.inr (.inr (va_up f i (some v)))))))) H1 locs1 → W p l e R s m args below meth cd H1 locs1 cells slots Q (F0 m (pc + 1) ls rest)) : W p l e R s m args below meth cd H locs cells slots Q (F0 m pc ls (.ref v :: .int (nI i) :: .ref b :: rest)) :=
  va_astq S.1 S.2.1 hK hW.1 hW.2.1 hW.2.2 q0 2 qk 1 (r := (RX1, TX1, 17)) ha rfl hv rfl (vp_in_nI hi hn) hdg (fun H1 locs1 h1 h2 h3 => by
    rw [nI_clamp (Nat.lt_trans hi hn)] at h1 h2
    exact kk H1 locs1 ⟨h1, h2, h3⟩)
end KCQ
theorem kw_cell {D : va_G} {A : Nat → Prop} {H0 : Heap} {wl wr : va_W} {H : Heap} {locs : List Loc} {b : Nat} {cA : ClassId} {n : Nat} {f g : Nat → Option Nat} (hfg : ∀ k, k < n → f k = g k) (hW : kw D A H0 (wl ++ ((b, .inl (cA, n, .inr (.inr (.inr (.inr f))))) :: wr)) H locs) : kw D A H0 (wl ++ ((b, .inl (cA, n, .inr (.inr (.inr (.inr g))))) :: wr)) H locs := by
  obtain ⟨hP, hD, hS⟩ := hW
  have hP' := vP_iff.mp hP
  obtain ⟨d1, d2⟩ := vD_iff.mp hD
  rw [List.pairwise_append, List.pairwise_cons] at d1
  refine ⟨vP_iff.mpr (fun q hq => ?_), vD_iff.mpr ⟨?_, fun q hq => ?_⟩, hS⟩
  · rcases List.mem_append.mp hq with h | h
    · exact hP' q (List.mem_append_left _ h)
    · rcases List.mem_cons.mp h with rfl | h
      · have h1 : H[b]? = some (vp_cell cA (n, .inr (.inr (.inr (.inr f))))) := hP' _ (List.mem_append_right _ List.mem_cons_self)
        show H[b]? = some (vp_cell cA (n, .inr (.inr (.inr (.inr g)))))
        rw [h1, vp_cell_q, vp_cell_q]
        exact congrArg some (arrV_congr fun j hj => by rw [hfg j hj])
      · exact hP' q (List.mem_append_right _ (List.mem_cons_of_mem _ h))
  · rw [List.pairwise_append, List.pairwise_cons]
    refine ⟨d1.1, ⟨d1.2.1.1, d1.2.1.2⟩, fun x hx y hy => ?_⟩
    rcases List.mem_cons.mp hy with rfl | h
    · exact d1.2.2 x hx (b, .inl (cA, n, .inr (.inr (.inr (.inr f))))) List.mem_cons_self
    · exact d1.2.2 x hx y (List.mem_cons_of_mem _ h)
  · rcases List.mem_append.mp hq with h | h
    · exact d2 q (List.mem_append_left _ h)
    · rcases List.mem_cons.mp h with rfl | h
      · exact d2 (b, .inl (cA, n, .inr (.inr (.inr (.inr f))))) (List.mem_append_right _ List.mem_cons_self)
      · exact d2 q (List.mem_append_right _ (List.mem_cons_of_mem _ h))
abbrev rmX0_init : Room := { frames := 1, cells := 0, slots := 0, locals := 20 }
theorem pdX0_init : kPd yX0_init 0 := by decide +kernel
set_option maxHeartbeats 4000000 in
set_option maxRecDepth 100000 in
theorem iX0_init (l : Launch) (D : va_G) (c : Nat → ClassId) (h : Nat) (sz : Nat) : MC l yX0_init wsX0_init rmX0_init D c sz [(h, .inr (0, [.int (nI (0)), .int (nI (0)), .int (nI (0)), .int (nI (0)), .int (nI (0))]))] [.ref h] (fun _ => True) (fun w => w = wR (fun _ => h) (fun _ => kc 0)) 0 0 := by
  refine MC.of (cc := cX0_init) (maxL := 1) (by decide) rfl rfl (Nat.le_of_ble_eq_true rfl) ?_
  intro P e s m below meth cd A Q ls hsz S hK hpre hin2 hW hA hl hret
  have hl : lv_has ls 1 [(0, .ref h)] := hl
  have hinX0 : ∀ w ∈ u_ws RX0 TX0 5, w ∈ wsX0_init := by decide +kernel
  refine lv_aload_n S.1 S.2.1 dX0_init_0 rfl (lv_at hl 0 rfl) ?_
  refine k_objI S hl.1 (List.mem_of_getElem? (i := 1) rfl) (List.mem_of_getElem? (i := 2) rfl) (List.mem_of_getElem? (i := 3) rfl) dX0_init_1 ⟨by decide, by decide⟩ ?_
  refine lv_aload_n S.1 S.2.1 dX0_init_4 rfl (lv_at hl 0 rfl) ?_
  refine lv_iconst (v := nI (0)) S.1 S.2.1 dX0_init_5 rfl ?_
  refine kx_put S hK hW hinX0 tyX0_ok nmX0 0 0 rfl rfl 0 (by decide) (List.mem_of_getElem? (i := 4) rfl) rfl (v := .int (nI (0))) rfl rfl (Nat.le_of_ble_eq_true rfl) dX0_init_6 (fun H locs hW => ?_)
  have hW : kw D A s.heap [(h, .inr (0, [.int (nI (0)), .int (nI (0)), .int (nI (0)), .int (nI (0)), .int (nI (0))]))] H _ := hW
  refine lv_aload_n S.1 S.2.1 dX0_init_9 rfl (lv_at hl 0 rfl) ?_
  refine lv_iconst (v := nI (0)) S.1 S.2.1 dX0_init_10 rfl ?_
  refine kx_put S hK hW hinX0 tyX0_ok nmX0 0 0 rfl rfl 1 (by decide) (List.mem_of_getElem? (i := 5) rfl) rfl (v := .int (nI (0))) rfl rfl (Nat.le_of_ble_eq_true rfl) dX0_init_11 (fun H locs hW => ?_)
  have hW : kw D A s.heap [(h, .inr (0, [.int (nI (0)), .int (nI (0)), .int (nI (0)), .int (nI (0)), .int (nI (0))]))] H _ := hW
  refine lv_aload_n S.1 S.2.1 dX0_init_14 rfl (lv_at hl 0 rfl) ?_
  refine lv_iconst (v := nI (0)) S.1 S.2.1 dX0_init_15 rfl ?_
  refine kx_put S hK hW hinX0 tyX0_ok nmX0 0 0 rfl rfl 2 (by decide) (List.mem_of_getElem? (i := 6) rfl) rfl (v := .int (nI (0))) rfl rfl (Nat.le_of_ble_eq_true rfl) dX0_init_16 (fun H locs hW => ?_)
  have hW : kw D A s.heap [(h, .inr (0, [.int (nI (0)), .int (nI (0)), .int (nI (0)), .int (nI (0)), .int (nI (0))]))] H _ := hW
  refine lv_aload_n S.1 S.2.1 dX0_init_19 rfl (lv_at hl 0 rfl) ?_
  refine lv_iconst (v := nI (0)) S.1 S.2.1 dX0_init_20 rfl ?_
  refine kx_put S hK hW hinX0 tyX0_ok nmX0 0 0 rfl rfl 3 (by decide) (List.mem_of_getElem? (i := 7) rfl) rfl (v := .int (nI (0))) rfl rfl (Nat.le_of_ble_eq_true rfl) dX0_init_21 (fun H locs hW => ?_)
  have hW : kw D A s.heap [(h, .inr (0, [.int (nI (0)), .int (nI (0)), .int (nI (0)), .int (nI (0)), .int (nI (0))]))] H _ := hW
  refine lv_aload_n S.1 S.2.1 dX0_init_24 rfl (lv_at hl 0 rfl) ?_
  refine lv_iconst (v := nI (0)) S.1 S.2.1 dX0_init_25 rfl ?_
  refine kx_put S hK hW hinX0 tyX0_ok nmX0 0 0 rfl rfl 4 (by decide) (List.mem_of_getElem? (i := 8) rfl) rfl (v := .int (nI (0))) rfl rfl (Nat.le_of_ble_eq_true rfl) dX0_init_26 (fun H locs hW => ?_)
  have hW : kw D A s.heap [(h, .inr (0, [.int (nI (0)), .int (nI (0)), .int (nI (0)), .int (nI (0)), .int (nI (0))]))] H _ := hW
  exact hret 29 _ _ _ _ _ _ dX0_init_29 hW rfl (Nat.le_of_ble_eq_true rfl) (Nat.le_of_ble_eq_true rfl)
abbrev rmX1_init : Room := { frames := 1, cells := 7, slots := 185, locals := 20 }
theorem pdX1_init : kPd yX1_init 0 := by decide +kernel
set_option maxHeartbeats 4000000 in
set_option maxRecDepth 100000 in
theorem iX1_init (l : Launch) (D : va_G) (c : Nat → ClassId) (h : Nat) (sz : Nat) : MC l yX1_init wsX1_init rmX1_init D c sz [(h, .inr (1, [.null, .null, .null, .null, .null, .null, .null, .int (nI (0)), .int (nI (0)), .int (nI (0)), .int (nI (0)), .int (nI (0)), .int (nI (0)), .int (nI (0)), .int (nI (0)), .int (nI (0)), .int (nI (0))]))] [.ref h] (fun _ => True) (fun w => ∃ a : Nat → Nat, a 0 = h ∧ w = wS c a iS) 7 185 := by
  refine MC.of (cc := cX1_init) (maxL := 1) (by decide) rfl rfl (Nat.le_of_ble_eq_true rfl) ?_
  intro P e s m below meth cd A Q ls hsz S hK hpre hin2 hW hA hl hret
  have hl : lv_has ls 1 [(0, .ref h)] := hl
  have hinX1 : ∀ w ∈ u_ws RX1 TX1 17, w ∈ wsX1_init := by decide +kernel
  refine lv_aload_n S.1 S.2.1 dX1_init_0 rfl (lv_at hl 0 rfl) ?_
  refine k_objI S hl.1 (List.mem_of_getElem? (i := 1) rfl) (List.mem_of_getElem? (i := 2) rfl) (List.mem_of_getElem? (i := 3) rfl) dX1_init_1 ⟨by decide, by decide⟩ ?_
  refine lv_aload_n S.1 S.2.1 dX1_init_4 rfl (lv_at hl 0 rfl) ?_
  refine lv_bipush (v := nI (96)) S.1 S.2.1 dX1_init_5 rfl ?_
  refine kn_newI S hK hW hA (List.mem_of_getElem? (i := 4) rfl) (by decide) (Nat.le_of_ble_eq_true rfl) (Nat.le_of_ble_eq_true rfl) dX1_init_7 (fun q0 H hW => ?_)
  have hW : kw D A s.heap ([(h, .inr (1, [.null, .null, .null, .null, .null, .null, .null, .int (nI (0)), .int (nI (0)), .int (nI (0)), .int (nI (0)), .int (nI (0)), .int (nI (0)), .int (nI (0)), .int (nI (0)), .int (nI (0)), .int (nI (0))]))] ++ [(q0, .inl (c 0, 96, .inl (fun k => nI (kc 0 k))))]) H _ := hW
  refine kx_putF S hK hW hin2 hinX1 tyX1_ok nmX1 0 1 rfl rfl 0 (by decide) (List.mem_of_getElem? (i := 5) rfl) rfl rfl (v := .ref q0) rfl rfl (Nat.le_of_ble_eq_true rfl) dX1_init_9 (fun H locs hW => ?_)
  have hW : kw D A s.heap ([(h, .inr (1, [.ref q0, .null, .null, .null, .null, .null, .null, .int (nI (0)), .int (nI (0)), .int (nI (0)), .int (nI (0)), .int (nI (0)), .int (nI (0)), .int (nI (0)), .int (nI (0)), .int (nI (0)), .int (nI (0))]))] ++ [(q0, .inl (c 0, 96, .inl (fun k => nI (kc 0 k))))]) H _ := hW
  refine lv_aload_n S.1 S.2.1 dX1_init_12 rfl (lv_at hl 0 rfl) ?_
  refine lv_bipush (v := nI (12)) S.1 S.2.1 dX1_init_13 rfl ?_
  refine kn_newI S hK hW hA (List.mem_of_getElem? (i := 4) rfl) (by decide) (Nat.le_of_ble_eq_true rfl) (Nat.le_of_ble_eq_true rfl) dX1_init_15 (fun q1 H hW => ?_)
  have hW : kw D A s.heap (([(h, .inr (1, [.ref q0, .null, .null, .null, .null, .null, .null, .int (nI (0)), .int (nI (0)), .int (nI (0)), .int (nI (0)), .int (nI (0)), .int (nI (0)), .int (nI (0)), .int (nI (0)), .int (nI (0)), .int (nI (0))]))] ++ [(q0, .inl (c 0, 96, .inl (fun k => nI (kc 0 k))))]) ++ [(q1, .inl (c 0, 12, .inl (fun k => nI (kc 0 k))))]) H _ := hW
  refine kx_putF S hK hW hin2 hinX1 tyX1_ok nmX1 0 1 rfl rfl 1 (by decide) (List.mem_of_getElem? (i := 6) rfl) rfl rfl (v := .ref q1) rfl rfl (Nat.le_of_ble_eq_true rfl) dX1_init_17 (fun H locs hW => ?_)
  have hW : kw D A s.heap (([(h, .inr (1, [.ref q0, .ref q1, .null, .null, .null, .null, .null, .int (nI (0)), .int (nI (0)), .int (nI (0)), .int (nI (0)), .int (nI (0)), .int (nI (0)), .int (nI (0)), .int (nI (0)), .int (nI (0)), .int (nI (0))]))] ++ [(q0, .inl (c 0, 96, .inl (fun k => nI (kc 0 k))))]) ++ [(q1, .inl (c 0, 12, .inl (fun k => nI (kc 0 k))))]) H _ := hW
  refine lv_aload_n S.1 S.2.1 dX1_init_20 rfl (lv_at hl 0 rfl) ?_
  refine lv_bipush (v := nI (12)) S.1 S.2.1 dX1_init_21 rfl ?_
  refine kn_newI S hK hW hA (List.mem_of_getElem? (i := 4) rfl) (by decide) (Nat.le_of_ble_eq_true rfl) (Nat.le_of_ble_eq_true rfl) dX1_init_23 (fun q2 H hW => ?_)
  have hW : kw D A s.heap ((([(h, .inr (1, [.ref q0, .ref q1, .null, .null, .null, .null, .null, .int (nI (0)), .int (nI (0)), .int (nI (0)), .int (nI (0)), .int (nI (0)), .int (nI (0)), .int (nI (0)), .int (nI (0)), .int (nI (0)), .int (nI (0))]))] ++ [(q0, .inl (c 0, 96, .inl (fun k => nI (kc 0 k))))]) ++ [(q1, .inl (c 0, 12, .inl (fun k => nI (kc 0 k))))]) ++ [(q2, .inl (c 0, 12, .inl (fun k => nI (kc 0 k))))]) H _ := hW
  refine kx_putF S hK hW hin2 hinX1 tyX1_ok nmX1 0 1 rfl rfl 2 (by decide) (List.mem_of_getElem? (i := 7) rfl) rfl rfl (v := .ref q2) rfl rfl (Nat.le_of_ble_eq_true rfl) dX1_init_25 (fun H locs hW => ?_)
  have hW : kw D A s.heap ((([(h, .inr (1, [.ref q0, .ref q1, .ref q2, .null, .null, .null, .null, .int (nI (0)), .int (nI (0)), .int (nI (0)), .int (nI (0)), .int (nI (0)), .int (nI (0)), .int (nI (0)), .int (nI (0)), .int (nI (0)), .int (nI (0))]))] ++ [(q0, .inl (c 0, 96, .inl (fun k => nI (kc 0 k))))]) ++ [(q1, .inl (c 0, 12, .inl (fun k => nI (kc 0 k))))]) ++ [(q2, .inl (c 0, 12, .inl (fun k => nI (kc 0 k))))]) H _ := hW
  refine lv_aload_n S.1 S.2.1 dX1_init_28 rfl (lv_at hl 0 rfl) ?_
  refine lv_bipush (v := nI (12)) S.1 S.2.1 dX1_init_29 rfl ?_
  refine kn_newI S hK hW hA (List.mem_of_getElem? (i := 4) rfl) (by decide) (Nat.le_of_ble_eq_true rfl) (Nat.le_of_ble_eq_true rfl) dX1_init_31 (fun q3 H hW => ?_)
  have hW : kw D A s.heap (((([(h, .inr (1, [.ref q0, .ref q1, .ref q2, .null, .null, .null, .null, .int (nI (0)), .int (nI (0)), .int (nI (0)), .int (nI (0)), .int (nI (0)), .int (nI (0)), .int (nI (0)), .int (nI (0)), .int (nI (0)), .int (nI (0))]))] ++ [(q0, .inl (c 0, 96, .inl (fun k => nI (kc 0 k))))]) ++ [(q1, .inl (c 0, 12, .inl (fun k => nI (kc 0 k))))]) ++ [(q2, .inl (c 0, 12, .inl (fun k => nI (kc 0 k))))]) ++ [(q3, .inl (c 0, 12, .inl (fun k => nI (kc 0 k))))]) H _ := hW
  refine kx_putF S hK hW hin2 hinX1 tyX1_ok nmX1 0 1 rfl rfl 3 (by decide) (List.mem_of_getElem? (i := 8) rfl) rfl rfl (v := .ref q3) rfl rfl (Nat.le_of_ble_eq_true rfl) dX1_init_33 (fun H locs hW => ?_)
  have hW : kw D A s.heap (((([(h, .inr (1, [.ref q0, .ref q1, .ref q2, .ref q3, .null, .null, .null, .int (nI (0)), .int (nI (0)), .int (nI (0)), .int (nI (0)), .int (nI (0)), .int (nI (0)), .int (nI (0)), .int (nI (0)), .int (nI (0)), .int (nI (0))]))] ++ [(q0, .inl (c 0, 96, .inl (fun k => nI (kc 0 k))))]) ++ [(q1, .inl (c 0, 12, .inl (fun k => nI (kc 0 k))))]) ++ [(q2, .inl (c 0, 12, .inl (fun k => nI (kc 0 k))))]) ++ [(q3, .inl (c 0, 12, .inl (fun k => nI (kc 0 k))))]) H _ := hW
  refine lv_aload_n S.1 S.2.1 dX1_init_36 rfl (lv_at hl 0 rfl) ?_
  refine lv_bipush (v := nI (24)) S.1 S.2.1 dX1_init_37 rfl ?_
  refine kn_newI S hK hW hA (List.mem_of_getElem? (i := 4) rfl) (by decide) (Nat.le_of_ble_eq_true rfl) (Nat.le_of_ble_eq_true rfl) dX1_init_39 (fun q4 H hW => ?_)
  have hW : kw D A s.heap ((((([(h, .inr (1, [.ref q0, .ref q1, .ref q2, .ref q3, .null, .null, .null, .int (nI (0)), .int (nI (0)), .int (nI (0)), .int (nI (0)), .int (nI (0)), .int (nI (0)), .int (nI (0)), .int (nI (0)), .int (nI (0)), .int (nI (0))]))] ++ [(q0, .inl (c 0, 96, .inl (fun k => nI (kc 0 k))))]) ++ [(q1, .inl (c 0, 12, .inl (fun k => nI (kc 0 k))))]) ++ [(q2, .inl (c 0, 12, .inl (fun k => nI (kc 0 k))))]) ++ [(q3, .inl (c 0, 12, .inl (fun k => nI (kc 0 k))))]) ++ [(q4, .inl (c 0, 24, .inl (fun k => nI (kc 0 k))))]) H _ := hW
  refine kx_putF S hK hW hin2 hinX1 tyX1_ok nmX1 0 1 rfl rfl 4 (by decide) (List.mem_of_getElem? (i := 9) rfl) rfl rfl (v := .ref q4) rfl rfl (Nat.le_of_ble_eq_true rfl) dX1_init_41 (fun H locs hW => ?_)
  have hW : kw D A s.heap ((((([(h, .inr (1, [.ref q0, .ref q1, .ref q2, .ref q3, .ref q4, .null, .null, .int (nI (0)), .int (nI (0)), .int (nI (0)), .int (nI (0)), .int (nI (0)), .int (nI (0)), .int (nI (0)), .int (nI (0)), .int (nI (0)), .int (nI (0))]))] ++ [(q0, .inl (c 0, 96, .inl (fun k => nI (kc 0 k))))]) ++ [(q1, .inl (c 0, 12, .inl (fun k => nI (kc 0 k))))]) ++ [(q2, .inl (c 0, 12, .inl (fun k => nI (kc 0 k))))]) ++ [(q3, .inl (c 0, 12, .inl (fun k => nI (kc 0 k))))]) ++ [(q4, .inl (c 0, 24, .inl (fun k => nI (kc 0 k))))]) H _ := hW
  refine lv_aload_n S.1 S.2.1 dX1_init_44 rfl (lv_at hl 0 rfl) ?_
  refine lv_bipush (v := nI (24)) S.1 S.2.1 dX1_init_45 rfl ?_
  refine kn_newI S hK hW hA (List.mem_of_getElem? (i := 4) rfl) (by decide) (Nat.le_of_ble_eq_true rfl) (Nat.le_of_ble_eq_true rfl) dX1_init_47 (fun q5 H hW => ?_)
  have hW : kw D A s.heap (((((([(h, .inr (1, [.ref q0, .ref q1, .ref q2, .ref q3, .ref q4, .null, .null, .int (nI (0)), .int (nI (0)), .int (nI (0)), .int (nI (0)), .int (nI (0)), .int (nI (0)), .int (nI (0)), .int (nI (0)), .int (nI (0)), .int (nI (0))]))] ++ [(q0, .inl (c 0, 96, .inl (fun k => nI (kc 0 k))))]) ++ [(q1, .inl (c 0, 12, .inl (fun k => nI (kc 0 k))))]) ++ [(q2, .inl (c 0, 12, .inl (fun k => nI (kc 0 k))))]) ++ [(q3, .inl (c 0, 12, .inl (fun k => nI (kc 0 k))))]) ++ [(q4, .inl (c 0, 24, .inl (fun k => nI (kc 0 k))))]) ++ [(q5, .inl (c 0, 24, .inl (fun k => nI (kc 0 k))))]) H _ := hW
  refine kx_putF S hK hW hin2 hinX1 tyX1_ok nmX1 0 1 rfl rfl 5 (by decide) (List.mem_of_getElem? (i := 10) rfl) rfl rfl (v := .ref q5) rfl rfl (Nat.le_of_ble_eq_true rfl) dX1_init_49 (fun H locs hW => ?_)
  have hW : kw D A s.heap (((((([(h, .inr (1, [.ref q0, .ref q1, .ref q2, .ref q3, .ref q4, .ref q5, .null, .int (nI (0)), .int (nI (0)), .int (nI (0)), .int (nI (0)), .int (nI (0)), .int (nI (0)), .int (nI (0)), .int (nI (0)), .int (nI (0)), .int (nI (0))]))] ++ [(q0, .inl (c 0, 96, .inl (fun k => nI (kc 0 k))))]) ++ [(q1, .inl (c 0, 12, .inl (fun k => nI (kc 0 k))))]) ++ [(q2, .inl (c 0, 12, .inl (fun k => nI (kc 0 k))))]) ++ [(q3, .inl (c 0, 12, .inl (fun k => nI (kc 0 k))))]) ++ [(q4, .inl (c 0, 24, .inl (fun k => nI (kc 0 k))))]) ++ [(q5, .inl (c 0, 24, .inl (fun k => nI (kc 0 k))))]) H _ := hW
  refine lv_aload_n S.1 S.2.1 dX1_init_52 rfl (lv_at hl 0 rfl) ?_
  refine lv_iconst (v := nI (5)) S.1 S.2.1 dX1_init_53 rfl ?_
  refine kn_newI S hK hW hA (List.mem_of_getElem? (i := 4) rfl) (by decide) (Nat.le_of_ble_eq_true rfl) (Nat.le_of_ble_eq_true rfl) dX1_init_54 (fun q6 H hW => ?_)
  have hW : kw D A s.heap ((((((([(h, .inr (1, [.ref q0, .ref q1, .ref q2, .ref q3, .ref q4, .ref q5, .null, .int (nI (0)), .int (nI (0)), .int (nI (0)), .int (nI (0)), .int (nI (0)), .int (nI (0)), .int (nI (0)), .int (nI (0)), .int (nI (0)), .int (nI (0))]))] ++ [(q0, .inl (c 0, 96, .inl (fun k => nI (kc 0 k))))]) ++ [(q1, .inl (c 0, 12, .inl (fun k => nI (kc 0 k))))]) ++ [(q2, .inl (c 0, 12, .inl (fun k => nI (kc 0 k))))]) ++ [(q3, .inl (c 0, 12, .inl (fun k => nI (kc 0 k))))]) ++ [(q4, .inl (c 0, 24, .inl (fun k => nI (kc 0 k))))]) ++ [(q5, .inl (c 0, 24, .inl (fun k => nI (kc 0 k))))]) ++ [(q6, .inl (c 0, 5, .inl (fun k => nI (kc 0 k))))]) H _ := hW
  refine lv_dup S.1 S.2.1 dX1_init_56 rfl ?_
  refine lv_iconst (v := nI (0)) S.1 S.2.1 dX1_init_57 rfl ?_
  refine lv_bipush (v := nI (40)) S.1 S.2.1 dX1_init_58 rfl ?_
  refine kn_ast S hK hW 7 (f := kc 0) rfl (by decide) (by decide) dX1_init_60 (fun H locs hW => ?_)
  have hW : kw D A s.heap ((((((([(h, .inr (1, [.ref q0, .ref q1, .ref q2, .ref q3, .ref q4, .ref q5, .null, .int (nI (0)), .int (nI (0)), .int (nI (0)), .int (nI (0)), .int (nI (0)), .int (nI (0)), .int (nI (0)), .int (nI (0)), .int (nI (0)), .int (nI (0))]))] ++ [(q0, .inl (c 0, 96, .inl (fun k => nI (kc 0 k))))]) ++ [(q1, .inl (c 0, 12, .inl (fun k => nI (kc 0 k))))]) ++ [(q2, .inl (c 0, 12, .inl (fun k => nI (kc 0 k))))]) ++ [(q3, .inl (c 0, 12, .inl (fun k => nI (kc 0 k))))]) ++ [(q4, .inl (c 0, 24, .inl (fun k => nI (kc 0 k))))]) ++ [(q5, .inl (c 0, 24, .inl (fun k => nI (kc 0 k))))]) ++ [(q6, .inl (c 0, 5, .inl (fun k => nI ((fu (kc 0) 0 40) k))))]) H _ := hW
  refine lv_dup S.1 S.2.1 dX1_init_61 rfl ?_
  refine lv_iconst (v := nI (1)) S.1 S.2.1 dX1_init_62 rfl ?_
  refine lv_bipush (v := nI (6)) S.1 S.2.1 dX1_init_63 rfl ?_
  refine kn_ast S hK hW 7 (f := fu (kc 0) 0 40) rfl (by decide) (by decide) dX1_init_65 (fun H locs hW => ?_)
  have hW : kw D A s.heap ((((((([(h, .inr (1, [.ref q0, .ref q1, .ref q2, .ref q3, .ref q4, .ref q5, .null, .int (nI (0)), .int (nI (0)), .int (nI (0)), .int (nI (0)), .int (nI (0)), .int (nI (0)), .int (nI (0)), .int (nI (0)), .int (nI (0)), .int (nI (0))]))] ++ [(q0, .inl (c 0, 96, .inl (fun k => nI (kc 0 k))))]) ++ [(q1, .inl (c 0, 12, .inl (fun k => nI (kc 0 k))))]) ++ [(q2, .inl (c 0, 12, .inl (fun k => nI (kc 0 k))))]) ++ [(q3, .inl (c 0, 12, .inl (fun k => nI (kc 0 k))))]) ++ [(q4, .inl (c 0, 24, .inl (fun k => nI (kc 0 k))))]) ++ [(q5, .inl (c 0, 24, .inl (fun k => nI (kc 0 k))))]) ++ [(q6, .inl (c 0, 5, .inl (fun k => nI ((fu (fu (kc 0) 0 40) 1 6) k))))]) H _ := hW
  refine lv_dup S.1 S.2.1 dX1_init_66 rfl ?_
  refine lv_iconst (v := nI (2)) S.1 S.2.1 dX1_init_67 rfl ?_
  refine lv_iconst (v := nI (0)) S.1 S.2.1 dX1_init_68 rfl ?_
  refine kn_ast S hK hW 7 (f := fu (fu (kc 0) 0 40) 1 6) rfl (by decide) (by decide) dX1_init_69 (fun H locs hW => ?_)
  have hW : kw D A s.heap ((((((([(h, .inr (1, [.ref q0, .ref q1, .ref q2, .ref q3, .ref q4, .ref q5, .null, .int (nI (0)), .int (nI (0)), .int (nI (0)), .int (nI (0)), .int (nI (0)), .int (nI (0)), .int (nI (0)), .int (nI (0)), .int (nI (0)), .int (nI (0))]))] ++ [(q0, .inl (c 0, 96, .inl (fun k => nI (kc 0 k))))]) ++ [(q1, .inl (c 0, 12, .inl (fun k => nI (kc 0 k))))]) ++ [(q2, .inl (c 0, 12, .inl (fun k => nI (kc 0 k))))]) ++ [(q3, .inl (c 0, 12, .inl (fun k => nI (kc 0 k))))]) ++ [(q4, .inl (c 0, 24, .inl (fun k => nI (kc 0 k))))]) ++ [(q5, .inl (c 0, 24, .inl (fun k => nI (kc 0 k))))]) ++ [(q6, .inl (c 0, 5, .inl (fun k => nI ((fu (fu (fu (kc 0) 0 40) 1 6) 2 0) k))))]) H _ := hW
  refine lv_dup S.1 S.2.1 dX1_init_70 rfl ?_
  refine lv_iconst (v := nI (3)) S.1 S.2.1 dX1_init_71 rfl ?_
  refine lv_iconst (v := nI (1)) S.1 S.2.1 dX1_init_72 rfl ?_
  refine kn_ast S hK hW 7 (f := fu (fu (fu (kc 0) 0 40) 1 6) 2 0) rfl (by decide) (by decide) dX1_init_73 (fun H locs hW => ?_)
  have hW : kw D A s.heap ((((((([(h, .inr (1, [.ref q0, .ref q1, .ref q2, .ref q3, .ref q4, .ref q5, .null, .int (nI (0)), .int (nI (0)), .int (nI (0)), .int (nI (0)), .int (nI (0)), .int (nI (0)), .int (nI (0)), .int (nI (0)), .int (nI (0)), .int (nI (0))]))] ++ [(q0, .inl (c 0, 96, .inl (fun k => nI (kc 0 k))))]) ++ [(q1, .inl (c 0, 12, .inl (fun k => nI (kc 0 k))))]) ++ [(q2, .inl (c 0, 12, .inl (fun k => nI (kc 0 k))))]) ++ [(q3, .inl (c 0, 12, .inl (fun k => nI (kc 0 k))))]) ++ [(q4, .inl (c 0, 24, .inl (fun k => nI (kc 0 k))))]) ++ [(q5, .inl (c 0, 24, .inl (fun k => nI (kc 0 k))))]) ++ [(q6, .inl (c 0, 5, .inl (fun k => nI ((fu (fu (fu (fu (kc 0) 0 40) 1 6) 2 0) 3 1) k))))]) H _ := hW
  refine lv_dup S.1 S.2.1 dX1_init_74 rfl ?_
  refine lv_iconst (v := nI (4)) S.1 S.2.1 dX1_init_75 rfl ?_
  refine lv_bipush (v := nI (6)) S.1 S.2.1 dX1_init_76 rfl ?_
  refine kn_ast S hK hW 7 (f := fu (fu (fu (fu (kc 0) 0 40) 1 6) 2 0) 3 1) rfl (by decide) (by decide) dX1_init_78 (fun H locs hW => ?_)
  have hW : kw D A s.heap ((((((([(h, .inr (1, [.ref q0, .ref q1, .ref q2, .ref q3, .ref q4, .ref q5, .null, .int (nI (0)), .int (nI (0)), .int (nI (0)), .int (nI (0)), .int (nI (0)), .int (nI (0)), .int (nI (0)), .int (nI (0)), .int (nI (0)), .int (nI (0))]))] ++ [(q0, .inl (c 0, 96, .inl (fun k => nI (kc 0 k))))]) ++ [(q1, .inl (c 0, 12, .inl (fun k => nI (kc 0 k))))]) ++ [(q2, .inl (c 0, 12, .inl (fun k => nI (kc 0 k))))]) ++ [(q3, .inl (c 0, 12, .inl (fun k => nI (kc 0 k))))]) ++ [(q4, .inl (c 0, 24, .inl (fun k => nI (kc 0 k))))]) ++ [(q5, .inl (c 0, 24, .inl (fun k => nI (kc 0 k))))]) ++ [(q6, .inl (c 0, 5, .inl (fun k => nI ((fu (fu (fu (fu (fu (kc 0) 0 40) 1 6) 2 0) 3 1) 4 6) k))))]) H _ := hW
  refine kx_putF S hK hW hin2 hinX1 tyX1_ok nmX1 0 1 rfl rfl 6 (by decide) (List.mem_of_getElem? (i := 11) rfl) rfl rfl (v := .ref q6) rfl rfl (Nat.le_of_ble_eq_true rfl) dX1_init_79 (fun H locs hW => ?_)
  have hW : kw D A s.heap ((((((([(h, .inr (1, [.ref q0, .ref q1, .ref q2, .ref q3, .ref q4, .ref q5, .ref q6, .int (nI (0)), .int (nI (0)), .int (nI (0)), .int (nI (0)), .int (nI (0)), .int (nI (0)), .int (nI (0)), .int (nI (0)), .int (nI (0)), .int (nI (0))]))] ++ [(q0, .inl (c 0, 96, .inl (fun k => nI (kc 0 k))))]) ++ [(q1, .inl (c 0, 12, .inl (fun k => nI (kc 0 k))))]) ++ [(q2, .inl (c 0, 12, .inl (fun k => nI (kc 0 k))))]) ++ [(q3, .inl (c 0, 12, .inl (fun k => nI (kc 0 k))))]) ++ [(q4, .inl (c 0, 24, .inl (fun k => nI (kc 0 k))))]) ++ [(q5, .inl (c 0, 24, .inl (fun k => nI (kc 0 k))))]) ++ [(q6, .inl (c 0, 5, .inl (fun k => nI ((fu (fu (fu (fu (fu (kc 0) 0 40) 1 6) 2 0) 3 1) 4 6) k))))]) H _ := hW
  refine lv_aload_n S.1 S.2.1 dX1_init_82 rfl (lv_at hl 0 rfl) ?_
  refine lv_iconst (v := nI (0)) S.1 S.2.1 dX1_init_83 rfl ?_
  refine kx_put S hK hW hinX1 tyX1_ok nmX1 0 1 rfl rfl 7 (by decide) (List.mem_of_getElem? (i := 12) rfl) rfl (v := .int (nI (0))) rfl rfl (Nat.le_of_ble_eq_true rfl) dX1_init_84 (fun H locs hW => ?_)
  have hW : kw D A s.heap ((((((([(h, .inr (1, [.ref q0, .ref q1, .ref q2, .ref q3, .ref q4, .ref q5, .ref q6, .int (nI (0)), .int (nI (0)), .int (nI (0)), .int (nI (0)), .int (nI (0)), .int (nI (0)), .int (nI (0)), .int (nI (0)), .int (nI (0)), .int (nI (0))]))] ++ [(q0, .inl (c 0, 96, .inl (fun k => nI (kc 0 k))))]) ++ [(q1, .inl (c 0, 12, .inl (fun k => nI (kc 0 k))))]) ++ [(q2, .inl (c 0, 12, .inl (fun k => nI (kc 0 k))))]) ++ [(q3, .inl (c 0, 12, .inl (fun k => nI (kc 0 k))))]) ++ [(q4, .inl (c 0, 24, .inl (fun k => nI (kc 0 k))))]) ++ [(q5, .inl (c 0, 24, .inl (fun k => nI (kc 0 k))))]) ++ [(q6, .inl (c 0, 5, .inl (fun k => nI ((fu (fu (fu (fu (fu (kc 0) 0 40) 1 6) 2 0) 3 1) 4 6) k))))]) H _ := hW
  refine lv_aload_n S.1 S.2.1 dX1_init_87 rfl (lv_at hl 0 rfl) ?_
  refine lv_bipush (v := nI (31)) S.1 S.2.1 dX1_init_88 rfl ?_
  refine kx_put S hK hW hinX1 tyX1_ok nmX1 0 1 rfl rfl 8 (by decide) (List.mem_of_getElem? (i := 13) rfl) rfl (v := .int (nI (31))) rfl rfl (Nat.le_of_ble_eq_true rfl) dX1_init_90 (fun H locs hW => ?_)
  have hW : kw D A s.heap ((((((([(h, .inr (1, [.ref q0, .ref q1, .ref q2, .ref q3, .ref q4, .ref q5, .ref q6, .int (nI (0)), .int (nI (31)), .int (nI (0)), .int (nI (0)), .int (nI (0)), .int (nI (0)), .int (nI (0)), .int (nI (0)), .int (nI (0)), .int (nI (0))]))] ++ [(q0, .inl (c 0, 96, .inl (fun k => nI (kc 0 k))))]) ++ [(q1, .inl (c 0, 12, .inl (fun k => nI (kc 0 k))))]) ++ [(q2, .inl (c 0, 12, .inl (fun k => nI (kc 0 k))))]) ++ [(q3, .inl (c 0, 12, .inl (fun k => nI (kc 0 k))))]) ++ [(q4, .inl (c 0, 24, .inl (fun k => nI (kc 0 k))))]) ++ [(q5, .inl (c 0, 24, .inl (fun k => nI (kc 0 k))))]) ++ [(q6, .inl (c 0, 5, .inl (fun k => nI ((fu (fu (fu (fu (fu (kc 0) 0 40) 1 6) 2 0) 3 1) 4 6) k))))]) H _ := hW
  refine lv_aload_n S.1 S.2.1 dX1_init_93 rfl (lv_at hl 0 rfl) ?_
  refine lv_iconst (v := nI (0)) S.1 S.2.1 dX1_init_94 rfl ?_
  refine kx_put S hK hW hinX1 tyX1_ok nmX1 0 1 rfl rfl 9 (by decide) (List.mem_of_getElem? (i := 14) rfl) rfl (v := .int (nI (0))) rfl rfl (Nat.le_of_ble_eq_true rfl) dX1_init_95 (fun H locs hW => ?_)
  have hW : kw D A s.heap ((((((([(h, .inr (1, [.ref q0, .ref q1, .ref q2, .ref q3, .ref q4, .ref q5, .ref q6, .int (nI (0)), .int (nI (31)), .int (nI (0)), .int (nI (0)), .int (nI (0)), .int (nI (0)), .int (nI (0)), .int (nI (0)), .int (nI (0)), .int (nI (0))]))] ++ [(q0, .inl (c 0, 96, .inl (fun k => nI (kc 0 k))))]) ++ [(q1, .inl (c 0, 12, .inl (fun k => nI (kc 0 k))))]) ++ [(q2, .inl (c 0, 12, .inl (fun k => nI (kc 0 k))))]) ++ [(q3, .inl (c 0, 12, .inl (fun k => nI (kc 0 k))))]) ++ [(q4, .inl (c 0, 24, .inl (fun k => nI (kc 0 k))))]) ++ [(q5, .inl (c 0, 24, .inl (fun k => nI (kc 0 k))))]) ++ [(q6, .inl (c 0, 5, .inl (fun k => nI ((fu (fu (fu (fu (fu (kc 0) 0 40) 1 6) 2 0) 3 1) 4 6) k))))]) H _ := hW
  refine lv_aload_n S.1 S.2.1 dX1_init_98 rfl (lv_at hl 0 rfl) ?_
  refine lv_iconst (v := nI (0)) S.1 S.2.1 dX1_init_99 rfl ?_
  refine kx_put S hK hW hinX1 tyX1_ok nmX1 0 1 rfl rfl 10 (by decide) (List.mem_of_getElem? (i := 15) rfl) rfl (v := .int (nI (0))) rfl rfl (Nat.le_of_ble_eq_true rfl) dX1_init_100 (fun H locs hW => ?_)
  have hW : kw D A s.heap ((((((([(h, .inr (1, [.ref q0, .ref q1, .ref q2, .ref q3, .ref q4, .ref q5, .ref q6, .int (nI (0)), .int (nI (31)), .int (nI (0)), .int (nI (0)), .int (nI (0)), .int (nI (0)), .int (nI (0)), .int (nI (0)), .int (nI (0)), .int (nI (0))]))] ++ [(q0, .inl (c 0, 96, .inl (fun k => nI (kc 0 k))))]) ++ [(q1, .inl (c 0, 12, .inl (fun k => nI (kc 0 k))))]) ++ [(q2, .inl (c 0, 12, .inl (fun k => nI (kc 0 k))))]) ++ [(q3, .inl (c 0, 12, .inl (fun k => nI (kc 0 k))))]) ++ [(q4, .inl (c 0, 24, .inl (fun k => nI (kc 0 k))))]) ++ [(q5, .inl (c 0, 24, .inl (fun k => nI (kc 0 k))))]) ++ [(q6, .inl (c 0, 5, .inl (fun k => nI ((fu (fu (fu (fu (fu (kc 0) 0 40) 1 6) 2 0) 3 1) 4 6) k))))]) H _ := hW
  refine lv_aload_n S.1 S.2.1 dX1_init_103 rfl (lv_at hl 0 rfl) ?_
  refine lv_iconst (v := nI (5)) S.1 S.2.1 dX1_init_104 rfl ?_
  refine kx_put S hK hW hinX1 tyX1_ok nmX1 0 1 rfl rfl 11 (by decide) (List.mem_of_getElem? (i := 16) rfl) rfl (v := .int (nI (5))) rfl rfl (Nat.le_of_ble_eq_true rfl) dX1_init_105 (fun H locs hW => ?_)
  have hW : kw D A s.heap ((((((([(h, .inr (1, [.ref q0, .ref q1, .ref q2, .ref q3, .ref q4, .ref q5, .ref q6, .int (nI (0)), .int (nI (31)), .int (nI (0)), .int (nI (0)), .int (nI (5)), .int (nI (0)), .int (nI (0)), .int (nI (0)), .int (nI (0)), .int (nI (0))]))] ++ [(q0, .inl (c 0, 96, .inl (fun k => nI (kc 0 k))))]) ++ [(q1, .inl (c 0, 12, .inl (fun k => nI (kc 0 k))))]) ++ [(q2, .inl (c 0, 12, .inl (fun k => nI (kc 0 k))))]) ++ [(q3, .inl (c 0, 12, .inl (fun k => nI (kc 0 k))))]) ++ [(q4, .inl (c 0, 24, .inl (fun k => nI (kc 0 k))))]) ++ [(q5, .inl (c 0, 24, .inl (fun k => nI (kc 0 k))))]) ++ [(q6, .inl (c 0, 5, .inl (fun k => nI ((fu (fu (fu (fu (fu (kc 0) 0 40) 1 6) 2 0) 3 1) 4 6) k))))]) H _ := hW
  refine lv_aload_n S.1 S.2.1 dX1_init_108 rfl (lv_at hl 0 rfl) ?_
  refine lv_iconst (v := nI (0)) S.1 S.2.1 dX1_init_109 rfl ?_
  refine kx_put S hK hW hinX1 tyX1_ok nmX1 0 1 rfl rfl 12 (by decide) (List.mem_of_getElem? (i := 17) rfl) rfl (v := .int (nI (0))) rfl rfl (Nat.le_of_ble_eq_true rfl) dX1_init_110 (fun H locs hW => ?_)
  have hW : kw D A s.heap ((((((([(h, .inr (1, [.ref q0, .ref q1, .ref q2, .ref q3, .ref q4, .ref q5, .ref q6, .int (nI (0)), .int (nI (31)), .int (nI (0)), .int (nI (0)), .int (nI (5)), .int (nI (0)), .int (nI (0)), .int (nI (0)), .int (nI (0)), .int (nI (0))]))] ++ [(q0, .inl (c 0, 96, .inl (fun k => nI (kc 0 k))))]) ++ [(q1, .inl (c 0, 12, .inl (fun k => nI (kc 0 k))))]) ++ [(q2, .inl (c 0, 12, .inl (fun k => nI (kc 0 k))))]) ++ [(q3, .inl (c 0, 12, .inl (fun k => nI (kc 0 k))))]) ++ [(q4, .inl (c 0, 24, .inl (fun k => nI (kc 0 k))))]) ++ [(q5, .inl (c 0, 24, .inl (fun k => nI (kc 0 k))))]) ++ [(q6, .inl (c 0, 5, .inl (fun k => nI ((fu (fu (fu (fu (fu (kc 0) 0 40) 1 6) 2 0) 3 1) 4 6) k))))]) H _ := hW
  refine lv_aload_n S.1 S.2.1 dX1_init_113 rfl (lv_at hl 0 rfl) ?_
  refine lv_iconst (v := nI (0)) S.1 S.2.1 dX1_init_114 rfl ?_
  refine kx_put S hK hW hinX1 tyX1_ok nmX1 0 1 rfl rfl 13 (by decide) (List.mem_of_getElem? (i := 18) rfl) rfl (v := .int (nI (0))) rfl rfl (Nat.le_of_ble_eq_true rfl) dX1_init_115 (fun H locs hW => ?_)
  have hW : kw D A s.heap ((((((([(h, .inr (1, [.ref q0, .ref q1, .ref q2, .ref q3, .ref q4, .ref q5, .ref q6, .int (nI (0)), .int (nI (31)), .int (nI (0)), .int (nI (0)), .int (nI (5)), .int (nI (0)), .int (nI (0)), .int (nI (0)), .int (nI (0)), .int (nI (0))]))] ++ [(q0, .inl (c 0, 96, .inl (fun k => nI (kc 0 k))))]) ++ [(q1, .inl (c 0, 12, .inl (fun k => nI (kc 0 k))))]) ++ [(q2, .inl (c 0, 12, .inl (fun k => nI (kc 0 k))))]) ++ [(q3, .inl (c 0, 12, .inl (fun k => nI (kc 0 k))))]) ++ [(q4, .inl (c 0, 24, .inl (fun k => nI (kc 0 k))))]) ++ [(q5, .inl (c 0, 24, .inl (fun k => nI (kc 0 k))))]) ++ [(q6, .inl (c 0, 5, .inl (fun k => nI ((fu (fu (fu (fu (fu (kc 0) 0 40) 1 6) 2 0) 3 1) 4 6) k))))]) H _ := hW
  refine lv_aload_n S.1 S.2.1 dX1_init_118 rfl (lv_at hl 0 rfl) ?_
  refine lv_iconst (v := nI (0)) S.1 S.2.1 dX1_init_119 rfl ?_
  refine kx_put S hK hW hinX1 tyX1_ok nmX1 0 1 rfl rfl 14 (by decide) (List.mem_of_getElem? (i := 19) rfl) rfl (v := .int (nI (0))) rfl rfl (Nat.le_of_ble_eq_true rfl) dX1_init_120 (fun H locs hW => ?_)
  have hW : kw D A s.heap ((((((([(h, .inr (1, [.ref q0, .ref q1, .ref q2, .ref q3, .ref q4, .ref q5, .ref q6, .int (nI (0)), .int (nI (31)), .int (nI (0)), .int (nI (0)), .int (nI (5)), .int (nI (0)), .int (nI (0)), .int (nI (0)), .int (nI (0)), .int (nI (0))]))] ++ [(q0, .inl (c 0, 96, .inl (fun k => nI (kc 0 k))))]) ++ [(q1, .inl (c 0, 12, .inl (fun k => nI (kc 0 k))))]) ++ [(q2, .inl (c 0, 12, .inl (fun k => nI (kc 0 k))))]) ++ [(q3, .inl (c 0, 12, .inl (fun k => nI (kc 0 k))))]) ++ [(q4, .inl (c 0, 24, .inl (fun k => nI (kc 0 k))))]) ++ [(q5, .inl (c 0, 24, .inl (fun k => nI (kc 0 k))))]) ++ [(q6, .inl (c 0, 5, .inl (fun k => nI ((fu (fu (fu (fu (fu (kc 0) 0 40) 1 6) 2 0) 3 1) 4 6) k))))]) H _ := hW
  refine lv_aload_n S.1 S.2.1 dX1_init_123 rfl (lv_at hl 0 rfl) ?_
  refine lv_iconst (v := nI (0)) S.1 S.2.1 dX1_init_124 rfl ?_
  refine kx_put S hK hW hinX1 tyX1_ok nmX1 0 1 rfl rfl 15 (by decide) (List.mem_of_getElem? (i := 20) rfl) rfl (v := .int (nI (0))) rfl rfl (Nat.le_of_ble_eq_true rfl) dX1_init_125 (fun H locs hW => ?_)
  have hW : kw D A s.heap ((((((([(h, .inr (1, [.ref q0, .ref q1, .ref q2, .ref q3, .ref q4, .ref q5, .ref q6, .int (nI (0)), .int (nI (31)), .int (nI (0)), .int (nI (0)), .int (nI (5)), .int (nI (0)), .int (nI (0)), .int (nI (0)), .int (nI (0)), .int (nI (0))]))] ++ [(q0, .inl (c 0, 96, .inl (fun k => nI (kc 0 k))))]) ++ [(q1, .inl (c 0, 12, .inl (fun k => nI (kc 0 k))))]) ++ [(q2, .inl (c 0, 12, .inl (fun k => nI (kc 0 k))))]) ++ [(q3, .inl (c 0, 12, .inl (fun k => nI (kc 0 k))))]) ++ [(q4, .inl (c 0, 24, .inl (fun k => nI (kc 0 k))))]) ++ [(q5, .inl (c 0, 24, .inl (fun k => nI (kc 0 k))))]) ++ [(q6, .inl (c 0, 5, .inl (fun k => nI ((fu (fu (fu (fu (fu (kc 0) 0 40) 1 6) 2 0) 3 1) 4 6) k))))]) H _ := hW
  refine lv_aload_n S.1 S.2.1 dX1_init_128 rfl (lv_at hl 0 rfl) ?_
  refine lv_iconst (v := nI (0)) S.1 S.2.1 dX1_init_129 rfl ?_
  refine kx_put S hK hW hinX1 tyX1_ok nmX1 0 1 rfl rfl 16 (by decide) (List.mem_of_getElem? (i := 21) rfl) rfl (v := .int (nI (0))) rfl rfl (Nat.le_of_ble_eq_true rfl) dX1_init_130 (fun H locs hW => ?_)
  have hW : kw D A s.heap ((((((([(h, .inr (1, [.ref q0, .ref q1, .ref q2, .ref q3, .ref q4, .ref q5, .ref q6, .int (nI (0)), .int (nI (31)), .int (nI (0)), .int (nI (0)), .int (nI (5)), .int (nI (0)), .int (nI (0)), .int (nI (0)), .int (nI (0)), .int (nI (0))]))] ++ [(q0, .inl (c 0, 96, .inl (fun k => nI (kc 0 k))))]) ++ [(q1, .inl (c 0, 12, .inl (fun k => nI (kc 0 k))))]) ++ [(q2, .inl (c 0, 12, .inl (fun k => nI (kc 0 k))))]) ++ [(q3, .inl (c 0, 12, .inl (fun k => nI (kc 0 k))))]) ++ [(q4, .inl (c 0, 24, .inl (fun k => nI (kc 0 k))))]) ++ [(q5, .inl (c 0, 24, .inl (fun k => nI (kc 0 k))))]) ++ [(q6, .inl (c 0, 5, .inl (fun k => nI ((fu (fu (fu (fu (fu (kc 0) 0 40) 1 6) 2 0) 3 1) 4 6) k))))]) H _ := hW
  exact hret 133 _ _ _ _ _ _ dX1_init_133 hW ⟨fun i => [h, q0, q1, q2, q3, q4, q5, q6].getD i 0, rfl, rfl⟩ (Nat.le_of_ble_eq_true rfl) (Nat.le_of_ble_eq_true rfl)
