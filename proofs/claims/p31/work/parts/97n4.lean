/-! ===== the law: its loop, its start ===== -/
theorem nC.same {u U : State} (hv : U.vm = u.vm) (h : nC u) : nC U := by
  have ha : u.vm.Alike U.vm := by rw [hv]; exact Vm.Alike.refl u.vm
  exact ⟨va_tabs rfl hv.symm h.1, va_tabs rfl hv.symm h.2.1, h.2.2.moved ha⟩
set_option maxRecDepth 100000 in
theorem law_loop {p : Program} {l : Launch} {e : Env} {s : State} {m : MethodId} {below : List Frame} {meth : Method} {cd : Code} {D : va_G} {c : Nat → ClassId} {b L : Nat} {xs : Nat → Int32} {a : Nat → Nat} {bb : Nat → Nat → Nat} {d : Nat → Nat} {g : Nat → Nat → Nat} {o : Nat} (hfp : fpOk2) (hfl : l.stackTraces = false) (C : LC p s m cd b L xs D c) (hr : meth.sig.returnType = ret) (hlocks : meth.locks = false) :
    ∀ (n i cells slots : Nat) (θ : Nat → Nat → Nat → Nat) (ρ κ : Nat → Nat → Nat) (η : Nat → Nat → Nat → Nat) (ρ1 κ1 : Nat → Nat → Nat) (f : Nat → Nat) (H : Heap) (locs : List Loc) (ls : Array Slot), i + n = 56 → cells ≤ 200 + 3 * i → slots ≤ 4200 + 18 * i → η 0 = θ 0 → Iv (θ 0) (5760 * i) → κ 2 0 < 6 → κ 3 0 ≤ 6 → κ1 2 0 < 6 → κ1 3 0 ≤ 6 → kw D (fun q => s.heap.size ≤ q) s.heap (LW c a bb θ ρ κ d g η ρ1 κ1 o f) H locs → lv_has ls 10 [(4, .int (nI i)), (3, .ref o), (2, .ref (d 0)), (1, .ref (a 0)), (0, .ref b)] → W p l e room_1 s m #[Value.ref b] below meth cd H locs cells slots (lw_Z below #[Value.ref b] s) (F0 m 23 ls []) := by
  obtain ⟨S, hK, hN, hSt, hV, hX, hbl, hL⟩ := id C
  have hbA : ¬ (fun q : Nat => s.heap.size ≤ q) b := Nat.not_le.mpr hbl
  have hA : ∀ q, s.heap.size ≤ q → (fun q => s.heap.size ≤ q) q := fun _ h => h
  intro n
  induction n with
  | zero =>
    intro i cells slots θ ρ κ η ρ1 κ1 f H locs ls hn hc hs he iv k2 k3 k4 k5 hW hl
    have hi : i = 56 := by omega
    subst hi
    refine lv_iload S.1 S.2.1 dL_law_23 (lv_at hl 0 rfl) ?_
    refine lv_bipush (v := nI 56) S.1 S.2.1 dL_law_25 rfl ?_
    refine kn_ge S (tgt := 282) dL_law_27 (by decide) (by decide) (by decide) (fun _ => ?_) (fun q => absurd q (by decide))
    refine lv_aload_n S.1 S.2.1 dL_law_282 rfl (lv_at hl 3 rfl) ?_
    refine lq_teeth (rest := []) hfp C hl.1 hW iv (by decide) (Nat.le_of_ble_eq_true rfl) dL_law_283 ⟨by omega, by omega⟩ (fun H locs hW => ?_)
    refine k_top (y := 1) (by decide) ?_
    exact va_forget hW.2.2.2.2 (W.widen (k := 600104) (n := 7301314) (by omega) (by omega) (W.base (lw_ret (d0 := s.drawn) (Drawn.sameBut.refl s.drawn lw_cs) S.1 S.2.1 hr hlocks dL_law_286)))
  | succ n ih =>
    intro i cells slots θ ρ κ η ρ1 κ1 f H locs ls hn hc hs he iv k2 k3 k4 k5 hW hl
    have hi : i < 56 := by omega
    have fin : LKn p l e s m below meth cd (lw_Z below #[Value.ref b] s) b D c a bb d g o i (5760 * i + 5760) (cells + 3) (slots + 18) := fun θ ρ κ η ρ1 κ1 f H locs ls he iv k2 k3 k4 k5 hW hl => by
      refine lv_iinc (v := nI (i + 1)) (lv' := [(4, .int (nI (i + 1))), (3, .ref o), (2, .ref (d 0)), (1, .ref (a 0)), (0, .ref b)]) S.1 S.2.1 dL_law_276 hl (k := 0) rfl (nI_add i 1) (by decide) rfl (fun ls hl => ?_)
      refine lv_goto (tgt := 23) S.1 S.2.1 dL_law_279 (by decide) ?_
      exact ih (i + 1) (cells + 3) (slots + 18) θ ρ κ η ρ1 κ1 f H locs ls (by omega) (by omega) (by omega) he (iv.mono (by omega)) k2 k3 k4 k5 hW hl
    have hcs : cells + 3 ≤ 600104 ∧ slots + 18 ≤ 7301314 := ⟨by omega, by omega⟩
    have hcs0 : cells ≤ 600104 ∧ slots ≤ 7301314 := ⟨by omega, by omega⟩
    have hT : 5760 * i + 5760 < 100000000 := by omega
    refine lv_iload S.1 S.2.1 dL_law_23 (lv_at hl 0 rfl) ?_
    refine lv_bipush (v := nI 56) S.1 S.2.1 dL_law_25 rfl ?_
    refine kn_ge S (tgt := 282) dL_law_27 (by decide) (by omega) (by decide) (fun q => absurd q (by omega)) (fun _ => ?_)
    refine lv_iload S.1 S.2.1 dL_law_30 (lv_at hl 0 rfl) ?_
    refine lv_iconst (v := nI 5) S.1 S.2.1 dL_law_32 rfl ?_
    refine kn_ne S (tgt := 51) dL_law_33 (by decide) (by omega) (by decide) (fun _ => ?_) (fun _ => ?_)
    · refine lv_aload_n S.1 S.2.1 dL_law_51 rfl (lv_at hl 4 rfl) ?_
      refine lv_iload S.1 S.2.1 dL_law_52 (lv_at hl 0 rfl) ?_
      refine k_cell S hK hl.1 hA hW hL hi hX hbl hbA gL_law_L_cell ⟨⟨rfl, rfl⟩, Nat.le_of_ble_eq_true rfl, Nat.le_of_ble_eq_true rfl⟩ (Nat.le_of_ble_eq_true rfl) dL_law_54 hcs0 (fun H locs hW => ?_)
      exact law_57 hfp hfl C hi hT fin hcs (Nat.le_refl _) (Nat.le_refl _) he iv k2 k3 k4 k5 hW hl
    · refine lv_aload_n S.1 S.2.1 dL_law_36 rfl (lv_at hl 4 rfl) ?_
      refine lv_iload S.1 S.2.1 dL_law_37 (lv_at hl 0 rfl) ?_
      refine k_cell S hK hl.1 hA hW hL hi hX hbl hbA gL_law_L_cell ⟨⟨rfl, rfl⟩, Nat.le_of_ble_eq_true rfl, Nat.le_of_ble_eq_true rfl⟩ (Nat.le_of_ble_eq_true rfl) dL_law_39 hcs0 (fun H locs hW => ?_)
      refine lv_bipush (v := nI 4294967264) S.1 S.2.1 dL_law_42 rfl ?_
      refine lv_iand S.1 S.2.1 dL_law_44 ?_
      refine lv_bipush (v := nI 17) S.1 S.2.1 dL_law_45 rfl ?_
      refine lv_ior S.1 S.2.1 dL_law_47 ?_
      refine lv_goto (tgt := 57) S.1 S.2.1 dL_law_48 (by decide) ?_
      exact law_57 hfp hfl C hi hT fin hcs (Nat.le_refl _) (Nat.le_refl _) he iv k2 k3 k4 k5 hW hl
set_option maxRecDepth 100000 in
set_option maxHeartbeats 4000000 in
theorem whole_walk (hfp : fpOk2) {p : Program} {e : Env} {s : State} {m : MethodId} {below : List Frame} {meth : Method} {c : Code} (l : Launch) (hflags : l.flags = flags0) {b L : Nat} {xs : Nat → Int32} (hL : L ≤ 260) (C0 : lw_At p s m meth c b L xs) : W p l e room_1 s m #[Value.ref b] below meth c s.heap [] 0 0 (lw_Z below #[Value.ref b] s) (entryFrame m ([Value.ref b] : List Value).toArray 10) := by
  obtain ⟨hx, hb, hr, hml, hown, hts, hX, hbl, hlocks, hgv⟩ := id C0
  have hfl : l.stackTraces = false := by unfold Launch.stackTraces; rw [hflags]; rfl
  obtain ⟨D, cc, hK⟩ := lw_kn hts
  have hC := lw_nC hts
  have S : CallFix p m c cL_law 10 s #[Value.ref b] wsL_law RL := ⟨hx, hb, hml, hown, fun w hw => hts w (wsL_law_in w hw)⟩
  have C : LC p s m c b L xs D cc := ⟨S, hK, lw_nst hts, lw_str hts hgv, lw_stat hts hgv, hX, hbl, hL⟩
  have hA : ∀ q, s.heap.size ≤ q → (fun q => s.heap.size ≤ q) q := fun _ h => h
  have hinX2 : ∀ w ∈ u_ws RX2 TX2 10, w ∈ wsL_law := inlX2
  have hW : kw D (fun q => s.heap.size ≤ q) s.heap [] s.heap [] := ⟨fun k q h => by simp at h, ⟨fun i j p q h => by simp at h, fun k q h => by simp at h⟩, va_S.rf⟩
  have hl := lv_entry ([.ref b]) (n := 10) (Nat.le_of_ble_eq_true rfl)
  rw [lg_entry_eq]
  generalize (lg_sl ([.ref b]) ++ List.replicate (10 - (lg_sl ([.ref b])).length) Slot.unset).toArray = ls at hl ⊢
  have hl : lv_has ls 10 [(0, .ref b)] := hl
  refine kx_new (ci := 2) S hK hW hA hinX2 tyX2_ok (List.mem_of_getElem? (i := 0) rfl) (List.mem_of_getElem? (i := 1) rfl) (List.mem_of_getElem? (i := 2) rfl) rfl dfX2 (Nat.le_of_ble_eq_true rfl) (Nat.le_of_ble_eq_true rfl) dL_law_0 (fun q2 H hW => ?_)
  refine lv_dup S.1 S.2.1 dL_law_3 rfl ?_
  refine k_IC (wl := []) (rest := [.ref q2]) S hK hl.1 hW (fun w1 => KFr.rgt hW hA) (iX2_init l D cc q2 _) (fun U g mk a h => nC.same (u := U) rfl h) (fun U hWm => ⟨va_Nw.warmM hWm hC.1, va_Nw.warmM hWm hC.2.1, hC.2.2.moved hWm.alike⟩) gL_law_X2_init rfl rfl (List.mem_of_getElem? (i := 4) rfl) (List.mem_of_getElem? (i := 2) rfl) (List.mem_of_getElem? (i := 5) rfl) pdX2_init ⟨⟨rfl, rfl⟩, (Nat.le_of_ble_eq_true rfl), (Nat.le_of_ble_eq_true rfl)⟩ (Nat.le_of_ble_eq_true rfl) dL_law_4 ⟨(Nat.le_of_ble_eq_true rfl), (Nat.le_of_ble_eq_true rfl)⟩ (fun w H locs hw hW2 => ?_)
  obtain ⟨a, bb, ea, rfl⟩ := hw
  subst ea
  have hW := hW2
  refine lv_astore_n (lv' := [(1, .ref (a 0)), (0, .ref b)]) S.1 S.2.1 dL_law_7 rfl hl (by decide) rfl (fun ls hl => ?_)
  refine kx_new (ci := 2) S hK hW hA hinX2 tyX2_ok (List.mem_of_getElem? (i := 0) rfl) (List.mem_of_getElem? (i := 1) rfl) (List.mem_of_getElem? (i := 2) rfl) rfl dfX2 (Nat.le_of_ble_eq_true rfl) (Nat.le_of_ble_eq_true rfl) dL_law_8 (fun q3 H hW => ?_)
  refine lv_dup S.1 S.2.1 dL_law_11 rfl ?_
  refine k_IC (wl := [] ++ wP cc a bb (fun _ => iS) (fun _ => kc 0) (fun _ => kc 0)) (rest := [.ref q3]) S hK hl.1 hW (fun w1 => KFr.rgt hW hA) (iX2_init l D cc q3 _) (fun U g mk a h => nC.same (u := U) rfl h) (fun U hWm => ⟨va_Nw.warmM hWm hC.1, va_Nw.warmM hWm hC.2.1, hC.2.2.moved hWm.alike⟩) gL_law_X2_init rfl rfl (List.mem_of_getElem? (i := 4) rfl) (List.mem_of_getElem? (i := 2) rfl) (List.mem_of_getElem? (i := 5) rfl) pdX2_init ⟨⟨rfl, rfl⟩, (Nat.le_of_ble_eq_true rfl), (Nat.le_of_ble_eq_true rfl)⟩ (Nat.le_of_ble_eq_true rfl) dL_law_12 ⟨(Nat.le_of_ble_eq_true rfl), (Nat.le_of_ble_eq_true rfl)⟩ (fun w H locs hw hW3 => ?_)
  obtain ⟨d, g, ea, rfl⟩ := hw
  subst ea
  have hW := hW3
  refine lv_astore_n (lv' := [(2, .ref (d 0)), (1, .ref (a 0)), (0, .ref b)]) S.1 S.2.1 dL_law_15 rfl hl (by decide) rfl (fun ls hl => ?_)
  refine lv_iconst (v := nI 1) S.1 S.2.1 dL_law_16 rfl ?_
  refine kn_newI S hK hW hA (List.mem_of_getElem? (i := 3) rfl) (N := 1) (by decide) (Nat.le_of_ble_eq_true rfl) (Nat.le_of_ble_eq_true rfl) dL_law_17 (fun o H hW => ?_)
  refine lv_astore_n (lv' := [(3, .ref o), (2, .ref (d 0)), (1, .ref (a 0)), (0, .ref b)]) S.1 S.2.1 dL_law_19 rfl hl (by decide) rfl (fun ls hl => ?_)
  refine lv_iconst (v := nI 0) S.1 S.2.1 dL_law_20 rfl ?_
  refine lv_istore (lv' := [(4, .int (nI 0)), (3, .ref o), (2, .ref (d 0)), (1, .ref (a 0)), (0, .ref b)]) S.1 S.2.1 dL_law_21 hl (by decide) rfl (fun ls hl => ?_)
  rw [List.append_assoc] at hW
  exact law_loop hfp hfl C hr hlocks 56 0 _ _ (fun _ => iS) (fun _ => kc 0) (fun _ => kc 0) (fun _ => iS) (fun _ => kc 0) (fun _ => kc 0) (fun _ => 0) H locs ls (by decide) (Nat.le_of_ble_eq_true rfl) (Nat.le_of_ble_eq_true rfl) rfl Iv.i (by decide) (by decide) (by decide) (by decide) hW hl
