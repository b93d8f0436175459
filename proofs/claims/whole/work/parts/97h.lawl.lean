/-! ===== the law: its loop, its start ===== -/
theorem nC.same {u U : State} (hv : U.vm = u.vm) (h : nC u) : nC U := by
  have ha : u.vm.Alike U.vm := by rw [hv]; exact Vm.Alike.refl u.vm
  exact ⟨va_tabs rfl hv.symm h.1, va_tabs rfl hv.symm h.2.1, h.2.2.moved ha⟩
set_option maxRecDepth 100000 in
theorem law_loop {p : Program} {l : Launch} {e : Env} {s : State} {m : MethodId} {below : List Frame} {meth : Method} {cd : Code} {D : va_G} {c : Nat → ClassId} {b L : Nat} {xs : Nat → Int32} {a : Nat → Nat} {bb : Nat → Nat → Nat} {a' : Nat → Nat} {o : Nat} (hfp : fpOk) (hfl : l.stackTraces = false) (C : LC p s m cd b L xs D c) (hr : meth.sig.returnType = ret) (hlocks : meth.locks = false) :
    ∀ (n i cells slots : Nat) (f : Nat → Int64) (θ : Nat → Nat → Nat → Nat) (ρ κ φ : Nat → Nat → Nat) (δ : Int64) (H : Heap) (locs : List Loc) (ls : Array Slot), L + 1 ≤ i + n → i ≤ L → cells ≤ 90 + i → slots ≤ 4000 + 6 * i → Rl θ ρ κ φ (1152 * i) → kw D (fun q => s.heap.size ≤ q) s.heap (wM c a' φ δ ++ (wP c a bb θ ρ κ ++ wO c o f)) H locs → lv_has ls 9 [(4, .int (nI i)), (3, .ref o), (2, .ref (a' 0)), (1, .ref (a 0)), (0, .ref b)] → W p l e room_1 s m #[Value.ref b] below meth cd H locs cells slots (lw_Z below #[Value.ref b] s) (F0 m 23 ls []) := by
  obtain ⟨S, hK, hN, hSt, hV, hX, hbl, hL⟩ := id C
  have hbA : ¬ (fun q : Nat => s.heap.size ≤ q) b := Nat.not_le.mpr hbl
  intro n
  induction n with
  | zero => intro i cells slots f θ ρ κ φ δ H locs ls h1 h2; omega
  | succ n ih =>
    intro i cells slots f θ ρ κ φ δ H locs ls hn hiL hc hs h hW hl
    refine lv_iload S.1 S.2.1 dL_law_23 (lv_at hl 0 rfl) ?_
    refine lv_aload_n S.1 S.2.1 dL_law_25 rfl (lv_at hl 4 rfl) ?_
    refine va_slen (A := fun q => s.heap.size ≤ q) S.1 S.2.1 hX hbl hbA hW.2.2 dL_law_26 ?_
    refine lv_iconst (v := nI 5) S.1 S.2.1 dL_law_27 rfl ?_
    refine lv_isub (x := nI L) S.1 S.2.1 dL_law_28 ?_
    refine lv_icmp_gt (tgt := 1689) S.1 S.2.1 dL_law_29 (by decide) (fun _ => ?_) (fun q => ?_)
    · refine lv_iconst (v := 1) S.1 S.2.1 dL_law_1689 rfl ?_
      exact va_forget hW.2.2.2.2 (W.widen (k := 601024) (n := 7293033) (by omega) (by omega) (W.base (lw_ret (d0 := s.drawn) (Drawn.sameBut.refl s.drawn lw_cs) S.1 S.2.1 hr hlocks dL_law_1690)))
    · have hi5 : i + 5 ≤ L := by
        rw [Int32.lt_iff_toInt_lt, pk_sub_toInt (by omega) (by omega), nI_toInt (by omega)] at q
        omega
      have hcs : cells + 1 ≤ 601024 ∧ slots + 6 ≤ 7293033 := ⟨by omega, by omega⟩
      have hT : 1152 * i + 5760 < 200000000 := by omega
      have fin : LK p l e s m below meth cd (lw_Z below #[Value.ref b] s) b i D c a bb a' o (1152 * i + 5760) (cells + 1) (slots + 6) := fun θ ρ κ φ δ f H locs ls hR hW hl => by
        refine lv_iinc (v := nI (i + 5)) (lv' := [(4, .int (nI (i + 5))), (3, .ref o), (2, .ref (a' 0)), (1, .ref (a 0)), (0, .ref b)]) S.1 S.2.1 dL_law_1683 hl (k := 0) rfl (nI_add i 5) (by decide) rfl (fun ls hl => ?_)
        refine lv_goto (tgt := 23) S.1 S.2.1 dL_law_1686 (by decide) ?_
        exact ih (i + 5) (cells + 1) (slots + 6) f θ ρ κ φ δ H locs ls (by omega) hi5 (by omega) (by omega) (hR.mono (by omega)) hW hl
      refine lv_aload_n S.1 S.2.1 dL_law_32 rfl (lv_at hl 4 rfl) ?_
      refine lv_iload S.1 S.2.1 dL_law_33 (lv_at hl 0 rfl) ?_
      refine va_sld (A := fun q => s.heap.size ≤ q) S.1 S.2.1 hX hbl hbA hW.2.2 (vp_in_nI (by omega) (by omega)) dL_law_35 ?_
      rw [nI_clamp (by omega)]
      refine lv_bipush (v := nI 31) S.1 S.2.1 dL_law_36 rfl ?_
      refine lv_iand S.1 S.2.1 dL_law_38 ?_
      obtain ⟨k, hk, ek⟩ := and31 (xs i)
      rw [ek]
      rcases (show k = 0 ∨ k = 1 ∨ k = 2 ∨ k = 3 ∨ k = 4 ∨ k = 5 ∨ k = 6 ∨ k = 7 ∨ k = 8 ∨ k = 9 ∨ k = 10 ∨ k = 11 ∨ k = 12 ∨ k = 13 ∨ k = 14 ∨ k = 15 ∨ k = 16 ∨ k = 17 ∨ k = 18 ∨ k = 19 ∨ k = 20 ∨ k = 21 ∨ k = 22 ∨ k = 23 ∨ k = 24 ∨ k = 25 ∨ k = 26 ∨ k = 27 ∨ 28 ≤ k by omega) with rfl | rfl | rfl | rfl | rfl | rfl | rfl | rfl | rfl | rfl | rfl | rfl | rfl | rfl | rfl | rfl | rfl | rfl | rfl | rfl | rfl | rfl | rfl | rfl | rfl | rfl | rfl | rfl | h28
      · exact lv_tableIn (tgt := 164) S.1 S.2.1 dL_law_39 (by decide) (by decide) rfl (by decide) (lc_pin hfl C h hT hi5 hW hl hcs fin)
      · exact lv_tableIn (tgt := 244) S.1 S.2.1 dL_law_39 (by decide) (by decide) rfl (by decide) (lc_pull hfl C h hT hi5 hW hl hcs fin)
      · exact lv_tableIn (tgt := 336) S.1 S.2.1 dL_law_39 (by decide) (by decide) rfl (by decide) (lc_copy hfl C h hT hi5 hW hl hcs fin)
      · exact lv_tableIn (tgt := 428) S.1 S.2.1 dL_law_39 (by decide) (by decide) rfl (by decide) (lc_wind hfl C h hT hi5 hW hl hcs fin)
      · exact lv_tableIn (tgt := 484) S.1 S.2.1 dL_law_39 (by decide) (by decide) rfl (by decide) (lc_vanes hfl C h hT hi5 hW hl hcs fin)
      · exact lv_tableIn (tgt := 540) S.1 S.2.1 dL_law_39 (by decide) (by decide) rfl (by decide) (lc_shift hfl C h hT hi5 hW hl hcs fin)
      · exact lv_tableIn (tgt := 596) S.1 S.2.1 dL_law_39 (by decide) (by decide) rfl (by decide) (lc_play hfl C h hT hi5 hW hl hcs fin)
      · exact lv_tableIn (tgt := 652) S.1 S.2.1 dL_law_39 (by decide) (by decide) rfl (by decide) (lc_mend hfl C h hT hi5 hW hl hcs fin)
      · exact lv_tableIn (tgt := 708) S.1 S.2.1 dL_law_39 (by decide) (by decide) rfl (by decide) (lc_set hfl C h hT hi5 hW hl hcs fin)
      · exact lv_tableIn (tgt := 776) S.1 S.2.1 dL_law_39 (by decide) (by decide) rfl (by decide) (lc_append hfl C h hT hi5 hW hl hcs fin)
      · exact lv_tableIn (tgt := 832) S.1 S.2.1 dL_law_39 (by decide) (by decide) rfl (by decide) (lc_clearBuffer hfl C h hT hi5 hW hl hcs fin)
      · exact lv_tableIn (tgt := 845) S.1 S.2.1 dL_law_39 (by decide) (by decide) rfl (by decide) (lc_firstError hfl C h hT hi5 hW hl hcs fin)
      · exact lv_tableIn (tgt := 858) S.1 S.2.1 dL_law_39 (by decide) (by decide) rfl (by decide) (lc_pins hfl C h hT hi5 hW hl hcs fin)
      · exact lv_tableIn (tgt := 902) S.1 S.2.1 dL_law_39 (by decide) (by decide) rfl (by decide) (lc_undo hfl C h hT hi5 hW hl hcs fin)
      · exact lv_tableIn (tgt := 946) S.1 S.2.1 dL_law_39 (by decide) (by decide) rfl (by decide) (lc_keep hfl C h hT hi5 hW hl hcs fin)
      · exact lv_tableIn (tgt := 959) S.1 S.2.1 dL_law_39 (by decide) (by decide) rfl (by decide) (lc_restore hfl C h hT hi5 hW hl hcs fin)
      · exact lv_tableIn (tgt := 1003) S.1 S.2.1 dL_law_39 (by decide) (by decide) rfl (by decide) (lc_whyNot hfl C h hT hi5 hW hl hcs fin)
      · exact lv_tableIn (tgt := 1083) S.1 S.2.1 dL_law_39 (by decide) (by decide) rfl (by decide) (lc_next hfl C h hT hi5 hW hl hcs fin)
      · exact lv_tableIn (tgt := 1163) S.1 S.2.1 dL_law_39 (by decide) (by decide) rfl (by decide) (lc_tune hfl C h hT hi5 hW hl hcs fin)
      · exact lv_tableIn (tgt := 1231) S.1 S.2.1 dL_law_39 (by decide) (by decide) rfl (by decide) (lc_chord hfl C h hT hi5 hW hl hcs fin)
      · exact lv_tableIn (tgt := 1299) S.1 S.2.1 dL_law_39 (by decide) (by decide) rfl (by decide) (lc_tooth hfl C h hT hi5 hW hl hcs fin)
      · exact lv_tableIn (tgt := 1367) S.1 S.2.1 dL_law_39 (by decide) (by decide) rfl (by decide) (lc_note hfl C h hT hi5 hW hl hcs fin)
      · exact lv_tableIn (tgt := 1435) S.1 S.2.1 dL_law_39 (by decide) (by decide) rfl (by decide) (lc_count hfl C h hT hi5 hW hl hcs fin)
      · exact lv_tableIn (tgt := 1491) S.1 S.2.1 dL_law_39 (by decide) (by decide) rfl (by decide) (lc_ifPlayed hfl C h hT hi5 hW hl hcs fin)
      · exact lv_tableIn (tgt := 1559) S.1 S.2.1 dL_law_39 (by decide) (by decide) rfl (by decide) (lc_fewestVanes hfl C h hT hi5 hW hl hcs fin)
      · exact lv_tableIn (tgt := 1572) S.1 S.2.1 dL_law_39 (by decide) (by decide) rfl (by decide) (lc_windFor hfl C h hT hi5 hW hl hcs fin)
      · exact lv_tableIn (tgt := 1628) S.1 S.2.1 dL_law_39 (by decide) (by decide) rfl (by decide) (lc_clean hfp hfl C h hT hi5 hW hl hcs fin)
      · exact lv_tableIn (tgt := 1669) S.1 S.2.1 dL_law_39 (by decide) (by decide) rfl (by decide) (lc_digest hfp hfl C h hT hi5 hW hl hcs fin)
      · refine lv_tableOut (tgt := 1683) S.1 S.2.1 dL_law_39 (Or.inr ?_) (by decide) ?_
        · rw [nI_toInt (by omega)]; omega
        · exact W.widen (Nat.le_add_right _ _) (Nat.le_add_right _ _) (fin θ ρ κ φ δ f H locs ls (h.mono (Nat.le_add_right _ _)) hW hl)
set_option maxRecDepth 100000 in
set_option maxHeartbeats 4000000 in
theorem whole_walk (hfp : fpOk) {p : Program} {e : Env} {s : State} {m : MethodId} {below : List Frame} {meth : Method} {c : Code} (l : Launch) (hflags : l.flags = flags0) {b L : Nat} {xs : Nat → Int32} (hL : L ≤ 2560) (C0 : lw_At p s m meth c b L xs) : W p l e room_1 s m #[Value.ref b] below meth c s.heap [] 0 0 (lw_Z below #[Value.ref b] s) (entryFrame m ([Value.ref b] : List Value).toArray 9) := by
  obtain ⟨hx, hb, hr, hml, hown, hts, hX, hbl, hlocks, hgv⟩ := id C0
  have hfl : l.stackTraces = false := by unfold Launch.stackTraces; rw [hflags]; rfl
  obtain ⟨D, cc, hK⟩ := lw_kn hts
  have hC := lw_nC hts
  have S : CallFix p m c cL_law 9 s #[Value.ref b] wsL_law RL := ⟨hx, hb, hml, hown, fun w hw => hts w (wsL_law_in w hw)⟩
  have C : LC p s m c b L xs D cc := ⟨S, hK, lw_nst hts, lw_str hts hgv, lw_stat hts hgv, hX, hbl, hL⟩
  have hA : ∀ q, s.heap.size ≤ q → (fun q => s.heap.size ≤ q) q := fun _ h => h
  have hinX2 : ∀ w ∈ u_ws RX2 TX2 10, w ∈ wsL_law := inlX2
  have hinX3 : ∀ w ∈ u_ws RX3 TX3 13, w ∈ wsL_law := inlX3
  have hW : kw D (fun q => s.heap.size ≤ q) s.heap [] s.heap [] := ⟨fun k q h => by simp at h, ⟨fun i j p q h => by simp at h, fun k q h => by simp at h⟩, va_S.rf⟩
  have hl := lv_entry ([.ref b]) (n := 9) (Nat.le_of_ble_eq_true rfl)
  rw [lg_entry_eq]
  generalize (lg_sl ([.ref b]) ++ List.replicate (9 - (lg_sl ([.ref b])).length) Slot.unset).toArray = ls at hl ⊢
  have hl : lv_has ls 9 [(0, .ref b)] := hl
  refine kx_new (ci := 2) S hK hW hA hinX2 tyX2_ok (List.mem_of_getElem? (i := 0) rfl) (List.mem_of_getElem? (i := 1) rfl) (List.mem_of_getElem? (i := 2) rfl) rfl dfX2 (Nat.le_of_ble_eq_true rfl) (Nat.le_of_ble_eq_true rfl) dL_law_0 (fun q2 H hW => ?_)
  refine lv_dup S.1 S.2.1 dL_law_3 rfl ?_
  refine k_IC (wl := []) (rest := [.ref q2]) S hK hl.1 hW (fun w1 => KFr.rgt hW hA) (iX2_init l D cc q2 _) (fun U g mk a h => nC.same (u := U) rfl h) (fun U hWm => ⟨va_Nw.warmM hWm hC.1, va_Nw.warmM hWm hC.2.1, hC.2.2.moved hWm.alike⟩) gL_law_X2_init rfl rfl (List.mem_of_getElem? (i := 7) rfl) (List.mem_of_getElem? (i := 2) rfl) (List.mem_of_getElem? (i := 8) rfl) pdX2_init ⟨⟨rfl, rfl⟩, (Nat.le_of_ble_eq_true rfl), (Nat.le_of_ble_eq_true rfl)⟩ (Nat.le_of_ble_eq_true rfl) dL_law_4 ⟨(Nat.le_of_ble_eq_true rfl), (Nat.le_of_ble_eq_true rfl)⟩ (fun w H locs hw hW2 => ?_)
  obtain ⟨a, bb, ea, rfl⟩ := hw
  subst ea
  have hW := hW2
  refine lv_astore_n (lv' := [(1, .ref (a 0)), (0, .ref b)]) S.1 S.2.1 dL_law_7 rfl hl (by decide) rfl (fun ls hl => ?_)
  refine kx_new (ci := 3) S hK hW hA hinX3 tyX3_ok (List.mem_of_getElem? (i := 3) rfl) (List.mem_of_getElem? (i := 4) rfl) (List.mem_of_getElem? (i := 5) rfl) rfl dfX3 (Nat.le_of_ble_eq_true rfl) (Nat.le_of_ble_eq_true rfl) dL_law_8 (fun q3 H hW => ?_)
  refine lv_dup S.1 S.2.1 dL_law_11 rfl ?_
  refine k_IC (wl := [] ++ wP cc a bb (fun _ => iS) (fun _ => kc 0) (fun _ => kc 0)) (rest := [.ref q3]) S hK hl.1 hW (fun w1 => KFr.rgt hW hA) (iX3_init l D cc q3 _) (fun _ _ _ _ h => h) (fun _ _ => trivial) gL_law_X3_init rfl rfl (List.mem_of_getElem? (i := 59) rfl) (List.mem_of_getElem? (i := 5) rfl) (List.mem_of_getElem? (i := 60) rfl) pdX3_init ⟨⟨rfl, rfl⟩, (Nat.le_of_ble_eq_true rfl), (Nat.le_of_ble_eq_true rfl)⟩ (Nat.le_of_ble_eq_true rfl) dL_law_12 ⟨(Nat.le_of_ble_eq_true rfl), (Nat.le_of_ble_eq_true rfl)⟩ (fun w H locs hw hW3 => ?_)
  obtain ⟨a', ea, rfl⟩ := hw
  subst ea
  have hW := hW3
  refine lv_astore_n (lv' := [(2, .ref (a' 0)), (1, .ref (a 0)), (0, .ref b)]) S.1 S.2.1 dL_law_15 rfl hl (by decide) rfl (fun ls hl => ?_)
  refine lv_iconst (v := nI 1) S.1 S.2.1 dL_law_16 rfl ?_
  refine kn_newJ S hK hW hA (List.mem_of_getElem? (i := 6) rfl) (N := 1) (by decide) (Nat.le_of_ble_eq_true rfl) (Nat.le_of_ble_eq_true rfl) dL_law_17 (fun o H hW => ?_)
  refine lv_astore_n (lv' := [(3, .ref o), (2, .ref (a' 0)), (1, .ref (a 0)), (0, .ref b)]) S.1 S.2.1 dL_law_19 rfl hl (by decide) rfl (fun ls hl => ?_)
  refine lv_iconst (v := nI 0) S.1 S.2.1 dL_law_20 rfl ?_
  refine lv_istore (lv' := [(4, .int (nI 0)), (3, .ref o), (2, .ref (a' 0)), (1, .ref (a 0)), (0, .ref b)]) S.1 S.2.1 dL_law_21 hl (by decide) rfl (fun ls hl => ?_)
  have hW := hW.perm (ws' := wM cc a' iM 0 ++ (wP cc a bb (fun _ => iS) (fun _ => kc 0) (fun _ => kc 0) ++ wO cc o (fun _ => 0))) ((List.Perm.append_right (wO cc o (fun _ => 0)) (List.perm_append_comm (l₁ := wP cc a bb (fun _ => iS) (fun _ => kc 0) (fun _ => kc 0)) (l₂ := wM cc a' iM 0))).trans (by rw [List.append_assoc]))
  exact law_loop hfp hfl C hr hlocks (L + 1) 0 _ _ _ _ _ _ _ _ H locs ls (by omega) (Nat.zero_le _) (Nat.le_of_ble_eq_true rfl) (Nat.le_of_ble_eq_true rfl) Rl.start hW hl
