/-! ===== the law's wrappers: what they answer where the method goes through or throws ===== -/
def wO (c : Nat → ClassId) (o : Nat) (f : Nat → Int64) : va_W := [(o, .inl (c 3, 1, .inr (.inl f)))]
section KWT
variable {p : Program} {l : Launch} {e : Env} {R : Room} {s : State} {m : MethodId} {args : Array Value} {below : List Frame} {meth : Method} {cd : Code} {H : Heap} {locs : List Loc} {cells slots : Nat} {Q : State → Prop} {pc : Nat} {ls : Array Slot} {rest : List Value} {cc : ByteArray} {D : va_G} {c : Nat → ClassId} {A : Nat → Prop} {H0 : Heap} {w1 : va_W} {nL : Nat} {Ts : List Cond} {own : String}
theorem wk_tail (S : CallFix p m cd cc nL s args Ts own) (hK : va_K D vwCl (vT c) s) {o : Nat} {f : Nat → Int64} (hW : kw D A H0 (w1 ++ wO c o f) H locs) {r : Int32} (d1 : decode cc pc = .ok (.i2l, 1)) (d2 : decode cc (pc + 1) = .ok (.lastore, 1))
    (kk : ∀ (H1 : Heap) (locs1 : List Loc), kw D A H0 (w1 ++ wO c o (vp_updL f 0 r.toInt64)) H1 locs1 → W p l e R s m args below meth cd H1 locs1 cells slots Q (F0 m (pc + 2) ls rest)) : W p l e R s m args below meth cd H locs cells slots Q (F0 m pc ls (.int r :: .int (nI 0) :: .ref o :: rest)) := by
  refine lv_i2l S.1 S.2.1 d1 rfl ?_
  have hq : (w1 ++ wO c o f)[w1.length]? = some (o, .inl (c 3, 1, .inr (.inl f))) := by simp [wO]
  have hs : ∀ g : Nat → Int64, (w1 ++ wO c o f).set w1.length (o, .inl (c 3, 1, .inr (.inl g))) = w1 ++ wO c o g := fun g => by simp [wO]
  refine va_last S.1 S.2.1 hK hW.1 hW.2.1 hW.2.2 w1.length 3 hq rfl (vp_in_nI (by omega) (by omega)) d2 (fun H1 locs1 h1 h2 h3 => ?_)
  rw [nI_clamp (by omega), hs] at h1 h2
  exact kk H1 locs1 ⟨h1, h2, h3⟩
end KWT
abbrev rmL_pin : Room := { frames := 7, cells := 1, slots := 6, locals := 105 }
theorem pdL_pin : kPd yL_pin 5 := by decide +kernel
set_option maxRecDepth 100000 in
theorem wL_pin_k (l : Launch) (D : va_G) (c : Nat → ClassId) (o : Nat) (f : Nat → Int64) (sz : Nat) (wd w1 : va_W) (b0 : Nat) {fs : List Value} (p0 p1 p2 : Int32) (r : Int32) (he : wd[0]? = some (b0, .inr (2, fs))) (hM : MI3 l yX2_pin wsX2_pin rmX2_pin D c sz wd [.ref b0, .int p0, .int p1, .int p2] r w1) : MW l yL_pin wsL_pin rmL_pin D c sz (wd ++ wO c o f) [.ref b0, .int p0, .int p1, .int p2, .ref o] (nI 0) (w1 ++ wO c o (vp_updL f 0 r.toInt64)) := by
  refine MW.ofH (cc := cL_pin) (maxL := 6) (hh := [(0, 12, 15, 13), (0, 12, 19, 15)]) (by decide) rfl (Nat.le_of_ble_eq_true rfl) ?_
  intro P e s m below meth cd A Q ls hsz S hK hN hSt hV htab hW hA hl hret
  subst hsz
  have hl : lv_has ls 6 [(0, .ref b0), (1, .int p0), (2, .int p1), (3, .int p2), (4, .ref o)] := hl
  refine lv_aload S.1 S.2.1 dL_pin_0 (lv_at hl 4 rfl) ?_
  refine lv_iconst (v := nI 0) S.1 S.2.1 dL_pin_2 rfl ?_
  refine lv_aload_n S.1 S.2.1 dL_pin_3 rfl (lv_at hl 0 rfl) ?_
  refine lv_iload_n S.1 S.2.1 dL_pin_4 rfl (lv_at hl 1 rfl) ?_
  refine lv_iload_n S.1 S.2.1 dL_pin_5 rfl (lv_at hl 2 rfl) ?_
  refine lv_iload_n S.1 S.2.1 dL_pin_6 rfl (lv_at hl 3 rfl) ?_
  refine k_VI3 (rest := [.int (nI 0), .ref o]) S hK hl.1 hW (KFr.lft hW hA) hN hSt hV hM gL_pin_X2_pin rfl pdX2_pin ⟨⟨rfl, rfl⟩, Nat.le_of_ble_eq_true rfl, Nat.le_of_ble_eq_true rfl⟩ 0 2 he rfl rfl rfl (Nat.le_of_ble_eq_true rfl) dL_pin_7 ⟨Nat.le_of_ble_eq_true rfl, Nat.le_of_ble_eq_true rfl⟩ (fun H locs hW => ?_)
  refine wk_tail (rest := []) S hK hW dL_pin_10 dL_pin_11 (fun H locs hW => ?_)
  refine lv_goto (tgt := 23) S.1 S.2.1 dL_pin_12 (by decide) ?_
  refine lv_iconst (v := nI 0) S.1 S.2.1 dL_pin_23 rfl ?_
  exact hret 24 _ _ _ _ _ _ _ dL_pin_24 hW rfl rfl (Nat.zero_le _) (Nat.zero_le _)
set_option maxRecDepth 100000 in
theorem wL_pin_x1 (l : Launch) (D : va_G) (c : Nat → ClassId) (o : Nat) (f : Nat → Int64) (sz : Nat) (wd w1 : va_W) (b0 : Nat) {fs : List Value} (p0 p1 p2 : Int32) (he : wd[0]? = some (b0, .inr (2, fs))) (hM : MX l yX2_pin wsX2_pin rmX2_pin_x D c sz wd [.ref b0, .int p0, .int p1, .int p2] xI w1) : MW l yL_pin wsL_pin rmL_pin D c sz (wd ++ wO c o f) [.ref b0, .int p0, .int p1, .int p2, .ref o] (nI 1) (w1 ++ wO c o f) := by
  refine MW.ofH (cc := cL_pin) (maxL := 6) (hh := [(0, 12, 15, 13), (0, 12, 19, 15)]) (by decide) rfl (Nat.le_of_ble_eq_true rfl) ?_
  intro P e s m below meth cd A Q ls hsz S hK hN hSt hV htab hW hA hl hret
  subst hsz
  have hl : lv_has ls 6 [(0, .ref b0), (1, .int p0), (2, .int p1), (3, .int p2), (4, .ref o)] := hl
  refine lv_aload S.1 S.2.1 dL_pin_0 (lv_at hl 4 rfl) ?_
  refine lv_iconst (v := nI 0) S.1 S.2.1 dL_pin_2 rfl ?_
  refine lv_aload_n S.1 S.2.1 dL_pin_3 rfl (lv_at hl 0 rfl) ?_
  refine lv_iload_n S.1 S.2.1 dL_pin_4 rfl (lv_at hl 1 rfl) ?_
  refine lv_iload_n S.1 S.2.1 dL_pin_5 rfl (lv_at hl 2 rfl) ?_
  refine lv_iload_n S.1 S.2.1 dL_pin_6 rfl (lv_at hl 3 rfl) ?_
  refine k_VX (rest := [.int (nI 0), .ref o]) S hK hl.1 hW (KFr.lft hW hA) hN hSt hV hM gL_pin_X2_pin rfl pdX2_pin ⟨⟨rfl, rfl⟩, Nat.le_of_ble_eq_true rfl, Nat.le_of_ble_eq_true rfl⟩ 0 2 he rfl rfl rfl (Nat.le_of_ble_eq_true rfl) dL_pin_7 ⟨Nat.le_of_ble_eq_true rfl, Nat.le_of_ble_eq_true rfl⟩ (fun q9 ce H locs hW hq9 hv9 hcl => ?_)
  refine vx_catch (name := xI) S.2.2.2.1 [] _ _ (htab.trans rfl) (fun z hz => by cases hz) rfl (by decide) (S.2.2.2.2 (.classLink RL 13 xI) (List.mem_of_getElem? (i := 1) rfl)) (xcast (ik := _) (ic := _) (Or.inl ⟨rfl, rfl, rfl⟩) hSt _) hq9 hv9 hcl ?_
  refine lv_astore S.1 S.2.1 dL_pin_15 hl (by decide) rfl (fun ls hl => ?_)
  refine lv_iconst (v := nI 1) S.1 S.2.1 dL_pin_17 rfl ?_
  exact hret 18 _ _ _ _ _ _ _ dL_pin_18 hW rfl rfl (by decide) (by decide)
set_option maxRecDepth 100000 in
theorem wL_pin_x2 (l : Launch) (D : va_G) (c : Nat → ClassId) (o : Nat) (f : Nat → Int64) (sz : Nat) (wd w1 : va_W) (b0 : Nat) {fs : List Value} (p0 p1 p2 : Int32) (he : wd[0]? = some (b0, .inr (2, fs))) (hM : MX l yX2_pin wsX2_pin rmX2_pin_x D c sz wd [.ref b0, .int p0, .int p1, .int p2] xS w1) : MW l yL_pin wsL_pin rmL_pin D c sz (wd ++ wO c o f) [.ref b0, .int p0, .int p1, .int p2, .ref o] (nI 2) (w1 ++ wO c o f) := by
  refine MW.ofH (cc := cL_pin) (maxL := 6) (hh := [(0, 12, 15, 13), (0, 12, 19, 15)]) (by decide) rfl (Nat.le_of_ble_eq_true rfl) ?_
  intro P e s m below meth cd A Q ls hsz S hK hN hSt hV htab hW hA hl hret
  subst hsz
  have hl : lv_has ls 6 [(0, .ref b0), (1, .int p0), (2, .int p1), (3, .int p2), (4, .ref o)] := hl
  refine lv_aload S.1 S.2.1 dL_pin_0 (lv_at hl 4 rfl) ?_
  refine lv_iconst (v := nI 0) S.1 S.2.1 dL_pin_2 rfl ?_
  refine lv_aload_n S.1 S.2.1 dL_pin_3 rfl (lv_at hl 0 rfl) ?_
  refine lv_iload_n S.1 S.2.1 dL_pin_4 rfl (lv_at hl 1 rfl) ?_
  refine lv_iload_n S.1 S.2.1 dL_pin_5 rfl (lv_at hl 2 rfl) ?_
  refine lv_iload_n S.1 S.2.1 dL_pin_6 rfl (lv_at hl 3 rfl) ?_
  refine k_VX (rest := [.int (nI 0), .ref o]) S hK hl.1 hW (KFr.lft hW hA) hN hSt hV hM gL_pin_X2_pin rfl pdX2_pin ⟨⟨rfl, rfl⟩, Nat.le_of_ble_eq_true rfl, Nat.le_of_ble_eq_true rfl⟩ 0 2 he rfl rfl rfl (Nat.le_of_ble_eq_true rfl) dL_pin_7 ⟨Nat.le_of_ble_eq_true rfl, Nat.le_of_ble_eq_true rfl⟩ (fun q9 ce H locs hW hq9 hv9 hcl => ?_)
  refine vx_catch (name := xS) S.2.2.2.1 [_] _ _ (htab.trans rfl) (fun z hz => by rw [List.mem_singleton.mp hz]; exact Or.inr ⟨by decide, xI, S.2.2.2.2 (.classLink RL 13 xI) (List.mem_of_getElem? (i := 1) rfl), hSt.2.1.1⟩) rfl (by decide) (S.2.2.2.2 (.classLink RL 15 xS) (List.mem_of_getElem? (i := 2) rfl)) (xcast (ik := _) (ic := _) (Or.inr (Or.inl ⟨rfl, rfl, rfl⟩)) hSt _) hq9 hv9 hcl ?_
  refine lv_astore S.1 S.2.1 dL_pin_19 hl (by decide) rfl (fun ls hl => ?_)
  refine lv_iconst (v := nI 2) S.1 S.2.1 dL_pin_21 rfl ?_
  exact hret 22 _ _ _ _ _ _ _ dL_pin_22 hW rfl rfl (by decide) (by decide)
abbrev rmL_pull : Room := { frames := 7, cells := 1, slots := 6, locals := 106 }
theorem pdL_pull : kPd yL_pull 6 := by decide +kernel
set_option maxRecDepth 100000 in
theorem wL_pull_k (l : Launch) (D : va_G) (c : Nat → ClassId) (o : Nat) (f : Nat → Int64) (sz : Nat) (wd w1 : va_W) (b0 : Nat) {fs : List Value} (p0 p1 p2 p3 : Int32) (r : Int32) (he : wd[0]? = some (b0, .inr (2, fs))) (hM : MI3 l yX2_pull wsX2_pull rmX2_pull D c sz wd [.ref b0, .int p0, .int p1, .int p2, .int p3] r w1) : MW l yL_pull wsL_pull rmL_pull D c sz (wd ++ wO c o f) [.ref b0, .int p0, .int p1, .int p2, .int p3, .ref o] (nI 0) (w1 ++ wO c o (vp_updL f 0 r.toInt64)) := by
  refine MW.ofH (cc := cL_pull) (maxL := 7) (hh := [(0, 14, 17, 13), (0, 14, 21, 21)]) (by decide) rfl (Nat.le_of_ble_eq_true rfl) ?_
  intro P e s m below meth cd A Q ls hsz S hK hN hSt hV htab hW hA hl hret
  subst hsz
  have hl : lv_has ls 7 [(0, .ref b0), (1, .int p0), (2, .int p1), (3, .int p2), (4, .int p3), (5, .ref o)] := hl
  refine lv_aload S.1 S.2.1 dL_pull_0 (lv_at hl 5 rfl) ?_
  refine lv_iconst (v := nI 0) S.1 S.2.1 dL_pull_2 rfl ?_
  refine lv_aload_n S.1 S.2.1 dL_pull_3 rfl (lv_at hl 0 rfl) ?_
  refine lv_iload_n S.1 S.2.1 dL_pull_4 rfl (lv_at hl 1 rfl) ?_
  refine lv_iload_n S.1 S.2.1 dL_pull_5 rfl (lv_at hl 2 rfl) ?_
  refine lv_iload_n S.1 S.2.1 dL_pull_6 rfl (lv_at hl 3 rfl) ?_
  refine lv_iload S.1 S.2.1 dL_pull_7 (lv_at hl 4 rfl) ?_
  refine k_VI3 (rest := [.int (nI 0), .ref o]) S hK hl.1 hW (KFr.lft hW hA) hN hSt hV hM gL_pull_X2_pull rfl pdX2_pull ⟨⟨rfl, rfl⟩, Nat.le_of_ble_eq_true rfl, Nat.le_of_ble_eq_true rfl⟩ 0 2 he rfl rfl rfl (Nat.le_of_ble_eq_true rfl) dL_pull_9 ⟨Nat.le_of_ble_eq_true rfl, Nat.le_of_ble_eq_true rfl⟩ (fun H locs hW => ?_)
  refine wk_tail (rest := []) S hK hW dL_pull_12 dL_pull_13 (fun H locs hW => ?_)
  refine lv_goto (tgt := 25) S.1 S.2.1 dL_pull_14 (by decide) ?_
  refine lv_iconst (v := nI 0) S.1 S.2.1 dL_pull_25 rfl ?_
  exact hret 26 _ _ _ _ _ _ _ dL_pull_26 hW rfl rfl (Nat.zero_le _) (Nat.zero_le _)
set_option maxRecDepth 100000 in
theorem wL_pull_x1 (l : Launch) (D : va_G) (c : Nat → ClassId) (o : Nat) (f : Nat → Int64) (sz : Nat) (wd w1 : va_W) (b0 : Nat) {fs : List Value} (p0 p1 p2 p3 : Int32) (he : wd[0]? = some (b0, .inr (2, fs))) (hM : MX l yX2_pull wsX2_pull rmX2_pull_x D c sz wd [.ref b0, .int p0, .int p1, .int p2, .int p3] xI w1) : MW l yL_pull wsL_pull rmL_pull D c sz (wd ++ wO c o f) [.ref b0, .int p0, .int p1, .int p2, .int p3, .ref o] (nI 1) (w1 ++ wO c o f) := by
  refine MW.ofH (cc := cL_pull) (maxL := 7) (hh := [(0, 14, 17, 13), (0, 14, 21, 21)]) (by decide) rfl (Nat.le_of_ble_eq_true rfl) ?_
  intro P e s m below meth cd A Q ls hsz S hK hN hSt hV htab hW hA hl hret
  subst hsz
  have hl : lv_has ls 7 [(0, .ref b0), (1, .int p0), (2, .int p1), (3, .int p2), (4, .int p3), (5, .ref o)] := hl
  refine lv_aload S.1 S.2.1 dL_pull_0 (lv_at hl 5 rfl) ?_
  refine lv_iconst (v := nI 0) S.1 S.2.1 dL_pull_2 rfl ?_
  refine lv_aload_n S.1 S.2.1 dL_pull_3 rfl (lv_at hl 0 rfl) ?_
  refine lv_iload_n S.1 S.2.1 dL_pull_4 rfl (lv_at hl 1 rfl) ?_
  refine lv_iload_n S.1 S.2.1 dL_pull_5 rfl (lv_at hl 2 rfl) ?_
  refine lv_iload_n S.1 S.2.1 dL_pull_6 rfl (lv_at hl 3 rfl) ?_
  refine lv_iload S.1 S.2.1 dL_pull_7 (lv_at hl 4 rfl) ?_
  refine k_VX (rest := [.int (nI 0), .ref o]) S hK hl.1 hW (KFr.lft hW hA) hN hSt hV hM gL_pull_X2_pull rfl pdX2_pull ⟨⟨rfl, rfl⟩, Nat.le_of_ble_eq_true rfl, Nat.le_of_ble_eq_true rfl⟩ 0 2 he rfl rfl rfl (Nat.le_of_ble_eq_true rfl) dL_pull_9 ⟨Nat.le_of_ble_eq_true rfl, Nat.le_of_ble_eq_true rfl⟩ (fun q9 ce H locs hW hq9 hv9 hcl => ?_)
  refine vx_catch (name := xI) S.2.2.2.1 [] _ _ (htab.trans rfl) (fun z hz => by cases hz) rfl (by decide) (S.2.2.2.2 (.classLink RL 13 xI) (List.mem_of_getElem? (i := 1) rfl)) (xcast (ik := _) (ic := _) (Or.inl ⟨rfl, rfl, rfl⟩) hSt _) hq9 hv9 hcl ?_
  refine lv_astore S.1 S.2.1 dL_pull_17 hl (by decide) rfl (fun ls hl => ?_)
  refine lv_iconst (v := nI 1) S.1 S.2.1 dL_pull_19 rfl ?_
  exact hret 20 _ _ _ _ _ _ _ dL_pull_20 hW rfl rfl (by decide) (by decide)
set_option maxRecDepth 100000 in
theorem wL_pull_x2 (l : Launch) (D : va_G) (c : Nat → ClassId) (o : Nat) (f : Nat → Int64) (sz : Nat) (wd w1 : va_W) (b0 : Nat) {fs : List Value} (p0 p1 p2 p3 : Int32) (he : wd[0]? = some (b0, .inr (2, fs))) (hM : MX l yX2_pull wsX2_pull rmX2_pull_x D c sz wd [.ref b0, .int p0, .int p1, .int p2, .int p3] xA w1) : MW l yL_pull wsL_pull rmL_pull D c sz (wd ++ wO c o f) [.ref b0, .int p0, .int p1, .int p2, .int p3, .ref o] (nI 2) (w1 ++ wO c o f) := by
  refine MW.ofH (cc := cL_pull) (maxL := 7) (hh := [(0, 14, 17, 13), (0, 14, 21, 21)]) (by decide) rfl (Nat.le_of_ble_eq_true rfl) ?_
  intro P e s m below meth cd A Q ls hsz S hK hN hSt hV htab hW hA hl hret
  subst hsz
  have hl : lv_has ls 7 [(0, .ref b0), (1, .int p0), (2, .int p1), (3, .int p2), (4, .int p3), (5, .ref o)] := hl
  refine lv_aload S.1 S.2.1 dL_pull_0 (lv_at hl 5 rfl) ?_
  refine lv_iconst (v := nI 0) S.1 S.2.1 dL_pull_2 rfl ?_
  refine lv_aload_n S.1 S.2.1 dL_pull_3 rfl (lv_at hl 0 rfl) ?_
  refine lv_iload_n S.1 S.2.1 dL_pull_4 rfl (lv_at hl 1 rfl) ?_
  refine lv_iload_n S.1 S.2.1 dL_pull_5 rfl (lv_at hl 2 rfl) ?_
  refine lv_iload_n S.1 S.2.1 dL_pull_6 rfl (lv_at hl 3 rfl) ?_
  refine lv_iload S.1 S.2.1 dL_pull_7 (lv_at hl 4 rfl) ?_
  refine k_VX (rest := [.int (nI 0), .ref o]) S hK hl.1 hW (KFr.lft hW hA) hN hSt hV hM gL_pull_X2_pull rfl pdX2_pull ⟨⟨rfl, rfl⟩, Nat.le_of_ble_eq_true rfl, Nat.le_of_ble_eq_true rfl⟩ 0 2 he rfl rfl rfl (Nat.le_of_ble_eq_true rfl) dL_pull_9 ⟨Nat.le_of_ble_eq_true rfl, Nat.le_of_ble_eq_true rfl⟩ (fun q9 ce H locs hW hq9 hv9 hcl => ?_)
  refine vx_catch (name := xA) S.2.2.2.1 [_] _ _ (htab.trans rfl) (fun z hz => by rw [List.mem_singleton.mp hz]; exact Or.inr ⟨by decide, xI, S.2.2.2.2 (.classLink RL 13 xI) (List.mem_of_getElem? (i := 1) rfl), hSt.2.1.2.1⟩) rfl (by decide) (S.2.2.2.2 (.classLink RL 21 xA) (List.mem_of_getElem? (i := 2) rfl)) (xcast (ik := _) (ic := _) (Or.inr (Or.inr ⟨rfl, rfl, rfl⟩)) hSt _) hq9 hv9 hcl ?_
  refine lv_astore S.1 S.2.1 dL_pull_21 hl (by decide) rfl (fun ls hl => ?_)
  refine lv_iconst (v := nI 2) S.1 S.2.1 dL_pull_23 rfl ?_
  exact hret 24 _ _ _ _ _ _ _ dL_pull_24 hW rfl rfl (by decide) (by decide)
abbrev rmL_copy : Room := { frames := 7, cells := 1, slots := 6, locals := 106 }
theorem pdL_copy : kPd yL_copy 6 := by decide +kernel
set_option maxRecDepth 100000 in
theorem wL_copy_k (l : Launch) (D : va_G) (c : Nat → ClassId) (o : Nat) (f : Nat → Int64) (sz : Nat) (wd w1 : va_W) (b0 : Nat) {fs : List Value} (p0 p1 p2 p3 : Int32) (r : Int32) (he : wd[0]? = some (b0, .inr (2, fs))) (hM : MI3 l yX2_copy wsX2_copy rmX2_copy D c sz wd [.ref b0, .int p0, .int p1, .int p2, .int p3] r w1) : MW l yL_copy wsL_copy rmL_copy D c sz (wd ++ wO c o f) [.ref b0, .int p0, .int p1, .int p2, .int p3, .ref o] (nI 0) (w1 ++ wO c o (vp_updL f 0 r.toInt64)) := by
  refine MW.ofH (cc := cL_copy) (maxL := 7) (hh := [(0, 14, 17, 13), (0, 14, 21, 21)]) (by decide) rfl (Nat.le_of_ble_eq_true rfl) ?_
  intro P e s m below meth cd A Q ls hsz S hK hN hSt hV htab hW hA hl hret
  subst hsz
  have hl : lv_has ls 7 [(0, .ref b0), (1, .int p0), (2, .int p1), (3, .int p2), (4, .int p3), (5, .ref o)] := hl
  refine lv_aload S.1 S.2.1 dL_copy_0 (lv_at hl 5 rfl) ?_
  refine lv_iconst (v := nI 0) S.1 S.2.1 dL_copy_2 rfl ?_
  refine lv_aload_n S.1 S.2.1 dL_copy_3 rfl (lv_at hl 0 rfl) ?_
  refine lv_iload_n S.1 S.2.1 dL_copy_4 rfl (lv_at hl 1 rfl) ?_
  refine lv_iload_n S.1 S.2.1 dL_copy_5 rfl (lv_at hl 2 rfl) ?_
  refine lv_iload_n S.1 S.2.1 dL_copy_6 rfl (lv_at hl 3 rfl) ?_
  refine lv_iload S.1 S.2.1 dL_copy_7 (lv_at hl 4 rfl) ?_
  refine k_VI3 (rest := [.int (nI 0), .ref o]) S hK hl.1 hW (KFr.lft hW hA) hN hSt hV hM gL_copy_X2_copy rfl pdX2_copy ⟨⟨rfl, rfl⟩, Nat.le_of_ble_eq_true rfl, Nat.le_of_ble_eq_true rfl⟩ 0 2 he rfl rfl rfl (Nat.le_of_ble_eq_true rfl) dL_copy_9 ⟨Nat.le_of_ble_eq_true rfl, Nat.le_of_ble_eq_true rfl⟩ (fun H locs hW => ?_)
  refine wk_tail (rest := []) S hK hW dL_copy_12 dL_copy_13 (fun H locs hW => ?_)
  refine lv_goto (tgt := 25) S.1 S.2.1 dL_copy_14 (by decide) ?_
  refine lv_iconst (v := nI 0) S.1 S.2.1 dL_copy_25 rfl ?_
  exact hret 26 _ _ _ _ _ _ _ dL_copy_26 hW rfl rfl (Nat.zero_le _) (Nat.zero_le _)
set_option maxRecDepth 100000 in
theorem wL_copy_x1 (l : Launch) (D : va_G) (c : Nat → ClassId) (o : Nat) (f : Nat → Int64) (sz : Nat) (wd w1 : va_W) (b0 : Nat) {fs : List Value} (p0 p1 p2 p3 : Int32) (he : wd[0]? = some (b0, .inr (2, fs))) (hM : MX l yX2_copy wsX2_copy rmX2_copy_x D c sz wd [.ref b0, .int p0, .int p1, .int p2, .int p3] xI w1) : MW l yL_copy wsL_copy rmL_copy D c sz (wd ++ wO c o f) [.ref b0, .int p0, .int p1, .int p2, .int p3, .ref o] (nI 1) (w1 ++ wO c o f) := by
  refine MW.ofH (cc := cL_copy) (maxL := 7) (hh := [(0, 14, 17, 13), (0, 14, 21, 21)]) (by decide) rfl (Nat.le_of_ble_eq_true rfl) ?_
  intro P e s m below meth cd A Q ls hsz S hK hN hSt hV htab hW hA hl hret
  subst hsz
  have hl : lv_has ls 7 [(0, .ref b0), (1, .int p0), (2, .int p1), (3, .int p2), (4, .int p3), (5, .ref o)] := hl
  refine lv_aload S.1 S.2.1 dL_copy_0 (lv_at hl 5 rfl) ?_
  refine lv_iconst (v := nI 0) S.1 S.2.1 dL_copy_2 rfl ?_
  refine lv_aload_n S.1 S.2.1 dL_copy_3 rfl (lv_at hl 0 rfl) ?_
  refine lv_iload_n S.1 S.2.1 dL_copy_4 rfl (lv_at hl 1 rfl) ?_
  refine lv_iload_n S.1 S.2.1 dL_copy_5 rfl (lv_at hl 2 rfl) ?_
  refine lv_iload_n S.1 S.2.1 dL_copy_6 rfl (lv_at hl 3 rfl) ?_
  refine lv_iload S.1 S.2.1 dL_copy_7 (lv_at hl 4 rfl) ?_
  refine k_VX (rest := [.int (nI 0), .ref o]) S hK hl.1 hW (KFr.lft hW hA) hN hSt hV hM gL_copy_X2_copy rfl pdX2_copy ⟨⟨rfl, rfl⟩, Nat.le_of_ble_eq_true rfl, Nat.le_of_ble_eq_true rfl⟩ 0 2 he rfl rfl rfl (Nat.le_of_ble_eq_true rfl) dL_copy_9 ⟨Nat.le_of_ble_eq_true rfl, Nat.le_of_ble_eq_true rfl⟩ (fun q9 ce H locs hW hq9 hv9 hcl => ?_)
  refine vx_catch (name := xI) S.2.2.2.1 [] _ _ (htab.trans rfl) (fun z hz => by cases hz) rfl (by decide) (S.2.2.2.2 (.classLink RL 13 xI) (List.mem_of_getElem? (i := 1) rfl)) (xcast (ik := _) (ic := _) (Or.inl ⟨rfl, rfl, rfl⟩) hSt _) hq9 hv9 hcl ?_
  refine lv_astore S.1 S.2.1 dL_copy_17 hl (by decide) rfl (fun ls hl => ?_)
  refine lv_iconst (v := nI 1) S.1 S.2.1 dL_copy_19 rfl ?_
  exact hret 20 _ _ _ _ _ _ _ dL_copy_20 hW rfl rfl (by decide) (by decide)
set_option maxRecDepth 100000 in
theorem wL_copy_x2 (l : Launch) (D : va_G) (c : Nat → ClassId) (o : Nat) (f : Nat → Int64) (sz : Nat) (wd w1 : va_W) (b0 : Nat) {fs : List Value} (p0 p1 p2 p3 : Int32) (he : wd[0]? = some (b0, .inr (2, fs))) (hM : MX l yX2_copy wsX2_copy rmX2_copy_x D c sz wd [.ref b0, .int p0, .int p1, .int p2, .int p3] xA w1) : MW l yL_copy wsL_copy rmL_copy D c sz (wd ++ wO c o f) [.ref b0, .int p0, .int p1, .int p2, .int p3, .ref o] (nI 2) (w1 ++ wO c o f) := by
  refine MW.ofH (cc := cL_copy) (maxL := 7) (hh := [(0, 14, 17, 13), (0, 14, 21, 21)]) (by decide) rfl (Nat.le_of_ble_eq_true rfl) ?_
  intro P e s m below meth cd A Q ls hsz S hK hN hSt hV htab hW hA hl hret
  subst hsz
  have hl : lv_has ls 7 [(0, .ref b0), (1, .int p0), (2, .int p1), (3, .int p2), (4, .int p3), (5, .ref o)] := hl
  refine lv_aload S.1 S.2.1 dL_copy_0 (lv_at hl 5 rfl) ?_
  refine lv_iconst (v := nI 0) S.1 S.2.1 dL_copy_2 rfl ?_
  refine lv_aload_n S.1 S.2.1 dL_copy_3 rfl (lv_at hl 0 rfl) ?_
  refine lv_iload_n S.1 S.2.1 dL_copy_4 rfl (lv_at hl 1 rfl) ?_
  refine lv_iload_n S.1 S.2.1 dL_copy_5 rfl (lv_at hl 2 rfl) ?_
  refine lv_iload_n S.1 S.2.1 dL_copy_6 rfl (lv_at hl 3 rfl) ?_
  refine lv_iload S.1 S.2.1 dL_copy_7 (lv_at hl 4 rfl) ?_
  refine k_VX (rest := [.int (nI 0), .ref o]) S hK hl.1 hW (KFr.lft hW hA) hN hSt hV hM gL_copy_X2_copy rfl pdX2_copy ⟨⟨rfl, rfl⟩, Nat.le_of_ble_eq_true rfl, Nat.le_of_ble_eq_true rfl⟩ 0 2 he rfl rfl rfl (Nat.le_of_ble_eq_true rfl) dL_copy_9 ⟨Nat.le_of_ble_eq_true rfl, Nat.le_of_ble_eq_true rfl⟩ (fun q9 ce H locs hW hq9 hv9 hcl => ?_)
  refine vx_catch (name := xA) S.2.2.2.1 [_] _ _ (htab.trans rfl) (fun z hz => by rw [List.mem_singleton.mp hz]; exact Or.inr ⟨by decide, xI, S.2.2.2.2 (.classLink RL 13 xI) (List.mem_of_getElem? (i := 1) rfl), hSt.2.1.2.1⟩) rfl (by decide) (S.2.2.2.2 (.classLink RL 21 xA) (List.mem_of_getElem? (i := 2) rfl)) (xcast (ik := _) (ic := _) (Or.inr (Or.inr ⟨rfl, rfl, rfl⟩)) hSt _) hq9 hv9 hcl ?_
  refine lv_astore S.1 S.2.1 dL_copy_21 hl (by decide) rfl (fun ls hl => ?_)
  refine lv_iconst (v := nI 2) S.1 S.2.1 dL_copy_23 rfl ?_
  exact hret 24 _ _ _ _ _ _ _ dL_copy_24 hW rfl rfl (by decide) (by decide)
abbrev rmL_wind : Room := { frames := 7, cells := 1, slots := 6, locals := 103 }
theorem pdL_wind : kPd yL_wind 3 := by decide +kernel
set_option maxRecDepth 100000 in
theorem wL_wind_k (l : Launch) (D : va_G) (c : Nat → ClassId) (o : Nat) (f : Nat → Int64) (sz : Nat) (wd w1 : va_W) (b0 : Nat) {fs : List Value} (p0 : Int32) (r : Int32) (he : wd[0]? = some (b0, .inr (2, fs))) (hM : MI3 l yX2_wind wsX2_wind rmX2_wind D c sz wd [.ref b0, .int p0] r w1) : MW l yL_wind wsL_wind rmL_wind D c sz (wd ++ wO c o f) [.ref b0, .int p0, .ref o] (nI 0) (w1 ++ wO c o (vp_updL f 0 r.toInt64)) := by
  refine MW.ofH (cc := cL_wind) (maxL := 4) (hh := [(0, 9, 12, 21)]) (by decide) rfl (Nat.le_of_ble_eq_true rfl) ?_
  intro P e s m below meth cd A Q ls hsz S hK hN hSt hV htab hW hA hl hret
  subst hsz
  have hl : lv_has ls 4 [(0, .ref b0), (1, .int p0), (2, .ref o)] := hl
  refine lv_aload_n S.1 S.2.1 dL_wind_0 rfl (lv_at hl 2 rfl) ?_
  refine lv_iconst (v := nI 0) S.1 S.2.1 dL_wind_1 rfl ?_
  refine lv_aload_n S.1 S.2.1 dL_wind_2 rfl (lv_at hl 0 rfl) ?_
  refine lv_iload_n S.1 S.2.1 dL_wind_3 rfl (lv_at hl 1 rfl) ?_
  refine k_VI3 (rest := [.int (nI 0), .ref o]) S hK hl.1 hW (KFr.lft hW hA) hN hSt hV hM gL_wind_X2_wind rfl pdX2_wind ⟨⟨rfl, rfl⟩, Nat.le_of_ble_eq_true rfl, Nat.le_of_ble_eq_true rfl⟩ 0 2 he rfl rfl rfl (Nat.le_of_ble_eq_true rfl) dL_wind_4 ⟨Nat.le_of_ble_eq_true rfl, Nat.le_of_ble_eq_true rfl⟩ (fun H locs hW => ?_)
  refine wk_tail (rest := []) S hK hW dL_wind_7 dL_wind_8 (fun H locs hW => ?_)
  refine lv_goto (tgt := 15) S.1 S.2.1 dL_wind_9 (by decide) ?_
  refine lv_iconst (v := nI 0) S.1 S.2.1 dL_wind_15 rfl ?_
  exact hret 16 _ _ _ _ _ _ _ dL_wind_16 hW rfl rfl (Nat.zero_le _) (Nat.zero_le _)
set_option maxRecDepth 100000 in
theorem wL_wind_x1 (l : Launch) (D : va_G) (c : Nat → ClassId) (o : Nat) (f : Nat → Int64) (sz : Nat) (wd w1 : va_W) (b0 : Nat) {fs : List Value} (p0 : Int32) (he : wd[0]? = some (b0, .inr (2, fs))) (hM : MX l yX2_wind wsX2_wind rmX2_wind_x D c sz wd [.ref b0, .int p0] xA w1) : MW l yL_wind wsL_wind rmL_wind D c sz (wd ++ wO c o f) [.ref b0, .int p0, .ref o] (nI 1) (w1 ++ wO c o f) := by
  refine MW.ofH (cc := cL_wind) (maxL := 4) (hh := [(0, 9, 12, 21)]) (by decide) rfl (Nat.le_of_ble_eq_true rfl) ?_
  intro P e s m below meth cd A Q ls hsz S hK hN hSt hV htab hW hA hl hret
  subst hsz
  have hl : lv_has ls 4 [(0, .ref b0), (1, .int p0), (2, .ref o)] := hl
  refine lv_aload_n S.1 S.2.1 dL_wind_0 rfl (lv_at hl 2 rfl) ?_
  refine lv_iconst (v := nI 0) S.1 S.2.1 dL_wind_1 rfl ?_
  refine lv_aload_n S.1 S.2.1 dL_wind_2 rfl (lv_at hl 0 rfl) ?_
  refine lv_iload_n S.1 S.2.1 dL_wind_3 rfl (lv_at hl 1 rfl) ?_
  refine k_VX (rest := [.int (nI 0), .ref o]) S hK hl.1 hW (KFr.lft hW hA) hN hSt hV hM gL_wind_X2_wind rfl pdX2_wind ⟨⟨rfl, rfl⟩, Nat.le_of_ble_eq_true rfl, Nat.le_of_ble_eq_true rfl⟩ 0 2 he rfl rfl rfl (Nat.le_of_ble_eq_true rfl) dL_wind_4 ⟨Nat.le_of_ble_eq_true rfl, Nat.le_of_ble_eq_true rfl⟩ (fun q9 ce H locs hW hq9 hv9 hcl => ?_)
  refine vx_catch (name := xA) S.2.2.2.1 [] _ _ (htab.trans rfl) (fun z hz => by cases hz) rfl (by decide) (S.2.2.2.2 (.classLink RL 21 xA) (List.mem_of_getElem? (i := 1) rfl)) (xcast (ik := _) (ic := _) (Or.inr (Or.inr ⟨rfl, rfl, rfl⟩)) hSt _) hq9 hv9 hcl ?_
  refine lv_astore_n S.1 S.2.1 dL_wind_12 rfl hl (by decide) rfl (fun ls hl => ?_)
  refine lv_iconst (v := nI 1) S.1 S.2.1 dL_wind_13 rfl ?_
  exact hret 14 _ _ _ _ _ _ _ dL_wind_14 hW rfl rfl (by decide) (by decide)
abbrev rmL_vanes : Room := { frames := 7, cells := 1, slots := 6, locals := 104 }
theorem pdL_vanes : kPd yL_vanes 3 := by decide +kernel
set_option maxRecDepth 100000 in
theorem wL_vanes_k (l : Launch) (D : va_G) (c : Nat → ClassId) (o : Nat) (f : Nat → Int64) (sz : Nat) (wd w1 : va_W) (b0 : Nat) {fs : List Value} (p0 : Int32) (r : Int32) (he : wd[0]? = some (b0, .inr (2, fs))) (hM : MI3 l yX2_vanes wsX2_vanes rmX2_vanes D c sz wd [.ref b0, .int p0] r w1) : MW l yL_vanes wsL_vanes rmL_vanes D c sz (wd ++ wO c o f) [.ref b0, .int p0, .ref o] (nI 0) (w1 ++ wO c o (vp_updL f 0 r.toInt64)) := by
  refine MW.ofH (cc := cL_vanes) (maxL := 4) (hh := [(0, 9, 12, 21)]) (by decide) rfl (Nat.le_of_ble_eq_true rfl) ?_
  intro P e s m below meth cd A Q ls hsz S hK hN hSt hV htab hW hA hl hret
  subst hsz
  have hl : lv_has ls 4 [(0, .ref b0), (1, .int p0), (2, .ref o)] := hl
  refine lv_aload_n S.1 S.2.1 dL_vanes_0 rfl (lv_at hl 2 rfl) ?_
  refine lv_iconst (v := nI 0) S.1 S.2.1 dL_vanes_1 rfl ?_
  refine lv_aload_n S.1 S.2.1 dL_vanes_2 rfl (lv_at hl 0 rfl) ?_
  refine lv_iload_n S.1 S.2.1 dL_vanes_3 rfl (lv_at hl 1 rfl) ?_
  refine k_VI3 (rest := [.int (nI 0), .ref o]) S hK hl.1 hW (KFr.lft hW hA) hN hSt hV hM gL_vanes_X2_vanes rfl pdX2_vanes ⟨⟨rfl, rfl⟩, Nat.le_of_ble_eq_true rfl, Nat.le_of_ble_eq_true rfl⟩ 0 2 he rfl rfl rfl (Nat.le_of_ble_eq_true rfl) dL_vanes_4 ⟨Nat.le_of_ble_eq_true rfl, Nat.le_of_ble_eq_true rfl⟩ (fun H locs hW => ?_)
  refine wk_tail (rest := []) S hK hW dL_vanes_7 dL_vanes_8 (fun H locs hW => ?_)
  refine lv_goto (tgt := 15) S.1 S.2.1 dL_vanes_9 (by decide) ?_
  refine lv_iconst (v := nI 0) S.1 S.2.1 dL_vanes_15 rfl ?_
  exact hret 16 _ _ _ _ _ _ _ dL_vanes_16 hW rfl rfl (Nat.zero_le _) (Nat.zero_le _)
set_option maxRecDepth 100000 in
theorem wL_vanes_x1 (l : Launch) (D : va_G) (c : Nat → ClassId) (o : Nat) (f : Nat → Int64) (sz : Nat) (wd w1 : va_W) (b0 : Nat) {fs : List Value} (p0 : Int32) (he : wd[0]? = some (b0, .inr (2, fs))) (hM : MX l yX2_vanes wsX2_vanes rmX2_vanes_x D c sz wd [.ref b0, .int p0] xA w1) : MW l yL_vanes wsL_vanes rmL_vanes D c sz (wd ++ wO c o f) [.ref b0, .int p0, .ref o] (nI 1) (w1 ++ wO c o f) := by
  refine MW.ofH (cc := cL_vanes) (maxL := 4) (hh := [(0, 9, 12, 21)]) (by decide) rfl (Nat.le_of_ble_eq_true rfl) ?_
  intro P e s m below meth cd A Q ls hsz S hK hN hSt hV htab hW hA hl hret
  subst hsz
  have hl : lv_has ls 4 [(0, .ref b0), (1, .int p0), (2, .ref o)] := hl
  refine lv_aload_n S.1 S.2.1 dL_vanes_0 rfl (lv_at hl 2 rfl) ?_
  refine lv_iconst (v := nI 0) S.1 S.2.1 dL_vanes_1 rfl ?_
  refine lv_aload_n S.1 S.2.1 dL_vanes_2 rfl (lv_at hl 0 rfl) ?_
  refine lv_iload_n S.1 S.2.1 dL_vanes_3 rfl (lv_at hl 1 rfl) ?_
  refine k_VX (rest := [.int (nI 0), .ref o]) S hK hl.1 hW (KFr.lft hW hA) hN hSt hV hM gL_vanes_X2_vanes rfl pdX2_vanes ⟨⟨rfl, rfl⟩, Nat.le_of_ble_eq_true rfl, Nat.le_of_ble_eq_true rfl⟩ 0 2 he rfl rfl rfl (Nat.le_of_ble_eq_true rfl) dL_vanes_4 ⟨Nat.le_of_ble_eq_true rfl, Nat.le_of_ble_eq_true rfl⟩ (fun q9 ce H locs hW hq9 hv9 hcl => ?_)
  refine vx_catch (name := xA) S.2.2.2.1 [] _ _ (htab.trans rfl) (fun z hz => by cases hz) rfl (by decide) (S.2.2.2.2 (.classLink RL 21 xA) (List.mem_of_getElem? (i := 1) rfl)) (xcast (ik := _) (ic := _) (Or.inr (Or.inr ⟨rfl, rfl, rfl⟩)) hSt _) hq9 hv9 hcl ?_
  refine lv_astore_n S.1 S.2.1 dL_vanes_12 rfl hl (by decide) rfl (fun ls hl => ?_)
  refine lv_iconst (v := nI 1) S.1 S.2.1 dL_vanes_13 rfl ?_
  exact hret 14 _ _ _ _ _ _ _ dL_vanes_14 hW rfl rfl (by decide) (by decide)
abbrev rmL_shift : Room := { frames := 7, cells := 1, slots := 6, locals := 104 }
theorem pdL_shift : kPd yL_shift 3 := by decide +kernel
set_option maxRecDepth 100000 in
theorem wL_shift_k (l : Launch) (D : va_G) (c : Nat → ClassId) (o : Nat) (f : Nat → Int64) (sz : Nat) (wd w1 : va_W) (b0 : Nat) {fs : List Value} (p0 : Int32) (r : Int32) (he : wd[0]? = some (b0, .inr (2, fs))) (hM : MI3 l yX2_shift wsX2_shift rmX2_shift D c sz wd [.ref b0, .int p0] r w1) : MW l yL_shift wsL_shift rmL_shift D c sz (wd ++ wO c o f) [.ref b0, .int p0, .ref o] (nI 0) (w1 ++ wO c o (vp_updL f 0 r.toInt64)) := by
  refine MW.ofH (cc := cL_shift) (maxL := 4) (hh := [(0, 9, 12, 13)]) (by decide) rfl (Nat.le_of_ble_eq_true rfl) ?_
  intro P e s m below meth cd A Q ls hsz S hK hN hSt hV htab hW hA hl hret
  subst hsz
  have hl : lv_has ls 4 [(0, .ref b0), (1, .int p0), (2, .ref o)] := hl
  refine lv_aload_n S.1 S.2.1 dL_shift_0 rfl (lv_at hl 2 rfl) ?_
  refine lv_iconst (v := nI 0) S.1 S.2.1 dL_shift_1 rfl ?_
  refine lv_aload_n S.1 S.2.1 dL_shift_2 rfl (lv_at hl 0 rfl) ?_
  refine lv_iload_n S.1 S.2.1 dL_shift_3 rfl (lv_at hl 1 rfl) ?_
  refine k_VI3 (rest := [.int (nI 0), .ref o]) S hK hl.1 hW (KFr.lft hW hA) hN hSt hV hM gL_shift_X2_shift rfl pdX2_shift ⟨⟨rfl, rfl⟩, Nat.le_of_ble_eq_true rfl, Nat.le_of_ble_eq_true rfl⟩ 0 2 he rfl rfl rfl (Nat.le_of_ble_eq_true rfl) dL_shift_4 ⟨Nat.le_of_ble_eq_true rfl, Nat.le_of_ble_eq_true rfl⟩ (fun H locs hW => ?_)
  refine wk_tail (rest := []) S hK hW dL_shift_7 dL_shift_8 (fun H locs hW => ?_)
  refine lv_goto (tgt := 15) S.1 S.2.1 dL_shift_9 (by decide) ?_
  refine lv_iconst (v := nI 0) S.1 S.2.1 dL_shift_15 rfl ?_
  exact hret 16 _ _ _ _ _ _ _ dL_shift_16 hW rfl rfl (Nat.zero_le _) (Nat.zero_le _)
set_option maxRecDepth 100000 in
theorem wL_shift_x1 (l : Launch) (D : va_G) (c : Nat → ClassId) (o : Nat) (f : Nat → Int64) (sz : Nat) (wd w1 : va_W) (b0 : Nat) {fs : List Value} (p0 : Int32) (he : wd[0]? = some (b0, .inr (2, fs))) (hM : MX l yX2_shift wsX2_shift rmX2_shift_x D c sz wd [.ref b0, .int p0] xI w1) : MW l yL_shift wsL_shift rmL_shift D c sz (wd ++ wO c o f) [.ref b0, .int p0, .ref o] (nI 1) (w1 ++ wO c o f) := by
  refine MW.ofH (cc := cL_shift) (maxL := 4) (hh := [(0, 9, 12, 13)]) (by decide) rfl (Nat.le_of_ble_eq_true rfl) ?_
  intro P e s m below meth cd A Q ls hsz S hK hN hSt hV htab hW hA hl hret
  subst hsz
  have hl : lv_has ls 4 [(0, .ref b0), (1, .int p0), (2, .ref o)] := hl
  refine lv_aload_n S.1 S.2.1 dL_shift_0 rfl (lv_at hl 2 rfl) ?_
  refine lv_iconst (v := nI 0) S.1 S.2.1 dL_shift_1 rfl ?_
  refine lv_aload_n S.1 S.2.1 dL_shift_2 rfl (lv_at hl 0 rfl) ?_
  refine lv_iload_n S.1 S.2.1 dL_shift_3 rfl (lv_at hl 1 rfl) ?_
  refine k_VX (rest := [.int (nI 0), .ref o]) S hK hl.1 hW (KFr.lft hW hA) hN hSt hV hM gL_shift_X2_shift rfl pdX2_shift ⟨⟨rfl, rfl⟩, Nat.le_of_ble_eq_true rfl, Nat.le_of_ble_eq_true rfl⟩ 0 2 he rfl rfl rfl (Nat.le_of_ble_eq_true rfl) dL_shift_4 ⟨Nat.le_of_ble_eq_true rfl, Nat.le_of_ble_eq_true rfl⟩ (fun q9 ce H locs hW hq9 hv9 hcl => ?_)
  refine vx_catch (name := xI) S.2.2.2.1 [] _ _ (htab.trans rfl) (fun z hz => by cases hz) rfl (by decide) (S.2.2.2.2 (.classLink RL 13 xI) (List.mem_of_getElem? (i := 1) rfl)) (xcast (ik := _) (ic := _) (Or.inl ⟨rfl, rfl, rfl⟩) hSt _) hq9 hv9 hcl ?_
  refine lv_astore_n S.1 S.2.1 dL_shift_12 rfl hl (by decide) rfl (fun ls hl => ?_)
  refine lv_iconst (v := nI 1) S.1 S.2.1 dL_shift_13 rfl ?_
  exact hret 14 _ _ _ _ _ _ _ dL_shift_14 hW rfl rfl (by decide) (by decide)
abbrev rmL_play : Room := { frames := 7, cells := 1, slots := 6, locals := 136 }
theorem pdL_play : kPd yL_play 3 := by decide +kernel
set_option maxRecDepth 100000 in
theorem wL_play_k (l : Launch) (D : va_G) (c : Nat → ClassId) (o : Nat) (f : Nat → Int64) (sz : Nat) (wd w1 : va_W) (b0 : Nat) {fs : List Value} (p0 : Int32) (r : Int32) (he : wd[0]? = some (b0, .inr (2, fs))) (hM : MI3 l yX2_play wsX2_play rmX2_play D c sz wd [.ref b0, .int p0] r w1) : MW l yL_play wsL_play rmL_play D c sz (wd ++ wO c o f) [.ref b0, .int p0, .ref o] (nI 0) (w1 ++ wO c o (vp_updL f 0 r.toInt64)) := by
  refine MW.ofH (cc := cL_play) (maxL := 4) (hh := [(0, 9, 12, 21)]) (by decide) rfl (Nat.le_of_ble_eq_true rfl) ?_
  intro P e s m below meth cd A Q ls hsz S hK hN hSt hV htab hW hA hl hret
  subst hsz
  have hl : lv_has ls 4 [(0, .ref b0), (1, .int p0), (2, .ref o)] := hl
  refine lv_aload_n S.1 S.2.1 dL_play_0 rfl (lv_at hl 2 rfl) ?_
  refine lv_iconst (v := nI 0) S.1 S.2.1 dL_play_1 rfl ?_
  refine lv_aload_n S.1 S.2.1 dL_play_2 rfl (lv_at hl 0 rfl) ?_
  refine lv_iload_n S.1 S.2.1 dL_play_3 rfl (lv_at hl 1 rfl) ?_
  refine k_VI3 (rest := [.int (nI 0), .ref o]) S hK hl.1 hW (KFr.lft hW hA) hN hSt hV hM gL_play_X2_play rfl pdX2_play ⟨⟨rfl, rfl⟩, Nat.le_of_ble_eq_true rfl, Nat.le_of_ble_eq_true rfl⟩ 0 2 he rfl rfl rfl (Nat.le_of_ble_eq_true rfl) dL_play_4 ⟨Nat.le_of_ble_eq_true rfl, Nat.le_of_ble_eq_true rfl⟩ (fun H locs hW => ?_)
  refine wk_tail (rest := []) S hK hW dL_play_7 dL_play_8 (fun H locs hW => ?_)
  refine lv_goto (tgt := 15) S.1 S.2.1 dL_play_9 (by decide) ?_
  refine lv_iconst (v := nI 0) S.1 S.2.1 dL_play_15 rfl ?_
  exact hret 16 _ _ _ _ _ _ _ dL_play_16 hW rfl rfl (Nat.zero_le _) (Nat.zero_le _)
set_option maxRecDepth 100000 in
theorem wL_play_x1 (l : Launch) (D : va_G) (c : Nat → ClassId) (o : Nat) (f : Nat → Int64) (sz : Nat) (wd w1 : va_W) (b0 : Nat) {fs : List Value} (p0 : Int32) (he : wd[0]? = some (b0, .inr (2, fs))) (hM : MX l yX2_play wsX2_play rmX2_play_x D c sz wd [.ref b0, .int p0] xA w1) : MW l yL_play wsL_play rmL_play D c sz (wd ++ wO c o f) [.ref b0, .int p0, .ref o] (nI 1) (w1 ++ wO c o f) := by
  refine MW.ofH (cc := cL_play) (maxL := 4) (hh := [(0, 9, 12, 21)]) (by decide) rfl (Nat.le_of_ble_eq_true rfl) ?_
  intro P e s m below meth cd A Q ls hsz S hK hN hSt hV htab hW hA hl hret
  subst hsz
  have hl : lv_has ls 4 [(0, .ref b0), (1, .int p0), (2, .ref o)] := hl
  refine lv_aload_n S.1 S.2.1 dL_play_0 rfl (lv_at hl 2 rfl) ?_
  refine lv_iconst (v := nI 0) S.1 S.2.1 dL_play_1 rfl ?_
  refine lv_aload_n S.1 S.2.1 dL_play_2 rfl (lv_at hl 0 rfl) ?_
  refine lv_iload_n S.1 S.2.1 dL_play_3 rfl (lv_at hl 1 rfl) ?_
  refine k_VX (rest := [.int (nI 0), .ref o]) S hK hl.1 hW (KFr.lft hW hA) hN hSt hV hM gL_play_X2_play rfl pdX2_play ⟨⟨rfl, rfl⟩, Nat.le_of_ble_eq_true rfl, Nat.le_of_ble_eq_true rfl⟩ 0 2 he rfl rfl rfl (Nat.le_of_ble_eq_true rfl) dL_play_4 ⟨Nat.le_of_ble_eq_true rfl, Nat.le_of_ble_eq_true rfl⟩ (fun q9 ce H locs hW hq9 hv9 hcl => ?_)
  refine vx_catch (name := xA) S.2.2.2.1 [] _ _ (htab.trans rfl) (fun z hz => by cases hz) rfl (by decide) (S.2.2.2.2 (.classLink RL 21 xA) (List.mem_of_getElem? (i := 1) rfl)) (xcast (ik := _) (ic := _) (Or.inr (Or.inr ⟨rfl, rfl, rfl⟩)) hSt _) hq9 hv9 hcl ?_
  refine lv_astore_n S.1 S.2.1 dL_play_12 rfl hl (by decide) rfl (fun ls hl => ?_)
  refine lv_iconst (v := nI 1) S.1 S.2.1 dL_play_13 rfl ?_
  exact hret 14 _ _ _ _ _ _ _ dL_play_14 hW rfl rfl (by decide) (by decide)
abbrev rmL_mend : Room := { frames := 7, cells := 1, slots := 6, locals := 103 }
theorem pdL_mend : kPd yL_mend 3 := by decide +kernel
set_option maxRecDepth 100000 in
theorem wL_mend_k (l : Launch) (D : va_G) (c : Nat → ClassId) (o : Nat) (f : Nat → Int64) (sz : Nat) (wd w1 : va_W) (b0 : Nat) {fs : List Value} (p0 : Int32) (r : Int32) (he : wd[0]? = some (b0, .inr (2, fs))) (hM : MI3 l yX2_mend wsX2_mend rmX2_mend D c sz wd [.ref b0, .int p0] r w1) : MW l yL_mend wsL_mend rmL_mend D c sz (wd ++ wO c o f) [.ref b0, .int p0, .ref o] (nI 0) (w1 ++ wO c o (vp_updL f 0 r.toInt64)) := by
  refine MW.ofH (cc := cL_mend) (maxL := 4) (hh := [(0, 9, 12, 13)]) (by decide) rfl (Nat.le_of_ble_eq_true rfl) ?_
  intro P e s m below meth cd A Q ls hsz S hK hN hSt hV htab hW hA hl hret
  subst hsz
  have hl : lv_has ls 4 [(0, .ref b0), (1, .int p0), (2, .ref o)] := hl
  refine lv_aload_n S.1 S.2.1 dL_mend_0 rfl (lv_at hl 2 rfl) ?_
  refine lv_iconst (v := nI 0) S.1 S.2.1 dL_mend_1 rfl ?_
  refine lv_aload_n S.1 S.2.1 dL_mend_2 rfl (lv_at hl 0 rfl) ?_
  refine lv_iload_n S.1 S.2.1 dL_mend_3 rfl (lv_at hl 1 rfl) ?_
  refine k_VI3 (rest := [.int (nI 0), .ref o]) S hK hl.1 hW (KFr.lft hW hA) hN hSt hV hM gL_mend_X2_mend rfl pdX2_mend ⟨⟨rfl, rfl⟩, Nat.le_of_ble_eq_true rfl, Nat.le_of_ble_eq_true rfl⟩ 0 2 he rfl rfl rfl (Nat.le_of_ble_eq_true rfl) dL_mend_4 ⟨Nat.le_of_ble_eq_true rfl, Nat.le_of_ble_eq_true rfl⟩ (fun H locs hW => ?_)
  refine wk_tail (rest := []) S hK hW dL_mend_7 dL_mend_8 (fun H locs hW => ?_)
  refine lv_goto (tgt := 15) S.1 S.2.1 dL_mend_9 (by decide) ?_
  refine lv_iconst (v := nI 0) S.1 S.2.1 dL_mend_15 rfl ?_
  exact hret 16 _ _ _ _ _ _ _ dL_mend_16 hW rfl rfl (Nat.zero_le _) (Nat.zero_le _)
set_option maxRecDepth 100000 in
theorem wL_mend_x1 (l : Launch) (D : va_G) (c : Nat → ClassId) (o : Nat) (f : Nat → Int64) (sz : Nat) (wd w1 : va_W) (b0 : Nat) {fs : List Value} (p0 : Int32) (he : wd[0]? = some (b0, .inr (2, fs))) (hM : MX l yX2_mend wsX2_mend rmX2_mend_x D c sz wd [.ref b0, .int p0] xI w1) : MW l yL_mend wsL_mend rmL_mend D c sz (wd ++ wO c o f) [.ref b0, .int p0, .ref o] (nI 1) (w1 ++ wO c o f) := by
  refine MW.ofH (cc := cL_mend) (maxL := 4) (hh := [(0, 9, 12, 13)]) (by decide) rfl (Nat.le_of_ble_eq_true rfl) ?_
  intro P e s m below meth cd A Q ls hsz S hK hN hSt hV htab hW hA hl hret
  subst hsz
  have hl : lv_has ls 4 [(0, .ref b0), (1, .int p0), (2, .ref o)] := hl
  refine lv_aload_n S.1 S.2.1 dL_mend_0 rfl (lv_at hl 2 rfl) ?_
  refine lv_iconst (v := nI 0) S.1 S.2.1 dL_mend_1 rfl ?_
  refine lv_aload_n S.1 S.2.1 dL_mend_2 rfl (lv_at hl 0 rfl) ?_
  refine lv_iload_n S.1 S.2.1 dL_mend_3 rfl (lv_at hl 1 rfl) ?_
  refine k_VX (rest := [.int (nI 0), .ref o]) S hK hl.1 hW (KFr.lft hW hA) hN hSt hV hM gL_mend_X2_mend rfl pdX2_mend ⟨⟨rfl, rfl⟩, Nat.le_of_ble_eq_true rfl, Nat.le_of_ble_eq_true rfl⟩ 0 2 he rfl rfl rfl (Nat.le_of_ble_eq_true rfl) dL_mend_4 ⟨Nat.le_of_ble_eq_true rfl, Nat.le_of_ble_eq_true rfl⟩ (fun q9 ce H locs hW hq9 hv9 hcl => ?_)
  refine vx_catch (name := xI) S.2.2.2.1 [] _ _ (htab.trans rfl) (fun z hz => by cases hz) rfl (by decide) (S.2.2.2.2 (.classLink RL 13 xI) (List.mem_of_getElem? (i := 1) rfl)) (xcast (ik := _) (ic := _) (Or.inl ⟨rfl, rfl, rfl⟩) hSt _) hq9 hv9 hcl ?_
  refine lv_astore_n S.1 S.2.1 dL_mend_12 rfl hl (by decide) rfl (fun ls hl => ?_)
  refine lv_iconst (v := nI 1) S.1 S.2.1 dL_mend_13 rfl ?_
  exact hret 14 _ _ _ _ _ _ _ dL_mend_14 hW rfl rfl (by decide) (by decide)
abbrev rmL_set : Room := { frames := 7, cells := 1, slots := 6, locals := 105 }
theorem pdL_set : kPd yL_set 4 := by decide +kernel
set_option maxRecDepth 100000 in
theorem wL_set_k (l : Launch) (D : va_G) (c : Nat → ClassId) (o : Nat) (f : Nat → Int64) (sz : Nat) (wd w1 : va_W) (b0 : Nat) {fs : List Value} (p0 p1 : Int32) (r : Int32) (he : wd[0]? = some (b0, .inr (2, fs))) (hM : MI3 l yX2_set wsX2_set rmX2_set D c sz wd [.ref b0, .int p0, .int p1] r w1) : MW l yL_set wsL_set rmL_set D c sz (wd ++ wO c o f) [.ref b0, .int p0, .int p1, .ref o] (nI 0) (w1 ++ wO c o (vp_updL f 0 r.toInt64)) := by
  refine MW.ofH (cc := cL_set) (maxL := 5) (hh := [(0, 10, 13, 13), (0, 10, 17, 21)]) (by decide) rfl (Nat.le_of_ble_eq_true rfl) ?_
  intro P e s m below meth cd A Q ls hsz S hK hN hSt hV htab hW hA hl hret
  subst hsz
  have hl : lv_has ls 5 [(0, .ref b0), (1, .int p0), (2, .int p1), (3, .ref o)] := hl
  refine lv_aload_n S.1 S.2.1 dL_set_0 rfl (lv_at hl 3 rfl) ?_
  refine lv_iconst (v := nI 0) S.1 S.2.1 dL_set_1 rfl ?_
  refine lv_aload_n S.1 S.2.1 dL_set_2 rfl (lv_at hl 0 rfl) ?_
  refine lv_iload_n S.1 S.2.1 dL_set_3 rfl (lv_at hl 1 rfl) ?_
  refine lv_iload_n S.1 S.2.1 dL_set_4 rfl (lv_at hl 2 rfl) ?_
  refine k_VI3 (rest := [.int (nI 0), .ref o]) S hK hl.1 hW (KFr.lft hW hA) hN hSt hV hM gL_set_X2_set rfl pdX2_set ⟨⟨rfl, rfl⟩, Nat.le_of_ble_eq_true rfl, Nat.le_of_ble_eq_true rfl⟩ 0 2 he rfl rfl rfl (Nat.le_of_ble_eq_true rfl) dL_set_5 ⟨Nat.le_of_ble_eq_true rfl, Nat.le_of_ble_eq_true rfl⟩ (fun H locs hW => ?_)
  refine wk_tail (rest := []) S hK hW dL_set_8 dL_set_9 (fun H locs hW => ?_)
  refine lv_goto (tgt := 21) S.1 S.2.1 dL_set_10 (by decide) ?_
  refine lv_iconst (v := nI 0) S.1 S.2.1 dL_set_21 rfl ?_
  exact hret 22 _ _ _ _ _ _ _ dL_set_22 hW rfl rfl (Nat.zero_le _) (Nat.zero_le _)
set_option maxRecDepth 100000 in
theorem wL_set_x1 (l : Launch) (D : va_G) (c : Nat → ClassId) (o : Nat) (f : Nat → Int64) (sz : Nat) (wd w1 : va_W) (b0 : Nat) {fs : List Value} (p0 p1 : Int32) (he : wd[0]? = some (b0, .inr (2, fs))) (hM : MX l yX2_set wsX2_set rmX2_set_x D c sz wd [.ref b0, .int p0, .int p1] xI w1) : MW l yL_set wsL_set rmL_set D c sz (wd ++ wO c o f) [.ref b0, .int p0, .int p1, .ref o] (nI 1) (w1 ++ wO c o f) := by
  refine MW.ofH (cc := cL_set) (maxL := 5) (hh := [(0, 10, 13, 13), (0, 10, 17, 21)]) (by decide) rfl (Nat.le_of_ble_eq_true rfl) ?_
  intro P e s m below meth cd A Q ls hsz S hK hN hSt hV htab hW hA hl hret
  subst hsz
  have hl : lv_has ls 5 [(0, .ref b0), (1, .int p0), (2, .int p1), (3, .ref o)] := hl
  refine lv_aload_n S.1 S.2.1 dL_set_0 rfl (lv_at hl 3 rfl) ?_
  refine lv_iconst (v := nI 0) S.1 S.2.1 dL_set_1 rfl ?_
  refine lv_aload_n S.1 S.2.1 dL_set_2 rfl (lv_at hl 0 rfl) ?_
  refine lv_iload_n S.1 S.2.1 dL_set_3 rfl (lv_at hl 1 rfl) ?_
  refine lv_iload_n S.1 S.2.1 dL_set_4 rfl (lv_at hl 2 rfl) ?_
  refine k_VX (rest := [.int (nI 0), .ref o]) S hK hl.1 hW (KFr.lft hW hA) hN hSt hV hM gL_set_X2_set rfl pdX2_set ⟨⟨rfl, rfl⟩, Nat.le_of_ble_eq_true rfl, Nat.le_of_ble_eq_true rfl⟩ 0 2 he rfl rfl rfl (Nat.le_of_ble_eq_true rfl) dL_set_5 ⟨Nat.le_of_ble_eq_true rfl, Nat.le_of_ble_eq_true rfl⟩ (fun q9 ce H locs hW hq9 hv9 hcl => ?_)
  refine vx_catch (name := xI) S.2.2.2.1 [] _ _ (htab.trans rfl) (fun z hz => by cases hz) rfl (by decide) (S.2.2.2.2 (.classLink RL 13 xI) (List.mem_of_getElem? (i := 1) rfl)) (xcast (ik := _) (ic := _) (Or.inl ⟨rfl, rfl, rfl⟩) hSt _) hq9 hv9 hcl ?_
  refine lv_astore S.1 S.2.1 dL_set_13 hl (by decide) rfl (fun ls hl => ?_)
  refine lv_iconst (v := nI 1) S.1 S.2.1 dL_set_15 rfl ?_
  exact hret 16 _ _ _ _ _ _ _ dL_set_16 hW rfl rfl (by decide) (by decide)
set_option maxRecDepth 100000 in
theorem wL_set_x2 (l : Launch) (D : va_G) (c : Nat → ClassId) (o : Nat) (f : Nat → Int64) (sz : Nat) (wd w1 : va_W) (b0 : Nat) {fs : List Value} (p0 p1 : Int32) (he : wd[0]? = some (b0, .inr (2, fs))) (hM : MX l yX2_set wsX2_set rmX2_set_x D c sz wd [.ref b0, .int p0, .int p1] xA w1) : MW l yL_set wsL_set rmL_set D c sz (wd ++ wO c o f) [.ref b0, .int p0, .int p1, .ref o] (nI 2) (w1 ++ wO c o f) := by
  refine MW.ofH (cc := cL_set) (maxL := 5) (hh := [(0, 10, 13, 13), (0, 10, 17, 21)]) (by decide) rfl (Nat.le_of_ble_eq_true rfl) ?_
  intro P e s m below meth cd A Q ls hsz S hK hN hSt hV htab hW hA hl hret
  subst hsz
  have hl : lv_has ls 5 [(0, .ref b0), (1, .int p0), (2, .int p1), (3, .ref o)] := hl
  refine lv_aload_n S.1 S.2.1 dL_set_0 rfl (lv_at hl 3 rfl) ?_
  refine lv_iconst (v := nI 0) S.1 S.2.1 dL_set_1 rfl ?_
  refine lv_aload_n S.1 S.2.1 dL_set_2 rfl (lv_at hl 0 rfl) ?_
  refine lv_iload_n S.1 S.2.1 dL_set_3 rfl (lv_at hl 1 rfl) ?_
  refine lv_iload_n S.1 S.2.1 dL_set_4 rfl (lv_at hl 2 rfl) ?_
  refine k_VX (rest := [.int (nI 0), .ref o]) S hK hl.1 hW (KFr.lft hW hA) hN hSt hV hM gL_set_X2_set rfl pdX2_set ⟨⟨rfl, rfl⟩, Nat.le_of_ble_eq_true rfl, Nat.le_of_ble_eq_true rfl⟩ 0 2 he rfl rfl rfl (Nat.le_of_ble_eq_true rfl) dL_set_5 ⟨Nat.le_of_ble_eq_true rfl, Nat.le_of_ble_eq_true rfl⟩ (fun q9 ce H locs hW hq9 hv9 hcl => ?_)
  refine vx_catch (name := xA) S.2.2.2.1 [_] _ _ (htab.trans rfl) (fun z hz => by rw [List.mem_singleton.mp hz]; exact Or.inr ⟨by decide, xI, S.2.2.2.2 (.classLink RL 13 xI) (List.mem_of_getElem? (i := 1) rfl), hSt.2.1.2.1⟩) rfl (by decide) (S.2.2.2.2 (.classLink RL 21 xA) (List.mem_of_getElem? (i := 2) rfl)) (xcast (ik := _) (ic := _) (Or.inr (Or.inr ⟨rfl, rfl, rfl⟩)) hSt _) hq9 hv9 hcl ?_
  refine lv_astore S.1 S.2.1 dL_set_17 hl (by decide) rfl (fun ls hl => ?_)
  refine lv_iconst (v := nI 2) S.1 S.2.1 dL_set_19 rfl ?_
  exact hret 20 _ _ _ _ _ _ _ dL_set_20 hW rfl rfl (by decide) (by decide)
abbrev rmL_append : Room := { frames := 7, cells := 1, slots := 6, locals := 103 }
theorem pdL_append : kPd yL_append 3 := by decide +kernel
set_option maxRecDepth 100000 in
theorem wL_append_k (l : Launch) (D : va_G) (c : Nat → ClassId) (o : Nat) (f : Nat → Int64) (sz : Nat) (wd w1 : va_W) (b0 : Nat) {fs : List Value} (p0 : Int32) (r : Int32) (he : wd[0]? = some (b0, .inr (2, fs))) (hM : MI3 l yX2_append wsX2_append rmX2_append D c sz wd [.ref b0, .int p0] r w1) : MW l yL_append wsL_append rmL_append D c sz (wd ++ wO c o f) [.ref b0, .int p0, .ref o] (nI 0) (w1 ++ wO c o (vp_updL f 0 r.toInt64)) := by
  refine MW.ofH (cc := cL_append) (maxL := 4) (hh := [(0, 9, 12, 21), (0, 9, 15, 15)]) (by decide) rfl (Nat.le_of_ble_eq_true rfl) ?_
  intro P e s m below meth cd A Q ls hsz S hK hN hSt hV htab hW hA hl hret
  subst hsz
  have hl : lv_has ls 4 [(0, .ref b0), (1, .int p0), (2, .ref o)] := hl
  refine lv_aload_n S.1 S.2.1 dL_append_0 rfl (lv_at hl 2 rfl) ?_
  refine lv_iconst (v := nI 0) S.1 S.2.1 dL_append_1 rfl ?_
  refine lv_aload_n S.1 S.2.1 dL_append_2 rfl (lv_at hl 0 rfl) ?_
  refine lv_iload_n S.1 S.2.1 dL_append_3 rfl (lv_at hl 1 rfl) ?_
  refine k_VI3 (rest := [.int (nI 0), .ref o]) S hK hl.1 hW (KFr.lft hW hA) hN hSt hV hM gL_append_X2_append rfl pdX2_append ⟨⟨rfl, rfl⟩, Nat.le_of_ble_eq_true rfl, Nat.le_of_ble_eq_true rfl⟩ 0 2 he rfl rfl rfl (Nat.le_of_ble_eq_true rfl) dL_append_4 ⟨Nat.le_of_ble_eq_true rfl, Nat.le_of_ble_eq_true rfl⟩ (fun H locs hW => ?_)
  refine wk_tail (rest := []) S hK hW dL_append_7 dL_append_8 (fun H locs hW => ?_)
  refine lv_goto (tgt := 18) S.1 S.2.1 dL_append_9 (by decide) ?_
  refine lv_iconst (v := nI 0) S.1 S.2.1 dL_append_18 rfl ?_
  exact hret 19 _ _ _ _ _ _ _ dL_append_19 hW rfl rfl (Nat.zero_le _) (Nat.zero_le _)
set_option maxRecDepth 100000 in
theorem wL_append_x1 (l : Launch) (D : va_G) (c : Nat → ClassId) (o : Nat) (f : Nat → Int64) (sz : Nat) (wd w1 : va_W) (b0 : Nat) {fs : List Value} (p0 : Int32) (he : wd[0]? = some (b0, .inr (2, fs))) (hM : MX l yX2_append wsX2_append rmX2_append_x D c sz wd [.ref b0, .int p0] xA w1) : MW l yL_append wsL_append rmL_append D c sz (wd ++ wO c o f) [.ref b0, .int p0, .ref o] (nI 1) (w1 ++ wO c o f) := by
  refine MW.ofH (cc := cL_append) (maxL := 4) (hh := [(0, 9, 12, 21), (0, 9, 15, 15)]) (by decide) rfl (Nat.le_of_ble_eq_true rfl) ?_
  intro P e s m below meth cd A Q ls hsz S hK hN hSt hV htab hW hA hl hret
  subst hsz
  have hl : lv_has ls 4 [(0, .ref b0), (1, .int p0), (2, .ref o)] := hl
  refine lv_aload_n S.1 S.2.1 dL_append_0 rfl (lv_at hl 2 rfl) ?_
  refine lv_iconst (v := nI 0) S.1 S.2.1 dL_append_1 rfl ?_
  refine lv_aload_n S.1 S.2.1 dL_append_2 rfl (lv_at hl 0 rfl) ?_
  refine lv_iload_n S.1 S.2.1 dL_append_3 rfl (lv_at hl 1 rfl) ?_
  refine k_VX (rest := [.int (nI 0), .ref o]) S hK hl.1 hW (KFr.lft hW hA) hN hSt hV hM gL_append_X2_append rfl pdX2_append ⟨⟨rfl, rfl⟩, Nat.le_of_ble_eq_true rfl, Nat.le_of_ble_eq_true rfl⟩ 0 2 he rfl rfl rfl (Nat.le_of_ble_eq_true rfl) dL_append_4 ⟨Nat.le_of_ble_eq_true rfl, Nat.le_of_ble_eq_true rfl⟩ (fun q9 ce H locs hW hq9 hv9 hcl => ?_)
  refine vx_catch (name := xA) S.2.2.2.1 [] _ _ (htab.trans rfl) (fun z hz => by cases hz) rfl (by decide) (S.2.2.2.2 (.classLink RL 21 xA) (List.mem_of_getElem? (i := 1) rfl)) (xcast (ik := _) (ic := _) (Or.inr (Or.inr ⟨rfl, rfl, rfl⟩)) hSt _) hq9 hv9 hcl ?_
  refine lv_astore_n S.1 S.2.1 dL_append_12 rfl hl (by decide) rfl (fun ls hl => ?_)
  refine lv_iconst (v := nI 1) S.1 S.2.1 dL_append_13 rfl ?_
  exact hret 14 _ _ _ _ _ _ _ dL_append_14 hW rfl rfl (by decide) (by decide)
set_option maxRecDepth 100000 in
theorem wL_append_x2 (l : Launch) (D : va_G) (c : Nat → ClassId) (o : Nat) (f : Nat → Int64) (sz : Nat) (wd w1 : va_W) (b0 : Nat) {fs : List Value} (p0 : Int32) (he : wd[0]? = some (b0, .inr (2, fs))) (hM : MX l yX2_append wsX2_append rmX2_append_x D c sz wd [.ref b0, .int p0] xS w1) : MW l yL_append wsL_append rmL_append D c sz (wd ++ wO c o f) [.ref b0, .int p0, .ref o] (nI 2) (w1 ++ wO c o f) := by
  refine MW.ofH (cc := cL_append) (maxL := 4) (hh := [(0, 9, 12, 21), (0, 9, 15, 15)]) (by decide) rfl (Nat.le_of_ble_eq_true rfl) ?_
  intro P e s m below meth cd A Q ls hsz S hK hN hSt hV htab hW hA hl hret
  subst hsz
  have hl : lv_has ls 4 [(0, .ref b0), (1, .int p0), (2, .ref o)] := hl
  refine lv_aload_n S.1 S.2.1 dL_append_0 rfl (lv_at hl 2 rfl) ?_
  refine lv_iconst (v := nI 0) S.1 S.2.1 dL_append_1 rfl ?_
  refine lv_aload_n S.1 S.2.1 dL_append_2 rfl (lv_at hl 0 rfl) ?_
  refine lv_iload_n S.1 S.2.1 dL_append_3 rfl (lv_at hl 1 rfl) ?_
  refine k_VX (rest := [.int (nI 0), .ref o]) S hK hl.1 hW (KFr.lft hW hA) hN hSt hV hM gL_append_X2_append rfl pdX2_append ⟨⟨rfl, rfl⟩, Nat.le_of_ble_eq_true rfl, Nat.le_of_ble_eq_true rfl⟩ 0 2 he rfl rfl rfl (Nat.le_of_ble_eq_true rfl) dL_append_4 ⟨Nat.le_of_ble_eq_true rfl, Nat.le_of_ble_eq_true rfl⟩ (fun q9 ce H locs hW hq9 hv9 hcl => ?_)
  refine vx_catch (name := xS) S.2.2.2.1 [_] _ _ (htab.trans rfl) (fun z hz => by rw [List.mem_singleton.mp hz]; exact Or.inr ⟨by decide, xA, S.2.2.2.2 (.classLink RL 21 xA) (List.mem_of_getElem? (i := 1) rfl), hSt.2.1.2.2⟩) rfl (by decide) (S.2.2.2.2 (.classLink RL 15 xS) (List.mem_of_getElem? (i := 2) rfl)) (xcast (ik := _) (ic := _) (Or.inr (Or.inl ⟨rfl, rfl, rfl⟩)) hSt _) hq9 hv9 hcl ?_
  refine lv_astore_n S.1 S.2.1 dL_append_15 rfl hl (by decide) rfl (fun ls hl => ?_)
  refine lv_iconst (v := nI 2) S.1 S.2.1 dL_append_16 rfl ?_
  exact hret 17 _ _ _ _ _ _ _ dL_append_17 hW rfl rfl (by decide) (by decide)
abbrev rmL_pins : Room := { frames := 7, cells := 1, slots := 6, locals := 159 }
theorem pdL_pins : kPd yL_pins 2 := by decide +kernel
set_option maxRecDepth 100000 in
theorem wL_pins_k (l : Launch) (D : va_G) (c : Nat → ClassId) (o : Nat) (f : Nat → Int64) (sz : Nat) (wd w1 : va_W) (b0 : Nat) {fs : List Value} (r : Int32) (he : wd[0]? = some (b0, .inr (2, fs))) (hM : MI3 l yX2_pins wsX2_pins rmX2_pins D c sz wd [.ref b0] r w1) : MW l yL_pins wsL_pins rmL_pins D c sz (wd ++ wO c o f) [.ref b0, .ref o] (nI 0) (w1 ++ wO c o (vp_updL f 0 r.toInt64)) := by
  refine MW.ofH (cc := cL_pins) (maxL := 3) (hh := [(0, 8, 11, 21)]) (by decide) rfl (Nat.le_of_ble_eq_true rfl) ?_
  intro P e s m below meth cd A Q ls hsz S hK hN hSt hV htab hW hA hl hret
  subst hsz
  have hl : lv_has ls 3 [(0, .ref b0), (1, .ref o)] := hl
  refine lv_aload_n S.1 S.2.1 dL_pins_0 rfl (lv_at hl 1 rfl) ?_
  refine lv_iconst (v := nI 0) S.1 S.2.1 dL_pins_1 rfl ?_
  refine lv_aload_n S.1 S.2.1 dL_pins_2 rfl (lv_at hl 0 rfl) ?_
  refine k_VI3 (rest := [.int (nI 0), .ref o]) S hK hl.1 hW (KFr.lft hW hA) hN hSt hV hM gL_pins_X2_pins rfl pdX2_pins ⟨⟨rfl, rfl⟩, Nat.le_of_ble_eq_true rfl, Nat.le_of_ble_eq_true rfl⟩ 0 2 he rfl rfl rfl (Nat.le_of_ble_eq_true rfl) dL_pins_3 ⟨Nat.le_of_ble_eq_true rfl, Nat.le_of_ble_eq_true rfl⟩ (fun H locs hW => ?_)
  refine wk_tail (rest := []) S hK hW dL_pins_6 dL_pins_7 (fun H locs hW => ?_)
  refine lv_goto (tgt := 14) S.1 S.2.1 dL_pins_8 (by decide) ?_
  refine lv_iconst (v := nI 0) S.1 S.2.1 dL_pins_14 rfl ?_
  exact hret 15 _ _ _ _ _ _ _ dL_pins_15 hW rfl rfl (Nat.zero_le _) (Nat.zero_le _)
set_option maxRecDepth 100000 in
theorem wL_pins_x1 (l : Launch) (D : va_G) (c : Nat → ClassId) (o : Nat) (f : Nat → Int64) (sz : Nat) (wd w1 : va_W) (b0 : Nat) {fs : List Value} (he : wd[0]? = some (b0, .inr (2, fs))) (hM : MX l yX2_pins wsX2_pins rmX2_pins_x D c sz wd [.ref b0] xA w1) : MW l yL_pins wsL_pins rmL_pins D c sz (wd ++ wO c o f) [.ref b0, .ref o] (nI 1) (w1 ++ wO c o f) := by
  refine MW.ofH (cc := cL_pins) (maxL := 3) (hh := [(0, 8, 11, 21)]) (by decide) rfl (Nat.le_of_ble_eq_true rfl) ?_
  intro P e s m below meth cd A Q ls hsz S hK hN hSt hV htab hW hA hl hret
  subst hsz
  have hl : lv_has ls 3 [(0, .ref b0), (1, .ref o)] := hl
  refine lv_aload_n S.1 S.2.1 dL_pins_0 rfl (lv_at hl 1 rfl) ?_
  refine lv_iconst (v := nI 0) S.1 S.2.1 dL_pins_1 rfl ?_
  refine lv_aload_n S.1 S.2.1 dL_pins_2 rfl (lv_at hl 0 rfl) ?_
  refine k_VX (rest := [.int (nI 0), .ref o]) S hK hl.1 hW (KFr.lft hW hA) hN hSt hV hM gL_pins_X2_pins rfl pdX2_pins ⟨⟨rfl, rfl⟩, Nat.le_of_ble_eq_true rfl, Nat.le_of_ble_eq_true rfl⟩ 0 2 he rfl rfl rfl (Nat.le_of_ble_eq_true rfl) dL_pins_3 ⟨Nat.le_of_ble_eq_true rfl, Nat.le_of_ble_eq_true rfl⟩ (fun q9 ce H locs hW hq9 hv9 hcl => ?_)
  refine vx_catch (name := xA) S.2.2.2.1 [] _ _ (htab.trans rfl) (fun z hz => by cases hz) rfl (by decide) (S.2.2.2.2 (.classLink RL 21 xA) (List.mem_of_getElem? (i := 1) rfl)) (xcast (ik := _) (ic := _) (Or.inr (Or.inr ⟨rfl, rfl, rfl⟩)) hSt _) hq9 hv9 hcl ?_
  refine lv_astore_n S.1 S.2.1 dL_pins_11 rfl hl (by decide) rfl (fun ls hl => ?_)
  refine lv_iconst (v := nI 1) S.1 S.2.1 dL_pins_12 rfl ?_
  exact hret 13 _ _ _ _ _ _ _ dL_pins_13 hW rfl rfl (by decide) (by decide)
abbrev rmL_undo : Room := { frames := 7, cells := 1, slots := 6, locals := 102 }
theorem pdL_undo : kPd yL_undo 2 := by decide +kernel
set_option maxRecDepth 100000 in
theorem wL_undo_k (l : Launch) (D : va_G) (c : Nat → ClassId) (o : Nat) (f : Nat → Int64) (sz : Nat) (wd w1 : va_W) (b0 : Nat) {fs : List Value} (r : Int32) (he : wd[0]? = some (b0, .inr (2, fs))) (hM : MI3 l yX2_undo wsX2_undo rmX2_undo D c sz wd [.ref b0] r w1) : MW l yL_undo wsL_undo rmL_undo D c sz (wd ++ wO c o f) [.ref b0, .ref o] (nI 0) (w1 ++ wO c o (vp_updL f 0 r.toInt64)) := by
  refine MW.ofH (cc := cL_undo) (maxL := 3) (hh := [(0, 8, 11, 15)]) (by decide) rfl (Nat.le_of_ble_eq_true rfl) ?_
  intro P e s m below meth cd A Q ls hsz S hK hN hSt hV htab hW hA hl hret
  subst hsz
  have hl : lv_has ls 3 [(0, .ref b0), (1, .ref o)] := hl
  refine lv_aload_n S.1 S.2.1 dL_undo_0 rfl (lv_at hl 1 rfl) ?_
  refine lv_iconst (v := nI 0) S.1 S.2.1 dL_undo_1 rfl ?_
  refine lv_aload_n S.1 S.2.1 dL_undo_2 rfl (lv_at hl 0 rfl) ?_
  refine k_VI3 (rest := [.int (nI 0), .ref o]) S hK hl.1 hW (KFr.lft hW hA) hN hSt hV hM gL_undo_X2_undo rfl pdX2_undo ⟨⟨rfl, rfl⟩, Nat.le_of_ble_eq_true rfl, Nat.le_of_ble_eq_true rfl⟩ 0 2 he rfl rfl rfl (Nat.le_of_ble_eq_true rfl) dL_undo_3 ⟨Nat.le_of_ble_eq_true rfl, Nat.le_of_ble_eq_true rfl⟩ (fun H locs hW => ?_)
  refine wk_tail (rest := []) S hK hW dL_undo_6 dL_undo_7 (fun H locs hW => ?_)
  refine lv_goto (tgt := 14) S.1 S.2.1 dL_undo_8 (by decide) ?_
  refine lv_iconst (v := nI 0) S.1 S.2.1 dL_undo_14 rfl ?_
  exact hret 15 _ _ _ _ _ _ _ dL_undo_15 hW rfl rfl (Nat.zero_le _) (Nat.zero_le _)
set_option maxRecDepth 100000 in
theorem wL_undo_x1 (l : Launch) (D : va_G) (c : Nat → ClassId) (o : Nat) (f : Nat → Int64) (sz : Nat) (wd w1 : va_W) (b0 : Nat) {fs : List Value} (he : wd[0]? = some (b0, .inr (2, fs))) (hM : MX l yX2_undo wsX2_undo rmX2_undo_x D c sz wd [.ref b0] xS w1) : MW l yL_undo wsL_undo rmL_undo D c sz (wd ++ wO c o f) [.ref b0, .ref o] (nI 1) (w1 ++ wO c o f) := by
  refine MW.ofH (cc := cL_undo) (maxL := 3) (hh := [(0, 8, 11, 15)]) (by decide) rfl (Nat.le_of_ble_eq_true rfl) ?_
  intro P e s m below meth cd A Q ls hsz S hK hN hSt hV htab hW hA hl hret
  subst hsz
  have hl : lv_has ls 3 [(0, .ref b0), (1, .ref o)] := hl
  refine lv_aload_n S.1 S.2.1 dL_undo_0 rfl (lv_at hl 1 rfl) ?_
  refine lv_iconst (v := nI 0) S.1 S.2.1 dL_undo_1 rfl ?_
  refine lv_aload_n S.1 S.2.1 dL_undo_2 rfl (lv_at hl 0 rfl) ?_
  refine k_VX (rest := [.int (nI 0), .ref o]) S hK hl.1 hW (KFr.lft hW hA) hN hSt hV hM gL_undo_X2_undo rfl pdX2_undo ⟨⟨rfl, rfl⟩, Nat.le_of_ble_eq_true rfl, Nat.le_of_ble_eq_true rfl⟩ 0 2 he rfl rfl rfl (Nat.le_of_ble_eq_true rfl) dL_undo_3 ⟨Nat.le_of_ble_eq_true rfl, Nat.le_of_ble_eq_true rfl⟩ (fun q9 ce H locs hW hq9 hv9 hcl => ?_)
  refine vx_catch (name := xS) S.2.2.2.1 [] _ _ (htab.trans rfl) (fun z hz => by cases hz) rfl (by decide) (S.2.2.2.2 (.classLink RL 15 xS) (List.mem_of_getElem? (i := 1) rfl)) (xcast (ik := _) (ic := _) (Or.inr (Or.inl ⟨rfl, rfl, rfl⟩)) hSt _) hq9 hv9 hcl ?_
  refine lv_astore_n S.1 S.2.1 dL_undo_11 rfl hl (by decide) rfl (fun ls hl => ?_)
  refine lv_iconst (v := nI 1) S.1 S.2.1 dL_undo_12 rfl ?_
  exact hret 13 _ _ _ _ _ _ _ dL_undo_13 hW rfl rfl (by decide) (by decide)
abbrev rmL_restore : Room := { frames := 7, cells := 1, slots := 6, locals := 102 }
theorem pdL_restore : kPd yL_restore 2 := by decide +kernel
set_option maxRecDepth 100000 in
theorem wL_restore_k (l : Launch) (D : va_G) (c : Nat → ClassId) (o : Nat) (f : Nat → Int64) (sz : Nat) (wd w1 : va_W) (b0 : Nat) {fs : List Value} (r : Int32) (he : wd[0]? = some (b0, .inr (2, fs))) (hM : MI3 l yX2_restore wsX2_restore rmX2_restore D c sz wd [.ref b0] r w1) : MW l yL_restore wsL_restore rmL_restore D c sz (wd ++ wO c o f) [.ref b0, .ref o] (nI 0) (w1 ++ wO c o (vp_updL f 0 r.toInt64)) := by
  refine MW.ofH (cc := cL_restore) (maxL := 3) (hh := [(0, 8, 11, 15)]) (by decide) rfl (Nat.le_of_ble_eq_true rfl) ?_
  intro P e s m below meth cd A Q ls hsz S hK hN hSt hV htab hW hA hl hret
  subst hsz
  have hl : lv_has ls 3 [(0, .ref b0), (1, .ref o)] := hl
  refine lv_aload_n S.1 S.2.1 dL_restore_0 rfl (lv_at hl 1 rfl) ?_
  refine lv_iconst (v := nI 0) S.1 S.2.1 dL_restore_1 rfl ?_
  refine lv_aload_n S.1 S.2.1 dL_restore_2 rfl (lv_at hl 0 rfl) ?_
  refine k_VI3 (rest := [.int (nI 0), .ref o]) S hK hl.1 hW (KFr.lft hW hA) hN hSt hV hM gL_restore_X2_restore rfl pdX2_restore ⟨⟨rfl, rfl⟩, Nat.le_of_ble_eq_true rfl, Nat.le_of_ble_eq_true rfl⟩ 0 2 he rfl rfl rfl (Nat.le_of_ble_eq_true rfl) dL_restore_3 ⟨Nat.le_of_ble_eq_true rfl, Nat.le_of_ble_eq_true rfl⟩ (fun H locs hW => ?_)
  refine wk_tail (rest := []) S hK hW dL_restore_6 dL_restore_7 (fun H locs hW => ?_)
  refine lv_goto (tgt := 14) S.1 S.2.1 dL_restore_8 (by decide) ?_
  refine lv_iconst (v := nI 0) S.1 S.2.1 dL_restore_14 rfl ?_
  exact hret 15 _ _ _ _ _ _ _ dL_restore_15 hW rfl rfl (Nat.zero_le _) (Nat.zero_le _)
set_option maxRecDepth 100000 in
theorem wL_restore_x1 (l : Launch) (D : va_G) (c : Nat → ClassId) (o : Nat) (f : Nat → Int64) (sz : Nat) (wd w1 : va_W) (b0 : Nat) {fs : List Value} (he : wd[0]? = some (b0, .inr (2, fs))) (hM : MX l yX2_restore wsX2_restore rmX2_restore_x D c sz wd [.ref b0] xS w1) : MW l yL_restore wsL_restore rmL_restore D c sz (wd ++ wO c o f) [.ref b0, .ref o] (nI 1) (w1 ++ wO c o f) := by
  refine MW.ofH (cc := cL_restore) (maxL := 3) (hh := [(0, 8, 11, 15)]) (by decide) rfl (Nat.le_of_ble_eq_true rfl) ?_
  intro P e s m below meth cd A Q ls hsz S hK hN hSt hV htab hW hA hl hret
  subst hsz
  have hl : lv_has ls 3 [(0, .ref b0), (1, .ref o)] := hl
  refine lv_aload_n S.1 S.2.1 dL_restore_0 rfl (lv_at hl 1 rfl) ?_
  refine lv_iconst (v := nI 0) S.1 S.2.1 dL_restore_1 rfl ?_
  refine lv_aload_n S.1 S.2.1 dL_restore_2 rfl (lv_at hl 0 rfl) ?_
  refine k_VX (rest := [.int (nI 0), .ref o]) S hK hl.1 hW (KFr.lft hW hA) hN hSt hV hM gL_restore_X2_restore rfl pdX2_restore ⟨⟨rfl, rfl⟩, Nat.le_of_ble_eq_true rfl, Nat.le_of_ble_eq_true rfl⟩ 0 2 he rfl rfl rfl (Nat.le_of_ble_eq_true rfl) dL_restore_3 ⟨Nat.le_of_ble_eq_true rfl, Nat.le_of_ble_eq_true rfl⟩ (fun q9 ce H locs hW hq9 hv9 hcl => ?_)
  refine vx_catch (name := xS) S.2.2.2.1 [] _ _ (htab.trans rfl) (fun z hz => by cases hz) rfl (by decide) (S.2.2.2.2 (.classLink RL 15 xS) (List.mem_of_getElem? (i := 1) rfl)) (xcast (ik := _) (ic := _) (Or.inr (Or.inl ⟨rfl, rfl, rfl⟩)) hSt _) hq9 hv9 hcl ?_
  refine lv_astore_n S.1 S.2.1 dL_restore_11 rfl hl (by decide) rfl (fun ls hl => ?_)
  refine lv_iconst (v := nI 1) S.1 S.2.1 dL_restore_12 rfl ?_
  exact hret 13 _ _ _ _ _ _ _ dL_restore_13 hW rfl rfl (by decide) (by decide)
abbrev rmL_whyNot : Room := { frames := 7, cells := 1, slots := 6, locals := 105 }
theorem pdL_whyNot : kPd yL_whyNot 5 := by decide +kernel
set_option maxRecDepth 100000 in
theorem wL_whyNot_k (l : Launch) (D : va_G) (c : Nat → ClassId) (o : Nat) (f : Nat → Int64) (sz : Nat) (wd w1 : va_W) (b0 : Nat) {fs : List Value} (p0 p1 p2 : Int32) (r : Int32) (he : wd[0]? = some (b0, .inr (2, fs))) (hM : MI3 l yX2_whyNot wsX2_whyNot rmX2_whyNot D c sz wd [.ref b0, .int p0, .int p1, .int p2] r w1) : MW l yL_whyNot wsL_whyNot rmL_whyNot D c sz (wd ++ wO c o f) [.ref b0, .int p0, .int p1, .int p2, .ref o] (nI 0) (w1 ++ wO c o (vp_updL f 0 r.toInt64)) := by
  refine MW.ofH (cc := cL_whyNot) (maxL := 6) (hh := [(0, 12, 15, 13)]) (by decide) rfl (Nat.le_of_ble_eq_true rfl) ?_
  intro P e s m below meth cd A Q ls hsz S hK hN hSt hV htab hW hA hl hret
  subst hsz
  have hl : lv_has ls 6 [(0, .ref b0), (1, .int p0), (2, .int p1), (3, .int p2), (4, .ref o)] := hl
  refine lv_aload S.1 S.2.1 dL_whyNot_0 (lv_at hl 4 rfl) ?_
  refine lv_iconst (v := nI 0) S.1 S.2.1 dL_whyNot_2 rfl ?_
  refine lv_aload_n S.1 S.2.1 dL_whyNot_3 rfl (lv_at hl 0 rfl) ?_
  refine lv_iload_n S.1 S.2.1 dL_whyNot_4 rfl (lv_at hl 1 rfl) ?_
  refine lv_iload_n S.1 S.2.1 dL_whyNot_5 rfl (lv_at hl 2 rfl) ?_
  refine lv_iload_n S.1 S.2.1 dL_whyNot_6 rfl (lv_at hl 3 rfl) ?_
  refine k_VI3 (rest := [.int (nI 0), .ref o]) S hK hl.1 hW (KFr.lft hW hA) hN hSt hV hM gL_whyNot_X2_whyNot rfl pdX2_whyNot ⟨⟨rfl, rfl⟩, Nat.le_of_ble_eq_true rfl, Nat.le_of_ble_eq_true rfl⟩ 0 2 he rfl rfl rfl (Nat.le_of_ble_eq_true rfl) dL_whyNot_7 ⟨Nat.le_of_ble_eq_true rfl, Nat.le_of_ble_eq_true rfl⟩ (fun H locs hW => ?_)
  refine wk_tail (rest := []) S hK hW dL_whyNot_10 dL_whyNot_11 (fun H locs hW => ?_)
  refine lv_goto (tgt := 19) S.1 S.2.1 dL_whyNot_12 (by decide) ?_
  refine lv_iconst (v := nI 0) S.1 S.2.1 dL_whyNot_19 rfl ?_
  exact hret 20 _ _ _ _ _ _ _ dL_whyNot_20 hW rfl rfl (Nat.zero_le _) (Nat.zero_le _)
set_option maxRecDepth 100000 in
theorem wL_whyNot_x1 (l : Launch) (D : va_G) (c : Nat → ClassId) (o : Nat) (f : Nat → Int64) (sz : Nat) (wd w1 : va_W) (b0 : Nat) {fs : List Value} (p0 p1 p2 : Int32) (he : wd[0]? = some (b0, .inr (2, fs))) (hM : MX l yX2_whyNot wsX2_whyNot rmX2_whyNot_x D c sz wd [.ref b0, .int p0, .int p1, .int p2] xI w1) : MW l yL_whyNot wsL_whyNot rmL_whyNot D c sz (wd ++ wO c o f) [.ref b0, .int p0, .int p1, .int p2, .ref o] (nI 1) (w1 ++ wO c o f) := by
  refine MW.ofH (cc := cL_whyNot) (maxL := 6) (hh := [(0, 12, 15, 13)]) (by decide) rfl (Nat.le_of_ble_eq_true rfl) ?_
  intro P e s m below meth cd A Q ls hsz S hK hN hSt hV htab hW hA hl hret
  subst hsz
  have hl : lv_has ls 6 [(0, .ref b0), (1, .int p0), (2, .int p1), (3, .int p2), (4, .ref o)] := hl
  refine lv_aload S.1 S.2.1 dL_whyNot_0 (lv_at hl 4 rfl) ?_
  refine lv_iconst (v := nI 0) S.1 S.2.1 dL_whyNot_2 rfl ?_
  refine lv_aload_n S.1 S.2.1 dL_whyNot_3 rfl (lv_at hl 0 rfl) ?_
  refine lv_iload_n S.1 S.2.1 dL_whyNot_4 rfl (lv_at hl 1 rfl) ?_
  refine lv_iload_n S.1 S.2.1 dL_whyNot_5 rfl (lv_at hl 2 rfl) ?_
  refine lv_iload_n S.1 S.2.1 dL_whyNot_6 rfl (lv_at hl 3 rfl) ?_
  refine k_VX (rest := [.int (nI 0), .ref o]) S hK hl.1 hW (KFr.lft hW hA) hN hSt hV hM gL_whyNot_X2_whyNot rfl pdX2_whyNot ⟨⟨rfl, rfl⟩, Nat.le_of_ble_eq_true rfl, Nat.le_of_ble_eq_true rfl⟩ 0 2 he rfl rfl rfl (Nat.le_of_ble_eq_true rfl) dL_whyNot_7 ⟨Nat.le_of_ble_eq_true rfl, Nat.le_of_ble_eq_true rfl⟩ (fun q9 ce H locs hW hq9 hv9 hcl => ?_)
  refine vx_catch (name := xI) S.2.2.2.1 [] _ _ (htab.trans rfl) (fun z hz => by cases hz) rfl (by decide) (S.2.2.2.2 (.classLink RL 13 xI) (List.mem_of_getElem? (i := 1) rfl)) (xcast (ik := _) (ic := _) (Or.inl ⟨rfl, rfl, rfl⟩) hSt _) hq9 hv9 hcl ?_
  refine lv_astore S.1 S.2.1 dL_whyNot_15 hl (by decide) rfl (fun ls hl => ?_)
  refine lv_iconst (v := nI 1) S.1 S.2.1 dL_whyNot_17 rfl ?_
  exact hret 18 _ _ _ _ _ _ _ dL_whyNot_18 hW rfl rfl (by decide) (by decide)
abbrev rmL_next : Room := { frames := 7, cells := 1, slots := 6, locals := 105 }
theorem pdL_next : kPd yL_next 5 := by decide +kernel
set_option maxRecDepth 100000 in
theorem wL_next_k (l : Launch) (D : va_G) (c : Nat → ClassId) (o : Nat) (f : Nat → Int64) (sz : Nat) (wd w1 : va_W) (b0 : Nat) {fs : List Value} (p0 p1 p2 : Int32) (r : Int32) (he : wd[0]? = some (b0, .inr (2, fs))) (hM : MI3 l yX2_next wsX2_next rmX2_next D c sz wd [.ref b0, .int p0, .int p1, .int p2] r w1) : MW l yL_next wsL_next rmL_next D c sz (wd ++ wO c o f) [.ref b0, .int p0, .int p1, .int p2, .ref o] (nI 0) (w1 ++ wO c o (vp_updL f 0 r.toInt64)) := by
  refine MW.ofH (cc := cL_next) (maxL := 6) (hh := [(0, 12, 15, 13)]) (by decide) rfl (Nat.le_of_ble_eq_true rfl) ?_
  intro P e s m below meth cd A Q ls hsz S hK hN hSt hV htab hW hA hl hret
  subst hsz
  have hl : lv_has ls 6 [(0, .ref b0), (1, .int p0), (2, .int p1), (3, .int p2), (4, .ref o)] := hl
  refine lv_aload S.1 S.2.1 dL_next_0 (lv_at hl 4 rfl) ?_
  refine lv_iconst (v := nI 0) S.1 S.2.1 dL_next_2 rfl ?_
  refine lv_aload_n S.1 S.2.1 dL_next_3 rfl (lv_at hl 0 rfl) ?_
  refine lv_iload_n S.1 S.2.1 dL_next_4 rfl (lv_at hl 1 rfl) ?_
  refine lv_iload_n S.1 S.2.1 dL_next_5 rfl (lv_at hl 2 rfl) ?_
  refine lv_iload_n S.1 S.2.1 dL_next_6 rfl (lv_at hl 3 rfl) ?_
  refine k_VI3 (rest := [.int (nI 0), .ref o]) S hK hl.1 hW (KFr.lft hW hA) hN hSt hV hM gL_next_X2_next rfl pdX2_next ⟨⟨rfl, rfl⟩, Nat.le_of_ble_eq_true rfl, Nat.le_of_ble_eq_true rfl⟩ 0 2 he rfl rfl rfl (Nat.le_of_ble_eq_true rfl) dL_next_7 ⟨Nat.le_of_ble_eq_true rfl, Nat.le_of_ble_eq_true rfl⟩ (fun H locs hW => ?_)
  refine wk_tail (rest := []) S hK hW dL_next_10 dL_next_11 (fun H locs hW => ?_)
  refine lv_goto (tgt := 19) S.1 S.2.1 dL_next_12 (by decide) ?_
  refine lv_iconst (v := nI 0) S.1 S.2.1 dL_next_19 rfl ?_
  exact hret 20 _ _ _ _ _ _ _ dL_next_20 hW rfl rfl (Nat.zero_le _) (Nat.zero_le _)
set_option maxRecDepth 100000 in
theorem wL_next_x1 (l : Launch) (D : va_G) (c : Nat → ClassId) (o : Nat) (f : Nat → Int64) (sz : Nat) (wd w1 : va_W) (b0 : Nat) {fs : List Value} (p0 p1 p2 : Int32) (he : wd[0]? = some (b0, .inr (2, fs))) (hM : MX l yX2_next wsX2_next rmX2_next_x D c sz wd [.ref b0, .int p0, .int p1, .int p2] xI w1) : MW l yL_next wsL_next rmL_next D c sz (wd ++ wO c o f) [.ref b0, .int p0, .int p1, .int p2, .ref o] (nI 1) (w1 ++ wO c o f) := by
  refine MW.ofH (cc := cL_next) (maxL := 6) (hh := [(0, 12, 15, 13)]) (by decide) rfl (Nat.le_of_ble_eq_true rfl) ?_
  intro P e s m below meth cd A Q ls hsz S hK hN hSt hV htab hW hA hl hret
  subst hsz
  have hl : lv_has ls 6 [(0, .ref b0), (1, .int p0), (2, .int p1), (3, .int p2), (4, .ref o)] := hl
  refine lv_aload S.1 S.2.1 dL_next_0 (lv_at hl 4 rfl) ?_
  refine lv_iconst (v := nI 0) S.1 S.2.1 dL_next_2 rfl ?_
  refine lv_aload_n S.1 S.2.1 dL_next_3 rfl (lv_at hl 0 rfl) ?_
  refine lv_iload_n S.1 S.2.1 dL_next_4 rfl (lv_at hl 1 rfl) ?_
  refine lv_iload_n S.1 S.2.1 dL_next_5 rfl (lv_at hl 2 rfl) ?_
  refine lv_iload_n S.1 S.2.1 dL_next_6 rfl (lv_at hl 3 rfl) ?_
  refine k_VX (rest := [.int (nI 0), .ref o]) S hK hl.1 hW (KFr.lft hW hA) hN hSt hV hM gL_next_X2_next rfl pdX2_next ⟨⟨rfl, rfl⟩, Nat.le_of_ble_eq_true rfl, Nat.le_of_ble_eq_true rfl⟩ 0 2 he rfl rfl rfl (Nat.le_of_ble_eq_true rfl) dL_next_7 ⟨Nat.le_of_ble_eq_true rfl, Nat.le_of_ble_eq_true rfl⟩ (fun q9 ce H locs hW hq9 hv9 hcl => ?_)
  refine vx_catch (name := xI) S.2.2.2.1 [] _ _ (htab.trans rfl) (fun z hz => by cases hz) rfl (by decide) (S.2.2.2.2 (.classLink RL 13 xI) (List.mem_of_getElem? (i := 1) rfl)) (xcast (ik := _) (ic := _) (Or.inl ⟨rfl, rfl, rfl⟩) hSt _) hq9 hv9 hcl ?_
  refine lv_astore S.1 S.2.1 dL_next_15 hl (by decide) rfl (fun ls hl => ?_)
  refine lv_iconst (v := nI 1) S.1 S.2.1 dL_next_17 rfl ?_
  exact hret 18 _ _ _ _ _ _ _ dL_next_18 hW rfl rfl (by decide) (by decide)
abbrev rmL_tune : Room := { frames := 7, cells := 1, slots := 6, locals := 113 }
theorem pdL_tune : kPd yL_tune 4 := by decide +kernel
set_option maxRecDepth 100000 in
theorem wL_tune_k (l : Launch) (D : va_G) (c : Nat → ClassId) (o : Nat) (f : Nat → Int64) (sz : Nat) (wd w1 : va_W) (b0 : Nat) {fs : List Value} (p0 p1 : Int32) (r : Int32) (he : wd[0]? = some (b0, .inr (2, fs))) (hM : MI3 l yX2_tune wsX2_tune rmX2_tune D c sz wd [.ref b0, .int p0, .int p1] r w1) : MW l yL_tune wsL_tune rmL_tune D c sz (wd ++ wO c o f) [.ref b0, .int p0, .int p1, .ref o] (nI 0) (w1 ++ wO c o (vp_updL f 0 r.toInt64)) := by
  refine MW.ofH (cc := cL_tune) (maxL := 5) (hh := [(0, 10, 13, 13), (0, 10, 17, 21)]) (by decide) rfl (Nat.le_of_ble_eq_true rfl) ?_
  intro P e s m below meth cd A Q ls hsz S hK hN hSt hV htab hW hA hl hret
  subst hsz
  have hl : lv_has ls 5 [(0, .ref b0), (1, .int p0), (2, .int p1), (3, .ref o)] := hl
  refine lv_aload_n S.1 S.2.1 dL_tune_0 rfl (lv_at hl 3 rfl) ?_
  refine lv_iconst (v := nI 0) S.1 S.2.1 dL_tune_1 rfl ?_
  refine lv_aload_n S.1 S.2.1 dL_tune_2 rfl (lv_at hl 0 rfl) ?_
  refine lv_iload_n S.1 S.2.1 dL_tune_3 rfl (lv_at hl 1 rfl) ?_
  refine lv_iload_n S.1 S.2.1 dL_tune_4 rfl (lv_at hl 2 rfl) ?_
  refine k_VI3 (rest := [.int (nI 0), .ref o]) S hK hl.1 hW (KFr.lft hW hA) hN hSt hV hM gL_tune_X2_tune rfl pdX2_tune ⟨⟨rfl, rfl⟩, Nat.le_of_ble_eq_true rfl, Nat.le_of_ble_eq_true rfl⟩ 0 2 he rfl rfl rfl (Nat.le_of_ble_eq_true rfl) dL_tune_5 ⟨Nat.le_of_ble_eq_true rfl, Nat.le_of_ble_eq_true rfl⟩ (fun H locs hW => ?_)
  refine wk_tail (rest := []) S hK hW dL_tune_8 dL_tune_9 (fun H locs hW => ?_)
  refine lv_goto (tgt := 21) S.1 S.2.1 dL_tune_10 (by decide) ?_
  refine lv_iconst (v := nI 0) S.1 S.2.1 dL_tune_21 rfl ?_
  exact hret 22 _ _ _ _ _ _ _ dL_tune_22 hW rfl rfl (Nat.zero_le _) (Nat.zero_le _)
set_option maxRecDepth 100000 in
theorem wL_tune_x1 (l : Launch) (D : va_G) (c : Nat → ClassId) (o : Nat) (f : Nat → Int64) (sz : Nat) (wd w1 : va_W) (b0 : Nat) {fs : List Value} (p0 p1 : Int32) (he : wd[0]? = some (b0, .inr (2, fs))) (hM : MX l yX2_tune wsX2_tune rmX2_tune_x D c sz wd [.ref b0, .int p0, .int p1] xI w1) : MW l yL_tune wsL_tune rmL_tune D c sz (wd ++ wO c o f) [.ref b0, .int p0, .int p1, .ref o] (nI 1) (w1 ++ wO c o f) := by
  refine MW.ofH (cc := cL_tune) (maxL := 5) (hh := [(0, 10, 13, 13), (0, 10, 17, 21)]) (by decide) rfl (Nat.le_of_ble_eq_true rfl) ?_
  intro P e s m below meth cd A Q ls hsz S hK hN hSt hV htab hW hA hl hret
  subst hsz
  have hl : lv_has ls 5 [(0, .ref b0), (1, .int p0), (2, .int p1), (3, .ref o)] := hl
  refine lv_aload_n S.1 S.2.1 dL_tune_0 rfl (lv_at hl 3 rfl) ?_
  refine lv_iconst (v := nI 0) S.1 S.2.1 dL_tune_1 rfl ?_
  refine lv_aload_n S.1 S.2.1 dL_tune_2 rfl (lv_at hl 0 rfl) ?_
  refine lv_iload_n S.1 S.2.1 dL_tune_3 rfl (lv_at hl 1 rfl) ?_
  refine lv_iload_n S.1 S.2.1 dL_tune_4 rfl (lv_at hl 2 rfl) ?_
  refine k_VX (rest := [.int (nI 0), .ref o]) S hK hl.1 hW (KFr.lft hW hA) hN hSt hV hM gL_tune_X2_tune rfl pdX2_tune ⟨⟨rfl, rfl⟩, Nat.le_of_ble_eq_true rfl, Nat.le_of_ble_eq_true rfl⟩ 0 2 he rfl rfl rfl (Nat.le_of_ble_eq_true rfl) dL_tune_5 ⟨Nat.le_of_ble_eq_true rfl, Nat.le_of_ble_eq_true rfl⟩ (fun q9 ce H locs hW hq9 hv9 hcl => ?_)
  refine vx_catch (name := xI) S.2.2.2.1 [] _ _ (htab.trans rfl) (fun z hz => by cases hz) rfl (by decide) (S.2.2.2.2 (.classLink RL 13 xI) (List.mem_of_getElem? (i := 1) rfl)) (xcast (ik := _) (ic := _) (Or.inl ⟨rfl, rfl, rfl⟩) hSt _) hq9 hv9 hcl ?_
  refine lv_astore S.1 S.2.1 dL_tune_13 hl (by decide) rfl (fun ls hl => ?_)
  refine lv_iconst (v := nI 1) S.1 S.2.1 dL_tune_15 rfl ?_
  exact hret 16 _ _ _ _ _ _ _ dL_tune_16 hW rfl rfl (by decide) (by decide)
set_option maxRecDepth 100000 in
theorem wL_tune_x2 (l : Launch) (D : va_G) (c : Nat → ClassId) (o : Nat) (f : Nat → Int64) (sz : Nat) (wd w1 : va_W) (b0 : Nat) {fs : List Value} (p0 p1 : Int32) (he : wd[0]? = some (b0, .inr (2, fs))) (hM : MX l yX2_tune wsX2_tune rmX2_tune_x D c sz wd [.ref b0, .int p0, .int p1] xA w1) : MW l yL_tune wsL_tune rmL_tune D c sz (wd ++ wO c o f) [.ref b0, .int p0, .int p1, .ref o] (nI 2) (w1 ++ wO c o f) := by
  refine MW.ofH (cc := cL_tune) (maxL := 5) (hh := [(0, 10, 13, 13), (0, 10, 17, 21)]) (by decide) rfl (Nat.le_of_ble_eq_true rfl) ?_
  intro P e s m below meth cd A Q ls hsz S hK hN hSt hV htab hW hA hl hret
  subst hsz
  have hl : lv_has ls 5 [(0, .ref b0), (1, .int p0), (2, .int p1), (3, .ref o)] := hl
  refine lv_aload_n S.1 S.2.1 dL_tune_0 rfl (lv_at hl 3 rfl) ?_
  refine lv_iconst (v := nI 0) S.1 S.2.1 dL_tune_1 rfl ?_
  refine lv_aload_n S.1 S.2.1 dL_tune_2 rfl (lv_at hl 0 rfl) ?_
  refine lv_iload_n S.1 S.2.1 dL_tune_3 rfl (lv_at hl 1 rfl) ?_
  refine lv_iload_n S.1 S.2.1 dL_tune_4 rfl (lv_at hl 2 rfl) ?_
  refine k_VX (rest := [.int (nI 0), .ref o]) S hK hl.1 hW (KFr.lft hW hA) hN hSt hV hM gL_tune_X2_tune rfl pdX2_tune ⟨⟨rfl, rfl⟩, Nat.le_of_ble_eq_true rfl, Nat.le_of_ble_eq_true rfl⟩ 0 2 he rfl rfl rfl (Nat.le_of_ble_eq_true rfl) dL_tune_5 ⟨Nat.le_of_ble_eq_true rfl, Nat.le_of_ble_eq_true rfl⟩ (fun q9 ce H locs hW hq9 hv9 hcl => ?_)
  refine vx_catch (name := xA) S.2.2.2.1 [_] _ _ (htab.trans rfl) (fun z hz => by rw [List.mem_singleton.mp hz]; exact Or.inr ⟨by decide, xI, S.2.2.2.2 (.classLink RL 13 xI) (List.mem_of_getElem? (i := 1) rfl), hSt.2.1.2.1⟩) rfl (by decide) (S.2.2.2.2 (.classLink RL 21 xA) (List.mem_of_getElem? (i := 2) rfl)) (xcast (ik := _) (ic := _) (Or.inr (Or.inr ⟨rfl, rfl, rfl⟩)) hSt _) hq9 hv9 hcl ?_
  refine lv_astore S.1 S.2.1 dL_tune_17 hl (by decide) rfl (fun ls hl => ?_)
  refine lv_iconst (v := nI 2) S.1 S.2.1 dL_tune_19 rfl ?_
  exact hret 20 _ _ _ _ _ _ _ dL_tune_20 hW rfl rfl (by decide) (by decide)
abbrev rmL_chord : Room := { frames := 7, cells := 1, slots := 6, locals := 104 }
theorem pdL_chord : kPd yL_chord 4 := by decide +kernel
set_option maxRecDepth 100000 in
theorem wL_chord_k (l : Launch) (D : va_G) (c : Nat → ClassId) (o : Nat) (f : Nat → Int64) (sz : Nat) (wd w1 : va_W) (b0 : Nat) {fs : List Value} (p0 p1 : Int32) (r : Int32) (he : wd[0]? = some (b0, .inr (2, fs))) (hM : MI3 l yX2_chord wsX2_chord rmX2_chord D c sz wd [.ref b0, .int p0, .int p1] r w1) : MW l yL_chord wsL_chord rmL_chord D c sz (wd ++ wO c o f) [.ref b0, .int p0, .int p1, .ref o] (nI 0) (w1 ++ wO c o (vp_updL f 0 r.toInt64)) := by
  refine MW.ofH (cc := cL_chord) (maxL := 5) (hh := [(0, 10, 13, 13)]) (by decide) rfl (Nat.le_of_ble_eq_true rfl) ?_
  intro P e s m below meth cd A Q ls hsz S hK hN hSt hV htab hW hA hl hret
  subst hsz
  have hl : lv_has ls 5 [(0, .ref b0), (1, .int p0), (2, .int p1), (3, .ref o)] := hl
  refine lv_aload_n S.1 S.2.1 dL_chord_0 rfl (lv_at hl 3 rfl) ?_
  refine lv_iconst (v := nI 0) S.1 S.2.1 dL_chord_1 rfl ?_
  refine lv_aload_n S.1 S.2.1 dL_chord_2 rfl (lv_at hl 0 rfl) ?_
  refine lv_iload_n S.1 S.2.1 dL_chord_3 rfl (lv_at hl 1 rfl) ?_
  refine lv_iload_n S.1 S.2.1 dL_chord_4 rfl (lv_at hl 2 rfl) ?_
  refine k_VI3 (rest := [.int (nI 0), .ref o]) S hK hl.1 hW (KFr.lft hW hA) hN hSt hV hM gL_chord_X2_chord rfl pdX2_chord ⟨⟨rfl, rfl⟩, Nat.le_of_ble_eq_true rfl, Nat.le_of_ble_eq_true rfl⟩ 0 2 he rfl rfl rfl (Nat.le_of_ble_eq_true rfl) dL_chord_5 ⟨Nat.le_of_ble_eq_true rfl, Nat.le_of_ble_eq_true rfl⟩ (fun H locs hW => ?_)
  refine wk_tail (rest := []) S hK hW dL_chord_8 dL_chord_9 (fun H locs hW => ?_)
  refine lv_goto (tgt := 17) S.1 S.2.1 dL_chord_10 (by decide) ?_
  refine lv_iconst (v := nI 0) S.1 S.2.1 dL_chord_17 rfl ?_
  exact hret 18 _ _ _ _ _ _ _ dL_chord_18 hW rfl rfl (Nat.zero_le _) (Nat.zero_le _)
set_option maxRecDepth 100000 in
theorem wL_chord_x1 (l : Launch) (D : va_G) (c : Nat → ClassId) (o : Nat) (f : Nat → Int64) (sz : Nat) (wd w1 : va_W) (b0 : Nat) {fs : List Value} (p0 p1 : Int32) (he : wd[0]? = some (b0, .inr (2, fs))) (hM : MX l yX2_chord wsX2_chord rmX2_chord_x D c sz wd [.ref b0, .int p0, .int p1] xI w1) : MW l yL_chord wsL_chord rmL_chord D c sz (wd ++ wO c o f) [.ref b0, .int p0, .int p1, .ref o] (nI 1) (w1 ++ wO c o f) := by
  refine MW.ofH (cc := cL_chord) (maxL := 5) (hh := [(0, 10, 13, 13)]) (by decide) rfl (Nat.le_of_ble_eq_true rfl) ?_
  intro P e s m below meth cd A Q ls hsz S hK hN hSt hV htab hW hA hl hret
  subst hsz
  have hl : lv_has ls 5 [(0, .ref b0), (1, .int p0), (2, .int p1), (3, .ref o)] := hl
  refine lv_aload_n S.1 S.2.1 dL_chord_0 rfl (lv_at hl 3 rfl) ?_
  refine lv_iconst (v := nI 0) S.1 S.2.1 dL_chord_1 rfl ?_
  refine lv_aload_n S.1 S.2.1 dL_chord_2 rfl (lv_at hl 0 rfl) ?_
  refine lv_iload_n S.1 S.2.1 dL_chord_3 rfl (lv_at hl 1 rfl) ?_
  refine lv_iload_n S.1 S.2.1 dL_chord_4 rfl (lv_at hl 2 rfl) ?_
  refine k_VX (rest := [.int (nI 0), .ref o]) S hK hl.1 hW (KFr.lft hW hA) hN hSt hV hM gL_chord_X2_chord rfl pdX2_chord ⟨⟨rfl, rfl⟩, Nat.le_of_ble_eq_true rfl, Nat.le_of_ble_eq_true rfl⟩ 0 2 he rfl rfl rfl (Nat.le_of_ble_eq_true rfl) dL_chord_5 ⟨Nat.le_of_ble_eq_true rfl, Nat.le_of_ble_eq_true rfl⟩ (fun q9 ce H locs hW hq9 hv9 hcl => ?_)
  refine vx_catch (name := xI) S.2.2.2.1 [] _ _ (htab.trans rfl) (fun z hz => by cases hz) rfl (by decide) (S.2.2.2.2 (.classLink RL 13 xI) (List.mem_of_getElem? (i := 1) rfl)) (xcast (ik := _) (ic := _) (Or.inl ⟨rfl, rfl, rfl⟩) hSt _) hq9 hv9 hcl ?_
  refine lv_astore S.1 S.2.1 dL_chord_13 hl (by decide) rfl (fun ls hl => ?_)
  refine lv_iconst (v := nI 1) S.1 S.2.1 dL_chord_15 rfl ?_
  exact hret 16 _ _ _ _ _ _ _ dL_chord_16 hW rfl rfl (by decide) (by decide)
abbrev rmL_tooth : Room := { frames := 7, cells := 1, slots := 6, locals := 115 }
theorem pdL_tooth : kPd yL_tooth 4 := by decide +kernel
set_option maxRecDepth 100000 in
theorem wL_tooth_k (l : Launch) (D : va_G) (c : Nat → ClassId) (o : Nat) (f : Nat → Int64) (sz : Nat) (wd w1 : va_W) (b0 : Nat) {fs : List Value} (p0 p1 : Int32) (r : Int32) (he : wd[0]? = some (b0, .inr (2, fs))) (hM : MI3 l yX2_tooth wsX2_tooth rmX2_tooth D c sz wd [.ref b0, .int p0, .int p1] r w1) : MW l yL_tooth wsL_tooth rmL_tooth D c sz (wd ++ wO c o f) [.ref b0, .int p0, .int p1, .ref o] (nI 0) (w1 ++ wO c o (vp_updL f 0 r.toInt64)) := by
  refine MW.ofH (cc := cL_tooth) (maxL := 5) (hh := [(0, 10, 13, 13), (0, 10, 17, 21)]) (by decide) rfl (Nat.le_of_ble_eq_true rfl) ?_
  intro P e s m below meth cd A Q ls hsz S hK hN hSt hV htab hW hA hl hret
  subst hsz
  have hl : lv_has ls 5 [(0, .ref b0), (1, .int p0), (2, .int p1), (3, .ref o)] := hl
  refine lv_aload_n S.1 S.2.1 dL_tooth_0 rfl (lv_at hl 3 rfl) ?_
  refine lv_iconst (v := nI 0) S.1 S.2.1 dL_tooth_1 rfl ?_
  refine lv_aload_n S.1 S.2.1 dL_tooth_2 rfl (lv_at hl 0 rfl) ?_
  refine lv_iload_n S.1 S.2.1 dL_tooth_3 rfl (lv_at hl 1 rfl) ?_
  refine lv_iload_n S.1 S.2.1 dL_tooth_4 rfl (lv_at hl 2 rfl) ?_
  refine k_VI3 (rest := [.int (nI 0), .ref o]) S hK hl.1 hW (KFr.lft hW hA) hN hSt hV hM gL_tooth_X2_tooth rfl pdX2_tooth ⟨⟨rfl, rfl⟩, Nat.le_of_ble_eq_true rfl, Nat.le_of_ble_eq_true rfl⟩ 0 2 he rfl rfl rfl (Nat.le_of_ble_eq_true rfl) dL_tooth_5 ⟨Nat.le_of_ble_eq_true rfl, Nat.le_of_ble_eq_true rfl⟩ (fun H locs hW => ?_)
  refine wk_tail (rest := []) S hK hW dL_tooth_8 dL_tooth_9 (fun H locs hW => ?_)
  refine lv_goto (tgt := 21) S.1 S.2.1 dL_tooth_10 (by decide) ?_
  refine lv_iconst (v := nI 0) S.1 S.2.1 dL_tooth_21 rfl ?_
  exact hret 22 _ _ _ _ _ _ _ dL_tooth_22 hW rfl rfl (Nat.zero_le _) (Nat.zero_le _)
set_option maxRecDepth 100000 in
theorem wL_tooth_x1 (l : Launch) (D : va_G) (c : Nat → ClassId) (o : Nat) (f : Nat → Int64) (sz : Nat) (wd w1 : va_W) (b0 : Nat) {fs : List Value} (p0 p1 : Int32) (he : wd[0]? = some (b0, .inr (2, fs))) (hM : MX l yX2_tooth wsX2_tooth rmX2_tooth_x D c sz wd [.ref b0, .int p0, .int p1] xI w1) : MW l yL_tooth wsL_tooth rmL_tooth D c sz (wd ++ wO c o f) [.ref b0, .int p0, .int p1, .ref o] (nI 1) (w1 ++ wO c o f) := by
  refine MW.ofH (cc := cL_tooth) (maxL := 5) (hh := [(0, 10, 13, 13), (0, 10, 17, 21)]) (by decide) rfl (Nat.le_of_ble_eq_true rfl) ?_
  intro P e s m below meth cd A Q ls hsz S hK hN hSt hV htab hW hA hl hret
  subst hsz
  have hl : lv_has ls 5 [(0, .ref b0), (1, .int p0), (2, .int p1), (3, .ref o)] := hl
  refine lv_aload_n S.1 S.2.1 dL_tooth_0 rfl (lv_at hl 3 rfl) ?_
  refine lv_iconst (v := nI 0) S.1 S.2.1 dL_tooth_1 rfl ?_
  refine lv_aload_n S.1 S.2.1 dL_tooth_2 rfl (lv_at hl 0 rfl) ?_
  refine lv_iload_n S.1 S.2.1 dL_tooth_3 rfl (lv_at hl 1 rfl) ?_
  refine lv_iload_n S.1 S.2.1 dL_tooth_4 rfl (lv_at hl 2 rfl) ?_
  refine k_VX (rest := [.int (nI 0), .ref o]) S hK hl.1 hW (KFr.lft hW hA) hN hSt hV hM gL_tooth_X2_tooth rfl pdX2_tooth ⟨⟨rfl, rfl⟩, Nat.le_of_ble_eq_true rfl, Nat.le_of_ble_eq_true rfl⟩ 0 2 he rfl rfl rfl (Nat.le_of_ble_eq_true rfl) dL_tooth_5 ⟨Nat.le_of_ble_eq_true rfl, Nat.le_of_ble_eq_true rfl⟩ (fun q9 ce H locs hW hq9 hv9 hcl => ?_)
  refine vx_catch (name := xI) S.2.2.2.1 [] _ _ (htab.trans rfl) (fun z hz => by cases hz) rfl (by decide) (S.2.2.2.2 (.classLink RL 13 xI) (List.mem_of_getElem? (i := 1) rfl)) (xcast (ik := _) (ic := _) (Or.inl ⟨rfl, rfl, rfl⟩) hSt _) hq9 hv9 hcl ?_
  refine lv_astore S.1 S.2.1 dL_tooth_13 hl (by decide) rfl (fun ls hl => ?_)
  refine lv_iconst (v := nI 1) S.1 S.2.1 dL_tooth_15 rfl ?_
  exact hret 16 _ _ _ _ _ _ _ dL_tooth_16 hW rfl rfl (by decide) (by decide)
set_option maxRecDepth 100000 in
theorem wL_tooth_x2 (l : Launch) (D : va_G) (c : Nat → ClassId) (o : Nat) (f : Nat → Int64) (sz : Nat) (wd w1 : va_W) (b0 : Nat) {fs : List Value} (p0 p1 : Int32) (he : wd[0]? = some (b0, .inr (2, fs))) (hM : MX l yX2_tooth wsX2_tooth rmX2_tooth_x D c sz wd [.ref b0, .int p0, .int p1] xA w1) : MW l yL_tooth wsL_tooth rmL_tooth D c sz (wd ++ wO c o f) [.ref b0, .int p0, .int p1, .ref o] (nI 2) (w1 ++ wO c o f) := by
  refine MW.ofH (cc := cL_tooth) (maxL := 5) (hh := [(0, 10, 13, 13), (0, 10, 17, 21)]) (by decide) rfl (Nat.le_of_ble_eq_true rfl) ?_
  intro P e s m below meth cd A Q ls hsz S hK hN hSt hV htab hW hA hl hret
  subst hsz
  have hl : lv_has ls 5 [(0, .ref b0), (1, .int p0), (2, .int p1), (3, .ref o)] := hl
  refine lv_aload_n S.1 S.2.1 dL_tooth_0 rfl (lv_at hl 3 rfl) ?_
  refine lv_iconst (v := nI 0) S.1 S.2.1 dL_tooth_1 rfl ?_
  refine lv_aload_n S.1 S.2.1 dL_tooth_2 rfl (lv_at hl 0 rfl) ?_
  refine lv_iload_n S.1 S.2.1 dL_tooth_3 rfl (lv_at hl 1 rfl) ?_
  refine lv_iload_n S.1 S.2.1 dL_tooth_4 rfl (lv_at hl 2 rfl) ?_
  refine k_VX (rest := [.int (nI 0), .ref o]) S hK hl.1 hW (KFr.lft hW hA) hN hSt hV hM gL_tooth_X2_tooth rfl pdX2_tooth ⟨⟨rfl, rfl⟩, Nat.le_of_ble_eq_true rfl, Nat.le_of_ble_eq_true rfl⟩ 0 2 he rfl rfl rfl (Nat.le_of_ble_eq_true rfl) dL_tooth_5 ⟨Nat.le_of_ble_eq_true rfl, Nat.le_of_ble_eq_true rfl⟩ (fun q9 ce H locs hW hq9 hv9 hcl => ?_)
  refine vx_catch (name := xA) S.2.2.2.1 [_] _ _ (htab.trans rfl) (fun z hz => by rw [List.mem_singleton.mp hz]; exact Or.inr ⟨by decide, xI, S.2.2.2.2 (.classLink RL 13 xI) (List.mem_of_getElem? (i := 1) rfl), hSt.2.1.2.1⟩) rfl (by decide) (S.2.2.2.2 (.classLink RL 21 xA) (List.mem_of_getElem? (i := 2) rfl)) (xcast (ik := _) (ic := _) (Or.inr (Or.inr ⟨rfl, rfl, rfl⟩)) hSt _) hq9 hv9 hcl ?_
  refine lv_astore S.1 S.2.1 dL_tooth_17 hl (by decide) rfl (fun ls hl => ?_)
  refine lv_iconst (v := nI 2) S.1 S.2.1 dL_tooth_19 rfl ?_
  exact hret 20 _ _ _ _ _ _ _ dL_tooth_20 hW rfl rfl (by decide) (by decide)
abbrev rmL_note : Room := { frames := 7, cells := 1, slots := 6, locals := 104 }
theorem pdL_note : kPd yL_note 4 := by decide +kernel
set_option maxRecDepth 100000 in
theorem wL_note_k (l : Launch) (D : va_G) (c : Nat → ClassId) (o : Nat) (f : Nat → Int64) (sz : Nat) (wd w1 : va_W) (b0 : Nat) {fs : List Value} (p0 p1 : Int32) (r : Int32) (he : wd[0]? = some (b0, .inr (2, fs))) (hM : MI3 l yX2_note wsX2_note rmX2_note D c sz wd [.ref b0, .int p0, .int p1] r w1) : MW l yL_note wsL_note rmL_note D c sz (wd ++ wO c o f) [.ref b0, .int p0, .int p1, .ref o] (nI 0) (w1 ++ wO c o (vp_updL f 0 r.toInt64)) := by
  refine MW.ofH (cc := cL_note) (maxL := 5) (hh := [(0, 10, 13, 21)]) (by decide) rfl (Nat.le_of_ble_eq_true rfl) ?_
  intro P e s m below meth cd A Q ls hsz S hK hN hSt hV htab hW hA hl hret
  subst hsz
  have hl : lv_has ls 5 [(0, .ref b0), (1, .int p0), (2, .int p1), (3, .ref o)] := hl
  refine lv_aload_n S.1 S.2.1 dL_note_0 rfl (lv_at hl 3 rfl) ?_
  refine lv_iconst (v := nI 0) S.1 S.2.1 dL_note_1 rfl ?_
  refine lv_aload_n S.1 S.2.1 dL_note_2 rfl (lv_at hl 0 rfl) ?_
  refine lv_iload_n S.1 S.2.1 dL_note_3 rfl (lv_at hl 1 rfl) ?_
  refine lv_iload_n S.1 S.2.1 dL_note_4 rfl (lv_at hl 2 rfl) ?_
  refine k_VI3 (rest := [.int (nI 0), .ref o]) S hK hl.1 hW (KFr.lft hW hA) hN hSt hV hM gL_note_X2_note rfl pdX2_note ⟨⟨rfl, rfl⟩, Nat.le_of_ble_eq_true rfl, Nat.le_of_ble_eq_true rfl⟩ 0 2 he rfl rfl rfl (Nat.le_of_ble_eq_true rfl) dL_note_5 ⟨Nat.le_of_ble_eq_true rfl, Nat.le_of_ble_eq_true rfl⟩ (fun H locs hW => ?_)
  refine wk_tail (rest := []) S hK hW dL_note_8 dL_note_9 (fun H locs hW => ?_)
  refine lv_goto (tgt := 17) S.1 S.2.1 dL_note_10 (by decide) ?_
  refine lv_iconst (v := nI 0) S.1 S.2.1 dL_note_17 rfl ?_
  exact hret 18 _ _ _ _ _ _ _ dL_note_18 hW rfl rfl (Nat.zero_le _) (Nat.zero_le _)
set_option maxRecDepth 100000 in
theorem wL_note_x1 (l : Launch) (D : va_G) (c : Nat → ClassId) (o : Nat) (f : Nat → Int64) (sz : Nat) (wd w1 : va_W) (b0 : Nat) {fs : List Value} (p0 p1 : Int32) (he : wd[0]? = some (b0, .inr (2, fs))) (hM : MX l yX2_note wsX2_note rmX2_note_x D c sz wd [.ref b0, .int p0, .int p1] xA w1) : MW l yL_note wsL_note rmL_note D c sz (wd ++ wO c o f) [.ref b0, .int p0, .int p1, .ref o] (nI 1) (w1 ++ wO c o f) := by
  refine MW.ofH (cc := cL_note) (maxL := 5) (hh := [(0, 10, 13, 21)]) (by decide) rfl (Nat.le_of_ble_eq_true rfl) ?_
  intro P e s m below meth cd A Q ls hsz S hK hN hSt hV htab hW hA hl hret
  subst hsz
  have hl : lv_has ls 5 [(0, .ref b0), (1, .int p0), (2, .int p1), (3, .ref o)] := hl
  refine lv_aload_n S.1 S.2.1 dL_note_0 rfl (lv_at hl 3 rfl) ?_
  refine lv_iconst (v := nI 0) S.1 S.2.1 dL_note_1 rfl ?_
  refine lv_aload_n S.1 S.2.1 dL_note_2 rfl (lv_at hl 0 rfl) ?_
  refine lv_iload_n S.1 S.2.1 dL_note_3 rfl (lv_at hl 1 rfl) ?_
  refine lv_iload_n S.1 S.2.1 dL_note_4 rfl (lv_at hl 2 rfl) ?_
  refine k_VX (rest := [.int (nI 0), .ref o]) S hK hl.1 hW (KFr.lft hW hA) hN hSt hV hM gL_note_X2_note rfl pdX2_note ⟨⟨rfl, rfl⟩, Nat.le_of_ble_eq_true rfl, Nat.le_of_ble_eq_true rfl⟩ 0 2 he rfl rfl rfl (Nat.le_of_ble_eq_true rfl) dL_note_5 ⟨Nat.le_of_ble_eq_true rfl, Nat.le_of_ble_eq_true rfl⟩ (fun q9 ce H locs hW hq9 hv9 hcl => ?_)
  refine vx_catch (name := xA) S.2.2.2.1 [] _ _ (htab.trans rfl) (fun z hz => by cases hz) rfl (by decide) (S.2.2.2.2 (.classLink RL 21 xA) (List.mem_of_getElem? (i := 1) rfl)) (xcast (ik := _) (ic := _) (Or.inr (Or.inr ⟨rfl, rfl, rfl⟩)) hSt _) hq9 hv9 hcl ?_
  refine lv_astore S.1 S.2.1 dL_note_13 hl (by decide) rfl (fun ls hl => ?_)
  refine lv_iconst (v := nI 1) S.1 S.2.1 dL_note_15 rfl ?_
  exact hret 16 _ _ _ _ _ _ _ dL_note_16 hW rfl rfl (by decide) (by decide)
abbrev rmL_count : Room := { frames := 7, cells := 1, slots := 6, locals := 130 }
theorem pdL_count : kPd yL_count 3 := by decide +kernel
set_option maxRecDepth 100000 in
theorem wL_count_k (l : Launch) (D : va_G) (c : Nat → ClassId) (o : Nat) (f : Nat → Int64) (sz : Nat) (wd w1 : va_W) (b0 : Nat) {fs : List Value} (p0 : Int32) (r : Int32) (he : wd[0]? = some (b0, .inr (2, fs))) (hM : MI3 l yX2_count wsX2_count rmX2_count D c sz wd [.ref b0, .int p0] r w1) : MW l yL_count wsL_count rmL_count D c sz (wd ++ wO c o f) [.ref b0, .int p0, .ref o] (nI 0) (w1 ++ wO c o (vp_updL f 0 r.toInt64)) := by
  refine MW.ofH (cc := cL_count) (maxL := 4) (hh := [(0, 9, 12, 21)]) (by decide) rfl (Nat.le_of_ble_eq_true rfl) ?_
  intro P e s m below meth cd A Q ls hsz S hK hN hSt hV htab hW hA hl hret
  subst hsz
  have hl : lv_has ls 4 [(0, .ref b0), (1, .int p0), (2, .ref o)] := hl
  refine lv_aload_n S.1 S.2.1 dL_count_0 rfl (lv_at hl 2 rfl) ?_
  refine lv_iconst (v := nI 0) S.1 S.2.1 dL_count_1 rfl ?_
  refine lv_aload_n S.1 S.2.1 dL_count_2 rfl (lv_at hl 0 rfl) ?_
  refine lv_iload_n S.1 S.2.1 dL_count_3 rfl (lv_at hl 1 rfl) ?_
  refine k_VI3 (rest := [.int (nI 0), .ref o]) S hK hl.1 hW (KFr.lft hW hA) hN hSt hV hM gL_count_X2_count rfl pdX2_count ⟨⟨rfl, rfl⟩, Nat.le_of_ble_eq_true rfl, Nat.le_of_ble_eq_true rfl⟩ 0 2 he rfl rfl rfl (Nat.le_of_ble_eq_true rfl) dL_count_4 ⟨Nat.le_of_ble_eq_true rfl, Nat.le_of_ble_eq_true rfl⟩ (fun H locs hW => ?_)
  refine wk_tail (rest := []) S hK hW dL_count_7 dL_count_8 (fun H locs hW => ?_)
  refine lv_goto (tgt := 15) S.1 S.2.1 dL_count_9 (by decide) ?_
  refine lv_iconst (v := nI 0) S.1 S.2.1 dL_count_15 rfl ?_
  exact hret 16 _ _ _ _ _ _ _ dL_count_16 hW rfl rfl (Nat.zero_le _) (Nat.zero_le _)
set_option maxRecDepth 100000 in
theorem wL_count_x1 (l : Launch) (D : va_G) (c : Nat → ClassId) (o : Nat) (f : Nat → Int64) (sz : Nat) (wd w1 : va_W) (b0 : Nat) {fs : List Value} (p0 : Int32) (he : wd[0]? = some (b0, .inr (2, fs))) (hM : MX l yX2_count wsX2_count rmX2_count_x D c sz wd [.ref b0, .int p0] xA w1) : MW l yL_count wsL_count rmL_count D c sz (wd ++ wO c o f) [.ref b0, .int p0, .ref o] (nI 1) (w1 ++ wO c o f) := by
  refine MW.ofH (cc := cL_count) (maxL := 4) (hh := [(0, 9, 12, 21)]) (by decide) rfl (Nat.le_of_ble_eq_true rfl) ?_
  intro P e s m below meth cd A Q ls hsz S hK hN hSt hV htab hW hA hl hret
  subst hsz
  have hl : lv_has ls 4 [(0, .ref b0), (1, .int p0), (2, .ref o)] := hl
  refine lv_aload_n S.1 S.2.1 dL_count_0 rfl (lv_at hl 2 rfl) ?_
  refine lv_iconst (v := nI 0) S.1 S.2.1 dL_count_1 rfl ?_
  refine lv_aload_n S.1 S.2.1 dL_count_2 rfl (lv_at hl 0 rfl) ?_
  refine lv_iload_n S.1 S.2.1 dL_count_3 rfl (lv_at hl 1 rfl) ?_
  refine k_VX (rest := [.int (nI 0), .ref o]) S hK hl.1 hW (KFr.lft hW hA) hN hSt hV hM gL_count_X2_count rfl pdX2_count ⟨⟨rfl, rfl⟩, Nat.le_of_ble_eq_true rfl, Nat.le_of_ble_eq_true rfl⟩ 0 2 he rfl rfl rfl (Nat.le_of_ble_eq_true rfl) dL_count_4 ⟨Nat.le_of_ble_eq_true rfl, Nat.le_of_ble_eq_true rfl⟩ (fun q9 ce H locs hW hq9 hv9 hcl => ?_)
  refine vx_catch (name := xA) S.2.2.2.1 [] _ _ (htab.trans rfl) (fun z hz => by cases hz) rfl (by decide) (S.2.2.2.2 (.classLink RL 21 xA) (List.mem_of_getElem? (i := 1) rfl)) (xcast (ik := _) (ic := _) (Or.inr (Or.inr ⟨rfl, rfl, rfl⟩)) hSt _) hq9 hv9 hcl ?_
  refine lv_astore_n S.1 S.2.1 dL_count_12 rfl hl (by decide) rfl (fun ls hl => ?_)
  refine lv_iconst (v := nI 1) S.1 S.2.1 dL_count_13 rfl ?_
  exact hret 14 _ _ _ _ _ _ _ dL_count_14 hW rfl rfl (by decide) (by decide)
abbrev rmL_ifPlayed : Room := { frames := 7, cells := 1, slots := 6, locals := 159 }
theorem pdL_ifPlayed : kPd yL_ifPlayed 4 := by decide +kernel
set_option maxRecDepth 100000 in
theorem wL_ifPlayed_k (l : Launch) (D : va_G) (c : Nat → ClassId) (o : Nat) (f : Nat → Int64) (sz : Nat) (wd w1 : va_W) (b0 : Nat) {fs : List Value} (p0 p1 : Int32) (r : Int32) (he : wd[0]? = some (b0, .inr (2, fs))) (hM : MI3 l yX2_ifPlayed wsX2_ifPlayed rmX2_ifPlayed D c sz wd [.ref b0, .int p0, .int p1] r w1) : MW l yL_ifPlayed wsL_ifPlayed rmL_ifPlayed D c sz (wd ++ wO c o f) [.ref b0, .int p0, .int p1, .ref o] (nI 0) (w1 ++ wO c o (vp_updL f 0 r.toInt64)) := by
  refine MW.ofH (cc := cL_ifPlayed) (maxL := 5) (hh := [(0, 10, 13, 21)]) (by decide) rfl (Nat.le_of_ble_eq_true rfl) ?_
  intro P e s m below meth cd A Q ls hsz S hK hN hSt hV htab hW hA hl hret
  subst hsz
  have hl : lv_has ls 5 [(0, .ref b0), (1, .int p0), (2, .int p1), (3, .ref o)] := hl
  refine lv_aload_n S.1 S.2.1 dL_ifPlayed_0 rfl (lv_at hl 3 rfl) ?_
  refine lv_iconst (v := nI 0) S.1 S.2.1 dL_ifPlayed_1 rfl ?_
  refine lv_aload_n S.1 S.2.1 dL_ifPlayed_2 rfl (lv_at hl 0 rfl) ?_
  refine lv_iload_n S.1 S.2.1 dL_ifPlayed_3 rfl (lv_at hl 1 rfl) ?_
  refine lv_iload_n S.1 S.2.1 dL_ifPlayed_4 rfl (lv_at hl 2 rfl) ?_
  refine k_VI3 (rest := [.int (nI 0), .ref o]) S hK hl.1 hW (KFr.lft hW hA) hN hSt hV hM gL_ifPlayed_X2_ifPlayed rfl pdX2_ifPlayed ⟨⟨rfl, rfl⟩, Nat.le_of_ble_eq_true rfl, Nat.le_of_ble_eq_true rfl⟩ 0 2 he rfl rfl rfl (Nat.le_of_ble_eq_true rfl) dL_ifPlayed_5 ⟨Nat.le_of_ble_eq_true rfl, Nat.le_of_ble_eq_true rfl⟩ (fun H locs hW => ?_)
  refine wk_tail (rest := []) S hK hW dL_ifPlayed_8 dL_ifPlayed_9 (fun H locs hW => ?_)
  refine lv_goto (tgt := 17) S.1 S.2.1 dL_ifPlayed_10 (by decide) ?_
  refine lv_iconst (v := nI 0) S.1 S.2.1 dL_ifPlayed_17 rfl ?_
  exact hret 18 _ _ _ _ _ _ _ dL_ifPlayed_18 hW rfl rfl (Nat.zero_le _) (Nat.zero_le _)
set_option maxRecDepth 100000 in
theorem wL_ifPlayed_x1 (l : Launch) (D : va_G) (c : Nat → ClassId) (o : Nat) (f : Nat → Int64) (sz : Nat) (wd w1 : va_W) (b0 : Nat) {fs : List Value} (p0 p1 : Int32) (he : wd[0]? = some (b0, .inr (2, fs))) (hM : MX l yX2_ifPlayed wsX2_ifPlayed rmX2_ifPlayed_x D c sz wd [.ref b0, .int p0, .int p1] xA w1) : MW l yL_ifPlayed wsL_ifPlayed rmL_ifPlayed D c sz (wd ++ wO c o f) [.ref b0, .int p0, .int p1, .ref o] (nI 1) (w1 ++ wO c o f) := by
  refine MW.ofH (cc := cL_ifPlayed) (maxL := 5) (hh := [(0, 10, 13, 21)]) (by decide) rfl (Nat.le_of_ble_eq_true rfl) ?_
  intro P e s m below meth cd A Q ls hsz S hK hN hSt hV htab hW hA hl hret
  subst hsz
  have hl : lv_has ls 5 [(0, .ref b0), (1, .int p0), (2, .int p1), (3, .ref o)] := hl
  refine lv_aload_n S.1 S.2.1 dL_ifPlayed_0 rfl (lv_at hl 3 rfl) ?_
  refine lv_iconst (v := nI 0) S.1 S.2.1 dL_ifPlayed_1 rfl ?_
  refine lv_aload_n S.1 S.2.1 dL_ifPlayed_2 rfl (lv_at hl 0 rfl) ?_
  refine lv_iload_n S.1 S.2.1 dL_ifPlayed_3 rfl (lv_at hl 1 rfl) ?_
  refine lv_iload_n S.1 S.2.1 dL_ifPlayed_4 rfl (lv_at hl 2 rfl) ?_
  refine k_VX (rest := [.int (nI 0), .ref o]) S hK hl.1 hW (KFr.lft hW hA) hN hSt hV hM gL_ifPlayed_X2_ifPlayed rfl pdX2_ifPlayed ⟨⟨rfl, rfl⟩, Nat.le_of_ble_eq_true rfl, Nat.le_of_ble_eq_true rfl⟩ 0 2 he rfl rfl rfl (Nat.le_of_ble_eq_true rfl) dL_ifPlayed_5 ⟨Nat.le_of_ble_eq_true rfl, Nat.le_of_ble_eq_true rfl⟩ (fun q9 ce H locs hW hq9 hv9 hcl => ?_)
  refine vx_catch (name := xA) S.2.2.2.1 [] _ _ (htab.trans rfl) (fun z hz => by cases hz) rfl (by decide) (S.2.2.2.2 (.classLink RL 21 xA) (List.mem_of_getElem? (i := 1) rfl)) (xcast (ik := _) (ic := _) (Or.inr (Or.inr ⟨rfl, rfl, rfl⟩)) hSt _) hq9 hv9 hcl ?_
  refine lv_astore S.1 S.2.1 dL_ifPlayed_13 hl (by decide) rfl (fun ls hl => ?_)
  refine lv_iconst (v := nI 1) S.1 S.2.1 dL_ifPlayed_15 rfl ?_
  exact hret 16 _ _ _ _ _ _ _ dL_ifPlayed_16 hW rfl rfl (by decide) (by decide)
abbrev rmL_windFor : Room := { frames := 7, cells := 1, slots := 6, locals := 103 }
theorem pdL_windFor : kPd yL_windFor 3 := by decide +kernel
set_option maxRecDepth 100000 in
theorem wL_windFor_k (l : Launch) (D : va_G) (c : Nat → ClassId) (o : Nat) (f : Nat → Int64) (sz : Nat) (wd w1 : va_W) (b0 : Nat) {fs : List Value} (p0 : Int32) (r : Int32) (he : wd[0]? = some (b0, .inr (2, fs))) (hM : MI3 l yX2_windFor wsX2_windFor rmX2_windFor D c sz wd [.ref b0, .int p0] r w1) : MW l yL_windFor wsL_windFor rmL_windFor D c sz (wd ++ wO c o f) [.ref b0, .int p0, .ref o] (nI 0) (w1 ++ wO c o (vp_updL f 0 r.toInt64)) := by
  refine MW.ofH (cc := cL_windFor) (maxL := 4) (hh := [(0, 9, 12, 21)]) (by decide) rfl (Nat.le_of_ble_eq_true rfl) ?_
  intro P e s m below meth cd A Q ls hsz S hK hN hSt hV htab hW hA hl hret
  subst hsz
  have hl : lv_has ls 4 [(0, .ref b0), (1, .int p0), (2, .ref o)] := hl
  refine lv_aload_n S.1 S.2.1 dL_windFor_0 rfl (lv_at hl 2 rfl) ?_
  refine lv_iconst (v := nI 0) S.1 S.2.1 dL_windFor_1 rfl ?_
  refine lv_aload_n S.1 S.2.1 dL_windFor_2 rfl (lv_at hl 0 rfl) ?_
  refine lv_iload_n S.1 S.2.1 dL_windFor_3 rfl (lv_at hl 1 rfl) ?_
  refine k_VI3 (rest := [.int (nI 0), .ref o]) S hK hl.1 hW (KFr.lft hW hA) hN hSt hV hM gL_windFor_X2_windFor rfl pdX2_windFor ⟨⟨rfl, rfl⟩, Nat.le_of_ble_eq_true rfl, Nat.le_of_ble_eq_true rfl⟩ 0 2 he rfl rfl rfl (Nat.le_of_ble_eq_true rfl) dL_windFor_4 ⟨Nat.le_of_ble_eq_true rfl, Nat.le_of_ble_eq_true rfl⟩ (fun H locs hW => ?_)
  refine wk_tail (rest := []) S hK hW dL_windFor_7 dL_windFor_8 (fun H locs hW => ?_)
  refine lv_goto (tgt := 15) S.1 S.2.1 dL_windFor_9 (by decide) ?_
  refine lv_iconst (v := nI 0) S.1 S.2.1 dL_windFor_15 rfl ?_
  exact hret 16 _ _ _ _ _ _ _ dL_windFor_16 hW rfl rfl (Nat.zero_le _) (Nat.zero_le _)
set_option maxRecDepth 100000 in
theorem wL_windFor_x1 (l : Launch) (D : va_G) (c : Nat → ClassId) (o : Nat) (f : Nat → Int64) (sz : Nat) (wd w1 : va_W) (b0 : Nat) {fs : List Value} (p0 : Int32) (he : wd[0]? = some (b0, .inr (2, fs))) (hM : MX l yX2_windFor wsX2_windFor rmX2_windFor_x D c sz wd [.ref b0, .int p0] xA w1) : MW l yL_windFor wsL_windFor rmL_windFor D c sz (wd ++ wO c o f) [.ref b0, .int p0, .ref o] (nI 1) (w1 ++ wO c o f) := by
  refine MW.ofH (cc := cL_windFor) (maxL := 4) (hh := [(0, 9, 12, 21)]) (by decide) rfl (Nat.le_of_ble_eq_true rfl) ?_
  intro P e s m below meth cd A Q ls hsz S hK hN hSt hV htab hW hA hl hret
  subst hsz
  have hl : lv_has ls 4 [(0, .ref b0), (1, .int p0), (2, .ref o)] := hl
  refine lv_aload_n S.1 S.2.1 dL_windFor_0 rfl (lv_at hl 2 rfl) ?_
  refine lv_iconst (v := nI 0) S.1 S.2.1 dL_windFor_1 rfl ?_
  refine lv_aload_n S.1 S.2.1 dL_windFor_2 rfl (lv_at hl 0 rfl) ?_
  refine lv_iload_n S.1 S.2.1 dL_windFor_3 rfl (lv_at hl 1 rfl) ?_
  refine k_VX (rest := [.int (nI 0), .ref o]) S hK hl.1 hW (KFr.lft hW hA) hN hSt hV hM gL_windFor_X2_windFor rfl pdX2_windFor ⟨⟨rfl, rfl⟩, Nat.le_of_ble_eq_true rfl, Nat.le_of_ble_eq_true rfl⟩ 0 2 he rfl rfl rfl (Nat.le_of_ble_eq_true rfl) dL_windFor_4 ⟨Nat.le_of_ble_eq_true rfl, Nat.le_of_ble_eq_true rfl⟩ (fun q9 ce H locs hW hq9 hv9 hcl => ?_)
  refine vx_catch (name := xA) S.2.2.2.1 [] _ _ (htab.trans rfl) (fun z hz => by cases hz) rfl (by decide) (S.2.2.2.2 (.classLink RL 21 xA) (List.mem_of_getElem? (i := 1) rfl)) (xcast (ik := _) (ic := _) (Or.inr (Or.inr ⟨rfl, rfl, rfl⟩)) hSt _) hq9 hv9 hcl ?_
  refine lv_astore_n S.1 S.2.1 dL_windFor_12 rfl hl (by decide) rfl (fun ls hl => ?_)
  refine lv_iconst (v := nI 1) S.1 S.2.1 dL_windFor_13 rfl ?_
  exact hret 14 _ _ _ _ _ _ _ dL_windFor_14 hW rfl rfl (by decide) (by decide)
