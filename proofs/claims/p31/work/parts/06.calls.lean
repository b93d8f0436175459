section KY
variable {p : Program} {l : Launch} {e : Env} {R : Room} {s : State} {m : MethodId} {args : Array Value} {below : List Frame} {meth : Method} {cd : Code} {H : Heap} {locs : List Loc} {cells slots : Nat} {Q : State → Prop} {pc : Nat} {ls : Array Slot} {rest : List Value} {cc : ByteArray} {D : va_G} {c : Nat → ClassId} {A : Nat → Prop} {H0 : Heap} {ws : va_W}
variable {y : MethodName} {wsY ws' : List Cond} {rm : Room} {bytes : ByteArray} {maxL : Nat} {ret : Option FieldType} {index nL : Nat} {Ts : List Cond} {own host : String} {b : Nat} {As st0 : List Value} {wc w1 w2 : va_W}
abbrev kPd (y : MethodName) (n : Nat) : Prop := y.cls ≠ "java/lang/invoke/MethodHandle" ∧ y.cls ≠ "java/lang/invoke/VarHandle" ∧ (parseMethodDescriptor y.desc).map (fun d => d.parameters.length) = some n
abbrev kRm (rm R : Room) (maxL : Nat) : Prop := (rm.cells = 0 ∧ rm.slots = 0) ∧ rm.frames + 1 ≤ R.frames ∧ 8 + (maxL + 11) + rm.locals ≤ R.locals
theorem k_recv {wc : va_W} {s : State} {H : Heap} {b q0 ci : Nat} {fs : List Value} {qc : vw_C} {C : String} (hK : va_K D vwCl (vT c) s) (hP : va_P D vwCl wc H) (he : wc[q0]? = some (b, .inr (ci, fs))) (hc : vwCl[ci]? = some qc) (hq : qc.1 = C) : ∃ cell : Cell, H[b]? = some cell ∧ cell.vm.isStatics = false ∧ s.vm.findClass C = some cell.cls := by
  subst hq
  exact va_recv hK hP hc he
theorem k_pre {av : List Value} {U : State} (f1 : va_P D vwCl wc H) (f2 : va_D (fun _ => True) wc) (hK : va_K D vwCl (vT c) s) (hU : U.heap = H) (hWm : s.WarmedH U.vm) : va_Pc av (kP D c H.size wc) av.toArray U := ⟨rfl, by rw [hU], by rw [hU]; exact f1, va_K.moved hWm.alike hK, f2⟩

theorem k_VI (S : CallFix p m cd cc nL s args Ts own) (hK : va_K D vwCl (vT c) s) (hl : ls.size = nL) (hW : kw D A H0 ws H locs) (fr : KFr D A H0 wc w1 w2 H) {r : Int32} 
    (hM : MI l y wsY rm D c H.size wc (.ref b :: As) r w1) (hG : GoodIn Ts (wsV own index y.cls y wsY)) (hw : wsY = Cond.code y bytes maxL ret :: ws') (hd : kPd y As.length) (hR : kRm rm R maxL)
    (q0 ci : Nat) {fs : List Value} {qc : vw_C} (he : wc[q0]? = some (b, .inr (ci, fs))) (hc : vwCl[ci]? = some qc) (hq : qc.1 = y.cls)
    (hs : st0 = As.reverse ++ .ref b :: rest) (hst : (rest.map fun v => v.category).sum ≤ 8) (hdg : decode cc pc = .ok (.invokevirtual index, 3)) (hcs : cells ≤ R.cells ∧ slots ≤ R.slots)
    (kk : ∀ (H1 : Heap) (locs1 : List Loc), kw D A H0 w2 H1 locs1 → W p l e R s m args below meth cd H1 locs1 cells slots Q (F0 m (pc + 3) ls (.int r :: rest))) : W p l e R s m args below meth cd H locs cells slots Q (F0 m pc ls st0) := by
  obtain ⟨f1, f2, f3, f4⟩ := fr
  refine va_calli (va_runV (As := As) (rest := rest) S hM (cwV As.length S.2.2.2.2 hG hw hR.1.1 hR.1.2 ⟨rfl, hd⟩ hR.2) ⟨kP_blind, k_recv hK f1 he hc hq, fun U hU hWm => k_pre f1 f2 hK hU hWm⟩ rfl rfl hl hs (lv_room hst) hdg hcs) hW.2.2 (fun q _ h => f3 q h) f3 (fun x u t H1 locs1 ht hvm hw hB hz1 hk1 hS1 => ?_)
  obtain ⟨rfl, rfl⟩ := hw
  obtain ⟨g1, g2⟩ := hB
  rw [ht] at g1
  exact kk H1 locs1 (f4 H1 locs1 g1 g2 hk1 hS1)

theorem k_SI (S : CallFix p m cd cc nL s args Ts own) (hK : va_K D vwCl (vT c) s) (hl : ls.size = nL) (hW : kw D A H0 ws H locs) (fr : KFr D A H0 wc w1 w2 H) {r : Int32} 
    (hM : MI l y wsY rm D c H.size wc As r w1) (hG : GoodIn Ts (va_wsS own index y wsY)) (hw : wsY = Cond.code y bytes maxL ret :: ws') (hd : kPd y As.length) (hR : kRm rm R maxL)
    (hs : st0 = As.reverse ++ rest) (hst : (rest.map fun v => v.category).sum ≤ 8) (hdg : decode cc pc = .ok (.invokestatic index, 3)) (hcs : cells ≤ R.cells ∧ slots ≤ R.slots)
    (kk : ∀ (H1 : Heap) (locs1 : List Loc), kw D A H0 w2 H1 locs1 → W p l e R s m args below meth cd H1 locs1 cells slots Q (F0 m (pc + 3) ls (.int r :: rest))) : W p l e R s m args below meth cd H locs cells slots Q (F0 m pc ls st0) := by
  obtain ⟨f1, f2, f3, f4⟩ := fr
  refine va_calli (va_runS (As := As) (rest := rest) S hM (va_cwS As.length S.2.2.2.2 hG hw hR.1.1 hR.1.2 hd hR.2) ⟨kP_blind, fun U hU hWm => k_pre f1 f2 hK hU hWm⟩ rfl rfl hl hs (lv_room hst) hdg hcs) hW.2.2 (fun q _ h => f3 q h) f3 (fun x u t H1 locs1 ht hvm hw hB hz1 hk1 hS1 => ?_)
  obtain ⟨rfl, rfl⟩ := hw
  obtain ⟨g1, g2⟩ := hB
  rw [ht] at g1
  exact kk H1 locs1 (f4 H1 locs1 g1 g2 hk1 hS1)

theorem k_VL (S : CallFix p m cd cc nL s args Ts own) (hK : va_K D vwCl (vT c) s) (hl : ls.size = nL) (hW : kw D A H0 ws H locs) (fr : KFr D A H0 wc w1 w2 H) {r : Int64} 
    (hM : ML l y wsY rm D c H.size wc (.ref b :: As) r w1) (hG : GoodIn Ts (wsV own index y.cls y wsY)) (hw : wsY = Cond.code y bytes maxL ret :: ws') (hd : kPd y As.length) (hR : kRm rm R maxL)
    (q0 ci : Nat) {fs : List Value} {qc : vw_C} (he : wc[q0]? = some (b, .inr (ci, fs))) (hc : vwCl[ci]? = some qc) (hq : qc.1 = y.cls)
    (hs : st0 = As.reverse ++ .ref b :: rest) (hst : (rest.map fun v => v.category).sum ≤ 8) (hdg : decode cc pc = .ok (.invokevirtual index, 3)) (hcs : cells ≤ R.cells ∧ slots ≤ R.slots)
    (kk : ∀ (H1 : Heap) (locs1 : List Loc), kw D A H0 w2 H1 locs1 → W p l e R s m args below meth cd H1 locs1 cells slots Q (F0 m (pc + 3) ls (.long r :: rest))) : W p l e R s m args below meth cd H locs cells slots Q (F0 m pc ls st0) := by
  obtain ⟨f1, f2, f3, f4⟩ := fr
  refine va_calll (va_runV (As := As) (rest := rest) S hM (cwV As.length S.2.2.2.2 hG hw hR.1.1 hR.1.2 ⟨rfl, hd⟩ hR.2) ⟨kP_blind, k_recv hK f1 he hc hq, fun U hU hWm => k_pre f1 f2 hK hU hWm⟩ rfl rfl hl hs (lv_room hst) hdg hcs) hW.2.2 (fun q _ h => f3 q h) f3 (fun x u t H1 locs1 ht hvm hw hB hz1 hk1 hS1 => ?_)
  obtain ⟨rfl, rfl⟩ := hw
  obtain ⟨g1, g2⟩ := hB
  rw [ht] at g1
  exact kk H1 locs1 (f4 H1 locs1 g1 g2 hk1 hS1)

theorem k_SL (S : CallFix p m cd cc nL s args Ts own) (hK : va_K D vwCl (vT c) s) (hl : ls.size = nL) (hW : kw D A H0 ws H locs) (fr : KFr D A H0 wc w1 w2 H) {r : Int64} 
    (hM : ML l y wsY rm D c H.size wc As r w1) (hG : GoodIn Ts (va_wsS own index y wsY)) (hw : wsY = Cond.code y bytes maxL ret :: ws') (hd : kPd y As.length) (hR : kRm rm R maxL)
    (hs : st0 = As.reverse ++ rest) (hst : (rest.map fun v => v.category).sum ≤ 8) (hdg : decode cc pc = .ok (.invokestatic index, 3)) (hcs : cells ≤ R.cells ∧ slots ≤ R.slots)
    (kk : ∀ (H1 : Heap) (locs1 : List Loc), kw D A H0 w2 H1 locs1 → W p l e R s m args below meth cd H1 locs1 cells slots Q (F0 m (pc + 3) ls (.long r :: rest))) : W p l e R s m args below meth cd H locs cells slots Q (F0 m pc ls st0) := by
  obtain ⟨f1, f2, f3, f4⟩ := fr
  refine va_calll (va_runS (As := As) (rest := rest) S hM (va_cwS As.length S.2.2.2.2 hG hw hR.1.1 hR.1.2 hd hR.2) ⟨kP_blind, fun U hU hWm => k_pre f1 f2 hK hU hWm⟩ rfl rfl hl hs (lv_room hst) hdg hcs) hW.2.2 (fun q _ h => f3 q h) f3 (fun x u t H1 locs1 ht hvm hw hB hz1 hk1 hS1 => ?_)
  obtain ⟨rfl, rfl⟩ := hw
  obtain ⟨g1, g2⟩ := hB
  rw [ht] at g1
  exact kk H1 locs1 (f4 H1 locs1 g1 g2 hk1 hS1)

theorem k_VD (S : CallFix p m cd cc nL s args Ts own) (hK : va_K D vwCl (vT c) s) (hl : ls.size = nL) (hW : kw D A H0 ws H locs) (fr : KFr D A H0 wc w1 w2 H) {r : UInt64} 
    (hM : MF l y wsY rm D c H.size wc (.ref b :: As) r w1) (hG : GoodIn Ts (wsV own index y.cls y wsY)) (hw : wsY = Cond.code y bytes maxL ret :: ws') (hd : kPd y As.length) (hR : kRm rm R maxL)
    (q0 ci : Nat) {fs : List Value} {qc : vw_C} (he : wc[q0]? = some (b, .inr (ci, fs))) (hc : vwCl[ci]? = some qc) (hq : qc.1 = y.cls)
    (hs : st0 = As.reverse ++ .ref b :: rest) (hst : (rest.map fun v => v.category).sum ≤ 8) (hdg : decode cc pc = .ok (.invokevirtual index, 3)) (hcs : cells ≤ R.cells ∧ slots ≤ R.slots)
    (kk : ∀ (H1 : Heap) (locs1 : List Loc), kw D A H0 w2 H1 locs1 → W p l e R s m args below meth cd H1 locs1 cells slots Q (F0 m (pc + 3) ls (.double r :: rest))) : W p l e R s m args below meth cd H locs cells slots Q (F0 m pc ls st0) := by
  obtain ⟨f1, f2, f3, f4⟩ := fr
  refine va_calld (va_runV (As := As) (rest := rest) S hM (cwV As.length S.2.2.2.2 hG hw hR.1.1 hR.1.2 ⟨rfl, hd⟩ hR.2) ⟨kP_blind, k_recv hK f1 he hc hq, fun U hU hWm => k_pre f1 f2 hK hU hWm⟩ rfl rfl hl hs (lv_room hst) hdg hcs) hW.2.2 (fun q _ h => f3 q h) f3 (fun x u t H1 locs1 ht hvm hw hB hz1 hk1 hS1 => ?_)
  obtain ⟨rfl, rfl⟩ := hw
  obtain ⟨g1, g2⟩ := hB
  rw [ht] at g1
  exact kk H1 locs1 (f4 H1 locs1 g1 g2 hk1 hS1)

theorem k_SD (S : CallFix p m cd cc nL s args Ts own) (hK : va_K D vwCl (vT c) s) (hl : ls.size = nL) (hW : kw D A H0 ws H locs) (fr : KFr D A H0 wc w1 w2 H) {r : UInt64} 
    (hM : MF l y wsY rm D c H.size wc As r w1) (hG : GoodIn Ts (va_wsS own index y wsY)) (hw : wsY = Cond.code y bytes maxL ret :: ws') (hd : kPd y As.length) (hR : kRm rm R maxL)
    (hs : st0 = As.reverse ++ rest) (hst : (rest.map fun v => v.category).sum ≤ 8) (hdg : decode cc pc = .ok (.invokestatic index, 3)) (hcs : cells ≤ R.cells ∧ slots ≤ R.slots)
    (kk : ∀ (H1 : Heap) (locs1 : List Loc), kw D A H0 w2 H1 locs1 → W p l e R s m args below meth cd H1 locs1 cells slots Q (F0 m (pc + 3) ls (.double r :: rest))) : W p l e R s m args below meth cd H locs cells slots Q (F0 m pc ls st0) := by
  obtain ⟨f1, f2, f3, f4⟩ := fr
  refine va_calld (va_runS (As := As) (rest := rest) S hM (va_cwS As.length S.2.2.2.2 hG hw hR.1.1 hR.1.2 hd hR.2) ⟨kP_blind, fun U hU hWm => k_pre f1 f2 hK hU hWm⟩ rfl rfl hl hs (lv_room hst) hdg hcs) hW.2.2 (fun q _ h => f3 q h) f3 (fun x u t H1 locs1 ht hvm hw hB hz1 hk1 hS1 => ?_)
  obtain ⟨rfl, rfl⟩ := hw
  obtain ⟨g1, g2⟩ := hB
  rw [ht] at g1
  exact kk H1 locs1 (f4 H1 locs1 g1 g2 hk1 hS1)

theorem k_VV (S : CallFix p m cd cc nL s args Ts own) (hK : va_K D vwCl (vT c) s) (hl : ls.size = nL) (hW : kw D A H0 ws H locs) (fr : KFr D A H0 wc w1 w2 H) 
    (hM : MV l y wsY rm D c H.size wc (.ref b :: As) w1) (hG : GoodIn Ts (wsV own index y.cls y wsY)) (hw : wsY = Cond.code y bytes maxL ret :: ws') (hd : kPd y As.length) (hR : kRm rm R maxL)
    (q0 ci : Nat) {fs : List Value} {qc : vw_C} (he : wc[q0]? = some (b, .inr (ci, fs))) (hc : vwCl[ci]? = some qc) (hq : qc.1 = y.cls)
    (hs : st0 = As.reverse ++ .ref b :: rest) (hst : (rest.map fun v => v.category).sum ≤ 8) (hdg : decode cc pc = .ok (.invokevirtual index, 3)) (hcs : cells ≤ R.cells ∧ slots ≤ R.slots)
    (kk : ∀ (H1 : Heap) (locs1 : List Loc), kw D A H0 w2 H1 locs1 → W p l e R s m args below meth cd H1 locs1 cells slots Q (F0 m (pc + 3) ls (rest))) : W p l e R s m args below meth cd H locs cells slots Q (F0 m pc ls st0) := by
  obtain ⟨f1, f2, f3, f4⟩ := fr
  refine va_callv (va_runV (As := As) (rest := rest) S hM (cwV As.length S.2.2.2.2 hG hw hR.1.1 hR.1.2 ⟨rfl, hd⟩ hR.2) ⟨kP_blind, k_recv hK f1 he hc hq, fun U hU hWm => k_pre f1 f2 hK hU hWm⟩ rfl rfl hl hs (lv_room hst) hdg hcs) hW.2.2 (fun q _ h => f3 q h) f3 (fun u t H1 locs1 ht hvm hw hB hz1 hk1 hS1 => ?_)
  subst hw
  obtain ⟨g1, g2⟩ := hB
  rw [ht] at g1
  exact kk H1 locs1 (f4 H1 locs1 g1 g2 hk1 hS1)

theorem k_SV (S : CallFix p m cd cc nL s args Ts own) (hK : va_K D vwCl (vT c) s) (hl : ls.size = nL) (hW : kw D A H0 ws H locs) (fr : KFr D A H0 wc w1 w2 H) 
    (hM : MV l y wsY rm D c H.size wc As w1) (hG : GoodIn Ts (va_wsS own index y wsY)) (hw : wsY = Cond.code y bytes maxL ret :: ws') (hd : kPd y As.length) (hR : kRm rm R maxL)
    (hs : st0 = As.reverse ++ rest) (hst : (rest.map fun v => v.category).sum ≤ 8) (hdg : decode cc pc = .ok (.invokestatic index, 3)) (hcs : cells ≤ R.cells ∧ slots ≤ R.slots)
    (kk : ∀ (H1 : Heap) (locs1 : List Loc), kw D A H0 w2 H1 locs1 → W p l e R s m args below meth cd H1 locs1 cells slots Q (F0 m (pc + 3) ls (rest))) : W p l e R s m args below meth cd H locs cells slots Q (F0 m pc ls st0) := by
  obtain ⟨f1, f2, f3, f4⟩ := fr
  refine va_callv (va_runS (As := As) (rest := rest) S hM (va_cwS As.length S.2.2.2.2 hG hw hR.1.1 hR.1.2 hd hR.2) ⟨kP_blind, fun U hU hWm => k_pre f1 f2 hK hU hWm⟩ rfl rfl hl hs (lv_room hst) hdg hcs) hW.2.2 (fun q _ h => f3 q h) f3 (fun u t H1 locs1 ht hvm hw hB hz1 hk1 hS1 => ?_)
  subst hw
  obtain ⟨g1, g2⟩ := hB
  rw [ht] at g1
  exact kk H1 locs1 (f4 H1 locs1 g1 g2 hk1 hS1)

end KY
