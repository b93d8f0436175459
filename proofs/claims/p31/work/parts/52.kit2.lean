/-! ===== methods that need the nest's words too ===== -/
def nstL : List Cond := [.fieldLinkNest RX2 146 RX1 "settings" "[I" RX2, .fieldLinkNest RX2 122 RX1 "played" "I" RX2, .fieldLinkNest RX2 108 RX1 "wind" "I" RX2, .fieldLinkNest RX2 119 RX1 "vanes" "I" RX2, .fieldLinkNest RX2 291 RX1 "time" "I" RX2, .fieldLinkNest RX2 282 RX1 "stepsDone" "I" RX2, .fieldLinkNest RX2 285 RX1 "notes" "I" RX2, .fieldLinkNest RX2 288 RX1 "squeaks" "I" RX2, .fieldLinkNest RX2 146 RX1 "settings" "[I" RX2, .fieldLinkNest RX2 146 RX1 "settings" "[I" RX2, .fieldLinkNest RX2 146 RX1 "settings" "[I" RX2]
def nW (U : State) : Prop := ∀ w ∈ nstL, va_Nw w U
theorem nst_form : ∀ w ∈ nstL, ∃ a i b n d h, w = Cond.fieldLinkNest a i b n d h := by
  intro w hw
  unfold nstL at hw
  repeat' (rcases List.mem_cons.mp hw with rfl | hw; · exact ⟨_, _, _, _, _, _, rfl⟩)
  cases hw
theorem nW.warm {s U : State} (h : s.WarmedH U.vm) (hN : nW s) : nW U := fun w hw => by
  have h1 := hN w hw
  obtain ⟨_, _, _, _, _, _, rfl⟩ := nst_form w hw
  exact va_Nw.warmF h h1
theorem nW.same {s U : State} (h : s.vm = U.vm) (hN : nW s) : nW U := fun w hw => by
  have h1 := hN w hw
  obtain ⟨_, _, _, _, _, _, rfl⟩ := nst_form w hw
  exact va_Nw.same rfl h h1
def kP2 (D : va_G) (c : Nat → ClassId) (sz : Nat) (ws : va_W) : State → Prop := fun U => kP D c sz ws U ∧ nW U
def MI2 (l : Launch) (y : MethodName) (ws : List Cond) (rm : Room) (D : va_G) (c : Nat → ClassId) (sz : Nat) (wd : va_W) (av : List Value) (r : Int32) (w' : va_W) : Prop :=
  Met l y ws rm (va_Pc av (kP2 D c sz wd)) (va_Qi (fun (x : Int32) (w : va_W) => x = r ∧ w = w') (kB D wd sz) (va_A wd sz)) 0 0 (va_A wd sz)
def ML2 (l : Launch) (y : MethodName) (ws : List Cond) (rm : Room) (D : va_G) (c : Nat → ClassId) (sz : Nat) (wd : va_W) (av : List Value) (r : Int64) (w' : va_W) : Prop :=
  Met l y ws rm (va_Pc av (kP2 D c sz wd)) (va_Ql (fun (x : Int64) (w : va_W) => x = r ∧ w = w') (kB D wd sz) (va_A wd sz)) 0 0 (va_A wd sz)
def MF2 (l : Launch) (y : MethodName) (ws : List Cond) (rm : Room) (D : va_G) (c : Nat → ClassId) (sz : Nat) (wd : va_W) (av : List Value) (r : UInt64) (w' : va_W) : Prop :=
  Met l y ws rm (va_Pc av (kP2 D c sz wd)) (va_Qd (fun (x : UInt64) (w : va_W) => x = r ∧ w = w') (kB D wd sz) (va_A wd sz)) 0 0 (va_A wd sz)
def MV2 (l : Launch) (y : MethodName) (ws : List Cond) (rm : Room) (D : va_G) (c : Nat → ClassId) (sz : Nat) (wd : va_W) (av : List Value) (w' : va_W) : Prop :=
  Met l y ws rm (va_Pc av (kP2 D c sz wd)) (va_Qv (fun (w : va_W) => w = w') (kB D wd sz) (va_A wd sz)) 0 0 (va_A wd sz)
theorem kP2_blind {av : List Value} {D : va_G} {c : Nat → ClassId} {sz : Nat} {ws : va_W} : FrameBlind (va_Pc av (kP2 D c sz ws)) := fun a U g mk q => by
  obtain ⟨q0, ⟨q1, qP, qK, qD⟩, qN⟩ := q
  exact ⟨q0, ⟨q1, qP, va_K.moved (u := U) (U := U.calling g mk a) (Vm.Alike.refl U.vm) qK, qD⟩, nW.same (s := U) rfl qN⟩
theorem MI2.of {l : Launch} {y : MethodName} {ws ws' : List Cond} {rm : Room} {D : va_G} {c : Nat → ClassId} {sz : Nat} {wd : va_W} {av : List Value} {r : Int32} {w' : va_W} {cc : ByteArray} {maxL : Nat} {ty : FieldType}
    (hy : plainName y.cls = true) (hw : ws = Cond.code y cc maxL (some ty) :: ws') (hlen : (lg_sl av).length ≤ maxL) (hnar : narrow ty (.int r) = .int r)
    (body : ∀ (p : Program) (e : Env) (s : State) (m : MethodId) (below : List Frame) (meth : Method) (cd : Code) (A : Nat → Prop) (Q : State → Prop) (ls : Array Slot), s.heap.size = sz → CallFix p m cd cc maxL s av.toArray ws y.cls → va_K D vwCl (vT c) s → nW s → kw D A s.heap wd s.heap [] → (∀ q, s.heap.size ≤ q → A q) → lv_has ls maxL (lv_args 0 av) →
      (∀ (pc : Nat) (ls1 : Array Slot) (H : Heap) (locs : List Loc) (v : Int32) (w : va_W), decode cc pc = .ok (.ireturn, 1) → kw D A s.heap w H locs → v = r → w = w' → W p l e rm s m av.toArray below meth cd H locs 0 0 Q (F0 m pc ls1 [.int v])) →
      W p l e rm s m av.toArray below meth cd s.heap [] 0 0 Q (F0 m 0 ls [])) : MI2 l y ws rm D c sz wd av r w' := by
  refine Met.ofW (cc := cc) (maxL := maxL) (ret := some ty) hy hw ?_
  intro p e s m args below meth cd s₁ B hml hv
  obtain ⟨rfl, ⟨hsz, hP, hK, hD0⟩, hN⟩ := hv
  have hts := atoms_spec (ws := ws) B.pre
  have hown : s.vm.findClass y.cls = some m.cls := findClass_of_methodNamed B.named
  have hlocks := B.notSynchronized
  have hr := B.returns
  have hb := B.bytes
  have hx := B.exec
  subst hsz
  have hl := lv_entry av (n := maxL) hlen
  rw [lg_entry_eq]
  generalize (lg_sl av ++ List.replicate (maxL - (lg_sl av).length) Slot.unset).toArray = ls at hl ⊢
  refine body p e s m below meth cd (va_A wd s.heap.size) _ ls rfl ⟨hx, hb, hml, hown, hts⟩ hK hN ⟨hP, hD0.self, va_S.rf⟩ (fun q h => Or.inr h) hl ?_
  intro pc ls1 H locs v w hd hW hv hw
  subst hv; subst hw
  exact W.zret hx hb hr hnar (fun t ht hW' => ⟨⟨v, w, rfl, ⟨rfl, rfl⟩, by rw [ht]; exact hW.1, hW.2.1⟩, hW.2.2.F ht⟩) hW.2.2.2.2 hd hlocks
theorem MV2.of {l : Launch} {y : MethodName} {ws ws' : List Cond} {rm : Room} {D : va_G} {c : Nat → ClassId} {sz : Nat} {wd : va_W} {av : List Value} {w' : va_W} {cc : ByteArray} {maxL : Nat}
    (hy : plainName y.cls = true) (hw : ws = Cond.code y cc maxL none :: ws') (hlen : (lg_sl av).length ≤ maxL)
    (body : ∀ (p : Program) (e : Env) (s : State) (m : MethodId) (below : List Frame) (meth : Method) (cd : Code) (A : Nat → Prop) (Q : State → Prop) (ls : Array Slot), s.heap.size = sz → CallFix p m cd cc maxL s av.toArray ws y.cls → va_K D vwCl (vT c) s → nW s → kw D A s.heap wd s.heap [] → (∀ q, s.heap.size ≤ q → A q) → lv_has ls maxL (lv_args 0 av) →
      (∀ (pc : Nat) (ls1 : Array Slot) (H : Heap) (locs : List Loc) (w : va_W), decode cc pc = .ok (.return_, 1) → kw D A s.heap w H locs → w = w' → W p l e rm s m av.toArray below meth cd H locs 0 0 Q (F0 m pc ls1 [])) →
      W p l e rm s m av.toArray below meth cd s.heap [] 0 0 Q (F0 m 0 ls [])) : MV2 l y ws rm D c sz wd av w' := by
  refine Met.ofW (cc := cc) (maxL := maxL) (ret := none) hy hw ?_
  intro p e s m args below meth cd s₁ B hml hv
  obtain ⟨rfl, ⟨hsz, hP, hK, hD0⟩, hN⟩ := hv
  have hts := atoms_spec (ws := ws) B.pre
  have hown : s.vm.findClass y.cls = some m.cls := findClass_of_methodNamed B.named
  have hlocks := B.notSynchronized
  have hr := B.returns
  have hb := B.bytes
  have hx := B.exec
  subst hsz
  have hl := lv_entry av (n := maxL) hlen
  rw [lg_entry_eq]
  generalize (lg_sl av ++ List.replicate (maxL - (lg_sl av).length) Slot.unset).toArray = ls at hl ⊢
  refine body p e s m below meth cd (va_A wd s.heap.size) _ ls rfl ⟨hx, hb, hml, hown, hts⟩ hK hN ⟨hP, hD0.self, va_S.rf⟩ (fun q h => Or.inr h) hl ?_
  intro pc ls1 H locs w hd hW hw
  subst hw
  exact W.vret hx hb hr (fun t ht hW' => ⟨⟨w, rfl, rfl, by rw [ht]; exact hW.1, hW.2.1⟩, hW.2.2.F ht⟩) hW.2.2.2.2 hd hlocks
theorem ML2.of {l : Launch} {y : MethodName} {ws ws' : List Cond} {rm : Room} {D : va_G} {c : Nat → ClassId} {sz : Nat} {wd : va_W} {av : List Value} {r : Int64} {w' : va_W} {cc : ByteArray} {maxL : Nat}
    (hy : plainName y.cls = true) (hw : ws = Cond.code y cc maxL (some .long) :: ws') (hlen : (lg_sl av).length ≤ maxL)
    (body : ∀ (p : Program) (e : Env) (s : State) (m : MethodId) (below : List Frame) (meth : Method) (cd : Code) (A : Nat → Prop) (Q : State → Prop) (ls : Array Slot), s.heap.size = sz → CallFix p m cd cc maxL s av.toArray ws y.cls → va_K D vwCl (vT c) s → nW s → kw D A s.heap wd s.heap [] → (∀ q, s.heap.size ≤ q → A q) → lv_has ls maxL (lv_args 0 av) →
      (∀ (pc : Nat) (ls1 : Array Slot) (H : Heap) (locs : List Loc) (v : Int64) (w : va_W), decode cc pc = .ok (.lreturn, 1) → kw D A s.heap w H locs → v = r → w = w' → W p l e rm s m av.toArray below meth cd H locs 0 0 Q (F0 m pc ls1 [.long v])) →
      W p l e rm s m av.toArray below meth cd s.heap [] 0 0 Q (F0 m 0 ls [])) : ML2 l y ws rm D c sz wd av r w' := by
  refine Met.ofW (cc := cc) (maxL := maxL) (ret := some .long) hy hw ?_
  intro p e s m args below meth cd s₁ B hml hv
  obtain ⟨rfl, ⟨hsz, hP, hK, hD0⟩, hN⟩ := hv
  have hts := atoms_spec (ws := ws) B.pre
  have hown : s.vm.findClass y.cls = some m.cls := findClass_of_methodNamed B.named
  have hlocks := B.notSynchronized
  have hr := B.returns
  have hb := B.bytes
  have hx := B.exec
  subst hsz
  have hl := lv_entry av (n := maxL) hlen
  rw [lg_entry_eq]
  generalize (lg_sl av ++ List.replicate (maxL - (lg_sl av).length) Slot.unset).toArray = ls at hl ⊢
  refine body p e s m below meth cd (va_A wd s.heap.size) _ ls rfl ⟨hx, hb, hml, hown, hts⟩ hK hN ⟨hP, hD0.self, va_S.rf⟩ (fun q h => Or.inr h) hl ?_
  intro pc ls1 H locs v w hd hW hv hw
  subst hv; subst hw
  exact W.lret hx hb hr (fun t ht hW' => ⟨⟨v, w, rfl, ⟨rfl, rfl⟩, by rw [ht]; exact hW.1, hW.2.1⟩, hW.2.2.F ht⟩) hW.2.2.2.2 hd hlocks
theorem MF2.of {l : Launch} {y : MethodName} {ws ws' : List Cond} {rm : Room} {D : va_G} {c : Nat → ClassId} {sz : Nat} {wd : va_W} {av : List Value} {r : UInt64} {w' : va_W} {cc : ByteArray} {maxL : Nat}
    (hy : plainName y.cls = true) (hw : ws = Cond.code y cc maxL (some .double) :: ws') (hlen : (lg_sl av).length ≤ maxL)
    (body : ∀ (p : Program) (e : Env) (s : State) (m : MethodId) (below : List Frame) (meth : Method) (cd : Code) (A : Nat → Prop) (Q : State → Prop) (ls : Array Slot), s.heap.size = sz → CallFix p m cd cc maxL s av.toArray ws y.cls → va_K D vwCl (vT c) s → nW s → kw D A s.heap wd s.heap [] → (∀ q, s.heap.size ≤ q → A q) → lv_has ls maxL (lv_args 0 av) →
      (∀ (pc : Nat) (ls1 : Array Slot) (H : Heap) (locs : List Loc) (v : UInt64) (w : va_W), decode cc pc = .ok (.dreturn, 1) → kw D A s.heap w H locs → v = r → w = w' → W p l e rm s m av.toArray below meth cd H locs 0 0 Q (F0 m pc ls1 [.double v])) →
      W p l e rm s m av.toArray below meth cd s.heap [] 0 0 Q (F0 m 0 ls [])) : MF2 l y ws rm D c sz wd av r w' := by
  refine Met.ofW (cc := cc) (maxL := maxL) (ret := some .double) hy hw ?_
  intro p e s m args below meth cd s₁ B hml hv
  obtain ⟨rfl, ⟨hsz, hP, hK, hD0⟩, hN⟩ := hv
  have hts := atoms_spec (ws := ws) B.pre
  have hown : s.vm.findClass y.cls = some m.cls := findClass_of_methodNamed B.named
  have hlocks := B.notSynchronized
  have hr := B.returns
  have hb := B.bytes
  have hx := B.exec
  subst hsz
  have hl := lv_entry av (n := maxL) hlen
  rw [lg_entry_eq]
  generalize (lg_sl av ++ List.replicate (maxL - (lg_sl av).length) Slot.unset).toArray = ls at hl ⊢
  refine body p e s m below meth cd (va_A wd s.heap.size) _ ls rfl ⟨hx, hb, hml, hown, hts⟩ hK hN ⟨hP, hD0.self, va_S.rf⟩ (fun q h => Or.inr h) hl ?_
  intro pc ls1 H locs v w hd hW hv hw
  subst hv; subst hw
  exact W.dret hx hb hr (fun t ht hW' => ⟨⟨v, w, rfl, ⟨rfl, rfl⟩, by rw [ht]; exact hW.1, hW.2.1⟩, hW.2.2.F ht⟩) hW.2.2.2.2 hd hlocks
section KY
variable {p : Program} {l : Launch} {e : Env} {R : Room} {s : State} {m : MethodId} {args : Array Value} {below : List Frame} {meth : Method} {cd : Code} {H : Heap} {locs : List Loc} {cells slots : Nat} {Q : State → Prop} {pc : Nat} {ls : Array Slot} {rest : List Value} {cc : ByteArray} {D : va_G} {c : Nat → ClassId} {A : Nat → Prop} {H0 : Heap} {ws : va_W}
variable {y : MethodName} {wsY ws' : List Cond} {rm : Room} {bytes : ByteArray} {maxL : Nat} {ret : Option FieldType} {index nL : Nat} {Ts : List Cond} {own host : String} {b : Nat} {As st0 : List Value} {wc w1 w2 : va_W}
theorem k_VI2 (S : CallFix p m cd cc nL s args Ts own) (hK : va_K D vwCl (vT c) s) (hl : ls.size = nL) (hW : kw D A H0 ws H locs) (fr : KFr D A H0 wc w1 w2 H) {r : Int32} 
    (hN : nW s) (hM : MI2 l y wsY rm D c H.size wc (.ref b :: As) r w1) (hG : GoodIn Ts (wsV own index y.cls y wsY)) (hw : wsY = Cond.code y bytes maxL ret :: ws') (hd : kPd y As.length) (hR : kRm rm R maxL)
    (q0 ci : Nat) {fs : List Value} {qc : vw_C} (he : wc[q0]? = some (b, .inr (ci, fs))) (hc : vwCl[ci]? = some qc) (hq : qc.1 = y.cls)
    (hs : st0 = As.reverse ++ .ref b :: rest) (hst : (rest.map fun v => v.category).sum ≤ 8) (hdg : decode cc pc = .ok (.invokevirtual index, 3)) (hcs : cells ≤ R.cells ∧ slots ≤ R.slots)
    (kk : ∀ (H1 : Heap) (locs1 : List Loc), kw D A H0 w2 H1 locs1 → W p l e R s m args below meth cd H1 locs1 cells slots Q (F0 m (pc + 3) ls (.int r :: rest))) : W p l e R s m args below meth cd H locs cells slots Q (F0 m pc ls st0) := by
  obtain ⟨f1, f2, f3, f4⟩ := fr
  refine va_calli (va_runV (As := As) (rest := rest) S hM (cwV As.length S.2.2.2.2 hG hw hR.1.1 hR.1.2 ⟨rfl, hd⟩ hR.2) ⟨kP2_blind, k_recv hK f1 he hc hq, fun U hU hWm => ⟨rfl, (k_pre (av := []) f1 f2 hK hU hWm).2, hN.warm hWm⟩⟩ rfl rfl hl hs (lv_room hst) hdg hcs) hW.2.2 (fun q _ h => f3 q h) f3 (fun x u t H1 locs1 ht hvm hw hB hz1 hk1 hS1 => ?_)
  obtain ⟨rfl, rfl⟩ := hw
  obtain ⟨g1, g2⟩ := hB
  rw [ht] at g1
  exact kk H1 locs1 (f4 H1 locs1 g1 g2 hk1 hS1)

theorem k_VL2 (S : CallFix p m cd cc nL s args Ts own) (hK : va_K D vwCl (vT c) s) (hl : ls.size = nL) (hW : kw D A H0 ws H locs) (fr : KFr D A H0 wc w1 w2 H) {r : Int64} 
    (hN : nW s) (hM : ML2 l y wsY rm D c H.size wc (.ref b :: As) r w1) (hG : GoodIn Ts (wsV own index y.cls y wsY)) (hw : wsY = Cond.code y bytes maxL ret :: ws') (hd : kPd y As.length) (hR : kRm rm R maxL)
    (q0 ci : Nat) {fs : List Value} {qc : vw_C} (he : wc[q0]? = some (b, .inr (ci, fs))) (hc : vwCl[ci]? = some qc) (hq : qc.1 = y.cls)
    (hs : st0 = As.reverse ++ .ref b :: rest) (hst : (rest.map fun v => v.category).sum ≤ 8) (hdg : decode cc pc = .ok (.invokevirtual index, 3)) (hcs : cells ≤ R.cells ∧ slots ≤ R.slots)
    (kk : ∀ (H1 : Heap) (locs1 : List Loc), kw D A H0 w2 H1 locs1 → W p l e R s m args below meth cd H1 locs1 cells slots Q (F0 m (pc + 3) ls (.long r :: rest))) : W p l e R s m args below meth cd H locs cells slots Q (F0 m pc ls st0) := by
  obtain ⟨f1, f2, f3, f4⟩ := fr
  refine va_calll (va_runV (As := As) (rest := rest) S hM (cwV As.length S.2.2.2.2 hG hw hR.1.1 hR.1.2 ⟨rfl, hd⟩ hR.2) ⟨kP2_blind, k_recv hK f1 he hc hq, fun U hU hWm => ⟨rfl, (k_pre (av := []) f1 f2 hK hU hWm).2, hN.warm hWm⟩⟩ rfl rfl hl hs (lv_room hst) hdg hcs) hW.2.2 (fun q _ h => f3 q h) f3 (fun x u t H1 locs1 ht hvm hw hB hz1 hk1 hS1 => ?_)
  obtain ⟨rfl, rfl⟩ := hw
  obtain ⟨g1, g2⟩ := hB
  rw [ht] at g1
  exact kk H1 locs1 (f4 H1 locs1 g1 g2 hk1 hS1)

theorem k_VD2 (S : CallFix p m cd cc nL s args Ts own) (hK : va_K D vwCl (vT c) s) (hl : ls.size = nL) (hW : kw D A H0 ws H locs) (fr : KFr D A H0 wc w1 w2 H) {r : UInt64} 
    (hN : nW s) (hM : MF2 l y wsY rm D c H.size wc (.ref b :: As) r w1) (hG : GoodIn Ts (wsV own index y.cls y wsY)) (hw : wsY = Cond.code y bytes maxL ret :: ws') (hd : kPd y As.length) (hR : kRm rm R maxL)
    (q0 ci : Nat) {fs : List Value} {qc : vw_C} (he : wc[q0]? = some (b, .inr (ci, fs))) (hc : vwCl[ci]? = some qc) (hq : qc.1 = y.cls)
    (hs : st0 = As.reverse ++ .ref b :: rest) (hst : (rest.map fun v => v.category).sum ≤ 8) (hdg : decode cc pc = .ok (.invokevirtual index, 3)) (hcs : cells ≤ R.cells ∧ slots ≤ R.slots)
    (kk : ∀ (H1 : Heap) (locs1 : List Loc), kw D A H0 w2 H1 locs1 → W p l e R s m args below meth cd H1 locs1 cells slots Q (F0 m (pc + 3) ls (.double r :: rest))) : W p l e R s m args below meth cd H locs cells slots Q (F0 m pc ls st0) := by
  obtain ⟨f1, f2, f3, f4⟩ := fr
  refine va_calld (va_runV (As := As) (rest := rest) S hM (cwV As.length S.2.2.2.2 hG hw hR.1.1 hR.1.2 ⟨rfl, hd⟩ hR.2) ⟨kP2_blind, k_recv hK f1 he hc hq, fun U hU hWm => ⟨rfl, (k_pre (av := []) f1 f2 hK hU hWm).2, hN.warm hWm⟩⟩ rfl rfl hl hs (lv_room hst) hdg hcs) hW.2.2 (fun q _ h => f3 q h) f3 (fun x u t H1 locs1 ht hvm hw hB hz1 hk1 hS1 => ?_)
  obtain ⟨rfl, rfl⟩ := hw
  obtain ⟨g1, g2⟩ := hB
  rw [ht] at g1
  exact kk H1 locs1 (f4 H1 locs1 g1 g2 hk1 hS1)

theorem k_VV2 (S : CallFix p m cd cc nL s args Ts own) (hK : va_K D vwCl (vT c) s) (hl : ls.size = nL) (hW : kw D A H0 ws H locs) (fr : KFr D A H0 wc w1 w2 H) 
    (hN : nW s) (hM : MV2 l y wsY rm D c H.size wc (.ref b :: As) w1) (hG : GoodIn Ts (wsV own index y.cls y wsY)) (hw : wsY = Cond.code y bytes maxL ret :: ws') (hd : kPd y As.length) (hR : kRm rm R maxL)
    (q0 ci : Nat) {fs : List Value} {qc : vw_C} (he : wc[q0]? = some (b, .inr (ci, fs))) (hc : vwCl[ci]? = some qc) (hq : qc.1 = y.cls)
    (hs : st0 = As.reverse ++ .ref b :: rest) (hst : (rest.map fun v => v.category).sum ≤ 8) (hdg : decode cc pc = .ok (.invokevirtual index, 3)) (hcs : cells ≤ R.cells ∧ slots ≤ R.slots)
    (kk : ∀ (H1 : Heap) (locs1 : List Loc), kw D A H0 w2 H1 locs1 → W p l e R s m args below meth cd H1 locs1 cells slots Q (F0 m (pc + 3) ls (rest))) : W p l e R s m args below meth cd H locs cells slots Q (F0 m pc ls st0) := by
  obtain ⟨f1, f2, f3, f4⟩ := fr
  refine va_callv (va_runV (As := As) (rest := rest) S hM (cwV As.length S.2.2.2.2 hG hw hR.1.1 hR.1.2 ⟨rfl, hd⟩ hR.2) ⟨kP2_blind, k_recv hK f1 he hc hq, fun U hU hWm => ⟨rfl, (k_pre (av := []) f1 f2 hK hU hWm).2, hN.warm hWm⟩⟩ rfl rfl hl hs (lv_room hst) hdg hcs) hW.2.2 (fun q _ h => f3 q h) f3 (fun u t H1 locs1 ht hvm hw hB hz1 hk1 hS1 => ?_)
  subst hw
  obtain ⟨g1, g2⟩ := hB
  rw [ht] at g1
  exact kk H1 locs1 (f4 H1 locs1 g1 g2 hk1 hS1)

end KY
