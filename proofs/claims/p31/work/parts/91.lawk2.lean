/-! ===== worlds side by side; contracts with all that a call may need ===== -/
theorem vP_iff {D : va_G} {cl : List vw_C} {ws : va_W} {H : Heap} : va_P D cl ws H ↔ ∀ q ∈ ws, va_at D cl q H := by
  constructor
  · intro h q hq
    obtain ⟨k, hk⟩ := List.getElem?_of_mem hq
    exact h k q hk
  · intro h k q hk
    exact h q (List.mem_of_getElem? hk)
theorem vD_iff {A : Nat → Prop} {ws : va_W} : va_D A ws ↔ ws.Pairwise (fun p q => p.1 ≠ q.1) ∧ ∀ q ∈ ws, A q.1 := by
  constructor
  · rintro ⟨h1, h2⟩
    refine ⟨List.pairwise_iff_getElem.mpr fun i j hi hj hij e => ?_, fun q hq => ?_⟩
    · have := h1 i j _ _ (List.getElem?_eq_getElem hi) (List.getElem?_eq_getElem hj) e
      omega
    · obtain ⟨k, hk⟩ := List.getElem?_of_mem hq
      exact h2 k q hk
  · rintro ⟨h1, h2⟩
    rw [List.pairwise_iff_getElem] at h1
    refine ⟨fun i j p q hi hj e => ?_, fun k q hk => h2 q (List.mem_of_getElem? hk)⟩
    obtain ⟨ki, rfl⟩ := List.getElem?_eq_some_iff.mp hi
    obtain ⟨kj, rfl⟩ := List.getElem?_eq_some_iff.mp hj
    rcases Nat.lt_trichotomy i j with c | c | c
    · exact absurd e (h1 i j ki kj c)
    · exact c
    · exact absurd e.symm (h1 j i kj ki c)
theorem KFr.mid {D : va_G} {A : Nat → Prop} {H0 : Heap} {wl wc wr w1 : va_W} {H : Heap} {locs : List Loc} (hW : kw D A H0 (wl ++ (wc ++ wr)) H locs) (hA : ∀ q, H0.size ≤ q → A q) : KFr D A H0 wc w1 (wl ++ (w1 ++ wr)) H := by
  obtain ⟨hP, hD, hS⟩ := hW
  have hP' := vP_iff.mp hP
  obtain ⟨d1, d2⟩ := vD_iff.mp hD
  rw [List.pairwise_append, List.pairwise_append] at d1
  obtain ⟨dl, ⟨dc, dr, dcr⟩, dlx⟩ := d1
  have ml : ∀ q ∈ wl, q ∈ wl ++ (wc ++ wr) := fun q hq => List.mem_append_left _ hq
  have mc : ∀ q ∈ wc, q ∈ wl ++ (wc ++ wr) := fun q hq => List.mem_append_right _ (List.mem_append_left _ hq)
  have mr : ∀ q ∈ wr, q ∈ wl ++ (wc ++ wr) := fun q hq => List.mem_append_right _ (List.mem_append_right _ hq)
  have lt : ∀ q ∈ wl ++ (wc ++ wr), q.1 < H.size := fun q hq => (hP' q hq).lt
  have hF : ∀ q, va_A wc H.size q → A q := by
    rintro q (⟨k, e, h⟩ | h)
    · exact d2 (q, e) (mc _ (List.mem_of_getElem? h))
    · exact hA q (Nat.le_trans hS.1 h)
  refine ⟨vP_iff.mpr (fun q hq => hP' q (mc q hq)), vD_iff.mpr ⟨dc, fun _ _ => trivial⟩, hF, fun H1 locs1 g1 g2 g3 g4 => ?_⟩
  have g1' := vP_iff.mp g1
  obtain ⟨e1, e2⟩ := vD_iff.mp g2
  have outl : ∀ q ∈ wl, ¬ va_A wc H.size q.1 := by
    rintro q hq (⟨k, e, h⟩ | h)
    · exact dlx q hq (q.1, e) (List.mem_append_left _ (List.mem_of_getElem? h)) rfl
    · have := lt q (ml q hq); omega
  have outr : ∀ q ∈ wr, ¬ va_A wc H.size q.1 := by
    rintro q hq (⟨k, e, h⟩ | h)
    · exact dcr (q.1, e) (List.mem_of_getElem? h) q hq rfl
    · have := lt q (mr q hq); omega
  refine ⟨vP_iff.mpr (fun q hq => ?_), vD_iff.mpr ⟨List.pairwise_append.mpr ⟨dl, List.pairwise_append.mpr ⟨e1, dr, fun p hp q hq e => ?_⟩, fun p hp q hq e => ?_⟩, fun q hq => ?_⟩, g4⟩
  · rcases List.mem_append.mp hq with h | h
    · exact (hP' q (ml q h)).kept (g3 q.1 (lt q (ml q h)) (outl q h))
    · rcases List.mem_append.mp h with h | h
      · exact g1' q h
      · exact (hP' q (mr q h)).kept (g3 q.1 (lt q (mr q h)) (outr q h))
  · exact outr q hq (by rw [← e]; exact e2 p hp)
  · rcases List.mem_append.mp hq with h | h
    · exact outl p hp (by rw [e]; exact e2 q h)
    · exact dlx p hp q (List.mem_append_right _ h) e
  · rcases List.mem_append.mp hq with h | h
    · exact d2 q (ml q h)
    · rcases List.mem_append.mp h with h | h
      · exact hF q.1 (e2 q h)
      · exact d2 q (mr q h)
theorem KFr.lft {D : va_G} {A : Nat → Prop} {H0 : Heap} {wc wr w1 : va_W} {H : Heap} {locs : List Loc} (hW : kw D A H0 (wc ++ wr) H locs) (hA : ∀ q, H0.size ≤ q → A q) : KFr D A H0 wc w1 (w1 ++ wr) H := KFr.mid (wl := []) hW hA
theorem KFr.rgt {D : va_G} {A : Nat → Prop} {H0 : Heap} {wl wc w1 : va_W} {H : Heap} {locs : List Loc} (hW : kw D A H0 (wl ++ wc) H locs) (hA : ∀ q, H0.size ≤ q → A q) : KFr D A H0 wc w1 (wl ++ w1) H := by
  have h := KFr.mid (wl := wl) (wc := wc) (wr := []) (w1 := w1) (locs := locs) (D := D) (A := A) (H0 := H0) (H := H) (by rw [List.append_nil]; exact hW) hA
  rw [List.append_nil] at h
  exact h
theorem MI3.of {l : Launch} {y : MethodName} {ws ws' : List Cond} {rm : Room} {D : va_G} {c : Nat → ClassId} {sz : Nat} {wd : va_W} {av : List Value} {r : Int32} {w' : va_W} {cc : ByteArray} {maxL : Nat} {ty : FieldType}
    (hy : plainName y.cls = true) (hw : ws = Cond.code y cc maxL (some ty) :: ws') (hlen : (lg_sl av).length ≤ maxL) (hnar : narrow ty (.int r) = .int r)
    (body : ∀ (p : Program) (e : Env) (s : State) (m : MethodId) (below : List Frame) (meth : Method) (cd : Code) (A : Nat → Prop) (Q : State → Prop) (ls : Array Slot), s.heap.size = sz → CallFix p m cd cc maxL s av.toArray ws y.cls → va_K D vwCl (vT c) s → nW s → eV A s s.heap → kw D A s.heap wd s.heap [] → (∀ q, s.heap.size ≤ q → A q) → lv_has ls maxL (lv_args 0 av) →
      (∀ (pc : Nat) (ls1 : Array Slot) (H : Heap) (locs : List Loc) (v : Int32) (w : va_W), decode cc pc = .ok (.ireturn, 1) → kw D A s.heap w H locs → v = r → w = w' → W p l e rm s m av.toArray below meth cd H locs 0 0 Q (F0 m pc ls1 [.int v])) →
      W p l e rm s m av.toArray below meth cd s.heap [] 0 0 Q (F0 m 0 ls [])) : MI3 l y ws rm D c sz wd av r w' := by
  refine Met.ofW (cc := cc) (maxL := maxL) (ret := some ty) hy hw ?_
  intro p e s m args below meth cd s₁ B hml hv
  obtain ⟨rfl, ⟨⟨hsz, hP, hK, hD0⟩, hN⟩, hSt, hV⟩ := hv
  have hts := atoms_spec (ws := ws) B.pre
  have hown : s.vm.findClass y.cls = some m.cls := findClass_of_methodNamed B.named
  have hlocks := B.notSynchronized
  have hr := B.returns
  have hb := B.bytes
  have hx := B.exec
  subst hsz
  have hl := lv_entry av (n := maxL) hlen
  rw [lg_entry_eq]
  generalize (lg_sl av ++ List.replicate (maxL - (lg_sl av).length) Slot.unset).toArray = ls at hl ⊢
  refine body p e s m below meth cd (va_A wd s.heap.size) _ ls rfl ⟨hx, hb, hml, hown, hts⟩ hK hN hV ⟨hP, hD0.self, va_S.rf⟩ (fun q h => Or.inr h) hl ?_
  intro pc ls1 H locs v w hd hW hv hw
  subst hv; subst hw
  exact W.zret hx hb hr hnar (fun t ht hW' => ⟨⟨v, w, rfl, ⟨rfl, rfl⟩, by rw [ht]; exact hW.1, hW.2.1⟩, hW.2.2.F ht⟩) hW.2.2.2.2 hd hlocks
/-- a method with handlers -/
theorem MW.ofH {l : Launch} {y : MethodName} {ws ws' : List Cond} {rm : Room} {D : va_G} {c : Nat → ClassId} {sz : Nat} {wd : va_W} {av : List Value} {r : Int32} {w' : va_W} {cc : ByteArray} {maxL : Nat} {hh : List (Nat × Nat × Nat × Nat)}
    (hy : plainName y.cls = true) (hw : ws = Cond.codeWith y cc maxL (some .int) hh :: ws') (hlen : (lg_sl av).length ≤ maxL)
    (body : ∀ (p : Program) (e : Env) (s : State) (m : MethodId) (below : List Frame) (meth : Method) (cd : Code) (A : Nat → Prop) (Q : State → Prop) (ls : Array Slot), s.heap.size = sz → CallFix p m cd cc maxL s av.toArray ws y.cls → va_K D vwCl (vT c) s → nW s → sW s → eV A s s.heap → cd.exceptionTable.toList = tableOf hh → kw D A s.heap wd s.heap [] → (∀ q, s.heap.size ≤ q → A q) → lv_has ls maxL (lv_args 0 av) →
      (∀ (pc : Nat) (ls1 : Array Slot) (H : Heap) (locs : List Loc) (v : Int32) (w : va_W) (cells slots : Nat), decode cc pc = .ok (.ireturn, 1) → kw D A s.heap w H locs → v = r → w = w' → cells ≤ 1 → slots ≤ 6 → W p l e rm s m av.toArray below meth cd H locs cells slots Q (F0 m pc ls1 [.int v])) →
      W p l e rm s m av.toArray below meth cd s.heap [] 0 0 Q (F0 m 0 ls [])) : MW l y ws rm D c sz wd av r w' := by
  unfold MW Met
  refine MetFree.of_bodyS (code := cc) (maxLocals := maxL) (ret := some .int) hy ?_ ?_
  · intro args s m h hn
    obtain ⟨m9, meth, c, hn9, h1, h2, h3, h4, -, h5, h6, -⟩ := Cond.codeWith_spec (atoms_spec (ws := ws) h _ (by rw [hw]; exact List.mem_cons_self))
    cases hn.symm.trans hn9
    exact ⟨meth, c, h1, h2, h3, h4, h5, h6⟩
  · intro p e s m args below meth cd s₁ B hml hv _
    obtain ⟨rfl, ⟨⟨hsz, hP, hK, hD0⟩, hN⟩, hSt, hV⟩ := hv
    have hts := atoms_spec (ws := ws) B.pre
    have hown : s.vm.findClass y.cls = some m.cls := findClass_of_methodNamed B.named
    have hlocks := B.notSynchronized
    have hr := B.returns
    have hb := B.bytes
    have hx := B.exec
    have htab : cd.exceptionTable.toList = tableOf hh := vx_table (x := y) B (hts (Cond.codeWith y cc maxL (some .int) hh) (by rw [hw]; exact List.mem_cons_self))
    have hh0 : s₁.heap = s.heap := by rw [B.state]; rfl
    have key : W p l e rm s m av.toArray below meth cd s.heap [] 0 0 (MQ below (va_Qi (fun (x : Int32) (w : va_W) => x = r ∧ w = w') (kB D wd sz) (va_A wd sz)) av.toArray s 1 6 (va_A wd sz)) (entryFrame m av.toArray maxL) := by
      subst hsz
      have hl := lv_entry av (n := maxL) hlen
      rw [lg_entry_eq]
      generalize (lg_sl av ++ List.replicate (maxL - (lg_sl av).length) Slot.unset).toArray = ls at hl ⊢
      refine body p e s m below meth cd (va_A wd s.heap.size) _ ls rfl ⟨hx, hb, hml, hown, hts⟩ hK hN hSt hV htab ⟨hP, hD0.self, va_S.rf⟩ (fun q h => Or.inr h) hl ?_
      intro pc ls1 H locs v w cells slots hd hW hv hw h1 h6
      subst hv; subst hw
      refine W.widen (k := 1) (n := 6) h1 h6 ?_
      exact W.zret hx hb hr rfl (fun t ht hW' => ⟨⟨v, w, rfl, ⟨rfl, rfl⟩, by rw [ht]; exact hW.1, hW.2.1⟩, hW.2.2.F ht⟩) hW.2.2.2.2 hd hlocks
    obtain ⟨t, a1, o, b1, b2, b3, b4⟩ := key s₁ hh0 (Stand.of_body B)
    exact ⟨t, o, a1, b1, b2, b3, b4⟩
section KX3
variable {p : Program} {l : Launch} {e : Env} {R : Room} {s : State} {m : MethodId} {args : Array Value} {below : List Frame} {meth : Method} {cd : Code} {H : Heap} {locs : List Loc} {cells slots : Nat} {Q : State → Prop} {pc : Nat} {ls : Array Slot} {rest : List Value} {cc : ByteArray} {D : va_G} {c : Nat → ClassId} {A : Nat → Prop} {ws : va_W}
variable {y : MethodName} {wsY ws' : List Cond} {rm : Room} {bytes : ByteArray} {maxL : Nat} {ret : Option FieldType} {index nL : Nat} {Ts : List Cond} {own host : String} {b : Nat} {As st0 : List Value} {wc w1 w2 : va_W} {hh : List (Nat × Nat × Nat × Nat)}
theorem k_pre3 {av : List Value} {U : State} (f1 : va_P D vwCl wc H) (f2 : va_D (fun _ => True) wc) (f3 : ∀ q, va_A wc H.size q → A q) (hK : va_K D vwCl (vT c) s) (hN : nW s) (hSt : sW s) (hV : eV A s s.heap) (hS : va_S A s.heap H locs) (hU : U.heap = H) (hWm : s.WarmedH U.vm) : va_Pc av (kP3 D c H.size wc) av.toArray U :=
  ⟨rfl, ⟨⟨by rw [hU], by rw [hU]; exact f1, va_K.moved hWm.alike hK, f2⟩, nW.warm hWm hN⟩, hSt.warm hWm, by rw [hU]; exact ((hV.kept hS.2.1).narrow f3).moved hWm.alike⟩
theorem k_VI3 (S : CallFix p m cd cc nL s args Ts own) (hK : va_K D vwCl (vT c) s) (hl : ls.size = nL) (hW : kw D A s.heap ws H locs) (fr : KFr D A s.heap wc w1 w2 H) {r : Int32}
    (hN : nW s) (hSt : sW s) (hV : eV A s s.heap) (hM : MI3 l y wsY rm D c H.size wc (.ref b :: As) r w1) (hG : GoodIn Ts (wsV own index y.cls y wsY)) (hw : wsY = Cond.code y bytes maxL ret :: ws') (hd : kPd y As.length) (hR : kRm rm R maxL)
    (q0 ci : Nat) {fs : List Value} {qc : vw_C} (he : wc[q0]? = some (b, .inr (ci, fs))) (hc : vwCl[ci]? = some qc) (hq : qc.1 = y.cls)
    (hs : st0 = As.reverse ++ .ref b :: rest) (hst : (rest.map fun v => v.category).sum ≤ 8) (hdg : decode cc pc = .ok (.invokevirtual index, 3)) (hcs : cells ≤ R.cells ∧ slots ≤ R.slots)
    (kk : ∀ (H1 : Heap) (locs1 : List Loc), kw D A s.heap w2 H1 locs1 → W p l e R s m args below meth cd H1 locs1 cells slots Q (F0 m (pc + 3) ls (.int r :: rest))) : W p l e R s m args below meth cd H locs cells slots Q (F0 m pc ls st0) := by
  obtain ⟨f1, f2, f3, f4⟩ := fr
  refine va_calli (va_runV (As := As) (rest := rest) S hM (cwV As.length S.2.2.2.2 hG hw hR.1.1 hR.1.2 ⟨rfl, hd⟩ hR.2) ⟨kP3_blind, k_recv hK f1 he hc hq, fun U hU hWm => k_pre3 f1 f2 f3 hK hN hSt hV hW.2.2 hU hWm⟩ rfl rfl hl hs (lv_room hst) hdg hcs) hW.2.2 (fun q _ h => f3 q h) f3 (fun x u t H1 locs1 ht hvm hw hB hz1 hk1 hS1 => ?_)
  obtain ⟨rfl, rfl⟩ := hw
  obtain ⟨g1, g2⟩ := hB
  rw [ht] at g1
  exact kk H1 locs1 (f4 H1 locs1 g1 g2 hk1 hS1)
theorem k_VX (S : CallFix p m cd cc nL s args Ts own) (hK : va_K D vwCl (vT c) s) (hl : ls.size = nL) (hW : kw D A s.heap ws H locs) (fr : KFr D A s.heap wc w1 w2 H) {E : String}
    (hN : nW s) (hSt : sW s) (hV : eV A s s.heap) (hM : MX l y wsY rm D c H.size wc (.ref b :: As) E w1) (hG : GoodIn Ts (wsV own index y.cls y wsY)) (hw : wsY = Cond.code y bytes maxL ret :: ws') (hd : kPd y As.length) (hR : (rm.cells = 1 ∧ rm.slots = 6) ∧ rm.frames + 1 ≤ R.frames ∧ 8 + (maxL + 11) + rm.locals ≤ R.locals)
    (q0 ci : Nat) {fs : List Value} {qc : vw_C} (he : wc[q0]? = some (b, .inr (ci, fs))) (hc : vwCl[ci]? = some qc) (hq : qc.1 = y.cls)
    (hs : st0 = As.reverse ++ .ref b :: rest) (hst : (rest.map fun v => v.category).sum ≤ 8) (hdg : decode cc pc = .ok (.invokevirtual index, 3)) (hcs : cells + 1 ≤ R.cells ∧ slots + 6 ≤ R.slots)
    (kx : ∀ (q9 : Addr) (ce : Cell) (H1 : Heap) (locs1 : List Loc), kw D A s.heap w2 H1 locs1 → H1[q9]? = some ce → ce.vm = .none → s.vm.findClass E = some ce.cls → vx_W p l e R s m args below meth cd H1 locs1 (cells + 1) (slots + 6) Q (F0 m pc ls rest) q9) : W p l e R s m args below meth cd H locs cells slots Q (F0 m pc ls st0) := by
  obtain ⟨f1, f2, f3, f4⟩ := fr
  refine vx_calli (vx_runV (As := As) (rest := rest) S hM (cwV As.length S.2.2.2.2 hG hw hR.1.1 hR.1.2 ⟨rfl, hd⟩ hR.2) ⟨kP3_blind, k_recv hK f1 he hc hq, fun U hU hWm => k_pre3 f1 f2 f3 hK hN hSt hV hW.2.2 hU hWm⟩ rfl rfl hl hs (lv_room hst) hdg hcs) hW.2.2 (fun q _ h => f3 q h) f3 (fun q _ h => f3 q h) (fun E' ce q9 u t H1 locs1 ht hvm hpx hB hz1 hk1 hS1 hq9 hv9 hcl => ?_) (fun r u t H1 locs1 ht hvm hpost hB hz1 hk1 hS1 => hpost.elim)
  subst hpx
  obtain ⟨rfl, g1, g2⟩ := hB
  rw [ht] at g1
  exact kx q9 ce H1 locs1 (f4 H1 locs1 g1 g2 hk1 hS1) hq9 hv9 hcl
theorem k_SW (S : CallFix p m cd cc nL s args Ts own) (hK : va_K D vwCl (vT c) s) (hl : ls.size = nL) (hW : kw D A s.heap ws H locs) (fr : KFr D A s.heap wc w1 w2 H) {r : Int32}
    (hN : nW s) (hSt : sW s) (hV : eV A s s.heap) (hM : MW l y wsY rm D c H.size wc As r w1) (hG : GoodIn Ts (va_wsS own index y wsY)) (hw : wsY = Cond.codeWith y bytes maxL ret hh :: ws') (hd : kPd y As.length) (hR : (rm.cells = 1 ∧ rm.slots = 6) ∧ rm.frames + 1 ≤ R.frames ∧ 8 + (maxL + 11) + rm.locals ≤ R.locals)
    (hs : st0 = As.reverse ++ rest) (hst : (rest.map fun v => v.category).sum ≤ 8) (hdg : decode cc pc = .ok (.invokestatic index, 3)) (hcs : cells + 1 ≤ R.cells ∧ slots + 6 ≤ R.slots)
    (kk : ∀ (H1 : Heap) (locs1 : List Loc), kw D A s.heap w2 H1 locs1 → W p l e R s m args below meth cd H1 locs1 (cells + 1) (slots + 6) Q (F0 m (pc + 3) ls (.int r :: rest))) : W p l e R s m args below meth cd H locs cells slots Q (F0 m pc ls st0) := by
  obtain ⟨f1, f2, f3, f4⟩ := fr
  refine va_calli (vx_runSW (As := As) (rest := rest) S hM (vx_cwSW As.length S.2.2.2.2 hG hw hR.1.1 hR.1.2 hd hR.2) ⟨kP3_blind, fun U hU hWm => k_pre3 f1 f2 f3 hK hN hSt hV hW.2.2 hU hWm⟩ rfl rfl hl hs (lv_room hst) hdg hcs) hW.2.2 (fun q _ h => f3 q h) f3 (fun x u t H1 locs1 ht hvm hw hB hz1 hk1 hS1 => ?_)
  obtain ⟨rfl, rfl⟩ := hw
  obtain ⟨g1, g2⟩ := hB
  rw [ht] at g1
  exact kk H1 locs1 (f4 H1 locs1 g1 g2 hk1 hS1)
end KX3
