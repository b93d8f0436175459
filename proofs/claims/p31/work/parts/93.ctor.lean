/-! ===== constructors: new cells ===== -/
theorem cls_eq {U : State} {a b : ClassId} {ty : FieldType} (h1 : va_RA U a ty) (h2 : va_RA U b ty) : a = b := by
  cases ty with
  | object C =>
    obtain ⟨_, _, _, _, _, e1⟩ := h1
    obtain ⟨_, _, _, _, _, e2⟩ := h2
    exact Option.some.inj (e1.symm.trans e2)
  | _ => exact Option.some.inj (Eq.trans (Eq.symm h1) h2)
/-- a constructor: what its cells are then -/
def MC (l : Launch) (y : MethodName) (ws : List Cond) (rm : Room) (D : va_G) (c : Nat → ClassId) (sz : Nat) (wd : va_W) (av : List Value) (pre : State → Prop) (post : va_W → Prop) (mc ms : Nat) : Prop :=
  Met l y ws rm (va_Pc av (fun U => kP D c sz wd U ∧ pre U)) (va_Qv post (kB D wd sz) (va_A wd sz)) mc ms (va_A wd sz)
theorem MC.of {l : Launch} {y : MethodName} {ws ws' : List Cond} {rm : Room} {D : va_G} {c : Nat → ClassId} {sz : Nat} {wd : va_W} {av : List Value} {pre : State → Prop} {post : va_W → Prop} {mc ms : Nat} {cc : ByteArray} {maxL : Nat}
    (hy : plainName y.cls = true) (hyn : y.name = "<init>") (hw : ws = Cond.code y cc maxL none :: ws') (hlen : (lg_sl av).length ≤ maxL)
    (body : ∀ (p : Program) (e : Env) (s : State) (m : MethodId) (below : List Frame) (meth : Method) (cd : Code) (A : Nat → Prop) (Q : State → Prop) (ls : Array Slot), s.heap.size = sz → CallFix p m cd cc maxL s av.toArray ws y.cls → va_K D vwCl (vT c) s → pre s → meth.name = "<init>" → kw D A s.heap wd s.heap [] → (∀ q, s.heap.size ≤ q → A q) → lv_has ls maxL (lv_args 0 av) →
      (∀ (pc : Nat) (ls1 : Array Slot) (H : Heap) (locs : List Loc) (w : va_W) (cells slots : Nat), decode cc pc = .ok (.return_, 1) → kw D A s.heap w H locs → post w → cells ≤ mc → slots ≤ ms → W p l e rm s m av.toArray below meth cd H locs cells slots Q (F0 m pc ls1 [])) →
      W p l e rm s m av.toArray below meth cd s.heap [] 0 0 Q (F0 m 0 ls [])) : MC l y ws rm D c sz wd av pre post mc ms := by
  refine Met.ofW (cc := cc) (maxL := maxL) (ret := none) hy hw ?_
  intro p e s m args below meth cd s₁ B hml hv
  obtain ⟨rfl, ⟨hsz, hP, hK, hD0⟩, hpre⟩ := hv
  have hts := atoms_spec (ws := ws) B.pre
  have hown : s.vm.findClass y.cls = some m.cls := findClass_of_methodNamed B.named
  have hin : meth.name = "<init>" := (name_of_methodNamed B.named B.method).1.trans hyn
  have hlocks := B.notSynchronized
  have hr := B.returns
  have hb := B.bytes
  have hx := B.exec
  subst hsz
  have hl := lv_entry av (n := maxL) hlen
  rw [lg_entry_eq]
  generalize (lg_sl av ++ List.replicate (maxL - (lg_sl av).length) Slot.unset).toArray = ls at hl ⊢
  refine body p e s m below meth cd (va_A wd s.heap.size) _ ls rfl ⟨hx, hb, hml, hown, hts⟩ hK hpre hin ⟨hP, hD0.self, va_S.rf⟩ (fun q h => Or.inr h) hl ?_
  intro pc ls1 H locs w cells slots hd hW hw h1 h2
  refine W.widen (k := mc) (n := ms) h1 h2 ?_
  exact W.vret hx hb hr (fun t ht hW' => ⟨⟨w, rfl, hw, by rw [ht]; exact hW.1, hW.2.1⟩, hW.2.2.F ht⟩) hW.2.2.2.2 hd hlocks
section KC
variable {p : Program} {l : Launch} {e : Env} {R : Room} {s : State} {m : MethodId} {args : Array Value} {below : List Frame} {meth : Method} {cd : Code} {H : Heap} {locs : List Loc} {cells slots : Nat} {Q : State → Prop} {pc : Nat} {ls : Array Slot} {rest : List Value} {cc : ByteArray} {D : va_G} {c : Nat → ClassId} {A : Nat → Prop} {H0 : Heap} {ws : va_W} {b : Nat}
variable {y : MethodName} {wsY ws' : List Cond} {rm : Room} {bytes : ByteArray} {maxL : Nat} {index nL mc ms : Nat} {Ts : List Cond} {own host : String} {st0 : List Value} {wc wl : va_W}
theorem kn_newI (S : CallFix p m cd cc nL s args Ts own) (hK : va_K D vwCl (vT c) s) (hW : kw D A H0 ws H locs) (hA : ∀ q, H0.size ≤ q → A q) (harr : Cond.arrayClass .int ∈ Ts) {N : Nat} (hN : N < 100000) (hcells : cells + 1 ≤ R.cells) (hslots : slots + N ≤ R.slots) (hdg : decode cc pc = .ok (.newarray .int, 2))
    (kk : ∀ (q : Nat) (H1 : Heap), kw D A H0 (ws ++ [(q, .inl (c 0, N, .inl (fun _ => nI 0)))]) H1 locs → W p l e R s m args below meth cd H1 locs (cells + 1) (slots + N) Q (F0 m (pc + 2) ls (.ref q :: rest))) : W p l e R s m args below meth cd H locs cells slots Q (F0 m pc ls (.int (nI N) :: rest)) :=
  va_newa (atype := .int) (ty := .int) S.1 S.2.1 (S.2.2.2.2 _ harr) rfl hK hW.1 hW.2.1 hW.2.2 hA (n := nI N) (N' := N) (a0 := (N, .inl (fun _ => nI 0))) (fun _ => rfl) (nI_pos (by omega)) (nI_clamp (by omega)) (by show N * 4 ≤ 536870912; omega) hcells hslots hdg (fun q cA H1 hK1 hP hD hS => by
    have e : cA = c 0 := cls_eq (hK1.2 3 (cA, .int) rfl).2 (hK.2 0 (c 0, .int) rfl).2
    subst e
    exact kk q H1 ⟨hP, hD, hS⟩)
theorem kn_newC (S : CallFix p m cd cc nL s args Ts own) (hK : va_K D vwCl (vT c) s) (hW : kw D A H0 ws H locs) (hA : ∀ q, H0.size ≤ q → A q) (harr : Cond.arrayClass .char ∈ Ts) {N : Nat} (hN : N < 100000) (hcells : cells + 1 ≤ R.cells) (hslots : slots + N ≤ R.slots) (hdg : decode cc pc = .ok (.newarray .char, 2))
    (kk : ∀ (q : Nat) (H1 : Heap), kw D A H0 (ws ++ [(q, .inl (c 1, N, .inl (fun _ => nI 0)))]) H1 locs → W p l e R s m args below meth cd H1 locs (cells + 1) (slots + N) Q (F0 m (pc + 2) ls (.ref q :: rest))) : W p l e R s m args below meth cd H locs cells slots Q (F0 m pc ls (.int (nI N) :: rest)) :=
  va_newa (atype := .char) (ty := .char) S.1 S.2.1 (S.2.2.2.2 _ harr) rfl hK hW.1 hW.2.1 hW.2.2 hA (n := nI N) (N' := N) (a0 := (N, .inl (fun _ => nI 0))) (fun _ => rfl) (nI_pos (by omega)) (nI_clamp (by omega)) (by show N * 2 ≤ 536870912; omega) hcells hslots hdg (fun q cA H1 hK1 hP hD hS => by
    have e : cA = c 1 := cls_eq (hK1.2 3 (cA, .char) rfl).2 (hK.2 1 (c 1, .char) rfl).2
    subst e
    exact kk q H1 ⟨hP, hD, hS⟩)
theorem kn_newQ (S : CallFix p m cd cc nL s args Ts own) (hK : va_K D vwCl (vT c) s) (hW : kw D A H0 ws H locs) (hA : ∀ q, H0.size ≤ q → A q) (hao : va_AO RX1 s) (hcl : Cond.classLink own index RX1 ∈ Ts) {N : Nat} (hN : N < 100000) (hcells : cells + 1 ≤ R.cells) (hslots : slots + N ≤ R.slots) (hdg : decode cc pc = .ok (.anewarray index, 3))
    (kk : ∀ (q : Nat) (H1 : Heap), kw D A H0 (ws ++ [(q, .inl (c 2, N, .inr (.inr (.inr (.inr (fun _ => none))))))]) H1 locs → W p l e R s m args below meth cd H1 locs (cells + 1) (slots + N) Q (F0 m (pc + 3) ls (.ref q :: rest))) : W p l e R s m args below meth cd H locs cells slots Q (F0 m pc ls (.int (nI N) :: rest)) :=
  va_newq S.1 S.2.1 S.2.2.2.1 (S.2.2.2.2 _ hcl) hao hK hW.1 hW.2.1 hW.2.2 hA (n := nI N) (N' := N) (nI_pos (by omega)) (nI_clamp (by omega)) (by omega) hcells hslots hdg (fun q cA H1 hK1 hP hD hS => by
    have e : cA = c 2 := cls_eq (hK1.2 3 (cA, .object RX1) rfl).2 (hK.2 2 (c 2, .object RX1) rfl).2
    subst e
    exact kk q H1 ⟨hP, hD, hS⟩)
theorem kx_putF (S : CallFix p m cd cc nL s args Ts own) (hK : va_K D vwCl (vT c) s) (hW : kw D A H0 ws H locs) (hin2 : meth.name = "<init>") {C : String} {T : u_T} {N : Nat} (hin : ∀ w ∈ u_ws C T N, w ∈ Ts) {ty0 : Nat → FieldType} (hty : ∀ k, k < N → parseFieldDescriptor (T k).2.2.1 = some (ty0 k)) (hnm : ∀ a, a < N → ∀ b, b < N → a ≠ b → (T a).2.1 ≠ (T b).2.1) (q0 ci : Nat) {fs : List Value} (he : ws[q0]? = some (b, .inr (ci, fs))) (hc : vwCl[ci]? = some (C, T, N)) (k : Nat) (hk : k < N) (hlink : Cond.fieldLink own index (T k).1 (T k).2.1 (T k).2.2.1 ∈ Ts) (hfin : (T k).2.2.2 = true) (hdecl : (T k).1 = own) {v : Value} (hn : narrow (ty0 k) v = v) (hfit : fits (ty0 k) v = true) (hl : k < fs.length) (hdg : decode cc pc = .ok (.putfield index, 3))
    (kk : ∀ (H1 : Heap) (locs1 : List Loc), kw D A H0 (ws.set q0 (b, .inr (ci, fs.set k v))) H1 locs1 → W p l e R s m args below meth cd H1 locs1 cells slots Q (F0 m (pc + 3) ls rest)) : W p l e R s m args below meth cd H locs cells slots Q (F0 m pc ls (v :: .ref b :: rest)) :=
  va_putF S.1 S.2.1 S.2.2.2.2 hin ty0 hty hnm S.2.2.2.1 hK hW.1 hW.2.1 hW.2.2 q0 he hc k hk (S.2.2.2.2 _ hlink) (fun _ h => h) hfin hin2 hdecl (hty k hk) hn hfit hl hdg (fun H1 locs1 h1 h2 h3 => kk H1 locs1 ⟨h1, h2, h3⟩)
theorem kx_new (S : CallFix p m cd cc nL s args Ts own) (hK : va_K D vwCl (vT c) s) (hW : kw D A H0 ws H locs) (hA : ∀ q, H0.size ≤ q → A q) {C : String} {T : u_T} {N ci : Nat} (hin : ∀ w ∈ u_ws C T N, w ∈ Ts) {ty0 : Nat → FieldType} (hty : ∀ k, k < N → parseFieldDescriptor (T k).2.2.1 = some (ty0 k)) (hcl : Cond.classLink own index C ∈ Ts) (hinst : Cond.instantiable C N ∈ Ts) (hini : Cond.initialized C ∈ Ts) (hc : vwCl[ci]? = some (C, T, N)) {fs : List Value} (hfs : ∀ j, j < N → defaultValue (ty0 j) = vp_V fs j) (hcells : cells + 1 ≤ R.cells) (hslots : slots + N ≤ R.slots) (hdg : decode cc pc = .ok (.new index, 3))
    (kk : ∀ (q : Nat) (H1 : Heap), kw D A H0 (ws ++ [(q, .inr (ci, fs))]) H1 locs → W p l e R s m args below meth cd H1 locs (cells + 1) (slots + N) Q (F0 m (pc + 3) ls (.ref q :: rest))) : W p l e R s m args below meth cd H locs cells slots Q (F0 m pc ls rest) :=
  va_new S.1 S.2.1 S.2.2.2.2 hin ty0 hty S.2.2.2.1 (S.2.2.2.2 _ hcl) (S.2.2.2.2 _ hinst) (S.2.2.2.2 _ hini) hK hW.1 hW.2.1 hW.2.2 hA hc hfs hcells hslots hdg (fun q H1 h1 h2 h3 => kk q H1 ⟨h1, h2, h3⟩)
/-- a private constructor of a nest mate -/
theorem k_ICN (S : CallFix p m cd cc nL s args Ts own) (hK : va_K D vwCl (vT c) s) (hl : ls.size = nL) (hW : kw D A H0 ws H locs) (fr : ∀ w1, KFr D A H0 wc w1 (wl ++ w1) H) {pre : State → Prop} {post : va_W → Prop} (hM : MC l y wsY rm D c H.size wc [.ref b] pre post mc ms) (hpb : ∀ (U : State) (g : JFrame) (mk : MethodId) (a : Array Value), pre U → pre (U.calling g mk a)) (hpre : ∀ U : State, s.WarmedH U.vm → pre U)
    (hG : GoodIn Ts wsY) (hw : wsY = Cond.code y bytes maxL none :: ws') (hyn : y.name = "<init>") (hlk : va_Nw (.methodLinkNest own index y host) s) (hini : Cond.initialized y.cls ∈ Ts) (hinst : Cond.instanceMethod y ∈ Ts) (hd : kPd y 0) (hR : (rm.cells = mc ∧ rm.slots = ms) ∧ rm.frames + 1 ≤ R.frames ∧ 8 + (maxL + 11) + rm.locals ≤ R.locals)
    (hst : (rest.map fun v => v.category).sum ≤ 8) (hdg : decode cc pc = .ok (.invokespecial index, 3)) (hcs : cells + mc ≤ R.cells ∧ slots + ms ≤ R.slots)
    (kk : ∀ (w : va_W) (H1 : Heap) (locs1 : List Loc), post w → kw D A H0 (wl ++ w) H1 locs1 → W p l e R s m args below meth cd H1 locs1 (cells + mc) (slots + ms) Q (F0 m (pc + 3) ls rest)) : W p l e R s m args below meth cd H locs cells slots Q (F0 m pc ls (.ref b :: rest)) := by
  obtain ⟨f1, f2, f3, -⟩ := fr []
  refine va_callv (va_runIN (As := []) (rest := rest) (host := host) S hM ⟨va_cnB 0 S.2.2.2.2 hG hw hR.1.1 hR.1.2 hlk (S.2.2.2.2 _ hini) hd hR.2, hyn, S.2.2.2.2 _ hinst⟩ ⟨fun a U g mk q => ?_, fun U hU hWm => ?_⟩ rfl rfl hl rfl (lv_room hst) hdg hcs) hW.2.2 (fun q _ h => f3 q h) f3 (fun u t H1 locs1 ht hvm hw hB hz1 hk1 hS1 => ?_)
  · obtain ⟨q0, qk, qp⟩ := q
    exact ⟨q0, (kP_blind (av := [.ref b]) a U g mk ⟨q0, qk⟩).2, hpb U g mk a qp⟩
  · exact ⟨rfl, (k_pre (av := [.ref b]) f1 f2 hK hU hWm).2, hpre U hWm⟩
  · obtain ⟨g1, g2⟩ := hB
    rw [ht] at g1
    exact kk u H1 locs1 hw ((fr u).2.2.2 H1 locs1 g1 g2 hk1 hS1)
theorem k_IC (S : CallFix p m cd cc nL s args Ts own) (hK : va_K D vwCl (vT c) s) (hl : ls.size = nL) (hW : kw D A H0 ws H locs) (fr : ∀ w1, KFr D A H0 wc w1 (wl ++ w1) H) {pre : State → Prop} {post : va_W → Prop} (hM : MC l y wsY rm D c H.size wc [.ref b] pre post mc ms) (hpb : ∀ (U : State) (g : JFrame) (mk : MethodId) (a : Array Value), pre U → pre (U.calling g mk a)) (hpre : ∀ U : State, s.WarmedH U.vm → pre U)
    (hG : GoodIn Ts wsY) (hw : wsY = Cond.code y bytes maxL none :: ws') (hyn : y.name = "<init>") (hlk : Cond.methodLink own index y ∈ Ts) (hini : Cond.initialized y.cls ∈ Ts) (hinst : Cond.instanceMethod y ∈ Ts) (hd : kPd y 0) (hR : (rm.cells = mc ∧ rm.slots = ms) ∧ rm.frames + 1 ≤ R.frames ∧ 8 + (maxL + 11) + rm.locals ≤ R.locals)
    (hst : (rest.map fun v => v.category).sum ≤ 8) (hdg : decode cc pc = .ok (.invokespecial index, 3)) (hcs : cells + mc ≤ R.cells ∧ slots + ms ≤ R.slots)
    (kk : ∀ (w : va_W) (H1 : Heap) (locs1 : List Loc), post w → kw D A H0 (wl ++ w) H1 locs1 → W p l e R s m args below meth cd H1 locs1 (cells + mc) (slots + ms) Q (F0 m (pc + 3) ls rest)) : W p l e R s m args below meth cd H locs cells slots Q (F0 m pc ls (.ref b :: rest)) := by
  obtain ⟨f1, f2, f3, -⟩ := fr []
  refine va_callv (va_runI (As := []) (rest := rest) S hM (cwI 0 S.2.2.2.2 hG hw hR.1.1 hR.1.2 (S.2.2.2.2 _ hini) (S.2.2.2.2 _ hlk) (S.2.2.2.2 _ hinst) hyn hd hR.2) ⟨fun a U g mk q => ?_, fun U hU hWm => ?_⟩ rfl rfl hl rfl (lv_room hst) hdg hcs) hW.2.2 (fun q _ h => f3 q h) f3 (fun u t H1 locs1 ht hvm hw hB hz1 hk1 hS1 => ?_)
  · obtain ⟨q0, qk, qp⟩ := q
    exact ⟨q0, (kP_blind (av := [.ref b]) a U g mk ⟨q0, qk⟩).2, hpb U g mk a qp⟩
  · exact ⟨rfl, (k_pre (av := [.ref b]) f1 f2 hK hU hWm).2, hpre U hWm⟩
  · obtain ⟨g1, g2⟩ := hB
    rw [ht] at g1
    exact kk u H1 locs1 hw ((fr u).2.2.2 H1 locs1 g1 g2 hk1 hS1)
theorem k_objI (S : CallFix p m cd cc nL s args Ts own) (hl : ls.size = nL) (h1 : Cond.methodLink own index Lib.objectInit ∈ Ts) (h2 : Cond.instanceMethod Lib.objectInit ∈ Ts) (h3 : Cond.code Lib.objectInit ⟨#[0xb1]⟩ 1 none ∈ Ts) (hdg : decode cc pc = .ok (.invokespecial index, 3)) (hR : 1 ≤ R.frames ∧ (rest.map fun v => v.category).sum + 12 ≤ R.locals)
    (kk : W p l e R s m args below meth cd H locs cells slots Q (F0 m (pc + 3) ls rest)) : W p l e R s m args below meth cd H locs cells slots Q (F0 m pc ls (.ref b :: rest)) := by
  refine W.objInit S.1 S.2.1 S.2.2.2.1 (S.2.2.2.2 _ h1) (S.2.2.2.2 _ h2) (S.2.2.2.2 _ h3) rfl (hl.trans S.2.2.1.symm) rfl hdg hR.1 ?_ ?_
  · have h := hR.2
    show 2 * (F0 m pc ls (.ref b :: rest)).monitorRoom + _ + 12 ≤ _
    rw [show (F0 m pc ls (.ref b :: rest)).monitorRoom = 0 from rfl]
    omega
  · exact kk
end KC
