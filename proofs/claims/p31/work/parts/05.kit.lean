/-! ===== worlds as bundles; contracts with one answer and one world; calls, loops and branches over numbers that are natural ===== -/
abbrev vT (c : Nat → ClassId) : List (ClassId × FieldType) := [(c 0, .int), (c 1, .char), (c 2, .object RX1)]
def kw (D : va_G) (A : Nat → Prop) (H0 : Heap) (ws : va_W) (H : Heap) (locs : List Loc) : Prop := va_P D vwCl ws H ∧ va_D A ws ∧ va_S A H0 H locs
def kP (D : va_G) (c : Nat → ClassId) (sz : Nat) (ws : va_W) : State → Prop := fun U => U.heap.size = sz ∧ va_P D vwCl ws U.heap ∧ va_K D vwCl (vT c) U ∧ va_D (fun _ => True) ws
def kB (D : va_G) (wd : va_W) (sz : Nat) (w : va_W) (t : State) : Prop := va_P D vwCl w t.heap ∧ va_D (va_A wd sz) w
/-- a method that makes nothing: its answer is r, its world w' -/
def MI (l : Launch) (y : MethodName) (ws : List Cond) (rm : Room) (D : va_G) (c : Nat → ClassId) (sz : Nat) (wd : va_W) (av : List Value) (r : Int32) (w' : va_W) : Prop :=
  Met l y ws rm (va_Pc av (kP D c sz wd)) (va_Qi (fun (x : Int32) (w : va_W) => x = r ∧ w = w') (kB D wd sz) (va_A wd sz)) 0 0 (va_A wd sz)
def ML (l : Launch) (y : MethodName) (ws : List Cond) (rm : Room) (D : va_G) (c : Nat → ClassId) (sz : Nat) (wd : va_W) (av : List Value) (r : Int64) (w' : va_W) : Prop :=
  Met l y ws rm (va_Pc av (kP D c sz wd)) (va_Ql (fun (x : Int64) (w : va_W) => x = r ∧ w = w') (kB D wd sz) (va_A wd sz)) 0 0 (va_A wd sz)
def MF (l : Launch) (y : MethodName) (ws : List Cond) (rm : Room) (D : va_G) (c : Nat → ClassId) (sz : Nat) (wd : va_W) (av : List Value) (r : UInt64) (w' : va_W) : Prop :=
  Met l y ws rm (va_Pc av (kP D c sz wd)) (va_Qd (fun (x : UInt64) (w : va_W) => x = r ∧ w = w') (kB D wd sz) (va_A wd sz)) 0 0 (va_A wd sz)
def MV (l : Launch) (y : MethodName) (ws : List Cond) (rm : Room) (D : va_G) (c : Nat → ClassId) (sz : Nat) (wd : va_W) (av : List Value) (w' : va_W) : Prop :=
  Met l y ws rm (va_Pc av (kP D c sz wd)) (va_Qv (fun (w : va_W) => w = w') (kB D wd sz) (va_A wd sz)) 0 0 (va_A wd sz)
theorem kP_blind {av : List Value} {D : va_G} {c : Nat → ClassId} {sz : Nat} {ws : va_W} : FrameBlind (va_Pc av (kP D c sz ws)) := fun a U g mk q => by
  obtain ⟨q0, q1, qP, qK, qD⟩ := q
  exact ⟨q0, q1, qP, va_K.moved (u := U) (U := U.calling g mk a) (Vm.Alike.refl U.vm) qK, qD⟩
theorem k_msub {ws wc : va_W} {is : List Nat} (h : is.map (fun i => ws[i]?) = wc.map some) : is.filterMap (fun i => ws[i]?) = wc := by
  have e : ∀ (l : List Nat), l.filterMap (fun i => ws[i]?) = (l.map (fun i => ws[i]?)).filterMap id := by
    intro l; rw [List.filterMap_map]; rfl
  rw [e, h]
  clear h e
  induction wc with
  | nil => rfl
  | cons a t ih => simp
theorem MI.of {l : Launch} {y : MethodName} {ws ws' : List Cond} {rm : Room} {D : va_G} {c : Nat → ClassId} {sz : Nat} {wd : va_W} {av : List Value} {r : Int32} {w' : va_W} {cc : ByteArray} {maxL : Nat} {ty : FieldType}
    (hy : plainName y.cls = true) (hw : ws = Cond.code y cc maxL (some ty) :: ws') (hlen : (lg_sl av).length ≤ maxL) (hnar : narrow ty (.int r) = .int r)
    (body : ∀ (p : Program) (e : Env) (s : State) (m : MethodId) (below : List Frame) (meth : Method) (cd : Code) (A : Nat → Prop) (Q : State → Prop) (ls : Array Slot), s.heap.size = sz → CallFix p m cd cc maxL s av.toArray ws y.cls → va_K D vwCl (vT c) s → kw D A s.heap wd s.heap [] → (∀ q, s.heap.size ≤ q → A q) → lv_has ls maxL (lv_args 0 av) →
      (∀ (pc : Nat) (ls1 : Array Slot) (H : Heap) (locs : List Loc) (v : Int32) (w : va_W), decode cc pc = .ok (.ireturn, 1) → kw D A s.heap w H locs → v = r → w = w' → W p l e rm s m av.toArray below meth cd H locs 0 0 Q (F0 m pc ls1 [.int v])) →
      W p l e rm s m av.toArray below meth cd s.heap [] 0 0 Q (F0 m 0 ls [])) : MI l y ws rm D c sz wd av r w' := by
  refine Met.ofW (cc := cc) (maxL := maxL) (ret := some ty) hy hw ?_
  intro p e s m args below meth cd s₁ B hml hv
  obtain ⟨rfl, hsz, hP, hK, hD0⟩ := hv
  have hts := atoms_spec (ws := ws) B.pre
  have hown : s.vm.findClass y.cls = some m.cls := findClass_of_methodNamed B.named
  have hlocks := B.notSynchronized
  have hr := B.returns
  have hb := B.bytes
  have hx := B.exec
  subst hsz
  have hl := lv_entry av (n := maxL) hlen
  rw [lg_entry_eq]
  generalize (lg_sl av ++ List.replicate (maxL - (lg_sl av).length) Slot.unset).toArray = ls at hl ⊢
  refine body p e s m below meth cd (va_A wd s.heap.size) _ ls rfl ⟨hx, hb, hml, hown, hts⟩ hK ⟨hP, hD0.self, va_S.rf⟩ (fun q h => Or.inr h) hl ?_
  intro pc ls1 H locs v w hd hW hv hw
  subst hv; subst hw
  exact W.zret hx hb hr hnar (fun t ht hW' => ⟨⟨v, w, rfl, ⟨rfl, rfl⟩, by rw [ht]; exact hW.1, hW.2.1⟩, hW.2.2.F ht⟩) hW.2.2.2.2 hd hlocks
theorem MV.of {l : Launch} {y : MethodName} {ws ws' : List Cond} {rm : Room} {D : va_G} {c : Nat → ClassId} {sz : Nat} {wd : va_W} {av : List Value} {w' : va_W} {cc : ByteArray} {maxL : Nat}
    (hy : plainName y.cls = true) (hw : ws = Cond.code y cc maxL none :: ws') (hlen : (lg_sl av).length ≤ maxL)
    (body : ∀ (p : Program) (e : Env) (s : State) (m : MethodId) (below : List Frame) (meth : Method) (cd : Code) (A : Nat → Prop) (Q : State → Prop) (ls : Array Slot), s.heap.size = sz → CallFix p m cd cc maxL s av.toArray ws y.cls → va_K D vwCl (vT c) s → kw D A s.heap wd s.heap [] → (∀ q, s.heap.size ≤ q → A q) → lv_has ls maxL (lv_args 0 av) →
      (∀ (pc : Nat) (ls1 : Array Slot) (H : Heap) (locs : List Loc) (w : va_W), decode cc pc = .ok (.return_, 1) → kw D A s.heap w H locs → w = w' → W p l e rm s m av.toArray below meth cd H locs 0 0 Q (F0 m pc ls1 [])) →
      W p l e rm s m av.toArray below meth cd s.heap [] 0 0 Q (F0 m 0 ls [])) : MV l y ws rm D c sz wd av w' := by
  refine Met.ofW (cc := cc) (maxL := maxL) (ret := none) hy hw ?_
  intro p e s m args below meth cd s₁ B hml hv
  obtain ⟨rfl, hsz, hP, hK, hD0⟩ := hv
  have hts := atoms_spec (ws := ws) B.pre
  have hown : s.vm.findClass y.cls = some m.cls := findClass_of_methodNamed B.named
  have hlocks := B.notSynchronized
  have hr := B.returns
  have hb := B.bytes
  have hx := B.exec
  subst hsz
  have hl := lv_entry av (n := maxL) hlen
  rw [lg_entry_eq]
  generalize (lg_sl av ++ List.replicate (maxL - (lg_sl av).length) Slot.unset).toArray = ls at hl ⊢
  refine body p e s m below meth cd (va_A wd s.heap.size) _ ls rfl ⟨hx, hb, hml, hown, hts⟩ hK ⟨hP, hD0.self, va_S.rf⟩ (fun q h => Or.inr h) hl ?_
  intro pc ls1 H locs w hd hW hw
  subst hw
  exact W.vret hx hb hr (fun t ht hW' => ⟨⟨w, rfl, rfl, by rw [ht]; exact hW.1, hW.2.1⟩, hW.2.2.F ht⟩) hW.2.2.2.2 hd hlocks
theorem ML.of {l : Launch} {y : MethodName} {ws ws' : List Cond} {rm : Room} {D : va_G} {c : Nat → ClassId} {sz : Nat} {wd : va_W} {av : List Value} {r : Int64} {w' : va_W} {cc : ByteArray} {maxL : Nat}
    (hy : plainName y.cls = true) (hw : ws = Cond.code y cc maxL (some .long) :: ws') (hlen : (lg_sl av).length ≤ maxL)
    (body : ∀ (p : Program) (e : Env) (s : State) (m : MethodId) (below : List Frame) (meth : Method) (cd : Code) (A : Nat → Prop) (Q : State → Prop) (ls : Array Slot), s.heap.size = sz → CallFix p m cd cc maxL s av.toArray ws y.cls → va_K D vwCl (vT c) s → kw D A s.heap wd s.heap [] → (∀ q, s.heap.size ≤ q → A q) → lv_has ls maxL (lv_args 0 av) →
      (∀ (pc : Nat) (ls1 : Array Slot) (H : Heap) (locs : List Loc) (v : Int64) (w : va_W), decode cc pc = .ok (.lreturn, 1) → kw D A s.heap w H locs → v = r → w = w' → W p l e rm s m av.toArray below meth cd H locs 0 0 Q (F0 m pc ls1 [.long v])) →
      W p l e rm s m av.toArray below meth cd s.heap [] 0 0 Q (F0 m 0 ls [])) : ML l y ws rm D c sz wd av r w' := by
  refine Met.ofW (cc := cc) (maxL := maxL) (ret := some .long) hy hw ?_
  intro p e s m args below meth cd s₁ B hml hv
  obtain ⟨rfl, hsz, hP, hK, hD0⟩ := hv
  have hts := atoms_spec (ws := ws) B.pre
  have hown : s.vm.findClass y.cls = some m.cls := findClass_of_methodNamed B.named
  have hlocks := B.notSynchronized
  have hr := B.returns
  have hb := B.bytes
  have hx := B.exec
  subst hsz
  have hl := lv_entry av (n := maxL) hlen
  rw [lg_entry_eq]
  generalize (lg_sl av ++ List.replicate (maxL - (lg_sl av).length) Slot.unset).toArray = ls at hl ⊢
  refine body p e s m below meth cd (va_A wd s.heap.size) _ ls rfl ⟨hx, hb, hml, hown, hts⟩ hK ⟨hP, hD0.self, va_S.rf⟩ (fun q h => Or.inr h) hl ?_
  intro pc ls1 H locs v w hd hW hv hw
  subst hv; subst hw
  exact W.lret hx hb hr (fun t ht hW' => ⟨⟨v, w, rfl, ⟨rfl, rfl⟩, by rw [ht]; exact hW.1, hW.2.1⟩, hW.2.2.F ht⟩) hW.2.2.2.2 hd hlocks
theorem MF.of {l : Launch} {y : MethodName} {ws ws' : List Cond} {rm : Room} {D : va_G} {c : Nat → ClassId} {sz : Nat} {wd : va_W} {av : List Value} {r : UInt64} {w' : va_W} {cc : ByteArray} {maxL : Nat}
    (hy : plainName y.cls = true) (hw : ws = Cond.code y cc maxL (some .double) :: ws') (hlen : (lg_sl av).length ≤ maxL)
    (body : ∀ (p : Program) (e : Env) (s : State) (m : MethodId) (below : List Frame) (meth : Method) (cd : Code) (A : Nat → Prop) (Q : State → Prop) (ls : Array Slot), s.heap.size = sz → CallFix p m cd cc maxL s av.toArray ws y.cls → va_K D vwCl (vT c) s → kw D A s.heap wd s.heap [] → (∀ q, s.heap.size ≤ q → A q) → lv_has ls maxL (lv_args 0 av) →
      (∀ (pc : Nat) (ls1 : Array Slot) (H : Heap) (locs : List Loc) (v : UInt64) (w : va_W), decode cc pc = .ok (.dreturn, 1) → kw D A s.heap w H locs → v = r → w = w' → W p l e rm s m av.toArray below meth cd H locs 0 0 Q (F0 m pc ls1 [.double v])) →
      W p l e rm s m av.toArray below meth cd s.heap [] 0 0 Q (F0 m 0 ls [])) : MF l y ws rm D c sz wd av r w' := by
  refine Met.ofW (cc := cc) (maxL := maxL) (ret := some .double) hy hw ?_
  intro p e s m args below meth cd s₁ B hml hv
  obtain ⟨rfl, hsz, hP, hK, hD0⟩ := hv
  have hts := atoms_spec (ws := ws) B.pre
  have hown : s.vm.findClass y.cls = some m.cls := findClass_of_methodNamed B.named
  have hlocks := B.notSynchronized
  have hr := B.returns
  have hb := B.bytes
  have hx := B.exec
  subst hsz
  have hl := lv_entry av (n := maxL) hlen
  rw [lg_entry_eq]
  generalize (lg_sl av ++ List.replicate (maxL - (lg_sl av).length) Slot.unset).toArray = ls at hl ⊢
  refine body p e s m below meth cd (va_A wd s.heap.size) _ ls rfl ⟨hx, hb, hml, hown, hts⟩ hK ⟨hP, hD0.self, va_S.rf⟩ (fun q h => Or.inr h) hl ?_
  intro pc ls1 H locs v w hd hW hv hw
  subst hv; subst hw
  exact W.dret hx hb hr (fun t ht hW' => ⟨⟨v, w, rfl, ⟨rfl, rfl⟩, by rw [ht]; exact hW.1, hW.2.1⟩, hW.2.2.F ht⟩) hW.2.2.2.2 hd hlocks
/-- what a call needs of its caller's world ws (its cells are wc), and how the world is put together behind it -/
def KFr (D : va_G) (A : Nat → Prop) (H0 : Heap) (wc w1 w2 : va_W) (H : Heap) : Prop :=
  va_P D vwCl wc H ∧ va_D (fun _ => True) wc ∧ (∀ q, va_A wc H.size q → A q) ∧ ∀ (H1 : Heap) (locs1 : List Loc), va_P D vwCl w1 H1 → va_D (va_A wc H.size) w1 → (∀ q : Nat, q < H.size → ¬ va_A wc H.size q → H1[q]? = H[q]?) → va_S A H0 H1 locs1 → kw D A H0 w2 H1 locs1
theorem KFr.all {D : va_G} {A : Nat → Prop} {H0 : Heap} {ws w1 : va_W} {H : Heap} {locs : List Loc} (hW : kw D A H0 ws H locs) (hA : ∀ q, H0.size ≤ q → A q) : KFr D A H0 ws w1 w1 H := by
  obtain ⟨hP, hD, hS⟩ := hW
  have hF : ∀ q, va_A ws H.size q → A q := by
    rintro q (⟨k, e, h⟩ | h)
    · exact hD.2 k (q, e) h
    · exact hA q (Nat.le_trans hS.1 h)
  exact ⟨hP, hD.weaken (fun _ _ _ _ => trivial), hF, fun H1 locs1 h1 h2 _ h4 => ⟨h1, h2.weaken (fun k q _ h => hF q.1 h), h4⟩⟩
theorem KFr.cut {D : va_G} {A : Nat → Prop} {H0 : Heap} {ws wc wr w1 w2 : va_W} {H : Heap} {locs : List Loc} (hW : kw D A H0 ws H locs) (hA : ∀ q, H0.size ≤ q → A q)
    (isC isR per : List Nat) (hC : isC.map (fun i => ws[i]?) = wc.map some) (hR : isR.map (fun i => ws[i]?) = wr.map some) (hnC : va_nd isC = true) (hn : va_nd isR = true) (hdis : ∀ i ∈ isR, i ∉ isC) (hper : per.map (fun i => (wr ++ w1)[i]?) = w2.map some) (hnd : va_nd per = true) : KFr D A H0 wc w1 w2 H := by
  obtain ⟨hP, hD, hS⟩ := hW
  have hF := va_free hD hS hA isC hC
  refine ⟨hP.sub isC (k_msub hC), (hD.sub isC hnC hC).weaken (fun _ _ _ _ => trivial), hF, fun H1 locs1 h1 h2 h3 h4 => ?_⟩
  obtain ⟨g1, g2⟩ := va_join hP hD isC isR hC hR hn hdis h3 hF h1 h2
  exact ⟨g1.sub per (k_msub hper), g2.sub per hnd hper, h4⟩
theorem KFr.nil {D : va_G} {A : Nat → Prop} {H0 : Heap} {ws : va_W} {H : Heap} {locs : List Loc} (hW : kw D A H0 ws H locs) (hA : ∀ q, H0.size ≤ q → A q) : KFr D A H0 [] [] ws H := by
  obtain ⟨hP, hD, hS⟩ := hW
  refine ⟨fun k q h => by simp at h, ⟨fun i j p q h => by simp at h, fun k q h => by simp at h⟩, ?_, fun H1 locs1 _ _ h3 h4 => ⟨fun k q hk => ?_, hD, h4⟩⟩
  · rintro q (⟨k, e, h⟩ | h)
    · simp at h
    · exact hA q (Nat.le_trans hS.1 h)
  · have hl := (hP k q hk).lt
    refine (hP k q hk).kept (h3 q.1 hl ?_)
    rintro (⟨k2, e, h⟩ | h)
    · simp at h
    · omega
section KX
variable {p : Program} {l : Launch} {e : Env} {R : Room} {s : State} {m : MethodId} {args : Array Value} {below : List Frame} {meth : Method} {cd : Code} {H : Heap} {locs : List Loc} {cells slots : Nat} {Q : State → Prop} {pc : Nat} {ls : Array Slot} {rest : List Value} {cc : ByteArray} {D : va_G} {c : Nat → ClassId} {A : Nat → Prop} {H0 : Heap} {ws : va_W}
theorem k_top {x y : Int32} (h : x = y) (k : W p l e R s m args below meth cd H locs cells slots Q (F0 m pc ls (.int y :: rest))) : W p l e R s m args below meth cd H locs cells slots Q (F0 m pc ls (.int x :: rest)) := h ▸ k
theorem k_topl {x y : Int64} (h : x = y) (k : W p l e R s m args below meth cd H locs cells slots Q (F0 m pc ls (.long y :: rest))) : W p l e R s m args below meth cd H locs cells slots Q (F0 m pc ls (.long x :: rest)) := h ▸ k
theorem k_loop {α : Type} (P : α → Heap → List Loc → Array Slot → Prop) (μ : α → Nat) (st : List Value)
    (h : ∀ x, (∀ y H1 lo1 ls1, P y H1 lo1 ls1 → μ y < μ x → W p l e R s m args below meth cd H1 lo1 cells slots Q (F0 m pc ls1 st)) → ∀ H1 lo1 ls1, P x H1 lo1 ls1 → W p l e R s m args below meth cd H1 lo1 cells slots Q (F0 m pc ls1 st)) :
    ∀ x H1 lo1 ls1, P x H1 lo1 ls1 → W p l e R s m args below meth cd H1 lo1 cells slots Q (F0 m pc ls1 st) := by
  have key : ∀ n x, μ x < n → ∀ H1 lo1 ls1, P x H1 lo1 ls1 → W p l e R s m args below meth cd H1 lo1 cells slots Q (F0 m pc ls1 st) := by
    intro n
    induction n with
    | zero => intro x hx; exact absurd hx (Nat.not_lt_zero _)
    | succ n ih =>
      intro x hx H1 lo1 ls1 hP
      exact h x (fun y H2 lo2 ls2 hP2 hy => ih y (by omega) H2 lo2 ls2 hP2) H1 lo1 ls1 hP
  exact fun x => key (μ x + 1) x (Nat.lt_succ_self _)
/-- a place where ways meet -/
theorem k_join {α : Type} (P : α → Heap → List Loc → Array Slot → Prop) (pj : Nat) (st : α → List Value) (h : ∀ x H1 lo1 ls1, P x H1 lo1 ls1 → W p l e R s m args below meth cd H1 lo1 cells slots Q (F0 m pj ls1 (st x)))
    (k : (∀ x H1 lo1 ls1, P x H1 lo1 ls1 → W p l e R s m args below meth cd H1 lo1 cells slots Q (F0 m pj ls1 (st x))) → W p l e R s m args below meth cd H locs cells slots Q (F0 m pc ls rest)) : W p l e R s m args below meth cd H locs cells slots Q (F0 m pc ls rest) := k h
end KX
