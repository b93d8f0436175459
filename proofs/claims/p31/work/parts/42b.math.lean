/-! ===== a method whose class is not plainly named, but for which no native row stands ===== -/
theorem k_ofWF {l : Launch} {y : MethodName} {ws ws' : List Cond} {rm : Room} {Pc : Array Value → State → Prop} {Qc : Array Value → State → Outcome → State → Prop} {mc ms : Nat} {free : Addr → Prop} {cc : ByteArray} {maxL : Nat} {ret : Option FieldType}
    (hy : plainFor y = true) (hw : ws = Cond.code y cc maxL ret :: ws')
    (body : ∀ p e s m args below meth c s₁, BodyLoose p l y (headSpec ws rm) cc maxL ret e s m args below meth c s₁ → c.maxLocals = maxL → Pc args s →
      W p l e (headSpec ws rm).room s m args below meth c s.heap [] 0 0 (MQ below Qc args s mc ms free) (entryFrame m args maxL)) : Met l y ws rm Pc Qc mc ms free := by
  refine MetFree.of_bodySF (code := cc) (maxLocals := maxL) (ret := ret) hy ?_ ?_
  · intro args s m h hn
    obtain ⟨meth, c, h1, h2, h3, h4, h5, h6, -, -⟩ := Cond.code_spec hn (atoms_spec (ws := ws) h _ (by rw [hw]; exact List.mem_cons_self))
    exact ⟨meth, c, h1, h2, h3, h4, h5, h6⟩
  · intro p e s m args below meth c s₁ B hml hP _
    have hh0 : s₁.heap = s.heap := by rw [B.state]; rfl
    obtain ⟨t, a1, o, b1, b2, b3⟩ := body p e s m args below meth c s₁ B hml hP s₁ hh0 (Stand.of_body B)
    exact ⟨t, o, a1, b1, b2, ⟨b3.1, b3.2⟩⟩
theorem MI.ofF {l : Launch} {y : MethodName} {ws ws' : List Cond} {rm : Room} {D : va_G} {c : Nat → ClassId} {sz : Nat} {wd : va_W} {av : List Value} {r : Int32} {w' : va_W} {cc : ByteArray} {maxL : Nat} {ty : FieldType}
    (hy : plainFor y = true) (hw : ws = Cond.code y cc maxL (some ty) :: ws') (hlen : (lg_sl av).length ≤ maxL) (hnar : narrow ty (.int r) = .int r)
    (body : ∀ (p : Program) (e : Env) (s : State) (m : MethodId) (below : List Frame) (meth : Method) (cd : Code) (A : Nat → Prop) (Q : State → Prop) (ls : Array Slot), s.heap.size = sz → CallFix p m cd cc maxL s av.toArray ws y.cls → va_K D vwCl (vT c) s → kw D A s.heap wd s.heap [] → (∀ q, s.heap.size ≤ q → A q) → lv_has ls maxL (lv_args 0 av) →
      (∀ (pc : Nat) (ls1 : Array Slot) (H : Heap) (locs : List Loc) (v : Int32) (w : va_W), decode cc pc = .ok (.ireturn, 1) → kw D A s.heap w H locs → v = r → w = w' → W p l e rm s m av.toArray below meth cd H locs 0 0 Q (F0 m pc ls1 [.int v])) →
      W p l e rm s m av.toArray below meth cd s.heap [] 0 0 Q (F0 m 0 ls [])) : MI l y ws rm D c sz wd av r w' := by
  refine k_ofWF (cc := cc) (maxL := maxL) (ret := some ty) hy hw ?_
  intro p e s m args below meth cd s₁ B hml hv
  obtain ⟨rfl, hsz, hP, hK, hD0⟩ := hv
  have hts := atoms_spec (ws := ws) B.pre
  have hown : s.vm.findClass y.cls = some m.cls := findClass_of_methodNamed B.named
  have hlocks := B.notSynchronized
  have hr := B.returns
  have hb := B.bytes
  have hx := B.exec
  subst hsz
  have hl := lv_entry av (n := maxL) hlen
  rw [lg_entry_eq]
  generalize (lg_sl av ++ List.replicate (maxL - (lg_sl av).length) Slot.unset).toArray = ls at hl ⊢
  refine body p e s m below meth cd (va_A wd s.heap.size) _ ls rfl ⟨hx, hb, hml, hown, hts⟩ hK ⟨hP, hD0.self, va_S.rf⟩ (fun q h => Or.inr h) hl ?_
  intro pc ls1 H locs v w hd hW hv hw
  subst hv; subst hw
  exact W.zret hx hb hr hnar (fun t ht hW' => ⟨⟨v, w, rfl, ⟨rfl, rfl⟩, by rw [ht]; exact hW.1, hW.2.1⟩, hW.2.2.F ht⟩) hW.2.2.2.2 hd hlocks
theorem nrS_hit {τ : Nat → Nat → Nat} {t j p k : Nat} (h : hb τ t j ((p + (1 + k)) % 32) = true ∨ hb τ t j ((p + 32 - (1 + k)) % 32) = true) : nrS τ t j p (k + 1) = true := by
  show (nrS τ t j p k || _ || _) = true
  rcases h with h | h
  · rw [h, Bool.or_true]; rfl
  · rw [h, Bool.or_true]
theorem hiS'_1 {τ : Nat → Nat → Nat} {t j p : Nat} (h : hb τ t j p = true) : 1 = hiS' τ t j p := by
  unfold hiS'; rw [if_pos h]
theorem hiS'_2 {τ : Nat → Nat → Nat} {t j p k : Nat} (h : hb τ t j p = false) (h2 : nrS τ t j p k = true) (h3 : k ≤ τ 6 3 - 1) : 2 = hiS' τ t j p := by
  unfold hiS'; rw [if_neg (by rw [h]; decide), if_pos (nrS_mono h2 _ h3)]
theorem hiS'_3 {τ : Nat → Nat → Nat} {t j p : Nat} (h : hb τ t j p = false) (h2 : nrS τ t j p (τ 6 3 - 1) = false) (h3 : τ 6 4 ≤ ones (τ 0 (t * 32 + p))) : 3 = hiS' τ t j p := by
  unfold hiS'; rw [if_neg (by rw [h]; decide), if_neg (by rw [h2]; decide), if_pos h3]
theorem hiS'_4 {τ : Nat → Nat → Nat} {t j p : Nat} (h : hb τ t j p = false) (h2 : nrS τ t j p (τ 6 3 - 1) = false) (h3 : ¬ τ 6 4 ≤ ones (τ 0 (t * 32 + p))) : 0 = hiS' τ t j p := by
  unfold hiS'; rw [if_neg (by rw [h]; decide), if_neg (by rw [h2]; decide), if_neg h3]
