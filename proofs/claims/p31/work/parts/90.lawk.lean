/-! ===== methods that throw: what they need of the start, contracts ===== -/
def xNm : List String := ["java/lang/RuntimeException", "java/lang/Exception"]
def xI : String := "java/lang/IndexOutOfBoundsException"
def xS : String := "java/lang/IllegalStateException"
def xA : String := "java/lang/IllegalArgumentException"
/-- an exception: its class, its entries (class, constructor) in the cylinder's pool -/
def xK (E : String) (ik ic : Nat) : Prop := (E = xI ∧ ik = 55 ∧ ic = 59) ∨ (E = xS ∧ ik = 66 ∧ ic = 70) ∨ (E = xA ∧ ik = 86 ∧ ic = 90)
def strL : List (Nat × String) := [(57, "no such tune, tooth or step"), (68, "the pin cannot be set"), (88, "to is less than from"), (95, "no such tune"), (100, "the same tune, or steps or teeth out of range"), (106, "turns out of range"), (117, "vanes out of range"), (125, "steps out of range"), (130, "no such tooth"), (135, "no such setting"), (144, "value out of range"), (57, "no such tune, tooth or step"), (57, "no such tune, tooth or step"), (57, "no such tune, tooth or step"), (166, "no saved state"), (57, "no such tune, tooth or step"), (180, "what is not 0 to 4"), (185, "no such tune or step"), (193, "back out of range, or what is neither 0 nor 1"), (204, "what is not 0 to 17"), (209, "steps out of range, or what is not 0 to 4")]
/-- the strings -/
def sW (U : State) : Prop := (∀ x ∈ strL, ∃ sa, vk_R RX2 x.1 x.2 sa U) ∧ (va_Nc xS xI U ∧ va_Nc xA xI U ∧ va_Nc xS xA U) ∧ va_Nw (.castable xI xI) U ∧ va_Nw (.castable xS xS) U ∧ va_Nw (.castable xA xA) U ∧ (∀ y ∈ Bundle.tN :: xNm, va_Nw (.declares (Bundle.initS y)) U)
/-- the statics; A: what may change -/
def eV (A : Nat → Prop) (U : State) (H : Heap) : Prop := vx_Zq Bundle.tN "UNASSIGNED_STACK" Bundle.steD A U H ∧ vx_Zq Bundle.tN "SUPPRESSED_SENTINEL" Bundle.listD A U H ∧ (∃ b, va_Z RX2 "LEAST_VALUE" "[I" (.ref b) A U H ∧ va_T .int b 5 (fun j => .int (nI (loS j))) A U H) ∧ (∃ b, va_Z RX2 "MOST_VALUE" "[I" (.ref b) A U H ∧ va_T .int b 5 (fun j => .int (nI (hiS j))) A U H)
theorem eV.moved {A : Nat → Prop} {u U : State} {H : Heap} (hvm : u.vm.Alike U.vm) (h : eV A u H) : eV A U H := by
  obtain ⟨h1, h2, ⟨b3, h3, h4⟩, ⟨b5, h5, h6⟩⟩ := h
  exact ⟨h1.moved hvm, h2.moved hvm, ⟨b3, va_Z.moved hvm h3, va_T.moved hvm h4⟩, ⟨b5, va_Z.moved hvm h5, va_T.moved hvm h6⟩⟩
theorem eV.kept {A : Nat → Prop} {U : State} {H H1 : Heap} (h : eV A U H) (hq : ∀ a : Nat, a < H.size → ¬ A a → H1[a]? = H[a]?) : eV A U H1 := by
  obtain ⟨h1, h2, ⟨b3, h3, h4⟩, ⟨b5, h5, h6⟩⟩ := h
  exact ⟨h1.kept hq, h2.kept hq, ⟨b3, va_Z.kept h3 hq, va_T.kept h4 hq⟩, ⟨b5, va_Z.kept h5 hq, va_T.kept h6 hq⟩⟩
theorem eV.narrow {A B : Nat → Prop} {U : State} {H : Heap} (h : eV A U H) (hAB : ∀ q, B q → A q) : eV B U H := by
  obtain ⟨h1, h2, ⟨b3, h3, h4⟩, ⟨b5, h5, h6⟩⟩ := h
  exact ⟨h1.narrow hAB, h2.narrow hAB, ⟨b3, va_Z.narrow h3 hAB, va_T.narrow h4 hAB⟩, ⟨b5, va_Z.narrow h5 hAB, va_T.narrow h6 hAB⟩⟩
theorem sW.same {u U : State} (hv : U.vm = u.vm) (h : sW u) : sW U := by
  have ha : u.vm.Alike U.vm := by rw [hv]; exact Vm.Alike.refl u.vm
  refine ⟨fun x hx => ?_, ⟨va_Nc.moved ha h.2.1.1, va_Nc.moved ha h.2.1.2.1, va_Nc.moved ha h.2.1.2.2⟩, va_tabs rfl hv.symm h.2.2.1, va_tabs rfl hv.symm h.2.2.2.1, va_tabs rfl hv.symm h.2.2.2.2.1, fun y hy => va_tabs rfl hv.symm (h.2.2.2.2.2 y hy)⟩
  obtain ⟨sa, hs⟩ := h.1 x hx
  exact ⟨sa, vk_R.same hv hs⟩
theorem sW.warm {s U : State} (hW : s.WarmedH U.vm) (h : sW s) : sW U := by
  refine ⟨fun x hx => ?_, ⟨va_Nc.moved hW.alike h.2.1.1, va_Nc.moved hW.alike h.2.1.2.1, va_Nc.moved hW.alike h.2.1.2.2⟩, va_Nw.warmC hW h.2.2.1, va_Nw.warmC hW h.2.2.2.1, va_Nw.warmC hW h.2.2.2.2.1, fun y hy => va_Nw.warmD hW (h.2.2.2.2.2 y hy)⟩
  obtain ⟨sa, hs⟩ := h.1 x hx
  exact ⟨sa, vk_R.warm hW hs⟩
def kP3 (D : va_G) (c : Nat → ClassId) (sz : Nat) (ws : va_W) : State → Prop := fun U => kP2 D c sz ws U ∧ sW U ∧ eV (va_A ws sz) U U.heap
theorem kP3_blind {av : List Value} {D : va_G} {c : Nat → ClassId} {sz : Nat} {ws : va_W} : FrameBlind (va_Pc av (kP3 D c sz ws)) := fun a U g mk q => by
  obtain ⟨q0, q2, qs, qe⟩ := q
  exact ⟨q0, (kP2_blind (av := av) a U g mk ⟨q0, q2⟩).2, sW.same (u := U) rfl qs, eV.moved (u := U) (Vm.Alike.refl U.vm) qe⟩
/-- it throws E; what the cells are then: w' -/
def MX (l : Launch) (y : MethodName) (ws : List Cond) (rm : Room) (D : va_G) (c : Nat → ClassId) (sz : Nat) (wd : va_W) (av : List Value) (E : String) (w' : va_W) : Prop :=
  vx_Met l y ws rm (va_Pc av (kP3 D c sz wd)) (va_Qi (fun (_ : Int32) (_ : va_W) => False) (kB D wd sz) (va_A wd sz)) (vx_X (fun w : va_W => w = w') (fun E' w t => E' = E ∧ kB D wd sz w t) (va_A wd sz)) 1 6 (va_A wd sz)
def MI3 (l : Launch) (y : MethodName) (ws : List Cond) (rm : Room) (D : va_G) (c : Nat → ClassId) (sz : Nat) (wd : va_W) (av : List Value) (r : Int32) (w' : va_W) : Prop :=
  Met l y ws rm (va_Pc av (kP3 D c sz wd)) (va_Qi (fun (x : Int32) (w : va_W) => x = r ∧ w = w') (kB D wd sz) (va_A wd sz)) 0 0 (va_A wd sz)
def MW (l : Launch) (y : MethodName) (ws : List Cond) (rm : Room) (D : va_G) (c : Nat → ClassId) (sz : Nat) (wd : va_W) (av : List Value) (r : Int32) (w' : va_W) : Prop :=
  Met l y ws rm (va_Pc av (kP3 D c sz wd)) (va_Qi (fun (x : Int32) (w : va_W) => x = r ∧ w = w') (kB D wd sz) (va_A wd sz)) 1 6 (va_A wd sz)
theorem MI2.to3 {l : Launch} {y : MethodName} {ws : List Cond} {rm : Room} {D : va_G} {c : Nat → ClassId} {sz : Nat} {wd : va_W} {av : List Value} {r : Int32} {w' : va_W} (h : MI2 l y ws rm D c sz wd av r w') : MI3 l y ws rm D c sz wd av r w' :=
  fun p e h1 h2 h3 s m args below h4 h5 hP hK => h p e h1 h2 h3 s m args below h4 h5 ⟨hP.1, hP.2.1⟩ hK
theorem xg (E : String) (ik ic : Nat) (h : xK E ik ic) : (∀ w ∈ Cond.classLink RX2 ik E :: Cond.initialized E :: vx_atS RX2 ic E xNm, vx_ot w = true) ∧ (∀ w ∈ (vx_atS RX2 ic E xNm).filter (fun w => !goodWord w), w ∈ Cond.castable E E :: (Bundle.tN :: xNm).map (fun y => Cond.declares (Bundle.initS y))) ∧ Bundle.fit E = true := by
  rcases h with ⟨rfl, rfl, rfl⟩ | ⟨rfl, rfl, rfl⟩ | ⟨rfl, rfl, rfl⟩ <;> exact ⟨by decide +kernel, by decide +kernel, by decide +kernel⟩
theorem xcast {E : String} {ik ic : Nat} (h : xK E ik ic) {U : State} (hs : sW U) (args : Array Value) : (Cond.castable E E).before args U = true := by
  rcases h with ⟨rfl, -, -⟩ | ⟨rfl, -, -⟩ | ⟨rfl, -, -⟩
  · exact va_tabs rfl rfl hs.2.2.1
  · exact va_tabs rfl rfl hs.2.2.2.1
  · exact va_tabs rfl rfl hs.2.2.2.2.1
theorem xfit : ∀ n ∈ xNm, Bundle.fit n = true := by decide +kernel
theorem kw_ext {D : va_G} {A : Nat → Prop} {H0 H H1 : Heap} {w : va_W} {locs : List Loc} (h : kw D A H0 w H locs) (hz : H.size ≤ H1.size) (hk : ∀ q : Nat, q < H.size → H1[q]? = H[q]?) : va_P D vwCl w H1 ∧ va_S A H0 H1 locs := by
  obtain ⟨hP, hD, hS⟩ := h
  refine ⟨fun k q hq => (hP k q hq).kept (hk q.1 (hP k q hq).lt), Nat.le_trans hS.1 hz, fun q h1 h2 => ?_, hS.2.2⟩
  rw [hk q (Nat.lt_of_lt_of_le h1 hS.1)]
  exact hS.2.1 q h1 h2
theorem MX.of {l : Launch} (hfl : l.stackTraces = false) {y : MethodName} {ws ws' : List Cond} {rm : Room} {D : va_G} {c : Nat → ClassId} {sz : Nat} {wd : va_W} {av : List Value} {E : String} {w' : va_W} {cc : ByteArray} {maxL : Nat} {ty : FieldType} {ik is ic : Nat} {text : String}
    (hy : plainName y.cls = true) (hyc : y.cls = RX2) (hw : ws = Cond.code y cc maxL (some ty) :: ws') (hlen : (lg_sl av).length ≤ maxL) (hX : xK E ik ic) (hk : Cond.classLink RX2 ik E ∈ ws) (hini : Cond.initialized E ∈ ws) (hat : ∀ w ∈ (vx_atS RX2 ic E xNm).filter goodWord, w ∈ ws) (hst : (is, text) ∈ strL)
    (hrm : 5 < rm.frames ∧ 82 ≤ rm.locals ∧ 1 ≤ rm.cells ∧ 6 ≤ rm.slots)
    (body : ∀ (p : Program) (e : Env) (s : State) (m : MethodId) (below : List Frame) (meth : Method) (cd : Code) (A : Nat → Prop) (Q : State → Prop) (ls : Array Slot), s.heap.size = sz → CallFix p m cd cc maxL s av.toArray ws y.cls → va_K D vwCl (vT c) s → nW s → eV A s s.heap → kw D A s.heap wd s.heap [] → (∀ q, s.heap.size ≤ q → A q) → lv_has ls maxL (lv_args 0 av) →
      (∀ (pc : Nat) (ls1 : Array Slot) (H : Heap) (locs : List Loc) (w : va_W), decode cc pc = .ok (.new ik, 3) → decode cc (pc + 3) = .ok (.dup, 1) → decode cc (pc + 4) = .ok (.ldc is, 2) → decode cc (pc + 6) = .ok (.invokespecial ic, 3) → decode cc (pc + 9) = .ok (.athrow, 1) → ls1.size = maxL → kw D A s.heap w H locs → w = w' → W p l e rm s m av.toArray below meth cd H locs 0 0 Q (F0 m pc ls1 [])) →
      W p l e rm s m av.toArray below meth cd s.heap [] 0 0 Q (F0 m 0 ls [])) : MX l y ws rm D c sz wd av E w' := by
  refine vx_ofW (cc := cc) (maxL := maxL) (ret := some ty) hy hw ?_
  intro p e s m args below meth cd s₁ B hml hex hv
  obtain ⟨rfl, ⟨⟨hsz, hP, hK, hD0⟩, hN⟩, hSt, hV⟩ := hv
  have hts := atoms_spec (ws := ws) B.pre
  have hown : s.vm.findClass y.cls = some m.cls := findClass_of_methodNamed B.named
  have hlocks := B.notSynchronized
  have hr := B.returns
  have hb := B.bytes
  have hx := B.exec
  subst hsz
  have hl := lv_entry av (n := maxL) hlen
  rw [lg_entry_eq]
  generalize (lg_sl av ++ List.replicate (maxL - (lg_sl av).length) Slot.unset).toArray = ls at hl ⊢
  refine body p e s m below meth cd (va_A wd s.heap.size) _ ls rfl ⟨hx, hb, hml, hown, hts⟩ hK hN hV ⟨hP, hD0.self, va_S.rf⟩ (fun q h => Or.inr h) hl ?_
  intro pc ls1 H locs w d0 d3 d4 d6 d9 hsize hW hw
  subst hw
  obtain ⟨g1, g2, g3⟩ := xg E ik ic hX
  obtain ⟨sa, hsa⟩ := hSt.1 _ hst
  rw [hyc] at hown
  refine vx_throwS (A := va_A wd s.heap.size) (sa := sa) (names := xNm) hx hb hfl hown g3 xfit (hts _ hk) (hts _ hini) hsa (vx_hat (fun w h => hts w (hat w h)) g2 (vx_c (xcast hX hSt _) (fun w hw => by obtain ⟨y, hy, rfl⟩ := List.mem_map.mp hw; exact va_tabs rfl rfl (hSt.2.2.2.2.2 y hy)))) g1 hV.1 hV.2.1 hW.2.2 (by rw [hml]; exact hsize) d0 d3 d4 d6 d9 (fun x hx => (hex x hx).elim) hrm.1 hrm.2.1 (by have := hrm.2.2.1; show 0 + 1 ≤ rm.cells; omega) (by have := hrm.2.2.2; show 0 + 6 ≤ rm.slots; omega) hlocks (fun t hal hz hk => ?_) hW.2.2.2.2 (Nat.le_refl _) (Nat.le_refl _)
  obtain ⟨k1, k2⟩ := kw_ext hW hz hk
  exact ⟨w, rfl, ⟨rfl, k1, hW.2.1⟩, k2.F rfl⟩
