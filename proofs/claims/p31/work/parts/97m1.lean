/-! ===== the law's acts: kit ===== -/
def wI (c : Nat → ClassId) (o : Nat) (f : Nat → Nat) : va_W := [(o, .inl (c 0, 1, .inl (fun k => nI (f k))))]
section KWI
variable {p : Program} {l : Launch} {e : Env} {R : Room} {s : State} {m : MethodId} {args : Array Value} {below : List Frame} {meth : Method} {cd : Code} {H : Heap} {locs : List Loc} {cells slots : Nat} {Q : State → Prop} {pc : Nat} {ls : Array Slot} {rest : List Value} {cc : ByteArray} {D : va_G} {c : Nat → ClassId} {A : Nat → Prop} {H0 : Heap} {w1 : va_W} {nL : Nat} {Ts : List Cond} {own : String}
theorem wi_tail (S : CallFix p m cd cc nL s args Ts own) (hK : va_K D vwCl (vT c) s) {o r : Nat} {f : Nat → Nat} (hW : kw D A H0 (w1 ++ wI c o f) H locs) (d2 : decode cc pc = .ok (.iastore, 1))
    (kk : ∀ (H1 : Heap) (locs1 : List Loc), kw D A H0 (w1 ++ wI c o (fu f 0 r)) H1 locs1 → W p l e R s m args below meth cd H1 locs1 cells slots Q (F0 m (pc + 1) ls rest)) : W p l e R s m args below meth cd H locs cells slots Q (F0 m pc ls (.int (nI r) :: .int (nI 0) :: .ref o :: rest)) := by
  have hq : (w1 ++ wI c o f)[w1.length]? = some (o, .inl (c 0, 1, .inl (fun k => nI (f k)))) := by simp [wI]
  have hs : ∀ g : Nat → Nat, (w1 ++ wI c o f).set w1.length (o, .inl (c 0, 1, .inl (fun k => nI (g k)))) = w1 ++ wI c o g := fun g => by simp [wI]
  refine kn_ast S hK hW w1.length (f := f) hq (by decide) (by decide) d2 (fun H1 locs1 h1 => ?_)
  rw [hs] at h1
  exact kk H1 locs1 h1
end KWI
theorem MW.of {l : Launch} {y : MethodName} {ws ws' : List Cond} {rm : Room} {D : va_G} {c : Nat → ClassId} {sz : Nat} {wd : va_W} {av : List Value} {r : Int32} {w' : va_W} {cc : ByteArray} {maxL : Nat}
    (hy : plainName y.cls = true) (hw : ws = Cond.code y cc maxL (some .int) :: ws') (hlen : (lg_sl av).length ≤ maxL)
    (body : ∀ (p : Program) (e : Env) (s : State) (m : MethodId) (below : List Frame) (meth : Method) (cd : Code) (A : Nat → Prop) (Q : State → Prop) (ls : Array Slot), s.heap.size = sz → CallFix p m cd cc maxL s av.toArray ws y.cls → va_K D vwCl (vT c) s → nW s → sW s → eV A s s.heap → kw D A s.heap wd s.heap [] → (∀ q, s.heap.size ≤ q → A q) → lv_has ls maxL (lv_args 0 av) →
      (∀ (pc : Nat) (ls1 : Array Slot) (H : Heap) (locs : List Loc) (v : Int32) (w : va_W) (cells slots : Nat), decode cc pc = .ok (.ireturn, 1) → kw D A s.heap w H locs → v = r → w = w' → cells ≤ 1 → slots ≤ 6 → W p l e rm s m av.toArray below meth cd H locs cells slots Q (F0 m pc ls1 [.int v])) →
      W p l e rm s m av.toArray below meth cd s.heap [] 0 0 Q (F0 m 0 ls [])) : MW l y ws rm D c sz wd av r w' := by
  refine Met.ofW (cc := cc) (maxL := maxL) (ret := some .int) hy hw ?_
  intro p e s m args below meth cd s₁ B hml hv
  obtain ⟨rfl, ⟨⟨hsz, hP, hK, hD0⟩, hN⟩, hSt, hV⟩ := hv
  have hts := atoms_spec (ws := ws) B.pre
  have hown : s.vm.findClass y.cls = some m.cls := findClass_of_methodNamed B.named
  have hlocks := B.notSynchronized
  have hr := B.returns
  have hb := B.bytes
  have hx := B.exec
  subst hsz
  have hl := lv_entry av (n := maxL) hlen
  rw [lg_entry_eq]
  generalize (lg_sl av ++ List.replicate (maxL - (lg_sl av).length) Slot.unset).toArray = ls at hl ⊢
  refine body p e s m below meth cd (va_A wd s.heap.size) _ ls rfl ⟨hx, hb, hml, hown, hts⟩ hK hN hSt hV ⟨hP, hD0.self, va_S.rf⟩ (fun q h => Or.inr h) hl ?_
  intro pc ls1 H locs v w cells slots hd hW hv hw h1 h6
  subst hv; subst hw
  refine W.widen (k := 1) (n := 6) h1 h6 ?_
  exact W.zret hx hb hr rfl (fun t ht hW' => ⟨⟨v, w, rfl, ⟨rfl, rfl⟩, by rw [ht]; exact hW.1, hW.2.1⟩, hW.2.2.F ht⟩) hW.2.2.2.2 hd hlocks
/-- what an act comes to: it goes through, to a new state; or it throws, and nothing has changed -/
def AcK (yL : MethodName) (wsL : List Cond) (rmL : Room) (av : List Value) (τ : Nat → Nat → Nat) (r : Nat) (τ' : Nat → Nat → Nat) : Prop :=
  ∀ (l : Launch) (D : va_G) (c : Nat → ClassId) (a : Nat → Nat) (b : Nat → Nat → Nat) (θ : Nat → Nat → Nat → Nat) (ρ κ : Nat → Nat → Nat) (sz o : Nat) (f : Nat → Nat), l.stackTraces = false → θ 0 = τ → κ 2 0 < 6 → κ 3 0 ≤ 6 → MW l yL wsL rmL D c sz (wP c a b θ ρ κ ++ wI c o f) (.ref (a 0) :: (av ++ [.ref o])) (nI 0) (wP c a b (pst (svT θ ((κ 2 0 + κ 3 0) % 6)) 0 τ') ρ (svK κ) ++ wI c o (fu f 0 r))
def AcX (yL : MethodName) (wsL : List Cond) (rmL : Room) (av : List Value) (τ : Nat → Nat → Nat) (th : Nat) : Prop :=
  ∀ (l : Launch) (D : va_G) (c : Nat → ClassId) (a : Nat → Nat) (b : Nat → Nat → Nat) (θ : Nat → Nat → Nat → Nat) (ρ κ : Nat → Nat → Nat) (sz o : Nat) (f : Nat → Nat), l.stackTraces = false → θ 0 = τ → κ 2 0 < 6 → κ 3 0 ≤ 6 → MW l yL wsL rmL D c sz (wP c a b θ ρ κ ++ wI c o f) (.ref (a 0) :: (av ++ [.ref o])) (nI th) (wP c a b θ ρ κ ++ wI c o f)
def AcR (yL : MethodName) (wsL : List Cond) (rmL : Room) (av : List Value) (τ : Nat → Nat → Nat) (T : Nat) : Prop :=
  (∃ (r : Nat) (τ' : Nat → Nat → Nat), r < 2000000000 ∧ Iv τ' (T + 5760) ∧ AcK yL wsL rmL av τ r τ') ∨ (∃ th : Nat, 0 < th ∧ th ≤ 3 ∧ AcX yL wsL rmL av τ th)
abbrev rmL_changes : Room := { frames := 7, cells := 1, slots := 6, locals := 136 }
theorem pdL_changes : kPd yL_changes 6 := by decide +kernel
set_option maxRecDepth 100000 in
theorem wchanges_0_k (l : Launch) (D : va_G) (c : Nat → ClassId) (o : Nat) (f : Nat → Nat) (sz : Nat) (wd w1 : va_W) (b0 : Nat) {fs : List Value} (p0 p1 p2 : Int32) (r : Nat) (he : wd[0]? = some (b0, .inr (2, fs))) (hM : MI3 l yX2_pin wsX2_pin rmX2_pin D c sz wd [.ref b0, .int p0, .int p1, .int p2] (nI r) w1) : MW l yL_changes wsL_changes rmL_changes D c sz (wd ++ wI c o f) [.ref b0, .int (nI 0), .int p0, .int p1, .int p2, .ref o] (nI 0) (w1 ++ wI c o (fu f 0 r)) := by
  refine MW.ofH (cc := cL_changes) (maxL := 7) (hh := [(0, 111, 114, 38), (0, 111, 118, 40), (0, 111, 122, 42)]) (by decide) rfl (Nat.le_of_ble_eq_true rfl) ?_
  intro P e s m below meth cd A Q ls hsz S hK hN hSt hV htab hW hA hl hret
  subst hsz
  have hl : lv_has ls 7 [(0, .ref b0), (1, .int (nI 0)), (2, .int p0), (3, .int p1), (4, .int p2), (5, .ref o)] := hl
  refine lv_aload S.1 S.2.1 dL_changes_0 (lv_at hl 5 rfl) ?_
  refine lv_iconst (v := nI 0) S.1 S.2.1 dL_changes_2 rfl ?_
  refine lv_iload_n S.1 S.2.1 dL_changes_3 rfl (lv_at hl 1 rfl) ?_
  refine kz_ne S (tgt := 18) dL_changes_4 (by decide) (by decide) (fun q => absurd rfl q) (fun _ => ?_)
  refine lv_aload_n S.1 S.2.1 dL_changes_7 rfl (lv_at hl 0 rfl) ?_
  refine lv_iload_n S.1 S.2.1 dL_changes_8 rfl (lv_at hl 2 rfl) ?_
  refine lv_iload_n S.1 S.2.1 dL_changes_9 rfl (lv_at hl 3 rfl) ?_
  refine lv_iload S.1 S.2.1 dL_changes_10 (lv_at hl 4 rfl) ?_
  refine k_VI3 (rest := [.int (nI 0), .ref o]) S hK hl.1 hW (KFr.lft hW hA) hN hSt hV hM gL_changes_X2_pin rfl pdX2_pin ⟨⟨rfl, rfl⟩, Nat.le_of_ble_eq_true rfl, Nat.le_of_ble_eq_true rfl⟩ 0 2 he rfl rfl rfl (Nat.le_of_ble_eq_true rfl) dL_changes_12 ⟨Nat.le_of_ble_eq_true rfl, Nat.le_of_ble_eq_true rfl⟩ (fun H locs hW => ?_)
  refine lv_goto (tgt := 110) S.1 S.2.1 dL_changes_15 (by decide) ?_
  refine wi_tail (rest := []) S hK hW dL_changes_110 (fun H locs hW => ?_)
  refine lv_goto (tgt := 126) S.1 S.2.1 dL_changes_111 (by decide) ?_
  refine lv_iconst (v := nI 0) S.1 S.2.1 dL_changes_126 rfl ?_
  exact hret 127 _ _ _ _ _ _ _ dL_changes_127 hW rfl rfl (Nat.zero_le _) (Nat.zero_le _)
set_option maxRecDepth 100000 in
theorem wchanges_0_xI (l : Launch) (D : va_G) (c : Nat → ClassId) (o : Nat) (f : Nat → Nat) (sz : Nat) (wd w1 : va_W) (b0 : Nat) {fs : List Value} (p0 p1 p2 : Int32) (he : wd[0]? = some (b0, .inr (2, fs))) (hM : MX l yX2_pin wsX2_pin rmX2_pin_x D c sz wd [.ref b0, .int p0, .int p1, .int p2] xI w1) : MW l yL_changes wsL_changes rmL_changes D c sz (wd ++ wI c o f) [.ref b0, .int (nI 0), .int p0, .int p1, .int p2, .ref o] (nI 1) (w1 ++ wI c o f) := by
  refine MW.ofH (cc := cL_changes) (maxL := 7) (hh := [(0, 111, 114, 38), (0, 111, 118, 40), (0, 111, 122, 42)]) (by decide) rfl (Nat.le_of_ble_eq_true rfl) ?_
  intro P e s m below meth cd A Q ls hsz S hK hN hSt hV htab hW hA hl hret
  subst hsz
  have hl : lv_has ls 7 [(0, .ref b0), (1, .int (nI 0)), (2, .int p0), (3, .int p1), (4, .int p2), (5, .ref o)] := hl
  refine lv_aload S.1 S.2.1 dL_changes_0 (lv_at hl 5 rfl) ?_
  refine lv_iconst (v := nI 0) S.1 S.2.1 dL_changes_2 rfl ?_
  refine lv_iload_n S.1 S.2.1 dL_changes_3 rfl (lv_at hl 1 rfl) ?_
  refine kz_ne S (tgt := 18) dL_changes_4 (by decide) (by decide) (fun q => absurd rfl q) (fun _ => ?_)
  refine lv_aload_n S.1 S.2.1 dL_changes_7 rfl (lv_at hl 0 rfl) ?_
  refine lv_iload_n S.1 S.2.1 dL_changes_8 rfl (lv_at hl 2 rfl) ?_
  refine lv_iload_n S.1 S.2.1 dL_changes_9 rfl (lv_at hl 3 rfl) ?_
  refine lv_iload S.1 S.2.1 dL_changes_10 (lv_at hl 4 rfl) ?_
  refine k_VX (rest := [.int (nI 0), .ref o]) S hK hl.1 hW (KFr.lft hW hA) hN hSt hV hM gL_changes_X2_pin rfl pdX2_pin ⟨⟨rfl, rfl⟩, Nat.le_of_ble_eq_true rfl, Nat.le_of_ble_eq_true rfl⟩ 0 2 he rfl rfl rfl (Nat.le_of_ble_eq_true rfl) dL_changes_12 ⟨Nat.le_of_ble_eq_true rfl, Nat.le_of_ble_eq_true rfl⟩ (fun q9 ce H locs hW hq9 hv9 hcl => ?_)
  refine vx_catch (name := xI) S.2.2.2.1 [] _ _ (htab.trans rfl) (fun z hz => by cases hz) rfl (by decide) (S.2.2.2.2 (.classLink RL 38 xI) (List.mem_of_getElem? (i := 1) rfl)) (xcast (ik := _) (ic := _) (Or.inl ⟨rfl, rfl, rfl⟩) hSt _) hq9 hv9 hcl ?_
  refine lv_astore S.1 S.2.1 dL_changes_114 hl (by decide) rfl (fun ls hl => ?_)
  refine lv_iconst (v := nI 1) S.1 S.2.1 dL_changes_116 rfl ?_
  exact hret 117 _ _ _ _ _ _ _ dL_changes_117 hW rfl rfl (by decide) (by decide)
set_option maxRecDepth 100000 in
theorem wchanges_0_xS (l : Launch) (D : va_G) (c : Nat → ClassId) (o : Nat) (f : Nat → Nat) (sz : Nat) (wd w1 : va_W) (b0 : Nat) {fs : List Value} (p0 p1 p2 : Int32) (he : wd[0]? = some (b0, .inr (2, fs))) (hM : MX l yX2_pin wsX2_pin rmX2_pin_x D c sz wd [.ref b0, .int p0, .int p1, .int p2] xS w1) : MW l yL_changes wsL_changes rmL_changes D c sz (wd ++ wI c o f) [.ref b0, .int (nI 0), .int p0, .int p1, .int p2, .ref o] (nI 3) (w1 ++ wI c o f) := by
  refine MW.ofH (cc := cL_changes) (maxL := 7) (hh := [(0, 111, 114, 38), (0, 111, 118, 40), (0, 111, 122, 42)]) (by decide) rfl (Nat.le_of_ble_eq_true rfl) ?_
  intro P e s m below meth cd A Q ls hsz S hK hN hSt hV htab hW hA hl hret
  subst hsz
  have hl : lv_has ls 7 [(0, .ref b0), (1, .int (nI 0)), (2, .int p0), (3, .int p1), (4, .int p2), (5, .ref o)] := hl
  refine lv_aload S.1 S.2.1 dL_changes_0 (lv_at hl 5 rfl) ?_
  refine lv_iconst (v := nI 0) S.1 S.2.1 dL_changes_2 rfl ?_
  refine lv_iload_n S.1 S.2.1 dL_changes_3 rfl (lv_at hl 1 rfl) ?_
  refine kz_ne S (tgt := 18) dL_changes_4 (by decide) (by decide) (fun q => absurd rfl q) (fun _ => ?_)
  refine lv_aload_n S.1 S.2.1 dL_changes_7 rfl (lv_at hl 0 rfl) ?_
  refine lv_iload_n S.1 S.2.1 dL_changes_8 rfl (lv_at hl 2 rfl) ?_
  refine lv_iload_n S.1 S.2.1 dL_changes_9 rfl (lv_at hl 3 rfl) ?_
  refine lv_iload S.1 S.2.1 dL_changes_10 (lv_at hl 4 rfl) ?_
  refine k_VX (rest := [.int (nI 0), .ref o]) S hK hl.1 hW (KFr.lft hW hA) hN hSt hV hM gL_changes_X2_pin rfl pdX2_pin ⟨⟨rfl, rfl⟩, Nat.le_of_ble_eq_true rfl, Nat.le_of_ble_eq_true rfl⟩ 0 2 he rfl rfl rfl (Nat.le_of_ble_eq_true rfl) dL_changes_12 ⟨Nat.le_of_ble_eq_true rfl, Nat.le_of_ble_eq_true rfl⟩ (fun q9 ce H locs hW hq9 hv9 hcl => ?_)
  refine vx_catch (name := xS) S.2.2.2.1 [_, _] _ _ (htab.trans rfl) (fun z hz => (List.mem_cons.mp hz).elim (fun e9 => by rw [e9]; exact Or.inr ⟨by decide, xI, S.2.2.2.2 (.classLink RL 38 xI) (List.mem_of_getElem? (i := 1) rfl), hSt.2.1.1⟩) (fun hz => by rw [List.mem_singleton.mp hz]; exact Or.inr ⟨by decide, xA, S.2.2.2.2 (.classLink RL 40 xA) (List.mem_of_getElem? (i := 2) rfl), hSt.2.1.2.2⟩)) rfl (by decide) (S.2.2.2.2 (.classLink RL 42 xS) (List.mem_of_getElem? (i := 3) rfl)) (xcast (ik := _) (ic := _) (Or.inr (Or.inl ⟨rfl, rfl, rfl⟩)) hSt _) hq9 hv9 hcl ?_
  refine lv_astore S.1 S.2.1 dL_changes_122 hl (by decide) rfl (fun ls hl => ?_)
  refine lv_iconst (v := nI 3) S.1 S.2.1 dL_changes_124 rfl ?_
  exact hret 125 _ _ _ _ _ _ _ dL_changes_125 hW rfl rfl (by decide) (by decide)
set_option maxRecDepth 100000 in
theorem wchanges_1_k (l : Launch) (D : va_G) (c : Nat → ClassId) (o : Nat) (f : Nat → Nat) (sz : Nat) (wd w1 : va_W) (b0 : Nat) {fs : List Value} (p0 p1 p2 : Int32) (r : Nat) (he : wd[0]? = some (b0, .inr (2, fs))) (hM : MI3 l yX2_pull wsX2_pull rmX2_pull D c sz wd [.ref b0, .int p0, .int p1, .int p2, .int (p2 + nI 5)] (nI r) w1) : MW l yL_changes wsL_changes rmL_changes D c sz (wd ++ wI c o f) [.ref b0, .int (nI 1), .int p0, .int p1, .int p2, .ref o] (nI 0) (w1 ++ wI c o (fu f 0 r)) := by
  refine MW.ofH (cc := cL_changes) (maxL := 7) (hh := [(0, 111, 114, 38), (0, 111, 118, 40), (0, 111, 122, 42)]) (by decide) rfl (Nat.le_of_ble_eq_true rfl) ?_
  intro P e s m below meth cd A Q ls hsz S hK hN hSt hV htab hW hA hl hret
  subst hsz
  have hl : lv_has ls 7 [(0, .ref b0), (1, .int (nI 1)), (2, .int p0), (3, .int p1), (4, .int p2), (5, .ref o)] := hl
  refine lv_aload S.1 S.2.1 dL_changes_0 (lv_at hl 5 rfl) ?_
  refine lv_iconst (v := nI 0) S.1 S.2.1 dL_changes_2 rfl ?_
  refine lv_iload_n S.1 S.2.1 dL_changes_3 rfl (lv_at hl 1 rfl) ?_
  refine kz_ne S (tgt := 18) dL_changes_4 (by decide) (by decide) (fun _ => ?_) (fun q => absurd q (by decide))
  refine lv_iload_n S.1 S.2.1 dL_changes_18 rfl (lv_at hl 1 rfl) ?_
  refine lv_iconst (v := nI 1) S.1 S.2.1 dL_changes_19 rfl ?_
  refine kn_ne S (tgt := 38) dL_changes_20 (by decide) (by decide) (by decide) (fun q => absurd rfl q) (fun _ => ?_)
  refine lv_aload_n S.1 S.2.1 dL_changes_23 rfl (lv_at hl 0 rfl) ?_
  refine lv_iload_n S.1 S.2.1 dL_changes_24 rfl (lv_at hl 2 rfl) ?_
  refine lv_iload_n S.1 S.2.1 dL_changes_25 rfl (lv_at hl 3 rfl) ?_
  refine lv_iload S.1 S.2.1 dL_changes_26 (lv_at hl 4 rfl) ?_
  refine lv_iload S.1 S.2.1 dL_changes_28 (lv_at hl 4 rfl) ?_
  refine lv_iconst (v := nI 5) S.1 S.2.1 dL_changes_30 rfl ?_
  refine lv_iadd S.1 S.2.1 dL_changes_31 ?_
  refine k_VI3 (rest := [.int (nI 0), .ref o]) S hK hl.1 hW (KFr.lft hW hA) hN hSt hV hM gL_changes_X2_pull rfl pdX2_pull ⟨⟨rfl, rfl⟩, Nat.le_of_ble_eq_true rfl, Nat.le_of_ble_eq_true rfl⟩ 0 2 he rfl rfl rfl (Nat.le_of_ble_eq_true rfl) dL_changes_32 ⟨Nat.le_of_ble_eq_true rfl, Nat.le_of_ble_eq_true rfl⟩ (fun H locs hW => ?_)
  refine lv_goto (tgt := 110) S.1 S.2.1 dL_changes_35 (by decide) ?_
  refine wi_tail (rest := []) S hK hW dL_changes_110 (fun H locs hW => ?_)
  refine lv_goto (tgt := 126) S.1 S.2.1 dL_changes_111 (by decide) ?_
  refine lv_iconst (v := nI 0) S.1 S.2.1 dL_changes_126 rfl ?_
  exact hret 127 _ _ _ _ _ _ _ dL_changes_127 hW rfl rfl (Nat.zero_le _) (Nat.zero_le _)
set_option maxRecDepth 100000 in
theorem wchanges_1_xI (l : Launch) (D : va_G) (c : Nat → ClassId) (o : Nat) (f : Nat → Nat) (sz : Nat) (wd w1 : va_W) (b0 : Nat) {fs : List Value} (p0 p1 p2 : Int32) (he : wd[0]? = some (b0, .inr (2, fs))) (hM : MX l yX2_pull wsX2_pull rmX2_pull_x D c sz wd [.ref b0, .int p0, .int p1, .int p2, .int (p2 + nI 5)] xI w1) : MW l yL_changes wsL_changes rmL_changes D c sz (wd ++ wI c o f) [.ref b0, .int (nI 1), .int p0, .int p1, .int p2, .ref o] (nI 1) (w1 ++ wI c o f) := by
  refine MW.ofH (cc := cL_changes) (maxL := 7) (hh := [(0, 111, 114, 38), (0, 111, 118, 40), (0, 111, 122, 42)]) (by decide) rfl (Nat.le_of_ble_eq_true rfl) ?_
  intro P e s m below meth cd A Q ls hsz S hK hN hSt hV htab hW hA hl hret
  subst hsz
  have hl : lv_has ls 7 [(0, .ref b0), (1, .int (nI 1)), (2, .int p0), (3, .int p1), (4, .int p2), (5, .ref o)] := hl
  refine lv_aload S.1 S.2.1 dL_changes_0 (lv_at hl 5 rfl) ?_
  refine lv_iconst (v := nI 0) S.1 S.2.1 dL_changes_2 rfl ?_
  refine lv_iload_n S.1 S.2.1 dL_changes_3 rfl (lv_at hl 1 rfl) ?_
  refine kz_ne S (tgt := 18) dL_changes_4 (by decide) (by decide) (fun _ => ?_) (fun q => absurd q (by decide))
  refine lv_iload_n S.1 S.2.1 dL_changes_18 rfl (lv_at hl 1 rfl) ?_
  refine lv_iconst (v := nI 1) S.1 S.2.1 dL_changes_19 rfl ?_
  refine kn_ne S (tgt := 38) dL_changes_20 (by decide) (by decide) (by decide) (fun q => absurd rfl q) (fun _ => ?_)
  refine lv_aload_n S.1 S.2.1 dL_changes_23 rfl (lv_at hl 0 rfl) ?_
  refine lv_iload_n S.1 S.2.1 dL_changes_24 rfl (lv_at hl 2 rfl) ?_
  refine lv_iload_n S.1 S.2.1 dL_changes_25 rfl (lv_at hl 3 rfl) ?_
  refine lv_iload S.1 S.2.1 dL_changes_26 (lv_at hl 4 rfl) ?_
  refine lv_iload S.1 S.2.1 dL_changes_28 (lv_at hl 4 rfl) ?_
  refine lv_iconst (v := nI 5) S.1 S.2.1 dL_changes_30 rfl ?_
  refine lv_iadd S.1 S.2.1 dL_changes_31 ?_
  refine k_VX (rest := [.int (nI 0), .ref o]) S hK hl.1 hW (KFr.lft hW hA) hN hSt hV hM gL_changes_X2_pull rfl pdX2_pull ⟨⟨rfl, rfl⟩, Nat.le_of_ble_eq_true rfl, Nat.le_of_ble_eq_true rfl⟩ 0 2 he rfl rfl rfl (Nat.le_of_ble_eq_true rfl) dL_changes_32 ⟨Nat.le_of_ble_eq_true rfl, Nat.le_of_ble_eq_true rfl⟩ (fun q9 ce H locs hW hq9 hv9 hcl => ?_)
  refine vx_catch (name := xI) S.2.2.2.1 [] _ _ (htab.trans rfl) (fun z hz => by cases hz) rfl (by decide) (S.2.2.2.2 (.classLink RL 38 xI) (List.mem_of_getElem? (i := 1) rfl)) (xcast (ik := _) (ic := _) (Or.inl ⟨rfl, rfl, rfl⟩) hSt _) hq9 hv9 hcl ?_
  refine lv_astore S.1 S.2.1 dL_changes_114 hl (by decide) rfl (fun ls hl => ?_)
  refine lv_iconst (v := nI 1) S.1 S.2.1 dL_changes_116 rfl ?_
  exact hret 117 _ _ _ _ _ _ _ dL_changes_117 hW rfl rfl (by decide) (by decide)
set_option maxRecDepth 100000 in
theorem wchanges_1_xA (l : Launch) (D : va_G) (c : Nat → ClassId) (o : Nat) (f : Nat → Nat) (sz : Nat) (wd w1 : va_W) (b0 : Nat) {fs : List Value} (p0 p1 p2 : Int32) (he : wd[0]? = some (b0, .inr (2, fs))) (hM : MX l yX2_pull wsX2_pull rmX2_pull_x D c sz wd [.ref b0, .int p0, .int p1, .int p2, .int (p2 + nI 5)] xA w1) : MW l yL_changes wsL_changes rmL_changes D c sz (wd ++ wI c o f) [.ref b0, .int (nI 1), .int p0, .int p1, .int p2, .ref o] (nI 2) (w1 ++ wI c o f) := by
  refine MW.ofH (cc := cL_changes) (maxL := 7) (hh := [(0, 111, 114, 38), (0, 111, 118, 40), (0, 111, 122, 42)]) (by decide) rfl (Nat.le_of_ble_eq_true rfl) ?_
  intro P e s m below meth cd A Q ls hsz S hK hN hSt hV htab hW hA hl hret
  subst hsz
  have hl : lv_has ls 7 [(0, .ref b0), (1, .int (nI 1)), (2, .int p0), (3, .int p1), (4, .int p2), (5, .ref o)] := hl
  refine lv_aload S.1 S.2.1 dL_changes_0 (lv_at hl 5 rfl) ?_
  refine lv_iconst (v := nI 0) S.1 S.2.1 dL_changes_2 rfl ?_
  refine lv_iload_n S.1 S.2.1 dL_changes_3 rfl (lv_at hl 1 rfl) ?_
  refine kz_ne S (tgt := 18) dL_changes_4 (by decide) (by decide) (fun _ => ?_) (fun q => absurd q (by decide))
  refine lv_iload_n S.1 S.2.1 dL_changes_18 rfl (lv_at hl 1 rfl) ?_
  refine lv_iconst (v := nI 1) S.1 S.2.1 dL_changes_19 rfl ?_
  refine kn_ne S (tgt := 38) dL_changes_20 (by decide) (by decide) (by decide) (fun q => absurd rfl q) (fun _ => ?_)
  refine lv_aload_n S.1 S.2.1 dL_changes_23 rfl (lv_at hl 0 rfl) ?_
  refine lv_iload_n S.1 S.2.1 dL_changes_24 rfl (lv_at hl 2 rfl) ?_
  refine lv_iload_n S.1 S.2.1 dL_changes_25 rfl (lv_at hl 3 rfl) ?_
  refine lv_iload S.1 S.2.1 dL_changes_26 (lv_at hl 4 rfl) ?_
  refine lv_iload S.1 S.2.1 dL_changes_28 (lv_at hl 4 rfl) ?_
  refine lv_iconst (v := nI 5) S.1 S.2.1 dL_changes_30 rfl ?_
  refine lv_iadd S.1 S.2.1 dL_changes_31 ?_
  refine k_VX (rest := [.int (nI 0), .ref o]) S hK hl.1 hW (KFr.lft hW hA) hN hSt hV hM gL_changes_X2_pull rfl pdX2_pull ⟨⟨rfl, rfl⟩, Nat.le_of_ble_eq_true rfl, Nat.le_of_ble_eq_true rfl⟩ 0 2 he rfl rfl rfl (Nat.le_of_ble_eq_true rfl) dL_changes_32 ⟨Nat.le_of_ble_eq_true rfl, Nat.le_of_ble_eq_true rfl⟩ (fun q9 ce H locs hW hq9 hv9 hcl => ?_)
  refine vx_catch (name := xA) S.2.2.2.1 [_] _ _ (htab.trans rfl) (fun z hz => by rw [List.mem_singleton.mp hz]; exact Or.inr ⟨by decide, xI, S.2.2.2.2 (.classLink RL 38 xI) (List.mem_of_getElem? (i := 1) rfl), hSt.2.1.2.1⟩) rfl (by decide) (S.2.2.2.2 (.classLink RL 40 xA) (List.mem_of_getElem? (i := 2) rfl)) (xcast (ik := _) (ic := _) (Or.inr (Or.inr ⟨rfl, rfl, rfl⟩)) hSt _) hq9 hv9 hcl ?_
  refine lv_astore S.1 S.2.1 dL_changes_118 hl (by decide) rfl (fun ls hl => ?_)
  refine lv_iconst (v := nI 2) S.1 S.2.1 dL_changes_120 rfl ?_
  exact hret 121 _ _ _ _ _ _ _ dL_changes_121 hW rfl rfl (by decide) (by decide)
set_option maxRecDepth 100000 in
theorem wchanges_2_k (l : Launch) (D : va_G) (c : Nat → ClassId) (o : Nat) (f : Nat → Nat) (sz : Nat) (wd w1 : va_W) (b0 : Nat) {fs : List Value} (p0 p1 p2 : Int32) (r : Nat) (he : wd[0]? = some (b0, .inr (2, fs))) (hM : MI3 l yX2_wind wsX2_wind rmX2_wind D c sz wd [.ref b0, .int p0] (nI r) w1) : MW l yL_changes wsL_changes rmL_changes D c sz (wd ++ wI c o f) [.ref b0, .int (nI 2), .int p0, .int p1, .int p2, .ref o] (nI 0) (w1 ++ wI c o (fu f 0 r)) := by
  refine MW.ofH (cc := cL_changes) (maxL := 7) (hh := [(0, 111, 114, 38), (0, 111, 118, 40), (0, 111, 122, 42)]) (by decide) rfl (Nat.le_of_ble_eq_true rfl) ?_
  intro P e s m below meth cd A Q ls hsz S hK hN hSt hV htab hW hA hl hret
  subst hsz
  have hl : lv_has ls 7 [(0, .ref b0), (1, .int (nI 2)), (2, .int p0), (3, .int p1), (4, .int p2), (5, .ref o)] := hl
  refine lv_aload S.1 S.2.1 dL_changes_0 (lv_at hl 5 rfl) ?_
  refine lv_iconst (v := nI 0) S.1 S.2.1 dL_changes_2 rfl ?_
  refine lv_iload_n S.1 S.2.1 dL_changes_3 rfl (lv_at hl 1 rfl) ?_
  refine kz_ne S (tgt := 18) dL_changes_4 (by decide) (by decide) (fun _ => ?_) (fun q => absurd q (by decide))
  refine lv_iload_n S.1 S.2.1 dL_changes_18 rfl (lv_at hl 1 rfl) ?_
  refine lv_iconst (v := nI 1) S.1 S.2.1 dL_changes_19 rfl ?_
  refine kn_ne S (tgt := 38) dL_changes_20 (by decide) (by decide) (by decide) (fun _ => ?_) (fun q => absurd q (by decide))
  refine lv_iload_n S.1 S.2.1 dL_changes_38 rfl (lv_at hl 1 rfl) ?_
  refine lv_iconst (v := nI 2) S.1 S.2.1 dL_changes_39 rfl ?_
  refine kn_ne S (tgt := 51) dL_changes_40 (by decide) (by decide) (by decide) (fun q => absurd rfl q) (fun _ => ?_)
  refine lv_aload_n S.1 S.2.1 dL_changes_43 rfl (lv_at hl 0 rfl) ?_
  refine lv_iload_n S.1 S.2.1 dL_changes_44 rfl (lv_at hl 2 rfl) ?_
  refine k_VI3 (rest := [.int (nI 0), .ref o]) S hK hl.1 hW (KFr.lft hW hA) hN hSt hV hM gL_changes_X2_wind rfl pdX2_wind ⟨⟨rfl, rfl⟩, Nat.le_of_ble_eq_true rfl, Nat.le_of_ble_eq_true rfl⟩ 0 2 he rfl rfl rfl (Nat.le_of_ble_eq_true rfl) dL_changes_45 ⟨Nat.le_of_ble_eq_true rfl, Nat.le_of_ble_eq_true rfl⟩ (fun H locs hW => ?_)
  refine lv_goto (tgt := 110) S.1 S.2.1 dL_changes_48 (by decide) ?_
  refine wi_tail (rest := []) S hK hW dL_changes_110 (fun H locs hW => ?_)
  refine lv_goto (tgt := 126) S.1 S.2.1 dL_changes_111 (by decide) ?_
  refine lv_iconst (v := nI 0) S.1 S.2.1 dL_changes_126 rfl ?_
  exact hret 127 _ _ _ _ _ _ _ dL_changes_127 hW rfl rfl (Nat.zero_le _) (Nat.zero_le _)
set_option maxRecDepth 100000 in
theorem wchanges_2_xA (l : Launch) (D : va_G) (c : Nat → ClassId) (o : Nat) (f : Nat → Nat) (sz : Nat) (wd w1 : va_W) (b0 : Nat) {fs : List Value} (p0 p1 p2 : Int32) (he : wd[0]? = some (b0, .inr (2, fs))) (hM : MX l yX2_wind wsX2_wind rmX2_wind_x D c sz wd [.ref b0, .int p0] xA w1) : MW l yL_changes wsL_changes rmL_changes D c sz (wd ++ wI c o f) [.ref b0, .int (nI 2), .int p0, .int p1, .int p2, .ref o] (nI 2) (w1 ++ wI c o f) := by
  refine MW.ofH (cc := cL_changes) (maxL := 7) (hh := [(0, 111, 114, 38), (0, 111, 118, 40), (0, 111, 122, 42)]) (by decide) rfl (Nat.le_of_ble_eq_true rfl) ?_
  intro P e s m below meth cd A Q ls hsz S hK hN hSt hV htab hW hA hl hret
  subst hsz
  have hl : lv_has ls 7 [(0, .ref b0), (1, .int (nI 2)), (2, .int p0), (3, .int p1), (4, .int p2), (5, .ref o)] := hl
  refine lv_aload S.1 S.2.1 dL_changes_0 (lv_at hl 5 rfl) ?_
  refine lv_iconst (v := nI 0) S.1 S.2.1 dL_changes_2 rfl ?_
  refine lv_iload_n S.1 S.2.1 dL_changes_3 rfl (lv_at hl 1 rfl) ?_
  refine kz_ne S (tgt := 18) dL_changes_4 (by decide) (by decide) (fun _ => ?_) (fun q => absurd q (by decide))
  refine lv_iload_n S.1 S.2.1 dL_changes_18 rfl (lv_at hl 1 rfl) ?_
  refine lv_iconst (v := nI 1) S.1 S.2.1 dL_changes_19 rfl ?_
  refine kn_ne S (tgt := 38) dL_changes_20 (by decide) (by decide) (by decide) (fun _ => ?_) (fun q => absurd q (by decide))
  refine lv_iload_n S.1 S.2.1 dL_changes_38 rfl (lv_at hl 1 rfl) ?_
  refine lv_iconst (v := nI 2) S.1 S.2.1 dL_changes_39 rfl ?_
  refine kn_ne S (tgt := 51) dL_changes_40 (by decide) (by decide) (by decide) (fun q => absurd rfl q) (fun _ => ?_)
  refine lv_aload_n S.1 S.2.1 dL_changes_43 rfl (lv_at hl 0 rfl) ?_
  refine lv_iload_n S.1 S.2.1 dL_changes_44 rfl (lv_at hl 2 rfl) ?_
  refine k_VX (rest := [.int (nI 0), .ref o]) S hK hl.1 hW (KFr.lft hW hA) hN hSt hV hM gL_changes_X2_wind rfl pdX2_wind ⟨⟨rfl, rfl⟩, Nat.le_of_ble_eq_true rfl, Nat.le_of_ble_eq_true rfl⟩ 0 2 he rfl rfl rfl (Nat.le_of_ble_eq_true rfl) dL_changes_45 ⟨Nat.le_of_ble_eq_true rfl, Nat.le_of_ble_eq_true rfl⟩ (fun q9 ce H locs hW hq9 hv9 hcl => ?_)
  refine vx_catch (name := xA) S.2.2.2.1 [_] _ _ (htab.trans rfl) (fun z hz => by rw [List.mem_singleton.mp hz]; exact Or.inr ⟨by decide, xI, S.2.2.2.2 (.classLink RL 38 xI) (List.mem_of_getElem? (i := 1) rfl), hSt.2.1.2.1⟩) rfl (by decide) (S.2.2.2.2 (.classLink RL 40 xA) (List.mem_of_getElem? (i := 2) rfl)) (xcast (ik := _) (ic := _) (Or.inr (Or.inr ⟨rfl, rfl, rfl⟩)) hSt _) hq9 hv9 hcl ?_
  refine lv_astore S.1 S.2.1 dL_changes_118 hl (by decide) rfl (fun ls hl => ?_)
  refine lv_iconst (v := nI 2) S.1 S.2.1 dL_changes_120 rfl ?_
  exact hret 121 _ _ _ _ _ _ _ dL_changes_121 hW rfl rfl (by decide) (by decide)
set_option maxRecDepth 100000 in
theorem wchanges_3_k (l : Launch) (D : va_G) (c : Nat → ClassId) (o : Nat) (f : Nat → Nat) (sz : Nat) (wd w1 : va_W) (b0 : Nat) {fs : List Value} (p0 p1 p2 : Int32) (r : Nat) (he : wd[0]? = some (b0, .inr (2, fs))) (hM : MI3 l yX2_vanes wsX2_vanes rmX2_vanes D c sz wd [.ref b0, .int p0] (nI r) w1) : MW l yL_changes wsL_changes rmL_changes D c sz (wd ++ wI c o f) [.ref b0, .int (nI 3), .int p0, .int p1, .int p2, .ref o] (nI 0) (w1 ++ wI c o (fu f 0 r)) := by
  refine MW.ofH (cc := cL_changes) (maxL := 7) (hh := [(0, 111, 114, 38), (0, 111, 118, 40), (0, 111, 122, 42)]) (by decide) rfl (Nat.le_of_ble_eq_true rfl) ?_
  intro P e s m below meth cd A Q ls hsz S hK hN hSt hV htab hW hA hl hret
  subst hsz
  have hl : lv_has ls 7 [(0, .ref b0), (1, .int (nI 3)), (2, .int p0), (3, .int p1), (4, .int p2), (5, .ref o)] := hl
  refine lv_aload S.1 S.2.1 dL_changes_0 (lv_at hl 5 rfl) ?_
  refine lv_iconst (v := nI 0) S.1 S.2.1 dL_changes_2 rfl ?_
  refine lv_iload_n S.1 S.2.1 dL_changes_3 rfl (lv_at hl 1 rfl) ?_
  refine kz_ne S (tgt := 18) dL_changes_4 (by decide) (by decide) (fun _ => ?_) (fun q => absurd q (by decide))
  refine lv_iload_n S.1 S.2.1 dL_changes_18 rfl (lv_at hl 1 rfl) ?_
  refine lv_iconst (v := nI 1) S.1 S.2.1 dL_changes_19 rfl ?_
  refine kn_ne S (tgt := 38) dL_changes_20 (by decide) (by decide) (by decide) (fun _ => ?_) (fun q => absurd q (by decide))
  refine lv_iload_n S.1 S.2.1 dL_changes_38 rfl (lv_at hl 1 rfl) ?_
  refine lv_iconst (v := nI 2) S.1 S.2.1 dL_changes_39 rfl ?_
  refine kn_ne S (tgt := 51) dL_changes_40 (by decide) (by decide) (by decide) (fun _ => ?_) (fun q => absurd q (by decide))
  refine lv_iload_n S.1 S.2.1 dL_changes_51 rfl (lv_at hl 1 rfl) ?_
  refine lv_iconst (v := nI 3) S.1 S.2.1 dL_changes_52 rfl ?_
  refine kn_ne S (tgt := 64) dL_changes_53 (by decide) (by decide) (by decide) (fun q => absurd rfl q) (fun _ => ?_)
  refine lv_aload_n S.1 S.2.1 dL_changes_56 rfl (lv_at hl 0 rfl) ?_
  refine lv_iload_n S.1 S.2.1 dL_changes_57 rfl (lv_at hl 2 rfl) ?_
  refine k_VI3 (rest := [.int (nI 0), .ref o]) S hK hl.1 hW (KFr.lft hW hA) hN hSt hV hM gL_changes_X2_vanes rfl pdX2_vanes ⟨⟨rfl, rfl⟩, Nat.le_of_ble_eq_true rfl, Nat.le_of_ble_eq_true rfl⟩ 0 2 he rfl rfl rfl (Nat.le_of_ble_eq_true rfl) dL_changes_58 ⟨Nat.le_of_ble_eq_true rfl, Nat.le_of_ble_eq_true rfl⟩ (fun H locs hW => ?_)
  refine lv_goto (tgt := 110) S.1 S.2.1 dL_changes_61 (by decide) ?_
  refine wi_tail (rest := []) S hK hW dL_changes_110 (fun H locs hW => ?_)
  refine lv_goto (tgt := 126) S.1 S.2.1 dL_changes_111 (by decide) ?_
  refine lv_iconst (v := nI 0) S.1 S.2.1 dL_changes_126 rfl ?_
  exact hret 127 _ _ _ _ _ _ _ dL_changes_127 hW rfl rfl (Nat.zero_le _) (Nat.zero_le _)
set_option maxRecDepth 100000 in
theorem wchanges_3_xA (l : Launch) (D : va_G) (c : Nat → ClassId) (o : Nat) (f : Nat → Nat) (sz : Nat) (wd w1 : va_W) (b0 : Nat) {fs : List Value} (p0 p1 p2 : Int32) (he : wd[0]? = some (b0, .inr (2, fs))) (hM : MX l yX2_vanes wsX2_vanes rmX2_vanes_x D c sz wd [.ref b0, .int p0] xA w1) : MW l yL_changes wsL_changes rmL_changes D c sz (wd ++ wI c o f) [.ref b0, .int (nI 3), .int p0, .int p1, .int p2, .ref o] (nI 2) (w1 ++ wI c o f) := by
  refine MW.ofH (cc := cL_changes) (maxL := 7) (hh := [(0, 111, 114, 38), (0, 111, 118, 40), (0, 111, 122, 42)]) (by decide) rfl (Nat.le_of_ble_eq_true rfl) ?_
  intro P e s m below meth cd A Q ls hsz S hK hN hSt hV htab hW hA hl hret
  subst hsz
  have hl : lv_has ls 7 [(0, .ref b0), (1, .int (nI 3)), (2, .int p0), (3, .int p1), (4, .int p2), (5, .ref o)] := hl
  refine lv_aload S.1 S.2.1 dL_changes_0 (lv_at hl 5 rfl) ?_
  refine lv_iconst (v := nI 0) S.1 S.2.1 dL_changes_2 rfl ?_
  refine lv_iload_n S.1 S.2.1 dL_changes_3 rfl (lv_at hl 1 rfl) ?_
  refine kz_ne S (tgt := 18) dL_changes_4 (by decide) (by decide) (fun _ => ?_) (fun q => absurd q (by decide))
  refine lv_iload_n S.1 S.2.1 dL_changes_18 rfl (lv_at hl 1 rfl) ?_
  refine lv_iconst (v := nI 1) S.1 S.2.1 dL_changes_19 rfl ?_
  refine kn_ne S (tgt := 38) dL_changes_20 (by decide) (by decide) (by decide) (fun _ => ?_) (fun q => absurd q (by decide))
  refine lv_iload_n S.1 S.2.1 dL_changes_38 rfl (lv_at hl 1 rfl) ?_
  refine lv_iconst (v := nI 2) S.1 S.2.1 dL_changes_39 rfl ?_
  refine kn_ne S (tgt := 51) dL_changes_40 (by decide) (by decide) (by decide) (fun _ => ?_) (fun q => absurd q (by decide))
  refine lv_iload_n S.1 S.2.1 dL_changes_51 rfl (lv_at hl 1 rfl) ?_
  refine lv_iconst (v := nI 3) S.1 S.2.1 dL_changes_52 rfl ?_
  refine kn_ne S (tgt := 64) dL_changes_53 (by decide) (by decide) (by decide) (fun q => absurd rfl q) (fun _ => ?_)
  refine lv_aload_n S.1 S.2.1 dL_changes_56 rfl (lv_at hl 0 rfl) ?_
  refine lv_iload_n S.1 S.2.1 dL_changes_57 rfl (lv_at hl 2 rfl) ?_
  refine k_VX (rest := [.int (nI 0), .ref o]) S hK hl.1 hW (KFr.lft hW hA) hN hSt hV hM gL_changes_X2_vanes rfl pdX2_vanes ⟨⟨rfl, rfl⟩, Nat.le_of_ble_eq_true rfl, Nat.le_of_ble_eq_true rfl⟩ 0 2 he rfl rfl rfl (Nat.le_of_ble_eq_true rfl) dL_changes_58 ⟨Nat.le_of_ble_eq_true rfl, Nat.le_of_ble_eq_true rfl⟩ (fun q9 ce H locs hW hq9 hv9 hcl => ?_)
  refine vx_catch (name := xA) S.2.2.2.1 [_] _ _ (htab.trans rfl) (fun z hz => by rw [List.mem_singleton.mp hz]; exact Or.inr ⟨by decide, xI, S.2.2.2.2 (.classLink RL 38 xI) (List.mem_of_getElem? (i := 1) rfl), hSt.2.1.2.1⟩) rfl (by decide) (S.2.2.2.2 (.classLink RL 40 xA) (List.mem_of_getElem? (i := 2) rfl)) (xcast (ik := _) (ic := _) (Or.inr (Or.inr ⟨rfl, rfl, rfl⟩)) hSt _) hq9 hv9 hcl ?_
  refine lv_astore S.1 S.2.1 dL_changes_118 hl (by decide) rfl (fun ls hl => ?_)
  refine lv_iconst (v := nI 2) S.1 S.2.1 dL_changes_120 rfl ?_
  exact hret 121 _ _ _ _ _ _ _ dL_changes_121 hW rfl rfl (by decide) (by decide)
set_option maxRecDepth 100000 in
theorem wchanges_4_k (l : Launch) (D : va_G) (c : Nat → ClassId) (o : Nat) (f : Nat → Nat) (sz : Nat) (wd w1 : va_W) (b0 : Nat) {fs : List Value} (p0 p1 p2 : Int32) (r : Nat) (he : wd[0]? = some (b0, .inr (2, fs))) (hM : MI3 l yX2_shift wsX2_shift rmX2_shift D c sz wd [.ref b0, .int p0] (nI r) w1) : MW l yL_changes wsL_changes rmL_changes D c sz (wd ++ wI c o f) [.ref b0, .int (nI 4), .int p0, .int p1, .int p2, .ref o] (nI 0) (w1 ++ wI c o (fu f 0 r)) := by
  refine MW.ofH (cc := cL_changes) (maxL := 7) (hh := [(0, 111, 114, 38), (0, 111, 118, 40), (0, 111, 122, 42)]) (by decide) rfl (Nat.le_of_ble_eq_true rfl) ?_
  intro P e s m below meth cd A Q ls hsz S hK hN hSt hV htab hW hA hl hret
  subst hsz
  have hl : lv_has ls 7 [(0, .ref b0), (1, .int (nI 4)), (2, .int p0), (3, .int p1), (4, .int p2), (5, .ref o)] := hl
  refine lv_aload S.1 S.2.1 dL_changes_0 (lv_at hl 5 rfl) ?_
  refine lv_iconst (v := nI 0) S.1 S.2.1 dL_changes_2 rfl ?_
  refine lv_iload_n S.1 S.2.1 dL_changes_3 rfl (lv_at hl 1 rfl) ?_
  refine kz_ne S (tgt := 18) dL_changes_4 (by decide) (by decide) (fun _ => ?_) (fun q => absurd q (by decide))
  refine lv_iload_n S.1 S.2.1 dL_changes_18 rfl (lv_at hl 1 rfl) ?_
  refine lv_iconst (v := nI 1) S.1 S.2.1 dL_changes_19 rfl ?_
  refine kn_ne S (tgt := 38) dL_changes_20 (by decide) (by decide) (by decide) (fun _ => ?_) (fun q => absurd q (by decide))
  refine lv_iload_n S.1 S.2.1 dL_changes_38 rfl (lv_at hl 1 rfl) ?_
  refine lv_iconst (v := nI 2) S.1 S.2.1 dL_changes_39 rfl ?_
  refine kn_ne S (tgt := 51) dL_changes_40 (by decide) (by decide) (by decide) (fun _ => ?_) (fun q => absurd q (by decide))
  refine lv_iload_n S.1 S.2.1 dL_changes_51 rfl (lv_at hl 1 rfl) ?_
  refine lv_iconst (v := nI 3) S.1 S.2.1 dL_changes_52 rfl ?_
  refine kn_ne S (tgt := 64) dL_changes_53 (by decide) (by decide) (by decide) (fun _ => ?_) (fun q => absurd q (by decide))
  refine lv_iload_n S.1 S.2.1 dL_changes_64 rfl (lv_at hl 1 rfl) ?_
  refine lv_iconst (v := nI 4) S.1 S.2.1 dL_changes_65 rfl ?_
  refine kn_ne S (tgt := 77) dL_changes_66 (by decide) (by decide) (by decide) (fun q => absurd rfl q) (fun _ => ?_)
  refine lv_aload_n S.1 S.2.1 dL_changes_69 rfl (lv_at hl 0 rfl) ?_
  refine lv_iload_n S.1 S.2.1 dL_changes_70 rfl (lv_at hl 2 rfl) ?_
  refine k_VI3 (rest := [.int (nI 0), .ref o]) S hK hl.1 hW (KFr.lft hW hA) hN hSt hV hM gL_changes_X2_shift rfl pdX2_shift ⟨⟨rfl, rfl⟩, Nat.le_of_ble_eq_true rfl, Nat.le_of_ble_eq_true rfl⟩ 0 2 he rfl rfl rfl (Nat.le_of_ble_eq_true rfl) dL_changes_71 ⟨Nat.le_of_ble_eq_true rfl, Nat.le_of_ble_eq_true rfl⟩ (fun H locs hW => ?_)
  refine lv_goto (tgt := 110) S.1 S.2.1 dL_changes_74 (by decide) ?_
  refine wi_tail (rest := []) S hK hW dL_changes_110 (fun H locs hW => ?_)
  refine lv_goto (tgt := 126) S.1 S.2.1 dL_changes_111 (by decide) ?_
  refine lv_iconst (v := nI 0) S.1 S.2.1 dL_changes_126 rfl ?_
  exact hret 127 _ _ _ _ _ _ _ dL_changes_127 hW rfl rfl (Nat.zero_le _) (Nat.zero_le _)
set_option maxRecDepth 100000 in
theorem wchanges_4_xI (l : Launch) (D : va_G) (c : Nat → ClassId) (o : Nat) (f : Nat → Nat) (sz : Nat) (wd w1 : va_W) (b0 : Nat) {fs : List Value} (p0 p1 p2 : Int32) (he : wd[0]? = some (b0, .inr (2, fs))) (hM : MX l yX2_shift wsX2_shift rmX2_shift_x D c sz wd [.ref b0, .int p0] xI w1) : MW l yL_changes wsL_changes rmL_changes D c sz (wd ++ wI c o f) [.ref b0, .int (nI 4), .int p0, .int p1, .int p2, .ref o] (nI 1) (w1 ++ wI c o f) := by
  refine MW.ofH (cc := cL_changes) (maxL := 7) (hh := [(0, 111, 114, 38), (0, 111, 118, 40), (0, 111, 122, 42)]) (by decide) rfl (Nat.le_of_ble_eq_true rfl) ?_
  intro P e s m below meth cd A Q ls hsz S hK hN hSt hV htab hW hA hl hret
  subst hsz
  have hl : lv_has ls 7 [(0, .ref b0), (1, .int (nI 4)), (2, .int p0), (3, .int p1), (4, .int p2), (5, .ref o)] := hl
  refine lv_aload S.1 S.2.1 dL_changes_0 (lv_at hl 5 rfl) ?_
  refine lv_iconst (v := nI 0) S.1 S.2.1 dL_changes_2 rfl ?_
  refine lv_iload_n S.1 S.2.1 dL_changes_3 rfl (lv_at hl 1 rfl) ?_
  refine kz_ne S (tgt := 18) dL_changes_4 (by decide) (by decide) (fun _ => ?_) (fun q => absurd q (by decide))
  refine lv_iload_n S.1 S.2.1 dL_changes_18 rfl (lv_at hl 1 rfl) ?_
  refine lv_iconst (v := nI 1) S.1 S.2.1 dL_changes_19 rfl ?_
  refine kn_ne S (tgt := 38) dL_changes_20 (by decide) (by decide) (by decide) (fun _ => ?_) (fun q => absurd q (by decide))
  refine lv_iload_n S.1 S.2.1 dL_changes_38 rfl (lv_at hl 1 rfl) ?_
  refine lv_iconst (v := nI 2) S.1 S.2.1 dL_changes_39 rfl ?_
  refine kn_ne S (tgt := 51) dL_changes_40 (by decide) (by decide) (by decide) (fun _ => ?_) (fun q => absurd q (by decide))
  refine lv_iload_n S.1 S.2.1 dL_changes_51 rfl (lv_at hl 1 rfl) ?_
  refine lv_iconst (v := nI 3) S.1 S.2.1 dL_changes_52 rfl ?_
  refine kn_ne S (tgt := 64) dL_changes_53 (by decide) (by decide) (by decide) (fun _ => ?_) (fun q => absurd q (by decide))
  refine lv_iload_n S.1 S.2.1 dL_changes_64 rfl (lv_at hl 1 rfl) ?_
  refine lv_iconst (v := nI 4) S.1 S.2.1 dL_changes_65 rfl ?_
  refine kn_ne S (tgt := 77) dL_changes_66 (by decide) (by decide) (by decide) (fun q => absurd rfl q) (fun _ => ?_)
  refine lv_aload_n S.1 S.2.1 dL_changes_69 rfl (lv_at hl 0 rfl) ?_
  refine lv_iload_n S.1 S.2.1 dL_changes_70 rfl (lv_at hl 2 rfl) ?_
  refine k_VX (rest := [.int (nI 0), .ref o]) S hK hl.1 hW (KFr.lft hW hA) hN hSt hV hM gL_changes_X2_shift rfl pdX2_shift ⟨⟨rfl, rfl⟩, Nat.le_of_ble_eq_true rfl, Nat.le_of_ble_eq_true rfl⟩ 0 2 he rfl rfl rfl (Nat.le_of_ble_eq_true rfl) dL_changes_71 ⟨Nat.le_of_ble_eq_true rfl, Nat.le_of_ble_eq_true rfl⟩ (fun q9 ce H locs hW hq9 hv9 hcl => ?_)
  refine vx_catch (name := xI) S.2.2.2.1 [] _ _ (htab.trans rfl) (fun z hz => by cases hz) rfl (by decide) (S.2.2.2.2 (.classLink RL 38 xI) (List.mem_of_getElem? (i := 1) rfl)) (xcast (ik := _) (ic := _) (Or.inl ⟨rfl, rfl, rfl⟩) hSt _) hq9 hv9 hcl ?_
  refine lv_astore S.1 S.2.1 dL_changes_114 hl (by decide) rfl (fun ls hl => ?_)
  refine lv_iconst (v := nI 1) S.1 S.2.1 dL_changes_116 rfl ?_
  exact hret 117 _ _ _ _ _ _ _ dL_changes_117 hW rfl rfl (by decide) (by decide)
set_option maxRecDepth 100000 in
theorem wchanges_5_k (l : Launch) (D : va_G) (c : Nat → ClassId) (o : Nat) (f : Nat → Nat) (sz : Nat) (wd w1 : va_W) (b0 : Nat) {fs : List Value} (p0 p1 p2 : Int32) (r : Nat) (he : wd[0]? = some (b0, .inr (2, fs))) (hM : MI3 l yX2_play wsX2_play rmX2_play D c sz wd [.ref b0, .int p0] (nI r) w1) : MW l yL_changes wsL_changes rmL_changes D c sz (wd ++ wI c o f) [.ref b0, .int (nI 5), .int p0, .int p1, .int p2, .ref o] (nI 0) (w1 ++ wI c o (fu f 0 r)) := by
  refine MW.ofH (cc := cL_changes) (maxL := 7) (hh := [(0, 111, 114, 38), (0, 111, 118, 40), (0, 111, 122, 42)]) (by decide) rfl (Nat.le_of_ble_eq_true rfl) ?_
  intro P e s m below meth cd A Q ls hsz S hK hN hSt hV htab hW hA hl hret
  subst hsz
  have hl : lv_has ls 7 [(0, .ref b0), (1, .int (nI 5)), (2, .int p0), (3, .int p1), (4, .int p2), (5, .ref o)] := hl
  refine lv_aload S.1 S.2.1 dL_changes_0 (lv_at hl 5 rfl) ?_
  refine lv_iconst (v := nI 0) S.1 S.2.1 dL_changes_2 rfl ?_
  refine lv_iload_n S.1 S.2.1 dL_changes_3 rfl (lv_at hl 1 rfl) ?_
  refine kz_ne S (tgt := 18) dL_changes_4 (by decide) (by decide) (fun _ => ?_) (fun q => absurd q (by decide))
  refine lv_iload_n S.1 S.2.1 dL_changes_18 rfl (lv_at hl 1 rfl) ?_
  refine lv_iconst (v := nI 1) S.1 S.2.1 dL_changes_19 rfl ?_
  refine kn_ne S (tgt := 38) dL_changes_20 (by decide) (by decide) (by decide) (fun _ => ?_) (fun q => absurd q (by decide))
  refine lv_iload_n S.1 S.2.1 dL_changes_38 rfl (lv_at hl 1 rfl) ?_
  refine lv_iconst (v := nI 2) S.1 S.2.1 dL_changes_39 rfl ?_
  refine kn_ne S (tgt := 51) dL_changes_40 (by decide) (by decide) (by decide) (fun _ => ?_) (fun q => absurd q (by decide))
  refine lv_iload_n S.1 S.2.1 dL_changes_51 rfl (lv_at hl 1 rfl) ?_
  refine lv_iconst (v := nI 3) S.1 S.2.1 dL_changes_52 rfl ?_
  refine kn_ne S (tgt := 64) dL_changes_53 (by decide) (by decide) (by decide) (fun _ => ?_) (fun q => absurd q (by decide))
  refine lv_iload_n S.1 S.2.1 dL_changes_64 rfl (lv_at hl 1 rfl) ?_
  refine lv_iconst (v := nI 4) S.1 S.2.1 dL_changes_65 rfl ?_
  refine kn_ne S (tgt := 77) dL_changes_66 (by decide) (by decide) (by decide) (fun _ => ?_) (fun q => absurd q (by decide))
  refine lv_iload_n S.1 S.2.1 dL_changes_77 rfl (lv_at hl 1 rfl) ?_
  refine lv_iconst (v := nI 5) S.1 S.2.1 dL_changes_78 rfl ?_
  refine kn_ne S (tgt := 90) dL_changes_79 (by decide) (by decide) (by decide) (fun q => absurd rfl q) (fun _ => ?_)
  refine lv_aload_n S.1 S.2.1 dL_changes_82 rfl (lv_at hl 0 rfl) ?_
  refine lv_iload_n S.1 S.2.1 dL_changes_83 rfl (lv_at hl 2 rfl) ?_
  refine k_VI3 (rest := [.int (nI 0), .ref o]) S hK hl.1 hW (KFr.lft hW hA) hN hSt hV hM gL_changes_X2_play rfl pdX2_play ⟨⟨rfl, rfl⟩, Nat.le_of_ble_eq_true rfl, Nat.le_of_ble_eq_true rfl⟩ 0 2 he rfl rfl rfl (Nat.le_of_ble_eq_true rfl) dL_changes_84 ⟨Nat.le_of_ble_eq_true rfl, Nat.le_of_ble_eq_true rfl⟩ (fun H locs hW => ?_)
  refine lv_goto (tgt := 110) S.1 S.2.1 dL_changes_87 (by decide) ?_
  refine wi_tail (rest := []) S hK hW dL_changes_110 (fun H locs hW => ?_)
  refine lv_goto (tgt := 126) S.1 S.2.1 dL_changes_111 (by decide) ?_
  refine lv_iconst (v := nI 0) S.1 S.2.1 dL_changes_126 rfl ?_
  exact hret 127 _ _ _ _ _ _ _ dL_changes_127 hW rfl rfl (Nat.zero_le _) (Nat.zero_le _)
set_option maxRecDepth 100000 in
theorem wchanges_5_xA (l : Launch) (D : va_G) (c : Nat → ClassId) (o : Nat) (f : Nat → Nat) (sz : Nat) (wd w1 : va_W) (b0 : Nat) {fs : List Value} (p0 p1 p2 : Int32) (he : wd[0]? = some (b0, .inr (2, fs))) (hM : MX l yX2_play wsX2_play rmX2_play_x D c sz wd [.ref b0, .int p0] xA w1) : MW l yL_changes wsL_changes rmL_changes D c sz (wd ++ wI c o f) [.ref b0, .int (nI 5), .int p0, .int p1, .int p2, .ref o] (nI 2) (w1 ++ wI c o f) := by
  refine MW.ofH (cc := cL_changes) (maxL := 7) (hh := [(0, 111, 114, 38), (0, 111, 118, 40), (0, 111, 122, 42)]) (by decide) rfl (Nat.le_of_ble_eq_true rfl) ?_
  intro P e s m below meth cd A Q ls hsz S hK hN hSt hV htab hW hA hl hret
  subst hsz
  have hl : lv_has ls 7 [(0, .ref b0), (1, .int (nI 5)), (2, .int p0), (3, .int p1), (4, .int p2), (5, .ref o)] := hl
  refine lv_aload S.1 S.2.1 dL_changes_0 (lv_at hl 5 rfl) ?_
  refine lv_iconst (v := nI 0) S.1 S.2.1 dL_changes_2 rfl ?_
  refine lv_iload_n S.1 S.2.1 dL_changes_3 rfl (lv_at hl 1 rfl) ?_
  refine kz_ne S (tgt := 18) dL_changes_4 (by decide) (by decide) (fun _ => ?_) (fun q => absurd q (by decide))
  refine lv_iload_n S.1 S.2.1 dL_changes_18 rfl (lv_at hl 1 rfl) ?_
  refine lv_iconst (v := nI 1) S.1 S.2.1 dL_changes_19 rfl ?_
  refine kn_ne S (tgt := 38) dL_changes_20 (by decide) (by decide) (by decide) (fun _ => ?_) (fun q => absurd q (by decide))
  refine lv_iload_n S.1 S.2.1 dL_changes_38 rfl (lv_at hl 1 rfl) ?_
  refine lv_iconst (v := nI 2) S.1 S.2.1 dL_changes_39 rfl ?_
  refine kn_ne S (tgt := 51) dL_changes_40 (by decide) (by decide) (by decide) (fun _ => ?_) (fun q => absurd q (by decide))
  refine lv_iload_n S.1 S.2.1 dL_changes_51 rfl (lv_at hl 1 rfl) ?_
  refine lv_iconst (v := nI 3) S.1 S.2.1 dL_changes_52 rfl ?_
  refine kn_ne S (tgt := 64) dL_changes_53 (by decide) (by decide) (by decide) (fun _ => ?_) (fun q => absurd q (by decide))
  refine lv_iload_n S.1 S.2.1 dL_changes_64 rfl (lv_at hl 1 rfl) ?_
  refine lv_iconst (v := nI 4) S.1 S.2.1 dL_changes_65 rfl ?_
  refine kn_ne S (tgt := 77) dL_changes_66 (by decide) (by decide) (by decide) (fun _ => ?_) (fun q => absurd q (by decide))
  refine lv_iload_n S.1 S.2.1 dL_changes_77 rfl (lv_at hl 1 rfl) ?_
  refine lv_iconst (v := nI 5) S.1 S.2.1 dL_changes_78 rfl ?_
  refine kn_ne S (tgt := 90) dL_changes_79 (by decide) (by decide) (by decide) (fun q => absurd rfl q) (fun _ => ?_)
  refine lv_aload_n S.1 S.2.1 dL_changes_82 rfl (lv_at hl 0 rfl) ?_
  refine lv_iload_n S.1 S.2.1 dL_changes_83 rfl (lv_at hl 2 rfl) ?_
  refine k_VX (rest := [.int (nI 0), .ref o]) S hK hl.1 hW (KFr.lft hW hA) hN hSt hV hM gL_changes_X2_play rfl pdX2_play ⟨⟨rfl, rfl⟩, Nat.le_of_ble_eq_true rfl, Nat.le_of_ble_eq_true rfl⟩ 0 2 he rfl rfl rfl (Nat.le_of_ble_eq_true rfl) dL_changes_84 ⟨Nat.le_of_ble_eq_true rfl, Nat.le_of_ble_eq_true rfl⟩ (fun q9 ce H locs hW hq9 hv9 hcl => ?_)
  refine vx_catch (name := xA) S.2.2.2.1 [_] _ _ (htab.trans rfl) (fun z hz => by rw [List.mem_singleton.mp hz]; exact Or.inr ⟨by decide, xI, S.2.2.2.2 (.classLink RL 38 xI) (List.mem_of_getElem? (i := 1) rfl), hSt.2.1.2.1⟩) rfl (by decide) (S.2.2.2.2 (.classLink RL 40 xA) (List.mem_of_getElem? (i := 2) rfl)) (xcast (ik := _) (ic := _) (Or.inr (Or.inr ⟨rfl, rfl, rfl⟩)) hSt _) hq9 hv9 hcl ?_
  refine lv_astore S.1 S.2.1 dL_changes_118 hl (by decide) rfl (fun ls hl => ?_)
  refine lv_iconst (v := nI 2) S.1 S.2.1 dL_changes_120 rfl ?_
  exact hret 121 _ _ _ _ _ _ _ dL_changes_121 hW rfl rfl (by decide) (by decide)
set_option maxRecDepth 100000 in
theorem wchanges_6_k (l : Launch) (D : va_G) (c : Nat → ClassId) (o : Nat) (f : Nat → Nat) (sz : Nat) (wd w1 : va_W) (b0 : Nat) {fs : List Value} (p0 p1 p2 : Int32) (r : Nat) (he : wd[0]? = some (b0, .inr (2, fs))) (hM : MI3 l yX2_mend wsX2_mend rmX2_mend D c sz wd [.ref b0, .int p0] (nI r) w1) : MW l yL_changes wsL_changes rmL_changes D c sz (wd ++ wI c o f) [.ref b0, .int (nI 6), .int p0, .int p1, .int p2, .ref o] (nI 0) (w1 ++ wI c o (fu f 0 r)) := by
  refine MW.ofH (cc := cL_changes) (maxL := 7) (hh := [(0, 111, 114, 38), (0, 111, 118, 40), (0, 111, 122, 42)]) (by decide) rfl (Nat.le_of_ble_eq_true rfl) ?_
  intro P e s m below meth cd A Q ls hsz S hK hN hSt hV htab hW hA hl hret
  subst hsz
  have hl : lv_has ls 7 [(0, .ref b0), (1, .int (nI 6)), (2, .int p0), (3, .int p1), (4, .int p2), (5, .ref o)] := hl
  refine lv_aload S.1 S.2.1 dL_changes_0 (lv_at hl 5 rfl) ?_
  refine lv_iconst (v := nI 0) S.1 S.2.1 dL_changes_2 rfl ?_
  refine lv_iload_n S.1 S.2.1 dL_changes_3 rfl (lv_at hl 1 rfl) ?_
  refine kz_ne S (tgt := 18) dL_changes_4 (by decide) (by decide) (fun _ => ?_) (fun q => absurd q (by decide))
  refine lv_iload_n S.1 S.2.1 dL_changes_18 rfl (lv_at hl 1 rfl) ?_
  refine lv_iconst (v := nI 1) S.1 S.2.1 dL_changes_19 rfl ?_
  refine kn_ne S (tgt := 38) dL_changes_20 (by decide) (by decide) (by decide) (fun _ => ?_) (fun q => absurd q (by decide))
  refine lv_iload_n S.1 S.2.1 dL_changes_38 rfl (lv_at hl 1 rfl) ?_
  refine lv_iconst (v := nI 2) S.1 S.2.1 dL_changes_39 rfl ?_
  refine kn_ne S (tgt := 51) dL_changes_40 (by decide) (by decide) (by decide) (fun _ => ?_) (fun q => absurd q (by decide))
  refine lv_iload_n S.1 S.2.1 dL_changes_51 rfl (lv_at hl 1 rfl) ?_
  refine lv_iconst (v := nI 3) S.1 S.2.1 dL_changes_52 rfl ?_
  refine kn_ne S (tgt := 64) dL_changes_53 (by decide) (by decide) (by decide) (fun _ => ?_) (fun q => absurd q (by decide))
  refine lv_iload_n S.1 S.2.1 dL_changes_64 rfl (lv_at hl 1 rfl) ?_
  refine lv_iconst (v := nI 4) S.1 S.2.1 dL_changes_65 rfl ?_
  refine kn_ne S (tgt := 77) dL_changes_66 (by decide) (by decide) (by decide) (fun _ => ?_) (fun q => absurd q (by decide))
  refine lv_iload_n S.1 S.2.1 dL_changes_77 rfl (lv_at hl 1 rfl) ?_
  refine lv_iconst (v := nI 5) S.1 S.2.1 dL_changes_78 rfl ?_
  refine kn_ne S (tgt := 90) dL_changes_79 (by decide) (by decide) (by decide) (fun _ => ?_) (fun q => absurd q (by decide))
  refine lv_iload_n S.1 S.2.1 dL_changes_90 rfl (lv_at hl 1 rfl) ?_
  refine lv_bipush (v := nI 6) S.1 S.2.1 dL_changes_91 rfl ?_
  refine kn_ne S (tgt := 104) dL_changes_93 (by decide) (by decide) (by decide) (fun q => absurd rfl q) (fun _ => ?_)
  refine lv_aload_n S.1 S.2.1 dL_changes_96 rfl (lv_at hl 0 rfl) ?_
  refine lv_iload_n S.1 S.2.1 dL_changes_97 rfl (lv_at hl 2 rfl) ?_
  refine k_VI3 (rest := [.int (nI 0), .ref o]) S hK hl.1 hW (KFr.lft hW hA) hN hSt hV hM gL_changes_X2_mend rfl pdX2_mend ⟨⟨rfl, rfl⟩, Nat.le_of_ble_eq_true rfl, Nat.le_of_ble_eq_true rfl⟩ 0 2 he rfl rfl rfl (Nat.le_of_ble_eq_true rfl) dL_changes_98 ⟨Nat.le_of_ble_eq_true rfl, Nat.le_of_ble_eq_true rfl⟩ (fun H locs hW => ?_)
  refine lv_goto (tgt := 110) S.1 S.2.1 dL_changes_101 (by decide) ?_
  refine wi_tail (rest := []) S hK hW dL_changes_110 (fun H locs hW => ?_)
  refine lv_goto (tgt := 126) S.1 S.2.1 dL_changes_111 (by decide) ?_
  refine lv_iconst (v := nI 0) S.1 S.2.1 dL_changes_126 rfl ?_
  exact hret 127 _ _ _ _ _ _ _ dL_changes_127 hW rfl rfl (Nat.zero_le _) (Nat.zero_le _)
set_option maxRecDepth 100000 in
theorem wchanges_6_xI (l : Launch) (D : va_G) (c : Nat → ClassId) (o : Nat) (f : Nat → Nat) (sz : Nat) (wd w1 : va_W) (b0 : Nat) {fs : List Value} (p0 p1 p2 : Int32) (he : wd[0]? = some (b0, .inr (2, fs))) (hM : MX l yX2_mend wsX2_mend rmX2_mend_x D c sz wd [.ref b0, .int p0] xI w1) : MW l yL_changes wsL_changes rmL_changes D c sz (wd ++ wI c o f) [.ref b0, .int (nI 6), .int p0, .int p1, .int p2, .ref o] (nI 1) (w1 ++ wI c o f) := by
  refine MW.ofH (cc := cL_changes) (maxL := 7) (hh := [(0, 111, 114, 38), (0, 111, 118, 40), (0, 111, 122, 42)]) (by decide) rfl (Nat.le_of_ble_eq_true rfl) ?_
  intro P e s m below meth cd A Q ls hsz S hK hN hSt hV htab hW hA hl hret
  subst hsz
  have hl : lv_has ls 7 [(0, .ref b0), (1, .int (nI 6)), (2, .int p0), (3, .int p1), (4, .int p2), (5, .ref o)] := hl
  refine lv_aload S.1 S.2.1 dL_changes_0 (lv_at hl 5 rfl) ?_
  refine lv_iconst (v := nI 0) S.1 S.2.1 dL_changes_2 rfl ?_
  refine lv_iload_n S.1 S.2.1 dL_changes_3 rfl (lv_at hl 1 rfl) ?_
  refine kz_ne S (tgt := 18) dL_changes_4 (by decide) (by decide) (fun _ => ?_) (fun q => absurd q (by decide))
  refine lv_iload_n S.1 S.2.1 dL_changes_18 rfl (lv_at hl 1 rfl) ?_
  refine lv_iconst (v := nI 1) S.1 S.2.1 dL_changes_19 rfl ?_
  refine kn_ne S (tgt := 38) dL_changes_20 (by decide) (by decide) (by decide) (fun _ => ?_) (fun q => absurd q (by decide))
  refine lv_iload_n S.1 S.2.1 dL_changes_38 rfl (lv_at hl 1 rfl) ?_
  refine lv_iconst (v := nI 2) S.1 S.2.1 dL_changes_39 rfl ?_
  refine kn_ne S (tgt := 51) dL_changes_40 (by decide) (by decide) (by decide) (fun _ => ?_) (fun q => absurd q (by decide))
  refine lv_iload_n S.1 S.2.1 dL_changes_51 rfl (lv_at hl 1 rfl) ?_
  refine lv_iconst (v := nI 3) S.1 S.2.1 dL_changes_52 rfl ?_
  refine kn_ne S (tgt := 64) dL_changes_53 (by decide) (by decide) (by decide) (fun _ => ?_) (fun q => absurd q (by decide))
  refine lv_iload_n S.1 S.2.1 dL_changes_64 rfl (lv_at hl 1 rfl) ?_
  refine lv_iconst (v := nI 4) S.1 S.2.1 dL_changes_65 rfl ?_
  refine kn_ne S (tgt := 77) dL_changes_66 (by decide) (by decide) (by decide) (fun _ => ?_) (fun q => absurd q (by decide))
  refine lv_iload_n S.1 S.2.1 dL_changes_77 rfl (lv_at hl 1 rfl) ?_
  refine lv_iconst (v := nI 5) S.1 S.2.1 dL_changes_78 rfl ?_
  refine kn_ne S (tgt := 90) dL_changes_79 (by decide) (by decide) (by decide) (fun _ => ?_) (fun q => absurd q (by decide))
  refine lv_iload_n S.1 S.2.1 dL_changes_90 rfl (lv_at hl 1 rfl) ?_
  refine lv_bipush (v := nI 6) S.1 S.2.1 dL_changes_91 rfl ?_
  refine kn_ne S (tgt := 104) dL_changes_93 (by decide) (by decide) (by decide) (fun q => absurd rfl q) (fun _ => ?_)
  refine lv_aload_n S.1 S.2.1 dL_changes_96 rfl (lv_at hl 0 rfl) ?_
  refine lv_iload_n S.1 S.2.1 dL_changes_97 rfl (lv_at hl 2 rfl) ?_
  refine k_VX (rest := [.int (nI 0), .ref o]) S hK hl.1 hW (KFr.lft hW hA) hN hSt hV hM gL_changes_X2_mend rfl pdX2_mend ⟨⟨rfl, rfl⟩, Nat.le_of_ble_eq_true rfl, Nat.le_of_ble_eq_true rfl⟩ 0 2 he rfl rfl rfl (Nat.le_of_ble_eq_true rfl) dL_changes_98 ⟨Nat.le_of_ble_eq_true rfl, Nat.le_of_ble_eq_true rfl⟩ (fun q9 ce H locs hW hq9 hv9 hcl => ?_)
  refine vx_catch (name := xI) S.2.2.2.1 [] _ _ (htab.trans rfl) (fun z hz => by cases hz) rfl (by decide) (S.2.2.2.2 (.classLink RL 38 xI) (List.mem_of_getElem? (i := 1) rfl)) (xcast (ik := _) (ic := _) (Or.inl ⟨rfl, rfl, rfl⟩) hSt _) hq9 hv9 hcl ?_
  refine lv_astore S.1 S.2.1 dL_changes_114 hl (by decide) rfl (fun ls hl => ?_)
  refine lv_iconst (v := nI 1) S.1 S.2.1 dL_changes_116 rfl ?_
  exact hret 117 _ _ _ _ _ _ _ dL_changes_117 hW rfl rfl (by decide) (by decide)
set_option maxRecDepth 100000 in
theorem wchanges_7_k (l : Launch) (D : va_G) (c : Nat → ClassId) (o : Nat) (f : Nat → Nat) (sz : Nat) (wd w1 : va_W) (b0 : Nat) {fs : List Value} (p0 p1 p2 : Int32) (r : Nat) (he : wd[0]? = some (b0, .inr (2, fs))) (hM : MI3 l yX2_set wsX2_set rmX2_set D c sz wd [.ref b0, .int p0, .int p1] (nI r) w1) : MW l yL_changes wsL_changes rmL_changes D c sz (wd ++ wI c o f) [.ref b0, .int (nI 7), .int p0, .int p1, .int p2, .ref o] (nI 0) (w1 ++ wI c o (fu f 0 r)) := by
  refine MW.ofH (cc := cL_changes) (maxL := 7) (hh := [(0, 111, 114, 38), (0, 111, 118, 40), (0, 111, 122, 42)]) (by decide) rfl (Nat.le_of_ble_eq_true rfl) ?_
  intro P e s m below meth cd A Q ls hsz S hK hN hSt hV htab hW hA hl hret
  subst hsz
  have hl : lv_has ls 7 [(0, .ref b0), (1, .int (nI 7)), (2, .int p0), (3, .int p1), (4, .int p2), (5, .ref o)] := hl
  refine lv_aload S.1 S.2.1 dL_changes_0 (lv_at hl 5 rfl) ?_
  refine lv_iconst (v := nI 0) S.1 S.2.1 dL_changes_2 rfl ?_
  refine lv_iload_n S.1 S.2.1 dL_changes_3 rfl (lv_at hl 1 rfl) ?_
  refine kz_ne S (tgt := 18) dL_changes_4 (by decide) (by decide) (fun _ => ?_) (fun q => absurd q (by decide))
  refine lv_iload_n S.1 S.2.1 dL_changes_18 rfl (lv_at hl 1 rfl) ?_
  refine lv_iconst (v := nI 1) S.1 S.2.1 dL_changes_19 rfl ?_
  refine kn_ne S (tgt := 38) dL_changes_20 (by decide) (by decide) (by decide) (fun _ => ?_) (fun q => absurd q (by decide))
  refine lv_iload_n S.1 S.2.1 dL_changes_38 rfl (lv_at hl 1 rfl) ?_
  refine lv_iconst (v := nI 2) S.1 S.2.1 dL_changes_39 rfl ?_
  refine kn_ne S (tgt := 51) dL_changes_40 (by decide) (by decide) (by decide) (fun _ => ?_) (fun q => absurd q (by decide))
  refine lv_iload_n S.1 S.2.1 dL_changes_51 rfl (lv_at hl 1 rfl) ?_
  refine lv_iconst (v := nI 3) S.1 S.2.1 dL_changes_52 rfl ?_
  refine kn_ne S (tgt := 64) dL_changes_53 (by decide) (by decide) (by decide) (fun _ => ?_) (fun q => absurd q (by decide))
  refine lv_iload_n S.1 S.2.1 dL_changes_64 rfl (lv_at hl 1 rfl) ?_
  refine lv_iconst (v := nI 4) S.1 S.2.1 dL_changes_65 rfl ?_
  refine kn_ne S (tgt := 77) dL_changes_66 (by decide) (by decide) (by decide) (fun _ => ?_) (fun q => absurd q (by decide))
  refine lv_iload_n S.1 S.2.1 dL_changes_77 rfl (lv_at hl 1 rfl) ?_
  refine lv_iconst (v := nI 5) S.1 S.2.1 dL_changes_78 rfl ?_
  refine kn_ne S (tgt := 90) dL_changes_79 (by decide) (by decide) (by decide) (fun _ => ?_) (fun q => absurd q (by decide))
  refine lv_iload_n S.1 S.2.1 dL_changes_90 rfl (lv_at hl 1 rfl) ?_
  refine lv_bipush (v := nI 6) S.1 S.2.1 dL_changes_91 rfl ?_
  refine kn_ne S (tgt := 104) dL_changes_93 (by decide) (by decide) (by decide) (fun _ => ?_) (fun q => absurd q (by decide))
  refine lv_aload_n S.1 S.2.1 dL_changes_104 rfl (lv_at hl 0 rfl) ?_
  refine lv_iload_n S.1 S.2.1 dL_changes_105 rfl (lv_at hl 2 rfl) ?_
  refine lv_iload_n S.1 S.2.1 dL_changes_106 rfl (lv_at hl 3 rfl) ?_
  refine k_VI3 (rest := [.int (nI 0), .ref o]) S hK hl.1 hW (KFr.lft hW hA) hN hSt hV hM gL_changes_X2_set rfl pdX2_set ⟨⟨rfl, rfl⟩, Nat.le_of_ble_eq_true rfl, Nat.le_of_ble_eq_true rfl⟩ 0 2 he rfl rfl rfl (Nat.le_of_ble_eq_true rfl) dL_changes_107 ⟨Nat.le_of_ble_eq_true rfl, Nat.le_of_ble_eq_true rfl⟩ (fun H locs hW => ?_)
  refine wi_tail (rest := []) S hK hW dL_changes_110 (fun H locs hW => ?_)
  refine lv_goto (tgt := 126) S.1 S.2.1 dL_changes_111 (by decide) ?_
  refine lv_iconst (v := nI 0) S.1 S.2.1 dL_changes_126 rfl ?_
  exact hret 127 _ _ _ _ _ _ _ dL_changes_127 hW rfl rfl (Nat.zero_le _) (Nat.zero_le _)
set_option maxRecDepth 100000 in
theorem wchanges_7_xI (l : Launch) (D : va_G) (c : Nat → ClassId) (o : Nat) (f : Nat → Nat) (sz : Nat) (wd w1 : va_W) (b0 : Nat) {fs : List Value} (p0 p1 p2 : Int32) (he : wd[0]? = some (b0, .inr (2, fs))) (hM : MX l yX2_set wsX2_set rmX2_set_x D c sz wd [.ref b0, .int p0, .int p1] xI w1) : MW l yL_changes wsL_changes rmL_changes D c sz (wd ++ wI c o f) [.ref b0, .int (nI 7), .int p0, .int p1, .int p2, .ref o] (nI 1) (w1 ++ wI c o f) := by
  refine MW.ofH (cc := cL_changes) (maxL := 7) (hh := [(0, 111, 114, 38), (0, 111, 118, 40), (0, 111, 122, 42)]) (by decide) rfl (Nat.le_of_ble_eq_true rfl) ?_
  intro P e s m below meth cd A Q ls hsz S hK hN hSt hV htab hW hA hl hret
  subst hsz
  have hl : lv_has ls 7 [(0, .ref b0), (1, .int (nI 7)), (2, .int p0), (3, .int p1), (4, .int p2), (5, .ref o)] := hl
  refine lv_aload S.1 S.2.1 dL_changes_0 (lv_at hl 5 rfl) ?_
  refine lv_iconst (v := nI 0) S.1 S.2.1 dL_changes_2 rfl ?_
  refine lv_iload_n S.1 S.2.1 dL_changes_3 rfl (lv_at hl 1 rfl) ?_
  refine kz_ne S (tgt := 18) dL_changes_4 (by decide) (by decide) (fun _ => ?_) (fun q => absurd q (by decide))
  refine lv_iload_n S.1 S.2.1 dL_changes_18 rfl (lv_at hl 1 rfl) ?_
  refine lv_iconst (v := nI 1) S.1 S.2.1 dL_changes_19 rfl ?_
  refine kn_ne S (tgt := 38) dL_changes_20 (by decide) (by decide) (by decide) (fun _ => ?_) (fun q => absurd q (by decide))
  refine lv_iload_n S.1 S.2.1 dL_changes_38 rfl (lv_at hl 1 rfl) ?_
  refine lv_iconst (v := nI 2) S.1 S.2.1 dL_changes_39 rfl ?_
  refine kn_ne S (tgt := 51) dL_changes_40 (by decide) (by decide) (by decide) (fun _ => ?_) (fun q => absurd q (by decide))
  refine lv_iload_n S.1 S.2.1 dL_changes_51 rfl (lv_at hl 1 rfl) ?_
  refine lv_iconst (v := nI 3) S.1 S.2.1 dL_changes_52 rfl ?_
  refine kn_ne S (tgt := 64) dL_changes_53 (by decide) (by decide) (by decide) (fun _ => ?_) (fun q => absurd q (by decide))
  refine lv_iload_n S.1 S.2.1 dL_changes_64 rfl (lv_at hl 1 rfl) ?_
  refine lv_iconst (v := nI 4) S.1 S.2.1 dL_changes_65 rfl ?_
  refine kn_ne S (tgt := 77) dL_changes_66 (by decide) (by decide) (by decide) (fun _ => ?_) (fun q => absurd q (by decide))
  refine lv_iload_n S.1 S.2.1 dL_changes_77 rfl (lv_at hl 1 rfl) ?_
  refine lv_iconst (v := nI 5) S.1 S.2.1 dL_changes_78 rfl ?_
  refine kn_ne S (tgt := 90) dL_changes_79 (by decide) (by decide) (by decide) (fun _ => ?_) (fun q => absurd q (by decide))
  refine lv_iload_n S.1 S.2.1 dL_changes_90 rfl (lv_at hl 1 rfl) ?_
  refine lv_bipush (v := nI 6) S.1 S.2.1 dL_changes_91 rfl ?_
  refine kn_ne S (tgt := 104) dL_changes_93 (by decide) (by decide) (by decide) (fun _ => ?_) (fun q => absurd q (by decide))
  refine lv_aload_n S.1 S.2.1 dL_changes_104 rfl (lv_at hl 0 rfl) ?_
  refine lv_iload_n S.1 S.2.1 dL_changes_105 rfl (lv_at hl 2 rfl) ?_
  refine lv_iload_n S.1 S.2.1 dL_changes_106 rfl (lv_at hl 3 rfl) ?_
  refine k_VX (rest := [.int (nI 0), .ref o]) S hK hl.1 hW (KFr.lft hW hA) hN hSt hV hM gL_changes_X2_set rfl pdX2_set ⟨⟨rfl, rfl⟩, Nat.le_of_ble_eq_true rfl, Nat.le_of_ble_eq_true rfl⟩ 0 2 he rfl rfl rfl (Nat.le_of_ble_eq_true rfl) dL_changes_107 ⟨Nat.le_of_ble_eq_true rfl, Nat.le_of_ble_eq_true rfl⟩ (fun q9 ce H locs hW hq9 hv9 hcl => ?_)
  refine vx_catch (name := xI) S.2.2.2.1 [] _ _ (htab.trans rfl) (fun z hz => by cases hz) rfl (by decide) (S.2.2.2.2 (.classLink RL 38 xI) (List.mem_of_getElem? (i := 1) rfl)) (xcast (ik := _) (ic := _) (Or.inl ⟨rfl, rfl, rfl⟩) hSt _) hq9 hv9 hcl ?_
  refine lv_astore S.1 S.2.1 dL_changes_114 hl (by decide) rfl (fun ls hl => ?_)
  refine lv_iconst (v := nI 1) S.1 S.2.1 dL_changes_116 rfl ?_
  exact hret 117 _ _ _ _ _ _ _ dL_changes_117 hW rfl rfl (by decide) (by decide)
set_option maxRecDepth 100000 in
theorem wchanges_7_xA (l : Launch) (D : va_G) (c : Nat → ClassId) (o : Nat) (f : Nat → Nat) (sz : Nat) (wd w1 : va_W) (b0 : Nat) {fs : List Value} (p0 p1 p2 : Int32) (he : wd[0]? = some (b0, .inr (2, fs))) (hM : MX l yX2_set wsX2_set rmX2_set_x D c sz wd [.ref b0, .int p0, .int p1] xA w1) : MW l yL_changes wsL_changes rmL_changes D c sz (wd ++ wI c o f) [.ref b0, .int (nI 7), .int p0, .int p1, .int p2, .ref o] (nI 2) (w1 ++ wI c o f) := by
  refine MW.ofH (cc := cL_changes) (maxL := 7) (hh := [(0, 111, 114, 38), (0, 111, 118, 40), (0, 111, 122, 42)]) (by decide) rfl (Nat.le_of_ble_eq_true rfl) ?_
  intro P e s m below meth cd A Q ls hsz S hK hN hSt hV htab hW hA hl hret
  subst hsz
  have hl : lv_has ls 7 [(0, .ref b0), (1, .int (nI 7)), (2, .int p0), (3, .int p1), (4, .int p2), (5, .ref o)] := hl
  refine lv_aload S.1 S.2.1 dL_changes_0 (lv_at hl 5 rfl) ?_
  refine lv_iconst (v := nI 0) S.1 S.2.1 dL_changes_2 rfl ?_
  refine lv_iload_n S.1 S.2.1 dL_changes_3 rfl (lv_at hl 1 rfl) ?_
  refine kz_ne S (tgt := 18) dL_changes_4 (by decide) (by decide) (fun _ => ?_) (fun q => absurd q (by decide))
  refine lv_iload_n S.1 S.2.1 dL_changes_18 rfl (lv_at hl 1 rfl) ?_
  refine lv_iconst (v := nI 1) S.1 S.2.1 dL_changes_19 rfl ?_
  refine kn_ne S (tgt := 38) dL_changes_20 (by decide) (by decide) (by decide) (fun _ => ?_) (fun q => absurd q (by decide))
  refine lv_iload_n S.1 S.2.1 dL_changes_38 rfl (lv_at hl 1 rfl) ?_
  refine lv_iconst (v := nI 2) S.1 S.2.1 dL_changes_39 rfl ?_
  refine kn_ne S (tgt := 51) dL_changes_40 (by decide) (by decide) (by decide) (fun _ => ?_) (fun q => absurd q (by decide))
  refine lv_iload_n S.1 S.2.1 dL_changes_51 rfl (lv_at hl 1 rfl) ?_
  refine lv_iconst (v := nI 3) S.1 S.2.1 dL_changes_52 rfl ?_
  refine kn_ne S (tgt := 64) dL_changes_53 (by decide) (by decide) (by decide) (fun _ => ?_) (fun q => absurd q (by decide))
  refine lv_iload_n S.1 S.2.1 dL_changes_64 rfl (lv_at hl 1 rfl) ?_
  refine lv_iconst (v := nI 4) S.1 S.2.1 dL_changes_65 rfl ?_
  refine kn_ne S (tgt := 77) dL_changes_66 (by decide) (by decide) (by decide) (fun _ => ?_) (fun q => absurd q (by decide))
  refine lv_iload_n S.1 S.2.1 dL_changes_77 rfl (lv_at hl 1 rfl) ?_
  refine lv_iconst (v := nI 5) S.1 S.2.1 dL_changes_78 rfl ?_
  refine kn_ne S (tgt := 90) dL_changes_79 (by decide) (by decide) (by decide) (fun _ => ?_) (fun q => absurd q (by decide))
  refine lv_iload_n S.1 S.2.1 dL_changes_90 rfl (lv_at hl 1 rfl) ?_
  refine lv_bipush (v := nI 6) S.1 S.2.1 dL_changes_91 rfl ?_
  refine kn_ne S (tgt := 104) dL_changes_93 (by decide) (by decide) (by decide) (fun _ => ?_) (fun q => absurd q (by decide))
  refine lv_aload_n S.1 S.2.1 dL_changes_104 rfl (lv_at hl 0 rfl) ?_
  refine lv_iload_n S.1 S.2.1 dL_changes_105 rfl (lv_at hl 2 rfl) ?_
  refine lv_iload_n S.1 S.2.1 dL_changes_106 rfl (lv_at hl 3 rfl) ?_
  refine k_VX (rest := [.int (nI 0), .ref o]) S hK hl.1 hW (KFr.lft hW hA) hN hSt hV hM gL_changes_X2_set rfl pdX2_set ⟨⟨rfl, rfl⟩, Nat.le_of_ble_eq_true rfl, Nat.le_of_ble_eq_true rfl⟩ 0 2 he rfl rfl rfl (Nat.le_of_ble_eq_true rfl) dL_changes_107 ⟨Nat.le_of_ble_eq_true rfl, Nat.le_of_ble_eq_true rfl⟩ (fun q9 ce H locs hW hq9 hv9 hcl => ?_)
  refine vx_catch (name := xA) S.2.2.2.1 [_] _ _ (htab.trans rfl) (fun z hz => by rw [List.mem_singleton.mp hz]; exact Or.inr ⟨by decide, xI, S.2.2.2.2 (.classLink RL 38 xI) (List.mem_of_getElem? (i := 1) rfl), hSt.2.1.2.1⟩) rfl (by decide) (S.2.2.2.2 (.classLink RL 40 xA) (List.mem_of_getElem? (i := 2) rfl)) (xcast (ik := _) (ic := _) (Or.inr (Or.inr ⟨rfl, rfl, rfl⟩)) hSt _) hq9 hv9 hcl ?_
  refine lv_astore S.1 S.2.1 dL_changes_118 hl (by decide) rfl (fun ls hl => ?_)
  refine lv_iconst (v := nI 2) S.1 S.2.1 dL_changes_120 rfl ?_
  exact hret 121 _ _ _ _ _ _ _ dL_changes_121 hW rfl rfl (by decide) (by decide)
abbrev rmL_copies : Room := { frames := 7, cells := 1, slots := 6, locals := 106 }
theorem pdL_copies : kPd yL_copies 6 := by decide +kernel
set_option maxRecDepth 100000 in
theorem wcopies_k (l : Launch) (D : va_G) (c : Nat → ClassId) (o : Nat) (f : Nat → Nat) (sz : Nat) (wd w1 : va_W) (b0 : Nat) {fs : List Value} (p0 p1 p2 p3 : Int32) (r : Nat) (he : wd[0]? = some (b0, .inr (2, fs))) (hM : MI3 l yX2_copy wsX2_copy rmX2_copy D c sz wd [.ref b0, .int p0, .int p1, .int p2, .int p3] (nI r) w1) : MW l yL_copies wsL_copies rmL_copies D c sz (wd ++ wI c o f) [.ref b0, .int p0, .int p1, .int p2, .int p3, .ref o] (nI 0) (w1 ++ wI c o (fu f 0 r)) := by
  refine MW.ofH (cc := cL_copies) (maxL := 7) (hh := [(0, 13, 16, 38), (0, 13, 20, 40)]) (by decide) rfl (Nat.le_of_ble_eq_true rfl) ?_
  intro P e s m below meth cd A Q ls hsz S hK hN hSt hV htab hW hA hl hret
  subst hsz
  have hl : lv_has ls 7 [(0, .ref b0), (1, .int p0), (2, .int p1), (3, .int p2), (4, .int p3), (5, .ref o)] := hl
  refine lv_aload S.1 S.2.1 dL_copies_0 (lv_at hl 5 rfl) ?_
  refine lv_iconst (v := nI 0) S.1 S.2.1 dL_copies_2 rfl ?_
  refine lv_aload_n S.1 S.2.1 dL_copies_3 rfl (lv_at hl 0 rfl) ?_
  refine lv_iload_n S.1 S.2.1 dL_copies_4 rfl (lv_at hl 1 rfl) ?_
  refine lv_iload_n S.1 S.2.1 dL_copies_5 rfl (lv_at hl 2 rfl) ?_
  refine lv_iload_n S.1 S.2.1 dL_copies_6 rfl (lv_at hl 3 rfl) ?_
  refine lv_iload S.1 S.2.1 dL_copies_7 (lv_at hl 4 rfl) ?_
  refine k_VI3 (rest := [.int (nI 0), .ref o]) S hK hl.1 hW (KFr.lft hW hA) hN hSt hV hM gL_copies_X2_copy rfl pdX2_copy ⟨⟨rfl, rfl⟩, Nat.le_of_ble_eq_true rfl, Nat.le_of_ble_eq_true rfl⟩ 0 2 he rfl rfl rfl (Nat.le_of_ble_eq_true rfl) dL_copies_9 ⟨Nat.le_of_ble_eq_true rfl, Nat.le_of_ble_eq_true rfl⟩ (fun H locs hW => ?_)
  refine wi_tail (rest := []) S hK hW dL_copies_12 (fun H locs hW => ?_)
  refine lv_goto (tgt := 24) S.1 S.2.1 dL_copies_13 (by decide) ?_
  refine lv_iconst (v := nI 0) S.1 S.2.1 dL_copies_24 rfl ?_
  exact hret 25 _ _ _ _ _ _ _ dL_copies_25 hW rfl rfl (Nat.zero_le _) (Nat.zero_le _)
set_option maxRecDepth 100000 in
theorem wcopies_xI (l : Launch) (D : va_G) (c : Nat → ClassId) (o : Nat) (f : Nat → Nat) (sz : Nat) (wd w1 : va_W) (b0 : Nat) {fs : List Value} (p0 p1 p2 p3 : Int32) (he : wd[0]? = some (b0, .inr (2, fs))) (hM : MX l yX2_copy wsX2_copy rmX2_copy_x D c sz wd [.ref b0, .int p0, .int p1, .int p2, .int p3] xI w1) : MW l yL_copies wsL_copies rmL_copies D c sz (wd ++ wI c o f) [.ref b0, .int p0, .int p1, .int p2, .int p3, .ref o] (nI 1) (w1 ++ wI c o f) := by
  refine MW.ofH (cc := cL_copies) (maxL := 7) (hh := [(0, 13, 16, 38), (0, 13, 20, 40)]) (by decide) rfl (Nat.le_of_ble_eq_true rfl) ?_
  intro P e s m below meth cd A Q ls hsz S hK hN hSt hV htab hW hA hl hret
  subst hsz
  have hl : lv_has ls 7 [(0, .ref b0), (1, .int p0), (2, .int p1), (3, .int p2), (4, .int p3), (5, .ref o)] := hl
  refine lv_aload S.1 S.2.1 dL_copies_0 (lv_at hl 5 rfl) ?_
  refine lv_iconst (v := nI 0) S.1 S.2.1 dL_copies_2 rfl ?_
  refine lv_aload_n S.1 S.2.1 dL_copies_3 rfl (lv_at hl 0 rfl) ?_
  refine lv_iload_n S.1 S.2.1 dL_copies_4 rfl (lv_at hl 1 rfl) ?_
  refine lv_iload_n S.1 S.2.1 dL_copies_5 rfl (lv_at hl 2 rfl) ?_
  refine lv_iload_n S.1 S.2.1 dL_copies_6 rfl (lv_at hl 3 rfl) ?_
  refine lv_iload S.1 S.2.1 dL_copies_7 (lv_at hl 4 rfl) ?_
  refine k_VX (rest := [.int (nI 0), .ref o]) S hK hl.1 hW (KFr.lft hW hA) hN hSt hV hM gL_copies_X2_copy rfl pdX2_copy ⟨⟨rfl, rfl⟩, Nat.le_of_ble_eq_true rfl, Nat.le_of_ble_eq_true rfl⟩ 0 2 he rfl rfl rfl (Nat.le_of_ble_eq_true rfl) dL_copies_9 ⟨Nat.le_of_ble_eq_true rfl, Nat.le_of_ble_eq_true rfl⟩ (fun q9 ce H locs hW hq9 hv9 hcl => ?_)
  refine vx_catch (name := xI) S.2.2.2.1 [] _ _ (htab.trans rfl) (fun z hz => by cases hz) rfl (by decide) (S.2.2.2.2 (.classLink RL 38 xI) (List.mem_of_getElem? (i := 1) rfl)) (xcast (ik := _) (ic := _) (Or.inl ⟨rfl, rfl, rfl⟩) hSt _) hq9 hv9 hcl ?_
  refine lv_astore S.1 S.2.1 dL_copies_16 hl (by decide) rfl (fun ls hl => ?_)
  refine lv_iconst (v := nI 1) S.1 S.2.1 dL_copies_18 rfl ?_
  exact hret 19 _ _ _ _ _ _ _ dL_copies_19 hW rfl rfl (by decide) (by decide)
set_option maxRecDepth 100000 in
theorem wcopies_xA (l : Launch) (D : va_G) (c : Nat → ClassId) (o : Nat) (f : Nat → Nat) (sz : Nat) (wd w1 : va_W) (b0 : Nat) {fs : List Value} (p0 p1 p2 p3 : Int32) (he : wd[0]? = some (b0, .inr (2, fs))) (hM : MX l yX2_copy wsX2_copy rmX2_copy_x D c sz wd [.ref b0, .int p0, .int p1, .int p2, .int p3] xA w1) : MW l yL_copies wsL_copies rmL_copies D c sz (wd ++ wI c o f) [.ref b0, .int p0, .int p1, .int p2, .int p3, .ref o] (nI 2) (w1 ++ wI c o f) := by
  refine MW.ofH (cc := cL_copies) (maxL := 7) (hh := [(0, 13, 16, 38), (0, 13, 20, 40)]) (by decide) rfl (Nat.le_of_ble_eq_true rfl) ?_
  intro P e s m below meth cd A Q ls hsz S hK hN hSt hV htab hW hA hl hret
  subst hsz
  have hl : lv_has ls 7 [(0, .ref b0), (1, .int p0), (2, .int p1), (3, .int p2), (4, .int p3), (5, .ref o)] := hl
  refine lv_aload S.1 S.2.1 dL_copies_0 (lv_at hl 5 rfl) ?_
  refine lv_iconst (v := nI 0) S.1 S.2.1 dL_copies_2 rfl ?_
  refine lv_aload_n S.1 S.2.1 dL_copies_3 rfl (lv_at hl 0 rfl) ?_
  refine lv_iload_n S.1 S.2.1 dL_copies_4 rfl (lv_at hl 1 rfl) ?_
  refine lv_iload_n S.1 S.2.1 dL_copies_5 rfl (lv_at hl 2 rfl) ?_
  refine lv_iload_n S.1 S.2.1 dL_copies_6 rfl (lv_at hl 3 rfl) ?_
  refine lv_iload S.1 S.2.1 dL_copies_7 (lv_at hl 4 rfl) ?_
  refine k_VX (rest := [.int (nI 0), .ref o]) S hK hl.1 hW (KFr.lft hW hA) hN hSt hV hM gL_copies_X2_copy rfl pdX2_copy ⟨⟨rfl, rfl⟩, Nat.le_of_ble_eq_true rfl, Nat.le_of_ble_eq_true rfl⟩ 0 2 he rfl rfl rfl (Nat.le_of_ble_eq_true rfl) dL_copies_9 ⟨Nat.le_of_ble_eq_true rfl, Nat.le_of_ble_eq_true rfl⟩ (fun q9 ce H locs hW hq9 hv9 hcl => ?_)
  refine vx_catch (name := xA) S.2.2.2.1 [_] _ _ (htab.trans rfl) (fun z hz => by rw [List.mem_singleton.mp hz]; exact Or.inr ⟨by decide, xI, S.2.2.2.2 (.classLink RL 38 xI) (List.mem_of_getElem? (i := 1) rfl), hSt.2.1.2.1⟩) rfl (by decide) (S.2.2.2.2 (.classLink RL 40 xA) (List.mem_of_getElem? (i := 2) rfl)) (xcast (ik := _) (ic := _) (Or.inr (Or.inr ⟨rfl, rfl, rfl⟩)) hSt _) hq9 hv9 hcl ?_
  refine lv_astore S.1 S.2.1 dL_copies_20 hl (by decide) rfl (fun ls hl => ?_)
  refine lv_iconst (v := nI 2) S.1 S.2.1 dL_copies_22 rfl ?_
  exact hret 23 _ _ _ _ _ _ _ dL_copies_23 hW rfl rfl (by decide) (by decide)
