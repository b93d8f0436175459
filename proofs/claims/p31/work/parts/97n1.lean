/-! ===== the law's script: cell ===== -/
def cv (xs : Nat → Int32) (L i : Nat) : Int32 := if i < L then xs i else nI (7919 * (i + 7) * (i + 311))
def kPx (D : va_G) (c : Nat → ClassId) (sz b L : Nat) (xs : Nat → Int32) : State → Prop := fun U => kP D c sz [] U ∧ b < sz ∧ va_X b L xs U U.heap
theorem kPx_blind {av : List Value} {D : va_G} {c : Nat → ClassId} {sz b L : Nat} {xs : Nat → Int32} : FrameBlind (va_Pc av (kPx D c sz b L xs)) := fun a U g mk q => by
  obtain ⟨q0, ⟨q1, qP, qK, qD⟩, qb, qx⟩ := q
  exact ⟨q0, ⟨q1, qP, va_K.moved (u := U) (U := U.calling g mk a) (Vm.Alike.refl U.vm) qK, qD⟩, qb, va_X.moved (u := U) (Vm.Alike.refl U.vm) qx⟩
abbrev rmL_cell : Room := { frames := 0, cells := 0, slots := 0, locals := 0 }
theorem pdL_cell : kPd yL_cell 2 := by decide +kernel
theorem noA {b sz : Nat} (hb : b < sz) : ¬ va_A [] sz b := by
  rintro (⟨k, e, h⟩ | h)
  · simp at h
  · omega
set_option maxRecDepth 100000 in
theorem mL_cell (l : Launch) (D : va_G) (c : Nat → ClassId) (sz b L i : Nat) (xs : Nat → Int32) (hL : L ≤ 260) (hi : i < 56) : Met l yL_cell wsL_cell rmL_cell (va_Pc [.ref b, .int (nI i)] (kPx D c sz b L xs)) (va_Qi (fun (x : Int32) (w : va_W) => x = cv xs L i ∧ w = []) (kB D [] sz) (va_A [] sz)) 0 0 (va_A [] sz) := by
  refine Met.ofW (cc := cL_cell) (maxL := 2) (ret := some .int) (by decide) rfl ?_
  intro p e s m args below meth cd s₁ B hml hv
  obtain ⟨rfl, ⟨hsz, hP, hK, hD0⟩, hb9, hX⟩ := hv
  have hts := atoms_spec (ws := wsL_cell) B.pre
  have hown : s.vm.findClass yL_cell.cls = some m.cls := findClass_of_methodNamed B.named
  have hlocks := B.notSynchronized
  have hr := B.returns
  have hb := B.bytes
  have hx := B.exec
  subst hsz
  have hl := lv_entry [.ref b, .int (nI i)] (n := 2) (Nat.le_of_ble_eq_true rfl)
  rw [lg_entry_eq]
  generalize (lg_sl [.ref b, .int (nI i)] ++ List.replicate (2 - (lg_sl [.ref b, .int (nI i)]).length) Slot.unset).toArray = ls at hl ⊢
  have S : CallFix p m cd cL_cell 2 s #[.ref b, .int (nI i)] wsL_cell yL_cell.cls := ⟨hx, hb, hml, hown, hts⟩
  have hW : kw D (va_A [] s.heap.size) s.heap [] s.heap [] := ⟨hP, hD0.self, va_S.rf⟩
  have hl : lv_has ls 2 [(0, .ref b), (1, .int (nI i))] := hl
  have hbA := noA hb9
  suffices hgo : ∀ Q : State → Prop, (∀ (ls1 : Array Slot) (v : Int32), v = cv xs L i → W p l e rmL_cell s m #[.ref b, .int (nI i)] below meth cd s.heap [] 0 0 Q (F0 m 26 ls1 [.int v])) → W p l e rmL_cell s m #[.ref b, .int (nI i)] below meth cd s.heap [] 0 0 Q (F0 m 0 ls []) from hgo _ (fun ls1 v hv => by
    subst hv
    exact W.zret hx hb hr rfl (fun t ht hW' => ⟨⟨_, [], rfl, ⟨rfl, rfl⟩, by rw [ht]; exact hW.1, hW.2.1⟩, hW.2.2.F ht⟩) hW.2.2.2.2 dL_cell_26 hlocks)
  intro Q hret
  refine lv_iload_n S.1 S.2.1 dL_cell_0 rfl (lv_at hl 1 rfl) ?_
  refine lv_aload_n S.1 S.2.1 dL_cell_1 rfl (lv_at hl 0 rfl) ?_
  refine va_slen (A := va_A [] s.heap.size) S.1 S.2.1 hX hb9 hbA hW.2.2 dL_cell_2 ?_
  refine kn_ge S (x := i) (y := L) (tgt := 12) dL_cell_3 (by decide) (by omega) (by omega) (fun c_3 => ?_) (fun c_3 => ?_)
  · refine lv_sipush (v := nI 7919) S.1 S.2.1 dL_cell_12 rfl ?_
    refine lv_iload_n S.1 S.2.1 dL_cell_15 rfl (lv_at hl 1 rfl) ?_
    refine lv_bipush (v := nI 7) S.1 S.2.1 dL_cell_16 rfl ?_
    refine kn_iadd S dL_cell_18 ?_
    refine kn_imul S dL_cell_19 ?_
    refine lv_iload_n S.1 S.2.1 dL_cell_20 rfl (lv_at hl 1 rfl) ?_
    refine lv_sipush (v := nI 311) S.1 S.2.1 dL_cell_21 rfl ?_
    refine kn_iadd S dL_cell_24 ?_
    refine kn_imul S dL_cell_25 ?_
    exact hret ls _ (if_neg (by omega)).symm
  · refine lv_aload_n S.1 S.2.1 dL_cell_6 rfl (lv_at hl 0 rfl) ?_
    refine lv_iload_n S.1 S.2.1 dL_cell_7 rfl (lv_at hl 1 rfl) ?_
    refine va_sld (A := va_A [] s.heap.size) S.1 S.2.1 hX hb9 hbA hW.2.2 (vp_in_nI c_3 (by omega)) dL_cell_8 ?_
    rw [nI_clamp (by omega)]
    refine lv_goto (tgt := 26) S.1 S.2.1 dL_cell_9 (by decide) ?_
    exact hret ls _ (if_pos c_3).symm
section KCL
variable {p : Program} {l : Launch} {e : Env} {R : Room} {s : State} {m : MethodId} {args : Array Value} {below : List Frame} {meth : Method} {cd : Code} {H : Heap} {locs : List Loc} {cells slots : Nat} {Q : State → Prop} {pc : Nat} {ls : Array Slot} {rest : List Value} {cc : ByteArray} {D : va_G} {c : Nat → ClassId} {A : Nat → Prop} {ws : va_W} {index nL : Nat} {Ts : List Cond} {own : String}
theorem k_cell (S : CallFix p m cd cc nL s args Ts own) (hK : va_K D vwCl (vT c) s) (hl : ls.size = nL) (hA : ∀ q, s.heap.size ≤ q → A q) (hW : kw D A s.heap ws H locs) {b L i : Nat} {xs : Nat → Int32} (hL : L ≤ 260) (hi : i < 56) (hX : va_X b L xs s s.heap) (hbl : b < s.heap.size) (hbA : ¬ A b) (hG : GoodIn Ts (va_wsS own index yL_cell wsL_cell)) (hR : kRm rmL_cell R 2)
    (hst : (rest.map fun v => v.category).sum ≤ 8) (hdg : decode cc pc = .ok (.invokestatic index, 3)) (hcs : cells ≤ R.cells ∧ slots ≤ R.slots)
    (kk : ∀ (H1 : Heap) (locs1 : List Loc), kw D A s.heap ws H1 locs1 → W p l e R s m args below meth cd H1 locs1 cells slots Q (F0 m (pc + 3) ls (.int (cv xs L i) :: rest))) : W p l e R s m args below meth cd H locs cells slots Q (F0 m pc ls (.int (nI i) :: .ref b :: rest)) := by
  obtain ⟨f1, f2, f3, f4⟩ := KFr.nil hW hA
  refine va_calli (va_runS (As := [.ref b, .int (nI i)]) (rest := rest) S (mL_cell l D c H.size b L i xs hL hi) (va_cwS 2 S.2.2.2.2 hG rfl hR.1.1 hR.1.2 pdL_cell hR.2) ⟨kPx_blind, fun U hU hWm => ⟨rfl, (k_pre (av := []) f1 f2 hK hU hWm).2, Nat.lt_of_lt_of_le hbl hW.2.2.1, ?_⟩⟩ rfl rfl hl rfl (lv_room hst) hdg hcs) hW.2.2 (fun q _ h => f3 q h) f3 (fun x u t H1 locs1 ht hvm hw hB hz1 hk1 hS1 => ?_)
  · rw [hU]
    exact va_X.moved hWm.alike (hX.kept (hW.2.2.2.1 b hbl hbA))
  · obtain ⟨rfl, rfl⟩ := hw
    obtain ⟨g1, g2⟩ := hB
    rw [ht] at g1
    exact kk H1 locs1 (f4 H1 locs1 g1 g2 hk1 hS1)
variable {y : MethodName} {wsY ws' : List Cond} {rm : Room} {bytes : ByteArray} {maxL : Nat} {ret : Option FieldType} {As st0 : List Value} {wc w1 w2 : va_W}
theorem k_SI3 (S : CallFix p m cd cc nL s args Ts own) (hK : va_K D vwCl (vT c) s) (hl : ls.size = nL) (hW : kw D A s.heap ws H locs) (fr : KFr D A s.heap wc w1 w2 H) {r : Int32}
    (hN : nW s) (hSt : sW s) (hV : eV A s s.heap) (hM : MI3 l y wsY rm D c H.size wc As r w1) (hG : GoodIn Ts (va_wsS own index y wsY)) (hw : wsY = Cond.code y bytes maxL ret :: ws') (hd : kPd y As.length) (hR : kRm rm R maxL)
    (hs : st0 = As.reverse ++ rest) (hst : (rest.map fun v => v.category).sum ≤ 8) (hdg : decode cc pc = .ok (.invokestatic index, 3)) (hcs : cells ≤ R.cells ∧ slots ≤ R.slots)
    (kk : ∀ (H1 : Heap) (locs1 : List Loc), kw D A s.heap w2 H1 locs1 → W p l e R s m args below meth cd H1 locs1 cells slots Q (F0 m (pc + 3) ls (.int r :: rest))) : W p l e R s m args below meth cd H locs cells slots Q (F0 m pc ls st0) := by
  obtain ⟨f1, f2, f3, f4⟩ := fr
  refine va_calli (va_runS (As := As) (rest := rest) S hM (va_cwS As.length S.2.2.2.2 hG hw hR.1.1 hR.1.2 hd hR.2) ⟨kP3_blind, fun U hU hWm => k_pre3 f1 f2 f3 hK hN hSt hV hW.2.2 hU hWm⟩ rfl rfl hl hs (lv_room hst) hdg hcs) hW.2.2 (fun q _ h => f3 q h) f3 (fun x u t H1 locs1 ht hvm hw hB hz1 hk1 hS1 => ?_)
  obtain ⟨rfl, rfl⟩ := hw
  obtain ⟨g1, g2⟩ := hB
  rw [ht] at g1
  exact kk H1 locs1 (f4 H1 locs1 g1 g2 hk1 hS1)
/-- an act that may throw, called of a method without handlers -/
theorem k_SWn (S : CallFix p m cd cc nL s args Ts own) (hK : va_K D vwCl (vT c) s) (hl : ls.size = nL) (hW : kw D A s.heap ws H locs) (fr : KFr D A s.heap wc w1 w2 H) {r : Int32}
    (hN : nW s) (hSt : sW s) (hV : eV A s s.heap) (hM : MW l y wsY rm D c H.size wc As r w1) (hG : GoodIn Ts (va_wsS own index y wsY)) (hw : wsY = Cond.code y bytes maxL ret :: ws') (hd : kPd y As.length) (hR : (rm.cells = 1 ∧ rm.slots = 6) ∧ rm.frames + 1 ≤ R.frames ∧ 8 + (maxL + 11) + rm.locals ≤ R.locals)
    (hs : st0 = As.reverse ++ rest) (hst : (rest.map fun v => v.category).sum ≤ 8) (hdg : decode cc pc = .ok (.invokestatic index, 3)) (hcs : cells + 1 ≤ R.cells ∧ slots + 6 ≤ R.slots)
    (kk : ∀ (H1 : Heap) (locs1 : List Loc), kw D A s.heap w2 H1 locs1 → W p l e R s m args below meth cd H1 locs1 (cells + 1) (slots + 6) Q (F0 m (pc + 3) ls (.int r :: rest))) : W p l e R s m args below meth cd H locs cells slots Q (F0 m pc ls st0) := by
  obtain ⟨f1, f2, f3, f4⟩ := fr
  refine va_calli (va_runS (As := As) (rest := rest) S hM (va_cwS As.length S.2.2.2.2 hG hw hR.1.1 hR.1.2 hd hR.2) ⟨kP3_blind, fun U hU hWm => k_pre3 f1 f2 f3 hK hN hSt hV hW.2.2 hU hWm⟩ rfl rfl hl hs (lv_room hst) hdg hcs) hW.2.2 (fun q _ h => f3 q h) f3 (fun x u t H1 locs1 ht hvm hw hB hz1 hk1 hS1 => ?_)
  obtain ⟨rfl, rfl⟩ := hw
  obtain ⟨g1, g2⟩ := hB
  rw [ht] at g1
  exact kk H1 locs1 (f4 H1 locs1 g1 g2 hk1 hS1)
end KCL
theorem kw.perm {D : va_G} {A : Nat → Prop} {H0 H : Heap} {locs : List Loc} {ws ws' : va_W} (h : kw D A H0 ws H locs) (hp : ws.Perm ws') : kw D A H0 ws' H locs :=
  ⟨vP_iff.mpr (fun q hq => vP_iff.mp h.1 q (hp.mem_iff.mpr hq)), vD_iff.mpr ⟨(List.Perm.pairwise_iff (fun h e => h e.symm) hp).mp (vD_iff.mp h.2.1).1, fun q hq => (vD_iff.mp h.2.1).2 q (hp.mem_iff.mpr hq)⟩, h.2.2⟩
theorem pm3 (x y z : va_W) : (x ++ (y ++ z)).Perm (y ++ (x ++ z)) := by
  rw [← List.append_assoc, ← List.append_assoc]
  exact List.Perm.append_right z List.perm_append_comm
