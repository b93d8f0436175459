/-! ===== a row is copied onto another of its length ===== -/
section KC
variable {p : Program} {l : Launch} {e : Env} {R : Room} {s : State} {m : MethodId} {args : Array Value} {below : List Frame} {meth : Method} {cd : Code} {H : Heap} {locs : List Loc} {cells slots : Nat} {Q : State → Prop} {pc : Nat} {ls : Array Slot} {rest : List Value} {cc : ByteArray} {D : va_G} {c : Nat → ClassId} {A : Nat → Prop} {ws : va_W} {H0 : Heap} {nL : Nat} {Ts : List Cond} {own : String}
theorem kn_cpy (S : CallFix p m cd cc nL s args Ts own) (hl : ls.size = nL) (hK : va_K D vwCl (vT c) s) (hW : kw D A H0 ws H locs) (q0 q1 : Nat) {b0 b1 n index : Nat} {f g : Nat → Nat} (ha0 : ws[q0]? = some (b0, .inl (c 0, n, .inl (fun k => nI (f k))))) (ha1 : ws[q1]? = some (b1, .inl (c 0, n, .inl (fun k => nI (g k))))) (hn : n < 2 ^ 31)
    (h1 : Cond.methodLink own index arraycopyName ∈ Ts) (h2 : Cond.native arraycopyName ∈ Ts) (h3 : Cond.static arraycopyName ∈ Ts) (h4 : Cond.initialized "java/lang/System" ∈ Ts)
    (hR : 1 ≤ R.frames ∧ (rest.map fun v => v.category).sum + (nativeFrameWords "java/lang/System" "arraycopy" 5 + 11) ≤ R.locals) (hdg : decode cc pc = .ok (.invokestatic index, 3))
    (k : ∀ (H1 : Heap) (locs1 : List Loc), kw D A H0 (ws.set q1 (b1, .inl (c 0, n, .inl (fun k => nI (f k))))) H1 locs1 → W p l e R s m args below meth cd H1 locs1 cells slots Q (F0 m (pc + 3) ls rest)) :
    W p l e R s m args below meth cd H locs cells slots Q (F0 m pc ls (.int (nI n) :: .int (nI 0) :: .ref b1 :: .int (nI 0) :: .ref b0 :: rest)) := by
  have e0 : (nI 0).toNatClampNeg = 0 := nI_clamp (by decide)
  have en : (nI n).toNatClampNeg = n := nI_clamp hn
  have p0 : ¬ nI 0 < 0 := by decide
  have pn : ¬ nI n < 0 := by
    have := nI_pos hn
    first | exact this | simpa using this
  refine va_copyi S.1 S.2.1 (S.2.2.1.trans hl.symm) S.2.2.2.1 (S.2.2.2.2 _ h1) (S.2.2.2.2 _ h2) (S.2.2.2.2 _ h3) (S.2.2.2.2 _ h4) hK hW.1 hW.2.1 hW.2.2 q0 q1 0 0 ha0 ha1 rfl rfl rfl p0 p0 pn (by rw [e0, en]; omega) (by rw [e0, en]; omega) (fun i _ => rfl) hR.1 hR.2 hdg (fun H1 locs1 g1 g2 g3 => ?_)
  rw [e0, en] at g1 g2
  have hlt : q1 < ws.length := (List.getElem?_eq_some_iff.mp ha1).1
  have e1 : va_cpy (fun k => nI (f k)) (fun k => nI (g k)) 0 0 n = fun k => nI ((fun k => if 0 ≤ k ∧ k < 0 + n then f (0 + (k - 0)) else g k) k) := by
    funext k
    unfold va_cpy
    dsimp only
    split <;> rfl
  rw [e1] at g1 g2
  have h := kw_arr (D := D) (A := A) (H0 := H0) ⟨g1, g2, g3⟩ q1 (List.getElem?_set_self hlt) f (fun k hk => by
    show (if 0 ≤ k ∧ k < 0 + n then f (0 + (k - 0)) else g k) = f k
    rw [if_pos ⟨Nat.zero_le k, by omega⟩, Nat.zero_add, Nat.sub_zero])
  rw [List.set_set] at h
  exact k H1 locs1 h
end KC
