/-! ===== a row's cell speaks of its places alone ===== -/
theorem arrV_congr {cA : ClassId} {n : Nat} {f g : Nat → Value} (h : ∀ j, j < n → f j = g j) : arrV cA n f = arrV cA n g := by
  have e : (fun (j : Fin n) => f j.val) = (fun (j : Fin n) => g j.val) := funext fun j => h j.val j.isLt
  unfold arrV
  rw [e]
theorem kw_arr {D : va_G} {A : Nat → Prop} {H0 : Heap} {ws : va_W} {H : Heap} {locs : List Loc} (hW : kw D A H0 ws H locs) (q0 : Nat) {b : Nat} {cA : ClassId} {n : Nat} {f : Nat → Nat} (ha : ws[q0]? = some (b, .inl (cA, n, .inl (fun k => nI (f k))))) (g : Nat → Nat) (hfg : ∀ k, k < n → f k = g k) : kw D A H0 (ws.set q0 (b, .inl (cA, n, .inl (fun k => nI (g k))))) H locs := by
  obtain ⟨hP, hD, hS⟩ := hW
  have hlt : q0 < ws.length := (List.getElem?_eq_some_iff.mp ha).1
  have key : ∀ (k : Nat) (q : Nat × va_E), (ws.set q0 (b, .inl (cA, n, .inl (fun k => nI (g k)))))[k]? = some q → (k = q0 ∧ q = (b, .inl (cA, n, .inl (fun k => nI (g k))))) ∨ (k ≠ q0 ∧ ws[k]? = some q) := by
    intro k q h
    by_cases e : q0 = k
    · subst e
      rw [List.getElem?_set_self hlt] at h
      exact Or.inl ⟨rfl, (Option.some.inj h).symm⟩
    · rw [List.getElem?_set_ne e] at h
      exact Or.inr ⟨fun z => e z.symm, h⟩
  refine ⟨fun k q hq => ?_, ⟨fun i j x y hi hj hxy => ?_, fun k q hq => ?_⟩, hS⟩
  · rcases key k q hq with ⟨-, rfl⟩ | ⟨-, h⟩
    · have h1 := hP q0 _ ha
      show H[b]? = some (vp_cell cA (n, .inl (fun k => nI (g k))))
      have h2 : H[b]? = some (vp_cell cA (n, .inl (fun k => nI (f k)))) := h1
      rw [h2]
      show some (arrV cA n (fun j => .int (nI (f j)))) = some (arrV cA n (fun j => .int (nI (g j))))
      exact congrArg some (arrV_congr fun j hj => by
        show Value.int (nI (f j)) = Value.int (nI (g j))
        rw [hfg j hj])
    · exact hP k q h
  · rcases key i x hi with ⟨e1, e2⟩ | ⟨e1, h1⟩ <;> rcases key j y hj with ⟨e3, e4⟩ | ⟨e3, h3⟩
    · rw [e1, e3]
    · subst e2
      exact absurd (hD.1 _ _ _ _ ha h3 hxy).symm e3
    · subst e4
      exact absurd (hD.1 _ _ _ _ h1 ha hxy) e1
    · exact hD.1 _ _ _ _ h1 h3 hxy
  · rcases key k q hq with ⟨-, rfl⟩ | ⟨-, h⟩
    · exact hD.2 q0 (b, .inl (cA, n, .inl (fun k => nI (f k)))) ha
    · exact hD.2 k q h
