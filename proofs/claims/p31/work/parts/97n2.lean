/-! ===== the law: rows for what it calls ===== -/
def fpOk2 : Prop := ∀ n q : Nat, n < 2147483648 → q < 2147483648 → vf_n64 (FP.dmul (FP.i2d (nI (n - q))) FP.dconst1) ∧ FP.dmul (FP.i2d (nI (n - q))) FP.dconst1 = FP.i2d (nI (n - q)) ∧ (¬ n = 0 → vf_n64 (FP.ddiv (FP.i2d (nI (n - q))) (FP.i2d (nI n)))) ∧ Op.cmpValue (FP.dcmp (sh n q) (sh n q)) CmpOp.l = 0
def LC (p : Program) (s : State) (m : MethodId) (cd : Code) (b L : Nat) (xs : Nat → Int32) (D : va_G) (c : Nat → ClassId) : Prop :=
  CallFix p m cd cL_law 10 s #[Value.ref b] wsL_law RL ∧ va_K D vwCl (vT c) s ∧ nW s ∧ sW s ∧ eV (fun q => s.heap.size ≤ q) s s.heap ∧ va_X b L xs s s.heap ∧ b < s.heap.size ∧ L ≤ 260
abbrev LW (c : Nat → ClassId) (a : Nat → Nat) (bb : Nat → Nat → Nat) (θ : Nat → Nat → Nat → Nat) (ρ κ : Nat → Nat → Nat) (d : Nat → Nat) (g : Nat → Nat → Nat) (η : Nat → Nat → Nat → Nat) (ρ1 κ1 : Nat → Nat → Nat) (o : Nat) (f : Nat → Nat) : va_W := wP c a bb θ ρ κ ++ (wP c d g η ρ1 κ1 ++ wI c o f)
section LQ
variable {p : Program} {l : Launch} {e : Env} {s : State} {m : MethodId} {below : List Frame} {meth : Method} {cd : Code} {H : Heap} {locs : List Loc} {cells slots : Nat} {Q : State → Prop} {pc : Nat} {ls : Array Slot} {rest : List Value} {D : va_G} {c : Nat → ClassId} {b L : Nat} {xs : Nat → Int32} {a d : Nat → Nat} {bb g : Nat → Nat → Nat} {θ η : Nat → Nat → Nat → Nat} {ρ κ ρ1 κ1 : Nat → Nat → Nat} {o T : Nat} {f : Nat → Nat}
theorem iv14 (iv : Iv (θ 0) T) : θ 0 14 0 ≤ T ∧ θ 0 15 0 ≤ T := ⟨iv.1.1.2.2.2.2.2.2.2.2.2.2.1, iv.1.1.2.2.2.2.2.2.2.2.2.2.2⟩
set_option maxRecDepth 20000 in
theorem lq_alike (hfp : fpOk2) (C : LC p s m cd b L xs D c) (hl : ls.size = 10) (hW : kw D (fun q => s.heap.size ≤ q) s.heap (LW c a bb θ ρ κ d g η ρ1 κ1 o f) H locs) (he : η 0 = θ 0) (iv : Iv (θ 0) T) (hT : T < 100000000) (hst : (rest.map fun v => v.category).sum ≤ 8) (hdg : decode cL_law pc = .ok (.invokestatic 106, 3)) (hcs : cells ≤ 600104 ∧ slots ≤ 7301314)
    (kk : ∀ (H : Heap) (locs : List Loc), kw D (fun q => s.heap.size ≤ q) s.heap (LW c a bb θ ρ κ d g η ρ1 κ1 o f) H locs → W p l e room_1 s m #[Value.ref b] below meth cd H locs cells slots Q (F0 m (pc + 3) ls (.int (nI 1) :: rest))) : W p l e room_1 s m #[Value.ref b] below meth cd H locs cells slots Q (F0 m pc ls (.ref (d 0) :: .ref (a 0) :: rest)) := by
  obtain ⟨S, hK, hN, hSt, hV, hX, hbl, hL⟩ := C
  have hA : ∀ q, s.heap.size ≤ q → (fun q => s.heap.size ≤ q) q := fun _ h => h
  obtain ⟨i14, i15⟩ := iv14 iv
  obtain ⟨f1, f2, f3, f4⟩ := hfp (θ 0 14 0) (θ 0 15 0) (by omega) (by omega)
  have hW2 : kw D (fun q => s.heap.size ≤ q) s.heap ((wP c a bb θ ρ κ ++ wP c d g η ρ1 κ1) ++ wI c o f) H locs := by rw [List.append_assoc]; exact hW
  refine k_SI3 (As := [.ref (a 0), .ref (d 0)]) (rest := rest) S hK hl hW2 (KFr.lft hW2 hA) hN hSt hV (MI2.to3 (mL_areAlike l D c a bb θ ρ κ d g η ρ1 κ1 _ T he iv.1.1 hT f3 f4)) gL_law_L_areAlike rfl pdL_areAlike ⟨⟨rfl, rfl⟩, Nat.le_of_ble_eq_true rfl, Nat.le_of_ble_eq_true rfl⟩ rfl hst hdg hcs (fun H1 locs1 h1 => ?_)
  rw [List.append_assoc] at h1
  exact kk H1 locs1 h1
set_option maxRecDepth 20000 in
theorem lq_o (C : LC p s m cd b L xs D c) (hl : ls.size = 10) {x x1 y z z1 : va_W} (hW : kw D (fun q => s.heap.size ≤ q) s.heap (x ++ (y ++ z)) H locs) {a0 o0 : Nat} {v r : Int32} (hM : ∀ sz, MW l yL_act wsL_act rmL_act D c sz (x ++ z) [.ref a0, .int v, .ref o0] r (x1 ++ z1)) (hst : (rest.map fun v => v.category).sum ≤ 8) (hdg : decode cL_law pc = .ok (.invokestatic 102, 3)) (hcs : cells + 1 ≤ 600104 ∧ slots + 6 ≤ 7301314)
    (kk : ∀ (H : Heap) (locs : List Loc), kw D (fun q => s.heap.size ≤ q) s.heap (x1 ++ (y ++ z1)) H locs → W p l e room_1 s m #[Value.ref b] below meth cd H locs (cells + 1) (slots + 6) Q (F0 m (pc + 3) ls (.int r :: rest))) : W p l e room_1 s m #[Value.ref b] below meth cd H locs cells slots Q (F0 m pc ls (.ref o0 :: .int v :: .ref a0 :: rest)) := by
  obtain ⟨S, hK, hN, hSt, hV, hX, hbl, hL⟩ := C
  have hA : ∀ q, s.heap.size ≤ q → (fun q => s.heap.size ≤ q) q := fun _ h => h
  have hW2 := hW.perm (pm3 x y z)
  exact k_SWn (As := [.ref a0, .int v, .ref o0]) (rest := rest) S hK hl hW2 (KFr.rgt hW2 hA) hN hSt hV (hM _) gL_law_L_act rfl pdL_act ⟨⟨rfl, rfl⟩, Nat.le_of_ble_eq_true rfl, Nat.le_of_ble_eq_true rfl⟩ rfl hst hdg hcs (fun H1 locs1 h1 => kk H1 locs1 (h1.perm (pm3 y x1 z1)))
set_option maxRecDepth 20000 in
theorem lq_p (C : LC p s m cd b L xs D c) (hl : ls.size = 10) {x y y1 z z1 : va_W} (hW : kw D (fun q => s.heap.size ≤ q) s.heap (x ++ (y ++ z)) H locs) {a0 o0 : Nat} {v r : Int32} (hM : ∀ sz, MW l yL_act wsL_act rmL_act D c sz (y ++ z) [.ref a0, .int v, .ref o0] r (y1 ++ z1)) (hst : (rest.map fun v => v.category).sum ≤ 8) (hdg : decode cL_law pc = .ok (.invokestatic 102, 3)) (hcs : cells + 1 ≤ 600104 ∧ slots + 6 ≤ 7301314)
    (kk : ∀ (H : Heap) (locs : List Loc), kw D (fun q => s.heap.size ≤ q) s.heap (x ++ (y1 ++ z1)) H locs → W p l e room_1 s m #[Value.ref b] below meth cd H locs (cells + 1) (slots + 6) Q (F0 m (pc + 3) ls (.int r :: rest))) : W p l e room_1 s m #[Value.ref b] below meth cd H locs cells slots Q (F0 m pc ls (.ref o0 :: .int v :: .ref a0 :: rest)) := by
  obtain ⟨S, hK, hN, hSt, hV, hX, hbl, hL⟩ := C
  have hA : ∀ q, s.heap.size ≤ q → (fun q => s.heap.size ≤ q) q := fun _ h => h
  exact k_SWn (As := [.ref a0, .int v, .ref o0]) (rest := rest) S hK hl hW (KFr.rgt hW hA) hN hSt hV (hM _) gL_law_L_act rfl pdL_act ⟨⟨rfl, rfl⟩, Nat.le_of_ble_eq_true rfl, Nat.le_of_ble_eq_true rfl⟩ rfl hst hdg hcs kk
set_option maxRecDepth 20000 in
theorem lq_17 (C : LC p s m cd b L xs D c) (hl : ls.size = 10) {y : va_W} (hW : kw D (fun q => s.heap.size ≤ q) s.heap (wP c a bb θ ρ κ ++ y) H locs) (iv : Iv (θ 0) T) (hT : T < 100000000) (hst : (rest.map fun v => v.category).sum ≤ 8) (hdg : decode cL_law pc = .ok (.invokevirtual 63, 3)) (hcs : cells ≤ 600104 ∧ slots ≤ 7301314)
    (kk : ∀ (H : Heap) (locs : List Loc), kw D (fun q => s.heap.size ≤ q) s.heap (wP c a bb θ ρ κ ++ y) H locs → W p l e room_1 s m #[Value.ref b] below meth cd H locs cells slots Q (F0 m (pc + 3) ls (.int (nI (κ 3 0)) :: rest))) : W p l e room_1 s m #[Value.ref b] below meth cd H locs cells slots Q (F0 m pc ls (.int (nI 17) :: .ref (a 0) :: rest)) := by
  obtain ⟨S, hK, hN, hSt, hV, hX, hbl, hL⟩ := C
  have hA : ∀ q, s.heap.size ≤ q → (fun q => s.heap.size ≤ q) q := fun _ h => h
  refine k_VI2 (rest := rest) S hK hl hW (KFr.lft hW hA) hN (mX2_count_k l D c a bb θ ρ κ _ 17 T (by decide) iv.1.1 (by omega)) gL_law_X2_count rfl pdX2_count ⟨⟨rfl, rfl⟩, Nat.le_of_ble_eq_true rfl, Nat.le_of_ble_eq_true rfl⟩ 0 2 rfl rfl rfl rfl hst hdg hcs (fun H locs hW => ?_)
  exact k_top (cn_17 _ _) (kk H locs hW)
set_option maxRecDepth 20000 in
theorem lq_undo (C : LC p s m cd b L xs D c) (hl : ls.size = 10) {y : va_W} (hW : kw D (fun q => s.heap.size ≤ q) s.heap (wP c a bb θ ρ κ ++ y) H locs) (hold : κ 2 0 < 6) (hcnt : κ 3 0 ≤ 6) (h0 : ¬ κ 3 0 = 0) (hst : (rest.map fun v => v.category).sum ≤ 8) (hdg : decode cL_law pc = .ok (.invokevirtual 93, 3)) (hcs : cells ≤ 600104 ∧ slots ≤ 7301314)
    (kk : ∀ (H : Heap) (locs : List Loc), kw D (fun q => s.heap.size ≤ q) s.heap (wP c a bb (pst θ 0 (θ (3 + (κ 2 0 + (κ 3 0 - 1)) % 6))) ρ (pu κ 3 (kc (κ 3 0 - 1))) ++ y) H locs → W p l e room_1 s m #[Value.ref b] below meth cd H locs cells slots Q (F0 m (pc + 3) ls (.int (nI (κ 3 0 - 1)) :: rest))) : W p l e room_1 s m #[Value.ref b] below meth cd H locs cells slots Q (F0 m pc ls (.ref (a 0) :: rest)) := by
  obtain ⟨S, hK, hN, hSt, hV, hX, hbl, hL⟩ := C
  have hA : ∀ q, s.heap.size ≤ q → (fun q => s.heap.size ≤ q) q := fun _ h => h
  exact k_VI2 (rest := rest) S hK hl hW (KFr.lft hW hA) hN (mX2_undo_k l D c a bb θ ρ κ _ hold hcnt h0) gL_law_X2_undo rfl pdX2_undo ⟨⟨rfl, rfl⟩, Nat.le_of_ble_eq_true rfl, Nat.le_of_ble_eq_true rfl⟩ 0 2 rfl rfl rfl rfl hst hdg hcs kk
theorem lq_ld (C : LC p s m cd b L xs D c) {x y : va_W} (hW : kw D (fun q => s.heap.size ≤ q) s.heap (x ++ (y ++ wI c o f)) H locs) (hdg : decode cL_law pc = .ok (.iaload, 1))
    (kk : W p l e room_1 s m #[Value.ref b] below meth cd H locs cells slots Q (F0 m (pc + 1) ls (.int (nI (f 0)) :: rest))) : W p l e room_1 s m #[Value.ref b] below meth cd H locs cells slots Q (F0 m pc ls (.int (nI 0) :: .ref o :: rest)) := by
  obtain ⟨S, hK, hN, hSt, hV, hX, hbl, hL⟩ := C
  have hq : (x ++ (y ++ wI c o f))[(x ++ y).length]? = some (o, .inl (c 0, 1, .inl (fun k => nI (f k)))) := by rw [← List.append_assoc]; simp [wI]
  exact kn_ald S hK hW (x ++ y).length (f := f) hq (by decide) (by decide) hdg kk
theorem lq_low (C : LC p s m cd b L xs D c) (hl : ls.size = 10) {w : va_W} (hW : kw D (fun q => s.heap.size ≤ q) s.heap w H locs) {v : Int32} {n : Nat} (h0 : 0 < n) (hn : n < 2147483648) (hst : (rest.map fun v => v.category).sum ≤ 8) (hdg : decode cL_law pc = .ok (.invokestatic 47, 3)) (hcs : cells ≤ 600104 ∧ slots ≤ 7301314)
    (kk : ∀ (H : Heap) (locs : List Loc), kw D (fun q => s.heap.size ≤ q) s.heap w H locs → W p l e room_1 s m #[Value.ref b] below meth cd H locs cells slots Q (F0 m (pc + 3) ls (.int (nI (lw v n)) :: rest))) : W p l e room_1 s m #[Value.ref b] below meth cd H locs cells slots Q (F0 m pc ls (.int (nI n) :: .int v :: rest)) := by
  obtain ⟨S, hK, hN, hSt, hV, hX, hbl, hL⟩ := C
  have hA : ∀ q, s.heap.size ≤ q → (fun q => s.heap.size ≤ q) q := fun _ h => h
  exact k_SI (As := [.int v, .int (nI n)]) (rest := rest) S hK hl hW (KFr.nil hW hA) (mL_low l D c _ v n h0 hn) gL_law_L_low rfl pdL_low ⟨⟨rfl, rfl⟩, Nat.le_of_ble_eq_true rfl, Nat.le_of_ble_eq_true rfl⟩ rfl hst hdg hcs kk
set_option maxRecDepth 20000 in
theorem lq_pins (C : LC p s m cd b L xs D c) (hl : ls.size = 10) {y : va_W} (hW : kw D (fun q => s.heap.size ≤ q) s.heap (wP c a bb θ ρ κ ++ y) H locs) (iv : Iv (θ 0) T) (hT : T < 100000000) {t j k : Nat} (ht : t < 3) (hj : j < 12) (hk : k < 32) (hst : (rest.map fun v => v.category).sum ≤ 8) (hdg : decode cL_law pc = .ok (.invokestatic 110, 3)) (hcs : cells ≤ 600104 ∧ slots ≤ 7301314)
    (kk : ∀ (H : Heap) (locs : List Loc), kw D (fun q => s.heap.size ≤ q) s.heap (wP c a bb θ ρ κ ++ y) H locs → W p l e room_1 s m #[Value.ref b] below meth cd H locs cells slots Q (F0 m (pc + 3) ls (.int (nI 1) :: rest))) : W p l e room_1 s m #[Value.ref b] below meth cd H locs cells slots Q (F0 m pc ls (.int (nI k) :: .int (nI j) :: .int (nI t) :: .ref (a 0) :: rest)) := by
  obtain ⟨S, hK, hN, hSt, hV, hX, hbl, hL⟩ := C
  have hA : ∀ q, s.heap.size ≤ q → (fun q => s.heap.size ≤ q) q := fun _ h => h
  exact k_SI3 (As := [.ref (a 0), .int (nI t), .int (nI j), .int (nI k)]) (rest := rest) S hK hl hW (KFr.lft hW hA) hN hSt hV (MI2.to3 (mL_arePinsSo l D c a bb θ ρ κ _ t j k T ht hj hk iv.1.1 (by omega))) gL_law_L_arePinsSo rfl pdL_arePinsSo ⟨⟨rfl, rfl⟩, Nat.le_of_ble_eq_true rfl, Nat.le_of_ble_eq_true rfl⟩ rfl hst hdg hcs kk
set_option maxRecDepth 20000 in
theorem lq_teeth (hfp : fpOk2) (C : LC p s m cd b L xs D c) (hl : ls.size = 10) {y : va_W} (hW : kw D (fun q => s.heap.size ≤ q) s.heap (wP c a bb θ ρ κ ++ y) H locs) (iv : Iv (θ 0) T) (hT : T < 100000000) (hst : (rest.map fun v => v.category).sum ≤ 8) (hdg : decode cL_law pc = .ok (.invokestatic 114, 3)) (hcs : cells ≤ 600104 ∧ slots ≤ 7301314)
    (kk : ∀ (H : Heap) (locs : List Loc), kw D (fun q => s.heap.size ≤ q) s.heap (wP c a bb θ ρ κ ++ y) H locs → W p l e room_1 s m #[Value.ref b] below meth cd H locs cells slots Q (F0 m (pc + 3) ls (.int (nI 1) :: rest))) : W p l e room_1 s m #[Value.ref b] below meth cd H locs cells slots Q (F0 m pc ls (.ref (a 0) :: rest)) := by
  obtain ⟨S, hK, hN, hSt, hV, hX, hbl, hL⟩ := C
  have hA : ∀ q, s.heap.size ≤ q → (fun q => s.heap.size ≤ q) q := fun _ h => h
  obtain ⟨i14, i15⟩ := iv14 iv
  obtain ⟨f1, f2, f3, f4⟩ := hfp (θ 0 14 0) (θ 0 15 0) (by omega) (by omega)
  exact k_SI3 (As := [.ref (a 0)]) (rest := rest) S hK hl hW (KFr.lft hW hA) hN hSt hV (MI2.to3 (mL_areTeethSo l D c a bb θ ρ κ _ T iv hT f1 f2 f3 f4)) gL_law_L_areTeethSo rfl pdL_areTeethSo ⟨⟨rfl, rfl⟩, Nat.le_of_ble_eq_true rfl, Nat.le_of_ble_eq_true rfl⟩ rfl hst hdg hcs kk
/-- behind a step by hand -/
abbrev θs (θ : Nat → Nat → Nat → Nat) (κ : Nat → Nat → Nat) : Nat → Nat → Nat → Nat := pst (svT (pst θ 1 ((onS 1 (pu (θ 0) 11 (kc (θ 0 11 0)))).2)) ((κ 2 0 + κ 3 0) % 6)) 0 (θ 0)
abbrev κs (κ : Nat → Nat → Nat) : Nat → Nat → Nat := pu (svK κ) 3 (kc (svK κ 3 0 - 1))
set_option maxRecDepth 20000 in
theorem lq_step (C : LC p s m cd b L xs D c) (hl : ls.size = 10) {y : va_W} (hW : kw D (fun q => s.heap.size ≤ q) s.heap (wP c a bb θ ρ κ ++ y) H locs) (iv : Iv (θ 0) T) (hT : T < 100000000) (hold : κ 2 0 < 6) (hcnt : κ 3 0 ≤ 6) (hst : (rest.map fun v => v.category).sum ≤ 8) (hdg : decode cL_law pc = .ok (.invokestatic 118, 3)) (hcs : cells ≤ 600104 ∧ slots ≤ 7301314)
    (kk : ∀ (H : Heap) (locs : List Loc), kw D (fun q => s.heap.size ≤ q) s.heap (wP c a bb (θs θ κ) ρ (κs κ) ++ y) H locs → W p l e room_1 s m #[Value.ref b] below meth cd H locs cells slots Q (F0 m (pc + 3) ls (.int (nI 1) :: rest))) : W p l e room_1 s m #[Value.ref b] below meth cd H locs cells slots Q (F0 m pc ls (.ref (a 0) :: rest)) := by
  obtain ⟨S, hK, hN, hSt, hV, hX, hbl, hL⟩ := C
  have hA : ∀ q, s.heap.size ≤ q → (fun q => s.heap.size ≤ q) q := fun _ h => h
  have hM : ∀ sz, MI2 l yL_isStepSo wsL_isStepSo rmL_isStepSo D c sz (wP c a bb θ ρ κ) [.ref (a 0)] (nI (true).toNat) (wP c a bb (θs θ κ) ρ (κs κ)) := fun sz => by
    cases hc : canS (θ 0)
    · exact mL_isStepSo_f l D c a bb θ ρ κ sz T iv hT hold hcnt hc
    · exact mL_isStepSo_t l D c a bb θ ρ κ sz T iv hT hold hcnt hc
  exact k_SI3 (As := [.ref (a 0)]) (rest := rest) S hK hl hW (KFr.lft hW hA) hN hSt hV (MI2.to3 (hM _)) gL_law_L_isStepSo rfl pdL_isStepSo ⟨⟨rfl, rfl⟩, Nat.le_of_ble_eq_true rfl, Nat.le_of_ble_eq_true rfl⟩ rfl hst hdg hcs kk
end LQ
