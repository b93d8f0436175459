/-! ===== the law: what its steps have in common ===== -/
theorem kw.perm {D : va_G} {A : Nat → Prop} {H0 H : Heap} {locs : List Loc} {ws ws' : va_W} (h : kw D A H0 ws H locs) (hp : ws.Perm ws') : kw D A H0 ws' H locs :=
  ⟨vP_iff.mpr (fun q hq => vP_iff.mp h.1 q (hp.mem_iff.mpr hq)), vD_iff.mpr ⟨(List.Perm.pairwise_iff (fun h e => h e.symm) hp).mp (vD_iff.mp h.2.1).1, fun q hq => (vD_iff.mp h.2.1).2 q (hp.mem_iff.mpr hq)⟩, h.2.2⟩
theorem and31 (v : Int32) : ∃ k : Nat, k < 32 ∧ v &&& nI 31 = nI k := by
  refine ⟨(v &&& nI 31).toBitVec.toNat, ?_, ?_⟩
  · rw [Int32.toBitVec_and, BitVec.toNat_and]
    exact Nat.lt_of_le_of_lt Nat.and_le_right (by decide)
  · apply Int32.toBitVec_inj.mp
    show _ = (Int32.ofNat _).toBitVec
    rw [Int32.toBitVec_ofNat', BitVec.ofNat_toNat, BitVec.setWidth_eq]
def LC (p : Program) (s : State) (m : MethodId) (cd : Code) (b L : Nat) (xs : Nat → Int32) (D : va_G) (c : Nat → ClassId) : Prop :=
  CallFix p m cd cL_law 9 s #[Value.ref b] wsL_law RL ∧ va_K D vwCl (vT c) s ∧ nW s ∧ sW s ∧ eV (fun q => s.heap.size ≤ q) s s.heap ∧ va_X b L xs s s.heap ∧ b < s.heap.size ∧ L ≤ 2560
/-- how it goes on behind a case -/
def LK (p : Program) (l : Launch) (e : Env) (s : State) (m : MethodId) (below : List Frame) (meth : Method) (cd : Code) (Q : State → Prop) (b i : Nat) (D : va_G) (c : Nat → ClassId) (a : Nat → Nat) (bb : Nat → Nat → Nat) (a' : Nat → Nat) (o T cells slots : Nat) : Prop :=
  ∀ (θ : Nat → Nat → Nat → Nat) (ρ κ φ : Nat → Nat → Nat) (δ : Int64) (f : Nat → Int64) (H : Heap) (locs : List Loc) (ls : Array Slot), Rl θ ρ κ φ T → kw D (fun q => s.heap.size ≤ q) s.heap (wM c a' φ δ ++ (wP c a bb θ ρ κ ++ wO c o f)) H locs → lv_has ls 9 [(4, .int (nI i)), (3, .ref o), (2, .ref (a' 0)), (1, .ref (a 0)), (0, .ref b)] → W p l e room_1 s m #[Value.ref b] below meth cd H locs cells slots Q (F0 m 1683 ls [])
section LWK
variable {p : Program} {l : Launch} {e : Env} {s : State} {m : MethodId} {below : List Frame} {meth : Method} {cd : Code} {H : Heap} {locs : List Loc} {cells slots : Nat} {Q : State → Prop} {pc : Nat} {ls : Array Slot} {rest : List Value} {D : va_G} {c : Nat → ClassId} {b L i : Nat} {xs : Nat → Int32}
theorem lc_ld (C : LC p s m cd b L xs D c) {w : va_W} (hW : kw D (fun q => s.heap.size ≤ q) s.heap w H locs) (k : Nat) {n : Int} (hk : i + k < L) (h4 : ls[4]? = some (.val (.int (nI i)))) (h0 : ls[0]? = some (.val (.ref b))) (d0 : decode cL_law pc = .ok (.aload_n 0, 1)) (d1 : decode cL_law (pc + 1) = .ok (.iload 4, 2)) (d2 : decode cL_law (pc + 3) = .ok (.iconst n, 1)) (hn : Int32.ofInt n = nI k) (d3 : decode cL_law (pc + 4) = .ok (.iadd, 1)) (d4 : decode cL_law (pc + 5) = .ok (.iaload, 1))
    (kk : W p l e room_1 s m #[Value.ref b] below meth cd H locs cells slots Q (F0 m (pc + 6) ls (.int (xs (i + k)) :: rest))) : W p l e room_1 s m #[Value.ref b] below meth cd H locs cells slots Q (F0 m pc ls rest) := by
  obtain ⟨S, hK, hN, hSt, hV, hX, hbl, hL⟩ := C
  refine lv_aload_n S.1 S.2.1 d0 rfl h0 ?_
  refine lv_iload S.1 S.2.1 d1 h4 ?_
  refine lv_iconst (v := nI k) S.1 S.2.1 d2 hn ?_
  refine kn_iadd S d3 ?_
  refine va_sld (A := fun q => s.heap.size ≤ q) S.1 S.2.1 hX hbl (Nat.not_le.mpr hbl) hW.2.2 (vp_in_nI hk (by omega)) d4 ?_
  rw [nI_clamp (by omega)]
  exact kk
theorem lc_tail (C : LC p s m cd b L xs D c) {a : Nat → Nat} {bb : Nat → Nat → Nat} {a' : Nat → Nat} {o : Nat} {f : Nat → Int64} {θ : Nat → Nat → Nat → Nat} {ρ κ φ : Nat → Nat → Nat} {δ : Int64} {k : Nat} {r : Int32} (hW : kw D (fun q => s.heap.size ≤ q) s.heap (wM c a' φ δ ++ (wP c a bb θ ρ κ ++ wO c o f)) H locs) (hl : lv_has ls 9 [(6, .int r), (5, .int (nI k)), (4, .int (nI i)), (3, .ref o), (2, .ref (a' 0)), (1, .ref (a 0)), (0, .ref b)]) (hk : k < 3) (h5 : φ 5 0 = k) (h0 : k = 0 → f 0 = r.toInt64) (hcs : cells ≤ 601024 ∧ slots ≤ 7293033) {off : Int}
    (d0 : decode cL_law pc = .ok (.aload_n 2, 1)) (d1 : decode cL_law (pc + 1) = .ok (.invokevirtual 96, 3)) (d2 : decode cL_law (pc + 4) = .ok (.iload 5, 2)) (d3 : decode cL_law (pc + 6) = .ok (.if_icmp .eq 5, 3)) (d4 : decode cL_law (pc + 11) = .ok (.iload 5, 2)) (d5 : decode cL_law (pc + 13) = .ok (.ifCond .ne 15, 3)) (d6 : decode cL_law (pc + 16) = .ok (.aload_n 3, 1)) (d7 : decode cL_law (pc + 17) = .ok (.iconst 0, 1)) (d8 : decode cL_law (pc + 18) = .ok (.laload, 1)) (d9 : decode cL_law (pc + 19) = .ok (.iload 6, 2)) (d10 : decode cL_law (pc + 21) = .ok (.i2l, 1)) (d11 : decode cL_law (pc + 22) = .ok (.lcmp, 1)) (d12 : decode cL_law (pc + 23) = .ok (.ifCond .eq 5, 3)) (d13 : decode cL_law (pc + 28) = .ok (.goto off, 3)) (ht : ((pc + 28 : Nat) : Int) + off = ((1683 : Nat) : Int))
    (kk : ∀ (H : Heap) (locs : List Loc), kw D (fun q => s.heap.size ≤ q) s.heap (wM c a' φ δ ++ (wP c a bb θ ρ κ ++ wO c o f)) H locs → W p l e room_1 s m #[Value.ref b] below meth cd H locs cells slots Q (F0 m 1683 ls [])) : W p l e room_1 s m #[Value.ref b] below meth cd H locs cells slots Q (F0 m pc ls []) := by
  obtain ⟨S, hK, hN, hSt, hV, hX, hbl, hL⟩ := C
  have hA : ∀ q, s.heap.size ≤ q → (fun q => s.heap.size ≤ q) q := fun _ h => h
  refine lv_aload_n S.1 S.2.1 d0 rfl (lv_at hl 4 rfl) ?_
  refine k_VI (rest := []) S hK hl.1 hW (KFr.lft hW hA) (mX3_thrown l D c a' φ δ _) gL_law_X3_thrown rfl pdX3_thrown ⟨⟨rfl, rfl⟩, Nat.le_of_ble_eq_true rfl, Nat.le_of_ble_eq_true rfl⟩ 0 3 rfl rfl rfl rfl (Nat.le_of_ble_eq_true rfl) d1 hcs (fun H locs hW => ?_)
  refine lv_iload S.1 S.2.1 d2 (lv_at hl 1 rfl) ?_
  refine lv_icmp_eq (tgt := pc + 11) S.1 S.2.1 d3 (by omega) (fun _ => ?_) (fun q => absurd (by rw [h5]) q)
  refine lv_iload S.1 S.2.1 d4 (lv_at hl 1 rfl) ?_
  have fin : ∀ (H : Heap) (locs : List Loc), kw D (fun q => s.heap.size ≤ q) s.heap (wM c a' φ δ ++ (wP c a bb θ ρ κ ++ wO c o f)) H locs → W p l e room_1 s m #[Value.ref b] below meth cd H locs cells slots Q (F0 m (pc + 28) ls []) := fun H locs hW => lv_goto (tgt := 1683) S.1 S.2.1 d13 ht (kk H locs hW)
  refine lv_if_ne (tgt := pc + 28) S.1 S.2.1 d5 (by omega) (fun _ => fin _ _ hW) (fun q => ?_)
  have k0 : k = 0 := (nI_eq (by omega) (by decide)).mp q
  refine lv_aload_n S.1 S.2.1 d6 rfl (lv_at hl 3 rfl) ?_
  refine lv_iconst (v := nI 0) S.1 S.2.1 d7 rfl ?_
  refine va_lald S.1 S.2.1 hK hW.1 82 3 (n := 1) (f := f) rfl rfl (vp_in_nI (by decide) (by decide)) d8 ?_
  rw [nI_clamp (by decide), h0 k0]
  refine lv_iload S.1 S.2.1 d9 (lv_at hl 0 rfl) ?_
  refine lv_i2l S.1 S.2.1 d10 rfl ?_
  refine W.lcmp S.1 S.2.1 d11 ?_
  exact lv_if_eq (tgt := pc + 28) S.1 S.2.1 d12 (by omega) (fun _ => fin _ _ hW) (fun q => absurd (by simp [lg_cmp]) q)
end LWK
