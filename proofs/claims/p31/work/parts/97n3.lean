/-! ===== the law: a round of its loop ===== -/
section LRW
variable {p : Program} {l : Launch} {e : Env} {s : State} {m : MethodId} {below : List Frame} {meth : Method} {cd : Code} {H : Heap} {locs : List Loc} {cells slots : Nat} {Q : State → Prop} {ls : Array Slot} {D : va_G} {c : Nat → ClassId} {b L : Nat} {xs : Nat → Int32} {a d : Nat → Nat} {bb g : Nat → Nat → Nat} {o : Nat}
/-- how it goes on behind a round -/
def LKn (p : Program) (l : Launch) (e : Env) (s : State) (m : MethodId) (below : List Frame) (meth : Method) (cd : Code) (Q : State → Prop) (b : Nat) (D : va_G) (c : Nat → ClassId) (a : Nat → Nat) (bb : Nat → Nat → Nat) (d : Nat → Nat) (g : Nat → Nat → Nat) (o i T cells slots : Nat) : Prop :=
  ∀ (θ : Nat → Nat → Nat → Nat) (ρ κ : Nat → Nat → Nat) (η : Nat → Nat → Nat → Nat) (ρ1 κ1 : Nat → Nat → Nat) (f : Nat → Nat) (H : Heap) (locs : List Loc) (ls : Array Slot), η 0 = θ 0 → Iv (θ 0) T → κ 2 0 < 6 → κ 3 0 ≤ 6 → κ1 2 0 < 6 → κ1 3 0 ≤ 6 → kw D (fun q => s.heap.size ≤ q) s.heap (LW c a bb θ ρ κ d g η ρ1 κ1 o f) H locs → lv_has ls 10 [(4, .int (nI i)), (3, .ref o), (2, .ref (d 0)), (1, .ref (a 0)), (0, .ref b)] → W p l e room_1 s m #[Value.ref b] below meth cd H locs cells slots Q (F0 m 276 ls [])
theorem law_209 (hfp : fpOk2) (C : LC p s m cd b L xs D c) {i T : Nat} (hi : i < 56) (hT : T < 100000000) {v : Int32} (fin : LKn p l e s m below meth cd Q b D c a bb d g o i T cells slots) (hcs : cells ≤ 600104 ∧ slots ≤ 7301314) {c1 s1 : Nat} (h1 : c1 ≤ cells) (h2 : s1 ≤ slots) {θ : Nat → Nat → Nat → Nat} {ρ κ : Nat → Nat → Nat} {η : Nat → Nat → Nat → Nat} {ρ1 κ1 : Nat → Nat → Nat} {f : Nat → Nat} (he : η 0 = θ 0) (iv : Iv (θ 0) T) (k2 : κ 2 0 < 6) (k3 : κ 3 0 ≤ 6) (k4 : κ1 2 0 < 6) (k5 : κ1 3 0 ≤ 6) (hW : kw D (fun q => s.heap.size ≤ q) s.heap (LW c a bb θ ρ κ d g η ρ1 κ1 o f) H locs) (hl : lv_has ls 10 [(5, .int v), (4, .int (nI i)), (3, .ref o), (2, .ref (d 0)), (1, .ref (a 0)), (0, .ref b)]) : W p l e room_1 s m #[Value.ref b] below meth cd H locs c1 s1 Q (F0 m 209 ls []) := by
  refine W.widen h1 h2 ?_
  have S := C.1
  refine lv_iload S.1 S.2.1 dL_law_209 (lv_at hl 1 rfl) ?_
  refine lv_iconst (v := nI 3) S.1 S.2.1 dL_law_211 rfl ?_
  refine kn_irem S dL_law_212 (by omega) (by omega) (by omega) ?_
  refine lv_iconst (v := nI 2) S.1 S.2.1 dL_law_213 rfl ?_
  refine kn_ne S (tgt := 276) dL_law_214 (by decide) (by omega) (by omega) (fun _ => fin θ ρ κ η ρ1 κ1 f H locs ls he iv k2 k3 k4 k5 hW (lv_sub hl [1, 2, 3, 4, 5] rfl)) (fun _ => ?_)
  refine lv_aload_n S.1 S.2.1 dL_law_217 rfl (lv_at hl 4 rfl) ?_
  refine lv_iload S.1 S.2.1 dL_law_218 (lv_at hl 0 rfl) ?_
  refine lv_iconst (v := nI 5) S.1 S.2.1 dL_law_220 rfl ?_
  refine lv_ishr S.1 S.2.1 dL_law_221 ?_
  refine lv_iconst (v := nI 3) S.1 S.2.1 dL_law_222 rfl ?_
  refine lq_low C hl.1 hW (by decide) (by decide) (Nat.le_of_ble_eq_true rfl) dL_law_223 hcs (fun H locs hW => ?_)
  refine lv_iload S.1 S.2.1 dL_law_226 (lv_at hl 0 rfl) ?_
  refine lv_bipush (v := nI 7) S.1 S.2.1 dL_law_228 rfl ?_
  refine lv_ishr S.1 S.2.1 dL_law_230 ?_
  refine lv_bipush (v := nI 12) S.1 S.2.1 dL_law_231 rfl ?_
  refine lq_low C hl.1 hW (by decide) (by decide) (Nat.le_of_ble_eq_true rfl) dL_law_233 hcs (fun H locs hW => ?_)
  refine lv_iload S.1 S.2.1 dL_law_236 (lv_at hl 0 rfl) ?_
  refine lv_bipush (v := nI 10) S.1 S.2.1 dL_law_238 rfl ?_
  refine lv_ishr S.1 S.2.1 dL_law_240 ?_
  refine lv_bipush (v := nI 32) S.1 S.2.1 dL_law_241 rfl ?_
  refine lq_low C hl.1 hW (by decide) (by decide) (Nat.le_of_ble_eq_true rfl) dL_law_243 hcs (fun H locs hW => ?_)
  refine lq_pins (rest := []) C hl.1 hW iv hT (lw_lt _ (by decide)) (lw_lt _ (by decide)) (lw_lt _ (by decide)) (Nat.le_of_ble_eq_true rfl) dL_law_246 hcs (fun H locs hW => ?_)
  refine kz_eq S (tgt := 274) dL_law_249 (by decide) (by decide) (fun q => absurd q (by decide)) (fun _ => ?_)
  refine lv_aload_n S.1 S.2.1 dL_law_252 rfl (lv_at hl 4 rfl) ?_
  refine lq_teeth (rest := []) hfp C hl.1 hW iv hT (Nat.le_of_ble_eq_true rfl) dL_law_253 hcs (fun H locs hW => ?_)
  refine kz_eq S (tgt := 274) dL_law_256 (by decide) (by decide) (fun q => absurd q (by decide)) (fun _ => ?_)
  refine lv_aload_n S.1 S.2.1 dL_law_259 rfl (lv_at hl 4 rfl) ?_
  refine lq_step (rest := []) C hl.1 hW iv hT k2 k3 (Nat.le_of_ble_eq_true rfl) dL_law_260 hcs (fun H locs hW => ?_)
  refine kz_eq S (tgt := 274) dL_law_263 (by decide) (by decide) (fun q => absurd q (by decide)) (fun _ => ?_)
  refine lv_aload_n S.1 S.2.1 dL_law_266 rfl (lv_at hl 4 rfl) ?_
  refine lv_aload_n S.1 S.2.1 dL_law_267 rfl (lv_at hl 3 rfl) ?_
  refine lq_alike (rest := []) (θ := θs θ κ) (κ := κs κ) hfp C hl.1 hW he iv hT (Nat.le_of_ble_eq_true rfl) dL_law_268 hcs (fun H locs hW => ?_)
  refine kz_ne S (tgt := 276) dL_law_271 (by decide) (by decide) (fun _ => ?_) (fun q => absurd q (by decide))
  obtain ⟨v2, v3, v0⟩ := svk_ok k2 k3
  exact fin (θs θ κ) ρ (κs κ) η ρ1 κ1 f H locs ls he iv v2 (by show svK κ 3 0 - 1 ≤ 6; omega) k4 k5 hW (lv_sub hl [1, 2, 3, 4, 5] rfl)
/-- the act has gone through: it comes to the other cylinder -/
theorem law_174k (hfp : fpOk2) (hfl : l.stackTraces = false) (C : LC p s m cd b L xs D c) {i T r : Nat} (hi : i < 56) (hT : T < 100000000) (hr : r < 2000000000) {v : Int32} {τ τ' : Nat → Nat → Nat} (hk : AcK yL_act wsL_act rmL_act [.int v] τ r τ') (iv : Iv τ' T) (fin : LKn p l e s m below meth cd Q b D c a bb d g o i T cells slots) (hcs : cells ≤ 600104 ∧ slots ≤ 7301314) {c1 s1 : Nat} (h1 : c1 + 1 ≤ cells) (h2 : s1 + 6 ≤ slots) {θ : Nat → Nat → Nat → Nat} {ρ κ : Nat → Nat → Nat} {η : Nat → Nat → Nat → Nat} {ρ1 κ1 : Nat → Nat → Nat} {f : Nat → Nat} (ho : θ 0 = τ') (he : η 0 = τ) (k2 : κ 2 0 < 6) (k3 : κ 3 0 ≤ 6) (k4 : κ1 2 0 < 6) (k5 : κ1 3 0 ≤ 6) (hW : kw D (fun q => s.heap.size ≤ q) s.heap (LW c a bb θ ρ κ d g η ρ1 κ1 o f) H locs) (hl : lv_has ls 10 [(8, .int (nI r)), (7, .int (nI 0)), (5, .int v), (4, .int (nI i)), (3, .ref o), (2, .ref (d 0)), (1, .ref (a 0)), (0, .ref b)]) : W p l e room_1 s m #[Value.ref b] below meth cd H locs c1 s1 Q (F0 m 174 ls []) := by
  have S := C.1
  have hcs1 : c1 + 1 ≤ 600104 ∧ s1 + 6 ≤ 7301314 := ⟨by omega, by omega⟩
  refine lv_aload_n S.1 S.2.1 dL_law_174 rfl (lv_at hl 5 rfl) ?_
  refine lv_iload S.1 S.2.1 dL_law_175 (lv_at hl 2 rfl) ?_
  refine lv_aload_n S.1 S.2.1 dL_law_177 rfl (lv_at hl 4 rfl) ?_
  refine lq_p (rest := []) C hl.1 hW (fun sz => hk l D c d g η ρ1 κ1 sz o f hfl he k4 k5) (Nat.le_of_ble_eq_true rfl) dL_law_178 hcs1 (fun H locs hW => ?_)
  refine lv_iload S.1 S.2.1 dL_law_181 (lv_at hl 1 rfl) ?_
  refine kn_ne S (tgt := 207) dL_law_183 (by decide) (by decide) (by decide) (fun q => absurd rfl q) (fun _ => ?_)
  refine lv_iload S.1 S.2.1 dL_law_186 (lv_at hl 1 rfl) ?_
  refine kz_ne S (tgt := 199) dL_law_188 (by decide) (by decide) (fun q => absurd rfl q) (fun _ => ?_)
  refine lv_aload_n S.1 S.2.1 dL_law_191 rfl (lv_at hl 4 rfl) ?_
  refine lv_iconst (v := nI 0) S.1 S.2.1 dL_law_192 rfl ?_
  refine lq_ld (rest := []) C hW dL_law_193 ?_
  refine lv_iload S.1 S.2.1 dL_law_194 (lv_at hl 0 rfl) ?_
  refine lv_icmp_ne (tgt := 207) S.1 S.2.1 dL_law_196 (by decide) (fun q => absurd (congrArg nI (fu_at f 0 r)) q) (fun _ => ?_)
  refine lv_aload_n S.1 S.2.1 dL_law_199 rfl (lv_at hl 6 rfl) ?_
  refine lv_aload_n S.1 S.2.1 dL_law_200 rfl (lv_at hl 5 rfl) ?_
  obtain ⟨v2, v3, v0⟩ := svk_ok k4 k5
  have iv' : Iv (θ 0) T := by rw [ho]; exact iv
  have hcs2 : c1 + 1 ≤ 600104 ∧ s1 + 6 ≤ 7301314 := hcs1
  refine lq_alike (rest := []) hfp C hl.1 hW (show τ' = θ 0 from ho.symm) iv' hT (Nat.le_of_ble_eq_true rfl) dL_law_201 hcs2 (fun H locs hW => ?_)
  refine kz_ne S (tgt := 209) dL_law_204 (by decide) (by decide) (fun _ => ?_) (fun q => absurd q (by decide))
  exact law_209 hfp C hi hT fin hcs h1 h2 (show τ' = θ 0 from ho.symm) iv' k2 k3 v2 v3 hW (lv_sub hl [2, 3, 4, 5, 6, 7] rfl)
/-- an act that goes through -/
theorem law_kk (hfp : fpOk2) (hfl : l.stackTraces = false) (C : LC p s m cd b L xs D c) {i T r : Nat} (hi : i < 56) (hT : T < 100000000) (hr : r < 2000000000) {v : Int32} {τ τ' : Nat → Nat → Nat} (hk : AcK yL_act wsL_act rmL_act [.int v] τ r τ') (iv0 : Iv τ T) (iv : Iv τ' T) (fin : LKn p l e s m below meth cd Q b D c a bb d g o i T cells slots) (hcs : cells ≤ 600104 ∧ slots ≤ 7301314) {c1 s1 : Nat} (h1 : c1 + 3 ≤ cells) (h2 : s1 + 18 ≤ slots) {θ : Nat → Nat → Nat → Nat} {ρ κ : Nat → Nat → Nat} {η : Nat → Nat → Nat → Nat} {ρ1 κ1 : Nat → Nat → Nat} {f : Nat → Nat} (ho : θ 0 = τ) (he : η 0 = τ) (k2 : κ 2 0 < 6) (k3 : κ 3 0 ≤ 6) (k4 : κ1 2 0 < 6) (k5 : κ1 3 0 ≤ 6) (hW : kw D (fun q => s.heap.size ≤ q) s.heap (LW c a bb θ ρ κ d g η ρ1 κ1 o f) H locs) (hl : lv_has ls 10 [(6, .int (nI (κ 3 0))), (5, .int v), (4, .int (nI i)), (3, .ref o), (2, .ref (d 0)), (1, .ref (a 0)), (0, .ref b)]) : W p l e room_1 s m #[Value.ref b] below meth cd H locs c1 s1 Q (F0 m 67 ls []) := by
  have S := C.1
  refine lv_aload_n S.1 S.2.1 dL_law_67 rfl (lv_at hl 5 rfl) ?_
  refine lv_iload S.1 S.2.1 dL_law_68 (lv_at hl 1 rfl) ?_
  refine lv_aload_n S.1 S.2.1 dL_law_70 rfl (lv_at hl 3 rfl) ?_
  refine lq_o (rest := []) C hl.1 hW (fun sz => hk l D c a bb θ ρ κ sz o f hfl ho k2 k3) (Nat.le_of_ble_eq_true rfl) dL_law_71 ⟨by omega, by omega⟩ (fun H locs hW => ?_)
  obtain ⟨v2, v3, v0⟩ := svk_ok k2 k3
  refine lv_istore (lv' := [(7, .int (nI 0)), (6, .int (nI (κ 3 0))), (5, .int v), (4, .int (nI i)), (3, .ref o), (2, .ref (d 0)), (1, .ref (a 0)), (0, .ref b)]) S.1 S.2.1 dL_law_74 hl (by decide) rfl (fun ls hl => ?_)
  refine lv_aload_n S.1 S.2.1 dL_law_76 rfl (lv_at hl 4 rfl) ?_
  refine lv_iconst (v := nI 0) S.1 S.2.1 dL_law_77 rfl ?_
  refine lq_ld (rest := []) C hW dL_law_78 ?_
  refine k_top (y := nI r) (congrArg nI (fu_at f 0 r)) ?_
  refine lv_istore (lv' := [(8, .int (nI r)), (7, .int (nI 0)), (6, .int (nI (κ 3 0))), (5, .int v), (4, .int (nI i)), (3, .ref o), (2, .ref (d 0)), (1, .ref (a 0)), (0, .ref b)]) S.1 S.2.1 dL_law_79 hl (by decide) rfl (fun ls hl => ?_)
  refine lv_iload S.1 S.2.1 dL_law_81 (lv_at hl 1 rfl) ?_
  refine kz_eq S (tgt := 107) dL_law_83 (by decide) (by decide) (fun _ => ?_) (fun q => absurd rfl q)
  refine lv_iload S.1 S.2.1 dL_law_107 (lv_at hl 1 rfl) ?_
  refine kz_ne S (tgt := 174) dL_law_109 (by decide) (by decide) (fun q => absurd rfl q) (fun _ => ?_)
  refine lv_iload S.1 S.2.1 dL_law_112 (lv_at hl 3 rfl) ?_
  refine lv_bipush (v := nI 9) S.1 S.2.1 dL_law_114 rfl ?_
  refine lv_ishr S.1 S.2.1 dL_law_116 ?_
  refine lv_iconst (v := nI 1) S.1 S.2.1 dL_law_117 rfl ?_
  refine lv_iand S.1 S.2.1 dL_law_118 ?_
  refine lv_if_ne (tgt := 174) S.1 S.2.1 dL_law_119 (by decide) (fun _ => ?_) (fun _ => ?_)
  · exact law_174k hfp hfl C hi hT hr hk iv fin hcs (c1 := c1 + 1) (s1 := s1 + 6) (by omega) (by omega) (show τ' = τ' from rfl) he v2 v3 k4 k5 hW (lv_sub hl [0, 1, 3, 4, 5, 6, 7, 8] rfl)
  · refine lv_aload_n S.1 S.2.1 dL_law_122 rfl (lv_at hl 7 rfl) ?_
    refine lq_undo (rest := []) C hl.1 hW v2 v3 v0 (Nat.le_of_ble_eq_true rfl) dL_law_123 ⟨by omega, by omega⟩ (fun H locs hW => ?_)
    rw [undo_eq k2 k3] at hW
    have iv1 : Iv (θ 0) T := by rw [ho]; exact iv0
    refine lv_istore (lv' := [(9, .int (nI (svK κ 3 0 - 1))), (8, .int (nI r)), (7, .int (nI 0)), (6, .int (nI (κ 3 0))), (5, .int v), (4, .int (nI i)), (3, .ref o), (2, .ref (d 0)), (1, .ref (a 0)), (0, .ref b)]) S.1 S.2.1 dL_law_126 hl (by decide) rfl (fun ls hl => ?_)
    refine lv_iload S.1 S.2.1 dL_law_128 (lv_at hl 0 rfl) ?_
    refine lv_iload S.1 S.2.1 dL_law_130 (lv_at hl 3 rfl) ?_
    refine lv_bipush (v := nI 6) S.1 S.2.1 dL_law_132 rfl ?_
    have go146 : W p l e room_1 s m #[Value.ref b] below meth cd H locs (c1 + 1) (s1 + 6) Q (F0 m 146 ls []) := by
      refine lv_aload_n S.1 S.2.1 dL_law_146 rfl (lv_at hl 8 rfl) ?_
      refine lv_aload_n S.1 S.2.1 dL_law_147 rfl (lv_at hl 7 rfl) ?_
      refine lq_alike (rest := []) hfp C hl.1 hW (show η 0 = θ 0 from he.trans ho.symm) iv1 hT (Nat.le_of_ble_eq_true rfl) dL_law_148 ⟨by omega, by omega⟩ (fun H locs hW => ?_)
      refine kz_eq S (tgt := 172) dL_law_151 (by decide) (by decide) (fun q => absurd q (by decide)) (fun _ => ?_)
      refine lv_aload_n S.1 S.2.1 dL_law_154 rfl (lv_at hl 8 rfl) ?_
      refine lv_iload S.1 S.2.1 dL_law_155 (lv_at hl 4 rfl) ?_
      refine lv_aload_n S.1 S.2.1 dL_law_157 rfl (lv_at hl 6 rfl) ?_
      have u3 : svK κ 3 0 - 1 ≤ 6 := by omega
      refine lq_o (rest := []) C hl.1 hW (fun sz => hk l D c a bb _ ρ (pu (svK κ) 3 (kc (svK κ 3 0 - 1))) sz o (fu f 0 r) hfl (show θ 0 = τ from ho) v2 u3) (Nat.le_of_ble_eq_true rfl) dL_law_158 ⟨by omega, by omega⟩ (fun H locs hW => ?_)
      refine kz_ne S (tgt := 172) dL_law_161 (by decide) (by decide) (fun q => absurd rfl q) (fun _ => ?_)
      refine lv_aload_n S.1 S.2.1 dL_law_164 rfl (lv_at hl 6 rfl) ?_
      refine lv_iconst (v := nI 0) S.1 S.2.1 dL_law_165 rfl ?_
      refine lq_ld (rest := []) C hW dL_law_166 ?_
      refine lv_iload S.1 S.2.1 dL_law_167 (lv_at hl 1 rfl) ?_
      refine lv_icmp_eq (tgt := 174) S.1 S.2.1 dL_law_169 (by decide) (fun _ => ?_) (fun q => absurd (congrArg nI (fu_at (fu f 0 r) 0 r)) q)
      obtain ⟨w2, w3, -⟩ := svk_ok (κ := pu (svK κ) 3 (kc (svK κ 3 0 - 1))) v2 u3
      exact law_174k hfp hfl C hi hT hr hk iv fin hcs (c1 := c1 + 1 + 1) (s1 := s1 + 6 + 6) (by omega) (by omega) (show τ' = τ' from rfl) he w2 w3 k4 k5 hW (lv_sub hl [1, 2, 4, 5, 6, 7, 8, 9] rfl)
    have e3 := svk_3 (κ := κ)
    refine kn_ne S (tgt := 141) dL_law_134 (by decide) (by omega) (by omega) (fun c6 => ?_) (fun c6 => ?_)
    · refine lv_iload S.1 S.2.1 dL_law_141 (lv_at hl 3 rfl) ?_
      refine kn_ne S (tgt := 172) dL_law_143 (by decide) (by omega) (by omega) (fun q => absurd ?_ q) (fun _ => go146)
      rw [e3, if_pos (by omega)]; omega
    · refine lv_iconst (v := nI 5) S.1 S.2.1 dL_law_137 rfl ?_
      refine lv_goto (tgt := 143) S.1 S.2.1 dL_law_138 (by decide) ?_
      refine kn_ne S (tgt := 172) dL_law_143 (by decide) (by omega) (by omega) (fun q => absurd ?_ q) (fun _ => go146)
      rw [e3, if_neg (by omega), c6]
/-- an act that throws -/
theorem law_xx (hfp : fpOk2) (hfl : l.stackTraces = false) (C : LC p s m cd b L xs D c) {i T th : Nat} (hi : i < 56) (hT : T < 100000000) (hth0 : 0 < th) (hth3 : th ≤ 3) {v : Int32} {τ : Nat → Nat → Nat} (hx : AcX yL_act wsL_act rmL_act [.int v] τ th) (iv0 : Iv τ T) (fin : LKn p l e s m below meth cd Q b D c a bb d g o i T cells slots) (hcs : cells ≤ 600104 ∧ slots ≤ 7301314) {c1 s1 : Nat} (h1 : c1 + 3 ≤ cells) (h2 : s1 + 18 ≤ slots) {θ : Nat → Nat → Nat → Nat} {ρ κ : Nat → Nat → Nat} {η : Nat → Nat → Nat → Nat} {ρ1 κ1 : Nat → Nat → Nat} {f : Nat → Nat} (ho : θ 0 = τ) (he : η 0 = τ) (k2 : κ 2 0 < 6) (k3 : κ 3 0 ≤ 6) (k4 : κ1 2 0 < 6) (k5 : κ1 3 0 ≤ 6) (hW : kw D (fun q => s.heap.size ≤ q) s.heap (LW c a bb θ ρ κ d g η ρ1 κ1 o f) H locs) (hl : lv_has ls 10 [(6, .int (nI (κ 3 0))), (5, .int v), (4, .int (nI i)), (3, .ref o), (2, .ref (d 0)), (1, .ref (a 0)), (0, .ref b)]) : W p l e room_1 s m #[Value.ref b] below meth cd H locs c1 s1 Q (F0 m 67 ls []) := by
  have S := C.1
  have iv1 : Iv (θ 0) T := by rw [ho]; exact iv0
  have he1 : η 0 = θ 0 := he.trans ho.symm
  refine lv_aload_n S.1 S.2.1 dL_law_67 rfl (lv_at hl 5 rfl) ?_
  refine lv_iload S.1 S.2.1 dL_law_68 (lv_at hl 1 rfl) ?_
  refine lv_aload_n S.1 S.2.1 dL_law_70 rfl (lv_at hl 3 rfl) ?_
  refine lq_o (rest := []) C hl.1 hW (fun sz => hx l D c a bb θ ρ κ sz o f hfl ho k2 k3) (Nat.le_of_ble_eq_true rfl) dL_law_71 ⟨by omega, by omega⟩ (fun H locs hW => ?_)
  refine lv_istore (lv' := [(7, .int (nI th)), (6, .int (nI (κ 3 0))), (5, .int v), (4, .int (nI i)), (3, .ref o), (2, .ref (d 0)), (1, .ref (a 0)), (0, .ref b)]) S.1 S.2.1 dL_law_74 hl (by decide) rfl (fun ls hl => ?_)
  refine lv_aload_n S.1 S.2.1 dL_law_76 rfl (lv_at hl 4 rfl) ?_
  refine lv_iconst (v := nI 0) S.1 S.2.1 dL_law_77 rfl ?_
  refine lq_ld (rest := []) C hW dL_law_78 ?_
  refine lv_istore (lv' := [(8, .int (nI (f 0))), (7, .int (nI th)), (6, .int (nI (κ 3 0))), (5, .int v), (4, .int (nI i)), (3, .ref o), (2, .ref (d 0)), (1, .ref (a 0)), (0, .ref b)]) S.1 S.2.1 dL_law_79 hl (by decide) rfl (fun ls hl => ?_)
  refine lv_iload S.1 S.2.1 dL_law_81 (lv_at hl 1 rfl) ?_
  refine kz_eq S (tgt := 107) dL_law_83 (by decide) (by omega) (fun q => absurd q (by omega)) (fun _ => ?_)
  refine lv_aload_n S.1 S.2.1 dL_law_86 rfl (lv_at hl 7 rfl) ?_
  refine lv_aload_n S.1 S.2.1 dL_law_87 rfl (lv_at hl 6 rfl) ?_
  refine lq_alike (rest := []) hfp C hl.1 hW he1 iv1 hT (Nat.le_of_ble_eq_true rfl) dL_law_88 ⟨by omega, by omega⟩ (fun H locs hW => ?_)
  refine kz_eq S (tgt := 105) dL_law_91 (by decide) (by decide) (fun q => absurd q (by decide)) (fun _ => ?_)
  refine lv_aload_n S.1 S.2.1 dL_law_94 rfl (lv_at hl 7 rfl) ?_
  refine lv_bipush (v := nI 17) S.1 S.2.1 dL_law_95 rfl ?_
  refine lq_17 (rest := []) C hl.1 hW iv1 hT (Nat.le_of_ble_eq_true rfl) dL_law_97 ⟨by omega, by omega⟩ (fun H locs hW => ?_)
  refine lv_iload S.1 S.2.1 dL_law_100 (lv_at hl 2 rfl) ?_
  refine kn_eq S (tgt := 107) dL_law_102 (by decide) (by omega) (by omega) (fun _ => ?_) (fun q => absurd rfl q)
  refine lv_iload S.1 S.2.1 dL_law_107 (lv_at hl 1 rfl) ?_
  refine kz_ne S (tgt := 174) dL_law_109 (by decide) (by omega) (fun _ => ?_) (fun q => absurd q (by omega))
  refine lv_aload_n S.1 S.2.1 dL_law_174 rfl (lv_at hl 6 rfl) ?_
  refine lv_iload S.1 S.2.1 dL_law_175 (lv_at hl 3 rfl) ?_
  refine lv_aload_n S.1 S.2.1 dL_law_177 rfl (lv_at hl 5 rfl) ?_
  refine lq_p (rest := []) C hl.1 hW (fun sz => hx l D c d g η ρ1 κ1 sz o f hfl he k4 k5) (Nat.le_of_ble_eq_true rfl) dL_law_178 ⟨by omega, by omega⟩ (fun H locs hW => ?_)
  refine lv_iload S.1 S.2.1 dL_law_181 (lv_at hl 1 rfl) ?_
  refine kn_ne S (tgt := 207) dL_law_183 (by decide) (by omega) (by omega) (fun q => absurd rfl q) (fun _ => ?_)
  refine lv_iload S.1 S.2.1 dL_law_186 (lv_at hl 1 rfl) ?_
  refine kz_ne S (tgt := 199) dL_law_188 (by decide) (by omega) (fun _ => ?_) (fun q => absurd q (by omega))
  refine lv_aload_n S.1 S.2.1 dL_law_199 rfl (lv_at hl 7 rfl) ?_
  refine lv_aload_n S.1 S.2.1 dL_law_200 rfl (lv_at hl 6 rfl) ?_
  refine lq_alike (rest := []) hfp C hl.1 hW he1 iv1 hT (Nat.le_of_ble_eq_true rfl) dL_law_201 ⟨by omega, by omega⟩ (fun H locs hW => ?_)
  refine kz_ne S (tgt := 209) dL_law_204 (by decide) (by decide) (fun _ => ?_) (fun q => absurd q (by decide))
  exact law_209 hfp C hi hT fin hcs (c1 := c1 + 1 + 1) (s1 := s1 + 6 + 6) (by omega) (by omega) he1 iv1 k2 k3 k4 k5 hW (lv_sub hl [3, 4, 5, 6, 7, 8] rfl)
/-- from the number of the act on -/
theorem law_57 (hfp : fpOk2) (hfl : l.stackTraces = false) (C : LC p s m cd b L xs D c) {i T : Nat} (hi : i < 56) (hT : T + 5760 < 100000000) {v : Int32} (fin : LKn p l e s m below meth cd Q b D c a bb d g o i (T + 5760) cells slots) (hcs : cells ≤ 600104 ∧ slots ≤ 7301314) {c1 s1 : Nat} (h1 : c1 + 3 ≤ cells) (h2 : s1 + 18 ≤ slots) {θ : Nat → Nat → Nat → Nat} {ρ κ : Nat → Nat → Nat} {η : Nat → Nat → Nat → Nat} {ρ1 κ1 : Nat → Nat → Nat} {f : Nat → Nat} (he : η 0 = θ 0) (iv : Iv (θ 0) T) (k2 : κ 2 0 < 6) (k3 : κ 3 0 ≤ 6) (k4 : κ1 2 0 < 6) (k5 : κ1 3 0 ≤ 6) (hW : kw D (fun q => s.heap.size ≤ q) s.heap (LW c a bb θ ρ κ d g η ρ1 κ1 o f) H locs) (hl : lv_has ls 10 [(4, .int (nI i)), (3, .ref o), (2, .ref (d 0)), (1, .ref (a 0)), (0, .ref b)]) : W p l e room_1 s m #[Value.ref b] below meth cd H locs c1 s1 Q (F0 m 57 ls [.int v]) := by
  have S := C.1
  refine lv_istore (lv' := [(5, .int v), (4, .int (nI i)), (3, .ref o), (2, .ref (d 0)), (1, .ref (a 0)), (0, .ref b)]) S.1 S.2.1 dL_law_57 hl (by decide) rfl (fun ls hl => ?_)
  refine lv_aload_n S.1 S.2.1 dL_law_59 rfl (lv_at hl 4 rfl) ?_
  refine lv_bipush (v := nI 17) S.1 S.2.1 dL_law_60 rfl ?_
  refine lq_17 (rest := []) C hl.1 hW iv (by omega) (Nat.le_of_ble_eq_true rfl) dL_law_62 ⟨by omega, by omega⟩ (fun H locs hW => ?_)
  refine lv_istore (lv' := [(6, .int (nI (κ 3 0))), (5, .int v), (4, .int (nI i)), (3, .ref o), (2, .ref (d 0)), (1, .ref (a 0)), (0, .ref b)]) S.1 S.2.1 dL_law_65 hl (by decide) rfl (fun ls hl => ?_)
  rcases act_r iv (by omega) v with ⟨r, τ', hr, hi', hk⟩ | ⟨th, t0, t3, hx⟩
  · exact law_kk hfp hfl C hi hT hr hk (iv.mono (by omega)) hi' fin hcs h1 h2 rfl he k2 k3 k4 k5 hW hl
  · exact law_xx hfp hfl C hi hT t0 t3 hx (iv.mono (by omega)) fin hcs h1 h2 rfl he k2 k3 k4 k5 hW hl
end LRW
