/-- row n of the saved ones -/
def rowk (v : Nat → Nat) (n : Nat) : Nat → Nat := fun i => v (147 * n + i)
def cpr (f g : Nat → Nat) (o : Nat) : Nat → Nat → Nat
  | 0 => g
  | k + 1 => fu (cpr f g o k) k (f (o + k))
theorem cpr_eq (f g : Nat → Nat) (o i : Nat) : ∀ k, cpr f g o k i = if i < k then f (o + i) else g i
  | 0 => by rw [if_neg (by omega)]; rfl
  | k + 1 => by
    show fu (cpr f g o k) k (f (o + k)) i = _
    by_cases e : i = k
    · rw [e, fu_at, if_pos (by omega)]
    · rw [fu_ne e, cpr_eq f g o i k]
      by_cases h : i < k
      · rw [if_pos h, if_pos (by omega)]
      · rw [if_neg h, if_neg (by omega)]
def nte (σ : Nat → Nat) (b w : Nat) : Nat := if b < σ 132 then σ (84 + 2 * b + w) else 4294967295
theorem okM.r3 {σ : Nat → Nat} (h : okM σ) {j w : Nat} (hj : j < 12) (hw : w < 3) : σ (36 + 4 * j + w) ≤ 90 := by
  have h1 := h _ (bnd_rw hj hw).1
  rw [(bnd_rw hj hw).2] at h1
  refine Nat.le_trans h1 ?_
  repeat' split
  all_goals omega
/-- the cylinder goes on by k steps without its spring -/
def wst (σ : Nat → Nat) : Nat → Nat → Nat
  | 0 => σ
  | k + 1 => g2 (wst σ k)
def wsm (σ : Nat → Nat) : Nat → Nat
  | 0 => 0
  | k + 1 => wsm σ k + need (wst σ k)
theorem okM.wst {σ : Nat → Nat} (ok : okM σ) : ∀ k, okM (wst σ k)
  | 0 => ok
  | k + 1 => (ok.wst k).g2
/-- what n steps would bring -/
def wb (σ : Nat → Nat) (n w : Nat) : Int32 := if w = 0 then nI (on n σ).1 else if w = 1 then nI ((on n σ).2 139) - nI (σ 139) else if w = 2 then nI ((on n σ).2 140) - nI (σ 140) else if w = 3 then nI ((on n σ).2 137) - nI (σ 137) else nI (tth (on n σ).2 2) - nI (tth σ 2)
/-- fewer and fewer vanes -/
def qv (σ : Nat → Nat) : Nat → Nat → Nat
  | 0 => σ
  | k + 1 => fu (qv σ k) 136 (9 - k)
def qf (σ : Nat → Nat) : Nat → Nat
  | 0 => 4294967295
  | k + 1 => if wb (qv σ (k + 1)) 32 2 = 0 then 9 - k else qf σ k
def qa (f σ : Nat → Nat) : Nat → Nat → Nat
  | 0 => f
  | k + 1 => qv σ (k + 1)
theorem qv_eq (σ : Nat → Nat) {i : Nat} (h : i ≠ 136) : ∀ k, qv σ k i = σ i
  | 0 => rfl
  | k + 1 => (fu_ne h).trans (qv_eq σ h k)
theorem qv_back (σ : Nat → Nat) (k : Nat) : fu (qv σ k) 136 (σ 136) = σ := by
  funext i
  by_cases e : i = 136
  · rw [e, fu_at]
  · rw [fu_ne e, qv_eq σ e]
theorem okM.qv {σ : Nat → Nat} (ok : okM σ) : ∀ k, okM (qv σ k)
  | 0 => ok
  | k + 1 => (ok.qv k).put fun _ => by show _ ≤ 9; omega
theorem k_z32 {x : Nat} (hx : x < 2 ^ 32) : nI x = 0 ↔ x = 0 := by
  constructor
  · intro h
    have h2 : (nI x).toBitVec.toNat = 0 := by rw [h]; rfl
    rwa [pk_tn hx] at h2
  · intro h
    rw [h]; rfl
section KZ
variable {p : Program} {l : Launch} {e : Env} {R : Room} {s : State} {m : MethodId} {args : Array Value} {below : List Frame} {meth : Method} {cd : Code} {H : Heap} {locs : List Loc} {cells slots : Nat} {Q : State → Prop} {pc : Nat} {ls : Array Slot} {rest : List Value} {cc : ByteArray} {nL : Nat} {Ts : List Cond} {own : String}
theorem kw_eq (S : CallFix p m cd cc nL s args Ts own) {x : Nat} {off : Int} {tgt : Nat} (hdg : decode cc pc = .ok (.ifCond .eq off, 3)) (ht : (pc : Int) + off = (tgt : Int)) (hx : x < 2 ^ 32) (kt : x = 0 → W p l e R s m args below meth cd H locs cells slots Q (F0 m tgt ls rest)) (kf : ¬ x = 0 → W p l e R s m args below meth cd H locs cells slots Q (F0 m (pc + 3) ls rest)) : W p l e R s m args below meth cd H locs cells slots Q (F0 m pc ls (.int (nI x) :: rest)) := lv_if_eq S.1 S.2.1 hdg ht (fun h => kt ((k_z32 hx).mp h)) (fun h => kf (fun q => h ((k_z32 hx).mpr q)))
theorem kw_ne (S : CallFix p m cd cc nL s args Ts own) {x : Nat} {off : Int} {tgt : Nat} (hdg : decode cc pc = .ok (.ifCond .ne off, 3)) (ht : (pc : Int) + off = (tgt : Int)) (hx : x < 2 ^ 32) (kt : ¬ x = 0 → W p l e R s m args below meth cd H locs cells slots Q (F0 m tgt ls rest)) (kf : x = 0 → W p l e R s m args below meth cd H locs cells slots Q (F0 m (pc + 3) ls rest)) : W p l e R s m args below meth cd H locs cells slots Q (F0 m pc ls (.int (nI x) :: rest)) := lv_if_ne S.1 S.2.1 hdg ht (fun h => kt (fun q => h ((k_z32 hx).mpr q))) (fun h => kf ((k_z32 hx).mp h))
end KZ
theorem cpo_s (f g : Nat → Nat) (k : Nat) : cpo f g 0 (k + 1) = fu (cpo f g 0 k) k (f k) := by
  show fu _ (0 + k) _ = _
  rw [Nat.zero_add]
