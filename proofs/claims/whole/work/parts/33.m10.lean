set_option maxHeartbeats 400000 in
set_option maxRecDepth 100000 in
theorem mX3_readSteps_t (l : Launch) (D : va_G) (c : Nat → ClassId) (a : Nat → Nat) (φ : Nat → Nat → Nat) (δ : Int64) (sz : Nat) (w : Bool) (t : Nat) (j : Nat) (hw : φ 10 0 = w.toNat) (hm : φ 8 0 ≤ 60) (hs : φ 9 0 < 700) (ht : t < 3) (hj : j < 12) (ok : okM (φ 0)) (hv : rsW (φ 4) (φ 8 0) (φ 9 0) w = false) : MV l yX3_readSteps wsX3_readSteps rmX3_readSteps D c sz (wM c a φ δ) [.ref (a 0), .int (nI (t)), .int (nI (j)), .int (nI (1))]  (wM c a (pu (pu (pu (pu φ 9 (kc (rsS (φ 4) (φ 8 0) (φ 9 0) w))) 10 (kc ((rsW (φ 4) (φ 8 0) (φ 9 0) w).toNat))) 0 (prs (φ 0) t j (rsf (φ 4) (φ 8 0) (φ 9 0) w) ((rsg (φ 4) (φ 8 0) (φ 9 0) w) + 1 - (rsf (φ 4) (φ 8 0) (φ 9 0) w)))) 11 (kc (φ 11 0 + prc (φ 0) t j (rsf (φ 4) (φ 8 0) (φ 9 0) w) ((rsg (φ 4) (φ 8 0) (φ 9 0) w) + 1 - (rsf (φ 4) (φ 8 0) (φ 9 0) w))))) δ) := by
  refine MV.of (cc := cX3_readSteps) (maxL := 7) (by decide) rfl (Nat.le_of_ble_eq_true rfl) ?_
  intro P e s m below meth cd A Q ls hsz S hK hW hA hl hret
  have hl : lv_has ls 7 [(0, .ref (a 0)), (1, .int (nI (t))), (2, .int (nI (j))), (3, .int (nI (1)))] := hl
  have hinX3 : ∀ w ∈ u_ws RX3 TX3 13, w ∈ wsX3_readSteps := by decide +kernel
  have hS1 : φ 9 0 ≤ rsS1 (φ 4) (φ 8 0) (φ 9 0) w ∧ rsS1 (φ 4) (φ 8 0) (φ 9 0) w ≤ φ 9 0 + 2 := nmS2_le _ _ _ _ _ _
  obtain ⟨-, hf, hg, hfg, hg32⟩ := rs_ok hv
  refine lv_aload_n S.1 S.2.1 dX3_readSteps_0 rfl (lv_at hl 0 rfl) ?_
  refine lv_iconst (v := nI (0)) S.1 S.2.1 dX3_readSteps_1 rfl ?_
  refine lv_bipush (v := nI (31)) S.1 S.2.1 dX3_readSteps_2 rfl ?_
  refine k_VI (rest := []) S hK hl.1 hW (KFr.all hW hA) (mX3_number l D c a φ δ _ w (nI (0)) (nI (31)) (by first | omega | exact hw | assumption | (show φ 10 0 = w.toNat; omega) | rfl) (by first | omega | exact hm | assumption | (show φ 8 0 ≤ 60; omega) | rfl) (by first | omega | exact hs | assumption | (show φ 9 0 < 900; omega) | rfl)) gX3_readSteps_X3_number rfl pdX3_number ⟨⟨rfl, rfl⟩, Nat.le_of_ble_eq_true rfl, Nat.le_of_ble_eq_true rfl⟩ 0 3 rfl rfl rfl rfl (Nat.le_of_ble_eq_true rfl) dX3_readSteps_4 ⟨Nat.le_of_ble_eq_true rfl, Nat.le_of_ble_eq_true rfl⟩ (fun H locs hW => ?_)
  have hW : kw D A s.heap (wM c a (pu (pu φ 9 (kc (nmS2 (φ 4) (φ 8 0) (φ 9 0) w (nI (0)) (nI (31))))) 10 (kc ((nmW2 (φ 4) (φ 8 0) (φ 9 0) w (nI (0)) (nI (31))).toNat))) δ) H locs := hW
  refine k_top (y := rsF (φ 4) (φ 8 0) (φ 9 0) w) (rfl) ?_
  refine lv_istore (lv' := [(4, .int (rsF (φ 4) (φ 8 0) (φ 9 0) w)), (0, .ref (a 0)), (1, .int (nI (t))), (2, .int (nI (j))), (3, .int (nI (1)))]) S.1 S.2.1 dX3_readSteps_7 hl (by decide) rfl (fun ls hl => ?_)
  have hW : kw D A s.heap (wM c a (pu (pu φ 9 (kc (rsS1 (φ 4) (φ 8 0) (φ 9 0) w))) 10 (kc ((rsW1 (φ 4) (φ 8 0) (φ 9 0) w).toNat))) δ) H locs := hW
  refine lv_iload S.1 S.2.1 dX3_readSteps_9 (lv_at hl 0 rfl) ?_
  refine lv_istore (lv' := [(5, .int (rsF (φ 4) (φ 8 0) (φ 9 0) w)), (4, .int (rsF (φ 4) (φ 8 0) (φ 9 0) w)), (0, .ref (a 0)), (1, .int (nI (t))), (2, .int (nI (j))), (3, .int (nI (1)))]) S.1 S.2.1 dX3_readSteps_11 hl (by decide) rfl (fun ls hl => ?_)
  refine lv_iload S.1 S.2.1 dX3_readSteps_13 (lv_at hl 1 rfl) ?_
  refine lv_bipush (v := nI (31)) S.1 S.2.1 dX3_readSteps_15 rfl ?_
  refine lv_icmp_ge (tgt := 53) S.1 S.2.1 dX3_readSteps_17 (by decide) (fun c_17 => ?_) (fun c_17 => ?_)
  · have hC : rsC (φ 4) (φ 8 0) (φ 9 0) w = false := rsC_1 c_17
    have hW : kw D A s.heap (wM c a (pu (pu φ 9 (kc (rsS (φ 4) (φ 8 0) (φ 9 0) w))) 10 (kc ((rsW (φ 4) (φ 8 0) (φ 9 0) w).toNat))) δ) H locs := by (rw [show rsS (φ 4) (φ 8 0) (φ 9 0) w = rsS1 (φ 4) (φ 8 0) (φ 9 0) w from (by first | exact (rs_f hC).1 | exact (rs_t hC).1), show rsW (φ 4) (φ 8 0) (φ 9 0) w = (rsW1 (φ 4) (φ 8 0) (φ 9 0) w) from (by first | exact (rs_f hC).2.1 | exact (rs_t hC).2.1)]; exact hW)
    refine lv_iload S.1 S.2.1 dX3_readSteps_53 (lv_at hl 1 rfl) ?_
    refine k_top (y := nI (rsf (φ 4) (φ 8 0) (φ 9 0) w)) (hf) ?_
    refine lv_istore (lv' := [(6, .int (nI (rsf (φ 4) (φ 8 0) (φ 9 0) w))), (5, .int (rsF (φ 4) (φ 8 0) (φ 9 0) w)), (4, .int (rsF (φ 4) (φ 8 0) (φ 9 0) w)), (0, .ref (a 0)), (1, .int (nI (t))), (2, .int (nI (j))), (3, .int (nI (1)))]) S.1 S.2.1 dX3_readSteps_55 hl (by decide) rfl (fun ls hl => ?_)
    have hW : kw D A s.heap (wM c a (pu (pu (pu (pu φ 9 (kc (rsS (φ 4) (φ 8 0) (φ 9 0) w))) 10 (kc ((rsW (φ 4) (φ 8 0) (φ 9 0) w).toNat))) 0 (prs (φ 0) t j (rsf (φ 4) (φ 8 0) (φ 9 0) w) 0)) 11 (kc (φ 11 0 + prc (φ 0) t j (rsf (φ 4) (φ 8 0) (φ 9 0) w) 0))) δ) H locs := by exact hW
    refine k_loop (fun (zz : Nat) H lo ls => match zz with | k => kw D A s.heap (wM c a (pu (pu (pu (pu φ 9 (kc (rsS (φ 4) (φ 8 0) (φ 9 0) w))) 10 (kc ((rsW (φ 4) (φ 8 0) (φ 9 0) w).toNat))) 0 (prs (φ 0) t j (rsf (φ 4) (φ 8 0) (φ 9 0) w) k)) 11 (kc (φ 11 0 + prc (φ 0) t j (rsf (φ 4) (φ 8 0) (φ 9 0) w) k))) δ) H lo ∧ lv_has ls 7 [(0, .ref (a 0)), (1, .int (nI (t))), (2, .int (nI (j))), (3, .int (nI (1))), (6, .int (nI (rsf (φ 4) (φ 8 0) (φ 9 0) w + k))), (5, .int (rsF (φ 4) (φ 8 0) (φ 9 0) w))] ∧ rsf (φ 4) (φ 8 0) (φ 9 0) w + k ≤ rsg (φ 4) (φ 8 0) (φ 9 0) w + 1) (fun (zz : Nat) => match zz with | k => (rsg (φ 4) (φ 8 0) (φ 9 0) w) + 1 - k) [] ?_ 0 _ _ _ ⟨hW, lv_sub hl [3, 4, 5, 6, 0, 1] rfl, (by omega)⟩
    rintro k ih57 H locs ls ⟨hW, hl, hi57_0⟩
    have okk := ok.prk (f := rsf (φ 4) (φ 8 0) (φ 9 0) w) ht hj k (by omega)
    have hh := hind_le (prs (φ 0) t j (rsf (φ 4) (φ 8 0) (φ 9 0) w) k) t j (rsf (φ 4) (φ 8 0) (φ 9 0) w + k)
    refine lv_iload S.1 S.2.1 dX3_readSteps_57 (lv_at hl 4 rfl) ?_
    refine lv_iload S.1 S.2.1 dX3_readSteps_59 (lv_at hl 5 rfl) ?_
    refine k_top (y := nI (rsg (φ 4) (φ 8 0) (φ 9 0) w)) (by rw [← hg]; first | exact (rs_f hC).2.2.symm | exact (rs_t hC).2.2.symm) ?_
    refine kn_gt S (tgt := 112) dX3_readSteps_61 (by decide) (by omega) (by omega) (fun c_61 => ?_) (fun c_61 => ?_)
    · have e9 : k = (rsg (φ 4) (φ 8 0) (φ 9 0) w) + 1 - (rsf (φ 4) (φ 8 0) (φ 9 0) w) := by omega
      subst e9
      exact hret 112 _ _ _ _ dX3_readSteps_112 hW (rfl)
    · refine lv_iload_n S.1 S.2.1 dX3_readSteps_64 rfl (lv_at hl 3 rfl) ?_
      refine kz_eq S (tgt := 112) dX3_readSteps_65 (by decide) (by omega) (fun c_65 => ?_) (fun c_65 => ?_)
      · exact absurd c_65 (by decide)
      · refine lv_aload_n S.1 S.2.1 dX3_readSteps_68 rfl (lv_at hl 0 rfl) ?_
        refine lv_iload_n S.1 S.2.1 dX3_readSteps_69 rfl (lv_at hl 1 rfl) ?_
        refine lv_iload_n S.1 S.2.1 dX3_readSteps_70 rfl (lv_at hl 2 rfl) ?_
        refine lv_iload S.1 S.2.1 dX3_readSteps_71 (lv_at hl 4 rfl) ?_
        refine k_VI (rest := []) S hK hl.1 hW (KFr.all hW hA) (mX3_hindrance l D c a ((pu (pu (pu (pu φ 9 (kc (rsS (φ 4) (φ 8 0) (φ 9 0) w))) 10 (kc ((rsW (φ 4) (φ 8 0) (φ 9 0) w).toNat))) 0 (prs (φ 0) t j (rsf (φ 4) (φ 8 0) (φ 9 0) w) k)) 11 (kc (φ 11 0 + prc (φ 0) t j (rsf (φ 4) (φ 8 0) (φ 9 0) w) k)))) δ _ t j (rsf (φ 4) (φ 8 0) (φ 9 0) w + k) (by first | omega | exact ht | assumption | (show t < 3; omega) | rfl) (by first | omega | exact hj | assumption | (show j < 12; omega) | rfl) (by first | omega | exact hp | assumption | (show (rsf (φ 4) (φ 8 0) (φ 9 0) w + k) < 32; omega) | rfl) okk) gX3_readSteps_X3_hindrance rfl pdX3_hindrance ⟨⟨rfl, rfl⟩, Nat.le_of_ble_eq_true rfl, Nat.le_of_ble_eq_true rfl⟩ 0 3 rfl rfl rfl rfl (Nat.le_of_ble_eq_true rfl) dX3_readSteps_73 ⟨Nat.le_of_ble_eq_true rfl, Nat.le_of_ble_eq_true rfl⟩ (fun H locs hW => ?_)
        have hW : kw D A s.heap (wM c a (pu (pu (pu (pu φ 9 (kc (rsS (φ 4) (φ 8 0) (φ 9 0) w))) 10 (kc ((rsW (φ 4) (φ 8 0) (φ 9 0) w).toNat))) 0 (prs (φ 0) t j (rsf (φ 4) (φ 8 0) (φ 9 0) w) k)) 11 (kc (φ 11 0 + prc (φ 0) t j (rsf (φ 4) (φ 8 0) (φ 9 0) w) k))) δ) H locs := hW
        refine k_top (y := nI (hind ((prs (φ 0) t j (rsf (φ 4) (φ 8 0) (φ 9 0) w) k)) t j (rsf (φ 4) (φ 8 0) (φ 9 0) w + k))) rfl ?_
        refine kz_ne S (tgt := 106) dX3_readSteps_76 (by decide) (by omega) (fun c_76 => ?_) (fun c_76 => ?_)
        · have hW : kw D A s.heap (wM c a (pu (pu (pu (pu φ 9 (kc (rsS (φ 4) (φ 8 0) (φ 9 0) w))) 10 (kc ((rsW (φ 4) (φ 8 0) (φ 9 0) w).toNat))) 0 (prs (φ 0) t j (rsf (φ 4) (φ 8 0) (φ 9 0) w) (k + 1))) 11 (kc (φ 11 0 + prc (φ 0) t j (rsf (φ 4) (φ 8 0) (φ 9 0) w) (k + 1)))) δ) H locs := by first | (rw [(prs_t c_76).1, (prs_t c_76).2]; exact hW) | (rw [(prs_f c_76).1, (prs_f c_76).2]; exact hW)
          refine lv_iinc (v := nI (rsf (φ 4) (φ 8 0) (φ 9 0) w + k + 1)) (lv' := [(6, .int (nI (rsf (φ 4) (φ 8 0) (φ 9 0) w + k + 1))), (0, .ref (a 0)), (1, .int (nI (t))), (2, .int (nI (j))), (3, .int (nI (1))), (5, .int (rsF (φ 4) (φ 8 0) (φ 9 0) w))]) S.1 S.2.1 dX3_readSteps_106 hl (k := 4) rfl (nI_add _ _) (by decide) rfl (fun ls hl => ?_)
          refine lv_goto (tgt := 57) S.1 S.2.1 dX3_readSteps_109 (by decide) ?_
          exact ih57 (k + 1) _ _ _ ⟨hW, lv_sub hl [1, 2, 3, 4, 0, 5] rfl, (by omega)⟩ (by show (rsg (φ 4) (φ 8 0) (φ 9 0) w) + 1 - (k + 1) < (rsg (φ 4) (φ 8 0) (φ 9 0) w) + 1 - k; omega)
        · refine lv_aload_n S.1 S.2.1 dX3_readSteps_79 rfl (lv_at hl 0 rfl) ?_
          refine kx_get S hK hW hinX3 0 3 rfl rfl 1 (by decide) (List.mem_of_getElem? (i := 2) rfl) (v := .ref (a 1)) rfl dX3_readSteps_80 ?_
          refine lv_iload_n S.1 S.2.1 dX3_readSteps_83 rfl (lv_at hl 1 rfl) ?_
          refine lv_iload_n S.1 S.2.1 dX3_readSteps_84 rfl (lv_at hl 2 rfl) ?_
          refine k_SI (rest := [.ref (a 1)]) S hK hl.1 hW (KFr.nil hW hA) (mX3_ofPins l D c  _ t j) gX3_readSteps_X3_ofPins rfl pdX3_ofPins ⟨⟨rfl, rfl⟩, Nat.le_of_ble_eq_true rfl, Nat.le_of_ble_eq_true rfl⟩ rfl (Nat.le_of_ble_eq_true rfl) dX3_readSteps_85 ⟨Nat.le_of_ble_eq_true rfl, Nat.le_of_ble_eq_true rfl⟩ (fun H locs hW => ?_)
          have hW : kw D A s.heap (wM c a (pu (pu (pu (pu φ 9 (kc (rsS (φ 4) (φ 8 0) (φ 9 0) w))) 10 (kc ((rsW (φ 4) (φ 8 0) (φ 9 0) w).toNat))) 0 (prs (φ 0) t j (rsf (φ 4) (φ 8 0) (φ 9 0) w) k)) 11 (kc (φ 11 0 + prc (φ 0) t j (rsf (φ 4) (φ 8 0) (φ 9 0) w) k))) δ) H locs := hW
          refine lv_dup2_11 S.1 S.2.1 dX3_readSteps_88 rfl rfl ?_
          refine kn_ald S hK hW 1 (f := prs (φ 0) t j (rsf (φ 4) (φ 8 0) (φ 9 0) w) k) rfl (by omega) (by decide) dX3_readSteps_89 ?_
          refine lv_iconst (v := nI (1)) S.1 S.2.1 dX3_readSteps_90 rfl ?_
          refine lv_iload S.1 S.2.1 dX3_readSteps_91 (lv_at hl 4 rfl) ?_
          refine kn_shl1 S dX3_readSteps_93 (by omega) ?_
          refine kn_ior S dX3_readSteps_94 ?_
          refine kn_ast S hK hW 1 (f := prs (φ 0) t j (rsf (φ 4) (φ 8 0) (φ 9 0) w) k) rfl (by omega) (by decide) dX3_readSteps_95 (fun H locs hW => ?_)
          have hW : kw D A s.heap (wM c a (pu (pu (pu (pu φ 9 (kc (rsS (φ 4) (φ 8 0) (φ 9 0) w))) 10 (kc ((rsW (φ 4) (φ 8 0) (φ 9 0) w).toNat))) 11 (kc (φ 11 0 + prc (φ 0) t j (rsf (φ 4) (φ 8 0) (φ 9 0) w) k))) 0 (fu (prs (φ 0) t j (rsf (φ 4) (φ 8 0) (φ 9 0) w) k) (12 * t + j) (((prs (φ 0) t j (rsf (φ 4) (φ 8 0) (φ 9 0) w) k) (12 * t + j)) ||| (2 ^ (rsf (φ 4) (φ 8 0) (φ 9 0) w + k))))) δ) H locs := hW
          refine lv_aload_n S.1 S.2.1 dX3_readSteps_96 rfl (lv_at hl 0 rfl) ?_
          refine lv_dup S.1 S.2.1 dX3_readSteps_97 rfl ?_
          refine kx_get S hK hW hinX3 0 3 rfl rfl 11 (by decide) (List.mem_of_getElem? (i := 3) rfl) (v := .int (nI (φ 11 0 + prc (φ 0) t j (rsf (φ 4) (φ 8 0) (φ 9 0) w) k))) rfl dX3_readSteps_98 ?_
          refine lv_iconst (v := nI (1)) S.1 S.2.1 dX3_readSteps_101 rfl ?_
          refine kn_iadd S dX3_readSteps_102 ?_
          refine kx_put S hK hW hinX3 tyX3_ok nmX3 0 3 rfl rfl 11 (by decide) (List.mem_of_getElem? (i := 3) rfl) rfl (v := .int (nI (φ 11 0 + prc (φ 0) t j (rsf (φ 4) (φ 8 0) (φ 9 0) w) k + 1))) rfl rfl (Nat.le_of_ble_eq_true rfl) dX3_readSteps_103 (fun H locs hW => ?_)
          have hW : kw D A s.heap (wM c a (pu (pu (pu (pu φ 9 (kc (rsS (φ 4) (φ 8 0) (φ 9 0) w))) 10 (kc ((rsW (φ 4) (φ 8 0) (φ 9 0) w).toNat))) 0 (fu (prs (φ 0) t j (rsf (φ 4) (φ 8 0) (φ 9 0) w) k) (12 * t + j) (((prs (φ 0) t j (rsf (φ 4) (φ 8 0) (φ 9 0) w) k) (12 * t + j)) ||| (2 ^ (rsf (φ 4) (φ 8 0) (φ 9 0) w + k))))) 11 (kc (φ 11 0 + prc (φ 0) t j (rsf (φ 4) (φ 8 0) (φ 9 0) w) k + 1))) δ) H locs := hW
          have hW : kw D A s.heap (wM c a (pu (pu (pu (pu φ 9 (kc (rsS (φ 4) (φ 8 0) (φ 9 0) w))) 10 (kc ((rsW (φ 4) (φ 8 0) (φ 9 0) w).toNat))) 0 (prs (φ 0) t j (rsf (φ 4) (φ 8 0) (φ 9 0) w) (k + 1))) 11 (kc (φ 11 0 + prc (φ 0) t j (rsf (φ 4) (φ 8 0) (φ 9 0) w) (k + 1)))) δ) H locs := by first | (rw [(prs_t c_76).1, (prs_t c_76).2]; exact hW) | (rw [(prs_f c_76).1, (prs_f c_76).2]; exact hW)
          refine lv_iinc (v := nI (rsf (φ 4) (φ 8 0) (φ 9 0) w + k + 1)) (lv' := [(6, .int (nI (rsf (φ 4) (φ 8 0) (φ 9 0) w + k + 1))), (0, .ref (a 0)), (1, .int (nI (t))), (2, .int (nI (j))), (3, .int (nI (1))), (5, .int (rsF (φ 4) (φ 8 0) (φ 9 0) w))]) S.1 S.2.1 dX3_readSteps_106 hl (k := 4) rfl (nI_add _ _) (by decide) rfl (fun ls hl => ?_)
          refine lv_goto (tgt := 57) S.1 S.2.1 dX3_readSteps_109 (by decide) ?_
          exact ih57 (k + 1) _ _ _ ⟨hW, lv_sub hl [1, 2, 3, 4, 0, 5] rfl, (by omega)⟩ (by show (rsg (φ 4) (φ 8 0) (φ 9 0) w) + 1 - (k + 1) < (rsg (φ 4) (φ 8 0) (φ 9 0) w) + 1 - k; omega)
  · refine lv_aload_n S.1 S.2.1 dX3_readSteps_20 rfl (lv_at hl 2 rfl) ?_
    refine lv_bipush (v := nI (45)) S.1 S.2.1 dX3_readSteps_21 rfl ?_
    refine lv_bipush (v := nI (45)) S.1 S.2.1 dX3_readSteps_23 rfl ?_
    refine k_VI (rest := []) S hK hl.1 hW (KFr.all hW hA) (mX3_isNext l D c a ((pu (pu φ 9 (kc (rsS1 (φ 4) (φ 8 0) (φ 9 0) w))) 10 (kc ((rsW1 (φ 4) (φ 8 0) (φ 9 0) w).toNat)))) δ _ (rsW1 (φ 4) (φ 8 0) (φ 9 0) w) (nI (45)) (nI (45)) (by first | omega | exact hw | assumption | (show ((rsW1 (φ 4) (φ 8 0) (φ 9 0) w).toNat) = (rsW1 (φ 4) (φ 8 0) (φ 9 0) w).toNat; omega) | rfl) (by first | omega | exact hm | assumption | (show (φ 8 0) ≤ 60; omega) | rfl) (by first | omega | exact hs | assumption | (show (rsS1 (φ 4) (φ 8 0) (φ 9 0) w) < 1000; omega) | rfl)) gX3_readSteps_X3_isNext rfl pdX3_isNext ⟨⟨rfl, rfl⟩, Nat.le_of_ble_eq_true rfl, Nat.le_of_ble_eq_true rfl⟩ 0 3 rfl rfl rfl rfl (Nat.le_of_ble_eq_true rfl) dX3_readSteps_25 ⟨Nat.le_of_ble_eq_true rfl, Nat.le_of_ble_eq_true rfl⟩ (fun H locs hW => ?_)
    have hW : kw D A s.heap (wM c a (pu (pu φ 9 (kc (rsS1 (φ 4) (φ 8 0) (φ 9 0) w))) 10 (kc ((rsW1 (φ 4) (φ 8 0) (φ 9 0) w).toNat))) δ) H locs := hW
    refine k_top (y := nI ((nxb ((φ 4)) ((φ 8 0)) ((rsS1 (φ 4) (φ 8 0) (φ 9 0) w)) (rsW1 (φ 4) (φ 8 0) (φ 9 0) w) (nI (45)) (nI (45))).toNat)) rfl ?_
    refine kb_eq S (tgt := 53) dX3_readSteps_28 (by decide) (fun c_28 => ?_) (fun c_28 => ?_)
    · have hC : rsC (φ 4) (φ 8 0) (φ 9 0) w = false := rsC_2 c_28
      have hW : kw D A s.heap (wM c a (pu (pu φ 9 (kc (rsS (φ 4) (φ 8 0) (φ 9 0) w))) 10 (kc ((rsW (φ 4) (φ 8 0) (φ 9 0) w).toNat))) δ) H locs := by (rw [show rsS (φ 4) (φ 8 0) (φ 9 0) w = rsS1 (φ 4) (φ 8 0) (φ 9 0) w from (by first | exact (rs_f hC).1 | exact (rs_t hC).1), show rsW (φ 4) (φ 8 0) (φ 9 0) w = (rsW1 (φ 4) (φ 8 0) (φ 9 0) w) from (by first | exact (rs_f hC).2.1 | exact (rs_t hC).2.1)]; exact hW)
      refine lv_iload S.1 S.2.1 dX3_readSteps_53 (lv_at hl 1 rfl) ?_
      refine k_top (y := nI (rsf (φ 4) (φ 8 0) (φ 9 0) w)) (hf) ?_
      refine lv_istore (lv' := [(6, .int (nI (rsf (φ 4) (φ 8 0) (φ 9 0) w))), (5, .int (rsF (φ 4) (φ 8 0) (φ 9 0) w)), (4, .int (rsF (φ 4) (φ 8 0) (φ 9 0) w)), (0, .ref (a 0)), (1, .int (nI (t))), (2, .int (nI (j))), (3, .int (nI (1)))]) S.1 S.2.1 dX3_readSteps_55 hl (by decide) rfl (fun ls hl => ?_)
      have hW : kw D A s.heap (wM c a (pu (pu (pu (pu φ 9 (kc (rsS (φ 4) (φ 8 0) (φ 9 0) w))) 10 (kc ((rsW (φ 4) (φ 8 0) (φ 9 0) w).toNat))) 0 (prs (φ 0) t j (rsf (φ 4) (φ 8 0) (φ 9 0) w) 0)) 11 (kc (φ 11 0 + prc (φ 0) t j (rsf (φ 4) (φ 8 0) (φ 9 0) w) 0))) δ) H locs := by exact hW
      refine k_loop (fun (zz : Nat) H lo ls => match zz with | k => kw D A s.heap (wM c a (pu (pu (pu (pu φ 9 (kc (rsS (φ 4) (φ 8 0) (φ 9 0) w))) 10 (kc ((rsW (φ 4) (φ 8 0) (φ 9 0) w).toNat))) 0 (prs (φ 0) t j (rsf (φ 4) (φ 8 0) (φ 9 0) w) k)) 11 (kc (φ 11 0 + prc (φ 0) t j (rsf (φ 4) (φ 8 0) (φ 9 0) w) k))) δ) H lo ∧ lv_has ls 7 [(0, .ref (a 0)), (1, .int (nI (t))), (2, .int (nI (j))), (3, .int (nI (1))), (6, .int (nI (rsf (φ 4) (φ 8 0) (φ 9 0) w + k))), (5, .int (rsF (φ 4) (φ 8 0) (φ 9 0) w))] ∧ rsf (φ 4) (φ 8 0) (φ 9 0) w + k ≤ rsg (φ 4) (φ 8 0) (φ 9 0) w + 1) (fun (zz : Nat) => match zz with | k => (rsg (φ 4) (φ 8 0) (φ 9 0) w) + 1 - k) [] ?_ 0 _ _ _ ⟨hW, lv_sub hl [3, 4, 5, 6, 0, 1] rfl, (by omega)⟩
      rintro k ih57 H locs ls ⟨hW, hl, hi57_0⟩
      have okk := ok.prk (f := rsf (φ 4) (φ 8 0) (φ 9 0) w) ht hj k (by omega)
      have hh := hind_le (prs (φ 0) t j (rsf (φ 4) (φ 8 0) (φ 9 0) w) k) t j (rsf (φ 4) (φ 8 0) (φ 9 0) w + k)
      refine lv_iload S.1 S.2.1 dX3_readSteps_57 (lv_at hl 4 rfl) ?_
      refine lv_iload S.1 S.2.1 dX3_readSteps_59 (lv_at hl 5 rfl) ?_
      refine k_top (y := nI (rsg (φ 4) (φ 8 0) (φ 9 0) w)) (by rw [← hg]; first | exact (rs_f hC).2.2.symm | exact (rs_t hC).2.2.symm) ?_
      refine kn_gt S (tgt := 112) dX3_readSteps_61 (by decide) (by omega) (by omega) (fun c_61 => ?_) (fun c_61 => ?_)
      · have e9 : k = (rsg (φ 4) (φ 8 0) (φ 9 0) w) + 1 - (rsf (φ 4) (φ 8 0) (φ 9 0) w) := by omega
        subst e9
        exact hret 112 _ _ _ _ dX3_readSteps_112 hW (rfl)
      · refine lv_iload_n S.1 S.2.1 dX3_readSteps_64 rfl (lv_at hl 3 rfl) ?_
        refine kz_eq S (tgt := 112) dX3_readSteps_65 (by decide) (by omega) (fun c_65 => ?_) (fun c_65 => ?_)
        · exact absurd c_65 (by decide)
        · refine lv_aload_n S.1 S.2.1 dX3_readSteps_68 rfl (lv_at hl 0 rfl) ?_
          refine lv_iload_n S.1 S.2.1 dX3_readSteps_69 rfl (lv_at hl 1 rfl) ?_
          refine lv_iload_n S.1 S.2.1 dX3_readSteps_70 rfl (lv_at hl 2 rfl) ?_
          refine lv_iload S.1 S.2.1 dX3_readSteps_71 (lv_at hl 4 rfl) ?_
          refine k_VI (rest := []) S hK hl.1 hW (KFr.all hW hA) (mX3_hindrance l D c a ((pu (pu (pu (pu φ 9 (kc (rsS (φ 4) (φ 8 0) (φ 9 0) w))) 10 (kc ((rsW (φ 4) (φ 8 0) (φ 9 0) w).toNat))) 0 (prs (φ 0) t j (rsf (φ 4) (φ 8 0) (φ 9 0) w) k)) 11 (kc (φ 11 0 + prc (φ 0) t j (rsf (φ 4) (φ 8 0) (φ 9 0) w) k)))) δ _ t j (rsf (φ 4) (φ 8 0) (φ 9 0) w + k) (by first | omega | exact ht | assumption | (show t < 3; omega) | rfl) (by first | omega | exact hj | assumption | (show j < 12; omega) | rfl) (by first | omega | exact hp | assumption | (show (rsf (φ 4) (φ 8 0) (φ 9 0) w + k) < 32; omega) | rfl) okk) gX3_readSteps_X3_hindrance rfl pdX3_hindrance ⟨⟨rfl, rfl⟩, Nat.le_of_ble_eq_true rfl, Nat.le_of_ble_eq_true rfl⟩ 0 3 rfl rfl rfl rfl (Nat.le_of_ble_eq_true rfl) dX3_readSteps_73 ⟨Nat.le_of_ble_eq_true rfl, Nat.le_of_ble_eq_true rfl⟩ (fun H locs hW => ?_)
          have hW : kw D A s.heap (wM c a (pu (pu (pu (pu φ 9 (kc (rsS (φ 4) (φ 8 0) (φ 9 0) w))) 10 (kc ((rsW (φ 4) (φ 8 0) (φ 9 0) w).toNat))) 0 (prs (φ 0) t j (rsf (φ 4) (φ 8 0) (φ 9 0) w) k)) 11 (kc (φ 11 0 + prc (φ 0) t j (rsf (φ 4) (φ 8 0) (φ 9 0) w) k))) δ) H locs := hW
          refine k_top (y := nI (hind ((prs (φ 0) t j (rsf (φ 4) (φ 8 0) (φ 9 0) w) k)) t j (rsf (φ 4) (φ 8 0) (φ 9 0) w + k))) rfl ?_
          refine kz_ne S (tgt := 106) dX3_readSteps_76 (by decide) (by omega) (fun c_76 => ?_) (fun c_76 => ?_)
          · have hW : kw D A s.heap (wM c a (pu (pu (pu (pu φ 9 (kc (rsS (φ 4) (φ 8 0) (φ 9 0) w))) 10 (kc ((rsW (φ 4) (φ 8 0) (φ 9 0) w).toNat))) 0 (prs (φ 0) t j (rsf (φ 4) (φ 8 0) (φ 9 0) w) (k + 1))) 11 (kc (φ 11 0 + prc (φ 0) t j (rsf (φ 4) (φ 8 0) (φ 9 0) w) (k + 1)))) δ) H locs := by first | (rw [(prs_t c_76).1, (prs_t c_76).2]; exact hW) | (rw [(prs_f c_76).1, (prs_f c_76).2]; exact hW)
            refine lv_iinc (v := nI (rsf (φ 4) (φ 8 0) (φ 9 0) w + k + 1)) (lv' := [(6, .int (nI (rsf (φ 4) (φ 8 0) (φ 9 0) w + k + 1))), (0, .ref (a 0)), (1, .int (nI (t))), (2, .int (nI (j))), (3, .int (nI (1))), (5, .int (rsF (φ 4) (φ 8 0) (φ 9 0) w))]) S.1 S.2.1 dX3_readSteps_106 hl (k := 4) rfl (nI_add _ _) (by decide) rfl (fun ls hl => ?_)
            refine lv_goto (tgt := 57) S.1 S.2.1 dX3_readSteps_109 (by decide) ?_
            exact ih57 (k + 1) _ _ _ ⟨hW, lv_sub hl [1, 2, 3, 4, 0, 5] rfl, (by omega)⟩ (by show (rsg (φ 4) (φ 8 0) (φ 9 0) w) + 1 - (k + 1) < (rsg (φ 4) (φ 8 0) (φ 9 0) w) + 1 - k; omega)
          · refine lv_aload_n S.1 S.2.1 dX3_readSteps_79 rfl (lv_at hl 0 rfl) ?_
            refine kx_get S hK hW hinX3 0 3 rfl rfl 1 (by decide) (List.mem_of_getElem? (i := 2) rfl) (v := .ref (a 1)) rfl dX3_readSteps_80 ?_
            refine lv_iload_n S.1 S.2.1 dX3_readSteps_83 rfl (lv_at hl 1 rfl) ?_
            refine lv_iload_n S.1 S.2.1 dX3_readSteps_84 rfl (lv_at hl 2 rfl) ?_
            refine k_SI (rest := [.ref (a 1)]) S hK hl.1 hW (KFr.nil hW hA) (mX3_ofPins l D c  _ t j) gX3_readSteps_X3_ofPins rfl pdX3_ofPins ⟨⟨rfl, rfl⟩, Nat.le_of_ble_eq_true rfl, Nat.le_of_ble_eq_true rfl⟩ rfl (Nat.le_of_ble_eq_true rfl) dX3_readSteps_85 ⟨Nat.le_of_ble_eq_true rfl, Nat.le_of_ble_eq_true rfl⟩ (fun H locs hW => ?_)
            have hW : kw D A s.heap (wM c a (pu (pu (pu (pu φ 9 (kc (rsS (φ 4) (φ 8 0) (φ 9 0) w))) 10 (kc ((rsW (φ 4) (φ 8 0) (φ 9 0) w).toNat))) 0 (prs (φ 0) t j (rsf (φ 4) (φ 8 0) (φ 9 0) w) k)) 11 (kc (φ 11 0 + prc (φ 0) t j (rsf (φ 4) (φ 8 0) (φ 9 0) w) k))) δ) H locs := hW
            refine lv_dup2_11 S.1 S.2.1 dX3_readSteps_88 rfl rfl ?_
            refine kn_ald S hK hW 1 (f := prs (φ 0) t j (rsf (φ 4) (φ 8 0) (φ 9 0) w) k) rfl (by omega) (by decide) dX3_readSteps_89 ?_
            refine lv_iconst (v := nI (1)) S.1 S.2.1 dX3_readSteps_90 rfl ?_
            refine lv_iload S.1 S.2.1 dX3_readSteps_91 (lv_at hl 4 rfl) ?_
            refine kn_shl1 S dX3_readSteps_93 (by omega) ?_
            refine kn_ior S dX3_readSteps_94 ?_
            refine kn_ast S hK hW 1 (f := prs (φ 0) t j (rsf (φ 4) (φ 8 0) (φ 9 0) w) k) rfl (by omega) (by decide) dX3_readSteps_95 (fun H locs hW => ?_)
            have hW : kw D A s.heap (wM c a (pu (pu (pu (pu φ 9 (kc (rsS (φ 4) (φ 8 0) (φ 9 0) w))) 10 (kc ((rsW (φ 4) (φ 8 0) (φ 9 0) w).toNat))) 11 (kc (φ 11 0 + prc (φ 0) t j (rsf (φ 4) (φ 8 0) (φ 9 0) w) k))) 0 (fu (prs (φ 0) t j (rsf (φ 4) (φ 8 0) (φ 9 0) w) k) (12 * t + j) (((prs (φ 0) t j (rsf (φ 4) (φ 8 0) (φ 9 0) w) k) (12 * t + j)) ||| (2 ^ (rsf (φ 4) (φ 8 0) (φ 9 0) w + k))))) δ) H locs := hW
            refine lv_aload_n S.1 S.2.1 dX3_readSteps_96 rfl (lv_at hl 0 rfl) ?_
            refine lv_dup S.1 S.2.1 dX3_readSteps_97 rfl ?_
            refine kx_get S hK hW hinX3 0 3 rfl rfl 11 (by decide) (List.mem_of_getElem? (i := 3) rfl) (v := .int (nI (φ 11 0 + prc (φ 0) t j (rsf (φ 4) (φ 8 0) (φ 9 0) w) k))) rfl dX3_readSteps_98 ?_
            refine lv_iconst (v := nI (1)) S.1 S.2.1 dX3_readSteps_101 rfl ?_
            refine kn_iadd S dX3_readSteps_102 ?_
            refine kx_put S hK hW hinX3 tyX3_ok nmX3 0 3 rfl rfl 11 (by decide) (List.mem_of_getElem? (i := 3) rfl) rfl (v := .int (nI (φ 11 0 + prc (φ 0) t j (rsf (φ 4) (φ 8 0) (φ 9 0) w) k + 1))) rfl rfl (Nat.le_of_ble_eq_true rfl) dX3_readSteps_103 (fun H locs hW => ?_)
            have hW : kw D A s.heap (wM c a (pu (pu (pu (pu φ 9 (kc (rsS (φ 4) (φ 8 0) (φ 9 0) w))) 10 (kc ((rsW (φ 4) (φ 8 0) (φ 9 0) w).toNat))) 0 (fu (prs (φ 0) t j (rsf (φ 4) (φ 8 0) (φ 9 0) w) k) (12 * t + j) (((prs (φ 0) t j (rsf (φ 4) (φ 8 0) (φ 9 0) w) k) (12 * t + j)) ||| (2 ^ (rsf (φ 4) (φ 8 0) (φ 9 0) w + k))))) 11 (kc (φ 11 0 + prc (φ 0) t j (rsf (φ 4) (φ 8 0) (φ 9 0) w) k + 1))) δ) H locs := hW
            have hW : kw D A s.heap (wM c a (pu (pu (pu (pu φ 9 (kc (rsS (φ 4) (φ 8 0) (φ 9 0) w))) 10 (kc ((rsW (φ 4) (φ 8 0) (φ 9 0) w).toNat))) 0 (prs (φ 0) t j (rsf (φ 4) (φ 8 0) (φ 9 0) w) (k + 1))) 11 (kc (φ 11 0 + prc (φ 0) t j (rsf (φ 4) (φ 8 0) (φ 9 0) w) (k + 1)))) δ) H locs := by first | (rw [(prs_t c_76).1, (prs_t c_76).2]; exact hW) | (rw [(prs_f c_76).1, (prs_f c_76).2]; exact hW)
            refine lv_iinc (v := nI (rsf (φ 4) (φ 8 0) (φ 9 0) w + k + 1)) (lv' := [(6, .int (nI (rsf (φ 4) (φ 8 0) (φ 9 0) w + k + 1))), (0, .ref (a 0)), (1, .int (nI (t))), (2, .int (nI (j))), (3, .int (nI (1))), (5, .int (rsF (φ 4) (φ 8 0) (φ 9 0) w))]) S.1 S.2.1 dX3_readSteps_106 hl (k := 4) rfl (nI_add _ _) (by decide) rfl (fun ls hl => ?_)
            refine lv_goto (tgt := 57) S.1 S.2.1 dX3_readSteps_109 (by decide) ?_
            exact ih57 (k + 1) _ _ _ ⟨hW, lv_sub hl [1, 2, 3, 4, 0, 5] rfl, (by omega)⟩ (by show (rsg (φ 4) (φ 8 0) (φ 9 0) w) + 1 - (k + 1) < (rsg (φ 4) (φ 8 0) (φ 9 0) w) + 1 - k; omega)
    · have hC : rsC (φ 4) (φ 8 0) (φ 9 0) w = true := rsC_3 c_17 c_28
      refine lv_aload_n S.1 S.2.1 dX3_readSteps_31 rfl (lv_at hl 2 rfl) ?_
      refine lv_dup S.1 S.2.1 dX3_readSteps_32 rfl ?_
      refine kx_get S hK hW hinX3 0 3 rfl rfl 9 (by decide) (List.mem_of_getElem? (i := 1) rfl) (v := .int (nI (rsS1 (φ 4) (φ 8 0) (φ 9 0) w))) rfl dX3_readSteps_33 ?_
      refine lv_iconst (v := nI (1)) S.1 S.2.1 dX3_readSteps_36 rfl ?_
      refine kn_iadd S dX3_readSteps_37 ?_
      refine kx_put S hK hW hinX3 tyX3_ok nmX3 0 3 rfl rfl 9 (by decide) (List.mem_of_getElem? (i := 1) rfl) rfl (v := .int (nI (rsS1 (φ 4) (φ 8 0) (φ 9 0) w + 1))) rfl rfl (Nat.le_of_ble_eq_true rfl) dX3_readSteps_38 (fun H locs hW => ?_)
      have hW : kw D A s.heap (wM c a (pu (pu φ 10 (kc ((rsW1 (φ 4) (φ 8 0) (φ 9 0) w).toNat))) 9 (kc (rsS1 (φ 4) (φ 8 0) (φ 9 0) w + 1))) δ) H locs := hW
      refine lv_aload_n S.1 S.2.1 dX3_readSteps_41 rfl (lv_at hl 2 rfl) ?_
      refine lv_iload S.1 S.2.1 dX3_readSteps_42 (lv_at hl 1 rfl) ?_
      refine lv_iconst (v := nI (1)) S.1 S.2.1 dX3_readSteps_44 rfl ?_
      refine lv_iadd S.1 S.2.1 dX3_readSteps_45 ?_
      refine lv_bipush (v := nI (31)) S.1 S.2.1 dX3_readSteps_46 rfl ?_
      refine k_VI (rest := []) S hK hl.1 hW (KFr.all hW hA) (mX3_number l D c a ((pu (pu φ 10 (kc ((rsW1 (φ 4) (φ 8 0) (φ 9 0) w).toNat))) 9 (kc (rsS1 (φ 4) (φ 8 0) (φ 9 0) w + 1)))) δ _ (rsW1 (φ 4) (φ 8 0) (φ 9 0) w) ((rsF (φ 4) (φ 8 0) (φ 9 0) w) + (nI (1))) (nI (31)) (by first | omega | exact hw | assumption | (show ((rsW1 (φ 4) (φ 8 0) (φ 9 0) w).toNat) = (rsW1 (φ 4) (φ 8 0) (φ 9 0) w).toNat; omega) | rfl) (by first | omega | exact hm | assumption | (show (φ 8 0) ≤ 60; omega) | rfl) (by first | omega | exact hs | assumption | (show (rsS1 (φ 4) (φ 8 0) (φ 9 0) w + 1) < 900; omega) | rfl)) gX3_readSteps_X3_number rfl pdX3_number ⟨⟨rfl, rfl⟩, Nat.le_of_ble_eq_true rfl, Nat.le_of_ble_eq_true rfl⟩ 0 3 rfl rfl rfl rfl (Nat.le_of_ble_eq_true rfl) dX3_readSteps_48 ⟨Nat.le_of_ble_eq_true rfl, Nat.le_of_ble_eq_true rfl⟩ (fun H locs hW => ?_)
      have hW : kw D A s.heap (wM c a (pu (pu φ 9 (kc (nmS2 ((φ 4)) ((φ 8 0)) ((rsS1 (φ 4) (φ 8 0) (φ 9 0) w + 1)) (rsW1 (φ 4) (φ 8 0) (φ 9 0) w) ((rsF (φ 4) (φ 8 0) (φ 9 0) w) + (nI (1))) (nI (31))))) 10 (kc ((nmW2 ((φ 4)) ((φ 8 0)) ((rsS1 (φ 4) (φ 8 0) (φ 9 0) w + 1)) (rsW1 (φ 4) (φ 8 0) (φ 9 0) w) ((rsF (φ 4) (φ 8 0) (φ 9 0) w) + (nI (1))) (nI (31))).toNat))) δ) H locs := hW
      refine k_top (y := nmV2 ((φ 4)) ((φ 8 0)) ((rsS1 (φ 4) (φ 8 0) (φ 9 0) w + 1)) (rsW1 (φ 4) (φ 8 0) (φ 9 0) w) ((rsF (φ 4) (φ 8 0) (φ 9 0) w) + (nI (1))) (nI (31))) rfl ?_
      refine lv_istore (lv' := [(5, .int (nmV2 ((φ 4)) ((φ 8 0)) ((rsS1 (φ 4) (φ 8 0) (φ 9 0) w + 1)) (rsW1 (φ 4) (φ 8 0) (φ 9 0) w) ((rsF (φ 4) (φ 8 0) (φ 9 0) w) + (nI (1))) (nI (31)))), (4, .int (rsF (φ 4) (φ 8 0) (φ 9 0) w)), (0, .ref (a 0)), (1, .int (nI (t))), (2, .int (nI (j))), (3, .int (nI (1)))]) S.1 S.2.1 dX3_readSteps_51 hl (by decide) rfl (fun ls hl => ?_)
      have hW : kw D A s.heap (wM c a (pu (pu φ 9 (kc (rsS (φ 4) (φ 8 0) (φ 9 0) w))) 10 (kc ((rsW (φ 4) (φ 8 0) (φ 9 0) w).toNat))) δ) H locs := by (rw [show rsS (φ 4) (φ 8 0) (φ 9 0) w = nmS2 ((φ 4)) ((φ 8 0)) ((rsS1 (φ 4) (φ 8 0) (φ 9 0) w + 1)) (rsW1 (φ 4) (φ 8 0) (φ 9 0) w) ((rsF (φ 4) (φ 8 0) (φ 9 0) w) + (nI (1))) (nI (31)) from (by first | exact (rs_f hC).1 | exact (rs_t hC).1), show rsW (φ 4) (φ 8 0) (φ 9 0) w = (nmW2 ((φ 4)) ((φ 8 0)) ((rsS1 (φ 4) (φ 8 0) (φ 9 0) w + 1)) (rsW1 (φ 4) (φ 8 0) (φ 9 0) w) ((rsF (φ 4) (φ 8 0) (φ 9 0) w) + (nI (1))) (nI (31))) from (by first | exact (rs_f hC).2.1 | exact (rs_t hC).2.1)]; exact hW)
      refine lv_iload S.1 S.2.1 dX3_readSteps_53 (lv_at hl 1 rfl) ?_
      refine k_top (y := nI (rsf (φ 4) (φ 8 0) (φ 9 0) w)) (hf) ?_
      refine lv_istore (lv' := [(6, .int (nI (rsf (φ 4) (φ 8 0) (φ 9 0) w))), (5, .int (nmV2 ((φ 4)) ((φ 8 0)) ((rsS1 (φ 4) (φ 8 0) (φ 9 0) w + 1)) (rsW1 (φ 4) (φ 8 0) (φ 9 0) w) ((rsF (φ 4) (φ 8 0) (φ 9 0) w) + (nI (1))) (nI (31)))), (4, .int (rsF (φ 4) (φ 8 0) (φ 9 0) w)), (0, .ref (a 0)), (1, .int (nI (t))), (2, .int (nI (j))), (3, .int (nI (1)))]) S.1 S.2.1 dX3_readSteps_55 hl (by decide) rfl (fun ls hl => ?_)
      have hW : kw D A s.heap (wM c a (pu (pu (pu (pu φ 9 (kc (rsS (φ 4) (φ 8 0) (φ 9 0) w))) 10 (kc ((rsW (φ 4) (φ 8 0) (φ 9 0) w).toNat))) 0 (prs (φ 0) t j (rsf (φ 4) (φ 8 0) (φ 9 0) w) 0)) 11 (kc (φ 11 0 + prc (φ 0) t j (rsf (φ 4) (φ 8 0) (φ 9 0) w) 0))) δ) H locs := by exact hW
      refine k_loop (fun (zz : Nat) H lo ls => match zz with | k => kw D A s.heap (wM c a (pu (pu (pu (pu φ 9 (kc (rsS (φ 4) (φ 8 0) (φ 9 0) w))) 10 (kc ((rsW (φ 4) (φ 8 0) (φ 9 0) w).toNat))) 0 (prs (φ 0) t j (rsf (φ 4) (φ 8 0) (φ 9 0) w) k)) 11 (kc (φ 11 0 + prc (φ 0) t j (rsf (φ 4) (φ 8 0) (φ 9 0) w) k))) δ) H lo ∧ lv_has ls 7 [(0, .ref (a 0)), (1, .int (nI (t))), (2, .int (nI (j))), (3, .int (nI (1))), (6, .int (nI (rsf (φ 4) (φ 8 0) (φ 9 0) w + k))), (5, .int (nmV2 ((φ 4)) ((φ 8 0)) ((rsS1 (φ 4) (φ 8 0) (φ 9 0) w + 1)) (rsW1 (φ 4) (φ 8 0) (φ 9 0) w) ((rsF (φ 4) (φ 8 0) (φ 9 0) w) + (nI (1))) (nI (31))))] ∧ rsf (φ 4) (φ 8 0) (φ 9 0) w + k ≤ rsg (φ 4) (φ 8 0) (φ 9 0) w + 1) (fun (zz : Nat) => match zz with | k => (rsg (φ 4) (φ 8 0) (φ 9 0) w) + 1 - k) [] ?_ 0 _ _ _ ⟨hW, lv_sub hl [3, 4, 5, 6, 0, 1] rfl, (by omega)⟩
      rintro k ih57 H locs ls ⟨hW, hl, hi57_0⟩
      have okk := ok.prk (f := rsf (φ 4) (φ 8 0) (φ 9 0) w) ht hj k (by omega)
      have hh := hind_le (prs (φ 0) t j (rsf (φ 4) (φ 8 0) (φ 9 0) w) k) t j (rsf (φ 4) (φ 8 0) (φ 9 0) w + k)
      refine lv_iload S.1 S.2.1 dX3_readSteps_57 (lv_at hl 4 rfl) ?_
      refine lv_iload S.1 S.2.1 dX3_readSteps_59 (lv_at hl 5 rfl) ?_
      refine k_top (y := nI (rsg (φ 4) (φ 8 0) (φ 9 0) w)) (by rw [← hg]; first | exact (rs_f hC).2.2.symm | exact (rs_t hC).2.2.symm) ?_
      refine kn_gt S (tgt := 112) dX3_readSteps_61 (by decide) (by omega) (by omega) (fun c_61 => ?_) (fun c_61 => ?_)
      · have e9 : k = (rsg (φ 4) (φ 8 0) (φ 9 0) w) + 1 - (rsf (φ 4) (φ 8 0) (φ 9 0) w) := by omega
        subst e9
        exact hret 112 _ _ _ _ dX3_readSteps_112 hW (rfl)
      · refine lv_iload_n S.1 S.2.1 dX3_readSteps_64 rfl (lv_at hl 3 rfl) ?_
        refine kz_eq S (tgt := 112) dX3_readSteps_65 (by decide) (by omega) (fun c_65 => ?_) (fun c_65 => ?_)
        · exact absurd c_65 (by decide)
        · refine lv_aload_n S.1 S.2.1 dX3_readSteps_68 rfl (lv_at hl 0 rfl) ?_
          refine lv_iload_n S.1 S.2.1 dX3_readSteps_69 rfl (lv_at hl 1 rfl) ?_
          refine lv_iload_n S.1 S.2.1 dX3_readSteps_70 rfl (lv_at hl 2 rfl) ?_
          refine lv_iload S.1 S.2.1 dX3_readSteps_71 (lv_at hl 4 rfl) ?_
          refine k_VI (rest := []) S hK hl.1 hW (KFr.all hW hA) (mX3_hindrance l D c a ((pu (pu (pu (pu φ 9 (kc (rsS (φ 4) (φ 8 0) (φ 9 0) w))) 10 (kc ((rsW (φ 4) (φ 8 0) (φ 9 0) w).toNat))) 0 (prs (φ 0) t j (rsf (φ 4) (φ 8 0) (φ 9 0) w) k)) 11 (kc (φ 11 0 + prc (φ 0) t j (rsf (φ 4) (φ 8 0) (φ 9 0) w) k)))) δ _ t j (rsf (φ 4) (φ 8 0) (φ 9 0) w + k) (by first | omega | exact ht | assumption | (show t < 3; omega) | rfl) (by first | omega | exact hj | assumption | (show j < 12; omega) | rfl) (by first | omega | exact hp | assumption | (show (rsf (φ 4) (φ 8 0) (φ 9 0) w + k) < 32; omega) | rfl) okk) gX3_readSteps_X3_hindrance rfl pdX3_hindrance ⟨⟨rfl, rfl⟩, Nat.le_of_ble_eq_true rfl, Nat.le_of_ble_eq_true rfl⟩ 0 3 rfl rfl rfl rfl (Nat.le_of_ble_eq_true rfl) dX3_readSteps_73 ⟨Nat.le_of_ble_eq_true rfl, Nat.le_of_ble_eq_true rfl⟩ (fun H locs hW => ?_)
          have hW : kw D A s.heap (wM c a (pu (pu (pu (pu φ 9 (kc (rsS (φ 4) (φ 8 0) (φ 9 0) w))) 10 (kc ((rsW (φ 4) (φ 8 0) (φ 9 0) w).toNat))) 0 (prs (φ 0) t j (rsf (φ 4) (φ 8 0) (φ 9 0) w) k)) 11 (kc (φ 11 0 + prc (φ 0) t j (rsf (φ 4) (φ 8 0) (φ 9 0) w) k))) δ) H locs := hW
          refine k_top (y := nI (hind ((prs (φ 0) t j (rsf (φ 4) (φ 8 0) (φ 9 0) w) k)) t j (rsf (φ 4) (φ 8 0) (φ 9 0) w + k))) rfl ?_
          refine kz_ne S (tgt := 106) dX3_readSteps_76 (by decide) (by omega) (fun c_76 => ?_) (fun c_76 => ?_)
          · have hW : kw D A s.heap (wM c a (pu (pu (pu (pu φ 9 (kc (rsS (φ 4) (φ 8 0) (φ 9 0) w))) 10 (kc ((rsW (φ 4) (φ 8 0) (φ 9 0) w).toNat))) 0 (prs (φ 0) t j (rsf (φ 4) (φ 8 0) (φ 9 0) w) (k + 1))) 11 (kc (φ 11 0 + prc (φ 0) t j (rsf (φ 4) (φ 8 0) (φ 9 0) w) (k + 1)))) δ) H locs := by first | (rw [(prs_t c_76).1, (prs_t c_76).2]; exact hW) | (rw [(prs_f c_76).1, (prs_f c_76).2]; exact hW)
            refine lv_iinc (v := nI (rsf (φ 4) (φ 8 0) (φ 9 0) w + k + 1)) (lv' := [(6, .int (nI (rsf (φ 4) (φ 8 0) (φ 9 0) w + k + 1))), (0, .ref (a 0)), (1, .int (nI (t))), (2, .int (nI (j))), (3, .int (nI (1))), (5, .int (nmV2 ((φ 4)) ((φ 8 0)) ((rsS1 (φ 4) (φ 8 0) (φ 9 0) w + 1)) (rsW1 (φ 4) (φ 8 0) (φ 9 0) w) ((rsF (φ 4) (φ 8 0) (φ 9 0) w) + (nI (1))) (nI (31))))]) S.1 S.2.1 dX3_readSteps_106 hl (k := 4) rfl (nI_add _ _) (by decide) rfl (fun ls hl => ?_)
            refine lv_goto (tgt := 57) S.1 S.2.1 dX3_readSteps_109 (by decide) ?_
            exact ih57 (k + 1) _ _ _ ⟨hW, lv_sub hl [1, 2, 3, 4, 0, 5] rfl, (by omega)⟩ (by show (rsg (φ 4) (φ 8 0) (φ 9 0) w) + 1 - (k + 1) < (rsg (φ 4) (φ 8 0) (φ 9 0) w) + 1 - k; omega)
          · refine lv_aload_n S.1 S.2.1 dX3_readSteps_79 rfl (lv_at hl 0 rfl) ?_
            refine kx_get S hK hW hinX3 0 3 rfl rfl 1 (by decide) (List.mem_of_getElem? (i := 2) rfl) (v := .ref (a 1)) rfl dX3_readSteps_80 ?_
            refine lv_iload_n S.1 S.2.1 dX3_readSteps_83 rfl (lv_at hl 1 rfl) ?_
            refine lv_iload_n S.1 S.2.1 dX3_readSteps_84 rfl (lv_at hl 2 rfl) ?_
            refine k_SI (rest := [.ref (a 1)]) S hK hl.1 hW (KFr.nil hW hA) (mX3_ofPins l D c  _ t j) gX3_readSteps_X3_ofPins rfl pdX3_ofPins ⟨⟨rfl, rfl⟩, Nat.le_of_ble_eq_true rfl, Nat.le_of_ble_eq_true rfl⟩ rfl (Nat.le_of_ble_eq_true rfl) dX3_readSteps_85 ⟨Nat.le_of_ble_eq_true rfl, Nat.le_of_ble_eq_true rfl⟩ (fun H locs hW => ?_)
            have hW : kw D A s.heap (wM c a (pu (pu (pu (pu φ 9 (kc (rsS (φ 4) (φ 8 0) (φ 9 0) w))) 10 (kc ((rsW (φ 4) (φ 8 0) (φ 9 0) w).toNat))) 0 (prs (φ 0) t j (rsf (φ 4) (φ 8 0) (φ 9 0) w) k)) 11 (kc (φ 11 0 + prc (φ 0) t j (rsf (φ 4) (φ 8 0) (φ 9 0) w) k))) δ) H locs := hW
            refine lv_dup2_11 S.1 S.2.1 dX3_readSteps_88 rfl rfl ?_
            refine kn_ald S hK hW 1 (f := prs (φ 0) t j (rsf (φ 4) (φ 8 0) (φ 9 0) w) k) rfl (by omega) (by decide) dX3_readSteps_89 ?_
            refine lv_iconst (v := nI (1)) S.1 S.2.1 dX3_readSteps_90 rfl ?_
            refine lv_iload S.1 S.2.1 dX3_readSteps_91 (lv_at hl 4 rfl) ?_
            refine kn_shl1 S dX3_readSteps_93 (by omega) ?_
            refine kn_ior S dX3_readSteps_94 ?_
            refine kn_ast S hK hW 1 (f := prs (φ 0) t j (rsf (φ 4) (φ 8 0) (φ 9 0) w) k) rfl (by omega) (by decide) dX3_readSteps_95 (fun H locs hW => ?_)
            have hW : kw D A s.heap (wM c a (pu (pu (pu (pu φ 9 (kc (rsS (φ 4) (φ 8 0) (φ 9 0) w))) 10 (kc ((rsW (φ 4) (φ 8 0) (φ 9 0) w).toNat))) 11 (kc (φ 11 0 + prc (φ 0) t j (rsf (φ 4) (φ 8 0) (φ 9 0) w) k))) 0 (fu (prs (φ 0) t j (rsf (φ 4) (φ 8 0) (φ 9 0) w) k) (12 * t + j) (((prs (φ 0) t j (rsf (φ 4) (φ 8 0) (φ 9 0) w) k) (12 * t + j)) ||| (2 ^ (rsf (φ 4) (φ 8 0) (φ 9 0) w + k))))) δ) H locs := hW
            refine lv_aload_n S.1 S.2.1 dX3_readSteps_96 rfl (lv_at hl 0 rfl) ?_
            refine lv_dup S.1 S.2.1 dX3_readSteps_97 rfl ?_
            refine kx_get S hK hW hinX3 0 3 rfl rfl 11 (by decide) (List.mem_of_getElem? (i := 3) rfl) (v := .int (nI (φ 11 0 + prc (φ 0) t j (rsf (φ 4) (φ 8 0) (φ 9 0) w) k))) rfl dX3_readSteps_98 ?_
            refine lv_iconst (v := nI (1)) S.1 S.2.1 dX3_readSteps_101 rfl ?_
            refine kn_iadd S dX3_readSteps_102 ?_
            refine kx_put S hK hW hinX3 tyX3_ok nmX3 0 3 rfl rfl 11 (by decide) (List.mem_of_getElem? (i := 3) rfl) rfl (v := .int (nI (φ 11 0 + prc (φ 0) t j (rsf (φ 4) (φ 8 0) (φ 9 0) w) k + 1))) rfl rfl (Nat.le_of_ble_eq_true rfl) dX3_readSteps_103 (fun H locs hW => ?_)
            have hW : kw D A s.heap (wM c a (pu (pu (pu (pu φ 9 (kc (rsS (φ 4) (φ 8 0) (φ 9 0) w))) 10 (kc ((rsW (φ 4) (φ 8 0) (φ 9 0) w).toNat))) 0 (fu (prs (φ 0) t j (rsf (φ 4) (φ 8 0) (φ 9 0) w) k) (12 * t + j) (((prs (φ 0) t j (rsf (φ 4) (φ 8 0) (φ 9 0) w) k) (12 * t + j)) ||| (2 ^ (rsf (φ 4) (φ 8 0) (φ 9 0) w + k))))) 11 (kc (φ 11 0 + prc (φ 0) t j (rsf (φ 4) (φ 8 0) (φ 9 0) w) k + 1))) δ) H locs := hW
            have hW : kw D A s.heap (wM c a (pu (pu (pu (pu φ 9 (kc (rsS (φ 4) (φ 8 0) (φ 9 0) w))) 10 (kc ((rsW (φ 4) (φ 8 0) (φ 9 0) w).toNat))) 0 (prs (φ 0) t j (rsf (φ 4) (φ 8 0) (φ 9 0) w) (k + 1))) 11 (kc (φ 11 0 + prc (φ 0) t j (rsf (φ 4) (φ 8 0) (φ 9 0) w) (k + 1)))) δ) H locs := by first | (rw [(prs_t c_76).1, (prs_t c_76).2]; exact hW) | (rw [(prs_f c_76).1, (prs_f c_76).2]; exact hW)
            refine lv_iinc (v := nI (rsf (φ 4) (φ 8 0) (φ 9 0) w + k + 1)) (lv' := [(6, .int (nI (rsf (φ 4) (φ 8 0) (φ 9 0) w + k + 1))), (0, .ref (a 0)), (1, .int (nI (t))), (2, .int (nI (j))), (3, .int (nI (1))), (5, .int (nmV2 ((φ 4)) ((φ 8 0)) ((rsS1 (φ 4) (φ 8 0) (φ 9 0) w + 1)) (rsW1 (φ 4) (φ 8 0) (φ 9 0) w) ((rsF (φ 4) (φ 8 0) (φ 9 0) w) + (nI (1))) (nI (31))))]) S.1 S.2.1 dX3_readSteps_106 hl (k := 4) rfl (nI_add _ _) (by decide) rfl (fun ls hl => ?_)
            refine lv_goto (tgt := 57) S.1 S.2.1 dX3_readSteps_109 (by decide) ?_
            exact ih57 (k + 1) _ _ _ ⟨hW, lv_sub hl [1, 2, 3, 4, 0, 5] rfl, (by omega)⟩ (by show (rsg (φ 4) (φ 8 0) (φ 9 0) w) + 1 - (k + 1) < (rsg (φ 4) (φ 8 0) (φ 9 0) w) + 1 - k; omega)
set_option maxHeartbeats 400000 in
set_option maxRecDepth 100000 in
theorem mX3_readPart_t (l : Launch) (D : va_G) (c : Nat → ClassId) (a : Nat → Nat) (φ : Nat → Nat → Nat) (δ : Int64) (sz : Nat) (w : Bool) (hw : φ 10 0 = w.toNat) (hm : φ 8 0 ≤ 60) (hs : φ 9 0 < 100) (ok : okM (φ 0)) (hv : (rpx (φ 4) (φ 8 0) (φ 9 0, w)).2 = false) : MV l yX3_readPart wsX3_readPart rmX3_readPart D c sz (wM c a φ δ) [.ref (a 0), .int (nI (1))]  (wM c a (pu (pu (pu (pu φ 9 (kc ((rpx (φ 4) (φ 8 0) (φ 9 0, w)).1))) 10 (kc (((rpx (φ 4) (φ 8 0) (φ 9 0, w)).2).toNat))) 0 ((rtx (φ 4) (φ 8 0) (φ 9 0, w) (φ 0) (φ 11 0)).2.1)) 11 (kc ((rtx (φ 4) (φ 8 0) (φ 9 0, w) (φ 0) (φ 11 0)).2.2))) δ) := by
  refine MV.of (cc := cX3_readPart) (maxL := 5) (by decide) rfl (Nat.le_of_ble_eq_true rfl) ?_
  intro P e s m below meth cd A Q ls hsz S hK hW hA hl hret
  have hl : lv_has ls 5 [(0, .ref (a 0)), (1, .int (nI (1)))] := hl
  have hinX3 : ∀ w ∈ u_ws RX3 TX3 13, w ∈ wsX3_readPart := by decide +kernel
  have hq := rq_le (φ 4) (φ 8 0) (φ 9 0, w)
  dsimp only at hq
  have hT := rqt_ok hv
  have hJ := rqj_ok hv
  have hV := rq_w hv
  refine lv_aload_n S.1 S.2.1 dX3_readPart_0 rfl (lv_at hl 0 rfl) ?_
  refine lv_bipush (v := nI (48)) S.1 S.2.1 dX3_readPart_1 rfl ?_
  refine lv_bipush (v := nI (50)) S.1 S.2.1 dX3_readPart_3 rfl ?_
  refine k_VI (rest := []) S hK hl.1 hW (KFr.all hW hA) (mX3_takes l D c a φ δ _ w (nI (48)) (nI (50)) (by first | omega | exact hw | assumption | (show φ 10 0 = w.toNat; omega) | rfl) (by first | omega | exact hm | assumption | (show φ 8 0 ≤ 60; omega) | rfl) (by first | omega | exact hs | assumption | (show φ 9 0 < 1000; omega) | rfl)) gX3_readPart_X3_takes rfl pdX3_takes ⟨⟨rfl, rfl⟩, Nat.le_of_ble_eq_true rfl, Nat.le_of_ble_eq_true rfl⟩ 0 3 rfl rfl rfl rfl (Nat.le_of_ble_eq_true rfl) dX3_readPart_5 ⟨Nat.le_of_ble_eq_true rfl, Nat.le_of_ble_eq_true rfl⟩ (fun H locs hW => ?_)
  have hW : kw D A s.heap (wM c a (pu (pu φ 9 (kc (φ 9 0 + (nxb (φ 4) (φ 8 0) (φ 9 0) w (nI (48)) (nI (50))).toNat))) 10 (kc ((w || !(nxb (φ 4) (φ 8 0) (φ 9 0) w (nI (48)) (nI (50)))).toNat))) δ) H locs := hW
  refine k_top (y := nI (rqt (φ 4) (φ 8 0) (φ 9 0, w))) (hT.1) ?_
  have hW : kw D A s.heap (wM c a (pu (pu φ 9 (kc ((rq1 (φ 4) (φ 8 0) (φ 9 0, w)).1))) 10 (kc (((rq1 (φ 4) (φ 8 0) (φ 9 0, w)).2).toNat))) δ) H locs := hW
  refine lv_istore_n (lv' := [(2, .int (nI (rqt (φ 4) (φ 8 0) (φ 9 0, w)))), (0, .ref (a 0)), (1, .int (nI (1)))]) S.1 S.2.1 dX3_readPart_8 rfl hl (by decide) rfl (fun ls hl => ?_)
  refine lv_aload_n S.1 S.2.1 dX3_readPart_9 rfl (lv_at hl 1 rfl) ?_
  refine lv_bipush (v := nI (47)) S.1 S.2.1 dX3_readPart_10 rfl ?_
  refine lv_bipush (v := nI (47)) S.1 S.2.1 dX3_readPart_12 rfl ?_
  refine k_VI (rest := []) S hK hl.1 hW (KFr.all hW hA) (mX3_takes l D c a ((pu (pu φ 9 (kc ((rq1 (φ 4) (φ 8 0) (φ 9 0, w)).1))) 10 (kc (((rq1 (φ 4) (φ 8 0) (φ 9 0, w)).2).toNat)))) δ _ ((rq1 (φ 4) (φ 8 0) (φ 9 0, w)).2) (nI (47)) (nI (47)) (by first | omega | exact hw | assumption | (show (((rq1 (φ 4) (φ 8 0) (φ 9 0, w)).2).toNat) = ((rq1 (φ 4) (φ 8 0) (φ 9 0, w)).2).toNat; omega) | rfl) (by first | omega | exact hm | assumption | (show (φ 8 0) ≤ 60; omega) | rfl) (by first | omega | exact hs | assumption | (show ((rq1 (φ 4) (φ 8 0) (φ 9 0, w)).1) < 1000; omega) | rfl)) gX3_readPart_X3_takes rfl pdX3_takes ⟨⟨rfl, rfl⟩, Nat.le_of_ble_eq_true rfl, Nat.le_of_ble_eq_true rfl⟩ 0 3 rfl rfl rfl rfl (Nat.le_of_ble_eq_true rfl) dX3_readPart_14 ⟨Nat.le_of_ble_eq_true rfl, Nat.le_of_ble_eq_true rfl⟩ (fun H locs hW => ?_)
  have hW : kw D A s.heap (wM c a (pu (pu φ 9 (kc (((rq1 (φ 4) (φ 8 0) (φ 9 0, w)).1) + (nxb ((φ 4)) ((φ 8 0)) (((rq1 (φ 4) (φ 8 0) (φ 9 0, w)).1)) ((rq1 (φ 4) (φ 8 0) (φ 9 0, w)).2) (nI (47)) (nI (47))).toNat))) 10 (kc ((((rq1 (φ 4) (φ 8 0) (φ 9 0, w)).2) || !(nxb ((φ 4)) ((φ 8 0)) (((rq1 (φ 4) (φ 8 0) (φ 9 0, w)).1)) ((rq1 (φ 4) (φ 8 0) (φ 9 0, w)).2) (nI (47)) (nI (47)))).toNat))) δ) H locs := hW
  refine k_top (y := tkv ((φ 4)) ((φ 8 0)) (((rq1 (φ 4) (φ 8 0) (φ 9 0, w)).1)) ((rq1 (φ 4) (φ 8 0) (φ 9 0, w)).2) (nI (47)) (nI (47))) rfl ?_
  have hW : kw D A s.heap (wM c a (pu (pu φ 9 (kc ((rq2 (φ 4) (φ 8 0) (φ 9 0, w)).1))) 10 (kc (((rq2 (φ 4) (φ 8 0) (φ 9 0, w)).2).toNat))) δ) H locs := hW
  refine lv_istore_n (lv' := [(3, .int (tkv ((φ 4)) ((φ 8 0)) (((rq1 (φ 4) (φ 8 0) (φ 9 0, w)).1)) ((rq1 (φ 4) (φ 8 0) (φ 9 0, w)).2) (nI (47)) (nI (47)))), (2, .int (nI (rqt (φ 4) (φ 8 0) (φ 9 0, w)))), (0, .ref (a 0)), (1, .int (nI (1)))]) S.1 S.2.1 dX3_readPart_17 rfl hl (by decide) rfl (fun ls hl => ?_)
  refine lv_aload_n S.1 S.2.1 dX3_readPart_18 rfl (lv_at hl 2 rfl) ?_
  refine lv_iconst (v := nI (0)) S.1 S.2.1 dX3_readPart_19 rfl ?_
  refine lv_bipush (v := nI (11)) S.1 S.2.1 dX3_readPart_20 rfl ?_
  refine k_VI (rest := []) S hK hl.1 hW (KFr.all hW hA) (mX3_number l D c a ((pu (pu φ 9 (kc ((rq2 (φ 4) (φ 8 0) (φ 9 0, w)).1))) 10 (kc (((rq2 (φ 4) (φ 8 0) (φ 9 0, w)).2).toNat)))) δ _ ((rq2 (φ 4) (φ 8 0) (φ 9 0, w)).2) (nI (0)) (nI (11)) (by first | omega | exact hw | assumption | (show (((rq2 (φ 4) (φ 8 0) (φ 9 0, w)).2).toNat) = ((rq2 (φ 4) (φ 8 0) (φ 9 0, w)).2).toNat; omega) | rfl) (by first | omega | exact hm | assumption | (show (φ 8 0) ≤ 60; omega) | rfl) (by first | omega | exact hs | assumption | (show ((rq2 (φ 4) (φ 8 0) (φ 9 0, w)).1) < 900; omega) | rfl)) gX3_readPart_X3_number rfl pdX3_number ⟨⟨rfl, rfl⟩, Nat.le_of_ble_eq_true rfl, Nat.le_of_ble_eq_true rfl⟩ 0 3 rfl rfl rfl rfl (Nat.le_of_ble_eq_true rfl) dX3_readPart_22 ⟨Nat.le_of_ble_eq_true rfl, Nat.le_of_ble_eq_true rfl⟩ (fun H locs hW => ?_)
  have hW : kw D A s.heap (wM c a (pu (pu φ 9 (kc (nmS2 ((φ 4)) ((φ 8 0)) (((rq2 (φ 4) (φ 8 0) (φ 9 0, w)).1)) ((rq2 (φ 4) (φ 8 0) (φ 9 0, w)).2) (nI (0)) (nI (11))))) 10 (kc ((nmW2 ((φ 4)) ((φ 8 0)) (((rq2 (φ 4) (φ 8 0) (φ 9 0, w)).1)) ((rq2 (φ 4) (φ 8 0) (φ 9 0, w)).2) (nI (0)) (nI (11))).toNat))) δ) H locs := hW
  refine k_top (y := nmV2 ((φ 4)) ((φ 8 0)) (((rq2 (φ 4) (φ 8 0) (φ 9 0, w)).1)) ((rq2 (φ 4) (φ 8 0) (φ 9 0, w)).2) (nI (0)) (nI (11))) rfl ?_
  refine k_top (y := nI (rqj (φ 4) (φ 8 0) (φ 9 0, w))) (hJ.1) ?_
  have hW : kw D A s.heap (wM c a (pu (pu φ 9 (kc ((rq3 (φ 4) (φ 8 0) (φ 9 0, w)).1))) 10 (kc (((rq3 (φ 4) (φ 8 0) (φ 9 0, w)).2).toNat))) δ) H locs := hW
  refine lv_istore (lv' := [(4, .int (nI (rqj (φ 4) (φ 8 0) (φ 9 0, w)))), (3, .int (tkv ((φ 4)) ((φ 8 0)) (((rq1 (φ 4) (φ 8 0) (φ 9 0, w)).1)) ((rq1 (φ 4) (φ 8 0) (φ 9 0, w)).2) (nI (47)) (nI (47)))), (2, .int (nI (rqt (φ 4) (φ 8 0) (φ 9 0, w)))), (0, .ref (a 0)), (1, .int (nI (1)))]) S.1 S.2.1 dX3_readPart_25 hl (by decide) rfl (fun ls hl => ?_)
  refine lv_aload_n S.1 S.2.1 dX3_readPart_27 rfl (lv_at hl 3 rfl) ?_
  refine lv_bipush (v := nI (58)) S.1 S.2.1 dX3_readPart_28 rfl ?_
  refine lv_bipush (v := nI (58)) S.1 S.2.1 dX3_readPart_30 rfl ?_
  refine k_VI (rest := []) S hK hl.1 hW (KFr.all hW hA) (mX3_takes l D c a ((pu (pu φ 9 (kc ((rq3 (φ 4) (φ 8 0) (φ 9 0, w)).1))) 10 (kc (((rq3 (φ 4) (φ 8 0) (φ 9 0, w)).2).toNat)))) δ _ ((rq3 (φ 4) (φ 8 0) (φ 9 0, w)).2) (nI (58)) (nI (58)) (by first | omega | exact hw | assumption | (show (((rq3 (φ 4) (φ 8 0) (φ 9 0, w)).2).toNat) = ((rq3 (φ 4) (φ 8 0) (φ 9 0, w)).2).toNat; omega) | rfl) (by first | omega | exact hm | assumption | (show (φ 8 0) ≤ 60; omega) | rfl) (by first | omega | exact hs | assumption | (show ((rq3 (φ 4) (φ 8 0) (φ 9 0, w)).1) < 1000; omega) | rfl)) gX3_readPart_X3_takes rfl pdX3_takes ⟨⟨rfl, rfl⟩, Nat.le_of_ble_eq_true rfl, Nat.le_of_ble_eq_true rfl⟩ 0 3 rfl rfl rfl rfl (Nat.le_of_ble_eq_true rfl) dX3_readPart_32 ⟨Nat.le_of_ble_eq_true rfl, Nat.le_of_ble_eq_true rfl⟩ (fun H locs hW => ?_)
  have hW : kw D A s.heap (wM c a (pu (pu φ 9 (kc (((rq3 (φ 4) (φ 8 0) (φ 9 0, w)).1) + (nxb ((φ 4)) ((φ 8 0)) (((rq3 (φ 4) (φ 8 0) (φ 9 0, w)).1)) ((rq3 (φ 4) (φ 8 0) (φ 9 0, w)).2) (nI (58)) (nI (58))).toNat))) 10 (kc ((((rq3 (φ 4) (φ 8 0) (φ 9 0, w)).2) || !(nxb ((φ 4)) ((φ 8 0)) (((rq3 (φ 4) (φ 8 0) (φ 9 0, w)).1)) ((rq3 (φ 4) (φ 8 0) (φ 9 0, w)).2) (nI (58)) (nI (58)))).toNat))) δ) H locs := hW
  refine k_top (y := tkv ((φ 4)) ((φ 8 0)) (((rq3 (φ 4) (φ 8 0) (φ 9 0, w)).1)) ((rq3 (φ 4) (φ 8 0) (φ 9 0, w)).2) (nI (58)) (nI (58))) rfl ?_
  have hW : kw D A s.heap (wM c a (pu (pu φ 9 (kc ((rq4 (φ 4) (φ 8 0) (φ 9 0, w)).1))) 10 (kc (((rq4 (φ 4) (φ 8 0) (φ 9 0, w)).2).toNat))) δ) H locs := hW
  refine lv_istore_n (lv' := [(3, .int (tkv ((φ 4)) ((φ 8 0)) (((rq3 (φ 4) (φ 8 0) (φ 9 0, w)).1)) ((rq3 (φ 4) (φ 8 0) (φ 9 0, w)).2) (nI (58)) (nI (58)))), (4, .int (nI (rqj (φ 4) (φ 8 0) (φ 9 0, w)))), (2, .int (nI (rqt (φ 4) (φ 8 0) (φ 9 0, w)))), (0, .ref (a 0)), (1, .int (nI (1)))]) S.1 S.2.1 dX3_readPart_35 rfl hl (by decide) rfl (fun ls hl => ?_)
  refine lv_aload_n S.1 S.2.1 dX3_readPart_36 rfl (lv_at hl 3 rfl) ?_
  refine lv_iload_n S.1 S.2.1 dX3_readPart_37 rfl (lv_at hl 2 rfl) ?_
  refine lv_iload S.1 S.2.1 dX3_readPart_38 (lv_at hl 1 rfl) ?_
  refine lv_iload_n S.1 S.2.1 dX3_readPart_40 rfl (lv_at hl 4 rfl) ?_
  refine k_VV (rest := []) S hK hl.1 hW (KFr.all hW hA) (mX3_readSteps_t l D c a ((pu (pu φ 9 (kc ((rq4 (φ 4) (φ 8 0) (φ 9 0, w)).1))) 10 (kc (((rq4 (φ 4) (φ 8 0) (φ 9 0, w)).2).toNat)))) δ _ ((rq4 (φ 4) (φ 8 0) (φ 9 0, w)).2) (rqt (φ 4) (φ 8 0) (φ 9 0, w)) (rqj (φ 4) (φ 8 0) (φ 9 0, w)) (by first | omega | exact hw | assumption | (show (((rq4 (φ 4) (φ 8 0) (φ 9 0, w)).2).toNat) = ((rq4 (φ 4) (φ 8 0) (φ 9 0, w)).2).toNat; omega) | rfl) (by first | omega | exact hm | assumption | (show (φ 8 0) ≤ 60; omega) | rfl) (by first | omega | exact hs | assumption | (show ((rq4 (φ 4) (φ 8 0) (φ 9 0, w)).1) < 700; omega) | rfl) hT.2 hJ.2 (by first | omega | exact ok | assumption | (show okM ((φ 0)); omega) | rfl) hV.1) gX3_readPart_X3_readSteps rfl pdX3_readSteps ⟨⟨rfl, rfl⟩, Nat.le_of_ble_eq_true rfl, Nat.le_of_ble_eq_true rfl⟩ 0 3 rfl rfl rfl rfl (Nat.le_of_ble_eq_true rfl) dX3_readPart_41 ⟨Nat.le_of_ble_eq_true rfl, Nat.le_of_ble_eq_true rfl⟩ (fun H locs hW => ?_)
  have hW : kw D A s.heap (wM c a (pu (pu (pu (pu φ 9 (kc (rsS ((φ 4)) ((φ 8 0)) (((rq4 (φ 4) (φ 8 0) (φ 9 0, w)).1)) ((rq4 (φ 4) (φ 8 0) (φ 9 0, w)).2)))) 10 (kc ((rsW ((φ 4)) ((φ 8 0)) (((rq4 (φ 4) (φ 8 0) (φ 9 0, w)).1)) ((rq4 (φ 4) (φ 8 0) (φ 9 0, w)).2)).toNat))) 0 (prs ((φ 0)) (rqt (φ 4) (φ 8 0) (φ 9 0, w)) (rqj (φ 4) (φ 8 0) (φ 9 0, w)) (rsf ((φ 4)) ((φ 8 0)) (((rq4 (φ 4) (φ 8 0) (φ 9 0, w)).1)) ((rq4 (φ 4) (φ 8 0) (φ 9 0, w)).2)) ((rsg ((φ 4)) ((φ 8 0)) (((rq4 (φ 4) (φ 8 0) (φ 9 0, w)).1)) ((rq4 (φ 4) (φ 8 0) (φ 9 0, w)).2)) + 1 - (rsf ((φ 4)) ((φ 8 0)) (((rq4 (φ 4) (φ 8 0) (φ 9 0, w)).1)) ((rq4 (φ 4) (φ 8 0) (φ 9 0, w)).2))))) 11 (kc ((φ 11 0) + prc ((φ 0)) (rqt (φ 4) (φ 8 0) (φ 9 0, w)) (rqj (φ 4) (φ 8 0) (φ 9 0, w)) (rsf ((φ 4)) ((φ 8 0)) (((rq4 (φ 4) (φ 8 0) (φ 9 0, w)).1)) ((rq4 (φ 4) (φ 8 0) (φ 9 0, w)).2)) ((rsg ((φ 4)) ((φ 8 0)) (((rq4 (φ 4) (φ 8 0) (φ 9 0, w)).1)) ((rq4 (φ 4) (φ 8 0) (φ 9 0, w)).2)) + 1 - (rsf ((φ 4)) ((φ 8 0)) (((rq4 (φ 4) (φ 8 0) (φ 9 0, w)).1)) ((rq4 (φ 4) (φ 8 0) (φ 9 0, w)).2)))))) δ) H locs := hW
  have hW : kw D A s.heap (wM c a (pu (pu (pu (pu φ 9 (kc ((rq5 (φ 4) (φ 8 0) (φ 9 0, w)).1))) 10 (kc (((rq5 (φ 4) (φ 8 0) (φ 9 0, w)).2).toNat))) 0 ((sps (φ 0) (φ 4) (φ 8 0) (rqt (φ 4) (φ 8 0) (φ 9 0, w)) (rqj (φ 4) (φ 8 0) (φ 9 0, w)) (rq4 (φ 4) (φ 8 0) (φ 9 0, w))))) 11 (kc ((φ 11 0 + spc (φ 0) (φ 4) (φ 8 0) (rqt (φ 4) (φ 8 0) (φ 9 0, w)) (rqj (φ 4) (φ 8 0) (φ 9 0, w)) (rq4 (φ 4) (φ 8 0) (φ 9 0, w)))))) δ) H locs := by exact hW
  refine k_loop (fun (zz : Nat × (Nat × Bool) × (Nat → Nat) × Nat) H lo ls => match zz with | (n, x, g, c1) => kw D A s.heap (wM c a (pu (pu (pu (pu φ 9 (kc (x.1))) 10 (kc ((x.2).toNat))) 0 g) 11 (kc (c1))) δ) H lo ∧ lv_has ls 5 [(0, .ref (a 0)), (1, .int (nI (1))), (2, .int (nI (rqt (φ 4) (φ 8 0) (φ 9 0, w)))), (3, .int (tkv ((φ 4)) ((φ 8 0)) (((rq3 (φ 4) (φ 8 0) (φ 9 0, w)).1)) ((rq3 (φ 4) (φ 8 0) (φ 9 0, w)).2) (nI (58)) (nI (58)))), (4, .int (nI (rqj (φ 4) (φ 8 0) (φ 9 0, w))))] ∧ rpl (φ 4) (φ 8 0) n x = rpx (φ 4) (φ 8 0) (φ 9 0, w) ∧ φ 8 0 < x.1 + n ∧ x.1 < 200 ∧ okM g ∧ rtl (φ 4) (φ 8 0) (rqt (φ 4) (φ 8 0) (φ 9 0, w)) (rqj (φ 4) (φ 8 0) (φ 9 0, w)) n (x, g, c1) = rtx (φ 4) (φ 8 0) (φ 9 0, w) (φ 0) (φ 11 0)) (fun (zz : Nat × (Nat × Bool) × (Nat → Nat) × Nat) => match zz with | (n, x, g, c1) => n) [] ?_ (φ 8 0 + 1, rq5 (φ 4) (φ 8 0) (φ 9 0, w), sps (φ 0) (φ 4) (φ 8 0) (rqt (φ 4) (φ 8 0) (φ 9 0, w)) (rqj (φ 4) (φ 8 0) (φ 9 0, w)) (rq4 (φ 4) (φ 8 0) (φ 9 0, w)), φ 11 0 + spc (φ 0) (φ 4) (φ 8 0) (rqt (φ 4) (φ 8 0) (φ 9 0, w)) (rqj (φ 4) (φ 8 0) (φ 9 0, w)) (rq4 (φ 4) (φ 8 0) (φ 9 0, w))) _ _ _ ⟨hW, lv_sub hl [3, 4, 2, 0, 1] rfl, rfl, (by omega), (by omega), (ok.spk hT.2 hJ.2 hV.1), rfl⟩
  rintro ⟨n, x, g, c1⟩ ih44 H locs ls ⟨hW, hl, hx, hn, h200, okg, hz⟩
  refine lv_aload_n S.1 S.2.1 dX3_readPart_44 rfl (lv_at hl 0 rfl) ?_
  refine lv_bipush (v := nI (44)) S.1 S.2.1 dX3_readPart_45 rfl ?_
  refine lv_bipush (v := nI (44)) S.1 S.2.1 dX3_readPart_47 rfl ?_
  refine k_VI (rest := []) S hK hl.1 hW (KFr.all hW hA) (mX3_isNext l D c a ((pu (pu (pu (pu φ 9 (kc (x.1))) 10 (kc ((x.2).toNat))) 0 g) 11 (kc (c1)))) δ _ (x.2) (nI (44)) (nI (44)) (by first | omega | exact hw | assumption | (show ((x.2).toNat) = (x.2).toNat; omega) | rfl) (by first | omega | exact hm | assumption | (show (φ 8 0) ≤ 60; omega) | rfl) (by first | omega | exact hs | assumption | (show (x.1) < 1000; omega) | rfl)) gX3_readPart_X3_isNext rfl pdX3_isNext ⟨⟨rfl, rfl⟩, Nat.le_of_ble_eq_true rfl, Nat.le_of_ble_eq_true rfl⟩ 0 3 rfl rfl rfl rfl (Nat.le_of_ble_eq_true rfl) dX3_readPart_49 ⟨Nat.le_of_ble_eq_true rfl, Nat.le_of_ble_eq_true rfl⟩ (fun H locs hW => ?_)
  have hW : kw D A s.heap (wM c a (pu (pu (pu (pu φ 9 (kc (x.1))) 10 (kc ((x.2).toNat))) 0 g) 11 (kc (c1))) δ) H locs := hW
  refine k_top (y := nI ((nxb ((φ 4)) ((φ 8 0)) ((x.1)) (x.2) (nI (44)) (nI (44))).toNat)) rfl ?_
  refine kb_eq S (tgt := 76) dX3_readPart_52 (by decide) (fun c_52 => ?_) (fun c_52 => ?_)
  · have hW : kw D A s.heap (wM c a (pu (pu (pu (pu φ 9 (kc ((rpx (φ 4) (φ 8 0) (φ 9 0, w)).1))) 10 (kc (((rpx (φ 4) (φ 8 0) (φ 9 0, w)).2).toNat))) 0 ((rtx (φ 4) (φ 8 0) (φ 9 0, w) (φ 0) (φ 11 0)).2.1)) 11 (kc ((rtx (φ 4) (φ 8 0) (φ 9 0, w) (φ 0) (φ 11 0)).2.2))) δ) H locs := by (rw [show rpx (φ 4) (φ 8 0) (φ 9 0, w) = x from by rw [← hx, rpl_f c_52], show rtx (φ 4) (φ 8 0) (φ 9 0, w) (φ 0) (φ 11 0) = (x, g, c1) from by rw [← hz, rtl_f (z := (x, g, c1)) c_52]]; exact hW)
    exact hret 76 _ _ _ _ dX3_readPart_76 hW (rfl)
  · have ht2 := rpl_t c_52 hn
    have hlt := nxb_lt c_52
    have hVx : (rsx (φ 4) (φ 8 0) (x.1 + 1, x.2)).2 = false := rpl_w (n - 1) _ (by rw [← ht2.2, hx]; exact hv)
    have h1 := rsx_le (φ 4) (φ 8 0) (x.1 + 1, x.2)
    dsimp only at h1
    refine lv_aload_n S.1 S.2.1 dX3_readPart_55 rfl (lv_at hl 0 rfl) ?_
    refine lv_dup S.1 S.2.1 dX3_readPart_56 rfl ?_
    refine kx_get S hK hW hinX3 0 3 rfl rfl 9 (by decide) (List.mem_of_getElem? (i := 1) rfl) (v := .int (nI (x.1))) rfl dX3_readPart_57 ?_
    refine lv_iconst (v := nI (1)) S.1 S.2.1 dX3_readPart_60 rfl ?_
    refine kn_iadd S dX3_readPart_61 ?_
    refine kx_put S hK hW hinX3 tyX3_ok nmX3 0 3 rfl rfl 9 (by decide) (List.mem_of_getElem? (i := 1) rfl) rfl (v := .int (nI (x.1 + 1))) rfl rfl (Nat.le_of_ble_eq_true rfl) dX3_readPart_62 (fun H locs hW => ?_)
    have hW : kw D A s.heap (wM c a (pu (pu (pu (pu φ 10 (kc ((x.2).toNat))) 0 g) 11 (kc (c1))) 9 (kc (x.1 + 1))) δ) H locs := hW
    refine lv_aload_n S.1 S.2.1 dX3_readPart_65 rfl (lv_at hl 0 rfl) ?_
    refine lv_iload_n S.1 S.2.1 dX3_readPart_66 rfl (lv_at hl 2 rfl) ?_
    refine lv_iload S.1 S.2.1 dX3_readPart_67 (lv_at hl 4 rfl) ?_
    refine lv_iload_n S.1 S.2.1 dX3_readPart_69 rfl (lv_at hl 1 rfl) ?_
    refine k_VV (rest := []) S hK hl.1 hW (KFr.all hW hA) (mX3_readSteps_t l D c a ((pu (pu (pu (pu φ 10 (kc ((x.2).toNat))) 0 g) 11 (kc (c1))) 9 (kc (x.1 + 1)))) δ _ (x.2) (rqt (φ 4) (φ 8 0) (φ 9 0, w)) (rqj (φ 4) (φ 8 0) (φ 9 0, w)) (by first | omega | exact hw | assumption | (show ((x.2).toNat) = (x.2).toNat; omega) | rfl) (by first | omega | exact hm | assumption | (show (φ 8 0) ≤ 60; omega) | rfl) (by first | omega | exact hs | assumption | (show (x.1 + 1) < 700; omega) | rfl) hT.2 hJ.2 okg hVx) gX3_readPart_X3_readSteps rfl pdX3_readSteps ⟨⟨rfl, rfl⟩, Nat.le_of_ble_eq_true rfl, Nat.le_of_ble_eq_true rfl⟩ 0 3 rfl rfl rfl rfl (Nat.le_of_ble_eq_true rfl) dX3_readPart_70 ⟨Nat.le_of_ble_eq_true rfl, Nat.le_of_ble_eq_true rfl⟩ (fun H locs hW => ?_)
    have hW : kw D A s.heap (wM c a (pu (pu (pu (pu φ 9 (kc (rsS ((φ 4)) ((φ 8 0)) ((x.1 + 1)) (x.2)))) 10 (kc ((rsW ((φ 4)) ((φ 8 0)) ((x.1 + 1)) (x.2)).toNat))) 0 (prs (g) (rqt (φ 4) (φ 8 0) (φ 9 0, w)) (rqj (φ 4) (φ 8 0) (φ 9 0, w)) (rsf ((φ 4)) ((φ 8 0)) ((x.1 + 1)) (x.2)) ((rsg ((φ 4)) ((φ 8 0)) ((x.1 + 1)) (x.2)) + 1 - (rsf ((φ 4)) ((φ 8 0)) ((x.1 + 1)) (x.2))))) 11 (kc ((c1) + prc (g) (rqt (φ 4) (φ 8 0) (φ 9 0, w)) (rqj (φ 4) (φ 8 0) (φ 9 0, w)) (rsf ((φ 4)) ((φ 8 0)) ((x.1 + 1)) (x.2)) ((rsg ((φ 4)) ((φ 8 0)) ((x.1 + 1)) (x.2)) + 1 - (rsf ((φ 4)) ((φ 8 0)) ((x.1 + 1)) (x.2)))))) δ) H locs := hW
    refine lv_goto (tgt := 44) S.1 S.2.1 dX3_readPart_73 (by decide) ?_
    exact ih44 (n - 1, rsx (φ 4) (φ 8 0) (x.1 + 1, x.2), sps g (φ 4) (φ 8 0) (rqt (φ 4) (φ 8 0) (φ 9 0, w)) (rqj (φ 4) (φ 8 0) (φ 9 0, w)) (x.1 + 1, x.2), c1 + spc g (φ 4) (φ 8 0) (rqt (φ 4) (φ 8 0) (φ 9 0, w)) (rqj (φ 4) (φ 8 0) (φ 9 0, w)) (x.1 + 1, x.2)) _ _ _ ⟨hW, lv_sub hl [0, 1, 2, 3, 4] rfl, (by rw [← hx, ht2.2]), (by have h2 := ht2.1; omega), (by omega), (okg.spk hT.2 hJ.2 hVx), (by rw [← hz, (rtl_t (z := (x, g, c1)) c_52 hn).2])⟩ (by have h2 := ht2.1; show n - 1 < n; omega)
set_option maxHeartbeats 400000 in
set_option maxRecDepth 100000 in
theorem mX3_reads_t (l : Launch) (D : va_G) (c : Nat → ClassId) (a : Nat → Nat) (φ : Nat → Nat → Nat) (δ : Int64) (sz : Nat) (hm : φ 8 0 ≤ 60) (ok : okM (φ 0)) (hv : whl (φ 4) (φ 8 0) = true) : MI l yX3_reads wsX3_reads rmX3_reads D c sz (wM c a φ δ) [.ref (a 0), .int (nI (1))] (nI (whl (φ 4) (φ 8 0)).toNat) (wM c a (pu (pu (pu (pu φ 9 (kc ((rdx (φ 4) (φ 8 0)).1))) 10 (kc (((rdx (φ 4) (φ 8 0)).2).toNat))) 0 ((rdy (φ 4) (φ 8 0) (φ 0)).2.1)) 11 (kc ((rdy (φ 4) (φ 8 0) (φ 0)).2.2))) δ) := by
  refine MI.of (cc := cX3_reads) (maxL := 2) (ty := .boolean) (by decide) rfl (Nat.le_of_ble_eq_true rfl) (k_narB _) ?_
  intro P e s m below meth cd A Q ls hsz S hK hW hA hl hret
  have hl : lv_has ls 2 [(0, .ref (a 0)), (1, .int (nI (1)))] := hl
  have hinX3 : ∀ w ∈ u_ws RX3 TX3 13, w ∈ wsX3_reads := by decide +kernel
  have hv0 : (rdx (φ 4) (φ 8 0)).2 = false := by have h1 := hv; unfold whl at h1; simp only [Bool.and_eq_true, Bool.not_eq_true'] at h1; exact h1.1
  refine lv_aload_n S.1 S.2.1 dX3_reads_0 rfl (lv_at hl 0 rfl) ?_
  refine lv_iconst (v := nI (0)) S.1 S.2.1 dX3_reads_1 rfl ?_
  refine kx_put S hK hW hinX3 tyX3_ok nmX3 0 3 rfl rfl 9 (by decide) (List.mem_of_getElem? (i := 1) rfl) rfl (v := .int (nI (0))) rfl rfl (Nat.le_of_ble_eq_true rfl) dX3_reads_2 (fun H locs hW => ?_)
  have hW : kw D A s.heap (wM c a (pu φ 9 (kc (0))) δ) H locs := hW
  refine lv_aload_n S.1 S.2.1 dX3_reads_5 rfl (lv_at hl 0 rfl) ?_
  refine lv_iconst (v := nI (0)) S.1 S.2.1 dX3_reads_6 rfl ?_
  refine kx_put S hK hW hinX3 tyX3_ok nmX3 0 3 rfl rfl 10 (by decide) (List.mem_of_getElem? (i := 2) rfl) rfl (v := .int (nI (0))) rfl rfl (Nat.le_of_ble_eq_true rfl) dX3_reads_7 (fun H locs hW => ?_)
  have hW : kw D A s.heap (wM c a (pu (pu φ 9 (kc (0))) 10 (kc (0))) δ) H locs := hW
  refine lv_aload_n S.1 S.2.1 dX3_reads_10 rfl (lv_at hl 0 rfl) ?_
  refine lv_iconst (v := nI (0)) S.1 S.2.1 dX3_reads_11 rfl ?_
  refine kx_put S hK hW hinX3 tyX3_ok nmX3 0 3 rfl rfl 11 (by decide) (List.mem_of_getElem? (i := 3) rfl) rfl (v := .int (nI (0))) rfl rfl (Nat.le_of_ble_eq_true rfl) dX3_reads_12 (fun H locs hW => ?_)
  have hW : kw D A s.heap (wM c a (pu (pu (pu φ 9 (kc (0))) 10 (kc (0))) 11 (kc (0))) δ) H locs := hW
  refine lv_aload_n S.1 S.2.1 dX3_reads_15 rfl (lv_at hl 0 rfl) ?_
  refine lv_iload_n S.1 S.2.1 dX3_reads_16 rfl (lv_at hl 1 rfl) ?_
  refine k_VV (rest := []) S hK hl.1 hW (KFr.all hW hA) (mX3_readPart_t l D c a ((pu (pu (pu φ 9 (kc (0))) 10 (kc (0))) 11 (kc (0)))) δ _ false (by first | omega | exact hw | assumption | (show (0) = false.toNat; omega) | rfl) (by first | omega | exact hm | assumption | (show (φ 8 0) ≤ 60; omega) | rfl) (by first | omega | exact hs | assumption | (show (0) < 100; omega) | rfl) (by first | omega | exact ok | assumption | (show okM ((φ 0)); omega) | rfl) (rdl_w _ _ hv0)) gX3_reads_X3_readPart rfl pdX3_readPart ⟨⟨rfl, rfl⟩, Nat.le_of_ble_eq_true rfl, Nat.le_of_ble_eq_true rfl⟩ 0 3 rfl rfl rfl rfl (Nat.le_of_ble_eq_true rfl) dX3_reads_17 ⟨Nat.le_of_ble_eq_true rfl, Nat.le_of_ble_eq_true rfl⟩ (fun H locs hW => ?_)
  have hW : kw D A s.heap (wM c a (pu (pu (pu (pu φ 9 (kc ((rpx ((φ 4)) ((φ 8 0)) ((0), false)).1))) 10 (kc (((rpx ((φ 4)) ((φ 8 0)) ((0), false)).2).toNat))) 0 ((rtx ((φ 4)) ((φ 8 0)) ((0), false) ((φ 0)) ((0))).2.1)) 11 (kc ((rtx ((φ 4)) ((φ 8 0)) ((0), false) ((φ 0)) ((0))).2.2))) δ) H locs := hW
  have hW : kw D A s.heap (wM c a (pu (pu (pu (pu φ 9 (kc ((rpx (φ 4) (φ 8 0) (0, false)).1))) 10 (kc (((rpx (φ 4) (φ 8 0) (0, false)).2).toNat))) 0 (((rtx (φ 4) (φ 8 0) (0, false) (φ 0) 0).2.1))) 11 (kc (((rtx (φ 4) (φ 8 0) (0, false) (φ 0) 0).2.2)))) δ) H locs := by exact hW
  refine k_loop (fun (zz : Nat × (Nat × Bool) × (Nat → Nat) × Nat) H lo ls => match zz with | (n, x, g, c1) => kw D A s.heap (wM c a (pu (pu (pu (pu φ 9 (kc (x.1))) 10 (kc ((x.2).toNat))) 0 g) 11 (kc (c1))) δ) H lo ∧ lv_has ls 2 [(0, .ref (a 0)), (1, .int (nI (1)))] ∧ rdl (φ 4) (φ 8 0) n x = rdx (φ 4) (φ 8 0) ∧ φ 8 0 < x.1 + n ∧ x.1 < 100 ∧ okM g ∧ rdt (φ 4) (φ 8 0) n (x, g, c1) = rdy (φ 4) (φ 8 0) (φ 0)) (fun (zz : Nat × (Nat × Bool) × (Nat → Nat) × Nat) => match zz with | (n, x, g, c1) => n) [] ?_ (φ 8 0 + 1, rpx (φ 4) (φ 8 0) (0, false), (rtx (φ 4) (φ 8 0) (0, false) (φ 0) 0).2.1, (rtx (φ 4) (φ 8 0) (0, false) (φ 0) 0).2.2) _ _ _ ⟨hW, lv_sub hl [0, 1] rfl, rfl, (by omega), (by have h1 := rpx_le (φ 4) (φ 8 0) (0, false); dsimp only at h1; omega), (ok.rtw 0 (rdl_w _ _ hv0)), (by unfold rdy; rw [← rtx_1 (φ 4) (φ 8 0) (0, false) (φ 0) 0])⟩
  rintro ⟨n, x, g, c1⟩ ih20 H locs ls ⟨hW, hl, hx, hn, h200, okg, hz⟩
  refine lv_aload_n S.1 S.2.1 dX3_reads_20 rfl (lv_at hl 0 rfl) ?_
  refine lv_bipush (v := nI (59)) S.1 S.2.1 dX3_reads_21 rfl ?_
  refine lv_bipush (v := nI (59)) S.1 S.2.1 dX3_reads_23 rfl ?_
  refine k_VI (rest := []) S hK hl.1 hW (KFr.all hW hA) (mX3_isNext l D c a ((pu (pu (pu (pu φ 9 (kc (x.1))) 10 (kc ((x.2).toNat))) 0 g) 11 (kc (c1)))) δ _ (x.2) (nI (59)) (nI (59)) (by first | omega | exact hw | assumption | (show ((x.2).toNat) = (x.2).toNat; omega) | rfl) (by first | omega | exact hm | assumption | (show (φ 8 0) ≤ 60; omega) | rfl) (by first | omega | exact hs | assumption | (show (x.1) < 1000; omega) | rfl)) gX3_reads_X3_isNext rfl pdX3_isNext ⟨⟨rfl, rfl⟩, Nat.le_of_ble_eq_true rfl, Nat.le_of_ble_eq_true rfl⟩ 0 3 rfl rfl rfl rfl (Nat.le_of_ble_eq_true rfl) dX3_reads_25 ⟨Nat.le_of_ble_eq_true rfl, Nat.le_of_ble_eq_true rfl⟩ (fun H locs hW => ?_)
  have hW : kw D A s.heap (wM c a (pu (pu (pu (pu φ 9 (kc (x.1))) 10 (kc ((x.2).toNat))) 0 g) 11 (kc (c1))) δ) H locs := hW
  refine k_top (y := nI ((nxb ((φ 4)) ((φ 8 0)) ((x.1)) (x.2) (nI (59)) (nI (59))).toNat)) rfl ?_
  refine kb_eq S (tgt := 49) dX3_reads_28 (by decide) (fun c_28 => ?_) (fun c_28 => ?_)
  · have hW : kw D A s.heap (wM c a (pu (pu (pu (pu φ 9 (kc ((rdx (φ 4) (φ 8 0)).1))) 10 (kc (((rdx (φ 4) (φ 8 0)).2).toNat))) 0 ((rdy (φ 4) (φ 8 0) (φ 0)).2.1)) 11 (kc ((rdy (φ 4) (φ 8 0) (φ 0)).2.2))) δ) H locs := by (rw [show rdx (φ 4) (φ 8 0) = x from by rw [← hx, rdl_f c_28], show rdy (φ 4) (φ 8 0) (φ 0) = (x, g, c1) from by rw [← hz, rdt_f (z := (x, g, c1)) c_28]]; exact hW)
    refine lv_aload_n S.1 S.2.1 dX3_reads_49 rfl (lv_at hl 0 rfl) ?_
    refine kx_get S hK hW hinX3 0 3 rfl rfl 10 (by decide) (List.mem_of_getElem? (i := 2) rfl) (v := .int (nI ((rdx (φ 4) (φ 8 0)).2).toNat)) rfl dX3_reads_50 ?_
    have h100 : (rdx (φ 4) (φ 8 0)).1 < 100 := by rw [show rdx (φ 4) (φ 8 0) = x from by rw [← hx, rdl_f c_28]]; exact h200
    refine kb_ne S (tgt := 71) dX3_reads_53 (by decide) (fun c_53 => ?_) (fun c_53 => ?_)
    · refine lv_iconst (v := nI (0)) S.1 S.2.1 dX3_reads_71 rfl ?_
      exact hret 72 _ _ _ _ _ dX3_reads_72 hW (by unfold whl; first | (rw [c_53]; rfl) | (rw [c_53, decide_eq_true c_64]; rfl) | (rw [c_53, decide_eq_false c_64]; rfl)) (rfl)
    · refine lv_aload_n S.1 S.2.1 dX3_reads_56 rfl (lv_at hl 0 rfl) ?_
      refine kx_get S hK hW hinX3 0 3 rfl rfl 9 (by decide) (List.mem_of_getElem? (i := 1) rfl) (v := .int (nI ((rdx (φ 4) (φ 8 0)).1))) rfl dX3_reads_57 ?_
      refine lv_aload_n S.1 S.2.1 dX3_reads_60 rfl (lv_at hl 0 rfl) ?_
      refine kx_get S hK hW hinX3 0 3 rfl rfl 8 (by decide) (List.mem_of_getElem? (i := 4) rfl) (v := .int (nI (φ 8 0))) rfl dX3_reads_61 ?_
      refine kn_ne S (tgt := 71) dX3_reads_64 (by decide) (by omega) (by omega) (fun c_64 => ?_) (fun c_64 => ?_)
      · refine lv_iconst (v := nI (0)) S.1 S.2.1 dX3_reads_71 rfl ?_
        exact hret 72 _ _ _ _ _ dX3_reads_72 hW (by unfold whl; first | (rw [c_53]; rfl) | (rw [c_53, decide_eq_true c_64]; rfl) | (rw [c_53, decide_eq_false c_64]; rfl)) (rfl)
      · refine lv_iconst (v := nI (1)) S.1 S.2.1 dX3_reads_67 rfl ?_
        refine lv_goto (tgt := 72) S.1 S.2.1 dX3_reads_68 (by decide) ?_
        exact hret 72 _ _ _ _ _ dX3_reads_72 hW (by unfold whl; first | (rw [c_53]; rfl) | (rw [c_53, decide_eq_true c_64]; rfl) | (rw [c_53, decide_eq_false c_64]; rfl)) (rfl)
  · have hlt := nxb_lt c_28
    have ht2 := rdl_t c_28 hn
    have hVx : (rpx (φ 4) (φ 8 0) (x.1 + 1, x.2)).2 = false := rdl_w (n - 1) _ (by rw [← ht2.2, hx]; exact hv0)
    have h1 := rpx_le (φ 4) (φ 8 0) (x.1 + 1, x.2)
    dsimp only at h1
    refine lv_aload_n S.1 S.2.1 dX3_reads_31 rfl (lv_at hl 0 rfl) ?_
    refine lv_dup S.1 S.2.1 dX3_reads_32 rfl ?_
    refine kx_get S hK hW hinX3 0 3 rfl rfl 9 (by decide) (List.mem_of_getElem? (i := 1) rfl) (v := .int (nI (x.1))) rfl dX3_reads_33 ?_
    refine lv_iconst (v := nI (1)) S.1 S.2.1 dX3_reads_36 rfl ?_
    refine kn_iadd S dX3_reads_37 ?_
    refine kx_put S hK hW hinX3 tyX3_ok nmX3 0 3 rfl rfl 9 (by decide) (List.mem_of_getElem? (i := 1) rfl) rfl (v := .int (nI (x.1 + 1))) rfl rfl (Nat.le_of_ble_eq_true rfl) dX3_reads_38 (fun H locs hW => ?_)
    have hW : kw D A s.heap (wM c a (pu (pu (pu (pu φ 10 (kc ((x.2).toNat))) 0 g) 11 (kc (c1))) 9 (kc (x.1 + 1))) δ) H locs := hW
    refine lv_aload_n S.1 S.2.1 dX3_reads_41 rfl (lv_at hl 0 rfl) ?_
    refine lv_iload_n S.1 S.2.1 dX3_reads_42 rfl (lv_at hl 1 rfl) ?_
    refine k_VV (rest := []) S hK hl.1 hW (KFr.all hW hA) (mX3_readPart_t l D c a ((pu (pu (pu (pu φ 10 (kc ((x.2).toNat))) 0 g) 11 (kc (c1))) 9 (kc (x.1 + 1)))) δ _ (x.2) (by first | omega | exact hw | assumption | (show ((x.2).toNat) = (x.2).toNat; omega) | rfl) (by first | omega | exact hm | assumption | (show (φ 8 0) ≤ 60; omega) | rfl) (by first | omega | exact hs | assumption | (show (x.1 + 1) < 100; omega) | rfl) okg hVx) gX3_reads_X3_readPart rfl pdX3_readPart ⟨⟨rfl, rfl⟩, Nat.le_of_ble_eq_true rfl, Nat.le_of_ble_eq_true rfl⟩ 0 3 rfl rfl rfl rfl (Nat.le_of_ble_eq_true rfl) dX3_reads_43 ⟨Nat.le_of_ble_eq_true rfl, Nat.le_of_ble_eq_true rfl⟩ (fun H locs hW => ?_)
    have hW : kw D A s.heap (wM c a (pu (pu (pu (pu φ 9 (kc ((rpx ((φ 4)) ((φ 8 0)) ((x.1 + 1), (x.2))).1))) 10 (kc (((rpx ((φ 4)) ((φ 8 0)) ((x.1 + 1), (x.2))).2).toNat))) 0 ((rtx ((φ 4)) ((φ 8 0)) ((x.1 + 1), (x.2)) (g) ((c1))).2.1)) 11 (kc ((rtx ((φ 4)) ((φ 8 0)) ((x.1 + 1), (x.2)) (g) ((c1))).2.2))) δ) H locs := hW
    refine lv_goto (tgt := 20) S.1 S.2.1 dX3_reads_46 (by decide) ?_
    exact ih20 (n - 1, rpx (φ 4) (φ 8 0) (x.1 + 1, x.2), (rtx (φ 4) (φ 8 0) (x.1 + 1, x.2) g c1).2.1, (rtx (φ 4) (φ 8 0) (x.1 + 1, x.2) g c1).2.2) _ _ _ ⟨hW, lv_sub hl [0, 1] rfl, (by rw [← hx, ht2.2]), (by have h2 := ht2.1; omega), (by omega), (okg.rtw c1 hVx), (by rw [← hz, (rdt_t (z := (x, g, c1)) c_28 hn).2, ← rtx_1 (φ 4) (φ 8 0) (x.1 + 1, x.2) g c1])⟩ (by have h2 := ht2.1; show n - 1 < n; omega)
abbrev rmX3_pins : Room := { frames := 7, cells := 0, slots := 0, locals := 163 }
theorem pdX3_pins : kPd yX3_pins 0 := by decide +kernel
set_option maxHeartbeats 400000 in
set_option maxRecDepth 100000 in
theorem mX3_pins_x1 (l : Launch) (D : va_G) (c : Nat → ClassId) (a : Nat → Nat) (φ : Nat → Nat → Nat) (δ : Int64) (sz : Nat) (hm : φ 8 0 ≤ 60) (hv : whl (φ 4) (φ 8 0) = false) : MI l yX3_pins wsX3_pins rmX3_pins D c sz (wM c a φ δ) [.ref (a 0)] (nI (0)) (wM c a (pu (pu (pu (pu φ 5 (kc (1))) 11 (kc (0))) 9 (kc ((rdx (φ 4) (φ 8 0)).1))) 10 (kc (((rdx (φ 4) (φ 8 0)).2).toNat))) δ) := by
  refine MI.of (cc := cX3_pins) (maxL := 2) (ty := .int) (by decide) rfl (Nat.le_of_ble_eq_true rfl) rfl ?_
  intro P e s m below meth cd A Q ls hsz S hK hW hA hl hret
  have hl : lv_has ls 2 [(0, .ref (a 0))] := hl
  refine lv_aload_n S.1 S.2.1 dX3_pins_0 rfl (lv_at hl 0 rfl) ?_
  refine lv_aload_n S.1 S.2.1 dX3_pins_1 rfl (lv_at hl 0 rfl) ?_
  refine lv_iconst (v := nI (0)) S.1 S.2.1 dX3_pins_2 rfl ?_
  refine k_VI (rest := [.ref (a 0)]) S hK hl.1 hW (KFr.all hW hA) (mX3_reads_f l D c a φ δ _ (by first | omega | exact hm | assumption | (show φ 8 0 ≤ 60; omega) | rfl)) gX3_pins_X3_reads rfl pdX3_reads ⟨⟨rfl, rfl⟩, Nat.le_of_ble_eq_true rfl, Nat.le_of_ble_eq_true rfl⟩ 0 3 rfl rfl rfl rfl (Nat.le_of_ble_eq_true rfl) dX3_pins_3 ⟨Nat.le_of_ble_eq_true rfl, Nat.le_of_ble_eq_true rfl⟩ (fun H locs hW => ?_)
  have hW : kw D A s.heap (wM c a (pu (pu (pu φ 9 (kc ((rdx (φ 4) (φ 8 0)).1))) 10 (kc (((rdx (φ 4) (φ 8 0)).2).toNat))) 11 (kc (0))) δ) H locs := hW
  refine kb_eq S (tgt := 13) dX3_pins_6 (by decide) (fun c_6 => ?_) (fun c_6 => ?_)
  · refine lv_iconst (v := nI (1)) S.1 S.2.1 dX3_pins_13 rfl ?_
    refine k_VI (rest := []) S hK hl.1 hW (KFr.all hW hA) (mX3_holds l D c a ((pu (pu (pu φ 9 (kc ((rdx (φ 4) (φ 8 0)).1))) 10 (kc (((rdx (φ 4) (φ 8 0)).2).toNat))) 11 (kc (0)))) δ _ 1 (by first | omega | exact hw | assumption | (show 1 < 4; omega) | rfl)) gX3_pins_X3_holds rfl pdX3_holds ⟨⟨rfl, rfl⟩, Nat.le_of_ble_eq_true rfl, Nat.le_of_ble_eq_true rfl⟩ 0 3 rfl rfl rfl rfl (Nat.le_of_ble_eq_true rfl) dX3_pins_14 ⟨Nat.le_of_ble_eq_true rfl, Nat.le_of_ble_eq_true rfl⟩ (fun H locs hW => ?_)
    have hW : kw D A s.heap (wM c a (pu (pu (pu (pu φ 9 (kc ((rdx (φ 4) (φ 8 0)).1))) 10 (kc (((rdx (φ 4) (φ 8 0)).2).toNat))) 11 (kc (0))) 5 (kc (1))) δ) H locs := hW
    refine kb_ne S (tgt := 22) dX3_pins_17 (by decide) (fun c_17 => ?_) (fun c_17 => ?_)
    · exact absurd c_17 (by decide)
    · refine lv_iconst (v := nI (0)) S.1 S.2.1 dX3_pins_20 rfl ?_
      exact hret 21 _ _ _ _ _ dX3_pins_21 hW (rfl) (rfl)
  · exact absurd (hv.symm.trans c_6) (by decide)
set_option maxHeartbeats 400000 in
set_option maxRecDepth 100000 in
theorem mX3_pins_k (l : Launch) (D : va_G) (c : Nat → ClassId) (a : Nat → Nat) (φ : Nat → Nat → Nat) (δ : Int64) (sz : Nat) (hm : φ 8 0 ≤ 60) (hv : whl (φ 4) (φ 8 0) = true) (ok : okM (φ 0)) (hk : φ 6 0 ≤ 6) : MI l yX3_pins wsX3_pins rmX3_pins D c sz (wM c a φ δ) [.ref (a 0)] (nI ((rdy (φ 4) (φ 8 0) (φ 0)).2.2)) (wM c a (pu (pu (pu (pu (pu (pu (pu (pu φ 2 (svf (φ 2) (φ 0) (φ 6 0))) 6 (kc (svn (φ 6 0)))) 5 (kc (0))) 0 ((rdy (φ 4) (φ 8 0) (φ 0)).2.1)) 8 (kc (0))) 11 (kc ((rdy (φ 4) (φ 8 0) (φ 0)).2.2))) 9 (kc ((rdx (φ 4) (φ 8 0)).1))) 10 (kc (((rdx (φ 4) (φ 8 0)).2).toNat))) δ) := by
  refine MI.of (cc := cX3_pins) (maxL := 2) (ty := .int) (by decide) rfl (Nat.le_of_ble_eq_true rfl) rfl ?_
  intro P e s m below meth cd A Q ls hsz S hK hW hA hl hret
  have hl : lv_has ls 2 [(0, .ref (a 0))] := hl
  have hinX3 : ∀ w ∈ u_ws RX3 TX3 13, w ∈ wsX3_pins := by decide +kernel
  refine lv_aload_n S.1 S.2.1 dX3_pins_0 rfl (lv_at hl 0 rfl) ?_
  refine lv_aload_n S.1 S.2.1 dX3_pins_1 rfl (lv_at hl 0 rfl) ?_
  refine lv_iconst (v := nI (0)) S.1 S.2.1 dX3_pins_2 rfl ?_
  refine k_VI (rest := [.ref (a 0)]) S hK hl.1 hW (KFr.all hW hA) (mX3_reads_f l D c a φ δ _ (by first | omega | exact hm | assumption | (show φ 8 0 ≤ 60; omega) | rfl)) gX3_pins_X3_reads rfl pdX3_reads ⟨⟨rfl, rfl⟩, Nat.le_of_ble_eq_true rfl, Nat.le_of_ble_eq_true rfl⟩ 0 3 rfl rfl rfl rfl (Nat.le_of_ble_eq_true rfl) dX3_pins_3 ⟨Nat.le_of_ble_eq_true rfl, Nat.le_of_ble_eq_true rfl⟩ (fun H locs hW => ?_)
  have hW : kw D A s.heap (wM c a (pu (pu (pu φ 9 (kc ((rdx (φ 4) (φ 8 0)).1))) 10 (kc (((rdx (φ 4) (φ 8 0)).2).toNat))) 11 (kc (0))) δ) H locs := hW
  refine kb_eq S (tgt := 13) dX3_pins_6 (by decide) (fun c_6 => ?_) (fun c_6 => ?_)
  · exact absurd (hv.symm.trans c_6) (by decide)
  · refine lv_iconst (v := nI (0)) S.1 S.2.1 dX3_pins_9 rfl ?_
    refine lv_goto (tgt := 14) S.1 S.2.1 dX3_pins_10 (by decide) ?_
    refine k_VI (rest := []) S hK hl.1 hW (KFr.all hW hA) (mX3_holds l D c a ((pu (pu (pu φ 9 (kc ((rdx (φ 4) (φ 8 0)).1))) 10 (kc (((rdx (φ 4) (φ 8 0)).2).toNat))) 11 (kc (0)))) δ _ 0 (by first | omega | exact hw | assumption | (show 0 < 4; omega) | rfl)) gX3_pins_X3_holds rfl pdX3_holds ⟨⟨rfl, rfl⟩, Nat.le_of_ble_eq_true rfl, Nat.le_of_ble_eq_true rfl⟩ 0 3 rfl rfl rfl rfl (Nat.le_of_ble_eq_true rfl) dX3_pins_14 ⟨Nat.le_of_ble_eq_true rfl, Nat.le_of_ble_eq_true rfl⟩ (fun H locs hW => ?_)
    have hW : kw D A s.heap (wM c a (pu (pu (pu (pu φ 9 (kc ((rdx (φ 4) (φ 8 0)).1))) 10 (kc (((rdx (φ 4) (φ 8 0)).2).toNat))) 11 (kc (0))) 5 (kc (0))) δ) H locs := hW
    refine kb_ne S (tgt := 22) dX3_pins_17 (by decide) (fun c_17 => ?_) (fun c_17 => ?_)
    · refine lv_aload_n S.1 S.2.1 dX3_pins_22 rfl (lv_at hl 0 rfl) ?_
      refine k_VV (rest := []) S hK hl.1 hW (KFr.all hW hA) (mX3_save l D c a ((pu (pu (pu (pu φ 9 (kc ((rdx (φ 4) (φ 8 0)).1))) 10 (kc (((rdx (φ 4) (φ 8 0)).2).toNat))) 11 (kc (0))) 5 (kc (0)))) δ _ (by first | omega | exact hk | assumption | (show (φ 6 0) ≤ 6; omega) | rfl)) gX3_pins_X3_save rfl pdX3_save ⟨⟨rfl, rfl⟩, Nat.le_of_ble_eq_true rfl, Nat.le_of_ble_eq_true rfl⟩ 0 3 rfl rfl rfl rfl (Nat.le_of_ble_eq_true rfl) dX3_pins_23 ⟨Nat.le_of_ble_eq_true rfl, Nat.le_of_ble_eq_true rfl⟩ (fun H locs hW => ?_)
      have hW : kw D A s.heap (wM c a (pu (pu (pu (pu (pu (pu φ 9 (kc ((rdx (φ 4) (φ 8 0)).1))) 10 (kc (((rdx (φ 4) (φ 8 0)).2).toNat))) 11 (kc (0))) 5 (kc (0))) 2 (svf ((φ 2)) ((φ 0)) ((φ 6 0)))) 6 (kc (svn ((φ 6 0))))) δ) H locs := hW
      refine lv_aload_n S.1 S.2.1 dX3_pins_26 rfl (lv_at hl 0 rfl) ?_
      refine lv_iconst (v := nI (1)) S.1 S.2.1 dX3_pins_27 rfl ?_
      refine k_VI (rest := []) S hK hl.1 hW (KFr.all hW hA) (mX3_reads_t l D c a ((pu (pu (pu (pu (pu (pu φ 9 (kc ((rdx (φ 4) (φ 8 0)).1))) 10 (kc (((rdx (φ 4) (φ 8 0)).2).toNat))) 11 (kc (0))) 5 (kc (0))) 2 (svf ((φ 2)) ((φ 0)) ((φ 6 0)))) 6 (kc (svn ((φ 6 0)))))) δ _ (by first | omega | exact hm | assumption | (show (φ 8 0) ≤ 60; omega) | rfl) (by first | omega | exact ok | assumption | (show okM ((φ 0)); omega) | rfl) (by first | omega | exact hv | assumption | (show whl ((φ 4)) ((φ 8 0)) = true; omega) | rfl)) gX3_pins_X3_reads rfl pdX3_reads ⟨⟨rfl, rfl⟩, Nat.le_of_ble_eq_true rfl, Nat.le_of_ble_eq_true rfl⟩ 0 3 rfl rfl rfl rfl (Nat.le_of_ble_eq_true rfl) dX3_pins_28 ⟨Nat.le_of_ble_eq_true rfl, Nat.le_of_ble_eq_true rfl⟩ (fun H locs hW => ?_)
      have hW : kw D A s.heap (wM c a (pu (pu (pu (pu (pu (pu (pu φ 5 (kc (0))) 2 (svf ((φ 2)) ((φ 0)) ((φ 6 0)))) 6 (kc (svn ((φ 6 0))))) 9 (kc ((rdx ((φ 4)) ((φ 8 0))).1))) 10 (kc (((rdx ((φ 4)) ((φ 8 0))).2).toNat))) 0 ((rdy ((φ 4)) ((φ 8 0)) ((φ 0))).2.1)) 11 (kc ((rdy ((φ 4)) ((φ 8 0)) ((φ 0))).2.2))) δ) H locs := hW
      refine k_top (y := nI ((whl ((φ 4)) ((φ 8 0))).toNat)) rfl ?_
      refine lv_istore_n (lv' := [(1, .int (nI (whl ((φ 4)) ((φ 8 0))).toNat)), (0, .ref (a 0))]) S.1 S.2.1 dX3_pins_31 rfl hl (by decide) rfl (fun ls hl => ?_)
      refine lv_aload_n S.1 S.2.1 dX3_pins_32 rfl (lv_at hl 1 rfl) ?_
      refine lv_iconst (v := nI (0)) S.1 S.2.1 dX3_pins_33 rfl ?_
      refine kx_put S hK hW hinX3 tyX3_ok nmX3 0 3 rfl rfl 8 (by decide) (List.mem_of_getElem? (i := 1) rfl) rfl (v := .int (nI (0))) rfl rfl (Nat.le_of_ble_eq_true rfl) dX3_pins_34 (fun H locs hW => ?_)
      have hW : kw D A s.heap (wM c a (pu (pu (pu (pu (pu (pu (pu (pu φ 5 (kc (0))) 2 (svf ((φ 2)) ((φ 0)) ((φ 6 0)))) 6 (kc (svn ((φ 6 0))))) 9 (kc ((rdx ((φ 4)) ((φ 8 0))).1))) 10 (kc (((rdx ((φ 4)) ((φ 8 0))).2).toNat))) 0 ((rdy ((φ 4)) ((φ 8 0)) ((φ 0))).2.1)) 11 (kc ((rdy ((φ 4)) ((φ 8 0)) ((φ 0))).2.2))) 8 (kc (0))) δ) H locs := hW
      refine lv_aload_n S.1 S.2.1 dX3_pins_37 rfl (lv_at hl 1 rfl) ?_
      refine kx_get S hK hW hinX3 0 3 rfl rfl 11 (by decide) (List.mem_of_getElem? (i := 2) rfl) (v := .int (nI ((rdy ((φ 4)) ((φ 8 0)) ((φ 0))).2.2))) rfl dX3_pins_38 ?_
      exact hret 41 _ _ _ _ _ dX3_pins_41 hW (rfl) (rfl)
    · exact absurd c_17 (by decide)
