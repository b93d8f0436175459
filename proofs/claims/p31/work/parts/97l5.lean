/-! ===== two cylinders are alike ===== -/
abbrev rmL_areAlike : Room := { frames := 6, cells := 0, slots := 0, locals := 130 }
theorem pdL_areAlike : kPd yL_areAlike 2 := by decide +kernel
set_option maxHeartbeats 400000 in
set_option maxRecDepth 100000 in
theorem mL_areAlike (l : Launch) (D : va_G) (c : Nat → ClassId) (a : Nat → Nat) (b : Nat → Nat → Nat) (θ : Nat → Nat → Nat → Nat) (ρ κ : Nat → Nat → Nat) (d : Nat → Nat) (g : Nat → Nat → Nat) (η : Nat → Nat → Nat → Nat) (ρ1 κ1 : Nat → Nat → Nat) (sz : Nat) (T : Nat) (he : η 0 = θ 0) (ok : okS (θ 0) T) (hT : T < 100000000) (f3 : ¬ θ 0 14 0 = 0 → vf_n64 (FP.ddiv (FP.i2d (nI (θ 0 14 0 - θ 0 15 0))) (FP.i2d (nI (θ 0 14 0))))) (f4 : Op.cmpValue (FP.dcmp (sh (θ 0 14 0) (θ 0 15 0)) (sh (θ 0 14 0) (θ 0 15 0))) CmpOp.l = 0) : MI2 l yL_areAlike wsL_areAlike rmL_areAlike D c sz (wP c a b θ ρ κ ++ wP c d g η ρ1 κ1) [.ref (a 0), .ref (d 0)] (nI (true).toNat) (wP c a b θ ρ κ ++ wP c d g η ρ1 κ1) := by
  refine MI2.of (cc := cL_areAlike) (maxL := 4) (ty := .boolean) (by decide) rfl (Nat.le_of_ble_eq_true rfl) (k_narB _) ?_
  intro P e s m below meth cd A Q ls hsz S hK hN hW hA hl hret
  have hl : lv_has ls 4 [(0, .ref (a 0)), (1, .ref (d 0))] := hl
  have okp : okS (η 0) T := by rw [he]; exact ok
  have f3p : ¬ η 0 14 0 = 0 → vf_n64 (FP.ddiv (FP.i2d (nI (η 0 14 0 - η 0 15 0))) (FP.i2d (nI (η 0 14 0)))) := by rw [he]; exact f3
  have f5 : Op.cmpValue (FP.dcmp (sh (θ 0 14 0) (θ 0 15 0)) (sh (η 0 14 0) (η 0 15 0))) CmpOp.l = 0 := by rw [he]; exact f4
  refine lv_aload_n S.1 S.2.1 dL_areAlike_0 rfl (lv_at hl 0 rfl) ?_
  refine k_VD2 (rest := []) S hK hl.1 hW (KFr.lft hW hA) hN (mX2_clean l D c a b θ ρ κ _ T ok (by first | omega | exact hT | assumption | (show T < 500000000; omega) | rfl) f3) gL_areAlike_X2_clean rfl pdX2_clean ⟨⟨rfl, rfl⟩, Nat.le_of_ble_eq_true rfl, Nat.le_of_ble_eq_true rfl⟩ 0 2 rfl rfl rfl rfl (Nat.le_of_ble_eq_true rfl) dL_areAlike_1 ⟨Nat.le_of_ble_eq_true rfl, Nat.le_of_ble_eq_true rfl⟩ (fun H locs hW => ?_)
  have hW : kw D A s.heap (wP c a b θ ρ κ ++ wP c d g η ρ1 κ1) H locs := hW
  refine lv_aload_n S.1 S.2.1 dL_areAlike_4 rfl (lv_at hl 1 rfl) ?_
  refine k_VD2 (rest := [.double (sh (((θ 0)) 14 0) (((θ 0)) 15 0))]) S hK hl.1 hW (KFr.rgt hW hA) hN (mX2_clean l D c d g η ρ1 κ1 _ T okp (by first | omega | exact hT | assumption | (show T < 500000000; omega) | rfl) f3p) gL_areAlike_X2_clean rfl pdX2_clean ⟨⟨rfl, rfl⟩, Nat.le_of_ble_eq_true rfl, Nat.le_of_ble_eq_true rfl⟩ 0 2 rfl rfl rfl rfl (Nat.le_of_ble_eq_true rfl) dL_areAlike_5 ⟨Nat.le_of_ble_eq_true rfl, Nat.le_of_ble_eq_true rfl⟩ (fun H locs hW => ?_)
  have hW : kw D A s.heap (wP c a b θ ρ κ ++ wP c d g η ρ1 κ1) H locs := hW
  refine lv_dcmp S.1 S.2.1 dL_areAlike_8 ?_
  refine lv_if_ne (tgt := 16) S.1 S.2.1 dL_areAlike_9 (by decide) (fun c_9 => ?_) (fun c_9 => ?_)
  · exact absurd f5 c_9
  · refine lv_iconst (v := nI (1)) S.1 S.2.1 dL_areAlike_12 rfl ?_
    refine lv_goto (tgt := 17) S.1 S.2.1 dL_areAlike_13 (by decide) ?_
    refine lv_istore_n (lv' := [(2, .int (nI (1))), (0, .ref (a 0)), (1, .ref (d 0))]) S.1 S.2.1 dL_areAlike_17 rfl hl (by decide) rfl (fun ls hl => ?_)
    refine lv_iconst (v := nI (0)) S.1 S.2.1 dL_areAlike_18 rfl ?_
    refine lv_istore_n (lv' := [(3, .int (nI (0))), (2, .int (nI (1))), (0, .ref (a 0)), (1, .ref (d 0))]) S.1 S.2.1 dL_areAlike_19 rfl hl (by decide) rfl (fun ls hl => ?_)
    refine k_loop (fun (zz : Nat) H lo ls => match zz with | k => kw D A s.heap (wP c a b θ ρ κ ++ wP c d g η ρ1 κ1) H lo ∧ lv_has ls 4 [(0, .ref (a 0)), (1, .ref (d 0)), (2, .int (nI (1))), (3, .int (nI (k)))] ∧ k ≤ 17) (fun (zz : Nat) => match zz with | k => 17 - k) [] ?_ 0 _ _ _ ⟨hW, lv_sub hl [2, 3, 1, 0] rfl, (by decide)⟩
    rintro k ih20 H locs ls ⟨hW, hl, hi20_0⟩
    refine lv_iload_n S.1 S.2.1 dL_areAlike_20 rfl (lv_at hl 3 rfl) ?_
    refine lv_bipush (v := nI (17)) S.1 S.2.1 dL_areAlike_21 rfl ?_
    refine kn_ge S (tgt := 55) dL_areAlike_23 (by decide) (by omega) (by omega) (fun c_23 => ?_) (fun c_23 => ?_)
    · have e9 : k = 17 := by omega
      subst e9
      refine lv_iconst (v := nI (0)) S.1 S.2.1 dL_areAlike_55 rfl ?_
      refine lv_istore_n (lv' := [(3, .int (nI (0))), (0, .ref (a 0)), (1, .ref (d 0)), (2, .int (nI (1)))]) S.1 S.2.1 dL_areAlike_56 rfl hl (by decide) rfl (fun ls hl => ?_)
      refine k_loop (fun (zz : Nat) H lo ls => match zz with | k => kw D A s.heap (wP c a b θ ρ κ ++ wP c d g η ρ1 κ1) H lo ∧ lv_has ls 4 [(0, .ref (a 0)), (1, .ref (d 0)), (2, .int (nI (1))), (3, .int (nI (k)))] ∧ k ≤ 96) (fun (zz : Nat) => match zz with | k => 96 - k) [] ?_ 0 _ _ _ ⟨hW, lv_sub hl [1, 2, 3, 0] rfl, (by decide)⟩
      rintro k ih57 H locs ls ⟨hW, hl, hi57_0⟩
      refine lv_iload_n S.1 S.2.1 dL_areAlike_57 rfl (lv_at hl 3 rfl) ?_
      refine lv_bipush (v := nI (96)) S.1 S.2.1 dL_areAlike_58 rfl ?_
      refine kn_ge S (tgt := 106) dL_areAlike_60 (by decide) (by omega) (by omega) (fun c_60 => ?_) (fun c_60 => ?_)
      · have e9 : k = 96 := by omega
        subst e9
        refine lv_iconst (v := nI (0)) S.1 S.2.1 dL_areAlike_106 rfl ?_
        refine lv_istore_n (lv' := [(3, .int (nI (0))), (0, .ref (a 0)), (1, .ref (d 0)), (2, .int (nI (1)))]) S.1 S.2.1 dL_areAlike_107 rfl hl (by decide) rfl (fun ls hl => ?_)
        refine k_loop (fun (zz : Nat) H lo ls => match zz with | k => kw D A s.heap (wP c a b θ ρ κ ++ wP c d g η ρ1 κ1) H lo ∧ lv_has ls 4 [(0, .ref (a 0)), (1, .ref (d 0)), (2, .int (nI (1))), (3, .int (nI (k)))] ∧ k ≤ 60) (fun (zz : Nat) => match zz with | k => 60 - k) [] ?_ 0 _ _ _ ⟨hW, lv_sub hl [1, 2, 3, 0] rfl, (by decide)⟩
        rintro k ih108 H locs ls ⟨hW, hl, hi108_0⟩
        refine lv_iload_n S.1 S.2.1 dL_areAlike_108 rfl (lv_at hl 3 rfl) ?_
        refine lv_bipush (v := nI (60)) S.1 S.2.1 dL_areAlike_109 rfl ?_
        refine kn_ge S (tgt := 153) dL_areAlike_111 (by decide) (by omega) (by omega) (fun c_111 => ?_) (fun c_111 => ?_)
        · have e9 : k = 60 := by omega
          subst e9
          refine lv_iconst (v := nI (0)) S.1 S.2.1 dL_areAlike_153 rfl ?_
          refine lv_istore_n (lv' := [(3, .int (nI (0))), (0, .ref (a 0)), (1, .ref (d 0)), (2, .int (nI (1)))]) S.1 S.2.1 dL_areAlike_154 rfl hl (by decide) rfl (fun ls hl => ?_)
          refine k_loop (fun (zz : Nat) H lo ls => match zz with | k => kw D A s.heap (wP c a b θ ρ κ ++ wP c d g η ρ1 κ1) H lo ∧ lv_has ls 4 [(0, .ref (a 0)), (1, .ref (d 0)), (2, .int (nI (1))), (3, .int (nI (k)))] ∧ k ≤ 48) (fun (zz : Nat) => match zz with | k => 48 - k) [] ?_ 0 _ _ _ ⟨hW, lv_sub hl [1, 2, 3, 0] rfl, (by decide)⟩
          rintro k ih155 H locs ls ⟨hW, hl, hi155_0⟩
          refine lv_iload_n S.1 S.2.1 dL_areAlike_155 rfl (lv_at hl 3 rfl) ?_
          refine lv_bipush (v := nI (48)) S.1 S.2.1 dL_areAlike_156 rfl ?_
          refine kn_ge S (tgt := 200) dL_areAlike_158 (by decide) (by omega) (by omega) (fun c_158 => ?_) (fun c_158 => ?_)
          · have e9 : k = 48 := by omega
            subst e9
            refine lv_iload_n S.1 S.2.1 dL_areAlike_200 rfl (lv_at hl 2 rfl) ?_
            exact hret 201 _ _ _ _ _ dL_areAlike_201 hW (rfl) (rfl)
          · refine lv_iload_n S.1 S.2.1 dL_areAlike_161 rfl (lv_at hl 2 rfl) ?_
            refine kz_eq S (tgt := 192) dL_areAlike_162 (by decide) (by omega) (fun c_162 => ?_) (fun c_162 => ?_)
            · exact absurd c_162 (by decide)
            · refine lv_aload_n S.1 S.2.1 dL_areAlike_165 rfl (lv_at hl 0 rfl) ?_
              refine lv_iload_n S.1 S.2.1 dL_areAlike_166 rfl (lv_at hl 3 rfl) ?_
              refine lv_iconst (v := nI (2)) S.1 S.2.1 dL_areAlike_167 rfl ?_
              refine kn_idiv S dL_areAlike_168 (by omega) (by omega) (by omega) ?_
              refine lv_iload_n S.1 S.2.1 dL_areAlike_169 rfl (lv_at hl 3 rfl) ?_
              refine lv_iconst (v := nI (2)) S.1 S.2.1 dL_areAlike_170 rfl ?_
              refine kn_irem S dL_areAlike_171 (by omega) (by omega) (by omega) ?_
              refine k_VI2 (rest := []) S hK hl.1 hW (KFr.lft hW hA) hN (mX2_note_k l D c a b θ ρ κ _ (k / 2) (k % 2) T (by first | omega | exact hb | assumption | (show (k / 2) < 24; omega) | rfl) (by first | omega | exact hw | assumption | (show (k % 2) < 2; omega) | rfl) ok (by first | omega | exact hT | assumption | (show T < 500000000; omega) | rfl)) gL_areAlike_X2_note rfl pdX2_note ⟨⟨rfl, rfl⟩, Nat.le_of_ble_eq_true rfl, Nat.le_of_ble_eq_true rfl⟩ 0 2 rfl rfl rfl rfl (Nat.le_of_ble_eq_true rfl) dL_areAlike_172 ⟨Nat.le_of_ble_eq_true rfl, Nat.le_of_ble_eq_true rfl⟩ (fun H locs hW => ?_)
              have hW : kw D A s.heap (wP c a b θ ρ κ ++ wP c d g η ρ1 κ1) H locs := hW
              refine k_top (y := nI ((if (k / 2) < min 24 (((θ 0)) 14 0) then (if (k % 2) = 0 then ((θ 0)) 4 ((((θ 0)) 14 0 - 1 - (k / 2)) % 24) else ((θ 0)) 5 ((((θ 0)) 14 0 - 1 - (k / 2)) % 24)) else 4294967295))) rfl ?_
              refine lv_aload_n S.1 S.2.1 dL_areAlike_175 rfl (lv_at hl 1 rfl) ?_
              refine lv_iload_n S.1 S.2.1 dL_areAlike_176 rfl (lv_at hl 3 rfl) ?_
              refine lv_iconst (v := nI (2)) S.1 S.2.1 dL_areAlike_177 rfl ?_
              refine kn_idiv S dL_areAlike_178 (by omega) (by omega) (by omega) ?_
              refine lv_iload_n S.1 S.2.1 dL_areAlike_179 rfl (lv_at hl 3 rfl) ?_
              refine lv_iconst (v := nI (2)) S.1 S.2.1 dL_areAlike_180 rfl ?_
              refine kn_irem S dL_areAlike_181 (by omega) (by omega) (by omega) ?_
              refine k_VI2 (rest := [.int (nI ((if (k / 2) < min 24 (((θ 0)) 14 0) then (if (k % 2) = 0 then ((θ 0)) 4 ((((θ 0)) 14 0 - 1 - (k / 2)) % 24) else ((θ 0)) 5 ((((θ 0)) 14 0 - 1 - (k / 2)) % 24)) else 4294967295)))]) S hK hl.1 hW (KFr.rgt hW hA) hN (mX2_note_k l D c d g η ρ1 κ1 _ (k / 2) (k % 2) T (by first | omega | exact hb | assumption | (show (k / 2) < 24; omega) | rfl) (by first | omega | exact hw | assumption | (show (k % 2) < 2; omega) | rfl) okp (by first | omega | exact hT | assumption | (show T < 500000000; omega) | rfl)) gL_areAlike_X2_note rfl pdX2_note ⟨⟨rfl, rfl⟩, Nat.le_of_ble_eq_true rfl, Nat.le_of_ble_eq_true rfl⟩ 0 2 rfl rfl rfl rfl (Nat.le_of_ble_eq_true rfl) dL_areAlike_182 ⟨Nat.le_of_ble_eq_true rfl, Nat.le_of_ble_eq_true rfl⟩ (fun H locs hW => ?_)
              have hW : kw D A s.heap (wP c a b θ ρ κ ++ wP c d g η ρ1 κ1) H locs := hW
              refine k_top (y := nI ((if (k / 2) < min 24 (((η 0)) 14 0) then (if (k % 2) = 0 then ((η 0)) 4 ((((η 0)) 14 0 - 1 - (k / 2)) % 24) else ((η 0)) 5 ((((η 0)) 14 0 - 1 - (k / 2)) % 24)) else 4294967295))) rfl ?_
              refine lv_icmp_ne (tgt := 192) S.1 S.2.1 dL_areAlike_185 (by decide) (fun c_185 => ?_) (fun c_185 => ?_)
              · exact absurd (by rw [he]) c_185
              · refine lv_iconst (v := nI (1)) S.1 S.2.1 dL_areAlike_188 rfl ?_
                refine lv_goto (tgt := 193) S.1 S.2.1 dL_areAlike_189 (by decide) ?_
                refine lv_istore_n (lv' := [(2, .int (nI (1))), (0, .ref (a 0)), (1, .ref (d 0)), (3, .int (nI (k)))]) S.1 S.2.1 dL_areAlike_193 rfl hl (by decide) rfl (fun ls hl => ?_)
                refine lv_iinc (v := nI (k + 1)) (lv' := [(3, .int (nI (k + 1))), (2, .int (nI (1))), (0, .ref (a 0)), (1, .ref (d 0))]) S.1 S.2.1 dL_areAlike_194 hl (k := 3) rfl (nI_add _ _) (by decide) rfl (fun ls hl => ?_)
                refine lv_goto (tgt := 155) S.1 S.2.1 dL_areAlike_197 (by decide) ?_
                exact ih155 (k + 1) _ _ _ ⟨hW, lv_sub hl [2, 3, 1, 0] rfl, (by omega)⟩ (by show 48 - (k + 1) < 48 - k; omega)
        · refine lv_iload_n S.1 S.2.1 dL_areAlike_114 rfl (lv_at hl 2 rfl) ?_
          refine kz_eq S (tgt := 145) dL_areAlike_115 (by decide) (by omega) (fun c_115 => ?_) (fun c_115 => ?_)
          · exact absurd c_115 (by decide)
          · refine lv_aload_n S.1 S.2.1 dL_areAlike_118 rfl (lv_at hl 0 rfl) ?_
            refine lv_iload_n S.1 S.2.1 dL_areAlike_119 rfl (lv_at hl 3 rfl) ?_
            refine lv_iconst (v := nI (5)) S.1 S.2.1 dL_areAlike_120 rfl ?_
            refine kn_idiv S dL_areAlike_121 (by omega) (by omega) (by omega) ?_
            refine lv_iload_n S.1 S.2.1 dL_areAlike_122 rfl (lv_at hl 3 rfl) ?_
            refine lv_iconst (v := nI (5)) S.1 S.2.1 dL_areAlike_123 rfl ?_
            refine kn_irem S dL_areAlike_124 (by omega) (by omega) (by omega) ?_
            refine k_VI2 (rest := []) S hK hl.1 hW (KFr.lft hW hA) hN (mX2_tooth_k l D c a b θ ρ κ _ (k / 5) (k % 5) T (by first | omega | exact hj | assumption | (show (k / 5) < 12; omega) | rfl) (by first | omega | exact hw | assumption | (show (k % 5) < 5; omega) | rfl) ok (by first | omega | exact hT | assumption | (show T < 500000000; omega) | rfl)) gL_areAlike_X2_tooth rfl pdX2_tooth ⟨⟨rfl, rfl⟩, Nat.le_of_ble_eq_true rfl, Nat.le_of_ble_eq_true rfl⟩ 0 2 rfl rfl rfl rfl (Nat.le_of_ble_eq_true rfl) dL_areAlike_125 ⟨Nat.le_of_ble_eq_true rfl, Nat.le_of_ble_eq_true rfl⟩ (fun H locs hW => ?_)
            have hW : kw D A s.heap (wP c a b θ ρ κ ++ wP c d g η ρ1 κ1) H locs := hW
            refine k_top (y := nI (numK (((θ 0))) (k / 5) (k % 5))) rfl ?_
            refine lv_aload_n S.1 S.2.1 dL_areAlike_128 rfl (lv_at hl 1 rfl) ?_
            refine lv_iload_n S.1 S.2.1 dL_areAlike_129 rfl (lv_at hl 3 rfl) ?_
            refine lv_iconst (v := nI (5)) S.1 S.2.1 dL_areAlike_130 rfl ?_
            refine kn_idiv S dL_areAlike_131 (by omega) (by omega) (by omega) ?_
            refine lv_iload_n S.1 S.2.1 dL_areAlike_132 rfl (lv_at hl 3 rfl) ?_
            refine lv_iconst (v := nI (5)) S.1 S.2.1 dL_areAlike_133 rfl ?_
            refine kn_irem S dL_areAlike_134 (by omega) (by omega) (by omega) ?_
            refine k_VI2 (rest := [.int (nI (numK (((θ 0))) (k / 5) (k % 5)))]) S hK hl.1 hW (KFr.rgt hW hA) hN (mX2_tooth_k l D c d g η ρ1 κ1 _ (k / 5) (k % 5) T (by first | omega | exact hj | assumption | (show (k / 5) < 12; omega) | rfl) (by first | omega | exact hw | assumption | (show (k % 5) < 5; omega) | rfl) okp (by first | omega | exact hT | assumption | (show T < 500000000; omega) | rfl)) gL_areAlike_X2_tooth rfl pdX2_tooth ⟨⟨rfl, rfl⟩, Nat.le_of_ble_eq_true rfl, Nat.le_of_ble_eq_true rfl⟩ 0 2 rfl rfl rfl rfl (Nat.le_of_ble_eq_true rfl) dL_areAlike_135 ⟨Nat.le_of_ble_eq_true rfl, Nat.le_of_ble_eq_true rfl⟩ (fun H locs hW => ?_)
            have hW : kw D A s.heap (wP c a b θ ρ κ ++ wP c d g η ρ1 κ1) H locs := hW
            refine k_top (y := nI (numK (((η 0))) (k / 5) (k % 5))) rfl ?_
            refine lv_icmp_ne (tgt := 145) S.1 S.2.1 dL_areAlike_138 (by decide) (fun c_138 => ?_) (fun c_138 => ?_)
            · exact absurd (by rw [he]) c_138
            · refine lv_iconst (v := nI (1)) S.1 S.2.1 dL_areAlike_141 rfl ?_
              refine lv_goto (tgt := 146) S.1 S.2.1 dL_areAlike_142 (by decide) ?_
              refine lv_istore_n (lv' := [(2, .int (nI (1))), (0, .ref (a 0)), (1, .ref (d 0)), (3, .int (nI (k)))]) S.1 S.2.1 dL_areAlike_146 rfl hl (by decide) rfl (fun ls hl => ?_)
              refine lv_iinc (v := nI (k + 1)) (lv' := [(3, .int (nI (k + 1))), (2, .int (nI (1))), (0, .ref (a 0)), (1, .ref (d 0))]) S.1 S.2.1 dL_areAlike_147 hl (k := 3) rfl (nI_add _ _) (by decide) rfl (fun ls hl => ?_)
              refine lv_goto (tgt := 108) S.1 S.2.1 dL_areAlike_150 (by decide) ?_
              exact ih108 (k + 1) _ _ _ ⟨hW, lv_sub hl [2, 3, 1, 0] rfl, (by omega)⟩ (by show 60 - (k + 1) < 60 - k; omega)
      · refine lv_iload_n S.1 S.2.1 dL_areAlike_63 rfl (lv_at hl 2 rfl) ?_
        refine kz_eq S (tgt := 98) dL_areAlike_64 (by decide) (by omega) (fun c_64 => ?_) (fun c_64 => ?_)
        · exact absurd c_64 (by decide)
        · refine lv_aload_n S.1 S.2.1 dL_areAlike_67 rfl (lv_at hl 0 rfl) ?_
          refine lv_iload_n S.1 S.2.1 dL_areAlike_68 rfl (lv_at hl 3 rfl) ?_
          refine lv_bipush (v := nI (32)) S.1 S.2.1 dL_areAlike_69 rfl ?_
          refine kn_idiv S dL_areAlike_71 (by omega) (by omega) (by omega) ?_
          refine lv_iload_n S.1 S.2.1 dL_areAlike_72 rfl (lv_at hl 3 rfl) ?_
          refine lv_bipush (v := nI (32)) S.1 S.2.1 dL_areAlike_73 rfl ?_
          refine kn_irem S dL_areAlike_75 (by omega) (by omega) (by omega) ?_
          refine k_VI2 (rest := []) S hK hl.1 hW (KFr.lft hW hA) hN (mX2_chord_k l D c a b θ ρ κ _ (k / 32) (k % 32) (by first | omega | exact ht | assumption | (show (k / 32) < 3; omega) | rfl) (by first | omega | exact hp | assumption | (show (k % 32) < 32; omega) | rfl)) gL_areAlike_X2_chord rfl pdX2_chord ⟨⟨rfl, rfl⟩, Nat.le_of_ble_eq_true rfl, Nat.le_of_ble_eq_true rfl⟩ 0 2 rfl rfl rfl rfl (Nat.le_of_ble_eq_true rfl) dL_areAlike_76 ⟨Nat.le_of_ble_eq_true rfl, Nat.le_of_ble_eq_true rfl⟩ (fun H locs hW => ?_)
          have hW : kw D A s.heap (wP c a b θ ρ κ ++ wP c d g η ρ1 κ1) H locs := hW
          refine k_top (y := nI (((θ 0)) 0 ((k / 32) * 32 + (k % 32)))) rfl ?_
          refine lv_aload_n S.1 S.2.1 dL_areAlike_79 rfl (lv_at hl 1 rfl) ?_
          refine lv_iload_n S.1 S.2.1 dL_areAlike_80 rfl (lv_at hl 3 rfl) ?_
          refine lv_bipush (v := nI (32)) S.1 S.2.1 dL_areAlike_81 rfl ?_
          refine kn_idiv S dL_areAlike_83 (by omega) (by omega) (by omega) ?_
          refine lv_iload_n S.1 S.2.1 dL_areAlike_84 rfl (lv_at hl 3 rfl) ?_
          refine lv_bipush (v := nI (32)) S.1 S.2.1 dL_areAlike_85 rfl ?_
          refine kn_irem S dL_areAlike_87 (by omega) (by omega) (by omega) ?_
          refine k_VI2 (rest := [.int (nI (((θ 0)) 0 ((k / 32) * 32 + (k % 32))))]) S hK hl.1 hW (KFr.rgt hW hA) hN (mX2_chord_k l D c d g η ρ1 κ1 _ (k / 32) (k % 32) (by first | omega | exact ht | assumption | (show (k / 32) < 3; omega) | rfl) (by first | omega | exact hp | assumption | (show (k % 32) < 32; omega) | rfl)) gL_areAlike_X2_chord rfl pdX2_chord ⟨⟨rfl, rfl⟩, Nat.le_of_ble_eq_true rfl, Nat.le_of_ble_eq_true rfl⟩ 0 2 rfl rfl rfl rfl (Nat.le_of_ble_eq_true rfl) dL_areAlike_88 ⟨Nat.le_of_ble_eq_true rfl, Nat.le_of_ble_eq_true rfl⟩ (fun H locs hW => ?_)
          have hW : kw D A s.heap (wP c a b θ ρ κ ++ wP c d g η ρ1 κ1) H locs := hW
          refine k_top (y := nI (((η 0)) 0 ((k / 32) * 32 + (k % 32)))) rfl ?_
          refine lv_icmp_ne (tgt := 98) S.1 S.2.1 dL_areAlike_91 (by decide) (fun c_91 => ?_) (fun c_91 => ?_)
          · exact absurd (by rw [he]) c_91
          · refine lv_iconst (v := nI (1)) S.1 S.2.1 dL_areAlike_94 rfl ?_
            refine lv_goto (tgt := 99) S.1 S.2.1 dL_areAlike_95 (by decide) ?_
            refine lv_istore_n (lv' := [(2, .int (nI (1))), (0, .ref (a 0)), (1, .ref (d 0)), (3, .int (nI (k)))]) S.1 S.2.1 dL_areAlike_99 rfl hl (by decide) rfl (fun ls hl => ?_)
            refine lv_iinc (v := nI (k + 1)) (lv' := [(3, .int (nI (k + 1))), (2, .int (nI (1))), (0, .ref (a 0)), (1, .ref (d 0))]) S.1 S.2.1 dL_areAlike_100 hl (k := 3) rfl (nI_add _ _) (by decide) rfl (fun ls hl => ?_)
            refine lv_goto (tgt := 57) S.1 S.2.1 dL_areAlike_103 (by decide) ?_
            exact ih57 (k + 1) _ _ _ ⟨hW, lv_sub hl [2, 3, 1, 0] rfl, (by omega)⟩ (by show 96 - (k + 1) < 96 - k; omega)
    · refine lv_iload_n S.1 S.2.1 dL_areAlike_26 rfl (lv_at hl 2 rfl) ?_
      refine kz_eq S (tgt := 47) dL_areAlike_27 (by decide) (by omega) (fun c_27 => ?_) (fun c_27 => ?_)
      · exact absurd c_27 (by decide)
      · refine lv_aload_n S.1 S.2.1 dL_areAlike_30 rfl (lv_at hl 0 rfl) ?_
        refine lv_iload_n S.1 S.2.1 dL_areAlike_31 rfl (lv_at hl 3 rfl) ?_
        refine k_VI2 (rest := []) S hK hl.1 hW (KFr.lft hW hA) hN (mX2_count_k l D c a b θ ρ κ _ k T (by first | omega | exact hw | assumption | (show k < 18; omega) | rfl) ok (by first | omega | exact hT | assumption | (show T < 500000000; omega) | rfl)) gL_areAlike_X2_count rfl pdX2_count ⟨⟨rfl, rfl⟩, Nat.le_of_ble_eq_true rfl, Nat.le_of_ble_eq_true rfl⟩ 0 2 rfl rfl rfl rfl (Nat.le_of_ble_eq_true rfl) dL_areAlike_32 ⟨Nat.le_of_ble_eq_true rfl, Nat.le_of_ble_eq_true rfl⟩ (fun H locs hW => ?_)
        have hW : kw D A s.heap (wP c a b θ ρ κ ++ wP c d g η ρ1 κ1) H locs := hW
        refine k_top (y := nI ((if k = 17 then (κ 3 0) else numN (((θ 0))) k))) rfl ?_
        refine lv_aload_n S.1 S.2.1 dL_areAlike_35 rfl (lv_at hl 1 rfl) ?_
        refine lv_iload_n S.1 S.2.1 dL_areAlike_36 rfl (lv_at hl 3 rfl) ?_
        refine k_VI2 (rest := [.int (nI ((if k = 17 then (κ 3 0) else numN (((θ 0))) k)))]) S hK hl.1 hW (KFr.rgt hW hA) hN (mX2_count_k l D c d g η ρ1 κ1 _ k T (by first | omega | exact hw | assumption | (show k < 18; omega) | rfl) okp (by first | omega | exact hT | assumption | (show T < 500000000; omega) | rfl)) gL_areAlike_X2_count rfl pdX2_count ⟨⟨rfl, rfl⟩, Nat.le_of_ble_eq_true rfl, Nat.le_of_ble_eq_true rfl⟩ 0 2 rfl rfl rfl rfl (Nat.le_of_ble_eq_true rfl) dL_areAlike_37 ⟨Nat.le_of_ble_eq_true rfl, Nat.le_of_ble_eq_true rfl⟩ (fun H locs hW => ?_)
        have hW : kw D A s.heap (wP c a b θ ρ κ ++ wP c d g η ρ1 κ1) H locs := hW
        refine k_top (y := nI ((if k = 17 then (κ1 3 0) else numN (((η 0))) k))) rfl ?_
        refine lv_icmp_ne (tgt := 47) S.1 S.2.1 dL_areAlike_40 (by decide) (fun c_40 => ?_) (fun c_40 => ?_)
        · exact absurd (by rw [he, if_neg (show ¬ k = 17 by omega), if_neg (show ¬ k = 17 by omega)]) c_40
        · refine lv_iconst (v := nI (1)) S.1 S.2.1 dL_areAlike_43 rfl ?_
          refine lv_goto (tgt := 48) S.1 S.2.1 dL_areAlike_44 (by decide) ?_
          refine lv_istore_n (lv' := [(2, .int (nI (1))), (0, .ref (a 0)), (1, .ref (d 0)), (3, .int (nI (k)))]) S.1 S.2.1 dL_areAlike_48 rfl hl (by decide) rfl (fun ls hl => ?_)
          refine lv_iinc (v := nI (k + 1)) (lv' := [(3, .int (nI (k + 1))), (2, .int (nI (1))), (0, .ref (a 0)), (1, .ref (d 0))]) S.1 S.2.1 dL_areAlike_49 hl (k := 3) rfl (nI_add _ _) (by decide) rfl (fun ls hl => ?_)
          refine lv_goto (tgt := 20) S.1 S.2.1 dL_areAlike_52 (by decide) ?_
          exact ih20 (k + 1) _ _ _ ⟨hW, lv_sub hl [2, 3, 1, 0] rfl, (by omega)⟩ (by show 17 - (k + 1) < 17 - k; omega)
