theorem upne {G : Nat → va_E} {k a : Nat} {x : va_E} (h : a ≠ k) : va_up G k x a = G a := by simp [va_up, h]
theorem upcm {G : Nat → va_E} {k j : Nat} {x y : va_E} (h : k ≠ j) : va_up (va_up G k x) j y = va_up (va_up G j y) k x := by
  funext a
  by_cases h1 : a = k
  · subst h1; simp [va_up, h]
  · by_cases h2 : a = j
    · subst h2; simp [va_up, Ne.symm h]
    · simp [va_up, h1, h2]
theorem binsF : va_up (va_up (va_up (va_up (fun _ => none) 0 (some 34)) 1 (some 38)) 2 (some 42)) 3 (some 46) = (fun i => if i < 4 then some (34 + 4 * i) else none : Nat → Option Nat) := by
  funext i
  match i with
  | 0 => rfl
  | 1 => rfl
  | 2 => rfl
  | 3 => rfl
  | i + 4 => simp [va_up]
set_option maxRecDepth 100000 in
set_option maxHeartbeats 4000000 in
theorem iYard {d : Nat} {G : Nat → va_E} {Φ : Option Int32 → PH → Prop} (hG : ∀ a, 0 ≤ a → a < 62 → G a = HS M0 a) (h : Φ none (62, G)) : J noRo (d + 2) 61 12505 mX11_init 0 [some (.ref 0)] [] (1, va_up G 0 (.inr (11, [.null, .null, .null, .null, .null, .null, .null, .null, .null, .null, .null, .null, .int 0]))) Φ := by
  refine J_aload_n dX11_init_0 rfl ?_
  refine J_obj dX11_init_1 kX11_3 obj1 obj2 (Nat.le_of_ble_eq_true rfl) ?_
  refine J_aload_n dX11_init_4 rfl ?_
  refine J_new (bc := 60) (bs := 12498) (N := 7) dX11_init_5 nX11_9 (by show 1 < jBig; decide) ?_
  refine J_dup dX11_init_8 rfl ?_
  refine J_callIN (k := 1) (As := []) (rest := [.ref 1, .ref 0]) (mc := mX1_init) (n := 0) (bc := 6) (bs := 108) (bc2 := 54) (bs2 := 12390) dX11_init_9 kX11_11 oX1_init rfl (Nat.le_of_ble_eq_true rfl) (Nat.le_of_ble_eq_true rfl) ?_
  refine iHerd (G := va_up G 0 (.inr (11, [.null, .null, .null, .null, .null, .null, .null, .null, .null, .null, .null, .null, .int 0]))) (fun a h1 h2 => by simp only [va_up]; rw [if_neg (show ¬ a = 0 by omega)]; exact hG a (by omega) (by omega)) ?_
  show J noRo (d + 2) 54 12390 mX11_init 12 _ [.ref 1, .ref 0] (8, va_up G 0 (.inr (11, [.null, .null, .null, .null, .null, .null, .null, .null, .null, .null, .null, .null, .int 0]))) Φ
  refine Z_putF dX11_init_12 qX11_12 rfl (by decide) (Nat.le_of_ble_eq_true rfl) (fun _ => rfl) (fun _ => rfl) (fs2 := [.ref 1, .null, .null, .null, .null, .null, .null, .null, .null, .null, .null, .null, .int 0]) rfl (pc2 := 15) rfl ?_
  refine J_aload_n dX11_init_15 rfl ?_
  refine J_new (bc := 53) (bs := 12386) (N := 4) dX11_init_16 nX11_16 (by show 8 < jBig; decide) ?_
  refine J_dup dX11_init_19 rfl ?_
  refine J_callIN (k := 8) (As := []) (rest := [.ref 8, .ref 0]) (mc := mX3_init) (n := 0) (bc := 4) (bs := 54) (bc2 := 49) (bs2 := 12332) dX11_init_20 kX11_18 oX3_init rfl (Nat.le_of_ble_eq_true rfl) (Nat.le_of_ble_eq_true rfl) ?_
  refine iLand (G := va_up G 0 (.inr (11, [.ref 1, .null, .null, .null, .null, .null, .null, .null, .null, .null, .null, .null, .int 0]))) (fun a h1 h2 => by simp only [va_up]; rw [if_neg (show ¬ a = 0 by omega)]; exact hG a (by omega) (by omega)) ?_
  show J noRo (d + 2) 49 12332 mX11_init 23 _ [.ref 8, .ref 0] (13, va_up G 0 (.inr (11, [.ref 1, .null, .null, .null, .null, .null, .null, .null, .null, .null, .null, .null, .int 0]))) Φ
  refine Z_putF dX11_init_23 qX11_19 rfl (by decide) (Nat.le_of_ble_eq_true rfl) (fun _ => rfl) (fun _ => rfl) (fs2 := [.ref 1, .ref 8, .null, .null, .null, .null, .null, .null, .null, .null, .null, .null, .int 0]) rfl (pc2 := 26) rfl ?_
  refine J_aload_n dX11_init_26 rfl ?_
  refine J_new (bc := 48) (bs := 12330) (N := 2) dX11_init_27 nX11_23 (by show 13 < jBig; decide) ?_
  refine J_dup dX11_init_30 rfl ?_
  refine J_callIN (k := 13) (As := []) (rest := [.ref 13, .ref 0]) (mc := mX8_init) (n := 0) (bc := 1) (bs := 1000) (bc2 := 47) (bs2 := 11330) dX11_init_31 kX11_25 oX8_init rfl (Nat.le_of_ble_eq_true rfl) (Nat.le_of_ble_eq_true rfl) ?_
  refine iTape (G := va_up G 0 (.inr (11, [.ref 1, .ref 8, .null, .null, .null, .null, .null, .null, .null, .null, .null, .null, .int 0]))) (fun a h1 h2 => by simp only [va_up]; rw [if_neg (show ¬ a = 0 by omega)]; exact hG a (by omega) (by omega)) ?_
  show J noRo (d + 2) 47 11330 mX11_init 34 _ [.ref 13, .ref 0] (15, va_up G 0 (.inr (11, [.ref 1, .ref 8, .null, .null, .null, .null, .null, .null, .null, .null, .null, .null, .int 0]))) Φ
  refine Z_putF dX11_init_34 qX11_26 rfl (by decide) (Nat.le_of_ble_eq_true rfl) (fun _ => rfl) (fun _ => rfl) (fs2 := [.ref 1, .ref 8, .ref 13, .null, .null, .null, .null, .null, .null, .null, .null, .null, .int 0]) rfl (pc2 := 37) rfl ?_
  refine J_aload_n dX11_init_37 rfl ?_
  refine J_new (bc := 46) (bs := 11324) (N := 6) dX11_init_38 nX11_30 (by show 15 < jBig; decide) ?_
  refine J_dup dX11_init_41 rfl ?_
  refine J_callIN (k := 15) (As := []) (rest := [.ref 15, .ref 0]) (mc := mX7_init) (n := 0) (bc := 4) (bs := 1065) (bc2 := 42) (bs2 := 10259) dX11_init_42 kX11_32 oX7_init rfl (Nat.le_of_ble_eq_true rfl) (Nat.le_of_ble_eq_true rfl) ?_
  refine iDraft (G := va_up G 0 (.inr (11, [.ref 1, .ref 8, .ref 13, .null, .null, .null, .null, .null, .null, .null, .null, .null, .int 0]))) (fun a h1 h2 => by simp only [va_up]; rw [if_neg (show ¬ a = 0 by omega)]; exact hG a (by omega) (by omega)) ?_
  show J noRo (d + 2) 42 10259 mX11_init 45 _ [.ref 15, .ref 0] (20, va_up G 0 (.inr (11, [.ref 1, .ref 8, .ref 13, .null, .null, .null, .null, .null, .null, .null, .null, .null, .int 0]))) Φ
  refine Z_putF dX11_init_45 qX11_33 rfl (by decide) (Nat.le_of_ble_eq_true rfl) (fun _ => rfl) (fun _ => rfl) (fs2 := [.ref 1, .ref 8, .ref 13, .ref 15, .null, .null, .null, .null, .null, .null, .null, .null, .int 0]) rfl (pc2 := 48) rfl ?_
  refine J_aload_n dX11_init_48 rfl ?_
  refine J_new (bc := 41) (bs := 10253) (N := 6) dX11_init_49 nX11_30 (by show 20 < jBig; decide) ?_
  refine J_dup dX11_init_52 rfl ?_
  refine J_callIN (k := 20) (As := []) (rest := [.ref 20, .ref 0]) (mc := mX7_init) (n := 0) (bc := 4) (bs := 1065) (bc2 := 37) (bs2 := 9188) dX11_init_53 kX11_32 oX7_init rfl (Nat.le_of_ble_eq_true rfl) (Nat.le_of_ble_eq_true rfl) ?_
  refine iForce (G := va_up G 0 (.inr (11, [.ref 1, .ref 8, .ref 13, .ref 15, .null, .null, .null, .null, .null, .null, .null, .null, .int 0]))) (fun a h1 h2 => by simp only [va_up]; rw [if_neg (show ¬ a = 0 by omega)]; exact hG a (by omega) (by omega)) ?_
  show J noRo (d + 2) 37 9188 mX11_init 56 _ [.ref 20, .ref 0] (25, va_up G 0 (.inr (11, [.ref 1, .ref 8, .ref 13, .ref 15, .null, .null, .null, .null, .null, .null, .null, .null, .int 0]))) Φ
  refine Z_putF dX11_init_56 qX11_37 rfl (by decide) (Nat.le_of_ble_eq_true rfl) (fun _ => rfl) (fun _ => rfl) (fs2 := [.ref 1, .ref 8, .ref 13, .ref 15, .ref 20, .null, .null, .null, .null, .null, .null, .null, .int 0]) rfl (pc2 := 59) rfl ?_
  refine J_aload_n dX11_init_59 rfl ?_
  refine J_new (bc := 36) (bs := 9182) (N := 6) dX11_init_60 nX11_40 (by show 25 < jBig; decide) ?_
  refine J_dup dX11_init_63 rfl ?_
  refine J_new (bc := 35) (bs := 9177) (N := 5) dX11_init_64 nX11_42 (by show 26 < jBig; decide) ?_
  refine J_dup dX11_init_67 rfl ?_
  refine J_aload_n dX11_init_68 rfl ?_
  refine J_getf dX11_init_69 fX11_26 (by show 0 < 27; decide) rfl rfl ?_
  refine J_callI (k := 26) (As := [.ref 13]) (rest := [.ref 26, .ref 25, .ref 25, .ref 0]) (mc := mX9_init) (n := 1) (bc := 0) (bs := 0) (bc2 := 35) (bs2 := 9177) dX11_init_72 kX11_44 oX9_init rfl (Nat.le_of_ble_eq_true rfl) (Nat.le_of_ble_eq_true rfl) ?_
  refine iTokens (G := va_up (va_up G 0 (.inr (11, [.ref 1, .ref 8, .ref 13, .ref 15, .ref 20, .null, .null, .null, .null, .null, .null, .null, .int 0]))) 25 (.inr (5, [.null, .null, .int 0, .int 0, .int 0, .int 0]))) (fun a h1 h2 => by simp only [va_up]; rw [if_neg (show ¬ a = 25 by omega), if_neg (show ¬ a = 0 by omega)]; exact hG a (by omega) (by omega)) ?_
  show J noRo (d + 2) 35 9177 mX11_init 75 _ [.ref 26, .ref 25, .ref 25, .ref 0] (27, va_up (va_up G 0 (.inr (11, [.ref 1, .ref 8, .ref 13, .ref 15, .ref 20, .null, .null, .null, .null, .null, .null, .null, .int 0]))) 25 (.inr (5, [.null, .null, .int 0, .int 0, .int 0, .int 0]))) Φ
  refine J_aload_n dX11_init_75 rfl ?_
  refine J_getf dX11_init_76 fX11_33 (by show 0 < 27; decide) rfl rfl ?_
  refine J_callI (k := 25) (As := [.ref 26, .ref 15]) (rest := [.ref 25, .ref 0]) (mc := mX5_init) (n := 2) (bc := 0) (bs := 0) (bc2 := 35) (bs2 := 9177) dX11_init_79 kX11_47 oX5_init rfl (Nat.le_of_ble_eq_true rfl) (Nat.le_of_ble_eq_true rfl) ?_
  refine iParser (G := va_up G 0 (.inr (11, [.ref 1, .ref 8, .ref 13, .ref 15, .ref 20, .null, .null, .null, .null, .null, .null, .null, .int 0]))) (fun a h1 h2 => by simp only [va_up]; rw [if_neg (show ¬ a = 0 by omega)]; exact hG a (by omega) (by omega)) ?_
  show J noRo (d + 2) 35 9177 mX11_init 82 _ [.ref 25, .ref 0] (27, va_up G 0 (.inr (11, [.ref 1, .ref 8, .ref 13, .ref 15, .ref 20, .null, .null, .null, .null, .null, .null, .null, .int 0]))) Φ
  refine Z_putF dX11_init_82 qX11_50 rfl (by decide) (Nat.le_of_ble_eq_true rfl) (fun _ => rfl) (fun _ => rfl) (fs2 := [.ref 1, .ref 8, .ref 13, .ref 15, .ref 20, .ref 25, .null, .null, .null, .null, .null, .null, .int 0]) rfl (pc2 := 85) rfl ?_
  refine J_aload_n dX11_init_85 rfl ?_
  refine J_new (bc := 34) (bs := 9173) (N := 4) dX11_init_86 nX11_54 (by show 27 < jBig; decide) ?_
  refine J_dup dX11_init_89 rfl ?_
  refine J_aload_n dX11_init_90 rfl ?_
  refine J_getf dX11_init_91 fX11_12 (by show 0 < 28; decide) rfl rfl ?_
  refine J_aload_n dX11_init_94 rfl ?_
  refine J_getf dX11_init_95 fX11_19 (by show 0 < 28; decide) rfl rfl ?_
  refine J_aload_n dX11_init_98 rfl ?_
  refine J_getf dX11_init_99 fX11_37 (by show 0 < 28; decide) rfl rfl ?_
  refine J_callI (k := 27) (As := [.ref 1, .ref 8, .ref 20]) (rest := [.ref 27, .ref 0]) (mc := mX2_init) (n := 3) (bc := 1) (bs := 14) (bc2 := 33) (bs2 := 9159) dX11_init_102 kX11_56 oX2_init rfl (Nat.le_of_ble_eq_true rfl) (Nat.le_of_ble_eq_true rfl) ?_
  refine iJudge (G := va_up G 0 (.inr (11, [.ref 1, .ref 8, .ref 13, .ref 15, .ref 20, .ref 25, .null, .null, .null, .null, .null, .null, .int 0]))) (fun a h1 h2 => by simp only [va_up]; rw [if_neg (show ¬ a = 0 by omega)]; exact hG a (by omega) (by omega)) ?_
  show J noRo (d + 2) 33 9159 mX11_init 105 _ [.ref 27, .ref 0] (29, va_up G 0 (.inr (11, [.ref 1, .ref 8, .ref 13, .ref 15, .ref 20, .ref 25, .null, .null, .null, .null, .null, .null, .int 0]))) Φ
  refine Z_putF dX11_init_105 qX11_59 rfl (by decide) (Nat.le_of_ble_eq_true rfl) (fun _ => rfl) (fun _ => rfl) (fs2 := [.ref 1, .ref 8, .ref 13, .ref 15, .ref 20, .ref 25, .ref 27, .null, .null, .null, .null, .null, .int 0]) rfl (pc2 := 108) rfl ?_
  refine J_aload_n dX11_init_108 rfl ?_
  refine J_new (bc := 32) (bs := 9150) (N := 9) dX11_init_109 nX11_63 (by show 29 < jBig; decide) ?_
  refine J_dup dX11_init_112 rfl ?_
  refine J_aload_n dX11_init_113 rfl ?_
  refine J_getf dX11_init_114 fX11_12 (by show 0 < 30; decide) rfl rfl ?_
  refine J_aload_n dX11_init_117 rfl ?_
  refine J_getf dX11_init_118 fX11_19 (by show 0 < 30; decide) rfl rfl ?_
  refine J_aload_n dX11_init_121 rfl ?_
  refine J_getf dX11_init_122 fX11_59 (by show 0 < 30; decide) rfl rfl ?_
  refine J_callI (k := 29) (As := [.ref 1, .ref 8, .ref 27]) (rest := [.ref 29, .ref 0]) (mc := mX6_init) (n := 3) (bc := 3) (bs := 2028) (bc2 := 29) (bs2 := 7122) dX11_init_125 kX11_65 oX6_init rfl (Nat.le_of_ble_eq_true rfl) (Nat.le_of_ble_eq_true rfl) ?_
  refine iPlanner (G := va_up G 0 (.inr (11, [.ref 1, .ref 8, .ref 13, .ref 15, .ref 20, .ref 25, .ref 27, .null, .null, .null, .null, .null, .int 0]))) (fun a h1 h2 => by simp only [va_up]; rw [if_neg (show ¬ a = 0 by omega)]; exact hG a (by omega) (by omega)) ?_
  show J noRo (d + 2) 29 7122 mX11_init 128 _ [.ref 29, .ref 0] (33, va_up G 0 (.inr (11, [.ref 1, .ref 8, .ref 13, .ref 15, .ref 20, .ref 25, .ref 27, .null, .null, .null, .null, .null, .int 0]))) Φ
  refine Z_putF dX11_init_128 qX11_68 rfl (by decide) (Nat.le_of_ble_eq_true rfl) (fun _ => rfl) (fun _ => rfl) (fs2 := [.ref 1, .ref 8, .ref 13, .ref 15, .ref 20, .ref 25, .ref 27, .ref 29, .null, .null, .null, .null, .int 0]) rfl (pc2 := 131) rfl ?_
  refine J_aload_n dX11_init_131 rfl ?_
  refine J_iconst (v := 4) dX11_init_132 (by decide) ?_
  refine J_newQ (bc := 28) (bs := 7118) (N := 4) dX11_init_133 lX11_72 (by decide) (by decide) (by decide) (by show 33 < jBig; decide) ?_
  show J noRo (d + 2) 28 7118 mX11_init 136 _ [.ref 33, .ref 0] (34, va_up (va_up G 0 (.inr (11, [.ref 1, .ref 8, .ref 13, .ref 15, .ref 20, .ref 25, .ref 27, .ref 29, .null, .null, .null, .null, .int 0]))) 33 (.inl (2, 4, .inr (.inr (.inr (.inr (fun _ => none))))))) Φ
  rw [upcm (k := 0) (j := 33) (by decide)]
  refine Z_putF dX11_init_136 qX11_74 rfl (by decide) (Nat.le_of_ble_eq_true rfl) (fun _ => rfl) (fun _ => rfl) (fs2 := [.ref 1, .ref 8, .ref 13, .ref 15, .ref 20, .ref 25, .ref 27, .ref 29, .ref 33, .null, .null, .null, .int 0]) rfl (pc2 := 139) rfl ?_
  rw [upcm (k := 33) (j := 0) (by decide)]
  refine J_iconst (v := 0) dX11_init_139 (by decide) ?_
  refine J_istore_n dX11_init_140 (by decide) rfl ?_
  dsimp only [setL]
  refine J_iload_n dX11_init_141 rfl ?_
  refine J_iconst (v := 4) dX11_init_142 (by decide) ?_
  refine J_icmp_ge (tgt := 165) dX11_init_143 (by decide) (fun c => absurd c (by decide)) (fun _ => ?_)
  refine J_aload_n dX11_init_146 rfl ?_
  refine J_getf dX11_init_147 fX11_74 (by show 0 < 34; decide) rfl rfl ?_
  refine J_iload_n dX11_init_150 rfl ?_
  refine J_new (bc := 27) (bs := 7113) (N := 5) dX11_init_151 nX11_72 (by show 34 < jBig; decide) ?_
  refine J_dup dX11_init_154 rfl ?_
  refine J_callIN (k := 34) (As := []) (rest := [.ref 34, .int 0, .ref 33]) (mc := mX0_init) (n := 0) (bc := 3) (bs := 60) (bc2 := 24) (bs2 := 7053) dX11_init_155 kX11_78 oX0_init rfl (Nat.le_of_ble_eq_true rfl) (Nat.le_of_ble_eq_true rfl) ?_
  refine iBin0 (G := va_up (va_up G 0 (.inr (11, [.ref 1, .ref 8, .ref 13, .ref 15, .ref 20, .ref 25, .ref 27, .ref 29, .ref 33, .null, .null, .null, .int 0]))) 33 (.inl (2, 4, .inr (.inr (.inr (.inr (fun _ => none))))))) (fun a h1 h2 => by simp only [va_up]; rw [if_neg (show ¬ a = 33 by omega), if_neg (show ¬ a = 0 by omega)]; exact hG a (by omega) (by omega)) ?_
  show J noRo (d + 2) 24 7053 mX11_init 158 _ [.ref 34, .int 0, .ref 33] (38, va_up (va_up G 0 (.inr (11, [.ref 1, .ref 8, .ref 13, .ref 15, .ref 20, .ref 25, .ref 27, .ref 29, .ref 33, .null, .null, .null, .int 0]))) 33 (.inl (2, 4, .inr (.inr (.inr (.inr (fun _ => none))))))) Φ
  refine J_aast dX11_init_158 (by show 33 < 38; decide) rfl (by show 34 < 38; decide) (hG 34 (by decide) (by decide)) rfl (vp_in_nI (n := 0) (by decide) (by decide)) ?_
  dsimp only
  rw [bx_uu]
  show J noRo (d + 2) 24 7053 mX11_init 159 _ _ (38, va_up (va_up G 0 (.inr (11, [.ref 1, .ref 8, .ref 13, .ref 15, .ref 20, .ref 25, .ref 27, .ref 29, .ref 33, .null, .null, .null, .int 0]))) 33 (.inl (2, 4, .inr (.inr (.inr (.inr (va_up (fun _ => none) 0 (some 34)))))))) Φ
  refine J_iinc (v := 1) dX11_init_159 rfl rfl (by decide) rfl ?_
  dsimp only [setL]
  refine J_goto (tgt := 141) dX11_init_162 (by decide) ?_
  refine J_iload_n dX11_init_141 rfl ?_
  refine J_iconst (v := 4) dX11_init_142 (by decide) ?_
  refine J_icmp_ge (tgt := 165) dX11_init_143 (by decide) (fun c => absurd c (by decide)) (fun _ => ?_)
  refine J_aload_n dX11_init_146 rfl ?_
  refine J_getf dX11_init_147 fX11_74 (by show 0 < 38; decide) rfl rfl ?_
  refine J_iload_n dX11_init_150 rfl ?_
  refine J_new (bc := 23) (bs := 7048) (N := 5) dX11_init_151 nX11_72 (by show 38 < jBig; decide) ?_
  refine J_dup dX11_init_154 rfl ?_
  refine J_callIN (k := 38) (As := []) (rest := [.ref 38, .int 1, .ref 33]) (mc := mX0_init) (n := 0) (bc := 3) (bs := 60) (bc2 := 20) (bs2 := 6988) dX11_init_155 kX11_78 oX0_init rfl (Nat.le_of_ble_eq_true rfl) (Nat.le_of_ble_eq_true rfl) ?_
  refine iBin1 (G := va_up (va_up G 0 (.inr (11, [.ref 1, .ref 8, .ref 13, .ref 15, .ref 20, .ref 25, .ref 27, .ref 29, .ref 33, .null, .null, .null, .int 0]))) 33 (.inl (2, 4, .inr (.inr (.inr (.inr (va_up (fun _ => none) 0 (some 34)))))))) (fun a h1 h2 => by simp only [va_up]; rw [if_neg (show ¬ a = 33 by omega), if_neg (show ¬ a = 0 by omega)]; exact hG a (by omega) (by omega)) ?_
  show J noRo (d + 2) 20 6988 mX11_init 158 _ [.ref 38, .int 1, .ref 33] (42, va_up (va_up G 0 (.inr (11, [.ref 1, .ref 8, .ref 13, .ref 15, .ref 20, .ref 25, .ref 27, .ref 29, .ref 33, .null, .null, .null, .int 0]))) 33 (.inl (2, 4, .inr (.inr (.inr (.inr (va_up (fun _ => none) 0 (some 34)))))))) Φ
  refine J_aast dX11_init_158 (by show 33 < 42; decide) rfl (by show 38 < 42; decide) (hG 38 (by decide) (by decide)) rfl (vp_in_nI (n := 1) (by decide) (by decide)) ?_
  dsimp only
  rw [bx_uu]
  show J noRo (d + 2) 20 6988 mX11_init 159 _ _ (42, va_up (va_up G 0 (.inr (11, [.ref 1, .ref 8, .ref 13, .ref 15, .ref 20, .ref 25, .ref 27, .ref 29, .ref 33, .null, .null, .null, .int 0]))) 33 (.inl (2, 4, .inr (.inr (.inr (.inr (va_up (va_up (fun _ => none) 0 (some 34)) 1 (some 38)))))))) Φ
  refine J_iinc (v := 2) dX11_init_159 rfl rfl (by decide) rfl ?_
  dsimp only [setL]
  refine J_goto (tgt := 141) dX11_init_162 (by decide) ?_
  refine J_iload_n dX11_init_141 rfl ?_
  refine J_iconst (v := 4) dX11_init_142 (by decide) ?_
  refine J_icmp_ge (tgt := 165) dX11_init_143 (by decide) (fun c => absurd c (by decide)) (fun _ => ?_)
  refine J_aload_n dX11_init_146 rfl ?_
  refine J_getf dX11_init_147 fX11_74 (by show 0 < 42; decide) rfl rfl ?_
  refine J_iload_n dX11_init_150 rfl ?_
  refine J_new (bc := 19) (bs := 6983) (N := 5) dX11_init_151 nX11_72 (by show 42 < jBig; decide) ?_
  refine J_dup dX11_init_154 rfl ?_
  refine J_callIN (k := 42) (As := []) (rest := [.ref 42, .int 2, .ref 33]) (mc := mX0_init) (n := 0) (bc := 3) (bs := 60) (bc2 := 16) (bs2 := 6923) dX11_init_155 kX11_78 oX0_init rfl (Nat.le_of_ble_eq_true rfl) (Nat.le_of_ble_eq_true rfl) ?_
  refine iBin2 (G := va_up (va_up G 0 (.inr (11, [.ref 1, .ref 8, .ref 13, .ref 15, .ref 20, .ref 25, .ref 27, .ref 29, .ref 33, .null, .null, .null, .int 0]))) 33 (.inl (2, 4, .inr (.inr (.inr (.inr (va_up (va_up (fun _ => none) 0 (some 34)) 1 (some 38)))))))) (fun a h1 h2 => by simp only [va_up]; rw [if_neg (show ¬ a = 33 by omega), if_neg (show ¬ a = 0 by omega)]; exact hG a (by omega) (by omega)) ?_
  show J noRo (d + 2) 16 6923 mX11_init 158 _ [.ref 42, .int 2, .ref 33] (46, va_up (va_up G 0 (.inr (11, [.ref 1, .ref 8, .ref 13, .ref 15, .ref 20, .ref 25, .ref 27, .ref 29, .ref 33, .null, .null, .null, .int 0]))) 33 (.inl (2, 4, .inr (.inr (.inr (.inr (va_up (va_up (fun _ => none) 0 (some 34)) 1 (some 38)))))))) Φ
  refine J_aast dX11_init_158 (by show 33 < 46; decide) rfl (by show 42 < 46; decide) (hG 42 (by decide) (by decide)) rfl (vp_in_nI (n := 2) (by decide) (by decide)) ?_
  dsimp only
  rw [bx_uu]
  show J noRo (d + 2) 16 6923 mX11_init 159 _ _ (46, va_up (va_up G 0 (.inr (11, [.ref 1, .ref 8, .ref 13, .ref 15, .ref 20, .ref 25, .ref 27, .ref 29, .ref 33, .null, .null, .null, .int 0]))) 33 (.inl (2, 4, .inr (.inr (.inr (.inr (va_up (va_up (va_up (fun _ => none) 0 (some 34)) 1 (some 38)) 2 (some 42)))))))) Φ
  refine J_iinc (v := 3) dX11_init_159 rfl rfl (by decide) rfl ?_
  dsimp only [setL]
  refine J_goto (tgt := 141) dX11_init_162 (by decide) ?_
  refine J_iload_n dX11_init_141 rfl ?_
  refine J_iconst (v := 4) dX11_init_142 (by decide) ?_
  refine J_icmp_ge (tgt := 165) dX11_init_143 (by decide) (fun c => absurd c (by decide)) (fun _ => ?_)
  refine J_aload_n dX11_init_146 rfl ?_
  refine J_getf dX11_init_147 fX11_74 (by show 0 < 46; decide) rfl rfl ?_
  refine J_iload_n dX11_init_150 rfl ?_
  refine J_new (bc := 15) (bs := 6918) (N := 5) dX11_init_151 nX11_72 (by show 46 < jBig; decide) ?_
  refine J_dup dX11_init_154 rfl ?_
  refine J_callIN (k := 46) (As := []) (rest := [.ref 46, .int 3, .ref 33]) (mc := mX0_init) (n := 0) (bc := 3) (bs := 60) (bc2 := 12) (bs2 := 6858) dX11_init_155 kX11_78 oX0_init rfl (Nat.le_of_ble_eq_true rfl) (Nat.le_of_ble_eq_true rfl) ?_
  refine iBin3 (G := va_up (va_up G 0 (.inr (11, [.ref 1, .ref 8, .ref 13, .ref 15, .ref 20, .ref 25, .ref 27, .ref 29, .ref 33, .null, .null, .null, .int 0]))) 33 (.inl (2, 4, .inr (.inr (.inr (.inr (va_up (va_up (va_up (fun _ => none) 0 (some 34)) 1 (some 38)) 2 (some 42)))))))) (fun a h1 h2 => by simp only [va_up]; rw [if_neg (show ¬ a = 33 by omega), if_neg (show ¬ a = 0 by omega)]; exact hG a (by omega) (by omega)) ?_
  show J noRo (d + 2) 12 6858 mX11_init 158 _ [.ref 46, .int 3, .ref 33] (50, va_up (va_up G 0 (.inr (11, [.ref 1, .ref 8, .ref 13, .ref 15, .ref 20, .ref 25, .ref 27, .ref 29, .ref 33, .null, .null, .null, .int 0]))) 33 (.inl (2, 4, .inr (.inr (.inr (.inr (va_up (va_up (va_up (fun _ => none) 0 (some 34)) 1 (some 38)) 2 (some 42)))))))) Φ
  refine J_aast dX11_init_158 (by show 33 < 50; decide) rfl (by show 46 < 50; decide) (hG 46 (by decide) (by decide)) rfl (vp_in_nI (n := 3) (by decide) (by decide)) ?_
  dsimp only
  rw [bx_uu]
  show J noRo (d + 2) 12 6858 mX11_init 159 _ _ (50, va_up (va_up G 0 (.inr (11, [.ref 1, .ref 8, .ref 13, .ref 15, .ref 20, .ref 25, .ref 27, .ref 29, .ref 33, .null, .null, .null, .int 0]))) 33 (.inl (2, 4, .inr (.inr (.inr (.inr (va_up (va_up (va_up (va_up (fun _ => none) 0 (some 34)) 1 (some 38)) 2 (some 42)) 3 (some 46)))))))) Φ
  refine J_iinc (v := 4) dX11_init_159 rfl rfl (by decide) rfl ?_
  dsimp only [setL]
  refine J_goto (tgt := 141) dX11_init_162 (by decide) ?_
  refine J_iload_n dX11_init_141 rfl ?_
  refine J_iconst (v := 4) dX11_init_142 (by decide) ?_
  refine J_icmp_ge (tgt := 165) dX11_init_143 (by decide) (fun _ => ?_) (fun c => absurd (by decide) c)
  rw [binsF, show (va_up (va_up G 0 (.inr (11, [.ref 1, .ref 8, .ref 13, .ref 15, .ref 20, .ref 25, .ref 27, .ref 29, .ref 33, .null, .null, .null, .int 0]))) 33 (.inl (2, 4, .inr (.inr (.inr (.inr (fun i => if i < 4 then some (34 + 4 * i) else none))))))) = va_up G 0 (.inr (11, [.ref 1, .ref 8, .ref 13, .ref 15, .ref 20, .ref 25, .ref 27, .ref 29, .ref 33, .null, .null, .null, .int 0])) from cz (G := va_up G 0 (.inr (11, [.ref 1, .ref 8, .ref 13, .ref 15, .ref 20, .ref 25, .ref 27, .ref 29, .ref 33, .null, .null, .null, .int 0]))) (n := 33) (hG 33 (by decide) (by decide))]
  refine J_aload_n dX11_init_165 rfl ?_
  refine J_bipush (v := 8) dX11_init_166 (by decide) ?_
  refine Z_newI (bc := 11) (bs := 6850) (N := 8) dX11_init_168 (by decide) (by decide) (by decide) (by decide) (by decide) (hG 50 (by decide) (by decide)) ?_
  refine Z_putF dX11_init_170 qX11_79 rfl (by decide) (Nat.le_of_ble_eq_true rfl) (fun _ => rfl) (fun _ => rfl) (fs2 := [.ref 1, .ref 8, .ref 13, .ref 15, .ref 20, .ref 25, .ref 27, .ref 29, .ref 33, .ref 50, .null, .null, .int 0]) rfl (pc2 := 173) rfl ?_
  refine J_aload_n dX11_init_173 rfl ?_
  refine J_new (bc := 10) (bs := 6846) (N := 4) dX11_init_174 nX11_83 (by show 51 < jBig; decide) ?_
  refine J_dup dX11_init_177 rfl ?_
  refine J_callIN (k := 51) (As := []) (rest := [.ref 51, .ref 0]) (mc := mX4_init) (n := 0) (bc := 3) (bs := 6000) (bc2 := 7) (bs2 := 846) dX11_init_178 kX11_85 oX4_init rfl (Nat.le_of_ble_eq_true rfl) (Nat.le_of_ble_eq_true rfl) ?_
  refine iNights (G := va_up G 0 (.inr (11, [.ref 1, .ref 8, .ref 13, .ref 15, .ref 20, .ref 25, .ref 27, .ref 29, .ref 33, .ref 50, .null, .null, .int 0]))) (fun a h1 h2 => by simp only [va_up]; rw [if_neg (show ¬ a = 0 by omega)]; exact hG a (by omega) (by omega)) ?_
  show J noRo (d + 2) 7 846 mX11_init 181 _ [.ref 51, .ref 0] (55, va_up G 0 (.inr (11, [.ref 1, .ref 8, .ref 13, .ref 15, .ref 20, .ref 25, .ref 27, .ref 29, .ref 33, .ref 50, .null, .null, .int 0]))) Φ
  refine Z_putF dX11_init_181 qX11_86 rfl (by decide) (Nat.le_of_ble_eq_true rfl) (fun _ => rfl) (fun _ => rfl) (fs2 := [.ref 1, .ref 8, .ref 13, .ref 15, .ref 20, .ref 25, .ref 27, .ref 29, .ref 33, .ref 50, .ref 51, .null, .int 0]) rfl (pc2 := 184) rfl ?_
  refine J_aload_n dX11_init_184 rfl ?_
  refine J_new (bc := 6) (bs := 839) (N := 7) dX11_init_185 nX11_90 (by show 55 < jBig; decide) ?_
  refine J_dup dX11_init_188 rfl ?_
  refine J_callIN (k := 55) (As := []) (rest := [.ref 55, .ref 0]) (mc := mX10_init) (n := 0) (bc := 6) (bs := 839) (bc2 := 0) (bs2 := 0) dX11_init_189 kX11_92 oX10_init rfl (Nat.le_of_ble_eq_true rfl) (Nat.le_of_ble_eq_true rfl) ?_
  refine iWorks (G := va_up G 0 (.inr (11, [.ref 1, .ref 8, .ref 13, .ref 15, .ref 20, .ref 25, .ref 27, .ref 29, .ref 33, .ref 50, .ref 51, .null, .int 0]))) (fun a h1 h2 => by simp only [va_up]; rw [if_neg (show ¬ a = 0 by omega)]; exact hG a (by omega) (by omega)) ?_
  show J noRo (d + 2) 0 0 mX11_init 192 _ [.ref 55, .ref 0] (62, va_up G 0 (.inr (11, [.ref 1, .ref 8, .ref 13, .ref 15, .ref 20, .ref 25, .ref 27, .ref 29, .ref 33, .ref 50, .ref 51, .null, .int 0]))) Φ
  refine Z_putF dX11_init_192 qX11_93 rfl (by decide) (Nat.le_of_ble_eq_true rfl) (fun _ => rfl) (fun _ => rfl) (fs2 := [.ref 1, .ref 8, .ref 13, .ref 15, .ref 20, .ref 25, .ref 27, .ref 29, .ref 33, .ref 50, .ref 51, .ref 55, .int 0]) rfl (pc2 := 195) rfl ?_
  refine J_aload_n dX11_init_195 rfl ?_
  refine J_iconst (v := 0) dX11_init_196 (by decide) ?_
  refine Z_put dX11_init_197 pX11_97 (by decide) (Nat.le_of_ble_eq_true rfl) (fun _ => rfl) (fun _ => rfl) (fs2 := [.ref 1, .ref 8, .ref 13, .ref 15, .ref 20, .ref 25, .ref 27, .ref 29, .ref 33, .ref 50, .ref 51, .ref 55, .int 0]) rfl (pc2 := 200) rfl ?_
  exact Z_ret dX11_init_200 rfl (hG 0 (by decide) (by decide)) h
