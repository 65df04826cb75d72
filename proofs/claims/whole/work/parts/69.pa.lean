set_option maxRecDepth 100000 in
set_option maxHeartbeats 1000000 in
theorem tX5_readRules {d : Nat} {M : Mem} {Φ : Option Int32 → Mem → Prop} {n : Nat} {T : Nat → Nat} (hLet : LetOK) (hn : M.1 13 1 = nI n) (hnb : n ≤ 1000) (hT : ∀ i, M.1 14 i = nI (T i) ∧ T i < 256) (h18 : ∀ i, M.1 18 i = 0 ∨ M.1 18 i = 1) (h1 : (rlP T n 12 (lexT T n 0, ([] : List Nat), 0) [] []).1 = none → ∀ N, PN M N n (rlP T n 12 (lexT T n 0, ([] : List Nat), 0) [] []).2.1 (rlP T n 12 (lexT T n 0, ([] : List Nat), 0) [] []).2.2.1 (rlP T n 12 (lexT T n 0, ([] : List Nat), 0) [] []).2.2.2 → Φ (some 1) N) (h0 : ∀ v, (rlP T n 12 (lexT T n 0, ([] : List Nat), 0) [] []).1 = some v → ∀ N, PF6 M N v → Φ (some 0) N) : JM noRo (d + 100) mX5_readRules 0 [some (.ref 25)] [] M Φ := by
  refine J_aload_n dX5_readRules_0 rfl ?_
  refine J_iconst (v := 0) dX5_readRules_1 (by decide) ?_
  refine M_putI dX5_readRules_2 pX5_23 rfl rfl (by decide) ?_
  refine J_aload_n dX5_readRules_5 rfl ?_
  refine J_iconst (v := -1) dX5_readRules_6 (by decide) ?_
  refine M_putI dX5_readRules_7 pX5_19 rfl rfl (by decide) ?_
  refine J_aload_n dX5_readRules_10 rfl ?_
  refine J_iconst (v := 0) dX5_readRules_11 (by decide) ?_
  refine M_putI dX5_readRules_12 pX5_26 rfl rfl (by decide) ?_
  refine J_aload_n dX5_readRules_15 rfl ?_
  refine M_getR dX5_readRules_16 fX5_15 rfl rfl (by decide) ?_
  refine M_callV0 (mc := mX7_clear) dX5_readRules_19 kX5_29 oX7_clear (Nat.le_of_ble_eq_true rfl) (Nat.le_of_ble_eq_true rfl) rfl (by decide) rfl ?_
  refine M_more (d := 0) (Nat.zero_le _) (tX7_clear ?_)
  refine J_aload_n dX5_readRules_22 rfl ?_
  refine M_getR dX5_readRules_23 fX5_9 rfl rfl (by decide) ?_
  refine M_callV0 (mc := mX9_begin) dX5_readRules_26 kX5_34 oX9_begin (Nat.le_of_ble_eq_true rfl) (Nat.le_of_ble_eq_true rfl) rfl (by decide) rfl ?_
  refine M_more (d := 10) (by omega) (tX9_begin (d := 0) (n := n) (T := T) hLet (by rw [rd2 (by decide), rd2 (by decide), rd2 (by decide), rd2 (by decide), rd2 (by decide)]; exact hn) hnb (by rw [rd2 (by decide), rd2 (by decide), rd2 (by decide), rd2 (by decide), rd2 (by decide)]; exact hT) (fun g hg => ?_))
  refine J_iconst (v := 0) dX5_readRules_29 (by decide) ?_
  refine J_istore_n dX5_readRules_30 (by decide) rfl ?_
  dsimp only [setL]
  refine tX5_rr_l (M0 := M) hLet hn hnb hT 12 (lexT T n 0, ([] : List Nat), 0) [] [] _ rfl ⟨fun a ha => ?_, ?_, ?_, ?_, fun i c hi => ?_, ?_, ?_, ?_, ?_, ?_, ⟨?_, rfl⟩, fun i c hi => ?_, fun i c hi => ?_, ?_, ?_⟩ h1 h0
  · obtain ⟨q1, q2, q3, q4, q5, q6, q7⟩ := PL6_ne ha
    rw [rdb q6, rd2 q1, rd2 q1, rd2 q5, rd2 q5, rd2 q5]
  · rw [rda]; exact hg
  · exact (lex_W (fun i => (hT i).2) (Nat.zero_le _)).1
  · rw [rdb (by decide), rd3 (by decide), rd1]; rfl
  · simp at hi
  · rw [rdb (by decide), rd2 (by decide), rd2 (by decide), rd1]; rfl
  · exact Nat.zero_le _
  · rw [rdb (by decide), rd2 (by decide), rd2 (by decide), rd3 (by decide), rd3 (by decide), rd1]
  · rw [rdb (by decide), rd2 (by decide), rd2 (by decide), rd3 (by decide), rd1]
  · exact Nat.zero_le _
  · rw [rdb (by decide), rd1]; rfl
  · simp at hi
  · simp at hi
  · rw [rdb (by decide), rd2 (by decide), rd2 (by decide), rd2 (by decide), rd2 (by decide), rd2 (by decide)]
  · rw [rdb (by decide), rd2 (by decide), rd2 (by decide), rd2 (by decide), rd2 (by decide), rd2 (by decide)]; exact h18
set_option maxRecDepth 100000 in
set_option maxHeartbeats 1000000 in
theorem tX7_cp_l {d : Nat} {M : Mem} {Φ : Option Int32 → Mem → Prop} (h18 : ∀ i, M.1 18 i = 0 ∨ M.1 18 i = 1) (h : JM noRo d mX7_copy 57 [some (.ref 20), some (.ref 15)] [] (wa (wa (wa M 21 (va_cpy (M.1 16) (M.1 21) 0 0 1000)) 22 (va_cpy (M.1 17) (M.1 22) 0 0 13)) 23 (cpyF (M.1 18) (M.1 23) 12)) Φ) : ∀ l k, k + l = 12 → JM noRo d mX7_copy 33 [some (.ref 20), some (.ref 15), some (.int (nI k))] [] (wa (wa (wa M 21 (va_cpy (M.1 16) (M.1 21) 0 0 1000)) 22 (va_cpy (M.1 17) (M.1 22) 0 0 13)) 23 (cpyF (M.1 18) (M.1 23) k)) Φ := by
  intro l
  induction l with
  | zero =>
    intro k hk
    refine J_iload_n dX7_copy_33 rfl ?_
    refine J_bipush (v := 12) dX7_copy_34 (by decide) ?_
    refine J_icmp_ge (tgt := 57) dX7_copy_36 (by decide) (fun c1 => ?_) (fun c1 => ?_)
    · -- to 57
      obtain rfl : k = 12 := by omega
      refine J_dropN 2 ?_
      exact h
    · -- on 39
      exact absurd (nI_le (a := 12) (by omega) (by omega)) c1
  | succ l ih =>
    intro k hk
    refine J_iload_n dX7_copy_33 rfl ?_
    refine J_bipush (v := 12) dX7_copy_34 (by decide) ?_
    refine J_icmp_ge (tgt := 57) dX7_copy_36 (by decide) (fun c1 => ?_) (fun c1 => ?_)
    · -- to 57
      exact absurd c1 (nI_ge (b := 12) (by omega) (by decide))
    · -- on 39
      refine J_aload_n dX7_copy_39 rfl ?_
      refine M_getR dX7_copy_40 fX7_18 rfl rfl (by decide) ?_
      refine J_iload_n dX7_copy_43 rfl ?_
      refine J_aload_n dX7_copy_44 rfl ?_
      refine M_getR dX7_copy_45 fX7_18 rfl rfl (by decide) ?_
      refine J_iload_n dX7_copy_48 rfl ?_
      refine M_zaldE dX7_copy_49 rfl (by decide) (by first | rfl | assumption) (by omega) ?_
      rw [rdb (by decide), rdb (by decide), rdb (by decide)]
      refine M_zastE dX7_copy_50 rfl (by decide) (by first | rfl | assumption) (by omega) (h18 k) ?_
      rw [wa_wr, cpyF_s]
      refine J_iinc (v := nI (k + 1)) dX7_copy_51 rfl (nI_1 k) (by decide) rfl ?_
      dsimp only [setL]
      refine J_goto (tgt := 33) dX7_copy_54 (by decide) ?_
      exact ih (k + 1) (by omega)
set_option maxRecDepth 100000 in
set_option maxHeartbeats 1000000 in
theorem tX7_cp_e {d : Nat} {M : Mem} {Φ : Option Int32 → Mem → Prop} (h : Φ none (wr (wr (wa (wa (wa M 21 (va_cpy (M.1 16) (M.1 21) 0 0 1000)) 22 (va_cpy (M.1 17) (M.1 22) 0 0 13)) 23 (cpyF (M.1 18) (M.1 23) 12)) 20 4 (M.1 15 4)) 20 5 (M.1 15 5))) : JM noRo d mX7_copy 57 [some (.ref 20), some (.ref 15)] [] (wa (wa (wa M 21 (va_cpy (M.1 16) (M.1 21) 0 0 1000)) 22 (va_cpy (M.1 17) (M.1 22) 0 0 13)) 23 (cpyF (M.1 18) (M.1 23) 12)) Φ := by
  refine J_aload_n dX7_copy_57 rfl ?_
  refine J_aload_n dX7_copy_58 rfl ?_
  refine M_getI dX7_copy_59 fX7_29 rfl rfl (by decide) ?_
  rw [rdb (by decide), rdb (by decide), rdb (by decide)]
  refine M_putI dX7_copy_62 pX7_29 rfl rfl (by decide) ?_
  refine J_aload_n dX7_copy_65 rfl ?_
  refine J_aload_n dX7_copy_66 rfl ?_
  refine M_getI dX7_copy_67 fX7_25 rfl rfl (by decide) ?_
  rw [rd2 (by decide), rdb (by decide), rdb (by decide), rdb (by decide)]
  refine M_putI dX7_copy_70 pX7_25 rfl rfl (by decide) ?_
  refine M_vret dX7_copy_73 rfl ?_
  exact h
set_option maxRecDepth 100000 in
set_option maxHeartbeats 1000000 in
theorem tX7_copy {d : Nat} {M : Mem} {Φ : Option Int32 → Mem → Prop}  (h18 : ∀ i, M.1 18 i = 0 ∨ M.1 18 i = 1) (h : Φ none (wr (wr (wa (wa (wa M 21 (va_cpy (M.1 16) (M.1 21) 0 0 1000)) 22 (va_cpy (M.1 17) (M.1 22) 0 0 13)) 23 (cpyF (M.1 18) (M.1 23) 12)) 20 4 (M.1 15 4)) 20 5 (M.1 15 5))) : JM noRo (d + 1) mX7_copy 0 [some (.ref 20), some (.ref 15)] [] M Φ := by
  refine J_aload_n dX7_copy_0 rfl ?_
  refine M_getR dX7_copy_1 fX7_9 rfl rfl (by decide) ?_
  refine J_iconst (v := 0) dX7_copy_4 (by decide) ?_
  refine J_aload_n dX7_copy_5 rfl ?_
  refine M_getR dX7_copy_6 fX7_9 rfl rfl (by decide) ?_
  refine J_iconst (v := 0) dX7_copy_9 (by decide) ?_
  refine J_sipush (v := 1000) dX7_copy_10 (by decide) ?_
  refine M_copy dX7_copy_13 kX7_32 cp_nat cp_sta cp_ini (Nat.le_of_ble_eq_true rfl) rfl (by decide) rfl (by decide) (by decide) (by decide) (by decide) (by decide) (by decide) ?_
  rw [show (0 : Int32).toNatClampNeg = 0 from rfl, show (1000 : Int32).toNatClampNeg = 1000 from rfl]
  refine J_aload_n dX7_copy_16 rfl ?_
  refine M_getR dX7_copy_17 fX7_15 rfl rfl (by decide) ?_
  refine J_iconst (v := 0) dX7_copy_20 (by decide) ?_
  refine J_aload_n dX7_copy_21 rfl ?_
  refine M_getR dX7_copy_22 fX7_15 rfl rfl (by decide) ?_
  refine J_iconst (v := 0) dX7_copy_25 (by decide) ?_
  refine J_bipush (v := 13) dX7_copy_26 (by decide) ?_
  refine M_copy dX7_copy_28 kX7_32 cp_nat cp_sta cp_ini (Nat.le_of_ble_eq_true rfl) rfl (by decide) rfl (by decide) (by decide) (by decide) (by decide) (by decide) (by decide) ?_
  rw [show (0 : Int32).toNatClampNeg = 0 from rfl, show (13 : Int32).toNatClampNeg = 13 from rfl, rdb (by decide), rdb (by decide)]
  refine J_iconst (v := 0) dX7_copy_31 (by decide) ?_
  refine J_istore_n dX7_copy_32 (by decide) rfl ?_
  dsimp only [setL]
  have q := tX7_cp_l (d := d + 1) h18 (tX7_cp_e h) 12 0 (by omega)
  rw [cpyF_0] at q
  rw [show (wa (wa (wa M 21 (va_cpy (M.1 16) (M.1 21) 0 0 1000)) 22 (va_cpy (M.1 17) (M.1 22) 0 0 13)) 23 (M.1 23)) = wa (wa M 21 (va_cpy (M.1 16) (M.1 21) 0 0 1000)) 22 (va_cpy (M.1 17) (M.1 22) 0 0 13) by
    have e : (wa (wa M 21 (va_cpy (M.1 16) (M.1 21) 0 0 1000)) 22 (va_cpy (M.1 17) (M.1 22) 0 0 13)).1 23 = M.1 23 := by rw [rdb (by decide), rdb (by decide)]
    rw [← e, wa_self]] at q
  exact q
set_option maxRecDepth 100000 in
set_option maxHeartbeats 1000000 in
theorem tY_rules {d : Nat} {M : Mem} {Φ : Option Int32 → Mem → Prop} {n : Nat} {T : Nat → Nat} (hLet : LetOK) (hn : M.1 13 1 = nI n) (hnb : n ≤ 1000) (hT : ∀ i, M.1 14 i = nI (T i) ∧ T i < 256) (h18 : ∀ i, M.1 18 i = 0 ∨ M.1 18 i = 1) (h1 : (rlP T n 12 (lexT T n 0, ([] : List Nat), 0) [] []).1 = none → ∀ N, PN M N n (rlP T n 12 (lexT T n 0, ([] : List Nat), 0) [] []).2.1 (rlP T n 12 (lexT T n 0, ([] : List Nat), 0) [] []).2.2.1 (rlP T n 12 (lexT T n 0, ([] : List Nat), 0) [] []).2.2.2 → Φ (some ((wr (wr (wa (wa (wa (wr (wr N 13 1 0) 29 8 0) 21 (va_cpy ((wr (wr N 13 1 0) 29 8 0).1 16) ((wr (wr N 13 1 0) 29 8 0).1 21) 0 0 1000)) 22 (va_cpy ((wr (wr N 13 1 0) 29 8 0).1 17) ((wr (wr N 13 1 0) 29 8 0).1 22) 0 0 13)) 23 (cpyF ((wr (wr N 13 1 0) 29 8 0).1 18) ((wr (wr N 13 1 0) 29 8 0).1 23) 12)) 20 4 ((wr (wr N 13 1 0) 29 8 0).1 15 4)) 20 5 ((wr (wr N 13 1 0) 29 8 0).1 15 5)).1 20 5)) (wr (wr (wa (wa (wa (wr (wr N 13 1 0) 29 8 0) 21 (va_cpy ((wr (wr N 13 1 0) 29 8 0).1 16) ((wr (wr N 13 1 0) 29 8 0).1 21) 0 0 1000)) 22 (va_cpy ((wr (wr N 13 1 0) 29 8 0).1 17) ((wr (wr N 13 1 0) 29 8 0).1 22) 0 0 13)) 23 (cpyF ((wr (wr N 13 1 0) 29 8 0).1 18) ((wr (wr N 13 1 0) 29 8 0).1 23) 12)) 20 4 ((wr (wr N 13 1 0) 29 8 0).1 15 4)) 20 5 ((wr (wr N 13 1 0) 29 8 0).1 15 5))) (h0 : ∀ v, (rlP T n 12 (lexT T n 0, ([] : List Nat), 0) [] []).1 = some v → ∀ N, PF6 M N v → Φ (some (-1)) (wr N 13 1 0)) : JM noRo (d + 101) mX11_rules 0 [some (.ref 0)] [] M Φ := by
  refine J_aload_n dX11_rules_0 rfl ?_
  refine M_getR dX11_rules_1 fX11_50 rfl rfl (by decide) ?_
  refine M_callV0 (mc := mX5_readRules) dX11_rules_4 kX11_150 oX5_readRules (Nat.le_of_ble_eq_true rfl) (Nat.le_of_ble_eq_true rfl) rfl (by decide) rfl ?_
  refine tX5_readRules (d := d) hLet hn hnb hT h18 (fun e N hN => ?_) (fun v e N hN => ?_)
  · -- true
    refine J_istore_n dX11_rules_7 (by decide) rfl ?_
    dsimp only [setL]
    refine J_aload_n dX11_rules_8 rfl ?_
    refine M_getR dX11_rules_9 fX11_26 rfl rfl (by decide) ?_
    refine J_iconst (v := 0) dX11_rules_12 (by decide) ?_
    refine M_callV1 (mc := mX8_cut) dX11_rules_13 kX11_147 oX8_cut (Nat.le_of_ble_eq_true rfl) (Nat.le_of_ble_eq_true rfl) rfl (by decide) rfl ?_
    refine M_more (d := 0) (Nat.zero_le _) (tX8_cut ?_)
    refine J_iload_n dX11_rules_16 rfl ?_
    refine J_if_ne (tgt := 22) dX11_rules_17 (by decide) (fun c3 => ?_) (fun c3 => ?_)
    · -- to 22
      refine J_aload_n dX11_rules_22 rfl ?_
      refine M_getR dX11_rules_23 fX11_68 rfl rfl (by decide) ?_
      refine M_callV0 (mc := mX6_forget) dX11_rules_26 kX11_109 oX6_forget (Nat.le_of_ble_eq_true rfl) (Nat.le_of_ble_eq_true rfl) rfl (by decide) rfl ?_
      refine M_more (d := 0) (Nat.zero_le _) (tX6_forget ?_)
      refine J_aload_n dX11_rules_29 rfl ?_
      refine M_getR dX11_rules_30 fX11_37 rfl rfl (by decide) ?_
      refine J_aload_n dX11_rules_33 rfl ?_
      refine M_getR dX11_rules_34 fX11_33 rfl rfl (by decide) ?_
      refine M_callV1 (mc := mX7_copy) dX11_rules_37 kX11_154 oX7_copy (Nat.le_of_ble_eq_true rfl) (Nat.le_of_ble_eq_true rfl) rfl (by decide) rfl ?_
      refine M_more (d := 1) (by omega) (tX7_copy (d := 0) (by rw [rd2 (by decide), rd2 (by decide)]; exact hN.2.2.2.2.2.2.2.2.2.2.2.2.2.2) ?_)
      refine J_aload_n dX11_rules_40 rfl ?_
      refine M_getR dX11_rules_41 fX11_37 rfl rfl (by decide) ?_
      refine M_callV0 (mc := mX7_count) dX11_rules_44 kX11_158 oX7_count (Nat.le_of_ble_eq_true rfl) (Nat.le_of_ble_eq_true rfl) rfl (by decide) rfl ?_
      refine M_more (d := 0) (Nat.zero_le _) (tX7_count ?_)
      refine M_iret dX11_rules_47 rfl rfl ?_
      first
      | exact h0 v e N hN
      | exact h1 e N hN
    · -- on 20
      exact absurd c3 (by decide)
  · -- false
    refine J_istore_n dX11_rules_7 (by decide) rfl ?_
    dsimp only [setL]
    refine J_aload_n dX11_rules_8 rfl ?_
    refine M_getR dX11_rules_9 fX11_26 rfl rfl (by decide) ?_
    refine J_iconst (v := 0) dX11_rules_12 (by decide) ?_
    refine M_callV1 (mc := mX8_cut) dX11_rules_13 kX11_147 oX8_cut (Nat.le_of_ble_eq_true rfl) (Nat.le_of_ble_eq_true rfl) rfl (by decide) rfl ?_
    refine M_more (d := 0) (Nat.zero_le _) (tX8_cut ?_)
    refine J_iload_n dX11_rules_16 rfl ?_
    refine J_if_ne (tgt := 22) dX11_rules_17 (by decide) (fun c8 => ?_) (fun c8 => ?_)
    · -- to 22
      exact absurd c8 (by decide)
    · -- on 20
      refine J_iconst (v := -1) dX11_rules_20 (by decide) ?_
      refine M_iret dX11_rules_21 rfl rfl ?_
      first
      | exact h0 v e N hN
      | exact h1 e N hN
