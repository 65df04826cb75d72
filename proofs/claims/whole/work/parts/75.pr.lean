theorem dpc_le : ∀ ws : List Nat, dpc ws ≤ ws.length
  | [] => Nat.le_refl _
  | c :: r => by
    have := dpc_le r
    rw [dpc, List.length_cons]
    split <;> omega
set_option maxRecDepth 100000 in
set_option maxHeartbeats 1000000 in
theorem tM_op_A {d : Nat} {Φ : Option Int32 → Mem → Prop} {M0 N : Mem} {n : Nat} {x : PSt} {ws : List Nat} {b : Int32} (hc : PQ M0 N n x ws) (hd : 8 ≤ dpc ws) (h : ∀ N2, QF M0 N2 (if x.1.1 = 1 then 1 else 2, x.1.2.2.1) → Φ (some 0) N2) : JM noRo (d + 3) mX12_operand 0 [some (.ref 62), some (.int 0), some (.int b)] [] N Φ := by
  have hdl := dpc_le ws
  have hl := hc.2.2.2.2.2.2.2.2.2.2.2.2.2.2.1
  refine tM_op_is hc (fun hop => ?_) (fun hop => ?_)
  ·
    refine J_iload_n dX12_operand_77 rfl ?_
    refine J_if_ne (tgt := 98) dX12_operand_78 (by decide) (fun c1 => ?_) (fun c1 => ?_)
    · -- to 98
      exact absurd c1 (by decide)
    · -- on 81
      refine J_aload_n dX12_operand_81 rfl ?_
      refine M_getI dX12_operand_82 fX12_226 rfl rfl (by decide) ?_
      rw [hc.2.2.2.2.2.2.2.2.2.2.1]
      refine J_bipush (v := 8) dX12_operand_85 (by decide) ?_
      refine J_icmp_lt (tgt := 98) dX12_operand_87 (by decide) (fun c2 => ?_) (fun c2 => ?_)
      · -- to 98
        exact absurd c2 (nI_nlt (b := 8) hd (by omega))
      · -- on 90
        refine J_aload_n dX12_operand_90 rfl ?_
        refine J_iconst (v := 2) dX12_operand_91 (by decide) ?_
        refine M_callV1 (mc := mX12_wrong) dX12_operand_92 kX12_258 oX12_wrong (Nat.le_of_ble_eq_true rfl) (Nat.le_of_ble_eq_true rfl) rfl (by decide) rfl ?_
        refine M_more (d := 0) (Nat.zero_le _) (tX12_wrong (f := 2) hc (fun N2 hN => ?_))
        refine J_goto (tgt := 260) dX12_operand_95 (by decide) ?_
        refine J_iload_n dX12_operand_260 rfl ?_
        refine M_iret dX12_operand_261 rfl rfl ?_
        exact h N2 hN
  ·
    refine J_iload_n dX12_operand_77 rfl ?_
    refine J_if_ne (tgt := 98) dX12_operand_78 (by decide) (fun c1 => ?_) (fun c1 => ?_)
    · -- to 98
      exact absurd c1 (by decide)
    · -- on 81
      refine J_aload_n dX12_operand_81 rfl ?_
      refine M_getI dX12_operand_82 fX12_226 rfl rfl (by decide) ?_
      rw [hc.2.2.2.2.2.2.2.2.2.2.1]
      refine J_bipush (v := 8) dX12_operand_85 (by decide) ?_
      refine J_icmp_lt (tgt := 98) dX12_operand_87 (by decide) (fun c2 => ?_) (fun c2 => ?_)
      · -- to 98
        exact absurd c2 (nI_nlt (b := 8) hd (by omega))
      · -- on 90
        refine J_aload_n dX12_operand_90 rfl ?_
        refine J_iconst (v := 2) dX12_operand_91 (by decide) ?_
        refine M_callV1 (mc := mX12_wrong) dX12_operand_92 kX12_258 oX12_wrong (Nat.le_of_ble_eq_true rfl) (Nat.le_of_ble_eq_true rfl) rfl (by decide) rfl ?_
        refine M_more (d := 0) (Nat.zero_le _) (tX12_wrong (f := 2) hc (fun N2 hN => ?_))
        refine J_goto (tgt := 260) dX12_operand_95 (by decide) ?_
        refine J_iload_n dX12_operand_260 rfl ?_
        refine M_iret dX12_operand_261 rfl rfl ?_
        exact h N2 hN

set_option maxRecDepth 100000 in
set_option maxHeartbeats 1000000 in
theorem tM_op_C {d : Nat} {Φ : Option Int32 → Mem → Prop} {M0 N : Mem} {n : Nat} {T : Nat → Nat} {x : PSt} {ws : List Nat} {b : Int32} {st : Nat} (hnb : n ≤ 1000) (hn : M0.1 62 30 = nI n) (hT : ∀ i, M0.1 81 i = nI (T i) ∧ T i < 256) (hc : PQ M0 N n x ws) (hK4 : x.1.1 = 40) (hd : st = 1 ∨ (st = 0 ∧ dpc ws < 8)) (hlen : ws.length < 60) (h : ∀ N2, PQ M0 N2 n (advP T n x) (48 :: ws) → Φ (some 0) N2) : JM noRo (d + 3) mX12_operand 0 [some (.ref 62), some (.int (nI st)), some (.int b)] [] N Φ := by
  have h256 := hc.2.2.2.1.2.2.2.2.2.2.1
  have h11 := hc.2.2.2.2.2.2.2.2.2.2.2.2.2.2.2
  have hdl := dpc_le ws
  have hl := hc.2.2.2.2.2.2.2.2.2.2.2.2.2.2.1
  have hK : ¬ (x.1.1 = 2 ∨ x.1.1 = 3) := by omega
  rcases hd with hd | hd
  · subst hd
    refine tM_op_is hc (fun hop => absurd hop hK) (fun hop => ?_)
    refine J_iload_n dX12_operand_77 rfl ?_
    refine J_if_ne (tgt := 98) dX12_operand_78 (by decide) (fun c1 => ?_) (fun c1 => ?_)
    · -- to 98
      refine J_iload_n dX12_operand_98 rfl ?_
      refine J_if_eq (tgt := 208) dX12_operand_99 (by decide) (fun c2 => ?_) (fun c2 => ?_)
      · -- to 208
        refine J_aload_n dX12_operand_208 rfl ?_
        refine M_getI dX12_operand_209 fX12_177 rfl rfl (by decide) ?_
        rw [hc.2.2.1.2.1]
        refine J_bipush (v := 40) dX12_operand_212 (by decide) ?_
        refine J_icmp_ne (tgt := 229) dX12_operand_214 (by decide) (fun c3 => ?_) (fun c3 => ?_)
        · -- to 229
          exact absurd ((srt_s h256 (by decide) (by decide)).mpr hK4) c3
        · -- on 217
          refine J_aload_n dX12_operand_217 rfl ?_
          refine J_bipush (v := 48) dX12_operand_218 (by decide) ?_
          refine M_callV1 (mc := mX12_hold) dX12_operand_220 kX12_270 oX12_hold (Nat.le_of_ble_eq_true rfl) (Nat.le_of_ble_eq_true rfl) rfl (by decide) rfl ?_
          refine M_more (d := 0) (Nat.zero_le _) (tX12_hold (c := 48) hc (by unfold opW; decide) hlen (by rw [nop, if_pos rfl]; exact h11) (fun N2 hc2 => ?_))
          refine J_aload_n dX12_operand_223 rfl ?_
          refine M_callV0 (mc := mX12_next) dX12_operand_224 kX12_267 oX12_next (Nat.le_of_ble_eq_true rfl) (Nat.le_of_ble_eq_true rfl) rfl (by decide) rfl ?_
          refine M_more (d := 2) (by omega) (tX12_adv (d := 0) (T := T) hnb hn hT hc2 (by omega) (by omega) (fun N3 hc3 => ?_))
          refine J_iconst (v := 0) dX12_operand_227 (by decide) ?_
          refine M_iret dX12_operand_228 rfl rfl ?_
          exact h N3 hc3
      · -- on 102
        exact absurd c2 (by decide)
    · -- on 81
      exact absurd c1 (by decide)
  · obtain ⟨rfl, hd⟩ := hd
    refine tM_op_is hc (fun hop => absurd hop hK) (fun hop => ?_)
    refine J_iload_n dX12_operand_77 rfl ?_
    refine J_if_ne (tgt := 98) dX12_operand_78 (by decide) (fun c1 => ?_) (fun c1 => ?_)
    · -- to 98
      exact absurd c1 (by decide)
    · -- on 81
      refine J_aload_n dX12_operand_81 rfl ?_
      refine M_getI dX12_operand_82 fX12_226 rfl rfl (by decide) ?_
      rw [hc.2.2.2.2.2.2.2.2.2.2.1]
      refine J_bipush (v := 8) dX12_operand_85 (by decide) ?_
      refine J_icmp_lt (tgt := 98) dX12_operand_87 (by decide) (fun c2 => ?_) (fun c2 => ?_)
      · -- to 98
        refine J_iload_n dX12_operand_98 rfl ?_
        refine J_if_eq (tgt := 208) dX12_operand_99 (by decide) (fun c3 => ?_) (fun c3 => ?_)
        · -- to 208
          refine J_aload_n dX12_operand_208 rfl ?_
          refine M_getI dX12_operand_209 fX12_177 rfl rfl (by decide) ?_
          rw [hc.2.2.1.2.1]
          refine J_bipush (v := 40) dX12_operand_212 (by decide) ?_
          refine J_icmp_ne (tgt := 229) dX12_operand_214 (by decide) (fun c4 => ?_) (fun c4 => ?_)
          · -- to 229
            exact absurd ((srt_s h256 (by decide) (by decide)).mpr hK4) c4
          · -- on 217
            refine J_aload_n dX12_operand_217 rfl ?_
            refine J_bipush (v := 48) dX12_operand_218 (by decide) ?_
            refine M_callV1 (mc := mX12_hold) dX12_operand_220 kX12_270 oX12_hold (Nat.le_of_ble_eq_true rfl) (Nat.le_of_ble_eq_true rfl) rfl (by decide) rfl ?_
            refine M_more (d := 0) (Nat.zero_le _) (tX12_hold (c := 48) hc (by unfold opW; decide) hlen (by rw [nop, if_pos rfl]; exact h11) (fun N2 hc2 => ?_))
            refine J_aload_n dX12_operand_223 rfl ?_
            refine M_callV0 (mc := mX12_next) dX12_operand_224 kX12_267 oX12_next (Nat.le_of_ble_eq_true rfl) (Nat.le_of_ble_eq_true rfl) rfl (by decide) rfl ?_
            refine M_more (d := 2) (by omega) (tX12_adv (d := 0) (T := T) hnb hn hT hc2 (by omega) (by omega) (fun N3 hc3 => ?_))
            refine J_iconst (v := 0) dX12_operand_227 (by decide) ?_
            refine M_iret dX12_operand_228 rfl rfl ?_
            exact h N3 hc3
        · -- on 102
          exact absurd c3 (by decide)
      · -- on 90
        exact absurd (nI_lt (b := 8) hd (by decide)) c2

set_option maxRecDepth 100000 in
set_option maxHeartbeats 1000000 in
theorem tM_op_E {d : Nat} {Φ : Option Int32 → Mem → Prop} {M0 N : Mem} {n : Nat} {x : PSt} {ws : List Nat} {b : Int32} {st : Nat} (hc : PQ M0 N n x ws) (hK : ¬ (x.1.1 = 2 ∨ x.1.1 = 3)) (hK4 : ¬ x.1.1 = 40) (hK8 : st = 0 → ¬ x.1.1 = 18) (hd : st = 1 ∨ (st = 0 ∧ dpc ws < 8)) (h : ∀ N2, QF M0 N2 (if x.1.1 = 1 then 1 else 2, x.1.2.2.1) → Φ (some (nI st)) N2) : JM noRo (d + 3) mX12_operand 0 [some (.ref 62), some (.int (nI st)), some (.int b)] [] N Φ := by
  have h256 := hc.2.2.2.1.2.2.2.2.2.2.1
  have h11 := hc.2.2.2.2.2.2.2.2.2.2.2.2.2.2.2
  have hdl := dpc_le ws
  have hl := hc.2.2.2.2.2.2.2.2.2.2.2.2.2.2.1
  rcases hd with hd | hd
  · subst hd
    refine tM_op_is hc (fun hop => absurd hop hK) (fun hop => ?_)
    refine J_iload_n dX12_operand_77 rfl ?_
    refine J_if_ne (tgt := 98) dX12_operand_78 (by decide) (fun c1 => ?_) (fun c1 => ?_)
    · -- to 98
      refine J_iload_n dX12_operand_98 rfl ?_
      refine J_if_eq (tgt := 208) dX12_operand_99 (by decide) (fun c2 => ?_) (fun c2 => ?_)
      · -- to 208
        refine J_aload_n dX12_operand_208 rfl ?_
        refine M_getI dX12_operand_209 fX12_177 rfl rfl (by decide) ?_
        rw [hc.2.2.1.2.1]
        refine J_bipush (v := 40) dX12_operand_212 (by decide) ?_
        refine J_icmp_ne (tgt := 229) dX12_operand_214 (by decide) (fun c3 => ?_) (fun c3 => ?_)
        · -- to 229
          refine J_iload_n dX12_operand_229 rfl ?_
          refine J_if_ne (tgt := 255) dX12_operand_230 (by decide) (fun c4 => ?_) (fun c4 => ?_)
          · -- to 255
            refine J_aload_n dX12_operand_255 rfl ?_
            refine J_iconst (v := 2) dX12_operand_256 (by decide) ?_
            refine M_callV1 (mc := mX12_wrong) dX12_operand_257 kX12_258 oX12_wrong (Nat.le_of_ble_eq_true rfl) (Nat.le_of_ble_eq_true rfl) rfl (by decide) rfl ?_
            refine M_more (d := 0) (Nat.zero_le _) (tX12_wrong (f := 2) hc (fun N2 hN => ?_))
            refine J_iload_n dX12_operand_260 rfl ?_
            refine M_iret dX12_operand_261 rfl rfl ?_
            exact h N2 hN
          · -- on 233
            exact absurd c4 (by decide)
        · -- on 217
          exact absurd ((srt_s h256 (by decide) (by decide)).mp c3) hK4
      · -- on 102
        exact absurd c2 (by decide)
    · -- on 81
      exact absurd c1 (by decide)
  · obtain ⟨rfl, hd⟩ := hd
    refine tM_op_is hc (fun hop => absurd hop hK) (fun hop => ?_)
    refine J_iload_n dX12_operand_77 rfl ?_
    refine J_if_ne (tgt := 98) dX12_operand_78 (by decide) (fun c1 => ?_) (fun c1 => ?_)
    · -- to 98
      exact absurd c1 (by decide)
    · -- on 81
      refine J_aload_n dX12_operand_81 rfl ?_
      refine M_getI dX12_operand_82 fX12_226 rfl rfl (by decide) ?_
      rw [hc.2.2.2.2.2.2.2.2.2.2.1]
      refine J_bipush (v := 8) dX12_operand_85 (by decide) ?_
      refine J_icmp_lt (tgt := 98) dX12_operand_87 (by decide) (fun c2 => ?_) (fun c2 => ?_)
      · -- to 98
        refine J_iload_n dX12_operand_98 rfl ?_
        refine J_if_eq (tgt := 208) dX12_operand_99 (by decide) (fun c3 => ?_) (fun c3 => ?_)
        · -- to 208
          refine J_aload_n dX12_operand_208 rfl ?_
          refine M_getI dX12_operand_209 fX12_177 rfl rfl (by decide) ?_
          rw [hc.2.2.1.2.1]
          refine J_bipush (v := 40) dX12_operand_212 (by decide) ?_
          refine J_icmp_ne (tgt := 229) dX12_operand_214 (by decide) (fun c4 => ?_) (fun c4 => ?_)
          · -- to 229
            refine J_iload_n dX12_operand_229 rfl ?_
            refine J_if_ne (tgt := 255) dX12_operand_230 (by decide) (fun c5 => ?_) (fun c5 => ?_)
            · -- to 255
              exact absurd c5 (by decide)
            · -- on 233
              refine J_aload_n dX12_operand_233 rfl ?_
              refine J_ldc2 dX12_operand_234 ccX12_256 ?_
              refine M_callV1 (mc := mX12_isWord) dX12_operand_237 kX12_273 oX12_isWord (Nat.le_of_ble_eq_true rfl) (Nat.le_of_ble_eq_true rfl) rfl (by decide) rfl ?_
              refine M_more (d := 0) (Nat.zero_le _) (tX12_isWord (v := 18) hc (by decide) (by decide) (fun q => absurd q (hK8 rfl)) (fun _ => ?_))
              refine J_if_eq (tgt := 255) dX12_operand_240 (by decide) (fun c7 => ?_) (fun c7 => ?_)
              · -- to 255
                refine J_aload_n dX12_operand_255 rfl ?_
                refine J_iconst (v := 2) dX12_operand_256 (by decide) ?_
                refine M_callV1 (mc := mX12_wrong) dX12_operand_257 kX12_258 oX12_wrong (Nat.le_of_ble_eq_true rfl) (Nat.le_of_ble_eq_true rfl) rfl (by decide) rfl ?_
                refine M_more (d := 0) (Nat.zero_le _) (tX12_wrong (f := 2) hc (fun N2 hN => ?_))
                refine J_iload_n dX12_operand_260 rfl ?_
                refine M_iret dX12_operand_261 rfl rfl ?_
                exact h N2 hN
              · -- on 243
                exact absurd c7 (by decide)
          · -- on 217
            exact absurd ((srt_s h256 (by decide) (by decide)).mp c4) hK4
        · -- on 102
          exact absurd c3 (by decide)
      · -- on 90
        exact absurd (nI_lt (b := 8) hd (by decide)) c2

set_option maxRecDepth 100000 in
set_option maxHeartbeats 1000000 in
theorem tM_op_D {d : Nat} {Φ : Option Int32 → Mem → Prop} {M0 N : Mem} {n : Nat} {T : Nat → Nat} {x : PSt} {ws : List Nat} {b : Int32} (hnb : n ≤ 1000) (hn : M0.1 62 30 = nI n) (hT : ∀ i, M0.1 81 i = nI (T i) ∧ T i < 256) (hc : PQ M0 N n x ws) (hK8 : x.1.1 = 18) (hd : dpc ws < 8) (hlen : ws.length < 60) (hb : 3 * (x.2.1.length + nop ws + 1) ≤ 6 * x.2.2 + x.1.2.2.2) (h : ∀ N2, PQ M0 N2 n (advP T n x) (40 :: ws) → Φ (some 0) N2) : JM noRo (d + 3) mX12_operand 0 [some (.ref 62), some (.int 0), some (.int b)] [] N Φ := by
  have h256 := hc.2.2.2.1.2.2.2.2.2.2.1
  have hK : ¬ (x.1.1 = 2 ∨ x.1.1 = 3) := by omega
  refine tM_op_is hc (fun hop => absurd hop hK) (fun hop => ?_)
  refine J_iload_n dX12_operand_77 rfl ?_
  refine J_if_ne (tgt := 98) dX12_operand_78 (by decide) (fun c1 => ?_) (fun c1 => ?_)
  · -- to 98
    exact absurd c1 (by decide)
  · -- on 81
    refine J_aload_n dX12_operand_81 rfl ?_
    refine M_getI dX12_operand_82 fX12_226 rfl rfl (by decide) ?_
    rw [hc.2.2.2.2.2.2.2.2.2.2.1]
    refine J_bipush (v := 8) dX12_operand_85 (by decide) ?_
    refine J_icmp_lt (tgt := 98) dX12_operand_87 (by decide) (fun c2 => ?_) (fun c2 => ?_)
    · -- to 98
      refine J_iload_n dX12_operand_98 rfl ?_
      refine J_if_eq (tgt := 208) dX12_operand_99 (by decide) (fun c3 => ?_) (fun c3 => ?_)
      · -- to 208
        refine J_aload_n dX12_operand_208 rfl ?_
        refine M_getI dX12_operand_209 fX12_177 rfl rfl (by decide) ?_
        rw [hc.2.2.1.2.1]
        refine J_bipush (v := 40) dX12_operand_212 (by decide) ?_
        refine J_icmp_ne (tgt := 229) dX12_operand_214 (by decide) (fun c4 => ?_) (fun c4 => ?_)
        · -- to 229
          refine J_iload_n dX12_operand_229 rfl ?_
          refine J_if_ne (tgt := 255) dX12_operand_230 (by decide) (fun c5 => ?_) (fun c5 => ?_)
          · -- to 255
            exact absurd c5 (by decide)
          · -- on 233
            refine J_aload_n dX12_operand_233 rfl ?_
            refine J_ldc2 dX12_operand_234 ccX12_256 ?_
            refine M_callV1 (mc := mX12_isWord) dX12_operand_237 kX12_273 oX12_isWord (Nat.le_of_ble_eq_true rfl) (Nat.le_of_ble_eq_true rfl) rfl (by decide) rfl ?_
            refine M_more (d := 0) (Nat.zero_le _) (tX12_isWord (v := 18) hc (by decide) (by decide) (fun _ => ?_) (fun q => absurd hK8 q))
            refine J_if_eq (tgt := 255) dX12_operand_240 (by decide) (fun c7 => ?_) (fun c7 => ?_)
            · -- to 255
              exact absurd c7 (by decide)
            · -- on 243
              refine J_aload_n dX12_operand_243 rfl ?_
              refine J_bipush (v := 40) dX12_operand_244 (by decide) ?_
              refine M_callV1 (mc := mX12_hold) dX12_operand_246 kX12_270 oX12_hold (Nat.le_of_ble_eq_true rfl) (Nat.le_of_ble_eq_true rfl) rfl (by decide) rfl ?_
              refine M_more (d := 0) (Nat.zero_le _) (tX12_hold (c := 40) hc (by unfold opW; decide) hlen (by rw [nop, if_neg (by decide)]; omega) (fun N2 hc2 => ?_))
              refine J_aload_n dX12_operand_249 rfl ?_
              refine M_callV0 (mc := mX12_next) dX12_operand_250 kX12_267 oX12_next (Nat.le_of_ble_eq_true rfl) (Nat.le_of_ble_eq_true rfl) rfl (by decide) rfl ?_
              refine M_more (d := 2) (by omega) (tX12_adv (d := 0) (T := T) hnb hn hT hc2 (by omega) (by omega) (fun N3 hc3 => ?_))
              refine J_iconst (v := 0) dX12_operand_253 (by decide) ?_
              refine M_iret dX12_operand_254 rfl rfl ?_
              exact h N3 hc3
        · -- on 217
          exact absurd ((srt_s (v := 40) h256 (by decide) (by decide)).mp c4) (by omega)
      · -- on 102
        exact absurd c3 (by decide)
    · -- on 90
      exact absurd (nI_lt (b := 8) hd (by decide)) c2
