theorem wr_sw {N : Mem} {m : Nat} {a b c e : Int32} : wr (wr (wr (wr N 77 m a) 78 m b) 62 23 c) 62 24 e = wr (wr (wr (wr N 62 24 e) 77 m a) 78 m b) 62 23 c := by
  refine Mem_ext (fun q => ?_) rfl
  by_cases h : q = 62
  · subst h
    rw [rdu, rdu, rd2 (by decide), rd2 (by decide), rdu, rd2 (by decide), rd2 (by decide), rdu]
    funext i
    by_cases h1 : i = 23
    · subst h1; rw [updN (by decide), updS, updS]
    · by_cases h2 : i = 24
      · subst h2; rw [updS, updN (by decide), updS]
      · rw [updN h2, updN h1, updN h1, updN h2]
  · rw [rd2 h, rd2 h, rd2 h]
    by_cases h1 : q = 78
    · subst h1; rw [rdu, rdu, rd2 (by decide), rd2 (by decide), rd2 (by decide)]
    · rw [rd2 h1, rd2 h1]
      by_cases h2 : q = 77
      · subst h2; rw [rdu, rdu, rd2 (by decide)]
      · rw [rd2 h2, rd2 h2, rd2 h]
theorem enc_num {v : Nat} : enc (100 + v) = 0 := by rw [enc, if_neg (by omega), if_pos (by omega)]
theorem enc_nm {v : Nat} (h : v < 14) : enc v = 20 + nmR v := if_pos h
theorem nmR_8 {v : Nat} (h : v < 14) : nmR v ≤ 7 ↔ v < 8 := by
  unfold nmR
  by_cases h8 : v < 8
  · rw [if_pos h8]; exact ⟨fun _ => h8, fun _ => by omega⟩
  · rw [if_neg h8]
    by_cases h9 : v = 8
    · rw [if_pos h9]; exact ⟨fun q => absurd q (by decide), fun q => absurd q h8⟩
    · rw [if_neg h9]; exact ⟨fun q => by omega, fun q => absurd q h8⟩
set_option maxRecDepth 100000 in
set_option maxHeartbeats 1000000 in
theorem tM_op_Bfulln {d : Nat} {Φ : Option Int32 → Mem → Prop} {M0 N : Mem} {n : Nat} {T : Nat → Nat} {x : PSt} {ws : List Nat} {b : Int32} {st lim : Nat} (hnb : n ≤ 1000) (hn : M0.1 62 30 = nI n) (hT : ∀ i, M0.1 81 i = nI (T i) ∧ T i < 256) (hc : PQ M0 N n x ws) (hK2 : x.1.1 = 2) (h120 : x.2.2 = 120) (hd : st = 1 ∨ (st = 0 ∧ dpc ws < 8)) (h1 : (opd lim x).1 = none → ∀ N2, PQ M0 N2 n (advP T n (opd lim x).2) ws → Φ (some 2) N2) (h0 : ∀ v, (opd lim x).1 = some v → ∀ N2, QF M0 N2 v → Φ (some (nI st)) N2) : JM noRo (d + 3) mX12_operand 0 [some (.ref 62), some (.int (nI st)), some (.int b)] [] N Φ := by
  have h256 := hc.2.2.2.1.2.2.2.2.2.2.1
  have h19 := hc.2.2.2.1.2.2.2.2.2.2.2.2
  have h11 := hc.2.2.2.2.2.2.2.2.2.2.2.2.2.2.2
  have h120b := hc.2.2.2.2.2.2.2.1
  have hdl := dpc_le ws
  have hl := hc.2.2.2.2.2.2.2.2.2.2.2.2.2.2.1
  have hK : x.1.1 = 2 ∨ x.1.1 = 3 := Or.inl hK2
  unfold opd at h1 h0
  rw [if_pos (by omega)] at h1 h0
  rcases hd with hd | hd
  · subst hd
    refine tM_op_is hc (fun hop => ?_) (fun hop => absurd hK hop)
    refine J_iload_n dX12_operand_77 rfl ?_
    refine J_if_ne (tgt := 98) dX12_operand_78 (by decide) (fun c1 => ?_) (fun c1 => ?_)
    · -- to 98
      refine J_iload_n dX12_operand_98 rfl ?_
      refine J_if_eq (tgt := 208) dX12_operand_99 (by decide) (fun c2 => ?_) (fun c2 => ?_)
      · -- to 208
        exact absurd c2 (by decide)
      · -- on 102
        refine J_aload_n dX12_operand_102 rfl ?_
        refine M_getI dX12_operand_103 fX12_177 rfl rfl (by decide) ?_
        rw [hc.2.2.1.2.1]
        refine J_iconst (v := 1) dX12_operand_106 (by decide) ?_
        refine J_icmp_ne (tgt := 117) dX12_operand_107 (by decide) (fun c3 => ?_) (fun c3 => ?_)
        · -- to 117
          refine J_iconst (v := 0) dX12_operand_117 (by decide) ?_
          refine J_istore dX12_operand_118 (by decide) rfl ?_
          dsimp only [setL]
          refine J_aload_n dX12_operand_120 rfl ?_
          refine M_getI dX12_operand_121 fX12_264 rfl rfl (by decide) ?_
          rw [hc.2.2.2.2.2.2.1]
          refine J_bipush (v := 120) dX12_operand_124 (by decide) ?_
          refine J_icmp_ne (tgt := 137) dX12_operand_126 (by decide) (fun c4 => ?_) (fun c4 => ?_)
          · -- to 137
            exact absurd (by rw [h120]; rfl) c4
          · -- on 129
            refine J_aload_n dX12_operand_129 rfl ?_
            refine J_iconst (v := 2) dX12_operand_130 (by decide) ?_
            refine M_callV1 (mc := mX12_wrong) dX12_operand_131 kX12_258 oX12_wrong (Nat.le_of_ble_eq_true rfl) (Nat.le_of_ble_eq_true rfl) rfl (by decide) rfl ?_
            refine M_more (d := 0) (Nat.zero_le _) (tX12_wrong (f := 2) hc (fun N2 hN => ?_))
            refine J_goto (tgt := 158) dX12_operand_134 (by decide) ?_
            refine J_aload_n dX12_operand_158 rfl ?_
            refine M_getI dX12_operand_159 fX12_189 rfl rfl (by decide) ?_
            refine J_if_le (tgt := 167) dX12_operand_162 (by decide) (fun c6 => ?_) (fun c6 => ?_)
            · -- to 167
              exact absurd c6 (by rw [hN.2.2.1]; show ¬ nI (if x.1.1 = 1 then 1 else 2) ≤ 0; split <;> decide)
            · -- on 165
              refine J_iload_n dX12_operand_165 rfl ?_
              refine M_iret dX12_operand_166 rfl rfl ?_
              exact h0 _ rfl N2 hN
        · -- on 110
          exact absurd ((srt_1 h256 h19).mp c3) (by omega)
    · -- on 81
      exact absurd c1 (by decide)
  · obtain ⟨rfl, hd⟩ := hd
    refine tM_op_is hc (fun hop => ?_) (fun hop => absurd hK hop)
    refine J_iload_n dX12_operand_77 rfl ?_
    refine J_if_ne (tgt := 98) dX12_operand_78 (by decide) (fun c1 => ?_) (fun c1 => ?_)
    · -- to 98
      exact absurd c1 (by decide)
    · -- on 81
      refine J_aload_n dX12_operand_81 rfl ?_
      refine M_getI dX12_operand_82 fX12_226 rfl rfl (by decide) ?_
      rw [hc.2.2.2.2.2.2.2.2.2.2.1]
      refine J_bipush (v := 8) dX12_operand_85 (by decide) ?_
      refine J_icmp_lt (tgt := 98) dX12_operand_87 (by decide) (fun c2 => ?_) (fun c2 => ?_)
      · -- to 98
        refine J_iload_n dX12_operand_98 rfl ?_
        refine J_if_eq (tgt := 208) dX12_operand_99 (by decide) (fun c3 => ?_) (fun c3 => ?_)
        · -- to 208
          exact absurd c3 (by decide)
        · -- on 102
          refine J_aload_n dX12_operand_102 rfl ?_
          refine M_getI dX12_operand_103 fX12_177 rfl rfl (by decide) ?_
          rw [hc.2.2.1.2.1]
          refine J_iconst (v := 1) dX12_operand_106 (by decide) ?_
          refine J_icmp_ne (tgt := 117) dX12_operand_107 (by decide) (fun c4 => ?_) (fun c4 => ?_)
          · -- to 117
            refine J_iconst (v := 0) dX12_operand_117 (by decide) ?_
            refine J_istore dX12_operand_118 (by decide) rfl ?_
            dsimp only [setL]
            refine J_aload_n dX12_operand_120 rfl ?_
            refine M_getI dX12_operand_121 fX12_264 rfl rfl (by decide) ?_
            rw [hc.2.2.2.2.2.2.1]
            refine J_bipush (v := 120) dX12_operand_124 (by decide) ?_
            refine J_icmp_ne (tgt := 137) dX12_operand_126 (by decide) (fun c5 => ?_) (fun c5 => ?_)
            · -- to 137
              exact absurd (by rw [h120]; rfl) c5
            · -- on 129
              refine J_aload_n dX12_operand_129 rfl ?_
              refine J_iconst (v := 2) dX12_operand_130 (by decide) ?_
              refine M_callV1 (mc := mX12_wrong) dX12_operand_131 kX12_258 oX12_wrong (Nat.le_of_ble_eq_true rfl) (Nat.le_of_ble_eq_true rfl) rfl (by decide) rfl ?_
              refine M_more (d := 0) (Nat.zero_le _) (tX12_wrong (f := 2) hc (fun N2 hN => ?_))
              refine J_goto (tgt := 158) dX12_operand_134 (by decide) ?_
              refine J_aload_n dX12_operand_158 rfl ?_
              refine M_getI dX12_operand_159 fX12_189 rfl rfl (by decide) ?_
              refine J_if_le (tgt := 167) dX12_operand_162 (by decide) (fun c7 => ?_) (fun c7 => ?_)
              · -- to 167
                exact absurd c7 (by rw [hN.2.2.1]; show ¬ nI (if x.1.1 = 1 then 1 else 2) ≤ 0; split <;> decide)
              · -- on 165
                refine J_iload_n dX12_operand_165 rfl ?_
                refine M_iret dX12_operand_166 rfl rfl ?_
                exact h0 _ rfl N2 hN
          · -- on 110
            exact absurd ((srt_1 h256 h19).mp c4) (by omega)
      · -- on 90
        exact absurd (nI_lt (b := 8) hd (by decide)) c2

set_option maxRecDepth 100000 in
set_option maxHeartbeats 1000000 in
theorem tM_op_Bfullm {d : Nat} {Φ : Option Int32 → Mem → Prop} {M0 N : Mem} {n : Nat} {T : Nat → Nat} {x : PSt} {ws : List Nat} {b : Int32} {st lim : Nat} (hnb : n ≤ 1000) (hn : M0.1 62 30 = nI n) (hT : ∀ i, M0.1 81 i = nI (T i) ∧ T i < 256) (hc : PQ M0 N n x ws) (hK3 : x.1.1 = 3) (h120 : x.2.2 = 120) (hd : st = 1 ∨ (st = 0 ∧ dpc ws < 8)) (h1 : (opd lim x).1 = none → ∀ N2, PQ M0 N2 n (advP T n (opd lim x).2) ws → Φ (some 2) N2) (h0 : ∀ v, (opd lim x).1 = some v → ∀ N2, QF M0 N2 v → Φ (some (nI st)) N2) : JM noRo (d + 3) mX12_operand 0 [some (.ref 62), some (.int (nI st)), some (.int b)] [] N Φ := by
  have h256 := hc.2.2.2.1.2.2.2.2.2.2.1
  have h19 := hc.2.2.2.1.2.2.2.2.2.2.2.2
  have h11 := hc.2.2.2.2.2.2.2.2.2.2.2.2.2.2.2
  have h120b := hc.2.2.2.2.2.2.2.1
  have hdl := dpc_le ws
  have hl := hc.2.2.2.2.2.2.2.2.2.2.2.2.2.2.1
  have hK : x.1.1 = 2 ∨ x.1.1 = 3 := Or.inr hK3
  obtain ⟨km, hnm⟩ : ∃ q, nmI x.1.2.1 = q := ⟨_, rfl⟩
  unfold opd at h1 h0
  rw [if_pos (by omega)] at h1 h0
  rcases hd with hd | hd
  · subst hd
    refine tM_op_is hc (fun hop => ?_) (fun hop => absurd hK hop)
    refine J_iload_n dX12_operand_77 rfl ?_
    refine J_if_ne (tgt := 98) dX12_operand_78 (by decide) (fun c1 => ?_) (fun c1 => ?_)
    · -- to 98
      refine J_iload_n dX12_operand_98 rfl ?_
      refine J_if_eq (tgt := 208) dX12_operand_99 (by decide) (fun c2 => ?_) (fun c2 => ?_)
      · -- to 208
        exact absurd c2 (by decide)
      · -- on 102
        refine J_aload_n dX12_operand_102 rfl ?_
        refine M_getI dX12_operand_103 fX12_177 rfl rfl (by decide) ?_
        rw [hc.2.2.1.2.1]
        refine J_iconst (v := 1) dX12_operand_106 (by decide) ?_
        refine J_icmp_ne (tgt := 117) dX12_operand_107 (by decide) (fun c3 => ?_) (fun c3 => ?_)
        · -- to 117
          exact absurd ((srt_1 h256 h19).mpr (Or.inl hK3)) c3
        · -- on 110
          refine J_aload_n dX12_operand_110 rfl ?_
          refine M_callV0 (mc := mX12_named) dX12_operand_111 kX12_261 oX12_named (Nat.le_of_ble_eq_true rfl) (Nat.le_of_ble_eq_true rfl) rfl (by decide) rfl ?_
          refine M_more (d := 0) (Nat.zero_le _) (tX12_named hc hK3 ?_)
          rw [hnm]
          refine J_goto (tgt := 118) dX12_operand_114 (by decide) ?_
          refine J_istore dX12_operand_118 (by decide) rfl ?_
          dsimp only [setL]
          refine J_aload_n dX12_operand_120 rfl ?_
          refine M_getI dX12_operand_121 fX12_264 rfl rfl (by decide) ?_
          rw [hc.2.2.2.2.2.2.1]
          refine J_bipush (v := 120) dX12_operand_124 (by decide) ?_
          refine J_icmp_ne (tgt := 137) dX12_operand_126 (by decide) (fun c5 => ?_) (fun c5 => ?_)
          · -- to 137
            exact absurd (by rw [h120]; rfl) c5
          · -- on 129
            refine J_aload_n dX12_operand_129 rfl ?_
            refine J_iconst (v := 2) dX12_operand_130 (by decide) ?_
            refine M_callV1 (mc := mX12_wrong) dX12_operand_131 kX12_258 oX12_wrong (Nat.le_of_ble_eq_true rfl) (Nat.le_of_ble_eq_true rfl) rfl (by decide) rfl ?_
            refine M_more (d := 0) (Nat.zero_le _) (tX12_wrong (f := 2) hc (fun N2 hN => ?_))
            refine J_goto (tgt := 158) dX12_operand_134 (by decide) ?_
            refine J_aload_n dX12_operand_158 rfl ?_
            refine M_getI dX12_operand_159 fX12_189 rfl rfl (by decide) ?_
            refine J_if_le (tgt := 167) dX12_operand_162 (by decide) (fun c7 => ?_) (fun c7 => ?_)
            · -- to 167
              exact absurd c7 (by rw [hN.2.2.1]; show ¬ nI (if x.1.1 = 1 then 1 else 2) ≤ 0; split <;> decide)
            · -- on 165
              refine J_iload_n dX12_operand_165 rfl ?_
              refine M_iret dX12_operand_166 rfl rfl ?_
              exact h0 _ rfl N2 hN
    · -- on 81
      exact absurd c1 (by decide)
  · obtain ⟨rfl, hd⟩ := hd
    refine tM_op_is hc (fun hop => ?_) (fun hop => absurd hK hop)
    refine J_iload_n dX12_operand_77 rfl ?_
    refine J_if_ne (tgt := 98) dX12_operand_78 (by decide) (fun c1 => ?_) (fun c1 => ?_)
    · -- to 98
      exact absurd c1 (by decide)
    · -- on 81
      refine J_aload_n dX12_operand_81 rfl ?_
      refine M_getI dX12_operand_82 fX12_226 rfl rfl (by decide) ?_
      rw [hc.2.2.2.2.2.2.2.2.2.2.1]
      refine J_bipush (v := 8) dX12_operand_85 (by decide) ?_
      refine J_icmp_lt (tgt := 98) dX12_operand_87 (by decide) (fun c2 => ?_) (fun c2 => ?_)
      · -- to 98
        refine J_iload_n dX12_operand_98 rfl ?_
        refine J_if_eq (tgt := 208) dX12_operand_99 (by decide) (fun c3 => ?_) (fun c3 => ?_)
        · -- to 208
          exact absurd c3 (by decide)
        · -- on 102
          refine J_aload_n dX12_operand_102 rfl ?_
          refine M_getI dX12_operand_103 fX12_177 rfl rfl (by decide) ?_
          rw [hc.2.2.1.2.1]
          refine J_iconst (v := 1) dX12_operand_106 (by decide) ?_
          refine J_icmp_ne (tgt := 117) dX12_operand_107 (by decide) (fun c4 => ?_) (fun c4 => ?_)
          · -- to 117
            exact absurd ((srt_1 h256 h19).mpr (Or.inl hK3)) c4
          · -- on 110
            refine J_aload_n dX12_operand_110 rfl ?_
            refine M_callV0 (mc := mX12_named) dX12_operand_111 kX12_261 oX12_named (Nat.le_of_ble_eq_true rfl) (Nat.le_of_ble_eq_true rfl) rfl (by decide) rfl ?_
            refine M_more (d := 0) (Nat.zero_le _) (tX12_named hc hK3 ?_)
            rw [hnm]
            refine J_goto (tgt := 118) dX12_operand_114 (by decide) ?_
            refine J_istore dX12_operand_118 (by decide) rfl ?_
            dsimp only [setL]
            refine J_aload_n dX12_operand_120 rfl ?_
            refine M_getI dX12_operand_121 fX12_264 rfl rfl (by decide) ?_
            rw [hc.2.2.2.2.2.2.1]
            refine J_bipush (v := 120) dX12_operand_124 (by decide) ?_
            refine J_icmp_ne (tgt := 137) dX12_operand_126 (by decide) (fun c6 => ?_) (fun c6 => ?_)
            · -- to 137
              exact absurd (by rw [h120]; rfl) c6
            · -- on 129
              refine J_aload_n dX12_operand_129 rfl ?_
              refine J_iconst (v := 2) dX12_operand_130 (by decide) ?_
              refine M_callV1 (mc := mX12_wrong) dX12_operand_131 kX12_258 oX12_wrong (Nat.le_of_ble_eq_true rfl) (Nat.le_of_ble_eq_true rfl) rfl (by decide) rfl ?_
              refine M_more (d := 0) (Nat.zero_le _) (tX12_wrong (f := 2) hc (fun N2 hN => ?_))
              refine J_goto (tgt := 158) dX12_operand_134 (by decide) ?_
              refine J_aload_n dX12_operand_158 rfl ?_
              refine M_getI dX12_operand_159 fX12_189 rfl rfl (by decide) ?_
              refine J_if_le (tgt := 167) dX12_operand_162 (by decide) (fun c8 => ?_) (fun c8 => ?_)
              · -- to 167
                exact absurd c8 (by rw [hN.2.2.1]; show ¬ nI (if x.1.1 = 1 then 1 else 2) ≤ 0; split <;> decide)
              · -- on 165
                refine J_iload_n dX12_operand_165 rfl ?_
                refine M_iret dX12_operand_166 rfl rfl ?_
                exact h0 _ rfl N2 hN
      · -- on 90
        exact absurd (nI_lt (b := 8) hd (by decide)) c2

set_option maxRecDepth 100000 in
set_option maxHeartbeats 1000000 in
theorem tM_op_Bnum {d : Nat} {Φ : Option Int32 → Mem → Prop} {M0 N : Mem} {n : Nat} {T : Nat → Nat} {x : PSt} {ws : List Nat} {b : Int32} {st lim : Nat} (hnb : n ≤ 1000) (hn : M0.1 62 30 = nI n) (hT : ∀ i, M0.1 81 i = nI (T i) ∧ T i < 256) (hc : PQ M0 N n x ws) (hK2 : x.1.1 = 2) (h120 : x.2.2 < 120) (hd : st = 1 ∨ (st = 0 ∧ dpc ws < 8)) (h1 : (opd lim x).1 = none → ∀ N2, PQ M0 N2 n (advP T n (opd lim x).2) ws → Φ (some 2) N2) (h0 : ∀ v, (opd lim x).1 = some v → ∀ N2, QF M0 N2 v → Φ (some (nI st)) N2) : JM noRo (d + 3) mX12_operand 0 [some (.ref 62), some (.int (nI st)), some (.int b)] [] N Φ := by
  have h256 := hc.2.2.2.1.2.2.2.2.2.2.1
  have h19 := hc.2.2.2.1.2.2.2.2.2.2.2.2
  have h11 := hc.2.2.2.2.2.2.2.2.2.2.2.2.2.2.2
  have h120b := hc.2.2.2.2.2.2.2.1
  have hdl := dpc_le ws
  have hl := hc.2.2.2.2.2.2.2.2.2.2.2.2.2.2.1
  have hK : x.1.1 = 2 ∨ x.1.1 = 3 := Or.inl hK2
  unfold opd at h1 h0
  rw [if_neg (by omega), if_pos hK2] at h1 h0
  rcases hd with hd | hd
  · subst hd
    refine tM_op_is hc (fun hop => ?_) (fun hop => absurd hK hop)
    refine J_iload_n dX12_operand_77 rfl ?_
    refine J_if_ne (tgt := 98) dX12_operand_78 (by decide) (fun c1 => ?_) (fun c1 => ?_)
    · -- to 98
      refine J_iload_n dX12_operand_98 rfl ?_
      refine J_if_eq (tgt := 208) dX12_operand_99 (by decide) (fun c2 => ?_) (fun c2 => ?_)
      · -- to 208
        exact absurd c2 (by decide)
      · -- on 102
        refine J_aload_n dX12_operand_102 rfl ?_
        refine M_getI dX12_operand_103 fX12_177 rfl rfl (by decide) ?_
        rw [hc.2.2.1.2.1]
        refine J_iconst (v := 1) dX12_operand_106 (by decide) ?_
        refine J_icmp_ne (tgt := 117) dX12_operand_107 (by decide) (fun c3 => ?_) (fun c3 => ?_)
        · -- to 117
          refine J_iconst (v := 0) dX12_operand_117 (by decide) ?_
          refine J_istore dX12_operand_118 (by decide) rfl ?_
          dsimp only [setL]
          refine J_aload_n dX12_operand_120 rfl ?_
          refine M_getI dX12_operand_121 fX12_264 rfl rfl (by decide) ?_
          rw [hc.2.2.2.2.2.2.1]
          refine J_bipush (v := 120) dX12_operand_124 (by decide) ?_
          refine J_icmp_ne (tgt := 137) dX12_operand_126 (by decide) (fun c4 => ?_) (fun c4 => ?_)
          · -- to 137
            refine J_iload dX12_operand_137 rfl ?_
            refine J_if_lt (tgt := 153) dX12_operand_139 (by decide) (fun c5 => ?_) (fun c5 => ?_)
            · -- to 153
              exact absurd c5 (by decide)
            · -- on 142
              refine J_iload dX12_operand_142 rfl ?_
              refine J_bipush (v := 7) dX12_operand_144 (by decide) ?_
              refine J_icmp_le (tgt := 158) dX12_operand_146 (by decide) (fun c6 => ?_) (fun c6 => ?_)
              · -- to 158
                refine J_aload_n dX12_operand_158 rfl ?_
                refine M_getI dX12_operand_159 fX12_189 rfl rfl (by decide) ?_
                rw [hc.2.2.2.2.2.2.2.2.2.2.2.1]
                refine J_if_le (tgt := 167) dX12_operand_162 (by decide) (fun c7 => ?_) (fun c7 => ?_)
                · -- to 167
                  refine J_aload_n dX12_operand_167 rfl ?_
                  refine J_aload_n dX12_operand_168 rfl ?_
                  refine M_getI dX12_operand_169 fX12_177 rfl rfl (by decide) ?_
                  rw [hc.2.2.1.2.1]
                  refine J_iconst (v := 2) dX12_operand_172 (by decide) ?_
                  refine J_icmp_ne (tgt := 180) dX12_operand_173 (by decide) (fun c8 => ?_) (fun c8 => ?_)
                  · -- to 180
                    exact absurd ((srt_2 h256).mpr hK2) c8
                  · -- on 176
                    refine J_iconst (v := 0) dX12_operand_176 (by decide) ?_
                    refine J_goto (tgt := 185) dX12_operand_177 (by decide) ?_
                    refine J_aload_n dX12_operand_185 rfl ?_
                    refine M_getI dX12_operand_186 fX12_174 rfl rfl (by decide) ?_
                    rw [hc.2.2.1.2.2.2.1 hK2]
                    refine M_callV2 (mc := mX12_step) dX12_operand_189 kX12_229 oX12_step (Nat.le_of_ble_eq_true rfl) (Nat.le_of_ble_eq_true rfl) rfl (by decide) rfl ?_
                    refine M_more (d := 0) (Nat.zero_le _) (tX12_step (m := x.2.1.length) hc.2.2.2.2.1 (by have := hc.l600 hnb; omega) ?_)
                    refine J_aload_n dX12_operand_192 rfl ?_
                    refine J_dup dX12_operand_193 rfl ?_
                    refine M_getI dX12_operand_194 fX12_264 rfl rfl (by decide) ?_
                    rw [rd3 (by decide), rd2 (by decide), rd2 (by decide), hc.2.2.2.2.2.2.1]
                    refine J_iconst (v := 1) dX12_operand_197 (by decide) ?_
                    refine J_iadd dX12_operand_198 ?_
                    rw [nI_1]
                    refine M_putI dX12_operand_199 pX12_264 rfl rfl (by decide) ?_
                    rw [wr_sw]
                    have hp := hc.step (c := (100 + x.1.2.1)) (b := nI x.1.2.1) (ops := x.2.2 + 1) (fun _ => by rw [Nat.add_sub_cancel_left]) (by omega) ws hc.2.2.2.2.2.2.2.2.2.1 hl hc.2.2.2.2.2.2.2.2.2.2.2.2.2.1 (by omega)
                    rw [wr_id (j := 36) hc.2.2.2.2.2.2.2.2.1, wr_id (j := 37) hc.2.2.2.2.2.2.2.2.2.2.1, enc_num] at hp
                    refine J_aload_n dX12_operand_202 rfl ?_
                    refine M_callV0 (mc := mX12_next) dX12_operand_203 kX12_267 oX12_next (Nat.le_of_ble_eq_true rfl) (Nat.le_of_ble_eq_true rfl) rfl (by decide) rfl ?_
                    refine M_more (d := 2) (by omega) (tX12_adv (d := 0) (T := T) (x := (x.1, x.2.1 ++ [(100 + x.1.2.1)], x.2.2 + 1)) hnb hn hT hp (by show x.1.1 ≠ 0; omega) (by show x.1.1 ≠ 1; omega) (fun N3 hc3 => ?_))
                    refine J_iconst (v := 2) dX12_operand_206 (by decide) ?_
                    refine M_iret dX12_operand_207 rfl rfl ?_
                    exact h1 rfl N3 hc3
                · -- on 165
                  exact absurd (by decide) c7
              · -- on 149
                exact absurd c6 (by decide)
          · -- on 129
            exact absurd ((nI_eq (a := x.2.2) (b := 120) (by omega) (by decide)).mp c4) (by omega)
        · -- on 110
          exact absurd ((srt_1 h256 h19).mp c3) (by omega)
    · -- on 81
      exact absurd c1 (by decide)
  · obtain ⟨rfl, hd⟩ := hd
    refine tM_op_is hc (fun hop => ?_) (fun hop => absurd hK hop)
    refine J_iload_n dX12_operand_77 rfl ?_
    refine J_if_ne (tgt := 98) dX12_operand_78 (by decide) (fun c1 => ?_) (fun c1 => ?_)
    · -- to 98
      exact absurd c1 (by decide)
    · -- on 81
      refine J_aload_n dX12_operand_81 rfl ?_
      refine M_getI dX12_operand_82 fX12_226 rfl rfl (by decide) ?_
      rw [hc.2.2.2.2.2.2.2.2.2.2.1]
      refine J_bipush (v := 8) dX12_operand_85 (by decide) ?_
      refine J_icmp_lt (tgt := 98) dX12_operand_87 (by decide) (fun c2 => ?_) (fun c2 => ?_)
      · -- to 98
        refine J_iload_n dX12_operand_98 rfl ?_
        refine J_if_eq (tgt := 208) dX12_operand_99 (by decide) (fun c3 => ?_) (fun c3 => ?_)
        · -- to 208
          exact absurd c3 (by decide)
        · -- on 102
          refine J_aload_n dX12_operand_102 rfl ?_
          refine M_getI dX12_operand_103 fX12_177 rfl rfl (by decide) ?_
          rw [hc.2.2.1.2.1]
          refine J_iconst (v := 1) dX12_operand_106 (by decide) ?_
          refine J_icmp_ne (tgt := 117) dX12_operand_107 (by decide) (fun c4 => ?_) (fun c4 => ?_)
          · -- to 117
            refine J_iconst (v := 0) dX12_operand_117 (by decide) ?_
            refine J_istore dX12_operand_118 (by decide) rfl ?_
            dsimp only [setL]
            refine J_aload_n dX12_operand_120 rfl ?_
            refine M_getI dX12_operand_121 fX12_264 rfl rfl (by decide) ?_
            rw [hc.2.2.2.2.2.2.1]
            refine J_bipush (v := 120) dX12_operand_124 (by decide) ?_
            refine J_icmp_ne (tgt := 137) dX12_operand_126 (by decide) (fun c5 => ?_) (fun c5 => ?_)
            · -- to 137
              refine J_iload dX12_operand_137 rfl ?_
              refine J_if_lt (tgt := 153) dX12_operand_139 (by decide) (fun c6 => ?_) (fun c6 => ?_)
              · -- to 153
                exact absurd c6 (by decide)
              · -- on 142
                refine J_iload dX12_operand_142 rfl ?_
                refine J_bipush (v := 7) dX12_operand_144 (by decide) ?_
                refine J_icmp_le (tgt := 158) dX12_operand_146 (by decide) (fun c7 => ?_) (fun c7 => ?_)
                · -- to 158
                  refine J_aload_n dX12_operand_158 rfl ?_
                  refine M_getI dX12_operand_159 fX12_189 rfl rfl (by decide) ?_
                  rw [hc.2.2.2.2.2.2.2.2.2.2.2.1]
                  refine J_if_le (tgt := 167) dX12_operand_162 (by decide) (fun c8 => ?_) (fun c8 => ?_)
                  · -- to 167
                    refine J_aload_n dX12_operand_167 rfl ?_
                    refine J_aload_n dX12_operand_168 rfl ?_
                    refine M_getI dX12_operand_169 fX12_177 rfl rfl (by decide) ?_
                    rw [hc.2.2.1.2.1]
                    refine J_iconst (v := 2) dX12_operand_172 (by decide) ?_
                    refine J_icmp_ne (tgt := 180) dX12_operand_173 (by decide) (fun c9 => ?_) (fun c9 => ?_)
                    · -- to 180
                      exact absurd ((srt_2 h256).mpr hK2) c9
                    · -- on 176
                      refine J_iconst (v := 0) dX12_operand_176 (by decide) ?_
                      refine J_goto (tgt := 185) dX12_operand_177 (by decide) ?_
                      refine J_aload_n dX12_operand_185 rfl ?_
                      refine M_getI dX12_operand_186 fX12_174 rfl rfl (by decide) ?_
                      rw [hc.2.2.1.2.2.2.1 hK2]
                      refine M_callV2 (mc := mX12_step) dX12_operand_189 kX12_229 oX12_step (Nat.le_of_ble_eq_true rfl) (Nat.le_of_ble_eq_true rfl) rfl (by decide) rfl ?_
                      refine M_more (d := 0) (Nat.zero_le _) (tX12_step (m := x.2.1.length) hc.2.2.2.2.1 (by have := hc.l600 hnb; omega) ?_)
                      refine J_aload_n dX12_operand_192 rfl ?_
                      refine J_dup dX12_operand_193 rfl ?_
                      refine M_getI dX12_operand_194 fX12_264 rfl rfl (by decide) ?_
                      rw [rd3 (by decide), rd2 (by decide), rd2 (by decide), hc.2.2.2.2.2.2.1]
                      refine J_iconst (v := 1) dX12_operand_197 (by decide) ?_
                      refine J_iadd dX12_operand_198 ?_
                      rw [nI_1]
                      refine M_putI dX12_operand_199 pX12_264 rfl rfl (by decide) ?_
                      rw [wr_sw]
                      have hp := hc.step (c := (100 + x.1.2.1)) (b := nI x.1.2.1) (ops := x.2.2 + 1) (fun _ => by rw [Nat.add_sub_cancel_left]) (by omega) ws hc.2.2.2.2.2.2.2.2.2.1 hl hc.2.2.2.2.2.2.2.2.2.2.2.2.2.1 (by omega)
                      rw [wr_id (j := 36) hc.2.2.2.2.2.2.2.2.1, wr_id (j := 37) hc.2.2.2.2.2.2.2.2.2.2.1, enc_num] at hp
                      refine J_aload_n dX12_operand_202 rfl ?_
                      refine M_callV0 (mc := mX12_next) dX12_operand_203 kX12_267 oX12_next (Nat.le_of_ble_eq_true rfl) (Nat.le_of_ble_eq_true rfl) rfl (by decide) rfl ?_
                      refine M_more (d := 2) (by omega) (tX12_adv (d := 0) (T := T) (x := (x.1, x.2.1 ++ [(100 + x.1.2.1)], x.2.2 + 1)) hnb hn hT hp (by show x.1.1 ≠ 0; omega) (by show x.1.1 ≠ 1; omega) (fun N3 hc3 => ?_))
                      refine J_iconst (v := 2) dX12_operand_206 (by decide) ?_
                      refine M_iret dX12_operand_207 rfl rfl ?_
                      exact h1 rfl N3 hc3
                  · -- on 165
                    exact absurd (by decide) c8
                · -- on 149
                  exact absurd c7 (by decide)
            · -- on 129
              exact absurd ((nI_eq (a := x.2.2) (b := 120) (by omega) (by decide)).mp c5) (by omega)
          · -- on 110
            exact absurd ((srt_1 h256 h19).mp c4) (by omega)
      · -- on 90
        exact absurd (nI_lt (b := 8) hd (by decide)) c2

set_option maxRecDepth 100000 in
set_option maxHeartbeats 1000000 in
theorem tM_op_Bgood {d : Nat} {Φ : Option Int32 → Mem → Prop} {M0 N : Mem} {n : Nat} {T : Nat → Nat} {x : PSt} {ws : List Nat} {b : Int32} {st lim : Nat} (hnb : n ≤ 1000) (hn : M0.1 62 30 = nI n) (hT : ∀ i, M0.1 81 i = nI (T i) ∧ T i < 256) (hc : PQ M0 N n x ws) (hK3 : x.1.1 = 3) (h120 : x.2.2 < 120) (hV : x.1.2.1 < 14) (hlt : x.1.2.1 < lim) (hpb : b = 0 → lim = 8) (hd : st = 1 ∨ (st = 0 ∧ dpc ws < 8)) (h1 : (opd lim x).1 = none → ∀ N2, PQ M0 N2 n (advP T n (opd lim x).2) ws → Φ (some 2) N2) (h0 : ∀ v, (opd lim x).1 = some v → ∀ N2, QF M0 N2 v → Φ (some (nI st)) N2) : JM noRo (d + 3) mX12_operand 0 [some (.ref 62), some (.int (nI st)), some (.int b)] [] N Φ := by
  have h256 := hc.2.2.2.1.2.2.2.2.2.2.1
  have h19 := hc.2.2.2.1.2.2.2.2.2.2.2.2
  have h11 := hc.2.2.2.2.2.2.2.2.2.2.2.2.2.2.2
  have h120b := hc.2.2.2.2.2.2.2.1
  have hdl := dpc_le ws
  have hl := hc.2.2.2.2.2.2.2.2.2.2.2.2.2.2.1
  have hK : x.1.1 = 2 ∨ x.1.1 = 3 := Or.inr hK3
  have hnm : nmI x.1.2.1 = nI (nmR x.1.2.1) := if_pos hV
  have hnl := nmR_lt hV
  have hpb : b = 0 → ¬ (nmR x.1.2.1 ≤ 7) → False := fun q z => z ((nmR_8 hV).mpr (by rw [hpb q] at hlt; exact hlt))
  unfold opd at h1 h0
  rw [if_neg (by omega), if_neg (by omega), if_pos hlt] at h1 h0
  rcases hd with hd | hd
  · subst hd
    refine tM_op_is hc (fun hop => ?_) (fun hop => absurd hK hop)
    refine J_iload_n dX12_operand_77 rfl ?_
    refine J_if_ne (tgt := 98) dX12_operand_78 (by decide) (fun c1 => ?_) (fun c1 => ?_)
    · -- to 98
      refine J_iload_n dX12_operand_98 rfl ?_
      refine J_if_eq (tgt := 208) dX12_operand_99 (by decide) (fun c2 => ?_) (fun c2 => ?_)
      · -- to 208
        exact absurd c2 (by decide)
      · -- on 102
        refine J_aload_n dX12_operand_102 rfl ?_
        refine M_getI dX12_operand_103 fX12_177 rfl rfl (by decide) ?_
        rw [hc.2.2.1.2.1]
        refine J_iconst (v := 1) dX12_operand_106 (by decide) ?_
        refine J_icmp_ne (tgt := 117) dX12_operand_107 (by decide) (fun c3 => ?_) (fun c3 => ?_)
        · -- to 117
          exact absurd ((srt_1 h256 h19).mpr (Or.inl hK3)) c3
        · -- on 110
          refine J_aload_n dX12_operand_110 rfl ?_
          refine M_callV0 (mc := mX12_named) dX12_operand_111 kX12_261 oX12_named (Nat.le_of_ble_eq_true rfl) (Nat.le_of_ble_eq_true rfl) rfl (by decide) rfl ?_
          refine M_more (d := 0) (Nat.zero_le _) (tX12_named hc hK3 ?_)
          rw [hnm]
          refine J_goto (tgt := 118) dX12_operand_114 (by decide) ?_
          refine J_istore dX12_operand_118 (by decide) rfl ?_
          dsimp only [setL]
          refine J_aload_n dX12_operand_120 rfl ?_
          refine M_getI dX12_operand_121 fX12_264 rfl rfl (by decide) ?_
          rw [hc.2.2.2.2.2.2.1]
          refine J_bipush (v := 120) dX12_operand_124 (by decide) ?_
          refine J_icmp_ne (tgt := 137) dX12_operand_126 (by decide) (fun c5 => ?_) (fun c5 => ?_)
          · -- to 137
            refine J_iload dX12_operand_137 rfl ?_
            refine J_if_lt (tgt := 153) dX12_operand_139 (by decide) (fun c6 => ?_) (fun c6 => ?_)
            · -- to 153
              exact absurd c6 (nn1 (by omega))
            · -- on 142
              refine J_iload dX12_operand_142 rfl ?_
              refine J_bipush (v := 7) dX12_operand_144 (by decide) ?_
              refine J_icmp_le (tgt := 158) dX12_operand_146 (by decide) (fun c7 => ?_) (fun c7 => ?_)
              · -- to 158
                refine J_aload_n dX12_operand_158 rfl ?_
                refine M_getI dX12_operand_159 fX12_189 rfl rfl (by decide) ?_
                rw [hc.2.2.2.2.2.2.2.2.2.2.2.1]
                refine J_if_le (tgt := 167) dX12_operand_162 (by decide) (fun c8 => ?_) (fun c8 => ?_)
                · -- to 167
                  refine J_aload_n dX12_operand_167 rfl ?_
                  refine J_aload_n dX12_operand_168 rfl ?_
                  refine M_getI dX12_operand_169 fX12_177 rfl rfl (by decide) ?_
                  rw [hc.2.2.1.2.1]
                  refine J_iconst (v := 2) dX12_operand_172 (by decide) ?_
                  refine J_icmp_ne (tgt := 180) dX12_operand_173 (by decide) (fun c9 => ?_) (fun c9 => ?_)
                  · -- to 180
                    refine J_bipush (v := 20) dX12_operand_180 (by decide) ?_
                    refine J_iload dX12_operand_182 rfl ?_
                    refine J_iadd dX12_operand_184 ?_
                    rw [show (20 : Int32) = nI 20 from rfl, nI_add]
                    refine J_aload_n dX12_operand_185 rfl ?_
                    refine M_getI dX12_operand_186 fX12_174 rfl rfl (by decide) ?_
                    refine M_callV2 (mc := mX12_step) dX12_operand_189 kX12_229 oX12_step (Nat.le_of_ble_eq_true rfl) (Nat.le_of_ble_eq_true rfl) rfl (by decide) rfl ?_
                    refine M_more (d := 0) (Nat.zero_le _) (tX12_step (m := x.2.1.length) hc.2.2.2.2.1 (by have := hc.l600 hnb; omega) ?_)
                    refine J_aload_n dX12_operand_192 rfl ?_
                    refine J_dup dX12_operand_193 rfl ?_
                    refine M_getI dX12_operand_194 fX12_264 rfl rfl (by decide) ?_
                    rw [rd3 (by decide), rd2 (by decide), rd2 (by decide), hc.2.2.2.2.2.2.1]
                    refine J_iconst (v := 1) dX12_operand_197 (by decide) ?_
                    refine J_iadd dX12_operand_198 ?_
                    rw [nI_1]
                    refine M_putI dX12_operand_199 pX12_264 rfl rfl (by decide) ?_
                    rw [wr_sw]
                    have hp := hc.step (c := x.1.2.1) (b := N.1 62 33) (ops := x.2.2 + 1) (fun q => absurd q (by omega)) (by omega) ws hc.2.2.2.2.2.2.2.2.2.1 hl hc.2.2.2.2.2.2.2.2.2.2.2.2.2.1 (by omega)
                    rw [wr_id (j := 36) hc.2.2.2.2.2.2.2.2.1, wr_id (j := 37) hc.2.2.2.2.2.2.2.2.2.2.1, enc_nm hV] at hp
                    refine J_aload_n dX12_operand_202 rfl ?_
                    refine M_callV0 (mc := mX12_next) dX12_operand_203 kX12_267 oX12_next (Nat.le_of_ble_eq_true rfl) (Nat.le_of_ble_eq_true rfl) rfl (by decide) rfl ?_
                    refine M_more (d := 2) (by omega) (tX12_adv (d := 0) (T := T) (x := (x.1, x.2.1 ++ [x.1.2.1], x.2.2 + 1)) hnb hn hT hp (by show x.1.1 ≠ 0; omega) (by show x.1.1 ≠ 1; omega) (fun N3 hc3 => ?_))
                    refine J_iconst (v := 2) dX12_operand_206 (by decide) ?_
                    refine M_iret dX12_operand_207 rfl rfl ?_
                    exact h1 rfl N3 hc3
                  · -- on 176
                    exact absurd ((srt_2 h256).mp c9) (by omega)
                · -- on 165
                  exact absurd (by decide) c8
              · -- on 149
                have cSev := c7
                refine J_iload_n dX12_operand_149 rfl ?_
                refine J_if_ne (tgt := 158) dX12_operand_150 (by decide) (fun c12 => ?_) (fun c12 => ?_)
                · -- to 158
                  refine J_aload_n dX12_operand_158 rfl ?_
                  refine M_getI dX12_operand_159 fX12_189 rfl rfl (by decide) ?_
                  rw [hc.2.2.2.2.2.2.2.2.2.2.2.1]
                  refine J_if_le (tgt := 167) dX12_operand_162 (by decide) (fun c13 => ?_) (fun c13 => ?_)
                  · -- to 167
                    refine J_aload_n dX12_operand_167 rfl ?_
                    refine J_aload_n dX12_operand_168 rfl ?_
                    refine M_getI dX12_operand_169 fX12_177 rfl rfl (by decide) ?_
                    rw [hc.2.2.1.2.1]
                    refine J_iconst (v := 2) dX12_operand_172 (by decide) ?_
                    refine J_icmp_ne (tgt := 180) dX12_operand_173 (by decide) (fun c14 => ?_) (fun c14 => ?_)
                    · -- to 180
                      refine J_bipush (v := 20) dX12_operand_180 (by decide) ?_
                      refine J_iload dX12_operand_182 rfl ?_
                      refine J_iadd dX12_operand_184 ?_
                      rw [show (20 : Int32) = nI 20 from rfl, nI_add]
                      refine J_aload_n dX12_operand_185 rfl ?_
                      refine M_getI dX12_operand_186 fX12_174 rfl rfl (by decide) ?_
                      refine M_callV2 (mc := mX12_step) dX12_operand_189 kX12_229 oX12_step (Nat.le_of_ble_eq_true rfl) (Nat.le_of_ble_eq_true rfl) rfl (by decide) rfl ?_
                      refine M_more (d := 0) (Nat.zero_le _) (tX12_step (m := x.2.1.length) hc.2.2.2.2.1 (by have := hc.l600 hnb; omega) ?_)
                      refine J_aload_n dX12_operand_192 rfl ?_
                      refine J_dup dX12_operand_193 rfl ?_
                      refine M_getI dX12_operand_194 fX12_264 rfl rfl (by decide) ?_
                      rw [rd3 (by decide), rd2 (by decide), rd2 (by decide), hc.2.2.2.2.2.2.1]
                      refine J_iconst (v := 1) dX12_operand_197 (by decide) ?_
                      refine J_iadd dX12_operand_198 ?_
                      rw [nI_1]
                      refine M_putI dX12_operand_199 pX12_264 rfl rfl (by decide) ?_
                      rw [wr_sw]
                      have hp := hc.step (c := x.1.2.1) (b := N.1 62 33) (ops := x.2.2 + 1) (fun q => absurd q (by omega)) (by omega) ws hc.2.2.2.2.2.2.2.2.2.1 hl hc.2.2.2.2.2.2.2.2.2.2.2.2.2.1 (by omega)
                      rw [wr_id (j := 36) hc.2.2.2.2.2.2.2.2.1, wr_id (j := 37) hc.2.2.2.2.2.2.2.2.2.2.1, enc_nm hV] at hp
                      refine J_aload_n dX12_operand_202 rfl ?_
                      refine M_callV0 (mc := mX12_next) dX12_operand_203 kX12_267 oX12_next (Nat.le_of_ble_eq_true rfl) (Nat.le_of_ble_eq_true rfl) rfl (by decide) rfl ?_
                      refine M_more (d := 2) (by omega) (tX12_adv (d := 0) (T := T) (x := (x.1, x.2.1 ++ [x.1.2.1], x.2.2 + 1)) hnb hn hT hp (by show x.1.1 ≠ 0; omega) (by show x.1.1 ≠ 1; omega) (fun N3 hc3 => ?_))
                      refine J_iconst (v := 2) dX12_operand_206 (by decide) ?_
                      refine M_iret dX12_operand_207 rfl rfl ?_
                      exact h1 rfl N3 hc3
                    · -- on 176
                      exact absurd ((srt_2 h256).mp c14) (by omega)
                  · -- on 165
                    exact absurd (by decide) c13
                · -- on 153
                  exact absurd c12 (fun q => hpb q (fun z => cSev (nI_le z (by decide))))
          · -- on 129
            exact absurd ((nI_eq (a := x.2.2) (b := 120) (by omega) (by decide)).mp c5) (by omega)
    · -- on 81
      exact absurd c1 (by decide)
  · obtain ⟨rfl, hd⟩ := hd
    refine tM_op_is hc (fun hop => ?_) (fun hop => absurd hK hop)
    refine J_iload_n dX12_operand_77 rfl ?_
    refine J_if_ne (tgt := 98) dX12_operand_78 (by decide) (fun c1 => ?_) (fun c1 => ?_)
    · -- to 98
      exact absurd c1 (by decide)
    · -- on 81
      refine J_aload_n dX12_operand_81 rfl ?_
      refine M_getI dX12_operand_82 fX12_226 rfl rfl (by decide) ?_
      rw [hc.2.2.2.2.2.2.2.2.2.2.1]
      refine J_bipush (v := 8) dX12_operand_85 (by decide) ?_
      refine J_icmp_lt (tgt := 98) dX12_operand_87 (by decide) (fun c2 => ?_) (fun c2 => ?_)
      · -- to 98
        refine J_iload_n dX12_operand_98 rfl ?_
        refine J_if_eq (tgt := 208) dX12_operand_99 (by decide) (fun c3 => ?_) (fun c3 => ?_)
        · -- to 208
          exact absurd c3 (by decide)
        · -- on 102
          refine J_aload_n dX12_operand_102 rfl ?_
          refine M_getI dX12_operand_103 fX12_177 rfl rfl (by decide) ?_
          rw [hc.2.2.1.2.1]
          refine J_iconst (v := 1) dX12_operand_106 (by decide) ?_
          refine J_icmp_ne (tgt := 117) dX12_operand_107 (by decide) (fun c4 => ?_) (fun c4 => ?_)
          · -- to 117
            exact absurd ((srt_1 h256 h19).mpr (Or.inl hK3)) c4
          · -- on 110
            refine J_aload_n dX12_operand_110 rfl ?_
            refine M_callV0 (mc := mX12_named) dX12_operand_111 kX12_261 oX12_named (Nat.le_of_ble_eq_true rfl) (Nat.le_of_ble_eq_true rfl) rfl (by decide) rfl ?_
            refine M_more (d := 0) (Nat.zero_le _) (tX12_named hc hK3 ?_)
            rw [hnm]
            refine J_goto (tgt := 118) dX12_operand_114 (by decide) ?_
            refine J_istore dX12_operand_118 (by decide) rfl ?_
            dsimp only [setL]
            refine J_aload_n dX12_operand_120 rfl ?_
            refine M_getI dX12_operand_121 fX12_264 rfl rfl (by decide) ?_
            rw [hc.2.2.2.2.2.2.1]
            refine J_bipush (v := 120) dX12_operand_124 (by decide) ?_
            refine J_icmp_ne (tgt := 137) dX12_operand_126 (by decide) (fun c6 => ?_) (fun c6 => ?_)
            · -- to 137
              refine J_iload dX12_operand_137 rfl ?_
              refine J_if_lt (tgt := 153) dX12_operand_139 (by decide) (fun c7 => ?_) (fun c7 => ?_)
              · -- to 153
                exact absurd c7 (nn1 (by omega))
              · -- on 142
                refine J_iload dX12_operand_142 rfl ?_
                refine J_bipush (v := 7) dX12_operand_144 (by decide) ?_
                refine J_icmp_le (tgt := 158) dX12_operand_146 (by decide) (fun c8 => ?_) (fun c8 => ?_)
                · -- to 158
                  refine J_aload_n dX12_operand_158 rfl ?_
                  refine M_getI dX12_operand_159 fX12_189 rfl rfl (by decide) ?_
                  rw [hc.2.2.2.2.2.2.2.2.2.2.2.1]
                  refine J_if_le (tgt := 167) dX12_operand_162 (by decide) (fun c9 => ?_) (fun c9 => ?_)
                  · -- to 167
                    refine J_aload_n dX12_operand_167 rfl ?_
                    refine J_aload_n dX12_operand_168 rfl ?_
                    refine M_getI dX12_operand_169 fX12_177 rfl rfl (by decide) ?_
                    rw [hc.2.2.1.2.1]
                    refine J_iconst (v := 2) dX12_operand_172 (by decide) ?_
                    refine J_icmp_ne (tgt := 180) dX12_operand_173 (by decide) (fun c10 => ?_) (fun c10 => ?_)
                    · -- to 180
                      refine J_bipush (v := 20) dX12_operand_180 (by decide) ?_
                      refine J_iload dX12_operand_182 rfl ?_
                      refine J_iadd dX12_operand_184 ?_
                      rw [show (20 : Int32) = nI 20 from rfl, nI_add]
                      refine J_aload_n dX12_operand_185 rfl ?_
                      refine M_getI dX12_operand_186 fX12_174 rfl rfl (by decide) ?_
                      refine M_callV2 (mc := mX12_step) dX12_operand_189 kX12_229 oX12_step (Nat.le_of_ble_eq_true rfl) (Nat.le_of_ble_eq_true rfl) rfl (by decide) rfl ?_
                      refine M_more (d := 0) (Nat.zero_le _) (tX12_step (m := x.2.1.length) hc.2.2.2.2.1 (by have := hc.l600 hnb; omega) ?_)
                      refine J_aload_n dX12_operand_192 rfl ?_
                      refine J_dup dX12_operand_193 rfl ?_
                      refine M_getI dX12_operand_194 fX12_264 rfl rfl (by decide) ?_
                      rw [rd3 (by decide), rd2 (by decide), rd2 (by decide), hc.2.2.2.2.2.2.1]
                      refine J_iconst (v := 1) dX12_operand_197 (by decide) ?_
                      refine J_iadd dX12_operand_198 ?_
                      rw [nI_1]
                      refine M_putI dX12_operand_199 pX12_264 rfl rfl (by decide) ?_
                      rw [wr_sw]
                      have hp := hc.step (c := x.1.2.1) (b := N.1 62 33) (ops := x.2.2 + 1) (fun q => absurd q (by omega)) (by omega) ws hc.2.2.2.2.2.2.2.2.2.1 hl hc.2.2.2.2.2.2.2.2.2.2.2.2.2.1 (by omega)
                      rw [wr_id (j := 36) hc.2.2.2.2.2.2.2.2.1, wr_id (j := 37) hc.2.2.2.2.2.2.2.2.2.2.1, enc_nm hV] at hp
                      refine J_aload_n dX12_operand_202 rfl ?_
                      refine M_callV0 (mc := mX12_next) dX12_operand_203 kX12_267 oX12_next (Nat.le_of_ble_eq_true rfl) (Nat.le_of_ble_eq_true rfl) rfl (by decide) rfl ?_
                      refine M_more (d := 2) (by omega) (tX12_adv (d := 0) (T := T) (x := (x.1, x.2.1 ++ [x.1.2.1], x.2.2 + 1)) hnb hn hT hp (by show x.1.1 ≠ 0; omega) (by show x.1.1 ≠ 1; omega) (fun N3 hc3 => ?_))
                      refine J_iconst (v := 2) dX12_operand_206 (by decide) ?_
                      refine M_iret dX12_operand_207 rfl rfl ?_
                      exact h1 rfl N3 hc3
                    · -- on 176
                      exact absurd ((srt_2 h256).mp c10) (by omega)
                  · -- on 165
                    exact absurd (by decide) c9
                · -- on 149
                  have cSev := c8
                  refine J_iload_n dX12_operand_149 rfl ?_
                  refine J_if_ne (tgt := 158) dX12_operand_150 (by decide) (fun c13 => ?_) (fun c13 => ?_)
                  · -- to 158
                    refine J_aload_n dX12_operand_158 rfl ?_
                    refine M_getI dX12_operand_159 fX12_189 rfl rfl (by decide) ?_
                    rw [hc.2.2.2.2.2.2.2.2.2.2.2.1]
                    refine J_if_le (tgt := 167) dX12_operand_162 (by decide) (fun c14 => ?_) (fun c14 => ?_)
                    · -- to 167
                      refine J_aload_n dX12_operand_167 rfl ?_
                      refine J_aload_n dX12_operand_168 rfl ?_
                      refine M_getI dX12_operand_169 fX12_177 rfl rfl (by decide) ?_
                      rw [hc.2.2.1.2.1]
                      refine J_iconst (v := 2) dX12_operand_172 (by decide) ?_
                      refine J_icmp_ne (tgt := 180) dX12_operand_173 (by decide) (fun c15 => ?_) (fun c15 => ?_)
                      · -- to 180
                        refine J_bipush (v := 20) dX12_operand_180 (by decide) ?_
                        refine J_iload dX12_operand_182 rfl ?_
                        refine J_iadd dX12_operand_184 ?_
                        rw [show (20 : Int32) = nI 20 from rfl, nI_add]
                        refine J_aload_n dX12_operand_185 rfl ?_
                        refine M_getI dX12_operand_186 fX12_174 rfl rfl (by decide) ?_
                        refine M_callV2 (mc := mX12_step) dX12_operand_189 kX12_229 oX12_step (Nat.le_of_ble_eq_true rfl) (Nat.le_of_ble_eq_true rfl) rfl (by decide) rfl ?_
                        refine M_more (d := 0) (Nat.zero_le _) (tX12_step (m := x.2.1.length) hc.2.2.2.2.1 (by have := hc.l600 hnb; omega) ?_)
                        refine J_aload_n dX12_operand_192 rfl ?_
                        refine J_dup dX12_operand_193 rfl ?_
                        refine M_getI dX12_operand_194 fX12_264 rfl rfl (by decide) ?_
                        rw [rd3 (by decide), rd2 (by decide), rd2 (by decide), hc.2.2.2.2.2.2.1]
                        refine J_iconst (v := 1) dX12_operand_197 (by decide) ?_
                        refine J_iadd dX12_operand_198 ?_
                        rw [nI_1]
                        refine M_putI dX12_operand_199 pX12_264 rfl rfl (by decide) ?_
                        rw [wr_sw]
                        have hp := hc.step (c := x.1.2.1) (b := N.1 62 33) (ops := x.2.2 + 1) (fun q => absurd q (by omega)) (by omega) ws hc.2.2.2.2.2.2.2.2.2.1 hl hc.2.2.2.2.2.2.2.2.2.2.2.2.2.1 (by omega)
                        rw [wr_id (j := 36) hc.2.2.2.2.2.2.2.2.1, wr_id (j := 37) hc.2.2.2.2.2.2.2.2.2.2.1, enc_nm hV] at hp
                        refine J_aload_n dX12_operand_202 rfl ?_
                        refine M_callV0 (mc := mX12_next) dX12_operand_203 kX12_267 oX12_next (Nat.le_of_ble_eq_true rfl) (Nat.le_of_ble_eq_true rfl) rfl (by decide) rfl ?_
                        refine M_more (d := 2) (by omega) (tX12_adv (d := 0) (T := T) (x := (x.1, x.2.1 ++ [x.1.2.1], x.2.2 + 1)) hnb hn hT hp (by show x.1.1 ≠ 0; omega) (by show x.1.1 ≠ 1; omega) (fun N3 hc3 => ?_))
                        refine J_iconst (v := 2) dX12_operand_206 (by decide) ?_
                        refine M_iret dX12_operand_207 rfl rfl ?_
                        exact h1 rfl N3 hc3
                      · -- on 176
                        exact absurd ((srt_2 h256).mp c15) (by omega)
                    · -- on 165
                      exact absurd (by decide) c14
                  · -- on 153
                    exact absurd c13 (fun q => hpb q (fun z => cSev (nI_le z (by decide))))
            · -- on 129
              exact absurd ((nI_eq (a := x.2.2) (b := 120) (by omega) (by decide)).mp c6) (by omega)
      · -- on 90
        exact absurd (nI_lt (b := 8) hd (by decide)) c2

set_option maxRecDepth 100000 in
set_option maxHeartbeats 1000000 in
theorem tM_op_Bbadl {d : Nat} {Φ : Option Int32 → Mem → Prop} {M0 N : Mem} {n : Nat} {T : Nat → Nat} {x : PSt} {ws : List Nat} {b : Int32} {st lim : Nat} (hnb : n ≤ 1000) (hn : M0.1 62 30 = nI n) (hT : ∀ i, M0.1 81 i = nI (T i) ∧ T i < 256) (hc : PQ M0 N n x ws) (hK3 : x.1.1 = 3) (h120 : x.2.2 < 120) (hV : x.1.2.1 < 14) (hlt : ¬ x.1.2.1 < lim) (hlim : lim = 8) (hb0 : b = 0) (hd : st = 1 ∨ (st = 0 ∧ dpc ws < 8)) (h1 : (opd lim x).1 = none → ∀ N2, PQ M0 N2 n (advP T n (opd lim x).2) ws → Φ (some 2) N2) (h0 : ∀ v, (opd lim x).1 = some v → ∀ N2, QF M0 N2 v → Φ (some (nI st)) N2) : JM noRo (d + 3) mX12_operand 0 [some (.ref 62), some (.int (nI st)), some (.int b)] [] N Φ := by
  have h256 := hc.2.2.2.1.2.2.2.2.2.2.1
  have h19 := hc.2.2.2.1.2.2.2.2.2.2.2.2
  have h11 := hc.2.2.2.2.2.2.2.2.2.2.2.2.2.2.2
  have h120b := hc.2.2.2.2.2.2.2.1
  have hdl := dpc_le ws
  have hl := hc.2.2.2.2.2.2.2.2.2.2.2.2.2.2.1
  have hK : x.1.1 = 2 ∨ x.1.1 = 3 := Or.inr hK3
  have hnm : nmI x.1.2.1 = nI (nmR x.1.2.1) := if_pos hV
  have hnl := nmR_lt hV
  have hn7 : ¬ nmR x.1.2.1 ≤ 7 := fun z => hlt (by rw [hlim]; exact (nmR_8 hV).mp z)
  unfold opd at h1 h0
  rw [if_neg (by omega), if_neg (by omega), if_neg hlt] at h1 h0
  rcases hd with hd | hd
  · subst hd
    refine tM_op_is hc (fun hop => ?_) (fun hop => absurd hK hop)
    refine J_iload_n dX12_operand_77 rfl ?_
    refine J_if_ne (tgt := 98) dX12_operand_78 (by decide) (fun c1 => ?_) (fun c1 => ?_)
    · -- to 98
      refine J_iload_n dX12_operand_98 rfl ?_
      refine J_if_eq (tgt := 208) dX12_operand_99 (by decide) (fun c2 => ?_) (fun c2 => ?_)
      · -- to 208
        exact absurd c2 (by decide)
      · -- on 102
        refine J_aload_n dX12_operand_102 rfl ?_
        refine M_getI dX12_operand_103 fX12_177 rfl rfl (by decide) ?_
        rw [hc.2.2.1.2.1]
        refine J_iconst (v := 1) dX12_operand_106 (by decide) ?_
        refine J_icmp_ne (tgt := 117) dX12_operand_107 (by decide) (fun c3 => ?_) (fun c3 => ?_)
        · -- to 117
          exact absurd ((srt_1 h256 h19).mpr (Or.inl hK3)) c3
        · -- on 110
          refine J_aload_n dX12_operand_110 rfl ?_
          refine M_callV0 (mc := mX12_named) dX12_operand_111 kX12_261 oX12_named (Nat.le_of_ble_eq_true rfl) (Nat.le_of_ble_eq_true rfl) rfl (by decide) rfl ?_
          refine M_more (d := 0) (Nat.zero_le _) (tX12_named hc hK3 ?_)
          rw [hnm]
          refine J_goto (tgt := 118) dX12_operand_114 (by decide) ?_
          refine J_istore dX12_operand_118 (by decide) rfl ?_
          dsimp only [setL]
          refine J_aload_n dX12_operand_120 rfl ?_
          refine M_getI dX12_operand_121 fX12_264 rfl rfl (by decide) ?_
          rw [hc.2.2.2.2.2.2.1]
          refine J_bipush (v := 120) dX12_operand_124 (by decide) ?_
          refine J_icmp_ne (tgt := 137) dX12_operand_126 (by decide) (fun c5 => ?_) (fun c5 => ?_)
          · -- to 137
            refine J_iload dX12_operand_137 rfl ?_
            refine J_if_lt (tgt := 153) dX12_operand_139 (by decide) (fun c6 => ?_) (fun c6 => ?_)
            · -- to 153
              exact absurd c6 (nn1 (by omega))
            · -- on 142
              refine J_iload dX12_operand_142 rfl ?_
              refine J_bipush (v := 7) dX12_operand_144 (by decide) ?_
              refine J_icmp_le (tgt := 158) dX12_operand_146 (by decide) (fun c7 => ?_) (fun c7 => ?_)
              · -- to 158
                exact absurd c7 (nI_ge (a := 7) (by omega) (by omega))
              · -- on 149
                refine J_iload_n dX12_operand_149 rfl ?_
                refine J_if_ne (tgt := 158) dX12_operand_150 (by decide) (fun c8 => ?_) (fun c8 => ?_)
                · -- to 158
                  exact absurd hb0 c8
                · -- on 153
                  refine J_aload_n dX12_operand_153 rfl ?_
                  refine J_iconst (v := 3) dX12_operand_154 (by decide) ?_
                  refine M_callV1 (mc := mX12_wrong) dX12_operand_155 kX12_258 oX12_wrong (Nat.le_of_ble_eq_true rfl) (Nat.le_of_ble_eq_true rfl) rfl (by decide) rfl ?_
                  refine M_more (d := 0) (Nat.zero_le _) (tX12_wrong (f := 3) hc (fun N2 hN => ?_))
                  refine J_aload_n dX12_operand_158 rfl ?_
                  refine M_getI dX12_operand_159 fX12_189 rfl rfl (by decide) ?_
                  refine J_if_le (tgt := 167) dX12_operand_162 (by decide) (fun c10 => ?_) (fun c10 => ?_)
                  · -- to 167
                    exact absurd c10 (by rw [hN.2.2.1]; show ¬ nI (if x.1.1 = 1 then 1 else 3) ≤ 0; split <;> decide)
                  · -- on 165
                    refine J_iload_n dX12_operand_165 rfl ?_
                    refine M_iret dX12_operand_166 rfl rfl ?_
                    exact h0 _ rfl N2 hN
          · -- on 129
            exact absurd ((nI_eq (a := x.2.2) (b := 120) (by omega) (by decide)).mp c5) (by omega)
    · -- on 81
      exact absurd c1 (by decide)
  · obtain ⟨rfl, hd⟩ := hd
    refine tM_op_is hc (fun hop => ?_) (fun hop => absurd hK hop)
    refine J_iload_n dX12_operand_77 rfl ?_
    refine J_if_ne (tgt := 98) dX12_operand_78 (by decide) (fun c1 => ?_) (fun c1 => ?_)
    · -- to 98
      exact absurd c1 (by decide)
    · -- on 81
      refine J_aload_n dX12_operand_81 rfl ?_
      refine M_getI dX12_operand_82 fX12_226 rfl rfl (by decide) ?_
      rw [hc.2.2.2.2.2.2.2.2.2.2.1]
      refine J_bipush (v := 8) dX12_operand_85 (by decide) ?_
      refine J_icmp_lt (tgt := 98) dX12_operand_87 (by decide) (fun c2 => ?_) (fun c2 => ?_)
      · -- to 98
        refine J_iload_n dX12_operand_98 rfl ?_
        refine J_if_eq (tgt := 208) dX12_operand_99 (by decide) (fun c3 => ?_) (fun c3 => ?_)
        · -- to 208
          exact absurd c3 (by decide)
        · -- on 102
          refine J_aload_n dX12_operand_102 rfl ?_
          refine M_getI dX12_operand_103 fX12_177 rfl rfl (by decide) ?_
          rw [hc.2.2.1.2.1]
          refine J_iconst (v := 1) dX12_operand_106 (by decide) ?_
          refine J_icmp_ne (tgt := 117) dX12_operand_107 (by decide) (fun c4 => ?_) (fun c4 => ?_)
          · -- to 117
            exact absurd ((srt_1 h256 h19).mpr (Or.inl hK3)) c4
          · -- on 110
            refine J_aload_n dX12_operand_110 rfl ?_
            refine M_callV0 (mc := mX12_named) dX12_operand_111 kX12_261 oX12_named (Nat.le_of_ble_eq_true rfl) (Nat.le_of_ble_eq_true rfl) rfl (by decide) rfl ?_
            refine M_more (d := 0) (Nat.zero_le _) (tX12_named hc hK3 ?_)
            rw [hnm]
            refine J_goto (tgt := 118) dX12_operand_114 (by decide) ?_
            refine J_istore dX12_operand_118 (by decide) rfl ?_
            dsimp only [setL]
            refine J_aload_n dX12_operand_120 rfl ?_
            refine M_getI dX12_operand_121 fX12_264 rfl rfl (by decide) ?_
            rw [hc.2.2.2.2.2.2.1]
            refine J_bipush (v := 120) dX12_operand_124 (by decide) ?_
            refine J_icmp_ne (tgt := 137) dX12_operand_126 (by decide) (fun c6 => ?_) (fun c6 => ?_)
            · -- to 137
              refine J_iload dX12_operand_137 rfl ?_
              refine J_if_lt (tgt := 153) dX12_operand_139 (by decide) (fun c7 => ?_) (fun c7 => ?_)
              · -- to 153
                exact absurd c7 (nn1 (by omega))
              · -- on 142
                refine J_iload dX12_operand_142 rfl ?_
                refine J_bipush (v := 7) dX12_operand_144 (by decide) ?_
                refine J_icmp_le (tgt := 158) dX12_operand_146 (by decide) (fun c8 => ?_) (fun c8 => ?_)
                · -- to 158
                  exact absurd c8 (nI_ge (a := 7) (by omega) (by omega))
                · -- on 149
                  refine J_iload_n dX12_operand_149 rfl ?_
                  refine J_if_ne (tgt := 158) dX12_operand_150 (by decide) (fun c9 => ?_) (fun c9 => ?_)
                  · -- to 158
                    exact absurd hb0 c9
                  · -- on 153
                    refine J_aload_n dX12_operand_153 rfl ?_
                    refine J_iconst (v := 3) dX12_operand_154 (by decide) ?_
                    refine M_callV1 (mc := mX12_wrong) dX12_operand_155 kX12_258 oX12_wrong (Nat.le_of_ble_eq_true rfl) (Nat.le_of_ble_eq_true rfl) rfl (by decide) rfl ?_
                    refine M_more (d := 0) (Nat.zero_le _) (tX12_wrong (f := 3) hc (fun N2 hN => ?_))
                    refine J_aload_n dX12_operand_158 rfl ?_
                    refine M_getI dX12_operand_159 fX12_189 rfl rfl (by decide) ?_
                    refine J_if_le (tgt := 167) dX12_operand_162 (by decide) (fun c11 => ?_) (fun c11 => ?_)
                    · -- to 167
                      exact absurd c11 (by rw [hN.2.2.1]; show ¬ nI (if x.1.1 = 1 then 1 else 3) ≤ 0; split <;> decide)
                    · -- on 165
                      refine J_iload_n dX12_operand_165 rfl ?_
                      refine M_iret dX12_operand_166 rfl rfl ?_
                      exact h0 _ rfl N2 hN
            · -- on 129
              exact absurd ((nI_eq (a := x.2.2) (b := 120) (by omega) (by decide)).mp c6) (by omega)
      · -- on 90
        exact absurd (nI_lt (b := 8) hd (by decide)) c2

set_option maxRecDepth 100000 in
set_option maxHeartbeats 1000000 in
theorem tM_op_Bnone {d : Nat} {Φ : Option Int32 → Mem → Prop} {M0 N : Mem} {n : Nat} {T : Nat → Nat} {x : PSt} {ws : List Nat} {b : Int32} {st lim : Nat} (hnb : n ≤ 1000) (hn : M0.1 62 30 = nI n) (hT : ∀ i, M0.1 81 i = nI (T i) ∧ T i < 256) (hc : PQ M0 N n x ws) (hK3 : x.1.1 = 3) (h120 : x.2.2 < 120) (hV : x.1.2.1 = 99) (hlim : lim ≤ 14) (hd : st = 1 ∨ (st = 0 ∧ dpc ws < 8)) (h1 : (opd lim x).1 = none → ∀ N2, PQ M0 N2 n (advP T n (opd lim x).2) ws → Φ (some 2) N2) (h0 : ∀ v, (opd lim x).1 = some v → ∀ N2, QF M0 N2 v → Φ (some (nI st)) N2) : JM noRo (d + 3) mX12_operand 0 [some (.ref 62), some (.int (nI st)), some (.int b)] [] N Φ := by
  have h256 := hc.2.2.2.1.2.2.2.2.2.2.1
  have h19 := hc.2.2.2.1.2.2.2.2.2.2.2.2
  have h11 := hc.2.2.2.2.2.2.2.2.2.2.2.2.2.2.2
  have h120b := hc.2.2.2.2.2.2.2.1
  have hdl := dpc_le ws
  have hl := hc.2.2.2.2.2.2.2.2.2.2.2.2.2.2.1
  have hK : x.1.1 = 2 ∨ x.1.1 = 3 := Or.inr hK3
  have hnm : nmI x.1.2.1 = -1 := if_neg (by omega)
  unfold opd at h1 h0
  rw [if_neg (by omega), if_neg (by omega), if_neg (by omega)] at h1 h0
  rcases hd with hd | hd
  · subst hd
    refine tM_op_is hc (fun hop => ?_) (fun hop => absurd hK hop)
    refine J_iload_n dX12_operand_77 rfl ?_
    refine J_if_ne (tgt := 98) dX12_operand_78 (by decide) (fun c1 => ?_) (fun c1 => ?_)
    · -- to 98
      refine J_iload_n dX12_operand_98 rfl ?_
      refine J_if_eq (tgt := 208) dX12_operand_99 (by decide) (fun c2 => ?_) (fun c2 => ?_)
      · -- to 208
        exact absurd c2 (by decide)
      · -- on 102
        refine J_aload_n dX12_operand_102 rfl ?_
        refine M_getI dX12_operand_103 fX12_177 rfl rfl (by decide) ?_
        rw [hc.2.2.1.2.1]
        refine J_iconst (v := 1) dX12_operand_106 (by decide) ?_
        refine J_icmp_ne (tgt := 117) dX12_operand_107 (by decide) (fun c3 => ?_) (fun c3 => ?_)
        · -- to 117
          exact absurd ((srt_1 h256 h19).mpr (Or.inl hK3)) c3
        · -- on 110
          refine J_aload_n dX12_operand_110 rfl ?_
          refine M_callV0 (mc := mX12_named) dX12_operand_111 kX12_261 oX12_named (Nat.le_of_ble_eq_true rfl) (Nat.le_of_ble_eq_true rfl) rfl (by decide) rfl ?_
          refine M_more (d := 0) (Nat.zero_le _) (tX12_named hc hK3 ?_)
          rw [hnm]
          refine J_goto (tgt := 118) dX12_operand_114 (by decide) ?_
          refine J_istore dX12_operand_118 (by decide) rfl ?_
          dsimp only [setL]
          refine J_aload_n dX12_operand_120 rfl ?_
          refine M_getI dX12_operand_121 fX12_264 rfl rfl (by decide) ?_
          rw [hc.2.2.2.2.2.2.1]
          refine J_bipush (v := 120) dX12_operand_124 (by decide) ?_
          refine J_icmp_ne (tgt := 137) dX12_operand_126 (by decide) (fun c5 => ?_) (fun c5 => ?_)
          · -- to 137
            refine J_iload dX12_operand_137 rfl ?_
            refine J_if_lt (tgt := 153) dX12_operand_139 (by decide) (fun c6 => ?_) (fun c6 => ?_)
            · -- to 153
              refine J_aload_n dX12_operand_153 rfl ?_
              refine J_iconst (v := 3) dX12_operand_154 (by decide) ?_
              refine M_callV1 (mc := mX12_wrong) dX12_operand_155 kX12_258 oX12_wrong (Nat.le_of_ble_eq_true rfl) (Nat.le_of_ble_eq_true rfl) rfl (by decide) rfl ?_
              refine M_more (d := 0) (Nat.zero_le _) (tX12_wrong (f := 3) hc (fun N2 hN => ?_))
              refine J_aload_n dX12_operand_158 rfl ?_
              refine M_getI dX12_operand_159 fX12_189 rfl rfl (by decide) ?_
              refine J_if_le (tgt := 167) dX12_operand_162 (by decide) (fun c8 => ?_) (fun c8 => ?_)
              · -- to 167
                exact absurd c8 (by rw [hN.2.2.1]; show ¬ nI (if x.1.1 = 1 then 1 else 3) ≤ 0; split <;> decide)
              · -- on 165
                refine J_iload_n dX12_operand_165 rfl ?_
                refine M_iret dX12_operand_166 rfl rfl ?_
                exact h0 _ rfl N2 hN
            · -- on 142
              exact absurd c6 (by decide)
          · -- on 129
            exact absurd ((nI_eq (a := x.2.2) (b := 120) (by omega) (by decide)).mp c5) (by omega)
    · -- on 81
      exact absurd c1 (by decide)
  · obtain ⟨rfl, hd⟩ := hd
    refine tM_op_is hc (fun hop => ?_) (fun hop => absurd hK hop)
    refine J_iload_n dX12_operand_77 rfl ?_
    refine J_if_ne (tgt := 98) dX12_operand_78 (by decide) (fun c1 => ?_) (fun c1 => ?_)
    · -- to 98
      exact absurd c1 (by decide)
    · -- on 81
      refine J_aload_n dX12_operand_81 rfl ?_
      refine M_getI dX12_operand_82 fX12_226 rfl rfl (by decide) ?_
      rw [hc.2.2.2.2.2.2.2.2.2.2.1]
      refine J_bipush (v := 8) dX12_operand_85 (by decide) ?_
      refine J_icmp_lt (tgt := 98) dX12_operand_87 (by decide) (fun c2 => ?_) (fun c2 => ?_)
      · -- to 98
        refine J_iload_n dX12_operand_98 rfl ?_
        refine J_if_eq (tgt := 208) dX12_operand_99 (by decide) (fun c3 => ?_) (fun c3 => ?_)
        · -- to 208
          exact absurd c3 (by decide)
        · -- on 102
          refine J_aload_n dX12_operand_102 rfl ?_
          refine M_getI dX12_operand_103 fX12_177 rfl rfl (by decide) ?_
          rw [hc.2.2.1.2.1]
          refine J_iconst (v := 1) dX12_operand_106 (by decide) ?_
          refine J_icmp_ne (tgt := 117) dX12_operand_107 (by decide) (fun c4 => ?_) (fun c4 => ?_)
          · -- to 117
            exact absurd ((srt_1 h256 h19).mpr (Or.inl hK3)) c4
          · -- on 110
            refine J_aload_n dX12_operand_110 rfl ?_
            refine M_callV0 (mc := mX12_named) dX12_operand_111 kX12_261 oX12_named (Nat.le_of_ble_eq_true rfl) (Nat.le_of_ble_eq_true rfl) rfl (by decide) rfl ?_
            refine M_more (d := 0) (Nat.zero_le _) (tX12_named hc hK3 ?_)
            rw [hnm]
            refine J_goto (tgt := 118) dX12_operand_114 (by decide) ?_
            refine J_istore dX12_operand_118 (by decide) rfl ?_
            dsimp only [setL]
            refine J_aload_n dX12_operand_120 rfl ?_
            refine M_getI dX12_operand_121 fX12_264 rfl rfl (by decide) ?_
            rw [hc.2.2.2.2.2.2.1]
            refine J_bipush (v := 120) dX12_operand_124 (by decide) ?_
            refine J_icmp_ne (tgt := 137) dX12_operand_126 (by decide) (fun c6 => ?_) (fun c6 => ?_)
            · -- to 137
              refine J_iload dX12_operand_137 rfl ?_
              refine J_if_lt (tgt := 153) dX12_operand_139 (by decide) (fun c7 => ?_) (fun c7 => ?_)
              · -- to 153
                refine J_aload_n dX12_operand_153 rfl ?_
                refine J_iconst (v := 3) dX12_operand_154 (by decide) ?_
                refine M_callV1 (mc := mX12_wrong) dX12_operand_155 kX12_258 oX12_wrong (Nat.le_of_ble_eq_true rfl) (Nat.le_of_ble_eq_true rfl) rfl (by decide) rfl ?_
                refine M_more (d := 0) (Nat.zero_le _) (tX12_wrong (f := 3) hc (fun N2 hN => ?_))
                refine J_aload_n dX12_operand_158 rfl ?_
                refine M_getI dX12_operand_159 fX12_189 rfl rfl (by decide) ?_
                refine J_if_le (tgt := 167) dX12_operand_162 (by decide) (fun c9 => ?_) (fun c9 => ?_)
                · -- to 167
                  exact absurd c9 (by rw [hN.2.2.1]; show ¬ nI (if x.1.1 = 1 then 1 else 3) ≤ 0; split <;> decide)
                · -- on 165
                  refine J_iload_n dX12_operand_165 rfl ?_
                  refine M_iret dX12_operand_166 rfl rfl ?_
                  exact h0 _ rfl N2 hN
              · -- on 142
                exact absurd c7 (by decide)
            · -- on 129
              exact absurd ((nI_eq (a := x.2.2) (b := 120) (by omega) (by decide)).mp c6) (by omega)
      · -- on 90
        exact absurd (nI_lt (b := 8) hd (by decide)) c2

