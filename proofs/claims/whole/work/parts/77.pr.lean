theorem stl_n {lv : Nat} : ∀ ws rs, (stl lv ws rs).2.length + nop (stl lv ws rs).1 = rs.length + nop ws ∧ (stl lv ws rs).1.length ≤ ws.length
  | [], rs => ⟨rfl, Nat.le_refl _⟩
  | c :: r, rs => by
    rw [stl]
    by_cases h : c = 48 ∨ c < lv
    · rw [if_pos h]; exact ⟨rfl, Nat.le_refl _⟩
    · rw [if_neg h]
      have z := stl_n (lv := lv) r (rs ++ [dec c])
      rw [List.length_append, List.length_singleton] at z
      have e : nop (c :: r) = nop r + 1 := by rw [nop, if_neg (fun q => h (Or.inl q))]
      rw [e, List.length_cons]
      omega
theorem sto_n {an : Bool} : ∀ ws rs, (sto an ws rs).2.length + nop (sto an ws rs).1 = rs.length + nop ws ∧ (sto an ws rs).1.length ≤ ws.length
  | [], rs => ⟨rfl, Nat.le_refl _⟩
  | c :: r, rs => by
    rw [sto]
    by_cases h : c = 48 ∨ (an = true ∧ c = 41)
    · rw [if_pos h]; exact ⟨rfl, Nat.le_refl _⟩
    · rw [if_neg h]
      have z := sto_n (an := an) r (rs ++ [dec c])
      rw [List.length_append, List.length_singleton] at z
      have e : nop (c :: r) = nop r + 1 := by rw [nop, if_neg (fun q => h (Or.inl q))]
      rw [e, List.length_cons]
      omega
theorem PQ.close {M N : Mem} {n : Nat} {x : PSt} {r : List Nat} (h : PQ M N n x (48 :: r)) : PQ M (wr (wr N 62 36 (nI r.length)) 62 37 (nI (dpc r))) n x r := by
  obtain ⟨p1, p2, p3, p4, p5, p6, p7, p8, p9, p10, p11, p12, p13, p14, p15, p16⟩ := h
  have e62 : ∀ i, i ≠ 36 → i ≠ 37 → (wr (wr N 62 36 (nI r.length)) 62 37 (nI (dpc r))).1 62 i = N.1 62 i := fun i q3 q4 => by rw [rd3 q4, rd3 q3]
  refine ⟨fun a ha => ?_, fun i hi => ?_, ?_, p4, ?_, ?_, ?_, p8, ?_, ?_, ?_, ?_, ?_, fun q hq => p14 q (List.mem_cons_of_mem _ hq), ?_, ?_⟩
  · rw [rd2 (R4_ne ha).1, rd2 (R4_ne ha).1]; exact p1 a ha
  · have hi2 := hi
    simp only [SL, List.mem_cons, not_or, List.not_mem_nil, not_false_eq_true, and_true] at hi
    rw [e62 i hi.2.2.2.2.2.2.2.2.2.1 hi.2.2.2.2.2.2.2.2.2.2]; exact p2 i hi2
  · refine ⟨?_, ?_, fun q => ?_, fun q => ?_, p3.2.2.2.2⟩
    · rw [e62 32 (by decide) (by decide)]; exact p3.1
    · rw [e62 31 (by decide) (by decide)]; exact p3.2.1
    · rw [e62 29 (by decide) (by decide)]; exact p3.2.2.1 q
    · rw [e62 33 (by decide) (by decide)]; exact p3.2.2.2.1 q
  · rw [e62 23 (by decide) (by decide)]; exact p5
  · rw [rd2 (by decide), rd2 (by decide), rd2 (by decide), rd2 (by decide)]; exact p6
  · rw [e62 24 (by decide) (by decide)]; exact p7
  · rw [rd3 (by decide), rd1]
  · rw [rd2 (by decide), rd2 (by decide)]; exact p10.2
  · rw [rd1]
  · rw [e62 27 (by decide) (by decide)]; exact p12
  · rw [e62 28 (by decide) (by decide)]; exact p13
  · rw [List.length_cons] at p15; omega
  · rw [nop, if_pos rfl] at p16; exact p16
set_option maxRecDepth 100000 in
set_option maxHeartbeats 1000000 in
theorem tM_sg_43 {d : Nat} {Φ : Option Int32 → Mem → Prop} {M0 N : Mem} {n : Nat} {T : Nat → Nat} {x : PSt} {ws : List Nat} (hnb : n ≤ 1000) (hn : M0.1 62 30 = nI n) (hT : ∀ i, M0.1 81 i = nI (T i) ∧ T i < 256) (hc : PQ M0 N n x ws) (hK : x.1.1 = 43) (hlen : (stl 46 ws x.2.1).1.length < 60) (hb : 3 * (x.2.1.length + nop ws + 1) ≤ 6 * x.2.2 + x.1.2.2.2) (h : ∀ N2, PQ M0 N2 n (advP T n (x.1, (stl 46 ws x.2.1).2, x.2.2)) (46 :: (stl 46 ws x.2.1).1) → Φ (some 1) N2) : JM noRo (d + 3) mX12_sign 0 [some (.ref 62)] [] N Φ := by
  have h256 := hc.2.2.2.1.2.2.2.2.2.2.1
  have h19 := hc.2.2.2.1.2.2.2.2.2.2.2.2
  refine J_aload_n dX12_sign_0 rfl ?_
  refine M_getI dX12_sign_1 fX12_177 rfl rfl (by decide) ?_
  rw [hc.2.2.1.2.1]
  rw [show srt x.1.1 = 43 by rw [hK]; rfl]
  refine J_bipush (v := 43) dX12_sign_4 (by decide) ?_
  refine J_icmp_eq (tgt := 18) dX12_sign_6 (by decide) (fun c1 => ?_) (fun c1 => ?_)
  · -- to 18
    refine J_aload_n dX12_sign_18 rfl ?_
    refine J_bipush (v := 46) dX12_sign_19 (by decide) ?_
    refine M_callV1 (mc := mX12_settle) dX12_sign_21 kX12_245 oX12_settle (Nat.le_of_ble_eq_true rfl) (Nat.le_of_ble_eq_true rfl) rfl (by decide) rfl ?_
    refine M_more (d := 1) (by omega) (tX12_settle_l (d := 0) (lv := 46) hnb (by decide) ws x N hc (fun N2 hc2 => ?_))
    refine J_aload_n dX12_sign_24 rfl ?_
    refine J_aload_n dX12_sign_25 rfl ?_
    refine M_getI dX12_sign_26 fX12_177 rfl rfl (by decide) ?_
    rw [hc2.2.2.1.2.1]
    rw [show srt x.1.1 = 43 by rw [hK]; rfl]
    refine J_bipush (v := 43) dX12_sign_29 (by decide) ?_
    refine J_icmp_ne (tgt := 39) dX12_sign_31 (by decide) (fun c3 => ?_) (fun c3 => ?_)
    · -- to 39
      exact absurd c3 (by decide)
    · -- on 34
      refine J_bipush (v := 46) dX12_sign_34 (by decide) ?_
      refine J_goto (tgt := 41) dX12_sign_36 (by decide) ?_
      refine M_callV1 (mc := mX12_hold) dX12_sign_41 kX12_270 oX12_hold (Nat.le_of_ble_eq_true rfl) (Nat.le_of_ble_eq_true rfl) rfl (by decide) rfl ?_
      refine M_more (d := 0) (Nat.zero_le _) (tX12_hold (c := 46) hc2 (by unfold opW; decide) hlen (by have z := (stl_n (lv := 46) ws x.2.1).1; rw [nop, if_neg (by decide)]; show 3 * ((stl 46 ws x.2.1).2.length + (nop (stl 46 ws x.2.1).1 + 1)) ≤ 6 * x.2.2 + x.1.2.2.2; omega) (fun N3 hc3 => ?_))
      refine J_aload_n dX12_sign_44 rfl ?_
      refine M_callV0 (mc := mX12_next) dX12_sign_45 kX12_267 oX12_next (Nat.le_of_ble_eq_true rfl) (Nat.le_of_ble_eq_true rfl) rfl (by decide) rfl ?_
      refine M_more (d := 2) (by omega) (tX12_adv (d := 0) (T := T) hnb hn hT hc3 (by show x.1.1 ≠ 0; omega) (by show x.1.1 ≠ 1; omega) (fun N4 hc4 => ?_))
      refine J_iconst (v := 1) dX12_sign_48 (by decide) ?_
      refine M_iret dX12_sign_49 rfl rfl ?_
      exact h N4 hc4
  · -- on 9
    exact absurd c1 (by decide)
set_option maxRecDepth 100000 in
set_option maxHeartbeats 1000000 in
theorem tM_sg_45 {d : Nat} {Φ : Option Int32 → Mem → Prop} {M0 N : Mem} {n : Nat} {T : Nat → Nat} {x : PSt} {ws : List Nat} (hnb : n ≤ 1000) (hn : M0.1 62 30 = nI n) (hT : ∀ i, M0.1 81 i = nI (T i) ∧ T i < 256) (hc : PQ M0 N n x ws) (hK : x.1.1 = 45) (hlen : (stl 46 ws x.2.1).1.length < 60) (hb : 3 * (x.2.1.length + nop ws + 1) ≤ 6 * x.2.2 + x.1.2.2.2) (h : ∀ N2, PQ M0 N2 n (advP T n (x.1, (stl 46 ws x.2.1).2, x.2.2)) (47 :: (stl 46 ws x.2.1).1) → Φ (some 1) N2) : JM noRo (d + 3) mX12_sign 0 [some (.ref 62)] [] N Φ := by
  have h256 := hc.2.2.2.1.2.2.2.2.2.2.1
  have h19 := hc.2.2.2.1.2.2.2.2.2.2.2.2
  refine J_aload_n dX12_sign_0 rfl ?_
  refine M_getI dX12_sign_1 fX12_177 rfl rfl (by decide) ?_
  rw [hc.2.2.1.2.1]
  rw [show srt x.1.1 = 45 by rw [hK]; rfl]
  refine J_bipush (v := 43) dX12_sign_4 (by decide) ?_
  refine J_icmp_eq (tgt := 18) dX12_sign_6 (by decide) (fun c1 => ?_) (fun c1 => ?_)
  · -- to 18
    exact absurd c1 (by decide)
  · -- on 9
    refine J_aload_n dX12_sign_9 rfl ?_
    refine M_getI dX12_sign_10 fX12_177 rfl rfl (by decide) ?_
    rw [hc.2.2.1.2.1]
    rw [show srt x.1.1 = 45 by rw [hK]; rfl]
    refine J_bipush (v := 45) dX12_sign_13 (by decide) ?_
    refine J_icmp_ne (tgt := 50) dX12_sign_15 (by decide) (fun c2 => ?_) (fun c2 => ?_)
    · -- to 50
      exact absurd c2 (by decide)
    · -- on 18
      refine J_aload_n dX12_sign_18 rfl ?_
      refine J_bipush (v := 46) dX12_sign_19 (by decide) ?_
      refine M_callV1 (mc := mX12_settle) dX12_sign_21 kX12_245 oX12_settle (Nat.le_of_ble_eq_true rfl) (Nat.le_of_ble_eq_true rfl) rfl (by decide) rfl ?_
      refine M_more (d := 1) (by omega) (tX12_settle_l (d := 0) (lv := 46) hnb (by decide) ws x N hc (fun N2 hc2 => ?_))
      refine J_aload_n dX12_sign_24 rfl ?_
      refine J_aload_n dX12_sign_25 rfl ?_
      refine M_getI dX12_sign_26 fX12_177 rfl rfl (by decide) ?_
      rw [hc2.2.2.1.2.1]
      rw [show srt x.1.1 = 45 by rw [hK]; rfl]
      refine J_bipush (v := 43) dX12_sign_29 (by decide) ?_
      refine J_icmp_ne (tgt := 39) dX12_sign_31 (by decide) (fun c4 => ?_) (fun c4 => ?_)
      · -- to 39
        refine J_bipush (v := 47) dX12_sign_39 (by decide) ?_
        refine M_callV1 (mc := mX12_hold) dX12_sign_41 kX12_270 oX12_hold (Nat.le_of_ble_eq_true rfl) (Nat.le_of_ble_eq_true rfl) rfl (by decide) rfl ?_
        refine M_more (d := 0) (Nat.zero_le _) (tX12_hold (c := 47) hc2 (by unfold opW; decide) hlen (by have z := (stl_n (lv := 46) ws x.2.1).1; rw [nop, if_neg (by decide)]; show 3 * ((stl 46 ws x.2.1).2.length + (nop (stl 46 ws x.2.1).1 + 1)) ≤ 6 * x.2.2 + x.1.2.2.2; omega) (fun N3 hc3 => ?_))
        refine J_aload_n dX12_sign_44 rfl ?_
        refine M_callV0 (mc := mX12_next) dX12_sign_45 kX12_267 oX12_next (Nat.le_of_ble_eq_true rfl) (Nat.le_of_ble_eq_true rfl) rfl (by decide) rfl ?_
        refine M_more (d := 2) (by omega) (tX12_adv (d := 0) (T := T) hnb hn hT hc3 (by show x.1.1 ≠ 0; omega) (by show x.1.1 ≠ 1; omega) (fun N4 hc4 => ?_))
        refine J_iconst (v := 1) dX12_sign_48 (by decide) ?_
        refine M_iret dX12_sign_49 rfl rfl ?_
        exact h N4 hc4
      · -- on 34
        exact absurd c4 (by decide)
def topC : List Nat → Prop
  | [] => False
  | c :: _ => 43 ≤ c ∧ c ≤ 45
set_option maxRecDepth 100000 in
set_option maxHeartbeats 1000000 in
theorem tM_sg_61 {d : Nat} {Φ : Option Int32 → Mem → Prop} {M0 N : Mem} {n : Nat} {T : Nat → Nat} {x : PSt} {ws : List Nat} (hnb : n ≤ 1000) (hn : M0.1 62 30 = nI n) (hT : ∀ i, M0.1 81 i = nI (T i) ∧ T i < 256) (hc : PQ M0 N n x ws) (hK : x.1.1 = 61) (hlen : ¬ topC (stl 46 ws x.2.1).1 → (stl 46 ws x.2.1).1.length < 60) (hb : 3 * (x.2.1.length + nop ws + 1) ≤ 6 * x.2.2 + x.1.2.2.2) (h1 : ¬ topC (stl 46 ws x.2.1).1 → ∀ N2, PQ M0 N2 n (advP T n (x.1, (stl 46 ws x.2.1).2, x.2.2)) (43 :: (stl 46 ws x.2.1).1) → Φ (some 1) N2) (h0 : topC (stl 46 ws x.2.1).1 → ∀ N2, QF M0 N2 (if x.1.1 = 1 then 1 else 2, x.1.2.2.1) → Φ (some 2) N2) : JM noRo (d + 3) mX12_sign 0 [some (.ref 62)] [] N Φ := by
  have h256 := hc.2.2.2.1.2.2.2.2.2.2.1
  have h19 := hc.2.2.2.1.2.2.2.2.2.2.2.2
  refine J_aload_n dX12_sign_0 rfl ?_
  refine M_getI dX12_sign_1 fX12_177 rfl rfl (by decide) ?_
  rw [hc.2.2.1.2.1]
  rw [show srt x.1.1 = 61 by rw [hK]; rfl]
  refine J_bipush (v := 43) dX12_sign_4 (by decide) ?_
  refine J_icmp_eq (tgt := 18) dX12_sign_6 (by decide) (fun c1 => ?_) (fun c1 => ?_)
  · -- to 18
    exact absurd c1 (by decide)
  · -- on 9
    refine J_aload_n dX12_sign_9 rfl ?_
    refine M_getI dX12_sign_10 fX12_177 rfl rfl (by decide) ?_
    rw [hc.2.2.1.2.1]
    rw [show srt x.1.1 = 61 by rw [hK]; rfl]
    refine J_bipush (v := 45) dX12_sign_13 (by decide) ?_
    refine J_icmp_ne (tgt := 50) dX12_sign_15 (by decide) (fun c2 => ?_) (fun c2 => ?_)
    · -- to 50
      refine J_aload_n dX12_sign_50 rfl ?_
      refine M_getI dX12_sign_51 fX12_177 rfl rfl (by decide) ?_
      rw [hc.2.2.1.2.1]
      rw [show srt x.1.1 = 61 by rw [hK]; rfl]
      refine J_bipush (v := 61) dX12_sign_54 (by decide) ?_
      refine J_icmp_eq (tgt := 77) dX12_sign_56 (by decide) (fun c3 => ?_) (fun c3 => ?_)
      · -- to 77
        refine J_aload_n dX12_sign_77 rfl ?_
        refine J_bipush (v := 46) dX12_sign_78 (by decide) ?_
        refine M_callV1 (mc := mX12_settle) dX12_sign_80 kX12_245 oX12_settle (Nat.le_of_ble_eq_true rfl) (Nat.le_of_ble_eq_true rfl) rfl (by decide) rfl ?_
        refine M_more (d := 1) (by omega) (tX12_settle_l (d := 0) (lv := 46) hnb (by decide) ws x N hc (fun N2 hc2 => ?_))
        have hop := hc2.2.2.2.2.2.2.2.2.2.2.2.2.2.1
        have hw2 := hc2.2.2.2.2.2.2.2.2.1
        have hl2 := hc2.2.2.2.2.2.2.2.2.2.2.2.2.2.2.1
        rcases ht : (stl 46 ws x.2.1).1 with _ | ⟨c, r⟩
        · rw [ht] at hw2
          refine J_aload_n dX12_sign_83 rfl ?_
          refine M_getI dX12_sign_84 fX12_223 rfl rfl (by decide) ?_
          rw [hw2]
          refine J_if_ne (tgt := 94) dX12_sign_87 (by decide) (fun c1 => ?_) (fun c1 => ?_)
          · -- to 94
            exact absurd rfl c1
          · -- on 90
            refine J_iconst (v := -1) dX12_sign_90 (by decide) ?_
            refine J_goto (tgt := 105) dX12_sign_91 (by decide) ?_
            refine J_istore_n dX12_sign_105 (by decide) rfl ?_
            dsimp only [setL]
            refine J_iload_n dX12_sign_106 rfl ?_
            refine J_bipush (v := 43) dX12_sign_107 (by decide) ?_
            refine J_icmp_lt (tgt := 123) dX12_sign_109 (by decide) (fun c2 => ?_) (fun c2 => ?_)
            · -- to 123
              refine J_aload_n dX12_sign_123 rfl ?_
              refine M_getI dX12_sign_124 fX12_189 rfl rfl (by decide) ?_
              rw [hc2.2.2.2.2.2.2.2.2.2.2.2.1]
              refine J_if_le (tgt := 132) dX12_sign_127 (by decide) (fun c3 => ?_) (fun c3 => ?_)
              · -- to 132
                refine J_aload_n dX12_sign_132 rfl ?_
                refine J_aload_n dX12_sign_133 rfl ?_
                refine M_getI dX12_sign_134 fX12_177 rfl rfl (by decide) ?_
                rw [hc2.2.2.1.2.1]
                rw [show srt x.1.1 = 61 by rw [hK]; rfl]
                refine J_bipush (v := 61) dX12_sign_137 (by decide) ?_
                refine J_icmp_ne (tgt := 147) dX12_sign_139 (by decide) (fun c4 => ?_) (fun c4 => ?_)
                · -- to 147
                  exact absurd c4 (by decide)
                · -- on 142
                  refine J_bipush (v := 43) dX12_sign_142 (by decide) ?_
                  refine J_goto (tgt := 163) dX12_sign_144 (by decide) ?_
                  refine M_callV1 (mc := mX12_hold) dX12_sign_163 kX12_270 oX12_hold (Nat.le_of_ble_eq_true rfl) (Nat.le_of_ble_eq_true rfl) rfl (by decide) rfl ?_
                  refine M_more (d := 0) (Nat.zero_le _) (tX12_hold (c := 43) hc2 (by unfold opW; decide) (hlen (by rw [ht]; exact (fun q => q))) (by have z := (stl_n (lv := 46) ws x.2.1).1; rw [nop, if_neg (by decide)]; show 3 * ((stl 46 ws x.2.1).2.length + (nop (stl 46 ws x.2.1).1 + 1)) ≤ 6 * x.2.2 + x.1.2.2.2; omega) (fun N3 hc3 => ?_))
                  refine J_aload_n dX12_sign_166 rfl ?_
                  refine M_callV0 (mc := mX12_next) dX12_sign_167 kX12_267 oX12_next (Nat.le_of_ble_eq_true rfl) (Nat.le_of_ble_eq_true rfl) rfl (by decide) rfl ?_
                  refine M_more (d := 2) (by omega) (tX12_adv (d := 0) (T := T) hnb hn hT hc3 (by show x.1.1 ≠ 0; omega) (by show x.1.1 ≠ 1; omega) (fun N4 hc4 => ?_))
                  refine J_iconst (v := 1) dX12_sign_170 (by decide) ?_
                  refine M_iret dX12_sign_171 rfl rfl ?_
                  exact h1 (by rw [ht]; exact fun q => q) N4 hc4
              · -- on 130
                exact absurd (by decide) c3
            · -- on 112
              exact absurd c2 (by decide)
        · rw [ht] at hw2 hop hl2
          rw [List.length_cons] at hw2 hl2
          have hoc := hop c (List.mem_cons_self ..)
          unfold opW at hoc
          have htc := hc2.2.2.2.2.2.2.2.2.2.1
          rw [ht] at htc
          by_cases hcm : 43 ≤ c ∧ c ≤ 45
          ·
            refine J_aload_n dX12_sign_83 rfl ?_
            refine M_getI dX12_sign_84 fX12_223 rfl rfl (by decide) ?_
            rw [hw2]
            refine J_if_ne (tgt := 94) dX12_sign_87 (by decide) (fun c1 => ?_) (fun c1 => ?_)
            · -- to 94
              refine J_aload_n dX12_sign_94 rfl ?_
              refine M_getR dX12_sign_95 fX12_72 rfl rfl (by decide) ?_
              refine J_aload_n dX12_sign_98 rfl ?_
              refine M_getI dX12_sign_99 fX12_223 rfl rfl (by decide) ?_
              rw [hw2]
              refine J_iconst (v := 1) dX12_sign_102 (by decide) ?_
              refine J_isub dX12_sign_103 ?_
              refine M_ialdE dX12_sign_104 rfl (by decide) (nI_pred r.length) (by omega) ?_
              rw [htc.1]
              refine J_istore_n dX12_sign_105 (by decide) rfl ?_
              dsimp only [setL]
              refine J_iload_n dX12_sign_106 rfl ?_
              refine J_bipush (v := 43) dX12_sign_107 (by decide) ?_
              refine J_icmp_lt (tgt := 123) dX12_sign_109 (by decide) (fun c2 => ?_) (fun c2 => ?_)
              · -- to 123
                exact absurd c2 (nI_nlt (b := 43) hcm.1 (by omega))
              · -- on 112
                refine J_iload_n dX12_sign_112 rfl ?_
                refine J_bipush (v := 45) dX12_sign_113 (by decide) ?_
                refine J_icmp_gt (tgt := 123) dX12_sign_115 (by decide) (fun c3 => ?_) (fun c3 => ?_)
                · -- to 123
                  exact absurd c3 (nI_nlt (a := 45) hcm.2 (by decide))
                · -- on 118
                  refine J_aload_n dX12_sign_118 rfl ?_
                  refine J_iconst (v := 2) dX12_sign_119 (by decide) ?_
                  refine M_callV1 (mc := mX12_wrong) dX12_sign_120 kX12_258 oX12_wrong (Nat.le_of_ble_eq_true rfl) (Nat.le_of_ble_eq_true rfl) rfl (by decide) rfl ?_
                  refine M_more (d := 0) (Nat.zero_le _) (tX12_wrong (f := 2) hc2 (fun N3 hN => ?_))
                  refine J_aload_n dX12_sign_123 rfl ?_
                  refine M_getI dX12_sign_124 fX12_189 rfl rfl (by decide) ?_
                  refine J_if_le (tgt := 132) dX12_sign_127 (by decide) (fun c5 => ?_) (fun c5 => ?_)
                  · -- to 132
                    exact absurd c5 (by rw [hN.2.2.1]; show ¬ nI (if x.1.1 = 1 then 1 else 2) ≤ 0; split <;> decide)
                  · -- on 130
                    refine J_iconst (v := 2) dX12_sign_130 (by decide) ?_
                    refine M_iret dX12_sign_131 rfl rfl ?_
                    exact h0 (by rw [ht]; exact hcm) N3 hN
            · -- on 90
              exact absurd c1 (nI_pos0 (by omega) (by omega))
          ·
            refine J_aload_n dX12_sign_83 rfl ?_
            refine M_getI dX12_sign_84 fX12_223 rfl rfl (by decide) ?_
            rw [hw2]
            refine J_if_ne (tgt := 94) dX12_sign_87 (by decide) (fun c1 => ?_) (fun c1 => ?_)
            · -- to 94
              refine J_aload_n dX12_sign_94 rfl ?_
              refine M_getR dX12_sign_95 fX12_72 rfl rfl (by decide) ?_
              refine J_aload_n dX12_sign_98 rfl ?_
              refine M_getI dX12_sign_99 fX12_223 rfl rfl (by decide) ?_
              rw [hw2]
              refine J_iconst (v := 1) dX12_sign_102 (by decide) ?_
              refine J_isub dX12_sign_103 ?_
              refine M_ialdE dX12_sign_104 rfl (by decide) (nI_pred r.length) (by omega) ?_
              rw [htc.1]
              refine J_istore_n dX12_sign_105 (by decide) rfl ?_
              dsimp only [setL]
              refine J_iload_n dX12_sign_106 rfl ?_
              refine J_bipush (v := 43) dX12_sign_107 (by decide) ?_
              refine J_icmp_lt (tgt := 123) dX12_sign_109 (by decide) (fun c2 => ?_) (fun c2 => ?_)
              · -- to 123
                refine J_aload_n dX12_sign_123 rfl ?_
                refine M_getI dX12_sign_124 fX12_189 rfl rfl (by decide) ?_
                rw [hc2.2.2.2.2.2.2.2.2.2.2.2.1]
                refine J_if_le (tgt := 132) dX12_sign_127 (by decide) (fun c3 => ?_) (fun c3 => ?_)
                · -- to 132
                  refine J_aload_n dX12_sign_132 rfl ?_
                  refine J_aload_n dX12_sign_133 rfl ?_
                  refine M_getI dX12_sign_134 fX12_177 rfl rfl (by decide) ?_
                  rw [hc2.2.2.1.2.1]
                  rw [show srt x.1.1 = 61 by rw [hK]; rfl]
                  refine J_bipush (v := 61) dX12_sign_137 (by decide) ?_
                  refine J_icmp_ne (tgt := 147) dX12_sign_139 (by decide) (fun c4 => ?_) (fun c4 => ?_)
                  · -- to 147
                    exact absurd c4 (by decide)
                  · -- on 142
                    refine J_bipush (v := 43) dX12_sign_142 (by decide) ?_
                    refine J_goto (tgt := 163) dX12_sign_144 (by decide) ?_
                    refine M_callV1 (mc := mX12_hold) dX12_sign_163 kX12_270 oX12_hold (Nat.le_of_ble_eq_true rfl) (Nat.le_of_ble_eq_true rfl) rfl (by decide) rfl ?_
                    refine M_more (d := 0) (Nat.zero_le _) (tX12_hold (c := 43) hc2 (by unfold opW; decide) (hlen (by rw [ht]; exact hcm)) (by have z := (stl_n (lv := 46) ws x.2.1).1; rw [nop, if_neg (by decide)]; show 3 * ((stl 46 ws x.2.1).2.length + (nop (stl 46 ws x.2.1).1 + 1)) ≤ 6 * x.2.2 + x.1.2.2.2; omega) (fun N3 hc3 => ?_))
                    refine J_aload_n dX12_sign_166 rfl ?_
                    refine M_callV0 (mc := mX12_next) dX12_sign_167 kX12_267 oX12_next (Nat.le_of_ble_eq_true rfl) (Nat.le_of_ble_eq_true rfl) rfl (by decide) rfl ?_
                    refine M_more (d := 2) (by omega) (tX12_adv (d := 0) (T := T) hnb hn hT hc3 (by show x.1.1 ≠ 0; omega) (by show x.1.1 ≠ 1; omega) (fun N4 hc4 => ?_))
                    refine J_iconst (v := 1) dX12_sign_170 (by decide) ?_
                    refine M_iret dX12_sign_171 rfl rfl ?_
                    exact h1 (by rw [ht]; exact hcm) N4 hc4
                · -- on 130
                  exact absurd (by decide) c3
              · -- on 112
                have cLo := c2
                refine J_iload_n dX12_sign_112 rfl ?_
                refine J_bipush (v := 45) dX12_sign_113 (by decide) ?_
                refine J_icmp_gt (tgt := 123) dX12_sign_115 (by decide) (fun c7 => ?_) (fun c7 => ?_)
                · -- to 123
                  refine J_aload_n dX12_sign_123 rfl ?_
                  refine M_getI dX12_sign_124 fX12_189 rfl rfl (by decide) ?_
                  rw [hc2.2.2.2.2.2.2.2.2.2.2.2.1]
                  refine J_if_le (tgt := 132) dX12_sign_127 (by decide) (fun c8 => ?_) (fun c8 => ?_)
                  · -- to 132
                    refine J_aload_n dX12_sign_132 rfl ?_
                    refine J_aload_n dX12_sign_133 rfl ?_
                    refine M_getI dX12_sign_134 fX12_177 rfl rfl (by decide) ?_
                    rw [hc2.2.2.1.2.1]
                    rw [show srt x.1.1 = 61 by rw [hK]; rfl]
                    refine J_bipush (v := 61) dX12_sign_137 (by decide) ?_
                    refine J_icmp_ne (tgt := 147) dX12_sign_139 (by decide) (fun c9 => ?_) (fun c9 => ?_)
                    · -- to 147
                      exact absurd c9 (by decide)
                    · -- on 142
                      refine J_bipush (v := 43) dX12_sign_142 (by decide) ?_
                      refine J_goto (tgt := 163) dX12_sign_144 (by decide) ?_
                      refine M_callV1 (mc := mX12_hold) dX12_sign_163 kX12_270 oX12_hold (Nat.le_of_ble_eq_true rfl) (Nat.le_of_ble_eq_true rfl) rfl (by decide) rfl ?_
                      refine M_more (d := 0) (Nat.zero_le _) (tX12_hold (c := 43) hc2 (by unfold opW; decide) (hlen (by rw [ht]; exact hcm)) (by have z := (stl_n (lv := 46) ws x.2.1).1; rw [nop, if_neg (by decide)]; show 3 * ((stl 46 ws x.2.1).2.length + (nop (stl 46 ws x.2.1).1 + 1)) ≤ 6 * x.2.2 + x.1.2.2.2; omega) (fun N3 hc3 => ?_))
                      refine J_aload_n dX12_sign_166 rfl ?_
                      refine M_callV0 (mc := mX12_next) dX12_sign_167 kX12_267 oX12_next (Nat.le_of_ble_eq_true rfl) (Nat.le_of_ble_eq_true rfl) rfl (by decide) rfl ?_
                      refine M_more (d := 2) (by omega) (tX12_adv (d := 0) (T := T) hnb hn hT hc3 (by show x.1.1 ≠ 0; omega) (by show x.1.1 ≠ 1; omega) (fun N4 hc4 => ?_))
                      refine J_iconst (v := 1) dX12_sign_170 (by decide) ?_
                      refine M_iret dX12_sign_171 rfl rfl ?_
                      exact h1 (by rw [ht]; exact hcm) N4 hc4
                  · -- on 130
                    exact absurd (by decide) c8
                · -- on 118
                  exact absurd ⟨Nat.not_lt.mp (fun q => cLo (nI_lt q (by decide))), Nat.not_lt.mp (fun q => c7 (nI_lt (a := 45) q (by omega)))⟩ hcm
            · -- on 90
              exact absurd c1 (nI_pos0 (by omega) (by omega))
      · -- on 59
        exact absurd c3 (by decide)
    · -- on 18
      exact absurd c2 (by decide)
set_option maxRecDepth 100000 in
set_option maxHeartbeats 1000000 in
theorem tM_sg_60 {d : Nat} {Φ : Option Int32 → Mem → Prop} {M0 N : Mem} {n : Nat} {T : Nat → Nat} {x : PSt} {ws : List Nat} (hnb : n ≤ 1000) (hn : M0.1 62 30 = nI n) (hT : ∀ i, M0.1 81 i = nI (T i) ∧ T i < 256) (hc : PQ M0 N n x ws) (hK : x.1.1 = 60) (hlen : ¬ topC (stl 46 ws x.2.1).1 → (stl 46 ws x.2.1).1.length < 60) (hb : 3 * (x.2.1.length + nop ws + 1) ≤ 6 * x.2.2 + x.1.2.2.2) (h1 : ¬ topC (stl 46 ws x.2.1).1 → ∀ N2, PQ M0 N2 n (advP T n (x.1, (stl 46 ws x.2.1).2, x.2.2)) (44 :: (stl 46 ws x.2.1).1) → Φ (some 1) N2) (h0 : topC (stl 46 ws x.2.1).1 → ∀ N2, QF M0 N2 (if x.1.1 = 1 then 1 else 2, x.1.2.2.1) → Φ (some 2) N2) : JM noRo (d + 3) mX12_sign 0 [some (.ref 62)] [] N Φ := by
  have h256 := hc.2.2.2.1.2.2.2.2.2.2.1
  have h19 := hc.2.2.2.1.2.2.2.2.2.2.2.2
  refine J_aload_n dX12_sign_0 rfl ?_
  refine M_getI dX12_sign_1 fX12_177 rfl rfl (by decide) ?_
  rw [hc.2.2.1.2.1]
  rw [show srt x.1.1 = 60 by rw [hK]; rfl]
  refine J_bipush (v := 43) dX12_sign_4 (by decide) ?_
  refine J_icmp_eq (tgt := 18) dX12_sign_6 (by decide) (fun c1 => ?_) (fun c1 => ?_)
  · -- to 18
    exact absurd c1 (by decide)
  · -- on 9
    refine J_aload_n dX12_sign_9 rfl ?_
    refine M_getI dX12_sign_10 fX12_177 rfl rfl (by decide) ?_
    rw [hc.2.2.1.2.1]
    rw [show srt x.1.1 = 60 by rw [hK]; rfl]
    refine J_bipush (v := 45) dX12_sign_13 (by decide) ?_
    refine J_icmp_ne (tgt := 50) dX12_sign_15 (by decide) (fun c2 => ?_) (fun c2 => ?_)
    · -- to 50
      refine J_aload_n dX12_sign_50 rfl ?_
      refine M_getI dX12_sign_51 fX12_177 rfl rfl (by decide) ?_
      rw [hc.2.2.1.2.1]
      rw [show srt x.1.1 = 60 by rw [hK]; rfl]
      refine J_bipush (v := 61) dX12_sign_54 (by decide) ?_
      refine J_icmp_eq (tgt := 77) dX12_sign_56 (by decide) (fun c3 => ?_) (fun c3 => ?_)
      · -- to 77
        exact absurd c3 (by decide)
      · -- on 59
        refine J_aload_n dX12_sign_59 rfl ?_
        refine M_getI dX12_sign_60 fX12_177 rfl rfl (by decide) ?_
        rw [hc.2.2.1.2.1]
        rw [show srt x.1.1 = 60 by rw [hK]; rfl]
        refine J_bipush (v := 60) dX12_sign_63 (by decide) ?_
        refine J_icmp_eq (tgt := 77) dX12_sign_65 (by decide) (fun c4 => ?_) (fun c4 => ?_)
        · -- to 77
          refine J_aload_n dX12_sign_77 rfl ?_
          refine J_bipush (v := 46) dX12_sign_78 (by decide) ?_
          refine M_callV1 (mc := mX12_settle) dX12_sign_80 kX12_245 oX12_settle (Nat.le_of_ble_eq_true rfl) (Nat.le_of_ble_eq_true rfl) rfl (by decide) rfl ?_
          refine M_more (d := 1) (by omega) (tX12_settle_l (d := 0) (lv := 46) hnb (by decide) ws x N hc (fun N2 hc2 => ?_))
          have hop := hc2.2.2.2.2.2.2.2.2.2.2.2.2.2.1
          have hw2 := hc2.2.2.2.2.2.2.2.2.1
          have hl2 := hc2.2.2.2.2.2.2.2.2.2.2.2.2.2.2.1
          rcases ht : (stl 46 ws x.2.1).1 with _ | ⟨c, r⟩
          · rw [ht] at hw2
            refine J_aload_n dX12_sign_83 rfl ?_
            refine M_getI dX12_sign_84 fX12_223 rfl rfl (by decide) ?_
            rw [hw2]
            refine J_if_ne (tgt := 94) dX12_sign_87 (by decide) (fun c1 => ?_) (fun c1 => ?_)
            · -- to 94
              exact absurd rfl c1
            · -- on 90
              refine J_iconst (v := -1) dX12_sign_90 (by decide) ?_
              refine J_goto (tgt := 105) dX12_sign_91 (by decide) ?_
              refine J_istore_n dX12_sign_105 (by decide) rfl ?_
              dsimp only [setL]
              refine J_iload_n dX12_sign_106 rfl ?_
              refine J_bipush (v := 43) dX12_sign_107 (by decide) ?_
              refine J_icmp_lt (tgt := 123) dX12_sign_109 (by decide) (fun c2 => ?_) (fun c2 => ?_)
              · -- to 123
                refine J_aload_n dX12_sign_123 rfl ?_
                refine M_getI dX12_sign_124 fX12_189 rfl rfl (by decide) ?_
                rw [hc2.2.2.2.2.2.2.2.2.2.2.2.1]
                refine J_if_le (tgt := 132) dX12_sign_127 (by decide) (fun c3 => ?_) (fun c3 => ?_)
                · -- to 132
                  refine J_aload_n dX12_sign_132 rfl ?_
                  refine J_aload_n dX12_sign_133 rfl ?_
                  refine M_getI dX12_sign_134 fX12_177 rfl rfl (by decide) ?_
                  rw [hc2.2.2.1.2.1]
                  rw [show srt x.1.1 = 60 by rw [hK]; rfl]
                  refine J_bipush (v := 61) dX12_sign_137 (by decide) ?_
                  refine J_icmp_ne (tgt := 147) dX12_sign_139 (by decide) (fun c4 => ?_) (fun c4 => ?_)
                  · -- to 147
                    refine J_aload_n dX12_sign_147 rfl ?_
                    refine M_getI dX12_sign_148 fX12_177 rfl rfl (by decide) ?_
                    rw [hc2.2.2.1.2.1]
                    rw [show srt x.1.1 = 60 by rw [hK]; rfl]
                    refine J_bipush (v := 60) dX12_sign_151 (by decide) ?_
                    refine J_icmp_ne (tgt := 161) dX12_sign_153 (by decide) (fun c5 => ?_) (fun c5 => ?_)
                    · -- to 161
                      exact absurd c5 (by decide)
                    · -- on 156
                      refine J_bipush (v := 44) dX12_sign_156 (by decide) ?_
                      refine J_goto (tgt := 163) dX12_sign_158 (by decide) ?_
                      refine M_callV1 (mc := mX12_hold) dX12_sign_163 kX12_270 oX12_hold (Nat.le_of_ble_eq_true rfl) (Nat.le_of_ble_eq_true rfl) rfl (by decide) rfl ?_
                      refine M_more (d := 0) (Nat.zero_le _) (tX12_hold (c := 44) hc2 (by unfold opW; decide) (hlen (by rw [ht]; exact (fun q => q))) (by have z := (stl_n (lv := 46) ws x.2.1).1; rw [nop, if_neg (by decide)]; show 3 * ((stl 46 ws x.2.1).2.length + (nop (stl 46 ws x.2.1).1 + 1)) ≤ 6 * x.2.2 + x.1.2.2.2; omega) (fun N3 hc3 => ?_))
                      refine J_aload_n dX12_sign_166 rfl ?_
                      refine M_callV0 (mc := mX12_next) dX12_sign_167 kX12_267 oX12_next (Nat.le_of_ble_eq_true rfl) (Nat.le_of_ble_eq_true rfl) rfl (by decide) rfl ?_
                      refine M_more (d := 2) (by omega) (tX12_adv (d := 0) (T := T) hnb hn hT hc3 (by show x.1.1 ≠ 0; omega) (by show x.1.1 ≠ 1; omega) (fun N4 hc4 => ?_))
                      refine J_iconst (v := 1) dX12_sign_170 (by decide) ?_
                      refine M_iret dX12_sign_171 rfl rfl ?_
                      exact h1 (by rw [ht]; exact fun q => q) N4 hc4
                  · -- on 142
                    exact absurd c4 (by decide)
                · -- on 130
                  exact absurd (by decide) c3
              · -- on 112
                exact absurd c2 (by decide)
          · rw [ht] at hw2 hop hl2
            rw [List.length_cons] at hw2 hl2
            have hoc := hop c (List.mem_cons_self ..)
            unfold opW at hoc
            have htc := hc2.2.2.2.2.2.2.2.2.2.1
            rw [ht] at htc
            by_cases hcm : 43 ≤ c ∧ c ≤ 45
            ·
              refine J_aload_n dX12_sign_83 rfl ?_
              refine M_getI dX12_sign_84 fX12_223 rfl rfl (by decide) ?_
              rw [hw2]
              refine J_if_ne (tgt := 94) dX12_sign_87 (by decide) (fun c1 => ?_) (fun c1 => ?_)
              · -- to 94
                refine J_aload_n dX12_sign_94 rfl ?_
                refine M_getR dX12_sign_95 fX12_72 rfl rfl (by decide) ?_
                refine J_aload_n dX12_sign_98 rfl ?_
                refine M_getI dX12_sign_99 fX12_223 rfl rfl (by decide) ?_
                rw [hw2]
                refine J_iconst (v := 1) dX12_sign_102 (by decide) ?_
                refine J_isub dX12_sign_103 ?_
                refine M_ialdE dX12_sign_104 rfl (by decide) (nI_pred r.length) (by omega) ?_
                rw [htc.1]
                refine J_istore_n dX12_sign_105 (by decide) rfl ?_
                dsimp only [setL]
                refine J_iload_n dX12_sign_106 rfl ?_
                refine J_bipush (v := 43) dX12_sign_107 (by decide) ?_
                refine J_icmp_lt (tgt := 123) dX12_sign_109 (by decide) (fun c2 => ?_) (fun c2 => ?_)
                · -- to 123
                  exact absurd c2 (nI_nlt (b := 43) hcm.1 (by omega))
                · -- on 112
                  refine J_iload_n dX12_sign_112 rfl ?_
                  refine J_bipush (v := 45) dX12_sign_113 (by decide) ?_
                  refine J_icmp_gt (tgt := 123) dX12_sign_115 (by decide) (fun c3 => ?_) (fun c3 => ?_)
                  · -- to 123
                    exact absurd c3 (nI_nlt (a := 45) hcm.2 (by decide))
                  · -- on 118
                    refine J_aload_n dX12_sign_118 rfl ?_
                    refine J_iconst (v := 2) dX12_sign_119 (by decide) ?_
                    refine M_callV1 (mc := mX12_wrong) dX12_sign_120 kX12_258 oX12_wrong (Nat.le_of_ble_eq_true rfl) (Nat.le_of_ble_eq_true rfl) rfl (by decide) rfl ?_
                    refine M_more (d := 0) (Nat.zero_le _) (tX12_wrong (f := 2) hc2 (fun N3 hN => ?_))
                    refine J_aload_n dX12_sign_123 rfl ?_
                    refine M_getI dX12_sign_124 fX12_189 rfl rfl (by decide) ?_
                    refine J_if_le (tgt := 132) dX12_sign_127 (by decide) (fun c5 => ?_) (fun c5 => ?_)
                    · -- to 132
                      exact absurd c5 (by rw [hN.2.2.1]; show ¬ nI (if x.1.1 = 1 then 1 else 2) ≤ 0; split <;> decide)
                    · -- on 130
                      refine J_iconst (v := 2) dX12_sign_130 (by decide) ?_
                      refine M_iret dX12_sign_131 rfl rfl ?_
                      exact h0 (by rw [ht]; exact hcm) N3 hN
              · -- on 90
                exact absurd c1 (nI_pos0 (by omega) (by omega))
            ·
              refine J_aload_n dX12_sign_83 rfl ?_
              refine M_getI dX12_sign_84 fX12_223 rfl rfl (by decide) ?_
              rw [hw2]
              refine J_if_ne (tgt := 94) dX12_sign_87 (by decide) (fun c1 => ?_) (fun c1 => ?_)
              · -- to 94
                refine J_aload_n dX12_sign_94 rfl ?_
                refine M_getR dX12_sign_95 fX12_72 rfl rfl (by decide) ?_
                refine J_aload_n dX12_sign_98 rfl ?_
                refine M_getI dX12_sign_99 fX12_223 rfl rfl (by decide) ?_
                rw [hw2]
                refine J_iconst (v := 1) dX12_sign_102 (by decide) ?_
                refine J_isub dX12_sign_103 ?_
                refine M_ialdE dX12_sign_104 rfl (by decide) (nI_pred r.length) (by omega) ?_
                rw [htc.1]
                refine J_istore_n dX12_sign_105 (by decide) rfl ?_
                dsimp only [setL]
                refine J_iload_n dX12_sign_106 rfl ?_
                refine J_bipush (v := 43) dX12_sign_107 (by decide) ?_
                refine J_icmp_lt (tgt := 123) dX12_sign_109 (by decide) (fun c2 => ?_) (fun c2 => ?_)
                · -- to 123
                  refine J_aload_n dX12_sign_123 rfl ?_
                  refine M_getI dX12_sign_124 fX12_189 rfl rfl (by decide) ?_
                  rw [hc2.2.2.2.2.2.2.2.2.2.2.2.1]
                  refine J_if_le (tgt := 132) dX12_sign_127 (by decide) (fun c3 => ?_) (fun c3 => ?_)
                  · -- to 132
                    refine J_aload_n dX12_sign_132 rfl ?_
                    refine J_aload_n dX12_sign_133 rfl ?_
                    refine M_getI dX12_sign_134 fX12_177 rfl rfl (by decide) ?_
                    rw [hc2.2.2.1.2.1]
                    rw [show srt x.1.1 = 60 by rw [hK]; rfl]
                    refine J_bipush (v := 61) dX12_sign_137 (by decide) ?_
                    refine J_icmp_ne (tgt := 147) dX12_sign_139 (by decide) (fun c4 => ?_) (fun c4 => ?_)
                    · -- to 147
                      refine J_aload_n dX12_sign_147 rfl ?_
                      refine M_getI dX12_sign_148 fX12_177 rfl rfl (by decide) ?_
                      rw [hc2.2.2.1.2.1]
                      rw [show srt x.1.1 = 60 by rw [hK]; rfl]
                      refine J_bipush (v := 60) dX12_sign_151 (by decide) ?_
                      refine J_icmp_ne (tgt := 161) dX12_sign_153 (by decide) (fun c5 => ?_) (fun c5 => ?_)
                      · -- to 161
                        exact absurd c5 (by decide)
                      · -- on 156
                        refine J_bipush (v := 44) dX12_sign_156 (by decide) ?_
                        refine J_goto (tgt := 163) dX12_sign_158 (by decide) ?_
                        refine M_callV1 (mc := mX12_hold) dX12_sign_163 kX12_270 oX12_hold (Nat.le_of_ble_eq_true rfl) (Nat.le_of_ble_eq_true rfl) rfl (by decide) rfl ?_
                        refine M_more (d := 0) (Nat.zero_le _) (tX12_hold (c := 44) hc2 (by unfold opW; decide) (hlen (by rw [ht]; exact hcm)) (by have z := (stl_n (lv := 46) ws x.2.1).1; rw [nop, if_neg (by decide)]; show 3 * ((stl 46 ws x.2.1).2.length + (nop (stl 46 ws x.2.1).1 + 1)) ≤ 6 * x.2.2 + x.1.2.2.2; omega) (fun N3 hc3 => ?_))
                        refine J_aload_n dX12_sign_166 rfl ?_
                        refine M_callV0 (mc := mX12_next) dX12_sign_167 kX12_267 oX12_next (Nat.le_of_ble_eq_true rfl) (Nat.le_of_ble_eq_true rfl) rfl (by decide) rfl ?_
                        refine M_more (d := 2) (by omega) (tX12_adv (d := 0) (T := T) hnb hn hT hc3 (by show x.1.1 ≠ 0; omega) (by show x.1.1 ≠ 1; omega) (fun N4 hc4 => ?_))
                        refine J_iconst (v := 1) dX12_sign_170 (by decide) ?_
                        refine M_iret dX12_sign_171 rfl rfl ?_
                        exact h1 (by rw [ht]; exact hcm) N4 hc4
                    · -- on 142
                      exact absurd c4 (by decide)
                  · -- on 130
                    exact absurd (by decide) c3
                · -- on 112
                  have cLo := c2
                  refine J_iload_n dX12_sign_112 rfl ?_
                  refine J_bipush (v := 45) dX12_sign_113 (by decide) ?_
                  refine J_icmp_gt (tgt := 123) dX12_sign_115 (by decide) (fun c8 => ?_) (fun c8 => ?_)
                  · -- to 123
                    refine J_aload_n dX12_sign_123 rfl ?_
                    refine M_getI dX12_sign_124 fX12_189 rfl rfl (by decide) ?_
                    rw [hc2.2.2.2.2.2.2.2.2.2.2.2.1]
                    refine J_if_le (tgt := 132) dX12_sign_127 (by decide) (fun c9 => ?_) (fun c9 => ?_)
                    · -- to 132
                      refine J_aload_n dX12_sign_132 rfl ?_
                      refine J_aload_n dX12_sign_133 rfl ?_
                      refine M_getI dX12_sign_134 fX12_177 rfl rfl (by decide) ?_
                      rw [hc2.2.2.1.2.1]
                      rw [show srt x.1.1 = 60 by rw [hK]; rfl]
                      refine J_bipush (v := 61) dX12_sign_137 (by decide) ?_
                      refine J_icmp_ne (tgt := 147) dX12_sign_139 (by decide) (fun c10 => ?_) (fun c10 => ?_)
                      · -- to 147
                        refine J_aload_n dX12_sign_147 rfl ?_
                        refine M_getI dX12_sign_148 fX12_177 rfl rfl (by decide) ?_
                        rw [hc2.2.2.1.2.1]
                        rw [show srt x.1.1 = 60 by rw [hK]; rfl]
                        refine J_bipush (v := 60) dX12_sign_151 (by decide) ?_
                        refine J_icmp_ne (tgt := 161) dX12_sign_153 (by decide) (fun c11 => ?_) (fun c11 => ?_)
                        · -- to 161
                          exact absurd c11 (by decide)
                        · -- on 156
                          refine J_bipush (v := 44) dX12_sign_156 (by decide) ?_
                          refine J_goto (tgt := 163) dX12_sign_158 (by decide) ?_
                          refine M_callV1 (mc := mX12_hold) dX12_sign_163 kX12_270 oX12_hold (Nat.le_of_ble_eq_true rfl) (Nat.le_of_ble_eq_true rfl) rfl (by decide) rfl ?_
                          refine M_more (d := 0) (Nat.zero_le _) (tX12_hold (c := 44) hc2 (by unfold opW; decide) (hlen (by rw [ht]; exact hcm)) (by have z := (stl_n (lv := 46) ws x.2.1).1; rw [nop, if_neg (by decide)]; show 3 * ((stl 46 ws x.2.1).2.length + (nop (stl 46 ws x.2.1).1 + 1)) ≤ 6 * x.2.2 + x.1.2.2.2; omega) (fun N3 hc3 => ?_))
                          refine J_aload_n dX12_sign_166 rfl ?_
                          refine M_callV0 (mc := mX12_next) dX12_sign_167 kX12_267 oX12_next (Nat.le_of_ble_eq_true rfl) (Nat.le_of_ble_eq_true rfl) rfl (by decide) rfl ?_
                          refine M_more (d := 2) (by omega) (tX12_adv (d := 0) (T := T) hnb hn hT hc3 (by show x.1.1 ≠ 0; omega) (by show x.1.1 ≠ 1; omega) (fun N4 hc4 => ?_))
                          refine J_iconst (v := 1) dX12_sign_170 (by decide) ?_
                          refine M_iret dX12_sign_171 rfl rfl ?_
                          exact h1 (by rw [ht]; exact hcm) N4 hc4
                      · -- on 142
                        exact absurd c10 (by decide)
                    · -- on 130
                      exact absurd (by decide) c9
                  · -- on 118
                    exact absurd ⟨Nat.not_lt.mp (fun q => cLo (nI_lt q (by decide))), Nat.not_lt.mp (fun q => c8 (nI_lt (a := 45) q (by omega)))⟩ hcm
              · -- on 90
                exact absurd c1 (nI_pos0 (by omega) (by omega))
        · -- on 68
          exact absurd c4 (by decide)
    · -- on 18
      exact absurd c2 (by decide)
set_option maxRecDepth 100000 in
set_option maxHeartbeats 1000000 in
theorem tM_sg_62 {d : Nat} {Φ : Option Int32 → Mem → Prop} {M0 N : Mem} {n : Nat} {T : Nat → Nat} {x : PSt} {ws : List Nat} (hnb : n ≤ 1000) (hn : M0.1 62 30 = nI n) (hT : ∀ i, M0.1 81 i = nI (T i) ∧ T i < 256) (hc : PQ M0 N n x ws) (hK : x.1.1 = 62) (hlen : ¬ topC (stl 46 ws x.2.1).1 → (stl 46 ws x.2.1).1.length < 60) (hb : 3 * (x.2.1.length + nop ws + 1) ≤ 6 * x.2.2 + x.1.2.2.2) (h1 : ¬ topC (stl 46 ws x.2.1).1 → ∀ N2, PQ M0 N2 n (advP T n (x.1, (stl 46 ws x.2.1).2, x.2.2)) (45 :: (stl 46 ws x.2.1).1) → Φ (some 1) N2) (h0 : topC (stl 46 ws x.2.1).1 → ∀ N2, QF M0 N2 (if x.1.1 = 1 then 1 else 2, x.1.2.2.1) → Φ (some 2) N2) : JM noRo (d + 3) mX12_sign 0 [some (.ref 62)] [] N Φ := by
  have h256 := hc.2.2.2.1.2.2.2.2.2.2.1
  have h19 := hc.2.2.2.1.2.2.2.2.2.2.2.2
  refine J_aload_n dX12_sign_0 rfl ?_
  refine M_getI dX12_sign_1 fX12_177 rfl rfl (by decide) ?_
  rw [hc.2.2.1.2.1]
  rw [show srt x.1.1 = 62 by rw [hK]; rfl]
  refine J_bipush (v := 43) dX12_sign_4 (by decide) ?_
  refine J_icmp_eq (tgt := 18) dX12_sign_6 (by decide) (fun c1 => ?_) (fun c1 => ?_)
  · -- to 18
    exact absurd c1 (by decide)
  · -- on 9
    refine J_aload_n dX12_sign_9 rfl ?_
    refine M_getI dX12_sign_10 fX12_177 rfl rfl (by decide) ?_
    rw [hc.2.2.1.2.1]
    rw [show srt x.1.1 = 62 by rw [hK]; rfl]
    refine J_bipush (v := 45) dX12_sign_13 (by decide) ?_
    refine J_icmp_ne (tgt := 50) dX12_sign_15 (by decide) (fun c2 => ?_) (fun c2 => ?_)
    · -- to 50
      refine J_aload_n dX12_sign_50 rfl ?_
      refine M_getI dX12_sign_51 fX12_177 rfl rfl (by decide) ?_
      rw [hc.2.2.1.2.1]
      rw [show srt x.1.1 = 62 by rw [hK]; rfl]
      refine J_bipush (v := 61) dX12_sign_54 (by decide) ?_
      refine J_icmp_eq (tgt := 77) dX12_sign_56 (by decide) (fun c3 => ?_) (fun c3 => ?_)
      · -- to 77
        exact absurd c3 (by decide)
      · -- on 59
        refine J_aload_n dX12_sign_59 rfl ?_
        refine M_getI dX12_sign_60 fX12_177 rfl rfl (by decide) ?_
        rw [hc.2.2.1.2.1]
        rw [show srt x.1.1 = 62 by rw [hK]; rfl]
        refine J_bipush (v := 60) dX12_sign_63 (by decide) ?_
        refine J_icmp_eq (tgt := 77) dX12_sign_65 (by decide) (fun c4 => ?_) (fun c4 => ?_)
        · -- to 77
          exact absurd c4 (by decide)
        · -- on 68
          refine J_aload_n dX12_sign_68 rfl ?_
          refine M_getI dX12_sign_69 fX12_177 rfl rfl (by decide) ?_
          rw [hc.2.2.1.2.1]
          rw [show srt x.1.1 = 62 by rw [hK]; rfl]
          refine J_bipush (v := 62) dX12_sign_72 (by decide) ?_
          refine J_icmp_ne (tgt := 172) dX12_sign_74 (by decide) (fun c5 => ?_) (fun c5 => ?_)
          · -- to 172
            exact absurd c5 (by decide)
          · -- on 77
            refine J_aload_n dX12_sign_77 rfl ?_
            refine J_bipush (v := 46) dX12_sign_78 (by decide) ?_
            refine M_callV1 (mc := mX12_settle) dX12_sign_80 kX12_245 oX12_settle (Nat.le_of_ble_eq_true rfl) (Nat.le_of_ble_eq_true rfl) rfl (by decide) rfl ?_
            refine M_more (d := 1) (by omega) (tX12_settle_l (d := 0) (lv := 46) hnb (by decide) ws x N hc (fun N2 hc2 => ?_))
            have hop := hc2.2.2.2.2.2.2.2.2.2.2.2.2.2.1
            have hw2 := hc2.2.2.2.2.2.2.2.2.1
            have hl2 := hc2.2.2.2.2.2.2.2.2.2.2.2.2.2.2.1
            rcases ht : (stl 46 ws x.2.1).1 with _ | ⟨c, r⟩
            · rw [ht] at hw2
              refine J_aload_n dX12_sign_83 rfl ?_
              refine M_getI dX12_sign_84 fX12_223 rfl rfl (by decide) ?_
              rw [hw2]
              refine J_if_ne (tgt := 94) dX12_sign_87 (by decide) (fun c1 => ?_) (fun c1 => ?_)
              · -- to 94
                exact absurd rfl c1
              · -- on 90
                refine J_iconst (v := -1) dX12_sign_90 (by decide) ?_
                refine J_goto (tgt := 105) dX12_sign_91 (by decide) ?_
                refine J_istore_n dX12_sign_105 (by decide) rfl ?_
                dsimp only [setL]
                refine J_iload_n dX12_sign_106 rfl ?_
                refine J_bipush (v := 43) dX12_sign_107 (by decide) ?_
                refine J_icmp_lt (tgt := 123) dX12_sign_109 (by decide) (fun c2 => ?_) (fun c2 => ?_)
                · -- to 123
                  refine J_aload_n dX12_sign_123 rfl ?_
                  refine M_getI dX12_sign_124 fX12_189 rfl rfl (by decide) ?_
                  rw [hc2.2.2.2.2.2.2.2.2.2.2.2.1]
                  refine J_if_le (tgt := 132) dX12_sign_127 (by decide) (fun c3 => ?_) (fun c3 => ?_)
                  · -- to 132
                    refine J_aload_n dX12_sign_132 rfl ?_
                    refine J_aload_n dX12_sign_133 rfl ?_
                    refine M_getI dX12_sign_134 fX12_177 rfl rfl (by decide) ?_
                    rw [hc2.2.2.1.2.1]
                    rw [show srt x.1.1 = 62 by rw [hK]; rfl]
                    refine J_bipush (v := 61) dX12_sign_137 (by decide) ?_
                    refine J_icmp_ne (tgt := 147) dX12_sign_139 (by decide) (fun c4 => ?_) (fun c4 => ?_)
                    · -- to 147
                      refine J_aload_n dX12_sign_147 rfl ?_
                      refine M_getI dX12_sign_148 fX12_177 rfl rfl (by decide) ?_
                      rw [hc2.2.2.1.2.1]
                      rw [show srt x.1.1 = 62 by rw [hK]; rfl]
                      refine J_bipush (v := 60) dX12_sign_151 (by decide) ?_
                      refine J_icmp_ne (tgt := 161) dX12_sign_153 (by decide) (fun c5 => ?_) (fun c5 => ?_)
                      · -- to 161
                        refine J_bipush (v := 45) dX12_sign_161 (by decide) ?_
                        refine M_callV1 (mc := mX12_hold) dX12_sign_163 kX12_270 oX12_hold (Nat.le_of_ble_eq_true rfl) (Nat.le_of_ble_eq_true rfl) rfl (by decide) rfl ?_
                        refine M_more (d := 0) (Nat.zero_le _) (tX12_hold (c := 45) hc2 (by unfold opW; decide) (hlen (by rw [ht]; exact (fun q => q))) (by have z := (stl_n (lv := 46) ws x.2.1).1; rw [nop, if_neg (by decide)]; show 3 * ((stl 46 ws x.2.1).2.length + (nop (stl 46 ws x.2.1).1 + 1)) ≤ 6 * x.2.2 + x.1.2.2.2; omega) (fun N3 hc3 => ?_))
                        refine J_aload_n dX12_sign_166 rfl ?_
                        refine M_callV0 (mc := mX12_next) dX12_sign_167 kX12_267 oX12_next (Nat.le_of_ble_eq_true rfl) (Nat.le_of_ble_eq_true rfl) rfl (by decide) rfl ?_
                        refine M_more (d := 2) (by omega) (tX12_adv (d := 0) (T := T) hnb hn hT hc3 (by show x.1.1 ≠ 0; omega) (by show x.1.1 ≠ 1; omega) (fun N4 hc4 => ?_))
                        refine J_iconst (v := 1) dX12_sign_170 (by decide) ?_
                        refine M_iret dX12_sign_171 rfl rfl ?_
                        exact h1 (by rw [ht]; exact fun q => q) N4 hc4
                      · -- on 156
                        exact absurd c5 (by decide)
                    · -- on 142
                      exact absurd c4 (by decide)
                  · -- on 130
                    exact absurd (by decide) c3
                · -- on 112
                  exact absurd c2 (by decide)
            · rw [ht] at hw2 hop hl2
              rw [List.length_cons] at hw2 hl2
              have hoc := hop c (List.mem_cons_self ..)
              unfold opW at hoc
              have htc := hc2.2.2.2.2.2.2.2.2.2.1
              rw [ht] at htc
              by_cases hcm : 43 ≤ c ∧ c ≤ 45
              ·
                refine J_aload_n dX12_sign_83 rfl ?_
                refine M_getI dX12_sign_84 fX12_223 rfl rfl (by decide) ?_
                rw [hw2]
                refine J_if_ne (tgt := 94) dX12_sign_87 (by decide) (fun c1 => ?_) (fun c1 => ?_)
                · -- to 94
                  refine J_aload_n dX12_sign_94 rfl ?_
                  refine M_getR dX12_sign_95 fX12_72 rfl rfl (by decide) ?_
                  refine J_aload_n dX12_sign_98 rfl ?_
                  refine M_getI dX12_sign_99 fX12_223 rfl rfl (by decide) ?_
                  rw [hw2]
                  refine J_iconst (v := 1) dX12_sign_102 (by decide) ?_
                  refine J_isub dX12_sign_103 ?_
                  refine M_ialdE dX12_sign_104 rfl (by decide) (nI_pred r.length) (by omega) ?_
                  rw [htc.1]
                  refine J_istore_n dX12_sign_105 (by decide) rfl ?_
                  dsimp only [setL]
                  refine J_iload_n dX12_sign_106 rfl ?_
                  refine J_bipush (v := 43) dX12_sign_107 (by decide) ?_
                  refine J_icmp_lt (tgt := 123) dX12_sign_109 (by decide) (fun c2 => ?_) (fun c2 => ?_)
                  · -- to 123
                    exact absurd c2 (nI_nlt (b := 43) hcm.1 (by omega))
                  · -- on 112
                    refine J_iload_n dX12_sign_112 rfl ?_
                    refine J_bipush (v := 45) dX12_sign_113 (by decide) ?_
                    refine J_icmp_gt (tgt := 123) dX12_sign_115 (by decide) (fun c3 => ?_) (fun c3 => ?_)
                    · -- to 123
                      exact absurd c3 (nI_nlt (a := 45) hcm.2 (by decide))
                    · -- on 118
                      refine J_aload_n dX12_sign_118 rfl ?_
                      refine J_iconst (v := 2) dX12_sign_119 (by decide) ?_
                      refine M_callV1 (mc := mX12_wrong) dX12_sign_120 kX12_258 oX12_wrong (Nat.le_of_ble_eq_true rfl) (Nat.le_of_ble_eq_true rfl) rfl (by decide) rfl ?_
                      refine M_more (d := 0) (Nat.zero_le _) (tX12_wrong (f := 2) hc2 (fun N3 hN => ?_))
                      refine J_aload_n dX12_sign_123 rfl ?_
                      refine M_getI dX12_sign_124 fX12_189 rfl rfl (by decide) ?_
                      refine J_if_le (tgt := 132) dX12_sign_127 (by decide) (fun c5 => ?_) (fun c5 => ?_)
                      · -- to 132
                        exact absurd c5 (by rw [hN.2.2.1]; show ¬ nI (if x.1.1 = 1 then 1 else 2) ≤ 0; split <;> decide)
                      · -- on 130
                        refine J_iconst (v := 2) dX12_sign_130 (by decide) ?_
                        refine M_iret dX12_sign_131 rfl rfl ?_
                        exact h0 (by rw [ht]; exact hcm) N3 hN
                · -- on 90
                  exact absurd c1 (nI_pos0 (by omega) (by omega))
              ·
                refine J_aload_n dX12_sign_83 rfl ?_
                refine M_getI dX12_sign_84 fX12_223 rfl rfl (by decide) ?_
                rw [hw2]
                refine J_if_ne (tgt := 94) dX12_sign_87 (by decide) (fun c1 => ?_) (fun c1 => ?_)
                · -- to 94
                  refine J_aload_n dX12_sign_94 rfl ?_
                  refine M_getR dX12_sign_95 fX12_72 rfl rfl (by decide) ?_
                  refine J_aload_n dX12_sign_98 rfl ?_
                  refine M_getI dX12_sign_99 fX12_223 rfl rfl (by decide) ?_
                  rw [hw2]
                  refine J_iconst (v := 1) dX12_sign_102 (by decide) ?_
                  refine J_isub dX12_sign_103 ?_
                  refine M_ialdE dX12_sign_104 rfl (by decide) (nI_pred r.length) (by omega) ?_
                  rw [htc.1]
                  refine J_istore_n dX12_sign_105 (by decide) rfl ?_
                  dsimp only [setL]
                  refine J_iload_n dX12_sign_106 rfl ?_
                  refine J_bipush (v := 43) dX12_sign_107 (by decide) ?_
                  refine J_icmp_lt (tgt := 123) dX12_sign_109 (by decide) (fun c2 => ?_) (fun c2 => ?_)
                  · -- to 123
                    refine J_aload_n dX12_sign_123 rfl ?_
                    refine M_getI dX12_sign_124 fX12_189 rfl rfl (by decide) ?_
                    rw [hc2.2.2.2.2.2.2.2.2.2.2.2.1]
                    refine J_if_le (tgt := 132) dX12_sign_127 (by decide) (fun c3 => ?_) (fun c3 => ?_)
                    · -- to 132
                      refine J_aload_n dX12_sign_132 rfl ?_
                      refine J_aload_n dX12_sign_133 rfl ?_
                      refine M_getI dX12_sign_134 fX12_177 rfl rfl (by decide) ?_
                      rw [hc2.2.2.1.2.1]
                      rw [show srt x.1.1 = 62 by rw [hK]; rfl]
                      refine J_bipush (v := 61) dX12_sign_137 (by decide) ?_
                      refine J_icmp_ne (tgt := 147) dX12_sign_139 (by decide) (fun c4 => ?_) (fun c4 => ?_)
                      · -- to 147
                        refine J_aload_n dX12_sign_147 rfl ?_
                        refine M_getI dX12_sign_148 fX12_177 rfl rfl (by decide) ?_
                        rw [hc2.2.2.1.2.1]
                        rw [show srt x.1.1 = 62 by rw [hK]; rfl]
                        refine J_bipush (v := 60) dX12_sign_151 (by decide) ?_
                        refine J_icmp_ne (tgt := 161) dX12_sign_153 (by decide) (fun c5 => ?_) (fun c5 => ?_)
                        · -- to 161
                          refine J_bipush (v := 45) dX12_sign_161 (by decide) ?_
                          refine M_callV1 (mc := mX12_hold) dX12_sign_163 kX12_270 oX12_hold (Nat.le_of_ble_eq_true rfl) (Nat.le_of_ble_eq_true rfl) rfl (by decide) rfl ?_
                          refine M_more (d := 0) (Nat.zero_le _) (tX12_hold (c := 45) hc2 (by unfold opW; decide) (hlen (by rw [ht]; exact hcm)) (by have z := (stl_n (lv := 46) ws x.2.1).1; rw [nop, if_neg (by decide)]; show 3 * ((stl 46 ws x.2.1).2.length + (nop (stl 46 ws x.2.1).1 + 1)) ≤ 6 * x.2.2 + x.1.2.2.2; omega) (fun N3 hc3 => ?_))
                          refine J_aload_n dX12_sign_166 rfl ?_
                          refine M_callV0 (mc := mX12_next) dX12_sign_167 kX12_267 oX12_next (Nat.le_of_ble_eq_true rfl) (Nat.le_of_ble_eq_true rfl) rfl (by decide) rfl ?_
                          refine M_more (d := 2) (by omega) (tX12_adv (d := 0) (T := T) hnb hn hT hc3 (by show x.1.1 ≠ 0; omega) (by show x.1.1 ≠ 1; omega) (fun N4 hc4 => ?_))
                          refine J_iconst (v := 1) dX12_sign_170 (by decide) ?_
                          refine M_iret dX12_sign_171 rfl rfl ?_
                          exact h1 (by rw [ht]; exact hcm) N4 hc4
                        · -- on 156
                          exact absurd c5 (by decide)
                      · -- on 142
                        exact absurd c4 (by decide)
                    · -- on 130
                      exact absurd (by decide) c3
                  · -- on 112
                    have cLo := c2
                    refine J_iload_n dX12_sign_112 rfl ?_
                    refine J_bipush (v := 45) dX12_sign_113 (by decide) ?_
                    refine J_icmp_gt (tgt := 123) dX12_sign_115 (by decide) (fun c8 => ?_) (fun c8 => ?_)
                    · -- to 123
                      refine J_aload_n dX12_sign_123 rfl ?_
                      refine M_getI dX12_sign_124 fX12_189 rfl rfl (by decide) ?_
                      rw [hc2.2.2.2.2.2.2.2.2.2.2.2.1]
                      refine J_if_le (tgt := 132) dX12_sign_127 (by decide) (fun c9 => ?_) (fun c9 => ?_)
                      · -- to 132
                        refine J_aload_n dX12_sign_132 rfl ?_
                        refine J_aload_n dX12_sign_133 rfl ?_
                        refine M_getI dX12_sign_134 fX12_177 rfl rfl (by decide) ?_
                        rw [hc2.2.2.1.2.1]
                        rw [show srt x.1.1 = 62 by rw [hK]; rfl]
                        refine J_bipush (v := 61) dX12_sign_137 (by decide) ?_
                        refine J_icmp_ne (tgt := 147) dX12_sign_139 (by decide) (fun c10 => ?_) (fun c10 => ?_)
                        · -- to 147
                          refine J_aload_n dX12_sign_147 rfl ?_
                          refine M_getI dX12_sign_148 fX12_177 rfl rfl (by decide) ?_
                          rw [hc2.2.2.1.2.1]
                          rw [show srt x.1.1 = 62 by rw [hK]; rfl]
                          refine J_bipush (v := 60) dX12_sign_151 (by decide) ?_
                          refine J_icmp_ne (tgt := 161) dX12_sign_153 (by decide) (fun c11 => ?_) (fun c11 => ?_)
                          · -- to 161
                            refine J_bipush (v := 45) dX12_sign_161 (by decide) ?_
                            refine M_callV1 (mc := mX12_hold) dX12_sign_163 kX12_270 oX12_hold (Nat.le_of_ble_eq_true rfl) (Nat.le_of_ble_eq_true rfl) rfl (by decide) rfl ?_
                            refine M_more (d := 0) (Nat.zero_le _) (tX12_hold (c := 45) hc2 (by unfold opW; decide) (hlen (by rw [ht]; exact hcm)) (by have z := (stl_n (lv := 46) ws x.2.1).1; rw [nop, if_neg (by decide)]; show 3 * ((stl 46 ws x.2.1).2.length + (nop (stl 46 ws x.2.1).1 + 1)) ≤ 6 * x.2.2 + x.1.2.2.2; omega) (fun N3 hc3 => ?_))
                            refine J_aload_n dX12_sign_166 rfl ?_
                            refine M_callV0 (mc := mX12_next) dX12_sign_167 kX12_267 oX12_next (Nat.le_of_ble_eq_true rfl) (Nat.le_of_ble_eq_true rfl) rfl (by decide) rfl ?_
                            refine M_more (d := 2) (by omega) (tX12_adv (d := 0) (T := T) hnb hn hT hc3 (by show x.1.1 ≠ 0; omega) (by show x.1.1 ≠ 1; omega) (fun N4 hc4 => ?_))
                            refine J_iconst (v := 1) dX12_sign_170 (by decide) ?_
                            refine M_iret dX12_sign_171 rfl rfl ?_
                            exact h1 (by rw [ht]; exact hcm) N4 hc4
                          · -- on 156
                            exact absurd c11 (by decide)
                        · -- on 142
                          exact absurd c10 (by decide)
                      · -- on 130
                        exact absurd (by decide) c9
                    · -- on 118
                      exact absurd ⟨Nat.not_lt.mp (fun q => cLo (nI_lt q (by decide))), Nat.not_lt.mp (fun q => c8 (nI_lt (a := 45) q (by omega)))⟩ hcm
                · -- on 90
                  exact absurd c1 (nI_pos0 (by omega) (by omega))
    · -- on 18
      exact absurd c2 (by decide)
set_option maxRecDepth 100000 in
set_option maxHeartbeats 1000000 in
theorem tM_sg_17 {d : Nat} {Φ : Option Int32 → Mem → Prop} {M0 N : Mem} {n : Nat} {T : Nat → Nat} {x : PSt} {ws : List Nat} (hnb : n ≤ 1000) (hn : M0.1 62 30 = nI n) (hT : ∀ i, M0.1 81 i = nI (T i) ∧ T i < 256) (hc : PQ M0 N n x ws) (hK : x.1.1 = 17) (hlen : (sto true ws x.2.1).1.length < 60) (hb : 3 * (x.2.1.length + nop ws + 1) ≤ 6 * x.2.2 + x.1.2.2.2) (h : ∀ N2, PQ M0 N2 n (advP T n (x.1, (sto true ws x.2.1).2, x.2.2)) (42 :: (sto true ws x.2.1).1) → Φ (some 0) N2) : JM noRo (d + 3) mX12_sign 0 [some (.ref 62)] [] N Φ := by
  have h256 := hc.2.2.2.1.2.2.2.2.2.2.1
  have h19 := hc.2.2.2.1.2.2.2.2.2.2.2.2
  refine J_aload_n dX12_sign_0 rfl ?_
  refine M_getI dX12_sign_1 fX12_177 rfl rfl (by decide) ?_
  rw [hc.2.2.1.2.1]
  rw [show srt x.1.1 = 1 by rw [hK]; rfl]
  refine J_bipush (v := 43) dX12_sign_4 (by decide) ?_
  refine J_icmp_eq (tgt := 18) dX12_sign_6 (by decide) (fun c1 => ?_) (fun c1 => ?_)
  · -- to 18
    exact absurd c1 (by decide)
  · -- on 9
    refine J_aload_n dX12_sign_9 rfl ?_
    refine M_getI dX12_sign_10 fX12_177 rfl rfl (by decide) ?_
    rw [hc.2.2.1.2.1]
    rw [show srt x.1.1 = 1 by rw [hK]; rfl]
    refine J_bipush (v := 45) dX12_sign_13 (by decide) ?_
    refine J_icmp_ne (tgt := 50) dX12_sign_15 (by decide) (fun c2 => ?_) (fun c2 => ?_)
    · -- to 50
      refine J_aload_n dX12_sign_50 rfl ?_
      refine M_getI dX12_sign_51 fX12_177 rfl rfl (by decide) ?_
      rw [hc.2.2.1.2.1]
      rw [show srt x.1.1 = 1 by rw [hK]; rfl]
      refine J_bipush (v := 61) dX12_sign_54 (by decide) ?_
      refine J_icmp_eq (tgt := 77) dX12_sign_56 (by decide) (fun c3 => ?_) (fun c3 => ?_)
      · -- to 77
        exact absurd c3 (by decide)
      · -- on 59
        refine J_aload_n dX12_sign_59 rfl ?_
        refine M_getI dX12_sign_60 fX12_177 rfl rfl (by decide) ?_
        rw [hc.2.2.1.2.1]
        rw [show srt x.1.1 = 1 by rw [hK]; rfl]
        refine J_bipush (v := 60) dX12_sign_63 (by decide) ?_
        refine J_icmp_eq (tgt := 77) dX12_sign_65 (by decide) (fun c4 => ?_) (fun c4 => ?_)
        · -- to 77
          exact absurd c4 (by decide)
        · -- on 68
          refine J_aload_n dX12_sign_68 rfl ?_
          refine M_getI dX12_sign_69 fX12_177 rfl rfl (by decide) ?_
          rw [hc.2.2.1.2.1]
          rw [show srt x.1.1 = 1 by rw [hK]; rfl]
          refine J_bipush (v := 62) dX12_sign_72 (by decide) ?_
          refine J_icmp_ne (tgt := 172) dX12_sign_74 (by decide) (fun c5 => ?_) (fun c5 => ?_)
          · -- to 172
            refine J_aload_n dX12_sign_172 rfl ?_
            refine J_ldc2 dX12_sign_173 ccX12_254 ?_
            refine M_callV1 (mc := mX12_isWord) dX12_sign_176 kX12_273 oX12_isWord (Nat.le_of_ble_eq_true rfl) (Nat.le_of_ble_eq_true rfl) rfl (by decide) rfl ?_
            refine M_more (d := 0) (Nat.zero_le _) (tX12_isWord (v := 17) hc (by decide) (by decide) (fun q => ?_) (fun q => absurd hK q))
            refine J_if_ne (tgt := 192) dX12_sign_179 (by decide) (fun c7 => ?_) (fun c7 => ?_)
            · -- to 192
              refine J_aload_n dX12_sign_192 rfl ?_
              refine J_ldc2 dX12_sign_193 ccX12_254 ?_
              refine M_callV1 (mc := mX12_isWord) dX12_sign_196 kX12_273 oX12_isWord (Nat.le_of_ble_eq_true rfl) (Nat.le_of_ble_eq_true rfl) rfl (by decide) rfl ?_
              refine M_more (d := 0) (Nat.zero_le _) (tX12_isWord (v := 17) hc (by decide) (by decide) (fun q => ?_) (fun q => absurd hK q))
              refine J_istore_n dX12_sign_199 (by decide) rfl ?_
              dsimp only [setL]
              refine J_aload_n dX12_sign_200 rfl ?_
              refine J_iload_n dX12_sign_201 rfl ?_
              refine M_callV1 (mc := mX12_settleOnes) dX12_sign_202 kX12_277 oX12_settleOnes (Nat.le_of_ble_eq_true rfl) (Nat.le_of_ble_eq_true rfl) rfl (by decide) rfl ?_
              refine M_more (d := 1) (by omega) (tX12_settleOnes (d := 0) (an := true) hnb hc (fun N2 hc2 => ?_))
              refine J_aload_n dX12_sign_205 rfl ?_
              refine J_iload_n dX12_sign_206 rfl ?_
              refine J_if_eq (tgt := 215) dX12_sign_207 (by decide) (fun c10 => ?_) (fun c10 => ?_)
              · -- to 215
                exact absurd c10 (by decide)
              · -- on 210
                refine J_bipush (v := 42) dX12_sign_210 (by decide) ?_
                refine J_goto (tgt := 217) dX12_sign_212 (by decide) ?_
                refine M_callV1 (mc := mX12_hold) dX12_sign_217 kX12_270 oX12_hold (Nat.le_of_ble_eq_true rfl) (Nat.le_of_ble_eq_true rfl) rfl (by decide) rfl ?_
                refine M_more (d := 0) (Nat.zero_le _) (tX12_hold (c := 42) hc2 (by unfold opW; decide) hlen (by have z := (sto_n (an := true) ws x.2.1).1; rw [nop, if_neg (by decide)]; show 3 * ((sto true ws x.2.1).2.length + (nop (sto true ws x.2.1).1 + 1)) ≤ 6 * x.2.2 + x.1.2.2.2; omega) (fun N3 hc3 => ?_))
                refine J_aload_n dX12_sign_220 rfl ?_
                refine M_callV0 (mc := mX12_next) dX12_sign_221 kX12_267 oX12_next (Nat.le_of_ble_eq_true rfl) (Nat.le_of_ble_eq_true rfl) rfl (by decide) rfl ?_
                refine M_more (d := 2) (by omega) (tX12_adv (d := 0) (T := T) hnb hn hT hc3 (by show x.1.1 ≠ 0; omega) (by show x.1.1 ≠ 1; omega) (fun N4 hc4 => ?_))
                refine J_iconst (v := 0) dX12_sign_224 (by decide) ?_
                refine M_iret dX12_sign_225 rfl rfl ?_
                exact h N4 hc4
            · -- on 182
              exact absurd c7 (by decide)
          · -- on 77
            exact absurd c5 (by decide)
    · -- on 18
      exact absurd c2 (by decide)
set_option maxRecDepth 100000 in
set_option maxHeartbeats 1000000 in
theorem tM_sg_16 {d : Nat} {Φ : Option Int32 → Mem → Prop} {M0 N : Mem} {n : Nat} {T : Nat → Nat} {x : PSt} {ws : List Nat} (hnb : n ≤ 1000) (hn : M0.1 62 30 = nI n) (hT : ∀ i, M0.1 81 i = nI (T i) ∧ T i < 256) (hc : PQ M0 N n x ws) (hK : x.1.1 = 16) (hlen : (sto false ws x.2.1).1.length < 60) (hb : 3 * (x.2.1.length + nop ws + 1) ≤ 6 * x.2.2 + x.1.2.2.2) (h : ∀ N2, PQ M0 N2 n (advP T n (x.1, (sto false ws x.2.1).2, x.2.2)) (41 :: (sto false ws x.2.1).1) → Φ (some 0) N2) : JM noRo (d + 3) mX12_sign 0 [some (.ref 62)] [] N Φ := by
  have h256 := hc.2.2.2.1.2.2.2.2.2.2.1
  have h19 := hc.2.2.2.1.2.2.2.2.2.2.2.2
  refine J_aload_n dX12_sign_0 rfl ?_
  refine M_getI dX12_sign_1 fX12_177 rfl rfl (by decide) ?_
  rw [hc.2.2.1.2.1]
  rw [show srt x.1.1 = 1 by rw [hK]; rfl]
  refine J_bipush (v := 43) dX12_sign_4 (by decide) ?_
  refine J_icmp_eq (tgt := 18) dX12_sign_6 (by decide) (fun c1 => ?_) (fun c1 => ?_)
  · -- to 18
    exact absurd c1 (by decide)
  · -- on 9
    refine J_aload_n dX12_sign_9 rfl ?_
    refine M_getI dX12_sign_10 fX12_177 rfl rfl (by decide) ?_
    rw [hc.2.2.1.2.1]
    rw [show srt x.1.1 = 1 by rw [hK]; rfl]
    refine J_bipush (v := 45) dX12_sign_13 (by decide) ?_
    refine J_icmp_ne (tgt := 50) dX12_sign_15 (by decide) (fun c2 => ?_) (fun c2 => ?_)
    · -- to 50
      refine J_aload_n dX12_sign_50 rfl ?_
      refine M_getI dX12_sign_51 fX12_177 rfl rfl (by decide) ?_
      rw [hc.2.2.1.2.1]
      rw [show srt x.1.1 = 1 by rw [hK]; rfl]
      refine J_bipush (v := 61) dX12_sign_54 (by decide) ?_
      refine J_icmp_eq (tgt := 77) dX12_sign_56 (by decide) (fun c3 => ?_) (fun c3 => ?_)
      · -- to 77
        exact absurd c3 (by decide)
      · -- on 59
        refine J_aload_n dX12_sign_59 rfl ?_
        refine M_getI dX12_sign_60 fX12_177 rfl rfl (by decide) ?_
        rw [hc.2.2.1.2.1]
        rw [show srt x.1.1 = 1 by rw [hK]; rfl]
        refine J_bipush (v := 60) dX12_sign_63 (by decide) ?_
        refine J_icmp_eq (tgt := 77) dX12_sign_65 (by decide) (fun c4 => ?_) (fun c4 => ?_)
        · -- to 77
          exact absurd c4 (by decide)
        · -- on 68
          refine J_aload_n dX12_sign_68 rfl ?_
          refine M_getI dX12_sign_69 fX12_177 rfl rfl (by decide) ?_
          rw [hc.2.2.1.2.1]
          rw [show srt x.1.1 = 1 by rw [hK]; rfl]
          refine J_bipush (v := 62) dX12_sign_72 (by decide) ?_
          refine J_icmp_ne (tgt := 172) dX12_sign_74 (by decide) (fun c5 => ?_) (fun c5 => ?_)
          · -- to 172
            refine J_aload_n dX12_sign_172 rfl ?_
            refine J_ldc2 dX12_sign_173 ccX12_254 ?_
            refine M_callV1 (mc := mX12_isWord) dX12_sign_176 kX12_273 oX12_isWord (Nat.le_of_ble_eq_true rfl) (Nat.le_of_ble_eq_true rfl) rfl (by decide) rfl ?_
            refine M_more (d := 0) (Nat.zero_le _) (tX12_isWord (v := 17) hc (by decide) (by decide) (fun q => absurd (hK.symm.trans q) (by decide)) (fun q => ?_))
            refine J_if_ne (tgt := 192) dX12_sign_179 (by decide) (fun c7 => ?_) (fun c7 => ?_)
            · -- to 192
              exact absurd c7 (by decide)
            · -- on 182
              refine J_aload_n dX12_sign_182 rfl ?_
              refine J_ldc2 dX12_sign_183 ccX12_252 ?_
              refine M_callV1 (mc := mX12_isWord) dX12_sign_186 kX12_273 oX12_isWord (Nat.le_of_ble_eq_true rfl) (Nat.le_of_ble_eq_true rfl) rfl (by decide) rfl ?_
              refine M_more (d := 0) (Nat.zero_le _) (tX12_isWord (v := 16) hc (by decide) (by decide) (fun q => ?_) (fun q => absurd hK q))
              refine J_if_eq (tgt := 226) dX12_sign_189 (by decide) (fun c9 => ?_) (fun c9 => ?_)
              · -- to 226
                exact absurd c9 (by decide)
              · -- on 192
                refine J_aload_n dX12_sign_192 rfl ?_
                refine J_ldc2 dX12_sign_193 ccX12_254 ?_
                refine M_callV1 (mc := mX12_isWord) dX12_sign_196 kX12_273 oX12_isWord (Nat.le_of_ble_eq_true rfl) (Nat.le_of_ble_eq_true rfl) rfl (by decide) rfl ?_
                refine M_more (d := 0) (Nat.zero_le _) (tX12_isWord (v := 17) hc (by decide) (by decide) (fun q => absurd (hK.symm.trans q) (by decide)) (fun q => ?_))
                refine J_istore_n dX12_sign_199 (by decide) rfl ?_
                dsimp only [setL]
                refine J_aload_n dX12_sign_200 rfl ?_
                refine J_iload_n dX12_sign_201 rfl ?_
                refine M_callV1 (mc := mX12_settleOnes) dX12_sign_202 kX12_277 oX12_settleOnes (Nat.le_of_ble_eq_true rfl) (Nat.le_of_ble_eq_true rfl) rfl (by decide) rfl ?_
                refine M_more (d := 1) (by omega) (tX12_settleOnes (d := 0) (an := false) hnb hc (fun N2 hc2 => ?_))
                refine J_aload_n dX12_sign_205 rfl ?_
                refine J_iload_n dX12_sign_206 rfl ?_
                refine J_if_eq (tgt := 215) dX12_sign_207 (by decide) (fun c12 => ?_) (fun c12 => ?_)
                · -- to 215
                  refine J_bipush (v := 41) dX12_sign_215 (by decide) ?_
                  refine M_callV1 (mc := mX12_hold) dX12_sign_217 kX12_270 oX12_hold (Nat.le_of_ble_eq_true rfl) (Nat.le_of_ble_eq_true rfl) rfl (by decide) rfl ?_
                  refine M_more (d := 0) (Nat.zero_le _) (tX12_hold (c := 41) hc2 (by unfold opW; decide) hlen (by have z := (sto_n (an := false) ws x.2.1).1; rw [nop, if_neg (by decide)]; show 3 * ((sto false ws x.2.1).2.length + (nop (sto false ws x.2.1).1 + 1)) ≤ 6 * x.2.2 + x.1.2.2.2; omega) (fun N3 hc3 => ?_))
                  refine J_aload_n dX12_sign_220 rfl ?_
                  refine M_callV0 (mc := mX12_next) dX12_sign_221 kX12_267 oX12_next (Nat.le_of_ble_eq_true rfl) (Nat.le_of_ble_eq_true rfl) rfl (by decide) rfl ?_
                  refine M_more (d := 2) (by omega) (tX12_adv (d := 0) (T := T) hnb hn hT hc3 (by show x.1.1 ≠ 0; omega) (by show x.1.1 ≠ 1; omega) (fun N4 hc4 => ?_))
                  refine J_iconst (v := 0) dX12_sign_224 (by decide) ?_
                  refine M_iret dX12_sign_225 rfl rfl ?_
                  exact h N4 hc4
                · -- on 210
                  exact absurd c12 (by decide)
          · -- on 77
            exact absurd c5 (by decide)
    · -- on 18
      exact absurd c2 (by decide)
