theorem stl_open : ∀ ws rs, 48 ∈ ws → (∀ c ∈ ws, opW c) → ∃ r, (stl 0 ws rs).1 = 48 :: r
  | [], rs, h, _ => absurd h (by simp)
  | c :: r, rs, h, ho => by
    rw [stl]
    by_cases hc : c = 48
    · rw [if_pos (Or.inl hc)]; exact ⟨r, by rw [hc]⟩
    · rw [if_neg (fun q => q.elim hc (fun z => absurd z (by omega)))]
      exact stl_open r _ ((List.mem_cons.mp h).resolve_left (fun q => hc q.symm)) (fun q hq => ho q (List.mem_cons_of_mem _ hq))
set_option maxRecDepth 100000 in
set_option maxHeartbeats 1000000 in
theorem tM_sg_41 {d : Nat} {Φ : Option Int32 → Mem → Prop} {M0 N : Mem} {n : Nat} {T : Nat → Nat} {x : PSt} {ws : List Nat} (hnb : n ≤ 1000) (hn : M0.1 62 30 = nI n) (hT : ∀ i, M0.1 81 i = nI (T i) ∧ T i < 256) (hc : PQ M0 N n x ws) (hK : x.1.1 = 41) (hop : 48 ∈ ws) (h : ∀ r, (stl 0 ws x.2.1).1 = 48 :: r → ∀ N2, PQ M0 N2 n (advP T n (x.1, (stl 0 ws x.2.1).2, x.2.2)) r → Φ (some 2) N2) : JM noRo (d + 3) mX12_sign 0 [some (.ref 62)] [] N Φ := by
  have h256 := hc.2.2.2.1.2.2.2.2.2.2.1
  have h19 := hc.2.2.2.1.2.2.2.2.2.2.2.2
  obtain ⟨r, hr⟩ := stl_open ws x.2.1 hop hc.2.2.2.2.2.2.2.2.2.2.2.2.2.1
  refine J_aload_n dX12_sign_0 rfl ?_
  refine M_getI dX12_sign_1 fX12_177 rfl rfl (by decide) ?_
  rw [hc.2.2.1.2.1]
  rw [show srt x.1.1 = 41 by rw [hK]; rfl]
  refine J_bipush (v := 43) dX12_sign_4 (by decide) ?_
  refine J_icmp_eq (tgt := 18) dX12_sign_6 (by decide) (fun c1 => ?_) (fun c1 => ?_)
  · -- to 18
    exact absurd c1 (by decide)
  · -- on 9
    refine J_aload_n dX12_sign_9 rfl ?_
    refine M_getI dX12_sign_10 fX12_177 rfl rfl (by decide) ?_
    rw [hc.2.2.1.2.1]
    rw [show srt x.1.1 = 41 by rw [hK]; rfl]
    refine J_bipush (v := 45) dX12_sign_13 (by decide) ?_
    refine J_icmp_ne (tgt := 50) dX12_sign_15 (by decide) (fun c2 => ?_) (fun c2 => ?_)
    · -- to 50
      refine J_aload_n dX12_sign_50 rfl ?_
      refine M_getI dX12_sign_51 fX12_177 rfl rfl (by decide) ?_
      rw [hc.2.2.1.2.1]
      rw [show srt x.1.1 = 41 by rw [hK]; rfl]
      refine J_bipush (v := 61) dX12_sign_54 (by decide) ?_
      refine J_icmp_eq (tgt := 77) dX12_sign_56 (by decide) (fun c3 => ?_) (fun c3 => ?_)
      · -- to 77
        exact absurd c3 (by decide)
      · -- on 59
        refine J_aload_n dX12_sign_59 rfl ?_
        refine M_getI dX12_sign_60 fX12_177 rfl rfl (by decide) ?_
        rw [hc.2.2.1.2.1]
        rw [show srt x.1.1 = 41 by rw [hK]; rfl]
        refine J_bipush (v := 60) dX12_sign_63 (by decide) ?_
        refine J_icmp_eq (tgt := 77) dX12_sign_65 (by decide) (fun c4 => ?_) (fun c4 => ?_)
        · -- to 77
          exact absurd c4 (by decide)
        · -- on 68
          refine J_aload_n dX12_sign_68 rfl ?_
          refine M_getI dX12_sign_69 fX12_177 rfl rfl (by decide) ?_
          rw [hc.2.2.1.2.1]
          rw [show srt x.1.1 = 41 by rw [hK]; rfl]
          refine J_bipush (v := 62) dX12_sign_72 (by decide) ?_
          refine J_icmp_ne (tgt := 172) dX12_sign_74 (by decide) (fun c5 => ?_) (fun c5 => ?_)
          · -- to 172
            refine J_aload_n dX12_sign_172 rfl ?_
            refine J_ldc2 dX12_sign_173 ccX12_254 ?_
            refine M_callV1 (mc := mX12_isWord) dX12_sign_176 kX12_273 oX12_isWord (Nat.le_of_ble_eq_true rfl) (Nat.le_of_ble_eq_true rfl) rfl (by decide) rfl ?_
            refine M_more (d := 0) (Nat.zero_le _) (tX12_isWord (v := 17) hc (by decide) (by decide) (fun q => absurd q (by omega)) (fun _ => ?_))
            refine J_if_ne (tgt := 192) dX12_sign_179 (by decide) (fun c7 => ?_) (fun c7 => ?_)
            · -- to 192
              exact absurd c7 (by decide)
            · -- on 182
              refine J_aload_n dX12_sign_182 rfl ?_
              refine J_ldc2 dX12_sign_183 ccX12_252 ?_
              refine M_callV1 (mc := mX12_isWord) dX12_sign_186 kX12_273 oX12_isWord (Nat.le_of_ble_eq_true rfl) (Nat.le_of_ble_eq_true rfl) rfl (by decide) rfl ?_
              refine M_more (d := 0) (Nat.zero_le _) (tX12_isWord (v := 16) hc (by decide) (by decide) (fun q => absurd q (by omega)) (fun _ => ?_))
              refine J_if_eq (tgt := 226) dX12_sign_189 (by decide) (fun c9 => ?_) (fun c9 => ?_)
              · -- to 226
                refine J_aload_n dX12_sign_226 rfl ?_
                refine M_getI dX12_sign_227 fX12_177 rfl rfl (by decide) ?_
                rw [hc.2.2.1.2.1]
                rw [show srt x.1.1 = 41 by rw [hK]; rfl]
                refine J_bipush (v := 41) dX12_sign_230 (by decide) ?_
                refine J_icmp_ne (tgt := 273) dX12_sign_232 (by decide) (fun c10 => ?_) (fun c10 => ?_)
                · -- to 273
                  exact absurd c10 (by decide)
                · -- on 235
                  refine J_aload_n dX12_sign_235 rfl ?_
                  refine M_callV0 (mc := mX12_isOpen) dX12_sign_236 kX12_233 oX12_isOpen (Nat.le_of_ble_eq_true rfl) (Nat.le_of_ble_eq_true rfl) rfl (by decide) rfl ?_
                  refine M_more (d := 0) (Nat.zero_le _) (tX12_isOpen hc (fun _ => ?_) (fun q => absurd hop q))
                  refine J_if_eq (tgt := 273) dX12_sign_239 (by decide) (fun c12 => ?_) (fun c12 => ?_)
                  · -- to 273
                    exact absurd c12 (by decide)
                  · -- on 242
                    refine J_aload_n dX12_sign_242 rfl ?_
                    refine J_iconst (v := 0) dX12_sign_243 (by decide) ?_
                    refine M_callV1 (mc := mX12_settle) dX12_sign_244 kX12_245 oX12_settle (Nat.le_of_ble_eq_true rfl) (Nat.le_of_ble_eq_true rfl) rfl (by decide) rfl ?_
                    refine M_more (d := 1) (by omega) (tX12_settle_l (d := 0) (lv := 0) hnb (by decide) ws x N hc (fun N2 hc2 => ?_))
                    rw [hr] at hc2
                    have hw := hc2.2.2.2.2.2.2.2.2.1
                    rw [List.length_cons] at hw
                    have hdp : N2.1 62 37 = nI (dpc r + 1) := hc2.2.2.2.2.2.2.2.2.2.2.1
                    refine J_aload_n dX12_sign_247 rfl ?_
                    refine J_dup dX12_sign_248 rfl ?_
                    refine M_getI dX12_sign_249 fX12_223 rfl rfl (by decide) ?_
                    rw [hw]
                    refine J_iconst (v := 1) dX12_sign_252 (by decide) ?_
                    refine J_isub dX12_sign_253 ?_
                    rw [nI_pred]
                    refine M_putI dX12_sign_254 pX12_223 rfl rfl (by decide) ?_
                    refine J_aload_n dX12_sign_257 rfl ?_
                    refine J_dup dX12_sign_258 rfl ?_
                    refine M_getI dX12_sign_259 fX12_226 rfl rfl (by decide) ?_
                    rw [rd3 (by decide), hdp]
                    refine J_iconst (v := 1) dX12_sign_262 (by decide) ?_
                    refine J_isub dX12_sign_263 ?_
                    rw [nI_pred]
                    refine M_putI dX12_sign_264 pX12_226 rfl rfl (by decide) ?_
                    refine J_aload_n dX12_sign_267 rfl ?_
                    refine M_callV0 (mc := mX12_next) dX12_sign_268 kX12_267 oX12_next (Nat.le_of_ble_eq_true rfl) (Nat.le_of_ble_eq_true rfl) rfl (by decide) rfl ?_
                    refine M_more (d := 2) (by omega) (tX12_adv (d := 0) (T := T) hnb hn hT hc2.close (by show x.1.1 ≠ 0; omega) (by show x.1.1 ≠ 1; omega) (fun N4 hc4 => ?_))
                    refine J_iconst (v := 2) dX12_sign_271 (by decide) ?_
                    refine M_iret dX12_sign_272 rfl rfl ?_
                    exact h r hr N4 hc4
              · -- on 192
                exact absurd c9 (by decide)
          · -- on 77
            exact absurd c5 (by decide)
    · -- on 18
      exact absurd c2 (by decide)
abbrev cont (K : Nat) : Prop := K = 43 ∨ K = 45 ∨ K = 61 ∨ K = 60 ∨ K = 62 ∨ K = 17 ∨ K = 16
set_option maxRecDepth 100000 in
set_option maxHeartbeats 1000000 in
theorem tM_sg_no {d : Nat} {Φ : Option Int32 → Mem → Prop} {M0 N : Mem} {n : Nat} {x : PSt} {ws : List Nat} (hc : PQ M0 N n x ws) (hno : ¬ cont x.1.1) (hcl : ¬ (x.1.1 = 41 ∧ 48 ∈ ws)) (h : ∀ N2, QF M0 N2 (if x.1.1 = 1 then 1 else 2, x.1.2.2.1) → Φ (some 2) N2) : JM noRo (d + 3) mX12_sign 0 [some (.ref 62)] [] N Φ := by
  have h256 := hc.2.2.2.1.2.2.2.2.2.2.1
  have h19 := hc.2.2.2.1.2.2.2.2.2.2.2.2
  refine J_aload_n dX12_sign_0 rfl ?_
  refine M_getI dX12_sign_1 fX12_177 rfl rfl (by decide) ?_
  rw [hc.2.2.1.2.1]
  refine J_bipush (v := 43) dX12_sign_4 (by decide) ?_
  refine J_icmp_eq (tgt := 18) dX12_sign_6 (by decide) (fun c1 => ?_) (fun c1 => ?_)
  · -- to 18
    exact absurd ((srt_s (v := 43) h256 (by decide) (by decide)).mp c1) (fun q => hno (by rw [q]; decide))
  · -- on 9
    refine J_aload_n dX12_sign_9 rfl ?_
    refine M_getI dX12_sign_10 fX12_177 rfl rfl (by decide) ?_
    rw [hc.2.2.1.2.1]
    refine J_bipush (v := 45) dX12_sign_13 (by decide) ?_
    refine J_icmp_ne (tgt := 50) dX12_sign_15 (by decide) (fun c2 => ?_) (fun c2 => ?_)
    · -- to 50
      refine J_aload_n dX12_sign_50 rfl ?_
      refine M_getI dX12_sign_51 fX12_177 rfl rfl (by decide) ?_
      rw [hc.2.2.1.2.1]
      refine J_bipush (v := 61) dX12_sign_54 (by decide) ?_
      refine J_icmp_eq (tgt := 77) dX12_sign_56 (by decide) (fun c3 => ?_) (fun c3 => ?_)
      · -- to 77
        exact absurd ((srt_s (v := 61) h256 (by decide) (by decide)).mp c3) (fun q => hno (by rw [q]; decide))
      · -- on 59
        refine J_aload_n dX12_sign_59 rfl ?_
        refine M_getI dX12_sign_60 fX12_177 rfl rfl (by decide) ?_
        rw [hc.2.2.1.2.1]
        refine J_bipush (v := 60) dX12_sign_63 (by decide) ?_
        refine J_icmp_eq (tgt := 77) dX12_sign_65 (by decide) (fun c4 => ?_) (fun c4 => ?_)
        · -- to 77
          exact absurd ((srt_s (v := 60) h256 (by decide) (by decide)).mp c4) (fun q => hno (by rw [q]; decide))
        · -- on 68
          refine J_aload_n dX12_sign_68 rfl ?_
          refine M_getI dX12_sign_69 fX12_177 rfl rfl (by decide) ?_
          rw [hc.2.2.1.2.1]
          refine J_bipush (v := 62) dX12_sign_72 (by decide) ?_
          refine J_icmp_ne (tgt := 172) dX12_sign_74 (by decide) (fun c5 => ?_) (fun c5 => ?_)
          · -- to 172
            refine J_aload_n dX12_sign_172 rfl ?_
            refine J_ldc2 dX12_sign_173 ccX12_254 ?_
            refine M_callV1 (mc := mX12_isWord) dX12_sign_176 kX12_273 oX12_isWord (Nat.le_of_ble_eq_true rfl) (Nat.le_of_ble_eq_true rfl) rfl (by decide) rfl ?_
            refine M_more (d := 0) (Nat.zero_le _) (tX12_isWord (v := 17) hc (by decide) (by decide) (fun q => absurd (show cont x.1.1 from by rw [q]; decide) hno) (fun _ => ?_))
            refine J_if_ne (tgt := 192) dX12_sign_179 (by decide) (fun c7 => ?_) (fun c7 => ?_)
            · -- to 192
              exact absurd c7 (by decide)
            · -- on 182
              refine J_aload_n dX12_sign_182 rfl ?_
              refine J_ldc2 dX12_sign_183 ccX12_252 ?_
              refine M_callV1 (mc := mX12_isWord) dX12_sign_186 kX12_273 oX12_isWord (Nat.le_of_ble_eq_true rfl) (Nat.le_of_ble_eq_true rfl) rfl (by decide) rfl ?_
              refine M_more (d := 0) (Nat.zero_le _) (tX12_isWord (v := 16) hc (by decide) (by decide) (fun q => absurd (show cont x.1.1 from by rw [q]; decide) hno) (fun _ => ?_))
              refine J_if_eq (tgt := 226) dX12_sign_189 (by decide) (fun c9 => ?_) (fun c9 => ?_)
              · -- to 226
                refine J_aload_n dX12_sign_226 rfl ?_
                refine M_getI dX12_sign_227 fX12_177 rfl rfl (by decide) ?_
                rw [hc.2.2.1.2.1]
                refine J_bipush (v := 41) dX12_sign_230 (by decide) ?_
                refine J_icmp_ne (tgt := 273) dX12_sign_232 (by decide) (fun c10 => ?_) (fun c10 => ?_)
                · -- to 273
                  refine J_aload_n dX12_sign_273 rfl ?_
                  refine J_iconst (v := 2) dX12_sign_274 (by decide) ?_
                  refine M_callV1 (mc := mX12_wrong) dX12_sign_275 kX12_258 oX12_wrong (Nat.le_of_ble_eq_true rfl) (Nat.le_of_ble_eq_true rfl) rfl (by decide) rfl ?_
                  refine M_more (d := 0) (Nat.zero_le _) (tX12_wrong (f := 2) hc (fun N2 hN => ?_))
                  refine J_iconst (v := 2) dX12_sign_278 (by decide) ?_
                  refine M_iret dX12_sign_279 rfl rfl ?_
                  exact h N2 hN
                · -- on 235
                  have c41 := c10
                  refine J_aload_n dX12_sign_235 rfl ?_
                  refine M_callV0 (mc := mX12_isOpen) dX12_sign_236 kX12_233 oX12_isOpen (Nat.le_of_ble_eq_true rfl) (Nat.le_of_ble_eq_true rfl) rfl (by decide) rfl ?_
                  refine M_more (d := 0) (Nat.zero_le _) (tX12_isOpen hc (fun q => absurd ⟨(srt_s (v := 41) h256 (by decide) (by decide)).mp c41, q⟩ hcl) (fun _ => ?_))
                  refine J_if_eq (tgt := 273) dX12_sign_239 (by decide) (fun c13 => ?_) (fun c13 => ?_)
                  · -- to 273
                    refine J_aload_n dX12_sign_273 rfl ?_
                    refine J_iconst (v := 2) dX12_sign_274 (by decide) ?_
                    refine M_callV1 (mc := mX12_wrong) dX12_sign_275 kX12_258 oX12_wrong (Nat.le_of_ble_eq_true rfl) (Nat.le_of_ble_eq_true rfl) rfl (by decide) rfl ?_
                    refine M_more (d := 0) (Nat.zero_le _) (tX12_wrong (f := 2) hc (fun N2 hN => ?_))
                    refine J_iconst (v := 2) dX12_sign_278 (by decide) ?_
                    refine M_iret dX12_sign_279 rfl rfl ?_
                    exact h N2 hN
                  · -- on 242
                    exact absurd c13 (by decide)
              · -- on 192
                exact absurd c9 (by decide)
          · -- on 77
            exact absurd ((srt_s (v := 62) h256 (by decide) (by decide)).mp c5) (fun q => hno (by rw [q]; decide))
    · -- on 18
      exact absurd ((srt_s (v := 45) h256 (by decide) (by decide)).mp c2) (fun q => hno (by rw [q]; decide))
