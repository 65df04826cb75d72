theorem nI_pos0 {a : Nat} (h : 0 < a) (h2 : a < 2 ^ 31) : ¬ nI a = 0 := fun q => absurd ((nI_eq (a := a) (b := 0) h2 (by decide)).mp q) (by omega)
set_option maxRecDepth 100000 in
set_option maxHeartbeats 1000000 in
theorem tX12_so_false {d : Nat} {Φ : Option Int32 → Mem → Prop} {M0 : Mem} {n : Nat} (hnb : n ≤ 1000) : ∀ ws x N, PQ M0 N n x ws → (∀ N2, PQ M0 N2 n (x.1, (sto false ws x.2.1).2, x.2.2) (sto false ws x.2.1).1 → Φ none N2) → JM noRo (d + 1) mX12_settleOnes 2 [some (.ref 62), some (.int 0), some (.int 1)] [] N Φ := by
  intro ws
  induction ws with
  | nil =>
    intro x N hc h
    refine J_iload_n dX12_settleOnes_2 rfl ?_
    refine J_if_eq (tgt := 94) dX12_settleOnes_3 (by decide) (fun c1 => ?_) (fun c1 => ?_)
    · -- to 94
      exact absurd c1 (by decide)
    · -- on 6
      refine J_aload_n dX12_settleOnes_6 rfl ?_
      refine M_getI dX12_settleOnes_7 fX12_223 rfl rfl (by decide) ?_
      rw [hc.2.2.2.2.2.2.2.2.1]
      refine J_if_ne (tgt := 18) dX12_settleOnes_10 (by decide) (fun c2 => ?_) (fun c2 => ?_)
      · -- to 18
        exact absurd rfl c2
      · -- on 13
        refine J_bipush (v := 48) dX12_settleOnes_13 (by decide) ?_
        refine J_goto (tgt := 29) dX12_settleOnes_15 (by decide) ?_
        refine J_istore_n dX12_settleOnes_29 (by decide) rfl ?_
        dsimp only [setL]
        refine J_iload_n dX12_settleOnes_30 rfl ?_
        refine J_bipush (v := 48) dX12_settleOnes_31 (by decide) ?_
        refine J_icmp_eq (tgt := 50) dX12_settleOnes_33 (by decide) (fun c3 => ?_) (fun c3 => ?_)
        · -- to 50
          refine J_iconst (v := 0) dX12_settleOnes_50 (by decide) ?_
          refine J_istore_n dX12_settleOnes_51 (by decide) rfl ?_
          dsimp only [setL]
          refine J_iload_n dX12_settleOnes_52 rfl ?_
          refine J_if_ne (tgt := 59) dX12_settleOnes_53 (by decide) (fun c4 => ?_) (fun c4 => ?_)
          · -- to 59
            exact absurd c4 (by decide)
          · -- on 56
            refine J_goto (tgt := 2) dX12_settleOnes_56 (by decide) ?_
            refine J_iload_n dX12_settleOnes_2 rfl ?_
            refine J_if_eq (tgt := 94) dX12_settleOnes_3 (by decide) (fun c5 => ?_) (fun c5 => ?_)
            · -- to 94
              refine M_vret dX12_settleOnes_94 rfl ?_
              exact h N hc
            · -- on 6
              exact absurd c5 (by decide)
        · -- on 36
          exact absurd c3 (by decide)
  | cons c r ih =>
    intro x N hc h
    have hw := hc.2.2.2.2.2.2.2.2.1
    rw [List.length_cons] at hw
    have ht := hc.2.2.2.2.2.2.2.2.2.1.1
    have hop := hc.2.2.2.2.2.2.2.2.2.2.2.2.2.1 c (List.mem_cons_self ..)
    unfold opW at hop
    have hl := hc.2.2.2.2.2.2.2.2.2.2.2.2.2.2.1
    rw [List.length_cons] at hl
    have h6 := hc.l600 hnb
    rw [sto] at h
    by_cases h48 : c = 48
    · rw [if_pos (Or.inl h48)] at h
      refine J_iload_n dX12_settleOnes_2 rfl ?_
      refine J_if_eq (tgt := 94) dX12_settleOnes_3 (by decide) (fun c1 => ?_) (fun c1 => ?_)
      · -- to 94
        exact absurd c1 (by decide)
      · -- on 6
        refine J_aload_n dX12_settleOnes_6 rfl ?_
        refine M_getI dX12_settleOnes_7 fX12_223 rfl rfl (by decide) ?_
        rw [hw]
        refine J_if_ne (tgt := 18) dX12_settleOnes_10 (by decide) (fun c2 => ?_) (fun c2 => ?_)
        · -- to 18
          refine J_aload_n dX12_settleOnes_18 rfl ?_
          refine M_getR dX12_settleOnes_19 fX12_72 rfl rfl (by decide) ?_
          refine J_aload_n dX12_settleOnes_22 rfl ?_
          refine M_getI dX12_settleOnes_23 fX12_223 rfl rfl (by decide) ?_
          rw [hw]
          refine J_iconst (v := 1) dX12_settleOnes_26 (by decide) ?_
          refine J_isub dX12_settleOnes_27 ?_
          refine M_ialdE dX12_settleOnes_28 rfl (by decide) (nI_pred r.length) (by omega) ?_
          rw [ht, h48]
          refine J_istore_n dX12_settleOnes_29 (by decide) rfl ?_
          dsimp only [setL]
          refine J_iload_n dX12_settleOnes_30 rfl ?_
          refine J_bipush (v := 48) dX12_settleOnes_31 (by decide) ?_
          refine J_icmp_eq (tgt := 50) dX12_settleOnes_33 (by decide) (fun c3 => ?_) (fun c3 => ?_)
          · -- to 50
            refine J_iconst (v := 0) dX12_settleOnes_50 (by decide) ?_
            refine J_istore_n dX12_settleOnes_51 (by decide) rfl ?_
            dsimp only [setL]
            refine J_iload_n dX12_settleOnes_52 rfl ?_
            refine J_if_ne (tgt := 59) dX12_settleOnes_53 (by decide) (fun c4 => ?_) (fun c4 => ?_)
            · -- to 59
              exact absurd c4 (by decide)
            · -- on 56
              refine J_goto (tgt := 2) dX12_settleOnes_56 (by decide) ?_
              refine J_iload_n dX12_settleOnes_2 rfl ?_
              refine J_if_eq (tgt := 94) dX12_settleOnes_3 (by decide) (fun c5 => ?_) (fun c5 => ?_)
              · -- to 94
                refine M_vret dX12_settleOnes_94 rfl ?_
                exact h N hc
              · -- on 6
                exact absurd c5 (by decide)
          · -- on 36
            exact absurd c3 (by decide)
        · -- on 13
          exact absurd c2 (fun q => nI_pos0 (by omega) (by omega) q)
    · rw [if_neg (fun q => q.elim h48 (fun z => absurd z.1 (by decide)))] at h
      refine J_iload_n dX12_settleOnes_2 rfl ?_
      refine J_if_eq (tgt := 94) dX12_settleOnes_3 (by decide) (fun c1 => ?_) (fun c1 => ?_)
      · -- to 94
        exact absurd c1 (by decide)
      · -- on 6
        refine J_aload_n dX12_settleOnes_6 rfl ?_
        refine M_getI dX12_settleOnes_7 fX12_223 rfl rfl (by decide) ?_
        rw [hw]
        refine J_if_ne (tgt := 18) dX12_settleOnes_10 (by decide) (fun c2 => ?_) (fun c2 => ?_)
        · -- to 18
          refine J_aload_n dX12_settleOnes_18 rfl ?_
          refine M_getR dX12_settleOnes_19 fX12_72 rfl rfl (by decide) ?_
          refine J_aload_n dX12_settleOnes_22 rfl ?_
          refine M_getI dX12_settleOnes_23 fX12_223 rfl rfl (by decide) ?_
          rw [hw]
          refine J_iconst (v := 1) dX12_settleOnes_26 (by decide) ?_
          refine J_isub dX12_settleOnes_27 ?_
          refine M_ialdE dX12_settleOnes_28 rfl (by decide) (nI_pred r.length) (by omega) ?_
          rw [ht]
          refine J_istore_n dX12_settleOnes_29 (by decide) rfl ?_
          dsimp only [setL]
          refine J_iload_n dX12_settleOnes_30 rfl ?_
          refine J_bipush (v := 48) dX12_settleOnes_31 (by decide) ?_
          refine J_icmp_eq (tgt := 50) dX12_settleOnes_33 (by decide) (fun c3 => ?_) (fun c3 => ?_)
          · -- to 50
            exact absurd ((nI_eq (a := c) (b := 48) (by omega) (by decide)).mp c3) h48
          · -- on 36
            refine J_iload_n dX12_settleOnes_36 rfl ?_
            refine J_if_eq (tgt := 46) dX12_settleOnes_37 (by decide) (fun c4 => ?_) (fun c4 => ?_)
            · -- to 46
              refine J_iconst (v := 1) dX12_settleOnes_46 (by decide) ?_
              refine J_goto (tgt := 51) dX12_settleOnes_47 (by decide) ?_
              refine J_istore_n dX12_settleOnes_51 (by decide) rfl ?_
              dsimp only [setL]
              refine J_iload_n dX12_settleOnes_52 rfl ?_
              refine J_if_ne (tgt := 59) dX12_settleOnes_53 (by decide) (fun c5 => ?_) (fun c5 => ?_)
              · -- to 59
                refine J_aload_n dX12_settleOnes_59 rfl ?_
                refine J_dup dX12_settleOnes_60 rfl ?_
                refine M_getI dX12_settleOnes_61 fX12_223 rfl rfl (by decide) ?_
                rw [hw]
                refine J_iconst (v := 1) dX12_settleOnes_64 (by decide) ?_
                refine J_isub dX12_settleOnes_65 ?_
                rw [nI_pred]
                refine M_putI dX12_settleOnes_66 pX12_223 rfl rfl (by decide) ?_
                refine J_iload_n dX12_settleOnes_69 rfl ?_
                refine J_bipush (v := 40) dX12_settleOnes_70 (by decide) ?_
                refine J_icmp_ne (tgt := 85) dX12_settleOnes_72 (by decide) (fun c6 => ?_) (fun c6 => ?_)
                · -- to 85
                  refine J_aload_n dX12_settleOnes_85 rfl ?_
                  refine J_iload_n dX12_settleOnes_86 rfl ?_
                  refine J_iconst (v := 0) dX12_settleOnes_87 (by decide) ?_
                  refine M_callV2 (mc := mX12_step) dX12_settleOnes_88 kX12_229 oX12_step (Nat.le_of_ble_eq_true rfl) (Nat.le_of_ble_eq_true rfl) rfl (by decide) rfl ?_
                  refine M_more (d := 0) (Nat.zero_le _) (tX12_step (m := x.2.1.length) (by first | (rw [rd3 (by decide), rd3 (by decide)]; exact hc.2.2.2.2.1) | (rw [rd3 (by decide)]; exact hc.2.2.2.2.1)) (by omega) ?_)
                  refine J_dropN 3 ?_
                  refine J_goto (tgt := 2) dX12_settleOnes_91 (by decide) ?_
                  have hp := hc.pop h48
                  first
                  | exact ih _ _ hp h
                  | (rw [wr_id (M := wr N 62 36 (nI r.length)) (j := 37) (by rw [rd3 (by decide), hc.2.2.2.2.2.2.2.2.2.2.1, dpc, if_neg (fun q => q.elim (fun q => c6 (by rw [q]; rfl)) h48)]; rfl)] at hp
                     exact ih _ _ hp h)
                · -- on 75
                  have c40 : c = 40 := (nI_eq (a := c) (b := 40) (by omega) (by decide)).mp c6
                  refine J_aload_n dX12_settleOnes_75 rfl ?_
                  refine J_dup dX12_settleOnes_76 rfl ?_
                  refine M_getI dX12_settleOnes_77 fX12_226 rfl rfl (by decide) ?_
                  rw [rd3 (by decide), hc.2.2.2.2.2.2.2.2.2.2.1, dpc, if_pos (Or.inl c40)]
                  refine J_iconst (v := 1) dX12_settleOnes_80 (by decide) ?_
                  refine J_isub dX12_settleOnes_81 ?_
                  rw [nI_pred]
                  refine M_putI dX12_settleOnes_82 pX12_226 rfl rfl (by decide) ?_
                  refine J_aload_n dX12_settleOnes_85 rfl ?_
                  refine J_iload_n dX12_settleOnes_86 rfl ?_
                  refine J_iconst (v := 0) dX12_settleOnes_87 (by decide) ?_
                  refine M_callV2 (mc := mX12_step) dX12_settleOnes_88 kX12_229 oX12_step (Nat.le_of_ble_eq_true rfl) (Nat.le_of_ble_eq_true rfl) rfl (by decide) rfl ?_
                  refine M_more (d := 0) (Nat.zero_le _) (tX12_step (m := x.2.1.length) (by first | (rw [rd3 (by decide), rd3 (by decide)]; exact hc.2.2.2.2.1) | (rw [rd3 (by decide)]; exact hc.2.2.2.2.1)) (by omega) ?_)
                  refine J_dropN 3 ?_
                  refine J_goto (tgt := 2) dX12_settleOnes_91 (by decide) ?_
                  have hp := hc.pop h48
                  first
                  | exact ih _ _ hp h
                  | (rw [wr_id (M := wr N 62 36 (nI r.length)) (j := 37) (by rw [rd3 (by decide), hc.2.2.2.2.2.2.2.2.2.2.1, dpc, if_neg (fun q => q.elim (fun q => c6 (by rw [q]; rfl)) h48)]; rfl)] at hp
                     exact ih _ _ hp h)
              · -- on 56
                exact absurd c5 (by decide)
            · -- on 40
              exact absurd c4 (by decide)
        · -- on 13
          exact absurd c2 (fun q => nI_pos0 (by omega) (by omega) q)
set_option maxRecDepth 100000 in
set_option maxHeartbeats 1000000 in
theorem tX12_so_true {d : Nat} {Φ : Option Int32 → Mem → Prop} {M0 : Mem} {n : Nat} (hnb : n ≤ 1000) : ∀ ws x N, PQ M0 N n x ws → (∀ N2, PQ M0 N2 n (x.1, (sto true ws x.2.1).2, x.2.2) (sto true ws x.2.1).1 → Φ none N2) → JM noRo (d + 1) mX12_settleOnes 2 [some (.ref 62), some (.int 1), some (.int 1)] [] N Φ := by
  intro ws
  induction ws with
  | nil =>
    intro x N hc h
    refine J_iload_n dX12_settleOnes_2 rfl ?_
    refine J_if_eq (tgt := 94) dX12_settleOnes_3 (by decide) (fun c1 => ?_) (fun c1 => ?_)
    · -- to 94
      exact absurd c1 (by decide)
    · -- on 6
      refine J_aload_n dX12_settleOnes_6 rfl ?_
      refine M_getI dX12_settleOnes_7 fX12_223 rfl rfl (by decide) ?_
      rw [hc.2.2.2.2.2.2.2.2.1]
      refine J_if_ne (tgt := 18) dX12_settleOnes_10 (by decide) (fun c2 => ?_) (fun c2 => ?_)
      · -- to 18
        exact absurd rfl c2
      · -- on 13
        refine J_bipush (v := 48) dX12_settleOnes_13 (by decide) ?_
        refine J_goto (tgt := 29) dX12_settleOnes_15 (by decide) ?_
        refine J_istore_n dX12_settleOnes_29 (by decide) rfl ?_
        dsimp only [setL]
        refine J_iload_n dX12_settleOnes_30 rfl ?_
        refine J_bipush (v := 48) dX12_settleOnes_31 (by decide) ?_
        refine J_icmp_eq (tgt := 50) dX12_settleOnes_33 (by decide) (fun c3 => ?_) (fun c3 => ?_)
        · -- to 50
          refine J_iconst (v := 0) dX12_settleOnes_50 (by decide) ?_
          refine J_istore_n dX12_settleOnes_51 (by decide) rfl ?_
          dsimp only [setL]
          refine J_iload_n dX12_settleOnes_52 rfl ?_
          refine J_if_ne (tgt := 59) dX12_settleOnes_53 (by decide) (fun c4 => ?_) (fun c4 => ?_)
          · -- to 59
            exact absurd c4 (by decide)
          · -- on 56
            refine J_goto (tgt := 2) dX12_settleOnes_56 (by decide) ?_
            refine J_iload_n dX12_settleOnes_2 rfl ?_
            refine J_if_eq (tgt := 94) dX12_settleOnes_3 (by decide) (fun c5 => ?_) (fun c5 => ?_)
            · -- to 94
              refine M_vret dX12_settleOnes_94 rfl ?_
              exact h N hc
            · -- on 6
              exact absurd c5 (by decide)
        · -- on 36
          exact absurd c3 (by decide)
  | cons c r ih =>
    intro x N hc h
    have hw := hc.2.2.2.2.2.2.2.2.1
    rw [List.length_cons] at hw
    have ht := hc.2.2.2.2.2.2.2.2.2.1.1
    have hop := hc.2.2.2.2.2.2.2.2.2.2.2.2.2.1 c (List.mem_cons_self ..)
    unfold opW at hop
    have hl := hc.2.2.2.2.2.2.2.2.2.2.2.2.2.2.1
    rw [List.length_cons] at hl
    have h6 := hc.l600 hnb
    rw [sto] at h
    by_cases h48 : c = 48
    · rw [if_pos (Or.inl h48)] at h
      refine J_iload_n dX12_settleOnes_2 rfl ?_
      refine J_if_eq (tgt := 94) dX12_settleOnes_3 (by decide) (fun c1 => ?_) (fun c1 => ?_)
      · -- to 94
        exact absurd c1 (by decide)
      · -- on 6
        refine J_aload_n dX12_settleOnes_6 rfl ?_
        refine M_getI dX12_settleOnes_7 fX12_223 rfl rfl (by decide) ?_
        rw [hw]
        refine J_if_ne (tgt := 18) dX12_settleOnes_10 (by decide) (fun c2 => ?_) (fun c2 => ?_)
        · -- to 18
          refine J_aload_n dX12_settleOnes_18 rfl ?_
          refine M_getR dX12_settleOnes_19 fX12_72 rfl rfl (by decide) ?_
          refine J_aload_n dX12_settleOnes_22 rfl ?_
          refine M_getI dX12_settleOnes_23 fX12_223 rfl rfl (by decide) ?_
          rw [hw]
          refine J_iconst (v := 1) dX12_settleOnes_26 (by decide) ?_
          refine J_isub dX12_settleOnes_27 ?_
          refine M_ialdE dX12_settleOnes_28 rfl (by decide) (nI_pred r.length) (by omega) ?_
          rw [ht, h48]
          refine J_istore_n dX12_settleOnes_29 (by decide) rfl ?_
          dsimp only [setL]
          refine J_iload_n dX12_settleOnes_30 rfl ?_
          refine J_bipush (v := 48) dX12_settleOnes_31 (by decide) ?_
          refine J_icmp_eq (tgt := 50) dX12_settleOnes_33 (by decide) (fun c3 => ?_) (fun c3 => ?_)
          · -- to 50
            refine J_iconst (v := 0) dX12_settleOnes_50 (by decide) ?_
            refine J_istore_n dX12_settleOnes_51 (by decide) rfl ?_
            dsimp only [setL]
            refine J_iload_n dX12_settleOnes_52 rfl ?_
            refine J_if_ne (tgt := 59) dX12_settleOnes_53 (by decide) (fun c4 => ?_) (fun c4 => ?_)
            · -- to 59
              exact absurd c4 (by decide)
            · -- on 56
              refine J_goto (tgt := 2) dX12_settleOnes_56 (by decide) ?_
              refine J_iload_n dX12_settleOnes_2 rfl ?_
              refine J_if_eq (tgt := 94) dX12_settleOnes_3 (by decide) (fun c5 => ?_) (fun c5 => ?_)
              · -- to 94
                refine M_vret dX12_settleOnes_94 rfl ?_
                exact h N hc
              · -- on 6
                exact absurd c5 (by decide)
          · -- on 36
            exact absurd c3 (by decide)
        · -- on 13
          exact absurd c2 (fun q => nI_pos0 (by omega) (by omega) q)
    · by_cases h41 : c = 41
      · rw [if_pos (Or.inr ⟨rfl, h41⟩)] at h
        refine J_iload_n dX12_settleOnes_2 rfl ?_
        refine J_if_eq (tgt := 94) dX12_settleOnes_3 (by decide) (fun c1 => ?_) (fun c1 => ?_)
        · -- to 94
          exact absurd c1 (by decide)
        · -- on 6
          refine J_aload_n dX12_settleOnes_6 rfl ?_
          refine M_getI dX12_settleOnes_7 fX12_223 rfl rfl (by decide) ?_
          rw [hw]
          refine J_if_ne (tgt := 18) dX12_settleOnes_10 (by decide) (fun c2 => ?_) (fun c2 => ?_)
          · -- to 18
            refine J_aload_n dX12_settleOnes_18 rfl ?_
            refine M_getR dX12_settleOnes_19 fX12_72 rfl rfl (by decide) ?_
            refine J_aload_n dX12_settleOnes_22 rfl ?_
            refine M_getI dX12_settleOnes_23 fX12_223 rfl rfl (by decide) ?_
            rw [hw]
            refine J_iconst (v := 1) dX12_settleOnes_26 (by decide) ?_
            refine J_isub dX12_settleOnes_27 ?_
            refine M_ialdE dX12_settleOnes_28 rfl (by decide) (nI_pred r.length) (by omega) ?_
            rw [ht, h41]
            refine J_istore_n dX12_settleOnes_29 (by decide) rfl ?_
            dsimp only [setL]
            refine J_iload_n dX12_settleOnes_30 rfl ?_
            refine J_bipush (v := 48) dX12_settleOnes_31 (by decide) ?_
            refine J_icmp_eq (tgt := 50) dX12_settleOnes_33 (by decide) (fun c3 => ?_) (fun c3 => ?_)
            · -- to 50
              exact absurd c3 (by decide)
            · -- on 36
              refine J_iload_n dX12_settleOnes_36 rfl ?_
              refine J_if_eq (tgt := 46) dX12_settleOnes_37 (by decide) (fun c4 => ?_) (fun c4 => ?_)
              · -- to 46
                exact absurd c4 (by decide)
              · -- on 40
                refine J_iload_n dX12_settleOnes_40 rfl ?_
                refine J_bipush (v := 41) dX12_settleOnes_41 (by decide) ?_
                refine J_icmp_eq (tgt := 50) dX12_settleOnes_43 (by decide) (fun c5 => ?_) (fun c5 => ?_)
                · -- to 50
                  refine J_iconst (v := 0) dX12_settleOnes_50 (by decide) ?_
                  refine J_istore_n dX12_settleOnes_51 (by decide) rfl ?_
                  dsimp only [setL]
                  refine J_iload_n dX12_settleOnes_52 rfl ?_
                  refine J_if_ne (tgt := 59) dX12_settleOnes_53 (by decide) (fun c6 => ?_) (fun c6 => ?_)
                  · -- to 59
                    exact absurd c6 (by decide)
                  · -- on 56
                    refine J_goto (tgt := 2) dX12_settleOnes_56 (by decide) ?_
                    refine J_iload_n dX12_settleOnes_2 rfl ?_
                    refine J_if_eq (tgt := 94) dX12_settleOnes_3 (by decide) (fun c7 => ?_) (fun c7 => ?_)
                    · -- to 94
                      refine M_vret dX12_settleOnes_94 rfl ?_
                      exact h N hc
                    · -- on 6
                      exact absurd c7 (by decide)
                · -- on 46
                  exact absurd c5 (by decide)
          · -- on 13
            exact absurd c2 (fun q => nI_pos0 (by omega) (by omega) q)
      · rw [if_neg (fun q => q.elim h48 (fun z => h41 z.2))] at h
        refine J_iload_n dX12_settleOnes_2 rfl ?_
        refine J_if_eq (tgt := 94) dX12_settleOnes_3 (by decide) (fun c1 => ?_) (fun c1 => ?_)
        · -- to 94
          exact absurd c1 (by decide)
        · -- on 6
          refine J_aload_n dX12_settleOnes_6 rfl ?_
          refine M_getI dX12_settleOnes_7 fX12_223 rfl rfl (by decide) ?_
          rw [hw]
          refine J_if_ne (tgt := 18) dX12_settleOnes_10 (by decide) (fun c2 => ?_) (fun c2 => ?_)
          · -- to 18
            refine J_aload_n dX12_settleOnes_18 rfl ?_
            refine M_getR dX12_settleOnes_19 fX12_72 rfl rfl (by decide) ?_
            refine J_aload_n dX12_settleOnes_22 rfl ?_
            refine M_getI dX12_settleOnes_23 fX12_223 rfl rfl (by decide) ?_
            rw [hw]
            refine J_iconst (v := 1) dX12_settleOnes_26 (by decide) ?_
            refine J_isub dX12_settleOnes_27 ?_
            refine M_ialdE dX12_settleOnes_28 rfl (by decide) (nI_pred r.length) (by omega) ?_
            rw [ht]
            refine J_istore_n dX12_settleOnes_29 (by decide) rfl ?_
            dsimp only [setL]
            refine J_iload_n dX12_settleOnes_30 rfl ?_
            refine J_bipush (v := 48) dX12_settleOnes_31 (by decide) ?_
            refine J_icmp_eq (tgt := 50) dX12_settleOnes_33 (by decide) (fun c3 => ?_) (fun c3 => ?_)
            · -- to 50
              exact absurd ((nI_eq (a := c) (b := 48) (by omega) (by decide)).mp c3) h48
            · -- on 36
              refine J_iload_n dX12_settleOnes_36 rfl ?_
              refine J_if_eq (tgt := 46) dX12_settleOnes_37 (by decide) (fun c4 => ?_) (fun c4 => ?_)
              · -- to 46
                exact absurd c4 (by decide)
              · -- on 40
                refine J_iload_n dX12_settleOnes_40 rfl ?_
                refine J_bipush (v := 41) dX12_settleOnes_41 (by decide) ?_
                refine J_icmp_eq (tgt := 50) dX12_settleOnes_43 (by decide) (fun c5 => ?_) (fun c5 => ?_)
                · -- to 50
                  exact absurd ((nI_eq (a := c) (b := 41) (by omega) (by decide)).mp c5) h41
                · -- on 46
                  refine J_iconst (v := 1) dX12_settleOnes_46 (by decide) ?_
                  refine J_goto (tgt := 51) dX12_settleOnes_47 (by decide) ?_
                  refine J_istore_n dX12_settleOnes_51 (by decide) rfl ?_
                  dsimp only [setL]
                  refine J_iload_n dX12_settleOnes_52 rfl ?_
                  refine J_if_ne (tgt := 59) dX12_settleOnes_53 (by decide) (fun c6 => ?_) (fun c6 => ?_)
                  · -- to 59
                    refine J_aload_n dX12_settleOnes_59 rfl ?_
                    refine J_dup dX12_settleOnes_60 rfl ?_
                    refine M_getI dX12_settleOnes_61 fX12_223 rfl rfl (by decide) ?_
                    rw [hw]
                    refine J_iconst (v := 1) dX12_settleOnes_64 (by decide) ?_
                    refine J_isub dX12_settleOnes_65 ?_
                    rw [nI_pred]
                    refine M_putI dX12_settleOnes_66 pX12_223 rfl rfl (by decide) ?_
                    refine J_iload_n dX12_settleOnes_69 rfl ?_
                    refine J_bipush (v := 40) dX12_settleOnes_70 (by decide) ?_
                    refine J_icmp_ne (tgt := 85) dX12_settleOnes_72 (by decide) (fun c7 => ?_) (fun c7 => ?_)
                    · -- to 85
                      refine J_aload_n dX12_settleOnes_85 rfl ?_
                      refine J_iload_n dX12_settleOnes_86 rfl ?_
                      refine J_iconst (v := 0) dX12_settleOnes_87 (by decide) ?_
                      refine M_callV2 (mc := mX12_step) dX12_settleOnes_88 kX12_229 oX12_step (Nat.le_of_ble_eq_true rfl) (Nat.le_of_ble_eq_true rfl) rfl (by decide) rfl ?_
                      refine M_more (d := 0) (Nat.zero_le _) (tX12_step (m := x.2.1.length) (by first | (rw [rd3 (by decide), rd3 (by decide)]; exact hc.2.2.2.2.1) | (rw [rd3 (by decide)]; exact hc.2.2.2.2.1)) (by omega) ?_)
                      refine J_dropN 3 ?_
                      refine J_goto (tgt := 2) dX12_settleOnes_91 (by decide) ?_
                      have hp := hc.pop h48
                      first
                      | exact ih _ _ hp h
                      | (rw [wr_id (M := wr N 62 36 (nI r.length)) (j := 37) (by rw [rd3 (by decide), hc.2.2.2.2.2.2.2.2.2.2.1, dpc, if_neg (fun q => q.elim (fun q => c7 (by rw [q]; rfl)) h48)]; rfl)] at hp
                         exact ih _ _ hp h)
                    · -- on 75
                      have c40 : c = 40 := (nI_eq (a := c) (b := 40) (by omega) (by decide)).mp c7
                      refine J_aload_n dX12_settleOnes_75 rfl ?_
                      refine J_dup dX12_settleOnes_76 rfl ?_
                      refine M_getI dX12_settleOnes_77 fX12_226 rfl rfl (by decide) ?_
                      rw [rd3 (by decide), hc.2.2.2.2.2.2.2.2.2.2.1, dpc, if_pos (Or.inl c40)]
                      refine J_iconst (v := 1) dX12_settleOnes_80 (by decide) ?_
                      refine J_isub dX12_settleOnes_81 ?_
                      rw [nI_pred]
                      refine M_putI dX12_settleOnes_82 pX12_226 rfl rfl (by decide) ?_
                      refine J_aload_n dX12_settleOnes_85 rfl ?_
                      refine J_iload_n dX12_settleOnes_86 rfl ?_
                      refine J_iconst (v := 0) dX12_settleOnes_87 (by decide) ?_
                      refine M_callV2 (mc := mX12_step) dX12_settleOnes_88 kX12_229 oX12_step (Nat.le_of_ble_eq_true rfl) (Nat.le_of_ble_eq_true rfl) rfl (by decide) rfl ?_
                      refine M_more (d := 0) (Nat.zero_le _) (tX12_step (m := x.2.1.length) (by first | (rw [rd3 (by decide), rd3 (by decide)]; exact hc.2.2.2.2.1) | (rw [rd3 (by decide)]; exact hc.2.2.2.2.1)) (by omega) ?_)
                      refine J_dropN 3 ?_
                      refine J_goto (tgt := 2) dX12_settleOnes_91 (by decide) ?_
                      have hp := hc.pop h48
                      first
                      | exact ih _ _ hp h
                      | (rw [wr_id (M := wr N 62 36 (nI r.length)) (j := 37) (by rw [rd3 (by decide), hc.2.2.2.2.2.2.2.2.2.2.1, dpc, if_neg (fun q => q.elim (fun q => c7 (by rw [q]; rfl)) h48)]; rfl)] at hp
                         exact ih _ _ hp h)
                  · -- on 56
                    exact absurd c6 (by decide)
          · -- on 13
            exact absurd c2 (fun q => nI_pos0 (by omega) (by omega) q)
set_option maxRecDepth 100000 in
set_option maxHeartbeats 1000000 in
theorem tX12_settleOnes {d : Nat} {Φ : Option Int32 → Mem → Prop} {M0 N : Mem} {n : Nat} {an : Bool} {ws : List Nat} {x : PSt} (hnb : n ≤ 1000) (hc : PQ M0 N n x ws) (h : ∀ N2, PQ M0 N2 n (x.1, (sto an ws x.2.1).2, x.2.2) (sto an ws x.2.1).1 → Φ none N2) : JM noRo (d + 1) mX12_settleOnes 0 [some (.ref 62), some (.int (if an = true then 1 else 0))] [] N Φ := by
  refine J_iconst (v := 1) dX12_settleOnes_0 (by decide) ?_
  refine J_istore_n dX12_settleOnes_1 (by decide) rfl ?_
  dsimp only [setL]
  cases an
  · exact tX12_so_false hnb ws x N hc h
  · exact tX12_so_true hnb ws x N hc h
theorem PQ.push {M N : Mem} {n c : Nat} {x : PSt} {ws : List Nat} (h : PQ M N n x ws) (ho : opW c) (hl : ws.length < 60) (hb : 3 * (x.2.1.length + nop (c :: ws)) ≤ 6 * x.2.2 + x.1.2.2.2) : PQ M (wr (wr (wr N 82 ws.length (nI c)) 62 36 (nI (ws.length + 1))) 62 37 (nI (dpc (c :: ws)))) n x (c :: ws) := by
  obtain ⟨p1, p2, p3, p4, p5, p6, p7, p8, p9, p10, p11, p12, p13, p14, p15, p16⟩ := h
  have e62 : ∀ i, i ≠ 36 → i ≠ 37 → (wr (wr (wr N 82 ws.length (nI c)) 62 36 (nI (ws.length + 1))) 62 37 (nI (dpc (c :: ws)))).1 62 i = N.1 62 i := fun i q3 q4 => by rw [rd3 q4, rd3 q3, rd2 (by decide)]
  refine ⟨fun a ha => ?_, fun i hi => ?_, ?_, p4, ?_, ?_, ?_, p8, ?_, ?_, ?_, ?_, ?_, ?_, ?_, hb⟩
  · obtain ⟨q1, q2, q3, q4⟩ := R4_ne ha
    rw [rd2 q1, rd2 q1, rd2 q4]; exact p1 a ha
  · have hi2 := hi
    simp only [SL, List.mem_cons, not_or, List.not_mem_nil, not_false_eq_true, and_true] at hi
    rw [e62 i hi.2.2.2.2.2.2.2.2.2.1 hi.2.2.2.2.2.2.2.2.2.2]; exact p2 i hi2
  · refine ⟨?_, ?_, fun q => ?_, fun q => ?_, p3.2.2.2.2⟩
    · rw [e62 32 (by decide) (by decide)]; exact p3.1
    · rw [e62 31 (by decide) (by decide)]; exact p3.2.1
    · rw [e62 29 (by decide) (by decide)]; exact p3.2.2.1 q
    · rw [e62 33 (by decide) (by decide)]; exact p3.2.2.2.1 q
  · rw [e62 23 (by decide) (by decide)]; exact p5
  · rw [rd2 (by decide), rd2 (by decide), rd2 (by decide), rd2 (by decide), rd2 (by decide), rd2 (by decide)]; exact p6
  · rw [e62 24 (by decide) (by decide)]; exact p7
  · rw [rd3 (by decide), rd1]; rfl
  · rw [rd2 (by decide), rd2 (by decide), rdu]
    exact ⟨updS, WR_upd ws (Nat.le_refl _) p10⟩
  · rw [rd1]
  · rw [e62 27 (by decide) (by decide)]; exact p12
  · rw [e62 28 (by decide) (by decide)]; exact p13
  · intro q hq
    rcases List.mem_cons.mp hq with e | e
    · rw [e]; exact ho
    · exact p14 q e
  · rw [List.length_cons]; omega
set_option maxRecDepth 100000 in
set_option maxHeartbeats 1000000 in
theorem tX12_hold {d : Nat} {Φ : Option Int32 → Mem → Prop} {M0 N : Mem} {n c : Nat} {x : PSt} {ws : List Nat} (hc : PQ M0 N n x ws) (ho : opW c) (hl : ws.length < 60) (hb : 3 * (x.2.1.length + nop (c :: ws)) ≤ 6 * x.2.2 + x.1.2.2.2) (h : ∀ N2, PQ M0 N2 n x (c :: ws) → Φ none N2) : JM noRo d mX12_hold 0 [some (.ref 62), some (.int (nI c))] [] N Φ := by
  have hh : c = 40 ∨ c = 41 ∨ c = 42 ∨ c = 43 ∨ c = 44 ∨ c = 45 ∨ c = 46 ∨ c = 47 ∨ c = 48 := by unfold opW at ho; omega
  rcases hh with rfl | rfl | rfl | rfl | rfl | rfl | rfl | rfl | rfl
  ·
    refine J_aload_n dX12_hold_0 rfl ?_
    refine M_getR dX12_hold_1 fX12_72 rfl rfl (by decide) ?_
    refine J_aload_n dX12_hold_4 rfl ?_
    refine M_getI dX12_hold_5 fX12_223 rfl rfl (by decide) ?_
    refine J_iload_n dX12_hold_8 rfl ?_
    refine M_iastE dX12_hold_9 rfl (by decide) hc.2.2.2.2.2.2.2.2.1 (by omega) ?_
    refine J_aload_n dX12_hold_10 rfl ?_
    refine J_dup dX12_hold_11 rfl ?_
    refine M_getI dX12_hold_12 fX12_223 rfl rfl (by decide) ?_
    rw [rd2 (by decide), hc.2.2.2.2.2.2.2.2.1]
    refine J_iconst (v := 1) dX12_hold_15 (by decide) ?_
    refine J_iadd dX12_hold_16 ?_
    rw [nI_1]
    refine M_putI dX12_hold_17 pX12_223 rfl rfl (by decide) ?_
    refine J_iload_n dX12_hold_20 rfl ?_
    refine J_bipush (v := 48) dX12_hold_21 (by decide) ?_
    refine J_icmp_eq (tgt := 32) dX12_hold_23 (by decide) (fun c1 => ?_) (fun c1 => ?_)
    · -- to 32
      exact absurd c1 (by decide)
    · -- on 26
      refine J_iload_n dX12_hold_26 rfl ?_
      refine J_bipush (v := 40) dX12_hold_27 (by decide) ?_
      refine J_icmp_ne (tgt := 42) dX12_hold_29 (by decide) (fun c2 => ?_) (fun c2 => ?_)
      · -- to 42
        exact absurd c2 (by decide)
      · -- on 32
        refine J_aload_n dX12_hold_32 rfl ?_
        refine J_dup dX12_hold_33 rfl ?_
        refine M_getI dX12_hold_34 fX12_226 rfl rfl (by decide) ?_
        rw [rd3 (by decide), rd2 (by decide), hc.2.2.2.2.2.2.2.2.2.2.1]
        refine J_iconst (v := 1) dX12_hold_37 (by decide) ?_
        refine J_iadd dX12_hold_38 ?_
        rw [nI_1]
        refine M_putI dX12_hold_39 pX12_226 rfl rfl (by decide) ?_
        refine M_vret dX12_hold_42 rfl ?_
        have hp := hc.push ho hl hb
        exact h _ hp
  ·
    refine J_aload_n dX12_hold_0 rfl ?_
    refine M_getR dX12_hold_1 fX12_72 rfl rfl (by decide) ?_
    refine J_aload_n dX12_hold_4 rfl ?_
    refine M_getI dX12_hold_5 fX12_223 rfl rfl (by decide) ?_
    refine J_iload_n dX12_hold_8 rfl ?_
    refine M_iastE dX12_hold_9 rfl (by decide) hc.2.2.2.2.2.2.2.2.1 (by omega) ?_
    refine J_aload_n dX12_hold_10 rfl ?_
    refine J_dup dX12_hold_11 rfl ?_
    refine M_getI dX12_hold_12 fX12_223 rfl rfl (by decide) ?_
    rw [rd2 (by decide), hc.2.2.2.2.2.2.2.2.1]
    refine J_iconst (v := 1) dX12_hold_15 (by decide) ?_
    refine J_iadd dX12_hold_16 ?_
    rw [nI_1]
    refine M_putI dX12_hold_17 pX12_223 rfl rfl (by decide) ?_
    refine J_iload_n dX12_hold_20 rfl ?_
    refine J_bipush (v := 48) dX12_hold_21 (by decide) ?_
    refine J_icmp_eq (tgt := 32) dX12_hold_23 (by decide) (fun c1 => ?_) (fun c1 => ?_)
    · -- to 32
      exact absurd c1 (by decide)
    · -- on 26
      refine J_iload_n dX12_hold_26 rfl ?_
      refine J_bipush (v := 40) dX12_hold_27 (by decide) ?_
      refine J_icmp_ne (tgt := 42) dX12_hold_29 (by decide) (fun c2 => ?_) (fun c2 => ?_)
      · -- to 42
        refine M_vret dX12_hold_42 rfl ?_
        have hp := hc.push ho hl hb
        rw [wr_id (j := 37) (by rw [rd3 (by decide), rd2 (by decide)]; exact hc.2.2.2.2.2.2.2.2.2.2.1)] at hp
        exact h _ hp
      · -- on 32
        exact absurd c2 (by decide)
  ·
    refine J_aload_n dX12_hold_0 rfl ?_
    refine M_getR dX12_hold_1 fX12_72 rfl rfl (by decide) ?_
    refine J_aload_n dX12_hold_4 rfl ?_
    refine M_getI dX12_hold_5 fX12_223 rfl rfl (by decide) ?_
    refine J_iload_n dX12_hold_8 rfl ?_
    refine M_iastE dX12_hold_9 rfl (by decide) hc.2.2.2.2.2.2.2.2.1 (by omega) ?_
    refine J_aload_n dX12_hold_10 rfl ?_
    refine J_dup dX12_hold_11 rfl ?_
    refine M_getI dX12_hold_12 fX12_223 rfl rfl (by decide) ?_
    rw [rd2 (by decide), hc.2.2.2.2.2.2.2.2.1]
    refine J_iconst (v := 1) dX12_hold_15 (by decide) ?_
    refine J_iadd dX12_hold_16 ?_
    rw [nI_1]
    refine M_putI dX12_hold_17 pX12_223 rfl rfl (by decide) ?_
    refine J_iload_n dX12_hold_20 rfl ?_
    refine J_bipush (v := 48) dX12_hold_21 (by decide) ?_
    refine J_icmp_eq (tgt := 32) dX12_hold_23 (by decide) (fun c1 => ?_) (fun c1 => ?_)
    · -- to 32
      exact absurd c1 (by decide)
    · -- on 26
      refine J_iload_n dX12_hold_26 rfl ?_
      refine J_bipush (v := 40) dX12_hold_27 (by decide) ?_
      refine J_icmp_ne (tgt := 42) dX12_hold_29 (by decide) (fun c2 => ?_) (fun c2 => ?_)
      · -- to 42
        refine M_vret dX12_hold_42 rfl ?_
        have hp := hc.push ho hl hb
        rw [wr_id (j := 37) (by rw [rd3 (by decide), rd2 (by decide)]; exact hc.2.2.2.2.2.2.2.2.2.2.1)] at hp
        exact h _ hp
      · -- on 32
        exact absurd c2 (by decide)
  ·
    refine J_aload_n dX12_hold_0 rfl ?_
    refine M_getR dX12_hold_1 fX12_72 rfl rfl (by decide) ?_
    refine J_aload_n dX12_hold_4 rfl ?_
    refine M_getI dX12_hold_5 fX12_223 rfl rfl (by decide) ?_
    refine J_iload_n dX12_hold_8 rfl ?_
    refine M_iastE dX12_hold_9 rfl (by decide) hc.2.2.2.2.2.2.2.2.1 (by omega) ?_
    refine J_aload_n dX12_hold_10 rfl ?_
    refine J_dup dX12_hold_11 rfl ?_
    refine M_getI dX12_hold_12 fX12_223 rfl rfl (by decide) ?_
    rw [rd2 (by decide), hc.2.2.2.2.2.2.2.2.1]
    refine J_iconst (v := 1) dX12_hold_15 (by decide) ?_
    refine J_iadd dX12_hold_16 ?_
    rw [nI_1]
    refine M_putI dX12_hold_17 pX12_223 rfl rfl (by decide) ?_
    refine J_iload_n dX12_hold_20 rfl ?_
    refine J_bipush (v := 48) dX12_hold_21 (by decide) ?_
    refine J_icmp_eq (tgt := 32) dX12_hold_23 (by decide) (fun c1 => ?_) (fun c1 => ?_)
    · -- to 32
      exact absurd c1 (by decide)
    · -- on 26
      refine J_iload_n dX12_hold_26 rfl ?_
      refine J_bipush (v := 40) dX12_hold_27 (by decide) ?_
      refine J_icmp_ne (tgt := 42) dX12_hold_29 (by decide) (fun c2 => ?_) (fun c2 => ?_)
      · -- to 42
        refine M_vret dX12_hold_42 rfl ?_
        have hp := hc.push ho hl hb
        rw [wr_id (j := 37) (by rw [rd3 (by decide), rd2 (by decide)]; exact hc.2.2.2.2.2.2.2.2.2.2.1)] at hp
        exact h _ hp
      · -- on 32
        exact absurd c2 (by decide)
  ·
    refine J_aload_n dX12_hold_0 rfl ?_
    refine M_getR dX12_hold_1 fX12_72 rfl rfl (by decide) ?_
    refine J_aload_n dX12_hold_4 rfl ?_
    refine M_getI dX12_hold_5 fX12_223 rfl rfl (by decide) ?_
    refine J_iload_n dX12_hold_8 rfl ?_
    refine M_iastE dX12_hold_9 rfl (by decide) hc.2.2.2.2.2.2.2.2.1 (by omega) ?_
    refine J_aload_n dX12_hold_10 rfl ?_
    refine J_dup dX12_hold_11 rfl ?_
    refine M_getI dX12_hold_12 fX12_223 rfl rfl (by decide) ?_
    rw [rd2 (by decide), hc.2.2.2.2.2.2.2.2.1]
    refine J_iconst (v := 1) dX12_hold_15 (by decide) ?_
    refine J_iadd dX12_hold_16 ?_
    rw [nI_1]
    refine M_putI dX12_hold_17 pX12_223 rfl rfl (by decide) ?_
    refine J_iload_n dX12_hold_20 rfl ?_
    refine J_bipush (v := 48) dX12_hold_21 (by decide) ?_
    refine J_icmp_eq (tgt := 32) dX12_hold_23 (by decide) (fun c1 => ?_) (fun c1 => ?_)
    · -- to 32
      exact absurd c1 (by decide)
    · -- on 26
      refine J_iload_n dX12_hold_26 rfl ?_
      refine J_bipush (v := 40) dX12_hold_27 (by decide) ?_
      refine J_icmp_ne (tgt := 42) dX12_hold_29 (by decide) (fun c2 => ?_) (fun c2 => ?_)
      · -- to 42
        refine M_vret dX12_hold_42 rfl ?_
        have hp := hc.push ho hl hb
        rw [wr_id (j := 37) (by rw [rd3 (by decide), rd2 (by decide)]; exact hc.2.2.2.2.2.2.2.2.2.2.1)] at hp
        exact h _ hp
      · -- on 32
        exact absurd c2 (by decide)
  ·
    refine J_aload_n dX12_hold_0 rfl ?_
    refine M_getR dX12_hold_1 fX12_72 rfl rfl (by decide) ?_
    refine J_aload_n dX12_hold_4 rfl ?_
    refine M_getI dX12_hold_5 fX12_223 rfl rfl (by decide) ?_
    refine J_iload_n dX12_hold_8 rfl ?_
    refine M_iastE dX12_hold_9 rfl (by decide) hc.2.2.2.2.2.2.2.2.1 (by omega) ?_
    refine J_aload_n dX12_hold_10 rfl ?_
    refine J_dup dX12_hold_11 rfl ?_
    refine M_getI dX12_hold_12 fX12_223 rfl rfl (by decide) ?_
    rw [rd2 (by decide), hc.2.2.2.2.2.2.2.2.1]
    refine J_iconst (v := 1) dX12_hold_15 (by decide) ?_
    refine J_iadd dX12_hold_16 ?_
    rw [nI_1]
    refine M_putI dX12_hold_17 pX12_223 rfl rfl (by decide) ?_
    refine J_iload_n dX12_hold_20 rfl ?_
    refine J_bipush (v := 48) dX12_hold_21 (by decide) ?_
    refine J_icmp_eq (tgt := 32) dX12_hold_23 (by decide) (fun c1 => ?_) (fun c1 => ?_)
    · -- to 32
      exact absurd c1 (by decide)
    · -- on 26
      refine J_iload_n dX12_hold_26 rfl ?_
      refine J_bipush (v := 40) dX12_hold_27 (by decide) ?_
      refine J_icmp_ne (tgt := 42) dX12_hold_29 (by decide) (fun c2 => ?_) (fun c2 => ?_)
      · -- to 42
        refine M_vret dX12_hold_42 rfl ?_
        have hp := hc.push ho hl hb
        rw [wr_id (j := 37) (by rw [rd3 (by decide), rd2 (by decide)]; exact hc.2.2.2.2.2.2.2.2.2.2.1)] at hp
        exact h _ hp
      · -- on 32
        exact absurd c2 (by decide)
  ·
    refine J_aload_n dX12_hold_0 rfl ?_
    refine M_getR dX12_hold_1 fX12_72 rfl rfl (by decide) ?_
    refine J_aload_n dX12_hold_4 rfl ?_
    refine M_getI dX12_hold_5 fX12_223 rfl rfl (by decide) ?_
    refine J_iload_n dX12_hold_8 rfl ?_
    refine M_iastE dX12_hold_9 rfl (by decide) hc.2.2.2.2.2.2.2.2.1 (by omega) ?_
    refine J_aload_n dX12_hold_10 rfl ?_
    refine J_dup dX12_hold_11 rfl ?_
    refine M_getI dX12_hold_12 fX12_223 rfl rfl (by decide) ?_
    rw [rd2 (by decide), hc.2.2.2.2.2.2.2.2.1]
    refine J_iconst (v := 1) dX12_hold_15 (by decide) ?_
    refine J_iadd dX12_hold_16 ?_
    rw [nI_1]
    refine M_putI dX12_hold_17 pX12_223 rfl rfl (by decide) ?_
    refine J_iload_n dX12_hold_20 rfl ?_
    refine J_bipush (v := 48) dX12_hold_21 (by decide) ?_
    refine J_icmp_eq (tgt := 32) dX12_hold_23 (by decide) (fun c1 => ?_) (fun c1 => ?_)
    · -- to 32
      exact absurd c1 (by decide)
    · -- on 26
      refine J_iload_n dX12_hold_26 rfl ?_
      refine J_bipush (v := 40) dX12_hold_27 (by decide) ?_
      refine J_icmp_ne (tgt := 42) dX12_hold_29 (by decide) (fun c2 => ?_) (fun c2 => ?_)
      · -- to 42
        refine M_vret dX12_hold_42 rfl ?_
        have hp := hc.push ho hl hb
        rw [wr_id (j := 37) (by rw [rd3 (by decide), rd2 (by decide)]; exact hc.2.2.2.2.2.2.2.2.2.2.1)] at hp
        exact h _ hp
      · -- on 32
        exact absurd c2 (by decide)
  ·
    refine J_aload_n dX12_hold_0 rfl ?_
    refine M_getR dX12_hold_1 fX12_72 rfl rfl (by decide) ?_
    refine J_aload_n dX12_hold_4 rfl ?_
    refine M_getI dX12_hold_5 fX12_223 rfl rfl (by decide) ?_
    refine J_iload_n dX12_hold_8 rfl ?_
    refine M_iastE dX12_hold_9 rfl (by decide) hc.2.2.2.2.2.2.2.2.1 (by omega) ?_
    refine J_aload_n dX12_hold_10 rfl ?_
    refine J_dup dX12_hold_11 rfl ?_
    refine M_getI dX12_hold_12 fX12_223 rfl rfl (by decide) ?_
    rw [rd2 (by decide), hc.2.2.2.2.2.2.2.2.1]
    refine J_iconst (v := 1) dX12_hold_15 (by decide) ?_
    refine J_iadd dX12_hold_16 ?_
    rw [nI_1]
    refine M_putI dX12_hold_17 pX12_223 rfl rfl (by decide) ?_
    refine J_iload_n dX12_hold_20 rfl ?_
    refine J_bipush (v := 48) dX12_hold_21 (by decide) ?_
    refine J_icmp_eq (tgt := 32) dX12_hold_23 (by decide) (fun c1 => ?_) (fun c1 => ?_)
    · -- to 32
      exact absurd c1 (by decide)
    · -- on 26
      refine J_iload_n dX12_hold_26 rfl ?_
      refine J_bipush (v := 40) dX12_hold_27 (by decide) ?_
      refine J_icmp_ne (tgt := 42) dX12_hold_29 (by decide) (fun c2 => ?_) (fun c2 => ?_)
      · -- to 42
        refine M_vret dX12_hold_42 rfl ?_
        have hp := hc.push ho hl hb
        rw [wr_id (j := 37) (by rw [rd3 (by decide), rd2 (by decide)]; exact hc.2.2.2.2.2.2.2.2.2.2.1)] at hp
        exact h _ hp
      · -- on 32
        exact absurd c2 (by decide)
  ·
    refine J_aload_n dX12_hold_0 rfl ?_
    refine M_getR dX12_hold_1 fX12_72 rfl rfl (by decide) ?_
    refine J_aload_n dX12_hold_4 rfl ?_
    refine M_getI dX12_hold_5 fX12_223 rfl rfl (by decide) ?_
    refine J_iload_n dX12_hold_8 rfl ?_
    refine M_iastE dX12_hold_9 rfl (by decide) hc.2.2.2.2.2.2.2.2.1 (by omega) ?_
    refine J_aload_n dX12_hold_10 rfl ?_
    refine J_dup dX12_hold_11 rfl ?_
    refine M_getI dX12_hold_12 fX12_223 rfl rfl (by decide) ?_
    rw [rd2 (by decide), hc.2.2.2.2.2.2.2.2.1]
    refine J_iconst (v := 1) dX12_hold_15 (by decide) ?_
    refine J_iadd dX12_hold_16 ?_
    rw [nI_1]
    refine M_putI dX12_hold_17 pX12_223 rfl rfl (by decide) ?_
    refine J_iload_n dX12_hold_20 rfl ?_
    refine J_bipush (v := 48) dX12_hold_21 (by decide) ?_
    refine J_icmp_eq (tgt := 32) dX12_hold_23 (by decide) (fun c1 => ?_) (fun c1 => ?_)
    · -- to 32
      refine J_aload_n dX12_hold_32 rfl ?_
      refine J_dup dX12_hold_33 rfl ?_
      refine M_getI dX12_hold_34 fX12_226 rfl rfl (by decide) ?_
      rw [rd3 (by decide), rd2 (by decide), hc.2.2.2.2.2.2.2.2.2.2.1]
      refine J_iconst (v := 1) dX12_hold_37 (by decide) ?_
      refine J_iadd dX12_hold_38 ?_
      rw [nI_1]
      refine M_putI dX12_hold_39 pX12_226 rfl rfl (by decide) ?_
      refine M_vret dX12_hold_42 rfl ?_
      have hp := hc.push ho hl hb
      exact h _ hp
    · -- on 26
      exact absurd c1 (by decide)

def opnF (f : Nat → Int32) : Nat → Bool
  | 0 => false
  | k + 1 => opnF f k || decide (f k = 48)
theorem opn_ws {f : Nat → Int32} : ∀ ws : List Nat, WR f ws → (∀ c ∈ ws, opW c) → (opnF f ws.length = true ↔ 48 ∈ ws)
  | [], _, _ => ⟨fun q => absurd (show false = true from q) (by decide), fun q => absurd q (by simp)⟩
  | c :: r, hw, ho => by
    have hc := ho c (List.mem_cons_self ..)
    unfold opW at hc
    rw [List.length_cons, opnF, Bool.or_eq_true, opn_ws r hw.2 (fun q hq => ho q (List.mem_cons_of_mem _ hq)), decide_eq_true_eq, hw.1, List.mem_cons]
    constructor
    · rintro (q | q)
      · exact Or.inr q
      · exact Or.inl ((nI_eq (a := c) (b := 48) (by omega) (by decide)).mp q).symm
    · rintro (q | q)
      · right; rw [← q]; rfl
      · exact Or.inl q
set_option maxRecDepth 100000 in
set_option maxHeartbeats 1000000 in
theorem tX12_io_l {d : Nat} {Φ : Option Int32 → Mem → Prop} {N : Mem} {m : Nat} (hw : N.1 62 36 = nI m) (hm : m ≤ 60) (h : Φ (some (if opnF (N.1 82) m = true then 1 else 0)) N) : ∀ l k, k + l = m → JM noRo d mX12_isOpen 4 [some (.ref 62), some (.int (if opnF (N.1 82) k = true then 1 else 0)), some (.int (nI k))] [] N Φ := by
  intro l
  induction l with
  | zero =>
    intro k hk
    refine J_iload_n dX12_isOpen_4 rfl ?_
    refine J_aload_n dX12_isOpen_5 rfl ?_
    refine M_getI dX12_isOpen_6 fX12_223 rfl rfl (by decide) ?_
    rw [hw]
    refine J_icmp_ge (tgt := 39) dX12_isOpen_9 (by decide) (fun c1 => ?_) (fun c1 => ?_)
    · -- to 39
      obtain rfl : k = m := by omega
      refine J_iload_n dX12_isOpen_39 rfl ?_
      refine M_zret dX12_isOpen_40 rfl (by first | assumption | exact Or.inl rfl | exact Or.inr rfl | exact ite01 _) ?_
      exact h
    · -- on 12
      exact absurd (nI_le (by omega) (by omega)) c1
  | succ l ih =>
    intro k hk
    rcases hb : opnF (N.1 82) k with _ | _
    · rw [if_neg (by decide)]
      refine J_iload_n dX12_isOpen_4 rfl ?_
      refine J_aload_n dX12_isOpen_5 rfl ?_
      refine M_getI dX12_isOpen_6 fX12_223 rfl rfl (by decide) ?_
      rw [hw]
      refine J_icmp_ge (tgt := 39) dX12_isOpen_9 (by decide) (fun c1 => ?_) (fun c1 => ?_)
      · -- to 39
        exact absurd c1 (nI_ge (by omega) (by omega))
      · -- on 12
        refine J_iload_n dX12_isOpen_12 rfl ?_
        refine J_if_ne (tgt := 27) dX12_isOpen_13 (by decide) (fun c2 => ?_) (fun c2 => ?_)
        · -- to 27
          exact absurd c2 (by decide)
        · -- on 16
          refine J_aload_n dX12_isOpen_16 rfl ?_
          refine M_getR dX12_isOpen_17 fX12_72 rfl rfl (by decide) ?_
          refine J_iload_n dX12_isOpen_20 rfl ?_
          refine M_ialdE dX12_isOpen_21 rfl (by decide) (by first | rfl | assumption) (by omega) ?_
          refine J_bipush (v := 48) dX12_isOpen_22 (by decide) ?_
          refine J_icmp_ne (tgt := 31) dX12_isOpen_24 (by decide) (fun c3 => ?_) (fun c3 => ?_)
          · -- to 31
            refine J_iconst (v := 0) dX12_isOpen_31 (by decide) ?_
            refine J_istore_n dX12_isOpen_32 (by decide) rfl ?_
            dsimp only [setL]
            refine J_iinc (v := nI (k + 1)) dX12_isOpen_33 rfl (nI_1 k) (by decide) rfl ?_
            dsimp only [setL]
            refine J_goto (tgt := 4) dX12_isOpen_36 (by decide) ?_
            have z := ih (k + 1) (by omega)
            first
            | (rw [opnF, hb, Bool.false_or, decide_eq_true c3, if_pos rfl] at z; exact z)
            | (rw [opnF, hb, Bool.false_or, decide_eq_false c3, if_neg (by decide)] at z; exact z)
          · -- on 27
            refine J_iconst (v := 1) dX12_isOpen_27 (by decide) ?_
            refine J_goto (tgt := 32) dX12_isOpen_28 (by decide) ?_
            refine J_istore_n dX12_isOpen_32 (by decide) rfl ?_
            dsimp only [setL]
            refine J_iinc (v := nI (k + 1)) dX12_isOpen_33 rfl (nI_1 k) (by decide) rfl ?_
            dsimp only [setL]
            refine J_goto (tgt := 4) dX12_isOpen_36 (by decide) ?_
            have z := ih (k + 1) (by omega)
            first
            | (rw [opnF, hb, Bool.false_or, decide_eq_true c3, if_pos rfl] at z; exact z)
            | (rw [opnF, hb, Bool.false_or, decide_eq_false c3, if_neg (by decide)] at z; exact z)
    · rw [if_pos rfl]
      refine J_iload_n dX12_isOpen_4 rfl ?_
      refine J_aload_n dX12_isOpen_5 rfl ?_
      refine M_getI dX12_isOpen_6 fX12_223 rfl rfl (by decide) ?_
      rw [hw]
      refine J_icmp_ge (tgt := 39) dX12_isOpen_9 (by decide) (fun c1 => ?_) (fun c1 => ?_)
      · -- to 39
        exact absurd c1 (nI_ge (by omega) (by omega))
      · -- on 12
        refine J_iload_n dX12_isOpen_12 rfl ?_
        refine J_if_ne (tgt := 27) dX12_isOpen_13 (by decide) (fun c2 => ?_) (fun c2 => ?_)
        · -- to 27
          refine J_iconst (v := 1) dX12_isOpen_27 (by decide) ?_
          refine J_goto (tgt := 32) dX12_isOpen_28 (by decide) ?_
          refine J_istore_n dX12_isOpen_32 (by decide) rfl ?_
          dsimp only [setL]
          refine J_iinc (v := nI (k + 1)) dX12_isOpen_33 rfl (nI_1 k) (by decide) rfl ?_
          dsimp only [setL]
          refine J_goto (tgt := 4) dX12_isOpen_36 (by decide) ?_
          have z := ih (k + 1) (by omega)
          rw [opnF, hb, Bool.true_or, if_pos rfl] at z
          exact z
        · -- on 16
          exact absurd c2 (by decide)
set_option maxRecDepth 100000 in
set_option maxHeartbeats 1000000 in
theorem tX12_isOpen {d : Nat} {Φ : Option Int32 → Mem → Prop} {M0 N : Mem} {n : Nat} {x : PSt} {ws : List Nat} (hc : PQ M0 N n x ws) (h1 : 48 ∈ ws → Φ (some 1) N) (h0 : ¬ 48 ∈ ws → Φ (some 0) N) : JM noRo d mX12_isOpen 0 [some (.ref 62)] [] N Φ := by
  refine J_iconst (v := 0) dX12_isOpen_0 (by decide) ?_
  refine J_istore_n dX12_isOpen_1 (by decide) rfl ?_
  dsimp only [setL]
  refine J_iconst (v := 0) dX12_isOpen_2 (by decide) ?_
  refine J_istore_n dX12_isOpen_3 (by decide) rfl ?_
  dsimp only [setL]
  refine tX12_io_l hc.2.2.2.2.2.2.2.2.1 hc.2.2.2.2.2.2.2.2.2.2.2.2.2.2.1 ?_ ws.length 0 (by omega)
  have z := opn_ws ws hc.2.2.2.2.2.2.2.2.2.1 hc.2.2.2.2.2.2.2.2.2.2.2.2.2.1
  by_cases q : 48 ∈ ws
  · rw [if_pos (z.mpr q)]; exact h1 q
  · rw [if_neg (fun e => q (z.mp e))]; exact h0 q
